/-! the law's frame: what it wants besides, over the layer of making, where the world is the system's list -/
section Lr
variable {K : zK} {G : zG} {A : Nat → Prop} {cc : ByteArray} {own : String} {nL fr lo mc ms : Nat} {pc : Nat} {lv lv' : List (Nat × Value)} {rest st : List Value} {ws : va_W} {k n k' n' : Nat}
theorem k_iload (hK : kC K G A cc own nL fr lo mc ms) (j : Nat) {i : Nat} {x : Int32} (hdg : decode cc pc = .ok (.iload i, 2)) (hj : lv[j]? = some (i, .int x)) (c : kW K G A nL (pc + 2) lv (.int x :: rest) ws k n) : kW K G A nL pc lv rest ws k n := by
  obtain ⟨p, l, e, R, s, m, args, below, meth, c0, Q⟩ := K
  exact fun H locs ls hP hD hS hl => lv_iload hK.1 hK.2.1 hdg (lv_at hl j hj) (c H locs ls hP hD hS hl)
theorem k_iand (hK : kC K G A cc own nL fr lo mc ms) {x y : Int32} (hdg : decode cc pc = .ok (.iand, 1)) (c : kW K G A nL (pc + 1) lv (.int (x &&& y) :: rest) ws k n) : kW K G A nL pc lv (.int y :: .int x :: rest) ws k n := by
  obtain ⟨p, l, e, R, s, m, args, below, meth, c0, Q⟩ := K
  exact fun H locs ls hP hD hS hl => lv_iand hK.1 hK.2.1 hdg (c H locs ls hP hD hS hl)
theorem k_i2l (hK : kC K G A cc own nL fr lo mc ms) {x : Int32} (hdg : decode cc pc = .ok (.i2l, 1)) (c : kW K G A nL (pc + 1) lv (.long x.toInt64 :: rest) ws k n) : kW K G A nL pc lv (.int x :: rest) ws k n := by
  obtain ⟨p, l, e, R, s, m, args, below, meth, c0, Q⟩ := K
  exact fun H locs ls hP hD hS hl => lv_i2l hK.1 hK.2.1 hdg rfl (c H locs ls hP hD hS hl)
theorem k_lshl (hK : kC K G A cc own nL fr lo mc ms) {x : Int64} {y : Int32} (hdg : decode cc pc = .ok (.lshl, 1)) (c : kW K G A nL (pc + 1) lv (.long (x <<< (y.toInt64 &&& 63)) :: rest) ws k n) : kW K G A nL pc lv (.int y :: .long x :: rest) ws k n := by
  obtain ⟨p, l, e, R, s, m, args, below, meth, c0, Q⟩ := K
  exact fun H locs ls hP hD hS hl => lv_lshl hK.1 hK.2.1 hdg rfl (c H locs ls hP hD hS hl)
theorem k_ldc2 (hK : kC K G A cc own nL fr lo mc ms) {index : Nat} {v : Int64} (hw : Cond.constantLong own index v ∈ zTb) (hdg : decode cc pc = .ok (.ldc2_w index, 3)) (c : kW K G A nL (pc + 3) lv (.long v :: rest) ws k n) : kW K G A nL pc lv rest ws k n := by
  obtain ⟨p, l, e, R, s, m, args, below, meth, c0, Q⟩ := K
  exact fun H locs ls hP hD hS hl => lv_ldc2 hK.1 hK.2.1 hK.2.2.2.1 (hK.2.2.2.2.1 _ hw) hdg (c H locs ls hP hD hS hl)
theorem k_land (hK : kC K G A cc own nL fr lo mc ms) {x y : Int64} (hdg : decode cc pc = .ok (.land, 1)) (c : kW K G A nL (pc + 1) lv (.long (x &&& y) :: rest) ws k n) : kW K G A nL pc lv (.long y :: .long x :: rest) ws k n := by
  obtain ⟨p, l, e, R, s, m, args, below, meth, c0, Q⟩ := K
  exact fun H locs ls hP hD hS hl => lv_land hK.1 hK.2.1 hdg (c H locs ls hP hD hS hl)
theorem k_lor (hK : kC K G A cc own nL fr lo mc ms) {x y : Int64} (hdg : decode cc pc = .ok (.lor, 1)) (c : kW K G A nL (pc + 1) lv (.long (x ||| y) :: rest) ws k n) : kW K G A nL pc lv (.long y :: .long x :: rest) ws k n := by
  obtain ⟨p, l, e, R, s, m, args, below, meth, c0, Q⟩ := K
  exact fun H locs ls hP hD hS hl => lv_lor hK.1 hK.2.1 hdg (c H locs ls hP hD hS hl)
theorem k_lcmp (hK : kC K G A cc own nL fr lo mc ms) {x y : Int64} (hdg : decode cc pc = .ok (.lcmp, 1)) (c : kW K G A nL (pc + 1) lv (.int (lg_cmp x y) :: rest) ws k n) : kW K G A nL pc lv (.long y :: .long x :: rest) ws k n := by
  obtain ⟨p, l, e, R, s, m, args, below, meth, c0, Q⟩ := K
  exact fun H locs ls hP hD hS hl => W.lcmp hK.1 hK.2.1 hdg (c H locs ls hP hD hS hl)
theorem k_if_eq (hK : kC K G A cc own nL fr lo mc ms) {x : Int32} {off : Int} (tgt : Nat) (hdg : decode cc pc = .ok (.ifCond .eq off, 3)) (ht : (pc : Int) + off = (tgt : Int)) (kt : x = 0 → kW K G A nL tgt lv rest ws k n) (kf : ¬ x = 0 → kW K G A nL (pc + 3) lv rest ws k n) : kW K G A nL pc lv (.int x :: rest) ws k n := by
  obtain ⟨p, l, e, R, s, m, args, below, meth, c0, Q⟩ := K
  exact fun H locs ls hP hD hS hl => lv_if_eq hK.1 hK.2.1 hdg ht (fun z => kt z H locs ls hP hD hS hl) (fun z => kf z H locs ls hP hD hS hl)
theorem k_if_ne (hK : kC K G A cc own nL fr lo mc ms) {x : Int32} {off : Int} (tgt : Nat) (hdg : decode cc pc = .ok (.ifCond .ne off, 3)) (ht : (pc : Int) + off = (tgt : Int)) (kt : ¬ x = 0 → kW K G A nL tgt lv rest ws k n) (kf : x = 0 → kW K G A nL (pc + 3) lv rest ws k n) : kW K G A nL pc lv (.int x :: rest) ws k n := by
  obtain ⟨p, l, e, R, s, m, args, below, meth, c0, Q⟩ := K
  exact fun H locs ls hP hD hS hl => lv_if_ne hK.1 hK.2.1 hdg ht (fun z => kt z H locs ls hP hD hS hl) (fun z => kf z H locs ls hP hD hS hl)
theorem k_icmp_eq (hK : kC K G A cc own nL fr lo mc ms) {x y : Int32} {off : Int} (tgt : Nat) (hdg : decode cc pc = .ok (.if_icmp .eq off, 3)) (ht : (pc : Int) + off = (tgt : Int)) (kt : x = y → kW K G A nL tgt lv rest ws k n) (kf : ¬ x = y → kW K G A nL (pc + 3) lv rest ws k n) : kW K G A nL pc lv (.int y :: .int x :: rest) ws k n := by
  obtain ⟨p, l, e, R, s, m, args, below, meth, c0, Q⟩ := K
  exact fun H locs ls hP hD hS hl => lv_icmp_eq hK.1 hK.2.1 hdg ht (fun z => kt z H locs ls hP hD hS hl) (fun z => kf z H locs ls hP hD hS hl)
theorem k_icmp_gt (hK : kC K G A cc own nL fr lo mc ms) {x y : Int32} {off : Int} (tgt : Nat) (hdg : decode cc pc = .ok (.if_icmp .gt off, 3)) (ht : (pc : Int) + off = (tgt : Int)) (kt : y < x → kW K G A nL tgt lv rest ws k n) (kf : ¬ y < x → kW K G A nL (pc + 3) lv rest ws k n) : kW K G A nL pc lv (.int y :: .int x :: rest) ws k n := by
  obtain ⟨p, l, e, R, s, m, args, below, meth, c0, Q⟩ := K
  exact fun H locs ls hP hD hS hl => lv_icmp_gt hK.1 hK.2.1 hdg ht (fun z => kt z H locs ls hP hD hS hl) (fun z => kf z H locs ls hP hD hS hl)
theorem k_tableIn (hK : kC K G A cc own nL fr lo mc ms) {dflt lw hi : Int} {offs : Array Int} {len : Nat} {x : Int32} {off : Int} (tgt : Nat) (hdg : decode cc pc = .ok (.tableswitch dflt lw hi offs, len)) (h1 : ¬ x.toInt < lw) (h2 : ¬ hi < x.toInt) (ho : offs[(x.toInt - lw).toNat]? = some off) (ht : (pc : Int) + off = (tgt : Int)) (c : kW K G A nL tgt lv rest ws k n) : kW K G A nL pc lv (.int x :: rest) ws k n := by
  obtain ⟨p, l, e, R, s, m, args, below, meth, c0, Q⟩ := K
  exact fun H locs ls hP hD hS hl => lv_tableIn hK.1 hK.2.1 hdg h1 h2 ho ht (c H locs ls hP hD hS hl)
theorem k_tableOut (hK : kC K G A cc own nL fr lo mc ms) {dflt lw hi : Int} {offs : Array Int} {len : Nat} {x : Int32} (tgt : Nat) (hdg : decode cc pc = .ok (.tableswitch dflt lw hi offs, len)) (h : x.toInt < lw ∨ hi < x.toInt) (ht : (pc : Int) + dflt = (tgt : Int)) (c : kW K G A nL tgt lv rest ws k n) : kW K G A nL pc lv (.int x :: rest) ws k n := by
  obtain ⟨p, l, e, R, s, m, args, below, meth, c0, Q⟩ := K
  exact fun H locs ls hP hD hS hl => lv_tableOut hK.1 hK.2.1 hdg h ht (c H locs ls hP hD hS hl)
theorem k_widen (h1 : k ≤ k') (h2 : n ≤ n') (c : kW K G A nL pc lv st ws k' n') : kW K G A nL pc lv st ws k n := by
  obtain ⟨p, l, e, R, s, m, args, below, meth, c0, Q⟩ := K
  exact fun H locs ls hP hD hS hl => W.widen h1 h2 (c H locs ls hP hD hS hl)
theorem k_lald (hK : kC K G A cc own nL fr lo mc ms) {h : zH} {t N : Nat} {i : Int32} (ht : zT t = (21, N)) (hi : zin i N = true) (hdg : decode cc pc = .ok (.laload, 1)) (c : kW K G A nL (pc + 1) lv (.long (h.2 t (zx i)) :: rest) (zL G h) k n) : kW K G A nL pc lv (.int i :: .ref (G.2.2.2 t) :: rest) (zL G h) k n := by
  obtain ⟨p, l, e, R, s, m, args, below, meth, c0, Q⟩ := K
  obtain ⟨hx, hb, hml, hown, hts, hE, hfr, hlo, hmc, hms, hA⟩ := id hK
  have htl : t < zN := zT_lt ht (by show 21 ≠ 99; omega)
  exact fun H locs ls hP hD hS hl => va_lald hx hb hE.1 hP t 1 (by rw [zL_get G h htl, zcell_l G h ht]) rfl (zin_vp hi) hdg (c H locs ls hP hD hS hl)
end Lr
/-- all that is new since the law began -/
def lA (K : zK) : Nat → Prop := fun q => K.2.2.2.2.1.heap.size ≤ q
/-- what a throw wants of the world -/
def xNSE : String := "java/util/NoSuchElementException"
def xS (A : Nat → Prop) (U : State) (H : Heap) : Prop := vx_Zq Bundle.tN "UNASSIGNED_STACK" Bundle.steD A U H ∧ vx_Zq Bundle.tN "SUPPRESSED_SENTINEL" Bundle.listD A U H ∧ va_Nw (.declares (Bundle.init0 "java/lang/RuntimeException")) U ∧ va_Nw (.declares (Bundle.init0 "java/lang/Exception")) U ∧ va_Nw (.declares (Bundle.init0 Bundle.tN)) U ∧ va_Nw (.castable xNSE xNSE) U
theorem xS_call {A B : Nat → Prop} {s U : State} {H : Heap} {locs : List Loc} (h : xS A s s.heap) (hS : va_S A s.heap H locs) (hW : s.WarmedH U.vm) (hU : U.heap = H) (hAB : ∀ q, B q → A q) : xS B U U.heap := by
  obtain ⟨h1, h2, h3, h4, h5, h6⟩ := h
  rw [hU]
  exact ⟨vx_Zq.narrow (vx_Zq.moved hW.alike (vx_Zq.kept h1 hS.2.1)) hAB, vx_Zq.narrow (vx_Zq.moved hW.alike (vx_Zq.kept h2 hS.2.1)) hAB, va_Nw.warmD hW h3, va_Nw.warmD hW h4, va_Nw.warmD hW h5, va_Nw.warmC hW h6⟩
theorem xS_calling {A : Nat → Prop} {U : State} {g : JFrame} {mk : MethodId} {a : Array Value} (h : xS A U U.heap) : xS A (U.calling g mk a) (U.calling g mk a).heap := by
  obtain ⟨h1, h2, h3, h4, h5, h6⟩ := h
  exact ⟨vx_Zq.moved (u := U) (U := U.calling g mk a) (Vm.Alike.refl U.vm) h1, vx_Zq.moved (u := U) (U := U.calling g mk a) (Vm.Alike.refl U.vm) h2, va_tabs (u := U) (U := U.calling g mk a) rfl rfl h3, va_tabs (u := U) (U := U.calling g mk a) rfl rfl h4, va_tabs (u := U) (U := U.calling g mk a) rfl rfl h5, va_tabs (u := U) (U := U.calling g mk a) rfl rfl h6⟩
/-- the carried world, apart from all that A names -/
def zSA (A : Nat → Prop) (G : zG) (U : State) (H : Heap) : Prop := vk_S 2 zlen zbyt G.2.2.1.2.1 G.2.2.1.2.2.1 A U H ∧ vk_R "VoteAgainst$Tape" 49 zt0 (zk G 0) U ∧ vk_R "VoteAgainst$Tape" 60 zt1 (zk G 1) U ∧ va_Z "java/lang/String" "COMPACT_STRINGS" "Z" (.int 1) A U H ∧ va_Z "jdk/internal/util/Preconditions" "SIOOBE_FORMATTER" "Ljava/util/function/BiFunction;" (zsv G) A U H ∧ ∀ x ∈ zDc, va_Nw (.declares x) U
theorem zSA_call {A : Nat → Prop} {G : zG} {s U : State} {H : Heap} {locs : List Loc} (h : zSA A G s s.heap) (hS : va_S A s.heap H locs) (hW : s.WarmedH U.vm) (hU : U.heap = H) (hAB : ∀ q, zA G q → A q) : zS G U U.heap := by
  obtain ⟨h1, h2, h3, h4, h5, h6⟩ := h
  rw [hU]
  exact ⟨((h1.kept hS.2.1).moved hW.alike).narrow hAB, h2.warm hW, h3.warm hW, ((h4.kept hS.2.1).moved hW.alike).narrow hAB, ((h5.kept hS.2.1).moved hW.alike).narrow hAB, fun x hx => va_Nw.warmD hW (h6 x hx)⟩
/-- what holds of the law's frame besides: the objects are new, the script of L ints -/
def lX (K : zK) (G : zG) (b L : Nat) (xs : Nat → Int32) : Prop := match K with
  | (_, l, _, _, s, _, _, _, _, _, _) => zD G ∧ (∀ t, t < zN → s.heap.size ≤ G.2.2.2 t) ∧ zSA (fun q => s.heap.size ≤ q) G s s.heap ∧ xS (fun q => s.heap.size ≤ q) s s.heap ∧ va_X b L xs s s.heap ∧ b < s.heap.size ∧ l.stackTraces = false
section Lc
variable {K : zK} {G : zG} {cc : ByteArray} {own : String} {nL fr lo mc ms : Nat} {pc : Nat} {lv : List (Nat × Value)} {rest st : List Value} {ws : va_W} {k n b L : Nat} {xs : Nat → Int32} {h h' : zH}
theorem k_sld (hK : kC K G (lA K) cc own nL fr lo mc ms) (hX : lX K G b L xs) {i : Int32} (hi : zin i L = true) (hdg : decode cc pc = .ok (.iaload, 1)) (c : kW K G (lA K) nL (pc + 1) lv (.int (xs (zx i)) :: rest) ws k n) : kW K G (lA K) nL pc lv (.int i :: .ref b :: rest) ws k n := by
  obtain ⟨p, l, e, R, s, m, args, below, meth, c0, Q⟩ := K
  obtain ⟨g1, g2, g3, g4, g5, g6, g7⟩ := hX
  exact fun H locs ls hP hD hS hl => va_sld hK.1 hK.2.1 g5 g6 (Nat.not_le.mpr g6) hS (zin_vp hi) hdg (c H locs ls hP hD hS hl)
theorem k_slen (hK : kC K G (lA K) cc own nL fr lo mc ms) (hX : lX K G b L xs) (hdg : decode cc pc = .ok (.arraylength, 1)) (c : kW K G (lA K) nL (pc + 1) lv (.int (nI L) :: rest) ws k n) : kW K G (lA K) nL pc lv (.ref b :: rest) ws k n := by
  obtain ⟨p, l, e, R, s, m, args, below, meth, c0, Q⟩ := K
  obtain ⟨g1, g2, g3, g4, g5, g6, g7⟩ := hX
  exact fun H locs ls hP hD hS hl => va_slen hK.1 hK.2.1 g5 g6 (Nat.not_le.mpr g6) hS hdg (c H locs ls hP hD hS hl)
theorem l_D (hX : lX K G b L xs) (h : zH) : va_D (lA K) (zL G h) := by
  obtain ⟨p, l, e, R, s, m, args, below, meth, c0, Q⟩ := K
  obtain ⟨g1, g2, g3, g4, g5, g6, g7⟩ := hX
  exact (zD_va g1 h).weaken (fun i q hq hz => by obtain ⟨t, ht, e⟩ := hz; show s.heap.size ≤ q.1; rw [← e]; exact g2 t ht)
/-- a call of a method whose contract is of the z-layer -/
theorem l_callV (hK : kC K G (lA K) cc own nL fr lo mc ms) (hX : lX K G b L xs) {y : MethodName} {bytes : ByteArray} {maxL fr' lo' ci np n0 index t : Nat} {ret' : Option FieldType} (As : List Value) {rv : Option Value} (hM : zM K.2.1 G y bytes maxL ret' fr' lo' (.ref (G.2.2.2 t) :: As) h rv h') (hv : zVf y bytes maxL ret' ci np) (hl : Cond.methodLink own index y ∈ zTb) (ht : zT t = (ci, n0)) (hn : As.length = np) (rest : List Value) (hst : st = As.reverse ++ .ref (G.2.2.2 t) :: rest) (hr : (rest.map fun v => v.category).sum ≤ 8) (hR : fr' + 1 ≤ fr ∧ 8 + (maxL + 11) + lo' ≤ lo) (hdg : decode cc pc = .ok (.invokevirtual index, 3)) (hkm : k ≤ mc) (hnm : n ≤ ms) (c : kW K G (lA K) nL (pc + 3) lv (rv.toList ++ rest) (zL G h') k n) : kW K G (lA K) nL pc lv st (zL G h) k n := by
  have hDn := l_D hX h'
  obtain ⟨p, l, e, R, s, m, args, below, meth, c0, Q⟩ := K
  obtain ⟨hx, hb, hml, hown, hts, hE, hfr, hlo, hmc, hms, hA⟩ := id hK
  obtain ⟨g1, g2, g3, g4, g5, g6, g7⟩ := hX
  obtain ⟨T, N, hlt, hc, w1, w2, w3, w4, hd⟩ := hv
  have htl : t < zN := zT_lt ht (by show ci ≠ 99; omega)
  have hAG : ∀ q, zA G q → s.heap.size ≤ q := fun q hz => by obtain ⟨t, ht, e⟩ := hz; rw [← e]; exact g2 t ht
  intro H locs ls hP hD hS hlv
  have he : (zL G h)[t]? = some (G.2.2.2 t, .inr (ci, zobj G h t 0 (zF ci))) := by rw [zL_get G h htl, zcell_obj G h ht hlt]
  have hrun := va_runV (p := p) (e := e) (below := below) (meth := meth) (H := H) (locs := locs) (cells := k) (slots := n) (C := y.cls) (b := G.2.2.2 t) (As := As) (rest := rest) (g := F0 m pc ls st) ⟨hx, hb, hml, hown, hts⟩ hM
    (cwV np hts (zgoodIn (fun w h => by
      rcases List.mem_append.mp h with h | h
      · simp only [List.mem_cons, List.not_mem_nil, or_false] at h
        rcases h with rfl | rfl | rfl | rfl
        · exact hl
        · exact w1
        · exact w2
        · exact w3
      · rcases List.mem_cons.mp h with rfl | h
        · exact w4
        · exact h)) rfl rfl rfl ⟨rfl, hd⟩ ⟨Nat.le_trans hR.1 hfr, Nat.le_trans hR.2 hlo⟩)
    ⟨z_blind, va_recv hE.1 hP hc he, fun U hU hW => ⟨rfl, by rw [hU]; exact hP, va_K.moved hW.alike hE.1, zSA_call g3 hS hW hU hAG⟩⟩ rfl hn hlv.1 hst (lv_room hr) hdg ⟨Nat.le_trans hkm hmc, Nat.le_trans hnm hms⟩
  intro T hT X
  obtain ⟨v, st₀, t9, T', L9, h0, X', hL, e1, e2, ⟨⟨ho, hb9⟩, hz, hk⟩, stp⟩ := hrun T hT X
  cases ho
  rw [h0] at hz hk
  obtain ⟨t2, a1, b1⟩ := c T'.heap (locs ++ L9) ls (by rw [e1]; exact hb9) hDn
    ⟨Nat.le_trans hS.1 (by rw [e1]; exact hz), fun q h1 h2 => by rw [e1, hk q (Nat.lt_of_lt_of_le h1 hS.1) (fun z => h2 (hAG q z))]; exact hS.2.1 q h1 h2, fun q hq => by
      rcases List.mem_append.mp hq with h | h
      · exact hS.2.2 q h
      · exact hAG _ (hL q h)⟩ hlv T' rfl X'
  exact ⟨t2, stp t2 a1, b1⟩
end Lc
