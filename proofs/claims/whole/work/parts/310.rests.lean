/-! rests: the class's, as a function; none: it throws -/
theorem gain_t (h : zH) (a b c x y : Int32) : ∃ r, g_X11_gain h a b c x y = some r := by
  unfold g_X11_gain
  split
  · exact ⟨_, rfl⟩
  · split <;> exact ⟨_, rfl⟩
theorem rest_t (h : zH) (a b c i : Int32) : ∃ r, g_X11_isAtRest h a b c i = some r := by
  unfold g_X11_isAtRest
  rw [zlet_e]
  obtain ⟨r1, e1⟩ := gain_t h a b c (i / 2) (i - i / 2 * 2)
  obtain ⟨r2, e2⟩ := gain_t h a b c (1 - i / 2) (i - i / 2 * 2)
  obtain ⟨r3, e3⟩ := gain_t h a b c (i - i / 2 * 2) (i / 2)
  obtain ⟨r4, e4⟩ := gain_t h a b c (1 - (i - i / 2 * 2)) (i / 2)
  rw [e1, zbind_s, e2, zbind_s, e3, zbind_s, e4, zbind_s]
  split
  · exact ⟨_, rfl⟩
  · split <;> exact ⟨_, rfl⟩
def aR (h : zH) (a b c i : Int32) : Bool := (g_X11_isAtRest h a b c i).getD false
theorem aR_s (h : zH) (a b c i : Int32) : g_X11_isAtRest h a b c i = some (aR h a b c i) := by
  obtain ⟨r, e⟩ := rest_t h a b c i
  unfold aR
  rw [e]
  rfl
def dG (h : zH) (x : Int32) : Bool := (g_X11_isDigit h x).getD false
theorem dG_s (h : zH) (x : Int32) : g_X11_isDigit h x = some (dG h x) := by
  unfold dG g_X11_isDigit
  split
  · rfl
  · split <;> rfl
def rLoop (h : zH) (a b c w : Int32) : Nat → Nat → Int32 → Option Int32
  | 0, _, num => if w = -1 then some num else none
  | n + 1, i, num => if zb (aR h a b c (nI i)) = 0 then rLoop h a b c w n (i + 1) num else if num = w then some (nI i) else rLoop h a b c w n (i + 1) (num + 1)
def gRests (h : zH) (a b c w : Int32) : Option Int32 := if zb (dG h a) = 0 then none else if zb (dG h b) = 0 then none else if zb (dG h c) = 0 then none else if w < -1 then none else rLoop h a b c w 4 0 0
/-- the law's own of it -/
def gL (h : zH) (a b c w : Int32) : Int32 × zH := match gRests h a b c w with
  | none => (1, h)
  | some v => (0, zpl h 177 0 v.toInt64)
abbrev xQ (G : zG) (h : zH) (g : Option Int32) : Array Value → State → Outcome → State → Prop := va_Qi (fun (r : Int32) (_ : Unit) => g = some r) (fun _ t => zP G h t.heap) (zA G)
abbrev xX (G : zG) (h : zH) (g : Option Int32) : String → State → State → Prop := vx_X (fun _ : Unit => g = none) (fun E _ t => E = xNSE ∧ zP G h t.heap) (zA G)
def xE (K : zK) (G : zG) (h : zH) (g : Option Int32) : Prop := match K with
  | (_, _, _, _, s, _, args, below, _, _, Q) => Q = vx_MQ below (xQ G h g) (xX G h g) args s 1 6 (zA G)
def xC (K : zK) (G : zG) : Prop := match K with
  | (_, l, _, R, s, _, _, _, _, c, _) => l.stackTraces = false ∧ (∀ x ∈ c.exceptionTable.toList, False) ∧ 1 ≤ R.cells ∧ 6 ≤ R.slots ∧ xS (zA G) s s.heap
def xN : List Cond := [.declares (Bundle.init0 "java/lang/RuntimeException"), .declares (Bundle.init0 "java/lang/Exception"), .declares (Bundle.init0 Bundle.tN), .castable xNSE xNSE]
theorem x_good : ∀ w ∈ (vx_at0 RX11 262 xNSE ["java/lang/RuntimeException", "java/lang/Exception"]).filter goodWord, w ∈ lw_tbl := by decide +kernel
theorem x_rest : ∀ w ∈ (vx_at0 RX11 262 xNSE ["java/lang/RuntimeException", "java/lang/Exception"]).filter (fun w => !goodWord w), w ∈ xN := by decide +kernel
theorem x_ot : ∀ w ∈ Cond.classLink RX11 260 xNSE :: Cond.initialized xNSE :: vx_at0 RX11 262 xNSE ["java/lang/RuntimeException", "java/lang/Exception"], vx_ot w = true := by decide +kernel
theorem x_fit : Bundle.fit xNSE = true := by decide +kernel
theorem x_fits : ∀ n ∈ ["java/lang/RuntimeException", "java/lang/Exception"], Bundle.fit n = true := by decide +kernel
theorem x_hat {args : Array Value} {s : State} {A : Nat → Prop} (hts : ∀ w ∈ zTb, w.before args s = true) (hx : xS A s s.heap) : ∀ w ∈ vx_at0 RX11 262 xNSE ["java/lang/RuntimeException", "java/lang/Exception"], w.before args s = true := by
  obtain ⟨h1, h2, h3, h4, h5, h6⟩ := hx
  exact vx_hat (fun w hw => hts w (zTb_m (x_good w hw) (List.mem_filter.mp hw).2)) x_rest (vx_c (va_Nw.use rfl h3) (vx_c (va_Nw.use rfl h4) (vx_c (va_Nw.use rfl h5) (vx_c (va_Nw.use rfl h6) vx_n))))
section Xr
variable {K : zK} {G : zG} {pc : Nat} {lv : List (Nat × Value)} {h : zH}
theorem x_ret (hK : zC K G cX11_rests RX11 7 6 81 (some .int)) {v : Int32} (hE : xE K G h (some v)) (hdg : decode cX11_rests pc = .ok (.ireturn, 1)) : zW K G 7 pc lv [.int v] h := by
  obtain ⟨p, l, e, R, s, m, args, below, meth, c, Q⟩ := K
  obtain ⟨hx, hb, hml, hown, hts, hva, hG, hfr, hlo, hrt, hlk, -⟩ := id hK
  cases hE
  exact fun H locs ls hP hS hlv => vx_ret (W.widen (k := 1) (n := 6) (by decide) (by decide) (W.iret hx hb hrt (fun t ht hW => ⟨⟨v, (), rfl, rfl, by show zP G h t.heap; rw [ht]; exact hP⟩, hS.F ht⟩) hS.2.2 hdg hlk))
theorem x_throw (hK : zC K G cX11_rests RX11 7 6 81 (some .int)) (hC : xC K G) (hE : xE K G h none) (d0 : decode cX11_rests pc = .ok (.new 260, 3)) (d3 : decode cX11_rests (pc + 3) = .ok (.dup, 1)) (d4 : decode cX11_rests (pc + 4) = .ok (.invokespecial 262, 3)) (d7 : decode cX11_rests (pc + 7) = .ok (.athrow, 1)) : zW K G 7 pc lv [] h := by
  obtain ⟨p, l, e, R, s, m, args, below, meth, c, Q⟩ := K
  obtain ⟨hx, hb, hml, hown, hts, hva, hG, hfr, hlo, hrt, hlk, -⟩ := id hK
  obtain ⟨hl, htab, hc1, hs6, hXS⟩ := hC
  cases hE
  intro H locs ls hP hS hlv
  refine vx_throw0 (own := RX11) (cls := xNSE) (names := ["java/lang/RuntimeException", "java/lang/Exception"]) (ik := 260) (ic := 262) (A := zA G) hx hb hl hown x_fit x_fits (hts _ qx_cl) (hts _ qx_in) (x_hat hts hXS) x_ot hXS.1 hXS.2.1 hS (hlv.1.trans hml.symm) d0 d3 d4 d7 (fun x hx => (htab x hx).elim) ?_ ?_ ?_ ?_ hlk ?_ hS.2.2 (by decide) (by decide)
  · show 2 + 3 < R.frames
    omega
  · show 0 + (13 * (2 + 1) + 42) ≤ R.locals
    omega
  · omega
  · omega
  · exact fun t _ hz hk => ⟨(), rfl, ⟨rfl, fun i q hq => (hP i q hq).kept (hk q.1 (hP i q hq).lt)⟩, Nat.le_trans hS.1 hz, fun q h1 h2 => by rw [hk q (Nat.lt_of_lt_of_le h1 hS.1)]; exact hS.2.1 q h1 h2⟩
set_option maxHeartbeats 2000000 in
theorem x_loop (hK : zC K G cX11_rests RX11 7 6 81 (some .int)) (hC : xC K G) {a b c w : Int32} : ∀ n i num, i + n = 4 → xE K G h (rLoop h a b c w n i num) → zW K G 7 41 [(6, .int (nI i)), (5, .int num), (0, .ref (G.2.2.2 0)), (1, .int a), (2, .int b), (3, .int c), (4, .int w)] [] h := by
  intro n
  induction n with
  | zero =>
    intro i num hi hE
    have : i = 4 := by omega
    subst this
    refine z_iload hK 0 dX11_rests_41 rfl ?_
    refine z_iconst (v := 4) hK dX11_rests_43 (by decide) ?_
    refine z_icmp_ge hK 77 dX11_rests_44 (by decide) (fun _ => ?_) (fun q => absurd (by decide) q)
    refine z_iload hK 6 dX11_rests_77 rfl ?_
    refine z_iconst (v := -1) hK dX11_rests_79 (by decide) ?_
    rw [rLoop] at hE
    refine z_icmp_eq hK 91 dX11_rests_80 (by decide) (fun q => ?_) (fun q => ?_)
    · rw [if_pos q] at hE
      exact z_iload hK 1 dX11_rests_91 rfl (x_ret hK hE dX11_rests_93)
    · rw [if_neg q] at hE
      exact x_throw hK hC hE dX11_rests_83 dX11_rests_86 dX11_rests_87 dX11_rests_90
  | succ n ih =>
    intro i num hi hE
    refine z_iload hK 0 dX11_rests_41 rfl ?_
    refine z_iconst (v := 4) hK dX11_rests_43 (by decide) ?_
    refine z_icmp_ge hK 77 dX11_rests_44 (by decide) (fun q => absurd q (by rw [zleL_4 (by omega)]; omega)) (fun _ => ?_)
    refine z_iload_n hK 3 dX11_rests_47 rfl ?_
    refine z_iload_n hK 4 dX11_rests_48 rfl ?_
    refine z_iload_n hK 5 dX11_rests_49 rfl ?_
    refine z_iload hK 0 dX11_rests_50 rfl ?_
    refine z_callSi hK [.int a, .int b, .int c, .int (nI i)] (m_X11_isAtRest (zC_D hK) (aR_s h a b c (nI i))) ss_X11_isAtRest qx_263 rfl [] rfl (Nat.le_of_ble_eq_true rfl) ⟨by decide, by decide⟩ dX11_rests_52 ?_
    rw [rLoop] at hE
    refine z_if_eq hK 71 dX11_rests_55 (by decide) (fun q => ?_) (fun q => ?_)
    · rw [if_pos q] at hE
      refine z_iinc (v := nI (i + 1)) (lv' := [(6, .int (nI (i + 1))), (5, .int num), (0, .ref (G.2.2.2 0)), (1, .int a), (2, .int b), (3, .int c), (4, .int w)]) hK 0 dX11_rests_71 rfl (nI_1 i) (by decide) rfl ?_
      exact z_goto hK 41 dX11_rests_74 (by decide) (ih (i + 1) num (by omega) hE)
    · rw [if_neg q] at hE
      refine z_iload hK 1 dX11_rests_58 rfl ?_
      refine z_iload hK 6 dX11_rests_60 rfl ?_
      refine z_icmp_ne hK 68 dX11_rests_62 (by decide) (fun q2 => ?_) (fun q2 => ?_)
      · rw [if_neg q2] at hE
        refine z_iinc (v := num + 1) (lv' := [(5, .int (num + 1)), (6, .int (nI i)), (0, .ref (G.2.2.2 0)), (1, .int a), (2, .int b), (3, .int c), (4, .int w)]) hK 1 dX11_rests_68 rfl (zc_n1 num) (by decide) rfl ?_
        refine z_iinc (v := nI (i + 1)) (lv' := [(6, .int (nI (i + 1))), (5, .int (num + 1)), (0, .ref (G.2.2.2 0)), (1, .int a), (2, .int b), (3, .int c), (4, .int w)]) hK 1 dX11_rests_71 rfl (nI_1 i) (by decide) rfl ?_
        exact z_goto hK 41 dX11_rests_74 (by decide) (ih (i + 1) (num + 1) (by omega) hE)
      · rw [if_pos q2] at hE
        exact z_iload hK 0 dX11_rests_65 rfl (x_ret hK hE dX11_rests_67)
set_option maxHeartbeats 2000000 in
theorem x_body (hK : zC K G cX11_rests RX11 7 6 81 (some .int)) (hC : xC K G) {a b c w : Int32} (hE : xE K G h (gRests h a b c w)) : zW K G 7 0 [(0, .ref (G.2.2.2 0)), (1, .int a), (2, .int b), (3, .int c), (4, .int w)] [] h := by
  unfold gRests at hE
  refine z_iload_n hK 1 dX11_rests_0 rfl ?_
  refine z_callSi hK [.int a] (m_X11_isDigit (zC_D hK) (dG_s h a)) ss_X11_isDigit qx_222 rfl [] rfl (Nat.le_of_ble_eq_true rfl) ⟨by decide, by decide⟩ dX11_rests_1 ?_
  refine z_if_eq hK 27 dX11_rests_4 (by decide) (fun q => ?_) (fun q => ?_)
  · rw [if_pos q] at hE
    exact x_throw hK hC hE dX11_rests_27 dX11_rests_30 dX11_rests_31 dX11_rests_34
  rw [if_neg q] at hE
  refine z_iload_n hK 2 dX11_rests_7 rfl ?_
  refine z_callSi hK [.int b] (m_X11_isDigit (zC_D hK) (dG_s h b)) ss_X11_isDigit qx_222 rfl [] rfl (Nat.le_of_ble_eq_true rfl) ⟨by decide, by decide⟩ dX11_rests_8 ?_
  refine z_if_eq hK 27 dX11_rests_11 (by decide) (fun q => ?_) (fun q => ?_)
  · rw [if_pos q] at hE
    exact x_throw hK hC hE dX11_rests_27 dX11_rests_30 dX11_rests_31 dX11_rests_34
  rw [if_neg q] at hE
  refine z_iload_n hK 3 dX11_rests_14 rfl ?_
  refine z_callSi hK [.int c] (m_X11_isDigit (zC_D hK) (dG_s h c)) ss_X11_isDigit qx_222 rfl [] rfl (Nat.le_of_ble_eq_true rfl) ⟨by decide, by decide⟩ dX11_rests_15 ?_
  refine z_if_eq hK 27 dX11_rests_18 (by decide) (fun q => ?_) (fun q => ?_)
  · rw [if_pos q] at hE
    exact x_throw hK hC hE dX11_rests_27 dX11_rests_30 dX11_rests_31 dX11_rests_34
  rw [if_neg q] at hE
  refine z_iload hK 4 dX11_rests_21 rfl ?_
  refine z_iconst (v := -1) hK dX11_rests_23 (by decide) ?_
  refine z_icmp_ge hK 35 dX11_rests_24 (by decide) (fun q => ?_) (fun q => ?_)
  · rw [if_neg (Int32.not_lt.mpr q)] at hE
    refine z_iconst (v := 0) hK dX11_rests_35 (by decide) ?_
    refine z_istore (lv' := [(5, .int 0), (0, .ref (G.2.2.2 0)), (1, .int a), (2, .int b), (3, .int c), (4, .int w)]) hK dX11_rests_36 (by decide) rfl ?_
    refine z_iconst (v := 0) hK dX11_rests_38 (by decide) ?_
    refine z_istore (lv' := [(6, .int 0), (5, .int 0), (0, .ref (G.2.2.2 0)), (1, .int a), (2, .int b), (3, .int c), (4, .int w)]) hK dX11_rests_39 (by decide) rfl ?_
    exact x_loop hK hC 4 0 0 rfl hE
  · rw [if_pos (Int32.not_le.mp q)] at hE
    exact x_throw hK hC hE dX11_rests_27 dX11_rests_30 dX11_rests_31 dX11_rests_34
end Xr
/-- its contract -/
abbrev xP (G : zG) (h : zH) (U : State) : Prop := zP G h U.heap ∧ va_K (G.1, G.2.1) vwCl (zTy G) U ∧ zS G U U.heap ∧ xS (zA G) U U.heap
theorem xM (l : Launch) (hl : l.stackTraces = false) (G : zG) (hG : zD G) (h : zH) (a b c w : Int32) : vx_Met l yX11_rests (Cond.code yX11_rests cX11_rests 7 (some .int) :: zTb) { frames := 6, cells := 1, slots := 6, locals := 81 } (va_Pc [.ref (G.2.2.2 0), .int a, .int b, .int c, .int w] (xP G h)) (xQ G h (gRests h a b c w)) (xX G h (gRests h a b c w)) 1 6 (zA G) := by
  refine vx_ofW (cc := cX11_rests) (maxL := 7) (ret := some .int) pn_X11 rfl ?_
  intro p e s m args below meth c9 s₁ B hml ht hv
  obtain ⟨rfl, hP, hK, hZ, hXS⟩ := hv
  have hts := atoms_spec (ws := Cond.code yX11_rests cX11_rests 7 (some .int) :: zTb) B.pre
  have hown : s.vm.findClass yX11_rests.cls = some m.cls := findClass_of_methodNamed B.named
  have hle := lv_entry [.ref (G.2.2.2 0), .int a, .int b, .int c, .int w] (n := 7) (Nat.le_of_ble_eq_true rfl)
  rw [lg_entry_eq]
  exact x_body (K := (p, l, e, _, s, m, _, below, meth, c9, _)) ⟨B.exec, B.bytes, hml, hown, fun w hw => hts w (List.mem_cons_of_mem _ hw), hK, hG, Nat.le_refl _, Nat.le_refl _, B.returns, B.notSynchronized, hZ⟩ ⟨hl, ht, Nat.le_refl _, Nat.le_refl _, hXS⟩ rfl s.heap [] _ hP va_S.rf hle
