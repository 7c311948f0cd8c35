/-! the law, from its entry -/
theorem l_ret {p : Program} {l : Launch} {e : Env} {s : State} {m : MethodId} {below : List Frame} {meth : Method} {c : Code} {b : Nat} {G : zG} (hx : p.tables.exec = Jvm.exec) (hb : c.code = code) (hr : meth.sig.returnType = ret) (hlocks : meth.locks = false) (lv : List (Nat × Value)) (ws : va_W) (k n : Nat) (hk : k ≤ 601024) (hn : n ≤ 7293034) : kW (p, l, e, room_1, s, m, #[Value.ref b], below, meth, c, lw_Z below #[Value.ref b] s) G (fun q => s.heap.size ≤ q) 7 1178 lv [.int 1] ws k n :=
  fun H locs ls hP hD hS hl => va_forget (fun q hq => hS.2.2 q hq) (W.widen hk hn (lw_ret hx hb hr hlocks dL_law_1178))
theorem l_D0 {A : Nat → Prop} {G : zG} {h : zH} (hc : (zsv G).category = 1) (hD : va_D A (zL G h)) : zD G := ⟨fun i j hi hj e => hD.1 i j _ _ (zL_get G h hi) (zL_get G h hj) e, hc⟩
set_option maxRecDepth 100000 in
set_option maxHeartbeats 4000000 in
theorem l_make {K : zK} {G : zG} {A : Nat → Prop} {b : Nat} (hK : kC K G A cL_law RL 7 15 590 601024 7293034) (fin : ∀ (x m o : Nat) (w vm vp v : Nat → Nat), kW K G A 7 23 [(4, .int 0), (3, .ref o), (2, .ref m), (1, .ref x), (0, .ref b)] [] ((kq_X11 G x w vm vp ++ kp_X12 G m v) ++ [(o, eL G 1)]) 178 12756) : kW K G A 7 0 [(0, .ref b)] [] [] 0 0 := by
  refine k_new hK knf_L_8 dL_law_0 rfl rfl (by decide) (by decide) (fun x => ?_)
  show kW K G A 7 3 [(0, .ref b)] [.ref x] [(x, .inr (10, [.null, .null, .null, .null, .null, .null, .null, .null, .null, .long 0]))] 1 10
  refine k_dup hK dL_law_3 rfl ?_
  refine k_callI hK [] (pre := []) (suf := [(x, .inr (10, [.null, .null, .null, .null, .null, .null, .null, .null, .null, .long 0]))]) (kc_X11 K.2.1 G x) kif_X11 q_127 rfl [.ref x] rfl (Nat.le_of_ble_eq_true rfl) ⟨Nat.le_of_ble_eq_true rfl, Nat.le_of_ble_eq_true rfl⟩ rfl dL_law_4 rfl rfl (by decide) (by decide) (fun u => ?_)
  show kW K G A 7 7 [(0, .ref b)] [.ref x] (kp_X11 G x u) 139 6197
  refine k_astore_n (lv' := [(1, .ref x), (0, .ref b)]) hK dL_law_7 (by decide) rfl ?_
  refine k_new hK knf_L_16 dL_law_8 rfl rfl (by decide) (by decide) (fun m => ?_)
  show kW K G A 7 11 [(1, .ref x), (0, .ref b)] [.ref m] (kp_X11 G x u ++ [(m, .inr (11, [.int 0, .int 0, .null, .int 0, .int 0, .int 0, .int 0, .long 0, .int 0, .int 0, .null, .null, .null, .null, .null, .null, .null, .null, .null, .null, .null, .int 0, .int 0, .null, .null, .null, .null, .null, .null, .null, .null, .null, .null, .null, .null, .int 0, .int 0, .null, .null, .null, .null, .null, .null, .null, .null, .null, .null, .null, .null, .int 0, .null, .long 0]))]) 140 6249
  refine k_dup hK dL_law_11 rfl ?_
  refine k_callI hK [] (pre := kp_X11 G x u) (suf := [(m, .inr (11, [.int 0, .int 0, .null, .int 0, .int 0, .int 0, .int 0, .long 0, .int 0, .int 0, .null, .null, .null, .null, .null, .null, .null, .null, .null, .null, .null, .int 0, .int 0, .null, .null, .null, .null, .null, .null, .null, .null, .null, .null, .null, .null, .int 0, .int 0, .null, .null, .null, .null, .null, .null, .null, .null, .null, .null, .null, .null, .int 0, .null, .long 0]))]) (kc_X12 K.2.1 G m) kif_X12 q_1287 rfl [.ref m] rfl (Nat.le_of_ble_eq_true rfl) ⟨Nat.le_of_ble_eq_true rfl, Nat.le_of_ble_eq_true rfl⟩ rfl dL_law_12 rfl rfl (by decide) (by decide) (fun v => ?_)
  show kW K G A 7 15 [(1, .ref x), (0, .ref b)] [.ref m] (kp_X11 G x u ++ kp_X12 G m v) 177 12755
  refine k_astore_n (lv' := [(2, .ref m), (1, .ref x), (0, .ref b)]) hK dL_law_15 (by decide) rfl ?_
  refine k_iconst (v := 1) hK dL_law_16 (by decide) ?_
  refine k_newa hK (atype := .long) (ty := .long) 1 q_222 rfl rfl (a0 := (1, .inr (.inl (fun _ => 0)))) (N' := 1) (fun _ => rfl) (by decide) (by decide) (by decide) dL_law_17 rfl rfl (by decide) (by decide) (fun o => ?_)
  refine k_astore_n (lv' := [(3, .ref o), (2, .ref m), (1, .ref x), (0, .ref b)]) hK dL_law_19 (by decide) rfl ?_
  refine k_iconst (v := 0) hK dL_law_20 (by decide) ?_
  refine k_istore (lv' := [(4, .int 0), (3, .ref o), (2, .ref m), (1, .ref x), (0, .ref b)]) hK dL_law_21 (by decide) rfl ?_
  exact fin x m o (fun j => u (3 * j)) (fun j => u (3 * j + 1)) (fun j => u (3 * j + 2)) v
theorem l_tr {l : Launch} (h : l.flags = flags0) : l.stackTraces = false := by
  unfold Launch.stackTraces
  rw [h]
  decide +kernel
set_option maxRecDepth 100000 in
set_option maxHeartbeats 4000000 in
theorem whole_start {p : Program} {e : Env} {s : State} {m : MethodId} {below : List Frame} {meth : Method} {c : Code} (l : Launch) (hflags : l.flags = flags0) {b L : Nat} {xs : Nat → Int32} (hL : L ≤ 3584) (C0 : lw_At p s m meth c b L xs) : W p l e room_1 s m #[Value.ref b] below meth c s.heap [] 0 0 (lw_Z below #[Value.ref b] s) (entryFrame m ([Value.ref b] : List Value).toArray 7) := by
  obtain ⟨hx, hb, hr, hml, hown, hts, hX, hbl, hlocks, hgv⟩ := id C0
  obtain ⟨dC, dI, X, hcat, hE, hZ, hXS⟩ := ls_all hts (flat_of_before _ hgv)
  have hz : ∀ w ∈ zTb, w.before #[Value.ref b] s = true := fun w hw => hts w (List.mem_filter.mp hw).1
  have hK : ∀ ad : Nat → Nat, kC (p, l, e, room_1, s, m, #[Value.ref b], below, meth, c, lw_Z below #[Value.ref b] s) (dC, dI, X, ad) (fun q => s.heap.size ≤ q) cL_law RL 7 15 590 601024 7293034 := fun ad => ⟨hx, hb, hml, hown, hz, hE ad, Nat.le_refl _, Nat.le_refl _, Nat.le_refl _, Nat.le_refl _, fun q h => h⟩
  have hl := lv_entry [.ref b] (n := 7) (Nat.le_of_ble_eq_true rfl)
  rw [lg_entry_eq]
  refine l_make (hK (fun _ => 0)) (fun x m o w vm vp v => ?_) s.heap [] _ (fun k q h => by simp at h) ⟨fun i j p q h => by simp at h, fun k q h => by simp at h⟩ va_S.rf hl
  intro H locs ls hP hD hS hlv
  have hP' := lP (dC, dI, X, fun _ => 0) x m o w vm vp v hP
  have hD' := lD (dC, dI, X, fun _ => 0) x m o w vm vp v hD
  have hzd : zD (lG (dC, dI, X, fun _ => 0) x m o w vm vp v) := l_D0 hcat hD'
  exact law_loop (G := lG (dC, dI, X, fun _ => 0) x m o w vm vp v) (hK _) ⟨hzd, fun t ht => hD'.2 t _ (zL_get _ _ ht), hZ _, hXS, hX, hbl, l_tr hflags⟩ hL (l_ret hx hb hr hlocks) L 0 h0 178 12756 (by omega) (by omega) rel0 (by omega) (by omega) H locs ls hP' hD' hS hlv
