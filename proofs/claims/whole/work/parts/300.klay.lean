/-! making: the world is a list that grows; cells and slots are counted -/
def kNst : List (String × Nat × MethodName × String) := [(RX11, 9, yX8_init, RX11), (RX11, 18, yX5_init, RX11), (RX5, 33, yX1_init, RX11), (RX10, 9, yX9_init, RX11), (RX2, 11, yX9_init, RX11)]
def kE (G : zG) (U : State) : Prop := va_K (G.1, G.2.1) vwCl (zTy G) U ∧ va_AO "VoteAgainst$Standing" U ∧ va_AO "VoteAgainst$Moment" U ∧ ∀ x ∈ kNst, va_Nw (.methodLinkNest x.1 x.2.1 x.2.2.1 x.2.2.2) U
theorem kE.call {G : zG} {s U : State} (hW : s.WarmedH U.vm) (h : kE G s) : kE G U := ⟨va_K.moved hW.alike h.1, h.2.1.moved hW.alike, h.2.2.1.moved hW.alike, fun x hx => va_Nw.warmM hW (h.2.2.2 x hx)⟩
theorem kE.calling {G : zG} {U : State} {g : JFrame} {mk : MethodId} {a : Array Value} (h : kE G U) : kE G (U.calling g mk a) := ⟨va_K.moved (u := U) (U := U.calling g mk a) (Vm.Alike.refl U.vm) h.1, h.2.1.moved (u := U) (U := U.calling g mk a) (Vm.Alike.refl U.vm), h.2.2.1.moved (u := U) (U := U.calling g mk a) (Vm.Alike.refl U.vm), fun x hx => va_tabs (u := U) (U := U.calling g mk a) rfl rfl (h.2.2.2 x hx)⟩
def kC (K : zK) (G : zG) (A : Nat → Prop) (cc : ByteArray) (own : String) (nL fr lo mc ms : Nat) : Prop := match K with
  | (p, _, _, R, s, m, args, _, _, c, _) => p.tables.exec = Jvm.exec ∧ c.code = cc ∧ c.maxLocals = nL ∧ s.vm.findClass own = some m.cls ∧ (∀ w ∈ zTb, w.before args s = true) ∧ kE G s ∧ fr ≤ R.frames ∧ lo ≤ R.locals ∧ mc ≤ R.cells ∧ ms ≤ R.slots ∧ ∀ q, s.heap.size ≤ q → A q
def kN (K : zK) (nm : String) : Prop := match K with
  | (_, _, _, _, _, _, _, _, meth, _, _) => meth.name = nm ∧ meth.sig.returnType = none ∧ meth.locks = false
def kW (K : zK) (G : zG) (A : Nat → Prop) (nL pc : Nat) (lv : List (Nat × Value)) (st : List Value) (ws : va_W) (k n : Nat) : Prop := match K with
  | (p, l, e, R, s, m, args, below, meth, c, Q) => ∀ (H : Heap) (locs : List Loc) (ls : Array Slot), va_P (G.1, G.2.1) vwCl ws H → va_D A ws → va_S A s.heap H locs → lv_has ls nL lv → W p l e R s m args below meth c H locs k n Q (F0 m pc ls st)
def kQ (G : zG) (A : Nat → Prop) (post : (Nat → Nat) → va_W) : Array Value → State → Outcome → State → Prop := va_Qv (fun _ : Nat → Nat => True) (fun u t => va_P (G.1, G.2.1) vwCl (post u) t.heap ∧ va_D A (post u)) A
def kM (l : Launch) (G : zG) (y : MethodName) (cc : ByteArray) (maxL fr lo mc ms : Nat) (vs : List Value) (suf : va_W) (post : (Nat → Nat) → va_W) : Prop :=
  ∀ sz, Met l y (Cond.code y cc maxL none :: zTb) { frames := fr, cells := mc, slots := ms, locals := lo } (va_Pc vs (fun U => U.heap.size = sz ∧ va_P (G.1, G.2.1) vwCl suf U.heap ∧ kE G U ∧ va_D (fun _ => True) suf)) (kQ G (va_A suf sz) post) mc ms (va_A suf sz)
def kEnd (K : zK) (G : zG) (A : Nat → Prop) (post : (Nat → Nat) → va_W) (mc ms : Nat) : Prop := match K with
  | (_, _, _, _, s, _, args, below, _, _, Q) => Q = MQ below (kQ G A post) args s mc ms A
set_option maxHeartbeats 4000000 in
theorem kM_of {l : Launch} {G : zG} {y : MethodName} {cc : ByteArray} {maxL fr lo mc ms : Nat} {vs : List Value} {suf : va_W} {post : (Nat → Nat) → va_W} (hy : plainName y.cls = true) (hn : (lg_sl vs).length ≤ maxL)
    (body : ∀ (K : zK) (A : Nat → Prop), K.2.1 = l → kC K G A cc y.cls maxL fr lo mc ms → kN K y.name → kEnd K G A post mc ms → kW K G A maxL 0 (lv_args 0 vs) [] suf 0 0) : kM l G y cc maxL fr lo mc ms vs suf post := by
  intro sz
  refine Met.ofW (cc := cc) (maxL := maxL) (ret := none) hy rfl ?_
  intro p e s m args below meth c s₁ B hml hv
  obtain ⟨rfl, hsz, hP, hE, hD0⟩ := hv
  have hts := atoms_spec (ws := Cond.code y cc maxL none :: zTb) B.pre
  have hown : s.vm.findClass y.cls = some m.cls := findClass_of_methodNamed B.named
  have hin : meth.name = y.name := (name_of_methodNamed B.named B.method).1
  subst hsz
  have hD := hD0.self (sz := s.heap.size)
  have hl := lv_entry vs (n := maxL) hn
  rw [lg_entry_eq]
  exact body (p, l, e, _, s, m, vs.toArray, below, meth, c, _) (va_A suf s.heap.size) rfl ⟨B.exec, B.bytes, hml, hown, fun w hw => hts w (List.mem_cons_of_mem _ hw), hE, Nat.le_refl _, Nat.le_refl _, Nat.le_refl _, Nat.le_refl _, fun q h => Or.inr h⟩ ⟨hin, B.returns, B.notSynchronized⟩ rfl s.heap [] _ hP hD va_S.rf hl
theorem kl_l {pre suf : va_W} {k : Nat} {q : Nat × va_E} (h : pre[k]? = some q) : (pre ++ suf)[k]? = some q := by
  rw [List.getElem?_append_left (List.getElem?_eq_some_iff.mp h).1]; exact h
theorem kl_r {pre suf : va_W} {k : Nat} {q : Nat × va_E} (h : suf[k]? = some q) : (pre ++ suf)[pre.length + k]? = some q := by
  rw [List.getElem?_append_right (by omega), Nat.add_sub_cancel_left]; exact h
theorem k_join {A : Nat → Prop} {D : va_G} {cl : List vw_C} {pre suf w1 : va_W} {H H1 : Heap} (hP : va_P D cl (pre ++ suf) H) (hD : va_D A (pre ++ suf)) (hk : ∀ q : Nat, q < H.size → ¬ va_A suf H.size q → H1[q]? = H[q]?) (hF : ∀ q, va_A suf H.size q → A q) (hP1 : va_P D cl w1 H1) (hD1 : va_D (va_A suf H.size) w1) : va_P D cl (pre ++ w1) H1 ∧ va_D A (pre ++ w1) := by
  have apart : ∀ (k : Nat) (q : Nat × va_E), pre[k]? = some q → q.1 < H.size ∧ ¬ va_A suf H.size q.1 := by
    intro k q hq
    have hl := (hP k q (kl_l hq)).lt
    refine ⟨hl, fun h => ?_⟩
    rcases h with ⟨k2, e, h⟩ | h
    · have hij := hD.1 k (pre.length + k2) q (q.1, e) (kl_l hq) (kl_r h) rfl
      have := (List.getElem?_eq_some_iff.mp hq).1
      omega
    · omega
  refine ⟨va_P.app (fun k q hq => ?_) hP1, va_D.app ⟨fun i j x y hx hy hxy => hD.1 i j x y (kl_l hx) (kl_l hy) hxy, fun k q hq => hD.2 k q (kl_l hq)⟩ (hD1.weaken (fun k q _ h => hF q.1 h)) (fun i j x y hx hy hxy => ?_)⟩
  · obtain ⟨g1, g2⟩ := apart k q hq
    exact (hP k q (kl_l hq)).kept (hk q.1 g1 g2)
  · exact (apart i x hx).2 (by rw [hxy]; exact hD1.2 j y hy)
theorem k_blind {G : zG} {vs : List Value} {sz : Nat} {suf : va_W} : FrameBlind (va_Pc vs (fun U => U.heap.size = sz ∧ va_P (G.1, G.2.1) vwCl suf U.heap ∧ kE G U ∧ va_D (fun _ => True) suf)) := by
  intro a U g mk q
  obtain ⟨q0, q1, qP, qK, qD⟩ := q
  exact ⟨q0, q1, qP, kE.calling qK, qD⟩
/-- the static facts of a constructor -/
def kIf (y : MethodName) (bytes : ByteArray) (maxL n : Nat) : Prop := Cond.instanceMethod y ∈ zTb ∧ Cond.initialized y.cls ∈ zTb ∧ Cond.code y bytes maxL none ∈ zTb ∧ y.name = "<init>" ∧ (y.cls ≠ "java/lang/invoke/MethodHandle" ∧ y.cls ≠ "java/lang/invoke/VarHandle" ∧ (parseMethodDescriptor y.desc).map (fun d => d.parameters.length) = some n)
/-- of an object's making -/
def kNf (own : String) (index ci N : Nat) (fs : List Value) : Prop := ∃ (C : String) (T : u_T) (ty : Nat → FieldType), vwCl[ci]? = some (C, T, N) ∧ (∀ w ∈ u_ws C T N, w ∈ zTb) ∧ (∀ k, k < N → parseFieldDescriptor (T k).2.2.1 = some (ty k)) ∧ Cond.classLink own index C ∈ zTb ∧ Cond.instantiable C N ∈ zTb ∧ Cond.initialized C ∈ zTb ∧ ∀ j, j < N → defaultValue (ty j) = vp_V fs j
/-- of a store into a field that is final -/
def kFf (own : String) (index ci j : Nat) (ty : FieldType) : Prop := ∃ (C : String) (T : u_T) (N : Nat) (ty0 : Nat → FieldType) (ref : String), vwCl[ci]? = some (C, T, N) ∧ (∀ w ∈ u_ws C T N, w ∈ zTb) ∧ (∀ k, k < N → parseFieldDescriptor (T k).2.2.1 = some (ty0 k)) ∧ (∀ a, a < N → ∀ b, b < N → a ≠ b → (T a).2.1 ≠ (T b).2.1) ∧ j < N ∧ Cond.fieldLink own index ref (T j).2.1 (T j).2.2.1 ∈ zTb ∧ (ref = (T j).1 ∨ Cond.sameField ref (T j).1 (T j).2.1 (T j).2.2.1 ∈ zTb) ∧ (T j).2.2.2 = true ∧ (T j).1 = own ∧ parseFieldDescriptor (T j).2.2.1 = some ty
/-- of a field that isn't -/
def kPf (own : String) (index ci j : Nat) (ty : FieldType) : Prop := ∃ (C : String) (T : u_T) (N : Nat) (ty0 : Nat → FieldType) (ref : String), vwCl[ci]? = some (C, T, N) ∧ (∀ w ∈ u_ws C T N, w ∈ zTb) ∧ (∀ k, k < N → parseFieldDescriptor (T k).2.2.1 = some (ty0 k)) ∧ (∀ a, a < N → ∀ b, b < N → a ≠ b → (T a).2.1 ≠ (T b).2.1) ∧ j < N ∧ Cond.fieldLink own index ref (T j).2.1 (T j).2.2.1 ∈ zTb ∧ (ref = (T j).1 ∨ Cond.sameField ref (T j).1 (T j).2.1 (T j).2.2.1 ∈ zTb) ∧ (T j).2.2.2 = false ∧ parseFieldDescriptor (T j).2.2.1 = some ty
/-- of a read -/
def kGf (own : String) (index ci j : Nat) : Prop := ∃ (C : String) (T : u_T) (N : Nat) (ref : String), vwCl[ci]? = some (C, T, N) ∧ (∀ w ∈ u_ws C T N, w ∈ zTb) ∧ j < N ∧ Cond.fieldLink own index ref (T j).2.1 (T j).2.2.1 ∈ zTb ∧ (ref = (T j).1 ∨ Cond.sameField ref (T j).1 (T j).2.1 (T j).2.2.1 ∈ zTb)
theorem kA_eq {U : State} {c1 c2 : ClassId} {ty : FieldType} (h1 : va_RA U c1 ty) (h2 : va_RA U c2 ty) : c1 = c2 := by
  cases ty with
  | object C =>
    obtain ⟨_, _, _, _, _, a⟩ := h1
    obtain ⟨_, _, _, _, _, b⟩ := h2
    exact Option.some.inj (a.symm.trans b)
  | _ => exact Option.some.inj (Eq.trans (Eq.symm h1) h2)
section Kr
variable {K : zK} {G : zG} {A : Nat → Prop} {cc : ByteArray} {own : String} {nL fr lo mc ms : Nat} {pc : Nat} {lv lv' : List (Nat × Value)} {rest st : List Value} {ws ws' : va_W} {k n k' n' : Nat}
theorem k_sub (ks : List Nat) (hl : lv_pick lv ks = lv') (c : kW K G A nL pc lv' rest ws k n) : kW K G A nL pc lv rest ws k n := by
  obtain ⟨p, l, e, R, s, m, args, below, meth, c0, Q⟩ := K
  exact fun H locs ls hP hD hS hv => c H locs ls hP hD hS (lv_sub hv ks hl)
theorem k_iconst (hK : kC K G A cc own nL fr lo mc ms) {i : Int} {v : Int32} (hdg : decode cc pc = .ok (.iconst i, 1)) (hv : Int32.ofInt i = v) (c : kW K G A nL (pc + 1) lv (.int v :: rest) ws k n) : kW K G A nL pc lv rest ws k n := by
  obtain ⟨p, l, e, R, s, m, args, below, meth, c0, Q⟩ := K
  exact fun H locs ls hP hD hS hl => lv_iconst hK.1 hK.2.1 hdg hv (c H locs ls hP hD hS hl)
theorem k_bipush (hK : kC K G A cc own nL fr lo mc ms) {i : Int} {v : Int32} (hdg : decode cc pc = .ok (.bipush i, 2)) (hv : (Int8.ofInt i).toInt32 = v) (c : kW K G A nL (pc + 2) lv (.int v :: rest) ws k n) : kW K G A nL pc lv rest ws k n := by
  obtain ⟨p, l, e, R, s, m, args, below, meth, c0, Q⟩ := K
  exact fun H locs ls hP hD hS hl => lv_bipush hK.1 hK.2.1 hdg hv (c H locs ls hP hD hS hl)
theorem k_sipush (hK : kC K G A cc own nL fr lo mc ms) {i : Int} {v : Int32} (hdg : decode cc pc = .ok (.sipush i, 3)) (hv : (Int16.ofInt i).toInt32 = v) (c : kW K G A nL (pc + 3) lv (.int v :: rest) ws k n) : kW K G A nL pc lv rest ws k n := by
  obtain ⟨p, l, e, R, s, m, args, below, meth, c0, Q⟩ := K
  exact fun H locs ls hP hD hS hl => lv_sipush hK.1 hK.2.1 hdg hv (c H locs ls hP hD hS hl)
theorem k_iload_n (hK : kC K G A cc own nL fr lo mc ms) (j : Nat) {i : Fin 4} {x : Int32} (hdg : decode cc pc = .ok (.iload_n i, 1)) (hj : lv[j]? = some ((i : Nat), .int x)) (c : kW K G A nL (pc + 1) lv (.int x :: rest) ws k n) : kW K G A nL pc lv rest ws k n := by
  obtain ⟨p, l, e, R, s, m, args, below, meth, c0, Q⟩ := K
  exact fun H locs ls hP hD hS hl => lv_iload_n hK.1 hK.2.1 hdg rfl (lv_at hl j hj) (c H locs ls hP hD hS hl)
theorem k_aload_n (hK : kC K G A cc own nL fr lo mc ms) (j : Nat) {i : Fin 4} {x : Nat} (hdg : decode cc pc = .ok (.aload_n i, 1)) (hj : lv[j]? = some ((i : Nat), .ref x)) (c : kW K G A nL (pc + 1) lv (.ref x :: rest) ws k n) : kW K G A nL pc lv rest ws k n := by
  obtain ⟨p, l, e, R, s, m, args, below, meth, c0, Q⟩ := K
  exact fun H locs ls hP hD hS hl => lv_aload_n hK.1 hK.2.1 hdg rfl (lv_at hl j hj) (c H locs ls hP hD hS hl)
theorem k_istore_n (hK : kC K G A cc own nL fr lo mc ms) {i : Fin 4} {x : Int32} (hdg : decode cc pc = .ok (.istore_n i, 1)) (hn : (i : Nat) < nL) (hl : ((i : Nat), Value.int x) :: lv.filter (fun q => !(q.1 == (i : Nat)) && !(q.1 + 1 == (i : Nat) && q.2.category == 2)) = lv') (c : kW K G A nL (pc + 1) lv' rest ws k n) : kW K G A nL pc lv (.int x :: rest) ws k n := by
  obtain ⟨p, l, e, R, s, m, args, below, meth, c0, Q⟩ := K
  exact fun H locs ls hP hD hS hv => lv_istore_n hK.1 hK.2.1 hdg rfl hv hn hl (fun ls' hv' => c H locs ls' hP hD hS hv')
theorem k_istore (hK : kC K G A cc own nL fr lo mc ms) {i : Nat} {x : Int32} (hdg : decode cc pc = .ok (.istore i, 2)) (hn : i < nL) (hl : (i, Value.int x) :: lv.filter (fun q => !(q.1 == i) && !(q.1 + 1 == i && q.2.category == 2)) = lv') (c : kW K G A nL (pc + 2) lv' rest ws k n) : kW K G A nL pc lv (.int x :: rest) ws k n := by
  obtain ⟨p, l, e, R, s, m, args, below, meth, c0, Q⟩ := K
  exact fun H locs ls hP hD hS hv => lv_istore hK.1 hK.2.1 hdg hv hn hl (fun ls' hv' => c H locs ls' hP hD hS hv')
theorem k_astore_n (hK : kC K G A cc own nL fr lo mc ms) {i : Fin 4} {x : Nat} (hdg : decode cc pc = .ok (.astore_n i, 1)) (hn : (i : Nat) < nL) (hl : ((i : Nat), Value.ref x) :: lv.filter (fun q => !(q.1 == (i : Nat)) && !(q.1 + 1 == (i : Nat) && q.2.category == 2)) = lv') (c : kW K G A nL (pc + 1) lv' rest ws k n) : kW K G A nL pc lv (.ref x :: rest) ws k n := by
  obtain ⟨p, l, e, R, s, m, args, below, meth, c0, Q⟩ := K
  exact fun H locs ls hP hD hS hv => lv_astore_n hK.1 hK.2.1 hdg rfl hv hn hl (fun ls' hv' => c H locs ls' hP hD hS hv')
theorem k_iinc (hK : kC K G A cc own nL fr lo mc ms) (j : Nat) {i : Nat} {d : Int} {x v : Int32} (hdg : decode cc pc = .ok (.iinc i d, 3)) (hj : lv[j]? = some (i, .int x)) (hv : x + Int32.ofInt d = v) (hn : i < nL) (hl : (i, Value.int v) :: lv.filter (fun q => !(q.1 == i) && !(q.1 + 1 == i && q.2.category == 2)) = lv') (c : kW K G A nL (pc + 3) lv' rest ws k n) : kW K G A nL pc lv rest ws k n := by
  obtain ⟨p, l, e, R, s, m, args, below, meth, c0, Q⟩ := K
  exact fun H locs ls hP hD hS hv2 => lv_iinc hK.1 hK.2.1 hdg hv2 hj hv hn hl (fun ls' hv' => c H locs ls' hP hD hS hv')
theorem k_dup (hK : kC K G A cc own nL fr lo mc ms) {va : Value} (hdg : decode cc pc = .ok (.dup, 1)) (hva : va.category = 1) (c : kW K G A nL (pc + 1) lv (va :: va :: rest) ws k n) : kW K G A nL pc lv (va :: rest) ws k n := by
  obtain ⟨p, l, e, R, s, m, args, below, meth, c0, Q⟩ := K
  exact fun H locs ls hP hD hS hl => lv_dup hK.1 hK.2.1 hdg hva (c H locs ls hP hD hS hl)
theorem k_iadd (hK : kC K G A cc own nL fr lo mc ms) {x y : Int32} (hdg : decode cc pc = .ok (.iadd, 1)) (c : kW K G A nL (pc + 1) lv (.int (x + y) :: rest) ws k n) : kW K G A nL pc lv (.int y :: .int x :: rest) ws k n := by
  obtain ⟨p, l, e, R, s, m, args, below, meth, c0, Q⟩ := K
  exact fun H locs ls hP hD hS hl => lv_iadd hK.1 hK.2.1 hdg (c H locs ls hP hD hS hl)
theorem k_isub (hK : kC K G A cc own nL fr lo mc ms) {x y : Int32} (hdg : decode cc pc = .ok (.isub, 1)) (c : kW K G A nL (pc + 1) lv (.int (x - y) :: rest) ws k n) : kW K G A nL pc lv (.int y :: .int x :: rest) ws k n := by
  obtain ⟨p, l, e, R, s, m, args, below, meth, c0, Q⟩ := K
  exact fun H locs ls hP hD hS hl => lv_isub hK.1 hK.2.1 hdg (c H locs ls hP hD hS hl)
theorem k_ishl (hK : kC K G A cc own nL fr lo mc ms) {x y : Int32} (hdg : decode cc pc = .ok (.ishl, 1)) (c : kW K G A nL (pc + 1) lv (.int (x <<< (y &&& 31)) :: rest) ws k n) : kW K G A nL pc lv (.int y :: .int x :: rest) ws k n := by
  obtain ⟨p, l, e, R, s, m, args, below, meth, c0, Q⟩ := K
  exact fun H locs ls hP hD hS hl => lv_ishl hK.1 hK.2.1 hdg (c H locs ls hP hD hS hl)
theorem k_name {x v : Int32} (e : v = x) (c : kW K G A nL pc lv (.int v :: rest) ws k n) : kW K G A nL pc lv (.int x :: rest) ws k n := e ▸ c
theorem k_icmp_ge (hK : kC K G A cc own nL fr lo mc ms) {x y : Int32} {off : Int} (tgt : Nat) (hdg : decode cc pc = .ok (.if_icmp .ge off, 3)) (ht : (pc : Int) + off = (tgt : Int)) (kt : y ≤ x → kW K G A nL tgt lv rest ws k n) (kf : ¬ y ≤ x → kW K G A nL (pc + 3) lv rest ws k n) : kW K G A nL pc lv (.int y :: .int x :: rest) ws k n := by
  obtain ⟨p, l, e, R, s, m, args, below, meth, c0, Q⟩ := K
  exact fun H locs ls hP hD hS hl => lv_icmp_ge hK.1 hK.2.1 hdg ht (fun z => kt z H locs ls hP hD hS hl) (fun z => kf z H locs ls hP hD hS hl)
theorem k_goto (hK : kC K G A cc own nL fr lo mc ms) {off : Int} (tgt : Nat) (hdg : decode cc pc = .ok (.goto off, 3)) (ht : (pc : Int) + off = (tgt : Int)) (c : kW K G A nL tgt lv rest ws k n) : kW K G A nL pc lv rest ws k n := by
  obtain ⟨p, l, e, R, s, m, args, below, meth, c0, Q⟩ := K
  exact fun H locs ls hP hD hS hl => lv_goto hK.1 hK.2.1 hdg ht (c H locs ls hP hD hS hl)
theorem k_objInit (hK : kC K G A cc own nL fr lo mc ms) {a idx : Nat} (hlink : Cond.methodLink own idx Lib.objectInit ∈ zTb) (hw : Cond.instanceMethod Lib.objectInit ∈ zTb ∧ Cond.code Lib.objectInit ⟨#[0xb1]⟩ 1 none ∈ zTb) (hR : 1 ≤ fr ∧ (rest.map fun v => v.category).sum + 12 ≤ lo) (hdg : decode cc pc = .ok (.invokespecial idx, 3)) (c : kW K G A nL (pc + 3) lv rest ws k n) : kW K G A nL pc lv (.ref a :: rest) ws k n := by
  obtain ⟨p, l, e, R, s, m, args, below, meth, c0, Q⟩ := K
  obtain ⟨hx, hb, hml, hown, hts, hE, hfr, hlo, hmc, hms, hA⟩ := id hK
  intro H locs ls hP hD hS hl
  refine W.objInit hx hb hown (hts _ hlink) (hts _ hw.1) (hts _ hw.2) rfl (by rw [hml]; exact hl.1) rfl hdg (Nat.le_trans hR.1 hfr) ?_ (c H locs ls hP hD hS hl)
  show 2 * 0 + (rest.map fun v => v.category).sum + 12 ≤ R.locals
  omega
theorem k_new (hK : kC K G A cc own nL fr lo mc ms) {index ci N : Nat} {fs : List Value} (hf : kNf own index ci N fs) (hdg : decode cc pc = .ok (.new index, 3)) (hk : k + 1 = k') (hn : n + N = n') (hkm : k' ≤ mc) (hnm : n' ≤ ms) (c : ∀ q, kW K G A nL (pc + 3) lv (.ref q :: rest) (ws ++ [(q, .inr (ci, fs))]) k' n') : kW K G A nL pc lv rest ws k n := by
  obtain ⟨p, l, e, R, s, m, args, below, meth, c0, Q⟩ := K
  obtain ⟨hx, hb, hml, hown, hts, hE, hfr, hlo, hmc, hms, hA⟩ := id hK
  obtain ⟨C, T, ty, hc, hin, hty, w1, w2, w3, hfs⟩ := hf
  subst hk hn
  intro H locs ls hP hD hS hl
  exact va_new (D := (G.1, G.2.1)) (cl := vwCl) hx hb hts hin ty hty hown (hts _ w1) (hts _ w2) (hts _ w3) hE.1 hP hD hS hA hc hfs (Nat.le_trans hkm hmc) (Nat.le_trans hnm hms) hdg (fun q H1 hP1 hD1 hS1 => c q H1 locs ls hP1 hD1 hS1 hl)
theorem k_newa (hK : kC K G A cc own nL fr lo mc ms) {atype : ArrayType} {ty : FieldType} (t0 : Nat) (harr : Cond.arrayClass (newarray.typeOf atype) ∈ zTb) (hty : newarray.typeOf atype = ty) {cA : ClassId} (ht : (zTy G)[t0]? = some (cA, ty)) {i : Int32} {N' : Nat} {a0 : vp_A} (ha : ∀ cA : ClassId, vp_cell cA a0 = arrV cA N' (fun _ => defaultValue ty)) (hn0 : ¬ i < 0) (hN : i.toNatClampNeg = N') (hbytes : N' * componentBytes ty ≤ 536870912) (hdg : decode cc pc = .ok (.newarray atype, 2)) (hk : k + 1 = k') (hn : n + N' = n') (hkm : k' ≤ mc) (hnm : n' ≤ ms) (c : ∀ q, kW K G A nL (pc + 2) lv (.ref q :: rest) (ws ++ [(q, .inl (cA, a0))]) k' n') : kW K G A nL pc lv (.int i :: rest) ws k n := by
  obtain ⟨p, l, e, R, s, m, args, below, meth, c0, Q⟩ := K
  obtain ⟨hx, hb, hml, hown, hts, hE, hfr, hlo, hmc, hms, hA⟩ := id hK
  subst hk hn
  intro H locs ls hP hD hS hl
  refine va_newa (D := (G.1, G.2.1)) (cl := vwCl) (atype := atype) hx hb (hts _ harr) hty hE.1 hP hD hS hA ha hn0 hN hbytes (Nat.le_trans hkm hmc) (Nat.le_trans hnm hms) hdg (fun q cB H1 hK1 hP1 hD1 hS1 => ?_)
  have e1 : va_RA s cB ty := (hK1.2 6 (cB, ty) rfl).2
  have e2 : va_RA s cA ty := (hE.1.2 t0 _ ht).2
  have e3 := kA_eq e1 e2
  subst e3
  exact c q H1 locs ls hP1 hD1 hS1 hl
theorem k_newq (hK : kC K G A cc own nL fr lo mc ms) {index : Nat} {C : String} (t0 : Nat) (hlink : Cond.classLink own index C ∈ zTb) (hover : kE G K.2.2.2.2.1 → va_AO C K.2.2.2.2.1) {cA : ClassId} (ht : (zTy G)[t0]? = some (cA, .object C)) {i : Int32} {N' : Nat} (hn0 : ¬ i < 0) (hN : i.toNatClampNeg = N') (hbytes : N' * 4 ≤ 536870912) (hdg : decode cc pc = .ok (.anewarray index, 3)) (hk : k + 1 = k') (hn : n + N' = n') (hkm : k' ≤ mc) (hnm : n' ≤ ms) (c : ∀ q, kW K G A nL (pc + 3) lv (.ref q :: rest) (ws ++ [(q, .inl (cA, N', .inr (.inr (.inr (.inr (fun _ => none))))))]) k' n') : kW K G A nL pc lv (.int i :: rest) ws k n := by
  obtain ⟨p, l, e, R, s, m, args, below, meth, c0, Q⟩ := K
  obtain ⟨hx, hb, hml, hown, hts, hE, hfr, hlo, hmc, hms, hA⟩ := id hK
  subst hk hn
  intro H locs ls hP hD hS hl
  refine va_newq (D := (G.1, G.2.1)) (cl := vwCl) hx hb hown (hts _ hlink) (hover hE) hE.1 hP hD hS hA hn0 hN hbytes (Nat.le_trans hkm hmc) (Nat.le_trans hnm hms) hdg (fun q cB H1 hK1 hP1 hD1 hS1 => ?_)
  have e1 : va_RA s cB (.object C) := (hK1.2 6 (cB, .object C) rfl).2
  have e2 : va_RA s cA (.object C) := (hE.1.2 t0 _ ht).2
  have e3 := kA_eq e1 e2
  subst e3
  exact c q H1 locs ls hP1 hD1 hS1 hl
theorem k_putF (hK : kC K G A cc own nL fr lo mc ms) (hN : kN K "<init>") {index ci j a : Nat} {ty : FieldType} (hf : kFf own index ci j ty) {v : Value} {fs fs' : List Value} (hn : narrow ty v = v) (hfit : fits ty v = true) (hj : j < fs.length) (hs : fs.set j v = fs') (hdg : decode cc pc = .ok (.putfield index, 3)) (c : kW K G A nL (pc + 3) lv rest ((a, .inr (ci, fs')) :: ws) k n) : kW K G A nL pc lv (v :: .ref a :: rest) ((a, .inr (ci, fs)) :: ws) k n := by
  obtain ⟨p, l, e, R, s, m, args, below, meth, c0, Q⟩ := K
  obtain ⟨hx, hb, hml, hown, hts, hE, hfr, hlo, hmc, hms, hA⟩ := id hK
  obtain ⟨C, T, N, ty0, ref, hc, hin, hty, hnm, hjN, hw, hsm, hfin, hdecl, hd⟩ := hf
  subst hs
  intro H locs ls hP hD hS hl
  refine va_putF (D := (G.1, G.2.1)) (cl := vwCl) (ref := ref) hx hb hts hin ty0 hty hnm hown hE.1 hP hD hS 0 rfl hc j hjN (hts _ hw) ?_ hfin hN.1 hdecl hd hn hfit hj hdg (fun H1 locs1 hP1 hD1 hS1 => c H1 locs1 ls hP1 hD1 hS1 hl)
  intro x hfx
  rcases hsm with rfl | hsm
  · exact hfx
  · exact u_same (hts _ hsm) x hfx
theorem k_put (hK : kC K G A cc own nL fr lo mc ms) {index ci j a : Nat} {ty : FieldType} (hf : kPf own index ci j ty) {v : Value} {fs fs' : List Value} (hn : narrow ty v = v) (hfit : fits ty v = true) (hj : j < fs.length) (hs : fs.set j v = fs') (hdg : decode cc pc = .ok (.putfield index, 3)) (c : kW K G A nL (pc + 3) lv rest ((a, .inr (ci, fs')) :: ws) k n) : kW K G A nL pc lv (v :: .ref a :: rest) ((a, .inr (ci, fs)) :: ws) k n := by
  obtain ⟨p, l, e, R, s, m, args, below, meth, c0, Q⟩ := K
  obtain ⟨hx, hb, hml, hown, hts, hE, hfr, hlo, hmc, hms, hA⟩ := id hK
  obtain ⟨C, T, N, ty0, ref, hc, hin, hty, hnm, hjN, hw, hsm, hfin, hd⟩ := hf
  subst hs
  intro H locs ls hP hD hS hl
  refine va_put (D := (G.1, G.2.1)) (cl := vwCl) (ref := ref) hx hb hts hin ty0 hty hnm hown hE.1 hP hD hS 0 rfl hc j hjN (hts _ hw) ?_ hfin hd hn hfit hj hdg (fun H1 locs1 hP1 hD1 hS1 => c H1 locs1 ls hP1 hD1 hS1 hl)
  intro x hfx
  rcases hsm with rfl | hsm
  · exact hfx
  · exact u_same (hts _ hsm) x hfx
theorem k_get (hK : kC K G A cc own nL fr lo mc ms) {index ci j a : Nat} (hf : kGf own index ci j) (q0 : Nat) {v : Value} {fs : List Value} (he : ws[q0]? = some (a, .inr (ci, fs))) (hv : fs[j]? = some v) (hdg : decode cc pc = .ok (.getfield index, 3)) (c : kW K G A nL (pc + 3) lv (v :: rest) ws k n) : kW K G A nL pc lv (.ref a :: rest) ws k n := by
  obtain ⟨p, l, e, R, s, m, args, below, meth, c0, Q⟩ := K
  obtain ⟨hx, hb, hml, hown, hts, hE, hfr, hlo, hmc, hms, hA⟩ := id hK
  obtain ⟨C, T, N, ref, hc, hin, hjN, hw, hsm⟩ := hf
  intro H locs ls hP hD hS hl
  refine va_get (D := (G.1, G.2.1)) (cl := vwCl) (ref := ref) hx hb hts hin hown hE.1 hP q0 he hc j hjN (hts _ hw) ?_ (v := v) hv hdg (c H locs ls hP hD hS hl)
  intro x hfx
  rcases hsm with rfl | hsm
  · exact hfx
  · exact u_same (hts _ hsm) x hfx
theorem k_iast (hK : kC K G A cc own nL fr lo mc ms) (q0 : Nat) {a N : Nat} {f : Nat → Int32} {i x : Int32} (he : ws[q0]? = some (a, .inl (G.2.2.1.1 20, N, .inl f))) (hi : zin i N = true) (hdg : decode cc pc = .ok (.iastore, 1)) (hs : ws.set q0 (a, .inl (G.2.2.1.1 20, N, .inl (upd f (zx i) x))) = ws') (c : kW K G A nL (pc + 1) lv rest ws' k n) : kW K G A nL pc lv (.int x :: .int i :: .ref a :: rest) ws k n := by
  obtain ⟨p, l, e, R, s, m, args, below, meth, c0, Q⟩ := K
  obtain ⟨hx, hb, hml, hown, hts, hE, hfr, hlo, hmc, hms, hA⟩ := id hK
  subst hs
  intro H locs ls hP hD hS hl
  exact va_iast hx hb hE.1 hP hD hS q0 0 he rfl (zin_vp hi) hdg (fun H1 locs1 hP1 hD1 hS1 => c H1 locs1 ls hP1 hD1 hS1 hl)
theorem k_iald (hK : kC K G A cc own nL fr lo mc ms) (q0 : Nat) {a N : Nat} {f : Nat → Int32} {i : Int32} (he : ws[q0]? = some (a, .inl (G.2.2.1.1 20, N, .inl f))) (hi : zin i N = true) (hdg : decode cc pc = .ok (.iaload, 1)) (c : kW K G A nL (pc + 1) lv (.int (f (zx i)) :: rest) ws k n) : kW K G A nL pc lv (.int i :: .ref a :: rest) ws k n := by
  obtain ⟨p, l, e, R, s, m, args, below, meth, c0, Q⟩ := K
  obtain ⟨hx, hb, hml, hown, hts, hE, hfr, hlo, hmc, hms, hA⟩ := id hK
  intro H locs ls hP hD hS hl
  exact va_iald hx hb hE.1 hP q0 0 he rfl (zin_vp hi) hdg (c H locs ls hP hD hS hl)
/-- a reference into an array of them -/
theorem k_aast (hK : kC K G A cc own nL fr lo mc ms) (q0 t0 ci : Nat) {a v N : Nat} {r : vw_C} {vs : List Value} {f : Nat → Option Nat} {cA : ClassId} {i : Int32} (he : ws[q0]? = some (a, .inl (cA, N, .inr (.inr (.inr (.inr f)))))) (ht : (zTy G)[t0]? = some (cA, .object r.1)) (hv : (v, .inr (ci, vs)) ∈ ws) (hc : vwCl[ci]? = some r) (hi : zin i N = true) (hdg : decode cc pc = .ok (.aastore, 1)) (hs : ws.set q0 (a, .inl (cA, N, .inr (.inr (.inr (.inr (va_up f (zx i) (some v))))))) = ws') (c : kW K G A nL (pc + 1) lv rest ws' k n) : kW K G A nL pc lv (.ref v :: .int i :: .ref a :: rest) ws k n := by
  obtain ⟨p, l, e, R, s, m, args, below, meth, c0, Q⟩ := K
  obtain ⟨hx, hb, hml, hown, hts, hE, hfr, hlo, hmc, hms, hA⟩ := id hK
  obtain ⟨qk, hqk⟩ := List.getElem?_of_mem hv
  subst hs
  intro H locs ls hP hD hS hl
  exact va_astq hx hb hE.1 hP hD hS q0 t0 qk ci he ht hqk hc (zin_vp hi) hdg (fun H1 locs1 hP1 hD1 hS1 => c H1 locs1 ls hP1 hD1 hS1 hl)
theorem k_callI (hK : kC K G A cc own nL fr lo mc ms) {y : MethodName} {bytes : ByteArray} {maxL fr' lo' mc' ms' np index b : Nat} (As : List Value) {pre suf : va_W} {post : (Nat → Nat) → va_W} (hM : kM K.2.1 G y bytes maxL fr' lo' mc' ms' (.ref b :: As) suf post) (hv : kIf y bytes maxL np) (hl : Cond.methodLink own index y ∈ zTb) (hn : As.length = np) (rest : List Value) (hst : st = As.reverse ++ .ref b :: rest) (hr : (rest.map fun v => v.category).sum ≤ 8) (hR : fr' + 1 ≤ fr ∧ 8 + (maxL + 11) + lo' ≤ lo) (hw : ws = pre ++ suf) (hdg : decode cc pc = .ok (.invokespecial index, 3)) (hk : k + mc' = k') (hn2 : n + ms' = n') (hkm : k' ≤ mc) (hnm : n' ≤ ms) (c : ∀ u, kW K G A nL (pc + 3) lv rest (pre ++ post u) k' n') : kW K G A nL pc lv st ws k n := by
  obtain ⟨p, l, e, R, s, m, args, below, meth, c0, Q⟩ := K
  obtain ⟨hx, hb, hml, hown, hts, hE, hfr, hlo, hmc, hms, hA⟩ := id hK
  obtain ⟨w2, w3, w4, hy1, hd⟩ := hv
  subst hk hn2 hw
  intro H locs ls hP hD hS hlv
  have hPc : va_P (G.1, G.2.1) vwCl suf H := fun i q hq => hP _ q (kl_r hq)
  have hDc : va_D A suf := ⟨fun i j x y hx hy hxy => by have := hD.1 _ _ x y (kl_r (pre := pre) hx) (kl_r (pre := pre) hy) hxy; omega, fun i q hq => hD.2 _ q (kl_r hq)⟩
  have hFc : ∀ q, va_A suf H.size q → A q := fun q h => by
    rcases h with ⟨i, ee, h⟩ | h
    · exact hD.2 _ (q, ee) (kl_r h)
    · exact hA q (Nat.le_trans hS.1 h)
  have hrun := va_runI (p := p) (e := e) (below := below) (meth := meth) (H := H) (locs := locs) (cells := k) (slots := n) (b := b) (As := As) (rest := rest) (g := F0 m pc ls st) ⟨hx, hb, hml, hown, hts⟩ (hM H.size)
    (cwI np hts (zgoodIn (fun w h => by
      rcases List.mem_cons.mp h with rfl | h
      · exact w4
      · exact h)) rfl rfl rfl (hts _ w3) (hts _ hl) (hts _ w2) hy1 hd ⟨Nat.le_trans hR.1 hfr, Nat.le_trans hR.2 hlo⟩)
    ⟨k_blind, fun U hU hW => ⟨rfl, by rw [hU], by rw [hU]; exact hPc, kE.call hW hE, hDc.weaken (fun _ _ _ _ => trivial)⟩⟩ rfl hn hlv.1 hst (lv_room hr) hdg ⟨Nat.le_trans hkm hmc, Nat.le_trans hnm hms⟩
  refine va_callv hrun hS (fun q _ h => hFc q h) hFc (fun u t H1 locs1 ht hvm _ hB hz1 hk1 hS1 => ?_)
  obtain ⟨hP1, hD1⟩ := hB
  rw [ht] at hP1
  obtain ⟨hP2, hD2⟩ := k_join hP hD hk1 hFc hP1 hD1
  exact c u H1 locs1 ls hP2 hD2 hS1 hlv
theorem k_callN (hK : kC K G A cc own nL fr lo mc ms) {y : MethodName} {bytes : ByteArray} {maxL fr' lo' mc' ms' np index b : Nat} {host : String} (As : List Value) {pre suf : va_W} {post : (Nat → Nat) → va_W} (hM : kM K.2.1 G y bytes maxL fr' lo' mc' ms' (.ref b :: As) suf post) (hv : kIf y bytes maxL np) (hl : (own, index, y, host) ∈ kNst) (hn : As.length = np) (rest : List Value) (hst : st = As.reverse ++ .ref b :: rest) (hr : (rest.map fun v => v.category).sum ≤ 8) (hR : fr' + 1 ≤ fr ∧ 8 + (maxL + 11) + lo' ≤ lo) (hw : ws = pre ++ suf) (hdg : decode cc pc = .ok (.invokespecial index, 3)) (hk : k + mc' = k') (hn2 : n + ms' = n') (hkm : k' ≤ mc) (hnm : n' ≤ ms) (c : ∀ u, kW K G A nL (pc + 3) lv rest (pre ++ post u) k' n') : kW K G A nL pc lv st ws k n := by
  obtain ⟨p, l, e, R, s, m, args, below, meth, c0, Q⟩ := K
  obtain ⟨hx, hb, hml, hown, hts, hE, hfr, hlo, hmc, hms, hA⟩ := id hK
  obtain ⟨w2, w3, w4, hy1, hd⟩ := hv
  subst hk hn2 hw
  intro H locs ls hP hD hS hlv
  have hPc : va_P (G.1, G.2.1) vwCl suf H := fun i q hq => hP _ q (kl_r hq)
  have hDc : va_D A suf := ⟨fun i j x y hx hy hxy => by have := hD.1 _ _ x y (kl_r (pre := pre) hx) (kl_r (pre := pre) hy) hxy; omega, fun i q hq => hD.2 _ q (kl_r hq)⟩
  have hFc : ∀ q, va_A suf H.size q → A q := fun q h => by
    rcases h with ⟨i, ee, h⟩ | h
    · exact hD.2 _ (q, ee) (kl_r h)
    · exact hA q (Nat.le_trans hS.1 h)
  have hrun := va_runIN (p := p) (e := e) (below := below) (meth := meth) (H := H) (locs := locs) (cells := k) (slots := n) (b := b) (As := As) (rest := rest) (g := F0 m pc ls st) ⟨hx, hb, hml, hown, hts⟩ (hM H.size)
    ⟨va_cnB np hts (zgoodIn (fun w h => by
      rcases List.mem_cons.mp h with rfl | h
      · exact w4
      · exact h)) rfl rfl rfl (hE.2.2.2 _ hl) (hts _ w3) hd ⟨Nat.le_trans hR.1 hfr, Nat.le_trans hR.2 hlo⟩, hy1, hts _ w2⟩
    ⟨k_blind, fun U hU hW => ⟨rfl, by rw [hU], by rw [hU]; exact hPc, kE.call hW hE, hDc.weaken (fun _ _ _ _ => trivial)⟩⟩ rfl hn hlv.1 hst (lv_room hr) hdg ⟨Nat.le_trans hkm hmc, Nat.le_trans hnm hms⟩
  refine va_callv hrun hS (fun q _ h => hFc q h) hFc (fun u t H1 locs1 ht hvm _ hB hz1 hk1 hS1 => ?_)
  obtain ⟨hP1, hD1⟩ := hB
  rw [ht] at hP1
  obtain ⟨hP2, hD2⟩ := k_join hP hD hk1 hFc hP1 hD1
  exact c u H1 locs1 ls hP2 hD2 hS1 hlv
theorem k_vret (hK : kC K G A cc own nL fr lo mc ms) {nm : String} (hN : kN K nm) {post : (Nat → Nat) → va_W} (hE : kEnd K G A post mc ms) (u : Nat → Nat) (hw : post u = ws) (hkm : k ≤ mc) (hnm : n ≤ ms) (hdg : decode cc pc = .ok (.return_, 1)) : kW K G A nL pc lv [] ws k n := by
  obtain ⟨p, l, e, R, s, m, args, below, meth, c0, Q⟩ := K
  obtain ⟨hx, hb, hml, hown, hts, hE', hfr, hlo, hmc, hms, hA⟩ := id hK
  cases hE
  subst hw
  intro H locs ls hP hD hS hlv
  refine W.widen (k := mc) (n := ms) hkm hnm ?_
  exact W.vret hx hb hN.2.1 (fun t ht hW => ⟨⟨u, rfl, trivial, by rw [ht]; exact hP, hD⟩, hS.F ht⟩) hS.2.2 hdg hN.2.2
end Kr
