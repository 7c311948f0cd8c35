/-! The heap of the system as two functions: the ints and the longs of each object of the graph, by its number and the place within. -/
abbrev zH : Type := (Nat → Nat → Int32) × (Nat → Nat → Int64)
/-- classes, their slots, array classes by kind, the addresses of the graph's objects -/
abbrev zG : Type := (Nat → ClassId) × (Nat → Nat → Nat) × ((Nat → ClassId) × (Nat → Nat) × (Nat → Nat) × Value) × (Nat → Nat)
/-- the String constants, their bytes, a static that is only carried -/
abbrev zk (G : zG) (i : Nat) : Nat := G.2.2.1.2.1 i
abbrev zv (G : zG) (i : Nat) : Nat := G.2.2.1.2.2.1 i
abbrev zsv (G : zG) : Value := G.2.2.1.2.2.2
def zpi (h : zH) (t k : Nat) (x : Int32) : zH := (fun a b => if a = t ∧ b = k then x else h.1 a b, h.2)
def zpl (h : zH) (t k : Nat) (x : Int64) : zH := (h.1, fun a b => if a = t ∧ b = k then x else h.2 a b)
def zcpi (h : zH) (u sp t dp n : Nat) : zH := (fun a b => if a = t then va_cpy (h.1 u) (h.1 t) sp dp n b else h.1 a b, h.2)
def zcpl (h : zH) (u sp t dp n : Nat) : zH := (h.1, fun a b => if a = t then va_cpy (h.2 u) (h.2 t) sp dp n b else h.2 a b)
def zx (i : Int32) : Nat := i.toNatClampNeg
def zin (i : Int32) (n : Nat) : Bool := !(decide (i < 0)) && decide (i.toNatClampNeg < n)
def zb (b : Bool) : Int32 := if b then 1 else 0
def zgu {α : Type} (b : Bool) (k : Option α) : Option α := if b then k else none
theorem zin_vp {i : Int32} {n : Nat} (h : zin i n = true) : vp_in i n := by
  unfold zin at h
  unfold vp_in
  simp only [Bool.and_eq_true, Bool.not_eq_true', decide_eq_false_iff_not, decide_eq_true_eq] at h
  rintro (h1 | h1)
  · exact h.1 h1
  · exact absurd h1 (Nat.not_le.mpr h.2)
theorem zgu_some {α : Type} {b : Bool} {k : Option α} {r : α} (h : zgu b k = some r) : b = true ∧ k = some r := by
  cases b with
  | true => exact ⟨rfl, h⟩
  | false => cases h
theorem zbind_some {α β : Type} {a : Option α} {f : α → Option β} {r : β} (h : a.bind f = some r) : ∃ v, a = some v ∧ f v = some r := by
  cases a with
  | none => cases h
  | some v => exact ⟨v, rfl, h⟩
/-- a field's value -/
def zfv (G : zG) (h : zH) (t j f : Nat) : Value := match f with
  | 0 => .int (h.1 t j)
  | 1 => .long (h.2 t j)
  | _ => .ref (G.2.2.2 (zR t j))
def zobj (G : zG) (h : zH) (t : Nat) : Nat → List Nat → List Value
  | _, [] => []
  | j, f :: fs => zfv G h t j f :: zobj G h t (j + 1) fs
theorem zobj_get (G : zG) (h : zH) (t : Nat) : ∀ (fs : List Nat) (j i : Nat), (zobj G h t j fs)[i]? = (fs[i]?).map (zfv G h t (j + i))
  | [], j, i => by simp [zobj]
  | f :: fs, j, 0 => by simp [zobj]
  | f :: fs, j, i + 1 => by
    simp only [zobj, List.getElem?_cons_succ]
    rw [zobj_get G h t fs (j + 1) i]
    congr 2
    omega
theorem zobj_len (G : zG) (h : zH) (t : Nat) : ∀ (fs : List Nat) (j : Nat), (zobj G h t j fs).length = fs.length
  | [], j => rfl
  | f :: fs, j => by simp [zobj, zobj_len G h t fs (j + 1)]
theorem zobj_eq (G : zG) {h h' : zH} {t : Nat} (h1 : ∀ j, h'.1 t j = h.1 t j) (h2 : ∀ j, h'.2 t j = h.2 t j) : ∀ (fs : List Nat) (j : Nat), zobj G h' t j fs = zobj G h t j fs
  | [], j => rfl
  | f :: fs, j => by
    simp only [zobj]
    rw [zobj_eq G h1 h2 fs (j + 1)]
    congr 1
    unfold zfv
    split
    · rw [h1]
    · rw [h2]
    · rfl
def zcell (G : zG) (h : zH) (t : Nat) : va_E := match (zT t).1 with
  | 20 => .inl (G.2.2.1.1 20, (zT t).2, .inl (h.1 t))
  | 21 => .inl (G.2.2.1.1 21, (zT t).2, .inr (.inl (h.2 t)))
  | 22 => .inl (G.2.2.1.1 22, (zT t).2, .inl (h.1 t))
  | 23 => .inl (G.2.2.1.1 23, (zT t).2, .inl (h.1 t))
  | 24 => .inl (G.2.2.1.1 24, (zT t).2, .inr (.inr (.inr (.inr (fun i => some (G.2.2.2 (zR t i)))))))
  | 25 => .inl (G.2.2.1.1 25, (zT t).2, .inr (.inr (.inr (.inr (fun i => some (G.2.2.2 (zR t i)))))))
  | k => .inr (k, zobj G h t 0 (zF k))
theorem zcell_eq (G : zG) {h h' : zH} {t : Nat} (h1 : ∀ j, h'.1 t j = h.1 t j) (h2 : ∀ j, h'.2 t j = h.2 t j) : zcell G h' t = zcell G h t := by
  have e1 : h'.1 t = h.1 t := funext h1
  have e2 : h'.2 t = h.2 t := funext h2
  unfold zcell
  rw [e1, e2]
  split <;> first | rfl | (rw [zobj_eq G h1 h2])
def zL (G : zG) (h : zH) : va_W := (List.range zN).map fun t => (G.2.2.2 t, zcell G h t)
theorem zL_get (G : zG) (h : zH) {t : Nat} (ht : t < zN) : (zL G h)[t]? = some (G.2.2.2 t, zcell G h t) := by
  unfold zL
  rw [List.getElem?_map, List.getElem?_range ht]
  rfl
theorem zL_inv {G : zG} {h : zH} {t : Nat} {q : Nat × va_E} (hq : (zL G h)[t]? = some q) : t < zN ∧ q = (G.2.2.2 t, zcell G h t) := by
  have hl := (List.getElem?_eq_some_iff.mp hq).1
  have ht : t < zN := by simpa [zL] using hl
  rw [zL_get G h ht] at hq
  exact ⟨ht, (Option.some.inj hq).symm⟩
theorem zL_set (G : zG) {h h' : zH} {t : Nat} {e : va_E} (he : zcell G h' t = e) (ho : ∀ u, u ≠ t → zcell G h' u = zcell G h u) : (zL G h).set t (G.2.2.2 t, e) = zL G h' := by
  apply List.ext_getElem?
  intro u
  rw [List.getElem?_set]
  have hlen : (zL G h).length = zN := by simp [zL]
  by_cases hu : t = u
  · subst hu
    rw [if_pos rfl, hlen]
    by_cases hl : t < zN
    · rw [if_pos hl, zL_get G h' hl, he]
    · rw [if_neg hl, List.getElem?_eq_none (by simp [zL]; omega)]
  · rw [if_neg hu]
    by_cases hl : u < zN
    · rw [zL_get G h hl, zL_get G h' hl, ho u (fun q => hu q.symm)]
    · rw [List.getElem?_eq_none (by simp [zL]; omega), List.getElem?_eq_none (by simp [zL]; omega)]
def zD (G : zG) : Prop := (∀ i j, i < zN → j < zN → G.2.2.2 i = G.2.2.2 j → i = j) ∧ (zsv G).category = 1
def zA (G : zG) : Nat → Prop := fun q => ∃ t, t < zN ∧ G.2.2.2 t = q
theorem zD_va {G : zG} (hG : zD G) (h : zH) : va_D (zA G) (zL G h) := by
  refine ⟨fun i j p q hp hq e => ?_, fun k q hq => ?_⟩
  · obtain ⟨hi, rfl⟩ := zL_inv hp
    obtain ⟨hj, rfl⟩ := zL_inv hq
    exact hG.1 i j hi hj e
  · obtain ⟨hk, rfl⟩ := zL_inv hq
    exact ⟨k, hk, rfl⟩
def zTy (G : zG) : List (ClassId × FieldType) := [(G.2.2.1.1 20, .int), (G.2.2.1.1 21, .long), (G.2.2.1.1 22, .boolean), (G.2.2.1.1 23, .char), (G.2.2.1.1 24, .object "VoteAgainst$Standing"), (G.2.2.1.1 25, .object "VoteAgainst$Moment")]
def zTb : List Cond := lw_tbl.filter goodWord
theorem zTb_in {w : Cond} (i : Nat) (h : lw_tbl[i]? = some w) (g : goodWord w = true) : w ∈ zTb := List.mem_filter.mpr ⟨List.mem_of_getElem? h, g⟩
theorem zTb_good {w : Cond} (h : w ∈ zTb) : goodWord w = true := (List.mem_filter.mp h).2
def zt0 : String := "()<=+-*;"
def zt1 : String := "person age envy grudge heir bar dead ties grows eases tax gift cast die day stay lapse old young plain saint hot hermit not and or has jealous years known "
def zlen : List Nat := [8, 155]
def zby0 : List Int32 := [40, 41, 60, 61, 43, 45, 42, 59]
def zby1 : List Int32 := [112, 101, 114, 115, 111, 110, 32, 97, 103, 101, 32, 101, 110, 118, 121, 32, 103, 114, 117, 100, 103, 101, 32, 104, 101, 105, 114, 32, 98, 97, 114, 32, 100, 101, 97, 100, 32, 116, 105, 101, 115, 32, 103, 114, 111, 119, 115, 32, 101, 97, 115, 101, 115, 32, 116, 97, 120, 32, 103, 105, 102, 116, 32, 99, 97, 115, 116, 32, 100, 105, 101, 32, 100, 97, 121, 32, 115, 116, 97, 121, 32, 108, 97, 112, 115, 101, 32, 111, 108, 100, 32, 121, 111, 117, 110, 103, 32, 112, 108, 97, 105, 110, 32, 115, 97, 105, 110, 116, 32, 104, 111, 116, 32, 104, 101, 114, 109, 105, 116, 32, 110, 111, 116, 32, 97, 110, 100, 32, 111, 114, 32, 104, 97, 115, 32, 106, 101, 97, 108, 111, 117, 115, 32, 121, 101, 97, 114, 115, 32, 107, 110, 111, 119, 110, 32]
def zbyt : List (List Int32) := [zby0, zby1]
def zDc : List MethodName := [⟨"VoteAgainst$Reader", "begin", "()V"⟩, ⟨"VoteAgainst$Reader", "readLine", "()Z"⟩]
/-- what is carried of the world outside: the String constants, two statics, two abstract methods -/
def zS (G : zG) (U : State) (H : Heap) : Prop := vk_S 2 zlen zbyt G.2.2.1.2.1 G.2.2.1.2.2.1 (zA G) U H ∧ vk_R "VoteAgainst$Tape" 49 zt0 (zk G 0) U ∧ vk_R "VoteAgainst$Tape" 60 zt1 (zk G 1) U ∧ va_Z "java/lang/String" "COMPACT_STRINGS" "Z" (.int 1) (zA G) U H ∧ va_Z "jdk/internal/util/Preconditions" "SIOOBE_FORMATTER" "Ljava/util/function/BiFunction;" (zsv G) (zA G) U H ∧ ∀ x ∈ zDc, va_Nw (.declares x) U
theorem zS_call {G : zG} {s U : State} {H : Heap} {locs : List Loc} (h : zS G s s.heap) (hS : va_S (zA G) s.heap H locs) (hW : s.WarmedH U.vm) (hU : U.heap = H) : zS G U U.heap := by
  obtain ⟨h1, h2, h3, h4, h5, h6⟩ := h
  rw [hU]
  exact ⟨(h1.kept hS.2.1).moved hW.alike, h2.warm hW, h3.warm hW, (h4.kept hS.2.1).moved hW.alike, (h5.kept hS.2.1).moved hW.alike, fun x hx => va_Nw.warmD hW (h6 x hx)⟩
theorem zS_calling {G : zG} {U : State} {g : JFrame} {mk : MethodId} {a : Array Value} (h : zS G U U.heap) : zS G (U.calling g mk a) (U.calling g mk a).heap := by
  obtain ⟨h1, h2, h3, h4, h5, h6⟩ := h
  exact ⟨vk_S.moved (u := U) (U := U.calling g mk a) (Vm.Alike.refl U.vm) h1, vk_R.same (u := U) (U := U.calling g mk a) rfl h2, vk_R.same (u := U) (U := U.calling g mk a) rfl h3, va_Z.moved (u := U) (U := U.calling g mk a) (Vm.Alike.refl U.vm) h4, va_Z.moved (u := U) (U := U.calling g mk a) (Vm.Alike.refl U.vm) h5, fun x hx => va_tabs (u := U) (U := U.calling g mk a) rfl rfl (h6 x hx)⟩
abbrev zK : Type := Program × Launch × Env × Room × State × MethodId × Array Value × List Frame × Method × Code × (State → Prop)
abbrev zP (G : zG) (h : zH) (H : Heap) : Prop := va_P (G.1, G.2.1) vwCl (zL G h) H
/-- what holds of a method that runs: its code, its class, the tables' words, the classes, its room -/
def zC (K : zK) (G : zG) (cc : ByteArray) (own : String) (nL fr lo : Nat) (ret : Option FieldType) : Prop := match K with
  | (p, _, _, R, s, m, args, _, meth, c, _) => p.tables.exec = Jvm.exec ∧ c.code = cc ∧ c.maxLocals = nL ∧ s.vm.findClass own = some m.cls ∧ (∀ w ∈ zTb, w.before args s = true) ∧ va_K (G.1, G.2.1) vwCl (zTy G) s ∧ zD G ∧ fr ≤ R.frames ∧ lo ≤ R.locals ∧ meth.sig.returnType = ret ∧ meth.locks = false ∧ zS G s s.heap
/-- the machine at pc, with these locals and this stack, the system's heap as h says, comes to its end -/
def zW (K : zK) (G : zG) (nL pc : Nat) (lv : List (Nat × Value)) (st : List Value) (h : zH) : Prop := match K with
  | (p, l, e, R, s, m, args, below, meth, c, Q) => ∀ (H : Heap) (locs : List Loc) (ls : Array Slot), zP G h H → va_S (zA G) s.heap H locs → lv_has ls nL lv → W p l e R s m args below meth c H locs 0 0 Q (F0 m pc ls st)
def zQ (G : zG) (rv : Option Value) (h' : zH) : Array Value → State → Outcome → State → Prop := fun _ st o t => (o = .returned rv ∧ zP G h' t.heap) ∧ va_F (zA G) st t
def zE (K : zK) (G : zG) (rv : Option Value) (h' : zH) : Prop := match K with
  | (_, _, _, _, s, _, args, below, _, _, Q) => Q = MQ below (zQ G rv h') args s 0 0 (zA G)
/-- a method's contract: called with vs over h it answers rv and leaves h' -/
def zM (l : Launch) (G : zG) (y : MethodName) (cc : ByteArray) (maxL : Nat) (ret : Option FieldType) (fr lo : Nat) (vs : List Value) (h : zH) (rv : Option Value) (h' : zH) : Prop :=
  Met l y (Cond.code y cc maxL ret :: zTb) { frames := fr, cells := 0, slots := 0, locals := lo } (va_Pc vs (fun U => zP G h U.heap ∧ va_K (G.1, G.2.1) vwCl (zTy G) U ∧ zS G U U.heap)) (zQ G rv h') 0 0 (zA G)
set_option maxHeartbeats 4000000 in
theorem zM_of {l : Launch} {G : zG} {y : MethodName} {cc : ByteArray} {maxL : Nat} {ret : Option FieldType} {fr lo : Nat} {vs : List Value} {h : zH} {rv : Option Value} {h' : zH} (hG : zD G) (hy : plainName y.cls = true) (hn : (lg_sl vs).length ≤ maxL)
    (body : ∀ K : zK, K.2.1 = l → zC K G cc y.cls maxL fr lo ret → zE K G rv h' → zW K G maxL 0 (lv_args 0 vs) [] h) : zM l G y cc maxL ret fr lo vs h rv h' := by
  refine Met.ofW (cc := cc) (maxL := maxL) (ret := ret) hy rfl ?_
  intro p e s m args below meth c s₁ B hml hv
  obtain ⟨rfl, hP, hK, hZ⟩ := hv
  have hts := atoms_spec (ws := Cond.code y cc maxL ret :: zTb) B.pre
  have hown : s.vm.findClass y.cls = some m.cls := findClass_of_methodNamed B.named
  have hl := lv_entry vs (n := maxL) hn
  rw [lg_entry_eq]
  exact body (p, l, e, _, s, m, vs.toArray, below, meth, c, _) rfl ⟨B.exec, B.bytes, hml, hown, fun w hw => hts w (List.mem_cons_of_mem _ hw), hK, hG, Nat.le_refl _, Nat.le_refl _, B.returns, B.notSynchronized, hZ⟩ rfl s.heap [] _ hP va_S.rf hl
section Z
variable {K : zK} {G : zG} {cc : ByteArray} {own : String} {nL fr lo : Nat} {ret : Option FieldType} {pc : Nat} {lv lv' : List (Nat × Value)} {rest : List Value} {h : zH}
theorem zsub (ks : List Nat) (hl : lv_pick lv ks = lv') (k : zW K G nL pc lv' rest h) : zW K G nL pc lv rest h := by
  obtain ⟨p, l, e, R, s, m, args, below, meth, c, Q⟩ := K
  intro H locs ls hP hS hv
  exact k H locs ls hP hS (lv_sub hv ks hl)
theorem z_iconst (hK : zC K G cc own nL fr lo ret) {n : Int} {v : Int32} (hdg : decode cc pc = .ok (.iconst n, 1)) (hv : Int32.ofInt n = v) (k : zW K G nL (pc + 1) lv (.int v :: rest) h) : zW K G nL pc lv rest h := by
  obtain ⟨p, l, e, R, s, m, args, below, meth, c, Q⟩ := K
  exact fun H locs ls hP hS hl => lv_iconst hK.1 hK.2.1 hdg hv (k H locs ls hP hS hl)
theorem z_bipush (hK : zC K G cc own nL fr lo ret) {n : Int} {v : Int32} (hdg : decode cc pc = .ok (.bipush n, 2)) (hv : (Int8.ofInt n).toInt32 = v) (k : zW K G nL (pc + 2) lv (.int v :: rest) h) : zW K G nL pc lv rest h := by
  obtain ⟨p, l, e, R, s, m, args, below, meth, c, Q⟩ := K
  exact fun H locs ls hP hS hl => lv_bipush hK.1 hK.2.1 hdg hv (k H locs ls hP hS hl)
theorem z_sipush (hK : zC K G cc own nL fr lo ret) {n : Int} {v : Int32} (hdg : decode cc pc = .ok (.sipush n, 3)) (hv : (Int16.ofInt n).toInt32 = v) (k : zW K G nL (pc + 3) lv (.int v :: rest) h) : zW K G nL pc lv rest h := by
  obtain ⟨p, l, e, R, s, m, args, below, meth, c, Q⟩ := K
  exact fun H locs ls hP hS hl => lv_sipush hK.1 hK.2.1 hdg hv (k H locs ls hP hS hl)
theorem z_lconst (hK : zC K G cc own nL fr lo ret) {n : Fin 2} {v : Int64} (hdg : decode cc pc = .ok (.lconst n, 1)) (hv : Int64.ofNat (n : Nat) = v) (k : zW K G nL (pc + 1) lv (.long v :: rest) h) : zW K G nL pc lv rest h := by
  obtain ⟨p, l, e, R, s, m, args, below, meth, c, Q⟩ := K
  exact fun H locs ls hP hS hl => lv_lconst hK.1 hK.2.1 hdg hv (k H locs ls hP hS hl)
theorem z_ldc (hK : zC K G cc own nL fr lo ret) {index : Nat} {v : Int32} (hw : Cond.constant own index v ∈ zTb) (hdg : decode cc pc = .ok (.ldc index, 2)) (k : zW K G nL (pc + 2) lv (.int v :: rest) h) : zW K G nL pc lv rest h := by
  obtain ⟨p, l, e, R, s, m, args, below, meth, c, Q⟩ := K
  exact fun H locs ls hP hS hl => lv_ldc hK.1 hK.2.1 hK.2.2.2.1 (hK.2.2.2.2.1 _ hw) hdg (k H locs ls hP hS hl)
theorem z_ldcw (hK : zC K G cc own nL fr lo ret) {index : Nat} {v : Int32} (hw : Cond.constant own index v ∈ zTb) (hdg : decode cc pc = .ok (.ldc_w index, 3)) (k : zW K G nL (pc + 3) lv (.int v :: rest) h) : zW K G nL pc lv rest h := by
  obtain ⟨p, l, e, R, s, m, args, below, meth, c, Q⟩ := K
  exact fun H locs ls hP hS hl => lv_ldcw hK.1 hK.2.1 hK.2.2.2.1 (hK.2.2.2.2.1 _ hw) hdg (k H locs ls hP hS hl)
theorem z_ldc2 (hK : zC K G cc own nL fr lo ret) {index : Nat} {v : Int64} (hw : Cond.constantLong own index v ∈ zTb) (hdg : decode cc pc = .ok (.ldc2_w index, 3)) (k : zW K G nL (pc + 3) lv (.long v :: rest) h) : zW K G nL pc lv rest h := by
  obtain ⟨p, l, e, R, s, m, args, below, meth, c, Q⟩ := K
  exact fun H locs ls hP hS hl => lv_ldc2 hK.1 hK.2.1 hK.2.2.2.1 (hK.2.2.2.2.1 _ hw) hdg (k H locs ls hP hS hl)
theorem z_iload_n (hK : zC K G cc own nL fr lo ret) (j : Nat) {i : Fin 4} {x : Int32} (hdg : decode cc pc = .ok (.iload_n i, 1)) (hj : lv[j]? = some ((i : Nat), .int x)) (k : zW K G nL (pc + 1) lv (.int x :: rest) h) : zW K G nL pc lv rest h := by
  obtain ⟨p, l, e, R, s, m, args, below, meth, c, Q⟩ := K
  exact fun H locs ls hP hS hl => lv_iload_n hK.1 hK.2.1 hdg rfl (lv_at hl j hj) (k H locs ls hP hS hl)
theorem z_iload (hK : zC K G cc own nL fr lo ret) (j : Nat) {i : Nat} {x : Int32} (hdg : decode cc pc = .ok (.iload i, 2)) (hj : lv[j]? = some (i, .int x)) (k : zW K G nL (pc + 2) lv (.int x :: rest) h) : zW K G nL pc lv rest h := by
  obtain ⟨p, l, e, R, s, m, args, below, meth, c, Q⟩ := K
  exact fun H locs ls hP hS hl => lv_iload hK.1 hK.2.1 hdg (lv_at hl j hj) (k H locs ls hP hS hl)
theorem z_aload_n (hK : zC K G cc own nL fr lo ret) (j : Nat) {i : Fin 4} {x : Nat} (hdg : decode cc pc = .ok (.aload_n i, 1)) (hj : lv[j]? = some ((i : Nat), .ref x)) (k : zW K G nL (pc + 1) lv (.ref x :: rest) h) : zW K G nL pc lv rest h := by
  obtain ⟨p, l, e, R, s, m, args, below, meth, c, Q⟩ := K
  exact fun H locs ls hP hS hl => lv_aload_n hK.1 hK.2.1 hdg rfl (lv_at hl j hj) (k H locs ls hP hS hl)
theorem z_aload (hK : zC K G cc own nL fr lo ret) (j : Nat) {i : Nat} {x : Nat} (hdg : decode cc pc = .ok (.aload i, 2)) (hj : lv[j]? = some (i, .ref x)) (k : zW K G nL (pc + 2) lv (.ref x :: rest) h) : zW K G nL pc lv rest h := by
  obtain ⟨p, l, e, R, s, m, args, below, meth, c, Q⟩ := K
  exact fun H locs ls hP hS hl => lv_aload hK.1 hK.2.1 hdg (lv_at hl j hj) (k H locs ls hP hS hl)
theorem z_lload_n (hK : zC K G cc own nL fr lo ret) (j : Nat) {i : Fin 4} {x : Int64} (hdg : decode cc pc = .ok (.lload_n i, 1)) (hj : lv[j]? = some ((i : Nat), .long x)) (k : zW K G nL (pc + 1) lv (.long x :: rest) h) : zW K G nL pc lv rest h := by
  obtain ⟨p, l, e, R, s, m, args, below, meth, c, Q⟩ := K
  exact fun H locs ls hP hS hl => lv_lload_n hK.1 hK.2.1 hdg rfl (lv_at hl j hj) (k H locs ls hP hS hl)
theorem z_lload (hK : zC K G cc own nL fr lo ret) (j : Nat) {i : Nat} {x : Int64} (hdg : decode cc pc = .ok (.lload i, 2)) (hj : lv[j]? = some (i, .long x)) (k : zW K G nL (pc + 2) lv (.long x :: rest) h) : zW K G nL pc lv rest h := by
  obtain ⟨p, l, e, R, s, m, args, below, meth, c, Q⟩ := K
  exact fun H locs ls hP hS hl => lv_lload hK.1 hK.2.1 hdg (lv_at hl j hj) (k H locs ls hP hS hl)
theorem z_istore_n (hK : zC K G cc own nL fr lo ret) {i : Fin 4} {x : Int32} (hdg : decode cc pc = .ok (.istore_n i, 1)) (hn : (i : Nat) < nL) (hl : ((i : Nat), Value.int x) :: lv.filter (fun q => !(q.1 == (i : Nat)) && !(q.1 + 1 == (i : Nat) && q.2.category == 2)) = lv') (k : zW K G nL (pc + 1) lv' rest h) : zW K G nL pc lv (.int x :: rest) h := by
  obtain ⟨p, l, e, R, s, m, args, below, meth, c, Q⟩ := K
  exact fun H locs ls hP hS hv => lv_istore_n hK.1 hK.2.1 hdg rfl hv hn hl (fun ls' hv' => k H locs ls' hP hS hv')
theorem z_istore (hK : zC K G cc own nL fr lo ret) {i : Nat} {x : Int32} (hdg : decode cc pc = .ok (.istore i, 2)) (hn : i < nL) (hl : (i, Value.int x) :: lv.filter (fun q => !(q.1 == i) && !(q.1 + 1 == i && q.2.category == 2)) = lv') (k : zW K G nL (pc + 2) lv' rest h) : zW K G nL pc lv (.int x :: rest) h := by
  obtain ⟨p, l, e, R, s, m, args, below, meth, c, Q⟩ := K
  exact fun H locs ls hP hS hv => lv_istore hK.1 hK.2.1 hdg hv hn hl (fun ls' hv' => k H locs ls' hP hS hv')
theorem z_lstore_n (hK : zC K G cc own nL fr lo ret) {i : Fin 4} {x : Int64} (hdg : decode cc pc = .ok (.lstore_n i, 1)) (hn : (i : Nat) + 1 < nL) (hl : ((i : Nat), Value.long x) :: lv.filter (fun q => !(q.1 == (i : Nat)) && (!(q.1 == (i : Nat) + 1) && !(q.1 + 1 == (i : Nat) && q.2.category == 2))) = lv') (k : zW K G nL (pc + 1) lv' rest h) : zW K G nL pc lv (.long x :: rest) h := by
  obtain ⟨p, l, e, R, s, m, args, below, meth, c, Q⟩ := K
  exact fun H locs ls hP hS hv => lv_lstore_n hK.1 hK.2.1 hdg rfl hv hn hl (fun ls' hv' => k H locs ls' hP hS hv')
theorem z_lstore (hK : zC K G cc own nL fr lo ret) {i : Nat} {x : Int64} (hdg : decode cc pc = .ok (.lstore i, 2)) (hn : i + 1 < nL) (hl : (i, Value.long x) :: lv.filter (fun q => !(q.1 == i) && (!(q.1 == i + 1) && !(q.1 + 1 == i && q.2.category == 2))) = lv') (k : zW K G nL (pc + 2) lv' rest h) : zW K G nL pc lv (.long x :: rest) h := by
  obtain ⟨p, l, e, R, s, m, args, below, meth, c, Q⟩ := K
  exact fun H locs ls hP hS hv => lv_lstore hK.1 hK.2.1 hdg hv hn hl (fun ls' hv' => k H locs ls' hP hS hv')
theorem z_iinc (hK : zC K G cc own nL fr lo ret) (j : Nat) {i : Nat} {n : Int} {x v : Int32} (hdg : decode cc pc = .ok (.iinc i n, 3)) (hj : lv[j]? = some (i, .int x)) (hv : x + Int32.ofInt n = v) (hn : i < nL) (hl : (i, Value.int v) :: lv.filter (fun q => !(q.1 == i) && !(q.1 + 1 == i && q.2.category == 2)) = lv') (k : zW K G nL (pc + 3) lv' rest h) : zW K G nL pc lv rest h := by
  obtain ⟨p, l, e, R, s, m, args, below, meth, c, Q⟩ := K
  exact fun H locs ls hP hS hv2 => lv_iinc hK.1 hK.2.1 hdg hv2 hj hv hn hl (fun ls' hv' => k H locs ls' hP hS hv')
theorem z_iadd (hK : zC K G cc own nL fr lo ret) {x y : Int32} (hdg : decode cc pc = .ok (.iadd, 1)) (k : zW K G nL (pc + 1) lv (.int (x + y) :: rest) h) : zW K G nL pc lv (.int y :: .int x :: rest) h := by
  obtain ⟨p, l, e, R, s, m, args, below, meth, c, Q⟩ := K
  exact fun H locs ls hP hS hl => lv_iadd hK.1 hK.2.1 hdg (k H locs ls hP hS hl)
theorem z_isub (hK : zC K G cc own nL fr lo ret) {x y : Int32} (hdg : decode cc pc = .ok (.isub, 1)) (k : zW K G nL (pc + 1) lv (.int (x - y) :: rest) h) : zW K G nL pc lv (.int y :: .int x :: rest) h := by
  obtain ⟨p, l, e, R, s, m, args, below, meth, c, Q⟩ := K
  exact fun H locs ls hP hS hl => lv_isub hK.1 hK.2.1 hdg (k H locs ls hP hS hl)
theorem z_imul (hK : zC K G cc own nL fr lo ret) {x y : Int32} (hdg : decode cc pc = .ok (.imul, 1)) (k : zW K G nL (pc + 1) lv (.int (x * y) :: rest) h) : zW K G nL pc lv (.int y :: .int x :: rest) h := by
  obtain ⟨p, l, e, R, s, m, args, below, meth, c, Q⟩ := K
  exact fun H locs ls hP hS hl => lv_imul hK.1 hK.2.1 hdg (k H locs ls hP hS hl)
theorem z_iand (hK : zC K G cc own nL fr lo ret) {x y : Int32} (hdg : decode cc pc = .ok (.iand, 1)) (k : zW K G nL (pc + 1) lv (.int (x &&& y) :: rest) h) : zW K G nL pc lv (.int y :: .int x :: rest) h := by
  obtain ⟨p, l, e, R, s, m, args, below, meth, c, Q⟩ := K
  exact fun H locs ls hP hS hl => lv_iand hK.1 hK.2.1 hdg (k H locs ls hP hS hl)
theorem z_ior (hK : zC K G cc own nL fr lo ret) {x y : Int32} (hdg : decode cc pc = .ok (.ior, 1)) (k : zW K G nL (pc + 1) lv (.int (x ||| y) :: rest) h) : zW K G nL pc lv (.int y :: .int x :: rest) h := by
  obtain ⟨p, l, e, R, s, m, args, below, meth, c, Q⟩ := K
  exact fun H locs ls hP hS hl => lv_ior hK.1 hK.2.1 hdg (k H locs ls hP hS hl)
theorem z_ixor (hK : zC K G cc own nL fr lo ret) {x y : Int32} (hdg : decode cc pc = .ok (.ixor, 1)) (k : zW K G nL (pc + 1) lv (.int (x ^^^ y) :: rest) h) : zW K G nL pc lv (.int y :: .int x :: rest) h := by
  obtain ⟨p, l, e, R, s, m, args, below, meth, c, Q⟩ := K
  exact fun H locs ls hP hS hl => lv_ixor hK.1 hK.2.1 hdg (k H locs ls hP hS hl)
theorem z_ishl (hK : zC K G cc own nL fr lo ret) {x y : Int32} (hdg : decode cc pc = .ok (.ishl, 1)) (k : zW K G nL (pc + 1) lv (.int (x <<< (y &&& 31)) :: rest) h) : zW K G nL pc lv (.int y :: .int x :: rest) h := by
  obtain ⟨p, l, e, R, s, m, args, below, meth, c, Q⟩ := K
  exact fun H locs ls hP hS hl => lv_ishl hK.1 hK.2.1 hdg (k H locs ls hP hS hl)
theorem z_ishr (hK : zC K G cc own nL fr lo ret) {x y : Int32} (hdg : decode cc pc = .ok (.ishr, 1)) (k : zW K G nL (pc + 1) lv (.int (x >>> (y &&& 31)) :: rest) h) : zW K G nL pc lv (.int y :: .int x :: rest) h := by
  obtain ⟨p, l, e, R, s, m, args, below, meth, c, Q⟩ := K
  exact fun H locs ls hP hS hl => lv_ishr hK.1 hK.2.1 hdg (k H locs ls hP hS hl)
theorem z_iushr (hK : zC K G cc own nL fr lo ret) {x y v : Int32} (hdg : decode cc pc = .ok (.iushr, 1)) (hv : (x.toUInt32 >>> (y.toUInt32 &&& Int32.toUInt32 31)).toInt32 = v) (k : zW K G nL (pc + 1) lv (.int v :: rest) h) : zW K G nL pc lv (.int y :: .int x :: rest) h := by
  obtain ⟨p, l, e, R, s, m, args, below, meth, c, Q⟩ := K
  exact fun H locs ls hP hS hl => lv_iushr hK.1 hK.2.1 hdg hv (k H locs ls hP hS hl)
theorem z_idiv (hK : zC K G cc own nL fr lo ret) {x y : Int32} (hdg : decode cc pc = .ok (.idiv, 1)) (hne : ¬ y = 0) (k : zW K G nL (pc + 1) lv (.int (x / y) :: rest) h) : zW K G nL pc lv (.int y :: .int x :: rest) h := by
  obtain ⟨p, l, e, R, s, m, args, below, meth, c, Q⟩ := K
  exact fun H locs ls hP hS hl => lv_idiv hK.1 hK.2.1 hdg hne (k H locs ls hP hS hl)
theorem z_irem (hK : zC K G cc own nL fr lo ret) {x y : Int32} (hdg : decode cc pc = .ok (.irem, 1)) (hne : ¬ y = 0) (k : zW K G nL (pc + 1) lv (.int (x - x / y * y) :: rest) h) : zW K G nL pc lv (.int y :: .int x :: rest) h := by
  obtain ⟨p, l, e, R, s, m, args, below, meth, c, Q⟩ := K
  exact fun H locs ls hP hS hl => lv_irem hK.1 hK.2.1 hdg hne (k H locs ls hP hS hl)
theorem z_ineg (hK : zC K G cc own nL fr lo ret) {x : Int32} (hdg : decode cc pc = .ok (.ineg, 1)) (k : zW K G nL (pc + 1) lv (.int (-x) :: rest) h) : zW K G nL pc lv (.int x :: rest) h := by
  obtain ⟨p, l, e, R, s, m, args, below, meth, c, Q⟩ := K
  exact fun H locs ls hP hS hl => lv_ineg hK.1 hK.2.1 hdg (k H locs ls hP hS hl)
theorem z_ladd (hK : zC K G cc own nL fr lo ret) {x y : Int64} (hdg : decode cc pc = .ok (.ladd, 1)) (k : zW K G nL (pc + 1) lv (.long (x + y) :: rest) h) : zW K G nL pc lv (.long y :: .long x :: rest) h := by
  obtain ⟨p, l, e, R, s, m, args, below, meth, c, Q⟩ := K
  exact fun H locs ls hP hS hl => lv_ladd hK.1 hK.2.1 hdg (k H locs ls hP hS hl)
theorem z_lsub (hK : zC K G cc own nL fr lo ret) {x y : Int64} (hdg : decode cc pc = .ok (.lsub, 1)) (k : zW K G nL (pc + 1) lv (.long (x - y) :: rest) h) : zW K G nL pc lv (.long y :: .long x :: rest) h := by
  obtain ⟨p, l, e, R, s, m, args, below, meth, c, Q⟩ := K
  exact fun H locs ls hP hS hl => lv_lsub hK.1 hK.2.1 hdg (k H locs ls hP hS hl)
theorem z_lmul (hK : zC K G cc own nL fr lo ret) {x y : Int64} (hdg : decode cc pc = .ok (.lmul, 1)) (k : zW K G nL (pc + 1) lv (.long (x * y) :: rest) h) : zW K G nL pc lv (.long y :: .long x :: rest) h := by
  obtain ⟨p, l, e, R, s, m, args, below, meth, c, Q⟩ := K
  exact fun H locs ls hP hS hl => lv_lmul hK.1 hK.2.1 hdg (k H locs ls hP hS hl)
theorem z_land (hK : zC K G cc own nL fr lo ret) {x y : Int64} (hdg : decode cc pc = .ok (.land, 1)) (k : zW K G nL (pc + 1) lv (.long (x &&& y) :: rest) h) : zW K G nL pc lv (.long y :: .long x :: rest) h := by
  obtain ⟨p, l, e, R, s, m, args, below, meth, c, Q⟩ := K
  exact fun H locs ls hP hS hl => lv_land hK.1 hK.2.1 hdg (k H locs ls hP hS hl)
theorem z_lor (hK : zC K G cc own nL fr lo ret) {x y : Int64} (hdg : decode cc pc = .ok (.lor, 1)) (k : zW K G nL (pc + 1) lv (.long (x ||| y) :: rest) h) : zW K G nL pc lv (.long y :: .long x :: rest) h := by
  obtain ⟨p, l, e, R, s, m, args, below, meth, c, Q⟩ := K
  exact fun H locs ls hP hS hl => lv_lor hK.1 hK.2.1 hdg (k H locs ls hP hS hl)
theorem z_ldiv (hK : zC K G cc own nL fr lo ret) {x y : Int64} (hdg : decode cc pc = .ok (.ldiv, 1)) (hne : ¬ y = 0) (k : zW K G nL (pc + 1) lv (.long (x / y) :: rest) h) : zW K G nL pc lv (.long y :: .long x :: rest) h := by
  obtain ⟨p, l, e, R, s, m, args, below, meth, c, Q⟩ := K
  exact fun H locs ls hP hS hl => lv_ldiv hK.1 hK.2.1 hdg hne (k H locs ls hP hS hl)
theorem z_lrem (hK : zC K G cc own nL fr lo ret) {x y : Int64} (hdg : decode cc pc = .ok (.lrem, 1)) (hne : ¬ y = 0) (k : zW K G nL (pc + 1) lv (.long (x - x / y * y) :: rest) h) : zW K G nL pc lv (.long y :: .long x :: rest) h := by
  obtain ⟨p, l, e, R, s, m, args, below, meth, c, Q⟩ := K
  exact fun H locs ls hP hS hl => lv_lrem hK.1 hK.2.1 hdg hne (k H locs ls hP hS hl)
theorem z_lshl (hK : zC K G cc own nL fr lo ret) {x v : Int64} {y : Int32} (hdg : decode cc pc = .ok (.lshl, 1)) (hv : x <<< (y.toInt64 &&& 63) = v) (k : zW K G nL (pc + 1) lv (.long v :: rest) h) : zW K G nL pc lv (.int y :: .long x :: rest) h := by
  obtain ⟨p, l, e, R, s, m, args, below, meth, c, Q⟩ := K
  exact fun H locs ls hP hS hl => lv_lshl hK.1 hK.2.1 hdg hv  (k H locs ls hP hS hl)
theorem z_lushr (hK : zC K G cc own nL fr lo ret) {x v : Int64} {y : Int32} (hdg : decode cc pc = .ok (.lushr, 1)) (hv : (x.toUInt64 >>> (y.toInt64.toUInt64 &&& Int64.toUInt64 63)).toInt64 = v) (k : zW K G nL (pc + 1) lv (.long v :: rest) h) : zW K G nL pc lv (.int y :: .long x :: rest) h := by
  obtain ⟨p, l, e, R, s, m, args, below, meth, c, Q⟩ := K
  exact fun H locs ls hP hS hl => lv_lushr hK.1 hK.2.1 hdg hv (k H locs ls hP hS hl)
theorem z_lcmp (hK : zC K G cc own nL fr lo ret) {x y : Int64} (hdg : decode cc pc = .ok (.lcmp, 1)) (k : zW K G nL (pc + 1) lv (.int (lg_cmp x y) :: rest) h) : zW K G nL pc lv (.long y :: .long x :: rest) h := by
  obtain ⟨p, l, e, R, s, m, args, below, meth, c, Q⟩ := K
  exact fun H locs ls hP hS hl => W.lcmp hK.1 hK.2.1 hdg (k H locs ls hP hS hl)
theorem z_i2l (hK : zC K G cc own nL fr lo ret) {x : Int32} {v : Int64} (hdg : decode cc pc = .ok (.i2l, 1)) (hv : x.toInt64 = v) (k : zW K G nL (pc + 1) lv (.long v :: rest) h) : zW K G nL pc lv (.int x :: rest) h := by
  obtain ⟨p, l, e, R, s, m, args, below, meth, c, Q⟩ := K
  exact fun H locs ls hP hS hl => lv_i2l hK.1 hK.2.1 hdg hv (k H locs ls hP hS hl)
theorem z_l2i (hK : zC K G cc own nL fr lo ret) {x : Int64} {v : Int32} (hdg : decode cc pc = .ok (.l2i, 1)) (hv : x.toInt32 = v) (k : zW K G nL (pc + 1) lv (.int v :: rest) h) : zW K G nL pc lv (.long x :: rest) h := by
  obtain ⟨p, l, e, R, s, m, args, below, meth, c, Q⟩ := K
  exact fun H locs ls hP hS hl => lv_l2i hK.1 hK.2.1 hdg hv (k H locs ls hP hS hl)
theorem z_i2c (hK : zC K G cc own nL fr lo ret) {x v : Int32} (hdg : decode cc pc = .ok (.i2c, 1)) (hv : (x.toUInt32 % 65536).toInt32 = v) (k : zW K G nL (pc + 1) lv (.int v :: rest) h) : zW K G nL pc lv (.int x :: rest) h := by
  obtain ⟨p, l, e, R, s, m, args, below, meth, c, Q⟩ := K
  exact fun H locs ls hP hS hl => lv_i2c hK.1 hK.2.1 hdg hv (k H locs ls hP hS hl)
theorem z_dup (hK : zC K G cc own nL fr lo ret) {va : Value} (hdg : decode cc pc = .ok (.dup, 1)) (hva : va.category = 1) (k : zW K G nL (pc + 1) lv (va :: va :: rest) h) : zW K G nL pc lv (va :: rest) h := by
  obtain ⟨p, l, e, R, s, m, args, below, meth, c, Q⟩ := K
  exact fun H locs ls hP hS hl => lv_dup hK.1 hK.2.1 hdg hva (k H locs ls hP hS hl)
theorem z_pop (hK : zC K G cc own nL fr lo ret) {va : Value} (hdg : decode cc pc = .ok (.pop, 1)) (hva : va.category = 1) (k : zW K G nL (pc + 1) lv (rest) h) : zW K G nL pc lv (va :: rest) h := by
  obtain ⟨p, l, e, R, s, m, args, below, meth, c, Q⟩ := K
  exact fun H locs ls hP hS hl => lv_pop hK.1 hK.2.1 hdg hva (k H locs ls hP hS hl)
theorem z_dup2 (hK : zC K G cc own nL fr lo ret) {va vb : Value} (hdg : decode cc pc = .ok (.dup2, 1)) (hva : va.category = 1) (hvb : vb.category = 1) (k : zW K G nL (pc + 1) lv (va :: vb :: va :: vb :: rest) h) : zW K G nL pc lv (va :: vb :: rest) h := by
  obtain ⟨p, l, e, R, s, m, args, below, meth, c, Q⟩ := K
  exact fun H locs ls hP hS hl => lv_dup2_11 hK.1 hK.2.1 hdg hva hvb (k H locs ls hP hS hl)
theorem z_icmp_eq (hK : zC K G cc own nL fr lo ret) {x y : Int32} {off : Int} (tgt : Nat) (hdg : decode cc pc = .ok (.if_icmp .eq off, 3)) (ht : (pc : Int) + off = (tgt : Int)) (kt : x = y → zW K G nL tgt lv rest h) (kf : ¬ x = y → zW K G nL (pc + 3) lv rest h) : zW K G nL pc lv (.int y :: .int x :: rest) h := by
  obtain ⟨p, l, e, R, s, m, args, below, meth, c, Q⟩ := K
  exact fun H locs ls hP hS hl => lv_icmp_eq hK.1 hK.2.1 hdg ht (fun z => kt z H locs ls hP hS hl) (fun z => kf z H locs ls hP hS hl)
theorem z_if_eq (hK : zC K G cc own nL fr lo ret) {x : Int32} {off : Int} (tgt : Nat) (hdg : decode cc pc = .ok (.ifCond .eq off, 3)) (ht : (pc : Int) + off = (tgt : Int)) (kt : x = 0 → zW K G nL tgt lv rest h) (kf : ¬ x = 0 → zW K G nL (pc + 3) lv rest h) : zW K G nL pc lv (.int x :: rest) h := by
  obtain ⟨p, l, e, R, s, m, args, below, meth, c, Q⟩ := K
  exact fun H locs ls hP hS hl => lv_if_eq hK.1 hK.2.1 hdg ht (fun z => kt z H locs ls hP hS hl) (fun z => kf z H locs ls hP hS hl)
theorem z_icmp_ne (hK : zC K G cc own nL fr lo ret) {x y : Int32} {off : Int} (tgt : Nat) (hdg : decode cc pc = .ok (.if_icmp .ne off, 3)) (ht : (pc : Int) + off = (tgt : Int)) (kt : ¬ x = y → zW K G nL tgt lv rest h) (kf : x = y → zW K G nL (pc + 3) lv rest h) : zW K G nL pc lv (.int y :: .int x :: rest) h := by
  obtain ⟨p, l, e, R, s, m, args, below, meth, c, Q⟩ := K
  exact fun H locs ls hP hS hl => lv_icmp_ne hK.1 hK.2.1 hdg ht (fun z => kt z H locs ls hP hS hl) (fun z => kf z H locs ls hP hS hl)
theorem z_if_ne (hK : zC K G cc own nL fr lo ret) {x : Int32} {off : Int} (tgt : Nat) (hdg : decode cc pc = .ok (.ifCond .ne off, 3)) (ht : (pc : Int) + off = (tgt : Int)) (kt : ¬ x = 0 → zW K G nL tgt lv rest h) (kf : x = 0 → zW K G nL (pc + 3) lv rest h) : zW K G nL pc lv (.int x :: rest) h := by
  obtain ⟨p, l, e, R, s, m, args, below, meth, c, Q⟩ := K
  exact fun H locs ls hP hS hl => lv_if_ne hK.1 hK.2.1 hdg ht (fun z => kt z H locs ls hP hS hl) (fun z => kf z H locs ls hP hS hl)
theorem z_icmp_lt (hK : zC K G cc own nL fr lo ret) {x y : Int32} {off : Int} (tgt : Nat) (hdg : decode cc pc = .ok (.if_icmp .lt off, 3)) (ht : (pc : Int) + off = (tgt : Int)) (kt : x < y → zW K G nL tgt lv rest h) (kf : ¬ x < y → zW K G nL (pc + 3) lv rest h) : zW K G nL pc lv (.int y :: .int x :: rest) h := by
  obtain ⟨p, l, e, R, s, m, args, below, meth, c, Q⟩ := K
  exact fun H locs ls hP hS hl => lv_icmp_lt hK.1 hK.2.1 hdg ht (fun z => kt z H locs ls hP hS hl) (fun z => kf z H locs ls hP hS hl)
theorem z_if_lt (hK : zC K G cc own nL fr lo ret) {x : Int32} {off : Int} (tgt : Nat) (hdg : decode cc pc = .ok (.ifCond .lt off, 3)) (ht : (pc : Int) + off = (tgt : Int)) (kt : x < 0 → zW K G nL tgt lv rest h) (kf : ¬ x < 0 → zW K G nL (pc + 3) lv rest h) : zW K G nL pc lv (.int x :: rest) h := by
  obtain ⟨p, l, e, R, s, m, args, below, meth, c, Q⟩ := K
  exact fun H locs ls hP hS hl => lv_if_lt hK.1 hK.2.1 hdg ht (fun z => kt z H locs ls hP hS hl) (fun z => kf z H locs ls hP hS hl)
theorem z_icmp_ge (hK : zC K G cc own nL fr lo ret) {x y : Int32} {off : Int} (tgt : Nat) (hdg : decode cc pc = .ok (.if_icmp .ge off, 3)) (ht : (pc : Int) + off = (tgt : Int)) (kt : y ≤ x → zW K G nL tgt lv rest h) (kf : ¬ y ≤ x → zW K G nL (pc + 3) lv rest h) : zW K G nL pc lv (.int y :: .int x :: rest) h := by
  obtain ⟨p, l, e, R, s, m, args, below, meth, c, Q⟩ := K
  exact fun H locs ls hP hS hl => lv_icmp_ge hK.1 hK.2.1 hdg ht (fun z => kt z H locs ls hP hS hl) (fun z => kf z H locs ls hP hS hl)
theorem z_if_ge (hK : zC K G cc own nL fr lo ret) {x : Int32} {off : Int} (tgt : Nat) (hdg : decode cc pc = .ok (.ifCond .ge off, 3)) (ht : (pc : Int) + off = (tgt : Int)) (kt : 0 ≤ x → zW K G nL tgt lv rest h) (kf : ¬ 0 ≤ x → zW K G nL (pc + 3) lv rest h) : zW K G nL pc lv (.int x :: rest) h := by
  obtain ⟨p, l, e, R, s, m, args, below, meth, c, Q⟩ := K
  exact fun H locs ls hP hS hl => lv_if_ge hK.1 hK.2.1 hdg ht (fun z => kt z H locs ls hP hS hl) (fun z => kf z H locs ls hP hS hl)
theorem z_icmp_gt (hK : zC K G cc own nL fr lo ret) {x y : Int32} {off : Int} (tgt : Nat) (hdg : decode cc pc = .ok (.if_icmp .gt off, 3)) (ht : (pc : Int) + off = (tgt : Int)) (kt : y < x → zW K G nL tgt lv rest h) (kf : ¬ y < x → zW K G nL (pc + 3) lv rest h) : zW K G nL pc lv (.int y :: .int x :: rest) h := by
  obtain ⟨p, l, e, R, s, m, args, below, meth, c, Q⟩ := K
  exact fun H locs ls hP hS hl => lv_icmp_gt hK.1 hK.2.1 hdg ht (fun z => kt z H locs ls hP hS hl) (fun z => kf z H locs ls hP hS hl)
theorem z_if_gt (hK : zC K G cc own nL fr lo ret) {x : Int32} {off : Int} (tgt : Nat) (hdg : decode cc pc = .ok (.ifCond .gt off, 3)) (ht : (pc : Int) + off = (tgt : Int)) (kt : 0 < x → zW K G nL tgt lv rest h) (kf : ¬ 0 < x → zW K G nL (pc + 3) lv rest h) : zW K G nL pc lv (.int x :: rest) h := by
  obtain ⟨p, l, e, R, s, m, args, below, meth, c, Q⟩ := K
  exact fun H locs ls hP hS hl => lv_if_gt hK.1 hK.2.1 hdg ht (fun z => kt z H locs ls hP hS hl) (fun z => kf z H locs ls hP hS hl)
theorem z_icmp_le (hK : zC K G cc own nL fr lo ret) {x y : Int32} {off : Int} (tgt : Nat) (hdg : decode cc pc = .ok (.if_icmp .le off, 3)) (ht : (pc : Int) + off = (tgt : Int)) (kt : x ≤ y → zW K G nL tgt lv rest h) (kf : ¬ x ≤ y → zW K G nL (pc + 3) lv rest h) : zW K G nL pc lv (.int y :: .int x :: rest) h := by
  obtain ⟨p, l, e, R, s, m, args, below, meth, c, Q⟩ := K
  exact fun H locs ls hP hS hl => lv_icmp_le hK.1 hK.2.1 hdg ht (fun z => kt z H locs ls hP hS hl) (fun z => kf z H locs ls hP hS hl)
theorem z_if_le (hK : zC K G cc own nL fr lo ret) {x : Int32} {off : Int} (tgt : Nat) (hdg : decode cc pc = .ok (.ifCond .le off, 3)) (ht : (pc : Int) + off = (tgt : Int)) (kt : x ≤ 0 → zW K G nL tgt lv rest h) (kf : ¬ x ≤ 0 → zW K G nL (pc + 3) lv rest h) : zW K G nL pc lv (.int x :: rest) h := by
  obtain ⟨p, l, e, R, s, m, args, below, meth, c, Q⟩ := K
  exact fun H locs ls hP hS hl => lv_if_le hK.1 hK.2.1 hdg ht (fun z => kt z H locs ls hP hS hl) (fun z => kf z H locs ls hP hS hl)
theorem z_goto (hK : zC K G cc own nL fr lo ret) {off : Int} (tgt : Nat) (hdg : decode cc pc = .ok (.goto off, 3)) (ht : (pc : Int) + off = (tgt : Int)) (k : zW K G nL tgt lv rest h) : zW K G nL pc lv rest h := by
  obtain ⟨p, l, e, R, s, m, args, below, meth, c, Q⟩ := K
  exact fun H locs ls hP hS hl => lv_goto hK.1 hK.2.1 hdg ht (k H locs ls hP hS hl)
theorem z_tableIn (hK : zC K G cc own nL fr lo ret) {dflt lw hi : Int} {offs : Array Int} {len : Nat} {x : Int32} {off : Int} (tgt : Nat) (hdg : decode cc pc = .ok (.tableswitch dflt lw hi offs, len)) (h1 : ¬ x.toInt < lw) (h2 : ¬ hi < x.toInt) (ho : offs[(x.toInt - lw).toNat]? = some off) (ht : (pc : Int) + off = (tgt : Int)) (k : zW K G nL tgt lv rest h) : zW K G nL pc lv (.int x :: rest) h := by
  obtain ⟨p, l, e, R, s, m, args, below, meth, c, Q⟩ := K
  exact fun H locs ls hP hS hl => lv_tableIn hK.1 hK.2.1 hdg h1 h2 ho ht (k H locs ls hP hS hl)
theorem z_tableOut (hK : zC K G cc own nL fr lo ret) {dflt lw hi : Int} {offs : Array Int} {len : Nat} {x : Int32} (tgt : Nat) (hdg : decode cc pc = .ok (.tableswitch dflt lw hi offs, len)) (h1 : x.toInt < lw ∨ hi < x.toInt) (ht : (pc : Int) + dflt = (tgt : Int)) (k : zW K G nL tgt lv rest h) : zW K G nL pc lv (.int x :: rest) h := by
  obtain ⟨p, l, e, R, s, m, args, below, meth, c, Q⟩ := K
  exact fun H locs ls hP hS hl => lv_tableOut hK.1 hK.2.1 hdg h1 ht (k H locs ls hP hS hl)
theorem z_lookup (hK : zC K G cc own nL fr lo ret) {dflt : Int} {ps : Array (Int × Int)} {len : Nat} {x : Int32} {off : Int} (tgt : Nat) (hdg : decode cc pc = .ok (.lookupswitch dflt ps, len)) (hp : (ps.toList.zip (ps.toList.drop 1)).all (fun (a, next) => a.1 < next.1) = true) (ho : Op.lookupswitch.offset ps.toList dflt x.toInt = off) (ht : (pc : Int) + off = (tgt : Int)) (k : zW K G nL tgt lv rest h) : zW K G nL pc lv (.int x :: rest) h := by
  obtain ⟨p, l, e, R, s, m, args, below, meth, c, Q⟩ := K
  exact fun H locs ls hP hS hl => lv_lookup hK.1 hK.2.1 hdg hp ho ht (k H locs ls hP hS hl)
end Z
