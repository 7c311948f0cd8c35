/-! what the written rows use besides -/
def zfu : Nat := 4000
def zlet {α β : Type} (a : α) (f : α → Option β) : Option β := f a
theorem zlet_some {α β : Type} {a : α} {f : α → Option β} {r : β} (h : zlet a f = some r) : ∃ v, v = a ∧ f v = some r := ⟨a, rfl, h⟩
theorem zin_lt {i : Int32} {n : Nat} (h : zin i n = true) : zx i < n := by
  simp only [zin, Bool.and_eq_true] at h
  exact of_decide_eq_true h.2
theorem zbit_zb (b : Bool) : zbit (zb b) = true := by cases b <;> rfl
theorem zbit_eq {x : Int32} (h : zbit x = true) : x = zb (x == 1) := by
  have h01 : x = 0 ∨ x = 1 := by simpa [zbit] using h
  rcases h01 with rfl | rfl <;> rfl
theorem zne0i {y : Int32} (h : (y != 0) = true) : ¬ y = 0 := by simpa using h
theorem zne0l {y : Int64} (h : (y != 0) = true) : ¬ y = 0 := by simpa using h
theorem zne_i {x k : Int32} (h : ¬ x = k) : ¬ x.toInt = k.toInt := fun e => h (Int32.toInt_inj.mp e)
theorem zC_D {K : zK} {G : zG} {cc : ByteArray} {own : String} {nL fr lo : Nat} {ret : Option FieldType} (hK : zC K G cc own nL fr lo ret) : zD G := by
  obtain ⟨p, l, e, R, s, m, args, below, meth, c, Q⟩ := K
  exact hK.2.2.2.2.2.2.1
section Z3
variable {K : zK} {G : zG} {cc : ByteArray} {own : String} {nL fr lo : Nat} {ret : Option FieldType} {pc : Nat} {lv lv' : List (Nat × Value)} {rest st : List Value} {h h' : zH} {t : Nat}
theorem z_nameI {x v : Int32} (e : v = x) (k : zW K G nL pc lv (.int v :: rest) h) : zW K G nL pc lv (.int x :: rest) h := e ▸ k
theorem z_nameL {x v : Int64} (e : v = x) (k : zW K G nL pc lv (.long v :: rest) h) : zW K G nL pc lv (.long x :: rest) h := e ▸ k
theorem z_nameH (e : h' = h) (k : zW K G nL pc lv st h') : zW K G nL pc lv st h := e ▸ k
theorem z_iretP (hK : zC K G cc own nL fr lo (some .int)) {v r : Int32} (hE : zE K G (some (.int r)) h) (hg : some v = some r) (hdg : decode cc pc = .ok (.ireturn, 1)) : zW K G nL pc lv [.int v] h := by
  cases hg
  exact z_iret hK hE hdg
theorem z_iretE (hK : zC K G cc own nL fr lo (some .int)) {v : Int32} {r : Int32 × zH} (hE : zE K G (some (.int r.1)) r.2) (hg : some (v, h) = some r) (hdg : decode cc pc = .ok (.ireturn, 1)) : zW K G nL pc lv [.int v] h := by
  cases hg
  exact z_iret hK hE hdg
theorem z_zretP (hK : zC K G cc own nL fr lo (some .boolean)) {v : Int32} {b r : Bool} (hv : v = zb b) (hE : zE K G (some (.int (zb r))) h) (hg : some b = some r) (hdg : decode cc pc = .ok (.ireturn, 1)) : zW K G nL pc lv [.int v] h := by
  cases hg
  subst hv
  exact z_zret hK (zbit_zb _) hE hdg
theorem z_zretE (hK : zC K G cc own nL fr lo (some .boolean)) {v : Int32} {b : Bool} {r : Bool × zH} (hv : v = zb b) (hE : zE K G (some (.int (zb r.1))) r.2) (hg : some (b, h) = some r) (hdg : decode cc pc = .ok (.ireturn, 1)) : zW K G nL pc lv [.int v] h := by
  cases hg
  subst hv
  exact z_zret hK (zbit_zb _) hE hdg
theorem z_lretP (hK : zC K G cc own nL fr lo (some .long)) {v r : Int64} (hE : zE K G (some (.long r)) h) (hg : some v = some r) (hdg : decode cc pc = .ok (.lreturn, 1)) : zW K G nL pc lv [.long v] h := by
  cases hg
  exact z_lret hK hE hdg
theorem z_vretE (hK : zC K G cc own nL fr lo none) {r : zH} (hE : zE K G none r) (hg : some h = some r) (hdg : decode cc pc = .ok (.return_, 1)) : zW K G nL pc lv [] h := by
  cases hg
  exact z_vret hK hE hdg
theorem z_vretP (hK : zC K G cc own nL fr lo none) {r : Unit} (hE : zE K G none h) (_ : some () = some r) (hdg : decode cc pc = .ok (.return_, 1)) : zW K G nL pc lv [] h := z_vret hK hE hdg
theorem z_callVi (hK : zC K G cc own nL fr lo ret) {y : MethodName} {bytes : ByteArray} {maxL fr' lo' ci n n0 index : Nat} {ret' : Option FieldType} (As : List Value) {v : Int32} (hM : zM K.2.1 G y bytes maxL ret' fr' lo' (.ref (G.2.2.2 t) :: As) h (some (.int v)) h') (hv : zVf y bytes maxL ret' ci n) (hl : Cond.methodLink own index y ∈ zTb) (ht : zT t = (ci, n0)) (hn : As.length = n) (rest : List Value) (hst : st = As.reverse ++ .ref (G.2.2.2 t) :: rest) (hr : (rest.map fun v => v.category).sum ≤ 8) (hR : fr' + 1 ≤ fr ∧ 8 + (maxL + 11) + lo' ≤ lo) (hdg : decode cc pc = .ok (.invokevirtual index, 3)) (k : zW K G nL (pc + 3) lv (.int v :: rest) h') : zW K G nL pc lv st h :=
  z_callV hK As hM hv hl ht hn rest hst hr hR hdg k
theorem z_callVl (hK : zC K G cc own nL fr lo ret) {y : MethodName} {bytes : ByteArray} {maxL fr' lo' ci n n0 index : Nat} {ret' : Option FieldType} (As : List Value) {v : Int64} (hM : zM K.2.1 G y bytes maxL ret' fr' lo' (.ref (G.2.2.2 t) :: As) h (some (.long v)) h') (hv : zVf y bytes maxL ret' ci n) (hl : Cond.methodLink own index y ∈ zTb) (ht : zT t = (ci, n0)) (hn : As.length = n) (rest : List Value) (hst : st = As.reverse ++ .ref (G.2.2.2 t) :: rest) (hr : (rest.map fun v => v.category).sum ≤ 8) (hR : fr' + 1 ≤ fr ∧ 8 + (maxL + 11) + lo' ≤ lo) (hdg : decode cc pc = .ok (.invokevirtual index, 3)) (k : zW K G nL (pc + 3) lv (.long v :: rest) h') : zW K G nL pc lv st h :=
  z_callV hK As hM hv hl ht hn rest hst hr hR hdg k
theorem z_callVv (hK : zC K G cc own nL fr lo ret) {y : MethodName} {bytes : ByteArray} {maxL fr' lo' ci n n0 index : Nat} {ret' : Option FieldType} (As : List Value) (hM : zM K.2.1 G y bytes maxL ret' fr' lo' (.ref (G.2.2.2 t) :: As) h none h') (hv : zVf y bytes maxL ret' ci n) (hl : Cond.methodLink own index y ∈ zTb) (ht : zT t = (ci, n0)) (hn : As.length = n) (rest : List Value) (hst : st = As.reverse ++ .ref (G.2.2.2 t) :: rest) (hr : (rest.map fun v => v.category).sum ≤ 8) (hR : fr' + 1 ≤ fr ∧ 8 + (maxL + 11) + lo' ≤ lo) (hdg : decode cc pc = .ok (.invokevirtual index, 3)) (k : zW K G nL (pc + 3) lv (rest) h') : zW K G nL pc lv st h :=
  z_callV hK As hM hv hl ht hn rest hst hr hR hdg k
theorem z_callSi (hK : zC K G cc own nL fr lo ret) {y : MethodName} {bytes : ByteArray} {maxL fr' lo' n index : Nat} {ret' : Option FieldType} (As : List Value) {v : Int32} (hM : zM K.2.1 G y bytes maxL ret' fr' lo' As h (some (.int v)) h') (hv : zSf y bytes maxL ret' n) (hl : Cond.methodLink own index y ∈ zTb) (hn : As.length = n) (rest : List Value) (hst : st = As.reverse ++ rest) (hr : (rest.map fun v => v.category).sum ≤ 8) (hR : fr' + 1 ≤ fr ∧ 8 + (maxL + 11) + lo' ≤ lo) (hdg : decode cc pc = .ok (.invokestatic index, 3)) (k : zW K G nL (pc + 3) lv (.int v :: rest) h') : zW K G nL pc lv st h :=
  z_callS hK As hM hv hl hn rest hst hr hR hdg k
theorem z_callSl (hK : zC K G cc own nL fr lo ret) {y : MethodName} {bytes : ByteArray} {maxL fr' lo' n index : Nat} {ret' : Option FieldType} (As : List Value) {v : Int64} (hM : zM K.2.1 G y bytes maxL ret' fr' lo' As h (some (.long v)) h') (hv : zSf y bytes maxL ret' n) (hl : Cond.methodLink own index y ∈ zTb) (hn : As.length = n) (rest : List Value) (hst : st = As.reverse ++ rest) (hr : (rest.map fun v => v.category).sum ≤ 8) (hR : fr' + 1 ≤ fr ∧ 8 + (maxL + 11) + lo' ≤ lo) (hdg : decode cc pc = .ok (.invokestatic index, 3)) (k : zW K G nL (pc + 3) lv (.long v :: rest) h') : zW K G nL pc lv st h :=
  z_callS hK As hM hv hl hn rest hst hr hR hdg k
theorem z_callSv (hK : zC K G cc own nL fr lo ret) {y : MethodName} {bytes : ByteArray} {maxL fr' lo' n index : Nat} {ret' : Option FieldType} (As : List Value) (hM : zM K.2.1 G y bytes maxL ret' fr' lo' As h none h') (hv : zSf y bytes maxL ret' n) (hl : Cond.methodLink own index y ∈ zTb) (hn : As.length = n) (rest : List Value) (hst : st = As.reverse ++ rest) (hr : (rest.map fun v => v.category).sum ≤ 8) (hR : fr' + 1 ≤ fr ∧ 8 + (maxL + 11) + lo' ≤ lo) (hdg : decode cc pc = .ok (.invokestatic index, 3)) (k : zW K G nL (pc + 3) lv (rest) h') : zW K G nL pc lv st h :=
  z_callS hK As hM hv hl hn rest hst hr hR hdg k
theorem z_callUi (hK : zC K G cc own nL fr lo ret) {x y : MethodName} {owner : String} {bytes : ByteArray} {maxL fr' lo' ci n n0 index : Nat} {ret' : Option FieldType} (As : List Value) {v : Int32} (hM : zM K.2.1 G y bytes maxL ret' fr' lo' (.ref (G.2.2.2 t) :: As) h (some (.int v)) h') (hv : zUf x y owner bytes maxL ret' ci n) (hl : Cond.methodLink own index x ∈ zTb) (ht : zT t = (ci, n0)) (hn : As.length = n) (rest : List Value) (hst : st = As.reverse ++ .ref (G.2.2.2 t) :: rest) (hr : (rest.map fun v => v.category).sum ≤ 8) (hR : fr' + 1 ≤ fr ∧ 8 + (maxL + 11) + lo' ≤ lo) (hdg : decode cc pc = .ok (.invokevirtual index, 3)) (k : zW K G nL (pc + 3) lv (.int v :: rest) h') : zW K G nL pc lv st h :=
  z_callU hK As hM hv hl ht hn rest hst hr hR hdg k
theorem z_callUl (hK : zC K G cc own nL fr lo ret) {x y : MethodName} {owner : String} {bytes : ByteArray} {maxL fr' lo' ci n n0 index : Nat} {ret' : Option FieldType} (As : List Value) {v : Int64} (hM : zM K.2.1 G y bytes maxL ret' fr' lo' (.ref (G.2.2.2 t) :: As) h (some (.long v)) h') (hv : zUf x y owner bytes maxL ret' ci n) (hl : Cond.methodLink own index x ∈ zTb) (ht : zT t = (ci, n0)) (hn : As.length = n) (rest : List Value) (hst : st = As.reverse ++ .ref (G.2.2.2 t) :: rest) (hr : (rest.map fun v => v.category).sum ≤ 8) (hR : fr' + 1 ≤ fr ∧ 8 + (maxL + 11) + lo' ≤ lo) (hdg : decode cc pc = .ok (.invokevirtual index, 3)) (k : zW K G nL (pc + 3) lv (.long v :: rest) h') : zW K G nL pc lv st h :=
  z_callU hK As hM hv hl ht hn rest hst hr hR hdg k
theorem z_callUv (hK : zC K G cc own nL fr lo ret) {x y : MethodName} {owner : String} {bytes : ByteArray} {maxL fr' lo' ci n n0 index : Nat} {ret' : Option FieldType} (As : List Value) (hM : zM K.2.1 G y bytes maxL ret' fr' lo' (.ref (G.2.2.2 t) :: As) h none h') (hv : zUf x y owner bytes maxL ret' ci n) (hl : Cond.methodLink own index x ∈ zTb) (ht : zT t = (ci, n0)) (hn : As.length = n) (rest : List Value) (hst : st = As.reverse ++ .ref (G.2.2.2 t) :: rest) (hr : (rest.map fun v => v.category).sum ≤ 8) (hR : fr' + 1 ≤ fr ∧ 8 + (maxL + 11) + lo' ≤ lo) (hdg : decode cc pc = .ok (.invokevirtual index, 3)) (k : zW K G nL (pc + 3) lv (rest) h') : zW K G nL pc lv st h :=
  z_callU hK As hM hv hl ht hn rest hst hr hR hdg k
end Z3
theorem zlay {ws : List Cond} (ps : List Nat) (hp : ws = ps.filterMap (fun i => lw_tbl[i]?)) (hg : ws.all goodWord = true) : ∀ w ∈ ws, w ∈ zTb := by
  intro w hw
  have h1 := List.all_eq_true.mp hg w hw
  rw [hp] at hw
  obtain ⟨i, -, hi⟩ := List.mem_filterMap.mp hw
  exact zTb_in i hi h1
theorem zTb_m {w : Cond} (h : w ∈ lw_tbl) (g : goodWord w = true) : w ∈ zTb := List.mem_filter.mpr ⟨h, g⟩
theorem zq_sel {q : MethodName × Nat} (i : Nat) (h : lw_privs[i]? = some q) (g : goodWord (Cond.selects q.1.cls q.1 q.1) = true) : Cond.selects q.1.cls q.1 q.1 ∈ zTb := zTb_m (List.mem_append_left _ (List.mem_map_of_mem (List.mem_of_getElem? h))) g
theorem zq_1 {w : Cond} (i : Nat) (h : tables_1_1[i]? = some w) (g : goodWord w = true) : w ∈ zTb := zTb_m (List.mem_append_right _ (show w ∈ tables_1 from (List.mem_append_left _ (List.mem_of_getElem? h)))) g
theorem zq_2 {w : Cond} (i : Nat) (h : tables_1_2[i]? = some w) (g : goodWord w = true) : w ∈ zTb := zTb_m (List.mem_append_right _ (show w ∈ tables_1 from (List.mem_append_right _ (List.mem_append_left _ (List.mem_of_getElem? h))))) g
theorem zq_3 {w : Cond} (i : Nat) (h : tables_1_3[i]? = some w) (g : goodWord w = true) : w ∈ zTb := zTb_m (List.mem_append_right _ (show w ∈ tables_1 from (List.mem_append_right _ (List.mem_append_right _ (List.mem_append_left _ (List.mem_of_getElem? h)))))) g
theorem zq_4 {w : Cond} (i : Nat) (h : tables_1_4[i]? = some w) (g : goodWord w = true) : w ∈ zTb := zTb_m (List.mem_append_right _ (show w ∈ tables_1 from (List.mem_append_right _ (List.mem_append_right _ (List.mem_append_right _ (List.mem_append_left _ (List.mem_of_getElem? h))))))) g
theorem zq_5 {w : Cond} (i : Nat) (h : tables_1_5[i]? = some w) (g : goodWord w = true) : w ∈ zTb := zTb_m (List.mem_append_right _ (show w ∈ tables_1 from (List.mem_append_right _ (List.mem_append_right _ (List.mem_append_right _ (List.mem_append_right _ (List.mem_append_left _ (List.mem_of_getElem? h)))))))) g
theorem zq_6 {w : Cond} (i : Nat) (h : tables_1_6[i]? = some w) (g : goodWord w = true) : w ∈ zTb := zTb_m (List.mem_append_right _ (show w ∈ tables_1 from (List.mem_append_right _ (List.mem_append_right _ (List.mem_append_right _ (List.mem_append_right _ (List.mem_append_right _ (List.mem_append_left _ (List.mem_of_getElem? h))))))))) g
theorem zq_7 {w : Cond} (i : Nat) (h : tables_1_7[i]? = some w) (g : goodWord w = true) : w ∈ zTb := zTb_m (List.mem_append_right _ (show w ∈ tables_1 from (List.mem_append_right _ (List.mem_append_right _ (List.mem_append_right _ (List.mem_append_right _ (List.mem_append_right _ (List.mem_append_right _ (List.mem_append_left _ (List.mem_of_getElem? h)))))))))) g
theorem zq_8 {w : Cond} (i : Nat) (h : tables_1_8[i]? = some w) (g : goodWord w = true) : w ∈ zTb := zTb_m (List.mem_append_right _ (show w ∈ tables_1 from (List.mem_append_right _ (List.mem_append_right _ (List.mem_append_right _ (List.mem_append_right _ (List.mem_append_right _ (List.mem_append_right _ (List.mem_append_right _ (List.mem_of_getElem? h)))))))))) g
def zchr (v : Int32) : Bool := vp_nar .char v == v
theorem zchr_n {v : Int32} (h : zchr v = true) : narrow .char (.int v) = .int v := by
  have e : vp_nar .char v = v := by simpa [zchr] using h
  conv => rhs; rw [← e]
  rfl
section Z4
variable {K : zK} {G : zG} {cc : ByteArray} {own : String} {nL fr lo : Nat} {ret : Option FieldType} {pc : Nat} {lv lv' : List (Nat × Value)} {rest st : List Value} {h h' : zH} {t : Nat}
theorem z_i2b (hK : zC K G cc own nL fr lo ret) {x v : Int32} (hdg : decode cc pc = .ok (.i2b, 1)) (hv : x.toInt8.toInt32 = v) (k : zW K G nL (pc + 1) lv (.int v :: rest) h) : zW K G nL pc lv (.int x :: rest) h := by
  obtain ⟨p, l, e, R, s, m, args, below, meth, c, Q⟩ := K
  exact fun H locs ls hP hS hl => lv_i2b hK.1 hK.2.1 hdg hv (k H locs ls hP hS hl)
theorem z_cretP (hK : zC K G cc own nL fr lo (some .char)) {v r : Int32} (hv : zchr v = true) (hE : zE K G (some (.int r)) h) (hg : some v = some r) (hdg : decode cc pc = .ok (.ireturn, 1)) : zW K G nL pc lv [.int v] h := by
  cases hg
  exact z_cret hK (zchr_n hv) hE hdg
theorem z_bretP (hK : zC K G cc own nL fr lo (some .byte)) {v r : Int32} (hv : narrow .byte (.int v) = .int v) (hE : zE K G (some (.int r)) h) (hg : some v = some r) (hdg : decode cc pc = .ok (.ireturn, 1)) : zW K G nL pc lv [.int v] h := by
  cases hg
  exact z_bret hK hv hE hdg
theorem z_callTi (hK : zC K G cc own nL fr lo ret) {y : MethodName} {bytes : ByteArray} {maxL fr' lo' n i index : Nat} {ret' : Option FieldType} (As : List Value) {v : Int32} (hM : zM K.2.1 G y bytes maxL ret' fr' lo' (.ref (zk G i) :: As) h (some (.int v)) h') (hv : zTf y bytes maxL ret' n) (hl : Cond.methodLink own index y ∈ zTb) (hi : i < 2) (hn : As.length = n) (rest : List Value) (hst : st = As.reverse ++ .ref (zk G i) :: rest) (hr : (rest.map fun v => v.category).sum ≤ 8) (hR : fr' + 1 ≤ fr ∧ 8 + (maxL + 11) + lo' ≤ lo) (hdg : decode cc pc = .ok (.invokevirtual index, 3)) (k : zW K G nL (pc + 3) lv (.int v :: rest) h') : zW K G nL pc lv st h :=
  z_callT hK As hM hv hl hi hn rest hst hr hR hdg k
end Z4
theorem zlen_sv {G : zG} (hG : zD G) (a b : Int32) : (lg_sl [.int a, .int b, zsv G]).length ≤ 3 := by
  have e : (lg_sl [.int a, .int b, zsv G]).length = 3 := by
    unfold lg_sl
    simp only [List.flatMap_cons, List.flatMap_nil, hG.2, List.append_nil]
    rfl
  exact Nat.le_of_eq e
theorem zlook_none {ps : List (Int × Int)} {d k : Int} (h : ps.all (fun q => decide (¬ k = q.1)) = true) : Op.lookupswitch.offset ps d k = d := by
  induction ps with
  | nil => rfl
  | cons q ps ih =>
    simp only [List.all_cons, Bool.and_eq_true, decide_eq_true_eq] at h
    have h1 := ih h.2
    simp only [Op.lookupswitch.offset] at h1 ⊢
    simp_all [List.find?]
    intro e
    exact absurd e.symm h.1
