/-! rows of the heap: fields, arrays, copies, calls, ends -/
theorem zcell_obj (G : zG) (h : zH) {t ci n : Nat} (ht : zT t = (ci, n)) (hlt : ci < 20) : zcell G h t = .inr (ci, zobj G h t 0 (zF ci)) := by
  unfold zcell
  rw [ht]
  dsimp only
  split <;> first | rfl | omega
theorem zcell_i (G : zG) (h : zH) {t n : Nat} (ht : zT t = (20, n)) : zcell G h t = .inl (G.2.2.1.1 20, n, .inl (h.1 t)) := by unfold zcell; rw [ht]; rfl
theorem zcell_l (G : zG) (h : zH) {t n : Nat} (ht : zT t = (21, n)) : zcell G h t = .inl (G.2.2.1.1 21, n, .inr (.inl (h.2 t))) := by unfold zcell; rw [ht]; rfl
theorem zcell_z (G : zG) (h : zH) {t n : Nat} (ht : zT t = (22, n)) : zcell G h t = .inl (G.2.2.1.1 22, n, .inl (h.1 t)) := by unfold zcell; rw [ht]; rfl
theorem zcell_c (G : zG) (h : zH) {t n : Nat} (ht : zT t = (23, n)) : zcell G h t = .inl (G.2.2.1.1 23, n, .inl (h.1 t)) := by unfold zcell; rw [ht]; rfl
theorem zcell_s (G : zG) (h : zH) {t n : Nat} (ht : zT t = (24, n)) : zcell G h t = .inl (G.2.2.1.1 24, n, .inr (.inr (.inr (.inr (fun i => some (G.2.2.2 (zR t i))))))) := by unfold zcell; rw [ht]; rfl
theorem zcell_m (G : zG) (h : zH) {t n : Nat} (ht : zT t = (25, n)) : zcell G h t = .inl (G.2.2.1.1 25, n, .inr (.inr (.inr (.inr (fun i => some (G.2.2.2 (zR t i))))))) := by unfold zcell; rw [ht]; rfl
theorem zpi_ne (G : zG) (h : zH) {t k : Nat} {x : Int32} : ∀ u, u ≠ t → zcell G (zpi h t k x) u = zcell G h u := fun u hu => zcell_eq G (fun j => by simp [zpi, hu]) (fun j => rfl)
theorem zpl_ne (G : zG) (h : zH) {t k : Nat} {x : Int64} : ∀ u, u ≠ t → zcell G (zpl h t k x) u = zcell G h u := fun u hu => zcell_eq G (fun j => rfl) (fun j => by simp [zpl, hu])
theorem zcpi_ne (G : zG) (h : zH) {v sp t dp n : Nat} : ∀ u, u ≠ t → zcell G (zcpi h v sp t dp n) u = zcell G h u := fun u hu => zcell_eq G (fun j => by simp [zcpi, hu]) (fun j => rfl)
theorem zcpl_ne (G : zG) (h : zH) {v sp t dp n : Nat} : ∀ u, u ≠ t → zcell G (zcpl h v sp t dp n) u = zcell G h u := fun u hu => zcell_eq G (fun j => rfl) (fun j => by simp [zcpl, hu])
theorem zpi_row (h : zH) (t k : Nat) (x : Int32) : (zpi h t k x).1 t = upd (h.1 t) k x := by
  funext b
  simp [zpi, upd]
theorem zpl_row (h : zH) (t k : Nat) (x : Int64) : (zpl h t k x).2 t = vp_updL (h.2 t) k x := by
  funext b
  simp [zpl, vp_updL]
theorem zcpi_row (h : zH) (u sp t dp n : Nat) : (zcpi h u sp t dp n).1 t = va_cpy (h.1 u) (h.1 t) sp dp n := by
  funext b
  simp [zcpi]
theorem zcpl_row (h : zH) (u sp t dp n : Nat) : (zcpl h u sp t dp n).2 t = va_cpy (h.2 u) (h.2 t) sp dp n := by
  funext b
  simp [zcpl]
theorem zobj_set_i (G : zG) (h : zH) {t j : Nat} {x : Int32} {fs : List Nat} (hf : fs[j]? = some 0) : (zobj G h t 0 fs).set j (.int x) = zobj G (zpi h t j x) t 0 fs := by
  apply List.ext_getElem?
  intro i
  rw [List.getElem?_set, zobj_get, zobj_get, zobj_len]
  have hj := (List.getElem?_eq_some_iff.mp hf).1
  by_cases hi : j = i
  · subst hi
    rw [if_pos rfl, if_pos hj, hf]
    simp [zfv, zpi]
  · rw [if_neg hi]
    congr 1
    funext f
    unfold zfv
    split <;> simp [zpi, Ne.symm hi]
theorem zobj_set_l (G : zG) (h : zH) {t j : Nat} {x : Int64} {fs : List Nat} (hf : fs[j]? = some 1) : (zobj G h t 0 fs).set j (.long x) = zobj G (zpl h t j x) t 0 fs := by
  apply List.ext_getElem?
  intro i
  rw [List.getElem?_set, zobj_get, zobj_get, zobj_len]
  have hj := (List.getElem?_eq_some_iff.mp hf).1
  by_cases hi : j = i
  · subst hi
    rw [if_pos rfl, if_pos hj, hf]
    simp [zfv, zpl]
  · rw [if_neg hi]
    congr 1
    funext f
    unfold zfv
    split <;> simp [zpl, Ne.symm hi]
/-- a field's link in a class's code: the object's class, the place, the kind -/
def zFd (own : String) (index ci j f : Nat) : Prop := ∃ (C : String) (T : u_T) (N : Nat) (ref : String), ci < 20 ∧ vwCl[ci]? = some (C, T, N) ∧ (∀ w ∈ u_ws C T N, w ∈ zTb) ∧ j < N ∧ Cond.fieldLink own index ref (T j).2.1 (T j).2.2.1 ∈ zTb ∧ (ref = (T j).1 ∨ Cond.sameField ref (T j).1 (T j).2.1 (T j).2.2.1 ∈ zTb) ∧ (zF ci)[j]? = some f
/-- what a store asks of the field: not final, of this type -/
def zFp (ci j : Nat) (ty : FieldType) : Prop := ∃ (C : String) (T : u_T) (N : Nat) (ty0 : Nat → FieldType), vwCl[ci]? = some (C, T, N) ∧ (∀ k, k < N → parseFieldDescriptor (T k).2.2.1 = some (ty0 k)) ∧ (∀ a, a < N → ∀ b, b < N → a ≠ b → (T a).2.1 ≠ (T b).2.1) ∧ (T j).2.2.2 = false ∧ parseFieldDescriptor (T j).2.2.1 = some ty
def zbit (x : Int32) : Bool := x == 0 || x == 1
/-- the static facts of a virtual method, by its receiver's class -/
def zVf (y : MethodName) (bytes : ByteArray) (maxL : Nat) (ret : Option FieldType) (ci n : Nat) : Prop := ∃ (T : u_T) (N : Nat), ci < 20 ∧ vwCl[ci]? = some (y.cls, T, N) ∧ Cond.instanceMethod y ∈ zTb ∧ Cond.selects y.cls y y ∈ zTb ∧ Cond.initialized y.cls ∈ zTb ∧ Cond.code y bytes maxL ret ∈ zTb ∧ (y.cls ≠ "java/lang/invoke/MethodHandle" ∧ y.cls ≠ "java/lang/invoke/VarHandle" ∧ (parseMethodDescriptor y.desc).map (fun d => d.parameters.length) = some n)
/-- of a static one -/
def zSf (y : MethodName) (bytes : ByteArray) (maxL : Nat) (ret : Option FieldType) (n : Nat) : Prop := Cond.static y ∈ zTb ∧ Cond.initialized y.cls ∈ zTb ∧ Cond.code y bytes maxL ret ∈ zTb ∧ (y.cls ≠ "java/lang/invoke/MethodHandle" ∧ y.cls ≠ "java/lang/invoke/VarHandle" ∧ (parseMethodDescriptor y.desc).map (fun d => d.parameters.length) = some n)
/-- of an inherited one: named x in the code, y runs, on an object of class ci -/
def zUf (x y : MethodName) (owner : String) (bytes : ByteArray) (maxL : Nat) (ret : Option FieldType) (ci n : Nat) : Prop := ∃ (C : String) (T : u_T) (N : Nat), ci < 20 ∧ vwCl[ci]? = some (C, T, N) ∧ Cond.sameMethod x.cls owner x.name x.desc ∈ zTb ∧ Cond.selects C x y ∈ zTb ∧ Cond.instanceMethod y ∈ zTb ∧ Cond.initialized y.cls ∈ zTb ∧ Cond.code y bytes maxL ret ∈ zTb ∧ (y = ⟨owner, x.name, x.desc⟩ ∨ (⟨owner, x.name, x.desc⟩ : MethodName) ∈ zDc) ∧ (owner ≠ "java/lang/invoke/MethodHandle" ∧ owner ≠ "java/lang/invoke/VarHandle" ∧ (parseMethodDescriptor x.desc).map (fun d => d.parameters.length) = some n)
def zcg (sp dp n : Int32) (n0 n1 : Nat) : Bool := !(decide (sp < 0)) && (!(decide (dp < 0)) && (!(decide (n < 0)) && (decide (zx sp + zx n ≤ n0) && decide (zx dp + zx n ≤ n1))))
theorem zcg_spec {sp dp n : Int32} {n0 n1 : Nat} (h : zcg sp dp n n0 n1 = true) : ¬ sp < 0 ∧ ¬ dp < 0 ∧ ¬ n < 0 ∧ sp.toNatClampNeg + n.toNatClampNeg ≤ n0 ∧ dp.toNatClampNeg + n.toNatClampNeg ≤ n1 := by
  simp only [zcg, zx, Bool.and_eq_true, Bool.not_eq_true', decide_eq_false_iff_not, decide_eq_true_eq] at h
  exact ⟨h.1, h.2.1, h.2.2.1, of_decide_eq_true h.2.2.2.1, of_decide_eq_true h.2.2.2.2⟩
section Z2
variable {K : zK} {G : zG} {cc : ByteArray} {own : String} {nL fr lo : Nat} {ret : Option FieldType} {pc : Nat} {lv lv' : List (Nat × Value)} {rest st : List Value} {h h' : zH} {t : Nat}
theorem z_getV (hK : zC K G cc own nL fr lo ret) {index ci j f n : Nat} (hf : zFd own index ci j f) (ht : zT t = (ci, n)) (hdg : decode cc pc = .ok (.getfield index, 3)) (k : zW K G nL (pc + 3) lv (zfv G h t j f :: rest) h) : zW K G nL pc lv (.ref (G.2.2.2 t) :: rest) h := by
  obtain ⟨p, l, e, R, s, m, args, below, meth, c, Q⟩ := K
  obtain ⟨hx, hb, hml, hown, hts, hva, hG, -⟩ := id hK
  obtain ⟨C, T, N, ref, hlt, hc, hin, hj, hw, hsm, hfk⟩ := hf
  have htl : t < zN := zT_lt ht (by show ci ≠ 99; omega)
  intro H locs ls hP hS hl
  have he : (zL G h)[t]? = some (G.2.2.2 t, .inr (ci, zobj G h t 0 (zF ci))) := by rw [zL_get G h htl, zcell_obj G h ht hlt]
  refine va_get (D := (G.1, G.2.1)) (cl := vwCl) (ref := ref) hx hb hts hin hown hva hP t he hc j hj (hts _ hw) ?_ (v := zfv G h t j f) ?_ hdg (k H locs ls hP hS hl)
  · intro x hfx
    rcases hsm with rfl | hsm
    · exact hfx
    · exact u_same (hts _ hsm) x hfx
  · rw [zobj_get, hfk]
    simp
theorem z_getI (hK : zC K G cc own nL fr lo ret) {index ci j n : Nat} (hf : zFd own index ci j 0) (ht : zT t = (ci, n)) (hdg : decode cc pc = .ok (.getfield index, 3)) (k : zW K G nL (pc + 3) lv (.int (h.1 t j) :: rest) h) : zW K G nL pc lv (.ref (G.2.2.2 t) :: rest) h := z_getV hK hf ht hdg k
theorem z_getL (hK : zC K G cc own nL fr lo ret) {index ci j n : Nat} (hf : zFd own index ci j 1) (ht : zT t = (ci, n)) (hdg : decode cc pc = .ok (.getfield index, 3)) (k : zW K G nL (pc + 3) lv (.long (h.2 t j) :: rest) h) : zW K G nL pc lv (.ref (G.2.2.2 t) :: rest) h := z_getV hK hf ht hdg k
theorem z_getR (hK : zC K G cc own nL fr lo ret) {index ci j n : Nat} (hf : zFd own index ci j 2) (ht : zT t = (ci, n)) (hdg : decode cc pc = .ok (.getfield index, 3)) (k : zW K G nL (pc + 3) lv (.ref (G.2.2.2 (zR t j)) :: rest) h) : zW K G nL pc lv (.ref (G.2.2.2 t) :: rest) h := z_getV hK hf ht hdg k
theorem z_putV (hK : zC K G cc own nL fr lo ret) {index ci j f n : Nat} (hf : zFd own index ci j f) {ty : FieldType} (hp : zFp ci j ty) {v : Value} (hn : narrow ty v = v) (hfit : fits ty v = true) (ht : zT t = (ci, n)) (he' : ci < 20 → zcell G h' t = .inr (ci, (zobj G h t 0 (zF ci)).set j v)) (hne : ∀ u, u ≠ t → zcell G h' u = zcell G h u) (hdg : decode cc pc = .ok (.putfield index, 3)) (k : zW K G nL (pc + 3) lv rest h') : zW K G nL pc lv (v :: .ref (G.2.2.2 t) :: rest) h := by
  obtain ⟨p, l, e, R, s, m, args, below, meth, c, Q⟩ := K
  obtain ⟨hx, hb, hml, hown, hts, hva, hG, -⟩ := id hK
  obtain ⟨C, T, N, ref, hlt, hc, hin, hj, hw, hsm, hfk⟩ := hf
  obtain ⟨C', T', N', ty0, hc', hty, hnm, hfin, hd⟩ := hp
  cases hc.symm.trans hc'
  have htl : t < zN := zT_lt ht (by show ci ≠ 99; omega)
  intro H locs ls hP hS hl
  have he : (zL G h)[t]? = some (G.2.2.2 t, .inr (ci, zobj G h t 0 (zF ci))) := by rw [zL_get G h htl, zcell_obj G h ht hlt]
  refine va_put (D := (G.1, G.2.1)) (cl := vwCl) (ref := ref) hx hb hts hin ty0 hty hnm hown hva hP (zD_va hG h) hS t he hc j hj (hts _ hw) ?_ hfin hd hn hfit ?_ hdg (fun H1 locs1 hP1 hD1 hS1 => ?_)
  · intro x hfx
    rcases hsm with rfl | hsm
    · exact hfx
    · exact u_same (hts _ hsm) x hfx
  · rw [zobj_len]
    exact (List.getElem?_eq_some_iff.mp hfk).1
  · rw [zL_set G (he' hlt) hne] at hP1
    exact k H1 locs1 ls hP1 hS1 hl
theorem z_putI (hK : zC K G cc own nL fr lo ret) {index ci j n : Nat} {x : Int32} (hf : zFd own index ci j 0) (hp : zFp ci j .int) (ht : zT t = (ci, n)) (hdg : decode cc pc = .ok (.putfield index, 3)) (k : zW K G nL (pc + 3) lv rest (zpi h t j x)) : zW K G nL pc lv (.int x :: .ref (G.2.2.2 t) :: rest) h :=
  z_putV hK hf hp rfl rfl ht (fun hlt => by rw [zcell_obj G _ ht hlt]; obtain ⟨_, _, _, _, _, _, _, _, _, _, hfk⟩ := hf; rw [zobj_set_i G h hfk]) (zpi_ne G h) hdg k
theorem z_putZ (hK : zC K G cc own nL fr lo ret) {index ci j n : Nat} {x : Int32} (hf : zFd own index ci j 0) (hp : zFp ci j .boolean) (hx : zbit x = true) (ht : zT t = (ci, n)) (hdg : decode cc pc = .ok (.putfield index, 3)) (k : zW K G nL (pc + 3) lv rest (zpi h t j x)) : zW K G nL pc lv (.int x :: .ref (G.2.2.2 t) :: rest) h := by
  have h01 : x = 0 ∨ x = 1 := by simpa [zbit] using hx
  exact z_putV hK hf hp (by rcases h01 with rfl | rfl <;> rfl) hx ht (fun hlt => by rw [zcell_obj G _ ht hlt]; obtain ⟨_, _, _, _, _, _, _, _, _, _, hfk⟩ := hf; rw [zobj_set_i G h hfk]) (zpi_ne G h) hdg k
theorem z_putL (hK : zC K G cc own nL fr lo ret) {index ci j n : Nat} {x : Int64} (hf : zFd own index ci j 1) (hp : zFp ci j .long) (ht : zT t = (ci, n)) (hdg : decode cc pc = .ok (.putfield index, 3)) (k : zW K G nL (pc + 3) lv rest (zpl h t j x)) : zW K G nL pc lv (.long x :: .ref (G.2.2.2 t) :: rest) h :=
  z_putV hK hf hp rfl rfl ht (fun hlt => by rw [zcell_obj G _ ht hlt]; obtain ⟨_, _, _, _, _, _, _, _, _, _, hfk⟩ := hf; rw [zobj_set_l G h hfk]) (zpl_ne G h) hdg k
theorem z_iald (hK : zC K G cc own nL fr lo ret) {n : Nat} {i : Int32} (ht : zT t = (20, n)) (hi : zin i n = true) (hdg : decode cc pc = .ok (.iaload, 1)) (k : zW K G nL (pc + 1) lv (.int (h.1 t (zx i)) :: rest) h) : zW K G nL pc lv (.int i :: .ref (G.2.2.2 t) :: rest) h := by
  obtain ⟨p, l, e, R, s, m, args, below, meth, c, Q⟩ := K
  obtain ⟨hx, hb, hml, hown, hts, hva, hG, -⟩ := id hK
  have htl : t < zN := zT_lt ht (by show 20 ≠ 99; omega)
  exact fun H locs ls hP hS hl => va_iald hx hb hva hP t 0 (by rw [zL_get G h htl, zcell_i G h ht]) rfl (zin_vp hi) hdg (k H locs ls hP hS hl)
theorem z_zald (hK : zC K G cc own nL fr lo ret) {n : Nat} {i : Int32} (ht : zT t = (22, n)) (hi : zin i n = true) (hdg : decode cc pc = .ok (.baload, 1)) (k : zW K G nL (pc + 1) lv (.int (h.1 t (zx i)) :: rest) h) : zW K G nL pc lv (.int i :: .ref (G.2.2.2 t) :: rest) h := by
  obtain ⟨p, l, e, R, s, m, args, below, meth, c, Q⟩ := K
  obtain ⟨hx, hb, hml, hown, hts, hva, hG, -⟩ := id hK
  have htl : t < zN := zT_lt ht (by show 22 ≠ 99; omega)
  exact fun H locs ls hP hS hl => va_zald hx hb hva hP t 2 (by rw [zL_get G h htl, zcell_z G h ht]) rfl (zin_vp hi) hdg (k H locs ls hP hS hl)
theorem z_cald (hK : zC K G cc own nL fr lo ret) {n : Nat} {i : Int32} (ht : zT t = (23, n)) (hi : zin i n = true) (hdg : decode cc pc = .ok (.caload, 1)) (k : zW K G nL (pc + 1) lv (.int (h.1 t (zx i)) :: rest) h) : zW K G nL pc lv (.int i :: .ref (G.2.2.2 t) :: rest) h := by
  obtain ⟨p, l, e, R, s, m, args, below, meth, c, Q⟩ := K
  obtain ⟨hx, hb, hml, hown, hts, hva, hG, -⟩ := id hK
  have htl : t < zN := zT_lt ht (by show 23 ≠ 99; omega)
  exact fun H locs ls hP hS hl => va_cald hx hb hva hP t 3 (by rw [zL_get G h htl, zcell_c G h ht]) rfl (zin_vp hi) hdg (k H locs ls hP hS hl)
theorem z_lald (hK : zC K G cc own nL fr lo ret) {n : Nat} {i : Int32} (ht : zT t = (21, n)) (hi : zin i n = true) (hdg : decode cc pc = .ok (.laload, 1)) (k : zW K G nL (pc + 1) lv (.long (h.2 t (zx i)) :: rest) h) : zW K G nL pc lv (.int i :: .ref (G.2.2.2 t) :: rest) h := by
  obtain ⟨p, l, e, R, s, m, args, below, meth, c, Q⟩ := K
  obtain ⟨hx, hb, hml, hown, hts, hva, hG, -⟩ := id hK
  have htl : t < zN := zT_lt ht (by show 21 ≠ 99; omega)
  exact fun H locs ls hP hS hl => va_lald hx hb hva hP t 1 (by rw [zL_get G h htl, zcell_l G h ht]) rfl (zin_vp hi) hdg (k H locs ls hP hS hl)
theorem z_aaldS (hK : zC K G cc own nL fr lo ret) {n : Nat} {i : Int32} (ht : zT t = (24, n)) (hi : zin i n = true) (hdg : decode cc pc = .ok (.aaload, 1)) (k : zW K G nL (pc + 1) lv (.ref (G.2.2.2 (zR t (zx i))) :: rest) h) : zW K G nL pc lv (.int i :: .ref (G.2.2.2 t) :: rest) h := by
  obtain ⟨p, l, e, R, s, m, args, below, meth, c, Q⟩ := K
  obtain ⟨hx, hb, hml, hown, hts, hva, hG, -⟩ := id hK
  have htl : t < zN := zT_lt ht (by show 24 ≠ 99; omega)
  exact fun H locs ls hP hS hl => va_aldq hx hb hva hP t 4 (f := fun i => some (G.2.2.2 (zR t i))) (by rw [zL_get G h htl, zcell_s G h ht]) rfl (zin_vp hi) hdg (k H locs ls hP hS hl)
theorem z_aaldM (hK : zC K G cc own nL fr lo ret) {n : Nat} {i : Int32} (ht : zT t = (25, n)) (hi : zin i n = true) (hdg : decode cc pc = .ok (.aaload, 1)) (k : zW K G nL (pc + 1) lv (.ref (G.2.2.2 (zR t (zx i))) :: rest) h) : zW K G nL pc lv (.int i :: .ref (G.2.2.2 t) :: rest) h := by
  obtain ⟨p, l, e, R, s, m, args, below, meth, c, Q⟩ := K
  obtain ⟨hx, hb, hml, hown, hts, hva, hG, -⟩ := id hK
  have htl : t < zN := zT_lt ht (by show 25 ≠ 99; omega)
  exact fun H locs ls hP hS hl => va_aldq hx hb hva hP t 5 (f := fun i => some (G.2.2.2 (zR t i))) (by rw [zL_get G h htl, zcell_m G h ht]) rfl (zin_vp hi) hdg (k H locs ls hP hS hl)
theorem z_alen (hK : zC K G cc own nL fr lo ret) {n : Nat} (ht : zT t = (20, n)) (hdg : decode cc pc = .ok (.arraylength, 1)) (k : zW K G nL (pc + 1) lv (.int (Int32.ofNat n) :: rest) h) : zW K G nL pc lv (.ref (G.2.2.2 t) :: rest) h := by
  obtain ⟨p, l, e, R, s, m, args, below, meth, c, Q⟩ := K
  obtain ⟨hx, hb, hml, hown, hts, hva, hG, -⟩ := id hK
  have htl : t < zN := zT_lt ht (by show 20 ≠ 99; omega)
  exact fun H locs ls hP hS hl => va_alen hx hb hva hP t 0 (x := (n, .inl (h.1 t))) (by rw [zL_get G h htl, zcell_i G h ht]) rfl rfl hdg (k H locs ls hP hS hl)
theorem z_iast (hK : zC K G cc own nL fr lo ret) {n : Nat} {i x : Int32} (ht : zT t = (20, n)) (hi : zin i n = true) (hdg : decode cc pc = .ok (.iastore, 1)) (k : zW K G nL (pc + 1) lv rest (zpi h t (zx i) x)) : zW K G nL pc lv (.int x :: .int i :: .ref (G.2.2.2 t) :: rest) h := by
  obtain ⟨p, l, e, R, s, m, args, below, meth, c, Q⟩ := K
  obtain ⟨hx, hb, hml, hown, hts, hva, hG, -⟩ := id hK
  have htl : t < zN := zT_lt ht (by show 20 ≠ 99; omega)
  intro H locs ls hP hS hl
  refine va_iast hx hb hva hP (zD_va hG h) hS t 0 (by rw [zL_get G h htl, zcell_i G h ht]) rfl (zin_vp hi) hdg (fun H1 locs1 hP1 hD1 hS1 => ?_)
  rw [zL_set G (h' := zpi h t (zx i) x) (by rw [zcell_i G _ ht, zpi_row]; rfl) (zpi_ne G h)] at hP1
  exact k H1 locs1 ls hP1 hS1 hl
theorem z_zast (hK : zC K G cc own nL fr lo ret) {n : Nat} {i x : Int32} (ht : zT t = (22, n)) (hi : zin i n = true) (hdg : decode cc pc = .ok (.bastore, 1)) (k : zW K G nL (pc + 1) lv rest (zpi h t (zx i) (vp_nar .boolean x))) : zW K G nL pc lv (.int x :: .int i :: .ref (G.2.2.2 t) :: rest) h := by
  obtain ⟨p, l, e, R, s, m, args, below, meth, c, Q⟩ := K
  obtain ⟨hx, hb, hml, hown, hts, hva, hG, -⟩ := id hK
  have htl : t < zN := zT_lt ht (by show 22 ≠ 99; omega)
  intro H locs ls hP hS hl
  refine va_zast hx hb hva hP (zD_va hG h) hS t 2 (by rw [zL_get G h htl, zcell_z G h ht]) rfl (zin_vp hi) hdg (fun H1 locs1 hP1 hD1 hS1 => ?_)
  rw [zL_set G (h' := zpi h t (zx i) (vp_nar .boolean x)) (by rw [zcell_z G _ ht, zpi_row]; rfl) (zpi_ne G h)] at hP1
  exact k H1 locs1 ls hP1 hS1 hl
theorem z_cast (hK : zC K G cc own nL fr lo ret) {n : Nat} {i x : Int32} (ht : zT t = (23, n)) (hi : zin i n = true) (hdg : decode cc pc = .ok (.castore, 1)) (k : zW K G nL (pc + 1) lv rest (zpi h t (zx i) (vp_nar .char x))) : zW K G nL pc lv (.int x :: .int i :: .ref (G.2.2.2 t) :: rest) h := by
  obtain ⟨p, l, e, R, s, m, args, below, meth, c, Q⟩ := K
  obtain ⟨hx, hb, hml, hown, hts, hva, hG, -⟩ := id hK
  have htl : t < zN := zT_lt ht (by show 23 ≠ 99; omega)
  intro H locs ls hP hS hl
  refine va_cast hx hb hva hP (zD_va hG h) hS t 3 (by rw [zL_get G h htl, zcell_c G h ht]) rfl (zin_vp hi) hdg (fun H1 locs1 hP1 hD1 hS1 => ?_)
  rw [zL_set G (h' := zpi h t (zx i) (vp_nar .char x)) (by rw [zcell_c G _ ht, zpi_row]; rfl) (zpi_ne G h)] at hP1
  exact k H1 locs1 ls hP1 hS1 hl
theorem z_last (hK : zC K G cc own nL fr lo ret) {n : Nat} {i : Int32} {x : Int64} (ht : zT t = (21, n)) (hi : zin i n = true) (hdg : decode cc pc = .ok (.lastore, 1)) (k : zW K G nL (pc + 1) lv rest (zpl h t (zx i) x)) : zW K G nL pc lv (.long x :: .int i :: .ref (G.2.2.2 t) :: rest) h := by
  obtain ⟨p, l, e, R, s, m, args, below, meth, c, Q⟩ := K
  obtain ⟨hx, hb, hml, hown, hts, hva, hG, -⟩ := id hK
  have htl : t < zN := zT_lt ht (by show 21 ≠ 99; omega)
  intro H locs ls hP hS hl
  refine va_last hx hb hva hP (zD_va hG h) hS t 1 (by rw [zL_get G h htl, zcell_l G h ht]) rfl (zin_vp hi) hdg (fun H1 locs1 hP1 hD1 hS1 => ?_)
  rw [zL_set G (h' := zpl h t (zx i) x) (by rw [zcell_l G _ ht, zpl_row]; rfl) (zpl_ne G h)] at hP1
  exact k H1 locs1 ls hP1 hS1 hl
theorem z_copyi (hK : zC K G cc own nL fr lo ret) {index u n0 n1 : Nat} {sp dp n : Int32} (hl : Cond.methodLink own index arraycopyName ∈ zTb) (hw : Cond.native arraycopyName ∈ zTb ∧ Cond.static arraycopyName ∈ zTb ∧ Cond.initialized "java/lang/System" ∈ zTb) (hu : zT u = (20, n0)) (ht : zT t = (20, n1)) (hg : zcg sp dp n n0 n1 = true) (hR : 1 ≤ fr ∧ (rest.map fun v => v.category).sum + 18 ≤ lo) (hdg : decode cc pc = .ok (.invokestatic index, 3)) (k : zW K G nL (pc + 3) lv rest (zcpi h u (zx sp) t (zx dp) (zx n))) : zW K G nL pc lv (.int n :: .int dp :: .ref (G.2.2.2 t) :: .int sp :: .ref (G.2.2.2 u) :: rest) h := by
  obtain ⟨p, l, e, R, s, m, args, below, meth, c, Q⟩ := K
  obtain ⟨hx, hb, hml, hown, hts, hva, hG, hfr, hlo, -⟩ := id hK
  have htl : t < zN := zT_lt ht (by show 20 ≠ 99; omega)
  have hul : u < zN := zT_lt hu (by show 20 ≠ 99; omega)
  obtain ⟨g1, g2, g3, g4, g5⟩ := zcg_spec hg
  intro H locs ls hP hS hv
  refine va_copyi hx hb (by rw [hml]; exact hv.1.symm) hown (hts _ hl) (hts _ hw.1) (hts _ hw.2.1) (hts _ hw.2.2) hva hP (zD_va hG h) hS u t 0 0 (ty := .int) (by rw [zL_get G h hul, zcell_i G h hu]) (by rw [zL_get G h htl, zcell_i G h ht]) rfl rfl rfl g1 g2 g3 g4 g5 (fun i _ => rfl) (Nat.le_trans hR.1 hfr) (Nat.le_trans hR.2 hlo) hdg (fun H1 locs1 hP1 hD1 hS1 => ?_)
  rw [zL_set G (h' := zcpi h u (zx sp) t (zx dp) (zx n)) (by rw [zcell_i G _ ht, zcpi_row]; rfl) (zcpi_ne G h)] at hP1
  exact k H1 locs1 ls hP1 hS1 hv
theorem z_copyl (hK : zC K G cc own nL fr lo ret) {index u n0 n1 : Nat} {sp dp n : Int32} (hl : Cond.methodLink own index arraycopyName ∈ zTb) (hw : Cond.native arraycopyName ∈ zTb ∧ Cond.static arraycopyName ∈ zTb ∧ Cond.initialized "java/lang/System" ∈ zTb) (hu : zT u = (21, n0)) (ht : zT t = (21, n1)) (hg : zcg sp dp n n0 n1 = true) (hR : 1 ≤ fr ∧ (rest.map fun v => v.category).sum + 18 ≤ lo) (hdg : decode cc pc = .ok (.invokestatic index, 3)) (k : zW K G nL (pc + 3) lv rest (zcpl h u (zx sp) t (zx dp) (zx n))) : zW K G nL pc lv (.int n :: .int dp :: .ref (G.2.2.2 t) :: .int sp :: .ref (G.2.2.2 u) :: rest) h := by
  obtain ⟨p, l, e, R, s, m, args, below, meth, c, Q⟩ := K
  obtain ⟨hx, hb, hml, hown, hts, hva, hG, hfr, hlo, -⟩ := id hK
  have htl : t < zN := zT_lt ht (by show 21 ≠ 99; omega)
  have hul : u < zN := zT_lt hu (by show 21 ≠ 99; omega)
  obtain ⟨g1, g2, g3, g4, g5⟩ := zcg_spec hg
  intro H locs ls hP hS hv
  refine va_copyl hx hb (by rw [hml]; exact hv.1.symm) hown (hts _ hl) (hts _ hw.1) (hts _ hw.2.1) (hts _ hw.2.2) hva hP (zD_va hG h) hS u t 1 1 (ty := .long) (by rw [zL_get G h hul, zcell_l G h hu]) (by rw [zL_get G h htl, zcell_l G h ht]) rfl rfl rfl g1 g2 g3 g4 g5 (fun i _ => rfl) (Nat.le_trans hR.1 hfr) (Nat.le_trans hR.2 hlo) hdg (fun H1 locs1 hP1 hD1 hS1 => ?_)
  rw [zL_set G (h' := zcpl h u (zx sp) t (zx dp) (zx n)) (by rw [zcell_l G _ ht, zcpl_row]; rfl) (zcpl_ne G h)] at hP1
  exact k H1 locs1 ls hP1 hS1 hv
theorem z_mmax (hK : zC K G cc own nL fr lo ret) {index : Nat} {x y : Int32} (hl : Cond.methodLink own index Lib.Math.max.name ∈ zTb) (hw : Cond.static Lib.Math.max.name ∈ zTb ∧ Cond.initialized "java/lang/Math" ∈ zTb ∧ Cond.code Lib.Math.max.name Lib.Math.max.code 2 (some .int) ∈ zTb) (hR : 1 ≤ fr ∧ (rest.map fun v => v.category).sum + 13 ≤ lo) (hdg : decode cc pc = .ok (.invokestatic index, 3)) (k : zW K G nL (pc + 3) lv (.int (if x < y then y else x) :: rest) h) : zW K G nL pc lv (.int y :: .int x :: rest) h := by
  obtain ⟨p, l, e, R, s, m, args, below, meth, c, Q⟩ := K
  obtain ⟨hx, hb, hml, hown, hts, hva, hG, hfr, hlo, -⟩ := id hK
  exact fun H locs ls hP hS hv => va_mmax hx hb (by rw [hml]; exact hv.1.symm) hown (hts _ hl) (hts _ hw.1) (hts _ hw.2.1) (hts _ hw.2.2) (Nat.le_trans hR.1 hfr) (Nat.le_trans hR.2 hlo) (Nat.zero_le _) (Nat.zero_le _) hdg (k H locs ls hP hS hv)
theorem z_mmin (hK : zC K G cc own nL fr lo ret) {index : Nat} {x y : Int32} (hl : Cond.methodLink own index Lib.Math.min.name ∈ zTb) (hw : Cond.static Lib.Math.min.name ∈ zTb ∧ Cond.initialized "java/lang/Math" ∈ zTb ∧ Cond.code Lib.Math.min.name Lib.Math.min.code 2 (some .int) ∈ zTb) (hR : 1 ≤ fr ∧ (rest.map fun v => v.category).sum + 13 ≤ lo) (hdg : decode cc pc = .ok (.invokestatic index, 3)) (k : zW K G nL (pc + 3) lv (.int (if y < x then y else x) :: rest) h) : zW K G nL pc lv (.int y :: .int x :: rest) h := by
  obtain ⟨p, l, e, R, s, m, args, below, meth, c, Q⟩ := K
  obtain ⟨hx, hb, hml, hown, hts, hva, hG, hfr, hlo, -⟩ := id hK
  exact fun H locs ls hP hS hv => va_mmin hx hb (by rw [hml]; exact hv.1.symm) hown (hts _ hl) (hts _ hw.1) (hts _ hw.2.1) (hts _ hw.2.2) (Nat.le_trans hR.1 hfr) (Nat.le_trans hR.2 hlo) (Nat.zero_le _) (Nat.zero_le _) hdg (k H locs ls hP hS hv)
theorem z_blind {vs : List Value} : FrameBlind (va_Pc vs (fun U => zP G h U.heap ∧ va_K (G.1, G.2.1) vwCl (zTy G) U ∧ zS G U U.heap)) := by
  intro a U g mk q
  obtain ⟨q0, qP, qK, qZ⟩ := q
  exact ⟨q0, qP, va_K.moved (u := U) (U := U.calling g mk a) (Vm.Alike.refl U.vm) qK, zS_calling qZ⟩
/-- behind a call -/
theorem z_ran {p : Program} {l : Launch} {e : Env} {R : Room} {s : State} {m : MethodId} {args : Array Value} {below : List Frame} {meth : Method} {c : Code} {Q : State → Prop} {H : Heap} {locs : List Loc} {ls : Array Slot} {a : Array Value} {rv : Option Value} (hr : va_Run p l e R s m args below meth c H locs 0 0 0 0 (F0 m pc ls st) rest (zQ G rv h' a) (zA G)) (hS : va_S (zA G) s.heap H locs) (hl : lv_has ls nL lv) (k : zW (p, l, e, R, s, m, args, below, meth, c, Q) G nL (pc + 3) lv (rv.toList ++ rest) h') : W p l e R s m args below meth c H locs 0 0 Q (F0 m pc ls st) := by
  intro T hT X
  obtain ⟨v, st₀, t, T', L, h0, X', hL, e1, e2, ⟨⟨ho, hb⟩, hz, hk⟩, stp⟩ := hr T hT X
  cases ho
  rw [h0] at hz hk
  obtain ⟨t2, a1, b1⟩ := k T'.heap (locs ++ L) ls (by rw [e1]; exact hb)
    ⟨Nat.le_trans hS.1 (by rw [e1]; exact hz), fun q h1 h2 => by rw [e1, hk q (Nat.lt_of_lt_of_le h1 hS.1) h2]; exact hS.2.1 q h1 h2, fun q hq => by
      rcases List.mem_append.mp hq with h | h
      · exact hS.2.2 q h
      · exact hL q h⟩ hl T' rfl X'
  exact ⟨t2, stp t2 a1, b1⟩
theorem zgoodIn {ws : List Cond} (hw : ∀ w ∈ ws, w ∈ zTb) : GoodIn zTb ws := fun w h => ⟨hw w h, good_of_word (zTb_good (hw w h))⟩
theorem z_callV (hK : zC K G cc own nL fr lo ret) {y : MethodName} {bytes : ByteArray} {maxL fr' lo' ci n n0 index : Nat} {ret' : Option FieldType} (As : List Value) {rv : Option Value} (hM : zM K.2.1 G y bytes maxL ret' fr' lo' (.ref (G.2.2.2 t) :: As) h rv h') (hv : zVf y bytes maxL ret' ci n) (hl : Cond.methodLink own index y ∈ zTb) (ht : zT t = (ci, n0)) (hn : As.length = n) (rest : List Value) (hst : st = As.reverse ++ .ref (G.2.2.2 t) :: rest) (hr : (rest.map fun v => v.category).sum ≤ 8) (hR : fr' + 1 ≤ fr ∧ 8 + (maxL + 11) + lo' ≤ lo) (hdg : decode cc pc = .ok (.invokevirtual index, 3)) (k : zW K G nL (pc + 3) lv (rv.toList ++ rest) h') : zW K G nL pc lv st h := by
  obtain ⟨p, l, e, R, s, m, args, below, meth, c, Q⟩ := K
  obtain ⟨hx, hb, hml, hown, hts, hva, hG, hfr, hlo, -, -, hZ⟩ := id hK
  obtain ⟨T, N, hlt, hc, w1, w2, w3, w4, hd⟩ := hv
  have htl : t < zN := zT_lt ht (by show ci ≠ 99; omega)
  intro H locs ls hP hS hlv
  have he : (zL G h)[t]? = some (G.2.2.2 t, .inr (ci, zobj G h t 0 (zF ci))) := by rw [zL_get G h htl, zcell_obj G h ht hlt]
  have hrun := va_runV (p := p) (e := e) (below := below) (meth := meth) (H := H) (locs := locs) (cells := 0) (slots := 0) (C := y.cls) (b := G.2.2.2 t) (As := As) (rest := rest) (g := F0 m pc ls st) ⟨hx, hb, hml, hown, hts⟩ hM
    (cwV n hts (zgoodIn (fun w h => by
      rcases List.mem_append.mp h with h | h
      · simp only [List.mem_cons, List.not_mem_nil, or_false] at h
        rcases h with rfl | rfl | rfl | rfl
        · exact hl
        · exact w1
        · exact w2
        · exact w3
      · rcases List.mem_cons.mp h with rfl | h
        · exact w4
        · exact h)) rfl rfl rfl ⟨rfl, hd⟩ ⟨Nat.le_trans hR.1 hfr, Nat.le_trans hR.2 hlo⟩)
    ⟨z_blind, va_recv hva hP hc he, fun U hU hW => ⟨rfl, by rw [hU]; exact hP, va_K.moved hW.alike hva, zS_call hZ hS hW hU⟩⟩ rfl hn hlv.1 hst (lv_room hr) hdg ⟨Nat.zero_le _, Nat.zero_le _⟩
  exact z_ran hrun hS hlv k
theorem z_callS (hK : zC K G cc own nL fr lo ret) {y : MethodName} {bytes : ByteArray} {maxL fr' lo' n index : Nat} {ret' : Option FieldType} (As : List Value) {rv : Option Value} (hM : zM K.2.1 G y bytes maxL ret' fr' lo' As h rv h') (hv : zSf y bytes maxL ret' n) (hl : Cond.methodLink own index y ∈ zTb) (hn : As.length = n) (rest : List Value) (hst : st = As.reverse ++ rest) (hr : (rest.map fun v => v.category).sum ≤ 8) (hR : fr' + 1 ≤ fr ∧ 8 + (maxL + 11) + lo' ≤ lo) (hdg : decode cc pc = .ok (.invokestatic index, 3)) (k : zW K G nL (pc + 3) lv (rv.toList ++ rest) h') : zW K G nL pc lv st h := by
  obtain ⟨p, l, e, R, s, m, args, below, meth, c, Q⟩ := K
  obtain ⟨hx, hb, hml, hown, hts, hva, hG, hfr, hlo, -, -, hZ⟩ := id hK
  obtain ⟨w2, w3, w4, hd⟩ := hv
  intro H locs ls hP hS hlv
  have hrun := va_runS (p := p) (e := e) (below := below) (meth := meth) (H := H) (locs := locs) (cells := 0) (slots := 0) (As := As) (rest := rest) (g := F0 m pc ls st) ⟨hx, hb, hml, hown, hts⟩ hM
    ⟨callB_of n hts (zgoodIn (fun w h => by
      rcases List.mem_cons.mp h with rfl | h
      · exact w4
      · exact h)) rfl rfl rfl (hts _ w3) (hts _ hl) hd ⟨Nat.le_trans hR.1 hfr, Nat.le_trans hR.2 hlo⟩, hts _ w2⟩
    ⟨z_blind, fun U hU hW => ⟨rfl, by rw [hU]; exact hP, va_K.moved hW.alike hva, zS_call hZ hS hW hU⟩⟩ rfl hn hlv.1 hst (lv_room hr) hdg ⟨Nat.zero_le _, Nat.zero_le _⟩
  exact z_ran hrun hS hlv k
theorem z_callU (hK : zC K G cc own nL fr lo ret) {x y : MethodName} {owner : String} {bytes : ByteArray} {maxL fr' lo' ci n n0 index : Nat} {ret' : Option FieldType} (As : List Value) {rv : Option Value} (hM : zM K.2.1 G y bytes maxL ret' fr' lo' (.ref (G.2.2.2 t) :: As) h rv h') (hv : zUf x y owner bytes maxL ret' ci n) (hl : Cond.methodLink own index x ∈ zTb) (ht : zT t = (ci, n0)) (hn : As.length = n) (rest : List Value) (hst : st = As.reverse ++ .ref (G.2.2.2 t) :: rest) (hr : (rest.map fun v => v.category).sum ≤ 8) (hR : fr' + 1 ≤ fr ∧ 8 + (maxL + 11) + lo' ≤ lo) (hdg : decode cc pc = .ok (.invokevirtual index, 3)) (k : zW K G nL (pc + 3) lv (rv.toList ++ rest) h') : zW K G nL pc lv st h := by
  obtain ⟨p, l, e, R, s, m, args, below, meth, c, Q⟩ := K
  obtain ⟨hx, hb, hml, hown, hts, hva, hG, hfr, hlo, -, -, hZ⟩ := id hK
  obtain ⟨C, T, N, hlt, hc, w1, w2, w3, w4, w5, hyx, hd⟩ := hv
  have htl : t < zN := zT_lt ht (by show ci ≠ 99; omega)
  intro H locs ls hP hS hlv
  have he : (zL G h)[t]? = some (G.2.2.2 t, .inr (ci, zobj G h t 0 (zF ci))) := by rw [zL_get G h htl, zcell_obj G h ht hlt]
  have hgi : GoodIn zTb (va_wsU own index C owner x y (Cond.code y bytes maxL ret' :: zTb)) := zgoodIn (fun w h => by
      rcases List.mem_append.mp h with h | h
      · simp only [List.mem_cons, List.not_mem_nil, or_false] at h
        rcases h with rfl | rfl | rfl | rfl | rfl
        · exact hl
        · exact w1
        · exact w2
        · exact w3
        · exact w4
      · rcases List.mem_cons.mp h with rfl | h
        · exact w5
        · exact h)
  have hcw : va_CU R s args own C owner index x y bytes maxL ret' (Cond.code y bytes maxL ret' :: zTb) { frames := fr', cells := 0, slots := 0, locals := lo' } 0 0 n := by
    rcases hyx with hyx | hdc
    · exact va_cwU n hts hgi rfl rfl rfl hyx hd ⟨Nat.le_trans hR.1 hfr, Nat.le_trans hR.2 hlo⟩
    · exact va_cwA n hts hgi rfl rfl rfl (hZ.2.2.2.2.2 _ hdc) hd ⟨Nat.le_trans hR.1 hfr, Nat.le_trans hR.2 hlo⟩
  have hrun := va_runU (p := p) (e := e) (below := below) (meth := meth) (H := H) (locs := locs) (cells := 0) (slots := 0) (C := C) (b := G.2.2.2 t) (As := As) (rest := rest) (g := F0 m pc ls st) ⟨hx, hb, hml, hown, hts⟩ hM hcw
    ⟨z_blind, va_recv hva hP hc he, fun U hU hW => ⟨rfl, by rw [hU]; exact hP, va_K.moved hW.alike hva, zS_call hZ hS hW hU⟩⟩ rfl hn hlv.1 hst (lv_room hr) hdg ⟨Nat.zero_le _, Nat.zero_le _⟩
  exact z_ran hrun hS hlv k
theorem z_iret (hK : zC K G cc own nL fr lo (some .int)) {v : Int32} (hE : zE K G (some (.int v)) h) (hdg : decode cc pc = .ok (.ireturn, 1)) : zW K G nL pc lv [.int v] h := by
  obtain ⟨p, l, e, R, s, m, args, below, meth, c, Q⟩ := K
  obtain ⟨hx, hb, hml, hown, hts, hva, hG, hfr, hlo, hrt, hlk, -⟩ := id hK
  cases hE
  exact fun H locs ls hP hS hlv => W.iret hx hb hrt (fun t ht hW => ⟨⟨rfl, by rw [ht]; exact hP⟩, hS.F ht⟩) hS.2.2 hdg hlk
theorem z_zret (hK : zC K G cc own nL fr lo (some .boolean)) {v : Int32} (hv : zbit v = true) (hE : zE K G (some (.int v)) h) (hdg : decode cc pc = .ok (.ireturn, 1)) : zW K G nL pc lv [.int v] h := by
  obtain ⟨p, l, e, R, s, m, args, below, meth, c, Q⟩ := K
  obtain ⟨hx, hb, hml, hown, hts, hva, hG, hfr, hlo, hrt, hlk, -⟩ := id hK
  cases hE
  have h01 : v = 0 ∨ v = 1 := by simpa [zbit] using hv
  exact fun H locs ls hP hS hlv => W.zret hx hb hrt (by rcases h01 with rfl | rfl <;> rfl) (fun t ht hW => ⟨⟨rfl, by rw [ht]; exact hP⟩, hS.F ht⟩) hS.2.2 hdg hlk
theorem z_lret (hK : zC K G cc own nL fr lo (some .long)) {v : Int64} (hE : zE K G (some (.long v)) h) (hdg : decode cc pc = .ok (.lreturn, 1)) : zW K G nL pc lv [.long v] h := by
  obtain ⟨p, l, e, R, s, m, args, below, meth, c, Q⟩ := K
  obtain ⟨hx, hb, hml, hown, hts, hva, hG, hfr, hlo, hrt, hlk, -⟩ := id hK
  cases hE
  exact fun H locs ls hP hS hlv => W.lret hx hb hrt (fun t ht hW => ⟨⟨rfl, by rw [ht]; exact hP⟩, hS.F ht⟩) hS.2.2 hdg hlk
theorem z_vret (hK : zC K G cc own nL fr lo none) (hE : zE K G none h) (hdg : decode cc pc = .ok (.return_, 1)) : zW K G nL pc lv [] h := by
  obtain ⟨p, l, e, R, s, m, args, below, meth, c, Q⟩ := K
  obtain ⟨hx, hb, hml, hown, hts, hva, hG, hfr, hlo, hrt, hlk, -⟩ := id hK
  cases hE
  exact fun H locs ls hP hS hlv => W.vret hx hb hrt (fun t ht hW => ⟨⟨rfl, by rw [ht]; exact hP⟩, hS.F ht⟩) hS.2.2 hdg hlk
theorem z_ldcS0 (hK : zC K G cc "VoteAgainst$Tape" nL fr lo ret) (hdg : decode cc pc = .ok (.ldc 49, 2)) (k : zW K G nL (pc + 2) lv (.ref (zk G 0) :: rest) h) : zW K G nL pc lv rest h := by
  obtain ⟨p, l, e, R, s, m, args, below, meth, c, Q⟩ := K
  obtain ⟨hx, hb, hml, hown, hts, hva, hG, hfr, hlo, hrt, hlk, hZ⟩ := id hK
  exact fun H locs ls hP hS hl => va_ldcS hx hb hown hZ.2.1 hdg (k H locs ls hP hS hl)
theorem z_ldcS1 (hK : zC K G cc "VoteAgainst$Tape" nL fr lo ret) (hdg : decode cc pc = .ok (.ldc 60, 2)) (k : zW K G nL (pc + 2) lv (.ref (zk G 1) :: rest) h) : zW K G nL pc lv rest h := by
  obtain ⟨p, l, e, R, s, m, args, below, meth, c, Q⟩ := K
  obtain ⟨hx, hb, hml, hown, hts, hva, hG, hfr, hlo, hrt, hlk, hZ⟩ := id hK
  exact fun H locs ls hP hS hl => va_ldcS hx hb hown hZ.2.2.1 hdg (k H locs ls hP hS hl)
theorem z_sgetV (hK : zC K G cc own nL fr lo ret) {i index : Nat} (hi : i < 2) (hw : Cond.fieldLink own index "java/lang/String" "value" "[B" ∈ zTb) (hdg : decode cc pc = .ok (.getfield index, 3)) (k : zW K G nL (pc + 3) lv (.ref (zv G i) :: rest) h) : zW K G nL pc lv (.ref (zk G i) :: rest) h := by
  obtain ⟨p, l, e, R, s, m, args, below, meth, c, Q⟩ := K
  obtain ⟨hx, hb, hml, hown, hts, hva, hG, hfr, hlo, hrt, hlk, hZ⟩ := id hK
  exact fun H locs ls hP hS hl => vk_getf hx hb (hZ.1.1 i hi).2.2.1 hS hown (hts _ hw) (fun _ q => q) hdg (k H locs ls hP hS hl)
theorem z_sgetC (hK : zC K G cc own nL fr lo ret) {i index : Nat} (hi : i < 2) (hw : Cond.fieldLink own index "java/lang/String" "coder" "B" ∈ zTb) (hdg : decode cc pc = .ok (.getfield index, 3)) (k : zW K G nL (pc + 3) lv (.int 0 :: rest) h) : zW K G nL pc lv (.ref (zk G i) :: rest) h := by
  obtain ⟨p, l, e, R, s, m, args, below, meth, c, Q⟩ := K
  obtain ⟨hx, hb, hml, hown, hts, hva, hG, hfr, hlo, hrt, hlk, hZ⟩ := id hK
  exact fun H locs ls hP hS hl => vk_getf hx hb (hZ.1.1 i hi).2.1 hS hown (hts _ hw) (fun _ q => q) hdg (k H locs ls hP hS hl)
theorem z_gsC (hK : zC K G cc own nL fr lo ret) {index : Nat} (hw : Cond.fieldLink own index "java/lang/String" "COMPACT_STRINGS" "Z" ∈ zTb) (hdg : decode cc pc = .ok (.getstatic index, 3)) (k : zW K G nL (pc + 3) lv (.int 1 :: rest) h) : zW K G nL pc lv rest h := by
  obtain ⟨p, l, e, R, s, m, args, below, meth, c, Q⟩ := K
  obtain ⟨hx, hb, hml, hown, hts, hva, hG, hfr, hlo, hrt, hlk, hZ⟩ := id hK
  exact fun H locs ls hP hS hl => va_gets hx hb hZ.2.2.2.1 hS hown (hts _ hw) (fun _ q => q) hdg (k H locs ls hP hS hl)
theorem z_gsF (hK : zC K G cc own nL fr lo ret) {index : Nat} (hw : Cond.fieldLink own index "jdk/internal/util/Preconditions" "SIOOBE_FORMATTER" "Ljava/util/function/BiFunction;" ∈ zTb) (hdg : decode cc pc = .ok (.getstatic index, 3)) (k : zW K G nL (pc + 3) lv (zsv G :: rest) h) : zW K G nL pc lv rest h := by
  obtain ⟨p, l, e, R, s, m, args, below, meth, c, Q⟩ := K
  obtain ⟨hx, hb, hml, hown, hts, hva, hG, hfr, hlo, hrt, hlk, hZ⟩ := id hK
  exact fun H locs ls hP hS hl => va_gets hx hb hZ.2.2.2.2.1 hS hown (hts _ hw) (fun _ q => q) hdg (k H locs ls hP hS hl)
theorem z_balen (hK : zC K G cc own nL fr lo ret) {i : Nat} (hi : i < 2) (hdg : decode cc pc = .ok (.arraylength, 1)) (k : zW K G nL (pc + 1) lv (.int (Int32.ofNat (zlen.getD i 0)) :: rest) h) : zW K G nL pc lv (.ref (zv G i) :: rest) h := by
  obtain ⟨p, l, e, R, s, m, args, below, meth, c, Q⟩ := K
  obtain ⟨hx, hb, hml, hown, hts, hva, hG, hfr, hlo, hrt, hlk, hZ⟩ := id hK
  intro H locs ls hP hS hl
  obtain ⟨cell, h1, h2, h3, h4, h5, h6, h7⟩ := (hZ.1.1 i hi).2.2.2.kept hS.2.1
  exact W.alen hx hb h1 h2 h5 rfl rfl hdg (k H locs ls hP hS hl)
theorem z_bald (hK : zC K G cc own nL fr lo ret) {i : Nat} {j : Int32} (hi : i < 2) (hj : zin j (zlen.getD i 0) = true) (hdg : decode cc pc = .ok (.baload, 1)) (k : zW K G nL (pc + 1) lv (.int ((zbyt.getD i []).getD (zx j) 0) :: rest) h) : zW K G nL pc lv (.int j :: .ref (zv G i) :: rest) h := by
  obtain ⟨p, l, e, R, s, m, args, below, meth, c, Q⟩ := K
  obtain ⟨hx, hb, hml, hown, hts, hva, hG, hfr, hlo, hrt, hlk, hZ⟩ := id hK
  exact fun H locs ls hP hS hl => va_tb hx hb (hZ.1.1 i hi).2.2.2 hS (zin_vp hj) rfl hdg (k H locs ls hP hS hl)
/-- of a String's method -/
def zTf (y : MethodName) (bytes : ByteArray) (maxL : Nat) (ret : Option FieldType) (n : Nat) : Prop := y.cls = "java/lang/String" ∧ Cond.instanceMethod y ∈ zTb ∧ Cond.selects y.cls y y ∈ zTb ∧ Cond.initialized y.cls ∈ zTb ∧ Cond.code y bytes maxL ret ∈ zTb ∧ (y.cls ≠ "java/lang/invoke/MethodHandle" ∧ y.cls ≠ "java/lang/invoke/VarHandle" ∧ (parseMethodDescriptor y.desc).map (fun d => d.parameters.length) = some n)
theorem z_callT (hK : zC K G cc own nL fr lo ret) {y : MethodName} {bytes : ByteArray} {maxL fr' lo' n i index : Nat} {ret' : Option FieldType} (As : List Value) {rv : Option Value} (hM : zM K.2.1 G y bytes maxL ret' fr' lo' (.ref (zk G i) :: As) h rv h') (hv : zTf y bytes maxL ret' n) (hl : Cond.methodLink own index y ∈ zTb) (hi : i < 2) (hn : As.length = n) (rest : List Value) (hst : st = As.reverse ++ .ref (zk G i) :: rest) (hr : (rest.map fun v => v.category).sum ≤ 8) (hR : fr' + 1 ≤ fr ∧ 8 + (maxL + 11) + lo' ≤ lo) (hdg : decode cc pc = .ok (.invokevirtual index, 3)) (k : zW K G nL (pc + 3) lv (rv.toList ++ rest) h') : zW K G nL pc lv st h := by
  obtain ⟨p, l, e, R, s, m, args, below, meth, c, Q⟩ := K
  obtain ⟨hx, hb, hml, hown, hts, hva, hG, hfr, hlo, -, -, hZ⟩ := id hK
  obtain ⟨hcls, w1, w2, w3, w4, hd⟩ := hv
  intro H locs ls hP hS hlv
  have hrun := va_runV (p := p) (e := e) (below := below) (meth := meth) (H := H) (locs := locs) (cells := 0) (slots := 0) (C := y.cls) (b := zk G i) (As := As) (rest := rest) (g := F0 m pc ls st) ⟨hx, hb, hml, hown, hts⟩ hM
    (cwV n hts (zgoodIn (fun w h => by
      rcases List.mem_append.mp h with h | h
      · simp only [List.mem_cons, List.not_mem_nil, or_false] at h
        rcases h with rfl | rfl | rfl | rfl
        · exact hl
        · exact w1
        · exact w2
        · exact w3
      · rcases List.mem_cons.mp h with rfl | h
        · exact w4
        · exact h)) rfl rfl rfl ⟨rfl, hd⟩ ⟨Nat.le_trans hR.1 hfr, Nat.le_trans hR.2 hlo⟩)
    ⟨z_blind, by rw [hcls]; exact vk_recv hZ.1 hi hS, fun U hU hW => ⟨rfl, by rw [hU]; exact hP, va_K.moved hW.alike hva, zS_call hZ hS hW hU⟩⟩ rfl hn hlv.1 hst (lv_room hr) hdg ⟨Nat.zero_le _, Nat.zero_le _⟩
  exact z_ran hrun hS hlv k
theorem z_cret (hK : zC K G cc own nL fr lo (some .char)) {v : Int32} (hv : narrow .char (.int v) = .int v) (hE : zE K G (some (.int v)) h) (hdg : decode cc pc = .ok (.ireturn, 1)) : zW K G nL pc lv [.int v] h := by
  obtain ⟨p, l, e, R, s, m, args, below, meth, c, Q⟩ := K
  obtain ⟨hx, hb, hml, hown, hts, hva, hG, hfr, hlo, hrt, hlk, -⟩ := id hK
  cases hE
  exact fun H locs ls hP hS hlv => W.zret hx hb hrt hv (fun t ht hW => ⟨⟨rfl, by rw [ht]; exact hP⟩, hS.F ht⟩) hS.2.2 hdg hlk
theorem z_bret (hK : zC K G cc own nL fr lo (some .byte)) {v : Int32} (hv : narrow .byte (.int v) = .int v) (hE : zE K G (some (.int v)) h) (hdg : decode cc pc = .ok (.ireturn, 1)) : zW K G nL pc lv [.int v] h := by
  obtain ⟨p, l, e, R, s, m, args, below, meth, c, Q⟩ := K
  obtain ⟨hx, hb, hml, hown, hts, hva, hG, hfr, hlo, hrt, hlk, -⟩ := id hK
  cases hE
  exact fun H locs ls hP hS hlv => W.zret hx hb hrt hv (fun t ht hW => ⟨⟨rfl, by rw [ht]; exact hP⟩, hS.F ht⟩) hS.2.2 hdg hlk
end Z2
