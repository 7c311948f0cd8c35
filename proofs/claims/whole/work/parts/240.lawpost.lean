/-! laws: what is worked out of the code of the class (each operator behind what it joins) -/
abbrev Ev : Type := Int32 × Int32 × Int32 × Int32
abbrev Fn : Type := Ev → Int32
def jn (op : Nat) (a b : Int32) : Int32 := if op = 6 then (if b ≤ a then 0 else 1) else if op = 7 then (if a = b then 1 else 0) else if op = 8 then a + b else if op = 9 then a - b else if op = 36 then (if a = 0 then 0 else if b = 0 then 0 else 1) else if op = 37 then (if a = 0 then (if b = 0 then 0 else 1) else 1) else a * b
def nt (a : Int32) : Int32 := if a = 0 then 1 else 0
def isOp (op : Nat) : Prop := op = 6 ∨ op = 7 ∨ op = 8 ∨ op = 9 ∨ op = 10 ∨ op = 36 ∨ op = 37
def evC (h : zH) : Ev := (h.1 10 3, h.1 10 4, h.1 10 5, h.1 10 6)
/-- the values, the last one first -/
def sv2 (h : zH) : List Int32 → Prop
  | [] => True
  | v :: l => h.1 12 l.length = v ∧ sv2 h l
def A12 : Nat → Nat → Prop := fun x k => x = 12 ∨ (x = 10 ∧ k = 2)
section L3
variable {h h' : zH} {A : Nat → Nat → Prop}
theorem sv2_same : ∀ {l : List Int32}, sv2 h l → (∀ k, k < l.length → h'.1 12 k = h.1 12 k) → sv2 h' l := by
  intro l
  induction l with
  | nil => intro _ _; trivial
  | cons v l ih =>
    intro H x
    refine ⟨by rw [x l.length (by simp)]; exact H.1, ih H.2 (fun k hk => x k (by simp only [List.length_cons]; omega))⟩
theorem e_push {l : List Int32} {v : Int32} (H : sv2 h l) (e : h.1 10 2 = nI l.length) (hl : l.length < 32) : ∃ h', g_X1_push h 10 v = some h' ∧ h'.1 10 2 = nI (v :: l).length ∧ sv2 h' (v :: l) ∧ zsm A12 h h' := by
  have w : zsm A12 h (zpi (zpi h 12 l.length v) 10 2 (nI (l.length + 1))) := (zsm.pi (by unfold A12; omega)).tr (zsm.pi (by unfold A12; omega))
  refine ⟨zpi (zpi h 12 l.length v) 10 2 (nI (l.length + 1)), ?_, ?_, ⟨?_, sv2_same H (fun k hk => ?_)⟩, w⟩
  · unfold g_X1_push
    rw [e, if_neg (by rw [zleL_32 (by omega)]; omega), zin_t (by omega) (by omega), zgu_t, zx_nI (by omega)]
    simp only [zr_0_0, zr_0_1, zr_0_2, zr_0_3, zr_0_4, zr_0_5, zr_0_6, zr_0_7, zr_0_8, zr_1_0, zr_3_0, zr_3_1, zr_3_2, zr_3_3, zr_3_4, zr_3_5, zr_3_6, zr_10_0, zr_10_1, zr_13_0, zr_13_1, zr_13_4, zr_14_0, zr_14_1, zr_14_2, zr_14_3, zr_14_4, zr_14_5, zr_14_6, zr_21_0, zr_21_1, zr_24_0, zr_24_1, zr_24_2, zr_26_0, zr_26_1, zr_26_4, zr_27_0, zr_37_0, zr_37_1, zr_38_0, zr_44_0, zr_44_1, zr_44_2, zr_44_3, zr_45_0, zr_45_1, zr_52_0, zr_52_1, zr_59_0, zr_59_1, zr_66_0, zr_66_1, zr_73_0, zr_74_0, zr_74_1, zr_74_2, zr_74_3, zr_74_4, zr_74_5, zr_74_6, zr_74_7, zr_74_8, zr_74_9, zr_74_10, zr_74_11, zr_74_12, zr_74_13, zr_74_14, zr_74_15, zr_139_2, zr_139_10, zr_139_11, zr_139_12, zr_139_13, zr_139_14, zr_139_15, zr_139_16, zr_139_17, zr_139_18, zr_139_19, zr_139_20, zr_139_23, zr_139_24, zr_139_25, zr_139_26, zr_139_27, zr_139_28, zr_139_29, zr_139_30, zr_139_31, zr_139_32, zr_139_33, zr_139_34, zr_139_37, zr_139_38, zr_139_39, zr_139_40, zr_139_41, zr_139_42, zr_139_43, zr_139_44, zr_139_45, zr_139_46, zr_139_47, zr_139_48, zr_139_50]
    rw [zlet_e, zpi_r, if_neg (by omega), e, nI_1, zlet_e]
  · rw [zpi_r, if_pos ⟨rfl, rfl⟩]; rfl
  · rw [zpi_r, if_neg (by omega), zpi_r, if_pos ⟨rfl, rfl⟩]
  · rw [zpi_r, if_neg (by omega), zpi_r, if_neg (by omega)]
theorem e_pop {l : List Int32} {v : Int32} (H : sv2 h (v :: l)) (e : h.1 10 2 = nI (v :: l).length) (hl : l.length < 32) : ∃ h', g_X1_pop h 10 = some (v, h') ∧ h'.1 10 2 = nI l.length ∧ sv2 h' l ∧ zsm A12 h h' := by
  have e : h.1 10 2 = nI (l.length + 1) := e
  have w : zsm A12 h (zpi h 10 2 (nI l.length)) := zsm.pi (by unfold A12; omega)
  refine ⟨zpi h 10 2 (nI l.length), ?_, ?_, sv2_same H.2 (fun k hk => ?_), w⟩
  · unfold g_X1_pop
    rw [e, if_pos (by rw [zltL_0 (by omega)]; omega), nI_s1 (by omega), show l.length + 1 - 1 = l.length by omega, zlet_e]
    rw [zpi_r, if_pos ⟨rfl, rfl⟩, zin_t (by omega) (by omega), zgu_t, zx_nI (by omega)]
    simp only [zr_0_0, zr_0_1, zr_0_2, zr_0_3, zr_0_4, zr_0_5, zr_0_6, zr_0_7, zr_0_8, zr_1_0, zr_3_0, zr_3_1, zr_3_2, zr_3_3, zr_3_4, zr_3_5, zr_3_6, zr_10_0, zr_10_1, zr_13_0, zr_13_1, zr_13_4, zr_14_0, zr_14_1, zr_14_2, zr_14_3, zr_14_4, zr_14_5, zr_14_6, zr_21_0, zr_21_1, zr_24_0, zr_24_1, zr_24_2, zr_26_0, zr_26_1, zr_26_4, zr_27_0, zr_37_0, zr_37_1, zr_38_0, zr_44_0, zr_44_1, zr_44_2, zr_44_3, zr_45_0, zr_45_1, zr_52_0, zr_52_1, zr_59_0, zr_59_1, zr_66_0, zr_66_1, zr_73_0, zr_74_0, zr_74_1, zr_74_2, zr_74_3, zr_74_4, zr_74_5, zr_74_6, zr_74_7, zr_74_8, zr_74_9, zr_74_10, zr_74_11, zr_74_12, zr_74_13, zr_74_14, zr_74_15, zr_139_2, zr_139_10, zr_139_11, zr_139_12, zr_139_13, zr_139_14, zr_139_15, zr_139_16, zr_139_17, zr_139_18, zr_139_19, zr_139_20, zr_139_23, zr_139_24, zr_139_25, zr_139_26, zr_139_27, zr_139_28, zr_139_29, zr_139_30, zr_139_31, zr_139_32, zr_139_33, zr_139_34, zr_139_37, zr_139_38, zr_139_39, zr_139_40, zr_139_41, zr_139_42, zr_139_43, zr_139_44, zr_139_45, zr_139_46, zr_139_47, zr_139_48, zr_139_50]
    rw [zpi_r, if_neg (by omega), H.1]
  · rw [zpi_r, if_pos ⟨rfl, rfl⟩]
  · rw [zpi_r, if_neg (by omega)]
theorem e_joined {op : Nat} (ho : isOp op) (a b : Int32) : g_X1_joined h (nI op) a b = some (jn op a b) := by
  unfold g_X1_joined jn
  rw [zlet_e]
  have e36 : ∀ op, op < 100 → (nI op = (36 : Int32)) = (op = 36) := fun op h => propext (nI_eq (b := 36) (by omega) (by decide))
  have e37 : ∀ op, op < 100 → (nI op = (37 : Int32)) = (op = 37) := fun op h => propext (nI_eq (b := 37) (by omega) (by decide))
  rcases ho with rfl | rfl | rfl | rfl | rfl | rfl | rfl
  · simp (disch := omega) only [zeq_6, if_true]
    by_cases c : b ≤ a
    · rw [if_pos c, if_pos c]
    · rw [if_neg c, if_neg c]
  · simp (disch := omega) only [zeq_6, zeq_7, Nat.reduceEqDiff, if_true, if_false]
    by_cases c : a = b
    · rw [if_pos c, if_pos c]
    · rw [if_neg c, if_neg c]
  · simp (disch := omega) only [zeq_6, zeq_7, zeq_8, Nat.reduceEqDiff, if_true, if_false]
  · simp (disch := omega) only [zeq_6, zeq_7, zeq_8, zeq_9, Nat.reduceEqDiff, if_true, if_false]
  · simp (disch := omega) only [zeq_6, zeq_7, zeq_8, zeq_9, zeq_10, e36, e37, Nat.reduceEqDiff, if_true, if_false]
  · simp (disch := omega) only [zeq_6, zeq_7, zeq_8, zeq_9, zeq_10, e36, e37, Nat.reduceEqDiff, if_true, if_false]
    by_cases c : a = 0
    · rw [if_pos c, if_pos c]
    · rw [if_neg c, if_neg c]
      by_cases d : b = 0
      · rw [if_pos d, if_pos d]
      · rw [if_neg d, if_neg d]
  · simp (disch := omega) only [zeq_6, zeq_7, zeq_8, zeq_9, zeq_10, e36, e37, Nat.reduceEqDiff, if_true, if_false]
    by_cases c : a = 0
    · rw [if_pos c, if_pos c]
      by_cases d : b = 0
      · rw [if_pos d, if_pos d]
      · rw [if_neg d, if_neg d]
    · rw [if_neg c, if_neg c]
/-- the code, run to its end, leaves these values -/
def PO (cc : List Int32) (st : Ev → List Int32) : Prop := (cc = [] → ∀ e, st e = []) ∧ ∀ (h : zH) (b n e : Nat), (∀ j, j < cc.length → h.1 11 (b + j) = cc.getD j 0) → b + cc.length ≤ e → e ≤ 1000 → h.1 10 2 = nI 0 → ∃ h', g_X1_worth_7 10 (n + cc.length) (nI e) (nI b) h = g_X1_worth_7 10 n (nI e) (nI (b + cc.length)) h' ∧ h'.1 10 2 = nI (st (evC h)).length ∧ sv2 h' (st (evC h)) ∧ zsm A12 h h'
theorem PO.nil : PO [] (fun _ => []) := ⟨fun _ _ => rfl, fun h b n e _ _ _ h0 => ⟨h, rfl, h0, trivial, zsm.rf⟩⟩
theorem PO.ne {cc : List Int32} {f : Fn} (H : PO cc (fun e => [f e])) : 0 < cc.length := by
  cases cc with
  | nil => have := H.1 rfl (0, 0, 0, 0); cases this
  | cons _ _ => simp
theorem PO.snoc {cc : List Int32} {st st' : Ev → List Int32} (H : PO cc st) (c : Int32) (K : ∀ (h : zH) (x n e : Nat), x < e → e ≤ 1000 → h.1 11 x = c → h.1 10 2 = nI (st (evC h)).length → sv2 h (st (evC h)) → ∃ h', g_X1_worth_7 10 (n + 1) (nI e) (nI x) h = g_X1_worth_7 10 n (nI e) (nI (x + 1)) h' ∧ h'.1 10 2 = nI (st' (evC h)).length ∧ sv2 h' (st' (evC h)) ∧ zsm A12 h h') : PO (cc ++ [c]) st' := by
  refine ⟨fun z => by simp at z, ?_⟩
  intro h b n e hc he h1000 h0
  have hl : (cc ++ [c]).length = cc.length + 1 := by simp
  rw [hl] at hc he
  obtain ⟨h1, e1, k1, k2, w1⟩ := H.2 h b (n + 1) e (fun j hj => by
    rw [hc j (by omega), List.getD_eq_getElem?_getD, List.getElem?_append_left hj, ← List.getD_eq_getElem?_getD]) (by omega) h1000 h0
  have ee : evC h1 = evC h := by
    unfold evC
    rw [(w1 10 3 (by unfold A12; omega)).1, (w1 10 4 (by unfold A12; omega)).1, (w1 10 5 (by unfold A12; omega)).1, (w1 10 6 (by unfold A12; omega)).1]
  obtain ⟨h2, e2, k3, k4, w2⟩ := K h1 (b + cc.length) n e (by omega) h1000 (by
    rw [(w1 11 _ (by unfold A12; omega)).1, hc cc.length (by omega), List.getD_eq_getElem?_getD, List.getElem?_append_right (Nat.le_refl _)]; simp) (by rw [ee]; exact k1) (by rw [ee]; exact k2)
  rw [ee] at k3 k4
  refine ⟨h2, ?_, k3, k4, w1.tr w2⟩
  rw [hl, show n + (cc.length + 1) = n + 1 + cc.length by omega, e1, e2]; rfl
theorem PO.val {cc : List Int32} {st : Ev → List Int32} (H : PO cc st) (hl : ∀ e, (st e).length < 32) (t : Nat) (h1 : 38 ≤ t) (h2 : t ≤ 41) : PO (cc ++ [nI t]) (fun e => (if t = 38 then e.1 else if t = 39 then e.2.1 else if t = 40 then e.2.2.1 else e.2.2.2) :: st e) := by
  refine H.snoc _ (fun h x n e hx he hc k1 k2 => ?_)
  obtain ⟨h', e', a, b, w⟩ := e_push (v := if t = 38 then (evC h).1 else if t = 39 then (evC h).2.1 else if t = 40 then (evC h).2.2.1 else (evC h).2.2.2) k2 k1 (hl _)
  refine ⟨h', ?_, a, b, w⟩
  have a38 : ¬ nI t < (38 : Int32) := fun z => by rw [show (38 : Int32) = nI 38 from rfl, znI_lt (by omega) (by decide)] at z; omega
  have ef : g_X1_fact h 10 (nI t) = some (if t = 38 then (evC h).1 else if t = 39 then (evC h).2.1 else if t = 40 then (evC h).2.2.1 else (evC h).2.2.2) := by
    unfold g_X1_fact evC
    rw [zlet_e]
    have cs : t = 38 ∨ t = 39 ∨ t = 40 ∨ t = 41 := by omega
    rcases cs with rfl | rfl | rfl | rfl <;> rfl
  rw [g_X1_worth_7, if_neg (by rw [znI_le (by omega) (by omega)]; omega), zin_t (by omega) (by omega), zgu_t, zx_nI (by omega)]
  simp only [zr_0_0, zr_0_1, zr_0_2, zr_0_3, zr_0_4, zr_0_5, zr_0_6, zr_0_7, zr_0_8, zr_1_0, zr_3_0, zr_3_1, zr_3_2, zr_3_3, zr_3_4, zr_3_5, zr_3_6, zr_10_0, zr_10_1, zr_13_0, zr_13_1, zr_13_4, zr_14_0, zr_14_1, zr_14_2, zr_14_3, zr_14_4, zr_14_5, zr_14_6, zr_21_0, zr_21_1, zr_24_0, zr_24_1, zr_24_2, zr_26_0, zr_26_1, zr_26_4, zr_27_0, zr_37_0, zr_37_1, zr_38_0, zr_44_0, zr_44_1, zr_44_2, zr_44_3, zr_45_0, zr_45_1, zr_52_0, zr_52_1, zr_59_0, zr_59_1, zr_66_0, zr_66_1, zr_73_0, zr_74_0, zr_74_1, zr_74_2, zr_74_3, zr_74_4, zr_74_5, zr_74_6, zr_74_7, zr_74_8, zr_74_9, zr_74_10, zr_74_11, zr_74_12, zr_74_13, zr_74_14, zr_74_15, zr_139_2, zr_139_10, zr_139_11, zr_139_12, zr_139_13, zr_139_14, zr_139_15, zr_139_16, zr_139_17, zr_139_18, zr_139_19, zr_139_20, zr_139_23, zr_139_24, zr_139_25, zr_139_26, zr_139_27, zr_139_28, zr_139_29, zr_139_30, zr_139_31, zr_139_32, zr_139_33, zr_139_34, zr_139_37, zr_139_38, zr_139_39, zr_139_40, zr_139_41, zr_139_42, zr_139_43, zr_139_44, zr_139_45, zr_139_46, zr_139_47, zr_139_48, zr_139_50]
  rw [hc, zlet_e, if_pos (nI_pos' (by omega)), if_neg a38, ef, zbind_s, e', zbind_s, nI_1]
theorem xorxor (x : Int32) : (x ^^^ (-1)) ^^^ (-1) = x := by
  apply Int32.toBitVec_inj.mp
  simp only [Int32.toBitVec_xor]
  rw [BitVec.xor_assoc, BitVec.xor_self, BitVec.xor_zero]
theorem xorneg {n : Nat} (h : n < 2147483648) : ¬ 0 ≤ nI n ^^^ (-1) := by
  have e : nI n ^^^ (-1) = ~~~(nI n) := by
    apply Int32.toBitVec_inj.mp
    rw [Int32.toBitVec_xor, Int32.toBitVec_not]
    have : Int32.toBitVec (-1) = BitVec.allOnes 32 := by decide
    rw [this, BitVec.xor_allOnes]
  rw [e, Int32.le_iff_toInt_le, Int32.toInt_not, nI_toInt h, Int.bmod_eq_of_le (by omega) (by omega)]
  have : (0 : Int32).toInt = 0 := by decide
  omega
theorem PO.num {cc : List Int32} {st : Ev → List Int32} (H : PO cc st) (hl : ∀ e, (st e).length < 32) (m : Nat) (hm : m < 2147483648) : PO (cc ++ [nI m ^^^ (-1)]) (fun e => nI m :: st e) := by
  refine H.snoc _ (fun h x n e hx he hc k1 k2 => ?_)
  obtain ⟨h', e', a, b, w⟩ := e_push (v := nI m) k2 k1 (hl _)
  refine ⟨h', ?_, a, b, w⟩
  rw [g_X1_worth_7, if_neg (by rw [znI_le (by omega) (by omega)]; omega), zin_t (by omega) (by omega), zgu_t, zx_nI (by omega)]
  simp only [zr_0_0, zr_0_1, zr_0_2, zr_0_3, zr_0_4, zr_0_5, zr_0_6, zr_0_7, zr_0_8, zr_1_0, zr_3_0, zr_3_1, zr_3_2, zr_3_3, zr_3_4, zr_3_5, zr_3_6, zr_10_0, zr_10_1, zr_13_0, zr_13_1, zr_13_4, zr_14_0, zr_14_1, zr_14_2, zr_14_3, zr_14_4, zr_14_5, zr_14_6, zr_21_0, zr_21_1, zr_24_0, zr_24_1, zr_24_2, zr_26_0, zr_26_1, zr_26_4, zr_27_0, zr_37_0, zr_37_1, zr_38_0, zr_44_0, zr_44_1, zr_44_2, zr_44_3, zr_45_0, zr_45_1, zr_52_0, zr_52_1, zr_59_0, zr_59_1, zr_66_0, zr_66_1, zr_73_0, zr_74_0, zr_74_1, zr_74_2, zr_74_3, zr_74_4, zr_74_5, zr_74_6, zr_74_7, zr_74_8, zr_74_9, zr_74_10, zr_74_11, zr_74_12, zr_74_13, zr_74_14, zr_74_15, zr_139_2, zr_139_10, zr_139_11, zr_139_12, zr_139_13, zr_139_14, zr_139_15, zr_139_16, zr_139_17, zr_139_18, zr_139_19, zr_139_20, zr_139_23, zr_139_24, zr_139_25, zr_139_26, zr_139_27, zr_139_28, zr_139_29, zr_139_30, zr_139_31, zr_139_32, zr_139_33, zr_139_34, zr_139_37, zr_139_38, zr_139_39, zr_139_40, zr_139_41, zr_139_42, zr_139_43, zr_139_44, zr_139_45, zr_139_46, zr_139_47, zr_139_48, zr_139_50]
  rw [hc, zlet_e, if_neg (xorneg hm), xorxor, e', zbind_s, nI_1]
theorem PO.no {cc : List Int32} {f : Fn} {st : Ev → List Int32} (H : PO cc (fun e => f e :: st e)) (hl : ∀ e, (st e).length < 31) : PO (cc ++ [35]) (fun e => nt (f e) :: st e) := by
  refine H.snoc _ (fun h x n e hx he hc k1 k2 => ?_)
  obtain ⟨h', e', a, b, w⟩ := e_pop k2 k1 (by have := hl (evC h); omega)
  obtain ⟨h2, e2, a2, b2, w2⟩ := e_push (h := h') (v := nt (f (evC h))) b a (by have := hl (evC h); omega)
  refine ⟨h2, ?_, a2, b2, w.tr w2⟩
  rw [g_X1_worth_7, if_neg (by rw [znI_le (by omega) (by omega)]; omega), zin_t (by omega) (by omega), zgu_t, zx_nI (by omega)]
  simp only [zr_0_0, zr_0_1, zr_0_2, zr_0_3, zr_0_4, zr_0_5, zr_0_6, zr_0_7, zr_0_8, zr_1_0, zr_3_0, zr_3_1, zr_3_2, zr_3_3, zr_3_4, zr_3_5, zr_3_6, zr_10_0, zr_10_1, zr_13_0, zr_13_1, zr_13_4, zr_14_0, zr_14_1, zr_14_2, zr_14_3, zr_14_4, zr_14_5, zr_14_6, zr_21_0, zr_21_1, zr_24_0, zr_24_1, zr_24_2, zr_26_0, zr_26_1, zr_26_4, zr_27_0, zr_37_0, zr_37_1, zr_38_0, zr_44_0, zr_44_1, zr_44_2, zr_44_3, zr_45_0, zr_45_1, zr_52_0, zr_52_1, zr_59_0, zr_59_1, zr_66_0, zr_66_1, zr_73_0, zr_74_0, zr_74_1, zr_74_2, zr_74_3, zr_74_4, zr_74_5, zr_74_6, zr_74_7, zr_74_8, zr_74_9, zr_74_10, zr_74_11, zr_74_12, zr_74_13, zr_74_14, zr_74_15, zr_139_2, zr_139_10, zr_139_11, zr_139_12, zr_139_13, zr_139_14, zr_139_15, zr_139_16, zr_139_17, zr_139_18, zr_139_19, zr_139_20, zr_139_23, zr_139_24, zr_139_25, zr_139_26, zr_139_27, zr_139_28, zr_139_29, zr_139_30, zr_139_31, zr_139_32, zr_139_33, zr_139_34, zr_139_37, zr_139_38, zr_139_39, zr_139_40, zr_139_41, zr_139_42, zr_139_43, zr_139_44, zr_139_45, zr_139_46, zr_139_47, zr_139_48, zr_139_50]
  rw [hc, zlet_e, if_pos (by decide), if_pos (by decide), if_pos rfl, e', zbind_s]
  unfold g_X1_worth_76
  unfold nt at e2
  by_cases c : f (evC h) = 0
  · rw [if_pos c] at e2
    simp only [if_pos c]
    rw [e2, zbind_s, nI_1]
  · rw [if_neg c] at e2
    simp only [if_neg c]
    rw [e2, zbind_s, nI_1]
theorem PO.op {cc : List Int32} {f g : Fn} {st : Ev → List Int32} (H : PO cc (fun e => g e :: f e :: st e)) (hl : ∀ e, (st e).length < 30) {op : Nat} (ho : isOp op) : PO (cc ++ [nI op]) (fun e => jn op (f e) (g e) :: st e) := by
  refine H.snoc _ (fun h x n e hx he hc k1 k2 => ?_)
  obtain ⟨h', e', a, b, w⟩ := e_pop k2 k1 (by have := hl (evC h); simp only [List.length_cons]; omega)
  obtain ⟨h3, e3, a3, b3, w3⟩ := e_pop b a (by have := hl (evC h); omega)
  obtain ⟨h2, e2, a2, b2, w2⟩ := e_push (h := h3) (v := jn op (f (evC h)) (g (evC h))) b3 a3 (by have := hl (evC h); omega)
  refine ⟨h2, ?_, a2, b2, (w.tr w3).tr w2⟩
  have o38 : op < 38 ∧ ¬ op = 35 := by unfold isOp at ho; omega
  have l38 : nI op < (38 : Int32) := by rw [show (38 : Int32) = nI 38 from rfl, znI_lt (by omega) (by decide)]; exact o38.1
  have n35 : ¬ nI op = (35 : Int32) := fun z => by rw [show (35 : Int32) = nI 35 from rfl, znI_eq (by omega) (by decide)] at z; exact o38.2 z
  rw [g_X1_worth_7, if_neg (by rw [znI_le (by omega) (by omega)]; omega), zin_t (by omega) (by omega), zgu_t, zx_nI (by omega)]
  simp only [zr_0_0, zr_0_1, zr_0_2, zr_0_3, zr_0_4, zr_0_5, zr_0_6, zr_0_7, zr_0_8, zr_1_0, zr_3_0, zr_3_1, zr_3_2, zr_3_3, zr_3_4, zr_3_5, zr_3_6, zr_10_0, zr_10_1, zr_13_0, zr_13_1, zr_13_4, zr_14_0, zr_14_1, zr_14_2, zr_14_3, zr_14_4, zr_14_5, zr_14_6, zr_21_0, zr_21_1, zr_24_0, zr_24_1, zr_24_2, zr_26_0, zr_26_1, zr_26_4, zr_27_0, zr_37_0, zr_37_1, zr_38_0, zr_44_0, zr_44_1, zr_44_2, zr_44_3, zr_45_0, zr_45_1, zr_52_0, zr_52_1, zr_59_0, zr_59_1, zr_66_0, zr_66_1, zr_73_0, zr_74_0, zr_74_1, zr_74_2, zr_74_3, zr_74_4, zr_74_5, zr_74_6, zr_74_7, zr_74_8, zr_74_9, zr_74_10, zr_74_11, zr_74_12, zr_74_13, zr_74_14, zr_74_15, zr_139_2, zr_139_10, zr_139_11, zr_139_12, zr_139_13, zr_139_14, zr_139_15, zr_139_16, zr_139_17, zr_139_18, zr_139_19, zr_139_20, zr_139_23, zr_139_24, zr_139_25, zr_139_26, zr_139_27, zr_139_28, zr_139_29, zr_139_30, zr_139_31, zr_139_32, zr_139_33, zr_139_34, zr_139_37, zr_139_38, zr_139_39, zr_139_40, zr_139_41, zr_139_42, zr_139_43, zr_139_44, zr_139_45, zr_139_46, zr_139_47, zr_139_48, zr_139_50]
  rw [hc, zlet_e, if_pos (nI_pos' (by omega)), if_pos l38, if_neg n35, e', zbind_s]
  simp only
  rw [e3, zbind_s]
  simp only
  rw [e_joined ho, zbind_s, e2, zbind_s, nI_1]
/-- a law's stretch of code, worked out -/
theorem PO.lw {cc : List Int32} {f : Fn} (H : PO cc (fun e => [f e])) {b : Nat} (hb : b + cc.length ≤ 1000) (hc : ∀ j, j < cc.length → h.1 11 (b + j) = cc.getD j 0) : LW (fun a b c d => f (a, b, c, d)) h (nI b) (nI (b + cc.length)) := by
  intro h1 e1
  have w0 : zsm A12 h1 (zpi h1 10 2 0) := zsm.pi (by unfold A12; omega)
  have ee : evC (zpi h1 10 2 0) = evC h1 := by
    unfold evC
    rw [(w0 10 3 (by unfold A12; omega)).1, (w0 10 4 (by unfold A12; omega)).1, (w0 10 5 (by unfold A12; omega)).1, (w0 10 6 (by unfold A12; omega)).1]
  obtain ⟨n, hn⟩ : ∃ n, zfu = (n + 1) + cc.length := ⟨3999 - cc.length, by show 4000 = _; omega⟩
  obtain ⟨h2, e2, k1, k2, w2⟩ := H.2 (zpi h1 10 2 0) b (n + 1) (b + cc.length) (fun j hj => by rw [(w0 11 _ (by unfold A12; omega)).1, e1]; exact hc j hj) (Nat.le_refl _) hb (by rw [zpi_r, if_pos ⟨rfl, rfl⟩]; rfl)
  rw [ee] at k1 k2
  obtain ⟨h3, e3, k3, k4, w3⟩ := e_pop k2 k1 (by simp)
  refine ⟨h3, ?_, ((w0.tr w2).tr w3).mono (fun a b z => z)⟩
  unfold g_X1_worth
  rw [zlet_e, hn, e2, g_X1_worth_7, if_pos (by rw [znI_le (by omega) (by omega)]; exact Nat.le_refl _), e3]; rfl
end L3
