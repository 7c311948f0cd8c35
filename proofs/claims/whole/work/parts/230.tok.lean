/-! tokens: what class and reference see at a place of the tape -/
def zcds : List Nat := [112, 101, 114, 115, 111, 110, 32, 97, 103, 101, 32, 101, 110, 118, 121, 32, 103, 114, 117, 100, 103, 101, 32, 104, 101, 105, 114, 32, 98, 97, 114, 32, 100, 101, 97, 100, 32, 116, 105, 101, 115, 32, 103, 114, 111, 119, 115, 32, 101, 97, 115, 101, 115, 32, 116, 97, 120, 32, 103, 105, 102, 116, 32, 99, 97, 115, 116, 32, 100, 105, 101, 32, 100, 97, 121, 32, 115, 116, 97, 121, 32, 108, 97, 112, 115, 101, 32, 111, 108, 100, 32, 121, 111, 117, 110, 103, 32, 112, 108, 97, 105, 110, 32, 115, 97, 105, 110, 116, 32, 104, 111, 116, 32, 104, 101, 114, 109, 105, 116, 32, 110, 111, 116, 32, 97, 110, 100, 32, 111, 114, 32, 104, 97, 115, 32, 106, 101, 97, 108, 111, 117, 115, 32, 121, 101, 97, 114, 115, 32, 107, 110, 111, 119, 110, 32]
def zwds : List (List Nat) := [[112, 101, 114, 115, 111, 110], [97, 103, 101], [101, 110, 118, 121], [103, 114, 117, 100, 103, 101], [104, 101, 105, 114], [98, 97, 114], [100, 101, 97, 100], [116, 105, 101, 115], [103, 114, 111, 119, 115], [101, 97, 115, 101, 115], [116, 97, 120], [103, 105, 102, 116], [99, 97, 115, 116], [100, 105, 101], [100, 97, 121], [115, 116, 97, 121], [108, 97, 112, 115, 101], [111, 108, 100], [121, 111, 117, 110, 103], [112, 108, 97, 105, 110], [115, 97, 105, 110, 116], [104, 111, 116], [104, 101, 114, 109, 105, 116], [110, 111, 116], [97, 110, 100], [111, 114], [104, 97, 115], [106, 101, 97, 108, 111, 117, 115], [121, 101, 97, 114, 115], [107, 110, 111, 119, 110]]
theorem zcds_eq : zcds = zwds.flatMap (fun w => w ++ [32]) := by decide
theorem zwds_32 : ∀ w, w ∈ zwds → 32 ∉ w := by decide

/-- the class's scan of its words -/
def wsc (l : List Nat) : List Nat → Nat → Option Nat → Nat
  | [], _, _ => 2
  | c :: cs, k, a => if c = 32 then (if a = some l.length then k else wsc l cs (k + 1) (some 0)) else (match a with
    | none => wsc l cs k none
    | some j => if j < l.length ∧ l.getD j 0 = c then wsc l cs k (some (j + 1)) else wsc l cs k none)
theorem wsc_cons (l : List Nat) (c : Nat) (cs : List Nat) (k : Nat) (a : Option Nat) : wsc l (c :: cs) k a = if c = 32 then (if a = some l.length then k else wsc l cs (k + 1) (some 0)) else (match a with
    | none => wsc l cs k none
    | some j => if j < l.length ∧ l.getD j 0 = c then wsc l cs k (some (j + 1)) else wsc l cs k none) := by cases a <;> rfl
/-- the token of a word -/
def tcl (l : List Nat) : List (List Nat) → Nat → Nat
  | [], _ => 2
  | w :: ws, k => if l = w then k else tcl l ws (k + 1)
theorem wsc_none {l : List Nat} : ∀ (w rest : List Nat) (k : Nat), 32 ∉ w → wsc l (w ++ 32 :: rest) k none = wsc l rest (k + 1) (some 0) := by
  intro w
  induction w with
  | nil => intro rest k _; rw [List.nil_append, wsc, if_pos rfl, if_neg (by simp)]
  | cons c w ih =>
    intro rest k h
    rw [List.cons_append, wsc, if_neg (fun z => h (by simp [z]))]
    exact ih rest k (fun z => h (by simp [z]))
theorem wsc_some {l : List Nat} : ∀ (w rest : List Nat) (k j : Nat), 32 ∉ w → j ≤ l.length → wsc l (w ++ 32 :: rest) k (some j) = if l.drop j = w then k else wsc l rest (k + 1) (some 0) := by
  intro w
  induction w with
  | nil =>
    intro rest k j _ hj
    rw [List.nil_append, wsc, if_pos rfl]
    have : (some j = some l.length) = (l.drop j = []) := by
      apply propext
      rw [List.drop_eq_nil_iff]
      simp
      omega
    simp only [this]
  | cons c w ih =>
    intro rest k j h hj
    rw [List.cons_append, wsc, if_neg (fun z => h (by simp [z]))]
    have h2 : 32 ∉ w := fun z => h (by simp [z])
    by_cases e : j < l.length ∧ l.getD j 0 = c
    · rw [if_pos e, ih rest k (j + 1) h2 (by omega)]
      have hd : l.drop j = c :: l.drop (j + 1) := by
        rw [List.drop_eq_getElem_cons e.1]
        have := e.2
        rw [List.getD_eq_getElem?_getD, List.getElem?_eq_getElem e.1] at this
        simp at this
        rw [this]
      rw [hd]
      simp
    · rw [if_neg e, wsc_none w rest k h2, if_neg]
      intro z
      apply e
      have hl : j < l.length := by
        have := congrArg List.length z
        simp at this
        omega
      refine ⟨hl, ?_⟩
      rw [List.drop_eq_getElem_cons hl] at z
      rw [List.getD_eq_getElem?_getD, List.getElem?_eq_getElem hl]
      simp
      exact (List.cons.inj z).1
theorem wsc_all {l : List Nat} : ∀ (ws : List (List Nat)) (k : Nat), (∀ w, w ∈ ws → 32 ∉ w) → wsc l (ws.flatMap (fun w => w ++ [32])) k (some 0) = tcl l ws k := by
  intro ws
  induction ws with
  | nil => intro k _; rfl
  | cons w ws ih =>
    intro k h
    rw [List.flatMap_cons, List.append_assoc]
    show wsc l (w ++ 32 :: (ws.flatMap (fun w => w ++ [32]))) k (some 0) = _
    rw [wsc_some w _ k 0 (h w (by simp)) (Nat.zero_le _), tcl, List.drop_zero]
    rw [ih (k + 1) (fun w2 h2 => h w2 (by simp [h2]))]
def zrn (f : Nat → Bool) (N : Nat) : Nat → Nat → Nat
  | 0, p => p
  | k + 1, p => if p < N ∧ f p = true then zrn f N k (p + 1) else p
/-- to the end of a run -/
def zr (f : Nat → Bool) (N p : Nat) : Nat := zrn f N (N - p) p
theorem zr_step {f : Nat → Bool} {N p : Nat} (h : p < N) (hf : f p = true) : zr f N p = zr f N (p + 1) := by
  unfold zr
  obtain ⟨k, hk⟩ : ∃ k, N - p = k + 1 := ⟨N - p - 1, by omega⟩
  rw [hk, zrn, if_pos ⟨h, hf⟩, show N - (p + 1) = k by omega]
theorem zr_stop {f : Nat → Bool} {N p : Nat} (h : N ≤ p ∨ f p = false) : zr f N p = p := by
  unfold zr
  cases hk : N - p with
  | zero => rfl
  | succ k =>
    rw [zrn, if_neg]
    intro z
    rcases h with h | h
    · omega
    · rw [h] at z; cases z.2
theorem zr_prop {f : Nat → Bool} {N : Nat} : ∀ k p, k = N - p → p ≤ N → p ≤ zr f N p ∧ zr f N p ≤ N ∧ (∀ j, p ≤ j → j < zr f N p → f j = true) ∧ (zr f N p < N → f (zr f N p) = false) := by
  intro k
  induction k with
  | zero =>
    intro p hk hp
    have e : zr f N p = p := zr_stop (Or.inl (by omega))
    rw [e]
    exact ⟨Nat.le_refl _, hp, fun j a b => by omega, fun z => by omega⟩
  | succ k ih =>
    intro p hk hp
    cases hf : f p
    · have e : zr f N p = p := zr_stop (Or.inr hf)
      rw [e]
      exact ⟨Nat.le_refl _, hp, fun j a b => by omega, fun z => hf⟩
    · have e := zr_step (f := f) (N := N) (p := p) (by omega) hf
      obtain ⟨a, b, c, d⟩ := ih (p + 1) (by omega) (by omega)
      rw [e]
      refine ⟨by omega, b, fun j h1 h2 => ?_, d⟩
      by_cases q : j = p
      · rw [q]; exact hf
      · exact c j (by omega) h2
def isB (c : Nat) : Bool := decide (c = 10) || decide (c = 32)
def isL (c : Nat) : Bool := decide (97 ≤ c) && decide (c ≤ 122)
def isN (c : Nat) : Bool := decide (48 ≤ c) && decide (c ≤ 57)
/-- a token's beginning, from p on; its end; its letters; its number; what it is (as the class numbers it) -/
def tq (T : zTp) (p : Nat) : Nat := zr (fun k => isB (T.2 k)) T.1 p
def te (T : zTp) (q : Nat) : Nat := if T.1 ≤ q then q else if isL (T.2 q) then zr (fun k => isL (T.2 k)) T.1 q else if isN (T.2 q) then zr (fun k => isN (T.2 k)) T.1 q else q + 1
def tcs (T : zTp) (q n : Nat) : List Nat := (List.range n).map (fun j => T.2 (q + j))
def tl (T : zTp) (q : Nat) : List Nat := (tcs T q (te T q - q)).map (fun c => c - 96)
def tnv (T : zTp) (q n : Nat) : Nat := (tcs T q n).foldl (fun a c => a * 10 + (c - 48)) 0
def tn (T : zTp) (q : Nat) : Nat := tnv T q (te T q - q)
def tsg (c : Nat) : Nat := if c = 40 then 4 else if c = 41 then 5 else if c = 60 then 6 else if c = 61 then 7 else if c = 43 then 8 else if c = 45 then 9 else if c = 42 then 10 else if c = 59 then 11 else 1
def tc (T : zTp) (q : Nat) : Nat := if T.1 ≤ q then 0 else if isL (T.2 q) then (if te T q - q ≤ 8 then tcl (tcs T q (te T q - q)) zwds 12 else 1) else if isN (T.2 q) then (if te T q - q ≤ 4 then 3 else 1) else tsg (T.2 q)
def TI (T : zTp) : Prop := T.1 ≤ 1000 ∧ ∀ k, k < T.1 → T.2 k = 10 ∨ (32 ≤ T.2 k ∧ T.2 k ≤ 126)
theorem tq_prop {T : zTp} {p : Nat} (hp : p ≤ T.1) : p ≤ tq T p ∧ tq T p ≤ T.1 ∧ (tq T p < T.1 → isB (T.2 (tq T p)) = false) := by
  obtain ⟨a, b, c, d⟩ := zr_prop (f := fun k => isB (T.2 k)) (N := T.1) (T.1 - p) p rfl hp
  exact ⟨a, b, d⟩
theorem te_prop {T : zTp} {q : Nat} (hq : q ≤ T.1) : q ≤ te T q ∧ te T q ≤ T.1 ∧ (q < T.1 → q < te T q) := by
  unfold te
  by_cases c : T.1 ≤ q
  · rw [if_pos c]; exact ⟨Nat.le_refl _, hq, fun z => by omega⟩
  · rw [if_neg c]
    cases hl : isL (T.2 q)
    · cases hn : isN (T.2 q)
      · simp only [Bool.false_eq_true, if_false]; exact ⟨by omega, by omega, fun _ => by omega⟩
      · simp only [Bool.false_eq_true, if_false, if_true]
        have e := zr_step (f := fun k => isN (T.2 k)) (N := T.1) (p := q) (by omega) hn
        obtain ⟨a, b, -, -⟩ := zr_prop (f := fun k => isN (T.2 k)) (N := T.1) (T.1 - (q + 1)) (q + 1) rfl (by omega)
        rw [e]; exact ⟨by omega, b, fun _ => by omega⟩
    · simp only [if_true]
      have e := zr_step (f := fun k => isL (T.2 k)) (N := T.1) (p := q) (by omega) hl
      obtain ⟨a, b, -, -⟩ := zr_prop (f := fun k => isL (T.2 k)) (N := T.1) (T.1 - (q + 1)) (q + 1) rfl (by omega)
      rw [e]; exact ⟨by omega, b, fun _ => by omega⟩
/-- a tape in the class, in the reference -/
def TC (T : zTp) (h : zH) : Prop := h.1 1 1 = nI T.1 ∧ ∀ k, k < T.1 → h.1 2 k = nI (T.2 k)
def TM (T : zTp) (h : zH) : Prop := h.1 139 3 = nI T.1 ∧ ∀ k, k < T.1 → h.1 140 k = nI (T.2 k)
/-- the token at q is looked at -/
def CT (T : zTp) (q : Nat) (h : zH) : Prop := TC T h ∧ q ≤ T.1 ∧ h.1 1 3 = nI q ∧ h.1 1 5 = nI (te T q) ∧ h.1 1 2 = nI (tc T q) ∧ (tc T q = 3 → h.1 1 4 = nI (tn T q))
def mtk (c : Nat) : Nat := if c = 0 then 0 else if c = 1 then 4 else if c = 2 then 1 else if c = 3 then 2 else if c < 12 then 3 else 1
def MT (T : zTp) (q : Nat) (h : zH) : Prop := TM T h ∧ q ≤ T.1 ∧ h.1 139 5 = nI q ∧ h.1 139 4 = nI (te T q) ∧ h.1 139 6 = nI (mtk (tc T q)) ∧ (tc T q = 2 ∨ 12 ≤ tc T q → h.2 139 7 = w27 (tl T q)) ∧ (tc T q = 3 → h.1 139 8 = nI (tn T q))
section K3
variable {T : zTp} {q p : Nat} {h h' : zH} {A : Nat → Nat → Prop}
theorem TC.same (K : TC T h) (x : zsm A h h') (h1 : ¬ A 1 1) (h2 : ∀ k, ¬ A 2 k) : TC T h' := ⟨by rw [(x _ _ h1).1]; exact K.1, fun k hk => by rw [(x _ _ (h2 k)).1]; exact K.2 k hk⟩
theorem TM.same (K : TM T h) (x : zsm A h h') (h1 : ¬ A 139 3) (h2 : ∀ k, ¬ A 140 k) : TM T h' := ⟨by rw [(x _ _ h1).1]; exact K.1, fun k hk => by rw [(x _ _ (h2 k)).1]; exact K.2 k hk⟩
theorem TI.c (I : TI T) {k : Nat} (hk : k < T.1) : T.2 k ≤ 126 := by rcases I.2 k hk with e | e <;> omega
theorem e_isB {c : Nat} (hc : c ≤ 126) : g_X8_isBlank h (nI c) = some (isB c) := by
  unfold g_X8_isBlank isB
  simp (disch := omega) only [zin_t, zx_nI, nI_add, nI_mul, znI_le, znI_lt, znI_eq, znI_neg, zgu_t, zgu_f, zbind_s, zlet_e, zb_eq0, zb_eq1, zb_t, zb_f, zleL_0, zleR_0, zltL_0, zltR_0, zeq_0, zxl_0, zil_0, zmL_1, zmR_1, zaL_1, zaR_1, zleL_1, zleR_1, zltL_1, zltR_1, zeq_1, zxl_1, zil_1, zmL_2, zmR_2, zaL_2, zaR_2, zleL_2, zleR_2, zltL_2, zltR_2, zeq_2, zxl_2, zil_2, zmL_3, zmR_3, zaL_3, zaR_3, zleL_3, zleR_3, zltL_3, zltR_3, zeq_3, zxl_3, zil_3, zmL_4, zmR_4, zaL_4, zaR_4, zleL_4, zleR_4, zltL_4, zltR_4, zeq_4, zxl_4, zil_4, zmL_5, zmR_5, zaL_5, zaR_5, zleL_5, zleR_5, zltL_5, zltR_5, zeq_5, zxl_5, zil_5, zmL_6, zmR_6, zaL_6, zaR_6, zleL_6, zleR_6, zltL_6, zltR_6, zeq_6, zxl_6, zil_6, zmL_7, zmR_7, zaL_7, zaR_7, zleL_7, zleR_7, zltL_7, zltR_7, zeq_7, zxl_7, zil_7, zmL_8, zmR_8, zaL_8, zaR_8, zleL_8, zleR_8, zltL_8, zltR_8, zeq_8, zxl_8, zil_8, zmL_9, zmR_9, zaL_9, zaR_9, zleL_9, zleR_9, zltL_9, zltR_9, zeq_9, zxl_9, zil_9, zmL_10, zmR_10, zaL_10, zaR_10, zleL_10, zleR_10, zltL_10, zltR_10, zeq_10, zxl_10, zil_10, zmL_14, zmR_14, zaL_14, zaR_14, zleL_14, zleR_14, zltL_14, zltR_14, zeq_14, zxl_14, zil_14, zmL_15, zmR_15, zaL_15, zaR_15, zleL_15, zleR_15, zltL_15, zltR_15, zeq_15, zxl_15, zil_15, zmL_16, zmR_16, zaL_16, zaR_16, zleL_16, zleR_16, zltL_16, zltR_16, zeq_16, zxl_16, zil_16, zmL_20, zmR_20, zaL_20, zaR_20, zleL_20, zleR_20, zltL_20, zltR_20, zeq_20, zxl_20, zil_20, zmL_22, zmR_22, zaL_22, zaR_22, zleL_22, zleR_22, zltL_22, zltR_22, zeq_22, zxl_22, zil_22, zmL_23, zmR_23, zaL_23, zaR_23, zleL_23, zleR_23, zltL_23, zltR_23, zeq_23, zxl_23, zil_23, zmL_24, zmR_24, zaL_24, zaR_24, zleL_24, zleR_24, zltL_24, zltR_24, zeq_24, zxl_24, zil_24, zmL_25, zmR_25, zaL_25, zaR_25, zleL_25, zleR_25, zltL_25, zltR_25, zeq_25, zxl_25, zil_25, zmL_26, zmR_26, zaL_26, zaR_26, zleL_26, zleR_26, zltL_26, zltR_26, zeq_26, zxl_26, zil_26, zmL_32, zmR_32, zaL_32, zaR_32, zleL_32, zleR_32, zltL_32, zltR_32, zeq_32, zxl_32, zil_32, zmL_40, zmR_40, zaL_40, zaR_40, zleL_40, zleR_40, zltL_40, zltR_40, zeq_40, zxl_40, zil_40, zmL_49, zmR_49, zaL_49, zaR_49, zleL_49, zleR_49, zltL_49, zltR_49, zeq_49, zxl_49, zil_49, zmL_58, zmR_58, zaL_58, zaR_58, zleL_58, zleR_58, zltL_58, zltR_58, zeq_58, zxl_58, zil_58, zmL_99, zmR_99, zaL_99, zaR_99, zleL_99, zleR_99, zltL_99, zltR_99, zeq_99, zxl_99, zil_99, zmL_100, zmR_100, zaL_100, zaR_100, zleL_100, zleR_100, zltL_100, zltR_100, zeq_100, zxl_100, zil_100, zmL_107, zmR_107, zaL_107, zaR_107, zleL_107, zleR_107, zltL_107, zltR_107, zeq_107, zxl_107, zil_107, zmL_126, zmR_126, zaL_126, zaR_126, zleL_126, zleR_126, zltL_126, zltR_126, zeq_126, zxl_126, zil_126, zmL_1000, zmR_1000, zaL_1000, zaR_1000, zleL_1000, zleR_1000, zltL_1000, zltR_1000, zeq_1000, zxl_1000, zil_1000, zmL_1605, zmR_1605, zaL_1605, zaR_1605, zleL_1605, zleR_1605, zltL_1605, zltR_1605, zeq_1605, zxl_1605, zil_1605]
  by_cases c1 : c = 10
  · simp [c1]
  · by_cases c2 : c = 32 <;> simp [c1, c2]
theorem zlt_k {c n : Nat} (hc : c < 2147483648) (hn : n < 2147483648) : (nI c < nI n) = (c < n) := znI_lt hc hn
theorem e_isL {c : Nat} (hc : c ≤ 126) : g_X8_isLetter h (nI c) = some (isL c) := by
  unfold g_X8_isLetter isL
  have a : (nI c < (97 : Int32)) = (c < 97) := zlt_k (n := 97) (by omega) (by decide)
  have b : ((122 : Int32) < nI c) = (122 < c) := zlt_k (c := 122) (by decide) (by omega)
  simp only [a, b]
  by_cases c1 : c < 97
  · have : ¬ 97 ≤ c := by omega
    simp [c1, this]
  · by_cases c2 : 122 < c
    · have : ¬ c ≤ 122 := by omega
      simp [c1, c2, this]
    · have x1 : 97 ≤ c := by omega
      have x2 : c ≤ 122 := by omega
      simp [c1, c2, x1, x2]
theorem e_isN {c : Nat} (hc : c ≤ 126) : g_X8_isNumeral h (nI c) = some (isN c) := by
  unfold g_X8_isNumeral isN
  have a : (nI c < (48 : Int32)) = (c < 48) := zlt_k (n := 48) (by omega) (by decide)
  have b : ((57 : Int32) < nI c) = (57 < c) := zlt_k (c := 57) (by decide) (by omega)
  simp only [a, b]
  by_cases c1 : c < 48
  · have : ¬ 48 ≤ c := by omega
    simp [c1, this]
  · by_cases c2 : 57 < c
    · have : ¬ c ≤ 57 := by omega
      simp [c1, c2, this]
    · have x1 : 48 ≤ c := by omega
      have x2 : c ≤ 57 := by omega
      simp [c1, c2, x1, x2]
def A15 : Nat → Nat → Prop := fun a k => a = 1 ∧ k = 5
theorem e_passWord (I : TI T) : ∀ k p n h, k = T.1 - p → p ≤ T.1 → k < n → TC T h → h.1 1 5 = nI p → ∃ h', g_X8_passWord_0 1 n h = some h' ∧ h'.1 1 5 = nI (zr (fun k => isL (T.2 k)) T.1 p) ∧ zsm A15 h h' := by
  have l := I.1
  intro k
  induction k with
  | zero =>
    intro p n h hk hp hn K e
    obtain ⟨n, rfl⟩ : ∃ m, n = m + 1 := ⟨n - 1, by omega⟩
    refine ⟨h, ?_, by rw [zr_stop (f := fun k => isL (T.2 k)) (N := T.1) (p := p) (Or.inl (by omega))]; exact e, zsm.rf⟩
    rw [g_X8_passWord_0, K.1, e, if_pos (by rw [znI_le (by omega) (by omega)]; omega)]
  | succ k ih =>
    intro p n h hk hp hn K e
    obtain ⟨n, rfl⟩ : ∃ m, n = m + 1 := ⟨n - 1, by omega⟩
    have hpl : p < T.1 := by omega
    rw [g_X8_passWord_0, K.1, e]
    simp (disch := omega) only [zr_0_0, zr_0_1, zr_0_2, zr_0_3, zr_0_4, zr_0_5, zr_0_6, zr_0_7, zr_0_8, zr_1_0, zr_3_0, zr_3_1, zr_3_2, zr_3_3, zr_3_4, zr_3_5, zr_3_6, zr_10_0, zr_10_1, zr_13_0, zr_13_1, zr_13_4, zr_14_0, zr_14_1, zr_14_2, zr_14_3, zr_14_4, zr_14_5, zr_14_6, zr_21_0, zr_21_1, zr_24_0, zr_24_1, zr_24_2, zr_26_0, zr_26_1, zr_26_4, zr_27_0, zr_37_0, zr_37_1, zr_38_0, zr_44_0, zr_44_1, zr_44_2, zr_44_3, zr_45_0, zr_45_1, zr_52_0, zr_52_1, zr_59_0, zr_59_1, zr_66_0, zr_66_1, zr_73_0, zr_74_0, zr_74_1, zr_74_2, zr_74_3, zr_74_4, zr_74_5, zr_74_6, zr_74_7, zr_74_8, zr_74_9, zr_74_10, zr_74_11, zr_74_12, zr_74_13, zr_74_14, zr_74_15, zr_139_2, zr_139_10, zr_139_11, zr_139_12, zr_139_13, zr_139_14, zr_139_15, zr_139_16, zr_139_17, zr_139_18, zr_139_19, zr_139_20, zr_139_23, zr_139_24, zr_139_25, zr_139_26, zr_139_27, zr_139_28, zr_139_29, zr_139_30, zr_139_31, zr_139_32, zr_139_33, zr_139_34, zr_139_37, zr_139_38, zr_139_39, zr_139_40, zr_139_41, zr_139_42, zr_139_43, zr_139_44, zr_139_45, zr_139_46, zr_139_47, zr_139_48, zr_139_50, zin_t, zx_nI, nI_add, nI_mul, znI_le, znI_lt, znI_eq, znI_neg, zgu_t, zgu_f, zbind_s, zlet_e, zb_eq0, zb_eq1, zb_t, zb_f, zleL_0, zleR_0, zltL_0, zltR_0, zeq_0, zxl_0, zil_0, zmL_1, zmR_1, zaL_1, zaR_1, zleL_1, zleR_1, zltL_1, zltR_1, zeq_1, zxl_1, zil_1, zmL_2, zmR_2, zaL_2, zaR_2, zleL_2, zleR_2, zltL_2, zltR_2, zeq_2, zxl_2, zil_2, zmL_3, zmR_3, zaL_3, zaR_3, zleL_3, zleR_3, zltL_3, zltR_3, zeq_3, zxl_3, zil_3, zmL_4, zmR_4, zaL_4, zaR_4, zleL_4, zleR_4, zltL_4, zltR_4, zeq_4, zxl_4, zil_4, zmL_5, zmR_5, zaL_5, zaR_5, zleL_5, zleR_5, zltL_5, zltR_5, zeq_5, zxl_5, zil_5, zmL_6, zmR_6, zaL_6, zaR_6, zleL_6, zleR_6, zltL_6, zltR_6, zeq_6, zxl_6, zil_6, zmL_7, zmR_7, zaL_7, zaR_7, zleL_7, zleR_7, zltL_7, zltR_7, zeq_7, zxl_7, zil_7, zmL_8, zmR_8, zaL_8, zaR_8, zleL_8, zleR_8, zltL_8, zltR_8, zeq_8, zxl_8, zil_8, zmL_9, zmR_9, zaL_9, zaR_9, zleL_9, zleR_9, zltL_9, zltR_9, zeq_9, zxl_9, zil_9, zmL_10, zmR_10, zaL_10, zaR_10, zleL_10, zleR_10, zltL_10, zltR_10, zeq_10, zxl_10, zil_10, zmL_14, zmR_14, zaL_14, zaR_14, zleL_14, zleR_14, zltL_14, zltR_14, zeq_14, zxl_14, zil_14, zmL_15, zmR_15, zaL_15, zaR_15, zleL_15, zleR_15, zltL_15, zltR_15, zeq_15, zxl_15, zil_15, zmL_16, zmR_16, zaL_16, zaR_16, zleL_16, zleR_16, zltL_16, zltR_16, zeq_16, zxl_16, zil_16, zmL_20, zmR_20, zaL_20, zaR_20, zleL_20, zleR_20, zltL_20, zltR_20, zeq_20, zxl_20, zil_20, zmL_22, zmR_22, zaL_22, zaR_22, zleL_22, zleR_22, zltL_22, zltR_22, zeq_22, zxl_22, zil_22, zmL_23, zmR_23, zaL_23, zaR_23, zleL_23, zleR_23, zltL_23, zltR_23, zeq_23, zxl_23, zil_23, zmL_24, zmR_24, zaL_24, zaR_24, zleL_24, zleR_24, zltL_24, zltR_24, zeq_24, zxl_24, zil_24, zmL_25, zmR_25, zaL_25, zaR_25, zleL_25, zleR_25, zltL_25, zltR_25, zeq_25, zxl_25, zil_25, zmL_26, zmR_26, zaL_26, zaR_26, zleL_26, zleR_26, zltL_26, zltR_26, zeq_26, zxl_26, zil_26, zmL_32, zmR_32, zaL_32, zaR_32, zleL_32, zleR_32, zltL_32, zltR_32, zeq_32, zxl_32, zil_32, zmL_40, zmR_40, zaL_40, zaR_40, zleL_40, zleR_40, zltL_40, zltR_40, zeq_40, zxl_40, zil_40, zmL_49, zmR_49, zaL_49, zaR_49, zleL_49, zleR_49, zltL_49, zltR_49, zeq_49, zxl_49, zil_49, zmL_58, zmR_58, zaL_58, zaR_58, zleL_58, zleR_58, zltL_58, zltR_58, zeq_58, zxl_58, zil_58, zmL_99, zmR_99, zaL_99, zaR_99, zleL_99, zleR_99, zltL_99, zltR_99, zeq_99, zxl_99, zil_99, zmL_100, zmR_100, zaL_100, zaR_100, zleL_100, zleR_100, zltL_100, zltR_100, zeq_100, zxl_100, zil_100, zmL_107, zmR_107, zaL_107, zaR_107, zleL_107, zleR_107, zltL_107, zltR_107, zeq_107, zxl_107, zil_107, zmL_126, zmR_126, zaL_126, zaR_126, zleL_126, zleR_126, zltL_126, zltR_126, zeq_126, zxl_126, zil_126, zmL_1000, zmR_1000, zaL_1000, zaR_1000, zleL_1000, zleR_1000, zltL_1000, zltR_1000, zeq_1000, zxl_1000, zil_1000, zmL_1605, zmR_1605, zaL_1605, zaR_1605, zleL_1605, zleR_1605, zltL_1605, zltR_1605, zeq_1605, zxl_1605, zil_1605]
    rw [if_neg (by omega), K.2 p hpl, e_isL (I.c hpl)]
    simp only [zbind_s, zb_eq0]
    cases hl : isL (T.2 p)
    · simp only [if_true]
      exact ⟨h, rfl, by rw [zr_stop (f := fun k => isL (T.2 k)) (N := T.1) (p := p) (Or.inr hl)]; exact e, zsm.rf⟩
    · simp only [Bool.true_eq_false, if_false]
      have w1 : zsm A15 h (zpi h 1 5 (nI (p + 1))) := zsm.pi ⟨rfl, rfl⟩
      obtain ⟨h2, e2, k2, w2⟩ := ih (p + 1) n (zpi h 1 5 (nI (p + 1))) (by omega) (by omega) (by omega) (K.same w1 (by unfold A15; omega) (fun k => by unfold A15; omega)) (by rw [zpi_r, if_pos ⟨rfl, rfl⟩])
      exact ⟨h2, e2, by rw [k2, zr_step (f := fun k => isL (T.2 k)) (N := T.1) (p := p) hpl hl], w1.tr w2⟩
theorem tcs_snoc (T : zTp) (q n : Nat) : tcs T q (n + 1) = tcs T q n ++ [T.2 (q + n)] := by
  unfold tcs; rw [List.range_succ, List.map_append]; rfl
theorem tnv_snoc (T : zTp) (q n : Nat) : tnv T q (n + 1) = tnv T q n * 10 + (T.2 (q + n) - 48) := by
  unfold tnv; rw [tcs_snoc, List.foldl_append]; rfl
theorem nI_m48 {c : Nat} (h : 48 ≤ c) : nI c - 48 = nI (c - 48) := by
  have : nI (c - 48) + nI 48 = nI c := by rw [nI_add]; congr 1; omega
  rw [← this]
  show nI (c - 48) + nI 48 - nI 48 = _
  apply Int32.toBitVec_inj.mp
  simp only [Int32.toBitVec_add, Int32.toBitVec_sub]
  rw [BitVec.add_sub_cancel]
def A145 : Nat → Nat → Prop := fun a k => a = 1 ∧ (k = 4 ∨ k = 5)
theorem e_passNumber (I : TI T) {q : Nat} : ∀ k p n h, k = T.1 - p → q ≤ p → p ≤ T.1 → k < n → TC T h → h.1 1 5 = nI p → h.1 1 4 = nI (tnv T q (p - q)) → ∃ h', g_X8_passNumber_5 1 n h = some h' ∧ h'.1 1 5 = nI (zr (fun k => isN (T.2 k)) T.1 p) ∧ h'.1 1 4 = nI (tnv T q (zr (fun k => isN (T.2 k)) T.1 p - q)) ∧ zsm A145 h h' := by
  have l := I.1
  intro k
  induction k with
  | zero =>
    intro p n h hk hq hp hn K e e4
    obtain ⟨n, rfl⟩ : ∃ m, n = m + 1 := ⟨n - 1, by omega⟩
    refine ⟨h, ?_, by rw [zr_stop (f := fun k => isN (T.2 k)) (N := T.1) (p := p) (Or.inl (by omega))]; exact e, by rw [zr_stop (f := fun k => isN (T.2 k)) (N := T.1) (p := p) (Or.inl (by omega))]; exact e4, zsm.rf⟩
    rw [g_X8_passNumber_5, K.1, e, if_pos (by rw [znI_le (by omega) (by omega)]; omega)]
  | succ k ih =>
    intro p n h hk hq hp hn K e e4
    obtain ⟨n, rfl⟩ : ∃ m, n = m + 1 := ⟨n - 1, by omega⟩
    have hpl : p < T.1 := by omega
    rw [g_X8_passNumber_5, K.1, e]
    simp (disch := omega) only [zr_0_0, zr_0_1, zr_0_2, zr_0_3, zr_0_4, zr_0_5, zr_0_6, zr_0_7, zr_0_8, zr_1_0, zr_3_0, zr_3_1, zr_3_2, zr_3_3, zr_3_4, zr_3_5, zr_3_6, zr_10_0, zr_10_1, zr_13_0, zr_13_1, zr_13_4, zr_14_0, zr_14_1, zr_14_2, zr_14_3, zr_14_4, zr_14_5, zr_14_6, zr_21_0, zr_21_1, zr_24_0, zr_24_1, zr_24_2, zr_26_0, zr_26_1, zr_26_4, zr_27_0, zr_37_0, zr_37_1, zr_38_0, zr_44_0, zr_44_1, zr_44_2, zr_44_3, zr_45_0, zr_45_1, zr_52_0, zr_52_1, zr_59_0, zr_59_1, zr_66_0, zr_66_1, zr_73_0, zr_74_0, zr_74_1, zr_74_2, zr_74_3, zr_74_4, zr_74_5, zr_74_6, zr_74_7, zr_74_8, zr_74_9, zr_74_10, zr_74_11, zr_74_12, zr_74_13, zr_74_14, zr_74_15, zr_139_2, zr_139_10, zr_139_11, zr_139_12, zr_139_13, zr_139_14, zr_139_15, zr_139_16, zr_139_17, zr_139_18, zr_139_19, zr_139_20, zr_139_23, zr_139_24, zr_139_25, zr_139_26, zr_139_27, zr_139_28, zr_139_29, zr_139_30, zr_139_31, zr_139_32, zr_139_33, zr_139_34, zr_139_37, zr_139_38, zr_139_39, zr_139_40, zr_139_41, zr_139_42, zr_139_43, zr_139_44, zr_139_45, zr_139_46, zr_139_47, zr_139_48, zr_139_50, zin_t, zx_nI, nI_add, nI_mul, znI_le, znI_lt, znI_eq, znI_neg, zgu_t, zgu_f, zbind_s, zlet_e, zb_eq0, zb_eq1, zb_t, zb_f, zleL_0, zleR_0, zltL_0, zltR_0, zeq_0, zxl_0, zil_0, zmL_1, zmR_1, zaL_1, zaR_1, zleL_1, zleR_1, zltL_1, zltR_1, zeq_1, zxl_1, zil_1, zmL_2, zmR_2, zaL_2, zaR_2, zleL_2, zleR_2, zltL_2, zltR_2, zeq_2, zxl_2, zil_2, zmL_3, zmR_3, zaL_3, zaR_3, zleL_3, zleR_3, zltL_3, zltR_3, zeq_3, zxl_3, zil_3, zmL_4, zmR_4, zaL_4, zaR_4, zleL_4, zleR_4, zltL_4, zltR_4, zeq_4, zxl_4, zil_4, zmL_5, zmR_5, zaL_5, zaR_5, zleL_5, zleR_5, zltL_5, zltR_5, zeq_5, zxl_5, zil_5, zmL_6, zmR_6, zaL_6, zaR_6, zleL_6, zleR_6, zltL_6, zltR_6, zeq_6, zxl_6, zil_6, zmL_7, zmR_7, zaL_7, zaR_7, zleL_7, zleR_7, zltL_7, zltR_7, zeq_7, zxl_7, zil_7, zmL_8, zmR_8, zaL_8, zaR_8, zleL_8, zleR_8, zltL_8, zltR_8, zeq_8, zxl_8, zil_8, zmL_9, zmR_9, zaL_9, zaR_9, zleL_9, zleR_9, zltL_9, zltR_9, zeq_9, zxl_9, zil_9, zmL_10, zmR_10, zaL_10, zaR_10, zleL_10, zleR_10, zltL_10, zltR_10, zeq_10, zxl_10, zil_10, zmL_14, zmR_14, zaL_14, zaR_14, zleL_14, zleR_14, zltL_14, zltR_14, zeq_14, zxl_14, zil_14, zmL_15, zmR_15, zaL_15, zaR_15, zleL_15, zleR_15, zltL_15, zltR_15, zeq_15, zxl_15, zil_15, zmL_16, zmR_16, zaL_16, zaR_16, zleL_16, zleR_16, zltL_16, zltR_16, zeq_16, zxl_16, zil_16, zmL_20, zmR_20, zaL_20, zaR_20, zleL_20, zleR_20, zltL_20, zltR_20, zeq_20, zxl_20, zil_20, zmL_22, zmR_22, zaL_22, zaR_22, zleL_22, zleR_22, zltL_22, zltR_22, zeq_22, zxl_22, zil_22, zmL_23, zmR_23, zaL_23, zaR_23, zleL_23, zleR_23, zltL_23, zltR_23, zeq_23, zxl_23, zil_23, zmL_24, zmR_24, zaL_24, zaR_24, zleL_24, zleR_24, zltL_24, zltR_24, zeq_24, zxl_24, zil_24, zmL_25, zmR_25, zaL_25, zaR_25, zleL_25, zleR_25, zltL_25, zltR_25, zeq_25, zxl_25, zil_25, zmL_26, zmR_26, zaL_26, zaR_26, zleL_26, zleR_26, zltL_26, zltR_26, zeq_26, zxl_26, zil_26, zmL_32, zmR_32, zaL_32, zaR_32, zleL_32, zleR_32, zltL_32, zltR_32, zeq_32, zxl_32, zil_32, zmL_40, zmR_40, zaL_40, zaR_40, zleL_40, zleR_40, zltL_40, zltR_40, zeq_40, zxl_40, zil_40, zmL_49, zmR_49, zaL_49, zaR_49, zleL_49, zleR_49, zltL_49, zltR_49, zeq_49, zxl_49, zil_49, zmL_58, zmR_58, zaL_58, zaR_58, zleL_58, zleR_58, zltL_58, zltR_58, zeq_58, zxl_58, zil_58, zmL_99, zmR_99, zaL_99, zaR_99, zleL_99, zleR_99, zltL_99, zltR_99, zeq_99, zxl_99, zil_99, zmL_100, zmR_100, zaL_100, zaR_100, zleL_100, zleR_100, zltL_100, zltR_100, zeq_100, zxl_100, zil_100, zmL_107, zmR_107, zaL_107, zaR_107, zleL_107, zleR_107, zltL_107, zltR_107, zeq_107, zxl_107, zil_107, zmL_126, zmR_126, zaL_126, zaR_126, zleL_126, zleR_126, zltL_126, zltR_126, zeq_126, zxl_126, zil_126, zmL_1000, zmR_1000, zaL_1000, zaR_1000, zleL_1000, zleR_1000, zltL_1000, zltR_1000, zeq_1000, zxl_1000, zil_1000, zmL_1605, zmR_1605, zaL_1605, zaR_1605, zleL_1605, zleR_1605, zltL_1605, zltR_1605, zeq_1605, zxl_1605, zil_1605]
    rw [if_neg (by omega), K.2 p hpl, e_isN (I.c hpl)]
    simp only [zbind_s, zb_eq0]
    cases hl : isN (T.2 p)
    · simp only [if_true]
      exact ⟨h, rfl, by rw [zr_stop (f := fun k => isN (T.2 k)) (N := T.1) (p := p) (Or.inr hl)]; exact e, by rw [zr_stop (f := fun k => isN (T.2 k)) (N := T.1) (p := p) (Or.inr hl)]; exact e4, zsm.rf⟩
    · simp only [Bool.true_eq_false, if_false]
      have h48 : 48 ≤ T.2 p := by unfold isN at hl; simp at hl; exact hl.1
      have e5 : h.1 1 4 * 10 + (nI (T.2 p) - 48) = nI (tnv T q (p + 1 - q)) := by
        rw [e4, nI_m48 h48, zmR_10, nI_add, show p + 1 - q = (p - q) + 1 by omega, tnv_snoc, show q + (p - q) = p by omega]
      rw [e5]
      have w1 : zsm A145 h (zpi (zpi h 1 4 (nI (tnv T q (p + 1 - q)))) 1 5 (nI (p + 1))) := (zsm.pi ⟨rfl, Or.inl rfl⟩).tr (zsm.pi ⟨rfl, Or.inr rfl⟩)
      have e6 : (zpi h 1 4 (nI (tnv T q (p + 1 - q)))).1 1 5 + 1 = nI (p + 1) := by rw [zpi_r, if_neg (by omega), e, nI_1]
      rw [e6]
      obtain ⟨h2, e2, k2, k3, w2⟩ := ih (p + 1) n (zpi (zpi h 1 4 (nI (tnv T q (p + 1 - q)))) 1 5 (nI (p + 1))) (by omega) (by omega) (by omega) (by omega) (K.same w1 (by unfold A145; omega) (fun k => by unfold A145; omega)) (by rw [zpi_r, if_pos ⟨rfl, rfl⟩]) (by rw [zpi_r, if_neg (by omega), zpi_r, if_pos ⟨rfl, rfl⟩])
      exact ⟨h2, e2, by rw [k2, zr_step (f := fun k => isN (T.2 k)) (N := T.1) (p := p) hpl hl], by rw [k3, zr_step (f := fun k => isN (T.2 k)) (N := T.1) (p := p) hpl hl], w1.tr w2⟩
end K3
