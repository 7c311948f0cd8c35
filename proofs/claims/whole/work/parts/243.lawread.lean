/-! laws: the class reads one -/
def ov (o : Option (Nat × Fn)) (e : Ev) : List Int32 := match o with
  | none => []
  | some (_, f) => [f e]
def on (o : Option (Nat × Fn)) : List Nat := match o with
  | none => []
  | some (op, _) => [op]
def pv (o : Option Fn) (e : Ev) : List Int32 := match o with
  | none => []
  | some f => [f e]
def po (p : Option Fn) : Option (Nat × Fn) := match p with
  | none => none
  | some u => some (10, u)
theorem pr_co (p : Option Fn) (v : Fn) : pr p v = co (po p) v := by cases p <;> rfl
def ofr (f : Fr) (e : Ev) : List Int32 := pv (fc f) e ++ (ov (po (fp f)) e ++ (ov (fS f) e ++ (ov (fA f) e ++ ov (fK f) e)))
def ost : List Fr → Ev → List Int32
  | [], _ => []
  | f :: r, e => ofr f e ++ ost r e
def mkl (f : Fr) : List Nat := if fm f = 1 then [35] else if fm f = 2 then [4] else []
def wst : List Fr → List Nat
  | [] => []
  | f :: r => on (po (fp f)) ++ (on (fS f) ++ (on (fA f) ++ (on (fK f) ++ (mkl f ++ wst r))))
def opn : List Fr → Nat
  | [] => 0
  | f :: r => (if fm f = 2 then 1 else 0) + opn r
def oko : List Fr → Prop
  | [] => True
  | f :: r => (∀ op g, fK f = some (op, g) → op = 36 ∨ op = 37) ∧ (∀ op g, fA f = some (op, g) → op = 6 ∨ op = 7) ∧ (∀ op g, fS f = some (op, g) → op = 8 ∨ op = 9) ∧ oko r
def hd1 : List Fr → Prop
  | [] => False
  | f :: _ => (∃ v, fc f = some v) → ¬ fm f = 1
def gd (fs : List Fr) : Prop := okF fs ∧ fs.length ≤ 6 ∧ oko fs ∧ hd1 fs
def fr0 (m : Nat) : Fr := (m, none, none, none, none, none)
def vl (c m : Nat) : Fn := if c = 3 then (fun _ => nI m) else (fun e => if c = 38 then e.1 else if c = 39 then e.2.1 else if c = 40 then e.2.2.1 else e.2.2.2)
/-- a token of a law: 0 and the levels then; 1, 5: a fault; 9: it is at its end -/
def lst (c m : Nat) : List Fr → Nat × List Fr
  | [] => (1, [])
  | f :: r => match fc f with
    | none => if c = 35 ∨ c = 4 ∨ c = 3 ∨ 38 ≤ c then (if 5 ≤ r.length then (5, f :: r) else (0, if c = 35 then fr0 1 :: f :: r else if c = 4 then fr0 2 :: f :: r else prt (vl c m) (f :: r))) else (1, f :: r)
    | some v => if c = 10 then (0, (fm f, fK f, fA f, fS f, some (pr (fp f) v), none) :: r) else if c = 8 ∨ c = 9 then (0, (fm f, fK f, fA f, some (c, co (fS f) (pr (fp f) v)), none, none) :: r) else if c = 6 ∨ c = 7 then (if (fA f).isSome then (1, f :: r) else (0, (fm f, fK f, some (c, co (fS f) (pr (fp f) v)), none, none, none) :: r)) else if c = 36 ∨ c = 37 then (0, (fm f, some (c, fv f v), none, none, none, none) :: r) else if c = 5 ∧ fm f = 2 then (0, prt (fv f v) r) else if fm f = 2 then (1, f :: r) else (9, f :: r)
theorem on_len (o : Option (Nat × Fn)) : (on o).length ≤ 1 := by cases o <;> simp [on]
theorem ov_len (o : Option (Nat × Fn)) (e : Ev) : (ov o e).length ≤ 1 := by cases o <;> simp [ov]
theorem pv_len (o : Option Fn) (e : Ev) : (pv o e).length ≤ 1 := by cases o <;> simp [pv]
theorem wst_len : ∀ fs, (wst fs).length ≤ 5 * fs.length := by
  intro fs
  induction fs with
  | nil => simp [wst]
  | cons f r ih =>
    have a := on_len (po (fp f))
    have b := on_len (fS f)
    have c := on_len (fA f)
    have d := on_len (fK f)
    have e : (mkl f).length ≤ 1 := by unfold mkl; split <;> (try split) <;> simp
    simp only [wst, List.length_append, List.length_cons]
    omega
theorem ost_len (e : Ev) : ∀ fs, (ost fs e).length ≤ 5 * fs.length := by
  intro fs
  induction fs with
  | nil => simp [ost]
  | cons f r ih =>
    have a := ov_len (po (fp f)) e
    have b := ov_len (fS f) e
    have c := ov_len (fA f) e
    have d := ov_len (fK f) e
    have g := pv_len (fc f) e
    simp only [ost, ofr, List.length_append, List.length_cons]
    omega
theorem prt_oko : ∀ (r : List Fr) (v : Fn), okF r → oko r → oko (prt v r) ∧ hd1 (prt v r) := by
  intro r
  induction r with
  | nil => intro v H; exact H.elim
  | cons f r ih =>
    intro v H O
    rw [prt]
    by_cases c : fm f = 1
    · rw [if_pos c]
      obtain ⟨H1, H2⟩ := H
      by_cases cr : r = []
      · rw [if_pos cr] at H1; omega
      · rw [if_neg cr] at H1
        exact ih _ H1.2.1 O.2.2.2
    · rw [if_neg c]
      exact ⟨⟨O.1, O.2.1, O.2.2.1, O.2.2.2⟩, fun _ => c⟩
theorem prt_gd {r : List Fr} {v : Fn} (H : okF r) (hl : r.length ≤ 6) (O : oko r) : gd (prt v r) := by
  obtain ⟨a, b⟩ := prt_ok r v H
  obtain ⟨c, d⟩ := prt_oko r v H O
  exact ⟨a, by omega, c, d⟩
theorem lst_gd {c m : Nat} {fs fs' : List Fr} (G : gd fs) (hs : lst c m fs = (0, fs')) : gd fs' := by
  obtain ⟨g1, g2, g3, g4⟩ := G
  cases fs with
  | nil => exact g1.elim
  | cons f r =>
    simp only [lst] at hs
    simp only [List.length_cons] at g2
    cases hc : fc f with
    | none =>
      rw [hc] at hs
      simp only at hs
      split at hs
      · split at hs
        · cases hs
        · rename_i h5
          simp only [Prod.mk.injEq, true_and] at hs
          have fresh : ∀ m, m = 1 ∨ m = 2 → gd (fr0 m :: f :: r) := fun m hm => ⟨⟨by rw [if_neg (by simp)]; exact ⟨hm, g1, hc⟩, fun _ => ⟨rfl, rfl, rfl, rfl⟩⟩, by simp only [List.length_cons]; omega, ⟨fun _ _ z => (by cases z), fun _ _ z => (by cases z), fun _ _ z => (by cases z), g3⟩, fun ⟨v, z⟩ => by cases z⟩
          split at hs
          · rw [← hs]; exact fresh 1 (Or.inl rfl)
          · split at hs
            · rw [← hs]; exact fresh 2 (Or.inr rfl)
            · rw [← hs]; exact prt_gd g1 (by simp only [List.length_cons]; omega) g3
      · cases hs
    | some v =>
      rw [hc] at hs
      simp only at hs
      have h1 : ¬ fm f = 1 := g4 ⟨v, hc⟩
      have keep : ∀ f' : Fr, fm f' = fm f → (∀ op g, fK f' = some (op, g) → op = 36 ∨ op = 37) → (∀ op g, fA f' = some (op, g) → op = 6 ∨ op = 7) → (∀ op g, fS f' = some (op, g) → op = 8 ∨ op = 9) → gd (f' :: r) := fun f' hm a b c => ⟨ok_set g1 hm h1, by simp only [List.length_cons]; omega, ⟨a, b, c, g3.2.2.2⟩, fun _ => by rw [hm]; exact h1⟩
      split at hs
      · simp only [Prod.mk.injEq, true_and] at hs
        rw [← hs]; exact keep _ rfl g3.1 g3.2.1 g3.2.2.1
      · split at hs
        · rename_i ho
          simp only [Prod.mk.injEq, true_and] at hs
          rw [← hs]; exact keep _ rfl g3.1 g3.2.1 (fun op g z => by cases z; exact ho)
        · split at hs
          · rename_i ho
            split at hs
            · cases hs
            · simp only [Prod.mk.injEq, true_and] at hs
              rw [← hs]; exact keep _ rfl g3.1 (fun op g z => by cases z; exact ho) (fun op g z => by cases z)
          · split at hs
            · rename_i ho
              simp only [Prod.mk.injEq, true_and] at hs
              rw [← hs]; exact keep _ rfl (fun op g z => by cases z; exact ho) (fun op g z => by cases z) (fun op g z => by cases z)
            · split at hs
              · rename_i h5
                simp only [Prod.mk.injEq, true_and] at hs
                have := g1.1
                by_cases cr : r = []
                · rw [if_pos cr] at this; omega
                · rw [if_neg cr] at this
                  rw [← hs]; exact prt_gd this.2.1 (by omega) g3.2.2.2
              · split at hs <;> cases hs
/-- what waits, the last one first -/
def wt (h : zH) : List Nat → Prop
  | [] => True
  | w :: l => h.1 25 l.length = nI w ∧ wt h l
def CW (wl : List Nat) (cc : List Int32) (b : Nat) (h : zH) : Prop := wt h wl ∧ h.1 24 3 = nI wl.length ∧ h.1 21 7 = nI (b + cc.length) ∧ ∀ j, j < cc.length → h.1 22 (b + j) = cc.getD j 0
def A22 (b : Nat) : Nat → Nat → Prop := fun a k => (a = 22 ∧ b ≤ k) ∨ (a = 21 ∧ k = 7)
def A25 : Nat → Nat → Prop := fun a k => a = 25 ∨ (a = 24 ∧ k = 3)
def ALr (b : Nat) : Nat → Nat → Prop := fun a k => (a = 22 ∧ b ≤ k) ∨ (a = 21 ∧ k = 7) ∨ a = 25 ∨ (a = 24 ∧ 3 ≤ k)
section L6
variable {h h' : zH} {A : Nat → Nat → Prop} {T : zTp} {q b : Nat} {wl : List Nat} {cc : List Int32}
theorem wt_same : ∀ {l : List Nat}, wt h l → (∀ k, k < l.length → h'.1 25 k = h.1 25 k) → wt h' l := by
  intro l
  induction l with
  | nil => intro _ _; trivial
  | cons v l ih =>
    intro H x
    exact ⟨by rw [x l.length (by simp)]; exact H.1, ih H.2 (fun k hk => x k (by simp only [List.length_cons]; omega))⟩
theorem CW.same (H : CW wl cc b h) (x : zsm A h h') (h1 : ∀ k, ¬ A 25 k) (h2 : ¬ A 24 3) (h3 : ¬ A 21 7) (h4 : ∀ k, ¬ A 22 k) : CW wl cc b h' :=
  ⟨wt_same H.1 (fun k _ => (x _ _ (h1 k)).1), by rw [(x _ _ h2).1]; exact H.2.1, by rw [(x _ _ h3).1]; exact H.2.2.1, fun j hj => by rw [(x _ _ (h4 _)).1]; exact H.2.2.2 j hj⟩
theorem zr21 : zR 21 0 = 22 ∧ zR 24 0 = 1 ∧ zR 24 1 = 21 ∧ zR 24 2 = 25 := by decide +kernel
theorem e_addTok (H : CW wl cc b h) (hb : b + cc.length < 1000) (c : Int32) : ∃ h', g_X1_addToken h 21 c = some h' ∧ CW wl (cc ++ [c]) b h' ∧ zsm (A22 b) h h' := by
  obtain ⟨h1, h2, h3, h4⟩ := H
  have w : zsm (A22 b) h (zpi (zpi h 22 (b + cc.length) c) 21 7 (nI (b + cc.length + 1))) := (zsm.pi (by unfold A22; omega)).tr (zsm.pi (by unfold A22; omega))
  have hl : (cc ++ [c]).length = cc.length + 1 := by simp
  refine ⟨zpi (zpi h 22 (b + cc.length) c) 21 7 (nI (b + cc.length + 1)), ?_, ⟨wt_same h1 (fun k _ => (w _ _ (by unfold A22; omega)).1), by rw [(w _ _ (by unfold A22; omega)).1]; exact h2, ?_, fun j hj => ?_⟩, w⟩
  · unfold g_X1_addToken
    rw [h3, if_neg (by rw [zleL_1000 (by omega)]; omega), zin_t hb (by omega), zgu_t, zx_nI (by omega), zr21.1, zlet_e, zpi_r, if_neg (by omega), h3, nI_1, zlet_e]
  · rw [zpi_r, if_pos ⟨rfl, rfl⟩, hl]; rfl
  · rw [hl] at hj
    rw [zpi_r, if_neg (by omega), zpi_r]
    by_cases e : j = cc.length
    · subst e
      rw [if_pos ⟨rfl, rfl⟩, List.getD_eq_getElem?_getD, List.getElem?_append_right (Nat.le_refl _)]; simp
    · rw [if_neg (by omega), h4 j (by omega), List.getD_eq_getElem?_getD, List.getD_eq_getElem?_getD, List.getElem?_append_left (by omega)]
theorem e_letWait (H : CW wl cc b h) (hl : wl.length < 32) (w : Nat) : ∃ h', g_X0_letWait h 24 (nI w) = some h' ∧ CW (w :: wl) cc b h' ∧ zsm A25 h h' := by
  obtain ⟨h1, h2, h3, h4⟩ := H
  have x : zsm A25 h (zpi (zpi h 25 wl.length (nI w)) 24 3 (nI (wl.length + 1))) := (zsm.pi (by unfold A25; omega)).tr (zsm.pi (by unfold A25; omega))
  refine ⟨zpi (zpi h 25 wl.length (nI w)) 24 3 (nI (wl.length + 1)), ?_, ⟨⟨?_, wt_same h1 (fun k hk => ?_)⟩, ?_, by rw [(x _ _ (by unfold A25; omega)).1]; exact h3, fun j hj => by rw [(x _ _ (by unfold A25; omega)).1]; exact h4 j hj⟩, x⟩
  · unfold g_X0_letWait
    rw [h2, if_neg (by rw [zleL_32 (by omega)]; omega), zin_t hl (by omega), zgu_t, zx_nI (by omega), zr21.2.2.2, zlet_e, zpi_r, if_neg (by omega), h2, nI_1, zlet_e]
  · rw [zpi_r, if_neg (by omega), zpi_r, if_pos ⟨rfl, rfl⟩]
  · rw [zpi_r, if_neg (by omega), zpi_r, if_neg (by omega)]
  · rw [zpi_r, if_pos ⟨rfl, rfl⟩]; rfl
theorem CW.popd {w : Nat} (H : CW (w :: wl) cc b h) : CW wl cc b (zpi h 24 3 (nI wl.length)) ∧ zsm A25 h (zpi h 24 3 (nI wl.length)) := by
  obtain ⟨h1, h2, h3, h4⟩ := H
  have x : zsm A25 h (zpi h 24 3 (nI wl.length)) := zsm.pi (by unfold A25; omega)
  refine ⟨⟨wt_same h1.2 (fun k hk => ?_), by rw [zpi_r, if_pos ⟨rfl, rfl⟩], by rw [(x _ _ (by unfold A25; omega)).1]; exact h3, fun j hj => by rw [(x _ _ (by unfold A25; omega)).1]; exact h4 j hj⟩, x⟩
  rw [zpi_r, if_neg (by omega)]
def rko (c : Nat) : Nat := if c = 6 then 2 else if c = 7 then 2 else if c = 8 then 3 else if c = 9 then 3 else if c = 10 then 4 else if c = 36 then 1 else if c = 37 then 1 else 0
theorem rko_lt (c : Nat) : rko c < 10 := by
  unfold rko
  repeat' split
  all_goals omega
theorem e_rank {c : Nat} (hc : c < 100) : g_X0_rank h (nI c) = some (nI (rko c)) := by
  have e36 : (nI c = (36 : Int32)) = (c = 36) := propext (nI_eq (b := 36) (by omega) (by decide))
  have e37 : (nI c = (37 : Int32)) = (c = 37) := propext (nI_eq (b := 37) (by omega) (by decide))
  unfold g_X0_rank rko
  rw [zlet_e]
  simp (disch := omega) only [zeq_6, zeq_7, zeq_8, zeq_9, zeq_10, e36, e37]
  by_cases a : c = 6
  · simp [a]; rfl
  by_cases b : c = 7
  · simp [b]; rfl
  by_cases d : c = 8
  · simp [d]; rfl
  by_cases e : c = 9
  · simp [e]; rfl
  by_cases f : c = 10
  · simp [f]; rfl
  by_cases g : c = 36
  · simp [g]; rfl
  by_cases i : c = 37
  · simp [i]; rfl
  · simp [a, b, d, e, f, g, i]; rfl
theorem e_rel {r : Nat} (hr : r < 10) : ∀ (xs ys : List Nat) (cc : List Int32) (n : Nat) (h : zH), CW (xs ++ ys) cc b h → (xs ++ ys).length ≤ 32 → b + cc.length + xs.length ≤ 1000 → xs.length < n → (∀ x ∈ xs, x < 100 ∧ ¬ x = 4 ∧ r ≤ rko x) → (∀ y l, ys = y :: l → y < 100 ∧ (y = 4 ∨ rko y < r)) → ∃ h', g_X0_release_0 24 n (nI r) h = some h' ∧ CW ys (cc ++ xs.map nI) b h' ∧ zsm (fun a k => (A22 b) a k ∨ A25 a k) h h' := by
  intro xs
  induction xs with
  | nil =>
    intro ys cc n h H hl hb hn _ hy
    obtain ⟨n, rfl⟩ : ∃ m, n = m + 1 := ⟨n - 1, by omega⟩
    rw [List.nil_append] at H hl
    rw [g_X0_release_0, H.2.1]
    cases ys with
    | nil =>
      refine ⟨h, ?_, by simpa using H, zsm.rf⟩
      rw [if_pos (by decide)]
    | cons y l =>
      obtain ⟨y1, y2⟩ := hy y l rfl
      have hl2 : (y :: l).length = l.length + 1 := rfl
      rw [hl2] at hl ⊢
      have hrd : h.1 25 l.length = nI y := H.1.1
      refine ⟨h, ?_, by simpa using H, zsm.rf⟩
      rw [if_neg (by rw [zleR_0 (by omega)]; omega), nI_s1 (by omega), show l.length + 1 - 1 = l.length by omega, zin_t (by omega) (by omega), zgu_t, zgu_t, zx_nI (by omega), zr21.2.2.2, hrd]
      simp only [zeq_4 (show y < 2147483648 by omega)]
      by_cases c4 : y = 4
      · rw [if_pos c4]
      · have rky : rko y < 10 := rko_lt y
        rw [if_neg c4, e_rank y1, zbind_s, if_pos (by rw [znI_lt (by omega) (by omega)]; exact y2.resolve_left c4)]
  | cons x xs ih =>
    intro ys cc n h H hl hb hn hx hy
    obtain ⟨n, rfl⟩ : ∃ m, n = m + 1 := ⟨n - 1, by omega⟩
    obtain ⟨x1, x2, x3⟩ := hx x (by simp)
    have H : CW (x :: (xs ++ ys)) cc b h := H
    have hl2 : (x :: xs ++ ys).length = (xs ++ ys).length + 1 := rfl
    simp only [List.length_cons] at hb hn
    rw [hl2] at hl
    have hrd : h.1 25 (xs ++ ys).length = nI x := H.1.1
    obtain ⟨P1, w1⟩ := H.popd
    obtain ⟨h2, e2, P2, w2⟩ := e_addTok P1 (by omega) (nI x)
    obtain ⟨h3, e3, P3, w3⟩ := ih ys (cc ++ [nI x]) n h2 P2 (by omega) (by simp; omega) (by omega) (fun y hy2 => hx y (by simp [hy2])) hy
    have rkx : rko x < 10 := rko_lt x
    refine ⟨h3, ?_, by simpa using P3, ((w1.mono (fun a k z => Or.inr z)).tr (w2.mono (fun a k z => Or.inl z))).tr w3⟩
    have hw : h.1 24 3 = nI ((xs ++ ys).length + 1) := H.2.1
    rw [g_X0_release_0, hw, if_neg (by rw [zleR_0 (by omega)]; omega), nI_s1 (by omega), show (xs ++ ys).length + 1 - 1 = (xs ++ ys).length by omega, zin_t (by omega) (by omega), zgu_t, zgu_t, zx_nI (by omega), zr21.2.2.2, hrd]
    simp only [zeq_4 (show x < 2147483648 by omega)]
    rw [if_neg x2, e_rank x1, zbind_s, if_neg (by rw [znI_lt (by omega) (by omega)]; omega), zlet_e, P1.2.1, zin_t (by omega) (by omega), zgu_t, zx_nI (by omega), zpi_r, if_neg (by omega), hrd, zr21.2.2.1, e2, zbind_s, e3]
theorem e_endPart5 : ∀ (m : Nat) (ys : List Nat) (cc : List Int32) (d n : Nat) (h : zH), CW (List.replicate m 35 ++ ys) cc b h → m + ys.length ≤ 32 → b + cc.length + m ≤ 1000 → m < n → h.1 24 5 = nI (d + m) → (∀ y l, ys = y :: l → y < 100 ∧ ¬ y = 35) → ∃ h', g_X0_endPart_5 24 n h = some h' ∧ CW ys (cc ++ List.replicate m 35) b h' ∧ h'.1 24 5 = nI d ∧ zsm (fun a k => (A22 b) a k ∨ A25 a k ∨ (a = 24 ∧ k = 5)) h h' := by
  intro m
  induction m with
  | zero =>
    intro ys cc d n h H hl hb hn hd hy
    obtain ⟨n, rfl⟩ : ∃ m, n = m + 1 := ⟨n - 1, by omega⟩
    have H : CW ys cc b h := by simpa using H
    rw [g_X0_endPart_5, H.2.1]
    cases ys with
    | nil =>
      refine ⟨h, ?_, by simpa using H, by simpa using hd, zsm.rf⟩
      rw [if_pos (by decide)]
    | cons y l =>
      obtain ⟨y1, y2⟩ := hy y l rfl
      have hrd : h.1 25 l.length = nI y := H.1.1
      have hl2 : (y :: l).length = l.length + 1 := rfl
      rw [hl2] at hl ⊢
      refine ⟨h, ?_, by simpa using H, by simpa using hd, zsm.rf⟩
      have n35 : ¬ nI y = (35 : Int32) := fun z => by rw [show (35 : Int32) = nI 35 from rfl, znI_eq (by omega) (by decide)] at z; exact y2 z
      rw [if_neg (by rw [zleR_0 (by omega)]; omega), nI_s1 (by omega), show l.length + 1 - 1 = l.length by omega, zin_t (by omega) (by omega), zgu_t, zx_nI (by omega), zr21.2.2.2, hrd, if_neg n35]
  | succ m ih =>
    intro ys cc d n h H hl hb hn hd hy
    obtain ⟨n, rfl⟩ : ∃ m, n = m + 1 := ⟨n - 1, by omega⟩
    have H : CW (35 :: (List.replicate m 35 ++ ys)) cc b h := H
    have hlen : (List.replicate m 35 ++ ys).length = m + ys.length := by simp
    have hrd : h.1 25 (List.replicate m 35 ++ ys).length = nI 35 := H.1.1
    have hw : h.1 24 3 = nI ((List.replicate m 35 ++ ys).length + 1) := H.2.1
    obtain ⟨P1, w1⟩ := H.popd
    rw [hlen] at P1 w1 hrd hw
    have w1b : zsm (fun a k => a = 24 ∧ k = 5) (zpi h 24 3 (nI (m + ys.length))) (zpi (zpi h 24 3 (nI (m + ys.length))) 24 5 (nI (d + m))) := zsm.pi ⟨rfl, rfl⟩
    have P1b := P1.same w1b (fun k => by omega) (by omega) (by omega) (fun k => by omega)
    obtain ⟨h2, e2, P2, w2⟩ := e_addTok P1b (by omega) (nI 35)
    obtain ⟨h3, e3, P3, d3, w3⟩ := ih ys (cc ++ [nI 35]) d n h2 P2 (by omega) (by simp; omega) (by omega) (by rw [(w2 _ _ (by unfold A22; omega)).1, zpi_r, if_pos ⟨rfl, rfl⟩]) hy
    refine ⟨h3, ?_, ?_, d3, (((w1.mono (fun a k z => Or.inr (Or.inl z))).tr (w1b.mono (fun a k z => Or.inr (Or.inr z)))).tr (w2.mono (fun a k z => Or.inl z))).tr w3⟩
    · have e35 : nI 35 = (35 : Int32) := rfl
      rw [g_X0_endPart_5, hw, if_neg (by rw [zleR_0 (by omega)]; omega), nI_s1 (by omega), show m + ys.length + 1 - 1 = m + ys.length by omega, zin_t (by omega) (by omega), zgu_t, zx_nI (by omega), zr21.2.2.2, hrd, if_pos e35, zlet_e, zpi_r, if_neg (by omega), hd, nI_s1 (by omega), show d + (m + 1) - 1 = d + m by omega, zlet_e, zr21.2.2.1]
      rw [e35] at e2
      rw [e2, zbind_s, e3]
    · have : cc ++ List.replicate (m + 1) 35 = cc ++ [nI 35] ++ List.replicate m 35 := by
        rw [List.replicate_succ, List.append_assoc]; rfl
      rw [this]; exact P3
theorem PO.rl {st : Ev → List Int32} {x : Fn} (o : Option (Nat × Fn)) (H : PO cc (fun e => x e :: (ov o e ++ st e))) (ho : ∀ op g, o = some (op, g) → isOp op) (hl : ∀ e, (st e).length < 30) : PO (cc ++ (on o).map nI) (fun e => co o x e :: st e) := by
  cases o with
  | none => simpa [on, ov, co] using H
  | some w =>
    obtain ⟨op, g⟩ := w
    exact PO.op (f := g) (g := x) (st := st) H hl (ho op g rfl)
end L6
