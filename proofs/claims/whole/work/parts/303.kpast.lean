/-! making: the ring of the past, and the marks -/
theorem k_world {K : zK} {G : zG} {A : Nat → Prop} {nL pc : Nat} {lv : List (Nat × Value)} {st : List Value} {ws ws' : va_W} {k n : Nat} (e : ws = ws') (c : kW K G A nL pc lv st ws' k n) : kW K G A nL pc lv st ws k n := e ▸ c
theorem k_cnt {K : zK} {G : zG} {A : Nat → Prop} {nL pc : Nat} {lv : List (Nat × Value)} {st : List Value} {ws : va_W} {k n k' n' : Nat} (e : k = k') (e2 : n = n') (c : kW K G A nL pc lv st ws k' n') : kW K G A nL pc lv st ws k n := by subst e; subst e2; exact c
theorem kset {pre post : va_W} {x y : Nat × va_E} : (pre ++ x :: post).set pre.length y = pre ++ y :: post := by
  induction pre with
  | nil => rfl
  | cons a t ih => show a :: (t ++ x :: post).set t.length y = a :: (t ++ y :: post); rw [ih]
def kRf (u : Nat → Nat) (w i : Nat) : Nat → Option Nat := fun j => if j < i then some (u (w * j)) else none
theorem kRf_up {u u' : Nat → Nat} {w i q1 : Nat} (h1 : ∀ j, j < w * i → u' j = u j) (h2 : u' (w * i) = q1) (hw : 0 < w) (hi : i < 2147483648) : va_up (kRf u w i) (zx (nI i)) (some q1) = kRf u' w (i + 1) := by
  funext j
  rw [zx_nI hi]
  unfold va_up kRf
  by_cases c : j = i
  · subst c
    rw [if_pos rfl, if_pos (by omega), h2]
  · rw [if_neg c]
    by_cases d : j < i
    · rw [if_pos d, if_pos (by omega), h1]
      exact Nat.mul_lt_mul_of_pos_left d hw
    · rw [if_neg d, if_neg (by omega)]
def kNu (u v : Nat → Nat) (m q1 : Nat) : Nat → Nat := fun j => if j < m then u j else if j = m then q1 else v (j - (m + 1))
theorem kNu_l {u v : Nat → Nat} {m q1 j : Nat} (h : j < m) : kNu u v m q1 j = u j := if_pos h
theorem kNu_m {u v : Nat → Nat} {m q1 : Nat} : kNu u v m q1 m = q1 := by unfold kNu; rw [if_neg (by omega), if_pos rfl]
theorem kNu_r {u v : Nat → Nat} {m q1 : Nat} (j : Nat) : kNu u v m q1 (m + 1 + j) = v j := by unfold kNu; rw [if_neg (by omega), if_neg (by omega), show m + 1 + j - (m + 1) = j by omega]
def kStd (G : zG) (r : Nat) (u : Nat → Nat) : Nat → va_W
  | 0 => []
  | i + 1 => kStd G r u i ++ kp_X7 G (u (4 * i)) r (fun j => u (4 * i + 1 + j))
def kMo (G : zG) (r : Nat) (u : Nat → Nat) : Nat → va_W
  | 0 => []
  | i + 1 => kMo G r u i ++ kp_X2 G (u (7 * i)) r (fun j => u (7 * i + 1 + j))
theorem kStd_c {G : zG} {r : Nat} {u u' : Nat → Nat} : ∀ i, (∀ j, j < 4 * i → u' j = u j) → kStd G r u' i = kStd G r u i := by
  intro i
  induction i with
  | zero => intro _; rfl
  | succ i ih =>
    intro h
    have e : (fun j => u' (4 * i + 1 + j)) 0 = u (4 * i + 1 + 0) := h _ (by omega)
    show kStd G r u' i ++ kp_X7 G (u' (4 * i)) r (fun j => u' (4 * i + 1 + j)) = kStd G r u i ++ kp_X7 G (u (4 * i)) r (fun j => u (4 * i + 1 + j))
    unfold kp_X7
    dsimp only
    rw [ih (fun j hj => h j (by omega)), h (4 * i) (by omega), h (4 * i + 1 + 0) (by omega), h (4 * i + 1 + 1) (by omega), h (4 * i + 1 + 2) (by omega)]
theorem kMo_c {G : zG} {r : Nat} {u u' : Nat → Nat} : ∀ i, (∀ j, j < 7 * i → u' j = u j) → kMo G r u' i = kMo G r u i := by
  intro i
  induction i with
  | zero => intro _; rfl
  | succ i ih =>
    intro h
    have a := h (7 * i) (by omega)
    have a0 := h (7 * i + 1 + 0) (by omega)
    have a1 := h (7 * i + 1 + 1) (by omega)
    have a2 := h (7 * i + 1 + 2) (by omega)
    have a3 := h (7 * i + 1 + (3 + 0)) (by omega)
    have a4 := h (7 * i + 1 + (3 + 1)) (by omega)
    have a5 := h (7 * i + 1 + (3 + 2)) (by omega)
    show kMo G r u' i ++ kp_X2 G (u' (7 * i)) r (fun j => u' (7 * i + 1 + j)) = kMo G r u i ++ kp_X2 G (u (7 * i)) r (fun j => u (7 * i + 1 + j))
    rw [ih (fun j hj => h j (by omega)), a]
    congr 1
    unfold kp_X2 kp_X9 kp_X7
    simp only [Nat.add_zero, Nat.zero_add] at a0 a1 a2 a3 a4 a5 ⊢
    simp_all
def kPw (G : zG) (q r a : Nat) (u : Nat → Nat) (i : Nat) : va_W := [(q, .inr (3, [.ref a, .int 0, .int 0]))] ++ (a, .inl (G.2.2.1.1 24, 16, .inr (.inr (.inr (.inr (kRf u 4 i)))))) :: kStd G r u i
def kMw (pre : va_W) (G : zG) (am r : Nat) (u : Nat → Nat) (i : Nat) : va_W := pre ++ (am, .inl (G.2.2.1.1 25, 4, .inr (.inr (.inr (.inr (kRf u 7 i)))))) :: kMo G r u i
set_option maxRecDepth 100000 in
set_option maxHeartbeats 4000000 in
theorem kploop {K : zK} {G : zG} {A : Nat → Prop} (hK : kC K G A cX3_init yX3_init.cls 3 2 33 65 1792) {q a r : Nat} (fin : ∀ u, kW K G A 3 41 [(2, .int 16), (0, .ref q), (1, .ref r)] [] (kPw G q r a u 16) 65 1792) : ∀ n i u, i + n = 16 → kW K G A 3 15 [(2, .int (nI i)), (0, .ref q), (1, .ref r)] [] (kPw G q r a u i) (1 + 4 * i) (16 + 111 * i) := by
  intro n
  induction n with
  | zero =>
    intro i u hi
    have : i = 16 := by omega
    subst this
    refine k_iload_n hK 0 dX3_init_15 rfl ?_
    refine k_bipush (v := 16) hK dX3_init_16 (by decide) ?_
    refine k_icmp_ge hK 41 dX3_init_18 (by decide) (fun _ => ?_) (fun c => absurd (by decide) c)
    exact fin u
  | succ n ih =>
    intro i u hi
    refine k_iload_n hK 0 dX3_init_15 rfl ?_
    refine k_bipush (v := 16) hK dX3_init_16 (by decide) ?_
    refine k_icmp_ge hK 41 dX3_init_18 (by decide) (fun c => absurd c (by rw [zleL_16 (by omega)]; omega)) (fun _ => ?_)
    refine k_aload_n hK 1 dX3_init_21 rfl ?_
    refine k_get hK kgf_X3_11_3 0 rfl rfl dX3_init_22 ?_
    refine k_iload_n hK 0 dX3_init_25 rfl ?_
    refine k_new hK knf_X3_9 dX3_init_26 rfl rfl (by omega) (by omega) (fun q1 => ?_)
    refine k_dup hK dX3_init_29 rfl ?_
    refine k_aload_n hK 2 dX3_init_30 rfl ?_
    refine k_callI hK [.ref r] (pre := kPw G q r a u i) (suf := [(q1, .inr (6, [.null, .null, .null, .null, .int 0, .int 0]))]) (kc_X7 K.2.1 G q1 r) kif_X7 q_X3_15 rfl [.ref q1, .int (nI i), .ref a] rfl (Nat.le_of_ble_eq_true rfl) ⟨Nat.le_of_ble_eq_true rfl, Nat.le_of_ble_eq_true rfl⟩ rfl dX3_init_31 rfl rfl (by omega) (by omega) (fun v => ?_)
    refine k_aast hK 1 4 6 rfl (r := (RX7, TX7, 6)) rfl (List.mem_append_right _ (List.Mem.head _)) rfl (zin_t (by omega) (by omega)) dX3_init_34 (ws' := [(q, .inr (3, [.ref a, .int 0, .int 0]))] ++ (a, .inl (G.2.2.1.1 24, 16, .inr (.inr (.inr (.inr (va_up (kRf u 4 i) (zx (nI i)) (some q1))))))) :: (kStd G r u i ++ kp_X7 G q1 r v)) rfl ?_
    refine k_iinc (v := nI (i + 1)) (lv' := [(2, .int (nI (i + 1))), (0, .ref q), (1, .ref r)]) hK 0 dX3_init_35 rfl (nI_1 i) (by decide) rfl ?_
    refine k_goto hK 15 dX3_init_38 (by decide) ?_
    have e : [(q, .inr (3, [.ref a, .int 0, .int 0]))] ++ (a, .inl (G.2.2.1.1 24, 16, .inr (.inr (.inr (.inr (va_up (kRf u 4 i) (zx (nI i)) (some q1))))))) :: (kStd G r u i ++ kp_X7 G q1 r v) = kPw G q r a (kNu u v (4 * i) q1) (i + 1) := by
      rw [kRf_up (u' := kNu u v (4 * i) q1) (fun j hj => kNu_l hj) kNu_m (by decide) (by omega)]
      unfold kPw
      show _ = [(q, .inr (3, [.ref a, .int 0, .int 0]))] ++ (a, .inl (G.2.2.1.1 24, 16, .inr (.inr (.inr (.inr (kRf (kNu u v (4 * i) q1) 4 (i + 1))))))) :: (kStd G r (kNu u v (4 * i) q1) i ++ kp_X7 G (kNu u v (4 * i) q1 (4 * i)) r (fun j => kNu u v (4 * i) q1 (4 * i + 1 + j)))
      rw [kStd_c (u' := kNu u v (4 * i) q1) (u := u) i (fun j hj => kNu_l hj), kNu_m, show (fun j => kNu u v (4 * i) q1 (4 * i + 1 + j)) = v from funext (fun j => kNu_r j)]
    refine k_world e (k_cnt (by omega) (by omega) (ih (i + 1) (kNu u v (4 * i) q1) (by omega)))
set_option maxRecDepth 100000 in
set_option maxHeartbeats 4000000 in
theorem kvloop {K : zK} {G : zG} {A : Nat → Prop} {fr lo mc ms : Nat} (hK : kC K G A cX11_init yX11_init.cls 2 fr lo mc ms) {pre : va_W} {q am r : Nat} {fs : List Value} (h0 : pre[0]? = some (q, .inr (10, fs))) (h7 : fs[7]? = some (.ref am)) (h1 : fs[1]? = some (.ref r)) (kk nn : Nat) (hfr : 3 ≤ fr) (hlo : 54 ≤ lo) (hmc : kk + 28 ≤ mc) (hms : nn + 632 ≤ ms) (fin : ∀ u, kW K G A 2 150 [(1, .int 4), (0, .ref q)] [] (kMw pre G am r u 4) (kk + 28) (nn + 632)) : ∀ n i u, i + n = 4 → kW K G A 2 122 [(1, .int (nI i)), (0, .ref q)] [] (kMw pre G am r u i) (kk + 7 * i) (nn + 158 * i) := by
  intro n
  induction n with
  | zero =>
    intro i u hi
    have : i = 4 := by omega
    subst this
    refine k_iload_n hK 0 dX11_init_122 rfl ?_
    refine k_iconst (v := 4) hK dX11_init_123 (by decide) ?_
    refine k_icmp_ge hK 150 dX11_init_124 (by decide) (fun _ => ?_) (fun c => absurd (by decide) c)
    exact fin u
  | succ n ih =>
    intro i u hi
    refine k_iload_n hK 0 dX11_init_122 rfl ?_
    refine k_iconst (v := 4) hK dX11_init_123 (by decide) ?_
    refine k_icmp_ge hK 150 dX11_init_124 (by decide) (fun c => absurd c (by rw [zleL_4 (by omega)]; omega)) (fun _ => ?_)
    refine k_aload_n hK 1 dX11_init_127 rfl ?_
    refine k_get hK kgf_X11_58_10 0 (kl_l h0) h7 dX11_init_128 ?_
    refine k_iload_n hK 0 dX11_init_131 rfl ?_
    refine k_new hK knf_X11_51 dX11_init_132 rfl rfl (by omega) (by omega) (fun q1 => ?_)
    refine k_dup hK dX11_init_135 rfl ?_
    refine k_aload_n hK 1 dX11_init_136 rfl ?_
    refine k_get hK kgf_X11_19_10 0 (kl_l (kl_l h0)) h1 dX11_init_137 ?_
    refine k_callI hK [.ref r] (pre := kMw pre G am r u i) (suf := [(q1, .inr (2, [.null, .null, .int 0, .int 0, .int 0]))]) (kc_X2 K.2.1 G q1 r) kif_X2 q_X11_53 rfl [.ref q1, .int (nI i), .ref am] rfl (Nat.le_of_ble_eq_true rfl) ⟨by omega, by omega⟩ rfl dX11_init_140 rfl rfl (by omega) (by omega) (fun v => ?_)
    refine k_world (ws' := pre ++ (am, .inl (G.2.2.1.1 25, 4, .inr (.inr (.inr (.inr (kRf u 7 i)))))) :: (kMo G r u i ++ kp_X2 G q1 r v)) (List.append_assoc pre ((am, .inl (G.2.2.1.1 25, 4, .inr (.inr (.inr (.inr (kRf u 7 i)))))) :: kMo G r u i) (kp_X2 G q1 r v)) ?_
    refine k_aast hK pre.length 5 2 (kl_r (k := 0) rfl) (r := (RX2, TX2, 5)) rfl (List.mem_append_right _ (List.mem_cons_of_mem _ (List.mem_append_right _ (List.Mem.head _)))) rfl (zin_t (by omega) (by omega)) dX11_init_143 kset ?_
    refine k_iinc (v := nI (i + 1)) (lv' := [(1, .int (nI (i + 1))), (0, .ref q)]) hK 0 dX11_init_144 rfl (nI_1 i) (by decide) rfl ?_
    refine k_goto hK 122 dX11_init_147 (by decide) ?_
    have e : pre ++ (am, .inl (G.2.2.1.1 25, 4, .inr (.inr (.inr (.inr (va_up (kRf u 7 i) (zx (nI i)) (some q1))))))) :: (kMo G r u i ++ kp_X2 G q1 r v) = kMw pre G am r (kNu u v (7 * i) q1) (i + 1) := by
      rw [kRf_up (u' := kNu u v (7 * i) q1) (fun j hj => kNu_l hj) kNu_m (by decide) (by omega)]
      unfold kMw
      show _ = pre ++ (am, .inl (G.2.2.1.1 25, 4, .inr (.inr (.inr (.inr (kRf (kNu u v (7 * i) q1) 7 (i + 1))))))) :: (kMo G r (kNu u v (7 * i) q1) i ++ kp_X2 G (kNu u v (7 * i) q1 (7 * i)) r (fun j => kNu u v (7 * i) q1 (7 * i + 1 + j)))
      rw [kMo_c (u' := kNu u v (7 * i) q1) (u := u) i (fun j hj => kNu_l hj), kNu_m, show (fun j => kNu u v (7 * i) q1 (7 * i + 1 + j)) = v from funext (fun j => kNu_r j)]
    refine k_world e (k_cnt (by omega) (by omega) (ih (i + 1) (kNu u v (7 * i) q1) (by omega)))
theorem k3f (w v p : Nat → Nat) : ∃ u : Nat → Nat, (fun j => u (3 * j)) = w ∧ (fun j => u (3 * j + 1)) = v ∧ (fun j => u (3 * j + 2)) = p := by
  refine ⟨fun i => if i % 3 = 0 then w (i / 3) else if i % 3 = 1 then v (i / 3) else p (i / 3), funext (fun j => ?_), funext (fun j => ?_), funext (fun j => ?_)⟩
  · show (if 3 * j % 3 = 0 then w (3 * j / 3) else _) = w j
    rw [if_pos (by omega), show 3 * j / 3 = j by omega]
  · show (if (3 * j + 1) % 3 = 0 then _ else if (3 * j + 1) % 3 = 1 then v ((3 * j + 1) / 3) else _) = v j
    rw [if_neg (by omega), if_pos (by omega), show (3 * j + 1) / 3 = j by omega]
  · show (if (3 * j + 2) % 3 = 0 then _ else if (3 * j + 2) % 3 = 1 then _ else p ((3 * j + 2) / 3)) = p j
    rw [if_neg (by omega), if_neg (by omega), show (3 * j + 2) / 3 = j by omega]
def kp_X3 (G : zG) (q r : Nat) (u : Nat → Nat) : va_W := kPw G q r (u 0) (fun j => u (j + 1)) 16
set_option maxRecDepth 100000 in
set_option maxHeartbeats 4000000 in
theorem kc_X3 (l : Launch) (G : zG) (q r : Nat) : kM l G yX3_init cX3_init 3 2 33 65 1792 [.ref q, .ref r] [(q, .inr (3, [.null, .int 0, .int 0]))] (kp_X3 G q r) := by
  refine kM_of (by decide +kernel) (Nat.le_of_ble_eq_true rfl) (fun K A hl hK hN hE => ?_)
  subst hl
  show kW K G A 3 0 [(0, .ref q), (1, .ref r)] [] [(q, .inr (3, [.null, .int 0, .int 0]))] 0 0
  refine k_aload_n hK 0 dX3_init_0 rfl ?_
  refine k_objInit hK q_X3_1 q_objInit ⟨Nat.le_of_ble_eq_true rfl, Nat.le_of_ble_eq_true rfl⟩ dX3_init_1 ?_
  refine k_aload_n hK 0 dX3_init_4 rfl ?_
  refine k_bipush (v := 16) hK dX3_init_5 (by decide) ?_
  refine k_newq hK 4 q_X3_9 (fun h => h.2.1) rfl (N' := 16) (by decide) (by decide) (by decide) dX3_init_7 rfl rfl (by decide) (by decide) (fun a => ?_)
  show kW K G A 3 10 [(0, .ref q), (1, .ref r)] [.ref a, .ref q] ((q, .inr (3, [.null, .int 0, .int 0])) :: [(a, .inl (G.2.2.1.1 24, 16, .inr (.inr (.inr (.inr (fun _ => none))))))]) 1 16
  refine k_putF hK hN kff_X3_11_3 rfl rfl (Nat.le_of_ble_eq_true rfl) (fs' := [.ref a, .int 0, .int 0]) rfl dX3_init_10 ?_
  refine k_iconst (v := 0) hK dX3_init_13 (by decide) ?_
  refine k_istore_n (lv' := [(2, .int 0), (0, .ref q), (1, .ref r)]) hK dX3_init_14 (by decide) rfl ?_
  have e : ((q, .inr (3, [.ref a, .int 0, .int 0])) :: [(a, .inl (G.2.2.1.1 24, 16, .inr (.inr (.inr (.inr (fun _ => none))))))] : va_W) = kPw G q r a (fun _ => 0) 0 := by
    unfold kPw
    rw [show kRf (fun _ => 0) 4 0 = (fun _ => none) from funext (fun j => if_neg (Nat.not_lt_zero j))]
    rfl
  refine k_world e ?_
  refine kploop hK (fun u => ?_) 16 0 (fun _ => 0) rfl
  exact k_vret hK hN hE (fun i => match i with | 0 => a | i + 1 => u i) rfl (by decide) (by decide) dX3_init_41
