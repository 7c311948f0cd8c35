/-! numbers: ints that are small naturals; loops over them -/
theorem nI_mul (a b : Nat) : nI a * nI b = nI (a * b) := (Int32.ofNat_mul a b).symm
theorem zx_nI {a : Nat} (h : a < 2147483648) : zx (nI a) = a := nI_clamp h
theorem zin_nI {a n : Nat} (h : a < 2147483648) : zin (nI a) n = decide (a < n) := by
  unfold zin
  rw [nI_clamp h]
  have : ¬ nI a < 0 := nI_pos h
  simp [this]
theorem zin_t {a n : Nat} (h : a < n) (hn : a < 2147483648) : zin (nI a) n = true := by rw [zin_nI hn]; exact decide_eq_true h
theorem znI_le {a b : Nat} (ha : a < 2147483648) (hb : b < 2147483648) : (nI a ≤ nI b) = (a ≤ b) := propext (nI_leI ha hb)
theorem znI_lt {a b : Nat} (ha : a < 2147483648) (hb : b < 2147483648) : (nI a < nI b) = (a < b) := propext (nI_ltI ha hb)
theorem znI_eq {a b : Nat} (ha : a < 2147483648) (hb : b < 2147483648) : (nI a = nI b) = (a = b) := propext (nI_eq ha hb)
theorem znI_neg {a : Nat} (h : a < 2147483648) : (nI a = (-1 : Int32)) = False := by
  apply propext
  constructor
  · intro e
    have h1 := nI_toInt h
    rw [e] at h1
    have h2 : (-1 : Int32).toInt = -1 := by decide
    omega
  · exact False.elim
theorem zgu_t {α : Type} {k : Option α} : zgu true k = k := rfl
theorem zgu_f {α : Type} {k : Option α} : zgu false k = none := rfl
theorem zbind_s {α β : Type} {a : α} {f : α → Option β} : (some a).bind f = f a := rfl
theorem zlet_e {α β : Type} {a : α} {f : α → Option β} : zlet a f = f a := rfl
theorem zb_eq0 {b : Bool} : (zb b = 0) = (b = false) := by cases b <;> simp [zb]
theorem zb_eq1 {b : Bool} : (zb b = 1) = (b = true) := by cases b <;> simp [zb]
theorem zb_t : zb true = 1 := rfl
theorem zb_f : zb false = 0 := rfl
theorem zl_0 : (0 : Int32) = nI 0 := rfl
theorem zleL_0 {a : Nat} (h : a < 2147483648) : ((0 : Int32) ≤ nI a) = (0 ≤ a) := propext (nI_leI (a := 0) (by decide) h)
theorem zleR_0 {a : Nat} (h : a < 2147483648) : (nI a ≤ (0 : Int32)) = (a ≤ 0) := propext (nI_leI (b := 0) h (by decide))
theorem zltL_0 {a : Nat} (h : a < 2147483648) : ((0 : Int32) < nI a) = (0 < a) := propext (nI_ltI (a := 0) (by decide) h)
theorem zltR_0 {a : Nat} (h : a < 2147483648) : (nI a < (0 : Int32)) = (a < 0) := propext (nI_ltI (b := 0) h (by decide))
theorem zeq_0 {a : Nat} (h : a < 2147483648) : (nI a = (0 : Int32)) = (a = 0) := propext (nI_eq (b := 0) h (by decide))
theorem zxl_0 : zx (0 : Int32) = 0 := by decide
theorem zil_0 {n : Nat} (h : 0 < n) : zin (0 : Int32) n = true := by rw [zl_0, zin_nI (by decide)]; exact decide_eq_true h
theorem zl_1 : (1 : Int32) = nI 1 := rfl
theorem zmL_1 (a : Nat) : (1 : Int32) * nI a = nI (1 * a) := nI_mul 1 a
theorem zmR_1 (a : Nat) : nI a * (1 : Int32) = nI (a * 1) := nI_mul a 1
theorem zaL_1 (a : Nat) : (1 : Int32) + nI a = nI (1 + a) := nI_add 1 a
theorem zaR_1 (a : Nat) : nI a + (1 : Int32) = nI (a + 1) := nI_add a 1
theorem zleL_1 {a : Nat} (h : a < 2147483648) : ((1 : Int32) ≤ nI a) = (1 ≤ a) := propext (nI_leI (a := 1) (by decide) h)
theorem zleR_1 {a : Nat} (h : a < 2147483648) : (nI a ≤ (1 : Int32)) = (a ≤ 1) := propext (nI_leI (b := 1) h (by decide))
theorem zltL_1 {a : Nat} (h : a < 2147483648) : ((1 : Int32) < nI a) = (1 < a) := propext (nI_ltI (a := 1) (by decide) h)
theorem zltR_1 {a : Nat} (h : a < 2147483648) : (nI a < (1 : Int32)) = (a < 1) := propext (nI_ltI (b := 1) h (by decide))
theorem zeq_1 {a : Nat} (h : a < 2147483648) : (nI a = (1 : Int32)) = (a = 1) := propext (nI_eq (b := 1) h (by decide))
theorem zxl_1 : zx (1 : Int32) = 1 := by decide
theorem zil_1 {n : Nat} (h : 1 < n) : zin (1 : Int32) n = true := by rw [zl_1, zin_nI (by decide)]; exact decide_eq_true h
theorem zl_2 : (2 : Int32) = nI 2 := rfl
theorem zmL_2 (a : Nat) : (2 : Int32) * nI a = nI (2 * a) := nI_mul 2 a
theorem zmR_2 (a : Nat) : nI a * (2 : Int32) = nI (a * 2) := nI_mul a 2
theorem zaL_2 (a : Nat) : (2 : Int32) + nI a = nI (2 + a) := nI_add 2 a
theorem zaR_2 (a : Nat) : nI a + (2 : Int32) = nI (a + 2) := nI_add a 2
theorem zleL_2 {a : Nat} (h : a < 2147483648) : ((2 : Int32) ≤ nI a) = (2 ≤ a) := propext (nI_leI (a := 2) (by decide) h)
theorem zleR_2 {a : Nat} (h : a < 2147483648) : (nI a ≤ (2 : Int32)) = (a ≤ 2) := propext (nI_leI (b := 2) h (by decide))
theorem zltL_2 {a : Nat} (h : a < 2147483648) : ((2 : Int32) < nI a) = (2 < a) := propext (nI_ltI (a := 2) (by decide) h)
theorem zltR_2 {a : Nat} (h : a < 2147483648) : (nI a < (2 : Int32)) = (a < 2) := propext (nI_ltI (b := 2) h (by decide))
theorem zeq_2 {a : Nat} (h : a < 2147483648) : (nI a = (2 : Int32)) = (a = 2) := propext (nI_eq (b := 2) h (by decide))
theorem zxl_2 : zx (2 : Int32) = 2 := by decide
theorem zil_2 {n : Nat} (h : 2 < n) : zin (2 : Int32) n = true := by rw [zl_2, zin_nI (by decide)]; exact decide_eq_true h
theorem zl_3 : (3 : Int32) = nI 3 := rfl
theorem zmL_3 (a : Nat) : (3 : Int32) * nI a = nI (3 * a) := nI_mul 3 a
theorem zmR_3 (a : Nat) : nI a * (3 : Int32) = nI (a * 3) := nI_mul a 3
theorem zaL_3 (a : Nat) : (3 : Int32) + nI a = nI (3 + a) := nI_add 3 a
theorem zaR_3 (a : Nat) : nI a + (3 : Int32) = nI (a + 3) := nI_add a 3
theorem zleL_3 {a : Nat} (h : a < 2147483648) : ((3 : Int32) ≤ nI a) = (3 ≤ a) := propext (nI_leI (a := 3) (by decide) h)
theorem zleR_3 {a : Nat} (h : a < 2147483648) : (nI a ≤ (3 : Int32)) = (a ≤ 3) := propext (nI_leI (b := 3) h (by decide))
theorem zltL_3 {a : Nat} (h : a < 2147483648) : ((3 : Int32) < nI a) = (3 < a) := propext (nI_ltI (a := 3) (by decide) h)
theorem zltR_3 {a : Nat} (h : a < 2147483648) : (nI a < (3 : Int32)) = (a < 3) := propext (nI_ltI (b := 3) h (by decide))
theorem zeq_3 {a : Nat} (h : a < 2147483648) : (nI a = (3 : Int32)) = (a = 3) := propext (nI_eq (b := 3) h (by decide))
theorem zxl_3 : zx (3 : Int32) = 3 := by decide
theorem zil_3 {n : Nat} (h : 3 < n) : zin (3 : Int32) n = true := by rw [zl_3, zin_nI (by decide)]; exact decide_eq_true h
theorem zl_4 : (4 : Int32) = nI 4 := rfl
theorem zmL_4 (a : Nat) : (4 : Int32) * nI a = nI (4 * a) := nI_mul 4 a
theorem zmR_4 (a : Nat) : nI a * (4 : Int32) = nI (a * 4) := nI_mul a 4
theorem zaL_4 (a : Nat) : (4 : Int32) + nI a = nI (4 + a) := nI_add 4 a
theorem zaR_4 (a : Nat) : nI a + (4 : Int32) = nI (a + 4) := nI_add a 4
theorem zleL_4 {a : Nat} (h : a < 2147483648) : ((4 : Int32) ≤ nI a) = (4 ≤ a) := propext (nI_leI (a := 4) (by decide) h)
theorem zleR_4 {a : Nat} (h : a < 2147483648) : (nI a ≤ (4 : Int32)) = (a ≤ 4) := propext (nI_leI (b := 4) h (by decide))
theorem zltL_4 {a : Nat} (h : a < 2147483648) : ((4 : Int32) < nI a) = (4 < a) := propext (nI_ltI (a := 4) (by decide) h)
theorem zltR_4 {a : Nat} (h : a < 2147483648) : (nI a < (4 : Int32)) = (a < 4) := propext (nI_ltI (b := 4) h (by decide))
theorem zeq_4 {a : Nat} (h : a < 2147483648) : (nI a = (4 : Int32)) = (a = 4) := propext (nI_eq (b := 4) h (by decide))
theorem zxl_4 : zx (4 : Int32) = 4 := by decide
theorem zil_4 {n : Nat} (h : 4 < n) : zin (4 : Int32) n = true := by rw [zl_4, zin_nI (by decide)]; exact decide_eq_true h
theorem zl_5 : (5 : Int32) = nI 5 := rfl
theorem zmL_5 (a : Nat) : (5 : Int32) * nI a = nI (5 * a) := nI_mul 5 a
theorem zmR_5 (a : Nat) : nI a * (5 : Int32) = nI (a * 5) := nI_mul a 5
theorem zaL_5 (a : Nat) : (5 : Int32) + nI a = nI (5 + a) := nI_add 5 a
theorem zaR_5 (a : Nat) : nI a + (5 : Int32) = nI (a + 5) := nI_add a 5
theorem zleL_5 {a : Nat} (h : a < 2147483648) : ((5 : Int32) ≤ nI a) = (5 ≤ a) := propext (nI_leI (a := 5) (by decide) h)
theorem zleR_5 {a : Nat} (h : a < 2147483648) : (nI a ≤ (5 : Int32)) = (a ≤ 5) := propext (nI_leI (b := 5) h (by decide))
theorem zltL_5 {a : Nat} (h : a < 2147483648) : ((5 : Int32) < nI a) = (5 < a) := propext (nI_ltI (a := 5) (by decide) h)
theorem zltR_5 {a : Nat} (h : a < 2147483648) : (nI a < (5 : Int32)) = (a < 5) := propext (nI_ltI (b := 5) h (by decide))
theorem zeq_5 {a : Nat} (h : a < 2147483648) : (nI a = (5 : Int32)) = (a = 5) := propext (nI_eq (b := 5) h (by decide))
theorem zxl_5 : zx (5 : Int32) = 5 := by decide
theorem zil_5 {n : Nat} (h : 5 < n) : zin (5 : Int32) n = true := by rw [zl_5, zin_nI (by decide)]; exact decide_eq_true h
theorem zl_6 : (6 : Int32) = nI 6 := rfl
theorem zmL_6 (a : Nat) : (6 : Int32) * nI a = nI (6 * a) := nI_mul 6 a
theorem zmR_6 (a : Nat) : nI a * (6 : Int32) = nI (a * 6) := nI_mul a 6
theorem zaL_6 (a : Nat) : (6 : Int32) + nI a = nI (6 + a) := nI_add 6 a
theorem zaR_6 (a : Nat) : nI a + (6 : Int32) = nI (a + 6) := nI_add a 6
theorem zleL_6 {a : Nat} (h : a < 2147483648) : ((6 : Int32) ≤ nI a) = (6 ≤ a) := propext (nI_leI (a := 6) (by decide) h)
theorem zleR_6 {a : Nat} (h : a < 2147483648) : (nI a ≤ (6 : Int32)) = (a ≤ 6) := propext (nI_leI (b := 6) h (by decide))
theorem zltL_6 {a : Nat} (h : a < 2147483648) : ((6 : Int32) < nI a) = (6 < a) := propext (nI_ltI (a := 6) (by decide) h)
theorem zltR_6 {a : Nat} (h : a < 2147483648) : (nI a < (6 : Int32)) = (a < 6) := propext (nI_ltI (b := 6) h (by decide))
theorem zeq_6 {a : Nat} (h : a < 2147483648) : (nI a = (6 : Int32)) = (a = 6) := propext (nI_eq (b := 6) h (by decide))
theorem zxl_6 : zx (6 : Int32) = 6 := by decide
theorem zil_6 {n : Nat} (h : 6 < n) : zin (6 : Int32) n = true := by rw [zl_6, zin_nI (by decide)]; exact decide_eq_true h
theorem zl_7 : (7 : Int32) = nI 7 := rfl
theorem zmL_7 (a : Nat) : (7 : Int32) * nI a = nI (7 * a) := nI_mul 7 a
theorem zmR_7 (a : Nat) : nI a * (7 : Int32) = nI (a * 7) := nI_mul a 7
theorem zaL_7 (a : Nat) : (7 : Int32) + nI a = nI (7 + a) := nI_add 7 a
theorem zaR_7 (a : Nat) : nI a + (7 : Int32) = nI (a + 7) := nI_add a 7
theorem zleL_7 {a : Nat} (h : a < 2147483648) : ((7 : Int32) ≤ nI a) = (7 ≤ a) := propext (nI_leI (a := 7) (by decide) h)
theorem zleR_7 {a : Nat} (h : a < 2147483648) : (nI a ≤ (7 : Int32)) = (a ≤ 7) := propext (nI_leI (b := 7) h (by decide))
theorem zltL_7 {a : Nat} (h : a < 2147483648) : ((7 : Int32) < nI a) = (7 < a) := propext (nI_ltI (a := 7) (by decide) h)
theorem zltR_7 {a : Nat} (h : a < 2147483648) : (nI a < (7 : Int32)) = (a < 7) := propext (nI_ltI (b := 7) h (by decide))
theorem zeq_7 {a : Nat} (h : a < 2147483648) : (nI a = (7 : Int32)) = (a = 7) := propext (nI_eq (b := 7) h (by decide))
theorem zxl_7 : zx (7 : Int32) = 7 := by decide
theorem zil_7 {n : Nat} (h : 7 < n) : zin (7 : Int32) n = true := by rw [zl_7, zin_nI (by decide)]; exact decide_eq_true h
theorem zl_8 : (8 : Int32) = nI 8 := rfl
theorem zmL_8 (a : Nat) : (8 : Int32) * nI a = nI (8 * a) := nI_mul 8 a
theorem zmR_8 (a : Nat) : nI a * (8 : Int32) = nI (a * 8) := nI_mul a 8
theorem zaL_8 (a : Nat) : (8 : Int32) + nI a = nI (8 + a) := nI_add 8 a
theorem zaR_8 (a : Nat) : nI a + (8 : Int32) = nI (a + 8) := nI_add a 8
theorem zleL_8 {a : Nat} (h : a < 2147483648) : ((8 : Int32) ≤ nI a) = (8 ≤ a) := propext (nI_leI (a := 8) (by decide) h)
theorem zleR_8 {a : Nat} (h : a < 2147483648) : (nI a ≤ (8 : Int32)) = (a ≤ 8) := propext (nI_leI (b := 8) h (by decide))
theorem zltL_8 {a : Nat} (h : a < 2147483648) : ((8 : Int32) < nI a) = (8 < a) := propext (nI_ltI (a := 8) (by decide) h)
theorem zltR_8 {a : Nat} (h : a < 2147483648) : (nI a < (8 : Int32)) = (a < 8) := propext (nI_ltI (b := 8) h (by decide))
theorem zeq_8 {a : Nat} (h : a < 2147483648) : (nI a = (8 : Int32)) = (a = 8) := propext (nI_eq (b := 8) h (by decide))
theorem zxl_8 : zx (8 : Int32) = 8 := by decide
theorem zil_8 {n : Nat} (h : 8 < n) : zin (8 : Int32) n = true := by rw [zl_8, zin_nI (by decide)]; exact decide_eq_true h
theorem zl_9 : (9 : Int32) = nI 9 := rfl
theorem zmL_9 (a : Nat) : (9 : Int32) * nI a = nI (9 * a) := nI_mul 9 a
theorem zmR_9 (a : Nat) : nI a * (9 : Int32) = nI (a * 9) := nI_mul a 9
theorem zaL_9 (a : Nat) : (9 : Int32) + nI a = nI (9 + a) := nI_add 9 a
theorem zaR_9 (a : Nat) : nI a + (9 : Int32) = nI (a + 9) := nI_add a 9
theorem zleL_9 {a : Nat} (h : a < 2147483648) : ((9 : Int32) ≤ nI a) = (9 ≤ a) := propext (nI_leI (a := 9) (by decide) h)
theorem zleR_9 {a : Nat} (h : a < 2147483648) : (nI a ≤ (9 : Int32)) = (a ≤ 9) := propext (nI_leI (b := 9) h (by decide))
theorem zltL_9 {a : Nat} (h : a < 2147483648) : ((9 : Int32) < nI a) = (9 < a) := propext (nI_ltI (a := 9) (by decide) h)
theorem zltR_9 {a : Nat} (h : a < 2147483648) : (nI a < (9 : Int32)) = (a < 9) := propext (nI_ltI (b := 9) h (by decide))
theorem zeq_9 {a : Nat} (h : a < 2147483648) : (nI a = (9 : Int32)) = (a = 9) := propext (nI_eq (b := 9) h (by decide))
theorem zxl_9 : zx (9 : Int32) = 9 := by decide
theorem zil_9 {n : Nat} (h : 9 < n) : zin (9 : Int32) n = true := by rw [zl_9, zin_nI (by decide)]; exact decide_eq_true h
theorem zl_10 : (10 : Int32) = nI 10 := rfl
theorem zmL_10 (a : Nat) : (10 : Int32) * nI a = nI (10 * a) := nI_mul 10 a
theorem zmR_10 (a : Nat) : nI a * (10 : Int32) = nI (a * 10) := nI_mul a 10
theorem zaL_10 (a : Nat) : (10 : Int32) + nI a = nI (10 + a) := nI_add 10 a
theorem zaR_10 (a : Nat) : nI a + (10 : Int32) = nI (a + 10) := nI_add a 10
theorem zleL_10 {a : Nat} (h : a < 2147483648) : ((10 : Int32) ≤ nI a) = (10 ≤ a) := propext (nI_leI (a := 10) (by decide) h)
theorem zleR_10 {a : Nat} (h : a < 2147483648) : (nI a ≤ (10 : Int32)) = (a ≤ 10) := propext (nI_leI (b := 10) h (by decide))
theorem zltL_10 {a : Nat} (h : a < 2147483648) : ((10 : Int32) < nI a) = (10 < a) := propext (nI_ltI (a := 10) (by decide) h)
theorem zltR_10 {a : Nat} (h : a < 2147483648) : (nI a < (10 : Int32)) = (a < 10) := propext (nI_ltI (b := 10) h (by decide))
theorem zeq_10 {a : Nat} (h : a < 2147483648) : (nI a = (10 : Int32)) = (a = 10) := propext (nI_eq (b := 10) h (by decide))
theorem zxl_10 : zx (10 : Int32) = 10 := by decide
theorem zil_10 {n : Nat} (h : 10 < n) : zin (10 : Int32) n = true := by rw [zl_10, zin_nI (by decide)]; exact decide_eq_true h
theorem zl_14 : (14 : Int32) = nI 14 := rfl
theorem zmL_14 (a : Nat) : (14 : Int32) * nI a = nI (14 * a) := nI_mul 14 a
theorem zmR_14 (a : Nat) : nI a * (14 : Int32) = nI (a * 14) := nI_mul a 14
theorem zaL_14 (a : Nat) : (14 : Int32) + nI a = nI (14 + a) := nI_add 14 a
theorem zaR_14 (a : Nat) : nI a + (14 : Int32) = nI (a + 14) := nI_add a 14
theorem zleL_14 {a : Nat} (h : a < 2147483648) : ((14 : Int32) ≤ nI a) = (14 ≤ a) := propext (nI_leI (a := 14) (by decide) h)
theorem zleR_14 {a : Nat} (h : a < 2147483648) : (nI a ≤ (14 : Int32)) = (a ≤ 14) := propext (nI_leI (b := 14) h (by decide))
theorem zltL_14 {a : Nat} (h : a < 2147483648) : ((14 : Int32) < nI a) = (14 < a) := propext (nI_ltI (a := 14) (by decide) h)
theorem zltR_14 {a : Nat} (h : a < 2147483648) : (nI a < (14 : Int32)) = (a < 14) := propext (nI_ltI (b := 14) h (by decide))
theorem zeq_14 {a : Nat} (h : a < 2147483648) : (nI a = (14 : Int32)) = (a = 14) := propext (nI_eq (b := 14) h (by decide))
theorem zxl_14 : zx (14 : Int32) = 14 := by decide
theorem zil_14 {n : Nat} (h : 14 < n) : zin (14 : Int32) n = true := by rw [zl_14, zin_nI (by decide)]; exact decide_eq_true h
theorem zl_15 : (15 : Int32) = nI 15 := rfl
theorem zmL_15 (a : Nat) : (15 : Int32) * nI a = nI (15 * a) := nI_mul 15 a
theorem zmR_15 (a : Nat) : nI a * (15 : Int32) = nI (a * 15) := nI_mul a 15
theorem zaL_15 (a : Nat) : (15 : Int32) + nI a = nI (15 + a) := nI_add 15 a
theorem zaR_15 (a : Nat) : nI a + (15 : Int32) = nI (a + 15) := nI_add a 15
theorem zleL_15 {a : Nat} (h : a < 2147483648) : ((15 : Int32) ≤ nI a) = (15 ≤ a) := propext (nI_leI (a := 15) (by decide) h)
theorem zleR_15 {a : Nat} (h : a < 2147483648) : (nI a ≤ (15 : Int32)) = (a ≤ 15) := propext (nI_leI (b := 15) h (by decide))
theorem zltL_15 {a : Nat} (h : a < 2147483648) : ((15 : Int32) < nI a) = (15 < a) := propext (nI_ltI (a := 15) (by decide) h)
theorem zltR_15 {a : Nat} (h : a < 2147483648) : (nI a < (15 : Int32)) = (a < 15) := propext (nI_ltI (b := 15) h (by decide))
theorem zeq_15 {a : Nat} (h : a < 2147483648) : (nI a = (15 : Int32)) = (a = 15) := propext (nI_eq (b := 15) h (by decide))
theorem zxl_15 : zx (15 : Int32) = 15 := by decide
theorem zil_15 {n : Nat} (h : 15 < n) : zin (15 : Int32) n = true := by rw [zl_15, zin_nI (by decide)]; exact decide_eq_true h
theorem zl_16 : (16 : Int32) = nI 16 := rfl
theorem zmL_16 (a : Nat) : (16 : Int32) * nI a = nI (16 * a) := nI_mul 16 a
theorem zmR_16 (a : Nat) : nI a * (16 : Int32) = nI (a * 16) := nI_mul a 16
theorem zaL_16 (a : Nat) : (16 : Int32) + nI a = nI (16 + a) := nI_add 16 a
theorem zaR_16 (a : Nat) : nI a + (16 : Int32) = nI (a + 16) := nI_add a 16
theorem zleL_16 {a : Nat} (h : a < 2147483648) : ((16 : Int32) ≤ nI a) = (16 ≤ a) := propext (nI_leI (a := 16) (by decide) h)
theorem zleR_16 {a : Nat} (h : a < 2147483648) : (nI a ≤ (16 : Int32)) = (a ≤ 16) := propext (nI_leI (b := 16) h (by decide))
theorem zltL_16 {a : Nat} (h : a < 2147483648) : ((16 : Int32) < nI a) = (16 < a) := propext (nI_ltI (a := 16) (by decide) h)
theorem zltR_16 {a : Nat} (h : a < 2147483648) : (nI a < (16 : Int32)) = (a < 16) := propext (nI_ltI (b := 16) h (by decide))
theorem zeq_16 {a : Nat} (h : a < 2147483648) : (nI a = (16 : Int32)) = (a = 16) := propext (nI_eq (b := 16) h (by decide))
theorem zxl_16 : zx (16 : Int32) = 16 := by decide
theorem zil_16 {n : Nat} (h : 16 < n) : zin (16 : Int32) n = true := by rw [zl_16, zin_nI (by decide)]; exact decide_eq_true h
theorem zl_20 : (20 : Int32) = nI 20 := rfl
theorem zmL_20 (a : Nat) : (20 : Int32) * nI a = nI (20 * a) := nI_mul 20 a
theorem zmR_20 (a : Nat) : nI a * (20 : Int32) = nI (a * 20) := nI_mul a 20
theorem zaL_20 (a : Nat) : (20 : Int32) + nI a = nI (20 + a) := nI_add 20 a
theorem zaR_20 (a : Nat) : nI a + (20 : Int32) = nI (a + 20) := nI_add a 20
theorem zleL_20 {a : Nat} (h : a < 2147483648) : ((20 : Int32) ≤ nI a) = (20 ≤ a) := propext (nI_leI (a := 20) (by decide) h)
theorem zleR_20 {a : Nat} (h : a < 2147483648) : (nI a ≤ (20 : Int32)) = (a ≤ 20) := propext (nI_leI (b := 20) h (by decide))
theorem zltL_20 {a : Nat} (h : a < 2147483648) : ((20 : Int32) < nI a) = (20 < a) := propext (nI_ltI (a := 20) (by decide) h)
theorem zltR_20 {a : Nat} (h : a < 2147483648) : (nI a < (20 : Int32)) = (a < 20) := propext (nI_ltI (b := 20) h (by decide))
theorem zeq_20 {a : Nat} (h : a < 2147483648) : (nI a = (20 : Int32)) = (a = 20) := propext (nI_eq (b := 20) h (by decide))
theorem zxl_20 : zx (20 : Int32) = 20 := by decide
theorem zil_20 {n : Nat} (h : 20 < n) : zin (20 : Int32) n = true := by rw [zl_20, zin_nI (by decide)]; exact decide_eq_true h
theorem zl_22 : (22 : Int32) = nI 22 := rfl
theorem zmL_22 (a : Nat) : (22 : Int32) * nI a = nI (22 * a) := nI_mul 22 a
theorem zmR_22 (a : Nat) : nI a * (22 : Int32) = nI (a * 22) := nI_mul a 22
theorem zaL_22 (a : Nat) : (22 : Int32) + nI a = nI (22 + a) := nI_add 22 a
theorem zaR_22 (a : Nat) : nI a + (22 : Int32) = nI (a + 22) := nI_add a 22
theorem zleL_22 {a : Nat} (h : a < 2147483648) : ((22 : Int32) ≤ nI a) = (22 ≤ a) := propext (nI_leI (a := 22) (by decide) h)
theorem zleR_22 {a : Nat} (h : a < 2147483648) : (nI a ≤ (22 : Int32)) = (a ≤ 22) := propext (nI_leI (b := 22) h (by decide))
theorem zltL_22 {a : Nat} (h : a < 2147483648) : ((22 : Int32) < nI a) = (22 < a) := propext (nI_ltI (a := 22) (by decide) h)
theorem zltR_22 {a : Nat} (h : a < 2147483648) : (nI a < (22 : Int32)) = (a < 22) := propext (nI_ltI (b := 22) h (by decide))
theorem zeq_22 {a : Nat} (h : a < 2147483648) : (nI a = (22 : Int32)) = (a = 22) := propext (nI_eq (b := 22) h (by decide))
theorem zxl_22 : zx (22 : Int32) = 22 := by decide
theorem zil_22 {n : Nat} (h : 22 < n) : zin (22 : Int32) n = true := by rw [zl_22, zin_nI (by decide)]; exact decide_eq_true h
theorem zl_23 : (23 : Int32) = nI 23 := rfl
theorem zmL_23 (a : Nat) : (23 : Int32) * nI a = nI (23 * a) := nI_mul 23 a
theorem zmR_23 (a : Nat) : nI a * (23 : Int32) = nI (a * 23) := nI_mul a 23
theorem zaL_23 (a : Nat) : (23 : Int32) + nI a = nI (23 + a) := nI_add 23 a
theorem zaR_23 (a : Nat) : nI a + (23 : Int32) = nI (a + 23) := nI_add a 23
theorem zleL_23 {a : Nat} (h : a < 2147483648) : ((23 : Int32) ≤ nI a) = (23 ≤ a) := propext (nI_leI (a := 23) (by decide) h)
theorem zleR_23 {a : Nat} (h : a < 2147483648) : (nI a ≤ (23 : Int32)) = (a ≤ 23) := propext (nI_leI (b := 23) h (by decide))
theorem zltL_23 {a : Nat} (h : a < 2147483648) : ((23 : Int32) < nI a) = (23 < a) := propext (nI_ltI (a := 23) (by decide) h)
theorem zltR_23 {a : Nat} (h : a < 2147483648) : (nI a < (23 : Int32)) = (a < 23) := propext (nI_ltI (b := 23) h (by decide))
theorem zeq_23 {a : Nat} (h : a < 2147483648) : (nI a = (23 : Int32)) = (a = 23) := propext (nI_eq (b := 23) h (by decide))
theorem zxl_23 : zx (23 : Int32) = 23 := by decide
theorem zil_23 {n : Nat} (h : 23 < n) : zin (23 : Int32) n = true := by rw [zl_23, zin_nI (by decide)]; exact decide_eq_true h
theorem zl_24 : (24 : Int32) = nI 24 := rfl
theorem zmL_24 (a : Nat) : (24 : Int32) * nI a = nI (24 * a) := nI_mul 24 a
theorem zmR_24 (a : Nat) : nI a * (24 : Int32) = nI (a * 24) := nI_mul a 24
theorem zaL_24 (a : Nat) : (24 : Int32) + nI a = nI (24 + a) := nI_add 24 a
theorem zaR_24 (a : Nat) : nI a + (24 : Int32) = nI (a + 24) := nI_add a 24
theorem zleL_24 {a : Nat} (h : a < 2147483648) : ((24 : Int32) ≤ nI a) = (24 ≤ a) := propext (nI_leI (a := 24) (by decide) h)
theorem zleR_24 {a : Nat} (h : a < 2147483648) : (nI a ≤ (24 : Int32)) = (a ≤ 24) := propext (nI_leI (b := 24) h (by decide))
theorem zltL_24 {a : Nat} (h : a < 2147483648) : ((24 : Int32) < nI a) = (24 < a) := propext (nI_ltI (a := 24) (by decide) h)
theorem zltR_24 {a : Nat} (h : a < 2147483648) : (nI a < (24 : Int32)) = (a < 24) := propext (nI_ltI (b := 24) h (by decide))
theorem zeq_24 {a : Nat} (h : a < 2147483648) : (nI a = (24 : Int32)) = (a = 24) := propext (nI_eq (b := 24) h (by decide))
theorem zxl_24 : zx (24 : Int32) = 24 := by decide
theorem zil_24 {n : Nat} (h : 24 < n) : zin (24 : Int32) n = true := by rw [zl_24, zin_nI (by decide)]; exact decide_eq_true h
theorem zl_25 : (25 : Int32) = nI 25 := rfl
theorem zmL_25 (a : Nat) : (25 : Int32) * nI a = nI (25 * a) := nI_mul 25 a
theorem zmR_25 (a : Nat) : nI a * (25 : Int32) = nI (a * 25) := nI_mul a 25
theorem zaL_25 (a : Nat) : (25 : Int32) + nI a = nI (25 + a) := nI_add 25 a
theorem zaR_25 (a : Nat) : nI a + (25 : Int32) = nI (a + 25) := nI_add a 25
theorem zleL_25 {a : Nat} (h : a < 2147483648) : ((25 : Int32) ≤ nI a) = (25 ≤ a) := propext (nI_leI (a := 25) (by decide) h)
theorem zleR_25 {a : Nat} (h : a < 2147483648) : (nI a ≤ (25 : Int32)) = (a ≤ 25) := propext (nI_leI (b := 25) h (by decide))
theorem zltL_25 {a : Nat} (h : a < 2147483648) : ((25 : Int32) < nI a) = (25 < a) := propext (nI_ltI (a := 25) (by decide) h)
theorem zltR_25 {a : Nat} (h : a < 2147483648) : (nI a < (25 : Int32)) = (a < 25) := propext (nI_ltI (b := 25) h (by decide))
theorem zeq_25 {a : Nat} (h : a < 2147483648) : (nI a = (25 : Int32)) = (a = 25) := propext (nI_eq (b := 25) h (by decide))
theorem zxl_25 : zx (25 : Int32) = 25 := by decide
theorem zil_25 {n : Nat} (h : 25 < n) : zin (25 : Int32) n = true := by rw [zl_25, zin_nI (by decide)]; exact decide_eq_true h
theorem zl_26 : (26 : Int32) = nI 26 := rfl
theorem zmL_26 (a : Nat) : (26 : Int32) * nI a = nI (26 * a) := nI_mul 26 a
theorem zmR_26 (a : Nat) : nI a * (26 : Int32) = nI (a * 26) := nI_mul a 26
theorem zaL_26 (a : Nat) : (26 : Int32) + nI a = nI (26 + a) := nI_add 26 a
theorem zaR_26 (a : Nat) : nI a + (26 : Int32) = nI (a + 26) := nI_add a 26
theorem zleL_26 {a : Nat} (h : a < 2147483648) : ((26 : Int32) ≤ nI a) = (26 ≤ a) := propext (nI_leI (a := 26) (by decide) h)
theorem zleR_26 {a : Nat} (h : a < 2147483648) : (nI a ≤ (26 : Int32)) = (a ≤ 26) := propext (nI_leI (b := 26) h (by decide))
theorem zltL_26 {a : Nat} (h : a < 2147483648) : ((26 : Int32) < nI a) = (26 < a) := propext (nI_ltI (a := 26) (by decide) h)
theorem zltR_26 {a : Nat} (h : a < 2147483648) : (nI a < (26 : Int32)) = (a < 26) := propext (nI_ltI (b := 26) h (by decide))
theorem zeq_26 {a : Nat} (h : a < 2147483648) : (nI a = (26 : Int32)) = (a = 26) := propext (nI_eq (b := 26) h (by decide))
theorem zxl_26 : zx (26 : Int32) = 26 := by decide
theorem zil_26 {n : Nat} (h : 26 < n) : zin (26 : Int32) n = true := by rw [zl_26, zin_nI (by decide)]; exact decide_eq_true h
theorem zl_32 : (32 : Int32) = nI 32 := rfl
theorem zmL_32 (a : Nat) : (32 : Int32) * nI a = nI (32 * a) := nI_mul 32 a
theorem zmR_32 (a : Nat) : nI a * (32 : Int32) = nI (a * 32) := nI_mul a 32
theorem zaL_32 (a : Nat) : (32 : Int32) + nI a = nI (32 + a) := nI_add 32 a
theorem zaR_32 (a : Nat) : nI a + (32 : Int32) = nI (a + 32) := nI_add a 32
theorem zleL_32 {a : Nat} (h : a < 2147483648) : ((32 : Int32) ≤ nI a) = (32 ≤ a) := propext (nI_leI (a := 32) (by decide) h)
theorem zleR_32 {a : Nat} (h : a < 2147483648) : (nI a ≤ (32 : Int32)) = (a ≤ 32) := propext (nI_leI (b := 32) h (by decide))
theorem zltL_32 {a : Nat} (h : a < 2147483648) : ((32 : Int32) < nI a) = (32 < a) := propext (nI_ltI (a := 32) (by decide) h)
theorem zltR_32 {a : Nat} (h : a < 2147483648) : (nI a < (32 : Int32)) = (a < 32) := propext (nI_ltI (b := 32) h (by decide))
theorem zeq_32 {a : Nat} (h : a < 2147483648) : (nI a = (32 : Int32)) = (a = 32) := propext (nI_eq (b := 32) h (by decide))
theorem zxl_32 : zx (32 : Int32) = 32 := by decide
theorem zil_32 {n : Nat} (h : 32 < n) : zin (32 : Int32) n = true := by rw [zl_32, zin_nI (by decide)]; exact decide_eq_true h
theorem zl_40 : (40 : Int32) = nI 40 := rfl
theorem zmL_40 (a : Nat) : (40 : Int32) * nI a = nI (40 * a) := nI_mul 40 a
theorem zmR_40 (a : Nat) : nI a * (40 : Int32) = nI (a * 40) := nI_mul a 40
theorem zaL_40 (a : Nat) : (40 : Int32) + nI a = nI (40 + a) := nI_add 40 a
theorem zaR_40 (a : Nat) : nI a + (40 : Int32) = nI (a + 40) := nI_add a 40
theorem zleL_40 {a : Nat} (h : a < 2147483648) : ((40 : Int32) ≤ nI a) = (40 ≤ a) := propext (nI_leI (a := 40) (by decide) h)
theorem zleR_40 {a : Nat} (h : a < 2147483648) : (nI a ≤ (40 : Int32)) = (a ≤ 40) := propext (nI_leI (b := 40) h (by decide))
theorem zltL_40 {a : Nat} (h : a < 2147483648) : ((40 : Int32) < nI a) = (40 < a) := propext (nI_ltI (a := 40) (by decide) h)
theorem zltR_40 {a : Nat} (h : a < 2147483648) : (nI a < (40 : Int32)) = (a < 40) := propext (nI_ltI (b := 40) h (by decide))
theorem zeq_40 {a : Nat} (h : a < 2147483648) : (nI a = (40 : Int32)) = (a = 40) := propext (nI_eq (b := 40) h (by decide))
theorem zxl_40 : zx (40 : Int32) = 40 := by decide
theorem zil_40 {n : Nat} (h : 40 < n) : zin (40 : Int32) n = true := by rw [zl_40, zin_nI (by decide)]; exact decide_eq_true h
theorem zl_49 : (49 : Int32) = nI 49 := rfl
theorem zmL_49 (a : Nat) : (49 : Int32) * nI a = nI (49 * a) := nI_mul 49 a
theorem zmR_49 (a : Nat) : nI a * (49 : Int32) = nI (a * 49) := nI_mul a 49
theorem zaL_49 (a : Nat) : (49 : Int32) + nI a = nI (49 + a) := nI_add 49 a
theorem zaR_49 (a : Nat) : nI a + (49 : Int32) = nI (a + 49) := nI_add a 49
theorem zleL_49 {a : Nat} (h : a < 2147483648) : ((49 : Int32) ≤ nI a) = (49 ≤ a) := propext (nI_leI (a := 49) (by decide) h)
theorem zleR_49 {a : Nat} (h : a < 2147483648) : (nI a ≤ (49 : Int32)) = (a ≤ 49) := propext (nI_leI (b := 49) h (by decide))
theorem zltL_49 {a : Nat} (h : a < 2147483648) : ((49 : Int32) < nI a) = (49 < a) := propext (nI_ltI (a := 49) (by decide) h)
theorem zltR_49 {a : Nat} (h : a < 2147483648) : (nI a < (49 : Int32)) = (a < 49) := propext (nI_ltI (b := 49) h (by decide))
theorem zeq_49 {a : Nat} (h : a < 2147483648) : (nI a = (49 : Int32)) = (a = 49) := propext (nI_eq (b := 49) h (by decide))
theorem zxl_49 : zx (49 : Int32) = 49 := by decide
theorem zil_49 {n : Nat} (h : 49 < n) : zin (49 : Int32) n = true := by rw [zl_49, zin_nI (by decide)]; exact decide_eq_true h
theorem zl_58 : (58 : Int32) = nI 58 := rfl
theorem zmL_58 (a : Nat) : (58 : Int32) * nI a = nI (58 * a) := nI_mul 58 a
theorem zmR_58 (a : Nat) : nI a * (58 : Int32) = nI (a * 58) := nI_mul a 58
theorem zaL_58 (a : Nat) : (58 : Int32) + nI a = nI (58 + a) := nI_add 58 a
theorem zaR_58 (a : Nat) : nI a + (58 : Int32) = nI (a + 58) := nI_add a 58
theorem zleL_58 {a : Nat} (h : a < 2147483648) : ((58 : Int32) ≤ nI a) = (58 ≤ a) := propext (nI_leI (a := 58) (by decide) h)
theorem zleR_58 {a : Nat} (h : a < 2147483648) : (nI a ≤ (58 : Int32)) = (a ≤ 58) := propext (nI_leI (b := 58) h (by decide))
theorem zltL_58 {a : Nat} (h : a < 2147483648) : ((58 : Int32) < nI a) = (58 < a) := propext (nI_ltI (a := 58) (by decide) h)
theorem zltR_58 {a : Nat} (h : a < 2147483648) : (nI a < (58 : Int32)) = (a < 58) := propext (nI_ltI (b := 58) h (by decide))
theorem zeq_58 {a : Nat} (h : a < 2147483648) : (nI a = (58 : Int32)) = (a = 58) := propext (nI_eq (b := 58) h (by decide))
theorem zxl_58 : zx (58 : Int32) = 58 := by decide
theorem zil_58 {n : Nat} (h : 58 < n) : zin (58 : Int32) n = true := by rw [zl_58, zin_nI (by decide)]; exact decide_eq_true h
theorem zl_99 : (99 : Int32) = nI 99 := rfl
theorem zmL_99 (a : Nat) : (99 : Int32) * nI a = nI (99 * a) := nI_mul 99 a
theorem zmR_99 (a : Nat) : nI a * (99 : Int32) = nI (a * 99) := nI_mul a 99
theorem zaL_99 (a : Nat) : (99 : Int32) + nI a = nI (99 + a) := nI_add 99 a
theorem zaR_99 (a : Nat) : nI a + (99 : Int32) = nI (a + 99) := nI_add a 99
theorem zleL_99 {a : Nat} (h : a < 2147483648) : ((99 : Int32) ≤ nI a) = (99 ≤ a) := propext (nI_leI (a := 99) (by decide) h)
theorem zleR_99 {a : Nat} (h : a < 2147483648) : (nI a ≤ (99 : Int32)) = (a ≤ 99) := propext (nI_leI (b := 99) h (by decide))
theorem zltL_99 {a : Nat} (h : a < 2147483648) : ((99 : Int32) < nI a) = (99 < a) := propext (nI_ltI (a := 99) (by decide) h)
theorem zltR_99 {a : Nat} (h : a < 2147483648) : (nI a < (99 : Int32)) = (a < 99) := propext (nI_ltI (b := 99) h (by decide))
theorem zeq_99 {a : Nat} (h : a < 2147483648) : (nI a = (99 : Int32)) = (a = 99) := propext (nI_eq (b := 99) h (by decide))
theorem zxl_99 : zx (99 : Int32) = 99 := by decide
theorem zil_99 {n : Nat} (h : 99 < n) : zin (99 : Int32) n = true := by rw [zl_99, zin_nI (by decide)]; exact decide_eq_true h
theorem zl_100 : (100 : Int32) = nI 100 := rfl
theorem zmL_100 (a : Nat) : (100 : Int32) * nI a = nI (100 * a) := nI_mul 100 a
theorem zmR_100 (a : Nat) : nI a * (100 : Int32) = nI (a * 100) := nI_mul a 100
theorem zaL_100 (a : Nat) : (100 : Int32) + nI a = nI (100 + a) := nI_add 100 a
theorem zaR_100 (a : Nat) : nI a + (100 : Int32) = nI (a + 100) := nI_add a 100
theorem zleL_100 {a : Nat} (h : a < 2147483648) : ((100 : Int32) ≤ nI a) = (100 ≤ a) := propext (nI_leI (a := 100) (by decide) h)
theorem zleR_100 {a : Nat} (h : a < 2147483648) : (nI a ≤ (100 : Int32)) = (a ≤ 100) := propext (nI_leI (b := 100) h (by decide))
theorem zltL_100 {a : Nat} (h : a < 2147483648) : ((100 : Int32) < nI a) = (100 < a) := propext (nI_ltI (a := 100) (by decide) h)
theorem zltR_100 {a : Nat} (h : a < 2147483648) : (nI a < (100 : Int32)) = (a < 100) := propext (nI_ltI (b := 100) h (by decide))
theorem zeq_100 {a : Nat} (h : a < 2147483648) : (nI a = (100 : Int32)) = (a = 100) := propext (nI_eq (b := 100) h (by decide))
theorem zxl_100 : zx (100 : Int32) = 100 := by decide
theorem zil_100 {n : Nat} (h : 100 < n) : zin (100 : Int32) n = true := by rw [zl_100, zin_nI (by decide)]; exact decide_eq_true h
theorem zl_107 : (107 : Int32) = nI 107 := rfl
theorem zmL_107 (a : Nat) : (107 : Int32) * nI a = nI (107 * a) := nI_mul 107 a
theorem zmR_107 (a : Nat) : nI a * (107 : Int32) = nI (a * 107) := nI_mul a 107
theorem zaL_107 (a : Nat) : (107 : Int32) + nI a = nI (107 + a) := nI_add 107 a
theorem zaR_107 (a : Nat) : nI a + (107 : Int32) = nI (a + 107) := nI_add a 107
theorem zleL_107 {a : Nat} (h : a < 2147483648) : ((107 : Int32) ≤ nI a) = (107 ≤ a) := propext (nI_leI (a := 107) (by decide) h)
theorem zleR_107 {a : Nat} (h : a < 2147483648) : (nI a ≤ (107 : Int32)) = (a ≤ 107) := propext (nI_leI (b := 107) h (by decide))
theorem zltL_107 {a : Nat} (h : a < 2147483648) : ((107 : Int32) < nI a) = (107 < a) := propext (nI_ltI (a := 107) (by decide) h)
theorem zltR_107 {a : Nat} (h : a < 2147483648) : (nI a < (107 : Int32)) = (a < 107) := propext (nI_ltI (b := 107) h (by decide))
theorem zeq_107 {a : Nat} (h : a < 2147483648) : (nI a = (107 : Int32)) = (a = 107) := propext (nI_eq (b := 107) h (by decide))
theorem zxl_107 : zx (107 : Int32) = 107 := by decide
theorem zil_107 {n : Nat} (h : 107 < n) : zin (107 : Int32) n = true := by rw [zl_107, zin_nI (by decide)]; exact decide_eq_true h
theorem zl_126 : (126 : Int32) = nI 126 := rfl
theorem zmL_126 (a : Nat) : (126 : Int32) * nI a = nI (126 * a) := nI_mul 126 a
theorem zmR_126 (a : Nat) : nI a * (126 : Int32) = nI (a * 126) := nI_mul a 126
theorem zaL_126 (a : Nat) : (126 : Int32) + nI a = nI (126 + a) := nI_add 126 a
theorem zaR_126 (a : Nat) : nI a + (126 : Int32) = nI (a + 126) := nI_add a 126
theorem zleL_126 {a : Nat} (h : a < 2147483648) : ((126 : Int32) ≤ nI a) = (126 ≤ a) := propext (nI_leI (a := 126) (by decide) h)
theorem zleR_126 {a : Nat} (h : a < 2147483648) : (nI a ≤ (126 : Int32)) = (a ≤ 126) := propext (nI_leI (b := 126) h (by decide))
theorem zltL_126 {a : Nat} (h : a < 2147483648) : ((126 : Int32) < nI a) = (126 < a) := propext (nI_ltI (a := 126) (by decide) h)
theorem zltR_126 {a : Nat} (h : a < 2147483648) : (nI a < (126 : Int32)) = (a < 126) := propext (nI_ltI (b := 126) h (by decide))
theorem zeq_126 {a : Nat} (h : a < 2147483648) : (nI a = (126 : Int32)) = (a = 126) := propext (nI_eq (b := 126) h (by decide))
theorem zxl_126 : zx (126 : Int32) = 126 := by decide
theorem zil_126 {n : Nat} (h : 126 < n) : zin (126 : Int32) n = true := by rw [zl_126, zin_nI (by decide)]; exact decide_eq_true h
theorem zl_1000 : (1000 : Int32) = nI 1000 := rfl
theorem zmL_1000 (a : Nat) : (1000 : Int32) * nI a = nI (1000 * a) := nI_mul 1000 a
theorem zmR_1000 (a : Nat) : nI a * (1000 : Int32) = nI (a * 1000) := nI_mul a 1000
theorem zaL_1000 (a : Nat) : (1000 : Int32) + nI a = nI (1000 + a) := nI_add 1000 a
theorem zaR_1000 (a : Nat) : nI a + (1000 : Int32) = nI (a + 1000) := nI_add a 1000
theorem zleL_1000 {a : Nat} (h : a < 2147483648) : ((1000 : Int32) ≤ nI a) = (1000 ≤ a) := propext (nI_leI (a := 1000) (by decide) h)
theorem zleR_1000 {a : Nat} (h : a < 2147483648) : (nI a ≤ (1000 : Int32)) = (a ≤ 1000) := propext (nI_leI (b := 1000) h (by decide))
theorem zltL_1000 {a : Nat} (h : a < 2147483648) : ((1000 : Int32) < nI a) = (1000 < a) := propext (nI_ltI (a := 1000) (by decide) h)
theorem zltR_1000 {a : Nat} (h : a < 2147483648) : (nI a < (1000 : Int32)) = (a < 1000) := propext (nI_ltI (b := 1000) h (by decide))
theorem zeq_1000 {a : Nat} (h : a < 2147483648) : (nI a = (1000 : Int32)) = (a = 1000) := propext (nI_eq (b := 1000) h (by decide))
theorem zxl_1000 : zx (1000 : Int32) = 1000 := by decide
theorem zil_1000 {n : Nat} (h : 1000 < n) : zin (1000 : Int32) n = true := by rw [zl_1000, zin_nI (by decide)]; exact decide_eq_true h
theorem zl_1605 : (1605 : Int32) = nI 1605 := rfl
theorem zmL_1605 (a : Nat) : (1605 : Int32) * nI a = nI (1605 * a) := nI_mul 1605 a
theorem zmR_1605 (a : Nat) : nI a * (1605 : Int32) = nI (a * 1605) := nI_mul a 1605
theorem zaL_1605 (a : Nat) : (1605 : Int32) + nI a = nI (1605 + a) := nI_add 1605 a
theorem zaR_1605 (a : Nat) : nI a + (1605 : Int32) = nI (a + 1605) := nI_add a 1605
theorem zleL_1605 {a : Nat} (h : a < 2147483648) : ((1605 : Int32) ≤ nI a) = (1605 ≤ a) := propext (nI_leI (a := 1605) (by decide) h)
theorem zleR_1605 {a : Nat} (h : a < 2147483648) : (nI a ≤ (1605 : Int32)) = (a ≤ 1605) := propext (nI_leI (b := 1605) h (by decide))
theorem zltL_1605 {a : Nat} (h : a < 2147483648) : ((1605 : Int32) < nI a) = (1605 < a) := propext (nI_ltI (a := 1605) (by decide) h)
theorem zltR_1605 {a : Nat} (h : a < 2147483648) : (nI a < (1605 : Int32)) = (a < 1605) := propext (nI_ltI (b := 1605) h (by decide))
theorem zeq_1605 {a : Nat} (h : a < 2147483648) : (nI a = (1605 : Int32)) = (a = 1605) := propext (nI_eq (b := 1605) h (by decide))
theorem zxl_1605 : zx (1605 : Int32) = 1605 := by decide
theorem zil_1605 {n : Nat} (h : 1605 < n) : zin (1605 : Int32) n = true := by rw [zl_1605, zin_nI (by decide)]; exact decide_eq_true h
/-- none, or somebody -/
def zo (s : Option Nat) : Int32 := match s with
  | none => -1
  | some q => nI q
theorem zo_none : zo none = -1 := rfl
theorem zo_some (q : Nat) : zo (some q) = nI q := rfl
def zfold {σ : Type} (f : Nat → σ → σ) : Nat → Nat → σ → σ
  | _, 0, s => s
  | i, k + 1, s => zfold f (i + 1) k (f i s)
theorem zloop {σ R : Type} {L : Nat → Int32 → σ → Option R} {N : Nat} {f : Nat → σ → σ} {fin : σ → Option R} (P : Nat → σ → Prop)
    (hs : ∀ n i s, i < N → P i s → L (n + 1) (nI i) s = L n (nI (i + 1)) (f i s)) (hp : ∀ i s, i < N → P i s → P (i + 1) (f i s)) (he : ∀ n s, P N s → L (n + 1) (nI N) s = fin s) :
    ∀ k i s n, i + k = N → k < n → P i s → L n (nI i) s = fin (zfold f i k s) := by
  intro k
  induction k with
  | zero =>
    intro i s n hi hn hP
    obtain ⟨n, rfl⟩ : ∃ m, n = m + 1 := ⟨n - 1, by omega⟩
    have : i = N := by omega
    subst this
    exact he n s hP
  | succ k ih =>
    intro i s n hi hn hP
    obtain ⟨n, rfl⟩ : ∃ m, n = m + 1 := ⟨n - 1, by omega⟩
    rw [hs n i s (by omega) hP, ih (i + 1) (f i s) n (by omega) (by omega) (hp i s (by omega) hP)]
    rfl
theorem zfold_inv {σ : Type} {f : Nat → σ → σ} {N : Nat} (P : Nat → σ → Prop) (hp : ∀ i s, i < N → P i s → P (i + 1) (f i s)) : ∀ k i s, i + k = N → P i s → P N (zfold f i k s) := by
  intro k
  induction k with
  | zero => intro i s hi hP; have : i = N := by omega
            subst this; exact hP
  | succ k ih => intro i s hi hP; exact ih (i + 1) (f i s) (by omega) (hp i s (by omega) hP)
theorem zfold_cong {σ : Type} {f g : Nat → σ → σ} {N : Nat} (P : Nat → σ → Prop) (hp : ∀ i s, i < N → P i s → P (i + 1) (f i s)) (h : ∀ i s, i < N → P i s → f i s = g i s) : ∀ k i s, i + k = N → P i s → zfold f i k s = zfold g i k s := by
  intro k
  induction k with
  | zero => intro i s hi hP; rfl
  | succ k ih =>
    intro i s hi hP
    show zfold f (i + 1) k (f i s) = zfold g (i + 1) k (g i s)
    rw [ih (i + 1) (f i s) (by omega) (hp i s (by omega) hP), h i s (by omega) hP]
/-- a sum -/
def zsum (f : Nat → Nat) : Nat → Nat
  | 0 => 0
  | n + 1 => zsum f n + f n
theorem zfold_sum (f : Nat → Nat) : ∀ k i a, zfold (fun j s => s + f j) i k a + zsum f i = a + zsum f (i + k) := by
  intro k
  induction k with
  | zero => intro i a; rfl
  | succ k ih =>
    intro i a
    show zfold _ (i + 1) k (a + f i) + zsum f i = _
    have h1 := ih (i + 1) (a + f i)
    simp only [zsum] at h1
    have e : i + 1 + k = i + (k + 1) := by omega
    rw [e] at h1
    omega
theorem zfold_sum0 (f : Nat → Nat) (n a : Nat) : zfold (fun j s => s + f j) 0 n a = a + zsum f n := by
  have h := zfold_sum f n 0 a
  simp only [zsum, Nat.zero_add, Nat.add_zero] at h
  exact h
theorem zsum_le {f : Nat → Nat} {b : Nat} : ∀ {n : Nat}, (∀ i, i < n → f i ≤ b) → zsum f n ≤ n * b := by
  intro n
  induction n with
  | zero => intro _; simp [zsum]
  | succ n ih =>
    intro h
    have h1 := ih (fun i hi => h i (by omega))
    have h2 := h n (by omega)
    simp only [zsum]
    rw [Nat.succ_mul]
    omega
theorem zsum_cong {f g : Nat → Nat} : ∀ {n : Nat}, (∀ i, i < n → f i = g i) → zsum f n = zsum g n := by
  intro n
  induction n with
  | zero => intro _; rfl
  | succ n ih => intro h; simp only [zsum]; rw [ih (fun i hi => h i (by omega)), h n (by omega)]
theorem zsum_one {f : Nat → Nat} : ∀ {n : Nat} (i : Nat), i < n → f i ≤ zsum f n := by
  intro n
  induction n with
  | zero => intro i hi; omega
  | succ n ih =>
    intro i hi
    simp only [zsum]
    by_cases h : i = n
    · subst h; omega
    · have := ih i (by omega); omega
theorem nI_sub {a b : Nat} (ha : a < 1073741824) (hb : b < 1073741824) : (nI a - nI b).toInt = (a : Int) - b := by
  rw [Int32.toInt_sub, nI_toInt (by omega), nI_toInt (by omega)]
  exact Int.bmod_eq_of_le (by omega) (by omega)
theorem zsub99 : ∀ a, a ≤ 99 → ∀ b, b ≤ 99 → ((nI a - nI b = 0) = (a = b)) ∧ ((nI a - nI b ≤ 0) = (a ≤ b)) ∧ ((0 ≤ nI a - nI b) = (b ≤ a)) := by
  intro a ha b hb
  have h := nI_sub (a := a) (b := b) (by omega) (by omega)
  have h0 : (0 : Int32).toInt = 0 := by decide
  refine ⟨propext ?_, propext ?_, propext ?_⟩
  · rw [← Int32.toInt_inj, h, h0]; omega
  · rw [Int32.le_iff_toInt_le, h, h0]; omega
  · rw [Int32.le_iff_toInt_le, h, h0]; omega
