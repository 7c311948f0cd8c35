/-! the object graph behind the constructors, by numbers: what each is (a class by its place in vwCl; 20 ints, 21 longs, 22 booleans, 23 chars, 24 Standings, 25 Moments; a length), what it refers to -/
def zN : Nat := 178
def zTl : List (Nat × Nat) := [(10, 0), (7, 0), (23, 1000), (4, 0), (21, 7), (20, 7), (20, 7), (20, 7), (20, 7), (20, 49), (1, 0), (20, 1000), (20, 32), (5, 0), (4, 0), (21, 7), (20, 7), (20, 7), (20, 7), (20, 7), (20, 49), (1, 0), (20, 1000), (20, 32), (0, 0), (20, 32), (9, 0), (8, 0), (20, 40), (6, 0), (20, 49), (20, 49), (20, 7), (6, 0), (20, 49), (20, 49), (20, 7), (2, 0), (8, 0), (20, 40), (6, 0), (20, 49), (20, 49), (20, 7), (25, 4), (2, 0), (8, 0), (20, 40), (6, 0), (20, 49), (20, 49), (20, 7), (2, 0), (8, 0), (20, 40), (6, 0), (20, 49), (20, 49), (20, 7), (2, 0), (8, 0), (20, 40), (6, 0), (20, 49), (20, 49), (20, 7), (2, 0), (8, 0), (20, 40), (6, 0), (20, 49), (20, 49), (20, 7), (3, 0), (24, 16), (6, 0), (20, 49), (20, 49), (20, 7), (6, 0), (20, 49), (20, 49), (20, 7), (6, 0), (20, 49), (20, 49), (20, 7), (6, 0), (20, 49), (20, 49), (20, 7), (6, 0), (20, 49), (20, 49), (20, 7), (6, 0), (20, 49), (20, 49), (20, 7), (6, 0), (20, 49), (20, 49), (20, 7), (6, 0), (20, 49), (20, 49), (20, 7), (6, 0), (20, 49), (20, 49), (20, 7), (6, 0), (20, 49), (20, 49), (20, 7), (6, 0), (20, 49), (20, 49), (20, 7), (6, 0), (20, 49), (20, 49), (20, 7), (6, 0), (20, 49), (20, 49), (20, 7), (6, 0), (20, 49), (20, 49), (20, 7), (6, 0), (20, 49), (20, 49), (20, 7), (6, 0), (20, 49), (20, 49), (20, 7), (11, 0), (20, 1000), (20, 8), (21, 14), (20, 14), (20, 14), (20, 14), (20, 14), (20, 98), (22, 49), (20, 4), (20, 4), (20, 2000), (20, 7), (22, 7), (20, 7), (20, 7), (20, 7), (20, 7), (20, 7), (20, 7), (20, 7), (20, 7), (20, 7), (20, 20), (20, 6), (20, 240), (20, 240), (20, 240), (20, 5), (20, 40), (22, 40), (20, 107), (20, 107), (20, 428), (20, 1712), (22, 4), (20, 7), (21, 1)]
def zRl : List (List Nat) := [[1, 3, 13, 26, 29, 33, 37, 44, 73], [2], [], [4, 5, 6, 7, 8, 9, 10], [], [], [], [], [], [], [11, 12], [], [], [1, 14, 0, 0, 24], [15, 16, 17, 18, 19, 20, 21], [], [], [], [], [], [], [22, 23], [], [], [1, 21, 25], [], [1, 3, 0, 0, 27], [28], [], [3, 30, 31, 32], [], [], [], [3, 34, 35, 36], [], [], [], [40, 38], [39], [], [3, 41, 42, 43], [], [], [], [45, 52, 59, 66], [48, 46], [47], [], [3, 49, 50, 51], [], [], [], [55, 53], [54], [], [3, 56, 57, 58], [], [], [], [62, 60], [61], [], [3, 63, 64, 65], [], [], [], [69, 67], [68], [], [3, 70, 71, 72], [], [], [], [74], [75, 79, 83, 87, 91, 95, 99, 103, 107, 111, 115, 119, 123, 127, 131, 135], [3, 76, 77, 78], [], [], [], [3, 80, 81, 82], [], [], [], [3, 84, 85, 86], [], [], [], [3, 88, 89, 90], [], [], [], [3, 92, 93, 94], [], [], [], [3, 96, 97, 98], [], [], [], [3, 100, 101, 102], [], [], [], [3, 104, 105, 106], [], [], [], [3, 108, 109, 110], [], [], [], [3, 112, 113, 114], [], [], [], [3, 116, 117, 118], [], [], [], [3, 120, 121, 122], [], [], [], [3, 124, 125, 126], [], [], [], [3, 128, 129, 130], [], [], [], [3, 132, 133, 134], [], [], [], [3, 136, 137, 138], [], [], [], [0, 0, 140, 0, 0, 0, 0, 0, 0, 0, 141, 142, 143, 144, 145, 146, 147, 148, 149, 150, 151, 0, 0, 152, 153, 154, 155, 156, 157, 158, 159, 160, 161, 162, 163, 0, 0, 164, 165, 166, 167, 168, 169, 170, 171, 172, 173, 174, 175, 0, 176], [], [], [], [], [], [], [], [], [], [], [], [], [], [], [], [], [], [], [], [], [], [], [], [], [], [], [], [], [], [], [], [], [], [], [], [], [], []]
def zT (t : Nat) : Nat × Nat := zTl.getD t (99, 0)
def zR (t j : Nat) : Nat := (zRl.getD t []).getD j 0
/-- the kinds of a class's fields: 0 an int, 1 a long, 2 a reference -/
def zF (k : Nat) : List Nat := match k with
  | 0 => [2, 2, 2, 0, 0, 0, 0]
  | 1 => [2, 2, 0, 0, 0, 0, 0, 0, 0, 0, 0, 0]
  | 2 => [2, 2, 0, 0, 0]
  | 3 => [2, 0, 0]
  | 4 => [2, 2, 2, 2, 2, 2, 2, 0, 0, 0, 0]
  | 5 => [2, 2, 0, 0, 2, 0]
  | 6 => [2, 2, 2, 2, 0, 0]
  | 7 => [2, 0, 0, 0, 0, 0]
  | 8 => [2, 0]
  | 9 => [2, 2, 0, 0, 2]
  | 10 => [2, 2, 2, 2, 2, 2, 2, 2, 2, 1]
  | 11 => [0, 0, 2, 0, 0, 0, 0, 1, 0, 0, 2, 2, 2, 2, 2, 2, 2, 2, 2, 2, 2, 0, 0, 2, 2, 2, 2, 2, 2, 2, 2, 2, 2, 2, 2, 0, 0, 2, 2, 2, 2, 2, 2, 2, 2, 2, 2, 2, 2, 0, 2, 1]
  | _ => []
theorem zT_lt {t : Nat} {q : Nat × Nat} (h : zT t = q) (hq : q.1 ≠ 99) : t < zN := by
  rcases Nat.lt_or_ge t zN with h1 | h1
  · exact h1
  · exact absurd (by rw [← h]; unfold zT; rw [List.getD_eq_getElem?_getD, List.getElem?_eq_none (Nat.le_trans (by decide +kernel) h1)]; rfl) hq
theorem z_all {P : Nat → Prop} [DecidablePred P] (h : (List.range zN).all (fun t => decide (P t)) = true) (t : Nat) (ht : t < zN) : P t := of_decide_eq_true (List.all_eq_true.mp h t (List.mem_range.mpr ht))
theorem zt_0_0 {t : Nat} (h : zT t = (0, 0)) : zT (zR t 0) = (7, 0) := z_all (P := fun t => zT t = (0, 0) → zT (zR t 0) = (7, 0)) (by decide +kernel) t (zT_lt h (by decide)) h
theorem zt_0_1 {t : Nat} (h : zT t = (0, 0)) : zT (zR t 1) = (1, 0) := z_all (P := fun t => zT t = (0, 0) → zT (zR t 1) = (1, 0)) (by decide +kernel) t (zT_lt h (by decide)) h
theorem zt_0_2 {t : Nat} (h : zT t = (0, 0)) : zT (zR t 2) = (20, 32) := z_all (P := fun t => zT t = (0, 0) → zT (zR t 2) = (20, 32)) (by decide +kernel) t (zT_lt h (by decide)) h
theorem zt_1_0 {t : Nat} (h : zT t = (1, 0)) : zT (zR t 0) = (20, 1000) := z_all (P := fun t => zT t = (1, 0) → zT (zR t 0) = (20, 1000)) (by decide +kernel) t (zT_lt h (by decide)) h
theorem zt_1_1 {t : Nat} (h : zT t = (1, 0)) : zT (zR t 1) = (20, 32) := z_all (P := fun t => zT t = (1, 0) → zT (zR t 1) = (20, 32)) (by decide +kernel) t (zT_lt h (by decide)) h
theorem zt_2_0 {t : Nat} (h : zT t = (2, 0)) : zT (zR t 0) = (6, 0) := z_all (P := fun t => zT t = (2, 0) → zT (zR t 0) = (6, 0)) (by decide +kernel) t (zT_lt h (by decide)) h
theorem zt_2_1 {t : Nat} (h : zT t = (2, 0)) : zT (zR t 1) = (8, 0) := z_all (P := fun t => zT t = (2, 0) → zT (zR t 1) = (8, 0)) (by decide +kernel) t (zT_lt h (by decide)) h
theorem zt_3_0 {t : Nat} (h : zT t = (3, 0)) : zT (zR t 0) = (24, 16) := z_all (P := fun t => zT t = (3, 0) → zT (zR t 0) = (24, 16)) (by decide +kernel) t (zT_lt h (by decide)) h
theorem zt_4_0 {t : Nat} (h : zT t = (4, 0)) : zT (zR t 0) = (21, 7) := z_all (P := fun t => zT t = (4, 0) → zT (zR t 0) = (21, 7)) (by decide +kernel) t (zT_lt h (by decide)) h
theorem zt_4_1 {t : Nat} (h : zT t = (4, 0)) : zT (zR t 1) = (20, 7) := z_all (P := fun t => zT t = (4, 0) → zT (zR t 1) = (20, 7)) (by decide +kernel) t (zT_lt h (by decide)) h
theorem zt_4_2 {t : Nat} (h : zT t = (4, 0)) : zT (zR t 2) = (20, 7) := z_all (P := fun t => zT t = (4, 0) → zT (zR t 2) = (20, 7)) (by decide +kernel) t (zT_lt h (by decide)) h
theorem zt_4_3 {t : Nat} (h : zT t = (4, 0)) : zT (zR t 3) = (20, 7) := z_all (P := fun t => zT t = (4, 0) → zT (zR t 3) = (20, 7)) (by decide +kernel) t (zT_lt h (by decide)) h
theorem zt_4_4 {t : Nat} (h : zT t = (4, 0)) : zT (zR t 4) = (20, 7) := z_all (P := fun t => zT t = (4, 0) → zT (zR t 4) = (20, 7)) (by decide +kernel) t (zT_lt h (by decide)) h
theorem zt_4_5 {t : Nat} (h : zT t = (4, 0)) : zT (zR t 5) = (20, 49) := z_all (P := fun t => zT t = (4, 0) → zT (zR t 5) = (20, 49)) (by decide +kernel) t (zT_lt h (by decide)) h
theorem zt_4_6 {t : Nat} (h : zT t = (4, 0)) : zT (zR t 6) = (1, 0) := z_all (P := fun t => zT t = (4, 0) → zT (zR t 6) = (1, 0)) (by decide +kernel) t (zT_lt h (by decide)) h
theorem zt_5_0 {t : Nat} (h : zT t = (5, 0)) : zT (zR t 0) = (7, 0) := z_all (P := fun t => zT t = (5, 0) → zT (zR t 0) = (7, 0)) (by decide +kernel) t (zT_lt h (by decide)) h
theorem zt_5_1 {t : Nat} (h : zT t = (5, 0)) : zT (zR t 1) = (4, 0) := z_all (P := fun t => zT t = (5, 0) → zT (zR t 1) = (4, 0)) (by decide +kernel) t (zT_lt h (by decide)) h
theorem zt_5_4 {t : Nat} (h : zT t = (5, 0)) : zT (zR t 4) = (0, 0) := z_all (P := fun t => zT t = (5, 0) → zT (zR t 4) = (0, 0)) (by decide +kernel) t (zT_lt h (by decide)) h
theorem zt_6_0 {t : Nat} (h : zT t = (6, 0)) : zT (zR t 0) = (4, 0) := z_all (P := fun t => zT t = (6, 0) → zT (zR t 0) = (4, 0)) (by decide +kernel) t (zT_lt h (by decide)) h
theorem zt_6_1 {t : Nat} (h : zT t = (6, 0)) : zT (zR t 1) = (20, 49) := z_all (P := fun t => zT t = (6, 0) → zT (zR t 1) = (20, 49)) (by decide +kernel) t (zT_lt h (by decide)) h
theorem zt_6_2 {t : Nat} (h : zT t = (6, 0)) : zT (zR t 2) = (20, 49) := z_all (P := fun t => zT t = (6, 0) → zT (zR t 2) = (20, 49)) (by decide +kernel) t (zT_lt h (by decide)) h
theorem zt_6_3 {t : Nat} (h : zT t = (6, 0)) : zT (zR t 3) = (20, 7) := z_all (P := fun t => zT t = (6, 0) → zT (zR t 3) = (20, 7)) (by decide +kernel) t (zT_lt h (by decide)) h
theorem zt_7_0 {t : Nat} (h : zT t = (7, 0)) : zT (zR t 0) = (23, 1000) := z_all (P := fun t => zT t = (7, 0) → zT (zR t 0) = (23, 1000)) (by decide +kernel) t (zT_lt h (by decide)) h
theorem zt_8_0 {t : Nat} (h : zT t = (8, 0)) : zT (zR t 0) = (20, 40) := z_all (P := fun t => zT t = (8, 0) → zT (zR t 0) = (20, 40)) (by decide +kernel) t (zT_lt h (by decide)) h
theorem zt_9_0 {t : Nat} (h : zT t = (9, 0)) : zT (zR t 0) = (7, 0) := z_all (P := fun t => zT t = (9, 0) → zT (zR t 0) = (7, 0)) (by decide +kernel) t (zT_lt h (by decide)) h
theorem zt_9_1 {t : Nat} (h : zT t = (9, 0)) : zT (zR t 1) = (4, 0) := z_all (P := fun t => zT t = (9, 0) → zT (zR t 1) = (4, 0)) (by decide +kernel) t (zT_lt h (by decide)) h
theorem zt_9_4 {t : Nat} (h : zT t = (9, 0)) : zT (zR t 4) = (8, 0) := z_all (P := fun t => zT t = (9, 0) → zT (zR t 4) = (8, 0)) (by decide +kernel) t (zT_lt h (by decide)) h
theorem zt_10_0 {t : Nat} (h : zT t = (10, 0)) : zT (zR t 0) = (7, 0) := z_all (P := fun t => zT t = (10, 0) → zT (zR t 0) = (7, 0)) (by decide +kernel) t (zT_lt h (by decide)) h
theorem zt_10_1 {t : Nat} (h : zT t = (10, 0)) : zT (zR t 1) = (4, 0) := z_all (P := fun t => zT t = (10, 0) → zT (zR t 1) = (4, 0)) (by decide +kernel) t (zT_lt h (by decide)) h
theorem zt_10_2 {t : Nat} (h : zT t = (10, 0)) : zT (zR t 2) = (5, 0) := z_all (P := fun t => zT t = (10, 0) → zT (zR t 2) = (5, 0)) (by decide +kernel) t (zT_lt h (by decide)) h
theorem zt_10_3 {t : Nat} (h : zT t = (10, 0)) : zT (zR t 3) = (9, 0) := z_all (P := fun t => zT t = (10, 0) → zT (zR t 3) = (9, 0)) (by decide +kernel) t (zT_lt h (by decide)) h
theorem zt_10_4 {t : Nat} (h : zT t = (10, 0)) : zT (zR t 4) = (6, 0) := z_all (P := fun t => zT t = (10, 0) → zT (zR t 4) = (6, 0)) (by decide +kernel) t (zT_lt h (by decide)) h
theorem zt_10_5 {t : Nat} (h : zT t = (10, 0)) : zT (zR t 5) = (6, 0) := z_all (P := fun t => zT t = (10, 0) → zT (zR t 5) = (6, 0)) (by decide +kernel) t (zT_lt h (by decide)) h
theorem zt_10_6 {t : Nat} (h : zT t = (10, 0)) : zT (zR t 6) = (2, 0) := z_all (P := fun t => zT t = (10, 0) → zT (zR t 6) = (2, 0)) (by decide +kernel) t (zT_lt h (by decide)) h
theorem zt_10_7 {t : Nat} (h : zT t = (10, 0)) : zT (zR t 7) = (25, 4) := z_all (P := fun t => zT t = (10, 0) → zT (zR t 7) = (25, 4)) (by decide +kernel) t (zT_lt h (by decide)) h
theorem zt_10_8 {t : Nat} (h : zT t = (10, 0)) : zT (zR t 8) = (3, 0) := z_all (P := fun t => zT t = (10, 0) → zT (zR t 8) = (3, 0)) (by decide +kernel) t (zT_lt h (by decide)) h
theorem zt_11_2 {t : Nat} (h : zT t = (11, 0)) : zT (zR t 2) = (20, 1000) := z_all (P := fun t => zT t = (11, 0) → zT (zR t 2) = (20, 1000)) (by decide +kernel) t (zT_lt h (by decide)) h
theorem zt_11_10 {t : Nat} (h : zT t = (11, 0)) : zT (zR t 10) = (20, 8) := z_all (P := fun t => zT t = (11, 0) → zT (zR t 10) = (20, 8)) (by decide +kernel) t (zT_lt h (by decide)) h
theorem zt_11_11 {t : Nat} (h : zT t = (11, 0)) : zT (zR t 11) = (21, 14) := z_all (P := fun t => zT t = (11, 0) → zT (zR t 11) = (21, 14)) (by decide +kernel) t (zT_lt h (by decide)) h
theorem zt_11_12 {t : Nat} (h : zT t = (11, 0)) : zT (zR t 12) = (20, 14) := z_all (P := fun t => zT t = (11, 0) → zT (zR t 12) = (20, 14)) (by decide +kernel) t (zT_lt h (by decide)) h
theorem zt_11_13 {t : Nat} (h : zT t = (11, 0)) : zT (zR t 13) = (20, 14) := z_all (P := fun t => zT t = (11, 0) → zT (zR t 13) = (20, 14)) (by decide +kernel) t (zT_lt h (by decide)) h
theorem zt_11_14 {t : Nat} (h : zT t = (11, 0)) : zT (zR t 14) = (20, 14) := z_all (P := fun t => zT t = (11, 0) → zT (zR t 14) = (20, 14)) (by decide +kernel) t (zT_lt h (by decide)) h
theorem zt_11_15 {t : Nat} (h : zT t = (11, 0)) : zT (zR t 15) = (20, 14) := z_all (P := fun t => zT t = (11, 0) → zT (zR t 15) = (20, 14)) (by decide +kernel) t (zT_lt h (by decide)) h
theorem zt_11_16 {t : Nat} (h : zT t = (11, 0)) : zT (zR t 16) = (20, 98) := z_all (P := fun t => zT t = (11, 0) → zT (zR t 16) = (20, 98)) (by decide +kernel) t (zT_lt h (by decide)) h
theorem zt_11_17 {t : Nat} (h : zT t = (11, 0)) : zT (zR t 17) = (22, 49) := z_all (P := fun t => zT t = (11, 0) → zT (zR t 17) = (22, 49)) (by decide +kernel) t (zT_lt h (by decide)) h
theorem zt_11_18 {t : Nat} (h : zT t = (11, 0)) : zT (zR t 18) = (20, 4) := z_all (P := fun t => zT t = (11, 0) → zT (zR t 18) = (20, 4)) (by decide +kernel) t (zT_lt h (by decide)) h
theorem zt_11_19 {t : Nat} (h : zT t = (11, 0)) : zT (zR t 19) = (20, 4) := z_all (P := fun t => zT t = (11, 0) → zT (zR t 19) = (20, 4)) (by decide +kernel) t (zT_lt h (by decide)) h
theorem zt_11_20 {t : Nat} (h : zT t = (11, 0)) : zT (zR t 20) = (20, 2000) := z_all (P := fun t => zT t = (11, 0) → zT (zR t 20) = (20, 2000)) (by decide +kernel) t (zT_lt h (by decide)) h
theorem zt_11_23 {t : Nat} (h : zT t = (11, 0)) : zT (zR t 23) = (20, 7) := z_all (P := fun t => zT t = (11, 0) → zT (zR t 23) = (20, 7)) (by decide +kernel) t (zT_lt h (by decide)) h
theorem zt_11_24 {t : Nat} (h : zT t = (11, 0)) : zT (zR t 24) = (22, 7) := z_all (P := fun t => zT t = (11, 0) → zT (zR t 24) = (22, 7)) (by decide +kernel) t (zT_lt h (by decide)) h
theorem zt_11_25 {t : Nat} (h : zT t = (11, 0)) : zT (zR t 25) = (20, 7) := z_all (P := fun t => zT t = (11, 0) → zT (zR t 25) = (20, 7)) (by decide +kernel) t (zT_lt h (by decide)) h
theorem zt_11_26 {t : Nat} (h : zT t = (11, 0)) : zT (zR t 26) = (20, 7) := z_all (P := fun t => zT t = (11, 0) → zT (zR t 26) = (20, 7)) (by decide +kernel) t (zT_lt h (by decide)) h
theorem zt_11_27 {t : Nat} (h : zT t = (11, 0)) : zT (zR t 27) = (20, 7) := z_all (P := fun t => zT t = (11, 0) → zT (zR t 27) = (20, 7)) (by decide +kernel) t (zT_lt h (by decide)) h
theorem zt_11_28 {t : Nat} (h : zT t = (11, 0)) : zT (zR t 28) = (20, 7) := z_all (P := fun t => zT t = (11, 0) → zT (zR t 28) = (20, 7)) (by decide +kernel) t (zT_lt h (by decide)) h
theorem zt_11_29 {t : Nat} (h : zT t = (11, 0)) : zT (zR t 29) = (20, 7) := z_all (P := fun t => zT t = (11, 0) → zT (zR t 29) = (20, 7)) (by decide +kernel) t (zT_lt h (by decide)) h
theorem zt_11_30 {t : Nat} (h : zT t = (11, 0)) : zT (zR t 30) = (20, 7) := z_all (P := fun t => zT t = (11, 0) → zT (zR t 30) = (20, 7)) (by decide +kernel) t (zT_lt h (by decide)) h
theorem zt_11_31 {t : Nat} (h : zT t = (11, 0)) : zT (zR t 31) = (20, 7) := z_all (P := fun t => zT t = (11, 0) → zT (zR t 31) = (20, 7)) (by decide +kernel) t (zT_lt h (by decide)) h
theorem zt_11_32 {t : Nat} (h : zT t = (11, 0)) : zT (zR t 32) = (20, 7) := z_all (P := fun t => zT t = (11, 0) → zT (zR t 32) = (20, 7)) (by decide +kernel) t (zT_lt h (by decide)) h
theorem zt_11_33 {t : Nat} (h : zT t = (11, 0)) : zT (zR t 33) = (20, 7) := z_all (P := fun t => zT t = (11, 0) → zT (zR t 33) = (20, 7)) (by decide +kernel) t (zT_lt h (by decide)) h
theorem zt_11_34 {t : Nat} (h : zT t = (11, 0)) : zT (zR t 34) = (20, 20) := z_all (P := fun t => zT t = (11, 0) → zT (zR t 34) = (20, 20)) (by decide +kernel) t (zT_lt h (by decide)) h
theorem zt_11_37 {t : Nat} (h : zT t = (11, 0)) : zT (zR t 37) = (20, 6) := z_all (P := fun t => zT t = (11, 0) → zT (zR t 37) = (20, 6)) (by decide +kernel) t (zT_lt h (by decide)) h
theorem zt_11_38 {t : Nat} (h : zT t = (11, 0)) : zT (zR t 38) = (20, 240) := z_all (P := fun t => zT t = (11, 0) → zT (zR t 38) = (20, 240)) (by decide +kernel) t (zT_lt h (by decide)) h
theorem zt_11_39 {t : Nat} (h : zT t = (11, 0)) : zT (zR t 39) = (20, 240) := z_all (P := fun t => zT t = (11, 0) → zT (zR t 39) = (20, 240)) (by decide +kernel) t (zT_lt h (by decide)) h
theorem zt_11_40 {t : Nat} (h : zT t = (11, 0)) : zT (zR t 40) = (20, 240) := z_all (P := fun t => zT t = (11, 0) → zT (zR t 40) = (20, 240)) (by decide +kernel) t (zT_lt h (by decide)) h
theorem zt_11_41 {t : Nat} (h : zT t = (11, 0)) : zT (zR t 41) = (20, 5) := z_all (P := fun t => zT t = (11, 0) → zT (zR t 41) = (20, 5)) (by decide +kernel) t (zT_lt h (by decide)) h
theorem zt_11_42 {t : Nat} (h : zT t = (11, 0)) : zT (zR t 42) = (20, 40) := z_all (P := fun t => zT t = (11, 0) → zT (zR t 42) = (20, 40)) (by decide +kernel) t (zT_lt h (by decide)) h
theorem zt_11_43 {t : Nat} (h : zT t = (11, 0)) : zT (zR t 43) = (22, 40) := z_all (P := fun t => zT t = (11, 0) → zT (zR t 43) = (22, 40)) (by decide +kernel) t (zT_lt h (by decide)) h
theorem zt_11_44 {t : Nat} (h : zT t = (11, 0)) : zT (zR t 44) = (20, 107) := z_all (P := fun t => zT t = (11, 0) → zT (zR t 44) = (20, 107)) (by decide +kernel) t (zT_lt h (by decide)) h
theorem zt_11_45 {t : Nat} (h : zT t = (11, 0)) : zT (zR t 45) = (20, 107) := z_all (P := fun t => zT t = (11, 0) → zT (zR t 45) = (20, 107)) (by decide +kernel) t (zT_lt h (by decide)) h
theorem zt_11_46 {t : Nat} (h : zT t = (11, 0)) : zT (zR t 46) = (20, 428) := z_all (P := fun t => zT t = (11, 0) → zT (zR t 46) = (20, 428)) (by decide +kernel) t (zT_lt h (by decide)) h
theorem zt_11_47 {t : Nat} (h : zT t = (11, 0)) : zT (zR t 47) = (20, 1712) := z_all (P := fun t => zT t = (11, 0) → zT (zR t 47) = (20, 1712)) (by decide +kernel) t (zT_lt h (by decide)) h
theorem zt_11_48 {t : Nat} (h : zT t = (11, 0)) : zT (zR t 48) = (22, 4) := z_all (P := fun t => zT t = (11, 0) → zT (zR t 48) = (22, 4)) (by decide +kernel) t (zT_lt h (by decide)) h
theorem zt_11_50 {t : Nat} (h : zT t = (11, 0)) : zT (zR t 50) = (20, 7) := z_all (P := fun t => zT t = (11, 0) → zT (zR t 50) = (20, 7)) (by decide +kernel) t (zT_lt h (by decide)) h
theorem zt_24 {t i : Nat} (h : zT t = (24, 16)) (hi : i < 16) : zT (zR t i) = (6, 0) := z_all (P := fun t => zT t = (24, 16) → ∀ i < 16, zT (zR t i) = (6, 0)) (by decide +kernel) t (zT_lt h (by decide)) h i hi
theorem zt_25 {t i : Nat} (h : zT t = (25, 4)) (hi : i < 4) : zT (zR t i) = (2, 0) := z_all (P := fun t => zT t = (25, 4) → ∀ i < 4, zT (zR t i) = (2, 0)) (by decide +kernel) t (zT_lt h (by decide)) h i hi
