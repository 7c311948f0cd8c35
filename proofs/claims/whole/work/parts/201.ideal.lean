/-! the republic and how it is, as numbers; what class and reference hold of them -/
theorem zr_0_0 : zR 0 0 = 1 := by decide +kernel
theorem zr_0_1 : zR 0 1 = 3 := by decide +kernel
theorem zr_0_2 : zR 0 2 = 13 := by decide +kernel
theorem zr_0_3 : zR 0 3 = 26 := by decide +kernel
theorem zr_0_4 : zR 0 4 = 29 := by decide +kernel
theorem zr_0_5 : zR 0 5 = 33 := by decide +kernel
theorem zr_0_6 : zR 0 6 = 37 := by decide +kernel
theorem zr_0_7 : zR 0 7 = 44 := by decide +kernel
theorem zr_0_8 : zR 0 8 = 73 := by decide +kernel
theorem zr_1_0 : zR 1 0 = 2 := by decide +kernel
theorem zr_3_0 : zR 3 0 = 4 := by decide +kernel
theorem zr_3_1 : zR 3 1 = 5 := by decide +kernel
theorem zr_3_2 : zR 3 2 = 6 := by decide +kernel
theorem zr_3_3 : zR 3 3 = 7 := by decide +kernel
theorem zr_3_4 : zR 3 4 = 8 := by decide +kernel
theorem zr_3_5 : zR 3 5 = 9 := by decide +kernel
theorem zr_3_6 : zR 3 6 = 10 := by decide +kernel
theorem zr_10_0 : zR 10 0 = 11 := by decide +kernel
theorem zr_10_1 : zR 10 1 = 12 := by decide +kernel
theorem zr_13_0 : zR 13 0 = 1 := by decide +kernel
theorem zr_13_1 : zR 13 1 = 14 := by decide +kernel
theorem zr_13_4 : zR 13 4 = 24 := by decide +kernel
theorem zr_14_0 : zR 14 0 = 15 := by decide +kernel
theorem zr_14_1 : zR 14 1 = 16 := by decide +kernel
theorem zr_14_2 : zR 14 2 = 17 := by decide +kernel
theorem zr_14_3 : zR 14 3 = 18 := by decide +kernel
theorem zr_14_4 : zR 14 4 = 19 := by decide +kernel
theorem zr_14_5 : zR 14 5 = 20 := by decide +kernel
theorem zr_14_6 : zR 14 6 = 21 := by decide +kernel
theorem zr_21_0 : zR 21 0 = 22 := by decide +kernel
theorem zr_21_1 : zR 21 1 = 23 := by decide +kernel
theorem zr_24_0 : zR 24 0 = 1 := by decide +kernel
theorem zr_24_1 : zR 24 1 = 21 := by decide +kernel
theorem zr_24_2 : zR 24 2 = 25 := by decide +kernel
theorem zr_26_0 : zR 26 0 = 1 := by decide +kernel
theorem zr_26_1 : zR 26 1 = 3 := by decide +kernel
theorem zr_26_4 : zR 26 4 = 27 := by decide +kernel
theorem zr_27_0 : zR 27 0 = 28 := by decide +kernel
theorem zr_37_0 : zR 37 0 = 40 := by decide +kernel
theorem zr_37_1 : zR 37 1 = 38 := by decide +kernel
theorem zr_38_0 : zR 38 0 = 39 := by decide +kernel
theorem zr_44_0 : zR 44 0 = 45 := by decide +kernel
theorem zr_44_1 : zR 44 1 = 52 := by decide +kernel
theorem zr_44_2 : zR 44 2 = 59 := by decide +kernel
theorem zr_44_3 : zR 44 3 = 66 := by decide +kernel
theorem zr_45_0 : zR 45 0 = 48 := by decide +kernel
theorem zr_45_1 : zR 45 1 = 46 := by decide +kernel
theorem zr_52_0 : zR 52 0 = 55 := by decide +kernel
theorem zr_52_1 : zR 52 1 = 53 := by decide +kernel
theorem zr_59_0 : zR 59 0 = 62 := by decide +kernel
theorem zr_59_1 : zR 59 1 = 60 := by decide +kernel
theorem zr_66_0 : zR 66 0 = 69 := by decide +kernel
theorem zr_66_1 : zR 66 1 = 67 := by decide +kernel
theorem zr_73_0 : zR 73 0 = 74 := by decide +kernel
theorem zr_74_0 : zR 74 0 = 75 := by decide +kernel
theorem zr_74_1 : zR 74 1 = 79 := by decide +kernel
theorem zr_74_2 : zR 74 2 = 83 := by decide +kernel
theorem zr_74_3 : zR 74 3 = 87 := by decide +kernel
theorem zr_74_4 : zR 74 4 = 91 := by decide +kernel
theorem zr_74_5 : zR 74 5 = 95 := by decide +kernel
theorem zr_74_6 : zR 74 6 = 99 := by decide +kernel
theorem zr_74_7 : zR 74 7 = 103 := by decide +kernel
theorem zr_74_8 : zR 74 8 = 107 := by decide +kernel
theorem zr_74_9 : zR 74 9 = 111 := by decide +kernel
theorem zr_74_10 : zR 74 10 = 115 := by decide +kernel
theorem zr_74_11 : zR 74 11 = 119 := by decide +kernel
theorem zr_74_12 : zR 74 12 = 123 := by decide +kernel
theorem zr_74_13 : zR 74 13 = 127 := by decide +kernel
theorem zr_74_14 : zR 74 14 = 131 := by decide +kernel
theorem zr_74_15 : zR 74 15 = 135 := by decide +kernel
theorem zr_139_2 : zR 139 2 = 140 := by decide +kernel
theorem zr_139_10 : zR 139 10 = 141 := by decide +kernel
theorem zr_139_11 : zR 139 11 = 142 := by decide +kernel
theorem zr_139_12 : zR 139 12 = 143 := by decide +kernel
theorem zr_139_13 : zR 139 13 = 144 := by decide +kernel
theorem zr_139_14 : zR 139 14 = 145 := by decide +kernel
theorem zr_139_15 : zR 139 15 = 146 := by decide +kernel
theorem zr_139_16 : zR 139 16 = 147 := by decide +kernel
theorem zr_139_17 : zR 139 17 = 148 := by decide +kernel
theorem zr_139_18 : zR 139 18 = 149 := by decide +kernel
theorem zr_139_19 : zR 139 19 = 150 := by decide +kernel
theorem zr_139_20 : zR 139 20 = 151 := by decide +kernel
theorem zr_139_23 : zR 139 23 = 152 := by decide +kernel
theorem zr_139_24 : zR 139 24 = 153 := by decide +kernel
theorem zr_139_25 : zR 139 25 = 154 := by decide +kernel
theorem zr_139_26 : zR 139 26 = 155 := by decide +kernel
theorem zr_139_27 : zR 139 27 = 156 := by decide +kernel
theorem zr_139_28 : zR 139 28 = 157 := by decide +kernel
theorem zr_139_29 : zR 139 29 = 158 := by decide +kernel
theorem zr_139_30 : zR 139 30 = 159 := by decide +kernel
theorem zr_139_31 : zR 139 31 = 160 := by decide +kernel
theorem zr_139_32 : zR 139 32 = 161 := by decide +kernel
theorem zr_139_33 : zR 139 33 = 162 := by decide +kernel
theorem zr_139_34 : zR 139 34 = 163 := by decide +kernel
theorem zr_139_37 : zR 139 37 = 164 := by decide +kernel
theorem zr_139_38 : zR 139 38 = 165 := by decide +kernel
theorem zr_139_39 : zR 139 39 = 166 := by decide +kernel
theorem zr_139_40 : zR 139 40 = 167 := by decide +kernel
theorem zr_139_41 : zR 139 41 = 168 := by decide +kernel
theorem zr_139_42 : zR 139 42 = 169 := by decide +kernel
theorem zr_139_43 : zR 139 43 = 170 := by decide +kernel
theorem zr_139_44 : zR 139 44 = 171 := by decide +kernel
theorem zr_139_45 : zR 139 45 = 172 := by decide +kernel
theorem zr_139_46 : zR 139 46 = 173 := by decide +kernel
theorem zr_139_47 : zR 139 47 = 174 := by decide +kernel
theorem zr_139_48 : zR 139 48 = 175 := by decide +kernel
theorem zr_139_50 : zR 139 50 = 176 := by decide +kernel
theorem zr_29_0 : zR 29 0 = 3 := by decide +kernel
theorem zr_29_1 : zR 29 1 = 30 := by decide +kernel
theorem zr_29_2 : zR 29 2 = 31 := by decide +kernel
theorem zr_29_3 : zR 29 3 = 32 := by decide +kernel
theorem zr_33_0 : zR 33 0 = 3 := by decide +kernel
theorem zr_33_1 : zR 33 1 = 34 := by decide +kernel
theorem zr_33_2 : zR 33 2 = 35 := by decide +kernel
theorem zr_33_3 : zR 33 3 = 36 := by decide +kernel
theorem zr_40_0 : zR 40 0 = 3 := by decide +kernel
theorem zr_40_1 : zR 40 1 = 41 := by decide +kernel
theorem zr_40_2 : zR 40 2 = 42 := by decide +kernel
theorem zr_40_3 : zR 40 3 = 43 := by decide +kernel
theorem zr_48_0 : zR 48 0 = 3 := by decide +kernel
theorem zr_48_1 : zR 48 1 = 49 := by decide +kernel
theorem zr_48_2 : zR 48 2 = 50 := by decide +kernel
theorem zr_48_3 : zR 48 3 = 51 := by decide +kernel
theorem zr_55_0 : zR 55 0 = 3 := by decide +kernel
theorem zr_55_1 : zR 55 1 = 56 := by decide +kernel
theorem zr_55_2 : zR 55 2 = 57 := by decide +kernel
theorem zr_55_3 : zR 55 3 = 58 := by decide +kernel
theorem zr_62_0 : zR 62 0 = 3 := by decide +kernel
theorem zr_62_1 : zR 62 1 = 63 := by decide +kernel
theorem zr_62_2 : zR 62 2 = 64 := by decide +kernel
theorem zr_62_3 : zR 62 3 = 65 := by decide +kernel
theorem zr_69_0 : zR 69 0 = 3 := by decide +kernel
theorem zr_69_1 : zR 69 1 = 70 := by decide +kernel
theorem zr_69_2 : zR 69 2 = 71 := by decide +kernel
theorem zr_69_3 : zR 69 3 = 72 := by decide +kernel
theorem zr_75_0 : zR 75 0 = 3 := by decide +kernel
theorem zr_75_1 : zR 75 1 = 76 := by decide +kernel
theorem zr_75_2 : zR 75 2 = 77 := by decide +kernel
theorem zr_75_3 : zR 75 3 = 78 := by decide +kernel
theorem zr_79_0 : zR 79 0 = 3 := by decide +kernel
theorem zr_79_1 : zR 79 1 = 80 := by decide +kernel
theorem zr_79_2 : zR 79 2 = 81 := by decide +kernel
theorem zr_79_3 : zR 79 3 = 82 := by decide +kernel
theorem zr_83_0 : zR 83 0 = 3 := by decide +kernel
theorem zr_83_1 : zR 83 1 = 84 := by decide +kernel
theorem zr_83_2 : zR 83 2 = 85 := by decide +kernel
theorem zr_83_3 : zR 83 3 = 86 := by decide +kernel
theorem zr_87_0 : zR 87 0 = 3 := by decide +kernel
theorem zr_87_1 : zR 87 1 = 88 := by decide +kernel
theorem zr_87_2 : zR 87 2 = 89 := by decide +kernel
theorem zr_87_3 : zR 87 3 = 90 := by decide +kernel
theorem zr_91_0 : zR 91 0 = 3 := by decide +kernel
theorem zr_91_1 : zR 91 1 = 92 := by decide +kernel
theorem zr_91_2 : zR 91 2 = 93 := by decide +kernel
theorem zr_91_3 : zR 91 3 = 94 := by decide +kernel
theorem zr_95_0 : zR 95 0 = 3 := by decide +kernel
theorem zr_95_1 : zR 95 1 = 96 := by decide +kernel
theorem zr_95_2 : zR 95 2 = 97 := by decide +kernel
theorem zr_95_3 : zR 95 3 = 98 := by decide +kernel
theorem zr_99_0 : zR 99 0 = 3 := by decide +kernel
theorem zr_99_1 : zR 99 1 = 100 := by decide +kernel
theorem zr_99_2 : zR 99 2 = 101 := by decide +kernel
theorem zr_99_3 : zR 99 3 = 102 := by decide +kernel
theorem zr_103_0 : zR 103 0 = 3 := by decide +kernel
theorem zr_103_1 : zR 103 1 = 104 := by decide +kernel
theorem zr_103_2 : zR 103 2 = 105 := by decide +kernel
theorem zr_103_3 : zR 103 3 = 106 := by decide +kernel
theorem zr_107_0 : zR 107 0 = 3 := by decide +kernel
theorem zr_107_1 : zR 107 1 = 108 := by decide +kernel
theorem zr_107_2 : zR 107 2 = 109 := by decide +kernel
theorem zr_107_3 : zR 107 3 = 110 := by decide +kernel
theorem zr_111_0 : zR 111 0 = 3 := by decide +kernel
theorem zr_111_1 : zR 111 1 = 112 := by decide +kernel
theorem zr_111_2 : zR 111 2 = 113 := by decide +kernel
theorem zr_111_3 : zR 111 3 = 114 := by decide +kernel
theorem zr_115_0 : zR 115 0 = 3 := by decide +kernel
theorem zr_115_1 : zR 115 1 = 116 := by decide +kernel
theorem zr_115_2 : zR 115 2 = 117 := by decide +kernel
theorem zr_115_3 : zR 115 3 = 118 := by decide +kernel
theorem zr_119_0 : zR 119 0 = 3 := by decide +kernel
theorem zr_119_1 : zR 119 1 = 120 := by decide +kernel
theorem zr_119_2 : zR 119 2 = 121 := by decide +kernel
theorem zr_119_3 : zR 119 3 = 122 := by decide +kernel
theorem zr_123_0 : zR 123 0 = 3 := by decide +kernel
theorem zr_123_1 : zR 123 1 = 124 := by decide +kernel
theorem zr_123_2 : zR 123 2 = 125 := by decide +kernel
theorem zr_123_3 : zR 123 3 = 126 := by decide +kernel
theorem zr_127_0 : zR 127 0 = 3 := by decide +kernel
theorem zr_127_1 : zR 127 1 = 128 := by decide +kernel
theorem zr_127_2 : zR 127 2 = 129 := by decide +kernel
theorem zr_127_3 : zR 127 3 = 130 := by decide +kernel
theorem zr_131_0 : zR 131 0 = 3 := by decide +kernel
theorem zr_131_1 : zR 131 1 = 132 := by decide +kernel
theorem zr_131_2 : zR 131 2 = 133 := by decide +kernel
theorem zr_131_3 : zR 131 3 = 134 := by decide +kernel
theorem zr_135_0 : zR 135 0 = 3 := by decide +kernel
theorem zr_135_1 : zR 135 1 = 136 := by decide +kernel
theorem zr_135_2 : zR 135 2 = 137 := by decide +kernel
theorem zr_135_3 : zR 135 3 = 138 := by decide +kernel
abbrev zLaw : Type := Option (Int32 → Int32 → Int32 → Int32 → Int32)
abbrev zRp : Type := Nat × (Nat → Nat) × (Nat → Nat) × (Nat → Nat) × (Nat → Option Nat) × Bool × Bool × Nat × zLaw × zLaw
abbrev rn (R : zRp) : Nat := R.1
abbrev rk (R : zRp) : Nat → Nat := R.2.1
abbrev ra (R : zRp) : Nat → Nat := R.2.2.1
abbrev re (R : zRp) : Nat → Nat := R.2.2.2.1
abbrev rh (R : zRp) : Nat → Option Nat := R.2.2.2.2.1
abbrev rl (R : zRp) : Bool := R.2.2.2.2.2.1
abbrev ry (R : zRp) : Bool := R.2.2.2.2.2.2.1
abbrev rb (R : zRp) : Nat := R.2.2.2.2.2.2.2.1
abbrev rg (R : zRp) : zLaw := R.2.2.2.2.2.2.2.2.1
abbrev rs (R : zRp) : zLaw := R.2.2.2.2.2.2.2.2.2
abbrev zSt : Type := (Nat → Nat) × (Nat → Nat) × (Nat → Nat) × Nat × Nat
abbrev sg (S : zSt) : Nat → Nat := S.1
abbrev sc (S : zSt) : Nat → Nat := S.2.1
abbrev sv (S : zSt) : Nat → Nat := S.2.2.1
abbrev sa (S : zSt) : Nat := S.2.2.2.1
abbrev sd (S : zSt) : Nat := S.2.2.2.2
def al (S : zSt) (p : Nat) : Bool := (sa S).testBit p
/-- what is always so of a republic -/
def RI (R : zRp) : Prop := rn R ≤ 7 ∧ (∀ p, p < rn R → rk R p ≤ 3 ∧ ra R p ≤ 99 ∧ re R p ≤ 9 ∧ ∀ q, rh R p = some q → q < rn R ∧ q ≠ p) ∧ 1 ≤ rb R ∧ rb R ≤ 9
/-- of how it is, with n people -/
def SI (n : Nat) (S : zSt) : Prop := sa S < 2 ^ n ∧ (∀ k, k < 49 → sg S k ≤ 9) ∧ (∀ p q, p < 7 → q < 7 → n ≤ p ∨ n ≤ q → sc S (p * 7 + q) = 0) ∧ zsum (sv S) n + zsum (sc S) 49 ≤ n
/-- the class's told republic (object 3), but for names and laws -/
def RC (R : zRp) (h : zH) : Prop := h.1 3 7 = nI (rn R) ∧ h.1 3 8 = nI (rb R) ∧ h.1 3 9 = zb (rl R) ∧ h.1 3 10 = zb (ry R) ∧ (∀ p, p < rn R → h.1 5 p = nI (rk R p)) ∧ (∀ p, p < rn R → h.1 6 p = nI (ra R p)) ∧ (∀ p, p < rn R → h.1 7 p = nI (re R p)) ∧ ∀ p, p < rn R → h.1 8 p = zo (rh R p)
/-- the reference's -/
def RM (R : zRp) (h : zH) : Prop := h.1 141 0 = nI (rn R) ∧ h.1 141 1 = nI (rb R) ∧ h.1 141 2 = zb (rl R) ∧ h.1 141 3 = zb (ry R) ∧ (∀ p, p < rn R → h.1 143 p = nI (rk R p)) ∧ (∀ p, p < rn R → h.1 144 p = nI (ra R p)) ∧ (∀ p, p < rn R → h.1 145 p = nI (re R p)) ∧ ∀ p, p < rn R → h.1 146 p = zo (rh R p)
/-- a Standing of the class: its rows lie behind it -/
def SC (n : Nat) (S : zSt) (h : zH) (t : Nat) : Prop := (∀ k, k < 49 → h.1 (t + 1) k = nI (sg S k)) ∧ (∀ k, k < 49 → h.1 (t + 2) k = nI (sc S k)) ∧ (∀ p, p < n → h.1 (t + 3) p = nI (sv S p)) ∧ h.1 t 4 = nI (sa S) ∧ h.1 t 5 = nI (sd S)
/-- a row of the reference: in the array a, from o on -/
def SM (n : Nat) (S : zSt) (h : zH) (a o : Nat) : Prop := (∀ k, k < 49 → h.1 a (o + 9 + k) = nI (sg S k)) ∧ (∀ k, k < 49 → h.1 a (o + 58 + k) = nI (sc S k)) ∧ (∀ p, p < n → h.1 a (o + 2 + p) = nI (sv S p)) ∧ h.1 a (o + 1) = nI (sa S) ∧ h.1 a o = nI (sd S)
theorem zst {t : Nat} (h : zT t = (6, 0)) : zR t 0 = 3 ∧ zR t 1 = t + 1 ∧ zR t 2 = t + 2 ∧ zR t 3 = t + 3 ∧ 29 ≤ t ∧ t ≤ 135 := z_all (P := fun t => zT t = (6, 0) → zR t 0 = 3 ∧ zR t 1 = t + 1 ∧ zR t 2 = t + 2 ∧ zR t 3 = t + 3 ∧ 29 ≤ t ∧ t ≤ 135) (by decide +kernel) t (zT_lt h (by decide)) h
/-- class: the republic R, the Standing t as S -/
def CS (R : zRp) (S : zSt) (h : zH) (t : Nat) : Prop := RI R ∧ SI (rn R) S ∧ zT t = (6, 0) ∧ RC R h ∧ SC (rn R) S h t
/-- reference: the same, its row s as S, nothing added -/
def MS (R : zRp) (S : zSt) (h : zH) : Prop := RI R ∧ SI (rn R) S ∧ RM R h ∧ SM (rn R) S h 171 0
section Pr
variable {R : zRp} {S : zSt} {h : zH} {t : Nat}
theorem CS.n7 (H : CS R S h t) : rn R ≤ 7 := H.1.1
theorem CS.e0 (H : CS R S h t) : zR t 0 = 3 := (zst H.2.2.1).1
theorem CS.e1 (H : CS R S h t) : zR t 1 = t + 1 := (zst H.2.2.1).2.1
theorem CS.e2 (H : CS R S h t) : zR t 2 = t + 2 := (zst H.2.2.1).2.2.1
theorem CS.e3 (H : CS R S h t) : zR t 3 = t + 3 := (zst H.2.2.1).2.2.2.1
theorem CS.n (H : CS R S h t) : h.1 3 7 = nI (rn R) := H.2.2.2.1.1
theorem CS.bar (H : CS R S h t) : h.1 3 8 = nI (rb R) := H.2.2.2.1.2.1
theorem CS.lap (H : CS R S h t) : h.1 3 9 = zb (rl R) := H.2.2.2.1.2.2.1
theorem CS.you (H : CS R S h t) : h.1 3 10 = zb (ry R) := H.2.2.2.1.2.2.2.1
theorem CS.kd (H : CS R S h t) : ∀ p, p < rn R → h.1 5 p = nI (rk R p) := H.2.2.2.1.2.2.2.2.1
theorem CS.ag (H : CS R S h t) : ∀ p, p < rn R → h.1 6 p = nI (ra R p) := H.2.2.2.1.2.2.2.2.2.1
theorem CS.en (H : CS R S h t) : ∀ p, p < rn R → h.1 7 p = nI (re R p) := H.2.2.2.1.2.2.2.2.2.2.1
theorem CS.hr (H : CS R S h t) : ∀ p, p < rn R → h.1 8 p = zo (rh R p) := H.2.2.2.1.2.2.2.2.2.2.2
theorem CS.g (H : CS R S h t) : ∀ k, k < 49 → h.1 (t + 1) k = nI (sg S k) := H.2.2.2.2.1
theorem CS.c (H : CS R S h t) : ∀ k, k < 49 → h.1 (t + 2) k = nI (sc S k) := H.2.2.2.2.2.1
theorem CS.v (H : CS R S h t) : ∀ p, p < rn R → h.1 (t + 3) p = nI (sv S p) := H.2.2.2.2.2.2.1
theorem CS.a (H : CS R S h t) : h.1 t 4 = nI (sa S) := H.2.2.2.2.2.2.2.1
theorem CS.d (H : CS R S h t) : h.1 t 5 = nI (sd S) := H.2.2.2.2.2.2.2.2
theorem MS.n7 (H : MS R S h) : rn R ≤ 7 := H.1.1
theorem MS.n (H : MS R S h) : h.1 141 0 = nI (rn R) := H.2.2.1.1
theorem MS.bar (H : MS R S h) : h.1 141 1 = nI (rb R) := H.2.2.1.2.1
theorem MS.lap (H : MS R S h) : h.1 141 2 = zb (rl R) := H.2.2.1.2.2.1
theorem MS.you (H : MS R S h) : h.1 141 3 = zb (ry R) := H.2.2.1.2.2.2.1
theorem MS.kd (H : MS R S h) : ∀ p, p < rn R → h.1 143 p = nI (rk R p) := H.2.2.1.2.2.2.2.1
theorem MS.ag (H : MS R S h) : ∀ p, p < rn R → h.1 144 p = nI (ra R p) := H.2.2.1.2.2.2.2.2.1
theorem MS.en (H : MS R S h) : ∀ p, p < rn R → h.1 145 p = nI (re R p) := H.2.2.1.2.2.2.2.2.2.1
theorem MS.hr (H : MS R S h) : ∀ p, p < rn R → h.1 146 p = zo (rh R p) := H.2.2.1.2.2.2.2.2.2.2
theorem MS.g (H : MS R S h) {p q : Nat} (hp : p < 7) (hq : q < 7) : h.1 171 (9 + 7 * p + q) = nI (sg S (p * 7 + q)) := by
  have := H.2.2.2.1 (p * 7 + q) (by omega)
  rw [show 9 + 7 * p + q = 0 + 9 + (p * 7 + q) by omega]; exact this
theorem MS.c (H : MS R S h) {p q : Nat} (hp : p < 7) (hq : q < 7) : h.1 171 (58 + 7 * p + q) = nI (sc S (p * 7 + q)) := by
  have := H.2.2.2.2.1 (p * 7 + q) (by omega)
  rw [show 58 + 7 * p + q = 0 + 58 + (p * 7 + q) by omega]; exact this
theorem MS.v (H : MS R S h) : ∀ p, p < rn R → h.1 171 (2 + p) = nI (sv S p) := fun p hp => by
  have := H.2.2.2.2.2.1 p hp
  rw [show 2 + p = 0 + 2 + p by omega]; exact this
theorem MS.a (H : MS R S h) : h.1 171 1 = nI (sa S) := H.2.2.2.2.2.2.1
theorem MS.d (H : MS R S h) : h.1 171 0 = nI (sd S) := H.2.2.2.2.2.2.2
theorem RI.kd (H : RI R) {p : Nat} (hp : p < rn R) : rk R p ≤ 3 := (H.2.1 p hp).1
theorem RI.ag (H : RI R) {p : Nat} (hp : p < rn R) : ra R p ≤ 99 := (H.2.1 p hp).2.1
theorem RI.en (H : RI R) {p : Nat} (hp : p < rn R) : re R p ≤ 9 := (H.2.1 p hp).2.2.1
theorem SI.g (H : SI (rn R) S) {k : Nat} (hk : k < 49) : sg S k ≤ 9 := H.2.1 k hk
theorem SI.v {n : Nat} (H : SI n S) (hn : n ≤ 7) {p : Nat} (hp : p < n) : sv S p ≤ 7 := by
  have h1 := H.2.2.2
  have h2 := zsum_one (f := sv S) p hp
  omega
theorem SI.c {n : Nat} (H : SI n S) (hn : n ≤ 7) {k : Nat} (hk : k < 49) : sc S k ≤ 7 := by
  have h1 := H.2.2.2
  have h2 := zsum_one (f := sc S) k hk
  omega
end Pr
theorem zbitA : ∀ a, a < 128 → ∀ p, p < 7 → ((((nI a) >>> (nI p &&& 31)) &&& 1 = 1) ↔ a.testBit p = true) := by decide +kernel
theorem SI.lt {n : Nat} {S : zSt} (h : SI n S) (hn : n ≤ 7) : sa S < 128 := Nat.lt_of_lt_of_le h.1 (Nat.le_trans (Nat.pow_le_pow_right (by decide) hn) (by decide))
theorem al_lt {n : Nat} {S : zSt} (h : SI n S) {p : Nat} (hp : al S p = true) : p < n := by
  rcases Nat.lt_or_ge p n with q | q
  · exact q
  · have := Nat.testBit_lt_two_pow (Nat.lt_of_lt_of_le h.1 (Nat.pow_le_pow_right (by decide) q))
    rw [al, this] at hp
    cases hp
/-- votes against one -/
def ic (R : zRp) (S : zSt) (p : Nat) : Nat := zsum (fun b => if rl R = false ∨ al S b = true then sc S (b * 7 + p) else 0) (rn R)
/-- votes cast by one -/
def iby (R : zRp) (S : zSt) (p : Nat) : Nat := zsum (fun q => sc S (p * 7 + q)) (rn R)
/-- of equal ones, rather the first -/
def iw (R : zRp) (p q : Nat) : Bool := if ra R p = ra R q then decide (p < q) else if ry R then decide (ra R p < ra R q) else decide (ra R q < ra R p)
def ia (R : zRp) (S : zSt) (p q : Nat) : Bool := decide (ic R S p < ic R S q) || (decide (ic R S p = ic R S q) && iw R p q)
def igs (R : zRp) (S : zSt) (i : Nat) (s : Option Nat) : Option Nat := if al S i then (match s with
  | none => some i
  | some b => if ia R S i b then some i else some b) else s
/-- who governs -/
def ig (R : zRp) (S : zSt) : Option Nat := zfold (igs R S) 0 (rn R) none
theorem zsum_ext {f : Nat → Nat} {n : Nat} : ∀ {m : Nat}, n ≤ m → (∀ i, n ≤ i → i < m → f i = 0) → zsum f m = zsum f n := by
  intro m
  induction m with
  | zero => intro h _; have : n = 0 := by omega
            subst this; rfl
  | succ m ih =>
    intro h hz
    by_cases c : n = m + 1
    · subst c; rfl
    · simp only [zsum]; rw [ih (by omega) (fun i a b => hz i a (by omega)), hz m (by omega) (by omega)]; rfl
theorem zcol : ∀ (f : Nat → Nat), zsum (fun b => zsum (fun q => f (b * 7 + q)) 7) 7 = zsum f 49 := by
  intro f
  simp [zsum]
  omega
theorem zcol1 (f : Nat → Nat) {p : Nat} (hp : p < 7) : zsum (fun b => f (b * 7 + p)) 7 ≤ zsum f 49 := by
  have : p = 0 ∨ p = 1 ∨ p = 2 ∨ p = 3 ∨ p = 4 ∨ p = 5 ∨ p = 6 := by omega
  rcases this with rfl | rfl | rfl | rfl | rfl | rfl | rfl <;> simp [zsum] <;> omega
theorem zsum_mono {f g : Nat → Nat} : ∀ {n : Nat}, (∀ i, i < n → f i ≤ g i) → zsum f n ≤ zsum g n := by
  intro n
  induction n with
  | zero => intro _; exact Nat.le_refl _
  | succ n ih => intro h; simp only [zsum]; have h1 := ih (fun i hi => h i (by omega)); have h2 := h n (by omega); omega
theorem zsum_grow {f : Nat → Nat} {n m : Nat} (h : n ≤ m) : zsum f n ≤ zsum f m := by
  induction m with
  | zero => have : n = 0 := by omega
            subst this; exact Nat.le_refl _
  | succ m ih =>
    by_cases c : n = m + 1
    · subst c; exact Nat.le_refl _
    · simp only [zsum]; have := ih (by omega); omega
theorem ic_le {R : zRp} {S : zSt} (hn : rn R ≤ 7) (hJ : SI (rn R) S) {p : Nat} (hp : p < 7) : ic R S p ≤ 7 := by
  have h1 : ic R S p ≤ zsum (fun b => sc S (b * 7 + p)) (rn R) := zsum_mono (fun i _ => by show (if _ then _ else _) ≤ _; split <;> omega)
  have h2 : zsum (fun b => sc S (b * 7 + p)) (rn R) ≤ zsum (fun b => sc S (b * 7 + p)) 7 := zsum_grow hn
  have h3 := zcol1 (sc S) hp
  have h4 := hJ.2.2.2
  omega
section Q1
variable {R : zRp} {S : zSt} {h : zH} {t : Nat}
theorem e_X7_isAlive (H : CS R S h t) {p : Nat} (hp : p < 7) : g_X7_isAlive h t (nI p) = some (al S p) := by
  have hb := zbitA (sa S) (H.2.1.lt H.n7) p hp
  unfold g_X7_isAlive
  simp (disch := omega) only [H.a, zin_t, zx_nI, nI_add, nI_mul, znI_le, znI_lt, znI_eq, znI_neg, zgu_t, zgu_f, zbind_s, zlet_e, zb_eq0, zb_eq1, zb_t, zb_f, zleL_0, zleR_0, zltL_0, zltR_0, zeq_0, zxl_0, zil_0, zmL_1, zmR_1, zaL_1, zaR_1, zleL_1, zleR_1, zltL_1, zltR_1, zeq_1, zxl_1, zil_1, zmL_2, zmR_2, zaL_2, zaR_2, zleL_2, zleR_2, zltL_2, zltR_2, zeq_2, zxl_2, zil_2, zmL_3, zmR_3, zaL_3, zaR_3, zleL_3, zleR_3, zltL_3, zltR_3, zeq_3, zxl_3, zil_3, zmL_4, zmR_4, zaL_4, zaR_4, zleL_4, zleR_4, zltL_4, zltR_4, zeq_4, zxl_4, zil_4, zmL_5, zmR_5, zaL_5, zaR_5, zleL_5, zleR_5, zltL_5, zltR_5, zeq_5, zxl_5, zil_5, zmL_6, zmR_6, zaL_6, zaR_6, zleL_6, zleR_6, zltL_6, zltR_6, zeq_6, zxl_6, zil_6, zmL_7, zmR_7, zaL_7, zaR_7, zleL_7, zleR_7, zltL_7, zltR_7, zeq_7, zxl_7, zil_7, zmL_8, zmR_8, zaL_8, zaR_8, zleL_8, zleR_8, zltL_8, zltR_8, zeq_8, zxl_8, zil_8, zmL_9, zmR_9, zaL_9, zaR_9, zleL_9, zleR_9, zltL_9, zltR_9, zeq_9, zxl_9, zil_9, zmL_10, zmR_10, zaL_10, zaR_10, zleL_10, zleR_10, zltL_10, zltR_10, zeq_10, zxl_10, zil_10, zmL_14, zmR_14, zaL_14, zaR_14, zleL_14, zleR_14, zltL_14, zltR_14, zeq_14, zxl_14, zil_14, zmL_15, zmR_15, zaL_15, zaR_15, zleL_15, zleR_15, zltL_15, zltR_15, zeq_15, zxl_15, zil_15, zmL_16, zmR_16, zaL_16, zaR_16, zleL_16, zleR_16, zltL_16, zltR_16, zeq_16, zxl_16, zil_16, zmL_20, zmR_20, zaL_20, zaR_20, zleL_20, zleR_20, zltL_20, zltR_20, zeq_20, zxl_20, zil_20, zmL_22, zmR_22, zaL_22, zaR_22, zleL_22, zleR_22, zltL_22, zltR_22, zeq_22, zxl_22, zil_22, zmL_23, zmR_23, zaL_23, zaR_23, zleL_23, zleR_23, zltL_23, zltR_23, zeq_23, zxl_23, zil_23, zmL_24, zmR_24, zaL_24, zaR_24, zleL_24, zleR_24, zltL_24, zltR_24, zeq_24, zxl_24, zil_24, zmL_25, zmR_25, zaL_25, zaR_25, zleL_25, zleR_25, zltL_25, zltR_25, zeq_25, zxl_25, zil_25, zmL_26, zmR_26, zaL_26, zaR_26, zleL_26, zleR_26, zltL_26, zltR_26, zeq_26, zxl_26, zil_26, zmL_32, zmR_32, zaL_32, zaR_32, zleL_32, zleR_32, zltL_32, zltR_32, zeq_32, zxl_32, zil_32, zmL_40, zmR_40, zaL_40, zaR_40, zleL_40, zleR_40, zltL_40, zltR_40, zeq_40, zxl_40, zil_40, zmL_49, zmR_49, zaL_49, zaR_49, zleL_49, zleR_49, zltL_49, zltR_49, zeq_49, zxl_49, zil_49, zmL_58, zmR_58, zaL_58, zaR_58, zleL_58, zleR_58, zltL_58, zltR_58, zeq_58, zxl_58, zil_58, zmL_99, zmR_99, zaL_99, zaR_99, zleL_99, zleR_99, zltL_99, zltR_99, zeq_99, zxl_99, zil_99, zmL_100, zmR_100, zaL_100, zaR_100, zleL_100, zleR_100, zltL_100, zltR_100, zeq_100, zxl_100, zil_100, zmL_107, zmR_107, zaL_107, zaR_107, zleL_107, zleR_107, zltL_107, zltR_107, zeq_107, zxl_107, zil_107, zmL_126, zmR_126, zaL_126, zaR_126, zleL_126, zleR_126, zltL_126, zltR_126, zeq_126, zxl_126, zil_126, zmL_1000, zmR_1000, zaL_1000, zaR_1000, zleL_1000, zleR_1000, zltL_1000, zltR_1000, zeq_1000, zxl_1000, zil_1000, zmL_1605, zmR_1605, zaL_1605, zaR_1605, zleL_1605, zleR_1605, zltL_1605, zltR_1605, zeq_1605, zxl_1605, zil_1605]
  rw [if_neg (by omega), if_neg (by omega)]
  by_cases c : (sa S).testBit p = true
  · rw [if_pos (hb.mpr c)]; exact congrArg some c.symm
  · rw [if_neg (fun z => c (hb.mp z))]; rw [al]; simp at c; rw [c]
theorem e_X12_isAlive (H : MS R S h) {p : Nat} (hp : p < 7) : g_X12_isAlive h 139 (nI p) = some (al S p) := by
  have hb := zbitA (sa S) (H.2.1.lt H.n7) p hp
  unfold g_X12_isAlive
  simp (disch := omega) only [H.a, zr_0_0, zr_0_1, zr_0_2, zr_0_3, zr_0_4, zr_0_5, zr_0_6, zr_0_7, zr_0_8, zr_1_0, zr_3_0, zr_3_1, zr_3_2, zr_3_3, zr_3_4, zr_3_5, zr_3_6, zr_10_0, zr_10_1, zr_13_0, zr_13_1, zr_13_4, zr_14_0, zr_14_1, zr_14_2, zr_14_3, zr_14_4, zr_14_5, zr_14_6, zr_21_0, zr_21_1, zr_24_0, zr_24_1, zr_24_2, zr_26_0, zr_26_1, zr_26_4, zr_27_0, zr_37_0, zr_37_1, zr_38_0, zr_44_0, zr_44_1, zr_44_2, zr_44_3, zr_45_0, zr_45_1, zr_52_0, zr_52_1, zr_59_0, zr_59_1, zr_66_0, zr_66_1, zr_73_0, zr_74_0, zr_74_1, zr_74_2, zr_74_3, zr_74_4, zr_74_5, zr_74_6, zr_74_7, zr_74_8, zr_74_9, zr_74_10, zr_74_11, zr_74_12, zr_74_13, zr_74_14, zr_74_15, zr_139_2, zr_139_10, zr_139_11, zr_139_12, zr_139_13, zr_139_14, zr_139_15, zr_139_16, zr_139_17, zr_139_18, zr_139_19, zr_139_20, zr_139_23, zr_139_24, zr_139_25, zr_139_26, zr_139_27, zr_139_28, zr_139_29, zr_139_30, zr_139_31, zr_139_32, zr_139_33, zr_139_34, zr_139_37, zr_139_38, zr_139_39, zr_139_40, zr_139_41, zr_139_42, zr_139_43, zr_139_44, zr_139_45, zr_139_46, zr_139_47, zr_139_48, zr_139_50, zin_t, zx_nI, nI_add, nI_mul, znI_le, znI_lt, znI_eq, znI_neg, zgu_t, zgu_f, zbind_s, zlet_e, zb_eq0, zb_eq1, zb_t, zb_f, zleL_0, zleR_0, zltL_0, zltR_0, zeq_0, zxl_0, zil_0, zmL_1, zmR_1, zaL_1, zaR_1, zleL_1, zleR_1, zltL_1, zltR_1, zeq_1, zxl_1, zil_1, zmL_2, zmR_2, zaL_2, zaR_2, zleL_2, zleR_2, zltL_2, zltR_2, zeq_2, zxl_2, zil_2, zmL_3, zmR_3, zaL_3, zaR_3, zleL_3, zleR_3, zltL_3, zltR_3, zeq_3, zxl_3, zil_3, zmL_4, zmR_4, zaL_4, zaR_4, zleL_4, zleR_4, zltL_4, zltR_4, zeq_4, zxl_4, zil_4, zmL_5, zmR_5, zaL_5, zaR_5, zleL_5, zleR_5, zltL_5, zltR_5, zeq_5, zxl_5, zil_5, zmL_6, zmR_6, zaL_6, zaR_6, zleL_6, zleR_6, zltL_6, zltR_6, zeq_6, zxl_6, zil_6, zmL_7, zmR_7, zaL_7, zaR_7, zleL_7, zleR_7, zltL_7, zltR_7, zeq_7, zxl_7, zil_7, zmL_8, zmR_8, zaL_8, zaR_8, zleL_8, zleR_8, zltL_8, zltR_8, zeq_8, zxl_8, zil_8, zmL_9, zmR_9, zaL_9, zaR_9, zleL_9, zleR_9, zltL_9, zltR_9, zeq_9, zxl_9, zil_9, zmL_10, zmR_10, zaL_10, zaR_10, zleL_10, zleR_10, zltL_10, zltR_10, zeq_10, zxl_10, zil_10, zmL_14, zmR_14, zaL_14, zaR_14, zleL_14, zleR_14, zltL_14, zltR_14, zeq_14, zxl_14, zil_14, zmL_15, zmR_15, zaL_15, zaR_15, zleL_15, zleR_15, zltL_15, zltR_15, zeq_15, zxl_15, zil_15, zmL_16, zmR_16, zaL_16, zaR_16, zleL_16, zleR_16, zltL_16, zltR_16, zeq_16, zxl_16, zil_16, zmL_20, zmR_20, zaL_20, zaR_20, zleL_20, zleR_20, zltL_20, zltR_20, zeq_20, zxl_20, zil_20, zmL_22, zmR_22, zaL_22, zaR_22, zleL_22, zleR_22, zltL_22, zltR_22, zeq_22, zxl_22, zil_22, zmL_23, zmR_23, zaL_23, zaR_23, zleL_23, zleR_23, zltL_23, zltR_23, zeq_23, zxl_23, zil_23, zmL_24, zmR_24, zaL_24, zaR_24, zleL_24, zleR_24, zltL_24, zltR_24, zeq_24, zxl_24, zil_24, zmL_25, zmR_25, zaL_25, zaR_25, zleL_25, zleR_25, zltL_25, zltR_25, zeq_25, zxl_25, zil_25, zmL_26, zmR_26, zaL_26, zaR_26, zleL_26, zleR_26, zltL_26, zltR_26, zeq_26, zxl_26, zil_26, zmL_32, zmR_32, zaL_32, zaR_32, zleL_32, zleR_32, zltL_32, zltR_32, zeq_32, zxl_32, zil_32, zmL_40, zmR_40, zaL_40, zaR_40, zleL_40, zleR_40, zltL_40, zltR_40, zeq_40, zxl_40, zil_40, zmL_49, zmR_49, zaL_49, zaR_49, zleL_49, zleR_49, zltL_49, zltR_49, zeq_49, zxl_49, zil_49, zmL_58, zmR_58, zaL_58, zaR_58, zleL_58, zleR_58, zltL_58, zltR_58, zeq_58, zxl_58, zil_58, zmL_99, zmR_99, zaL_99, zaR_99, zleL_99, zleR_99, zltL_99, zltR_99, zeq_99, zxl_99, zil_99, zmL_100, zmR_100, zaL_100, zaR_100, zleL_100, zleR_100, zltL_100, zltR_100, zeq_100, zxl_100, zil_100, zmL_107, zmR_107, zaL_107, zaR_107, zleL_107, zleR_107, zltL_107, zltR_107, zeq_107, zxl_107, zil_107, zmL_126, zmR_126, zaL_126, zaR_126, zleL_126, zleR_126, zltL_126, zltR_126, zeq_126, zxl_126, zil_126, zmL_1000, zmR_1000, zaL_1000, zaR_1000, zleL_1000, zleR_1000, zltL_1000, zltR_1000, zeq_1000, zxl_1000, zil_1000, zmL_1605, zmR_1605, zaL_1605, zaR_1605, zleL_1605, zleR_1605, zltL_1605, zltR_1605, zeq_1605, zxl_1605, zil_1605]
  by_cases c : (sa S).testBit p = true
  · rw [if_pos (hb.mpr c)]; exact congrArg some c.symm
  · rw [if_neg (fun z => c (hb.mp z))]; rw [al]; simp at c; rw [c]
theorem e_X7_count (H : CS R S h t) {p : Nat} (hp : p < 7) : g_X7_countAgainst h t (nI p) = some (nI (ic R S p)) := by
  have hn := H.n7
  have key := zloop (L := fun n i (s : Nat) => g_X7_countAgainst_4 h t n (nI p) (nI s) i) (N := rn R) (f := fun b s => s + (if rl R = false ∨ al S b = true then sc S (b * 7 + p) else 0)) (fin := fun s => some (nI s)) (fun _ _ => True)
    (by
      intro n i s hi _
      show g_X7_countAgainst_4 h t (n + 1) (nI p) (nI s) (nI i) = _
      rw [g_X7_countAgainst_4]
      simp (disch := omega) only [H.e0, H.e2, H.n, H.lap, e_X7_isAlive H (show i < 7 by omega), g_X7_countAgainst_33, H.c, zin_t, zx_nI, nI_add, nI_mul, znI_le, znI_lt, znI_eq, znI_neg, zgu_t, zgu_f, zbind_s, zlet_e, zb_eq0, zb_eq1, zb_t, zb_f, zleL_0, zleR_0, zltL_0, zltR_0, zeq_0, zxl_0, zil_0, zmL_1, zmR_1, zaL_1, zaR_1, zleL_1, zleR_1, zltL_1, zltR_1, zeq_1, zxl_1, zil_1, zmL_2, zmR_2, zaL_2, zaR_2, zleL_2, zleR_2, zltL_2, zltR_2, zeq_2, zxl_2, zil_2, zmL_3, zmR_3, zaL_3, zaR_3, zleL_3, zleR_3, zltL_3, zltR_3, zeq_3, zxl_3, zil_3, zmL_4, zmR_4, zaL_4, zaR_4, zleL_4, zleR_4, zltL_4, zltR_4, zeq_4, zxl_4, zil_4, zmL_5, zmR_5, zaL_5, zaR_5, zleL_5, zleR_5, zltL_5, zltR_5, zeq_5, zxl_5, zil_5, zmL_6, zmR_6, zaL_6, zaR_6, zleL_6, zleR_6, zltL_6, zltR_6, zeq_6, zxl_6, zil_6, zmL_7, zmR_7, zaL_7, zaR_7, zleL_7, zleR_7, zltL_7, zltR_7, zeq_7, zxl_7, zil_7, zmL_8, zmR_8, zaL_8, zaR_8, zleL_8, zleR_8, zltL_8, zltR_8, zeq_8, zxl_8, zil_8, zmL_9, zmR_9, zaL_9, zaR_9, zleL_9, zleR_9, zltL_9, zltR_9, zeq_9, zxl_9, zil_9, zmL_10, zmR_10, zaL_10, zaR_10, zleL_10, zleR_10, zltL_10, zltR_10, zeq_10, zxl_10, zil_10, zmL_14, zmR_14, zaL_14, zaR_14, zleL_14, zleR_14, zltL_14, zltR_14, zeq_14, zxl_14, zil_14, zmL_15, zmR_15, zaL_15, zaR_15, zleL_15, zleR_15, zltL_15, zltR_15, zeq_15, zxl_15, zil_15, zmL_16, zmR_16, zaL_16, zaR_16, zleL_16, zleR_16, zltL_16, zltR_16, zeq_16, zxl_16, zil_16, zmL_20, zmR_20, zaL_20, zaR_20, zleL_20, zleR_20, zltL_20, zltR_20, zeq_20, zxl_20, zil_20, zmL_22, zmR_22, zaL_22, zaR_22, zleL_22, zleR_22, zltL_22, zltR_22, zeq_22, zxl_22, zil_22, zmL_23, zmR_23, zaL_23, zaR_23, zleL_23, zleR_23, zltL_23, zltR_23, zeq_23, zxl_23, zil_23, zmL_24, zmR_24, zaL_24, zaR_24, zleL_24, zleR_24, zltL_24, zltR_24, zeq_24, zxl_24, zil_24, zmL_25, zmR_25, zaL_25, zaR_25, zleL_25, zleR_25, zltL_25, zltR_25, zeq_25, zxl_25, zil_25, zmL_26, zmR_26, zaL_26, zaR_26, zleL_26, zleR_26, zltL_26, zltR_26, zeq_26, zxl_26, zil_26, zmL_32, zmR_32, zaL_32, zaR_32, zleL_32, zleR_32, zltL_32, zltR_32, zeq_32, zxl_32, zil_32, zmL_40, zmR_40, zaL_40, zaR_40, zleL_40, zleR_40, zltL_40, zltR_40, zeq_40, zxl_40, zil_40, zmL_49, zmR_49, zaL_49, zaR_49, zleL_49, zleR_49, zltL_49, zltR_49, zeq_49, zxl_49, zil_49, zmL_58, zmR_58, zaL_58, zaR_58, zleL_58, zleR_58, zltL_58, zltR_58, zeq_58, zxl_58, zil_58, zmL_99, zmR_99, zaL_99, zaR_99, zleL_99, zleR_99, zltL_99, zltR_99, zeq_99, zxl_99, zil_99, zmL_100, zmR_100, zaL_100, zaR_100, zleL_100, zleR_100, zltL_100, zltR_100, zeq_100, zxl_100, zil_100, zmL_107, zmR_107, zaL_107, zaR_107, zleL_107, zleR_107, zltL_107, zltR_107, zeq_107, zxl_107, zil_107, zmL_126, zmR_126, zaL_126, zaR_126, zleL_126, zleR_126, zltL_126, zltR_126, zeq_126, zxl_126, zil_126, zmL_1000, zmR_1000, zaL_1000, zaR_1000, zleL_1000, zleR_1000, zltL_1000, zltR_1000, zeq_1000, zxl_1000, zil_1000, zmL_1605, zmR_1605, zaL_1605, zaR_1605, zleL_1605, zleR_1605, zltL_1605, zltR_1605, zeq_1605, zxl_1605, zil_1605]
      rw [if_neg (by omega)]
      cases hl : rl R <;> cases ha : al S i <;> simp)
    (fun _ _ _ _ => trivial)
    (by
      intro n s _
      show g_X7_countAgainst_4 h t (n + 1) (nI p) (nI s) (nI (rn R)) = _
      rw [g_X7_countAgainst_4]
      simp (disch := omega) only [H.e0, H.n, zin_t, zx_nI, nI_add, nI_mul, znI_le, znI_lt, znI_eq, znI_neg, zgu_t, zgu_f, zbind_s, zlet_e, zb_eq0, zb_eq1, zb_t, zb_f, zleL_0, zleR_0, zltL_0, zltR_0, zeq_0, zxl_0, zil_0, zmL_1, zmR_1, zaL_1, zaR_1, zleL_1, zleR_1, zltL_1, zltR_1, zeq_1, zxl_1, zil_1, zmL_2, zmR_2, zaL_2, zaR_2, zleL_2, zleR_2, zltL_2, zltR_2, zeq_2, zxl_2, zil_2, zmL_3, zmR_3, zaL_3, zaR_3, zleL_3, zleR_3, zltL_3, zltR_3, zeq_3, zxl_3, zil_3, zmL_4, zmR_4, zaL_4, zaR_4, zleL_4, zleR_4, zltL_4, zltR_4, zeq_4, zxl_4, zil_4, zmL_5, zmR_5, zaL_5, zaR_5, zleL_5, zleR_5, zltL_5, zltR_5, zeq_5, zxl_5, zil_5, zmL_6, zmR_6, zaL_6, zaR_6, zleL_6, zleR_6, zltL_6, zltR_6, zeq_6, zxl_6, zil_6, zmL_7, zmR_7, zaL_7, zaR_7, zleL_7, zleR_7, zltL_7, zltR_7, zeq_7, zxl_7, zil_7, zmL_8, zmR_8, zaL_8, zaR_8, zleL_8, zleR_8, zltL_8, zltR_8, zeq_8, zxl_8, zil_8, zmL_9, zmR_9, zaL_9, zaR_9, zleL_9, zleR_9, zltL_9, zltR_9, zeq_9, zxl_9, zil_9, zmL_10, zmR_10, zaL_10, zaR_10, zleL_10, zleR_10, zltL_10, zltR_10, zeq_10, zxl_10, zil_10, zmL_14, zmR_14, zaL_14, zaR_14, zleL_14, zleR_14, zltL_14, zltR_14, zeq_14, zxl_14, zil_14, zmL_15, zmR_15, zaL_15, zaR_15, zleL_15, zleR_15, zltL_15, zltR_15, zeq_15, zxl_15, zil_15, zmL_16, zmR_16, zaL_16, zaR_16, zleL_16, zleR_16, zltL_16, zltR_16, zeq_16, zxl_16, zil_16, zmL_20, zmR_20, zaL_20, zaR_20, zleL_20, zleR_20, zltL_20, zltR_20, zeq_20, zxl_20, zil_20, zmL_22, zmR_22, zaL_22, zaR_22, zleL_22, zleR_22, zltL_22, zltR_22, zeq_22, zxl_22, zil_22, zmL_23, zmR_23, zaL_23, zaR_23, zleL_23, zleR_23, zltL_23, zltR_23, zeq_23, zxl_23, zil_23, zmL_24, zmR_24, zaL_24, zaR_24, zleL_24, zleR_24, zltL_24, zltR_24, zeq_24, zxl_24, zil_24, zmL_25, zmR_25, zaL_25, zaR_25, zleL_25, zleR_25, zltL_25, zltR_25, zeq_25, zxl_25, zil_25, zmL_26, zmR_26, zaL_26, zaR_26, zleL_26, zleR_26, zltL_26, zltR_26, zeq_26, zxl_26, zil_26, zmL_32, zmR_32, zaL_32, zaR_32, zleL_32, zleR_32, zltL_32, zltR_32, zeq_32, zxl_32, zil_32, zmL_40, zmR_40, zaL_40, zaR_40, zleL_40, zleR_40, zltL_40, zltR_40, zeq_40, zxl_40, zil_40, zmL_49, zmR_49, zaL_49, zaR_49, zleL_49, zleR_49, zltL_49, zltR_49, zeq_49, zxl_49, zil_49, zmL_58, zmR_58, zaL_58, zaR_58, zleL_58, zleR_58, zltL_58, zltR_58, zeq_58, zxl_58, zil_58, zmL_99, zmR_99, zaL_99, zaR_99, zleL_99, zleR_99, zltL_99, zltR_99, zeq_99, zxl_99, zil_99, zmL_100, zmR_100, zaL_100, zaR_100, zleL_100, zleR_100, zltL_100, zltR_100, zeq_100, zxl_100, zil_100, zmL_107, zmR_107, zaL_107, zaR_107, zleL_107, zleR_107, zltL_107, zltR_107, zeq_107, zxl_107, zil_107, zmL_126, zmR_126, zaL_126, zaR_126, zleL_126, zleR_126, zltL_126, zltR_126, zeq_126, zxl_126, zil_126, zmL_1000, zmR_1000, zaL_1000, zaR_1000, zleL_1000, zleR_1000, zltL_1000, zltR_1000, zeq_1000, zxl_1000, zil_1000, zmL_1605, zmR_1605, zaL_1605, zaR_1605, zleL_1605, zleR_1605, zltL_1605, zltR_1605, zeq_1605, zxl_1605, zil_1605]
      rw [if_pos (Nat.le_refl _)])
    (rn R) 0 0 zfu (by omega) (by show rn R < 4000; omega) trivial
  rw [zfold_sum0, Nat.zero_add] at key
  exact key
theorem e_X12_count (H : MS R S h) {p m : Nat} (hp : p < 7) (hm : h.1 176 p = nI m) : g_X12_countsAgainst h 139 (nI p) = some (nI (m + ic R S p)) := by
  have hn := H.n7
  have key := zloop (L := fun n i (s : Nat) => g_X12_countsAgainst_9 h 139 n (nI p) (nI s) i) (N := rn R) (f := fun b s => s + (if rl R = false ∨ al S b = true then sc S (b * 7 + p) else 0)) (fin := fun s => some (nI s)) (fun _ _ => True)
    (by
      intro n i s hi _
      show g_X12_countsAgainst_9 h 139 (n + 1) (nI p) (nI s) (nI i) = _
      rw [g_X12_countsAgainst_9]
      simp (disch := omega) only [H.n, H.lap, e_X12_isAlive H (show i < 7 by omega), g_X12_countsAgainst_37, H.c, zr_0_0, zr_0_1, zr_0_2, zr_0_3, zr_0_4, zr_0_5, zr_0_6, zr_0_7, zr_0_8, zr_1_0, zr_3_0, zr_3_1, zr_3_2, zr_3_3, zr_3_4, zr_3_5, zr_3_6, zr_10_0, zr_10_1, zr_13_0, zr_13_1, zr_13_4, zr_14_0, zr_14_1, zr_14_2, zr_14_3, zr_14_4, zr_14_5, zr_14_6, zr_21_0, zr_21_1, zr_24_0, zr_24_1, zr_24_2, zr_26_0, zr_26_1, zr_26_4, zr_27_0, zr_37_0, zr_37_1, zr_38_0, zr_44_0, zr_44_1, zr_44_2, zr_44_3, zr_45_0, zr_45_1, zr_52_0, zr_52_1, zr_59_0, zr_59_1, zr_66_0, zr_66_1, zr_73_0, zr_74_0, zr_74_1, zr_74_2, zr_74_3, zr_74_4, zr_74_5, zr_74_6, zr_74_7, zr_74_8, zr_74_9, zr_74_10, zr_74_11, zr_74_12, zr_74_13, zr_74_14, zr_74_15, zr_139_2, zr_139_10, zr_139_11, zr_139_12, zr_139_13, zr_139_14, zr_139_15, zr_139_16, zr_139_17, zr_139_18, zr_139_19, zr_139_20, zr_139_23, zr_139_24, zr_139_25, zr_139_26, zr_139_27, zr_139_28, zr_139_29, zr_139_30, zr_139_31, zr_139_32, zr_139_33, zr_139_34, zr_139_37, zr_139_38, zr_139_39, zr_139_40, zr_139_41, zr_139_42, zr_139_43, zr_139_44, zr_139_45, zr_139_46, zr_139_47, zr_139_48, zr_139_50, zin_t, zx_nI, nI_add, nI_mul, znI_le, znI_lt, znI_eq, znI_neg, zgu_t, zgu_f, zbind_s, zlet_e, zb_eq0, zb_eq1, zb_t, zb_f, zleL_0, zleR_0, zltL_0, zltR_0, zeq_0, zxl_0, zil_0, zmL_1, zmR_1, zaL_1, zaR_1, zleL_1, zleR_1, zltL_1, zltR_1, zeq_1, zxl_1, zil_1, zmL_2, zmR_2, zaL_2, zaR_2, zleL_2, zleR_2, zltL_2, zltR_2, zeq_2, zxl_2, zil_2, zmL_3, zmR_3, zaL_3, zaR_3, zleL_3, zleR_3, zltL_3, zltR_3, zeq_3, zxl_3, zil_3, zmL_4, zmR_4, zaL_4, zaR_4, zleL_4, zleR_4, zltL_4, zltR_4, zeq_4, zxl_4, zil_4, zmL_5, zmR_5, zaL_5, zaR_5, zleL_5, zleR_5, zltL_5, zltR_5, zeq_5, zxl_5, zil_5, zmL_6, zmR_6, zaL_6, zaR_6, zleL_6, zleR_6, zltL_6, zltR_6, zeq_6, zxl_6, zil_6, zmL_7, zmR_7, zaL_7, zaR_7, zleL_7, zleR_7, zltL_7, zltR_7, zeq_7, zxl_7, zil_7, zmL_8, zmR_8, zaL_8, zaR_8, zleL_8, zleR_8, zltL_8, zltR_8, zeq_8, zxl_8, zil_8, zmL_9, zmR_9, zaL_9, zaR_9, zleL_9, zleR_9, zltL_9, zltR_9, zeq_9, zxl_9, zil_9, zmL_10, zmR_10, zaL_10, zaR_10, zleL_10, zleR_10, zltL_10, zltR_10, zeq_10, zxl_10, zil_10, zmL_14, zmR_14, zaL_14, zaR_14, zleL_14, zleR_14, zltL_14, zltR_14, zeq_14, zxl_14, zil_14, zmL_15, zmR_15, zaL_15, zaR_15, zleL_15, zleR_15, zltL_15, zltR_15, zeq_15, zxl_15, zil_15, zmL_16, zmR_16, zaL_16, zaR_16, zleL_16, zleR_16, zltL_16, zltR_16, zeq_16, zxl_16, zil_16, zmL_20, zmR_20, zaL_20, zaR_20, zleL_20, zleR_20, zltL_20, zltR_20, zeq_20, zxl_20, zil_20, zmL_22, zmR_22, zaL_22, zaR_22, zleL_22, zleR_22, zltL_22, zltR_22, zeq_22, zxl_22, zil_22, zmL_23, zmR_23, zaL_23, zaR_23, zleL_23, zleR_23, zltL_23, zltR_23, zeq_23, zxl_23, zil_23, zmL_24, zmR_24, zaL_24, zaR_24, zleL_24, zleR_24, zltL_24, zltR_24, zeq_24, zxl_24, zil_24, zmL_25, zmR_25, zaL_25, zaR_25, zleL_25, zleR_25, zltL_25, zltR_25, zeq_25, zxl_25, zil_25, zmL_26, zmR_26, zaL_26, zaR_26, zleL_26, zleR_26, zltL_26, zltR_26, zeq_26, zxl_26, zil_26, zmL_32, zmR_32, zaL_32, zaR_32, zleL_32, zleR_32, zltL_32, zltR_32, zeq_32, zxl_32, zil_32, zmL_40, zmR_40, zaL_40, zaR_40, zleL_40, zleR_40, zltL_40, zltR_40, zeq_40, zxl_40, zil_40, zmL_49, zmR_49, zaL_49, zaR_49, zleL_49, zleR_49, zltL_49, zltR_49, zeq_49, zxl_49, zil_49, zmL_58, zmR_58, zaL_58, zaR_58, zleL_58, zleR_58, zltL_58, zltR_58, zeq_58, zxl_58, zil_58, zmL_99, zmR_99, zaL_99, zaR_99, zleL_99, zleR_99, zltL_99, zltR_99, zeq_99, zxl_99, zil_99, zmL_100, zmR_100, zaL_100, zaR_100, zleL_100, zleR_100, zltL_100, zltR_100, zeq_100, zxl_100, zil_100, zmL_107, zmR_107, zaL_107, zaR_107, zleL_107, zleR_107, zltL_107, zltR_107, zeq_107, zxl_107, zil_107, zmL_126, zmR_126, zaL_126, zaR_126, zleL_126, zleR_126, zltL_126, zltR_126, zeq_126, zxl_126, zil_126, zmL_1000, zmR_1000, zaL_1000, zaR_1000, zleL_1000, zleR_1000, zltL_1000, zltR_1000, zeq_1000, zxl_1000, zil_1000, zmL_1605, zmR_1605, zaL_1605, zaR_1605, zleL_1605, zleR_1605, zltL_1605, zltR_1605, zeq_1605, zxl_1605, zil_1605]
      rw [if_neg (by omega)]
      cases hl : rl R <;> cases ha : al S i <;> simp)
    (fun _ _ _ _ => trivial)
    (by
      intro n s _
      show g_X12_countsAgainst_9 h 139 (n + 1) (nI p) (nI s) (nI (rn R)) = _
      rw [g_X12_countsAgainst_9]
      simp (disch := omega) only [H.n, zr_0_0, zr_0_1, zr_0_2, zr_0_3, zr_0_4, zr_0_5, zr_0_6, zr_0_7, zr_0_8, zr_1_0, zr_3_0, zr_3_1, zr_3_2, zr_3_3, zr_3_4, zr_3_5, zr_3_6, zr_10_0, zr_10_1, zr_13_0, zr_13_1, zr_13_4, zr_14_0, zr_14_1, zr_14_2, zr_14_3, zr_14_4, zr_14_5, zr_14_6, zr_21_0, zr_21_1, zr_24_0, zr_24_1, zr_24_2, zr_26_0, zr_26_1, zr_26_4, zr_27_0, zr_37_0, zr_37_1, zr_38_0, zr_44_0, zr_44_1, zr_44_2, zr_44_3, zr_45_0, zr_45_1, zr_52_0, zr_52_1, zr_59_0, zr_59_1, zr_66_0, zr_66_1, zr_73_0, zr_74_0, zr_74_1, zr_74_2, zr_74_3, zr_74_4, zr_74_5, zr_74_6, zr_74_7, zr_74_8, zr_74_9, zr_74_10, zr_74_11, zr_74_12, zr_74_13, zr_74_14, zr_74_15, zr_139_2, zr_139_10, zr_139_11, zr_139_12, zr_139_13, zr_139_14, zr_139_15, zr_139_16, zr_139_17, zr_139_18, zr_139_19, zr_139_20, zr_139_23, zr_139_24, zr_139_25, zr_139_26, zr_139_27, zr_139_28, zr_139_29, zr_139_30, zr_139_31, zr_139_32, zr_139_33, zr_139_34, zr_139_37, zr_139_38, zr_139_39, zr_139_40, zr_139_41, zr_139_42, zr_139_43, zr_139_44, zr_139_45, zr_139_46, zr_139_47, zr_139_48, zr_139_50, zin_t, zx_nI, nI_add, nI_mul, znI_le, znI_lt, znI_eq, znI_neg, zgu_t, zgu_f, zbind_s, zlet_e, zb_eq0, zb_eq1, zb_t, zb_f, zleL_0, zleR_0, zltL_0, zltR_0, zeq_0, zxl_0, zil_0, zmL_1, zmR_1, zaL_1, zaR_1, zleL_1, zleR_1, zltL_1, zltR_1, zeq_1, zxl_1, zil_1, zmL_2, zmR_2, zaL_2, zaR_2, zleL_2, zleR_2, zltL_2, zltR_2, zeq_2, zxl_2, zil_2, zmL_3, zmR_3, zaL_3, zaR_3, zleL_3, zleR_3, zltL_3, zltR_3, zeq_3, zxl_3, zil_3, zmL_4, zmR_4, zaL_4, zaR_4, zleL_4, zleR_4, zltL_4, zltR_4, zeq_4, zxl_4, zil_4, zmL_5, zmR_5, zaL_5, zaR_5, zleL_5, zleR_5, zltL_5, zltR_5, zeq_5, zxl_5, zil_5, zmL_6, zmR_6, zaL_6, zaR_6, zleL_6, zleR_6, zltL_6, zltR_6, zeq_6, zxl_6, zil_6, zmL_7, zmR_7, zaL_7, zaR_7, zleL_7, zleR_7, zltL_7, zltR_7, zeq_7, zxl_7, zil_7, zmL_8, zmR_8, zaL_8, zaR_8, zleL_8, zleR_8, zltL_8, zltR_8, zeq_8, zxl_8, zil_8, zmL_9, zmR_9, zaL_9, zaR_9, zleL_9, zleR_9, zltL_9, zltR_9, zeq_9, zxl_9, zil_9, zmL_10, zmR_10, zaL_10, zaR_10, zleL_10, zleR_10, zltL_10, zltR_10, zeq_10, zxl_10, zil_10, zmL_14, zmR_14, zaL_14, zaR_14, zleL_14, zleR_14, zltL_14, zltR_14, zeq_14, zxl_14, zil_14, zmL_15, zmR_15, zaL_15, zaR_15, zleL_15, zleR_15, zltL_15, zltR_15, zeq_15, zxl_15, zil_15, zmL_16, zmR_16, zaL_16, zaR_16, zleL_16, zleR_16, zltL_16, zltR_16, zeq_16, zxl_16, zil_16, zmL_20, zmR_20, zaL_20, zaR_20, zleL_20, zleR_20, zltL_20, zltR_20, zeq_20, zxl_20, zil_20, zmL_22, zmR_22, zaL_22, zaR_22, zleL_22, zleR_22, zltL_22, zltR_22, zeq_22, zxl_22, zil_22, zmL_23, zmR_23, zaL_23, zaR_23, zleL_23, zleR_23, zltL_23, zltR_23, zeq_23, zxl_23, zil_23, zmL_24, zmR_24, zaL_24, zaR_24, zleL_24, zleR_24, zltL_24, zltR_24, zeq_24, zxl_24, zil_24, zmL_25, zmR_25, zaL_25, zaR_25, zleL_25, zleR_25, zltL_25, zltR_25, zeq_25, zxl_25, zil_25, zmL_26, zmR_26, zaL_26, zaR_26, zleL_26, zleR_26, zltL_26, zltR_26, zeq_26, zxl_26, zil_26, zmL_32, zmR_32, zaL_32, zaR_32, zleL_32, zleR_32, zltL_32, zltR_32, zeq_32, zxl_32, zil_32, zmL_40, zmR_40, zaL_40, zaR_40, zleL_40, zleR_40, zltL_40, zltR_40, zeq_40, zxl_40, zil_40, zmL_49, zmR_49, zaL_49, zaR_49, zleL_49, zleR_49, zltL_49, zltR_49, zeq_49, zxl_49, zil_49, zmL_58, zmR_58, zaL_58, zaR_58, zleL_58, zleR_58, zltL_58, zltR_58, zeq_58, zxl_58, zil_58, zmL_99, zmR_99, zaL_99, zaR_99, zleL_99, zleR_99, zltL_99, zltR_99, zeq_99, zxl_99, zil_99, zmL_100, zmR_100, zaL_100, zaR_100, zleL_100, zleR_100, zltL_100, zltR_100, zeq_100, zxl_100, zil_100, zmL_107, zmR_107, zaL_107, zaR_107, zleL_107, zleR_107, zltL_107, zltR_107, zeq_107, zxl_107, zil_107, zmL_126, zmR_126, zaL_126, zaR_126, zleL_126, zleR_126, zltL_126, zltR_126, zeq_126, zxl_126, zil_126, zmL_1000, zmR_1000, zaL_1000, zaR_1000, zleL_1000, zleR_1000, zltL_1000, zltR_1000, zeq_1000, zxl_1000, zil_1000, zmL_1605, zmR_1605, zaL_1605, zaR_1605, zleL_1605, zleR_1605, zltL_1605, zltR_1605, zeq_1605, zxl_1605, zil_1605]
      rw [if_pos (Nat.le_refl _)])
    (rn R) 0 m zfu (by omega) (by show rn R < 4000; omega) trivial
  rw [zfold_sum0] at key
  unfold g_X12_countsAgainst
  simp (disch := omega) only [hm, zr_0_0, zr_0_1, zr_0_2, zr_0_3, zr_0_4, zr_0_5, zr_0_6, zr_0_7, zr_0_8, zr_1_0, zr_3_0, zr_3_1, zr_3_2, zr_3_3, zr_3_4, zr_3_5, zr_3_6, zr_10_0, zr_10_1, zr_13_0, zr_13_1, zr_13_4, zr_14_0, zr_14_1, zr_14_2, zr_14_3, zr_14_4, zr_14_5, zr_14_6, zr_21_0, zr_21_1, zr_24_0, zr_24_1, zr_24_2, zr_26_0, zr_26_1, zr_26_4, zr_27_0, zr_37_0, zr_37_1, zr_38_0, zr_44_0, zr_44_1, zr_44_2, zr_44_3, zr_45_0, zr_45_1, zr_52_0, zr_52_1, zr_59_0, zr_59_1, zr_66_0, zr_66_1, zr_73_0, zr_74_0, zr_74_1, zr_74_2, zr_74_3, zr_74_4, zr_74_5, zr_74_6, zr_74_7, zr_74_8, zr_74_9, zr_74_10, zr_74_11, zr_74_12, zr_74_13, zr_74_14, zr_74_15, zr_139_2, zr_139_10, zr_139_11, zr_139_12, zr_139_13, zr_139_14, zr_139_15, zr_139_16, zr_139_17, zr_139_18, zr_139_19, zr_139_20, zr_139_23, zr_139_24, zr_139_25, zr_139_26, zr_139_27, zr_139_28, zr_139_29, zr_139_30, zr_139_31, zr_139_32, zr_139_33, zr_139_34, zr_139_37, zr_139_38, zr_139_39, zr_139_40, zr_139_41, zr_139_42, zr_139_43, zr_139_44, zr_139_45, zr_139_46, zr_139_47, zr_139_48, zr_139_50, zin_t, zx_nI, nI_add, nI_mul, znI_le, znI_lt, znI_eq, znI_neg, zgu_t, zgu_f, zbind_s, zlet_e, zb_eq0, zb_eq1, zb_t, zb_f, zleL_0, zleR_0, zltL_0, zltR_0, zeq_0, zxl_0, zil_0, zmL_1, zmR_1, zaL_1, zaR_1, zleL_1, zleR_1, zltL_1, zltR_1, zeq_1, zxl_1, zil_1, zmL_2, zmR_2, zaL_2, zaR_2, zleL_2, zleR_2, zltL_2, zltR_2, zeq_2, zxl_2, zil_2, zmL_3, zmR_3, zaL_3, zaR_3, zleL_3, zleR_3, zltL_3, zltR_3, zeq_3, zxl_3, zil_3, zmL_4, zmR_4, zaL_4, zaR_4, zleL_4, zleR_4, zltL_4, zltR_4, zeq_4, zxl_4, zil_4, zmL_5, zmR_5, zaL_5, zaR_5, zleL_5, zleR_5, zltL_5, zltR_5, zeq_5, zxl_5, zil_5, zmL_6, zmR_6, zaL_6, zaR_6, zleL_6, zleR_6, zltL_6, zltR_6, zeq_6, zxl_6, zil_6, zmL_7, zmR_7, zaL_7, zaR_7, zleL_7, zleR_7, zltL_7, zltR_7, zeq_7, zxl_7, zil_7, zmL_8, zmR_8, zaL_8, zaR_8, zleL_8, zleR_8, zltL_8, zltR_8, zeq_8, zxl_8, zil_8, zmL_9, zmR_9, zaL_9, zaR_9, zleL_9, zleR_9, zltL_9, zltR_9, zeq_9, zxl_9, zil_9, zmL_10, zmR_10, zaL_10, zaR_10, zleL_10, zleR_10, zltL_10, zltR_10, zeq_10, zxl_10, zil_10, zmL_14, zmR_14, zaL_14, zaR_14, zleL_14, zleR_14, zltL_14, zltR_14, zeq_14, zxl_14, zil_14, zmL_15, zmR_15, zaL_15, zaR_15, zleL_15, zleR_15, zltL_15, zltR_15, zeq_15, zxl_15, zil_15, zmL_16, zmR_16, zaL_16, zaR_16, zleL_16, zleR_16, zltL_16, zltR_16, zeq_16, zxl_16, zil_16, zmL_20, zmR_20, zaL_20, zaR_20, zleL_20, zleR_20, zltL_20, zltR_20, zeq_20, zxl_20, zil_20, zmL_22, zmR_22, zaL_22, zaR_22, zleL_22, zleR_22, zltL_22, zltR_22, zeq_22, zxl_22, zil_22, zmL_23, zmR_23, zaL_23, zaR_23, zleL_23, zleR_23, zltL_23, zltR_23, zeq_23, zxl_23, zil_23, zmL_24, zmR_24, zaL_24, zaR_24, zleL_24, zleR_24, zltL_24, zltR_24, zeq_24, zxl_24, zil_24, zmL_25, zmR_25, zaL_25, zaR_25, zleL_25, zleR_25, zltL_25, zltR_25, zeq_25, zxl_25, zil_25, zmL_26, zmR_26, zaL_26, zaR_26, zleL_26, zleR_26, zltL_26, zltR_26, zeq_26, zxl_26, zil_26, zmL_32, zmR_32, zaL_32, zaR_32, zleL_32, zleR_32, zltL_32, zltR_32, zeq_32, zxl_32, zil_32, zmL_40, zmR_40, zaL_40, zaR_40, zleL_40, zleR_40, zltL_40, zltR_40, zeq_40, zxl_40, zil_40, zmL_49, zmR_49, zaL_49, zaR_49, zleL_49, zleR_49, zltL_49, zltR_49, zeq_49, zxl_49, zil_49, zmL_58, zmR_58, zaL_58, zaR_58, zleL_58, zleR_58, zltL_58, zltR_58, zeq_58, zxl_58, zil_58, zmL_99, zmR_99, zaL_99, zaR_99, zleL_99, zleR_99, zltL_99, zltR_99, zeq_99, zxl_99, zil_99, zmL_100, zmR_100, zaL_100, zaR_100, zleL_100, zleR_100, zltL_100, zltR_100, zeq_100, zxl_100, zil_100, zmL_107, zmR_107, zaL_107, zaR_107, zleL_107, zleR_107, zltL_107, zltR_107, zeq_107, zxl_107, zil_107, zmL_126, zmR_126, zaL_126, zaR_126, zleL_126, zleR_126, zltL_126, zltR_126, zeq_126, zxl_126, zil_126, zmL_1000, zmR_1000, zaL_1000, zaR_1000, zleL_1000, zleR_1000, zltL_1000, zltR_1000, zeq_1000, zxl_1000, zil_1000, zmL_1605, zmR_1605, zaL_1605, zaR_1605, zleL_1605, zleR_1605, zltL_1605, zltR_1605, zeq_1605, zxl_1605, zil_1605]
  exact key
theorem e_X7_castBy (H : CS R S h t) {p : Nat} (hp : p < 7) : g_X7_castBy h t (nI p) = some (nI (iby R S p)) := by
  have hn := H.n7
  have key := zloop (L := fun n i (s : Nat) => g_X7_castBy_4 h t n (nI p) (nI s) i) (N := rn R) (f := fun q s => s + sc S (p * 7 + q)) (fin := fun s => some (nI s)) (fun _ _ => True)
    (by
      intro n i s hi _
      show g_X7_castBy_4 h t (n + 1) (nI p) (nI s) (nI i) = _
      rw [g_X7_castBy_4]
      simp (disch := omega) only [H.e0, H.e2, H.n, H.c, zin_t, zx_nI, nI_add, nI_mul, znI_le, znI_lt, znI_eq, znI_neg, zgu_t, zgu_f, zbind_s, zlet_e, zb_eq0, zb_eq1, zb_t, zb_f, zleL_0, zleR_0, zltL_0, zltR_0, zeq_0, zxl_0, zil_0, zmL_1, zmR_1, zaL_1, zaR_1, zleL_1, zleR_1, zltL_1, zltR_1, zeq_1, zxl_1, zil_1, zmL_2, zmR_2, zaL_2, zaR_2, zleL_2, zleR_2, zltL_2, zltR_2, zeq_2, zxl_2, zil_2, zmL_3, zmR_3, zaL_3, zaR_3, zleL_3, zleR_3, zltL_3, zltR_3, zeq_3, zxl_3, zil_3, zmL_4, zmR_4, zaL_4, zaR_4, zleL_4, zleR_4, zltL_4, zltR_4, zeq_4, zxl_4, zil_4, zmL_5, zmR_5, zaL_5, zaR_5, zleL_5, zleR_5, zltL_5, zltR_5, zeq_5, zxl_5, zil_5, zmL_6, zmR_6, zaL_6, zaR_6, zleL_6, zleR_6, zltL_6, zltR_6, zeq_6, zxl_6, zil_6, zmL_7, zmR_7, zaL_7, zaR_7, zleL_7, zleR_7, zltL_7, zltR_7, zeq_7, zxl_7, zil_7, zmL_8, zmR_8, zaL_8, zaR_8, zleL_8, zleR_8, zltL_8, zltR_8, zeq_8, zxl_8, zil_8, zmL_9, zmR_9, zaL_9, zaR_9, zleL_9, zleR_9, zltL_9, zltR_9, zeq_9, zxl_9, zil_9, zmL_10, zmR_10, zaL_10, zaR_10, zleL_10, zleR_10, zltL_10, zltR_10, zeq_10, zxl_10, zil_10, zmL_14, zmR_14, zaL_14, zaR_14, zleL_14, zleR_14, zltL_14, zltR_14, zeq_14, zxl_14, zil_14, zmL_15, zmR_15, zaL_15, zaR_15, zleL_15, zleR_15, zltL_15, zltR_15, zeq_15, zxl_15, zil_15, zmL_16, zmR_16, zaL_16, zaR_16, zleL_16, zleR_16, zltL_16, zltR_16, zeq_16, zxl_16, zil_16, zmL_20, zmR_20, zaL_20, zaR_20, zleL_20, zleR_20, zltL_20, zltR_20, zeq_20, zxl_20, zil_20, zmL_22, zmR_22, zaL_22, zaR_22, zleL_22, zleR_22, zltL_22, zltR_22, zeq_22, zxl_22, zil_22, zmL_23, zmR_23, zaL_23, zaR_23, zleL_23, zleR_23, zltL_23, zltR_23, zeq_23, zxl_23, zil_23, zmL_24, zmR_24, zaL_24, zaR_24, zleL_24, zleR_24, zltL_24, zltR_24, zeq_24, zxl_24, zil_24, zmL_25, zmR_25, zaL_25, zaR_25, zleL_25, zleR_25, zltL_25, zltR_25, zeq_25, zxl_25, zil_25, zmL_26, zmR_26, zaL_26, zaR_26, zleL_26, zleR_26, zltL_26, zltR_26, zeq_26, zxl_26, zil_26, zmL_32, zmR_32, zaL_32, zaR_32, zleL_32, zleR_32, zltL_32, zltR_32, zeq_32, zxl_32, zil_32, zmL_40, zmR_40, zaL_40, zaR_40, zleL_40, zleR_40, zltL_40, zltR_40, zeq_40, zxl_40, zil_40, zmL_49, zmR_49, zaL_49, zaR_49, zleL_49, zleR_49, zltL_49, zltR_49, zeq_49, zxl_49, zil_49, zmL_58, zmR_58, zaL_58, zaR_58, zleL_58, zleR_58, zltL_58, zltR_58, zeq_58, zxl_58, zil_58, zmL_99, zmR_99, zaL_99, zaR_99, zleL_99, zleR_99, zltL_99, zltR_99, zeq_99, zxl_99, zil_99, zmL_100, zmR_100, zaL_100, zaR_100, zleL_100, zleR_100, zltL_100, zltR_100, zeq_100, zxl_100, zil_100, zmL_107, zmR_107, zaL_107, zaR_107, zleL_107, zleR_107, zltL_107, zltR_107, zeq_107, zxl_107, zil_107, zmL_126, zmR_126, zaL_126, zaR_126, zleL_126, zleR_126, zltL_126, zltR_126, zeq_126, zxl_126, zil_126, zmL_1000, zmR_1000, zaL_1000, zaR_1000, zleL_1000, zleR_1000, zltL_1000, zltR_1000, zeq_1000, zxl_1000, zil_1000, zmL_1605, zmR_1605, zaL_1605, zaR_1605, zleL_1605, zleR_1605, zltL_1605, zltR_1605, zeq_1605, zxl_1605, zil_1605]
      rw [if_neg (by omega)])
    (fun _ _ _ _ => trivial)
    (by
      intro n s _
      show g_X7_castBy_4 h t (n + 1) (nI p) (nI s) (nI (rn R)) = _
      rw [g_X7_castBy_4]
      simp (disch := omega) only [H.e0, H.n, zin_t, zx_nI, nI_add, nI_mul, znI_le, znI_lt, znI_eq, znI_neg, zgu_t, zgu_f, zbind_s, zlet_e, zb_eq0, zb_eq1, zb_t, zb_f, zleL_0, zleR_0, zltL_0, zltR_0, zeq_0, zxl_0, zil_0, zmL_1, zmR_1, zaL_1, zaR_1, zleL_1, zleR_1, zltL_1, zltR_1, zeq_1, zxl_1, zil_1, zmL_2, zmR_2, zaL_2, zaR_2, zleL_2, zleR_2, zltL_2, zltR_2, zeq_2, zxl_2, zil_2, zmL_3, zmR_3, zaL_3, zaR_3, zleL_3, zleR_3, zltL_3, zltR_3, zeq_3, zxl_3, zil_3, zmL_4, zmR_4, zaL_4, zaR_4, zleL_4, zleR_4, zltL_4, zltR_4, zeq_4, zxl_4, zil_4, zmL_5, zmR_5, zaL_5, zaR_5, zleL_5, zleR_5, zltL_5, zltR_5, zeq_5, zxl_5, zil_5, zmL_6, zmR_6, zaL_6, zaR_6, zleL_6, zleR_6, zltL_6, zltR_6, zeq_6, zxl_6, zil_6, zmL_7, zmR_7, zaL_7, zaR_7, zleL_7, zleR_7, zltL_7, zltR_7, zeq_7, zxl_7, zil_7, zmL_8, zmR_8, zaL_8, zaR_8, zleL_8, zleR_8, zltL_8, zltR_8, zeq_8, zxl_8, zil_8, zmL_9, zmR_9, zaL_9, zaR_9, zleL_9, zleR_9, zltL_9, zltR_9, zeq_9, zxl_9, zil_9, zmL_10, zmR_10, zaL_10, zaR_10, zleL_10, zleR_10, zltL_10, zltR_10, zeq_10, zxl_10, zil_10, zmL_14, zmR_14, zaL_14, zaR_14, zleL_14, zleR_14, zltL_14, zltR_14, zeq_14, zxl_14, zil_14, zmL_15, zmR_15, zaL_15, zaR_15, zleL_15, zleR_15, zltL_15, zltR_15, zeq_15, zxl_15, zil_15, zmL_16, zmR_16, zaL_16, zaR_16, zleL_16, zleR_16, zltL_16, zltR_16, zeq_16, zxl_16, zil_16, zmL_20, zmR_20, zaL_20, zaR_20, zleL_20, zleR_20, zltL_20, zltR_20, zeq_20, zxl_20, zil_20, zmL_22, zmR_22, zaL_22, zaR_22, zleL_22, zleR_22, zltL_22, zltR_22, zeq_22, zxl_22, zil_22, zmL_23, zmR_23, zaL_23, zaR_23, zleL_23, zleR_23, zltL_23, zltR_23, zeq_23, zxl_23, zil_23, zmL_24, zmR_24, zaL_24, zaR_24, zleL_24, zleR_24, zltL_24, zltR_24, zeq_24, zxl_24, zil_24, zmL_25, zmR_25, zaL_25, zaR_25, zleL_25, zleR_25, zltL_25, zltR_25, zeq_25, zxl_25, zil_25, zmL_26, zmR_26, zaL_26, zaR_26, zleL_26, zleR_26, zltL_26, zltR_26, zeq_26, zxl_26, zil_26, zmL_32, zmR_32, zaL_32, zaR_32, zleL_32, zleR_32, zltL_32, zltR_32, zeq_32, zxl_32, zil_32, zmL_40, zmR_40, zaL_40, zaR_40, zleL_40, zleR_40, zltL_40, zltR_40, zeq_40, zxl_40, zil_40, zmL_49, zmR_49, zaL_49, zaR_49, zleL_49, zleR_49, zltL_49, zltR_49, zeq_49, zxl_49, zil_49, zmL_58, zmR_58, zaL_58, zaR_58, zleL_58, zleR_58, zltL_58, zltR_58, zeq_58, zxl_58, zil_58, zmL_99, zmR_99, zaL_99, zaR_99, zleL_99, zleR_99, zltL_99, zltR_99, zeq_99, zxl_99, zil_99, zmL_100, zmR_100, zaL_100, zaR_100, zleL_100, zleR_100, zltL_100, zltR_100, zeq_100, zxl_100, zil_100, zmL_107, zmR_107, zaL_107, zaR_107, zleL_107, zleR_107, zltL_107, zltR_107, zeq_107, zxl_107, zil_107, zmL_126, zmR_126, zaL_126, zaR_126, zleL_126, zleR_126, zltL_126, zltR_126, zeq_126, zxl_126, zil_126, zmL_1000, zmR_1000, zaL_1000, zaR_1000, zleL_1000, zleR_1000, zltL_1000, zltR_1000, zeq_1000, zxl_1000, zil_1000, zmL_1605, zmR_1605, zaL_1605, zaR_1605, zleL_1605, zleR_1605, zltL_1605, zltR_1605, zeq_1605, zxl_1605, zil_1605]
      rw [if_pos (Nat.le_refl _)])
    (rn R) 0 0 zfu (by omega) (by show rn R < 4000; omega) trivial
  rw [zfold_sum0, Nat.zero_add] at key
  exact key
theorem e_X12_castBy (H : MS R S h) {p : Nat} (hp : p < rn R) : g_X12_castBy h 139 (nI p) = some (nI (iby R S p)) := by
  have hn := H.n7
  have key := zloop (L := fun n i (s : Nat) => g_X12_castBy_4 h 139 n (nI p) (nI s) i) (N := 7) (f := fun q s => s + sc S (p * 7 + q)) (fin := fun s => some (nI s)) (fun _ _ => True)
    (by
      intro n i s hi _
      show g_X12_castBy_4 h 139 (n + 1) (nI p) (nI s) (nI i) = _
      rw [g_X12_castBy_4]
      simp (disch := omega) only [H.c, zr_0_0, zr_0_1, zr_0_2, zr_0_3, zr_0_4, zr_0_5, zr_0_6, zr_0_7, zr_0_8, zr_1_0, zr_3_0, zr_3_1, zr_3_2, zr_3_3, zr_3_4, zr_3_5, zr_3_6, zr_10_0, zr_10_1, zr_13_0, zr_13_1, zr_13_4, zr_14_0, zr_14_1, zr_14_2, zr_14_3, zr_14_4, zr_14_5, zr_14_6, zr_21_0, zr_21_1, zr_24_0, zr_24_1, zr_24_2, zr_26_0, zr_26_1, zr_26_4, zr_27_0, zr_37_0, zr_37_1, zr_38_0, zr_44_0, zr_44_1, zr_44_2, zr_44_3, zr_45_0, zr_45_1, zr_52_0, zr_52_1, zr_59_0, zr_59_1, zr_66_0, zr_66_1, zr_73_0, zr_74_0, zr_74_1, zr_74_2, zr_74_3, zr_74_4, zr_74_5, zr_74_6, zr_74_7, zr_74_8, zr_74_9, zr_74_10, zr_74_11, zr_74_12, zr_74_13, zr_74_14, zr_74_15, zr_139_2, zr_139_10, zr_139_11, zr_139_12, zr_139_13, zr_139_14, zr_139_15, zr_139_16, zr_139_17, zr_139_18, zr_139_19, zr_139_20, zr_139_23, zr_139_24, zr_139_25, zr_139_26, zr_139_27, zr_139_28, zr_139_29, zr_139_30, zr_139_31, zr_139_32, zr_139_33, zr_139_34, zr_139_37, zr_139_38, zr_139_39, zr_139_40, zr_139_41, zr_139_42, zr_139_43, zr_139_44, zr_139_45, zr_139_46, zr_139_47, zr_139_48, zr_139_50, zin_t, zx_nI, nI_add, nI_mul, znI_le, znI_lt, znI_eq, znI_neg, zgu_t, zgu_f, zbind_s, zlet_e, zb_eq0, zb_eq1, zb_t, zb_f, zleL_0, zleR_0, zltL_0, zltR_0, zeq_0, zxl_0, zil_0, zmL_1, zmR_1, zaL_1, zaR_1, zleL_1, zleR_1, zltL_1, zltR_1, zeq_1, zxl_1, zil_1, zmL_2, zmR_2, zaL_2, zaR_2, zleL_2, zleR_2, zltL_2, zltR_2, zeq_2, zxl_2, zil_2, zmL_3, zmR_3, zaL_3, zaR_3, zleL_3, zleR_3, zltL_3, zltR_3, zeq_3, zxl_3, zil_3, zmL_4, zmR_4, zaL_4, zaR_4, zleL_4, zleR_4, zltL_4, zltR_4, zeq_4, zxl_4, zil_4, zmL_5, zmR_5, zaL_5, zaR_5, zleL_5, zleR_5, zltL_5, zltR_5, zeq_5, zxl_5, zil_5, zmL_6, zmR_6, zaL_6, zaR_6, zleL_6, zleR_6, zltL_6, zltR_6, zeq_6, zxl_6, zil_6, zmL_7, zmR_7, zaL_7, zaR_7, zleL_7, zleR_7, zltL_7, zltR_7, zeq_7, zxl_7, zil_7, zmL_8, zmR_8, zaL_8, zaR_8, zleL_8, zleR_8, zltL_8, zltR_8, zeq_8, zxl_8, zil_8, zmL_9, zmR_9, zaL_9, zaR_9, zleL_9, zleR_9, zltL_9, zltR_9, zeq_9, zxl_9, zil_9, zmL_10, zmR_10, zaL_10, zaR_10, zleL_10, zleR_10, zltL_10, zltR_10, zeq_10, zxl_10, zil_10, zmL_14, zmR_14, zaL_14, zaR_14, zleL_14, zleR_14, zltL_14, zltR_14, zeq_14, zxl_14, zil_14, zmL_15, zmR_15, zaL_15, zaR_15, zleL_15, zleR_15, zltL_15, zltR_15, zeq_15, zxl_15, zil_15, zmL_16, zmR_16, zaL_16, zaR_16, zleL_16, zleR_16, zltL_16, zltR_16, zeq_16, zxl_16, zil_16, zmL_20, zmR_20, zaL_20, zaR_20, zleL_20, zleR_20, zltL_20, zltR_20, zeq_20, zxl_20, zil_20, zmL_22, zmR_22, zaL_22, zaR_22, zleL_22, zleR_22, zltL_22, zltR_22, zeq_22, zxl_22, zil_22, zmL_23, zmR_23, zaL_23, zaR_23, zleL_23, zleR_23, zltL_23, zltR_23, zeq_23, zxl_23, zil_23, zmL_24, zmR_24, zaL_24, zaR_24, zleL_24, zleR_24, zltL_24, zltR_24, zeq_24, zxl_24, zil_24, zmL_25, zmR_25, zaL_25, zaR_25, zleL_25, zleR_25, zltL_25, zltR_25, zeq_25, zxl_25, zil_25, zmL_26, zmR_26, zaL_26, zaR_26, zleL_26, zleR_26, zltL_26, zltR_26, zeq_26, zxl_26, zil_26, zmL_32, zmR_32, zaL_32, zaR_32, zleL_32, zleR_32, zltL_32, zltR_32, zeq_32, zxl_32, zil_32, zmL_40, zmR_40, zaL_40, zaR_40, zleL_40, zleR_40, zltL_40, zltR_40, zeq_40, zxl_40, zil_40, zmL_49, zmR_49, zaL_49, zaR_49, zleL_49, zleR_49, zltL_49, zltR_49, zeq_49, zxl_49, zil_49, zmL_58, zmR_58, zaL_58, zaR_58, zleL_58, zleR_58, zltL_58, zltR_58, zeq_58, zxl_58, zil_58, zmL_99, zmR_99, zaL_99, zaR_99, zleL_99, zleR_99, zltL_99, zltR_99, zeq_99, zxl_99, zil_99, zmL_100, zmR_100, zaL_100, zaR_100, zleL_100, zleR_100, zltL_100, zltR_100, zeq_100, zxl_100, zil_100, zmL_107, zmR_107, zaL_107, zaR_107, zleL_107, zleR_107, zltL_107, zltR_107, zeq_107, zxl_107, zil_107, zmL_126, zmR_126, zaL_126, zaR_126, zleL_126, zleR_126, zltL_126, zltR_126, zeq_126, zxl_126, zil_126, zmL_1000, zmR_1000, zaL_1000, zaR_1000, zleL_1000, zleR_1000, zltL_1000, zltR_1000, zeq_1000, zxl_1000, zil_1000, zmL_1605, zmR_1605, zaL_1605, zaR_1605, zleL_1605, zleR_1605, zltL_1605, zltR_1605, zeq_1605, zxl_1605, zil_1605]
      rw [if_neg (by omega)])
    (fun _ _ _ _ => trivial)
    (by
      intro n s _
      show g_X12_castBy_4 h 139 (n + 1) (nI p) (nI s) (nI 7) = _
      rw [g_X12_castBy_4]
      simp (disch := omega) only [zin_t, zx_nI, nI_add, nI_mul, znI_le, znI_lt, znI_eq, znI_neg, zgu_t, zgu_f, zbind_s, zlet_e, zb_eq0, zb_eq1, zb_t, zb_f, zleL_0, zleR_0, zltL_0, zltR_0, zeq_0, zxl_0, zil_0, zmL_1, zmR_1, zaL_1, zaR_1, zleL_1, zleR_1, zltL_1, zltR_1, zeq_1, zxl_1, zil_1, zmL_2, zmR_2, zaL_2, zaR_2, zleL_2, zleR_2, zltL_2, zltR_2, zeq_2, zxl_2, zil_2, zmL_3, zmR_3, zaL_3, zaR_3, zleL_3, zleR_3, zltL_3, zltR_3, zeq_3, zxl_3, zil_3, zmL_4, zmR_4, zaL_4, zaR_4, zleL_4, zleR_4, zltL_4, zltR_4, zeq_4, zxl_4, zil_4, zmL_5, zmR_5, zaL_5, zaR_5, zleL_5, zleR_5, zltL_5, zltR_5, zeq_5, zxl_5, zil_5, zmL_6, zmR_6, zaL_6, zaR_6, zleL_6, zleR_6, zltL_6, zltR_6, zeq_6, zxl_6, zil_6, zmL_7, zmR_7, zaL_7, zaR_7, zleL_7, zleR_7, zltL_7, zltR_7, zeq_7, zxl_7, zil_7, zmL_8, zmR_8, zaL_8, zaR_8, zleL_8, zleR_8, zltL_8, zltR_8, zeq_8, zxl_8, zil_8, zmL_9, zmR_9, zaL_9, zaR_9, zleL_9, zleR_9, zltL_9, zltR_9, zeq_9, zxl_9, zil_9, zmL_10, zmR_10, zaL_10, zaR_10, zleL_10, zleR_10, zltL_10, zltR_10, zeq_10, zxl_10, zil_10, zmL_14, zmR_14, zaL_14, zaR_14, zleL_14, zleR_14, zltL_14, zltR_14, zeq_14, zxl_14, zil_14, zmL_15, zmR_15, zaL_15, zaR_15, zleL_15, zleR_15, zltL_15, zltR_15, zeq_15, zxl_15, zil_15, zmL_16, zmR_16, zaL_16, zaR_16, zleL_16, zleR_16, zltL_16, zltR_16, zeq_16, zxl_16, zil_16, zmL_20, zmR_20, zaL_20, zaR_20, zleL_20, zleR_20, zltL_20, zltR_20, zeq_20, zxl_20, zil_20, zmL_22, zmR_22, zaL_22, zaR_22, zleL_22, zleR_22, zltL_22, zltR_22, zeq_22, zxl_22, zil_22, zmL_23, zmR_23, zaL_23, zaR_23, zleL_23, zleR_23, zltL_23, zltR_23, zeq_23, zxl_23, zil_23, zmL_24, zmR_24, zaL_24, zaR_24, zleL_24, zleR_24, zltL_24, zltR_24, zeq_24, zxl_24, zil_24, zmL_25, zmR_25, zaL_25, zaR_25, zleL_25, zleR_25, zltL_25, zltR_25, zeq_25, zxl_25, zil_25, zmL_26, zmR_26, zaL_26, zaR_26, zleL_26, zleR_26, zltL_26, zltR_26, zeq_26, zxl_26, zil_26, zmL_32, zmR_32, zaL_32, zaR_32, zleL_32, zleR_32, zltL_32, zltR_32, zeq_32, zxl_32, zil_32, zmL_40, zmR_40, zaL_40, zaR_40, zleL_40, zleR_40, zltL_40, zltR_40, zeq_40, zxl_40, zil_40, zmL_49, zmR_49, zaL_49, zaR_49, zleL_49, zleR_49, zltL_49, zltR_49, zeq_49, zxl_49, zil_49, zmL_58, zmR_58, zaL_58, zaR_58, zleL_58, zleR_58, zltL_58, zltR_58, zeq_58, zxl_58, zil_58, zmL_99, zmR_99, zaL_99, zaR_99, zleL_99, zleR_99, zltL_99, zltR_99, zeq_99, zxl_99, zil_99, zmL_100, zmR_100, zaL_100, zaR_100, zleL_100, zleR_100, zltL_100, zltR_100, zeq_100, zxl_100, zil_100, zmL_107, zmR_107, zaL_107, zaR_107, zleL_107, zleR_107, zltL_107, zltR_107, zeq_107, zxl_107, zil_107, zmL_126, zmR_126, zaL_126, zaR_126, zleL_126, zleR_126, zltL_126, zltR_126, zeq_126, zxl_126, zil_126, zmL_1000, zmR_1000, zaL_1000, zaR_1000, zleL_1000, zleR_1000, zltL_1000, zltR_1000, zeq_1000, zxl_1000, zil_1000, zmL_1605, zmR_1605, zaL_1605, zaR_1605, zleL_1605, zleR_1605, zltL_1605, zltR_1605, zeq_1605, zxl_1605, zil_1605]
      rw [if_pos (Nat.le_refl _)])
    7 0 0 zfu (by omega) (by decide) trivial
  rw [zfold_sum0, Nat.zero_add] at key
  have e : zsum (fun q => sc S (p * 7 + q)) 7 = iby R S p := zsum_ext hn (fun i a b => H.2.1.2.2.1 p i (by omega) b (Or.inr a))
  rw [e] at key
  exact key
theorem e_X7_winsTie (H : CS R S h t) {p q : Nat} (hp : p < rn R) (hq : q < rn R) : g_X7_winsTie h t (nI p) (nI q) = some (iw R p q) := by
  have hn := H.n7
  have h1 := H.1.ag hp
  have h2 := H.1.ag hq
  unfold g_X7_winsTie iw
  simp (disch := omega) only [H.e0, H.you, H.ag, zr_0_0, zr_0_1, zr_0_2, zr_0_3, zr_0_4, zr_0_5, zr_0_6, zr_0_7, zr_0_8, zr_1_0, zr_3_0, zr_3_1, zr_3_2, zr_3_3, zr_3_4, zr_3_5, zr_3_6, zr_10_0, zr_10_1, zr_13_0, zr_13_1, zr_13_4, zr_14_0, zr_14_1, zr_14_2, zr_14_3, zr_14_4, zr_14_5, zr_14_6, zr_21_0, zr_21_1, zr_24_0, zr_24_1, zr_24_2, zr_26_0, zr_26_1, zr_26_4, zr_27_0, zr_37_0, zr_37_1, zr_38_0, zr_44_0, zr_44_1, zr_44_2, zr_44_3, zr_45_0, zr_45_1, zr_52_0, zr_52_1, zr_59_0, zr_59_1, zr_66_0, zr_66_1, zr_73_0, zr_74_0, zr_74_1, zr_74_2, zr_74_3, zr_74_4, zr_74_5, zr_74_6, zr_74_7, zr_74_8, zr_74_9, zr_74_10, zr_74_11, zr_74_12, zr_74_13, zr_74_14, zr_74_15, zr_139_2, zr_139_10, zr_139_11, zr_139_12, zr_139_13, zr_139_14, zr_139_15, zr_139_16, zr_139_17, zr_139_18, zr_139_19, zr_139_20, zr_139_23, zr_139_24, zr_139_25, zr_139_26, zr_139_27, zr_139_28, zr_139_29, zr_139_30, zr_139_31, zr_139_32, zr_139_33, zr_139_34, zr_139_37, zr_139_38, zr_139_39, zr_139_40, zr_139_41, zr_139_42, zr_139_43, zr_139_44, zr_139_45, zr_139_46, zr_139_47, zr_139_48, zr_139_50, zin_t, zx_nI, nI_add, nI_mul, znI_le, znI_lt, znI_eq, znI_neg, zgu_t, zgu_f, zbind_s, zlet_e, zb_eq0, zb_eq1, zb_t, zb_f, zleL_0, zleR_0, zltL_0, zltR_0, zeq_0, zxl_0, zil_0, zmL_1, zmR_1, zaL_1, zaR_1, zleL_1, zleR_1, zltL_1, zltR_1, zeq_1, zxl_1, zil_1, zmL_2, zmR_2, zaL_2, zaR_2, zleL_2, zleR_2, zltL_2, zltR_2, zeq_2, zxl_2, zil_2, zmL_3, zmR_3, zaL_3, zaR_3, zleL_3, zleR_3, zltL_3, zltR_3, zeq_3, zxl_3, zil_3, zmL_4, zmR_4, zaL_4, zaR_4, zleL_4, zleR_4, zltL_4, zltR_4, zeq_4, zxl_4, zil_4, zmL_5, zmR_5, zaL_5, zaR_5, zleL_5, zleR_5, zltL_5, zltR_5, zeq_5, zxl_5, zil_5, zmL_6, zmR_6, zaL_6, zaR_6, zleL_6, zleR_6, zltL_6, zltR_6, zeq_6, zxl_6, zil_6, zmL_7, zmR_7, zaL_7, zaR_7, zleL_7, zleR_7, zltL_7, zltR_7, zeq_7, zxl_7, zil_7, zmL_8, zmR_8, zaL_8, zaR_8, zleL_8, zleR_8, zltL_8, zltR_8, zeq_8, zxl_8, zil_8, zmL_9, zmR_9, zaL_9, zaR_9, zleL_9, zleR_9, zltL_9, zltR_9, zeq_9, zxl_9, zil_9, zmL_10, zmR_10, zaL_10, zaR_10, zleL_10, zleR_10, zltL_10, zltR_10, zeq_10, zxl_10, zil_10, zmL_14, zmR_14, zaL_14, zaR_14, zleL_14, zleR_14, zltL_14, zltR_14, zeq_14, zxl_14, zil_14, zmL_15, zmR_15, zaL_15, zaR_15, zleL_15, zleR_15, zltL_15, zltR_15, zeq_15, zxl_15, zil_15, zmL_16, zmR_16, zaL_16, zaR_16, zleL_16, zleR_16, zltL_16, zltR_16, zeq_16, zxl_16, zil_16, zmL_20, zmR_20, zaL_20, zaR_20, zleL_20, zleR_20, zltL_20, zltR_20, zeq_20, zxl_20, zil_20, zmL_22, zmR_22, zaL_22, zaR_22, zleL_22, zleR_22, zltL_22, zltR_22, zeq_22, zxl_22, zil_22, zmL_23, zmR_23, zaL_23, zaR_23, zleL_23, zleR_23, zltL_23, zltR_23, zeq_23, zxl_23, zil_23, zmL_24, zmR_24, zaL_24, zaR_24, zleL_24, zleR_24, zltL_24, zltR_24, zeq_24, zxl_24, zil_24, zmL_25, zmR_25, zaL_25, zaR_25, zleL_25, zleR_25, zltL_25, zltR_25, zeq_25, zxl_25, zil_25, zmL_26, zmR_26, zaL_26, zaR_26, zleL_26, zleR_26, zltL_26, zltR_26, zeq_26, zxl_26, zil_26, zmL_32, zmR_32, zaL_32, zaR_32, zleL_32, zleR_32, zltL_32, zltR_32, zeq_32, zxl_32, zil_32, zmL_40, zmR_40, zaL_40, zaR_40, zleL_40, zleR_40, zltL_40, zltR_40, zeq_40, zxl_40, zil_40, zmL_49, zmR_49, zaL_49, zaR_49, zleL_49, zleR_49, zltL_49, zltR_49, zeq_49, zxl_49, zil_49, zmL_58, zmR_58, zaL_58, zaR_58, zleL_58, zleR_58, zltL_58, zltR_58, zeq_58, zxl_58, zil_58, zmL_99, zmR_99, zaL_99, zaR_99, zleL_99, zleR_99, zltL_99, zltR_99, zeq_99, zxl_99, zil_99, zmL_100, zmR_100, zaL_100, zaR_100, zleL_100, zleR_100, zltL_100, zltR_100, zeq_100, zxl_100, zil_100, zmL_107, zmR_107, zaL_107, zaR_107, zleL_107, zleR_107, zltL_107, zltR_107, zeq_107, zxl_107, zil_107, zmL_126, zmR_126, zaL_126, zaR_126, zleL_126, zleR_126, zltL_126, zltR_126, zeq_126, zxl_126, zil_126, zmL_1000, zmR_1000, zaL_1000, zaR_1000, zleL_1000, zleR_1000, zltL_1000, zltR_1000, zeq_1000, zxl_1000, zil_1000, zmL_1605, zmR_1605, zaL_1605, zaR_1605, zleL_1605, zleR_1605, zltL_1605, zltR_1605, zeq_1605, zxl_1605, zil_1605]
  have hd : ∀ a, a ≤ 99 → ∀ b, b ≤ 99 → ((nI a - nI b = 0) = (a = b)) ∧ ((nI a - nI b ≤ 0) = (a ≤ b)) ∧ ((0 ≤ nI a - nI b) = (b ≤ a)) := zsub99
  obtain ⟨d1, d2, d3⟩ := hd _ h1 _ h2
  simp only [d1, d2, d3]
  by_cases c : ra R p = ra R q
  · simp only [c, if_true]
    by_cases c2 : q ≤ p
    · rw [if_pos c2]; simp; omega
    · rw [if_neg c2]; simp; omega
  · simp only [if_neg c]
    cases hy : ry R
    · simp
      by_cases c2 : ra R p ≤ ra R q
      · rw [if_pos c2]; simp; omega
      · rw [if_neg c2]; simp; omega
    · simp
      by_cases c2 : ra R q ≤ ra R p
      · rw [if_pos c2]; simp; omega
      · rw [if_neg c2]; simp; omega
theorem e_X12_isRather (H : MS R S h) {p q : Nat} (hp : p < rn R) (hq : q < rn R) : g_X12_isRather h 139 (nI p) (nI q) = some (iw R p q) := by
  have hn := H.n7
  have h1 := H.1.ag hp
  have h2 := H.1.ag hq
  unfold g_X12_isRather iw
  simp (disch := omega) only [H.you, H.ag, zr_0_0, zr_0_1, zr_0_2, zr_0_3, zr_0_4, zr_0_5, zr_0_6, zr_0_7, zr_0_8, zr_1_0, zr_3_0, zr_3_1, zr_3_2, zr_3_3, zr_3_4, zr_3_5, zr_3_6, zr_10_0, zr_10_1, zr_13_0, zr_13_1, zr_13_4, zr_14_0, zr_14_1, zr_14_2, zr_14_3, zr_14_4, zr_14_5, zr_14_6, zr_21_0, zr_21_1, zr_24_0, zr_24_1, zr_24_2, zr_26_0, zr_26_1, zr_26_4, zr_27_0, zr_37_0, zr_37_1, zr_38_0, zr_44_0, zr_44_1, zr_44_2, zr_44_3, zr_45_0, zr_45_1, zr_52_0, zr_52_1, zr_59_0, zr_59_1, zr_66_0, zr_66_1, zr_73_0, zr_74_0, zr_74_1, zr_74_2, zr_74_3, zr_74_4, zr_74_5, zr_74_6, zr_74_7, zr_74_8, zr_74_9, zr_74_10, zr_74_11, zr_74_12, zr_74_13, zr_74_14, zr_74_15, zr_139_2, zr_139_10, zr_139_11, zr_139_12, zr_139_13, zr_139_14, zr_139_15, zr_139_16, zr_139_17, zr_139_18, zr_139_19, zr_139_20, zr_139_23, zr_139_24, zr_139_25, zr_139_26, zr_139_27, zr_139_28, zr_139_29, zr_139_30, zr_139_31, zr_139_32, zr_139_33, zr_139_34, zr_139_37, zr_139_38, zr_139_39, zr_139_40, zr_139_41, zr_139_42, zr_139_43, zr_139_44, zr_139_45, zr_139_46, zr_139_47, zr_139_48, zr_139_50, zin_t, zx_nI, nI_add, nI_mul, znI_le, znI_lt, znI_eq, znI_neg, zgu_t, zgu_f, zbind_s, zlet_e, zb_eq0, zb_eq1, zb_t, zb_f, zleL_0, zleR_0, zltL_0, zltR_0, zeq_0, zxl_0, zil_0, zmL_1, zmR_1, zaL_1, zaR_1, zleL_1, zleR_1, zltL_1, zltR_1, zeq_1, zxl_1, zil_1, zmL_2, zmR_2, zaL_2, zaR_2, zleL_2, zleR_2, zltL_2, zltR_2, zeq_2, zxl_2, zil_2, zmL_3, zmR_3, zaL_3, zaR_3, zleL_3, zleR_3, zltL_3, zltR_3, zeq_3, zxl_3, zil_3, zmL_4, zmR_4, zaL_4, zaR_4, zleL_4, zleR_4, zltL_4, zltR_4, zeq_4, zxl_4, zil_4, zmL_5, zmR_5, zaL_5, zaR_5, zleL_5, zleR_5, zltL_5, zltR_5, zeq_5, zxl_5, zil_5, zmL_6, zmR_6, zaL_6, zaR_6, zleL_6, zleR_6, zltL_6, zltR_6, zeq_6, zxl_6, zil_6, zmL_7, zmR_7, zaL_7, zaR_7, zleL_7, zleR_7, zltL_7, zltR_7, zeq_7, zxl_7, zil_7, zmL_8, zmR_8, zaL_8, zaR_8, zleL_8, zleR_8, zltL_8, zltR_8, zeq_8, zxl_8, zil_8, zmL_9, zmR_9, zaL_9, zaR_9, zleL_9, zleR_9, zltL_9, zltR_9, zeq_9, zxl_9, zil_9, zmL_10, zmR_10, zaL_10, zaR_10, zleL_10, zleR_10, zltL_10, zltR_10, zeq_10, zxl_10, zil_10, zmL_14, zmR_14, zaL_14, zaR_14, zleL_14, zleR_14, zltL_14, zltR_14, zeq_14, zxl_14, zil_14, zmL_15, zmR_15, zaL_15, zaR_15, zleL_15, zleR_15, zltL_15, zltR_15, zeq_15, zxl_15, zil_15, zmL_16, zmR_16, zaL_16, zaR_16, zleL_16, zleR_16, zltL_16, zltR_16, zeq_16, zxl_16, zil_16, zmL_20, zmR_20, zaL_20, zaR_20, zleL_20, zleR_20, zltL_20, zltR_20, zeq_20, zxl_20, zil_20, zmL_22, zmR_22, zaL_22, zaR_22, zleL_22, zleR_22, zltL_22, zltR_22, zeq_22, zxl_22, zil_22, zmL_23, zmR_23, zaL_23, zaR_23, zleL_23, zleR_23, zltL_23, zltR_23, zeq_23, zxl_23, zil_23, zmL_24, zmR_24, zaL_24, zaR_24, zleL_24, zleR_24, zltL_24, zltR_24, zeq_24, zxl_24, zil_24, zmL_25, zmR_25, zaL_25, zaR_25, zleL_25, zleR_25, zltL_25, zltR_25, zeq_25, zxl_25, zil_25, zmL_26, zmR_26, zaL_26, zaR_26, zleL_26, zleR_26, zltL_26, zltR_26, zeq_26, zxl_26, zil_26, zmL_32, zmR_32, zaL_32, zaR_32, zleL_32, zleR_32, zltL_32, zltR_32, zeq_32, zxl_32, zil_32, zmL_40, zmR_40, zaL_40, zaR_40, zleL_40, zleR_40, zltL_40, zltR_40, zeq_40, zxl_40, zil_40, zmL_49, zmR_49, zaL_49, zaR_49, zleL_49, zleR_49, zltL_49, zltR_49, zeq_49, zxl_49, zil_49, zmL_58, zmR_58, zaL_58, zaR_58, zleL_58, zleR_58, zltL_58, zltR_58, zeq_58, zxl_58, zil_58, zmL_99, zmR_99, zaL_99, zaR_99, zleL_99, zleR_99, zltL_99, zltR_99, zeq_99, zxl_99, zil_99, zmL_100, zmR_100, zaL_100, zaR_100, zleL_100, zleR_100, zltL_100, zltR_100, zeq_100, zxl_100, zil_100, zmL_107, zmR_107, zaL_107, zaR_107, zleL_107, zleR_107, zltL_107, zltR_107, zeq_107, zxl_107, zil_107, zmL_126, zmR_126, zaL_126, zaR_126, zleL_126, zleR_126, zltL_126, zltR_126, zeq_126, zxl_126, zil_126, zmL_1000, zmR_1000, zaL_1000, zaR_1000, zleL_1000, zleR_1000, zltL_1000, zltR_1000, zeq_1000, zxl_1000, zil_1000, zmL_1605, zmR_1605, zaL_1605, zaR_1605, zleL_1605, zleR_1605, zltL_1605, zltR_1605, zeq_1605, zxl_1605, zil_1605]
  by_cases c : ra R p = ra R q
  · simp only [c, if_true]
    by_cases c2 : q ≤ p
    · rw [if_pos c2]; simp; omega
    · rw [if_neg c2]; simp; omega
  · simp only [if_neg c]
    cases hy : ry R
    · simp
      by_cases c2 : ra R p ≤ ra R q
      · rw [if_pos c2]; simp; omega
      · rw [if_neg c2]; simp; omega
    · simp
      by_cases c2 : ra R q ≤ ra R p
      · rw [if_pos c2]; simp; omega
      · rw [if_neg c2]; simp; omega
end Q1
