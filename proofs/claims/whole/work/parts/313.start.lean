/-! the world behind the constructors -/
def lad (x m o : Nat) (w vm vp v : Nat → Nat) : List Nat := [x, w 0, w 1, w 2, w 3, w 4, w 5, w 6, w 7, w 8, w 9, w 10, w 11, w 12, w 13, w 14, w 15, w 16, w 17, w 18, w 19, w 20, w 21, w 22, w 23, w 24, w 25, w 26, w 27, w 28, w 29, w 30, w 31, w 32, w 33, w 34, w 35, w 36, w 37, w 38, w 39, w 40, w 41, w 42, w 43, vm 0, vm 1, vm 2, vm 3, vm 4, vm 5, vm 6, vm 7, vm 8, vm 9, vm 10, vm 11, vm 12, vm 13, vm 14, vm 15, vm 16, vm 17, vm 18, vm 19, vm 20, vm 21, vm 22, vm 23, vm 24, vm 25, vm 26, vm 27, w 44, vp 0, vp 1, vp 2, vp 3, vp 4, vp 5, vp 6, vp 7, vp 8, vp 9, vp 10, vp 11, vp 12, vp 13, vp 14, vp 15, vp 16, vp 17, vp 18, vp 19, vp 20, vp 21, vp 22, vp 23, vp 24, vp 25, vp 26, vp 27, vp 28, vp 29, vp 30, vp 31, vp 32, vp 33, vp 34, vp 35, vp 36, vp 37, vp 38, vp 39, vp 40, vp 41, vp 42, vp 43, vp 44, vp 45, vp 46, vp 47, vp 48, vp 49, vp 50, vp 51, vp 52, vp 53, vp 54, vp 55, vp 56, vp 57, vp 58, vp 59, vp 60, vp 61, vp 62, vp 63, vp 64, m, v 0, v 1, v 2, v 3, v 4, v 5, v 6, v 7, v 8, v 9, v 10, v 11, v 12, v 13, v 14, v 15, v 16, v 17, v 18, v 19, v 20, v 21, v 22, v 23, v 24, v 25, v 26, v 27, v 28, v 29, v 30, v 31, v 32, v 33, v 34, v 35, v 36, o]
def lG (G : zG) (x m o : Nat) (w vm vp v : Nat → Nat) : zG := (G.1, G.2.1, G.2.2.1, fun t => (lad x m o w vm vp v).getD t 0)
def h0i (t : Nat) : Nat → Int32 := if t = 141 then upd (fun _ => 0) 1 7 else if t = 146 then kh 14 else if t = 3 then (fun k => if k = 8 then 7 else 0) else if t = 14 then (fun k => if k = 8 then 7 else 0) else if t = 37 then (fun k => if k = 3 then 1022 else 0) else if t = 45 then (fun k => if k = 3 then 1022 else 0) else if t = 52 then (fun k => if k = 3 then 1022 else 0) else if t = 59 then (fun k => if k = 3 then 1022 else 0) else if t = 66 then (fun k => if k = 3 then 1022 else 0) else fun _ => 0
def h0 : zH := (h0i, fun _ _ => 0)
theorem la_0 (G : zG) (x m o : Nat) (w vm vp v : Nat → Nat) : (lG G x m o w vm vp v).2.2.2 0 = x := rfl
theorem la_1 (G : zG) (x m o : Nat) (w vm vp v : Nat → Nat) : (lG G x m o w vm vp v).2.2.2 1 = w 0 := rfl
theorem la_2 (G : zG) (x m o : Nat) (w vm vp v : Nat → Nat) : (lG G x m o w vm vp v).2.2.2 2 = w 1 := rfl
theorem la_3 (G : zG) (x m o : Nat) (w vm vp v : Nat → Nat) : (lG G x m o w vm vp v).2.2.2 3 = w 2 := rfl
theorem la_4 (G : zG) (x m o : Nat) (w vm vp v : Nat → Nat) : (lG G x m o w vm vp v).2.2.2 4 = w 3 := rfl
theorem la_5 (G : zG) (x m o : Nat) (w vm vp v : Nat → Nat) : (lG G x m o w vm vp v).2.2.2 5 = w 4 := rfl
theorem la_6 (G : zG) (x m o : Nat) (w vm vp v : Nat → Nat) : (lG G x m o w vm vp v).2.2.2 6 = w 5 := rfl
theorem la_7 (G : zG) (x m o : Nat) (w vm vp v : Nat → Nat) : (lG G x m o w vm vp v).2.2.2 7 = w 6 := rfl
theorem la_8 (G : zG) (x m o : Nat) (w vm vp v : Nat → Nat) : (lG G x m o w vm vp v).2.2.2 8 = w 7 := rfl
theorem la_9 (G : zG) (x m o : Nat) (w vm vp v : Nat → Nat) : (lG G x m o w vm vp v).2.2.2 9 = w 8 := rfl
theorem la_10 (G : zG) (x m o : Nat) (w vm vp v : Nat → Nat) : (lG G x m o w vm vp v).2.2.2 10 = w 9 := rfl
theorem la_11 (G : zG) (x m o : Nat) (w vm vp v : Nat → Nat) : (lG G x m o w vm vp v).2.2.2 11 = w 10 := rfl
theorem la_12 (G : zG) (x m o : Nat) (w vm vp v : Nat → Nat) : (lG G x m o w vm vp v).2.2.2 12 = w 11 := rfl
theorem la_13 (G : zG) (x m o : Nat) (w vm vp v : Nat → Nat) : (lG G x m o w vm vp v).2.2.2 13 = w 12 := rfl
theorem la_14 (G : zG) (x m o : Nat) (w vm vp v : Nat → Nat) : (lG G x m o w vm vp v).2.2.2 14 = w 13 := rfl
theorem la_15 (G : zG) (x m o : Nat) (w vm vp v : Nat → Nat) : (lG G x m o w vm vp v).2.2.2 15 = w 14 := rfl
theorem la_16 (G : zG) (x m o : Nat) (w vm vp v : Nat → Nat) : (lG G x m o w vm vp v).2.2.2 16 = w 15 := rfl
theorem la_17 (G : zG) (x m o : Nat) (w vm vp v : Nat → Nat) : (lG G x m o w vm vp v).2.2.2 17 = w 16 := rfl
theorem la_18 (G : zG) (x m o : Nat) (w vm vp v : Nat → Nat) : (lG G x m o w vm vp v).2.2.2 18 = w 17 := rfl
theorem la_19 (G : zG) (x m o : Nat) (w vm vp v : Nat → Nat) : (lG G x m o w vm vp v).2.2.2 19 = w 18 := rfl
theorem la_20 (G : zG) (x m o : Nat) (w vm vp v : Nat → Nat) : (lG G x m o w vm vp v).2.2.2 20 = w 19 := rfl
theorem la_21 (G : zG) (x m o : Nat) (w vm vp v : Nat → Nat) : (lG G x m o w vm vp v).2.2.2 21 = w 20 := rfl
theorem la_22 (G : zG) (x m o : Nat) (w vm vp v : Nat → Nat) : (lG G x m o w vm vp v).2.2.2 22 = w 21 := rfl
theorem la_23 (G : zG) (x m o : Nat) (w vm vp v : Nat → Nat) : (lG G x m o w vm vp v).2.2.2 23 = w 22 := rfl
theorem la_24 (G : zG) (x m o : Nat) (w vm vp v : Nat → Nat) : (lG G x m o w vm vp v).2.2.2 24 = w 23 := rfl
theorem la_25 (G : zG) (x m o : Nat) (w vm vp v : Nat → Nat) : (lG G x m o w vm vp v).2.2.2 25 = w 24 := rfl
theorem la_26 (G : zG) (x m o : Nat) (w vm vp v : Nat → Nat) : (lG G x m o w vm vp v).2.2.2 26 = w 25 := rfl
theorem la_27 (G : zG) (x m o : Nat) (w vm vp v : Nat → Nat) : (lG G x m o w vm vp v).2.2.2 27 = w 26 := rfl
theorem la_28 (G : zG) (x m o : Nat) (w vm vp v : Nat → Nat) : (lG G x m o w vm vp v).2.2.2 28 = w 27 := rfl
theorem la_29 (G : zG) (x m o : Nat) (w vm vp v : Nat → Nat) : (lG G x m o w vm vp v).2.2.2 29 = w 28 := rfl
theorem la_30 (G : zG) (x m o : Nat) (w vm vp v : Nat → Nat) : (lG G x m o w vm vp v).2.2.2 30 = w 29 := rfl
theorem la_31 (G : zG) (x m o : Nat) (w vm vp v : Nat → Nat) : (lG G x m o w vm vp v).2.2.2 31 = w 30 := rfl
theorem la_32 (G : zG) (x m o : Nat) (w vm vp v : Nat → Nat) : (lG G x m o w vm vp v).2.2.2 32 = w 31 := rfl
theorem la_33 (G : zG) (x m o : Nat) (w vm vp v : Nat → Nat) : (lG G x m o w vm vp v).2.2.2 33 = w 32 := rfl
theorem la_34 (G : zG) (x m o : Nat) (w vm vp v : Nat → Nat) : (lG G x m o w vm vp v).2.2.2 34 = w 33 := rfl
theorem la_35 (G : zG) (x m o : Nat) (w vm vp v : Nat → Nat) : (lG G x m o w vm vp v).2.2.2 35 = w 34 := rfl
theorem la_36 (G : zG) (x m o : Nat) (w vm vp v : Nat → Nat) : (lG G x m o w vm vp v).2.2.2 36 = w 35 := rfl
theorem la_37 (G : zG) (x m o : Nat) (w vm vp v : Nat → Nat) : (lG G x m o w vm vp v).2.2.2 37 = w 36 := rfl
theorem la_38 (G : zG) (x m o : Nat) (w vm vp v : Nat → Nat) : (lG G x m o w vm vp v).2.2.2 38 = w 37 := rfl
theorem la_39 (G : zG) (x m o : Nat) (w vm vp v : Nat → Nat) : (lG G x m o w vm vp v).2.2.2 39 = w 38 := rfl
theorem la_40 (G : zG) (x m o : Nat) (w vm vp v : Nat → Nat) : (lG G x m o w vm vp v).2.2.2 40 = w 39 := rfl
theorem la_41 (G : zG) (x m o : Nat) (w vm vp v : Nat → Nat) : (lG G x m o w vm vp v).2.2.2 41 = w 40 := rfl
theorem la_42 (G : zG) (x m o : Nat) (w vm vp v : Nat → Nat) : (lG G x m o w vm vp v).2.2.2 42 = w 41 := rfl
theorem la_43 (G : zG) (x m o : Nat) (w vm vp v : Nat → Nat) : (lG G x m o w vm vp v).2.2.2 43 = w 42 := rfl
theorem la_44 (G : zG) (x m o : Nat) (w vm vp v : Nat → Nat) : (lG G x m o w vm vp v).2.2.2 44 = w 43 := rfl
theorem la_45 (G : zG) (x m o : Nat) (w vm vp v : Nat → Nat) : (lG G x m o w vm vp v).2.2.2 45 = vm 0 := rfl
theorem la_46 (G : zG) (x m o : Nat) (w vm vp v : Nat → Nat) : (lG G x m o w vm vp v).2.2.2 46 = vm 1 := rfl
theorem la_47 (G : zG) (x m o : Nat) (w vm vp v : Nat → Nat) : (lG G x m o w vm vp v).2.2.2 47 = vm 2 := rfl
theorem la_48 (G : zG) (x m o : Nat) (w vm vp v : Nat → Nat) : (lG G x m o w vm vp v).2.2.2 48 = vm 3 := rfl
theorem la_49 (G : zG) (x m o : Nat) (w vm vp v : Nat → Nat) : (lG G x m o w vm vp v).2.2.2 49 = vm 4 := rfl
theorem la_50 (G : zG) (x m o : Nat) (w vm vp v : Nat → Nat) : (lG G x m o w vm vp v).2.2.2 50 = vm 5 := rfl
theorem la_51 (G : zG) (x m o : Nat) (w vm vp v : Nat → Nat) : (lG G x m o w vm vp v).2.2.2 51 = vm 6 := rfl
theorem la_52 (G : zG) (x m o : Nat) (w vm vp v : Nat → Nat) : (lG G x m o w vm vp v).2.2.2 52 = vm 7 := rfl
theorem la_53 (G : zG) (x m o : Nat) (w vm vp v : Nat → Nat) : (lG G x m o w vm vp v).2.2.2 53 = vm 8 := rfl
theorem la_54 (G : zG) (x m o : Nat) (w vm vp v : Nat → Nat) : (lG G x m o w vm vp v).2.2.2 54 = vm 9 := rfl
theorem la_55 (G : zG) (x m o : Nat) (w vm vp v : Nat → Nat) : (lG G x m o w vm vp v).2.2.2 55 = vm 10 := rfl
theorem la_56 (G : zG) (x m o : Nat) (w vm vp v : Nat → Nat) : (lG G x m o w vm vp v).2.2.2 56 = vm 11 := rfl
theorem la_57 (G : zG) (x m o : Nat) (w vm vp v : Nat → Nat) : (lG G x m o w vm vp v).2.2.2 57 = vm 12 := rfl
theorem la_58 (G : zG) (x m o : Nat) (w vm vp v : Nat → Nat) : (lG G x m o w vm vp v).2.2.2 58 = vm 13 := rfl
theorem la_59 (G : zG) (x m o : Nat) (w vm vp v : Nat → Nat) : (lG G x m o w vm vp v).2.2.2 59 = vm 14 := rfl
theorem la_60 (G : zG) (x m o : Nat) (w vm vp v : Nat → Nat) : (lG G x m o w vm vp v).2.2.2 60 = vm 15 := rfl
theorem la_61 (G : zG) (x m o : Nat) (w vm vp v : Nat → Nat) : (lG G x m o w vm vp v).2.2.2 61 = vm 16 := rfl
theorem la_62 (G : zG) (x m o : Nat) (w vm vp v : Nat → Nat) : (lG G x m o w vm vp v).2.2.2 62 = vm 17 := rfl
theorem la_63 (G : zG) (x m o : Nat) (w vm vp v : Nat → Nat) : (lG G x m o w vm vp v).2.2.2 63 = vm 18 := rfl
theorem la_64 (G : zG) (x m o : Nat) (w vm vp v : Nat → Nat) : (lG G x m o w vm vp v).2.2.2 64 = vm 19 := rfl
theorem la_65 (G : zG) (x m o : Nat) (w vm vp v : Nat → Nat) : (lG G x m o w vm vp v).2.2.2 65 = vm 20 := rfl
theorem la_66 (G : zG) (x m o : Nat) (w vm vp v : Nat → Nat) : (lG G x m o w vm vp v).2.2.2 66 = vm 21 := rfl
theorem la_67 (G : zG) (x m o : Nat) (w vm vp v : Nat → Nat) : (lG G x m o w vm vp v).2.2.2 67 = vm 22 := rfl
theorem la_68 (G : zG) (x m o : Nat) (w vm vp v : Nat → Nat) : (lG G x m o w vm vp v).2.2.2 68 = vm 23 := rfl
theorem la_69 (G : zG) (x m o : Nat) (w vm vp v : Nat → Nat) : (lG G x m o w vm vp v).2.2.2 69 = vm 24 := rfl
theorem la_70 (G : zG) (x m o : Nat) (w vm vp v : Nat → Nat) : (lG G x m o w vm vp v).2.2.2 70 = vm 25 := rfl
theorem la_71 (G : zG) (x m o : Nat) (w vm vp v : Nat → Nat) : (lG G x m o w vm vp v).2.2.2 71 = vm 26 := rfl
theorem la_72 (G : zG) (x m o : Nat) (w vm vp v : Nat → Nat) : (lG G x m o w vm vp v).2.2.2 72 = vm 27 := rfl
theorem la_73 (G : zG) (x m o : Nat) (w vm vp v : Nat → Nat) : (lG G x m o w vm vp v).2.2.2 73 = w 44 := rfl
theorem la_74 (G : zG) (x m o : Nat) (w vm vp v : Nat → Nat) : (lG G x m o w vm vp v).2.2.2 74 = vp 0 := rfl
theorem la_75 (G : zG) (x m o : Nat) (w vm vp v : Nat → Nat) : (lG G x m o w vm vp v).2.2.2 75 = vp 1 := rfl
theorem la_76 (G : zG) (x m o : Nat) (w vm vp v : Nat → Nat) : (lG G x m o w vm vp v).2.2.2 76 = vp 2 := rfl
theorem la_77 (G : zG) (x m o : Nat) (w vm vp v : Nat → Nat) : (lG G x m o w vm vp v).2.2.2 77 = vp 3 := rfl
theorem la_78 (G : zG) (x m o : Nat) (w vm vp v : Nat → Nat) : (lG G x m o w vm vp v).2.2.2 78 = vp 4 := rfl
theorem la_79 (G : zG) (x m o : Nat) (w vm vp v : Nat → Nat) : (lG G x m o w vm vp v).2.2.2 79 = vp 5 := rfl
theorem la_80 (G : zG) (x m o : Nat) (w vm vp v : Nat → Nat) : (lG G x m o w vm vp v).2.2.2 80 = vp 6 := rfl
theorem la_81 (G : zG) (x m o : Nat) (w vm vp v : Nat → Nat) : (lG G x m o w vm vp v).2.2.2 81 = vp 7 := rfl
theorem la_82 (G : zG) (x m o : Nat) (w vm vp v : Nat → Nat) : (lG G x m o w vm vp v).2.2.2 82 = vp 8 := rfl
theorem la_83 (G : zG) (x m o : Nat) (w vm vp v : Nat → Nat) : (lG G x m o w vm vp v).2.2.2 83 = vp 9 := rfl
theorem la_84 (G : zG) (x m o : Nat) (w vm vp v : Nat → Nat) : (lG G x m o w vm vp v).2.2.2 84 = vp 10 := rfl
theorem la_85 (G : zG) (x m o : Nat) (w vm vp v : Nat → Nat) : (lG G x m o w vm vp v).2.2.2 85 = vp 11 := rfl
theorem la_86 (G : zG) (x m o : Nat) (w vm vp v : Nat → Nat) : (lG G x m o w vm vp v).2.2.2 86 = vp 12 := rfl
theorem la_87 (G : zG) (x m o : Nat) (w vm vp v : Nat → Nat) : (lG G x m o w vm vp v).2.2.2 87 = vp 13 := rfl
theorem la_88 (G : zG) (x m o : Nat) (w vm vp v : Nat → Nat) : (lG G x m o w vm vp v).2.2.2 88 = vp 14 := rfl
theorem la_89 (G : zG) (x m o : Nat) (w vm vp v : Nat → Nat) : (lG G x m o w vm vp v).2.2.2 89 = vp 15 := rfl
theorem la_90 (G : zG) (x m o : Nat) (w vm vp v : Nat → Nat) : (lG G x m o w vm vp v).2.2.2 90 = vp 16 := rfl
theorem la_91 (G : zG) (x m o : Nat) (w vm vp v : Nat → Nat) : (lG G x m o w vm vp v).2.2.2 91 = vp 17 := rfl
theorem la_92 (G : zG) (x m o : Nat) (w vm vp v : Nat → Nat) : (lG G x m o w vm vp v).2.2.2 92 = vp 18 := rfl
theorem la_93 (G : zG) (x m o : Nat) (w vm vp v : Nat → Nat) : (lG G x m o w vm vp v).2.2.2 93 = vp 19 := rfl
theorem la_94 (G : zG) (x m o : Nat) (w vm vp v : Nat → Nat) : (lG G x m o w vm vp v).2.2.2 94 = vp 20 := rfl
theorem la_95 (G : zG) (x m o : Nat) (w vm vp v : Nat → Nat) : (lG G x m o w vm vp v).2.2.2 95 = vp 21 := rfl
theorem la_96 (G : zG) (x m o : Nat) (w vm vp v : Nat → Nat) : (lG G x m o w vm vp v).2.2.2 96 = vp 22 := rfl
theorem la_97 (G : zG) (x m o : Nat) (w vm vp v : Nat → Nat) : (lG G x m o w vm vp v).2.2.2 97 = vp 23 := rfl
theorem la_98 (G : zG) (x m o : Nat) (w vm vp v : Nat → Nat) : (lG G x m o w vm vp v).2.2.2 98 = vp 24 := rfl
theorem la_99 (G : zG) (x m o : Nat) (w vm vp v : Nat → Nat) : (lG G x m o w vm vp v).2.2.2 99 = vp 25 := rfl
theorem la_100 (G : zG) (x m o : Nat) (w vm vp v : Nat → Nat) : (lG G x m o w vm vp v).2.2.2 100 = vp 26 := rfl
theorem la_101 (G : zG) (x m o : Nat) (w vm vp v : Nat → Nat) : (lG G x m o w vm vp v).2.2.2 101 = vp 27 := rfl
theorem la_102 (G : zG) (x m o : Nat) (w vm vp v : Nat → Nat) : (lG G x m o w vm vp v).2.2.2 102 = vp 28 := rfl
theorem la_103 (G : zG) (x m o : Nat) (w vm vp v : Nat → Nat) : (lG G x m o w vm vp v).2.2.2 103 = vp 29 := rfl
theorem la_104 (G : zG) (x m o : Nat) (w vm vp v : Nat → Nat) : (lG G x m o w vm vp v).2.2.2 104 = vp 30 := rfl
theorem la_105 (G : zG) (x m o : Nat) (w vm vp v : Nat → Nat) : (lG G x m o w vm vp v).2.2.2 105 = vp 31 := rfl
theorem la_106 (G : zG) (x m o : Nat) (w vm vp v : Nat → Nat) : (lG G x m o w vm vp v).2.2.2 106 = vp 32 := rfl
theorem la_107 (G : zG) (x m o : Nat) (w vm vp v : Nat → Nat) : (lG G x m o w vm vp v).2.2.2 107 = vp 33 := rfl
theorem la_108 (G : zG) (x m o : Nat) (w vm vp v : Nat → Nat) : (lG G x m o w vm vp v).2.2.2 108 = vp 34 := rfl
theorem la_109 (G : zG) (x m o : Nat) (w vm vp v : Nat → Nat) : (lG G x m o w vm vp v).2.2.2 109 = vp 35 := rfl
theorem la_110 (G : zG) (x m o : Nat) (w vm vp v : Nat → Nat) : (lG G x m o w vm vp v).2.2.2 110 = vp 36 := rfl
theorem la_111 (G : zG) (x m o : Nat) (w vm vp v : Nat → Nat) : (lG G x m o w vm vp v).2.2.2 111 = vp 37 := rfl
theorem la_112 (G : zG) (x m o : Nat) (w vm vp v : Nat → Nat) : (lG G x m o w vm vp v).2.2.2 112 = vp 38 := rfl
theorem la_113 (G : zG) (x m o : Nat) (w vm vp v : Nat → Nat) : (lG G x m o w vm vp v).2.2.2 113 = vp 39 := rfl
theorem la_114 (G : zG) (x m o : Nat) (w vm vp v : Nat → Nat) : (lG G x m o w vm vp v).2.2.2 114 = vp 40 := rfl
theorem la_115 (G : zG) (x m o : Nat) (w vm vp v : Nat → Nat) : (lG G x m o w vm vp v).2.2.2 115 = vp 41 := rfl
theorem la_116 (G : zG) (x m o : Nat) (w vm vp v : Nat → Nat) : (lG G x m o w vm vp v).2.2.2 116 = vp 42 := rfl
theorem la_117 (G : zG) (x m o : Nat) (w vm vp v : Nat → Nat) : (lG G x m o w vm vp v).2.2.2 117 = vp 43 := rfl
theorem la_118 (G : zG) (x m o : Nat) (w vm vp v : Nat → Nat) : (lG G x m o w vm vp v).2.2.2 118 = vp 44 := rfl
theorem la_119 (G : zG) (x m o : Nat) (w vm vp v : Nat → Nat) : (lG G x m o w vm vp v).2.2.2 119 = vp 45 := rfl
theorem la_120 (G : zG) (x m o : Nat) (w vm vp v : Nat → Nat) : (lG G x m o w vm vp v).2.2.2 120 = vp 46 := rfl
theorem la_121 (G : zG) (x m o : Nat) (w vm vp v : Nat → Nat) : (lG G x m o w vm vp v).2.2.2 121 = vp 47 := rfl
theorem la_122 (G : zG) (x m o : Nat) (w vm vp v : Nat → Nat) : (lG G x m o w vm vp v).2.2.2 122 = vp 48 := rfl
theorem la_123 (G : zG) (x m o : Nat) (w vm vp v : Nat → Nat) : (lG G x m o w vm vp v).2.2.2 123 = vp 49 := rfl
theorem la_124 (G : zG) (x m o : Nat) (w vm vp v : Nat → Nat) : (lG G x m o w vm vp v).2.2.2 124 = vp 50 := rfl
theorem la_125 (G : zG) (x m o : Nat) (w vm vp v : Nat → Nat) : (lG G x m o w vm vp v).2.2.2 125 = vp 51 := rfl
theorem la_126 (G : zG) (x m o : Nat) (w vm vp v : Nat → Nat) : (lG G x m o w vm vp v).2.2.2 126 = vp 52 := rfl
theorem la_127 (G : zG) (x m o : Nat) (w vm vp v : Nat → Nat) : (lG G x m o w vm vp v).2.2.2 127 = vp 53 := rfl
theorem la_128 (G : zG) (x m o : Nat) (w vm vp v : Nat → Nat) : (lG G x m o w vm vp v).2.2.2 128 = vp 54 := rfl
theorem la_129 (G : zG) (x m o : Nat) (w vm vp v : Nat → Nat) : (lG G x m o w vm vp v).2.2.2 129 = vp 55 := rfl
theorem la_130 (G : zG) (x m o : Nat) (w vm vp v : Nat → Nat) : (lG G x m o w vm vp v).2.2.2 130 = vp 56 := rfl
theorem la_131 (G : zG) (x m o : Nat) (w vm vp v : Nat → Nat) : (lG G x m o w vm vp v).2.2.2 131 = vp 57 := rfl
theorem la_132 (G : zG) (x m o : Nat) (w vm vp v : Nat → Nat) : (lG G x m o w vm vp v).2.2.2 132 = vp 58 := rfl
theorem la_133 (G : zG) (x m o : Nat) (w vm vp v : Nat → Nat) : (lG G x m o w vm vp v).2.2.2 133 = vp 59 := rfl
theorem la_134 (G : zG) (x m o : Nat) (w vm vp v : Nat → Nat) : (lG G x m o w vm vp v).2.2.2 134 = vp 60 := rfl
theorem la_135 (G : zG) (x m o : Nat) (w vm vp v : Nat → Nat) : (lG G x m o w vm vp v).2.2.2 135 = vp 61 := rfl
theorem la_136 (G : zG) (x m o : Nat) (w vm vp v : Nat → Nat) : (lG G x m o w vm vp v).2.2.2 136 = vp 62 := rfl
theorem la_137 (G : zG) (x m o : Nat) (w vm vp v : Nat → Nat) : (lG G x m o w vm vp v).2.2.2 137 = vp 63 := rfl
theorem la_138 (G : zG) (x m o : Nat) (w vm vp v : Nat → Nat) : (lG G x m o w vm vp v).2.2.2 138 = vp 64 := rfl
theorem la_139 (G : zG) (x m o : Nat) (w vm vp v : Nat → Nat) : (lG G x m o w vm vp v).2.2.2 139 = m := rfl
theorem la_140 (G : zG) (x m o : Nat) (w vm vp v : Nat → Nat) : (lG G x m o w vm vp v).2.2.2 140 = v 0 := rfl
theorem la_141 (G : zG) (x m o : Nat) (w vm vp v : Nat → Nat) : (lG G x m o w vm vp v).2.2.2 141 = v 1 := rfl
theorem la_142 (G : zG) (x m o : Nat) (w vm vp v : Nat → Nat) : (lG G x m o w vm vp v).2.2.2 142 = v 2 := rfl
theorem la_143 (G : zG) (x m o : Nat) (w vm vp v : Nat → Nat) : (lG G x m o w vm vp v).2.2.2 143 = v 3 := rfl
theorem la_144 (G : zG) (x m o : Nat) (w vm vp v : Nat → Nat) : (lG G x m o w vm vp v).2.2.2 144 = v 4 := rfl
theorem la_145 (G : zG) (x m o : Nat) (w vm vp v : Nat → Nat) : (lG G x m o w vm vp v).2.2.2 145 = v 5 := rfl
theorem la_146 (G : zG) (x m o : Nat) (w vm vp v : Nat → Nat) : (lG G x m o w vm vp v).2.2.2 146 = v 6 := rfl
theorem la_147 (G : zG) (x m o : Nat) (w vm vp v : Nat → Nat) : (lG G x m o w vm vp v).2.2.2 147 = v 7 := rfl
theorem la_148 (G : zG) (x m o : Nat) (w vm vp v : Nat → Nat) : (lG G x m o w vm vp v).2.2.2 148 = v 8 := rfl
theorem la_149 (G : zG) (x m o : Nat) (w vm vp v : Nat → Nat) : (lG G x m o w vm vp v).2.2.2 149 = v 9 := rfl
theorem la_150 (G : zG) (x m o : Nat) (w vm vp v : Nat → Nat) : (lG G x m o w vm vp v).2.2.2 150 = v 10 := rfl
theorem la_151 (G : zG) (x m o : Nat) (w vm vp v : Nat → Nat) : (lG G x m o w vm vp v).2.2.2 151 = v 11 := rfl
theorem la_152 (G : zG) (x m o : Nat) (w vm vp v : Nat → Nat) : (lG G x m o w vm vp v).2.2.2 152 = v 12 := rfl
theorem la_153 (G : zG) (x m o : Nat) (w vm vp v : Nat → Nat) : (lG G x m o w vm vp v).2.2.2 153 = v 13 := rfl
theorem la_154 (G : zG) (x m o : Nat) (w vm vp v : Nat → Nat) : (lG G x m o w vm vp v).2.2.2 154 = v 14 := rfl
theorem la_155 (G : zG) (x m o : Nat) (w vm vp v : Nat → Nat) : (lG G x m o w vm vp v).2.2.2 155 = v 15 := rfl
theorem la_156 (G : zG) (x m o : Nat) (w vm vp v : Nat → Nat) : (lG G x m o w vm vp v).2.2.2 156 = v 16 := rfl
theorem la_157 (G : zG) (x m o : Nat) (w vm vp v : Nat → Nat) : (lG G x m o w vm vp v).2.2.2 157 = v 17 := rfl
theorem la_158 (G : zG) (x m o : Nat) (w vm vp v : Nat → Nat) : (lG G x m o w vm vp v).2.2.2 158 = v 18 := rfl
theorem la_159 (G : zG) (x m o : Nat) (w vm vp v : Nat → Nat) : (lG G x m o w vm vp v).2.2.2 159 = v 19 := rfl
theorem la_160 (G : zG) (x m o : Nat) (w vm vp v : Nat → Nat) : (lG G x m o w vm vp v).2.2.2 160 = v 20 := rfl
theorem la_161 (G : zG) (x m o : Nat) (w vm vp v : Nat → Nat) : (lG G x m o w vm vp v).2.2.2 161 = v 21 := rfl
theorem la_162 (G : zG) (x m o : Nat) (w vm vp v : Nat → Nat) : (lG G x m o w vm vp v).2.2.2 162 = v 22 := rfl
theorem la_163 (G : zG) (x m o : Nat) (w vm vp v : Nat → Nat) : (lG G x m o w vm vp v).2.2.2 163 = v 23 := rfl
theorem la_164 (G : zG) (x m o : Nat) (w vm vp v : Nat → Nat) : (lG G x m o w vm vp v).2.2.2 164 = v 24 := rfl
theorem la_165 (G : zG) (x m o : Nat) (w vm vp v : Nat → Nat) : (lG G x m o w vm vp v).2.2.2 165 = v 25 := rfl
theorem la_166 (G : zG) (x m o : Nat) (w vm vp v : Nat → Nat) : (lG G x m o w vm vp v).2.2.2 166 = v 26 := rfl
theorem la_167 (G : zG) (x m o : Nat) (w vm vp v : Nat → Nat) : (lG G x m o w vm vp v).2.2.2 167 = v 27 := rfl
theorem la_168 (G : zG) (x m o : Nat) (w vm vp v : Nat → Nat) : (lG G x m o w vm vp v).2.2.2 168 = v 28 := rfl
theorem la_169 (G : zG) (x m o : Nat) (w vm vp v : Nat → Nat) : (lG G x m o w vm vp v).2.2.2 169 = v 29 := rfl
theorem la_170 (G : zG) (x m o : Nat) (w vm vp v : Nat → Nat) : (lG G x m o w vm vp v).2.2.2 170 = v 30 := rfl
theorem la_171 (G : zG) (x m o : Nat) (w vm vp v : Nat → Nat) : (lG G x m o w vm vp v).2.2.2 171 = v 31 := rfl
theorem la_172 (G : zG) (x m o : Nat) (w vm vp v : Nat → Nat) : (lG G x m o w vm vp v).2.2.2 172 = v 32 := rfl
theorem la_173 (G : zG) (x m o : Nat) (w vm vp v : Nat → Nat) : (lG G x m o w vm vp v).2.2.2 173 = v 33 := rfl
theorem la_174 (G : zG) (x m o : Nat) (w vm vp v : Nat → Nat) : (lG G x m o w vm vp v).2.2.2 174 = v 34 := rfl
theorem la_175 (G : zG) (x m o : Nat) (w vm vp v : Nat → Nat) : (lG G x m o w vm vp v).2.2.2 175 = v 35 := rfl
theorem la_176 (G : zG) (x m o : Nat) (w vm vp v : Nat → Nat) : (lG G x m o w vm vp v).2.2.2 176 = v 36 := rfl
theorem la_177 (G : zG) (x m o : Nat) (w vm vp v : Nat → Nat) : (lG G x m o w vm vp v).2.2.2 177 = o := rfl
set_option maxRecDepth 100000 in
theorem lz_0 (G : zG) (x m o : Nat) (w vm vp v : Nat → Nat) : zcell (lG G x m o w vm vp v) h0 0 = (.inr (10, [.ref (w 0), .ref (w 2), .ref (w 12), .ref (w 25), .ref (w 28), .ref (w 32), .ref (w 36), .ref (w 43), .ref (w 44), .long 0]) : va_E) := rfl
set_option maxRecDepth 100000 in
theorem lz_1 (G : zG) (x m o : Nat) (w vm vp v : Nat → Nat) : zcell (lG G x m o w vm vp v) h0 1 = (.inr (7, [.ref (w 1), .int 0, .int 0, .int 0, .int 0, .int 0]) : va_E) := rfl
set_option maxRecDepth 100000 in
theorem lz_2 (G : zG) (x m o : Nat) (w vm vp v : Nat → Nat) : zcell (lG G x m o w vm vp v) h0 2 = (eC G 1000 : va_E) := rfl
set_option maxRecDepth 100000 in
theorem lz_3 (G : zG) (x m o : Nat) (w vm vp v : Nat → Nat) : zcell (lG G x m o w vm vp v) h0 3 = (.inr (4, [.ref (w 3), .ref (w 4), .ref (w 5), .ref (w 6), .ref (w 7), .ref (w 8), .ref (w 9), .int 0, .int 7, .int 0, .int 0]) : va_E) := rfl
set_option maxRecDepth 100000 in
theorem lz_4 (G : zG) (x m o : Nat) (w vm vp v : Nat → Nat) : zcell (lG G x m o w vm vp v) h0 4 = (eL G 7 : va_E) := rfl
set_option maxRecDepth 100000 in
theorem lz_5 (G : zG) (x m o : Nat) (w vm vp v : Nat → Nat) : zcell (lG G x m o w vm vp v) h0 5 = (eI G 7 : va_E) := rfl
set_option maxRecDepth 100000 in
theorem lz_6 (G : zG) (x m o : Nat) (w vm vp v : Nat → Nat) : zcell (lG G x m o w vm vp v) h0 6 = (eI G 7 : va_E) := rfl
set_option maxRecDepth 100000 in
theorem lz_7 (G : zG) (x m o : Nat) (w vm vp v : Nat → Nat) : zcell (lG G x m o w vm vp v) h0 7 = (eI G 7 : va_E) := rfl
set_option maxRecDepth 100000 in
theorem lz_8 (G : zG) (x m o : Nat) (w vm vp v : Nat → Nat) : zcell (lG G x m o w vm vp v) h0 8 = (eI G 7 : va_E) := rfl
set_option maxRecDepth 100000 in
theorem lz_9 (G : zG) (x m o : Nat) (w vm vp v : Nat → Nat) : zcell (lG G x m o w vm vp v) h0 9 = (eI G 49 : va_E) := rfl
set_option maxRecDepth 100000 in
theorem lz_10 (G : zG) (x m o : Nat) (w vm vp v : Nat → Nat) : zcell (lG G x m o w vm vp v) h0 10 = (.inr (1, [.ref (w 10), .ref (w 11), .int 0, .int 0, .int 0, .int 0, .int 0, .int 0, .int 0, .int 0, .int 0, .int 0]) : va_E) := rfl
set_option maxRecDepth 100000 in
theorem lz_11 (G : zG) (x m o : Nat) (w vm vp v : Nat → Nat) : zcell (lG G x m o w vm vp v) h0 11 = (eI G 1000 : va_E) := rfl
set_option maxRecDepth 100000 in
theorem lz_12 (G : zG) (x m o : Nat) (w vm vp v : Nat → Nat) : zcell (lG G x m o w vm vp v) h0 12 = (eI G 32 : va_E) := rfl
set_option maxRecDepth 100000 in
theorem lz_13 (G : zG) (x m o : Nat) (w vm vp v : Nat → Nat) : zcell (lG G x m o w vm vp v) h0 13 = (.inr (5, [.ref (w 0), .ref (w 13), .int 0, .int 0, .ref (w 23), .int 0]) : va_E) := rfl
set_option maxRecDepth 100000 in
theorem lz_14 (G : zG) (x m o : Nat) (w vm vp v : Nat → Nat) : zcell (lG G x m o w vm vp v) h0 14 = (.inr (4, [.ref (w 14), .ref (w 15), .ref (w 16), .ref (w 17), .ref (w 18), .ref (w 19), .ref (w 20), .int 0, .int 7, .int 0, .int 0]) : va_E) := rfl
set_option maxRecDepth 100000 in
theorem lz_15 (G : zG) (x m o : Nat) (w vm vp v : Nat → Nat) : zcell (lG G x m o w vm vp v) h0 15 = (eL G 7 : va_E) := rfl
set_option maxRecDepth 100000 in
theorem lz_16 (G : zG) (x m o : Nat) (w vm vp v : Nat → Nat) : zcell (lG G x m o w vm vp v) h0 16 = (eI G 7 : va_E) := rfl
set_option maxRecDepth 100000 in
theorem lz_17 (G : zG) (x m o : Nat) (w vm vp v : Nat → Nat) : zcell (lG G x m o w vm vp v) h0 17 = (eI G 7 : va_E) := rfl
set_option maxRecDepth 100000 in
theorem lz_18 (G : zG) (x m o : Nat) (w vm vp v : Nat → Nat) : zcell (lG G x m o w vm vp v) h0 18 = (eI G 7 : va_E) := rfl
set_option maxRecDepth 100000 in
theorem lz_19 (G : zG) (x m o : Nat) (w vm vp v : Nat → Nat) : zcell (lG G x m o w vm vp v) h0 19 = (eI G 7 : va_E) := rfl
set_option maxRecDepth 100000 in
theorem lz_20 (G : zG) (x m o : Nat) (w vm vp v : Nat → Nat) : zcell (lG G x m o w vm vp v) h0 20 = (eI G 49 : va_E) := rfl
set_option maxRecDepth 100000 in
theorem lz_21 (G : zG) (x m o : Nat) (w vm vp v : Nat → Nat) : zcell (lG G x m o w vm vp v) h0 21 = (.inr (1, [.ref (w 21), .ref (w 22), .int 0, .int 0, .int 0, .int 0, .int 0, .int 0, .int 0, .int 0, .int 0, .int 0]) : va_E) := rfl
set_option maxRecDepth 100000 in
theorem lz_22 (G : zG) (x m o : Nat) (w vm vp v : Nat → Nat) : zcell (lG G x m o w vm vp v) h0 22 = (eI G 1000 : va_E) := rfl
set_option maxRecDepth 100000 in
theorem lz_23 (G : zG) (x m o : Nat) (w vm vp v : Nat → Nat) : zcell (lG G x m o w vm vp v) h0 23 = (eI G 32 : va_E) := rfl
set_option maxRecDepth 100000 in
theorem lz_24 (G : zG) (x m o : Nat) (w vm vp v : Nat → Nat) : zcell (lG G x m o w vm vp v) h0 24 = (.inr (0, [.ref (w 0), .ref (w 20), .ref (w 24), .int 0, .int 0, .int 0, .int 0]) : va_E) := rfl
set_option maxRecDepth 100000 in
theorem lz_25 (G : zG) (x m o : Nat) (w vm vp v : Nat → Nat) : zcell (lG G x m o w vm vp v) h0 25 = (eI G 32 : va_E) := rfl
set_option maxRecDepth 100000 in
theorem lz_26 (G : zG) (x m o : Nat) (w vm vp v : Nat → Nat) : zcell (lG G x m o w vm vp v) h0 26 = (.inr (9, [.ref (w 0), .ref (w 2), .int 0, .int 0, .ref (w 26)]) : va_E) := rfl
set_option maxRecDepth 100000 in
theorem lz_27 (G : zG) (x m o : Nat) (w vm vp v : Nat → Nat) : zcell (lG G x m o w vm vp v) h0 27 = (.inr (8, [.ref (w 27), .int 0]) : va_E) := rfl
set_option maxRecDepth 100000 in
theorem lz_28 (G : zG) (x m o : Nat) (w vm vp v : Nat → Nat) : zcell (lG G x m o w vm vp v) h0 28 = (eI G 40 : va_E) := rfl
set_option maxRecDepth 100000 in
theorem lz_29 (G : zG) (x m o : Nat) (w vm vp v : Nat → Nat) : zcell (lG G x m o w vm vp v) h0 29 = (.inr (6, [.ref (w 2), .ref (w 29), .ref (w 30), .ref (w 31), .int 0, .int 0]) : va_E) := rfl
set_option maxRecDepth 100000 in
theorem lz_30 (G : zG) (x m o : Nat) (w vm vp v : Nat → Nat) : zcell (lG G x m o w vm vp v) h0 30 = (eI G 49 : va_E) := rfl
set_option maxRecDepth 100000 in
theorem lz_31 (G : zG) (x m o : Nat) (w vm vp v : Nat → Nat) : zcell (lG G x m o w vm vp v) h0 31 = (eI G 49 : va_E) := rfl
set_option maxRecDepth 100000 in
theorem lz_32 (G : zG) (x m o : Nat) (w vm vp v : Nat → Nat) : zcell (lG G x m o w vm vp v) h0 32 = (eI G 7 : va_E) := rfl
set_option maxRecDepth 100000 in
theorem lz_33 (G : zG) (x m o : Nat) (w vm vp v : Nat → Nat) : zcell (lG G x m o w vm vp v) h0 33 = (.inr (6, [.ref (w 2), .ref (w 33), .ref (w 34), .ref (w 35), .int 0, .int 0]) : va_E) := rfl
set_option maxRecDepth 100000 in
theorem lz_34 (G : zG) (x m o : Nat) (w vm vp v : Nat → Nat) : zcell (lG G x m o w vm vp v) h0 34 = (eI G 49 : va_E) := rfl
set_option maxRecDepth 100000 in
theorem lz_35 (G : zG) (x m o : Nat) (w vm vp v : Nat → Nat) : zcell (lG G x m o w vm vp v) h0 35 = (eI G 49 : va_E) := rfl
set_option maxRecDepth 100000 in
theorem lz_36 (G : zG) (x m o : Nat) (w vm vp v : Nat → Nat) : zcell (lG G x m o w vm vp v) h0 36 = (eI G 7 : va_E) := rfl
set_option maxRecDepth 100000 in
theorem lz_37 (G : zG) (x m o : Nat) (w vm vp v : Nat → Nat) : zcell (lG G x m o w vm vp v) h0 37 = (.inr (2, [.ref (w 39), .ref (w 37), .int 0, .int 1022, .int 0]) : va_E) := rfl
set_option maxRecDepth 100000 in
theorem lz_38 (G : zG) (x m o : Nat) (w vm vp v : Nat → Nat) : zcell (lG G x m o w vm vp v) h0 38 = (.inr (8, [.ref (w 38), .int 0]) : va_E) := rfl
set_option maxRecDepth 100000 in
theorem lz_39 (G : zG) (x m o : Nat) (w vm vp v : Nat → Nat) : zcell (lG G x m o w vm vp v) h0 39 = (eI G 40 : va_E) := rfl
set_option maxRecDepth 100000 in
theorem lz_40 (G : zG) (x m o : Nat) (w vm vp v : Nat → Nat) : zcell (lG G x m o w vm vp v) h0 40 = (.inr (6, [.ref (w 2), .ref (w 40), .ref (w 41), .ref (w 42), .int 0, .int 0]) : va_E) := rfl
set_option maxRecDepth 100000 in
theorem lz_41 (G : zG) (x m o : Nat) (w vm vp v : Nat → Nat) : zcell (lG G x m o w vm vp v) h0 41 = (eI G 49 : va_E) := rfl
set_option maxRecDepth 100000 in
theorem lz_42 (G : zG) (x m o : Nat) (w vm vp v : Nat → Nat) : zcell (lG G x m o w vm vp v) h0 42 = (eI G 49 : va_E) := rfl
set_option maxRecDepth 100000 in
theorem lz_43 (G : zG) (x m o : Nat) (w vm vp v : Nat → Nat) : zcell (lG G x m o w vm vp v) h0 43 = (eI G 7 : va_E) := rfl
set_option maxRecDepth 100000 in
theorem lz_44 (G : zG) (x m o : Nat) (w vm vp v : Nat → Nat) : zcell (lG G x m o w vm vp v) h0 44 = (.inl (G.2.2.1.1 25, 4, .inr (.inr (.inr (.inr (fun i => some ((lG G x m o w vm vp v).2.2.2 (zR 44 i))))))) : va_E) := rfl
set_option maxRecDepth 100000 in
theorem lz_45 (G : zG) (x m o : Nat) (w vm vp v : Nat → Nat) : zcell (lG G x m o w vm vp v) h0 45 = (.inr (2, [.ref (vm 3), .ref (vm 1), .int 0, .int 1022, .int 0]) : va_E) := rfl
set_option maxRecDepth 100000 in
theorem lz_46 (G : zG) (x m o : Nat) (w vm vp v : Nat → Nat) : zcell (lG G x m o w vm vp v) h0 46 = (.inr (8, [.ref (vm 2), .int 0]) : va_E) := rfl
set_option maxRecDepth 100000 in
theorem lz_47 (G : zG) (x m o : Nat) (w vm vp v : Nat → Nat) : zcell (lG G x m o w vm vp v) h0 47 = (eI G 40 : va_E) := rfl
set_option maxRecDepth 100000 in
theorem lz_48 (G : zG) (x m o : Nat) (w vm vp v : Nat → Nat) : zcell (lG G x m o w vm vp v) h0 48 = (.inr (6, [.ref (w 2), .ref (vm 4), .ref (vm 5), .ref (vm 6), .int 0, .int 0]) : va_E) := rfl
set_option maxRecDepth 100000 in
theorem lz_49 (G : zG) (x m o : Nat) (w vm vp v : Nat → Nat) : zcell (lG G x m o w vm vp v) h0 49 = (eI G 49 : va_E) := rfl
set_option maxRecDepth 100000 in
theorem lz_50 (G : zG) (x m o : Nat) (w vm vp v : Nat → Nat) : zcell (lG G x m o w vm vp v) h0 50 = (eI G 49 : va_E) := rfl
set_option maxRecDepth 100000 in
theorem lz_51 (G : zG) (x m o : Nat) (w vm vp v : Nat → Nat) : zcell (lG G x m o w vm vp v) h0 51 = (eI G 7 : va_E) := rfl
set_option maxRecDepth 100000 in
theorem lz_52 (G : zG) (x m o : Nat) (w vm vp v : Nat → Nat) : zcell (lG G x m o w vm vp v) h0 52 = (.inr (2, [.ref (vm 10), .ref (vm 8), .int 0, .int 1022, .int 0]) : va_E) := rfl
set_option maxRecDepth 100000 in
theorem lz_53 (G : zG) (x m o : Nat) (w vm vp v : Nat → Nat) : zcell (lG G x m o w vm vp v) h0 53 = (.inr (8, [.ref (vm 9), .int 0]) : va_E) := rfl
set_option maxRecDepth 100000 in
theorem lz_54 (G : zG) (x m o : Nat) (w vm vp v : Nat → Nat) : zcell (lG G x m o w vm vp v) h0 54 = (eI G 40 : va_E) := rfl
set_option maxRecDepth 100000 in
theorem lz_55 (G : zG) (x m o : Nat) (w vm vp v : Nat → Nat) : zcell (lG G x m o w vm vp v) h0 55 = (.inr (6, [.ref (w 2), .ref (vm 11), .ref (vm 12), .ref (vm 13), .int 0, .int 0]) : va_E) := rfl
set_option maxRecDepth 100000 in
theorem lz_56 (G : zG) (x m o : Nat) (w vm vp v : Nat → Nat) : zcell (lG G x m o w vm vp v) h0 56 = (eI G 49 : va_E) := rfl
set_option maxRecDepth 100000 in
theorem lz_57 (G : zG) (x m o : Nat) (w vm vp v : Nat → Nat) : zcell (lG G x m o w vm vp v) h0 57 = (eI G 49 : va_E) := rfl
set_option maxRecDepth 100000 in
theorem lz_58 (G : zG) (x m o : Nat) (w vm vp v : Nat → Nat) : zcell (lG G x m o w vm vp v) h0 58 = (eI G 7 : va_E) := rfl
set_option maxRecDepth 100000 in
theorem lz_59 (G : zG) (x m o : Nat) (w vm vp v : Nat → Nat) : zcell (lG G x m o w vm vp v) h0 59 = (.inr (2, [.ref (vm 17), .ref (vm 15), .int 0, .int 1022, .int 0]) : va_E) := rfl
set_option maxRecDepth 100000 in
theorem lz_60 (G : zG) (x m o : Nat) (w vm vp v : Nat → Nat) : zcell (lG G x m o w vm vp v) h0 60 = (.inr (8, [.ref (vm 16), .int 0]) : va_E) := rfl
set_option maxRecDepth 100000 in
theorem lz_61 (G : zG) (x m o : Nat) (w vm vp v : Nat → Nat) : zcell (lG G x m o w vm vp v) h0 61 = (eI G 40 : va_E) := rfl
set_option maxRecDepth 100000 in
theorem lz_62 (G : zG) (x m o : Nat) (w vm vp v : Nat → Nat) : zcell (lG G x m o w vm vp v) h0 62 = (.inr (6, [.ref (w 2), .ref (vm 18), .ref (vm 19), .ref (vm 20), .int 0, .int 0]) : va_E) := rfl
set_option maxRecDepth 100000 in
theorem lz_63 (G : zG) (x m o : Nat) (w vm vp v : Nat → Nat) : zcell (lG G x m o w vm vp v) h0 63 = (eI G 49 : va_E) := rfl
set_option maxRecDepth 100000 in
theorem lz_64 (G : zG) (x m o : Nat) (w vm vp v : Nat → Nat) : zcell (lG G x m o w vm vp v) h0 64 = (eI G 49 : va_E) := rfl
set_option maxRecDepth 100000 in
theorem lz_65 (G : zG) (x m o : Nat) (w vm vp v : Nat → Nat) : zcell (lG G x m o w vm vp v) h0 65 = (eI G 7 : va_E) := rfl
set_option maxRecDepth 100000 in
theorem lz_66 (G : zG) (x m o : Nat) (w vm vp v : Nat → Nat) : zcell (lG G x m o w vm vp v) h0 66 = (.inr (2, [.ref (vm 24), .ref (vm 22), .int 0, .int 1022, .int 0]) : va_E) := rfl
set_option maxRecDepth 100000 in
theorem lz_67 (G : zG) (x m o : Nat) (w vm vp v : Nat → Nat) : zcell (lG G x m o w vm vp v) h0 67 = (.inr (8, [.ref (vm 23), .int 0]) : va_E) := rfl
set_option maxRecDepth 100000 in
theorem lz_68 (G : zG) (x m o : Nat) (w vm vp v : Nat → Nat) : zcell (lG G x m o w vm vp v) h0 68 = (eI G 40 : va_E) := rfl
set_option maxRecDepth 100000 in
theorem lz_69 (G : zG) (x m o : Nat) (w vm vp v : Nat → Nat) : zcell (lG G x m o w vm vp v) h0 69 = (.inr (6, [.ref (w 2), .ref (vm 25), .ref (vm 26), .ref (vm 27), .int 0, .int 0]) : va_E) := rfl
set_option maxRecDepth 100000 in
theorem lz_70 (G : zG) (x m o : Nat) (w vm vp v : Nat → Nat) : zcell (lG G x m o w vm vp v) h0 70 = (eI G 49 : va_E) := rfl
set_option maxRecDepth 100000 in
theorem lz_71 (G : zG) (x m o : Nat) (w vm vp v : Nat → Nat) : zcell (lG G x m o w vm vp v) h0 71 = (eI G 49 : va_E) := rfl
set_option maxRecDepth 100000 in
theorem lz_72 (G : zG) (x m o : Nat) (w vm vp v : Nat → Nat) : zcell (lG G x m o w vm vp v) h0 72 = (eI G 7 : va_E) := rfl
set_option maxRecDepth 100000 in
theorem lz_73 (G : zG) (x m o : Nat) (w vm vp v : Nat → Nat) : zcell (lG G x m o w vm vp v) h0 73 = (.inr (3, [.ref (vp 0), .int 0, .int 0]) : va_E) := rfl
set_option maxRecDepth 100000 in
theorem lz_74 (G : zG) (x m o : Nat) (w vm vp v : Nat → Nat) : zcell (lG G x m o w vm vp v) h0 74 = (.inl (G.2.2.1.1 24, 16, .inr (.inr (.inr (.inr (fun i => some ((lG G x m o w vm vp v).2.2.2 (zR 74 i))))))) : va_E) := rfl
set_option maxRecDepth 100000 in
theorem lz_75 (G : zG) (x m o : Nat) (w vm vp v : Nat → Nat) : zcell (lG G x m o w vm vp v) h0 75 = (.inr (6, [.ref (w 2), .ref (vp 2), .ref (vp 3), .ref (vp 4), .int 0, .int 0]) : va_E) := rfl
set_option maxRecDepth 100000 in
theorem lz_76 (G : zG) (x m o : Nat) (w vm vp v : Nat → Nat) : zcell (lG G x m o w vm vp v) h0 76 = (eI G 49 : va_E) := rfl
set_option maxRecDepth 100000 in
theorem lz_77 (G : zG) (x m o : Nat) (w vm vp v : Nat → Nat) : zcell (lG G x m o w vm vp v) h0 77 = (eI G 49 : va_E) := rfl
set_option maxRecDepth 100000 in
theorem lz_78 (G : zG) (x m o : Nat) (w vm vp v : Nat → Nat) : zcell (lG G x m o w vm vp v) h0 78 = (eI G 7 : va_E) := rfl
set_option maxRecDepth 100000 in
theorem lz_79 (G : zG) (x m o : Nat) (w vm vp v : Nat → Nat) : zcell (lG G x m o w vm vp v) h0 79 = (.inr (6, [.ref (w 2), .ref (vp 6), .ref (vp 7), .ref (vp 8), .int 0, .int 0]) : va_E) := rfl
set_option maxRecDepth 100000 in
theorem lz_80 (G : zG) (x m o : Nat) (w vm vp v : Nat → Nat) : zcell (lG G x m o w vm vp v) h0 80 = (eI G 49 : va_E) := rfl
set_option maxRecDepth 100000 in
theorem lz_81 (G : zG) (x m o : Nat) (w vm vp v : Nat → Nat) : zcell (lG G x m o w vm vp v) h0 81 = (eI G 49 : va_E) := rfl
set_option maxRecDepth 100000 in
theorem lz_82 (G : zG) (x m o : Nat) (w vm vp v : Nat → Nat) : zcell (lG G x m o w vm vp v) h0 82 = (eI G 7 : va_E) := rfl
set_option maxRecDepth 100000 in
theorem lz_83 (G : zG) (x m o : Nat) (w vm vp v : Nat → Nat) : zcell (lG G x m o w vm vp v) h0 83 = (.inr (6, [.ref (w 2), .ref (vp 10), .ref (vp 11), .ref (vp 12), .int 0, .int 0]) : va_E) := rfl
set_option maxRecDepth 100000 in
theorem lz_84 (G : zG) (x m o : Nat) (w vm vp v : Nat → Nat) : zcell (lG G x m o w vm vp v) h0 84 = (eI G 49 : va_E) := rfl
set_option maxRecDepth 100000 in
theorem lz_85 (G : zG) (x m o : Nat) (w vm vp v : Nat → Nat) : zcell (lG G x m o w vm vp v) h0 85 = (eI G 49 : va_E) := rfl
set_option maxRecDepth 100000 in
theorem lz_86 (G : zG) (x m o : Nat) (w vm vp v : Nat → Nat) : zcell (lG G x m o w vm vp v) h0 86 = (eI G 7 : va_E) := rfl
set_option maxRecDepth 100000 in
theorem lz_87 (G : zG) (x m o : Nat) (w vm vp v : Nat → Nat) : zcell (lG G x m o w vm vp v) h0 87 = (.inr (6, [.ref (w 2), .ref (vp 14), .ref (vp 15), .ref (vp 16), .int 0, .int 0]) : va_E) := rfl
set_option maxRecDepth 100000 in
theorem lz_88 (G : zG) (x m o : Nat) (w vm vp v : Nat → Nat) : zcell (lG G x m o w vm vp v) h0 88 = (eI G 49 : va_E) := rfl
set_option maxRecDepth 100000 in
theorem lz_89 (G : zG) (x m o : Nat) (w vm vp v : Nat → Nat) : zcell (lG G x m o w vm vp v) h0 89 = (eI G 49 : va_E) := rfl
set_option maxRecDepth 100000 in
theorem lz_90 (G : zG) (x m o : Nat) (w vm vp v : Nat → Nat) : zcell (lG G x m o w vm vp v) h0 90 = (eI G 7 : va_E) := rfl
set_option maxRecDepth 100000 in
theorem lz_91 (G : zG) (x m o : Nat) (w vm vp v : Nat → Nat) : zcell (lG G x m o w vm vp v) h0 91 = (.inr (6, [.ref (w 2), .ref (vp 18), .ref (vp 19), .ref (vp 20), .int 0, .int 0]) : va_E) := rfl
set_option maxRecDepth 100000 in
theorem lz_92 (G : zG) (x m o : Nat) (w vm vp v : Nat → Nat) : zcell (lG G x m o w vm vp v) h0 92 = (eI G 49 : va_E) := rfl
set_option maxRecDepth 100000 in
theorem lz_93 (G : zG) (x m o : Nat) (w vm vp v : Nat → Nat) : zcell (lG G x m o w vm vp v) h0 93 = (eI G 49 : va_E) := rfl
set_option maxRecDepth 100000 in
theorem lz_94 (G : zG) (x m o : Nat) (w vm vp v : Nat → Nat) : zcell (lG G x m o w vm vp v) h0 94 = (eI G 7 : va_E) := rfl
set_option maxRecDepth 100000 in
theorem lz_95 (G : zG) (x m o : Nat) (w vm vp v : Nat → Nat) : zcell (lG G x m o w vm vp v) h0 95 = (.inr (6, [.ref (w 2), .ref (vp 22), .ref (vp 23), .ref (vp 24), .int 0, .int 0]) : va_E) := rfl
set_option maxRecDepth 100000 in
theorem lz_96 (G : zG) (x m o : Nat) (w vm vp v : Nat → Nat) : zcell (lG G x m o w vm vp v) h0 96 = (eI G 49 : va_E) := rfl
set_option maxRecDepth 100000 in
theorem lz_97 (G : zG) (x m o : Nat) (w vm vp v : Nat → Nat) : zcell (lG G x m o w vm vp v) h0 97 = (eI G 49 : va_E) := rfl
set_option maxRecDepth 100000 in
theorem lz_98 (G : zG) (x m o : Nat) (w vm vp v : Nat → Nat) : zcell (lG G x m o w vm vp v) h0 98 = (eI G 7 : va_E) := rfl
set_option maxRecDepth 100000 in
theorem lz_99 (G : zG) (x m o : Nat) (w vm vp v : Nat → Nat) : zcell (lG G x m o w vm vp v) h0 99 = (.inr (6, [.ref (w 2), .ref (vp 26), .ref (vp 27), .ref (vp 28), .int 0, .int 0]) : va_E) := rfl
set_option maxRecDepth 100000 in
theorem lz_100 (G : zG) (x m o : Nat) (w vm vp v : Nat → Nat) : zcell (lG G x m o w vm vp v) h0 100 = (eI G 49 : va_E) := rfl
set_option maxRecDepth 100000 in
theorem lz_101 (G : zG) (x m o : Nat) (w vm vp v : Nat → Nat) : zcell (lG G x m o w vm vp v) h0 101 = (eI G 49 : va_E) := rfl
set_option maxRecDepth 100000 in
theorem lz_102 (G : zG) (x m o : Nat) (w vm vp v : Nat → Nat) : zcell (lG G x m o w vm vp v) h0 102 = (eI G 7 : va_E) := rfl
set_option maxRecDepth 100000 in
theorem lz_103 (G : zG) (x m o : Nat) (w vm vp v : Nat → Nat) : zcell (lG G x m o w vm vp v) h0 103 = (.inr (6, [.ref (w 2), .ref (vp 30), .ref (vp 31), .ref (vp 32), .int 0, .int 0]) : va_E) := rfl
set_option maxRecDepth 100000 in
theorem lz_104 (G : zG) (x m o : Nat) (w vm vp v : Nat → Nat) : zcell (lG G x m o w vm vp v) h0 104 = (eI G 49 : va_E) := rfl
set_option maxRecDepth 100000 in
theorem lz_105 (G : zG) (x m o : Nat) (w vm vp v : Nat → Nat) : zcell (lG G x m o w vm vp v) h0 105 = (eI G 49 : va_E) := rfl
set_option maxRecDepth 100000 in
theorem lz_106 (G : zG) (x m o : Nat) (w vm vp v : Nat → Nat) : zcell (lG G x m o w vm vp v) h0 106 = (eI G 7 : va_E) := rfl
set_option maxRecDepth 100000 in
theorem lz_107 (G : zG) (x m o : Nat) (w vm vp v : Nat → Nat) : zcell (lG G x m o w vm vp v) h0 107 = (.inr (6, [.ref (w 2), .ref (vp 34), .ref (vp 35), .ref (vp 36), .int 0, .int 0]) : va_E) := rfl
set_option maxRecDepth 100000 in
theorem lz_108 (G : zG) (x m o : Nat) (w vm vp v : Nat → Nat) : zcell (lG G x m o w vm vp v) h0 108 = (eI G 49 : va_E) := rfl
set_option maxRecDepth 100000 in
theorem lz_109 (G : zG) (x m o : Nat) (w vm vp v : Nat → Nat) : zcell (lG G x m o w vm vp v) h0 109 = (eI G 49 : va_E) := rfl
set_option maxRecDepth 100000 in
theorem lz_110 (G : zG) (x m o : Nat) (w vm vp v : Nat → Nat) : zcell (lG G x m o w vm vp v) h0 110 = (eI G 7 : va_E) := rfl
set_option maxRecDepth 100000 in
theorem lz_111 (G : zG) (x m o : Nat) (w vm vp v : Nat → Nat) : zcell (lG G x m o w vm vp v) h0 111 = (.inr (6, [.ref (w 2), .ref (vp 38), .ref (vp 39), .ref (vp 40), .int 0, .int 0]) : va_E) := rfl
set_option maxRecDepth 100000 in
theorem lz_112 (G : zG) (x m o : Nat) (w vm vp v : Nat → Nat) : zcell (lG G x m o w vm vp v) h0 112 = (eI G 49 : va_E) := rfl
set_option maxRecDepth 100000 in
theorem lz_113 (G : zG) (x m o : Nat) (w vm vp v : Nat → Nat) : zcell (lG G x m o w vm vp v) h0 113 = (eI G 49 : va_E) := rfl
set_option maxRecDepth 100000 in
theorem lz_114 (G : zG) (x m o : Nat) (w vm vp v : Nat → Nat) : zcell (lG G x m o w vm vp v) h0 114 = (eI G 7 : va_E) := rfl
set_option maxRecDepth 100000 in
theorem lz_115 (G : zG) (x m o : Nat) (w vm vp v : Nat → Nat) : zcell (lG G x m o w vm vp v) h0 115 = (.inr (6, [.ref (w 2), .ref (vp 42), .ref (vp 43), .ref (vp 44), .int 0, .int 0]) : va_E) := rfl
set_option maxRecDepth 100000 in
theorem lz_116 (G : zG) (x m o : Nat) (w vm vp v : Nat → Nat) : zcell (lG G x m o w vm vp v) h0 116 = (eI G 49 : va_E) := rfl
set_option maxRecDepth 100000 in
theorem lz_117 (G : zG) (x m o : Nat) (w vm vp v : Nat → Nat) : zcell (lG G x m o w vm vp v) h0 117 = (eI G 49 : va_E) := rfl
set_option maxRecDepth 100000 in
theorem lz_118 (G : zG) (x m o : Nat) (w vm vp v : Nat → Nat) : zcell (lG G x m o w vm vp v) h0 118 = (eI G 7 : va_E) := rfl
set_option maxRecDepth 100000 in
theorem lz_119 (G : zG) (x m o : Nat) (w vm vp v : Nat → Nat) : zcell (lG G x m o w vm vp v) h0 119 = (.inr (6, [.ref (w 2), .ref (vp 46), .ref (vp 47), .ref (vp 48), .int 0, .int 0]) : va_E) := rfl
set_option maxRecDepth 100000 in
theorem lz_120 (G : zG) (x m o : Nat) (w vm vp v : Nat → Nat) : zcell (lG G x m o w vm vp v) h0 120 = (eI G 49 : va_E) := rfl
set_option maxRecDepth 100000 in
theorem lz_121 (G : zG) (x m o : Nat) (w vm vp v : Nat → Nat) : zcell (lG G x m o w vm vp v) h0 121 = (eI G 49 : va_E) := rfl
set_option maxRecDepth 100000 in
theorem lz_122 (G : zG) (x m o : Nat) (w vm vp v : Nat → Nat) : zcell (lG G x m o w vm vp v) h0 122 = (eI G 7 : va_E) := rfl
set_option maxRecDepth 100000 in
theorem lz_123 (G : zG) (x m o : Nat) (w vm vp v : Nat → Nat) : zcell (lG G x m o w vm vp v) h0 123 = (.inr (6, [.ref (w 2), .ref (vp 50), .ref (vp 51), .ref (vp 52), .int 0, .int 0]) : va_E) := rfl
set_option maxRecDepth 100000 in
theorem lz_124 (G : zG) (x m o : Nat) (w vm vp v : Nat → Nat) : zcell (lG G x m o w vm vp v) h0 124 = (eI G 49 : va_E) := rfl
set_option maxRecDepth 100000 in
theorem lz_125 (G : zG) (x m o : Nat) (w vm vp v : Nat → Nat) : zcell (lG G x m o w vm vp v) h0 125 = (eI G 49 : va_E) := rfl
set_option maxRecDepth 100000 in
theorem lz_126 (G : zG) (x m o : Nat) (w vm vp v : Nat → Nat) : zcell (lG G x m o w vm vp v) h0 126 = (eI G 7 : va_E) := rfl
set_option maxRecDepth 100000 in
theorem lz_127 (G : zG) (x m o : Nat) (w vm vp v : Nat → Nat) : zcell (lG G x m o w vm vp v) h0 127 = (.inr (6, [.ref (w 2), .ref (vp 54), .ref (vp 55), .ref (vp 56), .int 0, .int 0]) : va_E) := rfl
set_option maxRecDepth 100000 in
theorem lz_128 (G : zG) (x m o : Nat) (w vm vp v : Nat → Nat) : zcell (lG G x m o w vm vp v) h0 128 = (eI G 49 : va_E) := rfl
set_option maxRecDepth 100000 in
theorem lz_129 (G : zG) (x m o : Nat) (w vm vp v : Nat → Nat) : zcell (lG G x m o w vm vp v) h0 129 = (eI G 49 : va_E) := rfl
set_option maxRecDepth 100000 in
theorem lz_130 (G : zG) (x m o : Nat) (w vm vp v : Nat → Nat) : zcell (lG G x m o w vm vp v) h0 130 = (eI G 7 : va_E) := rfl
set_option maxRecDepth 100000 in
theorem lz_131 (G : zG) (x m o : Nat) (w vm vp v : Nat → Nat) : zcell (lG G x m o w vm vp v) h0 131 = (.inr (6, [.ref (w 2), .ref (vp 58), .ref (vp 59), .ref (vp 60), .int 0, .int 0]) : va_E) := rfl
set_option maxRecDepth 100000 in
theorem lz_132 (G : zG) (x m o : Nat) (w vm vp v : Nat → Nat) : zcell (lG G x m o w vm vp v) h0 132 = (eI G 49 : va_E) := rfl
set_option maxRecDepth 100000 in
theorem lz_133 (G : zG) (x m o : Nat) (w vm vp v : Nat → Nat) : zcell (lG G x m o w vm vp v) h0 133 = (eI G 49 : va_E) := rfl
set_option maxRecDepth 100000 in
theorem lz_134 (G : zG) (x m o : Nat) (w vm vp v : Nat → Nat) : zcell (lG G x m o w vm vp v) h0 134 = (eI G 7 : va_E) := rfl
set_option maxRecDepth 100000 in
theorem lz_135 (G : zG) (x m o : Nat) (w vm vp v : Nat → Nat) : zcell (lG G x m o w vm vp v) h0 135 = (.inr (6, [.ref (w 2), .ref (vp 62), .ref (vp 63), .ref (vp 64), .int 0, .int 0]) : va_E) := rfl
set_option maxRecDepth 100000 in
theorem lz_136 (G : zG) (x m o : Nat) (w vm vp v : Nat → Nat) : zcell (lG G x m o w vm vp v) h0 136 = (eI G 49 : va_E) := rfl
set_option maxRecDepth 100000 in
theorem lz_137 (G : zG) (x m o : Nat) (w vm vp v : Nat → Nat) : zcell (lG G x m o w vm vp v) h0 137 = (eI G 49 : va_E) := rfl
set_option maxRecDepth 100000 in
theorem lz_138 (G : zG) (x m o : Nat) (w vm vp v : Nat → Nat) : zcell (lG G x m o w vm vp v) h0 138 = (eI G 7 : va_E) := rfl
set_option maxRecDepth 100000 in
theorem lz_139 (G : zG) (x m o : Nat) (w vm vp v : Nat → Nat) : zcell (lG G x m o w vm vp v) h0 139 = (.inr (11, [.int 0, .int 0, .ref (v 0), .int 0, .int 0, .int 0, .int 0, .long 0, .int 0, .int 0, .ref (v 1), .ref (v 2), .ref (v 3), .ref (v 4), .ref (v 5), .ref (v 6), .ref (v 7), .ref (v 8), .ref (v 9), .ref (v 10), .ref (v 11), .int 0, .int 0, .ref (v 12), .ref (v 13), .ref (v 14), .ref (v 15), .ref (v 16), .ref (v 17), .ref (v 18), .ref (v 19), .ref (v 20), .ref (v 21), .ref (v 22), .ref (v 23), .int 0, .int 0, .ref (v 24), .ref (v 25), .ref (v 26), .ref (v 27), .ref (v 28), .ref (v 29), .ref (v 30), .ref (v 31), .ref (v 32), .ref (v 33), .ref (v 34), .ref (v 35), .int 0, .ref (v 36), .long 0]) : va_E) := rfl
set_option maxRecDepth 100000 in
theorem lz_140 (G : zG) (x m o : Nat) (w vm vp v : Nat → Nat) : zcell (lG G x m o w vm vp v) h0 140 = (eI G 1000 : va_E) := rfl
set_option maxRecDepth 100000 in
theorem lz_141 (G : zG) (x m o : Nat) (w vm vp v : Nat → Nat) : zcell (lG G x m o w vm vp v) h0 141 = (.inl (G.2.2.1.1 20, 8, .inl (upd (fun _ => 0) 1 7)) : va_E) := rfl
set_option maxRecDepth 100000 in
theorem lz_142 (G : zG) (x m o : Nat) (w vm vp v : Nat → Nat) : zcell (lG G x m o w vm vp v) h0 142 = (eL G 14 : va_E) := rfl
set_option maxRecDepth 100000 in
theorem lz_143 (G : zG) (x m o : Nat) (w vm vp v : Nat → Nat) : zcell (lG G x m o w vm vp v) h0 143 = (eI G 14 : va_E) := rfl
set_option maxRecDepth 100000 in
theorem lz_144 (G : zG) (x m o : Nat) (w vm vp v : Nat → Nat) : zcell (lG G x m o w vm vp v) h0 144 = (eI G 14 : va_E) := rfl
set_option maxRecDepth 100000 in
theorem lz_145 (G : zG) (x m o : Nat) (w vm vp v : Nat → Nat) : zcell (lG G x m o w vm vp v) h0 145 = (eI G 14 : va_E) := rfl
set_option maxRecDepth 100000 in
theorem lz_146 (G : zG) (x m o : Nat) (w vm vp v : Nat → Nat) : zcell (lG G x m o w vm vp v) h0 146 = (.inl (G.2.2.1.1 20, 14, .inl (kh 14)) : va_E) := rfl
set_option maxRecDepth 100000 in
theorem lz_147 (G : zG) (x m o : Nat) (w vm vp v : Nat → Nat) : zcell (lG G x m o w vm vp v) h0 147 = (eI G 98 : va_E) := rfl
set_option maxRecDepth 100000 in
theorem lz_148 (G : zG) (x m o : Nat) (w vm vp v : Nat → Nat) : zcell (lG G x m o w vm vp v) h0 148 = (eZ G 49 : va_E) := rfl
set_option maxRecDepth 100000 in
theorem lz_149 (G : zG) (x m o : Nat) (w vm vp v : Nat → Nat) : zcell (lG G x m o w vm vp v) h0 149 = (eI G 4 : va_E) := rfl
set_option maxRecDepth 100000 in
theorem lz_150 (G : zG) (x m o : Nat) (w vm vp v : Nat → Nat) : zcell (lG G x m o w vm vp v) h0 150 = (eI G 4 : va_E) := rfl
set_option maxRecDepth 100000 in
theorem lz_151 (G : zG) (x m o : Nat) (w vm vp v : Nat → Nat) : zcell (lG G x m o w vm vp v) h0 151 = (eI G 2000 : va_E) := rfl
set_option maxRecDepth 100000 in
theorem lz_152 (G : zG) (x m o : Nat) (w vm vp v : Nat → Nat) : zcell (lG G x m o w vm vp v) h0 152 = (eI G 7 : va_E) := rfl
set_option maxRecDepth 100000 in
theorem lz_153 (G : zG) (x m o : Nat) (w vm vp v : Nat → Nat) : zcell (lG G x m o w vm vp v) h0 153 = (eZ G 7 : va_E) := rfl
set_option maxRecDepth 100000 in
theorem lz_154 (G : zG) (x m o : Nat) (w vm vp v : Nat → Nat) : zcell (lG G x m o w vm vp v) h0 154 = (eI G 7 : va_E) := rfl
set_option maxRecDepth 100000 in
theorem lz_155 (G : zG) (x m o : Nat) (w vm vp v : Nat → Nat) : zcell (lG G x m o w vm vp v) h0 155 = (eI G 7 : va_E) := rfl
set_option maxRecDepth 100000 in
theorem lz_156 (G : zG) (x m o : Nat) (w vm vp v : Nat → Nat) : zcell (lG G x m o w vm vp v) h0 156 = (eI G 7 : va_E) := rfl
set_option maxRecDepth 100000 in
theorem lz_157 (G : zG) (x m o : Nat) (w vm vp v : Nat → Nat) : zcell (lG G x m o w vm vp v) h0 157 = (eI G 7 : va_E) := rfl
set_option maxRecDepth 100000 in
theorem lz_158 (G : zG) (x m o : Nat) (w vm vp v : Nat → Nat) : zcell (lG G x m o w vm vp v) h0 158 = (eI G 7 : va_E) := rfl
set_option maxRecDepth 100000 in
theorem lz_159 (G : zG) (x m o : Nat) (w vm vp v : Nat → Nat) : zcell (lG G x m o w vm vp v) h0 159 = (eI G 7 : va_E) := rfl
set_option maxRecDepth 100000 in
theorem lz_160 (G : zG) (x m o : Nat) (w vm vp v : Nat → Nat) : zcell (lG G x m o w vm vp v) h0 160 = (eI G 7 : va_E) := rfl
set_option maxRecDepth 100000 in
theorem lz_161 (G : zG) (x m o : Nat) (w vm vp v : Nat → Nat) : zcell (lG G x m o w vm vp v) h0 161 = (eI G 7 : va_E) := rfl
set_option maxRecDepth 100000 in
theorem lz_162 (G : zG) (x m o : Nat) (w vm vp v : Nat → Nat) : zcell (lG G x m o w vm vp v) h0 162 = (eI G 7 : va_E) := rfl
set_option maxRecDepth 100000 in
theorem lz_163 (G : zG) (x m o : Nat) (w vm vp v : Nat → Nat) : zcell (lG G x m o w vm vp v) h0 163 = (eI G 20 : va_E) := rfl
set_option maxRecDepth 100000 in
theorem lz_164 (G : zG) (x m o : Nat) (w vm vp v : Nat → Nat) : zcell (lG G x m o w vm vp v) h0 164 = (eI G 6 : va_E) := rfl
set_option maxRecDepth 100000 in
theorem lz_165 (G : zG) (x m o : Nat) (w vm vp v : Nat → Nat) : zcell (lG G x m o w vm vp v) h0 165 = (eI G 240 : va_E) := rfl
set_option maxRecDepth 100000 in
theorem lz_166 (G : zG) (x m o : Nat) (w vm vp v : Nat → Nat) : zcell (lG G x m o w vm vp v) h0 166 = (eI G 240 : va_E) := rfl
set_option maxRecDepth 100000 in
theorem lz_167 (G : zG) (x m o : Nat) (w vm vp v : Nat → Nat) : zcell (lG G x m o w vm vp v) h0 167 = (eI G 240 : va_E) := rfl
set_option maxRecDepth 100000 in
theorem lz_168 (G : zG) (x m o : Nat) (w vm vp v : Nat → Nat) : zcell (lG G x m o w vm vp v) h0 168 = (eI G 5 : va_E) := rfl
set_option maxRecDepth 100000 in
theorem lz_169 (G : zG) (x m o : Nat) (w vm vp v : Nat → Nat) : zcell (lG G x m o w vm vp v) h0 169 = (eI G 40 : va_E) := rfl
set_option maxRecDepth 100000 in
theorem lz_170 (G : zG) (x m o : Nat) (w vm vp v : Nat → Nat) : zcell (lG G x m o w vm vp v) h0 170 = (eZ G 40 : va_E) := rfl
set_option maxRecDepth 100000 in
theorem lz_171 (G : zG) (x m o : Nat) (w vm vp v : Nat → Nat) : zcell (lG G x m o w vm vp v) h0 171 = (eI G 107 : va_E) := rfl
set_option maxRecDepth 100000 in
theorem lz_172 (G : zG) (x m o : Nat) (w vm vp v : Nat → Nat) : zcell (lG G x m o w vm vp v) h0 172 = (eI G 107 : va_E) := rfl
set_option maxRecDepth 100000 in
theorem lz_173 (G : zG) (x m o : Nat) (w vm vp v : Nat → Nat) : zcell (lG G x m o w vm vp v) h0 173 = (eI G 428 : va_E) := rfl
set_option maxRecDepth 100000 in
theorem lz_174 (G : zG) (x m o : Nat) (w vm vp v : Nat → Nat) : zcell (lG G x m o w vm vp v) h0 174 = (eI G 1712 : va_E) := rfl
set_option maxRecDepth 100000 in
theorem lz_175 (G : zG) (x m o : Nat) (w vm vp v : Nat → Nat) : zcell (lG G x m o w vm vp v) h0 175 = (eZ G 4 : va_E) := rfl
set_option maxRecDepth 100000 in
theorem lz_176 (G : zG) (x m o : Nat) (w vm vp v : Nat → Nat) : zcell (lG G x m o w vm vp v) h0 176 = (eI G 7 : va_E) := rfl
set_option maxRecDepth 100000 in
theorem lz_177 (G : zG) (x m o : Nat) (w vm vp v : Nat → Nat) : zcell (lG G x m o w vm vp v) h0 177 = (eL G 1 : va_E) := rfl
