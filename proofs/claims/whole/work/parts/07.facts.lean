theorem zc_bm2 : (Int8.ofInt (-2)).toInt32 = (-2) := by decide
theorem zc_b10 : (Int8.ofInt 10).toInt32 = 10 := by decide
theorem zc_b100 : (Int8.ofInt 100).toInt32 = 100 := by decide
theorem zc_b107 : (Int8.ofInt 107).toInt32 = 107 := by decide
theorem zc_b11 : (Int8.ofInt 11).toInt32 = 11 := by decide
theorem zc_b12 : (Int8.ofInt 12).toInt32 = 12 := by decide
theorem zc_b122 : (Int8.ofInt 122).toInt32 = 122 := by decide
theorem zc_b126 : (Int8.ofInt 126).toInt32 = 126 := by decide
theorem zc_b13 : (Int8.ofInt 13).toInt32 = 13 := by decide
theorem zc_b14 : (Int8.ofInt 14).toInt32 = 14 := by decide
theorem zc_b15 : (Int8.ofInt 15).toInt32 = 15 := by decide
theorem zc_b16 : (Int8.ofInt 16).toInt32 = 16 := by decide
theorem zc_b17 : (Int8.ofInt 17).toInt32 = 17 := by decide
theorem zc_b20 : (Int8.ofInt 20).toInt32 = 20 := by decide
theorem zc_b21 : (Int8.ofInt 21).toInt32 = 21 := by decide
theorem zc_b22 : (Int8.ofInt 22).toInt32 = 22 := by decide
theorem zc_b23 : (Int8.ofInt 23).toInt32 = 23 := by decide
theorem zc_b24 : (Int8.ofInt 24).toInt32 = 24 := by decide
theorem zc_b25 : (Int8.ofInt 25).toInt32 = 25 := by decide
theorem zc_b26 : (Int8.ofInt 26).toInt32 = 26 := by decide
theorem zc_b27 : (Int8.ofInt 27).toInt32 = 27 := by decide
theorem zc_b28 : (Int8.ofInt 28).toInt32 = 28 := by decide
theorem zc_b29 : (Int8.ofInt 29).toInt32 = 29 := by decide
theorem zc_b30 : (Int8.ofInt 30).toInt32 = 30 := by decide
theorem zc_b31 : (Int8.ofInt 31).toInt32 = 31 := by decide
theorem zc_b32 : (Int8.ofInt 32).toInt32 = 32 := by decide
theorem zc_b34 : (Int8.ofInt 34).toInt32 = 34 := by decide
theorem zc_b35 : (Int8.ofInt 35).toInt32 = 35 := by decide
theorem zc_b38 : (Int8.ofInt 38).toInt32 = 38 := by decide
theorem zc_b40 : (Int8.ofInt 40).toInt32 = 40 := by decide
theorem zc_b41 : (Int8.ofInt 41).toInt32 = 41 := by decide
theorem zc_b42 : (Int8.ofInt 42).toInt32 = 42 := by decide
theorem zc_b43 : (Int8.ofInt 43).toInt32 = 43 := by decide
theorem zc_b45 : (Int8.ofInt 45).toInt32 = 45 := by decide
theorem zc_b48 : (Int8.ofInt 48).toInt32 = 48 := by decide
theorem zc_b49 : (Int8.ofInt 49).toInt32 = 49 := by decide
theorem zc_b56 : (Int8.ofInt 56).toInt32 = 56 := by decide
theorem zc_b57 : (Int8.ofInt 57).toInt32 = 57 := by decide
theorem zc_b58 : (Int8.ofInt 58).toInt32 = 58 := by decide
theorem zc_b59 : (Int8.ofInt 59).toInt32 = 59 := by decide
theorem zc_b6 : (Int8.ofInt 6).toInt32 = 6 := by decide
theorem zc_b60 : (Int8.ofInt 60).toInt32 = 60 := by decide
theorem zc_b61 : (Int8.ofInt 61).toInt32 = 61 := by decide
theorem zc_b63 : (Int8.ofInt 63).toInt32 = 63 := by decide
theorem zc_b64 : (Int8.ofInt 64).toInt32 = 64 := by decide
theorem zc_b7 : (Int8.ofInt 7).toInt32 = 7 := by decide
theorem zc_b8 : (Int8.ofInt 8).toInt32 = 8 := by decide
theorem zc_b9 : (Int8.ofInt 9).toInt32 = 9 := by decide
theorem zc_b97 : (Int8.ofInt 97).toInt32 = 97 := by decide
theorem zc_b99 : (Int8.ofInt 99).toInt32 = 99 := by decide
theorem zc_im1 : Int32.ofInt (-1) = (-1) := by decide
theorem zc_i0 : Int32.ofInt 0 = 0 := by decide
theorem zc_i1 : Int32.ofInt 1 = 1 := by decide
theorem zc_i2 : Int32.ofInt 2 = 2 := by decide
theorem zc_i3 : Int32.ofInt 3 = 3 := by decide
theorem zc_i4 : Int32.ofInt 4 = 4 := by decide
theorem zc_i5 : Int32.ofInt 5 = 5 := by decide
theorem zc_nm1 (x : Int32) : x + Int32.ofInt (-1) = x + (-1) := by rw [show Int32.ofInt (-1) = (-1) by decide]
theorem zc_nm16 (x : Int32) : x + Int32.ofInt (-16) = x + (-16) := by rw [show Int32.ofInt (-16) = (-16) by decide]
theorem zc_nm2 (x : Int32) : x + Int32.ofInt (-2) = x + (-2) := by rw [show Int32.ofInt (-2) = (-2) by decide]
theorem zc_nm4 (x : Int32) : x + Int32.ofInt (-4) = x + (-4) := by rw [show Int32.ofInt (-4) = (-4) by decide]
theorem zc_nm8 (x : Int32) : x + Int32.ofInt (-8) = x + (-8) := by rw [show Int32.ofInt (-8) = (-8) by decide]
theorem zc_n1 (x : Int32) : x + Int32.ofInt 1 = x + 1 := by rw [show Int32.ofInt 1 = 1 by decide]
theorem zc_n16 (x : Int32) : x + Int32.ofInt 16 = x + 16 := by rw [show Int32.ofInt 16 = 16 by decide]
theorem zc_n2 (x : Int32) : x + Int32.ofInt 2 = x + 2 := by rw [show Int32.ofInt 2 = 2 by decide]
theorem zc_n4 (x : Int32) : x + Int32.ofInt 4 = x + 4 := by rw [show Int32.ofInt 4 = 4 by decide]
theorem zc_n8 (x : Int32) : x + Int32.ofInt 8 = x + 8 := by rw [show Int32.ofInt 8 = 8 by decide]
theorem zc_l0 : Int64.ofNat ((0 : Fin 2) : Nat) = 0 := by decide
theorem zc_s1000 : (Int16.ofInt 1000).toInt32 = 1000 := by decide
theorem zc_s1022 : (Int16.ofInt 1022).toInt32 = 1022 := by decide
theorem zc_s128 : (Int16.ofInt 128).toInt32 = 128 := by decide
theorem zc_s1605 : (Int16.ofInt 1605).toInt32 = 1605 := by decide
theorem zc_s200 : (Int16.ofInt 200).toInt32 = 200 := by decide
theorem zc_s255 : (Int16.ofInt 255).toInt32 = 255 := by decide
theorem zc_s256 : (Int16.ofInt 256).toInt32 = 256 := by decide
theorem zc_s9999 : (Int16.ofInt 9999).toInt32 = 9999 := by decide
theorem pn_J0 : plainName RJ0 = true := by decide +kernel
theorem pn_J1 : plainName RJ1 = true := by decide +kernel
theorem pn_J3 : plainName RJ3 = true := by decide +kernel
theorem pn_J6 : plainName RJ6 = true := by decide +kernel
theorem pn_J7 : plainName RJ7 = true := by decide +kernel
theorem pn_X0 : plainName RX0 = true := by decide +kernel
theorem pn_X1 : plainName RX1 = true := by decide +kernel
theorem pn_X10 : plainName RX10 = true := by decide +kernel
theorem pn_X11 : plainName RX11 = true := by decide +kernel
theorem pn_X12 : plainName RX12 = true := by decide +kernel
theorem pn_X2 : plainName RX2 = true := by decide +kernel
theorem pn_X3 : plainName RX3 = true := by decide +kernel
theorem pn_X4 : plainName RX4 = true := by decide +kernel
theorem pn_X5 : plainName RX5 = true := by decide +kernel
theorem pn_X6 : plainName RX6 = true := by decide +kernel
theorem pn_X7 : plainName RX7 = true := by decide +kernel
theorem pn_X8 : plainName RX8 = true := by decide +kernel
theorem pn_X9 : plainName RX9 = true := by decide +kernel
theorem q_0 : Cond.selects RX8 yX8_passWord yX8_passWord ∈ zTb := zq_sel (q := (yX8_passWord, 6)) 0 (by decide +kernel) rfl
theorem q_1 : Cond.selects RX8 yX8_wordToken yX8_wordToken ∈ zTb := zq_sel (q := (yX8_wordToken, 6)) 1 (by decide +kernel) rfl
theorem q_2 : Cond.selects RX8 yX8_passNumber yX8_passNumber ∈ zTb := zq_sel (q := (yX8_passNumber, 6)) 2 (by decide +kernel) rfl
theorem q_3 : Cond.selects RX6 yX6_readPerson yX6_readPerson ∈ zTb := zq_sel (q := (yX6_readPerson, 6)) 3 (by decide +kernel) rfl
theorem q_4 : Cond.selects RX6 yX6_readGrudge yX6_readGrudge ∈ zTb := zq_sel (q := (yX6_readGrudge, 6)) 4 (by decide +kernel) rfl
theorem q_5 : Cond.selects RX6 yX6_readHeir yX6_readHeir ∈ zTb := zq_sel (q := (yX6_readHeir, 6)) 5 (by decide +kernel) rfl
theorem q_6 : Cond.selects RX6 yX6_readBar yX6_readBar ∈ zTb := zq_sel (q := (yX6_readBar, 6)) 6 (by decide +kernel) rfl
theorem q_7 : Cond.selects RX6 yX6_takeOnce yX6_takeOnce ∈ zTb := zq_sel (q := (yX6_takeOnce, 6)) 7 (by decide +kernel) rfl
theorem q_8 : Cond.selects RX6 yX6_readDead yX6_readDead ∈ zTb := zq_sel (q := (yX6_readDead, 6)) 8 (by decide +kernel) rfl
theorem q_9 : Cond.selects RX6 yX6_readTies yX6_readTies ∈ zTb := zq_sel (q := (yX6_readTies, 6)) 9 (by decide +kernel) rfl
theorem q_10 : Cond.selects RX6 yX6_readGrows yX6_readGrows ∈ zTb := zq_sel (q := (yX6_readGrows, 6)) 10 (by decide +kernel) rfl
theorem q_11 : Cond.selects RX0 yX0_takePart yX0_takePart ∈ zTb := zq_sel (q := (yX0_takePart, 7)) 11 (by decide +kernel) rfl
theorem q_12 : Cond.selects RX0 yX0_letWait yX0_letWait ∈ zTb := zq_sel (q := (yX0_letWait, 7)) 12 (by decide +kernel) rfl
theorem q_13 : Cond.selects RX0 yX0_endPart yX0_endPart ∈ zTb := zq_sel (q := (yX0_endPart, 7)) 13 (by decide +kernel) rfl
theorem q_14 : Cond.selects RX0 yX0_takeOperator yX0_takeOperator ∈ zTb := zq_sel (q := (yX0_takeOperator, 7)) 14 (by decide +kernel) rfl
theorem q_15 : Cond.selects RX0 yX0_release yX0_release ∈ zTb := zq_sel (q := (yX0_release, 7)) 15 (by decide +kernel) rfl
theorem q_16 : Cond.selects RX0 yX0_close yX0_close ∈ zTb := zq_sel (q := (yX0_close, 7)) 16 (by decide +kernel) rfl
theorem q_17 : Cond.selects RX6 yX6_readEases yX6_readEases ∈ zTb := zq_sel (q := (yX6_readEases, 6)) 17 (by decide +kernel) rfl
theorem q_18 : Cond.selects RX7 yX7_lead yX7_lead ∈ zTb := zq_sel (q := (yX7_lead, 6)) 18 (by decide +kernel) rfl
theorem q_19 : Cond.selects RX7 yX7_winsTie yX7_winsTie ∈ zTb := zq_sel (q := (yX7_winsTie, 6)) 19 (by decide +kernel) rfl
theorem q_20 : Cond.selects RX7 yX7_tellFacts yX7_tellFacts ∈ zTb := zq_sel (q := (yX7_tellFacts, 6)) 20 (by decide +kernel) rfl
theorem q_21 : Cond.selects RX1 yX1_worth yX1_worth ∈ zTb := zq_sel (q := (yX1_worth, 12)) 21 (by decide +kernel) rfl
theorem q_22 : Cond.selects RX1 yX1_push yX1_push ∈ zTb := zq_sel (q := (yX1_push, 12)) 22 (by decide +kernel) rfl
theorem q_23 : Cond.selects RX1 yX1_fact yX1_fact ∈ zTb := zq_sel (q := (yX1_fact, 12)) 23 (by decide +kernel) rfl
theorem q_24 : Cond.selects RX1 yX1_pop yX1_pop ∈ zTb := zq_sel (q := (yX1_pop, 12)) 24 (by decide +kernel) rfl
theorem q_25 : Cond.selects RX7 yX7_castsOnDays yX7_castsOnDays ∈ zTb := zq_sel (q := (yX7_castsOnDays, 6)) 25 (by decide +kernel) rfl
theorem q_26 : Cond.selects RX7 yX7_worst yX7_worst ∈ zTb := zq_sel (q := (yX7_worst, 6)) 26 (by decide +kernel) rfl
theorem q_27 : Cond.selects RX7 yX7_canBe yX7_canBe ∈ zTb := zq_sel (q := (yX7_canBe, 6)) 27 (by decide +kernel) rfl
theorem q_28 : Cond.selects RX11 yX11_governsBy yX11_governsBy ∈ zTb := zq_sel (q := (yX11_governsBy, 10)) 28 (by decide +kernel) rfl
theorem q_29 : Cond.selects RX11 yX11_passDrawnDay yX11_passDrawnDay ∈ zTb := zq_sel (q := (yX11_passDrawnDay, 10)) 29 (by decide +kernel) rfl
theorem q_30 : Cond.selects RX11 yX11_drawBelow yX11_drawBelow ∈ zTb := zq_sel (q := (yX11_drawBelow, 10)) 30 (by decide +kernel) rfl
theorem q_32 : Cond.selects RX12 yX12_fresh yX12_fresh ∈ zTb := zq_sel (q := (yX12_fresh, 52)) 32 (by decide +kernel) rfl
theorem q_33 : Cond.selects RX12 yX12_readsAll yX12_readsAll ∈ zTb := zq_sel (q := (yX12_readsAll, 52)) 33 (by decide +kernel) rfl
theorem q_34 : Cond.selects RX12 yX12_begins yX12_begins ∈ zTb := zq_sel (q := (yX12_begins, 52)) 34 (by decide +kernel) rfl
theorem q_35 : Cond.selects RX12 yX12_nextToken yX12_nextToken ∈ zTb := zq_sel (q := (yX12_nextToken, 52)) 35 (by decide +kernel) rfl
theorem q_36 : Cond.selects RX12 yX12_signAt yX12_signAt ∈ zTb := zq_sel (q := (yX12_signAt, 52)) 36 (by decide +kernel) rfl
theorem q_37 : Cond.selects RX12 yX12_isWord yX12_isWord ∈ zTb := zq_sel (q := (yX12_isWord, 52)) 37 (by decide +kernel) rfl
theorem q_38 : Cond.selects RX12 yX12_readsPerson yX12_readsPerson ∈ zTb := zq_sel (q := (yX12_readsPerson, 52)) 38 (by decide +kernel) rfl
theorem q_39 : Cond.selects RX12 yX12_fails yX12_fails ∈ zTb := zq_sel (q := (yX12_fails, 52)) 39 (by decide +kernel) rfl
theorem q_40 : Cond.selects RX12 yX12_isKept yX12_isKept ∈ zTb := zq_sel (q := (yX12_isKept, 52)) 40 (by decide +kernel) rfl
theorem q_41 : Cond.selects RX12 yX12_named yX12_named ∈ zTb := zq_sel (q := (yX12_named, 52)) 41 (by decide +kernel) rfl
theorem q_42 : Cond.selects RX12 yX12_needsBoth yX12_needsBoth ∈ zTb := zq_sel (q := (yX12_needsBoth, 52)) 42 (by decide +kernel) rfl
theorem q_43 : Cond.selects RX12 yX12_needsNumber yX12_needsNumber ∈ zTb := zq_sel (q := (yX12_needsNumber, 52)) 43 (by decide +kernel) rfl
theorem q_44 : Cond.selects RX12 yX12_closes yX12_closes ∈ zTb := zq_sel (q := (yX12_closes, 52)) 44 (by decide +kernel) rfl
theorem q_45 : Cond.selects RX12 yX12_isSign yX12_isSign ∈ zTb := zq_sel (q := (yX12_isSign, 52)) 45 (by decide +kernel) rfl
theorem q_46 : Cond.selects RX12 yX12_readsGrudge yX12_readsGrudge ∈ zTb := zq_sel (q := (yX12_readsGrudge, 52)) 46 (by decide +kernel) rfl
theorem q_47 : Cond.selects RX12 yX12_needsTwo yX12_needsTwo ∈ zTb := zq_sel (q := (yX12_needsTwo, 52)) 47 (by decide +kernel) rfl
theorem q_48 : Cond.selects RX12 yX12_needsPerson yX12_needsPerson ∈ zTb := zq_sel (q := (yX12_needsPerson, 52)) 48 (by decide +kernel) rfl
theorem q_49 : Cond.selects RX12 yX12_readsHeir yX12_readsHeir ∈ zTb := zq_sel (q := (yX12_readsHeir, 52)) 49 (by decide +kernel) rfl
theorem q_50 : Cond.selects RX12 yX12_readsBar yX12_readsBar ∈ zTb := zq_sel (q := (yX12_readsBar, 52)) 50 (by decide +kernel) rfl
theorem q_51 : Cond.selects RX12 yX12_isTwice yX12_isTwice ∈ zTb := zq_sel (q := (yX12_isTwice, 52)) 51 (by decide +kernel) rfl
theorem q_52 : Cond.selects RX12 yX12_readsWhich yX12_readsWhich ∈ zTb := zq_sel (q := (yX12_readsWhich, 52)) 52 (by decide +kernel) rfl
theorem q_53 : Cond.selects RX12 yX12_readsLaw yX12_readsLaw ∈ zTb := zq_sel (q := (yX12_readsLaw, 52)) 53 (by decide +kernel) rfl
theorem q_54 : Cond.selects RX12 yX12_reads yX12_reads ∈ zTb := zq_sel (q := (yX12_reads, 52)) 54 (by decide +kernel) rfl
theorem q_55 : Cond.selects RX12 yX12_fact yX12_fact ∈ zTb := zq_sel (q := (yX12_fact, 52)) 55 (by decide +kernel) rfl
theorem q_56 : Cond.selects RX12 yX12_puts yX12_puts ∈ zTb := zq_sel (q := (yX12_puts, 52)) 56 (by decide +kernel) rfl
theorem q_57 : Cond.selects RX12 yX12_lays yX12_lays ∈ zTb := zq_sel (q := (yX12_lays, 52)) 57 (by decide +kernel) rfl
theorem q_58 : Cond.selects RX12 yX12_readsLine yX12_readsLine ∈ zTb := zq_sel (q := (yX12_readsLine, 52)) 58 (by decide +kernel) rfl
theorem q_59 : Cond.selects RX12 yX12_laysLines yX12_laysLines ∈ zTb := zq_sel (q := (yX12_laysLines, 52)) 59 (by decide +kernel) rfl
theorem q_60 : Cond.selects RX12 yX12_isPerson yX12_isPerson ∈ zTb := zq_sel (q := (yX12_isPerson, 52)) 60 (by decide +kernel) rfl
theorem q_61 : Cond.selects RX12 yX12_countsAgainst yX12_countsAgainst ∈ zTb := zq_sel (q := (yX12_countsAgainst, 52)) 61 (by decide +kernel) rfl
theorem q_62 : Cond.selects RX12 yX12_isAlive yX12_isAlive ∈ zTb := zq_sel (q := (yX12_isAlive, 52)) 62 (by decide +kernel) rfl
theorem q_63 : Cond.selects RX12 yX12_castBy yX12_castBy ∈ zTb := zq_sel (q := (yX12_castBy, 52)) 63 (by decide +kernel) rfl
theorem q_64 : Cond.selects RX12 yX12_areTwo yX12_areTwo ∈ zTb := zq_sel (q := (yX12_areTwo, 52)) 64 (by decide +kernel) rfl
theorem q_65 : Cond.selects RX12 yX12_governor yX12_governor ∈ zTb := zq_sel (q := (yX12_governor, 52)) 65 (by decide +kernel) rfl
theorem q_66 : Cond.selects RX12 yX12_isAhead yX12_isAhead ∈ zTb := zq_sel (q := (yX12_isAhead, 52)) 66 (by decide +kernel) rfl
theorem q_67 : Cond.selects RX12 yX12_isRather yX12_isRather ∈ zTb := zq_sel (q := (yX12_isRather, 52)) 67 (by decide +kernel) rfl
theorem q_68 : Cond.selects RX12 yX12_canTax yX12_canTax ∈ zTb := zq_sel (q := (yX12_canTax, 52)) 68 (by decide +kernel) rfl
theorem q_69 : Cond.selects RX12 yX12_keeps yX12_keeps ∈ zTb := zq_sel (q := (yX12_keeps, 52)) 69 (by decide +kernel) rfl
theorem q_70 : Cond.selects RX12 yX12_taxes yX12_taxes ∈ zTb := zq_sel (q := (yX12_taxes, 52)) 70 (by decide +kernel) rfl
theorem q_71 : Cond.selects RX12 yX12_lawOf yX12_lawOf ∈ zTb := zq_sel (q := (yX12_lawOf, 52)) 71 (by decide +kernel) rfl
theorem q_72 : Cond.selects RX12 yX12_worked yX12_worked ∈ zTb := zq_sel (q := (yX12_worked, 52)) 72 (by decide +kernel) rfl
theorem q_73 : Cond.selects RX12 yX12_opens yX12_opens ∈ zTb := zq_sel (q := (yX12_opens, 52)) 73 (by decide +kernel) rfl
theorem q_74 : Cond.selects RX12 yX12_sums yX12_sums ∈ zTb := zq_sel (q := (yX12_sums, 52)) 74 (by decide +kernel) rfl
theorem q_75 : Cond.selects RX12 yX12_tests yX12_tests ∈ zTb := zq_sel (q := (yX12_tests, 52)) 75 (by decide +kernel) rfl
theorem q_76 : Cond.selects RX12 yX12_areAlive yX12_areAlive ∈ zTb := zq_sel (q := (yX12_areAlive, 52)) 76 (by decide +kernel) rfl
theorem q_77 : Cond.selects RX12 yX12_gives yX12_gives ∈ zTb := zq_sel (q := (yX12_gives, 52)) 77 (by decide +kernel) rfl
theorem q_78 : Cond.selects RX12 yX12_casts yX12_casts ∈ zTb := zq_sel (q := (yX12_casts, 52)) 78 (by decide +kernel) rfl
theorem q_79 : Cond.selects RX12 yX12_dies yX12_dies ∈ zTb := zq_sel (q := (yX12_dies, 52)) 79 (by decide +kernel) rfl
theorem q_80 : Cond.selects RX12 yX12_passes yX12_passes ∈ zTb := zq_sel (q := (yX12_passes, 52)) 80 (by decide +kernel) rfl
theorem q_81 : Cond.selects RX12 yX12_nextOf yX12_nextOf ∈ zTb := zq_sel (q := (yX12_nextOf, 52)) 81 (by decide +kernel) rfl
theorem q_82 : Cond.selects RX12 yX12_mayCast yX12_mayCast ∈ zTb := zq_sel (q := (yX12_mayCast, 52)) 82 (by decide +kernel) rfl
theorem q_83 : Cond.selects RX12 yX12_hated yX12_hated ∈ zTb := zq_sel (q := (yX12_hated, 52)) 83 (by decide +kernel) rfl
theorem q_84 : Cond.selects RX12 yX12_barOf yX12_barOf ∈ zTb := zq_sel (q := (yX12_barOf, 52)) 84 (by decide +kernel) rfl
theorem q_85 : Cond.selects RX12 yX12_goes yX12_goes ∈ zTb := zq_sel (q := (yX12_goes, 52)) 85 (by decide +kernel) rfl
theorem q_86 : Cond.selects RX12 yX12_allVotes yX12_allVotes ∈ zTb := zq_sel (q := (yX12_allVotes, 52)) 86 (by decide +kernel) rfl
theorem q_87 : Cond.selects RX12 yX12_isOther yX12_isOther ∈ zTb := zq_sel (q := (yX12_isOther, 52)) 87 (by decide +kernel) rfl
theorem q_88 : Cond.selects RX12 yX12_taxesIfCan yX12_taxesIfCan ∈ zTb := zq_sel (q := (yX12_taxesIfCan, 52)) 88 (by decide +kernel) rfl
theorem q_89 : Cond.selects RX12 yX12_quietsOf yX12_quietsOf ∈ zTb := zq_sel (q := (yX12_quietsOf, 52)) 89 (by decide +kernel) rfl
theorem q_90 : Cond.selects RX12 yX12_isAsHeard yX12_isAsHeard ∈ zTb := zq_sel (q := (yX12_isAsHeard, 52)) 90 (by decide +kernel) rfl
theorem q_91 : Cond.selects RX12 yX12_voters yX12_voters ∈ zTb := zq_sel (q := (yX12_voters, 52)) 91 (by decide +kernel) rfl
theorem q_92 : Cond.selects RX12 yX12_governsBy yX12_governsBy ∈ zTb := zq_sel (q := (yX12_governsBy, 52)) 92 (by decide +kernel) rfl
theorem q_93 : Cond.selects RX12 yX12_livesDay yX12_livesDay ∈ zTb := zq_sel (q := (yX12_livesDay, 52)) 93 (by decide +kernel) rfl
theorem q_94 : Cond.selects RX12 yX12_draws yX12_draws ∈ zTb := zq_sel (q := (yX12_draws, 52)) 94 (by decide +kernel) rfl
theorem q_95 : Cond.selects RX12 yX12_laysHeard yX12_laysHeard ∈ zTb := zq_sel (q := (yX12_laysHeard, 52)) 95 (by decide +kernel) rfl
theorem q_96 : Cond.selects RX12 yX12_allGrudges yX12_allGrudges ∈ zTb := zq_sel (q := (yX12_allGrudges, 52)) 96 (by decide +kernel) rfl
theorem q_97 : Cond.selects RX12 yX12_allCast yX12_allCast ∈ zTb := zq_sel (q := (yX12_allCast, 52)) 97 (by decide +kernel) rfl
theorem q_99 : Cond.initialized RX11 ∈ zTb := zq_1 1 (by decide +kernel) rfl
theorem q_100 : Cond.initialized RX8 ∈ zTb := zq_1 2 (by decide +kernel) rfl
theorem q_101 : Cond.initialized RX5 ∈ zTb := zq_1 3 (by decide +kernel) rfl
theorem q_102 : Cond.initialized RX1 ∈ zTb := zq_1 4 (by decide +kernel) rfl
theorem q_103 : Cond.initialized RX4 ∈ zTb := zq_1 5 (by decide +kernel) rfl
theorem q_104 : Cond.initialized RX6 ∈ zTb := zq_1 6 (by decide +kernel) rfl
theorem q_105 : Cond.initialized RX0 ∈ zTb := zq_1 7 (by decide +kernel) rfl
theorem q_106 : Cond.initialized RX10 ∈ zTb := zq_1 8 (by decide +kernel) rfl
theorem q_107 : Cond.initialized RX9 ∈ zTb := zq_1 9 (by decide +kernel) rfl
theorem q_108 : Cond.initialized RX7 ∈ zTb := zq_1 10 (by decide +kernel) rfl
theorem q_109 : Cond.initialized RX2 ∈ zTb := zq_1 11 (by decide +kernel) rfl
theorem q_110 : Cond.initialized RX3 ∈ zTb := zq_1 12 (by decide +kernel) rfl
theorem q_111 : Cond.initialized RX12 ∈ zTb := zq_1 13 (by decide +kernel) rfl
theorem q_112 : Cond.initialized RJ7 ∈ zTb := zq_1 14 (by decide +kernel) rfl
theorem q_113 : Cond.initialized RJ0 ∈ zTb := zq_1 15 (by decide +kernel) rfl
theorem q_114 : Cond.initialized RJ1 ∈ zTb := zq_1 16 (by decide +kernel) rfl
theorem q_115 : Cond.initialized RJ3 ∈ zTb := zq_1 17 (by decide +kernel) rfl
theorem q_117 : Cond.initialized "java/lang/Math" ∈ zTb := zq_1 19 (by decide +kernel) rfl
theorem q_119 : Cond.initialized "java/lang/System" ∈ zTb := zq_1 21 (by decide +kernel) rfl
theorem q_120 : Cond.initialized RJ6 ∈ zTb := zq_1 22 (by decide +kernel) rfl
theorem q_139 : Cond.fieldLink RX8 9 "VoteAgainst$Tape" "signs" "[C" ∈ zTb := zq_1 41 (by decide +kernel) rfl
theorem q_140 : Cond.fieldLink RX11 73 "VoteAgainst$Tape" "length" "I" ∈ zTb := zq_1 42 (by decide +kernel) rfl
theorem q_141 : Cond.fieldLink RX8 13 "VoteAgainst$Tape" "length" "I" ∈ zTb := zq_1 43 (by decide +kernel) rfl
theorem q_142 : Cond.fieldLink RX4 42 "VoteAgainst$Tape" "length" "I" ∈ zTb := zq_1 44 (by decide +kernel) rfl
theorem q_143 : Cond.fieldLink RX0 41 "VoteAgainst$Tape" "token" "I" ∈ zTb := zq_1 45 (by decide +kernel) rfl
theorem q_144 : Cond.fieldLink RX6 42 "VoteAgainst$Tape" "token" "I" ∈ zTb := zq_1 46 (by decide +kernel) rfl
theorem q_145 : Cond.fieldLink RX10 26 "VoteAgainst$Tape" "token" "I" ∈ zTb := zq_1 47 (by decide +kernel) rfl
theorem q_146 : Cond.fieldLink RX4 31 "VoteAgainst$Tape" "token" "I" ∈ zTb := zq_1 48 (by decide +kernel) rfl
theorem q_147 : Cond.fieldLink RX8 30 "VoteAgainst$Tape" "token" "I" ∈ zTb := zq_1 49 (by decide +kernel) rfl
theorem q_148 : Cond.fieldLink RX8 23 "VoteAgainst$Tape" "place" "I" ∈ zTb := zq_1 50 (by decide +kernel) rfl
theorem q_149 : Cond.fieldLink RX4 45 "VoteAgainst$Tape" "place" "I" ∈ zTb := zq_1 51 (by decide +kernel) rfl
theorem q_150 : Cond.fieldLink RX0 66 "VoteAgainst$Tape" "number" "I" ∈ zTb := zq_1 52 (by decide +kernel) rfl
theorem q_151 : Cond.fieldLink RX8 57 "VoteAgainst$Tape" "number" "I" ∈ zTb := zq_1 53 (by decide +kernel) rfl
theorem q_152 : Cond.fieldLink RX4 57 "VoteAgainst$Tape" "number" "I" ∈ zTb := zq_1 54 (by decide +kernel) rfl
theorem q_153 : Cond.fieldLink RX8 17 "VoteAgainst$Tape" "behind" "I" ∈ zTb := zq_1 55 (by decide +kernel) rfl
theorem q_180 : Cond.fieldLink RX1 11 "VoteAgainst$Laws" "code" "[I" ∈ zTb := zq_1 82 (by decide +kernel) rfl
theorem q_181 : Cond.fieldLink RX1 17 "VoteAgainst$Laws" "values" "[I" ∈ zTb := zq_1 83 (by decide +kernel) rfl
theorem q_182 : Cond.fieldLink RX1 70 "VoteAgainst$Laws" "height" "I" ∈ zTb := zq_1 84 (by decide +kernel) rfl
theorem q_183 : Cond.fieldLink RX1 46 "VoteAgainst$Laws" "has" "I" ∈ zTb := zq_1 85 (by decide +kernel) rfl
theorem q_184 : Cond.fieldLink RX1 49 "VoteAgainst$Laws" "jealous" "I" ∈ zTb := zq_1 86 (by decide +kernel) rfl
theorem q_185 : Cond.fieldLink RX1 52 "VoteAgainst$Laws" "years" "I" ∈ zTb := zq_1 87 (by decide +kernel) rfl
theorem q_186 : Cond.fieldLink RX1 55 "VoteAgainst$Laws" "known" "I" ∈ zTb := zq_1 88 (by decide +kernel) rfl
theorem q_187 : Cond.fieldLink RX1 20 "VoteAgainst$Laws" "length" "I" ∈ zTb := zq_1 89 (by decide +kernel) rfl
theorem q_188 : Cond.fieldLink RX6 136 "VoteAgainst$Laws" "length" "I" ∈ zTb := zq_1 90 (by decide +kernel) rfl
theorem q_189 : Cond.fieldLink RX1 24 "VoteAgainst$Laws" "growsFrom" "I" ∈ zTb := zq_1 91 (by decide +kernel) rfl
theorem q_190 : Cond.fieldLink RX6 141 "VoteAgainst$Laws" "growsFrom" "I" ∈ zTb := zq_1 92 (by decide +kernel) rfl
theorem q_191 : Cond.fieldLink RX1 27 "VoteAgainst$Laws" "growsEnd" "I" ∈ zTb := zq_1 93 (by decide +kernel) rfl
theorem q_192 : Cond.fieldLink RX6 148 "VoteAgainst$Laws" "growsEnd" "I" ∈ zTb := zq_1 94 (by decide +kernel) rfl
theorem q_193 : Cond.fieldLink RX1 30 "VoteAgainst$Laws" "easesFrom" "I" ∈ zTb := zq_1 95 (by decide +kernel) rfl
theorem q_194 : Cond.fieldLink RX6 151 "VoteAgainst$Laws" "easesFrom" "I" ∈ zTb := zq_1 96 (by decide +kernel) rfl
theorem q_195 : Cond.fieldLink RX1 33 "VoteAgainst$Laws" "easesEnd" "I" ∈ zTb := zq_1 97 (by decide +kernel) rfl
theorem q_196 : Cond.fieldLink RX6 154 "VoteAgainst$Laws" "easesEnd" "I" ∈ zTb := zq_1 98 (by decide +kernel) rfl
theorem q_224 : Cond.fieldLink RX5 9 "VoteAgainst$Republic" "names" "[J" ∈ zTb := zq_1 126 (by decide +kernel) rfl
theorem q_225 : Cond.fieldLink RX5 15 "VoteAgainst$Republic" "kinds" "[I" ∈ zTb := zq_1 127 (by decide +kernel) rfl
theorem q_226 : Cond.fieldLink RX11 113 "VoteAgainst$Republic" "kinds" "[I" ∈ zTb := zq_1 128 (by decide +kernel) rfl
theorem q_227 : Cond.fieldLink RX7 85 "VoteAgainst$Republic" "kinds" "[I" ∈ zTb := zq_1 129 (by decide +kernel) rfl
theorem q_228 : Cond.fieldLink RX5 19 "VoteAgainst$Republic" "ages" "[I" ∈ zTb := zq_1 130 (by decide +kernel) rfl
theorem q_229 : Cond.fieldLink RX11 117 "VoteAgainst$Republic" "ages" "[I" ∈ zTb := zq_1 131 (by decide +kernel) rfl
theorem q_230 : Cond.fieldLink RX7 75 "VoteAgainst$Republic" "ages" "[I" ∈ zTb := zq_1 132 (by decide +kernel) rfl
theorem q_231 : Cond.fieldLink RX5 22 "VoteAgainst$Republic" "envies" "[I" ∈ zTb := zq_1 133 (by decide +kernel) rfl
theorem q_232 : Cond.fieldLink RX11 120 "VoteAgainst$Republic" "envies" "[I" ∈ zTb := zq_1 134 (by decide +kernel) rfl
theorem q_233 : Cond.fieldLink RX7 104 "VoteAgainst$Republic" "envies" "[I" ∈ zTb := zq_1 135 (by decide +kernel) rfl
theorem q_234 : Cond.fieldLink RX5 25 "VoteAgainst$Republic" "heirs" "[I" ∈ zTb := zq_1 136 (by decide +kernel) rfl
theorem q_235 : Cond.fieldLink RX11 136 "VoteAgainst$Republic" "heirs" "[I" ∈ zTb := zq_1 137 (by decide +kernel) rfl
theorem q_236 : Cond.fieldLink RX6 117 "VoteAgainst$Republic" "heirs" "[I" ∈ zTb := zq_1 138 (by decide +kernel) rfl
theorem q_237 : Cond.fieldLink RX7 116 "VoteAgainst$Republic" "heirs" "[I" ∈ zTb := zq_1 139 (by decide +kernel) rfl
theorem q_238 : Cond.fieldLink RX5 28 "VoteAgainst$Republic" "grudges" "[I" ∈ zTb := zq_1 140 (by decide +kernel) rfl
theorem q_239 : Cond.fieldLink RX7 25 "VoteAgainst$Republic" "grudges" "[I" ∈ zTb := zq_1 141 (by decide +kernel) rfl
theorem q_240 : Cond.fieldLink RX6 113 "VoteAgainst$Republic" "grudges" "[I" ∈ zTb := zq_1 142 (by decide +kernel) rfl
theorem q_241 : Cond.fieldLink RX6 11 "VoteAgainst$Republic" "laws" "LVoteAgainst$Laws;" ∈ zTb := zq_1 143 (by decide +kernel) rfl
theorem q_242 : Cond.fieldLink RX5 34 "VoteAgainst$Republic" "laws" "LVoteAgainst$Laws;" ∈ zTb := zq_1 144 (by decide +kernel) rfl
theorem q_243 : Cond.fieldLink RX7 92 "VoteAgainst$Republic" "laws" "LVoteAgainst$Laws;" ∈ zTb := zq_1 145 (by decide +kernel) rfl
theorem q_244 : Cond.fieldLink RX5 51 "VoteAgainst$Republic" "people" "I" ∈ zTb := zq_1 146 (by decide +kernel) rfl
theorem q_245 : Cond.fieldLink RX7 40 "VoteAgainst$Republic" "people" "I" ∈ zTb := zq_1 147 (by decide +kernel) rfl
theorem q_246 : Cond.fieldLink RX6 76 "VoteAgainst$Republic" "people" "I" ∈ zTb := zq_1 148 (by decide +kernel) rfl
theorem q_247 : Cond.fieldLink RX11 216 "VoteAgainst$Republic" "people" "I" ∈ zTb := zq_1 149 (by decide +kernel) rfl
theorem q_248 : Cond.fieldLink RX5 38 "VoteAgainst$Republic" "bar" "I" ∈ zTb := zq_1 150 (by decide +kernel) rfl
theorem q_249 : Cond.fieldLink RX6 123 "VoteAgainst$Republic" "bar" "I" ∈ zTb := zq_1 151 (by decide +kernel) rfl
theorem q_250 : Cond.fieldLink RX11 183 "VoteAgainst$Republic" "bar" "I" ∈ zTb := zq_1 152 (by decide +kernel) rfl
theorem q_251 : Cond.fieldLink RX7 145 "VoteAgainst$Republic" "bar" "I" ∈ zTb := zq_1 153 (by decide +kernel) rfl
theorem q_252 : Cond.fieldLink RX5 54 "VoteAgainst$Republic" "lapse" "Z" ∈ zTb := zq_1 154 (by decide +kernel) rfl
theorem q_253 : Cond.fieldLink RX7 56 "VoteAgainst$Republic" "lapse" "Z" ∈ zTb := zq_1 155 (by decide +kernel) rfl
theorem q_254 : Cond.fieldLink RX6 129 "VoteAgainst$Republic" "lapse" "Z" ∈ zTb := zq_1 156 (by decide +kernel) rfl
theorem q_255 : Cond.fieldLink RX11 280 "VoteAgainst$Republic" "lapse" "Z" ∈ zTb := zq_1 157 (by decide +kernel) rfl
theorem q_256 : Cond.fieldLink RX5 58 "VoteAgainst$Republic" "young" "Z" ∈ zTb := zq_1 158 (by decide +kernel) rfl
theorem q_257 : Cond.fieldLink RX6 133 "VoteAgainst$Republic" "young" "Z" ∈ zTb := zq_1 159 (by decide +kernel) rfl
theorem q_258 : Cond.fieldLink RX7 78 "VoteAgainst$Republic" "young" "Z" ∈ zTb := zq_1 160 (by decide +kernel) rfl
theorem q_259 : Cond.fieldLink RX11 283 "VoteAgainst$Republic" "young" "Z" ∈ zTb := zq_1 161 (by decide +kernel) rfl
theorem q_298 : Cond.fieldLink RX0 13 "VoteAgainst$LawReader" "tape" "LVoteAgainst$Tape;" ∈ zTb := zq_1 200 (by decide +kernel) rfl
theorem q_299 : Cond.fieldLink RX0 17 "VoteAgainst$LawReader" "laws" "LVoteAgainst$Laws;" ∈ zTb := zq_1 201 (by decide +kernel) rfl
theorem q_300 : Cond.fieldLink RX0 9 "VoteAgainst$LawReader" "waiting" "[I" ∈ zTb := zq_1 202 (by decide +kernel) rfl
theorem q_301 : Cond.fieldLink RX0 21 "VoteAgainst$LawReader" "waits" "I" ∈ zTb := zq_1 203 (by decide +kernel) rfl
theorem q_302 : Cond.fieldLink RX0 25 "VoteAgainst$LawReader" "opens" "I" ∈ zTb := zq_1 204 (by decide +kernel) rfl
theorem q_303 : Cond.fieldLink RX0 28 "VoteAgainst$LawReader" "depth" "I" ∈ zTb := zq_1 205 (by decide +kernel) rfl
theorem q_304 : Cond.fieldLink RX0 31 "VoteAgainst$LawReader" "isPartDue" "Z" ∈ zTb := zq_1 206 (by decide +kernel) rfl
theorem q_320 : Cond.fieldLink RX6 20 "VoteAgainst$RepublicReader" "lawReader" "LVoteAgainst$LawReader;" ∈ zTb := zq_1 222 (by decide +kernel) rfl
theorem q_321 : Cond.fieldLink RX6 34 "VoteAgainst$RepublicReader" "toldOnce" "I" ∈ zTb := zq_1 223 (by decide +kernel) rfl
theorem q_322 : Cond.fieldLink RX4 9 "VoteAgainst$Reader" "tape" "LVoteAgainst$Tape;" ∈ zTb := zq_1 224 (by decide +kernel) rfl
theorem q_323 : Cond.fieldLink RX6 38 "VoteAgainst$RepublicReader" "tape" "LVoteAgainst$Tape;" ∈ zTb := zq_1 225 (by decide +kernel) rfl
theorem q_324 : Cond.sameField "VoteAgainst$RepublicReader" "VoteAgainst$Reader" "tape" "LVoteAgainst$Tape;" ∈ zTb := zq_1 226 (by decide +kernel) rfl
theorem q_325 : Cond.fieldLink RX10 22 "VoteAgainst$YearsReader" "tape" "LVoteAgainst$Tape;" ∈ zTb := zq_1 227 (by decide +kernel) rfl
theorem q_326 : Cond.sameField "VoteAgainst$YearsReader" "VoteAgainst$Reader" "tape" "LVoteAgainst$Tape;" ∈ zTb := zq_1 228 (by decide +kernel) rfl
theorem q_327 : Cond.fieldLink RX4 15 "VoteAgainst$Reader" "republic" "LVoteAgainst$Republic;" ∈ zTb := zq_1 229 (by decide +kernel) rfl
theorem q_328 : Cond.fieldLink RX6 26 "VoteAgainst$RepublicReader" "republic" "LVoteAgainst$Republic;" ∈ zTb := zq_1 230 (by decide +kernel) rfl
theorem q_329 : Cond.sameField "VoteAgainst$RepublicReader" "VoteAgainst$Reader" "republic" "LVoteAgainst$Republic;" ∈ zTb := zq_1 231 (by decide +kernel) rfl
theorem q_330 : Cond.fieldLink RX11 81 "VoteAgainst$RepublicReader" "republic" "LVoteAgainst$Republic;" ∈ zTb := zq_1 232 (by decide +kernel) rfl
theorem q_331 : Cond.fieldLink RX10 42 "VoteAgainst$YearsReader" "value" "I" ∈ zTb := zq_1 233 (by decide +kernel) rfl
theorem q_332 : Cond.sameField "VoteAgainst$YearsReader" "VoteAgainst$Reader" "value" "I" ∈ zTb := zq_1 234 (by decide +kernel) rfl
theorem q_333 : Cond.fieldLink RX6 100 "VoteAgainst$RepublicReader" "value" "I" ∈ zTb := zq_1 235 (by decide +kernel) rfl
theorem q_334 : Cond.sameField "VoteAgainst$RepublicReader" "VoteAgainst$Reader" "value" "I" ∈ zTb := zq_1 236 (by decide +kernel) rfl
theorem q_335 : Cond.fieldLink RX4 54 "VoteAgainst$Reader" "value" "I" ∈ zTb := zq_1 237 (by decide +kernel) rfl
theorem q_336 : Cond.fieldLink RX4 22 "VoteAgainst$Reader" "fault" "I" ∈ zTb := zq_1 238 (by decide +kernel) rfl
theorem q_362 : Cond.fieldLink RX9 9 "VoteAgainst$Years" "lines" "[I" ∈ zTb := zq_2 24 (by decide +kernel) rfl
theorem q_363 : Cond.fieldLink RX11 198 "VoteAgainst$Years" "lines" "[I" ∈ zTb := zq_2 25 (by decide +kernel) rfl
theorem q_364 : Cond.fieldLink RX10 18 "VoteAgainst$Years" "count" "I" ∈ zTb := zq_2 26 (by decide +kernel) rfl
theorem q_365 : Cond.fieldLink RX2 34 "VoteAgainst$Years" "count" "I" ∈ zTb := zq_2 27 (by decide +kernel) rfl
theorem q_366 : Cond.fieldLink RX9 19 "VoteAgainst$Years" "count" "I" ∈ zTb := zq_2 28 (by decide +kernel) rfl
theorem q_367 : Cond.fieldLink RX11 195 "VoteAgainst$Years" "count" "I" ∈ zTb := zq_2 29 (by decide +kernel) rfl
theorem q_373 : Cond.fieldLink RX10 12 "VoteAgainst$YearsReader" "years" "LVoteAgainst$Years;" ∈ zTb := zq_2 35 (by decide +kernel) rfl
theorem q_374 : Cond.fieldLink RX11 103 "VoteAgainst$YearsReader" "years" "LVoteAgainst$Years;" ∈ zTb := zq_2 36 (by decide +kernel) rfl
theorem q_388 : Cond.fieldLink RX7 21 "VoteAgainst$Standing" "republic" "LVoteAgainst$Republic;" ∈ zTb := zq_2 50 (by decide +kernel) rfl
theorem q_389 : Cond.fieldLink RX7 9 "VoteAgainst$Standing" "grudges" "[I" ∈ zTb := zq_2 51 (by decide +kernel) rfl
theorem q_390 : Cond.fieldLink RX11 146 "VoteAgainst$Standing" "grudges" "[I" ∈ zTb := zq_2 52 (by decide +kernel) rfl
theorem q_391 : Cond.fieldLink RX7 15 "VoteAgainst$Standing" "casts" "[I" ∈ zTb := zq_2 53 (by decide +kernel) rfl
theorem q_392 : Cond.fieldLink RX11 149 "VoteAgainst$Standing" "casts" "[I" ∈ zTb := zq_2 54 (by decide +kernel) rfl
theorem q_393 : Cond.fieldLink RX7 18 "VoteAgainst$Standing" "votes" "[I" ∈ zTb := zq_2 55 (by decide +kernel) rfl
theorem q_394 : Cond.fieldLink RX11 126 "VoteAgainst$Standing" "votes" "[I" ∈ zTb := zq_2 56 (by decide +kernel) rfl
theorem q_395 : Cond.fieldLink RX7 44 "VoteAgainst$Standing" "alive" "I" ∈ zTb := zq_2 57 (by decide +kernel) rfl
theorem q_396 : Cond.fieldLink RX11 274 "VoteAgainst$Standing" "alive" "I" ∈ zTb := zq_2 58 (by decide +kernel) rfl
theorem q_397 : Cond.fieldLink RX7 47 "VoteAgainst$Standing" "day" "I" ∈ zTb := zq_2 59 (by decide +kernel) rfl
theorem q_398 : Cond.fieldLink RX11 286 "VoteAgainst$Standing" "day" "I" ∈ zTb := zq_2 60 (by decide +kernel) rfl
theorem q_422 : Cond.fieldLink RX2 27 "VoteAgainst$Moment" "standing" "LVoteAgainst$Standing;" ∈ zTb := zq_2 84 (by decide +kernel) rfl
theorem q_423 : Cond.fieldLink RX11 123 "VoteAgainst$Moment" "standing" "LVoteAgainst$Standing;" ∈ zTb := zq_2 85 (by decide +kernel) rfl
theorem q_424 : Cond.fieldLink RX2 12 "VoteAgainst$Moment" "years" "LVoteAgainst$Years;" ∈ zTb := zq_2 86 (by decide +kernel) rfl
theorem q_425 : Cond.fieldLink RX11 99 "VoteAgainst$Moment" "years" "LVoteAgainst$Years;" ∈ zTb := zq_2 87 (by decide +kernel) rfl
theorem q_426 : Cond.fieldLink RX2 37 "VoteAgainst$Moment" "heard" "I" ∈ zTb := zq_2 88 (by decide +kernel) rfl
theorem q_427 : Cond.fieldLink RX11 225 "VoteAgainst$Moment" "heard" "I" ∈ zTb := zq_2 89 (by decide +kernel) rfl
theorem q_428 : Cond.fieldLink RX2 18 "VoteAgainst$Moment" "barsLeft" "I" ∈ zTb := zq_2 90 (by decide +kernel) rfl
theorem q_429 : Cond.fieldLink RX11 231 "VoteAgainst$Moment" "barsLeft" "I" ∈ zTb := zq_2 91 (by decide +kernel) rfl
theorem q_430 : Cond.fieldLink RX11 94 "VoteAgainst$Moment" "isLaid" "Z" ∈ zTb := zq_2 92 (by decide +kernel) rfl
theorem q_452 : Cond.fieldLink RX3 11 "VoteAgainst$Past" "ring" "[LVoteAgainst$Standing;" ∈ zTb := zq_2 114 (by decide +kernel) rfl
theorem q_453 : Cond.fieldLink RX3 22 "VoteAgainst$Past" "top" "I" ∈ zTb := zq_2 115 (by decide +kernel) rfl
theorem q_454 : Cond.fieldLink RX3 18 "VoteAgainst$Past" "size" "I" ∈ zTb := zq_2 116 (by decide +kernel) rfl
theorem q_455 : Cond.fieldLink RX11 298 "VoteAgainst$Past" "size" "I" ∈ zTb := zq_2 117 (by decide +kernel) rfl
theorem q_463 : Cond.fieldLink RX11 10 "VoteAgainst" "tape" "LVoteAgainst$Tape;" ∈ zTb := zq_2 125 (by decide +kernel) rfl
theorem q_464 : Cond.fieldLink RX11 19 "VoteAgainst" "told" "LVoteAgainst$Republic;" ∈ zTb := zq_2 126 (by decide +kernel) rfl
theorem q_465 : Cond.fieldLink RX11 28 "VoteAgainst" "republicReader" "LVoteAgainst$RepublicReader;" ∈ zTb := zq_2 127 (by decide +kernel) rfl
theorem q_466 : Cond.fieldLink RX11 35 "VoteAgainst" "yearsReader" "LVoteAgainst$YearsReader;" ∈ zTb := zq_2 128 (by decide +kernel) rfl
theorem q_467 : Cond.fieldLink RX11 44 "VoteAgainst" "start" "LVoteAgainst$Standing;" ∈ zTb := zq_2 129 (by decide +kernel) rfl
theorem q_468 : Cond.fieldLink RX11 48 "VoteAgainst" "tried" "LVoteAgainst$Standing;" ∈ zTb := zq_2 130 (by decide +kernel) rfl
theorem q_469 : Cond.fieldLink RX11 54 "VoteAgainst" "now" "LVoteAgainst$Moment;" ∈ zTb := zq_2 131 (by decide +kernel) rfl
theorem q_470 : Cond.fieldLink RX11 58 "VoteAgainst" "marks" "[LVoteAgainst$Moment;" ∈ zTb := zq_2 132 (by decide +kernel) rfl
theorem q_471 : Cond.fieldLink RX11 65 "VoteAgainst" "past" "LVoteAgainst$Past;" ∈ zTb := zq_2 133 (by decide +kernel) rfl
theorem q_472 : Cond.fieldLink RX11 267 "VoteAgainst" "drawn" "J" ∈ zTb := zq_2 134 (by decide +kernel) rfl
theorem q_498 : Cond.methodLink RX11 69 yX8_append ∈ zTb := zq_2 160 (by decide +kernel) rfl
theorem q_499 : Cond.instanceMethod yX8_append ∈ zTb := zq_2 161 (by decide +kernel) rfl
theorem q_500 : Cond.selects RX8 yX8_append yX8_append ∈ zTb := zq_2 162 (by decide +kernel) rfl
theorem q_501 : Cond.code yX8_append cX8_append 6 none ∈ zTb := zq_2 163 (by decide +kernel) rfl
theorem q_506 : Cond.methodLink RX11 77 ⟨"VoteAgainst$RepublicReader", "readTape", "()I"⟩ ∈ zTb := zq_2 168 (by decide +kernel) rfl
theorem q_507 : Cond.sameMethod "VoteAgainst$RepublicReader" "VoteAgainst$Reader" "readTape" "()I" ∈ zTb := zq_2 169 (by decide +kernel) rfl
theorem q_509 : Cond.selects RX6 ⟨"VoteAgainst$RepublicReader", "readTape", "()I"⟩ yX4_readTape ∈ zTb := zq_2 171 (by decide +kernel) rfl
theorem q_510 : Cond.instanceMethod yX4_readTape ∈ zTb := zq_2 172 (by decide +kernel) rfl
theorem q_511 : Cond.code yX4_readTape cX4_readTape 3 (some .int) ∈ zTb := zq_2 173 (by decide +kernel) rfl
theorem q_512 : Cond.methodLink RX4 19 ⟨"VoteAgainst$Reader", "begin", "()V"⟩ ∈ zTb := zq_2 174 (by decide +kernel) rfl
theorem q_514 : Cond.sameMethod "VoteAgainst$Reader" "VoteAgainst$Reader" "begin" "()V" ∈ zTb := zq_2 176 (by decide +kernel) rfl
theorem q_515 : Cond.selects RX6 ⟨"VoteAgainst$Reader", "begin", "()V"⟩ yX6_begin ∈ zTb := zq_2 177 (by decide +kernel) rfl
theorem q_516 : Cond.instanceMethod yX6_begin ∈ zTb := zq_2 178 (by decide +kernel) rfl
theorem q_517 : Cond.code yX6_begin cX6_begin 1 none ∈ zTb := zq_2 179 (by decide +kernel) rfl
theorem q_518 : Cond.methodLink RX6 30 yX5_clear ∈ zTb := zq_2 180 (by decide +kernel) rfl
theorem q_519 : Cond.instanceMethod yX5_clear ∈ zTb := zq_2 181 (by decide +kernel) rfl
theorem q_520 : Cond.selects RX5 yX5_clear yX5_clear ∈ zTb := zq_2 182 (by decide +kernel) rfl
theorem q_521 : Cond.code yX5_clear cX5_clear 1 none ∈ zTb := zq_2 183 (by decide +kernel) rfl
theorem q_522 : Cond.methodLink RX5 42 yJ7_fill_53178 ∈ zTb := zq_2 184 (by decide +kernel) rfl
theorem q_523 : Cond.static yJ7_fill_53178 ∈ zTb := zq_2 185 (by decide +kernel) rfl
theorem q_524 : Cond.code yJ7_fill_53178 cJ7_fill_53178 4 none ∈ zTb := zq_2 186 (by decide +kernel) rfl
theorem q_525 : Cond.methodLink RX5 48 yX1_clear ∈ zTb := zq_2 187 (by decide +kernel) rfl
theorem q_526 : Cond.instanceMethod yX1_clear ∈ zTb := zq_2 188 (by decide +kernel) rfl
theorem q_527 : Cond.selects RX1 yX1_clear yX1_clear ∈ zTb := zq_2 189 (by decide +kernel) rfl
theorem q_528 : Cond.code yX1_clear cX1_clear 1 none ∈ zTb := zq_2 190 (by decide +kernel) rfl
theorem q_529 : Cond.selects RX10 ⟨"VoteAgainst$Reader", "begin", "()V"⟩ yX10_begin ∈ zTb := zq_2 191 (by decide +kernel) rfl
theorem q_530 : Cond.instanceMethod yX10_begin ∈ zTb := zq_2 192 (by decide +kernel) rfl
theorem q_531 : Cond.code yX10_begin cX10_begin 1 none ∈ zTb := zq_2 193 (by decide +kernel) rfl
theorem q_532 : Cond.methodLink RX4 26 yX8_lookAtFirst ∈ zTb := zq_2 194 (by decide +kernel) rfl
theorem q_533 : Cond.instanceMethod yX8_lookAtFirst ∈ zTb := zq_2 195 (by decide +kernel) rfl
theorem q_534 : Cond.selects RX8 yX8_lookAtFirst yX8_lookAtFirst ∈ zTb := zq_2 196 (by decide +kernel) rfl
theorem q_535 : Cond.code yX8_lookAtFirst cX8_lookAtFirst 1 none ∈ zTb := zq_2 197 (by decide +kernel) rfl
theorem q_536 : Cond.methodLink RX8 20 yX8_lookAtNext ∈ zTb := zq_2 198 (by decide +kernel) rfl
theorem q_537 : Cond.instanceMethod yX8_lookAtNext ∈ zTb := zq_2 199 (by decide +kernel) rfl
theorem q_538 : Cond.selects RX8 yX8_lookAtNext yX8_lookAtNext ∈ zTb := zq_2 200 (by decide +kernel) rfl
theorem q_539 : Cond.code yX8_lookAtNext cX8_lookAtNext 2 none ∈ zTb := zq_2 201 (by decide +kernel) rfl
theorem q_540 : Cond.methodLink RX8 26 yX8_isBlank ∈ zTb := zq_2 202 (by decide +kernel) rfl
theorem q_541 : Cond.static yX8_isBlank ∈ zTb := zq_2 203 (by decide +kernel) rfl
theorem q_542 : Cond.code yX8_isBlank cX8_isBlank 1 (some .boolean) ∈ zTb := zq_2 204 (by decide +kernel) rfl
theorem q_543 : Cond.methodLink RX8 33 yX8_isLetter ∈ zTb := zq_2 205 (by decide +kernel) rfl
theorem q_544 : Cond.static yX8_isLetter ∈ zTb := zq_2 206 (by decide +kernel) rfl
theorem q_545 : Cond.code yX8_isLetter cX8_isLetter 1 (some .boolean) ∈ zTb := zq_2 207 (by decide +kernel) rfl
theorem q_546 : Cond.methodLink RX8 36 yX8_passWord ∈ zTb := zq_2 208 (by decide +kernel) rfl
theorem q_548 : Cond.instanceMethod yX8_passWord ∈ zTb := zq_2 210 (by decide +kernel) rfl
theorem q_549 : Cond.code yX8_passWord cX8_passWord 1 none ∈ zTb := zq_2 211 (by decide +kernel) rfl
theorem q_550 : Cond.methodLink RX8 39 yX8_wordToken ∈ zTb := zq_2 212 (by decide +kernel) rfl
theorem q_552 : Cond.instanceMethod yX8_wordToken ∈ zTb := zq_2 214 (by decide +kernel) rfl
theorem q_553 : Cond.code yX8_wordToken cX8_wordToken 5 (some .int) ∈ zTb := zq_2 215 (by decide +kernel) rfl
theorem q_555 : Cond.methodLink RX8 62 yJ0_length_8abf5 ∈ zTb := zq_2 217 (by decide +kernel) rfl
theorem q_556 : Cond.instanceMethod yJ0_length_8abf5 ∈ zTb := zq_2 218 (by decide +kernel) rfl
theorem q_557 : Cond.selects RJ0 yJ0_length_8abf5 yJ0_length_8abf5 ∈ zTb := zq_2 219 (by decide +kernel) rfl
theorem q_558 : Cond.code yJ0_length_8abf5 cJ0_length_8abf5 1 (some .int) ∈ zTb := zq_2 220 (by decide +kernel) rfl
theorem q_559 : Cond.methodLink RJ0 335 yJ0_coder_7d493 ∈ zTb := zq_2 221 (by decide +kernel) rfl
theorem q_560 : Cond.instanceMethod yJ0_coder_7d493 ∈ zTb := zq_2 222 (by decide +kernel) rfl
theorem q_561 : Cond.selects RJ0 yJ0_coder_7d493 yJ0_coder_7d493 ∈ zTb := zq_2 223 (by decide +kernel) rfl
theorem q_562 : Cond.code yJ0_coder_7d493 cJ0_coder_7d493 1 (some .byte) ∈ zTb := zq_2 224 (by decide +kernel) rfl
theorem q_563 : Cond.fieldLink RJ0 38 "java/lang/String" "COMPACT_STRINGS" "Z" ∈ zTb := zq_2 225 (by decide +kernel) rfl
theorem q_565 : Cond.methodLink RX8 64 yJ0_charAt_5068e ∈ zTb := zq_2 227 (by decide +kernel) rfl
theorem q_566 : Cond.instanceMethod yJ0_charAt_5068e ∈ zTb := zq_2 228 (by decide +kernel) rfl
theorem q_567 : Cond.selects RJ0 yJ0_charAt_5068e yJ0_charAt_5068e ∈ zTb := zq_2 229 (by decide +kernel) rfl
theorem q_568 : Cond.code yJ0_charAt_5068e cJ0_charAt_5068e 2 (some .char) ∈ zTb := zq_2 230 (by decide +kernel) rfl
theorem q_569 : Cond.methodLink RJ0 492 yJ0_isLatin1_aae02 ∈ zTb := zq_2 231 (by decide +kernel) rfl
theorem q_570 : Cond.instanceMethod yJ0_isLatin1_aae02 ∈ zTb := zq_2 232 (by decide +kernel) rfl
theorem q_571 : Cond.selects RJ0 yJ0_isLatin1_aae02 yJ0_isLatin1_aae02 ∈ zTb := zq_2 233 (by decide +kernel) rfl
theorem q_572 : Cond.code yJ0_isLatin1_aae02 cJ0_isLatin1_aae02 1 (some .boolean) ∈ zTb := zq_2 234 (by decide +kernel) rfl
theorem q_573 : Cond.methodLink RJ0 495 yJ1_charAt_3b067 ∈ zTb := zq_2 235 (by decide +kernel) rfl
theorem q_574 : Cond.static yJ1_charAt_3b067 ∈ zTb := zq_2 236 (by decide +kernel) rfl
theorem q_575 : Cond.code yJ1_charAt_3b067 cJ1_charAt_3b067 2 (some .char) ∈ zTb := zq_2 237 (by decide +kernel) rfl
theorem q_576 : Cond.methodLink RJ1 9 yJ0_checkIndex_df160 ∈ zTb := zq_2 238 (by decide +kernel) rfl
theorem q_577 : Cond.static yJ0_checkIndex_df160 ∈ zTb := zq_2 239 (by decide +kernel) rfl
theorem q_578 : Cond.code yJ0_checkIndex_df160 cJ0_checkIndex_df160 2 none ∈ zTb := zq_3 0 (by decide +kernel) rfl
theorem q_579 : Cond.fieldLink RJ0 1053 "jdk/internal/util/Preconditions" "SIOOBE_FORMATTER" "Ljava/util/function/BiFunction;" ∈ zTb := zq_3 1 (by decide +kernel) rfl
theorem q_581 : Cond.methodLink RJ0 1059 yJ3_checkIndex_8e157 ∈ zTb := zq_3 3 (by decide +kernel) rfl
theorem q_582 : Cond.static yJ3_checkIndex_8e157 ∈ zTb := zq_3 4 (by decide +kernel) rfl
theorem q_583 : Cond.code yJ3_checkIndex_8e157 cJ3_checkIndex_8e157 3 (some .int) ∈ zTb := zq_3 5 (by decide +kernel) rfl
theorem q_603 : Cond.methodLink RX8 43 yX8_isNumeral ∈ zTb := zq_3 25 (by decide +kernel) rfl
theorem q_604 : Cond.static yX8_isNumeral ∈ zTb := zq_3 26 (by decide +kernel) rfl
theorem q_605 : Cond.code yX8_isNumeral cX8_isNumeral 1 (some .boolean) ∈ zTb := zq_3 27 (by decide +kernel) rfl
theorem q_606 : Cond.methodLink RX8 46 yX8_passNumber ∈ zTb := zq_3 28 (by decide +kernel) rfl
theorem q_608 : Cond.instanceMethod yX8_passNumber ∈ zTb := zq_3 30 (by decide +kernel) rfl
theorem q_609 : Cond.code yX8_passNumber cX8_passNumber 1 none ∈ zTb := zq_3 31 (by decide +kernel) rfl
theorem q_611 : Cond.methodLink RX8 51 yJ0_indexOf_0f7a4 ∈ zTb := zq_3 33 (by decide +kernel) rfl
theorem q_612 : Cond.instanceMethod yJ0_indexOf_0f7a4 ∈ zTb := zq_3 34 (by decide +kernel) rfl
theorem q_613 : Cond.selects RJ0 yJ0_indexOf_0f7a4 yJ0_indexOf_0f7a4 ∈ zTb := zq_3 35 (by decide +kernel) rfl
theorem q_614 : Cond.code yJ0_indexOf_0f7a4 cJ0_indexOf_0f7a4 2 (some .int) ∈ zTb := zq_3 36 (by decide +kernel) rfl
theorem q_615 : Cond.methodLink RJ0 633 yJ0_indexOf_7cf53 ∈ zTb := zq_3 37 (by decide +kernel) rfl
theorem q_616 : Cond.instanceMethod yJ0_indexOf_7cf53 ∈ zTb := zq_3 38 (by decide +kernel) rfl
theorem q_617 : Cond.selects RJ0 yJ0_indexOf_7cf53 yJ0_indexOf_7cf53 ∈ zTb := zq_3 39 (by decide +kernel) rfl
theorem q_618 : Cond.code yJ0_indexOf_7cf53 cJ0_indexOf_7cf53 3 (some .int) ∈ zTb := zq_3 40 (by decide +kernel) rfl
theorem q_619 : Cond.methodLink RJ0 505 yJ0_length_8abf5 ∈ zTb := zq_3 41 (by decide +kernel) rfl
theorem q_620 : Cond.methodLink RJ0 637 yJ1_indexOf_4cfef ∈ zTb := zq_3 42 (by decide +kernel) rfl
theorem q_621 : Cond.static yJ1_indexOf_4cfef ∈ zTb := zq_3 43 (by decide +kernel) rfl
theorem q_622 : Cond.code yJ1_indexOf_4cfef cJ1_indexOf_4cfef 4 (some .int) ∈ zTb := zq_3 44 (by decide +kernel) rfl
theorem q_623 : Cond.methodLink RJ1 88 yJ1_canEncode_9a6ad ∈ zTb := zq_3 45 (by decide +kernel) rfl
theorem q_624 : Cond.static yJ1_canEncode_9a6ad ∈ zTb := zq_3 46 (by decide +kernel) rfl
theorem q_625 : Cond.code yJ1_canEncode_9a6ad cJ1_canEncode_9a6ad 1 (some .boolean) ∈ zTb := zq_3 47 (by decide +kernel) rfl
theorem q_626 : Cond.methodLink RJ1 92 Lib.Math.max.name ∈ zTb := zq_3 48 (by decide +kernel) rfl
theorem q_627 : Cond.static Lib.Math.max.name ∈ zTb := zq_3 49 (by decide +kernel) rfl
theorem q_628 : Cond.code Lib.Math.max.name Lib.Math.max.code 2 (some .int) ∈ zTb := zq_3 50 (by decide +kernel) rfl
theorem q_629 : Cond.methodLink RJ1 38 Lib.Math.min.name ∈ zTb := zq_3 51 (by decide +kernel) rfl
theorem q_630 : Cond.static Lib.Math.min.name ∈ zTb := zq_3 52 (by decide +kernel) rfl
theorem q_631 : Cond.code Lib.Math.min.name Lib.Math.min.code 2 (some .int) ∈ zTb := zq_3 53 (by decide +kernel) rfl
theorem q_632 : Cond.methodLink RJ1 95 yJ1_indexOfChar_4cfef ∈ zTb := zq_3 54 (by decide +kernel) rfl
theorem q_633 : Cond.static yJ1_indexOfChar_4cfef ∈ zTb := zq_3 55 (by decide +kernel) rfl
theorem q_634 : Cond.code yJ1_indexOfChar_4cfef cJ1_indexOfChar_4cfef 6 (some .int) ∈ zTb := zq_3 56 (by decide +kernel) rfl
theorem q_670 : Cond.methodLink RX4 34 ⟨"VoteAgainst$Reader", "readLine", "()Z"⟩ ∈ zTb := zq_3 92 (by decide +kernel) rfl
theorem q_672 : Cond.sameMethod "VoteAgainst$Reader" "VoteAgainst$Reader" "readLine" "()Z" ∈ zTb := zq_3 94 (by decide +kernel) rfl
theorem q_673 : Cond.selects RX6 ⟨"VoteAgainst$Reader", "readLine", "()Z"⟩ yX6_readLine ∈ zTb := zq_3 95 (by decide +kernel) rfl
theorem q_674 : Cond.instanceMethod yX6_readLine ∈ zTb := zq_3 96 (by decide +kernel) rfl
theorem q_675 : Cond.code yX6_readLine cX6_readLine 1 (some .boolean) ∈ zTb := zq_3 97 (by decide +kernel) rfl
theorem q_676 : Cond.methodLink RX6 47 yX6_readPerson ∈ zTb := zq_3 98 (by decide +kernel) rfl
theorem q_678 : Cond.instanceMethod yX6_readPerson ∈ zTb := zq_3 100 (by decide +kernel) rfl
theorem q_679 : Cond.code yX6_readPerson cX6_readPerson 6 (some .boolean) ∈ zTb := zq_3 101 (by decide +kernel) rfl
theorem q_680 : Cond.methodLink RX6 72 ⟨"VoteAgainst$RepublicReader", "fail", "(I)Z"⟩ ∈ zTb := zq_3 102 (by decide +kernel) rfl
theorem q_681 : Cond.sameMethod "VoteAgainst$RepublicReader" "VoteAgainst$Reader" "fail" "(I)Z" ∈ zTb := zq_3 103 (by decide +kernel) rfl
theorem q_683 : Cond.selects RX6 ⟨"VoteAgainst$RepublicReader", "fail", "(I)Z"⟩ yX4_fail ∈ zTb := zq_3 105 (by decide +kernel) rfl
theorem q_684 : Cond.instanceMethod yX4_fail ∈ zTb := zq_3 106 (by decide +kernel) rfl
theorem q_685 : Cond.code yX4_fail cX4_fail 2 (some .boolean) ∈ zTb := zq_3 107 (by decide +kernel) rfl
theorem q_686 : Cond.methodLink RX6 79 yX8_lookAtNext ∈ zTb := zq_3 108 (by decide +kernel) rfl
theorem q_687 : Cond.methodLink RX6 82 yX8_isName ∈ zTb := zq_3 109 (by decide +kernel) rfl
theorem q_688 : Cond.instanceMethod yX8_isName ∈ zTb := zq_3 110 (by decide +kernel) rfl
theorem q_689 : Cond.selects RX8 yX8_isName yX8_isName ∈ zTb := zq_3 111 (by decide +kernel) rfl
theorem q_690 : Cond.code yX8_isName cX8_isName 1 (some .boolean) ∈ zTb := zq_3 112 (by decide +kernel) rfl
theorem q_691 : Cond.methodLink RX6 85 yX8_packedWord ∈ zTb := zq_3 113 (by decide +kernel) rfl
theorem q_692 : Cond.instanceMethod yX8_packedWord ∈ zTb := zq_3 114 (by decide +kernel) rfl
theorem q_693 : Cond.selects RX8 yX8_packedWord yX8_packedWord ∈ zTb := zq_3 115 (by decide +kernel) rfl
theorem q_694 : Cond.code yX8_packedWord cX8_packedWord 4 (some .long) ∈ zTb := zq_3 116 (by decide +kernel) rfl
theorem q_695 : Cond.constantLong RX8 68 32 ∈ zTb := zq_3 117 (by decide +kernel) rfl
theorem q_696 : Cond.methodLink RX6 89 yX5_numberOf ∈ zTb := zq_3 118 (by decide +kernel) rfl
theorem q_697 : Cond.instanceMethod yX5_numberOf ∈ zTb := zq_3 119 (by decide +kernel) rfl
theorem q_698 : Cond.selects RX5 yX5_numberOf yX5_numberOf ∈ zTb := zq_3 120 (by decide +kernel) rfl
theorem q_699 : Cond.code yX5_numberOf cX5_numberOf 4 (some .int) ∈ zTb := zq_3 121 (by decide +kernel) rfl
theorem q_700 : Cond.methodLink RX6 93 ⟨"VoteAgainst$RepublicReader", "take", "(I)Z"⟩ ∈ zTb := zq_3 122 (by decide +kernel) rfl
theorem q_701 : Cond.sameMethod "VoteAgainst$RepublicReader" "VoteAgainst$Reader" "take" "(I)Z" ∈ zTb := zq_3 123 (by decide +kernel) rfl
theorem q_703 : Cond.selects RX6 ⟨"VoteAgainst$RepublicReader", "take", "(I)Z"⟩ yX4_take ∈ zTb := zq_3 125 (by decide +kernel) rfl
theorem q_704 : Cond.instanceMethod yX4_take ∈ zTb := zq_3 126 (by decide +kernel) rfl
theorem q_705 : Cond.code yX4_take cX4_take 2 (some .boolean) ∈ zTb := zq_3 127 (by decide +kernel) rfl
theorem q_706 : Cond.methodLink RX4 48 yX4_fail ∈ zTb := zq_3 128 (by decide +kernel) rfl
theorem q_707 : Cond.methodLink RX4 51 yX8_lookAtNext ∈ zTb := zq_3 129 (by decide +kernel) rfl
theorem q_708 : Cond.methodLink RX6 96 ⟨"VoteAgainst$RepublicReader", "takeNumber", "(II)Z"⟩ ∈ zTb := zq_3 130 (by decide +kernel) rfl
theorem q_709 : Cond.sameMethod "VoteAgainst$RepublicReader" "VoteAgainst$Reader" "takeNumber" "(II)Z" ∈ zTb := zq_3 131 (by decide +kernel) rfl
theorem q_711 : Cond.selects RX6 ⟨"VoteAgainst$RepublicReader", "takeNumber", "(II)Z"⟩ yX4_takeNumber ∈ zTb := zq_3 133 (by decide +kernel) rfl
theorem q_712 : Cond.instanceMethod yX4_takeNumber ∈ zTb := zq_3 134 (by decide +kernel) rfl
theorem q_713 : Cond.code yX4_takeNumber cX4_takeNumber 3 (some .boolean) ∈ zTb := zq_3 135 (by decide +kernel) rfl
theorem q_714 : Cond.methodLink RX6 103 yX5_addPerson ∈ zTb := zq_3 136 (by decide +kernel) rfl
theorem q_715 : Cond.instanceMethod yX5_addPerson ∈ zTb := zq_3 137 (by decide +kernel) rfl
theorem q_716 : Cond.selects RX5 yX5_addPerson yX5_addPerson ∈ zTb := zq_3 138 (by decide +kernel) rfl
theorem q_717 : Cond.code yX5_addPerson cX5_addPerson 6 none ∈ zTb := zq_3 139 (by decide +kernel) rfl
theorem q_718 : Cond.methodLink RX6 51 yX6_readGrudge ∈ zTb := zq_3 140 (by decide +kernel) rfl
theorem q_720 : Cond.instanceMethod yX6_readGrudge ∈ zTb := zq_3 142 (by decide +kernel) rfl
theorem q_721 : Cond.code yX6_readGrudge cX6_readGrudge 3 (some .boolean) ∈ zTb := zq_3 143 (by decide +kernel) rfl
theorem q_722 : Cond.methodLink RX6 107 ⟨"VoteAgainst$RepublicReader", "findPerson", "()Z"⟩ ∈ zTb := zq_3 144 (by decide +kernel) rfl
theorem q_723 : Cond.sameMethod "VoteAgainst$RepublicReader" "VoteAgainst$Reader" "findPerson" "()Z" ∈ zTb := zq_3 145 (by decide +kernel) rfl
theorem q_725 : Cond.selects RX6 ⟨"VoteAgainst$RepublicReader", "findPerson", "()Z"⟩ yX4_findPerson ∈ zTb := zq_3 147 (by decide +kernel) rfl
theorem q_726 : Cond.instanceMethod yX4_findPerson ∈ zTb := zq_3 148 (by decide +kernel) rfl
theorem q_727 : Cond.code yX4_findPerson cX4_findPerson 1 (some .boolean) ∈ zTb := zq_3 149 (by decide +kernel) rfl
theorem q_728 : Cond.methodLink RX4 60 yX8_isName ∈ zTb := zq_3 150 (by decide +kernel) rfl
theorem q_729 : Cond.methodLink RX4 63 yX8_packedWord ∈ zTb := zq_3 151 (by decide +kernel) rfl
theorem q_730 : Cond.methodLink RX4 67 yX5_numberOf ∈ zTb := zq_3 152 (by decide +kernel) rfl
theorem q_731 : Cond.methodLink RX6 110 ⟨"VoteAgainst$RepublicReader", "findOther", "(I)Z"⟩ ∈ zTb := zq_3 153 (by decide +kernel) rfl
theorem q_732 : Cond.sameMethod "VoteAgainst$RepublicReader" "VoteAgainst$Reader" "findOther" "(I)Z" ∈ zTb := zq_3 154 (by decide +kernel) rfl
theorem q_734 : Cond.selects RX6 ⟨"VoteAgainst$RepublicReader", "findOther", "(I)Z"⟩ yX4_findOther ∈ zTb := zq_3 156 (by decide +kernel) rfl
theorem q_735 : Cond.instanceMethod yX4_findOther ∈ zTb := zq_3 157 (by decide +kernel) rfl
theorem q_736 : Cond.code yX4_findOther cX4_findOther 2 (some .boolean) ∈ zTb := zq_3 158 (by decide +kernel) rfl
theorem q_737 : Cond.methodLink RX4 73 yX4_findPerson ∈ zTb := zq_3 159 (by decide +kernel) rfl
theorem q_738 : Cond.methodLink RX6 54 yX6_readHeir ∈ zTb := zq_3 160 (by decide +kernel) rfl
theorem q_740 : Cond.instanceMethod yX6_readHeir ∈ zTb := zq_3 162 (by decide +kernel) rfl
theorem q_741 : Cond.code yX6_readHeir cX6_readHeir 2 (some .boolean) ∈ zTb := zq_3 163 (by decide +kernel) rfl
theorem q_742 : Cond.methodLink RX6 57 yX6_readBar ∈ zTb := zq_3 164 (by decide +kernel) rfl
theorem q_744 : Cond.instanceMethod yX6_readBar ∈ zTb := zq_3 166 (by decide +kernel) rfl
theorem q_745 : Cond.code yX6_readBar cX6_readBar 1 (some .boolean) ∈ zTb := zq_3 167 (by decide +kernel) rfl
theorem q_746 : Cond.methodLink RX6 120 yX6_takeOnce ∈ zTb := zq_3 168 (by decide +kernel) rfl
theorem q_748 : Cond.instanceMethod yX6_takeOnce ∈ zTb := zq_3 170 (by decide +kernel) rfl
theorem q_749 : Cond.code yX6_takeOnce cX6_takeOnce 2 (some .boolean) ∈ zTb := zq_3 171 (by decide +kernel) rfl
theorem q_750 : Cond.methodLink RX6 60 yX6_readDead ∈ zTb := zq_3 172 (by decide +kernel) rfl
theorem q_752 : Cond.instanceMethod yX6_readDead ∈ zTb := zq_3 174 (by decide +kernel) rfl
theorem q_753 : Cond.code yX6_readDead cX6_readDead 1 (some .boolean) ∈ zTb := zq_3 175 (by decide +kernel) rfl
theorem q_754 : Cond.methodLink RX6 126 ⟨"VoteAgainst$RepublicReader", "takeEither", "(II)Z"⟩ ∈ zTb := zq_3 176 (by decide +kernel) rfl
theorem q_755 : Cond.sameMethod "VoteAgainst$RepublicReader" "VoteAgainst$Reader" "takeEither" "(II)Z" ∈ zTb := zq_3 177 (by decide +kernel) rfl
theorem q_757 : Cond.selects RX6 ⟨"VoteAgainst$RepublicReader", "takeEither", "(II)Z"⟩ yX4_takeEither ∈ zTb := zq_3 179 (by decide +kernel) rfl
theorem q_758 : Cond.instanceMethod yX4_takeEither ∈ zTb := zq_3 180 (by decide +kernel) rfl
theorem q_759 : Cond.code yX4_takeEither cX4_takeEither 3 (some .boolean) ∈ zTb := zq_3 181 (by decide +kernel) rfl
theorem q_760 : Cond.methodLink RX6 63 yX6_readTies ∈ zTb := zq_3 182 (by decide +kernel) rfl
theorem q_762 : Cond.instanceMethod yX6_readTies ∈ zTb := zq_3 184 (by decide +kernel) rfl
theorem q_763 : Cond.code yX6_readTies cX6_readTies 1 (some .boolean) ∈ zTb := zq_3 185 (by decide +kernel) rfl
theorem q_764 : Cond.methodLink RX6 66 yX6_readGrows ∈ zTb := zq_3 186 (by decide +kernel) rfl
theorem q_766 : Cond.instanceMethod yX6_readGrows ∈ zTb := zq_3 188 (by decide +kernel) rfl
theorem q_767 : Cond.code yX6_readGrows cX6_readGrows 2 (some .boolean) ∈ zTb := zq_3 189 (by decide +kernel) rfl
theorem q_768 : Cond.methodLink RX6 144 yX0_readLaw ∈ zTb := zq_3 190 (by decide +kernel) rfl
theorem q_769 : Cond.instanceMethod yX0_readLaw ∈ zTb := zq_3 191 (by decide +kernel) rfl
theorem q_770 : Cond.selects RX0 yX0_readLaw yX0_readLaw ∈ zTb := zq_3 192 (by decide +kernel) rfl
theorem q_771 : Cond.code yX0_readLaw cX0_readLaw 3 (some .int) ∈ zTb := zq_3 193 (by decide +kernel) rfl
theorem q_772 : Cond.methodLink RX0 37 yX0_takePart ∈ zTb := zq_3 194 (by decide +kernel) rfl
theorem q_774 : Cond.instanceMethod yX0_takePart ∈ zTb := zq_3 196 (by decide +kernel) rfl
theorem q_775 : Cond.code yX0_takePart cX0_takePart 3 (some .int) ∈ zTb := zq_3 197 (by decide +kernel) rfl
theorem q_776 : Cond.methodLink RX0 63 yX0_letWait ∈ zTb := zq_3 198 (by decide +kernel) rfl
theorem q_778 : Cond.instanceMethod yX0_letWait ∈ zTb := zq_3 200 (by decide +kernel) rfl
theorem q_779 : Cond.code yX0_letWait cX0_letWait 2 none ∈ zTb := zq_3 201 (by decide +kernel) rfl
theorem q_780 : Cond.methodLink RX0 69 yX1_addNumber ∈ zTb := zq_3 202 (by decide +kernel) rfl
theorem q_781 : Cond.instanceMethod yX1_addNumber ∈ zTb := zq_3 203 (by decide +kernel) rfl
theorem q_782 : Cond.selects RX1 yX1_addNumber yX1_addNumber ∈ zTb := zq_3 204 (by decide +kernel) rfl
theorem q_783 : Cond.code yX1_addNumber cX1_addNumber 2 none ∈ zTb := zq_3 205 (by decide +kernel) rfl
theorem q_784 : Cond.methodLink RX1 42 yX1_addToken ∈ zTb := zq_3 206 (by decide +kernel) rfl
theorem q_785 : Cond.instanceMethod yX1_addToken ∈ zTb := zq_3 207 (by decide +kernel) rfl
theorem q_786 : Cond.selects RX1 yX1_addToken yX1_addToken ∈ zTb := zq_3 208 (by decide +kernel) rfl
theorem q_787 : Cond.code yX1_addToken cX1_addToken 2 none ∈ zTb := zq_3 209 (by decide +kernel) rfl
theorem q_788 : Cond.methodLink RX0 74 yX1_addToken ∈ zTb := zq_3 210 (by decide +kernel) rfl
theorem q_789 : Cond.methodLink RX0 77 yX0_endPart ∈ zTb := zq_3 211 (by decide +kernel) rfl
theorem q_791 : Cond.instanceMethod yX0_endPart ∈ zTb := zq_3 213 (by decide +kernel) rfl
theorem q_792 : Cond.code yX0_endPart cX0_endPart 1 none ∈ zTb := zq_3 214 (by decide +kernel) rfl
theorem q_793 : Cond.methodLink RX0 44 yX0_rank ∈ zTb := zq_3 215 (by decide +kernel) rfl
theorem q_794 : Cond.static yX0_rank ∈ zTb := zq_3 216 (by decide +kernel) rfl
theorem q_795 : Cond.code yX0_rank cX0_rank 1 (some .int) ∈ zTb := zq_3 217 (by decide +kernel) rfl
theorem q_796 : Cond.methodLink RX0 48 yX0_takeOperator ∈ zTb := zq_3 218 (by decide +kernel) rfl
theorem q_798 : Cond.instanceMethod yX0_takeOperator ∈ zTb := zq_3 220 (by decide +kernel) rfl
theorem q_799 : Cond.code yX0_takeOperator cX0_takeOperator 2 (some .int) ∈ zTb := zq_3 221 (by decide +kernel) rfl
theorem q_800 : Cond.methodLink RX0 54 yX0_release ∈ zTb := zq_3 222 (by decide +kernel) rfl
theorem q_802 : Cond.instanceMethod yX0_release ∈ zTb := zq_3 224 (by decide +kernel) rfl
theorem q_803 : Cond.code yX0_release cX0_release 2 none ∈ zTb := zq_3 225 (by decide +kernel) rfl
theorem q_804 : Cond.methodLink RX0 51 yX0_close ∈ zTb := zq_3 226 (by decide +kernel) rfl
theorem q_806 : Cond.instanceMethod yX0_close ∈ zTb := zq_3 228 (by decide +kernel) rfl
theorem q_807 : Cond.code yX0_close cX0_close 1 none ∈ zTb := zq_3 229 (by decide +kernel) rfl
theorem q_808 : Cond.methodLink RX0 60 yX8_lookAtNext ∈ zTb := zq_3 230 (by decide +kernel) rfl
theorem q_809 : Cond.methodLink RX6 69 yX6_readEases ∈ zTb := zq_3 231 (by decide +kernel) rfl
theorem q_811 : Cond.instanceMethod yX6_readEases ∈ zTb := zq_3 233 (by decide +kernel) rfl
theorem q_812 : Cond.code yX6_readEases cX6_readEases 2 (some .boolean) ∈ zTb := zq_3 234 (by decide +kernel) rfl
theorem q_813 : Cond.selects RX10 ⟨"VoteAgainst$Reader", "readLine", "()Z"⟩ yX10_readLine ∈ zTb := zq_3 235 (by decide +kernel) rfl
theorem q_814 : Cond.instanceMethod yX10_readLine ∈ zTb := zq_3 236 (by decide +kernel) rfl
theorem q_815 : Cond.code yX10_readLine cX10_readLine 4 (some .boolean) ∈ zTb := zq_3 237 (by decide +kernel) rfl
theorem q_816 : Cond.methodLink RX10 31 ⟨"VoteAgainst$YearsReader", "fail", "(I)Z"⟩ ∈ zTb := zq_3 238 (by decide +kernel) rfl
theorem q_817 : Cond.sameMethod "VoteAgainst$YearsReader" "VoteAgainst$Reader" "fail" "(I)Z" ∈ zTb := zq_3 239 (by decide +kernel) rfl
theorem q_818 : Cond.selects RX10 ⟨"VoteAgainst$YearsReader", "fail", "(I)Z"⟩ yX4_fail ∈ zTb := zq_4 0 (by decide +kernel) rfl
theorem q_819 : Cond.methodLink RX10 35 yX8_lookAtNext ∈ zTb := zq_4 1 (by decide +kernel) rfl
theorem q_820 : Cond.methodLink RX10 38 ⟨"VoteAgainst$YearsReader", "findPerson", "()Z"⟩ ∈ zTb := zq_4 2 (by decide +kernel) rfl
theorem q_821 : Cond.sameMethod "VoteAgainst$YearsReader" "VoteAgainst$Reader" "findPerson" "()Z" ∈ zTb := zq_4 3 (by decide +kernel) rfl
theorem q_822 : Cond.selects RX10 ⟨"VoteAgainst$YearsReader", "findPerson", "()Z"⟩ yX4_findPerson ∈ zTb := zq_4 4 (by decide +kernel) rfl
theorem q_823 : Cond.methodLink RX10 45 ⟨"VoteAgainst$YearsReader", "findOther", "(I)Z"⟩ ∈ zTb := zq_4 5 (by decide +kernel) rfl
theorem q_824 : Cond.sameMethod "VoteAgainst$YearsReader" "VoteAgainst$Reader" "findOther" "(I)Z" ∈ zTb := zq_4 6 (by decide +kernel) rfl
theorem q_825 : Cond.selects RX10 ⟨"VoteAgainst$YearsReader", "findOther", "(I)Z"⟩ yX4_findOther ∈ zTb := zq_4 7 (by decide +kernel) rfl
theorem q_826 : Cond.methodLink RX10 48 yX9_add ∈ zTb := zq_4 8 (by decide +kernel) rfl
theorem q_827 : Cond.instanceMethod yX9_add ∈ zTb := zq_4 9 (by decide +kernel) rfl
theorem q_828 : Cond.selects RX9 yX9_add yX9_add ∈ zTb := zq_4 10 (by decide +kernel) rfl
theorem q_829 : Cond.code yX9_add cX9_add 4 none ∈ zTb := zq_4 11 (by decide +kernel) rfl
theorem q_830 : Cond.methodLink RX4 38 yX4_take ∈ zTb := zq_4 12 (by decide +kernel) rfl
theorem q_831 : Cond.methodLink RX11 84 yX5_become ∈ zTb := zq_4 13 (by decide +kernel) rfl
theorem q_832 : Cond.instanceMethod yX5_become ∈ zTb := zq_4 14 (by decide +kernel) rfl
theorem q_833 : Cond.selects RX5 yX5_become yX5_become ∈ zTb := zq_4 15 (by decide +kernel) rfl
theorem q_834 : Cond.code yX5_become cX5_become 2 none ∈ zTb := zq_4 16 (by decide +kernel) rfl
theorem q_835 : Cond.methodLink RX5 61 arraycopyName ∈ zTb := zq_4 17 (by decide +kernel) rfl
theorem q_836 : Cond.static arraycopyName ∈ zTb := zq_4 18 (by decide +kernel) rfl
theorem q_837 : Cond.native arraycopyName ∈ zTb := zq_4 19 (by decide +kernel) rfl
theorem q_838 : Cond.methodLink RX5 67 yX1_become ∈ zTb := zq_4 20 (by decide +kernel) rfl
theorem q_839 : Cond.instanceMethod yX1_become ∈ zTb := zq_4 21 (by decide +kernel) rfl
theorem q_840 : Cond.selects RX1 yX1_become yX1_become ∈ zTb := zq_4 22 (by decide +kernel) rfl
theorem q_841 : Cond.code yX1_become cX1_become 2 none ∈ zTb := zq_4 23 (by decide +kernel) rfl
theorem q_842 : Cond.methodLink RX1 36 arraycopyName ∈ zTb := zq_4 24 (by decide +kernel) rfl
theorem q_843 : Cond.methodLink RX11 87 yX7_begin ∈ zTb := zq_4 25 (by decide +kernel) rfl
theorem q_844 : Cond.instanceMethod yX7_begin ∈ zTb := zq_4 26 (by decide +kernel) rfl
theorem q_845 : Cond.selects RX7 yX7_begin yX7_begin ∈ zTb := zq_4 27 (by decide +kernel) rfl
theorem q_846 : Cond.code yX7_begin cX7_begin 2 none ∈ zTb := zq_4 28 (by decide +kernel) rfl
theorem q_847 : Cond.methodLink RX7 28 Lib.Math.max.name ∈ zTb := zq_4 29 (by decide +kernel) rfl
theorem q_848 : Cond.methodLink RX7 34 yJ7_fill_53178 ∈ zTb := zq_4 30 (by decide +kernel) rfl
theorem q_849 : Cond.methodLink RX11 90 yX2_begin ∈ zTb := zq_4 31 (by decide +kernel) rfl
theorem q_850 : Cond.instanceMethod yX2_begin ∈ zTb := zq_4 32 (by decide +kernel) rfl
theorem q_851 : Cond.selects RX2 yX2_begin yX2_begin ∈ zTb := zq_4 33 (by decide +kernel) rfl
theorem q_852 : Cond.code yX2_begin cX2_begin 1 none ∈ zTb := zq_4 34 (by decide +kernel) rfl
theorem q_853 : Cond.methodLink RX2 31 yX7_begin ∈ zTb := zq_4 35 (by decide +kernel) rfl
theorem q_854 : Cond.methodLink RX11 91 yX3_forget ∈ zTb := zq_4 36 (by decide +kernel) rfl
theorem q_855 : Cond.instanceMethod yX3_forget ∈ zTb := zq_4 37 (by decide +kernel) rfl
theorem q_856 : Cond.selects RX3 yX3_forget yX3_forget ∈ zTb := zq_4 38 (by decide +kernel) rfl
theorem q_857 : Cond.code yX3_forget cX3_forget 1 none ∈ zTb := zq_4 39 (by decide +kernel) rfl
theorem q_863 : Cond.methodLink RX11 98 ⟨"VoteAgainst$YearsReader", "readTape", "()I"⟩ ∈ zTb := zq_4 45 (by decide +kernel) rfl
theorem q_864 : Cond.sameMethod "VoteAgainst$YearsReader" "VoteAgainst$Reader" "readTape" "()I" ∈ zTb := zq_4 46 (by decide +kernel) rfl
theorem q_865 : Cond.selects RX10 ⟨"VoteAgainst$YearsReader", "readTape", "()I"⟩ yX4_readTape ∈ zTb := zq_4 47 (by decide +kernel) rfl
theorem q_866 : Cond.methodLink RX11 104 yX9_become ∈ zTb := zq_4 48 (by decide +kernel) rfl
theorem q_867 : Cond.instanceMethod yX9_become ∈ zTb := zq_4 49 (by decide +kernel) rfl
theorem q_868 : Cond.selects RX9 yX9_become yX9_become ∈ zTb := zq_4 50 (by decide +kernel) rfl
theorem q_869 : Cond.code yX9_become cX9_become 2 none ∈ zTb := zq_4 51 (by decide +kernel) rfl
theorem q_870 : Cond.methodLink RX9 13 arraycopyName ∈ zTb := zq_4 52 (by decide +kernel) rfl
theorem q_875 : Cond.methodLink RX11 109 yX5_has ∈ zTb := zq_4 57 (by decide +kernel) rfl
theorem q_876 : Cond.instanceMethod yX5_has ∈ zTb := zq_4 58 (by decide +kernel) rfl
theorem q_877 : Cond.selects RX5 yX5_has yX5_has ∈ zTb := zq_4 59 (by decide +kernel) rfl
theorem q_878 : Cond.code yX5_has cX5_has 2 (some .boolean) ∈ zTb := zq_4 60 (by decide +kernel) rfl
theorem q_879 : Cond.methodLink RX11 129 yX7_countAgainst ∈ zTb := zq_4 61 (by decide +kernel) rfl
theorem q_880 : Cond.instanceMethod yX7_countAgainst ∈ zTb := zq_4 62 (by decide +kernel) rfl
theorem q_881 : Cond.selects RX7 yX7_countAgainst yX7_countAgainst ∈ zTb := zq_4 63 (by decide +kernel) rfl
theorem q_882 : Cond.code yX7_countAgainst cX7_countAgainst 4 (some .int) ∈ zTb := zq_4 64 (by decide +kernel) rfl
theorem q_883 : Cond.methodLink RX7 60 yX7_isAlive ∈ zTb := zq_4 65 (by decide +kernel) rfl
theorem q_884 : Cond.instanceMethod yX7_isAlive ∈ zTb := zq_4 66 (by decide +kernel) rfl
theorem q_885 : Cond.selects RX7 yX7_isAlive yX7_isAlive ∈ zTb := zq_4 67 (by decide +kernel) rfl
theorem q_886 : Cond.code yX7_isAlive cX7_isAlive 2 (some .boolean) ∈ zTb := zq_4 68 (by decide +kernel) rfl
theorem q_887 : Cond.methodLink RX11 133 yX7_castBy ∈ zTb := zq_4 69 (by decide +kernel) rfl
theorem q_888 : Cond.instanceMethod yX7_castBy ∈ zTb := zq_4 70 (by decide +kernel) rfl
theorem q_889 : Cond.selects RX7 yX7_castBy yX7_castBy ∈ zTb := zq_4 71 (by decide +kernel) rfl
theorem q_890 : Cond.code yX7_castBy cX7_castBy 4 (some .int) ∈ zTb := zq_4 72 (by decide +kernel) rfl
theorem q_891 : Cond.methodLink RX11 139 yX7_isAlive ∈ zTb := zq_4 73 (by decide +kernel) rfl
theorem q_896 : Cond.methodLink RX11 142 yX5_hasPair ∈ zTb := zq_4 78 (by decide +kernel) rfl
theorem q_897 : Cond.instanceMethod yX5_hasPair ∈ zTb := zq_4 79 (by decide +kernel) rfl
theorem q_898 : Cond.selects RX5 yX5_hasPair yX5_hasPair ∈ zTb := zq_4 80 (by decide +kernel) rfl
theorem q_899 : Cond.code yX5_hasPair cX5_hasPair 3 (some .boolean) ∈ zTb := zq_4 81 (by decide +kernel) rfl
theorem q_900 : Cond.methodLink RX5 71 yX5_has ∈ zTb := zq_4 82 (by decide +kernel) rfl
theorem q_909 : Cond.methodLink RX11 152 yX7_governor ∈ zTb := zq_4 91 (by decide +kernel) rfl
theorem q_910 : Cond.instanceMethod yX7_governor ∈ zTb := zq_4 92 (by decide +kernel) rfl
theorem q_911 : Cond.selects RX7 yX7_governor yX7_governor ∈ zTb := zq_4 93 (by decide +kernel) rfl
theorem q_912 : Cond.code yX7_governor cX7_governor 3 (some .int) ∈ zTb := zq_4 94 (by decide +kernel) rfl
theorem q_913 : Cond.methodLink RX7 64 yX7_lead ∈ zTb := zq_4 95 (by decide +kernel) rfl
theorem q_915 : Cond.instanceMethod yX7_lead ∈ zTb := zq_4 97 (by decide +kernel) rfl
theorem q_916 : Cond.code yX7_lead cX7_lead 4 (some .int) ∈ zTb := zq_4 98 (by decide +kernel) rfl
theorem q_917 : Cond.methodLink RX7 67 yX7_countAgainst ∈ zTb := zq_4 99 (by decide +kernel) rfl
theorem q_918 : Cond.methodLink RX7 71 yX7_winsTie ∈ zTb := zq_4 100 (by decide +kernel) rfl
theorem q_920 : Cond.instanceMethod yX7_winsTie ∈ zTb := zq_4 102 (by decide +kernel) rfl
theorem q_921 : Cond.code yX7_winsTie cX7_winsTie 4 (some .boolean) ∈ zTb := zq_4 103 (by decide +kernel) rfl
theorem q_926 : Cond.methodLink RX11 155 yX7_canLevy ∈ zTb := zq_4 108 (by decide +kernel) rfl
theorem q_927 : Cond.instanceMethod yX7_canLevy ∈ zTb := zq_4 109 (by decide +kernel) rfl
theorem q_928 : Cond.selects RX7 yX7_canLevy yX7_canLevy ∈ zTb := zq_4 110 (by decide +kernel) rfl
theorem q_929 : Cond.code yX7_canLevy cX7_canLevy 2 (some .boolean) ∈ zTb := zq_4 111 (by decide +kernel) rfl
theorem q_930 : Cond.methodLink RX7 81 yX7_governor ∈ zTb := zq_4 112 (by decide +kernel) rfl
theorem q_931 : Cond.methodLink RX11 159 yX3_keep ∈ zTb := zq_4 113 (by decide +kernel) rfl
theorem q_932 : Cond.instanceMethod yX3_keep ∈ zTb := zq_4 114 (by decide +kernel) rfl
theorem q_933 : Cond.selects RX3 yX3_keep yX3_keep ∈ zTb := zq_4 115 (by decide +kernel) rfl
theorem q_934 : Cond.code yX3_keep cX3_keep 2 none ∈ zTb := zq_4 116 (by decide +kernel) rfl
theorem q_935 : Cond.methodLink RX3 25 yX7_become ∈ zTb := zq_4 117 (by decide +kernel) rfl
theorem q_936 : Cond.instanceMethod yX7_become ∈ zTb := zq_4 118 (by decide +kernel) rfl
theorem q_937 : Cond.selects RX7 yX7_become yX7_become ∈ zTb := zq_4 119 (by decide +kernel) rfl
theorem q_938 : Cond.code yX7_become cX7_become 2 none ∈ zTb := zq_4 120 (by decide +kernel) rfl
theorem q_939 : Cond.methodLink RX7 50 arraycopyName ∈ zTb := zq_4 121 (by decide +kernel) rfl
theorem q_940 : Cond.methodLink RX3 29 Lib.Math.min.name ∈ zTb := zq_4 122 (by decide +kernel) rfl
theorem q_941 : Cond.methodLink RX11 163 yX7_levy ∈ zTb := zq_4 123 (by decide +kernel) rfl
theorem q_942 : Cond.instanceMethod yX7_levy ∈ zTb := zq_4 124 (by decide +kernel) rfl
theorem q_943 : Cond.selects RX7 yX7_levy yX7_levy ∈ zTb := zq_4 125 (by decide +kernel) rfl
theorem q_944 : Cond.code yX7_levy cX7_levy 6 (some .int) ∈ zTb := zq_4 126 (by decide +kernel) rfl
theorem q_945 : Cond.methodLink RX7 88 yX7_tellFacts ∈ zTb := zq_4 127 (by decide +kernel) rfl
theorem q_947 : Cond.instanceMethod yX7_tellFacts ∈ zTb := zq_4 129 (by decide +kernel) rfl
theorem q_948 : Cond.code yX7_tellFacts cX7_tellFacts 3 none ∈ zTb := zq_4 130 (by decide +kernel) rfl
theorem q_949 : Cond.methodLink RX7 107 yX1_tellFacts ∈ zTb := zq_4 131 (by decide +kernel) rfl
theorem q_950 : Cond.instanceMethod yX1_tellFacts ∈ zTb := zq_4 132 (by decide +kernel) rfl
theorem q_951 : Cond.selects RX1 yX1_tellFacts yX1_tellFacts ∈ zTb := zq_4 133 (by decide +kernel) rfl
theorem q_952 : Cond.code yX1_tellFacts cX1_tellFacts 5 none ∈ zTb := zq_4 134 (by decide +kernel) rfl
theorem q_953 : Cond.methodLink RX7 96 yX1_growth ∈ zTb := zq_4 135 (by decide +kernel) rfl
theorem q_954 : Cond.instanceMethod yX1_growth ∈ zTb := zq_4 136 (by decide +kernel) rfl
theorem q_955 : Cond.selects RX1 yX1_growth yX1_growth ∈ zTb := zq_4 137 (by decide +kernel) rfl
theorem q_956 : Cond.code yX1_growth cX1_growth 1 (some .int) ∈ zTb := zq_4 138 (by decide +kernel) rfl
theorem q_957 : Cond.methodLink RX1 58 yX1_worth ∈ zTb := zq_4 139 (by decide +kernel) rfl
theorem q_959 : Cond.instanceMethod yX1_worth ∈ zTb := zq_4 141 (by decide +kernel) rfl
theorem q_960 : Cond.code yX1_worth cX1_worth 7 (some .int) ∈ zTb := zq_4 142 (by decide +kernel) rfl
theorem q_961 : Cond.methodLink RX1 73 yX1_push ∈ zTb := zq_4 143 (by decide +kernel) rfl
theorem q_963 : Cond.instanceMethod yX1_push ∈ zTb := zq_4 145 (by decide +kernel) rfl
theorem q_964 : Cond.code yX1_push cX1_push 2 none ∈ zTb := zq_4 146 (by decide +kernel) rfl
theorem q_965 : Cond.methodLink RX1 76 yX1_fact ∈ zTb := zq_4 147 (by decide +kernel) rfl
theorem q_967 : Cond.instanceMethod yX1_fact ∈ zTb := zq_4 149 (by decide +kernel) rfl
theorem q_968 : Cond.code yX1_fact cX1_fact 2 (some .int) ∈ zTb := zq_4 150 (by decide +kernel) rfl
theorem q_969 : Cond.methodLink RX1 80 yX1_pop ∈ zTb := zq_4 151 (by decide +kernel) rfl
theorem q_971 : Cond.instanceMethod yX1_pop ∈ zTb := zq_4 153 (by decide +kernel) rfl
theorem q_972 : Cond.code yX1_pop cX1_pop 1 (some .int) ∈ zTb := zq_4 154 (by decide +kernel) rfl
theorem q_973 : Cond.methodLink RX1 84 yX1_joined ∈ zTb := zq_4 155 (by decide +kernel) rfl
theorem q_974 : Cond.static yX1_joined ∈ zTb := zq_4 156 (by decide +kernel) rfl
theorem q_975 : Cond.code yX1_joined cX1_joined 3 (some .int) ∈ zTb := zq_4 157 (by decide +kernel) rfl
theorem q_976 : Cond.methodLink RX1 62 Lib.Math.min.name ∈ zTb := zq_4 158 (by decide +kernel) rfl
theorem q_977 : Cond.methodLink RX1 67 Lib.Math.max.name ∈ zTb := zq_4 159 (by decide +kernel) rfl
theorem q_978 : Cond.methodLink RX7 101 Lib.Math.min.name ∈ zTb := zq_4 160 (by decide +kernel) rfl
theorem q_983 : Cond.methodLink RX11 166 yX7_areTwoAlive ∈ zTb := zq_4 165 (by decide +kernel) rfl
theorem q_984 : Cond.instanceMethod yX7_areTwoAlive ∈ zTb := zq_4 166 (by decide +kernel) rfl
theorem q_985 : Cond.selects RX7 yX7_areTwoAlive yX7_areTwoAlive ∈ zTb := zq_4 167 (by decide +kernel) rfl
theorem q_986 : Cond.code yX7_areTwoAlive cX7_areTwoAlive 3 (some .boolean) ∈ zTb := zq_4 168 (by decide +kernel) rfl
theorem q_987 : Cond.methodLink RX11 169 yX7_give ∈ zTb := zq_4 169 (by decide +kernel) rfl
theorem q_988 : Cond.instanceMethod yX7_give ∈ zTb := zq_4 170 (by decide +kernel) rfl
theorem q_989 : Cond.selects RX7 yX7_give yX7_give ∈ zTb := zq_4 171 (by decide +kernel) rfl
theorem q_990 : Cond.code yX7_give cX7_give 4 (some .int) ∈ zTb := zq_4 172 (by decide +kernel) rfl
theorem q_991 : Cond.methodLink RX7 110 yX1_easing ∈ zTb := zq_4 173 (by decide +kernel) rfl
theorem q_992 : Cond.instanceMethod yX1_easing ∈ zTb := zq_4 174 (by decide +kernel) rfl
theorem q_993 : Cond.selects RX1 yX1_easing yX1_easing ∈ zTb := zq_4 175 (by decide +kernel) rfl
theorem q_994 : Cond.code yX1_easing cX1_easing 1 (some .int) ∈ zTb := zq_4 176 (by decide +kernel) rfl
theorem q_999 : Cond.methodLink RX11 173 yX7_canVote ∈ zTb := zq_4 181 (by decide +kernel) rfl
theorem q_1000 : Cond.instanceMethod yX7_canVote ∈ zTb := zq_4 182 (by decide +kernel) rfl
theorem q_1001 : Cond.selects RX7 yX7_canVote yX7_canVote ∈ zTb := zq_4 183 (by decide +kernel) rfl
theorem q_1002 : Cond.code yX7_canVote cX7_canVote 3 (some .boolean) ∈ zTb := zq_4 184 (by decide +kernel) rfl
theorem q_1003 : Cond.methodLink RX7 113 yX7_areTwoAlive ∈ zTb := zq_4 185 (by decide +kernel) rfl
theorem q_1004 : Cond.methodLink RX11 176 yX7_vote ∈ zTb := zq_4 186 (by decide +kernel) rfl
theorem q_1005 : Cond.instanceMethod yX7_vote ∈ zTb := zq_4 187 (by decide +kernel) rfl
theorem q_1006 : Cond.selects RX7 yX7_vote yX7_vote ∈ zTb := zq_4 188 (by decide +kernel) rfl
theorem q_1007 : Cond.code yX7_vote cX7_vote 3 none ∈ zTb := zq_4 189 (by decide +kernel) rfl
theorem q_1012 : Cond.methodLink RX11 180 yX7_bury ∈ zTb := zq_4 194 (by decide +kernel) rfl
theorem q_1013 : Cond.instanceMethod yX7_bury ∈ zTb := zq_4 195 (by decide +kernel) rfl
theorem q_1014 : Cond.selects RX7 yX7_bury yX7_bury ∈ zTb := zq_4 196 (by decide +kernel) rfl
theorem q_1015 : Cond.code yX7_bury cX7_bury 4 (some .int) ∈ zTb := zq_4 197 (by decide +kernel) rfl
theorem q_1020 : Cond.methodLink RX11 186 yX7_passDay ∈ zTb := zq_4 202 (by decide +kernel) rfl
theorem q_1021 : Cond.instanceMethod yX7_passDay ∈ zTb := zq_4 203 (by decide +kernel) rfl
theorem q_1022 : Cond.selects RX7 yX7_passDay yX7_passDay ∈ zTb := zq_4 204 (by decide +kernel) rfl
theorem q_1023 : Cond.code yX7_passDay cX7_passDay 5 (some .int) ∈ zTb := zq_4 205 (by decide +kernel) rfl
theorem q_1024 : Cond.methodLink RX7 119 yX7_target ∈ zTb := zq_4 206 (by decide +kernel) rfl
theorem q_1025 : Cond.instanceMethod yX7_target ∈ zTb := zq_4 207 (by decide +kernel) rfl
theorem q_1026 : Cond.selects RX7 yX7_target yX7_target ∈ zTb := zq_4 208 (by decide +kernel) rfl
theorem q_1027 : Cond.code yX7_target cX7_target 4 (some .int) ∈ zTb := zq_4 209 (by decide +kernel) rfl
theorem q_1028 : Cond.methodLink RX7 151 yX7_castsOnDays ∈ zTb := zq_4 210 (by decide +kernel) rfl
theorem q_1030 : Cond.instanceMethod yX7_castsOnDays ∈ zTb := zq_4 212 (by decide +kernel) rfl
theorem q_1031 : Cond.code yX7_castsOnDays cX7_castsOnDays 2 (some .boolean) ∈ zTb := zq_4 213 (by decide +kernel) rfl
theorem q_1032 : Cond.methodLink RX7 154 yX7_worst ∈ zTb := zq_4 214 (by decide +kernel) rfl
theorem q_1034 : Cond.instanceMethod yX7_worst ∈ zTb := zq_4 216 (by decide +kernel) rfl
theorem q_1035 : Cond.code yX7_worst cX7_worst 6 (some .int) ∈ zTb := zq_4 217 (by decide +kernel) rfl
theorem q_1036 : Cond.methodLink RX7 157 yX5_barOf ∈ zTb := zq_4 218 (by decide +kernel) rfl
theorem q_1037 : Cond.instanceMethod yX5_barOf ∈ zTb := zq_4 219 (by decide +kernel) rfl
theorem q_1038 : Cond.selects RX5 yX5_barOf yX5_barOf ∈ zTb := zq_4 220 (by decide +kernel) rfl
theorem q_1039 : Cond.code yX5_barOf cX5_barOf 3 (some .int) ∈ zTb := zq_4 221 (by decide +kernel) rfl
theorem q_1040 : Cond.methodLink RX5 75 Lib.Math.max.name ∈ zTb := zq_4 222 (by decide +kernel) rfl
theorem q_1041 : Cond.methodLink RX7 122 yX7_vote ∈ zTb := zq_4 223 (by decide +kernel) rfl
theorem q_1046 : Cond.methodLink RX11 189 yX3_bringBack ∈ zTb := zq_4 228 (by decide +kernel) rfl
theorem q_1047 : Cond.instanceMethod yX3_bringBack ∈ zTb := zq_4 229 (by decide +kernel) rfl
theorem q_1048 : Cond.selects RX3 yX3_bringBack yX3_bringBack ∈ zTb := zq_4 230 (by decide +kernel) rfl
theorem q_1049 : Cond.code yX3_bringBack cX3_bringBack 2 (some .boolean) ∈ zTb := zq_4 231 (by decide +kernel) rfl
theorem q_1054 : Cond.methodLink RX11 193 yX7_become ∈ zTb := zq_4 236 (by decide +kernel) rfl
theorem q_1055 : Cond.methodLink RX11 201 yX7_perform ∈ zTb := zq_4 237 (by decide +kernel) rfl
theorem q_1056 : Cond.instanceMethod yX7_perform ∈ zTb := zq_4 238 (by decide +kernel) rfl
theorem q_1057 : Cond.selects RX7 yX7_perform yX7_perform ∈ zTb := zq_4 239 (by decide +kernel) rfl
theorem q_1058 : Cond.code yX7_perform cX7_perform 5 (some .boolean) ∈ zTb := zq_5 0 (by decide +kernel) rfl
theorem q_1059 : Cond.methodLink RX7 135 yX7_canBe ∈ zTb := zq_5 1 (by decide +kernel) rfl
theorem q_1061 : Cond.instanceMethod yX7_canBe ∈ zTb := zq_5 3 (by decide +kernel) rfl
theorem q_1062 : Cond.code yX7_canBe cX7_canBe 4 (some .boolean) ∈ zTb := zq_5 4 (by decide +kernel) rfl
theorem q_1063 : Cond.methodLink RX7 125 yX7_canLevy ∈ zTb := zq_5 5 (by decide +kernel) rfl
theorem q_1064 : Cond.methodLink RX7 148 yX7_canVote ∈ zTb := zq_5 6 (by decide +kernel) rfl
theorem q_1065 : Cond.methodLink RX7 129 yX7_levy ∈ zTb := zq_5 7 (by decide +kernel) rfl
theorem q_1066 : Cond.methodLink RX7 139 yX7_give ∈ zTb := zq_5 8 (by decide +kernel) rfl
theorem q_1067 : Cond.methodLink RX7 142 yX7_bury ∈ zTb := zq_5 9 (by decide +kernel) rfl
theorem q_1068 : Cond.methodLink RX7 132 yX7_passDay ∈ zTb := zq_5 10 (by decide +kernel) rfl
theorem q_1073 : Cond.methodLink RX11 204 yX7_target ∈ zTb := zq_5 15 (by decide +kernel) rfl
theorem q_1078 : Cond.methodLink RX11 207 yX7_votesToBring ∈ zTb := zq_5 20 (by decide +kernel) rfl
theorem q_1079 : Cond.instanceMethod yX7_votesToBring ∈ zTb := zq_5 21 (by decide +kernel) rfl
theorem q_1080 : Cond.selects RX7 yX7_votesToBring yX7_votesToBring ∈ zTb := zq_5 22 (by decide +kernel) rfl
theorem q_1081 : Cond.code yX7_votesToBring cX7_votesToBring 6 (some .int) ∈ zTb := zq_5 23 (by decide +kernel) rfl
theorem q_1082 : Cond.methodLink RX7 160 yX7_votesLeft ∈ zTb := zq_5 24 (by decide +kernel) rfl
theorem q_1083 : Cond.instanceMethod yX7_votesLeft ∈ zTb := zq_5 25 (by decide +kernel) rfl
theorem q_1084 : Cond.selects RX7 yX7_votesLeft yX7_votesLeft ∈ zTb := zq_5 26 (by decide +kernel) rfl
theorem q_1085 : Cond.code yX7_votesLeft cX7_votesLeft 3 (some .int) ∈ zTb := zq_5 27 (by decide +kernel) rfl
theorem q_1090 : Cond.methodLink RX11 210 yX7_votesToBear ∈ zTb := zq_5 32 (by decide +kernel) rfl
theorem q_1091 : Cond.instanceMethod yX7_votesToBear ∈ zTb := zq_5 33 (by decide +kernel) rfl
theorem q_1092 : Cond.selects RX7 yX7_votesToBear yX7_votesToBear ∈ zTb := zq_5 34 (by decide +kernel) rfl
theorem q_1093 : Cond.code yX7_votesToBear cX7_votesToBear 5 (some .int) ∈ zTb := zq_5 35 (by decide +kernel) rfl
theorem q_1098 : Cond.methodLink RX11 213 yX7_passTaxedDay ∈ zTb := zq_5 40 (by decide +kernel) rfl
theorem q_1099 : Cond.instanceMethod yX7_passTaxedDay ∈ zTb := zq_5 41 (by decide +kernel) rfl
theorem q_1100 : Cond.selects RX7 yX7_passTaxedDay yX7_passTaxedDay ∈ zTb := zq_5 42 (by decide +kernel) rfl
theorem q_1101 : Cond.code yX7_passTaxedDay cX7_passTaxedDay 2 (some .int) ∈ zTb := zq_5 43 (by decide +kernel) rfl
theorem q_1106 : Cond.methodLink RX11 219 yX7_giftsToQuiet ∈ zTb := zq_5 48 (by decide +kernel) rfl
theorem q_1107 : Cond.instanceMethod yX7_giftsToQuiet ∈ zTb := zq_5 49 (by decide +kernel) rfl
theorem q_1108 : Cond.selects RX7 yX7_giftsToQuiet yX7_giftsToQuiet ∈ zTb := zq_5 50 (by decide +kernel) rfl
theorem q_1109 : Cond.code yX7_giftsToQuiet cX7_giftsToQuiet 7 (some .int) ∈ zTb := zq_5 51 (by decide +kernel) rfl
theorem q_1118 : Cond.methodLink RX11 222 yX11_isDigit ∈ zTb := zq_5 60 (by decide +kernel) rfl
theorem q_1119 : Cond.static yX11_isDigit ∈ zTb := zq_5 61 (by decide +kernel) rfl
theorem q_1120 : Cond.code yX11_isDigit cX11_isDigit 1 (some .boolean) ∈ zTb := zq_5 62 (by decide +kernel) rfl
theorem q_1121 : Cond.methodLink RX11 228 yX11_barsUpTo ∈ zTb := zq_5 63 (by decide +kernel) rfl
theorem q_1122 : Cond.static yX11_barsUpTo ∈ zTb := zq_5 64 (by decide +kernel) rfl
theorem q_1123 : Cond.code yX11_barsUpTo cX11_barsUpTo 1 (some .int) ∈ zTb := zq_5 65 (by decide +kernel) rfl
theorem q_1128 : Cond.methodLink RX11 234 yJ6_bitCount_0f7a4 ∈ zTb := zq_5 70 (by decide +kernel) rfl
theorem q_1129 : Cond.static yJ6_bitCount_0f7a4 ∈ zTb := zq_5 71 (by decide +kernel) rfl
theorem q_1130 : Cond.code yJ6_bitCount_0f7a4 cJ6_bitCount_0f7a4 1 (some .int) ∈ zTb := zq_5 72 (by decide +kernel) rfl
theorem q_1131 : Cond.constant RJ6 265 1431655765 ∈ zTb := zq_5 73 (by decide +kernel) rfl
theorem q_1132 : Cond.constant RJ6 266 858993459 ∈ zTb := zq_5 74 (by decide +kernel) rfl
theorem q_1133 : Cond.constant RJ6 267 252645135 ∈ zTb := zq_5 75 (by decide +kernel) rfl
theorem q_1134 : Cond.methodLink RX11 239 yJ6_numberOfTrailingZeros_0f7a4 ∈ zTb := zq_5 76 (by decide +kernel) rfl
theorem q_1135 : Cond.static yJ6_numberOfTrailingZeros_0f7a4 ∈ zTb := zq_5 77 (by decide +kernel) rfl
theorem q_1136 : Cond.code yJ6_numberOfTrailingZeros_0f7a4 cJ6_numberOfTrailingZeros_0f7a4 2 (some .int) ∈ zTb := zq_5 78 (by decide +kernel) rfl
theorem q_1137 : Cond.constant RJ6 264 65536 ∈ zTb := zq_5 79 (by decide +kernel) rfl
theorem q_1138 : Cond.methodLink RX11 242 yJ6_numberOfLeadingZeros_0f7a4 ∈ zTb := zq_5 80 (by decide +kernel) rfl
theorem q_1139 : Cond.static yJ6_numberOfLeadingZeros_0f7a4 ∈ zTb := zq_5 81 (by decide +kernel) rfl
theorem q_1140 : Cond.code yJ6_numberOfLeadingZeros_0f7a4 cJ6_numberOfLeadingZeros_0f7a4 2 (some .int) ∈ zTb := zq_5 82 (by decide +kernel) rfl
theorem q_1145 : Cond.methodLink RX11 245 Lib.Math.max.name ∈ zTb := zq_5 87 (by decide +kernel) rfl
theorem q_1150 : Cond.methodLink RX11 250 yX7_voters ∈ zTb := zq_5 92 (by decide +kernel) rfl
theorem q_1151 : Cond.instanceMethod yX7_voters ∈ zTb := zq_5 93 (by decide +kernel) rfl
theorem q_1152 : Cond.selects RX7 yX7_voters yX7_voters ∈ zTb := zq_5 94 (by decide +kernel) rfl
theorem q_1153 : Cond.code yX7_voters cX7_voters 3 (some .int) ∈ zTb := zq_5 95 (by decide +kernel) rfl
theorem q_1154 : Cond.methodLink RX11 253 yX11_governsBy ∈ zTb := zq_5 96 (by decide +kernel) rfl
theorem q_1156 : Cond.instanceMethod yX11_governsBy ∈ zTb := zq_5 98 (by decide +kernel) rfl
theorem q_1157 : Cond.code yX11_governsBy cX11_governsBy 5 (some .boolean) ∈ zTb := zq_5 99 (by decide +kernel) rfl
theorem q_1162 : Cond.methodLink RX11 257 yX7_isThreat ∈ zTb := zq_5 104 (by decide +kernel) rfl
theorem q_1163 : Cond.instanceMethod yX7_isThreat ∈ zTb := zq_5 105 (by decide +kernel) rfl
theorem q_1164 : Cond.selects RX7 yX7_isThreat yX7_isThreat ∈ zTb := zq_5 106 (by decide +kernel) rfl
theorem q_1165 : Cond.code yX7_isThreat cX7_isThreat 3 (some .boolean) ∈ zTb := zq_5 107 (by decide +kernel) rfl
theorem q_1174 : Cond.methodLink RX11 271 yX11_passDrawnDay ∈ zTb := zq_5 116 (by decide +kernel) rfl
theorem q_1176 : Cond.instanceMethod yX11_passDrawnDay ∈ zTb := zq_5 118 (by decide +kernel) rfl
theorem q_1177 : Cond.code yX11_passDrawnDay cX11_passDrawnDay 3 (some .int) ∈ zTb := zq_5 119 (by decide +kernel) rfl
theorem q_1178 : Cond.methodLink RX11 305 yX11_drawBelow ∈ zTb := zq_5 120 (by decide +kernel) rfl
theorem q_1180 : Cond.instanceMethod yX11_drawBelow ∈ zTb := zq_5 122 (by decide +kernel) rfl
theorem q_1181 : Cond.code yX11_drawBelow cX11_drawBelow 2 (some .int) ∈ zTb := zq_5 123 (by decide +kernel) rfl
theorem q_1182 : Cond.constantLong RX11 308 1103515245 ∈ zTb := zq_5 124 (by decide +kernel) rfl
theorem q_1183 : Cond.constantLong RX11 310 12345 ∈ zTb := zq_5 125 (by decide +kernel) rfl
theorem q_1184 : Cond.constantLong RX11 312 2147483648 ∈ zTb := zq_5 126 (by decide +kernel) rfl
theorem q_1185 : Cond.constantLong RX11 314 65536 ∈ zTb := zq_5 127 (by decide +kernel) rfl
theorem q_1190 : Cond.methodLink RX11 277 yX2_become ∈ zTb := zq_5 132 (by decide +kernel) rfl
theorem q_1191 : Cond.instanceMethod yX2_become ∈ zTb := zq_5 133 (by decide +kernel) rfl
theorem q_1192 : Cond.selects RX2 yX2_become yX2_become ∈ zTb := zq_5 134 (by decide +kernel) rfl
theorem q_1193 : Cond.code yX2_become cX2_become 2 none ∈ zTb := zq_5 135 (by decide +kernel) rfl
theorem q_1194 : Cond.methodLink RX2 40 yX7_become ∈ zTb := zq_5 136 (by decide +kernel) rfl
theorem q_1195 : Cond.methodLink RX2 44 yX9_become ∈ zTb := zq_5 137 (by decide +kernel) rfl
theorem q_1200 : Cond.methodLink RX11 289 yX7_votesLeft ∈ zTb := zq_5 142 (by decide +kernel) rfl
theorem q_1201 : Cond.methodLink RX11 292 yX7_allGrudges ∈ zTb := zq_5 143 (by decide +kernel) rfl
theorem q_1202 : Cond.instanceMethod yX7_allGrudges ∈ zTb := zq_5 144 (by decide +kernel) rfl
theorem q_1203 : Cond.selects RX7 yX7_allGrudges yX7_allGrudges ∈ zTb := zq_5 145 (by decide +kernel) rfl
theorem q_1204 : Cond.code yX7_allGrudges cX7_allGrudges 4 (some .int) ∈ zTb := zq_5 146 (by decide +kernel) rfl
theorem q_1205 : Cond.methodLink RX11 295 yX7_allCasts ∈ zTb := zq_5 147 (by decide +kernel) rfl
theorem q_1206 : Cond.instanceMethod yX7_allCasts ∈ zTb := zq_5 148 (by decide +kernel) rfl
theorem q_1207 : Cond.selects RX7 yX7_allCasts yX7_allCasts ∈ zTb := zq_5 149 (by decide +kernel) rfl
theorem q_1208 : Cond.code yX7_allCasts cX7_allCasts 3 (some .int) ∈ zTb := zq_5 150 (by decide +kernel) rfl
theorem q_1209 : Cond.methodLink RX7 163 yX7_castBy ∈ zTb := zq_5 151 (by decide +kernel) rfl
theorem q_1282 : Cond.methodLink RX11 301 yX11_gain ∈ zTb := zq_5 224 (by decide +kernel) rfl
theorem q_1283 : Cond.static yX11_gain ∈ zTb := zq_5 225 (by decide +kernel) rfl
theorem q_1284 : Cond.code yX11_gain cX11_gain 5 (some .int) ∈ zTb := zq_5 226 (by decide +kernel) rfl
theorem q_1291 : Cond.methodLink RX12 123 yX12_fresh ∈ zTb := zq_5 233 (by decide +kernel) rfl
theorem q_1293 : Cond.instanceMethod yX12_fresh ∈ zTb := zq_5 235 (by decide +kernel) rfl
theorem q_1294 : Cond.code yX12_fresh cX12_fresh 2 none ∈ zTb := zq_5 236 (by decide +kernel) rfl
theorem q_1295 : Cond.fieldLink RX12 126 "VoteAgainstModel" "thrown" "I" ∈ zTb := zq_5 237 (by decide +kernel) rfl
theorem q_1296 : Cond.fieldLink RX12 132 "VoteAgainstModel" "taped" "I" ∈ zTb := zq_5 238 (by decide +kernel) rfl
theorem q_1297 : Cond.fieldLink RX12 7 "VoteAgainstModel" "tape" "[I" ∈ zTb := zq_5 239 (by decide +kernel) rfl
theorem q_1298 : Cond.fieldLink RX12 135 "VoteAgainstModel" "size" "I" ∈ zTb := zq_6 0 (by decide +kernel) rfl
theorem q_1299 : Cond.fieldLink RX12 138 "VoteAgainstModel" "place" "I" ∈ zTb := zq_6 1 (by decide +kernel) rfl
theorem q_1300 : Cond.fieldLink RX12 141 "VoteAgainstModel" "begin" "I" ∈ zTb := zq_6 2 (by decide +kernel) rfl
theorem q_1301 : Cond.fieldLink RX12 151 "VoteAgainstModel" "token" "I" ∈ zTb := zq_6 3 (by decide +kernel) rfl
theorem q_1302 : Cond.fieldLink RX12 144 "VoteAgainstModel" "word" "J" ∈ zTb := zq_6 4 (by decide +kernel) rfl
theorem q_1303 : Cond.fieldLink RX12 148 "VoteAgainstModel" "told" "I" ∈ zTb := zq_6 5 (by decide +kernel) rfl
theorem q_1304 : Cond.fieldLink RX12 162 "VoteAgainstModel" "wrong" "I" ∈ zTb := zq_6 6 (by decide +kernel) rfl
theorem q_1305 : Cond.fieldLink RX12 13 "VoteAgainstModel" "republic" "[I" ∈ zTb := zq_6 7 (by decide +kernel) rfl
theorem q_1306 : Cond.fieldLink RX12 16 "VoteAgainstModel" "personName" "[J" ∈ zTb := zq_6 8 (by decide +kernel) rfl
theorem q_1307 : Cond.fieldLink RX12 20 "VoteAgainstModel" "kind" "[I" ∈ zTb := zq_6 9 (by decide +kernel) rfl
theorem q_1308 : Cond.fieldLink RX12 23 "VoteAgainstModel" "ageOf" "[I" ∈ zTb := zq_6 10 (by decide +kernel) rfl
theorem q_1309 : Cond.fieldLink RX12 26 "VoteAgainstModel" "envy" "[I" ∈ zTb := zq_6 11 (by decide +kernel) rfl
theorem q_1310 : Cond.fieldLink RX12 29 "VoteAgainstModel" "heirOf" "[I" ∈ zTb := zq_6 12 (by decide +kernel) rfl
theorem q_1311 : Cond.fieldLink RX12 32 "VoteAgainstModel" "grudgeTold" "[I" ∈ zTb := zq_6 13 (by decide +kernel) rfl
theorem q_1312 : Cond.fieldLink RX12 35 "VoteAgainstModel" "isGrudge" "[Z" ∈ zTb := zq_6 14 (by decide +kernel) rfl
theorem q_1313 : Cond.fieldLink RX12 39 "VoteAgainstModel" "lineFrom" "[I" ∈ zTb := zq_6 15 (by decide +kernel) rfl
theorem q_1314 : Cond.fieldLink RX12 42 "VoteAgainstModel" "lineTo" "[I" ∈ zTb := zq_6 16 (by decide +kernel) rfl
theorem q_1315 : Cond.fieldLink RX12 45 "VoteAgainstModel" "codes" "[I" ∈ zTb := zq_6 17 (by decide +kernel) rfl
theorem q_1316 : Cond.fieldLink RX12 165 "VoteAgainstModel" "code" "I" ∈ zTb := zq_6 18 (by decide +kernel) rfl
theorem q_1317 : Cond.fieldLink RX12 293 "VoteAgainstModel" "toldLines" "I" ∈ zTb := zq_6 19 (by decide +kernel) rfl
theorem q_1318 : Cond.fieldLink RX12 48 "VoteAgainstModel" "opened" "[I" ∈ zTb := zq_6 20 (by decide +kernel) rfl
theorem q_1319 : Cond.fieldLink RX12 51 "VoteAgainstModel" "compared" "[Z" ∈ zTb := zq_6 21 (by decide +kernel) rfl
theorem q_1320 : Cond.fieldLink RX12 54 "VoteAgainstModel" "kept" "[I" ∈ zTb := zq_6 22 (by decide +kernel) rfl
theorem q_1321 : Cond.fieldLink RX12 57 "VoteAgainstModel" "keptBy" "[I" ∈ zTb := zq_6 23 (by decide +kernel) rfl
theorem q_1322 : Cond.fieldLink RX12 60 "VoteAgainstModel" "ahead" "[I" ∈ zTb := zq_6 24 (by decide +kernel) rfl
theorem q_1323 : Cond.fieldLink RX12 63 "VoteAgainstModel" "against" "[I" ∈ zTb := zq_6 25 (by decide +kernel) rfl
theorem q_1324 : Cond.fieldLink RX12 66 "VoteAgainstModel" "sum" "[I" ∈ zTb := zq_6 26 (by decide +kernel) rfl
theorem q_1325 : Cond.fieldLink RX12 69 "VoteAgainstModel" "sumBy" "[I" ∈ zTb := zq_6 27 (by decide +kernel) rfl
theorem q_1326 : Cond.fieldLink RX12 72 "VoteAgainstModel" "term" "[I" ∈ zTb := zq_6 28 (by decide +kernel) rfl
theorem q_1327 : Cond.fieldLink RX12 75 "VoteAgainstModel" "termBy" "[I" ∈ zTb := zq_6 29 (by decide +kernel) rfl
theorem q_1328 : Cond.fieldLink RX12 78 "VoteAgainstModel" "byNot" "[I" ∈ zTb := zq_6 30 (by decide +kernel) rfl
theorem q_1329 : Cond.fieldLink RX12 81 "VoteAgainstModel" "valueOf" "[I" ∈ zTb := zq_6 31 (by decide +kernel) rfl
theorem q_1330 : Cond.fieldLink RX12 263 "VoteAgainstModel" "given" "I" ∈ zTb := zq_6 32 (by decide +kernel) rfl
theorem q_1331 : Cond.fieldLink RX12 280 "VoteAgainstModel" "first" "I" ∈ zTb := zq_6 33 (by decide +kernel) rfl
theorem q_1332 : Cond.fieldLink RX12 84 "VoteAgainstModel" "lines" "[I" ∈ zTb := zq_6 34 (by decide +kernel) rfl
theorem q_1333 : Cond.fieldLink RX12 87 "VoteAgainstModel" "lineWhat" "[I" ∈ zTb := zq_6 35 (by decide +kernel) rfl
theorem q_1334 : Cond.fieldLink RX12 90 "VoteAgainstModel" "lineA" "[I" ∈ zTb := zq_6 36 (by decide +kernel) rfl
theorem q_1335 : Cond.fieldLink RX12 93 "VoteAgainstModel" "lineB" "[I" ∈ zTb := zq_6 37 (by decide +kernel) rfl
theorem q_1336 : Cond.fieldLink RX12 96 "VoteAgainstModel" "heards" "[I" ∈ zTb := zq_6 38 (by decide +kernel) rfl
theorem q_1337 : Cond.fieldLink RX12 99 "VoteAgainstModel" "heardGrudge" "[I" ∈ zTb := zq_6 39 (by decide +kernel) rfl
theorem q_1338 : Cond.fieldLink RX12 102 "VoteAgainstModel" "heardCast" "[Z" ∈ zTb := zq_6 40 (by decide +kernel) rfl
theorem q_1339 : Cond.fieldLink RX12 105 "VoteAgainstModel" "s" "[I" ∈ zTb := zq_6 41 (by decide +kernel) rfl
theorem q_1340 : Cond.fieldLink RX12 108 "VoteAgainstModel" "aside" "[I" ∈ zTb := zq_6 42 (by decide +kernel) rfl
theorem q_1341 : Cond.fieldLink RX12 111 "VoteAgainstModel" "marked" "[I" ∈ zTb := zq_6 43 (by decide +kernel) rfl
theorem q_1342 : Cond.fieldLink RX12 114 "VoteAgainstModel" "undone" "[I" ∈ zTb := zq_6 44 (by decide +kernel) rfl
theorem q_1343 : Cond.fieldLink RX12 117 "VoteAgainstModel" "isLaid" "[Z" ∈ zTb := zq_6 45 (by decide +kernel) rfl
theorem q_1344 : Cond.fieldLink RX12 334 "VoteAgainstModel" "done" "I" ∈ zTb := zq_6 46 (by decide +kernel) rfl
theorem q_1345 : Cond.fieldLink RX12 120 "VoteAgainstModel" "more" "[I" ∈ zTb := zq_6 47 (by decide +kernel) rfl
theorem q_1346 : Cond.fieldLink RX12 462 "VoteAgainstModel" "g" "J" ∈ zTb := zq_6 48 (by decide +kernel) rfl
theorem q_1461 : Cond.constantLong RX12 130 255 ∈ zTb := zq_6 163 (by decide +kernel) rfl
theorem q_1466 : Cond.methodLink RX12 328 yX12_readsAll ∈ zTb := zq_6 168 (by decide +kernel) rfl
theorem q_1468 : Cond.instanceMethod yX12_readsAll ∈ zTb := zq_6 170 (by decide +kernel) rfl
theorem q_1469 : Cond.code yX12_readsAll cX12_readsAll 2 (some .boolean) ∈ zTb := zq_6 171 (by decide +kernel) rfl
theorem q_1470 : Cond.methodLink RX12 302 yX12_begins ∈ zTb := zq_6 172 (by decide +kernel) rfl
theorem q_1472 : Cond.instanceMethod yX12_begins ∈ zTb := zq_6 174 (by decide +kernel) rfl
theorem q_1473 : Cond.code yX12_begins cX12_begins 1 none ∈ zTb := zq_6 175 (by decide +kernel) rfl
theorem q_1474 : Cond.methodLink RX12 197 yX12_nextToken ∈ zTb := zq_6 176 (by decide +kernel) rfl
theorem q_1476 : Cond.instanceMethod yX12_nextToken ∈ zTb := zq_6 178 (by decide +kernel) rfl
theorem q_1477 : Cond.code yX12_nextToken cX12_nextToken 2 none ∈ zTb := zq_6 179 (by decide +kernel) rfl
theorem q_1478 : Cond.methodLink RX12 154 yX12_signAt ∈ zTb := zq_6 180 (by decide +kernel) rfl
theorem q_1480 : Cond.instanceMethod yX12_signAt ∈ zTb := zq_6 182 (by decide +kernel) rfl
theorem q_1481 : Cond.code yX12_signAt cX12_signAt 2 (some .int) ∈ zTb := zq_6 183 (by decide +kernel) rfl
theorem q_1482 : Cond.constantLong RX12 158 27 ∈ zTb := zq_6 184 (by decide +kernel) rfl
theorem q_1483 : Cond.constantLong RX12 160 96 ∈ zTb := zq_6 185 (by decide +kernel) rfl
theorem q_1484 : Cond.constantLong RX12 213 232608281 ∈ zTb := zq_6 186 (by decide +kernel) rfl
theorem q_1485 : Cond.methodLink RX12 182 yX12_isWord ∈ zTb := zq_6 187 (by decide +kernel) rfl
theorem q_1487 : Cond.instanceMethod yX12_isWord ∈ zTb := zq_6 189 (by decide +kernel) rfl
theorem q_1488 : Cond.code yX12_isWord cX12_isWord 3 (some .boolean) ∈ zTb := zq_6 190 (by decide +kernel) rfl
theorem q_1489 : Cond.methodLink RX12 305 yX12_readsPerson ∈ zTb := zq_6 191 (by decide +kernel) rfl
theorem q_1491 : Cond.instanceMethod yX12_readsPerson ∈ zTb := zq_6 193 (by decide +kernel) rfl
theorem q_1492 : Cond.code yX12_readsPerson cX12_readsPerson 4 (some .boolean) ∈ zTb := zq_6 194 (by decide +kernel) rfl
theorem q_1493 : Cond.methodLink RX12 190 yX12_fails ∈ zTb := zq_6 195 (by decide +kernel) rfl
theorem q_1495 : Cond.instanceMethod yX12_fails ∈ zTb := zq_6 197 (by decide +kernel) rfl
theorem q_1496 : Cond.code yX12_fails cX12_fails 2 (some .boolean) ∈ zTb := zq_6 198 (by decide +kernel) rfl
theorem q_1497 : Cond.methodLink RX12 270 yX12_isKept ∈ zTb := zq_6 199 (by decide +kernel) rfl
theorem q_1499 : Cond.instanceMethod yX12_isKept ∈ zTb := zq_6 201 (by decide +kernel) rfl
theorem q_1500 : Cond.code yX12_isKept cX12_isKept 1 (some .boolean) ∈ zTb := zq_6 202 (by decide +kernel) rfl
theorem q_1501 : Cond.constantLong RX12 215 923 ∈ zTb := zq_6 203 (by decide +kernel) rfl
theorem q_1502 : Cond.constantLong RX12 217 109240 ∈ zTb := zq_6 204 (by decide +kernel) rfl
theorem q_1503 : Cond.constantLong RX12 219 110424740 ∈ zTb := zq_6 205 (by decide +kernel) rfl
theorem q_1504 : Cond.constantLong RX12 221 161370 ∈ zTb := zq_6 206 (by decide +kernel) rfl
theorem q_1505 : Cond.constantLong RX12 223 1503 ∈ zTb := zq_6 207 (by decide +kernel) rfl
theorem q_1506 : Cond.constantLong RX12 225 82408 ∈ zTb := zq_6 208 (by decide +kernel) rfl
theorem q_1507 : Cond.constantLong RX12 227 400375 ∈ zTb := zq_6 209 (by decide +kernel) rfl
theorem q_1508 : Cond.constantLong RX12 229 4085956 ∈ zTb := zq_6 210 (by decide +kernel) rfl
theorem q_1509 : Cond.constantLong RX12 231 2690893 ∈ zTb := zq_6 211 (by decide +kernel) rfl
theorem q_1510 : Cond.constantLong RX12 233 14631 ∈ zTb := zq_6 212 (by decide +kernel) rfl
theorem q_1511 : Cond.constantLong RX12 235 144524 ∈ zTb := zq_6 213 (by decide +kernel) rfl
theorem q_1512 : Cond.constantLong RX12 237 60311 ∈ zTb := zq_6 214 (by decide +kernel) rfl
theorem q_1513 : Cond.constantLong RX12 239 3164 ∈ zTb := zq_6 215 (by decide +kernel) rfl
theorem q_1514 : Cond.constantLong RX12 241 2968 ∈ zTb := zq_6 216 (by decide +kernel) rfl
theorem q_1515 : Cond.constantLong RX12 243 388609 ∈ zTb := zq_6 217 (by decide +kernel) rfl
theorem q_1516 : Cond.constantLong RX12 245 6409157 ∈ zTb := zq_6 218 (by decide +kernel) rfl
theorem q_1517 : Cond.constantLong RX12 247 11263 ∈ zTb := zq_6 219 (by decide +kernel) rfl
theorem q_1518 : Cond.constantLong RX12 249 13596964 ∈ zTb := zq_6 220 (by decide +kernel) rfl
theorem q_1519 : Cond.constantLong RX12 251 8740238 ∈ zTb := zq_6 221 (by decide +kernel) rfl
theorem q_1520 : Cond.constantLong RX12 253 10124021 ∈ zTb := zq_6 222 (by decide +kernel) rfl
theorem q_1521 : Cond.constantLong RX12 255 6257 ∈ zTb := zq_6 223 (by decide +kernel) rfl
theorem q_1522 : Cond.constantLong RX12 257 117812495 ∈ zTb := zq_6 224 (by decide +kernel) rfl
theorem q_1523 : Cond.constantLong RX12 180 10631 ∈ zTb := zq_6 225 (by decide +kernel) rfl
theorem q_1524 : Cond.constantLong RX12 200 1111 ∈ zTb := zq_6 226 (by decide +kernel) rfl
theorem q_1525 : Cond.constantLong RX12 202 423 ∈ zTb := zq_6 227 (by decide +kernel) rfl
theorem q_1526 : Cond.methodLink RX12 274 yX12_named ∈ zTb := zq_6 228 (by decide +kernel) rfl
theorem q_1528 : Cond.instanceMethod yX12_named ∈ zTb := zq_6 230 (by decide +kernel) rfl
theorem q_1529 : Cond.code yX12_named cX12_named 3 (some .int) ∈ zTb := zq_6 231 (by decide +kernel) rfl
theorem q_1530 : Cond.methodLink RX12 283 yX12_needsBoth ∈ zTb := zq_6 232 (by decide +kernel) rfl
theorem q_1532 : Cond.instanceMethod yX12_needsBoth ∈ zTb := zq_6 234 (by decide +kernel) rfl
theorem q_1533 : Cond.code yX12_needsBoth cX12_needsBoth 5 (some .boolean) ∈ zTb := zq_6 235 (by decide +kernel) rfl
theorem q_1534 : Cond.methodLink RX12 266 yX12_needsNumber ∈ zTb := zq_6 236 (by decide +kernel) rfl
theorem q_1536 : Cond.instanceMethod yX12_needsNumber ∈ zTb := zq_6 238 (by decide +kernel) rfl
theorem q_1537 : Cond.code yX12_needsNumber cX12_needsNumber 3 (some .boolean) ∈ zTb := zq_6 239 (by decide +kernel) rfl
theorem q_1538 : Cond.methodLink RX12 259 yX12_within ∈ zTb := zq_7 0 (by decide +kernel) rfl
theorem q_1539 : Cond.static yX12_within ∈ zTb := zq_7 1 (by decide +kernel) rfl
theorem q_1540 : Cond.code yX12_within cX12_within 3 (some .boolean) ∈ zTb := zq_7 2 (by decide +kernel) rfl
theorem q_1541 : Cond.methodLink RX12 287 yX12_closes ∈ zTb := zq_7 3 (by decide +kernel) rfl
theorem q_1543 : Cond.instanceMethod yX12_closes ∈ zTb := zq_7 5 (by decide +kernel) rfl
theorem q_1544 : Cond.code yX12_closes cX12_closes 1 (some .boolean) ∈ zTb := zq_7 6 (by decide +kernel) rfl
theorem q_1545 : Cond.methodLink RX12 186 yX12_isSign ∈ zTb := zq_7 7 (by decide +kernel) rfl
theorem q_1547 : Cond.instanceMethod yX12_isSign ∈ zTb := zq_7 9 (by decide +kernel) rfl
theorem q_1548 : Cond.code yX12_isSign cX12_isSign 2 (some .boolean) ∈ zTb := zq_7 10 (by decide +kernel) rfl
theorem q_1549 : Cond.methodLink RX12 308 yX12_readsGrudge ∈ zTb := zq_7 11 (by decide +kernel) rfl
theorem q_1551 : Cond.instanceMethod yX12_readsGrudge ∈ zTb := zq_7 13 (by decide +kernel) rfl
theorem q_1552 : Cond.code yX12_readsGrudge cX12_readsGrudge 2 (some .boolean) ∈ zTb := zq_7 14 (by decide +kernel) rfl
theorem q_1553 : Cond.methodLink RX12 290 yX12_needsTwo ∈ zTb := zq_7 15 (by decide +kernel) rfl
theorem q_1555 : Cond.instanceMethod yX12_needsTwo ∈ zTb := zq_7 17 (by decide +kernel) rfl
theorem q_1556 : Cond.code yX12_needsTwo cX12_needsTwo 2 (some .boolean) ∈ zTb := zq_7 18 (by decide +kernel) rfl
theorem q_1557 : Cond.methodLink RX12 277 yX12_needsPerson ∈ zTb := zq_7 19 (by decide +kernel) rfl
theorem q_1559 : Cond.instanceMethod yX12_needsPerson ∈ zTb := zq_7 21 (by decide +kernel) rfl
theorem q_1560 : Cond.code yX12_needsPerson cX12_needsPerson 2 (some .boolean) ∈ zTb := zq_7 22 (by decide +kernel) rfl
theorem q_1561 : Cond.methodLink RX12 311 yX12_readsHeir ∈ zTb := zq_7 23 (by decide +kernel) rfl
theorem q_1563 : Cond.instanceMethod yX12_readsHeir ∈ zTb := zq_7 25 (by decide +kernel) rfl
theorem q_1564 : Cond.code yX12_readsHeir cX12_readsHeir 1 (some .boolean) ∈ zTb := zq_7 26 (by decide +kernel) rfl
theorem q_1565 : Cond.methodLink RX12 314 yX12_readsBar ∈ zTb := zq_7 27 (by decide +kernel) rfl
theorem q_1567 : Cond.instanceMethod yX12_readsBar ∈ zTb := zq_7 29 (by decide +kernel) rfl
theorem q_1568 : Cond.code yX12_readsBar cX12_readsBar 1 (some .boolean) ∈ zTb := zq_7 30 (by decide +kernel) rfl
theorem q_1569 : Cond.methodLink RX12 296 yX12_isTwice ∈ zTb := zq_7 31 (by decide +kernel) rfl
theorem q_1571 : Cond.instanceMethod yX12_isTwice ∈ zTb := zq_7 33 (by decide +kernel) rfl
theorem q_1572 : Cond.code yX12_isTwice cX12_isTwice 2 (some .boolean) ∈ zTb := zq_7 34 (by decide +kernel) rfl
theorem q_1573 : Cond.methodLink RX12 317 yX12_readsWhich ∈ zTb := zq_7 35 (by decide +kernel) rfl
theorem q_1575 : Cond.instanceMethod yX12_readsWhich ∈ zTb := zq_7 37 (by decide +kernel) rfl
theorem q_1576 : Cond.code yX12_readsWhich cX12_readsWhich 6 (some .boolean) ∈ zTb := zq_7 38 (by decide +kernel) rfl
theorem q_1577 : Cond.methodLink RX12 321 yX12_readsLaw ∈ zTb := zq_7 39 (by decide +kernel) rfl
theorem q_1579 : Cond.instanceMethod yX12_readsLaw ∈ zTb := zq_7 41 (by decide +kernel) rfl
theorem q_1580 : Cond.code yX12_readsLaw cX12_readsLaw 2 (some .boolean) ∈ zTb := zq_7 42 (by decide +kernel) rfl
theorem q_1581 : Cond.methodLink RX12 299 yX12_reads ∈ zTb := zq_7 43 (by decide +kernel) rfl
theorem q_1583 : Cond.instanceMethod yX12_reads ∈ zTb := zq_7 45 (by decide +kernel) rfl
theorem q_1584 : Cond.code yX12_reads cX12_reads 6 (some .boolean) ∈ zTb := zq_7 46 (by decide +kernel) rfl
theorem q_1585 : Cond.methodLink RX12 176 yX12_fact ∈ zTb := zq_7 47 (by decide +kernel) rfl
theorem q_1587 : Cond.instanceMethod yX12_fact ∈ zTb := zq_7 49 (by decide +kernel) rfl
theorem q_1588 : Cond.code yX12_fact cX12_fact 1 (some .int) ∈ zTb := zq_7 50 (by decide +kernel) rfl
theorem q_1589 : Cond.constantLong RX12 168 5878 ∈ zTb := zq_7 51 (by decide +kernel) rfl
theorem q_1590 : Cond.constantLong RX12 170 3946728583 ∈ zTb := zq_7 52 (by decide +kernel) rfl
theorem q_1591 : Cond.constantLong RX12 172 13385674 ∈ zTb := zq_7 53 (by decide +kernel) rfl
theorem q_1592 : Cond.constantLong RX12 174 6132983 ∈ zTb := zq_7 54 (by decide +kernel) rfl
theorem q_1593 : Cond.methodLink RX12 193 yX12_puts ∈ zTb := zq_7 55 (by decide +kernel) rfl
theorem q_1595 : Cond.instanceMethod yX12_puts ∈ zTb := zq_7 57 (by decide +kernel) rfl
theorem q_1596 : Cond.code yX12_puts cX12_puts 2 none ∈ zTb := zq_7 58 (by decide +kernel) rfl
theorem q_1597 : Cond.methodLink RX12 331 yX12_lays ∈ zTb := zq_7 59 (by decide +kernel) rfl
theorem q_1599 : Cond.instanceMethod yX12_lays ∈ zTb := zq_7 61 (by decide +kernel) rfl
theorem q_1600 : Cond.code yX12_lays cX12_lays 2 none ∈ zTb := zq_7 62 (by decide +kernel) rfl
theorem q_1601 : Cond.methodLink RX12 324 yX12_shifts ∈ zTb := zq_7 63 (by decide +kernel) rfl
theorem q_1602 : Cond.static yX12_shifts ∈ zTb := zq_7 64 (by decide +kernel) rfl
theorem q_1603 : Cond.code yX12_shifts cX12_shifts 3 none ∈ zTb := zq_7 65 (by decide +kernel) rfl
theorem q_1608 : Cond.methodLink RX12 337 yX12_readsLine ∈ zTb := zq_7 70 (by decide +kernel) rfl
theorem q_1610 : Cond.instanceMethod yX12_readsLine ∈ zTb := zq_7 72 (by decide +kernel) rfl
theorem q_1611 : Cond.code yX12_readsLine cX12_readsLine 3 (some .boolean) ∈ zTb := zq_7 73 (by decide +kernel) rfl
theorem q_1612 : Cond.methodLink RX12 340 yX12_laysLines ∈ zTb := zq_7 74 (by decide +kernel) rfl
theorem q_1614 : Cond.instanceMethod yX12_laysLines ∈ zTb := zq_7 76 (by decide +kernel) rfl
theorem q_1615 : Cond.code yX12_laysLines cX12_laysLines 4 none ∈ zTb := zq_7 77 (by decide +kernel) rfl
theorem q_1620 : Cond.methodLink RX12 344 yX12_isPerson ∈ zTb := zq_7 82 (by decide +kernel) rfl
theorem q_1622 : Cond.instanceMethod yX12_isPerson ∈ zTb := zq_7 84 (by decide +kernel) rfl
theorem q_1623 : Cond.code yX12_isPerson cX12_isPerson 2 (some .boolean) ∈ zTb := zq_7 85 (by decide +kernel) rfl
theorem q_1624 : Cond.methodLink RX12 353 yX12_countsAgainst ∈ zTb := zq_7 86 (by decide +kernel) rfl
theorem q_1626 : Cond.instanceMethod yX12_countsAgainst ∈ zTb := zq_7 88 (by decide +kernel) rfl
theorem q_1627 : Cond.code yX12_countsAgainst cX12_countsAgainst 4 (some .int) ∈ zTb := zq_7 89 (by decide +kernel) rfl
theorem q_1628 : Cond.methodLink RX12 350 yX12_isAlive ∈ zTb := zq_7 90 (by decide +kernel) rfl
theorem q_1630 : Cond.instanceMethod yX12_isAlive ∈ zTb := zq_7 92 (by decide +kernel) rfl
theorem q_1631 : Cond.code yX12_isAlive cX12_isAlive 2 (some .boolean) ∈ zTb := zq_7 93 (by decide +kernel) rfl
theorem q_1632 : Cond.methodLink RX12 406 yX12_castBy ∈ zTb := zq_7 94 (by decide +kernel) rfl
theorem q_1634 : Cond.instanceMethod yX12_castBy ∈ zTb := zq_7 96 (by decide +kernel) rfl
theorem q_1635 : Cond.code yX12_castBy cX12_castBy 4 (some .int) ∈ zTb := zq_7 97 (by decide +kernel) rfl
theorem q_1640 : Cond.methodLink RX12 347 yX12_areTwo ∈ zTb := zq_7 102 (by decide +kernel) rfl
theorem q_1642 : Cond.instanceMethod yX12_areTwo ∈ zTb := zq_7 104 (by decide +kernel) rfl
theorem q_1643 : Cond.code yX12_areTwo cX12_areTwo 3 (some .boolean) ∈ zTb := zq_7 105 (by decide +kernel) rfl
theorem q_1652 : Cond.methodLink RX12 379 yX12_governor ∈ zTb := zq_7 114 (by decide +kernel) rfl
theorem q_1654 : Cond.instanceMethod yX12_governor ∈ zTb := zq_7 116 (by decide +kernel) rfl
theorem q_1655 : Cond.code yX12_governor cX12_governor 3 (some .int) ∈ zTb := zq_7 117 (by decide +kernel) rfl
theorem q_1656 : Cond.methodLink RX12 359 yX12_isAhead ∈ zTb := zq_7 118 (by decide +kernel) rfl
theorem q_1658 : Cond.instanceMethod yX12_isAhead ∈ zTb := zq_7 120 (by decide +kernel) rfl
theorem q_1659 : Cond.code yX12_isAhead cX12_isAhead 5 (some .boolean) ∈ zTb := zq_7 121 (by decide +kernel) rfl
theorem q_1660 : Cond.methodLink RX12 356 yX12_isRather ∈ zTb := zq_7 122 (by decide +kernel) rfl
theorem q_1662 : Cond.instanceMethod yX12_isRather ∈ zTb := zq_7 124 (by decide +kernel) rfl
theorem q_1663 : Cond.code yX12_isRather cX12_isRather 3 (some .boolean) ∈ zTb := zq_7 125 (by decide +kernel) rfl
theorem q_1668 : Cond.methodLink RX12 382 yX12_canTax ∈ zTb := zq_7 130 (by decide +kernel) rfl
theorem q_1670 : Cond.instanceMethod yX12_canTax ∈ zTb := zq_7 132 (by decide +kernel) rfl
theorem q_1671 : Cond.code yX12_canTax cX12_canTax 2 (some .boolean) ∈ zTb := zq_7 133 (by decide +kernel) rfl
theorem q_1672 : Cond.methodLink RX12 413 yX12_keeps ∈ zTb := zq_7 134 (by decide +kernel) rfl
theorem q_1674 : Cond.instanceMethod yX12_keeps ∈ zTb := zq_7 136 (by decide +kernel) rfl
theorem q_1675 : Cond.code yX12_keeps cX12_keeps 2 none ∈ zTb := zq_7 137 (by decide +kernel) rfl
theorem q_1676 : Cond.methodLink RX12 409 yX12_copies ∈ zTb := zq_7 138 (by decide +kernel) rfl
theorem q_1677 : Cond.static yX12_copies ∈ zTb := zq_7 139 (by decide +kernel) rfl
theorem q_1678 : Cond.code yX12_copies cX12_copies 5 none ∈ zTb := zq_7 140 (by decide +kernel) rfl
theorem q_1679 : Cond.methodLink RX12 385 yX12_taxes ∈ zTb := zq_7 141 (by decide +kernel) rfl
theorem q_1681 : Cond.instanceMethod yX12_taxes ∈ zTb := zq_7 143 (by decide +kernel) rfl
theorem q_1682 : Cond.code yX12_taxes cX12_taxes 5 (some .int) ∈ zTb := zq_7 144 (by decide +kernel) rfl
theorem q_1683 : Cond.methodLink RX12 369 yX12_lawOf ∈ zTb := zq_7 145 (by decide +kernel) rfl
theorem q_1685 : Cond.instanceMethod yX12_lawOf ∈ zTb := zq_7 147 (by decide +kernel) rfl
theorem q_1686 : Cond.code yX12_lawOf cX12_lawOf 5 (some .int) ∈ zTb := zq_7 148 (by decide +kernel) rfl
theorem q_1687 : Cond.methodLink RX12 362 yX12_worked ∈ zTb := zq_7 149 (by decide +kernel) rfl
theorem q_1689 : Cond.instanceMethod yX12_worked ∈ zTb := zq_7 151 (by decide +kernel) rfl
theorem q_1690 : Cond.code yX12_worked cX12_worked 6 (some .int) ∈ zTb := zq_7 152 (by decide +kernel) rfl
theorem q_1691 : Cond.methodLink RX12 207 yX12_opens ∈ zTb := zq_7 153 (by decide +kernel) rfl
theorem q_1693 : Cond.instanceMethod yX12_opens ∈ zTb := zq_7 155 (by decide +kernel) rfl
theorem q_1694 : Cond.code yX12_opens cX12_opens 2 none ∈ zTb := zq_7 156 (by decide +kernel) rfl
theorem q_1695 : Cond.methodLink RX12 204 yX12_sums ∈ zTb := zq_7 157 (by decide +kernel) rfl
theorem q_1697 : Cond.instanceMethod yX12_sums ∈ zTb := zq_7 159 (by decide +kernel) rfl
theorem q_1698 : Cond.code yX12_sums cX12_sums 2 none ∈ zTb := zq_7 160 (by decide +kernel) rfl
theorem q_1699 : Cond.methodLink RX12 210 yX12_tests ∈ zTb := zq_7 161 (by decide +kernel) rfl
theorem q_1701 : Cond.instanceMethod yX12_tests ∈ zTb := zq_7 163 (by decide +kernel) rfl
theorem q_1702 : Cond.code yX12_tests cX12_tests 3 none ∈ zTb := zq_7 164 (by decide +kernel) rfl
theorem q_1703 : Cond.methodLink RX12 365 yX12_between ∈ zTb := zq_7 165 (by decide +kernel) rfl
theorem q_1704 : Cond.static yX12_between ∈ zTb := zq_7 166 (by decide +kernel) rfl
theorem q_1705 : Cond.code yX12_between cX12_between 3 (some .int) ∈ zTb := zq_7 167 (by decide +kernel) rfl
theorem q_1706 : Cond.methodLink RX12 373 Lib.Math.min.name ∈ zTb := zq_7 168 (by decide +kernel) rfl
theorem q_1711 : Cond.methodLink RX12 416 yX12_areAlive ∈ zTb := zq_7 173 (by decide +kernel) rfl
theorem q_1713 : Cond.instanceMethod yX12_areAlive ∈ zTb := zq_7 175 (by decide +kernel) rfl
theorem q_1714 : Cond.code yX12_areAlive cX12_areAlive 3 (some .boolean) ∈ zTb := zq_7 176 (by decide +kernel) rfl
theorem q_1715 : Cond.methodLink RX12 419 yX12_gives ∈ zTb := zq_7 177 (by decide +kernel) rfl
theorem q_1717 : Cond.instanceMethod yX12_gives ∈ zTb := zq_7 179 (by decide +kernel) rfl
theorem q_1718 : Cond.code yX12_gives cX12_gives 4 (some .int) ∈ zTb := zq_7 180 (by decide +kernel) rfl
theorem q_1719 : Cond.methodLink RX12 388 Lib.Math.max.name ∈ zTb := zq_7 181 (by decide +kernel) rfl
theorem q_1724 : Cond.methodLink RX12 403 yX12_casts ∈ zTb := zq_7 186 (by decide +kernel) rfl
theorem q_1726 : Cond.instanceMethod yX12_casts ∈ zTb := zq_7 188 (by decide +kernel) rfl
theorem q_1727 : Cond.code yX12_casts cX12_casts 3 none ∈ zTb := zq_7 189 (by decide +kernel) rfl
theorem q_1732 : Cond.methodLink RX12 422 yX12_dies ∈ zTb := zq_7 194 (by decide +kernel) rfl
theorem q_1734 : Cond.instanceMethod yX12_dies ∈ zTb := zq_7 196 (by decide +kernel) rfl
theorem q_1735 : Cond.code yX12_dies cX12_dies 4 (some .int) ∈ zTb := zq_7 197 (by decide +kernel) rfl
theorem q_1740 : Cond.methodLink RX12 425 yX12_passes ∈ zTb := zq_7 202 (by decide +kernel) rfl
theorem q_1742 : Cond.instanceMethod yX12_passes ∈ zTb := zq_7 204 (by decide +kernel) rfl
theorem q_1743 : Cond.code yX12_passes cX12_passes 5 (some .int) ∈ zTb := zq_7 205 (by decide +kernel) rfl
theorem q_1744 : Cond.methodLink RX12 400 yX12_nextOf ∈ zTb := zq_7 206 (by decide +kernel) rfl
theorem q_1746 : Cond.instanceMethod yX12_nextOf ∈ zTb := zq_7 208 (by decide +kernel) rfl
theorem q_1747 : Cond.code yX12_nextOf cX12_nextOf 4 (some .int) ∈ zTb := zq_7 209 (by decide +kernel) rfl
theorem q_1748 : Cond.methodLink RX12 391 yX12_mayCast ∈ zTb := zq_7 210 (by decide +kernel) rfl
theorem q_1750 : Cond.instanceMethod yX12_mayCast ∈ zTb := zq_7 212 (by decide +kernel) rfl
theorem q_1751 : Cond.code yX12_mayCast cX12_mayCast 2 (some .boolean) ∈ zTb := zq_7 213 (by decide +kernel) rfl
theorem q_1752 : Cond.methodLink RX12 394 yX12_hated ∈ zTb := zq_7 214 (by decide +kernel) rfl
theorem q_1754 : Cond.instanceMethod yX12_hated ∈ zTb := zq_7 216 (by decide +kernel) rfl
theorem q_1755 : Cond.code yX12_hated cX12_hated 4 (some .int) ∈ zTb := zq_7 217 (by decide +kernel) rfl
theorem q_1756 : Cond.methodLink RX12 397 yX12_barOf ∈ zTb := zq_7 218 (by decide +kernel) rfl
theorem q_1758 : Cond.instanceMethod yX12_barOf ∈ zTb := zq_7 220 (by decide +kernel) rfl
theorem q_1759 : Cond.code yX12_barOf cX12_barOf 3 (some .int) ∈ zTb := zq_7 221 (by decide +kernel) rfl
theorem q_1768 : Cond.methodLink RX12 428 yX12_goes ∈ zTb := zq_7 230 (by decide +kernel) rfl
theorem q_1770 : Cond.instanceMethod yX12_goes ∈ zTb := zq_7 232 (by decide +kernel) rfl
theorem q_1771 : Cond.code yX12_goes cX12_goes 5 (some .boolean) ∈ zTb := zq_7 233 (by decide +kernel) rfl
theorem q_1780 : Cond.methodLink RX12 431 yX12_allVotes ∈ zTb := zq_8 2 (by decide +kernel) rfl
theorem q_1782 : Cond.instanceMethod yX12_allVotes ∈ zTb := zq_8 4 (by decide +kernel) rfl
theorem q_1783 : Cond.code yX12_allVotes cX12_allVotes 3 (some .int) ∈ zTb := zq_8 5 (by decide +kernel) rfl
theorem q_1788 : Cond.methodLink RX12 434 yX12_isOther ∈ zTb := zq_8 10 (by decide +kernel) rfl
theorem q_1790 : Cond.instanceMethod yX12_isOther ∈ zTb := zq_8 12 (by decide +kernel) rfl
theorem q_1791 : Cond.code yX12_isOther cX12_isOther 2 (some .boolean) ∈ zTb := zq_8 13 (by decide +kernel) rfl
theorem q_1796 : Cond.methodLink RX12 437 yX12_taxesIfCan ∈ zTb := zq_8 18 (by decide +kernel) rfl
theorem q_1798 : Cond.instanceMethod yX12_taxesIfCan ∈ zTb := zq_8 20 (by decide +kernel) rfl
theorem q_1799 : Cond.code yX12_taxesIfCan cX12_taxesIfCan 2 none ∈ zTb := zq_8 21 (by decide +kernel) rfl
theorem q_1804 : Cond.methodLink RX12 440 yX12_quietsOf ∈ zTb := zq_8 26 (by decide +kernel) rfl
theorem q_1806 : Cond.instanceMethod yX12_quietsOf ∈ zTb := zq_8 28 (by decide +kernel) rfl
theorem q_1807 : Cond.code yX12_quietsOf cX12_quietsOf 4 (some .int) ∈ zTb := zq_8 29 (by decide +kernel) rfl
theorem q_1817 : Cond.instanceMethod yX12_bars ∈ zTb := zq_8 39 (by decide +kernel) rfl
theorem q_1818 : Cond.selects RX12 yX12_bars yX12_bars ∈ zTb := zq_8 40 (by decide +kernel) rfl
theorem q_1819 : Cond.code yX12_bars cX12_bars 6 (some .int) ∈ zTb := zq_8 41 (by decide +kernel) rfl
theorem q_1820 : Cond.methodLink RX12 443 yX12_isAsHeard ∈ zTb := zq_8 42 (by decide +kernel) rfl
theorem q_1822 : Cond.instanceMethod yX12_isAsHeard ∈ zTb := zq_8 44 (by decide +kernel) rfl
theorem q_1823 : Cond.code yX12_isAsHeard cX12_isAsHeard 3 (some .boolean) ∈ zTb := zq_8 45 (by decide +kernel) rfl
theorem q_1828 : Cond.methodLink RX12 446 yX12_bars ∈ zTb := zq_8 50 (by decide +kernel) rfl
theorem q_1833 : Cond.methodLink RX12 452 yX12_voters ∈ zTb := zq_8 55 (by decide +kernel) rfl
theorem q_1835 : Cond.instanceMethod yX12_voters ∈ zTb := zq_8 57 (by decide +kernel) rfl
theorem q_1836 : Cond.code yX12_voters cX12_voters 3 (some .int) ∈ zTb := zq_8 58 (by decide +kernel) rfl
theorem q_1837 : Cond.methodLink RX12 455 yX12_governsBy ∈ zTb := zq_8 59 (by decide +kernel) rfl
theorem q_1839 : Cond.instanceMethod yX12_governsBy ∈ zTb := zq_8 61 (by decide +kernel) rfl
theorem q_1840 : Cond.code yX12_governsBy cX12_governsBy 5 (some .boolean) ∈ zTb := zq_8 62 (by decide +kernel) rfl
theorem q_1841 : Cond.methodLink RX12 449 yX12_bits ∈ zTb := zq_8 63 (by decide +kernel) rfl
theorem q_1842 : Cond.static yX12_bits ∈ zTb := zq_8 64 (by decide +kernel) rfl
theorem q_1843 : Cond.code yX12_bits cX12_bits 3 (some .int) ∈ zTb := zq_8 65 (by decide +kernel) rfl
theorem q_1852 : Cond.methodLink RX12 458 yX12_getsBy ∈ zTb := zq_8 74 (by decide +kernel) rfl
theorem q_1853 : Cond.static yX12_getsBy ∈ zTb := zq_8 75 (by decide +kernel) rfl
theorem q_1854 : Cond.code yX12_getsBy cX12_getsBy 5 (some .int) ∈ zTb := zq_8 76 (by decide +kernel) rfl
theorem q_1863 : Cond.methodLink RX12 476 yX12_livesDay ∈ zTb := zq_8 85 (by decide +kernel) rfl
theorem q_1865 : Cond.instanceMethod yX12_livesDay ∈ zTb := zq_8 87 (by decide +kernel) rfl
theorem q_1866 : Cond.code yX12_livesDay cX12_livesDay 3 (some .int) ∈ zTb := zq_8 88 (by decide +kernel) rfl
theorem q_1867 : Cond.methodLink RX12 473 yX12_draws ∈ zTb := zq_8 89 (by decide +kernel) rfl
theorem q_1869 : Cond.instanceMethod yX12_draws ∈ zTb := zq_8 91 (by decide +kernel) rfl
theorem q_1870 : Cond.code yX12_draws cX12_draws 2 (some .int) ∈ zTb := zq_8 92 (by decide +kernel) rfl
theorem q_1871 : Cond.constantLong RX12 465 1103515245 ∈ zTb := zq_8 93 (by decide +kernel) rfl
theorem q_1872 : Cond.constantLong RX12 467 12345 ∈ zTb := zq_8 94 (by decide +kernel) rfl
theorem q_1873 : Cond.constantLong RX12 469 2147483648 ∈ zTb := zq_8 95 (by decide +kernel) rfl
theorem q_1874 : Cond.constantLong RX12 471 65536 ∈ zTb := zq_8 96 (by decide +kernel) rfl
theorem q_1879 : Cond.methodLink RX12 479 yX12_laysHeard ∈ zTb := zq_8 101 (by decide +kernel) rfl
theorem q_1881 : Cond.instanceMethod yX12_laysHeard ∈ zTb := zq_8 103 (by decide +kernel) rfl
theorem q_1882 : Cond.code yX12_laysHeard cX12_laysHeard 4 none ∈ zTb := zq_8 104 (by decide +kernel) rfl
theorem q_1887 : Cond.methodLink RX12 482 yX12_allGrudges ∈ zTb := zq_8 109 (by decide +kernel) rfl
theorem q_1889 : Cond.instanceMethod yX12_allGrudges ∈ zTb := zq_8 111 (by decide +kernel) rfl
theorem q_1890 : Cond.code yX12_allGrudges cX12_allGrudges 4 (some .int) ∈ zTb := zq_8 112 (by decide +kernel) rfl
theorem q_1891 : Cond.methodLink RX12 485 yX12_allCast ∈ zTb := zq_8 113 (by decide +kernel) rfl
theorem q_1893 : Cond.instanceMethod yX12_allCast ∈ zTb := zq_8 115 (by decide +kernel) rfl
theorem q_1894 : Cond.code yX12_allCast cX12_allCast 3 (some .int) ∈ zTb := zq_8 116 (by decide +kernel) rfl
theorem q_1896 : Cond.sameMethod "VoteAgainst$Reader" "VoteAgainst$Reader" "fail" "(I)Z" ∈ zTb := zq_8 118 (by decide +kernel) rfl
theorem q_1897 : Cond.selects RX6 yX4_fail yX4_fail ∈ zTb := zq_8 119 (by decide +kernel) rfl
theorem q_1898 : Cond.selects RX10 yX4_fail yX4_fail ∈ zTb := zq_8 120 (by decide +kernel) rfl
theorem q_1899 : Cond.sameMethod "VoteAgainst$Reader" "VoteAgainst$Reader" "findPerson" "()Z" ∈ zTb := zq_8 121 (by decide +kernel) rfl
theorem q_1900 : Cond.selects RX6 yX4_findPerson yX4_findPerson ∈ zTb := zq_8 122 (by decide +kernel) rfl
theorem q_1901 : Cond.selects RX10 yX4_findPerson yX4_findPerson ∈ zTb := zq_8 123 (by decide +kernel) rfl
theorem q_1902 : Cond.sameMethod "VoteAgainst$Reader" "VoteAgainst$Reader" "take" "(I)Z" ∈ zTb := zq_8 124 (by decide +kernel) rfl
theorem q_1903 : Cond.selects RX6 yX4_take yX4_take ∈ zTb := zq_8 125 (by decide +kernel) rfl
theorem q_1904 : Cond.selects RX10 yX4_take yX4_take ∈ zTb := zq_8 126 (by decide +kernel) rfl
theorem q_1921 : Cond.fieldLink RJ0 9 "java/lang/String" "value" "[B" ∈ zTb := zq_8 143 (by decide +kernel) rfl
theorem q_1922 : Cond.fieldLink RJ0 15 "java/lang/String" "coder" "B" ∈ zTb := zq_8 144 (by decide +kernel) rfl
theorem lay_0 : ∀ w ∈ u_ws RX0 TX0 7, w ∈ zTb := zlay [305, 307, 309, 311, 313, 315, 317] (by decide +kernel) (by decide +kernel)
theorem lay_1 : ∀ w ∈ u_ws RX1 TX1 12, w ∈ zTb := zlay [197, 199, 201, 203, 205, 207, 209, 211, 213, 215, 217, 219] (by decide +kernel) (by decide +kernel)
theorem lay_2 : ∀ w ∈ u_ws RX2 TX2 5, w ∈ zTb := zlay [431, 433, 435, 437, 439] (by decide +kernel) (by decide +kernel)
theorem lay_3 : ∀ w ∈ u_ws RX3 TX3 3, w ∈ zTb := zlay [456, 458, 460] (by decide +kernel) (by decide +kernel)
theorem lay_4 : ∀ w ∈ u_ws RX5 TX5 11, w ∈ zTb := zlay [260, 262, 264, 266, 268, 270, 272, 274, 276, 278, 280] (by decide +kernel) (by decide +kernel)
theorem lay_5 : ∀ w ∈ u_ws RX6 TX6 6, w ∈ zTb := zlay [341, 343, 345, 347, 337, 339] (by decide +kernel) (by decide +kernel)
theorem lay_6 : ∀ w ∈ u_ws RX7 TX7 6, w ∈ zTb := zlay [399, 401, 403, 405, 407, 409] (by decide +kernel) (by decide +kernel)
theorem lay_7 : ∀ w ∈ u_ws RX8 TX8 6, w ∈ zTb := zlay [154, 156, 158, 160, 162, 164] (by decide +kernel) (by decide +kernel)
theorem lay_8 : ∀ w ∈ u_ws RX9 TX9 2, w ∈ zTb := zlay [368, 370] (by decide +kernel) (by decide +kernel)
theorem lay_9 : ∀ w ∈ u_ws RX10 TX10 5, w ∈ zTb := zlay [377, 378, 379, 380, 375] (by decide +kernel) (by decide +kernel)
theorem lay_10 : ∀ w ∈ u_ws RX11 TX11 10, w ∈ zTb := zlay [473, 475, 477, 479, 481, 483, 485, 487, 489, 491] (by decide +kernel) (by decide +kernel)
theorem lay_11 : ∀ w ∈ u_ws RX12 TX12 52, w ∈ zTb := zlay [1347, 1349, 1351, 1353, 1355, 1357, 1359, 1361, 1363, 1365, 1367, 1369, 1371, 1373, 1375, 1377, 1379, 1381, 1383, 1385, 1387, 1389, 1391, 1393, 1395, 1397, 1399, 1401, 1403, 1405, 1407, 1409, 1411, 1413, 1415, 1417, 1419, 1421, 1423, 1425, 1427, 1429, 1431, 1433, 1435, 1437, 1439, 1441, 1443, 1445, 1447, 1449] (by decide +kernel) (by decide +kernel)
theorem ss_J0_checkIndex_df160 : zSf yJ0_checkIndex_df160 cJ0_checkIndex_df160 2 none 2 := ⟨q_577, q_113, q_578, ⟨by decide +kernel, by decide +kernel, by decide +kernel⟩⟩
theorem ss_J1_canEncode_9a6ad : zSf yJ1_canEncode_9a6ad cJ1_canEncode_9a6ad 1 (some .boolean) 1 := ⟨q_624, q_114, q_625, ⟨by decide +kernel, by decide +kernel, by decide +kernel⟩⟩
theorem ss_J1_charAt_3b067 : zSf yJ1_charAt_3b067 cJ1_charAt_3b067 2 (some .char) 2 := ⟨q_574, q_114, q_575, ⟨by decide +kernel, by decide +kernel, by decide +kernel⟩⟩
theorem ss_J1_indexOfChar_4cfef : zSf yJ1_indexOfChar_4cfef cJ1_indexOfChar_4cfef 6 (some .int) 4 := ⟨q_633, q_114, q_634, ⟨by decide +kernel, by decide +kernel, by decide +kernel⟩⟩
theorem ss_J1_indexOf_4cfef : zSf yJ1_indexOf_4cfef cJ1_indexOf_4cfef 4 (some .int) 4 := ⟨q_621, q_114, q_622, ⟨by decide +kernel, by decide +kernel, by decide +kernel⟩⟩
theorem ss_J3_checkIndex_8e157 : zSf yJ3_checkIndex_8e157 cJ3_checkIndex_8e157 3 (some .int) 3 := ⟨q_582, q_115, q_583, ⟨by decide +kernel, by decide +kernel, by decide +kernel⟩⟩
theorem ss_J6_bitCount_0f7a4 : zSf yJ6_bitCount_0f7a4 cJ6_bitCount_0f7a4 1 (some .int) 1 := ⟨q_1129, q_120, q_1130, ⟨by decide +kernel, by decide +kernel, by decide +kernel⟩⟩
theorem ss_J6_numberOfLeadingZeros_0f7a4 : zSf yJ6_numberOfLeadingZeros_0f7a4 cJ6_numberOfLeadingZeros_0f7a4 2 (some .int) 1 := ⟨q_1139, q_120, q_1140, ⟨by decide +kernel, by decide +kernel, by decide +kernel⟩⟩
theorem ss_J6_numberOfTrailingZeros_0f7a4 : zSf yJ6_numberOfTrailingZeros_0f7a4 cJ6_numberOfTrailingZeros_0f7a4 2 (some .int) 1 := ⟨q_1135, q_120, q_1136, ⟨by decide +kernel, by decide +kernel, by decide +kernel⟩⟩
theorem ss_J7_fill_53178 : zSf yJ7_fill_53178 cJ7_fill_53178 4 none 2 := ⟨q_523, q_112, q_524, ⟨by decide +kernel, by decide +kernel, by decide +kernel⟩⟩
theorem ss_X0_rank : zSf yX0_rank cX0_rank 1 (some .int) 1 := ⟨q_794, q_105, q_795, ⟨by decide +kernel, by decide +kernel, by decide +kernel⟩⟩
theorem ss_X11_barsUpTo : zSf yX11_barsUpTo cX11_barsUpTo 1 (some .int) 1 := ⟨q_1122, q_99, q_1123, ⟨by decide +kernel, by decide +kernel, by decide +kernel⟩⟩
theorem ss_X11_gain : zSf yX11_gain cX11_gain 5 (some .int) 5 := ⟨q_1283, q_99, q_1284, ⟨by decide +kernel, by decide +kernel, by decide +kernel⟩⟩
theorem ss_X11_isDigit : zSf yX11_isDigit cX11_isDigit 1 (some .boolean) 1 := ⟨q_1119, q_99, q_1120, ⟨by decide +kernel, by decide +kernel, by decide +kernel⟩⟩
theorem ss_X12_between : zSf yX12_between cX12_between 3 (some .int) 3 := ⟨q_1704, q_111, q_1705, ⟨by decide +kernel, by decide +kernel, by decide +kernel⟩⟩
theorem ss_X12_bits : zSf yX12_bits cX12_bits 3 (some .int) 1 := ⟨q_1842, q_111, q_1843, ⟨by decide +kernel, by decide +kernel, by decide +kernel⟩⟩
theorem ss_X12_copies : zSf yX12_copies cX12_copies 5 none 4 := ⟨q_1677, q_111, q_1678, ⟨by decide +kernel, by decide +kernel, by decide +kernel⟩⟩
theorem ss_X12_getsBy : zSf yX12_getsBy cX12_getsBy 5 (some .int) 5 := ⟨q_1853, q_111, q_1854, ⟨by decide +kernel, by decide +kernel, by decide +kernel⟩⟩
theorem ss_X12_shifts : zSf yX12_shifts cX12_shifts 3 none 2 := ⟨q_1602, q_111, q_1603, ⟨by decide +kernel, by decide +kernel, by decide +kernel⟩⟩
theorem ss_X12_within : zSf yX12_within cX12_within 3 (some .boolean) 3 := ⟨q_1539, q_111, q_1540, ⟨by decide +kernel, by decide +kernel, by decide +kernel⟩⟩
theorem ss_X1_joined : zSf yX1_joined cX1_joined 3 (some .int) 3 := ⟨q_974, q_102, q_975, ⟨by decide +kernel, by decide +kernel, by decide +kernel⟩⟩
theorem ss_X8_isBlank : zSf yX8_isBlank cX8_isBlank 1 (some .boolean) 1 := ⟨q_541, q_100, q_542, ⟨by decide +kernel, by decide +kernel, by decide +kernel⟩⟩
theorem ss_X8_isLetter : zSf yX8_isLetter cX8_isLetter 1 (some .boolean) 1 := ⟨q_544, q_100, q_545, ⟨by decide +kernel, by decide +kernel, by decide +kernel⟩⟩
theorem ss_X8_isNumeral : zSf yX8_isNumeral cX8_isNumeral 1 (some .boolean) 1 := ⟨q_604, q_100, q_605, ⟨by decide +kernel, by decide +kernel, by decide +kernel⟩⟩
theorem st_J0_charAt_5068e : zTf yJ0_charAt_5068e cJ0_charAt_5068e 2 (some .char) 1 := ⟨rfl, q_566, q_567, q_113, q_568, ⟨by decide +kernel, by decide +kernel, by decide +kernel⟩⟩
theorem st_J0_coder_7d493 : zTf yJ0_coder_7d493 cJ0_coder_7d493 1 (some .byte) 0 := ⟨rfl, q_560, q_561, q_113, q_562, ⟨by decide +kernel, by decide +kernel, by decide +kernel⟩⟩
theorem st_J0_indexOf_0f7a4 : zTf yJ0_indexOf_0f7a4 cJ0_indexOf_0f7a4 2 (some .int) 1 := ⟨rfl, q_612, q_613, q_113, q_614, ⟨by decide +kernel, by decide +kernel, by decide +kernel⟩⟩
theorem st_J0_indexOf_7cf53 : zTf yJ0_indexOf_7cf53 cJ0_indexOf_7cf53 3 (some .int) 2 := ⟨rfl, q_616, q_617, q_113, q_618, ⟨by decide +kernel, by decide +kernel, by decide +kernel⟩⟩
theorem st_J0_isLatin1_aae02 : zTf yJ0_isLatin1_aae02 cJ0_isLatin1_aae02 1 (some .boolean) 0 := ⟨rfl, q_570, q_571, q_113, q_572, ⟨by decide +kernel, by decide +kernel, by decide +kernel⟩⟩
theorem st_J0_length_8abf5 : zTf yJ0_length_8abf5 cJ0_length_8abf5 1 (some .int) 0 := ⟨rfl, q_556, q_557, q_113, q_558, ⟨by decide +kernel, by decide +kernel, by decide +kernel⟩⟩
theorem su_X10_begin_X4 : zUf ⟨"VoteAgainst$Reader", "begin", "()V"⟩ yX10_begin "VoteAgainst$Reader" cX10_begin 1 none 9 0 := ⟨RX10, TX10, 5, by decide, rfl, q_514, q_529, q_530, q_106, q_531, Or.inr (by decide +kernel), ⟨by decide +kernel, by decide +kernel, by decide +kernel⟩⟩
theorem su_X10_readLine_X4 : zUf ⟨"VoteAgainst$Reader", "readLine", "()Z"⟩ yX10_readLine "VoteAgainst$Reader" cX10_readLine 4 (some .boolean) 9 0 := ⟨RX10, TX10, 5, by decide, rfl, q_672, q_813, q_814, q_106, q_815, Or.inr (by decide +kernel), ⟨by decide +kernel, by decide +kernel, by decide +kernel⟩⟩
theorem su_X4_fail_c5_X4 : zUf yX4_fail yX4_fail "VoteAgainst$Reader" cX4_fail 2 (some .boolean) 5 1 := ⟨RX6, TX6, 6, by decide, rfl, q_1896, q_1897, q_684, q_103, q_685, Or.inl rfl, ⟨by decide +kernel, by decide +kernel, by decide +kernel⟩⟩
theorem su_X4_fail_c5_X6 : zUf ⟨"VoteAgainst$RepublicReader", "fail", "(I)Z"⟩ yX4_fail "VoteAgainst$Reader" cX4_fail 2 (some .boolean) 5 1 := ⟨RX6, TX6, 6, by decide, rfl, q_681, q_683, q_684, q_103, q_685, Or.inl rfl, ⟨by decide +kernel, by decide +kernel, by decide +kernel⟩⟩
theorem su_X4_fail_c9_X10 : zUf ⟨"VoteAgainst$YearsReader", "fail", "(I)Z"⟩ yX4_fail "VoteAgainst$Reader" cX4_fail 2 (some .boolean) 9 1 := ⟨RX10, TX10, 5, by decide, rfl, q_817, q_818, q_684, q_103, q_685, Or.inl rfl, ⟨by decide +kernel, by decide +kernel, by decide +kernel⟩⟩
theorem su_X4_fail_c9_X4 : zUf yX4_fail yX4_fail "VoteAgainst$Reader" cX4_fail 2 (some .boolean) 9 1 := ⟨RX10, TX10, 5, by decide, rfl, q_1896, q_1898, q_684, q_103, q_685, Or.inl rfl, ⟨by decide +kernel, by decide +kernel, by decide +kernel⟩⟩
theorem su_X4_findOther_c5_X6 : zUf ⟨"VoteAgainst$RepublicReader", "findOther", "(I)Z"⟩ yX4_findOther "VoteAgainst$Reader" cX4_findOther 2 (some .boolean) 5 1 := ⟨RX6, TX6, 6, by decide, rfl, q_732, q_734, q_735, q_103, q_736, Or.inl rfl, ⟨by decide +kernel, by decide +kernel, by decide +kernel⟩⟩
theorem su_X4_findOther_c9_X10 : zUf ⟨"VoteAgainst$YearsReader", "findOther", "(I)Z"⟩ yX4_findOther "VoteAgainst$Reader" cX4_findOther 2 (some .boolean) 9 1 := ⟨RX10, TX10, 5, by decide, rfl, q_824, q_825, q_735, q_103, q_736, Or.inl rfl, ⟨by decide +kernel, by decide +kernel, by decide +kernel⟩⟩
theorem su_X4_findPerson_c5_X4 : zUf yX4_findPerson yX4_findPerson "VoteAgainst$Reader" cX4_findPerson 1 (some .boolean) 5 0 := ⟨RX6, TX6, 6, by decide, rfl, q_1899, q_1900, q_726, q_103, q_727, Or.inl rfl, ⟨by decide +kernel, by decide +kernel, by decide +kernel⟩⟩
theorem su_X4_findPerson_c5_X6 : zUf ⟨"VoteAgainst$RepublicReader", "findPerson", "()Z"⟩ yX4_findPerson "VoteAgainst$Reader" cX4_findPerson 1 (some .boolean) 5 0 := ⟨RX6, TX6, 6, by decide, rfl, q_723, q_725, q_726, q_103, q_727, Or.inl rfl, ⟨by decide +kernel, by decide +kernel, by decide +kernel⟩⟩
theorem su_X4_findPerson_c9_X10 : zUf ⟨"VoteAgainst$YearsReader", "findPerson", "()Z"⟩ yX4_findPerson "VoteAgainst$Reader" cX4_findPerson 1 (some .boolean) 9 0 := ⟨RX10, TX10, 5, by decide, rfl, q_821, q_822, q_726, q_103, q_727, Or.inl rfl, ⟨by decide +kernel, by decide +kernel, by decide +kernel⟩⟩
theorem su_X4_findPerson_c9_X4 : zUf yX4_findPerson yX4_findPerson "VoteAgainst$Reader" cX4_findPerson 1 (some .boolean) 9 0 := ⟨RX10, TX10, 5, by decide, rfl, q_1899, q_1901, q_726, q_103, q_727, Or.inl rfl, ⟨by decide +kernel, by decide +kernel, by decide +kernel⟩⟩
theorem su_X4_readTape_c5_X6 : zUf ⟨"VoteAgainst$RepublicReader", "readTape", "()I"⟩ yX4_readTape "VoteAgainst$Reader" cX4_readTape 3 (some .int) 5 0 := ⟨RX6, TX6, 6, by decide, rfl, q_507, q_509, q_510, q_103, q_511, Or.inl rfl, ⟨by decide +kernel, by decide +kernel, by decide +kernel⟩⟩
theorem su_X4_readTape_c9_X10 : zUf ⟨"VoteAgainst$YearsReader", "readTape", "()I"⟩ yX4_readTape "VoteAgainst$Reader" cX4_readTape 3 (some .int) 9 0 := ⟨RX10, TX10, 5, by decide, rfl, q_864, q_865, q_510, q_103, q_511, Or.inl rfl, ⟨by decide +kernel, by decide +kernel, by decide +kernel⟩⟩
theorem su_X4_takeEither_c5_X6 : zUf ⟨"VoteAgainst$RepublicReader", "takeEither", "(II)Z"⟩ yX4_takeEither "VoteAgainst$Reader" cX4_takeEither 3 (some .boolean) 5 2 := ⟨RX6, TX6, 6, by decide, rfl, q_755, q_757, q_758, q_103, q_759, Or.inl rfl, ⟨by decide +kernel, by decide +kernel, by decide +kernel⟩⟩
theorem su_X4_takeNumber_c5_X6 : zUf ⟨"VoteAgainst$RepublicReader", "takeNumber", "(II)Z"⟩ yX4_takeNumber "VoteAgainst$Reader" cX4_takeNumber 3 (some .boolean) 5 2 := ⟨RX6, TX6, 6, by decide, rfl, q_709, q_711, q_712, q_103, q_713, Or.inl rfl, ⟨by decide +kernel, by decide +kernel, by decide +kernel⟩⟩
theorem su_X4_take_c5_X4 : zUf yX4_take yX4_take "VoteAgainst$Reader" cX4_take 2 (some .boolean) 5 1 := ⟨RX6, TX6, 6, by decide, rfl, q_1902, q_1903, q_704, q_103, q_705, Or.inl rfl, ⟨by decide +kernel, by decide +kernel, by decide +kernel⟩⟩
theorem su_X4_take_c5_X6 : zUf ⟨"VoteAgainst$RepublicReader", "take", "(I)Z"⟩ yX4_take "VoteAgainst$Reader" cX4_take 2 (some .boolean) 5 1 := ⟨RX6, TX6, 6, by decide, rfl, q_701, q_703, q_704, q_103, q_705, Or.inl rfl, ⟨by decide +kernel, by decide +kernel, by decide +kernel⟩⟩
theorem su_X4_take_c9_X4 : zUf yX4_take yX4_take "VoteAgainst$Reader" cX4_take 2 (some .boolean) 9 1 := ⟨RX10, TX10, 5, by decide, rfl, q_1902, q_1904, q_704, q_103, q_705, Or.inl rfl, ⟨by decide +kernel, by decide +kernel, by decide +kernel⟩⟩
theorem su_X6_begin_X4 : zUf ⟨"VoteAgainst$Reader", "begin", "()V"⟩ yX6_begin "VoteAgainst$Reader" cX6_begin 1 none 5 0 := ⟨RX6, TX6, 6, by decide, rfl, q_514, q_515, q_516, q_104, q_517, Or.inr (by decide +kernel), ⟨by decide +kernel, by decide +kernel, by decide +kernel⟩⟩
theorem su_X6_readLine_X4 : zUf ⟨"VoteAgainst$Reader", "readLine", "()Z"⟩ yX6_readLine "VoteAgainst$Reader" cX6_readLine 1 (some .boolean) 5 0 := ⟨RX6, TX6, 6, by decide, rfl, q_672, q_673, q_674, q_104, q_675, Or.inr (by decide +kernel), ⟨by decide +kernel, by decide +kernel, by decide +kernel⟩⟩
theorem sv_X0_close : zVf yX0_close cX0_close 1 none 0 0 := ⟨TX0, 7, by decide, rfl, q_806, q_16, q_105, q_807, ⟨by decide +kernel, by decide +kernel, by decide +kernel⟩⟩
theorem sv_X0_endPart : zVf yX0_endPart cX0_endPart 1 none 0 0 := ⟨TX0, 7, by decide, rfl, q_791, q_13, q_105, q_792, ⟨by decide +kernel, by decide +kernel, by decide +kernel⟩⟩
theorem sv_X0_letWait : zVf yX0_letWait cX0_letWait 2 none 0 1 := ⟨TX0, 7, by decide, rfl, q_778, q_12, q_105, q_779, ⟨by decide +kernel, by decide +kernel, by decide +kernel⟩⟩
theorem sv_X0_readLaw : zVf yX0_readLaw cX0_readLaw 3 (some .int) 0 0 := ⟨TX0, 7, by decide, rfl, q_769, q_770, q_105, q_771, ⟨by decide +kernel, by decide +kernel, by decide +kernel⟩⟩
theorem sv_X0_release : zVf yX0_release cX0_release 2 none 0 1 := ⟨TX0, 7, by decide, rfl, q_802, q_15, q_105, q_803, ⟨by decide +kernel, by decide +kernel, by decide +kernel⟩⟩
theorem sv_X0_takeOperator : zVf yX0_takeOperator cX0_takeOperator 2 (some .int) 0 0 := ⟨TX0, 7, by decide, rfl, q_798, q_14, q_105, q_799, ⟨by decide +kernel, by decide +kernel, by decide +kernel⟩⟩
theorem sv_X0_takePart : zVf yX0_takePart cX0_takePart 3 (some .int) 0 0 := ⟨TX0, 7, by decide, rfl, q_774, q_11, q_105, q_775, ⟨by decide +kernel, by decide +kernel, by decide +kernel⟩⟩
theorem sv_X11_drawBelow : zVf yX11_drawBelow cX11_drawBelow 2 (some .int) 10 1 := ⟨TX11, 10, by decide, rfl, q_1180, q_30, q_99, q_1181, ⟨by decide +kernel, by decide +kernel, by decide +kernel⟩⟩
theorem sv_X11_governsBy : zVf yX11_governsBy cX11_governsBy 5 (some .boolean) 10 3 := ⟨TX11, 10, by decide, rfl, q_1156, q_28, q_99, q_1157, ⟨by decide +kernel, by decide +kernel, by decide +kernel⟩⟩
theorem sv_X11_passDrawnDay : zVf yX11_passDrawnDay cX11_passDrawnDay 3 (some .int) 10 0 := ⟨TX11, 10, by decide, rfl, q_1176, q_29, q_99, q_1177, ⟨by decide +kernel, by decide +kernel, by decide +kernel⟩⟩
theorem sv_X12_allCast : zVf yX12_allCast cX12_allCast 3 (some .int) 11 0 := ⟨TX12, 52, by decide, rfl, q_1893, q_97, q_111, q_1894, ⟨by decide +kernel, by decide +kernel, by decide +kernel⟩⟩
theorem sv_X12_allGrudges : zVf yX12_allGrudges cX12_allGrudges 4 (some .int) 11 0 := ⟨TX12, 52, by decide, rfl, q_1889, q_96, q_111, q_1890, ⟨by decide +kernel, by decide +kernel, by decide +kernel⟩⟩
theorem sv_X12_allVotes : zVf yX12_allVotes cX12_allVotes 3 (some .int) 11 0 := ⟨TX12, 52, by decide, rfl, q_1782, q_86, q_111, q_1783, ⟨by decide +kernel, by decide +kernel, by decide +kernel⟩⟩
theorem sv_X12_areAlive : zVf yX12_areAlive cX12_areAlive 3 (some .boolean) 11 2 := ⟨TX12, 52, by decide, rfl, q_1713, q_76, q_111, q_1714, ⟨by decide +kernel, by decide +kernel, by decide +kernel⟩⟩
theorem sv_X12_areTwo : zVf yX12_areTwo cX12_areTwo 3 (some .boolean) 11 2 := ⟨TX12, 52, by decide, rfl, q_1642, q_64, q_111, q_1643, ⟨by decide +kernel, by decide +kernel, by decide +kernel⟩⟩
theorem sv_X12_barOf : zVf yX12_barOf cX12_barOf 3 (some .int) 11 2 := ⟨TX12, 52, by decide, rfl, q_1758, q_84, q_111, q_1759, ⟨by decide +kernel, by decide +kernel, by decide +kernel⟩⟩
theorem sv_X12_bars : zVf yX12_bars cX12_bars 6 (some .int) 11 1 := ⟨TX12, 52, by decide, rfl, q_1817, q_1818, q_111, q_1819, ⟨by decide +kernel, by decide +kernel, by decide +kernel⟩⟩
theorem sv_X12_begins : zVf yX12_begins cX12_begins 1 none 11 0 := ⟨TX12, 52, by decide, rfl, q_1472, q_34, q_111, q_1473, ⟨by decide +kernel, by decide +kernel, by decide +kernel⟩⟩
theorem sv_X12_canTax : zVf yX12_canTax cX12_canTax 2 (some .boolean) 11 1 := ⟨TX12, 52, by decide, rfl, q_1670, q_68, q_111, q_1671, ⟨by decide +kernel, by decide +kernel, by decide +kernel⟩⟩
theorem sv_X12_castBy : zVf yX12_castBy cX12_castBy 4 (some .int) 11 1 := ⟨TX12, 52, by decide, rfl, q_1634, q_63, q_111, q_1635, ⟨by decide +kernel, by decide +kernel, by decide +kernel⟩⟩
theorem sv_X12_casts : zVf yX12_casts cX12_casts 3 none 11 2 := ⟨TX12, 52, by decide, rfl, q_1726, q_78, q_111, q_1727, ⟨by decide +kernel, by decide +kernel, by decide +kernel⟩⟩
theorem sv_X12_closes : zVf yX12_closes cX12_closes 1 (some .boolean) 11 0 := ⟨TX12, 52, by decide, rfl, q_1543, q_44, q_111, q_1544, ⟨by decide +kernel, by decide +kernel, by decide +kernel⟩⟩
theorem sv_X12_countsAgainst : zVf yX12_countsAgainst cX12_countsAgainst 4 (some .int) 11 1 := ⟨TX12, 52, by decide, rfl, q_1626, q_61, q_111, q_1627, ⟨by decide +kernel, by decide +kernel, by decide +kernel⟩⟩
theorem sv_X12_dies : zVf yX12_dies cX12_dies 4 (some .int) 11 1 := ⟨TX12, 52, by decide, rfl, q_1734, q_79, q_111, q_1735, ⟨by decide +kernel, by decide +kernel, by decide +kernel⟩⟩
theorem sv_X12_draws : zVf yX12_draws cX12_draws 2 (some .int) 11 1 := ⟨TX12, 52, by decide, rfl, q_1869, q_94, q_111, q_1870, ⟨by decide +kernel, by decide +kernel, by decide +kernel⟩⟩
theorem sv_X12_fact : zVf yX12_fact cX12_fact 1 (some .int) 11 0 := ⟨TX12, 52, by decide, rfl, q_1587, q_55, q_111, q_1588, ⟨by decide +kernel, by decide +kernel, by decide +kernel⟩⟩
theorem sv_X12_fails : zVf yX12_fails cX12_fails 2 (some .boolean) 11 1 := ⟨TX12, 52, by decide, rfl, q_1495, q_39, q_111, q_1496, ⟨by decide +kernel, by decide +kernel, by decide +kernel⟩⟩
theorem sv_X12_fresh : zVf yX12_fresh cX12_fresh 2 none 11 0 := ⟨TX12, 52, by decide, rfl, q_1293, q_32, q_111, q_1294, ⟨by decide +kernel, by decide +kernel, by decide +kernel⟩⟩
theorem sv_X12_gives : zVf yX12_gives cX12_gives 4 (some .int) 11 2 := ⟨TX12, 52, by decide, rfl, q_1717, q_77, q_111, q_1718, ⟨by decide +kernel, by decide +kernel, by decide +kernel⟩⟩
theorem sv_X12_goes : zVf yX12_goes cX12_goes 5 (some .boolean) 11 1 := ⟨TX12, 52, by decide, rfl, q_1770, q_85, q_111, q_1771, ⟨by decide +kernel, by decide +kernel, by decide +kernel⟩⟩
theorem sv_X12_governor : zVf yX12_governor cX12_governor 3 (some .int) 11 0 := ⟨TX12, 52, by decide, rfl, q_1654, q_65, q_111, q_1655, ⟨by decide +kernel, by decide +kernel, by decide +kernel⟩⟩
theorem sv_X12_governsBy : zVf yX12_governsBy cX12_governsBy 5 (some .boolean) 11 3 := ⟨TX12, 52, by decide, rfl, q_1839, q_92, q_111, q_1840, ⟨by decide +kernel, by decide +kernel, by decide +kernel⟩⟩
theorem sv_X12_hated : zVf yX12_hated cX12_hated 4 (some .int) 11 1 := ⟨TX12, 52, by decide, rfl, q_1754, q_83, q_111, q_1755, ⟨by decide +kernel, by decide +kernel, by decide +kernel⟩⟩
theorem sv_X12_isAhead : zVf yX12_isAhead cX12_isAhead 5 (some .boolean) 11 2 := ⟨TX12, 52, by decide, rfl, q_1658, q_66, q_111, q_1659, ⟨by decide +kernel, by decide +kernel, by decide +kernel⟩⟩
theorem sv_X12_isAlive : zVf yX12_isAlive cX12_isAlive 2 (some .boolean) 11 1 := ⟨TX12, 52, by decide, rfl, q_1630, q_62, q_111, q_1631, ⟨by decide +kernel, by decide +kernel, by decide +kernel⟩⟩
theorem sv_X12_isAsHeard : zVf yX12_isAsHeard cX12_isAsHeard 3 (some .boolean) 11 1 := ⟨TX12, 52, by decide, rfl, q_1822, q_90, q_111, q_1823, ⟨by decide +kernel, by decide +kernel, by decide +kernel⟩⟩
theorem sv_X12_isKept : zVf yX12_isKept cX12_isKept 1 (some .boolean) 11 0 := ⟨TX12, 52, by decide, rfl, q_1499, q_40, q_111, q_1500, ⟨by decide +kernel, by decide +kernel, by decide +kernel⟩⟩
theorem sv_X12_isOther : zVf yX12_isOther cX12_isOther 2 (some .boolean) 11 1 := ⟨TX12, 52, by decide, rfl, q_1790, q_87, q_111, q_1791, ⟨by decide +kernel, by decide +kernel, by decide +kernel⟩⟩
theorem sv_X12_isPerson : zVf yX12_isPerson cX12_isPerson 2 (some .boolean) 11 1 := ⟨TX12, 52, by decide, rfl, q_1622, q_60, q_111, q_1623, ⟨by decide +kernel, by decide +kernel, by decide +kernel⟩⟩
theorem sv_X12_isRather : zVf yX12_isRather cX12_isRather 3 (some .boolean) 11 2 := ⟨TX12, 52, by decide, rfl, q_1662, q_67, q_111, q_1663, ⟨by decide +kernel, by decide +kernel, by decide +kernel⟩⟩
theorem sv_X12_isSign : zVf yX12_isSign cX12_isSign 2 (some .boolean) 11 1 := ⟨TX12, 52, by decide, rfl, q_1547, q_45, q_111, q_1548, ⟨by decide +kernel, by decide +kernel, by decide +kernel⟩⟩
theorem sv_X12_isTwice : zVf yX12_isTwice cX12_isTwice 2 (some .boolean) 11 1 := ⟨TX12, 52, by decide, rfl, q_1571, q_51, q_111, q_1572, ⟨by decide +kernel, by decide +kernel, by decide +kernel⟩⟩
theorem sv_X12_isWord : zVf yX12_isWord cX12_isWord 3 (some .boolean) 11 1 := ⟨TX12, 52, by decide, rfl, q_1487, q_37, q_111, q_1488, ⟨by decide +kernel, by decide +kernel, by decide +kernel⟩⟩
theorem sv_X12_keeps : zVf yX12_keeps cX12_keeps 2 none 11 0 := ⟨TX12, 52, by decide, rfl, q_1674, q_69, q_111, q_1675, ⟨by decide +kernel, by decide +kernel, by decide +kernel⟩⟩
theorem sv_X12_lawOf : zVf yX12_lawOf cX12_lawOf 5 (some .int) 11 4 := ⟨TX12, 52, by decide, rfl, q_1685, q_71, q_111, q_1686, ⟨by decide +kernel, by decide +kernel, by decide +kernel⟩⟩
theorem sv_X12_lays : zVf yX12_lays cX12_lays 2 none 11 0 := ⟨TX12, 52, by decide, rfl, q_1599, q_57, q_111, q_1600, ⟨by decide +kernel, by decide +kernel, by decide +kernel⟩⟩
theorem sv_X12_laysHeard : zVf yX12_laysHeard cX12_laysHeard 4 none 11 2 := ⟨TX12, 52, by decide, rfl, q_1881, q_95, q_111, q_1882, ⟨by decide +kernel, by decide +kernel, by decide +kernel⟩⟩
theorem sv_X12_laysLines : zVf yX12_laysLines cX12_laysLines 4 none 11 2 := ⟨TX12, 52, by decide, rfl, q_1614, q_59, q_111, q_1615, ⟨by decide +kernel, by decide +kernel, by decide +kernel⟩⟩
theorem sv_X12_livesDay : zVf yX12_livesDay cX12_livesDay 3 (some .int) 11 0 := ⟨TX12, 52, by decide, rfl, q_1865, q_93, q_111, q_1866, ⟨by decide +kernel, by decide +kernel, by decide +kernel⟩⟩
theorem sv_X12_mayCast : zVf yX12_mayCast cX12_mayCast 2 (some .boolean) 11 1 := ⟨TX12, 52, by decide, rfl, q_1750, q_82, q_111, q_1751, ⟨by decide +kernel, by decide +kernel, by decide +kernel⟩⟩
theorem sv_X12_named : zVf yX12_named cX12_named 3 (some .int) 11 1 := ⟨TX12, 52, by decide, rfl, q_1528, q_41, q_111, q_1529, ⟨by decide +kernel, by decide +kernel, by decide +kernel⟩⟩
theorem sv_X12_needsBoth : zVf yX12_needsBoth cX12_needsBoth 5 (some .boolean) 11 3 := ⟨TX12, 52, by decide, rfl, q_1532, q_42, q_111, q_1533, ⟨by decide +kernel, by decide +kernel, by decide +kernel⟩⟩
theorem sv_X12_needsNumber : zVf yX12_needsNumber cX12_needsNumber 3 (some .boolean) 11 2 := ⟨TX12, 52, by decide, rfl, q_1536, q_43, q_111, q_1537, ⟨by decide +kernel, by decide +kernel, by decide +kernel⟩⟩
theorem sv_X12_needsPerson : zVf yX12_needsPerson cX12_needsPerson 2 (some .boolean) 11 1 := ⟨TX12, 52, by decide, rfl, q_1559, q_48, q_111, q_1560, ⟨by decide +kernel, by decide +kernel, by decide +kernel⟩⟩
theorem sv_X12_needsTwo : zVf yX12_needsTwo cX12_needsTwo 2 (some .boolean) 11 1 := ⟨TX12, 52, by decide, rfl, q_1555, q_47, q_111, q_1556, ⟨by decide +kernel, by decide +kernel, by decide +kernel⟩⟩
theorem sv_X12_nextOf : zVf yX12_nextOf cX12_nextOf 4 (some .int) 11 2 := ⟨TX12, 52, by decide, rfl, q_1746, q_81, q_111, q_1747, ⟨by decide +kernel, by decide +kernel, by decide +kernel⟩⟩
theorem sv_X12_nextToken : zVf yX12_nextToken cX12_nextToken 2 none 11 0 := ⟨TX12, 52, by decide, rfl, q_1476, q_35, q_111, q_1477, ⟨by decide +kernel, by decide +kernel, by decide +kernel⟩⟩
theorem sv_X12_opens : zVf yX12_opens cX12_opens 2 none 11 1 := ⟨TX12, 52, by decide, rfl, q_1693, q_73, q_111, q_1694, ⟨by decide +kernel, by decide +kernel, by decide +kernel⟩⟩
theorem sv_X12_passes : zVf yX12_passes cX12_passes 5 (some .int) 11 1 := ⟨TX12, 52, by decide, rfl, q_1742, q_80, q_111, q_1743, ⟨by decide +kernel, by decide +kernel, by decide +kernel⟩⟩
theorem sv_X12_puts : zVf yX12_puts cX12_puts 2 none 11 1 := ⟨TX12, 52, by decide, rfl, q_1595, q_56, q_111, q_1596, ⟨by decide +kernel, by decide +kernel, by decide +kernel⟩⟩
theorem sv_X12_quietsOf : zVf yX12_quietsOf cX12_quietsOf 4 (some .int) 11 2 := ⟨TX12, 52, by decide, rfl, q_1806, q_89, q_111, q_1807, ⟨by decide +kernel, by decide +kernel, by decide +kernel⟩⟩
theorem sv_X12_reads : zVf yX12_reads cX12_reads 6 (some .boolean) 11 0 := ⟨TX12, 52, by decide, rfl, q_1583, q_54, q_111, q_1584, ⟨by decide +kernel, by decide +kernel, by decide +kernel⟩⟩
theorem sv_X12_readsAll : zVf yX12_readsAll cX12_readsAll 2 (some .boolean) 11 0 := ⟨TX12, 52, by decide, rfl, q_1468, q_33, q_111, q_1469, ⟨by decide +kernel, by decide +kernel, by decide +kernel⟩⟩
theorem sv_X12_readsBar : zVf yX12_readsBar cX12_readsBar 1 (some .boolean) 11 0 := ⟨TX12, 52, by decide, rfl, q_1567, q_50, q_111, q_1568, ⟨by decide +kernel, by decide +kernel, by decide +kernel⟩⟩
theorem sv_X12_readsGrudge : zVf yX12_readsGrudge cX12_readsGrudge 2 (some .boolean) 11 0 := ⟨TX12, 52, by decide, rfl, q_1551, q_46, q_111, q_1552, ⟨by decide +kernel, by decide +kernel, by decide +kernel⟩⟩
theorem sv_X12_readsHeir : zVf yX12_readsHeir cX12_readsHeir 1 (some .boolean) 11 0 := ⟨TX12, 52, by decide, rfl, q_1563, q_49, q_111, q_1564, ⟨by decide +kernel, by decide +kernel, by decide +kernel⟩⟩
theorem sv_X12_readsLaw : zVf yX12_readsLaw cX12_readsLaw 2 (some .boolean) 11 1 := ⟨TX12, 52, by decide, rfl, q_1579, q_53, q_111, q_1580, ⟨by decide +kernel, by decide +kernel, by decide +kernel⟩⟩
theorem sv_X12_readsLine : zVf yX12_readsLine cX12_readsLine 3 (some .boolean) 11 0 := ⟨TX12, 52, by decide, rfl, q_1610, q_58, q_111, q_1611, ⟨by decide +kernel, by decide +kernel, by decide +kernel⟩⟩
theorem sv_X12_readsPerson : zVf yX12_readsPerson cX12_readsPerson 4 (some .boolean) 11 0 := ⟨TX12, 52, by decide, rfl, q_1491, q_38, q_111, q_1492, ⟨by decide +kernel, by decide +kernel, by decide +kernel⟩⟩
theorem sv_X12_readsWhich : zVf yX12_readsWhich cX12_readsWhich 6 (some .boolean) 11 3 := ⟨TX12, 52, by decide, rfl, q_1575, q_52, q_111, q_1576, ⟨by decide +kernel, by decide +kernel, by decide +kernel⟩⟩
theorem sv_X12_signAt : zVf yX12_signAt cX12_signAt 2 (some .int) 11 1 := ⟨TX12, 52, by decide, rfl, q_1480, q_36, q_111, q_1481, ⟨by decide +kernel, by decide +kernel, by decide +kernel⟩⟩
theorem sv_X12_sums : zVf yX12_sums cX12_sums 2 none 11 1 := ⟨TX12, 52, by decide, rfl, q_1697, q_74, q_111, q_1698, ⟨by decide +kernel, by decide +kernel, by decide +kernel⟩⟩
theorem sv_X12_taxes : zVf yX12_taxes cX12_taxes 5 (some .int) 11 1 := ⟨TX12, 52, by decide, rfl, q_1681, q_70, q_111, q_1682, ⟨by decide +kernel, by decide +kernel, by decide +kernel⟩⟩
theorem sv_X12_taxesIfCan : zVf yX12_taxesIfCan cX12_taxesIfCan 2 none 11 0 := ⟨TX12, 52, by decide, rfl, q_1798, q_88, q_111, q_1799, ⟨by decide +kernel, by decide +kernel, by decide +kernel⟩⟩
theorem sv_X12_tests : zVf yX12_tests cX12_tests 3 none 11 1 := ⟨TX12, 52, by decide, rfl, q_1701, q_75, q_111, q_1702, ⟨by decide +kernel, by decide +kernel, by decide +kernel⟩⟩
theorem sv_X12_voters : zVf yX12_voters cX12_voters 3 (some .int) 11 0 := ⟨TX12, 52, by decide, rfl, q_1835, q_91, q_111, q_1836, ⟨by decide +kernel, by decide +kernel, by decide +kernel⟩⟩
theorem sv_X12_worked : zVf yX12_worked cX12_worked 6 (some .int) 11 1 := ⟨TX12, 52, by decide, rfl, q_1689, q_72, q_111, q_1690, ⟨by decide +kernel, by decide +kernel, by decide +kernel⟩⟩
theorem sv_X1_addNumber : zVf yX1_addNumber cX1_addNumber 2 none 1 1 := ⟨TX1, 12, by decide, rfl, q_781, q_782, q_102, q_783, ⟨by decide +kernel, by decide +kernel, by decide +kernel⟩⟩
theorem sv_X1_addToken : zVf yX1_addToken cX1_addToken 2 none 1 1 := ⟨TX1, 12, by decide, rfl, q_785, q_786, q_102, q_787, ⟨by decide +kernel, by decide +kernel, by decide +kernel⟩⟩
theorem sv_X1_become : zVf yX1_become cX1_become 2 none 1 1 := ⟨TX1, 12, by decide, rfl, q_839, q_840, q_102, q_841, ⟨by decide +kernel, by decide +kernel, by decide +kernel⟩⟩
theorem sv_X1_clear : zVf yX1_clear cX1_clear 1 none 1 0 := ⟨TX1, 12, by decide, rfl, q_526, q_527, q_102, q_528, ⟨by decide +kernel, by decide +kernel, by decide +kernel⟩⟩
theorem sv_X1_easing : zVf yX1_easing cX1_easing 1 (some .int) 1 0 := ⟨TX1, 12, by decide, rfl, q_992, q_993, q_102, q_994, ⟨by decide +kernel, by decide +kernel, by decide +kernel⟩⟩
theorem sv_X1_fact : zVf yX1_fact cX1_fact 2 (some .int) 1 1 := ⟨TX1, 12, by decide, rfl, q_967, q_23, q_102, q_968, ⟨by decide +kernel, by decide +kernel, by decide +kernel⟩⟩
theorem sv_X1_growth : zVf yX1_growth cX1_growth 1 (some .int) 1 0 := ⟨TX1, 12, by decide, rfl, q_954, q_955, q_102, q_956, ⟨by decide +kernel, by decide +kernel, by decide +kernel⟩⟩
theorem sv_X1_pop : zVf yX1_pop cX1_pop 1 (some .int) 1 0 := ⟨TX1, 12, by decide, rfl, q_971, q_24, q_102, q_972, ⟨by decide +kernel, by decide +kernel, by decide +kernel⟩⟩
theorem sv_X1_push : zVf yX1_push cX1_push 2 none 1 1 := ⟨TX1, 12, by decide, rfl, q_963, q_22, q_102, q_964, ⟨by decide +kernel, by decide +kernel, by decide +kernel⟩⟩
theorem sv_X1_tellFacts : zVf yX1_tellFacts cX1_tellFacts 5 none 1 4 := ⟨TX1, 12, by decide, rfl, q_950, q_951, q_102, q_952, ⟨by decide +kernel, by decide +kernel, by decide +kernel⟩⟩
theorem sv_X1_worth : zVf yX1_worth cX1_worth 7 (some .int) 1 2 := ⟨TX1, 12, by decide, rfl, q_959, q_21, q_102, q_960, ⟨by decide +kernel, by decide +kernel, by decide +kernel⟩⟩
theorem sv_X2_become : zVf yX2_become cX2_become 2 none 2 1 := ⟨TX2, 5, by decide, rfl, q_1191, q_1192, q_109, q_1193, ⟨by decide +kernel, by decide +kernel, by decide +kernel⟩⟩
theorem sv_X2_begin : zVf yX2_begin cX2_begin 1 none 2 0 := ⟨TX2, 5, by decide, rfl, q_850, q_851, q_109, q_852, ⟨by decide +kernel, by decide +kernel, by decide +kernel⟩⟩
theorem sv_X3_bringBack : zVf yX3_bringBack cX3_bringBack 2 (some .boolean) 3 1 := ⟨TX3, 3, by decide, rfl, q_1047, q_1048, q_110, q_1049, ⟨by decide +kernel, by decide +kernel, by decide +kernel⟩⟩
theorem sv_X3_forget : zVf yX3_forget cX3_forget 1 none 3 0 := ⟨TX3, 3, by decide, rfl, q_855, q_856, q_110, q_857, ⟨by decide +kernel, by decide +kernel, by decide +kernel⟩⟩
theorem sv_X3_keep : zVf yX3_keep cX3_keep 2 none 3 1 := ⟨TX3, 3, by decide, rfl, q_932, q_933, q_110, q_934, ⟨by decide +kernel, by decide +kernel, by decide +kernel⟩⟩
theorem sv_X5_addPerson : zVf yX5_addPerson cX5_addPerson 6 none 4 4 := ⟨TX5, 11, by decide, rfl, q_715, q_716, q_101, q_717, ⟨by decide +kernel, by decide +kernel, by decide +kernel⟩⟩
theorem sv_X5_barOf : zVf yX5_barOf cX5_barOf 3 (some .int) 4 2 := ⟨TX5, 11, by decide, rfl, q_1037, q_1038, q_101, q_1039, ⟨by decide +kernel, by decide +kernel, by decide +kernel⟩⟩
theorem sv_X5_become : zVf yX5_become cX5_become 2 none 4 1 := ⟨TX5, 11, by decide, rfl, q_832, q_833, q_101, q_834, ⟨by decide +kernel, by decide +kernel, by decide +kernel⟩⟩
theorem sv_X5_clear : zVf yX5_clear cX5_clear 1 none 4 0 := ⟨TX5, 11, by decide, rfl, q_519, q_520, q_101, q_521, ⟨by decide +kernel, by decide +kernel, by decide +kernel⟩⟩
theorem sv_X5_has : zVf yX5_has cX5_has 2 (some .boolean) 4 1 := ⟨TX5, 11, by decide, rfl, q_876, q_877, q_101, q_878, ⟨by decide +kernel, by decide +kernel, by decide +kernel⟩⟩
theorem sv_X5_hasPair : zVf yX5_hasPair cX5_hasPair 3 (some .boolean) 4 2 := ⟨TX5, 11, by decide, rfl, q_897, q_898, q_101, q_899, ⟨by decide +kernel, by decide +kernel, by decide +kernel⟩⟩
theorem sv_X5_numberOf : zVf yX5_numberOf cX5_numberOf 4 (some .int) 4 1 := ⟨TX5, 11, by decide, rfl, q_697, q_698, q_101, q_699, ⟨by decide +kernel, by decide +kernel, by decide +kernel⟩⟩
theorem sv_X6_readBar : zVf yX6_readBar cX6_readBar 1 (some .boolean) 5 0 := ⟨TX6, 6, by decide, rfl, q_744, q_6, q_104, q_745, ⟨by decide +kernel, by decide +kernel, by decide +kernel⟩⟩
theorem sv_X6_readDead : zVf yX6_readDead cX6_readDead 1 (some .boolean) 5 0 := ⟨TX6, 6, by decide, rfl, q_752, q_8, q_104, q_753, ⟨by decide +kernel, by decide +kernel, by decide +kernel⟩⟩
theorem sv_X6_readEases : zVf yX6_readEases cX6_readEases 2 (some .boolean) 5 0 := ⟨TX6, 6, by decide, rfl, q_811, q_17, q_104, q_812, ⟨by decide +kernel, by decide +kernel, by decide +kernel⟩⟩
theorem sv_X6_readGrows : zVf yX6_readGrows cX6_readGrows 2 (some .boolean) 5 0 := ⟨TX6, 6, by decide, rfl, q_766, q_10, q_104, q_767, ⟨by decide +kernel, by decide +kernel, by decide +kernel⟩⟩
theorem sv_X6_readGrudge : zVf yX6_readGrudge cX6_readGrudge 3 (some .boolean) 5 0 := ⟨TX6, 6, by decide, rfl, q_720, q_4, q_104, q_721, ⟨by decide +kernel, by decide +kernel, by decide +kernel⟩⟩
theorem sv_X6_readHeir : zVf yX6_readHeir cX6_readHeir 2 (some .boolean) 5 0 := ⟨TX6, 6, by decide, rfl, q_740, q_5, q_104, q_741, ⟨by decide +kernel, by decide +kernel, by decide +kernel⟩⟩
theorem sv_X6_readPerson : zVf yX6_readPerson cX6_readPerson 6 (some .boolean) 5 0 := ⟨TX6, 6, by decide, rfl, q_678, q_3, q_104, q_679, ⟨by decide +kernel, by decide +kernel, by decide +kernel⟩⟩
theorem sv_X6_readTies : zVf yX6_readTies cX6_readTies 1 (some .boolean) 5 0 := ⟨TX6, 6, by decide, rfl, q_762, q_9, q_104, q_763, ⟨by decide +kernel, by decide +kernel, by decide +kernel⟩⟩
theorem sv_X6_takeOnce : zVf yX6_takeOnce cX6_takeOnce 2 (some .boolean) 5 0 := ⟨TX6, 6, by decide, rfl, q_748, q_7, q_104, q_749, ⟨by decide +kernel, by decide +kernel, by decide +kernel⟩⟩
theorem sv_X7_allCasts : zVf yX7_allCasts cX7_allCasts 3 (some .int) 6 0 := ⟨TX7, 6, by decide, rfl, q_1206, q_1207, q_108, q_1208, ⟨by decide +kernel, by decide +kernel, by decide +kernel⟩⟩
theorem sv_X7_allGrudges : zVf yX7_allGrudges cX7_allGrudges 4 (some .int) 6 0 := ⟨TX7, 6, by decide, rfl, q_1202, q_1203, q_108, q_1204, ⟨by decide +kernel, by decide +kernel, by decide +kernel⟩⟩
theorem sv_X7_areTwoAlive : zVf yX7_areTwoAlive cX7_areTwoAlive 3 (some .boolean) 6 2 := ⟨TX7, 6, by decide, rfl, q_984, q_985, q_108, q_986, ⟨by decide +kernel, by decide +kernel, by decide +kernel⟩⟩
theorem sv_X7_become : zVf yX7_become cX7_become 2 none 6 1 := ⟨TX7, 6, by decide, rfl, q_936, q_937, q_108, q_938, ⟨by decide +kernel, by decide +kernel, by decide +kernel⟩⟩
theorem sv_X7_begin : zVf yX7_begin cX7_begin 2 none 6 0 := ⟨TX7, 6, by decide, rfl, q_844, q_845, q_108, q_846, ⟨by decide +kernel, by decide +kernel, by decide +kernel⟩⟩
theorem sv_X7_bury : zVf yX7_bury cX7_bury 4 (some .int) 6 1 := ⟨TX7, 6, by decide, rfl, q_1013, q_1014, q_108, q_1015, ⟨by decide +kernel, by decide +kernel, by decide +kernel⟩⟩
theorem sv_X7_canBe : zVf yX7_canBe cX7_canBe 4 (some .boolean) 6 3 := ⟨TX7, 6, by decide, rfl, q_1061, q_27, q_108, q_1062, ⟨by decide +kernel, by decide +kernel, by decide +kernel⟩⟩
theorem sv_X7_canLevy : zVf yX7_canLevy cX7_canLevy 2 (some .boolean) 6 0 := ⟨TX7, 6, by decide, rfl, q_927, q_928, q_108, q_929, ⟨by decide +kernel, by decide +kernel, by decide +kernel⟩⟩
theorem sv_X7_canVote : zVf yX7_canVote cX7_canVote 3 (some .boolean) 6 2 := ⟨TX7, 6, by decide, rfl, q_1000, q_1001, q_108, q_1002, ⟨by decide +kernel, by decide +kernel, by decide +kernel⟩⟩
theorem sv_X7_castBy : zVf yX7_castBy cX7_castBy 4 (some .int) 6 1 := ⟨TX7, 6, by decide, rfl, q_888, q_889, q_108, q_890, ⟨by decide +kernel, by decide +kernel, by decide +kernel⟩⟩
theorem sv_X7_castsOnDays : zVf yX7_castsOnDays cX7_castsOnDays 2 (some .boolean) 6 1 := ⟨TX7, 6, by decide, rfl, q_1030, q_25, q_108, q_1031, ⟨by decide +kernel, by decide +kernel, by decide +kernel⟩⟩
theorem sv_X7_countAgainst : zVf yX7_countAgainst cX7_countAgainst 4 (some .int) 6 1 := ⟨TX7, 6, by decide, rfl, q_880, q_881, q_108, q_882, ⟨by decide +kernel, by decide +kernel, by decide +kernel⟩⟩
theorem sv_X7_giftsToQuiet : zVf yX7_giftsToQuiet cX7_giftsToQuiet 7 (some .int) 6 2 := ⟨TX7, 6, by decide, rfl, q_1107, q_1108, q_108, q_1109, ⟨by decide +kernel, by decide +kernel, by decide +kernel⟩⟩
theorem sv_X7_give : zVf yX7_give cX7_give 4 (some .int) 6 2 := ⟨TX7, 6, by decide, rfl, q_988, q_989, q_108, q_990, ⟨by decide +kernel, by decide +kernel, by decide +kernel⟩⟩
theorem sv_X7_governor : zVf yX7_governor cX7_governor 3 (some .int) 6 0 := ⟨TX7, 6, by decide, rfl, q_910, q_911, q_108, q_912, ⟨by decide +kernel, by decide +kernel, by decide +kernel⟩⟩
theorem sv_X7_isAlive : zVf yX7_isAlive cX7_isAlive 2 (some .boolean) 6 1 := ⟨TX7, 6, by decide, rfl, q_884, q_885, q_108, q_886, ⟨by decide +kernel, by decide +kernel, by decide +kernel⟩⟩
theorem sv_X7_isThreat : zVf yX7_isThreat cX7_isThreat 3 (some .boolean) 6 2 := ⟨TX7, 6, by decide, rfl, q_1163, q_1164, q_108, q_1165, ⟨by decide +kernel, by decide +kernel, by decide +kernel⟩⟩
theorem sv_X7_lead : zVf yX7_lead cX7_lead 4 (some .int) 6 2 := ⟨TX7, 6, by decide, rfl, q_915, q_18, q_108, q_916, ⟨by decide +kernel, by decide +kernel, by decide +kernel⟩⟩
theorem sv_X7_levy : zVf yX7_levy cX7_levy 6 (some .int) 6 0 := ⟨TX7, 6, by decide, rfl, q_942, q_943, q_108, q_944, ⟨by decide +kernel, by decide +kernel, by decide +kernel⟩⟩
theorem sv_X7_passDay : zVf yX7_passDay cX7_passDay 5 (some .int) 6 1 := ⟨TX7, 6, by decide, rfl, q_1021, q_1022, q_108, q_1023, ⟨by decide +kernel, by decide +kernel, by decide +kernel⟩⟩
theorem sv_X7_passTaxedDay : zVf yX7_passTaxedDay cX7_passTaxedDay 2 (some .int) 6 1 := ⟨TX7, 6, by decide, rfl, q_1099, q_1100, q_108, q_1101, ⟨by decide +kernel, by decide +kernel, by decide +kernel⟩⟩
theorem sv_X7_perform : zVf yX7_perform cX7_perform 5 (some .boolean) 6 1 := ⟨TX7, 6, by decide, rfl, q_1056, q_1057, q_108, q_1058, ⟨by decide +kernel, by decide +kernel, by decide +kernel⟩⟩
theorem sv_X7_target : zVf yX7_target cX7_target 4 (some .int) 6 2 := ⟨TX7, 6, by decide, rfl, q_1025, q_1026, q_108, q_1027, ⟨by decide +kernel, by decide +kernel, by decide +kernel⟩⟩
theorem sv_X7_tellFacts : zVf yX7_tellFacts cX7_tellFacts 3 none 6 2 := ⟨TX7, 6, by decide, rfl, q_947, q_20, q_108, q_948, ⟨by decide +kernel, by decide +kernel, by decide +kernel⟩⟩
theorem sv_X7_vote : zVf yX7_vote cX7_vote 3 none 6 2 := ⟨TX7, 6, by decide, rfl, q_1005, q_1006, q_108, q_1007, ⟨by decide +kernel, by decide +kernel, by decide +kernel⟩⟩
theorem sv_X7_voters : zVf yX7_voters cX7_voters 3 (some .int) 6 0 := ⟨TX7, 6, by decide, rfl, q_1151, q_1152, q_108, q_1153, ⟨by decide +kernel, by decide +kernel, by decide +kernel⟩⟩
theorem sv_X7_votesLeft : zVf yX7_votesLeft cX7_votesLeft 3 (some .int) 6 0 := ⟨TX7, 6, by decide, rfl, q_1083, q_1084, q_108, q_1085, ⟨by decide +kernel, by decide +kernel, by decide +kernel⟩⟩
theorem sv_X7_votesToBear : zVf yX7_votesToBear cX7_votesToBear 5 (some .int) 6 1 := ⟨TX7, 6, by decide, rfl, q_1091, q_1092, q_108, q_1093, ⟨by decide +kernel, by decide +kernel, by decide +kernel⟩⟩
theorem sv_X7_votesToBring : zVf yX7_votesToBring cX7_votesToBring 6 (some .int) 6 1 := ⟨TX7, 6, by decide, rfl, q_1079, q_1080, q_108, q_1081, ⟨by decide +kernel, by decide +kernel, by decide +kernel⟩⟩
theorem sv_X7_winsTie : zVf yX7_winsTie cX7_winsTie 4 (some .boolean) 6 2 := ⟨TX7, 6, by decide, rfl, q_920, q_19, q_108, q_921, ⟨by decide +kernel, by decide +kernel, by decide +kernel⟩⟩
theorem sv_X7_worst : zVf yX7_worst cX7_worst 6 (some .int) 6 1 := ⟨TX7, 6, by decide, rfl, q_1034, q_26, q_108, q_1035, ⟨by decide +kernel, by decide +kernel, by decide +kernel⟩⟩
theorem sv_X8_append : zVf yX8_append cX8_append 6 none 7 1 := ⟨TX8, 6, by decide, rfl, q_499, q_500, q_100, q_501, ⟨by decide +kernel, by decide +kernel, by decide +kernel⟩⟩
theorem sv_X8_isName : zVf yX8_isName cX8_isName 1 (some .boolean) 7 0 := ⟨TX8, 6, by decide, rfl, q_688, q_689, q_100, q_690, ⟨by decide +kernel, by decide +kernel, by decide +kernel⟩⟩
theorem sv_X8_lookAtFirst : zVf yX8_lookAtFirst cX8_lookAtFirst 1 none 7 0 := ⟨TX8, 6, by decide, rfl, q_533, q_534, q_100, q_535, ⟨by decide +kernel, by decide +kernel, by decide +kernel⟩⟩
theorem sv_X8_lookAtNext : zVf yX8_lookAtNext cX8_lookAtNext 2 none 7 0 := ⟨TX8, 6, by decide, rfl, q_537, q_538, q_100, q_539, ⟨by decide +kernel, by decide +kernel, by decide +kernel⟩⟩
theorem sv_X8_packedWord : zVf yX8_packedWord cX8_packedWord 4 (some .long) 7 0 := ⟨TX8, 6, by decide, rfl, q_692, q_693, q_100, q_694, ⟨by decide +kernel, by decide +kernel, by decide +kernel⟩⟩
theorem sv_X8_passNumber : zVf yX8_passNumber cX8_passNumber 1 none 7 0 := ⟨TX8, 6, by decide, rfl, q_608, q_2, q_100, q_609, ⟨by decide +kernel, by decide +kernel, by decide +kernel⟩⟩
theorem sv_X8_passWord : zVf yX8_passWord cX8_passWord 1 none 7 0 := ⟨TX8, 6, by decide, rfl, q_548, q_0, q_100, q_549, ⟨by decide +kernel, by decide +kernel, by decide +kernel⟩⟩
theorem sv_X8_wordToken : zVf yX8_wordToken cX8_wordToken 5 (some .int) 7 0 := ⟨TX8, 6, by decide, rfl, q_552, q_1, q_100, q_553, ⟨by decide +kernel, by decide +kernel, by decide +kernel⟩⟩
theorem sv_X9_add : zVf yX9_add cX9_add 4 none 8 3 := ⟨TX9, 2, by decide, rfl, q_827, q_828, q_107, q_829, ⟨by decide +kernel, by decide +kernel, by decide +kernel⟩⟩
theorem sv_X9_become : zVf yX9_become cX9_become 2 none 8 1 := ⟨TX9, 2, by decide, rfl, q_867, q_868, q_107, q_869, ⟨by decide +kernel, by decide +kernel, by decide +kernel⟩⟩
theorem f_X0_9_0 : zFd RX0 9 0 2 2 := ⟨RX0, TX0, 7, "VoteAgainst$LawReader", by decide, rfl, lay_0, by decide, q_300, Or.inl rfl, rfl⟩
theorem f_X0_13_0 : zFd RX0 13 0 0 2 := ⟨RX0, TX0, 7, "VoteAgainst$LawReader", by decide, rfl, lay_0, by decide, q_298, Or.inl rfl, rfl⟩
theorem f_X0_17_0 : zFd RX0 17 0 1 2 := ⟨RX0, TX0, 7, "VoteAgainst$LawReader", by decide, rfl, lay_0, by decide, q_299, Or.inl rfl, rfl⟩
theorem f_X0_21_0 : zFd RX0 21 0 3 0 := ⟨RX0, TX0, 7, "VoteAgainst$LawReader", by decide, rfl, lay_0, by decide, q_301, Or.inl rfl, rfl⟩
theorem f_X0_25_0 : zFd RX0 25 0 4 0 := ⟨RX0, TX0, 7, "VoteAgainst$LawReader", by decide, rfl, lay_0, by decide, q_302, Or.inl rfl, rfl⟩
theorem f_X0_28_0 : zFd RX0 28 0 5 0 := ⟨RX0, TX0, 7, "VoteAgainst$LawReader", by decide, rfl, lay_0, by decide, q_303, Or.inl rfl, rfl⟩
theorem f_X0_31_0 : zFd RX0 31 0 6 0 := ⟨RX0, TX0, 7, "VoteAgainst$LawReader", by decide, rfl, lay_0, by decide, q_304, Or.inl rfl, rfl⟩
theorem f_X0_41_7 : zFd RX0 41 7 2 0 := ⟨RX8, TX8, 6, "VoteAgainst$Tape", by decide, rfl, lay_7, by decide, q_143, Or.inl rfl, rfl⟩
theorem f_X0_66_7 : zFd RX0 66 7 4 0 := ⟨RX8, TX8, 6, "VoteAgainst$Tape", by decide, rfl, lay_7, by decide, q_150, Or.inl rfl, rfl⟩
theorem f_X1_11_1 : zFd RX1 11 1 0 2 := ⟨RX1, TX1, 12, "VoteAgainst$Laws", by decide, rfl, lay_1, by decide, q_180, Or.inl rfl, rfl⟩
theorem f_X1_17_1 : zFd RX1 17 1 1 2 := ⟨RX1, TX1, 12, "VoteAgainst$Laws", by decide, rfl, lay_1, by decide, q_181, Or.inl rfl, rfl⟩
theorem f_X1_20_1 : zFd RX1 20 1 7 0 := ⟨RX1, TX1, 12, "VoteAgainst$Laws", by decide, rfl, lay_1, by decide, q_187, Or.inl rfl, rfl⟩
theorem f_X1_24_1 : zFd RX1 24 1 8 0 := ⟨RX1, TX1, 12, "VoteAgainst$Laws", by decide, rfl, lay_1, by decide, q_189, Or.inl rfl, rfl⟩
theorem f_X1_27_1 : zFd RX1 27 1 9 0 := ⟨RX1, TX1, 12, "VoteAgainst$Laws", by decide, rfl, lay_1, by decide, q_191, Or.inl rfl, rfl⟩
theorem f_X1_30_1 : zFd RX1 30 1 10 0 := ⟨RX1, TX1, 12, "VoteAgainst$Laws", by decide, rfl, lay_1, by decide, q_193, Or.inl rfl, rfl⟩
theorem f_X1_33_1 : zFd RX1 33 1 11 0 := ⟨RX1, TX1, 12, "VoteAgainst$Laws", by decide, rfl, lay_1, by decide, q_195, Or.inl rfl, rfl⟩
theorem f_X1_46_1 : zFd RX1 46 1 3 0 := ⟨RX1, TX1, 12, "VoteAgainst$Laws", by decide, rfl, lay_1, by decide, q_183, Or.inl rfl, rfl⟩
theorem f_X1_49_1 : zFd RX1 49 1 4 0 := ⟨RX1, TX1, 12, "VoteAgainst$Laws", by decide, rfl, lay_1, by decide, q_184, Or.inl rfl, rfl⟩
theorem f_X1_52_1 : zFd RX1 52 1 5 0 := ⟨RX1, TX1, 12, "VoteAgainst$Laws", by decide, rfl, lay_1, by decide, q_185, Or.inl rfl, rfl⟩
theorem f_X1_55_1 : zFd RX1 55 1 6 0 := ⟨RX1, TX1, 12, "VoteAgainst$Laws", by decide, rfl, lay_1, by decide, q_186, Or.inl rfl, rfl⟩
theorem f_X1_70_1 : zFd RX1 70 1 2 0 := ⟨RX1, TX1, 12, "VoteAgainst$Laws", by decide, rfl, lay_1, by decide, q_182, Or.inl rfl, rfl⟩
theorem f_X10_12_9 : zFd RX10 12 9 4 2 := ⟨RX10, TX10, 5, "VoteAgainst$YearsReader", by decide, rfl, lay_9, by decide, q_373, Or.inl rfl, rfl⟩
theorem f_X10_18_8 : zFd RX10 18 8 1 0 := ⟨RX9, TX9, 2, "VoteAgainst$Years", by decide, rfl, lay_8, by decide, q_364, Or.inl rfl, rfl⟩
theorem f_X10_22_9 : zFd RX10 22 9 0 2 := ⟨RX10, TX10, 5, "VoteAgainst$YearsReader", by decide, rfl, lay_9, by decide, q_325, Or.inr q_326, rfl⟩
theorem f_X10_26_7 : zFd RX10 26 7 2 0 := ⟨RX8, TX8, 6, "VoteAgainst$Tape", by decide, rfl, lay_7, by decide, q_145, Or.inl rfl, rfl⟩
theorem f_X10_42_9 : zFd RX10 42 9 2 0 := ⟨RX10, TX10, 5, "VoteAgainst$YearsReader", by decide, rfl, lay_9, by decide, q_331, Or.inr q_332, rfl⟩
theorem f_X11_10_10 : zFd RX11 10 10 0 2 := ⟨RX11, TX11, 10, "VoteAgainst", by decide, rfl, lay_10, by decide, q_463, Or.inl rfl, rfl⟩
theorem f_X11_19_10 : zFd RX11 19 10 1 2 := ⟨RX11, TX11, 10, "VoteAgainst", by decide, rfl, lay_10, by decide, q_464, Or.inl rfl, rfl⟩
theorem f_X11_28_10 : zFd RX11 28 10 2 2 := ⟨RX11, TX11, 10, "VoteAgainst", by decide, rfl, lay_10, by decide, q_465, Or.inl rfl, rfl⟩
theorem f_X11_35_10 : zFd RX11 35 10 3 2 := ⟨RX11, TX11, 10, "VoteAgainst", by decide, rfl, lay_10, by decide, q_466, Or.inl rfl, rfl⟩
theorem f_X11_44_10 : zFd RX11 44 10 4 2 := ⟨RX11, TX11, 10, "VoteAgainst", by decide, rfl, lay_10, by decide, q_467, Or.inl rfl, rfl⟩
theorem f_X11_48_10 : zFd RX11 48 10 5 2 := ⟨RX11, TX11, 10, "VoteAgainst", by decide, rfl, lay_10, by decide, q_468, Or.inl rfl, rfl⟩
theorem f_X11_54_10 : zFd RX11 54 10 6 2 := ⟨RX11, TX11, 10, "VoteAgainst", by decide, rfl, lay_10, by decide, q_469, Or.inl rfl, rfl⟩
theorem f_X11_58_10 : zFd RX11 58 10 7 2 := ⟨RX11, TX11, 10, "VoteAgainst", by decide, rfl, lay_10, by decide, q_470, Or.inl rfl, rfl⟩
theorem f_X11_65_10 : zFd RX11 65 10 8 2 := ⟨RX11, TX11, 10, "VoteAgainst", by decide, rfl, lay_10, by decide, q_471, Or.inl rfl, rfl⟩
theorem f_X11_73_7 : zFd RX11 73 7 1 0 := ⟨RX8, TX8, 6, "VoteAgainst$Tape", by decide, rfl, lay_7, by decide, q_140, Or.inl rfl, rfl⟩
theorem f_X11_81_5 : zFd RX11 81 5 1 2 := ⟨RX6, TX6, 6, "VoteAgainst$RepublicReader", by decide, rfl, lay_5, by decide, q_330, Or.inr q_329, rfl⟩
theorem f_X11_94_2 : zFd RX11 94 2 4 0 := ⟨RX2, TX2, 5, "VoteAgainst$Moment", by decide, rfl, lay_2, by decide, q_430, Or.inl rfl, rfl⟩
theorem f_X11_99_2 : zFd RX11 99 2 1 2 := ⟨RX2, TX2, 5, "VoteAgainst$Moment", by decide, rfl, lay_2, by decide, q_425, Or.inl rfl, rfl⟩
theorem f_X11_103_9 : zFd RX11 103 9 4 2 := ⟨RX10, TX10, 5, "VoteAgainst$YearsReader", by decide, rfl, lay_9, by decide, q_374, Or.inl rfl, rfl⟩
theorem f_X11_113_4 : zFd RX11 113 4 1 2 := ⟨RX5, TX5, 11, "VoteAgainst$Republic", by decide, rfl, lay_4, by decide, q_226, Or.inl rfl, rfl⟩
theorem f_X11_117_4 : zFd RX11 117 4 2 2 := ⟨RX5, TX5, 11, "VoteAgainst$Republic", by decide, rfl, lay_4, by decide, q_229, Or.inl rfl, rfl⟩
theorem f_X11_120_4 : zFd RX11 120 4 3 2 := ⟨RX5, TX5, 11, "VoteAgainst$Republic", by decide, rfl, lay_4, by decide, q_232, Or.inl rfl, rfl⟩
theorem f_X11_123_2 : zFd RX11 123 2 0 2 := ⟨RX2, TX2, 5, "VoteAgainst$Moment", by decide, rfl, lay_2, by decide, q_423, Or.inl rfl, rfl⟩
theorem f_X11_126_6 : zFd RX11 126 6 3 2 := ⟨RX7, TX7, 6, "VoteAgainst$Standing", by decide, rfl, lay_6, by decide, q_394, Or.inl rfl, rfl⟩
theorem f_X11_136_4 : zFd RX11 136 4 4 2 := ⟨RX5, TX5, 11, "VoteAgainst$Republic", by decide, rfl, lay_4, by decide, q_235, Or.inl rfl, rfl⟩
theorem f_X11_146_6 : zFd RX11 146 6 1 2 := ⟨RX7, TX7, 6, "VoteAgainst$Standing", by decide, rfl, lay_6, by decide, q_390, Or.inl rfl, rfl⟩
theorem f_X11_149_6 : zFd RX11 149 6 2 2 := ⟨RX7, TX7, 6, "VoteAgainst$Standing", by decide, rfl, lay_6, by decide, q_392, Or.inl rfl, rfl⟩
theorem f_X11_183_4 : zFd RX11 183 4 8 0 := ⟨RX5, TX5, 11, "VoteAgainst$Republic", by decide, rfl, lay_4, by decide, q_250, Or.inl rfl, rfl⟩
theorem f_X11_195_8 : zFd RX11 195 8 1 0 := ⟨RX9, TX9, 2, "VoteAgainst$Years", by decide, rfl, lay_8, by decide, q_367, Or.inl rfl, rfl⟩
theorem f_X11_198_8 : zFd RX11 198 8 0 2 := ⟨RX9, TX9, 2, "VoteAgainst$Years", by decide, rfl, lay_8, by decide, q_363, Or.inl rfl, rfl⟩
theorem f_X11_216_4 : zFd RX11 216 4 7 0 := ⟨RX5, TX5, 11, "VoteAgainst$Republic", by decide, rfl, lay_4, by decide, q_247, Or.inl rfl, rfl⟩
theorem f_X11_225_2 : zFd RX11 225 2 2 0 := ⟨RX2, TX2, 5, "VoteAgainst$Moment", by decide, rfl, lay_2, by decide, q_427, Or.inl rfl, rfl⟩
theorem f_X11_231_2 : zFd RX11 231 2 3 0 := ⟨RX2, TX2, 5, "VoteAgainst$Moment", by decide, rfl, lay_2, by decide, q_429, Or.inl rfl, rfl⟩
theorem f_X11_267_10 : zFd RX11 267 10 9 1 := ⟨RX11, TX11, 10, "VoteAgainst", by decide, rfl, lay_10, by decide, q_472, Or.inl rfl, rfl⟩
theorem f_X11_274_6 : zFd RX11 274 6 4 0 := ⟨RX7, TX7, 6, "VoteAgainst$Standing", by decide, rfl, lay_6, by decide, q_396, Or.inl rfl, rfl⟩
theorem f_X11_280_4 : zFd RX11 280 4 9 0 := ⟨RX5, TX5, 11, "VoteAgainst$Republic", by decide, rfl, lay_4, by decide, q_255, Or.inl rfl, rfl⟩
theorem f_X11_283_4 : zFd RX11 283 4 10 0 := ⟨RX5, TX5, 11, "VoteAgainst$Republic", by decide, rfl, lay_4, by decide, q_259, Or.inl rfl, rfl⟩
theorem f_X11_286_6 : zFd RX11 286 6 5 0 := ⟨RX7, TX7, 6, "VoteAgainst$Standing", by decide, rfl, lay_6, by decide, q_398, Or.inl rfl, rfl⟩
theorem f_X11_298_3 : zFd RX11 298 3 2 0 := ⟨RX3, TX3, 3, "VoteAgainst$Past", by decide, rfl, lay_3, by decide, q_455, Or.inl rfl, rfl⟩
theorem f_X12_7_11 : zFd RX12 7 11 2 2 := ⟨RX12, TX12, 52, "VoteAgainstModel", by decide, rfl, lay_11, by decide, q_1297, Or.inl rfl, rfl⟩
theorem f_X12_13_11 : zFd RX12 13 11 10 2 := ⟨RX12, TX12, 52, "VoteAgainstModel", by decide, rfl, lay_11, by decide, q_1305, Or.inl rfl, rfl⟩
theorem f_X12_16_11 : zFd RX12 16 11 11 2 := ⟨RX12, TX12, 52, "VoteAgainstModel", by decide, rfl, lay_11, by decide, q_1306, Or.inl rfl, rfl⟩
theorem f_X12_20_11 : zFd RX12 20 11 12 2 := ⟨RX12, TX12, 52, "VoteAgainstModel", by decide, rfl, lay_11, by decide, q_1307, Or.inl rfl, rfl⟩
theorem f_X12_23_11 : zFd RX12 23 11 13 2 := ⟨RX12, TX12, 52, "VoteAgainstModel", by decide, rfl, lay_11, by decide, q_1308, Or.inl rfl, rfl⟩
theorem f_X12_26_11 : zFd RX12 26 11 14 2 := ⟨RX12, TX12, 52, "VoteAgainstModel", by decide, rfl, lay_11, by decide, q_1309, Or.inl rfl, rfl⟩
theorem f_X12_29_11 : zFd RX12 29 11 15 2 := ⟨RX12, TX12, 52, "VoteAgainstModel", by decide, rfl, lay_11, by decide, q_1310, Or.inl rfl, rfl⟩
theorem f_X12_32_11 : zFd RX12 32 11 16 2 := ⟨RX12, TX12, 52, "VoteAgainstModel", by decide, rfl, lay_11, by decide, q_1311, Or.inl rfl, rfl⟩
theorem f_X12_35_11 : zFd RX12 35 11 17 2 := ⟨RX12, TX12, 52, "VoteAgainstModel", by decide, rfl, lay_11, by decide, q_1312, Or.inl rfl, rfl⟩
theorem f_X12_39_11 : zFd RX12 39 11 18 2 := ⟨RX12, TX12, 52, "VoteAgainstModel", by decide, rfl, lay_11, by decide, q_1313, Or.inl rfl, rfl⟩
theorem f_X12_42_11 : zFd RX12 42 11 19 2 := ⟨RX12, TX12, 52, "VoteAgainstModel", by decide, rfl, lay_11, by decide, q_1314, Or.inl rfl, rfl⟩
theorem f_X12_45_11 : zFd RX12 45 11 20 2 := ⟨RX12, TX12, 52, "VoteAgainstModel", by decide, rfl, lay_11, by decide, q_1315, Or.inl rfl, rfl⟩
theorem f_X12_48_11 : zFd RX12 48 11 23 2 := ⟨RX12, TX12, 52, "VoteAgainstModel", by decide, rfl, lay_11, by decide, q_1318, Or.inl rfl, rfl⟩
theorem f_X12_51_11 : zFd RX12 51 11 24 2 := ⟨RX12, TX12, 52, "VoteAgainstModel", by decide, rfl, lay_11, by decide, q_1319, Or.inl rfl, rfl⟩
theorem f_X12_54_11 : zFd RX12 54 11 25 2 := ⟨RX12, TX12, 52, "VoteAgainstModel", by decide, rfl, lay_11, by decide, q_1320, Or.inl rfl, rfl⟩
theorem f_X12_57_11 : zFd RX12 57 11 26 2 := ⟨RX12, TX12, 52, "VoteAgainstModel", by decide, rfl, lay_11, by decide, q_1321, Or.inl rfl, rfl⟩
theorem f_X12_60_11 : zFd RX12 60 11 27 2 := ⟨RX12, TX12, 52, "VoteAgainstModel", by decide, rfl, lay_11, by decide, q_1322, Or.inl rfl, rfl⟩
theorem f_X12_63_11 : zFd RX12 63 11 28 2 := ⟨RX12, TX12, 52, "VoteAgainstModel", by decide, rfl, lay_11, by decide, q_1323, Or.inl rfl, rfl⟩
theorem f_X12_66_11 : zFd RX12 66 11 29 2 := ⟨RX12, TX12, 52, "VoteAgainstModel", by decide, rfl, lay_11, by decide, q_1324, Or.inl rfl, rfl⟩
theorem f_X12_69_11 : zFd RX12 69 11 30 2 := ⟨RX12, TX12, 52, "VoteAgainstModel", by decide, rfl, lay_11, by decide, q_1325, Or.inl rfl, rfl⟩
theorem f_X12_72_11 : zFd RX12 72 11 31 2 := ⟨RX12, TX12, 52, "VoteAgainstModel", by decide, rfl, lay_11, by decide, q_1326, Or.inl rfl, rfl⟩
theorem f_X12_75_11 : zFd RX12 75 11 32 2 := ⟨RX12, TX12, 52, "VoteAgainstModel", by decide, rfl, lay_11, by decide, q_1327, Or.inl rfl, rfl⟩
theorem f_X12_78_11 : zFd RX12 78 11 33 2 := ⟨RX12, TX12, 52, "VoteAgainstModel", by decide, rfl, lay_11, by decide, q_1328, Or.inl rfl, rfl⟩
theorem f_X12_81_11 : zFd RX12 81 11 34 2 := ⟨RX12, TX12, 52, "VoteAgainstModel", by decide, rfl, lay_11, by decide, q_1329, Or.inl rfl, rfl⟩
theorem f_X12_84_11 : zFd RX12 84 11 37 2 := ⟨RX12, TX12, 52, "VoteAgainstModel", by decide, rfl, lay_11, by decide, q_1332, Or.inl rfl, rfl⟩
theorem f_X12_87_11 : zFd RX12 87 11 38 2 := ⟨RX12, TX12, 52, "VoteAgainstModel", by decide, rfl, lay_11, by decide, q_1333, Or.inl rfl, rfl⟩
theorem f_X12_90_11 : zFd RX12 90 11 39 2 := ⟨RX12, TX12, 52, "VoteAgainstModel", by decide, rfl, lay_11, by decide, q_1334, Or.inl rfl, rfl⟩
theorem f_X12_93_11 : zFd RX12 93 11 40 2 := ⟨RX12, TX12, 52, "VoteAgainstModel", by decide, rfl, lay_11, by decide, q_1335, Or.inl rfl, rfl⟩
theorem f_X12_96_11 : zFd RX12 96 11 41 2 := ⟨RX12, TX12, 52, "VoteAgainstModel", by decide, rfl, lay_11, by decide, q_1336, Or.inl rfl, rfl⟩
theorem f_X12_99_11 : zFd RX12 99 11 42 2 := ⟨RX12, TX12, 52, "VoteAgainstModel", by decide, rfl, lay_11, by decide, q_1337, Or.inl rfl, rfl⟩
theorem f_X12_102_11 : zFd RX12 102 11 43 2 := ⟨RX12, TX12, 52, "VoteAgainstModel", by decide, rfl, lay_11, by decide, q_1338, Or.inl rfl, rfl⟩
theorem f_X12_105_11 : zFd RX12 105 11 44 2 := ⟨RX12, TX12, 52, "VoteAgainstModel", by decide, rfl, lay_11, by decide, q_1339, Or.inl rfl, rfl⟩
theorem f_X12_108_11 : zFd RX12 108 11 45 2 := ⟨RX12, TX12, 52, "VoteAgainstModel", by decide, rfl, lay_11, by decide, q_1340, Or.inl rfl, rfl⟩
theorem f_X12_111_11 : zFd RX12 111 11 46 2 := ⟨RX12, TX12, 52, "VoteAgainstModel", by decide, rfl, lay_11, by decide, q_1341, Or.inl rfl, rfl⟩
theorem f_X12_114_11 : zFd RX12 114 11 47 2 := ⟨RX12, TX12, 52, "VoteAgainstModel", by decide, rfl, lay_11, by decide, q_1342, Or.inl rfl, rfl⟩
theorem f_X12_117_11 : zFd RX12 117 11 48 2 := ⟨RX12, TX12, 52, "VoteAgainstModel", by decide, rfl, lay_11, by decide, q_1343, Or.inl rfl, rfl⟩
theorem f_X12_120_11 : zFd RX12 120 11 50 2 := ⟨RX12, TX12, 52, "VoteAgainstModel", by decide, rfl, lay_11, by decide, q_1345, Or.inl rfl, rfl⟩
theorem f_X12_126_11 : zFd RX12 126 11 0 0 := ⟨RX12, TX12, 52, "VoteAgainstModel", by decide, rfl, lay_11, by decide, q_1295, Or.inl rfl, rfl⟩
theorem f_X12_132_11 : zFd RX12 132 11 1 0 := ⟨RX12, TX12, 52, "VoteAgainstModel", by decide, rfl, lay_11, by decide, q_1296, Or.inl rfl, rfl⟩
theorem f_X12_135_11 : zFd RX12 135 11 3 0 := ⟨RX12, TX12, 52, "VoteAgainstModel", by decide, rfl, lay_11, by decide, q_1298, Or.inl rfl, rfl⟩
theorem f_X12_138_11 : zFd RX12 138 11 4 0 := ⟨RX12, TX12, 52, "VoteAgainstModel", by decide, rfl, lay_11, by decide, q_1299, Or.inl rfl, rfl⟩
theorem f_X12_141_11 : zFd RX12 141 11 5 0 := ⟨RX12, TX12, 52, "VoteAgainstModel", by decide, rfl, lay_11, by decide, q_1300, Or.inl rfl, rfl⟩
theorem f_X12_144_11 : zFd RX12 144 11 7 1 := ⟨RX12, TX12, 52, "VoteAgainstModel", by decide, rfl, lay_11, by decide, q_1302, Or.inl rfl, rfl⟩
theorem f_X12_148_11 : zFd RX12 148 11 8 0 := ⟨RX12, TX12, 52, "VoteAgainstModel", by decide, rfl, lay_11, by decide, q_1303, Or.inl rfl, rfl⟩
theorem f_X12_151_11 : zFd RX12 151 11 6 0 := ⟨RX12, TX12, 52, "VoteAgainstModel", by decide, rfl, lay_11, by decide, q_1301, Or.inl rfl, rfl⟩
theorem f_X12_162_11 : zFd RX12 162 11 9 0 := ⟨RX12, TX12, 52, "VoteAgainstModel", by decide, rfl, lay_11, by decide, q_1304, Or.inl rfl, rfl⟩
theorem f_X12_165_11 : zFd RX12 165 11 21 0 := ⟨RX12, TX12, 52, "VoteAgainstModel", by decide, rfl, lay_11, by decide, q_1316, Or.inl rfl, rfl⟩
theorem f_X12_263_11 : zFd RX12 263 11 35 0 := ⟨RX12, TX12, 52, "VoteAgainstModel", by decide, rfl, lay_11, by decide, q_1330, Or.inl rfl, rfl⟩
theorem f_X12_280_11 : zFd RX12 280 11 36 0 := ⟨RX12, TX12, 52, "VoteAgainstModel", by decide, rfl, lay_11, by decide, q_1331, Or.inl rfl, rfl⟩
theorem f_X12_293_11 : zFd RX12 293 11 22 0 := ⟨RX12, TX12, 52, "VoteAgainstModel", by decide, rfl, lay_11, by decide, q_1317, Or.inl rfl, rfl⟩
theorem f_X12_334_11 : zFd RX12 334 11 49 0 := ⟨RX12, TX12, 52, "VoteAgainstModel", by decide, rfl, lay_11, by decide, q_1344, Or.inl rfl, rfl⟩
theorem f_X12_462_11 : zFd RX12 462 11 51 1 := ⟨RX12, TX12, 52, "VoteAgainstModel", by decide, rfl, lay_11, by decide, q_1346, Or.inl rfl, rfl⟩
theorem f_X2_12_2 : zFd RX2 12 2 1 2 := ⟨RX2, TX2, 5, "VoteAgainst$Moment", by decide, rfl, lay_2, by decide, q_424, Or.inl rfl, rfl⟩
theorem f_X2_18_2 : zFd RX2 18 2 3 0 := ⟨RX2, TX2, 5, "VoteAgainst$Moment", by decide, rfl, lay_2, by decide, q_428, Or.inl rfl, rfl⟩
theorem f_X2_27_2 : zFd RX2 27 2 0 2 := ⟨RX2, TX2, 5, "VoteAgainst$Moment", by decide, rfl, lay_2, by decide, q_422, Or.inl rfl, rfl⟩
theorem f_X2_34_8 : zFd RX2 34 8 1 0 := ⟨RX9, TX9, 2, "VoteAgainst$Years", by decide, rfl, lay_8, by decide, q_365, Or.inl rfl, rfl⟩
theorem f_X2_37_2 : zFd RX2 37 2 2 0 := ⟨RX2, TX2, 5, "VoteAgainst$Moment", by decide, rfl, lay_2, by decide, q_426, Or.inl rfl, rfl⟩
theorem f_X3_11_3 : zFd RX3 11 3 0 2 := ⟨RX3, TX3, 3, "VoteAgainst$Past", by decide, rfl, lay_3, by decide, q_452, Or.inl rfl, rfl⟩
theorem f_X3_18_3 : zFd RX3 18 3 2 0 := ⟨RX3, TX3, 3, "VoteAgainst$Past", by decide, rfl, lay_3, by decide, q_454, Or.inl rfl, rfl⟩
theorem f_X3_22_3 : zFd RX3 22 3 1 0 := ⟨RX3, TX3, 3, "VoteAgainst$Past", by decide, rfl, lay_3, by decide, q_453, Or.inl rfl, rfl⟩
theorem f_X4_9_5 : zFd RX4 9 5 0 2 := ⟨RX6, TX6, 6, "VoteAgainst$Reader", by decide, rfl, lay_5, by decide, q_322, Or.inl rfl, rfl⟩
theorem f_X4_9_9 : zFd RX4 9 9 0 2 := ⟨RX10, TX10, 5, "VoteAgainst$Reader", by decide, rfl, lay_9, by decide, q_322, Or.inl rfl, rfl⟩
theorem f_X4_15_5 : zFd RX4 15 5 1 2 := ⟨RX6, TX6, 6, "VoteAgainst$Reader", by decide, rfl, lay_5, by decide, q_327, Or.inl rfl, rfl⟩
theorem f_X4_15_9 : zFd RX4 15 9 1 2 := ⟨RX10, TX10, 5, "VoteAgainst$Reader", by decide, rfl, lay_9, by decide, q_327, Or.inl rfl, rfl⟩
theorem f_X4_22_5 : zFd RX4 22 5 3 0 := ⟨RX6, TX6, 6, "VoteAgainst$Reader", by decide, rfl, lay_5, by decide, q_336, Or.inl rfl, rfl⟩
theorem f_X4_22_9 : zFd RX4 22 9 3 0 := ⟨RX10, TX10, 5, "VoteAgainst$Reader", by decide, rfl, lay_9, by decide, q_336, Or.inl rfl, rfl⟩
theorem f_X4_31_7 : zFd RX4 31 7 2 0 := ⟨RX8, TX8, 6, "VoteAgainst$Tape", by decide, rfl, lay_7, by decide, q_146, Or.inl rfl, rfl⟩
theorem f_X4_42_7 : zFd RX4 42 7 1 0 := ⟨RX8, TX8, 6, "VoteAgainst$Tape", by decide, rfl, lay_7, by decide, q_142, Or.inl rfl, rfl⟩
theorem f_X4_45_7 : zFd RX4 45 7 3 0 := ⟨RX8, TX8, 6, "VoteAgainst$Tape", by decide, rfl, lay_7, by decide, q_149, Or.inl rfl, rfl⟩
theorem f_X4_54_5 : zFd RX4 54 5 2 0 := ⟨RX6, TX6, 6, "VoteAgainst$Reader", by decide, rfl, lay_5, by decide, q_335, Or.inl rfl, rfl⟩
theorem f_X4_54_9 : zFd RX4 54 9 2 0 := ⟨RX10, TX10, 5, "VoteAgainst$Reader", by decide, rfl, lay_9, by decide, q_335, Or.inl rfl, rfl⟩
theorem f_X4_57_7 : zFd RX4 57 7 4 0 := ⟨RX8, TX8, 6, "VoteAgainst$Tape", by decide, rfl, lay_7, by decide, q_152, Or.inl rfl, rfl⟩
theorem f_X5_9_4 : zFd RX5 9 4 0 2 := ⟨RX5, TX5, 11, "VoteAgainst$Republic", by decide, rfl, lay_4, by decide, q_224, Or.inl rfl, rfl⟩
theorem f_X5_15_4 : zFd RX5 15 4 1 2 := ⟨RX5, TX5, 11, "VoteAgainst$Republic", by decide, rfl, lay_4, by decide, q_225, Or.inl rfl, rfl⟩
theorem f_X5_19_4 : zFd RX5 19 4 2 2 := ⟨RX5, TX5, 11, "VoteAgainst$Republic", by decide, rfl, lay_4, by decide, q_228, Or.inl rfl, rfl⟩
theorem f_X5_22_4 : zFd RX5 22 4 3 2 := ⟨RX5, TX5, 11, "VoteAgainst$Republic", by decide, rfl, lay_4, by decide, q_231, Or.inl rfl, rfl⟩
theorem f_X5_25_4 : zFd RX5 25 4 4 2 := ⟨RX5, TX5, 11, "VoteAgainst$Republic", by decide, rfl, lay_4, by decide, q_234, Or.inl rfl, rfl⟩
theorem f_X5_28_4 : zFd RX5 28 4 5 2 := ⟨RX5, TX5, 11, "VoteAgainst$Republic", by decide, rfl, lay_4, by decide, q_238, Or.inl rfl, rfl⟩
theorem f_X5_34_4 : zFd RX5 34 4 6 2 := ⟨RX5, TX5, 11, "VoteAgainst$Republic", by decide, rfl, lay_4, by decide, q_242, Or.inl rfl, rfl⟩
theorem f_X5_38_4 : zFd RX5 38 4 8 0 := ⟨RX5, TX5, 11, "VoteAgainst$Republic", by decide, rfl, lay_4, by decide, q_248, Or.inl rfl, rfl⟩
theorem f_X5_51_4 : zFd RX5 51 4 7 0 := ⟨RX5, TX5, 11, "VoteAgainst$Republic", by decide, rfl, lay_4, by decide, q_244, Or.inl rfl, rfl⟩
theorem f_X5_54_4 : zFd RX5 54 4 9 0 := ⟨RX5, TX5, 11, "VoteAgainst$Republic", by decide, rfl, lay_4, by decide, q_252, Or.inl rfl, rfl⟩
theorem f_X5_58_4 : zFd RX5 58 4 10 0 := ⟨RX5, TX5, 11, "VoteAgainst$Republic", by decide, rfl, lay_4, by decide, q_256, Or.inl rfl, rfl⟩
theorem f_X6_11_4 : zFd RX6 11 4 6 2 := ⟨RX5, TX5, 11, "VoteAgainst$Republic", by decide, rfl, lay_4, by decide, q_241, Or.inl rfl, rfl⟩
theorem f_X6_20_5 : zFd RX6 20 5 4 2 := ⟨RX6, TX6, 6, "VoteAgainst$RepublicReader", by decide, rfl, lay_5, by decide, q_320, Or.inl rfl, rfl⟩
theorem f_X6_26_5 : zFd RX6 26 5 1 2 := ⟨RX6, TX6, 6, "VoteAgainst$RepublicReader", by decide, rfl, lay_5, by decide, q_328, Or.inr q_329, rfl⟩
theorem f_X6_34_5 : zFd RX6 34 5 5 0 := ⟨RX6, TX6, 6, "VoteAgainst$RepublicReader", by decide, rfl, lay_5, by decide, q_321, Or.inl rfl, rfl⟩
theorem f_X6_38_5 : zFd RX6 38 5 0 2 := ⟨RX6, TX6, 6, "VoteAgainst$RepublicReader", by decide, rfl, lay_5, by decide, q_323, Or.inr q_324, rfl⟩
theorem f_X6_42_7 : zFd RX6 42 7 2 0 := ⟨RX8, TX8, 6, "VoteAgainst$Tape", by decide, rfl, lay_7, by decide, q_144, Or.inl rfl, rfl⟩
theorem f_X6_76_4 : zFd RX6 76 4 7 0 := ⟨RX5, TX5, 11, "VoteAgainst$Republic", by decide, rfl, lay_4, by decide, q_246, Or.inl rfl, rfl⟩
theorem f_X6_100_5 : zFd RX6 100 5 2 0 := ⟨RX6, TX6, 6, "VoteAgainst$RepublicReader", by decide, rfl, lay_5, by decide, q_333, Or.inr q_334, rfl⟩
theorem f_X6_113_4 : zFd RX6 113 4 5 2 := ⟨RX5, TX5, 11, "VoteAgainst$Republic", by decide, rfl, lay_4, by decide, q_240, Or.inl rfl, rfl⟩
theorem f_X6_117_4 : zFd RX6 117 4 4 2 := ⟨RX5, TX5, 11, "VoteAgainst$Republic", by decide, rfl, lay_4, by decide, q_236, Or.inl rfl, rfl⟩
theorem f_X6_123_4 : zFd RX6 123 4 8 0 := ⟨RX5, TX5, 11, "VoteAgainst$Republic", by decide, rfl, lay_4, by decide, q_249, Or.inl rfl, rfl⟩
theorem f_X6_129_4 : zFd RX6 129 4 9 0 := ⟨RX5, TX5, 11, "VoteAgainst$Republic", by decide, rfl, lay_4, by decide, q_254, Or.inl rfl, rfl⟩
theorem f_X6_133_4 : zFd RX6 133 4 10 0 := ⟨RX5, TX5, 11, "VoteAgainst$Republic", by decide, rfl, lay_4, by decide, q_257, Or.inl rfl, rfl⟩
theorem f_X6_136_1 : zFd RX6 136 1 7 0 := ⟨RX1, TX1, 12, "VoteAgainst$Laws", by decide, rfl, lay_1, by decide, q_188, Or.inl rfl, rfl⟩
theorem f_X6_141_1 : zFd RX6 141 1 8 0 := ⟨RX1, TX1, 12, "VoteAgainst$Laws", by decide, rfl, lay_1, by decide, q_190, Or.inl rfl, rfl⟩
theorem f_X6_148_1 : zFd RX6 148 1 9 0 := ⟨RX1, TX1, 12, "VoteAgainst$Laws", by decide, rfl, lay_1, by decide, q_192, Or.inl rfl, rfl⟩
theorem f_X6_151_1 : zFd RX6 151 1 10 0 := ⟨RX1, TX1, 12, "VoteAgainst$Laws", by decide, rfl, lay_1, by decide, q_194, Or.inl rfl, rfl⟩
theorem f_X6_154_1 : zFd RX6 154 1 11 0 := ⟨RX1, TX1, 12, "VoteAgainst$Laws", by decide, rfl, lay_1, by decide, q_196, Or.inl rfl, rfl⟩
theorem f_X7_9_6 : zFd RX7 9 6 1 2 := ⟨RX7, TX7, 6, "VoteAgainst$Standing", by decide, rfl, lay_6, by decide, q_389, Or.inl rfl, rfl⟩
theorem f_X7_15_6 : zFd RX7 15 6 2 2 := ⟨RX7, TX7, 6, "VoteAgainst$Standing", by decide, rfl, lay_6, by decide, q_391, Or.inl rfl, rfl⟩
theorem f_X7_18_6 : zFd RX7 18 6 3 2 := ⟨RX7, TX7, 6, "VoteAgainst$Standing", by decide, rfl, lay_6, by decide, q_393, Or.inl rfl, rfl⟩
theorem f_X7_21_6 : zFd RX7 21 6 0 2 := ⟨RX7, TX7, 6, "VoteAgainst$Standing", by decide, rfl, lay_6, by decide, q_388, Or.inl rfl, rfl⟩
theorem f_X7_25_4 : zFd RX7 25 4 5 2 := ⟨RX5, TX5, 11, "VoteAgainst$Republic", by decide, rfl, lay_4, by decide, q_239, Or.inl rfl, rfl⟩
theorem f_X7_40_4 : zFd RX7 40 4 7 0 := ⟨RX5, TX5, 11, "VoteAgainst$Republic", by decide, rfl, lay_4, by decide, q_245, Or.inl rfl, rfl⟩
theorem f_X7_44_6 : zFd RX7 44 6 4 0 := ⟨RX7, TX7, 6, "VoteAgainst$Standing", by decide, rfl, lay_6, by decide, q_395, Or.inl rfl, rfl⟩
theorem f_X7_47_6 : zFd RX7 47 6 5 0 := ⟨RX7, TX7, 6, "VoteAgainst$Standing", by decide, rfl, lay_6, by decide, q_397, Or.inl rfl, rfl⟩
theorem f_X7_56_4 : zFd RX7 56 4 9 0 := ⟨RX5, TX5, 11, "VoteAgainst$Republic", by decide, rfl, lay_4, by decide, q_253, Or.inl rfl, rfl⟩
theorem f_X7_75_4 : zFd RX7 75 4 2 2 := ⟨RX5, TX5, 11, "VoteAgainst$Republic", by decide, rfl, lay_4, by decide, q_230, Or.inl rfl, rfl⟩
theorem f_X7_78_4 : zFd RX7 78 4 10 0 := ⟨RX5, TX5, 11, "VoteAgainst$Republic", by decide, rfl, lay_4, by decide, q_258, Or.inl rfl, rfl⟩
theorem f_X7_85_4 : zFd RX7 85 4 1 2 := ⟨RX5, TX5, 11, "VoteAgainst$Republic", by decide, rfl, lay_4, by decide, q_227, Or.inl rfl, rfl⟩
theorem f_X7_92_4 : zFd RX7 92 4 6 2 := ⟨RX5, TX5, 11, "VoteAgainst$Republic", by decide, rfl, lay_4, by decide, q_243, Or.inl rfl, rfl⟩
theorem f_X7_104_4 : zFd RX7 104 4 3 2 := ⟨RX5, TX5, 11, "VoteAgainst$Republic", by decide, rfl, lay_4, by decide, q_233, Or.inl rfl, rfl⟩
theorem f_X7_116_4 : zFd RX7 116 4 4 2 := ⟨RX5, TX5, 11, "VoteAgainst$Republic", by decide, rfl, lay_4, by decide, q_237, Or.inl rfl, rfl⟩
theorem f_X7_145_4 : zFd RX7 145 4 8 0 := ⟨RX5, TX5, 11, "VoteAgainst$Republic", by decide, rfl, lay_4, by decide, q_251, Or.inl rfl, rfl⟩
theorem f_X8_9_7 : zFd RX8 9 7 0 2 := ⟨RX8, TX8, 6, "VoteAgainst$Tape", by decide, rfl, lay_7, by decide, q_139, Or.inl rfl, rfl⟩
theorem f_X8_13_7 : zFd RX8 13 7 1 0 := ⟨RX8, TX8, 6, "VoteAgainst$Tape", by decide, rfl, lay_7, by decide, q_141, Or.inl rfl, rfl⟩
theorem f_X8_17_7 : zFd RX8 17 7 5 0 := ⟨RX8, TX8, 6, "VoteAgainst$Tape", by decide, rfl, lay_7, by decide, q_153, Or.inl rfl, rfl⟩
theorem f_X8_23_7 : zFd RX8 23 7 3 0 := ⟨RX8, TX8, 6, "VoteAgainst$Tape", by decide, rfl, lay_7, by decide, q_148, Or.inl rfl, rfl⟩
theorem f_X8_30_7 : zFd RX8 30 7 2 0 := ⟨RX8, TX8, 6, "VoteAgainst$Tape", by decide, rfl, lay_7, by decide, q_147, Or.inl rfl, rfl⟩
theorem f_X8_57_7 : zFd RX8 57 7 4 0 := ⟨RX8, TX8, 6, "VoteAgainst$Tape", by decide, rfl, lay_7, by decide, q_151, Or.inl rfl, rfl⟩
theorem f_X9_9_8 : zFd RX9 9 8 0 2 := ⟨RX9, TX9, 2, "VoteAgainst$Years", by decide, rfl, lay_8, by decide, q_362, Or.inl rfl, rfl⟩
theorem f_X9_19_8 : zFd RX9 19 8 1 0 := ⟨RX9, TX9, 2, "VoteAgainst$Years", by decide, rfl, lay_8, by decide, q_366, Or.inl rfl, rfl⟩
theorem fp_0_3 : zFp 0 3 .int := ⟨RX0, TX0, 7, tyX0, rfl, tyX0_ok, nmX0, rfl, tyX0_ok 3 (by decide)⟩
theorem fp_0_4 : zFp 0 4 .int := ⟨RX0, TX0, 7, tyX0, rfl, tyX0_ok, nmX0, rfl, tyX0_ok 4 (by decide)⟩
theorem fp_0_5 : zFp 0 5 .int := ⟨RX0, TX0, 7, tyX0, rfl, tyX0_ok, nmX0, rfl, tyX0_ok 5 (by decide)⟩
theorem fp_0_6 : zFp 0 6 .boolean := ⟨RX0, TX0, 7, tyX0, rfl, tyX0_ok, nmX0, rfl, tyX0_ok 6 (by decide)⟩
theorem fp_1_2 : zFp 1 2 .int := ⟨RX1, TX1, 12, tyX1, rfl, tyX1_ok, nmX1, rfl, tyX1_ok 2 (by decide)⟩
theorem fp_1_3 : zFp 1 3 .int := ⟨RX1, TX1, 12, tyX1, rfl, tyX1_ok, nmX1, rfl, tyX1_ok 3 (by decide)⟩
theorem fp_1_4 : zFp 1 4 .int := ⟨RX1, TX1, 12, tyX1, rfl, tyX1_ok, nmX1, rfl, tyX1_ok 4 (by decide)⟩
theorem fp_1_5 : zFp 1 5 .int := ⟨RX1, TX1, 12, tyX1, rfl, tyX1_ok, nmX1, rfl, tyX1_ok 5 (by decide)⟩
theorem fp_1_6 : zFp 1 6 .int := ⟨RX1, TX1, 12, tyX1, rfl, tyX1_ok, nmX1, rfl, tyX1_ok 6 (by decide)⟩
theorem fp_1_7 : zFp 1 7 .int := ⟨RX1, TX1, 12, tyX1, rfl, tyX1_ok, nmX1, rfl, tyX1_ok 7 (by decide)⟩
theorem fp_1_8 : zFp 1 8 .int := ⟨RX1, TX1, 12, tyX1, rfl, tyX1_ok, nmX1, rfl, tyX1_ok 8 (by decide)⟩
theorem fp_1_9 : zFp 1 9 .int := ⟨RX1, TX1, 12, tyX1, rfl, tyX1_ok, nmX1, rfl, tyX1_ok 9 (by decide)⟩
theorem fp_1_10 : zFp 1 10 .int := ⟨RX1, TX1, 12, tyX1, rfl, tyX1_ok, nmX1, rfl, tyX1_ok 10 (by decide)⟩
theorem fp_1_11 : zFp 1 11 .int := ⟨RX1, TX1, 12, tyX1, rfl, tyX1_ok, nmX1, rfl, tyX1_ok 11 (by decide)⟩
theorem fp_2_2 : zFp 2 2 .int := ⟨RX2, TX2, 5, tyX2, rfl, tyX2_ok, nmX2, rfl, tyX2_ok 2 (by decide)⟩
theorem fp_2_3 : zFp 2 3 .int := ⟨RX2, TX2, 5, tyX2, rfl, tyX2_ok, nmX2, rfl, tyX2_ok 3 (by decide)⟩
theorem fp_2_4 : zFp 2 4 .boolean := ⟨RX2, TX2, 5, tyX2, rfl, tyX2_ok, nmX2, rfl, tyX2_ok 4 (by decide)⟩
theorem fp_3_1 : zFp 3 1 .int := ⟨RX3, TX3, 3, tyX3, rfl, tyX3_ok, nmX3, rfl, tyX3_ok 1 (by decide)⟩
theorem fp_3_2 : zFp 3 2 .int := ⟨RX3, TX3, 3, tyX3, rfl, tyX3_ok, nmX3, rfl, tyX3_ok 2 (by decide)⟩
theorem fp_4_7 : zFp 4 7 .int := ⟨RX5, TX5, 11, tyX5, rfl, tyX5_ok, nmX5, rfl, tyX5_ok 7 (by decide)⟩
theorem fp_4_8 : zFp 4 8 .int := ⟨RX5, TX5, 11, tyX5, rfl, tyX5_ok, nmX5, rfl, tyX5_ok 8 (by decide)⟩
theorem fp_4_9 : zFp 4 9 .boolean := ⟨RX5, TX5, 11, tyX5, rfl, tyX5_ok, nmX5, rfl, tyX5_ok 9 (by decide)⟩
theorem fp_4_10 : zFp 4 10 .boolean := ⟨RX5, TX5, 11, tyX5, rfl, tyX5_ok, nmX5, rfl, tyX5_ok 10 (by decide)⟩
theorem fp_5_2 : zFp 5 2 .int := ⟨RX6, TX6, 6, tyX6, rfl, tyX6_ok, nmX6, rfl, tyX6_ok 2 (by decide)⟩
theorem fp_5_3 : zFp 5 3 .int := ⟨RX6, TX6, 6, tyX6, rfl, tyX6_ok, nmX6, rfl, tyX6_ok 3 (by decide)⟩
theorem fp_5_5 : zFp 5 5 .int := ⟨RX6, TX6, 6, tyX6, rfl, tyX6_ok, nmX6, rfl, tyX6_ok 5 (by decide)⟩
theorem fp_6_4 : zFp 6 4 .int := ⟨RX7, TX7, 6, tyX7, rfl, tyX7_ok, nmX7, rfl, tyX7_ok 4 (by decide)⟩
theorem fp_6_5 : zFp 6 5 .int := ⟨RX7, TX7, 6, tyX7, rfl, tyX7_ok, nmX7, rfl, tyX7_ok 5 (by decide)⟩
theorem fp_7_1 : zFp 7 1 .int := ⟨RX8, TX8, 6, tyX8, rfl, tyX8_ok, nmX8, rfl, tyX8_ok 1 (by decide)⟩
theorem fp_7_2 : zFp 7 2 .int := ⟨RX8, TX8, 6, tyX8, rfl, tyX8_ok, nmX8, rfl, tyX8_ok 2 (by decide)⟩
theorem fp_7_3 : zFp 7 3 .int := ⟨RX8, TX8, 6, tyX8, rfl, tyX8_ok, nmX8, rfl, tyX8_ok 3 (by decide)⟩
theorem fp_7_4 : zFp 7 4 .int := ⟨RX8, TX8, 6, tyX8, rfl, tyX8_ok, nmX8, rfl, tyX8_ok 4 (by decide)⟩
theorem fp_7_5 : zFp 7 5 .int := ⟨RX8, TX8, 6, tyX8, rfl, tyX8_ok, nmX8, rfl, tyX8_ok 5 (by decide)⟩
theorem fp_8_1 : zFp 8 1 .int := ⟨RX9, TX9, 2, tyX9, rfl, tyX9_ok, nmX9, rfl, tyX9_ok 1 (by decide)⟩
theorem fp_9_2 : zFp 9 2 .int := ⟨RX10, TX10, 5, tyX10, rfl, tyX10_ok, nmX10, rfl, tyX10_ok 2 (by decide)⟩
theorem fp_9_3 : zFp 9 3 .int := ⟨RX10, TX10, 5, tyX10, rfl, tyX10_ok, nmX10, rfl, tyX10_ok 3 (by decide)⟩
theorem fp_10_9 : zFp 10 9 .long := ⟨RX11, TX11, 10, tyX11, rfl, tyX11_ok, nmX11, rfl, tyX11_ok 9 (by decide)⟩
theorem fp_11_0 : zFp 11 0 .int := ⟨RX12, TX12, 52, tyX12, rfl, tyX12_ok, nmX12, rfl, tyX12_ok 0 (by decide)⟩
theorem fp_11_1 : zFp 11 1 .int := ⟨RX12, TX12, 52, tyX12, rfl, tyX12_ok, nmX12, rfl, tyX12_ok 1 (by decide)⟩
theorem fp_11_3 : zFp 11 3 .int := ⟨RX12, TX12, 52, tyX12, rfl, tyX12_ok, nmX12, rfl, tyX12_ok 3 (by decide)⟩
theorem fp_11_4 : zFp 11 4 .int := ⟨RX12, TX12, 52, tyX12, rfl, tyX12_ok, nmX12, rfl, tyX12_ok 4 (by decide)⟩
theorem fp_11_5 : zFp 11 5 .int := ⟨RX12, TX12, 52, tyX12, rfl, tyX12_ok, nmX12, rfl, tyX12_ok 5 (by decide)⟩
theorem fp_11_6 : zFp 11 6 .int := ⟨RX12, TX12, 52, tyX12, rfl, tyX12_ok, nmX12, rfl, tyX12_ok 6 (by decide)⟩
theorem fp_11_7 : zFp 11 7 .long := ⟨RX12, TX12, 52, tyX12, rfl, tyX12_ok, nmX12, rfl, tyX12_ok 7 (by decide)⟩
theorem fp_11_8 : zFp 11 8 .int := ⟨RX12, TX12, 52, tyX12, rfl, tyX12_ok, nmX12, rfl, tyX12_ok 8 (by decide)⟩
theorem fp_11_9 : zFp 11 9 .int := ⟨RX12, TX12, 52, tyX12, rfl, tyX12_ok, nmX12, rfl, tyX12_ok 9 (by decide)⟩
theorem fp_11_21 : zFp 11 21 .int := ⟨RX12, TX12, 52, tyX12, rfl, tyX12_ok, nmX12, rfl, tyX12_ok 21 (by decide)⟩
theorem fp_11_22 : zFp 11 22 .int := ⟨RX12, TX12, 52, tyX12, rfl, tyX12_ok, nmX12, rfl, tyX12_ok 22 (by decide)⟩
theorem fp_11_35 : zFp 11 35 .int := ⟨RX12, TX12, 52, tyX12, rfl, tyX12_ok, nmX12, rfl, tyX12_ok 35 (by decide)⟩
theorem fp_11_36 : zFp 11 36 .int := ⟨RX12, TX12, 52, tyX12, rfl, tyX12_ok, nmX12, rfl, tyX12_ok 36 (by decide)⟩
theorem fp_11_49 : zFp 11 49 .int := ⟨RX12, TX12, 52, tyX12, rfl, tyX12_ok, nmX12, rfl, tyX12_ok 49 (by decide)⟩
theorem fp_11_51 : zFp 11 51 .long := ⟨RX12, TX12, 52, tyX12, rfl, tyX12_ok, nmX12, rfl, tyX12_ok 51 (by decide)⟩
theorem zw_max : Cond.static Lib.Math.max.name ∈ zTb ∧ Cond.initialized "java/lang/Math" ∈ zTb ∧ Cond.code Lib.Math.max.name Lib.Math.max.code 2 (some .int) ∈ zTb := ⟨q_627, q_117, q_628⟩
theorem zw_min : Cond.static Lib.Math.min.name ∈ zTb ∧ Cond.initialized "java/lang/Math" ∈ zTb ∧ Cond.code Lib.Math.min.name Lib.Math.min.code 2 (some .int) ∈ zTb := ⟨q_630, q_117, q_631⟩
theorem zw_copy : Cond.native arraycopyName ∈ zTb ∧ Cond.static arraycopyName ∈ zTb ∧ Cond.initialized "java/lang/System" ∈ zTb := ⟨q_837, q_836, q_119⟩
