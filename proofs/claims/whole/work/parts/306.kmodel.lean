theorem q_1290 : Cond.methodLink RX12 1 Lib.objectInit ∈ zTb := zq_5 232 (by decide +kernel) rfl
theorem kff_X12_7_11 : kFf RX12 7 11 2 (.array .int) := ⟨RX12, TX12, 52, tyX12, "VoteAgainstModel", rfl, lay_11, tyX12_ok, nmX12, by decide, q_1297, Or.inl rfl, rfl, rfl, tyX12_ok 2 (by decide)⟩
theorem kff_X12_13_11 : kFf RX12 13 11 10 (.array .int) := ⟨RX12, TX12, 52, tyX12, "VoteAgainstModel", rfl, lay_11, tyX12_ok, nmX12, by decide, q_1305, Or.inl rfl, rfl, rfl, tyX12_ok 10 (by decide)⟩
theorem kff_X12_16_11 : kFf RX12 16 11 11 (.array .long) := ⟨RX12, TX12, 52, tyX12, "VoteAgainstModel", rfl, lay_11, tyX12_ok, nmX12, by decide, q_1306, Or.inl rfl, rfl, rfl, tyX12_ok 11 (by decide)⟩
theorem kff_X12_20_11 : kFf RX12 20 11 12 (.array .int) := ⟨RX12, TX12, 52, tyX12, "VoteAgainstModel", rfl, lay_11, tyX12_ok, nmX12, by decide, q_1307, Or.inl rfl, rfl, rfl, tyX12_ok 12 (by decide)⟩
theorem kff_X12_23_11 : kFf RX12 23 11 13 (.array .int) := ⟨RX12, TX12, 52, tyX12, "VoteAgainstModel", rfl, lay_11, tyX12_ok, nmX12, by decide, q_1308, Or.inl rfl, rfl, rfl, tyX12_ok 13 (by decide)⟩
theorem kff_X12_26_11 : kFf RX12 26 11 14 (.array .int) := ⟨RX12, TX12, 52, tyX12, "VoteAgainstModel", rfl, lay_11, tyX12_ok, nmX12, by decide, q_1309, Or.inl rfl, rfl, rfl, tyX12_ok 14 (by decide)⟩
theorem kff_X12_29_11 : kFf RX12 29 11 15 (.array .int) := ⟨RX12, TX12, 52, tyX12, "VoteAgainstModel", rfl, lay_11, tyX12_ok, nmX12, by decide, q_1310, Or.inl rfl, rfl, rfl, tyX12_ok 15 (by decide)⟩
theorem kff_X12_32_11 : kFf RX12 32 11 16 (.array .int) := ⟨RX12, TX12, 52, tyX12, "VoteAgainstModel", rfl, lay_11, tyX12_ok, nmX12, by decide, q_1311, Or.inl rfl, rfl, rfl, tyX12_ok 16 (by decide)⟩
theorem kff_X12_35_11 : kFf RX12 35 11 17 (.array .boolean) := ⟨RX12, TX12, 52, tyX12, "VoteAgainstModel", rfl, lay_11, tyX12_ok, nmX12, by decide, q_1312, Or.inl rfl, rfl, rfl, tyX12_ok 17 (by decide)⟩
theorem q_1452 : Cond.arrayClass .boolean ∈ zTb := zq_6 154 (by decide +kernel) rfl
theorem kff_X12_39_11 : kFf RX12 39 11 18 (.array .int) := ⟨RX12, TX12, 52, tyX12, "VoteAgainstModel", rfl, lay_11, tyX12_ok, nmX12, by decide, q_1313, Or.inl rfl, rfl, rfl, tyX12_ok 18 (by decide)⟩
theorem kff_X12_42_11 : kFf RX12 42 11 19 (.array .int) := ⟨RX12, TX12, 52, tyX12, "VoteAgainstModel", rfl, lay_11, tyX12_ok, nmX12, by decide, q_1314, Or.inl rfl, rfl, rfl, tyX12_ok 19 (by decide)⟩
theorem kff_X12_45_11 : kFf RX12 45 11 20 (.array .int) := ⟨RX12, TX12, 52, tyX12, "VoteAgainstModel", rfl, lay_11, tyX12_ok, nmX12, by decide, q_1315, Or.inl rfl, rfl, rfl, tyX12_ok 20 (by decide)⟩
theorem kff_X12_48_11 : kFf RX12 48 11 23 (.array .int) := ⟨RX12, TX12, 52, tyX12, "VoteAgainstModel", rfl, lay_11, tyX12_ok, nmX12, by decide, q_1318, Or.inl rfl, rfl, rfl, tyX12_ok 23 (by decide)⟩
theorem kff_X12_51_11 : kFf RX12 51 11 24 (.array .boolean) := ⟨RX12, TX12, 52, tyX12, "VoteAgainstModel", rfl, lay_11, tyX12_ok, nmX12, by decide, q_1319, Or.inl rfl, rfl, rfl, tyX12_ok 24 (by decide)⟩
theorem kff_X12_54_11 : kFf RX12 54 11 25 (.array .int) := ⟨RX12, TX12, 52, tyX12, "VoteAgainstModel", rfl, lay_11, tyX12_ok, nmX12, by decide, q_1320, Or.inl rfl, rfl, rfl, tyX12_ok 25 (by decide)⟩
theorem kff_X12_57_11 : kFf RX12 57 11 26 (.array .int) := ⟨RX12, TX12, 52, tyX12, "VoteAgainstModel", rfl, lay_11, tyX12_ok, nmX12, by decide, q_1321, Or.inl rfl, rfl, rfl, tyX12_ok 26 (by decide)⟩
theorem kff_X12_60_11 : kFf RX12 60 11 27 (.array .int) := ⟨RX12, TX12, 52, tyX12, "VoteAgainstModel", rfl, lay_11, tyX12_ok, nmX12, by decide, q_1322, Or.inl rfl, rfl, rfl, tyX12_ok 27 (by decide)⟩
theorem kff_X12_63_11 : kFf RX12 63 11 28 (.array .int) := ⟨RX12, TX12, 52, tyX12, "VoteAgainstModel", rfl, lay_11, tyX12_ok, nmX12, by decide, q_1323, Or.inl rfl, rfl, rfl, tyX12_ok 28 (by decide)⟩
theorem kff_X12_66_11 : kFf RX12 66 11 29 (.array .int) := ⟨RX12, TX12, 52, tyX12, "VoteAgainstModel", rfl, lay_11, tyX12_ok, nmX12, by decide, q_1324, Or.inl rfl, rfl, rfl, tyX12_ok 29 (by decide)⟩
theorem kff_X12_69_11 : kFf RX12 69 11 30 (.array .int) := ⟨RX12, TX12, 52, tyX12, "VoteAgainstModel", rfl, lay_11, tyX12_ok, nmX12, by decide, q_1325, Or.inl rfl, rfl, rfl, tyX12_ok 30 (by decide)⟩
theorem kff_X12_72_11 : kFf RX12 72 11 31 (.array .int) := ⟨RX12, TX12, 52, tyX12, "VoteAgainstModel", rfl, lay_11, tyX12_ok, nmX12, by decide, q_1326, Or.inl rfl, rfl, rfl, tyX12_ok 31 (by decide)⟩
theorem kff_X12_75_11 : kFf RX12 75 11 32 (.array .int) := ⟨RX12, TX12, 52, tyX12, "VoteAgainstModel", rfl, lay_11, tyX12_ok, nmX12, by decide, q_1327, Or.inl rfl, rfl, rfl, tyX12_ok 32 (by decide)⟩
theorem kff_X12_78_11 : kFf RX12 78 11 33 (.array .int) := ⟨RX12, TX12, 52, tyX12, "VoteAgainstModel", rfl, lay_11, tyX12_ok, nmX12, by decide, q_1328, Or.inl rfl, rfl, rfl, tyX12_ok 33 (by decide)⟩
theorem kff_X12_81_11 : kFf RX12 81 11 34 (.array .int) := ⟨RX12, TX12, 52, tyX12, "VoteAgainstModel", rfl, lay_11, tyX12_ok, nmX12, by decide, q_1329, Or.inl rfl, rfl, rfl, tyX12_ok 34 (by decide)⟩
theorem kff_X12_84_11 : kFf RX12 84 11 37 (.array .int) := ⟨RX12, TX12, 52, tyX12, "VoteAgainstModel", rfl, lay_11, tyX12_ok, nmX12, by decide, q_1332, Or.inl rfl, rfl, rfl, tyX12_ok 37 (by decide)⟩
theorem kff_X12_87_11 : kFf RX12 87 11 38 (.array .int) := ⟨RX12, TX12, 52, tyX12, "VoteAgainstModel", rfl, lay_11, tyX12_ok, nmX12, by decide, q_1333, Or.inl rfl, rfl, rfl, tyX12_ok 38 (by decide)⟩
theorem kff_X12_90_11 : kFf RX12 90 11 39 (.array .int) := ⟨RX12, TX12, 52, tyX12, "VoteAgainstModel", rfl, lay_11, tyX12_ok, nmX12, by decide, q_1334, Or.inl rfl, rfl, rfl, tyX12_ok 39 (by decide)⟩
theorem kff_X12_93_11 : kFf RX12 93 11 40 (.array .int) := ⟨RX12, TX12, 52, tyX12, "VoteAgainstModel", rfl, lay_11, tyX12_ok, nmX12, by decide, q_1335, Or.inl rfl, rfl, rfl, tyX12_ok 40 (by decide)⟩
theorem kff_X12_96_11 : kFf RX12 96 11 41 (.array .int) := ⟨RX12, TX12, 52, tyX12, "VoteAgainstModel", rfl, lay_11, tyX12_ok, nmX12, by decide, q_1336, Or.inl rfl, rfl, rfl, tyX12_ok 41 (by decide)⟩
theorem kff_X12_99_11 : kFf RX12 99 11 42 (.array .int) := ⟨RX12, TX12, 52, tyX12, "VoteAgainstModel", rfl, lay_11, tyX12_ok, nmX12, by decide, q_1337, Or.inl rfl, rfl, rfl, tyX12_ok 42 (by decide)⟩
theorem kff_X12_102_11 : kFf RX12 102 11 43 (.array .boolean) := ⟨RX12, TX12, 52, tyX12, "VoteAgainstModel", rfl, lay_11, tyX12_ok, nmX12, by decide, q_1338, Or.inl rfl, rfl, rfl, tyX12_ok 43 (by decide)⟩
theorem kff_X12_105_11 : kFf RX12 105 11 44 (.array .int) := ⟨RX12, TX12, 52, tyX12, "VoteAgainstModel", rfl, lay_11, tyX12_ok, nmX12, by decide, q_1339, Or.inl rfl, rfl, rfl, tyX12_ok 44 (by decide)⟩
theorem kff_X12_108_11 : kFf RX12 108 11 45 (.array .int) := ⟨RX12, TX12, 52, tyX12, "VoteAgainstModel", rfl, lay_11, tyX12_ok, nmX12, by decide, q_1340, Or.inl rfl, rfl, rfl, tyX12_ok 45 (by decide)⟩
theorem kff_X12_111_11 : kFf RX12 111 11 46 (.array .int) := ⟨RX12, TX12, 52, tyX12, "VoteAgainstModel", rfl, lay_11, tyX12_ok, nmX12, by decide, q_1341, Or.inl rfl, rfl, rfl, tyX12_ok 46 (by decide)⟩
theorem kff_X12_114_11 : kFf RX12 114 11 47 (.array .int) := ⟨RX12, TX12, 52, tyX12, "VoteAgainstModel", rfl, lay_11, tyX12_ok, nmX12, by decide, q_1342, Or.inl rfl, rfl, rfl, tyX12_ok 47 (by decide)⟩
theorem kff_X12_117_11 : kFf RX12 117 11 48 (.array .boolean) := ⟨RX12, TX12, 52, tyX12, "VoteAgainstModel", rfl, lay_11, tyX12_ok, nmX12, by decide, q_1343, Or.inl rfl, rfl, rfl, tyX12_ok 48 (by decide)⟩
theorem kff_X12_120_11 : kFf RX12 120 11 50 (.array .int) := ⟨RX12, TX12, 52, tyX12, "VoteAgainstModel", rfl, lay_11, tyX12_ok, nmX12, by decide, q_1345, Or.inl rfl, rfl, rfl, tyX12_ok 50 (by decide)⟩
theorem kgf_X12_13_11 : kGf RX12 13 11 10 := ⟨RX12, TX12, 52, "VoteAgainstModel", rfl, lay_11, by decide, q_1305, Or.inl rfl⟩
theorem kgf_X12_29_11 : kGf RX12 29 11 15 := ⟨RX12, TX12, 52, "VoteAgainstModel", rfl, lay_11, by decide, q_1310, Or.inl rfl⟩
theorem kgf_X12_105_11 : kGf RX12 105 11 44 := ⟨RX12, TX12, 52, "VoteAgainstModel", rfl, lay_11, by decide, q_1339, Or.inl rfl⟩
theorem kgf_X12_32_11 : kGf RX12 32 11 16 := ⟨RX12, TX12, 52, "VoteAgainstModel", rfl, lay_11, by decide, q_1311, Or.inl rfl⟩
theorem dX12_init_0 : decode cX12_init 0 = .ok (.aload_n 0, 1) := by decide +kernel
theorem dX12_init_1 : decode cX12_init 1 = .ok (.invokespecial 1, 3) := by decide +kernel
theorem dX12_init_4 : decode cX12_init 4 = .ok (.aload_n 0, 1) := by decide +kernel
theorem dX12_init_5 : decode cX12_init 5 = .ok (.sipush 1000, 3) := by decide +kernel
theorem dX12_init_8 : decode cX12_init 8 = .ok (.newarray .int, 2) := by decide +kernel
theorem dX12_init_10 : decode cX12_init 10 = .ok (.putfield 7, 3) := by decide +kernel
theorem dX12_init_13 : decode cX12_init 13 = .ok (.aload_n 0, 1) := by decide +kernel
theorem dX12_init_14 : decode cX12_init 14 = .ok (.bipush 8, 2) := by decide +kernel
theorem dX12_init_16 : decode cX12_init 16 = .ok (.newarray .int, 2) := by decide +kernel
theorem dX12_init_18 : decode cX12_init 18 = .ok (.putfield 13, 3) := by decide +kernel
theorem dX12_init_21 : decode cX12_init 21 = .ok (.aload_n 0, 1) := by decide +kernel
theorem dX12_init_22 : decode cX12_init 22 = .ok (.bipush 14, 2) := by decide +kernel
theorem dX12_init_24 : decode cX12_init 24 = .ok (.newarray .long, 2) := by decide +kernel
theorem dX12_init_26 : decode cX12_init 26 = .ok (.putfield 16, 3) := by decide +kernel
theorem dX12_init_29 : decode cX12_init 29 = .ok (.aload_n 0, 1) := by decide +kernel
theorem dX12_init_30 : decode cX12_init 30 = .ok (.bipush 14, 2) := by decide +kernel
theorem dX12_init_32 : decode cX12_init 32 = .ok (.newarray .int, 2) := by decide +kernel
theorem dX12_init_34 : decode cX12_init 34 = .ok (.putfield 20, 3) := by decide +kernel
theorem dX12_init_37 : decode cX12_init 37 = .ok (.aload_n 0, 1) := by decide +kernel
theorem dX12_init_38 : decode cX12_init 38 = .ok (.bipush 14, 2) := by decide +kernel
theorem dX12_init_40 : decode cX12_init 40 = .ok (.newarray .int, 2) := by decide +kernel
theorem dX12_init_42 : decode cX12_init 42 = .ok (.putfield 23, 3) := by decide +kernel
theorem dX12_init_45 : decode cX12_init 45 = .ok (.aload_n 0, 1) := by decide +kernel
theorem dX12_init_46 : decode cX12_init 46 = .ok (.bipush 14, 2) := by decide +kernel
theorem dX12_init_48 : decode cX12_init 48 = .ok (.newarray .int, 2) := by decide +kernel
theorem dX12_init_50 : decode cX12_init 50 = .ok (.putfield 26, 3) := by decide +kernel
theorem dX12_init_53 : decode cX12_init 53 = .ok (.aload_n 0, 1) := by decide +kernel
theorem dX12_init_54 : decode cX12_init 54 = .ok (.bipush 14, 2) := by decide +kernel
theorem dX12_init_56 : decode cX12_init 56 = .ok (.newarray .int, 2) := by decide +kernel
theorem dX12_init_58 : decode cX12_init 58 = .ok (.putfield 29, 3) := by decide +kernel
theorem dX12_init_61 : decode cX12_init 61 = .ok (.aload_n 0, 1) := by decide +kernel
theorem dX12_init_62 : decode cX12_init 62 = .ok (.bipush 98, 2) := by decide +kernel
theorem dX12_init_64 : decode cX12_init 64 = .ok (.newarray .int, 2) := by decide +kernel
theorem dX12_init_66 : decode cX12_init 66 = .ok (.putfield 32, 3) := by decide +kernel
theorem dX12_init_69 : decode cX12_init 69 = .ok (.aload_n 0, 1) := by decide +kernel
theorem dX12_init_70 : decode cX12_init 70 = .ok (.bipush 49, 2) := by decide +kernel
theorem dX12_init_72 : decode cX12_init 72 = .ok (.newarray .boolean, 2) := by decide +kernel
theorem dX12_init_74 : decode cX12_init 74 = .ok (.putfield 35, 3) := by decide +kernel
theorem dX12_init_77 : decode cX12_init 77 = .ok (.aload_n 0, 1) := by decide +kernel
theorem dX12_init_78 : decode cX12_init 78 = .ok (.iconst 4, 1) := by decide +kernel
theorem dX12_init_79 : decode cX12_init 79 = .ok (.newarray .int, 2) := by decide +kernel
theorem dX12_init_81 : decode cX12_init 81 = .ok (.putfield 39, 3) := by decide +kernel
theorem dX12_init_84 : decode cX12_init 84 = .ok (.aload_n 0, 1) := by decide +kernel
theorem dX12_init_85 : decode cX12_init 85 = .ok (.iconst 4, 1) := by decide +kernel
theorem dX12_init_86 : decode cX12_init 86 = .ok (.newarray .int, 2) := by decide +kernel
theorem dX12_init_88 : decode cX12_init 88 = .ok (.putfield 42, 3) := by decide +kernel
theorem dX12_init_91 : decode cX12_init 91 = .ok (.aload_n 0, 1) := by decide +kernel
theorem dX12_init_92 : decode cX12_init 92 = .ok (.sipush 2000, 3) := by decide +kernel
theorem dX12_init_95 : decode cX12_init 95 = .ok (.newarray .int, 2) := by decide +kernel
theorem dX12_init_97 : decode cX12_init 97 = .ok (.putfield 45, 3) := by decide +kernel
theorem dX12_init_100 : decode cX12_init 100 = .ok (.aload_n 0, 1) := by decide +kernel
theorem dX12_init_101 : decode cX12_init 101 = .ok (.bipush 7, 2) := by decide +kernel
theorem dX12_init_103 : decode cX12_init 103 = .ok (.newarray .int, 2) := by decide +kernel
theorem dX12_init_105 : decode cX12_init 105 = .ok (.putfield 48, 3) := by decide +kernel
theorem dX12_init_108 : decode cX12_init 108 = .ok (.aload_n 0, 1) := by decide +kernel
theorem dX12_init_109 : decode cX12_init 109 = .ok (.bipush 7, 2) := by decide +kernel
theorem dX12_init_111 : decode cX12_init 111 = .ok (.newarray .boolean, 2) := by decide +kernel
theorem dX12_init_113 : decode cX12_init 113 = .ok (.putfield 51, 3) := by decide +kernel
theorem dX12_init_116 : decode cX12_init 116 = .ok (.aload_n 0, 1) := by decide +kernel
theorem dX12_init_117 : decode cX12_init 117 = .ok (.bipush 7, 2) := by decide +kernel
theorem dX12_init_119 : decode cX12_init 119 = .ok (.newarray .int, 2) := by decide +kernel
theorem dX12_init_121 : decode cX12_init 121 = .ok (.putfield 54, 3) := by decide +kernel
theorem dX12_init_124 : decode cX12_init 124 = .ok (.aload_n 0, 1) := by decide +kernel
theorem dX12_init_125 : decode cX12_init 125 = .ok (.bipush 7, 2) := by decide +kernel
theorem dX12_init_127 : decode cX12_init 127 = .ok (.newarray .int, 2) := by decide +kernel
theorem dX12_init_129 : decode cX12_init 129 = .ok (.putfield 57, 3) := by decide +kernel
theorem dX12_init_132 : decode cX12_init 132 = .ok (.aload_n 0, 1) := by decide +kernel
theorem dX12_init_133 : decode cX12_init 133 = .ok (.bipush 7, 2) := by decide +kernel
theorem dX12_init_135 : decode cX12_init 135 = .ok (.newarray .int, 2) := by decide +kernel
theorem dX12_init_137 : decode cX12_init 137 = .ok (.putfield 60, 3) := by decide +kernel
theorem dX12_init_140 : decode cX12_init 140 = .ok (.aload_n 0, 1) := by decide +kernel
theorem dX12_init_141 : decode cX12_init 141 = .ok (.bipush 7, 2) := by decide +kernel
theorem dX12_init_143 : decode cX12_init 143 = .ok (.newarray .int, 2) := by decide +kernel
theorem dX12_init_145 : decode cX12_init 145 = .ok (.putfield 63, 3) := by decide +kernel
theorem dX12_init_148 : decode cX12_init 148 = .ok (.aload_n 0, 1) := by decide +kernel
theorem dX12_init_149 : decode cX12_init 149 = .ok (.bipush 7, 2) := by decide +kernel
theorem dX12_init_151 : decode cX12_init 151 = .ok (.newarray .int, 2) := by decide +kernel
theorem dX12_init_153 : decode cX12_init 153 = .ok (.putfield 66, 3) := by decide +kernel
theorem dX12_init_156 : decode cX12_init 156 = .ok (.aload_n 0, 1) := by decide +kernel
theorem dX12_init_157 : decode cX12_init 157 = .ok (.bipush 7, 2) := by decide +kernel
theorem dX12_init_159 : decode cX12_init 159 = .ok (.newarray .int, 2) := by decide +kernel
theorem dX12_init_161 : decode cX12_init 161 = .ok (.putfield 69, 3) := by decide +kernel
theorem dX12_init_164 : decode cX12_init 164 = .ok (.aload_n 0, 1) := by decide +kernel
theorem dX12_init_165 : decode cX12_init 165 = .ok (.bipush 7, 2) := by decide +kernel
theorem dX12_init_167 : decode cX12_init 167 = .ok (.newarray .int, 2) := by decide +kernel
theorem dX12_init_169 : decode cX12_init 169 = .ok (.putfield 72, 3) := by decide +kernel
theorem dX12_init_172 : decode cX12_init 172 = .ok (.aload_n 0, 1) := by decide +kernel
theorem dX12_init_173 : decode cX12_init 173 = .ok (.bipush 7, 2) := by decide +kernel
theorem dX12_init_175 : decode cX12_init 175 = .ok (.newarray .int, 2) := by decide +kernel
theorem dX12_init_177 : decode cX12_init 177 = .ok (.putfield 75, 3) := by decide +kernel
theorem dX12_init_180 : decode cX12_init 180 = .ok (.aload_n 0, 1) := by decide +kernel
theorem dX12_init_181 : decode cX12_init 181 = .ok (.bipush 7, 2) := by decide +kernel
theorem dX12_init_183 : decode cX12_init 183 = .ok (.newarray .int, 2) := by decide +kernel
theorem dX12_init_185 : decode cX12_init 185 = .ok (.putfield 78, 3) := by decide +kernel
theorem dX12_init_188 : decode cX12_init 188 = .ok (.aload_n 0, 1) := by decide +kernel
theorem dX12_init_189 : decode cX12_init 189 = .ok (.bipush 20, 2) := by decide +kernel
theorem dX12_init_191 : decode cX12_init 191 = .ok (.newarray .int, 2) := by decide +kernel
theorem dX12_init_193 : decode cX12_init 193 = .ok (.putfield 81, 3) := by decide +kernel
theorem dX12_init_196 : decode cX12_init 196 = .ok (.aload_n 0, 1) := by decide +kernel
theorem dX12_init_197 : decode cX12_init 197 = .ok (.bipush 6, 2) := by decide +kernel
theorem dX12_init_199 : decode cX12_init 199 = .ok (.newarray .int, 2) := by decide +kernel
theorem dX12_init_201 : decode cX12_init 201 = .ok (.putfield 84, 3) := by decide +kernel
theorem dX12_init_204 : decode cX12_init 204 = .ok (.aload_n 0, 1) := by decide +kernel
theorem dX12_init_205 : decode cX12_init 205 = .ok (.sipush 240, 3) := by decide +kernel
theorem dX12_init_208 : decode cX12_init 208 = .ok (.newarray .int, 2) := by decide +kernel
theorem dX12_init_210 : decode cX12_init 210 = .ok (.putfield 87, 3) := by decide +kernel
theorem dX12_init_213 : decode cX12_init 213 = .ok (.aload_n 0, 1) := by decide +kernel
theorem dX12_init_214 : decode cX12_init 214 = .ok (.sipush 240, 3) := by decide +kernel
theorem dX12_init_217 : decode cX12_init 217 = .ok (.newarray .int, 2) := by decide +kernel
theorem dX12_init_219 : decode cX12_init 219 = .ok (.putfield 90, 3) := by decide +kernel
theorem dX12_init_222 : decode cX12_init 222 = .ok (.aload_n 0, 1) := by decide +kernel
theorem dX12_init_223 : decode cX12_init 223 = .ok (.sipush 240, 3) := by decide +kernel
theorem dX12_init_226 : decode cX12_init 226 = .ok (.newarray .int, 2) := by decide +kernel
theorem dX12_init_228 : decode cX12_init 228 = .ok (.putfield 93, 3) := by decide +kernel
theorem dX12_init_231 : decode cX12_init 231 = .ok (.aload_n 0, 1) := by decide +kernel
theorem dX12_init_232 : decode cX12_init 232 = .ok (.iconst 5, 1) := by decide +kernel
theorem dX12_init_233 : decode cX12_init 233 = .ok (.newarray .int, 2) := by decide +kernel
theorem dX12_init_235 : decode cX12_init 235 = .ok (.putfield 96, 3) := by decide +kernel
theorem dX12_init_238 : decode cX12_init 238 = .ok (.aload_n 0, 1) := by decide +kernel
theorem dX12_init_239 : decode cX12_init 239 = .ok (.bipush 40, 2) := by decide +kernel
theorem dX12_init_241 : decode cX12_init 241 = .ok (.newarray .int, 2) := by decide +kernel
theorem dX12_init_243 : decode cX12_init 243 = .ok (.putfield 99, 3) := by decide +kernel
theorem dX12_init_246 : decode cX12_init 246 = .ok (.aload_n 0, 1) := by decide +kernel
theorem dX12_init_247 : decode cX12_init 247 = .ok (.bipush 40, 2) := by decide +kernel
theorem dX12_init_249 : decode cX12_init 249 = .ok (.newarray .boolean, 2) := by decide +kernel
theorem dX12_init_251 : decode cX12_init 251 = .ok (.putfield 102, 3) := by decide +kernel
theorem dX12_init_254 : decode cX12_init 254 = .ok (.aload_n 0, 1) := by decide +kernel
theorem dX12_init_255 : decode cX12_init 255 = .ok (.bipush 107, 2) := by decide +kernel
theorem dX12_init_257 : decode cX12_init 257 = .ok (.newarray .int, 2) := by decide +kernel
theorem dX12_init_259 : decode cX12_init 259 = .ok (.putfield 105, 3) := by decide +kernel
theorem dX12_init_262 : decode cX12_init 262 = .ok (.aload_n 0, 1) := by decide +kernel
theorem dX12_init_263 : decode cX12_init 263 = .ok (.bipush 107, 2) := by decide +kernel
theorem dX12_init_265 : decode cX12_init 265 = .ok (.newarray .int, 2) := by decide +kernel
theorem dX12_init_267 : decode cX12_init 267 = .ok (.putfield 108, 3) := by decide +kernel
theorem dX12_init_270 : decode cX12_init 270 = .ok (.aload_n 0, 1) := by decide +kernel
theorem dX12_init_271 : decode cX12_init 271 = .ok (.sipush 428, 3) := by decide +kernel
theorem dX12_init_274 : decode cX12_init 274 = .ok (.newarray .int, 2) := by decide +kernel
theorem dX12_init_276 : decode cX12_init 276 = .ok (.putfield 111, 3) := by decide +kernel
theorem dX12_init_279 : decode cX12_init 279 = .ok (.aload_n 0, 1) := by decide +kernel
theorem dX12_init_280 : decode cX12_init 280 = .ok (.sipush 1712, 3) := by decide +kernel
theorem dX12_init_283 : decode cX12_init 283 = .ok (.newarray .int, 2) := by decide +kernel
theorem dX12_init_285 : decode cX12_init 285 = .ok (.putfield 114, 3) := by decide +kernel
theorem dX12_init_288 : decode cX12_init 288 = .ok (.aload_n 0, 1) := by decide +kernel
theorem dX12_init_289 : decode cX12_init 289 = .ok (.iconst 4, 1) := by decide +kernel
theorem dX12_init_290 : decode cX12_init 290 = .ok (.newarray .boolean, 2) := by decide +kernel
theorem dX12_init_292 : decode cX12_init 292 = .ok (.putfield 117, 3) := by decide +kernel
theorem dX12_init_295 : decode cX12_init 295 = .ok (.aload_n 0, 1) := by decide +kernel
theorem dX12_init_296 : decode cX12_init 296 = .ok (.bipush 7, 2) := by decide +kernel
theorem dX12_init_298 : decode cX12_init 298 = .ok (.newarray .int, 2) := by decide +kernel
theorem dX12_init_300 : decode cX12_init 300 = .ok (.putfield 120, 3) := by decide +kernel
theorem dX12_init_303 : decode cX12_init 303 = .ok (.aload_n 0, 1) := by decide +kernel
theorem dX12_init_304 : decode cX12_init 304 = .ok (.getfield 13, 3) := by decide +kernel
theorem dX12_init_307 : decode cX12_init 307 = .ok (.iconst 1, 1) := by decide +kernel
theorem dX12_init_308 : decode cX12_init 308 = .ok (.bipush 7, 2) := by decide +kernel
theorem dX12_init_310 : decode cX12_init 310 = .ok (.iastore, 1) := by decide +kernel
theorem dX12_init_311 : decode cX12_init 311 = .ok (.iconst 0, 1) := by decide +kernel
theorem dX12_init_312 : decode cX12_init 312 = .ok (.istore_n 1, 1) := by decide +kernel
theorem dX12_init_313 : decode cX12_init 313 = .ok (.iload_n 1, 1) := by decide +kernel
theorem dX12_init_314 : decode cX12_init 314 = .ok (.bipush 14, 2) := by decide +kernel
theorem dX12_init_316 : decode cX12_init 316 = .ok (.if_icmp .ge 16, 3) := by decide +kernel
theorem dX12_init_319 : decode cX12_init 319 = .ok (.aload_n 0, 1) := by decide +kernel
theorem dX12_init_320 : decode cX12_init 320 = .ok (.getfield 29, 3) := by decide +kernel
theorem dX12_init_323 : decode cX12_init 323 = .ok (.iload_n 1, 1) := by decide +kernel
theorem dX12_init_324 : decode cX12_init 324 = .ok (.iconst (-1), 1) := by decide +kernel
theorem dX12_init_325 : decode cX12_init 325 = .ok (.iastore, 1) := by decide +kernel
theorem dX12_init_326 : decode cX12_init 326 = .ok (.iinc 1 1, 3) := by decide +kernel
theorem dX12_init_329 : decode cX12_init 329 = .ok (.goto (-16), 3) := by decide +kernel
theorem dX12_init_332 : decode cX12_init 332 = .ok (.aload_n 0, 1) := by decide +kernel
theorem dX12_init_333 : decode cX12_init 333 = .ok (.invokevirtual 123, 3) := by decide +kernel
theorem dX12_init_336 : decode cX12_init 336 = .ok (.return_, 1) := by decide +kernel
/-! making: the reference -/
theorem k_callP {K : zK} {G : zG} {A : Nat → Prop} {cc : ByteArray} {own : String} {nL fr lo mc ms : Nat} {pc : Nat} {lv : List (Nat × Value)} {st : List Value} {ws : va_W} {k n k' n' : Nat} (hK : kC K G A cc own nL fr lo mc ms) {y : MethodName} {bytes : ByteArray} {maxL fr' lo' mc' ms' ci np index b : Nat} (As : List Value) {pre suf : va_W} {post : (Nat → Nat) → va_W} (hM : kM K.2.1 G y bytes maxL fr' lo' mc' ms' (.ref b :: As) suf post) (hv : zVf y bytes maxL none ci np) (q0 : Nat) {fs : List Value} (he : ws[q0]? = some (b, .inr (ci, fs))) (hl : Cond.methodLink own index y ∈ zTb) (hn : As.length = np) (rest : List Value) (hst : st = As.reverse ++ .ref b :: rest) (hr : (rest.map fun v => v.category).sum ≤ 8) (hR : fr' + 1 ≤ fr ∧ 8 + (maxL + 11) + lo' ≤ lo) (hw : ws = pre ++ suf) (hdg : decode cc pc = .ok (.invokevirtual index, 3)) (hk : k + mc' = k') (hn2 : n + ms' = n') (hkm : k' ≤ mc) (hnm : n' ≤ ms) (c : ∀ u, kW K G A nL (pc + 3) lv rest (pre ++ post u) k' n') : kW K G A nL pc lv st ws k n := by
  obtain ⟨p, l, e, R, s, m, args, below, meth, c0, Q⟩ := K
  obtain ⟨hx, hb, hml, hown, hts, hE, hfr, hlo, hmc, hms, hA⟩ := id hK
  obtain ⟨T, N, hlt, hc, w1, w2, w3, w4, hd⟩ := hv
  subst hk hn2 hw
  intro H locs ls hP hD hS hlv
  have hPc : va_P (G.1, G.2.1) vwCl suf H := fun i q hq => hP _ q (kl_r hq)
  have hDc : va_D A suf := ⟨fun i j x y hx hy hxy => by have := hD.1 _ _ x y (kl_r (pre := pre) hx) (kl_r (pre := pre) hy) hxy; omega, fun i q hq => hD.2 _ q (kl_r hq)⟩
  have hFc : ∀ q, va_A suf H.size q → A q := fun q h => by
    rcases h with ⟨i, ee, h⟩ | h
    · exact hD.2 _ (q, ee) (kl_r h)
    · exact hA q (Nat.le_trans hS.1 h)
  have hrun := va_runV (p := p) (e := e) (below := below) (meth := meth) (H := H) (locs := locs) (cells := k) (slots := n) (C := y.cls) (b := b) (As := As) (rest := rest) (g := F0 m pc ls st) ⟨hx, hb, hml, hown, hts⟩ (hM H.size)
    (cwV np hts (zgoodIn (fun w h => by
      rcases List.mem_append.mp h with h | h
      · simp only [List.mem_cons, List.not_mem_nil, or_false] at h
        rcases h with rfl | rfl | rfl | rfl
        · exact hl
        · exact w1
        · exact w2
        · exact w3
      · rcases List.mem_cons.mp h with rfl | h
        · exact w4
        · exact h)) rfl rfl rfl ⟨rfl, hd⟩ ⟨Nat.le_trans hR.1 hfr, Nat.le_trans hR.2 hlo⟩)
    ⟨k_blind, va_recv hE.1 hP hc he, fun U hU hW => ⟨rfl, by rw [hU], by rw [hU]; exact hPc, kE.call hW hE, hDc.weaken (fun _ _ _ _ => trivial)⟩⟩ rfl hn hlv.1 hst (lv_room hr) hdg ⟨Nat.le_trans hkm hmc, Nat.le_trans hnm hms⟩
  refine va_callv hrun hS (fun q _ h => hFc q h) hFc (fun u t H1 locs1 ht hvm _ hB hz1 hk1 hS1 => ?_)
  obtain ⟨hP1, hD1⟩ := hB
  rw [ht] at hP1
  obtain ⟨hP2, hD2⟩ := k_join hP hD hk1 hFc hP1 hD1
  exact c u H1 locs1 ls hP2 hD2 hS1 hlv
def kmF (u : Nat → Nat) : List Value := [.int 0, .int 0, .ref (u 0), .int 0, .int 0, .int 0, .int 0, .long 0, .int 0, .int 0, .ref (u 1), .ref (u 2), .ref (u 3), .ref (u 4), .ref (u 5), .ref (u 6), .ref (u 7), .ref (u 8), .ref (u 9), .ref (u 10), .ref (u 11), .int 0, .int 0, .ref (u 12), .ref (u 13), .ref (u 14), .ref (u 15), .ref (u 16), .ref (u 17), .ref (u 18), .ref (u 19), .ref (u 20), .ref (u 21), .ref (u 22), .ref (u 23), .int 0, .int 0, .ref (u 24), .ref (u 25), .ref (u 26), .ref (u 27), .ref (u 28), .ref (u 29), .ref (u 30), .ref (u 31), .ref (u 32), .ref (u 33), .ref (u 34), .ref (u 35), .int 0, .ref (u 36), .long 0]
def kmW (G : zG) (q : Nat) (u : Nat → Nat) (f2 f7 : Nat → Int32) : va_W := (q, .inr (11, kmF u)) :: [(u 0, eI G 1000), (u 1, .inl (G.2.2.1.1 20, 8, .inl f2)), (u 2, eL G 14), (u 3, eI G 14), (u 4, eI G 14), (u 5, eI G 14), (u 6, .inl (G.2.2.1.1 20, 14, .inl f7)), (u 7, eI G 98), (u 8, eZ G 49), (u 9, eI G 4), (u 10, eI G 4), (u 11, eI G 2000), (u 12, eI G 7), (u 13, eZ G 7), (u 14, eI G 7), (u 15, eI G 7), (u 16, eI G 7), (u 17, eI G 7), (u 18, eI G 7), (u 19, eI G 7), (u 20, eI G 7), (u 21, eI G 7), (u 22, eI G 7), (u 23, eI G 20), (u 24, eI G 6), (u 25, eI G 240), (u 26, eI G 240), (u 27, eI G 240), (u 28, eI G 5), (u 29, eI G 40), (u 30, eZ G 40), (u 31, eI G 107), (u 32, eI G 107), (u 33, eI G 428), (u 34, eI G 1712), (u 35, eZ G 4), (u 36, eI G 7)]
theorem kupd0 (k : Nat) : upd (fun _ => (0 : Int32)) k 0 = fun _ => 0 := by
  funext j
  unfold upd
  split <;> rfl
def kh (i : Nat) : Nat → Int32 := fun j => if j < i then -1 else 0
theorem kh_up {i : Nat} (hi : i < 2147483648) : upd (kh i) (zx (nI i)) (-1) = kh (i + 1) := by
  funext j
  rw [zx_nI hi]
  unfold upd kh
  by_cases c : j = i
  · rw [if_pos c, if_pos (by omega)]
  · rw [if_neg c]
    by_cases d : j < i
    · rw [if_pos d, if_pos (by omega)]
    · rw [if_neg d, if_neg (by omega)]
section Km
variable {K : zK} {G : zG} {A : Nat → Prop} {q : Nat} {u : Nat → Nat} {f2 f7 : Nat → Int32} {k n : Nat}
set_option maxRecDepth 100000 in
set_option maxHeartbeats 4000000 in
theorem kfl1 {fr lo mc ms : Nat} (hK : kC K G A cX12_fresh yX12_fresh.cls 2 fr lo mc ms) (fin : kW K G A 2 21 [(1, .int 107), (0, .ref q)] [] (kmW G q u f2 f7) k n) : ∀ d i, i + d = 107 → kW K G A 2 2 [(1, .int (nI i)), (0, .ref q)] [] (kmW G q u f2 f7) k n := by
  intro d
  induction d with
  | zero =>
    intro i hi
    have : i = 107 := by omega
    subst this
    refine k_iload_n hK 0 dX12_fresh_2 rfl ?_
    refine k_bipush (v := 107) hK dX12_fresh_3 (by decide) ?_
    refine k_icmp_ge hK 21 dX12_fresh_5 (by decide) (fun _ => ?_) (fun c => absurd (by decide) c)
    exact fin
  | succ d ih =>
    intro i hi
    refine k_iload_n hK 0 dX12_fresh_2 rfl ?_
    refine k_bipush (v := 107) hK dX12_fresh_3 (by decide) ?_
    refine k_icmp_ge hK 21 dX12_fresh_5 (by decide) (fun c => absurd c (by rw [show (107 : Int32) = nI 107 from rfl, znI_le (by decide) (by omega)]; omega)) (fun _ => ?_)
    refine k_aload_n hK 1 dX12_fresh_8 rfl ?_
    refine k_get hK kgf_X12_105_11 0 rfl rfl dX12_fresh_9 ?_
    refine k_iload_n hK 0 dX12_fresh_12 rfl ?_
    refine k_iconst (v := 0) hK dX12_fresh_13 (by decide) ?_
    refine k_iast hK 32 rfl (zin_t (by omega) (by omega)) dX12_fresh_14 (ws' := kmW G q u f2 f7) (by rw [kupd0]; rfl) ?_
    refine k_iinc (v := nI (i + 1)) (lv' := [(1, .int (nI (i + 1))), (0, .ref q)]) hK 0 dX12_fresh_15 rfl (nI_1 i) (by decide) rfl ?_
    refine k_goto hK 2 dX12_fresh_18 (by decide) ?_
    exact ih (i + 1) (by omega)
set_option maxRecDepth 100000 in
set_option maxHeartbeats 4000000 in
theorem kfl2 {fr lo mc ms : Nat} (hK : kC K G A cX12_fresh yX12_fresh.cls 2 fr lo mc ms) (fin : kW K G A 2 93 [(1, .int 49), (0, .ref q)] [] (kmW G q u f2 f7) k n) : ∀ d i, i + d = 49 → kW K G A 2 66 [(1, .int (nI i)), (0, .ref q)] [] (kmW G q u f2 f7) k n := by
  intro d
  induction d with
  | zero =>
    intro i hi
    have : i = 49 := by omega
    subst this
    refine k_iload_n hK 0 dX12_fresh_66 rfl ?_
    refine k_bipush (v := 49) hK dX12_fresh_67 (by decide) ?_
    refine k_icmp_ge hK 93 dX12_fresh_69 (by decide) (fun _ => ?_) (fun c => absurd (by decide) c)
    exact fin
  | succ d ih =>
    intro i hi
    refine k_iload_n hK 0 dX12_fresh_66 rfl ?_
    refine k_bipush (v := 49) hK dX12_fresh_67 (by decide) ?_
    refine k_icmp_ge hK 93 dX12_fresh_69 (by decide) (fun c => absurd c (by rw [show (49 : Int32) = nI 49 from rfl, znI_le (by decide) (by omega)]; omega)) (fun _ => ?_)
    refine k_aload_n hK 1 dX12_fresh_72 rfl ?_
    refine k_get hK kgf_X12_105_11 0 rfl rfl dX12_fresh_73 ?_
    refine k_bipush (v := 9) hK dX12_fresh_76 (by decide) ?_
    refine k_iload_n hK 0 dX12_fresh_78 rfl ?_
    refine k_iadd hK dX12_fresh_79 ?_
    refine k_name (v := nI (9 + i)) (nI_add 9 i).symm ?_
    refine k_aload_n hK 1 dX12_fresh_80 rfl ?_
    refine k_get hK kgf_X12_32_11 0 rfl rfl dX12_fresh_81 ?_
    refine k_iload_n hK 0 dX12_fresh_84 rfl ?_
    refine k_iald hK 8 rfl (zin_t (by omega) (by omega)) dX12_fresh_85 ?_
    refine k_iast hK 32 rfl (zin_t (by omega) (by omega)) dX12_fresh_86 (ws' := kmW G q u f2 f7) (by rw [kupd0]; rfl) ?_
    refine k_iinc (v := nI (i + 1)) (lv' := [(1, .int (nI (i + 1))), (0, .ref q)]) hK 0 dX12_fresh_87 rfl (nI_1 i) (by decide) rfl ?_
    refine k_goto hK 66 dX12_fresh_90 (by decide) ?_
    exact ih (i + 1) (by omega)
set_option maxRecDepth 100000 in
set_option maxHeartbeats 4000000 in
theorem kc_fresh (l : Launch) (G : zG) (q : Nat) (u : Nat → Nat) (f2 f7 : Nat → Int32) (h0 : f2 0 = 0) : kM l G yX12_fresh cX12_fresh 2 0 0 0 0 [.ref q] (kmW G q u f2 f7) (fun _ => kmW G q u f2 f7) := by
  refine kM_of (by decide +kernel) (Nat.le_of_ble_eq_true rfl) (fun K A hl hK hN hE => ?_)
  subst hl
  show kW K G A 2 0 [(0, .ref q)] [] (kmW G q u f2 f7) 0 0
  refine k_iconst (v := 0) hK dX12_fresh_0 (by decide) ?_
  refine k_istore_n (lv' := [(1, .int 0), (0, .ref q)]) hK dX12_fresh_1 (by decide) rfl ?_
  refine kfl1 hK ?_ 107 0 rfl
  refine k_aload_n hK 1 dX12_fresh_21 rfl ?_
  refine k_get hK kgf_X12_105_11 0 rfl rfl dX12_fresh_22 ?_
  refine k_iconst (v := 1) hK dX12_fresh_25 (by decide) ?_
  refine k_iconst (v := 1) hK dX12_fresh_26 (by decide) ?_
  refine k_aload_n hK 1 dX12_fresh_27 rfl ?_
  refine k_get hK kgf_X12_13_11 0 rfl rfl dX12_fresh_28 ?_
  refine k_iconst (v := 0) hK dX12_fresh_31 (by decide) ?_
  refine k_iald hK 2 rfl (by decide) dX12_fresh_32 ?_
  refine k_name (v := 0) (by rw [zxl_0]; exact h0.symm) ?_
  refine k_ishl hK dX12_fresh_33 ?_
  refine k_iconst (v := 1) hK dX12_fresh_34 (by decide) ?_
  refine k_isub hK dX12_fresh_35 ?_
  refine k_name (v := 0) (by decide) ?_
  refine k_iast hK 32 rfl (by decide) dX12_fresh_36 (ws' := kmW G q u f2 f7) (by rw [kupd0]; rfl) ?_
  refine k_iconst (v := 0) hK dX12_fresh_37 (by decide) ?_
  refine k_istore_n (lv' := [(1, .int 0), (0, .ref q)]) hK dX12_fresh_38 (by decide) rfl ?_
  refine k_iload_n hK 0 dX12_fresh_39 rfl ?_
  refine k_aload_n hK 1 dX12_fresh_40 rfl ?_
  refine k_get hK kgf_X12_13_11 0 rfl rfl dX12_fresh_41 ?_
  refine k_iconst (v := 0) hK dX12_fresh_44 (by decide) ?_
  refine k_iald hK 2 rfl (by decide) dX12_fresh_45 ?_
  refine k_name (v := 0) (by rw [zxl_0]; exact h0.symm) ?_
  refine k_icmp_ge hK 64 dX12_fresh_46 (by decide) (fun _ => ?_) (fun c => absurd (by decide) c)
  refine k_iconst (v := 0) hK dX12_fresh_64 (by decide) ?_
  refine k_istore_n (lv' := [(1, .int 0), (0, .ref q)]) hK dX12_fresh_65 (by decide) rfl ?_
  refine kfl2 hK ?_ 49 0 rfl
  exact k_vret hK hN hE (fun _ => 0) rfl (by decide) (by decide) dX12_fresh_93
set_option maxRecDepth 100000 in
set_option maxHeartbeats 4000000 in
theorem khl {fr lo mc ms : Nat} (hK : kC K G A cX12_init yX12_init.cls 2 fr lo mc ms) (fin : kW K G A 2 332 [(1, .int 14), (0, .ref q)] [] (kmW G q u f2 (kh 14)) k n) : ∀ d i, i + d = 14 → kW K G A 2 313 [(1, .int (nI i)), (0, .ref q)] [] (kmW G q u f2 (kh i)) k n := by
  intro d
  induction d with
  | zero =>
    intro i hi
    have : i = 14 := by omega
    subst this
    refine k_iload_n hK 0 dX12_init_313 rfl ?_
    refine k_bipush (v := 14) hK dX12_init_314 (by decide) ?_
    refine k_icmp_ge hK 332 dX12_init_316 (by decide) (fun _ => ?_) (fun c => absurd (by decide) c)
    exact fin
  | succ d ih =>
    intro i hi
    refine k_iload_n hK 0 dX12_init_313 rfl ?_
    refine k_bipush (v := 14) hK dX12_init_314 (by decide) ?_
    refine k_icmp_ge hK 332 dX12_init_316 (by decide) (fun c => absurd c (by rw [show (14 : Int32) = nI 14 from rfl, znI_le (by decide) (by omega)]; omega)) (fun _ => ?_)
    refine k_aload_n hK 1 dX12_init_319 rfl ?_
    refine k_get hK kgf_X12_29_11 0 rfl rfl dX12_init_320 ?_
    refine k_iload_n hK 0 dX12_init_323 rfl ?_
    refine k_iconst (v := -1) hK dX12_init_324 (by decide) ?_
    refine k_iast hK 7 rfl (zin_t (by omega) (by omega)) dX12_init_325 (ws' := kmW G q u f2 (kh (i + 1))) (by rw [kh_up (by omega)]; rfl) ?_
    refine k_iinc (v := nI (i + 1)) (lv' := [(1, .int (nI (i + 1))), (0, .ref q)]) hK 0 dX12_init_326 rfl (nI_1 i) (by decide) rfl ?_
    refine k_goto hK 313 dX12_init_329 (by decide) ?_
    exact ih (i + 1) (by omega)
end Km
