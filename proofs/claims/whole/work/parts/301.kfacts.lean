theorem q_138 : Cond.methodLink RX8 1 Lib.objectInit ∈ zTb := zq_1 40 (by decide +kernel) rfl
theorem q_131 : Cond.instanceMethod Lib.objectInit ∈ zTb := zq_1 33 (by decide +kernel) rfl
theorem q_132 : Cond.code Lib.objectInit ⟨#[0xb1]⟩ 1 none ∈ zTb := zq_1 34 (by decide +kernel) rfl
theorem q_167 : Cond.arrayClass .char ∈ zTb := zq_1 69 (by decide +kernel) rfl
theorem kff_X8_9_7 : kFf RX8 9 7 0 (.array .char) := ⟨RX8, TX8, 6, tyX8, "VoteAgainst$Tape", rfl, lay_7, tyX8_ok, nmX8, by decide, q_139, Or.inl rfl, rfl, rfl, tyX8_ok 0 (by decide)⟩
theorem q_179 : Cond.methodLink RX1 3 Lib.objectInit ∈ zTb := zq_1 81 (by decide +kernel) rfl
theorem q_223 : Cond.arrayClass .int ∈ zTb := zq_1 125 (by decide +kernel) rfl
theorem kff_X1_11_1 : kFf RX1 11 1 0 (.array .int) := ⟨RX1, TX1, 12, tyX1, "VoteAgainst$Laws", rfl, lay_1, tyX1_ok, nmX1, by decide, q_180, Or.inl rfl, rfl, rfl, tyX1_ok 0 (by decide)⟩
theorem kff_X1_17_1 : kFf RX1 17 1 1 (.array .int) := ⟨RX1, TX1, 12, tyX1, "VoteAgainst$Laws", rfl, lay_1, tyX1_ok, nmX1, by decide, q_181, Or.inl rfl, rfl, rfl, tyX1_ok 1 (by decide)⟩
theorem q_361 : Cond.methodLink RX9 1 Lib.objectInit ∈ zTb := zq_2 23 (by decide +kernel) rfl
theorem kff_X9_9_8 : kFf RX9 9 8 0 (.array .int) := ⟨RX9, TX9, 2, tyX9, "VoteAgainst$Years", rfl, lay_8, tyX9_ok, nmX9, by decide, q_362, Or.inl rfl, rfl, rfl, tyX9_ok 0 (by decide)⟩
theorem q_387 : Cond.methodLink RX7 3 Lib.objectInit ∈ zTb := zq_2 49 (by decide +kernel) rfl
theorem kff_X7_9_6 : kFf RX7 9 6 1 (.array .int) := ⟨RX7, TX7, 6, tyX7, "VoteAgainst$Standing", rfl, lay_6, tyX7_ok, nmX7, by decide, q_389, Or.inl rfl, rfl, rfl, tyX7_ok 1 (by decide)⟩
theorem kff_X7_15_6 : kFf RX7 15 6 2 (.array .int) := ⟨RX7, TX7, 6, tyX7, "VoteAgainst$Standing", rfl, lay_6, tyX7_ok, nmX7, by decide, q_391, Or.inl rfl, rfl, rfl, tyX7_ok 2 (by decide)⟩
theorem kff_X7_18_6 : kFf RX7 18 6 3 (.array .int) := ⟨RX7, TX7, 6, tyX7, "VoteAgainst$Standing", rfl, lay_6, tyX7_ok, nmX7, by decide, q_393, Or.inl rfl, rfl, rfl, tyX7_ok 3 (by decide)⟩
theorem kff_X7_21_6 : kFf RX7 21 6 0 (.object "VoteAgainst$Republic") := ⟨RX7, TX7, 6, tyX7, "VoteAgainst$Standing", rfl, lay_6, tyX7_ok, nmX7, by decide, q_388, Or.inl rfl, rfl, rfl, tyX7_ok 0 (by decide)⟩
theorem q_297 : Cond.methodLink RX0 1 Lib.objectInit ∈ zTb := zq_1 199 (by decide +kernel) rfl
theorem kff_X0_9_0 : kFf RX0 9 0 2 (.array .int) := ⟨RX0, TX0, 7, tyX0, "VoteAgainst$LawReader", rfl, lay_0, tyX0_ok, nmX0, by decide, q_300, Or.inl rfl, rfl, rfl, tyX0_ok 2 (by decide)⟩
theorem kff_X0_13_0 : kFf RX0 13 0 0 (.object "VoteAgainst$Tape") := ⟨RX0, TX0, 7, tyX0, "VoteAgainst$LawReader", rfl, lay_0, tyX0_ok, nmX0, by decide, q_298, Or.inl rfl, rfl, rfl, tyX0_ok 0 (by decide)⟩
theorem kff_X0_17_0 : kFf RX0 17 0 1 (.object "VoteAgainst$Laws") := ⟨RX0, TX0, 7, tyX0, "VoteAgainst$LawReader", rfl, lay_0, tyX0_ok, nmX0, by decide, q_299, Or.inl rfl, rfl, rfl, tyX0_ok 1 (by decide)⟩
theorem q_291 : Cond.methodLink RX4 3 Lib.objectInit ∈ zTb := zq_1 193 (by decide +kernel) rfl
theorem kff_X4_9_5 : kFf RX4 9 5 0 (.object "VoteAgainst$Tape") := ⟨RX6, TX6, 6, tyX6, "VoteAgainst$Reader", rfl, lay_5, tyX6_ok, nmX6, by decide, q_322, Or.inl rfl, rfl, rfl, tyX6_ok 0 (by decide)⟩
theorem kff_X4_15_5 : kFf RX4 15 5 1 (.object "VoteAgainst$Republic") := ⟨RX6, TX6, 6, tyX6, "VoteAgainst$Reader", rfl, lay_5, tyX6_ok, nmX6, by decide, q_327, Or.inl rfl, rfl, rfl, tyX6_ok 1 (by decide)⟩
theorem kff_X4_9_9 : kFf RX4 9 9 0 (.object "VoteAgainst$Tape") := ⟨RX10, TX10, 5, tyX10, "VoteAgainst$Reader", rfl, lay_9, tyX10_ok, nmX10, by decide, q_322, Or.inl rfl, rfl, rfl, tyX10_ok 0 (by decide)⟩
theorem kff_X4_15_9 : kFf RX4 15 9 1 (.object "VoteAgainst$Republic") := ⟨RX10, TX10, 5, tyX10, "VoteAgainst$Reader", rfl, lay_9, tyX10_ok, nmX10, by decide, q_327, Or.inl rfl, rfl, rfl, tyX10_ok 1 (by decide)⟩
theorem q_173 : Cond.methodLink RX5 3 Lib.objectInit ∈ zTb := zq_1 75 (by decide +kernel) rfl
theorem q_222 : Cond.arrayClass .long ∈ zTb := zq_1 124 (by decide +kernel) rfl
theorem kff_X5_9_4 : kFf RX5 9 4 0 (.array .long) := ⟨RX5, TX5, 11, tyX5, "VoteAgainst$Republic", rfl, lay_4, tyX5_ok, nmX5, by decide, q_224, Or.inl rfl, rfl, rfl, tyX5_ok 0 (by decide)⟩
theorem kff_X5_15_4 : kFf RX5 15 4 1 (.array .int) := ⟨RX5, TX5, 11, tyX5, "VoteAgainst$Republic", rfl, lay_4, tyX5_ok, nmX5, by decide, q_225, Or.inl rfl, rfl, rfl, tyX5_ok 1 (by decide)⟩
theorem kff_X5_19_4 : kFf RX5 19 4 2 (.array .int) := ⟨RX5, TX5, 11, tyX5, "VoteAgainst$Republic", rfl, lay_4, tyX5_ok, nmX5, by decide, q_228, Or.inl rfl, rfl, rfl, tyX5_ok 2 (by decide)⟩
theorem kff_X5_22_4 : kFf RX5 22 4 3 (.array .int) := ⟨RX5, TX5, 11, tyX5, "VoteAgainst$Republic", rfl, lay_4, tyX5_ok, nmX5, by decide, q_231, Or.inl rfl, rfl, rfl, tyX5_ok 3 (by decide)⟩
theorem kff_X5_25_4 : kFf RX5 25 4 4 (.array .int) := ⟨RX5, TX5, 11, tyX5, "VoteAgainst$Republic", rfl, lay_4, tyX5_ok, nmX5, by decide, q_234, Or.inl rfl, rfl, rfl, tyX5_ok 4 (by decide)⟩
theorem kff_X5_28_4 : kFf RX5 28 4 5 (.array .int) := ⟨RX5, TX5, 11, tyX5, "VoteAgainst$Republic", rfl, lay_4, tyX5_ok, nmX5, by decide, q_238, Or.inl rfl, rfl, rfl, tyX5_ok 5 (by decide)⟩
theorem q_174 : Cond.classLink RX5 31 RX1 ∈ zTb := zq_1 76 (by decide +kernel) rfl
theorem q_175 : Cond.instantiable RX1 12 ∈ zTb := zq_1 77 (by decide +kernel) rfl
theorem knf_X5_31 : kNf RX5 31 1 12 [.null, .null, .int 0, .int 0, .int 0, .int 0, .int 0, .int 0, .int 0, .int 0, .int 0, .int 0] := ⟨RX1, TX1, tyX1, rfl, lay_1, tyX1_ok, q_174, q_175, q_102, by decide +kernel⟩
theorem q_177 : Cond.instanceMethod yX1_init ∈ zTb := zq_1 79 (by decide +kernel) rfl
theorem q_178 : Cond.code yX1_init cX1_init 1 none ∈ zTb := zq_1 80 (by decide +kernel) rfl
theorem kif_X1 : kIf yX1_init cX1_init 1 0 := ⟨q_177, q_102, q_178, rfl, ⟨by decide +kernel, by decide +kernel, by decide +kernel⟩⟩
theorem kff_X5_34_4 : kFf RX5 34 4 6 (.object "VoteAgainst$Laws") := ⟨RX5, TX5, 11, tyX5, "VoteAgainst$Republic", rfl, lay_4, tyX5_ok, nmX5, by decide, q_242, Or.inl rfl, rfl, rfl, tyX5_ok 6 (by decide)⟩
theorem kpf_X5_38_4 : kPf RX5 38 4 8 .int := ⟨RX5, TX5, 11, tyX5, "VoteAgainst$Republic", rfl, lay_4, tyX5_ok, nmX5, by decide, q_248, Or.inl rfl, rfl, tyX5_ok 8 (by decide)⟩
theorem q_417 : Cond.methodLink RX2 3 Lib.objectInit ∈ zTb := zq_2 79 (by decide +kernel) rfl
theorem q_418 : Cond.classLink RX2 9 RX9 ∈ zTb := zq_2 80 (by decide +kernel) rfl
theorem q_357 : Cond.instantiable RX9 2 ∈ zTb := zq_2 19 (by decide +kernel) rfl
theorem knf_X2_9 : kNf RX2 9 8 2 [.null, .int 0] := ⟨RX9, TX9, tyX9, rfl, lay_8, tyX9_ok, q_418, q_357, q_107, by decide +kernel⟩
theorem q_359 : Cond.instanceMethod yX9_init ∈ zTb := zq_2 21 (by decide +kernel) rfl
theorem q_360 : Cond.code yX9_init cX9_init 1 none ∈ zTb := zq_2 22 (by decide +kernel) rfl
theorem kif_X9 : kIf yX9_init cX9_init 1 0 := ⟨q_359, q_107, q_360, rfl, ⟨by decide +kernel, by decide +kernel, by decide +kernel⟩⟩
theorem kff_X2_12_2 : kFf RX2 12 2 1 (.object "VoteAgainst$Years") := ⟨RX2, TX2, 5, tyX2, "VoteAgainst$Moment", rfl, lay_2, tyX2_ok, nmX2, by decide, q_424, Or.inl rfl, rfl, rfl, tyX2_ok 1 (by decide)⟩
theorem kpf_X2_18_2 : kPf RX2 18 2 3 .int := ⟨RX2, TX2, 5, tyX2, "VoteAgainst$Moment", rfl, lay_2, tyX2_ok, nmX2, by decide, q_428, Or.inl rfl, rfl, tyX2_ok 3 (by decide)⟩
theorem q_420 : Cond.classLink RX2 22 RX7 ∈ zTb := zq_2 82 (by decide +kernel) rfl
theorem q_383 : Cond.instantiable RX7 6 ∈ zTb := zq_2 45 (by decide +kernel) rfl
theorem knf_X2_22 : kNf RX2 22 6 6 [.null, .null, .null, .null, .int 0, .int 0] := ⟨RX7, TX7, tyX7, rfl, lay_6, tyX7_ok, q_420, q_383, q_108, by decide +kernel⟩
theorem q_385 : Cond.instanceMethod yX7_init ∈ zTb := zq_2 47 (by decide +kernel) rfl
theorem q_386 : Cond.code yX7_init cX7_init 2 none ∈ zTb := zq_2 48 (by decide +kernel) rfl
theorem kif_X7 : kIf yX7_init cX7_init 2 1 := ⟨q_385, q_108, q_386, rfl, ⟨by decide +kernel, by decide +kernel, by decide +kernel⟩⟩
theorem q_421 : Cond.methodLink RX2 24 yX7_init ∈ zTb := zq_2 83 (by decide +kernel) rfl
theorem kff_X2_27_2 : kFf RX2 27 2 0 (.object "VoteAgainst$Standing") := ⟨RX2, TX2, 5, tyX2, "VoteAgainst$Moment", rfl, lay_2, tyX2_ok, nmX2, by decide, q_422, Or.inl rfl, rfl, rfl, tyX2_ok 0 (by decide)⟩
theorem q_289 : Cond.instanceMethod yX4_init ∈ zTb := zq_1 191 (by decide +kernel) rfl
theorem q_290 : Cond.code yX4_init cX4_init 3 none ∈ zTb := zq_1 192 (by decide +kernel) rfl
theorem kif_X4 : kIf yX4_init cX4_init 3 2 := ⟨q_289, q_103, q_290, rfl, ⟨by decide +kernel, by decide +kernel, by decide +kernel⟩⟩
theorem q_355 : Cond.methodLink RX10 1 yX4_init ∈ zTb := zq_2 17 (by decide +kernel) rfl
theorem q_356 : Cond.classLink RX10 7 RX9 ∈ zTb := zq_2 18 (by decide +kernel) rfl
theorem knf_X10_7 : kNf RX10 7 8 2 [.null, .int 0] := ⟨RX9, TX9, tyX9, rfl, lay_8, tyX9_ok, q_356, q_357, q_107, by decide +kernel⟩
theorem kff_X10_12_9 : kFf RX10 12 9 4 (.object "VoteAgainst$Years") := ⟨RX10, TX10, 5, tyX10, "VoteAgainst$YearsReader", rfl, lay_9, tyX10_ok, nmX10, by decide, q_373, Or.inl rfl, rfl, rfl, tyX10_ok 4 (by decide)⟩
theorem q_288 : Cond.methodLink RX6 3 yX4_init ∈ zTb := zq_1 190 (by decide +kernel) rfl
theorem q_292 : Cond.classLink RX6 9 RX0 ∈ zTb := zq_1 194 (by decide +kernel) rfl
theorem q_293 : Cond.instantiable RX0 7 ∈ zTb := zq_1 195 (by decide +kernel) rfl
theorem knf_X6_9 : kNf RX6 9 0 7 [.null, .null, .null, .int 0, .int 0, .int 0, .int 0] := ⟨RX0, TX0, tyX0, rfl, lay_0, tyX0_ok, q_292, q_293, q_105, by decide +kernel⟩
theorem kgf_X6_11_4 : kGf RX6 11 4 6 := ⟨RX5, TX5, 11, "VoteAgainst$Republic", rfl, lay_4, by decide, q_241, Or.inl rfl⟩
theorem q_295 : Cond.instanceMethod yX0_init ∈ zTb := zq_1 197 (by decide +kernel) rfl
theorem q_296 : Cond.code yX0_init cX0_init 3 none ∈ zTb := zq_1 198 (by decide +kernel) rfl
theorem kif_X0 : kIf yX0_init cX0_init 3 2 := ⟨q_295, q_105, q_296, rfl, ⟨by decide +kernel, by decide +kernel, by decide +kernel⟩⟩
theorem q_294 : Cond.methodLink RX6 17 yX0_init ∈ zTb := zq_1 196 (by decide +kernel) rfl
theorem kff_X6_20_5 : kFf RX6 20 5 4 (.object "VoteAgainst$LawReader") := ⟨RX6, TX6, 6, tyX6, "VoteAgainst$RepublicReader", rfl, lay_5, tyX6_ok, nmX6, by decide, q_320, Or.inl rfl, rfl, rfl, tyX6_ok 4 (by decide)⟩
theorem q_451 : Cond.methodLink RX3 15 yX7_init ∈ zTb := zq_2 113 (by decide +kernel) rfl
theorem q_X3_15 : Cond.methodLink yX3_init.cls 15 yX7_init ∈ zTb := q_451
theorem q_448 : Cond.methodLink RX3 1 Lib.objectInit ∈ zTb := zq_2 110 (by decide +kernel) rfl
theorem q_X3_1 : Cond.methodLink yX3_init.cls 1 Lib.objectInit ∈ zTb := q_448
theorem q_449 : Cond.classLink RX3 9 RX7 ∈ zTb := zq_2 111 (by decide +kernel) rfl
theorem q_X3_9 : Cond.classLink yX3_init.cls 9 "VoteAgainst$Standing" ∈ zTb := q_449
theorem q_objInit : Cond.instanceMethod Lib.objectInit ∈ zTb ∧ Cond.code Lib.objectInit ⟨#[0xb1]⟩ 1 none ∈ zTb := ⟨q_131, q_132⟩
theorem kgf_X3_11_3 : kGf RX3 11 3 0 := ⟨RX3, TX3, 3, "VoteAgainst$Past", rfl, lay_3, by decide, q_452, Or.inl rfl⟩
theorem knf_X3_9 : kNf RX3 9 6 6 [.null, .null, .null, .null, .int 0, .int 0] := ⟨RX7, TX7, tyX7, rfl, lay_6, tyX7_ok, q_449, q_383, q_108, by decide +kernel⟩
theorem kff_X3_11_3 : kFf RX3 11 3 0 (.array (.object "VoteAgainst$Standing")) := ⟨RX3, TX3, 3, tyX3, "VoteAgainst$Past", rfl, lay_3, tyX3_ok, nmX3, by decide, q_452, Or.inl rfl, rfl, rfl, tyX3_ok 0 (by decide)⟩
theorem q_414 : Cond.methodLink RX11 53 yX2_init ∈ zTb := zq_2 76 (by decide +kernel) rfl
theorem q_X11_53 : Cond.methodLink yX11_init.cls 53 yX2_init ∈ zTb := q_414
theorem q_412 : Cond.classLink RX11 51 RX2 ∈ zTb := zq_2 74 (by decide +kernel) rfl
theorem q_413 : Cond.instantiable RX2 5 ∈ zTb := zq_2 75 (by decide +kernel) rfl
theorem knf_X11_51 : kNf RX11 51 2 5 [.null, .null, .int 0, .int 0, .int 0] := ⟨RX2, TX2, tyX2, rfl, lay_2, tyX2_ok, q_412, q_413, q_109, by decide +kernel⟩
theorem kgf_X11_58_10 : kGf RX11 58 10 7 := ⟨RX11, TX11, 10, "VoteAgainst", rfl, lay_10, by decide, q_470, Or.inl rfl⟩
theorem kgf_X11_19_10 : kGf RX11 19 10 1 := ⟨RX11, TX11, 10, "VoteAgainst", rfl, lay_10, by decide, q_464, Or.inl rfl⟩
theorem q_130 : Cond.methodLink RX11 1 Lib.objectInit ∈ zTb := zq_1 32 (by decide +kernel) rfl
theorem q_133 : Cond.classLink RX11 7 RX8 ∈ zTb := zq_1 35 (by decide +kernel) rfl
theorem q_134 : Cond.instantiable RX8 6 ∈ zTb := zq_1 36 (by decide +kernel) rfl
theorem knf_X11_7 : kNf RX11 7 7 6 [.null, .int 0, .int 0, .int 0, .int 0, .int 0] := ⟨RX8, TX8, tyX8, rfl, lay_7, tyX8_ok, q_133, q_134, q_100, by decide +kernel⟩
theorem q_136 : Cond.instanceMethod yX8_init ∈ zTb := zq_1 38 (by decide +kernel) rfl
theorem q_137 : Cond.code yX8_init cX8_init 1 none ∈ zTb := zq_1 39 (by decide +kernel) rfl
theorem kif_X8 : kIf yX8_init cX8_init 1 0 := ⟨q_136, q_100, q_137, rfl, ⟨by decide +kernel, by decide +kernel, by decide +kernel⟩⟩
theorem kff_X11_10_10 : kFf RX11 10 10 0 (.object "VoteAgainst$Tape") := ⟨RX11, TX11, 10, tyX11, "VoteAgainst", rfl, lay_10, tyX11_ok, nmX11, by decide, q_463, Or.inl rfl, rfl, rfl, tyX11_ok 0 (by decide)⟩
theorem q_168 : Cond.classLink RX11 16 RX5 ∈ zTb := zq_1 70 (by decide +kernel) rfl
theorem q_169 : Cond.instantiable RX5 11 ∈ zTb := zq_1 71 (by decide +kernel) rfl
theorem knf_X11_16 : kNf RX11 16 4 11 [.null, .null, .null, .null, .null, .null, .null, .int 0, .int 0, .int 0, .int 0] := ⟨RX5, TX5, tyX5, rfl, lay_4, tyX5_ok, q_168, q_169, q_101, by decide +kernel⟩
theorem q_171 : Cond.instanceMethod yX5_init ∈ zTb := zq_1 73 (by decide +kernel) rfl
theorem q_172 : Cond.code yX5_init cX5_init 1 none ∈ zTb := zq_1 74 (by decide +kernel) rfl
theorem kif_X5 : kIf yX5_init cX5_init 1 0 := ⟨q_171, q_101, q_172, rfl, ⟨by decide +kernel, by decide +kernel, by decide +kernel⟩⟩
theorem kff_X11_19_10 : kFf RX11 19 10 1 (.object "VoteAgainst$Republic") := ⟨RX11, TX11, 10, tyX11, "VoteAgainst", rfl, lay_10, tyX11_ok, nmX11, by decide, q_464, Or.inl rfl, rfl, rfl, tyX11_ok 1 (by decide)⟩
theorem q_283 : Cond.classLink RX11 23 RX6 ∈ zTb := zq_1 185 (by decide +kernel) rfl
theorem q_284 : Cond.instantiable RX6 6 ∈ zTb := zq_1 186 (by decide +kernel) rfl
theorem knf_X11_23 : kNf RX11 23 5 6 [.null, .null, .int 0, .int 0, .null, .int 0] := ⟨RX6, TX6, tyX6, rfl, lay_5, tyX6_ok, q_283, q_284, q_104, by decide +kernel⟩
theorem kgf_X11_10_10 : kGf RX11 10 10 0 := ⟨RX11, TX11, 10, "VoteAgainst", rfl, lay_10, by decide, q_463, Or.inl rfl⟩
theorem q_286 : Cond.instanceMethod yX6_init ∈ zTb := zq_1 188 (by decide +kernel) rfl
theorem q_287 : Cond.code yX6_init cX6_init 3 none ∈ zTb := zq_1 189 (by decide +kernel) rfl
theorem kif_X6 : kIf yX6_init cX6_init 3 2 := ⟨q_286, q_104, q_287, rfl, ⟨by decide +kernel, by decide +kernel, by decide +kernel⟩⟩
theorem q_285 : Cond.methodLink RX11 25 yX6_init ∈ zTb := zq_1 187 (by decide +kernel) rfl
theorem kff_X11_28_10 : kFf RX11 28 10 2 (.object "VoteAgainst$RepublicReader") := ⟨RX11, TX11, 10, tyX11, "VoteAgainst", rfl, lay_10, tyX11_ok, nmX11, by decide, q_465, Or.inl rfl, rfl, rfl, tyX11_ok 2 (by decide)⟩
theorem q_350 : Cond.classLink RX11 32 RX10 ∈ zTb := zq_2 12 (by decide +kernel) rfl
theorem q_351 : Cond.instantiable RX10 5 ∈ zTb := zq_2 13 (by decide +kernel) rfl
theorem knf_X11_32 : kNf RX11 32 9 5 [.null, .null, .int 0, .int 0, .null] := ⟨RX10, TX10, tyX10, rfl, lay_9, tyX10_ok, q_350, q_351, q_106, by decide +kernel⟩
theorem q_353 : Cond.instanceMethod yX10_init ∈ zTb := zq_2 15 (by decide +kernel) rfl
theorem q_354 : Cond.code yX10_init cX10_init 3 none ∈ zTb := zq_2 16 (by decide +kernel) rfl
theorem kif_X10 : kIf yX10_init cX10_init 3 2 := ⟨q_353, q_106, q_354, rfl, ⟨by decide +kernel, by decide +kernel, by decide +kernel⟩⟩
theorem q_352 : Cond.methodLink RX11 34 yX10_init ∈ zTb := zq_2 14 (by decide +kernel) rfl
theorem kff_X11_35_10 : kFf RX11 35 10 3 (.object "VoteAgainst$YearsReader") := ⟨RX11, TX11, 10, tyX11, "VoteAgainst", rfl, lay_10, tyX11_ok, nmX11, by decide, q_466, Or.inl rfl, rfl, rfl, tyX11_ok 3 (by decide)⟩
theorem q_382 : Cond.classLink RX11 39 RX7 ∈ zTb := zq_2 44 (by decide +kernel) rfl
theorem knf_X11_39 : kNf RX11 39 6 6 [.null, .null, .null, .null, .int 0, .int 0] := ⟨RX7, TX7, tyX7, rfl, lay_6, tyX7_ok, q_382, q_383, q_108, by decide +kernel⟩
theorem q_384 : Cond.methodLink RX11 41 yX7_init ∈ zTb := zq_2 46 (by decide +kernel) rfl
theorem kff_X11_44_10 : kFf RX11 44 10 4 (.object "VoteAgainst$Standing") := ⟨RX11, TX11, 10, tyX11, "VoteAgainst", rfl, lay_10, tyX11_ok, nmX11, by decide, q_467, Or.inl rfl, rfl, rfl, tyX11_ok 4 (by decide)⟩
theorem kff_X11_48_10 : kFf RX11 48 10 5 (.object "VoteAgainst$Standing") := ⟨RX11, TX11, 10, tyX11, "VoteAgainst", rfl, lay_10, tyX11_ok, nmX11, by decide, q_468, Or.inl rfl, rfl, rfl, tyX11_ok 5 (by decide)⟩
theorem q_415 : Cond.instanceMethod yX2_init ∈ zTb := zq_2 77 (by decide +kernel) rfl
theorem q_416 : Cond.code yX2_init cX2_init 2 none ∈ zTb := zq_2 78 (by decide +kernel) rfl
theorem kif_X2 : kIf yX2_init cX2_init 2 1 := ⟨q_415, q_109, q_416, rfl, ⟨by decide +kernel, by decide +kernel, by decide +kernel⟩⟩
theorem kff_X11_54_10 : kFf RX11 54 10 6 (.object "VoteAgainst$Moment") := ⟨RX11, TX11, 10, tyX11, "VoteAgainst", rfl, lay_10, tyX11_ok, nmX11, by decide, q_469, Or.inl rfl, rfl, rfl, tyX11_ok 6 (by decide)⟩
theorem kff_X11_58_10 : kFf RX11 58 10 7 (.array (.object "VoteAgainst$Moment")) := ⟨RX11, TX11, 10, tyX11, "VoteAgainst", rfl, lay_10, tyX11_ok, nmX11, by decide, q_470, Or.inl rfl, rfl, rfl, tyX11_ok 7 (by decide)⟩
theorem q_443 : Cond.classLink RX11 62 RX3 ∈ zTb := zq_2 105 (by decide +kernel) rfl
theorem q_444 : Cond.instantiable RX3 3 ∈ zTb := zq_2 106 (by decide +kernel) rfl
theorem knf_X11_62 : kNf RX11 62 3 3 [.null, .int 0, .int 0] := ⟨RX3, TX3, tyX3, rfl, lay_3, tyX3_ok, q_443, q_444, q_110, by decide +kernel⟩
theorem q_446 : Cond.instanceMethod yX3_init ∈ zTb := zq_2 108 (by decide +kernel) rfl
theorem q_447 : Cond.code yX3_init cX3_init 3 none ∈ zTb := zq_2 109 (by decide +kernel) rfl
theorem kif_X3 : kIf yX3_init cX3_init 3 1 := ⟨q_446, q_110, q_447, rfl, ⟨by decide +kernel, by decide +kernel, by decide +kernel⟩⟩
theorem q_445 : Cond.methodLink RX11 64 yX3_init ∈ zTb := zq_2 107 (by decide +kernel) rfl
theorem kff_X11_65_10 : kFf RX11 65 10 8 (.object "VoteAgainst$Past") := ⟨RX11, TX11, 10, tyX11, "VoteAgainst", rfl, lay_10, tyX11_ok, nmX11, by decide, q_471, Or.inl rfl, rfl, rfl, tyX11_ok 8 (by decide)⟩
theorem dX8_init_0 : decode cX8_init 0 = .ok (.aload_n 0, 1) := by decide +kernel
theorem dX8_init_1 : decode cX8_init 1 = .ok (.invokespecial 1, 3) := by decide +kernel
theorem dX8_init_4 : decode cX8_init 4 = .ok (.aload_n 0, 1) := by decide +kernel
theorem dX8_init_5 : decode cX8_init 5 = .ok (.sipush 1000, 3) := by decide +kernel
theorem dX8_init_8 : decode cX8_init 8 = .ok (.newarray .char, 2) := by decide +kernel
theorem dX8_init_10 : decode cX8_init 10 = .ok (.putfield 9, 3) := by decide +kernel
theorem dX8_init_13 : decode cX8_init 13 = .ok (.return_, 1) := by decide +kernel
theorem dX1_init_0 : decode cX1_init 0 = .ok (.aload_n 0, 1) := by decide +kernel
theorem dX1_init_1 : decode cX1_init 1 = .ok (.invokespecial 3, 3) := by decide +kernel
theorem dX1_init_4 : decode cX1_init 4 = .ok (.aload_n 0, 1) := by decide +kernel
theorem dX1_init_5 : decode cX1_init 5 = .ok (.sipush 1000, 3) := by decide +kernel
theorem dX1_init_8 : decode cX1_init 8 = .ok (.newarray .int, 2) := by decide +kernel
theorem dX1_init_10 : decode cX1_init 10 = .ok (.putfield 11, 3) := by decide +kernel
theorem dX1_init_13 : decode cX1_init 13 = .ok (.aload_n 0, 1) := by decide +kernel
theorem dX1_init_14 : decode cX1_init 14 = .ok (.bipush 32, 2) := by decide +kernel
theorem dX1_init_16 : decode cX1_init 16 = .ok (.newarray .int, 2) := by decide +kernel
theorem dX1_init_18 : decode cX1_init 18 = .ok (.putfield 17, 3) := by decide +kernel
theorem dX1_init_21 : decode cX1_init 21 = .ok (.return_, 1) := by decide +kernel
theorem dX9_init_0 : decode cX9_init 0 = .ok (.aload_n 0, 1) := by decide +kernel
theorem dX9_init_1 : decode cX9_init 1 = .ok (.invokespecial 1, 3) := by decide +kernel
theorem dX9_init_4 : decode cX9_init 4 = .ok (.aload_n 0, 1) := by decide +kernel
theorem dX9_init_5 : decode cX9_init 5 = .ok (.bipush 40, 2) := by decide +kernel
theorem dX9_init_7 : decode cX9_init 7 = .ok (.newarray .int, 2) := by decide +kernel
theorem dX9_init_9 : decode cX9_init 9 = .ok (.putfield 9, 3) := by decide +kernel
theorem dX9_init_12 : decode cX9_init 12 = .ok (.return_, 1) := by decide +kernel
theorem dX7_init_0 : decode cX7_init 0 = .ok (.aload_n 0, 1) := by decide +kernel
theorem dX7_init_1 : decode cX7_init 1 = .ok (.invokespecial 3, 3) := by decide +kernel
theorem dX7_init_4 : decode cX7_init 4 = .ok (.aload_n 0, 1) := by decide +kernel
theorem dX7_init_5 : decode cX7_init 5 = .ok (.bipush 49, 2) := by decide +kernel
theorem dX7_init_7 : decode cX7_init 7 = .ok (.newarray .int, 2) := by decide +kernel
theorem dX7_init_9 : decode cX7_init 9 = .ok (.putfield 9, 3) := by decide +kernel
theorem dX7_init_12 : decode cX7_init 12 = .ok (.aload_n 0, 1) := by decide +kernel
theorem dX7_init_13 : decode cX7_init 13 = .ok (.bipush 49, 2) := by decide +kernel
theorem dX7_init_15 : decode cX7_init 15 = .ok (.newarray .int, 2) := by decide +kernel
theorem dX7_init_17 : decode cX7_init 17 = .ok (.putfield 15, 3) := by decide +kernel
theorem dX7_init_20 : decode cX7_init 20 = .ok (.aload_n 0, 1) := by decide +kernel
theorem dX7_init_21 : decode cX7_init 21 = .ok (.bipush 7, 2) := by decide +kernel
theorem dX7_init_23 : decode cX7_init 23 = .ok (.newarray .int, 2) := by decide +kernel
theorem dX7_init_25 : decode cX7_init 25 = .ok (.putfield 18, 3) := by decide +kernel
theorem dX7_init_28 : decode cX7_init 28 = .ok (.aload_n 0, 1) := by decide +kernel
theorem dX7_init_29 : decode cX7_init 29 = .ok (.aload_n 1, 1) := by decide +kernel
theorem dX7_init_30 : decode cX7_init 30 = .ok (.putfield 21, 3) := by decide +kernel
theorem dX7_init_33 : decode cX7_init 33 = .ok (.return_, 1) := by decide +kernel
theorem dX0_init_0 : decode cX0_init 0 = .ok (.aload_n 0, 1) := by decide +kernel
theorem dX0_init_1 : decode cX0_init 1 = .ok (.invokespecial 1, 3) := by decide +kernel
theorem dX0_init_4 : decode cX0_init 4 = .ok (.aload_n 0, 1) := by decide +kernel
theorem dX0_init_5 : decode cX0_init 5 = .ok (.bipush 32, 2) := by decide +kernel
theorem dX0_init_7 : decode cX0_init 7 = .ok (.newarray .int, 2) := by decide +kernel
theorem dX0_init_9 : decode cX0_init 9 = .ok (.putfield 9, 3) := by decide +kernel
theorem dX0_init_12 : decode cX0_init 12 = .ok (.aload_n 0, 1) := by decide +kernel
theorem dX0_init_13 : decode cX0_init 13 = .ok (.aload_n 1, 1) := by decide +kernel
theorem dX0_init_14 : decode cX0_init 14 = .ok (.putfield 13, 3) := by decide +kernel
theorem dX0_init_17 : decode cX0_init 17 = .ok (.aload_n 0, 1) := by decide +kernel
theorem dX0_init_18 : decode cX0_init 18 = .ok (.aload_n 2, 1) := by decide +kernel
theorem dX0_init_19 : decode cX0_init 19 = .ok (.putfield 17, 3) := by decide +kernel
theorem dX0_init_22 : decode cX0_init 22 = .ok (.return_, 1) := by decide +kernel
theorem dX4_init_0 : decode cX4_init 0 = .ok (.aload_n 0, 1) := by decide +kernel
theorem dX4_init_1 : decode cX4_init 1 = .ok (.invokespecial 3, 3) := by decide +kernel
theorem dX4_init_4 : decode cX4_init 4 = .ok (.aload_n 0, 1) := by decide +kernel
theorem dX4_init_5 : decode cX4_init 5 = .ok (.aload_n 1, 1) := by decide +kernel
theorem dX4_init_6 : decode cX4_init 6 = .ok (.putfield 9, 3) := by decide +kernel
theorem dX4_init_9 : decode cX4_init 9 = .ok (.aload_n 0, 1) := by decide +kernel
theorem dX4_init_10 : decode cX4_init 10 = .ok (.aload_n 2, 1) := by decide +kernel
theorem dX4_init_11 : decode cX4_init 11 = .ok (.putfield 15, 3) := by decide +kernel
theorem dX4_init_14 : decode cX4_init 14 = .ok (.return_, 1) := by decide +kernel
theorem dX5_init_0 : decode cX5_init 0 = .ok (.aload_n 0, 1) := by decide +kernel
theorem dX5_init_1 : decode cX5_init 1 = .ok (.invokespecial 3, 3) := by decide +kernel
theorem dX5_init_4 : decode cX5_init 4 = .ok (.aload_n 0, 1) := by decide +kernel
theorem dX5_init_5 : decode cX5_init 5 = .ok (.bipush 7, 2) := by decide +kernel
theorem dX5_init_7 : decode cX5_init 7 = .ok (.newarray .long, 2) := by decide +kernel
theorem dX5_init_9 : decode cX5_init 9 = .ok (.putfield 9, 3) := by decide +kernel
theorem dX5_init_12 : decode cX5_init 12 = .ok (.aload_n 0, 1) := by decide +kernel
theorem dX5_init_13 : decode cX5_init 13 = .ok (.bipush 7, 2) := by decide +kernel
theorem dX5_init_15 : decode cX5_init 15 = .ok (.newarray .int, 2) := by decide +kernel
theorem dX5_init_17 : decode cX5_init 17 = .ok (.putfield 15, 3) := by decide +kernel
theorem dX5_init_20 : decode cX5_init 20 = .ok (.aload_n 0, 1) := by decide +kernel
theorem dX5_init_21 : decode cX5_init 21 = .ok (.bipush 7, 2) := by decide +kernel
theorem dX5_init_23 : decode cX5_init 23 = .ok (.newarray .int, 2) := by decide +kernel
theorem dX5_init_25 : decode cX5_init 25 = .ok (.putfield 19, 3) := by decide +kernel
theorem dX5_init_28 : decode cX5_init 28 = .ok (.aload_n 0, 1) := by decide +kernel
theorem dX5_init_29 : decode cX5_init 29 = .ok (.bipush 7, 2) := by decide +kernel
theorem dX5_init_31 : decode cX5_init 31 = .ok (.newarray .int, 2) := by decide +kernel
theorem dX5_init_33 : decode cX5_init 33 = .ok (.putfield 22, 3) := by decide +kernel
theorem dX5_init_36 : decode cX5_init 36 = .ok (.aload_n 0, 1) := by decide +kernel
theorem dX5_init_37 : decode cX5_init 37 = .ok (.bipush 7, 2) := by decide +kernel
theorem dX5_init_39 : decode cX5_init 39 = .ok (.newarray .int, 2) := by decide +kernel
theorem dX5_init_41 : decode cX5_init 41 = .ok (.putfield 25, 3) := by decide +kernel
theorem dX5_init_44 : decode cX5_init 44 = .ok (.aload_n 0, 1) := by decide +kernel
theorem dX5_init_45 : decode cX5_init 45 = .ok (.bipush 49, 2) := by decide +kernel
theorem dX5_init_47 : decode cX5_init 47 = .ok (.newarray .int, 2) := by decide +kernel
theorem dX5_init_49 : decode cX5_init 49 = .ok (.putfield 28, 3) := by decide +kernel
theorem dX5_init_52 : decode cX5_init 52 = .ok (.aload_n 0, 1) := by decide +kernel
theorem dX5_init_53 : decode cX5_init 53 = .ok (.new 31, 3) := by decide +kernel
theorem dX5_init_56 : decode cX5_init 56 = .ok (.dup, 1) := by decide +kernel
theorem dX5_init_57 : decode cX5_init 57 = .ok (.invokespecial 33, 3) := by decide +kernel
theorem dX5_init_60 : decode cX5_init 60 = .ok (.putfield 34, 3) := by decide +kernel
theorem dX5_init_63 : decode cX5_init 63 = .ok (.aload_n 0, 1) := by decide +kernel
theorem dX5_init_64 : decode cX5_init 64 = .ok (.bipush 7, 2) := by decide +kernel
theorem dX5_init_66 : decode cX5_init 66 = .ok (.putfield 38, 3) := by decide +kernel
theorem dX5_init_69 : decode cX5_init 69 = .ok (.return_, 1) := by decide +kernel
theorem dX2_init_0 : decode cX2_init 0 = .ok (.aload_n 0, 1) := by decide +kernel
theorem dX2_init_1 : decode cX2_init 1 = .ok (.invokespecial 3, 3) := by decide +kernel
theorem dX2_init_4 : decode cX2_init 4 = .ok (.aload_n 0, 1) := by decide +kernel
theorem dX2_init_5 : decode cX2_init 5 = .ok (.new 9, 3) := by decide +kernel
theorem dX2_init_8 : decode cX2_init 8 = .ok (.dup, 1) := by decide +kernel
theorem dX2_init_9 : decode cX2_init 9 = .ok (.invokespecial 11, 3) := by decide +kernel
theorem dX2_init_12 : decode cX2_init 12 = .ok (.putfield 12, 3) := by decide +kernel
theorem dX2_init_15 : decode cX2_init 15 = .ok (.aload_n 0, 1) := by decide +kernel
theorem dX2_init_16 : decode cX2_init 16 = .ok (.sipush 1022, 3) := by decide +kernel
theorem dX2_init_19 : decode cX2_init 19 = .ok (.putfield 18, 3) := by decide +kernel
theorem dX2_init_22 : decode cX2_init 22 = .ok (.aload_n 0, 1) := by decide +kernel
theorem dX2_init_23 : decode cX2_init 23 = .ok (.new 22, 3) := by decide +kernel
theorem dX2_init_26 : decode cX2_init 26 = .ok (.dup, 1) := by decide +kernel
theorem dX2_init_27 : decode cX2_init 27 = .ok (.aload_n 1, 1) := by decide +kernel
theorem dX2_init_28 : decode cX2_init 28 = .ok (.invokespecial 24, 3) := by decide +kernel
theorem dX2_init_31 : decode cX2_init 31 = .ok (.putfield 27, 3) := by decide +kernel
theorem dX2_init_34 : decode cX2_init 34 = .ok (.return_, 1) := by decide +kernel
theorem dX10_init_0 : decode cX10_init 0 = .ok (.aload_n 0, 1) := by decide +kernel
theorem dX10_init_1 : decode cX10_init 1 = .ok (.aload_n 1, 1) := by decide +kernel
theorem dX10_init_2 : decode cX10_init 2 = .ok (.aload_n 2, 1) := by decide +kernel
theorem dX10_init_3 : decode cX10_init 3 = .ok (.invokespecial 1, 3) := by decide +kernel
theorem dX10_init_6 : decode cX10_init 6 = .ok (.aload_n 0, 1) := by decide +kernel
theorem dX10_init_7 : decode cX10_init 7 = .ok (.new 7, 3) := by decide +kernel
theorem dX10_init_10 : decode cX10_init 10 = .ok (.dup, 1) := by decide +kernel
theorem dX10_init_11 : decode cX10_init 11 = .ok (.invokespecial 9, 3) := by decide +kernel
theorem dX10_init_14 : decode cX10_init 14 = .ok (.putfield 12, 3) := by decide +kernel
theorem dX10_init_17 : decode cX10_init 17 = .ok (.return_, 1) := by decide +kernel
theorem dX6_init_0 : decode cX6_init 0 = .ok (.aload_n 0, 1) := by decide +kernel
theorem dX6_init_1 : decode cX6_init 1 = .ok (.aload_n 1, 1) := by decide +kernel
theorem dX6_init_2 : decode cX6_init 2 = .ok (.aload_n 2, 1) := by decide +kernel
theorem dX6_init_3 : decode cX6_init 3 = .ok (.invokespecial 3, 3) := by decide +kernel
theorem dX6_init_6 : decode cX6_init 6 = .ok (.aload_n 0, 1) := by decide +kernel
theorem dX6_init_7 : decode cX6_init 7 = .ok (.new 9, 3) := by decide +kernel
theorem dX6_init_10 : decode cX6_init 10 = .ok (.dup, 1) := by decide +kernel
theorem dX6_init_11 : decode cX6_init 11 = .ok (.aload_n 1, 1) := by decide +kernel
theorem dX6_init_12 : decode cX6_init 12 = .ok (.aload_n 2, 1) := by decide +kernel
theorem dX6_init_13 : decode cX6_init 13 = .ok (.getfield 11, 3) := by decide +kernel
theorem dX6_init_16 : decode cX6_init 16 = .ok (.invokespecial 17, 3) := by decide +kernel
theorem dX6_init_19 : decode cX6_init 19 = .ok (.putfield 20, 3) := by decide +kernel
theorem dX6_init_22 : decode cX6_init 22 = .ok (.return_, 1) := by decide +kernel
theorem dX3_init_0 : decode cX3_init 0 = .ok (.aload_n 0, 1) := by decide +kernel
theorem dX3_init_1 : decode cX3_init 1 = .ok (.invokespecial 1, 3) := by decide +kernel
theorem dX3_init_4 : decode cX3_init 4 = .ok (.aload_n 0, 1) := by decide +kernel
theorem dX3_init_5 : decode cX3_init 5 = .ok (.bipush 16, 2) := by decide +kernel
theorem dX3_init_7 : decode cX3_init 7 = .ok (.anewarray 9, 3) := by decide +kernel
theorem dX3_init_10 : decode cX3_init 10 = .ok (.putfield 11, 3) := by decide +kernel
theorem dX3_init_13 : decode cX3_init 13 = .ok (.iconst 0, 1) := by decide +kernel
theorem dX3_init_14 : decode cX3_init 14 = .ok (.istore_n 2, 1) := by decide +kernel
theorem dX3_init_15 : decode cX3_init 15 = .ok (.iload_n 2, 1) := by decide +kernel
theorem dX3_init_16 : decode cX3_init 16 = .ok (.bipush 16, 2) := by decide +kernel
theorem dX3_init_18 : decode cX3_init 18 = .ok (.if_icmp .ge 23, 3) := by decide +kernel
theorem dX3_init_21 : decode cX3_init 21 = .ok (.aload_n 0, 1) := by decide +kernel
theorem dX3_init_22 : decode cX3_init 22 = .ok (.getfield 11, 3) := by decide +kernel
theorem dX3_init_25 : decode cX3_init 25 = .ok (.iload_n 2, 1) := by decide +kernel
theorem dX3_init_26 : decode cX3_init 26 = .ok (.new 9, 3) := by decide +kernel
theorem dX3_init_29 : decode cX3_init 29 = .ok (.dup, 1) := by decide +kernel
theorem dX3_init_30 : decode cX3_init 30 = .ok (.aload_n 1, 1) := by decide +kernel
theorem dX3_init_31 : decode cX3_init 31 = .ok (.invokespecial 15, 3) := by decide +kernel
theorem dX3_init_34 : decode cX3_init 34 = .ok (.aastore, 1) := by decide +kernel
theorem dX3_init_35 : decode cX3_init 35 = .ok (.iinc 2 1, 3) := by decide +kernel
theorem dX3_init_38 : decode cX3_init 38 = .ok (.goto (-23), 3) := by decide +kernel
theorem dX3_init_41 : decode cX3_init 41 = .ok (.return_, 1) := by decide +kernel
theorem dX11_init_0 : decode cX11_init 0 = .ok (.aload_n 0, 1) := by decide +kernel
theorem dX11_init_1 : decode cX11_init 1 = .ok (.invokespecial 1, 3) := by decide +kernel
theorem dX11_init_4 : decode cX11_init 4 = .ok (.aload_n 0, 1) := by decide +kernel
theorem dX11_init_5 : decode cX11_init 5 = .ok (.new 7, 3) := by decide +kernel
theorem dX11_init_8 : decode cX11_init 8 = .ok (.dup, 1) := by decide +kernel
theorem dX11_init_9 : decode cX11_init 9 = .ok (.invokespecial 9, 3) := by decide +kernel
theorem dX11_init_12 : decode cX11_init 12 = .ok (.putfield 10, 3) := by decide +kernel
theorem dX11_init_15 : decode cX11_init 15 = .ok (.aload_n 0, 1) := by decide +kernel
theorem dX11_init_16 : decode cX11_init 16 = .ok (.new 16, 3) := by decide +kernel
theorem dX11_init_19 : decode cX11_init 19 = .ok (.dup, 1) := by decide +kernel
theorem dX11_init_20 : decode cX11_init 20 = .ok (.invokespecial 18, 3) := by decide +kernel
theorem dX11_init_23 : decode cX11_init 23 = .ok (.putfield 19, 3) := by decide +kernel
theorem dX11_init_26 : decode cX11_init 26 = .ok (.aload_n 0, 1) := by decide +kernel
theorem dX11_init_27 : decode cX11_init 27 = .ok (.new 23, 3) := by decide +kernel
theorem dX11_init_30 : decode cX11_init 30 = .ok (.dup, 1) := by decide +kernel
theorem dX11_init_31 : decode cX11_init 31 = .ok (.aload_n 0, 1) := by decide +kernel
theorem dX11_init_32 : decode cX11_init 32 = .ok (.getfield 10, 3) := by decide +kernel
theorem dX11_init_35 : decode cX11_init 35 = .ok (.new 16, 3) := by decide +kernel
theorem dX11_init_38 : decode cX11_init 38 = .ok (.dup, 1) := by decide +kernel
theorem dX11_init_39 : decode cX11_init 39 = .ok (.invokespecial 18, 3) := by decide +kernel
theorem dX11_init_42 : decode cX11_init 42 = .ok (.invokespecial 25, 3) := by decide +kernel
theorem dX11_init_45 : decode cX11_init 45 = .ok (.putfield 28, 3) := by decide +kernel
theorem dX11_init_48 : decode cX11_init 48 = .ok (.aload_n 0, 1) := by decide +kernel
theorem dX11_init_49 : decode cX11_init 49 = .ok (.new 32, 3) := by decide +kernel
theorem dX11_init_52 : decode cX11_init 52 = .ok (.dup, 1) := by decide +kernel
theorem dX11_init_53 : decode cX11_init 53 = .ok (.aload_n 0, 1) := by decide +kernel
theorem dX11_init_54 : decode cX11_init 54 = .ok (.getfield 10, 3) := by decide +kernel
theorem dX11_init_57 : decode cX11_init 57 = .ok (.aload_n 0, 1) := by decide +kernel
theorem dX11_init_58 : decode cX11_init 58 = .ok (.getfield 19, 3) := by decide +kernel
theorem dX11_init_61 : decode cX11_init 61 = .ok (.invokespecial 34, 3) := by decide +kernel
theorem dX11_init_64 : decode cX11_init 64 = .ok (.putfield 35, 3) := by decide +kernel
theorem dX11_init_67 : decode cX11_init 67 = .ok (.aload_n 0, 1) := by decide +kernel
theorem dX11_init_68 : decode cX11_init 68 = .ok (.new 39, 3) := by decide +kernel
theorem dX11_init_71 : decode cX11_init 71 = .ok (.dup, 1) := by decide +kernel
theorem dX11_init_72 : decode cX11_init 72 = .ok (.aload_n 0, 1) := by decide +kernel
theorem dX11_init_73 : decode cX11_init 73 = .ok (.getfield 19, 3) := by decide +kernel
theorem dX11_init_76 : decode cX11_init 76 = .ok (.invokespecial 41, 3) := by decide +kernel
theorem dX11_init_79 : decode cX11_init 79 = .ok (.putfield 44, 3) := by decide +kernel
theorem dX11_init_82 : decode cX11_init 82 = .ok (.aload_n 0, 1) := by decide +kernel
theorem dX11_init_83 : decode cX11_init 83 = .ok (.new 39, 3) := by decide +kernel
theorem dX11_init_86 : decode cX11_init 86 = .ok (.dup, 1) := by decide +kernel
theorem dX11_init_87 : decode cX11_init 87 = .ok (.aload_n 0, 1) := by decide +kernel
theorem dX11_init_88 : decode cX11_init 88 = .ok (.getfield 19, 3) := by decide +kernel
theorem dX11_init_91 : decode cX11_init 91 = .ok (.invokespecial 41, 3) := by decide +kernel
theorem dX11_init_94 : decode cX11_init 94 = .ok (.putfield 48, 3) := by decide +kernel
theorem dX11_init_97 : decode cX11_init 97 = .ok (.aload_n 0, 1) := by decide +kernel
theorem dX11_init_98 : decode cX11_init 98 = .ok (.new 51, 3) := by decide +kernel
theorem dX11_init_101 : decode cX11_init 101 = .ok (.dup, 1) := by decide +kernel
theorem dX11_init_102 : decode cX11_init 102 = .ok (.aload_n 0, 1) := by decide +kernel
theorem dX11_init_103 : decode cX11_init 103 = .ok (.getfield 19, 3) := by decide +kernel
theorem dX11_init_106 : decode cX11_init 106 = .ok (.invokespecial 53, 3) := by decide +kernel
theorem dX11_init_109 : decode cX11_init 109 = .ok (.putfield 54, 3) := by decide +kernel
theorem dX11_init_112 : decode cX11_init 112 = .ok (.aload_n 0, 1) := by decide +kernel
theorem dX11_init_113 : decode cX11_init 113 = .ok (.iconst 4, 1) := by decide +kernel
theorem dX11_init_114 : decode cX11_init 114 = .ok (.anewarray 51, 3) := by decide +kernel
theorem dX11_init_117 : decode cX11_init 117 = .ok (.putfield 58, 3) := by decide +kernel
theorem dX11_init_120 : decode cX11_init 120 = .ok (.iconst 0, 1) := by decide +kernel
theorem dX11_init_121 : decode cX11_init 121 = .ok (.istore_n 1, 1) := by decide +kernel
theorem dX11_init_122 : decode cX11_init 122 = .ok (.iload_n 1, 1) := by decide +kernel
theorem dX11_init_123 : decode cX11_init 123 = .ok (.iconst 4, 1) := by decide +kernel
theorem dX11_init_124 : decode cX11_init 124 = .ok (.if_icmp .ge 26, 3) := by decide +kernel
theorem dX11_init_127 : decode cX11_init 127 = .ok (.aload_n 0, 1) := by decide +kernel
theorem dX11_init_128 : decode cX11_init 128 = .ok (.getfield 58, 3) := by decide +kernel
theorem dX11_init_131 : decode cX11_init 131 = .ok (.iload_n 1, 1) := by decide +kernel
theorem dX11_init_132 : decode cX11_init 132 = .ok (.new 51, 3) := by decide +kernel
theorem dX11_init_135 : decode cX11_init 135 = .ok (.dup, 1) := by decide +kernel
theorem dX11_init_136 : decode cX11_init 136 = .ok (.aload_n 0, 1) := by decide +kernel
theorem dX11_init_137 : decode cX11_init 137 = .ok (.getfield 19, 3) := by decide +kernel
theorem dX11_init_140 : decode cX11_init 140 = .ok (.invokespecial 53, 3) := by decide +kernel
theorem dX11_init_143 : decode cX11_init 143 = .ok (.aastore, 1) := by decide +kernel
theorem dX11_init_144 : decode cX11_init 144 = .ok (.iinc 1 1, 3) := by decide +kernel
theorem dX11_init_147 : decode cX11_init 147 = .ok (.goto (-25), 3) := by decide +kernel
theorem dX11_init_150 : decode cX11_init 150 = .ok (.aload_n 0, 1) := by decide +kernel
theorem dX11_init_151 : decode cX11_init 151 = .ok (.new 62, 3) := by decide +kernel
theorem dX11_init_154 : decode cX11_init 154 = .ok (.dup, 1) := by decide +kernel
theorem dX11_init_155 : decode cX11_init 155 = .ok (.aload_n 0, 1) := by decide +kernel
theorem dX11_init_156 : decode cX11_init 156 = .ok (.getfield 19, 3) := by decide +kernel
theorem dX11_init_159 : decode cX11_init 159 = .ok (.invokespecial 64, 3) := by decide +kernel
theorem dX11_init_162 : decode cX11_init 162 = .ok (.putfield 65, 3) := by decide +kernel
theorem dX11_init_165 : decode cX11_init 165 = .ok (.return_, 1) := by decide +kernel
