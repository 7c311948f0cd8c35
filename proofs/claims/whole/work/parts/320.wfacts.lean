theorem q_125 : Cond.classLink RL 8 RX11 ∈ zTb := zq_1 27 (by decide +kernel) rfl
theorem q_126 : Cond.instantiable RX11 10 ∈ zTb := zq_1 28 (by decide +kernel) rfl
theorem knf_L_8 : kNf RL 8 10 10 [.null, .null, .null, .null, .null, .null, .null, .null, .null, .long 0] := ⟨RX11, TX11, tyX11, rfl, lay_10, tyX11_ok, q_125, q_126, q_99, by decide +kernel⟩
theorem q_1285 : Cond.classLink RL 16 RX12 ∈ zTb := zq_5 227 (by decide +kernel) rfl
theorem q_1286 : Cond.instantiable RX12 52 ∈ zTb := zq_5 228 (by decide +kernel) rfl
theorem knf_L_16 : kNf RL 16 11 52 [.int 0, .int 0, .null, .int 0, .int 0, .int 0, .int 0, .long 0, .int 0, .int 0, .null, .null, .null, .null, .null, .null, .null, .null, .null, .null, .null, .int 0, .int 0, .null, .null, .null, .null, .null, .null, .null, .null, .null, .null, .null, .null, .int 0, .int 0, .null, .null, .null, .null, .null, .null, .null, .null, .null, .null, .null, .null, .int 0, .null, .long 0] := ⟨RX12, TX12, tyX12, rfl, lay_11, tyX12_ok, q_1285, q_1286, q_111, by decide +kernel⟩
theorem q_128 : Cond.instanceMethod yX11_init ∈ zTb := zq_1 30 (by decide +kernel) rfl
theorem q_129 : Cond.code yX11_init cX11_init 2 none ∈ zTb := zq_1 31 (by decide +kernel) rfl
theorem kif_X11 : kIf yX11_init cX11_init 2 0 := ⟨q_128, q_99, q_129, rfl, ⟨by decide +kernel, by decide +kernel, by decide +kernel⟩⟩
theorem q_1288 : Cond.instanceMethod yX12_init ∈ zTb := zq_5 230 (by decide +kernel) rfl
theorem q_1289 : Cond.code yX12_init cX12_init 2 none ∈ zTb := zq_5 231 (by decide +kernel) rfl
theorem kif_X12 : kIf yX12_init cX12_init 2 0 := ⟨q_1288, q_111, q_1289, rfl, ⟨by decide +kernel, by decide +kernel, by decide +kernel⟩⟩
theorem q_127 : Cond.methodLink RL 15 yX11_init ∈ zTb := zq_1 29 (by decide +kernel) rfl
theorem q_1287 : Cond.methodLink RL 18 yX12_init ∈ zTb := zq_5 229 (by decide +kernel) rfl
theorem q_121 : Cond.initialized "java/lang/Throwable" ∈ zTb := zq_1 23 (by decide +kernel) rfl
theorem lt_442 : Cond.arrayOver (.object "VoteAgainst$Moment") ∈ lw_tbl := List.mem_of_getElem? (i := 442) (by decide +kernel)
theorem lt_450 : Cond.arrayOver (.object "VoteAgainst$Standing") ∈ lw_tbl := List.mem_of_getElem? (i := 450) (by decide +kernel)
theorem lt_135 : Cond.methodLinkNest RX11 9 yX8_init RX11 ∈ lw_tbl := List.mem_of_getElem? (i := 135) (by decide +kernel)
theorem lt_170 : Cond.methodLinkNest RX11 18 yX5_init RX11 ∈ lw_tbl := List.mem_of_getElem? (i := 170) (by decide +kernel)
theorem lt_176 : Cond.methodLinkNest RX5 33 yX1_init RX11 ∈ lw_tbl := List.mem_of_getElem? (i := 176) (by decide +kernel)
theorem lt_358 : Cond.methodLinkNest RX10 9 yX9_init RX11 ∈ lw_tbl := List.mem_of_getElem? (i := 358) (by decide +kernel)
theorem lt_419 : Cond.methodLinkNest RX2 11 yX9_init RX11 ∈ lw_tbl := List.mem_of_getElem? (i := 419) (by decide +kernel)
theorem lt_513 : Cond.declares ⟨"VoteAgainst$Reader", "begin", "()V"⟩ ∈ lw_tbl := List.mem_of_getElem? (i := 513) (by decide +kernel)
theorem lt_671 : Cond.declares ⟨"VoteAgainst$Reader", "readLine", "()Z"⟩ ∈ lw_tbl := List.mem_of_getElem? (i := 671) (by decide +kernel)
theorem lt_610 : Cond.stringRef "VoteAgainst$Tape" 49 zt0 ∈ lw_tbl := List.mem_of_getElem? (i := 610) (by decide +kernel)
theorem lt_554 : Cond.stringRef "VoteAgainst$Tape" 60 zt1 ∈ lw_tbl := List.mem_of_getElem? (i := 554) (by decide +kernel)
theorem lt_564 : Cond.laysStatic "java/lang/String" "COMPACT_STRINGS" "Z" ∈ lw_tbl := List.mem_of_getElem? (i := 564) (by decide +kernel)
theorem lt_580 : Cond.laysStatic "jdk/internal/util/Preconditions" "SIOOBE_FORMATTER" "Ljava/util/function/BiFunction;" ∈ lw_tbl := List.mem_of_getElem? (i := 580) (by decide +kernel)
theorem lt_1245 : Cond.laysStatic Bundle.tN "UNASSIGNED_STACK" Bundle.steD ∈ lw_tbl := List.mem_of_getElem? (i := 1245) (by decide +kernel)
theorem lt_1247 : Cond.laysStatic Bundle.tN "SUPPRESSED_SENTINEL" Bundle.listD ∈ lw_tbl := List.mem_of_getElem? (i := 1247) (by decide +kernel)
theorem lt_1220 : Cond.castable xNSE xNSE ∈ lw_tbl := List.mem_of_getElem? (i := 1220) (by decide +kernel)
theorem lt_1221 : Cond.declares (Bundle.init0 "java/lang/RuntimeException") ∈ lw_tbl := List.mem_of_getElem? (i := 1221) (by decide +kernel)
theorem lt_1223 : Cond.declares (Bundle.init0 "java/lang/Exception") ∈ lw_tbl := List.mem_of_getElem? (i := 1223) (by decide +kernel)
theorem lt_1225 : Cond.declares (Bundle.init0 Bundle.tN) ∈ lw_tbl := List.mem_of_getElem? (i := 1225) (by decide +kernel)
def lfl : List Cond := flatC (Jvm.Cond.and given_1 narrow_1)
theorem lf_exa : Cond.exactly (Term.string "VoteAgainst$Tape" 49) "java/lang/String" ∈ lfl := by decide +kernel
theorem lf_coa : Cond.eq (.field (Term.string "VoteAgainst$Tape" 49) "java/lang/String" "coder" "B") (.int 0) ∈ lfl := by decide +kernel
theorem lf_ara : Cond.arrayOf (.field (Term.string "VoteAgainst$Tape" 49) "java/lang/String" "value" "[B") .byte ∈ lfl := by decide +kernel
theorem lf_lea : Cond.eq (.length (.field (Term.string "VoteAgainst$Tape" 49) "java/lang/String" "value" "[B")) (.int 8) ∈ lfl := by decide +kernel
theorem lf_ela : ∀ j, j < 8 → lfl[214 + j]? = some (Cond.eq (.elem (.field (Term.string "VoteAgainst$Tape" 49) "java/lang/String" "value" "[B") (.int (Int32.ofNat j))) (.int ((zbyt.getD 0 []).getD j 0))) := by decide +kernel
theorem lf_exb : Cond.exactly (Term.string "VoteAgainst$Tape" 60) "java/lang/String" ∈ lfl := by decide +kernel
theorem lf_cob : Cond.eq (.field (Term.string "VoteAgainst$Tape" 60) "java/lang/String" "coder" "B") (.int 0) ∈ lfl := by decide +kernel
theorem lf_arb : Cond.arrayOf (.field (Term.string "VoteAgainst$Tape" 60) "java/lang/String" "value" "[B") .byte ∈ lfl := by decide +kernel
theorem lf_leb : Cond.eq (.length (.field (Term.string "VoteAgainst$Tape" 60) "java/lang/String" "value" "[B")) (.int 155) ∈ lfl := by decide +kernel
theorem lf_elb : ∀ j, j < 155 → lfl[55 + j]? = some (Cond.eq (.elem (.field (Term.string "VoteAgainst$Tape" 60) "java/lang/String" "value" "[B") (.int (Int32.ofNat j))) (.int ((zbyt.getD 1 []).getD j 0))) := by decide +kernel
theorem lf_ne : Cond.not (Cond.eq (Term.string "VoteAgainst$Tape" 60) (Term.string "VoteAgainst$Tape" 49)) ∈ lfl := by decide +kernel
theorem lf_cs : Cond.eq (.static "java/lang/String" "COMPACT_STRINGS" "Z") (.int 1) ∈ lfl := by decide +kernel
theorem lf_sf : Cond.isRef (.static "jdk/internal/util/Preconditions" "SIOOBE_FORMATTER" "Ljava/util/function/BiFunction;") ∈ lfl := by decide +kernel
theorem lf_us : Cond.isRef (.static Bundle.tN "UNASSIGNED_STACK" Bundle.steD) ∈ lfl := by decide +kernel
theorem lf_ss : Cond.isRef (.static Bundle.tN "SUPPRESSED_SENTINEL" Bundle.listD) ∈ lfl := by decide +kernel
