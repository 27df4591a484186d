theorem qT_1 {w : Cond} (h : w ∈ tables_1_1) : w ∈ lw_tbl := List.mem_append_right _ (List.mem_append_left _ (h))
theorem qT_2 {w : Cond} (h : w ∈ tables_1_2) : w ∈ lw_tbl := List.mem_append_right _ (List.mem_append_right _ (List.mem_append_left _ (h)))
theorem qT_3 {w : Cond} (h : w ∈ tables_1_3) : w ∈ lw_tbl := List.mem_append_right _ (List.mem_append_right _ (List.mem_append_right _ (List.mem_append_left _ (h))))
theorem qT_4 {w : Cond} (h : w ∈ tables_1_4) : w ∈ lw_tbl := List.mem_append_right _ (List.mem_append_right _ (List.mem_append_right _ (List.mem_append_right _ (h))))
theorem qP_0 {q : MethodName × Nat} (h : q ∈ lw_privs_1) : Cond.selects q.1.cls q.1 q.1 ∈ lw_tbl := List.mem_append_left _ (List.mem_map.mpr ⟨q, List.mem_append_left _ (h), rfl⟩)
theorem qP_1 {q : MethodName × Nat} (h : q ∈ lw_privs_2) : Cond.selects q.1.cls q.1 q.1 ∈ lw_tbl := List.mem_append_left _ (List.mem_map.mpr ⟨q, List.mem_append_right _ (h), rfl⟩)
theorem qt_1_0 : (Cond.classLink RL 9 RX6) ∈ lw_tbl := qT_1 (List.mem_of_getElem? (i := 21) rfl)
theorem qt_1_1 : (Cond.instantiable RX6 6) ∈ lw_tbl := qT_1 (List.mem_of_getElem? (i := 22) rfl)
theorem qt_1_2 : (Cond.initialized RX6) ∈ lw_tbl := qT_1 (List.mem_of_getElem? (i := 1) rfl)
theorem qt_1_3 : (Cond.arrayClass .int) ∈ lw_tbl := qT_1 (List.mem_of_getElem? (i := 60) rfl)
theorem qt_1_4 : (Cond.methodLink RL 105 yX6_init) ∈ lw_tbl := qT_1 (List.mem_of_getElem? (i := 23) rfl)
theorem qt_1_5 : (Cond.instanceMethod yX6_init) ∈ lw_tbl := qT_1 (List.mem_of_getElem? (i := 24) rfl)
theorem qt_1_6 : (Cond.code yX6_init cX6_init 1 none) ∈ lw_tbl := qT_1 (List.mem_of_getElem? (i := 25) rfl)
theorem qt_1_7 : (Cond.methodLink RX6 3 objectInit) ∈ lw_tbl := qT_1 (List.mem_of_getElem? (i := 26) rfl)
theorem qt_1_8 : (Cond.instanceMethod objectInit) ∈ lw_tbl := qT_1 (List.mem_of_getElem? (i := 27) rfl)
theorem qt_1_9 : (Cond.code objectInit ⟨#[0xb1]⟩ 1 none) ∈ lw_tbl := qT_1 (List.mem_of_getElem? (i := 28) rfl)
theorem qt_1_10 : (Cond.classLink RX6 9 RX3) ∈ lw_tbl := qT_1 (List.mem_of_getElem? (i := 29) rfl)
theorem qt_1_11 : (Cond.instantiable RX3 7) ∈ lw_tbl := qT_1 (List.mem_of_getElem? (i := 30) rfl)
theorem qt_1_12 : (Cond.initialized RX3) ∈ lw_tbl := qT_1 (List.mem_of_getElem? (i := 2) rfl)
theorem qt_1_13 : (Cond.fieldLink RX6 12 "ClaimJudge" "program" "LClaimJudge$Program;") ∈ lw_tbl := qT_1 (List.mem_of_getElem? (i := 202) rfl)
theorem qt_1_14 : (Cond.classLink RX6 16 RX0) ∈ lw_tbl := qT_1 (List.mem_of_getElem? (i := 61) rfl)
theorem qt_1_15 : (Cond.instantiable RX0 2) ∈ lw_tbl := qT_1 (List.mem_of_getElem? (i := 62) rfl)
theorem qt_1_16 : (Cond.initialized RX0) ∈ lw_tbl := qT_1 (List.mem_of_getElem? (i := 3) rfl)
theorem qt_1_17 : (Cond.fieldLink RX6 19 "ClaimJudge" "assumption" "LClaimJudge$Assumption;") ∈ lw_tbl := qT_1 (List.mem_of_getElem? (i := 203) rfl)
theorem qt_1_18 : (Cond.classLink RX6 23 RX4) ∈ lw_tbl := qT_1 (List.mem_of_getElem? (i := 74) rfl)
theorem qt_1_19 : (Cond.instantiable RX4 3) ∈ lw_tbl := qT_1 (List.mem_of_getElem? (i := 75) rfl)
theorem qt_1_20 : (Cond.initialized RX4) ∈ lw_tbl := qT_1 (List.mem_of_getElem? (i := 4) rfl)
theorem qt_1_21 : (Cond.fieldLink RX6 28 "ClaimJudge" "runs" "LClaimJudge$Runs;") ∈ lw_tbl := qT_1 (List.mem_of_getElem? (i := 204) rfl)
theorem qt_1_22 : (Cond.classLink RX6 32 RX2) ∈ lw_tbl := qT_1 (List.mem_of_getElem? (i := 90) rfl)
theorem qt_1_23 : (Cond.instantiable RX2 11) ∈ lw_tbl := qT_1 (List.mem_of_getElem? (i := 91) rfl)
theorem qr_1 : ∀ w ∈ wsL_law0_r1, w ∈ lw_tbl := by
  intro w hw
  simp only [wsL_law0_r1, List.mem_cons, List.not_mem_nil, or_false] at hw
  rcases hw with rfl | rfl | rfl | rfl | rfl | rfl | rfl | rfl | rfl | rfl | rfl | rfl | rfl | rfl | rfl | rfl | rfl | rfl | rfl | rfl | rfl | rfl | rfl | rfl
  · exact qt_1_0
  · exact qt_1_1
  · exact qt_1_2
  · exact qt_1_3
  · exact qt_1_4
  · exact qt_1_5
  · exact qt_1_6
  · exact qt_1_7
  · exact qt_1_8
  · exact qt_1_9
  · exact qt_1_10
  · exact qt_1_11
  · exact qt_1_12
  · exact qt_1_13
  · exact qt_1_14
  · exact qt_1_15
  · exact qt_1_16
  · exact qt_1_17
  · exact qt_1_18
  · exact qt_1_19
  · exact qt_1_20
  · exact qt_1_21
  · exact qt_1_22
  · exact qt_1_23
theorem qt_2_0 : (Cond.initialized RX2) ∈ lw_tbl := qT_1 (List.mem_of_getElem? (i := 5) rfl)
theorem qt_2_1 : (Cond.fieldLink RX6 37 "ClaimJudge" "judgement" "LClaimJudge$Judgement;") ∈ lw_tbl := qT_1 (List.mem_of_getElem? (i := 205) rfl)
theorem qt_2_2 : (Cond.classLink RX6 41 RX1) ∈ lw_tbl := qT_1 (List.mem_of_getElem? (i := 137) rfl)
theorem qt_2_3 : (Cond.instantiable RX1 4) ∈ lw_tbl := qT_1 (List.mem_of_getElem? (i := 138) rfl)
theorem qt_2_4 : (Cond.initialized RX1) ∈ lw_tbl := qT_1 (List.mem_of_getElem? (i := 6) rfl)
theorem qt_2_5 : (Cond.fieldLink RX6 44 "ClaimJudge" "history" "LClaimJudge$History;") ∈ lw_tbl := qT_1 (List.mem_of_getElem? (i := 206) rfl)
theorem qt_2_6 : (Cond.classLink RX6 48 RX5) ∈ lw_tbl := qT_1 (List.mem_of_getElem? (i := 163) rfl)
theorem qt_2_7 : (Cond.instantiable RX5 9) ∈ lw_tbl := qT_1 (List.mem_of_getElem? (i := 164) rfl)
theorem qt_2_8 : (Cond.initialized RX5) ∈ lw_tbl := qT_1 (List.mem_of_getElem? (i := 7) rfl)
theorem qt_2_9 : (Cond.fieldLink RX6 51 "ClaimJudge" "text" "LClaimJudge$Text;") ∈ lw_tbl := qT_1 (List.mem_of_getElem? (i := 207) rfl)
theorem qt_2_10 : (Cond.instanceMethod yX3_init) ∈ lw_tbl := qT_1 (List.mem_of_getElem? (i := 32) rfl)
theorem qt_2_11 : (Cond.code yX3_init cX3_init 1 none) ∈ lw_tbl := qT_1 (List.mem_of_getElem? (i := 33) rfl)
theorem qt_2_12 : (Cond.methodLink RX3 3 objectInit) ∈ lw_tbl := qT_1 (List.mem_of_getElem? (i := 34) rfl)
theorem qt_2_13 : (Cond.fieldLink RX3 9 "ClaimJudge$Program" "kinds" "[I") ∈ lw_tbl := qT_1 (List.mem_of_getElem? (i := 37) rfl)
theorem qt_2_14 : (Cond.fieldLink RX3 15 "ClaimJudge$Program" "variables" "[I") ∈ lw_tbl := qT_1 (List.mem_of_getElem? (i := 39) rfl)
theorem qt_2_15 : (Cond.fieldLink RX3 18 "ClaimJudge$Program" "signs" "[I") ∈ lw_tbl := qT_1 (List.mem_of_getElem? (i := 40) rfl)
theorem qt_2_16 : (Cond.fieldLink RX3 21 "ClaimJudge$Program" "operands" "[I") ∈ lw_tbl := qT_1 (List.mem_of_getElem? (i := 41) rfl)
theorem qt_2_17 : (Cond.fieldLink RX3 24 "ClaimJudge$Program" "addends" "[I") ∈ lw_tbl := qT_1 (List.mem_of_getElem? (i := 42) rfl)
theorem qt_2_18 : (Cond.fieldLink RX3 27 "ClaimJudge$Program" "targets" "[I") ∈ lw_tbl := qT_1 (List.mem_of_getElem? (i := 43) rfl)
theorem qt_2_19 : (Cond.instanceMethod yX0_init) ∈ lw_tbl := qT_1 (List.mem_of_getElem? (i := 64) rfl)
theorem qt_2_20 : (Cond.code yX0_init cX0_init 1 none) ∈ lw_tbl := qT_1 (List.mem_of_getElem? (i := 65) rfl)
theorem qt_2_21 : (Cond.methodLink RX0 3 objectInit) ∈ lw_tbl := qT_1 (List.mem_of_getElem? (i := 66) rfl)
theorem qt_2_22 : (Cond.fieldLink RX0 9 "ClaimJudge$Assumption" "lowest" "[I") ∈ lw_tbl := qT_1 (List.mem_of_getElem? (i := 67) rfl)
theorem qt_2_23 : (Cond.fieldLink RX0 15 "ClaimJudge$Assumption" "highest" "[I") ∈ lw_tbl := qT_1 (List.mem_of_getElem? (i := 68) rfl)
theorem qr_2 : ∀ w ∈ wsL_law0_r2, w ∈ lw_tbl := by
  intro w hw
  simp only [wsL_law0_r2, List.mem_cons, List.not_mem_nil, or_false] at hw
  rcases hw with rfl | rfl | rfl | rfl | rfl | rfl | rfl | rfl | rfl | rfl | rfl | rfl | rfl | rfl | rfl | rfl | rfl | rfl | rfl | rfl | rfl | rfl | rfl | rfl
  · exact qt_2_0
  · exact qt_2_1
  · exact qt_2_2
  · exact qt_2_3
  · exact qt_2_4
  · exact qt_2_5
  · exact qt_2_6
  · exact qt_2_7
  · exact qt_2_8
  · exact qt_2_9
  · exact qt_2_10
  · exact qt_2_11
  · exact qt_2_12
  · exact qt_2_13
  · exact qt_2_14
  · exact qt_2_15
  · exact qt_2_16
  · exact qt_2_17
  · exact qt_2_18
  · exact qt_2_19
  · exact qt_2_20
  · exact qt_2_21
  · exact qt_2_22
  · exact qt_2_23
theorem qt_3_0 : (Cond.methodLink RX6 25 yX4_init) ∈ lw_tbl := qT_1 (List.mem_of_getElem? (i := 76) rfl)
theorem qt_3_1 : (Cond.instanceMethod yX4_init) ∈ lw_tbl := qT_1 (List.mem_of_getElem? (i := 77) rfl)
theorem qt_3_2 : (Cond.code yX4_init cX4_init 2 none) ∈ lw_tbl := qT_1 (List.mem_of_getElem? (i := 78) rfl)
theorem qt_3_3 : (Cond.methodLink RX4 3 objectInit) ∈ lw_tbl := qT_1 (List.mem_of_getElem? (i := 79) rfl)
theorem qt_3_4 : (Cond.fieldLink RX4 9 "ClaimJudge$Runs" "ends" "[I") ∈ lw_tbl := qT_1 (List.mem_of_getElem? (i := 81) rfl)
theorem qt_3_5 : (Cond.fieldLink RX4 15 "ClaimJudge$Runs" "stale" "Z") ∈ lw_tbl := qT_1 (List.mem_of_getElem? (i := 82) rfl)
theorem qt_3_6 : (Cond.fieldLink RX4 19 "ClaimJudge$Runs" "program" "LClaimJudge$Program;") ∈ lw_tbl := qT_1 (List.mem_of_getElem? (i := 80) rfl)
theorem qt_3_7 : (Cond.methodLink RX6 34 yX2_init) ∈ lw_tbl := qT_1 (List.mem_of_getElem? (i := 92) rfl)
theorem qt_3_8 : (Cond.instanceMethod yX2_init) ∈ lw_tbl := qT_1 (List.mem_of_getElem? (i := 93) rfl)
theorem qt_3_9 : (Cond.code yX2_init cX2_init 4 none) ∈ lw_tbl := qT_1 (List.mem_of_getElem? (i := 94) rfl)
theorem qt_3_10 : (Cond.methodLink RX2 3 objectInit) ∈ lw_tbl := qT_1 (List.mem_of_getElem? (i := 95) rfl)
theorem qt_3_11 : (Cond.fieldLink RX2 9 "ClaimJudge$Judgement" "examples" "[I") ∈ lw_tbl := qT_1 (List.mem_of_getElem? (i := 99) rfl)
theorem qt_3_12 : (Cond.fieldLink RX2 15 "ClaimJudge$Judgement" "lows" "[I") ∈ lw_tbl := qT_1 (List.mem_of_getElem? (i := 101) rfl)
theorem qt_3_13 : (Cond.fieldLink RX2 18 "ClaimJudge$Judgement" "highs" "[I") ∈ lw_tbl := qT_1 (List.mem_of_getElem? (i := 103) rfl)
theorem qt_3_14 : (Cond.arrayClass .long) ∈ lw_tbl := qT_1 (List.mem_of_getElem? (i := 136) rfl)
theorem qt_3_15 : (Cond.fieldLink RX2 21 "ClaimJudge$Judgement" "visited" "[J") ∈ lw_tbl := qT_1 (List.mem_of_getElem? (i := 111) rfl)
theorem qt_3_16 : (Cond.fieldLink RX2 25 "ClaimJudge$Judgement" "stale" "Z") ∈ lw_tbl := qT_1 (List.mem_of_getElem? (i := 112) rfl)
theorem qt_3_17 : (Cond.fieldLink RX2 29 "ClaimJudge$Judgement" "program" "LClaimJudge$Program;") ∈ lw_tbl := qT_1 (List.mem_of_getElem? (i := 96) rfl)
theorem qt_3_18 : (Cond.fieldLink RX2 33 "ClaimJudge$Judgement" "assumption" "LClaimJudge$Assumption;") ∈ lw_tbl := qT_1 (List.mem_of_getElem? (i := 97) rfl)
theorem qt_3_19 : (Cond.fieldLink RX2 37 "ClaimJudge$Judgement" "runs" "LClaimJudge$Runs;") ∈ lw_tbl := qT_1 (List.mem_of_getElem? (i := 98) rfl)
theorem qt_3_20 : (Cond.methodLink RX6 43 yX1_init) ∈ lw_tbl := qT_1 (List.mem_of_getElem? (i := 139) rfl)
theorem qt_3_21 : (Cond.instanceMethod yX1_init) ∈ lw_tbl := qT_1 (List.mem_of_getElem? (i := 140) rfl)
theorem qt_3_22 : (Cond.code yX1_init cX1_init 2 none) ∈ lw_tbl := qT_1 (List.mem_of_getElem? (i := 141) rfl)
theorem qt_3_23 : (Cond.methodLink RX1 3 objectInit) ∈ lw_tbl := qT_1 (List.mem_of_getElem? (i := 142) rfl)
theorem qr_3 : ∀ w ∈ wsL_law0_r3, w ∈ lw_tbl := by
  intro w hw
  simp only [wsL_law0_r3, List.mem_cons, List.not_mem_nil, or_false] at hw
  rcases hw with rfl | rfl | rfl | rfl | rfl | rfl | rfl | rfl | rfl | rfl | rfl | rfl | rfl | rfl | rfl | rfl | rfl | rfl | rfl | rfl | rfl | rfl | rfl | rfl
  · exact qt_3_0
  · exact qt_3_1
  · exact qt_3_2
  · exact qt_3_3
  · exact qt_3_4
  · exact qt_3_5
  · exact qt_3_6
  · exact qt_3_7
  · exact qt_3_8
  · exact qt_3_9
  · exact qt_3_10
  · exact qt_3_11
  · exact qt_3_12
  · exact qt_3_13
  · exact qt_3_14
  · exact qt_3_15
  · exact qt_3_16
  · exact qt_3_17
  · exact qt_3_18
  · exact qt_3_19
  · exact qt_3_20
  · exact qt_3_21
  · exact qt_3_22
  · exact qt_3_23
theorem qt_4_0 : (Cond.classLink RX1 9 RX3) ∈ lw_tbl := qT_1 (List.mem_of_getElem? (i := 143) rfl)
theorem qt_4_1 : (Cond.fieldLink RX1 11 "ClaimJudge$History" "programs" "[LClaimJudge$Program;") ∈ lw_tbl := qT_1 (List.mem_of_getElem? (i := 149) rfl)
theorem qt_4_2 : (Cond.classLink RX1 17 RX0) ∈ lw_tbl := qT_1 (List.mem_of_getElem? (i := 145) rfl)
theorem qt_4_3 : (Cond.fieldLink RX1 19 "ClaimJudge$History" "assumptions" "[LClaimJudge$Assumption;") ∈ lw_tbl := qT_1 (List.mem_of_getElem? (i := 150) rfl)
theorem qt_4_4 : (Cond.instanceMethod yX5_init) ∈ lw_tbl := qT_1 (List.mem_of_getElem? (i := 166) rfl)
theorem qt_4_5 : (Cond.code yX5_init cX5_init 1 none) ∈ lw_tbl := qT_1 (List.mem_of_getElem? (i := 167) rfl)
theorem qt_4_6 : (Cond.methodLink RX5 3 objectInit) ∈ lw_tbl := qT_1 (List.mem_of_getElem? (i := 168) rfl)
theorem qt_4_7 : (Cond.arrayClass .char) ∈ lw_tbl := qT_1 (List.mem_of_getElem? (i := 201) rfl)
theorem qt_4_8 : (Cond.fieldLink RX5 9 "ClaimJudge$Text" "characters" "[C") ∈ lw_tbl := qT_1 (List.mem_of_getElem? (i := 171) rfl)
theorem qt_4_9 : (Cond.classLink RX5 15 RX3) ∈ lw_tbl := qT_1 (List.mem_of_getElem? (i := 169) rfl)
theorem qt_4_10 : (Cond.fieldLink RX5 18 "ClaimJudge$Text" "loaded" "LClaimJudge$Program;") ∈ lw_tbl := qT_1 (List.mem_of_getElem? (i := 174) rfl)
theorem qt_4_11 : (Cond.methodLink RL 40 yL_cell) ∈ lw_tbl := qT_2 (List.mem_of_getElem? (i := 97) rfl)
theorem qt_4_12 : (Cond.static yL_cell) ∈ lw_tbl := qT_2 (List.mem_of_getElem? (i := 98) rfl)
theorem qt_4_13 : (Cond.initialized RL) ∈ lw_tbl := qT_1 (List.mem_of_getElem? (i := 0) rfl)
theorem qt_4_14 : (Cond.code yL_cell cL_cell 2 (some .int)) ∈ lw_tbl := qT_2 (List.mem_of_getElem? (i := 99) rfl)
theorem qt_4_15 : (Cond.methodLink RL 106 yX6_savedStates) ∈ lw_tbl := qT_2 (List.mem_of_getElem? (i := 93) rfl)
theorem qt_4_16 : (Cond.instanceMethod yX6_savedStates) ∈ lw_tbl := qT_2 (List.mem_of_getElem? (i := 94) rfl)
theorem qt_4_17 : (Cond.selects RX6 yX6_savedStates yX6_savedStates) ∈ lw_tbl := qT_2 (List.mem_of_getElem? (i := 95) rfl)
theorem qt_4_18 : (Cond.code yX6_savedStates cX6_savedStates 1 (some .int)) ∈ lw_tbl := qT_2 (List.mem_of_getElem? (i := 96) rfl)
theorem qt_4_19 : (Cond.methodLink RL 109 yL_act) ∈ lw_tbl := qT_2 (List.mem_of_getElem? (i := 104) rfl)
theorem qt_4_20 : (Cond.static yL_act) ∈ lw_tbl := qT_2 (List.mem_of_getElem? (i := 105) rfl)
theorem qt_4_21 : (Cond.code yL_act cL_act 13 (some .int)) ∈ lw_tbl := qT_2 (List.mem_of_getElem? (i := 106) rfl)
theorem qt_4_22 : (Cond.methodLink RL 30 yL_low) ∈ lw_tbl := qT_2 (List.mem_of_getElem? (i := 100) rfl)
theorem qt_4_23 : (Cond.static yL_low) ∈ lw_tbl := qT_2 (List.mem_of_getElem? (i := 101) rfl)
theorem qr_4 : ∀ w ∈ wsL_law0_r4, w ∈ lw_tbl := by
  intro w hw
  simp only [wsL_law0_r4, List.mem_cons, List.not_mem_nil, or_false] at hw
  rcases hw with rfl | rfl | rfl | rfl | rfl | rfl | rfl | rfl | rfl | rfl | rfl | rfl | rfl | rfl | rfl | rfl | rfl | rfl | rfl | rfl | rfl | rfl | rfl | rfl
  · exact qt_4_0
  · exact qt_4_1
  · exact qt_4_2
  · exact qt_4_3
  · exact qt_4_4
  · exact qt_4_5
  · exact qt_4_6
  · exact qt_4_7
  · exact qt_4_8
  · exact qt_4_9
  · exact qt_4_10
  · exact qt_4_11
  · exact qt_4_12
  · exact qt_4_13
  · exact qt_4_14
  · exact qt_4_15
  · exact qt_4_16
  · exact qt_4_17
  · exact qt_4_18
  · exact qt_4_19
  · exact qt_4_20
  · exact qt_4_21
  · exact qt_4_22
  · exact qt_4_23
theorem qt_5_0 : (Cond.code yL_low cL_low 2 (some .int)) ∈ lw_tbl := qT_2 (List.mem_of_getElem? (i := 102) rfl)
theorem qt_5_1 : (Cond.constant RL 7 (2147483647)) ∈ lw_tbl := qT_2 (List.mem_of_getElem? (i := 103) rfl)
theorem qt_5_2 : (Cond.methodLink RL 44 yX6_statements) ∈ lw_tbl := qT_2 (List.mem_of_getElem? (i := 107) rfl)
theorem qt_5_3 : (Cond.instanceMethod yX6_statements) ∈ lw_tbl := qT_2 (List.mem_of_getElem? (i := 108) rfl)
theorem qt_5_4 : (Cond.selects RX6 yX6_statements yX6_statements) ∈ lw_tbl := qT_2 (List.mem_of_getElem? (i := 109) rfl)
theorem qt_5_5 : (Cond.code yX6_statements cX6_statements 1 (some .int)) ∈ lw_tbl := qT_2 (List.mem_of_getElem? (i := 110) rfl)
theorem qt_5_6 : (Cond.methodLink RL 36 yX6_append) ∈ lw_tbl := qT_2 (List.mem_of_getElem? (i := 111) rfl)
theorem qt_5_7 : (Cond.instanceMethod yX6_append) ∈ lw_tbl := qT_2 (List.mem_of_getElem? (i := 112) rfl)
theorem qt_5_8 : (Cond.selects RX6 yX6_append yX6_append) ∈ lw_tbl := qT_2 (List.mem_of_getElem? (i := 113) rfl)
theorem qt_5_9 : (Cond.code yX6_append cX6_append 2 (some .int)) ∈ lw_tbl := qT_2 (List.mem_of_getElem? (i := 114) rfl)
theorem qt_5_10 : (Cond.classLink RX6 70 "java/lang/IllegalArgumentException") ∈ lw_tbl := qT_2 (List.mem_of_getElem? (i := 115) rfl)
theorem qt_5_11 : (Cond.initialized "java/lang/IllegalArgumentException") ∈ lw_tbl := qT_1 (List.mem_of_getElem? (i := 11) rfl)
theorem qt_5_12 : (Cond.classLink RX6 98 "java/lang/IllegalStateException") ∈ lw_tbl := qT_1 (List.mem_of_getElem? (i := 225) rfl)
theorem qt_5_13 : (Cond.initialized "java/lang/IllegalStateException") ∈ lw_tbl := qT_1 (List.mem_of_getElem? (i := 12) rfl)
theorem qt_5_14 : (Cond.methodLink RX6 191 yX5_put) ∈ lw_tbl := qT_2 (List.mem_of_getElem? (i := 132) rfl)
theorem qt_5_15 : (Cond.instanceMethod yX5_put) ∈ lw_tbl := qT_2 (List.mem_of_getElem? (i := 133) rfl)
theorem qt_5_16 : (Cond.selects RX5 yX5_put yX5_put) ∈ lw_tbl := qT_2 (List.mem_of_getElem? (i := 134) rfl)
theorem qt_5_17 : (Cond.code yX5_put cX5_put 2 none) ∈ lw_tbl := qT_2 (List.mem_of_getElem? (i := 135) rfl)
theorem qt_5_18 : (Cond.fieldLink RX5 22 "ClaimJudge$Text" "length" "I") ∈ lw_tbl := qT_1 (List.mem_of_getElem? (i := 172) rfl)
theorem qt_5_19 : (Cond.methodLink RL 47 yL_typed) ∈ lw_tbl := qT_2 (List.mem_of_getElem? (i := 136) rfl)
theorem qt_5_20 : (Cond.static yL_typed) ∈ lw_tbl := qT_2 (List.mem_of_getElem? (i := 137) rfl)
theorem qt_5_21 : (Cond.code yL_typed cL_typed 7 (some .int)) ∈ lw_tbl := qT_2 (List.mem_of_getElem? (i := 138) rfl)
theorem qt_5_22 : (Cond.methodLink RL 51 yL_changes) ∈ lw_tbl := qT_2 (List.mem_of_getElem? (i := 139) rfl)
theorem qt_5_23 : (Cond.static yL_changes) ∈ lw_tbl := qT_2 (List.mem_of_getElem? (i := 140) rfl)
theorem qr_5 : ∀ w ∈ wsL_law0_r5, w ∈ lw_tbl := by
  intro w hw
  simp only [wsL_law0_r5, List.mem_cons, List.not_mem_nil, or_false] at hw
  rcases hw with rfl | rfl | rfl | rfl | rfl | rfl | rfl | rfl | rfl | rfl | rfl | rfl | rfl | rfl | rfl | rfl | rfl | rfl | rfl | rfl | rfl | rfl | rfl | rfl
  · exact qt_5_0
  · exact qt_5_1
  · exact qt_5_2
  · exact qt_5_3
  · exact qt_5_4
  · exact qt_5_5
  · exact qt_5_6
  · exact qt_5_7
  · exact qt_5_8
  · exact qt_5_9
  · exact qt_5_10
  · exact qt_5_11
  · exact qt_5_12
  · exact qt_5_13
  · exact qt_5_14
  · exact qt_5_15
  · exact qt_5_16
  · exact qt_5_17
  · exact qt_5_18
  · exact qt_5_19
  · exact qt_5_20
  · exact qt_5_21
  · exact qt_5_22
  · exact qt_5_23
theorem qt_6_0 : (Cond.codeWith yL_changes cL_changes 7 (some .int) [(0, 47, 50, 24), (0, 47, 54, 26), (0, 47, 58, 28)]) ∈ lw_tbl := qT_2 (List.mem_of_getElem? (i := 141) rfl)
theorem qt_6_1 : (Cond.classLink RL 24 "java/lang/IndexOutOfBoundsException") ∈ lw_tbl := qT_2 (List.mem_of_getElem? (i := 142) rfl)
theorem qt_6_2 : (Cond.classLink RL 26 "java/lang/IllegalArgumentException") ∈ lw_tbl := qT_2 (List.mem_of_getElem? (i := 143) rfl)
theorem qt_6_3 : (Cond.classLink RL 28 "java/lang/IllegalStateException") ∈ lw_tbl := qT_2 (List.mem_of_getElem? (i := 144) rfl)
theorem qt_6_4 : (Cond.methodLink RL 8 yX6_load) ∈ lw_tbl := qT_2 (List.mem_of_getElem? (i := 145) rfl)
theorem qt_6_5 : (Cond.instanceMethod yX6_load) ∈ lw_tbl := qT_2 (List.mem_of_getElem? (i := 146) rfl)
theorem qt_6_6 : (Cond.selects RX6 yX6_load yX6_load) ∈ lw_tbl := qT_2 (List.mem_of_getElem? (i := 147) rfl)
theorem qt_6_7 : (Cond.code yX6_load cX6_load 2 (some .int)) ∈ lw_tbl := qT_2 (List.mem_of_getElem? (i := 148) rfl)
theorem qt_6_8 : (Cond.methodLink RX6 58 yX5_readAll) ∈ lw_tbl := qT_2 (List.mem_of_getElem? (i := 149) rfl)
theorem qt_6_9 : (Cond.instanceMethod yX5_readAll) ∈ lw_tbl := qT_2 (List.mem_of_getElem? (i := 150) rfl)
theorem qt_6_10 : (Cond.selects RX5 yX5_readAll yX5_readAll) ∈ lw_tbl := qT_2 (List.mem_of_getElem? (i := 151) rfl)
theorem qt_6_11 : (Cond.code yX5_readAll cX5_readAll 2 (some .boolean)) ∈ lw_tbl := qT_2 (List.mem_of_getElem? (i := 152) rfl)
theorem qt_6_12 : (Cond.fieldLink RX5 26 "ClaimJudge$Text" "at" "I") ∈ lw_tbl := qT_1 (List.mem_of_getElem? (i := 176) rfl)
theorem qt_6_13 : (Cond.methodLink RX5 29 yX3_clear) ∈ lw_tbl := qT_2 (List.mem_of_getElem? (i := 153) rfl)
theorem qt_6_14 : (Cond.instanceMethod yX3_clear) ∈ lw_tbl := qT_2 (List.mem_of_getElem? (i := 62) rfl)
theorem qt_6_15 : (Cond.selects RX3 yX3_clear yX3_clear) ∈ lw_tbl := qT_2 (List.mem_of_getElem? (i := 63) rfl)
theorem qt_6_16 : (Cond.code yX3_clear cX3_clear 1 none) ∈ lw_tbl := qT_2 (List.mem_of_getElem? (i := 64) rfl)
theorem qt_6_17 : (Cond.fieldLink RX3 30 "ClaimJudge$Program" "size" "I") ∈ lw_tbl := qT_1 (List.mem_of_getElem? (i := 35) rfl)
theorem qt_6_18 : (Cond.methodLink RX5 32 yX5_takeStatement) ∈ lw_tbl := qT_2 (List.mem_of_getElem? (i := 154) rfl)
theorem qt_6_19 : (Cond.instanceMethod yX5_takeStatement) ∈ lw_tbl := qT_2 (List.mem_of_getElem? (i := 156) rfl)
theorem qt_6_20 : (Cond.selects RX5 yX5_takeStatement yX5_takeStatement) ∈ lw_tbl := qP_0 (List.mem_of_getElem? (l := lw_privs_1) (i := 2) rfl)
theorem qt_6_21 : (Cond.code yX5_takeStatement cX5_takeStatement 1 (some .boolean)) ∈ lw_tbl := qT_2 (List.mem_of_getElem? (i := 157) rfl)
theorem qt_6_22 : (Cond.fieldLink RX5 40 "ClaimJudge$Text" "sign" "I") ∈ lw_tbl := qT_1 (List.mem_of_getElem? (i := 178) rfl)
theorem qt_6_23 : (Cond.fieldLink RX5 43 "ClaimJudge$Text" "addend" "I") ∈ lw_tbl := qT_1 (List.mem_of_getElem? (i := 180) rfl)
theorem qr_6 : ∀ w ∈ wsL_law0_r6, w ∈ lw_tbl := by
  intro w hw
  simp only [wsL_law0_r6, List.mem_cons, List.not_mem_nil, or_false] at hw
  rcases hw with rfl | rfl | rfl | rfl | rfl | rfl | rfl | rfl | rfl | rfl | rfl | rfl | rfl | rfl | rfl | rfl | rfl | rfl | rfl | rfl | rfl | rfl | rfl | rfl
  · exact qt_6_0
  · exact qt_6_1
  · exact qt_6_2
  · exact qt_6_3
  · exact qt_6_4
  · exact qt_6_5
  · exact qt_6_6
  · exact qt_6_7
  · exact qt_6_8
  · exact qt_6_9
  · exact qt_6_10
  · exact qt_6_11
  · exact qt_6_12
  · exact qt_6_13
  · exact qt_6_14
  · exact qt_6_15
  · exact qt_6_16
  · exact qt_6_17
  · exact qt_6_18
  · exact qt_6_19
  · exact qt_6_20
  · exact qt_6_21
  · exact qt_6_22
  · exact qt_6_23
theorem qt_7_0 : (Cond.fieldLink RX5 46 "ClaimJudge$Text" "goal" "I") ∈ lw_tbl := qT_1 (List.mem_of_getElem? (i := 181) rfl)
theorem qt_7_1 : (Cond.methodLink RX5 36 yX5_take) ∈ lw_tbl := qT_2 (List.mem_of_getElem? (i := 158) rfl)
theorem qt_7_2 : (Cond.instanceMethod yX5_take) ∈ lw_tbl := qT_2 (List.mem_of_getElem? (i := 160) rfl)
theorem qt_7_3 : (Cond.selects RX5 yX5_take yX5_take) ∈ lw_tbl := qP_0 (List.mem_of_getElem? (l := lw_privs_1) (i := 3) rfl)
theorem qt_7_4 : (Cond.code yX5_take cX5_take 2 (some .boolean)) ∈ lw_tbl := qT_2 (List.mem_of_getElem? (i := 161) rfl)
theorem qt_7_5 : (Cond.methodLink RX5 83 yX5_next) ∈ lw_tbl := qT_2 (List.mem_of_getElem? (i := 162) rfl)
theorem qt_7_6 : (Cond.instanceMethod yX5_next) ∈ lw_tbl := qT_2 (List.mem_of_getElem? (i := 164) rfl)
theorem qt_7_7 : (Cond.selects RX5 yX5_next yX5_next) ∈ lw_tbl := qP_0 (List.mem_of_getElem? (l := lw_privs_1) (i := 4) rfl)
theorem qt_7_8 : (Cond.code yX5_next cX5_next 1 (some .char)) ∈ lw_tbl := qT_2 (List.mem_of_getElem? (i := 165) rfl)
theorem qt_7_9 : (Cond.methodLink RX5 49 yX5_takeTest) ∈ lw_tbl := qT_2 (List.mem_of_getElem? (i := 166) rfl)
theorem qt_7_10 : (Cond.instanceMethod yX5_takeTest) ∈ lw_tbl := qT_2 (List.mem_of_getElem? (i := 168) rfl)
theorem qt_7_11 : (Cond.selects RX5 yX5_takeTest yX5_takeTest) ∈ lw_tbl := qP_0 (List.mem_of_getElem? (l := lw_privs_1) (i := 5) rfl)
theorem qt_7_12 : (Cond.code yX5_takeTest cX5_takeTest 1 (some .boolean)) ∈ lw_tbl := qT_2 (List.mem_of_getElem? (i := 169) rfl)
theorem qt_7_13 : (Cond.methodLink RX5 59 yX5_takeVariable) ∈ lw_tbl := qT_2 (List.mem_of_getElem? (i := 170) rfl)
theorem qt_7_14 : (Cond.instanceMethod yX5_takeVariable) ∈ lw_tbl := qT_2 (List.mem_of_getElem? (i := 172) rfl)
theorem qt_7_15 : (Cond.selects RX5 yX5_takeVariable yX5_takeVariable) ∈ lw_tbl := qP_0 (List.mem_of_getElem? (l := lw_privs_1) (i := 6) rfl)
theorem qt_7_16 : (Cond.code yX5_takeVariable cX5_takeVariable 2 (some .boolean)) ∈ lw_tbl := qT_2 (List.mem_of_getElem? (i := 173) rfl)
theorem qt_7_17 : (Cond.fieldLink RX5 68 "ClaimJudge$Text" "variable" "I") ∈ lw_tbl := qT_1 (List.mem_of_getElem? (i := 177) rfl)
theorem qt_7_18 : (Cond.methodLink RX5 87 yJ0_indexOf_0f7a4) ∈ lw_tbl := qT_2 (List.mem_of_getElem? (i := 175) rfl)
theorem qt_7_19 : (Cond.instanceMethod yJ0_indexOf_0f7a4) ∈ lw_tbl := qT_2 (List.mem_of_getElem? (i := 176) rfl)
theorem qt_7_20 : (Cond.selects RJ0 yJ0_indexOf_0f7a4 yJ0_indexOf_0f7a4) ∈ lw_tbl := qT_2 (List.mem_of_getElem? (i := 177) rfl)
theorem qt_7_21 : (Cond.initialized RJ0) ∈ lw_tbl := qT_1 (List.mem_of_getElem? (i := 13) rfl)
theorem qt_7_22 : (Cond.code yJ0_indexOf_0f7a4 cJ0_indexOf_0f7a4 2 (some .int)) ∈ lw_tbl := qT_2 (List.mem_of_getElem? (i := 178) rfl)
theorem qt_7_23 : (Cond.methodLink RJ0 633 yJ0_indexOf_7cf53) ∈ lw_tbl := qT_2 (List.mem_of_getElem? (i := 179) rfl)
theorem qr_7 : ∀ w ∈ wsL_law0_r7, w ∈ lw_tbl := by
  intro w hw
  simp only [wsL_law0_r7, List.mem_cons, List.not_mem_nil, or_false] at hw
  rcases hw with rfl | rfl | rfl | rfl | rfl | rfl | rfl | rfl | rfl | rfl | rfl | rfl | rfl | rfl | rfl | rfl | rfl | rfl | rfl | rfl | rfl | rfl | rfl | rfl
  · exact qt_7_0
  · exact qt_7_1
  · exact qt_7_2
  · exact qt_7_3
  · exact qt_7_4
  · exact qt_7_5
  · exact qt_7_6
  · exact qt_7_7
  · exact qt_7_8
  · exact qt_7_9
  · exact qt_7_10
  · exact qt_7_11
  · exact qt_7_12
  · exact qt_7_13
  · exact qt_7_14
  · exact qt_7_15
  · exact qt_7_16
  · exact qt_7_17
  · exact qt_7_18
  · exact qt_7_19
  · exact qt_7_20
  · exact qt_7_21
  · exact qt_7_22
  · exact qt_7_23
theorem qt_8_0 : (Cond.instanceMethod yJ0_indexOf_7cf53) ∈ lw_tbl := qT_2 (List.mem_of_getElem? (i := 180) rfl)
theorem qt_8_1 : (Cond.selects RJ0 yJ0_indexOf_7cf53 yJ0_indexOf_7cf53) ∈ lw_tbl := qT_2 (List.mem_of_getElem? (i := 181) rfl)
theorem qt_8_2 : (Cond.code yJ0_indexOf_7cf53 cJ0_indexOf_7cf53 3 (some .int)) ∈ lw_tbl := qT_2 (List.mem_of_getElem? (i := 182) rfl)
theorem qt_8_3 : (Cond.fieldLink RJ0 9 "java/lang/String" "value" "[B") ∈ lw_tbl := qT_4 (List.mem_of_getElem? (i := 66) rfl)
theorem qt_8_4 : (Cond.methodLink RJ0 492 yJ0_isLatin1_aae02) ∈ lw_tbl := qT_2 (List.mem_of_getElem? (i := 183) rfl)
theorem qt_8_5 : (Cond.instanceMethod yJ0_isLatin1_aae02) ∈ lw_tbl := qT_2 (List.mem_of_getElem? (i := 184) rfl)
theorem qt_8_6 : (Cond.selects RJ0 yJ0_isLatin1_aae02 yJ0_isLatin1_aae02) ∈ lw_tbl := qT_2 (List.mem_of_getElem? (i := 185) rfl)
theorem qt_8_7 : (Cond.code yJ0_isLatin1_aae02 cJ0_isLatin1_aae02 1 (some .boolean)) ∈ lw_tbl := qT_2 (List.mem_of_getElem? (i := 186) rfl)
theorem qt_8_8 : (Cond.fieldLink RJ0 38 "java/lang/String" "COMPACT_STRINGS" "Z") ∈ lw_tbl := qT_2 (List.mem_of_getElem? (i := 187) rfl)
theorem qt_8_9 : (Cond.fieldLink RJ0 15 "java/lang/String" "coder" "B") ∈ lw_tbl := qT_4 (List.mem_of_getElem? (i := 65) rfl)
theorem qt_8_10 : (Cond.methodLink RJ0 505 yJ0_length_8abf5) ∈ lw_tbl := qT_2 (List.mem_of_getElem? (i := 189) rfl)
theorem qt_8_11 : (Cond.instanceMethod yJ0_length_8abf5) ∈ lw_tbl := qT_2 (List.mem_of_getElem? (i := 190) rfl)
theorem qt_8_12 : (Cond.selects RJ0 yJ0_length_8abf5 yJ0_length_8abf5) ∈ lw_tbl := qT_2 (List.mem_of_getElem? (i := 191) rfl)
theorem qt_8_13 : (Cond.code yJ0_length_8abf5 cJ0_length_8abf5 1 (some .int)) ∈ lw_tbl := qT_2 (List.mem_of_getElem? (i := 192) rfl)
theorem qt_8_14 : (Cond.methodLink RJ0 335 yJ0_coder_7d493) ∈ lw_tbl := qT_2 (List.mem_of_getElem? (i := 193) rfl)
theorem qt_8_15 : (Cond.instanceMethod yJ0_coder_7d493) ∈ lw_tbl := qT_2 (List.mem_of_getElem? (i := 194) rfl)
theorem qt_8_16 : (Cond.selects RJ0 yJ0_coder_7d493 yJ0_coder_7d493) ∈ lw_tbl := qT_2 (List.mem_of_getElem? (i := 195) rfl)
theorem qt_8_17 : (Cond.code yJ0_coder_7d493 cJ0_coder_7d493 1 (some .byte)) ∈ lw_tbl := qT_2 (List.mem_of_getElem? (i := 196) rfl)
theorem qt_8_18 : (Cond.methodLink RJ0 637 yJ1_indexOf_4cfef) ∈ lw_tbl := qT_2 (List.mem_of_getElem? (i := 197) rfl)
theorem qt_8_19 : (Cond.static yJ1_indexOf_4cfef) ∈ lw_tbl := qT_2 (List.mem_of_getElem? (i := 198) rfl)
theorem qt_8_20 : (Cond.initialized RJ1) ∈ lw_tbl := qT_1 (List.mem_of_getElem? (i := 14) rfl)
theorem qt_8_21 : (Cond.code yJ1_indexOf_4cfef cJ1_indexOf_4cfef 4 (some .int)) ∈ lw_tbl := qT_2 (List.mem_of_getElem? (i := 199) rfl)
theorem qt_8_22 : (Cond.methodLink RJ1 92 Lib.Math.max.name) ∈ lw_tbl := qT_2 (List.mem_of_getElem? (i := 203) rfl)
theorem qt_8_23 : (Cond.static Lib.Math.max.name) ∈ lw_tbl := qT_2 (List.mem_of_getElem? (i := 204) rfl)
theorem qr_8 : ∀ w ∈ wsL_law0_r8, w ∈ lw_tbl := by
  intro w hw
  simp only [wsL_law0_r8, List.mem_cons, List.not_mem_nil, or_false] at hw
  rcases hw with rfl | rfl | rfl | rfl | rfl | rfl | rfl | rfl | rfl | rfl | rfl | rfl | rfl | rfl | rfl | rfl | rfl | rfl | rfl | rfl | rfl | rfl | rfl | rfl
  · exact qt_8_0
  · exact qt_8_1
  · exact qt_8_2
  · exact qt_8_3
  · exact qt_8_4
  · exact qt_8_5
  · exact qt_8_6
  · exact qt_8_7
  · exact qt_8_8
  · exact qt_8_9
  · exact qt_8_10
  · exact qt_8_11
  · exact qt_8_12
  · exact qt_8_13
  · exact qt_8_14
  · exact qt_8_15
  · exact qt_8_16
  · exact qt_8_17
  · exact qt_8_18
  · exact qt_8_19
  · exact qt_8_20
  · exact qt_8_21
  · exact qt_8_22
  · exact qt_8_23
theorem qt_9_0 : (Cond.initialized "java/lang/Math") ∈ lw_tbl := qT_1 (List.mem_of_getElem? (i := 15) rfl)
theorem qt_9_1 : (Cond.code Lib.Math.max.name Lib.Math.max.code 2 (some .int)) ∈ lw_tbl := qT_2 (List.mem_of_getElem? (i := 205) rfl)
theorem qt_9_2 : (Cond.methodLink RJ1 38 Lib.Math.min.name) ∈ lw_tbl := qT_2 (List.mem_of_getElem? (i := 206) rfl)
theorem qt_9_3 : (Cond.static Lib.Math.min.name) ∈ lw_tbl := qT_2 (List.mem_of_getElem? (i := 207) rfl)
theorem qt_9_4 : (Cond.code Lib.Math.min.name Lib.Math.min.code 2 (some .int)) ∈ lw_tbl := qT_2 (List.mem_of_getElem? (i := 208) rfl)
theorem qt_9_5 : (Cond.methodLink RJ1 88 yJ1_canEncode_9a6ad) ∈ lw_tbl := qT_2 (List.mem_of_getElem? (i := 200) rfl)
theorem qt_9_6 : (Cond.static yJ1_canEncode_9a6ad) ∈ lw_tbl := qT_2 (List.mem_of_getElem? (i := 201) rfl)
theorem qt_9_7 : (Cond.code yJ1_canEncode_9a6ad cJ1_canEncode_9a6ad 1 (some .boolean)) ∈ lw_tbl := qT_2 (List.mem_of_getElem? (i := 202) rfl)
theorem qt_9_8 : (Cond.methodLink RJ1 95 yJ1_indexOfChar_4cfef) ∈ lw_tbl := qT_2 (List.mem_of_getElem? (i := 209) rfl)
theorem qt_9_9 : (Cond.static yJ1_indexOfChar_4cfef) ∈ lw_tbl := qT_2 (List.mem_of_getElem? (i := 210) rfl)
theorem qt_9_10 : (Cond.code yJ1_indexOfChar_4cfef cJ1_indexOfChar_4cfef 6 (some .int)) ∈ lw_tbl := qT_2 (List.mem_of_getElem? (i := 211) rfl)
theorem qt_9_11 : (Cond.methodLink RJ0 640 yJ2_indexOf_4cfef) ∈ lw_tbl := qT_2 (List.mem_of_getElem? (i := 212) rfl)
theorem qt_9_12 : (Cond.static yJ2_indexOf_4cfef) ∈ lw_tbl := qT_2 (List.mem_of_getElem? (i := 213) rfl)
theorem qt_9_13 : (Cond.initialized RJ2) ∈ lw_tbl := qT_1 (List.mem_of_getElem? (i := 16) rfl)
theorem qt_9_14 : (Cond.code yJ2_indexOf_4cfef cJ2_indexOf_4cfef 4 (some .int)) ∈ lw_tbl := qT_2 (List.mem_of_getElem? (i := 214) rfl)
theorem qt_9_15 : (Cond.methodLink RJ2 224 Lib.Math.max.name) ∈ lw_tbl := qT_2 (List.mem_of_getElem? (i := 215) rfl)
theorem qt_9_16 : (Cond.methodLink RJ2 183 Lib.Math.min.name) ∈ lw_tbl := qT_2 (List.mem_of_getElem? (i := 216) rfl)
theorem qt_9_17 : (Cond.constant RJ2 227 (65536)) ∈ lw_tbl := qT_2 (List.mem_of_getElem? (i := 217) rfl)
theorem qt_9_18 : (Cond.methodLink RJ2 228 yJ2_indexOfChar_4cfef) ∈ lw_tbl := qT_2 (List.mem_of_getElem? (i := 218) rfl)
theorem qt_9_19 : (Cond.static yJ2_indexOfChar_4cfef) ∈ lw_tbl := qT_2 (List.mem_of_getElem? (i := 219) rfl)
theorem qt_9_20 : (Cond.code yJ2_indexOfChar_4cfef cJ2_indexOfChar_4cfef 4 (some .int)) ∈ lw_tbl := qT_2 (List.mem_of_getElem? (i := 220) rfl)
theorem qt_9_21 : (Cond.methodLink RJ2 96 yJ2_checkBoundsBeginEnd_d044e) ∈ lw_tbl := qT_2 (List.mem_of_getElem? (i := 221) rfl)
theorem qt_9_22 : (Cond.static yJ2_checkBoundsBeginEnd_d044e) ∈ lw_tbl := qT_2 (List.mem_of_getElem? (i := 222) rfl)
theorem qt_9_23 : (Cond.code yJ2_checkBoundsBeginEnd_d044e cJ2_checkBoundsBeginEnd_d044e 3 none) ∈ lw_tbl := qT_2 (List.mem_of_getElem? (i := 223) rfl)
theorem qr_9 : ∀ w ∈ wsL_law0_r9, w ∈ lw_tbl := by
  intro w hw
  simp only [wsL_law0_r9, List.mem_cons, List.not_mem_nil, or_false] at hw
  rcases hw with rfl | rfl | rfl | rfl | rfl | rfl | rfl | rfl | rfl | rfl | rfl | rfl | rfl | rfl | rfl | rfl | rfl | rfl | rfl | rfl | rfl | rfl | rfl | rfl
  · exact qt_9_0
  · exact qt_9_1
  · exact qt_9_2
  · exact qt_9_3
  · exact qt_9_4
  · exact qt_9_5
  · exact qt_9_6
  · exact qt_9_7
  · exact qt_9_8
  · exact qt_9_9
  · exact qt_9_10
  · exact qt_9_11
  · exact qt_9_12
  · exact qt_9_13
  · exact qt_9_14
  · exact qt_9_15
  · exact qt_9_16
  · exact qt_9_17
  · exact qt_9_18
  · exact qt_9_19
  · exact qt_9_20
  · exact qt_9_21
  · exact qt_9_22
  · exact qt_9_23
theorem qt_10_0 : (Cond.methodLink RJ2 48 yJ2_length_9d52b) ∈ lw_tbl := qT_2 (List.mem_of_getElem? (i := 224) rfl)
theorem qt_10_1 : (Cond.static yJ2_length_9d52b) ∈ lw_tbl := qT_2 (List.mem_of_getElem? (i := 225) rfl)
theorem qt_10_2 : (Cond.code yJ2_length_9d52b cJ2_length_9d52b 1 (some .int)) ∈ lw_tbl := qT_2 (List.mem_of_getElem? (i := 226) rfl)
theorem qt_10_3 : (Cond.methodLink RJ2 241 yJ0_checkBoundsBeginEnd_23922) ∈ lw_tbl := qT_2 (List.mem_of_getElem? (i := 227) rfl)
theorem qt_10_4 : (Cond.static yJ0_checkBoundsBeginEnd_23922) ∈ lw_tbl := qT_2 (List.mem_of_getElem? (i := 228) rfl)
theorem qt_10_5 : (Cond.code yJ0_checkBoundsBeginEnd_23922 cJ0_checkBoundsBeginEnd_23922 3 none) ∈ lw_tbl := qT_2 (List.mem_of_getElem? (i := 229) rfl)
theorem qt_10_6 : (Cond.fieldLink RJ0 1053 "jdk/internal/util/Preconditions" "SIOOBE_FORMATTER" "Ljava/util/function/BiFunction;") ∈ lw_tbl := qT_2 (List.mem_of_getElem? (i := 230) rfl)
theorem qt_10_7 : (Cond.methodLink RJ0 1062 yJ3_checkFromToIndex_8c36e) ∈ lw_tbl := qT_2 (List.mem_of_getElem? (i := 232) rfl)
theorem qt_10_8 : (Cond.static yJ3_checkFromToIndex_8c36e) ∈ lw_tbl := qT_2 (List.mem_of_getElem? (i := 233) rfl)
theorem qt_10_9 : (Cond.initialized RJ3) ∈ lw_tbl := qT_1 (List.mem_of_getElem? (i := 17) rfl)
theorem qt_10_10 : (Cond.code yJ3_checkFromToIndex_8c36e cJ3_checkFromToIndex_8c36e 4 (some .int)) ∈ lw_tbl := qT_2 (List.mem_of_getElem? (i := 234) rfl)
theorem qt_10_11 : (Cond.methodLink RJ2 244 yJ2_indexOfCharUnsafe_4cfef) ∈ lw_tbl := qT_2 (List.mem_of_getElem? (i := 235) rfl)
theorem qt_10_12 : (Cond.static yJ2_indexOfCharUnsafe_4cfef) ∈ lw_tbl := qT_2 (List.mem_of_getElem? (i := 236) rfl)
theorem qt_10_13 : (Cond.code yJ2_indexOfCharUnsafe_4cfef cJ2_indexOfCharUnsafe_4cfef 5 (some .int)) ∈ lw_tbl := qT_2 (List.mem_of_getElem? (i := 237) rfl)
theorem qt_10_14 : (Cond.methodLink RJ2 71 yJ2_getChar_3b067) ∈ lw_tbl := qT_2 (List.mem_of_getElem? (i := 238) rfl)
theorem qt_10_15 : (Cond.static yJ2_getChar_3b067) ∈ lw_tbl := qT_2 (List.mem_of_getElem? (i := 239) rfl)
theorem qt_10_16 : (Cond.code yJ2_getChar_3b067 cJ2_getChar_3b067 2 (some .char)) ∈ lw_tbl := qT_3 (List.mem_of_getElem? (i := 0) rfl)
theorem qt_10_17 : (Cond.fieldLink RJ2 44 "java/lang/StringUTF16" "$assertionsDisabled" "Z") ∈ lw_tbl := qT_3 (List.mem_of_getElem? (i := 1) rfl)
theorem qt_10_18 : (Cond.fieldLink RJ2 59 "java/lang/StringUTF16" "HI_BYTE_SHIFT" "I") ∈ lw_tbl := qT_3 (List.mem_of_getElem? (i := 3) rfl)
theorem qt_10_19 : (Cond.fieldLink RJ2 63 "java/lang/StringUTF16" "LO_BYTE_SHIFT" "I") ∈ lw_tbl := qT_3 (List.mem_of_getElem? (i := 5) rfl)
theorem qt_10_20 : (Cond.methodLink RJ2 232 yJ2_indexOfSupplementary_4cfef) ∈ lw_tbl := qT_3 (List.mem_of_getElem? (i := 7) rfl)
theorem qt_10_21 : (Cond.static yJ2_indexOfSupplementary_4cfef) ∈ lw_tbl := qT_3 (List.mem_of_getElem? (i := 8) rfl)
theorem qt_10_22 : (Cond.code yJ2_indexOfSupplementary_4cfef cJ2_indexOfSupplementary_4cfef 7 (some .int)) ∈ lw_tbl := qT_3 (List.mem_of_getElem? (i := 9) rfl)
theorem qt_10_23 : (Cond.methodLink RJ2 164 yJ11_isValidCodePoint_9a6ad) ∈ lw_tbl := qT_3 (List.mem_of_getElem? (i := 10) rfl)
theorem qr_10 : ∀ w ∈ wsL_law0_r10, w ∈ lw_tbl := by
  intro w hw
  simp only [wsL_law0_r10, List.mem_cons, List.not_mem_nil, or_false] at hw
  rcases hw with rfl | rfl | rfl | rfl | rfl | rfl | rfl | rfl | rfl | rfl | rfl | rfl | rfl | rfl | rfl | rfl | rfl | rfl | rfl | rfl | rfl | rfl | rfl | rfl
  · exact qt_10_0
  · exact qt_10_1
  · exact qt_10_2
  · exact qt_10_3
  · exact qt_10_4
  · exact qt_10_5
  · exact qt_10_6
  · exact qt_10_7
  · exact qt_10_8
  · exact qt_10_9
  · exact qt_10_10
  · exact qt_10_11
  · exact qt_10_12
  · exact qt_10_13
  · exact qt_10_14
  · exact qt_10_15
  · exact qt_10_16
  · exact qt_10_17
  · exact qt_10_18
  · exact qt_10_19
  · exact qt_10_20
  · exact qt_10_21
  · exact qt_10_22
  · exact qt_10_23
theorem qt_11_0 : (Cond.static yJ11_isValidCodePoint_9a6ad) ∈ lw_tbl := qT_3 (List.mem_of_getElem? (i := 11) rfl)
theorem qt_11_1 : (Cond.initialized RJ11) ∈ lw_tbl := qT_1 (List.mem_of_getElem? (i := 18) rfl)
theorem qt_11_2 : (Cond.code yJ11_isValidCodePoint_9a6ad cJ11_isValidCodePoint_9a6ad 2 (some .boolean)) ∈ lw_tbl := qT_3 (List.mem_of_getElem? (i := 12) rfl)
theorem qt_11_3 : (Cond.methodLink RJ2 157 yJ11_highSurrogate_5068e) ∈ lw_tbl := qT_3 (List.mem_of_getElem? (i := 13) rfl)
theorem qt_11_4 : (Cond.static yJ11_highSurrogate_5068e) ∈ lw_tbl := qT_3 (List.mem_of_getElem? (i := 14) rfl)
theorem qt_11_5 : (Cond.code yJ11_highSurrogate_5068e cJ11_highSurrogate_5068e 1 (some .char)) ∈ lw_tbl := qT_3 (List.mem_of_getElem? (i := 15) rfl)
theorem qt_11_6 : (Cond.constant RJ11 110 (55232)) ∈ lw_tbl := qT_3 (List.mem_of_getElem? (i := 16) rfl)
theorem qt_11_7 : (Cond.methodLink RJ2 161 yJ11_lowSurrogate_5068e) ∈ lw_tbl := qT_3 (List.mem_of_getElem? (i := 17) rfl)
theorem qt_11_8 : (Cond.static yJ11_lowSurrogate_5068e) ∈ lw_tbl := qT_3 (List.mem_of_getElem? (i := 18) rfl)
theorem qt_11_9 : (Cond.code yJ11_lowSurrogate_5068e cJ11_lowSurrogate_5068e 1 (some .char)) ∈ lw_tbl := qT_3 (List.mem_of_getElem? (i := 19) rfl)
theorem qt_11_10 : (Cond.constant RJ11 76 (56320)) ∈ lw_tbl := qT_3 (List.mem_of_getElem? (i := 20) rfl)
theorem qt_11_11 : (Cond.methodLink RX5 78 yX5_takeSign) ∈ lw_tbl := qT_3 (List.mem_of_getElem? (i := 21) rfl)
theorem qt_11_12 : (Cond.instanceMethod yX5_takeSign) ∈ lw_tbl := qT_3 (List.mem_of_getElem? (i := 23) rfl)
theorem qt_11_13 : (Cond.selects RX5 yX5_takeSign yX5_takeSign) ∈ lw_tbl := qP_0 (List.mem_of_getElem? (l := lw_privs_1) (i := 7) rfl)
theorem qt_11_14 : (Cond.code yX5_takeSign cX5_takeSign 2 (some .boolean)) ∈ lw_tbl := qT_3 (List.mem_of_getElem? (i := 24) rfl)
theorem qt_11_15 : (Cond.methodLink RX5 62 yX5_takeOperand) ∈ lw_tbl := qT_3 (List.mem_of_getElem? (i := 26) rfl)
theorem qt_11_16 : (Cond.instanceMethod yX5_takeOperand) ∈ lw_tbl := qT_3 (List.mem_of_getElem? (i := 28) rfl)
theorem qt_11_17 : (Cond.selects RX5 yX5_takeOperand yX5_takeOperand) ∈ lw_tbl := qP_0 (List.mem_of_getElem? (l := lw_privs_1) (i := 8) rfl)
theorem qt_11_18 : (Cond.code yX5_takeOperand cX5_takeOperand 2 (some .boolean)) ∈ lw_tbl := qT_3 (List.mem_of_getElem? (i := 29) rfl)
theorem qt_11_19 : (Cond.fieldLink RX5 71 "ClaimJudge$Text" "operand" "I") ∈ lw_tbl := qT_1 (List.mem_of_getElem? (i := 179) rfl)
theorem qt_11_20 : (Cond.methodLink RX5 95 yX5_isDigitTo) ∈ lw_tbl := qT_3 (List.mem_of_getElem? (i := 30) rfl)
theorem qt_11_21 : (Cond.instanceMethod yX5_isDigitTo) ∈ lw_tbl := qT_3 (List.mem_of_getElem? (i := 32) rfl)
theorem qt_11_22 : (Cond.selects RX5 yX5_isDigitTo yX5_isDigitTo) ∈ lw_tbl := qP_0 (List.mem_of_getElem? (l := lw_privs_1) (i := 9) rfl)
theorem qt_11_23 : (Cond.code yX5_isDigitTo cX5_isDigitTo 2 (some .boolean)) ∈ lw_tbl := qT_3 (List.mem_of_getElem? (i := 33) rfl)
theorem qr_11 : ∀ w ∈ wsL_law0_r11, w ∈ lw_tbl := by
  intro w hw
  simp only [wsL_law0_r11, List.mem_cons, List.not_mem_nil, or_false] at hw
  rcases hw with rfl | rfl | rfl | rfl | rfl | rfl | rfl | rfl | rfl | rfl | rfl | rfl | rfl | rfl | rfl | rfl | rfl | rfl | rfl | rfl | rfl | rfl | rfl | rfl
  · exact qt_11_0
  · exact qt_11_1
  · exact qt_11_2
  · exact qt_11_3
  · exact qt_11_4
  · exact qt_11_5
  · exact qt_11_6
  · exact qt_11_7
  · exact qt_11_8
  · exact qt_11_9
  · exact qt_11_10
  · exact qt_11_11
  · exact qt_11_12
  · exact qt_11_13
  · exact qt_11_14
  · exact qt_11_15
  · exact qt_11_16
  · exact qt_11_17
  · exact qt_11_18
  · exact qt_11_19
  · exact qt_11_20
  · exact qt_11_21
  · exact qt_11_22
  · exact qt_11_23
theorem qt_12_0 : (Cond.methodLink RX5 52 yX5_keep) ∈ lw_tbl := qT_3 (List.mem_of_getElem? (i := 34) rfl)
theorem qt_12_1 : (Cond.instanceMethod yX5_keep) ∈ lw_tbl := qT_3 (List.mem_of_getElem? (i := 36) rfl)
theorem qt_12_2 : (Cond.selects RX5 yX5_keep yX5_keep) ∈ lw_tbl := qP_0 (List.mem_of_getElem? (l := lw_privs_1) (i := 10) rfl)
theorem qt_12_3 : (Cond.code yX5_keep cX5_keep 2 (some .boolean)) ∈ lw_tbl := qT_3 (List.mem_of_getElem? (i := 37) rfl)
theorem qt_12_4 : (Cond.methodLink RX5 74 yX3_put) ∈ lw_tbl := qT_3 (List.mem_of_getElem? (i := 38) rfl)
theorem qt_12_5 : (Cond.instanceMethod yX3_put) ∈ lw_tbl := qT_2 (List.mem_of_getElem? (i := 70) rfl)
theorem qt_12_6 : (Cond.selects RX3 yX3_put yX3_put) ∈ lw_tbl := qT_2 (List.mem_of_getElem? (i := 71) rfl)
theorem qt_12_7 : (Cond.code yX3_put cX3_put 7 none) ∈ lw_tbl := qT_2 (List.mem_of_getElem? (i := 72) rfl)
theorem qt_12_8 : (Cond.methodLink RX5 56 yX5_takeGoal) ∈ lw_tbl := qT_3 (List.mem_of_getElem? (i := 39) rfl)
theorem qt_12_9 : (Cond.instanceMethod yX5_takeGoal) ∈ lw_tbl := qT_3 (List.mem_of_getElem? (i := 41) rfl)
theorem qt_12_10 : (Cond.selects RX5 yX5_takeGoal yX5_takeGoal) ∈ lw_tbl := qP_0 (List.mem_of_getElem? (l := lw_privs_1) (i := 11) rfl)
theorem qt_12_11 : (Cond.code yX5_takeGoal cX5_takeGoal 1 (some .boolean)) ∈ lw_tbl := qT_3 (List.mem_of_getElem? (i := 42) rfl)
theorem qt_12_12 : (Cond.methodLink RX5 65 yX5_takeAddend) ∈ lw_tbl := qT_3 (List.mem_of_getElem? (i := 43) rfl)
theorem qt_12_13 : (Cond.instanceMethod yX5_takeAddend) ∈ lw_tbl := qT_3 (List.mem_of_getElem? (i := 45) rfl)
theorem qt_12_14 : (Cond.selects RX5 yX5_takeAddend yX5_takeAddend) ∈ lw_tbl := qP_0 (List.mem_of_getElem? (l := lw_privs_1) (i := 12) rfl)
theorem qt_12_15 : (Cond.code yX5_takeAddend cX5_takeAddend 2 (some .boolean)) ∈ lw_tbl := qT_3 (List.mem_of_getElem? (i := 46) rfl)
theorem qt_12_16 : (Cond.methodLink RX6 62 yX3_highestTarget) ∈ lw_tbl := qT_3 (List.mem_of_getElem? (i := 47) rfl)
theorem qt_12_17 : (Cond.instanceMethod yX3_highestTarget) ∈ lw_tbl := qT_3 (List.mem_of_getElem? (i := 48) rfl)
theorem qt_12_18 : (Cond.selects RX3 yX3_highestTarget yX3_highestTarget) ∈ lw_tbl := qT_3 (List.mem_of_getElem? (i := 49) rfl)
theorem qt_12_19 : (Cond.code yX3_highestTarget cX3_highestTarget 3 (some .int)) ∈ lw_tbl := qT_3 (List.mem_of_getElem? (i := 50) rfl)
theorem qt_12_20 : (Cond.methodLink RX3 45 Lib.Math.max.name) ∈ lw_tbl := qT_3 (List.mem_of_getElem? (i := 51) rfl)
theorem qt_12_21 : (Cond.methodLink RX6 77 yX6_saveState) ∈ lw_tbl := qT_3 (List.mem_of_getElem? (i := 53) rfl)
theorem qt_12_22 : (Cond.instanceMethod yX6_saveState) ∈ lw_tbl := qT_3 (List.mem_of_getElem? (i := 55) rfl)
theorem qt_12_23 : (Cond.selects RX6 yX6_saveState yX6_saveState) ∈ lw_tbl := qP_0 (List.mem_of_getElem? (l := lw_privs_1) (i := 13) rfl)
theorem qr_12 : ∀ w ∈ wsL_law0_r12, w ∈ lw_tbl := by
  intro w hw
  simp only [wsL_law0_r12, List.mem_cons, List.not_mem_nil, or_false] at hw
  rcases hw with rfl | rfl | rfl | rfl | rfl | rfl | rfl | rfl | rfl | rfl | rfl | rfl | rfl | rfl | rfl | rfl | rfl | rfl | rfl | rfl | rfl | rfl | rfl | rfl
  · exact qt_12_0
  · exact qt_12_1
  · exact qt_12_2
  · exact qt_12_3
  · exact qt_12_4
  · exact qt_12_5
  · exact qt_12_6
  · exact qt_12_7
  · exact qt_12_8
  · exact qt_12_9
  · exact qt_12_10
  · exact qt_12_11
  · exact qt_12_12
  · exact qt_12_13
  · exact qt_12_14
  · exact qt_12_15
  · exact qt_12_16
  · exact qt_12_17
  · exact qt_12_18
  · exact qt_12_19
  · exact qt_12_20
  · exact qt_12_21
  · exact qt_12_22
  · exact qt_12_23
theorem qt_13_0 : (Cond.code yX6_saveState cX6_saveState 1 none) ∈ lw_tbl := qT_3 (List.mem_of_getElem? (i := 56) rfl)
theorem qt_13_1 : (Cond.methodLink RX6 250 yX1_save) ∈ lw_tbl := qT_3 (List.mem_of_getElem? (i := 57) rfl)
theorem qt_13_2 : (Cond.instanceMethod yX1_save) ∈ lw_tbl := qT_3 (List.mem_of_getElem? (i := 58) rfl)
theorem qt_13_3 : (Cond.selects RX1 yX1_save yX1_save) ∈ lw_tbl := qT_3 (List.mem_of_getElem? (i := 59) rfl)
theorem qt_13_4 : (Cond.code yX1_save cX1_save 4 none) ∈ lw_tbl := qT_3 (List.mem_of_getElem? (i := 60) rfl)
theorem qt_13_5 : (Cond.fieldLink RX1 25 "ClaimJudge$History" "count" "I") ∈ lw_tbl := qT_1 (List.mem_of_getElem? (i := 152) rfl)
theorem qt_13_6 : (Cond.fieldLink RX1 29 "ClaimJudge$History" "oldest" "I") ∈ lw_tbl := qT_1 (List.mem_of_getElem? (i := 151) rfl)
theorem qt_13_7 : (Cond.methodLink RX1 32 yX3_copyFrom) ∈ lw_tbl := qT_2 (List.mem_of_getElem? (i := 57) rfl)
theorem qt_13_8 : (Cond.instanceMethod yX3_copyFrom) ∈ lw_tbl := qT_2 (List.mem_of_getElem? (i := 58) rfl)
theorem qt_13_9 : (Cond.selects RX3 yX3_copyFrom yX3_copyFrom) ∈ lw_tbl := qT_2 (List.mem_of_getElem? (i := 59) rfl)
theorem qt_13_10 : (Cond.code yX3_copyFrom cX3_copyFrom 2 none) ∈ lw_tbl := qT_2 (List.mem_of_getElem? (i := 60) rfl)
theorem qt_13_11 : (Cond.methodLink RX3 38 yX3_clear) ∈ lw_tbl := qT_2 (List.mem_of_getElem? (i := 61) rfl)
theorem qt_13_12 : (Cond.methodLink RX3 41 yX3_putAll) ∈ lw_tbl := qT_2 (List.mem_of_getElem? (i := 65) rfl)
theorem qt_13_13 : (Cond.instanceMethod yX3_putAll) ∈ lw_tbl := qT_2 (List.mem_of_getElem? (i := 66) rfl)
theorem qt_13_14 : (Cond.selects RX3 yX3_putAll yX3_putAll) ∈ lw_tbl := qT_2 (List.mem_of_getElem? (i := 67) rfl)
theorem qt_13_15 : (Cond.code yX3_putAll cX3_putAll 3 none) ∈ lw_tbl := qT_2 (List.mem_of_getElem? (i := 68) rfl)
theorem qt_13_16 : (Cond.methodLink RX3 34 yX3_put) ∈ lw_tbl := qT_2 (List.mem_of_getElem? (i := 69) rfl)
theorem qt_13_17 : (Cond.methodLink RX1 36 yX0_copyFrom) ∈ lw_tbl := qT_2 (List.mem_of_getElem? (i := 73) rfl)
theorem qt_13_18 : (Cond.instanceMethod yX0_copyFrom) ∈ lw_tbl := qT_2 (List.mem_of_getElem? (i := 74) rfl)
theorem qt_13_19 : (Cond.selects RX0 yX0_copyFrom yX0_copyFrom) ∈ lw_tbl := qT_2 (List.mem_of_getElem? (i := 75) rfl)
theorem qt_13_20 : (Cond.code yX0_copyFrom cX0_copyFrom 3 none) ∈ lw_tbl := qT_2 (List.mem_of_getElem? (i := 76) rfl)
theorem qt_13_21 : (Cond.methodLink RX0 18 yX0_limit) ∈ lw_tbl := qT_2 (List.mem_of_getElem? (i := 77) rfl)
theorem qt_13_22 : (Cond.instanceMethod yX0_limit) ∈ lw_tbl := qT_2 (List.mem_of_getElem? (i := 78) rfl)
theorem qt_13_23 : (Cond.selects RX0 yX0_limit yX0_limit) ∈ lw_tbl := qT_2 (List.mem_of_getElem? (i := 79) rfl)
theorem qr_13 : ∀ w ∈ wsL_law0_r13, w ∈ lw_tbl := by
  intro w hw
  simp only [wsL_law0_r13, List.mem_cons, List.not_mem_nil, or_false] at hw
  rcases hw with rfl | rfl | rfl | rfl | rfl | rfl | rfl | rfl | rfl | rfl | rfl | rfl | rfl | rfl | rfl | rfl | rfl | rfl | rfl | rfl | rfl | rfl | rfl | rfl
  · exact qt_13_0
  · exact qt_13_1
  · exact qt_13_2
  · exact qt_13_3
  · exact qt_13_4
  · exact qt_13_5
  · exact qt_13_6
  · exact qt_13_7
  · exact qt_13_8
  · exact qt_13_9
  · exact qt_13_10
  · exact qt_13_11
  · exact qt_13_12
  · exact qt_13_13
  · exact qt_13_14
  · exact qt_13_15
  · exact qt_13_16
  · exact qt_13_17
  · exact qt_13_18
  · exact qt_13_19
  · exact qt_13_20
  · exact qt_13_21
  · exact qt_13_22
  · exact qt_13_23
theorem qt_14_0 : (Cond.code yX0_limit cX0_limit 4 none) ∈ lw_tbl := qT_2 (List.mem_of_getElem? (i := 80) rfl)
theorem qt_14_1 : (Cond.methodLink RX6 80 yX3_copyFrom) ∈ lw_tbl := qT_3 (List.mem_of_getElem? (i := 61) rfl)
theorem qt_14_2 : (Cond.methodLink RX6 83 yX5_clear) ∈ lw_tbl := qT_3 (List.mem_of_getElem? (i := 62) rfl)
theorem qt_14_3 : (Cond.instanceMethod yX5_clear) ∈ lw_tbl := qT_3 (List.mem_of_getElem? (i := 63) rfl)
theorem qt_14_4 : (Cond.selects RX5 yX5_clear yX5_clear) ∈ lw_tbl := qT_3 (List.mem_of_getElem? (i := 64) rfl)
theorem qt_14_5 : (Cond.code yX5_clear cX5_clear 1 none) ∈ lw_tbl := qT_3 (List.mem_of_getElem? (i := 65) rfl)
theorem qt_14_6 : (Cond.methodLink RX6 86 yX6_forgetProgram) ∈ lw_tbl := qT_2 (List.mem_of_getElem? (i := 81) rfl)
theorem qt_14_7 : (Cond.instanceMethod yX6_forgetProgram) ∈ lw_tbl := qT_2 (List.mem_of_getElem? (i := 83) rfl)
theorem qt_14_8 : (Cond.selects RX6 yX6_forgetProgram yX6_forgetProgram) ∈ lw_tbl := qP_0 (List.mem_of_getElem? (l := lw_privs_1) (i := 1) rfl)
theorem qt_14_9 : (Cond.code yX6_forgetProgram cX6_forgetProgram 1 none) ∈ lw_tbl := qT_2 (List.mem_of_getElem? (i := 84) rfl)
theorem qt_14_10 : (Cond.methodLink RX6 253 yX4_forget) ∈ lw_tbl := qT_2 (List.mem_of_getElem? (i := 85) rfl)
theorem qt_14_11 : (Cond.instanceMethod yX4_forget) ∈ lw_tbl := qT_2 (List.mem_of_getElem? (i := 86) rfl)
theorem qt_14_12 : (Cond.selects RX4 yX4_forget yX4_forget) ∈ lw_tbl := qT_2 (List.mem_of_getElem? (i := 87) rfl)
theorem qt_14_13 : (Cond.code yX4_forget cX4_forget 1 none) ∈ lw_tbl := qT_2 (List.mem_of_getElem? (i := 88) rfl)
theorem qt_14_14 : (Cond.methodLink RX6 148 yX2_forget) ∈ lw_tbl := qT_2 (List.mem_of_getElem? (i := 89) rfl)
theorem qt_14_15 : (Cond.instanceMethod yX2_forget) ∈ lw_tbl := qT_2 (List.mem_of_getElem? (i := 90) rfl)
theorem qt_14_16 : (Cond.selects RX2 yX2_forget yX2_forget) ∈ lw_tbl := qT_2 (List.mem_of_getElem? (i := 91) rfl)
theorem qt_14_17 : (Cond.code yX2_forget cX2_forget 1 none) ∈ lw_tbl := qT_2 (List.mem_of_getElem? (i := 92) rfl)
theorem qt_14_18 : (Cond.methodLink RL 14 yX6_add) ∈ lw_tbl := qT_3 (List.mem_of_getElem? (i := 66) rfl)
theorem qt_14_19 : (Cond.instanceMethod yX6_add) ∈ lw_tbl := qT_3 (List.mem_of_getElem? (i := 67) rfl)
theorem qt_14_20 : (Cond.selects RX6 yX6_add yX6_add) ∈ lw_tbl := qT_3 (List.mem_of_getElem? (i := 68) rfl)
theorem qt_14_21 : (Cond.code yX6_add cX6_add 2 (some .int)) ∈ lw_tbl := qT_3 (List.mem_of_getElem? (i := 69) rfl)
theorem qt_14_22 : (Cond.methodLink RX6 89 yX6_fitsBehind) ∈ lw_tbl := qT_3 (List.mem_of_getElem? (i := 70) rfl)
theorem qt_14_23 : (Cond.instanceMethod yX6_fitsBehind) ∈ lw_tbl := qT_3 (List.mem_of_getElem? (i := 72) rfl)
theorem qr_14 : ∀ w ∈ wsL_law0_r14, w ∈ lw_tbl := by
  intro w hw
  simp only [wsL_law0_r14, List.mem_cons, List.not_mem_nil, or_false] at hw
  rcases hw with rfl | rfl | rfl | rfl | rfl | rfl | rfl | rfl | rfl | rfl | rfl | rfl | rfl | rfl | rfl | rfl | rfl | rfl | rfl | rfl | rfl | rfl | rfl | rfl
  · exact qt_14_0
  · exact qt_14_1
  · exact qt_14_2
  · exact qt_14_3
  · exact qt_14_4
  · exact qt_14_5
  · exact qt_14_6
  · exact qt_14_7
  · exact qt_14_8
  · exact qt_14_9
  · exact qt_14_10
  · exact qt_14_11
  · exact qt_14_12
  · exact qt_14_13
  · exact qt_14_14
  · exact qt_14_15
  · exact qt_14_16
  · exact qt_14_17
  · exact qt_14_18
  · exact qt_14_19
  · exact qt_14_20
  · exact qt_14_21
  · exact qt_14_22
  · exact qt_14_23
theorem qt_15_0 : (Cond.selects RX6 yX6_fitsBehind yX6_fitsBehind) ∈ lw_tbl := qP_0 (List.mem_of_getElem? (l := lw_privs_1) (i := 14) rfl)
theorem qt_15_1 : (Cond.code yX6_fitsBehind cX6_fitsBehind 3 (some .boolean)) ∈ lw_tbl := qT_3 (List.mem_of_getElem? (i := 73) rfl)
theorem qt_15_2 : (Cond.methodLink RX6 95 yX3_putAll) ∈ lw_tbl := qT_3 (List.mem_of_getElem? (i := 75) rfl)
theorem qt_15_3 : (Cond.methodLink RL 17 yX6_removeLast) ∈ lw_tbl := qT_3 (List.mem_of_getElem? (i := 76) rfl)
theorem qt_15_4 : (Cond.instanceMethod yX6_removeLast) ∈ lw_tbl := qT_3 (List.mem_of_getElem? (i := 77) rfl)
theorem qt_15_5 : (Cond.selects RX6 yX6_removeLast yX6_removeLast) ∈ lw_tbl := qT_3 (List.mem_of_getElem? (i := 78) rfl)
theorem qt_15_6 : (Cond.code yX6_removeLast cX6_removeLast 1 (some .int)) ∈ lw_tbl := qT_3 (List.mem_of_getElem? (i := 79) rfl)
theorem qt_15_7 : (Cond.methodLink RX6 103 yX3_dropLast) ∈ lw_tbl := qT_3 (List.mem_of_getElem? (i := 81) rfl)
theorem qt_15_8 : (Cond.instanceMethod yX3_dropLast) ∈ lw_tbl := qT_3 (List.mem_of_getElem? (i := 82) rfl)
theorem qt_15_9 : (Cond.selects RX3 yX3_dropLast yX3_dropLast) ∈ lw_tbl := qT_3 (List.mem_of_getElem? (i := 83) rfl)
theorem qt_15_10 : (Cond.code yX3_dropLast cX3_dropLast 3 none) ∈ lw_tbl := qT_3 (List.mem_of_getElem? (i := 84) rfl)
theorem qt_15_11 : (Cond.methodLink RL 20 yX6_assume) ∈ lw_tbl := qT_3 (List.mem_of_getElem? (i := 85) rfl)
theorem qt_15_12 : (Cond.instanceMethod yX6_assume) ∈ lw_tbl := qT_3 (List.mem_of_getElem? (i := 86) rfl)
theorem qt_15_13 : (Cond.selects RX6 yX6_assume yX6_assume) ∈ lw_tbl := qT_3 (List.mem_of_getElem? (i := 87) rfl)
theorem qt_15_14 : (Cond.code yX6_assume cX6_assume 4 (some .int)) ∈ lw_tbl := qT_3 (List.mem_of_getElem? (i := 88) rfl)
theorem qt_15_15 : (Cond.methodLink RX6 106 yX6_checkIndex) ∈ lw_tbl := qT_3 (List.mem_of_getElem? (i := 89) rfl)
theorem qt_15_16 : (Cond.static yX6_checkIndex) ∈ lw_tbl := qT_3 (List.mem_of_getElem? (i := 90) rfl)
theorem qt_15_17 : (Cond.code yX6_checkIndex cX6_checkIndex 2 none) ∈ lw_tbl := qT_3 (List.mem_of_getElem? (i := 91) rfl)
theorem qt_15_18 : (Cond.classLink RX6 254 "java/lang/IndexOutOfBoundsException") ∈ lw_tbl := qT_3 (List.mem_of_getElem? (i := 92) rfl)
theorem qt_15_19 : (Cond.initialized "java/lang/IndexOutOfBoundsException") ∈ lw_tbl := qT_1 (List.mem_of_getElem? (i := 19) rfl)
theorem qt_15_20 : (Cond.methodLink RX6 140 yX6_isValue) ∈ lw_tbl := qT_3 (List.mem_of_getElem? (i := 108) rfl)
theorem qt_15_21 : (Cond.static yX6_isValue) ∈ lw_tbl := qT_3 (List.mem_of_getElem? (i := 109) rfl)
theorem qt_15_22 : (Cond.code yX6_isValue cX6_isValue 1 (some .boolean)) ∈ lw_tbl := qT_3 (List.mem_of_getElem? (i := 110) rfl)
theorem qt_15_23 : (Cond.methodLink RX6 145 yX0_limit) ∈ lw_tbl := qT_3 (List.mem_of_getElem? (i := 112) rfl)
theorem qr_15 : ∀ w ∈ wsL_law0_r15, w ∈ lw_tbl := by
  intro w hw
  simp only [wsL_law0_r15, List.mem_cons, List.not_mem_nil, or_false] at hw
  rcases hw with rfl | rfl | rfl | rfl | rfl | rfl | rfl | rfl | rfl | rfl | rfl | rfl | rfl | rfl | rfl | rfl | rfl | rfl | rfl | rfl | rfl | rfl | rfl | rfl
  · exact qt_15_0
  · exact qt_15_1
  · exact qt_15_2
  · exact qt_15_3
  · exact qt_15_4
  · exact qt_15_5
  · exact qt_15_6
  · exact qt_15_7
  · exact qt_15_8
  · exact qt_15_9
  · exact qt_15_10
  · exact qt_15_11
  · exact qt_15_12
  · exact qt_15_13
  · exact qt_15_14
  · exact qt_15_15
  · exact qt_15_16
  · exact qt_15_17
  · exact qt_15_18
  · exact qt_15_19
  · exact qt_15_20
  · exact qt_15_21
  · exact qt_15_22
  · exact qt_15_23
theorem qt_16_0 : (Cond.methodLink RX6 151 yX0_count) ∈ lw_tbl := qT_3 (List.mem_of_getElem? (i := 113) rfl)
theorem qt_16_1 : (Cond.instanceMethod yX0_count) ∈ lw_tbl := qT_3 (List.mem_of_getElem? (i := 114) rfl)
theorem qt_16_2 : (Cond.selects RX0 yX0_count yX0_count) ∈ lw_tbl := qT_3 (List.mem_of_getElem? (i := 115) rfl)
theorem qt_16_3 : (Cond.code yX0_count cX0_count 3 (some .int)) ∈ lw_tbl := qT_3 (List.mem_of_getElem? (i := 116) rfl)
theorem qt_16_4 : (Cond.methodLink RL 55 yX6_clearBuffer) ∈ lw_tbl := qT_3 (List.mem_of_getElem? (i := 117) rfl)
theorem qt_16_5 : (Cond.instanceMethod yX6_clearBuffer) ∈ lw_tbl := qT_3 (List.mem_of_getElem? (i := 118) rfl)
theorem qt_16_6 : (Cond.selects RX6 yX6_clearBuffer yX6_clearBuffer) ∈ lw_tbl := qT_3 (List.mem_of_getElem? (i := 119) rfl)
theorem qt_16_7 : (Cond.code yX6_clearBuffer cX6_clearBuffer 2 (some .int)) ∈ lw_tbl := qT_3 (List.mem_of_getElem? (i := 120) rfl)
theorem qt_16_8 : (Cond.methodLink RL 113 yL_areAlike) ∈ lw_tbl := qT_3 (List.mem_of_getElem? (i := 121) rfl)
theorem qt_16_9 : (Cond.static yL_areAlike) ∈ lw_tbl := qT_3 (List.mem_of_getElem? (i := 122) rfl)
theorem qt_16_10 : (Cond.code yL_areAlike cL_areAlike 4 (some .boolean)) ∈ lw_tbl := qT_3 (List.mem_of_getElem? (i := 123) rfl)
theorem qt_16_11 : (Cond.methodLink RL 58 yX6_endless) ∈ lw_tbl := qT_3 (List.mem_of_getElem? (i := 124) rfl)
theorem qt_16_12 : (Cond.instanceMethod yX6_endless) ∈ lw_tbl := qT_3 (List.mem_of_getElem? (i := 125) rfl)
theorem qt_16_13 : (Cond.selects RX6 yX6_endless yX6_endless) ∈ lw_tbl := qT_3 (List.mem_of_getElem? (i := 126) rfl)
theorem qt_16_14 : (Cond.code yX6_endless cX6_endless 1 (some .int)) ∈ lw_tbl := qT_3 (List.mem_of_getElem? (i := 127) rfl)
theorem qt_16_15 : (Cond.methodLink RX6 154 yX2_refresh) ∈ lw_tbl := qT_3 (List.mem_of_getElem? (i := 128) rfl)
theorem qt_16_16 : (Cond.instanceMethod yX2_refresh) ∈ lw_tbl := qT_3 (List.mem_of_getElem? (i := 129) rfl)
theorem qt_16_17 : (Cond.selects RX2 yX2_refresh yX2_refresh) ∈ lw_tbl := qT_3 (List.mem_of_getElem? (i := 130) rfl)
theorem qt_16_18 : (Cond.code yX2_refresh cX2_refresh 2 none) ∈ lw_tbl := qT_3 (List.mem_of_getElem? (i := 131) rfl)
theorem qt_16_19 : (Cond.methodLink RX2 41 yX2_clear) ∈ lw_tbl := qT_3 (List.mem_of_getElem? (i := 132) rfl)
theorem qt_16_20 : (Cond.instanceMethod yX2_clear) ∈ lw_tbl := qT_3 (List.mem_of_getElem? (i := 134) rfl)
theorem qt_16_21 : (Cond.selects RX2 yX2_clear yX2_clear) ∈ lw_tbl := qP_0 (List.mem_of_getElem? (l := lw_privs_1) (i := 15) rfl)
theorem qt_16_22 : (Cond.code yX2_clear cX2_clear 1 none) ∈ lw_tbl := qT_3 (List.mem_of_getElem? (i := 135) rfl)
theorem qt_16_23 : (Cond.fieldLink RX2 73 "ClaimJudge$Judgement" "endlessRuns" "I") ∈ lw_tbl := qT_1 (List.mem_of_getElem? (i := 105) rfl)
theorem qr_16 : ∀ w ∈ wsL_law0_r16, w ∈ lw_tbl := by
  intro w hw
  simp only [wsL_law0_r16, List.mem_cons, List.not_mem_nil, or_false] at hw
  rcases hw with rfl | rfl | rfl | rfl | rfl | rfl | rfl | rfl | rfl | rfl | rfl | rfl | rfl | rfl | rfl | rfl | rfl | rfl | rfl | rfl | rfl | rfl | rfl | rfl
  · exact qt_16_0
  · exact qt_16_1
  · exact qt_16_2
  · exact qt_16_3
  · exact qt_16_4
  · exact qt_16_5
  · exact qt_16_6
  · exact qt_16_7
  · exact qt_16_8
  · exact qt_16_9
  · exact qt_16_10
  · exact qt_16_11
  · exact qt_16_12
  · exact qt_16_13
  · exact qt_16_14
  · exact qt_16_15
  · exact qt_16_16
  · exact qt_16_17
  · exact qt_16_18
  · exact qt_16_19
  · exact qt_16_20
  · exact qt_16_21
  · exact qt_16_22
  · exact qt_16_23
theorem qt_17_0 : (Cond.fieldLink RX2 77 "ClaimJudge$Judgement" "failedRuns" "I") ∈ lw_tbl := qT_1 (List.mem_of_getElem? (i := 107) rfl)
theorem qt_17_1 : (Cond.fieldLink RX2 80 "ClaimJudge$Judgement" "successfulRuns" "I") ∈ lw_tbl := qT_1 (List.mem_of_getElem? (i := 109) rfl)
theorem qt_17_2 : (Cond.methodLink RX2 64 yJ7_fill_53178) ∈ lw_tbl := qT_3 (List.mem_of_getElem? (i := 136) rfl)
theorem qt_17_3 : (Cond.static yJ7_fill_53178) ∈ lw_tbl := qT_3 (List.mem_of_getElem? (i := 137) rfl)
theorem qt_17_4 : (Cond.initialized RJ7) ∈ lw_tbl := qT_1 (List.mem_of_getElem? (i := 20) rfl)
theorem qt_17_5 : (Cond.code yJ7_fill_53178 cJ7_fill_53178 4 none) ∈ lw_tbl := qT_3 (List.mem_of_getElem? (i := 138) rfl)
theorem qt_17_6 : (Cond.methodLink RX2 70 yJ7_fill_d0a16) ∈ lw_tbl := qT_3 (List.mem_of_getElem? (i := 139) rfl)
theorem qt_17_7 : (Cond.static yJ7_fill_d0a16) ∈ lw_tbl := qT_3 (List.mem_of_getElem? (i := 140) rfl)
theorem qt_17_8 : (Cond.code yJ7_fill_d0a16 cJ7_fill_d0a16 5 none) ∈ lw_tbl := qT_3 (List.mem_of_getElem? (i := 141) rfl)
theorem qt_17_9 : (Cond.methodLink RX2 44 yX0_allows) ∈ lw_tbl := qT_3 (List.mem_of_getElem? (i := 142) rfl)
theorem qt_17_10 : (Cond.instanceMethod yX0_allows) ∈ lw_tbl := qT_3 (List.mem_of_getElem? (i := 143) rfl)
theorem qt_17_11 : (Cond.selects RX0 yX0_allows yX0_allows) ∈ lw_tbl := qT_3 (List.mem_of_getElem? (i := 144) rfl)
theorem qt_17_12 : (Cond.code yX0_allows cX0_allows 2 (some .boolean)) ∈ lw_tbl := qT_3 (List.mem_of_getElem? (i := 145) rfl)
theorem qt_17_13 : (Cond.methodLink RX0 22 yX0_allowsBut) ∈ lw_tbl := qT_3 (List.mem_of_getElem? (i := 146) rfl)
theorem qt_17_14 : (Cond.instanceMethod yX0_allowsBut) ∈ lw_tbl := qT_3 (List.mem_of_getElem? (i := 147) rfl)
theorem qt_17_15 : (Cond.selects RX0 yX0_allowsBut yX0_allowsBut) ∈ lw_tbl := qT_3 (List.mem_of_getElem? (i := 148) rfl)
theorem qt_17_16 : (Cond.code yX0_allowsBut cX0_allowsBut 5 (some .boolean)) ∈ lw_tbl := qT_3 (List.mem_of_getElem? (i := 149) rfl)
theorem qt_17_17 : (Cond.static yX6_valueOf) ∈ lw_tbl := qT_3 (List.mem_of_getElem? (i := 151) rfl)
theorem qt_17_18 : (Cond.code yX6_valueOf cX6_valueOf 2 (some .int)) ∈ lw_tbl := qT_3 (List.mem_of_getElem? (i := 152) rfl)
theorem qt_17_19 : (Cond.methodLink RX2 50 yX4_endFrom) ∈ lw_tbl := qT_3 (List.mem_of_getElem? (i := 153) rfl)
theorem qt_17_20 : (Cond.instanceMethod yX4_endFrom) ∈ lw_tbl := qT_3 (List.mem_of_getElem? (i := 154) rfl)
theorem qt_17_21 : (Cond.selects RX4 yX4_endFrom yX4_endFrom) ∈ lw_tbl := qT_3 (List.mem_of_getElem? (i := 155) rfl)
theorem qt_17_22 : (Cond.code yX4_endFrom cX4_endFrom 5 (some .int)) ∈ lw_tbl := qT_3 (List.mem_of_getElem? (i := 156) rfl)
theorem qt_17_23 : (Cond.methodLink RX4 27 yJ7_fill_53178) ∈ lw_tbl := qT_3 (List.mem_of_getElem? (i := 157) rfl)
theorem qr_17 : ∀ w ∈ wsL_law0_r17, w ∈ lw_tbl := by
  intro w hw
  simp only [wsL_law0_r17, List.mem_cons, List.not_mem_nil, or_false] at hw
  rcases hw with rfl | rfl | rfl | rfl | rfl | rfl | rfl | rfl | rfl | rfl | rfl | rfl | rfl | rfl | rfl | rfl | rfl | rfl | rfl | rfl | rfl | rfl | rfl | rfl
  · exact qt_17_0
  · exact qt_17_1
  · exact qt_17_2
  · exact qt_17_3
  · exact qt_17_4
  · exact qt_17_5
  · exact qt_17_6
  · exact qt_17_7
  · exact qt_17_8
  · exact qt_17_9
  · exact qt_17_10
  · exact qt_17_11
  · exact qt_17_12
  · exact qt_17_13
  · exact qt_17_14
  · exact qt_17_15
  · exact qt_17_16
  · exact qt_17_17
  · exact qt_17_18
  · exact qt_17_19
  · exact qt_17_20
  · exact qt_17_21
  · exact qt_17_22
  · exact qt_17_23
theorem qt_18_0 : (Cond.methodLink RX4 33 yX3_placeAfter) ∈ lw_tbl := qT_3 (List.mem_of_getElem? (i := 158) rfl)
theorem qt_18_1 : (Cond.instanceMethod yX3_placeAfter) ∈ lw_tbl := qT_3 (List.mem_of_getElem? (i := 159) rfl)
theorem qt_18_2 : (Cond.selects RX3 yX3_placeAfter yX3_placeAfter) ∈ lw_tbl := qT_3 (List.mem_of_getElem? (i := 160) rfl)
theorem qt_18_3 : (Cond.code yX3_placeAfter cX3_placeAfter 7 (some .int)) ∈ lw_tbl := qT_3 (List.mem_of_getElem? (i := 161) rfl)
theorem qt_18_4 : (Cond.static yX6_statementAt) ∈ lw_tbl := qT_3 (List.mem_of_getElem? (i := 163) rfl)
theorem qt_18_5 : (Cond.code yX6_statementAt cX6_statementAt 1 (some .int)) ∈ lw_tbl := qT_3 (List.mem_of_getElem? (i := 164) rfl)
theorem qt_18_6 : (Cond.static yX6_tripleAt) ∈ lw_tbl := qT_3 (List.mem_of_getElem? (i := 166) rfl)
theorem qt_18_7 : (Cond.code yX6_tripleAt cX6_tripleAt 1 (some .int)) ∈ lw_tbl := qT_3 (List.mem_of_getElem? (i := 167) rfl)
theorem qt_18_8 : (Cond.static yX6_withValue) ∈ lw_tbl := qT_3 (List.mem_of_getElem? (i := 170) rfl)
theorem qt_18_9 : (Cond.code yX6_withValue cX6_withValue 4 (some .int)) ∈ lw_tbl := qT_3 (List.mem_of_getElem? (i := 171) rfl)
theorem qt_18_10 : (Cond.static yX6_placeOf) ∈ lw_tbl := qT_3 (List.mem_of_getElem? (i := 173) rfl)
theorem qt_18_11 : (Cond.code yX6_placeOf cX6_placeOf 2 (some .int)) ∈ lw_tbl := qT_3 (List.mem_of_getElem? (i := 174) rfl)
theorem qt_18_12 : (Cond.methodLink RX3 68 yX3_compares) ∈ lw_tbl := qT_3 (List.mem_of_getElem? (i := 175) rfl)
theorem qt_18_13 : (Cond.static yX3_compares) ∈ lw_tbl := qT_3 (List.mem_of_getElem? (i := 176) rfl)
theorem qt_18_14 : (Cond.code yX3_compares cX3_compares 3 (some .boolean)) ∈ lw_tbl := qT_3 (List.mem_of_getElem? (i := 177) rfl)
theorem qt_18_15 : (Cond.methodLink RX4 38 yX4_endAt) ∈ lw_tbl := qT_3 (List.mem_of_getElem? (i := 178) rfl)
theorem qt_18_16 : (Cond.instanceMethod yX4_endAt) ∈ lw_tbl := qT_3 (List.mem_of_getElem? (i := 180) rfl)
theorem qt_18_17 : (Cond.selects RX4 yX4_endAt yX4_endAt) ∈ lw_tbl := qP_1 (List.mem_of_getElem? (l := lw_privs_2) (i := 0) rfl)
theorem qt_18_18 : (Cond.code yX4_endAt cX4_endAt 2 (some .int)) ∈ lw_tbl := qT_3 (List.mem_of_getElem? (i := 181) rfl)
theorem qt_18_19 : (Cond.methodLink RX4 45 yX3_isEnd) ∈ lw_tbl := qT_3 (List.mem_of_getElem? (i := 182) rfl)
theorem qt_18_20 : (Cond.instanceMethod yX3_isEnd) ∈ lw_tbl := qT_3 (List.mem_of_getElem? (i := 183) rfl)
theorem qt_18_21 : (Cond.selects RX3 yX3_isEnd yX3_isEnd) ∈ lw_tbl := qT_3 (List.mem_of_getElem? (i := 184) rfl)
theorem qt_18_22 : (Cond.code yX3_isEnd cX3_isEnd 2 (some .boolean)) ∈ lw_tbl := qT_3 (List.mem_of_getElem? (i := 185) rfl)
theorem qt_18_23 : (Cond.methodLink RX4 41 yX4_settle) ∈ lw_tbl := qT_3 (List.mem_of_getElem? (i := 188) rfl)
theorem qr_18 : ∀ w ∈ wsL_law0_r18, w ∈ lw_tbl := by
  intro w hw
  simp only [wsL_law0_r18, List.mem_cons, List.not_mem_nil, or_false] at hw
  rcases hw with rfl | rfl | rfl | rfl | rfl | rfl | rfl | rfl | rfl | rfl | rfl | rfl | rfl | rfl | rfl | rfl | rfl | rfl | rfl | rfl | rfl | rfl | rfl | rfl
  · exact qt_18_0
  · exact qt_18_1
  · exact qt_18_2
  · exact qt_18_3
  · exact qt_18_4
  · exact qt_18_5
  · exact qt_18_6
  · exact qt_18_7
  · exact qt_18_8
  · exact qt_18_9
  · exact qt_18_10
  · exact qt_18_11
  · exact qt_18_12
  · exact qt_18_13
  · exact qt_18_14
  · exact qt_18_15
  · exact qt_18_16
  · exact qt_18_17
  · exact qt_18_18
  · exact qt_18_19
  · exact qt_18_20
  · exact qt_18_21
  · exact qt_18_22
  · exact qt_18_23
theorem qt_19_0 : (Cond.instanceMethod yX4_settle) ∈ lw_tbl := qT_3 (List.mem_of_getElem? (i := 190) rfl)
theorem qt_19_1 : (Cond.selects RX4 yX4_settle yX4_settle) ∈ lw_tbl := qP_1 (List.mem_of_getElem? (l := lw_privs_2) (i := 1) rfl)
theorem qt_19_2 : (Cond.code yX4_settle cX4_settle 5 none) ∈ lw_tbl := qT_3 (List.mem_of_getElem? (i := 191) rfl)
theorem qt_19_3 : (Cond.methodLink RX2 56 yX2_countRun) ∈ lw_tbl := qT_3 (List.mem_of_getElem? (i := 192) rfl)
theorem qt_19_4 : (Cond.instanceMethod yX2_countRun) ∈ lw_tbl := qT_3 (List.mem_of_getElem? (i := 194) rfl)
theorem qt_19_5 : (Cond.selects RX2 yX2_countRun yX2_countRun) ∈ lw_tbl := qP_1 (List.mem_of_getElem? (l := lw_privs_2) (i := 2) rfl)
theorem qt_19_6 : (Cond.code yX2_countRun cX2_countRun 3 none) ∈ lw_tbl := qT_3 (List.mem_of_getElem? (i := 195) rfl)
theorem qt_19_7 : (Cond.methodLink RX2 60 yX2_followRun) ∈ lw_tbl := qT_3 (List.mem_of_getElem? (i := 196) rfl)
theorem qt_19_8 : (Cond.instanceMethod yX2_followRun) ∈ lw_tbl := qT_3 (List.mem_of_getElem? (i := 198) rfl)
theorem qt_19_9 : (Cond.selects RX2 yX2_followRun yX2_followRun) ∈ lw_tbl := qP_1 (List.mem_of_getElem? (l := lw_privs_2) (i := 3) rfl)
theorem qt_19_10 : (Cond.code yX2_followRun cX2_followRun 4 none) ∈ lw_tbl := qT_3 (List.mem_of_getElem? (i := 199) rfl)
theorem qt_19_11 : (Cond.methodLink RX2 83 yX2_isVisited) ∈ lw_tbl := qT_3 (List.mem_of_getElem? (i := 200) rfl)
theorem qt_19_12 : (Cond.instanceMethod yX2_isVisited) ∈ lw_tbl := qT_3 (List.mem_of_getElem? (i := 202) rfl)
theorem qt_19_13 : (Cond.selects RX2 yX2_isVisited yX2_isVisited) ∈ lw_tbl := qP_1 (List.mem_of_getElem? (l := lw_privs_2) (i := 4) rfl)
theorem qt_19_14 : (Cond.code yX2_isVisited cX2_isVisited 2 (some .boolean)) ∈ lw_tbl := qT_3 (List.mem_of_getElem? (i := 203) rfl)
theorem qt_19_15 : (Cond.methodLink RX2 86 yX2_noteValues) ∈ lw_tbl := qT_3 (List.mem_of_getElem? (i := 204) rfl)
theorem qt_19_16 : (Cond.instanceMethod yX2_noteValues) ∈ lw_tbl := qT_3 (List.mem_of_getElem? (i := 206) rfl)
theorem qt_19_17 : (Cond.selects RX2 yX2_noteValues yX2_noteValues) ∈ lw_tbl := qP_1 (List.mem_of_getElem? (l := lw_privs_2) (i := 5) rfl)
theorem qt_19_18 : (Cond.code yX2_noteValues cX2_noteValues 6 none) ∈ lw_tbl := qT_3 (List.mem_of_getElem? (i := 207) rfl)
theorem qt_19_19 : (Cond.methodLink RX2 89 yX3_placeAfter) ∈ lw_tbl := qT_3 (List.mem_of_getElem? (i := 211) rfl)
theorem qt_19_20 : (Cond.methodLink RL 61 yX6_proof) ∈ lw_tbl := qT_3 (List.mem_of_getElem? (i := 212) rfl)
theorem qt_19_21 : (Cond.instanceMethod yX6_proof) ∈ lw_tbl := qT_3 (List.mem_of_getElem? (i := 213) rfl)
theorem qt_19_22 : (Cond.selects RX6 yX6_proof yX6_proof) ∈ lw_tbl := qT_3 (List.mem_of_getElem? (i := 214) rfl)
theorem qt_19_23 : (Cond.code yX6_proof cX6_proof 1 (some .int)) ∈ lw_tbl := qT_3 (List.mem_of_getElem? (i := 215) rfl)
theorem qr_19 : ∀ w ∈ wsL_law0_r19, w ∈ lw_tbl := by
  intro w hw
  simp only [wsL_law0_r19, List.mem_cons, List.not_mem_nil, or_false] at hw
  rcases hw with rfl | rfl | rfl | rfl | rfl | rfl | rfl | rfl | rfl | rfl | rfl | rfl | rfl | rfl | rfl | rfl | rfl | rfl | rfl | rfl | rfl | rfl | rfl | rfl
  · exact qt_19_0
  · exact qt_19_1
  · exact qt_19_2
  · exact qt_19_3
  · exact qt_19_4
  · exact qt_19_5
  · exact qt_19_6
  · exact qt_19_7
  · exact qt_19_8
  · exact qt_19_9
  · exact qt_19_10
  · exact qt_19_11
  · exact qt_19_12
  · exact qt_19_13
  · exact qt_19_14
  · exact qt_19_15
  · exact qt_19_16
  · exact qt_19_17
  · exact qt_19_18
  · exact qt_19_19
  · exact qt_19_20
  · exact qt_19_21
  · exact qt_19_22
  · exact qt_19_23
theorem qt_20_0 : (Cond.methodLink RL 64 yX6_provedShare) ∈ lw_tbl := qT_3 (List.mem_of_getElem? (i := 216) rfl)
theorem qt_20_1 : (Cond.instanceMethod yX6_provedShare) ∈ lw_tbl := qT_3 (List.mem_of_getElem? (i := 217) rfl)
theorem qt_20_2 : (Cond.selects RX6 yX6_provedShare yX6_provedShare) ∈ lw_tbl := qT_3 (List.mem_of_getElem? (i := 218) rfl)
theorem qt_20_3 : (Cond.code yX6_provedShare cX6_provedShare 1 (some .double)) ∈ lw_tbl := qT_3 (List.mem_of_getElem? (i := 219) rfl)
theorem qt_20_4 : (Cond.methodLink RL 68 yX6_kind) ∈ lw_tbl := qT_3 (List.mem_of_getElem? (i := 220) rfl)
theorem qt_20_5 : (Cond.instanceMethod yX6_kind) ∈ lw_tbl := qT_3 (List.mem_of_getElem? (i := 221) rfl)
theorem qt_20_6 : (Cond.selects RX6 yX6_kind yX6_kind) ∈ lw_tbl := qT_3 (List.mem_of_getElem? (i := 222) rfl)
theorem qt_20_7 : (Cond.code yX6_kind cX6_kind 2 (some .int)) ∈ lw_tbl := qT_3 (List.mem_of_getElem? (i := 223) rfl)
theorem qt_20_8 : (Cond.methodLink RL 71 yX6_target) ∈ lw_tbl := qT_3 (List.mem_of_getElem? (i := 224) rfl)
theorem qt_20_9 : (Cond.instanceMethod yX6_target) ∈ lw_tbl := qT_3 (List.mem_of_getElem? (i := 225) rfl)
theorem qt_20_10 : (Cond.selects RX6 yX6_target yX6_target) ∈ lw_tbl := qT_3 (List.mem_of_getElem? (i := 226) rfl)
theorem qt_20_11 : (Cond.code yX6_target cX6_target 2 (some .int)) ∈ lw_tbl := qT_3 (List.mem_of_getElem? (i := 227) rfl)
theorem qt_20_12 : (Cond.methodLink RL 74 yX6_demand) ∈ lw_tbl := qT_3 (List.mem_of_getElem? (i := 228) rfl)
theorem qt_20_13 : (Cond.instanceMethod yX6_demand) ∈ lw_tbl := qT_3 (List.mem_of_getElem? (i := 229) rfl)
theorem qt_20_14 : (Cond.selects RX6 yX6_demand yX6_demand) ∈ lw_tbl := qT_3 (List.mem_of_getElem? (i := 230) rfl)
theorem qt_20_15 : (Cond.code yX6_demand cX6_demand 4 (some .int)) ∈ lw_tbl := qT_3 (List.mem_of_getElem? (i := 231) rfl)
theorem qt_20_16 : (Cond.methodLink RX6 132 yX6_placeOf) ∈ lw_tbl := qT_3 (List.mem_of_getElem? (i := 232) rfl)
theorem qt_20_17 : (Cond.methodLink RX6 136 yX4_succeedsFrom) ∈ lw_tbl := qT_3 (List.mem_of_getElem? (i := 233) rfl)
theorem qt_20_18 : (Cond.instanceMethod yX4_succeedsFrom) ∈ lw_tbl := qT_3 (List.mem_of_getElem? (i := 234) rfl)
theorem qt_20_19 : (Cond.selects RX4 yX4_succeedsFrom yX4_succeedsFrom) ∈ lw_tbl := qT_3 (List.mem_of_getElem? (i := 235) rfl)
theorem qt_20_20 : (Cond.code yX4_succeedsFrom cX4_succeedsFrom 2 (some .boolean)) ∈ lw_tbl := qT_3 (List.mem_of_getElem? (i := 236) rfl)
theorem qt_20_21 : (Cond.methodLink RX4 23 yX4_endFrom) ∈ lw_tbl := qT_3 (List.mem_of_getElem? (i := 237) rfl)
theorem qt_20_22 : (Cond.methodLink RL 77 yX6_verdict) ∈ lw_tbl := qT_3 (List.mem_of_getElem? (i := 238) rfl)
theorem qt_20_23 : (Cond.instanceMethod yX6_verdict) ∈ lw_tbl := qT_3 (List.mem_of_getElem? (i := 239) rfl)
theorem qr_20 : ∀ w ∈ wsL_law0_r20, w ∈ lw_tbl := by
  intro w hw
  simp only [wsL_law0_r20, List.mem_cons, List.not_mem_nil, or_false] at hw
  rcases hw with rfl | rfl | rfl | rfl | rfl | rfl | rfl | rfl | rfl | rfl | rfl | rfl | rfl | rfl | rfl | rfl | rfl | rfl | rfl | rfl | rfl | rfl | rfl | rfl
  · exact qt_20_0
  · exact qt_20_1
  · exact qt_20_2
  · exact qt_20_3
  · exact qt_20_4
  · exact qt_20_5
  · exact qt_20_6
  · exact qt_20_7
  · exact qt_20_8
  · exact qt_20_9
  · exact qt_20_10
  · exact qt_20_11
  · exact qt_20_12
  · exact qt_20_13
  · exact qt_20_14
  · exact qt_20_15
  · exact qt_20_16
  · exact qt_20_17
  · exact qt_20_18
  · exact qt_20_19
  · exact qt_20_20
  · exact qt_20_21
  · exact qt_20_22
  · exact qt_20_23
theorem qt_21_0 : (Cond.selects RX6 yX6_verdict yX6_verdict) ∈ lw_tbl := qT_4 (List.mem_of_getElem? (i := 0) rfl)
theorem qt_21_1 : (Cond.code yX6_verdict cX6_verdict 2 (some .int)) ∈ lw_tbl := qT_4 (List.mem_of_getElem? (i := 1) rfl)
theorem qt_21_2 : (Cond.methodLink RX6 160 yX2_isReached) ∈ lw_tbl := qT_4 (List.mem_of_getElem? (i := 2) rfl)
theorem qt_21_3 : (Cond.instanceMethod yX2_isReached) ∈ lw_tbl := qT_4 (List.mem_of_getElem? (i := 3) rfl)
theorem qt_21_4 : (Cond.selects RX2 yX2_isReached yX2_isReached) ∈ lw_tbl := qT_4 (List.mem_of_getElem? (i := 4) rfl)
theorem qt_21_5 : (Cond.code yX2_isReached cX2_isReached 2 (some .boolean)) ∈ lw_tbl := qT_4 (List.mem_of_getElem? (i := 5) rfl)
theorem qt_21_6 : (Cond.methodLink RL 80 yX6_example) ∈ lw_tbl := qT_4 (List.mem_of_getElem? (i := 6) rfl)
theorem qt_21_7 : (Cond.instanceMethod yX6_example) ∈ lw_tbl := qT_4 (List.mem_of_getElem? (i := 7) rfl)
theorem qt_21_8 : (Cond.selects RX6 yX6_example yX6_example) ∈ lw_tbl := qT_4 (List.mem_of_getElem? (i := 8) rfl)
theorem qt_21_9 : (Cond.code yX6_example cX6_example 2 (some .int)) ∈ lw_tbl := qT_4 (List.mem_of_getElem? (i := 9) rfl)
theorem qt_21_10 : (Cond.methodLink RL 83 yX6_least) ∈ lw_tbl := qT_4 (List.mem_of_getElem? (i := 10) rfl)
theorem qt_21_11 : (Cond.instanceMethod yX6_least) ∈ lw_tbl := qT_4 (List.mem_of_getElem? (i := 11) rfl)
theorem qt_21_12 : (Cond.selects RX6 yX6_least yX6_least) ∈ lw_tbl := qT_4 (List.mem_of_getElem? (i := 12) rfl)
theorem qt_21_13 : (Cond.code yX6_least cX6_least 3 (some .int)) ∈ lw_tbl := qT_4 (List.mem_of_getElem? (i := 13) rfl)
theorem qt_21_14 : (Cond.methodLink RL 86 yX6_greatest) ∈ lw_tbl := qT_4 (List.mem_of_getElem? (i := 14) rfl)
theorem qt_21_15 : (Cond.instanceMethod yX6_greatest) ∈ lw_tbl := qT_4 (List.mem_of_getElem? (i := 15) rfl)
theorem qt_21_16 : (Cond.selects RX6 yX6_greatest yX6_greatest) ∈ lw_tbl := qT_4 (List.mem_of_getElem? (i := 16) rfl)
theorem qt_21_17 : (Cond.code yX6_greatest cX6_greatest 3 (some .int)) ∈ lw_tbl := qT_4 (List.mem_of_getElem? (i := 17) rfl)
theorem qt_21_18 : (Cond.methodLink RL 102 yX6_undo) ∈ lw_tbl := qT_1 (List.mem_of_getElem? (i := 221) rfl)
theorem qt_21_19 : (Cond.instanceMethod yX6_undo) ∈ lw_tbl := qT_1 (List.mem_of_getElem? (i := 222) rfl)
theorem qt_21_20 : (Cond.selects RX6 yX6_undo yX6_undo) ∈ lw_tbl := qT_1 (List.mem_of_getElem? (i := 223) rfl)
theorem qt_21_21 : (Cond.code yX6_undo cX6_undo 1 (some .int)) ∈ lw_tbl := qT_1 (List.mem_of_getElem? (i := 224) rfl)
theorem qt_21_22 : (Cond.methodLink RX6 202 yX1_restore) ∈ lw_tbl := qT_2 (List.mem_of_getElem? (i := 53) rfl)
theorem qt_21_23 : (Cond.instanceMethod yX1_restore) ∈ lw_tbl := qT_2 (List.mem_of_getElem? (i := 54) rfl)
theorem qr_21 : ∀ w ∈ wsL_law0_r21, w ∈ lw_tbl := by
  intro w hw
  simp only [wsL_law0_r21, List.mem_cons, List.not_mem_nil, or_false] at hw
  rcases hw with rfl | rfl | rfl | rfl | rfl | rfl | rfl | rfl | rfl | rfl | rfl | rfl | rfl | rfl | rfl | rfl | rfl | rfl | rfl | rfl | rfl | rfl | rfl | rfl
  · exact qt_21_0
  · exact qt_21_1
  · exact qt_21_2
  · exact qt_21_3
  · exact qt_21_4
  · exact qt_21_5
  · exact qt_21_6
  · exact qt_21_7
  · exact qt_21_8
  · exact qt_21_9
  · exact qt_21_10
  · exact qt_21_11
  · exact qt_21_12
  · exact qt_21_13
  · exact qt_21_14
  · exact qt_21_15
  · exact qt_21_16
  · exact qt_21_17
  · exact qt_21_18
  · exact qt_21_19
  · exact qt_21_20
  · exact qt_21_21
  · exact qt_21_22
  · exact qt_21_23
theorem qt_22_0 : (Cond.selects RX1 yX1_restore yX1_restore) ∈ lw_tbl := qT_2 (List.mem_of_getElem? (i := 55) rfl)
theorem qt_22_1 : (Cond.code yX1_restore cX1_restore 4 none) ∈ lw_tbl := qT_2 (List.mem_of_getElem? (i := 56) rfl)
theorem qt_22_2 : (Cond.methodLink RL 117 yL_areRunsSo) ∈ lw_tbl := qT_4 (List.mem_of_getElem? (i := 18) rfl)
theorem qt_22_3 : (Cond.static yL_areRunsSo) ∈ lw_tbl := qT_4 (List.mem_of_getElem? (i := 19) rfl)
theorem qt_22_4 : (Cond.code yL_areRunsSo cL_areRunsSo 11 (some .boolean)) ∈ lw_tbl := qT_4 (List.mem_of_getElem? (i := 20) rfl)
theorem qt_22_5 : (Cond.methodLink RL 89 yX6_run) ∈ lw_tbl := qT_4 (List.mem_of_getElem? (i := 21) rfl)
theorem qt_22_6 : (Cond.instanceMethod yX6_run) ∈ lw_tbl := qT_4 (List.mem_of_getElem? (i := 22) rfl)
theorem qt_22_7 : (Cond.selects RX6 yX6_run yX6_run) ∈ lw_tbl := qT_4 (List.mem_of_getElem? (i := 23) rfl)
theorem qt_22_8 : (Cond.code yX6_run cX6_run 4 (some .int)) ∈ lw_tbl := qT_4 (List.mem_of_getElem? (i := 24) rfl)
theorem qt_22_9 : (Cond.methodLink RX6 117 yX6_checkValues) ∈ lw_tbl := qT_4 (List.mem_of_getElem? (i := 25) rfl)
theorem qt_22_10 : (Cond.static yX6_checkValues) ∈ lw_tbl := qT_4 (List.mem_of_getElem? (i := 26) rfl)
theorem qt_22_11 : (Cond.code yX6_checkValues cX6_checkValues 3 none) ∈ lw_tbl := qT_4 (List.mem_of_getElem? (i := 27) rfl)
theorem qt_22_12 : (Cond.methodLink RX6 121 yX6_tripleOf) ∈ lw_tbl := qT_4 (List.mem_of_getElem? (i := 29) rfl)
theorem qt_22_13 : (Cond.static yX6_tripleOf) ∈ lw_tbl := qT_4 (List.mem_of_getElem? (i := 30) rfl)
theorem qt_22_14 : (Cond.code yX6_tripleOf cX6_tripleOf 3 (some .int)) ∈ lw_tbl := qT_4 (List.mem_of_getElem? (i := 31) rfl)
theorem qt_22_15 : (Cond.methodLink RX6 125 yX4_endFrom) ∈ lw_tbl := qT_4 (List.mem_of_getElem? (i := 32) rfl)
theorem qt_22_16 : (Cond.methodLink RL 92 yX6_steps) ∈ lw_tbl := qT_4 (List.mem_of_getElem? (i := 33) rfl)
theorem qt_22_17 : (Cond.instanceMethod yX6_steps) ∈ lw_tbl := qT_4 (List.mem_of_getElem? (i := 34) rfl)
theorem qt_22_18 : (Cond.selects RX6 yX6_steps yX6_steps) ∈ lw_tbl := qT_4 (List.mem_of_getElem? (i := 35) rfl)
theorem qt_22_19 : (Cond.code yX6_steps cX6_steps 4 (some .int)) ∈ lw_tbl := qT_4 (List.mem_of_getElem? (i := 36) rfl)
theorem qt_22_20 : (Cond.methodLink RX6 129 yX4_lengthFrom) ∈ lw_tbl := qT_4 (List.mem_of_getElem? (i := 37) rfl)
theorem qt_22_21 : (Cond.instanceMethod yX4_lengthFrom) ∈ lw_tbl := qT_4 (List.mem_of_getElem? (i := 38) rfl)
theorem qt_22_22 : (Cond.selects RX4 yX4_lengthFrom yX4_lengthFrom) ∈ lw_tbl := qT_4 (List.mem_of_getElem? (i := 39) rfl)
theorem qt_22_23 : (Cond.code yX4_lengthFrom cX4_lengthFrom 5 (some .int)) ∈ lw_tbl := qT_4 (List.mem_of_getElem? (i := 40) rfl)
theorem qr_22 : ∀ w ∈ wsL_law0_r22, w ∈ lw_tbl := by
  intro w hw
  simp only [wsL_law0_r22, List.mem_cons, List.not_mem_nil, or_false] at hw
  rcases hw with rfl | rfl | rfl | rfl | rfl | rfl | rfl | rfl | rfl | rfl | rfl | rfl | rfl | rfl | rfl | rfl | rfl | rfl | rfl | rfl | rfl | rfl | rfl | rfl
  · exact qt_22_0
  · exact qt_22_1
  · exact qt_22_2
  · exact qt_22_3
  · exact qt_22_4
  · exact qt_22_5
  · exact qt_22_6
  · exact qt_22_7
  · exact qt_22_8
  · exact qt_22_9
  · exact qt_22_10
  · exact qt_22_11
  · exact qt_22_12
  · exact qt_22_13
  · exact qt_22_14
  · exact qt_22_15
  · exact qt_22_16
  · exact qt_22_17
  · exact qt_22_18
  · exact qt_22_19
  · exact qt_22_20
  · exact qt_22_21
  · exact qt_22_22
  · exact qt_22_23
theorem qt_23_0 : (Cond.methodLink RL 95 yX6_demands) ∈ lw_tbl := qT_4 (List.mem_of_getElem? (i := 41) rfl)
theorem qt_23_1 : (Cond.instanceMethod yX6_demands) ∈ lw_tbl := qT_4 (List.mem_of_getElem? (i := 42) rfl)
theorem qt_23_2 : (Cond.selects RX6 yX6_demands yX6_demands) ∈ lw_tbl := qT_4 (List.mem_of_getElem? (i := 43) rfl)
theorem qt_23_3 : (Cond.code yX6_demands cX6_demands 5 (some .boolean)) ∈ lw_tbl := qT_4 (List.mem_of_getElem? (i := 44) rfl)
theorem qt_23_4 : (Cond.methodLink RL 121 yL_areClaimsSo) ∈ lw_tbl := qT_4 (List.mem_of_getElem? (i := 45) rfl)
theorem qt_23_5 : (Cond.static yL_areClaimsSo) ∈ lw_tbl := qT_4 (List.mem_of_getElem? (i := 46) rfl)
theorem qt_23_6 : (Cond.code yL_areClaimsSo cL_areClaimsSo 10 (some .boolean)) ∈ lw_tbl := qT_4 (List.mem_of_getElem? (i := 47) rfl)
theorem qt_23_7 : (Cond.methodLink RL 125 yL_isWidestSo) ∈ lw_tbl := qT_4 (List.mem_of_getElem? (i := 48) rfl)
theorem qt_23_8 : (Cond.static yL_isWidestSo) ∈ lw_tbl := qT_4 (List.mem_of_getElem? (i := 49) rfl)
theorem qt_23_9 : (Cond.code yL_isWidestSo cL_isWidestSo 10 (some .boolean)) ∈ lw_tbl := qT_4 (List.mem_of_getElem? (i := 50) rfl)
theorem qt_23_10 : (Cond.methodLink RL 99 yX6_widest) ∈ lw_tbl := qT_4 (List.mem_of_getElem? (i := 51) rfl)
theorem qt_23_11 : (Cond.instanceMethod yX6_widest) ∈ lw_tbl := qT_4 (List.mem_of_getElem? (i := 52) rfl)
theorem qt_23_12 : (Cond.selects RX6 yX6_widest yX6_widest) ∈ lw_tbl := qT_4 (List.mem_of_getElem? (i := 53) rfl)
theorem qt_23_13 : (Cond.code yX6_widest cX6_widest 2 (some .int)) ∈ lw_tbl := qT_4 (List.mem_of_getElem? (i := 54) rfl)
theorem qt_23_14 : (Cond.methodLink RX6 178 yX6_unprovedValues) ∈ lw_tbl := qT_4 (List.mem_of_getElem? (i := 55) rfl)
theorem qt_23_15 : (Cond.instanceMethod yX6_unprovedValues) ∈ lw_tbl := qT_4 (List.mem_of_getElem? (i := 57) rfl)
theorem qt_23_16 : (Cond.selects RX6 yX6_unprovedValues yX6_unprovedValues) ∈ lw_tbl := qP_1 (List.mem_of_getElem? (l := lw_privs_2) (i := 6) rfl)
theorem qt_23_17 : (Cond.code yX6_unprovedValues cX6_unprovedValues 4 (some .int)) ∈ lw_tbl := qT_4 (List.mem_of_getElem? (i := 58) rfl)
theorem qt_23_18 : (Cond.methodLink RX6 243 yX0_allowsBut) ∈ lw_tbl := qT_4 (List.mem_of_getElem? (i := 59) rfl)
theorem qt_23_19 : (Cond.methodLink RX6 247 yX6_valueOf) ∈ lw_tbl := qT_4 (List.mem_of_getElem? (i := 60) rfl)
theorem qt_23_20 : (Cond.methodLink RX6 181 yX6_widestRange) ∈ lw_tbl := qT_4 (List.mem_of_getElem? (i := 61) rfl)
theorem qt_23_21 : (Cond.static yX6_widestRange) ∈ lw_tbl := qT_4 (List.mem_of_getElem? (i := 62) rfl)
theorem qt_23_22 : (Cond.code yX6_widestRange cX6_widestRange 5 (some .int)) ∈ lw_tbl := qT_4 (List.mem_of_getElem? (i := 63) rfl)
theorem qr_23 : ∀ w ∈ wsL_law0_r23, w ∈ lw_tbl := by
  intro w hw
  simp only [wsL_law0_r23, List.mem_cons, List.not_mem_nil, or_false] at hw
  rcases hw with rfl | rfl | rfl | rfl | rfl | rfl | rfl | rfl | rfl | rfl | rfl | rfl | rfl | rfl | rfl | rfl | rfl | rfl | rfl | rfl | rfl | rfl | rfl
  · exact qt_23_0
  · exact qt_23_1
  · exact qt_23_2
  · exact qt_23_3
  · exact qt_23_4
  · exact qt_23_5
  · exact qt_23_6
  · exact qt_23_7
  · exact qt_23_8
  · exact qt_23_9
  · exact qt_23_10
  · exact qt_23_11
  · exact qt_23_12
  · exact qt_23_13
  · exact qt_23_14
  · exact qt_23_15
  · exact qt_23_16
  · exact qt_23_17
  · exact qt_23_18
  · exact qt_23_19
  · exact qt_23_20
  · exact qt_23_21
  · exact qt_23_22
theorem qx_wsX60 : ∀ w ∈ wsX60, w ∈ lw_tbl := by
  intro w hw
  obtain ⟨k, hk, rfl⟩ := List.mem_map.mp hw
  have hk := List.mem_range.mp hk
  match k, hk with
  | 0, _ => exact qT_1 (List.mem_of_getElem? (i := 208) rfl)
  | 1, _ => exact qT_1 (List.mem_of_getElem? (i := 210) rfl)
  | 2, _ => exact qT_1 (List.mem_of_getElem? (i := 212) rfl)
  | 3, _ => exact qT_1 (List.mem_of_getElem? (i := 214) rfl)
  | 4, _ => exact qT_1 (List.mem_of_getElem? (i := 216) rfl)
  | 5, _ => exact qT_1 (List.mem_of_getElem? (i := 218) rfl)
  | k + 6, hk => exact absurd hk (by omega)
theorem qx_wsX30 : ∀ w ∈ wsX30, w ∈ lw_tbl := by
  intro w hw
  obtain ⟨k, hk, rfl⟩ := List.mem_map.mp hw
  have hk := List.mem_range.mp hk
  match k, hk with
  | 0, _ => exact qT_1 (List.mem_of_getElem? (i := 45) rfl)
  | 1, _ => exact qT_1 (List.mem_of_getElem? (i := 47) rfl)
  | 2, _ => exact qT_1 (List.mem_of_getElem? (i := 49) rfl)
  | 3, _ => exact qT_1 (List.mem_of_getElem? (i := 51) rfl)
  | 4, _ => exact qT_1 (List.mem_of_getElem? (i := 53) rfl)
  | 5, _ => exact qT_1 (List.mem_of_getElem? (i := 55) rfl)
  | 6, _ => exact qT_1 (List.mem_of_getElem? (i := 57) rfl)
  | k + 7, hk => exact absurd hk (by omega)
theorem qx_wsX00 : ∀ w ∈ wsX00, w ∈ lw_tbl := by
  intro w hw
  obtain ⟨k, hk, rfl⟩ := List.mem_map.mp hw
  have hk := List.mem_range.mp hk
  match k, hk with
  | 0, _ => exact qT_1 (List.mem_of_getElem? (i := 69) rfl)
  | 1, _ => exact qT_1 (List.mem_of_getElem? (i := 71) rfl)
  | k + 2, hk => exact absurd hk (by omega)
theorem qx_wsX40 : ∀ w ∈ wsX40, w ∈ lw_tbl := by
  intro w hw
  obtain ⟨k, hk, rfl⟩ := List.mem_map.mp hw
  have hk := List.mem_range.mp hk
  match k, hk with
  | 0, _ => exact qT_1 (List.mem_of_getElem? (i := 83) rfl)
  | 1, _ => exact qT_1 (List.mem_of_getElem? (i := 85) rfl)
  | 2, _ => exact qT_1 (List.mem_of_getElem? (i := 87) rfl)
  | k + 3, hk => exact absurd hk (by omega)
theorem qx_wsX20 : ∀ w ∈ wsX20, w ∈ lw_tbl := by
  intro w hw
  obtain ⟨k, hk, rfl⟩ := List.mem_map.mp hw
  have hk := List.mem_range.mp hk
  match k, hk with
  | 0, _ => exact qT_1 (List.mem_of_getElem? (i := 113) rfl)
  | 1, _ => exact qT_1 (List.mem_of_getElem? (i := 115) rfl)
  | 2, _ => exact qT_1 (List.mem_of_getElem? (i := 117) rfl)
  | 3, _ => exact qT_1 (List.mem_of_getElem? (i := 119) rfl)
  | 4, _ => exact qT_1 (List.mem_of_getElem? (i := 121) rfl)
  | 5, _ => exact qT_1 (List.mem_of_getElem? (i := 123) rfl)
  | 6, _ => exact qT_1 (List.mem_of_getElem? (i := 125) rfl)
  | 7, _ => exact qT_1 (List.mem_of_getElem? (i := 127) rfl)
  | 8, _ => exact qT_1 (List.mem_of_getElem? (i := 129) rfl)
  | 9, _ => exact qT_1 (List.mem_of_getElem? (i := 131) rfl)
  | 10, _ => exact qT_1 (List.mem_of_getElem? (i := 133) rfl)
  | k + 11, hk => exact absurd hk (by omega)
theorem qx_wsX10 : ∀ w ∈ wsX10, w ∈ lw_tbl := by
  intro w hw
  obtain ⟨k, hk, rfl⟩ := List.mem_map.mp hw
  have hk := List.mem_range.mp hk
  match k, hk with
  | 0, _ => exact qT_1 (List.mem_of_getElem? (i := 154) rfl)
  | 1, _ => exact qT_1 (List.mem_of_getElem? (i := 156) rfl)
  | 2, _ => exact qT_1 (List.mem_of_getElem? (i := 158) rfl)
  | 3, _ => exact qT_1 (List.mem_of_getElem? (i := 160) rfl)
  | k + 4, hk => exact absurd hk (by omega)
theorem qx_wsX50 : ∀ w ∈ wsX50, w ∈ lw_tbl := by
  intro w hw
  obtain ⟨k, hk, rfl⟩ := List.mem_map.mp hw
  have hk := List.mem_range.mp hk
  match k, hk with
  | 0, _ => exact qT_1 (List.mem_of_getElem? (i := 182) rfl)
  | 1, _ => exact qT_1 (List.mem_of_getElem? (i := 184) rfl)
  | 2, _ => exact qT_1 (List.mem_of_getElem? (i := 186) rfl)
  | 3, _ => exact qT_1 (List.mem_of_getElem? (i := 188) rfl)
  | 4, _ => exact qT_1 (List.mem_of_getElem? (i := 190) rfl)
  | 5, _ => exact qT_1 (List.mem_of_getElem? (i := 192) rfl)
  | 6, _ => exact qT_1 (List.mem_of_getElem? (i := 194) rfl)
  | 7, _ => exact qT_1 (List.mem_of_getElem? (i := 196) rfl)
  | 8, _ => exact qT_1 (List.mem_of_getElem? (i := 198) rfl)
  | k + 9, hk => exact absurd hk (by omega)
theorem wsL_law_in0 : ∀ w ∈ wsL_law0, w ∈ lw_tbl := fun w => (fun h => (List.mem_append.mp h).elim (fun h => (List.mem_append.mp h).elim (fun h => (List.mem_append.mp h).elim (fun h => (List.mem_append.mp h).elim (fun h => (List.mem_append.mp h).elim (fun h => (List.mem_append.mp h).elim (fun h => (List.mem_append.mp h).elim (fun h => (List.mem_append.mp h).elim (fun h => (List.mem_append.mp h).elim (fun h => qr_1 w h) (fun h => (List.mem_append.mp h).elim (fun h => qr_2 w h) (fun h => (List.mem_append.mp h).elim (fun h => qr_3 w h) (fun h => (List.mem_append.mp h).elim (fun h => qr_4 w h) (fun h => (List.mem_append.mp h).elim (fun h => qr_5 w h) (fun h => (List.mem_append.mp h).elim (fun h => qr_6 w h) (fun h => (List.mem_append.mp h).elim (fun h => qr_7 w h) (fun h => (List.mem_append.mp h).elim (fun h => qr_8 w h) (fun h => (List.mem_append.mp h).elim (fun h => qr_9 w h) (fun h => (List.mem_append.mp h).elim (fun h => qr_10 w h) (fun h => (List.mem_append.mp h).elim (fun h => qr_11 w h) (fun h => (List.mem_append.mp h).elim (fun h => qr_12 w h) (fun h => (List.mem_append.mp h).elim (fun h => qr_13 w h) (fun h => (List.mem_append.mp h).elim (fun h => qr_14 w h) (fun h => (List.mem_append.mp h).elim (fun h => qr_15 w h) (fun h => (List.mem_append.mp h).elim (fun h => qr_16 w h) (fun h => (List.mem_append.mp h).elim (fun h => qr_17 w h) (fun h => (List.mem_append.mp h).elim (fun h => qr_18 w h) (fun h => (List.mem_append.mp h).elim (fun h => qr_19 w h) (fun h => (List.mem_append.mp h).elim (fun h => qr_20 w h) (fun h => (List.mem_append.mp h).elim (fun h => qr_21 w h) (fun h => (List.mem_append.mp h).elim (fun h => qr_22 w h) (fun h => qr_23 w h))))))))))))))))))))))) (fun h => qx_wsX60 w h)) (fun h => qx_wsX30 w h)) (fun h => qx_wsX00 w h)) (fun h => qx_wsX40 w h)) (fun h => qx_wsX20 w h)) (fun h => qx_wsX10 w h)) (fun h => qx_wsX50 w h)) (fun h => absurd h List.not_mem_nil))
theorem wsL_law_x0 : ∀ w ∈ (vx_atS RX6 74 "java/lang/IllegalArgumentException" ["java/lang/RuntimeException", "java/lang/Exception"]).filter goodWord, w ∈ lw_tbl := by decide +kernel
theorem wsL_law_x1 : ∀ w ∈ (vx_atS RX6 102 "java/lang/IllegalStateException" ["java/lang/RuntimeException", "java/lang/Exception"]).filter goodWord, w ∈ lw_tbl := by decide +kernel
theorem wsL_law_x2 : ∀ w ∈ (vx_atS RX6 258 "java/lang/IndexOutOfBoundsException" ["java/lang/RuntimeException", "java/lang/Exception"]).filter goodWord, w ∈ lw_tbl := by decide +kernel
theorem wsL_law_in : ∀ w ∈ wsL_law, w ∈ lw_tbl := fun w h => (List.mem_append.mp h).elim (fun h => (List.mem_append.mp h).elim (fun h => (List.mem_append.mp h).elim (fun h => wsL_law_in0 w h) (fun h => wsL_law_x0 w h)) (fun h => wsL_law_x1 w h)) (fun h => wsL_law_x2 w h)
theorem inlX0 : ∀ w ∈ wsX00, w ∈ wsL_law := fun _ h => List.mem_append_left _ (List.mem_append_left _ (List.mem_append_left _ (List.mem_append_left _ (List.mem_append_left _ (List.mem_append_left _ (List.mem_append_left _ (List.mem_append_left _ (List.mem_append_right _ h))))))))
theorem inlX1 : ∀ w ∈ wsX10, w ∈ wsL_law := fun _ h => List.mem_append_left _ (List.mem_append_left _ (List.mem_append_left _ (List.mem_append_left _ (List.mem_append_left _ (List.mem_append_right _ h)))))
theorem inlX2 : ∀ w ∈ wsX20, w ∈ wsL_law := fun _ h => List.mem_append_left _ (List.mem_append_left _ (List.mem_append_left _ (List.mem_append_left _ (List.mem_append_left _ (List.mem_append_left _ (List.mem_append_right _ h))))))
theorem inlX3 : ∀ w ∈ wsX30, w ∈ wsL_law := fun _ h => List.mem_append_left _ (List.mem_append_left _ (List.mem_append_left _ (List.mem_append_left _ (List.mem_append_left _ (List.mem_append_left _ (List.mem_append_left _ (List.mem_append_left _ (List.mem_append_left _ (List.mem_append_right _ h)))))))))
theorem inlX4 : ∀ w ∈ wsX40, w ∈ wsL_law := fun _ h => List.mem_append_left _ (List.mem_append_left _ (List.mem_append_left _ (List.mem_append_left _ (List.mem_append_left _ (List.mem_append_left _ (List.mem_append_left _ (List.mem_append_right _ h)))))))
theorem inlX5 : ∀ w ∈ wsX50, w ∈ wsL_law := fun _ h => List.mem_append_left _ (List.mem_append_left _ (List.mem_append_left _ (List.mem_append_left _ (List.mem_append_right _ h))))
theorem inlX6 : ∀ w ∈ wsX60, w ∈ wsL_law := fun _ h => List.mem_append_left _ (List.mem_append_left _ (List.mem_append_left _ (List.mem_append_left _ (List.mem_append_left _ (List.mem_append_left _ (List.mem_append_left _ (List.mem_append_left _ (List.mem_append_left _ (List.mem_append_left _ (List.mem_append_right _ h))))))))))
theorem qL_app {w : Cond} (h : w ∈ wsL_law0) : w ∈ wsL_law := List.mem_append_left _ (List.mem_append_left _ (List.mem_append_left _ h))
theorem qL_1 {w : Cond} (h : w ∈ wsL_law0_r1) : w ∈ wsL_law := qL_app (List.mem_append_left _ (List.mem_append_left _ (List.mem_append_left _ (List.mem_append_left _ (List.mem_append_left _ (List.mem_append_left _ (List.mem_append_left _ (List.mem_append_left _ (List.mem_append_left _ h)))))))))
theorem q_1_0 : (Cond.classLink RL 9 RX6) ∈ wsL_law := qL_1 (List.mem_of_getElem? (i := 0) rfl)
theorem q_1_1 : (Cond.instantiable RX6 6) ∈ wsL_law := qL_1 (List.mem_of_getElem? (i := 1) rfl)
theorem q_1_2 : (Cond.initialized RX6) ∈ wsL_law := qL_1 (List.mem_of_getElem? (i := 2) rfl)
theorem q_1_3 : (Cond.arrayClass .int) ∈ wsL_law := qL_1 (List.mem_of_getElem? (i := 3) rfl)
theorem q_1_4 : (Cond.methodLink RL 105 yX6_init) ∈ wsL_law := qL_1 (List.mem_of_getElem? (i := 4) rfl)
theorem q_1_5 : (Cond.instanceMethod yX6_init) ∈ wsL_law := qL_1 (List.mem_of_getElem? (i := 5) rfl)
theorem q_1_6 : (Cond.code yX6_init cX6_init 1 none) ∈ wsL_law := qL_1 (List.mem_of_getElem? (i := 6) rfl)
theorem q_1_7 : (Cond.methodLink RX6 3 objectInit) ∈ wsL_law := qL_1 (List.mem_of_getElem? (i := 7) rfl)
theorem q_1_8 : (Cond.instanceMethod objectInit) ∈ wsL_law := qL_1 (List.mem_of_getElem? (i := 8) rfl)
theorem q_1_9 : (Cond.code objectInit ⟨#[0xb1]⟩ 1 none) ∈ wsL_law := qL_1 (List.mem_of_getElem? (i := 9) rfl)
theorem q_1_10 : (Cond.classLink RX6 9 RX3) ∈ wsL_law := qL_1 (List.mem_of_getElem? (i := 10) rfl)
theorem q_1_11 : (Cond.instantiable RX3 7) ∈ wsL_law := qL_1 (List.mem_of_getElem? (i := 11) rfl)
theorem q_1_12 : (Cond.initialized RX3) ∈ wsL_law := qL_1 (List.mem_of_getElem? (i := 12) rfl)
theorem q_1_13 : (Cond.fieldLink RX6 12 "ClaimJudge" "program" "LClaimJudge$Program;") ∈ wsL_law := qL_1 (List.mem_of_getElem? (i := 13) rfl)
theorem q_1_14 : (Cond.classLink RX6 16 RX0) ∈ wsL_law := qL_1 (List.mem_of_getElem? (i := 14) rfl)
theorem q_1_15 : (Cond.instantiable RX0 2) ∈ wsL_law := qL_1 (List.mem_of_getElem? (i := 15) rfl)
theorem q_1_16 : (Cond.initialized RX0) ∈ wsL_law := qL_1 (List.mem_of_getElem? (i := 16) rfl)
theorem q_1_17 : (Cond.fieldLink RX6 19 "ClaimJudge" "assumption" "LClaimJudge$Assumption;") ∈ wsL_law := qL_1 (List.mem_of_getElem? (i := 17) rfl)
theorem q_1_18 : (Cond.classLink RX6 23 RX4) ∈ wsL_law := qL_1 (List.mem_of_getElem? (i := 18) rfl)
theorem q_1_19 : (Cond.instantiable RX4 3) ∈ wsL_law := qL_1 (List.mem_of_getElem? (i := 19) rfl)
theorem q_1_20 : (Cond.initialized RX4) ∈ wsL_law := qL_1 (List.mem_of_getElem? (i := 20) rfl)
theorem q_1_21 : (Cond.fieldLink RX6 28 "ClaimJudge" "runs" "LClaimJudge$Runs;") ∈ wsL_law := qL_1 (List.mem_of_getElem? (i := 21) rfl)
theorem q_1_22 : (Cond.classLink RX6 32 RX2) ∈ wsL_law := qL_1 (List.mem_of_getElem? (i := 22) rfl)
theorem q_1_23 : (Cond.instantiable RX2 11) ∈ wsL_law := qL_1 (List.mem_of_getElem? (i := 23) rfl)
theorem qL_2 {w : Cond} (h : w ∈ wsL_law0_r2) : w ∈ wsL_law := qL_app (List.mem_append_left _ (List.mem_append_left _ (List.mem_append_left _ (List.mem_append_left _ (List.mem_append_left _ (List.mem_append_left _ (List.mem_append_left _ (List.mem_append_left _ (List.mem_append_right _ (List.mem_append_left _ h))))))))))
theorem q_2_0 : (Cond.initialized RX2) ∈ wsL_law := qL_2 (List.mem_of_getElem? (i := 0) rfl)
theorem q_2_1 : (Cond.fieldLink RX6 37 "ClaimJudge" "judgement" "LClaimJudge$Judgement;") ∈ wsL_law := qL_2 (List.mem_of_getElem? (i := 1) rfl)
theorem q_2_2 : (Cond.classLink RX6 41 RX1) ∈ wsL_law := qL_2 (List.mem_of_getElem? (i := 2) rfl)
theorem q_2_3 : (Cond.instantiable RX1 4) ∈ wsL_law := qL_2 (List.mem_of_getElem? (i := 3) rfl)
theorem q_2_4 : (Cond.initialized RX1) ∈ wsL_law := qL_2 (List.mem_of_getElem? (i := 4) rfl)
theorem q_2_5 : (Cond.fieldLink RX6 44 "ClaimJudge" "history" "LClaimJudge$History;") ∈ wsL_law := qL_2 (List.mem_of_getElem? (i := 5) rfl)
theorem q_2_6 : (Cond.classLink RX6 48 RX5) ∈ wsL_law := qL_2 (List.mem_of_getElem? (i := 6) rfl)
theorem q_2_7 : (Cond.instantiable RX5 9) ∈ wsL_law := qL_2 (List.mem_of_getElem? (i := 7) rfl)
theorem q_2_8 : (Cond.initialized RX5) ∈ wsL_law := qL_2 (List.mem_of_getElem? (i := 8) rfl)
theorem q_2_9 : (Cond.fieldLink RX6 51 "ClaimJudge" "text" "LClaimJudge$Text;") ∈ wsL_law := qL_2 (List.mem_of_getElem? (i := 9) rfl)
theorem q_2_10 : (Cond.instanceMethod yX3_init) ∈ wsL_law := qL_2 (List.mem_of_getElem? (i := 10) rfl)
theorem q_2_11 : (Cond.code yX3_init cX3_init 1 none) ∈ wsL_law := qL_2 (List.mem_of_getElem? (i := 11) rfl)
theorem q_2_12 : (Cond.methodLink RX3 3 objectInit) ∈ wsL_law := qL_2 (List.mem_of_getElem? (i := 12) rfl)
theorem q_2_13 : (Cond.fieldLink RX3 9 "ClaimJudge$Program" "kinds" "[I") ∈ wsL_law := qL_2 (List.mem_of_getElem? (i := 13) rfl)
theorem q_2_14 : (Cond.fieldLink RX3 15 "ClaimJudge$Program" "variables" "[I") ∈ wsL_law := qL_2 (List.mem_of_getElem? (i := 14) rfl)
theorem q_2_15 : (Cond.fieldLink RX3 18 "ClaimJudge$Program" "signs" "[I") ∈ wsL_law := qL_2 (List.mem_of_getElem? (i := 15) rfl)
theorem q_2_16 : (Cond.fieldLink RX3 21 "ClaimJudge$Program" "operands" "[I") ∈ wsL_law := qL_2 (List.mem_of_getElem? (i := 16) rfl)
theorem q_2_17 : (Cond.fieldLink RX3 24 "ClaimJudge$Program" "addends" "[I") ∈ wsL_law := qL_2 (List.mem_of_getElem? (i := 17) rfl)
theorem q_2_18 : (Cond.fieldLink RX3 27 "ClaimJudge$Program" "targets" "[I") ∈ wsL_law := qL_2 (List.mem_of_getElem? (i := 18) rfl)
theorem q_2_19 : (Cond.instanceMethod yX0_init) ∈ wsL_law := qL_2 (List.mem_of_getElem? (i := 19) rfl)
theorem q_2_20 : (Cond.code yX0_init cX0_init 1 none) ∈ wsL_law := qL_2 (List.mem_of_getElem? (i := 20) rfl)
theorem q_2_21 : (Cond.methodLink RX0 3 objectInit) ∈ wsL_law := qL_2 (List.mem_of_getElem? (i := 21) rfl)
theorem q_2_22 : (Cond.fieldLink RX0 9 "ClaimJudge$Assumption" "lowest" "[I") ∈ wsL_law := qL_2 (List.mem_of_getElem? (i := 22) rfl)
theorem q_2_23 : (Cond.fieldLink RX0 15 "ClaimJudge$Assumption" "highest" "[I") ∈ wsL_law := qL_2 (List.mem_of_getElem? (i := 23) rfl)
theorem qL_3 {w : Cond} (h : w ∈ wsL_law0_r3) : w ∈ wsL_law := qL_app (List.mem_append_left _ (List.mem_append_left _ (List.mem_append_left _ (List.mem_append_left _ (List.mem_append_left _ (List.mem_append_left _ (List.mem_append_left _ (List.mem_append_left _ (List.mem_append_right _ (List.mem_append_right _ (List.mem_append_left _ h)))))))))))
theorem q_3_0 : (Cond.methodLink RX6 25 yX4_init) ∈ wsL_law := qL_3 (List.mem_of_getElem? (i := 0) rfl)
theorem q_3_1 : (Cond.instanceMethod yX4_init) ∈ wsL_law := qL_3 (List.mem_of_getElem? (i := 1) rfl)
theorem q_3_2 : (Cond.code yX4_init cX4_init 2 none) ∈ wsL_law := qL_3 (List.mem_of_getElem? (i := 2) rfl)
theorem q_3_3 : (Cond.methodLink RX4 3 objectInit) ∈ wsL_law := qL_3 (List.mem_of_getElem? (i := 3) rfl)
theorem q_3_4 : (Cond.fieldLink RX4 9 "ClaimJudge$Runs" "ends" "[I") ∈ wsL_law := qL_3 (List.mem_of_getElem? (i := 4) rfl)
theorem q_3_5 : (Cond.fieldLink RX4 15 "ClaimJudge$Runs" "stale" "Z") ∈ wsL_law := qL_3 (List.mem_of_getElem? (i := 5) rfl)
theorem q_3_6 : (Cond.fieldLink RX4 19 "ClaimJudge$Runs" "program" "LClaimJudge$Program;") ∈ wsL_law := qL_3 (List.mem_of_getElem? (i := 6) rfl)
theorem q_3_7 : (Cond.methodLink RX6 34 yX2_init) ∈ wsL_law := qL_3 (List.mem_of_getElem? (i := 7) rfl)
theorem q_3_8 : (Cond.instanceMethod yX2_init) ∈ wsL_law := qL_3 (List.mem_of_getElem? (i := 8) rfl)
theorem q_3_9 : (Cond.code yX2_init cX2_init 4 none) ∈ wsL_law := qL_3 (List.mem_of_getElem? (i := 9) rfl)
theorem q_3_10 : (Cond.methodLink RX2 3 objectInit) ∈ wsL_law := qL_3 (List.mem_of_getElem? (i := 10) rfl)
theorem q_3_11 : (Cond.fieldLink RX2 9 "ClaimJudge$Judgement" "examples" "[I") ∈ wsL_law := qL_3 (List.mem_of_getElem? (i := 11) rfl)
theorem q_3_12 : (Cond.fieldLink RX2 15 "ClaimJudge$Judgement" "lows" "[I") ∈ wsL_law := qL_3 (List.mem_of_getElem? (i := 12) rfl)
theorem q_3_13 : (Cond.fieldLink RX2 18 "ClaimJudge$Judgement" "highs" "[I") ∈ wsL_law := qL_3 (List.mem_of_getElem? (i := 13) rfl)
theorem q_3_14 : (Cond.arrayClass .long) ∈ wsL_law := qL_3 (List.mem_of_getElem? (i := 14) rfl)
theorem q_3_15 : (Cond.fieldLink RX2 21 "ClaimJudge$Judgement" "visited" "[J") ∈ wsL_law := qL_3 (List.mem_of_getElem? (i := 15) rfl)
theorem q_3_16 : (Cond.fieldLink RX2 25 "ClaimJudge$Judgement" "stale" "Z") ∈ wsL_law := qL_3 (List.mem_of_getElem? (i := 16) rfl)
theorem q_3_17 : (Cond.fieldLink RX2 29 "ClaimJudge$Judgement" "program" "LClaimJudge$Program;") ∈ wsL_law := qL_3 (List.mem_of_getElem? (i := 17) rfl)
theorem q_3_18 : (Cond.fieldLink RX2 33 "ClaimJudge$Judgement" "assumption" "LClaimJudge$Assumption;") ∈ wsL_law := qL_3 (List.mem_of_getElem? (i := 18) rfl)
theorem q_3_19 : (Cond.fieldLink RX2 37 "ClaimJudge$Judgement" "runs" "LClaimJudge$Runs;") ∈ wsL_law := qL_3 (List.mem_of_getElem? (i := 19) rfl)
theorem q_3_20 : (Cond.methodLink RX6 43 yX1_init) ∈ wsL_law := qL_3 (List.mem_of_getElem? (i := 20) rfl)
theorem q_3_21 : (Cond.instanceMethod yX1_init) ∈ wsL_law := qL_3 (List.mem_of_getElem? (i := 21) rfl)
theorem q_3_22 : (Cond.code yX1_init cX1_init 2 none) ∈ wsL_law := qL_3 (List.mem_of_getElem? (i := 22) rfl)
theorem q_3_23 : (Cond.methodLink RX1 3 objectInit) ∈ wsL_law := qL_3 (List.mem_of_getElem? (i := 23) rfl)
theorem qL_4 {w : Cond} (h : w ∈ wsL_law0_r4) : w ∈ wsL_law := qL_app (List.mem_append_left _ (List.mem_append_left _ (List.mem_append_left _ (List.mem_append_left _ (List.mem_append_left _ (List.mem_append_left _ (List.mem_append_left _ (List.mem_append_left _ (List.mem_append_right _ (List.mem_append_right _ (List.mem_append_right _ (List.mem_append_left _ h))))))))))))
theorem q_4_0 : (Cond.classLink RX1 9 RX3) ∈ wsL_law := qL_4 (List.mem_of_getElem? (i := 0) rfl)
theorem q_4_1 : (Cond.fieldLink RX1 11 "ClaimJudge$History" "programs" "[LClaimJudge$Program;") ∈ wsL_law := qL_4 (List.mem_of_getElem? (i := 1) rfl)
theorem q_4_2 : (Cond.classLink RX1 17 RX0) ∈ wsL_law := qL_4 (List.mem_of_getElem? (i := 2) rfl)
theorem q_4_3 : (Cond.fieldLink RX1 19 "ClaimJudge$History" "assumptions" "[LClaimJudge$Assumption;") ∈ wsL_law := qL_4 (List.mem_of_getElem? (i := 3) rfl)
theorem q_4_4 : (Cond.instanceMethod yX5_init) ∈ wsL_law := qL_4 (List.mem_of_getElem? (i := 4) rfl)
theorem q_4_5 : (Cond.code yX5_init cX5_init 1 none) ∈ wsL_law := qL_4 (List.mem_of_getElem? (i := 5) rfl)
theorem q_4_6 : (Cond.methodLink RX5 3 objectInit) ∈ wsL_law := qL_4 (List.mem_of_getElem? (i := 6) rfl)
theorem q_4_7 : (Cond.arrayClass .char) ∈ wsL_law := qL_4 (List.mem_of_getElem? (i := 7) rfl)
theorem q_4_8 : (Cond.fieldLink RX5 9 "ClaimJudge$Text" "characters" "[C") ∈ wsL_law := qL_4 (List.mem_of_getElem? (i := 8) rfl)
theorem q_4_9 : (Cond.classLink RX5 15 RX3) ∈ wsL_law := qL_4 (List.mem_of_getElem? (i := 9) rfl)
theorem q_4_10 : (Cond.fieldLink RX5 18 "ClaimJudge$Text" "loaded" "LClaimJudge$Program;") ∈ wsL_law := qL_4 (List.mem_of_getElem? (i := 10) rfl)
theorem q_4_11 : (Cond.methodLink RL 40 yL_cell) ∈ wsL_law := qL_4 (List.mem_of_getElem? (i := 11) rfl)
theorem q_4_12 : (Cond.static yL_cell) ∈ wsL_law := qL_4 (List.mem_of_getElem? (i := 12) rfl)
theorem q_4_13 : (Cond.initialized RL) ∈ wsL_law := qL_4 (List.mem_of_getElem? (i := 13) rfl)
theorem q_4_14 : (Cond.code yL_cell cL_cell 2 (some .int)) ∈ wsL_law := qL_4 (List.mem_of_getElem? (i := 14) rfl)
theorem q_4_15 : (Cond.methodLink RL 106 yX6_savedStates) ∈ wsL_law := qL_4 (List.mem_of_getElem? (i := 15) rfl)
theorem q_4_16 : (Cond.instanceMethod yX6_savedStates) ∈ wsL_law := qL_4 (List.mem_of_getElem? (i := 16) rfl)
theorem q_4_17 : (Cond.selects RX6 yX6_savedStates yX6_savedStates) ∈ wsL_law := qL_4 (List.mem_of_getElem? (i := 17) rfl)
theorem q_4_18 : (Cond.code yX6_savedStates cX6_savedStates 1 (some .int)) ∈ wsL_law := qL_4 (List.mem_of_getElem? (i := 18) rfl)
theorem q_4_19 : (Cond.methodLink RL 109 yL_act) ∈ wsL_law := qL_4 (List.mem_of_getElem? (i := 19) rfl)
theorem q_4_20 : (Cond.static yL_act) ∈ wsL_law := qL_4 (List.mem_of_getElem? (i := 20) rfl)
theorem q_4_21 : (Cond.code yL_act cL_act 13 (some .int)) ∈ wsL_law := qL_4 (List.mem_of_getElem? (i := 21) rfl)
theorem q_4_22 : (Cond.methodLink RL 30 yL_low) ∈ wsL_law := qL_4 (List.mem_of_getElem? (i := 22) rfl)
theorem q_4_23 : (Cond.static yL_low) ∈ wsL_law := qL_4 (List.mem_of_getElem? (i := 23) rfl)
theorem qL_5 {w : Cond} (h : w ∈ wsL_law0_r5) : w ∈ wsL_law := qL_app (List.mem_append_left _ (List.mem_append_left _ (List.mem_append_left _ (List.mem_append_left _ (List.mem_append_left _ (List.mem_append_left _ (List.mem_append_left _ (List.mem_append_left _ (List.mem_append_right _ (List.mem_append_right _ (List.mem_append_right _ (List.mem_append_right _ (List.mem_append_left _ h)))))))))))))
theorem q_5_0 : (Cond.code yL_low cL_low 2 (some .int)) ∈ wsL_law := qL_5 (List.mem_of_getElem? (i := 0) rfl)
theorem q_5_1 : (Cond.constant RL 7 (2147483647)) ∈ wsL_law := qL_5 (List.mem_of_getElem? (i := 1) rfl)
theorem q_5_2 : (Cond.methodLink RL 44 yX6_statements) ∈ wsL_law := qL_5 (List.mem_of_getElem? (i := 2) rfl)
theorem q_5_3 : (Cond.instanceMethod yX6_statements) ∈ wsL_law := qL_5 (List.mem_of_getElem? (i := 3) rfl)
theorem q_5_4 : (Cond.selects RX6 yX6_statements yX6_statements) ∈ wsL_law := qL_5 (List.mem_of_getElem? (i := 4) rfl)
theorem q_5_5 : (Cond.code yX6_statements cX6_statements 1 (some .int)) ∈ wsL_law := qL_5 (List.mem_of_getElem? (i := 5) rfl)
theorem q_5_6 : (Cond.methodLink RL 36 yX6_append) ∈ wsL_law := qL_5 (List.mem_of_getElem? (i := 6) rfl)
theorem q_5_7 : (Cond.instanceMethod yX6_append) ∈ wsL_law := qL_5 (List.mem_of_getElem? (i := 7) rfl)
theorem q_5_8 : (Cond.selects RX6 yX6_append yX6_append) ∈ wsL_law := qL_5 (List.mem_of_getElem? (i := 8) rfl)
theorem q_5_9 : (Cond.code yX6_append cX6_append 2 (some .int)) ∈ wsL_law := qL_5 (List.mem_of_getElem? (i := 9) rfl)
theorem q_5_10 : (Cond.classLink RX6 70 "java/lang/IllegalArgumentException") ∈ wsL_law := qL_5 (List.mem_of_getElem? (i := 10) rfl)
theorem q_5_11 : (Cond.initialized "java/lang/IllegalArgumentException") ∈ wsL_law := qL_5 (List.mem_of_getElem? (i := 11) rfl)
theorem q_5_12 : (Cond.classLink RX6 98 "java/lang/IllegalStateException") ∈ wsL_law := qL_5 (List.mem_of_getElem? (i := 12) rfl)
theorem q_5_13 : (Cond.initialized "java/lang/IllegalStateException") ∈ wsL_law := qL_5 (List.mem_of_getElem? (i := 13) rfl)
theorem q_5_14 : (Cond.methodLink RX6 191 yX5_put) ∈ wsL_law := qL_5 (List.mem_of_getElem? (i := 14) rfl)
theorem q_5_15 : (Cond.instanceMethod yX5_put) ∈ wsL_law := qL_5 (List.mem_of_getElem? (i := 15) rfl)
theorem q_5_16 : (Cond.selects RX5 yX5_put yX5_put) ∈ wsL_law := qL_5 (List.mem_of_getElem? (i := 16) rfl)
theorem q_5_17 : (Cond.code yX5_put cX5_put 2 none) ∈ wsL_law := qL_5 (List.mem_of_getElem? (i := 17) rfl)
theorem q_5_18 : (Cond.fieldLink RX5 22 "ClaimJudge$Text" "length" "I") ∈ wsL_law := qL_5 (List.mem_of_getElem? (i := 18) rfl)
theorem q_5_19 : (Cond.methodLink RL 47 yL_typed) ∈ wsL_law := qL_5 (List.mem_of_getElem? (i := 19) rfl)
theorem q_5_20 : (Cond.static yL_typed) ∈ wsL_law := qL_5 (List.mem_of_getElem? (i := 20) rfl)
theorem q_5_21 : (Cond.code yL_typed cL_typed 7 (some .int)) ∈ wsL_law := qL_5 (List.mem_of_getElem? (i := 21) rfl)
theorem q_5_22 : (Cond.methodLink RL 51 yL_changes) ∈ wsL_law := qL_5 (List.mem_of_getElem? (i := 22) rfl)
theorem q_5_23 : (Cond.static yL_changes) ∈ wsL_law := qL_5 (List.mem_of_getElem? (i := 23) rfl)
theorem qL_6 {w : Cond} (h : w ∈ wsL_law0_r6) : w ∈ wsL_law := qL_app (List.mem_append_left _ (List.mem_append_left _ (List.mem_append_left _ (List.mem_append_left _ (List.mem_append_left _ (List.mem_append_left _ (List.mem_append_left _ (List.mem_append_left _ (List.mem_append_right _ (List.mem_append_right _ (List.mem_append_right _ (List.mem_append_right _ (List.mem_append_right _ (List.mem_append_left _ h))))))))))))))
theorem q_6_0 : (Cond.codeWith yL_changes cL_changes 7 (some .int) [(0, 47, 50, 24), (0, 47, 54, 26), (0, 47, 58, 28)]) ∈ wsL_law := qL_6 (List.mem_of_getElem? (i := 0) rfl)
theorem q_6_1 : (Cond.classLink RL 24 "java/lang/IndexOutOfBoundsException") ∈ wsL_law := qL_6 (List.mem_of_getElem? (i := 1) rfl)
theorem q_6_2 : (Cond.classLink RL 26 "java/lang/IllegalArgumentException") ∈ wsL_law := qL_6 (List.mem_of_getElem? (i := 2) rfl)
theorem q_6_3 : (Cond.classLink RL 28 "java/lang/IllegalStateException") ∈ wsL_law := qL_6 (List.mem_of_getElem? (i := 3) rfl)
theorem q_6_4 : (Cond.methodLink RL 8 yX6_load) ∈ wsL_law := qL_6 (List.mem_of_getElem? (i := 4) rfl)
theorem q_6_5 : (Cond.instanceMethod yX6_load) ∈ wsL_law := qL_6 (List.mem_of_getElem? (i := 5) rfl)
theorem q_6_6 : (Cond.selects RX6 yX6_load yX6_load) ∈ wsL_law := qL_6 (List.mem_of_getElem? (i := 6) rfl)
theorem q_6_7 : (Cond.code yX6_load cX6_load 2 (some .int)) ∈ wsL_law := qL_6 (List.mem_of_getElem? (i := 7) rfl)
theorem q_6_8 : (Cond.methodLink RX6 58 yX5_readAll) ∈ wsL_law := qL_6 (List.mem_of_getElem? (i := 8) rfl)
theorem q_6_9 : (Cond.instanceMethod yX5_readAll) ∈ wsL_law := qL_6 (List.mem_of_getElem? (i := 9) rfl)
theorem q_6_10 : (Cond.selects RX5 yX5_readAll yX5_readAll) ∈ wsL_law := qL_6 (List.mem_of_getElem? (i := 10) rfl)
theorem q_6_11 : (Cond.code yX5_readAll cX5_readAll 2 (some .boolean)) ∈ wsL_law := qL_6 (List.mem_of_getElem? (i := 11) rfl)
theorem q_6_12 : (Cond.fieldLink RX5 26 "ClaimJudge$Text" "at" "I") ∈ wsL_law := qL_6 (List.mem_of_getElem? (i := 12) rfl)
theorem q_6_13 : (Cond.methodLink RX5 29 yX3_clear) ∈ wsL_law := qL_6 (List.mem_of_getElem? (i := 13) rfl)
theorem q_6_14 : (Cond.instanceMethod yX3_clear) ∈ wsL_law := qL_6 (List.mem_of_getElem? (i := 14) rfl)
theorem q_6_15 : (Cond.selects RX3 yX3_clear yX3_clear) ∈ wsL_law := qL_6 (List.mem_of_getElem? (i := 15) rfl)
theorem q_6_16 : (Cond.code yX3_clear cX3_clear 1 none) ∈ wsL_law := qL_6 (List.mem_of_getElem? (i := 16) rfl)
theorem q_6_17 : (Cond.fieldLink RX3 30 "ClaimJudge$Program" "size" "I") ∈ wsL_law := qL_6 (List.mem_of_getElem? (i := 17) rfl)
theorem q_6_18 : (Cond.methodLink RX5 32 yX5_takeStatement) ∈ wsL_law := qL_6 (List.mem_of_getElem? (i := 18) rfl)
theorem q_6_19 : (Cond.instanceMethod yX5_takeStatement) ∈ wsL_law := qL_6 (List.mem_of_getElem? (i := 19) rfl)
theorem q_6_20 : (Cond.selects RX5 yX5_takeStatement yX5_takeStatement) ∈ wsL_law := qL_6 (List.mem_of_getElem? (i := 20) rfl)
theorem q_6_21 : (Cond.code yX5_takeStatement cX5_takeStatement 1 (some .boolean)) ∈ wsL_law := qL_6 (List.mem_of_getElem? (i := 21) rfl)
theorem q_6_22 : (Cond.fieldLink RX5 40 "ClaimJudge$Text" "sign" "I") ∈ wsL_law := qL_6 (List.mem_of_getElem? (i := 22) rfl)
theorem q_6_23 : (Cond.fieldLink RX5 43 "ClaimJudge$Text" "addend" "I") ∈ wsL_law := qL_6 (List.mem_of_getElem? (i := 23) rfl)
theorem qL_7 {w : Cond} (h : w ∈ wsL_law0_r7) : w ∈ wsL_law := qL_app (List.mem_append_left _ (List.mem_append_left _ (List.mem_append_left _ (List.mem_append_left _ (List.mem_append_left _ (List.mem_append_left _ (List.mem_append_left _ (List.mem_append_left _ (List.mem_append_right _ (List.mem_append_right _ (List.mem_append_right _ (List.mem_append_right _ (List.mem_append_right _ (List.mem_append_right _ (List.mem_append_left _ h)))))))))))))))
theorem q_7_0 : (Cond.fieldLink RX5 46 "ClaimJudge$Text" "goal" "I") ∈ wsL_law := qL_7 (List.mem_of_getElem? (i := 0) rfl)
theorem q_7_1 : (Cond.methodLink RX5 36 yX5_take) ∈ wsL_law := qL_7 (List.mem_of_getElem? (i := 1) rfl)
theorem q_7_2 : (Cond.instanceMethod yX5_take) ∈ wsL_law := qL_7 (List.mem_of_getElem? (i := 2) rfl)
theorem q_7_3 : (Cond.selects RX5 yX5_take yX5_take) ∈ wsL_law := qL_7 (List.mem_of_getElem? (i := 3) rfl)
theorem q_7_4 : (Cond.code yX5_take cX5_take 2 (some .boolean)) ∈ wsL_law := qL_7 (List.mem_of_getElem? (i := 4) rfl)
theorem q_7_5 : (Cond.methodLink RX5 83 yX5_next) ∈ wsL_law := qL_7 (List.mem_of_getElem? (i := 5) rfl)
theorem q_7_6 : (Cond.instanceMethod yX5_next) ∈ wsL_law := qL_7 (List.mem_of_getElem? (i := 6) rfl)
theorem q_7_7 : (Cond.selects RX5 yX5_next yX5_next) ∈ wsL_law := qL_7 (List.mem_of_getElem? (i := 7) rfl)
theorem q_7_8 : (Cond.code yX5_next cX5_next 1 (some .char)) ∈ wsL_law := qL_7 (List.mem_of_getElem? (i := 8) rfl)
theorem q_7_9 : (Cond.methodLink RX5 49 yX5_takeTest) ∈ wsL_law := qL_7 (List.mem_of_getElem? (i := 9) rfl)
theorem q_7_10 : (Cond.instanceMethod yX5_takeTest) ∈ wsL_law := qL_7 (List.mem_of_getElem? (i := 10) rfl)
theorem q_7_11 : (Cond.selects RX5 yX5_takeTest yX5_takeTest) ∈ wsL_law := qL_7 (List.mem_of_getElem? (i := 11) rfl)
theorem q_7_12 : (Cond.code yX5_takeTest cX5_takeTest 1 (some .boolean)) ∈ wsL_law := qL_7 (List.mem_of_getElem? (i := 12) rfl)
theorem q_7_13 : (Cond.methodLink RX5 59 yX5_takeVariable) ∈ wsL_law := qL_7 (List.mem_of_getElem? (i := 13) rfl)
theorem q_7_14 : (Cond.instanceMethod yX5_takeVariable) ∈ wsL_law := qL_7 (List.mem_of_getElem? (i := 14) rfl)
theorem q_7_15 : (Cond.selects RX5 yX5_takeVariable yX5_takeVariable) ∈ wsL_law := qL_7 (List.mem_of_getElem? (i := 15) rfl)
theorem q_7_16 : (Cond.code yX5_takeVariable cX5_takeVariable 2 (some .boolean)) ∈ wsL_law := qL_7 (List.mem_of_getElem? (i := 16) rfl)
theorem q_7_17 : (Cond.fieldLink RX5 68 "ClaimJudge$Text" "variable" "I") ∈ wsL_law := qL_7 (List.mem_of_getElem? (i := 17) rfl)
theorem q_7_18 : (Cond.methodLink RX5 87 yJ0_indexOf_0f7a4) ∈ wsL_law := qL_7 (List.mem_of_getElem? (i := 18) rfl)
theorem q_7_19 : (Cond.instanceMethod yJ0_indexOf_0f7a4) ∈ wsL_law := qL_7 (List.mem_of_getElem? (i := 19) rfl)
theorem q_7_20 : (Cond.selects RJ0 yJ0_indexOf_0f7a4 yJ0_indexOf_0f7a4) ∈ wsL_law := qL_7 (List.mem_of_getElem? (i := 20) rfl)
theorem q_7_21 : (Cond.initialized RJ0) ∈ wsL_law := qL_7 (List.mem_of_getElem? (i := 21) rfl)
theorem q_7_22 : (Cond.code yJ0_indexOf_0f7a4 cJ0_indexOf_0f7a4 2 (some .int)) ∈ wsL_law := qL_7 (List.mem_of_getElem? (i := 22) rfl)
theorem q_7_23 : (Cond.methodLink RJ0 633 yJ0_indexOf_7cf53) ∈ wsL_law := qL_7 (List.mem_of_getElem? (i := 23) rfl)
theorem qL_8 {w : Cond} (h : w ∈ wsL_law0_r8) : w ∈ wsL_law := qL_app (List.mem_append_left _ (List.mem_append_left _ (List.mem_append_left _ (List.mem_append_left _ (List.mem_append_left _ (List.mem_append_left _ (List.mem_append_left _ (List.mem_append_left _ (List.mem_append_right _ (List.mem_append_right _ (List.mem_append_right _ (List.mem_append_right _ (List.mem_append_right _ (List.mem_append_right _ (List.mem_append_right _ (List.mem_append_left _ h))))))))))))))))
theorem q_8_0 : (Cond.instanceMethod yJ0_indexOf_7cf53) ∈ wsL_law := qL_8 (List.mem_of_getElem? (i := 0) rfl)
theorem q_8_1 : (Cond.selects RJ0 yJ0_indexOf_7cf53 yJ0_indexOf_7cf53) ∈ wsL_law := qL_8 (List.mem_of_getElem? (i := 1) rfl)
theorem q_8_2 : (Cond.code yJ0_indexOf_7cf53 cJ0_indexOf_7cf53 3 (some .int)) ∈ wsL_law := qL_8 (List.mem_of_getElem? (i := 2) rfl)
theorem q_8_3 : (Cond.fieldLink RJ0 9 "java/lang/String" "value" "[B") ∈ wsL_law := qL_8 (List.mem_of_getElem? (i := 3) rfl)
theorem q_8_4 : (Cond.methodLink RJ0 492 yJ0_isLatin1_aae02) ∈ wsL_law := qL_8 (List.mem_of_getElem? (i := 4) rfl)
theorem q_8_5 : (Cond.instanceMethod yJ0_isLatin1_aae02) ∈ wsL_law := qL_8 (List.mem_of_getElem? (i := 5) rfl)
theorem q_8_6 : (Cond.selects RJ0 yJ0_isLatin1_aae02 yJ0_isLatin1_aae02) ∈ wsL_law := qL_8 (List.mem_of_getElem? (i := 6) rfl)
theorem q_8_7 : (Cond.code yJ0_isLatin1_aae02 cJ0_isLatin1_aae02 1 (some .boolean)) ∈ wsL_law := qL_8 (List.mem_of_getElem? (i := 7) rfl)
theorem q_8_8 : (Cond.fieldLink RJ0 38 "java/lang/String" "COMPACT_STRINGS" "Z") ∈ wsL_law := qL_8 (List.mem_of_getElem? (i := 8) rfl)
theorem q_8_9 : (Cond.fieldLink RJ0 15 "java/lang/String" "coder" "B") ∈ wsL_law := qL_8 (List.mem_of_getElem? (i := 9) rfl)
theorem q_8_10 : (Cond.methodLink RJ0 505 yJ0_length_8abf5) ∈ wsL_law := qL_8 (List.mem_of_getElem? (i := 10) rfl)
theorem q_8_11 : (Cond.instanceMethod yJ0_length_8abf5) ∈ wsL_law := qL_8 (List.mem_of_getElem? (i := 11) rfl)
theorem q_8_12 : (Cond.selects RJ0 yJ0_length_8abf5 yJ0_length_8abf5) ∈ wsL_law := qL_8 (List.mem_of_getElem? (i := 12) rfl)
theorem q_8_13 : (Cond.code yJ0_length_8abf5 cJ0_length_8abf5 1 (some .int)) ∈ wsL_law := qL_8 (List.mem_of_getElem? (i := 13) rfl)
theorem q_8_14 : (Cond.methodLink RJ0 335 yJ0_coder_7d493) ∈ wsL_law := qL_8 (List.mem_of_getElem? (i := 14) rfl)
theorem q_8_15 : (Cond.instanceMethod yJ0_coder_7d493) ∈ wsL_law := qL_8 (List.mem_of_getElem? (i := 15) rfl)
theorem q_8_16 : (Cond.selects RJ0 yJ0_coder_7d493 yJ0_coder_7d493) ∈ wsL_law := qL_8 (List.mem_of_getElem? (i := 16) rfl)
theorem q_8_17 : (Cond.code yJ0_coder_7d493 cJ0_coder_7d493 1 (some .byte)) ∈ wsL_law := qL_8 (List.mem_of_getElem? (i := 17) rfl)
theorem q_8_18 : (Cond.methodLink RJ0 637 yJ1_indexOf_4cfef) ∈ wsL_law := qL_8 (List.mem_of_getElem? (i := 18) rfl)
theorem q_8_19 : (Cond.static yJ1_indexOf_4cfef) ∈ wsL_law := qL_8 (List.mem_of_getElem? (i := 19) rfl)
theorem q_8_20 : (Cond.initialized RJ1) ∈ wsL_law := qL_8 (List.mem_of_getElem? (i := 20) rfl)
theorem q_8_21 : (Cond.code yJ1_indexOf_4cfef cJ1_indexOf_4cfef 4 (some .int)) ∈ wsL_law := qL_8 (List.mem_of_getElem? (i := 21) rfl)
theorem q_8_22 : (Cond.methodLink RJ1 92 Lib.Math.max.name) ∈ wsL_law := qL_8 (List.mem_of_getElem? (i := 22) rfl)
theorem q_8_23 : (Cond.static Lib.Math.max.name) ∈ wsL_law := qL_8 (List.mem_of_getElem? (i := 23) rfl)
theorem qL_9 {w : Cond} (h : w ∈ wsL_law0_r9) : w ∈ wsL_law := qL_app (List.mem_append_left _ (List.mem_append_left _ (List.mem_append_left _ (List.mem_append_left _ (List.mem_append_left _ (List.mem_append_left _ (List.mem_append_left _ (List.mem_append_left _ (List.mem_append_right _ (List.mem_append_right _ (List.mem_append_right _ (List.mem_append_right _ (List.mem_append_right _ (List.mem_append_right _ (List.mem_append_right _ (List.mem_append_right _ (List.mem_append_left _ h)))))))))))))))))
theorem q_9_0 : (Cond.initialized "java/lang/Math") ∈ wsL_law := qL_9 (List.mem_of_getElem? (i := 0) rfl)
theorem q_9_1 : (Cond.code Lib.Math.max.name Lib.Math.max.code 2 (some .int)) ∈ wsL_law := qL_9 (List.mem_of_getElem? (i := 1) rfl)
theorem q_9_2 : (Cond.methodLink RJ1 38 Lib.Math.min.name) ∈ wsL_law := qL_9 (List.mem_of_getElem? (i := 2) rfl)
theorem q_9_3 : (Cond.static Lib.Math.min.name) ∈ wsL_law := qL_9 (List.mem_of_getElem? (i := 3) rfl)
theorem q_9_4 : (Cond.code Lib.Math.min.name Lib.Math.min.code 2 (some .int)) ∈ wsL_law := qL_9 (List.mem_of_getElem? (i := 4) rfl)
theorem q_9_5 : (Cond.methodLink RJ1 88 yJ1_canEncode_9a6ad) ∈ wsL_law := qL_9 (List.mem_of_getElem? (i := 5) rfl)
theorem q_9_6 : (Cond.static yJ1_canEncode_9a6ad) ∈ wsL_law := qL_9 (List.mem_of_getElem? (i := 6) rfl)
theorem q_9_7 : (Cond.code yJ1_canEncode_9a6ad cJ1_canEncode_9a6ad 1 (some .boolean)) ∈ wsL_law := qL_9 (List.mem_of_getElem? (i := 7) rfl)
theorem q_9_8 : (Cond.methodLink RJ1 95 yJ1_indexOfChar_4cfef) ∈ wsL_law := qL_9 (List.mem_of_getElem? (i := 8) rfl)
theorem q_9_9 : (Cond.static yJ1_indexOfChar_4cfef) ∈ wsL_law := qL_9 (List.mem_of_getElem? (i := 9) rfl)
theorem q_9_10 : (Cond.code yJ1_indexOfChar_4cfef cJ1_indexOfChar_4cfef 6 (some .int)) ∈ wsL_law := qL_9 (List.mem_of_getElem? (i := 10) rfl)
theorem q_9_11 : (Cond.methodLink RJ0 640 yJ2_indexOf_4cfef) ∈ wsL_law := qL_9 (List.mem_of_getElem? (i := 11) rfl)
theorem q_9_12 : (Cond.static yJ2_indexOf_4cfef) ∈ wsL_law := qL_9 (List.mem_of_getElem? (i := 12) rfl)
theorem q_9_13 : (Cond.initialized RJ2) ∈ wsL_law := qL_9 (List.mem_of_getElem? (i := 13) rfl)
theorem q_9_14 : (Cond.code yJ2_indexOf_4cfef cJ2_indexOf_4cfef 4 (some .int)) ∈ wsL_law := qL_9 (List.mem_of_getElem? (i := 14) rfl)
theorem q_9_15 : (Cond.methodLink RJ2 224 Lib.Math.max.name) ∈ wsL_law := qL_9 (List.mem_of_getElem? (i := 15) rfl)
theorem q_9_16 : (Cond.methodLink RJ2 183 Lib.Math.min.name) ∈ wsL_law := qL_9 (List.mem_of_getElem? (i := 16) rfl)
theorem q_9_17 : (Cond.constant RJ2 227 (65536)) ∈ wsL_law := qL_9 (List.mem_of_getElem? (i := 17) rfl)
theorem q_9_18 : (Cond.methodLink RJ2 228 yJ2_indexOfChar_4cfef) ∈ wsL_law := qL_9 (List.mem_of_getElem? (i := 18) rfl)
theorem q_9_19 : (Cond.static yJ2_indexOfChar_4cfef) ∈ wsL_law := qL_9 (List.mem_of_getElem? (i := 19) rfl)
theorem q_9_20 : (Cond.code yJ2_indexOfChar_4cfef cJ2_indexOfChar_4cfef 4 (some .int)) ∈ wsL_law := qL_9 (List.mem_of_getElem? (i := 20) rfl)
theorem q_9_21 : (Cond.methodLink RJ2 96 yJ2_checkBoundsBeginEnd_d044e) ∈ wsL_law := qL_9 (List.mem_of_getElem? (i := 21) rfl)
theorem q_9_22 : (Cond.static yJ2_checkBoundsBeginEnd_d044e) ∈ wsL_law := qL_9 (List.mem_of_getElem? (i := 22) rfl)
theorem q_9_23 : (Cond.code yJ2_checkBoundsBeginEnd_d044e cJ2_checkBoundsBeginEnd_d044e 3 none) ∈ wsL_law := qL_9 (List.mem_of_getElem? (i := 23) rfl)
theorem qL_10 {w : Cond} (h : w ∈ wsL_law0_r10) : w ∈ wsL_law := qL_app (List.mem_append_left _ (List.mem_append_left _ (List.mem_append_left _ (List.mem_append_left _ (List.mem_append_left _ (List.mem_append_left _ (List.mem_append_left _ (List.mem_append_left _ (List.mem_append_right _ (List.mem_append_right _ (List.mem_append_right _ (List.mem_append_right _ (List.mem_append_right _ (List.mem_append_right _ (List.mem_append_right _ (List.mem_append_right _ (List.mem_append_right _ (List.mem_append_left _ h))))))))))))))))))
theorem q_10_0 : (Cond.methodLink RJ2 48 yJ2_length_9d52b) ∈ wsL_law := qL_10 (List.mem_of_getElem? (i := 0) rfl)
theorem q_10_1 : (Cond.static yJ2_length_9d52b) ∈ wsL_law := qL_10 (List.mem_of_getElem? (i := 1) rfl)
theorem q_10_2 : (Cond.code yJ2_length_9d52b cJ2_length_9d52b 1 (some .int)) ∈ wsL_law := qL_10 (List.mem_of_getElem? (i := 2) rfl)
theorem q_10_3 : (Cond.methodLink RJ2 241 yJ0_checkBoundsBeginEnd_23922) ∈ wsL_law := qL_10 (List.mem_of_getElem? (i := 3) rfl)
theorem q_10_4 : (Cond.static yJ0_checkBoundsBeginEnd_23922) ∈ wsL_law := qL_10 (List.mem_of_getElem? (i := 4) rfl)
theorem q_10_5 : (Cond.code yJ0_checkBoundsBeginEnd_23922 cJ0_checkBoundsBeginEnd_23922 3 none) ∈ wsL_law := qL_10 (List.mem_of_getElem? (i := 5) rfl)
theorem q_10_6 : (Cond.fieldLink RJ0 1053 "jdk/internal/util/Preconditions" "SIOOBE_FORMATTER" "Ljava/util/function/BiFunction;") ∈ wsL_law := qL_10 (List.mem_of_getElem? (i := 6) rfl)
theorem q_10_7 : (Cond.methodLink RJ0 1062 yJ3_checkFromToIndex_8c36e) ∈ wsL_law := qL_10 (List.mem_of_getElem? (i := 7) rfl)
theorem q_10_8 : (Cond.static yJ3_checkFromToIndex_8c36e) ∈ wsL_law := qL_10 (List.mem_of_getElem? (i := 8) rfl)
theorem q_10_9 : (Cond.initialized RJ3) ∈ wsL_law := qL_10 (List.mem_of_getElem? (i := 9) rfl)
theorem q_10_10 : (Cond.code yJ3_checkFromToIndex_8c36e cJ3_checkFromToIndex_8c36e 4 (some .int)) ∈ wsL_law := qL_10 (List.mem_of_getElem? (i := 10) rfl)
theorem q_10_11 : (Cond.methodLink RJ2 244 yJ2_indexOfCharUnsafe_4cfef) ∈ wsL_law := qL_10 (List.mem_of_getElem? (i := 11) rfl)
theorem q_10_12 : (Cond.static yJ2_indexOfCharUnsafe_4cfef) ∈ wsL_law := qL_10 (List.mem_of_getElem? (i := 12) rfl)
theorem q_10_13 : (Cond.code yJ2_indexOfCharUnsafe_4cfef cJ2_indexOfCharUnsafe_4cfef 5 (some .int)) ∈ wsL_law := qL_10 (List.mem_of_getElem? (i := 13) rfl)
theorem q_10_14 : (Cond.methodLink RJ2 71 yJ2_getChar_3b067) ∈ wsL_law := qL_10 (List.mem_of_getElem? (i := 14) rfl)
theorem q_10_15 : (Cond.static yJ2_getChar_3b067) ∈ wsL_law := qL_10 (List.mem_of_getElem? (i := 15) rfl)
theorem q_10_16 : (Cond.code yJ2_getChar_3b067 cJ2_getChar_3b067 2 (some .char)) ∈ wsL_law := qL_10 (List.mem_of_getElem? (i := 16) rfl)
theorem q_10_17 : (Cond.fieldLink RJ2 44 "java/lang/StringUTF16" "$assertionsDisabled" "Z") ∈ wsL_law := qL_10 (List.mem_of_getElem? (i := 17) rfl)
theorem q_10_18 : (Cond.fieldLink RJ2 59 "java/lang/StringUTF16" "HI_BYTE_SHIFT" "I") ∈ wsL_law := qL_10 (List.mem_of_getElem? (i := 18) rfl)
theorem q_10_19 : (Cond.fieldLink RJ2 63 "java/lang/StringUTF16" "LO_BYTE_SHIFT" "I") ∈ wsL_law := qL_10 (List.mem_of_getElem? (i := 19) rfl)
theorem q_10_20 : (Cond.methodLink RJ2 232 yJ2_indexOfSupplementary_4cfef) ∈ wsL_law := qL_10 (List.mem_of_getElem? (i := 20) rfl)
theorem q_10_21 : (Cond.static yJ2_indexOfSupplementary_4cfef) ∈ wsL_law := qL_10 (List.mem_of_getElem? (i := 21) rfl)
theorem q_10_22 : (Cond.code yJ2_indexOfSupplementary_4cfef cJ2_indexOfSupplementary_4cfef 7 (some .int)) ∈ wsL_law := qL_10 (List.mem_of_getElem? (i := 22) rfl)
theorem q_10_23 : (Cond.methodLink RJ2 164 yJ11_isValidCodePoint_9a6ad) ∈ wsL_law := qL_10 (List.mem_of_getElem? (i := 23) rfl)
theorem qL_11 {w : Cond} (h : w ∈ wsL_law0_r11) : w ∈ wsL_law := qL_app (List.mem_append_left _ (List.mem_append_left _ (List.mem_append_left _ (List.mem_append_left _ (List.mem_append_left _ (List.mem_append_left _ (List.mem_append_left _ (List.mem_append_left _ (List.mem_append_right _ (List.mem_append_right _ (List.mem_append_right _ (List.mem_append_right _ (List.mem_append_right _ (List.mem_append_right _ (List.mem_append_right _ (List.mem_append_right _ (List.mem_append_right _ (List.mem_append_right _ (List.mem_append_left _ h)))))))))))))))))))
theorem q_11_0 : (Cond.static yJ11_isValidCodePoint_9a6ad) ∈ wsL_law := qL_11 (List.mem_of_getElem? (i := 0) rfl)
theorem q_11_1 : (Cond.initialized RJ11) ∈ wsL_law := qL_11 (List.mem_of_getElem? (i := 1) rfl)
theorem q_11_2 : (Cond.code yJ11_isValidCodePoint_9a6ad cJ11_isValidCodePoint_9a6ad 2 (some .boolean)) ∈ wsL_law := qL_11 (List.mem_of_getElem? (i := 2) rfl)
theorem q_11_3 : (Cond.methodLink RJ2 157 yJ11_highSurrogate_5068e) ∈ wsL_law := qL_11 (List.mem_of_getElem? (i := 3) rfl)
theorem q_11_4 : (Cond.static yJ11_highSurrogate_5068e) ∈ wsL_law := qL_11 (List.mem_of_getElem? (i := 4) rfl)
theorem q_11_5 : (Cond.code yJ11_highSurrogate_5068e cJ11_highSurrogate_5068e 1 (some .char)) ∈ wsL_law := qL_11 (List.mem_of_getElem? (i := 5) rfl)
theorem q_11_6 : (Cond.constant RJ11 110 (55232)) ∈ wsL_law := qL_11 (List.mem_of_getElem? (i := 6) rfl)
theorem q_11_7 : (Cond.methodLink RJ2 161 yJ11_lowSurrogate_5068e) ∈ wsL_law := qL_11 (List.mem_of_getElem? (i := 7) rfl)
theorem q_11_8 : (Cond.static yJ11_lowSurrogate_5068e) ∈ wsL_law := qL_11 (List.mem_of_getElem? (i := 8) rfl)
theorem q_11_9 : (Cond.code yJ11_lowSurrogate_5068e cJ11_lowSurrogate_5068e 1 (some .char)) ∈ wsL_law := qL_11 (List.mem_of_getElem? (i := 9) rfl)
theorem q_11_10 : (Cond.constant RJ11 76 (56320)) ∈ wsL_law := qL_11 (List.mem_of_getElem? (i := 10) rfl)
theorem q_11_11 : (Cond.methodLink RX5 78 yX5_takeSign) ∈ wsL_law := qL_11 (List.mem_of_getElem? (i := 11) rfl)
theorem q_11_12 : (Cond.instanceMethod yX5_takeSign) ∈ wsL_law := qL_11 (List.mem_of_getElem? (i := 12) rfl)
theorem q_11_13 : (Cond.selects RX5 yX5_takeSign yX5_takeSign) ∈ wsL_law := qL_11 (List.mem_of_getElem? (i := 13) rfl)
theorem q_11_14 : (Cond.code yX5_takeSign cX5_takeSign 2 (some .boolean)) ∈ wsL_law := qL_11 (List.mem_of_getElem? (i := 14) rfl)
theorem q_11_15 : (Cond.methodLink RX5 62 yX5_takeOperand) ∈ wsL_law := qL_11 (List.mem_of_getElem? (i := 15) rfl)
theorem q_11_16 : (Cond.instanceMethod yX5_takeOperand) ∈ wsL_law := qL_11 (List.mem_of_getElem? (i := 16) rfl)
theorem q_11_17 : (Cond.selects RX5 yX5_takeOperand yX5_takeOperand) ∈ wsL_law := qL_11 (List.mem_of_getElem? (i := 17) rfl)
theorem q_11_18 : (Cond.code yX5_takeOperand cX5_takeOperand 2 (some .boolean)) ∈ wsL_law := qL_11 (List.mem_of_getElem? (i := 18) rfl)
theorem q_11_19 : (Cond.fieldLink RX5 71 "ClaimJudge$Text" "operand" "I") ∈ wsL_law := qL_11 (List.mem_of_getElem? (i := 19) rfl)
theorem q_11_20 : (Cond.methodLink RX5 95 yX5_isDigitTo) ∈ wsL_law := qL_11 (List.mem_of_getElem? (i := 20) rfl)
theorem q_11_21 : (Cond.instanceMethod yX5_isDigitTo) ∈ wsL_law := qL_11 (List.mem_of_getElem? (i := 21) rfl)
theorem q_11_22 : (Cond.selects RX5 yX5_isDigitTo yX5_isDigitTo) ∈ wsL_law := qL_11 (List.mem_of_getElem? (i := 22) rfl)
theorem q_11_23 : (Cond.code yX5_isDigitTo cX5_isDigitTo 2 (some .boolean)) ∈ wsL_law := qL_11 (List.mem_of_getElem? (i := 23) rfl)
theorem qL_12 {w : Cond} (h : w ∈ wsL_law0_r12) : w ∈ wsL_law := qL_app (List.mem_append_left _ (List.mem_append_left _ (List.mem_append_left _ (List.mem_append_left _ (List.mem_append_left _ (List.mem_append_left _ (List.mem_append_left _ (List.mem_append_left _ (List.mem_append_right _ (List.mem_append_right _ (List.mem_append_right _ (List.mem_append_right _ (List.mem_append_right _ (List.mem_append_right _ (List.mem_append_right _ (List.mem_append_right _ (List.mem_append_right _ (List.mem_append_right _ (List.mem_append_right _ (List.mem_append_left _ h))))))))))))))))))))
theorem q_12_0 : (Cond.methodLink RX5 52 yX5_keep) ∈ wsL_law := qL_12 (List.mem_of_getElem? (i := 0) rfl)
theorem q_12_1 : (Cond.instanceMethod yX5_keep) ∈ wsL_law := qL_12 (List.mem_of_getElem? (i := 1) rfl)
theorem q_12_2 : (Cond.selects RX5 yX5_keep yX5_keep) ∈ wsL_law := qL_12 (List.mem_of_getElem? (i := 2) rfl)
theorem q_12_3 : (Cond.code yX5_keep cX5_keep 2 (some .boolean)) ∈ wsL_law := qL_12 (List.mem_of_getElem? (i := 3) rfl)
theorem q_12_4 : (Cond.methodLink RX5 74 yX3_put) ∈ wsL_law := qL_12 (List.mem_of_getElem? (i := 4) rfl)
theorem q_12_5 : (Cond.instanceMethod yX3_put) ∈ wsL_law := qL_12 (List.mem_of_getElem? (i := 5) rfl)
theorem q_12_6 : (Cond.selects RX3 yX3_put yX3_put) ∈ wsL_law := qL_12 (List.mem_of_getElem? (i := 6) rfl)
theorem q_12_7 : (Cond.code yX3_put cX3_put 7 none) ∈ wsL_law := qL_12 (List.mem_of_getElem? (i := 7) rfl)
theorem q_12_8 : (Cond.methodLink RX5 56 yX5_takeGoal) ∈ wsL_law := qL_12 (List.mem_of_getElem? (i := 8) rfl)
theorem q_12_9 : (Cond.instanceMethod yX5_takeGoal) ∈ wsL_law := qL_12 (List.mem_of_getElem? (i := 9) rfl)
theorem q_12_10 : (Cond.selects RX5 yX5_takeGoal yX5_takeGoal) ∈ wsL_law := qL_12 (List.mem_of_getElem? (i := 10) rfl)
theorem q_12_11 : (Cond.code yX5_takeGoal cX5_takeGoal 1 (some .boolean)) ∈ wsL_law := qL_12 (List.mem_of_getElem? (i := 11) rfl)
theorem q_12_12 : (Cond.methodLink RX5 65 yX5_takeAddend) ∈ wsL_law := qL_12 (List.mem_of_getElem? (i := 12) rfl)
theorem q_12_13 : (Cond.instanceMethod yX5_takeAddend) ∈ wsL_law := qL_12 (List.mem_of_getElem? (i := 13) rfl)
theorem q_12_14 : (Cond.selects RX5 yX5_takeAddend yX5_takeAddend) ∈ wsL_law := qL_12 (List.mem_of_getElem? (i := 14) rfl)
theorem q_12_15 : (Cond.code yX5_takeAddend cX5_takeAddend 2 (some .boolean)) ∈ wsL_law := qL_12 (List.mem_of_getElem? (i := 15) rfl)
theorem q_12_16 : (Cond.methodLink RX6 62 yX3_highestTarget) ∈ wsL_law := qL_12 (List.mem_of_getElem? (i := 16) rfl)
theorem q_12_17 : (Cond.instanceMethod yX3_highestTarget) ∈ wsL_law := qL_12 (List.mem_of_getElem? (i := 17) rfl)
theorem q_12_18 : (Cond.selects RX3 yX3_highestTarget yX3_highestTarget) ∈ wsL_law := qL_12 (List.mem_of_getElem? (i := 18) rfl)
theorem q_12_19 : (Cond.code yX3_highestTarget cX3_highestTarget 3 (some .int)) ∈ wsL_law := qL_12 (List.mem_of_getElem? (i := 19) rfl)
theorem q_12_20 : (Cond.methodLink RX3 45 Lib.Math.max.name) ∈ wsL_law := qL_12 (List.mem_of_getElem? (i := 20) rfl)
theorem q_12_21 : (Cond.methodLink RX6 77 yX6_saveState) ∈ wsL_law := qL_12 (List.mem_of_getElem? (i := 21) rfl)
theorem q_12_22 : (Cond.instanceMethod yX6_saveState) ∈ wsL_law := qL_12 (List.mem_of_getElem? (i := 22) rfl)
theorem q_12_23 : (Cond.selects RX6 yX6_saveState yX6_saveState) ∈ wsL_law := qL_12 (List.mem_of_getElem? (i := 23) rfl)
theorem qL_13 {w : Cond} (h : w ∈ wsL_law0_r13) : w ∈ wsL_law := qL_app (List.mem_append_left _ (List.mem_append_left _ (List.mem_append_left _ (List.mem_append_left _ (List.mem_append_left _ (List.mem_append_left _ (List.mem_append_left _ (List.mem_append_left _ (List.mem_append_right _ (List.mem_append_right _ (List.mem_append_right _ (List.mem_append_right _ (List.mem_append_right _ (List.mem_append_right _ (List.mem_append_right _ (List.mem_append_right _ (List.mem_append_right _ (List.mem_append_right _ (List.mem_append_right _ (List.mem_append_right _ (List.mem_append_left _ h)))))))))))))))))))))
theorem q_13_0 : (Cond.code yX6_saveState cX6_saveState 1 none) ∈ wsL_law := qL_13 (List.mem_of_getElem? (i := 0) rfl)
theorem q_13_1 : (Cond.methodLink RX6 250 yX1_save) ∈ wsL_law := qL_13 (List.mem_of_getElem? (i := 1) rfl)
theorem q_13_2 : (Cond.instanceMethod yX1_save) ∈ wsL_law := qL_13 (List.mem_of_getElem? (i := 2) rfl)
theorem q_13_3 : (Cond.selects RX1 yX1_save yX1_save) ∈ wsL_law := qL_13 (List.mem_of_getElem? (i := 3) rfl)
theorem q_13_4 : (Cond.code yX1_save cX1_save 4 none) ∈ wsL_law := qL_13 (List.mem_of_getElem? (i := 4) rfl)
theorem q_13_5 : (Cond.fieldLink RX1 25 "ClaimJudge$History" "count" "I") ∈ wsL_law := qL_13 (List.mem_of_getElem? (i := 5) rfl)
theorem q_13_6 : (Cond.fieldLink RX1 29 "ClaimJudge$History" "oldest" "I") ∈ wsL_law := qL_13 (List.mem_of_getElem? (i := 6) rfl)
theorem q_13_7 : (Cond.methodLink RX1 32 yX3_copyFrom) ∈ wsL_law := qL_13 (List.mem_of_getElem? (i := 7) rfl)
theorem q_13_8 : (Cond.instanceMethod yX3_copyFrom) ∈ wsL_law := qL_13 (List.mem_of_getElem? (i := 8) rfl)
theorem q_13_9 : (Cond.selects RX3 yX3_copyFrom yX3_copyFrom) ∈ wsL_law := qL_13 (List.mem_of_getElem? (i := 9) rfl)
theorem q_13_10 : (Cond.code yX3_copyFrom cX3_copyFrom 2 none) ∈ wsL_law := qL_13 (List.mem_of_getElem? (i := 10) rfl)
theorem q_13_11 : (Cond.methodLink RX3 38 yX3_clear) ∈ wsL_law := qL_13 (List.mem_of_getElem? (i := 11) rfl)
theorem q_13_12 : (Cond.methodLink RX3 41 yX3_putAll) ∈ wsL_law := qL_13 (List.mem_of_getElem? (i := 12) rfl)
theorem q_13_13 : (Cond.instanceMethod yX3_putAll) ∈ wsL_law := qL_13 (List.mem_of_getElem? (i := 13) rfl)
theorem q_13_14 : (Cond.selects RX3 yX3_putAll yX3_putAll) ∈ wsL_law := qL_13 (List.mem_of_getElem? (i := 14) rfl)
theorem q_13_15 : (Cond.code yX3_putAll cX3_putAll 3 none) ∈ wsL_law := qL_13 (List.mem_of_getElem? (i := 15) rfl)
theorem q_13_16 : (Cond.methodLink RX3 34 yX3_put) ∈ wsL_law := qL_13 (List.mem_of_getElem? (i := 16) rfl)
theorem q_13_17 : (Cond.methodLink RX1 36 yX0_copyFrom) ∈ wsL_law := qL_13 (List.mem_of_getElem? (i := 17) rfl)
theorem q_13_18 : (Cond.instanceMethod yX0_copyFrom) ∈ wsL_law := qL_13 (List.mem_of_getElem? (i := 18) rfl)
theorem q_13_19 : (Cond.selects RX0 yX0_copyFrom yX0_copyFrom) ∈ wsL_law := qL_13 (List.mem_of_getElem? (i := 19) rfl)
theorem q_13_20 : (Cond.code yX0_copyFrom cX0_copyFrom 3 none) ∈ wsL_law := qL_13 (List.mem_of_getElem? (i := 20) rfl)
theorem q_13_21 : (Cond.methodLink RX0 18 yX0_limit) ∈ wsL_law := qL_13 (List.mem_of_getElem? (i := 21) rfl)
theorem q_13_22 : (Cond.instanceMethod yX0_limit) ∈ wsL_law := qL_13 (List.mem_of_getElem? (i := 22) rfl)
theorem q_13_23 : (Cond.selects RX0 yX0_limit yX0_limit) ∈ wsL_law := qL_13 (List.mem_of_getElem? (i := 23) rfl)
theorem qL_14 {w : Cond} (h : w ∈ wsL_law0_r14) : w ∈ wsL_law := qL_app (List.mem_append_left _ (List.mem_append_left _ (List.mem_append_left _ (List.mem_append_left _ (List.mem_append_left _ (List.mem_append_left _ (List.mem_append_left _ (List.mem_append_left _ (List.mem_append_right _ (List.mem_append_right _ (List.mem_append_right _ (List.mem_append_right _ (List.mem_append_right _ (List.mem_append_right _ (List.mem_append_right _ (List.mem_append_right _ (List.mem_append_right _ (List.mem_append_right _ (List.mem_append_right _ (List.mem_append_right _ (List.mem_append_right _ (List.mem_append_left _ h))))))))))))))))))))))
theorem q_14_0 : (Cond.code yX0_limit cX0_limit 4 none) ∈ wsL_law := qL_14 (List.mem_of_getElem? (i := 0) rfl)
theorem q_14_1 : (Cond.methodLink RX6 80 yX3_copyFrom) ∈ wsL_law := qL_14 (List.mem_of_getElem? (i := 1) rfl)
theorem q_14_2 : (Cond.methodLink RX6 83 yX5_clear) ∈ wsL_law := qL_14 (List.mem_of_getElem? (i := 2) rfl)
theorem q_14_3 : (Cond.instanceMethod yX5_clear) ∈ wsL_law := qL_14 (List.mem_of_getElem? (i := 3) rfl)
theorem q_14_4 : (Cond.selects RX5 yX5_clear yX5_clear) ∈ wsL_law := qL_14 (List.mem_of_getElem? (i := 4) rfl)
theorem q_14_5 : (Cond.code yX5_clear cX5_clear 1 none) ∈ wsL_law := qL_14 (List.mem_of_getElem? (i := 5) rfl)
theorem q_14_6 : (Cond.methodLink RX6 86 yX6_forgetProgram) ∈ wsL_law := qL_14 (List.mem_of_getElem? (i := 6) rfl)
theorem q_14_7 : (Cond.instanceMethod yX6_forgetProgram) ∈ wsL_law := qL_14 (List.mem_of_getElem? (i := 7) rfl)
theorem q_14_8 : (Cond.selects RX6 yX6_forgetProgram yX6_forgetProgram) ∈ wsL_law := qL_14 (List.mem_of_getElem? (i := 8) rfl)
theorem q_14_9 : (Cond.code yX6_forgetProgram cX6_forgetProgram 1 none) ∈ wsL_law := qL_14 (List.mem_of_getElem? (i := 9) rfl)
theorem q_14_10 : (Cond.methodLink RX6 253 yX4_forget) ∈ wsL_law := qL_14 (List.mem_of_getElem? (i := 10) rfl)
theorem q_14_11 : (Cond.instanceMethod yX4_forget) ∈ wsL_law := qL_14 (List.mem_of_getElem? (i := 11) rfl)
theorem q_14_12 : (Cond.selects RX4 yX4_forget yX4_forget) ∈ wsL_law := qL_14 (List.mem_of_getElem? (i := 12) rfl)
theorem q_14_13 : (Cond.code yX4_forget cX4_forget 1 none) ∈ wsL_law := qL_14 (List.mem_of_getElem? (i := 13) rfl)
theorem q_14_14 : (Cond.methodLink RX6 148 yX2_forget) ∈ wsL_law := qL_14 (List.mem_of_getElem? (i := 14) rfl)
theorem q_14_15 : (Cond.instanceMethod yX2_forget) ∈ wsL_law := qL_14 (List.mem_of_getElem? (i := 15) rfl)
theorem q_14_16 : (Cond.selects RX2 yX2_forget yX2_forget) ∈ wsL_law := qL_14 (List.mem_of_getElem? (i := 16) rfl)
theorem q_14_17 : (Cond.code yX2_forget cX2_forget 1 none) ∈ wsL_law := qL_14 (List.mem_of_getElem? (i := 17) rfl)
theorem q_14_18 : (Cond.methodLink RL 14 yX6_add) ∈ wsL_law := qL_14 (List.mem_of_getElem? (i := 18) rfl)
theorem q_14_19 : (Cond.instanceMethod yX6_add) ∈ wsL_law := qL_14 (List.mem_of_getElem? (i := 19) rfl)
theorem q_14_20 : (Cond.selects RX6 yX6_add yX6_add) ∈ wsL_law := qL_14 (List.mem_of_getElem? (i := 20) rfl)
theorem q_14_21 : (Cond.code yX6_add cX6_add 2 (some .int)) ∈ wsL_law := qL_14 (List.mem_of_getElem? (i := 21) rfl)
theorem q_14_22 : (Cond.methodLink RX6 89 yX6_fitsBehind) ∈ wsL_law := qL_14 (List.mem_of_getElem? (i := 22) rfl)
theorem q_14_23 : (Cond.instanceMethod yX6_fitsBehind) ∈ wsL_law := qL_14 (List.mem_of_getElem? (i := 23) rfl)
theorem qL_15 {w : Cond} (h : w ∈ wsL_law0_r15) : w ∈ wsL_law := qL_app (List.mem_append_left _ (List.mem_append_left _ (List.mem_append_left _ (List.mem_append_left _ (List.mem_append_left _ (List.mem_append_left _ (List.mem_append_left _ (List.mem_append_left _ (List.mem_append_right _ (List.mem_append_right _ (List.mem_append_right _ (List.mem_append_right _ (List.mem_append_right _ (List.mem_append_right _ (List.mem_append_right _ (List.mem_append_right _ (List.mem_append_right _ (List.mem_append_right _ (List.mem_append_right _ (List.mem_append_right _ (List.mem_append_right _ (List.mem_append_right _ (List.mem_append_left _ h)))))))))))))))))))))))
theorem q_15_0 : (Cond.selects RX6 yX6_fitsBehind yX6_fitsBehind) ∈ wsL_law := qL_15 (List.mem_of_getElem? (i := 0) rfl)
theorem q_15_1 : (Cond.code yX6_fitsBehind cX6_fitsBehind 3 (some .boolean)) ∈ wsL_law := qL_15 (List.mem_of_getElem? (i := 1) rfl)
theorem q_15_2 : (Cond.methodLink RX6 95 yX3_putAll) ∈ wsL_law := qL_15 (List.mem_of_getElem? (i := 2) rfl)
theorem q_15_3 : (Cond.methodLink RL 17 yX6_removeLast) ∈ wsL_law := qL_15 (List.mem_of_getElem? (i := 3) rfl)
theorem q_15_4 : (Cond.instanceMethod yX6_removeLast) ∈ wsL_law := qL_15 (List.mem_of_getElem? (i := 4) rfl)
theorem q_15_5 : (Cond.selects RX6 yX6_removeLast yX6_removeLast) ∈ wsL_law := qL_15 (List.mem_of_getElem? (i := 5) rfl)
theorem q_15_6 : (Cond.code yX6_removeLast cX6_removeLast 1 (some .int)) ∈ wsL_law := qL_15 (List.mem_of_getElem? (i := 6) rfl)
theorem q_15_7 : (Cond.methodLink RX6 103 yX3_dropLast) ∈ wsL_law := qL_15 (List.mem_of_getElem? (i := 7) rfl)
theorem q_15_8 : (Cond.instanceMethod yX3_dropLast) ∈ wsL_law := qL_15 (List.mem_of_getElem? (i := 8) rfl)
theorem q_15_9 : (Cond.selects RX3 yX3_dropLast yX3_dropLast) ∈ wsL_law := qL_15 (List.mem_of_getElem? (i := 9) rfl)
theorem q_15_10 : (Cond.code yX3_dropLast cX3_dropLast 3 none) ∈ wsL_law := qL_15 (List.mem_of_getElem? (i := 10) rfl)
theorem q_15_11 : (Cond.methodLink RL 20 yX6_assume) ∈ wsL_law := qL_15 (List.mem_of_getElem? (i := 11) rfl)
theorem q_15_12 : (Cond.instanceMethod yX6_assume) ∈ wsL_law := qL_15 (List.mem_of_getElem? (i := 12) rfl)
theorem q_15_13 : (Cond.selects RX6 yX6_assume yX6_assume) ∈ wsL_law := qL_15 (List.mem_of_getElem? (i := 13) rfl)
theorem q_15_14 : (Cond.code yX6_assume cX6_assume 4 (some .int)) ∈ wsL_law := qL_15 (List.mem_of_getElem? (i := 14) rfl)
theorem q_15_15 : (Cond.methodLink RX6 106 yX6_checkIndex) ∈ wsL_law := qL_15 (List.mem_of_getElem? (i := 15) rfl)
theorem q_15_16 : (Cond.static yX6_checkIndex) ∈ wsL_law := qL_15 (List.mem_of_getElem? (i := 16) rfl)
theorem q_15_17 : (Cond.code yX6_checkIndex cX6_checkIndex 2 none) ∈ wsL_law := qL_15 (List.mem_of_getElem? (i := 17) rfl)
theorem q_15_18 : (Cond.classLink RX6 254 "java/lang/IndexOutOfBoundsException") ∈ wsL_law := qL_15 (List.mem_of_getElem? (i := 18) rfl)
theorem q_15_19 : (Cond.initialized "java/lang/IndexOutOfBoundsException") ∈ wsL_law := qL_15 (List.mem_of_getElem? (i := 19) rfl)
theorem q_15_20 : (Cond.methodLink RX6 140 yX6_isValue) ∈ wsL_law := qL_15 (List.mem_of_getElem? (i := 20) rfl)
theorem q_15_21 : (Cond.static yX6_isValue) ∈ wsL_law := qL_15 (List.mem_of_getElem? (i := 21) rfl)
theorem q_15_22 : (Cond.code yX6_isValue cX6_isValue 1 (some .boolean)) ∈ wsL_law := qL_15 (List.mem_of_getElem? (i := 22) rfl)
theorem q_15_23 : (Cond.methodLink RX6 145 yX0_limit) ∈ wsL_law := qL_15 (List.mem_of_getElem? (i := 23) rfl)
theorem qL_16 {w : Cond} (h : w ∈ wsL_law0_r16) : w ∈ wsL_law := qL_app (List.mem_append_left _ (List.mem_append_left _ (List.mem_append_left _ (List.mem_append_left _ (List.mem_append_left _ (List.mem_append_left _ (List.mem_append_left _ (List.mem_append_left _ (List.mem_append_right _ (List.mem_append_right _ (List.mem_append_right _ (List.mem_append_right _ (List.mem_append_right _ (List.mem_append_right _ (List.mem_append_right _ (List.mem_append_right _ (List.mem_append_right _ (List.mem_append_right _ (List.mem_append_right _ (List.mem_append_right _ (List.mem_append_right _ (List.mem_append_right _ (List.mem_append_right _ (List.mem_append_left _ h))))))))))))))))))))))))
theorem q_16_0 : (Cond.methodLink RX6 151 yX0_count) ∈ wsL_law := qL_16 (List.mem_of_getElem? (i := 0) rfl)
theorem q_16_1 : (Cond.instanceMethod yX0_count) ∈ wsL_law := qL_16 (List.mem_of_getElem? (i := 1) rfl)
theorem q_16_2 : (Cond.selects RX0 yX0_count yX0_count) ∈ wsL_law := qL_16 (List.mem_of_getElem? (i := 2) rfl)
theorem q_16_3 : (Cond.code yX0_count cX0_count 3 (some .int)) ∈ wsL_law := qL_16 (List.mem_of_getElem? (i := 3) rfl)
theorem q_16_4 : (Cond.methodLink RL 55 yX6_clearBuffer) ∈ wsL_law := qL_16 (List.mem_of_getElem? (i := 4) rfl)
theorem q_16_5 : (Cond.instanceMethod yX6_clearBuffer) ∈ wsL_law := qL_16 (List.mem_of_getElem? (i := 5) rfl)
theorem q_16_6 : (Cond.selects RX6 yX6_clearBuffer yX6_clearBuffer) ∈ wsL_law := qL_16 (List.mem_of_getElem? (i := 6) rfl)
theorem q_16_7 : (Cond.code yX6_clearBuffer cX6_clearBuffer 2 (some .int)) ∈ wsL_law := qL_16 (List.mem_of_getElem? (i := 7) rfl)
theorem q_16_8 : (Cond.methodLink RL 113 yL_areAlike) ∈ wsL_law := qL_16 (List.mem_of_getElem? (i := 8) rfl)
theorem q_16_9 : (Cond.static yL_areAlike) ∈ wsL_law := qL_16 (List.mem_of_getElem? (i := 9) rfl)
theorem q_16_10 : (Cond.code yL_areAlike cL_areAlike 4 (some .boolean)) ∈ wsL_law := qL_16 (List.mem_of_getElem? (i := 10) rfl)
theorem q_16_11 : (Cond.methodLink RL 58 yX6_endless) ∈ wsL_law := qL_16 (List.mem_of_getElem? (i := 11) rfl)
theorem q_16_12 : (Cond.instanceMethod yX6_endless) ∈ wsL_law := qL_16 (List.mem_of_getElem? (i := 12) rfl)
theorem q_16_13 : (Cond.selects RX6 yX6_endless yX6_endless) ∈ wsL_law := qL_16 (List.mem_of_getElem? (i := 13) rfl)
theorem q_16_14 : (Cond.code yX6_endless cX6_endless 1 (some .int)) ∈ wsL_law := qL_16 (List.mem_of_getElem? (i := 14) rfl)
theorem q_16_15 : (Cond.methodLink RX6 154 yX2_refresh) ∈ wsL_law := qL_16 (List.mem_of_getElem? (i := 15) rfl)
theorem q_16_16 : (Cond.instanceMethod yX2_refresh) ∈ wsL_law := qL_16 (List.mem_of_getElem? (i := 16) rfl)
theorem q_16_17 : (Cond.selects RX2 yX2_refresh yX2_refresh) ∈ wsL_law := qL_16 (List.mem_of_getElem? (i := 17) rfl)
theorem q_16_18 : (Cond.code yX2_refresh cX2_refresh 2 none) ∈ wsL_law := qL_16 (List.mem_of_getElem? (i := 18) rfl)
theorem q_16_19 : (Cond.methodLink RX2 41 yX2_clear) ∈ wsL_law := qL_16 (List.mem_of_getElem? (i := 19) rfl)
theorem q_16_20 : (Cond.instanceMethod yX2_clear) ∈ wsL_law := qL_16 (List.mem_of_getElem? (i := 20) rfl)
theorem q_16_21 : (Cond.selects RX2 yX2_clear yX2_clear) ∈ wsL_law := qL_16 (List.mem_of_getElem? (i := 21) rfl)
theorem q_16_22 : (Cond.code yX2_clear cX2_clear 1 none) ∈ wsL_law := qL_16 (List.mem_of_getElem? (i := 22) rfl)
theorem q_16_23 : (Cond.fieldLink RX2 73 "ClaimJudge$Judgement" "endlessRuns" "I") ∈ wsL_law := qL_16 (List.mem_of_getElem? (i := 23) rfl)
theorem qL_17 {w : Cond} (h : w ∈ wsL_law0_r17) : w ∈ wsL_law := qL_app (List.mem_append_left _ (List.mem_append_left _ (List.mem_append_left _ (List.mem_append_left _ (List.mem_append_left _ (List.mem_append_left _ (List.mem_append_left _ (List.mem_append_left _ (List.mem_append_right _ (List.mem_append_right _ (List.mem_append_right _ (List.mem_append_right _ (List.mem_append_right _ (List.mem_append_right _ (List.mem_append_right _ (List.mem_append_right _ (List.mem_append_right _ (List.mem_append_right _ (List.mem_append_right _ (List.mem_append_right _ (List.mem_append_right _ (List.mem_append_right _ (List.mem_append_right _ (List.mem_append_right _ (List.mem_append_left _ h)))))))))))))))))))))))))
theorem q_17_0 : (Cond.fieldLink RX2 77 "ClaimJudge$Judgement" "failedRuns" "I") ∈ wsL_law := qL_17 (List.mem_of_getElem? (i := 0) rfl)
theorem q_17_1 : (Cond.fieldLink RX2 80 "ClaimJudge$Judgement" "successfulRuns" "I") ∈ wsL_law := qL_17 (List.mem_of_getElem? (i := 1) rfl)
theorem q_17_2 : (Cond.methodLink RX2 64 yJ7_fill_53178) ∈ wsL_law := qL_17 (List.mem_of_getElem? (i := 2) rfl)
theorem q_17_3 : (Cond.static yJ7_fill_53178) ∈ wsL_law := qL_17 (List.mem_of_getElem? (i := 3) rfl)
theorem q_17_4 : (Cond.initialized RJ7) ∈ wsL_law := qL_17 (List.mem_of_getElem? (i := 4) rfl)
theorem q_17_5 : (Cond.code yJ7_fill_53178 cJ7_fill_53178 4 none) ∈ wsL_law := qL_17 (List.mem_of_getElem? (i := 5) rfl)
theorem q_17_6 : (Cond.methodLink RX2 70 yJ7_fill_d0a16) ∈ wsL_law := qL_17 (List.mem_of_getElem? (i := 6) rfl)
theorem q_17_7 : (Cond.static yJ7_fill_d0a16) ∈ wsL_law := qL_17 (List.mem_of_getElem? (i := 7) rfl)
theorem q_17_8 : (Cond.code yJ7_fill_d0a16 cJ7_fill_d0a16 5 none) ∈ wsL_law := qL_17 (List.mem_of_getElem? (i := 8) rfl)
theorem q_17_9 : (Cond.methodLink RX2 44 yX0_allows) ∈ wsL_law := qL_17 (List.mem_of_getElem? (i := 9) rfl)
theorem q_17_10 : (Cond.instanceMethod yX0_allows) ∈ wsL_law := qL_17 (List.mem_of_getElem? (i := 10) rfl)
theorem q_17_11 : (Cond.selects RX0 yX0_allows yX0_allows) ∈ wsL_law := qL_17 (List.mem_of_getElem? (i := 11) rfl)
theorem q_17_12 : (Cond.code yX0_allows cX0_allows 2 (some .boolean)) ∈ wsL_law := qL_17 (List.mem_of_getElem? (i := 12) rfl)
theorem q_17_13 : (Cond.methodLink RX0 22 yX0_allowsBut) ∈ wsL_law := qL_17 (List.mem_of_getElem? (i := 13) rfl)
theorem q_17_14 : (Cond.instanceMethod yX0_allowsBut) ∈ wsL_law := qL_17 (List.mem_of_getElem? (i := 14) rfl)
theorem q_17_15 : (Cond.selects RX0 yX0_allowsBut yX0_allowsBut) ∈ wsL_law := qL_17 (List.mem_of_getElem? (i := 15) rfl)
theorem q_17_16 : (Cond.code yX0_allowsBut cX0_allowsBut 5 (some .boolean)) ∈ wsL_law := qL_17 (List.mem_of_getElem? (i := 16) rfl)
theorem q_17_17 : (Cond.static yX6_valueOf) ∈ wsL_law := qL_17 (List.mem_of_getElem? (i := 17) rfl)
theorem q_17_18 : (Cond.code yX6_valueOf cX6_valueOf 2 (some .int)) ∈ wsL_law := qL_17 (List.mem_of_getElem? (i := 18) rfl)
theorem q_17_19 : (Cond.methodLink RX2 50 yX4_endFrom) ∈ wsL_law := qL_17 (List.mem_of_getElem? (i := 19) rfl)
theorem q_17_20 : (Cond.instanceMethod yX4_endFrom) ∈ wsL_law := qL_17 (List.mem_of_getElem? (i := 20) rfl)
theorem q_17_21 : (Cond.selects RX4 yX4_endFrom yX4_endFrom) ∈ wsL_law := qL_17 (List.mem_of_getElem? (i := 21) rfl)
theorem q_17_22 : (Cond.code yX4_endFrom cX4_endFrom 5 (some .int)) ∈ wsL_law := qL_17 (List.mem_of_getElem? (i := 22) rfl)
theorem q_17_23 : (Cond.methodLink RX4 27 yJ7_fill_53178) ∈ wsL_law := qL_17 (List.mem_of_getElem? (i := 23) rfl)
theorem qL_18 {w : Cond} (h : w ∈ wsL_law0_r18) : w ∈ wsL_law := qL_app (List.mem_append_left _ (List.mem_append_left _ (List.mem_append_left _ (List.mem_append_left _ (List.mem_append_left _ (List.mem_append_left _ (List.mem_append_left _ (List.mem_append_left _ (List.mem_append_right _ (List.mem_append_right _ (List.mem_append_right _ (List.mem_append_right _ (List.mem_append_right _ (List.mem_append_right _ (List.mem_append_right _ (List.mem_append_right _ (List.mem_append_right _ (List.mem_append_right _ (List.mem_append_right _ (List.mem_append_right _ (List.mem_append_right _ (List.mem_append_right _ (List.mem_append_right _ (List.mem_append_right _ (List.mem_append_right _ (List.mem_append_left _ h))))))))))))))))))))))))))
theorem q_18_0 : (Cond.methodLink RX4 33 yX3_placeAfter) ∈ wsL_law := qL_18 (List.mem_of_getElem? (i := 0) rfl)
theorem q_18_1 : (Cond.instanceMethod yX3_placeAfter) ∈ wsL_law := qL_18 (List.mem_of_getElem? (i := 1) rfl)
theorem q_18_2 : (Cond.selects RX3 yX3_placeAfter yX3_placeAfter) ∈ wsL_law := qL_18 (List.mem_of_getElem? (i := 2) rfl)
theorem q_18_3 : (Cond.code yX3_placeAfter cX3_placeAfter 7 (some .int)) ∈ wsL_law := qL_18 (List.mem_of_getElem? (i := 3) rfl)
theorem q_18_4 : (Cond.static yX6_statementAt) ∈ wsL_law := qL_18 (List.mem_of_getElem? (i := 4) rfl)
theorem q_18_5 : (Cond.code yX6_statementAt cX6_statementAt 1 (some .int)) ∈ wsL_law := qL_18 (List.mem_of_getElem? (i := 5) rfl)
theorem q_18_6 : (Cond.static yX6_tripleAt) ∈ wsL_law := qL_18 (List.mem_of_getElem? (i := 6) rfl)
theorem q_18_7 : (Cond.code yX6_tripleAt cX6_tripleAt 1 (some .int)) ∈ wsL_law := qL_18 (List.mem_of_getElem? (i := 7) rfl)
theorem q_18_8 : (Cond.static yX6_withValue) ∈ wsL_law := qL_18 (List.mem_of_getElem? (i := 8) rfl)
theorem q_18_9 : (Cond.code yX6_withValue cX6_withValue 4 (some .int)) ∈ wsL_law := qL_18 (List.mem_of_getElem? (i := 9) rfl)
theorem q_18_10 : (Cond.static yX6_placeOf) ∈ wsL_law := qL_18 (List.mem_of_getElem? (i := 10) rfl)
theorem q_18_11 : (Cond.code yX6_placeOf cX6_placeOf 2 (some .int)) ∈ wsL_law := qL_18 (List.mem_of_getElem? (i := 11) rfl)
theorem q_18_12 : (Cond.methodLink RX3 68 yX3_compares) ∈ wsL_law := qL_18 (List.mem_of_getElem? (i := 12) rfl)
theorem q_18_13 : (Cond.static yX3_compares) ∈ wsL_law := qL_18 (List.mem_of_getElem? (i := 13) rfl)
theorem q_18_14 : (Cond.code yX3_compares cX3_compares 3 (some .boolean)) ∈ wsL_law := qL_18 (List.mem_of_getElem? (i := 14) rfl)
theorem q_18_15 : (Cond.methodLink RX4 38 yX4_endAt) ∈ wsL_law := qL_18 (List.mem_of_getElem? (i := 15) rfl)
theorem q_18_16 : (Cond.instanceMethod yX4_endAt) ∈ wsL_law := qL_18 (List.mem_of_getElem? (i := 16) rfl)
theorem q_18_17 : (Cond.selects RX4 yX4_endAt yX4_endAt) ∈ wsL_law := qL_18 (List.mem_of_getElem? (i := 17) rfl)
theorem q_18_18 : (Cond.code yX4_endAt cX4_endAt 2 (some .int)) ∈ wsL_law := qL_18 (List.mem_of_getElem? (i := 18) rfl)
theorem q_18_19 : (Cond.methodLink RX4 45 yX3_isEnd) ∈ wsL_law := qL_18 (List.mem_of_getElem? (i := 19) rfl)
theorem q_18_20 : (Cond.instanceMethod yX3_isEnd) ∈ wsL_law := qL_18 (List.mem_of_getElem? (i := 20) rfl)
theorem q_18_21 : (Cond.selects RX3 yX3_isEnd yX3_isEnd) ∈ wsL_law := qL_18 (List.mem_of_getElem? (i := 21) rfl)
theorem q_18_22 : (Cond.code yX3_isEnd cX3_isEnd 2 (some .boolean)) ∈ wsL_law := qL_18 (List.mem_of_getElem? (i := 22) rfl)
theorem q_18_23 : (Cond.methodLink RX4 41 yX4_settle) ∈ wsL_law := qL_18 (List.mem_of_getElem? (i := 23) rfl)
theorem qL_19 {w : Cond} (h : w ∈ wsL_law0_r19) : w ∈ wsL_law := qL_app (List.mem_append_left _ (List.mem_append_left _ (List.mem_append_left _ (List.mem_append_left _ (List.mem_append_left _ (List.mem_append_left _ (List.mem_append_left _ (List.mem_append_left _ (List.mem_append_right _ (List.mem_append_right _ (List.mem_append_right _ (List.mem_append_right _ (List.mem_append_right _ (List.mem_append_right _ (List.mem_append_right _ (List.mem_append_right _ (List.mem_append_right _ (List.mem_append_right _ (List.mem_append_right _ (List.mem_append_right _ (List.mem_append_right _ (List.mem_append_right _ (List.mem_append_right _ (List.mem_append_right _ (List.mem_append_right _ (List.mem_append_right _ (List.mem_append_left _ h)))))))))))))))))))))))))))
theorem q_19_0 : (Cond.instanceMethod yX4_settle) ∈ wsL_law := qL_19 (List.mem_of_getElem? (i := 0) rfl)
theorem q_19_1 : (Cond.selects RX4 yX4_settle yX4_settle) ∈ wsL_law := qL_19 (List.mem_of_getElem? (i := 1) rfl)
theorem q_19_2 : (Cond.code yX4_settle cX4_settle 5 none) ∈ wsL_law := qL_19 (List.mem_of_getElem? (i := 2) rfl)
theorem q_19_3 : (Cond.methodLink RX2 56 yX2_countRun) ∈ wsL_law := qL_19 (List.mem_of_getElem? (i := 3) rfl)
theorem q_19_4 : (Cond.instanceMethod yX2_countRun) ∈ wsL_law := qL_19 (List.mem_of_getElem? (i := 4) rfl)
theorem q_19_5 : (Cond.selects RX2 yX2_countRun yX2_countRun) ∈ wsL_law := qL_19 (List.mem_of_getElem? (i := 5) rfl)
theorem q_19_6 : (Cond.code yX2_countRun cX2_countRun 3 none) ∈ wsL_law := qL_19 (List.mem_of_getElem? (i := 6) rfl)
theorem q_19_7 : (Cond.methodLink RX2 60 yX2_followRun) ∈ wsL_law := qL_19 (List.mem_of_getElem? (i := 7) rfl)
theorem q_19_8 : (Cond.instanceMethod yX2_followRun) ∈ wsL_law := qL_19 (List.mem_of_getElem? (i := 8) rfl)
theorem q_19_9 : (Cond.selects RX2 yX2_followRun yX2_followRun) ∈ wsL_law := qL_19 (List.mem_of_getElem? (i := 9) rfl)
theorem q_19_10 : (Cond.code yX2_followRun cX2_followRun 4 none) ∈ wsL_law := qL_19 (List.mem_of_getElem? (i := 10) rfl)
theorem q_19_11 : (Cond.methodLink RX2 83 yX2_isVisited) ∈ wsL_law := qL_19 (List.mem_of_getElem? (i := 11) rfl)
theorem q_19_12 : (Cond.instanceMethod yX2_isVisited) ∈ wsL_law := qL_19 (List.mem_of_getElem? (i := 12) rfl)
theorem q_19_13 : (Cond.selects RX2 yX2_isVisited yX2_isVisited) ∈ wsL_law := qL_19 (List.mem_of_getElem? (i := 13) rfl)
theorem q_19_14 : (Cond.code yX2_isVisited cX2_isVisited 2 (some .boolean)) ∈ wsL_law := qL_19 (List.mem_of_getElem? (i := 14) rfl)
theorem q_19_15 : (Cond.methodLink RX2 86 yX2_noteValues) ∈ wsL_law := qL_19 (List.mem_of_getElem? (i := 15) rfl)
theorem q_19_16 : (Cond.instanceMethod yX2_noteValues) ∈ wsL_law := qL_19 (List.mem_of_getElem? (i := 16) rfl)
theorem q_19_17 : (Cond.selects RX2 yX2_noteValues yX2_noteValues) ∈ wsL_law := qL_19 (List.mem_of_getElem? (i := 17) rfl)
theorem q_19_18 : (Cond.code yX2_noteValues cX2_noteValues 6 none) ∈ wsL_law := qL_19 (List.mem_of_getElem? (i := 18) rfl)
theorem q_19_19 : (Cond.methodLink RX2 89 yX3_placeAfter) ∈ wsL_law := qL_19 (List.mem_of_getElem? (i := 19) rfl)
theorem q_19_20 : (Cond.methodLink RL 61 yX6_proof) ∈ wsL_law := qL_19 (List.mem_of_getElem? (i := 20) rfl)
theorem q_19_21 : (Cond.instanceMethod yX6_proof) ∈ wsL_law := qL_19 (List.mem_of_getElem? (i := 21) rfl)
theorem q_19_22 : (Cond.selects RX6 yX6_proof yX6_proof) ∈ wsL_law := qL_19 (List.mem_of_getElem? (i := 22) rfl)
theorem q_19_23 : (Cond.code yX6_proof cX6_proof 1 (some .int)) ∈ wsL_law := qL_19 (List.mem_of_getElem? (i := 23) rfl)
theorem qL_20 {w : Cond} (h : w ∈ wsL_law0_r20) : w ∈ wsL_law := qL_app (List.mem_append_left _ (List.mem_append_left _ (List.mem_append_left _ (List.mem_append_left _ (List.mem_append_left _ (List.mem_append_left _ (List.mem_append_left _ (List.mem_append_left _ (List.mem_append_right _ (List.mem_append_right _ (List.mem_append_right _ (List.mem_append_right _ (List.mem_append_right _ (List.mem_append_right _ (List.mem_append_right _ (List.mem_append_right _ (List.mem_append_right _ (List.mem_append_right _ (List.mem_append_right _ (List.mem_append_right _ (List.mem_append_right _ (List.mem_append_right _ (List.mem_append_right _ (List.mem_append_right _ (List.mem_append_right _ (List.mem_append_right _ (List.mem_append_right _ (List.mem_append_left _ h))))))))))))))))))))))))))))
theorem q_20_0 : (Cond.methodLink RL 64 yX6_provedShare) ∈ wsL_law := qL_20 (List.mem_of_getElem? (i := 0) rfl)
theorem q_20_1 : (Cond.instanceMethod yX6_provedShare) ∈ wsL_law := qL_20 (List.mem_of_getElem? (i := 1) rfl)
theorem q_20_2 : (Cond.selects RX6 yX6_provedShare yX6_provedShare) ∈ wsL_law := qL_20 (List.mem_of_getElem? (i := 2) rfl)
theorem q_20_3 : (Cond.code yX6_provedShare cX6_provedShare 1 (some .double)) ∈ wsL_law := qL_20 (List.mem_of_getElem? (i := 3) rfl)
theorem q_20_4 : (Cond.methodLink RL 68 yX6_kind) ∈ wsL_law := qL_20 (List.mem_of_getElem? (i := 4) rfl)
theorem q_20_5 : (Cond.instanceMethod yX6_kind) ∈ wsL_law := qL_20 (List.mem_of_getElem? (i := 5) rfl)
theorem q_20_6 : (Cond.selects RX6 yX6_kind yX6_kind) ∈ wsL_law := qL_20 (List.mem_of_getElem? (i := 6) rfl)
theorem q_20_7 : (Cond.code yX6_kind cX6_kind 2 (some .int)) ∈ wsL_law := qL_20 (List.mem_of_getElem? (i := 7) rfl)
theorem q_20_8 : (Cond.methodLink RL 71 yX6_target) ∈ wsL_law := qL_20 (List.mem_of_getElem? (i := 8) rfl)
theorem q_20_9 : (Cond.instanceMethod yX6_target) ∈ wsL_law := qL_20 (List.mem_of_getElem? (i := 9) rfl)
theorem q_20_10 : (Cond.selects RX6 yX6_target yX6_target) ∈ wsL_law := qL_20 (List.mem_of_getElem? (i := 10) rfl)
theorem q_20_11 : (Cond.code yX6_target cX6_target 2 (some .int)) ∈ wsL_law := qL_20 (List.mem_of_getElem? (i := 11) rfl)
theorem q_20_12 : (Cond.methodLink RL 74 yX6_demand) ∈ wsL_law := qL_20 (List.mem_of_getElem? (i := 12) rfl)
theorem q_20_13 : (Cond.instanceMethod yX6_demand) ∈ wsL_law := qL_20 (List.mem_of_getElem? (i := 13) rfl)
theorem q_20_14 : (Cond.selects RX6 yX6_demand yX6_demand) ∈ wsL_law := qL_20 (List.mem_of_getElem? (i := 14) rfl)
theorem q_20_15 : (Cond.code yX6_demand cX6_demand 4 (some .int)) ∈ wsL_law := qL_20 (List.mem_of_getElem? (i := 15) rfl)
theorem q_20_16 : (Cond.methodLink RX6 132 yX6_placeOf) ∈ wsL_law := qL_20 (List.mem_of_getElem? (i := 16) rfl)
theorem q_20_17 : (Cond.methodLink RX6 136 yX4_succeedsFrom) ∈ wsL_law := qL_20 (List.mem_of_getElem? (i := 17) rfl)
theorem q_20_18 : (Cond.instanceMethod yX4_succeedsFrom) ∈ wsL_law := qL_20 (List.mem_of_getElem? (i := 18) rfl)
theorem q_20_19 : (Cond.selects RX4 yX4_succeedsFrom yX4_succeedsFrom) ∈ wsL_law := qL_20 (List.mem_of_getElem? (i := 19) rfl)
theorem q_20_20 : (Cond.code yX4_succeedsFrom cX4_succeedsFrom 2 (some .boolean)) ∈ wsL_law := qL_20 (List.mem_of_getElem? (i := 20) rfl)
theorem q_20_21 : (Cond.methodLink RX4 23 yX4_endFrom) ∈ wsL_law := qL_20 (List.mem_of_getElem? (i := 21) rfl)
theorem q_20_22 : (Cond.methodLink RL 77 yX6_verdict) ∈ wsL_law := qL_20 (List.mem_of_getElem? (i := 22) rfl)
theorem q_20_23 : (Cond.instanceMethod yX6_verdict) ∈ wsL_law := qL_20 (List.mem_of_getElem? (i := 23) rfl)
theorem qL_21 {w : Cond} (h : w ∈ wsL_law0_r21) : w ∈ wsL_law := qL_app (List.mem_append_left _ (List.mem_append_left _ (List.mem_append_left _ (List.mem_append_left _ (List.mem_append_left _ (List.mem_append_left _ (List.mem_append_left _ (List.mem_append_left _ (List.mem_append_right _ (List.mem_append_right _ (List.mem_append_right _ (List.mem_append_right _ (List.mem_append_right _ (List.mem_append_right _ (List.mem_append_right _ (List.mem_append_right _ (List.mem_append_right _ (List.mem_append_right _ (List.mem_append_right _ (List.mem_append_right _ (List.mem_append_right _ (List.mem_append_right _ (List.mem_append_right _ (List.mem_append_right _ (List.mem_append_right _ (List.mem_append_right _ (List.mem_append_right _ (List.mem_append_right _ (List.mem_append_left _ h)))))))))))))))))))))))))))))
theorem q_21_0 : (Cond.selects RX6 yX6_verdict yX6_verdict) ∈ wsL_law := qL_21 (List.mem_of_getElem? (i := 0) rfl)
theorem q_21_1 : (Cond.code yX6_verdict cX6_verdict 2 (some .int)) ∈ wsL_law := qL_21 (List.mem_of_getElem? (i := 1) rfl)
theorem q_21_2 : (Cond.methodLink RX6 160 yX2_isReached) ∈ wsL_law := qL_21 (List.mem_of_getElem? (i := 2) rfl)
theorem q_21_3 : (Cond.instanceMethod yX2_isReached) ∈ wsL_law := qL_21 (List.mem_of_getElem? (i := 3) rfl)
theorem q_21_4 : (Cond.selects RX2 yX2_isReached yX2_isReached) ∈ wsL_law := qL_21 (List.mem_of_getElem? (i := 4) rfl)
theorem q_21_5 : (Cond.code yX2_isReached cX2_isReached 2 (some .boolean)) ∈ wsL_law := qL_21 (List.mem_of_getElem? (i := 5) rfl)
theorem q_21_6 : (Cond.methodLink RL 80 yX6_example) ∈ wsL_law := qL_21 (List.mem_of_getElem? (i := 6) rfl)
theorem q_21_7 : (Cond.instanceMethod yX6_example) ∈ wsL_law := qL_21 (List.mem_of_getElem? (i := 7) rfl)
theorem q_21_8 : (Cond.selects RX6 yX6_example yX6_example) ∈ wsL_law := qL_21 (List.mem_of_getElem? (i := 8) rfl)
theorem q_21_9 : (Cond.code yX6_example cX6_example 2 (some .int)) ∈ wsL_law := qL_21 (List.mem_of_getElem? (i := 9) rfl)
theorem q_21_10 : (Cond.methodLink RL 83 yX6_least) ∈ wsL_law := qL_21 (List.mem_of_getElem? (i := 10) rfl)
theorem q_21_11 : (Cond.instanceMethod yX6_least) ∈ wsL_law := qL_21 (List.mem_of_getElem? (i := 11) rfl)
theorem q_21_12 : (Cond.selects RX6 yX6_least yX6_least) ∈ wsL_law := qL_21 (List.mem_of_getElem? (i := 12) rfl)
theorem q_21_13 : (Cond.code yX6_least cX6_least 3 (some .int)) ∈ wsL_law := qL_21 (List.mem_of_getElem? (i := 13) rfl)
theorem q_21_14 : (Cond.methodLink RL 86 yX6_greatest) ∈ wsL_law := qL_21 (List.mem_of_getElem? (i := 14) rfl)
theorem q_21_15 : (Cond.instanceMethod yX6_greatest) ∈ wsL_law := qL_21 (List.mem_of_getElem? (i := 15) rfl)
theorem q_21_16 : (Cond.selects RX6 yX6_greatest yX6_greatest) ∈ wsL_law := qL_21 (List.mem_of_getElem? (i := 16) rfl)
theorem q_21_17 : (Cond.code yX6_greatest cX6_greatest 3 (some .int)) ∈ wsL_law := qL_21 (List.mem_of_getElem? (i := 17) rfl)
theorem q_21_18 : (Cond.methodLink RL 102 yX6_undo) ∈ wsL_law := qL_21 (List.mem_of_getElem? (i := 18) rfl)
theorem q_21_19 : (Cond.instanceMethod yX6_undo) ∈ wsL_law := qL_21 (List.mem_of_getElem? (i := 19) rfl)
theorem q_21_20 : (Cond.selects RX6 yX6_undo yX6_undo) ∈ wsL_law := qL_21 (List.mem_of_getElem? (i := 20) rfl)
theorem q_21_21 : (Cond.code yX6_undo cX6_undo 1 (some .int)) ∈ wsL_law := qL_21 (List.mem_of_getElem? (i := 21) rfl)
theorem q_21_22 : (Cond.methodLink RX6 202 yX1_restore) ∈ wsL_law := qL_21 (List.mem_of_getElem? (i := 22) rfl)
theorem q_21_23 : (Cond.instanceMethod yX1_restore) ∈ wsL_law := qL_21 (List.mem_of_getElem? (i := 23) rfl)
theorem qL_22 {w : Cond} (h : w ∈ wsL_law0_r22) : w ∈ wsL_law := qL_app (List.mem_append_left _ (List.mem_append_left _ (List.mem_append_left _ (List.mem_append_left _ (List.mem_append_left _ (List.mem_append_left _ (List.mem_append_left _ (List.mem_append_left _ (List.mem_append_right _ (List.mem_append_right _ (List.mem_append_right _ (List.mem_append_right _ (List.mem_append_right _ (List.mem_append_right _ (List.mem_append_right _ (List.mem_append_right _ (List.mem_append_right _ (List.mem_append_right _ (List.mem_append_right _ (List.mem_append_right _ (List.mem_append_right _ (List.mem_append_right _ (List.mem_append_right _ (List.mem_append_right _ (List.mem_append_right _ (List.mem_append_right _ (List.mem_append_right _ (List.mem_append_right _ (List.mem_append_right _ (List.mem_append_left _ h))))))))))))))))))))))))))))))
theorem q_22_0 : (Cond.selects RX1 yX1_restore yX1_restore) ∈ wsL_law := qL_22 (List.mem_of_getElem? (i := 0) rfl)
theorem q_22_1 : (Cond.code yX1_restore cX1_restore 4 none) ∈ wsL_law := qL_22 (List.mem_of_getElem? (i := 1) rfl)
theorem q_22_2 : (Cond.methodLink RL 117 yL_areRunsSo) ∈ wsL_law := qL_22 (List.mem_of_getElem? (i := 2) rfl)
theorem q_22_3 : (Cond.static yL_areRunsSo) ∈ wsL_law := qL_22 (List.mem_of_getElem? (i := 3) rfl)
theorem q_22_4 : (Cond.code yL_areRunsSo cL_areRunsSo 11 (some .boolean)) ∈ wsL_law := qL_22 (List.mem_of_getElem? (i := 4) rfl)
theorem q_22_5 : (Cond.methodLink RL 89 yX6_run) ∈ wsL_law := qL_22 (List.mem_of_getElem? (i := 5) rfl)
theorem q_22_6 : (Cond.instanceMethod yX6_run) ∈ wsL_law := qL_22 (List.mem_of_getElem? (i := 6) rfl)
theorem q_22_7 : (Cond.selects RX6 yX6_run yX6_run) ∈ wsL_law := qL_22 (List.mem_of_getElem? (i := 7) rfl)
theorem q_22_8 : (Cond.code yX6_run cX6_run 4 (some .int)) ∈ wsL_law := qL_22 (List.mem_of_getElem? (i := 8) rfl)
theorem q_22_9 : (Cond.methodLink RX6 117 yX6_checkValues) ∈ wsL_law := qL_22 (List.mem_of_getElem? (i := 9) rfl)
theorem q_22_10 : (Cond.static yX6_checkValues) ∈ wsL_law := qL_22 (List.mem_of_getElem? (i := 10) rfl)
theorem q_22_11 : (Cond.code yX6_checkValues cX6_checkValues 3 none) ∈ wsL_law := qL_22 (List.mem_of_getElem? (i := 11) rfl)
theorem q_22_12 : (Cond.methodLink RX6 121 yX6_tripleOf) ∈ wsL_law := qL_22 (List.mem_of_getElem? (i := 12) rfl)
theorem q_22_13 : (Cond.static yX6_tripleOf) ∈ wsL_law := qL_22 (List.mem_of_getElem? (i := 13) rfl)
theorem q_22_14 : (Cond.code yX6_tripleOf cX6_tripleOf 3 (some .int)) ∈ wsL_law := qL_22 (List.mem_of_getElem? (i := 14) rfl)
theorem q_22_15 : (Cond.methodLink RX6 125 yX4_endFrom) ∈ wsL_law := qL_22 (List.mem_of_getElem? (i := 15) rfl)
theorem q_22_16 : (Cond.methodLink RL 92 yX6_steps) ∈ wsL_law := qL_22 (List.mem_of_getElem? (i := 16) rfl)
theorem q_22_17 : (Cond.instanceMethod yX6_steps) ∈ wsL_law := qL_22 (List.mem_of_getElem? (i := 17) rfl)
theorem q_22_18 : (Cond.selects RX6 yX6_steps yX6_steps) ∈ wsL_law := qL_22 (List.mem_of_getElem? (i := 18) rfl)
theorem q_22_19 : (Cond.code yX6_steps cX6_steps 4 (some .int)) ∈ wsL_law := qL_22 (List.mem_of_getElem? (i := 19) rfl)
theorem q_22_20 : (Cond.methodLink RX6 129 yX4_lengthFrom) ∈ wsL_law := qL_22 (List.mem_of_getElem? (i := 20) rfl)
theorem q_22_21 : (Cond.instanceMethod yX4_lengthFrom) ∈ wsL_law := qL_22 (List.mem_of_getElem? (i := 21) rfl)
theorem q_22_22 : (Cond.selects RX4 yX4_lengthFrom yX4_lengthFrom) ∈ wsL_law := qL_22 (List.mem_of_getElem? (i := 22) rfl)
theorem q_22_23 : (Cond.code yX4_lengthFrom cX4_lengthFrom 5 (some .int)) ∈ wsL_law := qL_22 (List.mem_of_getElem? (i := 23) rfl)
theorem qL_23 {w : Cond} (h : w ∈ wsL_law0_r23) : w ∈ wsL_law := qL_app (List.mem_append_left _ (List.mem_append_left _ (List.mem_append_left _ (List.mem_append_left _ (List.mem_append_left _ (List.mem_append_left _ (List.mem_append_left _ (List.mem_append_left _ (List.mem_append_right _ (List.mem_append_right _ (List.mem_append_right _ (List.mem_append_right _ (List.mem_append_right _ (List.mem_append_right _ (List.mem_append_right _ (List.mem_append_right _ (List.mem_append_right _ (List.mem_append_right _ (List.mem_append_right _ (List.mem_append_right _ (List.mem_append_right _ (List.mem_append_right _ (List.mem_append_right _ (List.mem_append_right _ (List.mem_append_right _ (List.mem_append_right _ (List.mem_append_right _ (List.mem_append_right _ (List.mem_append_right _ (List.mem_append_right _ (h)))))))))))))))))))))))))))))))
theorem q_23_0 : (Cond.methodLink RL 95 yX6_demands) ∈ wsL_law := qL_23 (List.mem_of_getElem? (i := 0) rfl)
theorem q_23_1 : (Cond.instanceMethod yX6_demands) ∈ wsL_law := qL_23 (List.mem_of_getElem? (i := 1) rfl)
theorem q_23_2 : (Cond.selects RX6 yX6_demands yX6_demands) ∈ wsL_law := qL_23 (List.mem_of_getElem? (i := 2) rfl)
theorem q_23_3 : (Cond.code yX6_demands cX6_demands 5 (some .boolean)) ∈ wsL_law := qL_23 (List.mem_of_getElem? (i := 3) rfl)
theorem q_23_4 : (Cond.methodLink RL 121 yL_areClaimsSo) ∈ wsL_law := qL_23 (List.mem_of_getElem? (i := 4) rfl)
theorem q_23_5 : (Cond.static yL_areClaimsSo) ∈ wsL_law := qL_23 (List.mem_of_getElem? (i := 5) rfl)
theorem q_23_6 : (Cond.code yL_areClaimsSo cL_areClaimsSo 10 (some .boolean)) ∈ wsL_law := qL_23 (List.mem_of_getElem? (i := 6) rfl)
theorem q_23_7 : (Cond.methodLink RL 125 yL_isWidestSo) ∈ wsL_law := qL_23 (List.mem_of_getElem? (i := 7) rfl)
theorem q_23_8 : (Cond.static yL_isWidestSo) ∈ wsL_law := qL_23 (List.mem_of_getElem? (i := 8) rfl)
theorem q_23_9 : (Cond.code yL_isWidestSo cL_isWidestSo 10 (some .boolean)) ∈ wsL_law := qL_23 (List.mem_of_getElem? (i := 9) rfl)
theorem q_23_10 : (Cond.methodLink RL 99 yX6_widest) ∈ wsL_law := qL_23 (List.mem_of_getElem? (i := 10) rfl)
theorem q_23_11 : (Cond.instanceMethod yX6_widest) ∈ wsL_law := qL_23 (List.mem_of_getElem? (i := 11) rfl)
theorem q_23_12 : (Cond.selects RX6 yX6_widest yX6_widest) ∈ wsL_law := qL_23 (List.mem_of_getElem? (i := 12) rfl)
theorem q_23_13 : (Cond.code yX6_widest cX6_widest 2 (some .int)) ∈ wsL_law := qL_23 (List.mem_of_getElem? (i := 13) rfl)
theorem q_23_14 : (Cond.methodLink RX6 178 yX6_unprovedValues) ∈ wsL_law := qL_23 (List.mem_of_getElem? (i := 14) rfl)
theorem q_23_15 : (Cond.instanceMethod yX6_unprovedValues) ∈ wsL_law := qL_23 (List.mem_of_getElem? (i := 15) rfl)
theorem q_23_16 : (Cond.selects RX6 yX6_unprovedValues yX6_unprovedValues) ∈ wsL_law := qL_23 (List.mem_of_getElem? (i := 16) rfl)
theorem q_23_17 : (Cond.code yX6_unprovedValues cX6_unprovedValues 4 (some .int)) ∈ wsL_law := qL_23 (List.mem_of_getElem? (i := 17) rfl)
theorem q_23_18 : (Cond.methodLink RX6 243 yX0_allowsBut) ∈ wsL_law := qL_23 (List.mem_of_getElem? (i := 18) rfl)
theorem q_23_19 : (Cond.methodLink RX6 247 yX6_valueOf) ∈ wsL_law := qL_23 (List.mem_of_getElem? (i := 19) rfl)
theorem q_23_20 : (Cond.methodLink RX6 181 yX6_widestRange) ∈ wsL_law := qL_23 (List.mem_of_getElem? (i := 20) rfl)
theorem q_23_21 : (Cond.static yX6_widestRange) ∈ wsL_law := qL_23 (List.mem_of_getElem? (i := 21) rfl)
theorem q_23_22 : (Cond.code yX6_widestRange cX6_widestRange 5 (some .int)) ∈ wsL_law := qL_23 (List.mem_of_getElem? (i := 22) rfl)
set_option maxRecDepth 100000 in
set_option maxHeartbeats 4000000 in
theorem qL_good : wsL_law.all goodWord = true := by decide +kernel
