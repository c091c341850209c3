theorem kF1_9 : xm (.fieldLink "ChangeRows$Batch" 9 "ChangeRows$Batch" "isOpen" "Z") := ⟨xt1 (List.mem_of_getElem? (i := 27) rfl), rfl⟩
theorem kF2_9 : xm (.fieldLink "ChangeRows$Changes" 9 "ChangeRows$Changes" "size" "I") := ⟨xt1 (List.mem_of_getElem? (i := 64) rfl), rfl⟩
theorem kF3_9 : xm (.fieldLink "ChangeRows$Rows" 9 "ChangeRows$Rows" "present" "J") := ⟨xt1 (List.mem_of_getElem? (i := 86) rfl), rfl⟩
theorem kF3_15 : xm (.fieldLink "ChangeRows$Rows" 15 "ChangeRows$Rows" "values" "[J") := ⟨xt1 (List.mem_of_getElem? (i := 87) rfl), rfl⟩
theorem kM3_25 : xm (.methodLink "ChangeRows$Rows" 25 yA_fill) := ⟨xt1 (List.mem_of_getElem? (i := 188) rfl), rfl⟩
theorem kDA_fill : xm (.code yA_fill cA_fill 5 none) := ⟨xt1 (List.mem_of_getElem? (i := 190) rfl), rfl⟩
theorem kIA : xm (.initialized "java/util/Arrays") := ⟨xt1 (List.mem_of_getElem? (i := 8) rfl), rfl⟩
theorem kX3_25 : xcl "ChangeRows$Rows" 25 yA_fill cA_fill 5 none 2 := ⟨kM3_25, kDA_fill, kIA, by decide +kernel, by decide⟩
theorem kSA_fill : xm (.static yA_fill) := ⟨xt1 (List.mem_of_getElem? (i := 189) rfl), rfl⟩
theorem kF4_9 : xm (.fieldLink "ChangeRows$Table" 9 "ChangeRows$Table" "sort" "I") := ⟨xt1 (List.mem_of_getElem? (i := 103) rfl), rfl⟩
theorem kF4_15 : xm (.fieldLink "ChangeRows$Table" 15 "ChangeRows$Table" "t" "I") := ⟨xt1 (List.mem_of_getElem? (i := 105) rfl), rfl⟩
theorem kF4_18 : xm (.fieldLink "ChangeRows$Table" 18 "ChangeRows$Table" "u" "I") := ⟨xt1 (List.mem_of_getElem? (i := 107) rfl), rfl⟩
theorem kF4_21 : xm (.fieldLink "ChangeRows$Table" 21 "ChangeRows$Table" "first" "J") := ⟨xt1 (List.mem_of_getElem? (i := 109) rfl), rfl⟩
theorem kF4_25 : xm (.fieldLink "ChangeRows$Table" 25 "ChangeRows$Table" "second" "J") := ⟨xt1 (List.mem_of_getElem? (i := 110) rfl), rfl⟩
theorem kF4_74 : xm (.fieldLink "ChangeRows$Table" 74 "ChangeRows$Rows" "values" "[J") := ⟨xt1 (List.mem_of_getElem? (i := 88) rfl), rfl⟩
theorem kM4_78 : xm (.methodLink "ChangeRows$Table" 78 y3_holds) := ⟨xt1 (List.mem_of_getElem? (i := 223) rfl), rfl⟩
theorem kD3_holds : xm (.code y3_holds c3_holds 2 (some .boolean)) := ⟨xt1 (List.mem_of_getElem? (i := 226) rfl), rfl⟩
theorem kI3 : xm (.initialized "ChangeRows$Rows") := ⟨xt1 (List.mem_of_getElem? (i := 5) rfl), rfl⟩
theorem kX4_78 : xcl "ChangeRows$Table" 78 y3_holds c3_holds 2 (some .boolean) 1 := ⟨kM4_78, kD3_holds, kI3, by decide +kernel, by decide⟩
theorem kN3_holds : xm (.instanceMethod y3_holds) := ⟨xt1 (List.mem_of_getElem? (i := 224) rfl), rfl⟩
theorem kE3_holds : xm (.selects "ChangeRows$Rows" y3_holds y3_holds) := ⟨xt1 (List.mem_of_getElem? (i := 225) rfl), rfl⟩
theorem kF4_35 : xm (.fieldLink "ChangeRows$Table" 35 "ChangeRows$Table" "next" "LChangeRows$Rows;") := ⟨xt1 (List.mem_of_getElem? (i := 113) rfl), rfl⟩
theorem kM4_82 : xm (.methodLink "ChangeRows$Table" 82 y3_set) := ⟨xt1 (List.mem_of_getElem? (i := 227) rfl), rfl⟩
theorem kD3_set : xm (.code y3_set c3_set 4 none) := ⟨xt1 (List.mem_of_getElem? (i := 230) rfl), rfl⟩
theorem kX4_82 : xcl "ChangeRows$Table" 82 y3_set c3_set 4 none 2 := ⟨kM4_82, kD3_set, kI3, by decide +kernel, by decide⟩
theorem kN3_set : xm (.instanceMethod y3_set) := ⟨xt1 (List.mem_of_getElem? (i := 228) rfl), rfl⟩
theorem kE3_set : xm (.selects "ChangeRows$Rows" y3_set y3_set) := ⟨xt1 (List.mem_of_getElem? (i := 229) rfl), rfl⟩
theorem kM4_86 : xm (.methodLink "ChangeRows$Table" 86 y4_folded) := ⟨xt1 (List.mem_of_getElem? (i := 239) rfl), rfl⟩
theorem kD4_folded : xm (.code y4_folded c4_folded 7 (some .long)) := ⟨xt2 (List.mem_of_getElem? (i := 2) rfl), rfl⟩
theorem kI4 : xm (.initialized "ChangeRows$Table") := ⟨xt1 (List.mem_of_getElem? (i := 6) rfl), rfl⟩
theorem kX4_86 : xcl "ChangeRows$Table" 86 y4_folded c4_folded 7 (some .long) 4 := ⟨kM4_86, kD4_folded, kI4, by decide +kernel, by decide⟩
theorem kN4_folded : xm (.instanceMethod y4_folded) := ⟨xt2 (List.mem_of_getElem? (i := 1) rfl), rfl⟩
theorem kE4_folded : xm (.selects "ChangeRows$Table" y4_folded y4_folded) := ⟨xt0 (List.mem_of_getElem? (i := 6) rfl), rfl⟩
theorem kF4_41 : xm (.fieldLink "ChangeRows$Table" 41 "ChangeRows$Table" "order" "[I") := ⟨xt1 (List.mem_of_getElem? (i := 117) rfl), rfl⟩
theorem kM4_90 : xm (.methodLink "ChangeRows$Table" 90 y4_insertKey) := ⟨xt2 (List.mem_of_getElem? (i := 15) rfl), rfl⟩
theorem kD4_insertKey : xm (.code y4_insertKey c4_insertKey 5 none) := ⟨xt2 (List.mem_of_getElem? (i := 18) rfl), rfl⟩
theorem kX4_90 : xcl "ChangeRows$Table" 90 y4_insertKey c4_insertKey 5 none 3 := ⟨kM4_90, kD4_insertKey, kI4, by decide +kernel, by decide⟩
theorem kN4_insertKey : xm (.instanceMethod y4_insertKey) := ⟨xt2 (List.mem_of_getElem? (i := 17) rfl), rfl⟩
theorem kE4_insertKey : xm (.selects "ChangeRows$Table" y4_insertKey y4_insertKey) := ⟨xt0 (List.mem_of_getElem? (i := 10) rfl), rfl⟩
theorem kC4_94 : xm (.constantLong "ChangeRows$Table" 94 63) := ⟨xt2 (List.mem_of_getElem? (i := 23) rfl), rfl⟩
theorem kM4_48 : xm (.methodLink "ChangeRows$Table" 48 y3_reset) := ⟨xt1 (List.mem_of_getElem? (i := 218) rfl), rfl⟩
theorem kD3_reset : xm (.code y3_reset c3_reset 1 none) := ⟨xt1 (List.mem_of_getElem? (i := 187) rfl), rfl⟩
theorem kX4_48 : xcl "ChangeRows$Table" 48 y3_reset c3_reset 1 none 0 := ⟨kM4_48, kD3_reset, kI3, by decide +kernel, by decide⟩
theorem kN3_reset : xm (.instanceMethod y3_reset) := ⟨xt1 (List.mem_of_getElem? (i := 185) rfl), rfl⟩
theorem kE3_reset : xm (.selects "ChangeRows$Rows" y3_reset y3_reset) := ⟨xt1 (List.mem_of_getElem? (i := 186) rfl), rfl⟩
theorem kM4_51 : xm (.methodLink "ChangeRows$Table" 51 y4_deriveFilter) := ⟨xt1 (List.mem_of_getElem? (i := 219) rfl), rfl⟩
theorem kD4_deriveFilter : xm (.code y4_deriveFilter c4_deriveFilter 5 none) := ⟨xt1 (List.mem_of_getElem? (i := 222) rfl), rfl⟩
theorem kX4_51 : xcl "ChangeRows$Table" 51 y4_deriveFilter c4_deriveFilter 5 none 1 := ⟨kM4_51, kD4_deriveFilter, kI4, by decide +kernel, by decide⟩
theorem kN4_deriveFilter : xm (.instanceMethod y4_deriveFilter) := ⟨xt1 (List.mem_of_getElem? (i := 221) rfl), rfl⟩
theorem kE4_deriveFilter : xm (.selects "ChangeRows$Table" y4_deriveFilter y4_deriveFilter) := ⟨xt0 (List.mem_of_getElem? (i := 3) rfl), rfl⟩
theorem kM4_55 : xm (.methodLink "ChangeRows$Table" 55 y4_deriveMap) := ⟨xt1 (List.mem_of_getElem? (i := 231) rfl), rfl⟩
theorem kD4_deriveMap : xm (.code y4_deriveMap c4_deriveMap 3 none) := ⟨xt1 (List.mem_of_getElem? (i := 234) rfl), rfl⟩
theorem kX4_55 : xcl "ChangeRows$Table" 55 y4_deriveMap c4_deriveMap 3 none 1 := ⟨kM4_55, kD4_deriveMap, kI4, by decide +kernel, by decide⟩
theorem kN4_deriveMap : xm (.instanceMethod y4_deriveMap) := ⟨xt1 (List.mem_of_getElem? (i := 233) rfl), rfl⟩
theorem kE4_deriveMap : xm (.selects "ChangeRows$Table" y4_deriveMap y4_deriveMap) := ⟨xt0 (List.mem_of_getElem? (i := 4) rfl), rfl⟩
theorem kM4_58 : xm (.methodLink "ChangeRows$Table" 58 y4_deriveFold) := ⟨xt1 (List.mem_of_getElem? (i := 235) rfl), rfl⟩
theorem kD4_deriveFold : xm (.code y4_deriveFold c4_deriveFold 4 none) := ⟨xt1 (List.mem_of_getElem? (i := 238) rfl), rfl⟩
theorem kX4_58 : xcl "ChangeRows$Table" 58 y4_deriveFold c4_deriveFold 4 none 1 := ⟨kM4_58, kD4_deriveFold, kI4, by decide +kernel, by decide⟩
theorem kN4_deriveFold : xm (.instanceMethod y4_deriveFold) := ⟨xt1 (List.mem_of_getElem? (i := 237) rfl), rfl⟩
theorem kE4_deriveFold : xm (.selects "ChangeRows$Table" y4_deriveFold y4_deriveFold) := ⟨xt0 (List.mem_of_getElem? (i := 5) rfl), rfl⟩
theorem kM4_61 : xm (.methodLink "ChangeRows$Table" 61 y4_deriveJoin) := ⟨xt2 (List.mem_of_getElem? (i := 3) rfl), rfl⟩
theorem kD4_deriveJoin : xm (.code y4_deriveJoin c4_deriveJoin 4 none) := ⟨xt2 (List.mem_of_getElem? (i := 6) rfl), rfl⟩
theorem kX4_61 : xcl "ChangeRows$Table" 61 y4_deriveJoin c4_deriveJoin 4 none 2 := ⟨kM4_61, kD4_deriveJoin, kI4, by decide +kernel, by decide⟩
theorem kN4_deriveJoin : xm (.instanceMethod y4_deriveJoin) := ⟨xt2 (List.mem_of_getElem? (i := 5) rfl), rfl⟩
theorem kE4_deriveJoin : xm (.selects "ChangeRows$Table" y4_deriveJoin y4_deriveJoin) := ⟨xt0 (List.mem_of_getElem? (i := 7) rfl), rfl⟩
theorem kM4_65 : xm (.methodLink "ChangeRows$Table" 65 y4_deriveMerge) := ⟨xt2 (List.mem_of_getElem? (i := 7) rfl), rfl⟩
theorem kD4_deriveMerge : xm (.code y4_deriveMerge c4_deriveMerge 4 none) := ⟨xt2 (List.mem_of_getElem? (i := 10) rfl), rfl⟩
theorem kX4_65 : xcl "ChangeRows$Table" 65 y4_deriveMerge c4_deriveMerge 4 none 2 := ⟨kM4_65, kD4_deriveMerge, kI4, by decide +kernel, by decide⟩
theorem kN4_deriveMerge : xm (.instanceMethod y4_deriveMerge) := ⟨xt2 (List.mem_of_getElem? (i := 9) rfl), rfl⟩
theorem kE4_deriveMerge : xm (.selects "ChangeRows$Table" y4_deriveMerge y4_deriveMerge) := ⟨xt0 (List.mem_of_getElem? (i := 8) rfl), rfl⟩
theorem kM4_68 : xm (.methodLink "ChangeRows$Table" 68 y4_deriveBest) := ⟨xt2 (List.mem_of_getElem? (i := 11) rfl), rfl⟩
theorem kD4_deriveBest : xm (.code y4_deriveBest c4_deriveBest 4 none) := ⟨xt2 (List.mem_of_getElem? (i := 14) rfl), rfl⟩
theorem kX4_68 : xcl "ChangeRows$Table" 68 y4_deriveBest c4_deriveBest 4 none 1 := ⟨kM4_68, kD4_deriveBest, kI4, by decide +kernel, by decide⟩
theorem kN4_deriveBest : xm (.instanceMethod y4_deriveBest) := ⟨xt2 (List.mem_of_getElem? (i := 13) rfl), rfl⟩
theorem kE4_deriveBest : xm (.selects "ChangeRows$Table" y4_deriveBest y4_deriveBest) := ⟨xt0 (List.mem_of_getElem? (i := 9) rfl), rfl⟩
theorem kM4_71 : xm (.methodLink "ChangeRows$Table" 71 y4_deriveLook) := ⟨xt2 (List.mem_of_getElem? (i := 19) rfl), rfl⟩
theorem kD4_deriveLook : xm (.code y4_deriveLook c4_deriveLook 5 none) := ⟨xt2 (List.mem_of_getElem? (i := 22) rfl), rfl⟩
theorem kX4_71 : xcl "ChangeRows$Table" 71 y4_deriveLook c4_deriveLook 5 none 2 := ⟨kM4_71, kD4_deriveLook, kI4, by decide +kernel, by decide⟩
theorem kN4_deriveLook : xm (.instanceMethod y4_deriveLook) := ⟨xt2 (List.mem_of_getElem? (i := 21) rfl), rfl⟩
theorem kE4_deriveLook : xm (.selects "ChangeRows$Table" y4_deriveLook y4_deriveLook) := ⟨xt0 (List.mem_of_getElem? (i := 11) rfl), rfl⟩
theorem kM3_31 : xm (.methodLink "ChangeRows$Rows" 31 arraycopyName) := ⟨xt2 (List.mem_of_getElem? (i := 28) rfl), rfl⟩
theorem kNarraycopy : xm (.native arraycopyName) := ⟨xt2 (List.mem_of_getElem? (i := 30) rfl), rfl⟩
theorem kSarraycopy : xm (.static arraycopyName) := ⟨xt2 (List.mem_of_getElem? (i := 29) rfl), rfl⟩
theorem kIS : xm (.initialized "java/lang/System") := ⟨xt1 (List.mem_of_getElem? (i := 9) rfl), rfl⟩
theorem kF1_15 : xm (.fieldLink "ChangeRows$Batch" 15 "ChangeRows$Batch" "size" "I") := ⟨xt1 (List.mem_of_getElem? (i := 29) rfl), rfl⟩
theorem kF1_19 : xm (.fieldLink "ChangeRows$Batch" 19 "ChangeRows$Batch" "table" "[I") := ⟨xt1 (List.mem_of_getElem? (i := 31) rfl), rfl⟩
theorem kF1_23 : xm (.fieldLink "ChangeRows$Batch" 23 "ChangeRows$Batch" "key" "[I") := ⟨xt1 (List.mem_of_getElem? (i := 33) rfl), rfl⟩
theorem kF1_26 : xm (.fieldLink "ChangeRows$Batch" 26 "ChangeRows$Batch" "stays" "[Z") := ⟨xt1 (List.mem_of_getElem? (i := 35) rfl), rfl⟩
theorem kF1_30 : xm (.fieldLink "ChangeRows$Batch" 30 "ChangeRows$Batch" "value" "[J") := ⟨xt1 (List.mem_of_getElem? (i := 37) rfl), rfl⟩
theorem kC3_41 : xm (.constantLong "ChangeRows$Rows" 41 (-1)) := ⟨xt2 (List.mem_of_getElem? (i := 83) rfl), rfl⟩
theorem kM3_37 : xm (.methodLink "ChangeRows$Rows" 37 y3_set) := ⟨xt2 (List.mem_of_getElem? (i := 82) rfl), rfl⟩
theorem kX3_37 : xcl "ChangeRows$Rows" 37 y3_set c3_set 4 none 2 := ⟨kM3_37, kD3_set, kI3, by decide +kernel, by decide⟩
theorem kCL_314 : xm (.constantLong "java/lang/Long" 314 6148914691236517205) := ⟨xt2 (List.mem_of_getElem? (i := 103) rfl), rfl⟩
theorem kCL_316 : xm (.constantLong "java/lang/Long" 316 3689348814741910323) := ⟨xt2 (List.mem_of_getElem? (i := 104) rfl), rfl⟩
theorem kCL_318 : xm (.constantLong "java/lang/Long" 318 1085102592571150095) := ⟨xt2 (List.mem_of_getElem? (i := 105) rfl), rfl⟩
theorem kF2_21 : xm (.fieldLink "ChangeRows$Changes" 21 "ChangeRows$Changes" "spot" "[I") := ⟨xt1 (List.mem_of_getElem? (i := 66) rfl), rfl⟩
theorem kM2_32 : xm (.methodLink "ChangeRows$Changes" 32 y3_holds) := ⟨xt2 (List.mem_of_getElem? (i := 118) rfl), rfl⟩
theorem kX2_32 : xcl "ChangeRows$Changes" 32 y3_holds c3_holds 2 (some .boolean) 1 := ⟨kM2_32, kD3_holds, kI3, by decide +kernel, by decide⟩
theorem kF2_25 : xm (.fieldLink "ChangeRows$Changes" 25 "ChangeRows$Changes" "old" "[J") := ⟨xt1 (List.mem_of_getElem? (i := 67) rfl), rfl⟩
theorem kF2_38 : xm (.fieldLink "ChangeRows$Changes" 38 "ChangeRows$Rows" "values" "[J") := ⟨xt1 (List.mem_of_getElem? (i := 89) rfl), rfl⟩
theorem kF2_29 : xm (.fieldLink "ChangeRows$Changes" 29 "ChangeRows$Changes" "now" "[J") := ⟨xt1 (List.mem_of_getElem? (i := 69) rfl), rfl⟩
theorem kM2_41 : xm (.methodLink "ChangeRows$Changes" 41 Lib.Math.min.name) := ⟨xt2 (List.mem_of_getElem? (i := 123) rfl), rfl⟩
theorem kSMathminI : xm (.static Lib.Math.min.name) := ⟨xt2 (List.mem_of_getElem? (i := 124) rfl), rfl⟩
theorem kIM : xm (.initialized "java/lang/Math") := ⟨xt1 (List.mem_of_getElem? (i := 4) rfl), rfl⟩
theorem kDMathminI : xm (.code Lib.Math.min.name Lib.Math.min.code 2 (some .int)) := ⟨xt2 (List.mem_of_getElem? (i := 125) rfl), rfl⟩
theorem kM2_44 : xm (.methodLink "ChangeRows$Changes" 44 arraycopyName) := ⟨xt2 (List.mem_of_getElem? (i := 126) rfl), rfl⟩
theorem kM3_19 : xm (.methodLink "ChangeRows$Rows" 19 yL_bitCount) := ⟨xt2 (List.mem_of_getElem? (i := 199) rfl), rfl⟩
theorem kDL_bitCount : xm (.code yL_bitCount cL_bitCount 2 (some .int)) := ⟨xt2 (List.mem_of_getElem? (i := 102) rfl), rfl⟩
theorem kIL : xm (.initialized "java/lang/Long") := ⟨xt1 (List.mem_of_getElem? (i := 10) rfl), rfl⟩
theorem kX3_19 : xcl "ChangeRows$Rows" 19 yL_bitCount cL_bitCount 2 (some .int) 1 := ⟨kM3_19, kDL_bitCount, kIL, by decide +kernel, by decide⟩
theorem kSL_bitCount : xm (.static yL_bitCount) := ⟨xt2 (List.mem_of_getElem? (i := 101) rfl), rfl⟩
theorem kF0_15 : xm (.fieldLink "ChangeRows" 15 "ChangeRows" "made" "I") := ⟨xt1 (List.mem_of_getElem? (i := 142) rfl), rfl⟩
theorem kF0_22 : xm (.fieldLink "ChangeRows" 22 "ChangeRows" "batch" "LChangeRows$Batch;") := ⟨xt1 (List.mem_of_getElem? (i := 143) rfl), rfl⟩
theorem kM0_58 : xm (.methodLink "ChangeRows" 58 y1_close) := ⟨xt1 (List.mem_of_getElem? (i := 176) rfl), rfl⟩
theorem kD1_close : xm (.code y1_close c1_close 1 none) := ⟨xt1 (List.mem_of_getElem? (i := 179) rfl), rfl⟩
theorem kI1 : xm (.initialized "ChangeRows$Batch") := ⟨xt1 (List.mem_of_getElem? (i := 2) rfl), rfl⟩
theorem kX0_58 : xcl "ChangeRows" 58 y1_close c1_close 1 none 0 := ⟨kM0_58, kD1_close, kI1, by decide +kernel, by decide⟩
theorem kN1_close : xm (.instanceMethod y1_close) := ⟨xt1 (List.mem_of_getElem? (i := 177) rfl), rfl⟩
theorem kE1_close : xm (.selects "ChangeRows$Batch" y1_close y1_close) := ⟨xt1 (List.mem_of_getElem? (i := 178) rfl), rfl⟩
theorem kF0_31 : xm (.fieldLink "ChangeRows" 31 "ChangeRows" "log" "LChangeRows$Changes;") := ⟨xt1 (List.mem_of_getElem? (i := 144) rfl), rfl⟩
theorem kM0_61 : xm (.methodLink "ChangeRows" 61 y2_reset) := ⟨xt1 (List.mem_of_getElem? (i := 180) rfl), rfl⟩
theorem kD2_reset : xm (.code y2_reset c2_reset 1 none) := ⟨xt1 (List.mem_of_getElem? (i := 183) rfl), rfl⟩
theorem kI2 : xm (.initialized "ChangeRows$Changes") := ⟨xt1 (List.mem_of_getElem? (i := 3) rfl), rfl⟩
theorem kX0_61 : xcl "ChangeRows" 61 y2_reset c2_reset 1 none 0 := ⟨kM0_61, kD2_reset, kI2, by decide +kernel, by decide⟩
theorem kN2_reset : xm (.instanceMethod y2_reset) := ⟨xt1 (List.mem_of_getElem? (i := 181) rfl), rfl⟩
theorem kE2_reset : xm (.selects "ChangeRows$Changes" y2_reset y2_reset) := ⟨xt1 (List.mem_of_getElem? (i := 182) rfl), rfl⟩
theorem kF0_35 : xm (.fieldLink "ChangeRows" 35 "ChangeRows" "lastTold" "LChangeRows$Changes;") := ⟨xt1 (List.mem_of_getElem? (i := 145) rfl), rfl⟩
theorem kF0_38 : xm (.fieldLink "ChangeRows" 38 "ChangeRows" "lastNet" "LChangeRows$Changes;") := ⟨xt1 (List.mem_of_getElem? (i := 146) rfl), rfl⟩
theorem kF0_44 : xm (.fieldLink "ChangeRows" 44 "ChangeRows" "kept" "LChangeRows$Rows;") := ⟨xt1 (List.mem_of_getElem? (i := 147) rfl), rfl⟩
theorem kM0_64 : xm (.methodLink "ChangeRows" 64 y3_reset) := ⟨xt1 (List.mem_of_getElem? (i := 184) rfl), rfl⟩
theorem kX0_64 : xcl "ChangeRows" 64 y3_reset c3_reset 1 none 0 := ⟨kM0_64, kD3_reset, kI3, by decide +kernel, by decide⟩
theorem kM0_73 : xm (.methodLink "ChangeRows" 73 y0_isWithin) := ⟨xt1 (List.mem_of_getElem? (i := 211) rfl), rfl⟩
theorem kD0_isWithin : xm (.code y0_isWithin c0_isWithin 3 (some .boolean)) := ⟨xt1 (List.mem_of_getElem? (i := 213) rfl), rfl⟩
theorem kI0 : xm (.initialized "ChangeRows") := ⟨xt1 (List.mem_of_getElem? (i := 1) rfl), rfl⟩
theorem kX0_73 : xcl "ChangeRows" 73 y0_isWithin c0_isWithin 3 (some .boolean) 3 := ⟨kM0_73, kD0_isWithin, kI0, by decide +kernel, by decide⟩
theorem kS0_isWithin : xm (.static y0_isWithin) := ⟨xt1 (List.mem_of_getElem? (i := 212) rfl), rfl⟩
theorem kM0_69 : xm (.methodLink "ChangeRows" 69 y0_isTable) := ⟨xt1 (List.mem_of_getElem? (i := 207) rfl), rfl⟩
theorem kD0_isTable : xm (.code y0_isTable c0_isTable 2 (some .boolean)) := ⟨xt1 (List.mem_of_getElem? (i := 210) rfl), rfl⟩
theorem kX0_69 : xcl "ChangeRows" 69 y0_isTable c0_isTable 2 (some .boolean) 1 := ⟨kM0_69, kD0_isTable, kI0, by decide +kernel, by decide⟩
theorem kN0_isTable : xm (.instanceMethod y0_isTable) := ⟨xt1 (List.mem_of_getElem? (i := 209) rfl), rfl⟩
theorem kE0_isTable : xm (.selects "ChangeRows" y0_isTable y0_isTable) := ⟨xt0 (List.mem_of_getElem? (i := 2) rfl), rfl⟩
theorem kF0_54 : xm (.fieldLink "ChangeRows" 54 "ChangeRows" "nothing" "LChangeRows$Rows;") := ⟨xt1 (List.mem_of_getElem? (i := 150) rfl), rfl⟩
theorem kF0_11 : xm (.fieldLink "ChangeRows" 11 "ChangeRows" "tables" "[LChangeRows$Table;") := ⟨xt1 (List.mem_of_getElem? (i := 141) rfl), rfl⟩
theorem kF0_101 : xm (.fieldLink "ChangeRows" 101 "ChangeRows$Table" "next" "LChangeRows$Rows;") := ⟨xt1 (List.mem_of_getElem? (i := 114) rfl), rfl⟩
theorem kF0_87 : xm (.fieldLink "ChangeRows" 87 "ChangeRows$Batch" "isOpen" "Z") := ⟨xt1 (List.mem_of_getElem? (i := 28) rfl), rfl⟩
theorem kM0_193 : xm (.methodLink "ChangeRows" 193 y4_define) := ⟨xt1 (List.mem_of_getElem? (i := 199) rfl), rfl⟩
theorem kD4_define : xm (.code y4_define c4_define 8 none) := ⟨xt1 (List.mem_of_getElem? (i := 202) rfl), rfl⟩
theorem kX0_193 : xcl "ChangeRows" 193 y4_define c4_define 8 none 5 := ⟨kM0_193, kD4_define, kI4, by decide +kernel, by decide⟩
theorem kN4_define : xm (.instanceMethod y4_define) := ⟨xt1 (List.mem_of_getElem? (i := 200) rfl), rfl⟩
theorem kE4_define : xm (.selects "ChangeRows$Table" y4_define y4_define) := ⟨xt1 (List.mem_of_getElem? (i := 201) rfl), rfl⟩
theorem kM0_197 : xm (.methodLink "ChangeRows" 197 y0_nextOf) := ⟨xt1 (List.mem_of_getElem? (i := 203) rfl), rfl⟩
theorem kD0_nextOf : xm (.code y0_nextOf c0_nextOf 2 (some (.object "ChangeRows$Rows"))) := ⟨xt1 (List.mem_of_getElem? (i := 206) rfl), rfl⟩
theorem kX0_197 : xcl "ChangeRows" 197 y0_nextOf c0_nextOf 2 (some (.object "ChangeRows$Rows")) 1 := ⟨kM0_197, kD0_nextOf, kI0, by decide +kernel, by decide⟩
theorem kN0_nextOf : xm (.instanceMethod y0_nextOf) := ⟨xt1 (List.mem_of_getElem? (i := 205) rfl), rfl⟩
theorem kE0_nextOf : xm (.selects "ChangeRows" y0_nextOf y0_nextOf) := ⟨xt0 (List.mem_of_getElem? (i := 1) rfl), rfl⟩
theorem kM0_200 : xm (.methodLink "ChangeRows" 200 y4_derive) := ⟨xt1 (List.mem_of_getElem? (i := 214) rfl), rfl⟩
theorem kD4_derive : xm (.code y4_derive c4_derive 3 none) := ⟨xt1 (List.mem_of_getElem? (i := 217) rfl), rfl⟩
theorem kX0_200 : xcl "ChangeRows" 200 y4_derive c4_derive 3 none 2 := ⟨kM0_200, kD4_derive, kI4, by decide +kernel, by decide⟩
theorem kN4_derive : xm (.instanceMethod y4_derive) := ⟨xt1 (List.mem_of_getElem? (i := 215) rfl), rfl⟩
theorem kE4_derive : xm (.selects "ChangeRows$Table" y4_derive y4_derive) := ⟨xt1 (List.mem_of_getElem? (i := 216) rfl), rfl⟩
theorem kF0_147 : xm (.fieldLink "ChangeRows" 147 "ChangeRows$Table" "now" "LChangeRows$Rows;") := ⟨xt1 (List.mem_of_getElem? (i := 112) rfl), rfl⟩
theorem kM0_149 : xm (.methodLink "ChangeRows" 149 y3_become) := ⟨xt2 (List.mem_of_getElem? (i := 24) rfl), rfl⟩
theorem kD3_become : xm (.code y3_become c3_become 2 none) := ⟨xt2 (List.mem_of_getElem? (i := 27) rfl), rfl⟩
theorem kX0_149 : xcl "ChangeRows" 149 y3_become c3_become 2 none 1 := ⟨kM0_149, kD3_become, kI3, by decide +kernel, by decide⟩
theorem kN3_become : xm (.instanceMethod y3_become) := ⟨xt2 (List.mem_of_getElem? (i := 25) rfl), rfl⟩
theorem kE3_become : xm (.selects "ChangeRows$Rows" y3_become y3_become) := ⟨xt2 (List.mem_of_getElem? (i := 26) rfl), rfl⟩
theorem kF0_144 : xm (.fieldLink "ChangeRows" 144 "ChangeRows$Table" "base" "LChangeRows$Rows;") := ⟨xt1 (List.mem_of_getElem? (i := 116) rfl), rfl⟩
theorem kM0_65 : xm (.methodLink "ChangeRows" 65 y0_make) := ⟨xt1 (List.mem_of_getElem? (i := 195) rfl), rfl⟩
theorem kD0_make : xm (.code y0_make c0_make 9 (some .int)) := ⟨xt1 (List.mem_of_getElem? (i := 198) rfl), rfl⟩
theorem kX0_65 : xcl "ChangeRows" 65 y0_make c0_make 9 (some .int) 5 := ⟨kM0_65, kD0_make, kI0, by decide +kernel, by decide⟩
theorem kN0_make : xm (.instanceMethod y0_make) := ⟨xt1 (List.mem_of_getElem? (i := 197) rfl), rfl⟩
theorem kE0_make : xm (.selects "ChangeRows" y0_make y0_make) := ⟨xt0 (List.mem_of_getElem? (i := 0) rfl), rfl⟩
theorem kF0_184 : xm (.fieldLink "ChangeRows" 184 "ChangeRows$Table" "sort" "I") := ⟨xt1 (List.mem_of_getElem? (i := 104) rfl), rfl⟩
theorem kF0_219 : xm (.fieldLink "ChangeRows" 219 "ChangeRows$Table" "moved" "J") := ⟨xt1 (List.mem_of_getElem? (i := 119) rfl), rfl⟩
theorem kF0_187 : xm (.fieldLink "ChangeRows" 187 "ChangeRows$Table" "t" "I") := ⟨xt1 (List.mem_of_getElem? (i := 106) rfl), rfl⟩
theorem kM0_216 : xm (.methodLink "ChangeRows" 216 y0_isMoved) := ⟨xt2 (List.mem_of_getElem? (i := 92) rfl), rfl⟩
theorem kD0_isMoved : xm (.code y0_isMoved c0_isMoved 2 (some .boolean)) := ⟨xt2 (List.mem_of_getElem? (i := 95) rfl), rfl⟩
theorem kX0_216 : xcl "ChangeRows" 216 y0_isMoved c0_isMoved 2 (some .boolean) 1 := ⟨kM0_216, kD0_isMoved, kI0, by decide +kernel, by decide⟩
theorem kN0_isMoved : xm (.instanceMethod y0_isMoved) := ⟨xt2 (List.mem_of_getElem? (i := 94) rfl), rfl⟩
theorem kE0_isMoved : xm (.selects "ChangeRows" y0_isMoved y0_isMoved) := ⟨xt0 (List.mem_of_getElem? (i := 16) rfl), rfl⟩
theorem kF0_190 : xm (.fieldLink "ChangeRows" 190 "ChangeRows$Table" "u" "I") := ⟨xt1 (List.mem_of_getElem? (i := 108) rfl), rfl⟩
theorem kM0_157 : xm (.methodLink "ChangeRows" 157 y3_differing) := ⟨xt2 (List.mem_of_getElem? (i := 96) rfl), rfl⟩
theorem kD3_differing : xm (.code y3_differing c3_differing 5 (some .long)) := ⟨xt2 (List.mem_of_getElem? (i := 99) rfl), rfl⟩
theorem kX0_157 : xcl "ChangeRows" 157 y3_differing c3_differing 5 (some .long) 1 := ⟨kM0_157, kD3_differing, kI3, by decide +kernel, by decide⟩
theorem kN3_differing : xm (.instanceMethod y3_differing) := ⟨xt2 (List.mem_of_getElem? (i := 97) rfl), rfl⟩
theorem kE3_differing : xm (.selects "ChangeRows$Rows" y3_differing y3_differing) := ⟨xt2 (List.mem_of_getElem? (i := 98) rfl), rfl⟩
theorem kM0_223 : xm (.methodLink "ChangeRows" 223 yL_bitCount) := ⟨xt2 (List.mem_of_getElem? (i := 100) rfl), rfl⟩
theorem kX0_223 : xcl "ChangeRows" 223 yL_bitCount cL_bitCount 2 (some .int) 1 := ⟨kM0_223, kDL_bitCount, kIL, by decide +kernel, by decide⟩
theorem kM0_229 : xm (.methodLink "ChangeRows" 229 y2_addAll) := ⟨xt2 (List.mem_of_getElem? (i := 119) rfl), rfl⟩
theorem kD2_addAll : xm (.code y2_addAll c2_addAll 3 none) := ⟨xt2 (List.mem_of_getElem? (i := 122) rfl), rfl⟩
theorem kX0_229 : xcl "ChangeRows" 229 y2_addAll c2_addAll 3 none 1 := ⟨kM0_229, kD2_addAll, kI2, by decide +kernel, by decide⟩
theorem kN2_addAll : xm (.instanceMethod y2_addAll) := ⟨xt2 (List.mem_of_getElem? (i := 120) rfl), rfl⟩
theorem kE2_addAll : xm (.selects "ChangeRows$Changes" y2_addAll y2_addAll) := ⟨xt2 (List.mem_of_getElem? (i := 121) rfl), rfl⟩
theorem kM0_161 : xm (.methodLink "ChangeRows" 161 y2_addSteps) := ⟨xt2 (List.mem_of_getElem? (i := 114) rfl), rfl⟩
theorem kD2_addSteps : xm (.code y2_addSteps c2_addSteps 8 none) := ⟨xt2 (List.mem_of_getElem? (i := 117) rfl), rfl⟩
theorem kX0_161 : xcl "ChangeRows" 161 y2_addSteps c2_addSteps 8 none 4 := ⟨kM0_161, kD2_addSteps, kI2, by decide +kernel, by decide⟩
theorem kN2_addSteps : xm (.instanceMethod y2_addSteps) := ⟨xt2 (List.mem_of_getElem? (i := 115) rfl), rfl⟩
theorem kE2_addSteps : xm (.selects "ChangeRows$Changes" y2_addSteps y2_addSteps) := ⟨xt2 (List.mem_of_getElem? (i := 116) rfl), rfl⟩
theorem kM0_207 : xm (.methodLink "ChangeRows" 207 y0_follow) := ⟨xt2 (List.mem_of_getElem? (i := 88) rfl), rfl⟩
theorem kD0_follow : xm (.code y0_follow c0_follow 4 (some .int)) := ⟨xt2 (List.mem_of_getElem? (i := 91) rfl), rfl⟩
theorem kX0_207 : xcl "ChangeRows" 207 y0_follow c0_follow 4 (some .int) 0 := ⟨kM0_207, kD0_follow, kI0, by decide +kernel, by decide⟩
theorem kN0_follow : xm (.instanceMethod y0_follow) := ⟨xt2 (List.mem_of_getElem? (i := 90) rfl), rfl⟩
theorem kE0_follow : xm (.selects "ChangeRows" y0_follow y0_follow) := ⟨xt0 (List.mem_of_getElem? (i := 15) rfl), rfl⟩
theorem kF0_123 : xm (.fieldLink "ChangeRows" 123 "ChangeRows$Changes" "size" "I") := ⟨xt1 (List.mem_of_getElem? (i := 65) rfl), rfl⟩
theorem kM0_213 : xm (.methodLink "ChangeRows" 213 y0_tell) := ⟨xt2 (List.mem_of_getElem? (i := 110) rfl), rfl⟩
theorem kD0_tell : xm (.code y0_tell c0_tell 3 none) := ⟨xt2 (List.mem_of_getElem? (i := 113) rfl), rfl⟩
theorem kX0_213 : xcl "ChangeRows" 213 y0_tell c0_tell 3 none 0 := ⟨kM0_213, kD0_tell, kI0, by decide +kernel, by decide⟩
theorem kN0_tell : xm (.instanceMethod y0_tell) := ⟨xt2 (List.mem_of_getElem? (i := 112) rfl), rfl⟩
theorem kE0_tell : xm (.selects "ChangeRows" y0_tell y0_tell) := ⟨xt0 (List.mem_of_getElem? (i := 18) rfl), rfl⟩
theorem kM0_210 : xm (.methodLink "ChangeRows" 210 y0_takeBack) := ⟨xt2 (List.mem_of_getElem? (i := 106) rfl), rfl⟩
theorem kD0_takeBack : xm (.code y0_takeBack c0_takeBack 2 none) := ⟨xt2 (List.mem_of_getElem? (i := 109) rfl), rfl⟩
theorem kX0_210 : xcl "ChangeRows" 210 y0_takeBack c0_takeBack 2 none 0 := ⟨kM0_210, kD0_takeBack, kI0, by decide +kernel, by decide⟩
theorem kN0_takeBack : xm (.instanceMethod y0_takeBack) := ⟨xt2 (List.mem_of_getElem? (i := 108) rfl), rfl⟩
theorem kE0_takeBack : xm (.selects "ChangeRows" y0_takeBack y0_takeBack) := ⟨xt0 (List.mem_of_getElem? (i := 17) rfl), rfl⟩
theorem kM0_115 : xm (.methodLink "ChangeRows" 115 y3_write) := ⟨xt2 (List.mem_of_getElem? (i := 78) rfl), rfl⟩
theorem kD3_write : xm (.code y3_write c3_write 5 none) := ⟨xt2 (List.mem_of_getElem? (i := 81) rfl), rfl⟩
theorem kX0_115 : xcl "ChangeRows" 115 y3_write c3_write 5 none 3 := ⟨kM0_115, kD3_write, kI3, by decide +kernel, by decide⟩
theorem kN3_write : xm (.instanceMethod y3_write) := ⟨xt2 (List.mem_of_getElem? (i := 79) rfl), rfl⟩
theorem kE3_write : xm (.selects "ChangeRows$Rows" y3_write y3_write) := ⟨xt2 (List.mem_of_getElem? (i := 80) rfl), rfl⟩
theorem kM0_119 : xm (.methodLink "ChangeRows" 119 y0_settle) := ⟨xt2 (List.mem_of_getElem? (i := 84) rfl), rfl⟩
theorem kD0_settle : xm (.code y0_settle c0_settle 2 (some .int)) := ⟨xt2 (List.mem_of_getElem? (i := 87) rfl), rfl⟩
theorem kX0_119 : xcl "ChangeRows" 119 y0_settle c0_settle 2 (some .int) 0 := ⟨kM0_119, kD0_settle, kI0, by decide +kernel, by decide⟩
theorem kN0_settle : xm (.instanceMethod y0_settle) := ⟨xt2 (List.mem_of_getElem? (i := 86) rfl), rfl⟩
theorem kE0_settle : xm (.selects "ChangeRows" y0_settle y0_settle) := ⟨xt0 (List.mem_of_getElem? (i := 14) rfl), rfl⟩
theorem kM0_204 : xm (.methodLink "ChangeRows" 204 y1_gather) := ⟨xt2 (List.mem_of_getElem? (i := 74) rfl), rfl⟩
theorem kD1_gather : xm (.code y1_gather c1_gather 6 (some .int)) := ⟨xt2 (List.mem_of_getElem? (i := 77) rfl), rfl⟩
theorem kX0_204 : xcl "ChangeRows" 204 y1_gather c1_gather 6 (some .int) 4 := ⟨kM0_204, kD1_gather, kI1, by decide +kernel, by decide⟩
theorem kN1_gather : xm (.instanceMethod y1_gather) := ⟨xt2 (List.mem_of_getElem? (i := 75) rfl), rfl⟩
theorem kE1_gather : xm (.selects "ChangeRows$Batch" y1_gather y1_gather) := ⟨xt2 (List.mem_of_getElem? (i := 76) rfl), rfl⟩
theorem kM0_77 : xm (.methodLink "ChangeRows" 77 y0_isSource) := ⟨xt2 (List.mem_of_getElem? (i := 63) rfl), rfl⟩
theorem kD0_isSource : xm (.code y0_isSource c0_isSource 2 (some .boolean)) := ⟨xt2 (List.mem_of_getElem? (i := 66) rfl), rfl⟩
theorem kX0_77 : xcl "ChangeRows" 77 y0_isSource c0_isSource 2 (some .boolean) 1 := ⟨kM0_77, kD0_isSource, kI0, by decide +kernel, by decide⟩
theorem kN0_isSource : xm (.instanceMethod y0_isSource) := ⟨xt2 (List.mem_of_getElem? (i := 65) rfl), rfl⟩
theorem kE0_isSource : xm (.selects "ChangeRows" y0_isSource y0_isSource) := ⟨xt0 (List.mem_of_getElem? (i := 12) rfl), rfl⟩
theorem kM0_80 : xm (.methodLink "ChangeRows" 80 y0_isKey) := ⟨xt2 (List.mem_of_getElem? (i := 67) rfl), rfl⟩
theorem kD0_isKey : xm (.code y0_isKey c0_isKey 1 (some .boolean)) := ⟨xt2 (List.mem_of_getElem? (i := 69) rfl), rfl⟩
theorem kX0_80 : xcl "ChangeRows" 80 y0_isKey c0_isKey 1 (some .boolean) 1 := ⟨kM0_80, kD0_isKey, kI0, by decide +kernel, by decide⟩
theorem kS0_isKey : xm (.static y0_isKey) := ⟨xt2 (List.mem_of_getElem? (i := 68) rfl), rfl⟩
theorem kM0_83 : xm (.methodLink "ChangeRows" 83 y0_alter) := ⟨xt2 (List.mem_of_getElem? (i := 70) rfl), rfl⟩
theorem kD0_alter : xm (.code y0_alter c0_alter 6 (some .int)) := ⟨xt2 (List.mem_of_getElem? (i := 73) rfl), rfl⟩
theorem kX0_83 : xcl "ChangeRows" 83 y0_alter c0_alter 6 (some .int) 4 := ⟨kM0_83, kD0_alter, kI0, by decide +kernel, by decide⟩
theorem kN0_alter : xm (.instanceMethod y0_alter) := ⟨xt2 (List.mem_of_getElem? (i := 72) rfl), rfl⟩
theorem kE0_alter : xm (.selects "ChangeRows" y0_alter y0_alter) := ⟨xt0 (List.mem_of_getElem? (i := 13) rfl), rfl⟩
theorem kM0_91 : xm (.methodLink "ChangeRows" 91 y1_open) := ⟨xt2 (List.mem_of_getElem? (i := 135) rfl), rfl⟩
theorem kD1_open : xm (.code y1_open c1_open 1 none) := ⟨xt2 (List.mem_of_getElem? (i := 138) rfl), rfl⟩
theorem kX0_91 : xcl "ChangeRows" 91 y1_open c1_open 1 none 0 := ⟨kM0_91, kD1_open, kI1, by decide +kernel, by decide⟩
theorem kN1_open : xm (.instanceMethod y1_open) := ⟨xt2 (List.mem_of_getElem? (i := 136) rfl), rfl⟩
theorem kE1_open : xm (.selects "ChangeRows$Batch" y1_open y1_open) := ⟨xt2 (List.mem_of_getElem? (i := 137) rfl), rfl⟩
theorem kF0_94 : xm (.fieldLink "ChangeRows" 94 "ChangeRows$Batch" "size" "I") := ⟨xt1 (List.mem_of_getElem? (i := 30) rfl), rfl⟩
theorem kF0_97 : xm (.fieldLink "ChangeRows" 97 "ChangeRows$Batch" "table" "[I") := ⟨xt1 (List.mem_of_getElem? (i := 32) rfl), rfl⟩
theorem kF0_104 : xm (.fieldLink "ChangeRows" 104 "ChangeRows$Batch" "key" "[I") := ⟨xt1 (List.mem_of_getElem? (i := 34) rfl), rfl⟩
theorem kF0_107 : xm (.fieldLink "ChangeRows" 107 "ChangeRows$Batch" "stays" "[Z") := ⟨xt1 (List.mem_of_getElem? (i := 36) rfl), rfl⟩
theorem kF0_111 : xm (.fieldLink "ChangeRows" 111 "ChangeRows$Batch" "value" "[J") := ⟨xt1 (List.mem_of_getElem? (i := 38) rfl), rfl⟩
theorem kM0_124 : xm (.methodLink "ChangeRows" 124 y0_changesOf) := ⟨xt2 (List.mem_of_getElem? (i := 155) rfl), rfl⟩
theorem kD0_changesOf : xm (.code y0_changesOf c0_changesOf 2 (some (.object "ChangeRows$Changes"))) := ⟨xt2 (List.mem_of_getElem? (i := 158) rfl), rfl⟩
theorem kX0_124 : xcl "ChangeRows" 124 y0_changesOf c0_changesOf 2 (some (.object "ChangeRows$Changes")) 1 := ⟨kM0_124, kD0_changesOf, kI0, by decide +kernel, by decide⟩
theorem kN0_changesOf : xm (.instanceMethod y0_changesOf) := ⟨xt2 (List.mem_of_getElem? (i := 157) rfl), rfl⟩
theorem kE0_changesOf : xm (.selects "ChangeRows" y0_changesOf y0_changesOf) := ⟨xt0 (List.mem_of_getElem? (i := 19) rfl), rfl⟩
theorem kM0_128 : xm (.methodLink "ChangeRows" 128 y2_tableOf) := ⟨xt2 (List.mem_of_getElem? (i := 159) rfl), rfl⟩
theorem kD2_tableOf : xm (.code y2_tableOf c2_tableOf 2 (some .int)) := ⟨xt2 (List.mem_of_getElem? (i := 162) rfl), rfl⟩
theorem kX0_128 : xcl "ChangeRows" 128 y2_tableOf c2_tableOf 2 (some .int) 1 := ⟨kM0_128, kD2_tableOf, kI2, by decide +kernel, by decide⟩
theorem kN2_tableOf : xm (.instanceMethod y2_tableOf) := ⟨xt2 (List.mem_of_getElem? (i := 160) rfl), rfl⟩
theorem kE2_tableOf : xm (.selects "ChangeRows$Changes" y2_tableOf y2_tableOf) := ⟨xt2 (List.mem_of_getElem? (i := 161) rfl), rfl⟩
theorem kM0_132 : xm (.methodLink "ChangeRows" 132 y2_sortOf) := ⟨xt2 (List.mem_of_getElem? (i := 163) rfl), rfl⟩
theorem kD2_sortOf : xm (.code y2_sortOf c2_sortOf 2 (some .int)) := ⟨xt2 (List.mem_of_getElem? (i := 166) rfl), rfl⟩
theorem kX0_132 : xcl "ChangeRows" 132 y2_sortOf c2_sortOf 2 (some .int) 1 := ⟨kM0_132, kD2_sortOf, kI2, by decide +kernel, by decide⟩
theorem kN2_sortOf : xm (.instanceMethod y2_sortOf) := ⟨xt2 (List.mem_of_getElem? (i := 164) rfl), rfl⟩
theorem kE2_sortOf : xm (.selects "ChangeRows$Changes" y2_sortOf y2_sortOf) := ⟨xt2 (List.mem_of_getElem? (i := 165) rfl), rfl⟩
theorem kM0_135 : xm (.methodLink "ChangeRows" 135 y2_keyOf) := ⟨xt2 (List.mem_of_getElem? (i := 167) rfl), rfl⟩
theorem kD2_keyOf : xm (.code y2_keyOf c2_keyOf 2 (some .int)) := ⟨xt2 (List.mem_of_getElem? (i := 170) rfl), rfl⟩
theorem kX0_135 : xcl "ChangeRows" 135 y2_keyOf c2_keyOf 2 (some .int) 1 := ⟨kM0_135, kD2_keyOf, kI2, by decide +kernel, by decide⟩
theorem kN2_keyOf : xm (.instanceMethod y2_keyOf) := ⟨xt2 (List.mem_of_getElem? (i := 168) rfl), rfl⟩
theorem kE2_keyOf : xm (.selects "ChangeRows$Changes" y2_keyOf y2_keyOf) := ⟨xt2 (List.mem_of_getElem? (i := 169) rfl), rfl⟩
theorem kF0_138 : xm (.fieldLink "ChangeRows" 138 "ChangeRows$Changes" "old" "[J") := ⟨xt1 (List.mem_of_getElem? (i := 68) rfl), rfl⟩
theorem kF0_141 : xm (.fieldLink "ChangeRows" 141 "ChangeRows$Changes" "now" "[J") := ⟨xt1 (List.mem_of_getElem? (i := 70) rfl), rfl⟩
theorem kF0_48 : xm (.fieldLink "ChangeRows" 48 "ChangeRows" "earlier" "LChangeRows$Rows;") := ⟨xt1 (List.mem_of_getElem? (i := 148) rfl), rfl⟩
theorem kM0_153 : xm (.methodLink "ChangeRows" 153 y0_rowsBehind) := ⟨xt2 (List.mem_of_getElem? (i := 187) rfl), rfl⟩
theorem kD0_rowsBehind : xm (.code y0_rowsBehind c0_rowsBehind 5 none) := ⟨xt2 (List.mem_of_getElem? (i := 190) rfl), rfl⟩
theorem kX0_153 : xcl "ChangeRows" 153 y0_rowsBehind c0_rowsBehind 5 none 3 := ⟨kM0_153, kD0_rowsBehind, kI0, by decide +kernel, by decide⟩
theorem kN0_rowsBehind : xm (.instanceMethod y0_rowsBehind) := ⟨xt2 (List.mem_of_getElem? (i := 189) rfl), rfl⟩
theorem kE0_rowsBehind : xm (.selects "ChangeRows" y0_rowsBehind y0_rowsBehind) := ⟨xt0 (List.mem_of_getElem? (i := 20) rfl), rfl⟩
theorem kF0_51 : xm (.fieldLink "ChangeRows" 51 "ChangeRows" "later" "LChangeRows$Rows;") := ⟨xt1 (List.mem_of_getElem? (i := 149) rfl), rfl⟩
theorem kM0_165 : xm (.methodLink "ChangeRows" 165 y3_size) := ⟨xt2 (List.mem_of_getElem? (i := 195) rfl), rfl⟩
theorem kD3_size : xm (.code y3_size c3_size 1 (some .int)) := ⟨xt2 (List.mem_of_getElem? (i := 198) rfl), rfl⟩
theorem kX0_165 : xcl "ChangeRows" 165 y3_size c3_size 1 (some .int) 0 := ⟨kM0_165, kD3_size, kI3, by decide +kernel, by decide⟩
theorem kN3_size : xm (.instanceMethod y3_size) := ⟨xt2 (List.mem_of_getElem? (i := 196) rfl), rfl⟩
theorem kE3_size : xm (.selects "ChangeRows$Rows" y3_size y3_size) := ⟨xt2 (List.mem_of_getElem? (i := 197) rfl), rfl⟩
theorem kM0_178 : xm (.methodLink "ChangeRows" 178 y3_holds) := ⟨xt2 (List.mem_of_getElem? (i := 208) rfl), rfl⟩
theorem kX0_178 : xcl "ChangeRows" 178 y3_holds c3_holds 2 (some .boolean) 1 := ⟨kM0_178, kD3_holds, kI3, by decide +kernel, by decide⟩
theorem kF0_181 : xm (.fieldLink "ChangeRows" 181 "ChangeRows$Rows" "values" "[J") := ⟨xt1 (List.mem_of_getElem? (i := 90) rfl), rfl⟩
theorem kM0_167 : xm (.methodLink "ChangeRows" 167 y0_brokenBy) := ⟨xt2 (List.mem_of_getElem? (i := 204) rfl), rfl⟩
theorem kD0_brokenBy : xm (.code y0_brokenBy c0_brokenBy 5 (some .int)) := ⟨xt2 (List.mem_of_getElem? (i := 207) rfl), rfl⟩
theorem kX0_167 : xcl "ChangeRows" 167 y0_brokenBy c0_brokenBy 5 (some .int) 3 := ⟨kM0_167, kD0_brokenBy, kI0, by decide +kernel, by decide⟩
theorem kN0_brokenBy : xm (.instanceMethod y0_brokenBy) := ⟨xt2 (List.mem_of_getElem? (i := 206) rfl), rfl⟩
theorem kE0_brokenBy : xm (.selects "ChangeRows" y0_brokenBy y0_brokenBy) := ⟨xt0 (List.mem_of_getElem? (i := 21) rfl), rfl⟩
theorem kM0_171 : xm (.methodLink "ChangeRows" 171 y0_isTableOrCopy) := ⟨xt2 (List.mem_of_getElem? (i := 217) rfl), rfl⟩
theorem kD0_isTableOrCopy : xm (.code y0_isTableOrCopy c0_isTableOrCopy 2 (some .boolean)) := ⟨xt2 (List.mem_of_getElem? (i := 220) rfl), rfl⟩
theorem kX0_171 : xcl "ChangeRows" 171 y0_isTableOrCopy c0_isTableOrCopy 2 (some .boolean) 1 := ⟨kM0_171, kD0_isTableOrCopy, kI0, by decide +kernel, by decide⟩
theorem kN0_isTableOrCopy : xm (.instanceMethod y0_isTableOrCopy) := ⟨xt2 (List.mem_of_getElem? (i := 219) rfl), rfl⟩
theorem kE0_isTableOrCopy : xm (.selects "ChangeRows" y0_isTableOrCopy y0_isTableOrCopy) := ⟨xt0 (List.mem_of_getElem? (i := 22) rfl), rfl⟩
theorem kM0_174 : xm (.methodLink "ChangeRows" 174 y0_rowsOf) := ⟨xt2 (List.mem_of_getElem? (i := 221) rfl), rfl⟩
theorem kD0_rowsOf : xm (.code y0_rowsOf c0_rowsOf 2 (some (.object "ChangeRows$Rows"))) := ⟨xt2 (List.mem_of_getElem? (i := 224) rfl), rfl⟩
theorem kX0_174 : xcl "ChangeRows" 174 y0_rowsOf c0_rowsOf 2 (some (.object "ChangeRows$Rows")) 1 := ⟨kM0_174, kD0_rowsOf, kI0, by decide +kernel, by decide⟩
theorem kN0_rowsOf : xm (.instanceMethod y0_rowsOf) := ⟨xt2 (List.mem_of_getElem? (i := 223) rfl), rfl⟩
theorem kE0_rowsOf : xm (.selects "ChangeRows" y0_rowsOf y0_rowsOf) := ⟨xt0 (List.mem_of_getElem? (i := 23) rfl), rfl⟩
theorem kF5_87 : xm (.fieldLink "ChangeRowsModel" 87 "ChangeRowsModel" "tables" "I") := ⟨xt3 (List.mem_of_getElem? (i := 7) rfl), rfl⟩
theorem kF5_91 : xm (.fieldLink "ChangeRowsModel" 91 "ChangeRowsModel" "logged" "I") := ⟨xt3 (List.mem_of_getElem? (i := 24) rfl), rfl⟩
theorem kF5_94 : xm (.fieldLink "ChangeRowsModel" 94 "ChangeRowsModel" "told" "I") := ⟨xt3 (List.mem_of_getElem? (i := 25) rfl), rfl⟩
theorem kF5_97 : xm (.fieldLink "ChangeRowsModel" 97 "ChangeRowsModel" "netted" "I") := ⟨xt3 (List.mem_of_getElem? (i := 26) rfl), rfl⟩
theorem kF5_100 : xm (.fieldLink "ChangeRowsModel" 100 "ChangeRowsModel" "isBatch" "Z") := ⟨xt3 (List.mem_of_getElem? (i := 27) rfl), rfl⟩
theorem kF5_104 : xm (.fieldLink "ChangeRowsModel" 104 "ChangeRowsModel" "gathered" "I") := ⟨xt3 (List.mem_of_getElem? (i := 28) rfl), rfl⟩
theorem kF5_72 : xm (.fieldLink "ChangeRowsModel" 72 "ChangeRowsModel" "copyHas" "[Z") := ⟨xt3 (List.mem_of_getElem? (i := 33) rfl), rfl⟩
theorem kM5_84 : xm (.methodLink "ChangeRowsModel" 84 y5_begins) := ⟨xt3 (List.mem_of_getElem? (i := 3) rfl), rfl⟩
theorem kD5_begins : xm (.code y5_begins c5_begins 2 none) := ⟨xt3 (List.mem_of_getElem? (i := 6) rfl), rfl⟩
theorem kI5 : xm (.initialized "ChangeRowsModel") := ⟨xt1 (List.mem_of_getElem? (i := 7) rfl), rfl⟩
theorem kX5_84 : xcl "ChangeRowsModel" 84 y5_begins c5_begins 2 none 0 := ⟨kM5_84, kD5_begins, kI5, by decide +kernel, by decide⟩
theorem kN5_begins : xm (.instanceMethod y5_begins) := ⟨xt3 (List.mem_of_getElem? (i := 5) rfl), rfl⟩
theorem kE5_begins : xm (.selects "ChangeRowsModel" y5_begins y5_begins) := ⟨xt0 (List.mem_of_getElem? (i := 24) rfl), rfl⟩
theorem kM5_107 : xm (.methodLink "ChangeRowsModel" 107 y5_isIn) := ⟨xt3 (List.mem_of_getElem? (i := 132) rfl), rfl⟩
theorem kD5_isIn : xm (.code y5_isIn c5_isIn 6 (some .boolean)) := ⟨xt3 (List.mem_of_getElem? (i := 134) rfl), rfl⟩
theorem kX5_107 : xcl "ChangeRowsModel" 107 y5_isIn c5_isIn 6 (some .boolean) 3 := ⟨kM5_107, kD5_isIn, kI5, by decide +kernel, by decide⟩
theorem kS5_isIn : xm (.static y5_isIn) := ⟨xt3 (List.mem_of_getElem? (i := 133) rfl), rfl⟩
theorem kF5_26 : xm (.fieldLink "ChangeRowsModel" 26 "ChangeRowsModel" "has" "[Z") := ⟨xt3 (List.mem_of_getElem? (i := 13) rfl), rfl⟩
theorem kF5_30 : xm (.fieldLink "ChangeRowsModel" 30 "ChangeRowsModel" "value" "[J") := ⟨xt3 (List.mem_of_getElem? (i := 14) rfl), rfl⟩
theorem kF5_23 : xm (.fieldLink "ChangeRowsModel" 23 "ChangeRowsModel" "high" "[J") := ⟨xt3 (List.mem_of_getElem? (i := 12) rfl), rfl⟩
theorem kF5_13 : xm (.fieldLink "ChangeRowsModel" 13 "ChangeRowsModel" "one" "[I") := ⟨xt3 (List.mem_of_getElem? (i := 9) rfl), rfl⟩
theorem kM5_115 : xm (.methodLink "ChangeRowsModel" 115 y5_setRow) := ⟨xt3 (List.mem_of_getElem? (i := 124) rfl), rfl⟩
theorem kD5_setRow : xm (.code y5_setRow c5_setRow 4 none) := ⟨xt3 (List.mem_of_getElem? (i := 127) rfl), rfl⟩
theorem kX5_115 : xcl "ChangeRowsModel" 115 y5_setRow c5_setRow 4 none 2 := ⟨kM5_115, kD5_setRow, kI5, by decide +kernel, by decide⟩
theorem kN5_setRow : xm (.instanceMethod y5_setRow) := ⟨xt3 (List.mem_of_getElem? (i := 126) rfl), rfl⟩
theorem kE5_setRow : xm (.selects "ChangeRowsModel" y5_setRow y5_setRow) := ⟨xt0 (List.mem_of_getElem? (i := 29) rfl), rfl⟩
theorem kF5_19 : xm (.fieldLink "ChangeRowsModel" 19 "ChangeRowsModel" "low" "[J") := ⟨xt3 (List.mem_of_getElem? (i := 11) rfl), rfl⟩
theorem kC5_111 : xm (.constantLong "ChangeRowsModel" 111 2) := ⟨xt3 (List.mem_of_getElem? (i := 122) rfl), rfl⟩
theorem kC5_113 : xm (.constantLong "ChangeRowsModel" 113 3) := ⟨xt3 (List.mem_of_getElem? (i := 123) rfl), rfl⟩
theorem kF5_7 : xm (.fieldLink "ChangeRowsModel" 7 "ChangeRowsModel" "sort" "[I") := ⟨xt3 (List.mem_of_getElem? (i := 8) rfl), rfl⟩
theorem kC5_134 : xm (.constantLong "ChangeRowsModel" 134 63) := ⟨xt3 (List.mem_of_getElem? (i := 139) rfl), rfl⟩
theorem kM5_130 : xm (.methodLink "ChangeRowsModel" 130 y5_isBest) := ⟨xt3 (List.mem_of_getElem? (i := 135) rfl), rfl⟩
theorem kD5_isBest : xm (.code y5_isBest c5_isBest 12 (some .boolean)) := ⟨xt3 (List.mem_of_getElem? (i := 138) rfl), rfl⟩
theorem kX5_130 : xcl "ChangeRowsModel" 130 y5_isBest c5_isBest 12 (some .boolean) 3 := ⟨kM5_130, kD5_isBest, kI5, by decide +kernel, by decide⟩
theorem kN5_isBest : xm (.instanceMethod y5_isBest) := ⟨xt3 (List.mem_of_getElem? (i := 137) rfl), rfl⟩
theorem kE5_isBest : xm (.selects "ChangeRowsModel" y5_isBest y5_isBest) := ⟨xt0 (List.mem_of_getElem? (i := 31) rfl), rfl⟩
theorem kF5_16 : xm (.fieldLink "ChangeRowsModel" 16 "ChangeRowsModel" "two" "[I") := ⟨xt3 (List.mem_of_getElem? (i := 10) rfl), rfl⟩
theorem kM5_126 : xm (.methodLink "ChangeRowsModel" 126 y5_workRow) := ⟨xt3 (List.mem_of_getElem? (i := 128) rfl), rfl⟩
theorem kD5_workRow : xm (.code y5_workRow c5_workRow 9 none) := ⟨xt3 (List.mem_of_getElem? (i := 131) rfl), rfl⟩
theorem kX5_126 : xcl "ChangeRowsModel" 126 y5_workRow c5_workRow 9 none 6 := ⟨kM5_126, kD5_workRow, kI5, by decide +kernel, by decide⟩
theorem kN5_workRow : xm (.instanceMethod y5_workRow) := ⟨xt3 (List.mem_of_getElem? (i := 130) rfl), rfl⟩
theorem kE5_workRow : xm (.selects "ChangeRowsModel" y5_workRow y5_workRow) := ⟨xt0 (List.mem_of_getElem? (i := 30) rfl), rfl⟩
theorem kM5_123 : xm (.methodLink "ChangeRowsModel" 123 y5_workFold) := ⟨xt3 (List.mem_of_getElem? (i := 118) rfl), rfl⟩
theorem kD5_workFold : xm (.code y5_workFold c5_workFold 11 none) := ⟨xt3 (List.mem_of_getElem? (i := 121) rfl), rfl⟩
theorem kX5_123 : xcl "ChangeRowsModel" 123 y5_workFold c5_workFold 11 none 1 := ⟨kM5_123, kD5_workFold, kI5, by decide +kernel, by decide⟩
theorem kN5_workFold : xm (.instanceMethod y5_workFold) := ⟨xt3 (List.mem_of_getElem? (i := 120) rfl), rfl⟩
theorem kE5_workFold : xm (.selects "ChangeRowsModel" y5_workFold y5_workFold) := ⟨xt0 (List.mem_of_getElem? (i := 28) rfl), rfl⟩
theorem kM5_119 : xm (.methodLink "ChangeRowsModel" 119 y5_clearRow) := ⟨xt3 (List.mem_of_getElem? (i := 110) rfl), rfl⟩
theorem kD5_clearRow : xm (.code y5_clearRow c5_clearRow 2 none) := ⟨xt3 (List.mem_of_getElem? (i := 113) rfl), rfl⟩
theorem kX5_119 : xcl "ChangeRowsModel" 119 y5_clearRow c5_clearRow 2 none 1 := ⟨kM5_119, kD5_clearRow, kI5, by decide +kernel, by decide⟩
theorem kN5_clearRow : xm (.instanceMethod y5_clearRow) := ⟨xt3 (List.mem_of_getElem? (i := 112) rfl), rfl⟩
theorem kE5_clearRow : xm (.selects "ChangeRowsModel" y5_clearRow y5_clearRow) := ⟨xt0 (List.mem_of_getElem? (i := 26) rfl), rfl⟩
theorem kF5_39 : xm (.fieldLink "ChangeRowsModel" 39 "ChangeRowsModel" "baseHas" "[Z") := ⟨xt3 (List.mem_of_getElem? (i := 17) rfl), rfl⟩
theorem kF5_42 : xm (.fieldLink "ChangeRowsModel" 42 "ChangeRowsModel" "baseValue" "[J") := ⟨xt3 (List.mem_of_getElem? (i := 18) rfl), rfl⟩
theorem kM5_136 : xm (.methodLink "ChangeRowsModel" 136 y5_work) := ⟨xt3 (List.mem_of_getElem? (i := 114) rfl), rfl⟩
theorem kD5_work : xm (.code y5_work c5_work 8 none) := ⟨xt3 (List.mem_of_getElem? (i := 117) rfl), rfl⟩
theorem kX5_136 : xcl "ChangeRowsModel" 136 y5_work c5_work 8 none 1 := ⟨kM5_136, kD5_work, kI5, by decide +kernel, by decide⟩
theorem kN5_work : xm (.instanceMethod y5_work) := ⟨xt3 (List.mem_of_getElem? (i := 116) rfl), rfl⟩
theorem kE5_work : xm (.selects "ChangeRowsModel" y5_work y5_work) := ⟨xt0 (List.mem_of_getElem? (i := 27) rfl), rfl⟩
theorem kM5_139 : xm (.methodLink "ChangeRowsModel" 139 y5_add) := ⟨xt3 (List.mem_of_getElem? (i := 106) rfl), rfl⟩
theorem kD5_add : xm (.code y5_add c5_add 10 (some .int)) := ⟨xt3 (List.mem_of_getElem? (i := 109) rfl), rfl⟩
theorem kX5_139 : xcl "ChangeRowsModel" 139 y5_add c5_add 10 (some .int) 5 := ⟨kM5_139, kD5_add, kI5, by decide +kernel, by decide⟩
theorem kN5_add : xm (.instanceMethod y5_add) := ⟨xt3 (List.mem_of_getElem? (i := 108) rfl), rfl⟩
theorem kE5_add : xm (.selects "ChangeRowsModel" y5_add y5_add) := ⟨xt0 (List.mem_of_getElem? (i := 25) rfl), rfl⟩
theorem kM5_143 : xm (.methodLink "ChangeRowsModel" 143 y5_isTable) := ⟨xt3 (List.mem_of_getElem? (i := 144) rfl), rfl⟩
theorem kD5_isTable : xm (.code y5_isTable c5_isTable 2 (some .boolean)) := ⟨xt3 (List.mem_of_getElem? (i := 147) rfl), rfl⟩
theorem kX5_143 : xcl "ChangeRowsModel" 143 y5_isTable c5_isTable 2 (some .boolean) 1 := ⟨kM5_143, kD5_isTable, kI5, by decide +kernel, by decide⟩
theorem kN5_isTable : xm (.instanceMethod y5_isTable) := ⟨xt3 (List.mem_of_getElem? (i := 146) rfl), rfl⟩
theorem kE5_isTable : xm (.selects "ChangeRowsModel" y5_isTable y5_isTable) := ⟨xt0 (List.mem_of_getElem? (i := 32) rfl), rfl⟩
theorem kC5_147 : xm (.constantLong "ChangeRowsModel" 147 (-1000)) := ⟨xt3 (List.mem_of_getElem? (i := 152) rfl), rfl⟩
theorem kC5_149 : xm (.constantLong "ChangeRowsModel" 149 1000) := ⟨xt3 (List.mem_of_getElem? (i := 153) rfl), rfl⟩
theorem kC5_151 : xm (.constantLong "ChangeRowsModel" 151 4) := ⟨xt3 (List.mem_of_getElem? (i := 158) rfl), rfl⟩
theorem kC5_153 : xm (.constantLong "ChangeRowsModel" 153 64) := ⟨xt3 (List.mem_of_getElem? (i := 159) rfl), rfl⟩
theorem kF5_45 : xm (.fieldLink "ChangeRowsModel" 45 "ChangeRowsModel" "changeTable" "[I") := ⟨xt3 (List.mem_of_getElem? (i := 19) rfl), rfl⟩
theorem kF5_48 : xm (.fieldLink "ChangeRowsModel" 48 "ChangeRowsModel" "changeSort" "[I") := ⟨xt3 (List.mem_of_getElem? (i := 20) rfl), rfl⟩
theorem kF5_51 : xm (.fieldLink "ChangeRowsModel" 51 "ChangeRowsModel" "changeKey" "[I") := ⟨xt3 (List.mem_of_getElem? (i := 21) rfl), rfl⟩
theorem kF5_54 : xm (.fieldLink "ChangeRowsModel" 54 "ChangeRowsModel" "changeOld" "[J") := ⟨xt3 (List.mem_of_getElem? (i := 22) rfl), rfl⟩
theorem kF5_57 : xm (.fieldLink "ChangeRowsModel" 57 "ChangeRowsModel" "changeNow" "[J") := ⟨xt3 (List.mem_of_getElem? (i := 23) rfl), rfl⟩
theorem kF5_33 : xm (.fieldLink "ChangeRowsModel" 33 "ChangeRowsModel" "had" "[Z") := ⟨xt3 (List.mem_of_getElem? (i := 15) rfl), rfl⟩
theorem kF5_36 : xm (.fieldLink "ChangeRowsModel" 36 "ChangeRowsModel" "was" "[J") := ⟨xt3 (List.mem_of_getElem? (i := 16) rfl), rfl⟩
theorem kM5_155 : xm (.methodLink "ChangeRowsModel" 155 y5_isOther) := ⟨xt3 (List.mem_of_getElem? (i := 204) rfl), rfl⟩
theorem kD5_isOther : xm (.code y5_isOther c5_isOther 2 (some .boolean)) := ⟨xt3 (List.mem_of_getElem? (i := 207) rfl), rfl⟩
theorem kX5_155 : xcl "ChangeRowsModel" 155 y5_isOther c5_isOther 2 (some .boolean) 1 := ⟨kM5_155, kD5_isOther, kI5, by decide +kernel, by decide⟩
theorem kN5_isOther : xm (.instanceMethod y5_isOther) := ⟨xt3 (List.mem_of_getElem? (i := 206) rfl), rfl⟩
theorem kE5_isOther : xm (.selects "ChangeRowsModel" y5_isOther y5_isOther) := ⟨xt0 (List.mem_of_getElem? (i := 39) rfl), rfl⟩
theorem kM5_158 : xm (.methodLink "ChangeRowsModel" 158 y5_follow) := ⟨xt3 (List.mem_of_getElem? (i := 200) rfl), rfl⟩
theorem kD5_follow : xm (.code y5_follow c5_follow 3 (some .int)) := ⟨xt3 (List.mem_of_getElem? (i := 203) rfl), rfl⟩
theorem kX5_158 : xcl "ChangeRowsModel" 158 y5_follow c5_follow 3 (some .int) 0 := ⟨kM5_158, kD5_follow, kI5, by decide +kernel, by decide⟩
theorem kN5_follow : xm (.instanceMethod y5_follow) := ⟨xt3 (List.mem_of_getElem? (i := 202) rfl), rfl⟩
theorem kE5_follow : xm (.selects "ChangeRowsModel" y5_follow y5_follow) := ⟨xt0 (List.mem_of_getElem? (i := 38) rfl), rfl⟩
theorem kM5_162 : xm (.methodLink "ChangeRowsModel" 162 y5_sortOf) := ⟨xt3 (List.mem_of_getElem? (i := 208) rfl), rfl⟩
theorem kD5_sortOf : xm (.code y5_sortOf c5_sortOf 2 (some .int)) := ⟨xt3 (List.mem_of_getElem? (i := 210) rfl), rfl⟩
theorem kX5_162 : xcl "ChangeRowsModel" 162 y5_sortOf c5_sortOf 2 (some .int) 2 := ⟨kM5_162, kD5_sortOf, kI5, by decide +kernel, by decide⟩
theorem kS5_sortOf : xm (.static y5_sortOf) := ⟨xt3 (List.mem_of_getElem? (i := 209) rfl), rfl⟩
theorem kM5_166 : xm (.methodLink "ChangeRowsModel" 166 y5_write) := ⟨xt3 (List.mem_of_getElem? (i := 211) rfl), rfl⟩
theorem kD5_write : xm (.code y5_write c5_write 9 none) := ⟨xt3 (List.mem_of_getElem? (i := 214) rfl), rfl⟩
theorem kX5_166 : xcl "ChangeRowsModel" 166 y5_write c5_write 9 none 6 := ⟨kM5_166, kD5_write, kI5, by decide +kernel, by decide⟩
theorem kN5_write : xm (.instanceMethod y5_write) := ⟨xt3 (List.mem_of_getElem? (i := 213) rfl), rfl⟩
theorem kE5_write : xm (.selects "ChangeRowsModel" y5_write y5_write) := ⟨xt0 (List.mem_of_getElem? (i := 40) rfl), rfl⟩
theorem kM5_170 : xm (.methodLink "ChangeRowsModel" 170 y5_isSource) := ⟨xt3 (List.mem_of_getElem? (i := 184) rfl), rfl⟩
theorem kD5_isSource : xm (.code y5_isSource c5_isSource 3 (some .boolean)) := ⟨xt3 (List.mem_of_getElem? (i := 187) rfl), rfl⟩
theorem kX5_170 : xcl "ChangeRowsModel" 170 y5_isSource c5_isSource 3 (some .boolean) 2 := ⟨kM5_170, kD5_isSource, kI5, by decide +kernel, by decide⟩
theorem kN5_isSource : xm (.instanceMethod y5_isSource) := ⟨xt3 (List.mem_of_getElem? (i := 186) rfl), rfl⟩
theorem kE5_isSource : xm (.selects "ChangeRowsModel" y5_isSource y5_isSource) := ⟨xt0 (List.mem_of_getElem? (i := 34) rfl), rfl⟩
theorem kM5_174 : xm (.methodLink "ChangeRowsModel" 174 y5_keepRows) := ⟨xt3 (List.mem_of_getElem? (i := 188) rfl), rfl⟩
theorem kD5_keepRows : xm (.code y5_keepRows c5_keepRows 2 none) := ⟨xt3 (List.mem_of_getElem? (i := 191) rfl), rfl⟩
theorem kX5_174 : xcl "ChangeRowsModel" 174 y5_keepRows c5_keepRows 2 none 0 := ⟨kM5_174, kD5_keepRows, kI5, by decide +kernel, by decide⟩
theorem kN5_keepRows : xm (.instanceMethod y5_keepRows) := ⟨xt3 (List.mem_of_getElem? (i := 190) rfl), rfl⟩
theorem kE5_keepRows : xm (.selects "ChangeRowsModel" y5_keepRows y5_keepRows) := ⟨xt0 (List.mem_of_getElem? (i := 35) rfl), rfl⟩
theorem kM5_177 : xm (.methodLink "ChangeRowsModel" 177 y5_setOrClear) := ⟨xt3 (List.mem_of_getElem? (i := 192) rfl), rfl⟩
theorem kD5_setOrClear : xm (.code y5_setOrClear c5_setOrClear 5 none) := ⟨xt3 (List.mem_of_getElem? (i := 195) rfl), rfl⟩
theorem kX5_177 : xcl "ChangeRowsModel" 177 y5_setOrClear c5_setOrClear 5 none 3 := ⟨kM5_177, kD5_setOrClear, kI5, by decide +kernel, by decide⟩
theorem kN5_setOrClear : xm (.instanceMethod y5_setOrClear) := ⟨xt3 (List.mem_of_getElem? (i := 194) rfl), rfl⟩
theorem kE5_setOrClear : xm (.selects "ChangeRowsModel" y5_setOrClear y5_setOrClear) := ⟨xt0 (List.mem_of_getElem? (i := 36) rfl), rfl⟩
theorem kM5_181 : xm (.methodLink "ChangeRowsModel" 181 y5_tell) := ⟨xt3 (List.mem_of_getElem? (i := 196) rfl), rfl⟩
theorem kD5_tell : xm (.code y5_tell c5_tell 8 (some .int)) := ⟨xt3 (List.mem_of_getElem? (i := 199) rfl), rfl⟩
theorem kX5_181 : xcl "ChangeRowsModel" 181 y5_tell c5_tell 8 (some .int) 0 := ⟨kM5_181, kD5_tell, kI5, by decide +kernel, by decide⟩
theorem kN5_tell : xm (.instanceMethod y5_tell) := ⟨xt3 (List.mem_of_getElem? (i := 198) rfl), rfl⟩
theorem kE5_tell : xm (.selects "ChangeRowsModel" y5_tell y5_tell) := ⟨xt0 (List.mem_of_getElem? (i := 37) rfl), rfl⟩
theorem kF5_60 : xm (.fieldLink "ChangeRowsModel" 60 "ChangeRowsModel" "batchTable" "[I") := ⟨xt3 (List.mem_of_getElem? (i := 29) rfl), rfl⟩
theorem kF5_63 : xm (.fieldLink "ChangeRowsModel" 63 "ChangeRowsModel" "batchKey" "[I") := ⟨xt3 (List.mem_of_getElem? (i := 30) rfl), rfl⟩
theorem kF5_66 : xm (.fieldLink "ChangeRowsModel" 66 "ChangeRowsModel" "batchHas" "[Z") := ⟨xt3 (List.mem_of_getElem? (i := 31) rfl), rfl⟩
theorem kF5_69 : xm (.fieldLink "ChangeRowsModel" 69 "ChangeRowsModel" "batchValue" "[J") := ⟨xt3 (List.mem_of_getElem? (i := 32) rfl), rfl⟩
theorem kM5_184 : xm (.methodLink "ChangeRowsModel" 184 y5_alter) := ⟨xt3 (List.mem_of_getElem? (i := 180) rfl), rfl⟩
theorem kD5_alter : xm (.code y5_alter c5_alter 6 (some .int)) := ⟨xt3 (List.mem_of_getElem? (i := 183) rfl), rfl⟩
theorem kX5_184 : xcl "ChangeRowsModel" 184 y5_alter c5_alter 6 (some .int) 4 := ⟨kM5_184, kD5_alter, kI5, by decide +kernel, by decide⟩
theorem kN5_alter : xm (.instanceMethod y5_alter) := ⟨xt3 (List.mem_of_getElem? (i := 182) rfl), rfl⟩
theorem kE5_alter : xm (.selects "ChangeRowsModel" y5_alter y5_alter) := ⟨xt0 (List.mem_of_getElem? (i := 33) rfl), rfl⟩
theorem kM5_188 : xm (.methodLink "ChangeRowsModel" 188 y5_placeOf) := ⟨xt3 (List.mem_of_getElem? (i := 239) rfl), rfl⟩
theorem kD5_placeOf : xm (.code y5_placeOf c5_placeOf 4 (some .int)) := ⟨xt4 (List.mem_of_getElem? (i := 2) rfl), rfl⟩
theorem kX5_188 : xcl "ChangeRowsModel" 188 y5_placeOf c5_placeOf 4 (some .int) 2 := ⟨kM5_188, kD5_placeOf, kI5, by decide +kernel, by decide⟩
theorem kN5_placeOf : xm (.instanceMethod y5_placeOf) := ⟨xt4 (List.mem_of_getElem? (i := 1) rfl), rfl⟩
theorem kE5_placeOf : xm (.selects "ChangeRowsModel" y5_placeOf y5_placeOf) := ⟨xt0 (List.mem_of_getElem? (i := 41) rfl), rfl⟩
theorem kF5_78 : xm (.fieldLink "ChangeRowsModel" 78 "ChangeRowsModel" "thenHas" "[Z") := ⟨xt3 (List.mem_of_getElem? (i := 35) rfl), rfl⟩
theorem kF5_81 : xm (.fieldLink "ChangeRowsModel" 81 "ChangeRowsModel" "thenValue" "[J") := ⟨xt3 (List.mem_of_getElem? (i := 36) rfl), rfl⟩
theorem kM5_192 : xm (.methodLink "ChangeRowsModel" 192 y5_goTo) := ⟨xt4 (List.mem_of_getElem? (i := 19) rfl), rfl⟩
theorem kD5_goTo : xm (.code y5_goTo c5_goTo 4 none) := ⟨xt4 (List.mem_of_getElem? (i := 22) rfl), rfl⟩
theorem kX5_192 : xcl "ChangeRowsModel" 192 y5_goTo c5_goTo 4 none 2 := ⟨kM5_192, kD5_goTo, kI5, by decide +kernel, by decide⟩
theorem kN5_goTo : xm (.instanceMethod y5_goTo) := ⟨xt4 (List.mem_of_getElem? (i := 21) rfl), rfl⟩
theorem kE5_goTo : xm (.selects "ChangeRowsModel" y5_goTo y5_goTo) := ⟨xt0 (List.mem_of_getElem? (i := 42) rfl), rfl⟩
theorem kF5_75 : xm (.fieldLink "ChangeRowsModel" 75 "ChangeRowsModel" "copyValue" "[J") := ⟨xt3 (List.mem_of_getElem? (i := 34) rfl), rfl⟩
theorem kM5_196 : xm (.methodLink "ChangeRowsModel" 196 y5_has) := ⟨xt4 (List.mem_of_getElem? (i := 43) rfl), rfl⟩
theorem kD5_has : xm (.code y5_has c5_has 3 (some .int)) := ⟨xt4 (List.mem_of_getElem? (i := 38) rfl), rfl⟩
theorem kX5_196 : xcl "ChangeRowsModel" 196 y5_has c5_has 3 (some .int) 2 := ⟨kM5_196, kD5_has, kI5, by decide +kernel, by decide⟩
theorem kN5_has : xm (.instanceMethod y5_has) := ⟨xt4 (List.mem_of_getElem? (i := 36) rfl), rfl⟩
theorem kE5_has : xm (.selects "ChangeRowsModel" y5_has y5_has) := ⟨xt4 (List.mem_of_getElem? (i := 37) rfl), rfl⟩
