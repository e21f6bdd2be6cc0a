theorem sc_wd_0 : (Cond.fieldLink R_Needs 15 R_Needs "first" "[I") ∈ hq_tb := hq_in (List.mem_of_getElem? (i := 171) (by decide +kernel)) rfl
theorem sc_wd_1 : (Cond.fieldLink R_Needs 9 R_Needs "used" "[Z") ∈ hq_tb := hq_in (List.mem_of_getElem? (i := 167) (by decide +kernel)) rfl
theorem sc_wd_2 : (Cond.methodLink R_Needs 51 Lib.Math.min.name) ∈ hq_tb := hq_in (List.mem_of_getElem? (i := 314) (by decide +kernel)) rfl
theorem sc_wd_3 : (Cond.static Lib.Math.min.name) ∈ hq_tb := hq_in (List.mem_of_getElem? (i := 64) (by decide +kernel)) rfl
theorem sc_wd_4 : (Cond.initialized "java/lang/Math") ∈ hq_tb := hq_in (List.mem_of_getElem? (i := 46) (by decide +kernel)) rfl
theorem sc_wd_5 : (Cond.code Lib.Math.min.name Lib.Math.min.code 2 (some .int)) ∈ hq_tb := hq_in (List.mem_of_getElem? (i := 65) (by decide +kernel)) rfl
theorem sc_wd_6 : (Cond.fieldLink R_Needs 19 R_Needs "last" "[I") ∈ hq_tb := hq_in (List.mem_of_getElem? (i := 174) (by decide +kernel)) rfl
theorem sc_wd_7 : (Cond.methodLink R_Needs 57 Lib.Math.max.name) ∈ hq_tb := hq_in (List.mem_of_getElem? (i := 315) (by decide +kernel)) rfl
theorem sc_wd_8 : (Cond.static Lib.Math.max.name) ∈ hq_tb := hq_in (List.mem_of_getElem? (i := 67) (by decide +kernel)) rfl
theorem sc_wd_9 : (Cond.code Lib.Math.max.name Lib.Math.max.code 2 (some .int)) ∈ hq_tb := hq_in (List.mem_of_getElem? (i := 68) (by decide +kernel)) rfl
theorem sc_wd_10 : (Cond.fieldLinkNest R_Needs 40 R_Stage "tapCount" "I" R_SC) ∈ hq_tb := hq_in (List.mem_of_getElem? (i := 88) (by decide +kernel)) rfl
theorem sc_wd_11 : (Cond.fieldLinkNest R_Needs 45 R_Stage "sources" "[I" R_SC) ∈ hq_tb := hq_in (List.mem_of_getElem? (i := 94) (by decide +kernel)) rfl
theorem sc_wd_12 : (Cond.fieldLinkNest R_Needs 48 R_Stage "offsets" "[I" R_SC) ∈ hq_tb := hq_in (List.mem_of_getElem? (i := 99) (by decide +kernel)) rfl
theorem sc_wd_13 : (Cond.code y_Needs_widen b_Needs_widen 4 none) ∈ hq_tb := hq_in (List.mem_of_getElem? (i := 313) (by decide +kernel)) rfl
theorem sc_wd_14 : (Cond.initialized R_Needs) ∈ hq_tb := hq_in (List.mem_of_getElem? (i := 49) (by decide +kernel)) rfl
theorem sc_wd_15 : (Cond.methodLink R_Needs 28 y_Needs_widen) ∈ hq_tb := hq_in (List.mem_of_getElem? (i := 310) (by decide +kernel)) rfl
theorem sc_wd_16 : (Cond.instanceMethod y_Needs_widen) ∈ hq_tb := hq_in (List.mem_of_getElem? (i := 312) (by decide +kernel)) rfl
theorem sc_wd_17 : (Cond.selects R_Needs y_Needs_widen y_Needs_widen) ∈ hq_tb := hq_in (List.mem_of_getElem? (i := 6) (by decide +kernel)) rfl
theorem sc_wd_18 : (Cond.fieldLinkNest R_Needs 22 R_Pipe "output" "I" R_SC) ∈ hq_tb := hq_in (List.mem_of_getElem? (i := 134) (by decide +kernel)) rfl
theorem sc_wd_19 : (Cond.fieldLinkNest R_Needs 32 R_Pipe "stages" "[LStencilCompiler$Stage;" R_SC) ∈ hq_tb := hq_in (List.mem_of_getElem? (i := 123) (by decide +kernel)) rfl
theorem sc_wd_20 : (Cond.code y_Needs_handOn b_Needs_handOn 5 none) ∈ hq_tb := hq_in (List.mem_of_getElem? (i := 319) (by decide +kernel)) rfl
theorem sc_wd_21 : (Cond.methodLink R_Needs 36 y_Needs_handOn) ∈ hq_tb := hq_in (List.mem_of_getElem? (i := 316) (by decide +kernel)) rfl
theorem sc_wd_22 : (Cond.instanceMethod y_Needs_handOn) ∈ hq_tb := hq_in (List.mem_of_getElem? (i := 318) (by decide +kernel)) rfl
theorem sc_wd_23 : (Cond.selects R_Needs y_Needs_handOn y_Needs_handOn) ∈ hq_tb := hq_in (List.mem_of_getElem? (i := 7) (by decide +kernel)) rfl
theorem sc_wd_24 : (Cond.fieldLink R_Pipe 32 R_Pipe "stageCount" "I") ∈ hq_tb := hq_in (List.mem_of_getElem? (i := 128) (by decide +kernel)) rfl
theorem sc_wd_25 : (Cond.fieldLink R_Pipe 11 R_Pipe "stages" "[LStencilCompiler$Stage;") ∈ hq_tb := hq_in (List.mem_of_getElem? (i := 122) (by decide +kernel)) rfl
theorem sc_wd_26 : (Cond.fieldLinkNest R_Pipe 35 R_Stage "constant" "I" R_SC) ∈ hq_tb := hq_in (List.mem_of_getElem? (i := 80) (by decide +kernel)) rfl
theorem sc_wd_27 : (Cond.fieldLinkNest R_Pipe 38 R_Stage "finish" "I" R_SC) ∈ hq_tb := hq_in (List.mem_of_getElem? (i := 83) (by decide +kernel)) rfl
theorem sc_wd_28 : (Cond.fieldLink R_Pipe 41 R_Pipe "width" "I") ∈ hq_tb := hq_in (List.mem_of_getElem? (i := 138) (by decide +kernel)) rfl
theorem sc_wd_29 : (Cond.fieldLink R_Pipe 21 R_Pipe "tileSize" "I") ∈ hq_tb := hq_in (List.mem_of_getElem? (i := 130) (by decide +kernel)) rfl
theorem sc_wd_30 : (Cond.code y_Pipe_tileFirst b_Pipe_tileFirst 2 (some .int)) ∈ hq_tb := hq_in (List.mem_of_getElem? (i := 358) (by decide +kernel)) rfl
theorem sc_wd_31 : (Cond.initialized R_Pipe) ∈ hq_tb := hq_in (List.mem_of_getElem? (i := 45) (by decide +kernel)) rfl
theorem sc_wd_32 : (Cond.methodLink R_Pipe 44 y_Pipe_tileFirst) ∈ hq_tb := hq_in (List.mem_of_getElem? (i := 363) (by decide +kernel)) rfl
theorem sc_wd_33 : (Cond.instanceMethod y_Pipe_tileFirst) ∈ hq_tb := hq_in (List.mem_of_getElem? (i := 357) (by decide +kernel)) rfl
theorem sc_wd_34 : (Cond.selects R_Pipe y_Pipe_tileFirst y_Pipe_tileFirst) ∈ hq_tb := hq_in (List.mem_of_getElem? (i := 16) (by decide +kernel)) rfl
theorem sc_wd_35 : (Cond.methodLink R_Pipe 48 Lib.Math.min.name) ∈ hq_tb := hq_in (List.mem_of_getElem? (i := 364) (by decide +kernel)) rfl
theorem sc_wd_36 : (Cond.fieldLink R_Pipe 17 R_Pipe "valuesFor" "[I") ∈ hq_tb := hq_in (List.mem_of_getElem? (i := 127) (by decide +kernel)) rfl
theorem sc_wd_37 : (Cond.fieldLinkNest R_Pipe 54 R_Stage "tapCount" "I" R_SC) ∈ hq_tb := hq_in (List.mem_of_getElem? (i := 92) (by decide +kernel)) rfl
theorem sc_wd_38 : (Cond.fieldLinkNest R_Pipe 57 R_Stage "sources" "[I" R_SC) ∈ hq_tb := hq_in (List.mem_of_getElem? (i := 97) (by decide +kernel)) rfl
theorem sc_wd_39 : (Cond.fieldLink R_Stage 9 R_Stage "sources" "[I") ∈ hq_tb := hq_in (List.mem_of_getElem? (i := 93) (by decide +kernel)) rfl
theorem sc_wd_40 : (Cond.fieldLink R_Stage 21 R_Stage "tapCount" "I") ∈ hq_tb := hq_in (List.mem_of_getElem? (i := 87) (by decide +kernel)) rfl
theorem sc_wd_41 : (Cond.fieldLink R_Stage 15 R_Stage "offsets" "[I") ∈ hq_tb := hq_in (List.mem_of_getElem? (i := 98) (by decide +kernel)) rfl
theorem sc_wd_42 : (Cond.fieldLink R_Stage 18 R_Stage "weights" "[I") ∈ hq_tb := hq_in (List.mem_of_getElem? (i := 101) (by decide +kernel)) rfl
theorem sc_wd_43 : (Cond.fieldLink R_Stage 25 R_Stage "finish" "I") ∈ hq_tb := hq_in (List.mem_of_getElem? (i := 82) (by decide +kernel)) rfl
theorem sc_wd_44 : (Cond.methodLink R_Stage 28 Lib.Math.max.name) ∈ hq_tb := hq_in (List.mem_of_getElem? (i := 404) (by decide +kernel)) rfl
theorem sc_wd_45 : (Cond.code y_Math_floorDiv b_Math_floorDiv 3 (some .int)) ∈ hq_tb := hq_in (List.mem_of_getElem? (i := 407) (by decide +kernel)) rfl
theorem sc_wd_46 : (Cond.initialized R_Math) ∈ hq_tb := hq_in (List.mem_of_getElem? (i := 46) (by decide +kernel)) rfl
theorem sc_wd_47 : (Cond.methodLink R_Stage 34 y_Math_floorDiv) ∈ hq_tb := hq_in (List.mem_of_getElem? (i := 405) (by decide +kernel)) rfl
theorem sc_wd_48 : (Cond.static y_Math_floorDiv) ∈ hq_tb := hq_in (List.mem_of_getElem? (i := 406) (by decide +kernel)) rfl
theorem sc_wd_49 : (Cond.fieldLink R_Plan 12 R_Plan "regions" "LStencilCompiler$Needs;") ∈ hq_tb := hq_in (List.mem_of_getElem? (i := 186) (by decide +kernel)) rfl
theorem sc_wd_50 : (Cond.fieldLinkNest R_Plan 126 R_Needs "used" "[Z" R_SC) ∈ hq_tb := hq_in (List.mem_of_getElem? (i := 169) (by decide +kernel)) rfl
theorem sc_wd_51 : (Cond.fieldLink R_Plan 29 R_Plan "pipeline" "LStencilCompiler$Pipeline;") ∈ hq_tb := hq_in (List.mem_of_getElem? (i := 185) (by decide +kernel)) rfl
theorem sc_wd_52 : (Cond.fieldLinkNest R_Plan 77 R_Pipe "stages" "[LStencilCompiler$Stage;" R_SC) ∈ hq_tb := hq_in (List.mem_of_getElem? (i := 124) (by decide +kernel)) rfl
theorem sc_wd_53 : (Cond.fieldLinkNest R_Plan 97 R_Stage "mode" "I" R_SC) ∈ hq_tb := hq_in (List.mem_of_getElem? (i := 85) (by decide +kernel)) rfl
theorem sc_wd_54 : (Cond.fieldLinkNest R_Plan 89 R_Stage "tapCount" "I" R_SC) ∈ hq_tb := hq_in (List.mem_of_getElem? (i := 89) (by decide +kernel)) rfl
theorem sc_wd_55 : (Cond.fieldLinkNest R_Plan 94 R_Stage "sources" "[I" R_SC) ∈ hq_tb := hq_in (List.mem_of_getElem? (i := 95) (by decide +kernel)) rfl
theorem sc_wd_56 : (Cond.fieldLink R_Plan 21 R_Plan "asksTiled" "[Z") ∈ hq_tb := hq_in (List.mem_of_getElem? (i := 189) (by decide +kernel)) rfl
theorem sc_wd_57 : (Cond.fieldLinkNest R_Plan 33 R_Pipe "output" "I" R_SC) ∈ hq_tb := hq_in (List.mem_of_getElem? (i := 133) (by decide +kernel)) rfl
theorem sc_wd_58 : (Cond.code y_Plan_hasTiledToWorkOut b_Plan_hasTiledToWorkOut 5 (some .boolean)) ∈ hq_tb := hq_in (List.mem_of_getElem? (i := 327) (by decide +kernel)) rfl
theorem sc_wd_59 : (Cond.initialized R_Plan) ∈ hq_tb := hq_in (List.mem_of_getElem? (i := 48) (by decide +kernel)) rfl
theorem sc_wd_60 : (Cond.methodLink R_Plan 81 y_Plan_hasTiledToWorkOut) ∈ hq_tb := hq_in (List.mem_of_getElem? (i := 324) (by decide +kernel)) rfl
theorem sc_wd_61 : (Cond.instanceMethod y_Plan_hasTiledToWorkOut) ∈ hq_tb := hq_in (List.mem_of_getElem? (i := 326) (by decide +kernel)) rfl
theorem sc_wd_62 : (Cond.selects R_Plan y_Plan_hasTiledToWorkOut y_Plan_hasTiledToWorkOut) ∈ hq_tb := hq_in (List.mem_of_getElem? (i := 9) (by decide +kernel)) rfl
theorem sc_wd_63 : (Cond.code y_Plan_isUsedAs b_Plan_isUsedAs 3 (some .boolean)) ∈ hq_tb := hq_in (List.mem_of_getElem? (i := 331) (by decide +kernel)) rfl
theorem sc_wd_64 : (Cond.methodLink R_Plan 85 y_Plan_isUsedAs) ∈ hq_tb := hq_in (List.mem_of_getElem? (i := 328) (by decide +kernel)) rfl
theorem sc_wd_65 : (Cond.instanceMethod y_Plan_isUsedAs) ∈ hq_tb := hq_in (List.mem_of_getElem? (i := 330) (by decide +kernel)) rfl
theorem sc_wd_66 : (Cond.selects R_Plan y_Plan_isUsedAs y_Plan_isUsedAs) ∈ hq_tb := hq_in (List.mem_of_getElem? (i := 10) (by decide +kernel)) rfl
theorem sc_wd_67 : (Cond.fieldLink R_Plan 25 R_Plan "workOf" "[I") ∈ hq_tb := hq_in (List.mem_of_getElem? (i := 190) (by decide +kernel)) rfl
theorem sc_wd_68 : (Cond.fieldLinkNest R_Plan 39 R_Pipe "width" "I" R_SC) ∈ hq_tb := hq_in (List.mem_of_getElem? (i := 137) (by decide +kernel)) rfl
theorem sc_wd_69 : (Cond.code y_Needs_lengthOf b_Needs_lengthOf 2 (some .int)) ∈ hq_tb := hq_in (List.mem_of_getElem? (i := 346) (by decide +kernel)) rfl
theorem sc_wd_70 : (Cond.methodLinkNest R_Plan 100 y_Needs_lengthOf R_SC) ∈ hq_tb := hq_in (List.mem_of_getElem? (i := 343) (by decide +kernel)) rfl
theorem sc_wd_71 : (Cond.instanceMethod y_Needs_lengthOf) ∈ hq_tb := hq_in (List.mem_of_getElem? (i := 345) (by decide +kernel)) rfl
theorem sc_wd_72 : (Cond.selects R_Needs y_Needs_lengthOf y_Needs_lengthOf) ∈ hq_tb := hq_in (List.mem_of_getElem? (i := 13) (by decide +kernel)) rfl
theorem sc_wd_73 : (Cond.fieldLink R_Plan 56 R_Plan "room" "I") ∈ hq_tb := hq_in (List.mem_of_getElem? (i := 194) (by decide +kernel)) rfl
theorem sc_wd_74 : (Cond.fieldLink R_Plan 18 R_Plan "tileNeeds" "LStencilCompiler$Needs;") ∈ hq_tb := hq_in (List.mem_of_getElem? (i := 188) (by decide +kernel)) rfl
theorem sc_wd_75 : (Cond.fieldLink R_Plan 59 R_Plan "greatestTileNeed" "I") ∈ hq_tb := hq_in (List.mem_of_getElem? (i := 196) (by decide +kernel)) rfl
theorem sc_wd_76 : (Cond.methodLink R_Plan 116 Lib.Math.max.name) ∈ hq_tb := hq_in (List.mem_of_getElem? (i := 369) (by decide +kernel)) rfl
theorem sc_wd_77 : (Cond.code y_Pipe_tileCount b_Pipe_tileCount 1 (some .int)) ∈ hq_tb := hq_in (List.mem_of_getElem? (i := 354) (by decide +kernel)) rfl
theorem sc_wd_78 : (Cond.methodLinkNest R_Plan 104 y_Pipe_tileCount R_SC) ∈ hq_tb := hq_in (List.mem_of_getElem? (i := 351) (by decide +kernel)) rfl
theorem sc_wd_79 : (Cond.instanceMethod y_Pipe_tileCount) ∈ hq_tb := hq_in (List.mem_of_getElem? (i := 353) (by decide +kernel)) rfl
theorem sc_wd_80 : (Cond.selects R_Pipe y_Pipe_tileCount y_Pipe_tileCount) ∈ hq_tb := hq_in (List.mem_of_getElem? (i := 15) (by decide +kernel)) rfl
theorem sc_wd_81 : (Cond.methodLinkNest R_Plan 107 y_Pipe_tileFirst R_SC) ∈ hq_tb := hq_in (List.mem_of_getElem? (i := 355) (by decide +kernel)) rfl
theorem sc_wd_82 : (Cond.code y_Pipe_tileLast b_Pipe_tileLast 2 (some .int)) ∈ hq_tb := hq_in (List.mem_of_getElem? (i := 362) (by decide +kernel)) rfl
theorem sc_wd_83 : (Cond.methodLinkNest R_Plan 110 y_Pipe_tileLast R_SC) ∈ hq_tb := hq_in (List.mem_of_getElem? (i := 359) (by decide +kernel)) rfl
theorem sc_wd_84 : (Cond.instanceMethod y_Pipe_tileLast) ∈ hq_tb := hq_in (List.mem_of_getElem? (i := 361) (by decide +kernel)) rfl
theorem sc_wd_85 : (Cond.selects R_Pipe y_Pipe_tileLast y_Pipe_tileLast) ∈ hq_tb := hq_in (List.mem_of_getElem? (i := 17) (by decide +kernel)) rfl
theorem sc_wd_86 : (Cond.code y_Needs_spread b_Needs_spread 5 none) ∈ hq_tb := hq_in (List.mem_of_getElem? (i := 309) (by decide +kernel)) rfl
theorem sc_wd_87 : (Cond.methodLinkNest R_Plan 42 y_Needs_spread R_SC) ∈ hq_tb := hq_in (List.mem_of_getElem? (i := 306) (by decide +kernel)) rfl
theorem sc_wd_88 : (Cond.instanceMethod y_Needs_spread) ∈ hq_tb := hq_in (List.mem_of_getElem? (i := 308) (by decide +kernel)) rfl
theorem sc_wd_89 : (Cond.selects R_Needs y_Needs_spread y_Needs_spread) ∈ hq_tb := hq_in (List.mem_of_getElem? (i := 5) (by decide +kernel)) rfl
theorem sc_wd_90 : (Cond.code y_Plan_measureTileInHand b_Plan_measureTileInHand 4 (some .int)) ∈ hq_tb := hq_in (List.mem_of_getElem? (i := 368) (by decide +kernel)) rfl
theorem sc_wd_91 : (Cond.methodLink R_Plan 113 y_Plan_measureTileInHand) ∈ hq_tb := hq_in (List.mem_of_getElem? (i := 365) (by decide +kernel)) rfl
theorem sc_wd_92 : (Cond.instanceMethod y_Plan_measureTileInHand) ∈ hq_tb := hq_in (List.mem_of_getElem? (i := 367) (by decide +kernel)) rfl
theorem sc_wd_93 : (Cond.selects R_Plan y_Plan_measureTileInHand y_Plan_measureTileInHand) ∈ hq_tb := hq_in (List.mem_of_getElem? (i := 18) (by decide +kernel)) rfl
theorem sc_wd_94 : (Cond.fieldLink R_Plan 74 R_Plan "totalWork" "I") ∈ hq_tb := hq_in (List.mem_of_getElem? (i := 192) (by decide +kernel)) rfl
theorem sc_wd_95 : (Cond.code y_Plan_askInlineSources b_Plan_askInlineSources 5 none) ∈ hq_tb := hq_in (List.mem_of_getElem? (i := 377) (by decide +kernel)) rfl
theorem sc_wd_96 : (Cond.methodLink R_Plan 122 y_Plan_askInlineSources) ∈ hq_tb := hq_in (List.mem_of_getElem? (i := 374) (by decide +kernel)) rfl
theorem sc_wd_97 : (Cond.instanceMethod y_Plan_askInlineSources) ∈ hq_tb := hq_in (List.mem_of_getElem? (i := 376) (by decide +kernel)) rfl
theorem sc_wd_98 : (Cond.selects R_Plan y_Plan_askInlineSources y_Plan_askInlineSources) ∈ hq_tb := hq_in (List.mem_of_getElem? (i := 20) (by decide +kernel)) rfl
theorem sc_wd_99 : (Cond.code y_Plan_leastRootThatAsksTiled b_Plan_leastRootThatAsksTiled 2 (some .int)) ∈ hq_tb := hq_in (List.mem_of_getElem? (i := 323) (by decide +kernel)) rfl
theorem sc_wd_100 : (Cond.methodLink R_Plan 46 y_Plan_leastRootThatAsksTiled) ∈ hq_tb := hq_in (List.mem_of_getElem? (i := 320) (by decide +kernel)) rfl
theorem sc_wd_101 : (Cond.instanceMethod y_Plan_leastRootThatAsksTiled) ∈ hq_tb := hq_in (List.mem_of_getElem? (i := 322) (by decide +kernel)) rfl
theorem sc_wd_102 : (Cond.selects R_Plan y_Plan_leastRootThatAsksTiled y_Plan_leastRootThatAsksTiled) ∈ hq_tb := hq_in (List.mem_of_getElem? (i := 8) (by decide +kernel)) rfl
theorem sc_wd_103 : (Cond.code y_Arrays_fill b_Arrays_fill 4 none) ∈ hq_tb := hq_in (List.mem_of_getElem? (i := 334) (by decide +kernel)) rfl
theorem sc_wd_104 : (Cond.initialized R_Arrays) ∈ hq_tb := hq_in (List.mem_of_getElem? (i := 52) (by decide +kernel)) rfl
theorem sc_wd_105 : (Cond.methodLink R_Plan 50 y_Arrays_fill) ∈ hq_tb := hq_in (List.mem_of_getElem? (i := 332) (by decide +kernel)) rfl
theorem sc_wd_106 : (Cond.static y_Arrays_fill) ∈ hq_tb := hq_in (List.mem_of_getElem? (i := 333) (by decide +kernel)) rfl
theorem sc_wd_107 : (Cond.code y_Plan_measureOutput b_Plan_measureOutput 1 none) ∈ hq_tb := hq_in (List.mem_of_getElem? (i := 338) (by decide +kernel)) rfl
theorem sc_wd_108 : (Cond.methodLink R_Plan 62 y_Plan_measureOutput) ∈ hq_tb := hq_in (List.mem_of_getElem? (i := 335) (by decide +kernel)) rfl
theorem sc_wd_109 : (Cond.instanceMethod y_Plan_measureOutput) ∈ hq_tb := hq_in (List.mem_of_getElem? (i := 337) (by decide +kernel)) rfl
theorem sc_wd_110 : (Cond.selects R_Plan y_Plan_measureOutput y_Plan_measureOutput) ∈ hq_tb := hq_in (List.mem_of_getElem? (i := 11) (by decide +kernel)) rfl
theorem sc_wd_111 : (Cond.code y_Plan_measureRoots b_Plan_measureRoots 2 none) ∈ hq_tb := hq_in (List.mem_of_getElem? (i := 342) (by decide +kernel)) rfl
theorem sc_wd_112 : (Cond.methodLink R_Plan 65 y_Plan_measureRoots) ∈ hq_tb := hq_in (List.mem_of_getElem? (i := 339) (by decide +kernel)) rfl
theorem sc_wd_113 : (Cond.instanceMethod y_Plan_measureRoots) ∈ hq_tb := hq_in (List.mem_of_getElem? (i := 341) (by decide +kernel)) rfl
theorem sc_wd_114 : (Cond.selects R_Plan y_Plan_measureRoots y_Plan_measureRoots) ∈ hq_tb := hq_in (List.mem_of_getElem? (i := 12) (by decide +kernel)) rfl
theorem sc_wd_115 : (Cond.code y_Plan_measureTiles b_Plan_measureTiles 3 none) ∈ hq_tb := hq_in (List.mem_of_getElem? (i := 350) (by decide +kernel)) rfl
theorem sc_wd_116 : (Cond.methodLink R_Plan 68 y_Plan_measureTiles) ∈ hq_tb := hq_in (List.mem_of_getElem? (i := 347) (by decide +kernel)) rfl
theorem sc_wd_117 : (Cond.instanceMethod y_Plan_measureTiles) ∈ hq_tb := hq_in (List.mem_of_getElem? (i := 349) (by decide +kernel)) rfl
theorem sc_wd_118 : (Cond.selects R_Plan y_Plan_measureTiles y_Plan_measureTiles) ∈ hq_tb := hq_in (List.mem_of_getElem? (i := 14) (by decide +kernel)) rfl
theorem sc_wd_119 : (Cond.code y_Plan_measureInlines b_Plan_measureInlines 2 none) ∈ hq_tb := hq_in (List.mem_of_getElem? (i := 373) (by decide +kernel)) rfl
theorem sc_wd_120 : (Cond.methodLink R_Plan 71 y_Plan_measureInlines) ∈ hq_tb := hq_in (List.mem_of_getElem? (i := 370) (by decide +kernel)) rfl
theorem sc_wd_121 : (Cond.instanceMethod y_Plan_measureInlines) ∈ hq_tb := hq_in (List.mem_of_getElem? (i := 372) (by decide +kernel)) rfl
theorem sc_wd_122 : (Cond.selects R_Plan y_Plan_measureInlines y_Plan_measureInlines) ∈ hq_tb := hq_in (List.mem_of_getElem? (i := 19) (by decide +kernel)) rfl
theorem sc_wd_123 : (Cond.fieldLink R_Runner 18 R_Runner "kept" "[Z") ∈ hq_tb := hq_in (List.mem_of_getElem? (i := 227) (by decide +kernel)) rfl
theorem sc_wd_124 : (Cond.code y_Runner_workOut b_Runner_workOut 6 (some .int)) ∈ hq_tb := hq_in (List.mem_of_getElem? (i := 393) (by decide +kernel)) rfl
theorem sc_wd_125 : (Cond.initialized R_Runner) ∈ hq_tb := hq_in (List.mem_of_getElem? (i := 50) (by decide +kernel)) rfl
theorem sc_wd_126 : (Cond.methodLink R_Runner 68 y_Runner_workOut) ∈ hq_tb := hq_in (List.mem_of_getElem? (i := 390) (by decide +kernel)) rfl
theorem sc_wd_127 : (Cond.instanceMethod y_Runner_workOut) ∈ hq_tb := hq_in (List.mem_of_getElem? (i := 392) (by decide +kernel)) rfl
theorem sc_wd_128 : (Cond.selects R_Runner y_Runner_workOut y_Runner_workOut) ∈ hq_tb := hq_in (List.mem_of_getElem? (i := 23) (by decide +kernel)) rfl
theorem sc_wd_129 : (Cond.fieldLink R_Runner 24 R_Runner "rows" "[[I") ∈ hq_tb := hq_in (List.mem_of_getElem? (i := 228) (by decide +kernel)) rfl
theorem sc_wd_130 : (Cond.fieldLink R_Runner 31 R_Runner "pipeline" "LStencilCompiler$Pipeline;") ∈ hq_tb := hq_in (List.mem_of_getElem? (i := 225) (by decide +kernel)) rfl
theorem sc_wd_131 : (Cond.fieldLinkNest R_Runner 111 R_Pipe "row" "[I" R_SC) ∈ hq_tb := hq_in (List.mem_of_getElem? (i := 121) (by decide +kernel)) rfl
theorem sc_wd_132 : (Cond.methodLink R_Runner 114 Lib.Math.min.name) ∈ hq_tb := hq_in (List.mem_of_getElem? (i := 398) (by decide +kernel)) rfl
theorem sc_wd_133 : (Cond.methodLink R_Runner 119 Lib.Math.max.name) ∈ hq_tb := hq_in (List.mem_of_getElem? (i := 399) (by decide +kernel)) rfl
theorem sc_wd_134 : (Cond.fieldLinkNest R_Runner 75 R_Pipe "stages" "[LStencilCompiler$Stage;" R_SC) ∈ hq_tb := hq_in (List.mem_of_getElem? (i := 125) (by decide +kernel)) rfl
theorem sc_wd_135 : (Cond.fieldLinkNest R_Runner 90 R_Stage "constant" "I" R_SC) ∈ hq_tb := hq_in (List.mem_of_getElem? (i := 81) (by decide +kernel)) rfl
theorem sc_wd_136 : (Cond.fieldLinkNest R_Runner 93 R_Stage "tapCount" "I" R_SC) ∈ hq_tb := hq_in (List.mem_of_getElem? (i := 91) (by decide +kernel)) rfl
theorem sc_wd_137 : (Cond.code y_Stage_finished b_Stage_finished 2 (some .int)) ∈ hq_tb := hq_in (List.mem_of_getElem? (i := 403) (by decide +kernel)) rfl
theorem sc_wd_138 : (Cond.initialized R_Stage) ∈ hq_tb := hq_in (List.mem_of_getElem? (i := 47) (by decide +kernel)) rfl
theorem sc_wd_139 : (Cond.methodLinkNest R_Runner 108 y_Stage_finished R_SC) ∈ hq_tb := hq_in (List.mem_of_getElem? (i := 400) (by decide +kernel)) rfl
theorem sc_wd_140 : (Cond.instanceMethod y_Stage_finished) ∈ hq_tb := hq_in (List.mem_of_getElem? (i := 402) (by decide +kernel)) rfl
theorem sc_wd_141 : (Cond.selects R_Stage y_Stage_finished y_Stage_finished) ∈ hq_tb := hq_in (List.mem_of_getElem? (i := 25) (by decide +kernel)) rfl
theorem sc_wd_142 : (Cond.fieldLinkNest R_Runner 96 R_Stage "weights" "[I" R_SC) ∈ hq_tb := hq_in (List.mem_of_getElem? (i := 102) (by decide +kernel)) rfl
theorem sc_wd_143 : (Cond.fieldLinkNest R_Runner 99 R_Stage "sources" "[I" R_SC) ∈ hq_tb := hq_in (List.mem_of_getElem? (i := 96) (by decide +kernel)) rfl
theorem sc_wd_144 : (Cond.fieldLinkNest R_Runner 102 R_Stage "offsets" "[I" R_SC) ∈ hq_tb := hq_in (List.mem_of_getElem? (i := 100) (by decide +kernel)) rfl
theorem sc_wd_145 : (Cond.code y_Runner_sourceValue b_Runner_sourceValue 3 (some .int)) ∈ hq_tb := hq_in (List.mem_of_getElem? (i := 397) (by decide +kernel)) rfl
theorem sc_wd_146 : (Cond.methodLink R_Runner 105 y_Runner_sourceValue) ∈ hq_tb := hq_in (List.mem_of_getElem? (i := 394) (by decide +kernel)) rfl
theorem sc_wd_147 : (Cond.instanceMethod y_Runner_sourceValue) ∈ hq_tb := hq_in (List.mem_of_getElem? (i := 396) (by decide +kernel)) rfl
theorem sc_wd_148 : (Cond.selects R_Runner y_Runner_sourceValue y_Runner_sourceValue) ∈ hq_tb := hq_in (List.mem_of_getElem? (i := 24) (by decide +kernel)) rfl
theorem sc_wd_149 : (Cond.fieldLinkNest R_Runner 64 R_Pipe "output" "I" R_SC) ∈ hq_tb := hq_in (List.mem_of_getElem? (i := 135) (by decide +kernel)) rfl
theorem sc_wd_150 : (Cond.fieldLinkNest R_Runner 79 R_Stage "mode" "I" R_SC) ∈ hq_tb := hq_in (List.mem_of_getElem? (i := 84) (by decide +kernel)) rfl
theorem sc_wd_151 : (Cond.fieldLinkNest R_Runner 72 R_Needs "used" "[Z" R_SC) ∈ hq_tb := hq_in (List.mem_of_getElem? (i := 168) (by decide +kernel)) rfl
theorem sc_wd_152 : (Cond.fieldLinkNest R_Runner 84 R_Needs "first" "[I" R_SC) ∈ hq_tb := hq_in (List.mem_of_getElem? (i := 172) (by decide +kernel)) rfl
theorem sc_wd_153 : (Cond.fieldLinkNest R_Runner 87 R_Needs "last" "[I" R_SC) ∈ hq_tb := hq_in (List.mem_of_getElem? (i := 175) (by decide +kernel)) rfl
theorem sc_wd_154 : (Cond.fieldLink R_Runner 12 R_Runner "tileNeeds" "LStencilCompiler$Needs;") ∈ hq_tb := hq_in (List.mem_of_getElem? (i := 226) (by decide +kernel)) rfl
theorem sc_wd_155 : (Cond.methodLinkNest R_Runner 60 y_Needs_spread R_SC) ∈ hq_tb := hq_in (List.mem_of_getElem? (i := 415) (by decide +kernel)) rfl
theorem sc_wd_156 : (Cond.code y_Runner_keep b_Runner_keep 5 none) ∈ hq_tb := hq_in (List.mem_of_getElem? (i := 389) (by decide +kernel)) rfl
theorem sc_wd_157 : (Cond.methodLink R_Runner 35 y_Runner_keep) ∈ hq_tb := hq_in (List.mem_of_getElem? (i := 386) (by decide +kernel)) rfl
theorem sc_wd_158 : (Cond.instanceMethod y_Runner_keep) ∈ hq_tb := hq_in (List.mem_of_getElem? (i := 388) (by decide +kernel)) rfl
theorem sc_wd_159 : (Cond.selects R_Runner y_Runner_keep y_Runner_keep) ∈ hq_tb := hq_in (List.mem_of_getElem? (i := 22) (by decide +kernel)) rfl
theorem sc_wd_160 : (Cond.code y_Runner_release b_Runner_release 3 none) ∈ hq_tb := hq_in (List.mem_of_getElem? (i := 419) (by decide +kernel)) rfl
theorem sc_wd_161 : (Cond.methodLink R_Runner 56 y_Runner_release) ∈ hq_tb := hq_in (List.mem_of_getElem? (i := 416) (by decide +kernel)) rfl
theorem sc_wd_162 : (Cond.instanceMethod y_Runner_release) ∈ hq_tb := hq_in (List.mem_of_getElem? (i := 418) (by decide +kernel)) rfl
theorem sc_wd_163 : (Cond.selects R_Runner y_Runner_release y_Runner_release) ∈ hq_tb := hq_in (List.mem_of_getElem? (i := 27) (by decide +kernel)) rfl
theorem sc_wd_164 : (Cond.fieldLink R_Runner 27 R_Runner "results" "[I") ∈ hq_tb := hq_in (List.mem_of_getElem? (i := 229) (by decide +kernel)) rfl
theorem sc_wd_165 : (Cond.methodLinkNest R_Runner 39 y_Pipe_tileCount R_SC) ∈ hq_tb := hq_in (List.mem_of_getElem? (i := 408) (by decide +kernel)) rfl
theorem sc_wd_166 : (Cond.methodLinkNest R_Runner 45 y_Pipe_tileFirst R_SC) ∈ hq_tb := hq_in (List.mem_of_getElem? (i := 409) (by decide +kernel)) rfl
theorem sc_wd_167 : (Cond.methodLinkNest R_Runner 49 y_Pipe_tileLast R_SC) ∈ hq_tb := hq_in (List.mem_of_getElem? (i := 410) (by decide +kernel)) rfl
theorem sc_wd_168 : (Cond.code y_Runner_runTile b_Runner_runTile 4 none) ∈ hq_tb := hq_in (List.mem_of_getElem? (i := 414) (by decide +kernel)) rfl
theorem sc_wd_169 : (Cond.methodLink R_Runner 52 y_Runner_runTile) ∈ hq_tb := hq_in (List.mem_of_getElem? (i := 411) (by decide +kernel)) rfl
theorem sc_wd_170 : (Cond.instanceMethod y_Runner_runTile) ∈ hq_tb := hq_in (List.mem_of_getElem? (i := 413) (by decide +kernel)) rfl
theorem sc_wd_171 : (Cond.selects R_Runner y_Runner_runTile y_Runner_runTile) ∈ hq_tb := hq_in (List.mem_of_getElem? (i := 26) (by decide +kernel)) rfl
theorem sc_wd_172 : (Cond.fieldLink R_SC 86 R_SC "compiled" "Z") ∈ hq_tb := hq_in (List.mem_of_getElem? (i := 245) (by decide +kernel)) rfl
theorem sc_wd_173 : (Cond.fieldLink R_SC 105 R_SC "ran" "Z") ∈ hq_tb := hq_in (List.mem_of_getElem? (i := 246) (by decide +kernel)) rfl
theorem sc_wd_174 : (Cond.fieldLink R_SC 23 R_SC "pipeline" "LStencilCompiler$Pipeline;") ∈ hq_tb := hq_in (List.mem_of_getElem? (i := 242) (by decide +kernel)) rfl
theorem sc_wd_175 : (Cond.fieldLinkNest R_SC 43 R_Pipe "row" "[I" R_SC) ∈ hq_tb := hq_in (List.mem_of_getElem? (i := 120) (by decide +kernel)) rfl
theorem sc_wd_176 : (Cond.code y_SC_forgetCompiled b_SC_forgetCompiled 1 none) ∈ hq_tb := hq_in (List.mem_of_getElem? (i := 265) (by decide +kernel)) rfl
theorem sc_wd_177 : (Cond.initialized R_SC) ∈ hq_tb := hq_in (List.mem_of_getElem? (i := 44) (by decide +kernel)) rfl
theorem sc_wd_178 : (Cond.methodLink R_SC 47 y_SC_forgetCompiled) ∈ hq_tb := hq_in (List.mem_of_getElem? (i := 262) (by decide +kernel)) rfl
theorem sc_wd_179 : (Cond.instanceMethod y_SC_forgetCompiled) ∈ hq_tb := hq_in (List.mem_of_getElem? (i := 264) (by decide +kernel)) rfl
theorem sc_wd_180 : (Cond.selects R_SC y_SC_forgetCompiled y_SC_forgetCompiled) ∈ hq_tb := hq_in (List.mem_of_getElem? (i := 0) (by decide +kernel)) rfl
theorem sc_wd_181 : (Cond.fieldLinkNest R_SC 50 R_Pipe "stageCount" "I" R_SC) ∈ hq_tb := hq_in (List.mem_of_getElem? (i := 129) (by decide +kernel)) rfl
theorem sc_wd_182 : (Cond.code y_Pipe_addStage b_Pipe_addStage 4 (some .int)) ∈ hq_tb := hq_in (List.mem_of_getElem? (i := 273) (by decide +kernel)) rfl
theorem sc_wd_183 : (Cond.methodLinkNest R_SC 54 y_Pipe_addStage R_SC) ∈ hq_tb := hq_in (List.mem_of_getElem? (i := 270) (by decide +kernel)) rfl
theorem sc_wd_184 : (Cond.instanceMethod y_Pipe_addStage) ∈ hq_tb := hq_in (List.mem_of_getElem? (i := 272) (by decide +kernel)) rfl
theorem sc_wd_185 : (Cond.selects R_Pipe y_Pipe_addStage y_Pipe_addStage) ∈ hq_tb := hq_in (List.mem_of_getElem? (i := 1) (by decide +kernel)) rfl
theorem sc_wd_186 : (Cond.code y_Pipe_hasStage b_Pipe_hasStage 2 (some .boolean)) ∈ hq_tb := hq_in (List.mem_of_getElem? (i := 281) (by decide +kernel)) rfl
theorem sc_wd_187 : (Cond.methodLinkNest R_SC 57 y_Pipe_hasStage R_SC) ∈ hq_tb := hq_in (List.mem_of_getElem? (i := 278) (by decide +kernel)) rfl
theorem sc_wd_188 : (Cond.instanceMethod y_Pipe_hasStage) ∈ hq_tb := hq_in (List.mem_of_getElem? (i := 280) (by decide +kernel)) rfl
theorem sc_wd_189 : (Cond.selects R_Pipe y_Pipe_hasStage y_Pipe_hasStage) ∈ hq_tb := hq_in (List.mem_of_getElem? (i := 2) (by decide +kernel)) rfl
theorem sc_wd_190 : (Cond.fieldLinkNest R_SC 61 R_Pipe "stages" "[LStencilCompiler$Stage;" R_SC) ∈ hq_tb := hq_in (List.mem_of_getElem? (i := 126) (by decide +kernel)) rfl
theorem sc_wd_191 : (Cond.fieldLinkNest R_SC 65 R_Stage "tapCount" "I" R_SC) ∈ hq_tb := hq_in (List.mem_of_getElem? (i := 90) (by decide +kernel)) rfl
theorem sc_wd_192 : (Cond.code y_Stage_addTap b_Stage_addTap 4 none) ∈ hq_tb := hq_in (List.mem_of_getElem? (i := 285) (by decide +kernel)) rfl
theorem sc_wd_193 : (Cond.methodLinkNest R_SC 70 y_Stage_addTap R_SC) ∈ hq_tb := hq_in (List.mem_of_getElem? (i := 282) (by decide +kernel)) rfl
theorem sc_wd_194 : (Cond.instanceMethod y_Stage_addTap) ∈ hq_tb := hq_in (List.mem_of_getElem? (i := 284) (by decide +kernel)) rfl
theorem sc_wd_195 : (Cond.selects R_Stage y_Stage_addTap y_Stage_addTap) ∈ hq_tb := hq_in (List.mem_of_getElem? (i := 3) (by decide +kernel)) rfl
theorem sc_wd_196 : (Cond.fieldLinkNest R_SC 74 R_Stage "mode" "I" R_SC) ∈ hq_tb := hq_in (List.mem_of_getElem? (i := 86) (by decide +kernel)) rfl
theorem sc_wd_197 : (Cond.fieldLinkNest R_SC 77 R_Pipe "tileSize" "I" R_SC) ∈ hq_tb := hq_in (List.mem_of_getElem? (i := 131) (by decide +kernel)) rfl
theorem sc_wd_198 : (Cond.fieldLinkNest R_SC 80 R_Pipe "output" "I" R_SC) ∈ hq_tb := hq_in (List.mem_of_getElem? (i := 136) (by decide +kernel)) rfl
theorem sc_wd_199 : (Cond.fieldLinkNest R_SC 83 R_Pipe "width" "I" R_SC) ∈ hq_tb := hq_in (List.mem_of_getElem? (i := 139) (by decide +kernel)) rfl
theorem sc_wd_200 : (Cond.fieldLink R_SC 32 R_SC "plan" "LStencilCompiler$Plan;") ∈ hq_tb := hq_in (List.mem_of_getElem? (i := 243) (by decide +kernel)) rfl
theorem sc_wd_201 : (Cond.code y_Plan_draw b_Plan_draw 2 (some .int)) ∈ hq_tb := hq_in (List.mem_of_getElem? (i := 305) (by decide +kernel)) rfl
theorem sc_wd_202 : (Cond.methodLinkNest R_SC 90 y_Plan_draw R_SC) ∈ hq_tb := hq_in (List.mem_of_getElem? (i := 302) (by decide +kernel)) rfl
theorem sc_wd_203 : (Cond.instanceMethod y_Plan_draw) ∈ hq_tb := hq_in (List.mem_of_getElem? (i := 304) (by decide +kernel)) rfl
theorem sc_wd_204 : (Cond.selects R_Plan y_Plan_draw y_Plan_draw) ∈ hq_tb := hq_in (List.mem_of_getElem? (i := 4) (by decide +kernel)) rfl
theorem sc_wd_205 : (Cond.fieldLinkNest R_SC 94 R_Plan "totalWork" "I" R_SC) ∈ hq_tb := hq_in (List.mem_of_getElem? (i := 193) (by decide +kernel)) rfl
theorem sc_wd_206 : (Cond.fieldLink R_SC 39 R_SC "runner" "LStencilCompiler$Runner;") ∈ hq_tb := hq_in (List.mem_of_getElem? (i := 244) (by decide +kernel)) rfl
theorem sc_wd_207 : (Cond.fieldLinkNest R_SC 97 R_Plan "regions" "LStencilCompiler$Needs;" R_SC) ∈ hq_tb := hq_in (List.mem_of_getElem? (i := 187) (by decide +kernel)) rfl
theorem sc_wd_208 : (Cond.code y_Runner_runSchedule b_Runner_runSchedule 3 none) ∈ hq_tb := hq_in (List.mem_of_getElem? (i := 385) (by decide +kernel)) rfl
theorem sc_wd_209 : (Cond.methodLinkNest R_SC 101 y_Runner_runSchedule R_SC) ∈ hq_tb := hq_in (List.mem_of_getElem? (i := 382) (by decide +kernel)) rfl
theorem sc_wd_210 : (Cond.instanceMethod y_Runner_runSchedule) ∈ hq_tb := hq_in (List.mem_of_getElem? (i := 384) (by decide +kernel)) rfl
theorem sc_wd_211 : (Cond.selects R_Runner y_Runner_runSchedule y_Runner_runSchedule) ∈ hq_tb := hq_in (List.mem_of_getElem? (i := 21) (by decide +kernel)) rfl
theorem sc_wd_212 : (Cond.methodLinkNest R_SC 108 y_Pipe_tileCount R_SC) ∈ hq_tb := hq_in (List.mem_of_getElem? (i := 420) (by decide +kernel)) rfl
theorem sc_wd_213 : (Cond.fieldLinkNest R_SC 113 R_Runner "results" "[I" R_SC) ∈ hq_tb := hq_in (List.mem_of_getElem? (i := 230) (by decide +kernel)) rfl
theorem sc_wd_214 : (Cond.constantLong R_SC 111 (-1000000000000)) ∈ hq_tb := hq_in (List.mem_of_getElem? (i := 425) (by decide +kernel)) rfl
theorem sc_wd_215 : (Cond.code y_Pipe_valuesWorkedOutFor b_Pipe_valuesWorkedOutFor 7 (some .int)) ∈ hq_tb := hq_in (List.mem_of_getElem? (i := 433) (by decide +kernel)) rfl
theorem sc_wd_216 : (Cond.methodLinkNest R_SC 116 y_Pipe_valuesWorkedOutFor R_SC) ∈ hq_tb := hq_in (List.mem_of_getElem? (i := 430) (by decide +kernel)) rfl
theorem sc_wd_217 : (Cond.instanceMethod y_Pipe_valuesWorkedOutFor) ∈ hq_tb := hq_in (List.mem_of_getElem? (i := 432) (by decide +kernel)) rfl
theorem sc_wd_218 : (Cond.selects R_Pipe y_Pipe_valuesWorkedOutFor y_Pipe_valuesWorkedOutFor) ∈ hq_tb := hq_in (List.mem_of_getElem? (i := 28) (by decide +kernel)) rfl
theorem sc_wd_219 : (Cond.methodLinkNest R_SC 120 y_Runner_workOut R_SC) ∈ hq_tb := hq_in (List.mem_of_getElem? (i := 434) (by decide +kernel)) rfl
theorem sc_wd_220 : (Cond.fieldLinkNest R_SC 123 R_Needs "used" "[Z" R_SC) ∈ hq_tb := hq_in (List.mem_of_getElem? (i := 170) (by decide +kernel)) rfl
theorem sc_wd_221 : (Cond.fieldLinkNest R_SC 132 R_Needs "first" "[I" R_SC) ∈ hq_tb := hq_in (List.mem_of_getElem? (i := 173) (by decide +kernel)) rfl
theorem sc_wd_222 : (Cond.fieldLinkNest R_SC 129 R_Needs "last" "[I" R_SC) ∈ hq_tb := hq_in (List.mem_of_getElem? (i := 176) (by decide +kernel)) rfl
theorem sc_wd_223 : (Cond.fieldLinkNest R_SC 135 R_Plan "workOf" "[I" R_SC) ∈ hq_tb := hq_in (List.mem_of_getElem? (i := 191) (by decide +kernel)) rfl
theorem sc_wd_224 : (Cond.fieldLinkNest R_SC 138 R_Plan "room" "I" R_SC) ∈ hq_tb := hq_in (List.mem_of_getElem? (i := 195) (by decide +kernel)) rfl
theorem sc_wd_225 : (Cond.code y_Plan_usedCount b_Plan_usedCount 3 (some .int)) ∈ hq_tb := hq_in (List.mem_of_getElem? (i := 450) (by decide +kernel)) rfl
theorem sc_wd_226 : (Cond.methodLinkNest R_SC 141 y_Plan_usedCount R_SC) ∈ hq_tb := hq_in (List.mem_of_getElem? (i := 447) (by decide +kernel)) rfl
theorem sc_wd_227 : (Cond.instanceMethod y_Plan_usedCount) ∈ hq_tb := hq_in (List.mem_of_getElem? (i := 449) (by decide +kernel)) rfl
theorem sc_wd_228 : (Cond.selects R_Plan y_Plan_usedCount y_Plan_usedCount) ∈ hq_tb := hq_in (List.mem_of_getElem? (i := 29) (by decide +kernel)) rfl
theorem sc_wd_229 : (Cond.fieldLinkNest R_SC 144 R_Plan "greatestTileNeed" "I" R_SC) ∈ hq_tb := hq_in (List.mem_of_getElem? (i := 197) (by decide +kernel)) rfl
