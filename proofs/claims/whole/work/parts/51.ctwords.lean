/-! words of the constructors -/
theorem ct_wd_0 : (Cond.methodLink R_Needs 3 objectInit) ∈ hq_tb := hq_in (List.mem_of_getElem? (i := 166) (by decide +kernel)) rfl
theorem ct_wd_1 : (Cond.instanceMethod objectInit) ∈ hq_tb := hq_in (List.mem_of_getElem? (i := 59) (by decide +kernel)) rfl
theorem ct_wd_2 : (Cond.arrayClass .boolean) ∈ hq_tb := hq_in (List.mem_of_getElem? (i := 184) (by decide +kernel)) rfl
theorem ct_wd_3 : (Cond.fieldLink R_Needs 9 R_Needs "used" "[Z") ∈ hq_tb := hq_in (List.mem_of_getElem? (i := 167) (by decide +kernel)) rfl
theorem ct_wd_4 : (Cond.arrayClass .int) ∈ hq_tb := hq_in (List.mem_of_getElem? (i := 118) (by decide +kernel)) rfl
theorem ct_wd_5 : (Cond.fieldLink R_Needs 15 R_Needs "first" "[I") ∈ hq_tb := hq_in (List.mem_of_getElem? (i := 171) (by decide +kernel)) rfl
theorem ct_wd_6 : (Cond.fieldLink R_Needs 19 R_Needs "last" "[I") ∈ hq_tb := hq_in (List.mem_of_getElem? (i := 174) (by decide +kernel)) rfl
theorem ct_wd_7 : (Cond.methodLink R_Stage 3 objectInit) ∈ hq_tb := hq_in (List.mem_of_getElem? (i := 79) (by decide +kernel)) rfl
theorem ct_wd_8 : (Cond.fieldLink R_Stage 9 R_Stage "sources" "[I") ∈ hq_tb := hq_in (List.mem_of_getElem? (i := 93) (by decide +kernel)) rfl
theorem ct_wd_9 : (Cond.fieldLink R_Stage 15 R_Stage "offsets" "[I") ∈ hq_tb := hq_in (List.mem_of_getElem? (i := 98) (by decide +kernel)) rfl
theorem ct_wd_10 : (Cond.fieldLink R_Stage 18 R_Stage "weights" "[I") ∈ hq_tb := hq_in (List.mem_of_getElem? (i := 101) (by decide +kernel)) rfl
theorem ct_wd_11 : (Cond.classLink R_Pipe 9 R_Stage) ∈ hq_tb := hq_in (List.mem_of_getElem? (i := 73) (by decide +kernel)) rfl
theorem ct_wd_12 : (Cond.instantiable R_Stage 7) ∈ hq_tb := hq_in (List.mem_of_getElem? (i := 75) (by decide +kernel)) rfl
theorem ct_wd_13 : (Cond.initialized R_Stage) ∈ hq_tb := hq_in (List.mem_of_getElem? (i := 47) (by decide +kernel)) rfl
theorem ct_wd_14 : (Cond.code y_Stage_init b_Stage_init 1 none) ∈ hq_tb := hq_in (List.mem_of_getElem? (i := 78) (by decide +kernel)) rfl
theorem ct_wd_15 : (Cond.methodLinkNest R_Pipe 31 y_Stage_init R_SC) ∈ hq_tb := hq_in (List.mem_of_getElem? (i := 76) (by decide +kernel)) rfl
theorem ct_wd_16 : (Cond.instanceMethod y_Stage_init) ∈ hq_tb := hq_in (List.mem_of_getElem? (i := 77) (by decide +kernel)) rfl
theorem ct_wd_17 : (Cond.methodLink R_Pipe 3 objectInit) ∈ hq_tb := hq_in (List.mem_of_getElem? (i := 72) (by decide +kernel)) rfl
theorem ct_wd_18 : (Cond.fieldLink R_Pipe 11 R_Pipe "stages" "[LStencilCompiler$Stage;") ∈ hq_tb := hq_in (List.mem_of_getElem? (i := 122) (by decide +kernel)) rfl
theorem ct_wd_19 : (Cond.fieldLink R_Pipe 17 R_Pipe "valuesFor" "[I") ∈ hq_tb := hq_in (List.mem_of_getElem? (i := 127) (by decide +kernel)) rfl
theorem ct_wd_20 : (Cond.fieldLink R_Pipe 21 R_Pipe "tileSize" "I") ∈ hq_tb := hq_in (List.mem_of_getElem? (i := 130) (by decide +kernel)) rfl
theorem ct_wd_21 : (Cond.fieldLink R_Pipe 25 R_Pipe "output" "I") ∈ hq_tb := hq_in (List.mem_of_getElem? (i := 132) (by decide +kernel)) rfl
theorem ct_wd_22 : (Cond.fieldLink R_Pipe 28 R_Pipe "row" "[I") ∈ hq_tb := hq_in (List.mem_of_getElem? (i := 119) (by decide +kernel)) rfl
theorem ct_wd_23 : (Cond.methodLink R_Plan 3 objectInit) ∈ hq_tb := hq_in (List.mem_of_getElem? (i := 160) (by decide +kernel)) rfl
theorem ct_wd_24 : (Cond.classLink R_Plan 9 R_Needs) ∈ hq_tb := hq_in (List.mem_of_getElem? (i := 161) (by decide +kernel)) rfl
theorem ct_wd_25 : (Cond.instantiable R_Needs 3) ∈ hq_tb := hq_in (List.mem_of_getElem? (i := 162) (by decide +kernel)) rfl
theorem ct_wd_26 : (Cond.initialized R_Needs) ∈ hq_tb := hq_in (List.mem_of_getElem? (i := 49) (by decide +kernel)) rfl
theorem ct_wd_27 : (Cond.code y_Needs_init b_Needs_init 1 none) ∈ hq_tb := hq_in (List.mem_of_getElem? (i := 165) (by decide +kernel)) rfl
theorem ct_wd_28 : (Cond.methodLinkNest R_Plan 11 y_Needs_init R_SC) ∈ hq_tb := hq_in (List.mem_of_getElem? (i := 163) (by decide +kernel)) rfl
theorem ct_wd_29 : (Cond.instanceMethod y_Needs_init) ∈ hq_tb := hq_in (List.mem_of_getElem? (i := 164) (by decide +kernel)) rfl
theorem ct_wd_30 : (Cond.fieldLink R_Plan 12 R_Plan "regions" "LStencilCompiler$Needs;") ∈ hq_tb := hq_in (List.mem_of_getElem? (i := 186) (by decide +kernel)) rfl
theorem ct_wd_31 : (Cond.fieldLink R_Plan 18 R_Plan "tileNeeds" "LStencilCompiler$Needs;") ∈ hq_tb := hq_in (List.mem_of_getElem? (i := 188) (by decide +kernel)) rfl
theorem ct_wd_32 : (Cond.fieldLink R_Plan 21 R_Plan "asksTiled" "[Z") ∈ hq_tb := hq_in (List.mem_of_getElem? (i := 189) (by decide +kernel)) rfl
theorem ct_wd_33 : (Cond.fieldLink R_Plan 25 R_Plan "workOf" "[I") ∈ hq_tb := hq_in (List.mem_of_getElem? (i := 190) (by decide +kernel)) rfl
theorem ct_wd_34 : (Cond.fieldLink R_Plan 29 R_Plan "pipeline" "LStencilCompiler$Pipeline;") ∈ hq_tb := hq_in (List.mem_of_getElem? (i := 185) (by decide +kernel)) rfl
theorem ct_wd_35 : (Cond.methodLink R_Runner 3 objectInit) ∈ hq_tb := hq_in (List.mem_of_getElem? (i := 220) (by decide +kernel)) rfl
theorem ct_wd_36 : (Cond.classLink R_Runner 9 R_Needs) ∈ hq_tb := hq_in (List.mem_of_getElem? (i := 221) (by decide +kernel)) rfl
theorem ct_wd_37 : (Cond.methodLinkNest R_Runner 11 y_Needs_init R_SC) ∈ hq_tb := hq_in (List.mem_of_getElem? (i := 222) (by decide +kernel)) rfl
theorem ct_wd_38 : (Cond.fieldLink R_Runner 12 R_Runner "tileNeeds" "LStencilCompiler$Needs;") ∈ hq_tb := hq_in (List.mem_of_getElem? (i := 226) (by decide +kernel)) rfl
theorem ct_wd_39 : (Cond.fieldLink R_Runner 18 R_Runner "kept" "[Z") ∈ hq_tb := hq_in (List.mem_of_getElem? (i := 227) (by decide +kernel)) rfl
theorem ct_wd_40 : (Cond.classLink R_Runner 22 ("[" ++ (FieldType.array .int).toString)) ∈ hq_tb := hq_in (List.mem_of_getElem? (i := 223) (by decide +kernel)) rfl
theorem ct_wd_41 : (Cond.fieldLink R_Runner 24 R_Runner "rows" "[[I") ∈ hq_tb := hq_in (List.mem_of_getElem? (i := 228) (by decide +kernel)) rfl
theorem ct_wd_42 : (Cond.fieldLink R_Runner 27 R_Runner "results" "[I") ∈ hq_tb := hq_in (List.mem_of_getElem? (i := 229) (by decide +kernel)) rfl
theorem ct_wd_43 : (Cond.fieldLink R_Runner 31 R_Runner "pipeline" "LStencilCompiler$Pipeline;") ∈ hq_tb := hq_in (List.mem_of_getElem? (i := 225) (by decide +kernel)) rfl
theorem ct_wd_44 : (Cond.methodLink R_SC 3 objectInit) ∈ hq_tb := hq_in (List.mem_of_getElem? (i := 58) (by decide +kernel)) rfl
theorem ct_wd_45 : (Cond.classLink R_SC 9 R_Pipe) ∈ hq_tb := hq_in (List.mem_of_getElem? (i := 61) (by decide +kernel)) rfl
theorem ct_wd_46 : (Cond.instantiable R_Pipe 7) ∈ hq_tb := hq_in (List.mem_of_getElem? (i := 62) (by decide +kernel)) rfl
theorem ct_wd_47 : (Cond.initialized R_Pipe) ∈ hq_tb := hq_in (List.mem_of_getElem? (i := 45) (by decide +kernel)) rfl
theorem ct_wd_48 : (Cond.methodLink R_SC 11 Lib.Math.min.name) ∈ hq_tb := hq_in (List.mem_of_getElem? (i := 63) (by decide +kernel)) rfl
theorem ct_wd_49 : (Cond.methodLink R_SC 17 Lib.Math.max.name) ∈ hq_tb := hq_in (List.mem_of_getElem? (i := 66) (by decide +kernel)) rfl
theorem ct_wd_50 : (Cond.code y_Pipe_init b_Pipe_init 3 none) ∈ hq_tb := hq_in (List.mem_of_getElem? (i := 71) (by decide +kernel)) rfl
theorem ct_wd_51 : (Cond.methodLinkNest R_SC 20 y_Pipe_init R_SC) ∈ hq_tb := hq_in (List.mem_of_getElem? (i := 69) (by decide +kernel)) rfl
theorem ct_wd_52 : (Cond.instanceMethod y_Pipe_init) ∈ hq_tb := hq_in (List.mem_of_getElem? (i := 70) (by decide +kernel)) rfl
theorem ct_wd_53 : (Cond.fieldLink R_SC 23 R_SC "pipeline" "LStencilCompiler$Pipeline;") ∈ hq_tb := hq_in (List.mem_of_getElem? (i := 242) (by decide +kernel)) rfl
theorem ct_wd_54 : (Cond.classLink R_SC 27 R_Plan) ∈ hq_tb := hq_in (List.mem_of_getElem? (i := 155) (by decide +kernel)) rfl
theorem ct_wd_55 : (Cond.instantiable R_Plan 8) ∈ hq_tb := hq_in (List.mem_of_getElem? (i := 156) (by decide +kernel)) rfl
theorem ct_wd_56 : (Cond.initialized R_Plan) ∈ hq_tb := hq_in (List.mem_of_getElem? (i := 48) (by decide +kernel)) rfl
theorem ct_wd_57 : (Cond.code y_Plan_init b_Plan_init 2 none) ∈ hq_tb := hq_in (List.mem_of_getElem? (i := 159) (by decide +kernel)) rfl
theorem ct_wd_58 : (Cond.methodLinkNest R_SC 29 y_Plan_init R_SC) ∈ hq_tb := hq_in (List.mem_of_getElem? (i := 157) (by decide +kernel)) rfl
theorem ct_wd_59 : (Cond.instanceMethod y_Plan_init) ∈ hq_tb := hq_in (List.mem_of_getElem? (i := 158) (by decide +kernel)) rfl
theorem ct_wd_60 : (Cond.fieldLink R_SC 32 R_SC "plan" "LStencilCompiler$Plan;") ∈ hq_tb := hq_in (List.mem_of_getElem? (i := 243) (by decide +kernel)) rfl
theorem ct_wd_61 : (Cond.classLink R_SC 36 R_Runner) ∈ hq_tb := hq_in (List.mem_of_getElem? (i := 215) (by decide +kernel)) rfl
theorem ct_wd_62 : (Cond.instantiable R_Runner 5) ∈ hq_tb := hq_in (List.mem_of_getElem? (i := 216) (by decide +kernel)) rfl
theorem ct_wd_63 : (Cond.initialized R_Runner) ∈ hq_tb := hq_in (List.mem_of_getElem? (i := 50) (by decide +kernel)) rfl
theorem ct_wd_64 : (Cond.code y_Runner_init b_Runner_init 2 none) ∈ hq_tb := hq_in (List.mem_of_getElem? (i := 219) (by decide +kernel)) rfl
theorem ct_wd_65 : (Cond.methodLinkNest R_SC 38 y_Runner_init R_SC) ∈ hq_tb := hq_in (List.mem_of_getElem? (i := 217) (by decide +kernel)) rfl
theorem ct_wd_66 : (Cond.instanceMethod y_Runner_init) ∈ hq_tb := hq_in (List.mem_of_getElem? (i := 218) (by decide +kernel)) rfl
theorem ct_wd_67 : (Cond.fieldLink R_SC 39 R_SC "runner" "LStencilCompiler$Runner;") ∈ hq_tb := hq_in (List.mem_of_getElem? (i := 244) (by decide +kernel)) rfl
theorem ct_wd_68 : (Cond.methodLink R_Mo 1 objectInit) ∈ hq_tb := hq_in (List.mem_of_getElem? (i := 459) (by decide +kernel)) rfl
theorem ct_wd_69 : (Cond.fieldLink R_Mo 7 R_Mo "input" "[I") ∈ hq_tb := hq_in (List.mem_of_getElem? (i := 461) (by decide +kernel)) rfl
theorem ct_wd_70 : (Cond.fieldLink R_Mo 13 R_Mo "constant" "[I") ∈ hq_tb := hq_in (List.mem_of_getElem? (i := 462) (by decide +kernel)) rfl
theorem ct_wd_71 : (Cond.fieldLink R_Mo 16 R_Mo "finish" "[I") ∈ hq_tb := hq_in (List.mem_of_getElem? (i := 463) (by decide +kernel)) rfl
theorem ct_wd_72 : (Cond.fieldLink R_Mo 19 R_Mo "mode" "[I") ∈ hq_tb := hq_in (List.mem_of_getElem? (i := 464) (by decide +kernel)) rfl
theorem ct_wd_73 : (Cond.fieldLink R_Mo 22 R_Mo "source" "[I") ∈ hq_tb := hq_in (List.mem_of_getElem? (i := 465) (by decide +kernel)) rfl
theorem ct_wd_74 : (Cond.fieldLink R_Mo 25 R_Mo "offset" "[I") ∈ hq_tb := hq_in (List.mem_of_getElem? (i := 466) (by decide +kernel)) rfl
theorem ct_wd_75 : (Cond.fieldLink R_Mo 28 R_Mo "weight" "[I") ∈ hq_tb := hq_in (List.mem_of_getElem? (i := 467) (by decide +kernel)) rfl
theorem ct_wd_76 : (Cond.fieldLink R_Mo 31 R_Mo "taps" "[I") ∈ hq_tb := hq_in (List.mem_of_getElem? (i := 468) (by decide +kernel)) rfl
theorem ct_wd_77 : (Cond.fieldLink R_Mo 34 R_Mo "tile" "I") ∈ hq_tb := hq_in (List.mem_of_getElem? (i := 470) (by decide +kernel)) rfl
theorem ct_wd_78 : (Cond.fieldLink R_Mo 38 R_Mo "output" "I") ∈ hq_tb := hq_in (List.mem_of_getElem? (i := 471) (by decide +kernel)) rfl
theorem ct_wd_79 : (Cond.fieldLink R_Mo 41 R_Mo "cells" "[I") ∈ hq_tb := hq_in (List.mem_of_getElem? (i := 475) (by decide +kernel)) rfl
theorem ct_wd_80 : (Cond.fieldLink R_Mo 44 R_Mo "value" "[I") ∈ hq_tb := hq_in (List.mem_of_getElem? (i := 476) (by decide +kernel)) rfl
theorem ct_wd_81 : (Cond.fieldLink R_Mo 47 R_Mo "used" "[Z") ∈ hq_tb := hq_in (List.mem_of_getElem? (i := 477) (by decide +kernel)) rfl
theorem ct_wd_82 : (Cond.fieldLink R_Mo 51 R_Mo "low" "[I") ∈ hq_tb := hq_in (List.mem_of_getElem? (i := 478) (by decide +kernel)) rfl
theorem ct_wd_83 : (Cond.fieldLink R_Mo 54 R_Mo "high" "[I") ∈ hq_tb := hq_in (List.mem_of_getElem? (i := 479) (by decide +kernel)) rfl
theorem ct_wd_84 : (Cond.arrayClass .long) ∈ hq_tb := hq_in (List.mem_of_getElem? (i := 524) (by decide +kernel)) rfl
theorem ct_wd_85 : (Cond.fieldLink R_Mo 57 R_Mo "works" "[J") ∈ hq_tb := hq_in (List.mem_of_getElem? (i := 480) (by decide +kernel)) rfl
theorem ct_wd_86 : (Cond.fieldLink R_Mo 61 R_Mo "length" "I") ∈ hq_tb := hq_in (List.mem_of_getElem? (i := 460) (by decide +kernel)) rfl
