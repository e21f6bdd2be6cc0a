/-! words of the law -/
def y_lcell : MethodName := ⟨R_law, "cell", "([II)I"⟩
theorem lz_wd_0 : (Cond.code y_SC_input b_SC_input 3 (some .int)) ∈ hq_tb := hq_in (List.mem_of_getElem? (i := 261) (by decide +kernel)) rfl
theorem lz_wd_1 : (Cond.initialized R_SC) ∈ hq_tb := hq_in (List.mem_of_getElem? (i := 44) (by decide +kernel)) rfl
theorem lz_wd_2 : (Cond.methodLink R_law 21 y_SC_input) ∈ hq_tb := hq_in (List.mem_of_getElem? (i := 258) (by decide +kernel)) rfl
theorem lz_wd_3 : (Cond.instanceMethod y_SC_input) ∈ hq_tb := hq_in (List.mem_of_getElem? (i := 259) (by decide +kernel)) rfl
theorem lz_wd_4 : (Cond.selects R_SC y_SC_input y_SC_input) ∈ hq_tb := hq_in (List.mem_of_getElem? (i := 260) (by decide +kernel)) rfl
theorem lz_wd_5 : (Cond.code y_Mo_input b_Mo_input 3 (some .int)) ∈ hq_tb := hq_in (List.mem_of_getElem? (i := 528) (by decide +kernel)) rfl
theorem lz_wd_6 : (Cond.initialized R_Mo) ∈ hq_tb := hq_in (List.mem_of_getElem? (i := 51) (by decide +kernel)) rfl
theorem lz_wd_7 : (Cond.methodLink R_law 25 y_Mo_input) ∈ hq_tb := hq_in (List.mem_of_getElem? (i := 525) (by decide +kernel)) rfl
theorem lz_wd_8 : (Cond.instanceMethod y_Mo_input) ∈ hq_tb := hq_in (List.mem_of_getElem? (i := 526) (by decide +kernel)) rfl
theorem lz_wd_9 : (Cond.selects R_Mo y_Mo_input y_Mo_input) ∈ hq_tb := hq_in (List.mem_of_getElem? (i := 527) (by decide +kernel)) rfl
theorem lz_wd_10 : (Cond.code y_SC_stage b_SC_stage 4 (some .int)) ∈ hq_tb := hq_in (List.mem_of_getElem? (i := 269) (by decide +kernel)) rfl
theorem lz_wd_11 : (Cond.methodLink R_law 26 y_SC_stage) ∈ hq_tb := hq_in (List.mem_of_getElem? (i := 266) (by decide +kernel)) rfl
theorem lz_wd_12 : (Cond.instanceMethod y_SC_stage) ∈ hq_tb := hq_in (List.mem_of_getElem? (i := 267) (by decide +kernel)) rfl
theorem lz_wd_13 : (Cond.selects R_SC y_SC_stage y_SC_stage) ∈ hq_tb := hq_in (List.mem_of_getElem? (i := 268) (by decide +kernel)) rfl
theorem lz_wd_14 : (Cond.code y_Mo_stage b_Mo_stage 3 (some .int)) ∈ hq_tb := hq_in (List.mem_of_getElem? (i := 536) (by decide +kernel)) rfl
theorem lz_wd_15 : (Cond.methodLink R_law 29 y_Mo_stage) ∈ hq_tb := hq_in (List.mem_of_getElem? (i := 533) (by decide +kernel)) rfl
theorem lz_wd_16 : (Cond.instanceMethod y_Mo_stage) ∈ hq_tb := hq_in (List.mem_of_getElem? (i := 534) (by decide +kernel)) rfl
theorem lz_wd_17 : (Cond.selects R_Mo y_Mo_stage y_Mo_stage) ∈ hq_tb := hq_in (List.mem_of_getElem? (i := 535) (by decide +kernel)) rfl
theorem lz_wd_18 : (Cond.code y_SC_tap b_SC_tap 6 (some .int)) ∈ hq_tb := hq_in (List.mem_of_getElem? (i := 277) (by decide +kernel)) rfl
theorem lz_wd_19 : (Cond.methodLink R_law 30 y_SC_tap) ∈ hq_tb := hq_in (List.mem_of_getElem? (i := 274) (by decide +kernel)) rfl
theorem lz_wd_20 : (Cond.instanceMethod y_SC_tap) ∈ hq_tb := hq_in (List.mem_of_getElem? (i := 275) (by decide +kernel)) rfl
theorem lz_wd_21 : (Cond.selects R_SC y_SC_tap y_SC_tap) ∈ hq_tb := hq_in (List.mem_of_getElem? (i := 276) (by decide +kernel)) rfl
theorem lz_wd_22 : (Cond.code y_Mo_tap b_Mo_tap 6 (some .int)) ∈ hq_tb := hq_in (List.mem_of_getElem? (i := 540) (by decide +kernel)) rfl
theorem lz_wd_23 : (Cond.methodLink R_law 34 y_Mo_tap) ∈ hq_tb := hq_in (List.mem_of_getElem? (i := 537) (by decide +kernel)) rfl
theorem lz_wd_24 : (Cond.instanceMethod y_Mo_tap) ∈ hq_tb := hq_in (List.mem_of_getElem? (i := 538) (by decide +kernel)) rfl
theorem lz_wd_25 : (Cond.selects R_Mo y_Mo_tap y_Mo_tap) ∈ hq_tb := hq_in (List.mem_of_getElem? (i := 539) (by decide +kernel)) rfl
theorem lz_wd_26 : (Cond.code y_SC_mode b_SC_mode 3 (some .int)) ∈ hq_tb := hq_in (List.mem_of_getElem? (i := 289) (by decide +kernel)) rfl
theorem lz_wd_27 : (Cond.methodLink R_law 35 y_SC_mode) ∈ hq_tb := hq_in (List.mem_of_getElem? (i := 286) (by decide +kernel)) rfl
theorem lz_wd_28 : (Cond.instanceMethod y_SC_mode) ∈ hq_tb := hq_in (List.mem_of_getElem? (i := 287) (by decide +kernel)) rfl
theorem lz_wd_29 : (Cond.selects R_SC y_SC_mode y_SC_mode) ∈ hq_tb := hq_in (List.mem_of_getElem? (i := 288) (by decide +kernel)) rfl
theorem lz_wd_30 : (Cond.code y_Mo_mode b_Mo_mode 3 (some .int)) ∈ hq_tb := hq_in (List.mem_of_getElem? (i := 548) (by decide +kernel)) rfl
theorem lz_wd_31 : (Cond.methodLink R_law 38 y_Mo_mode) ∈ hq_tb := hq_in (List.mem_of_getElem? (i := 545) (by decide +kernel)) rfl
theorem lz_wd_32 : (Cond.instanceMethod y_Mo_mode) ∈ hq_tb := hq_in (List.mem_of_getElem? (i := 546) (by decide +kernel)) rfl
theorem lz_wd_33 : (Cond.selects R_Mo y_Mo_mode y_Mo_mode) ∈ hq_tb := hq_in (List.mem_of_getElem? (i := 547) (by decide +kernel)) rfl
theorem lz_wd_34 : (Cond.code y_SC_tile b_SC_tile 2 (some .int)) ∈ hq_tb := hq_in (List.mem_of_getElem? (i := 293) (by decide +kernel)) rfl
theorem lz_wd_35 : (Cond.methodLink R_law 39 y_SC_tile) ∈ hq_tb := hq_in (List.mem_of_getElem? (i := 290) (by decide +kernel)) rfl
theorem lz_wd_36 : (Cond.instanceMethod y_SC_tile) ∈ hq_tb := hq_in (List.mem_of_getElem? (i := 291) (by decide +kernel)) rfl
theorem lz_wd_37 : (Cond.selects R_SC y_SC_tile y_SC_tile) ∈ hq_tb := hq_in (List.mem_of_getElem? (i := 292) (by decide +kernel)) rfl
theorem lz_wd_38 : (Cond.code y_Mo_tile b_Mo_tile 2 (some .int)) ∈ hq_tb := hq_in (List.mem_of_getElem? (i := 552) (by decide +kernel)) rfl
theorem lz_wd_39 : (Cond.methodLink R_law 43 y_Mo_tile) ∈ hq_tb := hq_in (List.mem_of_getElem? (i := 549) (by decide +kernel)) rfl
theorem lz_wd_40 : (Cond.instanceMethod y_Mo_tile) ∈ hq_tb := hq_in (List.mem_of_getElem? (i := 550) (by decide +kernel)) rfl
theorem lz_wd_41 : (Cond.selects R_Mo y_Mo_tile y_Mo_tile) ∈ hq_tb := hq_in (List.mem_of_getElem? (i := 551) (by decide +kernel)) rfl
theorem lz_wd_42 : (Cond.code y_SC_output b_SC_output 3 (some .int)) ∈ hq_tb := hq_in (List.mem_of_getElem? (i := 297) (by decide +kernel)) rfl
theorem lz_wd_43 : (Cond.methodLink R_law 44 y_SC_output) ∈ hq_tb := hq_in (List.mem_of_getElem? (i := 294) (by decide +kernel)) rfl
theorem lz_wd_44 : (Cond.instanceMethod y_SC_output) ∈ hq_tb := hq_in (List.mem_of_getElem? (i := 295) (by decide +kernel)) rfl
theorem lz_wd_45 : (Cond.selects R_SC y_SC_output y_SC_output) ∈ hq_tb := hq_in (List.mem_of_getElem? (i := 296) (by decide +kernel)) rfl
theorem lz_wd_46 : (Cond.code y_Mo_output b_Mo_output 3 (some .int)) ∈ hq_tb := hq_in (List.mem_of_getElem? (i := 556) (by decide +kernel)) rfl
theorem lz_wd_47 : (Cond.methodLink R_law 47 y_Mo_output) ∈ hq_tb := hq_in (List.mem_of_getElem? (i := 553) (by decide +kernel)) rfl
theorem lz_wd_48 : (Cond.instanceMethod y_Mo_output) ∈ hq_tb := hq_in (List.mem_of_getElem? (i := 554) (by decide +kernel)) rfl
theorem lz_wd_49 : (Cond.selects R_Mo y_Mo_output y_Mo_output) ∈ hq_tb := hq_in (List.mem_of_getElem? (i := 555) (by decide +kernel)) rfl
theorem lz_wd_50 : (Cond.code y_SC_compile b_SC_compile 2 (some .int)) ∈ hq_tb := hq_in (List.mem_of_getElem? (i := 301) (by decide +kernel)) rfl
theorem lz_wd_51 : (Cond.methodLink R_law 48 y_SC_compile) ∈ hq_tb := hq_in (List.mem_of_getElem? (i := 298) (by decide +kernel)) rfl
theorem lz_wd_52 : (Cond.instanceMethod y_SC_compile) ∈ hq_tb := hq_in (List.mem_of_getElem? (i := 299) (by decide +kernel)) rfl
theorem lz_wd_53 : (Cond.selects R_SC y_SC_compile y_SC_compile) ∈ hq_tb := hq_in (List.mem_of_getElem? (i := 300) (by decide +kernel)) rfl
theorem lz_wd_54 : (Cond.code y_Mo_compile b_Mo_compile 3 (some .int)) ∈ hq_tb := hq_in (List.mem_of_getElem? (i := 578) (by decide +kernel)) rfl
theorem lz_wd_55 : (Cond.methodLink R_law 52 y_Mo_compile) ∈ hq_tb := hq_in (List.mem_of_getElem? (i := 575) (by decide +kernel)) rfl
theorem lz_wd_56 : (Cond.instanceMethod y_Mo_compile) ∈ hq_tb := hq_in (List.mem_of_getElem? (i := 576) (by decide +kernel)) rfl
theorem lz_wd_57 : (Cond.selects R_Mo y_Mo_compile y_Mo_compile) ∈ hq_tb := hq_in (List.mem_of_getElem? (i := 577) (by decide +kernel)) rfl
theorem lz_wd_58 : (Cond.code y_SC_run b_SC_run 1 (some .int)) ∈ hq_tb := hq_in (List.mem_of_getElem? (i := 381) (by decide +kernel)) rfl
theorem lz_wd_59 : (Cond.methodLink R_law 53 y_SC_run) ∈ hq_tb := hq_in (List.mem_of_getElem? (i := 378) (by decide +kernel)) rfl
theorem lz_wd_60 : (Cond.instanceMethod y_SC_run) ∈ hq_tb := hq_in (List.mem_of_getElem? (i := 379) (by decide +kernel)) rfl
theorem lz_wd_61 : (Cond.selects R_SC y_SC_run y_SC_run) ∈ hq_tb := hq_in (List.mem_of_getElem? (i := 380) (by decide +kernel)) rfl
theorem lz_wd_62 : (Cond.code y_Mo_run b_Mo_run 2 (some .int)) ∈ hq_tb := hq_in (List.mem_of_getElem? (i := 611) (by decide +kernel)) rfl
theorem lz_wd_63 : (Cond.methodLink R_law 56 y_Mo_run) ∈ hq_tb := hq_in (List.mem_of_getElem? (i := 608) (by decide +kernel)) rfl
theorem lz_wd_64 : (Cond.instanceMethod y_Mo_run) ∈ hq_tb := hq_in (List.mem_of_getElem? (i := 609) (by decide +kernel)) rfl
theorem lz_wd_65 : (Cond.selects R_Mo y_Mo_run y_Mo_run) ∈ hq_tb := hq_in (List.mem_of_getElem? (i := 610) (by decide +kernel)) rfl
theorem lz_wd_66 : (Cond.code y_SC_cell b_SC_cell 2 (some .long)) ∈ hq_tb := hq_in (List.mem_of_getElem? (i := 424) (by decide +kernel)) rfl
theorem lz_wd_67 : (Cond.methodLink R_law 57 y_SC_cell) ∈ hq_tb := hq_in (List.mem_of_getElem? (i := 421) (by decide +kernel)) rfl
theorem lz_wd_68 : (Cond.instanceMethod y_SC_cell) ∈ hq_tb := hq_in (List.mem_of_getElem? (i := 422) (by decide +kernel)) rfl
theorem lz_wd_69 : (Cond.selects R_SC y_SC_cell y_SC_cell) ∈ hq_tb := hq_in (List.mem_of_getElem? (i := 423) (by decide +kernel)) rfl
theorem lz_wd_70 : (Cond.code y_Mo_cell b_Mo_cell 2 (some .long)) ∈ hq_tb := hq_in (List.mem_of_getElem? (i := 615) (by decide +kernel)) rfl
theorem lz_wd_71 : (Cond.methodLink R_law 60 y_Mo_cell) ∈ hq_tb := hq_in (List.mem_of_getElem? (i := 612) (by decide +kernel)) rfl
theorem lz_wd_72 : (Cond.instanceMethod y_Mo_cell) ∈ hq_tb := hq_in (List.mem_of_getElem? (i := 613) (by decide +kernel)) rfl
theorem lz_wd_73 : (Cond.selects R_Mo y_Mo_cell y_Mo_cell) ∈ hq_tb := hq_in (List.mem_of_getElem? (i := 614) (by decide +kernel)) rfl
theorem lz_wd_74 : (Cond.code y_SC_at b_SC_at 3 (some .long)) ∈ hq_tb := hq_in (List.mem_of_getElem? (i := 429) (by decide +kernel)) rfl
theorem lz_wd_75 : (Cond.methodLink R_law 61 y_SC_at) ∈ hq_tb := hq_in (List.mem_of_getElem? (i := 426) (by decide +kernel)) rfl
theorem lz_wd_76 : (Cond.instanceMethod y_SC_at) ∈ hq_tb := hq_in (List.mem_of_getElem? (i := 427) (by decide +kernel)) rfl
theorem lz_wd_77 : (Cond.selects R_SC y_SC_at y_SC_at) ∈ hq_tb := hq_in (List.mem_of_getElem? (i := 428) (by decide +kernel)) rfl
theorem lz_wd_78 : (Cond.code y_Mo_at b_Mo_at 5 (some .long)) ∈ hq_tb := hq_in (List.mem_of_getElem? (i := 560) (by decide +kernel)) rfl
theorem lz_wd_79 : (Cond.methodLink R_law 65 y_Mo_at) ∈ hq_tb := hq_in (List.mem_of_getElem? (i := 557) (by decide +kernel)) rfl
theorem lz_wd_80 : (Cond.instanceMethod y_Mo_at) ∈ hq_tb := hq_in (List.mem_of_getElem? (i := 558) (by decide +kernel)) rfl
theorem lz_wd_81 : (Cond.selects R_Mo y_Mo_at y_Mo_at) ∈ hq_tb := hq_in (List.mem_of_getElem? (i := 559) (by decide +kernel)) rfl
theorem lz_wd_82 : (Cond.code y_SC_region b_SC_region 3 (some .int)) ∈ hq_tb := hq_in (List.mem_of_getElem? (i := 438) (by decide +kernel)) rfl
theorem lz_wd_83 : (Cond.methodLink R_law 66 y_SC_region) ∈ hq_tb := hq_in (List.mem_of_getElem? (i := 435) (by decide +kernel)) rfl
theorem lz_wd_84 : (Cond.instanceMethod y_SC_region) ∈ hq_tb := hq_in (List.mem_of_getElem? (i := 436) (by decide +kernel)) rfl
theorem lz_wd_85 : (Cond.selects R_SC y_SC_region y_SC_region) ∈ hq_tb := hq_in (List.mem_of_getElem? (i := 437) (by decide +kernel)) rfl
theorem lz_wd_86 : (Cond.code y_Mo_region b_Mo_region 3 (some .int)) ∈ hq_tb := hq_in (List.mem_of_getElem? (i := 619) (by decide +kernel)) rfl
theorem lz_wd_87 : (Cond.methodLink R_law 70 y_Mo_region) ∈ hq_tb := hq_in (List.mem_of_getElem? (i := 616) (by decide +kernel)) rfl
theorem lz_wd_88 : (Cond.instanceMethod y_Mo_region) ∈ hq_tb := hq_in (List.mem_of_getElem? (i := 617) (by decide +kernel)) rfl
theorem lz_wd_89 : (Cond.selects R_Mo y_Mo_region y_Mo_region) ∈ hq_tb := hq_in (List.mem_of_getElem? (i := 618) (by decide +kernel)) rfl
theorem lz_wd_90 : (Cond.code y_SC_work b_SC_work 2 (some .int)) ∈ hq_tb := hq_in (List.mem_of_getElem? (i := 442) (by decide +kernel)) rfl
theorem lz_wd_91 : (Cond.methodLink R_law 71 y_SC_work) ∈ hq_tb := hq_in (List.mem_of_getElem? (i := 439) (by decide +kernel)) rfl
theorem lz_wd_92 : (Cond.instanceMethod y_SC_work) ∈ hq_tb := hq_in (List.mem_of_getElem? (i := 440) (by decide +kernel)) rfl
theorem lz_wd_93 : (Cond.selects R_SC y_SC_work y_SC_work) ∈ hq_tb := hq_in (List.mem_of_getElem? (i := 441) (by decide +kernel)) rfl
theorem lz_wd_94 : (Cond.code y_Mo_work b_Mo_work 4 (some .int)) ∈ hq_tb := hq_in (List.mem_of_getElem? (i := 623) (by decide +kernel)) rfl
theorem lz_wd_95 : (Cond.methodLink R_law 74 y_Mo_work) ∈ hq_tb := hq_in (List.mem_of_getElem? (i := 620) (by decide +kernel)) rfl
theorem lz_wd_96 : (Cond.instanceMethod y_Mo_work) ∈ hq_tb := hq_in (List.mem_of_getElem? (i := 621) (by decide +kernel)) rfl
theorem lz_wd_97 : (Cond.selects R_Mo y_Mo_work y_Mo_work) ∈ hq_tb := hq_in (List.mem_of_getElem? (i := 622) (by decide +kernel)) rfl
theorem lz_wd_98 : (Cond.code y_SC_count b_SC_count 2 (some .int)) ∈ hq_tb := hq_in (List.mem_of_getElem? (i := 446) (by decide +kernel)) rfl
theorem lz_wd_99 : (Cond.methodLink R_law 75 y_SC_count) ∈ hq_tb := hq_in (List.mem_of_getElem? (i := 443) (by decide +kernel)) rfl
theorem lz_wd_100 : (Cond.instanceMethod y_SC_count) ∈ hq_tb := hq_in (List.mem_of_getElem? (i := 444) (by decide +kernel)) rfl
theorem lz_wd_101 : (Cond.selects R_SC y_SC_count y_SC_count) ∈ hq_tb := hq_in (List.mem_of_getElem? (i := 445) (by decide +kernel)) rfl
theorem lz_wd_102 : (Cond.code y_Mo_count b_Mo_count 4 (some .int)) ∈ hq_tb := hq_in (List.mem_of_getElem? (i := 627) (by decide +kernel)) rfl
theorem lz_wd_103 : (Cond.methodLink R_law 78 y_Mo_count) ∈ hq_tb := hq_in (List.mem_of_getElem? (i := 624) (by decide +kernel)) rfl
theorem lz_wd_104 : (Cond.instanceMethod y_Mo_count) ∈ hq_tb := hq_in (List.mem_of_getElem? (i := 625) (by decide +kernel)) rfl
theorem lz_wd_105 : (Cond.selects R_Mo y_Mo_count y_Mo_count) ∈ hq_tb := hq_in (List.mem_of_getElem? (i := 626) (by decide +kernel)) rfl
theorem lz_wd_106 : (Cond.classLink R_law 7 R_SC) ∈ hq_tb := hq_in (List.mem_of_getElem? (i := 53) (by decide +kernel)) rfl
theorem lz_wd_107 : (Cond.instantiable R_SC 5) ∈ hq_tb := hq_in (List.mem_of_getElem? (i := 54) (by decide +kernel)) rfl
theorem lz_wd_108 : (Cond.code y_SC_init b_SC_init 2 none) ∈ hq_tb := hq_in (List.mem_of_getElem? (i := 57) (by decide +kernel)) rfl
theorem lz_wd_109 : (Cond.methodLink R_law 15 y_SC_init) ∈ hq_tb := hq_in (List.mem_of_getElem? (i := 55) (by decide +kernel)) rfl
theorem lz_wd_110 : (Cond.instanceMethod y_SC_init) ∈ hq_tb := hq_in (List.mem_of_getElem? (i := 56) (by decide +kernel)) rfl
theorem lz_wd_111 : (Cond.classLink R_law 18 R_Mo) ∈ hq_tb := hq_in (List.mem_of_getElem? (i := 454) (by decide +kernel)) rfl
theorem lz_wd_112 : (Cond.instantiable R_Mo 21) ∈ hq_tb := hq_in (List.mem_of_getElem? (i := 455) (by decide +kernel)) rfl
theorem lz_wd_113 : (Cond.code y_Mo_init b_Mo_init 2 none) ∈ hq_tb := hq_in (List.mem_of_getElem? (i := 458) (by decide +kernel)) rfl
theorem lz_wd_114 : (Cond.methodLink R_law 20 y_Mo_init) ∈ hq_tb := hq_in (List.mem_of_getElem? (i := 456) (by decide +kernel)) rfl
theorem lz_wd_115 : (Cond.instanceMethod y_Mo_init) ∈ hq_tb := hq_in (List.mem_of_getElem? (i := 457) (by decide +kernel)) rfl
theorem lz_wd_116 : (Cond.code y_lcell method_2_code 2 (some .int)) ∈ hq_tb := hq_in (List.mem_of_getElem? (i := 453) (by decide +kernel)) rfl
theorem lz_wd_117 : (Cond.initialized R_law) ∈ hq_tb := hq_in (List.mem_of_getElem? (i := 43) (by decide +kernel)) rfl
theorem lz_wd_118 : (Cond.methodLink R_law 9 y_lcell) ∈ hq_tb := hq_in (List.mem_of_getElem? (i := 451) (by decide +kernel)) rfl
theorem lz_wd_119 : (Cond.static y_lcell) ∈ hq_tb := hq_in (List.mem_of_getElem? (i := 452) (by decide +kernel)) rfl
