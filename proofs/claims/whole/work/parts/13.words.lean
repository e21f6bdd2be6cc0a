theorem mo_wd_0 : (Cond.fieldLink R_Mo 64 R_Mo "stages" "I") ∈ hq_tb := hq_in (List.mem_of_getElem? (i := 469) (by decide +kernel)) rfl
theorem mo_wd_1 : (Cond.fieldLink R_Mo 67 R_Mo "compiled" "Z") ∈ hq_tb := hq_in (List.mem_of_getElem? (i := 473) (by decide +kernel)) rfl
theorem mo_wd_2 : (Cond.fieldLink R_Mo 71 R_Mo "ran" "Z") ∈ hq_tb := hq_in (List.mem_of_getElem? (i := 474) (by decide +kernel)) rfl
theorem mo_wd_3 : (Cond.fieldLink R_Mo 61 R_Mo "length" "I") ∈ hq_tb := hq_in (List.mem_of_getElem? (i := 460) (by decide +kernel)) rfl
theorem mo_wd_4 : (Cond.fieldLink R_Mo 7 R_Mo "input" "[I") ∈ hq_tb := hq_in (List.mem_of_getElem? (i := 461) (by decide +kernel)) rfl
theorem mo_wd_5 : (Cond.code y_Mo_changed b_Mo_changed 2 (some .int)) ∈ hq_tb := hq_in (List.mem_of_getElem? (i := 532) (by decide +kernel)) rfl
theorem mo_wd_6 : (Cond.initialized R_Mo) ∈ hq_tb := hq_in (List.mem_of_getElem? (i := 51) (by decide +kernel)) rfl
theorem mo_wd_7 : (Cond.methodLink R_Mo 74 y_Mo_changed) ∈ hq_tb := hq_in (List.mem_of_getElem? (i := 529) (by decide +kernel)) rfl
theorem mo_wd_8 : (Cond.instanceMethod y_Mo_changed) ∈ hq_tb := hq_in (List.mem_of_getElem? (i := 531) (by decide +kernel)) rfl
theorem mo_wd_9 : (Cond.selects R_Mo y_Mo_changed y_Mo_changed) ∈ hq_tb := hq_in (List.mem_of_getElem? (i := 30) (by decide +kernel)) rfl
theorem mo_wd_10 : (Cond.fieldLink R_Mo 13 R_Mo "constant" "[I") ∈ hq_tb := hq_in (List.mem_of_getElem? (i := 462) (by decide +kernel)) rfl
theorem mo_wd_11 : (Cond.fieldLink R_Mo 16 R_Mo "finish" "[I") ∈ hq_tb := hq_in (List.mem_of_getElem? (i := 463) (by decide +kernel)) rfl
theorem mo_wd_12 : (Cond.code y_Mo_no b_Mo_no 2 (some .boolean)) ∈ hq_tb := hq_in (List.mem_of_getElem? (i := 544) (by decide +kernel)) rfl
theorem mo_wd_13 : (Cond.methodLink R_Mo 78 y_Mo_no) ∈ hq_tb := hq_in (List.mem_of_getElem? (i := 541) (by decide +kernel)) rfl
theorem mo_wd_14 : (Cond.instanceMethod y_Mo_no) ∈ hq_tb := hq_in (List.mem_of_getElem? (i := 543) (by decide +kernel)) rfl
theorem mo_wd_15 : (Cond.selects R_Mo y_Mo_no y_Mo_no) ∈ hq_tb := hq_in (List.mem_of_getElem? (i := 31) (by decide +kernel)) rfl
theorem mo_wd_16 : (Cond.fieldLink R_Mo 31 R_Mo "taps" "[I") ∈ hq_tb := hq_in (List.mem_of_getElem? (i := 468) (by decide +kernel)) rfl
theorem mo_wd_17 : (Cond.fieldLink R_Mo 22 R_Mo "source" "[I") ∈ hq_tb := hq_in (List.mem_of_getElem? (i := 465) (by decide +kernel)) rfl
theorem mo_wd_18 : (Cond.fieldLink R_Mo 25 R_Mo "offset" "[I") ∈ hq_tb := hq_in (List.mem_of_getElem? (i := 466) (by decide +kernel)) rfl
theorem mo_wd_19 : (Cond.fieldLink R_Mo 28 R_Mo "weight" "[I") ∈ hq_tb := hq_in (List.mem_of_getElem? (i := 467) (by decide +kernel)) rfl
theorem mo_wd_20 : (Cond.fieldLink R_Mo 19 R_Mo "mode" "[I") ∈ hq_tb := hq_in (List.mem_of_getElem? (i := 464) (by decide +kernel)) rfl
theorem mo_wd_21 : (Cond.fieldLink R_Mo 34 R_Mo "tile" "I") ∈ hq_tb := hq_in (List.mem_of_getElem? (i := 470) (by decide +kernel)) rfl
theorem mo_wd_22 : (Cond.fieldLink R_Mo 38 R_Mo "output" "I") ∈ hq_tb := hq_in (List.mem_of_getElem? (i := 471) (by decide +kernel)) rfl
theorem mo_wd_23 : (Cond.fieldLink R_Mo 82 R_Mo "width" "I") ∈ hq_tb := hq_in (List.mem_of_getElem? (i := 472) (by decide +kernel)) rfl
theorem mo_wd_24 : (Cond.fieldLink R_Mo 44 R_Mo "value" "[I") ∈ hq_tb := hq_in (List.mem_of_getElem? (i := 476) (by decide +kernel)) rfl
theorem mo_wd_25 : (Cond.code y_Mo_finished b_Mo_finished 3 (some .int)) ∈ hq_tb := hq_in (List.mem_of_getElem? (i := 574) (by decide +kernel)) rfl
theorem mo_wd_26 : (Cond.methodLink R_Mo 88 y_Mo_finished) ∈ hq_tb := hq_in (List.mem_of_getElem? (i := 571) (by decide +kernel)) rfl
theorem mo_wd_27 : (Cond.instanceMethod y_Mo_finished) ∈ hq_tb := hq_in (List.mem_of_getElem? (i := 573) (by decide +kernel)) rfl
theorem mo_wd_28 : (Cond.selects R_Mo y_Mo_finished y_Mo_finished) ∈ hq_tb := hq_in (List.mem_of_getElem? (i := 34) (by decide +kernel)) rfl
theorem mo_wd_29 : (Cond.code y_Mo_given b_Mo_given 2 (some .int)) ∈ hq_tb := hq_in (List.mem_of_getElem? (i := 570) (by decide +kernel)) rfl
theorem mo_wd_30 : (Cond.methodLink R_Mo 85 y_Mo_given) ∈ hq_tb := hq_in (List.mem_of_getElem? (i := 567) (by decide +kernel)) rfl
theorem mo_wd_31 : (Cond.instanceMethod y_Mo_given) ∈ hq_tb := hq_in (List.mem_of_getElem? (i := 569) (by decide +kernel)) rfl
theorem mo_wd_32 : (Cond.selects R_Mo y_Mo_given y_Mo_given) ∈ hq_tb := hq_in (List.mem_of_getElem? (i := 33) (by decide +kernel)) rfl
theorem mo_wd_33 : (Cond.constantLong R_Mo 92 (-1000000000000)) ∈ hq_tb := hq_in (List.mem_of_getElem? (i := 561) (by decide +kernel)) rfl
theorem mo_wd_34 : (Cond.fieldLink R_Mo 57 R_Mo "works" "[J") ∈ hq_tb := hq_in (List.mem_of_getElem? (i := 480) (by decide +kernel)) rfl
theorem mo_wd_35 : (Cond.constantLong R_Mo 94 3000) ∈ hq_tb := hq_in (List.mem_of_getElem? (i := 562) (by decide +kernel)) rfl
theorem mo_wd_36 : (Cond.code y_Mo_valueAt b_Mo_valueAt 9 (some .int)) ∈ hq_tb := hq_in (List.mem_of_getElem? (i := 566) (by decide +kernel)) rfl
theorem mo_wd_37 : (Cond.methodLink R_Mo 96 y_Mo_valueAt) ∈ hq_tb := hq_in (List.mem_of_getElem? (i := 563) (by decide +kernel)) rfl
theorem mo_wd_38 : (Cond.instanceMethod y_Mo_valueAt) ∈ hq_tb := hq_in (List.mem_of_getElem? (i := 565) (by decide +kernel)) rfl
theorem mo_wd_39 : (Cond.selects R_Mo y_Mo_valueAt y_Mo_valueAt) ∈ hq_tb := hq_in (List.mem_of_getElem? (i := 32) (by decide +kernel)) rfl
theorem mo_wd_40 : (Cond.fieldLink R_Mo 51 R_Mo "low" "[I") ∈ hq_tb := hq_in (List.mem_of_getElem? (i := 478) (by decide +kernel)) rfl
theorem mo_wd_41 : (Cond.fieldLink R_Mo 54 R_Mo "high" "[I") ∈ hq_tb := hq_in (List.mem_of_getElem? (i := 479) (by decide +kernel)) rfl
theorem mo_wd_42 : (Cond.fieldLink R_Mo 47 R_Mo "used" "[Z") ∈ hq_tb := hq_in (List.mem_of_getElem? (i := 477) (by decide +kernel)) rfl
theorem mo_wd_43 : (Cond.code y_Mo_spread b_Mo_spread 6 none) ∈ hq_tb := hq_in (List.mem_of_getElem? (i := 586) (by decide +kernel)) rfl
theorem mo_wd_44 : (Cond.methodLink R_Mo 99 y_Mo_spread) ∈ hq_tb := hq_in (List.mem_of_getElem? (i := 583) (by decide +kernel)) rfl
theorem mo_wd_45 : (Cond.instanceMethod y_Mo_spread) ∈ hq_tb := hq_in (List.mem_of_getElem? (i := 585) (by decide +kernel)) rfl
theorem mo_wd_46 : (Cond.selects R_Mo y_Mo_spread y_Mo_spread) ∈ hq_tb := hq_in (List.mem_of_getElem? (i := 36) (by decide +kernel)) rfl
theorem mo_wd_47 : (Cond.code y_Mo_need b_Mo_need 5 none) ∈ hq_tb := hq_in (List.mem_of_getElem? (i := 582) (by decide +kernel)) rfl
theorem mo_wd_48 : (Cond.methodLink R_Mo 103 y_Mo_need) ∈ hq_tb := hq_in (List.mem_of_getElem? (i := 579) (by decide +kernel)) rfl
theorem mo_wd_49 : (Cond.instanceMethod y_Mo_need) ∈ hq_tb := hq_in (List.mem_of_getElem? (i := 581) (by decide +kernel)) rfl
theorem mo_wd_50 : (Cond.selects R_Mo y_Mo_need y_Mo_need) ∈ hq_tb := hq_in (List.mem_of_getElem? (i := 35) (by decide +kernel)) rfl
theorem mo_wd_51 : (Cond.code y_Mo_kept b_Mo_kept 3 (some .boolean)) ∈ hq_tb := hq_in (List.mem_of_getElem? (i := 590) (by decide +kernel)) rfl
theorem mo_wd_52 : (Cond.methodLink R_Mo 106 y_Mo_kept) ∈ hq_tb := hq_in (List.mem_of_getElem? (i := 587) (by decide +kernel)) rfl
theorem mo_wd_53 : (Cond.instanceMethod y_Mo_kept) ∈ hq_tb := hq_in (List.mem_of_getElem? (i := 589) (by decide +kernel)) rfl
theorem mo_wd_54 : (Cond.selects R_Mo y_Mo_kept y_Mo_kept) ∈ hq_tb := hq_in (List.mem_of_getElem? (i := 37) (by decide +kernel)) rfl
theorem mo_wd_55 : (Cond.code y_Mo_tiles b_Mo_tiles 1 (some .int)) ∈ hq_tb := hq_in (List.mem_of_getElem? (i := 602) (by decide +kernel)) rfl
theorem mo_wd_56 : (Cond.methodLink R_Mo 110 y_Mo_tiles) ∈ hq_tb := hq_in (List.mem_of_getElem? (i := 599) (by decide +kernel)) rfl
theorem mo_wd_57 : (Cond.instanceMethod y_Mo_tiles) ∈ hq_tb := hq_in (List.mem_of_getElem? (i := 601) (by decide +kernel)) rfl
theorem mo_wd_58 : (Cond.selects R_Mo y_Mo_tiles y_Mo_tiles) ∈ hq_tb := hq_in (List.mem_of_getElem? (i := 40) (by decide +kernel)) rfl
theorem mo_wd_59 : (Cond.code y_Mo_needTile b_Mo_needTile 2 none) ∈ hq_tb := hq_in (List.mem_of_getElem? (i := 606) (by decide +kernel)) rfl
theorem mo_wd_60 : (Cond.methodLink R_Mo 114 y_Mo_needTile) ∈ hq_tb := hq_in (List.mem_of_getElem? (i := 603) (by decide +kernel)) rfl
theorem mo_wd_61 : (Cond.instanceMethod y_Mo_needTile) ∈ hq_tb := hq_in (List.mem_of_getElem? (i := 605) (by decide +kernel)) rfl
theorem mo_wd_62 : (Cond.selects R_Mo y_Mo_needTile y_Mo_needTile) ∈ hq_tb := hq_in (List.mem_of_getElem? (i := 41) (by decide +kernel)) rfl
theorem mo_wd_63 : (Cond.code y_Mo_total b_Mo_total 5 (some .long)) ∈ hq_tb := hq_in (List.mem_of_getElem? (i := 598) (by decide +kernel)) rfl
theorem mo_wd_64 : (Cond.methodLink R_Mo 121 y_Mo_total) ∈ hq_tb := hq_in (List.mem_of_getElem? (i := 595) (by decide +kernel)) rfl
theorem mo_wd_65 : (Cond.instanceMethod y_Mo_total) ∈ hq_tb := hq_in (List.mem_of_getElem? (i := 597) (by decide +kernel)) rfl
theorem mo_wd_66 : (Cond.selects R_Mo y_Mo_total y_Mo_total) ∈ hq_tb := hq_in (List.mem_of_getElem? (i := 39) (by decide +kernel)) rfl
theorem mo_wd_67 : (Cond.constantLong R_Mo 125 4000) ∈ hq_tb := hq_in (List.mem_of_getElem? (i := 607) (by decide +kernel)) rfl
theorem mo_wd_68 : (Cond.code y_Mo_leans b_Mo_leans 6 (some .boolean)) ∈ hq_tb := hq_in (List.mem_of_getElem? (i := 594) (by decide +kernel)) rfl
theorem mo_wd_69 : (Cond.methodLink R_Mo 118 y_Mo_leans) ∈ hq_tb := hq_in (List.mem_of_getElem? (i := 591) (by decide +kernel)) rfl
theorem mo_wd_70 : (Cond.instanceMethod y_Mo_leans) ∈ hq_tb := hq_in (List.mem_of_getElem? (i := 593) (by decide +kernel)) rfl
theorem mo_wd_71 : (Cond.selects R_Mo y_Mo_leans y_Mo_leans) ∈ hq_tb := hq_in (List.mem_of_getElem? (i := 38) (by decide +kernel)) rfl
theorem mo_wd_72 : (Cond.fieldLink R_Mo 41 R_Mo "cells" "[I") ∈ hq_tb := hq_in (List.mem_of_getElem? (i := 475) (by decide +kernel)) rfl
theorem mo_wd_73 : (Cond.code y_Mo_greatest b_Mo_greatest 7 (some .int)) ∈ hq_tb := hq_in (List.mem_of_getElem? (i := 631) (by decide +kernel)) rfl
theorem mo_wd_74 : (Cond.methodLink R_Mo 127 y_Mo_greatest) ∈ hq_tb := hq_in (List.mem_of_getElem? (i := 628) (by decide +kernel)) rfl
theorem mo_wd_75 : (Cond.instanceMethod y_Mo_greatest) ∈ hq_tb := hq_in (List.mem_of_getElem? (i := 630) (by decide +kernel)) rfl
theorem mo_wd_76 : (Cond.selects R_Mo y_Mo_greatest y_Mo_greatest) ∈ hq_tb := hq_in (List.mem_of_getElem? (i := 42) (by decide +kernel)) rfl
