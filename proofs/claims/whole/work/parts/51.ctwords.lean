/-! words of the constructors -/
theorem ct_wd_0 : (Cond.methodLink R_Needs 3 objectInit) ∈ hq_tb := hq_in (List.mem_of_getElem? (i := 166) (by decide +kernel)) rfl
theorem ct_wd_1 : (Cond.instanceMethod objectInit) ∈ hq_tb := hq_in (List.mem_of_getElem? (i := 59) (by decide +kernel)) rfl
theorem ct_wd_2 : (Cond.arrayClass .boolean) ∈ hq_tb := hq_in (List.mem_of_getElem? (i := 184) (by decide +kernel)) rfl
theorem ct_wd_3 : (Cond.fieldLink R_Needs 9 R_Needs "used" "[Z") ∈ hq_tb := hq_in (List.mem_of_getElem? (i := 167) (by decide +kernel)) rfl
theorem ct_wd_4 : (Cond.arrayClass .int) ∈ hq_tb := hq_in (List.mem_of_getElem? (i := 118) (by decide +kernel)) rfl
theorem ct_wd_5 : (Cond.fieldLink R_Needs 15 R_Needs "first" "[I") ∈ hq_tb := hq_in (List.mem_of_getElem? (i := 171) (by decide +kernel)) rfl
theorem ct_wd_6 : (Cond.fieldLink R_Needs 19 R_Needs "last" "[I") ∈ hq_tb := hq_in (List.mem_of_getElem? (i := 174) (by decide +kernel)) rfl
theorem ct_wd_7 : (Cond.methodLink R_Stage 3 objectInit) ∈ hq_tb := hq_in (List.mem_of_getElem? (i := 79) (by decide +kernel)) rfl
theorem ct_wd_8 : (Cond.fieldLink R_Stage 9 R_Stage "sources" "[I") ∈ hq_tb := hq_in (List.mem_of_getElem? (i := 93) (by decide +kernel)) rfl
theorem ct_wd_9 : (Cond.fieldLink R_Stage 15 R_Stage "offsets" "[I") ∈ hq_tb := hq_in (List.mem_of_getElem? (i := 98) (by decide +kernel)) rfl
theorem ct_wd_10 : (Cond.fieldLink R_Stage 18 R_Stage "weights" "[I") ∈ hq_tb := hq_in (List.mem_of_getElem? (i := 101) (by decide +kernel)) rfl
