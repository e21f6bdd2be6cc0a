section
-- ===== PART A: goes FIRST, ahead of the names: the tables' words, and 'selects' of the private methods out of them =====
/-- a private method of a class that the tables say can be made, by its rows of tables_1 -/
def lw_okq (q : MethodName × Nat) : Prop := (q.1.cls ≠ "java/lang/invoke/MethodHandle" ∧ q.1.cls ≠ "java/lang/invoke/VarHandle") ∧ Cond.instantiable q.1.cls q.2 ∈ tables_1 ∧ Cond.privateMethod q.1 ∈ tables_1 ∧ Cond.instanceMethod q.1 ∈ tables_1
theorem lw_p0 : lw_okq (⟨"StencilCompiler", "forgetCompiled", "()V"⟩, 5) := ⟨⟨by decide +kernel, by decide +kernel⟩, List.mem_of_getElem? (i := 11) (by decide +kernel), List.mem_of_getElem? (i := 220) (by decide +kernel), List.mem_of_getElem? (i := 221) (by decide +kernel)⟩
theorem lw_p1 : lw_okq (⟨"StencilCompiler$Pipeline", "addStage", "(II)I"⟩, 7) := ⟨⟨by decide +kernel, by decide +kernel⟩, List.mem_of_getElem? (i := 19) (by decide +kernel), List.mem_of_getElem? (i := 228) (by decide +kernel), List.mem_of_getElem? (i := 229) (by decide +kernel)⟩
theorem lw_p2 : lw_okq (⟨"StencilCompiler$Pipeline", "hasStage", "(I)Z"⟩, 7) := ⟨⟨by decide +kernel, by decide +kernel⟩, List.mem_of_getElem? (i := 19) (by decide +kernel), List.mem_of_getElem? (i := 236) (by decide +kernel), List.mem_of_getElem? (i := 237) (by decide +kernel)⟩
theorem lw_p3 : lw_okq (⟨"StencilCompiler$Stage", "addTap", "(III)V"⟩, 7) := ⟨⟨by decide +kernel, by decide +kernel⟩, List.mem_of_getElem? (i := 32) (by decide +kernel), List.mem_of_getElem? (i := 240) (by decide +kernel), List.mem_of_getElem? (i := 241) (by decide +kernel)⟩
theorem lw_p4 : lw_okq (⟨"StencilCompiler$Plan", "draw", "()I"⟩, 8) := ⟨⟨by decide +kernel, by decide +kernel⟩, List.mem_of_getElem? (i := 113) (by decide +kernel), List.mem_of_getElem? (i := 260) (by decide +kernel), List.mem_of_getElem? (i := 261) (by decide +kernel)⟩
theorem lw_p5 : lw_okq (⟨"StencilCompiler$Needs", "spread", "(LStencilCompiler$Pipeline;II)V"⟩, 3) := ⟨⟨by decide +kernel, by decide +kernel⟩, List.mem_of_getElem? (i := 119) (by decide +kernel), List.mem_of_getElem? (i := 264) (by decide +kernel), List.mem_of_getElem? (i := 265) (by decide +kernel)⟩
theorem lw_p6 : lw_okq (⟨"StencilCompiler$Needs", "widen", "(III)V"⟩, 3) := ⟨⟨by decide +kernel, by decide +kernel⟩, List.mem_of_getElem? (i := 119) (by decide +kernel), List.mem_of_getElem? (i := 268) (by decide +kernel), List.mem_of_getElem? (i := 269) (by decide +kernel)⟩
theorem lw_p7 : lw_okq (⟨"StencilCompiler$Needs", "handOn", "(LStencilCompiler$Stage;II)V"⟩, 3) := ⟨⟨by decide +kernel, by decide +kernel⟩, List.mem_of_getElem? (i := 119) (by decide +kernel), List.mem_of_getElem? (i := 274) (by decide +kernel), List.mem_of_getElem? (i := 275) (by decide +kernel)⟩
theorem lw_p8 : lw_okq (⟨"StencilCompiler$Plan", "leastRootThatAsksTiled", "()I"⟩, 8) := ⟨⟨by decide +kernel, by decide +kernel⟩, List.mem_of_getElem? (i := 113) (by decide +kernel), List.mem_of_getElem? (i := 278) (by decide +kernel), List.mem_of_getElem? (i := 279) (by decide +kernel)⟩
theorem lw_p9 : lw_okq (⟨"StencilCompiler$Plan", "hasTiledToWorkOut", "(LStencilCompiler$Stage;)Z"⟩, 8) := ⟨⟨by decide +kernel, by decide +kernel⟩, List.mem_of_getElem? (i := 113) (by decide +kernel), List.mem_of_getElem? (i := 282) (by decide +kernel), List.mem_of_getElem? (i := 283) (by decide +kernel)⟩
theorem lw_p10 : lw_okq (⟨"StencilCompiler$Plan", "isUsedAs", "(II)Z"⟩, 8) := ⟨⟨by decide +kernel, by decide +kernel⟩, List.mem_of_getElem? (i := 113) (by decide +kernel), List.mem_of_getElem? (i := 286) (by decide +kernel), List.mem_of_getElem? (i := 287) (by decide +kernel)⟩
theorem lw_p11 : lw_okq (⟨"StencilCompiler$Plan", "measureOutput", "()V"⟩, 8) := ⟨⟨by decide +kernel, by decide +kernel⟩, List.mem_of_getElem? (i := 113) (by decide +kernel), List.mem_of_getElem? (i := 293) (by decide +kernel), List.mem_of_getElem? (i := 294) (by decide +kernel)⟩
theorem lw_p12 : lw_okq (⟨"StencilCompiler$Plan", "measureRoots", "()V"⟩, 8) := ⟨⟨by decide +kernel, by decide +kernel⟩, List.mem_of_getElem? (i := 113) (by decide +kernel), List.mem_of_getElem? (i := 297) (by decide +kernel), List.mem_of_getElem? (i := 298) (by decide +kernel)⟩
theorem lw_p13 : lw_okq (⟨"StencilCompiler$Needs", "lengthOf", "(I)I"⟩, 3) := ⟨⟨by decide +kernel, by decide +kernel⟩, List.mem_of_getElem? (i := 119) (by decide +kernel), List.mem_of_getElem? (i := 301) (by decide +kernel), List.mem_of_getElem? (i := 302) (by decide +kernel)⟩
theorem lw_p14 : lw_okq (⟨"StencilCompiler$Plan", "measureTiles", "()V"⟩, 8) := ⟨⟨by decide +kernel, by decide +kernel⟩, List.mem_of_getElem? (i := 113) (by decide +kernel), List.mem_of_getElem? (i := 305) (by decide +kernel), List.mem_of_getElem? (i := 306) (by decide +kernel)⟩
theorem lw_p15 : lw_okq (⟨"StencilCompiler$Pipeline", "tileCount", "()I"⟩, 7) := ⟨⟨by decide +kernel, by decide +kernel⟩, List.mem_of_getElem? (i := 19) (by decide +kernel), List.mem_of_getElem? (i := 309) (by decide +kernel), List.mem_of_getElem? (i := 310) (by decide +kernel)⟩
def lw_privs_1 : List (MethodName × Nat) := [(⟨"StencilCompiler", "forgetCompiled", "()V"⟩, 5), (⟨"StencilCompiler$Pipeline", "addStage", "(II)I"⟩, 7), (⟨"StencilCompiler$Pipeline", "hasStage", "(I)Z"⟩, 7), (⟨"StencilCompiler$Stage", "addTap", "(III)V"⟩, 7), (⟨"StencilCompiler$Plan", "draw", "()I"⟩, 8), (⟨"StencilCompiler$Needs", "spread", "(LStencilCompiler$Pipeline;II)V"⟩, 3), (⟨"StencilCompiler$Needs", "widen", "(III)V"⟩, 3), (⟨"StencilCompiler$Needs", "handOn", "(LStencilCompiler$Stage;II)V"⟩, 3), (⟨"StencilCompiler$Plan", "leastRootThatAsksTiled", "()I"⟩, 8), (⟨"StencilCompiler$Plan", "hasTiledToWorkOut", "(LStencilCompiler$Stage;)Z"⟩, 8), (⟨"StencilCompiler$Plan", "isUsedAs", "(II)Z"⟩, 8), (⟨"StencilCompiler$Plan", "measureOutput", "()V"⟩, 8), (⟨"StencilCompiler$Plan", "measureRoots", "()V"⟩, 8), (⟨"StencilCompiler$Needs", "lengthOf", "(I)I"⟩, 3), (⟨"StencilCompiler$Plan", "measureTiles", "()V"⟩, 8), (⟨"StencilCompiler$Pipeline", "tileCount", "()I"⟩, 7)]
theorem lw_r1 : ∀ q ∈ lw_privs_1, lw_okq q := List.forall_mem_cons.mpr ⟨lw_p0, List.forall_mem_cons.mpr ⟨lw_p1, List.forall_mem_cons.mpr ⟨lw_p2, List.forall_mem_cons.mpr ⟨lw_p3, List.forall_mem_cons.mpr ⟨lw_p4, List.forall_mem_cons.mpr ⟨lw_p5, List.forall_mem_cons.mpr ⟨lw_p6, List.forall_mem_cons.mpr ⟨lw_p7, List.forall_mem_cons.mpr ⟨lw_p8, List.forall_mem_cons.mpr ⟨lw_p9, List.forall_mem_cons.mpr ⟨lw_p10, List.forall_mem_cons.mpr ⟨lw_p11, List.forall_mem_cons.mpr ⟨lw_p12, List.forall_mem_cons.mpr ⟨lw_p13, List.forall_mem_cons.mpr ⟨lw_p14, List.forall_mem_cons.mpr ⟨lw_p15, fun _ h => absurd h List.not_mem_nil⟩⟩⟩⟩⟩⟩⟩⟩⟩⟩⟩⟩⟩⟩⟩⟩
theorem lw_p16 : lw_okq (⟨"StencilCompiler$Pipeline", "tileFirst", "(I)I"⟩, 7) := ⟨⟨by decide +kernel, by decide +kernel⟩, List.mem_of_getElem? (i := 19) (by decide +kernel), List.mem_of_getElem? (i := 313) (by decide +kernel), List.mem_of_getElem? (i := 314) (by decide +kernel)⟩
theorem lw_p17 : lw_okq (⟨"StencilCompiler$Pipeline", "tileLast", "(I)I"⟩, 7) := ⟨⟨by decide +kernel, by decide +kernel⟩, List.mem_of_getElem? (i := 19) (by decide +kernel), List.mem_of_getElem? (i := 317) (by decide +kernel), List.mem_of_getElem? (i := 318) (by decide +kernel)⟩
theorem lw_p18 : lw_okq (⟨"StencilCompiler$Plan", "measureTileInHand", "()I"⟩, 8) := ⟨⟨by decide +kernel, by decide +kernel⟩, List.mem_of_getElem? (i := 113) (by decide +kernel), List.mem_of_getElem? (i := 323) (by decide +kernel), List.mem_of_getElem? (i := 324) (by decide +kernel)⟩
theorem lw_p19 : lw_okq (⟨"StencilCompiler$Plan", "measureInlines", "()V"⟩, 8) := ⟨⟨by decide +kernel, by decide +kernel⟩, List.mem_of_getElem? (i := 113) (by decide +kernel), List.mem_of_getElem? (i := 328) (by decide +kernel), List.mem_of_getElem? (i := 329) (by decide +kernel)⟩
theorem lw_p20 : lw_okq (⟨"StencilCompiler$Plan", "askInlineSources", "(I)V"⟩, 8) := ⟨⟨by decide +kernel, by decide +kernel⟩, List.mem_of_getElem? (i := 113) (by decide +kernel), List.mem_of_getElem? (i := 332) (by decide +kernel), List.mem_of_getElem? (i := 333) (by decide +kernel)⟩
theorem lw_p21 : lw_okq (⟨"StencilCompiler$Runner", "runSchedule", "(LStencilCompiler$Needs;)V"⟩, 5) := ⟨⟨by decide +kernel, by decide +kernel⟩, List.mem_of_getElem? (i := 173) (by decide +kernel), List.mem_of_getElem? (i := 340) (by decide +kernel), List.mem_of_getElem? (i := 341) (by decide +kernel)⟩
theorem lw_p22 : lw_okq (⟨"StencilCompiler$Runner", "keep", "(LStencilCompiler$Needs;I)V"⟩, 5) := ⟨⟨by decide +kernel, by decide +kernel⟩, List.mem_of_getElem? (i := 173) (by decide +kernel), List.mem_of_getElem? (i := 344) (by decide +kernel), List.mem_of_getElem? (i := 345) (by decide +kernel)⟩
theorem lw_p23 : lw_okq (⟨"StencilCompiler$Runner", "workOut", "(II)I"⟩, 5) := ⟨⟨by decide +kernel, by decide +kernel⟩, List.mem_of_getElem? (i := 173) (by decide +kernel), List.mem_of_getElem? (i := 348) (by decide +kernel), List.mem_of_getElem? (i := 349) (by decide +kernel)⟩
theorem lw_p24 : lw_okq (⟨"StencilCompiler$Runner", "sourceValue", "(II)I"⟩, 5) := ⟨⟨by decide +kernel, by decide +kernel⟩, List.mem_of_getElem? (i := 173) (by decide +kernel), List.mem_of_getElem? (i := 352) (by decide +kernel), List.mem_of_getElem? (i := 353) (by decide +kernel)⟩
theorem lw_p25 : lw_okq (⟨"StencilCompiler$Stage", "finished", "(I)I"⟩, 7) := ⟨⟨by decide +kernel, by decide +kernel⟩, List.mem_of_getElem? (i := 32) (by decide +kernel), List.mem_of_getElem? (i := 358) (by decide +kernel), List.mem_of_getElem? (i := 359) (by decide +kernel)⟩
theorem lw_p26 : lw_okq (⟨"StencilCompiler$Runner", "runTile", "(II)V"⟩, 5) := ⟨⟨by decide +kernel, by decide +kernel⟩, List.mem_of_getElem? (i := 173) (by decide +kernel), List.mem_of_getElem? (i := 369) (by decide +kernel), List.mem_of_getElem? (i := 370) (by decide +kernel)⟩
theorem lw_p27 : lw_okq (⟨"StencilCompiler$Runner", "release", "(I)V"⟩, 5) := ⟨⟨by decide +kernel, by decide +kernel⟩, List.mem_of_getElem? (i := 173) (by decide +kernel), List.mem_of_getElem? (i := 374) (by decide +kernel), List.mem_of_getElem? (i := 375) (by decide +kernel)⟩
theorem lw_p28 : lw_okq (⟨"StencilCompiler$Pipeline", "valuesWorkedOutFor", "(I)I"⟩, 7) := ⟨⟨by decide +kernel, by decide +kernel⟩, List.mem_of_getElem? (i := 19) (by decide +kernel), List.mem_of_getElem? (i := 388) (by decide +kernel), List.mem_of_getElem? (i := 389) (by decide +kernel)⟩
theorem lw_p29 : lw_okq (⟨"StencilCompiler$Plan", "usedCount", "()I"⟩, 8) := ⟨⟨by decide +kernel, by decide +kernel⟩, List.mem_of_getElem? (i := 113) (by decide +kernel), List.mem_of_getElem? (i := 405) (by decide +kernel), List.mem_of_getElem? (i := 406) (by decide +kernel)⟩
theorem lw_p30 : lw_okq (⟨"StencilCompilerModel", "changed", "(I)I"⟩, 21) := ⟨⟨by decide +kernel, by decide +kernel⟩, List.mem_of_getElem? (i := 412) (by decide +kernel), List.mem_of_getElem? (i := 487) (by decide +kernel), List.mem_of_getElem? (i := 488) (by decide +kernel)⟩
theorem lw_p31 : lw_okq (⟨"StencilCompilerModel", "no", "(I)Z"⟩, 21) := ⟨⟨by decide +kernel, by decide +kernel⟩, List.mem_of_getElem? (i := 412) (by decide +kernel), List.mem_of_getElem? (i := 499) (by decide +kernel), List.mem_of_getElem? (i := 500) (by decide +kernel)⟩
def lw_privs_2 : List (MethodName × Nat) := [(⟨"StencilCompiler$Pipeline", "tileFirst", "(I)I"⟩, 7), (⟨"StencilCompiler$Pipeline", "tileLast", "(I)I"⟩, 7), (⟨"StencilCompiler$Plan", "measureTileInHand", "()I"⟩, 8), (⟨"StencilCompiler$Plan", "measureInlines", "()V"⟩, 8), (⟨"StencilCompiler$Plan", "askInlineSources", "(I)V"⟩, 8), (⟨"StencilCompiler$Runner", "runSchedule", "(LStencilCompiler$Needs;)V"⟩, 5), (⟨"StencilCompiler$Runner", "keep", "(LStencilCompiler$Needs;I)V"⟩, 5), (⟨"StencilCompiler$Runner", "workOut", "(II)I"⟩, 5), (⟨"StencilCompiler$Runner", "sourceValue", "(II)I"⟩, 5), (⟨"StencilCompiler$Stage", "finished", "(I)I"⟩, 7), (⟨"StencilCompiler$Runner", "runTile", "(II)V"⟩, 5), (⟨"StencilCompiler$Runner", "release", "(I)V"⟩, 5), (⟨"StencilCompiler$Pipeline", "valuesWorkedOutFor", "(I)I"⟩, 7), (⟨"StencilCompiler$Plan", "usedCount", "()I"⟩, 8), (⟨"StencilCompilerModel", "changed", "(I)I"⟩, 21), (⟨"StencilCompilerModel", "no", "(I)Z"⟩, 21)]
theorem lw_r2 : ∀ q ∈ lw_privs_2, lw_okq q := List.forall_mem_cons.mpr ⟨lw_p16, List.forall_mem_cons.mpr ⟨lw_p17, List.forall_mem_cons.mpr ⟨lw_p18, List.forall_mem_cons.mpr ⟨lw_p19, List.forall_mem_cons.mpr ⟨lw_p20, List.forall_mem_cons.mpr ⟨lw_p21, List.forall_mem_cons.mpr ⟨lw_p22, List.forall_mem_cons.mpr ⟨lw_p23, List.forall_mem_cons.mpr ⟨lw_p24, List.forall_mem_cons.mpr ⟨lw_p25, List.forall_mem_cons.mpr ⟨lw_p26, List.forall_mem_cons.mpr ⟨lw_p27, List.forall_mem_cons.mpr ⟨lw_p28, List.forall_mem_cons.mpr ⟨lw_p29, List.forall_mem_cons.mpr ⟨lw_p30, List.forall_mem_cons.mpr ⟨lw_p31, fun _ h => absurd h List.not_mem_nil⟩⟩⟩⟩⟩⟩⟩⟩⟩⟩⟩⟩⟩⟩⟩⟩
theorem lw_p32 : lw_okq (⟨"StencilCompilerModel", "valueAt", "(II)I"⟩, 21) := ⟨⟨by decide +kernel, by decide +kernel⟩, List.mem_of_getElem? (i := 412) (by decide +kernel), List.mem_of_getElem? (i := 521) (by decide +kernel), List.mem_of_getElem? (i := 522) (by decide +kernel)⟩
theorem lw_p33 : lw_okq (⟨"StencilCompilerModel", "given", "(I)I"⟩, 21) := ⟨⟨by decide +kernel, by decide +kernel⟩, List.mem_of_getElem? (i := 412) (by decide +kernel), List.mem_of_getElem? (i := 525) (by decide +kernel), List.mem_of_getElem? (i := 526) (by decide +kernel)⟩
theorem lw_p34 : lw_okq (⟨"StencilCompilerModel", "finished", "(II)I"⟩, 21) := ⟨⟨by decide +kernel, by decide +kernel⟩, List.mem_of_getElem? (i := 412) (by decide +kernel), List.mem_of_getElem? (i := 529) (by decide +kernel), List.mem_of_getElem? (i := 530) (by decide +kernel)⟩
theorem lw_p35 : lw_okq (⟨"StencilCompilerModel", "need", "(II)V"⟩, 21) := ⟨⟨by decide +kernel, by decide +kernel⟩, List.mem_of_getElem? (i := 412) (by decide +kernel), List.mem_of_getElem? (i := 537) (by decide +kernel), List.mem_of_getElem? (i := 538) (by decide +kernel)⟩
theorem lw_p36 : lw_okq (⟨"StencilCompilerModel", "spread", "(II)V"⟩, 21) := ⟨⟨by decide +kernel, by decide +kernel⟩, List.mem_of_getElem? (i := 412) (by decide +kernel), List.mem_of_getElem? (i := 541) (by decide +kernel), List.mem_of_getElem? (i := 542) (by decide +kernel)⟩
theorem lw_p37 : lw_okq (⟨"StencilCompilerModel", "kept", "(II)Z"⟩, 21) := ⟨⟨by decide +kernel, by decide +kernel⟩, List.mem_of_getElem? (i := 412) (by decide +kernel), List.mem_of_getElem? (i := 545) (by decide +kernel), List.mem_of_getElem? (i := 546) (by decide +kernel)⟩
theorem lw_p38 : lw_okq (⟨"StencilCompilerModel", "leans", "(I)Z"⟩, 21) := ⟨⟨by decide +kernel, by decide +kernel⟩, List.mem_of_getElem? (i := 412) (by decide +kernel), List.mem_of_getElem? (i := 549) (by decide +kernel), List.mem_of_getElem? (i := 550) (by decide +kernel)⟩
theorem lw_p39 : lw_okq (⟨"StencilCompilerModel", "total", "()J"⟩, 21) := ⟨⟨by decide +kernel, by decide +kernel⟩, List.mem_of_getElem? (i := 412) (by decide +kernel), List.mem_of_getElem? (i := 553) (by decide +kernel), List.mem_of_getElem? (i := 554) (by decide +kernel)⟩
theorem lw_p40 : lw_okq (⟨"StencilCompilerModel", "tiles", "()I"⟩, 21) := ⟨⟨by decide +kernel, by decide +kernel⟩, List.mem_of_getElem? (i := 412) (by decide +kernel), List.mem_of_getElem? (i := 557) (by decide +kernel), List.mem_of_getElem? (i := 558) (by decide +kernel)⟩
theorem lw_p41 : lw_okq (⟨"StencilCompilerModel", "needTile", "(I)V"⟩, 21) := ⟨⟨by decide +kernel, by decide +kernel⟩, List.mem_of_getElem? (i := 412) (by decide +kernel), List.mem_of_getElem? (i := 561) (by decide +kernel), List.mem_of_getElem? (i := 562) (by decide +kernel)⟩
theorem lw_p42 : lw_okq (⟨"StencilCompilerModel", "greatest", "(Z)I"⟩, 21) := ⟨⟨by decide +kernel, by decide +kernel⟩, List.mem_of_getElem? (i := 412) (by decide +kernel), List.mem_of_getElem? (i := 586) (by decide +kernel), List.mem_of_getElem? (i := 587) (by decide +kernel)⟩
def lw_privs_3 : List (MethodName × Nat) := [(⟨"StencilCompilerModel", "valueAt", "(II)I"⟩, 21), (⟨"StencilCompilerModel", "given", "(I)I"⟩, 21), (⟨"StencilCompilerModel", "finished", "(II)I"⟩, 21), (⟨"StencilCompilerModel", "need", "(II)V"⟩, 21), (⟨"StencilCompilerModel", "spread", "(II)V"⟩, 21), (⟨"StencilCompilerModel", "kept", "(II)Z"⟩, 21), (⟨"StencilCompilerModel", "leans", "(I)Z"⟩, 21), (⟨"StencilCompilerModel", "total", "()J"⟩, 21), (⟨"StencilCompilerModel", "tiles", "()I"⟩, 21), (⟨"StencilCompilerModel", "needTile", "(I)V"⟩, 21), (⟨"StencilCompilerModel", "greatest", "(Z)I"⟩, 21)]
theorem lw_r3 : ∀ q ∈ lw_privs_3, lw_okq q := List.forall_mem_cons.mpr ⟨lw_p32, List.forall_mem_cons.mpr ⟨lw_p33, List.forall_mem_cons.mpr ⟨lw_p34, List.forall_mem_cons.mpr ⟨lw_p35, List.forall_mem_cons.mpr ⟨lw_p36, List.forall_mem_cons.mpr ⟨lw_p37, List.forall_mem_cons.mpr ⟨lw_p38, List.forall_mem_cons.mpr ⟨lw_p39, List.forall_mem_cons.mpr ⟨lw_p40, List.forall_mem_cons.mpr ⟨lw_p41, List.forall_mem_cons.mpr ⟨lw_p42, fun _ h => absurd h List.not_mem_nil⟩⟩⟩⟩⟩⟩⟩⟩⟩⟩⟩
def lw_privs : List (MethodName × Nat) := lw_privs_1 ++ (lw_privs_2 ++ (lw_privs_3))
def lw_tbl : List Cond := k2_sels lw_privs ++ tables_1
theorem lw_privs_ok : ∀ q ∈ lw_privs, lw_okq q := by
  show ∀ q ∈ lw_privs_1 ++ (lw_privs_2 ++ (lw_privs_3)), lw_okq q
  exact List.forall_mem_append.mpr ⟨lw_r1, List.forall_mem_append.mpr ⟨lw_r2, lw_r3⟩⟩
-- ===== end of PART A; then your names; then what follows =====
end
section
/-! A WORLD AT FIXED PLACES: n cells at B, B + 1 ..; cell i has a shape (an object: its class and, a field each, an int or the place that a reference leads to; an array of ints; an array of references) and the ints M i 0, M i 1 .. -/
abbrev hm_M : Type := Nat → Nat → Int32
def hm_up (M : hm_M) (i k : Nat) (x : Int32) : hm_M := fun a => if a = i then upd (M a) k x else M a
theorem hm_up_self {M : hm_M} {i k : Nat} {x : Int32} : hm_up M i k x i = upd (M i) k x := if_pos rfl
theorem hm_up_ne {M : hm_M} {i j k : Nat} {x : Int32} (h : ¬ j = i) : hm_up M i k x j = M j := if_neg h
abbrev hm_L : Type := Nat → Nat → Int64
def hm_L0 : hm_L := fun _ _ => 0
def hm_lup (L : hm_L) (i k : Nat) (x : Int64) : hm_L := fun a => if a = i then vp_updL (L a) k x else L a
theorem hm_lup_self {L : hm_L} {i k : Nat} {x : Int64} : hm_lup L i k x i = vp_updL (L i) k x := if_pos rfl
theorem hm_lup_ne {L : hm_L} {i j k : Nat} {x : Int64} (h : ¬ j = i) : hm_lup L i k x j = L j := if_neg h
abbrev hm_S : Type := (Nat × List (Option Nat)) ⊕ (Nat × Nat × Option (Option (Nat → Nat)))
def hm_fv (B : Nat) (f : Nat → Int32) (k : Nat) (o : Option Nat) : Value := match o with
  | none => .int (f k)
  | some j => .ref (B + j)
def hm_fs (B : Nat) (fl : List (Option Nat)) (f : Nat → Int32) : List Value := fl.zipIdx.map (fun q => hm_fv B f q.2 q.1)
def hm_en (ca : Nat → ClassId) (B : Nat) (s : hm_S) (f : Nat → Int32) (h : Nat → Int64) : va_E := match s with
  | .inl (ci, fl) => .inr (ci, hm_fs B fl f)
  | .inr (t, n, none) => .inl (ca t, n, .inl f)
  | .inr (t, n, some none) => .inl (ca t, n, .inr (.inl h))
  | .inr (t, n, some (some g)) => .inl (ca t, n, .inr (.inr (.inr (.inr (fun j => some (B + g j))))))
def hm_wl (ca : Nat → ClassId) (n : Nat) (sh : Nat → hm_S) (B : Nat) (M : hm_M) (L : hm_L) : va_W := (List.range n).map (fun i => (B + i, hm_en ca B (sh i) (M i) (L i)))
def hm_A (B n : Nat) : Nat → Prop := fun q => B ≤ q ∧ q < B + n
theorem hm_get {ca : Nat → ClassId} {n : Nat} {sh : Nat → hm_S} {B : Nat} {M : hm_M} {L : hm_L} {i : Nat} (hi : i < n) : (hm_wl ca n sh B M L)[i]? = some (B + i, hm_en ca B (sh i) (M i) (L i)) := by
  unfold hm_wl
  rw [List.getElem?_map, List.getElem?_range hi]
  rfl
theorem hm_get_o {ca : Nat → ClassId} {n : Nat} {sh : Nat → hm_S} {B : Nat} {M : hm_M} {L : hm_L} {i ci : Nat} {fl : List (Option Nat)} (hi : i < n) (hs : sh i = .inl (ci, fl)) : (hm_wl ca n sh B M L)[i]? = some (B + i, .inr (ci, hm_fs B fl (M i))) := by
  rw [hm_get hi, hs]; rfl
theorem hm_get_a {ca : Nat → ClassId} {n : Nat} {sh : Nat → hm_S} {B : Nat} {M : hm_M} {L : hm_L} {i t ln : Nat} (hi : i < n) (hs : sh i = .inr (t, ln, none)) : (hm_wl ca n sh B M L)[i]? = some (B + i, .inl (ca t, ln, .inl (M i))) := by
  rw [hm_get hi, hs]; rfl
theorem hm_get_r {ca : Nat → ClassId} {n : Nat} {sh : Nat → hm_S} {B : Nat} {M : hm_M} {L : hm_L} {i t ln : Nat} {g : Nat → Nat} (hi : i < n) (hs : sh i = .inr (t, ln, some (some g))) : (hm_wl ca n sh B M L)[i]? = some (B + i, .inl (ca t, ln, .inr (.inr (.inr (.inr (fun j => some (B + g j))))))) := by
  rw [hm_get hi, hs]; rfl
theorem hm_fs_len {B : Nat} {fl : List (Option Nat)} {f : Nat → Int32} : (hm_fs B fl f).length = fl.length := by
  simp [hm_fs]
theorem hm_fs_get {B k : Nat} {fl : List (Option Nat)} {f : Nat → Int32} {o : Option Nat} (h : fl[k]? = some o) : (hm_fs B fl f)[k]? = some (hm_fv B f k o) := by
  simp [hm_fs, List.getElem?_zipIdx, h]
theorem hm_fs_at {B k : Nat} {fl : List (Option Nat)} {f : Nat → Int32} : (hm_fs B fl f)[k]? = (fl[k]?).map (hm_fv B f k) := by
  simp [hm_fs, List.getElem?_zipIdx]
  cases fl[k]? <;> rfl
theorem hm_fs_set {B k : Nat} {fl : List (Option Nat)} {f : Nat → Int32} {x : Int32} (h : fl[k]? = some none) : (hm_fs B fl f).set k (.int x) = hm_fs B fl (upd f k x) := by
  apply List.ext_getElem?
  intro j
  rw [hm_fs_at]
  by_cases hj : k = j
  · subst hj
    have hl : k < (hm_fs B fl f).length := by rw [hm_fs_len]; exact (List.getElem?_eq_some_iff.mp h).1
    rw [List.getElem?_set_self hl, h]
    simp [hm_fv, upd]
  · rw [List.getElem?_set_ne hj, hm_fs_at]
    cases hq : fl[j]? with
    | none => rfl
    | some o =>
      cases o with
      | none => simp [hm_fv, upd, Ne.symm hj]
      | some q => rfl
theorem hm_set {ca : Nat → ClassId} {n : Nat} {sh : Nat → hm_S} {B : Nat} {M : hm_M} {L : hm_L} {i k : Nat} {x : Int32} {en : va_E} (hi : i < n) (he : en = hm_en ca B (sh i) (upd (M i) k x) (L i)) : (hm_wl ca n sh B M L).set i (B + i, en) = hm_wl ca n sh B (hm_up M i k x) L := by
  subst he
  apply List.ext_getElem?
  intro j
  have hl : (hm_wl ca n sh B M L).length = n := by simp [hm_wl]
  by_cases hj : i = j
  · subst hj
    rw [List.getElem?_set_self (by rw [hl]; exact hi), hm_get hi, hm_up_self]
  · rw [List.getElem?_set_ne hj]
    by_cases hjn : j < n
    · rw [hm_get hjn, hm_get hjn, hm_up_ne (Ne.symm hj)]
    · rw [List.getElem?_eq_none (by rw [hl]; omega), List.getElem?_eq_none (by simp [hm_wl]; omega)]
theorem hm_set_o {ca : Nat → ClassId} {n : Nat} {sh : Nat → hm_S} {B : Nat} {M : hm_M} {L : hm_L} {i ci k : Nat} {fl : List (Option Nat)} {x : Int32} (hi : i < n) (hs : sh i = .inl (ci, fl)) (h : fl[k]? = some none) : (hm_wl ca n sh B M L).set i (B + i, .inr (ci, (hm_fs B fl (M i)).set k (.int x))) = hm_wl ca n sh B (hm_up M i k x) L := by
  refine hm_set hi ?_
  rw [hs, hm_fs_set h]; rfl
theorem hm_set_a {ca : Nat → ClassId} {n : Nat} {sh : Nat → hm_S} {B : Nat} {M : hm_M} {L : hm_L} {i t ln k : Nat} {x : Int32} (hi : i < n) (hs : sh i = .inr (t, ln, none)) : (hm_wl ca n sh B M L).set i (B + i, .inl (ca t, ln, .inl (upd (M i) k x))) = hm_wl ca n sh B (hm_up M i k x) L := by
  refine hm_set hi ?_
  rw [hs]; rfl
theorem hm_get_l {ca : Nat → ClassId} {n : Nat} {sh : Nat → hm_S} {B : Nat} {M : hm_M} {L : hm_L} {i t ln : Nat} (hi : i < n) (hs : sh i = .inr (t, ln, some none)) : (hm_wl ca n sh B M L)[i]? = some (B + i, .inl (ca t, ln, .inr (.inl (L i)))) := by
  rw [hm_get hi, hs]; rfl
theorem hm_set_l {ca : Nat → ClassId} {n : Nat} {sh : Nat → hm_S} {B : Nat} {M : hm_M} {L : hm_L} {i t ln k : Nat} {x : Int64} (hi : i < n) (hs : sh i = .inr (t, ln, some none)) : (hm_wl ca n sh B M L).set i (B + i, .inl (ca t, ln, .inr (.inl (vp_updL (L i) k x)))) = hm_wl ca n sh B M (hm_lup L i k x) := by
  apply List.ext_getElem?
  intro j
  have hl : (hm_wl ca n sh B M L).length = n := by simp [hm_wl]
  by_cases hj : i = j
  · subst hj
    rw [List.getElem?_set_self (by rw [hl]; exact hi), hm_get hi, hm_lup_self, hs]
    rfl
  · rw [List.getElem?_set_ne hj]
    by_cases hjn : j < n
    · rw [hm_get hjn, hm_get hjn, hm_lup_ne (Ne.symm hj)]
    · rw [List.getElem?_eq_none (by rw [hl]; omega), List.getElem?_eq_none (by simp [hm_wl]; omega)]
theorem hm_D {ca : Nat → ClassId} {n : Nat} {sh : Nat → hm_S} {B : Nat} {M : hm_M} {L : hm_L} : va_D (hm_A B n) (hm_wl ca n sh B M L) := by
  have key : ∀ (k : Nat) (q : Nat × va_E), (hm_wl ca n sh B M L)[k]? = some q → k < n ∧ q.1 = B + k := by
    intro k q hk
    have hl : k < n := by
      have := (List.getElem?_eq_some_iff.mp hk).1
      simpa [hm_wl] using this
    rw [hm_get hl] at hk
    cases hk
    exact ⟨hl, rfl⟩
  refine ⟨fun i j x y hx hy hxy => ?_, fun k q hk => ?_⟩
  · have h1 := (key i x hx).2
    have h2 := (key j y hy).2
    omega
  · obtain ⟨h1, h2⟩ := key k q hk
    rw [h2]
    exact ⟨by omega, by omega⟩
abbrev hm_P (D : va_G) (cl : List vw_C) (ca : Nat → ClassId) (n : Nat) (sh : Nat → hm_S) (B : Nat) (M : hm_M) (L : hm_L) (H : Heap) : Prop := va_P D cl (hm_wl ca n sh B M L) H
/-! guards and steps of the functions that the methods are read into -/
def hm_ix (i : Int32) (n : Nat) : Bool := decide (0 ≤ i.toInt ∧ i.toInt < n)
theorem hm_ix_in {i : Int32} {n : Nat} (h : hm_ix i n = true) : vp_in i n := vp_in_iff.mpr (of_decide_eq_true h)
theorem hm_ix_nI {k n : Nat} (h : k < n) (hn : n < 2 ^ 31) : hm_ix (nI k) n = true := decide_eq_true (vp_in_iff.mp (vp_in_nI h hn))
def hm_gd {α : Type} (b : Bool) (k : Option α) : Option α := match b with
  | true => k
  | false => none
theorem hm_gd_some {α : Type} {b : Bool} {k : Option α} {r : α} (h : hm_gd b k = some r) : b = true ∧ k = some r := by
  cases b with
  | true => exact ⟨rfl, h⟩
  | false => cases h
theorem hm_gd_t {α : Type} {b : Bool} {k : Option α} (h : b = true) : hm_gd b k = k := by subst h; rfl
def hm_bI {α β μ : Type} (x : Option (β × μ)) (k : β → μ → Option α) : Option α := match x with
  | none => none
  | some q => k q.1 q.2
theorem hm_bI_some {α β μ : Type} {x : Option (β × μ)} {k : β → μ → Option α} {y : α} (h : hm_bI x k = some y) : ∃ (r : β) (M : μ), x = some (r, M) ∧ k r M = some y := by
  cases x with
  | none => cases h
  | some q => exact ⟨q.1, q.2, rfl, h⟩
theorem hm_bI_t {α β μ : Type} {x : Option (β × μ)} {k : β → μ → Option α} {r : β} {M : μ} (h : x = some (r, M)) : hm_bI x k = k r M := by subst h; rfl
def hm_bV {α μ : Type} (x : Option μ) (k : μ → Option α) : Option α := match x with
  | none => none
  | some M => k M
theorem hm_bV_some {α μ : Type} {x : Option μ} {k : μ → Option α} {y : α} (h : hm_bV x k = some y) : ∃ M : μ, x = some M ∧ k M = some y := by
  cases x with
  | none => cases h
  | some q => exact ⟨q, rfl, h⟩
theorem hm_bV_t {α μ : Type} {x : Option μ} {k : μ → Option α} {M : μ} (h : x = some M) : hm_bV x k = k M := by subst h; rfl
def hm_st {α : Type} (M : hm_M) (i k : Nat) (x : Int32) (f : hm_M → Option α) : Option α := f (hm_up M i k x)
theorem hm_st_some {α : Type} {M : hm_M} {i k : Nat} {x : Int32} {f : hm_M → Option α} {y : α} (h : hm_st M i k x f = some y) : ∃ M1 : hm_M, M1 = hm_up M i k x ∧ f M1 = some y := ⟨_, rfl, h⟩
end
section
/-! ROWS OVER A WORLD AT FIXED PLACES -/
def hq_okw (w : Cond) : Bool := (w.onTables && w.keepsH) || (match w with
  | .arrayClass _ => true
  | _ => false)
/-- what a method of the world takes of the tables: classes, array classes, and all words of tb -/
def hq_K (D : va_G) (cl : List vw_C) (tys : List (ClassId × FieldType)) (tb : List Cond) (U : State) : Prop := va_K D cl tys U ∧ (∀ w ∈ tb, hq_okw w = true) ∧ ∀ w ∈ tb, ∀ a : Array Value, w.before a U = true
theorem hq_K.moved {D : va_G} {cl : List vw_C} {tys : List (ClassId × FieldType)} {tb : List Cond} {s U : State} (hW : s.WarmedH U.vm) (h : hq_K D cl tys tb s) : hq_K D cl tys tb U := by
  refine ⟨va_K.moved hW.alike h.1, h.2.1, fun w hw a => ?_⟩
  have hk := h.2.1 w hw
  have hb := h.2.2 w hw #[]
  unfold hq_okw at hk
  rcases Bool.or_eq_true _ _ |>.mp hk with h1 | h1
  · rw [Bool.and_eq_true] at h1
    have h2 := Cond.onTables_warmH (T := U) (args' := a) hW h1.1 h1.2 hb
    rwa [State.setVm_self] at h2
  · cases w with
    | arrayClass ty => exact word_at hW (Or.inr ⟨ty, rfl⟩) hb
    | _ => cases h1
theorem hq_K.calling {D : va_G} {cl : List vw_C} {tys : List (ClassId × FieldType)} {tb : List Cond} {U : State} {g : JFrame} {mk : MethodId} {a : Array Value} (h : hq_K D cl tys tb U) : hq_K D cl tys tb (U.calling g mk a) :=
  hq_K.moved (s := U) (U := U.calling g mk a) (State.WarmedH.refl U) h
def hq_Pre (D : va_G) (cl : List vw_C) (ca : Nat → ClassId) (n : Nat) (sh : Nat → hm_S) (B : Nat) (tys : List (ClassId × FieldType)) (tb : List Cond) (M : hm_M) (L : hm_L) (vs : List Value) : Array Value → State → Prop := va_Pc vs (fun U => hm_P D cl ca n sh B M L U.heap ∧ hq_K D cl tys tb U)
def hq_QI (D : va_G) (cl : List vw_C) (ca : Nat → ClassId) (n : Nat) (sh : Nat → hm_S) (B : Nat) (r : Int32) (M : hm_M) (L : hm_L) : Array Value → State → Outcome → State → Prop := va_Qi (fun (r' : Int32) (_ : Unit) => r' = r) (fun _ t => hm_P D cl ca n sh B M L t.heap) (hm_A B n)
def hq_QL (D : va_G) (cl : List vw_C) (ca : Nat → ClassId) (n : Nat) (sh : Nat → hm_S) (B : Nat) (r : Int64) (M : hm_M) (L : hm_L) : Array Value → State → Outcome → State → Prop := va_Ql (fun (r' : Int64) (_ : Unit) => r' = r) (fun _ t => hm_P D cl ca n sh B M L t.heap) (hm_A B n)
def hq_QV (D : va_G) (cl : List vw_C) (ca : Nat → ClassId) (n : Nat) (sh : Nat → hm_S) (B : Nat) (M : hm_M) (L : hm_L) : Array Value → State → Outcome → State → Prop := va_Qv (fun (_ : Unit) => True) (fun _ t => hm_P D cl ca n sh B M L t.heap) (hm_A B n)
section HQ
variable {p : Program} {l : Launch} {e : Env} {R : Room} {s : State} {m : MethodId} {args : Array Value} {below : List Frame} {meth : Method} {c : Code} {H : Heap} {locs : List Loc} {cells slots : Nat} {Q : State → Prop}
variable {cc : ByteArray} {pc : Nat} {ls : Array Slot} {rest st0 : List Value} {D : va_G} {cl : List vw_C} {tys : List (ClassId × FieldType)} {H0 : Heap} {ca : Nat → ClassId} {n B : Nat} {sh : Nat → hm_S} {M M1 : hm_M} {L L1 : hm_L} {tb : List Cond} {A : Nat → Prop}
theorem hq_get (hexec : p.tables.exec = Jvm.exec) (hb : c.code = cc) {own ref C : String} {T : u_T} {N ci index : Nat} {Ts : List Cond} (hts : ∀ w ∈ Ts, w.before args s = true) (hin : ∀ w ∈ u_ws C T N, w ∈ Ts) (hown : s.vm.findClass own = some m.cls) (hK : va_K D cl tys s) (hP : hm_P D cl ca n sh B M L H) (i : Nat) (hi : i < n) {fl : List (Option Nat)} (hs : sh i = .inl (ci, fl)) (hc : cl[ci]? = some (C, T, N)) (k : Nat) (hk : k < N) (hlink : (Cond.fieldLink own index ref (T k).2.1 (T k).2.2.1).before args s = true) (hsame : ∀ x, s.fieldFound? (T k).1 (T k).2.1 (T k).2.2.1 = some x → s.fieldFound? ref (T k).2.1 (T k).2.2.1 = some x) {v : Value} (hv : (fl[k]?).map (hm_fv B (M i) k) = some v) (hdg : decode cc pc = .ok (.getfield index, 3))
    (kk : W p l e R s m args below meth c H locs cells slots Q (F0 m (pc + 3) ls (v :: rest))) : W p l e R s m args below meth c H locs cells slots Q (F0 m pc ls (.ref (B + i) :: rest)) :=
  va_get hexec hb hts hin hown hK hP i (hm_get_o hi hs) hc k hk hlink hsame (hm_fs_at.trans hv) hdg kk
theorem hq_getN (hexec : p.tables.exec = Jvm.exec) (hb : c.code = cc) {own ref C host : String} {T : u_T} {N ci index : Nat} {Ts : List Cond} (hts : ∀ w ∈ Ts, w.before args s = true) (hin : ∀ w ∈ u_ws C T N, w ∈ Ts) (hown : s.vm.findClass own = some m.cls) (hK : va_K D cl tys s) (hP : hm_P D cl ca n sh B M L H) (i : Nat) (hi : i < n) {fl : List (Option Nat)} (hs : sh i = .inl (ci, fl)) (hc : cl[ci]? = some (C, T, N)) (k : Nat) (hk : k < N) (hlink : (Cond.fieldLinkNest own index ref (T k).2.1 (T k).2.2.1 host).before args s = true) (hsame : ∀ x, s.fieldFound? (T k).1 (T k).2.1 (T k).2.2.1 = some x → s.fieldFound? ref (T k).2.1 (T k).2.2.1 = some x) {v : Value} (hv : (fl[k]?).map (hm_fv B (M i) k) = some v) (hdg : decode cc pc = .ok (.getfield index, 3))
    (kk : W p l e R s m args below meth c H locs cells slots Q (F0 m (pc + 3) ls (v :: rest))) : W p l e R s m args below meth c H locs cells slots Q (F0 m pc ls (.ref (B + i) :: rest)) :=
  va_getN hexec hb hts hin hown hK hP i (hm_get_o hi hs) hc k hk hlink hsame (hm_fs_at.trans hv) hdg kk
theorem hq_put (hexec : p.tables.exec = Jvm.exec) (hb : c.code = cc) {own ref C : String} {T : u_T} {N ci index : Nat} {Ts : List Cond} (hts : ∀ w ∈ Ts, w.before args s = true) (hin : ∀ w ∈ u_ws C T N, w ∈ Ts) (ty0 : Nat → FieldType) (hty : ∀ k, k < N → parseFieldDescriptor (T k).2.2.1 = some (ty0 k)) (hnm : ∀ a, a < N → ∀ b, b < N → a ≠ b → (T a).2.1 ≠ (T b).2.1) (hown : s.vm.findClass own = some m.cls) (hK : va_K D cl tys s) (hP : hm_P D cl ca n sh B M L H) (hS0 : va_S (hm_A B n) H0 H locs) (i : Nat) (hi : i < n) {fl : List (Option Nat)} (hs : sh i = .inl (ci, fl)) (hc : cl[ci]? = some (C, T, N)) (k : Nat) (hk : k < N) (hlink : (Cond.fieldLink own index ref (T k).2.1 (T k).2.2.1).before args s = true) (hsame : ∀ x, s.fieldFound? (T k).1 (T k).2.1 (T k).2.2.1 = some x → s.fieldFound? ref (T k).2.1 (T k).2.2.1 = some x) (hfin : (T k).2.2.2 = false) {ty : FieldType} {x : Int32} (hd : parseFieldDescriptor (T k).2.2.1 = some ty) (hn : narrow ty (.int x) = .int x) (hfit : fits ty (.int x) = true) (hf : fl[k]? = some none)
    (hdg : decode cc pc = .ok (.putfield index, 3)) (kk : ∀ (H1 : Heap) (locs1 : List Loc), hm_P D cl ca n sh B (hm_up M i k x) L H1 → va_S (hm_A B n) H0 H1 locs1 → W p l e R s m args below meth c H1 locs1 cells slots Q (F0 m (pc + 3) ls rest)) : W p l e R s m args below meth c H locs cells slots Q (F0 m pc ls (.int x :: .ref (B + i) :: rest)) :=
  va_put hexec hb hts hin ty0 hty hnm hown hK hP hm_D hS0 i (hm_get_o hi hs) hc k hk hlink hsame hfin hd hn hfit (by rw [hm_fs_len]; exact (List.getElem?_eq_some_iff.mp hf).1) hdg (fun H1 locs1 hP1 _ hS1 => kk H1 locs1 (by rw [hm_set_o hi hs hf] at hP1; exact hP1) hS1)
theorem hq_putN (hexec : p.tables.exec = Jvm.exec) (hb : c.code = cc) {own ref C host : String} {T : u_T} {N ci index : Nat} {Ts : List Cond} (hts : ∀ w ∈ Ts, w.before args s = true) (hin : ∀ w ∈ u_ws C T N, w ∈ Ts) (ty0 : Nat → FieldType) (hty : ∀ k, k < N → parseFieldDescriptor (T k).2.2.1 = some (ty0 k)) (hnm : ∀ a, a < N → ∀ b, b < N → a ≠ b → (T a).2.1 ≠ (T b).2.1) (hown : s.vm.findClass own = some m.cls) (hK : va_K D cl tys s) (hP : hm_P D cl ca n sh B M L H) (hS0 : va_S (hm_A B n) H0 H locs) (i : Nat) (hi : i < n) {fl : List (Option Nat)} (hs : sh i = .inl (ci, fl)) (hc : cl[ci]? = some (C, T, N)) (k : Nat) (hk : k < N) (hlink : (Cond.fieldLinkNest own index ref (T k).2.1 (T k).2.2.1 host).before args s = true) (hsame : ∀ x, s.fieldFound? (T k).1 (T k).2.1 (T k).2.2.1 = some x → s.fieldFound? ref (T k).2.1 (T k).2.2.1 = some x) (hfin : (T k).2.2.2 = false) {ty : FieldType} {x : Int32} (hd : parseFieldDescriptor (T k).2.2.1 = some ty) (hn : narrow ty (.int x) = .int x) (hfit : fits ty (.int x) = true) (hf : fl[k]? = some none)
    (hdg : decode cc pc = .ok (.putfield index, 3)) (kk : ∀ (H1 : Heap) (locs1 : List Loc), hm_P D cl ca n sh B (hm_up M i k x) L H1 → va_S (hm_A B n) H0 H1 locs1 → W p l e R s m args below meth c H1 locs1 cells slots Q (F0 m (pc + 3) ls rest)) : W p l e R s m args below meth c H locs cells slots Q (F0 m pc ls (.int x :: .ref (B + i) :: rest)) :=
  va_putN hexec hb hts hin ty0 hty hnm hown hK hP hm_D hS0 i (hm_get_o hi hs) hc k hk hlink hsame hfin hd hn hfit (by rw [hm_fs_len]; exact (List.getElem?_eq_some_iff.mp hf).1) hdg (fun H1 locs1 hP1 _ hS1 => kk H1 locs1 (by rw [hm_set_o hi hs hf] at hP1; exact hP1) hS1)
theorem hq_iald (hexec : p.tables.exec = Jvm.exec) (hb : c.code = cc) (hK : va_K D cl tys s) (hP : hm_P D cl ca n sh B M L H) (i : Nat) (hi : i < n) {t ln : Nat} (hs : sh i = .inr (t, ln, none)) (t0 : Nat) (ht : tys[t0]? = some (ca t, .int)) {x : Int32} (hin : hm_ix x ln = true) (hdg : decode cc pc = .ok (.iaload, 1))
    (kk : W p l e R s m args below meth c H locs cells slots Q (F0 m (pc + 1) ls (.int (M i x.toNatClampNeg) :: rest))) : W p l e R s m args below meth c H locs cells slots Q (F0 m pc ls (.int x :: .ref (B + i) :: rest)) :=
  va_iald hexec hb hK hP i t0 (hm_get_a hi hs) ht (hm_ix_in hin) hdg kk
theorem hq_zald (hexec : p.tables.exec = Jvm.exec) (hb : c.code = cc) (hK : va_K D cl tys s) (hP : hm_P D cl ca n sh B M L H) (i : Nat) (hi : i < n) {t ln : Nat} (hs : sh i = .inr (t, ln, none)) (t0 : Nat) (ht : tys[t0]? = some (ca t, .boolean)) {x : Int32} (hin : hm_ix x ln = true) (hdg : decode cc pc = .ok (.baload, 1))
    (kk : W p l e R s m args below meth c H locs cells slots Q (F0 m (pc + 1) ls (.int (M i x.toNatClampNeg) :: rest))) : W p l e R s m args below meth c H locs cells slots Q (F0 m pc ls (.int x :: .ref (B + i) :: rest)) :=
  va_zald hexec hb hK hP i t0 (hm_get_a hi hs) ht (hm_ix_in hin) hdg kk
theorem hq_aald (hexec : p.tables.exec = Jvm.exec) (hb : c.code = cc) (hK : va_K D cl tys s) (hP : hm_P D cl ca n sh B M L H) (i : Nat) (hi : i < n) {t ln : Nat} {g : Nat → Nat} (hs : sh i = .inr (t, ln, some (some g))) (t0 : Nat) {ty : FieldType} (ht : tys[t0]? = some (ca t, ty)) (hty : ty.isReference = true) {x : Int32} (hin : hm_ix x ln = true) (hdg : decode cc pc = .ok (.aaload, 1))
    (kk : W p l e R s m args below meth c H locs cells slots Q (F0 m (pc + 1) ls (.ref (B + g x.toNatClampNeg) :: rest))) : W p l e R s m args below meth c H locs cells slots Q (F0 m pc ls (.int x :: .ref (B + i) :: rest)) := by
  have hin2 := hm_ix_in hin
  have hlt : x.toNatClampNeg < ln := Nat.not_le.mp fun q => hin2 (Or.inr q)
  exact W.aald (v := .ref (B + g x.toNatClampNeg)) (ty := ty) hexec hb (hP i _ (hm_get_r hi hs)) ((hK.2 t0 _ ht).1 ln (fun j => va_rf (some (B + g j)))) hty (fun q => by cases q) (by show ¬ (x < 0 ∨ (arrV _ _ _).slots.size ≤ _); rw [arrV_size]; exact hin2) (by show (arrV _ _ _).slots[_]? = _; rw [arrV_read _ _ hlt]; rfl) rfl rfl hdg kk
theorem hq_alen (hexec : p.tables.exec = Jvm.exec) (hb : c.code = cc) (hK : va_K D cl tys s) (hP : hm_P D cl ca n sh B M L H) (i : Nat) (hi : i < n) {t ln : Nat} (hs : sh i = .inr (t, ln, none)) (t0 : Nat) {ty : FieldType} (ht : tys[t0]? = some (ca t, ty)) {v : Int32} (hv : Int32.ofNat ln = v) (hdg : decode cc pc = .ok (.arraylength, 1))
    (kk : W p l e R s m args below meth c H locs cells slots Q (F0 m (pc + 1) ls (.int v :: rest))) : W p l e R s m args below meth c H locs cells slots Q (F0 m pc ls (.ref (B + i) :: rest)) :=
  va_alen hexec hb hK hP i t0 (hm_get_a hi hs) ht hv hdg kk
theorem hq_iast (hexec : p.tables.exec = Jvm.exec) (hb : c.code = cc) (hK : va_K D cl tys s) (hP : hm_P D cl ca n sh B M L H) (hS0 : va_S (hm_A B n) H0 H locs) (i : Nat) (hi : i < n) {t ln : Nat} (hs : sh i = .inr (t, ln, none)) (t0 : Nat) (ht : tys[t0]? = some (ca t, .int)) {x y : Int32} (hin : hm_ix x ln = true) (hdg : decode cc pc = .ok (.iastore, 1))
    (kk : ∀ (H1 : Heap) (locs1 : List Loc), hm_P D cl ca n sh B (hm_up M i x.toNatClampNeg y) L H1 → va_S (hm_A B n) H0 H1 locs1 → W p l e R s m args below meth c H1 locs1 cells slots Q (F0 m (pc + 1) ls rest)) : W p l e R s m args below meth c H locs cells slots Q (F0 m pc ls (.int y :: .int x :: .ref (B + i) :: rest)) :=
  va_iast hexec hb hK hP hm_D hS0 i t0 (hm_get_a hi hs) ht (hm_ix_in hin) hdg (fun H1 locs1 hP1 _ hS1 => kk H1 locs1 (by rw [hm_set_a hi hs] at hP1; exact hP1) hS1)
theorem hq_nb {y : Int32} (h : y = 0 ∨ y = 1) : vp_nar .boolean y = y := by
  rcases h with rfl | rfl <;> rfl
theorem hq_nb2 {y : Int32} (h : y = 0 ∨ y = 1) : narrow .boolean (.int y) = .int y := by
  rcases h with rfl | rfl <;> rfl
theorem hq_nb3 {y : Int32} (h : y = 0 ∨ y = 1) : fits .boolean (.int y) = true := by
  rcases h with rfl | rfl <;> rfl
theorem hq_zast (hexec : p.tables.exec = Jvm.exec) (hb : c.code = cc) (hK : va_K D cl tys s) (hP : hm_P D cl ca n sh B M L H) (hS0 : va_S (hm_A B n) H0 H locs) (i : Nat) (hi : i < n) {t ln : Nat} (hs : sh i = .inr (t, ln, none)) (t0 : Nat) (ht : tys[t0]? = some (ca t, .boolean)) {x y : Int32} (hin : hm_ix x ln = true) (hy : y = 0 ∨ y = 1) (hdg : decode cc pc = .ok (.bastore, 1))
    (kk : ∀ (H1 : Heap) (locs1 : List Loc), hm_P D cl ca n sh B (hm_up M i x.toNatClampNeg y) L H1 → va_S (hm_A B n) H0 H1 locs1 → W p l e R s m args below meth c H1 locs1 cells slots Q (F0 m (pc + 1) ls rest)) : W p l e R s m args below meth c H locs cells slots Q (F0 m pc ls (.int y :: .int x :: .ref (B + i) :: rest)) :=
  va_zast hexec hb hK hP hm_D hS0 i t0 (hm_get_a hi hs) ht (hm_ix_in hin) hdg (fun H1 locs1 hP1 _ hS1 => kk H1 locs1 (by rw [hq_nb hy, hm_set_a hi hs] at hP1; exact hP1) hS1)
theorem hq_alenl (hexec : p.tables.exec = Jvm.exec) (hb : c.code = cc) (hK : va_K D cl tys s) (hP : hm_P D cl ca n sh B M L H) (i : Nat) (hi : i < n) {t ln : Nat} (hs : sh i = .inr (t, ln, some none)) (t0 : Nat) {ty : FieldType} (ht : tys[t0]? = some (ca t, ty)) {v : Int32} (hv : Int32.ofNat ln = v) (hdg : decode cc pc = .ok (.arraylength, 1))
    (kk : W p l e R s m args below meth c H locs cells slots Q (F0 m (pc + 1) ls (.int v :: rest))) : W p l e R s m args below meth c H locs cells slots Q (F0 m pc ls (.ref (B + i) :: rest)) :=
  va_alen hexec hb hK hP i t0 (hm_get_l hi hs) ht hv hdg kk
theorem hq_lald (hexec : p.tables.exec = Jvm.exec) (hb : c.code = cc) (hK : va_K D cl tys s) (hP : hm_P D cl ca n sh B M L H) (i : Nat) (hi : i < n) {t ln : Nat} (hs : sh i = .inr (t, ln, some none)) (t0 : Nat) (ht : tys[t0]? = some (ca t, .long)) {x : Int32} (hin : hm_ix x ln = true) (hdg : decode cc pc = .ok (.laload, 1))
    (kk : W p l e R s m args below meth c H locs cells slots Q (F0 m (pc + 1) ls (.long (L i x.toNatClampNeg) :: rest))) : W p l e R s m args below meth c H locs cells slots Q (F0 m pc ls (.int x :: .ref (B + i) :: rest)) :=
  va_lald hexec hb hK hP i t0 (hm_get_l hi hs) ht (hm_ix_in hin) hdg kk
theorem hq_last (hexec : p.tables.exec = Jvm.exec) (hb : c.code = cc) (hK : va_K D cl tys s) (hP : hm_P D cl ca n sh B M L H) (hS0 : va_S (hm_A B n) H0 H locs) (i : Nat) (hi : i < n) {t ln : Nat} (hs : sh i = .inr (t, ln, some none)) (t0 : Nat) (ht : tys[t0]? = some (ca t, .long)) {x : Int32} {y : Int64} (hin : hm_ix x ln = true) (hdg : decode cc pc = .ok (.lastore, 1))
    (kk : ∀ (H1 : Heap) (locs1 : List Loc), hm_P D cl ca n sh B M (hm_lup L i x.toNatClampNeg y) H1 → va_S (hm_A B n) H0 H1 locs1 → W p l e R s m args below meth c H1 locs1 cells slots Q (F0 m (pc + 1) ls rest)) : W p l e R s m args below meth c H locs cells slots Q (F0 m pc ls (.long y :: .int x :: .ref (B + i) :: rest)) :=
  va_last hexec hb hK hP hm_D hS0 i t0 (hm_get_l hi hs) ht (hm_ix_in hin) hdg (fun H1 locs1 hP1 _ hS1 => kk H1 locs1 (by rw [hm_set_l hi hs] at hP1; exact hP1) hS1)
/-! calls -/
theorem hq_callI {r : Int32} {a : Array Value} (hr : va_Run p l e R s m args below meth c H locs cells slots 0 0 (F0 m pc ls st0) rest (hq_QI D cl ca n sh B r M1 L1 a) (hm_A B n)) (hS : va_S (hm_A B n) H0 H locs)
    (kk : ∀ (H1 : Heap) (locs1 : List Loc), hm_P D cl ca n sh B M1 L1 H1 → va_S (hm_A B n) H0 H1 locs1 → W p l e R s m args below meth c H1 locs1 cells slots Q (F0 m (pc + 3) ls (.int r :: rest))) : W p l e R s m args below meth c H locs cells slots Q (F0 m pc ls st0) :=
  va_calli hr hS (fun _ _ h => h) (fun _ h => h) (fun r' u t H1 locs1 ht _ hw hB _ _ hS1 => by
    subst hw
    subst ht
    exact kk _ _ hB hS1)
theorem hq_callL {r : Int64} {a : Array Value} (hr : va_Run p l e R s m args below meth c H locs cells slots 0 0 (F0 m pc ls st0) rest (hq_QL D cl ca n sh B r M1 L1 a) (hm_A B n)) (hS : va_S (hm_A B n) H0 H locs)
    (kk : ∀ (H1 : Heap) (locs1 : List Loc), hm_P D cl ca n sh B M1 L1 H1 → va_S (hm_A B n) H0 H1 locs1 → W p l e R s m args below meth c H1 locs1 cells slots Q (F0 m (pc + 3) ls (.long r :: rest))) : W p l e R s m args below meth c H locs cells slots Q (F0 m pc ls st0) :=
  va_calll hr hS (fun _ _ h => h) (fun _ h => h) (fun r' u t H1 locs1 ht _ hw hB _ _ hS1 => by
    subst hw
    subst ht
    exact kk _ _ hB hS1)
theorem hq_callV {a : Array Value} (hr : va_Run p l e R s m args below meth c H locs cells slots 0 0 (F0 m pc ls st0) rest (hq_QV D cl ca n sh B M1 L1 a) (hm_A B n)) (hS : va_S (hm_A B n) H0 H locs)
    (kk : ∀ (H1 : Heap) (locs1 : List Loc), hm_P D cl ca n sh B M1 L1 H1 → va_S (hm_A B n) H0 H1 locs1 → W p l e R s m args below meth c H1 locs1 cells slots Q (F0 m (pc + 3) ls rest)) : W p l e R s m args below meth c H locs cells slots Q (F0 m pc ls st0) :=
  va_callv hr hS (fun _ _ h => h) (fun _ h => h) (fun u t H1 locs1 ht _ _ hB _ _ hS1 => by
    subst ht
    exact kk _ _ hB hS1)
theorem hq_blind {vs : List Value} : FrameBlind (hq_Pre D cl ca n sh B tys tb M L vs) := fun _ _ _ _ q => ⟨q.1, q.2.1, q.2.2.calling⟩
theorem hq_preV {C : String} {T : u_T} {N ci i : Nat} {fl : List (Option Nat)} {As : List Value} (hK : hq_K D cl tys tb s) (hP : hm_P D cl ca n sh B M L H) (hi : i < n) (hs : sh i = .inl (ci, fl)) (hc : cl[ci]? = some (C, T, N)) : PreV s H C (B + i) (hq_Pre D cl ca n sh B tys tb M L (.ref (B + i) :: As)) As :=
  ⟨hq_blind, va_recv hK.1 hP hc (hm_get_o hi hs), fun U hU hW => ⟨rfl, by rw [hU]; exact hP, hK.moved hW⟩⟩
theorem hq_preS {As : List Value} (hK : hq_K D cl tys tb s) (hP : hm_P D cl ca n sh B M L H) : PreS s H (hq_Pre D cl ca n sh B tys tb M L As) As :=
  ⟨hq_blind, fun U hU hW => ⟨rfl, by rw [hU]; exact hP, hK.moved hW⟩⟩
theorem hq_cwV {own C : String} {index maxL nn : Nat} {y : MethodName} {bytes : ByteArray} {ret : Option FieldType} {rm : Room} (hts : ∀ w ∈ tb, w.before args s = true) (hcode : Cond.code y bytes maxL ret ∈ tb) (hini : Cond.initialized y.cls ∈ tb) (hlink : Cond.methodLink own index y ∈ tb) (hin : Cond.instanceMethod y ∈ tb) (hsel : Cond.selects C y y ∈ tb)
    (hd : y.cls ≠ "java/lang/invoke/MethodHandle" ∧ y.cls ≠ "java/lang/invoke/VarHandle" ∧ (parseMethodDescriptor y.desc).map (fun d => d.parameters.length) = some nn) (hc : rm.cells = 0) (hs : rm.slots = 0) (hR : rm.frames + 1 ≤ R.frames ∧ 8 + (maxL + 11) + rm.locals ≤ R.locals) :
    CallW R s args own C index y bytes maxL ret [Cond.code y bytes maxL ret] rm 0 0 nn :=
  ⟨callB_of nn hts (fun w hw => by
    rw [List.mem_singleton.mp hw]
    exact ⟨hcode, Or.inl rfl⟩) rfl hc hs (hts _ hini) (hts _ hlink) hd hR, hts _ hin, hts _ hsel⟩
theorem hq_cwN {own C host : String} {index maxL nn : Nat} {y : MethodName} {bytes : ByteArray} {ret : Option FieldType} {rm : Room} (hts : ∀ w ∈ tb, w.before args s = true) (hcode : Cond.code y bytes maxL ret ∈ tb) (hini : Cond.initialized y.cls ∈ tb) (hlink : Cond.methodLinkNest own index y host ∈ tb) (hin : Cond.instanceMethod y ∈ tb) (hsel : Cond.selects C y y ∈ tb)
    (hd : y.cls ≠ "java/lang/invoke/MethodHandle" ∧ y.cls ≠ "java/lang/invoke/VarHandle" ∧ (parseMethodDescriptor y.desc).map (fun d => d.parameters.length) = some nn) (hc : rm.cells = 0) (hs : rm.slots = 0) (hR : rm.frames + 1 ≤ R.frames ∧ 8 + (maxL + 11) + rm.locals ≤ R.locals) :
    va_CN R s args own index y host bytes maxL ret [Cond.code y bytes maxL ret] rm 0 0 nn ∧ (Cond.instanceMethod y).before args s = true ∧ (Cond.selects C y y).before args s = true :=
  ⟨va_cnB nn hts (fun w hw => by
    rw [List.mem_singleton.mp hw]
    exact ⟨hcode, Or.inl rfl⟩) rfl hc hs (va_Nw.of rfl (hts _ hlink)) (hts _ hini) hd hR, hts _ hin, hts _ hsel⟩
theorem hq_cwS {own : String} {index maxL nn : Nat} {y : MethodName} {bytes : ByteArray} {ret : Option FieldType} {rm : Room} (hts : ∀ w ∈ tb, w.before args s = true) (hcode : Cond.code y bytes maxL ret ∈ tb) (hini : Cond.initialized y.cls ∈ tb) (hlink : Cond.methodLink own index y ∈ tb) (hst : Cond.static y ∈ tb)
    (hd : y.cls ≠ "java/lang/invoke/MethodHandle" ∧ y.cls ≠ "java/lang/invoke/VarHandle" ∧ (parseMethodDescriptor y.desc).map (fun d => d.parameters.length) = some nn) (hc : rm.cells = 0) (hs : rm.slots = 0) (hR : rm.frames + 1 ≤ R.frames ∧ 8 + (maxL + 11) + rm.locals ≤ R.locals) :
    CallB R s args own index y bytes maxL ret [Cond.code y bytes maxL ret] rm 0 0 nn ∧ (Cond.static y).before args s = true :=
  ⟨callB_of nn hts (fun w hw => by
    rw [List.mem_singleton.mp hw]
    exact ⟨hcode, Or.inl rfl⟩) rfl hc hs (hts _ hini) (hts _ hlink) hd hR, hts _ hst⟩
end HQ
end
section
/-! A WORLD THAT GROWS: all cells from B on, c of them, E i the i-th; what a constructor makes lies next behind -/
def hg_W (D : va_G) (cl : List vw_C) (B c : Nat) (E : Nat → va_E) (H : Heap) : Prop := (∀ i, i < c → va_at D cl (B + i, E i) H) ∧ H.size = B + c
def hg_A (B : Nat) : Nat → Prop := fun q => B ≤ q
theorem hg_push {D : va_G} {cl : List vw_C} {B c : Nat} {E : Nat → va_E} {H H1 : Heap} {e : va_E} (h : hg_W D cl B c E H) (h1 : va_at D cl (B + c, e) H1) (z : H1.size = H.size + 1) (o : ∀ q, q < H.size → H1[q]? = H[q]?) : hg_W D cl B (c + 1) (va_up E c e) H1 := by
  refine ⟨fun i hi => ?_, by rw [z, h.2]; omega⟩
  by_cases hic : i = c
  · subst hic
    rw [va_up_self]
    exact h1
  · rw [va_up_ne _ _ hic]
    exact (h.1 i (by omega)).kept (o _ (by rw [h.2]; show B + i < B + c; omega))
theorem hg_set {D : va_G} {cl : List vw_C} {B c i : Nat} {E : Nat → va_E} {H H1 : Heap} {e : va_E} (h : hg_W D cl B c E H) (h1 : va_at D cl (B + i, e) H1) (z : H1.size = H.size) (o : ∀ q, q ≠ B + i → H1[q]? = H[q]?) : hg_W D cl B c (va_up E i e) H1 := by
  refine ⟨fun j hj => ?_, by rw [z, h.2]⟩
  by_cases hic : j = i
  · subst hic
    rw [va_up_self]
    exact h1
  · rw [va_up_ne _ _ hic]
    exact (h.1 j hj).kept (o _ (by show B + j ≠ B + i; omega))
section HG
variable {p : Program} {l : Launch} {e : Env} {R : Room} {s : State} {m : MethodId} {args : Array Value} {below : List Frame} {meth : Method} {c : Code} {H : Heap} {locs : List Loc} {cells slots : Nat} {Q : State → Prop}
variable {cc : ByteArray} {pc : Nat} {ls : Array Slot} {rest st0 : List Value} {D : va_G} {cl : List vw_C} {tys : List (ClassId × FieldType)} {H0 : Heap} {ca : Nat → ClassId} {B k0 : Nat} {E : Nat → va_E}
theorem hg_new (hexec : p.tables.exec = Jvm.exec) (hb : c.code = cc) {own C : String} {T : u_T} {N ci index : Nat} {Ts : List Cond} (hts : ∀ w ∈ Ts, w.before args s = true) (hin : ∀ w ∈ u_ws C T N, w ∈ Ts) (ty : Nat → FieldType) (hty : ∀ k, k < N → parseFieldDescriptor (T k).2.2.1 = some (ty k)) (hown : s.vm.findClass own = some m.cls) (hcl : (Cond.classLink own index C).before args s = true) (hinst : (Cond.instantiable C N).before args s = true) (hini : (Cond.initialized C).before args s = true)
    (hK : va_K D cl tys s) (hW : hg_W D cl B k0 E H) (hS : va_S (hg_A B) H0 H locs) (hc : cl[ci]? = some (C, T, N)) {fs : List Value} (hfs : ∀ j, j < N → defaultValue (ty j) = vp_V fs j) (hcells : cells + 1 ≤ R.cells) (hslots : slots + N ≤ R.slots) (hdg : decode cc pc = .ok (.new index, 3))
    (kk : ∀ (H1 : Heap), hg_W D cl B (k0 + 1) (va_up E k0 (.inr (ci, fs))) H1 → va_S (hg_A B) H0 H1 locs → W p l e R s m args below meth c H1 locs (cells + 1) (slots + N) Q (F0 m (pc + 3) ls (.ref (B + k0) :: rest))) : W p l e R s m args below meth c H locs cells slots Q (F0 m pc ls rest) := by
  have hKn := hK.1 ci _ hc
  refine W.newcK hexec hb hown hcl hinst hini rfl hdg hcells hslots hKn.2.1 hW.2 fun H1 kC hkC e1 z1 o1 => ?_
  refine kk H1 (hg_push hW ⟨_, hc, (u_born ty hts hin hKn hkC e1 hty).to hfs⟩ (by rw [z1, hW.2]) (fun q hq => o1 q (by rw [← hW.2]; exact hq))) ⟨Nat.le_trans hS.1 (by rw [z1, hW.2]; omega), fun x h1 h2 => (o1 x (by rw [← hW.2]; exact Nat.lt_of_lt_of_le h1 hS.1)).trans (hS.2.1 x h1 h2), hS.2.2⟩
theorem hg_newa (hexec : p.tables.exec = Jvm.exec) (hb : c.code = cc) {atype : ArrayType} (harr : (Cond.arrayClass (newarray.typeOf atype)).before args s = true) {ty : FieldType} (hty : newarray.typeOf atype = ty) {t : Nat} (hca : s.vm.findClass ("[" ++ ty.toString) = some (ca t)) (hd : defaultValue ty = .int 0) (hW : hg_W D cl B k0 E H) (hS : va_S (hg_A B) H0 H locs)
    {n : Int32} {N' : Nat} (hn : ¬ n < 0) (hN : n.toNatClampNeg = N') (hbytes : N' * componentBytes ty ≤ 536870912) (hcells : cells + 1 ≤ R.cells) (hslots : slots + N' ≤ R.slots) (hdg : decode cc pc = .ok (.newarray atype, 2))
    (kk : ∀ (H1 : Heap), hg_W D cl B (k0 + 1) (va_up E k0 (.inl (ca t, N', .inl (fun _ => 0)))) H1 → va_S (hg_A B) H0 H1 locs → W p l e R s m args below meth c H1 locs (cells + 1) (slots + N') Q (F0 m (pc + 2) ls (.ref (B + k0) :: rest))) : W p l e R s m args below meth c H locs cells slots Q (F0 m pc ls (.int n :: rest)) := by
  subst hty
  refine va_newaK hexec hb harr rfl hdg rfl hn hN hbytes hcells hslots hW.2 fun H1 cA e1 z1 o1 hAr hNm => ?_
  have ec : cA = ca t := Option.some.inj (hNm.symm.trans hca)
  subst ec
  refine kk H1 (hg_push hW (show H1[B + k0]? = some (vp_cell (ca t) (N', .inl (fun _ => 0))) by rw [e1, vp_cell_i, hd]) (by rw [z1, hW.2]) (fun q hq => o1 q (by rw [← hW.2]; exact hq))) ⟨Nat.le_trans hS.1 (by rw [z1, hW.2]; omega), fun x h1 h2 => (o1 x (by rw [← hW.2]; exact Nat.lt_of_lt_of_le h1 hS.1)).trans (hS.2.1 x h1 h2), hS.2.2⟩
theorem hg_newq (hexec : p.tables.exec = Jvm.exec) (hb : c.code = cc) {own C : String} {index : Nat} (hown : s.vm.findClass own = some m.cls) (hclink : (Cond.classLink own index C).before args s = true) (hover : (Cond.arrayOver (.object C)).before args s = true) {t : Nat} (hca : s.vm.findClass ("[" ++ (FieldType.object C).toString) = some (ca t)) (hW : hg_W D cl B k0 E H) (hS : va_S (hg_A B) H0 H locs)
    {n : Int32} {N' : Nat} (hn : ¬ n < 0) (hN : n.toNatClampNeg = N') (hbytes : N' * 4 ≤ 536870912) (hcells : cells + 1 ≤ R.cells) (hslots : slots + N' ≤ R.slots) (hdg : decode cc pc = .ok (.anewarray index, 3))
    (kk : ∀ (H1 : Heap), hg_W D cl B (k0 + 1) (va_up E k0 (.inl (ca t, N', .inr (.inr (.inr (.inr (fun _ => none))))))) H1 → va_S (hg_A B) H0 H1 locs → W p l e R s m args below meth c H1 locs (cells + 1) (slots + N') Q (F0 m (pc + 3) ls (.ref (B + k0) :: rest))) : W p l e R s m args below meth c H locs cells slots Q (F0 m pc ls (.int n :: rest)) := by
  subst hN
  refine W.anew hexec hb hown hclink hover rfl hdg rfl hn hbytes hcells hslots fun cA kA comp f1 f2 f3 f4 => ?_
  have ec : cA = ca t := Option.some.inj (f1.symm.trans hca)
  subst ec
  rw [hW.2]
  generalize hH1 : H.push ({ cls := ca t, slots := Array.replicate n.toNatClampNeg .null, vm := .none } : Cell) = H1
  have z1 : H1.size = H.size + 1 := by rw [← hH1, Array.size_push]
  have e1 : H1[B + k0]? = some (arrV (ca t) n.toNatClampNeg (fun _ => .null)) := by rw [← hH1, ← hW.2, Array.getElem?_push_size, ← arrV_new]
  have o1 : ∀ q : Nat, q < H.size → H1[q]? = H[q]? := fun q hq => by rw [← hH1, Array.getElem?_push, if_neg (Nat.ne_of_lt hq)]
  refine kk H1 (hg_push hW (show H1[B + k0]? = some (vp_cell (ca t) (n.toNatClampNeg, .inr (.inr (.inr (.inr (fun _ => none)))))) by rw [e1, vp_cell_q]; rfl) z1 o1) ⟨Nat.le_trans hS.1 (by omega), fun x h1 h2 => (o1 x (Nat.lt_of_lt_of_le h1 hS.1)).trans (hS.2.1 x h1 h2), hS.2.2⟩
theorem hg_get (hexec : p.tables.exec = Jvm.exec) (hb : c.code = cc) {own ref C : String} {T : u_T} {N ci index : Nat} {Ts : List Cond} (hts : ∀ w ∈ Ts, w.before args s = true) (hin : ∀ w ∈ u_ws C T N, w ∈ Ts) (hown : s.vm.findClass own = some m.cls) (hK : va_K D cl tys s) (hW : hg_W D cl B k0 E H) (i : Nat) (hi : i < k0) {fs : List Value} (hE : E i = .inr (ci, fs)) (hc : cl[ci]? = some (C, T, N)) (k : Nat) (hk : k < N) (hlink : (Cond.fieldLink own index ref (T k).2.1 (T k).2.2.1).before args s = true) (hsame : ∀ x, s.fieldFound? (T k).1 (T k).2.1 (T k).2.2.1 = some x → s.fieldFound? ref (T k).2.1 (T k).2.2.1 = some x) {v : Value} (hv : fs[k]? = some v) (hdg : decode cc pc = .ok (.getfield index, 3))
    (kk : W p l e R s m args below meth c H locs cells slots Q (F0 m (pc + 3) ls (v :: rest))) : W p l e R s m args below meth c H locs cells slots Q (F0 m pc ls (.ref (B + i) :: rest)) :=
  va_get (ws := [(B + i, .inr (ci, fs))]) hexec hb hts hin hown hK (fun j q hq => by
    have hj : j < 1 := (List.getElem?_eq_some_iff.mp hq).1
    rw [show j = 0 by omega] at hq
    cases hq
    have := hW.1 i hi
    rw [hE] at this
    exact this) 0 rfl hc k hk hlink hsame hv hdg kk
theorem hg_putF (hexec : p.tables.exec = Jvm.exec) (hb : c.code = cc) {own ref C : String} {T : u_T} {N ci index : Nat} {Ts : List Cond} (hts : ∀ w ∈ Ts, w.before args s = true) (hin : ∀ w ∈ u_ws C T N, w ∈ Ts) (ty0 : Nat → FieldType) (hty : ∀ k, k < N → parseFieldDescriptor (T k).2.2.1 = some (ty0 k)) (hnm : ∀ a, a < N → ∀ b, b < N → a ≠ b → (T a).2.1 ≠ (T b).2.1) (hown : s.vm.findClass own = some m.cls) (hK : va_K D cl tys s) (hW : hg_W D cl B k0 E H) (hS0 : va_S (hg_A B) H0 H locs) (i : Nat) (hi : i < k0) {fs : List Value} (hE : E i = .inr (ci, fs)) (hc : cl[ci]? = some (C, T, N)) (k : Nat) (hk : k < N) (hlink : (Cond.fieldLink own index ref (T k).2.1 (T k).2.2.1).before args s = true) (hsame : ∀ x, s.fieldFound? (T k).1 (T k).2.1 (T k).2.2.1 = some x → s.fieldFound? ref (T k).2.1 (T k).2.2.1 = some x) (hfin : (T k).2.2.2 = true) (hin2 : meth.name = "<init>") (hdecl : (T k).1 = own) {ty : FieldType} {v : Value} (hd : parseFieldDescriptor (T k).2.2.1 = some ty) (hn : narrow ty v = v) (hfit : fits ty v = true) (hl : k < fs.length)
    (hdg : decode cc pc = .ok (.putfield index, 3)) (kk : ∀ (H1 : Heap) (locs1 : List Loc), hg_W D cl B k0 (va_up E i (.inr (ci, fs.set k v))) H1 → va_S (hg_A B) H0 H1 locs1 → W p l e R s m args below meth c H1 locs1 cells slots Q (F0 m (pc + 3) ls rest)) : W p l e R s m args below meth c H locs cells slots Q (F0 m pc ls (v :: .ref (B + i) :: rest)) := by
  have hap := va_apart (own := own) hts hin ty0 hty hnm hK hc
  have h0 := hW.1 i hi
  rw [hE] at h0
  obtain ⟨r, h1, cell, q1, q2, q3, q4⟩ := h0
  have hr : r = (C, T, N) := Option.some.inj (h1.symm.trans hc)
  subst hr
  obtain ⟨hS, hfc, kC, hkC, hkind⟩ := hK.1 ci _ hc
  obtain ⟨cf, kf, fi, f, hi2, hsl⟩ := hS k hk
  have hlay := hts _ (hin _ (u_in_lay hk))
  unfold u_lay at hlay
  rw [if_pos hfin] at hlay
  have hst := (u_facts hfc hkC (u_lays hts hin hk) hi2).1
  have hcf : m.cls = cf := by
    obtain ⟨_, _, c', _, _, _, -, -, hf', -, -, -, hown2, -⟩ := Cond.laysFinal_spec hlay
    have e1 : c' = cf := by have := hi2.symm.trans hf'; simp at this; exact this.1.symm
    rw [hdecl] at hown2
    rw [← e1]; exact Option.some.inj (hown.symm.trans hown2)
  have h6 := u_fits hfc hkC hkind (Or.inr hlay) hi2 hd hn hfit
  refine W.putFinK hexec hb hown hlink (hsame _ hi2) hst hcf hin2 (by rw [q2]; exact h6) q1 q3 (by rw [hsl]; exact k2_hasslot (q4 k hk)) rfl rfl hdg fun H' e1 e2 e3 => ?_
  rw [hsl] at e1 ⊢
  exact kk H' _ (hg_set hW ⟨_, hc, t_OB.to (V := updV (vp_V fs) k v) ⟨_, e1, q2, q3, t_set q4 hap hk v⟩ (fun j _ => vp_updV_set hl v j)⟩ e2 e3) (hS0.put e2 e3 (Nat.le_add_right B i))
theorem hg_put (hexec : p.tables.exec = Jvm.exec) (hb : c.code = cc) {own ref C : String} {T : u_T} {N ci index : Nat} {Ts : List Cond} (hts : ∀ w ∈ Ts, w.before args s = true) (hin : ∀ w ∈ u_ws C T N, w ∈ Ts) (ty0 : Nat → FieldType) (hty : ∀ k, k < N → parseFieldDescriptor (T k).2.2.1 = some (ty0 k)) (hnm : ∀ a, a < N → ∀ b, b < N → a ≠ b → (T a).2.1 ≠ (T b).2.1) (hown : s.vm.findClass own = some m.cls) (hK : va_K D cl tys s) (hW : hg_W D cl B k0 E H) (hS0 : va_S (hg_A B) H0 H locs) (i : Nat) (hi : i < k0) {fs : List Value} (hE : E i = .inr (ci, fs)) (hc : cl[ci]? = some (C, T, N)) (k : Nat) (hk : k < N) (hlink : (Cond.fieldLink own index ref (T k).2.1 (T k).2.2.1).before args s = true) (hsame : ∀ x, s.fieldFound? (T k).1 (T k).2.1 (T k).2.2.1 = some x → s.fieldFound? ref (T k).2.1 (T k).2.2.1 = some x) (hfin : (T k).2.2.2 = false) {ty : FieldType} {v : Value} (hd : parseFieldDescriptor (T k).2.2.1 = some ty) (hn : narrow ty v = v) (hfit : fits ty v = true) (hl : k < fs.length)
    (hdg : decode cc pc = .ok (.putfield index, 3)) (kk : ∀ (H1 : Heap) (locs1 : List Loc), hg_W D cl B k0 (va_up E i (.inr (ci, fs.set k v))) H1 → va_S (hg_A B) H0 H1 locs1 → W p l e R s m args below meth c H1 locs1 cells slots Q (F0 m (pc + 3) ls rest)) : W p l e R s m args below meth c H locs cells slots Q (F0 m pc ls (v :: .ref (B + i) :: rest)) := by
  have hap := va_apart (own := own) hts hin ty0 hty hnm hK hc
  have h0 := hW.1 i hi
  rw [hE] at h0
  obtain ⟨r, h1, cell, q1, q2, q3, q4⟩ := h0
  have hr : r = (C, T, N) := Option.some.inj (h1.symm.trans hc)
  subst hr
  obtain ⟨hS, hfc, kC, hkC, hkind⟩ := hK.1 ci _ hc
  obtain ⟨cf, kf, fi, f, hi2, hsl⟩ := hS k hk
  have hlay := hts _ (hin _ (u_in_lay hk))
  unfold u_lay at hlay
  rw [if_neg (by rw [hfin]; decide)] at hlay
  have hst := (u_facts hfc hkC (u_lays hts hin hk) hi2).1
  have h6 := u_store hfc hkC hkind hlay hi2 hd hn hfit
  refine W.putK hexec hb (f := f) ⟨hown, hlink, ⟨_, _, _, hsame _ hi2⟩, hst⟩ (by rw [q2]; exact h6) q1 q3 (by rw [hsl]; exact k2_hasslot (q4 k hk)) rfl rfl hdg fun H' e1 e2 e3 => ?_
  rw [hsl] at e1 ⊢
  exact kk H' _ (hg_set hW ⟨_, hc, t_OB.to (V := updV (vp_V fs) k v) ⟨_, e1, q2, q3, t_set q4 hap hk v⟩ (fun j _ => vp_updV_set hl v j)⟩ e2 e3) (hS0.put e2 e3 (Nat.le_add_right B i))
theorem hg_aast (hexec : p.tables.exec = Jvm.exec) (hb : c.code = cc) (hK : va_K D cl tys s) (hW : hg_W D cl B k0 E H) (hS : va_S (hg_A B) H0 H locs) (i t0 j ci : Nat) (hi : i < k0) (hj : j < k0) {cA : ClassId} {r : vw_C} {n : Nat} {vs : List Value} {f : Nat → Option Nat} (hE : E i = .inl (cA, n, .inr (.inr (.inr (.inr f))))) (ht : tys[t0]? = some (cA, .object r.1)) (hv : E j = .inr (ci, vs)) (hc : cl[ci]? = some r) {x : Int32} (hin : hm_ix x n = true) (hdg : decode cc pc = .ok (.aastore, 1))
    (kk : ∀ (H1 : Heap) (locs1 : List Loc), hg_W D cl B k0 (va_up E i (.inl (cA, n, .inr (.inr (.inr (.inr (va_up f x.toNatClampNeg (some (B + j))))))))) H1 → va_S (hg_A B) H0 H1 locs1 → W p l e R s m args below meth c H1 locs1 cells slots Q (F0 m (pc + 1) ls rest)) : W p l e R s m args below meth c H locs cells slots Q (F0 m pc ls (.ref (B + j) :: .int x :: .ref (B + i) :: rest)) := by
  have hin2 := hm_ix_in hin
  have hlt : x.toNatClampNeg < n := Nat.not_le.mp fun q => hin2 (Or.inr q)
  have h0 : ¬ x < 0 := fun q => hin2 (Or.inl q)
  have hvj := hW.1 j hj
  have hai := hW.1 i hi
  rw [hv] at hvj
  rw [hE] at hai
  obtain ⟨r', hr', cellV, g1, g2, g3, -⟩ := hvj
  have hcls := (hK.1 ci r hc).2
  obtain ⟨kA, comp, k1, k2, k3, -⟩ := (hK.2 t0 _ ht).2
  have hcomp : comp = D.1 ci := Option.some.inj (k3.symm.trans hcls.1)
  subst hcomp
  obtain ⟨kC, hkC, -⟩ := hcls.2
  refine W.aast hexec hb hai (fun q h => by cases h) (fun h => by cases h) k1 k2 rfl hkC ⟨h0, by show _ < (arrV _ _ _).slots.size; rw [arrV_size]; exact hlt⟩ g1 (fun q h => by rw [g3] at h; cases h) (by rw [g2]; exact hkC) (by rw [g2]; exact va_assign hcls) rfl rfl hdg fun H1 e z oq => ?_
  refine kk H1 _ (hg_set hW ?_ z oq) (hS.put z oq (Nat.le_add_right B i))
  show H1[B + i]? = some (vp_cell _ _)
  rw [e]
  rw [vp_cell_q, vp_cell_q, arrV_store]
  congr 2
  funext q
  by_cases hq : q = x.toNatClampNeg
  · subst hq
    simp [updV, va_up, va_rf]
  · simp [updV, va_up, hq]
end HG
theorem hg_congr {D : va_G} {cl : List vw_C} {B c : Nat} {E E1 : Nat → va_E} {H : Heap} (h : hg_W D cl B c E H) (he : ∀ i, i < c → E1 i = E i) : hg_W D cl B c E1 H := ⟨fun i hi => by rw [he i hi]; exact h.1 i hi, h.2⟩
def hg_Pre (D : va_G) (cl : List vw_C) (B c : Nat) (E : Nat → va_E) (tys : List (ClassId × FieldType)) (tb : List Cond) (vs : List Value) : Array Value → State → Prop := va_Pc vs (fun U => hg_W D cl B c E U.heap ∧ hq_K D cl tys tb U)
def hg_Q (D : va_G) (cl : List vw_C) (B c : Nat) (E : Nat → va_E) : Array Value → State → Outcome → State → Prop := va_Qv (fun (_ : Unit) => True) (fun _ t => hg_W D cl B c E t.heap) (hg_A B)
section HGC
variable {p : Program} {l : Launch} {e : Env} {R : Room} {s : State} {m : MethodId} {args : Array Value} {below : List Frame} {meth : Method} {c : Code} {H : Heap} {locs : List Loc} {cells slots : Nat} {Q : State → Prop}
variable {cc : ByteArray} {pc : Nat} {ls : Array Slot} {rest st0 : List Value} {D : va_G} {cl : List vw_C} {tys : List (ClassId × FieldType)} {H0 : Heap} {ca : Nat → ClassId} {B k0 k1 : Nat} {E E1 : Nat → va_E} {tb : List Cond}
theorem hg_call {mc ms : Nat} {a : Array Value} (hr : va_Run p l e R s m args below meth c H locs cells slots mc ms (F0 m pc ls st0) rest (hg_Q D cl B k1 E1 a) (hg_A B)) (hS : va_S (hg_A B) H0 H locs)
    (kk : ∀ (H1 : Heap) (locs1 : List Loc), hg_W D cl B k1 E1 H1 → va_S (hg_A B) H0 H1 locs1 → W p l e R s m args below meth c H1 locs1 (cells + mc) (slots + ms) Q (F0 m (pc + 3) ls rest)) : W p l e R s m args below meth c H locs cells slots Q (F0 m pc ls st0) :=
  va_callv hr hS (fun _ _ h => h) (fun _ h => h) (fun u t H1 locs1 ht _ _ hB _ _ hS1 => by
    subst ht
    exact kk _ _ hB hS1)
theorem hg_blind {vs : List Value} : FrameBlind (hg_Pre D cl B k0 E tys tb vs) := fun _ _ _ _ q => ⟨q.1, q.2.1, q.2.2.calling⟩
theorem hg_pre {As : List Value} (hK : hq_K D cl tys tb s) (hW : hg_W D cl B k0 E H) : PreS s H (hg_Pre D cl B k0 E tys tb As) As :=
  ⟨hg_blind, fun U hU hWm => ⟨rfl, by rw [hU]; exact hW, hK.moved hWm⟩⟩
theorem hg_cwN {own host : String} {index maxL nn mc ms : Nat} {y : MethodName} {bytes : ByteArray} {rm : Room} (hts : ∀ w ∈ tb, w.before args s = true) (hcode : Cond.code y bytes maxL none ∈ tb) (hini : Cond.initialized y.cls ∈ tb) (hlink : Cond.methodLinkNest own index y host ∈ tb) (hin : Cond.instanceMethod y ∈ tb) (hy : y.name = "<init>")
    (hd : y.cls ≠ "java/lang/invoke/MethodHandle" ∧ y.cls ≠ "java/lang/invoke/VarHandle" ∧ (parseMethodDescriptor y.desc).map (fun d => d.parameters.length) = some nn) (hc : rm.cells = mc) (hs : rm.slots = ms) (hR : rm.frames + 1 ≤ R.frames ∧ 8 + (maxL + 11) + rm.locals ≤ R.locals) :
    va_CN R s args own index y host bytes maxL none [Cond.code y bytes maxL none] rm mc ms nn ∧ y.name = "<init>" ∧ (Cond.instanceMethod y).before args s = true :=
  ⟨va_cnB nn hts (fun w hw => by
    rw [List.mem_singleton.mp hw]
    exact ⟨hcode, Or.inl rfl⟩) rfl hc hs (va_Nw.of rfl (hts _ hlink)) (hts _ hini) hd hR, hy, hts _ hin⟩
theorem hg_cwI {own : String} {index maxL nn mc ms : Nat} {y : MethodName} {bytes : ByteArray} {rm : Room} (hts : ∀ w ∈ tb, w.before args s = true) (hcode : Cond.code y bytes maxL none ∈ tb) (hini : Cond.initialized y.cls ∈ tb) (hlink : Cond.methodLink own index y ∈ tb) (hin : Cond.instanceMethod y ∈ tb) (hy : y.name = "<init>")
    (hd : y.cls ≠ "java/lang/invoke/MethodHandle" ∧ y.cls ≠ "java/lang/invoke/VarHandle" ∧ (parseMethodDescriptor y.desc).map (fun d => d.parameters.length) = some nn) (hc : rm.cells = mc) (hs : rm.slots = ms) (hR : rm.frames + 1 ≤ R.frames ∧ 8 + (maxL + 11) + rm.locals ≤ R.locals) :
    CallB R s args own index y bytes maxL none [Cond.code y bytes maxL none] rm mc ms nn ∧ y.name = "<init>" ∧ (Cond.instanceMethod y).before args s = true :=
  ⟨callB_of nn hts (fun w hw => by
    rw [List.mem_singleton.mp hw]
    exact ⟨hcode, Or.inl rfl⟩) rfl hc hs (hts _ hini) (hts _ hlink) hd hR, hy, hts _ hin⟩
end HGC
end
section
def hq_tb : List Cond := lw_tbl.filter hq_okw
theorem hq_tb_ok : ∀ w ∈ hq_tb, hq_okw w = true := fun w h => (List.mem_filter.mp h).2
theorem hq_in {w : Cond} (h : w ∈ lw_tbl) (ho : hq_okw w = true) : w ∈ hq_tb := List.mem_filter.mpr ⟨h, ho⟩
def R_SC : String := "StencilCompiler"
def F_SC : u_T := fun k => match k with
  | 0 => ("StencilCompiler", "pipeline", "LStencilCompiler$Pipeline;", true)
  | 1 => ("StencilCompiler", "plan", "LStencilCompiler$Plan;", true)
  | 2 => ("StencilCompiler", "runner", "LStencilCompiler$Runner;", true)
  | 3 => ("StencilCompiler", "compiled", "Z", false)
  | _ => ("StencilCompiler", "ran", "Z", false)
def t_SC : Nat → FieldType := fun k => match k with
  | 0 => .object "StencilCompiler$Pipeline"
  | 1 => .object "StencilCompiler$Plan"
  | 2 => .object "StencilCompiler$Runner"
  | 3 => .boolean
  | _ => .boolean
theorem n_SC : ∀ a, a < 5 → ∀ b, b < 5 → a ≠ b → (F_SC a).2.1 ≠ (F_SC b).2.1 := by decide +kernel
theorem t_SC_ok : ∀ k, k < 5 → parseFieldDescriptor (F_SC k).2.2.1 = some (t_SC k) := by decide +kernel
theorem i_SC : ∀ w ∈ u_ws R_SC F_SC 5, w ∈ hq_tb := by decide +kernel
def R_Needs : String := "StencilCompiler$Needs"
def F_Needs : u_T := fun k => match k with
  | 0 => ("StencilCompiler$Needs", "used", "[Z", true)
  | 1 => ("StencilCompiler$Needs", "first", "[I", true)
  | _ => ("StencilCompiler$Needs", "last", "[I", true)
def t_Needs : Nat → FieldType := fun k => match k with
  | 0 => .array .boolean
  | 1 => .array .int
  | _ => .array .int
theorem n_Needs : ∀ a, a < 3 → ∀ b, b < 3 → a ≠ b → (F_Needs a).2.1 ≠ (F_Needs b).2.1 := by decide +kernel
theorem t_Needs_ok : ∀ k, k < 3 → parseFieldDescriptor (F_Needs k).2.2.1 = some (t_Needs k) := by decide +kernel
theorem i_Needs : ∀ w ∈ u_ws R_Needs F_Needs 3, w ∈ hq_tb := by decide +kernel
def R_Pipe : String := "StencilCompiler$Pipeline"
def F_Pipe : u_T := fun k => match k with
  | 0 => ("StencilCompiler$Pipeline", "row", "[I", true)
  | 1 => ("StencilCompiler$Pipeline", "stages", "[LStencilCompiler$Stage;", true)
  | 2 => ("StencilCompiler$Pipeline", "valuesFor", "[I", true)
  | 3 => ("StencilCompiler$Pipeline", "stageCount", "I", false)
  | 4 => ("StencilCompiler$Pipeline", "tileSize", "I", false)
  | 5 => ("StencilCompiler$Pipeline", "output", "I", false)
  | _ => ("StencilCompiler$Pipeline", "width", "I", false)
def t_Pipe : Nat → FieldType := fun k => match k with
  | 0 => .array .int
  | 1 => .array (.object "StencilCompiler$Stage")
  | 2 => .array .int
  | 3 => .int
  | 4 => .int
  | 5 => .int
  | _ => .int
theorem n_Pipe : ∀ a, a < 7 → ∀ b, b < 7 → a ≠ b → (F_Pipe a).2.1 ≠ (F_Pipe b).2.1 := by decide +kernel
theorem t_Pipe_ok : ∀ k, k < 7 → parseFieldDescriptor (F_Pipe k).2.2.1 = some (t_Pipe k) := by decide +kernel
theorem i_Pipe : ∀ w ∈ u_ws R_Pipe F_Pipe 7, w ∈ hq_tb := by decide +kernel
def R_Plan : String := "StencilCompiler$Plan"
def F_Plan : u_T := fun k => match k with
  | 0 => ("StencilCompiler$Plan", "pipeline", "LStencilCompiler$Pipeline;", true)
  | 1 => ("StencilCompiler$Plan", "regions", "LStencilCompiler$Needs;", true)
  | 2 => ("StencilCompiler$Plan", "tileNeeds", "LStencilCompiler$Needs;", true)
  | 3 => ("StencilCompiler$Plan", "asksTiled", "[Z", true)
  | 4 => ("StencilCompiler$Plan", "workOf", "[I", true)
  | 5 => ("StencilCompiler$Plan", "totalWork", "I", false)
  | 6 => ("StencilCompiler$Plan", "room", "I", false)
  | _ => ("StencilCompiler$Plan", "greatestTileNeed", "I", false)
def t_Plan : Nat → FieldType := fun k => match k with
  | 0 => .object "StencilCompiler$Pipeline"
  | 1 => .object "StencilCompiler$Needs"
  | 2 => .object "StencilCompiler$Needs"
  | 3 => .array .boolean
  | 4 => .array .int
  | 5 => .int
  | 6 => .int
  | _ => .int
theorem n_Plan : ∀ a, a < 8 → ∀ b, b < 8 → a ≠ b → (F_Plan a).2.1 ≠ (F_Plan b).2.1 := by decide +kernel
theorem t_Plan_ok : ∀ k, k < 8 → parseFieldDescriptor (F_Plan k).2.2.1 = some (t_Plan k) := by decide +kernel
theorem i_Plan : ∀ w ∈ u_ws R_Plan F_Plan 8, w ∈ hq_tb := by decide +kernel
def R_Runner : String := "StencilCompiler$Runner"
def F_Runner : u_T := fun k => match k with
  | 0 => ("StencilCompiler$Runner", "pipeline", "LStencilCompiler$Pipeline;", true)
  | 1 => ("StencilCompiler$Runner", "tileNeeds", "LStencilCompiler$Needs;", true)
  | 2 => ("StencilCompiler$Runner", "kept", "[Z", true)
  | 3 => ("StencilCompiler$Runner", "rows", "[[I", true)
  | _ => ("StencilCompiler$Runner", "results", "[I", true)
def t_Runner : Nat → FieldType := fun k => match k with
  | 0 => .object "StencilCompiler$Pipeline"
  | 1 => .object "StencilCompiler$Needs"
  | 2 => .array .boolean
  | 3 => .array (.array .int)
  | _ => .array .int
theorem n_Runner : ∀ a, a < 5 → ∀ b, b < 5 → a ≠ b → (F_Runner a).2.1 ≠ (F_Runner b).2.1 := by decide +kernel
theorem t_Runner_ok : ∀ k, k < 5 → parseFieldDescriptor (F_Runner k).2.2.1 = some (t_Runner k) := by decide +kernel
theorem i_Runner : ∀ w ∈ u_ws R_Runner F_Runner 5, w ∈ hq_tb := by decide +kernel
def R_Stage : String := "StencilCompiler$Stage"
def F_Stage : u_T := fun k => match k with
  | 0 => ("StencilCompiler$Stage", "constant", "I", false)
  | 1 => ("StencilCompiler$Stage", "finish", "I", false)
  | 2 => ("StencilCompiler$Stage", "mode", "I", false)
  | 3 => ("StencilCompiler$Stage", "tapCount", "I", false)
  | 4 => ("StencilCompiler$Stage", "sources", "[I", true)
  | 5 => ("StencilCompiler$Stage", "offsets", "[I", true)
  | _ => ("StencilCompiler$Stage", "weights", "[I", true)
def t_Stage : Nat → FieldType := fun k => match k with
  | 0 => .int
  | 1 => .int
  | 2 => .int
  | 3 => .int
  | 4 => .array .int
  | 5 => .array .int
  | _ => .array .int
theorem n_Stage : ∀ a, a < 7 → ∀ b, b < 7 → a ≠ b → (F_Stage a).2.1 ≠ (F_Stage b).2.1 := by decide +kernel
theorem t_Stage_ok : ∀ k, k < 7 → parseFieldDescriptor (F_Stage k).2.2.1 = some (t_Stage k) := by decide +kernel
theorem i_Stage : ∀ w ∈ u_ws R_Stage F_Stage 7, w ∈ hq_tb := by decide +kernel
def R_Math : String := "java/lang/Math"
def R_Arrays : String := "java/util/Arrays"
abbrev b_SC_init : ByteArray := prog_1_method_1_code
def y_SC_init : MethodName := ⟨R_SC, "<init>", "(I)V"⟩
abbrev b_SC_input : ByteArray := prog_1_method_2_code
def y_SC_input : MethodName := ⟨R_SC, "input", "(II)I"⟩
abbrev b_SC_stage : ByteArray := prog_1_method_3_code
def y_SC_stage : MethodName := ⟨R_SC, "stage", "(II)I"⟩
abbrev b_SC_tap : ByteArray := prog_1_method_4_code
def y_SC_tap : MethodName := ⟨R_SC, "tap", "(IIII)I"⟩
abbrev b_SC_mode : ByteArray := prog_1_method_5_code
def y_SC_mode : MethodName := ⟨R_SC, "mode", "(II)I"⟩
abbrev b_SC_tile : ByteArray := prog_1_method_6_code
def y_SC_tile : MethodName := ⟨R_SC, "tile", "(I)I"⟩
abbrev b_SC_output : ByteArray := prog_1_method_7_code
def y_SC_output : MethodName := ⟨R_SC, "output", "(II)I"⟩
abbrev b_SC_compile : ByteArray := prog_1_method_8_code
def y_SC_compile : MethodName := ⟨R_SC, "compile", "()I"⟩
abbrev b_SC_run : ByteArray := prog_1_method_9_code
def y_SC_run : MethodName := ⟨R_SC, "run", "()I"⟩
abbrev b_SC_cell : ByteArray := prog_1_method_10_code
def y_SC_cell : MethodName := ⟨R_SC, "cell", "(I)J"⟩
abbrev b_SC_at : ByteArray := prog_1_method_11_code
def y_SC_at : MethodName := ⟨R_SC, "at", "(II)J"⟩
abbrev b_SC_region : ByteArray := prog_1_method_12_code
def y_SC_region : MethodName := ⟨R_SC, "region", "(IZ)I"⟩
abbrev b_SC_work : ByteArray := prog_1_method_13_code
def y_SC_work : MethodName := ⟨R_SC, "work", "(I)I"⟩
abbrev b_SC_count : ByteArray := prog_1_method_14_code
def y_SC_count : MethodName := ⟨R_SC, "count", "(I)I"⟩
abbrev b_SC_forgetCompiled : ByteArray := prog_1_method_15_code
def y_SC_forgetCompiled : MethodName := ⟨R_SC, "forgetCompiled", "()V"⟩
abbrev b_Needs_init : ByteArray := prog_2_method_1_code
def y_Needs_init : MethodName := ⟨R_Needs, "<init>", "()V"⟩
abbrev b_Needs_spread : ByteArray := prog_2_method_2_code
def y_Needs_spread : MethodName := ⟨R_Needs, "spread", "(LStencilCompiler$Pipeline;II)V"⟩
abbrev b_Needs_handOn : ByteArray := prog_2_method_3_code
def y_Needs_handOn : MethodName := ⟨R_Needs, "handOn", "(LStencilCompiler$Stage;II)V"⟩
abbrev b_Needs_widen : ByteArray := prog_2_method_4_code
def y_Needs_widen : MethodName := ⟨R_Needs, "widen", "(III)V"⟩
abbrev b_Needs_lengthOf : ByteArray := prog_2_method_5_code
def y_Needs_lengthOf : MethodName := ⟨R_Needs, "lengthOf", "(I)I"⟩
abbrev b_Pipe_init : ByteArray := prog_3_method_1_code
def y_Pipe_init : MethodName := ⟨R_Pipe, "<init>", "(I)V"⟩
abbrev b_Pipe_hasStage : ByteArray := prog_3_method_2_code
def y_Pipe_hasStage : MethodName := ⟨R_Pipe, "hasStage", "(I)Z"⟩
abbrev b_Pipe_addStage : ByteArray := prog_3_method_3_code
def y_Pipe_addStage : MethodName := ⟨R_Pipe, "addStage", "(II)I"⟩
abbrev b_Pipe_tileCount : ByteArray := prog_3_method_4_code
def y_Pipe_tileCount : MethodName := ⟨R_Pipe, "tileCount", "()I"⟩
abbrev b_Pipe_tileFirst : ByteArray := prog_3_method_5_code
def y_Pipe_tileFirst : MethodName := ⟨R_Pipe, "tileFirst", "(I)I"⟩
abbrev b_Pipe_tileLast : ByteArray := prog_3_method_6_code
def y_Pipe_tileLast : MethodName := ⟨R_Pipe, "tileLast", "(I)I"⟩
abbrev b_Pipe_valuesWorkedOutFor : ByteArray := prog_3_method_7_code
def y_Pipe_valuesWorkedOutFor : MethodName := ⟨R_Pipe, "valuesWorkedOutFor", "(I)I"⟩
abbrev b_Plan_init : ByteArray := prog_4_method_1_code
def y_Plan_init : MethodName := ⟨R_Plan, "<init>", "(LStencilCompiler$Pipeline;)V"⟩
abbrev b_Plan_draw : ByteArray := prog_4_method_2_code
def y_Plan_draw : MethodName := ⟨R_Plan, "draw", "()I"⟩
abbrev b_Plan_leastRootThatAsksTiled : ByteArray := prog_4_method_3_code
def y_Plan_leastRootThatAsksTiled : MethodName := ⟨R_Plan, "leastRootThatAsksTiled", "()I"⟩
abbrev b_Plan_hasTiledToWorkOut : ByteArray := prog_4_method_4_code
def y_Plan_hasTiledToWorkOut : MethodName := ⟨R_Plan, "hasTiledToWorkOut", "(LStencilCompiler$Stage;)Z"⟩
abbrev b_Plan_measureOutput : ByteArray := prog_4_method_5_code
def y_Plan_measureOutput : MethodName := ⟨R_Plan, "measureOutput", "()V"⟩
abbrev b_Plan_measureRoots : ByteArray := prog_4_method_6_code
def y_Plan_measureRoots : MethodName := ⟨R_Plan, "measureRoots", "()V"⟩
abbrev b_Plan_measureTiles : ByteArray := prog_4_method_7_code
def y_Plan_measureTiles : MethodName := ⟨R_Plan, "measureTiles", "()V"⟩
abbrev b_Plan_measureTileInHand : ByteArray := prog_4_method_8_code
def y_Plan_measureTileInHand : MethodName := ⟨R_Plan, "measureTileInHand", "()I"⟩
abbrev b_Plan_measureInlines : ByteArray := prog_4_method_9_code
def y_Plan_measureInlines : MethodName := ⟨R_Plan, "measureInlines", "()V"⟩
abbrev b_Plan_askInlineSources : ByteArray := prog_4_method_10_code
def y_Plan_askInlineSources : MethodName := ⟨R_Plan, "askInlineSources", "(I)V"⟩
abbrev b_Plan_isUsedAs : ByteArray := prog_4_method_11_code
def y_Plan_isUsedAs : MethodName := ⟨R_Plan, "isUsedAs", "(II)Z"⟩
abbrev b_Plan_usedCount : ByteArray := prog_4_method_12_code
def y_Plan_usedCount : MethodName := ⟨R_Plan, "usedCount", "()I"⟩
abbrev b_Runner_init : ByteArray := prog_5_method_1_code
def y_Runner_init : MethodName := ⟨R_Runner, "<init>", "(LStencilCompiler$Pipeline;)V"⟩
abbrev b_Runner_runSchedule : ByteArray := prog_5_method_2_code
def y_Runner_runSchedule : MethodName := ⟨R_Runner, "runSchedule", "(LStencilCompiler$Needs;)V"⟩
abbrev b_Runner_runTile : ByteArray := prog_5_method_3_code
def y_Runner_runTile : MethodName := ⟨R_Runner, "runTile", "(II)V"⟩
abbrev b_Runner_keep : ByteArray := prog_5_method_4_code
def y_Runner_keep : MethodName := ⟨R_Runner, "keep", "(LStencilCompiler$Needs;I)V"⟩
abbrev b_Runner_release : ByteArray := prog_5_method_5_code
def y_Runner_release : MethodName := ⟨R_Runner, "release", "(I)V"⟩
abbrev b_Runner_workOut : ByteArray := prog_5_method_6_code
def y_Runner_workOut : MethodName := ⟨R_Runner, "workOut", "(II)I"⟩
abbrev b_Runner_sourceValue : ByteArray := prog_5_method_7_code
def y_Runner_sourceValue : MethodName := ⟨R_Runner, "sourceValue", "(II)I"⟩
abbrev b_Stage_init : ByteArray := prog_6_method_1_code
def y_Stage_init : MethodName := ⟨R_Stage, "<init>", "()V"⟩
abbrev b_Stage_addTap : ByteArray := prog_6_method_2_code
def y_Stage_addTap : MethodName := ⟨R_Stage, "addTap", "(III)V"⟩
abbrev b_Stage_finished : ByteArray := prog_6_method_3_code
def y_Stage_finished : MethodName := ⟨R_Stage, "finished", "(I)I"⟩
abbrev b_Math_floorDiv : ByteArray := prog_9_method_47_code
def y_Math_floorDiv : MethodName := ⟨R_Math, "floorDiv", "(II)I"⟩
abbrev b_Arrays_fill : ByteArray := prog_10_method_103_code
def y_Arrays_fill : MethodName := ⟨R_Arrays, "fill", "([II)V"⟩
end
section
theorem d_SC_init_0 : decode b_SC_init 0 = .ok (.aload_n 0, 1) := by decide +kernel
theorem d_SC_init_1 : decode b_SC_init 1 = .ok (.invokespecial 3, 3) := by decide +kernel
theorem d_SC_init_4 : decode b_SC_init 4 = .ok (.aload_n 0, 1) := by decide +kernel
theorem d_SC_init_5 : decode b_SC_init 5 = .ok (.new 9, 3) := by decide +kernel
theorem d_SC_init_8 : decode b_SC_init 8 = .ok (.dup, 1) := by decide +kernel
theorem d_SC_init_9 : decode b_SC_init 9 = .ok (.iconst 1, 1) := by decide +kernel
theorem d_SC_init_10 : decode b_SC_init 10 = .ok (.bipush 24, 2) := by decide +kernel
theorem d_SC_init_12 : decode b_SC_init 12 = .ok (.iload_n 1, 1) := by decide +kernel
theorem d_SC_init_13 : decode b_SC_init 13 = .ok (.invokestatic 11, 3) := by decide +kernel
theorem d_SC_init_16 : decode b_SC_init 16 = .ok (.invokestatic 17, 3) := by decide +kernel
theorem d_SC_init_19 : decode b_SC_init 19 = .ok (.invokespecial 20, 3) := by decide +kernel
theorem d_SC_init_22 : decode b_SC_init 22 = .ok (.putfield 23, 3) := by decide +kernel
theorem d_SC_init_25 : decode b_SC_init 25 = .ok (.aload_n 0, 1) := by decide +kernel
theorem d_SC_init_26 : decode b_SC_init 26 = .ok (.new 27, 3) := by decide +kernel
theorem d_SC_init_29 : decode b_SC_init 29 = .ok (.dup, 1) := by decide +kernel
theorem d_SC_init_30 : decode b_SC_init 30 = .ok (.aload_n 0, 1) := by decide +kernel
theorem d_SC_init_31 : decode b_SC_init 31 = .ok (.getfield 23, 3) := by decide +kernel
theorem d_SC_init_34 : decode b_SC_init 34 = .ok (.invokespecial 29, 3) := by decide +kernel
theorem d_SC_init_37 : decode b_SC_init 37 = .ok (.putfield 32, 3) := by decide +kernel
theorem d_SC_init_40 : decode b_SC_init 40 = .ok (.aload_n 0, 1) := by decide +kernel
theorem d_SC_init_41 : decode b_SC_init 41 = .ok (.new 36, 3) := by decide +kernel
theorem d_SC_init_44 : decode b_SC_init 44 = .ok (.dup, 1) := by decide +kernel
theorem d_SC_init_45 : decode b_SC_init 45 = .ok (.aload_n 0, 1) := by decide +kernel
theorem d_SC_init_46 : decode b_SC_init 46 = .ok (.getfield 23, 3) := by decide +kernel
theorem d_SC_init_49 : decode b_SC_init 49 = .ok (.invokespecial 38, 3) := by decide +kernel
theorem d_SC_init_52 : decode b_SC_init 52 = .ok (.putfield 39, 3) := by decide +kernel
theorem d_SC_init_55 : decode b_SC_init 55 = .ok (.return_, 1) := by decide +kernel
theorem d_SC_input_0 : decode b_SC_input 0 = .ok (.iload_n 1, 1) := by decide +kernel
theorem d_SC_input_1 : decode b_SC_input 1 = .ok (.ifCond .lt 15, 3) := by decide +kernel
theorem d_SC_input_4 : decode b_SC_input 4 = .ok (.iload_n 1, 1) := by decide +kernel
theorem d_SC_input_5 : decode b_SC_input 5 = .ok (.aload_n 0, 1) := by decide +kernel
theorem d_SC_input_6 : decode b_SC_input 6 = .ok (.getfield 23, 3) := by decide +kernel
theorem d_SC_input_9 : decode b_SC_input 9 = .ok (.getfield 43, 3) := by decide +kernel
theorem d_SC_input_12 : decode b_SC_input 12 = .ok (.arraylength, 1) := by decide +kernel
theorem d_SC_input_13 : decode b_SC_input 13 = .ok (.if_icmp .lt 5, 3) := by decide +kernel
theorem d_SC_input_16 : decode b_SC_input 16 = .ok (.iconst (-1), 1) := by decide +kernel
theorem d_SC_input_17 : decode b_SC_input 17 = .ok (.ireturn, 1) := by decide +kernel
theorem d_SC_input_18 : decode b_SC_input 18 = .ok (.aload_n 0, 1) := by decide +kernel
theorem d_SC_input_19 : decode b_SC_input 19 = .ok (.getfield 23, 3) := by decide +kernel
theorem d_SC_input_22 : decode b_SC_input 22 = .ok (.getfield 43, 3) := by decide +kernel
theorem d_SC_input_25 : decode b_SC_input 25 = .ok (.iload_n 1, 1) := by decide +kernel
theorem d_SC_input_26 : decode b_SC_input 26 = .ok (.iload_n 2, 1) := by decide +kernel
theorem d_SC_input_27 : decode b_SC_input 27 = .ok (.iastore, 1) := by decide +kernel
theorem d_SC_input_28 : decode b_SC_input 28 = .ok (.aload_n 0, 1) := by decide +kernel
theorem d_SC_input_29 : decode b_SC_input 29 = .ok (.invokevirtual 47, 3) := by decide +kernel
theorem d_SC_input_32 : decode b_SC_input 32 = .ok (.iconst 0, 1) := by decide +kernel
theorem d_SC_input_33 : decode b_SC_input 33 = .ok (.ireturn, 1) := by decide +kernel
theorem d_SC_stage_0 : decode b_SC_stage 0 = .ok (.iload_n 2, 1) := by decide +kernel
theorem d_SC_stage_1 : decode b_SC_stage 1 = .ok (.ifCond .lt 8, 3) := by decide +kernel
theorem d_SC_stage_4 : decode b_SC_stage 4 = .ok (.iload_n 2, 1) := by decide +kernel
theorem d_SC_stage_5 : decode b_SC_stage 5 = .ok (.iconst 3, 1) := by decide +kernel
theorem d_SC_stage_6 : decode b_SC_stage 6 = .ok (.if_icmp .le 5, 3) := by decide +kernel
theorem d_SC_stage_9 : decode b_SC_stage 9 = .ok (.iconst (-1), 1) := by decide +kernel
theorem d_SC_stage_10 : decode b_SC_stage 10 = .ok (.ireturn, 1) := by decide +kernel
theorem d_SC_stage_11 : decode b_SC_stage 11 = .ok (.aload_n 0, 1) := by decide +kernel
theorem d_SC_stage_12 : decode b_SC_stage 12 = .ok (.getfield 23, 3) := by decide +kernel
theorem d_SC_stage_15 : decode b_SC_stage 15 = .ok (.getfield 50, 3) := by decide +kernel
theorem d_SC_stage_18 : decode b_SC_stage 18 = .ok (.bipush 8, 2) := by decide +kernel
theorem d_SC_stage_20 : decode b_SC_stage 20 = .ok (.if_icmp .ne 6, 3) := by decide +kernel
theorem d_SC_stage_23 : decode b_SC_stage 23 = .ok (.bipush (-2), 2) := by decide +kernel
theorem d_SC_stage_25 : decode b_SC_stage 25 = .ok (.ireturn, 1) := by decide +kernel
theorem d_SC_stage_26 : decode b_SC_stage 26 = .ok (.aload_n 0, 1) := by decide +kernel
theorem d_SC_stage_27 : decode b_SC_stage 27 = .ok (.getfield 23, 3) := by decide +kernel
theorem d_SC_stage_30 : decode b_SC_stage 30 = .ok (.iload_n 1, 1) := by decide +kernel
theorem d_SC_stage_31 : decode b_SC_stage 31 = .ok (.iload_n 2, 1) := by decide +kernel
theorem d_SC_stage_32 : decode b_SC_stage 32 = .ok (.invokevirtual 54, 3) := by decide +kernel
theorem d_SC_stage_35 : decode b_SC_stage 35 = .ok (.istore_n 3, 1) := by decide +kernel
theorem d_SC_stage_36 : decode b_SC_stage 36 = .ok (.aload_n 0, 1) := by decide +kernel
theorem d_SC_stage_37 : decode b_SC_stage 37 = .ok (.invokevirtual 47, 3) := by decide +kernel
theorem d_SC_stage_40 : decode b_SC_stage 40 = .ok (.iload_n 3, 1) := by decide +kernel
theorem d_SC_stage_41 : decode b_SC_stage 41 = .ok (.ireturn, 1) := by decide +kernel
theorem d_SC_tap_0 : decode b_SC_tap 0 = .ok (.aload_n 0, 1) := by decide +kernel
theorem d_SC_tap_1 : decode b_SC_tap 1 = .ok (.getfield 23, 3) := by decide +kernel
theorem d_SC_tap_4 : decode b_SC_tap 4 = .ok (.iload_n 1, 1) := by decide +kernel
theorem d_SC_tap_5 : decode b_SC_tap 5 = .ok (.invokevirtual 57, 3) := by decide +kernel
theorem d_SC_tap_8 : decode b_SC_tap 8 = .ok (.ifCond .eq 24, 3) := by decide +kernel
theorem d_SC_tap_11 : decode b_SC_tap 11 = .ok (.iload_n 2, 1) := by decide +kernel
theorem d_SC_tap_12 : decode b_SC_tap 12 = .ok (.iconst (-1), 1) := by decide +kernel
theorem d_SC_tap_13 : decode b_SC_tap 13 = .ok (.if_icmp .lt 19, 3) := by decide +kernel
theorem d_SC_tap_16 : decode b_SC_tap 16 = .ok (.iload_n 2, 1) := by decide +kernel
theorem d_SC_tap_17 : decode b_SC_tap 17 = .ok (.iload_n 1, 1) := by decide +kernel
theorem d_SC_tap_18 : decode b_SC_tap 18 = .ok (.if_icmp .ge 14, 3) := by decide +kernel
theorem d_SC_tap_21 : decode b_SC_tap 21 = .ok (.iload_n 3, 1) := by decide +kernel
theorem d_SC_tap_22 : decode b_SC_tap 22 = .ok (.bipush (-4), 2) := by decide +kernel
theorem d_SC_tap_24 : decode b_SC_tap 24 = .ok (.if_icmp .lt 8, 3) := by decide +kernel
theorem d_SC_tap_27 : decode b_SC_tap 27 = .ok (.iload_n 3, 1) := by decide +kernel
theorem d_SC_tap_28 : decode b_SC_tap 28 = .ok (.iconst 4, 1) := by decide +kernel
theorem d_SC_tap_29 : decode b_SC_tap 29 = .ok (.if_icmp .le 5, 3) := by decide +kernel
theorem d_SC_tap_32 : decode b_SC_tap 32 = .ok (.iconst (-1), 1) := by decide +kernel
theorem d_SC_tap_33 : decode b_SC_tap 33 = .ok (.ireturn, 1) := by decide +kernel
theorem d_SC_tap_34 : decode b_SC_tap 34 = .ok (.aload_n 0, 1) := by decide +kernel
theorem d_SC_tap_35 : decode b_SC_tap 35 = .ok (.getfield 23, 3) := by decide +kernel
theorem d_SC_tap_38 : decode b_SC_tap 38 = .ok (.getfield 61, 3) := by decide +kernel
theorem d_SC_tap_41 : decode b_SC_tap 41 = .ok (.iload_n 1, 1) := by decide +kernel
theorem d_SC_tap_42 : decode b_SC_tap 42 = .ok (.aaload, 1) := by decide +kernel
theorem d_SC_tap_43 : decode b_SC_tap 43 = .ok (.astore 5, 2) := by decide +kernel
theorem d_SC_tap_45 : decode b_SC_tap 45 = .ok (.aload 5, 2) := by decide +kernel
theorem d_SC_tap_47 : decode b_SC_tap 47 = .ok (.getfield 65, 3) := by decide +kernel
theorem d_SC_tap_50 : decode b_SC_tap 50 = .ok (.iconst 4, 1) := by decide +kernel
theorem d_SC_tap_51 : decode b_SC_tap 51 = .ok (.if_icmp .ne 6, 3) := by decide +kernel
theorem d_SC_tap_54 : decode b_SC_tap 54 = .ok (.bipush (-2), 2) := by decide +kernel
theorem d_SC_tap_56 : decode b_SC_tap 56 = .ok (.ireturn, 1) := by decide +kernel
theorem d_SC_tap_57 : decode b_SC_tap 57 = .ok (.aload 5, 2) := by decide +kernel
theorem d_SC_tap_59 : decode b_SC_tap 59 = .ok (.iload_n 2, 1) := by decide +kernel
theorem d_SC_tap_60 : decode b_SC_tap 60 = .ok (.iload_n 3, 1) := by decide +kernel
theorem d_SC_tap_61 : decode b_SC_tap 61 = .ok (.iload 4, 2) := by decide +kernel
theorem d_SC_tap_63 : decode b_SC_tap 63 = .ok (.invokevirtual 70, 3) := by decide +kernel
theorem d_SC_tap_66 : decode b_SC_tap 66 = .ok (.aload_n 0, 1) := by decide +kernel
theorem d_SC_tap_67 : decode b_SC_tap 67 = .ok (.invokevirtual 47, 3) := by decide +kernel
theorem d_SC_tap_70 : decode b_SC_tap 70 = .ok (.aload 5, 2) := by decide +kernel
theorem d_SC_tap_72 : decode b_SC_tap 72 = .ok (.getfield 65, 3) := by decide +kernel
theorem d_SC_tap_75 : decode b_SC_tap 75 = .ok (.ireturn, 1) := by decide +kernel
theorem d_SC_mode_0 : decode b_SC_mode 0 = .ok (.aload_n 0, 1) := by decide +kernel
theorem d_SC_mode_1 : decode b_SC_mode 1 = .ok (.getfield 23, 3) := by decide +kernel
theorem d_SC_mode_4 : decode b_SC_mode 4 = .ok (.iload_n 1, 1) := by decide +kernel
theorem d_SC_mode_5 : decode b_SC_mode 5 = .ok (.invokevirtual 57, 3) := by decide +kernel
theorem d_SC_mode_8 : decode b_SC_mode 8 = .ok (.ifCond .eq 12, 3) := by decide +kernel
theorem d_SC_mode_11 : decode b_SC_mode 11 = .ok (.iload_n 2, 1) := by decide +kernel
theorem d_SC_mode_12 : decode b_SC_mode 12 = .ok (.ifCond .lt 8, 3) := by decide +kernel
theorem d_SC_mode_15 : decode b_SC_mode 15 = .ok (.iload_n 2, 1) := by decide +kernel
theorem d_SC_mode_16 : decode b_SC_mode 16 = .ok (.iconst 2, 1) := by decide +kernel
theorem d_SC_mode_17 : decode b_SC_mode 17 = .ok (.if_icmp .le 5, 3) := by decide +kernel
theorem d_SC_mode_20 : decode b_SC_mode 20 = .ok (.iconst (-1), 1) := by decide +kernel
theorem d_SC_mode_21 : decode b_SC_mode 21 = .ok (.ireturn, 1) := by decide +kernel
theorem d_SC_mode_22 : decode b_SC_mode 22 = .ok (.aload_n 0, 1) := by decide +kernel
theorem d_SC_mode_23 : decode b_SC_mode 23 = .ok (.getfield 23, 3) := by decide +kernel
theorem d_SC_mode_26 : decode b_SC_mode 26 = .ok (.getfield 61, 3) := by decide +kernel
theorem d_SC_mode_29 : decode b_SC_mode 29 = .ok (.iload_n 1, 1) := by decide +kernel
theorem d_SC_mode_30 : decode b_SC_mode 30 = .ok (.aaload, 1) := by decide +kernel
theorem d_SC_mode_31 : decode b_SC_mode 31 = .ok (.iload_n 2, 1) := by decide +kernel
theorem d_SC_mode_32 : decode b_SC_mode 32 = .ok (.putfield 74, 3) := by decide +kernel
theorem d_SC_mode_35 : decode b_SC_mode 35 = .ok (.aload_n 0, 1) := by decide +kernel
theorem d_SC_mode_36 : decode b_SC_mode 36 = .ok (.invokevirtual 47, 3) := by decide +kernel
theorem d_SC_mode_39 : decode b_SC_mode 39 = .ok (.iconst 0, 1) := by decide +kernel
theorem d_SC_mode_40 : decode b_SC_mode 40 = .ok (.ireturn, 1) := by decide +kernel
theorem d_SC_tile_0 : decode b_SC_tile 0 = .ok (.iload_n 1, 1) := by decide +kernel
theorem d_SC_tile_1 : decode b_SC_tile 1 = .ok (.iconst 1, 1) := by decide +kernel
theorem d_SC_tile_2 : decode b_SC_tile 2 = .ok (.if_icmp .lt 9, 3) := by decide +kernel
theorem d_SC_tile_5 : decode b_SC_tile 5 = .ok (.iload_n 1, 1) := by decide +kernel
theorem d_SC_tile_6 : decode b_SC_tile 6 = .ok (.bipush 32, 2) := by decide +kernel
theorem d_SC_tile_8 : decode b_SC_tile 8 = .ok (.if_icmp .le 5, 3) := by decide +kernel
theorem d_SC_tile_11 : decode b_SC_tile 11 = .ok (.iconst (-1), 1) := by decide +kernel
theorem d_SC_tile_12 : decode b_SC_tile 12 = .ok (.ireturn, 1) := by decide +kernel
theorem d_SC_tile_13 : decode b_SC_tile 13 = .ok (.aload_n 0, 1) := by decide +kernel
theorem d_SC_tile_14 : decode b_SC_tile 14 = .ok (.getfield 23, 3) := by decide +kernel
theorem d_SC_tile_17 : decode b_SC_tile 17 = .ok (.iload_n 1, 1) := by decide +kernel
theorem d_SC_tile_18 : decode b_SC_tile 18 = .ok (.putfield 77, 3) := by decide +kernel
theorem d_SC_tile_21 : decode b_SC_tile 21 = .ok (.aload_n 0, 1) := by decide +kernel
theorem d_SC_tile_22 : decode b_SC_tile 22 = .ok (.invokevirtual 47, 3) := by decide +kernel
theorem d_SC_tile_25 : decode b_SC_tile 25 = .ok (.iconst 0, 1) := by decide +kernel
theorem d_SC_tile_26 : decode b_SC_tile 26 = .ok (.ireturn, 1) := by decide +kernel
theorem d_SC_output_0 : decode b_SC_output 0 = .ok (.aload_n 0, 1) := by decide +kernel
theorem d_SC_output_1 : decode b_SC_output 1 = .ok (.getfield 23, 3) := by decide +kernel
theorem d_SC_output_4 : decode b_SC_output 4 = .ok (.iload_n 1, 1) := by decide +kernel
theorem d_SC_output_5 : decode b_SC_output 5 = .ok (.invokevirtual 57, 3) := by decide +kernel
theorem d_SC_output_8 : decode b_SC_output 8 = .ok (.ifCond .eq 14, 3) := by decide +kernel
theorem d_SC_output_11 : decode b_SC_output 11 = .ok (.iload_n 2, 1) := by decide +kernel
theorem d_SC_output_12 : decode b_SC_output 12 = .ok (.iconst 1, 1) := by decide +kernel
theorem d_SC_output_13 : decode b_SC_output 13 = .ok (.if_icmp .lt 9, 3) := by decide +kernel
theorem d_SC_output_16 : decode b_SC_output 16 = .ok (.iload_n 2, 1) := by decide +kernel
theorem d_SC_output_17 : decode b_SC_output 17 = .ok (.bipush 32, 2) := by decide +kernel
theorem d_SC_output_19 : decode b_SC_output 19 = .ok (.if_icmp .le 5, 3) := by decide +kernel
theorem d_SC_output_22 : decode b_SC_output 22 = .ok (.iconst (-1), 1) := by decide +kernel
theorem d_SC_output_23 : decode b_SC_output 23 = .ok (.ireturn, 1) := by decide +kernel
theorem d_SC_output_24 : decode b_SC_output 24 = .ok (.aload_n 0, 1) := by decide +kernel
theorem d_SC_output_25 : decode b_SC_output 25 = .ok (.getfield 23, 3) := by decide +kernel
theorem d_SC_output_28 : decode b_SC_output 28 = .ok (.iload_n 1, 1) := by decide +kernel
theorem d_SC_output_29 : decode b_SC_output 29 = .ok (.putfield 80, 3) := by decide +kernel
theorem d_SC_output_32 : decode b_SC_output 32 = .ok (.aload_n 0, 1) := by decide +kernel
theorem d_SC_output_33 : decode b_SC_output 33 = .ok (.getfield 23, 3) := by decide +kernel
theorem d_SC_output_36 : decode b_SC_output 36 = .ok (.iload_n 2, 1) := by decide +kernel
theorem d_SC_output_37 : decode b_SC_output 37 = .ok (.putfield 83, 3) := by decide +kernel
theorem d_SC_output_40 : decode b_SC_output 40 = .ok (.aload_n 0, 1) := by decide +kernel
theorem d_SC_output_41 : decode b_SC_output 41 = .ok (.invokevirtual 47, 3) := by decide +kernel
theorem d_SC_output_44 : decode b_SC_output 44 = .ok (.iconst 0, 1) := by decide +kernel
theorem d_SC_output_45 : decode b_SC_output 45 = .ok (.ireturn, 1) := by decide +kernel
theorem d_SC_compile_0 : decode b_SC_compile 0 = .ok (.aload_n 0, 1) := by decide +kernel
theorem d_SC_compile_1 : decode b_SC_compile 1 = .ok (.getfield 86, 3) := by decide +kernel
theorem d_SC_compile_4 : decode b_SC_compile 4 = .ok (.ifCond .eq 6, 3) := by decide +kernel
theorem d_SC_compile_7 : decode b_SC_compile 7 = .ok (.bipush (-3), 2) := by decide +kernel
theorem d_SC_compile_9 : decode b_SC_compile 9 = .ok (.ireturn, 1) := by decide +kernel
theorem d_SC_compile_10 : decode b_SC_compile 10 = .ok (.aload_n 0, 1) := by decide +kernel
theorem d_SC_compile_11 : decode b_SC_compile 11 = .ok (.getfield 32, 3) := by decide +kernel
theorem d_SC_compile_14 : decode b_SC_compile 14 = .ok (.invokevirtual 90, 3) := by decide +kernel
theorem d_SC_compile_17 : decode b_SC_compile 17 = .ok (.istore_n 1, 1) := by decide +kernel
theorem d_SC_compile_18 : decode b_SC_compile 18 = .ok (.iload_n 1, 1) := by decide +kernel
theorem d_SC_compile_19 : decode b_SC_compile 19 = .ok (.ifCond .eq 5, 3) := by decide +kernel
theorem d_SC_compile_22 : decode b_SC_compile 22 = .ok (.iload_n 1, 1) := by decide +kernel
theorem d_SC_compile_23 : decode b_SC_compile 23 = .ok (.ireturn, 1) := by decide +kernel
theorem d_SC_compile_24 : decode b_SC_compile 24 = .ok (.aload_n 0, 1) := by decide +kernel
theorem d_SC_compile_25 : decode b_SC_compile 25 = .ok (.iconst 1, 1) := by decide +kernel
theorem d_SC_compile_26 : decode b_SC_compile 26 = .ok (.putfield 86, 3) := by decide +kernel
theorem d_SC_compile_29 : decode b_SC_compile 29 = .ok (.aload_n 0, 1) := by decide +kernel
theorem d_SC_compile_30 : decode b_SC_compile 30 = .ok (.getfield 32, 3) := by decide +kernel
theorem d_SC_compile_33 : decode b_SC_compile 33 = .ok (.getfield 94, 3) := by decide +kernel
theorem d_SC_compile_36 : decode b_SC_compile 36 = .ok (.ireturn, 1) := by decide +kernel
theorem d_SC_run_0 : decode b_SC_run 0 = .ok (.aload_n 0, 1) := by decide +kernel
theorem d_SC_run_1 : decode b_SC_run 1 = .ok (.getfield 86, 3) := by decide +kernel
theorem d_SC_run_4 : decode b_SC_run 4 = .ok (.ifCond .ne 6, 3) := by decide +kernel
theorem d_SC_run_7 : decode b_SC_run 7 = .ok (.bipush (-3), 2) := by decide +kernel
theorem d_SC_run_9 : decode b_SC_run 9 = .ok (.ireturn, 1) := by decide +kernel
theorem d_SC_run_10 : decode b_SC_run 10 = .ok (.aload_n 0, 1) := by decide +kernel
theorem d_SC_run_11 : decode b_SC_run 11 = .ok (.getfield 39, 3) := by decide +kernel
theorem d_SC_run_14 : decode b_SC_run 14 = .ok (.aload_n 0, 1) := by decide +kernel
theorem d_SC_run_15 : decode b_SC_run 15 = .ok (.getfield 32, 3) := by decide +kernel
theorem d_SC_run_18 : decode b_SC_run 18 = .ok (.getfield 97, 3) := by decide +kernel
theorem d_SC_run_21 : decode b_SC_run 21 = .ok (.invokevirtual 101, 3) := by decide +kernel
theorem d_SC_run_24 : decode b_SC_run 24 = .ok (.aload_n 0, 1) := by decide +kernel
theorem d_SC_run_25 : decode b_SC_run 25 = .ok (.iconst 1, 1) := by decide +kernel
theorem d_SC_run_26 : decode b_SC_run 26 = .ok (.putfield 105, 3) := by decide +kernel
theorem d_SC_run_29 : decode b_SC_run 29 = .ok (.aload_n 0, 1) := by decide +kernel
theorem d_SC_run_30 : decode b_SC_run 30 = .ok (.getfield 23, 3) := by decide +kernel
theorem d_SC_run_33 : decode b_SC_run 33 = .ok (.invokevirtual 108, 3) := by decide +kernel
theorem d_SC_run_36 : decode b_SC_run 36 = .ok (.ireturn, 1) := by decide +kernel
theorem d_SC_cell_0 : decode b_SC_cell 0 = .ok (.aload_n 0, 1) := by decide +kernel
theorem d_SC_cell_1 : decode b_SC_cell 1 = .ok (.getfield 105, 3) := by decide +kernel
theorem d_SC_cell_4 : decode b_SC_cell 4 = .ok (.ifCond .eq 18, 3) := by decide +kernel
theorem d_SC_cell_7 : decode b_SC_cell 7 = .ok (.iload_n 1, 1) := by decide +kernel
theorem d_SC_cell_8 : decode b_SC_cell 8 = .ok (.ifCond .lt 14, 3) := by decide +kernel
theorem d_SC_cell_11 : decode b_SC_cell 11 = .ok (.iload_n 1, 1) := by decide +kernel
theorem d_SC_cell_12 : decode b_SC_cell 12 = .ok (.aload_n 0, 1) := by decide +kernel
theorem d_SC_cell_13 : decode b_SC_cell 13 = .ok (.getfield 23, 3) := by decide +kernel
theorem d_SC_cell_16 : decode b_SC_cell 16 = .ok (.getfield 83, 3) := by decide +kernel
theorem d_SC_cell_19 : decode b_SC_cell 19 = .ok (.if_icmp .lt 7, 3) := by decide +kernel
theorem d_SC_cell_22 : decode b_SC_cell 22 = .ok (.ldc2_w 111, 3) := by decide +kernel
theorem d_SC_cell_25 : decode b_SC_cell 25 = .ok (.lreturn, 1) := by decide +kernel
theorem d_SC_cell_26 : decode b_SC_cell 26 = .ok (.aload_n 0, 1) := by decide +kernel
theorem d_SC_cell_27 : decode b_SC_cell 27 = .ok (.getfield 39, 3) := by decide +kernel
theorem d_SC_cell_30 : decode b_SC_cell 30 = .ok (.getfield 113, 3) := by decide +kernel
theorem d_SC_cell_33 : decode b_SC_cell 33 = .ok (.iload_n 1, 1) := by decide +kernel
theorem d_SC_cell_34 : decode b_SC_cell 34 = .ok (.iaload, 1) := by decide +kernel
theorem d_SC_cell_35 : decode b_SC_cell 35 = .ok (.i2l, 1) := by decide +kernel
theorem d_SC_cell_36 : decode b_SC_cell 36 = .ok (.lreturn, 1) := by decide +kernel
theorem d_SC_at_0 : decode b_SC_at 0 = .ok (.aload_n 0, 1) := by decide +kernel
theorem d_SC_at_1 : decode b_SC_at 1 = .ok (.getfield 23, 3) := by decide +kernel
theorem d_SC_at_4 : decode b_SC_at 4 = .ok (.iload_n 1, 1) := by decide +kernel
theorem d_SC_at_5 : decode b_SC_at 5 = .ok (.invokevirtual 57, 3) := by decide +kernel
theorem d_SC_at_8 : decode b_SC_at 8 = .ok (.ifCond .eq 29, 3) := by decide +kernel
theorem d_SC_at_11 : decode b_SC_at 11 = .ok (.iload_n 2, 1) := by decide +kernel
theorem d_SC_at_12 : decode b_SC_at 12 = .ok (.bipush (-100), 2) := by decide +kernel
theorem d_SC_at_14 : decode b_SC_at 14 = .ok (.if_icmp .lt 23, 3) := by decide +kernel
theorem d_SC_at_17 : decode b_SC_at 17 = .ok (.iload_n 2, 1) := by decide +kernel
theorem d_SC_at_18 : decode b_SC_at 18 = .ok (.bipush 100, 2) := by decide +kernel
theorem d_SC_at_20 : decode b_SC_at 20 = .ok (.if_icmp .gt 17, 3) := by decide +kernel
theorem d_SC_at_23 : decode b_SC_at 23 = .ok (.aload_n 0, 1) := by decide +kernel
theorem d_SC_at_24 : decode b_SC_at 24 = .ok (.getfield 23, 3) := by decide +kernel
theorem d_SC_at_27 : decode b_SC_at 27 = .ok (.iload_n 1, 1) := by decide +kernel
theorem d_SC_at_28 : decode b_SC_at 28 = .ok (.invokevirtual 116, 3) := by decide +kernel
theorem d_SC_at_31 : decode b_SC_at 31 = .ok (.sipush 3000, 3) := by decide +kernel
theorem d_SC_at_34 : decode b_SC_at 34 = .ok (.if_icmp .le 7, 3) := by decide +kernel
theorem d_SC_at_37 : decode b_SC_at 37 = .ok (.ldc2_w 111, 3) := by decide +kernel
theorem d_SC_at_40 : decode b_SC_at 40 = .ok (.lreturn, 1) := by decide +kernel
theorem d_SC_at_41 : decode b_SC_at 41 = .ok (.aload_n 0, 1) := by decide +kernel
theorem d_SC_at_42 : decode b_SC_at 42 = .ok (.getfield 39, 3) := by decide +kernel
theorem d_SC_at_45 : decode b_SC_at 45 = .ok (.iload_n 1, 1) := by decide +kernel
theorem d_SC_at_46 : decode b_SC_at 46 = .ok (.iload_n 2, 1) := by decide +kernel
theorem d_SC_at_47 : decode b_SC_at 47 = .ok (.invokevirtual 120, 3) := by decide +kernel
theorem d_SC_at_50 : decode b_SC_at 50 = .ok (.i2l, 1) := by decide +kernel
theorem d_SC_at_51 : decode b_SC_at 51 = .ok (.lreturn, 1) := by decide +kernel
theorem d_SC_region_0 : decode b_SC_region 0 = .ok (.aload_n 0, 1) := by decide +kernel
theorem d_SC_region_1 : decode b_SC_region 1 = .ok (.getfield 86, 3) := by decide +kernel
theorem d_SC_region_4 : decode b_SC_region 4 = .ok (.ifCond .ne 7, 3) := by decide +kernel
theorem d_SC_region_7 : decode b_SC_region 7 = .ok (.sipush (-1000), 3) := by decide +kernel
theorem d_SC_region_10 : decode b_SC_region 10 = .ok (.ireturn, 1) := by decide +kernel
theorem d_SC_region_11 : decode b_SC_region 11 = .ok (.aload_n 0, 1) := by decide +kernel
theorem d_SC_region_12 : decode b_SC_region 12 = .ok (.getfield 23, 3) := by decide +kernel
theorem d_SC_region_15 : decode b_SC_region 15 = .ok (.iload_n 1, 1) := by decide +kernel
theorem d_SC_region_16 : decode b_SC_region 16 = .ok (.invokevirtual 57, 3) := by decide +kernel
theorem d_SC_region_19 : decode b_SC_region 19 = .ok (.ifCond .eq 18, 3) := by decide +kernel
theorem d_SC_region_22 : decode b_SC_region 22 = .ok (.aload_n 0, 1) := by decide +kernel
theorem d_SC_region_23 : decode b_SC_region 23 = .ok (.getfield 32, 3) := by decide +kernel
theorem d_SC_region_26 : decode b_SC_region 26 = .ok (.getfield 97, 3) := by decide +kernel
theorem d_SC_region_29 : decode b_SC_region 29 = .ok (.getfield 123, 3) := by decide +kernel
theorem d_SC_region_32 : decode b_SC_region 32 = .ok (.iload_n 1, 1) := by decide +kernel
theorem d_SC_region_33 : decode b_SC_region 33 = .ok (.baload, 1) := by decide +kernel
theorem d_SC_region_34 : decode b_SC_region 34 = .ok (.ifCond .ne 7, 3) := by decide +kernel
theorem d_SC_region_37 : decode b_SC_region 37 = .ok (.sipush (-2000), 3) := by decide +kernel
theorem d_SC_region_40 : decode b_SC_region 40 = .ok (.ireturn, 1) := by decide +kernel
theorem d_SC_region_41 : decode b_SC_region 41 = .ok (.iload_n 2, 1) := by decide +kernel
theorem d_SC_region_42 : decode b_SC_region 42 = .ok (.ifCond .eq 18, 3) := by decide +kernel
theorem d_SC_region_45 : decode b_SC_region 45 = .ok (.aload_n 0, 1) := by decide +kernel
theorem d_SC_region_46 : decode b_SC_region 46 = .ok (.getfield 32, 3) := by decide +kernel
theorem d_SC_region_49 : decode b_SC_region 49 = .ok (.getfield 97, 3) := by decide +kernel
theorem d_SC_region_52 : decode b_SC_region 52 = .ok (.getfield 129, 3) := by decide +kernel
theorem d_SC_region_55 : decode b_SC_region 55 = .ok (.iload_n 1, 1) := by decide +kernel
theorem d_SC_region_56 : decode b_SC_region 56 = .ok (.iaload, 1) := by decide +kernel
theorem d_SC_region_57 : decode b_SC_region 57 = .ok (.goto 15, 3) := by decide +kernel
theorem d_SC_region_60 : decode b_SC_region 60 = .ok (.aload_n 0, 1) := by decide +kernel
theorem d_SC_region_61 : decode b_SC_region 61 = .ok (.getfield 32, 3) := by decide +kernel
theorem d_SC_region_64 : decode b_SC_region 64 = .ok (.getfield 97, 3) := by decide +kernel
theorem d_SC_region_67 : decode b_SC_region 67 = .ok (.getfield 132, 3) := by decide +kernel
theorem d_SC_region_70 : decode b_SC_region 70 = .ok (.iload_n 1, 1) := by decide +kernel
theorem d_SC_region_71 : decode b_SC_region 71 = .ok (.iaload, 1) := by decide +kernel
theorem d_SC_region_72 : decode b_SC_region 72 = .ok (.ireturn, 1) := by decide +kernel
theorem d_SC_work_0 : decode b_SC_work 0 = .ok (.aload_n 0, 1) := by decide +kernel
theorem d_SC_work_1 : decode b_SC_work 1 = .ok (.getfield 23, 3) := by decide +kernel
theorem d_SC_work_4 : decode b_SC_work 4 = .ok (.iload_n 1, 1) := by decide +kernel
theorem d_SC_work_5 : decode b_SC_work 5 = .ok (.invokevirtual 57, 3) := by decide +kernel
theorem d_SC_work_8 : decode b_SC_work 8 = .ok (.ifCond .ne 5, 3) := by decide +kernel
theorem d_SC_work_11 : decode b_SC_work 11 = .ok (.iconst (-1), 1) := by decide +kernel
theorem d_SC_work_12 : decode b_SC_work 12 = .ok (.ireturn, 1) := by decide +kernel
theorem d_SC_work_13 : decode b_SC_work 13 = .ok (.aload_n 0, 1) := by decide +kernel
theorem d_SC_work_14 : decode b_SC_work 14 = .ok (.getfield 86, 3) := by decide +kernel
theorem d_SC_work_17 : decode b_SC_work 17 = .ok (.ifCond .eq 15, 3) := by decide +kernel
theorem d_SC_work_20 : decode b_SC_work 20 = .ok (.aload_n 0, 1) := by decide +kernel
theorem d_SC_work_21 : decode b_SC_work 21 = .ok (.getfield 32, 3) := by decide +kernel
theorem d_SC_work_24 : decode b_SC_work 24 = .ok (.getfield 135, 3) := by decide +kernel
theorem d_SC_work_27 : decode b_SC_work 27 = .ok (.iload_n 1, 1) := by decide +kernel
theorem d_SC_work_28 : decode b_SC_work 28 = .ok (.iaload, 1) := by decide +kernel
theorem d_SC_work_29 : decode b_SC_work 29 = .ok (.goto 5, 3) := by decide +kernel
theorem d_SC_work_32 : decode b_SC_work 32 = .ok (.bipush (-3), 2) := by decide +kernel
theorem d_SC_work_34 : decode b_SC_work 34 = .ok (.ireturn, 1) := by decide +kernel
theorem d_SC_count_0 : decode b_SC_count 0 = .ok (.iload_n 1, 1) := by decide +kernel
theorem d_SC_count_1 : decode b_SC_count 1 = .ok (.tableswitch 159 0 6 #[43, 51, 64, 83, 102, 121, 140], 43) := by decide +kernel
theorem d_SC_count_44 : decode b_SC_count 44 = .ok (.aload_n 0, 1) := by decide +kernel
theorem d_SC_count_45 : decode b_SC_count 45 = .ok (.getfield 23, 3) := by decide +kernel
theorem d_SC_count_48 : decode b_SC_count 48 = .ok (.getfield 50, 3) := by decide +kernel
theorem d_SC_count_51 : decode b_SC_count 51 = .ok (.ireturn, 1) := by decide +kernel
theorem d_SC_count_52 : decode b_SC_count 52 = .ok (.aload_n 0, 1) := by decide +kernel
theorem d_SC_count_53 : decode b_SC_count 53 = .ok (.getfield 86, 3) := by decide +kernel
theorem d_SC_count_56 : decode b_SC_count 56 = .ok (.ifCond .eq 7, 3) := by decide +kernel
theorem d_SC_count_59 : decode b_SC_count 59 = .ok (.iconst 1, 1) := by decide +kernel
theorem d_SC_count_60 : decode b_SC_count 60 = .ok (.goto 4, 3) := by decide +kernel
theorem d_SC_count_63 : decode b_SC_count 63 = .ok (.iconst 0, 1) := by decide +kernel
theorem d_SC_count_64 : decode b_SC_count 64 = .ok (.ireturn, 1) := by decide +kernel
theorem d_SC_count_65 : decode b_SC_count 65 = .ok (.aload_n 0, 1) := by decide +kernel
theorem d_SC_count_66 : decode b_SC_count 66 = .ok (.getfield 86, 3) := by decide +kernel
theorem d_SC_count_69 : decode b_SC_count 69 = .ok (.ifCond .eq 13, 3) := by decide +kernel
theorem d_SC_count_72 : decode b_SC_count 72 = .ok (.aload_n 0, 1) := by decide +kernel
theorem d_SC_count_73 : decode b_SC_count 73 = .ok (.getfield 32, 3) := by decide +kernel
theorem d_SC_count_76 : decode b_SC_count 76 = .ok (.getfield 138, 3) := by decide +kernel
theorem d_SC_count_79 : decode b_SC_count 79 = .ok (.goto 4, 3) := by decide +kernel
theorem d_SC_count_82 : decode b_SC_count 82 = .ok (.iconst 0, 1) := by decide +kernel
theorem d_SC_count_83 : decode b_SC_count 83 = .ok (.ireturn, 1) := by decide +kernel
theorem d_SC_count_84 : decode b_SC_count 84 = .ok (.aload_n 0, 1) := by decide +kernel
theorem d_SC_count_85 : decode b_SC_count 85 = .ok (.getfield 86, 3) := by decide +kernel
theorem d_SC_count_88 : decode b_SC_count 88 = .ok (.ifCond .eq 13, 3) := by decide +kernel
theorem d_SC_count_91 : decode b_SC_count 91 = .ok (.aload_n 0, 1) := by decide +kernel
theorem d_SC_count_92 : decode b_SC_count 92 = .ok (.getfield 32, 3) := by decide +kernel
theorem d_SC_count_95 : decode b_SC_count 95 = .ok (.invokevirtual 141, 3) := by decide +kernel
theorem d_SC_count_98 : decode b_SC_count 98 = .ok (.goto 4, 3) := by decide +kernel
theorem d_SC_count_101 : decode b_SC_count 101 = .ok (.iconst 0, 1) := by decide +kernel
theorem d_SC_count_102 : decode b_SC_count 102 = .ok (.ireturn, 1) := by decide +kernel
theorem d_SC_count_103 : decode b_SC_count 103 = .ok (.aload_n 0, 1) := by decide +kernel
theorem d_SC_count_104 : decode b_SC_count 104 = .ok (.getfield 86, 3) := by decide +kernel
theorem d_SC_count_107 : decode b_SC_count 107 = .ok (.ifCond .eq 13, 3) := by decide +kernel
theorem d_SC_count_110 : decode b_SC_count 110 = .ok (.aload_n 0, 1) := by decide +kernel
theorem d_SC_count_111 : decode b_SC_count 111 = .ok (.getfield 23, 3) := by decide +kernel
theorem d_SC_count_114 : decode b_SC_count 114 = .ok (.invokevirtual 108, 3) := by decide +kernel
theorem d_SC_count_117 : decode b_SC_count 117 = .ok (.goto 4, 3) := by decide +kernel
theorem d_SC_count_120 : decode b_SC_count 120 = .ok (.iconst 0, 1) := by decide +kernel
theorem d_SC_count_121 : decode b_SC_count 121 = .ok (.ireturn, 1) := by decide +kernel
theorem d_SC_count_122 : decode b_SC_count 122 = .ok (.aload_n 0, 1) := by decide +kernel
theorem d_SC_count_123 : decode b_SC_count 123 = .ok (.getfield 86, 3) := by decide +kernel
theorem d_SC_count_126 : decode b_SC_count 126 = .ok (.ifCond .eq 13, 3) := by decide +kernel
theorem d_SC_count_129 : decode b_SC_count 129 = .ok (.aload_n 0, 1) := by decide +kernel
theorem d_SC_count_130 : decode b_SC_count 130 = .ok (.getfield 32, 3) := by decide +kernel
theorem d_SC_count_133 : decode b_SC_count 133 = .ok (.getfield 144, 3) := by decide +kernel
theorem d_SC_count_136 : decode b_SC_count 136 = .ok (.goto 4, 3) := by decide +kernel
theorem d_SC_count_139 : decode b_SC_count 139 = .ok (.iconst 0, 1) := by decide +kernel
theorem d_SC_count_140 : decode b_SC_count 140 = .ok (.ireturn, 1) := by decide +kernel
theorem d_SC_count_141 : decode b_SC_count 141 = .ok (.aload_n 0, 1) := by decide +kernel
theorem d_SC_count_142 : decode b_SC_count 142 = .ok (.getfield 86, 3) := by decide +kernel
theorem d_SC_count_145 : decode b_SC_count 145 = .ok (.ifCond .eq 13, 3) := by decide +kernel
theorem d_SC_count_148 : decode b_SC_count 148 = .ok (.aload_n 0, 1) := by decide +kernel
theorem d_SC_count_149 : decode b_SC_count 149 = .ok (.getfield 32, 3) := by decide +kernel
theorem d_SC_count_152 : decode b_SC_count 152 = .ok (.getfield 94, 3) := by decide +kernel
theorem d_SC_count_155 : decode b_SC_count 155 = .ok (.goto 4, 3) := by decide +kernel
theorem d_SC_count_158 : decode b_SC_count 158 = .ok (.iconst 0, 1) := by decide +kernel
theorem d_SC_count_159 : decode b_SC_count 159 = .ok (.ireturn, 1) := by decide +kernel
theorem d_SC_count_160 : decode b_SC_count 160 = .ok (.iconst (-1), 1) := by decide +kernel
theorem d_SC_count_161 : decode b_SC_count 161 = .ok (.ireturn, 1) := by decide +kernel
theorem d_SC_forgetCompiled_0 : decode b_SC_forgetCompiled 0 = .ok (.aload_n 0, 1) := by decide +kernel
theorem d_SC_forgetCompiled_1 : decode b_SC_forgetCompiled 1 = .ok (.iconst 0, 1) := by decide +kernel
theorem d_SC_forgetCompiled_2 : decode b_SC_forgetCompiled 2 = .ok (.putfield 86, 3) := by decide +kernel
theorem d_SC_forgetCompiled_5 : decode b_SC_forgetCompiled 5 = .ok (.aload_n 0, 1) := by decide +kernel
theorem d_SC_forgetCompiled_6 : decode b_SC_forgetCompiled 6 = .ok (.iconst 0, 1) := by decide +kernel
theorem d_SC_forgetCompiled_7 : decode b_SC_forgetCompiled 7 = .ok (.putfield 105, 3) := by decide +kernel
theorem d_SC_forgetCompiled_10 : decode b_SC_forgetCompiled 10 = .ok (.return_, 1) := by decide +kernel
theorem d_Needs_init_0 : decode b_Needs_init 0 = .ok (.aload_n 0, 1) := by decide +kernel
theorem d_Needs_init_1 : decode b_Needs_init 1 = .ok (.invokespecial 3, 3) := by decide +kernel
theorem d_Needs_init_4 : decode b_Needs_init 4 = .ok (.aload_n 0, 1) := by decide +kernel
theorem d_Needs_init_5 : decode b_Needs_init 5 = .ok (.bipush 8, 2) := by decide +kernel
theorem d_Needs_init_7 : decode b_Needs_init 7 = .ok (.newarray .boolean, 2) := by decide +kernel
theorem d_Needs_init_9 : decode b_Needs_init 9 = .ok (.putfield 9, 3) := by decide +kernel
theorem d_Needs_init_12 : decode b_Needs_init 12 = .ok (.aload_n 0, 1) := by decide +kernel
theorem d_Needs_init_13 : decode b_Needs_init 13 = .ok (.bipush 8, 2) := by decide +kernel
theorem d_Needs_init_15 : decode b_Needs_init 15 = .ok (.newarray .int, 2) := by decide +kernel
theorem d_Needs_init_17 : decode b_Needs_init 17 = .ok (.putfield 15, 3) := by decide +kernel
theorem d_Needs_init_20 : decode b_Needs_init 20 = .ok (.aload_n 0, 1) := by decide +kernel
theorem d_Needs_init_21 : decode b_Needs_init 21 = .ok (.bipush 8, 2) := by decide +kernel
theorem d_Needs_init_23 : decode b_Needs_init 23 = .ok (.newarray .int, 2) := by decide +kernel
theorem d_Needs_init_25 : decode b_Needs_init 25 = .ok (.putfield 19, 3) := by decide +kernel
theorem d_Needs_init_28 : decode b_Needs_init 28 = .ok (.return_, 1) := by decide +kernel
theorem d_Needs_spread_0 : decode b_Needs_spread 0 = .ok (.iconst 0, 1) := by decide +kernel
theorem d_Needs_spread_1 : decode b_Needs_spread 1 = .ok (.istore 4, 2) := by decide +kernel
theorem d_Needs_spread_3 : decode b_Needs_spread 3 = .ok (.iload 4, 2) := by decide +kernel
theorem d_Needs_spread_5 : decode b_Needs_spread 5 = .ok (.bipush 8, 2) := by decide +kernel
theorem d_Needs_spread_7 : decode b_Needs_spread 7 = .ok (.if_icmp .ge 17, 3) := by decide +kernel
theorem d_Needs_spread_10 : decode b_Needs_spread 10 = .ok (.aload_n 0, 1) := by decide +kernel
end
section
theorem d_Needs_spread_11 : decode b_Needs_spread 11 = .ok (.getfield 9, 3) := by decide +kernel
theorem d_Needs_spread_14 : decode b_Needs_spread 14 = .ok (.iload 4, 2) := by decide +kernel
theorem d_Needs_spread_16 : decode b_Needs_spread 16 = .ok (.iconst 0, 1) := by decide +kernel
theorem d_Needs_spread_17 : decode b_Needs_spread 17 = .ok (.bastore, 1) := by decide +kernel
theorem d_Needs_spread_18 : decode b_Needs_spread 18 = .ok (.iinc 4 1, 3) := by decide +kernel
theorem d_Needs_spread_21 : decode b_Needs_spread 21 = .ok (.goto (-18), 3) := by decide +kernel
theorem d_Needs_spread_24 : decode b_Needs_spread 24 = .ok (.aload_n 0, 1) := by decide +kernel
theorem d_Needs_spread_25 : decode b_Needs_spread 25 = .ok (.aload_n 1, 1) := by decide +kernel
theorem d_Needs_spread_26 : decode b_Needs_spread 26 = .ok (.getfield 22, 3) := by decide +kernel
theorem d_Needs_spread_29 : decode b_Needs_spread 29 = .ok (.iload_n 2, 1) := by decide +kernel
theorem d_Needs_spread_30 : decode b_Needs_spread 30 = .ok (.iload_n 3, 1) := by decide +kernel
theorem d_Needs_spread_31 : decode b_Needs_spread 31 = .ok (.invokevirtual 28, 3) := by decide +kernel
theorem d_Needs_spread_34 : decode b_Needs_spread 34 = .ok (.aload_n 1, 1) := by decide +kernel
theorem d_Needs_spread_35 : decode b_Needs_spread 35 = .ok (.getfield 22, 3) := by decide +kernel
theorem d_Needs_spread_38 : decode b_Needs_spread 38 = .ok (.istore 4, 2) := by decide +kernel
theorem d_Needs_spread_40 : decode b_Needs_spread 40 = .ok (.iload 4, 2) := by decide +kernel
theorem d_Needs_spread_42 : decode b_Needs_spread 42 = .ok (.ifCond .lt 44, 3) := by decide +kernel
theorem d_Needs_spread_45 : decode b_Needs_spread 45 = .ok (.aload_n 0, 1) := by decide +kernel
theorem d_Needs_spread_46 : decode b_Needs_spread 46 = .ok (.getfield 9, 3) := by decide +kernel
theorem d_Needs_spread_49 : decode b_Needs_spread 49 = .ok (.iload 4, 2) := by decide +kernel
theorem d_Needs_spread_51 : decode b_Needs_spread 51 = .ok (.baload, 1) := by decide +kernel
theorem d_Needs_spread_52 : decode b_Needs_spread 52 = .ok (.ifCond .eq 28, 3) := by decide +kernel
theorem d_Needs_spread_55 : decode b_Needs_spread 55 = .ok (.aload_n 0, 1) := by decide +kernel
theorem d_Needs_spread_56 : decode b_Needs_spread 56 = .ok (.aload_n 1, 1) := by decide +kernel
theorem d_Needs_spread_57 : decode b_Needs_spread 57 = .ok (.getfield 32, 3) := by decide +kernel
theorem d_Needs_spread_60 : decode b_Needs_spread 60 = .ok (.iload 4, 2) := by decide +kernel
theorem d_Needs_spread_62 : decode b_Needs_spread 62 = .ok (.aaload, 1) := by decide +kernel
theorem d_Needs_spread_63 : decode b_Needs_spread 63 = .ok (.aload_n 0, 1) := by decide +kernel
theorem d_Needs_spread_64 : decode b_Needs_spread 64 = .ok (.getfield 15, 3) := by decide +kernel
theorem d_Needs_spread_67 : decode b_Needs_spread 67 = .ok (.iload 4, 2) := by decide +kernel
theorem d_Needs_spread_69 : decode b_Needs_spread 69 = .ok (.iaload, 1) := by decide +kernel
theorem d_Needs_spread_70 : decode b_Needs_spread 70 = .ok (.aload_n 0, 1) := by decide +kernel
theorem d_Needs_spread_71 : decode b_Needs_spread 71 = .ok (.getfield 19, 3) := by decide +kernel
theorem d_Needs_spread_74 : decode b_Needs_spread 74 = .ok (.iload 4, 2) := by decide +kernel
theorem d_Needs_spread_76 : decode b_Needs_spread 76 = .ok (.iaload, 1) := by decide +kernel
theorem d_Needs_spread_77 : decode b_Needs_spread 77 = .ok (.invokevirtual 36, 3) := by decide +kernel
theorem d_Needs_spread_80 : decode b_Needs_spread 80 = .ok (.iinc 4 (-1), 3) := by decide +kernel
theorem d_Needs_spread_83 : decode b_Needs_spread 83 = .ok (.goto (-43), 3) := by decide +kernel
theorem d_Needs_spread_86 : decode b_Needs_spread 86 = .ok (.return_, 1) := by decide +kernel
theorem d_Needs_handOn_0 : decode b_Needs_handOn 0 = .ok (.iconst 0, 1) := by decide +kernel
theorem d_Needs_handOn_1 : decode b_Needs_handOn 1 = .ok (.istore 4, 2) := by decide +kernel
theorem d_Needs_handOn_3 : decode b_Needs_handOn 3 = .ok (.iload 4, 2) := by decide +kernel
theorem d_Needs_handOn_5 : decode b_Needs_handOn 5 = .ok (.aload_n 1, 1) := by decide +kernel
theorem d_Needs_handOn_6 : decode b_Needs_handOn 6 = .ok (.getfield 40, 3) := by decide +kernel
theorem d_Needs_handOn_9 : decode b_Needs_handOn 9 = .ok (.if_icmp .ge 49, 3) := by decide +kernel
theorem d_Needs_handOn_12 : decode b_Needs_handOn 12 = .ok (.aload_n 1, 1) := by decide +kernel
theorem d_Needs_handOn_13 : decode b_Needs_handOn 13 = .ok (.getfield 45, 3) := by decide +kernel
theorem d_Needs_handOn_16 : decode b_Needs_handOn 16 = .ok (.iload 4, 2) := by decide +kernel
theorem d_Needs_handOn_18 : decode b_Needs_handOn 18 = .ok (.iaload, 1) := by decide +kernel
theorem d_Needs_handOn_19 : decode b_Needs_handOn 19 = .ok (.iconst (-1), 1) := by decide +kernel
theorem d_Needs_handOn_20 : decode b_Needs_handOn 20 = .ok (.if_icmp .eq 32, 3) := by decide +kernel
theorem d_Needs_handOn_23 : decode b_Needs_handOn 23 = .ok (.aload_n 0, 1) := by decide +kernel
theorem d_Needs_handOn_24 : decode b_Needs_handOn 24 = .ok (.aload_n 1, 1) := by decide +kernel
theorem d_Needs_handOn_25 : decode b_Needs_handOn 25 = .ok (.getfield 45, 3) := by decide +kernel
theorem d_Needs_handOn_28 : decode b_Needs_handOn 28 = .ok (.iload 4, 2) := by decide +kernel
theorem d_Needs_handOn_30 : decode b_Needs_handOn 30 = .ok (.iaload, 1) := by decide +kernel
theorem d_Needs_handOn_31 : decode b_Needs_handOn 31 = .ok (.iload_n 2, 1) := by decide +kernel
theorem d_Needs_handOn_32 : decode b_Needs_handOn 32 = .ok (.aload_n 1, 1) := by decide +kernel
theorem d_Needs_handOn_33 : decode b_Needs_handOn 33 = .ok (.getfield 48, 3) := by decide +kernel
theorem d_Needs_handOn_36 : decode b_Needs_handOn 36 = .ok (.iload 4, 2) := by decide +kernel
theorem d_Needs_handOn_38 : decode b_Needs_handOn 38 = .ok (.iaload, 1) := by decide +kernel
theorem d_Needs_handOn_39 : decode b_Needs_handOn 39 = .ok (.iadd, 1) := by decide +kernel
theorem d_Needs_handOn_40 : decode b_Needs_handOn 40 = .ok (.iload_n 3, 1) := by decide +kernel
theorem d_Needs_handOn_41 : decode b_Needs_handOn 41 = .ok (.aload_n 1, 1) := by decide +kernel
theorem d_Needs_handOn_42 : decode b_Needs_handOn 42 = .ok (.getfield 48, 3) := by decide +kernel
theorem d_Needs_handOn_45 : decode b_Needs_handOn 45 = .ok (.iload 4, 2) := by decide +kernel
theorem d_Needs_handOn_47 : decode b_Needs_handOn 47 = .ok (.iaload, 1) := by decide +kernel
theorem d_Needs_handOn_48 : decode b_Needs_handOn 48 = .ok (.iadd, 1) := by decide +kernel
theorem d_Needs_handOn_49 : decode b_Needs_handOn 49 = .ok (.invokevirtual 28, 3) := by decide +kernel
theorem d_Needs_handOn_52 : decode b_Needs_handOn 52 = .ok (.iinc 4 1, 3) := by decide +kernel
theorem d_Needs_handOn_55 : decode b_Needs_handOn 55 = .ok (.goto (-52), 3) := by decide +kernel
theorem d_Needs_handOn_58 : decode b_Needs_handOn 58 = .ok (.return_, 1) := by decide +kernel
theorem d_Needs_widen_0 : decode b_Needs_widen 0 = .ok (.aload_n 0, 1) := by decide +kernel
theorem d_Needs_widen_1 : decode b_Needs_widen 1 = .ok (.getfield 15, 3) := by decide +kernel
theorem d_Needs_widen_4 : decode b_Needs_widen 4 = .ok (.iload_n 1, 1) := by decide +kernel
theorem d_Needs_widen_5 : decode b_Needs_widen 5 = .ok (.aload_n 0, 1) := by decide +kernel
theorem d_Needs_widen_6 : decode b_Needs_widen 6 = .ok (.getfield 9, 3) := by decide +kernel
theorem d_Needs_widen_9 : decode b_Needs_widen 9 = .ok (.iload_n 1, 1) := by decide +kernel
theorem d_Needs_widen_10 : decode b_Needs_widen 10 = .ok (.baload, 1) := by decide +kernel
theorem d_Needs_widen_11 : decode b_Needs_widen 11 = .ok (.ifCond .eq 16, 3) := by decide +kernel
theorem d_Needs_widen_14 : decode b_Needs_widen 14 = .ok (.aload_n 0, 1) := by decide +kernel
theorem d_Needs_widen_15 : decode b_Needs_widen 15 = .ok (.getfield 15, 3) := by decide +kernel
theorem d_Needs_widen_18 : decode b_Needs_widen 18 = .ok (.iload_n 1, 1) := by decide +kernel
theorem d_Needs_widen_19 : decode b_Needs_widen 19 = .ok (.iaload, 1) := by decide +kernel
theorem d_Needs_widen_20 : decode b_Needs_widen 20 = .ok (.iload_n 2, 1) := by decide +kernel
theorem d_Needs_widen_21 : decode b_Needs_widen 21 = .ok (.invokestatic 51, 3) := by decide +kernel
theorem d_Needs_widen_24 : decode b_Needs_widen 24 = .ok (.goto 4, 3) := by decide +kernel
theorem d_Needs_widen_27 : decode b_Needs_widen 27 = .ok (.iload_n 2, 1) := by decide +kernel
theorem d_Needs_widen_28 : decode b_Needs_widen 28 = .ok (.iastore, 1) := by decide +kernel
theorem d_Needs_widen_29 : decode b_Needs_widen 29 = .ok (.aload_n 0, 1) := by decide +kernel
theorem d_Needs_widen_30 : decode b_Needs_widen 30 = .ok (.getfield 19, 3) := by decide +kernel
theorem d_Needs_widen_33 : decode b_Needs_widen 33 = .ok (.iload_n 1, 1) := by decide +kernel
theorem d_Needs_widen_34 : decode b_Needs_widen 34 = .ok (.aload_n 0, 1) := by decide +kernel
theorem d_Needs_widen_35 : decode b_Needs_widen 35 = .ok (.getfield 9, 3) := by decide +kernel
theorem d_Needs_widen_38 : decode b_Needs_widen 38 = .ok (.iload_n 1, 1) := by decide +kernel
theorem d_Needs_widen_39 : decode b_Needs_widen 39 = .ok (.baload, 1) := by decide +kernel
theorem d_Needs_widen_40 : decode b_Needs_widen 40 = .ok (.ifCond .eq 16, 3) := by decide +kernel
theorem d_Needs_widen_43 : decode b_Needs_widen 43 = .ok (.aload_n 0, 1) := by decide +kernel
theorem d_Needs_widen_44 : decode b_Needs_widen 44 = .ok (.getfield 19, 3) := by decide +kernel
theorem d_Needs_widen_47 : decode b_Needs_widen 47 = .ok (.iload_n 1, 1) := by decide +kernel
theorem d_Needs_widen_48 : decode b_Needs_widen 48 = .ok (.iaload, 1) := by decide +kernel
theorem d_Needs_widen_49 : decode b_Needs_widen 49 = .ok (.iload_n 3, 1) := by decide +kernel
theorem d_Needs_widen_50 : decode b_Needs_widen 50 = .ok (.invokestatic 57, 3) := by decide +kernel
theorem d_Needs_widen_53 : decode b_Needs_widen 53 = .ok (.goto 4, 3) := by decide +kernel
theorem d_Needs_widen_56 : decode b_Needs_widen 56 = .ok (.iload_n 3, 1) := by decide +kernel
theorem d_Needs_widen_57 : decode b_Needs_widen 57 = .ok (.iastore, 1) := by decide +kernel
theorem d_Needs_widen_58 : decode b_Needs_widen 58 = .ok (.aload_n 0, 1) := by decide +kernel
theorem d_Needs_widen_59 : decode b_Needs_widen 59 = .ok (.getfield 9, 3) := by decide +kernel
theorem d_Needs_widen_62 : decode b_Needs_widen 62 = .ok (.iload_n 1, 1) := by decide +kernel
theorem d_Needs_widen_63 : decode b_Needs_widen 63 = .ok (.iconst 1, 1) := by decide +kernel
theorem d_Needs_widen_64 : decode b_Needs_widen 64 = .ok (.bastore, 1) := by decide +kernel
theorem d_Needs_widen_65 : decode b_Needs_widen 65 = .ok (.return_, 1) := by decide +kernel
theorem d_Needs_lengthOf_0 : decode b_Needs_lengthOf 0 = .ok (.aload_n 0, 1) := by decide +kernel
theorem d_Needs_lengthOf_1 : decode b_Needs_lengthOf 1 = .ok (.getfield 19, 3) := by decide +kernel
theorem d_Needs_lengthOf_4 : decode b_Needs_lengthOf 4 = .ok (.iload_n 1, 1) := by decide +kernel
theorem d_Needs_lengthOf_5 : decode b_Needs_lengthOf 5 = .ok (.iaload, 1) := by decide +kernel
theorem d_Needs_lengthOf_6 : decode b_Needs_lengthOf 6 = .ok (.aload_n 0, 1) := by decide +kernel
theorem d_Needs_lengthOf_7 : decode b_Needs_lengthOf 7 = .ok (.getfield 15, 3) := by decide +kernel
theorem d_Needs_lengthOf_10 : decode b_Needs_lengthOf 10 = .ok (.iload_n 1, 1) := by decide +kernel
theorem d_Needs_lengthOf_11 : decode b_Needs_lengthOf 11 = .ok (.iaload, 1) := by decide +kernel
theorem d_Needs_lengthOf_12 : decode b_Needs_lengthOf 12 = .ok (.isub, 1) := by decide +kernel
theorem d_Needs_lengthOf_13 : decode b_Needs_lengthOf 13 = .ok (.iconst 1, 1) := by decide +kernel
theorem d_Needs_lengthOf_14 : decode b_Needs_lengthOf 14 = .ok (.iadd, 1) := by decide +kernel
theorem d_Needs_lengthOf_15 : decode b_Needs_lengthOf 15 = .ok (.ireturn, 1) := by decide +kernel
theorem d_Pipe_init_0 : decode b_Pipe_init 0 = .ok (.aload_n 0, 1) := by decide +kernel
theorem d_Pipe_init_1 : decode b_Pipe_init 1 = .ok (.invokespecial 3, 3) := by decide +kernel
theorem d_Pipe_init_4 : decode b_Pipe_init 4 = .ok (.aload_n 0, 1) := by decide +kernel
theorem d_Pipe_init_5 : decode b_Pipe_init 5 = .ok (.bipush 8, 2) := by decide +kernel
theorem d_Pipe_init_7 : decode b_Pipe_init 7 = .ok (.anewarray 9, 3) := by decide +kernel
theorem d_Pipe_init_10 : decode b_Pipe_init 10 = .ok (.putfield 11, 3) := by decide +kernel
theorem d_Pipe_init_13 : decode b_Pipe_init 13 = .ok (.aload_n 0, 1) := by decide +kernel
theorem d_Pipe_init_14 : decode b_Pipe_init 14 = .ok (.bipush 8, 2) := by decide +kernel
theorem d_Pipe_init_16 : decode b_Pipe_init 16 = .ok (.newarray .int, 2) := by decide +kernel
theorem d_Pipe_init_18 : decode b_Pipe_init 18 = .ok (.putfield 17, 3) := by decide +kernel
theorem d_Pipe_init_21 : decode b_Pipe_init 21 = .ok (.aload_n 0, 1) := by decide +kernel
theorem d_Pipe_init_22 : decode b_Pipe_init 22 = .ok (.iconst 4, 1) := by decide +kernel
theorem d_Pipe_init_23 : decode b_Pipe_init 23 = .ok (.putfield 21, 3) := by decide +kernel
theorem d_Pipe_init_26 : decode b_Pipe_init 26 = .ok (.aload_n 0, 1) := by decide +kernel
theorem d_Pipe_init_27 : decode b_Pipe_init 27 = .ok (.iconst (-1), 1) := by decide +kernel
theorem d_Pipe_init_28 : decode b_Pipe_init 28 = .ok (.putfield 25, 3) := by decide +kernel
theorem d_Pipe_init_31 : decode b_Pipe_init 31 = .ok (.aload_n 0, 1) := by decide +kernel
theorem d_Pipe_init_32 : decode b_Pipe_init 32 = .ok (.iload_n 1, 1) := by decide +kernel
theorem d_Pipe_init_33 : decode b_Pipe_init 33 = .ok (.newarray .int, 2) := by decide +kernel
theorem d_Pipe_init_35 : decode b_Pipe_init 35 = .ok (.putfield 28, 3) := by decide +kernel
theorem d_Pipe_init_38 : decode b_Pipe_init 38 = .ok (.iconst 0, 1) := by decide +kernel
theorem d_Pipe_init_39 : decode b_Pipe_init 39 = .ok (.istore_n 2, 1) := by decide +kernel
theorem d_Pipe_init_40 : decode b_Pipe_init 40 = .ok (.iload_n 2, 1) := by decide +kernel
theorem d_Pipe_init_41 : decode b_Pipe_init 41 = .ok (.bipush 8, 2) := by decide +kernel
theorem d_Pipe_init_43 : decode b_Pipe_init 43 = .ok (.if_icmp .ge 22, 3) := by decide +kernel
theorem d_Pipe_init_46 : decode b_Pipe_init 46 = .ok (.aload_n 0, 1) := by decide +kernel
theorem d_Pipe_init_47 : decode b_Pipe_init 47 = .ok (.getfield 11, 3) := by decide +kernel
theorem d_Pipe_init_50 : decode b_Pipe_init 50 = .ok (.iload_n 2, 1) := by decide +kernel
theorem d_Pipe_init_51 : decode b_Pipe_init 51 = .ok (.new 9, 3) := by decide +kernel
theorem d_Pipe_init_54 : decode b_Pipe_init 54 = .ok (.dup, 1) := by decide +kernel
theorem d_Pipe_init_55 : decode b_Pipe_init 55 = .ok (.invokespecial 31, 3) := by decide +kernel
theorem d_Pipe_init_58 : decode b_Pipe_init 58 = .ok (.aastore, 1) := by decide +kernel
theorem d_Pipe_init_59 : decode b_Pipe_init 59 = .ok (.iinc 2 1, 3) := by decide +kernel
theorem d_Pipe_init_62 : decode b_Pipe_init 62 = .ok (.goto (-22), 3) := by decide +kernel
theorem d_Pipe_init_65 : decode b_Pipe_init 65 = .ok (.return_, 1) := by decide +kernel
theorem d_Pipe_hasStage_0 : decode b_Pipe_hasStage 0 = .ok (.iload_n 1, 1) := by decide +kernel
theorem d_Pipe_hasStage_1 : decode b_Pipe_hasStage 1 = .ok (.ifCond .lt 15, 3) := by decide +kernel
theorem d_Pipe_hasStage_4 : decode b_Pipe_hasStage 4 = .ok (.iload_n 1, 1) := by decide +kernel
theorem d_Pipe_hasStage_5 : decode b_Pipe_hasStage 5 = .ok (.aload_n 0, 1) := by decide +kernel
theorem d_Pipe_hasStage_6 : decode b_Pipe_hasStage 6 = .ok (.getfield 32, 3) := by decide +kernel
theorem d_Pipe_hasStage_9 : decode b_Pipe_hasStage 9 = .ok (.if_icmp .ge 7, 3) := by decide +kernel
theorem d_Pipe_hasStage_12 : decode b_Pipe_hasStage 12 = .ok (.iconst 1, 1) := by decide +kernel
theorem d_Pipe_hasStage_13 : decode b_Pipe_hasStage 13 = .ok (.goto 4, 3) := by decide +kernel
theorem d_Pipe_hasStage_16 : decode b_Pipe_hasStage 16 = .ok (.iconst 0, 1) := by decide +kernel
theorem d_Pipe_hasStage_17 : decode b_Pipe_hasStage 17 = .ok (.ireturn, 1) := by decide +kernel
theorem d_Pipe_addStage_0 : decode b_Pipe_addStage 0 = .ok (.aload_n 0, 1) := by decide +kernel
theorem d_Pipe_addStage_1 : decode b_Pipe_addStage 1 = .ok (.getfield 11, 3) := by decide +kernel
theorem d_Pipe_addStage_4 : decode b_Pipe_addStage 4 = .ok (.aload_n 0, 1) := by decide +kernel
theorem d_Pipe_addStage_5 : decode b_Pipe_addStage 5 = .ok (.getfield 32, 3) := by decide +kernel
theorem d_Pipe_addStage_8 : decode b_Pipe_addStage 8 = .ok (.aaload, 1) := by decide +kernel
theorem d_Pipe_addStage_9 : decode b_Pipe_addStage 9 = .ok (.astore_n 3, 1) := by decide +kernel
theorem d_Pipe_addStage_10 : decode b_Pipe_addStage 10 = .ok (.aload_n 3, 1) := by decide +kernel
theorem d_Pipe_addStage_11 : decode b_Pipe_addStage 11 = .ok (.iload_n 1, 1) := by decide +kernel
theorem d_Pipe_addStage_12 : decode b_Pipe_addStage 12 = .ok (.putfield 35, 3) := by decide +kernel
theorem d_Pipe_addStage_15 : decode b_Pipe_addStage 15 = .ok (.aload_n 3, 1) := by decide +kernel
theorem d_Pipe_addStage_16 : decode b_Pipe_addStage 16 = .ok (.iload_n 2, 1) := by decide +kernel
theorem d_Pipe_addStage_17 : decode b_Pipe_addStage 17 = .ok (.putfield 38, 3) := by decide +kernel
theorem d_Pipe_addStage_20 : decode b_Pipe_addStage 20 = .ok (.aload_n 0, 1) := by decide +kernel
theorem d_Pipe_addStage_21 : decode b_Pipe_addStage 21 = .ok (.dup, 1) := by decide +kernel
theorem d_Pipe_addStage_22 : decode b_Pipe_addStage 22 = .ok (.getfield 32, 3) := by decide +kernel
theorem d_Pipe_addStage_25 : decode b_Pipe_addStage 25 = .ok (.iconst 1, 1) := by decide +kernel
theorem d_Pipe_addStage_26 : decode b_Pipe_addStage 26 = .ok (.iadd, 1) := by decide +kernel
theorem d_Pipe_addStage_27 : decode b_Pipe_addStage 27 = .ok (.putfield 32, 3) := by decide +kernel
theorem d_Pipe_addStage_30 : decode b_Pipe_addStage 30 = .ok (.aload_n 0, 1) := by decide +kernel
theorem d_Pipe_addStage_31 : decode b_Pipe_addStage 31 = .ok (.getfield 32, 3) := by decide +kernel
theorem d_Pipe_addStage_34 : decode b_Pipe_addStage 34 = .ok (.iconst 1, 1) := by decide +kernel
theorem d_Pipe_addStage_35 : decode b_Pipe_addStage 35 = .ok (.isub, 1) := by decide +kernel
theorem d_Pipe_addStage_36 : decode b_Pipe_addStage 36 = .ok (.ireturn, 1) := by decide +kernel
theorem d_Pipe_tileCount_0 : decode b_Pipe_tileCount 0 = .ok (.aload_n 0, 1) := by decide +kernel
theorem d_Pipe_tileCount_1 : decode b_Pipe_tileCount 1 = .ok (.getfield 41, 3) := by decide +kernel
theorem d_Pipe_tileCount_4 : decode b_Pipe_tileCount 4 = .ok (.aload_n 0, 1) := by decide +kernel
theorem d_Pipe_tileCount_5 : decode b_Pipe_tileCount 5 = .ok (.getfield 21, 3) := by decide +kernel
theorem d_Pipe_tileCount_8 : decode b_Pipe_tileCount 8 = .ok (.iadd, 1) := by decide +kernel
theorem d_Pipe_tileCount_9 : decode b_Pipe_tileCount 9 = .ok (.iconst 1, 1) := by decide +kernel
theorem d_Pipe_tileCount_10 : decode b_Pipe_tileCount 10 = .ok (.isub, 1) := by decide +kernel
theorem d_Pipe_tileCount_11 : decode b_Pipe_tileCount 11 = .ok (.aload_n 0, 1) := by decide +kernel
theorem d_Pipe_tileCount_12 : decode b_Pipe_tileCount 12 = .ok (.getfield 21, 3) := by decide +kernel
theorem d_Pipe_tileCount_15 : decode b_Pipe_tileCount 15 = .ok (.idiv, 1) := by decide +kernel
theorem d_Pipe_tileCount_16 : decode b_Pipe_tileCount 16 = .ok (.ireturn, 1) := by decide +kernel
theorem d_Pipe_tileFirst_0 : decode b_Pipe_tileFirst 0 = .ok (.iload_n 1, 1) := by decide +kernel
theorem d_Pipe_tileFirst_1 : decode b_Pipe_tileFirst 1 = .ok (.aload_n 0, 1) := by decide +kernel
theorem d_Pipe_tileFirst_2 : decode b_Pipe_tileFirst 2 = .ok (.getfield 21, 3) := by decide +kernel
theorem d_Pipe_tileFirst_5 : decode b_Pipe_tileFirst 5 = .ok (.imul, 1) := by decide +kernel
theorem d_Pipe_tileFirst_6 : decode b_Pipe_tileFirst 6 = .ok (.ireturn, 1) := by decide +kernel
theorem d_Pipe_tileLast_0 : decode b_Pipe_tileLast 0 = .ok (.aload_n 0, 1) := by decide +kernel
theorem d_Pipe_tileLast_1 : decode b_Pipe_tileLast 1 = .ok (.iload_n 1, 1) := by decide +kernel
theorem d_Pipe_tileLast_2 : decode b_Pipe_tileLast 2 = .ok (.invokevirtual 44, 3) := by decide +kernel
theorem d_Pipe_tileLast_5 : decode b_Pipe_tileLast 5 = .ok (.aload_n 0, 1) := by decide +kernel
theorem d_Pipe_tileLast_6 : decode b_Pipe_tileLast 6 = .ok (.getfield 21, 3) := by decide +kernel
theorem d_Pipe_tileLast_9 : decode b_Pipe_tileLast 9 = .ok (.iadd, 1) := by decide +kernel
theorem d_Pipe_tileLast_10 : decode b_Pipe_tileLast 10 = .ok (.aload_n 0, 1) := by decide +kernel
theorem d_Pipe_tileLast_11 : decode b_Pipe_tileLast 11 = .ok (.getfield 41, 3) := by decide +kernel
theorem d_Pipe_tileLast_14 : decode b_Pipe_tileLast 14 = .ok (.invokestatic 48, 3) := by decide +kernel
theorem d_Pipe_tileLast_17 : decode b_Pipe_tileLast 17 = .ok (.iconst 1, 1) := by decide +kernel
theorem d_Pipe_tileLast_18 : decode b_Pipe_tileLast 18 = .ok (.isub, 1) := by decide +kernel
theorem d_Pipe_tileLast_19 : decode b_Pipe_tileLast 19 = .ok (.ireturn, 1) := by decide +kernel
theorem d_Pipe_valuesWorkedOutFor_0 : decode b_Pipe_valuesWorkedOutFor 0 = .ok (.iconst 0, 1) := by decide +kernel
theorem d_Pipe_valuesWorkedOutFor_1 : decode b_Pipe_valuesWorkedOutFor 1 = .ok (.istore_n 2, 1) := by decide +kernel
theorem d_Pipe_valuesWorkedOutFor_2 : decode b_Pipe_valuesWorkedOutFor 2 = .ok (.iload_n 2, 1) := by decide +kernel
theorem d_Pipe_valuesWorkedOutFor_3 : decode b_Pipe_valuesWorkedOutFor 3 = .ok (.iload_n 1, 1) := by decide +kernel
theorem d_Pipe_valuesWorkedOutFor_4 : decode b_Pipe_valuesWorkedOutFor 4 = .ok (.if_icmp .gt 76, 3) := by decide +kernel
theorem d_Pipe_valuesWorkedOutFor_7 : decode b_Pipe_valuesWorkedOutFor 7 = .ok (.aload_n 0, 1) := by decide +kernel
theorem d_Pipe_valuesWorkedOutFor_8 : decode b_Pipe_valuesWorkedOutFor 8 = .ok (.getfield 11, 3) := by decide +kernel
theorem d_Pipe_valuesWorkedOutFor_11 : decode b_Pipe_valuesWorkedOutFor 11 = .ok (.iload_n 2, 1) := by decide +kernel
theorem d_Pipe_valuesWorkedOutFor_12 : decode b_Pipe_valuesWorkedOutFor 12 = .ok (.aaload, 1) := by decide +kernel
theorem d_Pipe_valuesWorkedOutFor_13 : decode b_Pipe_valuesWorkedOutFor 13 = .ok (.astore_n 3, 1) := by decide +kernel
theorem d_Pipe_valuesWorkedOutFor_14 : decode b_Pipe_valuesWorkedOutFor 14 = .ok (.iconst 1, 1) := by decide +kernel
theorem d_Pipe_valuesWorkedOutFor_15 : decode b_Pipe_valuesWorkedOutFor 15 = .ok (.istore 4, 2) := by decide +kernel
theorem d_Pipe_valuesWorkedOutFor_17 : decode b_Pipe_valuesWorkedOutFor 17 = .ok (.iconst 0, 1) := by decide +kernel
theorem d_Pipe_valuesWorkedOutFor_18 : decode b_Pipe_valuesWorkedOutFor 18 = .ok (.istore 5, 2) := by decide +kernel
theorem d_Pipe_valuesWorkedOutFor_20 : decode b_Pipe_valuesWorkedOutFor 20 = .ok (.iload 5, 2) := by decide +kernel
theorem d_Pipe_valuesWorkedOutFor_22 : decode b_Pipe_valuesWorkedOutFor 22 = .ok (.aload_n 3, 1) := by decide +kernel
theorem d_Pipe_valuesWorkedOutFor_23 : decode b_Pipe_valuesWorkedOutFor 23 = .ok (.getfield 54, 3) := by decide +kernel
theorem d_Pipe_valuesWorkedOutFor_26 : decode b_Pipe_valuesWorkedOutFor 26 = .ok (.if_icmp .ge 40, 3) := by decide +kernel
theorem d_Pipe_valuesWorkedOutFor_29 : decode b_Pipe_valuesWorkedOutFor 29 = .ok (.aload_n 3, 1) := by decide +kernel
theorem d_Pipe_valuesWorkedOutFor_30 : decode b_Pipe_valuesWorkedOutFor 30 = .ok (.getfield 57, 3) := by decide +kernel
theorem d_Pipe_valuesWorkedOutFor_33 : decode b_Pipe_valuesWorkedOutFor 33 = .ok (.iload 5, 2) := by decide +kernel
theorem d_Pipe_valuesWorkedOutFor_35 : decode b_Pipe_valuesWorkedOutFor 35 = .ok (.iaload, 1) := by decide +kernel
theorem d_Pipe_valuesWorkedOutFor_36 : decode b_Pipe_valuesWorkedOutFor 36 = .ok (.istore 6, 2) := by decide +kernel
theorem d_Pipe_valuesWorkedOutFor_38 : decode b_Pipe_valuesWorkedOutFor 38 = .ok (.iload 4, 2) := by decide +kernel
theorem d_Pipe_valuesWorkedOutFor_40 : decode b_Pipe_valuesWorkedOutFor 40 = .ok (.iload 6, 2) := by decide +kernel
theorem d_Pipe_valuesWorkedOutFor_42 : decode b_Pipe_valuesWorkedOutFor 42 = .ok (.iconst (-1), 1) := by decide +kernel
theorem d_Pipe_valuesWorkedOutFor_43 : decode b_Pipe_valuesWorkedOutFor 43 = .ok (.if_icmp .ne 7, 3) := by decide +kernel
theorem d_Pipe_valuesWorkedOutFor_46 : decode b_Pipe_valuesWorkedOutFor 46 = .ok (.iconst 0, 1) := by decide +kernel
theorem d_Pipe_valuesWorkedOutFor_47 : decode b_Pipe_valuesWorkedOutFor 47 = .ok (.goto 10, 3) := by decide +kernel
theorem d_Pipe_valuesWorkedOutFor_50 : decode b_Pipe_valuesWorkedOutFor 50 = .ok (.aload_n 0, 1) := by decide +kernel
theorem d_Pipe_valuesWorkedOutFor_51 : decode b_Pipe_valuesWorkedOutFor 51 = .ok (.getfield 17, 3) := by decide +kernel
theorem d_Pipe_valuesWorkedOutFor_54 : decode b_Pipe_valuesWorkedOutFor 54 = .ok (.iload 6, 2) := by decide +kernel
theorem d_Pipe_valuesWorkedOutFor_56 : decode b_Pipe_valuesWorkedOutFor 56 = .ok (.iaload, 1) := by decide +kernel
theorem d_Pipe_valuesWorkedOutFor_57 : decode b_Pipe_valuesWorkedOutFor 57 = .ok (.iadd, 1) := by decide +kernel
theorem d_Pipe_valuesWorkedOutFor_58 : decode b_Pipe_valuesWorkedOutFor 58 = .ok (.istore 4, 2) := by decide +kernel
theorem d_Pipe_valuesWorkedOutFor_60 : decode b_Pipe_valuesWorkedOutFor 60 = .ok (.iinc 5 1, 3) := by decide +kernel
theorem d_Pipe_valuesWorkedOutFor_63 : decode b_Pipe_valuesWorkedOutFor 63 = .ok (.goto (-43), 3) := by decide +kernel
theorem d_Pipe_valuesWorkedOutFor_66 : decode b_Pipe_valuesWorkedOutFor 66 = .ok (.aload_n 0, 1) := by decide +kernel
theorem d_Pipe_valuesWorkedOutFor_67 : decode b_Pipe_valuesWorkedOutFor 67 = .ok (.getfield 17, 3) := by decide +kernel
theorem d_Pipe_valuesWorkedOutFor_70 : decode b_Pipe_valuesWorkedOutFor 70 = .ok (.iload_n 2, 1) := by decide +kernel
theorem d_Pipe_valuesWorkedOutFor_71 : decode b_Pipe_valuesWorkedOutFor 71 = .ok (.iload 4, 2) := by decide +kernel
theorem d_Pipe_valuesWorkedOutFor_73 : decode b_Pipe_valuesWorkedOutFor 73 = .ok (.iastore, 1) := by decide +kernel
theorem d_Pipe_valuesWorkedOutFor_74 : decode b_Pipe_valuesWorkedOutFor 74 = .ok (.iinc 2 1, 3) := by decide +kernel
theorem d_Pipe_valuesWorkedOutFor_77 : decode b_Pipe_valuesWorkedOutFor 77 = .ok (.goto (-75), 3) := by decide +kernel
theorem d_Pipe_valuesWorkedOutFor_80 : decode b_Pipe_valuesWorkedOutFor 80 = .ok (.aload_n 0, 1) := by decide +kernel
theorem d_Pipe_valuesWorkedOutFor_81 : decode b_Pipe_valuesWorkedOutFor 81 = .ok (.getfield 17, 3) := by decide +kernel
theorem d_Pipe_valuesWorkedOutFor_84 : decode b_Pipe_valuesWorkedOutFor 84 = .ok (.iload_n 1, 1) := by decide +kernel
theorem d_Pipe_valuesWorkedOutFor_85 : decode b_Pipe_valuesWorkedOutFor 85 = .ok (.iaload, 1) := by decide +kernel
theorem d_Pipe_valuesWorkedOutFor_86 : decode b_Pipe_valuesWorkedOutFor 86 = .ok (.ireturn, 1) := by decide +kernel
theorem d_Plan_init_0 : decode b_Plan_init 0 = .ok (.aload_n 0, 1) := by decide +kernel
theorem d_Plan_init_1 : decode b_Plan_init 1 = .ok (.invokespecial 3, 3) := by decide +kernel
theorem d_Plan_init_4 : decode b_Plan_init 4 = .ok (.aload_n 0, 1) := by decide +kernel
theorem d_Plan_init_5 : decode b_Plan_init 5 = .ok (.new 9, 3) := by decide +kernel
theorem d_Plan_init_8 : decode b_Plan_init 8 = .ok (.dup, 1) := by decide +kernel
theorem d_Plan_init_9 : decode b_Plan_init 9 = .ok (.invokespecial 11, 3) := by decide +kernel
theorem d_Plan_init_12 : decode b_Plan_init 12 = .ok (.putfield 12, 3) := by decide +kernel
theorem d_Plan_init_15 : decode b_Plan_init 15 = .ok (.aload_n 0, 1) := by decide +kernel
theorem d_Plan_init_16 : decode b_Plan_init 16 = .ok (.new 9, 3) := by decide +kernel
theorem d_Plan_init_19 : decode b_Plan_init 19 = .ok (.dup, 1) := by decide +kernel
theorem d_Plan_init_20 : decode b_Plan_init 20 = .ok (.invokespecial 11, 3) := by decide +kernel
theorem d_Plan_init_23 : decode b_Plan_init 23 = .ok (.putfield 18, 3) := by decide +kernel
theorem d_Plan_init_26 : decode b_Plan_init 26 = .ok (.aload_n 0, 1) := by decide +kernel
theorem d_Plan_init_27 : decode b_Plan_init 27 = .ok (.bipush 8, 2) := by decide +kernel
theorem d_Plan_init_29 : decode b_Plan_init 29 = .ok (.newarray .boolean, 2) := by decide +kernel
theorem d_Plan_init_31 : decode b_Plan_init 31 = .ok (.putfield 21, 3) := by decide +kernel
theorem d_Plan_init_34 : decode b_Plan_init 34 = .ok (.aload_n 0, 1) := by decide +kernel
theorem d_Plan_init_35 : decode b_Plan_init 35 = .ok (.bipush 8, 2) := by decide +kernel
theorem d_Plan_init_37 : decode b_Plan_init 37 = .ok (.newarray .int, 2) := by decide +kernel
theorem d_Plan_init_39 : decode b_Plan_init 39 = .ok (.putfield 25, 3) := by decide +kernel
theorem d_Plan_init_42 : decode b_Plan_init 42 = .ok (.aload_n 0, 1) := by decide +kernel
theorem d_Plan_init_43 : decode b_Plan_init 43 = .ok (.aload_n 1, 1) := by decide +kernel
theorem d_Plan_init_44 : decode b_Plan_init 44 = .ok (.putfield 29, 3) := by decide +kernel
theorem d_Plan_init_47 : decode b_Plan_init 47 = .ok (.return_, 1) := by decide +kernel
theorem d_Plan_draw_0 : decode b_Plan_draw 0 = .ok (.aload_n 0, 1) := by decide +kernel
theorem d_Plan_draw_1 : decode b_Plan_draw 1 = .ok (.getfield 29, 3) := by decide +kernel
theorem d_Plan_draw_4 : decode b_Plan_draw 4 = .ok (.getfield 33, 3) := by decide +kernel
theorem d_Plan_draw_7 : decode b_Plan_draw 7 = .ok (.iconst (-1), 1) := by decide +kernel
theorem d_Plan_draw_8 : decode b_Plan_draw 8 = .ok (.if_icmp .ne 6, 3) := by decide +kernel
theorem d_Plan_draw_11 : decode b_Plan_draw 11 = .ok (.bipush (-100), 2) := by decide +kernel
theorem d_Plan_draw_13 : decode b_Plan_draw 13 = .ok (.ireturn, 1) := by decide +kernel
theorem d_Plan_draw_14 : decode b_Plan_draw 14 = .ok (.aload_n 0, 1) := by decide +kernel
theorem d_Plan_draw_15 : decode b_Plan_draw 15 = .ok (.getfield 12, 3) := by decide +kernel
theorem d_Plan_draw_18 : decode b_Plan_draw 18 = .ok (.aload_n 0, 1) := by decide +kernel
theorem d_Plan_draw_19 : decode b_Plan_draw 19 = .ok (.getfield 29, 3) := by decide +kernel
theorem d_Plan_draw_22 : decode b_Plan_draw 22 = .ok (.iconst 0, 1) := by decide +kernel
theorem d_Plan_draw_23 : decode b_Plan_draw 23 = .ok (.aload_n 0, 1) := by decide +kernel
theorem d_Plan_draw_24 : decode b_Plan_draw 24 = .ok (.getfield 29, 3) := by decide +kernel
theorem d_Plan_draw_27 : decode b_Plan_draw 27 = .ok (.getfield 39, 3) := by decide +kernel
theorem d_Plan_draw_30 : decode b_Plan_draw 30 = .ok (.iconst 1, 1) := by decide +kernel
theorem d_Plan_draw_31 : decode b_Plan_draw 31 = .ok (.isub, 1) := by decide +kernel
theorem d_Plan_draw_32 : decode b_Plan_draw 32 = .ok (.invokevirtual 42, 3) := by decide +kernel
theorem d_Plan_draw_35 : decode b_Plan_draw 35 = .ok (.aload_n 0, 1) := by decide +kernel
theorem d_Plan_draw_36 : decode b_Plan_draw 36 = .ok (.invokevirtual 46, 3) := by decide +kernel
theorem d_Plan_draw_39 : decode b_Plan_draw 39 = .ok (.istore_n 1, 1) := by decide +kernel
theorem d_Plan_draw_40 : decode b_Plan_draw 40 = .ok (.iload_n 1, 1) := by decide +kernel
theorem d_Plan_draw_41 : decode b_Plan_draw 41 = .ok (.ifCond .lt 9, 3) := by decide +kernel
theorem d_Plan_draw_44 : decode b_Plan_draw 44 = .ok (.sipush (-200), 3) := by decide +kernel
theorem d_Plan_draw_47 : decode b_Plan_draw 47 = .ok (.iload_n 1, 1) := by decide +kernel
theorem d_Plan_draw_48 : decode b_Plan_draw 48 = .ok (.isub, 1) := by decide +kernel
theorem d_Plan_draw_49 : decode b_Plan_draw 49 = .ok (.ireturn, 1) := by decide +kernel
theorem d_Plan_draw_50 : decode b_Plan_draw 50 = .ok (.aload_n 0, 1) := by decide +kernel
theorem d_Plan_draw_51 : decode b_Plan_draw 51 = .ok (.getfield 25, 3) := by decide +kernel
theorem d_Plan_draw_54 : decode b_Plan_draw 54 = .ok (.iconst 0, 1) := by decide +kernel
theorem d_Plan_draw_55 : decode b_Plan_draw 55 = .ok (.invokestatic 50, 3) := by decide +kernel
theorem d_Plan_draw_58 : decode b_Plan_draw 58 = .ok (.aload_n 0, 1) := by decide +kernel
theorem d_Plan_draw_59 : decode b_Plan_draw 59 = .ok (.iconst 0, 1) := by decide +kernel
theorem d_Plan_draw_60 : decode b_Plan_draw 60 = .ok (.putfield 56, 3) := by decide +kernel
theorem d_Plan_draw_63 : decode b_Plan_draw 63 = .ok (.aload_n 0, 1) := by decide +kernel
theorem d_Plan_draw_64 : decode b_Plan_draw 64 = .ok (.iconst 0, 1) := by decide +kernel
theorem d_Plan_draw_65 : decode b_Plan_draw 65 = .ok (.putfield 59, 3) := by decide +kernel
theorem d_Plan_draw_68 : decode b_Plan_draw 68 = .ok (.aload_n 0, 1) := by decide +kernel
theorem d_Plan_draw_69 : decode b_Plan_draw 69 = .ok (.invokevirtual 62, 3) := by decide +kernel
theorem d_Plan_draw_72 : decode b_Plan_draw 72 = .ok (.aload_n 0, 1) := by decide +kernel
theorem d_Plan_draw_73 : decode b_Plan_draw 73 = .ok (.invokevirtual 65, 3) := by decide +kernel
theorem d_Plan_draw_76 : decode b_Plan_draw 76 = .ok (.aload_n 0, 1) := by decide +kernel
theorem d_Plan_draw_77 : decode b_Plan_draw 77 = .ok (.invokevirtual 68, 3) := by decide +kernel
theorem d_Plan_draw_80 : decode b_Plan_draw 80 = .ok (.aload_n 0, 1) := by decide +kernel
theorem d_Plan_draw_81 : decode b_Plan_draw 81 = .ok (.invokevirtual 71, 3) := by decide +kernel
theorem d_Plan_draw_84 : decode b_Plan_draw 84 = .ok (.aload_n 0, 1) := by decide +kernel
theorem d_Plan_draw_85 : decode b_Plan_draw 85 = .ok (.getfield 74, 3) := by decide +kernel
theorem d_Plan_draw_88 : decode b_Plan_draw 88 = .ok (.sipush 4000, 3) := by decide +kernel
theorem d_Plan_draw_91 : decode b_Plan_draw 91 = .ok (.if_icmp .le 9, 3) := by decide +kernel
theorem d_Plan_draw_94 : decode b_Plan_draw 94 = .ok (.sipush (-300), 3) := by decide +kernel
theorem d_Plan_draw_97 : decode b_Plan_draw 97 = .ok (.goto 4, 3) := by decide +kernel
theorem d_Plan_draw_100 : decode b_Plan_draw 100 = .ok (.iconst 0, 1) := by decide +kernel
theorem d_Plan_draw_101 : decode b_Plan_draw 101 = .ok (.ireturn, 1) := by decide +kernel
theorem d_Plan_leastRootThatAsksTiled_0 : decode b_Plan_leastRootThatAsksTiled 0 = .ok (.iconst 0, 1) := by decide +kernel
theorem d_Plan_leastRootThatAsksTiled_1 : decode b_Plan_leastRootThatAsksTiled 1 = .ok (.istore_n 1, 1) := by decide +kernel
theorem d_Plan_leastRootThatAsksTiled_2 : decode b_Plan_leastRootThatAsksTiled 2 = .ok (.iload_n 1, 1) := by decide +kernel
theorem d_Plan_leastRootThatAsksTiled_3 : decode b_Plan_leastRootThatAsksTiled 3 = .ok (.aload_n 0, 1) := by decide +kernel
theorem d_Plan_leastRootThatAsksTiled_4 : decode b_Plan_leastRootThatAsksTiled 4 = .ok (.getfield 29, 3) := by decide +kernel
theorem d_Plan_leastRootThatAsksTiled_7 : decode b_Plan_leastRootThatAsksTiled 7 = .ok (.getfield 33, 3) := by decide +kernel
theorem d_Plan_leastRootThatAsksTiled_10 : decode b_Plan_leastRootThatAsksTiled 10 = .ok (.if_icmp .ge 48, 3) := by decide +kernel
theorem d_Plan_leastRootThatAsksTiled_13 : decode b_Plan_leastRootThatAsksTiled 13 = .ok (.aload_n 0, 1) := by decide +kernel
theorem d_Plan_leastRootThatAsksTiled_14 : decode b_Plan_leastRootThatAsksTiled 14 = .ok (.getfield 21, 3) := by decide +kernel
theorem d_Plan_leastRootThatAsksTiled_17 : decode b_Plan_leastRootThatAsksTiled 17 = .ok (.iload_n 1, 1) := by decide +kernel
theorem d_Plan_leastRootThatAsksTiled_18 : decode b_Plan_leastRootThatAsksTiled 18 = .ok (.aload_n 0, 1) := by decide +kernel
theorem d_Plan_leastRootThatAsksTiled_19 : decode b_Plan_leastRootThatAsksTiled 19 = .ok (.aload_n 0, 1) := by decide +kernel
theorem d_Plan_leastRootThatAsksTiled_20 : decode b_Plan_leastRootThatAsksTiled 20 = .ok (.getfield 29, 3) := by decide +kernel
theorem d_Plan_leastRootThatAsksTiled_23 : decode b_Plan_leastRootThatAsksTiled 23 = .ok (.getfield 77, 3) := by decide +kernel
theorem d_Plan_leastRootThatAsksTiled_26 : decode b_Plan_leastRootThatAsksTiled 26 = .ok (.iload_n 1, 1) := by decide +kernel
theorem d_Plan_leastRootThatAsksTiled_27 : decode b_Plan_leastRootThatAsksTiled 27 = .ok (.aaload, 1) := by decide +kernel
theorem d_Plan_leastRootThatAsksTiled_28 : decode b_Plan_leastRootThatAsksTiled 28 = .ok (.invokevirtual 81, 3) := by decide +kernel
theorem d_Plan_leastRootThatAsksTiled_31 : decode b_Plan_leastRootThatAsksTiled 31 = .ok (.bastore, 1) := by decide +kernel
theorem d_Plan_leastRootThatAsksTiled_32 : decode b_Plan_leastRootThatAsksTiled 32 = .ok (.aload_n 0, 1) := by decide +kernel
theorem d_Plan_leastRootThatAsksTiled_33 : decode b_Plan_leastRootThatAsksTiled 33 = .ok (.iload_n 1, 1) := by decide +kernel
theorem d_Plan_leastRootThatAsksTiled_34 : decode b_Plan_leastRootThatAsksTiled 34 = .ok (.iconst 1, 1) := by decide +kernel
theorem d_Plan_leastRootThatAsksTiled_35 : decode b_Plan_leastRootThatAsksTiled 35 = .ok (.invokevirtual 85, 3) := by decide +kernel
theorem d_Plan_leastRootThatAsksTiled_38 : decode b_Plan_leastRootThatAsksTiled 38 = .ok (.ifCond .eq 14, 3) := by decide +kernel
theorem d_Plan_leastRootThatAsksTiled_41 : decode b_Plan_leastRootThatAsksTiled 41 = .ok (.aload_n 0, 1) := by decide +kernel
theorem d_Plan_leastRootThatAsksTiled_42 : decode b_Plan_leastRootThatAsksTiled 42 = .ok (.getfield 21, 3) := by decide +kernel
theorem d_Plan_leastRootThatAsksTiled_45 : decode b_Plan_leastRootThatAsksTiled 45 = .ok (.iload_n 1, 1) := by decide +kernel
theorem d_Plan_leastRootThatAsksTiled_46 : decode b_Plan_leastRootThatAsksTiled 46 = .ok (.baload, 1) := by decide +kernel
theorem d_Plan_leastRootThatAsksTiled_47 : decode b_Plan_leastRootThatAsksTiled 47 = .ok (.ifCond .eq 5, 3) := by decide +kernel
theorem d_Plan_leastRootThatAsksTiled_50 : decode b_Plan_leastRootThatAsksTiled 50 = .ok (.iload_n 1, 1) := by decide +kernel
theorem d_Plan_leastRootThatAsksTiled_51 : decode b_Plan_leastRootThatAsksTiled 51 = .ok (.ireturn, 1) := by decide +kernel
theorem d_Plan_leastRootThatAsksTiled_52 : decode b_Plan_leastRootThatAsksTiled 52 = .ok (.iinc 1 1, 3) := by decide +kernel
theorem d_Plan_leastRootThatAsksTiled_55 : decode b_Plan_leastRootThatAsksTiled 55 = .ok (.goto (-53), 3) := by decide +kernel
theorem d_Plan_leastRootThatAsksTiled_58 : decode b_Plan_leastRootThatAsksTiled 58 = .ok (.iconst (-1), 1) := by decide +kernel
theorem d_Plan_leastRootThatAsksTiled_59 : decode b_Plan_leastRootThatAsksTiled 59 = .ok (.ireturn, 1) := by decide +kernel
theorem d_Plan_hasTiledToWorkOut_0 : decode b_Plan_hasTiledToWorkOut 0 = .ok (.iconst 0, 1) := by decide +kernel
theorem d_Plan_hasTiledToWorkOut_1 : decode b_Plan_hasTiledToWorkOut 1 = .ok (.istore_n 2, 1) := by decide +kernel
theorem d_Plan_hasTiledToWorkOut_2 : decode b_Plan_hasTiledToWorkOut 2 = .ok (.iload_n 2, 1) := by decide +kernel
theorem d_Plan_hasTiledToWorkOut_3 : decode b_Plan_hasTiledToWorkOut 3 = .ok (.aload_n 1, 1) := by decide +kernel
theorem d_Plan_hasTiledToWorkOut_4 : decode b_Plan_hasTiledToWorkOut 4 = .ok (.getfield 89, 3) := by decide +kernel
theorem d_Plan_hasTiledToWorkOut_7 : decode b_Plan_hasTiledToWorkOut 7 = .ok (.if_icmp .ge 60, 3) := by decide +kernel
theorem d_Plan_hasTiledToWorkOut_10 : decode b_Plan_hasTiledToWorkOut 10 = .ok (.aload_n 1, 1) := by decide +kernel
theorem d_Plan_hasTiledToWorkOut_11 : decode b_Plan_hasTiledToWorkOut 11 = .ok (.getfield 94, 3) := by decide +kernel
theorem d_Plan_hasTiledToWorkOut_14 : decode b_Plan_hasTiledToWorkOut 14 = .ok (.iload_n 2, 1) := by decide +kernel
theorem d_Plan_hasTiledToWorkOut_15 : decode b_Plan_hasTiledToWorkOut 15 = .ok (.iaload, 1) := by decide +kernel
theorem d_Plan_hasTiledToWorkOut_16 : decode b_Plan_hasTiledToWorkOut 16 = .ok (.istore_n 3, 1) := by decide +kernel
theorem d_Plan_hasTiledToWorkOut_17 : decode b_Plan_hasTiledToWorkOut 17 = .ok (.iload_n 3, 1) := by decide +kernel
theorem d_Plan_hasTiledToWorkOut_18 : decode b_Plan_hasTiledToWorkOut 18 = .ok (.iconst (-1), 1) := by decide +kernel
theorem d_Plan_hasTiledToWorkOut_19 : decode b_Plan_hasTiledToWorkOut 19 = .ok (.if_icmp .ne 6, 3) := by decide +kernel
theorem d_Plan_hasTiledToWorkOut_22 : decode b_Plan_hasTiledToWorkOut 22 = .ok (.goto 39, 3) := by decide +kernel
theorem d_Plan_hasTiledToWorkOut_25 : decode b_Plan_hasTiledToWorkOut 25 = .ok (.aload_n 0, 1) := by decide +kernel
theorem d_Plan_hasTiledToWorkOut_26 : decode b_Plan_hasTiledToWorkOut 26 = .ok (.getfield 29, 3) := by decide +kernel
theorem d_Plan_hasTiledToWorkOut_29 : decode b_Plan_hasTiledToWorkOut 29 = .ok (.getfield 77, 3) := by decide +kernel
theorem d_Plan_hasTiledToWorkOut_32 : decode b_Plan_hasTiledToWorkOut 32 = .ok (.iload_n 3, 1) := by decide +kernel
theorem d_Plan_hasTiledToWorkOut_33 : decode b_Plan_hasTiledToWorkOut 33 = .ok (.aaload, 1) := by decide +kernel
end
section
theorem d_Plan_hasTiledToWorkOut_34 : decode b_Plan_hasTiledToWorkOut 34 = .ok (.getfield 97, 3) := by decide +kernel
theorem d_Plan_hasTiledToWorkOut_37 : decode b_Plan_hasTiledToWorkOut 37 = .ok (.istore 4, 2) := by decide +kernel
theorem d_Plan_hasTiledToWorkOut_39 : decode b_Plan_hasTiledToWorkOut 39 = .ok (.iload 4, 2) := by decide +kernel
theorem d_Plan_hasTiledToWorkOut_41 : decode b_Plan_hasTiledToWorkOut 41 = .ok (.iconst 2, 1) := by decide +kernel
theorem d_Plan_hasTiledToWorkOut_42 : decode b_Plan_hasTiledToWorkOut 42 = .ok (.if_icmp .eq 17, 3) := by decide +kernel
theorem d_Plan_hasTiledToWorkOut_45 : decode b_Plan_hasTiledToWorkOut 45 = .ok (.iload 4, 2) := by decide +kernel
theorem d_Plan_hasTiledToWorkOut_47 : decode b_Plan_hasTiledToWorkOut 47 = .ok (.ifCond .ne 14, 3) := by decide +kernel
theorem d_Plan_hasTiledToWorkOut_50 : decode b_Plan_hasTiledToWorkOut 50 = .ok (.aload_n 0, 1) := by decide +kernel
theorem d_Plan_hasTiledToWorkOut_51 : decode b_Plan_hasTiledToWorkOut 51 = .ok (.getfield 21, 3) := by decide +kernel
theorem d_Plan_hasTiledToWorkOut_54 : decode b_Plan_hasTiledToWorkOut 54 = .ok (.iload_n 3, 1) := by decide +kernel
theorem d_Plan_hasTiledToWorkOut_55 : decode b_Plan_hasTiledToWorkOut 55 = .ok (.baload, 1) := by decide +kernel
theorem d_Plan_hasTiledToWorkOut_56 : decode b_Plan_hasTiledToWorkOut 56 = .ok (.ifCond .eq 5, 3) := by decide +kernel
theorem d_Plan_hasTiledToWorkOut_59 : decode b_Plan_hasTiledToWorkOut 59 = .ok (.iconst 1, 1) := by decide +kernel
theorem d_Plan_hasTiledToWorkOut_60 : decode b_Plan_hasTiledToWorkOut 60 = .ok (.ireturn, 1) := by decide +kernel
theorem d_Plan_hasTiledToWorkOut_61 : decode b_Plan_hasTiledToWorkOut 61 = .ok (.iinc 2 1, 3) := by decide +kernel
theorem d_Plan_hasTiledToWorkOut_64 : decode b_Plan_hasTiledToWorkOut 64 = .ok (.goto (-62), 3) := by decide +kernel
theorem d_Plan_hasTiledToWorkOut_67 : decode b_Plan_hasTiledToWorkOut 67 = .ok (.iconst 0, 1) := by decide +kernel
theorem d_Plan_hasTiledToWorkOut_68 : decode b_Plan_hasTiledToWorkOut 68 = .ok (.ireturn, 1) := by decide +kernel
theorem d_Plan_measureOutput_0 : decode b_Plan_measureOutput 0 = .ok (.aload_n 0, 1) := by decide +kernel
theorem d_Plan_measureOutput_1 : decode b_Plan_measureOutput 1 = .ok (.getfield 25, 3) := by decide +kernel
theorem d_Plan_measureOutput_4 : decode b_Plan_measureOutput 4 = .ok (.aload_n 0, 1) := by decide +kernel
theorem d_Plan_measureOutput_5 : decode b_Plan_measureOutput 5 = .ok (.getfield 29, 3) := by decide +kernel
theorem d_Plan_measureOutput_8 : decode b_Plan_measureOutput 8 = .ok (.getfield 33, 3) := by decide +kernel
theorem d_Plan_measureOutput_11 : decode b_Plan_measureOutput 11 = .ok (.aload_n 0, 1) := by decide +kernel
theorem d_Plan_measureOutput_12 : decode b_Plan_measureOutput 12 = .ok (.getfield 29, 3) := by decide +kernel
theorem d_Plan_measureOutput_15 : decode b_Plan_measureOutput 15 = .ok (.getfield 39, 3) := by decide +kernel
theorem d_Plan_measureOutput_18 : decode b_Plan_measureOutput 18 = .ok (.iastore, 1) := by decide +kernel
theorem d_Plan_measureOutput_19 : decode b_Plan_measureOutput 19 = .ok (.return_, 1) := by decide +kernel
theorem d_Plan_measureRoots_0 : decode b_Plan_measureRoots 0 = .ok (.iconst 0, 1) := by decide +kernel
theorem d_Plan_measureRoots_1 : decode b_Plan_measureRoots 1 = .ok (.istore_n 1, 1) := by decide +kernel
theorem d_Plan_measureRoots_2 : decode b_Plan_measureRoots 2 = .ok (.iload_n 1, 1) := by decide +kernel
theorem d_Plan_measureRoots_3 : decode b_Plan_measureRoots 3 = .ok (.aload_n 0, 1) := by decide +kernel
theorem d_Plan_measureRoots_4 : decode b_Plan_measureRoots 4 = .ok (.getfield 29, 3) := by decide +kernel
theorem d_Plan_measureRoots_7 : decode b_Plan_measureRoots 7 = .ok (.getfield 33, 3) := by decide +kernel
theorem d_Plan_measureRoots_10 : decode b_Plan_measureRoots 10 = .ok (.if_icmp .ge 47, 3) := by decide +kernel
theorem d_Plan_measureRoots_13 : decode b_Plan_measureRoots 13 = .ok (.aload_n 0, 1) := by decide +kernel
theorem d_Plan_measureRoots_14 : decode b_Plan_measureRoots 14 = .ok (.iload_n 1, 1) := by decide +kernel
theorem d_Plan_measureRoots_15 : decode b_Plan_measureRoots 15 = .ok (.iconst 1, 1) := by decide +kernel
theorem d_Plan_measureRoots_16 : decode b_Plan_measureRoots 16 = .ok (.invokevirtual 85, 3) := by decide +kernel
theorem d_Plan_measureRoots_19 : decode b_Plan_measureRoots 19 = .ok (.ifCond .eq 32, 3) := by decide +kernel
theorem d_Plan_measureRoots_22 : decode b_Plan_measureRoots 22 = .ok (.aload_n 0, 1) := by decide +kernel
theorem d_Plan_measureRoots_23 : decode b_Plan_measureRoots 23 = .ok (.getfield 25, 3) := by decide +kernel
theorem d_Plan_measureRoots_26 : decode b_Plan_measureRoots 26 = .ok (.iload_n 1, 1) := by decide +kernel
theorem d_Plan_measureRoots_27 : decode b_Plan_measureRoots 27 = .ok (.aload_n 0, 1) := by decide +kernel
theorem d_Plan_measureRoots_28 : decode b_Plan_measureRoots 28 = .ok (.getfield 12, 3) := by decide +kernel
theorem d_Plan_measureRoots_31 : decode b_Plan_measureRoots 31 = .ok (.iload_n 1, 1) := by decide +kernel
theorem d_Plan_measureRoots_32 : decode b_Plan_measureRoots 32 = .ok (.invokevirtual 100, 3) := by decide +kernel
theorem d_Plan_measureRoots_35 : decode b_Plan_measureRoots 35 = .ok (.iastore, 1) := by decide +kernel
theorem d_Plan_measureRoots_36 : decode b_Plan_measureRoots 36 = .ok (.aload_n 0, 1) := by decide +kernel
theorem d_Plan_measureRoots_37 : decode b_Plan_measureRoots 37 = .ok (.dup, 1) := by decide +kernel
theorem d_Plan_measureRoots_38 : decode b_Plan_measureRoots 38 = .ok (.getfield 56, 3) := by decide +kernel
theorem d_Plan_measureRoots_41 : decode b_Plan_measureRoots 41 = .ok (.aload_n 0, 1) := by decide +kernel
theorem d_Plan_measureRoots_42 : decode b_Plan_measureRoots 42 = .ok (.getfield 25, 3) := by decide +kernel
theorem d_Plan_measureRoots_45 : decode b_Plan_measureRoots 45 = .ok (.iload_n 1, 1) := by decide +kernel
theorem d_Plan_measureRoots_46 : decode b_Plan_measureRoots 46 = .ok (.iaload, 1) := by decide +kernel
theorem d_Plan_measureRoots_47 : decode b_Plan_measureRoots 47 = .ok (.iadd, 1) := by decide +kernel
theorem d_Plan_measureRoots_48 : decode b_Plan_measureRoots 48 = .ok (.putfield 56, 3) := by decide +kernel
theorem d_Plan_measureRoots_51 : decode b_Plan_measureRoots 51 = .ok (.iinc 1 1, 3) := by decide +kernel
theorem d_Plan_measureRoots_54 : decode b_Plan_measureRoots 54 = .ok (.goto (-52), 3) := by decide +kernel
theorem d_Plan_measureRoots_57 : decode b_Plan_measureRoots 57 = .ok (.return_, 1) := by decide +kernel
theorem d_Plan_measureTiles_0 : decode b_Plan_measureTiles 0 = .ok (.iconst 0, 1) := by decide +kernel
theorem d_Plan_measureTiles_1 : decode b_Plan_measureTiles 1 = .ok (.istore_n 1, 1) := by decide +kernel
theorem d_Plan_measureTiles_2 : decode b_Plan_measureTiles 2 = .ok (.iconst 0, 1) := by decide +kernel
theorem d_Plan_measureTiles_3 : decode b_Plan_measureTiles 3 = .ok (.istore_n 2, 1) := by decide +kernel
theorem d_Plan_measureTiles_4 : decode b_Plan_measureTiles 4 = .ok (.iload_n 2, 1) := by decide +kernel
theorem d_Plan_measureTiles_5 : decode b_Plan_measureTiles 5 = .ok (.aload_n 0, 1) := by decide +kernel
theorem d_Plan_measureTiles_6 : decode b_Plan_measureTiles 6 = .ok (.getfield 29, 3) := by decide +kernel
theorem d_Plan_measureTiles_9 : decode b_Plan_measureTiles 9 = .ok (.invokevirtual 104, 3) := by decide +kernel
theorem d_Plan_measureTiles_12 : decode b_Plan_measureTiles 12 = .ok (.if_icmp .ge 45, 3) := by decide +kernel
theorem d_Plan_measureTiles_15 : decode b_Plan_measureTiles 15 = .ok (.aload_n 0, 1) := by decide +kernel
theorem d_Plan_measureTiles_16 : decode b_Plan_measureTiles 16 = .ok (.getfield 18, 3) := by decide +kernel
theorem d_Plan_measureTiles_19 : decode b_Plan_measureTiles 19 = .ok (.aload_n 0, 1) := by decide +kernel
theorem d_Plan_measureTiles_20 : decode b_Plan_measureTiles 20 = .ok (.getfield 29, 3) := by decide +kernel
theorem d_Plan_measureTiles_23 : decode b_Plan_measureTiles 23 = .ok (.aload_n 0, 1) := by decide +kernel
theorem d_Plan_measureTiles_24 : decode b_Plan_measureTiles 24 = .ok (.getfield 29, 3) := by decide +kernel
theorem d_Plan_measureTiles_27 : decode b_Plan_measureTiles 27 = .ok (.iload_n 2, 1) := by decide +kernel
theorem d_Plan_measureTiles_28 : decode b_Plan_measureTiles 28 = .ok (.invokevirtual 107, 3) := by decide +kernel
theorem d_Plan_measureTiles_31 : decode b_Plan_measureTiles 31 = .ok (.aload_n 0, 1) := by decide +kernel
theorem d_Plan_measureTiles_32 : decode b_Plan_measureTiles 32 = .ok (.getfield 29, 3) := by decide +kernel
theorem d_Plan_measureTiles_35 : decode b_Plan_measureTiles 35 = .ok (.iload_n 2, 1) := by decide +kernel
theorem d_Plan_measureTiles_36 : decode b_Plan_measureTiles 36 = .ok (.invokevirtual 110, 3) := by decide +kernel
theorem d_Plan_measureTiles_39 : decode b_Plan_measureTiles 39 = .ok (.invokevirtual 42, 3) := by decide +kernel
theorem d_Plan_measureTiles_42 : decode b_Plan_measureTiles 42 = .ok (.iload_n 1, 1) := by decide +kernel
theorem d_Plan_measureTiles_43 : decode b_Plan_measureTiles 43 = .ok (.aload_n 0, 1) := by decide +kernel
theorem d_Plan_measureTiles_44 : decode b_Plan_measureTiles 44 = .ok (.invokevirtual 113, 3) := by decide +kernel
theorem d_Plan_measureTiles_47 : decode b_Plan_measureTiles 47 = .ok (.invokestatic 116, 3) := by decide +kernel
theorem d_Plan_measureTiles_50 : decode b_Plan_measureTiles 50 = .ok (.istore_n 1, 1) := by decide +kernel
theorem d_Plan_measureTiles_51 : decode b_Plan_measureTiles 51 = .ok (.iinc 2 1, 3) := by decide +kernel
theorem d_Plan_measureTiles_54 : decode b_Plan_measureTiles 54 = .ok (.goto (-50), 3) := by decide +kernel
theorem d_Plan_measureTiles_57 : decode b_Plan_measureTiles 57 = .ok (.aload_n 0, 1) := by decide +kernel
theorem d_Plan_measureTiles_58 : decode b_Plan_measureTiles 58 = .ok (.dup, 1) := by decide +kernel
theorem d_Plan_measureTiles_59 : decode b_Plan_measureTiles 59 = .ok (.getfield 56, 3) := by decide +kernel
theorem d_Plan_measureTiles_62 : decode b_Plan_measureTiles 62 = .ok (.iload_n 1, 1) := by decide +kernel
theorem d_Plan_measureTiles_63 : decode b_Plan_measureTiles 63 = .ok (.iadd, 1) := by decide +kernel
theorem d_Plan_measureTiles_64 : decode b_Plan_measureTiles 64 = .ok (.putfield 56, 3) := by decide +kernel
theorem d_Plan_measureTiles_67 : decode b_Plan_measureTiles 67 = .ok (.return_, 1) := by decide +kernel
theorem d_Plan_measureTileInHand_0 : decode b_Plan_measureTileInHand 0 = .ok (.iconst 0, 1) := by decide +kernel
theorem d_Plan_measureTileInHand_1 : decode b_Plan_measureTileInHand 1 = .ok (.istore_n 1, 1) := by decide +kernel
theorem d_Plan_measureTileInHand_2 : decode b_Plan_measureTileInHand 2 = .ok (.iconst 0, 1) := by decide +kernel
theorem d_Plan_measureTileInHand_3 : decode b_Plan_measureTileInHand 3 = .ok (.istore_n 2, 1) := by decide +kernel
theorem d_Plan_measureTileInHand_4 : decode b_Plan_measureTileInHand 4 = .ok (.iload_n 2, 1) := by decide +kernel
theorem d_Plan_measureTileInHand_5 : decode b_Plan_measureTileInHand 5 = .ok (.aload_n 0, 1) := by decide +kernel
theorem d_Plan_measureTileInHand_6 : decode b_Plan_measureTileInHand 6 = .ok (.getfield 29, 3) := by decide +kernel
theorem d_Plan_measureTileInHand_9 : decode b_Plan_measureTileInHand 9 = .ok (.getfield 33, 3) := by decide +kernel
theorem d_Plan_measureTileInHand_12 : decode b_Plan_measureTileInHand 12 = .ok (.if_icmp .ge 53, 3) := by decide +kernel
theorem d_Plan_measureTileInHand_15 : decode b_Plan_measureTileInHand 15 = .ok (.aload_n 0, 1) := by decide +kernel
theorem d_Plan_measureTileInHand_16 : decode b_Plan_measureTileInHand 16 = .ok (.iload_n 2, 1) := by decide +kernel
theorem d_Plan_measureTileInHand_17 : decode b_Plan_measureTileInHand 17 = .ok (.iconst 2, 1) := by decide +kernel
theorem d_Plan_measureTileInHand_18 : decode b_Plan_measureTileInHand 18 = .ok (.invokevirtual 85, 3) := by decide +kernel
theorem d_Plan_measureTileInHand_21 : decode b_Plan_measureTileInHand 21 = .ok (.ifCond .eq 38, 3) := by decide +kernel
theorem d_Plan_measureTileInHand_24 : decode b_Plan_measureTileInHand 24 = .ok (.aload_n 0, 1) := by decide +kernel
theorem d_Plan_measureTileInHand_25 : decode b_Plan_measureTileInHand 25 = .ok (.getfield 18, 3) := by decide +kernel
theorem d_Plan_measureTileInHand_28 : decode b_Plan_measureTileInHand 28 = .ok (.iload_n 2, 1) := by decide +kernel
theorem d_Plan_measureTileInHand_29 : decode b_Plan_measureTileInHand 29 = .ok (.invokevirtual 100, 3) := by decide +kernel
theorem d_Plan_measureTileInHand_32 : decode b_Plan_measureTileInHand 32 = .ok (.istore_n 3, 1) := by decide +kernel
theorem d_Plan_measureTileInHand_33 : decode b_Plan_measureTileInHand 33 = .ok (.aload_n 0, 1) := by decide +kernel
theorem d_Plan_measureTileInHand_34 : decode b_Plan_measureTileInHand 34 = .ok (.getfield 25, 3) := by decide +kernel
theorem d_Plan_measureTileInHand_37 : decode b_Plan_measureTileInHand 37 = .ok (.iload_n 2, 1) := by decide +kernel
theorem d_Plan_measureTileInHand_38 : decode b_Plan_measureTileInHand 38 = .ok (.dup2, 1) := by decide +kernel
theorem d_Plan_measureTileInHand_39 : decode b_Plan_measureTileInHand 39 = .ok (.iaload, 1) := by decide +kernel
theorem d_Plan_measureTileInHand_40 : decode b_Plan_measureTileInHand 40 = .ok (.iload_n 3, 1) := by decide +kernel
theorem d_Plan_measureTileInHand_41 : decode b_Plan_measureTileInHand 41 = .ok (.iadd, 1) := by decide +kernel
theorem d_Plan_measureTileInHand_42 : decode b_Plan_measureTileInHand 42 = .ok (.iastore, 1) := by decide +kernel
theorem d_Plan_measureTileInHand_43 : decode b_Plan_measureTileInHand 43 = .ok (.aload_n 0, 1) := by decide +kernel
theorem d_Plan_measureTileInHand_44 : decode b_Plan_measureTileInHand 44 = .ok (.aload_n 0, 1) := by decide +kernel
theorem d_Plan_measureTileInHand_45 : decode b_Plan_measureTileInHand 45 = .ok (.getfield 59, 3) := by decide +kernel
theorem d_Plan_measureTileInHand_48 : decode b_Plan_measureTileInHand 48 = .ok (.iload_n 3, 1) := by decide +kernel
theorem d_Plan_measureTileInHand_49 : decode b_Plan_measureTileInHand 49 = .ok (.invokestatic 116, 3) := by decide +kernel
theorem d_Plan_measureTileInHand_52 : decode b_Plan_measureTileInHand 52 = .ok (.putfield 59, 3) := by decide +kernel
theorem d_Plan_measureTileInHand_55 : decode b_Plan_measureTileInHand 55 = .ok (.iload_n 1, 1) := by decide +kernel
theorem d_Plan_measureTileInHand_56 : decode b_Plan_measureTileInHand 56 = .ok (.iload_n 3, 1) := by decide +kernel
theorem d_Plan_measureTileInHand_57 : decode b_Plan_measureTileInHand 57 = .ok (.iadd, 1) := by decide +kernel
theorem d_Plan_measureTileInHand_58 : decode b_Plan_measureTileInHand 58 = .ok (.istore_n 1, 1) := by decide +kernel
theorem d_Plan_measureTileInHand_59 : decode b_Plan_measureTileInHand 59 = .ok (.iinc 2 1, 3) := by decide +kernel
theorem d_Plan_measureTileInHand_62 : decode b_Plan_measureTileInHand 62 = .ok (.goto (-58), 3) := by decide +kernel
theorem d_Plan_measureTileInHand_65 : decode b_Plan_measureTileInHand 65 = .ok (.iload_n 1, 1) := by decide +kernel
theorem d_Plan_measureTileInHand_66 : decode b_Plan_measureTileInHand 66 = .ok (.ireturn, 1) := by decide +kernel
theorem d_Plan_measureInlines_0 : decode b_Plan_measureInlines 0 = .ok (.aload_n 0, 1) := by decide +kernel
theorem d_Plan_measureInlines_1 : decode b_Plan_measureInlines 1 = .ok (.iconst 0, 1) := by decide +kernel
theorem d_Plan_measureInlines_2 : decode b_Plan_measureInlines 2 = .ok (.putfield 74, 3) := by decide +kernel
theorem d_Plan_measureInlines_5 : decode b_Plan_measureInlines 5 = .ok (.aload_n 0, 1) := by decide +kernel
theorem d_Plan_measureInlines_6 : decode b_Plan_measureInlines 6 = .ok (.getfield 29, 3) := by decide +kernel
theorem d_Plan_measureInlines_9 : decode b_Plan_measureInlines 9 = .ok (.getfield 33, 3) := by decide +kernel
theorem d_Plan_measureInlines_12 : decode b_Plan_measureInlines 12 = .ok (.istore_n 1, 1) := by decide +kernel
theorem d_Plan_measureInlines_13 : decode b_Plan_measureInlines 13 = .ok (.iload_n 1, 1) := by decide +kernel
theorem d_Plan_measureInlines_14 : decode b_Plan_measureInlines 14 = .ok (.ifCond .lt 29, 3) := by decide +kernel
theorem d_Plan_measureInlines_17 : decode b_Plan_measureInlines 17 = .ok (.aload_n 0, 1) := by decide +kernel
theorem d_Plan_measureInlines_18 : decode b_Plan_measureInlines 18 = .ok (.dup, 1) := by decide +kernel
theorem d_Plan_measureInlines_19 : decode b_Plan_measureInlines 19 = .ok (.getfield 74, 3) := by decide +kernel
theorem d_Plan_measureInlines_22 : decode b_Plan_measureInlines 22 = .ok (.aload_n 0, 1) := by decide +kernel
theorem d_Plan_measureInlines_23 : decode b_Plan_measureInlines 23 = .ok (.getfield 25, 3) := by decide +kernel
theorem d_Plan_measureInlines_26 : decode b_Plan_measureInlines 26 = .ok (.iload_n 1, 1) := by decide +kernel
theorem d_Plan_measureInlines_27 : decode b_Plan_measureInlines 27 = .ok (.iaload, 1) := by decide +kernel
theorem d_Plan_measureInlines_28 : decode b_Plan_measureInlines 28 = .ok (.iadd, 1) := by decide +kernel
theorem d_Plan_measureInlines_29 : decode b_Plan_measureInlines 29 = .ok (.putfield 74, 3) := by decide +kernel
theorem d_Plan_measureInlines_32 : decode b_Plan_measureInlines 32 = .ok (.aload_n 0, 1) := by decide +kernel
theorem d_Plan_measureInlines_33 : decode b_Plan_measureInlines 33 = .ok (.iload_n 1, 1) := by decide +kernel
theorem d_Plan_measureInlines_34 : decode b_Plan_measureInlines 34 = .ok (.invokevirtual 122, 3) := by decide +kernel
theorem d_Plan_measureInlines_37 : decode b_Plan_measureInlines 37 = .ok (.iinc 1 (-1), 3) := by decide +kernel
theorem d_Plan_measureInlines_40 : decode b_Plan_measureInlines 40 = .ok (.goto (-27), 3) := by decide +kernel
theorem d_Plan_measureInlines_43 : decode b_Plan_measureInlines 43 = .ok (.return_, 1) := by decide +kernel
theorem d_Plan_askInlineSources_0 : decode b_Plan_askInlineSources 0 = .ok (.aload_n 0, 1) := by decide +kernel
theorem d_Plan_askInlineSources_1 : decode b_Plan_askInlineSources 1 = .ok (.getfield 29, 3) := by decide +kernel
theorem d_Plan_askInlineSources_4 : decode b_Plan_askInlineSources 4 = .ok (.getfield 77, 3) := by decide +kernel
theorem d_Plan_askInlineSources_7 : decode b_Plan_askInlineSources 7 = .ok (.iload_n 1, 1) := by decide +kernel
theorem d_Plan_askInlineSources_8 : decode b_Plan_askInlineSources 8 = .ok (.aaload, 1) := by decide +kernel
theorem d_Plan_askInlineSources_9 : decode b_Plan_askInlineSources 9 = .ok (.astore_n 2, 1) := by decide +kernel
theorem d_Plan_askInlineSources_10 : decode b_Plan_askInlineSources 10 = .ok (.iconst 0, 1) := by decide +kernel
theorem d_Plan_askInlineSources_11 : decode b_Plan_askInlineSources 11 = .ok (.istore_n 3, 1) := by decide +kernel
theorem d_Plan_askInlineSources_12 : decode b_Plan_askInlineSources 12 = .ok (.iload_n 3, 1) := by decide +kernel
theorem d_Plan_askInlineSources_13 : decode b_Plan_askInlineSources 13 = .ok (.aload_n 2, 1) := by decide +kernel
theorem d_Plan_askInlineSources_14 : decode b_Plan_askInlineSources 14 = .ok (.getfield 89, 3) := by decide +kernel
theorem d_Plan_askInlineSources_17 : decode b_Plan_askInlineSources 17 = .ok (.if_icmp .ge 55, 3) := by decide +kernel
theorem d_Plan_askInlineSources_20 : decode b_Plan_askInlineSources 20 = .ok (.aload_n 2, 1) := by decide +kernel
theorem d_Plan_askInlineSources_21 : decode b_Plan_askInlineSources 21 = .ok (.getfield 94, 3) := by decide +kernel
theorem d_Plan_askInlineSources_24 : decode b_Plan_askInlineSources 24 = .ok (.iload_n 3, 1) := by decide +kernel
theorem d_Plan_askInlineSources_25 : decode b_Plan_askInlineSources 25 = .ok (.iaload, 1) := by decide +kernel
theorem d_Plan_askInlineSources_26 : decode b_Plan_askInlineSources 26 = .ok (.istore 4, 2) := by decide +kernel
theorem d_Plan_askInlineSources_28 : decode b_Plan_askInlineSources 28 = .ok (.iload 4, 2) := by decide +kernel
theorem d_Plan_askInlineSources_30 : decode b_Plan_askInlineSources 30 = .ok (.iconst (-1), 1) := by decide +kernel
theorem d_Plan_askInlineSources_31 : decode b_Plan_askInlineSources 31 = .ok (.if_icmp .eq 35, 3) := by decide +kernel
theorem d_Plan_askInlineSources_34 : decode b_Plan_askInlineSources 34 = .ok (.aload_n 0, 1) := by decide +kernel
theorem d_Plan_askInlineSources_35 : decode b_Plan_askInlineSources 35 = .ok (.getfield 29, 3) := by decide +kernel
theorem d_Plan_askInlineSources_38 : decode b_Plan_askInlineSources 38 = .ok (.getfield 77, 3) := by decide +kernel
theorem d_Plan_askInlineSources_41 : decode b_Plan_askInlineSources 41 = .ok (.iload 4, 2) := by decide +kernel
theorem d_Plan_askInlineSources_43 : decode b_Plan_askInlineSources 43 = .ok (.aaload, 1) := by decide +kernel
theorem d_Plan_askInlineSources_44 : decode b_Plan_askInlineSources 44 = .ok (.getfield 97, 3) := by decide +kernel
theorem d_Plan_askInlineSources_47 : decode b_Plan_askInlineSources 47 = .ok (.ifCond .ne 19, 3) := by decide +kernel
theorem d_Plan_askInlineSources_50 : decode b_Plan_askInlineSources 50 = .ok (.aload_n 0, 1) := by decide +kernel
theorem d_Plan_askInlineSources_51 : decode b_Plan_askInlineSources 51 = .ok (.getfield 25, 3) := by decide +kernel
theorem d_Plan_askInlineSources_54 : decode b_Plan_askInlineSources 54 = .ok (.iload 4, 2) := by decide +kernel
theorem d_Plan_askInlineSources_56 : decode b_Plan_askInlineSources 56 = .ok (.dup2, 1) := by decide +kernel
theorem d_Plan_askInlineSources_57 : decode b_Plan_askInlineSources 57 = .ok (.iaload, 1) := by decide +kernel
theorem d_Plan_askInlineSources_58 : decode b_Plan_askInlineSources 58 = .ok (.aload_n 0, 1) := by decide +kernel
theorem d_Plan_askInlineSources_59 : decode b_Plan_askInlineSources 59 = .ok (.getfield 25, 3) := by decide +kernel
theorem d_Plan_askInlineSources_62 : decode b_Plan_askInlineSources 62 = .ok (.iload_n 1, 1) := by decide +kernel
theorem d_Plan_askInlineSources_63 : decode b_Plan_askInlineSources 63 = .ok (.iaload, 1) := by decide +kernel
theorem d_Plan_askInlineSources_64 : decode b_Plan_askInlineSources 64 = .ok (.iadd, 1) := by decide +kernel
theorem d_Plan_askInlineSources_65 : decode b_Plan_askInlineSources 65 = .ok (.iastore, 1) := by decide +kernel
theorem d_Plan_askInlineSources_66 : decode b_Plan_askInlineSources 66 = .ok (.iinc 3 1, 3) := by decide +kernel
theorem d_Plan_askInlineSources_69 : decode b_Plan_askInlineSources 69 = .ok (.goto (-57), 3) := by decide +kernel
theorem d_Plan_askInlineSources_72 : decode b_Plan_askInlineSources 72 = .ok (.return_, 1) := by decide +kernel
theorem d_Plan_isUsedAs_0 : decode b_Plan_isUsedAs 0 = .ok (.aload_n 0, 1) := by decide +kernel
theorem d_Plan_isUsedAs_1 : decode b_Plan_isUsedAs 1 = .ok (.getfield 12, 3) := by decide +kernel
theorem d_Plan_isUsedAs_4 : decode b_Plan_isUsedAs 4 = .ok (.getfield 126, 3) := by decide +kernel
theorem d_Plan_isUsedAs_7 : decode b_Plan_isUsedAs 7 = .ok (.iload_n 1, 1) := by decide +kernel
theorem d_Plan_isUsedAs_8 : decode b_Plan_isUsedAs 8 = .ok (.baload, 1) := by decide +kernel
theorem d_Plan_isUsedAs_9 : decode b_Plan_isUsedAs 9 = .ok (.ifCond .eq 23, 3) := by decide +kernel
theorem d_Plan_isUsedAs_12 : decode b_Plan_isUsedAs 12 = .ok (.aload_n 0, 1) := by decide +kernel
theorem d_Plan_isUsedAs_13 : decode b_Plan_isUsedAs 13 = .ok (.getfield 29, 3) := by decide +kernel
theorem d_Plan_isUsedAs_16 : decode b_Plan_isUsedAs 16 = .ok (.getfield 77, 3) := by decide +kernel
theorem d_Plan_isUsedAs_19 : decode b_Plan_isUsedAs 19 = .ok (.iload_n 1, 1) := by decide +kernel
theorem d_Plan_isUsedAs_20 : decode b_Plan_isUsedAs 20 = .ok (.aaload, 1) := by decide +kernel
theorem d_Plan_isUsedAs_21 : decode b_Plan_isUsedAs 21 = .ok (.getfield 97, 3) := by decide +kernel
theorem d_Plan_isUsedAs_24 : decode b_Plan_isUsedAs 24 = .ok (.iload_n 2, 1) := by decide +kernel
theorem d_Plan_isUsedAs_25 : decode b_Plan_isUsedAs 25 = .ok (.if_icmp .ne 7, 3) := by decide +kernel
theorem d_Plan_isUsedAs_28 : decode b_Plan_isUsedAs 28 = .ok (.iconst 1, 1) := by decide +kernel
theorem d_Plan_isUsedAs_29 : decode b_Plan_isUsedAs 29 = .ok (.goto 4, 3) := by decide +kernel
theorem d_Plan_isUsedAs_32 : decode b_Plan_isUsedAs 32 = .ok (.iconst 0, 1) := by decide +kernel
theorem d_Plan_isUsedAs_33 : decode b_Plan_isUsedAs 33 = .ok (.ireturn, 1) := by decide +kernel
theorem d_Plan_usedCount_0 : decode b_Plan_usedCount 0 = .ok (.iconst 0, 1) := by decide +kernel
theorem d_Plan_usedCount_1 : decode b_Plan_usedCount 1 = .ok (.istore_n 1, 1) := by decide +kernel
theorem d_Plan_usedCount_2 : decode b_Plan_usedCount 2 = .ok (.iconst 0, 1) := by decide +kernel
theorem d_Plan_usedCount_3 : decode b_Plan_usedCount 3 = .ok (.istore_n 2, 1) := by decide +kernel
theorem d_Plan_usedCount_4 : decode b_Plan_usedCount 4 = .ok (.iload_n 2, 1) := by decide +kernel
theorem d_Plan_usedCount_5 : decode b_Plan_usedCount 5 = .ok (.bipush 8, 2) := by decide +kernel
theorem d_Plan_usedCount_7 : decode b_Plan_usedCount 7 = .ok (.if_icmp .ge 29, 3) := by decide +kernel
theorem d_Plan_usedCount_10 : decode b_Plan_usedCount 10 = .ok (.iload_n 1, 1) := by decide +kernel
theorem d_Plan_usedCount_11 : decode b_Plan_usedCount 11 = .ok (.aload_n 0, 1) := by decide +kernel
theorem d_Plan_usedCount_12 : decode b_Plan_usedCount 12 = .ok (.getfield 12, 3) := by decide +kernel
theorem d_Plan_usedCount_15 : decode b_Plan_usedCount 15 = .ok (.getfield 126, 3) := by decide +kernel
theorem d_Plan_usedCount_18 : decode b_Plan_usedCount 18 = .ok (.iload_n 2, 1) := by decide +kernel
theorem d_Plan_usedCount_19 : decode b_Plan_usedCount 19 = .ok (.baload, 1) := by decide +kernel
theorem d_Plan_usedCount_20 : decode b_Plan_usedCount 20 = .ok (.ifCond .eq 7, 3) := by decide +kernel
theorem d_Plan_usedCount_23 : decode b_Plan_usedCount 23 = .ok (.iconst 1, 1) := by decide +kernel
theorem d_Plan_usedCount_24 : decode b_Plan_usedCount 24 = .ok (.goto 4, 3) := by decide +kernel
theorem d_Plan_usedCount_27 : decode b_Plan_usedCount 27 = .ok (.iconst 0, 1) := by decide +kernel
theorem d_Plan_usedCount_28 : decode b_Plan_usedCount 28 = .ok (.iadd, 1) := by decide +kernel
theorem d_Plan_usedCount_29 : decode b_Plan_usedCount 29 = .ok (.istore_n 1, 1) := by decide +kernel
theorem d_Plan_usedCount_30 : decode b_Plan_usedCount 30 = .ok (.iinc 2 1, 3) := by decide +kernel
theorem d_Plan_usedCount_33 : decode b_Plan_usedCount 33 = .ok (.goto (-29), 3) := by decide +kernel
theorem d_Plan_usedCount_36 : decode b_Plan_usedCount 36 = .ok (.iload_n 1, 1) := by decide +kernel
theorem d_Plan_usedCount_37 : decode b_Plan_usedCount 37 = .ok (.ireturn, 1) := by decide +kernel
theorem d_Runner_init_0 : decode b_Runner_init 0 = .ok (.aload_n 0, 1) := by decide +kernel
theorem d_Runner_init_1 : decode b_Runner_init 1 = .ok (.invokespecial 3, 3) := by decide +kernel
theorem d_Runner_init_4 : decode b_Runner_init 4 = .ok (.aload_n 0, 1) := by decide +kernel
theorem d_Runner_init_5 : decode b_Runner_init 5 = .ok (.new 9, 3) := by decide +kernel
theorem d_Runner_init_8 : decode b_Runner_init 8 = .ok (.dup, 1) := by decide +kernel
theorem d_Runner_init_9 : decode b_Runner_init 9 = .ok (.invokespecial 11, 3) := by decide +kernel
theorem d_Runner_init_12 : decode b_Runner_init 12 = .ok (.putfield 12, 3) := by decide +kernel
theorem d_Runner_init_15 : decode b_Runner_init 15 = .ok (.aload_n 0, 1) := by decide +kernel
theorem d_Runner_init_16 : decode b_Runner_init 16 = .ok (.bipush 8, 2) := by decide +kernel
theorem d_Runner_init_18 : decode b_Runner_init 18 = .ok (.newarray .boolean, 2) := by decide +kernel
theorem d_Runner_init_20 : decode b_Runner_init 20 = .ok (.putfield 18, 3) := by decide +kernel
theorem d_Runner_init_23 : decode b_Runner_init 23 = .ok (.aload_n 0, 1) := by decide +kernel
theorem d_Runner_init_24 : decode b_Runner_init 24 = .ok (.bipush 8, 2) := by decide +kernel
theorem d_Runner_init_26 : decode b_Runner_init 26 = .ok (.bipush 88, 2) := by decide +kernel
theorem d_Runner_init_28 : decode b_Runner_init 28 = .ok (.multianewarray 22 2, 4) := by decide +kernel
theorem d_Runner_init_32 : decode b_Runner_init 32 = .ok (.putfield 24, 3) := by decide +kernel
theorem d_Runner_init_35 : decode b_Runner_init 35 = .ok (.aload_n 0, 1) := by decide +kernel
theorem d_Runner_init_36 : decode b_Runner_init 36 = .ok (.bipush 32, 2) := by decide +kernel
theorem d_Runner_init_38 : decode b_Runner_init 38 = .ok (.newarray .int, 2) := by decide +kernel
theorem d_Runner_init_40 : decode b_Runner_init 40 = .ok (.putfield 27, 3) := by decide +kernel
theorem d_Runner_init_43 : decode b_Runner_init 43 = .ok (.aload_n 0, 1) := by decide +kernel
theorem d_Runner_init_44 : decode b_Runner_init 44 = .ok (.aload_n 1, 1) := by decide +kernel
theorem d_Runner_init_45 : decode b_Runner_init 45 = .ok (.putfield 31, 3) := by decide +kernel
theorem d_Runner_init_48 : decode b_Runner_init 48 = .ok (.return_, 1) := by decide +kernel
theorem d_Runner_runSchedule_0 : decode b_Runner_runSchedule 0 = .ok (.aload_n 0, 1) := by decide +kernel
theorem d_Runner_runSchedule_1 : decode b_Runner_runSchedule 1 = .ok (.aload_n 1, 1) := by decide +kernel
theorem d_Runner_runSchedule_2 : decode b_Runner_runSchedule 2 = .ok (.iconst 1, 1) := by decide +kernel
theorem d_Runner_runSchedule_3 : decode b_Runner_runSchedule 3 = .ok (.invokevirtual 35, 3) := by decide +kernel
theorem d_Runner_runSchedule_6 : decode b_Runner_runSchedule 6 = .ok (.iconst 0, 1) := by decide +kernel
theorem d_Runner_runSchedule_7 : decode b_Runner_runSchedule 7 = .ok (.istore_n 2, 1) := by decide +kernel
theorem d_Runner_runSchedule_8 : decode b_Runner_runSchedule 8 = .ok (.iload_n 2, 1) := by decide +kernel
theorem d_Runner_runSchedule_9 : decode b_Runner_runSchedule 9 = .ok (.aload_n 0, 1) := by decide +kernel
theorem d_Runner_runSchedule_10 : decode b_Runner_runSchedule 10 = .ok (.getfield 31, 3) := by decide +kernel
theorem d_Runner_runSchedule_13 : decode b_Runner_runSchedule 13 = .ok (.invokevirtual 39, 3) := by decide +kernel
theorem d_Runner_runSchedule_16 : decode b_Runner_runSchedule 16 = .ok (.if_icmp .ge 29, 3) := by decide +kernel
theorem d_Runner_runSchedule_19 : decode b_Runner_runSchedule 19 = .ok (.aload_n 0, 1) := by decide +kernel
theorem d_Runner_runSchedule_20 : decode b_Runner_runSchedule 20 = .ok (.aload_n 0, 1) := by decide +kernel
theorem d_Runner_runSchedule_21 : decode b_Runner_runSchedule 21 = .ok (.getfield 31, 3) := by decide +kernel
theorem d_Runner_runSchedule_24 : decode b_Runner_runSchedule 24 = .ok (.iload_n 2, 1) := by decide +kernel
theorem d_Runner_runSchedule_25 : decode b_Runner_runSchedule 25 = .ok (.invokevirtual 45, 3) := by decide +kernel
theorem d_Runner_runSchedule_28 : decode b_Runner_runSchedule 28 = .ok (.aload_n 0, 1) := by decide +kernel
theorem d_Runner_runSchedule_29 : decode b_Runner_runSchedule 29 = .ok (.getfield 31, 3) := by decide +kernel
theorem d_Runner_runSchedule_32 : decode b_Runner_runSchedule 32 = .ok (.iload_n 2, 1) := by decide +kernel
theorem d_Runner_runSchedule_33 : decode b_Runner_runSchedule 33 = .ok (.invokevirtual 49, 3) := by decide +kernel
theorem d_Runner_runSchedule_36 : decode b_Runner_runSchedule 36 = .ok (.invokevirtual 52, 3) := by decide +kernel
theorem d_Runner_runSchedule_39 : decode b_Runner_runSchedule 39 = .ok (.iinc 2 1, 3) := by decide +kernel
theorem d_Runner_runSchedule_42 : decode b_Runner_runSchedule 42 = .ok (.goto (-34), 3) := by decide +kernel
theorem d_Runner_runSchedule_45 : decode b_Runner_runSchedule 45 = .ok (.aload_n 0, 1) := by decide +kernel
theorem d_Runner_runSchedule_46 : decode b_Runner_runSchedule 46 = .ok (.iconst 1, 1) := by decide +kernel
theorem d_Runner_runSchedule_47 : decode b_Runner_runSchedule 47 = .ok (.invokevirtual 56, 3) := by decide +kernel
theorem d_Runner_runSchedule_50 : decode b_Runner_runSchedule 50 = .ok (.return_, 1) := by decide +kernel
theorem d_Runner_runTile_0 : decode b_Runner_runTile 0 = .ok (.aload_n 0, 1) := by decide +kernel
theorem d_Runner_runTile_1 : decode b_Runner_runTile 1 = .ok (.getfield 12, 3) := by decide +kernel
theorem d_Runner_runTile_4 : decode b_Runner_runTile 4 = .ok (.aload_n 0, 1) := by decide +kernel
theorem d_Runner_runTile_5 : decode b_Runner_runTile 5 = .ok (.getfield 31, 3) := by decide +kernel
theorem d_Runner_runTile_8 : decode b_Runner_runTile 8 = .ok (.iload_n 1, 1) := by decide +kernel
theorem d_Runner_runTile_9 : decode b_Runner_runTile 9 = .ok (.iload_n 2, 1) := by decide +kernel
theorem d_Runner_runTile_10 : decode b_Runner_runTile 10 = .ok (.invokevirtual 60, 3) := by decide +kernel
theorem d_Runner_runTile_13 : decode b_Runner_runTile 13 = .ok (.aload_n 0, 1) := by decide +kernel
theorem d_Runner_runTile_14 : decode b_Runner_runTile 14 = .ok (.aload_n 0, 1) := by decide +kernel
theorem d_Runner_runTile_15 : decode b_Runner_runTile 15 = .ok (.getfield 12, 3) := by decide +kernel
theorem d_Runner_runTile_18 : decode b_Runner_runTile 18 = .ok (.iconst 2, 1) := by decide +kernel
theorem d_Runner_runTile_19 : decode b_Runner_runTile 19 = .ok (.invokevirtual 35, 3) := by decide +kernel
theorem d_Runner_runTile_22 : decode b_Runner_runTile 22 = .ok (.iload_n 1, 1) := by decide +kernel
theorem d_Runner_runTile_23 : decode b_Runner_runTile 23 = .ok (.istore_n 3, 1) := by decide +kernel
theorem d_Runner_runTile_24 : decode b_Runner_runTile 24 = .ok (.iload_n 3, 1) := by decide +kernel
theorem d_Runner_runTile_25 : decode b_Runner_runTile 25 = .ok (.iload_n 2, 1) := by decide +kernel
theorem d_Runner_runTile_26 : decode b_Runner_runTile 26 = .ok (.if_icmp .gt 27, 3) := by decide +kernel
theorem d_Runner_runTile_29 : decode b_Runner_runTile 29 = .ok (.aload_n 0, 1) := by decide +kernel
theorem d_Runner_runTile_30 : decode b_Runner_runTile 30 = .ok (.getfield 27, 3) := by decide +kernel
theorem d_Runner_runTile_33 : decode b_Runner_runTile 33 = .ok (.iload_n 3, 1) := by decide +kernel
theorem d_Runner_runTile_34 : decode b_Runner_runTile 34 = .ok (.aload_n 0, 1) := by decide +kernel
theorem d_Runner_runTile_35 : decode b_Runner_runTile 35 = .ok (.aload_n 0, 1) := by decide +kernel
theorem d_Runner_runTile_36 : decode b_Runner_runTile 36 = .ok (.getfield 31, 3) := by decide +kernel
theorem d_Runner_runTile_39 : decode b_Runner_runTile 39 = .ok (.getfield 64, 3) := by decide +kernel
theorem d_Runner_runTile_42 : decode b_Runner_runTile 42 = .ok (.iload_n 3, 1) := by decide +kernel
theorem d_Runner_runTile_43 : decode b_Runner_runTile 43 = .ok (.invokevirtual 68, 3) := by decide +kernel
theorem d_Runner_runTile_46 : decode b_Runner_runTile 46 = .ok (.iastore, 1) := by decide +kernel
theorem d_Runner_runTile_47 : decode b_Runner_runTile 47 = .ok (.iinc 3 1, 3) := by decide +kernel
theorem d_Runner_runTile_50 : decode b_Runner_runTile 50 = .ok (.goto (-26), 3) := by decide +kernel
theorem d_Runner_runTile_53 : decode b_Runner_runTile 53 = .ok (.aload_n 0, 1) := by decide +kernel
theorem d_Runner_runTile_54 : decode b_Runner_runTile 54 = .ok (.iconst 2, 1) := by decide +kernel
theorem d_Runner_runTile_55 : decode b_Runner_runTile 55 = .ok (.invokevirtual 56, 3) := by decide +kernel
theorem d_Runner_runTile_58 : decode b_Runner_runTile 58 = .ok (.return_, 1) := by decide +kernel
theorem d_Runner_keep_0 : decode b_Runner_keep 0 = .ok (.iconst 0, 1) := by decide +kernel
theorem d_Runner_keep_1 : decode b_Runner_keep 1 = .ok (.istore_n 3, 1) := by decide +kernel
theorem d_Runner_keep_2 : decode b_Runner_keep 2 = .ok (.iload_n 3, 1) := by decide +kernel
theorem d_Runner_keep_3 : decode b_Runner_keep 3 = .ok (.aload_n 0, 1) := by decide +kernel
theorem d_Runner_keep_4 : decode b_Runner_keep 4 = .ok (.getfield 31, 3) := by decide +kernel
theorem d_Runner_keep_7 : decode b_Runner_keep 7 = .ok (.getfield 64, 3) := by decide +kernel
theorem d_Runner_keep_10 : decode b_Runner_keep 10 = .ok (.if_icmp .ge 88, 3) := by decide +kernel
theorem d_Runner_keep_13 : decode b_Runner_keep 13 = .ok (.aload_n 1, 1) := by decide +kernel
theorem d_Runner_keep_14 : decode b_Runner_keep 14 = .ok (.getfield 72, 3) := by decide +kernel
theorem d_Runner_keep_17 : decode b_Runner_keep 17 = .ok (.iload_n 3, 1) := by decide +kernel
theorem d_Runner_keep_18 : decode b_Runner_keep 18 = .ok (.baload, 1) := by decide +kernel
theorem d_Runner_keep_19 : decode b_Runner_keep 19 = .ok (.ifCond .eq 73, 3) := by decide +kernel
theorem d_Runner_keep_22 : decode b_Runner_keep 22 = .ok (.aload_n 0, 1) := by decide +kernel
theorem d_Runner_keep_23 : decode b_Runner_keep 23 = .ok (.getfield 31, 3) := by decide +kernel
theorem d_Runner_keep_26 : decode b_Runner_keep 26 = .ok (.getfield 75, 3) := by decide +kernel
theorem d_Runner_keep_29 : decode b_Runner_keep 29 = .ok (.iload_n 3, 1) := by decide +kernel
theorem d_Runner_keep_30 : decode b_Runner_keep 30 = .ok (.aaload, 1) := by decide +kernel
theorem d_Runner_keep_31 : decode b_Runner_keep 31 = .ok (.getfield 79, 3) := by decide +kernel
theorem d_Runner_keep_34 : decode b_Runner_keep 34 = .ok (.iload_n 2, 1) := by decide +kernel
theorem d_Runner_keep_35 : decode b_Runner_keep 35 = .ok (.if_icmp .eq 6, 3) := by decide +kernel
theorem d_Runner_keep_38 : decode b_Runner_keep 38 = .ok (.goto 54, 3) := by decide +kernel
theorem d_Runner_keep_41 : decode b_Runner_keep 41 = .ok (.aload_n 1, 1) := by decide +kernel
theorem d_Runner_keep_42 : decode b_Runner_keep 42 = .ok (.getfield 84, 3) := by decide +kernel
theorem d_Runner_keep_45 : decode b_Runner_keep 45 = .ok (.iload_n 3, 1) := by decide +kernel
theorem d_Runner_keep_46 : decode b_Runner_keep 46 = .ok (.iaload, 1) := by decide +kernel
theorem d_Runner_keep_47 : decode b_Runner_keep 47 = .ok (.istore 4, 2) := by decide +kernel
theorem d_Runner_keep_49 : decode b_Runner_keep 49 = .ok (.iload 4, 2) := by decide +kernel
theorem d_Runner_keep_51 : decode b_Runner_keep 51 = .ok (.aload_n 1, 1) := by decide +kernel
theorem d_Runner_keep_52 : decode b_Runner_keep 52 = .ok (.getfield 87, 3) := by decide +kernel
theorem d_Runner_keep_55 : decode b_Runner_keep 55 = .ok (.iload_n 3, 1) := by decide +kernel
theorem d_Runner_keep_56 : decode b_Runner_keep 56 = .ok (.iaload, 1) := by decide +kernel
theorem d_Runner_keep_57 : decode b_Runner_keep 57 = .ok (.if_icmp .gt 28, 3) := by decide +kernel
theorem d_Runner_keep_60 : decode b_Runner_keep 60 = .ok (.aload_n 0, 1) := by decide +kernel
theorem d_Runner_keep_61 : decode b_Runner_keep 61 = .ok (.getfield 24, 3) := by decide +kernel
theorem d_Runner_keep_64 : decode b_Runner_keep 64 = .ok (.iload_n 3, 1) := by decide +kernel
theorem d_Runner_keep_65 : decode b_Runner_keep 65 = .ok (.aaload, 1) := by decide +kernel
theorem d_Runner_keep_66 : decode b_Runner_keep 66 = .ok (.iload 4, 2) := by decide +kernel
theorem d_Runner_keep_68 : decode b_Runner_keep 68 = .ok (.bipush 28, 2) := by decide +kernel
theorem d_Runner_keep_70 : decode b_Runner_keep 70 = .ok (.iadd, 1) := by decide +kernel
theorem d_Runner_keep_71 : decode b_Runner_keep 71 = .ok (.aload_n 0, 1) := by decide +kernel
theorem d_Runner_keep_72 : decode b_Runner_keep 72 = .ok (.iload_n 3, 1) := by decide +kernel
theorem d_Runner_keep_73 : decode b_Runner_keep 73 = .ok (.iload 4, 2) := by decide +kernel
theorem d_Runner_keep_75 : decode b_Runner_keep 75 = .ok (.invokevirtual 68, 3) := by decide +kernel
theorem d_Runner_keep_78 : decode b_Runner_keep 78 = .ok (.iastore, 1) := by decide +kernel
theorem d_Runner_keep_79 : decode b_Runner_keep 79 = .ok (.iinc 4 1, 3) := by decide +kernel
theorem d_Runner_keep_82 : decode b_Runner_keep 82 = .ok (.goto (-33), 3) := by decide +kernel
theorem d_Runner_keep_85 : decode b_Runner_keep 85 = .ok (.aload_n 0, 1) := by decide +kernel
theorem d_Runner_keep_86 : decode b_Runner_keep 86 = .ok (.getfield 18, 3) := by decide +kernel
theorem d_Runner_keep_89 : decode b_Runner_keep 89 = .ok (.iload_n 3, 1) := by decide +kernel
theorem d_Runner_keep_90 : decode b_Runner_keep 90 = .ok (.iconst 1, 1) := by decide +kernel
theorem d_Runner_keep_91 : decode b_Runner_keep 91 = .ok (.bastore, 1) := by decide +kernel
theorem d_Runner_keep_92 : decode b_Runner_keep 92 = .ok (.iinc 3 1, 3) := by decide +kernel
theorem d_Runner_keep_95 : decode b_Runner_keep 95 = .ok (.goto (-93), 3) := by decide +kernel
theorem d_Runner_keep_98 : decode b_Runner_keep 98 = .ok (.return_, 1) := by decide +kernel
theorem d_Runner_release_0 : decode b_Runner_release 0 = .ok (.iconst 0, 1) := by decide +kernel
theorem d_Runner_release_1 : decode b_Runner_release 1 = .ok (.istore_n 2, 1) := by decide +kernel
theorem d_Runner_release_2 : decode b_Runner_release 2 = .ok (.iload_n 2, 1) := by decide +kernel
theorem d_Runner_release_3 : decode b_Runner_release 3 = .ok (.aload_n 0, 1) := by decide +kernel
theorem d_Runner_release_4 : decode b_Runner_release 4 = .ok (.getfield 31, 3) := by decide +kernel
theorem d_Runner_release_7 : decode b_Runner_release 7 = .ok (.getfield 64, 3) := by decide +kernel
theorem d_Runner_release_10 : decode b_Runner_release 10 = .ok (.if_icmp .ge 45, 3) := by decide +kernel
theorem d_Runner_release_13 : decode b_Runner_release 13 = .ok (.aload_n 0, 1) := by decide +kernel
theorem d_Runner_release_14 : decode b_Runner_release 14 = .ok (.getfield 18, 3) := by decide +kernel
theorem d_Runner_release_17 : decode b_Runner_release 17 = .ok (.iload_n 2, 1) := by decide +kernel
theorem d_Runner_release_18 : decode b_Runner_release 18 = .ok (.aload_n 0, 1) := by decide +kernel
theorem d_Runner_release_19 : decode b_Runner_release 19 = .ok (.getfield 18, 3) := by decide +kernel
theorem d_Runner_release_22 : decode b_Runner_release 22 = .ok (.iload_n 2, 1) := by decide +kernel
theorem d_Runner_release_23 : decode b_Runner_release 23 = .ok (.baload, 1) := by decide +kernel
theorem d_Runner_release_24 : decode b_Runner_release 24 = .ok (.ifCond .eq 23, 3) := by decide +kernel
theorem d_Runner_release_27 : decode b_Runner_release 27 = .ok (.aload_n 0, 1) := by decide +kernel
theorem d_Runner_release_28 : decode b_Runner_release 28 = .ok (.getfield 31, 3) := by decide +kernel
theorem d_Runner_release_31 : decode b_Runner_release 31 = .ok (.getfield 75, 3) := by decide +kernel
theorem d_Runner_release_34 : decode b_Runner_release 34 = .ok (.iload_n 2, 1) := by decide +kernel
end
section
theorem d_Runner_release_35 : decode b_Runner_release 35 = .ok (.aaload, 1) := by decide +kernel
theorem d_Runner_release_36 : decode b_Runner_release 36 = .ok (.getfield 79, 3) := by decide +kernel
theorem d_Runner_release_39 : decode b_Runner_release 39 = .ok (.iload_n 1, 1) := by decide +kernel
theorem d_Runner_release_40 : decode b_Runner_release 40 = .ok (.if_icmp .eq 7, 3) := by decide +kernel
theorem d_Runner_release_43 : decode b_Runner_release 43 = .ok (.iconst 1, 1) := by decide +kernel
theorem d_Runner_release_44 : decode b_Runner_release 44 = .ok (.goto 4, 3) := by decide +kernel
theorem d_Runner_release_47 : decode b_Runner_release 47 = .ok (.iconst 0, 1) := by decide +kernel
theorem d_Runner_release_48 : decode b_Runner_release 48 = .ok (.bastore, 1) := by decide +kernel
theorem d_Runner_release_49 : decode b_Runner_release 49 = .ok (.iinc 2 1, 3) := by decide +kernel
theorem d_Runner_release_52 : decode b_Runner_release 52 = .ok (.goto (-50), 3) := by decide +kernel
theorem d_Runner_release_55 : decode b_Runner_release 55 = .ok (.return_, 1) := by decide +kernel
theorem d_Runner_workOut_0 : decode b_Runner_workOut 0 = .ok (.aload_n 0, 1) := by decide +kernel
theorem d_Runner_workOut_1 : decode b_Runner_workOut 1 = .ok (.getfield 31, 3) := by decide +kernel
theorem d_Runner_workOut_4 : decode b_Runner_workOut 4 = .ok (.getfield 75, 3) := by decide +kernel
theorem d_Runner_workOut_7 : decode b_Runner_workOut 7 = .ok (.iload_n 1, 1) := by decide +kernel
theorem d_Runner_workOut_8 : decode b_Runner_workOut 8 = .ok (.aaload, 1) := by decide +kernel
theorem d_Runner_workOut_9 : decode b_Runner_workOut 9 = .ok (.astore_n 3, 1) := by decide +kernel
theorem d_Runner_workOut_10 : decode b_Runner_workOut 10 = .ok (.aload_n 3, 1) := by decide +kernel
theorem d_Runner_workOut_11 : decode b_Runner_workOut 11 = .ok (.getfield 90, 3) := by decide +kernel
theorem d_Runner_workOut_14 : decode b_Runner_workOut 14 = .ok (.istore 4, 2) := by decide +kernel
theorem d_Runner_workOut_16 : decode b_Runner_workOut 16 = .ok (.iconst 0, 1) := by decide +kernel
theorem d_Runner_workOut_17 : decode b_Runner_workOut 17 = .ok (.istore 5, 2) := by decide +kernel
theorem d_Runner_workOut_19 : decode b_Runner_workOut 19 = .ok (.iload 5, 2) := by decide +kernel
theorem d_Runner_workOut_21 : decode b_Runner_workOut 21 = .ok (.aload_n 3, 1) := by decide +kernel
theorem d_Runner_workOut_22 : decode b_Runner_workOut 22 = .ok (.getfield 93, 3) := by decide +kernel
theorem d_Runner_workOut_25 : decode b_Runner_workOut 25 = .ok (.if_icmp .ge 42, 3) := by decide +kernel
theorem d_Runner_workOut_28 : decode b_Runner_workOut 28 = .ok (.iload 4, 2) := by decide +kernel
theorem d_Runner_workOut_30 : decode b_Runner_workOut 30 = .ok (.aload_n 3, 1) := by decide +kernel
theorem d_Runner_workOut_31 : decode b_Runner_workOut 31 = .ok (.getfield 96, 3) := by decide +kernel
theorem d_Runner_workOut_34 : decode b_Runner_workOut 34 = .ok (.iload 5, 2) := by decide +kernel
theorem d_Runner_workOut_36 : decode b_Runner_workOut 36 = .ok (.iaload, 1) := by decide +kernel
theorem d_Runner_workOut_37 : decode b_Runner_workOut 37 = .ok (.aload_n 0, 1) := by decide +kernel
theorem d_Runner_workOut_38 : decode b_Runner_workOut 38 = .ok (.aload_n 3, 1) := by decide +kernel
theorem d_Runner_workOut_39 : decode b_Runner_workOut 39 = .ok (.getfield 99, 3) := by decide +kernel
theorem d_Runner_workOut_42 : decode b_Runner_workOut 42 = .ok (.iload 5, 2) := by decide +kernel
theorem d_Runner_workOut_44 : decode b_Runner_workOut 44 = .ok (.iaload, 1) := by decide +kernel
theorem d_Runner_workOut_45 : decode b_Runner_workOut 45 = .ok (.iload_n 2, 1) := by decide +kernel
theorem d_Runner_workOut_46 : decode b_Runner_workOut 46 = .ok (.aload_n 3, 1) := by decide +kernel
theorem d_Runner_workOut_47 : decode b_Runner_workOut 47 = .ok (.getfield 102, 3) := by decide +kernel
theorem d_Runner_workOut_50 : decode b_Runner_workOut 50 = .ok (.iload 5, 2) := by decide +kernel
theorem d_Runner_workOut_52 : decode b_Runner_workOut 52 = .ok (.iaload, 1) := by decide +kernel
theorem d_Runner_workOut_53 : decode b_Runner_workOut 53 = .ok (.iadd, 1) := by decide +kernel
theorem d_Runner_workOut_54 : decode b_Runner_workOut 54 = .ok (.invokevirtual 105, 3) := by decide +kernel
theorem d_Runner_workOut_57 : decode b_Runner_workOut 57 = .ok (.imul, 1) := by decide +kernel
theorem d_Runner_workOut_58 : decode b_Runner_workOut 58 = .ok (.iadd, 1) := by decide +kernel
theorem d_Runner_workOut_59 : decode b_Runner_workOut 59 = .ok (.istore 4, 2) := by decide +kernel
theorem d_Runner_workOut_61 : decode b_Runner_workOut 61 = .ok (.iinc 5 1, 3) := by decide +kernel
theorem d_Runner_workOut_64 : decode b_Runner_workOut 64 = .ok (.goto (-45), 3) := by decide +kernel
theorem d_Runner_workOut_67 : decode b_Runner_workOut 67 = .ok (.aload_n 3, 1) := by decide +kernel
theorem d_Runner_workOut_68 : decode b_Runner_workOut 68 = .ok (.iload 4, 2) := by decide +kernel
theorem d_Runner_workOut_70 : decode b_Runner_workOut 70 = .ok (.invokevirtual 108, 3) := by decide +kernel
theorem d_Runner_workOut_73 : decode b_Runner_workOut 73 = .ok (.ireturn, 1) := by decide +kernel
theorem d_Runner_sourceValue_0 : decode b_Runner_sourceValue 0 = .ok (.iload_n 1, 1) := by decide +kernel
theorem d_Runner_sourceValue_1 : decode b_Runner_sourceValue 1 = .ok (.iconst (-1), 1) := by decide +kernel
theorem d_Runner_sourceValue_2 : decode b_Runner_sourceValue 2 = .ok (.if_icmp .ne 30, 3) := by decide +kernel
theorem d_Runner_sourceValue_5 : decode b_Runner_sourceValue 5 = .ok (.aload_n 0, 1) := by decide +kernel
theorem d_Runner_sourceValue_6 : decode b_Runner_sourceValue 6 = .ok (.getfield 31, 3) := by decide +kernel
theorem d_Runner_sourceValue_9 : decode b_Runner_sourceValue 9 = .ok (.getfield 111, 3) := by decide +kernel
theorem d_Runner_sourceValue_12 : decode b_Runner_sourceValue 12 = .ok (.iconst 0, 1) := by decide +kernel
theorem d_Runner_sourceValue_13 : decode b_Runner_sourceValue 13 = .ok (.aload_n 0, 1) := by decide +kernel
theorem d_Runner_sourceValue_14 : decode b_Runner_sourceValue 14 = .ok (.getfield 31, 3) := by decide +kernel
theorem d_Runner_sourceValue_17 : decode b_Runner_sourceValue 17 = .ok (.getfield 111, 3) := by decide +kernel
theorem d_Runner_sourceValue_20 : decode b_Runner_sourceValue 20 = .ok (.arraylength, 1) := by decide +kernel
theorem d_Runner_sourceValue_21 : decode b_Runner_sourceValue 21 = .ok (.iconst 1, 1) := by decide +kernel
theorem d_Runner_sourceValue_22 : decode b_Runner_sourceValue 22 = .ok (.isub, 1) := by decide +kernel
theorem d_Runner_sourceValue_23 : decode b_Runner_sourceValue 23 = .ok (.iload_n 2, 1) := by decide +kernel
theorem d_Runner_sourceValue_24 : decode b_Runner_sourceValue 24 = .ok (.invokestatic 114, 3) := by decide +kernel
theorem d_Runner_sourceValue_27 : decode b_Runner_sourceValue 27 = .ok (.invokestatic 119, 3) := by decide +kernel
theorem d_Runner_sourceValue_30 : decode b_Runner_sourceValue 30 = .ok (.iaload, 1) := by decide +kernel
theorem d_Runner_sourceValue_31 : decode b_Runner_sourceValue 31 = .ok (.ireturn, 1) := by decide +kernel
theorem d_Runner_sourceValue_32 : decode b_Runner_sourceValue 32 = .ok (.aload_n 0, 1) := by decide +kernel
theorem d_Runner_sourceValue_33 : decode b_Runner_sourceValue 33 = .ok (.getfield 18, 3) := by decide +kernel
theorem d_Runner_sourceValue_36 : decode b_Runner_sourceValue 36 = .ok (.iload_n 1, 1) := by decide +kernel
theorem d_Runner_sourceValue_37 : decode b_Runner_sourceValue 37 = .ok (.baload, 1) := by decide +kernel
theorem d_Runner_sourceValue_38 : decode b_Runner_sourceValue 38 = .ok (.ifCond .eq 17, 3) := by decide +kernel
theorem d_Runner_sourceValue_41 : decode b_Runner_sourceValue 41 = .ok (.aload_n 0, 1) := by decide +kernel
theorem d_Runner_sourceValue_42 : decode b_Runner_sourceValue 42 = .ok (.getfield 24, 3) := by decide +kernel
theorem d_Runner_sourceValue_45 : decode b_Runner_sourceValue 45 = .ok (.iload_n 1, 1) := by decide +kernel
theorem d_Runner_sourceValue_46 : decode b_Runner_sourceValue 46 = .ok (.aaload, 1) := by decide +kernel
theorem d_Runner_sourceValue_47 : decode b_Runner_sourceValue 47 = .ok (.iload_n 2, 1) := by decide +kernel
theorem d_Runner_sourceValue_48 : decode b_Runner_sourceValue 48 = .ok (.bipush 28, 2) := by decide +kernel
theorem d_Runner_sourceValue_50 : decode b_Runner_sourceValue 50 = .ok (.iadd, 1) := by decide +kernel
theorem d_Runner_sourceValue_51 : decode b_Runner_sourceValue 51 = .ok (.iaload, 1) := by decide +kernel
theorem d_Runner_sourceValue_52 : decode b_Runner_sourceValue 52 = .ok (.goto 9, 3) := by decide +kernel
theorem d_Runner_sourceValue_55 : decode b_Runner_sourceValue 55 = .ok (.aload_n 0, 1) := by decide +kernel
theorem d_Runner_sourceValue_56 : decode b_Runner_sourceValue 56 = .ok (.iload_n 1, 1) := by decide +kernel
theorem d_Runner_sourceValue_57 : decode b_Runner_sourceValue 57 = .ok (.iload_n 2, 1) := by decide +kernel
theorem d_Runner_sourceValue_58 : decode b_Runner_sourceValue 58 = .ok (.invokevirtual 68, 3) := by decide +kernel
theorem d_Runner_sourceValue_61 : decode b_Runner_sourceValue 61 = .ok (.ireturn, 1) := by decide +kernel
theorem d_Stage_init_0 : decode b_Stage_init 0 = .ok (.aload_n 0, 1) := by decide +kernel
theorem d_Stage_init_1 : decode b_Stage_init 1 = .ok (.invokespecial 3, 3) := by decide +kernel
theorem d_Stage_init_4 : decode b_Stage_init 4 = .ok (.aload_n 0, 1) := by decide +kernel
theorem d_Stage_init_5 : decode b_Stage_init 5 = .ok (.iconst 4, 1) := by decide +kernel
theorem d_Stage_init_6 : decode b_Stage_init 6 = .ok (.newarray .int, 2) := by decide +kernel
theorem d_Stage_init_8 : decode b_Stage_init 8 = .ok (.putfield 9, 3) := by decide +kernel
theorem d_Stage_init_11 : decode b_Stage_init 11 = .ok (.aload_n 0, 1) := by decide +kernel
theorem d_Stage_init_12 : decode b_Stage_init 12 = .ok (.iconst 4, 1) := by decide +kernel
theorem d_Stage_init_13 : decode b_Stage_init 13 = .ok (.newarray .int, 2) := by decide +kernel
theorem d_Stage_init_15 : decode b_Stage_init 15 = .ok (.putfield 15, 3) := by decide +kernel
theorem d_Stage_init_18 : decode b_Stage_init 18 = .ok (.aload_n 0, 1) := by decide +kernel
theorem d_Stage_init_19 : decode b_Stage_init 19 = .ok (.iconst 4, 1) := by decide +kernel
theorem d_Stage_init_20 : decode b_Stage_init 20 = .ok (.newarray .int, 2) := by decide +kernel
theorem d_Stage_init_22 : decode b_Stage_init 22 = .ok (.putfield 18, 3) := by decide +kernel
theorem d_Stage_init_25 : decode b_Stage_init 25 = .ok (.return_, 1) := by decide +kernel
theorem d_Stage_addTap_0 : decode b_Stage_addTap 0 = .ok (.aload_n 0, 1) := by decide +kernel
theorem d_Stage_addTap_1 : decode b_Stage_addTap 1 = .ok (.getfield 9, 3) := by decide +kernel
theorem d_Stage_addTap_4 : decode b_Stage_addTap 4 = .ok (.aload_n 0, 1) := by decide +kernel
theorem d_Stage_addTap_5 : decode b_Stage_addTap 5 = .ok (.getfield 21, 3) := by decide +kernel
theorem d_Stage_addTap_8 : decode b_Stage_addTap 8 = .ok (.iload_n 1, 1) := by decide +kernel
theorem d_Stage_addTap_9 : decode b_Stage_addTap 9 = .ok (.iastore, 1) := by decide +kernel
theorem d_Stage_addTap_10 : decode b_Stage_addTap 10 = .ok (.aload_n 0, 1) := by decide +kernel
theorem d_Stage_addTap_11 : decode b_Stage_addTap 11 = .ok (.getfield 15, 3) := by decide +kernel
theorem d_Stage_addTap_14 : decode b_Stage_addTap 14 = .ok (.aload_n 0, 1) := by decide +kernel
theorem d_Stage_addTap_15 : decode b_Stage_addTap 15 = .ok (.getfield 21, 3) := by decide +kernel
theorem d_Stage_addTap_18 : decode b_Stage_addTap 18 = .ok (.iload_n 2, 1) := by decide +kernel
theorem d_Stage_addTap_19 : decode b_Stage_addTap 19 = .ok (.iastore, 1) := by decide +kernel
theorem d_Stage_addTap_20 : decode b_Stage_addTap 20 = .ok (.aload_n 0, 1) := by decide +kernel
theorem d_Stage_addTap_21 : decode b_Stage_addTap 21 = .ok (.getfield 18, 3) := by decide +kernel
theorem d_Stage_addTap_24 : decode b_Stage_addTap 24 = .ok (.aload_n 0, 1) := by decide +kernel
theorem d_Stage_addTap_25 : decode b_Stage_addTap 25 = .ok (.getfield 21, 3) := by decide +kernel
theorem d_Stage_addTap_28 : decode b_Stage_addTap 28 = .ok (.iload_n 3, 1) := by decide +kernel
theorem d_Stage_addTap_29 : decode b_Stage_addTap 29 = .ok (.iastore, 1) := by decide +kernel
theorem d_Stage_addTap_30 : decode b_Stage_addTap 30 = .ok (.aload_n 0, 1) := by decide +kernel
theorem d_Stage_addTap_31 : decode b_Stage_addTap 31 = .ok (.dup, 1) := by decide +kernel
theorem d_Stage_addTap_32 : decode b_Stage_addTap 32 = .ok (.getfield 21, 3) := by decide +kernel
theorem d_Stage_addTap_35 : decode b_Stage_addTap 35 = .ok (.iconst 1, 1) := by decide +kernel
theorem d_Stage_addTap_36 : decode b_Stage_addTap 36 = .ok (.iadd, 1) := by decide +kernel
theorem d_Stage_addTap_37 : decode b_Stage_addTap 37 = .ok (.putfield 21, 3) := by decide +kernel
theorem d_Stage_addTap_40 : decode b_Stage_addTap 40 = .ok (.return_, 1) := by decide +kernel
theorem d_Stage_finished_0 : decode b_Stage_finished 0 = .ok (.aload_n 0, 1) := by decide +kernel
theorem d_Stage_finished_1 : decode b_Stage_finished 1 = .ok (.getfield 25, 3) := by decide +kernel
theorem d_Stage_finished_4 : decode b_Stage_finished 4 = .ok (.tableswitch 51 1 3 #[28, 34, 40], 28) := by decide +kernel
theorem d_Stage_finished_32 : decode b_Stage_finished 32 = .ok (.iload_n 1, 1) := by decide +kernel
theorem d_Stage_finished_33 : decode b_Stage_finished 33 = .ok (.iconst 0, 1) := by decide +kernel
theorem d_Stage_finished_34 : decode b_Stage_finished 34 = .ok (.invokestatic 28, 3) := by decide +kernel
theorem d_Stage_finished_37 : decode b_Stage_finished 37 = .ok (.ireturn, 1) := by decide +kernel
theorem d_Stage_finished_38 : decode b_Stage_finished 38 = .ok (.iload_n 1, 1) := by decide +kernel
theorem d_Stage_finished_39 : decode b_Stage_finished 39 = .ok (.iconst 2, 1) := by decide +kernel
theorem d_Stage_finished_40 : decode b_Stage_finished 40 = .ok (.invokestatic 34, 3) := by decide +kernel
theorem d_Stage_finished_43 : decode b_Stage_finished 43 = .ok (.ireturn, 1) := by decide +kernel
theorem d_Stage_finished_44 : decode b_Stage_finished 44 = .ok (.iload_n 1, 1) := by decide +kernel
theorem d_Stage_finished_45 : decode b_Stage_finished 45 = .ok (.ifCond .ge 8, 3) := by decide +kernel
theorem d_Stage_finished_48 : decode b_Stage_finished 48 = .ok (.iload_n 1, 1) := by decide +kernel
theorem d_Stage_finished_49 : decode b_Stage_finished 49 = .ok (.ineg, 1) := by decide +kernel
theorem d_Stage_finished_50 : decode b_Stage_finished 50 = .ok (.goto 4, 3) := by decide +kernel
theorem d_Stage_finished_53 : decode b_Stage_finished 53 = .ok (.iload_n 1, 1) := by decide +kernel
theorem d_Stage_finished_54 : decode b_Stage_finished 54 = .ok (.ireturn, 1) := by decide +kernel
theorem d_Stage_finished_55 : decode b_Stage_finished 55 = .ok (.iload_n 1, 1) := by decide +kernel
theorem d_Stage_finished_56 : decode b_Stage_finished 56 = .ok (.ireturn, 1) := by decide +kernel
theorem d_Math_floorDiv_0 : decode b_Math_floorDiv 0 = .ok (.iload_n 0, 1) := by decide +kernel
theorem d_Math_floorDiv_1 : decode b_Math_floorDiv 1 = .ok (.iload_n 1, 1) := by decide +kernel
theorem d_Math_floorDiv_2 : decode b_Math_floorDiv 2 = .ok (.idiv, 1) := by decide +kernel
theorem d_Math_floorDiv_3 : decode b_Math_floorDiv 3 = .ok (.istore_n 2, 1) := by decide +kernel
theorem d_Math_floorDiv_4 : decode b_Math_floorDiv 4 = .ok (.iload_n 0, 1) := by decide +kernel
theorem d_Math_floorDiv_5 : decode b_Math_floorDiv 5 = .ok (.iload_n 1, 1) := by decide +kernel
theorem d_Math_floorDiv_6 : decode b_Math_floorDiv 6 = .ok (.ixor, 1) := by decide +kernel
theorem d_Math_floorDiv_7 : decode b_Math_floorDiv 7 = .ok (.ifCond .ge 14, 3) := by decide +kernel
theorem d_Math_floorDiv_10 : decode b_Math_floorDiv 10 = .ok (.iload_n 2, 1) := by decide +kernel
theorem d_Math_floorDiv_11 : decode b_Math_floorDiv 11 = .ok (.iload_n 1, 1) := by decide +kernel
theorem d_Math_floorDiv_12 : decode b_Math_floorDiv 12 = .ok (.imul, 1) := by decide +kernel
theorem d_Math_floorDiv_13 : decode b_Math_floorDiv 13 = .ok (.iload_n 0, 1) := by decide +kernel
theorem d_Math_floorDiv_14 : decode b_Math_floorDiv 14 = .ok (.if_icmp .eq 7, 3) := by decide +kernel
theorem d_Math_floorDiv_17 : decode b_Math_floorDiv 17 = .ok (.iload_n 2, 1) := by decide +kernel
theorem d_Math_floorDiv_18 : decode b_Math_floorDiv 18 = .ok (.iconst 1, 1) := by decide +kernel
theorem d_Math_floorDiv_19 : decode b_Math_floorDiv 19 = .ok (.isub, 1) := by decide +kernel
theorem d_Math_floorDiv_20 : decode b_Math_floorDiv 20 = .ok (.ireturn, 1) := by decide +kernel
theorem d_Math_floorDiv_21 : decode b_Math_floorDiv 21 = .ok (.iload_n 2, 1) := by decide +kernel
theorem d_Math_floorDiv_22 : decode b_Math_floorDiv 22 = .ok (.ireturn, 1) := by decide +kernel
theorem d_Arrays_fill_0 : decode b_Arrays_fill 0 = .ok (.iconst 0, 1) := by decide +kernel
theorem d_Arrays_fill_1 : decode b_Arrays_fill 1 = .ok (.istore_n 2, 1) := by decide +kernel
theorem d_Arrays_fill_2 : decode b_Arrays_fill 2 = .ok (.aload_n 0, 1) := by decide +kernel
theorem d_Arrays_fill_3 : decode b_Arrays_fill 3 = .ok (.arraylength, 1) := by decide +kernel
theorem d_Arrays_fill_4 : decode b_Arrays_fill 4 = .ok (.istore_n 3, 1) := by decide +kernel
theorem d_Arrays_fill_5 : decode b_Arrays_fill 5 = .ok (.iload_n 2, 1) := by decide +kernel
theorem d_Arrays_fill_6 : decode b_Arrays_fill 6 = .ok (.iload_n 3, 1) := by decide +kernel
theorem d_Arrays_fill_7 : decode b_Arrays_fill 7 = .ok (.if_icmp .ge 13, 3) := by decide +kernel
theorem d_Arrays_fill_10 : decode b_Arrays_fill 10 = .ok (.aload_n 0, 1) := by decide +kernel
theorem d_Arrays_fill_11 : decode b_Arrays_fill 11 = .ok (.iload_n 2, 1) := by decide +kernel
theorem d_Arrays_fill_12 : decode b_Arrays_fill 12 = .ok (.iload_n 1, 1) := by decide +kernel
theorem d_Arrays_fill_13 : decode b_Arrays_fill 13 = .ok (.iastore, 1) := by decide +kernel
theorem d_Arrays_fill_14 : decode b_Arrays_fill 14 = .ok (.iinc 2 1, 3) := by decide +kernel
theorem d_Arrays_fill_17 : decode b_Arrays_fill 17 = .ok (.goto (-12), 3) := by decide +kernel
theorem d_Arrays_fill_20 : decode b_Arrays_fill 20 = .ok (.return_, 1) := by decide +kernel
end
section
theorem sc_wd_0 : (Cond.fieldLink R_Needs 15 R_Needs "first" "[I") ∈ hq_tb := hq_in (List.mem_of_getElem? (i := 171) (by decide +kernel)) rfl
theorem sc_wd_1 : (Cond.fieldLink R_Needs 9 R_Needs "used" "[Z") ∈ hq_tb := hq_in (List.mem_of_getElem? (i := 167) (by decide +kernel)) rfl
theorem sc_wd_2 : (Cond.methodLink R_Needs 51 Lib.Math.min.name) ∈ hq_tb := hq_in (List.mem_of_getElem? (i := 314) (by decide +kernel)) rfl
theorem sc_wd_3 : (Cond.static Lib.Math.min.name) ∈ hq_tb := hq_in (List.mem_of_getElem? (i := 64) (by decide +kernel)) rfl
theorem sc_wd_4 : (Cond.initialized "java/lang/Math") ∈ hq_tb := hq_in (List.mem_of_getElem? (i := 46) (by decide +kernel)) rfl
theorem sc_wd_5 : (Cond.code Lib.Math.min.name Lib.Math.min.code 2 (some .int)) ∈ hq_tb := hq_in (List.mem_of_getElem? (i := 65) (by decide +kernel)) rfl
theorem sc_wd_6 : (Cond.fieldLink R_Needs 19 R_Needs "last" "[I") ∈ hq_tb := hq_in (List.mem_of_getElem? (i := 174) (by decide +kernel)) rfl
theorem sc_wd_7 : (Cond.methodLink R_Needs 57 Lib.Math.max.name) ∈ hq_tb := hq_in (List.mem_of_getElem? (i := 315) (by decide +kernel)) rfl
theorem sc_wd_8 : (Cond.static Lib.Math.max.name) ∈ hq_tb := hq_in (List.mem_of_getElem? (i := 67) (by decide +kernel)) rfl
theorem sc_wd_9 : (Cond.code Lib.Math.max.name Lib.Math.max.code 2 (some .int)) ∈ hq_tb := hq_in (List.mem_of_getElem? (i := 68) (by decide +kernel)) rfl
theorem sc_wd_10 : (Cond.fieldLinkNest R_Needs 40 R_Stage "tapCount" "I" R_SC) ∈ hq_tb := hq_in (List.mem_of_getElem? (i := 88) (by decide +kernel)) rfl
theorem sc_wd_11 : (Cond.fieldLinkNest R_Needs 45 R_Stage "sources" "[I" R_SC) ∈ hq_tb := hq_in (List.mem_of_getElem? (i := 94) (by decide +kernel)) rfl
theorem sc_wd_12 : (Cond.fieldLinkNest R_Needs 48 R_Stage "offsets" "[I" R_SC) ∈ hq_tb := hq_in (List.mem_of_getElem? (i := 99) (by decide +kernel)) rfl
theorem sc_wd_13 : (Cond.code y_Needs_widen b_Needs_widen 4 none) ∈ hq_tb := hq_in (List.mem_of_getElem? (i := 313) (by decide +kernel)) rfl
theorem sc_wd_14 : (Cond.initialized R_Needs) ∈ hq_tb := hq_in (List.mem_of_getElem? (i := 49) (by decide +kernel)) rfl
theorem sc_wd_15 : (Cond.methodLink R_Needs 28 y_Needs_widen) ∈ hq_tb := hq_in (List.mem_of_getElem? (i := 310) (by decide +kernel)) rfl
theorem sc_wd_16 : (Cond.instanceMethod y_Needs_widen) ∈ hq_tb := hq_in (List.mem_of_getElem? (i := 312) (by decide +kernel)) rfl
theorem sc_wd_17 : (Cond.selects R_Needs y_Needs_widen y_Needs_widen) ∈ hq_tb := hq_in (List.mem_of_getElem? (i := 6) (by decide +kernel)) rfl
theorem sc_wd_18 : (Cond.fieldLinkNest R_Needs 22 R_Pipe "output" "I" R_SC) ∈ hq_tb := hq_in (List.mem_of_getElem? (i := 134) (by decide +kernel)) rfl
theorem sc_wd_19 : (Cond.fieldLinkNest R_Needs 32 R_Pipe "stages" "[LStencilCompiler$Stage;" R_SC) ∈ hq_tb := hq_in (List.mem_of_getElem? (i := 123) (by decide +kernel)) rfl
theorem sc_wd_20 : (Cond.code y_Needs_handOn b_Needs_handOn 5 none) ∈ hq_tb := hq_in (List.mem_of_getElem? (i := 319) (by decide +kernel)) rfl
theorem sc_wd_21 : (Cond.methodLink R_Needs 36 y_Needs_handOn) ∈ hq_tb := hq_in (List.mem_of_getElem? (i := 316) (by decide +kernel)) rfl
theorem sc_wd_22 : (Cond.instanceMethod y_Needs_handOn) ∈ hq_tb := hq_in (List.mem_of_getElem? (i := 318) (by decide +kernel)) rfl
theorem sc_wd_23 : (Cond.selects R_Needs y_Needs_handOn y_Needs_handOn) ∈ hq_tb := hq_in (List.mem_of_getElem? (i := 7) (by decide +kernel)) rfl
theorem sc_wd_24 : (Cond.fieldLink R_Pipe 32 R_Pipe "stageCount" "I") ∈ hq_tb := hq_in (List.mem_of_getElem? (i := 128) (by decide +kernel)) rfl
theorem sc_wd_25 : (Cond.fieldLink R_Pipe 11 R_Pipe "stages" "[LStencilCompiler$Stage;") ∈ hq_tb := hq_in (List.mem_of_getElem? (i := 122) (by decide +kernel)) rfl
theorem sc_wd_26 : (Cond.fieldLinkNest R_Pipe 35 R_Stage "constant" "I" R_SC) ∈ hq_tb := hq_in (List.mem_of_getElem? (i := 80) (by decide +kernel)) rfl
theorem sc_wd_27 : (Cond.fieldLinkNest R_Pipe 38 R_Stage "finish" "I" R_SC) ∈ hq_tb := hq_in (List.mem_of_getElem? (i := 83) (by decide +kernel)) rfl
theorem sc_wd_28 : (Cond.fieldLink R_Pipe 41 R_Pipe "width" "I") ∈ hq_tb := hq_in (List.mem_of_getElem? (i := 138) (by decide +kernel)) rfl
theorem sc_wd_29 : (Cond.fieldLink R_Pipe 21 R_Pipe "tileSize" "I") ∈ hq_tb := hq_in (List.mem_of_getElem? (i := 130) (by decide +kernel)) rfl
theorem sc_wd_30 : (Cond.code y_Pipe_tileFirst b_Pipe_tileFirst 2 (some .int)) ∈ hq_tb := hq_in (List.mem_of_getElem? (i := 358) (by decide +kernel)) rfl
theorem sc_wd_31 : (Cond.initialized R_Pipe) ∈ hq_tb := hq_in (List.mem_of_getElem? (i := 45) (by decide +kernel)) rfl
theorem sc_wd_32 : (Cond.methodLink R_Pipe 44 y_Pipe_tileFirst) ∈ hq_tb := hq_in (List.mem_of_getElem? (i := 363) (by decide +kernel)) rfl
theorem sc_wd_33 : (Cond.instanceMethod y_Pipe_tileFirst) ∈ hq_tb := hq_in (List.mem_of_getElem? (i := 357) (by decide +kernel)) rfl
theorem sc_wd_34 : (Cond.selects R_Pipe y_Pipe_tileFirst y_Pipe_tileFirst) ∈ hq_tb := hq_in (List.mem_of_getElem? (i := 16) (by decide +kernel)) rfl
theorem sc_wd_35 : (Cond.methodLink R_Pipe 48 Lib.Math.min.name) ∈ hq_tb := hq_in (List.mem_of_getElem? (i := 364) (by decide +kernel)) rfl
theorem sc_wd_36 : (Cond.fieldLink R_Pipe 17 R_Pipe "valuesFor" "[I") ∈ hq_tb := hq_in (List.mem_of_getElem? (i := 127) (by decide +kernel)) rfl
theorem sc_wd_37 : (Cond.fieldLinkNest R_Pipe 54 R_Stage "tapCount" "I" R_SC) ∈ hq_tb := hq_in (List.mem_of_getElem? (i := 92) (by decide +kernel)) rfl
theorem sc_wd_38 : (Cond.fieldLinkNest R_Pipe 57 R_Stage "sources" "[I" R_SC) ∈ hq_tb := hq_in (List.mem_of_getElem? (i := 97) (by decide +kernel)) rfl
theorem sc_wd_39 : (Cond.fieldLink R_Stage 9 R_Stage "sources" "[I") ∈ hq_tb := hq_in (List.mem_of_getElem? (i := 93) (by decide +kernel)) rfl
theorem sc_wd_40 : (Cond.fieldLink R_Stage 21 R_Stage "tapCount" "I") ∈ hq_tb := hq_in (List.mem_of_getElem? (i := 87) (by decide +kernel)) rfl
theorem sc_wd_41 : (Cond.fieldLink R_Stage 15 R_Stage "offsets" "[I") ∈ hq_tb := hq_in (List.mem_of_getElem? (i := 98) (by decide +kernel)) rfl
theorem sc_wd_42 : (Cond.fieldLink R_Stage 18 R_Stage "weights" "[I") ∈ hq_tb := hq_in (List.mem_of_getElem? (i := 101) (by decide +kernel)) rfl
theorem sc_wd_43 : (Cond.fieldLink R_Stage 25 R_Stage "finish" "I") ∈ hq_tb := hq_in (List.mem_of_getElem? (i := 82) (by decide +kernel)) rfl
theorem sc_wd_44 : (Cond.methodLink R_Stage 28 Lib.Math.max.name) ∈ hq_tb := hq_in (List.mem_of_getElem? (i := 404) (by decide +kernel)) rfl
theorem sc_wd_45 : (Cond.code y_Math_floorDiv b_Math_floorDiv 3 (some .int)) ∈ hq_tb := hq_in (List.mem_of_getElem? (i := 407) (by decide +kernel)) rfl
theorem sc_wd_46 : (Cond.initialized R_Math) ∈ hq_tb := hq_in (List.mem_of_getElem? (i := 46) (by decide +kernel)) rfl
theorem sc_wd_47 : (Cond.methodLink R_Stage 34 y_Math_floorDiv) ∈ hq_tb := hq_in (List.mem_of_getElem? (i := 405) (by decide +kernel)) rfl
theorem sc_wd_48 : (Cond.static y_Math_floorDiv) ∈ hq_tb := hq_in (List.mem_of_getElem? (i := 406) (by decide +kernel)) rfl
theorem sc_wd_49 : (Cond.fieldLink R_Plan 12 R_Plan "regions" "LStencilCompiler$Needs;") ∈ hq_tb := hq_in (List.mem_of_getElem? (i := 186) (by decide +kernel)) rfl
theorem sc_wd_50 : (Cond.fieldLinkNest R_Plan 126 R_Needs "used" "[Z" R_SC) ∈ hq_tb := hq_in (List.mem_of_getElem? (i := 169) (by decide +kernel)) rfl
theorem sc_wd_51 : (Cond.fieldLink R_Plan 29 R_Plan "pipeline" "LStencilCompiler$Pipeline;") ∈ hq_tb := hq_in (List.mem_of_getElem? (i := 185) (by decide +kernel)) rfl
theorem sc_wd_52 : (Cond.fieldLinkNest R_Plan 77 R_Pipe "stages" "[LStencilCompiler$Stage;" R_SC) ∈ hq_tb := hq_in (List.mem_of_getElem? (i := 124) (by decide +kernel)) rfl
theorem sc_wd_53 : (Cond.fieldLinkNest R_Plan 97 R_Stage "mode" "I" R_SC) ∈ hq_tb := hq_in (List.mem_of_getElem? (i := 85) (by decide +kernel)) rfl
theorem sc_wd_54 : (Cond.fieldLinkNest R_Plan 89 R_Stage "tapCount" "I" R_SC) ∈ hq_tb := hq_in (List.mem_of_getElem? (i := 89) (by decide +kernel)) rfl
theorem sc_wd_55 : (Cond.fieldLinkNest R_Plan 94 R_Stage "sources" "[I" R_SC) ∈ hq_tb := hq_in (List.mem_of_getElem? (i := 95) (by decide +kernel)) rfl
theorem sc_wd_56 : (Cond.fieldLink R_Plan 21 R_Plan "asksTiled" "[Z") ∈ hq_tb := hq_in (List.mem_of_getElem? (i := 189) (by decide +kernel)) rfl
theorem sc_wd_57 : (Cond.fieldLinkNest R_Plan 33 R_Pipe "output" "I" R_SC) ∈ hq_tb := hq_in (List.mem_of_getElem? (i := 133) (by decide +kernel)) rfl
theorem sc_wd_58 : (Cond.code y_Plan_hasTiledToWorkOut b_Plan_hasTiledToWorkOut 5 (some .boolean)) ∈ hq_tb := hq_in (List.mem_of_getElem? (i := 327) (by decide +kernel)) rfl
theorem sc_wd_59 : (Cond.initialized R_Plan) ∈ hq_tb := hq_in (List.mem_of_getElem? (i := 48) (by decide +kernel)) rfl
theorem sc_wd_60 : (Cond.methodLink R_Plan 81 y_Plan_hasTiledToWorkOut) ∈ hq_tb := hq_in (List.mem_of_getElem? (i := 324) (by decide +kernel)) rfl
theorem sc_wd_61 : (Cond.instanceMethod y_Plan_hasTiledToWorkOut) ∈ hq_tb := hq_in (List.mem_of_getElem? (i := 326) (by decide +kernel)) rfl
theorem sc_wd_62 : (Cond.selects R_Plan y_Plan_hasTiledToWorkOut y_Plan_hasTiledToWorkOut) ∈ hq_tb := hq_in (List.mem_of_getElem? (i := 9) (by decide +kernel)) rfl
theorem sc_wd_63 : (Cond.code y_Plan_isUsedAs b_Plan_isUsedAs 3 (some .boolean)) ∈ hq_tb := hq_in (List.mem_of_getElem? (i := 331) (by decide +kernel)) rfl
theorem sc_wd_64 : (Cond.methodLink R_Plan 85 y_Plan_isUsedAs) ∈ hq_tb := hq_in (List.mem_of_getElem? (i := 328) (by decide +kernel)) rfl
theorem sc_wd_65 : (Cond.instanceMethod y_Plan_isUsedAs) ∈ hq_tb := hq_in (List.mem_of_getElem? (i := 330) (by decide +kernel)) rfl
theorem sc_wd_66 : (Cond.selects R_Plan y_Plan_isUsedAs y_Plan_isUsedAs) ∈ hq_tb := hq_in (List.mem_of_getElem? (i := 10) (by decide +kernel)) rfl
theorem sc_wd_67 : (Cond.fieldLink R_Plan 25 R_Plan "workOf" "[I") ∈ hq_tb := hq_in (List.mem_of_getElem? (i := 190) (by decide +kernel)) rfl
theorem sc_wd_68 : (Cond.fieldLinkNest R_Plan 39 R_Pipe "width" "I" R_SC) ∈ hq_tb := hq_in (List.mem_of_getElem? (i := 137) (by decide +kernel)) rfl
theorem sc_wd_69 : (Cond.code y_Needs_lengthOf b_Needs_lengthOf 2 (some .int)) ∈ hq_tb := hq_in (List.mem_of_getElem? (i := 346) (by decide +kernel)) rfl
theorem sc_wd_70 : (Cond.methodLinkNest R_Plan 100 y_Needs_lengthOf R_SC) ∈ hq_tb := hq_in (List.mem_of_getElem? (i := 343) (by decide +kernel)) rfl
theorem sc_wd_71 : (Cond.instanceMethod y_Needs_lengthOf) ∈ hq_tb := hq_in (List.mem_of_getElem? (i := 345) (by decide +kernel)) rfl
theorem sc_wd_72 : (Cond.selects R_Needs y_Needs_lengthOf y_Needs_lengthOf) ∈ hq_tb := hq_in (List.mem_of_getElem? (i := 13) (by decide +kernel)) rfl
theorem sc_wd_73 : (Cond.fieldLink R_Plan 56 R_Plan "room" "I") ∈ hq_tb := hq_in (List.mem_of_getElem? (i := 194) (by decide +kernel)) rfl
theorem sc_wd_74 : (Cond.fieldLink R_Plan 18 R_Plan "tileNeeds" "LStencilCompiler$Needs;") ∈ hq_tb := hq_in (List.mem_of_getElem? (i := 188) (by decide +kernel)) rfl
theorem sc_wd_75 : (Cond.fieldLink R_Plan 59 R_Plan "greatestTileNeed" "I") ∈ hq_tb := hq_in (List.mem_of_getElem? (i := 196) (by decide +kernel)) rfl
theorem sc_wd_76 : (Cond.methodLink R_Plan 116 Lib.Math.max.name) ∈ hq_tb := hq_in (List.mem_of_getElem? (i := 369) (by decide +kernel)) rfl
theorem sc_wd_77 : (Cond.code y_Pipe_tileCount b_Pipe_tileCount 1 (some .int)) ∈ hq_tb := hq_in (List.mem_of_getElem? (i := 354) (by decide +kernel)) rfl
theorem sc_wd_78 : (Cond.methodLinkNest R_Plan 104 y_Pipe_tileCount R_SC) ∈ hq_tb := hq_in (List.mem_of_getElem? (i := 351) (by decide +kernel)) rfl
theorem sc_wd_79 : (Cond.instanceMethod y_Pipe_tileCount) ∈ hq_tb := hq_in (List.mem_of_getElem? (i := 353) (by decide +kernel)) rfl
theorem sc_wd_80 : (Cond.selects R_Pipe y_Pipe_tileCount y_Pipe_tileCount) ∈ hq_tb := hq_in (List.mem_of_getElem? (i := 15) (by decide +kernel)) rfl
theorem sc_wd_81 : (Cond.methodLinkNest R_Plan 107 y_Pipe_tileFirst R_SC) ∈ hq_tb := hq_in (List.mem_of_getElem? (i := 355) (by decide +kernel)) rfl
theorem sc_wd_82 : (Cond.code y_Pipe_tileLast b_Pipe_tileLast 2 (some .int)) ∈ hq_tb := hq_in (List.mem_of_getElem? (i := 362) (by decide +kernel)) rfl
theorem sc_wd_83 : (Cond.methodLinkNest R_Plan 110 y_Pipe_tileLast R_SC) ∈ hq_tb := hq_in (List.mem_of_getElem? (i := 359) (by decide +kernel)) rfl
theorem sc_wd_84 : (Cond.instanceMethod y_Pipe_tileLast) ∈ hq_tb := hq_in (List.mem_of_getElem? (i := 361) (by decide +kernel)) rfl
theorem sc_wd_85 : (Cond.selects R_Pipe y_Pipe_tileLast y_Pipe_tileLast) ∈ hq_tb := hq_in (List.mem_of_getElem? (i := 17) (by decide +kernel)) rfl
theorem sc_wd_86 : (Cond.code y_Needs_spread b_Needs_spread 5 none) ∈ hq_tb := hq_in (List.mem_of_getElem? (i := 309) (by decide +kernel)) rfl
theorem sc_wd_87 : (Cond.methodLinkNest R_Plan 42 y_Needs_spread R_SC) ∈ hq_tb := hq_in (List.mem_of_getElem? (i := 306) (by decide +kernel)) rfl
theorem sc_wd_88 : (Cond.instanceMethod y_Needs_spread) ∈ hq_tb := hq_in (List.mem_of_getElem? (i := 308) (by decide +kernel)) rfl
theorem sc_wd_89 : (Cond.selects R_Needs y_Needs_spread y_Needs_spread) ∈ hq_tb := hq_in (List.mem_of_getElem? (i := 5) (by decide +kernel)) rfl
theorem sc_wd_90 : (Cond.code y_Plan_measureTileInHand b_Plan_measureTileInHand 4 (some .int)) ∈ hq_tb := hq_in (List.mem_of_getElem? (i := 368) (by decide +kernel)) rfl
theorem sc_wd_91 : (Cond.methodLink R_Plan 113 y_Plan_measureTileInHand) ∈ hq_tb := hq_in (List.mem_of_getElem? (i := 365) (by decide +kernel)) rfl
theorem sc_wd_92 : (Cond.instanceMethod y_Plan_measureTileInHand) ∈ hq_tb := hq_in (List.mem_of_getElem? (i := 367) (by decide +kernel)) rfl
theorem sc_wd_93 : (Cond.selects R_Plan y_Plan_measureTileInHand y_Plan_measureTileInHand) ∈ hq_tb := hq_in (List.mem_of_getElem? (i := 18) (by decide +kernel)) rfl
theorem sc_wd_94 : (Cond.fieldLink R_Plan 74 R_Plan "totalWork" "I") ∈ hq_tb := hq_in (List.mem_of_getElem? (i := 192) (by decide +kernel)) rfl
theorem sc_wd_95 : (Cond.code y_Plan_askInlineSources b_Plan_askInlineSources 5 none) ∈ hq_tb := hq_in (List.mem_of_getElem? (i := 377) (by decide +kernel)) rfl
theorem sc_wd_96 : (Cond.methodLink R_Plan 122 y_Plan_askInlineSources) ∈ hq_tb := hq_in (List.mem_of_getElem? (i := 374) (by decide +kernel)) rfl
theorem sc_wd_97 : (Cond.instanceMethod y_Plan_askInlineSources) ∈ hq_tb := hq_in (List.mem_of_getElem? (i := 376) (by decide +kernel)) rfl
theorem sc_wd_98 : (Cond.selects R_Plan y_Plan_askInlineSources y_Plan_askInlineSources) ∈ hq_tb := hq_in (List.mem_of_getElem? (i := 20) (by decide +kernel)) rfl
theorem sc_wd_99 : (Cond.code y_Plan_leastRootThatAsksTiled b_Plan_leastRootThatAsksTiled 2 (some .int)) ∈ hq_tb := hq_in (List.mem_of_getElem? (i := 323) (by decide +kernel)) rfl
theorem sc_wd_100 : (Cond.methodLink R_Plan 46 y_Plan_leastRootThatAsksTiled) ∈ hq_tb := hq_in (List.mem_of_getElem? (i := 320) (by decide +kernel)) rfl
theorem sc_wd_101 : (Cond.instanceMethod y_Plan_leastRootThatAsksTiled) ∈ hq_tb := hq_in (List.mem_of_getElem? (i := 322) (by decide +kernel)) rfl
theorem sc_wd_102 : (Cond.selects R_Plan y_Plan_leastRootThatAsksTiled y_Plan_leastRootThatAsksTiled) ∈ hq_tb := hq_in (List.mem_of_getElem? (i := 8) (by decide +kernel)) rfl
theorem sc_wd_103 : (Cond.code y_Arrays_fill b_Arrays_fill 4 none) ∈ hq_tb := hq_in (List.mem_of_getElem? (i := 334) (by decide +kernel)) rfl
theorem sc_wd_104 : (Cond.initialized R_Arrays) ∈ hq_tb := hq_in (List.mem_of_getElem? (i := 52) (by decide +kernel)) rfl
theorem sc_wd_105 : (Cond.methodLink R_Plan 50 y_Arrays_fill) ∈ hq_tb := hq_in (List.mem_of_getElem? (i := 332) (by decide +kernel)) rfl
theorem sc_wd_106 : (Cond.static y_Arrays_fill) ∈ hq_tb := hq_in (List.mem_of_getElem? (i := 333) (by decide +kernel)) rfl
theorem sc_wd_107 : (Cond.code y_Plan_measureOutput b_Plan_measureOutput 1 none) ∈ hq_tb := hq_in (List.mem_of_getElem? (i := 338) (by decide +kernel)) rfl
theorem sc_wd_108 : (Cond.methodLink R_Plan 62 y_Plan_measureOutput) ∈ hq_tb := hq_in (List.mem_of_getElem? (i := 335) (by decide +kernel)) rfl
theorem sc_wd_109 : (Cond.instanceMethod y_Plan_measureOutput) ∈ hq_tb := hq_in (List.mem_of_getElem? (i := 337) (by decide +kernel)) rfl
theorem sc_wd_110 : (Cond.selects R_Plan y_Plan_measureOutput y_Plan_measureOutput) ∈ hq_tb := hq_in (List.mem_of_getElem? (i := 11) (by decide +kernel)) rfl
theorem sc_wd_111 : (Cond.code y_Plan_measureRoots b_Plan_measureRoots 2 none) ∈ hq_tb := hq_in (List.mem_of_getElem? (i := 342) (by decide +kernel)) rfl
theorem sc_wd_112 : (Cond.methodLink R_Plan 65 y_Plan_measureRoots) ∈ hq_tb := hq_in (List.mem_of_getElem? (i := 339) (by decide +kernel)) rfl
theorem sc_wd_113 : (Cond.instanceMethod y_Plan_measureRoots) ∈ hq_tb := hq_in (List.mem_of_getElem? (i := 341) (by decide +kernel)) rfl
theorem sc_wd_114 : (Cond.selects R_Plan y_Plan_measureRoots y_Plan_measureRoots) ∈ hq_tb := hq_in (List.mem_of_getElem? (i := 12) (by decide +kernel)) rfl
theorem sc_wd_115 : (Cond.code y_Plan_measureTiles b_Plan_measureTiles 3 none) ∈ hq_tb := hq_in (List.mem_of_getElem? (i := 350) (by decide +kernel)) rfl
theorem sc_wd_116 : (Cond.methodLink R_Plan 68 y_Plan_measureTiles) ∈ hq_tb := hq_in (List.mem_of_getElem? (i := 347) (by decide +kernel)) rfl
theorem sc_wd_117 : (Cond.instanceMethod y_Plan_measureTiles) ∈ hq_tb := hq_in (List.mem_of_getElem? (i := 349) (by decide +kernel)) rfl
theorem sc_wd_118 : (Cond.selects R_Plan y_Plan_measureTiles y_Plan_measureTiles) ∈ hq_tb := hq_in (List.mem_of_getElem? (i := 14) (by decide +kernel)) rfl
theorem sc_wd_119 : (Cond.code y_Plan_measureInlines b_Plan_measureInlines 2 none) ∈ hq_tb := hq_in (List.mem_of_getElem? (i := 373) (by decide +kernel)) rfl
theorem sc_wd_120 : (Cond.methodLink R_Plan 71 y_Plan_measureInlines) ∈ hq_tb := hq_in (List.mem_of_getElem? (i := 370) (by decide +kernel)) rfl
theorem sc_wd_121 : (Cond.instanceMethod y_Plan_measureInlines) ∈ hq_tb := hq_in (List.mem_of_getElem? (i := 372) (by decide +kernel)) rfl
theorem sc_wd_122 : (Cond.selects R_Plan y_Plan_measureInlines y_Plan_measureInlines) ∈ hq_tb := hq_in (List.mem_of_getElem? (i := 19) (by decide +kernel)) rfl
theorem sc_wd_123 : (Cond.fieldLink R_Runner 18 R_Runner "kept" "[Z") ∈ hq_tb := hq_in (List.mem_of_getElem? (i := 227) (by decide +kernel)) rfl
theorem sc_wd_124 : (Cond.code y_Runner_workOut b_Runner_workOut 6 (some .int)) ∈ hq_tb := hq_in (List.mem_of_getElem? (i := 393) (by decide +kernel)) rfl
theorem sc_wd_125 : (Cond.initialized R_Runner) ∈ hq_tb := hq_in (List.mem_of_getElem? (i := 50) (by decide +kernel)) rfl
theorem sc_wd_126 : (Cond.methodLink R_Runner 68 y_Runner_workOut) ∈ hq_tb := hq_in (List.mem_of_getElem? (i := 390) (by decide +kernel)) rfl
theorem sc_wd_127 : (Cond.instanceMethod y_Runner_workOut) ∈ hq_tb := hq_in (List.mem_of_getElem? (i := 392) (by decide +kernel)) rfl
theorem sc_wd_128 : (Cond.selects R_Runner y_Runner_workOut y_Runner_workOut) ∈ hq_tb := hq_in (List.mem_of_getElem? (i := 23) (by decide +kernel)) rfl
theorem sc_wd_129 : (Cond.fieldLink R_Runner 24 R_Runner "rows" "[[I") ∈ hq_tb := hq_in (List.mem_of_getElem? (i := 228) (by decide +kernel)) rfl
theorem sc_wd_130 : (Cond.fieldLink R_Runner 31 R_Runner "pipeline" "LStencilCompiler$Pipeline;") ∈ hq_tb := hq_in (List.mem_of_getElem? (i := 225) (by decide +kernel)) rfl
theorem sc_wd_131 : (Cond.fieldLinkNest R_Runner 111 R_Pipe "row" "[I" R_SC) ∈ hq_tb := hq_in (List.mem_of_getElem? (i := 121) (by decide +kernel)) rfl
theorem sc_wd_132 : (Cond.methodLink R_Runner 114 Lib.Math.min.name) ∈ hq_tb := hq_in (List.mem_of_getElem? (i := 398) (by decide +kernel)) rfl
theorem sc_wd_133 : (Cond.methodLink R_Runner 119 Lib.Math.max.name) ∈ hq_tb := hq_in (List.mem_of_getElem? (i := 399) (by decide +kernel)) rfl
theorem sc_wd_134 : (Cond.fieldLinkNest R_Runner 75 R_Pipe "stages" "[LStencilCompiler$Stage;" R_SC) ∈ hq_tb := hq_in (List.mem_of_getElem? (i := 125) (by decide +kernel)) rfl
theorem sc_wd_135 : (Cond.fieldLinkNest R_Runner 90 R_Stage "constant" "I" R_SC) ∈ hq_tb := hq_in (List.mem_of_getElem? (i := 81) (by decide +kernel)) rfl
theorem sc_wd_136 : (Cond.fieldLinkNest R_Runner 93 R_Stage "tapCount" "I" R_SC) ∈ hq_tb := hq_in (List.mem_of_getElem? (i := 91) (by decide +kernel)) rfl
theorem sc_wd_137 : (Cond.code y_Stage_finished b_Stage_finished 2 (some .int)) ∈ hq_tb := hq_in (List.mem_of_getElem? (i := 403) (by decide +kernel)) rfl
theorem sc_wd_138 : (Cond.initialized R_Stage) ∈ hq_tb := hq_in (List.mem_of_getElem? (i := 47) (by decide +kernel)) rfl
theorem sc_wd_139 : (Cond.methodLinkNest R_Runner 108 y_Stage_finished R_SC) ∈ hq_tb := hq_in (List.mem_of_getElem? (i := 400) (by decide +kernel)) rfl
theorem sc_wd_140 : (Cond.instanceMethod y_Stage_finished) ∈ hq_tb := hq_in (List.mem_of_getElem? (i := 402) (by decide +kernel)) rfl
theorem sc_wd_141 : (Cond.selects R_Stage y_Stage_finished y_Stage_finished) ∈ hq_tb := hq_in (List.mem_of_getElem? (i := 25) (by decide +kernel)) rfl
theorem sc_wd_142 : (Cond.fieldLinkNest R_Runner 96 R_Stage "weights" "[I" R_SC) ∈ hq_tb := hq_in (List.mem_of_getElem? (i := 102) (by decide +kernel)) rfl
theorem sc_wd_143 : (Cond.fieldLinkNest R_Runner 99 R_Stage "sources" "[I" R_SC) ∈ hq_tb := hq_in (List.mem_of_getElem? (i := 96) (by decide +kernel)) rfl
theorem sc_wd_144 : (Cond.fieldLinkNest R_Runner 102 R_Stage "offsets" "[I" R_SC) ∈ hq_tb := hq_in (List.mem_of_getElem? (i := 100) (by decide +kernel)) rfl
theorem sc_wd_145 : (Cond.code y_Runner_sourceValue b_Runner_sourceValue 3 (some .int)) ∈ hq_tb := hq_in (List.mem_of_getElem? (i := 397) (by decide +kernel)) rfl
theorem sc_wd_146 : (Cond.methodLink R_Runner 105 y_Runner_sourceValue) ∈ hq_tb := hq_in (List.mem_of_getElem? (i := 394) (by decide +kernel)) rfl
theorem sc_wd_147 : (Cond.instanceMethod y_Runner_sourceValue) ∈ hq_tb := hq_in (List.mem_of_getElem? (i := 396) (by decide +kernel)) rfl
theorem sc_wd_148 : (Cond.selects R_Runner y_Runner_sourceValue y_Runner_sourceValue) ∈ hq_tb := hq_in (List.mem_of_getElem? (i := 24) (by decide +kernel)) rfl
theorem sc_wd_149 : (Cond.fieldLinkNest R_Runner 64 R_Pipe "output" "I" R_SC) ∈ hq_tb := hq_in (List.mem_of_getElem? (i := 135) (by decide +kernel)) rfl
theorem sc_wd_150 : (Cond.fieldLinkNest R_Runner 79 R_Stage "mode" "I" R_SC) ∈ hq_tb := hq_in (List.mem_of_getElem? (i := 84) (by decide +kernel)) rfl
theorem sc_wd_151 : (Cond.fieldLinkNest R_Runner 72 R_Needs "used" "[Z" R_SC) ∈ hq_tb := hq_in (List.mem_of_getElem? (i := 168) (by decide +kernel)) rfl
theorem sc_wd_152 : (Cond.fieldLinkNest R_Runner 84 R_Needs "first" "[I" R_SC) ∈ hq_tb := hq_in (List.mem_of_getElem? (i := 172) (by decide +kernel)) rfl
theorem sc_wd_153 : (Cond.fieldLinkNest R_Runner 87 R_Needs "last" "[I" R_SC) ∈ hq_tb := hq_in (List.mem_of_getElem? (i := 175) (by decide +kernel)) rfl
theorem sc_wd_154 : (Cond.fieldLink R_Runner 12 R_Runner "tileNeeds" "LStencilCompiler$Needs;") ∈ hq_tb := hq_in (List.mem_of_getElem? (i := 226) (by decide +kernel)) rfl
theorem sc_wd_155 : (Cond.methodLinkNest R_Runner 60 y_Needs_spread R_SC) ∈ hq_tb := hq_in (List.mem_of_getElem? (i := 415) (by decide +kernel)) rfl
theorem sc_wd_156 : (Cond.code y_Runner_keep b_Runner_keep 5 none) ∈ hq_tb := hq_in (List.mem_of_getElem? (i := 389) (by decide +kernel)) rfl
theorem sc_wd_157 : (Cond.methodLink R_Runner 35 y_Runner_keep) ∈ hq_tb := hq_in (List.mem_of_getElem? (i := 386) (by decide +kernel)) rfl
theorem sc_wd_158 : (Cond.instanceMethod y_Runner_keep) ∈ hq_tb := hq_in (List.mem_of_getElem? (i := 388) (by decide +kernel)) rfl
theorem sc_wd_159 : (Cond.selects R_Runner y_Runner_keep y_Runner_keep) ∈ hq_tb := hq_in (List.mem_of_getElem? (i := 22) (by decide +kernel)) rfl
theorem sc_wd_160 : (Cond.code y_Runner_release b_Runner_release 3 none) ∈ hq_tb := hq_in (List.mem_of_getElem? (i := 419) (by decide +kernel)) rfl
theorem sc_wd_161 : (Cond.methodLink R_Runner 56 y_Runner_release) ∈ hq_tb := hq_in (List.mem_of_getElem? (i := 416) (by decide +kernel)) rfl
theorem sc_wd_162 : (Cond.instanceMethod y_Runner_release) ∈ hq_tb := hq_in (List.mem_of_getElem? (i := 418) (by decide +kernel)) rfl
theorem sc_wd_163 : (Cond.selects R_Runner y_Runner_release y_Runner_release) ∈ hq_tb := hq_in (List.mem_of_getElem? (i := 27) (by decide +kernel)) rfl
theorem sc_wd_164 : (Cond.fieldLink R_Runner 27 R_Runner "results" "[I") ∈ hq_tb := hq_in (List.mem_of_getElem? (i := 229) (by decide +kernel)) rfl
theorem sc_wd_165 : (Cond.methodLinkNest R_Runner 39 y_Pipe_tileCount R_SC) ∈ hq_tb := hq_in (List.mem_of_getElem? (i := 408) (by decide +kernel)) rfl
theorem sc_wd_166 : (Cond.methodLinkNest R_Runner 45 y_Pipe_tileFirst R_SC) ∈ hq_tb := hq_in (List.mem_of_getElem? (i := 409) (by decide +kernel)) rfl
theorem sc_wd_167 : (Cond.methodLinkNest R_Runner 49 y_Pipe_tileLast R_SC) ∈ hq_tb := hq_in (List.mem_of_getElem? (i := 410) (by decide +kernel)) rfl
theorem sc_wd_168 : (Cond.code y_Runner_runTile b_Runner_runTile 4 none) ∈ hq_tb := hq_in (List.mem_of_getElem? (i := 414) (by decide +kernel)) rfl
theorem sc_wd_169 : (Cond.methodLink R_Runner 52 y_Runner_runTile) ∈ hq_tb := hq_in (List.mem_of_getElem? (i := 411) (by decide +kernel)) rfl
theorem sc_wd_170 : (Cond.instanceMethod y_Runner_runTile) ∈ hq_tb := hq_in (List.mem_of_getElem? (i := 413) (by decide +kernel)) rfl
theorem sc_wd_171 : (Cond.selects R_Runner y_Runner_runTile y_Runner_runTile) ∈ hq_tb := hq_in (List.mem_of_getElem? (i := 26) (by decide +kernel)) rfl
theorem sc_wd_172 : (Cond.fieldLink R_SC 86 R_SC "compiled" "Z") ∈ hq_tb := hq_in (List.mem_of_getElem? (i := 245) (by decide +kernel)) rfl
theorem sc_wd_173 : (Cond.fieldLink R_SC 105 R_SC "ran" "Z") ∈ hq_tb := hq_in (List.mem_of_getElem? (i := 246) (by decide +kernel)) rfl
theorem sc_wd_174 : (Cond.fieldLink R_SC 23 R_SC "pipeline" "LStencilCompiler$Pipeline;") ∈ hq_tb := hq_in (List.mem_of_getElem? (i := 242) (by decide +kernel)) rfl
theorem sc_wd_175 : (Cond.fieldLinkNest R_SC 43 R_Pipe "row" "[I" R_SC) ∈ hq_tb := hq_in (List.mem_of_getElem? (i := 120) (by decide +kernel)) rfl
theorem sc_wd_176 : (Cond.code y_SC_forgetCompiled b_SC_forgetCompiled 1 none) ∈ hq_tb := hq_in (List.mem_of_getElem? (i := 265) (by decide +kernel)) rfl
theorem sc_wd_177 : (Cond.initialized R_SC) ∈ hq_tb := hq_in (List.mem_of_getElem? (i := 44) (by decide +kernel)) rfl
theorem sc_wd_178 : (Cond.methodLink R_SC 47 y_SC_forgetCompiled) ∈ hq_tb := hq_in (List.mem_of_getElem? (i := 262) (by decide +kernel)) rfl
theorem sc_wd_179 : (Cond.instanceMethod y_SC_forgetCompiled) ∈ hq_tb := hq_in (List.mem_of_getElem? (i := 264) (by decide +kernel)) rfl
theorem sc_wd_180 : (Cond.selects R_SC y_SC_forgetCompiled y_SC_forgetCompiled) ∈ hq_tb := hq_in (List.mem_of_getElem? (i := 0) (by decide +kernel)) rfl
theorem sc_wd_181 : (Cond.fieldLinkNest R_SC 50 R_Pipe "stageCount" "I" R_SC) ∈ hq_tb := hq_in (List.mem_of_getElem? (i := 129) (by decide +kernel)) rfl
theorem sc_wd_182 : (Cond.code y_Pipe_addStage b_Pipe_addStage 4 (some .int)) ∈ hq_tb := hq_in (List.mem_of_getElem? (i := 273) (by decide +kernel)) rfl
theorem sc_wd_183 : (Cond.methodLinkNest R_SC 54 y_Pipe_addStage R_SC) ∈ hq_tb := hq_in (List.mem_of_getElem? (i := 270) (by decide +kernel)) rfl
theorem sc_wd_184 : (Cond.instanceMethod y_Pipe_addStage) ∈ hq_tb := hq_in (List.mem_of_getElem? (i := 272) (by decide +kernel)) rfl
theorem sc_wd_185 : (Cond.selects R_Pipe y_Pipe_addStage y_Pipe_addStage) ∈ hq_tb := hq_in (List.mem_of_getElem? (i := 1) (by decide +kernel)) rfl
theorem sc_wd_186 : (Cond.code y_Pipe_hasStage b_Pipe_hasStage 2 (some .boolean)) ∈ hq_tb := hq_in (List.mem_of_getElem? (i := 281) (by decide +kernel)) rfl
theorem sc_wd_187 : (Cond.methodLinkNest R_SC 57 y_Pipe_hasStage R_SC) ∈ hq_tb := hq_in (List.mem_of_getElem? (i := 278) (by decide +kernel)) rfl
theorem sc_wd_188 : (Cond.instanceMethod y_Pipe_hasStage) ∈ hq_tb := hq_in (List.mem_of_getElem? (i := 280) (by decide +kernel)) rfl
theorem sc_wd_189 : (Cond.selects R_Pipe y_Pipe_hasStage y_Pipe_hasStage) ∈ hq_tb := hq_in (List.mem_of_getElem? (i := 2) (by decide +kernel)) rfl
theorem sc_wd_190 : (Cond.fieldLinkNest R_SC 61 R_Pipe "stages" "[LStencilCompiler$Stage;" R_SC) ∈ hq_tb := hq_in (List.mem_of_getElem? (i := 126) (by decide +kernel)) rfl
theorem sc_wd_191 : (Cond.fieldLinkNest R_SC 65 R_Stage "tapCount" "I" R_SC) ∈ hq_tb := hq_in (List.mem_of_getElem? (i := 90) (by decide +kernel)) rfl
theorem sc_wd_192 : (Cond.code y_Stage_addTap b_Stage_addTap 4 none) ∈ hq_tb := hq_in (List.mem_of_getElem? (i := 285) (by decide +kernel)) rfl
theorem sc_wd_193 : (Cond.methodLinkNest R_SC 70 y_Stage_addTap R_SC) ∈ hq_tb := hq_in (List.mem_of_getElem? (i := 282) (by decide +kernel)) rfl
theorem sc_wd_194 : (Cond.instanceMethod y_Stage_addTap) ∈ hq_tb := hq_in (List.mem_of_getElem? (i := 284) (by decide +kernel)) rfl
theorem sc_wd_195 : (Cond.selects R_Stage y_Stage_addTap y_Stage_addTap) ∈ hq_tb := hq_in (List.mem_of_getElem? (i := 3) (by decide +kernel)) rfl
theorem sc_wd_196 : (Cond.fieldLinkNest R_SC 74 R_Stage "mode" "I" R_SC) ∈ hq_tb := hq_in (List.mem_of_getElem? (i := 86) (by decide +kernel)) rfl
theorem sc_wd_197 : (Cond.fieldLinkNest R_SC 77 R_Pipe "tileSize" "I" R_SC) ∈ hq_tb := hq_in (List.mem_of_getElem? (i := 131) (by decide +kernel)) rfl
theorem sc_wd_198 : (Cond.fieldLinkNest R_SC 80 R_Pipe "output" "I" R_SC) ∈ hq_tb := hq_in (List.mem_of_getElem? (i := 136) (by decide +kernel)) rfl
theorem sc_wd_199 : (Cond.fieldLinkNest R_SC 83 R_Pipe "width" "I" R_SC) ∈ hq_tb := hq_in (List.mem_of_getElem? (i := 139) (by decide +kernel)) rfl
theorem sc_wd_200 : (Cond.fieldLink R_SC 32 R_SC "plan" "LStencilCompiler$Plan;") ∈ hq_tb := hq_in (List.mem_of_getElem? (i := 243) (by decide +kernel)) rfl
theorem sc_wd_201 : (Cond.code y_Plan_draw b_Plan_draw 2 (some .int)) ∈ hq_tb := hq_in (List.mem_of_getElem? (i := 305) (by decide +kernel)) rfl
theorem sc_wd_202 : (Cond.methodLinkNest R_SC 90 y_Plan_draw R_SC) ∈ hq_tb := hq_in (List.mem_of_getElem? (i := 302) (by decide +kernel)) rfl
theorem sc_wd_203 : (Cond.instanceMethod y_Plan_draw) ∈ hq_tb := hq_in (List.mem_of_getElem? (i := 304) (by decide +kernel)) rfl
theorem sc_wd_204 : (Cond.selects R_Plan y_Plan_draw y_Plan_draw) ∈ hq_tb := hq_in (List.mem_of_getElem? (i := 4) (by decide +kernel)) rfl
theorem sc_wd_205 : (Cond.fieldLinkNest R_SC 94 R_Plan "totalWork" "I" R_SC) ∈ hq_tb := hq_in (List.mem_of_getElem? (i := 193) (by decide +kernel)) rfl
theorem sc_wd_206 : (Cond.fieldLink R_SC 39 R_SC "runner" "LStencilCompiler$Runner;") ∈ hq_tb := hq_in (List.mem_of_getElem? (i := 244) (by decide +kernel)) rfl
theorem sc_wd_207 : (Cond.fieldLinkNest R_SC 97 R_Plan "regions" "LStencilCompiler$Needs;" R_SC) ∈ hq_tb := hq_in (List.mem_of_getElem? (i := 187) (by decide +kernel)) rfl
theorem sc_wd_208 : (Cond.code y_Runner_runSchedule b_Runner_runSchedule 3 none) ∈ hq_tb := hq_in (List.mem_of_getElem? (i := 385) (by decide +kernel)) rfl
theorem sc_wd_209 : (Cond.methodLinkNest R_SC 101 y_Runner_runSchedule R_SC) ∈ hq_tb := hq_in (List.mem_of_getElem? (i := 382) (by decide +kernel)) rfl
theorem sc_wd_210 : (Cond.instanceMethod y_Runner_runSchedule) ∈ hq_tb := hq_in (List.mem_of_getElem? (i := 384) (by decide +kernel)) rfl
theorem sc_wd_211 : (Cond.selects R_Runner y_Runner_runSchedule y_Runner_runSchedule) ∈ hq_tb := hq_in (List.mem_of_getElem? (i := 21) (by decide +kernel)) rfl
theorem sc_wd_212 : (Cond.methodLinkNest R_SC 108 y_Pipe_tileCount R_SC) ∈ hq_tb := hq_in (List.mem_of_getElem? (i := 420) (by decide +kernel)) rfl
theorem sc_wd_213 : (Cond.fieldLinkNest R_SC 113 R_Runner "results" "[I" R_SC) ∈ hq_tb := hq_in (List.mem_of_getElem? (i := 230) (by decide +kernel)) rfl
theorem sc_wd_214 : (Cond.constantLong R_SC 111 (-1000000000000)) ∈ hq_tb := hq_in (List.mem_of_getElem? (i := 425) (by decide +kernel)) rfl
theorem sc_wd_215 : (Cond.code y_Pipe_valuesWorkedOutFor b_Pipe_valuesWorkedOutFor 7 (some .int)) ∈ hq_tb := hq_in (List.mem_of_getElem? (i := 433) (by decide +kernel)) rfl
theorem sc_wd_216 : (Cond.methodLinkNest R_SC 116 y_Pipe_valuesWorkedOutFor R_SC) ∈ hq_tb := hq_in (List.mem_of_getElem? (i := 430) (by decide +kernel)) rfl
theorem sc_wd_217 : (Cond.instanceMethod y_Pipe_valuesWorkedOutFor) ∈ hq_tb := hq_in (List.mem_of_getElem? (i := 432) (by decide +kernel)) rfl
theorem sc_wd_218 : (Cond.selects R_Pipe y_Pipe_valuesWorkedOutFor y_Pipe_valuesWorkedOutFor) ∈ hq_tb := hq_in (List.mem_of_getElem? (i := 28) (by decide +kernel)) rfl
theorem sc_wd_219 : (Cond.methodLinkNest R_SC 120 y_Runner_workOut R_SC) ∈ hq_tb := hq_in (List.mem_of_getElem? (i := 434) (by decide +kernel)) rfl
theorem sc_wd_220 : (Cond.fieldLinkNest R_SC 123 R_Needs "used" "[Z" R_SC) ∈ hq_tb := hq_in (List.mem_of_getElem? (i := 170) (by decide +kernel)) rfl
theorem sc_wd_221 : (Cond.fieldLinkNest R_SC 132 R_Needs "first" "[I" R_SC) ∈ hq_tb := hq_in (List.mem_of_getElem? (i := 173) (by decide +kernel)) rfl
theorem sc_wd_222 : (Cond.fieldLinkNest R_SC 129 R_Needs "last" "[I" R_SC) ∈ hq_tb := hq_in (List.mem_of_getElem? (i := 176) (by decide +kernel)) rfl
theorem sc_wd_223 : (Cond.fieldLinkNest R_SC 135 R_Plan "workOf" "[I" R_SC) ∈ hq_tb := hq_in (List.mem_of_getElem? (i := 191) (by decide +kernel)) rfl
theorem sc_wd_224 : (Cond.fieldLinkNest R_SC 138 R_Plan "room" "I" R_SC) ∈ hq_tb := hq_in (List.mem_of_getElem? (i := 195) (by decide +kernel)) rfl
theorem sc_wd_225 : (Cond.code y_Plan_usedCount b_Plan_usedCount 3 (some .int)) ∈ hq_tb := hq_in (List.mem_of_getElem? (i := 450) (by decide +kernel)) rfl
theorem sc_wd_226 : (Cond.methodLinkNest R_SC 141 y_Plan_usedCount R_SC) ∈ hq_tb := hq_in (List.mem_of_getElem? (i := 447) (by decide +kernel)) rfl
theorem sc_wd_227 : (Cond.instanceMethod y_Plan_usedCount) ∈ hq_tb := hq_in (List.mem_of_getElem? (i := 449) (by decide +kernel)) rfl
theorem sc_wd_228 : (Cond.selects R_Plan y_Plan_usedCount y_Plan_usedCount) ∈ hq_tb := hq_in (List.mem_of_getElem? (i := 29) (by decide +kernel)) rfl
theorem sc_wd_229 : (Cond.fieldLinkNest R_SC 144 R_Plan "greatestTileNeed" "I" R_SC) ∈ hq_tb := hq_in (List.mem_of_getElem? (i := 197) (by decide +kernel)) rfl
end
section
/-! the class's world: 64 cells, as the constructors lay them -/
def sc_kl : List Nat := [0, 1, 2, 3, 4, 5, 6, 6, 6, 5, 6, 6, 6, 5, 6, 6, 6, 5, 6, 6, 6, 5, 6, 6, 6, 5, 6, 6, 6, 5, 6, 6, 6, 5, 6, 6, 6, 7, 8, 9, 3, 3, 8, 9, 3, 3, 9, 3, 10, 8, 9, 3, 3, 9, 11, 12, 12, 12, 12, 12, 12, 12, 12, 13]
def sc_kd (i : Nat) : Nat := sc_kl.getD i 99
def sc_ks (rl i k : Nat) : hm_S := match k with
  | 0 => .inl (0, [some 1, some 37, some 48, none, none])
  | 1 => .inl (1, [some 4, some 2, some 3, none, none, none, none])
  | 2 => .inr (2, 8, some (some (fun j => 5 + 4 * j)))
  | 3 => .inr (0, 8, none)
  | 4 => .inr (0, rl, none)
  | 5 => .inl (2, [none, none, none, none, some (i + 1), some (i + 2), some (i + 3)])
  | 6 => .inr (0, 4, none)
  | 7 => .inl (3, [some 1, some 38, some 42, some 46, some 47, none, none, none])
  | 8 => .inl (4, [some (i + 1), some (i + 2), some (i + 3)])
  | 9 => .inr (1, 8, none)
  | 10 => .inl (5, [some 1, some 49, some 53, some 54, some 63])
  | 11 => .inr (3, 8, some (some (fun j => 55 + j)))
  | 12 => .inr (0, 88, none)
  | 13 => .inr (0, 32, none)
  | _ => .inr (0, 0, none)
def sc_sh (rl i : Nat) : hm_S := sc_ks rl i (sc_kd i)
theorem sc_lt {i k : Nat} (h : sc_kd i = k) (hk : k < 50) : i < 64 := by
  rcases Nat.lt_or_ge i 64 with q | q
  · exact q
  · have e : sc_kd i = 99 := by
      unfold sc_kd
      rw [List.getD_eq_getElem?_getD, List.getElem?_eq_none (by show sc_kl.length ≤ i; exact Nat.le_trans (by decide) q)]
      rfl
    omega
theorem sc_s_SC {rl i : Nat} (h : sc_kd i = 0) : sc_sh rl i = .inl (0, [some 1, some 37, some 48, none, none]) := by
  unfold sc_sh
  rw [h]
  rfl
theorem sc_s_Pipe {rl i : Nat} (h : sc_kd i = 1) : sc_sh rl i = .inl (1, [some 4, some 2, some 3, none, none, none, none]) := by
  unfold sc_sh
  rw [h]
  rfl
theorem sc_s_starr {rl i : Nat} (h : sc_kd i = 2) : sc_sh rl i = .inr (2, 8, some (some (fun j => 5 + 4 * j))) := by
  unfold sc_sh
  rw [h]
  rfl
theorem sc_s_ia8 {rl i : Nat} (h : sc_kd i = 3) : sc_sh rl i = .inr (0, 8, none) := by
  unfold sc_sh
  rw [h]
  rfl
theorem sc_s_row {rl i : Nat} (h : sc_kd i = 4) : sc_sh rl i = .inr (0, rl, none) := by
  unfold sc_sh
  rw [h]
  rfl
theorem sc_s_Stage {rl i : Nat} (h : sc_kd i = 5) : sc_sh rl i = .inl (2, [none, none, none, none, some (i + 1), some (i + 2), some (i + 3)]) := by
  unfold sc_sh
  rw [h]
  rfl
theorem sc_s_ia4 {rl i : Nat} (h : sc_kd i = 6) : sc_sh rl i = .inr (0, 4, none) := by
  unfold sc_sh
  rw [h]
  rfl
theorem sc_s_Plan {rl i : Nat} (h : sc_kd i = 7) : sc_sh rl i = .inl (3, [some 1, some 38, some 42, some 46, some 47, none, none, none]) := by
  unfold sc_sh
  rw [h]
  rfl
theorem sc_s_Needs {rl i : Nat} (h : sc_kd i = 8) : sc_sh rl i = .inl (4, [some (i + 1), some (i + 2), some (i + 3)]) := by
  unfold sc_sh
  rw [h]
  rfl
theorem sc_s_za8 {rl i : Nat} (h : sc_kd i = 9) : sc_sh rl i = .inr (1, 8, none) := by
  unfold sc_sh
  rw [h]
  rfl
theorem sc_s_Runner {rl i : Nat} (h : sc_kd i = 10) : sc_sh rl i = .inl (5, [some 1, some 49, some 53, some 54, some 63]) := by
  unfold sc_sh
  rw [h]
  rfl
theorem sc_s_grid {rl i : Nat} (h : sc_kd i = 11) : sc_sh rl i = .inr (3, 8, some (some (fun j => 55 + j))) := by
  unfold sc_sh
  rw [h]
  rfl
theorem sc_s_ia88 {rl i : Nat} (h : sc_kd i = 12) : sc_sh rl i = .inr (0, 88, none) := by
  unfold sc_sh
  rw [h]
  rfl
theorem sc_s_ia32 {rl i : Nat} (h : sc_kd i = 13) : sc_sh rl i = .inr (0, 32, none) := by
  unfold sc_sh
  rw [h]
  rfl
theorem sck_Stage : ∀ i, i < 64 → sc_kd i = 5 → sc_kd (i + 1) = 6 ∧ sc_kd (i + 2) = 6 ∧ sc_kd (i + 3) = 6 := by decide
theorem sck_Stage1 {i : Nat} (h : sc_kd i = 5) : sc_kd (i + 1) = 6 := (sck_Stage i (sc_lt h (by decide)) h).1
theorem sck_Stage2 {i : Nat} (h : sc_kd i = 5) : sc_kd (i + 2) = 6 := (sck_Stage i (sc_lt h (by decide)) h).2.1
theorem sck_Stage3 {i : Nat} (h : sc_kd i = 5) : sc_kd (i + 3) = 6 := (sck_Stage i (sc_lt h (by decide)) h).2.2
theorem sck_Needs : ∀ i, i < 64 → sc_kd i = 8 → sc_kd (i + 1) = 9 ∧ sc_kd (i + 2) = 3 ∧ sc_kd (i + 3) = 3 := by decide
theorem sck_Needs1 {i : Nat} (h : sc_kd i = 8) : sc_kd (i + 1) = 9 := (sck_Needs i (sc_lt h (by decide)) h).1
theorem sck_Needs2 {i : Nat} (h : sc_kd i = 8) : sc_kd (i + 2) = 3 := (sck_Needs i (sc_lt h (by decide)) h).2.1
theorem sck_Needs3 {i : Nat} (h : sc_kd i = 8) : sc_kd (i + 3) = 3 := (sck_Needs i (sc_lt h (by decide)) h).2.2
theorem sck_st0 : ∀ j, j < 8 → sc_kd (5 + 4 * j) = 5 := by decide
theorem sck_gr0 : ∀ j, j < 8 → sc_kd (55 + j) = 12 := by decide
theorem sck_st {x : Int32} (h : hm_ix x 8 = true) : sc_kd (5 + 4 * x.toNatClampNeg) = 5 := sck_st0 _ (Nat.not_le.mp fun q => hm_ix_in h (Or.inr q))
theorem sck_gr {x : Int32} (h : hm_ix x 8 = true) : sc_kd (55 + x.toNatClampNeg) = 12 := sck_gr0 _ (Nat.not_le.mp fun q => hm_ix_in h (Or.inr q))
abbrev sc_cl : List vw_C := [(R_SC, F_SC, 5), (R_Pipe, F_Pipe, 7), (R_Stage, F_Stage, 7), (R_Plan, F_Plan, 8), (R_Needs, F_Needs, 3), (R_Runner, F_Runner, 5)]
abbrev sc_ty (ca : Nat → ClassId) : List (ClassId × FieldType) := [(ca 0, .int), (ca 1, .boolean), (ca 2, .object R_Stage), (ca 3, .array .int)]
def hq_X (p : Program) (s : State) (m : MethodId) (args : Array Value) (meth : Method) (c : Code) (cc : ByteArray) (own : String) (nL : Nat) (ret : Option FieldType) (D : va_G) (cl : List vw_C) (tys : List (ClassId × FieldType)) (tb : List Cond) : Prop := p.tables.exec = Jvm.exec ∧ c.code = cc ∧ c.maxLocals = nL ∧ s.vm.findClass own = some m.cls ∧ meth.sig.returnType = ret ∧ meth.locks = false ∧ hq_K D cl tys tb s
end
section
def f_Math_floorDiv_21 (x2 : Int32) (M : hm_M) : Option (Int32 × hm_M) :=
  some (x2, M)
def f_Math_floorDiv (M : hm_M) (x0 : Int32) (x1 : Int32) : Option (Int32 × hm_M) :=
  hm_gd (decide (¬ x1 = 0)) (if 0 ≤ (x0 ^^^ x1) then
    f_Math_floorDiv_21 (x0 / x1) M
  else
    if ((x0 / x1) * x1) = x0 then
      f_Math_floorDiv_21 (x0 / x1) M
    else
      some (((x0 / x1) - 1), M))
def f_Arrays_fill_5 : Nat → Nat → Int32 → Int32 → Int32 → hm_M → Option hm_M
  | 0, _, _, _, _, _ => none
  | n + 1, a0, x1, x2, x3, M =>
    if x3 ≤ x2 then
      some M
    else
      hm_gd (hm_ix x2 8) (hm_st M a0 x2.toNatClampNeg x1 (fun M_3 => f_Arrays_fill_5 n a0 x1 (x2 + 1) x3 M_3))
def f_Arrays_fill (M : hm_M) (a0 : Nat) (x1 : Int32) : Option hm_M :=
  f_Arrays_fill_5 1000 a0 x1 0 8 M
def f_Needs_widen_57 (a0 : Nat) (x1 : Int32) (b0 : Nat) (y1 : Int32) (y2 : Int32) (M : hm_M) : Option hm_M :=
  hm_gd (hm_ix y1 8) (hm_st M b0 y1.toNatClampNeg y2 (fun M_2 => hm_gd (hm_ix x1 8) (hm_st M_2 (a0 + 1) x1.toNatClampNeg 1 (fun M_4 => some M_4))))
def f_Needs_widen_28 (a0 : Nat) (x1 : Int32) (x3 : Int32) (b0 : Nat) (y1 : Int32) (y2 : Int32) (M : hm_M) : Option hm_M :=
  hm_gd (hm_ix y1 8) (hm_st M b0 y1.toNatClampNeg y2 (fun M_2 => hm_gd (hm_ix x1 8) (if (M_2 (a0 + 1) x1.toNatClampNeg) = 0 then
    f_Needs_widen_57 a0 x1 (a0 + 3) x1 x3 M_2
  else
    hm_gd (hm_ix x1 8) (f_Needs_widen_57 a0 x1 (a0 + 3) x1 (if (M_2 (a0 + 3) x1.toNatClampNeg) < x3 then x3 else (M_2 (a0 + 3) x1.toNatClampNeg)) M_2))))
def f_Needs_widen (M : hm_M) (a0 : Nat) (x1 : Int32) (x2 : Int32) (x3 : Int32) : Option hm_M :=
  hm_gd (hm_ix x1 8) (if (M (a0 + 1) x1.toNatClampNeg) = 0 then
    f_Needs_widen_28 a0 x1 x3 (a0 + 2) x1 x2 M
  else
    hm_gd (hm_ix x1 8) (f_Needs_widen_28 a0 x1 x3 (a0 + 2) x1 (if x2 < (M (a0 + 2) x1.toNatClampNeg) then x2 else (M (a0 + 2) x1.toNatClampNeg)) M))
def f_Needs_handOn_52 (k3 : Nat → Nat → Int32 → Int32 → Int32 → hm_M → Option hm_M) (a0 : Nat) (a1 : Nat) (x2 : Int32) (x3 : Int32) (x4 : Int32) (M : hm_M) : Option hm_M :=
  k3 a0 a1 x2 x3 (x4 + 1) M
def f_Needs_handOn_3 : Nat → Nat → Nat → Int32 → Int32 → Int32 → hm_M → Option hm_M
  | 0, _, _, _, _, _, _ => none
  | n + 1, a0, a1, x2, x3, x4, M =>
    if (M a1 3) ≤ x4 then
      some M
    else
      hm_gd (hm_ix x4 4) (if (M (a1 + 1) x4.toNatClampNeg) = (-1) then
        f_Needs_handOn_52 (fun a0 a1 x2 x3 x4 M => f_Needs_handOn_3 n a0 a1 x2 x3 x4 M) a0 a1 x2 x3 x4 M
      else
        hm_gd (hm_ix x4 4) (hm_gd (hm_ix x4 4) (hm_gd (hm_ix x4 4) (hm_bV (f_Needs_widen M a0 (M (a1 + 1) x4.toNatClampNeg) (x2 + (M (a1 + 2) x4.toNatClampNeg)) (x3 + (M (a1 + 2) x4.toNatClampNeg))) (fun M_8 => f_Needs_handOn_52 (fun a0 a1 x2 x3 x4 M => f_Needs_handOn_3 n a0 a1 x2 x3 x4 M) a0 a1 x2 x3 x4 M_8)))))
def f_Needs_handOn (M : hm_M) (a0 : Nat) (a1 : Nat) (x2 : Int32) (x3 : Int32) : Option hm_M :=
  f_Needs_handOn_3 1000 a0 a1 x2 x3 0 M
def f_Needs_spread_80 (k40 : Nat → Int32 → hm_M → Option hm_M) (a0 : Nat) (x4 : Int32) (M : hm_M) : Option hm_M :=
  k40 a0 (x4 + (-1)) M
def f_Needs_spread_40 : Nat → Nat → Int32 → hm_M → Option hm_M
  | 0, _, _, _ => none
  | n + 1, a0, x4, M =>
    if x4 < 0 then
      some M
    else
      hm_gd (hm_ix x4 8) (if (M (a0 + 1) x4.toNatClampNeg) = 0 then
        f_Needs_spread_80 (fun a0 x4 M => f_Needs_spread_40 n a0 x4 M) a0 x4 M
      else
        hm_gd (hm_ix x4 8) (hm_gd (hm_ix x4 8) (hm_gd (hm_ix x4 8) (hm_bV (f_Needs_handOn M a0 (5 + 4 * x4.toNatClampNeg) (M (a0 + 2) x4.toNatClampNeg) (M (a0 + 3) x4.toNatClampNeg)) (fun M_8 => f_Needs_spread_80 (fun a0 x4 M => f_Needs_spread_40 n a0 x4 M) a0 x4 M_8)))))
def f_Needs_spread_3 : Nat → Nat → Int32 → Int32 → Int32 → hm_M → Option hm_M
  | 0, _, _, _, _, _ => none
  | n + 1, a0, x2, x3, x4, M =>
    if 8 ≤ x4 then
      hm_bV (f_Needs_widen M a0 (M 1 5) x2 x3) (fun M_3 => f_Needs_spread_40 1000 a0 (M_3 1 5) M_3)
    else
      hm_gd (hm_ix x4 8) (hm_st M (a0 + 1) x4.toNatClampNeg 0 (fun M_6 => f_Needs_spread_3 n a0 x2 x3 (x4 + 1) M_6))
def f_Needs_spread (M : hm_M) (a0 : Nat) (x2 : Int32) (x3 : Int32) : Option hm_M :=
  f_Needs_spread_3 1000 a0 x2 x3 0 M
def f_Needs_lengthOf (M : hm_M) (a0 : Nat) (x1 : Int32) : Option (Int32 × hm_M) :=
  hm_gd (hm_ix x1 8) (hm_gd (hm_ix x1 8) (some ((((M (a0 + 3) x1.toNatClampNeg) - (M (a0 + 2) x1.toNatClampNeg)) + 1), M)))
def f_Pipe_hasStage_17 (y0 : Int32) (M : hm_M) : Option (Int32 × hm_M) :=
  hm_gd (decide (y0 = 0 ∨ y0 = 1)) (some (y0, M))
def f_Pipe_hasStage_16 (M : hm_M) : Option (Int32 × hm_M) :=
  f_Pipe_hasStage_17 0 M
def f_Pipe_hasStage (M : hm_M) (x1 : Int32) : Option (Int32 × hm_M) :=
  if x1 < 0 then
    f_Pipe_hasStage_16 M
  else
    if (M 1 3) ≤ x1 then
      f_Pipe_hasStage_16 M
    else
      f_Pipe_hasStage_17 1 M
def f_Pipe_addStage (M : hm_M) (x1 : Int32) (x2 : Int32) : Option (Int32 × hm_M) :=
  hm_gd (hm_ix (M 1 3) 8) (hm_st M (5 + 4 * (M 1 3).toNatClampNeg) 0 x1 (fun M_2 => hm_st M_2 (5 + 4 * (M 1 3).toNatClampNeg) 1 x2 (fun M_3 => hm_st M_3 1 3 ((M_3 1 3) + 1) (fun M_4 => some (((M_4 1 3) - 1), M_4)))))
def f_Pipe_tileCount (M : hm_M) : Option (Int32 × hm_M) :=
  hm_gd (decide (¬ (M 1 4) = 0)) (some (((((M 1 6) + (M 1 4)) - 1) / (M 1 4)), M))
def f_Pipe_tileFirst (M : hm_M) (x1 : Int32) : Option (Int32 × hm_M) :=
  some ((x1 * (M 1 4)), M)
def f_Pipe_tileLast (M : hm_M) (x1 : Int32) : Option (Int32 × hm_M) :=
  hm_bI (f_Pipe_tileFirst M x1) (fun r1 M_2 => some (((if (M_2 1 6) < (r1 + (M_2 1 4)) then (M_2 1 6) else (r1 + (M_2 1 4))) - 1), M_2))
def f_Pipe_valuesWorkedOutFor_57 (k2 : Int32 → Int32 → hm_M → Option (Int32 × hm_M)) (k20 : Int32 → Int32 → Nat → Int32 → Int32 → hm_M → Option (Int32 × hm_M)) (x1 : Int32) (x2 : Int32) (a3 : Nat) (x5 : Int32) (y0 : Int32) (y1 : Int32) (M : hm_M) : Option (Int32 × hm_M) :=
  k20 x1 x2 a3 (y0 + y1) (x5 + 1) M
def f_Pipe_valuesWorkedOutFor_20 (k2 : Int32 → Int32 → hm_M → Option (Int32 × hm_M)) : Nat → Int32 → Int32 → Nat → Int32 → Int32 → hm_M → Option (Int32 × hm_M)
  | 0, _, _, _, _, _, _ => none
  | n + 1, x1, x2, a3, x4, x5, M =>
    if (M a3 3) ≤ x5 then
      hm_gd (hm_ix x2 8) (hm_st M 3 x2.toNatClampNeg x4 (fun M_3 => k2 x1 (x2 + 1) M_3))
    else
      hm_gd (hm_ix x5 4) (if (M (a3 + 1) x5.toNatClampNeg) = (-1) then
        f_Pipe_valuesWorkedOutFor_57 k2 (fun x1 x2 a3 x4 x5 M => f_Pipe_valuesWorkedOutFor_20 k2 n x1 x2 a3 x4 x5 M) x1 x2 a3 x5 x4 0 M
      else
        hm_gd (hm_ix (M (a3 + 1) x5.toNatClampNeg) 8) (f_Pipe_valuesWorkedOutFor_57 k2 (fun x1 x2 a3 x4 x5 M => f_Pipe_valuesWorkedOutFor_20 k2 n x1 x2 a3 x4 x5 M) x1 x2 a3 x5 x4 (M 3 (M (a3 + 1) x5.toNatClampNeg).toNatClampNeg) M))
def f_Pipe_valuesWorkedOutFor_2 : Nat → Int32 → Int32 → hm_M → Option (Int32 × hm_M)
  | 0, _, _, _ => none
  | n + 1, x1, x2, M =>
    if x1 < x2 then
      hm_gd (hm_ix x1 8) (some ((M 3 x1.toNatClampNeg), M))
    else
      hm_gd (hm_ix x2 8) (f_Pipe_valuesWorkedOutFor_20 (fun x1 x2 M => f_Pipe_valuesWorkedOutFor_2 n x1 x2 M) 1000 x1 x2 (5 + 4 * x2.toNatClampNeg) 1 0 M)
def f_Pipe_valuesWorkedOutFor (M : hm_M) (x1 : Int32) : Option (Int32 × hm_M) :=
  f_Pipe_valuesWorkedOutFor_2 1000 x1 0 M
def f_Stage_addTap (M : hm_M) (a0 : Nat) (x1 : Int32) (x2 : Int32) (x3 : Int32) : Option hm_M :=
  hm_gd (hm_ix (M a0 3) 4) (hm_st M (a0 + 1) (M a0 3).toNatClampNeg x1 (fun M_2 => hm_gd (hm_ix (M_2 a0 3) 4) (hm_st M_2 (a0 + 2) (M_2 a0 3).toNatClampNeg x2 (fun M_4 => hm_gd (hm_ix (M_4 a0 3) 4) (hm_st M_4 (a0 + 3) (M_4 a0 3).toNatClampNeg x3 (fun M_6 => hm_st M_6 a0 3 ((M_6 a0 3) + 1) (fun M_7 => some M_7)))))))
def f_Stage_finished_54 (y0 : Int32) (M : hm_M) : Option (Int32 × hm_M) :=
  some (y0, M)
def f_Stage_finished (M : hm_M) (a0 : Nat) (x1 : Int32) : Option (Int32 × hm_M) :=
  if (M a0 1) = 1 then
    some ((if x1 < 0 then 0 else x1), M)
  else if (M a0 1) = 2 then
    hm_bI (f_Math_floorDiv M x1 2) (fun r3 M_4 => some (r3, M_4))
  else if (M a0 1) = 3 then
    if 0 ≤ x1 then
      f_Stage_finished_54 x1 M
    else
      f_Stage_finished_54 (-x1) M
  else some (x1, M)
def f_Plan_isUsedAs_33 (y0 : Int32) (M : hm_M) : Option (Int32 × hm_M) :=
  hm_gd (decide (y0 = 0 ∨ y0 = 1)) (some (y0, M))
def f_Plan_isUsedAs_32 (M : hm_M) : Option (Int32 × hm_M) :=
  f_Plan_isUsedAs_33 0 M
def f_Plan_isUsedAs (M : hm_M) (x1 : Int32) (x2 : Int32) : Option (Int32 × hm_M) :=
  hm_gd (hm_ix x1 8) (if (M 39 x1.toNatClampNeg) = 0 then
    f_Plan_isUsedAs_32 M
  else
    hm_gd (hm_ix x1 8) (if (M (5 + 4 * x1.toNatClampNeg) 2) = x2 then
      f_Plan_isUsedAs_33 1 M
    else
      f_Plan_isUsedAs_32 M))
def f_Plan_usedCount_28 (k4 : Int32 → Int32 → hm_M → Option (Int32 × hm_M)) (x2 : Int32) (y0 : Int32) (y1 : Int32) (M : hm_M) : Option (Int32 × hm_M) :=
  k4 (y0 + y1) (x2 + 1) M
def f_Plan_usedCount_4 : Nat → Int32 → Int32 → hm_M → Option (Int32 × hm_M)
  | 0, _, _, _ => none
  | n + 1, x1, x2, M =>
    if 8 ≤ x2 then
      some (x1, M)
    else
      hm_gd (hm_ix x2 8) (if (M 39 x2.toNatClampNeg) = 0 then
        f_Plan_usedCount_28 (fun x1 x2 M => f_Plan_usedCount_4 n x1 x2 M) x2 x1 0 M
      else
        f_Plan_usedCount_28 (fun x1 x2 M => f_Plan_usedCount_4 n x1 x2 M) x2 x1 1 M)
def f_Plan_usedCount (M : hm_M) : Option (Int32 × hm_M) :=
  f_Plan_usedCount_4 1000 0 0 M
def f_Plan_hasTiledToWorkOut_59 (M : hm_M) : Option (Int32 × hm_M) :=
  hm_gd (decide (1 = 0 ∨ 1 = 1)) (some (1, M))
def f_Plan_hasTiledToWorkOut_61 (k2 : Nat → Int32 → hm_M → Option (Int32 × hm_M)) (a1 : Nat) (x2 : Int32) (M : hm_M) : Option (Int32 × hm_M) :=
  k2 a1 (x2 + 1) M
def f_Plan_hasTiledToWorkOut_2 : Nat → Nat → Int32 → hm_M → Option (Int32 × hm_M)
  | 0, _, _, _ => none
  | n + 1, a1, x2, M =>
    if (M a1 3) ≤ x2 then
      hm_gd (decide (0 = 0 ∨ 0 = 1)) (some (0, M))
    else
      hm_gd (hm_ix x2 4) (if (M (a1 + 1) x2.toNatClampNeg) = (-1) then
        f_Plan_hasTiledToWorkOut_61 (fun a1 x2 M => f_Plan_hasTiledToWorkOut_2 n a1 x2 M) a1 x2 M
      else
        hm_gd (hm_ix (M (a1 + 1) x2.toNatClampNeg) 8) (if (M (5 + 4 * (M (a1 + 1) x2.toNatClampNeg).toNatClampNeg) 2) = 2 then
          f_Plan_hasTiledToWorkOut_59 M
        else
          if (M (5 + 4 * (M (a1 + 1) x2.toNatClampNeg).toNatClampNeg) 2) = 0 then
            hm_gd (hm_ix (M (a1 + 1) x2.toNatClampNeg) 8) (if (M 46 (M (a1 + 1) x2.toNatClampNeg).toNatClampNeg) = 0 then
              f_Plan_hasTiledToWorkOut_61 (fun a1 x2 M => f_Plan_hasTiledToWorkOut_2 n a1 x2 M) a1 x2 M
            else
              f_Plan_hasTiledToWorkOut_59 M)
          else
            f_Plan_hasTiledToWorkOut_61 (fun a1 x2 M => f_Plan_hasTiledToWorkOut_2 n a1 x2 M) a1 x2 M))
def f_Plan_hasTiledToWorkOut (M : hm_M) (a1 : Nat) : Option (Int32 × hm_M) :=
  f_Plan_hasTiledToWorkOut_2 1000 a1 0 M
def f_Plan_leastRootThatAsksTiled_52 (k2 : Int32 → hm_M → Option (Int32 × hm_M)) (x1 : Int32) (M : hm_M) : Option (Int32 × hm_M) :=
  k2 (x1 + 1) M
def f_Plan_leastRootThatAsksTiled_2 : Nat → Int32 → hm_M → Option (Int32 × hm_M)
  | 0, _, _ => none
  | n + 1, x1, M =>
    if (M 1 5) ≤ x1 then
      some ((-1), M)
    else
      hm_gd (hm_ix x1 8) (hm_bI (f_Plan_hasTiledToWorkOut M (5 + 4 * x1.toNatClampNeg)) (fun r3 M_4 => hm_gd (hm_ix x1 8) (hm_gd (decide (r3 = 0 ∨ r3 = 1)) (hm_st M_4 46 x1.toNatClampNeg r3 (fun M_8 => hm_bI (f_Plan_isUsedAs M_8 x1 1) (fun r9 M_10 => if r9 = 0 then
        f_Plan_leastRootThatAsksTiled_52 (fun x1 M => f_Plan_leastRootThatAsksTiled_2 n x1 M) x1 M_10
      else
        hm_gd (hm_ix x1 8) (if (M_10 46 x1.toNatClampNeg) = 0 then
          f_Plan_leastRootThatAsksTiled_52 (fun x1 M => f_Plan_leastRootThatAsksTiled_2 n x1 M) x1 M_10
        else
          some (x1, M_10))))))))
def f_Plan_leastRootThatAsksTiled (M : hm_M) : Option (Int32 × hm_M) :=
  f_Plan_leastRootThatAsksTiled_2 1000 0 M
def f_Plan_measureOutput (M : hm_M) : Option hm_M :=
  hm_gd (hm_ix (M 1 5) 8) (hm_st M 47 (M 1 5).toNatClampNeg (M 1 6) (fun M_2 => some M_2))
def f_Plan_measureRoots_51 (k2 : Int32 → hm_M → Option hm_M) (x1 : Int32) (M : hm_M) : Option hm_M :=
  k2 (x1 + 1) M
def f_Plan_measureRoots_2 : Nat → Int32 → hm_M → Option hm_M
  | 0, _, _ => none
  | n + 1, x1, M =>
    if (M 1 5) ≤ x1 then
      some M
    else
      hm_bI (f_Plan_isUsedAs M x1 1) (fun r2 M_3 => if r2 = 0 then
        f_Plan_measureRoots_51 (fun x1 M => f_Plan_measureRoots_2 n x1 M) x1 M_3
      else
        hm_bI (f_Needs_lengthOf M_3 38 x1) (fun r6 M_7 => hm_gd (hm_ix x1 8) (hm_st M_7 47 x1.toNatClampNeg r6 (fun M_10 => hm_gd (hm_ix x1 8) (hm_st M_10 37 6 ((M_10 37 6) + (M_10 47 x1.toNatClampNeg)) (fun M_12 => f_Plan_measureRoots_51 (fun x1 M => f_Plan_measureRoots_2 n x1 M) x1 M_12))))))
def f_Plan_measureRoots (M : hm_M) : Option hm_M :=
  f_Plan_measureRoots_2 1000 0 M
def f_Plan_measureTileInHand_59 (k4 : Int32 → Int32 → hm_M → Option (Int32 × hm_M)) (x1 : Int32) (x2 : Int32) (M : hm_M) : Option (Int32 × hm_M) :=
  k4 x1 (x2 + 1) M
def f_Plan_measureTileInHand_4 : Nat → Int32 → Int32 → hm_M → Option (Int32 × hm_M)
  | 0, _, _, _ => none
  | n + 1, x1, x2, M =>
    if (M 1 5) ≤ x2 then
      some (x1, M)
    else
      hm_bI (f_Plan_isUsedAs M x2 2) (fun r2 M_3 => if r2 = 0 then
        f_Plan_measureTileInHand_59 (fun x1 x2 M => f_Plan_measureTileInHand_4 n x1 x2 M) x1 x2 M_3
      else
        hm_bI (f_Needs_lengthOf M_3 42 x2) (fun r6 M_7 => hm_gd (hm_ix x2 8) (hm_gd (hm_ix x2 8) (hm_st M_7 47 x2.toNatClampNeg ((M_7 47 x2.toNatClampNeg) + r6) (fun M_11 => hm_st M_11 37 7 (if (M_11 37 7) < r6 then r6 else (M_11 37 7)) (fun M_12 => f_Plan_measureTileInHand_59 (fun x1 x2 M => f_Plan_measureTileInHand_4 n x1 x2 M) (x1 + r6) x2 M_12))))))
def f_Plan_measureTileInHand (M : hm_M) : Option (Int32 × hm_M) :=
  f_Plan_measureTileInHand_4 1000 0 0 M
def f_Plan_measureTiles_4 : Nat → Int32 → Int32 → hm_M → Option hm_M
  | 0, _, _, _ => none
  | n + 1, x1, x2, M =>
    hm_bI (f_Pipe_tileCount M ) (fun r1 M_2 => if r1 ≤ x2 then
      hm_st M_2 37 6 ((M_2 37 6) + x1) (fun M_5 => some M_5)
    else
      hm_bI (f_Pipe_tileFirst M_2 x2) (fun r6 M_7 => hm_bI (f_Pipe_tileLast M_7 x2) (fun r9 M_10 => hm_bV (f_Needs_spread M_10 42 r6 r9) (fun M_13 => hm_bI (f_Plan_measureTileInHand M_13 ) (fun r15 M_16 => f_Plan_measureTiles_4 n (if x1 < r15 then r15 else x1) (x2 + 1) M_16)))))
def f_Plan_measureTiles (M : hm_M) : Option hm_M :=
  f_Plan_measureTiles_4 1000 0 0 M
def f_Plan_askInlineSources_66 (k12 : Int32 → Nat → Int32 → hm_M → Option hm_M) (x1 : Int32) (a2 : Nat) (x3 : Int32) (M : hm_M) : Option hm_M :=
  k12 x1 a2 (x3 + 1) M
def f_Plan_askInlineSources_12 : Nat → Int32 → Nat → Int32 → hm_M → Option hm_M
  | 0, _, _, _, _ => none
  | n + 1, x1, a2, x3, M =>
    if (M a2 3) ≤ x3 then
      some M
    else
      hm_gd (hm_ix x3 4) (if (M (a2 + 1) x3.toNatClampNeg) = (-1) then
        f_Plan_askInlineSources_66 (fun x1 a2 x3 M => f_Plan_askInlineSources_12 n x1 a2 x3 M) x1 a2 x3 M
      else
        hm_gd (hm_ix (M (a2 + 1) x3.toNatClampNeg) 8) (if (M (5 + 4 * (M (a2 + 1) x3.toNatClampNeg).toNatClampNeg) 2) = 0 then
          hm_gd (hm_ix (M (a2 + 1) x3.toNatClampNeg) 8) (hm_gd (hm_ix x1 8) (hm_gd (hm_ix (M (a2 + 1) x3.toNatClampNeg) 8) (hm_st M 47 (M (a2 + 1) x3.toNatClampNeg).toNatClampNeg ((M 47 (M (a2 + 1) x3.toNatClampNeg).toNatClampNeg) + (M 47 x1.toNatClampNeg)) (fun M_9 => f_Plan_askInlineSources_66 (fun x1 a2 x3 M => f_Plan_askInlineSources_12 n x1 a2 x3 M) x1 a2 x3 M_9))))
        else
          f_Plan_askInlineSources_66 (fun x1 a2 x3 M => f_Plan_askInlineSources_12 n x1 a2 x3 M) x1 a2 x3 M))
def f_Plan_askInlineSources (M : hm_M) (x1 : Int32) : Option hm_M :=
  hm_gd (hm_ix x1 8) (f_Plan_askInlineSources_12 1000 x1 (5 + 4 * x1.toNatClampNeg) 0 M)
def f_Plan_measureInlines_13 : Nat → Int32 → hm_M → Option hm_M
  | 0, _, _ => none
  | n + 1, x1, M =>
    if x1 < 0 then
      some M
    else
      hm_gd (hm_ix x1 8) (hm_st M 37 5 ((M 37 5) + (M 47 x1.toNatClampNeg)) (fun M_3 => hm_bV (f_Plan_askInlineSources M_3 x1) (fun M_5 => f_Plan_measureInlines_13 n (x1 + (-1)) M_5)))
def f_Plan_measureInlines (M : hm_M) : Option hm_M :=
  hm_st M 37 5 0 (fun M_1 => f_Plan_measureInlines_13 1000 (M_1 1 5) M_1)
def f_Plan_draw_101 (y0 : Int32) (M : hm_M) : Option (Int32 × hm_M) :=
  some (y0, M)
def f_Plan_draw (M : hm_M) : Option (Int32 × hm_M) :=
  if (M 1 5) = (-1) then
    some ((-100), M)
  else
    hm_bV (f_Needs_spread M 38 0 ((M 1 6) - 1)) (fun M_3 => hm_bI (f_Plan_leastRootThatAsksTiled M_3 ) (fun r5 M_6 => if r5 < 0 then
      hm_bV (f_Arrays_fill M_6 47 0) (fun M_10 => hm_st M_10 37 6 0 (fun M_12 => hm_st M_12 37 7 0 (fun M_13 => hm_bV (f_Plan_measureOutput M_13 ) (fun M_15 => hm_bV (f_Plan_measureRoots M_15 ) (fun M_18 => hm_bV (f_Plan_measureTiles M_18 ) (fun M_21 => hm_bV (f_Plan_measureInlines M_21 ) (fun M_24 => if (M_24 37 5) ≤ 4000 then
        f_Plan_draw_101 0 M_24
      else
        f_Plan_draw_101 (-300) M_24)))))))
    else
      some (((-200) - r5), M_6)))
def f_Runner_sourceValue_61 (rl : Nat) (rc : hm_M → Int32 → Int32 → Option (Int32 × hm_M)) (y0 : Int32) (M : hm_M) : Option (Int32 × hm_M) :=
  some (y0, M)
def f_Runner_sourceValue (rl : Nat) (rc : hm_M → Int32 → Int32 → Option (Int32 × hm_M)) (M : hm_M) (x1 : Int32) (x2 : Int32) : Option (Int32 × hm_M) :=
  if x1 = (-1) then
    hm_gd (hm_ix (if 0 < (if x2 < ((nI rl) - 1) then x2 else ((nI rl) - 1)) then (if x2 < ((nI rl) - 1) then x2 else ((nI rl) - 1)) else 0) rl) (some ((M 4 (if 0 < (if x2 < ((nI rl) - 1) then x2 else ((nI rl) - 1)) then (if x2 < ((nI rl) - 1) then x2 else ((nI rl) - 1)) else 0).toNatClampNeg), M))
  else
    hm_gd (hm_ix x1 8) (if (M 53 x1.toNatClampNeg) = 0 then
      hm_bI (rc M x1 x2) (fun r4 M_5 => f_Runner_sourceValue_61 rl rc r4 M_5)
    else
      hm_gd (hm_ix x1 8) (hm_gd (hm_ix (x2 + 28) 88) (f_Runner_sourceValue_61 rl rc (M (55 + x1.toNatClampNeg) (x2 + 28).toNatClampNeg) M)))
def f_Runner_workOutB_19 (rl : Nat) (rc : hm_M → Int32 → Int32 → Option (Int32 × hm_M)) : Nat → Int32 → Nat → Int32 → Int32 → hm_M → Option (Int32 × hm_M)
  | 0, _, _, _, _, _ => none
  | n + 1, x2, a3, x4, x5, M =>
    if (M a3 3) ≤ x5 then
      hm_bI (f_Stage_finished M a3 x4) (fun r2 M_3 => some (r2, M_3))
    else
      hm_gd (hm_ix x5 4) (hm_gd (hm_ix x5 4) (hm_gd (hm_ix x5 4) (hm_bI (f_Runner_sourceValue rl rc M (M (a3 + 1) x5.toNatClampNeg) (x2 + (M (a3 + 2) x5.toNatClampNeg))) (fun r8 M_9 => f_Runner_workOutB_19 rl rc n x2 a3 (x4 + ((M (a3 + 3) x5.toNatClampNeg) * r8)) (x5 + 1) M_9))))
def f_Runner_workOutB (rl : Nat) (rc : hm_M → Int32 → Int32 → Option (Int32 × hm_M)) (M : hm_M) (x1 : Int32) (x2 : Int32) : Option (Int32 × hm_M) :=
  hm_gd (hm_ix x1 8) (f_Runner_workOutB_19 rl rc 1000 x2 (5 + 4 * x1.toNatClampNeg) (M (5 + 4 * x1.toNatClampNeg) 0) 0 M)
def f_Runner_workOut (rl : Nat) : Nat → hm_M → Int32 → Int32 → Option (Int32 × hm_M)
  | 0 => fun _ _ _ => none
  | n + 1 => fun M x1 x2 => f_Runner_workOutB rl (f_Runner_workOut rl n) M x1 x2
def f_Runner_release_48 (k2 : Int32 → Int32 → hm_M → Option hm_M) (x1 : Int32) (x2 : Int32) (y1 : Int32) (y2 : Int32) (M : hm_M) : Option hm_M :=
  hm_gd (hm_ix y1 8) (hm_gd (decide (y2 = 0 ∨ y2 = 1)) (hm_st M 53 y1.toNatClampNeg y2 (fun M_3 => k2 x1 (x2 + 1) M_3)))
def f_Runner_release_47 (k2 : Int32 → Int32 → hm_M → Option hm_M) (x1 : Int32) (x2 : Int32) (y1 : Int32) (M : hm_M) : Option hm_M :=
  f_Runner_release_48 k2 x1 x2 y1 0 M
def f_Runner_release_2 : Nat → Int32 → Int32 → hm_M → Option hm_M
  | 0, _, _, _ => none
  | n + 1, x1, x2, M =>
    if (M 1 5) ≤ x2 then
      some M
    else
      hm_gd (hm_ix x2 8) (if (M 53 x2.toNatClampNeg) = 0 then
        f_Runner_release_47 (fun x1 x2 M => f_Runner_release_2 n x1 x2 M) x1 x2 x2 M
      else
        hm_gd (hm_ix x2 8) (if (M (5 + 4 * x2.toNatClampNeg) 2) = x1 then
          f_Runner_release_47 (fun x1 x2 M => f_Runner_release_2 n x1 x2 M) x1 x2 x2 M
        else
          f_Runner_release_48 (fun x1 x2 M => f_Runner_release_2 n x1 x2 M) x1 x2 x2 1 M))
def f_Runner_release (M : hm_M) (x1 : Int32) : Option hm_M :=
  f_Runner_release_2 1000 x1 0 M
def f_Runner_keep_92 (rl : Nat) (k2 : Nat → Int32 → Int32 → hm_M → Option hm_M) (a1 : Nat) (x2 : Int32) (x3 : Int32) (M : hm_M) : Option hm_M :=
  k2 a1 x2 (x3 + 1) M
def f_Runner_keep_49 (rl : Nat) (k2 : Nat → Int32 → Int32 → hm_M → Option hm_M) : Nat → Nat → Int32 → Int32 → Int32 → hm_M → Option hm_M
  | 0, _, _, _, _, _ => none
  | n + 1, a1, x2, x3, x4, M =>
    hm_gd (hm_ix x3 8) (if (M (a1 + 3) x3.toNatClampNeg) < x4 then
      hm_gd (hm_ix x3 8) (hm_st M 53 x3.toNatClampNeg 1 (fun M_4 => f_Runner_keep_92 rl k2 a1 x2 x3 M_4))
    else
      hm_gd (hm_ix x3 8) (hm_bI (f_Runner_workOut rl 9 M x3 x4) (fun r6 M_7 => hm_gd (hm_ix (x4 + 28) 88) (hm_st M_7 (55 + x3.toNatClampNeg) (x4 + 28).toNatClampNeg r6 (fun M_10 => f_Runner_keep_49 rl k2 n a1 x2 x3 (x4 + 1) M_10)))))
def f_Runner_keep_2 (rl : Nat) : Nat → Nat → Int32 → Int32 → hm_M → Option hm_M
  | 0, _, _, _, _ => none
  | n + 1, a1, x2, x3, M =>
    if (M 1 5) ≤ x3 then
      some M
    else
      hm_gd (hm_ix x3 8) (if (M (a1 + 1) x3.toNatClampNeg) = 0 then
        f_Runner_keep_92 rl (fun a1 x2 x3 M => f_Runner_keep_2 rl n a1 x2 x3 M) a1 x2 x3 M
      else
        hm_gd (hm_ix x3 8) (if (M (5 + 4 * x3.toNatClampNeg) 2) = x2 then
          hm_gd (hm_ix x3 8) (f_Runner_keep_49 rl (fun a1 x2 x3 M => f_Runner_keep_2 rl n a1 x2 x3 M) 1000 a1 x2 x3 (M (a1 + 2) x3.toNatClampNeg) M)
        else
          f_Runner_keep_92 rl (fun a1 x2 x3 M => f_Runner_keep_2 rl n a1 x2 x3 M) a1 x2 x3 M))
def f_Runner_keep (rl : Nat) (M : hm_M) (a1 : Nat) (x2 : Int32) : Option hm_M :=
  f_Runner_keep_2 rl 1000 a1 x2 0 M
def f_Runner_runTile_24 (rl : Nat) : Nat → Int32 → Int32 → hm_M → Option hm_M
  | 0, _, _, _ => none
  | n + 1, x2, x3, M =>
    if x2 < x3 then
      hm_bV (f_Runner_release M 2) (fun M_3 => some M_3)
    else
      hm_bI (f_Runner_workOut rl 9 M (M 1 5) x3) (fun r5 M_6 => hm_gd (hm_ix x3 32) (hm_st M_6 63 x3.toNatClampNeg r5 (fun M_9 => f_Runner_runTile_24 rl n x2 (x3 + 1) M_9)))
def f_Runner_runTile (rl : Nat) (M : hm_M) (x1 : Int32) (x2 : Int32) : Option hm_M :=
  hm_bV (f_Needs_spread M 49 x1 x2) (fun M_2 => hm_bV (f_Runner_keep rl M_2 49 2) (fun M_5 => f_Runner_runTile_24 rl 1000 x2 x1 M_5))
def f_Runner_runSchedule_8 (rl : Nat) : Nat → Int32 → hm_M → Option hm_M
  | 0, _, _ => none
  | n + 1, x2, M =>
    hm_bI (f_Pipe_tileCount M ) (fun r1 M_2 => if r1 ≤ x2 then
      hm_bV (f_Runner_release M_2 1) (fun M_6 => some M_6)
    else
      hm_bI (f_Pipe_tileFirst M_2 x2) (fun r8 M_9 => hm_bI (f_Pipe_tileLast M_9 x2) (fun r11 M_12 => hm_bV (f_Runner_runTile rl M_12 r8 r11) (fun M_15 => f_Runner_runSchedule_8 rl n (x2 + 1) M_15))))
def f_Runner_runSchedule (rl : Nat) (M : hm_M) (a1 : Nat) : Option hm_M :=
  hm_bV (f_Runner_keep rl M a1 1) (fun M_2 => f_Runner_runSchedule_8 rl 1000 0 M_2)
def f_SC_forgetCompiled (M : hm_M) : Option hm_M :=
  hm_st M 0 3 0 (fun M_1 => hm_st M_1 0 4 0 (fun M_2 => some M_2))
def f_SC_input_16 (rl : Nat) (M : hm_M) : Option (Int32 × hm_M) :=
  some ((-1), M)
def f_SC_input (rl : Nat) (M : hm_M) (x1 : Int32) (x2 : Int32) : Option (Int32 × hm_M) :=
  if x1 < 0 then
    f_SC_input_16 rl M
  else
    if x1 < (nI rl) then
      hm_gd (hm_ix x1 rl) (hm_st M 4 x1.toNatClampNeg x2 (fun M_4 => hm_bV (f_SC_forgetCompiled M_4 ) (fun M_6 => some (0, M_6))))
    else
      f_SC_input_16 rl M
def f_SC_stage_9 (M : hm_M) : Option (Int32 × hm_M) :=
  some ((-1), M)
def f_SC_stage (M : hm_M) (x1 : Int32) (x2 : Int32) : Option (Int32 × hm_M) :=
  if x2 < 0 then
    f_SC_stage_9 M
  else
    if x2 ≤ 3 then
      if (M 1 3) = 8 then
        some ((-2), M)
      else
        hm_bI (f_Pipe_addStage M x1 x2) (fun r4 M_5 => hm_bV (f_SC_forgetCompiled M_5 ) (fun M_8 => some (r4, M_8)))
    else
      f_SC_stage_9 M
def f_SC_tap_32 (M : hm_M) : Option (Int32 × hm_M) :=
  some ((-1), M)
def f_SC_tap (M : hm_M) (x1 : Int32) (x2 : Int32) (x3 : Int32) (x4 : Int32) : Option (Int32 × hm_M) :=
  hm_bI (f_Pipe_hasStage M x1) (fun r1 M_2 => if r1 = 0 then
    f_SC_tap_32 M_2
  else
    if x2 < (-1) then
      f_SC_tap_32 M_2
    else
      if x1 ≤ x2 then
        f_SC_tap_32 M_2
      else
        if x3 < (-4) then
          f_SC_tap_32 M_2
        else
          if x3 ≤ 4 then
            hm_gd (hm_ix x1 8) (if (M_2 (5 + 4 * x1.toNatClampNeg) 3) = 4 then
              some ((-2), M_2)
            else
              hm_bV (f_Stage_addTap M_2 (5 + 4 * x1.toNatClampNeg) x2 x3 x4) (fun M_12 => hm_bV (f_SC_forgetCompiled M_12 ) (fun M_15 => some ((M_15 (5 + 4 * x1.toNatClampNeg) 3), M_15))))
          else
            f_SC_tap_32 M_2)
def f_SC_mode_20 (M : hm_M) : Option (Int32 × hm_M) :=
  some ((-1), M)
def f_SC_mode (M : hm_M) (x1 : Int32) (x2 : Int32) : Option (Int32 × hm_M) :=
  hm_bI (f_Pipe_hasStage M x1) (fun r1 M_2 => if r1 = 0 then
    f_SC_mode_20 M_2
  else
    if x2 < 0 then
      f_SC_mode_20 M_2
    else
      if x2 ≤ 2 then
        hm_gd (hm_ix x1 8) (hm_st M_2 (5 + 4 * x1.toNatClampNeg) 2 x2 (fun M_8 => hm_bV (f_SC_forgetCompiled M_8 ) (fun M_10 => some (0, M_10))))
      else
        f_SC_mode_20 M_2)
def f_SC_tile_11 (M : hm_M) : Option (Int32 × hm_M) :=
  some ((-1), M)
def f_SC_tile (M : hm_M) (x1 : Int32) : Option (Int32 × hm_M) :=
  if x1 < 1 then
    f_SC_tile_11 M
  else
    if x1 ≤ 32 then
      hm_st M 1 4 x1 (fun M_3 => hm_bV (f_SC_forgetCompiled M_3 ) (fun M_5 => some (0, M_5)))
    else
      f_SC_tile_11 M
def f_SC_output_22 (M : hm_M) : Option (Int32 × hm_M) :=
  some ((-1), M)
def f_SC_output (M : hm_M) (x1 : Int32) (x2 : Int32) : Option (Int32 × hm_M) :=
  hm_bI (f_Pipe_hasStage M x1) (fun r1 M_2 => if r1 = 0 then
    f_SC_output_22 M_2
  else
    if x2 < 1 then
      f_SC_output_22 M_2
    else
      if x2 ≤ 32 then
        hm_st M_2 1 5 x1 (fun M_7 => hm_st M_7 1 6 x2 (fun M_8 => hm_bV (f_SC_forgetCompiled M_8 ) (fun M_10 => some (0, M_10))))
      else
        f_SC_output_22 M_2)
def f_SC_compile (M : hm_M) : Option (Int32 × hm_M) :=
  if (M 0 3) = 0 then
    hm_bI (f_Plan_draw M ) (fun r2 M_3 => if r2 = 0 then
      hm_st M_3 0 3 1 (fun M_6 => some ((M_6 37 5), M_6))
    else
      some (r2, M_3))
  else
    some ((-3), M)
def f_SC_run (rl : Nat) (M : hm_M) : Option (Int32 × hm_M) :=
  if (M 0 3) = 0 then
    some ((-3), M)
  else
    hm_bV (f_Runner_runSchedule rl M 38) (fun M_3 => hm_st M_3 0 4 1 (fun M_5 => hm_bI (f_Pipe_tileCount M_5 ) (fun r6 M_7 => some (r6, M_7))))
def f_SC_cell_22 (M : hm_M) : Option (Int64 × hm_M) :=
  some ((-1000000000000 : Int64), M)
def f_SC_cell (M : hm_M) (x1 : Int32) : Option (Int64 × hm_M) :=
  if (M 0 4) = 0 then
    f_SC_cell_22 M
  else
    if x1 < 0 then
      f_SC_cell_22 M
    else
      if x1 < (M 1 6) then
        hm_gd (hm_ix x1 32) (some ((M 63 x1.toNatClampNeg).toInt64, M))
      else
        f_SC_cell_22 M
def f_SC_at_37 (rl : Nat) (M : hm_M) : Option (Int64 × hm_M) :=
  some ((-1000000000000 : Int64), M)
def f_SC_at (rl : Nat) (M : hm_M) (x1 : Int32) (x2 : Int32) : Option (Int64 × hm_M) :=
  hm_bI (f_Pipe_hasStage M x1) (fun r1 M_2 => if r1 = 0 then
    f_SC_at_37 rl M_2
  else
    if x2 < (-100) then
      f_SC_at_37 rl M_2
    else
      if 100 < x2 then
        f_SC_at_37 rl M_2
      else
        hm_bI (f_Pipe_valuesWorkedOutFor M_2 x1) (fun r7 M_8 => if r7 ≤ 3000 then
          hm_bI (f_Runner_workOut rl 9 M_8 x1 x2) (fun r11 M_12 => some (r11.toInt64, M_12))
        else
          f_SC_at_37 rl M_8))
def f_SC_region_37 (M : hm_M) : Option (Int32 × hm_M) :=
  some ((-2000), M)
def f_SC_region_72 (y0 : Int32) (M : hm_M) : Option (Int32 × hm_M) :=
  some (y0, M)
def f_SC_region (M : hm_M) (x1 : Int32) (x2 : Int32) : Option (Int32 × hm_M) :=
  if (M 0 3) = 0 then
    some ((-1000), M)
  else
    hm_bI (f_Pipe_hasStage M x1) (fun r2 M_3 => if r2 = 0 then
      f_SC_region_37 M_3
    else
      hm_gd (hm_ix x1 8) (if (M_3 39 x1.toNatClampNeg) = 0 then
        f_SC_region_37 M_3
      else
        if x2 = 0 then
          hm_gd (hm_ix x1 8) (f_SC_region_72 (M_3 40 x1.toNatClampNeg) M_3)
        else
          hm_gd (hm_ix x1 8) (f_SC_region_72 (M_3 41 x1.toNatClampNeg) M_3)))
def f_SC_work_34 (y0 : Int32) (M : hm_M) : Option (Int32 × hm_M) :=
  some (y0, M)
def f_SC_work (M : hm_M) (x1 : Int32) : Option (Int32 × hm_M) :=
  hm_bI (f_Pipe_hasStage M x1) (fun r1 M_2 => if r1 = 0 then
    some ((-1), M_2)
  else
    if (M_2 0 3) = 0 then
      f_SC_work_34 (-3) M_2
    else
      hm_gd (hm_ix x1 8) (f_SC_work_34 (M_2 47 x1.toNatClampNeg) M_2))
def f_SC_count_64 (y0 : Int32) (M : hm_M) : Option (Int32 × hm_M) :=
  some (y0, M)
def f_SC_count_83 (y0 : Int32) (M : hm_M) : Option (Int32 × hm_M) :=
  some (y0, M)
def f_SC_count_102 (y0 : Int32) (M : hm_M) : Option (Int32 × hm_M) :=
  some (y0, M)
def f_SC_count_121 (y0 : Int32) (M : hm_M) : Option (Int32 × hm_M) :=
  some (y0, M)
def f_SC_count_140 (y0 : Int32) (M : hm_M) : Option (Int32 × hm_M) :=
  some (y0, M)
def f_SC_count_159 (y0 : Int32) (M : hm_M) : Option (Int32 × hm_M) :=
  some (y0, M)
def f_SC_count (M : hm_M) (x1 : Int32) : Option (Int32 × hm_M) :=
  if x1 = 0 then
    some ((M 1 3), M)
  else if x1 = 1 then
    if (M 0 3) = 0 then
      f_SC_count_64 0 M
    else
      f_SC_count_64 1 M
  else if x1 = 2 then
    if (M 0 3) = 0 then
      f_SC_count_83 0 M
    else
      f_SC_count_83 (M 37 6) M
  else if x1 = 3 then
    if (M 0 3) = 0 then
      f_SC_count_102 0 M
    else
      hm_bI (f_Plan_usedCount M ) (fun r8 M_9 => f_SC_count_102 r8 M_9)
  else if x1 = 4 then
    if (M 0 3) = 0 then
      f_SC_count_121 0 M
    else
      hm_bI (f_Pipe_tileCount M ) (fun r13 M_14 => f_SC_count_121 r13 M_14)
  else if x1 = 5 then
    if (M 0 3) = 0 then
      f_SC_count_140 0 M
    else
      f_SC_count_140 (M 37 7) M
  else if x1 = 6 then
    if (M 0 3) = 0 then
      f_SC_count_159 0 M
    else
      f_SC_count_159 (M 37 5) M
  else some ((-1), M)
end
section
set_option maxHeartbeats 4000000 in
set_option maxRecDepth 100000 in
theorem w_Math_floorDiv_21 {p : Program} {l : Launch} {e : Env} {s : State} {m : MethodId} {args : Array Value} {below : List Frame} {meth : Method} {c : Code} {D : va_G} {ca : Nat → ClassId} {B rl : Nat} {r : Int32} {M9 : hm_M} (X : hq_X p s m args meth c b_Math_floorDiv R_Math 3 (some .int) D sc_cl (sc_ty ca) hq_tb) : ∀ (x2 : Int32), ∀ (M : hm_M) (H : Heap) (locs : List Loc) (ls : Array Slot), lv_has ls 3 [(2, .int x2)] → hm_P D sc_cl ca 64 (sc_sh rl) B M hm_L0 H → va_S (hm_A B 64) s.heap H locs → f_Math_floorDiv_21 x2 M = some (r, M9) → W p l e ({ frames := 0, cells := 0, slots := 0, locals := 0 } : Room) s m args below meth c H locs 0 0 (MQ below (hq_QI D sc_cl ca 64 (sc_sh rl) B r M9 hm_L0) args s 0 0 (hm_A B 64)) (F0 m 21 ls []) := by
  obtain ⟨hx, hb, hml, hown, hr, hlk, hKt⟩ := id X
  have hK := hKt.1
  have hts : ∀ w ∈ hq_tb, w.before args s = true := fun w h => hKt.2.2 w h args
  intro x2 M H locs ls hl hP hS hf
  unfold f_Math_floorDiv_21 at hf
  refine lv_iload_n hx hb d_Math_floorDiv_21 rfl (lv_at hl 0 rfl) ?_
  obtain ⟨h9, h8⟩ := Prod.mk.inj (Option.some.inj hf)
  subst h9
  subst h8
  exact W.iret hx hb hr (fun t ht _ => ⟨⟨_, (), rfl, rfl, by subst ht; exact hP⟩, hS.F ht⟩) hS.2.2 d_Math_floorDiv_22 hlk
set_option maxHeartbeats 4000000 in
set_option maxRecDepth 100000 in
theorem w_Math_floorDiv_e {p : Program} {l : Launch} {e : Env} {s : State} {m : MethodId} {args : Array Value} {below : List Frame} {meth : Method} {c : Code} {D : va_G} {ca : Nat → ClassId} {B rl : Nat} {r : Int32} {M9 : hm_M} (X : hq_X p s m args meth c b_Math_floorDiv R_Math 3 (some .int) D sc_cl (sc_ty ca) hq_tb) : ∀ (x0 : Int32), ∀ (x1 : Int32), ∀ (M : hm_M) (H : Heap) (locs : List Loc) (ls : Array Slot), lv_has ls 3 [(0, .int x0), (1, .int x1)] → hm_P D sc_cl ca 64 (sc_sh rl) B M hm_L0 H → va_S (hm_A B 64) s.heap H locs → f_Math_floorDiv M x0 x1 = some (r, M9) → W p l e ({ frames := 0, cells := 0, slots := 0, locals := 0 } : Room) s m args below meth c H locs 0 0 (MQ below (hq_QI D sc_cl ca 64 (sc_sh rl) B r M9 hm_L0) args s 0 0 (hm_A B 64)) (F0 m 0 ls []) := by
  obtain ⟨hx, hb, hml, hown, hr, hlk, hKt⟩ := id X
  have hK := hKt.1
  have hts : ∀ w ∈ hq_tb, w.before args s = true := fun w h => hKt.2.2 w h args
  intro x0 x1 M H locs ls hl hP hS hf
  unfold f_Math_floorDiv at hf
  refine lv_iload_n hx hb d_Math_floorDiv_0 rfl (lv_at hl 0 rfl) ?_
  refine lv_iload_n hx hb d_Math_floorDiv_1 rfl (lv_at hl 1 rfl) ?_
  obtain ⟨g1, hf⟩ := hm_gd_some hf
  refine lv_idiv hx hb d_Math_floorDiv_2 (of_decide_eq_true g1) ?_
  refine lv_istore_n (lv' := [(2, .int (x0 / x1)), (0, .int x0), (1, .int x1)]) hx hb d_Math_floorDiv_3 rfl hl (by decide) rfl (fun ls hl => ?_)
  refine lv_iload_n hx hb d_Math_floorDiv_4 rfl (lv_at hl 1 rfl) ?_
  refine lv_iload_n hx hb d_Math_floorDiv_5 rfl (lv_at hl 2 rfl) ?_
  refine lv_ixor hx hb d_Math_floorDiv_6 ?_
  refine lv_if_ge (tgt := 21) hx hb d_Math_floorDiv_7 (by decide) (fun c2 => ?_) (fun c2 => ?_)
  · replace hf := (if_pos c2).symm.trans hf
    exact w_Math_floorDiv_21 X _ _ _ _ _ (lv_sub hl [0] rfl) hP hS hf
  · replace hf := (if_neg c2).symm.trans hf
    refine lv_iload_n hx hb d_Math_floorDiv_10 rfl (lv_at hl 0 rfl) ?_
    refine lv_iload_n hx hb d_Math_floorDiv_11 rfl (lv_at hl 2 rfl) ?_
    refine lv_imul hx hb d_Math_floorDiv_12 ?_
    refine lv_iload_n hx hb d_Math_floorDiv_13 rfl (lv_at hl 1 rfl) ?_
    refine lv_icmp_eq (tgt := 21) hx hb d_Math_floorDiv_14 (by decide) (fun c3 => ?_) (fun c3 => ?_)
    · replace hf := (if_pos c3).symm.trans hf
      exact w_Math_floorDiv_21 X _ _ _ _ _ (lv_sub hl [0] rfl) hP hS hf
    · replace hf := (if_neg c3).symm.trans hf
      refine lv_iload_n hx hb d_Math_floorDiv_17 rfl (lv_at hl 0 rfl) ?_
      refine lv_iconst (v := 1) hx hb d_Math_floorDiv_18 (by decide) ?_
      refine lv_isub hx hb d_Math_floorDiv_19 ?_
      obtain ⟨h9, h8⟩ := Prod.mk.inj (Option.some.inj hf)
      subst h9
      subst h8
      exact W.iret hx hb hr (fun t ht _ => ⟨⟨_, (), rfl, rfl, by subst ht; exact hP⟩, hS.F ht⟩) hS.2.2 d_Math_floorDiv_20 hlk
set_option maxHeartbeats 4000000 in
set_option maxRecDepth 100000 in
theorem c_Math_floorDiv {l : Launch} {D : va_G} {ca : Nat → ClassId} {B rl : Nat} {r : Int32} {x0 : Int32} {x1 : Int32} {M M9 : hm_M} (hf : f_Math_floorDiv M x0 x1 = some (r, M9)) : Met l y_Math_floorDiv [Cond.code y_Math_floorDiv b_Math_floorDiv 3 (some .int)] ({ frames := 0, cells := 0, slots := 0, locals := 0 } : Room) (hq_Pre D sc_cl ca 64 (sc_sh rl) B (sc_ty ca) hq_tb M hm_L0 [.int x0, .int x1]) (hq_QI D sc_cl ca 64 (sc_sh rl) B r M9 hm_L0) 0 0 (hm_A B 64) := by
  refine va_MetF (cc := b_Math_floorDiv) (maxL := 3) (ret := (some .int)) (by decide +kernel) rfl ?_
  intro p e s m args below meth c s₁ Bd hml hv
  obtain ⟨rfl, hP, hK⟩ := hv
  have hl := lv_entry ([.int x0, .int x1]) (n := 3) (Nat.le_of_ble_eq_true rfl)
  rw [lg_entry_eq]
  generalize (lg_sl ([.int x0, .int x1]) ++ List.replicate (3 - (lg_sl ([.int x0, .int x1])).length) Slot.unset).toArray = ls at hl ⊢
  have hl : lv_has ls 3 [(0, .int x0), (1, .int x1)] := hl
  exact w_Math_floorDiv_e ⟨Bd.exec, Bd.bytes, hml, findClass_of_methodNamed Bd.named, Bd.returns, Bd.notSynchronized, hK⟩  _ _ _ _ _ _ hl hP va_S.rf hf
set_option maxHeartbeats 4000000 in
set_option maxRecDepth 100000 in
theorem w_Arrays_fill_5 {p : Program} {l : Launch} {e : Env} {s : State} {m : MethodId} {args : Array Value} {below : List Frame} {meth : Method} {c : Code} {D : va_G} {ca : Nat → ClassId} {B rl : Nat} {M9 : hm_M} (X : hq_X p s m args meth c b_Arrays_fill R_Arrays 4 none D sc_cl (sc_ty ca) hq_tb) : ∀ (n : Nat), ∀ (a0 : Nat), ∀ (x1 : Int32), ∀ (x2 : Int32), ∀ (x3 : Int32), sc_kd a0 = 3 → ∀ (M : hm_M) (H : Heap) (locs : List Loc) (ls : Array Slot), lv_has ls 4 [(0, .ref (B + a0)), (1, .int x1), (2, .int x2), (3, .int x3)] → hm_P D sc_cl ca 64 (sc_sh rl) B M hm_L0 H → va_S (hm_A B 64) s.heap H locs → f_Arrays_fill_5 n a0 x1 x2 x3 M = some M9 → W p l e ({ frames := 0, cells := 0, slots := 0, locals := 0 } : Room) s m args below meth c H locs 0 0 (MQ below (hq_QV D sc_cl ca 64 (sc_sh rl) B M9 hm_L0) args s 0 0 (hm_A B 64)) (F0 m 5 ls []) := by
  obtain ⟨hx, hb, hml, hown, hr, hlk, hKt⟩ := id X
  have hK := hKt.1
  have hts : ∀ w ∈ hq_tb, w.before args s = true := fun w h => hKt.2.2 w h args
  intro n
  induction n with
  | zero =>
    intro a0 x1 x2 x3 h_a0 M H locs ls hl hP hS hf
    cases hf
  | succ n ih =>
    intro a0 x1 x2 x3 h_a0 M H locs ls hl hP hS hf
    rw [f_Arrays_fill_5] at hf
    refine lv_iload_n hx hb d_Arrays_fill_5 rfl (lv_at hl 2 rfl) ?_
    refine lv_iload_n hx hb d_Arrays_fill_6 rfl (lv_at hl 3 rfl) ?_
    refine lv_icmp_ge (tgt := 20) hx hb d_Arrays_fill_7 (by decide) (fun c1 => ?_) (fun c1 => ?_)
    · replace hf := (if_pos c1).symm.trans hf
      have h8 := Option.some.inj hf
      subst h8
      exact W.vret hx hb hr (fun t ht _ => ⟨⟨(), rfl, trivial, by subst ht; exact hP⟩, hS.F ht⟩) hS.2.2 d_Arrays_fill_20 hlk
    · replace hf := (if_neg c1).symm.trans hf
      refine lv_aload_n hx hb d_Arrays_fill_10 rfl (lv_at hl 0 rfl) ?_
      refine lv_iload_n hx hb d_Arrays_fill_11 rfl (lv_at hl 2 rfl) ?_
      refine lv_iload_n hx hb d_Arrays_fill_12 rfl (lv_at hl 1 rfl) ?_
      obtain ⟨g2, hf⟩ := hm_gd_some hf
      refine hq_iast hx hb hK hP hS a0 (sc_lt h_a0 (by decide)) (sc_s_ia8 (h_a0)) 0 rfl g2 d_Arrays_fill_13 (fun H locs hP hS => ?_)
      obtain ⟨M_3, e_3, hf⟩ := hm_st_some hf
      rw [← e_3] at hP
      refine lv_iinc (v := (x2 + 1)) (lv' := [(2, .int (x2 + 1)), (0, .ref (B + a0)), (1, .int x1), (3, .int x3)]) hx hb d_Arrays_fill_14 hl (k := 2) rfl rfl (by decide) rfl (fun ls hl => ?_)
      refine lv_goto (tgt := 5) hx hb d_Arrays_fill_17 (by decide) ?_
      exact ih _ _ _ _ h_a0 _ _ _ _ (lv_sub hl [1, 2, 0, 3] rfl) hP hS hf
set_option maxHeartbeats 4000000 in
set_option maxRecDepth 100000 in
theorem w_Arrays_fill_e {p : Program} {l : Launch} {e : Env} {s : State} {m : MethodId} {args : Array Value} {below : List Frame} {meth : Method} {c : Code} {D : va_G} {ca : Nat → ClassId} {B rl : Nat} {M9 : hm_M} (X : hq_X p s m args meth c b_Arrays_fill R_Arrays 4 none D sc_cl (sc_ty ca) hq_tb) : ∀ (a0 : Nat), ∀ (x1 : Int32), sc_kd a0 = 3 → ∀ (M : hm_M) (H : Heap) (locs : List Loc) (ls : Array Slot), lv_has ls 4 [(0, .ref (B + a0)), (1, .int x1)] → hm_P D sc_cl ca 64 (sc_sh rl) B M hm_L0 H → va_S (hm_A B 64) s.heap H locs → f_Arrays_fill M a0 x1 = some M9 → W p l e ({ frames := 0, cells := 0, slots := 0, locals := 0 } : Room) s m args below meth c H locs 0 0 (MQ below (hq_QV D sc_cl ca 64 (sc_sh rl) B M9 hm_L0) args s 0 0 (hm_A B 64)) (F0 m 0 ls []) := by
  obtain ⟨hx, hb, hml, hown, hr, hlk, hKt⟩ := id X
  have hK := hKt.1
  have hts : ∀ w ∈ hq_tb, w.before args s = true := fun w h => hKt.2.2 w h args
  intro a0 x1 h_a0 M H locs ls hl hP hS hf
  unfold f_Arrays_fill at hf
  refine lv_iconst (v := 0) hx hb d_Arrays_fill_0 (by decide) ?_
  refine lv_istore_n (lv' := [(2, .int 0), (0, .ref (B + a0)), (1, .int x1)]) hx hb d_Arrays_fill_1 rfl hl (by decide) rfl (fun ls hl => ?_)
  refine lv_aload_n hx hb d_Arrays_fill_2 rfl (lv_at hl 1 rfl) ?_
  refine hq_alen hx hb hK hP a0 (sc_lt h_a0 (by decide)) (sc_s_ia8 (h_a0)) 0 rfl (v := 8) rfl d_Arrays_fill_3 ?_
  refine lv_istore_n (lv' := [(3, .int 8), (2, .int 0), (0, .ref (B + a0)), (1, .int x1)]) hx hb d_Arrays_fill_4 rfl hl (by decide) rfl (fun ls hl => ?_)
  exact w_Arrays_fill_5 X _ _ _ _ _ h_a0 _ _ _ _ (lv_sub hl [2, 3, 1, 0] rfl) hP hS hf
set_option maxHeartbeats 4000000 in
set_option maxRecDepth 100000 in
theorem c_Arrays_fill {l : Launch} {D : va_G} {ca : Nat → ClassId} {B rl : Nat} {a0 : Nat} {x1 : Int32} (h_a0 : sc_kd a0 = 3) {M M9 : hm_M} (hf : f_Arrays_fill M a0 x1 = some M9) : Met l y_Arrays_fill [Cond.code y_Arrays_fill b_Arrays_fill 4 none] ({ frames := 0, cells := 0, slots := 0, locals := 0 } : Room) (hq_Pre D sc_cl ca 64 (sc_sh rl) B (sc_ty ca) hq_tb M hm_L0 [.ref (B + a0), .int x1]) (hq_QV D sc_cl ca 64 (sc_sh rl) B M9 hm_L0) 0 0 (hm_A B 64) := by
  refine va_MetF (cc := b_Arrays_fill) (maxL := 4) (ret := none) (by decide +kernel) rfl ?_
  intro p e s m args below meth c s₁ Bd hml hv
  obtain ⟨rfl, hP, hK⟩ := hv
  have hl := lv_entry ([.ref (B + a0), .int x1]) (n := 4) (Nat.le_of_ble_eq_true rfl)
  rw [lg_entry_eq]
  generalize (lg_sl ([.ref (B + a0), .int x1]) ++ List.replicate (4 - (lg_sl ([.ref (B + a0), .int x1])).length) Slot.unset).toArray = ls at hl ⊢
  have hl : lv_has ls 4 [(0, .ref (B + a0)), (1, .int x1)] := hl
  exact w_Arrays_fill_e ⟨Bd.exec, Bd.bytes, hml, findClass_of_methodNamed Bd.named, Bd.returns, Bd.notSynchronized, hK⟩  _ _ h_a0 _ _ _ _ hl hP va_S.rf hf
set_option maxHeartbeats 4000000 in
set_option maxRecDepth 100000 in
theorem w_Needs_widen_57 {p : Program} {l : Launch} {e : Env} {s : State} {m : MethodId} {args : Array Value} {below : List Frame} {meth : Method} {c : Code} {D : va_G} {ca : Nat → ClassId} {B rl : Nat} {M9 : hm_M} (X : hq_X p s m args meth c b_Needs_widen R_Needs 4 none D sc_cl (sc_ty ca) hq_tb) : ∀ (a0 : Nat), ∀ (x1 : Int32), ∀ (b0 : Nat), ∀ (y1 : Int32), ∀ (y2 : Int32), sc_kd a0 = 8 → sc_kd b0 = 3 → ∀ (M : hm_M) (H : Heap) (locs : List Loc) (ls : Array Slot), lv_has ls 4 [(0, .ref (B + a0)), (1, .int x1)] → hm_P D sc_cl ca 64 (sc_sh rl) B M hm_L0 H → va_S (hm_A B 64) s.heap H locs → f_Needs_widen_57 a0 x1 b0 y1 y2 M = some M9 → W p l e ({ frames := 1, cells := 0, slots := 0, locals := 21 } : Room) s m args below meth c H locs 0 0 (MQ below (hq_QV D sc_cl ca 64 (sc_sh rl) B M9 hm_L0) args s 0 0 (hm_A B 64)) (F0 m 57 ls [.int y2, .int y1, .ref (B + b0)]) := by
  obtain ⟨hx, hb, hml, hown, hr, hlk, hKt⟩ := id X
  have hK := hKt.1
  have hts : ∀ w ∈ hq_tb, w.before args s = true := fun w h => hKt.2.2 w h args
  intro a0 x1 b0 y1 y2 h_a0 h_b0 M H locs ls hl hP hS hf
  unfold f_Needs_widen_57 at hf
  obtain ⟨g1, hf⟩ := hm_gd_some hf
  refine hq_iast hx hb hK hP hS b0 (sc_lt h_b0 (by decide)) (sc_s_ia8 (h_b0)) 0 rfl g1 d_Needs_widen_57 (fun H locs hP hS => ?_)
  obtain ⟨M_2, e_2, hf⟩ := hm_st_some hf
  rw [← e_2] at hP
  refine lv_aload_n hx hb d_Needs_widen_58 rfl (lv_at hl 0 rfl) ?_
  refine hq_get hx hb hts i_Needs hown hK hP a0 (sc_lt h_a0 (by decide)) (sc_s_Needs (h_a0)) rfl 0 (by decide) (hts _ sc_wd_1) (fun _ h => h) (v := .ref (B + (a0 + 1))) rfl d_Needs_widen_59 ?_
  refine lv_iload_n hx hb d_Needs_widen_62 rfl (lv_at hl 1 rfl) ?_
  refine lv_iconst (v := 1) hx hb d_Needs_widen_63 (by decide) ?_
  obtain ⟨g3, hf⟩ := hm_gd_some hf
  refine hq_zast hx hb hK hP hS (a0 + 1) (sc_lt (sck_Needs1 h_a0) (by decide)) (sc_s_za8 ((sck_Needs1 h_a0))) 1 rfl g3 (Or.inr rfl) d_Needs_widen_64 (fun H locs hP hS => ?_)
  obtain ⟨M_4, e_4, hf⟩ := hm_st_some hf
  rw [← e_4] at hP
  have h8 := Option.some.inj hf
  subst h8
  exact W.vret hx hb hr (fun t ht _ => ⟨⟨(), rfl, trivial, by subst ht; exact hP⟩, hS.F ht⟩) hS.2.2 d_Needs_widen_65 hlk
set_option maxHeartbeats 4000000 in
set_option maxRecDepth 100000 in
theorem w_Needs_widen_28 {p : Program} {l : Launch} {e : Env} {s : State} {m : MethodId} {args : Array Value} {below : List Frame} {meth : Method} {c : Code} {D : va_G} {ca : Nat → ClassId} {B rl : Nat} {M9 : hm_M} (X : hq_X p s m args meth c b_Needs_widen R_Needs 4 none D sc_cl (sc_ty ca) hq_tb) : ∀ (a0 : Nat), ∀ (x1 : Int32), ∀ (x3 : Int32), ∀ (b0 : Nat), ∀ (y1 : Int32), ∀ (y2 : Int32), sc_kd a0 = 8 → sc_kd b0 = 3 → ∀ (M : hm_M) (H : Heap) (locs : List Loc) (ls : Array Slot), lv_has ls 4 [(0, .ref (B + a0)), (1, .int x1), (3, .int x3)] → hm_P D sc_cl ca 64 (sc_sh rl) B M hm_L0 H → va_S (hm_A B 64) s.heap H locs → f_Needs_widen_28 a0 x1 x3 b0 y1 y2 M = some M9 → W p l e ({ frames := 1, cells := 0, slots := 0, locals := 21 } : Room) s m args below meth c H locs 0 0 (MQ below (hq_QV D sc_cl ca 64 (sc_sh rl) B M9 hm_L0) args s 0 0 (hm_A B 64)) (F0 m 28 ls [.int y2, .int y1, .ref (B + b0)]) := by
  obtain ⟨hx, hb, hml, hown, hr, hlk, hKt⟩ := id X
  have hK := hKt.1
  have hts : ∀ w ∈ hq_tb, w.before args s = true := fun w h => hKt.2.2 w h args
  intro a0 x1 x3 b0 y1 y2 h_a0 h_b0 M H locs ls hl hP hS hf
  unfold f_Needs_widen_28 at hf
  obtain ⟨g1, hf⟩ := hm_gd_some hf
  refine hq_iast hx hb hK hP hS b0 (sc_lt h_b0 (by decide)) (sc_s_ia8 (h_b0)) 0 rfl g1 d_Needs_widen_28 (fun H locs hP hS => ?_)
  obtain ⟨M_2, e_2, hf⟩ := hm_st_some hf
  rw [← e_2] at hP
  refine lv_aload_n hx hb d_Needs_widen_29 rfl (lv_at hl 0 rfl) ?_
  refine hq_get hx hb hts i_Needs hown hK hP a0 (sc_lt h_a0 (by decide)) (sc_s_Needs (h_a0)) rfl 2 (by decide) (hts _ sc_wd_6) (fun _ h => h) (v := .ref (B + (a0 + 3))) rfl d_Needs_widen_30 ?_
  refine lv_iload_n hx hb d_Needs_widen_33 rfl (lv_at hl 1 rfl) ?_
  refine lv_aload_n hx hb d_Needs_widen_34 rfl (lv_at hl 0 rfl) ?_
  refine hq_get hx hb hts i_Needs hown hK hP a0 (sc_lt h_a0 (by decide)) (sc_s_Needs (h_a0)) rfl 0 (by decide) (hts _ sc_wd_1) (fun _ h => h) (v := .ref (B + (a0 + 1))) rfl d_Needs_widen_35 ?_
  refine lv_iload_n hx hb d_Needs_widen_38 rfl (lv_at hl 1 rfl) ?_
  obtain ⟨g3, hf⟩ := hm_gd_some hf
  refine hq_zald hx hb hK hP (a0 + 1) (sc_lt (sck_Needs1 h_a0) (by decide)) (sc_s_za8 ((sck_Needs1 h_a0))) 1 rfl g3 d_Needs_widen_39 ?_
  refine lv_if_eq (tgt := 56) hx hb d_Needs_widen_40 (by decide) (fun c4 => ?_) (fun c4 => ?_)
  · replace hf := (if_pos c4).symm.trans hf
    refine lv_iload_n hx hb d_Needs_widen_56 rfl (lv_at hl 2 rfl) ?_
    exact w_Needs_widen_57 X _ _ _ _ _ h_a0 (sck_Needs3 h_a0) _ _ _ _ (lv_sub hl [0, 1] rfl) hP hS hf
  · replace hf := (if_neg c4).symm.trans hf
    refine lv_aload_n hx hb d_Needs_widen_43 rfl (lv_at hl 0 rfl) ?_
    refine hq_get hx hb hts i_Needs hown hK hP a0 (sc_lt h_a0 (by decide)) (sc_s_Needs (h_a0)) rfl 2 (by decide) (hts _ sc_wd_6) (fun _ h => h) (v := .ref (B + (a0 + 3))) rfl d_Needs_widen_44 ?_
    refine lv_iload_n hx hb d_Needs_widen_47 rfl (lv_at hl 1 rfl) ?_
    obtain ⟨g5, hf⟩ := hm_gd_some hf
    refine hq_iald hx hb hK hP (a0 + 3) (sc_lt (sck_Needs3 h_a0) (by decide)) (sc_s_ia8 ((sck_Needs3 h_a0))) 0 rfl g5 d_Needs_widen_48 ?_
    refine lv_iload_n hx hb d_Needs_widen_49 rfl (lv_at hl 2 rfl) ?_
    refine va_mmax hx hb (hml.trans hl.1.symm) hown (hts _ sc_wd_7) (hts _ sc_wd_8) (hts _ sc_wd_4) (hts _ sc_wd_9) (Nat.le_of_ble_eq_true rfl) (Nat.le_of_ble_eq_true rfl) (Nat.le_of_ble_eq_true rfl) (Nat.le_of_ble_eq_true rfl) d_Needs_widen_50 ?_
    refine lv_goto (tgt := 57) hx hb d_Needs_widen_53 (by decide) ?_
    exact w_Needs_widen_57 X _ _ _ _ _ h_a0 (sck_Needs3 h_a0) _ _ _ _ (lv_sub hl [0, 1] rfl) hP hS hf
set_option maxHeartbeats 4000000 in
set_option maxRecDepth 100000 in
theorem w_Needs_widen_e {p : Program} {l : Launch} {e : Env} {s : State} {m : MethodId} {args : Array Value} {below : List Frame} {meth : Method} {c : Code} {D : va_G} {ca : Nat → ClassId} {B rl : Nat} {M9 : hm_M} (X : hq_X p s m args meth c b_Needs_widen R_Needs 4 none D sc_cl (sc_ty ca) hq_tb) : ∀ (a0 : Nat), ∀ (x1 : Int32), ∀ (x2 : Int32), ∀ (x3 : Int32), sc_kd a0 = 8 → ∀ (M : hm_M) (H : Heap) (locs : List Loc) (ls : Array Slot), lv_has ls 4 [(0, .ref (B + a0)), (1, .int x1), (2, .int x2), (3, .int x3)] → hm_P D sc_cl ca 64 (sc_sh rl) B M hm_L0 H → va_S (hm_A B 64) s.heap H locs → f_Needs_widen M a0 x1 x2 x3 = some M9 → W p l e ({ frames := 1, cells := 0, slots := 0, locals := 21 } : Room) s m args below meth c H locs 0 0 (MQ below (hq_QV D sc_cl ca 64 (sc_sh rl) B M9 hm_L0) args s 0 0 (hm_A B 64)) (F0 m 0 ls []) := by
  obtain ⟨hx, hb, hml, hown, hr, hlk, hKt⟩ := id X
  have hK := hKt.1
  have hts : ∀ w ∈ hq_tb, w.before args s = true := fun w h => hKt.2.2 w h args
  intro a0 x1 x2 x3 h_a0 M H locs ls hl hP hS hf
  unfold f_Needs_widen at hf
  refine lv_aload_n hx hb d_Needs_widen_0 rfl (lv_at hl 0 rfl) ?_
  refine hq_get hx hb hts i_Needs hown hK hP a0 (sc_lt h_a0 (by decide)) (sc_s_Needs (h_a0)) rfl 1 (by decide) (hts _ sc_wd_0) (fun _ h => h) (v := .ref (B + (a0 + 2))) rfl d_Needs_widen_1 ?_
  refine lv_iload_n hx hb d_Needs_widen_4 rfl (lv_at hl 1 rfl) ?_
  refine lv_aload_n hx hb d_Needs_widen_5 rfl (lv_at hl 0 rfl) ?_
  refine hq_get hx hb hts i_Needs hown hK hP a0 (sc_lt h_a0 (by decide)) (sc_s_Needs (h_a0)) rfl 0 (by decide) (hts _ sc_wd_1) (fun _ h => h) (v := .ref (B + (a0 + 1))) rfl d_Needs_widen_6 ?_
  refine lv_iload_n hx hb d_Needs_widen_9 rfl (lv_at hl 1 rfl) ?_
  obtain ⟨g1, hf⟩ := hm_gd_some hf
  refine hq_zald hx hb hK hP (a0 + 1) (sc_lt (sck_Needs1 h_a0) (by decide)) (sc_s_za8 ((sck_Needs1 h_a0))) 1 rfl g1 d_Needs_widen_10 ?_
  refine lv_if_eq (tgt := 27) hx hb d_Needs_widen_11 (by decide) (fun c2 => ?_) (fun c2 => ?_)
  · replace hf := (if_pos c2).symm.trans hf
    refine lv_iload_n hx hb d_Needs_widen_27 rfl (lv_at hl 2 rfl) ?_
    exact w_Needs_widen_28 X _ _ _ _ _ _ h_a0 (sck_Needs2 h_a0) _ _ _ _ (lv_sub hl [0, 1, 3] rfl) hP hS hf
  · replace hf := (if_neg c2).symm.trans hf
    refine lv_aload_n hx hb d_Needs_widen_14 rfl (lv_at hl 0 rfl) ?_
    refine hq_get hx hb hts i_Needs hown hK hP a0 (sc_lt h_a0 (by decide)) (sc_s_Needs (h_a0)) rfl 1 (by decide) (hts _ sc_wd_0) (fun _ h => h) (v := .ref (B + (a0 + 2))) rfl d_Needs_widen_15 ?_
    refine lv_iload_n hx hb d_Needs_widen_18 rfl (lv_at hl 1 rfl) ?_
    obtain ⟨g3, hf⟩ := hm_gd_some hf
    refine hq_iald hx hb hK hP (a0 + 2) (sc_lt (sck_Needs2 h_a0) (by decide)) (sc_s_ia8 ((sck_Needs2 h_a0))) 0 rfl g3 d_Needs_widen_19 ?_
    refine lv_iload_n hx hb d_Needs_widen_20 rfl (lv_at hl 2 rfl) ?_
    refine va_mmin hx hb (hml.trans hl.1.symm) hown (hts _ sc_wd_2) (hts _ sc_wd_3) (hts _ sc_wd_4) (hts _ sc_wd_5) (Nat.le_of_ble_eq_true rfl) (Nat.le_of_ble_eq_true rfl) (Nat.le_of_ble_eq_true rfl) (Nat.le_of_ble_eq_true rfl) d_Needs_widen_21 ?_
    refine lv_goto (tgt := 28) hx hb d_Needs_widen_24 (by decide) ?_
    exact w_Needs_widen_28 X _ _ _ _ _ _ h_a0 (sck_Needs2 h_a0) _ _ _ _ (lv_sub hl [0, 1, 3] rfl) hP hS hf
set_option maxHeartbeats 4000000 in
set_option maxRecDepth 100000 in
theorem c_Needs_widen {l : Launch} {D : va_G} {ca : Nat → ClassId} {B rl : Nat} {a0 : Nat} {x1 : Int32} {x2 : Int32} {x3 : Int32} (h_a0 : sc_kd a0 = 8) {M M9 : hm_M} (hf : f_Needs_widen M a0 x1 x2 x3 = some M9) : Met l y_Needs_widen [Cond.code y_Needs_widen b_Needs_widen 4 none] ({ frames := 1, cells := 0, slots := 0, locals := 21 } : Room) (hq_Pre D sc_cl ca 64 (sc_sh rl) B (sc_ty ca) hq_tb M hm_L0 [.ref (B + a0), .int x1, .int x2, .int x3]) (hq_QV D sc_cl ca 64 (sc_sh rl) B M9 hm_L0) 0 0 (hm_A B 64) := by
  refine Met.ofW (cc := b_Needs_widen) (maxL := 4) (ret := none) (by decide +kernel) rfl ?_
  intro p e s m args below meth c s₁ Bd hml hv
  obtain ⟨rfl, hP, hK⟩ := hv
  have hl := lv_entry ([.ref (B + a0), .int x1, .int x2, .int x3]) (n := 4) (Nat.le_of_ble_eq_true rfl)
  rw [lg_entry_eq]
  generalize (lg_sl ([.ref (B + a0), .int x1, .int x2, .int x3]) ++ List.replicate (4 - (lg_sl ([.ref (B + a0), .int x1, .int x2, .int x3])).length) Slot.unset).toArray = ls at hl ⊢
  have hl : lv_has ls 4 [(0, .ref (B + a0)), (1, .int x1), (2, .int x2), (3, .int x3)] := hl
  exact w_Needs_widen_e ⟨Bd.exec, Bd.bytes, hml, findClass_of_methodNamed Bd.named, Bd.returns, Bd.notSynchronized, hK⟩  _ _ _ _ h_a0 _ _ _ _ hl hP va_S.rf hf
set_option maxHeartbeats 4000000 in
set_option maxRecDepth 100000 in
theorem w_Needs_handOn_52 {p : Program} {l : Launch} {e : Env} {s : State} {m : MethodId} {args : Array Value} {below : List Frame} {meth : Method} {c : Code} {D : va_G} {ca : Nat → ClassId} {B rl : Nat} {M9 : hm_M} (X : hq_X p s m args meth c b_Needs_handOn R_Needs 5 none D sc_cl (sc_ty ca) hq_tb) {k3 : Nat → Nat → Int32 → Int32 → Int32 → hm_M → Option hm_M} (hk3 : ∀ (a0 : Nat), ∀ (a1 : Nat), ∀ (x2 : Int32), ∀ (x3 : Int32), ∀ (x4 : Int32), sc_kd a0 = 8 → sc_kd a1 = 5 → ∀ (M : hm_M) (H : Heap) (locs : List Loc) (ls : Array Slot), lv_has ls 5 [(0, .ref (B + a0)), (1, .ref (B + a1)), (2, .int x2), (3, .int x3), (4, .int x4)] → hm_P D sc_cl ca 64 (sc_sh rl) B M hm_L0 H → va_S (hm_A B 64) s.heap H locs → k3 a0 a1 x2 x3 x4 M = some M9 → W p l e ({ frames := 2, cells := 0, slots := 0, locals := 44 } : Room) s m args below meth c H locs 0 0 (MQ below (hq_QV D sc_cl ca 64 (sc_sh rl) B M9 hm_L0) args s 0 0 (hm_A B 64)) (F0 m 3 ls [])) : ∀ (a0 : Nat), ∀ (a1 : Nat), ∀ (x2 : Int32), ∀ (x3 : Int32), ∀ (x4 : Int32), sc_kd a0 = 8 → sc_kd a1 = 5 → ∀ (M : hm_M) (H : Heap) (locs : List Loc) (ls : Array Slot), lv_has ls 5 [(0, .ref (B + a0)), (1, .ref (B + a1)), (2, .int x2), (3, .int x3), (4, .int x4)] → hm_P D sc_cl ca 64 (sc_sh rl) B M hm_L0 H → va_S (hm_A B 64) s.heap H locs → f_Needs_handOn_52 k3 a0 a1 x2 x3 x4 M = some M9 → W p l e ({ frames := 2, cells := 0, slots := 0, locals := 44 } : Room) s m args below meth c H locs 0 0 (MQ below (hq_QV D sc_cl ca 64 (sc_sh rl) B M9 hm_L0) args s 0 0 (hm_A B 64)) (F0 m 52 ls []) := by
  obtain ⟨hx, hb, hml, hown, hr, hlk, hKt⟩ := id X
  have hK := hKt.1
  have hts : ∀ w ∈ hq_tb, w.before args s = true := fun w h => hKt.2.2 w h args
  intro a0 a1 x2 x3 x4 h_a0 h_a1 M H locs ls hl hP hS hf
  unfold f_Needs_handOn_52 at hf
  refine lv_iinc (v := (x4 + 1)) (lv' := [(4, .int (x4 + 1)), (0, .ref (B + a0)), (1, .ref (B + a1)), (2, .int x2), (3, .int x3)]) hx hb d_Needs_handOn_52 hl (k := 4) rfl rfl (by decide) rfl (fun ls hl => ?_)
  refine lv_goto (tgt := 3) hx hb d_Needs_handOn_55 (by decide) ?_
  exact hk3 _ _ _ _ _ h_a0 h_a1 _ _ _ _ (lv_sub hl [1, 2, 3, 4, 0] rfl) hP hS hf
set_option maxHeartbeats 4000000 in
set_option maxRecDepth 100000 in
theorem w_Needs_handOn_3 {p : Program} {l : Launch} {e : Env} {s : State} {m : MethodId} {args : Array Value} {below : List Frame} {meth : Method} {c : Code} {D : va_G} {ca : Nat → ClassId} {B rl : Nat} {M9 : hm_M} (X : hq_X p s m args meth c b_Needs_handOn R_Needs 5 none D sc_cl (sc_ty ca) hq_tb) : ∀ (n : Nat), ∀ (a0 : Nat), ∀ (a1 : Nat), ∀ (x2 : Int32), ∀ (x3 : Int32), ∀ (x4 : Int32), sc_kd a0 = 8 → sc_kd a1 = 5 → ∀ (M : hm_M) (H : Heap) (locs : List Loc) (ls : Array Slot), lv_has ls 5 [(0, .ref (B + a0)), (1, .ref (B + a1)), (2, .int x2), (3, .int x3), (4, .int x4)] → hm_P D sc_cl ca 64 (sc_sh rl) B M hm_L0 H → va_S (hm_A B 64) s.heap H locs → f_Needs_handOn_3 n a0 a1 x2 x3 x4 M = some M9 → W p l e ({ frames := 2, cells := 0, slots := 0, locals := 44 } : Room) s m args below meth c H locs 0 0 (MQ below (hq_QV D sc_cl ca 64 (sc_sh rl) B M9 hm_L0) args s 0 0 (hm_A B 64)) (F0 m 3 ls []) := by
  obtain ⟨hx, hb, hml, hown, hr, hlk, hKt⟩ := id X
  have hK := hKt.1
  have hts : ∀ w ∈ hq_tb, w.before args s = true := fun w h => hKt.2.2 w h args
  intro n
  induction n with
  | zero =>
    intro a0 a1 x2 x3 x4 h_a0 h_a1 M H locs ls hl hP hS hf
    cases hf
  | succ n ih =>
    intro a0 a1 x2 x3 x4 h_a0 h_a1 M H locs ls hl hP hS hf
    rw [f_Needs_handOn_3] at hf
    refine lv_iload hx hb d_Needs_handOn_3 (lv_at hl 4 rfl) ?_
    refine lv_aload_n hx hb d_Needs_handOn_5 rfl (lv_at hl 1 rfl) ?_
    refine hq_getN hx hb hts i_Stage hown hK hP a1 (sc_lt h_a1 (by decide)) (sc_s_Stage (h_a1)) rfl 3 (by decide) (hts _ sc_wd_10) (fun _ h => h) (v := .int (M a1 3)) rfl d_Needs_handOn_6 ?_
    refine lv_icmp_ge (tgt := 58) hx hb d_Needs_handOn_9 (by decide) (fun c1 => ?_) (fun c1 => ?_)
    · replace hf := (if_pos c1).symm.trans hf
      have h8 := Option.some.inj hf
      subst h8
      exact W.vret hx hb hr (fun t ht _ => ⟨⟨(), rfl, trivial, by subst ht; exact hP⟩, hS.F ht⟩) hS.2.2 d_Needs_handOn_58 hlk
    · replace hf := (if_neg c1).symm.trans hf
      refine lv_aload_n hx hb d_Needs_handOn_12 rfl (lv_at hl 1 rfl) ?_
      refine hq_getN hx hb hts i_Stage hown hK hP a1 (sc_lt h_a1 (by decide)) (sc_s_Stage (h_a1)) rfl 4 (by decide) (hts _ sc_wd_11) (fun _ h => h) (v := .ref (B + (a1 + 1))) rfl d_Needs_handOn_13 ?_
      refine lv_iload hx hb d_Needs_handOn_16 (lv_at hl 4 rfl) ?_
      obtain ⟨g2, hf⟩ := hm_gd_some hf
      refine hq_iald hx hb hK hP (a1 + 1) (sc_lt (sck_Stage1 h_a1) (by decide)) (sc_s_ia4 ((sck_Stage1 h_a1))) 0 rfl g2 d_Needs_handOn_18 ?_
      refine lv_iconst (v := (-1)) hx hb d_Needs_handOn_19 (by decide) ?_
      refine lv_icmp_eq (tgt := 52) hx hb d_Needs_handOn_20 (by decide) (fun c3 => ?_) (fun c3 => ?_)
      · replace hf := (if_pos c3).symm.trans hf
        exact w_Needs_handOn_52 X ih _ _ _ _ _ h_a0 h_a1 _ _ _ _ (lv_sub hl [0, 1, 2, 3, 4] rfl) hP hS hf
      · replace hf := (if_neg c3).symm.trans hf
        refine lv_aload_n hx hb d_Needs_handOn_23 rfl (lv_at hl 0 rfl) ?_
        refine lv_aload_n hx hb d_Needs_handOn_24 rfl (lv_at hl 1 rfl) ?_
        refine hq_getN hx hb hts i_Stage hown hK hP a1 (sc_lt h_a1 (by decide)) (sc_s_Stage (h_a1)) rfl 4 (by decide) (hts _ sc_wd_11) (fun _ h => h) (v := .ref (B + (a1 + 1))) rfl d_Needs_handOn_25 ?_
        refine lv_iload hx hb d_Needs_handOn_28 (lv_at hl 4 rfl) ?_
        obtain ⟨g4, hf⟩ := hm_gd_some hf
        refine hq_iald hx hb hK hP (a1 + 1) (sc_lt (sck_Stage1 h_a1) (by decide)) (sc_s_ia4 ((sck_Stage1 h_a1))) 0 rfl g4 d_Needs_handOn_30 ?_
        refine lv_iload_n hx hb d_Needs_handOn_31 rfl (lv_at hl 2 rfl) ?_
        refine lv_aload_n hx hb d_Needs_handOn_32 rfl (lv_at hl 1 rfl) ?_
        refine hq_getN hx hb hts i_Stage hown hK hP a1 (sc_lt h_a1 (by decide)) (sc_s_Stage (h_a1)) rfl 5 (by decide) (hts _ sc_wd_12) (fun _ h => h) (v := .ref (B + (a1 + 2))) rfl d_Needs_handOn_33 ?_
        refine lv_iload hx hb d_Needs_handOn_36 (lv_at hl 4 rfl) ?_
        obtain ⟨g5, hf⟩ := hm_gd_some hf
        refine hq_iald hx hb hK hP (a1 + 2) (sc_lt (sck_Stage2 h_a1) (by decide)) (sc_s_ia4 ((sck_Stage2 h_a1))) 0 rfl g5 d_Needs_handOn_38 ?_
        refine lv_iadd hx hb d_Needs_handOn_39 ?_
        refine lv_iload_n hx hb d_Needs_handOn_40 rfl (lv_at hl 3 rfl) ?_
        refine lv_aload_n hx hb d_Needs_handOn_41 rfl (lv_at hl 1 rfl) ?_
        refine hq_getN hx hb hts i_Stage hown hK hP a1 (sc_lt h_a1 (by decide)) (sc_s_Stage (h_a1)) rfl 5 (by decide) (hts _ sc_wd_12) (fun _ h => h) (v := .ref (B + (a1 + 2))) rfl d_Needs_handOn_42 ?_
        refine lv_iload hx hb d_Needs_handOn_45 (lv_at hl 4 rfl) ?_
        obtain ⟨g6, hf⟩ := hm_gd_some hf
        refine hq_iald hx hb hK hP (a1 + 2) (sc_lt (sck_Stage2 h_a1) (by decide)) (sc_s_ia4 ((sck_Stage2 h_a1))) 0 rfl g6 d_Needs_handOn_47 ?_
        refine lv_iadd hx hb d_Needs_handOn_48 ?_
        obtain ⟨M_8, hc9, hf⟩ := hm_bV_some hf
        refine hq_callV (va_runV (As := [.int (M (a1 + 1) x4.toNatClampNeg), .int (x2 + (M (a1 + 2) x4.toNatClampNeg)), .int (x3 + (M (a1 + 2) x4.toNatClampNeg))]) (rest := []) ⟨hx, hb, hml, hown, hts⟩ (c_Needs_widen (l := l) (D := D) (ca := ca) (B := B) (rl := rl) h_a0 hc9) (hq_cwV (nn := 3) hts sc_wd_13 sc_wd_14 sc_wd_15 sc_wd_16 sc_wd_17 (by decide +kernel) rfl rfl ⟨(Nat.le_of_ble_eq_true rfl), (Nat.le_of_ble_eq_true rfl)⟩) (hq_preV hKt hP (sc_lt h_a0 (by decide)) (sc_s_Needs (h_a0)) rfl) rfl rfl hl.1 rfl (lv_room (Nat.le_of_ble_eq_true rfl)) d_Needs_handOn_49 ⟨(Nat.le_of_ble_eq_true rfl), (Nat.le_of_ble_eq_true rfl)⟩) hS (fun H locs hP hS => ?_)
        exact w_Needs_handOn_52 X ih _ _ _ _ _ h_a0 h_a1 _ _ _ _ (lv_sub hl [0, 1, 2, 3, 4] rfl) hP hS hf
set_option maxHeartbeats 4000000 in
set_option maxRecDepth 100000 in
theorem w_Needs_handOn_e {p : Program} {l : Launch} {e : Env} {s : State} {m : MethodId} {args : Array Value} {below : List Frame} {meth : Method} {c : Code} {D : va_G} {ca : Nat → ClassId} {B rl : Nat} {M9 : hm_M} (X : hq_X p s m args meth c b_Needs_handOn R_Needs 5 none D sc_cl (sc_ty ca) hq_tb) : ∀ (a0 : Nat), ∀ (a1 : Nat), ∀ (x2 : Int32), ∀ (x3 : Int32), sc_kd a0 = 8 → sc_kd a1 = 5 → ∀ (M : hm_M) (H : Heap) (locs : List Loc) (ls : Array Slot), lv_has ls 5 [(0, .ref (B + a0)), (1, .ref (B + a1)), (2, .int x2), (3, .int x3)] → hm_P D sc_cl ca 64 (sc_sh rl) B M hm_L0 H → va_S (hm_A B 64) s.heap H locs → f_Needs_handOn M a0 a1 x2 x3 = some M9 → W p l e ({ frames := 2, cells := 0, slots := 0, locals := 44 } : Room) s m args below meth c H locs 0 0 (MQ below (hq_QV D sc_cl ca 64 (sc_sh rl) B M9 hm_L0) args s 0 0 (hm_A B 64)) (F0 m 0 ls []) := by
  obtain ⟨hx, hb, hml, hown, hr, hlk, hKt⟩ := id X
  have hK := hKt.1
  have hts : ∀ w ∈ hq_tb, w.before args s = true := fun w h => hKt.2.2 w h args
  intro a0 a1 x2 x3 h_a0 h_a1 M H locs ls hl hP hS hf
  unfold f_Needs_handOn at hf
  refine lv_iconst (v := 0) hx hb d_Needs_handOn_0 (by decide) ?_
  refine lv_istore (lv' := [(4, .int 0), (0, .ref (B + a0)), (1, .ref (B + a1)), (2, .int x2), (3, .int x3)]) hx hb d_Needs_handOn_1 hl (by decide) rfl (fun ls hl => ?_)
  exact w_Needs_handOn_3 X _ _ _ _ _ _ h_a0 h_a1 _ _ _ _ (lv_sub hl [1, 2, 3, 4, 0] rfl) hP hS hf
set_option maxHeartbeats 4000000 in
set_option maxRecDepth 100000 in
theorem c_Needs_handOn {l : Launch} {D : va_G} {ca : Nat → ClassId} {B rl : Nat} {a0 : Nat} {a1 : Nat} {x2 : Int32} {x3 : Int32} (h_a0 : sc_kd a0 = 8) (h_a1 : sc_kd a1 = 5) {M M9 : hm_M} (hf : f_Needs_handOn M a0 a1 x2 x3 = some M9) : Met l y_Needs_handOn [Cond.code y_Needs_handOn b_Needs_handOn 5 none] ({ frames := 2, cells := 0, slots := 0, locals := 44 } : Room) (hq_Pre D sc_cl ca 64 (sc_sh rl) B (sc_ty ca) hq_tb M hm_L0 [.ref (B + a0), .ref (B + a1), .int x2, .int x3]) (hq_QV D sc_cl ca 64 (sc_sh rl) B M9 hm_L0) 0 0 (hm_A B 64) := by
  refine Met.ofW (cc := b_Needs_handOn) (maxL := 5) (ret := none) (by decide +kernel) rfl ?_
  intro p e s m args below meth c s₁ Bd hml hv
  obtain ⟨rfl, hP, hK⟩ := hv
  have hl := lv_entry ([.ref (B + a0), .ref (B + a1), .int x2, .int x3]) (n := 5) (Nat.le_of_ble_eq_true rfl)
  rw [lg_entry_eq]
  generalize (lg_sl ([.ref (B + a0), .ref (B + a1), .int x2, .int x3]) ++ List.replicate (5 - (lg_sl ([.ref (B + a0), .ref (B + a1), .int x2, .int x3])).length) Slot.unset).toArray = ls at hl ⊢
  have hl : lv_has ls 5 [(0, .ref (B + a0)), (1, .ref (B + a1)), (2, .int x2), (3, .int x3)] := hl
  exact w_Needs_handOn_e ⟨Bd.exec, Bd.bytes, hml, findClass_of_methodNamed Bd.named, Bd.returns, Bd.notSynchronized, hK⟩  _ _ _ _ h_a0 h_a1 _ _ _ _ hl hP va_S.rf hf
set_option maxHeartbeats 4000000 in
set_option maxRecDepth 100000 in
theorem w_Needs_spread_80 {p : Program} {l : Launch} {e : Env} {s : State} {m : MethodId} {args : Array Value} {below : List Frame} {meth : Method} {c : Code} {D : va_G} {ca : Nat → ClassId} {B rl : Nat} {M9 : hm_M} (X : hq_X p s m args meth c b_Needs_spread R_Needs 5 none D sc_cl (sc_ty ca) hq_tb) {k40 : Nat → Int32 → hm_M → Option hm_M} (hk40 : ∀ (a0 : Nat), ∀ (x4 : Int32), sc_kd a0 = 8 → ∀ (M : hm_M) (H : Heap) (locs : List Loc) (ls : Array Slot), lv_has ls 5 [(0, .ref (B + a0)), (1, .ref (B + 1)), (4, .int x4)] → hm_P D sc_cl ca 64 (sc_sh rl) B M hm_L0 H → va_S (hm_A B 64) s.heap H locs → k40 a0 x4 M = some M9 → W p l e ({ frames := 3, cells := 0, slots := 0, locals := 68 } : Room) s m args below meth c H locs 0 0 (MQ below (hq_QV D sc_cl ca 64 (sc_sh rl) B M9 hm_L0) args s 0 0 (hm_A B 64)) (F0 m 40 ls [])) : ∀ (a0 : Nat), ∀ (x4 : Int32), sc_kd a0 = 8 → ∀ (M : hm_M) (H : Heap) (locs : List Loc) (ls : Array Slot), lv_has ls 5 [(0, .ref (B + a0)), (1, .ref (B + 1)), (4, .int x4)] → hm_P D sc_cl ca 64 (sc_sh rl) B M hm_L0 H → va_S (hm_A B 64) s.heap H locs → f_Needs_spread_80 k40 a0 x4 M = some M9 → W p l e ({ frames := 3, cells := 0, slots := 0, locals := 68 } : Room) s m args below meth c H locs 0 0 (MQ below (hq_QV D sc_cl ca 64 (sc_sh rl) B M9 hm_L0) args s 0 0 (hm_A B 64)) (F0 m 80 ls []) := by
  obtain ⟨hx, hb, hml, hown, hr, hlk, hKt⟩ := id X
  have hK := hKt.1
  have hts : ∀ w ∈ hq_tb, w.before args s = true := fun w h => hKt.2.2 w h args
  intro a0 x4 h_a0 M H locs ls hl hP hS hf
  unfold f_Needs_spread_80 at hf
  refine lv_iinc (v := (x4 + (-1))) (lv' := [(4, .int (x4 + (-1))), (0, .ref (B + a0)), (1, .ref (B + 1))]) hx hb d_Needs_spread_80 hl (k := 2) rfl rfl (by decide) rfl (fun ls hl => ?_)
  refine lv_goto (tgt := 40) hx hb d_Needs_spread_83 (by decide) ?_
  exact hk40 _ _ h_a0 _ _ _ _ (lv_sub hl [1, 2, 0] rfl) hP hS hf
set_option maxHeartbeats 4000000 in
set_option maxRecDepth 100000 in
theorem w_Needs_spread_40 {p : Program} {l : Launch} {e : Env} {s : State} {m : MethodId} {args : Array Value} {below : List Frame} {meth : Method} {c : Code} {D : va_G} {ca : Nat → ClassId} {B rl : Nat} {M9 : hm_M} (X : hq_X p s m args meth c b_Needs_spread R_Needs 5 none D sc_cl (sc_ty ca) hq_tb) : ∀ (n : Nat), ∀ (a0 : Nat), ∀ (x4 : Int32), sc_kd a0 = 8 → ∀ (M : hm_M) (H : Heap) (locs : List Loc) (ls : Array Slot), lv_has ls 5 [(0, .ref (B + a0)), (1, .ref (B + 1)), (4, .int x4)] → hm_P D sc_cl ca 64 (sc_sh rl) B M hm_L0 H → va_S (hm_A B 64) s.heap H locs → f_Needs_spread_40 n a0 x4 M = some M9 → W p l e ({ frames := 3, cells := 0, slots := 0, locals := 68 } : Room) s m args below meth c H locs 0 0 (MQ below (hq_QV D sc_cl ca 64 (sc_sh rl) B M9 hm_L0) args s 0 0 (hm_A B 64)) (F0 m 40 ls []) := by
  obtain ⟨hx, hb, hml, hown, hr, hlk, hKt⟩ := id X
  have hK := hKt.1
  have hts : ∀ w ∈ hq_tb, w.before args s = true := fun w h => hKt.2.2 w h args
  intro n
  induction n with
  | zero =>
    intro a0 x4 h_a0 M H locs ls hl hP hS hf
    cases hf
  | succ n ih =>
    intro a0 x4 h_a0 M H locs ls hl hP hS hf
    rw [f_Needs_spread_40] at hf
    refine lv_iload hx hb d_Needs_spread_40 (lv_at hl 2 rfl) ?_
    refine lv_if_lt (tgt := 86) hx hb d_Needs_spread_42 (by decide) (fun c1 => ?_) (fun c1 => ?_)
    · replace hf := (if_pos c1).symm.trans hf
      have h8 := Option.some.inj hf
      subst h8
      exact W.vret hx hb hr (fun t ht _ => ⟨⟨(), rfl, trivial, by subst ht; exact hP⟩, hS.F ht⟩) hS.2.2 d_Needs_spread_86 hlk
    · replace hf := (if_neg c1).symm.trans hf
      refine lv_aload_n hx hb d_Needs_spread_45 rfl (lv_at hl 0 rfl) ?_
      refine hq_get hx hb hts i_Needs hown hK hP a0 (sc_lt h_a0 (by decide)) (sc_s_Needs (h_a0)) rfl 0 (by decide) (hts _ sc_wd_1) (fun _ h => h) (v := .ref (B + (a0 + 1))) rfl d_Needs_spread_46 ?_
      refine lv_iload hx hb d_Needs_spread_49 (lv_at hl 2 rfl) ?_
      obtain ⟨g2, hf⟩ := hm_gd_some hf
      refine hq_zald hx hb hK hP (a0 + 1) (sc_lt (sck_Needs1 h_a0) (by decide)) (sc_s_za8 ((sck_Needs1 h_a0))) 1 rfl g2 d_Needs_spread_51 ?_
      refine lv_if_eq (tgt := 80) hx hb d_Needs_spread_52 (by decide) (fun c3 => ?_) (fun c3 => ?_)
      · replace hf := (if_pos c3).symm.trans hf
        exact w_Needs_spread_80 X ih _ _ h_a0 _ _ _ _ (lv_sub hl [0, 1, 2] rfl) hP hS hf
      · replace hf := (if_neg c3).symm.trans hf
        refine lv_aload_n hx hb d_Needs_spread_55 rfl (lv_at hl 0 rfl) ?_
        refine lv_aload_n hx hb d_Needs_spread_56 rfl (lv_at hl 1 rfl) ?_
        refine hq_getN hx hb hts i_Pipe hown hK hP 1 (by decide) (sc_s_Pipe (rfl)) rfl 1 (by decide) (hts _ sc_wd_19) (fun _ h => h) (v := .ref (B + 2)) rfl d_Needs_spread_57 ?_
        refine lv_iload hx hb d_Needs_spread_60 (lv_at hl 2 rfl) ?_
        obtain ⟨g4, hf⟩ := hm_gd_some hf
        refine hq_aald hx hb hK hP 2 (by decide) (sc_s_starr (rfl)) 2 rfl rfl g4 d_Needs_spread_62 ?_
        refine lv_aload_n hx hb d_Needs_spread_63 rfl (lv_at hl 0 rfl) ?_
        refine hq_get hx hb hts i_Needs hown hK hP a0 (sc_lt h_a0 (by decide)) (sc_s_Needs (h_a0)) rfl 1 (by decide) (hts _ sc_wd_0) (fun _ h => h) (v := .ref (B + (a0 + 2))) rfl d_Needs_spread_64 ?_
        refine lv_iload hx hb d_Needs_spread_67 (lv_at hl 2 rfl) ?_
        obtain ⟨g5, hf⟩ := hm_gd_some hf
        refine hq_iald hx hb hK hP (a0 + 2) (sc_lt (sck_Needs2 h_a0) (by decide)) (sc_s_ia8 ((sck_Needs2 h_a0))) 0 rfl g5 d_Needs_spread_69 ?_
        refine lv_aload_n hx hb d_Needs_spread_70 rfl (lv_at hl 0 rfl) ?_
        refine hq_get hx hb hts i_Needs hown hK hP a0 (sc_lt h_a0 (by decide)) (sc_s_Needs (h_a0)) rfl 2 (by decide) (hts _ sc_wd_6) (fun _ h => h) (v := .ref (B + (a0 + 3))) rfl d_Needs_spread_71 ?_
        refine lv_iload hx hb d_Needs_spread_74 (lv_at hl 2 rfl) ?_
        obtain ⟨g6, hf⟩ := hm_gd_some hf
        refine hq_iald hx hb hK hP (a0 + 3) (sc_lt (sck_Needs3 h_a0) (by decide)) (sc_s_ia8 ((sck_Needs3 h_a0))) 0 rfl g6 d_Needs_spread_76 ?_
        obtain ⟨M_8, hc9, hf⟩ := hm_bV_some hf
        refine hq_callV (va_runV (As := [.ref (B + (5 + 4 * x4.toNatClampNeg)), .int (M (a0 + 2) x4.toNatClampNeg), .int (M (a0 + 3) x4.toNatClampNeg)]) (rest := []) ⟨hx, hb, hml, hown, hts⟩ (c_Needs_handOn (l := l) (D := D) (ca := ca) (B := B) (rl := rl) h_a0 (sck_st g4) hc9) (hq_cwV (nn := 3) hts sc_wd_20 sc_wd_14 sc_wd_21 sc_wd_22 sc_wd_23 (by decide +kernel) rfl rfl ⟨(Nat.le_of_ble_eq_true rfl), (Nat.le_of_ble_eq_true rfl)⟩) (hq_preV hKt hP (sc_lt h_a0 (by decide)) (sc_s_Needs (h_a0)) rfl) rfl rfl hl.1 rfl (lv_room (Nat.le_of_ble_eq_true rfl)) d_Needs_spread_77 ⟨(Nat.le_of_ble_eq_true rfl), (Nat.le_of_ble_eq_true rfl)⟩) hS (fun H locs hP hS => ?_)
        exact w_Needs_spread_80 X ih _ _ h_a0 _ _ _ _ (lv_sub hl [0, 1, 2] rfl) hP hS hf
set_option maxHeartbeats 4000000 in
set_option maxRecDepth 100000 in
theorem w_Needs_spread_3 {p : Program} {l : Launch} {e : Env} {s : State} {m : MethodId} {args : Array Value} {below : List Frame} {meth : Method} {c : Code} {D : va_G} {ca : Nat → ClassId} {B rl : Nat} {M9 : hm_M} (X : hq_X p s m args meth c b_Needs_spread R_Needs 5 none D sc_cl (sc_ty ca) hq_tb) : ∀ (n : Nat), ∀ (a0 : Nat), ∀ (x2 : Int32), ∀ (x3 : Int32), ∀ (x4 : Int32), sc_kd a0 = 8 → ∀ (M : hm_M) (H : Heap) (locs : List Loc) (ls : Array Slot), lv_has ls 5 [(0, .ref (B + a0)), (1, .ref (B + 1)), (2, .int x2), (3, .int x3), (4, .int x4)] → hm_P D sc_cl ca 64 (sc_sh rl) B M hm_L0 H → va_S (hm_A B 64) s.heap H locs → f_Needs_spread_3 n a0 x2 x3 x4 M = some M9 → W p l e ({ frames := 3, cells := 0, slots := 0, locals := 68 } : Room) s m args below meth c H locs 0 0 (MQ below (hq_QV D sc_cl ca 64 (sc_sh rl) B M9 hm_L0) args s 0 0 (hm_A B 64)) (F0 m 3 ls []) := by
  obtain ⟨hx, hb, hml, hown, hr, hlk, hKt⟩ := id X
  have hK := hKt.1
  have hts : ∀ w ∈ hq_tb, w.before args s = true := fun w h => hKt.2.2 w h args
  intro n
  induction n with
  | zero =>
    intro a0 x2 x3 x4 h_a0 M H locs ls hl hP hS hf
    cases hf
  | succ n ih =>
    intro a0 x2 x3 x4 h_a0 M H locs ls hl hP hS hf
    rw [f_Needs_spread_3] at hf
    refine lv_iload hx hb d_Needs_spread_3 (lv_at hl 4 rfl) ?_
    refine lv_bipush (v := 8) hx hb d_Needs_spread_5 (by decide) ?_
    refine lv_icmp_ge (tgt := 24) hx hb d_Needs_spread_7 (by decide) (fun c1 => ?_) (fun c1 => ?_)
    · replace hf := (if_pos c1).symm.trans hf
      refine lv_aload_n hx hb d_Needs_spread_24 rfl (lv_at hl 0 rfl) ?_
      refine lv_aload_n hx hb d_Needs_spread_25 rfl (lv_at hl 1 rfl) ?_
      refine hq_getN hx hb hts i_Pipe hown hK hP 1 (by decide) (sc_s_Pipe (rfl)) rfl 5 (by decide) (hts _ sc_wd_18) (fun _ h => h) (v := .int (M 1 5)) rfl d_Needs_spread_26 ?_
      refine lv_iload_n hx hb d_Needs_spread_29 rfl (lv_at hl 2 rfl) ?_
      refine lv_iload_n hx hb d_Needs_spread_30 rfl (lv_at hl 3 rfl) ?_
      obtain ⟨M_3, hc4, hf⟩ := hm_bV_some hf
      refine hq_callV (va_runV (As := [.int (M 1 5), .int x2, .int x3]) (rest := []) ⟨hx, hb, hml, hown, hts⟩ (c_Needs_widen (l := l) (D := D) (ca := ca) (B := B) (rl := rl) h_a0 hc4) (hq_cwV (nn := 3) hts sc_wd_13 sc_wd_14 sc_wd_15 sc_wd_16 sc_wd_17 (by decide +kernel) rfl rfl ⟨(Nat.le_of_ble_eq_true rfl), (Nat.le_of_ble_eq_true rfl)⟩) (hq_preV hKt hP (sc_lt h_a0 (by decide)) (sc_s_Needs (h_a0)) rfl) rfl rfl hl.1 rfl (lv_room (Nat.le_of_ble_eq_true rfl)) d_Needs_spread_31 ⟨(Nat.le_of_ble_eq_true rfl), (Nat.le_of_ble_eq_true rfl)⟩) hS (fun H locs hP hS => ?_)
      refine lv_aload_n hx hb d_Needs_spread_34 rfl (lv_at hl 1 rfl) ?_
      refine hq_getN hx hb hts i_Pipe hown hK hP 1 (by decide) (sc_s_Pipe (rfl)) rfl 5 (by decide) (hts _ sc_wd_18) (fun _ h => h) (v := .int (M_3 1 5)) rfl d_Needs_spread_35 ?_
      refine lv_istore (lv' := [(4, .int (M_3 1 5)), (0, .ref (B + a0)), (1, .ref (B + 1)), (2, .int x2), (3, .int x3)]) hx hb d_Needs_spread_38 hl (by decide) rfl (fun ls hl => ?_)
      exact w_Needs_spread_40 X _ _ _ h_a0 _ _ _ _ (lv_sub hl [1, 2, 0] rfl) hP hS hf
    · replace hf := (if_neg c1).symm.trans hf
      refine lv_aload_n hx hb d_Needs_spread_10 rfl (lv_at hl 0 rfl) ?_
      refine hq_get hx hb hts i_Needs hown hK hP a0 (sc_lt h_a0 (by decide)) (sc_s_Needs (h_a0)) rfl 0 (by decide) (hts _ sc_wd_1) (fun _ h => h) (v := .ref (B + (a0 + 1))) rfl d_Needs_spread_11 ?_
      refine lv_iload hx hb d_Needs_spread_14 (lv_at hl 4 rfl) ?_
      refine lv_iconst (v := 0) hx hb d_Needs_spread_16 (by decide) ?_
      obtain ⟨g5, hf⟩ := hm_gd_some hf
      refine hq_zast hx hb hK hP hS (a0 + 1) (sc_lt (sck_Needs1 h_a0) (by decide)) (sc_s_za8 ((sck_Needs1 h_a0))) 1 rfl g5 (Or.inl rfl) d_Needs_spread_17 (fun H locs hP hS => ?_)
      obtain ⟨M_6, e_6, hf⟩ := hm_st_some hf
      rw [← e_6] at hP
      refine lv_iinc (v := (x4 + 1)) (lv' := [(4, .int (x4 + 1)), (0, .ref (B + a0)), (1, .ref (B + 1)), (2, .int x2), (3, .int x3)]) hx hb d_Needs_spread_18 hl (k := 4) rfl rfl (by decide) rfl (fun ls hl => ?_)
      refine lv_goto (tgt := 3) hx hb d_Needs_spread_21 (by decide) ?_
      exact ih _ _ _ _ h_a0 _ _ _ _ (lv_sub hl [1, 2, 3, 4, 0] rfl) hP hS hf
set_option maxHeartbeats 4000000 in
set_option maxRecDepth 100000 in
theorem w_Needs_spread_e {p : Program} {l : Launch} {e : Env} {s : State} {m : MethodId} {args : Array Value} {below : List Frame} {meth : Method} {c : Code} {D : va_G} {ca : Nat → ClassId} {B rl : Nat} {M9 : hm_M} (X : hq_X p s m args meth c b_Needs_spread R_Needs 5 none D sc_cl (sc_ty ca) hq_tb) : ∀ (a0 : Nat), ∀ (x2 : Int32), ∀ (x3 : Int32), sc_kd a0 = 8 → ∀ (M : hm_M) (H : Heap) (locs : List Loc) (ls : Array Slot), lv_has ls 5 [(0, .ref (B + a0)), (1, .ref (B + 1)), (2, .int x2), (3, .int x3)] → hm_P D sc_cl ca 64 (sc_sh rl) B M hm_L0 H → va_S (hm_A B 64) s.heap H locs → f_Needs_spread M a0 x2 x3 = some M9 → W p l e ({ frames := 3, cells := 0, slots := 0, locals := 68 } : Room) s m args below meth c H locs 0 0 (MQ below (hq_QV D sc_cl ca 64 (sc_sh rl) B M9 hm_L0) args s 0 0 (hm_A B 64)) (F0 m 0 ls []) := by
  obtain ⟨hx, hb, hml, hown, hr, hlk, hKt⟩ := id X
  have hK := hKt.1
  have hts : ∀ w ∈ hq_tb, w.before args s = true := fun w h => hKt.2.2 w h args
  intro a0 x2 x3 h_a0 M H locs ls hl hP hS hf
  unfold f_Needs_spread at hf
  refine lv_iconst (v := 0) hx hb d_Needs_spread_0 (by decide) ?_
  refine lv_istore (lv' := [(4, .int 0), (0, .ref (B + a0)), (1, .ref (B + 1)), (2, .int x2), (3, .int x3)]) hx hb d_Needs_spread_1 hl (by decide) rfl (fun ls hl => ?_)
  exact w_Needs_spread_3 X _ _ _ _ _ h_a0 _ _ _ _ (lv_sub hl [1, 2, 3, 4, 0] rfl) hP hS hf
set_option maxHeartbeats 4000000 in
set_option maxRecDepth 100000 in
theorem c_Needs_spread {l : Launch} {D : va_G} {ca : Nat → ClassId} {B rl : Nat} {a0 : Nat} {x2 : Int32} {x3 : Int32} (h_a0 : sc_kd a0 = 8) {M M9 : hm_M} (hf : f_Needs_spread M a0 x2 x3 = some M9) : Met l y_Needs_spread [Cond.code y_Needs_spread b_Needs_spread 5 none] ({ frames := 3, cells := 0, slots := 0, locals := 68 } : Room) (hq_Pre D sc_cl ca 64 (sc_sh rl) B (sc_ty ca) hq_tb M hm_L0 [.ref (B + a0), .ref (B + 1), .int x2, .int x3]) (hq_QV D sc_cl ca 64 (sc_sh rl) B M9 hm_L0) 0 0 (hm_A B 64) := by
  refine Met.ofW (cc := b_Needs_spread) (maxL := 5) (ret := none) (by decide +kernel) rfl ?_
  intro p e s m args below meth c s₁ Bd hml hv
  obtain ⟨rfl, hP, hK⟩ := hv
  have hl := lv_entry ([.ref (B + a0), .ref (B + 1), .int x2, .int x3]) (n := 5) (Nat.le_of_ble_eq_true rfl)
  rw [lg_entry_eq]
  generalize (lg_sl ([.ref (B + a0), .ref (B + 1), .int x2, .int x3]) ++ List.replicate (5 - (lg_sl ([.ref (B + a0), .ref (B + 1), .int x2, .int x3])).length) Slot.unset).toArray = ls at hl ⊢
  have hl : lv_has ls 5 [(0, .ref (B + a0)), (1, .ref (B + 1)), (2, .int x2), (3, .int x3)] := hl
  exact w_Needs_spread_e ⟨Bd.exec, Bd.bytes, hml, findClass_of_methodNamed Bd.named, Bd.returns, Bd.notSynchronized, hK⟩  _ _ _ h_a0 _ _ _ _ hl hP va_S.rf hf
set_option maxHeartbeats 4000000 in
set_option maxRecDepth 100000 in
theorem w_Needs_lengthOf_e {p : Program} {l : Launch} {e : Env} {s : State} {m : MethodId} {args : Array Value} {below : List Frame} {meth : Method} {c : Code} {D : va_G} {ca : Nat → ClassId} {B rl : Nat} {r : Int32} {M9 : hm_M} (X : hq_X p s m args meth c b_Needs_lengthOf R_Needs 2 (some .int) D sc_cl (sc_ty ca) hq_tb) : ∀ (a0 : Nat), ∀ (x1 : Int32), sc_kd a0 = 8 → ∀ (M : hm_M) (H : Heap) (locs : List Loc) (ls : Array Slot), lv_has ls 2 [(0, .ref (B + a0)), (1, .int x1)] → hm_P D sc_cl ca 64 (sc_sh rl) B M hm_L0 H → va_S (hm_A B 64) s.heap H locs → f_Needs_lengthOf M a0 x1 = some (r, M9) → W p l e ({ frames := 0, cells := 0, slots := 0, locals := 0 } : Room) s m args below meth c H locs 0 0 (MQ below (hq_QI D sc_cl ca 64 (sc_sh rl) B r M9 hm_L0) args s 0 0 (hm_A B 64)) (F0 m 0 ls []) := by
  obtain ⟨hx, hb, hml, hown, hr, hlk, hKt⟩ := id X
  have hK := hKt.1
  have hts : ∀ w ∈ hq_tb, w.before args s = true := fun w h => hKt.2.2 w h args
  intro a0 x1 h_a0 M H locs ls hl hP hS hf
  unfold f_Needs_lengthOf at hf
  refine lv_aload_n hx hb d_Needs_lengthOf_0 rfl (lv_at hl 0 rfl) ?_
  refine hq_get hx hb hts i_Needs hown hK hP a0 (sc_lt h_a0 (by decide)) (sc_s_Needs (h_a0)) rfl 2 (by decide) (hts _ sc_wd_6) (fun _ h => h) (v := .ref (B + (a0 + 3))) rfl d_Needs_lengthOf_1 ?_
  refine lv_iload_n hx hb d_Needs_lengthOf_4 rfl (lv_at hl 1 rfl) ?_
  obtain ⟨g1, hf⟩ := hm_gd_some hf
  refine hq_iald hx hb hK hP (a0 + 3) (sc_lt (sck_Needs3 h_a0) (by decide)) (sc_s_ia8 ((sck_Needs3 h_a0))) 0 rfl g1 d_Needs_lengthOf_5 ?_
  refine lv_aload_n hx hb d_Needs_lengthOf_6 rfl (lv_at hl 0 rfl) ?_
  refine hq_get hx hb hts i_Needs hown hK hP a0 (sc_lt h_a0 (by decide)) (sc_s_Needs (h_a0)) rfl 1 (by decide) (hts _ sc_wd_0) (fun _ h => h) (v := .ref (B + (a0 + 2))) rfl d_Needs_lengthOf_7 ?_
  refine lv_iload_n hx hb d_Needs_lengthOf_10 rfl (lv_at hl 1 rfl) ?_
  obtain ⟨g2, hf⟩ := hm_gd_some hf
  refine hq_iald hx hb hK hP (a0 + 2) (sc_lt (sck_Needs2 h_a0) (by decide)) (sc_s_ia8 ((sck_Needs2 h_a0))) 0 rfl g2 d_Needs_lengthOf_11 ?_
  refine lv_isub hx hb d_Needs_lengthOf_12 ?_
  refine lv_iconst (v := 1) hx hb d_Needs_lengthOf_13 (by decide) ?_
  refine lv_iadd hx hb d_Needs_lengthOf_14 ?_
  obtain ⟨h9, h8⟩ := Prod.mk.inj (Option.some.inj hf)
  subst h9
  subst h8
  exact W.iret hx hb hr (fun t ht _ => ⟨⟨_, (), rfl, rfl, by subst ht; exact hP⟩, hS.F ht⟩) hS.2.2 d_Needs_lengthOf_15 hlk
set_option maxHeartbeats 4000000 in
set_option maxRecDepth 100000 in
theorem c_Needs_lengthOf {l : Launch} {D : va_G} {ca : Nat → ClassId} {B rl : Nat} {r : Int32} {a0 : Nat} {x1 : Int32} (h_a0 : sc_kd a0 = 8) {M M9 : hm_M} (hf : f_Needs_lengthOf M a0 x1 = some (r, M9)) : Met l y_Needs_lengthOf [Cond.code y_Needs_lengthOf b_Needs_lengthOf 2 (some .int)] ({ frames := 0, cells := 0, slots := 0, locals := 0 } : Room) (hq_Pre D sc_cl ca 64 (sc_sh rl) B (sc_ty ca) hq_tb M hm_L0 [.ref (B + a0), .int x1]) (hq_QI D sc_cl ca 64 (sc_sh rl) B r M9 hm_L0) 0 0 (hm_A B 64) := by
  refine Met.ofW (cc := b_Needs_lengthOf) (maxL := 2) (ret := (some .int)) (by decide +kernel) rfl ?_
  intro p e s m args below meth c s₁ Bd hml hv
  obtain ⟨rfl, hP, hK⟩ := hv
  have hl := lv_entry ([.ref (B + a0), .int x1]) (n := 2) (Nat.le_of_ble_eq_true rfl)
  rw [lg_entry_eq]
  generalize (lg_sl ([.ref (B + a0), .int x1]) ++ List.replicate (2 - (lg_sl ([.ref (B + a0), .int x1])).length) Slot.unset).toArray = ls at hl ⊢
  have hl : lv_has ls 2 [(0, .ref (B + a0)), (1, .int x1)] := hl
  exact w_Needs_lengthOf_e ⟨Bd.exec, Bd.bytes, hml, findClass_of_methodNamed Bd.named, Bd.returns, Bd.notSynchronized, hK⟩  _ _ h_a0 _ _ _ _ hl hP va_S.rf hf
end
section
set_option maxHeartbeats 4000000 in
set_option maxRecDepth 100000 in
theorem w_Pipe_hasStage_17 {p : Program} {l : Launch} {e : Env} {s : State} {m : MethodId} {args : Array Value} {below : List Frame} {meth : Method} {c : Code} {D : va_G} {ca : Nat → ClassId} {B rl : Nat} {r : Int32} {M9 : hm_M} (X : hq_X p s m args meth c b_Pipe_hasStage R_Pipe 2 (some .boolean) D sc_cl (sc_ty ca) hq_tb) : ∀ (y0 : Int32), ∀ (M : hm_M) (H : Heap) (locs : List Loc) (ls : Array Slot), lv_has ls 2 [] → hm_P D sc_cl ca 64 (sc_sh rl) B M hm_L0 H → va_S (hm_A B 64) s.heap H locs → f_Pipe_hasStage_17 y0 M = some (r, M9) → W p l e ({ frames := 0, cells := 0, slots := 0, locals := 0 } : Room) s m args below meth c H locs 0 0 (MQ below (hq_QI D sc_cl ca 64 (sc_sh rl) B r M9 hm_L0) args s 0 0 (hm_A B 64)) (F0 m 17 ls [.int y0]) := by
  obtain ⟨hx, hb, hml, hown, hr, hlk, hKt⟩ := id X
  have hK := hKt.1
  have hts : ∀ w ∈ hq_tb, w.before args s = true := fun w h => hKt.2.2 w h args
  intro y0 M H locs ls hl hP hS hf
  unfold f_Pipe_hasStage_17 at hf
  obtain ⟨g1, hf⟩ := hm_gd_some hf
  obtain ⟨h9, h8⟩ := Prod.mk.inj (Option.some.inj hf)
  subst h9
  subst h8
  exact W.zret (ty := .boolean) hx hb hr (hq_nb2 (of_decide_eq_true g1)) (fun t ht _ => ⟨⟨_, (), rfl, rfl, by subst ht; exact hP⟩, hS.F ht⟩) hS.2.2 d_Pipe_hasStage_17 hlk
set_option maxHeartbeats 4000000 in
set_option maxRecDepth 100000 in
theorem w_Pipe_hasStage_16 {p : Program} {l : Launch} {e : Env} {s : State} {m : MethodId} {args : Array Value} {below : List Frame} {meth : Method} {c : Code} {D : va_G} {ca : Nat → ClassId} {B rl : Nat} {r : Int32} {M9 : hm_M} (X : hq_X p s m args meth c b_Pipe_hasStage R_Pipe 2 (some .boolean) D sc_cl (sc_ty ca) hq_tb) : ∀ (M : hm_M) (H : Heap) (locs : List Loc) (ls : Array Slot), lv_has ls 2 [] → hm_P D sc_cl ca 64 (sc_sh rl) B M hm_L0 H → va_S (hm_A B 64) s.heap H locs → f_Pipe_hasStage_16 M = some (r, M9) → W p l e ({ frames := 0, cells := 0, slots := 0, locals := 0 } : Room) s m args below meth c H locs 0 0 (MQ below (hq_QI D sc_cl ca 64 (sc_sh rl) B r M9 hm_L0) args s 0 0 (hm_A B 64)) (F0 m 16 ls []) := by
  obtain ⟨hx, hb, hml, hown, hr, hlk, hKt⟩ := id X
  have hK := hKt.1
  have hts : ∀ w ∈ hq_tb, w.before args s = true := fun w h => hKt.2.2 w h args
  intro  M H locs ls hl hP hS hf
  unfold f_Pipe_hasStage_16 at hf
  refine lv_iconst (v := 0) hx hb d_Pipe_hasStage_16 (by decide) ?_
  exact w_Pipe_hasStage_17 X _ _ _ _ _ (lv_sub hl [] rfl) hP hS hf
set_option maxHeartbeats 4000000 in
set_option maxRecDepth 100000 in
theorem w_Pipe_hasStage_e {p : Program} {l : Launch} {e : Env} {s : State} {m : MethodId} {args : Array Value} {below : List Frame} {meth : Method} {c : Code} {D : va_G} {ca : Nat → ClassId} {B rl : Nat} {r : Int32} {M9 : hm_M} (X : hq_X p s m args meth c b_Pipe_hasStage R_Pipe 2 (some .boolean) D sc_cl (sc_ty ca) hq_tb) : ∀ (x1 : Int32), ∀ (M : hm_M) (H : Heap) (locs : List Loc) (ls : Array Slot), lv_has ls 2 [(0, .ref (B + 1)), (1, .int x1)] → hm_P D sc_cl ca 64 (sc_sh rl) B M hm_L0 H → va_S (hm_A B 64) s.heap H locs → f_Pipe_hasStage M x1 = some (r, M9) → W p l e ({ frames := 0, cells := 0, slots := 0, locals := 0 } : Room) s m args below meth c H locs 0 0 (MQ below (hq_QI D sc_cl ca 64 (sc_sh rl) B r M9 hm_L0) args s 0 0 (hm_A B 64)) (F0 m 0 ls []) := by
  obtain ⟨hx, hb, hml, hown, hr, hlk, hKt⟩ := id X
  have hK := hKt.1
  have hts : ∀ w ∈ hq_tb, w.before args s = true := fun w h => hKt.2.2 w h args
  intro x1 M H locs ls hl hP hS hf
  unfold f_Pipe_hasStage at hf
  refine lv_iload_n hx hb d_Pipe_hasStage_0 rfl (lv_at hl 1 rfl) ?_
  refine lv_if_lt (tgt := 16) hx hb d_Pipe_hasStage_1 (by decide) (fun c1 => ?_) (fun c1 => ?_)
  · replace hf := (if_pos c1).symm.trans hf
    exact w_Pipe_hasStage_16 X _ _ _ _ (lv_sub hl [] rfl) hP hS hf
  · replace hf := (if_neg c1).symm.trans hf
    refine lv_iload_n hx hb d_Pipe_hasStage_4 rfl (lv_at hl 1 rfl) ?_
    refine lv_aload_n hx hb d_Pipe_hasStage_5 rfl (lv_at hl 0 rfl) ?_
    refine hq_get hx hb hts i_Pipe hown hK hP 1 (by decide) (sc_s_Pipe (rfl)) rfl 3 (by decide) (hts _ sc_wd_24) (fun _ h => h) (v := .int (M 1 3)) rfl d_Pipe_hasStage_6 ?_
    refine lv_icmp_ge (tgt := 16) hx hb d_Pipe_hasStage_9 (by decide) (fun c2 => ?_) (fun c2 => ?_)
    · replace hf := (if_pos c2).symm.trans hf
      exact w_Pipe_hasStage_16 X _ _ _ _ (lv_sub hl [] rfl) hP hS hf
    · replace hf := (if_neg c2).symm.trans hf
      refine lv_iconst (v := 1) hx hb d_Pipe_hasStage_12 (by decide) ?_
      refine lv_goto (tgt := 17) hx hb d_Pipe_hasStage_13 (by decide) ?_
      exact w_Pipe_hasStage_17 X _ _ _ _ _ (lv_sub hl [] rfl) hP hS hf
set_option maxHeartbeats 4000000 in
set_option maxRecDepth 100000 in
theorem c_Pipe_hasStage {l : Launch} {D : va_G} {ca : Nat → ClassId} {B rl : Nat} {r : Int32} {x1 : Int32} {M M9 : hm_M} (hf : f_Pipe_hasStage M x1 = some (r, M9)) : Met l y_Pipe_hasStage [Cond.code y_Pipe_hasStage b_Pipe_hasStage 2 (some .boolean)] ({ frames := 0, cells := 0, slots := 0, locals := 0 } : Room) (hq_Pre D sc_cl ca 64 (sc_sh rl) B (sc_ty ca) hq_tb M hm_L0 [.ref (B + 1), .int x1]) (hq_QI D sc_cl ca 64 (sc_sh rl) B r M9 hm_L0) 0 0 (hm_A B 64) := by
  refine Met.ofW (cc := b_Pipe_hasStage) (maxL := 2) (ret := (some .boolean)) (by decide +kernel) rfl ?_
  intro p e s m args below meth c s₁ Bd hml hv
  obtain ⟨rfl, hP, hK⟩ := hv
  have hl := lv_entry ([.ref (B + 1), .int x1]) (n := 2) (Nat.le_of_ble_eq_true rfl)
  rw [lg_entry_eq]
  generalize (lg_sl ([.ref (B + 1), .int x1]) ++ List.replicate (2 - (lg_sl ([.ref (B + 1), .int x1])).length) Slot.unset).toArray = ls at hl ⊢
  have hl : lv_has ls 2 [(0, .ref (B + 1)), (1, .int x1)] := hl
  exact w_Pipe_hasStage_e ⟨Bd.exec, Bd.bytes, hml, findClass_of_methodNamed Bd.named, Bd.returns, Bd.notSynchronized, hK⟩  _ _ _ _ _ hl hP va_S.rf hf
set_option maxHeartbeats 4000000 in
set_option maxRecDepth 100000 in
theorem w_Pipe_addStage_e {p : Program} {l : Launch} {e : Env} {s : State} {m : MethodId} {args : Array Value} {below : List Frame} {meth : Method} {c : Code} {D : va_G} {ca : Nat → ClassId} {B rl : Nat} {r : Int32} {M9 : hm_M} (X : hq_X p s m args meth c b_Pipe_addStage R_Pipe 4 (some .int) D sc_cl (sc_ty ca) hq_tb) : ∀ (x1 : Int32), ∀ (x2 : Int32), ∀ (M : hm_M) (H : Heap) (locs : List Loc) (ls : Array Slot), lv_has ls 4 [(0, .ref (B + 1)), (1, .int x1), (2, .int x2)] → hm_P D sc_cl ca 64 (sc_sh rl) B M hm_L0 H → va_S (hm_A B 64) s.heap H locs → f_Pipe_addStage M x1 x2 = some (r, M9) → W p l e ({ frames := 0, cells := 0, slots := 0, locals := 0 } : Room) s m args below meth c H locs 0 0 (MQ below (hq_QI D sc_cl ca 64 (sc_sh rl) B r M9 hm_L0) args s 0 0 (hm_A B 64)) (F0 m 0 ls []) := by
  obtain ⟨hx, hb, hml, hown, hr, hlk, hKt⟩ := id X
  have hK := hKt.1
  have hts : ∀ w ∈ hq_tb, w.before args s = true := fun w h => hKt.2.2 w h args
  intro x1 x2 M H locs ls hl hP hS hf
  unfold f_Pipe_addStage at hf
  refine lv_aload_n hx hb d_Pipe_addStage_0 rfl (lv_at hl 0 rfl) ?_
  refine hq_get hx hb hts i_Pipe hown hK hP 1 (by decide) (sc_s_Pipe (rfl)) rfl 1 (by decide) (hts _ sc_wd_25) (fun _ h => h) (v := .ref (B + 2)) rfl d_Pipe_addStage_1 ?_
  refine lv_aload_n hx hb d_Pipe_addStage_4 rfl (lv_at hl 0 rfl) ?_
  refine hq_get hx hb hts i_Pipe hown hK hP 1 (by decide) (sc_s_Pipe (rfl)) rfl 3 (by decide) (hts _ sc_wd_24) (fun _ h => h) (v := .int (M 1 3)) rfl d_Pipe_addStage_5 ?_
  obtain ⟨g1, hf⟩ := hm_gd_some hf
  refine hq_aald hx hb hK hP 2 (by decide) (sc_s_starr (rfl)) 2 rfl rfl g1 d_Pipe_addStage_8 ?_
  refine lv_astore_n (lv' := [(3, .ref (B + (5 + 4 * (M 1 3).toNatClampNeg))), (0, .ref (B + 1)), (1, .int x1), (2, .int x2)]) hx hb d_Pipe_addStage_9 rfl hl (by decide) rfl (fun ls hl => ?_)
  refine lv_aload_n hx hb d_Pipe_addStage_10 rfl (lv_at hl 0 rfl) ?_
  refine lv_iload_n hx hb d_Pipe_addStage_11 rfl (lv_at hl 2 rfl) ?_
  refine hq_putN hx hb hts i_Stage t_Stage t_Stage_ok n_Stage hown hK hP hS (5 + 4 * (M 1 3).toNatClampNeg) (sc_lt (sck_st g1) (by decide)) (sc_s_Stage ((sck_st g1))) rfl 0 (by decide) (hts _ sc_wd_26) (fun _ h => h) rfl (ty := .int) (x := x1) (by decide +kernel) rfl rfl rfl d_Pipe_addStage_12 (fun H locs hP hS => ?_)
  obtain ⟨M_2, e_2, hf⟩ := hm_st_some hf
  rw [← e_2] at hP
  refine lv_aload_n hx hb d_Pipe_addStage_15 rfl (lv_at hl 0 rfl) ?_
  refine lv_iload_n hx hb d_Pipe_addStage_16 rfl (lv_at hl 3 rfl) ?_
  refine hq_putN hx hb hts i_Stage t_Stage t_Stage_ok n_Stage hown hK hP hS (5 + 4 * (M 1 3).toNatClampNeg) (sc_lt (sck_st g1) (by decide)) (sc_s_Stage ((sck_st g1))) rfl 1 (by decide) (hts _ sc_wd_27) (fun _ h => h) rfl (ty := .int) (x := x2) (by decide +kernel) rfl rfl rfl d_Pipe_addStage_17 (fun H locs hP hS => ?_)
  obtain ⟨M_3, e_3, hf⟩ := hm_st_some hf
  rw [← e_3] at hP
  refine lv_aload_n hx hb d_Pipe_addStage_20 rfl (lv_at hl 1 rfl) ?_
  refine lv_dup hx hb d_Pipe_addStage_21 rfl ?_
  refine hq_get hx hb hts i_Pipe hown hK hP 1 (by decide) (sc_s_Pipe (rfl)) rfl 3 (by decide) (hts _ sc_wd_24) (fun _ h => h) (v := .int (M_3 1 3)) rfl d_Pipe_addStage_22 ?_
  refine lv_iconst (v := 1) hx hb d_Pipe_addStage_25 (by decide) ?_
  refine lv_iadd hx hb d_Pipe_addStage_26 ?_
  refine hq_put hx hb hts i_Pipe t_Pipe t_Pipe_ok n_Pipe hown hK hP hS 1 (by decide) (sc_s_Pipe (rfl)) rfl 3 (by decide) (hts _ sc_wd_24) (fun _ h => h) rfl (ty := .int) (x := ((M_3 1 3) + 1)) (by decide +kernel) rfl rfl rfl d_Pipe_addStage_27 (fun H locs hP hS => ?_)
  obtain ⟨M_4, e_4, hf⟩ := hm_st_some hf
  rw [← e_4] at hP
  refine lv_aload_n hx hb d_Pipe_addStage_30 rfl (lv_at hl 1 rfl) ?_
  refine hq_get hx hb hts i_Pipe hown hK hP 1 (by decide) (sc_s_Pipe (rfl)) rfl 3 (by decide) (hts _ sc_wd_24) (fun _ h => h) (v := .int (M_4 1 3)) rfl d_Pipe_addStage_31 ?_
  refine lv_iconst (v := 1) hx hb d_Pipe_addStage_34 (by decide) ?_
  refine lv_isub hx hb d_Pipe_addStage_35 ?_
  obtain ⟨h9, h8⟩ := Prod.mk.inj (Option.some.inj hf)
  subst h9
  subst h8
  exact W.iret hx hb hr (fun t ht _ => ⟨⟨_, (), rfl, rfl, by subst ht; exact hP⟩, hS.F ht⟩) hS.2.2 d_Pipe_addStage_36 hlk
set_option maxHeartbeats 4000000 in
set_option maxRecDepth 100000 in
theorem c_Pipe_addStage {l : Launch} {D : va_G} {ca : Nat → ClassId} {B rl : Nat} {r : Int32} {x1 : Int32} {x2 : Int32} {M M9 : hm_M} (hf : f_Pipe_addStage M x1 x2 = some (r, M9)) : Met l y_Pipe_addStage [Cond.code y_Pipe_addStage b_Pipe_addStage 4 (some .int)] ({ frames := 0, cells := 0, slots := 0, locals := 0 } : Room) (hq_Pre D sc_cl ca 64 (sc_sh rl) B (sc_ty ca) hq_tb M hm_L0 [.ref (B + 1), .int x1, .int x2]) (hq_QI D sc_cl ca 64 (sc_sh rl) B r M9 hm_L0) 0 0 (hm_A B 64) := by
  refine Met.ofW (cc := b_Pipe_addStage) (maxL := 4) (ret := (some .int)) (by decide +kernel) rfl ?_
  intro p e s m args below meth c s₁ Bd hml hv
  obtain ⟨rfl, hP, hK⟩ := hv
  have hl := lv_entry ([.ref (B + 1), .int x1, .int x2]) (n := 4) (Nat.le_of_ble_eq_true rfl)
  rw [lg_entry_eq]
  generalize (lg_sl ([.ref (B + 1), .int x1, .int x2]) ++ List.replicate (4 - (lg_sl ([.ref (B + 1), .int x1, .int x2])).length) Slot.unset).toArray = ls at hl ⊢
  have hl : lv_has ls 4 [(0, .ref (B + 1)), (1, .int x1), (2, .int x2)] := hl
  exact w_Pipe_addStage_e ⟨Bd.exec, Bd.bytes, hml, findClass_of_methodNamed Bd.named, Bd.returns, Bd.notSynchronized, hK⟩  _ _ _ _ _ _ hl hP va_S.rf hf
set_option maxHeartbeats 4000000 in
set_option maxRecDepth 100000 in
theorem w_Pipe_tileCount_e {p : Program} {l : Launch} {e : Env} {s : State} {m : MethodId} {args : Array Value} {below : List Frame} {meth : Method} {c : Code} {D : va_G} {ca : Nat → ClassId} {B rl : Nat} {r : Int32} {M9 : hm_M} (X : hq_X p s m args meth c b_Pipe_tileCount R_Pipe 1 (some .int) D sc_cl (sc_ty ca) hq_tb) : ∀ (M : hm_M) (H : Heap) (locs : List Loc) (ls : Array Slot), lv_has ls 1 [(0, .ref (B + 1))] → hm_P D sc_cl ca 64 (sc_sh rl) B M hm_L0 H → va_S (hm_A B 64) s.heap H locs → f_Pipe_tileCount M = some (r, M9) → W p l e ({ frames := 0, cells := 0, slots := 0, locals := 0 } : Room) s m args below meth c H locs 0 0 (MQ below (hq_QI D sc_cl ca 64 (sc_sh rl) B r M9 hm_L0) args s 0 0 (hm_A B 64)) (F0 m 0 ls []) := by
  obtain ⟨hx, hb, hml, hown, hr, hlk, hKt⟩ := id X
  have hK := hKt.1
  have hts : ∀ w ∈ hq_tb, w.before args s = true := fun w h => hKt.2.2 w h args
  intro  M H locs ls hl hP hS hf
  unfold f_Pipe_tileCount at hf
  refine lv_aload_n hx hb d_Pipe_tileCount_0 rfl (lv_at hl 0 rfl) ?_
  refine hq_get hx hb hts i_Pipe hown hK hP 1 (by decide) (sc_s_Pipe (rfl)) rfl 6 (by decide) (hts _ sc_wd_28) (fun _ h => h) (v := .int (M 1 6)) rfl d_Pipe_tileCount_1 ?_
  refine lv_aload_n hx hb d_Pipe_tileCount_4 rfl (lv_at hl 0 rfl) ?_
  refine hq_get hx hb hts i_Pipe hown hK hP 1 (by decide) (sc_s_Pipe (rfl)) rfl 4 (by decide) (hts _ sc_wd_29) (fun _ h => h) (v := .int (M 1 4)) rfl d_Pipe_tileCount_5 ?_
  refine lv_iadd hx hb d_Pipe_tileCount_8 ?_
  refine lv_iconst (v := 1) hx hb d_Pipe_tileCount_9 (by decide) ?_
  refine lv_isub hx hb d_Pipe_tileCount_10 ?_
  refine lv_aload_n hx hb d_Pipe_tileCount_11 rfl (lv_at hl 0 rfl) ?_
  refine hq_get hx hb hts i_Pipe hown hK hP 1 (by decide) (sc_s_Pipe (rfl)) rfl 4 (by decide) (hts _ sc_wd_29) (fun _ h => h) (v := .int (M 1 4)) rfl d_Pipe_tileCount_12 ?_
  obtain ⟨g1, hf⟩ := hm_gd_some hf
  refine lv_idiv hx hb d_Pipe_tileCount_15 (of_decide_eq_true g1) ?_
  obtain ⟨h9, h8⟩ := Prod.mk.inj (Option.some.inj hf)
  subst h9
  subst h8
  exact W.iret hx hb hr (fun t ht _ => ⟨⟨_, (), rfl, rfl, by subst ht; exact hP⟩, hS.F ht⟩) hS.2.2 d_Pipe_tileCount_16 hlk
set_option maxHeartbeats 4000000 in
set_option maxRecDepth 100000 in
theorem c_Pipe_tileCount {l : Launch} {D : va_G} {ca : Nat → ClassId} {B rl : Nat} {r : Int32} {M M9 : hm_M} (hf : f_Pipe_tileCount M  = some (r, M9)) : Met l y_Pipe_tileCount [Cond.code y_Pipe_tileCount b_Pipe_tileCount 1 (some .int)] ({ frames := 0, cells := 0, slots := 0, locals := 0 } : Room) (hq_Pre D sc_cl ca 64 (sc_sh rl) B (sc_ty ca) hq_tb M hm_L0 [.ref (B + 1)]) (hq_QI D sc_cl ca 64 (sc_sh rl) B r M9 hm_L0) 0 0 (hm_A B 64) := by
  refine Met.ofW (cc := b_Pipe_tileCount) (maxL := 1) (ret := (some .int)) (by decide +kernel) rfl ?_
  intro p e s m args below meth c s₁ Bd hml hv
  obtain ⟨rfl, hP, hK⟩ := hv
  have hl := lv_entry ([.ref (B + 1)]) (n := 1) (Nat.le_of_ble_eq_true rfl)
  rw [lg_entry_eq]
  generalize (lg_sl ([.ref (B + 1)]) ++ List.replicate (1 - (lg_sl ([.ref (B + 1)])).length) Slot.unset).toArray = ls at hl ⊢
  have hl : lv_has ls 1 [(0, .ref (B + 1))] := hl
  exact w_Pipe_tileCount_e ⟨Bd.exec, Bd.bytes, hml, findClass_of_methodNamed Bd.named, Bd.returns, Bd.notSynchronized, hK⟩   _ _ _ _ hl hP va_S.rf hf
set_option maxHeartbeats 4000000 in
set_option maxRecDepth 100000 in
theorem w_Pipe_tileFirst_e {p : Program} {l : Launch} {e : Env} {s : State} {m : MethodId} {args : Array Value} {below : List Frame} {meth : Method} {c : Code} {D : va_G} {ca : Nat → ClassId} {B rl : Nat} {r : Int32} {M9 : hm_M} (X : hq_X p s m args meth c b_Pipe_tileFirst R_Pipe 2 (some .int) D sc_cl (sc_ty ca) hq_tb) : ∀ (x1 : Int32), ∀ (M : hm_M) (H : Heap) (locs : List Loc) (ls : Array Slot), lv_has ls 2 [(0, .ref (B + 1)), (1, .int x1)] → hm_P D sc_cl ca 64 (sc_sh rl) B M hm_L0 H → va_S (hm_A B 64) s.heap H locs → f_Pipe_tileFirst M x1 = some (r, M9) → W p l e ({ frames := 0, cells := 0, slots := 0, locals := 0 } : Room) s m args below meth c H locs 0 0 (MQ below (hq_QI D sc_cl ca 64 (sc_sh rl) B r M9 hm_L0) args s 0 0 (hm_A B 64)) (F0 m 0 ls []) := by
  obtain ⟨hx, hb, hml, hown, hr, hlk, hKt⟩ := id X
  have hK := hKt.1
  have hts : ∀ w ∈ hq_tb, w.before args s = true := fun w h => hKt.2.2 w h args
  intro x1 M H locs ls hl hP hS hf
  unfold f_Pipe_tileFirst at hf
  refine lv_iload_n hx hb d_Pipe_tileFirst_0 rfl (lv_at hl 1 rfl) ?_
  refine lv_aload_n hx hb d_Pipe_tileFirst_1 rfl (lv_at hl 0 rfl) ?_
  refine hq_get hx hb hts i_Pipe hown hK hP 1 (by decide) (sc_s_Pipe (rfl)) rfl 4 (by decide) (hts _ sc_wd_29) (fun _ h => h) (v := .int (M 1 4)) rfl d_Pipe_tileFirst_2 ?_
  refine lv_imul hx hb d_Pipe_tileFirst_5 ?_
  obtain ⟨h9, h8⟩ := Prod.mk.inj (Option.some.inj hf)
  subst h9
  subst h8
  exact W.iret hx hb hr (fun t ht _ => ⟨⟨_, (), rfl, rfl, by subst ht; exact hP⟩, hS.F ht⟩) hS.2.2 d_Pipe_tileFirst_6 hlk
set_option maxHeartbeats 4000000 in
set_option maxRecDepth 100000 in
theorem c_Pipe_tileFirst {l : Launch} {D : va_G} {ca : Nat → ClassId} {B rl : Nat} {r : Int32} {x1 : Int32} {M M9 : hm_M} (hf : f_Pipe_tileFirst M x1 = some (r, M9)) : Met l y_Pipe_tileFirst [Cond.code y_Pipe_tileFirst b_Pipe_tileFirst 2 (some .int)] ({ frames := 0, cells := 0, slots := 0, locals := 0 } : Room) (hq_Pre D sc_cl ca 64 (sc_sh rl) B (sc_ty ca) hq_tb M hm_L0 [.ref (B + 1), .int x1]) (hq_QI D sc_cl ca 64 (sc_sh rl) B r M9 hm_L0) 0 0 (hm_A B 64) := by
  refine Met.ofW (cc := b_Pipe_tileFirst) (maxL := 2) (ret := (some .int)) (by decide +kernel) rfl ?_
  intro p e s m args below meth c s₁ Bd hml hv
  obtain ⟨rfl, hP, hK⟩ := hv
  have hl := lv_entry ([.ref (B + 1), .int x1]) (n := 2) (Nat.le_of_ble_eq_true rfl)
  rw [lg_entry_eq]
  generalize (lg_sl ([.ref (B + 1), .int x1]) ++ List.replicate (2 - (lg_sl ([.ref (B + 1), .int x1])).length) Slot.unset).toArray = ls at hl ⊢
  have hl : lv_has ls 2 [(0, .ref (B + 1)), (1, .int x1)] := hl
  exact w_Pipe_tileFirst_e ⟨Bd.exec, Bd.bytes, hml, findClass_of_methodNamed Bd.named, Bd.returns, Bd.notSynchronized, hK⟩  _ _ _ _ _ hl hP va_S.rf hf
set_option maxHeartbeats 4000000 in
set_option maxRecDepth 100000 in
theorem w_Pipe_tileLast_e {p : Program} {l : Launch} {e : Env} {s : State} {m : MethodId} {args : Array Value} {below : List Frame} {meth : Method} {c : Code} {D : va_G} {ca : Nat → ClassId} {B rl : Nat} {r : Int32} {M9 : hm_M} (X : hq_X p s m args meth c b_Pipe_tileLast R_Pipe 2 (some .int) D sc_cl (sc_ty ca) hq_tb) : ∀ (x1 : Int32), ∀ (M : hm_M) (H : Heap) (locs : List Loc) (ls : Array Slot), lv_has ls 2 [(0, .ref (B + 1)), (1, .int x1)] → hm_P D sc_cl ca 64 (sc_sh rl) B M hm_L0 H → va_S (hm_A B 64) s.heap H locs → f_Pipe_tileLast M x1 = some (r, M9) → W p l e ({ frames := 1, cells := 0, slots := 0, locals := 21 } : Room) s m args below meth c H locs 0 0 (MQ below (hq_QI D sc_cl ca 64 (sc_sh rl) B r M9 hm_L0) args s 0 0 (hm_A B 64)) (F0 m 0 ls []) := by
  obtain ⟨hx, hb, hml, hown, hr, hlk, hKt⟩ := id X
  have hK := hKt.1
  have hts : ∀ w ∈ hq_tb, w.before args s = true := fun w h => hKt.2.2 w h args
  intro x1 M H locs ls hl hP hS hf
  unfold f_Pipe_tileLast at hf
  refine lv_aload_n hx hb d_Pipe_tileLast_0 rfl (lv_at hl 0 rfl) ?_
  refine lv_iload_n hx hb d_Pipe_tileLast_1 rfl (lv_at hl 1 rfl) ?_
  obtain ⟨r1, M_2, hc3, hf⟩ := hm_bI_some hf
  refine hq_callI (va_runV (As := [.int x1]) (rest := []) ⟨hx, hb, hml, hown, hts⟩ (c_Pipe_tileFirst (l := l) (D := D) (ca := ca) (B := B) (rl := rl)  hc3) (hq_cwV (nn := 1) hts sc_wd_30 sc_wd_31 sc_wd_32 sc_wd_33 sc_wd_34 (by decide +kernel) rfl rfl ⟨(Nat.le_of_ble_eq_true rfl), (Nat.le_of_ble_eq_true rfl)⟩) (hq_preV hKt hP (by decide) (sc_s_Pipe (rfl)) rfl) rfl rfl hl.1 rfl (lv_room (Nat.le_of_ble_eq_true rfl)) d_Pipe_tileLast_2 ⟨(Nat.le_of_ble_eq_true rfl), (Nat.le_of_ble_eq_true rfl)⟩) hS (fun H locs hP hS => ?_)
  refine lv_aload_n hx hb d_Pipe_tileLast_5 rfl (lv_at hl 0 rfl) ?_
  refine hq_get hx hb hts i_Pipe hown hK hP 1 (by decide) (sc_s_Pipe (rfl)) rfl 4 (by decide) (hts _ sc_wd_29) (fun _ h => h) (v := .int (M_2 1 4)) rfl d_Pipe_tileLast_6 ?_
  refine lv_iadd hx hb d_Pipe_tileLast_9 ?_
  refine lv_aload_n hx hb d_Pipe_tileLast_10 rfl (lv_at hl 0 rfl) ?_
  refine hq_get hx hb hts i_Pipe hown hK hP 1 (by decide) (sc_s_Pipe (rfl)) rfl 6 (by decide) (hts _ sc_wd_28) (fun _ h => h) (v := .int (M_2 1 6)) rfl d_Pipe_tileLast_11 ?_
  refine va_mmin hx hb (hml.trans hl.1.symm) hown (hts _ sc_wd_35) (hts _ sc_wd_3) (hts _ sc_wd_4) (hts _ sc_wd_5) (Nat.le_of_ble_eq_true rfl) (Nat.le_of_ble_eq_true rfl) (Nat.le_of_ble_eq_true rfl) (Nat.le_of_ble_eq_true rfl) d_Pipe_tileLast_14 ?_
  refine lv_iconst (v := 1) hx hb d_Pipe_tileLast_17 (by decide) ?_
  refine lv_isub hx hb d_Pipe_tileLast_18 ?_
  obtain ⟨h9, h8⟩ := Prod.mk.inj (Option.some.inj hf)
  subst h9
  subst h8
  exact W.iret hx hb hr (fun t ht _ => ⟨⟨_, (), rfl, rfl, by subst ht; exact hP⟩, hS.F ht⟩) hS.2.2 d_Pipe_tileLast_19 hlk
set_option maxHeartbeats 4000000 in
set_option maxRecDepth 100000 in
theorem c_Pipe_tileLast {l : Launch} {D : va_G} {ca : Nat → ClassId} {B rl : Nat} {r : Int32} {x1 : Int32} {M M9 : hm_M} (hf : f_Pipe_tileLast M x1 = some (r, M9)) : Met l y_Pipe_tileLast [Cond.code y_Pipe_tileLast b_Pipe_tileLast 2 (some .int)] ({ frames := 1, cells := 0, slots := 0, locals := 21 } : Room) (hq_Pre D sc_cl ca 64 (sc_sh rl) B (sc_ty ca) hq_tb M hm_L0 [.ref (B + 1), .int x1]) (hq_QI D sc_cl ca 64 (sc_sh rl) B r M9 hm_L0) 0 0 (hm_A B 64) := by
  refine Met.ofW (cc := b_Pipe_tileLast) (maxL := 2) (ret := (some .int)) (by decide +kernel) rfl ?_
  intro p e s m args below meth c s₁ Bd hml hv
  obtain ⟨rfl, hP, hK⟩ := hv
  have hl := lv_entry ([.ref (B + 1), .int x1]) (n := 2) (Nat.le_of_ble_eq_true rfl)
  rw [lg_entry_eq]
  generalize (lg_sl ([.ref (B + 1), .int x1]) ++ List.replicate (2 - (lg_sl ([.ref (B + 1), .int x1])).length) Slot.unset).toArray = ls at hl ⊢
  have hl : lv_has ls 2 [(0, .ref (B + 1)), (1, .int x1)] := hl
  exact w_Pipe_tileLast_e ⟨Bd.exec, Bd.bytes, hml, findClass_of_methodNamed Bd.named, Bd.returns, Bd.notSynchronized, hK⟩  _ _ _ _ _ hl hP va_S.rf hf
set_option maxHeartbeats 4000000 in
set_option maxRecDepth 100000 in
theorem w_Pipe_valuesWorkedOutFor_57 {p : Program} {l : Launch} {e : Env} {s : State} {m : MethodId} {args : Array Value} {below : List Frame} {meth : Method} {c : Code} {D : va_G} {ca : Nat → ClassId} {B rl : Nat} {r : Int32} {M9 : hm_M} (X : hq_X p s m args meth c b_Pipe_valuesWorkedOutFor R_Pipe 7 (some .int) D sc_cl (sc_ty ca) hq_tb) {k2 : Int32 → Int32 → hm_M → Option (Int32 × hm_M)} (hk2 : ∀ (x1 : Int32), ∀ (x2 : Int32), ∀ (M : hm_M) (H : Heap) (locs : List Loc) (ls : Array Slot), lv_has ls 7 [(0, .ref (B + 1)), (1, .int x1), (2, .int x2)] → hm_P D sc_cl ca 64 (sc_sh rl) B M hm_L0 H → va_S (hm_A B 64) s.heap H locs → k2 x1 x2 M = some (r, M9) → W p l e ({ frames := 0, cells := 0, slots := 0, locals := 0 } : Room) s m args below meth c H locs 0 0 (MQ below (hq_QI D sc_cl ca 64 (sc_sh rl) B r M9 hm_L0) args s 0 0 (hm_A B 64)) (F0 m 2 ls [])) {k20 : Int32 → Int32 → Nat → Int32 → Int32 → hm_M → Option (Int32 × hm_M)} (hk20 : ∀ (x1 : Int32), ∀ (x2 : Int32), ∀ (a3 : Nat), ∀ (x4 : Int32), ∀ (x5 : Int32), sc_kd a3 = 5 → ∀ (M : hm_M) (H : Heap) (locs : List Loc) (ls : Array Slot), lv_has ls 7 [(0, .ref (B + 1)), (1, .int x1), (2, .int x2), (3, .ref (B + a3)), (4, .int x4), (5, .int x5)] → hm_P D sc_cl ca 64 (sc_sh rl) B M hm_L0 H → va_S (hm_A B 64) s.heap H locs → k20 x1 x2 a3 x4 x5 M = some (r, M9) → W p l e ({ frames := 0, cells := 0, slots := 0, locals := 0 } : Room) s m args below meth c H locs 0 0 (MQ below (hq_QI D sc_cl ca 64 (sc_sh rl) B r M9 hm_L0) args s 0 0 (hm_A B 64)) (F0 m 20 ls [])) : ∀ (x1 : Int32), ∀ (x2 : Int32), ∀ (a3 : Nat), ∀ (x5 : Int32), ∀ (y0 : Int32), ∀ (y1 : Int32), sc_kd a3 = 5 → ∀ (M : hm_M) (H : Heap) (locs : List Loc) (ls : Array Slot), lv_has ls 7 [(0, .ref (B + 1)), (1, .int x1), (2, .int x2), (3, .ref (B + a3)), (5, .int x5)] → hm_P D sc_cl ca 64 (sc_sh rl) B M hm_L0 H → va_S (hm_A B 64) s.heap H locs → f_Pipe_valuesWorkedOutFor_57 k2 k20 x1 x2 a3 x5 y0 y1 M = some (r, M9) → W p l e ({ frames := 0, cells := 0, slots := 0, locals := 0 } : Room) s m args below meth c H locs 0 0 (MQ below (hq_QI D sc_cl ca 64 (sc_sh rl) B r M9 hm_L0) args s 0 0 (hm_A B 64)) (F0 m 57 ls [.int y1, .int y0]) := by
  obtain ⟨hx, hb, hml, hown, hr, hlk, hKt⟩ := id X
  have hK := hKt.1
  have hts : ∀ w ∈ hq_tb, w.before args s = true := fun w h => hKt.2.2 w h args
  intro x1 x2 a3 x5 y0 y1 h_a3 M H locs ls hl hP hS hf
  unfold f_Pipe_valuesWorkedOutFor_57 at hf
  refine lv_iadd hx hb d_Pipe_valuesWorkedOutFor_57 ?_
  refine lv_istore (lv' := [(4, .int (y0 + y1)), (0, .ref (B + 1)), (1, .int x1), (2, .int x2), (3, .ref (B + a3)), (5, .int x5)]) hx hb d_Pipe_valuesWorkedOutFor_58 hl (by decide) rfl (fun ls hl => ?_)
  refine lv_iinc (v := (x5 + 1)) (lv' := [(5, .int (x5 + 1)), (4, .int (y0 + y1)), (0, .ref (B + 1)), (1, .int x1), (2, .int x2), (3, .ref (B + a3))]) hx hb d_Pipe_valuesWorkedOutFor_60 hl (k := 5) rfl rfl (by decide) rfl (fun ls hl => ?_)
  refine lv_goto (tgt := 20) hx hb d_Pipe_valuesWorkedOutFor_63 (by decide) ?_
  exact hk20 _ _ _ _ _ h_a3 _ _ _ _ (lv_sub hl [2, 3, 4, 5, 1, 0] rfl) hP hS hf
set_option maxHeartbeats 4000000 in
set_option maxRecDepth 100000 in
theorem w_Pipe_valuesWorkedOutFor_20 {p : Program} {l : Launch} {e : Env} {s : State} {m : MethodId} {args : Array Value} {below : List Frame} {meth : Method} {c : Code} {D : va_G} {ca : Nat → ClassId} {B rl : Nat} {r : Int32} {M9 : hm_M} (X : hq_X p s m args meth c b_Pipe_valuesWorkedOutFor R_Pipe 7 (some .int) D sc_cl (sc_ty ca) hq_tb) {k2 : Int32 → Int32 → hm_M → Option (Int32 × hm_M)} (hk2 : ∀ (x1 : Int32), ∀ (x2 : Int32), ∀ (M : hm_M) (H : Heap) (locs : List Loc) (ls : Array Slot), lv_has ls 7 [(0, .ref (B + 1)), (1, .int x1), (2, .int x2)] → hm_P D sc_cl ca 64 (sc_sh rl) B M hm_L0 H → va_S (hm_A B 64) s.heap H locs → k2 x1 x2 M = some (r, M9) → W p l e ({ frames := 0, cells := 0, slots := 0, locals := 0 } : Room) s m args below meth c H locs 0 0 (MQ below (hq_QI D sc_cl ca 64 (sc_sh rl) B r M9 hm_L0) args s 0 0 (hm_A B 64)) (F0 m 2 ls [])) : ∀ (n : Nat), ∀ (x1 : Int32), ∀ (x2 : Int32), ∀ (a3 : Nat), ∀ (x4 : Int32), ∀ (x5 : Int32), sc_kd a3 = 5 → ∀ (M : hm_M) (H : Heap) (locs : List Loc) (ls : Array Slot), lv_has ls 7 [(0, .ref (B + 1)), (1, .int x1), (2, .int x2), (3, .ref (B + a3)), (4, .int x4), (5, .int x5)] → hm_P D sc_cl ca 64 (sc_sh rl) B M hm_L0 H → va_S (hm_A B 64) s.heap H locs → f_Pipe_valuesWorkedOutFor_20 k2 n x1 x2 a3 x4 x5 M = some (r, M9) → W p l e ({ frames := 0, cells := 0, slots := 0, locals := 0 } : Room) s m args below meth c H locs 0 0 (MQ below (hq_QI D sc_cl ca 64 (sc_sh rl) B r M9 hm_L0) args s 0 0 (hm_A B 64)) (F0 m 20 ls []) := by
  obtain ⟨hx, hb, hml, hown, hr, hlk, hKt⟩ := id X
  have hK := hKt.1
  have hts : ∀ w ∈ hq_tb, w.before args s = true := fun w h => hKt.2.2 w h args
  intro n
  induction n with
  | zero =>
    intro x1 x2 a3 x4 x5 h_a3 M H locs ls hl hP hS hf
    cases hf
  | succ n ih =>
    intro x1 x2 a3 x4 x5 h_a3 M H locs ls hl hP hS hf
    rw [f_Pipe_valuesWorkedOutFor_20] at hf
    refine lv_iload hx hb d_Pipe_valuesWorkedOutFor_20 (lv_at hl 5 rfl) ?_
    refine lv_aload_n hx hb d_Pipe_valuesWorkedOutFor_22 rfl (lv_at hl 3 rfl) ?_
    refine hq_getN hx hb hts i_Stage hown hK hP a3 (sc_lt h_a3 (by decide)) (sc_s_Stage (h_a3)) rfl 3 (by decide) (hts _ sc_wd_37) (fun _ h => h) (v := .int (M a3 3)) rfl d_Pipe_valuesWorkedOutFor_23 ?_
    refine lv_icmp_ge (tgt := 66) hx hb d_Pipe_valuesWorkedOutFor_26 (by decide) (fun c1 => ?_) (fun c1 => ?_)
    · replace hf := (if_pos c1).symm.trans hf
      refine lv_aload_n hx hb d_Pipe_valuesWorkedOutFor_66 rfl (lv_at hl 0 rfl) ?_
      refine hq_get hx hb hts i_Pipe hown hK hP 1 (by decide) (sc_s_Pipe (rfl)) rfl 2 (by decide) (hts _ sc_wd_36) (fun _ h => h) (v := .ref (B + 3)) rfl d_Pipe_valuesWorkedOutFor_67 ?_
      refine lv_iload_n hx hb d_Pipe_valuesWorkedOutFor_70 rfl (lv_at hl 2 rfl) ?_
      refine lv_iload hx hb d_Pipe_valuesWorkedOutFor_71 (lv_at hl 4 rfl) ?_
      obtain ⟨g2, hf⟩ := hm_gd_some hf
      refine hq_iast hx hb hK hP hS 3 (by decide) (sc_s_ia8 (rfl)) 0 rfl g2 d_Pipe_valuesWorkedOutFor_73 (fun H locs hP hS => ?_)
      obtain ⟨M_3, e_3, hf⟩ := hm_st_some hf
      rw [← e_3] at hP
      refine lv_iinc (v := (x2 + 1)) (lv' := [(2, .int (x2 + 1)), (0, .ref (B + 1)), (1, .int x1), (3, .ref (B + a3)), (4, .int x4), (5, .int x5)]) hx hb d_Pipe_valuesWorkedOutFor_74 hl (k := 2) rfl rfl (by decide) rfl (fun ls hl => ?_)
      refine lv_goto (tgt := 2) hx hb d_Pipe_valuesWorkedOutFor_77 (by decide) ?_
      exact hk2 _ _ _ _ _ _ (lv_sub hl [1, 2, 0] rfl) hP hS hf
    · replace hf := (if_neg c1).symm.trans hf
      refine lv_aload_n hx hb d_Pipe_valuesWorkedOutFor_29 rfl (lv_at hl 3 rfl) ?_
      refine hq_getN hx hb hts i_Stage hown hK hP a3 (sc_lt h_a3 (by decide)) (sc_s_Stage (h_a3)) rfl 4 (by decide) (hts _ sc_wd_38) (fun _ h => h) (v := .ref (B + (a3 + 1))) rfl d_Pipe_valuesWorkedOutFor_30 ?_
      refine lv_iload hx hb d_Pipe_valuesWorkedOutFor_33 (lv_at hl 5 rfl) ?_
      obtain ⟨g4, hf⟩ := hm_gd_some hf
      refine hq_iald hx hb hK hP (a3 + 1) (sc_lt (sck_Stage1 h_a3) (by decide)) (sc_s_ia4 ((sck_Stage1 h_a3))) 0 rfl g4 d_Pipe_valuesWorkedOutFor_35 ?_
      refine lv_istore (lv' := [(6, .int (M (a3 + 1) x5.toNatClampNeg)), (0, .ref (B + 1)), (1, .int x1), (2, .int x2), (3, .ref (B + a3)), (4, .int x4), (5, .int x5)]) hx hb d_Pipe_valuesWorkedOutFor_36 hl (by decide) rfl (fun ls hl => ?_)
      refine lv_iload hx hb d_Pipe_valuesWorkedOutFor_38 (lv_at hl 5 rfl) ?_
      refine lv_iload hx hb d_Pipe_valuesWorkedOutFor_40 (lv_at hl 0 rfl) ?_
      refine lv_iconst (v := (-1)) hx hb d_Pipe_valuesWorkedOutFor_42 (by decide) ?_
      refine lv_icmp_ne (tgt := 50) hx hb d_Pipe_valuesWorkedOutFor_43 (by decide) (fun c5 => ?_) (fun c5 => ?_)
      · replace hf := (if_neg c5).symm.trans hf
        refine lv_aload_n hx hb d_Pipe_valuesWorkedOutFor_50 rfl (lv_at hl 1 rfl) ?_
        refine hq_get hx hb hts i_Pipe hown hK hP 1 (by decide) (sc_s_Pipe (rfl)) rfl 2 (by decide) (hts _ sc_wd_36) (fun _ h => h) (v := .ref (B + 3)) rfl d_Pipe_valuesWorkedOutFor_51 ?_
        refine lv_iload hx hb d_Pipe_valuesWorkedOutFor_54 (lv_at hl 0 rfl) ?_
        obtain ⟨g6, hf⟩ := hm_gd_some hf
        refine hq_iald hx hb hK hP 3 (by decide) (sc_s_ia8 (rfl)) 0 rfl g6 d_Pipe_valuesWorkedOutFor_56 ?_
        exact w_Pipe_valuesWorkedOutFor_57 X hk2 ih _ _ _ _ _ _ h_a3 _ _ _ _ (lv_sub hl [1, 2, 3, 4, 6] rfl) hP hS hf
      · replace hf := (if_pos c5).symm.trans hf
        refine lv_iconst (v := 0) hx hb d_Pipe_valuesWorkedOutFor_46 (by decide) ?_
        refine lv_goto (tgt := 57) hx hb d_Pipe_valuesWorkedOutFor_47 (by decide) ?_
        exact w_Pipe_valuesWorkedOutFor_57 X hk2 ih _ _ _ _ _ _ h_a3 _ _ _ _ (lv_sub hl [1, 2, 3, 4, 6] rfl) hP hS hf
set_option maxHeartbeats 4000000 in
set_option maxRecDepth 100000 in
theorem w_Pipe_valuesWorkedOutFor_2 {p : Program} {l : Launch} {e : Env} {s : State} {m : MethodId} {args : Array Value} {below : List Frame} {meth : Method} {c : Code} {D : va_G} {ca : Nat → ClassId} {B rl : Nat} {r : Int32} {M9 : hm_M} (X : hq_X p s m args meth c b_Pipe_valuesWorkedOutFor R_Pipe 7 (some .int) D sc_cl (sc_ty ca) hq_tb) : ∀ (n : Nat), ∀ (x1 : Int32), ∀ (x2 : Int32), ∀ (M : hm_M) (H : Heap) (locs : List Loc) (ls : Array Slot), lv_has ls 7 [(0, .ref (B + 1)), (1, .int x1), (2, .int x2)] → hm_P D sc_cl ca 64 (sc_sh rl) B M hm_L0 H → va_S (hm_A B 64) s.heap H locs → f_Pipe_valuesWorkedOutFor_2 n x1 x2 M = some (r, M9) → W p l e ({ frames := 0, cells := 0, slots := 0, locals := 0 } : Room) s m args below meth c H locs 0 0 (MQ below (hq_QI D sc_cl ca 64 (sc_sh rl) B r M9 hm_L0) args s 0 0 (hm_A B 64)) (F0 m 2 ls []) := by
  obtain ⟨hx, hb, hml, hown, hr, hlk, hKt⟩ := id X
  have hK := hKt.1
  have hts : ∀ w ∈ hq_tb, w.before args s = true := fun w h => hKt.2.2 w h args
  intro n
  induction n with
  | zero =>
    intro x1 x2 M H locs ls hl hP hS hf
    cases hf
  | succ n ih =>
    intro x1 x2 M H locs ls hl hP hS hf
    rw [f_Pipe_valuesWorkedOutFor_2] at hf
    refine lv_iload_n hx hb d_Pipe_valuesWorkedOutFor_2 rfl (lv_at hl 2 rfl) ?_
    refine lv_iload_n hx hb d_Pipe_valuesWorkedOutFor_3 rfl (lv_at hl 1 rfl) ?_
    refine lv_icmp_gt (tgt := 80) hx hb d_Pipe_valuesWorkedOutFor_4 (by decide) (fun c1 => ?_) (fun c1 => ?_)
    · replace hf := (if_pos c1).symm.trans hf
      refine lv_aload_n hx hb d_Pipe_valuesWorkedOutFor_80 rfl (lv_at hl 0 rfl) ?_
      refine hq_get hx hb hts i_Pipe hown hK hP 1 (by decide) (sc_s_Pipe (rfl)) rfl 2 (by decide) (hts _ sc_wd_36) (fun _ h => h) (v := .ref (B + 3)) rfl d_Pipe_valuesWorkedOutFor_81 ?_
      refine lv_iload_n hx hb d_Pipe_valuesWorkedOutFor_84 rfl (lv_at hl 1 rfl) ?_
      obtain ⟨g2, hf⟩ := hm_gd_some hf
      refine hq_iald hx hb hK hP 3 (by decide) (sc_s_ia8 (rfl)) 0 rfl g2 d_Pipe_valuesWorkedOutFor_85 ?_
      obtain ⟨h9, h8⟩ := Prod.mk.inj (Option.some.inj hf)
      subst h9
      subst h8
      exact W.iret hx hb hr (fun t ht _ => ⟨⟨_, (), rfl, rfl, by subst ht; exact hP⟩, hS.F ht⟩) hS.2.2 d_Pipe_valuesWorkedOutFor_86 hlk
    · replace hf := (if_neg c1).symm.trans hf
      refine lv_aload_n hx hb d_Pipe_valuesWorkedOutFor_7 rfl (lv_at hl 0 rfl) ?_
      refine hq_get hx hb hts i_Pipe hown hK hP 1 (by decide) (sc_s_Pipe (rfl)) rfl 1 (by decide) (hts _ sc_wd_25) (fun _ h => h) (v := .ref (B + 2)) rfl d_Pipe_valuesWorkedOutFor_8 ?_
      refine lv_iload_n hx hb d_Pipe_valuesWorkedOutFor_11 rfl (lv_at hl 2 rfl) ?_
      obtain ⟨g3, hf⟩ := hm_gd_some hf
      refine hq_aald hx hb hK hP 2 (by decide) (sc_s_starr (rfl)) 2 rfl rfl g3 d_Pipe_valuesWorkedOutFor_12 ?_
      refine lv_astore_n (lv' := [(3, .ref (B + (5 + 4 * x2.toNatClampNeg))), (0, .ref (B + 1)), (1, .int x1), (2, .int x2)]) hx hb d_Pipe_valuesWorkedOutFor_13 rfl hl (by decide) rfl (fun ls hl => ?_)
      refine lv_iconst (v := 1) hx hb d_Pipe_valuesWorkedOutFor_14 (by decide) ?_
      refine lv_istore (lv' := [(4, .int 1), (3, .ref (B + (5 + 4 * x2.toNatClampNeg))), (0, .ref (B + 1)), (1, .int x1), (2, .int x2)]) hx hb d_Pipe_valuesWorkedOutFor_15 hl (by decide) rfl (fun ls hl => ?_)
      refine lv_iconst (v := 0) hx hb d_Pipe_valuesWorkedOutFor_17 (by decide) ?_
      refine lv_istore (lv' := [(5, .int 0), (4, .int 1), (3, .ref (B + (5 + 4 * x2.toNatClampNeg))), (0, .ref (B + 1)), (1, .int x1), (2, .int x2)]) hx hb d_Pipe_valuesWorkedOutFor_18 hl (by decide) rfl (fun ls hl => ?_)
      exact w_Pipe_valuesWorkedOutFor_20 X ih _ _ _ _ _ _ (sck_st g3) _ _ _ _ (lv_sub hl [3, 4, 5, 2, 1, 0] rfl) hP hS hf
set_option maxHeartbeats 4000000 in
set_option maxRecDepth 100000 in
theorem w_Pipe_valuesWorkedOutFor_e {p : Program} {l : Launch} {e : Env} {s : State} {m : MethodId} {args : Array Value} {below : List Frame} {meth : Method} {c : Code} {D : va_G} {ca : Nat → ClassId} {B rl : Nat} {r : Int32} {M9 : hm_M} (X : hq_X p s m args meth c b_Pipe_valuesWorkedOutFor R_Pipe 7 (some .int) D sc_cl (sc_ty ca) hq_tb) : ∀ (x1 : Int32), ∀ (M : hm_M) (H : Heap) (locs : List Loc) (ls : Array Slot), lv_has ls 7 [(0, .ref (B + 1)), (1, .int x1)] → hm_P D sc_cl ca 64 (sc_sh rl) B M hm_L0 H → va_S (hm_A B 64) s.heap H locs → f_Pipe_valuesWorkedOutFor M x1 = some (r, M9) → W p l e ({ frames := 0, cells := 0, slots := 0, locals := 0 } : Room) s m args below meth c H locs 0 0 (MQ below (hq_QI D sc_cl ca 64 (sc_sh rl) B r M9 hm_L0) args s 0 0 (hm_A B 64)) (F0 m 0 ls []) := by
  obtain ⟨hx, hb, hml, hown, hr, hlk, hKt⟩ := id X
  have hK := hKt.1
  have hts : ∀ w ∈ hq_tb, w.before args s = true := fun w h => hKt.2.2 w h args
  intro x1 M H locs ls hl hP hS hf
  unfold f_Pipe_valuesWorkedOutFor at hf
  refine lv_iconst (v := 0) hx hb d_Pipe_valuesWorkedOutFor_0 (by decide) ?_
  refine lv_istore_n (lv' := [(2, .int 0), (0, .ref (B + 1)), (1, .int x1)]) hx hb d_Pipe_valuesWorkedOutFor_1 rfl hl (by decide) rfl (fun ls hl => ?_)
  exact w_Pipe_valuesWorkedOutFor_2 X _ _ _ _ _ _ _ (lv_sub hl [1, 2, 0] rfl) hP hS hf
set_option maxHeartbeats 4000000 in
set_option maxRecDepth 100000 in
theorem c_Pipe_valuesWorkedOutFor {l : Launch} {D : va_G} {ca : Nat → ClassId} {B rl : Nat} {r : Int32} {x1 : Int32} {M M9 : hm_M} (hf : f_Pipe_valuesWorkedOutFor M x1 = some (r, M9)) : Met l y_Pipe_valuesWorkedOutFor [Cond.code y_Pipe_valuesWorkedOutFor b_Pipe_valuesWorkedOutFor 7 (some .int)] ({ frames := 0, cells := 0, slots := 0, locals := 0 } : Room) (hq_Pre D sc_cl ca 64 (sc_sh rl) B (sc_ty ca) hq_tb M hm_L0 [.ref (B + 1), .int x1]) (hq_QI D sc_cl ca 64 (sc_sh rl) B r M9 hm_L0) 0 0 (hm_A B 64) := by
  refine Met.ofW (cc := b_Pipe_valuesWorkedOutFor) (maxL := 7) (ret := (some .int)) (by decide +kernel) rfl ?_
  intro p e s m args below meth c s₁ Bd hml hv
  obtain ⟨rfl, hP, hK⟩ := hv
  have hl := lv_entry ([.ref (B + 1), .int x1]) (n := 7) (Nat.le_of_ble_eq_true rfl)
  rw [lg_entry_eq]
  generalize (lg_sl ([.ref (B + 1), .int x1]) ++ List.replicate (7 - (lg_sl ([.ref (B + 1), .int x1])).length) Slot.unset).toArray = ls at hl ⊢
  have hl : lv_has ls 7 [(0, .ref (B + 1)), (1, .int x1)] := hl
  exact w_Pipe_valuesWorkedOutFor_e ⟨Bd.exec, Bd.bytes, hml, findClass_of_methodNamed Bd.named, Bd.returns, Bd.notSynchronized, hK⟩  _ _ _ _ _ hl hP va_S.rf hf
set_option maxHeartbeats 4000000 in
set_option maxRecDepth 100000 in
theorem w_Stage_addTap_e {p : Program} {l : Launch} {e : Env} {s : State} {m : MethodId} {args : Array Value} {below : List Frame} {meth : Method} {c : Code} {D : va_G} {ca : Nat → ClassId} {B rl : Nat} {M9 : hm_M} (X : hq_X p s m args meth c b_Stage_addTap R_Stage 4 none D sc_cl (sc_ty ca) hq_tb) : ∀ (a0 : Nat), ∀ (x1 : Int32), ∀ (x2 : Int32), ∀ (x3 : Int32), sc_kd a0 = 5 → ∀ (M : hm_M) (H : Heap) (locs : List Loc) (ls : Array Slot), lv_has ls 4 [(0, .ref (B + a0)), (1, .int x1), (2, .int x2), (3, .int x3)] → hm_P D sc_cl ca 64 (sc_sh rl) B M hm_L0 H → va_S (hm_A B 64) s.heap H locs → f_Stage_addTap M a0 x1 x2 x3 = some M9 → W p l e ({ frames := 0, cells := 0, slots := 0, locals := 0 } : Room) s m args below meth c H locs 0 0 (MQ below (hq_QV D sc_cl ca 64 (sc_sh rl) B M9 hm_L0) args s 0 0 (hm_A B 64)) (F0 m 0 ls []) := by
  obtain ⟨hx, hb, hml, hown, hr, hlk, hKt⟩ := id X
  have hK := hKt.1
  have hts : ∀ w ∈ hq_tb, w.before args s = true := fun w h => hKt.2.2 w h args
  intro a0 x1 x2 x3 h_a0 M H locs ls hl hP hS hf
  unfold f_Stage_addTap at hf
  refine lv_aload_n hx hb d_Stage_addTap_0 rfl (lv_at hl 0 rfl) ?_
  refine hq_get hx hb hts i_Stage hown hK hP a0 (sc_lt h_a0 (by decide)) (sc_s_Stage (h_a0)) rfl 4 (by decide) (hts _ sc_wd_39) (fun _ h => h) (v := .ref (B + (a0 + 1))) rfl d_Stage_addTap_1 ?_
  refine lv_aload_n hx hb d_Stage_addTap_4 rfl (lv_at hl 0 rfl) ?_
  refine hq_get hx hb hts i_Stage hown hK hP a0 (sc_lt h_a0 (by decide)) (sc_s_Stage (h_a0)) rfl 3 (by decide) (hts _ sc_wd_40) (fun _ h => h) (v := .int (M a0 3)) rfl d_Stage_addTap_5 ?_
  refine lv_iload_n hx hb d_Stage_addTap_8 rfl (lv_at hl 1 rfl) ?_
  obtain ⟨g1, hf⟩ := hm_gd_some hf
  refine hq_iast hx hb hK hP hS (a0 + 1) (sc_lt (sck_Stage1 h_a0) (by decide)) (sc_s_ia4 ((sck_Stage1 h_a0))) 0 rfl g1 d_Stage_addTap_9 (fun H locs hP hS => ?_)
  obtain ⟨M_2, e_2, hf⟩ := hm_st_some hf
  rw [← e_2] at hP
  refine lv_aload_n hx hb d_Stage_addTap_10 rfl (lv_at hl 0 rfl) ?_
  refine hq_get hx hb hts i_Stage hown hK hP a0 (sc_lt h_a0 (by decide)) (sc_s_Stage (h_a0)) rfl 5 (by decide) (hts _ sc_wd_41) (fun _ h => h) (v := .ref (B + (a0 + 2))) rfl d_Stage_addTap_11 ?_
  refine lv_aload_n hx hb d_Stage_addTap_14 rfl (lv_at hl 0 rfl) ?_
  refine hq_get hx hb hts i_Stage hown hK hP a0 (sc_lt h_a0 (by decide)) (sc_s_Stage (h_a0)) rfl 3 (by decide) (hts _ sc_wd_40) (fun _ h => h) (v := .int (M_2 a0 3)) rfl d_Stage_addTap_15 ?_
  refine lv_iload_n hx hb d_Stage_addTap_18 rfl (lv_at hl 2 rfl) ?_
  obtain ⟨g3, hf⟩ := hm_gd_some hf
  refine hq_iast hx hb hK hP hS (a0 + 2) (sc_lt (sck_Stage2 h_a0) (by decide)) (sc_s_ia4 ((sck_Stage2 h_a0))) 0 rfl g3 d_Stage_addTap_19 (fun H locs hP hS => ?_)
  obtain ⟨M_4, e_4, hf⟩ := hm_st_some hf
  rw [← e_4] at hP
  refine lv_aload_n hx hb d_Stage_addTap_20 rfl (lv_at hl 0 rfl) ?_
  refine hq_get hx hb hts i_Stage hown hK hP a0 (sc_lt h_a0 (by decide)) (sc_s_Stage (h_a0)) rfl 6 (by decide) (hts _ sc_wd_42) (fun _ h => h) (v := .ref (B + (a0 + 3))) rfl d_Stage_addTap_21 ?_
  refine lv_aload_n hx hb d_Stage_addTap_24 rfl (lv_at hl 0 rfl) ?_
  refine hq_get hx hb hts i_Stage hown hK hP a0 (sc_lt h_a0 (by decide)) (sc_s_Stage (h_a0)) rfl 3 (by decide) (hts _ sc_wd_40) (fun _ h => h) (v := .int (M_4 a0 3)) rfl d_Stage_addTap_25 ?_
  refine lv_iload_n hx hb d_Stage_addTap_28 rfl (lv_at hl 3 rfl) ?_
  obtain ⟨g5, hf⟩ := hm_gd_some hf
  refine hq_iast hx hb hK hP hS (a0 + 3) (sc_lt (sck_Stage3 h_a0) (by decide)) (sc_s_ia4 ((sck_Stage3 h_a0))) 0 rfl g5 d_Stage_addTap_29 (fun H locs hP hS => ?_)
  obtain ⟨M_6, e_6, hf⟩ := hm_st_some hf
  rw [← e_6] at hP
  refine lv_aload_n hx hb d_Stage_addTap_30 rfl (lv_at hl 0 rfl) ?_
  refine lv_dup hx hb d_Stage_addTap_31 rfl ?_
  refine hq_get hx hb hts i_Stage hown hK hP a0 (sc_lt h_a0 (by decide)) (sc_s_Stage (h_a0)) rfl 3 (by decide) (hts _ sc_wd_40) (fun _ h => h) (v := .int (M_6 a0 3)) rfl d_Stage_addTap_32 ?_
  refine lv_iconst (v := 1) hx hb d_Stage_addTap_35 (by decide) ?_
  refine lv_iadd hx hb d_Stage_addTap_36 ?_
  refine hq_put hx hb hts i_Stage t_Stage t_Stage_ok n_Stage hown hK hP hS a0 (sc_lt h_a0 (by decide)) (sc_s_Stage (h_a0)) rfl 3 (by decide) (hts _ sc_wd_40) (fun _ h => h) rfl (ty := .int) (x := ((M_6 a0 3) + 1)) (by decide +kernel) rfl rfl rfl d_Stage_addTap_37 (fun H locs hP hS => ?_)
  obtain ⟨M_7, e_7, hf⟩ := hm_st_some hf
  rw [← e_7] at hP
  have h8 := Option.some.inj hf
  subst h8
  exact W.vret hx hb hr (fun t ht _ => ⟨⟨(), rfl, trivial, by subst ht; exact hP⟩, hS.F ht⟩) hS.2.2 d_Stage_addTap_40 hlk
set_option maxHeartbeats 4000000 in
set_option maxRecDepth 100000 in
theorem c_Stage_addTap {l : Launch} {D : va_G} {ca : Nat → ClassId} {B rl : Nat} {a0 : Nat} {x1 : Int32} {x2 : Int32} {x3 : Int32} (h_a0 : sc_kd a0 = 5) {M M9 : hm_M} (hf : f_Stage_addTap M a0 x1 x2 x3 = some M9) : Met l y_Stage_addTap [Cond.code y_Stage_addTap b_Stage_addTap 4 none] ({ frames := 0, cells := 0, slots := 0, locals := 0 } : Room) (hq_Pre D sc_cl ca 64 (sc_sh rl) B (sc_ty ca) hq_tb M hm_L0 [.ref (B + a0), .int x1, .int x2, .int x3]) (hq_QV D sc_cl ca 64 (sc_sh rl) B M9 hm_L0) 0 0 (hm_A B 64) := by
  refine Met.ofW (cc := b_Stage_addTap) (maxL := 4) (ret := none) (by decide +kernel) rfl ?_
  intro p e s m args below meth c s₁ Bd hml hv
  obtain ⟨rfl, hP, hK⟩ := hv
  have hl := lv_entry ([.ref (B + a0), .int x1, .int x2, .int x3]) (n := 4) (Nat.le_of_ble_eq_true rfl)
  rw [lg_entry_eq]
  generalize (lg_sl ([.ref (B + a0), .int x1, .int x2, .int x3]) ++ List.replicate (4 - (lg_sl ([.ref (B + a0), .int x1, .int x2, .int x3])).length) Slot.unset).toArray = ls at hl ⊢
  have hl : lv_has ls 4 [(0, .ref (B + a0)), (1, .int x1), (2, .int x2), (3, .int x3)] := hl
  exact w_Stage_addTap_e ⟨Bd.exec, Bd.bytes, hml, findClass_of_methodNamed Bd.named, Bd.returns, Bd.notSynchronized, hK⟩  _ _ _ _ h_a0 _ _ _ _ hl hP va_S.rf hf
set_option maxHeartbeats 4000000 in
set_option maxRecDepth 100000 in
theorem w_Stage_finished_54 {p : Program} {l : Launch} {e : Env} {s : State} {m : MethodId} {args : Array Value} {below : List Frame} {meth : Method} {c : Code} {D : va_G} {ca : Nat → ClassId} {B rl : Nat} {r : Int32} {M9 : hm_M} (X : hq_X p s m args meth c b_Stage_finished R_Stage 2 (some .int) D sc_cl (sc_ty ca) hq_tb) : ∀ (y0 : Int32), ∀ (M : hm_M) (H : Heap) (locs : List Loc) (ls : Array Slot), lv_has ls 2 [] → hm_P D sc_cl ca 64 (sc_sh rl) B M hm_L0 H → va_S (hm_A B 64) s.heap H locs → f_Stage_finished_54 y0 M = some (r, M9) → W p l e ({ frames := 1, cells := 0, slots := 0, locals := 22 } : Room) s m args below meth c H locs 0 0 (MQ below (hq_QI D sc_cl ca 64 (sc_sh rl) B r M9 hm_L0) args s 0 0 (hm_A B 64)) (F0 m 54 ls [.int y0]) := by
  obtain ⟨hx, hb, hml, hown, hr, hlk, hKt⟩ := id X
  have hK := hKt.1
  have hts : ∀ w ∈ hq_tb, w.before args s = true := fun w h => hKt.2.2 w h args
  intro y0 M H locs ls hl hP hS hf
  unfold f_Stage_finished_54 at hf
  obtain ⟨h9, h8⟩ := Prod.mk.inj (Option.some.inj hf)
  subst h9
  subst h8
  exact W.iret hx hb hr (fun t ht _ => ⟨⟨_, (), rfl, rfl, by subst ht; exact hP⟩, hS.F ht⟩) hS.2.2 d_Stage_finished_54 hlk
set_option maxHeartbeats 4000000 in
set_option maxRecDepth 100000 in
theorem w_Stage_finished_e {p : Program} {l : Launch} {e : Env} {s : State} {m : MethodId} {args : Array Value} {below : List Frame} {meth : Method} {c : Code} {D : va_G} {ca : Nat → ClassId} {B rl : Nat} {r : Int32} {M9 : hm_M} (X : hq_X p s m args meth c b_Stage_finished R_Stage 2 (some .int) D sc_cl (sc_ty ca) hq_tb) : ∀ (a0 : Nat), ∀ (x1 : Int32), sc_kd a0 = 5 → ∀ (M : hm_M) (H : Heap) (locs : List Loc) (ls : Array Slot), lv_has ls 2 [(0, .ref (B + a0)), (1, .int x1)] → hm_P D sc_cl ca 64 (sc_sh rl) B M hm_L0 H → va_S (hm_A B 64) s.heap H locs → f_Stage_finished M a0 x1 = some (r, M9) → W p l e ({ frames := 1, cells := 0, slots := 0, locals := 22 } : Room) s m args below meth c H locs 0 0 (MQ below (hq_QI D sc_cl ca 64 (sc_sh rl) B r M9 hm_L0) args s 0 0 (hm_A B 64)) (F0 m 0 ls []) := by
  obtain ⟨hx, hb, hml, hown, hr, hlk, hKt⟩ := id X
  have hK := hKt.1
  have hts : ∀ w ∈ hq_tb, w.before args s = true := fun w h => hKt.2.2 w h args
  intro a0 x1 h_a0 M H locs ls hl hP hS hf
  unfold f_Stage_finished at hf
  refine lv_aload_n hx hb d_Stage_finished_0 rfl (lv_at hl 0 rfl) ?_
  refine hq_get hx hb hts i_Stage hown hK hP a0 (sc_lt h_a0 (by decide)) (sc_s_Stage (h_a0)) rfl 1 (by decide) (hts _ sc_wd_43) (fun _ h => h) (v := .int (M a0 1)) rfl d_Stage_finished_1 ?_
  by_cases c1 : (M a0 1) = 1
  · replace hf := (if_pos c1).symm.trans hf
    refine lv_tableIn (tgt := 32) hx hb d_Stage_finished_4 (by rw [c1]; decide) (by rw [c1]; decide) (by rw [c1]; rfl) (by decide) ?_
    refine lv_iload_n hx hb d_Stage_finished_32 rfl (lv_at hl 1 rfl) ?_
    refine lv_iconst (v := 0) hx hb d_Stage_finished_33 (by decide) ?_
    refine va_mmax hx hb (hml.trans hl.1.symm) hown (hts _ sc_wd_44) (hts _ sc_wd_8) (hts _ sc_wd_4) (hts _ sc_wd_9) (Nat.le_of_ble_eq_true rfl) (Nat.le_of_ble_eq_true rfl) (Nat.le_of_ble_eq_true rfl) (Nat.le_of_ble_eq_true rfl) d_Stage_finished_34 ?_
    obtain ⟨h9, h8⟩ := Prod.mk.inj (Option.some.inj hf)
    subst h9
    subst h8
    exact W.iret hx hb hr (fun t ht _ => ⟨⟨_, (), rfl, rfl, by subst ht; exact hP⟩, hS.F ht⟩) hS.2.2 d_Stage_finished_37 hlk
  · replace hf := (if_neg c1).symm.trans hf
    by_cases c2 : (M a0 1) = 2
    · replace hf := (if_pos c2).symm.trans hf
      refine lv_tableIn (tgt := 38) hx hb d_Stage_finished_4 (by rw [c2]; decide) (by rw [c2]; decide) (by rw [c2]; rfl) (by decide) ?_
      refine lv_iload_n hx hb d_Stage_finished_38 rfl (lv_at hl 1 rfl) ?_
      refine lv_iconst (v := 2) hx hb d_Stage_finished_39 (by decide) ?_
      obtain ⟨r3, M_4, hc5, hf⟩ := hm_bI_some hf
      refine hq_callI (va_runS (As := [.int x1, .int 2]) (rest := []) ⟨hx, hb, hml, hown, hts⟩ (c_Math_floorDiv (l := l) (D := D) (ca := ca) (B := B) (rl := rl)  hc5) (hq_cwS (nn := 2) hts sc_wd_45 sc_wd_46 sc_wd_47 sc_wd_48 (by decide +kernel) rfl rfl ⟨(Nat.le_of_ble_eq_true rfl), (Nat.le_of_ble_eq_true rfl)⟩) (hq_preS hKt hP) rfl rfl hl.1 rfl (lv_room (Nat.le_of_ble_eq_true rfl)) d_Stage_finished_40 ⟨(Nat.le_of_ble_eq_true rfl), (Nat.le_of_ble_eq_true rfl)⟩) hS (fun H locs hP hS => ?_)
      obtain ⟨h9, h8⟩ := Prod.mk.inj (Option.some.inj hf)
      subst h9
      subst h8
      exact W.iret hx hb hr (fun t ht _ => ⟨⟨_, (), rfl, rfl, by subst ht; exact hP⟩, hS.F ht⟩) hS.2.2 d_Stage_finished_43 hlk
    · replace hf := (if_neg c2).symm.trans hf
      by_cases c6 : (M a0 1) = 3
      · replace hf := (if_pos c6).symm.trans hf
        refine lv_tableIn (tgt := 44) hx hb d_Stage_finished_4 (by rw [c6]; decide) (by rw [c6]; decide) (by rw [c6]; rfl) (by decide) ?_
        refine lv_iload_n hx hb d_Stage_finished_44 rfl (lv_at hl 1 rfl) ?_
        refine lv_if_ge (tgt := 53) hx hb d_Stage_finished_45 (by decide) (fun c7 => ?_) (fun c7 => ?_)
        · replace hf := (if_pos c7).symm.trans hf
          refine lv_iload_n hx hb d_Stage_finished_53 rfl (lv_at hl 1 rfl) ?_
          exact w_Stage_finished_54 X _ _ _ _ _ (lv_sub hl [] rfl) hP hS hf
        · replace hf := (if_neg c7).symm.trans hf
          refine lv_iload_n hx hb d_Stage_finished_48 rfl (lv_at hl 1 rfl) ?_
          refine lv_ineg hx hb d_Stage_finished_49 ?_
          refine lv_goto (tgt := 54) hx hb d_Stage_finished_50 (by decide) ?_
          exact w_Stage_finished_54 X _ _ _ _ _ (lv_sub hl [] rfl) hP hS hf
      · replace hf := (if_neg c6).symm.trans hf
        have tc1 := lv_neT c1 (a := 1) (by decide)
        have tc2 := lv_neT c2 (a := 2) (by decide)
        have tc6 := lv_neT c6 (a := 3) (by decide)
        refine lv_tableOut (tgt := 55) hx hb d_Stage_finished_4 (by omega) (by decide) ?_
        refine lv_iload_n hx hb d_Stage_finished_55 rfl (lv_at hl 1 rfl) ?_
        obtain ⟨h9, h8⟩ := Prod.mk.inj (Option.some.inj hf)
        subst h9
        subst h8
        exact W.iret hx hb hr (fun t ht _ => ⟨⟨_, (), rfl, rfl, by subst ht; exact hP⟩, hS.F ht⟩) hS.2.2 d_Stage_finished_56 hlk
set_option maxHeartbeats 4000000 in
set_option maxRecDepth 100000 in
theorem c_Stage_finished {l : Launch} {D : va_G} {ca : Nat → ClassId} {B rl : Nat} {r : Int32} {a0 : Nat} {x1 : Int32} (h_a0 : sc_kd a0 = 5) {M M9 : hm_M} (hf : f_Stage_finished M a0 x1 = some (r, M9)) : Met l y_Stage_finished [Cond.code y_Stage_finished b_Stage_finished 2 (some .int)] ({ frames := 1, cells := 0, slots := 0, locals := 22 } : Room) (hq_Pre D sc_cl ca 64 (sc_sh rl) B (sc_ty ca) hq_tb M hm_L0 [.ref (B + a0), .int x1]) (hq_QI D sc_cl ca 64 (sc_sh rl) B r M9 hm_L0) 0 0 (hm_A B 64) := by
  refine Met.ofW (cc := b_Stage_finished) (maxL := 2) (ret := (some .int)) (by decide +kernel) rfl ?_
  intro p e s m args below meth c s₁ Bd hml hv
  obtain ⟨rfl, hP, hK⟩ := hv
  have hl := lv_entry ([.ref (B + a0), .int x1]) (n := 2) (Nat.le_of_ble_eq_true rfl)
  rw [lg_entry_eq]
  generalize (lg_sl ([.ref (B + a0), .int x1]) ++ List.replicate (2 - (lg_sl ([.ref (B + a0), .int x1])).length) Slot.unset).toArray = ls at hl ⊢
  have hl : lv_has ls 2 [(0, .ref (B + a0)), (1, .int x1)] := hl
  exact w_Stage_finished_e ⟨Bd.exec, Bd.bytes, hml, findClass_of_methodNamed Bd.named, Bd.returns, Bd.notSynchronized, hK⟩  _ _ h_a0 _ _ _ _ hl hP va_S.rf hf
end
section
set_option maxHeartbeats 4000000 in
set_option maxRecDepth 100000 in
theorem w_Plan_isUsedAs_33 {p : Program} {l : Launch} {e : Env} {s : State} {m : MethodId} {args : Array Value} {below : List Frame} {meth : Method} {c : Code} {D : va_G} {ca : Nat → ClassId} {B rl : Nat} {r : Int32} {M9 : hm_M} (X : hq_X p s m args meth c b_Plan_isUsedAs R_Plan 3 (some .boolean) D sc_cl (sc_ty ca) hq_tb) : ∀ (y0 : Int32), ∀ (M : hm_M) (H : Heap) (locs : List Loc) (ls : Array Slot), lv_has ls 3 [] → hm_P D sc_cl ca 64 (sc_sh rl) B M hm_L0 H → va_S (hm_A B 64) s.heap H locs → f_Plan_isUsedAs_33 y0 M = some (r, M9) → W p l e ({ frames := 0, cells := 0, slots := 0, locals := 0 } : Room) s m args below meth c H locs 0 0 (MQ below (hq_QI D sc_cl ca 64 (sc_sh rl) B r M9 hm_L0) args s 0 0 (hm_A B 64)) (F0 m 33 ls [.int y0]) := by
  obtain ⟨hx, hb, hml, hown, hr, hlk, hKt⟩ := id X
  have hK := hKt.1
  have hts : ∀ w ∈ hq_tb, w.before args s = true := fun w h => hKt.2.2 w h args
  intro y0 M H locs ls hl hP hS hf
  unfold f_Plan_isUsedAs_33 at hf
  obtain ⟨g1, hf⟩ := hm_gd_some hf
  obtain ⟨h9, h8⟩ := Prod.mk.inj (Option.some.inj hf)
  subst h9
  subst h8
  exact W.zret (ty := .boolean) hx hb hr (hq_nb2 (of_decide_eq_true g1)) (fun t ht _ => ⟨⟨_, (), rfl, rfl, by subst ht; exact hP⟩, hS.F ht⟩) hS.2.2 d_Plan_isUsedAs_33 hlk
set_option maxHeartbeats 4000000 in
set_option maxRecDepth 100000 in
theorem w_Plan_isUsedAs_32 {p : Program} {l : Launch} {e : Env} {s : State} {m : MethodId} {args : Array Value} {below : List Frame} {meth : Method} {c : Code} {D : va_G} {ca : Nat → ClassId} {B rl : Nat} {r : Int32} {M9 : hm_M} (X : hq_X p s m args meth c b_Plan_isUsedAs R_Plan 3 (some .boolean) D sc_cl (sc_ty ca) hq_tb) : ∀ (M : hm_M) (H : Heap) (locs : List Loc) (ls : Array Slot), lv_has ls 3 [] → hm_P D sc_cl ca 64 (sc_sh rl) B M hm_L0 H → va_S (hm_A B 64) s.heap H locs → f_Plan_isUsedAs_32 M = some (r, M9) → W p l e ({ frames := 0, cells := 0, slots := 0, locals := 0 } : Room) s m args below meth c H locs 0 0 (MQ below (hq_QI D sc_cl ca 64 (sc_sh rl) B r M9 hm_L0) args s 0 0 (hm_A B 64)) (F0 m 32 ls []) := by
  obtain ⟨hx, hb, hml, hown, hr, hlk, hKt⟩ := id X
  have hK := hKt.1
  have hts : ∀ w ∈ hq_tb, w.before args s = true := fun w h => hKt.2.2 w h args
  intro  M H locs ls hl hP hS hf
  unfold f_Plan_isUsedAs_32 at hf
  refine lv_iconst (v := 0) hx hb d_Plan_isUsedAs_32 (by decide) ?_
  exact w_Plan_isUsedAs_33 X _ _ _ _ _ (lv_sub hl [] rfl) hP hS hf
set_option maxHeartbeats 4000000 in
set_option maxRecDepth 100000 in
theorem w_Plan_isUsedAs_e {p : Program} {l : Launch} {e : Env} {s : State} {m : MethodId} {args : Array Value} {below : List Frame} {meth : Method} {c : Code} {D : va_G} {ca : Nat → ClassId} {B rl : Nat} {r : Int32} {M9 : hm_M} (X : hq_X p s m args meth c b_Plan_isUsedAs R_Plan 3 (some .boolean) D sc_cl (sc_ty ca) hq_tb) : ∀ (x1 : Int32), ∀ (x2 : Int32), ∀ (M : hm_M) (H : Heap) (locs : List Loc) (ls : Array Slot), lv_has ls 3 [(0, .ref (B + 37)), (1, .int x1), (2, .int x2)] → hm_P D sc_cl ca 64 (sc_sh rl) B M hm_L0 H → va_S (hm_A B 64) s.heap H locs → f_Plan_isUsedAs M x1 x2 = some (r, M9) → W p l e ({ frames := 0, cells := 0, slots := 0, locals := 0 } : Room) s m args below meth c H locs 0 0 (MQ below (hq_QI D sc_cl ca 64 (sc_sh rl) B r M9 hm_L0) args s 0 0 (hm_A B 64)) (F0 m 0 ls []) := by
  obtain ⟨hx, hb, hml, hown, hr, hlk, hKt⟩ := id X
  have hK := hKt.1
  have hts : ∀ w ∈ hq_tb, w.before args s = true := fun w h => hKt.2.2 w h args
  intro x1 x2 M H locs ls hl hP hS hf
  unfold f_Plan_isUsedAs at hf
  refine lv_aload_n hx hb d_Plan_isUsedAs_0 rfl (lv_at hl 0 rfl) ?_
  refine hq_get hx hb hts i_Plan hown hK hP 37 (by decide) (sc_s_Plan (rfl)) rfl 1 (by decide) (hts _ sc_wd_49) (fun _ h => h) (v := .ref (B + 38)) rfl d_Plan_isUsedAs_1 ?_
  refine hq_getN hx hb hts i_Needs hown hK hP 38 (by decide) (sc_s_Needs (rfl)) rfl 0 (by decide) (hts _ sc_wd_50) (fun _ h => h) (v := .ref (B + 39)) rfl d_Plan_isUsedAs_4 ?_
  refine lv_iload_n hx hb d_Plan_isUsedAs_7 rfl (lv_at hl 1 rfl) ?_
  obtain ⟨g1, hf⟩ := hm_gd_some hf
  refine hq_zald hx hb hK hP 39 (by decide) (sc_s_za8 (rfl)) 1 rfl g1 d_Plan_isUsedAs_8 ?_
  refine lv_if_eq (tgt := 32) hx hb d_Plan_isUsedAs_9 (by decide) (fun c2 => ?_) (fun c2 => ?_)
  · replace hf := (if_pos c2).symm.trans hf
    exact w_Plan_isUsedAs_32 X _ _ _ _ (lv_sub hl [] rfl) hP hS hf
  · replace hf := (if_neg c2).symm.trans hf
    refine lv_aload_n hx hb d_Plan_isUsedAs_12 rfl (lv_at hl 0 rfl) ?_
    refine hq_get hx hb hts i_Plan hown hK hP 37 (by decide) (sc_s_Plan (rfl)) rfl 0 (by decide) (hts _ sc_wd_51) (fun _ h => h) (v := .ref (B + 1)) rfl d_Plan_isUsedAs_13 ?_
    refine hq_getN hx hb hts i_Pipe hown hK hP 1 (by decide) (sc_s_Pipe (rfl)) rfl 1 (by decide) (hts _ sc_wd_52) (fun _ h => h) (v := .ref (B + 2)) rfl d_Plan_isUsedAs_16 ?_
    refine lv_iload_n hx hb d_Plan_isUsedAs_19 rfl (lv_at hl 1 rfl) ?_
    obtain ⟨g3, hf⟩ := hm_gd_some hf
    refine hq_aald hx hb hK hP 2 (by decide) (sc_s_starr (rfl)) 2 rfl rfl g3 d_Plan_isUsedAs_20 ?_
    refine hq_getN hx hb hts i_Stage hown hK hP (5 + 4 * x1.toNatClampNeg) (sc_lt (sck_st g3) (by decide)) (sc_s_Stage ((sck_st g3))) rfl 2 (by decide) (hts _ sc_wd_53) (fun _ h => h) (v := .int (M (5 + 4 * x1.toNatClampNeg) 2)) rfl d_Plan_isUsedAs_21 ?_
    refine lv_iload_n hx hb d_Plan_isUsedAs_24 rfl (lv_at hl 2 rfl) ?_
    refine lv_icmp_ne (tgt := 32) hx hb d_Plan_isUsedAs_25 (by decide) (fun c4 => ?_) (fun c4 => ?_)
    · replace hf := (if_neg c4).symm.trans hf
      exact w_Plan_isUsedAs_32 X _ _ _ _ (lv_sub hl [] rfl) hP hS hf
    · replace hf := (if_pos c4).symm.trans hf
      refine lv_iconst (v := 1) hx hb d_Plan_isUsedAs_28 (by decide) ?_
      refine lv_goto (tgt := 33) hx hb d_Plan_isUsedAs_29 (by decide) ?_
      exact w_Plan_isUsedAs_33 X _ _ _ _ _ (lv_sub hl [] rfl) hP hS hf
set_option maxHeartbeats 4000000 in
set_option maxRecDepth 100000 in
theorem c_Plan_isUsedAs {l : Launch} {D : va_G} {ca : Nat → ClassId} {B rl : Nat} {r : Int32} {x1 : Int32} {x2 : Int32} {M M9 : hm_M} (hf : f_Plan_isUsedAs M x1 x2 = some (r, M9)) : Met l y_Plan_isUsedAs [Cond.code y_Plan_isUsedAs b_Plan_isUsedAs 3 (some .boolean)] ({ frames := 0, cells := 0, slots := 0, locals := 0 } : Room) (hq_Pre D sc_cl ca 64 (sc_sh rl) B (sc_ty ca) hq_tb M hm_L0 [.ref (B + 37), .int x1, .int x2]) (hq_QI D sc_cl ca 64 (sc_sh rl) B r M9 hm_L0) 0 0 (hm_A B 64) := by
  refine Met.ofW (cc := b_Plan_isUsedAs) (maxL := 3) (ret := (some .boolean)) (by decide +kernel) rfl ?_
  intro p e s m args below meth c s₁ Bd hml hv
  obtain ⟨rfl, hP, hK⟩ := hv
  have hl := lv_entry ([.ref (B + 37), .int x1, .int x2]) (n := 3) (Nat.le_of_ble_eq_true rfl)
  rw [lg_entry_eq]
  generalize (lg_sl ([.ref (B + 37), .int x1, .int x2]) ++ List.replicate (3 - (lg_sl ([.ref (B + 37), .int x1, .int x2])).length) Slot.unset).toArray = ls at hl ⊢
  have hl : lv_has ls 3 [(0, .ref (B + 37)), (1, .int x1), (2, .int x2)] := hl
  exact w_Plan_isUsedAs_e ⟨Bd.exec, Bd.bytes, hml, findClass_of_methodNamed Bd.named, Bd.returns, Bd.notSynchronized, hK⟩  _ _ _ _ _ _ hl hP va_S.rf hf
set_option maxHeartbeats 4000000 in
set_option maxRecDepth 100000 in
theorem w_Plan_usedCount_28 {p : Program} {l : Launch} {e : Env} {s : State} {m : MethodId} {args : Array Value} {below : List Frame} {meth : Method} {c : Code} {D : va_G} {ca : Nat → ClassId} {B rl : Nat} {r : Int32} {M9 : hm_M} (X : hq_X p s m args meth c b_Plan_usedCount R_Plan 3 (some .int) D sc_cl (sc_ty ca) hq_tb) {k4 : Int32 → Int32 → hm_M → Option (Int32 × hm_M)} (hk4 : ∀ (x1 : Int32), ∀ (x2 : Int32), ∀ (M : hm_M) (H : Heap) (locs : List Loc) (ls : Array Slot), lv_has ls 3 [(0, .ref (B + 37)), (1, .int x1), (2, .int x2)] → hm_P D sc_cl ca 64 (sc_sh rl) B M hm_L0 H → va_S (hm_A B 64) s.heap H locs → k4 x1 x2 M = some (r, M9) → W p l e ({ frames := 0, cells := 0, slots := 0, locals := 0 } : Room) s m args below meth c H locs 0 0 (MQ below (hq_QI D sc_cl ca 64 (sc_sh rl) B r M9 hm_L0) args s 0 0 (hm_A B 64)) (F0 m 4 ls [])) : ∀ (x2 : Int32), ∀ (y0 : Int32), ∀ (y1 : Int32), ∀ (M : hm_M) (H : Heap) (locs : List Loc) (ls : Array Slot), lv_has ls 3 [(0, .ref (B + 37)), (2, .int x2)] → hm_P D sc_cl ca 64 (sc_sh rl) B M hm_L0 H → va_S (hm_A B 64) s.heap H locs → f_Plan_usedCount_28 k4 x2 y0 y1 M = some (r, M9) → W p l e ({ frames := 0, cells := 0, slots := 0, locals := 0 } : Room) s m args below meth c H locs 0 0 (MQ below (hq_QI D sc_cl ca 64 (sc_sh rl) B r M9 hm_L0) args s 0 0 (hm_A B 64)) (F0 m 28 ls [.int y1, .int y0]) := by
  obtain ⟨hx, hb, hml, hown, hr, hlk, hKt⟩ := id X
  have hK := hKt.1
  have hts : ∀ w ∈ hq_tb, w.before args s = true := fun w h => hKt.2.2 w h args
  intro x2 y0 y1 M H locs ls hl hP hS hf
  unfold f_Plan_usedCount_28 at hf
  refine lv_iadd hx hb d_Plan_usedCount_28 ?_
  refine lv_istore_n (lv' := [(1, .int (y0 + y1)), (0, .ref (B + 37)), (2, .int x2)]) hx hb d_Plan_usedCount_29 rfl hl (by decide) rfl (fun ls hl => ?_)
  refine lv_iinc (v := (x2 + 1)) (lv' := [(2, .int (x2 + 1)), (1, .int (y0 + y1)), (0, .ref (B + 37))]) hx hb d_Plan_usedCount_30 hl (k := 2) rfl rfl (by decide) rfl (fun ls hl => ?_)
  refine lv_goto (tgt := 4) hx hb d_Plan_usedCount_33 (by decide) ?_
  exact hk4 _ _ _ _ _ _ (lv_sub hl [2, 1, 0] rfl) hP hS hf
set_option maxHeartbeats 4000000 in
set_option maxRecDepth 100000 in
theorem w_Plan_usedCount_4 {p : Program} {l : Launch} {e : Env} {s : State} {m : MethodId} {args : Array Value} {below : List Frame} {meth : Method} {c : Code} {D : va_G} {ca : Nat → ClassId} {B rl : Nat} {r : Int32} {M9 : hm_M} (X : hq_X p s m args meth c b_Plan_usedCount R_Plan 3 (some .int) D sc_cl (sc_ty ca) hq_tb) : ∀ (n : Nat), ∀ (x1 : Int32), ∀ (x2 : Int32), ∀ (M : hm_M) (H : Heap) (locs : List Loc) (ls : Array Slot), lv_has ls 3 [(0, .ref (B + 37)), (1, .int x1), (2, .int x2)] → hm_P D sc_cl ca 64 (sc_sh rl) B M hm_L0 H → va_S (hm_A B 64) s.heap H locs → f_Plan_usedCount_4 n x1 x2 M = some (r, M9) → W p l e ({ frames := 0, cells := 0, slots := 0, locals := 0 } : Room) s m args below meth c H locs 0 0 (MQ below (hq_QI D sc_cl ca 64 (sc_sh rl) B r M9 hm_L0) args s 0 0 (hm_A B 64)) (F0 m 4 ls []) := by
  obtain ⟨hx, hb, hml, hown, hr, hlk, hKt⟩ := id X
  have hK := hKt.1
  have hts : ∀ w ∈ hq_tb, w.before args s = true := fun w h => hKt.2.2 w h args
  intro n
  induction n with
  | zero =>
    intro x1 x2 M H locs ls hl hP hS hf
    cases hf
  | succ n ih =>
    intro x1 x2 M H locs ls hl hP hS hf
    rw [f_Plan_usedCount_4] at hf
    refine lv_iload_n hx hb d_Plan_usedCount_4 rfl (lv_at hl 2 rfl) ?_
    refine lv_bipush (v := 8) hx hb d_Plan_usedCount_5 (by decide) ?_
    refine lv_icmp_ge (tgt := 36) hx hb d_Plan_usedCount_7 (by decide) (fun c1 => ?_) (fun c1 => ?_)
    · replace hf := (if_pos c1).symm.trans hf
      refine lv_iload_n hx hb d_Plan_usedCount_36 rfl (lv_at hl 1 rfl) ?_
      obtain ⟨h9, h8⟩ := Prod.mk.inj (Option.some.inj hf)
      subst h9
      subst h8
      exact W.iret hx hb hr (fun t ht _ => ⟨⟨_, (), rfl, rfl, by subst ht; exact hP⟩, hS.F ht⟩) hS.2.2 d_Plan_usedCount_37 hlk
    · replace hf := (if_neg c1).symm.trans hf
      refine lv_iload_n hx hb d_Plan_usedCount_10 rfl (lv_at hl 1 rfl) ?_
      refine lv_aload_n hx hb d_Plan_usedCount_11 rfl (lv_at hl 0 rfl) ?_
      refine hq_get hx hb hts i_Plan hown hK hP 37 (by decide) (sc_s_Plan (rfl)) rfl 1 (by decide) (hts _ sc_wd_49) (fun _ h => h) (v := .ref (B + 38)) rfl d_Plan_usedCount_12 ?_
      refine hq_getN hx hb hts i_Needs hown hK hP 38 (by decide) (sc_s_Needs (rfl)) rfl 0 (by decide) (hts _ sc_wd_50) (fun _ h => h) (v := .ref (B + 39)) rfl d_Plan_usedCount_15 ?_
      refine lv_iload_n hx hb d_Plan_usedCount_18 rfl (lv_at hl 2 rfl) ?_
      obtain ⟨g2, hf⟩ := hm_gd_some hf
      refine hq_zald hx hb hK hP 39 (by decide) (sc_s_za8 (rfl)) 1 rfl g2 d_Plan_usedCount_19 ?_
      refine lv_if_eq (tgt := 27) hx hb d_Plan_usedCount_20 (by decide) (fun c3 => ?_) (fun c3 => ?_)
      · replace hf := (if_pos c3).symm.trans hf
        refine lv_iconst (v := 0) hx hb d_Plan_usedCount_27 (by decide) ?_
        exact w_Plan_usedCount_28 X ih _ _ _ _ _ _ _ (lv_sub hl [0, 2] rfl) hP hS hf
      · replace hf := (if_neg c3).symm.trans hf
        refine lv_iconst (v := 1) hx hb d_Plan_usedCount_23 (by decide) ?_
        refine lv_goto (tgt := 28) hx hb d_Plan_usedCount_24 (by decide) ?_
        exact w_Plan_usedCount_28 X ih _ _ _ _ _ _ _ (lv_sub hl [0, 2] rfl) hP hS hf
set_option maxHeartbeats 4000000 in
set_option maxRecDepth 100000 in
theorem w_Plan_usedCount_e {p : Program} {l : Launch} {e : Env} {s : State} {m : MethodId} {args : Array Value} {below : List Frame} {meth : Method} {c : Code} {D : va_G} {ca : Nat → ClassId} {B rl : Nat} {r : Int32} {M9 : hm_M} (X : hq_X p s m args meth c b_Plan_usedCount R_Plan 3 (some .int) D sc_cl (sc_ty ca) hq_tb) : ∀ (M : hm_M) (H : Heap) (locs : List Loc) (ls : Array Slot), lv_has ls 3 [(0, .ref (B + 37))] → hm_P D sc_cl ca 64 (sc_sh rl) B M hm_L0 H → va_S (hm_A B 64) s.heap H locs → f_Plan_usedCount M = some (r, M9) → W p l e ({ frames := 0, cells := 0, slots := 0, locals := 0 } : Room) s m args below meth c H locs 0 0 (MQ below (hq_QI D sc_cl ca 64 (sc_sh rl) B r M9 hm_L0) args s 0 0 (hm_A B 64)) (F0 m 0 ls []) := by
  obtain ⟨hx, hb, hml, hown, hr, hlk, hKt⟩ := id X
  have hK := hKt.1
  have hts : ∀ w ∈ hq_tb, w.before args s = true := fun w h => hKt.2.2 w h args
  intro  M H locs ls hl hP hS hf
  unfold f_Plan_usedCount at hf
  refine lv_iconst (v := 0) hx hb d_Plan_usedCount_0 (by decide) ?_
  refine lv_istore_n (lv' := [(1, .int 0), (0, .ref (B + 37))]) hx hb d_Plan_usedCount_1 rfl hl (by decide) rfl (fun ls hl => ?_)
  refine lv_iconst (v := 0) hx hb d_Plan_usedCount_2 (by decide) ?_
  refine lv_istore_n (lv' := [(2, .int 0), (1, .int 0), (0, .ref (B + 37))]) hx hb d_Plan_usedCount_3 rfl hl (by decide) rfl (fun ls hl => ?_)
  exact w_Plan_usedCount_4 X _ _ _ _ _ _ _ (lv_sub hl [2, 1, 0] rfl) hP hS hf
set_option maxHeartbeats 4000000 in
set_option maxRecDepth 100000 in
theorem c_Plan_usedCount {l : Launch} {D : va_G} {ca : Nat → ClassId} {B rl : Nat} {r : Int32} {M M9 : hm_M} (hf : f_Plan_usedCount M  = some (r, M9)) : Met l y_Plan_usedCount [Cond.code y_Plan_usedCount b_Plan_usedCount 3 (some .int)] ({ frames := 0, cells := 0, slots := 0, locals := 0 } : Room) (hq_Pre D sc_cl ca 64 (sc_sh rl) B (sc_ty ca) hq_tb M hm_L0 [.ref (B + 37)]) (hq_QI D sc_cl ca 64 (sc_sh rl) B r M9 hm_L0) 0 0 (hm_A B 64) := by
  refine Met.ofW (cc := b_Plan_usedCount) (maxL := 3) (ret := (some .int)) (by decide +kernel) rfl ?_
  intro p e s m args below meth c s₁ Bd hml hv
  obtain ⟨rfl, hP, hK⟩ := hv
  have hl := lv_entry ([.ref (B + 37)]) (n := 3) (Nat.le_of_ble_eq_true rfl)
  rw [lg_entry_eq]
  generalize (lg_sl ([.ref (B + 37)]) ++ List.replicate (3 - (lg_sl ([.ref (B + 37)])).length) Slot.unset).toArray = ls at hl ⊢
  have hl : lv_has ls 3 [(0, .ref (B + 37))] := hl
  exact w_Plan_usedCount_e ⟨Bd.exec, Bd.bytes, hml, findClass_of_methodNamed Bd.named, Bd.returns, Bd.notSynchronized, hK⟩   _ _ _ _ hl hP va_S.rf hf
set_option maxHeartbeats 4000000 in
set_option maxRecDepth 100000 in
theorem w_Plan_hasTiledToWorkOut_59 {p : Program} {l : Launch} {e : Env} {s : State} {m : MethodId} {args : Array Value} {below : List Frame} {meth : Method} {c : Code} {D : va_G} {ca : Nat → ClassId} {B rl : Nat} {r : Int32} {M9 : hm_M} (X : hq_X p s m args meth c b_Plan_hasTiledToWorkOut R_Plan 5 (some .boolean) D sc_cl (sc_ty ca) hq_tb) : ∀ (M : hm_M) (H : Heap) (locs : List Loc) (ls : Array Slot), lv_has ls 5 [] → hm_P D sc_cl ca 64 (sc_sh rl) B M hm_L0 H → va_S (hm_A B 64) s.heap H locs → f_Plan_hasTiledToWorkOut_59 M = some (r, M9) → W p l e ({ frames := 0, cells := 0, slots := 0, locals := 0 } : Room) s m args below meth c H locs 0 0 (MQ below (hq_QI D sc_cl ca 64 (sc_sh rl) B r M9 hm_L0) args s 0 0 (hm_A B 64)) (F0 m 59 ls []) := by
  obtain ⟨hx, hb, hml, hown, hr, hlk, hKt⟩ := id X
  have hK := hKt.1
  have hts : ∀ w ∈ hq_tb, w.before args s = true := fun w h => hKt.2.2 w h args
  intro  M H locs ls hl hP hS hf
  unfold f_Plan_hasTiledToWorkOut_59 at hf
  refine lv_iconst (v := 1) hx hb d_Plan_hasTiledToWorkOut_59 (by decide) ?_
  obtain ⟨g1, hf⟩ := hm_gd_some hf
  obtain ⟨h9, h8⟩ := Prod.mk.inj (Option.some.inj hf)
  subst h9
  subst h8
  exact W.zret (ty := .boolean) hx hb hr (hq_nb2 (of_decide_eq_true g1)) (fun t ht _ => ⟨⟨_, (), rfl, rfl, by subst ht; exact hP⟩, hS.F ht⟩) hS.2.2 d_Plan_hasTiledToWorkOut_60 hlk
set_option maxHeartbeats 4000000 in
set_option maxRecDepth 100000 in
theorem w_Plan_hasTiledToWorkOut_61 {p : Program} {l : Launch} {e : Env} {s : State} {m : MethodId} {args : Array Value} {below : List Frame} {meth : Method} {c : Code} {D : va_G} {ca : Nat → ClassId} {B rl : Nat} {r : Int32} {M9 : hm_M} (X : hq_X p s m args meth c b_Plan_hasTiledToWorkOut R_Plan 5 (some .boolean) D sc_cl (sc_ty ca) hq_tb) {k2 : Nat → Int32 → hm_M → Option (Int32 × hm_M)} (hk2 : ∀ (a1 : Nat), ∀ (x2 : Int32), sc_kd a1 = 5 → ∀ (M : hm_M) (H : Heap) (locs : List Loc) (ls : Array Slot), lv_has ls 5 [(0, .ref (B + 37)), (1, .ref (B + a1)), (2, .int x2)] → hm_P D sc_cl ca 64 (sc_sh rl) B M hm_L0 H → va_S (hm_A B 64) s.heap H locs → k2 a1 x2 M = some (r, M9) → W p l e ({ frames := 0, cells := 0, slots := 0, locals := 0 } : Room) s m args below meth c H locs 0 0 (MQ below (hq_QI D sc_cl ca 64 (sc_sh rl) B r M9 hm_L0) args s 0 0 (hm_A B 64)) (F0 m 2 ls [])) : ∀ (a1 : Nat), ∀ (x2 : Int32), sc_kd a1 = 5 → ∀ (M : hm_M) (H : Heap) (locs : List Loc) (ls : Array Slot), lv_has ls 5 [(0, .ref (B + 37)), (1, .ref (B + a1)), (2, .int x2)] → hm_P D sc_cl ca 64 (sc_sh rl) B M hm_L0 H → va_S (hm_A B 64) s.heap H locs → f_Plan_hasTiledToWorkOut_61 k2 a1 x2 M = some (r, M9) → W p l e ({ frames := 0, cells := 0, slots := 0, locals := 0 } : Room) s m args below meth c H locs 0 0 (MQ below (hq_QI D sc_cl ca 64 (sc_sh rl) B r M9 hm_L0) args s 0 0 (hm_A B 64)) (F0 m 61 ls []) := by
  obtain ⟨hx, hb, hml, hown, hr, hlk, hKt⟩ := id X
  have hK := hKt.1
  have hts : ∀ w ∈ hq_tb, w.before args s = true := fun w h => hKt.2.2 w h args
  intro a1 x2 h_a1 M H locs ls hl hP hS hf
  unfold f_Plan_hasTiledToWorkOut_61 at hf
  refine lv_iinc (v := (x2 + 1)) (lv' := [(2, .int (x2 + 1)), (0, .ref (B + 37)), (1, .ref (B + a1))]) hx hb d_Plan_hasTiledToWorkOut_61 hl (k := 2) rfl rfl (by decide) rfl (fun ls hl => ?_)
  refine lv_goto (tgt := 2) hx hb d_Plan_hasTiledToWorkOut_64 (by decide) ?_
  exact hk2 _ _ h_a1 _ _ _ _ (lv_sub hl [1, 2, 0] rfl) hP hS hf
set_option maxHeartbeats 4000000 in
set_option maxRecDepth 100000 in
theorem w_Plan_hasTiledToWorkOut_2 {p : Program} {l : Launch} {e : Env} {s : State} {m : MethodId} {args : Array Value} {below : List Frame} {meth : Method} {c : Code} {D : va_G} {ca : Nat → ClassId} {B rl : Nat} {r : Int32} {M9 : hm_M} (X : hq_X p s m args meth c b_Plan_hasTiledToWorkOut R_Plan 5 (some .boolean) D sc_cl (sc_ty ca) hq_tb) : ∀ (n : Nat), ∀ (a1 : Nat), ∀ (x2 : Int32), sc_kd a1 = 5 → ∀ (M : hm_M) (H : Heap) (locs : List Loc) (ls : Array Slot), lv_has ls 5 [(0, .ref (B + 37)), (1, .ref (B + a1)), (2, .int x2)] → hm_P D sc_cl ca 64 (sc_sh rl) B M hm_L0 H → va_S (hm_A B 64) s.heap H locs → f_Plan_hasTiledToWorkOut_2 n a1 x2 M = some (r, M9) → W p l e ({ frames := 0, cells := 0, slots := 0, locals := 0 } : Room) s m args below meth c H locs 0 0 (MQ below (hq_QI D sc_cl ca 64 (sc_sh rl) B r M9 hm_L0) args s 0 0 (hm_A B 64)) (F0 m 2 ls []) := by
  obtain ⟨hx, hb, hml, hown, hr, hlk, hKt⟩ := id X
  have hK := hKt.1
  have hts : ∀ w ∈ hq_tb, w.before args s = true := fun w h => hKt.2.2 w h args
  intro n
  induction n with
  | zero =>
    intro a1 x2 h_a1 M H locs ls hl hP hS hf
    cases hf
  | succ n ih =>
    intro a1 x2 h_a1 M H locs ls hl hP hS hf
    rw [f_Plan_hasTiledToWorkOut_2] at hf
    refine lv_iload_n hx hb d_Plan_hasTiledToWorkOut_2 rfl (lv_at hl 2 rfl) ?_
    refine lv_aload_n hx hb d_Plan_hasTiledToWorkOut_3 rfl (lv_at hl 1 rfl) ?_
    refine hq_getN hx hb hts i_Stage hown hK hP a1 (sc_lt h_a1 (by decide)) (sc_s_Stage (h_a1)) rfl 3 (by decide) (hts _ sc_wd_54) (fun _ h => h) (v := .int (M a1 3)) rfl d_Plan_hasTiledToWorkOut_4 ?_
    refine lv_icmp_ge (tgt := 67) hx hb d_Plan_hasTiledToWorkOut_7 (by decide) (fun c1 => ?_) (fun c1 => ?_)
    · replace hf := (if_pos c1).symm.trans hf
      refine lv_iconst (v := 0) hx hb d_Plan_hasTiledToWorkOut_67 (by decide) ?_
      obtain ⟨g2, hf⟩ := hm_gd_some hf
      obtain ⟨h9, h8⟩ := Prod.mk.inj (Option.some.inj hf)
      subst h9
      subst h8
      exact W.zret (ty := .boolean) hx hb hr (hq_nb2 (of_decide_eq_true g2)) (fun t ht _ => ⟨⟨_, (), rfl, rfl, by subst ht; exact hP⟩, hS.F ht⟩) hS.2.2 d_Plan_hasTiledToWorkOut_68 hlk
    · replace hf := (if_neg c1).symm.trans hf
      refine lv_aload_n hx hb d_Plan_hasTiledToWorkOut_10 rfl (lv_at hl 1 rfl) ?_
      refine hq_getN hx hb hts i_Stage hown hK hP a1 (sc_lt h_a1 (by decide)) (sc_s_Stage (h_a1)) rfl 4 (by decide) (hts _ sc_wd_55) (fun _ h => h) (v := .ref (B + (a1 + 1))) rfl d_Plan_hasTiledToWorkOut_11 ?_
      refine lv_iload_n hx hb d_Plan_hasTiledToWorkOut_14 rfl (lv_at hl 2 rfl) ?_
      obtain ⟨g3, hf⟩ := hm_gd_some hf
      refine hq_iald hx hb hK hP (a1 + 1) (sc_lt (sck_Stage1 h_a1) (by decide)) (sc_s_ia4 ((sck_Stage1 h_a1))) 0 rfl g3 d_Plan_hasTiledToWorkOut_15 ?_
      refine lv_istore_n (lv' := [(3, .int (M (a1 + 1) x2.toNatClampNeg)), (0, .ref (B + 37)), (1, .ref (B + a1)), (2, .int x2)]) hx hb d_Plan_hasTiledToWorkOut_16 rfl hl (by decide) rfl (fun ls hl => ?_)
      refine lv_iload_n hx hb d_Plan_hasTiledToWorkOut_17 rfl (lv_at hl 0 rfl) ?_
      refine lv_iconst (v := (-1)) hx hb d_Plan_hasTiledToWorkOut_18 (by decide) ?_
      refine lv_icmp_ne (tgt := 25) hx hb d_Plan_hasTiledToWorkOut_19 (by decide) (fun c4 => ?_) (fun c4 => ?_)
      · replace hf := (if_neg c4).symm.trans hf
        refine lv_aload_n hx hb d_Plan_hasTiledToWorkOut_25 rfl (lv_at hl 1 rfl) ?_
        refine hq_get hx hb hts i_Plan hown hK hP 37 (by decide) (sc_s_Plan (rfl)) rfl 0 (by decide) (hts _ sc_wd_51) (fun _ h => h) (v := .ref (B + 1)) rfl d_Plan_hasTiledToWorkOut_26 ?_
        refine hq_getN hx hb hts i_Pipe hown hK hP 1 (by decide) (sc_s_Pipe (rfl)) rfl 1 (by decide) (hts _ sc_wd_52) (fun _ h => h) (v := .ref (B + 2)) rfl d_Plan_hasTiledToWorkOut_29 ?_
        refine lv_iload_n hx hb d_Plan_hasTiledToWorkOut_32 rfl (lv_at hl 0 rfl) ?_
        obtain ⟨g5, hf⟩ := hm_gd_some hf
        refine hq_aald hx hb hK hP 2 (by decide) (sc_s_starr (rfl)) 2 rfl rfl g5 d_Plan_hasTiledToWorkOut_33 ?_
        refine hq_getN hx hb hts i_Stage hown hK hP (5 + 4 * (M (a1 + 1) x2.toNatClampNeg).toNatClampNeg) (sc_lt (sck_st g5) (by decide)) (sc_s_Stage ((sck_st g5))) rfl 2 (by decide) (hts _ sc_wd_53) (fun _ h => h) (v := .int (M (5 + 4 * (M (a1 + 1) x2.toNatClampNeg).toNatClampNeg) 2)) rfl d_Plan_hasTiledToWorkOut_34 ?_
        refine lv_istore (lv' := [(4, .int (M (5 + 4 * (M (a1 + 1) x2.toNatClampNeg).toNatClampNeg) 2)), (3, .int (M (a1 + 1) x2.toNatClampNeg)), (0, .ref (B + 37)), (1, .ref (B + a1)), (2, .int x2)]) hx hb d_Plan_hasTiledToWorkOut_37 hl (by decide) rfl (fun ls hl => ?_)
        refine lv_iload hx hb d_Plan_hasTiledToWorkOut_39 (lv_at hl 0 rfl) ?_
        refine lv_iconst (v := 2) hx hb d_Plan_hasTiledToWorkOut_41 (by decide) ?_
        refine lv_icmp_eq (tgt := 59) hx hb d_Plan_hasTiledToWorkOut_42 (by decide) (fun c6 => ?_) (fun c6 => ?_)
        · replace hf := (if_pos c6).symm.trans hf
          exact w_Plan_hasTiledToWorkOut_59 X _ _ _ _ (lv_sub hl [] rfl) hP hS hf
        · replace hf := (if_neg c6).symm.trans hf
          refine lv_iload hx hb d_Plan_hasTiledToWorkOut_45 (lv_at hl 0 rfl) ?_
          refine lv_if_ne (tgt := 61) hx hb d_Plan_hasTiledToWorkOut_47 (by decide) (fun c7 => ?_) (fun c7 => ?_)
          · replace hf := (if_neg c7).symm.trans hf
            exact w_Plan_hasTiledToWorkOut_61 X ih _ _ h_a1 _ _ _ _ (lv_sub hl [2, 3, 4] rfl) hP hS hf
          · replace hf := (if_pos c7).symm.trans hf
            refine lv_aload_n hx hb d_Plan_hasTiledToWorkOut_50 rfl (lv_at hl 2 rfl) ?_
            refine hq_get hx hb hts i_Plan hown hK hP 37 (by decide) (sc_s_Plan (rfl)) rfl 3 (by decide) (hts _ sc_wd_56) (fun _ h => h) (v := .ref (B + 46)) rfl d_Plan_hasTiledToWorkOut_51 ?_
            refine lv_iload_n hx hb d_Plan_hasTiledToWorkOut_54 rfl (lv_at hl 1 rfl) ?_
            obtain ⟨g8, hf⟩ := hm_gd_some hf
            refine hq_zald hx hb hK hP 46 (by decide) (sc_s_za8 (rfl)) 1 rfl g8 d_Plan_hasTiledToWorkOut_55 ?_
            refine lv_if_eq (tgt := 61) hx hb d_Plan_hasTiledToWorkOut_56 (by decide) (fun c9 => ?_) (fun c9 => ?_)
            · replace hf := (if_pos c9).symm.trans hf
              exact w_Plan_hasTiledToWorkOut_61 X ih _ _ h_a1 _ _ _ _ (lv_sub hl [2, 3, 4] rfl) hP hS hf
            · replace hf := (if_neg c9).symm.trans hf
              exact w_Plan_hasTiledToWorkOut_59 X _ _ _ _ (lv_sub hl [] rfl) hP hS hf
      · replace hf := (if_pos c4).symm.trans hf
        refine lv_goto (tgt := 61) hx hb d_Plan_hasTiledToWorkOut_22 (by decide) ?_
        exact w_Plan_hasTiledToWorkOut_61 X ih _ _ h_a1 _ _ _ _ (lv_sub hl [1, 2, 3] rfl) hP hS hf
set_option maxHeartbeats 4000000 in
set_option maxRecDepth 100000 in
theorem w_Plan_hasTiledToWorkOut_e {p : Program} {l : Launch} {e : Env} {s : State} {m : MethodId} {args : Array Value} {below : List Frame} {meth : Method} {c : Code} {D : va_G} {ca : Nat → ClassId} {B rl : Nat} {r : Int32} {M9 : hm_M} (X : hq_X p s m args meth c b_Plan_hasTiledToWorkOut R_Plan 5 (some .boolean) D sc_cl (sc_ty ca) hq_tb) : ∀ (a1 : Nat), sc_kd a1 = 5 → ∀ (M : hm_M) (H : Heap) (locs : List Loc) (ls : Array Slot), lv_has ls 5 [(0, .ref (B + 37)), (1, .ref (B + a1))] → hm_P D sc_cl ca 64 (sc_sh rl) B M hm_L0 H → va_S (hm_A B 64) s.heap H locs → f_Plan_hasTiledToWorkOut M a1 = some (r, M9) → W p l e ({ frames := 0, cells := 0, slots := 0, locals := 0 } : Room) s m args below meth c H locs 0 0 (MQ below (hq_QI D sc_cl ca 64 (sc_sh rl) B r M9 hm_L0) args s 0 0 (hm_A B 64)) (F0 m 0 ls []) := by
  obtain ⟨hx, hb, hml, hown, hr, hlk, hKt⟩ := id X
  have hK := hKt.1
  have hts : ∀ w ∈ hq_tb, w.before args s = true := fun w h => hKt.2.2 w h args
  intro a1 h_a1 M H locs ls hl hP hS hf
  unfold f_Plan_hasTiledToWorkOut at hf
  refine lv_iconst (v := 0) hx hb d_Plan_hasTiledToWorkOut_0 (by decide) ?_
  refine lv_istore_n (lv' := [(2, .int 0), (0, .ref (B + 37)), (1, .ref (B + a1))]) hx hb d_Plan_hasTiledToWorkOut_1 rfl hl (by decide) rfl (fun ls hl => ?_)
  exact w_Plan_hasTiledToWorkOut_2 X _ _ _ h_a1 _ _ _ _ (lv_sub hl [1, 2, 0] rfl) hP hS hf
set_option maxHeartbeats 4000000 in
set_option maxRecDepth 100000 in
theorem c_Plan_hasTiledToWorkOut {l : Launch} {D : va_G} {ca : Nat → ClassId} {B rl : Nat} {r : Int32} {a1 : Nat} (h_a1 : sc_kd a1 = 5) {M M9 : hm_M} (hf : f_Plan_hasTiledToWorkOut M a1 = some (r, M9)) : Met l y_Plan_hasTiledToWorkOut [Cond.code y_Plan_hasTiledToWorkOut b_Plan_hasTiledToWorkOut 5 (some .boolean)] ({ frames := 0, cells := 0, slots := 0, locals := 0 } : Room) (hq_Pre D sc_cl ca 64 (sc_sh rl) B (sc_ty ca) hq_tb M hm_L0 [.ref (B + 37), .ref (B + a1)]) (hq_QI D sc_cl ca 64 (sc_sh rl) B r M9 hm_L0) 0 0 (hm_A B 64) := by
  refine Met.ofW (cc := b_Plan_hasTiledToWorkOut) (maxL := 5) (ret := (some .boolean)) (by decide +kernel) rfl ?_
  intro p e s m args below meth c s₁ Bd hml hv
  obtain ⟨rfl, hP, hK⟩ := hv
  have hl := lv_entry ([.ref (B + 37), .ref (B + a1)]) (n := 5) (Nat.le_of_ble_eq_true rfl)
  rw [lg_entry_eq]
  generalize (lg_sl ([.ref (B + 37), .ref (B + a1)]) ++ List.replicate (5 - (lg_sl ([.ref (B + 37), .ref (B + a1)])).length) Slot.unset).toArray = ls at hl ⊢
  have hl : lv_has ls 5 [(0, .ref (B + 37)), (1, .ref (B + a1))] := hl
  exact w_Plan_hasTiledToWorkOut_e ⟨Bd.exec, Bd.bytes, hml, findClass_of_methodNamed Bd.named, Bd.returns, Bd.notSynchronized, hK⟩  _ h_a1 _ _ _ _ hl hP va_S.rf hf
set_option maxHeartbeats 4000000 in
set_option maxRecDepth 100000 in
theorem w_Plan_leastRootThatAsksTiled_52 {p : Program} {l : Launch} {e : Env} {s : State} {m : MethodId} {args : Array Value} {below : List Frame} {meth : Method} {c : Code} {D : va_G} {ca : Nat → ClassId} {B rl : Nat} {r : Int32} {M9 : hm_M} (X : hq_X p s m args meth c b_Plan_leastRootThatAsksTiled R_Plan 2 (some .int) D sc_cl (sc_ty ca) hq_tb) {k2 : Int32 → hm_M → Option (Int32 × hm_M)} (hk2 : ∀ (x1 : Int32), ∀ (M : hm_M) (H : Heap) (locs : List Loc) (ls : Array Slot), lv_has ls 2 [(0, .ref (B + 37)), (1, .int x1)] → hm_P D sc_cl ca 64 (sc_sh rl) B M hm_L0 H → va_S (hm_A B 64) s.heap H locs → k2 x1 M = some (r, M9) → W p l e ({ frames := 1, cells := 0, slots := 0, locals := 24 } : Room) s m args below meth c H locs 0 0 (MQ below (hq_QI D sc_cl ca 64 (sc_sh rl) B r M9 hm_L0) args s 0 0 (hm_A B 64)) (F0 m 2 ls [])) : ∀ (x1 : Int32), ∀ (M : hm_M) (H : Heap) (locs : List Loc) (ls : Array Slot), lv_has ls 2 [(0, .ref (B + 37)), (1, .int x1)] → hm_P D sc_cl ca 64 (sc_sh rl) B M hm_L0 H → va_S (hm_A B 64) s.heap H locs → f_Plan_leastRootThatAsksTiled_52 k2 x1 M = some (r, M9) → W p l e ({ frames := 1, cells := 0, slots := 0, locals := 24 } : Room) s m args below meth c H locs 0 0 (MQ below (hq_QI D sc_cl ca 64 (sc_sh rl) B r M9 hm_L0) args s 0 0 (hm_A B 64)) (F0 m 52 ls []) := by
  obtain ⟨hx, hb, hml, hown, hr, hlk, hKt⟩ := id X
  have hK := hKt.1
  have hts : ∀ w ∈ hq_tb, w.before args s = true := fun w h => hKt.2.2 w h args
  intro x1 M H locs ls hl hP hS hf
  unfold f_Plan_leastRootThatAsksTiled_52 at hf
  refine lv_iinc (v := (x1 + 1)) (lv' := [(1, .int (x1 + 1)), (0, .ref (B + 37))]) hx hb d_Plan_leastRootThatAsksTiled_52 hl (k := 1) rfl rfl (by decide) rfl (fun ls hl => ?_)
  refine lv_goto (tgt := 2) hx hb d_Plan_leastRootThatAsksTiled_55 (by decide) ?_
  exact hk2 _ _ _ _ _ (lv_sub hl [1, 0] rfl) hP hS hf
set_option maxHeartbeats 4000000 in
set_option maxRecDepth 100000 in
theorem w_Plan_leastRootThatAsksTiled_2 {p : Program} {l : Launch} {e : Env} {s : State} {m : MethodId} {args : Array Value} {below : List Frame} {meth : Method} {c : Code} {D : va_G} {ca : Nat → ClassId} {B rl : Nat} {r : Int32} {M9 : hm_M} (X : hq_X p s m args meth c b_Plan_leastRootThatAsksTiled R_Plan 2 (some .int) D sc_cl (sc_ty ca) hq_tb) : ∀ (n : Nat), ∀ (x1 : Int32), ∀ (M : hm_M) (H : Heap) (locs : List Loc) (ls : Array Slot), lv_has ls 2 [(0, .ref (B + 37)), (1, .int x1)] → hm_P D sc_cl ca 64 (sc_sh rl) B M hm_L0 H → va_S (hm_A B 64) s.heap H locs → f_Plan_leastRootThatAsksTiled_2 n x1 M = some (r, M9) → W p l e ({ frames := 1, cells := 0, slots := 0, locals := 24 } : Room) s m args below meth c H locs 0 0 (MQ below (hq_QI D sc_cl ca 64 (sc_sh rl) B r M9 hm_L0) args s 0 0 (hm_A B 64)) (F0 m 2 ls []) := by
  obtain ⟨hx, hb, hml, hown, hr, hlk, hKt⟩ := id X
  have hK := hKt.1
  have hts : ∀ w ∈ hq_tb, w.before args s = true := fun w h => hKt.2.2 w h args
  intro n
  induction n with
  | zero =>
    intro x1 M H locs ls hl hP hS hf
    cases hf
  | succ n ih =>
    intro x1 M H locs ls hl hP hS hf
    rw [f_Plan_leastRootThatAsksTiled_2] at hf
    refine lv_iload_n hx hb d_Plan_leastRootThatAsksTiled_2 rfl (lv_at hl 1 rfl) ?_
    refine lv_aload_n hx hb d_Plan_leastRootThatAsksTiled_3 rfl (lv_at hl 0 rfl) ?_
    refine hq_get hx hb hts i_Plan hown hK hP 37 (by decide) (sc_s_Plan (rfl)) rfl 0 (by decide) (hts _ sc_wd_51) (fun _ h => h) (v := .ref (B + 1)) rfl d_Plan_leastRootThatAsksTiled_4 ?_
    refine hq_getN hx hb hts i_Pipe hown hK hP 1 (by decide) (sc_s_Pipe (rfl)) rfl 5 (by decide) (hts _ sc_wd_57) (fun _ h => h) (v := .int (M 1 5)) rfl d_Plan_leastRootThatAsksTiled_7 ?_
    refine lv_icmp_ge (tgt := 58) hx hb d_Plan_leastRootThatAsksTiled_10 (by decide) (fun c1 => ?_) (fun c1 => ?_)
    · replace hf := (if_pos c1).symm.trans hf
      refine lv_iconst (v := (-1)) hx hb d_Plan_leastRootThatAsksTiled_58 (by decide) ?_
      obtain ⟨h9, h8⟩ := Prod.mk.inj (Option.some.inj hf)
      subst h9
      subst h8
      exact W.iret hx hb hr (fun t ht _ => ⟨⟨_, (), rfl, rfl, by subst ht; exact hP⟩, hS.F ht⟩) hS.2.2 d_Plan_leastRootThatAsksTiled_59 hlk
    · replace hf := (if_neg c1).symm.trans hf
      refine lv_aload_n hx hb d_Plan_leastRootThatAsksTiled_13 rfl (lv_at hl 0 rfl) ?_
      refine hq_get hx hb hts i_Plan hown hK hP 37 (by decide) (sc_s_Plan (rfl)) rfl 3 (by decide) (hts _ sc_wd_56) (fun _ h => h) (v := .ref (B + 46)) rfl d_Plan_leastRootThatAsksTiled_14 ?_
      refine lv_iload_n hx hb d_Plan_leastRootThatAsksTiled_17 rfl (lv_at hl 1 rfl) ?_
      refine lv_aload_n hx hb d_Plan_leastRootThatAsksTiled_18 rfl (lv_at hl 0 rfl) ?_
      refine lv_aload_n hx hb d_Plan_leastRootThatAsksTiled_19 rfl (lv_at hl 0 rfl) ?_
      refine hq_get hx hb hts i_Plan hown hK hP 37 (by decide) (sc_s_Plan (rfl)) rfl 0 (by decide) (hts _ sc_wd_51) (fun _ h => h) (v := .ref (B + 1)) rfl d_Plan_leastRootThatAsksTiled_20 ?_
      refine hq_getN hx hb hts i_Pipe hown hK hP 1 (by decide) (sc_s_Pipe (rfl)) rfl 1 (by decide) (hts _ sc_wd_52) (fun _ h => h) (v := .ref (B + 2)) rfl d_Plan_leastRootThatAsksTiled_23 ?_
      refine lv_iload_n hx hb d_Plan_leastRootThatAsksTiled_26 rfl (lv_at hl 1 rfl) ?_
      obtain ⟨g2, hf⟩ := hm_gd_some hf
      refine hq_aald hx hb hK hP 2 (by decide) (sc_s_starr (rfl)) 2 rfl rfl g2 d_Plan_leastRootThatAsksTiled_27 ?_
      obtain ⟨r3, M_4, hc5, hf⟩ := hm_bI_some hf
      refine hq_callI (va_runV (As := [.ref (B + (5 + 4 * x1.toNatClampNeg))]) (rest := [.int x1, .ref (B + 46)]) ⟨hx, hb, hml, hown, hts⟩ (c_Plan_hasTiledToWorkOut (l := l) (D := D) (ca := ca) (B := B) (rl := rl) (sck_st g2) hc5) (hq_cwV (nn := 1) hts sc_wd_58 sc_wd_59 sc_wd_60 sc_wd_61 sc_wd_62 (by decide +kernel) rfl rfl ⟨(Nat.le_of_ble_eq_true rfl), (Nat.le_of_ble_eq_true rfl)⟩) (hq_preV hKt hP (by decide) (sc_s_Plan (rfl)) rfl) rfl rfl hl.1 rfl (lv_room (Nat.le_of_ble_eq_true rfl)) d_Plan_leastRootThatAsksTiled_28 ⟨(Nat.le_of_ble_eq_true rfl), (Nat.le_of_ble_eq_true rfl)⟩) hS (fun H locs hP hS => ?_)
      obtain ⟨g6, hf⟩ := hm_gd_some hf
      obtain ⟨g7, hf⟩ := hm_gd_some hf
      refine hq_zast hx hb hK hP hS 46 (by decide) (sc_s_za8 (rfl)) 1 rfl g6 (of_decide_eq_true g7) d_Plan_leastRootThatAsksTiled_31 (fun H locs hP hS => ?_)
      obtain ⟨M_8, e_8, hf⟩ := hm_st_some hf
      rw [← e_8] at hP
      refine lv_aload_n hx hb d_Plan_leastRootThatAsksTiled_32 rfl (lv_at hl 0 rfl) ?_
      refine lv_iload_n hx hb d_Plan_leastRootThatAsksTiled_33 rfl (lv_at hl 1 rfl) ?_
      refine lv_iconst (v := 1) hx hb d_Plan_leastRootThatAsksTiled_34 (by decide) ?_
      obtain ⟨r9, M_10, hc11, hf⟩ := hm_bI_some hf
      refine hq_callI (va_runV (As := [.int x1, .int 1]) (rest := []) ⟨hx, hb, hml, hown, hts⟩ (c_Plan_isUsedAs (l := l) (D := D) (ca := ca) (B := B) (rl := rl)  hc11) (hq_cwV (nn := 2) hts sc_wd_63 sc_wd_59 sc_wd_64 sc_wd_65 sc_wd_66 (by decide +kernel) rfl rfl ⟨(Nat.le_of_ble_eq_true rfl), (Nat.le_of_ble_eq_true rfl)⟩) (hq_preV hKt hP (by decide) (sc_s_Plan (rfl)) rfl) rfl rfl hl.1 rfl (lv_room (Nat.le_of_ble_eq_true rfl)) d_Plan_leastRootThatAsksTiled_35 ⟨(Nat.le_of_ble_eq_true rfl), (Nat.le_of_ble_eq_true rfl)⟩) hS (fun H locs hP hS => ?_)
      refine lv_if_eq (tgt := 52) hx hb d_Plan_leastRootThatAsksTiled_38 (by decide) (fun c12 => ?_) (fun c12 => ?_)
      · replace hf := (if_pos c12).symm.trans hf
        exact w_Plan_leastRootThatAsksTiled_52 X ih _ _ _ _ _ (lv_sub hl [0, 1] rfl) hP hS hf
      · replace hf := (if_neg c12).symm.trans hf
        refine lv_aload_n hx hb d_Plan_leastRootThatAsksTiled_41 rfl (lv_at hl 0 rfl) ?_
        refine hq_get hx hb hts i_Plan hown hK hP 37 (by decide) (sc_s_Plan (rfl)) rfl 3 (by decide) (hts _ sc_wd_56) (fun _ h => h) (v := .ref (B + 46)) rfl d_Plan_leastRootThatAsksTiled_42 ?_
        refine lv_iload_n hx hb d_Plan_leastRootThatAsksTiled_45 rfl (lv_at hl 1 rfl) ?_
        obtain ⟨g13, hf⟩ := hm_gd_some hf
        refine hq_zald hx hb hK hP 46 (by decide) (sc_s_za8 (rfl)) 1 rfl g13 d_Plan_leastRootThatAsksTiled_46 ?_
        refine lv_if_eq (tgt := 52) hx hb d_Plan_leastRootThatAsksTiled_47 (by decide) (fun c14 => ?_) (fun c14 => ?_)
        · replace hf := (if_pos c14).symm.trans hf
          exact w_Plan_leastRootThatAsksTiled_52 X ih _ _ _ _ _ (lv_sub hl [0, 1] rfl) hP hS hf
        · replace hf := (if_neg c14).symm.trans hf
          refine lv_iload_n hx hb d_Plan_leastRootThatAsksTiled_50 rfl (lv_at hl 1 rfl) ?_
          obtain ⟨h9, h8⟩ := Prod.mk.inj (Option.some.inj hf)
          subst h9
          subst h8
          exact W.iret hx hb hr (fun t ht _ => ⟨⟨_, (), rfl, rfl, by subst ht; exact hP⟩, hS.F ht⟩) hS.2.2 d_Plan_leastRootThatAsksTiled_51 hlk
set_option maxHeartbeats 4000000 in
set_option maxRecDepth 100000 in
theorem w_Plan_leastRootThatAsksTiled_e {p : Program} {l : Launch} {e : Env} {s : State} {m : MethodId} {args : Array Value} {below : List Frame} {meth : Method} {c : Code} {D : va_G} {ca : Nat → ClassId} {B rl : Nat} {r : Int32} {M9 : hm_M} (X : hq_X p s m args meth c b_Plan_leastRootThatAsksTiled R_Plan 2 (some .int) D sc_cl (sc_ty ca) hq_tb) : ∀ (M : hm_M) (H : Heap) (locs : List Loc) (ls : Array Slot), lv_has ls 2 [(0, .ref (B + 37))] → hm_P D sc_cl ca 64 (sc_sh rl) B M hm_L0 H → va_S (hm_A B 64) s.heap H locs → f_Plan_leastRootThatAsksTiled M = some (r, M9) → W p l e ({ frames := 1, cells := 0, slots := 0, locals := 24 } : Room) s m args below meth c H locs 0 0 (MQ below (hq_QI D sc_cl ca 64 (sc_sh rl) B r M9 hm_L0) args s 0 0 (hm_A B 64)) (F0 m 0 ls []) := by
  obtain ⟨hx, hb, hml, hown, hr, hlk, hKt⟩ := id X
  have hK := hKt.1
  have hts : ∀ w ∈ hq_tb, w.before args s = true := fun w h => hKt.2.2 w h args
  intro  M H locs ls hl hP hS hf
  unfold f_Plan_leastRootThatAsksTiled at hf
  refine lv_iconst (v := 0) hx hb d_Plan_leastRootThatAsksTiled_0 (by decide) ?_
  refine lv_istore_n (lv' := [(1, .int 0), (0, .ref (B + 37))]) hx hb d_Plan_leastRootThatAsksTiled_1 rfl hl (by decide) rfl (fun ls hl => ?_)
  exact w_Plan_leastRootThatAsksTiled_2 X _ _ _ _ _ _ (lv_sub hl [1, 0] rfl) hP hS hf
set_option maxHeartbeats 4000000 in
set_option maxRecDepth 100000 in
theorem c_Plan_leastRootThatAsksTiled {l : Launch} {D : va_G} {ca : Nat → ClassId} {B rl : Nat} {r : Int32} {M M9 : hm_M} (hf : f_Plan_leastRootThatAsksTiled M  = some (r, M9)) : Met l y_Plan_leastRootThatAsksTiled [Cond.code y_Plan_leastRootThatAsksTiled b_Plan_leastRootThatAsksTiled 2 (some .int)] ({ frames := 1, cells := 0, slots := 0, locals := 24 } : Room) (hq_Pre D sc_cl ca 64 (sc_sh rl) B (sc_ty ca) hq_tb M hm_L0 [.ref (B + 37)]) (hq_QI D sc_cl ca 64 (sc_sh rl) B r M9 hm_L0) 0 0 (hm_A B 64) := by
  refine Met.ofW (cc := b_Plan_leastRootThatAsksTiled) (maxL := 2) (ret := (some .int)) (by decide +kernel) rfl ?_
  intro p e s m args below meth c s₁ Bd hml hv
  obtain ⟨rfl, hP, hK⟩ := hv
  have hl := lv_entry ([.ref (B + 37)]) (n := 2) (Nat.le_of_ble_eq_true rfl)
  rw [lg_entry_eq]
  generalize (lg_sl ([.ref (B + 37)]) ++ List.replicate (2 - (lg_sl ([.ref (B + 37)])).length) Slot.unset).toArray = ls at hl ⊢
  have hl : lv_has ls 2 [(0, .ref (B + 37))] := hl
  exact w_Plan_leastRootThatAsksTiled_e ⟨Bd.exec, Bd.bytes, hml, findClass_of_methodNamed Bd.named, Bd.returns, Bd.notSynchronized, hK⟩   _ _ _ _ hl hP va_S.rf hf
set_option maxHeartbeats 4000000 in
set_option maxRecDepth 100000 in
theorem w_Plan_measureOutput_e {p : Program} {l : Launch} {e : Env} {s : State} {m : MethodId} {args : Array Value} {below : List Frame} {meth : Method} {c : Code} {D : va_G} {ca : Nat → ClassId} {B rl : Nat} {M9 : hm_M} (X : hq_X p s m args meth c b_Plan_measureOutput R_Plan 1 none D sc_cl (sc_ty ca) hq_tb) : ∀ (M : hm_M) (H : Heap) (locs : List Loc) (ls : Array Slot), lv_has ls 1 [(0, .ref (B + 37))] → hm_P D sc_cl ca 64 (sc_sh rl) B M hm_L0 H → va_S (hm_A B 64) s.heap H locs → f_Plan_measureOutput M = some M9 → W p l e ({ frames := 0, cells := 0, slots := 0, locals := 0 } : Room) s m args below meth c H locs 0 0 (MQ below (hq_QV D sc_cl ca 64 (sc_sh rl) B M9 hm_L0) args s 0 0 (hm_A B 64)) (F0 m 0 ls []) := by
  obtain ⟨hx, hb, hml, hown, hr, hlk, hKt⟩ := id X
  have hK := hKt.1
  have hts : ∀ w ∈ hq_tb, w.before args s = true := fun w h => hKt.2.2 w h args
  intro  M H locs ls hl hP hS hf
  unfold f_Plan_measureOutput at hf
  refine lv_aload_n hx hb d_Plan_measureOutput_0 rfl (lv_at hl 0 rfl) ?_
  refine hq_get hx hb hts i_Plan hown hK hP 37 (by decide) (sc_s_Plan (rfl)) rfl 4 (by decide) (hts _ sc_wd_67) (fun _ h => h) (v := .ref (B + 47)) rfl d_Plan_measureOutput_1 ?_
  refine lv_aload_n hx hb d_Plan_measureOutput_4 rfl (lv_at hl 0 rfl) ?_
  refine hq_get hx hb hts i_Plan hown hK hP 37 (by decide) (sc_s_Plan (rfl)) rfl 0 (by decide) (hts _ sc_wd_51) (fun _ h => h) (v := .ref (B + 1)) rfl d_Plan_measureOutput_5 ?_
  refine hq_getN hx hb hts i_Pipe hown hK hP 1 (by decide) (sc_s_Pipe (rfl)) rfl 5 (by decide) (hts _ sc_wd_57) (fun _ h => h) (v := .int (M 1 5)) rfl d_Plan_measureOutput_8 ?_
  refine lv_aload_n hx hb d_Plan_measureOutput_11 rfl (lv_at hl 0 rfl) ?_
  refine hq_get hx hb hts i_Plan hown hK hP 37 (by decide) (sc_s_Plan (rfl)) rfl 0 (by decide) (hts _ sc_wd_51) (fun _ h => h) (v := .ref (B + 1)) rfl d_Plan_measureOutput_12 ?_
  refine hq_getN hx hb hts i_Pipe hown hK hP 1 (by decide) (sc_s_Pipe (rfl)) rfl 6 (by decide) (hts _ sc_wd_68) (fun _ h => h) (v := .int (M 1 6)) rfl d_Plan_measureOutput_15 ?_
  obtain ⟨g1, hf⟩ := hm_gd_some hf
  refine hq_iast hx hb hK hP hS 47 (by decide) (sc_s_ia8 (rfl)) 0 rfl g1 d_Plan_measureOutput_18 (fun H locs hP hS => ?_)
  obtain ⟨M_2, e_2, hf⟩ := hm_st_some hf
  rw [← e_2] at hP
  have h8 := Option.some.inj hf
  subst h8
  exact W.vret hx hb hr (fun t ht _ => ⟨⟨(), rfl, trivial, by subst ht; exact hP⟩, hS.F ht⟩) hS.2.2 d_Plan_measureOutput_19 hlk
set_option maxHeartbeats 4000000 in
set_option maxRecDepth 100000 in
theorem c_Plan_measureOutput {l : Launch} {D : va_G} {ca : Nat → ClassId} {B rl : Nat} {M M9 : hm_M} (hf : f_Plan_measureOutput M  = some M9) : Met l y_Plan_measureOutput [Cond.code y_Plan_measureOutput b_Plan_measureOutput 1 none] ({ frames := 0, cells := 0, slots := 0, locals := 0 } : Room) (hq_Pre D sc_cl ca 64 (sc_sh rl) B (sc_ty ca) hq_tb M hm_L0 [.ref (B + 37)]) (hq_QV D sc_cl ca 64 (sc_sh rl) B M9 hm_L0) 0 0 (hm_A B 64) := by
  refine Met.ofW (cc := b_Plan_measureOutput) (maxL := 1) (ret := none) (by decide +kernel) rfl ?_
  intro p e s m args below meth c s₁ Bd hml hv
  obtain ⟨rfl, hP, hK⟩ := hv
  have hl := lv_entry ([.ref (B + 37)]) (n := 1) (Nat.le_of_ble_eq_true rfl)
  rw [lg_entry_eq]
  generalize (lg_sl ([.ref (B + 37)]) ++ List.replicate (1 - (lg_sl ([.ref (B + 37)])).length) Slot.unset).toArray = ls at hl ⊢
  have hl : lv_has ls 1 [(0, .ref (B + 37))] := hl
  exact w_Plan_measureOutput_e ⟨Bd.exec, Bd.bytes, hml, findClass_of_methodNamed Bd.named, Bd.returns, Bd.notSynchronized, hK⟩   _ _ _ _ hl hP va_S.rf hf
set_option maxHeartbeats 4000000 in
set_option maxRecDepth 100000 in
theorem w_Plan_measureRoots_51 {p : Program} {l : Launch} {e : Env} {s : State} {m : MethodId} {args : Array Value} {below : List Frame} {meth : Method} {c : Code} {D : va_G} {ca : Nat → ClassId} {B rl : Nat} {M9 : hm_M} (X : hq_X p s m args meth c b_Plan_measureRoots R_Plan 2 none D sc_cl (sc_ty ca) hq_tb) {k2 : Int32 → hm_M → Option hm_M} (hk2 : ∀ (x1 : Int32), ∀ (M : hm_M) (H : Heap) (locs : List Loc) (ls : Array Slot), lv_has ls 2 [(0, .ref (B + 37)), (1, .int x1)] → hm_P D sc_cl ca 64 (sc_sh rl) B M hm_L0 H → va_S (hm_A B 64) s.heap H locs → k2 x1 M = some M9 → W p l e ({ frames := 1, cells := 0, slots := 0, locals := 22 } : Room) s m args below meth c H locs 0 0 (MQ below (hq_QV D sc_cl ca 64 (sc_sh rl) B M9 hm_L0) args s 0 0 (hm_A B 64)) (F0 m 2 ls [])) : ∀ (x1 : Int32), ∀ (M : hm_M) (H : Heap) (locs : List Loc) (ls : Array Slot), lv_has ls 2 [(0, .ref (B + 37)), (1, .int x1)] → hm_P D sc_cl ca 64 (sc_sh rl) B M hm_L0 H → va_S (hm_A B 64) s.heap H locs → f_Plan_measureRoots_51 k2 x1 M = some M9 → W p l e ({ frames := 1, cells := 0, slots := 0, locals := 22 } : Room) s m args below meth c H locs 0 0 (MQ below (hq_QV D sc_cl ca 64 (sc_sh rl) B M9 hm_L0) args s 0 0 (hm_A B 64)) (F0 m 51 ls []) := by
  obtain ⟨hx, hb, hml, hown, hr, hlk, hKt⟩ := id X
  have hK := hKt.1
  have hts : ∀ w ∈ hq_tb, w.before args s = true := fun w h => hKt.2.2 w h args
  intro x1 M H locs ls hl hP hS hf
  unfold f_Plan_measureRoots_51 at hf
  refine lv_iinc (v := (x1 + 1)) (lv' := [(1, .int (x1 + 1)), (0, .ref (B + 37))]) hx hb d_Plan_measureRoots_51 hl (k := 1) rfl rfl (by decide) rfl (fun ls hl => ?_)
  refine lv_goto (tgt := 2) hx hb d_Plan_measureRoots_54 (by decide) ?_
  exact hk2 _ _ _ _ _ (lv_sub hl [1, 0] rfl) hP hS hf
set_option maxHeartbeats 4000000 in
set_option maxRecDepth 100000 in
theorem w_Plan_measureRoots_2 {p : Program} {l : Launch} {e : Env} {s : State} {m : MethodId} {args : Array Value} {below : List Frame} {meth : Method} {c : Code} {D : va_G} {ca : Nat → ClassId} {B rl : Nat} {M9 : hm_M} (X : hq_X p s m args meth c b_Plan_measureRoots R_Plan 2 none D sc_cl (sc_ty ca) hq_tb) : ∀ (n : Nat), ∀ (x1 : Int32), ∀ (M : hm_M) (H : Heap) (locs : List Loc) (ls : Array Slot), lv_has ls 2 [(0, .ref (B + 37)), (1, .int x1)] → hm_P D sc_cl ca 64 (sc_sh rl) B M hm_L0 H → va_S (hm_A B 64) s.heap H locs → f_Plan_measureRoots_2 n x1 M = some M9 → W p l e ({ frames := 1, cells := 0, slots := 0, locals := 22 } : Room) s m args below meth c H locs 0 0 (MQ below (hq_QV D sc_cl ca 64 (sc_sh rl) B M9 hm_L0) args s 0 0 (hm_A B 64)) (F0 m 2 ls []) := by
  obtain ⟨hx, hb, hml, hown, hr, hlk, hKt⟩ := id X
  have hK := hKt.1
  have hts : ∀ w ∈ hq_tb, w.before args s = true := fun w h => hKt.2.2 w h args
  intro n
  induction n with
  | zero =>
    intro x1 M H locs ls hl hP hS hf
    cases hf
  | succ n ih =>
    intro x1 M H locs ls hl hP hS hf
    rw [f_Plan_measureRoots_2] at hf
    refine lv_iload_n hx hb d_Plan_measureRoots_2 rfl (lv_at hl 1 rfl) ?_
    refine lv_aload_n hx hb d_Plan_measureRoots_3 rfl (lv_at hl 0 rfl) ?_
    refine hq_get hx hb hts i_Plan hown hK hP 37 (by decide) (sc_s_Plan (rfl)) rfl 0 (by decide) (hts _ sc_wd_51) (fun _ h => h) (v := .ref (B + 1)) rfl d_Plan_measureRoots_4 ?_
    refine hq_getN hx hb hts i_Pipe hown hK hP 1 (by decide) (sc_s_Pipe (rfl)) rfl 5 (by decide) (hts _ sc_wd_57) (fun _ h => h) (v := .int (M 1 5)) rfl d_Plan_measureRoots_7 ?_
    refine lv_icmp_ge (tgt := 57) hx hb d_Plan_measureRoots_10 (by decide) (fun c1 => ?_) (fun c1 => ?_)
    · replace hf := (if_pos c1).symm.trans hf
      have h8 := Option.some.inj hf
      subst h8
      exact W.vret hx hb hr (fun t ht _ => ⟨⟨(), rfl, trivial, by subst ht; exact hP⟩, hS.F ht⟩) hS.2.2 d_Plan_measureRoots_57 hlk
    · replace hf := (if_neg c1).symm.trans hf
      refine lv_aload_n hx hb d_Plan_measureRoots_13 rfl (lv_at hl 0 rfl) ?_
      refine lv_iload_n hx hb d_Plan_measureRoots_14 rfl (lv_at hl 1 rfl) ?_
      refine lv_iconst (v := 1) hx hb d_Plan_measureRoots_15 (by decide) ?_
      obtain ⟨r2, M_3, hc4, hf⟩ := hm_bI_some hf
      refine hq_callI (va_runV (As := [.int x1, .int 1]) (rest := []) ⟨hx, hb, hml, hown, hts⟩ (c_Plan_isUsedAs (l := l) (D := D) (ca := ca) (B := B) (rl := rl)  hc4) (hq_cwV (nn := 2) hts sc_wd_63 sc_wd_59 sc_wd_64 sc_wd_65 sc_wd_66 (by decide +kernel) rfl rfl ⟨(Nat.le_of_ble_eq_true rfl), (Nat.le_of_ble_eq_true rfl)⟩) (hq_preV hKt hP (by decide) (sc_s_Plan (rfl)) rfl) rfl rfl hl.1 rfl (lv_room (Nat.le_of_ble_eq_true rfl)) d_Plan_measureRoots_16 ⟨(Nat.le_of_ble_eq_true rfl), (Nat.le_of_ble_eq_true rfl)⟩) hS (fun H locs hP hS => ?_)
      refine lv_if_eq (tgt := 51) hx hb d_Plan_measureRoots_19 (by decide) (fun c5 => ?_) (fun c5 => ?_)
      · replace hf := (if_pos c5).symm.trans hf
        exact w_Plan_measureRoots_51 X ih _ _ _ _ _ (lv_sub hl [0, 1] rfl) hP hS hf
      · replace hf := (if_neg c5).symm.trans hf
        refine lv_aload_n hx hb d_Plan_measureRoots_22 rfl (lv_at hl 0 rfl) ?_
        refine hq_get hx hb hts i_Plan hown hK hP 37 (by decide) (sc_s_Plan (rfl)) rfl 4 (by decide) (hts _ sc_wd_67) (fun _ h => h) (v := .ref (B + 47)) rfl d_Plan_measureRoots_23 ?_
        refine lv_iload_n hx hb d_Plan_measureRoots_26 rfl (lv_at hl 1 rfl) ?_
        refine lv_aload_n hx hb d_Plan_measureRoots_27 rfl (lv_at hl 0 rfl) ?_
        refine hq_get hx hb hts i_Plan hown hK hP 37 (by decide) (sc_s_Plan (rfl)) rfl 1 (by decide) (hts _ sc_wd_49) (fun _ h => h) (v := .ref (B + 38)) rfl d_Plan_measureRoots_28 ?_
        refine lv_iload_n hx hb d_Plan_measureRoots_31 rfl (lv_at hl 1 rfl) ?_
        obtain ⟨r6, M_7, hc8, hf⟩ := hm_bI_some hf
        refine hq_callI (va_runVN (As := [.int x1]) (rest := [.int x1, .ref (B + 47)]) ⟨hx, hb, hml, hown, hts⟩ (c_Needs_lengthOf (l := l) (D := D) (ca := ca) (B := B) (rl := rl) rfl hc8) (hq_cwN (nn := 1) hts sc_wd_69 sc_wd_14 sc_wd_70 sc_wd_71 sc_wd_72 (by decide +kernel) rfl rfl ⟨(Nat.le_of_ble_eq_true rfl), (Nat.le_of_ble_eq_true rfl)⟩) (hq_preV hKt hP (by decide) (sc_s_Needs (rfl)) rfl) rfl rfl hl.1 rfl (lv_room (Nat.le_of_ble_eq_true rfl)) d_Plan_measureRoots_32 ⟨(Nat.le_of_ble_eq_true rfl), (Nat.le_of_ble_eq_true rfl)⟩) hS (fun H locs hP hS => ?_)
        obtain ⟨g9, hf⟩ := hm_gd_some hf
        refine hq_iast hx hb hK hP hS 47 (by decide) (sc_s_ia8 (rfl)) 0 rfl g9 d_Plan_measureRoots_35 (fun H locs hP hS => ?_)
        obtain ⟨M_10, e_10, hf⟩ := hm_st_some hf
        rw [← e_10] at hP
        refine lv_aload_n hx hb d_Plan_measureRoots_36 rfl (lv_at hl 0 rfl) ?_
        refine lv_dup hx hb d_Plan_measureRoots_37 rfl ?_
        refine hq_get hx hb hts i_Plan hown hK hP 37 (by decide) (sc_s_Plan (rfl)) rfl 6 (by decide) (hts _ sc_wd_73) (fun _ h => h) (v := .int (M_10 37 6)) rfl d_Plan_measureRoots_38 ?_
        refine lv_aload_n hx hb d_Plan_measureRoots_41 rfl (lv_at hl 0 rfl) ?_
        refine hq_get hx hb hts i_Plan hown hK hP 37 (by decide) (sc_s_Plan (rfl)) rfl 4 (by decide) (hts _ sc_wd_67) (fun _ h => h) (v := .ref (B + 47)) rfl d_Plan_measureRoots_42 ?_
        refine lv_iload_n hx hb d_Plan_measureRoots_45 rfl (lv_at hl 1 rfl) ?_
        obtain ⟨g11, hf⟩ := hm_gd_some hf
        refine hq_iald hx hb hK hP 47 (by decide) (sc_s_ia8 (rfl)) 0 rfl g11 d_Plan_measureRoots_46 ?_
        refine lv_iadd hx hb d_Plan_measureRoots_47 ?_
        refine hq_put hx hb hts i_Plan t_Plan t_Plan_ok n_Plan hown hK hP hS 37 (by decide) (sc_s_Plan (rfl)) rfl 6 (by decide) (hts _ sc_wd_73) (fun _ h => h) rfl (ty := .int) (x := ((M_10 37 6) + (M_10 47 x1.toNatClampNeg))) (by decide +kernel) rfl rfl rfl d_Plan_measureRoots_48 (fun H locs hP hS => ?_)
        obtain ⟨M_12, e_12, hf⟩ := hm_st_some hf
        rw [← e_12] at hP
        exact w_Plan_measureRoots_51 X ih _ _ _ _ _ (lv_sub hl [0, 1] rfl) hP hS hf
set_option maxHeartbeats 4000000 in
set_option maxRecDepth 100000 in
theorem w_Plan_measureRoots_e {p : Program} {l : Launch} {e : Env} {s : State} {m : MethodId} {args : Array Value} {below : List Frame} {meth : Method} {c : Code} {D : va_G} {ca : Nat → ClassId} {B rl : Nat} {M9 : hm_M} (X : hq_X p s m args meth c b_Plan_measureRoots R_Plan 2 none D sc_cl (sc_ty ca) hq_tb) : ∀ (M : hm_M) (H : Heap) (locs : List Loc) (ls : Array Slot), lv_has ls 2 [(0, .ref (B + 37))] → hm_P D sc_cl ca 64 (sc_sh rl) B M hm_L0 H → va_S (hm_A B 64) s.heap H locs → f_Plan_measureRoots M = some M9 → W p l e ({ frames := 1, cells := 0, slots := 0, locals := 22 } : Room) s m args below meth c H locs 0 0 (MQ below (hq_QV D sc_cl ca 64 (sc_sh rl) B M9 hm_L0) args s 0 0 (hm_A B 64)) (F0 m 0 ls []) := by
  obtain ⟨hx, hb, hml, hown, hr, hlk, hKt⟩ := id X
  have hK := hKt.1
  have hts : ∀ w ∈ hq_tb, w.before args s = true := fun w h => hKt.2.2 w h args
  intro  M H locs ls hl hP hS hf
  unfold f_Plan_measureRoots at hf
  refine lv_iconst (v := 0) hx hb d_Plan_measureRoots_0 (by decide) ?_
  refine lv_istore_n (lv' := [(1, .int 0), (0, .ref (B + 37))]) hx hb d_Plan_measureRoots_1 rfl hl (by decide) rfl (fun ls hl => ?_)
  exact w_Plan_measureRoots_2 X _ _ _ _ _ _ (lv_sub hl [1, 0] rfl) hP hS hf
set_option maxHeartbeats 4000000 in
set_option maxRecDepth 100000 in
theorem c_Plan_measureRoots {l : Launch} {D : va_G} {ca : Nat → ClassId} {B rl : Nat} {M M9 : hm_M} (hf : f_Plan_measureRoots M  = some M9) : Met l y_Plan_measureRoots [Cond.code y_Plan_measureRoots b_Plan_measureRoots 2 none] ({ frames := 1, cells := 0, slots := 0, locals := 22 } : Room) (hq_Pre D sc_cl ca 64 (sc_sh rl) B (sc_ty ca) hq_tb M hm_L0 [.ref (B + 37)]) (hq_QV D sc_cl ca 64 (sc_sh rl) B M9 hm_L0) 0 0 (hm_A B 64) := by
  refine Met.ofW (cc := b_Plan_measureRoots) (maxL := 2) (ret := none) (by decide +kernel) rfl ?_
  intro p e s m args below meth c s₁ Bd hml hv
  obtain ⟨rfl, hP, hK⟩ := hv
  have hl := lv_entry ([.ref (B + 37)]) (n := 2) (Nat.le_of_ble_eq_true rfl)
  rw [lg_entry_eq]
  generalize (lg_sl ([.ref (B + 37)]) ++ List.replicate (2 - (lg_sl ([.ref (B + 37)])).length) Slot.unset).toArray = ls at hl ⊢
  have hl : lv_has ls 2 [(0, .ref (B + 37))] := hl
  exact w_Plan_measureRoots_e ⟨Bd.exec, Bd.bytes, hml, findClass_of_methodNamed Bd.named, Bd.returns, Bd.notSynchronized, hK⟩   _ _ _ _ hl hP va_S.rf hf
set_option maxHeartbeats 4000000 in
set_option maxRecDepth 100000 in
theorem w_Plan_measureTileInHand_59 {p : Program} {l : Launch} {e : Env} {s : State} {m : MethodId} {args : Array Value} {below : List Frame} {meth : Method} {c : Code} {D : va_G} {ca : Nat → ClassId} {B rl : Nat} {r : Int32} {M9 : hm_M} (X : hq_X p s m args meth c b_Plan_measureTileInHand R_Plan 4 (some .int) D sc_cl (sc_ty ca) hq_tb) {k4 : Int32 → Int32 → hm_M → Option (Int32 × hm_M)} (hk4 : ∀ (x1 : Int32), ∀ (x2 : Int32), ∀ (M : hm_M) (H : Heap) (locs : List Loc) (ls : Array Slot), lv_has ls 4 [(0, .ref (B + 37)), (1, .int x1), (2, .int x2)] → hm_P D sc_cl ca 64 (sc_sh rl) B M hm_L0 H → va_S (hm_A B 64) s.heap H locs → k4 x1 x2 M = some (r, M9) → W p l e ({ frames := 1, cells := 0, slots := 0, locals := 22 } : Room) s m args below meth c H locs 0 0 (MQ below (hq_QI D sc_cl ca 64 (sc_sh rl) B r M9 hm_L0) args s 0 0 (hm_A B 64)) (F0 m 4 ls [])) : ∀ (x1 : Int32), ∀ (x2 : Int32), ∀ (M : hm_M) (H : Heap) (locs : List Loc) (ls : Array Slot), lv_has ls 4 [(0, .ref (B + 37)), (1, .int x1), (2, .int x2)] → hm_P D sc_cl ca 64 (sc_sh rl) B M hm_L0 H → va_S (hm_A B 64) s.heap H locs → f_Plan_measureTileInHand_59 k4 x1 x2 M = some (r, M9) → W p l e ({ frames := 1, cells := 0, slots := 0, locals := 22 } : Room) s m args below meth c H locs 0 0 (MQ below (hq_QI D sc_cl ca 64 (sc_sh rl) B r M9 hm_L0) args s 0 0 (hm_A B 64)) (F0 m 59 ls []) := by
  obtain ⟨hx, hb, hml, hown, hr, hlk, hKt⟩ := id X
  have hK := hKt.1
  have hts : ∀ w ∈ hq_tb, w.before args s = true := fun w h => hKt.2.2 w h args
  intro x1 x2 M H locs ls hl hP hS hf
  unfold f_Plan_measureTileInHand_59 at hf
  refine lv_iinc (v := (x2 + 1)) (lv' := [(2, .int (x2 + 1)), (0, .ref (B + 37)), (1, .int x1)]) hx hb d_Plan_measureTileInHand_59 hl (k := 2) rfl rfl (by decide) rfl (fun ls hl => ?_)
  refine lv_goto (tgt := 4) hx hb d_Plan_measureTileInHand_62 (by decide) ?_
  exact hk4 _ _ _ _ _ _ (lv_sub hl [1, 2, 0] rfl) hP hS hf
set_option maxHeartbeats 4000000 in
set_option maxRecDepth 100000 in
theorem w_Plan_measureTileInHand_4 {p : Program} {l : Launch} {e : Env} {s : State} {m : MethodId} {args : Array Value} {below : List Frame} {meth : Method} {c : Code} {D : va_G} {ca : Nat → ClassId} {B rl : Nat} {r : Int32} {M9 : hm_M} (X : hq_X p s m args meth c b_Plan_measureTileInHand R_Plan 4 (some .int) D sc_cl (sc_ty ca) hq_tb) : ∀ (n : Nat), ∀ (x1 : Int32), ∀ (x2 : Int32), ∀ (M : hm_M) (H : Heap) (locs : List Loc) (ls : Array Slot), lv_has ls 4 [(0, .ref (B + 37)), (1, .int x1), (2, .int x2)] → hm_P D sc_cl ca 64 (sc_sh rl) B M hm_L0 H → va_S (hm_A B 64) s.heap H locs → f_Plan_measureTileInHand_4 n x1 x2 M = some (r, M9) → W p l e ({ frames := 1, cells := 0, slots := 0, locals := 22 } : Room) s m args below meth c H locs 0 0 (MQ below (hq_QI D sc_cl ca 64 (sc_sh rl) B r M9 hm_L0) args s 0 0 (hm_A B 64)) (F0 m 4 ls []) := by
  obtain ⟨hx, hb, hml, hown, hr, hlk, hKt⟩ := id X
  have hK := hKt.1
  have hts : ∀ w ∈ hq_tb, w.before args s = true := fun w h => hKt.2.2 w h args
  intro n
  induction n with
  | zero =>
    intro x1 x2 M H locs ls hl hP hS hf
    cases hf
  | succ n ih =>
    intro x1 x2 M H locs ls hl hP hS hf
    rw [f_Plan_measureTileInHand_4] at hf
    refine lv_iload_n hx hb d_Plan_measureTileInHand_4 rfl (lv_at hl 2 rfl) ?_
    refine lv_aload_n hx hb d_Plan_measureTileInHand_5 rfl (lv_at hl 0 rfl) ?_
    refine hq_get hx hb hts i_Plan hown hK hP 37 (by decide) (sc_s_Plan (rfl)) rfl 0 (by decide) (hts _ sc_wd_51) (fun _ h => h) (v := .ref (B + 1)) rfl d_Plan_measureTileInHand_6 ?_
    refine hq_getN hx hb hts i_Pipe hown hK hP 1 (by decide) (sc_s_Pipe (rfl)) rfl 5 (by decide) (hts _ sc_wd_57) (fun _ h => h) (v := .int (M 1 5)) rfl d_Plan_measureTileInHand_9 ?_
    refine lv_icmp_ge (tgt := 65) hx hb d_Plan_measureTileInHand_12 (by decide) (fun c1 => ?_) (fun c1 => ?_)
    · replace hf := (if_pos c1).symm.trans hf
      refine lv_iload_n hx hb d_Plan_measureTileInHand_65 rfl (lv_at hl 1 rfl) ?_
      obtain ⟨h9, h8⟩ := Prod.mk.inj (Option.some.inj hf)
      subst h9
      subst h8
      exact W.iret hx hb hr (fun t ht _ => ⟨⟨_, (), rfl, rfl, by subst ht; exact hP⟩, hS.F ht⟩) hS.2.2 d_Plan_measureTileInHand_66 hlk
    · replace hf := (if_neg c1).symm.trans hf
      refine lv_aload_n hx hb d_Plan_measureTileInHand_15 rfl (lv_at hl 0 rfl) ?_
      refine lv_iload_n hx hb d_Plan_measureTileInHand_16 rfl (lv_at hl 2 rfl) ?_
      refine lv_iconst (v := 2) hx hb d_Plan_measureTileInHand_17 (by decide) ?_
      obtain ⟨r2, M_3, hc4, hf⟩ := hm_bI_some hf
      refine hq_callI (va_runV (As := [.int x2, .int 2]) (rest := []) ⟨hx, hb, hml, hown, hts⟩ (c_Plan_isUsedAs (l := l) (D := D) (ca := ca) (B := B) (rl := rl)  hc4) (hq_cwV (nn := 2) hts sc_wd_63 sc_wd_59 sc_wd_64 sc_wd_65 sc_wd_66 (by decide +kernel) rfl rfl ⟨(Nat.le_of_ble_eq_true rfl), (Nat.le_of_ble_eq_true rfl)⟩) (hq_preV hKt hP (by decide) (sc_s_Plan (rfl)) rfl) rfl rfl hl.1 rfl (lv_room (Nat.le_of_ble_eq_true rfl)) d_Plan_measureTileInHand_18 ⟨(Nat.le_of_ble_eq_true rfl), (Nat.le_of_ble_eq_true rfl)⟩) hS (fun H locs hP hS => ?_)
      refine lv_if_eq (tgt := 59) hx hb d_Plan_measureTileInHand_21 (by decide) (fun c5 => ?_) (fun c5 => ?_)
      · replace hf := (if_pos c5).symm.trans hf
        exact w_Plan_measureTileInHand_59 X ih _ _ _ _ _ _ (lv_sub hl [0, 1, 2] rfl) hP hS hf
      · replace hf := (if_neg c5).symm.trans hf
        refine lv_aload_n hx hb d_Plan_measureTileInHand_24 rfl (lv_at hl 0 rfl) ?_
        refine hq_get hx hb hts i_Plan hown hK hP 37 (by decide) (sc_s_Plan (rfl)) rfl 2 (by decide) (hts _ sc_wd_74) (fun _ h => h) (v := .ref (B + 42)) rfl d_Plan_measureTileInHand_25 ?_
        refine lv_iload_n hx hb d_Plan_measureTileInHand_28 rfl (lv_at hl 2 rfl) ?_
        obtain ⟨r6, M_7, hc8, hf⟩ := hm_bI_some hf
        refine hq_callI (va_runVN (As := [.int x2]) (rest := []) ⟨hx, hb, hml, hown, hts⟩ (c_Needs_lengthOf (l := l) (D := D) (ca := ca) (B := B) (rl := rl) rfl hc8) (hq_cwN (nn := 1) hts sc_wd_69 sc_wd_14 sc_wd_70 sc_wd_71 sc_wd_72 (by decide +kernel) rfl rfl ⟨(Nat.le_of_ble_eq_true rfl), (Nat.le_of_ble_eq_true rfl)⟩) (hq_preV hKt hP (by decide) (sc_s_Needs (rfl)) rfl) rfl rfl hl.1 rfl (lv_room (Nat.le_of_ble_eq_true rfl)) d_Plan_measureTileInHand_29 ⟨(Nat.le_of_ble_eq_true rfl), (Nat.le_of_ble_eq_true rfl)⟩) hS (fun H locs hP hS => ?_)
        refine lv_istore_n (lv' := [(3, .int r6), (0, .ref (B + 37)), (1, .int x1), (2, .int x2)]) hx hb d_Plan_measureTileInHand_32 rfl hl (by decide) rfl (fun ls hl => ?_)
        refine lv_aload_n hx hb d_Plan_measureTileInHand_33 rfl (lv_at hl 1 rfl) ?_
        refine hq_get hx hb hts i_Plan hown hK hP 37 (by decide) (sc_s_Plan (rfl)) rfl 4 (by decide) (hts _ sc_wd_67) (fun _ h => h) (v := .ref (B + 47)) rfl d_Plan_measureTileInHand_34 ?_
        refine lv_iload_n hx hb d_Plan_measureTileInHand_37 rfl (lv_at hl 3 rfl) ?_
        refine lv_dup2_11 hx hb d_Plan_measureTileInHand_38 rfl rfl ?_
        obtain ⟨g9, hf⟩ := hm_gd_some hf
        refine hq_iald hx hb hK hP 47 (by decide) (sc_s_ia8 (rfl)) 0 rfl g9 d_Plan_measureTileInHand_39 ?_
        refine lv_iload_n hx hb d_Plan_measureTileInHand_40 rfl (lv_at hl 0 rfl) ?_
        refine lv_iadd hx hb d_Plan_measureTileInHand_41 ?_
        obtain ⟨g10, hf⟩ := hm_gd_some hf
        refine hq_iast hx hb hK hP hS 47 (by decide) (sc_s_ia8 (rfl)) 0 rfl g10 d_Plan_measureTileInHand_42 (fun H locs hP hS => ?_)
        obtain ⟨M_11, e_11, hf⟩ := hm_st_some hf
        rw [← e_11] at hP
        refine lv_aload_n hx hb d_Plan_measureTileInHand_43 rfl (lv_at hl 1 rfl) ?_
        refine lv_aload_n hx hb d_Plan_measureTileInHand_44 rfl (lv_at hl 1 rfl) ?_
        refine hq_get hx hb hts i_Plan hown hK hP 37 (by decide) (sc_s_Plan (rfl)) rfl 7 (by decide) (hts _ sc_wd_75) (fun _ h => h) (v := .int (M_11 37 7)) rfl d_Plan_measureTileInHand_45 ?_
        refine lv_iload_n hx hb d_Plan_measureTileInHand_48 rfl (lv_at hl 0 rfl) ?_
        refine va_mmax hx hb (hml.trans hl.1.symm) hown (hts _ sc_wd_76) (hts _ sc_wd_8) (hts _ sc_wd_4) (hts _ sc_wd_9) (Nat.le_of_ble_eq_true rfl) (Nat.le_of_ble_eq_true rfl) (Nat.le_of_ble_eq_true rfl) (Nat.le_of_ble_eq_true rfl) d_Plan_measureTileInHand_49 ?_
        refine hq_put hx hb hts i_Plan t_Plan t_Plan_ok n_Plan hown hK hP hS 37 (by decide) (sc_s_Plan (rfl)) rfl 7 (by decide) (hts _ sc_wd_75) (fun _ h => h) rfl (ty := .int) (x := (if (M_11 37 7) < r6 then r6 else (M_11 37 7))) (by decide +kernel) rfl rfl rfl d_Plan_measureTileInHand_52 (fun H locs hP hS => ?_)
        obtain ⟨M_12, e_12, hf⟩ := hm_st_some hf
        rw [← e_12] at hP
        refine lv_iload_n hx hb d_Plan_measureTileInHand_55 rfl (lv_at hl 2 rfl) ?_
        refine lv_iload_n hx hb d_Plan_measureTileInHand_56 rfl (lv_at hl 0 rfl) ?_
        refine lv_iadd hx hb d_Plan_measureTileInHand_57 ?_
        refine lv_istore_n (lv' := [(1, .int (x1 + r6)), (3, .int r6), (0, .ref (B + 37)), (2, .int x2)]) hx hb d_Plan_measureTileInHand_58 rfl hl (by decide) rfl (fun ls hl => ?_)
        exact w_Plan_measureTileInHand_59 X ih _ _ _ _ _ _ (lv_sub hl [2, 0, 3] rfl) hP hS hf
set_option maxHeartbeats 4000000 in
set_option maxRecDepth 100000 in
theorem w_Plan_measureTileInHand_e {p : Program} {l : Launch} {e : Env} {s : State} {m : MethodId} {args : Array Value} {below : List Frame} {meth : Method} {c : Code} {D : va_G} {ca : Nat → ClassId} {B rl : Nat} {r : Int32} {M9 : hm_M} (X : hq_X p s m args meth c b_Plan_measureTileInHand R_Plan 4 (some .int) D sc_cl (sc_ty ca) hq_tb) : ∀ (M : hm_M) (H : Heap) (locs : List Loc) (ls : Array Slot), lv_has ls 4 [(0, .ref (B + 37))] → hm_P D sc_cl ca 64 (sc_sh rl) B M hm_L0 H → va_S (hm_A B 64) s.heap H locs → f_Plan_measureTileInHand M = some (r, M9) → W p l e ({ frames := 1, cells := 0, slots := 0, locals := 22 } : Room) s m args below meth c H locs 0 0 (MQ below (hq_QI D sc_cl ca 64 (sc_sh rl) B r M9 hm_L0) args s 0 0 (hm_A B 64)) (F0 m 0 ls []) := by
  obtain ⟨hx, hb, hml, hown, hr, hlk, hKt⟩ := id X
  have hK := hKt.1
  have hts : ∀ w ∈ hq_tb, w.before args s = true := fun w h => hKt.2.2 w h args
  intro  M H locs ls hl hP hS hf
  unfold f_Plan_measureTileInHand at hf
  refine lv_iconst (v := 0) hx hb d_Plan_measureTileInHand_0 (by decide) ?_
  refine lv_istore_n (lv' := [(1, .int 0), (0, .ref (B + 37))]) hx hb d_Plan_measureTileInHand_1 rfl hl (by decide) rfl (fun ls hl => ?_)
  refine lv_iconst (v := 0) hx hb d_Plan_measureTileInHand_2 (by decide) ?_
  refine lv_istore_n (lv' := [(2, .int 0), (1, .int 0), (0, .ref (B + 37))]) hx hb d_Plan_measureTileInHand_3 rfl hl (by decide) rfl (fun ls hl => ?_)
  exact w_Plan_measureTileInHand_4 X _ _ _ _ _ _ _ (lv_sub hl [2, 1, 0] rfl) hP hS hf
set_option maxHeartbeats 4000000 in
set_option maxRecDepth 100000 in
theorem c_Plan_measureTileInHand {l : Launch} {D : va_G} {ca : Nat → ClassId} {B rl : Nat} {r : Int32} {M M9 : hm_M} (hf : f_Plan_measureTileInHand M  = some (r, M9)) : Met l y_Plan_measureTileInHand [Cond.code y_Plan_measureTileInHand b_Plan_measureTileInHand 4 (some .int)] ({ frames := 1, cells := 0, slots := 0, locals := 22 } : Room) (hq_Pre D sc_cl ca 64 (sc_sh rl) B (sc_ty ca) hq_tb M hm_L0 [.ref (B + 37)]) (hq_QI D sc_cl ca 64 (sc_sh rl) B r M9 hm_L0) 0 0 (hm_A B 64) := by
  refine Met.ofW (cc := b_Plan_measureTileInHand) (maxL := 4) (ret := (some .int)) (by decide +kernel) rfl ?_
  intro p e s m args below meth c s₁ Bd hml hv
  obtain ⟨rfl, hP, hK⟩ := hv
  have hl := lv_entry ([.ref (B + 37)]) (n := 4) (Nat.le_of_ble_eq_true rfl)
  rw [lg_entry_eq]
  generalize (lg_sl ([.ref (B + 37)]) ++ List.replicate (4 - (lg_sl ([.ref (B + 37)])).length) Slot.unset).toArray = ls at hl ⊢
  have hl : lv_has ls 4 [(0, .ref (B + 37))] := hl
  exact w_Plan_measureTileInHand_e ⟨Bd.exec, Bd.bytes, hml, findClass_of_methodNamed Bd.named, Bd.returns, Bd.notSynchronized, hK⟩   _ _ _ _ hl hP va_S.rf hf
set_option maxHeartbeats 4000000 in
set_option maxRecDepth 100000 in
theorem w_Plan_measureTiles_4 {p : Program} {l : Launch} {e : Env} {s : State} {m : MethodId} {args : Array Value} {below : List Frame} {meth : Method} {c : Code} {D : va_G} {ca : Nat → ClassId} {B rl : Nat} {M9 : hm_M} (X : hq_X p s m args meth c b_Plan_measureTiles R_Plan 3 none D sc_cl (sc_ty ca) hq_tb) : ∀ (n : Nat), ∀ (x1 : Int32), ∀ (x2 : Int32), ∀ (M : hm_M) (H : Heap) (locs : List Loc) (ls : Array Slot), lv_has ls 3 [(0, .ref (B + 37)), (1, .int x1), (2, .int x2)] → hm_P D sc_cl ca 64 (sc_sh rl) B M hm_L0 H → va_S (hm_A B 64) s.heap H locs → f_Plan_measureTiles_4 n x1 x2 M = some M9 → W p l e ({ frames := 4, cells := 0, slots := 0, locals := 92 } : Room) s m args below meth c H locs 0 0 (MQ below (hq_QV D sc_cl ca 64 (sc_sh rl) B M9 hm_L0) args s 0 0 (hm_A B 64)) (F0 m 4 ls []) := by
  obtain ⟨hx, hb, hml, hown, hr, hlk, hKt⟩ := id X
  have hK := hKt.1
  have hts : ∀ w ∈ hq_tb, w.before args s = true := fun w h => hKt.2.2 w h args
  intro n
  induction n with
  | zero =>
    intro x1 x2 M H locs ls hl hP hS hf
    cases hf
  | succ n ih =>
    intro x1 x2 M H locs ls hl hP hS hf
    rw [f_Plan_measureTiles_4] at hf
    refine lv_iload_n hx hb d_Plan_measureTiles_4 rfl (lv_at hl 2 rfl) ?_
    refine lv_aload_n hx hb d_Plan_measureTiles_5 rfl (lv_at hl 0 rfl) ?_
    refine hq_get hx hb hts i_Plan hown hK hP 37 (by decide) (sc_s_Plan (rfl)) rfl 0 (by decide) (hts _ sc_wd_51) (fun _ h => h) (v := .ref (B + 1)) rfl d_Plan_measureTiles_6 ?_
    obtain ⟨r1, M_2, hc3, hf⟩ := hm_bI_some hf
    refine hq_callI (va_runVN (As := []) (rest := [.int x2]) ⟨hx, hb, hml, hown, hts⟩ (c_Pipe_tileCount (l := l) (D := D) (ca := ca) (B := B) (rl := rl)  hc3) (hq_cwN (nn := 0) hts sc_wd_77 sc_wd_31 sc_wd_78 sc_wd_79 sc_wd_80 (by decide +kernel) rfl rfl ⟨(Nat.le_of_ble_eq_true rfl), (Nat.le_of_ble_eq_true rfl)⟩) (hq_preV hKt hP (by decide) (sc_s_Pipe (rfl)) rfl) rfl rfl hl.1 rfl (lv_room (Nat.le_of_ble_eq_true rfl)) d_Plan_measureTiles_9 ⟨(Nat.le_of_ble_eq_true rfl), (Nat.le_of_ble_eq_true rfl)⟩) hS (fun H locs hP hS => ?_)
    refine lv_icmp_ge (tgt := 57) hx hb d_Plan_measureTiles_12 (by decide) (fun c4 => ?_) (fun c4 => ?_)
    · replace hf := (if_pos c4).symm.trans hf
      refine lv_aload_n hx hb d_Plan_measureTiles_57 rfl (lv_at hl 0 rfl) ?_
      refine lv_dup hx hb d_Plan_measureTiles_58 rfl ?_
      refine hq_get hx hb hts i_Plan hown hK hP 37 (by decide) (sc_s_Plan (rfl)) rfl 6 (by decide) (hts _ sc_wd_73) (fun _ h => h) (v := .int (M_2 37 6)) rfl d_Plan_measureTiles_59 ?_
      refine lv_iload_n hx hb d_Plan_measureTiles_62 rfl (lv_at hl 1 rfl) ?_
      refine lv_iadd hx hb d_Plan_measureTiles_63 ?_
      refine hq_put hx hb hts i_Plan t_Plan t_Plan_ok n_Plan hown hK hP hS 37 (by decide) (sc_s_Plan (rfl)) rfl 6 (by decide) (hts _ sc_wd_73) (fun _ h => h) rfl (ty := .int) (x := ((M_2 37 6) + x1)) (by decide +kernel) rfl rfl rfl d_Plan_measureTiles_64 (fun H locs hP hS => ?_)
      obtain ⟨M_5, e_5, hf⟩ := hm_st_some hf
      rw [← e_5] at hP
      have h8 := Option.some.inj hf
      subst h8
      exact W.vret hx hb hr (fun t ht _ => ⟨⟨(), rfl, trivial, by subst ht; exact hP⟩, hS.F ht⟩) hS.2.2 d_Plan_measureTiles_67 hlk
    · replace hf := (if_neg c4).symm.trans hf
      refine lv_aload_n hx hb d_Plan_measureTiles_15 rfl (lv_at hl 0 rfl) ?_
      refine hq_get hx hb hts i_Plan hown hK hP 37 (by decide) (sc_s_Plan (rfl)) rfl 2 (by decide) (hts _ sc_wd_74) (fun _ h => h) (v := .ref (B + 42)) rfl d_Plan_measureTiles_16 ?_
      refine lv_aload_n hx hb d_Plan_measureTiles_19 rfl (lv_at hl 0 rfl) ?_
      refine hq_get hx hb hts i_Plan hown hK hP 37 (by decide) (sc_s_Plan (rfl)) rfl 0 (by decide) (hts _ sc_wd_51) (fun _ h => h) (v := .ref (B + 1)) rfl d_Plan_measureTiles_20 ?_
      refine lv_aload_n hx hb d_Plan_measureTiles_23 rfl (lv_at hl 0 rfl) ?_
      refine hq_get hx hb hts i_Plan hown hK hP 37 (by decide) (sc_s_Plan (rfl)) rfl 0 (by decide) (hts _ sc_wd_51) (fun _ h => h) (v := .ref (B + 1)) rfl d_Plan_measureTiles_24 ?_
      refine lv_iload_n hx hb d_Plan_measureTiles_27 rfl (lv_at hl 2 rfl) ?_
      obtain ⟨r6, M_7, hc8, hf⟩ := hm_bI_some hf
      refine hq_callI (va_runVN (As := [.int x2]) (rest := [.ref (B + 1), .ref (B + 42)]) ⟨hx, hb, hml, hown, hts⟩ (c_Pipe_tileFirst (l := l) (D := D) (ca := ca) (B := B) (rl := rl)  hc8) (hq_cwN (nn := 1) hts sc_wd_30 sc_wd_31 sc_wd_81 sc_wd_33 sc_wd_34 (by decide +kernel) rfl rfl ⟨(Nat.le_of_ble_eq_true rfl), (Nat.le_of_ble_eq_true rfl)⟩) (hq_preV hKt hP (by decide) (sc_s_Pipe (rfl)) rfl) rfl rfl hl.1 rfl (lv_room (Nat.le_of_ble_eq_true rfl)) d_Plan_measureTiles_28 ⟨(Nat.le_of_ble_eq_true rfl), (Nat.le_of_ble_eq_true rfl)⟩) hS (fun H locs hP hS => ?_)
      refine lv_aload_n hx hb d_Plan_measureTiles_31 rfl (lv_at hl 0 rfl) ?_
      refine hq_get hx hb hts i_Plan hown hK hP 37 (by decide) (sc_s_Plan (rfl)) rfl 0 (by decide) (hts _ sc_wd_51) (fun _ h => h) (v := .ref (B + 1)) rfl d_Plan_measureTiles_32 ?_
      refine lv_iload_n hx hb d_Plan_measureTiles_35 rfl (lv_at hl 2 rfl) ?_
      obtain ⟨r9, M_10, hc11, hf⟩ := hm_bI_some hf
      refine hq_callI (va_runVN (As := [.int x2]) (rest := [.int r6, .ref (B + 1), .ref (B + 42)]) ⟨hx, hb, hml, hown, hts⟩ (c_Pipe_tileLast (l := l) (D := D) (ca := ca) (B := B) (rl := rl)  hc11) (hq_cwN (nn := 1) hts sc_wd_82 sc_wd_31 sc_wd_83 sc_wd_84 sc_wd_85 (by decide +kernel) rfl rfl ⟨(Nat.le_of_ble_eq_true rfl), (Nat.le_of_ble_eq_true rfl)⟩) (hq_preV hKt hP (by decide) (sc_s_Pipe (rfl)) rfl) rfl rfl hl.1 rfl (lv_room (Nat.le_of_ble_eq_true rfl)) d_Plan_measureTiles_36 ⟨(Nat.le_of_ble_eq_true rfl), (Nat.le_of_ble_eq_true rfl)⟩) hS (fun H locs hP hS => ?_)
      obtain ⟨M_13, hc14, hf⟩ := hm_bV_some hf
      refine hq_callV (va_runVN (As := [.ref (B + 1), .int r6, .int r9]) (rest := []) ⟨hx, hb, hml, hown, hts⟩ (c_Needs_spread (l := l) (D := D) (ca := ca) (B := B) (rl := rl) rfl hc14) (hq_cwN (nn := 3) hts sc_wd_86 sc_wd_14 sc_wd_87 sc_wd_88 sc_wd_89 (by decide +kernel) rfl rfl ⟨(Nat.le_of_ble_eq_true rfl), (Nat.le_of_ble_eq_true rfl)⟩) (hq_preV hKt hP (by decide) (sc_s_Needs (rfl)) rfl) rfl rfl hl.1 rfl (lv_room (Nat.le_of_ble_eq_true rfl)) d_Plan_measureTiles_39 ⟨(Nat.le_of_ble_eq_true rfl), (Nat.le_of_ble_eq_true rfl)⟩) hS (fun H locs hP hS => ?_)
      refine lv_iload_n hx hb d_Plan_measureTiles_42 rfl (lv_at hl 1 rfl) ?_
      refine lv_aload_n hx hb d_Plan_measureTiles_43 rfl (lv_at hl 0 rfl) ?_
      obtain ⟨r15, M_16, hc17, hf⟩ := hm_bI_some hf
      refine hq_callI (va_runV (As := []) (rest := [.int x1]) ⟨hx, hb, hml, hown, hts⟩ (c_Plan_measureTileInHand (l := l) (D := D) (ca := ca) (B := B) (rl := rl)  hc17) (hq_cwV (nn := 0) hts sc_wd_90 sc_wd_59 sc_wd_91 sc_wd_92 sc_wd_93 (by decide +kernel) rfl rfl ⟨(Nat.le_of_ble_eq_true rfl), (Nat.le_of_ble_eq_true rfl)⟩) (hq_preV hKt hP (by decide) (sc_s_Plan (rfl)) rfl) rfl rfl hl.1 rfl (lv_room (Nat.le_of_ble_eq_true rfl)) d_Plan_measureTiles_44 ⟨(Nat.le_of_ble_eq_true rfl), (Nat.le_of_ble_eq_true rfl)⟩) hS (fun H locs hP hS => ?_)
      refine va_mmax hx hb (hml.trans hl.1.symm) hown (hts _ sc_wd_76) (hts _ sc_wd_8) (hts _ sc_wd_4) (hts _ sc_wd_9) (Nat.le_of_ble_eq_true rfl) (Nat.le_of_ble_eq_true rfl) (Nat.le_of_ble_eq_true rfl) (Nat.le_of_ble_eq_true rfl) d_Plan_measureTiles_47 ?_
      refine lv_istore_n (lv' := [(1, .int (if x1 < r15 then r15 else x1)), (0, .ref (B + 37)), (2, .int x2)]) hx hb d_Plan_measureTiles_50 rfl hl (by decide) rfl (fun ls hl => ?_)
      refine lv_iinc (v := (x2 + 1)) (lv' := [(2, .int (x2 + 1)), (1, .int (if x1 < r15 then r15 else x1)), (0, .ref (B + 37))]) hx hb d_Plan_measureTiles_51 hl (k := 2) rfl rfl (by decide) rfl (fun ls hl => ?_)
      refine lv_goto (tgt := 4) hx hb d_Plan_measureTiles_54 (by decide) ?_
      exact ih _ _ _ _ _ _ (lv_sub hl [2, 1, 0] rfl) hP hS hf
set_option maxHeartbeats 4000000 in
set_option maxRecDepth 100000 in
theorem w_Plan_measureTiles_e {p : Program} {l : Launch} {e : Env} {s : State} {m : MethodId} {args : Array Value} {below : List Frame} {meth : Method} {c : Code} {D : va_G} {ca : Nat → ClassId} {B rl : Nat} {M9 : hm_M} (X : hq_X p s m args meth c b_Plan_measureTiles R_Plan 3 none D sc_cl (sc_ty ca) hq_tb) : ∀ (M : hm_M) (H : Heap) (locs : List Loc) (ls : Array Slot), lv_has ls 3 [(0, .ref (B + 37))] → hm_P D sc_cl ca 64 (sc_sh rl) B M hm_L0 H → va_S (hm_A B 64) s.heap H locs → f_Plan_measureTiles M = some M9 → W p l e ({ frames := 4, cells := 0, slots := 0, locals := 92 } : Room) s m args below meth c H locs 0 0 (MQ below (hq_QV D sc_cl ca 64 (sc_sh rl) B M9 hm_L0) args s 0 0 (hm_A B 64)) (F0 m 0 ls []) := by
  obtain ⟨hx, hb, hml, hown, hr, hlk, hKt⟩ := id X
  have hK := hKt.1
  have hts : ∀ w ∈ hq_tb, w.before args s = true := fun w h => hKt.2.2 w h args
  intro  M H locs ls hl hP hS hf
  unfold f_Plan_measureTiles at hf
  refine lv_iconst (v := 0) hx hb d_Plan_measureTiles_0 (by decide) ?_
  refine lv_istore_n (lv' := [(1, .int 0), (0, .ref (B + 37))]) hx hb d_Plan_measureTiles_1 rfl hl (by decide) rfl (fun ls hl => ?_)
  refine lv_iconst (v := 0) hx hb d_Plan_measureTiles_2 (by decide) ?_
  refine lv_istore_n (lv' := [(2, .int 0), (1, .int 0), (0, .ref (B + 37))]) hx hb d_Plan_measureTiles_3 rfl hl (by decide) rfl (fun ls hl => ?_)
  exact w_Plan_measureTiles_4 X _ _ _ _ _ _ _ (lv_sub hl [2, 1, 0] rfl) hP hS hf
set_option maxHeartbeats 4000000 in
set_option maxRecDepth 100000 in
theorem c_Plan_measureTiles {l : Launch} {D : va_G} {ca : Nat → ClassId} {B rl : Nat} {M M9 : hm_M} (hf : f_Plan_measureTiles M  = some M9) : Met l y_Plan_measureTiles [Cond.code y_Plan_measureTiles b_Plan_measureTiles 3 none] ({ frames := 4, cells := 0, slots := 0, locals := 92 } : Room) (hq_Pre D sc_cl ca 64 (sc_sh rl) B (sc_ty ca) hq_tb M hm_L0 [.ref (B + 37)]) (hq_QV D sc_cl ca 64 (sc_sh rl) B M9 hm_L0) 0 0 (hm_A B 64) := by
  refine Met.ofW (cc := b_Plan_measureTiles) (maxL := 3) (ret := none) (by decide +kernel) rfl ?_
  intro p e s m args below meth c s₁ Bd hml hv
  obtain ⟨rfl, hP, hK⟩ := hv
  have hl := lv_entry ([.ref (B + 37)]) (n := 3) (Nat.le_of_ble_eq_true rfl)
  rw [lg_entry_eq]
  generalize (lg_sl ([.ref (B + 37)]) ++ List.replicate (3 - (lg_sl ([.ref (B + 37)])).length) Slot.unset).toArray = ls at hl ⊢
  have hl : lv_has ls 3 [(0, .ref (B + 37))] := hl
  exact w_Plan_measureTiles_e ⟨Bd.exec, Bd.bytes, hml, findClass_of_methodNamed Bd.named, Bd.returns, Bd.notSynchronized, hK⟩   _ _ _ _ hl hP va_S.rf hf
set_option maxHeartbeats 4000000 in
set_option maxRecDepth 100000 in
theorem w_Plan_askInlineSources_66 {p : Program} {l : Launch} {e : Env} {s : State} {m : MethodId} {args : Array Value} {below : List Frame} {meth : Method} {c : Code} {D : va_G} {ca : Nat → ClassId} {B rl : Nat} {M9 : hm_M} (X : hq_X p s m args meth c b_Plan_askInlineSources R_Plan 5 none D sc_cl (sc_ty ca) hq_tb) {k12 : Int32 → Nat → Int32 → hm_M → Option hm_M} (hk12 : ∀ (x1 : Int32), ∀ (a2 : Nat), ∀ (x3 : Int32), sc_kd a2 = 5 → ∀ (M : hm_M) (H : Heap) (locs : List Loc) (ls : Array Slot), lv_has ls 5 [(0, .ref (B + 37)), (1, .int x1), (2, .ref (B + a2)), (3, .int x3)] → hm_P D sc_cl ca 64 (sc_sh rl) B M hm_L0 H → va_S (hm_A B 64) s.heap H locs → k12 x1 a2 x3 M = some M9 → W p l e ({ frames := 0, cells := 0, slots := 0, locals := 0 } : Room) s m args below meth c H locs 0 0 (MQ below (hq_QV D sc_cl ca 64 (sc_sh rl) B M9 hm_L0) args s 0 0 (hm_A B 64)) (F0 m 12 ls [])) : ∀ (x1 : Int32), ∀ (a2 : Nat), ∀ (x3 : Int32), sc_kd a2 = 5 → ∀ (M : hm_M) (H : Heap) (locs : List Loc) (ls : Array Slot), lv_has ls 5 [(0, .ref (B + 37)), (1, .int x1), (2, .ref (B + a2)), (3, .int x3)] → hm_P D sc_cl ca 64 (sc_sh rl) B M hm_L0 H → va_S (hm_A B 64) s.heap H locs → f_Plan_askInlineSources_66 k12 x1 a2 x3 M = some M9 → W p l e ({ frames := 0, cells := 0, slots := 0, locals := 0 } : Room) s m args below meth c H locs 0 0 (MQ below (hq_QV D sc_cl ca 64 (sc_sh rl) B M9 hm_L0) args s 0 0 (hm_A B 64)) (F0 m 66 ls []) := by
  obtain ⟨hx, hb, hml, hown, hr, hlk, hKt⟩ := id X
  have hK := hKt.1
  have hts : ∀ w ∈ hq_tb, w.before args s = true := fun w h => hKt.2.2 w h args
  intro x1 a2 x3 h_a2 M H locs ls hl hP hS hf
  unfold f_Plan_askInlineSources_66 at hf
  refine lv_iinc (v := (x3 + 1)) (lv' := [(3, .int (x3 + 1)), (0, .ref (B + 37)), (1, .int x1), (2, .ref (B + a2))]) hx hb d_Plan_askInlineSources_66 hl (k := 3) rfl rfl (by decide) rfl (fun ls hl => ?_)
  refine lv_goto (tgt := 12) hx hb d_Plan_askInlineSources_69 (by decide) ?_
  exact hk12 _ _ _ h_a2 _ _ _ _ (lv_sub hl [1, 2, 3, 0] rfl) hP hS hf
set_option maxHeartbeats 4000000 in
set_option maxRecDepth 100000 in
theorem w_Plan_askInlineSources_12 {p : Program} {l : Launch} {e : Env} {s : State} {m : MethodId} {args : Array Value} {below : List Frame} {meth : Method} {c : Code} {D : va_G} {ca : Nat → ClassId} {B rl : Nat} {M9 : hm_M} (X : hq_X p s m args meth c b_Plan_askInlineSources R_Plan 5 none D sc_cl (sc_ty ca) hq_tb) : ∀ (n : Nat), ∀ (x1 : Int32), ∀ (a2 : Nat), ∀ (x3 : Int32), sc_kd a2 = 5 → ∀ (M : hm_M) (H : Heap) (locs : List Loc) (ls : Array Slot), lv_has ls 5 [(0, .ref (B + 37)), (1, .int x1), (2, .ref (B + a2)), (3, .int x3)] → hm_P D sc_cl ca 64 (sc_sh rl) B M hm_L0 H → va_S (hm_A B 64) s.heap H locs → f_Plan_askInlineSources_12 n x1 a2 x3 M = some M9 → W p l e ({ frames := 0, cells := 0, slots := 0, locals := 0 } : Room) s m args below meth c H locs 0 0 (MQ below (hq_QV D sc_cl ca 64 (sc_sh rl) B M9 hm_L0) args s 0 0 (hm_A B 64)) (F0 m 12 ls []) := by
  obtain ⟨hx, hb, hml, hown, hr, hlk, hKt⟩ := id X
  have hK := hKt.1
  have hts : ∀ w ∈ hq_tb, w.before args s = true := fun w h => hKt.2.2 w h args
  intro n
  induction n with
  | zero =>
    intro x1 a2 x3 h_a2 M H locs ls hl hP hS hf
    cases hf
  | succ n ih =>
    intro x1 a2 x3 h_a2 M H locs ls hl hP hS hf
    rw [f_Plan_askInlineSources_12] at hf
    refine lv_iload_n hx hb d_Plan_askInlineSources_12 rfl (lv_at hl 3 rfl) ?_
    refine lv_aload_n hx hb d_Plan_askInlineSources_13 rfl (lv_at hl 2 rfl) ?_
    refine hq_getN hx hb hts i_Stage hown hK hP a2 (sc_lt h_a2 (by decide)) (sc_s_Stage (h_a2)) rfl 3 (by decide) (hts _ sc_wd_54) (fun _ h => h) (v := .int (M a2 3)) rfl d_Plan_askInlineSources_14 ?_
    refine lv_icmp_ge (tgt := 72) hx hb d_Plan_askInlineSources_17 (by decide) (fun c1 => ?_) (fun c1 => ?_)
    · replace hf := (if_pos c1).symm.trans hf
      have h8 := Option.some.inj hf
      subst h8
      exact W.vret hx hb hr (fun t ht _ => ⟨⟨(), rfl, trivial, by subst ht; exact hP⟩, hS.F ht⟩) hS.2.2 d_Plan_askInlineSources_72 hlk
    · replace hf := (if_neg c1).symm.trans hf
      refine lv_aload_n hx hb d_Plan_askInlineSources_20 rfl (lv_at hl 2 rfl) ?_
      refine hq_getN hx hb hts i_Stage hown hK hP a2 (sc_lt h_a2 (by decide)) (sc_s_Stage (h_a2)) rfl 4 (by decide) (hts _ sc_wd_55) (fun _ h => h) (v := .ref (B + (a2 + 1))) rfl d_Plan_askInlineSources_21 ?_
      refine lv_iload_n hx hb d_Plan_askInlineSources_24 rfl (lv_at hl 3 rfl) ?_
      obtain ⟨g2, hf⟩ := hm_gd_some hf
      refine hq_iald hx hb hK hP (a2 + 1) (sc_lt (sck_Stage1 h_a2) (by decide)) (sc_s_ia4 ((sck_Stage1 h_a2))) 0 rfl g2 d_Plan_askInlineSources_25 ?_
      refine lv_istore (lv' := [(4, .int (M (a2 + 1) x3.toNatClampNeg)), (0, .ref (B + 37)), (1, .int x1), (2, .ref (B + a2)), (3, .int x3)]) hx hb d_Plan_askInlineSources_26 hl (by decide) rfl (fun ls hl => ?_)
      refine lv_iload hx hb d_Plan_askInlineSources_28 (lv_at hl 0 rfl) ?_
      refine lv_iconst (v := (-1)) hx hb d_Plan_askInlineSources_30 (by decide) ?_
      refine lv_icmp_eq (tgt := 66) hx hb d_Plan_askInlineSources_31 (by decide) (fun c3 => ?_) (fun c3 => ?_)
      · replace hf := (if_pos c3).symm.trans hf
        exact w_Plan_askInlineSources_66 X ih _ _ _ h_a2 _ _ _ _ (lv_sub hl [1, 2, 3, 4] rfl) hP hS hf
      · replace hf := (if_neg c3).symm.trans hf
        refine lv_aload_n hx hb d_Plan_askInlineSources_34 rfl (lv_at hl 1 rfl) ?_
        refine hq_get hx hb hts i_Plan hown hK hP 37 (by decide) (sc_s_Plan (rfl)) rfl 0 (by decide) (hts _ sc_wd_51) (fun _ h => h) (v := .ref (B + 1)) rfl d_Plan_askInlineSources_35 ?_
        refine hq_getN hx hb hts i_Pipe hown hK hP 1 (by decide) (sc_s_Pipe (rfl)) rfl 1 (by decide) (hts _ sc_wd_52) (fun _ h => h) (v := .ref (B + 2)) rfl d_Plan_askInlineSources_38 ?_
        refine lv_iload hx hb d_Plan_askInlineSources_41 (lv_at hl 0 rfl) ?_
        obtain ⟨g4, hf⟩ := hm_gd_some hf
        refine hq_aald hx hb hK hP 2 (by decide) (sc_s_starr (rfl)) 2 rfl rfl g4 d_Plan_askInlineSources_43 ?_
        refine hq_getN hx hb hts i_Stage hown hK hP (5 + 4 * (M (a2 + 1) x3.toNatClampNeg).toNatClampNeg) (sc_lt (sck_st g4) (by decide)) (sc_s_Stage ((sck_st g4))) rfl 2 (by decide) (hts _ sc_wd_53) (fun _ h => h) (v := .int (M (5 + 4 * (M (a2 + 1) x3.toNatClampNeg).toNatClampNeg) 2)) rfl d_Plan_askInlineSources_44 ?_
        refine lv_if_ne (tgt := 66) hx hb d_Plan_askInlineSources_47 (by decide) (fun c5 => ?_) (fun c5 => ?_)
        · replace hf := (if_neg c5).symm.trans hf
          exact w_Plan_askInlineSources_66 X ih _ _ _ h_a2 _ _ _ _ (lv_sub hl [1, 2, 3, 4] rfl) hP hS hf
        · replace hf := (if_pos c5).symm.trans hf
          refine lv_aload_n hx hb d_Plan_askInlineSources_50 rfl (lv_at hl 1 rfl) ?_
          refine hq_get hx hb hts i_Plan hown hK hP 37 (by decide) (sc_s_Plan (rfl)) rfl 4 (by decide) (hts _ sc_wd_67) (fun _ h => h) (v := .ref (B + 47)) rfl d_Plan_askInlineSources_51 ?_
          refine lv_iload hx hb d_Plan_askInlineSources_54 (lv_at hl 0 rfl) ?_
          refine lv_dup2_11 hx hb d_Plan_askInlineSources_56 rfl rfl ?_
          obtain ⟨g6, hf⟩ := hm_gd_some hf
          refine hq_iald hx hb hK hP 47 (by decide) (sc_s_ia8 (rfl)) 0 rfl g6 d_Plan_askInlineSources_57 ?_
          refine lv_aload_n hx hb d_Plan_askInlineSources_58 rfl (lv_at hl 1 rfl) ?_
          refine hq_get hx hb hts i_Plan hown hK hP 37 (by decide) (sc_s_Plan (rfl)) rfl 4 (by decide) (hts _ sc_wd_67) (fun _ h => h) (v := .ref (B + 47)) rfl d_Plan_askInlineSources_59 ?_
          refine lv_iload_n hx hb d_Plan_askInlineSources_62 rfl (lv_at hl 2 rfl) ?_
          obtain ⟨g7, hf⟩ := hm_gd_some hf
          refine hq_iald hx hb hK hP 47 (by decide) (sc_s_ia8 (rfl)) 0 rfl g7 d_Plan_askInlineSources_63 ?_
          refine lv_iadd hx hb d_Plan_askInlineSources_64 ?_
          obtain ⟨g8, hf⟩ := hm_gd_some hf
          refine hq_iast hx hb hK hP hS 47 (by decide) (sc_s_ia8 (rfl)) 0 rfl g8 d_Plan_askInlineSources_65 (fun H locs hP hS => ?_)
          obtain ⟨M_9, e_9, hf⟩ := hm_st_some hf
          rw [← e_9] at hP
          exact w_Plan_askInlineSources_66 X ih _ _ _ h_a2 _ _ _ _ (lv_sub hl [1, 2, 3, 4] rfl) hP hS hf
set_option maxHeartbeats 4000000 in
set_option maxRecDepth 100000 in
theorem w_Plan_askInlineSources_e {p : Program} {l : Launch} {e : Env} {s : State} {m : MethodId} {args : Array Value} {below : List Frame} {meth : Method} {c : Code} {D : va_G} {ca : Nat → ClassId} {B rl : Nat} {M9 : hm_M} (X : hq_X p s m args meth c b_Plan_askInlineSources R_Plan 5 none D sc_cl (sc_ty ca) hq_tb) : ∀ (x1 : Int32), ∀ (M : hm_M) (H : Heap) (locs : List Loc) (ls : Array Slot), lv_has ls 5 [(0, .ref (B + 37)), (1, .int x1)] → hm_P D sc_cl ca 64 (sc_sh rl) B M hm_L0 H → va_S (hm_A B 64) s.heap H locs → f_Plan_askInlineSources M x1 = some M9 → W p l e ({ frames := 0, cells := 0, slots := 0, locals := 0 } : Room) s m args below meth c H locs 0 0 (MQ below (hq_QV D sc_cl ca 64 (sc_sh rl) B M9 hm_L0) args s 0 0 (hm_A B 64)) (F0 m 0 ls []) := by
  obtain ⟨hx, hb, hml, hown, hr, hlk, hKt⟩ := id X
  have hK := hKt.1
  have hts : ∀ w ∈ hq_tb, w.before args s = true := fun w h => hKt.2.2 w h args
  intro x1 M H locs ls hl hP hS hf
  unfold f_Plan_askInlineSources at hf
  refine lv_aload_n hx hb d_Plan_askInlineSources_0 rfl (lv_at hl 0 rfl) ?_
  refine hq_get hx hb hts i_Plan hown hK hP 37 (by decide) (sc_s_Plan (rfl)) rfl 0 (by decide) (hts _ sc_wd_51) (fun _ h => h) (v := .ref (B + 1)) rfl d_Plan_askInlineSources_1 ?_
  refine hq_getN hx hb hts i_Pipe hown hK hP 1 (by decide) (sc_s_Pipe (rfl)) rfl 1 (by decide) (hts _ sc_wd_52) (fun _ h => h) (v := .ref (B + 2)) rfl d_Plan_askInlineSources_4 ?_
  refine lv_iload_n hx hb d_Plan_askInlineSources_7 rfl (lv_at hl 1 rfl) ?_
  obtain ⟨g1, hf⟩ := hm_gd_some hf
  refine hq_aald hx hb hK hP 2 (by decide) (sc_s_starr (rfl)) 2 rfl rfl g1 d_Plan_askInlineSources_8 ?_
  refine lv_astore_n (lv' := [(2, .ref (B + (5 + 4 * x1.toNatClampNeg))), (0, .ref (B + 37)), (1, .int x1)]) hx hb d_Plan_askInlineSources_9 rfl hl (by decide) rfl (fun ls hl => ?_)
  refine lv_iconst (v := 0) hx hb d_Plan_askInlineSources_10 (by decide) ?_
  refine lv_istore_n (lv' := [(3, .int 0), (2, .ref (B + (5 + 4 * x1.toNatClampNeg))), (0, .ref (B + 37)), (1, .int x1)]) hx hb d_Plan_askInlineSources_11 rfl hl (by decide) rfl (fun ls hl => ?_)
  exact w_Plan_askInlineSources_12 X _ _ _ _ (sck_st g1) _ _ _ _ (lv_sub hl [2, 3, 1, 0] rfl) hP hS hf
set_option maxHeartbeats 4000000 in
set_option maxRecDepth 100000 in
theorem c_Plan_askInlineSources {l : Launch} {D : va_G} {ca : Nat → ClassId} {B rl : Nat} {x1 : Int32} {M M9 : hm_M} (hf : f_Plan_askInlineSources M x1 = some M9) : Met l y_Plan_askInlineSources [Cond.code y_Plan_askInlineSources b_Plan_askInlineSources 5 none] ({ frames := 0, cells := 0, slots := 0, locals := 0 } : Room) (hq_Pre D sc_cl ca 64 (sc_sh rl) B (sc_ty ca) hq_tb M hm_L0 [.ref (B + 37), .int x1]) (hq_QV D sc_cl ca 64 (sc_sh rl) B M9 hm_L0) 0 0 (hm_A B 64) := by
  refine Met.ofW (cc := b_Plan_askInlineSources) (maxL := 5) (ret := none) (by decide +kernel) rfl ?_
  intro p e s m args below meth c s₁ Bd hml hv
  obtain ⟨rfl, hP, hK⟩ := hv
  have hl := lv_entry ([.ref (B + 37), .int x1]) (n := 5) (Nat.le_of_ble_eq_true rfl)
  rw [lg_entry_eq]
  generalize (lg_sl ([.ref (B + 37), .int x1]) ++ List.replicate (5 - (lg_sl ([.ref (B + 37), .int x1])).length) Slot.unset).toArray = ls at hl ⊢
  have hl : lv_has ls 5 [(0, .ref (B + 37)), (1, .int x1)] := hl
  exact w_Plan_askInlineSources_e ⟨Bd.exec, Bd.bytes, hml, findClass_of_methodNamed Bd.named, Bd.returns, Bd.notSynchronized, hK⟩  _ _ _ _ _ hl hP va_S.rf hf
set_option maxHeartbeats 4000000 in
set_option maxRecDepth 100000 in
theorem w_Plan_measureInlines_13 {p : Program} {l : Launch} {e : Env} {s : State} {m : MethodId} {args : Array Value} {below : List Frame} {meth : Method} {c : Code} {D : va_G} {ca : Nat → ClassId} {B rl : Nat} {M9 : hm_M} (X : hq_X p s m args meth c b_Plan_measureInlines R_Plan 2 none D sc_cl (sc_ty ca) hq_tb) : ∀ (n : Nat), ∀ (x1 : Int32), ∀ (M : hm_M) (H : Heap) (locs : List Loc) (ls : Array Slot), lv_has ls 2 [(0, .ref (B + 37)), (1, .int x1)] → hm_P D sc_cl ca 64 (sc_sh rl) B M hm_L0 H → va_S (hm_A B 64) s.heap H locs → f_Plan_measureInlines_13 n x1 M = some M9 → W p l e ({ frames := 1, cells := 0, slots := 0, locals := 24 } : Room) s m args below meth c H locs 0 0 (MQ below (hq_QV D sc_cl ca 64 (sc_sh rl) B M9 hm_L0) args s 0 0 (hm_A B 64)) (F0 m 13 ls []) := by
  obtain ⟨hx, hb, hml, hown, hr, hlk, hKt⟩ := id X
  have hK := hKt.1
  have hts : ∀ w ∈ hq_tb, w.before args s = true := fun w h => hKt.2.2 w h args
  intro n
  induction n with
  | zero =>
    intro x1 M H locs ls hl hP hS hf
    cases hf
  | succ n ih =>
    intro x1 M H locs ls hl hP hS hf
    rw [f_Plan_measureInlines_13] at hf
    refine lv_iload_n hx hb d_Plan_measureInlines_13 rfl (lv_at hl 1 rfl) ?_
    refine lv_if_lt (tgt := 43) hx hb d_Plan_measureInlines_14 (by decide) (fun c1 => ?_) (fun c1 => ?_)
    · replace hf := (if_pos c1).symm.trans hf
      have h8 := Option.some.inj hf
      subst h8
      exact W.vret hx hb hr (fun t ht _ => ⟨⟨(), rfl, trivial, by subst ht; exact hP⟩, hS.F ht⟩) hS.2.2 d_Plan_measureInlines_43 hlk
    · replace hf := (if_neg c1).symm.trans hf
      refine lv_aload_n hx hb d_Plan_measureInlines_17 rfl (lv_at hl 0 rfl) ?_
      refine lv_dup hx hb d_Plan_measureInlines_18 rfl ?_
      refine hq_get hx hb hts i_Plan hown hK hP 37 (by decide) (sc_s_Plan (rfl)) rfl 5 (by decide) (hts _ sc_wd_94) (fun _ h => h) (v := .int (M 37 5)) rfl d_Plan_measureInlines_19 ?_
      refine lv_aload_n hx hb d_Plan_measureInlines_22 rfl (lv_at hl 0 rfl) ?_
      refine hq_get hx hb hts i_Plan hown hK hP 37 (by decide) (sc_s_Plan (rfl)) rfl 4 (by decide) (hts _ sc_wd_67) (fun _ h => h) (v := .ref (B + 47)) rfl d_Plan_measureInlines_23 ?_
      refine lv_iload_n hx hb d_Plan_measureInlines_26 rfl (lv_at hl 1 rfl) ?_
      obtain ⟨g2, hf⟩ := hm_gd_some hf
      refine hq_iald hx hb hK hP 47 (by decide) (sc_s_ia8 (rfl)) 0 rfl g2 d_Plan_measureInlines_27 ?_
      refine lv_iadd hx hb d_Plan_measureInlines_28 ?_
      refine hq_put hx hb hts i_Plan t_Plan t_Plan_ok n_Plan hown hK hP hS 37 (by decide) (sc_s_Plan (rfl)) rfl 5 (by decide) (hts _ sc_wd_94) (fun _ h => h) rfl (ty := .int) (x := ((M 37 5) + (M 47 x1.toNatClampNeg))) (by decide +kernel) rfl rfl rfl d_Plan_measureInlines_29 (fun H locs hP hS => ?_)
      obtain ⟨M_3, e_3, hf⟩ := hm_st_some hf
      rw [← e_3] at hP
      refine lv_aload_n hx hb d_Plan_measureInlines_32 rfl (lv_at hl 0 rfl) ?_
      refine lv_iload_n hx hb d_Plan_measureInlines_33 rfl (lv_at hl 1 rfl) ?_
      obtain ⟨M_5, hc6, hf⟩ := hm_bV_some hf
      refine hq_callV (va_runV (As := [.int x1]) (rest := []) ⟨hx, hb, hml, hown, hts⟩ (c_Plan_askInlineSources (l := l) (D := D) (ca := ca) (B := B) (rl := rl)  hc6) (hq_cwV (nn := 1) hts sc_wd_95 sc_wd_59 sc_wd_96 sc_wd_97 sc_wd_98 (by decide +kernel) rfl rfl ⟨(Nat.le_of_ble_eq_true rfl), (Nat.le_of_ble_eq_true rfl)⟩) (hq_preV hKt hP (by decide) (sc_s_Plan (rfl)) rfl) rfl rfl hl.1 rfl (lv_room (Nat.le_of_ble_eq_true rfl)) d_Plan_measureInlines_34 ⟨(Nat.le_of_ble_eq_true rfl), (Nat.le_of_ble_eq_true rfl)⟩) hS (fun H locs hP hS => ?_)
      refine lv_iinc (v := (x1 + (-1))) (lv' := [(1, .int (x1 + (-1))), (0, .ref (B + 37))]) hx hb d_Plan_measureInlines_37 hl (k := 1) rfl rfl (by decide) rfl (fun ls hl => ?_)
      refine lv_goto (tgt := 13) hx hb d_Plan_measureInlines_40 (by decide) ?_
      exact ih _ _ _ _ _ (lv_sub hl [1, 0] rfl) hP hS hf
set_option maxHeartbeats 4000000 in
set_option maxRecDepth 100000 in
theorem w_Plan_measureInlines_e {p : Program} {l : Launch} {e : Env} {s : State} {m : MethodId} {args : Array Value} {below : List Frame} {meth : Method} {c : Code} {D : va_G} {ca : Nat → ClassId} {B rl : Nat} {M9 : hm_M} (X : hq_X p s m args meth c b_Plan_measureInlines R_Plan 2 none D sc_cl (sc_ty ca) hq_tb) : ∀ (M : hm_M) (H : Heap) (locs : List Loc) (ls : Array Slot), lv_has ls 2 [(0, .ref (B + 37))] → hm_P D sc_cl ca 64 (sc_sh rl) B M hm_L0 H → va_S (hm_A B 64) s.heap H locs → f_Plan_measureInlines M = some M9 → W p l e ({ frames := 1, cells := 0, slots := 0, locals := 24 } : Room) s m args below meth c H locs 0 0 (MQ below (hq_QV D sc_cl ca 64 (sc_sh rl) B M9 hm_L0) args s 0 0 (hm_A B 64)) (F0 m 0 ls []) := by
  obtain ⟨hx, hb, hml, hown, hr, hlk, hKt⟩ := id X
  have hK := hKt.1
  have hts : ∀ w ∈ hq_tb, w.before args s = true := fun w h => hKt.2.2 w h args
  intro  M H locs ls hl hP hS hf
  unfold f_Plan_measureInlines at hf
  refine lv_aload_n hx hb d_Plan_measureInlines_0 rfl (lv_at hl 0 rfl) ?_
  refine lv_iconst (v := 0) hx hb d_Plan_measureInlines_1 (by decide) ?_
  refine hq_put hx hb hts i_Plan t_Plan t_Plan_ok n_Plan hown hK hP hS 37 (by decide) (sc_s_Plan (rfl)) rfl 5 (by decide) (hts _ sc_wd_94) (fun _ h => h) rfl (ty := .int) (x := 0) (by decide +kernel) rfl rfl rfl d_Plan_measureInlines_2 (fun H locs hP hS => ?_)
  obtain ⟨M_1, e_1, hf⟩ := hm_st_some hf
  rw [← e_1] at hP
  refine lv_aload_n hx hb d_Plan_measureInlines_5 rfl (lv_at hl 0 rfl) ?_
  refine hq_get hx hb hts i_Plan hown hK hP 37 (by decide) (sc_s_Plan (rfl)) rfl 0 (by decide) (hts _ sc_wd_51) (fun _ h => h) (v := .ref (B + 1)) rfl d_Plan_measureInlines_6 ?_
  refine hq_getN hx hb hts i_Pipe hown hK hP 1 (by decide) (sc_s_Pipe (rfl)) rfl 5 (by decide) (hts _ sc_wd_57) (fun _ h => h) (v := .int (M_1 1 5)) rfl d_Plan_measureInlines_9 ?_
  refine lv_istore_n (lv' := [(1, .int (M_1 1 5)), (0, .ref (B + 37))]) hx hb d_Plan_measureInlines_12 rfl hl (by decide) rfl (fun ls hl => ?_)
  exact w_Plan_measureInlines_13 X _ _ _ _ _ _ (lv_sub hl [1, 0] rfl) hP hS hf
set_option maxHeartbeats 4000000 in
set_option maxRecDepth 100000 in
theorem c_Plan_measureInlines {l : Launch} {D : va_G} {ca : Nat → ClassId} {B rl : Nat} {M M9 : hm_M} (hf : f_Plan_measureInlines M  = some M9) : Met l y_Plan_measureInlines [Cond.code y_Plan_measureInlines b_Plan_measureInlines 2 none] ({ frames := 1, cells := 0, slots := 0, locals := 24 } : Room) (hq_Pre D sc_cl ca 64 (sc_sh rl) B (sc_ty ca) hq_tb M hm_L0 [.ref (B + 37)]) (hq_QV D sc_cl ca 64 (sc_sh rl) B M9 hm_L0) 0 0 (hm_A B 64) := by
  refine Met.ofW (cc := b_Plan_measureInlines) (maxL := 2) (ret := none) (by decide +kernel) rfl ?_
  intro p e s m args below meth c s₁ Bd hml hv
  obtain ⟨rfl, hP, hK⟩ := hv
  have hl := lv_entry ([.ref (B + 37)]) (n := 2) (Nat.le_of_ble_eq_true rfl)
  rw [lg_entry_eq]
  generalize (lg_sl ([.ref (B + 37)]) ++ List.replicate (2 - (lg_sl ([.ref (B + 37)])).length) Slot.unset).toArray = ls at hl ⊢
  have hl : lv_has ls 2 [(0, .ref (B + 37))] := hl
  exact w_Plan_measureInlines_e ⟨Bd.exec, Bd.bytes, hml, findClass_of_methodNamed Bd.named, Bd.returns, Bd.notSynchronized, hK⟩   _ _ _ _ hl hP va_S.rf hf
set_option maxHeartbeats 4000000 in
set_option maxRecDepth 100000 in
theorem w_Plan_draw_101 {p : Program} {l : Launch} {e : Env} {s : State} {m : MethodId} {args : Array Value} {below : List Frame} {meth : Method} {c : Code} {D : va_G} {ca : Nat → ClassId} {B rl : Nat} {r : Int32} {M9 : hm_M} (X : hq_X p s m args meth c b_Plan_draw R_Plan 2 (some .int) D sc_cl (sc_ty ca) hq_tb) : ∀ (y0 : Int32), ∀ (M : hm_M) (H : Heap) (locs : List Loc) (ls : Array Slot), lv_has ls 2 [] → hm_P D sc_cl ca 64 (sc_sh rl) B M hm_L0 H → va_S (hm_A B 64) s.heap H locs → f_Plan_draw_101 y0 M = some (r, M9) → W p l e ({ frames := 5, cells := 0, slots := 0, locals := 114 } : Room) s m args below meth c H locs 0 0 (MQ below (hq_QI D sc_cl ca 64 (sc_sh rl) B r M9 hm_L0) args s 0 0 (hm_A B 64)) (F0 m 101 ls [.int y0]) := by
  obtain ⟨hx, hb, hml, hown, hr, hlk, hKt⟩ := id X
  have hK := hKt.1
  have hts : ∀ w ∈ hq_tb, w.before args s = true := fun w h => hKt.2.2 w h args
  intro y0 M H locs ls hl hP hS hf
  unfold f_Plan_draw_101 at hf
  obtain ⟨h9, h8⟩ := Prod.mk.inj (Option.some.inj hf)
  subst h9
  subst h8
  exact W.iret hx hb hr (fun t ht _ => ⟨⟨_, (), rfl, rfl, by subst ht; exact hP⟩, hS.F ht⟩) hS.2.2 d_Plan_draw_101 hlk
set_option maxHeartbeats 4000000 in
set_option maxRecDepth 100000 in
theorem w_Plan_draw_e {p : Program} {l : Launch} {e : Env} {s : State} {m : MethodId} {args : Array Value} {below : List Frame} {meth : Method} {c : Code} {D : va_G} {ca : Nat → ClassId} {B rl : Nat} {r : Int32} {M9 : hm_M} (X : hq_X p s m args meth c b_Plan_draw R_Plan 2 (some .int) D sc_cl (sc_ty ca) hq_tb) : ∀ (M : hm_M) (H : Heap) (locs : List Loc) (ls : Array Slot), lv_has ls 2 [(0, .ref (B + 37))] → hm_P D sc_cl ca 64 (sc_sh rl) B M hm_L0 H → va_S (hm_A B 64) s.heap H locs → f_Plan_draw M = some (r, M9) → W p l e ({ frames := 5, cells := 0, slots := 0, locals := 114 } : Room) s m args below meth c H locs 0 0 (MQ below (hq_QI D sc_cl ca 64 (sc_sh rl) B r M9 hm_L0) args s 0 0 (hm_A B 64)) (F0 m 0 ls []) := by
  obtain ⟨hx, hb, hml, hown, hr, hlk, hKt⟩ := id X
  have hK := hKt.1
  have hts : ∀ w ∈ hq_tb, w.before args s = true := fun w h => hKt.2.2 w h args
  intro  M H locs ls hl hP hS hf
  unfold f_Plan_draw at hf
  refine lv_aload_n hx hb d_Plan_draw_0 rfl (lv_at hl 0 rfl) ?_
  refine hq_get hx hb hts i_Plan hown hK hP 37 (by decide) (sc_s_Plan (rfl)) rfl 0 (by decide) (hts _ sc_wd_51) (fun _ h => h) (v := .ref (B + 1)) rfl d_Plan_draw_1 ?_
  refine hq_getN hx hb hts i_Pipe hown hK hP 1 (by decide) (sc_s_Pipe (rfl)) rfl 5 (by decide) (hts _ sc_wd_57) (fun _ h => h) (v := .int (M 1 5)) rfl d_Plan_draw_4 ?_
  refine lv_iconst (v := (-1)) hx hb d_Plan_draw_7 (by decide) ?_
  refine lv_icmp_ne (tgt := 14) hx hb d_Plan_draw_8 (by decide) (fun c1 => ?_) (fun c1 => ?_)
  · replace hf := (if_neg c1).symm.trans hf
    refine lv_aload_n hx hb d_Plan_draw_14 rfl (lv_at hl 0 rfl) ?_
    refine hq_get hx hb hts i_Plan hown hK hP 37 (by decide) (sc_s_Plan (rfl)) rfl 1 (by decide) (hts _ sc_wd_49) (fun _ h => h) (v := .ref (B + 38)) rfl d_Plan_draw_15 ?_
    refine lv_aload_n hx hb d_Plan_draw_18 rfl (lv_at hl 0 rfl) ?_
    refine hq_get hx hb hts i_Plan hown hK hP 37 (by decide) (sc_s_Plan (rfl)) rfl 0 (by decide) (hts _ sc_wd_51) (fun _ h => h) (v := .ref (B + 1)) rfl d_Plan_draw_19 ?_
    refine lv_iconst (v := 0) hx hb d_Plan_draw_22 (by decide) ?_
    refine lv_aload_n hx hb d_Plan_draw_23 rfl (lv_at hl 0 rfl) ?_
    refine hq_get hx hb hts i_Plan hown hK hP 37 (by decide) (sc_s_Plan (rfl)) rfl 0 (by decide) (hts _ sc_wd_51) (fun _ h => h) (v := .ref (B + 1)) rfl d_Plan_draw_24 ?_
    refine hq_getN hx hb hts i_Pipe hown hK hP 1 (by decide) (sc_s_Pipe (rfl)) rfl 6 (by decide) (hts _ sc_wd_68) (fun _ h => h) (v := .int (M 1 6)) rfl d_Plan_draw_27 ?_
    refine lv_iconst (v := 1) hx hb d_Plan_draw_30 (by decide) ?_
    refine lv_isub hx hb d_Plan_draw_31 ?_
    obtain ⟨M_3, hc4, hf⟩ := hm_bV_some hf
    refine hq_callV (va_runVN (As := [.ref (B + 1), .int 0, .int ((M 1 6) - 1)]) (rest := []) ⟨hx, hb, hml, hown, hts⟩ (c_Needs_spread (l := l) (D := D) (ca := ca) (B := B) (rl := rl) rfl hc4) (hq_cwN (nn := 3) hts sc_wd_86 sc_wd_14 sc_wd_87 sc_wd_88 sc_wd_89 (by decide +kernel) rfl rfl ⟨(Nat.le_of_ble_eq_true rfl), (Nat.le_of_ble_eq_true rfl)⟩) (hq_preV hKt hP (by decide) (sc_s_Needs (rfl)) rfl) rfl rfl hl.1 rfl (lv_room (Nat.le_of_ble_eq_true rfl)) d_Plan_draw_32 ⟨(Nat.le_of_ble_eq_true rfl), (Nat.le_of_ble_eq_true rfl)⟩) hS (fun H locs hP hS => ?_)
    refine lv_aload_n hx hb d_Plan_draw_35 rfl (lv_at hl 0 rfl) ?_
    obtain ⟨r5, M_6, hc7, hf⟩ := hm_bI_some hf
    refine hq_callI (va_runV (As := []) (rest := []) ⟨hx, hb, hml, hown, hts⟩ (c_Plan_leastRootThatAsksTiled (l := l) (D := D) (ca := ca) (B := B) (rl := rl)  hc7) (hq_cwV (nn := 0) hts sc_wd_99 sc_wd_59 sc_wd_100 sc_wd_101 sc_wd_102 (by decide +kernel) rfl rfl ⟨(Nat.le_of_ble_eq_true rfl), (Nat.le_of_ble_eq_true rfl)⟩) (hq_preV hKt hP (by decide) (sc_s_Plan (rfl)) rfl) rfl rfl hl.1 rfl (lv_room (Nat.le_of_ble_eq_true rfl)) d_Plan_draw_36 ⟨(Nat.le_of_ble_eq_true rfl), (Nat.le_of_ble_eq_true rfl)⟩) hS (fun H locs hP hS => ?_)
    refine lv_istore_n (lv' := [(1, .int r5), (0, .ref (B + 37))]) hx hb d_Plan_draw_39 rfl hl (by decide) rfl (fun ls hl => ?_)
    refine lv_iload_n hx hb d_Plan_draw_40 rfl (lv_at hl 0 rfl) ?_
    refine lv_if_lt (tgt := 50) hx hb d_Plan_draw_41 (by decide) (fun c8 => ?_) (fun c8 => ?_)
    · replace hf := (if_pos c8).symm.trans hf
      refine lv_aload_n hx hb d_Plan_draw_50 rfl (lv_at hl 1 rfl) ?_
      refine hq_get hx hb hts i_Plan hown hK hP 37 (by decide) (sc_s_Plan (rfl)) rfl 4 (by decide) (hts _ sc_wd_67) (fun _ h => h) (v := .ref (B + 47)) rfl d_Plan_draw_51 ?_
      refine lv_iconst (v := 0) hx hb d_Plan_draw_54 (by decide) ?_
      obtain ⟨M_10, hc11, hf⟩ := hm_bV_some hf
      refine hq_callV (va_runS (As := [.ref (B + 47), .int 0]) (rest := []) ⟨hx, hb, hml, hown, hts⟩ (c_Arrays_fill (l := l) (D := D) (ca := ca) (B := B) (rl := rl) rfl hc11) (hq_cwS (nn := 2) hts sc_wd_103 sc_wd_104 sc_wd_105 sc_wd_106 (by decide +kernel) rfl rfl ⟨(Nat.le_of_ble_eq_true rfl), (Nat.le_of_ble_eq_true rfl)⟩) (hq_preS hKt hP) rfl rfl hl.1 rfl (lv_room (Nat.le_of_ble_eq_true rfl)) d_Plan_draw_55 ⟨(Nat.le_of_ble_eq_true rfl), (Nat.le_of_ble_eq_true rfl)⟩) hS (fun H locs hP hS => ?_)
      refine lv_aload_n hx hb d_Plan_draw_58 rfl (lv_at hl 1 rfl) ?_
      refine lv_iconst (v := 0) hx hb d_Plan_draw_59 (by decide) ?_
      refine hq_put hx hb hts i_Plan t_Plan t_Plan_ok n_Plan hown hK hP hS 37 (by decide) (sc_s_Plan (rfl)) rfl 6 (by decide) (hts _ sc_wd_73) (fun _ h => h) rfl (ty := .int) (x := 0) (by decide +kernel) rfl rfl rfl d_Plan_draw_60 (fun H locs hP hS => ?_)
      obtain ⟨M_12, e_12, hf⟩ := hm_st_some hf
      rw [← e_12] at hP
      refine lv_aload_n hx hb d_Plan_draw_63 rfl (lv_at hl 1 rfl) ?_
      refine lv_iconst (v := 0) hx hb d_Plan_draw_64 (by decide) ?_
      refine hq_put hx hb hts i_Plan t_Plan t_Plan_ok n_Plan hown hK hP hS 37 (by decide) (sc_s_Plan (rfl)) rfl 7 (by decide) (hts _ sc_wd_75) (fun _ h => h) rfl (ty := .int) (x := 0) (by decide +kernel) rfl rfl rfl d_Plan_draw_65 (fun H locs hP hS => ?_)
      obtain ⟨M_13, e_13, hf⟩ := hm_st_some hf
      rw [← e_13] at hP
      refine lv_aload_n hx hb d_Plan_draw_68 rfl (lv_at hl 1 rfl) ?_
      obtain ⟨M_15, hc16, hf⟩ := hm_bV_some hf
      refine hq_callV (va_runV (As := []) (rest := []) ⟨hx, hb, hml, hown, hts⟩ (c_Plan_measureOutput (l := l) (D := D) (ca := ca) (B := B) (rl := rl)  hc16) (hq_cwV (nn := 0) hts sc_wd_107 sc_wd_59 sc_wd_108 sc_wd_109 sc_wd_110 (by decide +kernel) rfl rfl ⟨(Nat.le_of_ble_eq_true rfl), (Nat.le_of_ble_eq_true rfl)⟩) (hq_preV hKt hP (by decide) (sc_s_Plan (rfl)) rfl) rfl rfl hl.1 rfl (lv_room (Nat.le_of_ble_eq_true rfl)) d_Plan_draw_69 ⟨(Nat.le_of_ble_eq_true rfl), (Nat.le_of_ble_eq_true rfl)⟩) hS (fun H locs hP hS => ?_)
      refine lv_aload_n hx hb d_Plan_draw_72 rfl (lv_at hl 1 rfl) ?_
      obtain ⟨M_18, hc19, hf⟩ := hm_bV_some hf
      refine hq_callV (va_runV (As := []) (rest := []) ⟨hx, hb, hml, hown, hts⟩ (c_Plan_measureRoots (l := l) (D := D) (ca := ca) (B := B) (rl := rl)  hc19) (hq_cwV (nn := 0) hts sc_wd_111 sc_wd_59 sc_wd_112 sc_wd_113 sc_wd_114 (by decide +kernel) rfl rfl ⟨(Nat.le_of_ble_eq_true rfl), (Nat.le_of_ble_eq_true rfl)⟩) (hq_preV hKt hP (by decide) (sc_s_Plan (rfl)) rfl) rfl rfl hl.1 rfl (lv_room (Nat.le_of_ble_eq_true rfl)) d_Plan_draw_73 ⟨(Nat.le_of_ble_eq_true rfl), (Nat.le_of_ble_eq_true rfl)⟩) hS (fun H locs hP hS => ?_)
      refine lv_aload_n hx hb d_Plan_draw_76 rfl (lv_at hl 1 rfl) ?_
      obtain ⟨M_21, hc22, hf⟩ := hm_bV_some hf
      refine hq_callV (va_runV (As := []) (rest := []) ⟨hx, hb, hml, hown, hts⟩ (c_Plan_measureTiles (l := l) (D := D) (ca := ca) (B := B) (rl := rl)  hc22) (hq_cwV (nn := 0) hts sc_wd_115 sc_wd_59 sc_wd_116 sc_wd_117 sc_wd_118 (by decide +kernel) rfl rfl ⟨(Nat.le_of_ble_eq_true rfl), (Nat.le_of_ble_eq_true rfl)⟩) (hq_preV hKt hP (by decide) (sc_s_Plan (rfl)) rfl) rfl rfl hl.1 rfl (lv_room (Nat.le_of_ble_eq_true rfl)) d_Plan_draw_77 ⟨(Nat.le_of_ble_eq_true rfl), (Nat.le_of_ble_eq_true rfl)⟩) hS (fun H locs hP hS => ?_)
      refine lv_aload_n hx hb d_Plan_draw_80 rfl (lv_at hl 1 rfl) ?_
      obtain ⟨M_24, hc25, hf⟩ := hm_bV_some hf
      refine hq_callV (va_runV (As := []) (rest := []) ⟨hx, hb, hml, hown, hts⟩ (c_Plan_measureInlines (l := l) (D := D) (ca := ca) (B := B) (rl := rl)  hc25) (hq_cwV (nn := 0) hts sc_wd_119 sc_wd_59 sc_wd_120 sc_wd_121 sc_wd_122 (by decide +kernel) rfl rfl ⟨(Nat.le_of_ble_eq_true rfl), (Nat.le_of_ble_eq_true rfl)⟩) (hq_preV hKt hP (by decide) (sc_s_Plan (rfl)) rfl) rfl rfl hl.1 rfl (lv_room (Nat.le_of_ble_eq_true rfl)) d_Plan_draw_81 ⟨(Nat.le_of_ble_eq_true rfl), (Nat.le_of_ble_eq_true rfl)⟩) hS (fun H locs hP hS => ?_)
      refine lv_aload_n hx hb d_Plan_draw_84 rfl (lv_at hl 1 rfl) ?_
      refine hq_get hx hb hts i_Plan hown hK hP 37 (by decide) (sc_s_Plan (rfl)) rfl 5 (by decide) (hts _ sc_wd_94) (fun _ h => h) (v := .int (M_24 37 5)) rfl d_Plan_draw_85 ?_
      refine lv_sipush (v := 4000) hx hb d_Plan_draw_88 (by decide) ?_
      refine lv_icmp_le (tgt := 100) hx hb d_Plan_draw_91 (by decide) (fun c26 => ?_) (fun c26 => ?_)
      · replace hf := (if_pos c26).symm.trans hf
        refine lv_iconst (v := 0) hx hb d_Plan_draw_100 (by decide) ?_
        exact w_Plan_draw_101 X _ _ _ _ _ (lv_sub hl [] rfl) hP hS hf
      · replace hf := (if_neg c26).symm.trans hf
        refine lv_sipush (v := (-300)) hx hb d_Plan_draw_94 (by decide) ?_
        refine lv_goto (tgt := 101) hx hb d_Plan_draw_97 (by decide) ?_
        exact w_Plan_draw_101 X _ _ _ _ _ (lv_sub hl [] rfl) hP hS hf
    · replace hf := (if_neg c8).symm.trans hf
      refine lv_sipush (v := (-200)) hx hb d_Plan_draw_44 (by decide) ?_
      refine lv_iload_n hx hb d_Plan_draw_47 rfl (lv_at hl 0 rfl) ?_
      refine lv_isub hx hb d_Plan_draw_48 ?_
      obtain ⟨h9, h8⟩ := Prod.mk.inj (Option.some.inj hf)
      subst h9
      subst h8
      exact W.iret hx hb hr (fun t ht _ => ⟨⟨_, (), rfl, rfl, by subst ht; exact hP⟩, hS.F ht⟩) hS.2.2 d_Plan_draw_49 hlk
  · replace hf := (if_pos c1).symm.trans hf
    refine lv_bipush (v := (-100)) hx hb d_Plan_draw_11 (by decide) ?_
    obtain ⟨h9, h8⟩ := Prod.mk.inj (Option.some.inj hf)
    subst h9
    subst h8
    exact W.iret hx hb hr (fun t ht _ => ⟨⟨_, (), rfl, rfl, by subst ht; exact hP⟩, hS.F ht⟩) hS.2.2 d_Plan_draw_13 hlk
set_option maxHeartbeats 4000000 in
set_option maxRecDepth 100000 in
theorem c_Plan_draw {l : Launch} {D : va_G} {ca : Nat → ClassId} {B rl : Nat} {r : Int32} {M M9 : hm_M} (hf : f_Plan_draw M  = some (r, M9)) : Met l y_Plan_draw [Cond.code y_Plan_draw b_Plan_draw 2 (some .int)] ({ frames := 5, cells := 0, slots := 0, locals := 114 } : Room) (hq_Pre D sc_cl ca 64 (sc_sh rl) B (sc_ty ca) hq_tb M hm_L0 [.ref (B + 37)]) (hq_QI D sc_cl ca 64 (sc_sh rl) B r M9 hm_L0) 0 0 (hm_A B 64) := by
  refine Met.ofW (cc := b_Plan_draw) (maxL := 2) (ret := (some .int)) (by decide +kernel) rfl ?_
  intro p e s m args below meth c s₁ Bd hml hv
  obtain ⟨rfl, hP, hK⟩ := hv
  have hl := lv_entry ([.ref (B + 37)]) (n := 2) (Nat.le_of_ble_eq_true rfl)
  rw [lg_entry_eq]
  generalize (lg_sl ([.ref (B + 37)]) ++ List.replicate (2 - (lg_sl ([.ref (B + 37)])).length) Slot.unset).toArray = ls at hl ⊢
  have hl : lv_has ls 2 [(0, .ref (B + 37))] := hl
  exact w_Plan_draw_e ⟨Bd.exec, Bd.bytes, hml, findClass_of_methodNamed Bd.named, Bd.returns, Bd.notSynchronized, hK⟩   _ _ _ _ hl hP va_S.rf hf
end
section
set_option maxHeartbeats 4000000 in
set_option maxRecDepth 100000 in
theorem w_Runner_sourceValue_61 {p : Program} {l : Launch} {e : Env} {s : State} {m : MethodId} {args : Array Value} {below : List Frame} {meth : Method} {c : Code} {D : va_G} {ca : Nat → ClassId} {B rl fr lo : Nat} {r : Int32} {M9 : hm_M} {rc : hm_M → Int32 → Int32 → Option (Int32 × hm_M)} (X : hq_X p s m args meth c b_Runner_sourceValue R_Runner 3 (some .int) D sc_cl (sc_ty ca) hq_tb) (hrc : ∀ (M : hm_M) (x1 x2 r : Int32) (M9 : hm_M), rc M x1 x2 = some (r, M9) → Met l y_Runner_workOut [Cond.code y_Runner_workOut b_Runner_workOut 6 (some .int)] ({ frames := fr, cells := 0, slots := 0, locals := lo } : Room) (hq_Pre D sc_cl ca 64 (sc_sh rl) B (sc_ty ca) hq_tb M hm_L0 [.ref (B + 48), .int x1, .int x2]) (hq_QI D sc_cl ca 64 (sc_sh rl) B r M9 hm_L0) 0 0 (hm_A B 64)) : ∀ (y0 : Int32), ∀ (M : hm_M) (H : Heap) (locs : List Loc) (ls : Array Slot), lv_has ls 3 [] → hm_P D sc_cl ca 64 (sc_sh rl) B M hm_L0 H → va_S (hm_A B 64) s.heap H locs → f_Runner_sourceValue_61 rl rc y0 M = some (r, M9) → W p l e ({ frames := fr + 1, cells := 0, slots := 0, locals := lo + 25 } : Room) s m args below meth c H locs 0 0 (MQ below (hq_QI D sc_cl ca 64 (sc_sh rl) B r M9 hm_L0) args s 0 0 (hm_A B 64)) (F0 m 61 ls [.int y0]) := by
  obtain ⟨hx, hb, hml, hown, hr, hlk, hKt⟩ := id X
  have hK := hKt.1
  have hts : ∀ w ∈ hq_tb, w.before args s = true := fun w h => hKt.2.2 w h args
  intro y0 M H locs ls hl hP hS hf
  unfold f_Runner_sourceValue_61 at hf
  obtain ⟨h9, h8⟩ := Prod.mk.inj (Option.some.inj hf)
  subst h9
  subst h8
  exact W.iret hx hb hr (fun t ht _ => ⟨⟨_, (), rfl, rfl, by subst ht; exact hP⟩, hS.F ht⟩) hS.2.2 d_Runner_sourceValue_61 hlk
set_option maxHeartbeats 4000000 in
set_option maxRecDepth 100000 in
theorem w_Runner_sourceValue_e {p : Program} {l : Launch} {e : Env} {s : State} {m : MethodId} {args : Array Value} {below : List Frame} {meth : Method} {c : Code} {D : va_G} {ca : Nat → ClassId} {B rl fr lo : Nat} {r : Int32} {M9 : hm_M} {rc : hm_M → Int32 → Int32 → Option (Int32 × hm_M)} (X : hq_X p s m args meth c b_Runner_sourceValue R_Runner 3 (some .int) D sc_cl (sc_ty ca) hq_tb) (hrc : ∀ (M : hm_M) (x1 x2 r : Int32) (M9 : hm_M), rc M x1 x2 = some (r, M9) → Met l y_Runner_workOut [Cond.code y_Runner_workOut b_Runner_workOut 6 (some .int)] ({ frames := fr, cells := 0, slots := 0, locals := lo } : Room) (hq_Pre D sc_cl ca 64 (sc_sh rl) B (sc_ty ca) hq_tb M hm_L0 [.ref (B + 48), .int x1, .int x2]) (hq_QI D sc_cl ca 64 (sc_sh rl) B r M9 hm_L0) 0 0 (hm_A B 64)) : ∀ (x1 : Int32), ∀ (x2 : Int32), ∀ (M : hm_M) (H : Heap) (locs : List Loc) (ls : Array Slot), lv_has ls 3 [(0, .ref (B + 48)), (1, .int x1), (2, .int x2)] → hm_P D sc_cl ca 64 (sc_sh rl) B M hm_L0 H → va_S (hm_A B 64) s.heap H locs → f_Runner_sourceValue rl rc M x1 x2 = some (r, M9) → W p l e ({ frames := fr + 1, cells := 0, slots := 0, locals := lo + 25 } : Room) s m args below meth c H locs 0 0 (MQ below (hq_QI D sc_cl ca 64 (sc_sh rl) B r M9 hm_L0) args s 0 0 (hm_A B 64)) (F0 m 0 ls []) := by
  obtain ⟨hx, hb, hml, hown, hr, hlk, hKt⟩ := id X
  have hK := hKt.1
  have hts : ∀ w ∈ hq_tb, w.before args s = true := fun w h => hKt.2.2 w h args
  intro x1 x2 M H locs ls hl hP hS hf
  unfold f_Runner_sourceValue at hf
  refine lv_iload_n hx hb d_Runner_sourceValue_0 rfl (lv_at hl 1 rfl) ?_
  refine lv_iconst (v := (-1)) hx hb d_Runner_sourceValue_1 (by decide) ?_
  refine lv_icmp_ne (tgt := 32) hx hb d_Runner_sourceValue_2 (by decide) (fun c1 => ?_) (fun c1 => ?_)
  · replace hf := (if_neg c1).symm.trans hf
    refine lv_aload_n hx hb d_Runner_sourceValue_32 rfl (lv_at hl 0 rfl) ?_
    refine hq_get hx hb hts i_Runner hown hK hP 48 (by decide) (sc_s_Runner (rfl)) rfl 2 (by decide) (hts _ sc_wd_123) (fun _ h => h) (v := .ref (B + 53)) rfl d_Runner_sourceValue_33 ?_
    refine lv_iload_n hx hb d_Runner_sourceValue_36 rfl (lv_at hl 1 rfl) ?_
    obtain ⟨g2, hf⟩ := hm_gd_some hf
    refine hq_zald hx hb hK hP 53 (by decide) (sc_s_za8 (rfl)) 1 rfl g2 d_Runner_sourceValue_37 ?_
    refine lv_if_eq (tgt := 55) hx hb d_Runner_sourceValue_38 (by decide) (fun c3 => ?_) (fun c3 => ?_)
    · replace hf := (if_pos c3).symm.trans hf
      refine lv_aload_n hx hb d_Runner_sourceValue_55 rfl (lv_at hl 0 rfl) ?_
      refine lv_iload_n hx hb d_Runner_sourceValue_56 rfl (lv_at hl 1 rfl) ?_
      refine lv_iload_n hx hb d_Runner_sourceValue_57 rfl (lv_at hl 2 rfl) ?_
      obtain ⟨r4, M_5, hc6, hf⟩ := hm_bI_some hf
      refine hq_callI (va_runV (As := [.int x1, .int x2]) (rest := []) ⟨hx, hb, hml, hown, hts⟩ (hrc _ _ _ _ _ hc6) (hq_cwV (nn := 2) hts sc_wd_124 sc_wd_125 sc_wd_126 sc_wd_127 sc_wd_128 (by decide +kernel) rfl rfl ⟨(by show fr + 1 ≤ fr + 1; omega), (by show 8 + (6 + 11) + (lo) ≤ lo + 25; omega)⟩) (hq_preV hKt hP (by decide) (sc_s_Runner (rfl)) rfl) rfl rfl hl.1 rfl (lv_room (Nat.le_of_ble_eq_true rfl)) d_Runner_sourceValue_58 ⟨(Nat.le_of_ble_eq_true rfl), (Nat.le_of_ble_eq_true rfl)⟩) hS (fun H locs hP hS => ?_)
      exact w_Runner_sourceValue_61 X hrc _ _ _ _ _ (lv_sub hl [] rfl) hP hS hf
    · replace hf := (if_neg c3).symm.trans hf
      refine lv_aload_n hx hb d_Runner_sourceValue_41 rfl (lv_at hl 0 rfl) ?_
      refine hq_get hx hb hts i_Runner hown hK hP 48 (by decide) (sc_s_Runner (rfl)) rfl 3 (by decide) (hts _ sc_wd_129) (fun _ h => h) (v := .ref (B + 54)) rfl d_Runner_sourceValue_42 ?_
      refine lv_iload_n hx hb d_Runner_sourceValue_45 rfl (lv_at hl 1 rfl) ?_
      obtain ⟨g7, hf⟩ := hm_gd_some hf
      refine hq_aald hx hb hK hP 54 (by decide) (sc_s_grid (rfl)) 3 rfl rfl g7 d_Runner_sourceValue_46 ?_
      refine lv_iload_n hx hb d_Runner_sourceValue_47 rfl (lv_at hl 2 rfl) ?_
      refine lv_bipush (v := 28) hx hb d_Runner_sourceValue_48 (by decide) ?_
      refine lv_iadd hx hb d_Runner_sourceValue_50 ?_
      obtain ⟨g8, hf⟩ := hm_gd_some hf
      refine hq_iald hx hb hK hP (55 + x1.toNatClampNeg) (sc_lt (sck_gr g7) (by decide)) (sc_s_ia88 ((sck_gr g7))) 0 rfl g8 d_Runner_sourceValue_51 ?_
      refine lv_goto (tgt := 61) hx hb d_Runner_sourceValue_52 (by decide) ?_
      exact w_Runner_sourceValue_61 X hrc _ _ _ _ _ (lv_sub hl [] rfl) hP hS hf
  · replace hf := (if_pos c1).symm.trans hf
    refine lv_aload_n hx hb d_Runner_sourceValue_5 rfl (lv_at hl 0 rfl) ?_
    refine hq_get hx hb hts i_Runner hown hK hP 48 (by decide) (sc_s_Runner (rfl)) rfl 0 (by decide) (hts _ sc_wd_130) (fun _ h => h) (v := .ref (B + 1)) rfl d_Runner_sourceValue_6 ?_
    refine hq_getN hx hb hts i_Pipe hown hK hP 1 (by decide) (sc_s_Pipe (rfl)) rfl 0 (by decide) (hts _ sc_wd_131) (fun _ h => h) (v := .ref (B + 4)) rfl d_Runner_sourceValue_9 ?_
    refine lv_iconst (v := 0) hx hb d_Runner_sourceValue_12 (by decide) ?_
    refine lv_aload_n hx hb d_Runner_sourceValue_13 rfl (lv_at hl 0 rfl) ?_
    refine hq_get hx hb hts i_Runner hown hK hP 48 (by decide) (sc_s_Runner (rfl)) rfl 0 (by decide) (hts _ sc_wd_130) (fun _ h => h) (v := .ref (B + 1)) rfl d_Runner_sourceValue_14 ?_
    refine hq_getN hx hb hts i_Pipe hown hK hP 1 (by decide) (sc_s_Pipe (rfl)) rfl 0 (by decide) (hts _ sc_wd_131) (fun _ h => h) (v := .ref (B + 4)) rfl d_Runner_sourceValue_17 ?_
    refine hq_alen hx hb hK hP 4 (by decide) (sc_s_row (rfl)) 0 rfl (v := (nI rl)) rfl d_Runner_sourceValue_20 ?_
    refine lv_iconst (v := 1) hx hb d_Runner_sourceValue_21 (by decide) ?_
    refine lv_isub hx hb d_Runner_sourceValue_22 ?_
    refine lv_iload_n hx hb d_Runner_sourceValue_23 rfl (lv_at hl 2 rfl) ?_
    refine va_mmin hx hb (hml.trans hl.1.symm) hown (hts _ sc_wd_132) (hts _ sc_wd_3) (hts _ sc_wd_4) (hts _ sc_wd_5) (by show 1 ≤ fr + 1; omega) (by show 2 + 13 ≤ lo + 25; omega) (Nat.le_of_ble_eq_true rfl) (Nat.le_of_ble_eq_true rfl) d_Runner_sourceValue_24 ?_
    refine va_mmax hx hb (hml.trans hl.1.symm) hown (hts _ sc_wd_133) (hts _ sc_wd_8) (hts _ sc_wd_4) (hts _ sc_wd_9) (by show 1 ≤ fr + 1; omega) (by show 1 + 13 ≤ lo + 25; omega) (Nat.le_of_ble_eq_true rfl) (Nat.le_of_ble_eq_true rfl) d_Runner_sourceValue_27 ?_
    obtain ⟨g9, hf⟩ := hm_gd_some hf
    refine hq_iald hx hb hK hP 4 (by decide) (sc_s_row (rfl)) 0 rfl g9 d_Runner_sourceValue_30 ?_
    obtain ⟨h9, h8⟩ := Prod.mk.inj (Option.some.inj hf)
    subst h9
    subst h8
    exact W.iret hx hb hr (fun t ht _ => ⟨⟨_, (), rfl, rfl, by subst ht; exact hP⟩, hS.F ht⟩) hS.2.2 d_Runner_sourceValue_31 hlk
set_option maxHeartbeats 4000000 in
set_option maxRecDepth 100000 in
theorem c_Runner_sourceValue {l : Launch} {D : va_G} {ca : Nat → ClassId} {B rl : Nat} {rc : hm_M → Int32 → Int32 → Option (Int32 × hm_M)} {fr lo : Nat} (hrc : ∀ (M : hm_M) (x1 x2 r : Int32) (M9 : hm_M), rc M x1 x2 = some (r, M9) → Met l y_Runner_workOut [Cond.code y_Runner_workOut b_Runner_workOut 6 (some .int)] ({ frames := fr, cells := 0, slots := 0, locals := lo } : Room) (hq_Pre D sc_cl ca 64 (sc_sh rl) B (sc_ty ca) hq_tb M hm_L0 [.ref (B + 48), .int x1, .int x2]) (hq_QI D sc_cl ca 64 (sc_sh rl) B r M9 hm_L0) 0 0 (hm_A B 64)) {r : Int32} {x1 : Int32} {x2 : Int32} {M M9 : hm_M} (hf : f_Runner_sourceValue rl rc M x1 x2 = some (r, M9)) : Met l y_Runner_sourceValue [Cond.code y_Runner_sourceValue b_Runner_sourceValue 3 (some .int)] ({ frames := fr + 1, cells := 0, slots := 0, locals := lo + 25 } : Room) (hq_Pre D sc_cl ca 64 (sc_sh rl) B (sc_ty ca) hq_tb M hm_L0 [.ref (B + 48), .int x1, .int x2]) (hq_QI D sc_cl ca 64 (sc_sh rl) B r M9 hm_L0) 0 0 (hm_A B 64) := by
  refine Met.ofW (cc := b_Runner_sourceValue) (maxL := 3) (ret := (some .int)) (by decide +kernel) rfl ?_
  intro p e s m args below meth c s₁ Bd hml hv
  obtain ⟨rfl, hP, hK⟩ := hv
  have hl := lv_entry ([.ref (B + 48), .int x1, .int x2]) (n := 3) (Nat.le_of_ble_eq_true rfl)
  rw [lg_entry_eq]
  generalize (lg_sl ([.ref (B + 48), .int x1, .int x2]) ++ List.replicate (3 - (lg_sl ([.ref (B + 48), .int x1, .int x2])).length) Slot.unset).toArray = ls at hl ⊢
  have hl : lv_has ls 3 [(0, .ref (B + 48)), (1, .int x1), (2, .int x2)] := hl
  exact w_Runner_sourceValue_e ⟨Bd.exec, Bd.bytes, hml, findClass_of_methodNamed Bd.named, Bd.returns, Bd.notSynchronized, hK⟩ hrc _ _ _ _ _ _ hl hP va_S.rf hf
set_option maxHeartbeats 4000000 in
set_option maxRecDepth 100000 in
theorem w_Runner_workOutB_19 {p : Program} {l : Launch} {e : Env} {s : State} {m : MethodId} {args : Array Value} {below : List Frame} {meth : Method} {c : Code} {D : va_G} {ca : Nat → ClassId} {B rl fr lo : Nat} {r : Int32} {M9 : hm_M} {rc : hm_M → Int32 → Int32 → Option (Int32 × hm_M)} (X : hq_X p s m args meth c b_Runner_workOut R_Runner 6 (some .int) D sc_cl (sc_ty ca) hq_tb) (hrc : ∀ (M : hm_M) (x1 x2 r : Int32) (M9 : hm_M), rc M x1 x2 = some (r, M9) → Met l y_Runner_workOut [Cond.code y_Runner_workOut b_Runner_workOut 6 (some .int)] ({ frames := fr, cells := 0, slots := 0, locals := lo } : Room) (hq_Pre D sc_cl ca 64 (sc_sh rl) B (sc_ty ca) hq_tb M hm_L0 [.ref (B + 48), .int x1, .int x2]) (hq_QI D sc_cl ca 64 (sc_sh rl) B r M9 hm_L0) 0 0 (hm_A B 64)) : ∀ (n : Nat), ∀ (x2 : Int32), ∀ (a3 : Nat), ∀ (x4 : Int32), ∀ (x5 : Int32), sc_kd a3 = 5 → ∀ (M : hm_M) (H : Heap) (locs : List Loc) (ls : Array Slot), lv_has ls 6 [(0, .ref (B + 48)), (2, .int x2), (3, .ref (B + a3)), (4, .int x4), (5, .int x5)] → hm_P D sc_cl ca 64 (sc_sh rl) B M hm_L0 H → va_S (hm_A B 64) s.heap H locs → f_Runner_workOutB_19 rl rc n x2 a3 x4 x5 M = some (r, M9) → W p l e ({ frames := fr + 3, cells := 0, slots := 0, locals := lo + 60 } : Room) s m args below meth c H locs 0 0 (MQ below (hq_QI D sc_cl ca 64 (sc_sh rl) B r M9 hm_L0) args s 0 0 (hm_A B 64)) (F0 m 19 ls []) := by
  obtain ⟨hx, hb, hml, hown, hr, hlk, hKt⟩ := id X
  have hK := hKt.1
  have hts : ∀ w ∈ hq_tb, w.before args s = true := fun w h => hKt.2.2 w h args
  intro n
  induction n with
  | zero =>
    intro x2 a3 x4 x5 h_a3 M H locs ls hl hP hS hf
    cases hf
  | succ n ih =>
    intro x2 a3 x4 x5 h_a3 M H locs ls hl hP hS hf
    rw [f_Runner_workOutB_19] at hf
    refine lv_iload hx hb d_Runner_workOut_19 (lv_at hl 4 rfl) ?_
    refine lv_aload_n hx hb d_Runner_workOut_21 rfl (lv_at hl 2 rfl) ?_
    refine hq_getN hx hb hts i_Stage hown hK hP a3 (sc_lt h_a3 (by decide)) (sc_s_Stage (h_a3)) rfl 3 (by decide) (hts _ sc_wd_136) (fun _ h => h) (v := .int (M a3 3)) rfl d_Runner_workOut_22 ?_
    refine lv_icmp_ge (tgt := 67) hx hb d_Runner_workOut_25 (by decide) (fun c1 => ?_) (fun c1 => ?_)
    · replace hf := (if_pos c1).symm.trans hf
      refine lv_aload_n hx hb d_Runner_workOut_67 rfl (lv_at hl 2 rfl) ?_
      refine lv_iload hx hb d_Runner_workOut_68 (lv_at hl 3 rfl) ?_
      obtain ⟨r2, M_3, hc4, hf⟩ := hm_bI_some hf
      refine hq_callI (va_runVN (As := [.int x4]) (rest := []) ⟨hx, hb, hml, hown, hts⟩ (c_Stage_finished (l := l) (D := D) (ca := ca) (B := B) (rl := rl) h_a3 hc4) (hq_cwN (nn := 1) hts sc_wd_137 sc_wd_138 sc_wd_139 sc_wd_140 sc_wd_141 (by decide +kernel) rfl rfl ⟨(by show 1 + 1 ≤ fr + 3; omega), (by show 8 + (2 + 11) + (22) ≤ lo + 60; omega)⟩) (hq_preV hKt hP (sc_lt h_a3 (by decide)) (sc_s_Stage (h_a3)) rfl) rfl rfl hl.1 rfl (lv_room (Nat.le_of_ble_eq_true rfl)) d_Runner_workOut_70 ⟨(Nat.le_of_ble_eq_true rfl), (Nat.le_of_ble_eq_true rfl)⟩) hS (fun H locs hP hS => ?_)
      obtain ⟨h9, h8⟩ := Prod.mk.inj (Option.some.inj hf)
      subst h9
      subst h8
      exact W.iret hx hb hr (fun t ht _ => ⟨⟨_, (), rfl, rfl, by subst ht; exact hP⟩, hS.F ht⟩) hS.2.2 d_Runner_workOut_73 hlk
    · replace hf := (if_neg c1).symm.trans hf
      refine lv_iload hx hb d_Runner_workOut_28 (lv_at hl 3 rfl) ?_
      refine lv_aload_n hx hb d_Runner_workOut_30 rfl (lv_at hl 2 rfl) ?_
      refine hq_getN hx hb hts i_Stage hown hK hP a3 (sc_lt h_a3 (by decide)) (sc_s_Stage (h_a3)) rfl 6 (by decide) (hts _ sc_wd_142) (fun _ h => h) (v := .ref (B + (a3 + 3))) rfl d_Runner_workOut_31 ?_
      refine lv_iload hx hb d_Runner_workOut_34 (lv_at hl 4 rfl) ?_
      obtain ⟨g5, hf⟩ := hm_gd_some hf
      refine hq_iald hx hb hK hP (a3 + 3) (sc_lt (sck_Stage3 h_a3) (by decide)) (sc_s_ia4 ((sck_Stage3 h_a3))) 0 rfl g5 d_Runner_workOut_36 ?_
      refine lv_aload_n hx hb d_Runner_workOut_37 rfl (lv_at hl 0 rfl) ?_
      refine lv_aload_n hx hb d_Runner_workOut_38 rfl (lv_at hl 2 rfl) ?_
      refine hq_getN hx hb hts i_Stage hown hK hP a3 (sc_lt h_a3 (by decide)) (sc_s_Stage (h_a3)) rfl 4 (by decide) (hts _ sc_wd_143) (fun _ h => h) (v := .ref (B + (a3 + 1))) rfl d_Runner_workOut_39 ?_
      refine lv_iload hx hb d_Runner_workOut_42 (lv_at hl 4 rfl) ?_
      obtain ⟨g6, hf⟩ := hm_gd_some hf
      refine hq_iald hx hb hK hP (a3 + 1) (sc_lt (sck_Stage1 h_a3) (by decide)) (sc_s_ia4 ((sck_Stage1 h_a3))) 0 rfl g6 d_Runner_workOut_44 ?_
      refine lv_iload_n hx hb d_Runner_workOut_45 rfl (lv_at hl 1 rfl) ?_
      refine lv_aload_n hx hb d_Runner_workOut_46 rfl (lv_at hl 2 rfl) ?_
      refine hq_getN hx hb hts i_Stage hown hK hP a3 (sc_lt h_a3 (by decide)) (sc_s_Stage (h_a3)) rfl 5 (by decide) (hts _ sc_wd_144) (fun _ h => h) (v := .ref (B + (a3 + 2))) rfl d_Runner_workOut_47 ?_
      refine lv_iload hx hb d_Runner_workOut_50 (lv_at hl 4 rfl) ?_
      obtain ⟨g7, hf⟩ := hm_gd_some hf
      refine hq_iald hx hb hK hP (a3 + 2) (sc_lt (sck_Stage2 h_a3) (by decide)) (sc_s_ia4 ((sck_Stage2 h_a3))) 0 rfl g7 d_Runner_workOut_52 ?_
      refine lv_iadd hx hb d_Runner_workOut_53 ?_
      obtain ⟨r8, M_9, hc10, hf⟩ := hm_bI_some hf
      refine hq_callI (va_runV (As := [.int (M (a3 + 1) x5.toNatClampNeg), .int (x2 + (M (a3 + 2) x5.toNatClampNeg))]) (rest := [.int (M (a3 + 3) x5.toNatClampNeg), .int x4]) ⟨hx, hb, hml, hown, hts⟩ (c_Runner_sourceValue hrc (l := l) (D := D) (ca := ca) (B := B) (rl := rl)  hc10) (hq_cwV (nn := 2) hts sc_wd_145 sc_wd_125 sc_wd_146 sc_wd_147 sc_wd_148 (by decide +kernel) rfl rfl ⟨(by show fr + 1 + 1 ≤ fr + 3; omega), (by show 8 + (3 + 11) + (lo + 25) ≤ lo + 60; omega)⟩) (hq_preV hKt hP (by decide) (sc_s_Runner (rfl)) rfl) rfl rfl hl.1 rfl (lv_room (Nat.le_of_ble_eq_true rfl)) d_Runner_workOut_54 ⟨(Nat.le_of_ble_eq_true rfl), (Nat.le_of_ble_eq_true rfl)⟩) hS (fun H locs hP hS => ?_)
      refine lv_imul hx hb d_Runner_workOut_57 ?_
      refine lv_iadd hx hb d_Runner_workOut_58 ?_
      refine lv_istore (lv' := [(4, .int (x4 + ((M (a3 + 3) x5.toNatClampNeg) * r8))), (0, .ref (B + 48)), (2, .int x2), (3, .ref (B + a3)), (5, .int x5)]) hx hb d_Runner_workOut_59 hl (by decide) rfl (fun ls hl => ?_)
      refine lv_iinc (v := (x5 + 1)) (lv' := [(5, .int (x5 + 1)), (4, .int (x4 + ((M (a3 + 3) x5.toNatClampNeg) * r8))), (0, .ref (B + 48)), (2, .int x2), (3, .ref (B + a3))]) hx hb d_Runner_workOut_61 hl (k := 4) rfl rfl (by decide) rfl (fun ls hl => ?_)
      refine lv_goto (tgt := 19) hx hb d_Runner_workOut_64 (by decide) ?_
      exact ih _ _ _ _ h_a3 _ _ _ _ (lv_sub hl [2, 3, 4, 1, 0] rfl) hP hS hf
set_option maxHeartbeats 4000000 in
set_option maxRecDepth 100000 in
theorem w_Runner_workOutB_e {p : Program} {l : Launch} {e : Env} {s : State} {m : MethodId} {args : Array Value} {below : List Frame} {meth : Method} {c : Code} {D : va_G} {ca : Nat → ClassId} {B rl fr lo : Nat} {r : Int32} {M9 : hm_M} {rc : hm_M → Int32 → Int32 → Option (Int32 × hm_M)} (X : hq_X p s m args meth c b_Runner_workOut R_Runner 6 (some .int) D sc_cl (sc_ty ca) hq_tb) (hrc : ∀ (M : hm_M) (x1 x2 r : Int32) (M9 : hm_M), rc M x1 x2 = some (r, M9) → Met l y_Runner_workOut [Cond.code y_Runner_workOut b_Runner_workOut 6 (some .int)] ({ frames := fr, cells := 0, slots := 0, locals := lo } : Room) (hq_Pre D sc_cl ca 64 (sc_sh rl) B (sc_ty ca) hq_tb M hm_L0 [.ref (B + 48), .int x1, .int x2]) (hq_QI D sc_cl ca 64 (sc_sh rl) B r M9 hm_L0) 0 0 (hm_A B 64)) : ∀ (x1 : Int32), ∀ (x2 : Int32), ∀ (M : hm_M) (H : Heap) (locs : List Loc) (ls : Array Slot), lv_has ls 6 [(0, .ref (B + 48)), (1, .int x1), (2, .int x2)] → hm_P D sc_cl ca 64 (sc_sh rl) B M hm_L0 H → va_S (hm_A B 64) s.heap H locs → f_Runner_workOutB rl rc M x1 x2 = some (r, M9) → W p l e ({ frames := fr + 3, cells := 0, slots := 0, locals := lo + 60 } : Room) s m args below meth c H locs 0 0 (MQ below (hq_QI D sc_cl ca 64 (sc_sh rl) B r M9 hm_L0) args s 0 0 (hm_A B 64)) (F0 m 0 ls []) := by
  obtain ⟨hx, hb, hml, hown, hr, hlk, hKt⟩ := id X
  have hK := hKt.1
  have hts : ∀ w ∈ hq_tb, w.before args s = true := fun w h => hKt.2.2 w h args
  intro x1 x2 M H locs ls hl hP hS hf
  unfold f_Runner_workOutB at hf
  refine lv_aload_n hx hb d_Runner_workOut_0 rfl (lv_at hl 0 rfl) ?_
  refine hq_get hx hb hts i_Runner hown hK hP 48 (by decide) (sc_s_Runner (rfl)) rfl 0 (by decide) (hts _ sc_wd_130) (fun _ h => h) (v := .ref (B + 1)) rfl d_Runner_workOut_1 ?_
  refine hq_getN hx hb hts i_Pipe hown hK hP 1 (by decide) (sc_s_Pipe (rfl)) rfl 1 (by decide) (hts _ sc_wd_134) (fun _ h => h) (v := .ref (B + 2)) rfl d_Runner_workOut_4 ?_
  refine lv_iload_n hx hb d_Runner_workOut_7 rfl (lv_at hl 1 rfl) ?_
  obtain ⟨g1, hf⟩ := hm_gd_some hf
  refine hq_aald hx hb hK hP 2 (by decide) (sc_s_starr (rfl)) 2 rfl rfl g1 d_Runner_workOut_8 ?_
  refine lv_astore_n (lv' := [(3, .ref (B + (5 + 4 * x1.toNatClampNeg))), (0, .ref (B + 48)), (1, .int x1), (2, .int x2)]) hx hb d_Runner_workOut_9 rfl hl (by decide) rfl (fun ls hl => ?_)
  refine lv_aload_n hx hb d_Runner_workOut_10 rfl (lv_at hl 0 rfl) ?_
  refine hq_getN hx hb hts i_Stage hown hK hP (5 + 4 * x1.toNatClampNeg) (sc_lt (sck_st g1) (by decide)) (sc_s_Stage ((sck_st g1))) rfl 0 (by decide) (hts _ sc_wd_135) (fun _ h => h) (v := .int (M (5 + 4 * x1.toNatClampNeg) 0)) rfl d_Runner_workOut_11 ?_
  refine lv_istore (lv' := [(4, .int (M (5 + 4 * x1.toNatClampNeg) 0)), (3, .ref (B + (5 + 4 * x1.toNatClampNeg))), (0, .ref (B + 48)), (1, .int x1), (2, .int x2)]) hx hb d_Runner_workOut_14 hl (by decide) rfl (fun ls hl => ?_)
  refine lv_iconst (v := 0) hx hb d_Runner_workOut_16 (by decide) ?_
  refine lv_istore (lv' := [(5, .int 0), (4, .int (M (5 + 4 * x1.toNatClampNeg) 0)), (3, .ref (B + (5 + 4 * x1.toNatClampNeg))), (0, .ref (B + 48)), (1, .int x1), (2, .int x2)]) hx hb d_Runner_workOut_17 hl (by decide) rfl (fun ls hl => ?_)
  exact w_Runner_workOutB_19 X hrc _ _ _ _ _ (sck_st g1) _ _ _ _ (lv_sub hl [3, 5, 2, 1, 0] rfl) hP hS hf
set_option maxHeartbeats 4000000 in
set_option maxRecDepth 100000 in
theorem c_Runner_workOutB {l : Launch} {D : va_G} {ca : Nat → ClassId} {B rl : Nat} {rc : hm_M → Int32 → Int32 → Option (Int32 × hm_M)} {fr lo : Nat} (hrc : ∀ (M : hm_M) (x1 x2 r : Int32) (M9 : hm_M), rc M x1 x2 = some (r, M9) → Met l y_Runner_workOut [Cond.code y_Runner_workOut b_Runner_workOut 6 (some .int)] ({ frames := fr, cells := 0, slots := 0, locals := lo } : Room) (hq_Pre D sc_cl ca 64 (sc_sh rl) B (sc_ty ca) hq_tb M hm_L0 [.ref (B + 48), .int x1, .int x2]) (hq_QI D sc_cl ca 64 (sc_sh rl) B r M9 hm_L0) 0 0 (hm_A B 64)) {r : Int32} {x1 : Int32} {x2 : Int32} {M M9 : hm_M} (hf : f_Runner_workOutB rl rc M x1 x2 = some (r, M9)) : Met l y_Runner_workOut [Cond.code y_Runner_workOut b_Runner_workOut 6 (some .int)] ({ frames := fr + 3, cells := 0, slots := 0, locals := lo + 60 } : Room) (hq_Pre D sc_cl ca 64 (sc_sh rl) B (sc_ty ca) hq_tb M hm_L0 [.ref (B + 48), .int x1, .int x2]) (hq_QI D sc_cl ca 64 (sc_sh rl) B r M9 hm_L0) 0 0 (hm_A B 64) := by
  refine Met.ofW (cc := b_Runner_workOut) (maxL := 6) (ret := (some .int)) (by decide +kernel) rfl ?_
  intro p e s m args below meth c s₁ Bd hml hv
  obtain ⟨rfl, hP, hK⟩ := hv
  have hl := lv_entry ([.ref (B + 48), .int x1, .int x2]) (n := 6) (Nat.le_of_ble_eq_true rfl)
  rw [lg_entry_eq]
  generalize (lg_sl ([.ref (B + 48), .int x1, .int x2]) ++ List.replicate (6 - (lg_sl ([.ref (B + 48), .int x1, .int x2])).length) Slot.unset).toArray = ls at hl ⊢
  have hl : lv_has ls 6 [(0, .ref (B + 48)), (1, .int x1), (2, .int x2)] := hl
  exact w_Runner_workOutB_e ⟨Bd.exec, Bd.bytes, hml, findClass_of_methodNamed Bd.named, Bd.returns, Bd.notSynchronized, hK⟩ hrc _ _ _ _ _ _ hl hP va_S.rf hf
def sc_rf : Nat → Nat
  | 0 => 0
  | n + 1 => sc_rf n + 3
def sc_rl : Nat → Nat
  | 0 => 0
  | n + 1 => sc_rl n + 60
set_option maxHeartbeats 4000000 in
theorem c_Runner_workOutN {l : Launch} {D : va_G} {ca : Nat → ClassId} {B rl : Nat} : ∀ (n : Nat), ∀ (M : hm_M) (x1 x2 r : Int32) (M9 : hm_M), f_Runner_workOut rl n M x1 x2 = some (r, M9) → Met l y_Runner_workOut [Cond.code y_Runner_workOut b_Runner_workOut 6 (some .int)] ({ frames := sc_rf n, cells := 0, slots := 0, locals := sc_rl n } : Room) (hq_Pre D sc_cl ca 64 (sc_sh rl) B (sc_ty ca) hq_tb M hm_L0 [.ref (B + 48), .int x1, .int x2]) (hq_QI D sc_cl ca 64 (sc_sh rl) B r M9 hm_L0) 0 0 (hm_A B 64) := by
  intro n
  induction n with
  | zero =>
    intro M x1 x2 r M9 hf
    cases hf
  | succ n ih =>
    intro M x1 x2 r M9 hf
    exact c_Runner_workOutB (fr := sc_rf n) (lo := sc_rl n) ih hf
theorem c_Runner_workOut {l : Launch} {D : va_G} {ca : Nat → ClassId} {B rl : Nat} {M : hm_M} {x1 x2 r : Int32} {M9 : hm_M} (hf : f_Runner_workOut rl 9 M x1 x2 = some (r, M9)) : Met l y_Runner_workOut [Cond.code y_Runner_workOut b_Runner_workOut 6 (some .int)] ({ frames := 27, cells := 0, slots := 0, locals := 540 } : Room) (hq_Pre D sc_cl ca 64 (sc_sh rl) B (sc_ty ca) hq_tb M hm_L0 [.ref (B + 48), .int x1, .int x2]) (hq_QI D sc_cl ca 64 (sc_sh rl) B r M9 hm_L0) 0 0 (hm_A B 64) := c_Runner_workOutN 9 M x1 x2 r M9 hf
set_option maxHeartbeats 4000000 in
set_option maxRecDepth 100000 in
theorem w_Runner_release_48 {p : Program} {l : Launch} {e : Env} {s : State} {m : MethodId} {args : Array Value} {below : List Frame} {meth : Method} {c : Code} {D : va_G} {ca : Nat → ClassId} {B rl : Nat} {M9 : hm_M} (X : hq_X p s m args meth c b_Runner_release R_Runner 3 none D sc_cl (sc_ty ca) hq_tb) {k2 : Int32 → Int32 → hm_M → Option hm_M} (hk2 : ∀ (x1 : Int32), ∀ (x2 : Int32), ∀ (M : hm_M) (H : Heap) (locs : List Loc) (ls : Array Slot), lv_has ls 3 [(0, .ref (B + 48)), (1, .int x1), (2, .int x2)] → hm_P D sc_cl ca 64 (sc_sh rl) B M hm_L0 H → va_S (hm_A B 64) s.heap H locs → k2 x1 x2 M = some M9 → W p l e ({ frames := 0, cells := 0, slots := 0, locals := 0 } : Room) s m args below meth c H locs 0 0 (MQ below (hq_QV D sc_cl ca 64 (sc_sh rl) B M9 hm_L0) args s 0 0 (hm_A B 64)) (F0 m 2 ls [])) : ∀ (x1 : Int32), ∀ (x2 : Int32), ∀ (y1 : Int32), ∀ (y2 : Int32), ∀ (M : hm_M) (H : Heap) (locs : List Loc) (ls : Array Slot), lv_has ls 3 [(0, .ref (B + 48)), (1, .int x1), (2, .int x2)] → hm_P D sc_cl ca 64 (sc_sh rl) B M hm_L0 H → va_S (hm_A B 64) s.heap H locs → f_Runner_release_48 k2 x1 x2 y1 y2 M = some M9 → W p l e ({ frames := 0, cells := 0, slots := 0, locals := 0 } : Room) s m args below meth c H locs 0 0 (MQ below (hq_QV D sc_cl ca 64 (sc_sh rl) B M9 hm_L0) args s 0 0 (hm_A B 64)) (F0 m 48 ls [.int y2, .int y1, .ref (B + 53)]) := by
  obtain ⟨hx, hb, hml, hown, hr, hlk, hKt⟩ := id X
  have hK := hKt.1
  have hts : ∀ w ∈ hq_tb, w.before args s = true := fun w h => hKt.2.2 w h args
  intro x1 x2 y1 y2 M H locs ls hl hP hS hf
  unfold f_Runner_release_48 at hf
  obtain ⟨g1, hf⟩ := hm_gd_some hf
  obtain ⟨g2, hf⟩ := hm_gd_some hf
  refine hq_zast hx hb hK hP hS 53 (by decide) (sc_s_za8 (rfl)) 1 rfl g1 (of_decide_eq_true g2) d_Runner_release_48 (fun H locs hP hS => ?_)
  obtain ⟨M_3, e_3, hf⟩ := hm_st_some hf
  rw [← e_3] at hP
  refine lv_iinc (v := (x2 + 1)) (lv' := [(2, .int (x2 + 1)), (0, .ref (B + 48)), (1, .int x1)]) hx hb d_Runner_release_49 hl (k := 2) rfl rfl (by decide) rfl (fun ls hl => ?_)
  refine lv_goto (tgt := 2) hx hb d_Runner_release_52 (by decide) ?_
  exact hk2 _ _ _ _ _ _ (lv_sub hl [1, 2, 0] rfl) hP hS hf
set_option maxHeartbeats 4000000 in
set_option maxRecDepth 100000 in
theorem w_Runner_release_47 {p : Program} {l : Launch} {e : Env} {s : State} {m : MethodId} {args : Array Value} {below : List Frame} {meth : Method} {c : Code} {D : va_G} {ca : Nat → ClassId} {B rl : Nat} {M9 : hm_M} (X : hq_X p s m args meth c b_Runner_release R_Runner 3 none D sc_cl (sc_ty ca) hq_tb) {k2 : Int32 → Int32 → hm_M → Option hm_M} (hk2 : ∀ (x1 : Int32), ∀ (x2 : Int32), ∀ (M : hm_M) (H : Heap) (locs : List Loc) (ls : Array Slot), lv_has ls 3 [(0, .ref (B + 48)), (1, .int x1), (2, .int x2)] → hm_P D sc_cl ca 64 (sc_sh rl) B M hm_L0 H → va_S (hm_A B 64) s.heap H locs → k2 x1 x2 M = some M9 → W p l e ({ frames := 0, cells := 0, slots := 0, locals := 0 } : Room) s m args below meth c H locs 0 0 (MQ below (hq_QV D sc_cl ca 64 (sc_sh rl) B M9 hm_L0) args s 0 0 (hm_A B 64)) (F0 m 2 ls [])) : ∀ (x1 : Int32), ∀ (x2 : Int32), ∀ (y1 : Int32), ∀ (M : hm_M) (H : Heap) (locs : List Loc) (ls : Array Slot), lv_has ls 3 [(0, .ref (B + 48)), (1, .int x1), (2, .int x2)] → hm_P D sc_cl ca 64 (sc_sh rl) B M hm_L0 H → va_S (hm_A B 64) s.heap H locs → f_Runner_release_47 k2 x1 x2 y1 M = some M9 → W p l e ({ frames := 0, cells := 0, slots := 0, locals := 0 } : Room) s m args below meth c H locs 0 0 (MQ below (hq_QV D sc_cl ca 64 (sc_sh rl) B M9 hm_L0) args s 0 0 (hm_A B 64)) (F0 m 47 ls [.int y1, .ref (B + 53)]) := by
  obtain ⟨hx, hb, hml, hown, hr, hlk, hKt⟩ := id X
  have hK := hKt.1
  have hts : ∀ w ∈ hq_tb, w.before args s = true := fun w h => hKt.2.2 w h args
  intro x1 x2 y1 M H locs ls hl hP hS hf
  unfold f_Runner_release_47 at hf
  refine lv_iconst (v := 0) hx hb d_Runner_release_47 (by decide) ?_
  exact w_Runner_release_48 X hk2 _ _ _ _ _ _ _ _ (lv_sub hl [0, 1, 2] rfl) hP hS hf
set_option maxHeartbeats 4000000 in
set_option maxRecDepth 100000 in
theorem w_Runner_release_2 {p : Program} {l : Launch} {e : Env} {s : State} {m : MethodId} {args : Array Value} {below : List Frame} {meth : Method} {c : Code} {D : va_G} {ca : Nat → ClassId} {B rl : Nat} {M9 : hm_M} (X : hq_X p s m args meth c b_Runner_release R_Runner 3 none D sc_cl (sc_ty ca) hq_tb) : ∀ (n : Nat), ∀ (x1 : Int32), ∀ (x2 : Int32), ∀ (M : hm_M) (H : Heap) (locs : List Loc) (ls : Array Slot), lv_has ls 3 [(0, .ref (B + 48)), (1, .int x1), (2, .int x2)] → hm_P D sc_cl ca 64 (sc_sh rl) B M hm_L0 H → va_S (hm_A B 64) s.heap H locs → f_Runner_release_2 n x1 x2 M = some M9 → W p l e ({ frames := 0, cells := 0, slots := 0, locals := 0 } : Room) s m args below meth c H locs 0 0 (MQ below (hq_QV D sc_cl ca 64 (sc_sh rl) B M9 hm_L0) args s 0 0 (hm_A B 64)) (F0 m 2 ls []) := by
  obtain ⟨hx, hb, hml, hown, hr, hlk, hKt⟩ := id X
  have hK := hKt.1
  have hts : ∀ w ∈ hq_tb, w.before args s = true := fun w h => hKt.2.2 w h args
  intro n
  induction n with
  | zero =>
    intro x1 x2 M H locs ls hl hP hS hf
    cases hf
  | succ n ih =>
    intro x1 x2 M H locs ls hl hP hS hf
    rw [f_Runner_release_2] at hf
    refine lv_iload_n hx hb d_Runner_release_2 rfl (lv_at hl 2 rfl) ?_
    refine lv_aload_n hx hb d_Runner_release_3 rfl (lv_at hl 0 rfl) ?_
    refine hq_get hx hb hts i_Runner hown hK hP 48 (by decide) (sc_s_Runner (rfl)) rfl 0 (by decide) (hts _ sc_wd_130) (fun _ h => h) (v := .ref (B + 1)) rfl d_Runner_release_4 ?_
    refine hq_getN hx hb hts i_Pipe hown hK hP 1 (by decide) (sc_s_Pipe (rfl)) rfl 5 (by decide) (hts _ sc_wd_149) (fun _ h => h) (v := .int (M 1 5)) rfl d_Runner_release_7 ?_
    refine lv_icmp_ge (tgt := 55) hx hb d_Runner_release_10 (by decide) (fun c1 => ?_) (fun c1 => ?_)
    · replace hf := (if_pos c1).symm.trans hf
      have h8 := Option.some.inj hf
      subst h8
      exact W.vret hx hb hr (fun t ht _ => ⟨⟨(), rfl, trivial, by subst ht; exact hP⟩, hS.F ht⟩) hS.2.2 d_Runner_release_55 hlk
    · replace hf := (if_neg c1).symm.trans hf
      refine lv_aload_n hx hb d_Runner_release_13 rfl (lv_at hl 0 rfl) ?_
      refine hq_get hx hb hts i_Runner hown hK hP 48 (by decide) (sc_s_Runner (rfl)) rfl 2 (by decide) (hts _ sc_wd_123) (fun _ h => h) (v := .ref (B + 53)) rfl d_Runner_release_14 ?_
      refine lv_iload_n hx hb d_Runner_release_17 rfl (lv_at hl 2 rfl) ?_
      refine lv_aload_n hx hb d_Runner_release_18 rfl (lv_at hl 0 rfl) ?_
      refine hq_get hx hb hts i_Runner hown hK hP 48 (by decide) (sc_s_Runner (rfl)) rfl 2 (by decide) (hts _ sc_wd_123) (fun _ h => h) (v := .ref (B + 53)) rfl d_Runner_release_19 ?_
      refine lv_iload_n hx hb d_Runner_release_22 rfl (lv_at hl 2 rfl) ?_
      obtain ⟨g2, hf⟩ := hm_gd_some hf
      refine hq_zald hx hb hK hP 53 (by decide) (sc_s_za8 (rfl)) 1 rfl g2 d_Runner_release_23 ?_
      refine lv_if_eq (tgt := 47) hx hb d_Runner_release_24 (by decide) (fun c3 => ?_) (fun c3 => ?_)
      · replace hf := (if_pos c3).symm.trans hf
        exact w_Runner_release_47 X ih _ _ _ _ _ _ _ (lv_sub hl [0, 1, 2] rfl) hP hS hf
      · replace hf := (if_neg c3).symm.trans hf
        refine lv_aload_n hx hb d_Runner_release_27 rfl (lv_at hl 0 rfl) ?_
        refine hq_get hx hb hts i_Runner hown hK hP 48 (by decide) (sc_s_Runner (rfl)) rfl 0 (by decide) (hts _ sc_wd_130) (fun _ h => h) (v := .ref (B + 1)) rfl d_Runner_release_28 ?_
        refine hq_getN hx hb hts i_Pipe hown hK hP 1 (by decide) (sc_s_Pipe (rfl)) rfl 1 (by decide) (hts _ sc_wd_134) (fun _ h => h) (v := .ref (B + 2)) rfl d_Runner_release_31 ?_
        refine lv_iload_n hx hb d_Runner_release_34 rfl (lv_at hl 2 rfl) ?_
        obtain ⟨g4, hf⟩ := hm_gd_some hf
        refine hq_aald hx hb hK hP 2 (by decide) (sc_s_starr (rfl)) 2 rfl rfl g4 d_Runner_release_35 ?_
        refine hq_getN hx hb hts i_Stage hown hK hP (5 + 4 * x2.toNatClampNeg) (sc_lt (sck_st g4) (by decide)) (sc_s_Stage ((sck_st g4))) rfl 2 (by decide) (hts _ sc_wd_150) (fun _ h => h) (v := .int (M (5 + 4 * x2.toNatClampNeg) 2)) rfl d_Runner_release_36 ?_
        refine lv_iload_n hx hb d_Runner_release_39 rfl (lv_at hl 1 rfl) ?_
        refine lv_icmp_eq (tgt := 47) hx hb d_Runner_release_40 (by decide) (fun c5 => ?_) (fun c5 => ?_)
        · replace hf := (if_pos c5).symm.trans hf
          exact w_Runner_release_47 X ih _ _ _ _ _ _ _ (lv_sub hl [0, 1, 2] rfl) hP hS hf
        · replace hf := (if_neg c5).symm.trans hf
          refine lv_iconst (v := 1) hx hb d_Runner_release_43 (by decide) ?_
          refine lv_goto (tgt := 48) hx hb d_Runner_release_44 (by decide) ?_
          exact w_Runner_release_48 X ih _ _ _ _ _ _ _ _ (lv_sub hl [0, 1, 2] rfl) hP hS hf
set_option maxHeartbeats 4000000 in
set_option maxRecDepth 100000 in
theorem w_Runner_release_e {p : Program} {l : Launch} {e : Env} {s : State} {m : MethodId} {args : Array Value} {below : List Frame} {meth : Method} {c : Code} {D : va_G} {ca : Nat → ClassId} {B rl : Nat} {M9 : hm_M} (X : hq_X p s m args meth c b_Runner_release R_Runner 3 none D sc_cl (sc_ty ca) hq_tb) : ∀ (x1 : Int32), ∀ (M : hm_M) (H : Heap) (locs : List Loc) (ls : Array Slot), lv_has ls 3 [(0, .ref (B + 48)), (1, .int x1)] → hm_P D sc_cl ca 64 (sc_sh rl) B M hm_L0 H → va_S (hm_A B 64) s.heap H locs → f_Runner_release M x1 = some M9 → W p l e ({ frames := 0, cells := 0, slots := 0, locals := 0 } : Room) s m args below meth c H locs 0 0 (MQ below (hq_QV D sc_cl ca 64 (sc_sh rl) B M9 hm_L0) args s 0 0 (hm_A B 64)) (F0 m 0 ls []) := by
  obtain ⟨hx, hb, hml, hown, hr, hlk, hKt⟩ := id X
  have hK := hKt.1
  have hts : ∀ w ∈ hq_tb, w.before args s = true := fun w h => hKt.2.2 w h args
  intro x1 M H locs ls hl hP hS hf
  unfold f_Runner_release at hf
  refine lv_iconst (v := 0) hx hb d_Runner_release_0 (by decide) ?_
  refine lv_istore_n (lv' := [(2, .int 0), (0, .ref (B + 48)), (1, .int x1)]) hx hb d_Runner_release_1 rfl hl (by decide) rfl (fun ls hl => ?_)
  exact w_Runner_release_2 X _ _ _ _ _ _ _ (lv_sub hl [1, 2, 0] rfl) hP hS hf
set_option maxHeartbeats 4000000 in
set_option maxRecDepth 100000 in
theorem c_Runner_release {l : Launch} {D : va_G} {ca : Nat → ClassId} {B rl : Nat} {x1 : Int32} {M M9 : hm_M} (hf : f_Runner_release M x1 = some M9) : Met l y_Runner_release [Cond.code y_Runner_release b_Runner_release 3 none] ({ frames := 0, cells := 0, slots := 0, locals := 0 } : Room) (hq_Pre D sc_cl ca 64 (sc_sh rl) B (sc_ty ca) hq_tb M hm_L0 [.ref (B + 48), .int x1]) (hq_QV D sc_cl ca 64 (sc_sh rl) B M9 hm_L0) 0 0 (hm_A B 64) := by
  refine Met.ofW (cc := b_Runner_release) (maxL := 3) (ret := none) (by decide +kernel) rfl ?_
  intro p e s m args below meth c s₁ Bd hml hv
  obtain ⟨rfl, hP, hK⟩ := hv
  have hl := lv_entry ([.ref (B + 48), .int x1]) (n := 3) (Nat.le_of_ble_eq_true rfl)
  rw [lg_entry_eq]
  generalize (lg_sl ([.ref (B + 48), .int x1]) ++ List.replicate (3 - (lg_sl ([.ref (B + 48), .int x1])).length) Slot.unset).toArray = ls at hl ⊢
  have hl : lv_has ls 3 [(0, .ref (B + 48)), (1, .int x1)] := hl
  exact w_Runner_release_e ⟨Bd.exec, Bd.bytes, hml, findClass_of_methodNamed Bd.named, Bd.returns, Bd.notSynchronized, hK⟩  _ _ _ _ _ hl hP va_S.rf hf
set_option maxHeartbeats 4000000 in
set_option maxRecDepth 100000 in
theorem w_Runner_keep_92 {p : Program} {l : Launch} {e : Env} {s : State} {m : MethodId} {args : Array Value} {below : List Frame} {meth : Method} {c : Code} {D : va_G} {ca : Nat → ClassId} {B rl : Nat} {M9 : hm_M} (X : hq_X p s m args meth c b_Runner_keep R_Runner 5 none D sc_cl (sc_ty ca) hq_tb) {k2 : Nat → Int32 → Int32 → hm_M → Option hm_M} (hk2 : ∀ (a1 : Nat), ∀ (x2 : Int32), ∀ (x3 : Int32), sc_kd a1 = 8 → ∀ (M : hm_M) (H : Heap) (locs : List Loc) (ls : Array Slot), lv_has ls 5 [(0, .ref (B + 48)), (1, .ref (B + a1)), (2, .int x2), (3, .int x3)] → hm_P D sc_cl ca 64 (sc_sh rl) B M hm_L0 H → va_S (hm_A B 64) s.heap H locs → k2 a1 x2 x3 M = some M9 → W p l e ({ frames := 28, cells := 0, slots := 0, locals := 565 } : Room) s m args below meth c H locs 0 0 (MQ below (hq_QV D sc_cl ca 64 (sc_sh rl) B M9 hm_L0) args s 0 0 (hm_A B 64)) (F0 m 2 ls [])) : ∀ (a1 : Nat), ∀ (x2 : Int32), ∀ (x3 : Int32), sc_kd a1 = 8 → ∀ (M : hm_M) (H : Heap) (locs : List Loc) (ls : Array Slot), lv_has ls 5 [(0, .ref (B + 48)), (1, .ref (B + a1)), (2, .int x2), (3, .int x3)] → hm_P D sc_cl ca 64 (sc_sh rl) B M hm_L0 H → va_S (hm_A B 64) s.heap H locs → f_Runner_keep_92 rl k2 a1 x2 x3 M = some M9 → W p l e ({ frames := 28, cells := 0, slots := 0, locals := 565 } : Room) s m args below meth c H locs 0 0 (MQ below (hq_QV D sc_cl ca 64 (sc_sh rl) B M9 hm_L0) args s 0 0 (hm_A B 64)) (F0 m 92 ls []) := by
  obtain ⟨hx, hb, hml, hown, hr, hlk, hKt⟩ := id X
  have hK := hKt.1
  have hts : ∀ w ∈ hq_tb, w.before args s = true := fun w h => hKt.2.2 w h args
  intro a1 x2 x3 h_a1 M H locs ls hl hP hS hf
  unfold f_Runner_keep_92 at hf
  refine lv_iinc (v := (x3 + 1)) (lv' := [(3, .int (x3 + 1)), (0, .ref (B + 48)), (1, .ref (B + a1)), (2, .int x2)]) hx hb d_Runner_keep_92 hl (k := 3) rfl rfl (by decide) rfl (fun ls hl => ?_)
  refine lv_goto (tgt := 2) hx hb d_Runner_keep_95 (by decide) ?_
  exact hk2 _ _ _ h_a1 _ _ _ _ (lv_sub hl [1, 2, 3, 0] rfl) hP hS hf
set_option maxHeartbeats 4000000 in
set_option maxRecDepth 100000 in
theorem w_Runner_keep_49 {p : Program} {l : Launch} {e : Env} {s : State} {m : MethodId} {args : Array Value} {below : List Frame} {meth : Method} {c : Code} {D : va_G} {ca : Nat → ClassId} {B rl : Nat} {M9 : hm_M} (X : hq_X p s m args meth c b_Runner_keep R_Runner 5 none D sc_cl (sc_ty ca) hq_tb) {k2 : Nat → Int32 → Int32 → hm_M → Option hm_M} (hk2 : ∀ (a1 : Nat), ∀ (x2 : Int32), ∀ (x3 : Int32), sc_kd a1 = 8 → ∀ (M : hm_M) (H : Heap) (locs : List Loc) (ls : Array Slot), lv_has ls 5 [(0, .ref (B + 48)), (1, .ref (B + a1)), (2, .int x2), (3, .int x3)] → hm_P D sc_cl ca 64 (sc_sh rl) B M hm_L0 H → va_S (hm_A B 64) s.heap H locs → k2 a1 x2 x3 M = some M9 → W p l e ({ frames := 28, cells := 0, slots := 0, locals := 565 } : Room) s m args below meth c H locs 0 0 (MQ below (hq_QV D sc_cl ca 64 (sc_sh rl) B M9 hm_L0) args s 0 0 (hm_A B 64)) (F0 m 2 ls [])) : ∀ (n : Nat), ∀ (a1 : Nat), ∀ (x2 : Int32), ∀ (x3 : Int32), ∀ (x4 : Int32), sc_kd a1 = 8 → ∀ (M : hm_M) (H : Heap) (locs : List Loc) (ls : Array Slot), lv_has ls 5 [(0, .ref (B + 48)), (1, .ref (B + a1)), (2, .int x2), (3, .int x3), (4, .int x4)] → hm_P D sc_cl ca 64 (sc_sh rl) B M hm_L0 H → va_S (hm_A B 64) s.heap H locs → f_Runner_keep_49 rl k2 n a1 x2 x3 x4 M = some M9 → W p l e ({ frames := 28, cells := 0, slots := 0, locals := 565 } : Room) s m args below meth c H locs 0 0 (MQ below (hq_QV D sc_cl ca 64 (sc_sh rl) B M9 hm_L0) args s 0 0 (hm_A B 64)) (F0 m 49 ls []) := by
  obtain ⟨hx, hb, hml, hown, hr, hlk, hKt⟩ := id X
  have hK := hKt.1
  have hts : ∀ w ∈ hq_tb, w.before args s = true := fun w h => hKt.2.2 w h args
  intro n
  induction n with
  | zero =>
    intro a1 x2 x3 x4 h_a1 M H locs ls hl hP hS hf
    cases hf
  | succ n ih =>
    intro a1 x2 x3 x4 h_a1 M H locs ls hl hP hS hf
    rw [f_Runner_keep_49] at hf
    refine lv_iload hx hb d_Runner_keep_49 (lv_at hl 4 rfl) ?_
    refine lv_aload_n hx hb d_Runner_keep_51 rfl (lv_at hl 1 rfl) ?_
    refine hq_getN hx hb hts i_Needs hown hK hP a1 (sc_lt h_a1 (by decide)) (sc_s_Needs (h_a1)) rfl 2 (by decide) (hts _ sc_wd_153) (fun _ h => h) (v := .ref (B + (a1 + 3))) rfl d_Runner_keep_52 ?_
    refine lv_iload_n hx hb d_Runner_keep_55 rfl (lv_at hl 3 rfl) ?_
    obtain ⟨g1, hf⟩ := hm_gd_some hf
    refine hq_iald hx hb hK hP (a1 + 3) (sc_lt (sck_Needs3 h_a1) (by decide)) (sc_s_ia8 ((sck_Needs3 h_a1))) 0 rfl g1 d_Runner_keep_56 ?_
    refine lv_icmp_gt (tgt := 85) hx hb d_Runner_keep_57 (by decide) (fun c2 => ?_) (fun c2 => ?_)
    · replace hf := (if_pos c2).symm.trans hf
      refine lv_aload_n hx hb d_Runner_keep_85 rfl (lv_at hl 0 rfl) ?_
      refine hq_get hx hb hts i_Runner hown hK hP 48 (by decide) (sc_s_Runner (rfl)) rfl 2 (by decide) (hts _ sc_wd_123) (fun _ h => h) (v := .ref (B + 53)) rfl d_Runner_keep_86 ?_
      refine lv_iload_n hx hb d_Runner_keep_89 rfl (lv_at hl 3 rfl) ?_
      refine lv_iconst (v := 1) hx hb d_Runner_keep_90 (by decide) ?_
      obtain ⟨g3, hf⟩ := hm_gd_some hf
      refine hq_zast hx hb hK hP hS 53 (by decide) (sc_s_za8 (rfl)) 1 rfl g3 (Or.inr rfl) d_Runner_keep_91 (fun H locs hP hS => ?_)
      obtain ⟨M_4, e_4, hf⟩ := hm_st_some hf
      rw [← e_4] at hP
      exact w_Runner_keep_92 X hk2 _ _ _ h_a1 _ _ _ _ (lv_sub hl [0, 1, 2, 3] rfl) hP hS hf
    · replace hf := (if_neg c2).symm.trans hf
      refine lv_aload_n hx hb d_Runner_keep_60 rfl (lv_at hl 0 rfl) ?_
      refine hq_get hx hb hts i_Runner hown hK hP 48 (by decide) (sc_s_Runner (rfl)) rfl 3 (by decide) (hts _ sc_wd_129) (fun _ h => h) (v := .ref (B + 54)) rfl d_Runner_keep_61 ?_
      refine lv_iload_n hx hb d_Runner_keep_64 rfl (lv_at hl 3 rfl) ?_
      obtain ⟨g5, hf⟩ := hm_gd_some hf
      refine hq_aald hx hb hK hP 54 (by decide) (sc_s_grid (rfl)) 3 rfl rfl g5 d_Runner_keep_65 ?_
      refine lv_iload hx hb d_Runner_keep_66 (lv_at hl 4 rfl) ?_
      refine lv_bipush (v := 28) hx hb d_Runner_keep_68 (by decide) ?_
      refine lv_iadd hx hb d_Runner_keep_70 ?_
      refine lv_aload_n hx hb d_Runner_keep_71 rfl (lv_at hl 0 rfl) ?_
      refine lv_iload_n hx hb d_Runner_keep_72 rfl (lv_at hl 3 rfl) ?_
      refine lv_iload hx hb d_Runner_keep_73 (lv_at hl 4 rfl) ?_
      obtain ⟨r6, M_7, hc8, hf⟩ := hm_bI_some hf
      refine hq_callI (va_runV (As := [.int x3, .int x4]) (rest := [.int (x4 + 28), .ref (B + (55 + x3.toNatClampNeg))]) ⟨hx, hb, hml, hown, hts⟩ (c_Runner_workOut (l := l) (D := D) (ca := ca) (B := B) (rl := rl)  hc8) (hq_cwV (nn := 2) hts sc_wd_124 sc_wd_125 sc_wd_126 sc_wd_127 sc_wd_128 (by decide +kernel) rfl rfl ⟨(Nat.le_of_ble_eq_true rfl), (Nat.le_of_ble_eq_true rfl)⟩) (hq_preV hKt hP (by decide) (sc_s_Runner (rfl)) rfl) rfl rfl hl.1 rfl (lv_room (Nat.le_of_ble_eq_true rfl)) d_Runner_keep_75 ⟨(Nat.le_of_ble_eq_true rfl), (Nat.le_of_ble_eq_true rfl)⟩) hS (fun H locs hP hS => ?_)
      obtain ⟨g9, hf⟩ := hm_gd_some hf
      refine hq_iast hx hb hK hP hS (55 + x3.toNatClampNeg) (sc_lt (sck_gr g5) (by decide)) (sc_s_ia88 ((sck_gr g5))) 0 rfl g9 d_Runner_keep_78 (fun H locs hP hS => ?_)
      obtain ⟨M_10, e_10, hf⟩ := hm_st_some hf
      rw [← e_10] at hP
      refine lv_iinc (v := (x4 + 1)) (lv' := [(4, .int (x4 + 1)), (0, .ref (B + 48)), (1, .ref (B + a1)), (2, .int x2), (3, .int x3)]) hx hb d_Runner_keep_79 hl (k := 4) rfl rfl (by decide) rfl (fun ls hl => ?_)
      refine lv_goto (tgt := 49) hx hb d_Runner_keep_82 (by decide) ?_
      exact ih _ _ _ _ h_a1 _ _ _ _ (lv_sub hl [1, 2, 3, 4, 0] rfl) hP hS hf
set_option maxHeartbeats 4000000 in
set_option maxRecDepth 100000 in
theorem w_Runner_keep_2 {p : Program} {l : Launch} {e : Env} {s : State} {m : MethodId} {args : Array Value} {below : List Frame} {meth : Method} {c : Code} {D : va_G} {ca : Nat → ClassId} {B rl : Nat} {M9 : hm_M} (X : hq_X p s m args meth c b_Runner_keep R_Runner 5 none D sc_cl (sc_ty ca) hq_tb) : ∀ (n : Nat), ∀ (a1 : Nat), ∀ (x2 : Int32), ∀ (x3 : Int32), sc_kd a1 = 8 → ∀ (M : hm_M) (H : Heap) (locs : List Loc) (ls : Array Slot), lv_has ls 5 [(0, .ref (B + 48)), (1, .ref (B + a1)), (2, .int x2), (3, .int x3)] → hm_P D sc_cl ca 64 (sc_sh rl) B M hm_L0 H → va_S (hm_A B 64) s.heap H locs → f_Runner_keep_2 rl n a1 x2 x3 M = some M9 → W p l e ({ frames := 28, cells := 0, slots := 0, locals := 565 } : Room) s m args below meth c H locs 0 0 (MQ below (hq_QV D sc_cl ca 64 (sc_sh rl) B M9 hm_L0) args s 0 0 (hm_A B 64)) (F0 m 2 ls []) := by
  obtain ⟨hx, hb, hml, hown, hr, hlk, hKt⟩ := id X
  have hK := hKt.1
  have hts : ∀ w ∈ hq_tb, w.before args s = true := fun w h => hKt.2.2 w h args
  intro n
  induction n with
  | zero =>
    intro a1 x2 x3 h_a1 M H locs ls hl hP hS hf
    cases hf
  | succ n ih =>
    intro a1 x2 x3 h_a1 M H locs ls hl hP hS hf
    rw [f_Runner_keep_2] at hf
    refine lv_iload_n hx hb d_Runner_keep_2 rfl (lv_at hl 3 rfl) ?_
    refine lv_aload_n hx hb d_Runner_keep_3 rfl (lv_at hl 0 rfl) ?_
    refine hq_get hx hb hts i_Runner hown hK hP 48 (by decide) (sc_s_Runner (rfl)) rfl 0 (by decide) (hts _ sc_wd_130) (fun _ h => h) (v := .ref (B + 1)) rfl d_Runner_keep_4 ?_
    refine hq_getN hx hb hts i_Pipe hown hK hP 1 (by decide) (sc_s_Pipe (rfl)) rfl 5 (by decide) (hts _ sc_wd_149) (fun _ h => h) (v := .int (M 1 5)) rfl d_Runner_keep_7 ?_
    refine lv_icmp_ge (tgt := 98) hx hb d_Runner_keep_10 (by decide) (fun c1 => ?_) (fun c1 => ?_)
    · replace hf := (if_pos c1).symm.trans hf
      have h8 := Option.some.inj hf
      subst h8
      exact W.vret hx hb hr (fun t ht _ => ⟨⟨(), rfl, trivial, by subst ht; exact hP⟩, hS.F ht⟩) hS.2.2 d_Runner_keep_98 hlk
    · replace hf := (if_neg c1).symm.trans hf
      refine lv_aload_n hx hb d_Runner_keep_13 rfl (lv_at hl 1 rfl) ?_
      refine hq_getN hx hb hts i_Needs hown hK hP a1 (sc_lt h_a1 (by decide)) (sc_s_Needs (h_a1)) rfl 0 (by decide) (hts _ sc_wd_151) (fun _ h => h) (v := .ref (B + (a1 + 1))) rfl d_Runner_keep_14 ?_
      refine lv_iload_n hx hb d_Runner_keep_17 rfl (lv_at hl 3 rfl) ?_
      obtain ⟨g2, hf⟩ := hm_gd_some hf
      refine hq_zald hx hb hK hP (a1 + 1) (sc_lt (sck_Needs1 h_a1) (by decide)) (sc_s_za8 ((sck_Needs1 h_a1))) 1 rfl g2 d_Runner_keep_18 ?_
      refine lv_if_eq (tgt := 92) hx hb d_Runner_keep_19 (by decide) (fun c3 => ?_) (fun c3 => ?_)
      · replace hf := (if_pos c3).symm.trans hf
        exact w_Runner_keep_92 X ih _ _ _ h_a1 _ _ _ _ (lv_sub hl [0, 1, 2, 3] rfl) hP hS hf
      · replace hf := (if_neg c3).symm.trans hf
        refine lv_aload_n hx hb d_Runner_keep_22 rfl (lv_at hl 0 rfl) ?_
        refine hq_get hx hb hts i_Runner hown hK hP 48 (by decide) (sc_s_Runner (rfl)) rfl 0 (by decide) (hts _ sc_wd_130) (fun _ h => h) (v := .ref (B + 1)) rfl d_Runner_keep_23 ?_
        refine hq_getN hx hb hts i_Pipe hown hK hP 1 (by decide) (sc_s_Pipe (rfl)) rfl 1 (by decide) (hts _ sc_wd_134) (fun _ h => h) (v := .ref (B + 2)) rfl d_Runner_keep_26 ?_
        refine lv_iload_n hx hb d_Runner_keep_29 rfl (lv_at hl 3 rfl) ?_
        obtain ⟨g4, hf⟩ := hm_gd_some hf
        refine hq_aald hx hb hK hP 2 (by decide) (sc_s_starr (rfl)) 2 rfl rfl g4 d_Runner_keep_30 ?_
        refine hq_getN hx hb hts i_Stage hown hK hP (5 + 4 * x3.toNatClampNeg) (sc_lt (sck_st g4) (by decide)) (sc_s_Stage ((sck_st g4))) rfl 2 (by decide) (hts _ sc_wd_150) (fun _ h => h) (v := .int (M (5 + 4 * x3.toNatClampNeg) 2)) rfl d_Runner_keep_31 ?_
        refine lv_iload_n hx hb d_Runner_keep_34 rfl (lv_at hl 2 rfl) ?_
        refine lv_icmp_eq (tgt := 41) hx hb d_Runner_keep_35 (by decide) (fun c5 => ?_) (fun c5 => ?_)
        · replace hf := (if_pos c5).symm.trans hf
          refine lv_aload_n hx hb d_Runner_keep_41 rfl (lv_at hl 1 rfl) ?_
          refine hq_getN hx hb hts i_Needs hown hK hP a1 (sc_lt h_a1 (by decide)) (sc_s_Needs (h_a1)) rfl 1 (by decide) (hts _ sc_wd_152) (fun _ h => h) (v := .ref (B + (a1 + 2))) rfl d_Runner_keep_42 ?_
          refine lv_iload_n hx hb d_Runner_keep_45 rfl (lv_at hl 3 rfl) ?_
          obtain ⟨g6, hf⟩ := hm_gd_some hf
          refine hq_iald hx hb hK hP (a1 + 2) (sc_lt (sck_Needs2 h_a1) (by decide)) (sc_s_ia8 ((sck_Needs2 h_a1))) 0 rfl g6 d_Runner_keep_46 ?_
          refine lv_istore (lv' := [(4, .int (M (a1 + 2) x3.toNatClampNeg)), (0, .ref (B + 48)), (1, .ref (B + a1)), (2, .int x2), (3, .int x3)]) hx hb d_Runner_keep_47 hl (by decide) rfl (fun ls hl => ?_)
          exact w_Runner_keep_49 X ih _ _ _ _ _ h_a1 _ _ _ _ (lv_sub hl [1, 2, 3, 4, 0] rfl) hP hS hf
        · replace hf := (if_neg c5).symm.trans hf
          refine lv_goto (tgt := 92) hx hb d_Runner_keep_38 (by decide) ?_
          exact w_Runner_keep_92 X ih _ _ _ h_a1 _ _ _ _ (lv_sub hl [0, 1, 2, 3] rfl) hP hS hf
set_option maxHeartbeats 4000000 in
set_option maxRecDepth 100000 in
theorem w_Runner_keep_e {p : Program} {l : Launch} {e : Env} {s : State} {m : MethodId} {args : Array Value} {below : List Frame} {meth : Method} {c : Code} {D : va_G} {ca : Nat → ClassId} {B rl : Nat} {M9 : hm_M} (X : hq_X p s m args meth c b_Runner_keep R_Runner 5 none D sc_cl (sc_ty ca) hq_tb) : ∀ (a1 : Nat), ∀ (x2 : Int32), sc_kd a1 = 8 → ∀ (M : hm_M) (H : Heap) (locs : List Loc) (ls : Array Slot), lv_has ls 5 [(0, .ref (B + 48)), (1, .ref (B + a1)), (2, .int x2)] → hm_P D sc_cl ca 64 (sc_sh rl) B M hm_L0 H → va_S (hm_A B 64) s.heap H locs → f_Runner_keep rl M a1 x2 = some M9 → W p l e ({ frames := 28, cells := 0, slots := 0, locals := 565 } : Room) s m args below meth c H locs 0 0 (MQ below (hq_QV D sc_cl ca 64 (sc_sh rl) B M9 hm_L0) args s 0 0 (hm_A B 64)) (F0 m 0 ls []) := by
  obtain ⟨hx, hb, hml, hown, hr, hlk, hKt⟩ := id X
  have hK := hKt.1
  have hts : ∀ w ∈ hq_tb, w.before args s = true := fun w h => hKt.2.2 w h args
  intro a1 x2 h_a1 M H locs ls hl hP hS hf
  unfold f_Runner_keep at hf
  refine lv_iconst (v := 0) hx hb d_Runner_keep_0 (by decide) ?_
  refine lv_istore_n (lv' := [(3, .int 0), (0, .ref (B + 48)), (1, .ref (B + a1)), (2, .int x2)]) hx hb d_Runner_keep_1 rfl hl (by decide) rfl (fun ls hl => ?_)
  exact w_Runner_keep_2 X _ _ _ _ h_a1 _ _ _ _ (lv_sub hl [1, 2, 3, 0] rfl) hP hS hf
set_option maxHeartbeats 4000000 in
set_option maxRecDepth 100000 in
theorem c_Runner_keep {l : Launch} {D : va_G} {ca : Nat → ClassId} {B rl : Nat} {a1 : Nat} {x2 : Int32} (h_a1 : sc_kd a1 = 8) {M M9 : hm_M} (hf : f_Runner_keep rl M a1 x2 = some M9) : Met l y_Runner_keep [Cond.code y_Runner_keep b_Runner_keep 5 none] ({ frames := 28, cells := 0, slots := 0, locals := 565 } : Room) (hq_Pre D sc_cl ca 64 (sc_sh rl) B (sc_ty ca) hq_tb M hm_L0 [.ref (B + 48), .ref (B + a1), .int x2]) (hq_QV D sc_cl ca 64 (sc_sh rl) B M9 hm_L0) 0 0 (hm_A B 64) := by
  refine Met.ofW (cc := b_Runner_keep) (maxL := 5) (ret := none) (by decide +kernel) rfl ?_
  intro p e s m args below meth c s₁ Bd hml hv
  obtain ⟨rfl, hP, hK⟩ := hv
  have hl := lv_entry ([.ref (B + 48), .ref (B + a1), .int x2]) (n := 5) (Nat.le_of_ble_eq_true rfl)
  rw [lg_entry_eq]
  generalize (lg_sl ([.ref (B + 48), .ref (B + a1), .int x2]) ++ List.replicate (5 - (lg_sl ([.ref (B + 48), .ref (B + a1), .int x2])).length) Slot.unset).toArray = ls at hl ⊢
  have hl : lv_has ls 5 [(0, .ref (B + 48)), (1, .ref (B + a1)), (2, .int x2)] := hl
  exact w_Runner_keep_e ⟨Bd.exec, Bd.bytes, hml, findClass_of_methodNamed Bd.named, Bd.returns, Bd.notSynchronized, hK⟩  _ _ h_a1 _ _ _ _ hl hP va_S.rf hf
set_option maxHeartbeats 4000000 in
set_option maxRecDepth 100000 in
theorem w_Runner_runTile_24 {p : Program} {l : Launch} {e : Env} {s : State} {m : MethodId} {args : Array Value} {below : List Frame} {meth : Method} {c : Code} {D : va_G} {ca : Nat → ClassId} {B rl : Nat} {M9 : hm_M} (X : hq_X p s m args meth c b_Runner_runTile R_Runner 4 none D sc_cl (sc_ty ca) hq_tb) : ∀ (n : Nat), ∀ (x2 : Int32), ∀ (x3 : Int32), ∀ (M : hm_M) (H : Heap) (locs : List Loc) (ls : Array Slot), lv_has ls 4 [(0, .ref (B + 48)), (2, .int x2), (3, .int x3)] → hm_P D sc_cl ca 64 (sc_sh rl) B M hm_L0 H → va_S (hm_A B 64) s.heap H locs → f_Runner_runTile_24 rl n x2 x3 M = some M9 → W p l e ({ frames := 29, cells := 0, slots := 0, locals := 589 } : Room) s m args below meth c H locs 0 0 (MQ below (hq_QV D sc_cl ca 64 (sc_sh rl) B M9 hm_L0) args s 0 0 (hm_A B 64)) (F0 m 24 ls []) := by
  obtain ⟨hx, hb, hml, hown, hr, hlk, hKt⟩ := id X
  have hK := hKt.1
  have hts : ∀ w ∈ hq_tb, w.before args s = true := fun w h => hKt.2.2 w h args
  intro n
  induction n with
  | zero =>
    intro x2 x3 M H locs ls hl hP hS hf
    cases hf
  | succ n ih =>
    intro x2 x3 M H locs ls hl hP hS hf
    rw [f_Runner_runTile_24] at hf
    refine lv_iload_n hx hb d_Runner_runTile_24 rfl (lv_at hl 2 rfl) ?_
    refine lv_iload_n hx hb d_Runner_runTile_25 rfl (lv_at hl 1 rfl) ?_
    refine lv_icmp_gt (tgt := 53) hx hb d_Runner_runTile_26 (by decide) (fun c1 => ?_) (fun c1 => ?_)
    · replace hf := (if_pos c1).symm.trans hf
      refine lv_aload_n hx hb d_Runner_runTile_53 rfl (lv_at hl 0 rfl) ?_
      refine lv_iconst (v := 2) hx hb d_Runner_runTile_54 (by decide) ?_
      obtain ⟨M_3, hc4, hf⟩ := hm_bV_some hf
      refine hq_callV (va_runV (As := [.int 2]) (rest := []) ⟨hx, hb, hml, hown, hts⟩ (c_Runner_release (l := l) (D := D) (ca := ca) (B := B) (rl := rl)  hc4) (hq_cwV (nn := 1) hts sc_wd_160 sc_wd_125 sc_wd_161 sc_wd_162 sc_wd_163 (by decide +kernel) rfl rfl ⟨(Nat.le_of_ble_eq_true rfl), (Nat.le_of_ble_eq_true rfl)⟩) (hq_preV hKt hP (by decide) (sc_s_Runner (rfl)) rfl) rfl rfl hl.1 rfl (lv_room (Nat.le_of_ble_eq_true rfl)) d_Runner_runTile_55 ⟨(Nat.le_of_ble_eq_true rfl), (Nat.le_of_ble_eq_true rfl)⟩) hS (fun H locs hP hS => ?_)
      have h8 := Option.some.inj hf
      subst h8
      exact W.vret hx hb hr (fun t ht _ => ⟨⟨(), rfl, trivial, by subst ht; exact hP⟩, hS.F ht⟩) hS.2.2 d_Runner_runTile_58 hlk
    · replace hf := (if_neg c1).symm.trans hf
      refine lv_aload_n hx hb d_Runner_runTile_29 rfl (lv_at hl 0 rfl) ?_
      refine hq_get hx hb hts i_Runner hown hK hP 48 (by decide) (sc_s_Runner (rfl)) rfl 4 (by decide) (hts _ sc_wd_164) (fun _ h => h) (v := .ref (B + 63)) rfl d_Runner_runTile_30 ?_
      refine lv_iload_n hx hb d_Runner_runTile_33 rfl (lv_at hl 2 rfl) ?_
      refine lv_aload_n hx hb d_Runner_runTile_34 rfl (lv_at hl 0 rfl) ?_
      refine lv_aload_n hx hb d_Runner_runTile_35 rfl (lv_at hl 0 rfl) ?_
      refine hq_get hx hb hts i_Runner hown hK hP 48 (by decide) (sc_s_Runner (rfl)) rfl 0 (by decide) (hts _ sc_wd_130) (fun _ h => h) (v := .ref (B + 1)) rfl d_Runner_runTile_36 ?_
      refine hq_getN hx hb hts i_Pipe hown hK hP 1 (by decide) (sc_s_Pipe (rfl)) rfl 5 (by decide) (hts _ sc_wd_149) (fun _ h => h) (v := .int (M 1 5)) rfl d_Runner_runTile_39 ?_
      refine lv_iload_n hx hb d_Runner_runTile_42 rfl (lv_at hl 2 rfl) ?_
      obtain ⟨r5, M_6, hc7, hf⟩ := hm_bI_some hf
      refine hq_callI (va_runV (As := [.int (M 1 5), .int x3]) (rest := [.int x3, .ref (B + 63)]) ⟨hx, hb, hml, hown, hts⟩ (c_Runner_workOut (l := l) (D := D) (ca := ca) (B := B) (rl := rl)  hc7) (hq_cwV (nn := 2) hts sc_wd_124 sc_wd_125 sc_wd_126 sc_wd_127 sc_wd_128 (by decide +kernel) rfl rfl ⟨(Nat.le_of_ble_eq_true rfl), (Nat.le_of_ble_eq_true rfl)⟩) (hq_preV hKt hP (by decide) (sc_s_Runner (rfl)) rfl) rfl rfl hl.1 rfl (lv_room (Nat.le_of_ble_eq_true rfl)) d_Runner_runTile_43 ⟨(Nat.le_of_ble_eq_true rfl), (Nat.le_of_ble_eq_true rfl)⟩) hS (fun H locs hP hS => ?_)
      obtain ⟨g8, hf⟩ := hm_gd_some hf
      refine hq_iast hx hb hK hP hS 63 (by decide) (sc_s_ia32 (rfl)) 0 rfl g8 d_Runner_runTile_46 (fun H locs hP hS => ?_)
      obtain ⟨M_9, e_9, hf⟩ := hm_st_some hf
      rw [← e_9] at hP
      refine lv_iinc (v := (x3 + 1)) (lv' := [(3, .int (x3 + 1)), (0, .ref (B + 48)), (2, .int x2)]) hx hb d_Runner_runTile_47 hl (k := 2) rfl rfl (by decide) rfl (fun ls hl => ?_)
      refine lv_goto (tgt := 24) hx hb d_Runner_runTile_50 (by decide) ?_
      exact ih _ _ _ _ _ _ (lv_sub hl [1, 2, 0] rfl) hP hS hf
set_option maxHeartbeats 4000000 in
set_option maxRecDepth 100000 in
theorem w_Runner_runTile_e {p : Program} {l : Launch} {e : Env} {s : State} {m : MethodId} {args : Array Value} {below : List Frame} {meth : Method} {c : Code} {D : va_G} {ca : Nat → ClassId} {B rl : Nat} {M9 : hm_M} (X : hq_X p s m args meth c b_Runner_runTile R_Runner 4 none D sc_cl (sc_ty ca) hq_tb) : ∀ (x1 : Int32), ∀ (x2 : Int32), ∀ (M : hm_M) (H : Heap) (locs : List Loc) (ls : Array Slot), lv_has ls 4 [(0, .ref (B + 48)), (1, .int x1), (2, .int x2)] → hm_P D sc_cl ca 64 (sc_sh rl) B M hm_L0 H → va_S (hm_A B 64) s.heap H locs → f_Runner_runTile rl M x1 x2 = some M9 → W p l e ({ frames := 29, cells := 0, slots := 0, locals := 589 } : Room) s m args below meth c H locs 0 0 (MQ below (hq_QV D sc_cl ca 64 (sc_sh rl) B M9 hm_L0) args s 0 0 (hm_A B 64)) (F0 m 0 ls []) := by
  obtain ⟨hx, hb, hml, hown, hr, hlk, hKt⟩ := id X
  have hK := hKt.1
  have hts : ∀ w ∈ hq_tb, w.before args s = true := fun w h => hKt.2.2 w h args
  intro x1 x2 M H locs ls hl hP hS hf
  unfold f_Runner_runTile at hf
  refine lv_aload_n hx hb d_Runner_runTile_0 rfl (lv_at hl 0 rfl) ?_
  refine hq_get hx hb hts i_Runner hown hK hP 48 (by decide) (sc_s_Runner (rfl)) rfl 1 (by decide) (hts _ sc_wd_154) (fun _ h => h) (v := .ref (B + 49)) rfl d_Runner_runTile_1 ?_
  refine lv_aload_n hx hb d_Runner_runTile_4 rfl (lv_at hl 0 rfl) ?_
  refine hq_get hx hb hts i_Runner hown hK hP 48 (by decide) (sc_s_Runner (rfl)) rfl 0 (by decide) (hts _ sc_wd_130) (fun _ h => h) (v := .ref (B + 1)) rfl d_Runner_runTile_5 ?_
  refine lv_iload_n hx hb d_Runner_runTile_8 rfl (lv_at hl 1 rfl) ?_
  refine lv_iload_n hx hb d_Runner_runTile_9 rfl (lv_at hl 2 rfl) ?_
  obtain ⟨M_2, hc3, hf⟩ := hm_bV_some hf
  refine hq_callV (va_runVN (As := [.ref (B + 1), .int x1, .int x2]) (rest := []) ⟨hx, hb, hml, hown, hts⟩ (c_Needs_spread (l := l) (D := D) (ca := ca) (B := B) (rl := rl) rfl hc3) (hq_cwN (nn := 3) hts sc_wd_86 sc_wd_14 sc_wd_155 sc_wd_88 sc_wd_89 (by decide +kernel) rfl rfl ⟨(Nat.le_of_ble_eq_true rfl), (Nat.le_of_ble_eq_true rfl)⟩) (hq_preV hKt hP (by decide) (sc_s_Needs (rfl)) rfl) rfl rfl hl.1 rfl (lv_room (Nat.le_of_ble_eq_true rfl)) d_Runner_runTile_10 ⟨(Nat.le_of_ble_eq_true rfl), (Nat.le_of_ble_eq_true rfl)⟩) hS (fun H locs hP hS => ?_)
  refine lv_aload_n hx hb d_Runner_runTile_13 rfl (lv_at hl 0 rfl) ?_
  refine lv_aload_n hx hb d_Runner_runTile_14 rfl (lv_at hl 0 rfl) ?_
  refine hq_get hx hb hts i_Runner hown hK hP 48 (by decide) (sc_s_Runner (rfl)) rfl 1 (by decide) (hts _ sc_wd_154) (fun _ h => h) (v := .ref (B + 49)) rfl d_Runner_runTile_15 ?_
  refine lv_iconst (v := 2) hx hb d_Runner_runTile_18 (by decide) ?_
  obtain ⟨M_5, hc6, hf⟩ := hm_bV_some hf
  refine hq_callV (va_runV (As := [.ref (B + 49), .int 2]) (rest := []) ⟨hx, hb, hml, hown, hts⟩ (c_Runner_keep (l := l) (D := D) (ca := ca) (B := B) (rl := rl) rfl hc6) (hq_cwV (nn := 2) hts sc_wd_156 sc_wd_125 sc_wd_157 sc_wd_158 sc_wd_159 (by decide +kernel) rfl rfl ⟨(Nat.le_of_ble_eq_true rfl), (Nat.le_of_ble_eq_true rfl)⟩) (hq_preV hKt hP (by decide) (sc_s_Runner (rfl)) rfl) rfl rfl hl.1 rfl (lv_room (Nat.le_of_ble_eq_true rfl)) d_Runner_runTile_19 ⟨(Nat.le_of_ble_eq_true rfl), (Nat.le_of_ble_eq_true rfl)⟩) hS (fun H locs hP hS => ?_)
  refine lv_iload_n hx hb d_Runner_runTile_22 rfl (lv_at hl 1 rfl) ?_
  refine lv_istore_n (lv' := [(3, .int x1), (0, .ref (B + 48)), (1, .int x1), (2, .int x2)]) hx hb d_Runner_runTile_23 rfl hl (by decide) rfl (fun ls hl => ?_)
  exact w_Runner_runTile_24 X _ _ _ _ _ _ _ (lv_sub hl [1, 3, 0] rfl) hP hS hf
set_option maxHeartbeats 4000000 in
set_option maxRecDepth 100000 in
theorem c_Runner_runTile {l : Launch} {D : va_G} {ca : Nat → ClassId} {B rl : Nat} {x1 : Int32} {x2 : Int32} {M M9 : hm_M} (hf : f_Runner_runTile rl M x1 x2 = some M9) : Met l y_Runner_runTile [Cond.code y_Runner_runTile b_Runner_runTile 4 none] ({ frames := 29, cells := 0, slots := 0, locals := 589 } : Room) (hq_Pre D sc_cl ca 64 (sc_sh rl) B (sc_ty ca) hq_tb M hm_L0 [.ref (B + 48), .int x1, .int x2]) (hq_QV D sc_cl ca 64 (sc_sh rl) B M9 hm_L0) 0 0 (hm_A B 64) := by
  refine Met.ofW (cc := b_Runner_runTile) (maxL := 4) (ret := none) (by decide +kernel) rfl ?_
  intro p e s m args below meth c s₁ Bd hml hv
  obtain ⟨rfl, hP, hK⟩ := hv
  have hl := lv_entry ([.ref (B + 48), .int x1, .int x2]) (n := 4) (Nat.le_of_ble_eq_true rfl)
  rw [lg_entry_eq]
  generalize (lg_sl ([.ref (B + 48), .int x1, .int x2]) ++ List.replicate (4 - (lg_sl ([.ref (B + 48), .int x1, .int x2])).length) Slot.unset).toArray = ls at hl ⊢
  have hl : lv_has ls 4 [(0, .ref (B + 48)), (1, .int x1), (2, .int x2)] := hl
  exact w_Runner_runTile_e ⟨Bd.exec, Bd.bytes, hml, findClass_of_methodNamed Bd.named, Bd.returns, Bd.notSynchronized, hK⟩  _ _ _ _ _ _ hl hP va_S.rf hf
set_option maxHeartbeats 4000000 in
set_option maxRecDepth 100000 in
theorem w_Runner_runSchedule_8 {p : Program} {l : Launch} {e : Env} {s : State} {m : MethodId} {args : Array Value} {below : List Frame} {meth : Method} {c : Code} {D : va_G} {ca : Nat → ClassId} {B rl : Nat} {M9 : hm_M} (X : hq_X p s m args meth c b_Runner_runSchedule R_Runner 3 none D sc_cl (sc_ty ca) hq_tb) : ∀ (n : Nat), ∀ (x2 : Int32), ∀ (M : hm_M) (H : Heap) (locs : List Loc) (ls : Array Slot), lv_has ls 3 [(0, .ref (B + 48)), (2, .int x2)] → hm_P D sc_cl ca 64 (sc_sh rl) B M hm_L0 H → va_S (hm_A B 64) s.heap H locs → f_Runner_runSchedule_8 rl n x2 M = some M9 → W p l e ({ frames := 30, cells := 0, slots := 0, locals := 612 } : Room) s m args below meth c H locs 0 0 (MQ below (hq_QV D sc_cl ca 64 (sc_sh rl) B M9 hm_L0) args s 0 0 (hm_A B 64)) (F0 m 8 ls []) := by
  obtain ⟨hx, hb, hml, hown, hr, hlk, hKt⟩ := id X
  have hK := hKt.1
  have hts : ∀ w ∈ hq_tb, w.before args s = true := fun w h => hKt.2.2 w h args
  intro n
  induction n with
  | zero =>
    intro x2 M H locs ls hl hP hS hf
    cases hf
  | succ n ih =>
    intro x2 M H locs ls hl hP hS hf
    rw [f_Runner_runSchedule_8] at hf
    refine lv_iload_n hx hb d_Runner_runSchedule_8 rfl (lv_at hl 1 rfl) ?_
    refine lv_aload_n hx hb d_Runner_runSchedule_9 rfl (lv_at hl 0 rfl) ?_
    refine hq_get hx hb hts i_Runner hown hK hP 48 (by decide) (sc_s_Runner (rfl)) rfl 0 (by decide) (hts _ sc_wd_130) (fun _ h => h) (v := .ref (B + 1)) rfl d_Runner_runSchedule_10 ?_
    obtain ⟨r1, M_2, hc3, hf⟩ := hm_bI_some hf
    refine hq_callI (va_runVN (As := []) (rest := [.int x2]) ⟨hx, hb, hml, hown, hts⟩ (c_Pipe_tileCount (l := l) (D := D) (ca := ca) (B := B) (rl := rl)  hc3) (hq_cwN (nn := 0) hts sc_wd_77 sc_wd_31 sc_wd_165 sc_wd_79 sc_wd_80 (by decide +kernel) rfl rfl ⟨(Nat.le_of_ble_eq_true rfl), (Nat.le_of_ble_eq_true rfl)⟩) (hq_preV hKt hP (by decide) (sc_s_Pipe (rfl)) rfl) rfl rfl hl.1 rfl (lv_room (Nat.le_of_ble_eq_true rfl)) d_Runner_runSchedule_13 ⟨(Nat.le_of_ble_eq_true rfl), (Nat.le_of_ble_eq_true rfl)⟩) hS (fun H locs hP hS => ?_)
    refine lv_icmp_ge (tgt := 45) hx hb d_Runner_runSchedule_16 (by decide) (fun c4 => ?_) (fun c4 => ?_)
    · replace hf := (if_pos c4).symm.trans hf
      refine lv_aload_n hx hb d_Runner_runSchedule_45 rfl (lv_at hl 0 rfl) ?_
      refine lv_iconst (v := 1) hx hb d_Runner_runSchedule_46 (by decide) ?_
      obtain ⟨M_6, hc7, hf⟩ := hm_bV_some hf
      refine hq_callV (va_runV (As := [.int 1]) (rest := []) ⟨hx, hb, hml, hown, hts⟩ (c_Runner_release (l := l) (D := D) (ca := ca) (B := B) (rl := rl)  hc7) (hq_cwV (nn := 1) hts sc_wd_160 sc_wd_125 sc_wd_161 sc_wd_162 sc_wd_163 (by decide +kernel) rfl rfl ⟨(Nat.le_of_ble_eq_true rfl), (Nat.le_of_ble_eq_true rfl)⟩) (hq_preV hKt hP (by decide) (sc_s_Runner (rfl)) rfl) rfl rfl hl.1 rfl (lv_room (Nat.le_of_ble_eq_true rfl)) d_Runner_runSchedule_47 ⟨(Nat.le_of_ble_eq_true rfl), (Nat.le_of_ble_eq_true rfl)⟩) hS (fun H locs hP hS => ?_)
      have h8 := Option.some.inj hf
      subst h8
      exact W.vret hx hb hr (fun t ht _ => ⟨⟨(), rfl, trivial, by subst ht; exact hP⟩, hS.F ht⟩) hS.2.2 d_Runner_runSchedule_50 hlk
    · replace hf := (if_neg c4).symm.trans hf
      refine lv_aload_n hx hb d_Runner_runSchedule_19 rfl (lv_at hl 0 rfl) ?_
      refine lv_aload_n hx hb d_Runner_runSchedule_20 rfl (lv_at hl 0 rfl) ?_
      refine hq_get hx hb hts i_Runner hown hK hP 48 (by decide) (sc_s_Runner (rfl)) rfl 0 (by decide) (hts _ sc_wd_130) (fun _ h => h) (v := .ref (B + 1)) rfl d_Runner_runSchedule_21 ?_
      refine lv_iload_n hx hb d_Runner_runSchedule_24 rfl (lv_at hl 1 rfl) ?_
      obtain ⟨r8, M_9, hc10, hf⟩ := hm_bI_some hf
      refine hq_callI (va_runVN (As := [.int x2]) (rest := [.ref (B + 48)]) ⟨hx, hb, hml, hown, hts⟩ (c_Pipe_tileFirst (l := l) (D := D) (ca := ca) (B := B) (rl := rl)  hc10) (hq_cwN (nn := 1) hts sc_wd_30 sc_wd_31 sc_wd_166 sc_wd_33 sc_wd_34 (by decide +kernel) rfl rfl ⟨(Nat.le_of_ble_eq_true rfl), (Nat.le_of_ble_eq_true rfl)⟩) (hq_preV hKt hP (by decide) (sc_s_Pipe (rfl)) rfl) rfl rfl hl.1 rfl (lv_room (Nat.le_of_ble_eq_true rfl)) d_Runner_runSchedule_25 ⟨(Nat.le_of_ble_eq_true rfl), (Nat.le_of_ble_eq_true rfl)⟩) hS (fun H locs hP hS => ?_)
      refine lv_aload_n hx hb d_Runner_runSchedule_28 rfl (lv_at hl 0 rfl) ?_
      refine hq_get hx hb hts i_Runner hown hK hP 48 (by decide) (sc_s_Runner (rfl)) rfl 0 (by decide) (hts _ sc_wd_130) (fun _ h => h) (v := .ref (B + 1)) rfl d_Runner_runSchedule_29 ?_
      refine lv_iload_n hx hb d_Runner_runSchedule_32 rfl (lv_at hl 1 rfl) ?_
      obtain ⟨r11, M_12, hc13, hf⟩ := hm_bI_some hf
      refine hq_callI (va_runVN (As := [.int x2]) (rest := [.int r8, .ref (B + 48)]) ⟨hx, hb, hml, hown, hts⟩ (c_Pipe_tileLast (l := l) (D := D) (ca := ca) (B := B) (rl := rl)  hc13) (hq_cwN (nn := 1) hts sc_wd_82 sc_wd_31 sc_wd_167 sc_wd_84 sc_wd_85 (by decide +kernel) rfl rfl ⟨(Nat.le_of_ble_eq_true rfl), (Nat.le_of_ble_eq_true rfl)⟩) (hq_preV hKt hP (by decide) (sc_s_Pipe (rfl)) rfl) rfl rfl hl.1 rfl (lv_room (Nat.le_of_ble_eq_true rfl)) d_Runner_runSchedule_33 ⟨(Nat.le_of_ble_eq_true rfl), (Nat.le_of_ble_eq_true rfl)⟩) hS (fun H locs hP hS => ?_)
      obtain ⟨M_15, hc16, hf⟩ := hm_bV_some hf
      refine hq_callV (va_runV (As := [.int r8, .int r11]) (rest := []) ⟨hx, hb, hml, hown, hts⟩ (c_Runner_runTile (l := l) (D := D) (ca := ca) (B := B) (rl := rl)  hc16) (hq_cwV (nn := 2) hts sc_wd_168 sc_wd_125 sc_wd_169 sc_wd_170 sc_wd_171 (by decide +kernel) rfl rfl ⟨(Nat.le_of_ble_eq_true rfl), (Nat.le_of_ble_eq_true rfl)⟩) (hq_preV hKt hP (by decide) (sc_s_Runner (rfl)) rfl) rfl rfl hl.1 rfl (lv_room (Nat.le_of_ble_eq_true rfl)) d_Runner_runSchedule_36 ⟨(Nat.le_of_ble_eq_true rfl), (Nat.le_of_ble_eq_true rfl)⟩) hS (fun H locs hP hS => ?_)
      refine lv_iinc (v := (x2 + 1)) (lv' := [(2, .int (x2 + 1)), (0, .ref (B + 48))]) hx hb d_Runner_runSchedule_39 hl (k := 1) rfl rfl (by decide) rfl (fun ls hl => ?_)
      refine lv_goto (tgt := 8) hx hb d_Runner_runSchedule_42 (by decide) ?_
      exact ih _ _ _ _ _ (lv_sub hl [1, 0] rfl) hP hS hf
set_option maxHeartbeats 4000000 in
set_option maxRecDepth 100000 in
theorem w_Runner_runSchedule_e {p : Program} {l : Launch} {e : Env} {s : State} {m : MethodId} {args : Array Value} {below : List Frame} {meth : Method} {c : Code} {D : va_G} {ca : Nat → ClassId} {B rl : Nat} {M9 : hm_M} (X : hq_X p s m args meth c b_Runner_runSchedule R_Runner 3 none D sc_cl (sc_ty ca) hq_tb) : ∀ (a1 : Nat), sc_kd a1 = 8 → ∀ (M : hm_M) (H : Heap) (locs : List Loc) (ls : Array Slot), lv_has ls 3 [(0, .ref (B + 48)), (1, .ref (B + a1))] → hm_P D sc_cl ca 64 (sc_sh rl) B M hm_L0 H → va_S (hm_A B 64) s.heap H locs → f_Runner_runSchedule rl M a1 = some M9 → W p l e ({ frames := 30, cells := 0, slots := 0, locals := 612 } : Room) s m args below meth c H locs 0 0 (MQ below (hq_QV D sc_cl ca 64 (sc_sh rl) B M9 hm_L0) args s 0 0 (hm_A B 64)) (F0 m 0 ls []) := by
  obtain ⟨hx, hb, hml, hown, hr, hlk, hKt⟩ := id X
  have hK := hKt.1
  have hts : ∀ w ∈ hq_tb, w.before args s = true := fun w h => hKt.2.2 w h args
  intro a1 h_a1 M H locs ls hl hP hS hf
  unfold f_Runner_runSchedule at hf
  refine lv_aload_n hx hb d_Runner_runSchedule_0 rfl (lv_at hl 0 rfl) ?_
  refine lv_aload_n hx hb d_Runner_runSchedule_1 rfl (lv_at hl 1 rfl) ?_
  refine lv_iconst (v := 1) hx hb d_Runner_runSchedule_2 (by decide) ?_
  obtain ⟨M_2, hc3, hf⟩ := hm_bV_some hf
  refine hq_callV (va_runV (As := [.ref (B + a1), .int 1]) (rest := []) ⟨hx, hb, hml, hown, hts⟩ (c_Runner_keep (l := l) (D := D) (ca := ca) (B := B) (rl := rl) h_a1 hc3) (hq_cwV (nn := 2) hts sc_wd_156 sc_wd_125 sc_wd_157 sc_wd_158 sc_wd_159 (by decide +kernel) rfl rfl ⟨(Nat.le_of_ble_eq_true rfl), (Nat.le_of_ble_eq_true rfl)⟩) (hq_preV hKt hP (by decide) (sc_s_Runner (rfl)) rfl) rfl rfl hl.1 rfl (lv_room (Nat.le_of_ble_eq_true rfl)) d_Runner_runSchedule_3 ⟨(Nat.le_of_ble_eq_true rfl), (Nat.le_of_ble_eq_true rfl)⟩) hS (fun H locs hP hS => ?_)
  refine lv_iconst (v := 0) hx hb d_Runner_runSchedule_6 (by decide) ?_
  refine lv_istore_n (lv' := [(2, .int 0), (0, .ref (B + 48)), (1, .ref (B + a1))]) hx hb d_Runner_runSchedule_7 rfl hl (by decide) rfl (fun ls hl => ?_)
  exact w_Runner_runSchedule_8 X _ _ _ _ _ _ (lv_sub hl [1, 0] rfl) hP hS hf
set_option maxHeartbeats 4000000 in
set_option maxRecDepth 100000 in
theorem c_Runner_runSchedule {l : Launch} {D : va_G} {ca : Nat → ClassId} {B rl : Nat} {a1 : Nat} (h_a1 : sc_kd a1 = 8) {M M9 : hm_M} (hf : f_Runner_runSchedule rl M a1 = some M9) : Met l y_Runner_runSchedule [Cond.code y_Runner_runSchedule b_Runner_runSchedule 3 none] ({ frames := 30, cells := 0, slots := 0, locals := 612 } : Room) (hq_Pre D sc_cl ca 64 (sc_sh rl) B (sc_ty ca) hq_tb M hm_L0 [.ref (B + 48), .ref (B + a1)]) (hq_QV D sc_cl ca 64 (sc_sh rl) B M9 hm_L0) 0 0 (hm_A B 64) := by
  refine Met.ofW (cc := b_Runner_runSchedule) (maxL := 3) (ret := none) (by decide +kernel) rfl ?_
  intro p e s m args below meth c s₁ Bd hml hv
  obtain ⟨rfl, hP, hK⟩ := hv
  have hl := lv_entry ([.ref (B + 48), .ref (B + a1)]) (n := 3) (Nat.le_of_ble_eq_true rfl)
  rw [lg_entry_eq]
  generalize (lg_sl ([.ref (B + 48), .ref (B + a1)]) ++ List.replicate (3 - (lg_sl ([.ref (B + 48), .ref (B + a1)])).length) Slot.unset).toArray = ls at hl ⊢
  have hl : lv_has ls 3 [(0, .ref (B + 48)), (1, .ref (B + a1))] := hl
  exact w_Runner_runSchedule_e ⟨Bd.exec, Bd.bytes, hml, findClass_of_methodNamed Bd.named, Bd.returns, Bd.notSynchronized, hK⟩  _ h_a1 _ _ _ _ hl hP va_S.rf hf
end
section
set_option maxHeartbeats 4000000 in
set_option maxRecDepth 100000 in
theorem w_SC_forgetCompiled_e {p : Program} {l : Launch} {e : Env} {s : State} {m : MethodId} {args : Array Value} {below : List Frame} {meth : Method} {c : Code} {D : va_G} {ca : Nat → ClassId} {B rl : Nat} {M9 : hm_M} (X : hq_X p s m args meth c b_SC_forgetCompiled R_SC 1 none D sc_cl (sc_ty ca) hq_tb) : ∀ (M : hm_M) (H : Heap) (locs : List Loc) (ls : Array Slot), lv_has ls 1 [(0, .ref (B + 0))] → hm_P D sc_cl ca 64 (sc_sh rl) B M hm_L0 H → va_S (hm_A B 64) s.heap H locs → f_SC_forgetCompiled M = some M9 → W p l e ({ frames := 0, cells := 0, slots := 0, locals := 0 } : Room) s m args below meth c H locs 0 0 (MQ below (hq_QV D sc_cl ca 64 (sc_sh rl) B M9 hm_L0) args s 0 0 (hm_A B 64)) (F0 m 0 ls []) := by
  obtain ⟨hx, hb, hml, hown, hr, hlk, hKt⟩ := id X
  have hK := hKt.1
  have hts : ∀ w ∈ hq_tb, w.before args s = true := fun w h => hKt.2.2 w h args
  intro  M H locs ls hl hP hS hf
  unfold f_SC_forgetCompiled at hf
  refine lv_aload_n hx hb d_SC_forgetCompiled_0 rfl (lv_at hl 0 rfl) ?_
  refine lv_iconst (v := 0) hx hb d_SC_forgetCompiled_1 (by decide) ?_
  refine hq_put hx hb hts i_SC t_SC t_SC_ok n_SC hown hK hP hS 0 (by decide) (sc_s_SC (rfl)) rfl 3 (by decide) (hts _ sc_wd_172) (fun _ h => h) rfl (ty := .boolean) (x := 0) (by decide +kernel) rfl rfl rfl d_SC_forgetCompiled_2 (fun H locs hP hS => ?_)
  obtain ⟨M_1, e_1, hf⟩ := hm_st_some hf
  rw [← e_1] at hP
  refine lv_aload_n hx hb d_SC_forgetCompiled_5 rfl (lv_at hl 0 rfl) ?_
  refine lv_iconst (v := 0) hx hb d_SC_forgetCompiled_6 (by decide) ?_
  refine hq_put hx hb hts i_SC t_SC t_SC_ok n_SC hown hK hP hS 0 (by decide) (sc_s_SC (rfl)) rfl 4 (by decide) (hts _ sc_wd_173) (fun _ h => h) rfl (ty := .boolean) (x := 0) (by decide +kernel) rfl rfl rfl d_SC_forgetCompiled_7 (fun H locs hP hS => ?_)
  obtain ⟨M_2, e_2, hf⟩ := hm_st_some hf
  rw [← e_2] at hP
  have h8 := Option.some.inj hf
  subst h8
  exact W.vret hx hb hr (fun t ht _ => ⟨⟨(), rfl, trivial, by subst ht; exact hP⟩, hS.F ht⟩) hS.2.2 d_SC_forgetCompiled_10 hlk
set_option maxHeartbeats 4000000 in
set_option maxRecDepth 100000 in
theorem c_SC_forgetCompiled {l : Launch} {D : va_G} {ca : Nat → ClassId} {B rl : Nat} {M M9 : hm_M} (hf : f_SC_forgetCompiled M  = some M9) : Met l y_SC_forgetCompiled [Cond.code y_SC_forgetCompiled b_SC_forgetCompiled 1 none] ({ frames := 0, cells := 0, slots := 0, locals := 0 } : Room) (hq_Pre D sc_cl ca 64 (sc_sh rl) B (sc_ty ca) hq_tb M hm_L0 [.ref (B + 0)]) (hq_QV D sc_cl ca 64 (sc_sh rl) B M9 hm_L0) 0 0 (hm_A B 64) := by
  refine Met.ofW (cc := b_SC_forgetCompiled) (maxL := 1) (ret := none) (by decide +kernel) rfl ?_
  intro p e s m args below meth c s₁ Bd hml hv
  obtain ⟨rfl, hP, hK⟩ := hv
  have hl := lv_entry ([.ref (B + 0)]) (n := 1) (Nat.le_of_ble_eq_true rfl)
  rw [lg_entry_eq]
  generalize (lg_sl ([.ref (B + 0)]) ++ List.replicate (1 - (lg_sl ([.ref (B + 0)])).length) Slot.unset).toArray = ls at hl ⊢
  have hl : lv_has ls 1 [(0, .ref (B + 0))] := hl
  exact w_SC_forgetCompiled_e ⟨Bd.exec, Bd.bytes, hml, findClass_of_methodNamed Bd.named, Bd.returns, Bd.notSynchronized, hK⟩   _ _ _ _ hl hP va_S.rf hf
set_option maxHeartbeats 4000000 in
set_option maxRecDepth 100000 in
theorem w_SC_input_16 {p : Program} {l : Launch} {e : Env} {s : State} {m : MethodId} {args : Array Value} {below : List Frame} {meth : Method} {c : Code} {D : va_G} {ca : Nat → ClassId} {B rl : Nat} {r : Int32} {M9 : hm_M} (X : hq_X p s m args meth c b_SC_input R_SC 3 (some .int) D sc_cl (sc_ty ca) hq_tb) : ∀ (M : hm_M) (H : Heap) (locs : List Loc) (ls : Array Slot), lv_has ls 3 [] → hm_P D sc_cl ca 64 (sc_sh rl) B M hm_L0 H → va_S (hm_A B 64) s.heap H locs → f_SC_input_16 rl M = some (r, M9) → W p l e ({ frames := 1, cells := 0, slots := 0, locals := 20 } : Room) s m args below meth c H locs 0 0 (MQ below (hq_QI D sc_cl ca 64 (sc_sh rl) B r M9 hm_L0) args s 0 0 (hm_A B 64)) (F0 m 16 ls []) := by
  obtain ⟨hx, hb, hml, hown, hr, hlk, hKt⟩ := id X
  have hK := hKt.1
  have hts : ∀ w ∈ hq_tb, w.before args s = true := fun w h => hKt.2.2 w h args
  intro  M H locs ls hl hP hS hf
  unfold f_SC_input_16 at hf
  refine lv_iconst (v := (-1)) hx hb d_SC_input_16 (by decide) ?_
  obtain ⟨h9, h8⟩ := Prod.mk.inj (Option.some.inj hf)
  subst h9
  subst h8
  exact W.iret hx hb hr (fun t ht _ => ⟨⟨_, (), rfl, rfl, by subst ht; exact hP⟩, hS.F ht⟩) hS.2.2 d_SC_input_17 hlk
set_option maxHeartbeats 4000000 in
set_option maxRecDepth 100000 in
theorem w_SC_input_e {p : Program} {l : Launch} {e : Env} {s : State} {m : MethodId} {args : Array Value} {below : List Frame} {meth : Method} {c : Code} {D : va_G} {ca : Nat → ClassId} {B rl : Nat} {r : Int32} {M9 : hm_M} (X : hq_X p s m args meth c b_SC_input R_SC 3 (some .int) D sc_cl (sc_ty ca) hq_tb) : ∀ (x1 : Int32), ∀ (x2 : Int32), ∀ (M : hm_M) (H : Heap) (locs : List Loc) (ls : Array Slot), lv_has ls 3 [(0, .ref (B + 0)), (1, .int x1), (2, .int x2)] → hm_P D sc_cl ca 64 (sc_sh rl) B M hm_L0 H → va_S (hm_A B 64) s.heap H locs → f_SC_input rl M x1 x2 = some (r, M9) → W p l e ({ frames := 1, cells := 0, slots := 0, locals := 20 } : Room) s m args below meth c H locs 0 0 (MQ below (hq_QI D sc_cl ca 64 (sc_sh rl) B r M9 hm_L0) args s 0 0 (hm_A B 64)) (F0 m 0 ls []) := by
  obtain ⟨hx, hb, hml, hown, hr, hlk, hKt⟩ := id X
  have hK := hKt.1
  have hts : ∀ w ∈ hq_tb, w.before args s = true := fun w h => hKt.2.2 w h args
  intro x1 x2 M H locs ls hl hP hS hf
  unfold f_SC_input at hf
  refine lv_iload_n hx hb d_SC_input_0 rfl (lv_at hl 1 rfl) ?_
  refine lv_if_lt (tgt := 16) hx hb d_SC_input_1 (by decide) (fun c1 => ?_) (fun c1 => ?_)
  · replace hf := (if_pos c1).symm.trans hf
    exact w_SC_input_16 X _ _ _ _ (lv_sub hl [] rfl) hP hS hf
  · replace hf := (if_neg c1).symm.trans hf
    refine lv_iload_n hx hb d_SC_input_4 rfl (lv_at hl 1 rfl) ?_
    refine lv_aload_n hx hb d_SC_input_5 rfl (lv_at hl 0 rfl) ?_
    refine hq_get hx hb hts i_SC hown hK hP 0 (by decide) (sc_s_SC (rfl)) rfl 0 (by decide) (hts _ sc_wd_174) (fun _ h => h) (v := .ref (B + 1)) rfl d_SC_input_6 ?_
    refine hq_getN hx hb hts i_Pipe hown hK hP 1 (by decide) (sc_s_Pipe (rfl)) rfl 0 (by decide) (hts _ sc_wd_175) (fun _ h => h) (v := .ref (B + 4)) rfl d_SC_input_9 ?_
    refine hq_alen hx hb hK hP 4 (by decide) (sc_s_row (rfl)) 0 rfl (v := (nI rl)) rfl d_SC_input_12 ?_
    refine lv_icmp_lt (tgt := 18) hx hb d_SC_input_13 (by decide) (fun c2 => ?_) (fun c2 => ?_)
    · replace hf := (if_pos c2).symm.trans hf
      refine lv_aload_n hx hb d_SC_input_18 rfl (lv_at hl 0 rfl) ?_
      refine hq_get hx hb hts i_SC hown hK hP 0 (by decide) (sc_s_SC (rfl)) rfl 0 (by decide) (hts _ sc_wd_174) (fun _ h => h) (v := .ref (B + 1)) rfl d_SC_input_19 ?_
      refine hq_getN hx hb hts i_Pipe hown hK hP 1 (by decide) (sc_s_Pipe (rfl)) rfl 0 (by decide) (hts _ sc_wd_175) (fun _ h => h) (v := .ref (B + 4)) rfl d_SC_input_22 ?_
      refine lv_iload_n hx hb d_SC_input_25 rfl (lv_at hl 1 rfl) ?_
      refine lv_iload_n hx hb d_SC_input_26 rfl (lv_at hl 2 rfl) ?_
      obtain ⟨g3, hf⟩ := hm_gd_some hf
      refine hq_iast hx hb hK hP hS 4 (by decide) (sc_s_row (rfl)) 0 rfl g3 d_SC_input_27 (fun H locs hP hS => ?_)
      obtain ⟨M_4, e_4, hf⟩ := hm_st_some hf
      rw [← e_4] at hP
      refine lv_aload_n hx hb d_SC_input_28 rfl (lv_at hl 0 rfl) ?_
      obtain ⟨M_6, hc7, hf⟩ := hm_bV_some hf
      refine hq_callV (va_runV (As := []) (rest := []) ⟨hx, hb, hml, hown, hts⟩ (c_SC_forgetCompiled (l := l) (D := D) (ca := ca) (B := B) (rl := rl)  hc7) (hq_cwV (nn := 0) hts sc_wd_176 sc_wd_177 sc_wd_178 sc_wd_179 sc_wd_180 (by decide +kernel) rfl rfl ⟨(Nat.le_of_ble_eq_true rfl), (Nat.le_of_ble_eq_true rfl)⟩) (hq_preV hKt hP (by decide) (sc_s_SC (rfl)) rfl) rfl rfl hl.1 rfl (lv_room (Nat.le_of_ble_eq_true rfl)) d_SC_input_29 ⟨(Nat.le_of_ble_eq_true rfl), (Nat.le_of_ble_eq_true rfl)⟩) hS (fun H locs hP hS => ?_)
      refine lv_iconst (v := 0) hx hb d_SC_input_32 (by decide) ?_
      obtain ⟨h9, h8⟩ := Prod.mk.inj (Option.some.inj hf)
      subst h9
      subst h8
      exact W.iret hx hb hr (fun t ht _ => ⟨⟨_, (), rfl, rfl, by subst ht; exact hP⟩, hS.F ht⟩) hS.2.2 d_SC_input_33 hlk
    · replace hf := (if_neg c2).symm.trans hf
      exact w_SC_input_16 X _ _ _ _ (lv_sub hl [] rfl) hP hS hf
set_option maxHeartbeats 4000000 in
set_option maxRecDepth 100000 in
theorem c_SC_input {l : Launch} {D : va_G} {ca : Nat → ClassId} {B rl : Nat} {r : Int32} {x1 : Int32} {x2 : Int32} {M M9 : hm_M} (hf : f_SC_input rl M x1 x2 = some (r, M9)) : Met l y_SC_input [Cond.code y_SC_input b_SC_input 3 (some .int)] ({ frames := 1, cells := 0, slots := 0, locals := 20 } : Room) (hq_Pre D sc_cl ca 64 (sc_sh rl) B (sc_ty ca) hq_tb M hm_L0 [.ref (B + 0), .int x1, .int x2]) (hq_QI D sc_cl ca 64 (sc_sh rl) B r M9 hm_L0) 0 0 (hm_A B 64) := by
  refine Met.ofW (cc := b_SC_input) (maxL := 3) (ret := (some .int)) (by decide +kernel) rfl ?_
  intro p e s m args below meth c s₁ Bd hml hv
  obtain ⟨rfl, hP, hK⟩ := hv
  have hl := lv_entry ([.ref (B + 0), .int x1, .int x2]) (n := 3) (Nat.le_of_ble_eq_true rfl)
  rw [lg_entry_eq]
  generalize (lg_sl ([.ref (B + 0), .int x1, .int x2]) ++ List.replicate (3 - (lg_sl ([.ref (B + 0), .int x1, .int x2])).length) Slot.unset).toArray = ls at hl ⊢
  have hl : lv_has ls 3 [(0, .ref (B + 0)), (1, .int x1), (2, .int x2)] := hl
  exact w_SC_input_e ⟨Bd.exec, Bd.bytes, hml, findClass_of_methodNamed Bd.named, Bd.returns, Bd.notSynchronized, hK⟩  _ _ _ _ _ _ hl hP va_S.rf hf
set_option maxHeartbeats 4000000 in
set_option maxRecDepth 100000 in
theorem w_SC_stage_9 {p : Program} {l : Launch} {e : Env} {s : State} {m : MethodId} {args : Array Value} {below : List Frame} {meth : Method} {c : Code} {D : va_G} {ca : Nat → ClassId} {B rl : Nat} {r : Int32} {M9 : hm_M} (X : hq_X p s m args meth c b_SC_stage R_SC 4 (some .int) D sc_cl (sc_ty ca) hq_tb) : ∀ (M : hm_M) (H : Heap) (locs : List Loc) (ls : Array Slot), lv_has ls 4 [] → hm_P D sc_cl ca 64 (sc_sh rl) B M hm_L0 H → va_S (hm_A B 64) s.heap H locs → f_SC_stage_9 M = some (r, M9) → W p l e ({ frames := 1, cells := 0, slots := 0, locals := 23 } : Room) s m args below meth c H locs 0 0 (MQ below (hq_QI D sc_cl ca 64 (sc_sh rl) B r M9 hm_L0) args s 0 0 (hm_A B 64)) (F0 m 9 ls []) := by
  obtain ⟨hx, hb, hml, hown, hr, hlk, hKt⟩ := id X
  have hK := hKt.1
  have hts : ∀ w ∈ hq_tb, w.before args s = true := fun w h => hKt.2.2 w h args
  intro  M H locs ls hl hP hS hf
  unfold f_SC_stage_9 at hf
  refine lv_iconst (v := (-1)) hx hb d_SC_stage_9 (by decide) ?_
  obtain ⟨h9, h8⟩ := Prod.mk.inj (Option.some.inj hf)
  subst h9
  subst h8
  exact W.iret hx hb hr (fun t ht _ => ⟨⟨_, (), rfl, rfl, by subst ht; exact hP⟩, hS.F ht⟩) hS.2.2 d_SC_stage_10 hlk
set_option maxHeartbeats 4000000 in
set_option maxRecDepth 100000 in
theorem w_SC_stage_e {p : Program} {l : Launch} {e : Env} {s : State} {m : MethodId} {args : Array Value} {below : List Frame} {meth : Method} {c : Code} {D : va_G} {ca : Nat → ClassId} {B rl : Nat} {r : Int32} {M9 : hm_M} (X : hq_X p s m args meth c b_SC_stage R_SC 4 (some .int) D sc_cl (sc_ty ca) hq_tb) : ∀ (x1 : Int32), ∀ (x2 : Int32), ∀ (M : hm_M) (H : Heap) (locs : List Loc) (ls : Array Slot), lv_has ls 4 [(0, .ref (B + 0)), (1, .int x1), (2, .int x2)] → hm_P D sc_cl ca 64 (sc_sh rl) B M hm_L0 H → va_S (hm_A B 64) s.heap H locs → f_SC_stage M x1 x2 = some (r, M9) → W p l e ({ frames := 1, cells := 0, slots := 0, locals := 23 } : Room) s m args below meth c H locs 0 0 (MQ below (hq_QI D sc_cl ca 64 (sc_sh rl) B r M9 hm_L0) args s 0 0 (hm_A B 64)) (F0 m 0 ls []) := by
  obtain ⟨hx, hb, hml, hown, hr, hlk, hKt⟩ := id X
  have hK := hKt.1
  have hts : ∀ w ∈ hq_tb, w.before args s = true := fun w h => hKt.2.2 w h args
  intro x1 x2 M H locs ls hl hP hS hf
  unfold f_SC_stage at hf
  refine lv_iload_n hx hb d_SC_stage_0 rfl (lv_at hl 2 rfl) ?_
  refine lv_if_lt (tgt := 9) hx hb d_SC_stage_1 (by decide) (fun c1 => ?_) (fun c1 => ?_)
  · replace hf := (if_pos c1).symm.trans hf
    exact w_SC_stage_9 X _ _ _ _ (lv_sub hl [] rfl) hP hS hf
  · replace hf := (if_neg c1).symm.trans hf
    refine lv_iload_n hx hb d_SC_stage_4 rfl (lv_at hl 2 rfl) ?_
    refine lv_iconst (v := 3) hx hb d_SC_stage_5 (by decide) ?_
    refine lv_icmp_le (tgt := 11) hx hb d_SC_stage_6 (by decide) (fun c2 => ?_) (fun c2 => ?_)
    · replace hf := (if_pos c2).symm.trans hf
      refine lv_aload_n hx hb d_SC_stage_11 rfl (lv_at hl 0 rfl) ?_
      refine hq_get hx hb hts i_SC hown hK hP 0 (by decide) (sc_s_SC (rfl)) rfl 0 (by decide) (hts _ sc_wd_174) (fun _ h => h) (v := .ref (B + 1)) rfl d_SC_stage_12 ?_
      refine hq_getN hx hb hts i_Pipe hown hK hP 1 (by decide) (sc_s_Pipe (rfl)) rfl 3 (by decide) (hts _ sc_wd_181) (fun _ h => h) (v := .int (M 1 3)) rfl d_SC_stage_15 ?_
      refine lv_bipush (v := 8) hx hb d_SC_stage_18 (by decide) ?_
      refine lv_icmp_ne (tgt := 26) hx hb d_SC_stage_20 (by decide) (fun c3 => ?_) (fun c3 => ?_)
      · replace hf := (if_neg c3).symm.trans hf
        refine lv_aload_n hx hb d_SC_stage_26 rfl (lv_at hl 0 rfl) ?_
        refine hq_get hx hb hts i_SC hown hK hP 0 (by decide) (sc_s_SC (rfl)) rfl 0 (by decide) (hts _ sc_wd_174) (fun _ h => h) (v := .ref (B + 1)) rfl d_SC_stage_27 ?_
        refine lv_iload_n hx hb d_SC_stage_30 rfl (lv_at hl 1 rfl) ?_
        refine lv_iload_n hx hb d_SC_stage_31 rfl (lv_at hl 2 rfl) ?_
        obtain ⟨r4, M_5, hc6, hf⟩ := hm_bI_some hf
        refine hq_callI (va_runVN (As := [.int x1, .int x2]) (rest := []) ⟨hx, hb, hml, hown, hts⟩ (c_Pipe_addStage (l := l) (D := D) (ca := ca) (B := B) (rl := rl)  hc6) (hq_cwN (nn := 2) hts sc_wd_182 sc_wd_31 sc_wd_183 sc_wd_184 sc_wd_185 (by decide +kernel) rfl rfl ⟨(Nat.le_of_ble_eq_true rfl), (Nat.le_of_ble_eq_true rfl)⟩) (hq_preV hKt hP (by decide) (sc_s_Pipe (rfl)) rfl) rfl rfl hl.1 rfl (lv_room (Nat.le_of_ble_eq_true rfl)) d_SC_stage_32 ⟨(Nat.le_of_ble_eq_true rfl), (Nat.le_of_ble_eq_true rfl)⟩) hS (fun H locs hP hS => ?_)
        refine lv_istore_n (lv' := [(3, .int r4), (0, .ref (B + 0)), (1, .int x1), (2, .int x2)]) hx hb d_SC_stage_35 rfl hl (by decide) rfl (fun ls hl => ?_)
        refine lv_aload_n hx hb d_SC_stage_36 rfl (lv_at hl 1 rfl) ?_
        obtain ⟨M_8, hc9, hf⟩ := hm_bV_some hf
        refine hq_callV (va_runV (As := []) (rest := []) ⟨hx, hb, hml, hown, hts⟩ (c_SC_forgetCompiled (l := l) (D := D) (ca := ca) (B := B) (rl := rl)  hc9) (hq_cwV (nn := 0) hts sc_wd_176 sc_wd_177 sc_wd_178 sc_wd_179 sc_wd_180 (by decide +kernel) rfl rfl ⟨(Nat.le_of_ble_eq_true rfl), (Nat.le_of_ble_eq_true rfl)⟩) (hq_preV hKt hP (by decide) (sc_s_SC (rfl)) rfl) rfl rfl hl.1 rfl (lv_room (Nat.le_of_ble_eq_true rfl)) d_SC_stage_37 ⟨(Nat.le_of_ble_eq_true rfl), (Nat.le_of_ble_eq_true rfl)⟩) hS (fun H locs hP hS => ?_)
        refine lv_iload_n hx hb d_SC_stage_40 rfl (lv_at hl 0 rfl) ?_
        obtain ⟨h9, h8⟩ := Prod.mk.inj (Option.some.inj hf)
        subst h9
        subst h8
        exact W.iret hx hb hr (fun t ht _ => ⟨⟨_, (), rfl, rfl, by subst ht; exact hP⟩, hS.F ht⟩) hS.2.2 d_SC_stage_41 hlk
      · replace hf := (if_pos c3).symm.trans hf
        refine lv_bipush (v := (-2)) hx hb d_SC_stage_23 (by decide) ?_
        obtain ⟨h9, h8⟩ := Prod.mk.inj (Option.some.inj hf)
        subst h9
        subst h8
        exact W.iret hx hb hr (fun t ht _ => ⟨⟨_, (), rfl, rfl, by subst ht; exact hP⟩, hS.F ht⟩) hS.2.2 d_SC_stage_25 hlk
    · replace hf := (if_neg c2).symm.trans hf
      exact w_SC_stage_9 X _ _ _ _ (lv_sub hl [] rfl) hP hS hf
set_option maxHeartbeats 4000000 in
set_option maxRecDepth 100000 in
theorem c_SC_stage {l : Launch} {D : va_G} {ca : Nat → ClassId} {B rl : Nat} {r : Int32} {x1 : Int32} {x2 : Int32} {M M9 : hm_M} (hf : f_SC_stage M x1 x2 = some (r, M9)) : Met l y_SC_stage [Cond.code y_SC_stage b_SC_stage 4 (some .int)] ({ frames := 1, cells := 0, slots := 0, locals := 23 } : Room) (hq_Pre D sc_cl ca 64 (sc_sh rl) B (sc_ty ca) hq_tb M hm_L0 [.ref (B + 0), .int x1, .int x2]) (hq_QI D sc_cl ca 64 (sc_sh rl) B r M9 hm_L0) 0 0 (hm_A B 64) := by
  refine Met.ofW (cc := b_SC_stage) (maxL := 4) (ret := (some .int)) (by decide +kernel) rfl ?_
  intro p e s m args below meth c s₁ Bd hml hv
  obtain ⟨rfl, hP, hK⟩ := hv
  have hl := lv_entry ([.ref (B + 0), .int x1, .int x2]) (n := 4) (Nat.le_of_ble_eq_true rfl)
  rw [lg_entry_eq]
  generalize (lg_sl ([.ref (B + 0), .int x1, .int x2]) ++ List.replicate (4 - (lg_sl ([.ref (B + 0), .int x1, .int x2])).length) Slot.unset).toArray = ls at hl ⊢
  have hl : lv_has ls 4 [(0, .ref (B + 0)), (1, .int x1), (2, .int x2)] := hl
  exact w_SC_stage_e ⟨Bd.exec, Bd.bytes, hml, findClass_of_methodNamed Bd.named, Bd.returns, Bd.notSynchronized, hK⟩  _ _ _ _ _ _ hl hP va_S.rf hf
set_option maxHeartbeats 4000000 in
set_option maxRecDepth 100000 in
theorem w_SC_tap_32 {p : Program} {l : Launch} {e : Env} {s : State} {m : MethodId} {args : Array Value} {below : List Frame} {meth : Method} {c : Code} {D : va_G} {ca : Nat → ClassId} {B rl : Nat} {r : Int32} {M9 : hm_M} (X : hq_X p s m args meth c b_SC_tap R_SC 6 (some .int) D sc_cl (sc_ty ca) hq_tb) : ∀ (M : hm_M) (H : Heap) (locs : List Loc) (ls : Array Slot), lv_has ls 6 [] → hm_P D sc_cl ca 64 (sc_sh rl) B M hm_L0 H → va_S (hm_A B 64) s.heap H locs → f_SC_tap_32 M = some (r, M9) → W p l e ({ frames := 1, cells := 0, slots := 0, locals := 23 } : Room) s m args below meth c H locs 0 0 (MQ below (hq_QI D sc_cl ca 64 (sc_sh rl) B r M9 hm_L0) args s 0 0 (hm_A B 64)) (F0 m 32 ls []) := by
  obtain ⟨hx, hb, hml, hown, hr, hlk, hKt⟩ := id X
  have hK := hKt.1
  have hts : ∀ w ∈ hq_tb, w.before args s = true := fun w h => hKt.2.2 w h args
  intro  M H locs ls hl hP hS hf
  unfold f_SC_tap_32 at hf
  refine lv_iconst (v := (-1)) hx hb d_SC_tap_32 (by decide) ?_
  obtain ⟨h9, h8⟩ := Prod.mk.inj (Option.some.inj hf)
  subst h9
  subst h8
  exact W.iret hx hb hr (fun t ht _ => ⟨⟨_, (), rfl, rfl, by subst ht; exact hP⟩, hS.F ht⟩) hS.2.2 d_SC_tap_33 hlk
set_option maxHeartbeats 4000000 in
set_option maxRecDepth 100000 in
theorem w_SC_tap_e {p : Program} {l : Launch} {e : Env} {s : State} {m : MethodId} {args : Array Value} {below : List Frame} {meth : Method} {c : Code} {D : va_G} {ca : Nat → ClassId} {B rl : Nat} {r : Int32} {M9 : hm_M} (X : hq_X p s m args meth c b_SC_tap R_SC 6 (some .int) D sc_cl (sc_ty ca) hq_tb) : ∀ (x1 : Int32), ∀ (x2 : Int32), ∀ (x3 : Int32), ∀ (x4 : Int32), ∀ (M : hm_M) (H : Heap) (locs : List Loc) (ls : Array Slot), lv_has ls 6 [(0, .ref (B + 0)), (1, .int x1), (2, .int x2), (3, .int x3), (4, .int x4)] → hm_P D sc_cl ca 64 (sc_sh rl) B M hm_L0 H → va_S (hm_A B 64) s.heap H locs → f_SC_tap M x1 x2 x3 x4 = some (r, M9) → W p l e ({ frames := 1, cells := 0, slots := 0, locals := 23 } : Room) s m args below meth c H locs 0 0 (MQ below (hq_QI D sc_cl ca 64 (sc_sh rl) B r M9 hm_L0) args s 0 0 (hm_A B 64)) (F0 m 0 ls []) := by
  obtain ⟨hx, hb, hml, hown, hr, hlk, hKt⟩ := id X
  have hK := hKt.1
  have hts : ∀ w ∈ hq_tb, w.before args s = true := fun w h => hKt.2.2 w h args
  intro x1 x2 x3 x4 M H locs ls hl hP hS hf
  unfold f_SC_tap at hf
  refine lv_aload_n hx hb d_SC_tap_0 rfl (lv_at hl 0 rfl) ?_
  refine hq_get hx hb hts i_SC hown hK hP 0 (by decide) (sc_s_SC (rfl)) rfl 0 (by decide) (hts _ sc_wd_174) (fun _ h => h) (v := .ref (B + 1)) rfl d_SC_tap_1 ?_
  refine lv_iload_n hx hb d_SC_tap_4 rfl (lv_at hl 1 rfl) ?_
  obtain ⟨r1, M_2, hc3, hf⟩ := hm_bI_some hf
  refine hq_callI (va_runVN (As := [.int x1]) (rest := []) ⟨hx, hb, hml, hown, hts⟩ (c_Pipe_hasStage (l := l) (D := D) (ca := ca) (B := B) (rl := rl)  hc3) (hq_cwN (nn := 1) hts sc_wd_186 sc_wd_31 sc_wd_187 sc_wd_188 sc_wd_189 (by decide +kernel) rfl rfl ⟨(Nat.le_of_ble_eq_true rfl), (Nat.le_of_ble_eq_true rfl)⟩) (hq_preV hKt hP (by decide) (sc_s_Pipe (rfl)) rfl) rfl rfl hl.1 rfl (lv_room (Nat.le_of_ble_eq_true rfl)) d_SC_tap_5 ⟨(Nat.le_of_ble_eq_true rfl), (Nat.le_of_ble_eq_true rfl)⟩) hS (fun H locs hP hS => ?_)
  refine lv_if_eq (tgt := 32) hx hb d_SC_tap_8 (by decide) (fun c4 => ?_) (fun c4 => ?_)
  · replace hf := (if_pos c4).symm.trans hf
    exact w_SC_tap_32 X _ _ _ _ (lv_sub hl [] rfl) hP hS hf
  · replace hf := (if_neg c4).symm.trans hf
    refine lv_iload_n hx hb d_SC_tap_11 rfl (lv_at hl 2 rfl) ?_
    refine lv_iconst (v := (-1)) hx hb d_SC_tap_12 (by decide) ?_
    refine lv_icmp_lt (tgt := 32) hx hb d_SC_tap_13 (by decide) (fun c5 => ?_) (fun c5 => ?_)
    · replace hf := (if_pos c5).symm.trans hf
      exact w_SC_tap_32 X _ _ _ _ (lv_sub hl [] rfl) hP hS hf
    · replace hf := (if_neg c5).symm.trans hf
      refine lv_iload_n hx hb d_SC_tap_16 rfl (lv_at hl 2 rfl) ?_
      refine lv_iload_n hx hb d_SC_tap_17 rfl (lv_at hl 1 rfl) ?_
      refine lv_icmp_ge (tgt := 32) hx hb d_SC_tap_18 (by decide) (fun c6 => ?_) (fun c6 => ?_)
      · replace hf := (if_pos c6).symm.trans hf
        exact w_SC_tap_32 X _ _ _ _ (lv_sub hl [] rfl) hP hS hf
      · replace hf := (if_neg c6).symm.trans hf
        refine lv_iload_n hx hb d_SC_tap_21 rfl (lv_at hl 3 rfl) ?_
        refine lv_bipush (v := (-4)) hx hb d_SC_tap_22 (by decide) ?_
        refine lv_icmp_lt (tgt := 32) hx hb d_SC_tap_24 (by decide) (fun c7 => ?_) (fun c7 => ?_)
        · replace hf := (if_pos c7).symm.trans hf
          exact w_SC_tap_32 X _ _ _ _ (lv_sub hl [] rfl) hP hS hf
        · replace hf := (if_neg c7).symm.trans hf
          refine lv_iload_n hx hb d_SC_tap_27 rfl (lv_at hl 3 rfl) ?_
          refine lv_iconst (v := 4) hx hb d_SC_tap_28 (by decide) ?_
          refine lv_icmp_le (tgt := 34) hx hb d_SC_tap_29 (by decide) (fun c8 => ?_) (fun c8 => ?_)
          · replace hf := (if_pos c8).symm.trans hf
            refine lv_aload_n hx hb d_SC_tap_34 rfl (lv_at hl 0 rfl) ?_
            refine hq_get hx hb hts i_SC hown hK hP 0 (by decide) (sc_s_SC (rfl)) rfl 0 (by decide) (hts _ sc_wd_174) (fun _ h => h) (v := .ref (B + 1)) rfl d_SC_tap_35 ?_
            refine hq_getN hx hb hts i_Pipe hown hK hP 1 (by decide) (sc_s_Pipe (rfl)) rfl 1 (by decide) (hts _ sc_wd_190) (fun _ h => h) (v := .ref (B + 2)) rfl d_SC_tap_38 ?_
            refine lv_iload_n hx hb d_SC_tap_41 rfl (lv_at hl 1 rfl) ?_
            obtain ⟨g9, hf⟩ := hm_gd_some hf
            refine hq_aald hx hb hK hP 2 (by decide) (sc_s_starr (rfl)) 2 rfl rfl g9 d_SC_tap_42 ?_
            refine lv_astore (lv' := [(5, .ref (B + (5 + 4 * x1.toNatClampNeg))), (0, .ref (B + 0)), (1, .int x1), (2, .int x2), (3, .int x3), (4, .int x4)]) hx hb d_SC_tap_43 hl (by decide) rfl (fun ls hl => ?_)
            refine lv_aload hx hb d_SC_tap_45 (lv_at hl 0 rfl) ?_
            refine hq_getN hx hb hts i_Stage hown hK hP (5 + 4 * x1.toNatClampNeg) (sc_lt (sck_st g9) (by decide)) (sc_s_Stage ((sck_st g9))) rfl 3 (by decide) (hts _ sc_wd_191) (fun _ h => h) (v := .int (M_2 (5 + 4 * x1.toNatClampNeg) 3)) rfl d_SC_tap_47 ?_
            refine lv_iconst (v := 4) hx hb d_SC_tap_50 (by decide) ?_
            refine lv_icmp_ne (tgt := 57) hx hb d_SC_tap_51 (by decide) (fun c10 => ?_) (fun c10 => ?_)
            · replace hf := (if_neg c10).symm.trans hf
              refine lv_aload hx hb d_SC_tap_57 (lv_at hl 0 rfl) ?_
              refine lv_iload_n hx hb d_SC_tap_59 rfl (lv_at hl 3 rfl) ?_
              refine lv_iload_n hx hb d_SC_tap_60 rfl (lv_at hl 4 rfl) ?_
              refine lv_iload hx hb d_SC_tap_61 (lv_at hl 5 rfl) ?_
              obtain ⟨M_12, hc13, hf⟩ := hm_bV_some hf
              refine hq_callV (va_runVN (As := [.int x2, .int x3, .int x4]) (rest := []) ⟨hx, hb, hml, hown, hts⟩ (c_Stage_addTap (l := l) (D := D) (ca := ca) (B := B) (rl := rl) (sck_st g9) hc13) (hq_cwN (nn := 3) hts sc_wd_192 sc_wd_138 sc_wd_193 sc_wd_194 sc_wd_195 (by decide +kernel) rfl rfl ⟨(Nat.le_of_ble_eq_true rfl), (Nat.le_of_ble_eq_true rfl)⟩) (hq_preV hKt hP (sc_lt (sck_st g9) (by decide)) (sc_s_Stage ((sck_st g9))) rfl) rfl rfl hl.1 rfl (lv_room (Nat.le_of_ble_eq_true rfl)) d_SC_tap_63 ⟨(Nat.le_of_ble_eq_true rfl), (Nat.le_of_ble_eq_true rfl)⟩) hS (fun H locs hP hS => ?_)
              refine lv_aload_n hx hb d_SC_tap_66 rfl (lv_at hl 1 rfl) ?_
              obtain ⟨M_15, hc16, hf⟩ := hm_bV_some hf
              refine hq_callV (va_runV (As := []) (rest := []) ⟨hx, hb, hml, hown, hts⟩ (c_SC_forgetCompiled (l := l) (D := D) (ca := ca) (B := B) (rl := rl)  hc16) (hq_cwV (nn := 0) hts sc_wd_176 sc_wd_177 sc_wd_178 sc_wd_179 sc_wd_180 (by decide +kernel) rfl rfl ⟨(Nat.le_of_ble_eq_true rfl), (Nat.le_of_ble_eq_true rfl)⟩) (hq_preV hKt hP (by decide) (sc_s_SC (rfl)) rfl) rfl rfl hl.1 rfl (lv_room (Nat.le_of_ble_eq_true rfl)) d_SC_tap_67 ⟨(Nat.le_of_ble_eq_true rfl), (Nat.le_of_ble_eq_true rfl)⟩) hS (fun H locs hP hS => ?_)
              refine lv_aload hx hb d_SC_tap_70 (lv_at hl 0 rfl) ?_
              refine hq_getN hx hb hts i_Stage hown hK hP (5 + 4 * x1.toNatClampNeg) (sc_lt (sck_st g9) (by decide)) (sc_s_Stage ((sck_st g9))) rfl 3 (by decide) (hts _ sc_wd_191) (fun _ h => h) (v := .int (M_15 (5 + 4 * x1.toNatClampNeg) 3)) rfl d_SC_tap_72 ?_
              obtain ⟨h9, h8⟩ := Prod.mk.inj (Option.some.inj hf)
              subst h9
              subst h8
              exact W.iret hx hb hr (fun t ht _ => ⟨⟨_, (), rfl, rfl, by subst ht; exact hP⟩, hS.F ht⟩) hS.2.2 d_SC_tap_75 hlk
            · replace hf := (if_pos c10).symm.trans hf
              refine lv_bipush (v := (-2)) hx hb d_SC_tap_54 (by decide) ?_
              obtain ⟨h9, h8⟩ := Prod.mk.inj (Option.some.inj hf)
              subst h9
              subst h8
              exact W.iret hx hb hr (fun t ht _ => ⟨⟨_, (), rfl, rfl, by subst ht; exact hP⟩, hS.F ht⟩) hS.2.2 d_SC_tap_56 hlk
          · replace hf := (if_neg c8).symm.trans hf
            exact w_SC_tap_32 X _ _ _ _ (lv_sub hl [] rfl) hP hS hf
set_option maxHeartbeats 4000000 in
set_option maxRecDepth 100000 in
theorem c_SC_tap {l : Launch} {D : va_G} {ca : Nat → ClassId} {B rl : Nat} {r : Int32} {x1 : Int32} {x2 : Int32} {x3 : Int32} {x4 : Int32} {M M9 : hm_M} (hf : f_SC_tap M x1 x2 x3 x4 = some (r, M9)) : Met l y_SC_tap [Cond.code y_SC_tap b_SC_tap 6 (some .int)] ({ frames := 1, cells := 0, slots := 0, locals := 23 } : Room) (hq_Pre D sc_cl ca 64 (sc_sh rl) B (sc_ty ca) hq_tb M hm_L0 [.ref (B + 0), .int x1, .int x2, .int x3, .int x4]) (hq_QI D sc_cl ca 64 (sc_sh rl) B r M9 hm_L0) 0 0 (hm_A B 64) := by
  refine Met.ofW (cc := b_SC_tap) (maxL := 6) (ret := (some .int)) (by decide +kernel) rfl ?_
  intro p e s m args below meth c s₁ Bd hml hv
  obtain ⟨rfl, hP, hK⟩ := hv
  have hl := lv_entry ([.ref (B + 0), .int x1, .int x2, .int x3, .int x4]) (n := 6) (Nat.le_of_ble_eq_true rfl)
  rw [lg_entry_eq]
  generalize (lg_sl ([.ref (B + 0), .int x1, .int x2, .int x3, .int x4]) ++ List.replicate (6 - (lg_sl ([.ref (B + 0), .int x1, .int x2, .int x3, .int x4])).length) Slot.unset).toArray = ls at hl ⊢
  have hl : lv_has ls 6 [(0, .ref (B + 0)), (1, .int x1), (2, .int x2), (3, .int x3), (4, .int x4)] := hl
  exact w_SC_tap_e ⟨Bd.exec, Bd.bytes, hml, findClass_of_methodNamed Bd.named, Bd.returns, Bd.notSynchronized, hK⟩  _ _ _ _ _ _ _ _ hl hP va_S.rf hf
set_option maxHeartbeats 4000000 in
set_option maxRecDepth 100000 in
theorem w_SC_mode_20 {p : Program} {l : Launch} {e : Env} {s : State} {m : MethodId} {args : Array Value} {below : List Frame} {meth : Method} {c : Code} {D : va_G} {ca : Nat → ClassId} {B rl : Nat} {r : Int32} {M9 : hm_M} (X : hq_X p s m args meth c b_SC_mode R_SC 3 (some .int) D sc_cl (sc_ty ca) hq_tb) : ∀ (M : hm_M) (H : Heap) (locs : List Loc) (ls : Array Slot), lv_has ls 3 [] → hm_P D sc_cl ca 64 (sc_sh rl) B M hm_L0 H → va_S (hm_A B 64) s.heap H locs → f_SC_mode_20 M = some (r, M9) → W p l e ({ frames := 1, cells := 0, slots := 0, locals := 21 } : Room) s m args below meth c H locs 0 0 (MQ below (hq_QI D sc_cl ca 64 (sc_sh rl) B r M9 hm_L0) args s 0 0 (hm_A B 64)) (F0 m 20 ls []) := by
  obtain ⟨hx, hb, hml, hown, hr, hlk, hKt⟩ := id X
  have hK := hKt.1
  have hts : ∀ w ∈ hq_tb, w.before args s = true := fun w h => hKt.2.2 w h args
  intro  M H locs ls hl hP hS hf
  unfold f_SC_mode_20 at hf
  refine lv_iconst (v := (-1)) hx hb d_SC_mode_20 (by decide) ?_
  obtain ⟨h9, h8⟩ := Prod.mk.inj (Option.some.inj hf)
  subst h9
  subst h8
  exact W.iret hx hb hr (fun t ht _ => ⟨⟨_, (), rfl, rfl, by subst ht; exact hP⟩, hS.F ht⟩) hS.2.2 d_SC_mode_21 hlk
set_option maxHeartbeats 4000000 in
set_option maxRecDepth 100000 in
theorem w_SC_mode_e {p : Program} {l : Launch} {e : Env} {s : State} {m : MethodId} {args : Array Value} {below : List Frame} {meth : Method} {c : Code} {D : va_G} {ca : Nat → ClassId} {B rl : Nat} {r : Int32} {M9 : hm_M} (X : hq_X p s m args meth c b_SC_mode R_SC 3 (some .int) D sc_cl (sc_ty ca) hq_tb) : ∀ (x1 : Int32), ∀ (x2 : Int32), ∀ (M : hm_M) (H : Heap) (locs : List Loc) (ls : Array Slot), lv_has ls 3 [(0, .ref (B + 0)), (1, .int x1), (2, .int x2)] → hm_P D sc_cl ca 64 (sc_sh rl) B M hm_L0 H → va_S (hm_A B 64) s.heap H locs → f_SC_mode M x1 x2 = some (r, M9) → W p l e ({ frames := 1, cells := 0, slots := 0, locals := 21 } : Room) s m args below meth c H locs 0 0 (MQ below (hq_QI D sc_cl ca 64 (sc_sh rl) B r M9 hm_L0) args s 0 0 (hm_A B 64)) (F0 m 0 ls []) := by
  obtain ⟨hx, hb, hml, hown, hr, hlk, hKt⟩ := id X
  have hK := hKt.1
  have hts : ∀ w ∈ hq_tb, w.before args s = true := fun w h => hKt.2.2 w h args
  intro x1 x2 M H locs ls hl hP hS hf
  unfold f_SC_mode at hf
  refine lv_aload_n hx hb d_SC_mode_0 rfl (lv_at hl 0 rfl) ?_
  refine hq_get hx hb hts i_SC hown hK hP 0 (by decide) (sc_s_SC (rfl)) rfl 0 (by decide) (hts _ sc_wd_174) (fun _ h => h) (v := .ref (B + 1)) rfl d_SC_mode_1 ?_
  refine lv_iload_n hx hb d_SC_mode_4 rfl (lv_at hl 1 rfl) ?_
  obtain ⟨r1, M_2, hc3, hf⟩ := hm_bI_some hf
  refine hq_callI (va_runVN (As := [.int x1]) (rest := []) ⟨hx, hb, hml, hown, hts⟩ (c_Pipe_hasStage (l := l) (D := D) (ca := ca) (B := B) (rl := rl)  hc3) (hq_cwN (nn := 1) hts sc_wd_186 sc_wd_31 sc_wd_187 sc_wd_188 sc_wd_189 (by decide +kernel) rfl rfl ⟨(Nat.le_of_ble_eq_true rfl), (Nat.le_of_ble_eq_true rfl)⟩) (hq_preV hKt hP (by decide) (sc_s_Pipe (rfl)) rfl) rfl rfl hl.1 rfl (lv_room (Nat.le_of_ble_eq_true rfl)) d_SC_mode_5 ⟨(Nat.le_of_ble_eq_true rfl), (Nat.le_of_ble_eq_true rfl)⟩) hS (fun H locs hP hS => ?_)
  refine lv_if_eq (tgt := 20) hx hb d_SC_mode_8 (by decide) (fun c4 => ?_) (fun c4 => ?_)
  · replace hf := (if_pos c4).symm.trans hf
    exact w_SC_mode_20 X _ _ _ _ (lv_sub hl [] rfl) hP hS hf
  · replace hf := (if_neg c4).symm.trans hf
    refine lv_iload_n hx hb d_SC_mode_11 rfl (lv_at hl 2 rfl) ?_
    refine lv_if_lt (tgt := 20) hx hb d_SC_mode_12 (by decide) (fun c5 => ?_) (fun c5 => ?_)
    · replace hf := (if_pos c5).symm.trans hf
      exact w_SC_mode_20 X _ _ _ _ (lv_sub hl [] rfl) hP hS hf
    · replace hf := (if_neg c5).symm.trans hf
      refine lv_iload_n hx hb d_SC_mode_15 rfl (lv_at hl 2 rfl) ?_
      refine lv_iconst (v := 2) hx hb d_SC_mode_16 (by decide) ?_
      refine lv_icmp_le (tgt := 22) hx hb d_SC_mode_17 (by decide) (fun c6 => ?_) (fun c6 => ?_)
      · replace hf := (if_pos c6).symm.trans hf
        refine lv_aload_n hx hb d_SC_mode_22 rfl (lv_at hl 0 rfl) ?_
        refine hq_get hx hb hts i_SC hown hK hP 0 (by decide) (sc_s_SC (rfl)) rfl 0 (by decide) (hts _ sc_wd_174) (fun _ h => h) (v := .ref (B + 1)) rfl d_SC_mode_23 ?_
        refine hq_getN hx hb hts i_Pipe hown hK hP 1 (by decide) (sc_s_Pipe (rfl)) rfl 1 (by decide) (hts _ sc_wd_190) (fun _ h => h) (v := .ref (B + 2)) rfl d_SC_mode_26 ?_
        refine lv_iload_n hx hb d_SC_mode_29 rfl (lv_at hl 1 rfl) ?_
        obtain ⟨g7, hf⟩ := hm_gd_some hf
        refine hq_aald hx hb hK hP 2 (by decide) (sc_s_starr (rfl)) 2 rfl rfl g7 d_SC_mode_30 ?_
        refine lv_iload_n hx hb d_SC_mode_31 rfl (lv_at hl 2 rfl) ?_
        refine hq_putN hx hb hts i_Stage t_Stage t_Stage_ok n_Stage hown hK hP hS (5 + 4 * x1.toNatClampNeg) (sc_lt (sck_st g7) (by decide)) (sc_s_Stage ((sck_st g7))) rfl 2 (by decide) (hts _ sc_wd_196) (fun _ h => h) rfl (ty := .int) (x := x2) (by decide +kernel) rfl rfl rfl d_SC_mode_32 (fun H locs hP hS => ?_)
        obtain ⟨M_8, e_8, hf⟩ := hm_st_some hf
        rw [← e_8] at hP
        refine lv_aload_n hx hb d_SC_mode_35 rfl (lv_at hl 0 rfl) ?_
        obtain ⟨M_10, hc11, hf⟩ := hm_bV_some hf
        refine hq_callV (va_runV (As := []) (rest := []) ⟨hx, hb, hml, hown, hts⟩ (c_SC_forgetCompiled (l := l) (D := D) (ca := ca) (B := B) (rl := rl)  hc11) (hq_cwV (nn := 0) hts sc_wd_176 sc_wd_177 sc_wd_178 sc_wd_179 sc_wd_180 (by decide +kernel) rfl rfl ⟨(Nat.le_of_ble_eq_true rfl), (Nat.le_of_ble_eq_true rfl)⟩) (hq_preV hKt hP (by decide) (sc_s_SC (rfl)) rfl) rfl rfl hl.1 rfl (lv_room (Nat.le_of_ble_eq_true rfl)) d_SC_mode_36 ⟨(Nat.le_of_ble_eq_true rfl), (Nat.le_of_ble_eq_true rfl)⟩) hS (fun H locs hP hS => ?_)
        refine lv_iconst (v := 0) hx hb d_SC_mode_39 (by decide) ?_
        obtain ⟨h9, h8⟩ := Prod.mk.inj (Option.some.inj hf)
        subst h9
        subst h8
        exact W.iret hx hb hr (fun t ht _ => ⟨⟨_, (), rfl, rfl, by subst ht; exact hP⟩, hS.F ht⟩) hS.2.2 d_SC_mode_40 hlk
      · replace hf := (if_neg c6).symm.trans hf
        exact w_SC_mode_20 X _ _ _ _ (lv_sub hl [] rfl) hP hS hf
set_option maxHeartbeats 4000000 in
set_option maxRecDepth 100000 in
theorem c_SC_mode {l : Launch} {D : va_G} {ca : Nat → ClassId} {B rl : Nat} {r : Int32} {x1 : Int32} {x2 : Int32} {M M9 : hm_M} (hf : f_SC_mode M x1 x2 = some (r, M9)) : Met l y_SC_mode [Cond.code y_SC_mode b_SC_mode 3 (some .int)] ({ frames := 1, cells := 0, slots := 0, locals := 21 } : Room) (hq_Pre D sc_cl ca 64 (sc_sh rl) B (sc_ty ca) hq_tb M hm_L0 [.ref (B + 0), .int x1, .int x2]) (hq_QI D sc_cl ca 64 (sc_sh rl) B r M9 hm_L0) 0 0 (hm_A B 64) := by
  refine Met.ofW (cc := b_SC_mode) (maxL := 3) (ret := (some .int)) (by decide +kernel) rfl ?_
  intro p e s m args below meth c s₁ Bd hml hv
  obtain ⟨rfl, hP, hK⟩ := hv
  have hl := lv_entry ([.ref (B + 0), .int x1, .int x2]) (n := 3) (Nat.le_of_ble_eq_true rfl)
  rw [lg_entry_eq]
  generalize (lg_sl ([.ref (B + 0), .int x1, .int x2]) ++ List.replicate (3 - (lg_sl ([.ref (B + 0), .int x1, .int x2])).length) Slot.unset).toArray = ls at hl ⊢
  have hl : lv_has ls 3 [(0, .ref (B + 0)), (1, .int x1), (2, .int x2)] := hl
  exact w_SC_mode_e ⟨Bd.exec, Bd.bytes, hml, findClass_of_methodNamed Bd.named, Bd.returns, Bd.notSynchronized, hK⟩  _ _ _ _ _ _ hl hP va_S.rf hf
set_option maxHeartbeats 4000000 in
set_option maxRecDepth 100000 in
theorem w_SC_tile_11 {p : Program} {l : Launch} {e : Env} {s : State} {m : MethodId} {args : Array Value} {below : List Frame} {meth : Method} {c : Code} {D : va_G} {ca : Nat → ClassId} {B rl : Nat} {r : Int32} {M9 : hm_M} (X : hq_X p s m args meth c b_SC_tile R_SC 2 (some .int) D sc_cl (sc_ty ca) hq_tb) : ∀ (M : hm_M) (H : Heap) (locs : List Loc) (ls : Array Slot), lv_has ls 2 [] → hm_P D sc_cl ca 64 (sc_sh rl) B M hm_L0 H → va_S (hm_A B 64) s.heap H locs → f_SC_tile_11 M = some (r, M9) → W p l e ({ frames := 1, cells := 0, slots := 0, locals := 20 } : Room) s m args below meth c H locs 0 0 (MQ below (hq_QI D sc_cl ca 64 (sc_sh rl) B r M9 hm_L0) args s 0 0 (hm_A B 64)) (F0 m 11 ls []) := by
  obtain ⟨hx, hb, hml, hown, hr, hlk, hKt⟩ := id X
  have hK := hKt.1
  have hts : ∀ w ∈ hq_tb, w.before args s = true := fun w h => hKt.2.2 w h args
  intro  M H locs ls hl hP hS hf
  unfold f_SC_tile_11 at hf
  refine lv_iconst (v := (-1)) hx hb d_SC_tile_11 (by decide) ?_
  obtain ⟨h9, h8⟩ := Prod.mk.inj (Option.some.inj hf)
  subst h9
  subst h8
  exact W.iret hx hb hr (fun t ht _ => ⟨⟨_, (), rfl, rfl, by subst ht; exact hP⟩, hS.F ht⟩) hS.2.2 d_SC_tile_12 hlk
set_option maxHeartbeats 4000000 in
set_option maxRecDepth 100000 in
theorem w_SC_tile_e {p : Program} {l : Launch} {e : Env} {s : State} {m : MethodId} {args : Array Value} {below : List Frame} {meth : Method} {c : Code} {D : va_G} {ca : Nat → ClassId} {B rl : Nat} {r : Int32} {M9 : hm_M} (X : hq_X p s m args meth c b_SC_tile R_SC 2 (some .int) D sc_cl (sc_ty ca) hq_tb) : ∀ (x1 : Int32), ∀ (M : hm_M) (H : Heap) (locs : List Loc) (ls : Array Slot), lv_has ls 2 [(0, .ref (B + 0)), (1, .int x1)] → hm_P D sc_cl ca 64 (sc_sh rl) B M hm_L0 H → va_S (hm_A B 64) s.heap H locs → f_SC_tile M x1 = some (r, M9) → W p l e ({ frames := 1, cells := 0, slots := 0, locals := 20 } : Room) s m args below meth c H locs 0 0 (MQ below (hq_QI D sc_cl ca 64 (sc_sh rl) B r M9 hm_L0) args s 0 0 (hm_A B 64)) (F0 m 0 ls []) := by
  obtain ⟨hx, hb, hml, hown, hr, hlk, hKt⟩ := id X
  have hK := hKt.1
  have hts : ∀ w ∈ hq_tb, w.before args s = true := fun w h => hKt.2.2 w h args
  intro x1 M H locs ls hl hP hS hf
  unfold f_SC_tile at hf
  refine lv_iload_n hx hb d_SC_tile_0 rfl (lv_at hl 1 rfl) ?_
  refine lv_iconst (v := 1) hx hb d_SC_tile_1 (by decide) ?_
  refine lv_icmp_lt (tgt := 11) hx hb d_SC_tile_2 (by decide) (fun c1 => ?_) (fun c1 => ?_)
  · replace hf := (if_pos c1).symm.trans hf
    exact w_SC_tile_11 X _ _ _ _ (lv_sub hl [] rfl) hP hS hf
  · replace hf := (if_neg c1).symm.trans hf
    refine lv_iload_n hx hb d_SC_tile_5 rfl (lv_at hl 1 rfl) ?_
    refine lv_bipush (v := 32) hx hb d_SC_tile_6 (by decide) ?_
    refine lv_icmp_le (tgt := 13) hx hb d_SC_tile_8 (by decide) (fun c2 => ?_) (fun c2 => ?_)
    · replace hf := (if_pos c2).symm.trans hf
      refine lv_aload_n hx hb d_SC_tile_13 rfl (lv_at hl 0 rfl) ?_
      refine hq_get hx hb hts i_SC hown hK hP 0 (by decide) (sc_s_SC (rfl)) rfl 0 (by decide) (hts _ sc_wd_174) (fun _ h => h) (v := .ref (B + 1)) rfl d_SC_tile_14 ?_
      refine lv_iload_n hx hb d_SC_tile_17 rfl (lv_at hl 1 rfl) ?_
      refine hq_putN hx hb hts i_Pipe t_Pipe t_Pipe_ok n_Pipe hown hK hP hS 1 (by decide) (sc_s_Pipe (rfl)) rfl 4 (by decide) (hts _ sc_wd_197) (fun _ h => h) rfl (ty := .int) (x := x1) (by decide +kernel) rfl rfl rfl d_SC_tile_18 (fun H locs hP hS => ?_)
      obtain ⟨M_3, e_3, hf⟩ := hm_st_some hf
      rw [← e_3] at hP
      refine lv_aload_n hx hb d_SC_tile_21 rfl (lv_at hl 0 rfl) ?_
      obtain ⟨M_5, hc6, hf⟩ := hm_bV_some hf
      refine hq_callV (va_runV (As := []) (rest := []) ⟨hx, hb, hml, hown, hts⟩ (c_SC_forgetCompiled (l := l) (D := D) (ca := ca) (B := B) (rl := rl)  hc6) (hq_cwV (nn := 0) hts sc_wd_176 sc_wd_177 sc_wd_178 sc_wd_179 sc_wd_180 (by decide +kernel) rfl rfl ⟨(Nat.le_of_ble_eq_true rfl), (Nat.le_of_ble_eq_true rfl)⟩) (hq_preV hKt hP (by decide) (sc_s_SC (rfl)) rfl) rfl rfl hl.1 rfl (lv_room (Nat.le_of_ble_eq_true rfl)) d_SC_tile_22 ⟨(Nat.le_of_ble_eq_true rfl), (Nat.le_of_ble_eq_true rfl)⟩) hS (fun H locs hP hS => ?_)
      refine lv_iconst (v := 0) hx hb d_SC_tile_25 (by decide) ?_
      obtain ⟨h9, h8⟩ := Prod.mk.inj (Option.some.inj hf)
      subst h9
      subst h8
      exact W.iret hx hb hr (fun t ht _ => ⟨⟨_, (), rfl, rfl, by subst ht; exact hP⟩, hS.F ht⟩) hS.2.2 d_SC_tile_26 hlk
    · replace hf := (if_neg c2).symm.trans hf
      exact w_SC_tile_11 X _ _ _ _ (lv_sub hl [] rfl) hP hS hf
set_option maxHeartbeats 4000000 in
set_option maxRecDepth 100000 in
theorem c_SC_tile {l : Launch} {D : va_G} {ca : Nat → ClassId} {B rl : Nat} {r : Int32} {x1 : Int32} {M M9 : hm_M} (hf : f_SC_tile M x1 = some (r, M9)) : Met l y_SC_tile [Cond.code y_SC_tile b_SC_tile 2 (some .int)] ({ frames := 1, cells := 0, slots := 0, locals := 20 } : Room) (hq_Pre D sc_cl ca 64 (sc_sh rl) B (sc_ty ca) hq_tb M hm_L0 [.ref (B + 0), .int x1]) (hq_QI D sc_cl ca 64 (sc_sh rl) B r M9 hm_L0) 0 0 (hm_A B 64) := by
  refine Met.ofW (cc := b_SC_tile) (maxL := 2) (ret := (some .int)) (by decide +kernel) rfl ?_
  intro p e s m args below meth c s₁ Bd hml hv
  obtain ⟨rfl, hP, hK⟩ := hv
  have hl := lv_entry ([.ref (B + 0), .int x1]) (n := 2) (Nat.le_of_ble_eq_true rfl)
  rw [lg_entry_eq]
  generalize (lg_sl ([.ref (B + 0), .int x1]) ++ List.replicate (2 - (lg_sl ([.ref (B + 0), .int x1])).length) Slot.unset).toArray = ls at hl ⊢
  have hl : lv_has ls 2 [(0, .ref (B + 0)), (1, .int x1)] := hl
  exact w_SC_tile_e ⟨Bd.exec, Bd.bytes, hml, findClass_of_methodNamed Bd.named, Bd.returns, Bd.notSynchronized, hK⟩  _ _ _ _ _ hl hP va_S.rf hf
set_option maxHeartbeats 4000000 in
set_option maxRecDepth 100000 in
theorem w_SC_output_22 {p : Program} {l : Launch} {e : Env} {s : State} {m : MethodId} {args : Array Value} {below : List Frame} {meth : Method} {c : Code} {D : va_G} {ca : Nat → ClassId} {B rl : Nat} {r : Int32} {M9 : hm_M} (X : hq_X p s m args meth c b_SC_output R_SC 3 (some .int) D sc_cl (sc_ty ca) hq_tb) : ∀ (M : hm_M) (H : Heap) (locs : List Loc) (ls : Array Slot), lv_has ls 3 [] → hm_P D sc_cl ca 64 (sc_sh rl) B M hm_L0 H → va_S (hm_A B 64) s.heap H locs → f_SC_output_22 M = some (r, M9) → W p l e ({ frames := 1, cells := 0, slots := 0, locals := 21 } : Room) s m args below meth c H locs 0 0 (MQ below (hq_QI D sc_cl ca 64 (sc_sh rl) B r M9 hm_L0) args s 0 0 (hm_A B 64)) (F0 m 22 ls []) := by
  obtain ⟨hx, hb, hml, hown, hr, hlk, hKt⟩ := id X
  have hK := hKt.1
  have hts : ∀ w ∈ hq_tb, w.before args s = true := fun w h => hKt.2.2 w h args
  intro  M H locs ls hl hP hS hf
  unfold f_SC_output_22 at hf
  refine lv_iconst (v := (-1)) hx hb d_SC_output_22 (by decide) ?_
  obtain ⟨h9, h8⟩ := Prod.mk.inj (Option.some.inj hf)
  subst h9
  subst h8
  exact W.iret hx hb hr (fun t ht _ => ⟨⟨_, (), rfl, rfl, by subst ht; exact hP⟩, hS.F ht⟩) hS.2.2 d_SC_output_23 hlk
set_option maxHeartbeats 4000000 in
set_option maxRecDepth 100000 in
theorem w_SC_output_e {p : Program} {l : Launch} {e : Env} {s : State} {m : MethodId} {args : Array Value} {below : List Frame} {meth : Method} {c : Code} {D : va_G} {ca : Nat → ClassId} {B rl : Nat} {r : Int32} {M9 : hm_M} (X : hq_X p s m args meth c b_SC_output R_SC 3 (some .int) D sc_cl (sc_ty ca) hq_tb) : ∀ (x1 : Int32), ∀ (x2 : Int32), ∀ (M : hm_M) (H : Heap) (locs : List Loc) (ls : Array Slot), lv_has ls 3 [(0, .ref (B + 0)), (1, .int x1), (2, .int x2)] → hm_P D sc_cl ca 64 (sc_sh rl) B M hm_L0 H → va_S (hm_A B 64) s.heap H locs → f_SC_output M x1 x2 = some (r, M9) → W p l e ({ frames := 1, cells := 0, slots := 0, locals := 21 } : Room) s m args below meth c H locs 0 0 (MQ below (hq_QI D sc_cl ca 64 (sc_sh rl) B r M9 hm_L0) args s 0 0 (hm_A B 64)) (F0 m 0 ls []) := by
  obtain ⟨hx, hb, hml, hown, hr, hlk, hKt⟩ := id X
  have hK := hKt.1
  have hts : ∀ w ∈ hq_tb, w.before args s = true := fun w h => hKt.2.2 w h args
  intro x1 x2 M H locs ls hl hP hS hf
  unfold f_SC_output at hf
  refine lv_aload_n hx hb d_SC_output_0 rfl (lv_at hl 0 rfl) ?_
  refine hq_get hx hb hts i_SC hown hK hP 0 (by decide) (sc_s_SC (rfl)) rfl 0 (by decide) (hts _ sc_wd_174) (fun _ h => h) (v := .ref (B + 1)) rfl d_SC_output_1 ?_
  refine lv_iload_n hx hb d_SC_output_4 rfl (lv_at hl 1 rfl) ?_
  obtain ⟨r1, M_2, hc3, hf⟩ := hm_bI_some hf
  refine hq_callI (va_runVN (As := [.int x1]) (rest := []) ⟨hx, hb, hml, hown, hts⟩ (c_Pipe_hasStage (l := l) (D := D) (ca := ca) (B := B) (rl := rl)  hc3) (hq_cwN (nn := 1) hts sc_wd_186 sc_wd_31 sc_wd_187 sc_wd_188 sc_wd_189 (by decide +kernel) rfl rfl ⟨(Nat.le_of_ble_eq_true rfl), (Nat.le_of_ble_eq_true rfl)⟩) (hq_preV hKt hP (by decide) (sc_s_Pipe (rfl)) rfl) rfl rfl hl.1 rfl (lv_room (Nat.le_of_ble_eq_true rfl)) d_SC_output_5 ⟨(Nat.le_of_ble_eq_true rfl), (Nat.le_of_ble_eq_true rfl)⟩) hS (fun H locs hP hS => ?_)
  refine lv_if_eq (tgt := 22) hx hb d_SC_output_8 (by decide) (fun c4 => ?_) (fun c4 => ?_)
  · replace hf := (if_pos c4).symm.trans hf
    exact w_SC_output_22 X _ _ _ _ (lv_sub hl [] rfl) hP hS hf
  · replace hf := (if_neg c4).symm.trans hf
    refine lv_iload_n hx hb d_SC_output_11 rfl (lv_at hl 2 rfl) ?_
    refine lv_iconst (v := 1) hx hb d_SC_output_12 (by decide) ?_
    refine lv_icmp_lt (tgt := 22) hx hb d_SC_output_13 (by decide) (fun c5 => ?_) (fun c5 => ?_)
    · replace hf := (if_pos c5).symm.trans hf
      exact w_SC_output_22 X _ _ _ _ (lv_sub hl [] rfl) hP hS hf
    · replace hf := (if_neg c5).symm.trans hf
      refine lv_iload_n hx hb d_SC_output_16 rfl (lv_at hl 2 rfl) ?_
      refine lv_bipush (v := 32) hx hb d_SC_output_17 (by decide) ?_
      refine lv_icmp_le (tgt := 24) hx hb d_SC_output_19 (by decide) (fun c6 => ?_) (fun c6 => ?_)
      · replace hf := (if_pos c6).symm.trans hf
        refine lv_aload_n hx hb d_SC_output_24 rfl (lv_at hl 0 rfl) ?_
        refine hq_get hx hb hts i_SC hown hK hP 0 (by decide) (sc_s_SC (rfl)) rfl 0 (by decide) (hts _ sc_wd_174) (fun _ h => h) (v := .ref (B + 1)) rfl d_SC_output_25 ?_
        refine lv_iload_n hx hb d_SC_output_28 rfl (lv_at hl 1 rfl) ?_
        refine hq_putN hx hb hts i_Pipe t_Pipe t_Pipe_ok n_Pipe hown hK hP hS 1 (by decide) (sc_s_Pipe (rfl)) rfl 5 (by decide) (hts _ sc_wd_198) (fun _ h => h) rfl (ty := .int) (x := x1) (by decide +kernel) rfl rfl rfl d_SC_output_29 (fun H locs hP hS => ?_)
        obtain ⟨M_7, e_7, hf⟩ := hm_st_some hf
        rw [← e_7] at hP
        refine lv_aload_n hx hb d_SC_output_32 rfl (lv_at hl 0 rfl) ?_
        refine hq_get hx hb hts i_SC hown hK hP 0 (by decide) (sc_s_SC (rfl)) rfl 0 (by decide) (hts _ sc_wd_174) (fun _ h => h) (v := .ref (B + 1)) rfl d_SC_output_33 ?_
        refine lv_iload_n hx hb d_SC_output_36 rfl (lv_at hl 2 rfl) ?_
        refine hq_putN hx hb hts i_Pipe t_Pipe t_Pipe_ok n_Pipe hown hK hP hS 1 (by decide) (sc_s_Pipe (rfl)) rfl 6 (by decide) (hts _ sc_wd_199) (fun _ h => h) rfl (ty := .int) (x := x2) (by decide +kernel) rfl rfl rfl d_SC_output_37 (fun H locs hP hS => ?_)
        obtain ⟨M_8, e_8, hf⟩ := hm_st_some hf
        rw [← e_8] at hP
        refine lv_aload_n hx hb d_SC_output_40 rfl (lv_at hl 0 rfl) ?_
        obtain ⟨M_10, hc11, hf⟩ := hm_bV_some hf
        refine hq_callV (va_runV (As := []) (rest := []) ⟨hx, hb, hml, hown, hts⟩ (c_SC_forgetCompiled (l := l) (D := D) (ca := ca) (B := B) (rl := rl)  hc11) (hq_cwV (nn := 0) hts sc_wd_176 sc_wd_177 sc_wd_178 sc_wd_179 sc_wd_180 (by decide +kernel) rfl rfl ⟨(Nat.le_of_ble_eq_true rfl), (Nat.le_of_ble_eq_true rfl)⟩) (hq_preV hKt hP (by decide) (sc_s_SC (rfl)) rfl) rfl rfl hl.1 rfl (lv_room (Nat.le_of_ble_eq_true rfl)) d_SC_output_41 ⟨(Nat.le_of_ble_eq_true rfl), (Nat.le_of_ble_eq_true rfl)⟩) hS (fun H locs hP hS => ?_)
        refine lv_iconst (v := 0) hx hb d_SC_output_44 (by decide) ?_
        obtain ⟨h9, h8⟩ := Prod.mk.inj (Option.some.inj hf)
        subst h9
        subst h8
        exact W.iret hx hb hr (fun t ht _ => ⟨⟨_, (), rfl, rfl, by subst ht; exact hP⟩, hS.F ht⟩) hS.2.2 d_SC_output_45 hlk
      · replace hf := (if_neg c6).symm.trans hf
        exact w_SC_output_22 X _ _ _ _ (lv_sub hl [] rfl) hP hS hf
set_option maxHeartbeats 4000000 in
set_option maxRecDepth 100000 in
theorem c_SC_output {l : Launch} {D : va_G} {ca : Nat → ClassId} {B rl : Nat} {r : Int32} {x1 : Int32} {x2 : Int32} {M M9 : hm_M} (hf : f_SC_output M x1 x2 = some (r, M9)) : Met l y_SC_output [Cond.code y_SC_output b_SC_output 3 (some .int)] ({ frames := 1, cells := 0, slots := 0, locals := 21 } : Room) (hq_Pre D sc_cl ca 64 (sc_sh rl) B (sc_ty ca) hq_tb M hm_L0 [.ref (B + 0), .int x1, .int x2]) (hq_QI D sc_cl ca 64 (sc_sh rl) B r M9 hm_L0) 0 0 (hm_A B 64) := by
  refine Met.ofW (cc := b_SC_output) (maxL := 3) (ret := (some .int)) (by decide +kernel) rfl ?_
  intro p e s m args below meth c s₁ Bd hml hv
  obtain ⟨rfl, hP, hK⟩ := hv
  have hl := lv_entry ([.ref (B + 0), .int x1, .int x2]) (n := 3) (Nat.le_of_ble_eq_true rfl)
  rw [lg_entry_eq]
  generalize (lg_sl ([.ref (B + 0), .int x1, .int x2]) ++ List.replicate (3 - (lg_sl ([.ref (B + 0), .int x1, .int x2])).length) Slot.unset).toArray = ls at hl ⊢
  have hl : lv_has ls 3 [(0, .ref (B + 0)), (1, .int x1), (2, .int x2)] := hl
  exact w_SC_output_e ⟨Bd.exec, Bd.bytes, hml, findClass_of_methodNamed Bd.named, Bd.returns, Bd.notSynchronized, hK⟩  _ _ _ _ _ _ hl hP va_S.rf hf
set_option maxHeartbeats 4000000 in
set_option maxRecDepth 100000 in
theorem w_SC_compile_e {p : Program} {l : Launch} {e : Env} {s : State} {m : MethodId} {args : Array Value} {below : List Frame} {meth : Method} {c : Code} {D : va_G} {ca : Nat → ClassId} {B rl : Nat} {r : Int32} {M9 : hm_M} (X : hq_X p s m args meth c b_SC_compile R_SC 2 (some .int) D sc_cl (sc_ty ca) hq_tb) : ∀ (M : hm_M) (H : Heap) (locs : List Loc) (ls : Array Slot), lv_has ls 2 [(0, .ref (B + 0))] → hm_P D sc_cl ca 64 (sc_sh rl) B M hm_L0 H → va_S (hm_A B 64) s.heap H locs → f_SC_compile M = some (r, M9) → W p l e ({ frames := 6, cells := 0, slots := 0, locals := 135 } : Room) s m args below meth c H locs 0 0 (MQ below (hq_QI D sc_cl ca 64 (sc_sh rl) B r M9 hm_L0) args s 0 0 (hm_A B 64)) (F0 m 0 ls []) := by
  obtain ⟨hx, hb, hml, hown, hr, hlk, hKt⟩ := id X
  have hK := hKt.1
  have hts : ∀ w ∈ hq_tb, w.before args s = true := fun w h => hKt.2.2 w h args
  intro  M H locs ls hl hP hS hf
  unfold f_SC_compile at hf
  refine lv_aload_n hx hb d_SC_compile_0 rfl (lv_at hl 0 rfl) ?_
  refine hq_get hx hb hts i_SC hown hK hP 0 (by decide) (sc_s_SC (rfl)) rfl 3 (by decide) (hts _ sc_wd_172) (fun _ h => h) (v := .int (M 0 3)) rfl d_SC_compile_1 ?_
  refine lv_if_eq (tgt := 10) hx hb d_SC_compile_4 (by decide) (fun c1 => ?_) (fun c1 => ?_)
  · replace hf := (if_pos c1).symm.trans hf
    refine lv_aload_n hx hb d_SC_compile_10 rfl (lv_at hl 0 rfl) ?_
    refine hq_get hx hb hts i_SC hown hK hP 0 (by decide) (sc_s_SC (rfl)) rfl 1 (by decide) (hts _ sc_wd_200) (fun _ h => h) (v := .ref (B + 37)) rfl d_SC_compile_11 ?_
    obtain ⟨r2, M_3, hc4, hf⟩ := hm_bI_some hf
    refine hq_callI (va_runVN (As := []) (rest := []) ⟨hx, hb, hml, hown, hts⟩ (c_Plan_draw (l := l) (D := D) (ca := ca) (B := B) (rl := rl)  hc4) (hq_cwN (nn := 0) hts sc_wd_201 sc_wd_59 sc_wd_202 sc_wd_203 sc_wd_204 (by decide +kernel) rfl rfl ⟨(Nat.le_of_ble_eq_true rfl), (Nat.le_of_ble_eq_true rfl)⟩) (hq_preV hKt hP (by decide) (sc_s_Plan (rfl)) rfl) rfl rfl hl.1 rfl (lv_room (Nat.le_of_ble_eq_true rfl)) d_SC_compile_14 ⟨(Nat.le_of_ble_eq_true rfl), (Nat.le_of_ble_eq_true rfl)⟩) hS (fun H locs hP hS => ?_)
    refine lv_istore_n (lv' := [(1, .int r2), (0, .ref (B + 0))]) hx hb d_SC_compile_17 rfl hl (by decide) rfl (fun ls hl => ?_)
    refine lv_iload_n hx hb d_SC_compile_18 rfl (lv_at hl 0 rfl) ?_
    refine lv_if_eq (tgt := 24) hx hb d_SC_compile_19 (by decide) (fun c5 => ?_) (fun c5 => ?_)
    · replace hf := (if_pos c5).symm.trans hf
      refine lv_aload_n hx hb d_SC_compile_24 rfl (lv_at hl 1 rfl) ?_
      refine lv_iconst (v := 1) hx hb d_SC_compile_25 (by decide) ?_
      refine hq_put hx hb hts i_SC t_SC t_SC_ok n_SC hown hK hP hS 0 (by decide) (sc_s_SC (rfl)) rfl 3 (by decide) (hts _ sc_wd_172) (fun _ h => h) rfl (ty := .boolean) (x := 1) (by decide +kernel) rfl rfl rfl d_SC_compile_26 (fun H locs hP hS => ?_)
      obtain ⟨M_6, e_6, hf⟩ := hm_st_some hf
      rw [← e_6] at hP
      refine lv_aload_n hx hb d_SC_compile_29 rfl (lv_at hl 1 rfl) ?_
      refine hq_get hx hb hts i_SC hown hK hP 0 (by decide) (sc_s_SC (rfl)) rfl 1 (by decide) (hts _ sc_wd_200) (fun _ h => h) (v := .ref (B + 37)) rfl d_SC_compile_30 ?_
      refine hq_getN hx hb hts i_Plan hown hK hP 37 (by decide) (sc_s_Plan (rfl)) rfl 5 (by decide) (hts _ sc_wd_205) (fun _ h => h) (v := .int (M_6 37 5)) rfl d_SC_compile_33 ?_
      obtain ⟨h9, h8⟩ := Prod.mk.inj (Option.some.inj hf)
      subst h9
      subst h8
      exact W.iret hx hb hr (fun t ht _ => ⟨⟨_, (), rfl, rfl, by subst ht; exact hP⟩, hS.F ht⟩) hS.2.2 d_SC_compile_36 hlk
    · replace hf := (if_neg c5).symm.trans hf
      refine lv_iload_n hx hb d_SC_compile_22 rfl (lv_at hl 0 rfl) ?_
      obtain ⟨h9, h8⟩ := Prod.mk.inj (Option.some.inj hf)
      subst h9
      subst h8
      exact W.iret hx hb hr (fun t ht _ => ⟨⟨_, (), rfl, rfl, by subst ht; exact hP⟩, hS.F ht⟩) hS.2.2 d_SC_compile_23 hlk
  · replace hf := (if_neg c1).symm.trans hf
    refine lv_bipush (v := (-3)) hx hb d_SC_compile_7 (by decide) ?_
    obtain ⟨h9, h8⟩ := Prod.mk.inj (Option.some.inj hf)
    subst h9
    subst h8
    exact W.iret hx hb hr (fun t ht _ => ⟨⟨_, (), rfl, rfl, by subst ht; exact hP⟩, hS.F ht⟩) hS.2.2 d_SC_compile_9 hlk
set_option maxHeartbeats 4000000 in
set_option maxRecDepth 100000 in
theorem c_SC_compile {l : Launch} {D : va_G} {ca : Nat → ClassId} {B rl : Nat} {r : Int32} {M M9 : hm_M} (hf : f_SC_compile M  = some (r, M9)) : Met l y_SC_compile [Cond.code y_SC_compile b_SC_compile 2 (some .int)] ({ frames := 6, cells := 0, slots := 0, locals := 135 } : Room) (hq_Pre D sc_cl ca 64 (sc_sh rl) B (sc_ty ca) hq_tb M hm_L0 [.ref (B + 0)]) (hq_QI D sc_cl ca 64 (sc_sh rl) B r M9 hm_L0) 0 0 (hm_A B 64) := by
  refine Met.ofW (cc := b_SC_compile) (maxL := 2) (ret := (some .int)) (by decide +kernel) rfl ?_
  intro p e s m args below meth c s₁ Bd hml hv
  obtain ⟨rfl, hP, hK⟩ := hv
  have hl := lv_entry ([.ref (B + 0)]) (n := 2) (Nat.le_of_ble_eq_true rfl)
  rw [lg_entry_eq]
  generalize (lg_sl ([.ref (B + 0)]) ++ List.replicate (2 - (lg_sl ([.ref (B + 0)])).length) Slot.unset).toArray = ls at hl ⊢
  have hl : lv_has ls 2 [(0, .ref (B + 0))] := hl
  exact w_SC_compile_e ⟨Bd.exec, Bd.bytes, hml, findClass_of_methodNamed Bd.named, Bd.returns, Bd.notSynchronized, hK⟩   _ _ _ _ hl hP va_S.rf hf
set_option maxHeartbeats 4000000 in
set_option maxRecDepth 100000 in
theorem w_SC_run_e {p : Program} {l : Launch} {e : Env} {s : State} {m : MethodId} {args : Array Value} {below : List Frame} {meth : Method} {c : Code} {D : va_G} {ca : Nat → ClassId} {B rl : Nat} {r : Int32} {M9 : hm_M} (X : hq_X p s m args meth c b_SC_run R_SC 1 (some .int) D sc_cl (sc_ty ca) hq_tb) : ∀ (M : hm_M) (H : Heap) (locs : List Loc) (ls : Array Slot), lv_has ls 1 [(0, .ref (B + 0))] → hm_P D sc_cl ca 64 (sc_sh rl) B M hm_L0 H → va_S (hm_A B 64) s.heap H locs → f_SC_run rl M = some (r, M9) → W p l e ({ frames := 31, cells := 0, slots := 0, locals := 634 } : Room) s m args below meth c H locs 0 0 (MQ below (hq_QI D sc_cl ca 64 (sc_sh rl) B r M9 hm_L0) args s 0 0 (hm_A B 64)) (F0 m 0 ls []) := by
  obtain ⟨hx, hb, hml, hown, hr, hlk, hKt⟩ := id X
  have hK := hKt.1
  have hts : ∀ w ∈ hq_tb, w.before args s = true := fun w h => hKt.2.2 w h args
  intro  M H locs ls hl hP hS hf
  unfold f_SC_run at hf
  refine lv_aload_n hx hb d_SC_run_0 rfl (lv_at hl 0 rfl) ?_
  refine hq_get hx hb hts i_SC hown hK hP 0 (by decide) (sc_s_SC (rfl)) rfl 3 (by decide) (hts _ sc_wd_172) (fun _ h => h) (v := .int (M 0 3)) rfl d_SC_run_1 ?_
  refine lv_if_ne (tgt := 10) hx hb d_SC_run_4 (by decide) (fun c1 => ?_) (fun c1 => ?_)
  · replace hf := (if_neg c1).symm.trans hf
    refine lv_aload_n hx hb d_SC_run_10 rfl (lv_at hl 0 rfl) ?_
    refine hq_get hx hb hts i_SC hown hK hP 0 (by decide) (sc_s_SC (rfl)) rfl 2 (by decide) (hts _ sc_wd_206) (fun _ h => h) (v := .ref (B + 48)) rfl d_SC_run_11 ?_
    refine lv_aload_n hx hb d_SC_run_14 rfl (lv_at hl 0 rfl) ?_
    refine hq_get hx hb hts i_SC hown hK hP 0 (by decide) (sc_s_SC (rfl)) rfl 1 (by decide) (hts _ sc_wd_200) (fun _ h => h) (v := .ref (B + 37)) rfl d_SC_run_15 ?_
    refine hq_getN hx hb hts i_Plan hown hK hP 37 (by decide) (sc_s_Plan (rfl)) rfl 1 (by decide) (hts _ sc_wd_207) (fun _ h => h) (v := .ref (B + 38)) rfl d_SC_run_18 ?_
    obtain ⟨M_3, hc4, hf⟩ := hm_bV_some hf
    refine hq_callV (va_runVN (As := [.ref (B + 38)]) (rest := []) ⟨hx, hb, hml, hown, hts⟩ (c_Runner_runSchedule (l := l) (D := D) (ca := ca) (B := B) (rl := rl) rfl hc4) (hq_cwN (nn := 1) hts sc_wd_208 sc_wd_125 sc_wd_209 sc_wd_210 sc_wd_211 (by decide +kernel) rfl rfl ⟨(Nat.le_of_ble_eq_true rfl), (Nat.le_of_ble_eq_true rfl)⟩) (hq_preV hKt hP (by decide) (sc_s_Runner (rfl)) rfl) rfl rfl hl.1 rfl (lv_room (Nat.le_of_ble_eq_true rfl)) d_SC_run_21 ⟨(Nat.le_of_ble_eq_true rfl), (Nat.le_of_ble_eq_true rfl)⟩) hS (fun H locs hP hS => ?_)
    refine lv_aload_n hx hb d_SC_run_24 rfl (lv_at hl 0 rfl) ?_
    refine lv_iconst (v := 1) hx hb d_SC_run_25 (by decide) ?_
    refine hq_put hx hb hts i_SC t_SC t_SC_ok n_SC hown hK hP hS 0 (by decide) (sc_s_SC (rfl)) rfl 4 (by decide) (hts _ sc_wd_173) (fun _ h => h) rfl (ty := .boolean) (x := 1) (by decide +kernel) rfl rfl rfl d_SC_run_26 (fun H locs hP hS => ?_)
    obtain ⟨M_5, e_5, hf⟩ := hm_st_some hf
    rw [← e_5] at hP
    refine lv_aload_n hx hb d_SC_run_29 rfl (lv_at hl 0 rfl) ?_
    refine hq_get hx hb hts i_SC hown hK hP 0 (by decide) (sc_s_SC (rfl)) rfl 0 (by decide) (hts _ sc_wd_174) (fun _ h => h) (v := .ref (B + 1)) rfl d_SC_run_30 ?_
    obtain ⟨r6, M_7, hc8, hf⟩ := hm_bI_some hf
    refine hq_callI (va_runVN (As := []) (rest := []) ⟨hx, hb, hml, hown, hts⟩ (c_Pipe_tileCount (l := l) (D := D) (ca := ca) (B := B) (rl := rl)  hc8) (hq_cwN (nn := 0) hts sc_wd_77 sc_wd_31 sc_wd_212 sc_wd_79 sc_wd_80 (by decide +kernel) rfl rfl ⟨(Nat.le_of_ble_eq_true rfl), (Nat.le_of_ble_eq_true rfl)⟩) (hq_preV hKt hP (by decide) (sc_s_Pipe (rfl)) rfl) rfl rfl hl.1 rfl (lv_room (Nat.le_of_ble_eq_true rfl)) d_SC_run_33 ⟨(Nat.le_of_ble_eq_true rfl), (Nat.le_of_ble_eq_true rfl)⟩) hS (fun H locs hP hS => ?_)
    obtain ⟨h9, h8⟩ := Prod.mk.inj (Option.some.inj hf)
    subst h9
    subst h8
    exact W.iret hx hb hr (fun t ht _ => ⟨⟨_, (), rfl, rfl, by subst ht; exact hP⟩, hS.F ht⟩) hS.2.2 d_SC_run_36 hlk
  · replace hf := (if_pos c1).symm.trans hf
    refine lv_bipush (v := (-3)) hx hb d_SC_run_7 (by decide) ?_
    obtain ⟨h9, h8⟩ := Prod.mk.inj (Option.some.inj hf)
    subst h9
    subst h8
    exact W.iret hx hb hr (fun t ht _ => ⟨⟨_, (), rfl, rfl, by subst ht; exact hP⟩, hS.F ht⟩) hS.2.2 d_SC_run_9 hlk
set_option maxHeartbeats 4000000 in
set_option maxRecDepth 100000 in
theorem c_SC_run {l : Launch} {D : va_G} {ca : Nat → ClassId} {B rl : Nat} {r : Int32} {M M9 : hm_M} (hf : f_SC_run rl M  = some (r, M9)) : Met l y_SC_run [Cond.code y_SC_run b_SC_run 1 (some .int)] ({ frames := 31, cells := 0, slots := 0, locals := 634 } : Room) (hq_Pre D sc_cl ca 64 (sc_sh rl) B (sc_ty ca) hq_tb M hm_L0 [.ref (B + 0)]) (hq_QI D sc_cl ca 64 (sc_sh rl) B r M9 hm_L0) 0 0 (hm_A B 64) := by
  refine Met.ofW (cc := b_SC_run) (maxL := 1) (ret := (some .int)) (by decide +kernel) rfl ?_
  intro p e s m args below meth c s₁ Bd hml hv
  obtain ⟨rfl, hP, hK⟩ := hv
  have hl := lv_entry ([.ref (B + 0)]) (n := 1) (Nat.le_of_ble_eq_true rfl)
  rw [lg_entry_eq]
  generalize (lg_sl ([.ref (B + 0)]) ++ List.replicate (1 - (lg_sl ([.ref (B + 0)])).length) Slot.unset).toArray = ls at hl ⊢
  have hl : lv_has ls 1 [(0, .ref (B + 0))] := hl
  exact w_SC_run_e ⟨Bd.exec, Bd.bytes, hml, findClass_of_methodNamed Bd.named, Bd.returns, Bd.notSynchronized, hK⟩   _ _ _ _ hl hP va_S.rf hf
set_option maxHeartbeats 4000000 in
set_option maxRecDepth 100000 in
theorem w_SC_cell_22 {p : Program} {l : Launch} {e : Env} {s : State} {m : MethodId} {args : Array Value} {below : List Frame} {meth : Method} {c : Code} {D : va_G} {ca : Nat → ClassId} {B rl : Nat} {r : Int64} {M9 : hm_M} (X : hq_X p s m args meth c b_SC_cell R_SC 2 (some .long) D sc_cl (sc_ty ca) hq_tb) : ∀ (M : hm_M) (H : Heap) (locs : List Loc) (ls : Array Slot), lv_has ls 2 [] → hm_P D sc_cl ca 64 (sc_sh rl) B M hm_L0 H → va_S (hm_A B 64) s.heap H locs → f_SC_cell_22 M = some (r, M9) → W p l e ({ frames := 0, cells := 0, slots := 0, locals := 0 } : Room) s m args below meth c H locs 0 0 (MQ below (hq_QL D sc_cl ca 64 (sc_sh rl) B r M9 hm_L0) args s 0 0 (hm_A B 64)) (F0 m 22 ls []) := by
  obtain ⟨hx, hb, hml, hown, hr, hlk, hKt⟩ := id X
  have hK := hKt.1
  have hts : ∀ w ∈ hq_tb, w.before args s = true := fun w h => hKt.2.2 w h args
  intro  M H locs ls hl hP hS hf
  unfold f_SC_cell_22 at hf
  refine lv_ldc2 (v := (-1000000000000)) hx hb hown (hts _ sc_wd_214) d_SC_cell_22 ?_
  obtain ⟨h9, h8⟩ := Prod.mk.inj (Option.some.inj hf)
  subst h9
  subst h8
  exact W.lret hx hb hr (fun t ht _ => ⟨⟨_, (), rfl, rfl, by subst ht; exact hP⟩, hS.F ht⟩) hS.2.2 d_SC_cell_25 hlk
set_option maxHeartbeats 4000000 in
set_option maxRecDepth 100000 in
theorem w_SC_cell_e {p : Program} {l : Launch} {e : Env} {s : State} {m : MethodId} {args : Array Value} {below : List Frame} {meth : Method} {c : Code} {D : va_G} {ca : Nat → ClassId} {B rl : Nat} {r : Int64} {M9 : hm_M} (X : hq_X p s m args meth c b_SC_cell R_SC 2 (some .long) D sc_cl (sc_ty ca) hq_tb) : ∀ (x1 : Int32), ∀ (M : hm_M) (H : Heap) (locs : List Loc) (ls : Array Slot), lv_has ls 2 [(0, .ref (B + 0)), (1, .int x1)] → hm_P D sc_cl ca 64 (sc_sh rl) B M hm_L0 H → va_S (hm_A B 64) s.heap H locs → f_SC_cell M x1 = some (r, M9) → W p l e ({ frames := 0, cells := 0, slots := 0, locals := 0 } : Room) s m args below meth c H locs 0 0 (MQ below (hq_QL D sc_cl ca 64 (sc_sh rl) B r M9 hm_L0) args s 0 0 (hm_A B 64)) (F0 m 0 ls []) := by
  obtain ⟨hx, hb, hml, hown, hr, hlk, hKt⟩ := id X
  have hK := hKt.1
  have hts : ∀ w ∈ hq_tb, w.before args s = true := fun w h => hKt.2.2 w h args
  intro x1 M H locs ls hl hP hS hf
  unfold f_SC_cell at hf
  refine lv_aload_n hx hb d_SC_cell_0 rfl (lv_at hl 0 rfl) ?_
  refine hq_get hx hb hts i_SC hown hK hP 0 (by decide) (sc_s_SC (rfl)) rfl 4 (by decide) (hts _ sc_wd_173) (fun _ h => h) (v := .int (M 0 4)) rfl d_SC_cell_1 ?_
  refine lv_if_eq (tgt := 22) hx hb d_SC_cell_4 (by decide) (fun c1 => ?_) (fun c1 => ?_)
  · replace hf := (if_pos c1).symm.trans hf
    exact w_SC_cell_22 X _ _ _ _ (lv_sub hl [] rfl) hP hS hf
  · replace hf := (if_neg c1).symm.trans hf
    refine lv_iload_n hx hb d_SC_cell_7 rfl (lv_at hl 1 rfl) ?_
    refine lv_if_lt (tgt := 22) hx hb d_SC_cell_8 (by decide) (fun c2 => ?_) (fun c2 => ?_)
    · replace hf := (if_pos c2).symm.trans hf
      exact w_SC_cell_22 X _ _ _ _ (lv_sub hl [] rfl) hP hS hf
    · replace hf := (if_neg c2).symm.trans hf
      refine lv_iload_n hx hb d_SC_cell_11 rfl (lv_at hl 1 rfl) ?_
      refine lv_aload_n hx hb d_SC_cell_12 rfl (lv_at hl 0 rfl) ?_
      refine hq_get hx hb hts i_SC hown hK hP 0 (by decide) (sc_s_SC (rfl)) rfl 0 (by decide) (hts _ sc_wd_174) (fun _ h => h) (v := .ref (B + 1)) rfl d_SC_cell_13 ?_
      refine hq_getN hx hb hts i_Pipe hown hK hP 1 (by decide) (sc_s_Pipe (rfl)) rfl 6 (by decide) (hts _ sc_wd_199) (fun _ h => h) (v := .int (M 1 6)) rfl d_SC_cell_16 ?_
      refine lv_icmp_lt (tgt := 26) hx hb d_SC_cell_19 (by decide) (fun c3 => ?_) (fun c3 => ?_)
      · replace hf := (if_pos c3).symm.trans hf
        refine lv_aload_n hx hb d_SC_cell_26 rfl (lv_at hl 0 rfl) ?_
        refine hq_get hx hb hts i_SC hown hK hP 0 (by decide) (sc_s_SC (rfl)) rfl 2 (by decide) (hts _ sc_wd_206) (fun _ h => h) (v := .ref (B + 48)) rfl d_SC_cell_27 ?_
        refine hq_getN hx hb hts i_Runner hown hK hP 48 (by decide) (sc_s_Runner (rfl)) rfl 4 (by decide) (hts _ sc_wd_213) (fun _ h => h) (v := .ref (B + 63)) rfl d_SC_cell_30 ?_
        refine lv_iload_n hx hb d_SC_cell_33 rfl (lv_at hl 1 rfl) ?_
        obtain ⟨g4, hf⟩ := hm_gd_some hf
        refine hq_iald hx hb hK hP 63 (by decide) (sc_s_ia32 (rfl)) 0 rfl g4 d_SC_cell_34 ?_
        refine lv_i2l (v := (M 63 x1.toNatClampNeg).toInt64) hx hb d_SC_cell_35 rfl ?_
        obtain ⟨h9, h8⟩ := Prod.mk.inj (Option.some.inj hf)
        subst h9
        subst h8
        exact W.lret hx hb hr (fun t ht _ => ⟨⟨_, (), rfl, rfl, by subst ht; exact hP⟩, hS.F ht⟩) hS.2.2 d_SC_cell_36 hlk
      · replace hf := (if_neg c3).symm.trans hf
        exact w_SC_cell_22 X _ _ _ _ (lv_sub hl [] rfl) hP hS hf
set_option maxHeartbeats 4000000 in
set_option maxRecDepth 100000 in
theorem c_SC_cell {l : Launch} {D : va_G} {ca : Nat → ClassId} {B rl : Nat} {r : Int64} {x1 : Int32} {M M9 : hm_M} (hf : f_SC_cell M x1 = some (r, M9)) : Met l y_SC_cell [Cond.code y_SC_cell b_SC_cell 2 (some .long)] ({ frames := 0, cells := 0, slots := 0, locals := 0 } : Room) (hq_Pre D sc_cl ca 64 (sc_sh rl) B (sc_ty ca) hq_tb M hm_L0 [.ref (B + 0), .int x1]) (hq_QL D sc_cl ca 64 (sc_sh rl) B r M9 hm_L0) 0 0 (hm_A B 64) := by
  refine Met.ofW (cc := b_SC_cell) (maxL := 2) (ret := (some .long)) (by decide +kernel) rfl ?_
  intro p e s m args below meth c s₁ Bd hml hv
  obtain ⟨rfl, hP, hK⟩ := hv
  have hl := lv_entry ([.ref (B + 0), .int x1]) (n := 2) (Nat.le_of_ble_eq_true rfl)
  rw [lg_entry_eq]
  generalize (lg_sl ([.ref (B + 0), .int x1]) ++ List.replicate (2 - (lg_sl ([.ref (B + 0), .int x1])).length) Slot.unset).toArray = ls at hl ⊢
  have hl : lv_has ls 2 [(0, .ref (B + 0)), (1, .int x1)] := hl
  exact w_SC_cell_e ⟨Bd.exec, Bd.bytes, hml, findClass_of_methodNamed Bd.named, Bd.returns, Bd.notSynchronized, hK⟩  _ _ _ _ _ hl hP va_S.rf hf
set_option maxHeartbeats 4000000 in
set_option maxRecDepth 100000 in
theorem w_SC_at_37 {p : Program} {l : Launch} {e : Env} {s : State} {m : MethodId} {args : Array Value} {below : List Frame} {meth : Method} {c : Code} {D : va_G} {ca : Nat → ClassId} {B rl : Nat} {r : Int64} {M9 : hm_M} (X : hq_X p s m args meth c b_SC_at R_SC 3 (some .long) D sc_cl (sc_ty ca) hq_tb) : ∀ (M : hm_M) (H : Heap) (locs : List Loc) (ls : Array Slot), lv_has ls 3 [] → hm_P D sc_cl ca 64 (sc_sh rl) B M hm_L0 H → va_S (hm_A B 64) s.heap H locs → f_SC_at_37 rl M = some (r, M9) → W p l e ({ frames := 28, cells := 0, slots := 0, locals := 565 } : Room) s m args below meth c H locs 0 0 (MQ below (hq_QL D sc_cl ca 64 (sc_sh rl) B r M9 hm_L0) args s 0 0 (hm_A B 64)) (F0 m 37 ls []) := by
  obtain ⟨hx, hb, hml, hown, hr, hlk, hKt⟩ := id X
  have hK := hKt.1
  have hts : ∀ w ∈ hq_tb, w.before args s = true := fun w h => hKt.2.2 w h args
  intro  M H locs ls hl hP hS hf
  unfold f_SC_at_37 at hf
  refine lv_ldc2 (v := (-1000000000000)) hx hb hown (hts _ sc_wd_214) d_SC_at_37 ?_
  obtain ⟨h9, h8⟩ := Prod.mk.inj (Option.some.inj hf)
  subst h9
  subst h8
  exact W.lret hx hb hr (fun t ht _ => ⟨⟨_, (), rfl, rfl, by subst ht; exact hP⟩, hS.F ht⟩) hS.2.2 d_SC_at_40 hlk
set_option maxHeartbeats 4000000 in
set_option maxRecDepth 100000 in
theorem w_SC_at_e {p : Program} {l : Launch} {e : Env} {s : State} {m : MethodId} {args : Array Value} {below : List Frame} {meth : Method} {c : Code} {D : va_G} {ca : Nat → ClassId} {B rl : Nat} {r : Int64} {M9 : hm_M} (X : hq_X p s m args meth c b_SC_at R_SC 3 (some .long) D sc_cl (sc_ty ca) hq_tb) : ∀ (x1 : Int32), ∀ (x2 : Int32), ∀ (M : hm_M) (H : Heap) (locs : List Loc) (ls : Array Slot), lv_has ls 3 [(0, .ref (B + 0)), (1, .int x1), (2, .int x2)] → hm_P D sc_cl ca 64 (sc_sh rl) B M hm_L0 H → va_S (hm_A B 64) s.heap H locs → f_SC_at rl M x1 x2 = some (r, M9) → W p l e ({ frames := 28, cells := 0, slots := 0, locals := 565 } : Room) s m args below meth c H locs 0 0 (MQ below (hq_QL D sc_cl ca 64 (sc_sh rl) B r M9 hm_L0) args s 0 0 (hm_A B 64)) (F0 m 0 ls []) := by
  obtain ⟨hx, hb, hml, hown, hr, hlk, hKt⟩ := id X
  have hK := hKt.1
  have hts : ∀ w ∈ hq_tb, w.before args s = true := fun w h => hKt.2.2 w h args
  intro x1 x2 M H locs ls hl hP hS hf
  unfold f_SC_at at hf
  refine lv_aload_n hx hb d_SC_at_0 rfl (lv_at hl 0 rfl) ?_
  refine hq_get hx hb hts i_SC hown hK hP 0 (by decide) (sc_s_SC (rfl)) rfl 0 (by decide) (hts _ sc_wd_174) (fun _ h => h) (v := .ref (B + 1)) rfl d_SC_at_1 ?_
  refine lv_iload_n hx hb d_SC_at_4 rfl (lv_at hl 1 rfl) ?_
  obtain ⟨r1, M_2, hc3, hf⟩ := hm_bI_some hf
  refine hq_callI (va_runVN (As := [.int x1]) (rest := []) ⟨hx, hb, hml, hown, hts⟩ (c_Pipe_hasStage (l := l) (D := D) (ca := ca) (B := B) (rl := rl)  hc3) (hq_cwN (nn := 1) hts sc_wd_186 sc_wd_31 sc_wd_187 sc_wd_188 sc_wd_189 (by decide +kernel) rfl rfl ⟨(Nat.le_of_ble_eq_true rfl), (Nat.le_of_ble_eq_true rfl)⟩) (hq_preV hKt hP (by decide) (sc_s_Pipe (rfl)) rfl) rfl rfl hl.1 rfl (lv_room (Nat.le_of_ble_eq_true rfl)) d_SC_at_5 ⟨(Nat.le_of_ble_eq_true rfl), (Nat.le_of_ble_eq_true rfl)⟩) hS (fun H locs hP hS => ?_)
  refine lv_if_eq (tgt := 37) hx hb d_SC_at_8 (by decide) (fun c4 => ?_) (fun c4 => ?_)
  · replace hf := (if_pos c4).symm.trans hf
    exact w_SC_at_37 X _ _ _ _ (lv_sub hl [] rfl) hP hS hf
  · replace hf := (if_neg c4).symm.trans hf
    refine lv_iload_n hx hb d_SC_at_11 rfl (lv_at hl 2 rfl) ?_
    refine lv_bipush (v := (-100)) hx hb d_SC_at_12 (by decide) ?_
    refine lv_icmp_lt (tgt := 37) hx hb d_SC_at_14 (by decide) (fun c5 => ?_) (fun c5 => ?_)
    · replace hf := (if_pos c5).symm.trans hf
      exact w_SC_at_37 X _ _ _ _ (lv_sub hl [] rfl) hP hS hf
    · replace hf := (if_neg c5).symm.trans hf
      refine lv_iload_n hx hb d_SC_at_17 rfl (lv_at hl 2 rfl) ?_
      refine lv_bipush (v := 100) hx hb d_SC_at_18 (by decide) ?_
      refine lv_icmp_gt (tgt := 37) hx hb d_SC_at_20 (by decide) (fun c6 => ?_) (fun c6 => ?_)
      · replace hf := (if_pos c6).symm.trans hf
        exact w_SC_at_37 X _ _ _ _ (lv_sub hl [] rfl) hP hS hf
      · replace hf := (if_neg c6).symm.trans hf
        refine lv_aload_n hx hb d_SC_at_23 rfl (lv_at hl 0 rfl) ?_
        refine hq_get hx hb hts i_SC hown hK hP 0 (by decide) (sc_s_SC (rfl)) rfl 0 (by decide) (hts _ sc_wd_174) (fun _ h => h) (v := .ref (B + 1)) rfl d_SC_at_24 ?_
        refine lv_iload_n hx hb d_SC_at_27 rfl (lv_at hl 1 rfl) ?_
        obtain ⟨r7, M_8, hc9, hf⟩ := hm_bI_some hf
        refine hq_callI (va_runVN (As := [.int x1]) (rest := []) ⟨hx, hb, hml, hown, hts⟩ (c_Pipe_valuesWorkedOutFor (l := l) (D := D) (ca := ca) (B := B) (rl := rl)  hc9) (hq_cwN (nn := 1) hts sc_wd_215 sc_wd_31 sc_wd_216 sc_wd_217 sc_wd_218 (by decide +kernel) rfl rfl ⟨(Nat.le_of_ble_eq_true rfl), (Nat.le_of_ble_eq_true rfl)⟩) (hq_preV hKt hP (by decide) (sc_s_Pipe (rfl)) rfl) rfl rfl hl.1 rfl (lv_room (Nat.le_of_ble_eq_true rfl)) d_SC_at_28 ⟨(Nat.le_of_ble_eq_true rfl), (Nat.le_of_ble_eq_true rfl)⟩) hS (fun H locs hP hS => ?_)
        refine lv_sipush (v := 3000) hx hb d_SC_at_31 (by decide) ?_
        refine lv_icmp_le (tgt := 41) hx hb d_SC_at_34 (by decide) (fun c10 => ?_) (fun c10 => ?_)
        · replace hf := (if_pos c10).symm.trans hf
          refine lv_aload_n hx hb d_SC_at_41 rfl (lv_at hl 0 rfl) ?_
          refine hq_get hx hb hts i_SC hown hK hP 0 (by decide) (sc_s_SC (rfl)) rfl 2 (by decide) (hts _ sc_wd_206) (fun _ h => h) (v := .ref (B + 48)) rfl d_SC_at_42 ?_
          refine lv_iload_n hx hb d_SC_at_45 rfl (lv_at hl 1 rfl) ?_
          refine lv_iload_n hx hb d_SC_at_46 rfl (lv_at hl 2 rfl) ?_
          obtain ⟨r11, M_12, hc13, hf⟩ := hm_bI_some hf
          refine hq_callI (va_runVN (As := [.int x1, .int x2]) (rest := []) ⟨hx, hb, hml, hown, hts⟩ (c_Runner_workOut (l := l) (D := D) (ca := ca) (B := B) (rl := rl)  hc13) (hq_cwN (nn := 2) hts sc_wd_124 sc_wd_125 sc_wd_219 sc_wd_127 sc_wd_128 (by decide +kernel) rfl rfl ⟨(Nat.le_of_ble_eq_true rfl), (Nat.le_of_ble_eq_true rfl)⟩) (hq_preV hKt hP (by decide) (sc_s_Runner (rfl)) rfl) rfl rfl hl.1 rfl (lv_room (Nat.le_of_ble_eq_true rfl)) d_SC_at_47 ⟨(Nat.le_of_ble_eq_true rfl), (Nat.le_of_ble_eq_true rfl)⟩) hS (fun H locs hP hS => ?_)
          refine lv_i2l (v := r11.toInt64) hx hb d_SC_at_50 rfl ?_
          obtain ⟨h9, h8⟩ := Prod.mk.inj (Option.some.inj hf)
          subst h9
          subst h8
          exact W.lret hx hb hr (fun t ht _ => ⟨⟨_, (), rfl, rfl, by subst ht; exact hP⟩, hS.F ht⟩) hS.2.2 d_SC_at_51 hlk
        · replace hf := (if_neg c10).symm.trans hf
          exact w_SC_at_37 X _ _ _ _ (lv_sub hl [] rfl) hP hS hf
set_option maxHeartbeats 4000000 in
set_option maxRecDepth 100000 in
theorem c_SC_at {l : Launch} {D : va_G} {ca : Nat → ClassId} {B rl : Nat} {r : Int64} {x1 : Int32} {x2 : Int32} {M M9 : hm_M} (hf : f_SC_at rl M x1 x2 = some (r, M9)) : Met l y_SC_at [Cond.code y_SC_at b_SC_at 3 (some .long)] ({ frames := 28, cells := 0, slots := 0, locals := 565 } : Room) (hq_Pre D sc_cl ca 64 (sc_sh rl) B (sc_ty ca) hq_tb M hm_L0 [.ref (B + 0), .int x1, .int x2]) (hq_QL D sc_cl ca 64 (sc_sh rl) B r M9 hm_L0) 0 0 (hm_A B 64) := by
  refine Met.ofW (cc := b_SC_at) (maxL := 3) (ret := (some .long)) (by decide +kernel) rfl ?_
  intro p e s m args below meth c s₁ Bd hml hv
  obtain ⟨rfl, hP, hK⟩ := hv
  have hl := lv_entry ([.ref (B + 0), .int x1, .int x2]) (n := 3) (Nat.le_of_ble_eq_true rfl)
  rw [lg_entry_eq]
  generalize (lg_sl ([.ref (B + 0), .int x1, .int x2]) ++ List.replicate (3 - (lg_sl ([.ref (B + 0), .int x1, .int x2])).length) Slot.unset).toArray = ls at hl ⊢
  have hl : lv_has ls 3 [(0, .ref (B + 0)), (1, .int x1), (2, .int x2)] := hl
  exact w_SC_at_e ⟨Bd.exec, Bd.bytes, hml, findClass_of_methodNamed Bd.named, Bd.returns, Bd.notSynchronized, hK⟩  _ _ _ _ _ _ hl hP va_S.rf hf
set_option maxHeartbeats 4000000 in
set_option maxRecDepth 100000 in
theorem w_SC_region_37 {p : Program} {l : Launch} {e : Env} {s : State} {m : MethodId} {args : Array Value} {below : List Frame} {meth : Method} {c : Code} {D : va_G} {ca : Nat → ClassId} {B rl : Nat} {r : Int32} {M9 : hm_M} (X : hq_X p s m args meth c b_SC_region R_SC 3 (some .int) D sc_cl (sc_ty ca) hq_tb) : ∀ (M : hm_M) (H : Heap) (locs : List Loc) (ls : Array Slot), lv_has ls 3 [] → hm_P D sc_cl ca 64 (sc_sh rl) B M hm_L0 H → va_S (hm_A B 64) s.heap H locs → f_SC_region_37 M = some (r, M9) → W p l e ({ frames := 1, cells := 0, slots := 0, locals := 21 } : Room) s m args below meth c H locs 0 0 (MQ below (hq_QI D sc_cl ca 64 (sc_sh rl) B r M9 hm_L0) args s 0 0 (hm_A B 64)) (F0 m 37 ls []) := by
  obtain ⟨hx, hb, hml, hown, hr, hlk, hKt⟩ := id X
  have hK := hKt.1
  have hts : ∀ w ∈ hq_tb, w.before args s = true := fun w h => hKt.2.2 w h args
  intro  M H locs ls hl hP hS hf
  unfold f_SC_region_37 at hf
  refine lv_sipush (v := (-2000)) hx hb d_SC_region_37 (by decide) ?_
  obtain ⟨h9, h8⟩ := Prod.mk.inj (Option.some.inj hf)
  subst h9
  subst h8
  exact W.iret hx hb hr (fun t ht _ => ⟨⟨_, (), rfl, rfl, by subst ht; exact hP⟩, hS.F ht⟩) hS.2.2 d_SC_region_40 hlk
set_option maxHeartbeats 4000000 in
set_option maxRecDepth 100000 in
theorem w_SC_region_72 {p : Program} {l : Launch} {e : Env} {s : State} {m : MethodId} {args : Array Value} {below : List Frame} {meth : Method} {c : Code} {D : va_G} {ca : Nat → ClassId} {B rl : Nat} {r : Int32} {M9 : hm_M} (X : hq_X p s m args meth c b_SC_region R_SC 3 (some .int) D sc_cl (sc_ty ca) hq_tb) : ∀ (y0 : Int32), ∀ (M : hm_M) (H : Heap) (locs : List Loc) (ls : Array Slot), lv_has ls 3 [] → hm_P D sc_cl ca 64 (sc_sh rl) B M hm_L0 H → va_S (hm_A B 64) s.heap H locs → f_SC_region_72 y0 M = some (r, M9) → W p l e ({ frames := 1, cells := 0, slots := 0, locals := 21 } : Room) s m args below meth c H locs 0 0 (MQ below (hq_QI D sc_cl ca 64 (sc_sh rl) B r M9 hm_L0) args s 0 0 (hm_A B 64)) (F0 m 72 ls [.int y0]) := by
  obtain ⟨hx, hb, hml, hown, hr, hlk, hKt⟩ := id X
  have hK := hKt.1
  have hts : ∀ w ∈ hq_tb, w.before args s = true := fun w h => hKt.2.2 w h args
  intro y0 M H locs ls hl hP hS hf
  unfold f_SC_region_72 at hf
  obtain ⟨h9, h8⟩ := Prod.mk.inj (Option.some.inj hf)
  subst h9
  subst h8
  exact W.iret hx hb hr (fun t ht _ => ⟨⟨_, (), rfl, rfl, by subst ht; exact hP⟩, hS.F ht⟩) hS.2.2 d_SC_region_72 hlk
set_option maxHeartbeats 4000000 in
set_option maxRecDepth 100000 in
theorem w_SC_region_e {p : Program} {l : Launch} {e : Env} {s : State} {m : MethodId} {args : Array Value} {below : List Frame} {meth : Method} {c : Code} {D : va_G} {ca : Nat → ClassId} {B rl : Nat} {r : Int32} {M9 : hm_M} (X : hq_X p s m args meth c b_SC_region R_SC 3 (some .int) D sc_cl (sc_ty ca) hq_tb) : ∀ (x1 : Int32), ∀ (x2 : Int32), ∀ (M : hm_M) (H : Heap) (locs : List Loc) (ls : Array Slot), lv_has ls 3 [(0, .ref (B + 0)), (1, .int x1), (2, .int x2)] → hm_P D sc_cl ca 64 (sc_sh rl) B M hm_L0 H → va_S (hm_A B 64) s.heap H locs → f_SC_region M x1 x2 = some (r, M9) → W p l e ({ frames := 1, cells := 0, slots := 0, locals := 21 } : Room) s m args below meth c H locs 0 0 (MQ below (hq_QI D sc_cl ca 64 (sc_sh rl) B r M9 hm_L0) args s 0 0 (hm_A B 64)) (F0 m 0 ls []) := by
  obtain ⟨hx, hb, hml, hown, hr, hlk, hKt⟩ := id X
  have hK := hKt.1
  have hts : ∀ w ∈ hq_tb, w.before args s = true := fun w h => hKt.2.2 w h args
  intro x1 x2 M H locs ls hl hP hS hf
  unfold f_SC_region at hf
  refine lv_aload_n hx hb d_SC_region_0 rfl (lv_at hl 0 rfl) ?_
  refine hq_get hx hb hts i_SC hown hK hP 0 (by decide) (sc_s_SC (rfl)) rfl 3 (by decide) (hts _ sc_wd_172) (fun _ h => h) (v := .int (M 0 3)) rfl d_SC_region_1 ?_
  refine lv_if_ne (tgt := 11) hx hb d_SC_region_4 (by decide) (fun c1 => ?_) (fun c1 => ?_)
  · replace hf := (if_neg c1).symm.trans hf
    refine lv_aload_n hx hb d_SC_region_11 rfl (lv_at hl 0 rfl) ?_
    refine hq_get hx hb hts i_SC hown hK hP 0 (by decide) (sc_s_SC (rfl)) rfl 0 (by decide) (hts _ sc_wd_174) (fun _ h => h) (v := .ref (B + 1)) rfl d_SC_region_12 ?_
    refine lv_iload_n hx hb d_SC_region_15 rfl (lv_at hl 1 rfl) ?_
    obtain ⟨r2, M_3, hc4, hf⟩ := hm_bI_some hf
    refine hq_callI (va_runVN (As := [.int x1]) (rest := []) ⟨hx, hb, hml, hown, hts⟩ (c_Pipe_hasStage (l := l) (D := D) (ca := ca) (B := B) (rl := rl)  hc4) (hq_cwN (nn := 1) hts sc_wd_186 sc_wd_31 sc_wd_187 sc_wd_188 sc_wd_189 (by decide +kernel) rfl rfl ⟨(Nat.le_of_ble_eq_true rfl), (Nat.le_of_ble_eq_true rfl)⟩) (hq_preV hKt hP (by decide) (sc_s_Pipe (rfl)) rfl) rfl rfl hl.1 rfl (lv_room (Nat.le_of_ble_eq_true rfl)) d_SC_region_16 ⟨(Nat.le_of_ble_eq_true rfl), (Nat.le_of_ble_eq_true rfl)⟩) hS (fun H locs hP hS => ?_)
    refine lv_if_eq (tgt := 37) hx hb d_SC_region_19 (by decide) (fun c5 => ?_) (fun c5 => ?_)
    · replace hf := (if_pos c5).symm.trans hf
      exact w_SC_region_37 X _ _ _ _ (lv_sub hl [] rfl) hP hS hf
    · replace hf := (if_neg c5).symm.trans hf
      refine lv_aload_n hx hb d_SC_region_22 rfl (lv_at hl 0 rfl) ?_
      refine hq_get hx hb hts i_SC hown hK hP 0 (by decide) (sc_s_SC (rfl)) rfl 1 (by decide) (hts _ sc_wd_200) (fun _ h => h) (v := .ref (B + 37)) rfl d_SC_region_23 ?_
      refine hq_getN hx hb hts i_Plan hown hK hP 37 (by decide) (sc_s_Plan (rfl)) rfl 1 (by decide) (hts _ sc_wd_207) (fun _ h => h) (v := .ref (B + 38)) rfl d_SC_region_26 ?_
      refine hq_getN hx hb hts i_Needs hown hK hP 38 (by decide) (sc_s_Needs (rfl)) rfl 0 (by decide) (hts _ sc_wd_220) (fun _ h => h) (v := .ref (B + 39)) rfl d_SC_region_29 ?_
      refine lv_iload_n hx hb d_SC_region_32 rfl (lv_at hl 1 rfl) ?_
      obtain ⟨g6, hf⟩ := hm_gd_some hf
      refine hq_zald hx hb hK hP 39 (by decide) (sc_s_za8 (rfl)) 1 rfl g6 d_SC_region_33 ?_
      refine lv_if_ne (tgt := 41) hx hb d_SC_region_34 (by decide) (fun c7 => ?_) (fun c7 => ?_)
      · replace hf := (if_neg c7).symm.trans hf
        refine lv_iload_n hx hb d_SC_region_41 rfl (lv_at hl 2 rfl) ?_
        refine lv_if_eq (tgt := 60) hx hb d_SC_region_42 (by decide) (fun c8 => ?_) (fun c8 => ?_)
        · replace hf := (if_pos c8).symm.trans hf
          refine lv_aload_n hx hb d_SC_region_60 rfl (lv_at hl 0 rfl) ?_
          refine hq_get hx hb hts i_SC hown hK hP 0 (by decide) (sc_s_SC (rfl)) rfl 1 (by decide) (hts _ sc_wd_200) (fun _ h => h) (v := .ref (B + 37)) rfl d_SC_region_61 ?_
          refine hq_getN hx hb hts i_Plan hown hK hP 37 (by decide) (sc_s_Plan (rfl)) rfl 1 (by decide) (hts _ sc_wd_207) (fun _ h => h) (v := .ref (B + 38)) rfl d_SC_region_64 ?_
          refine hq_getN hx hb hts i_Needs hown hK hP 38 (by decide) (sc_s_Needs (rfl)) rfl 1 (by decide) (hts _ sc_wd_221) (fun _ h => h) (v := .ref (B + 40)) rfl d_SC_region_67 ?_
          refine lv_iload_n hx hb d_SC_region_70 rfl (lv_at hl 1 rfl) ?_
          obtain ⟨g9, hf⟩ := hm_gd_some hf
          refine hq_iald hx hb hK hP 40 (by decide) (sc_s_ia8 (rfl)) 0 rfl g9 d_SC_region_71 ?_
          exact w_SC_region_72 X _ _ _ _ _ (lv_sub hl [] rfl) hP hS hf
        · replace hf := (if_neg c8).symm.trans hf
          refine lv_aload_n hx hb d_SC_region_45 rfl (lv_at hl 0 rfl) ?_
          refine hq_get hx hb hts i_SC hown hK hP 0 (by decide) (sc_s_SC (rfl)) rfl 1 (by decide) (hts _ sc_wd_200) (fun _ h => h) (v := .ref (B + 37)) rfl d_SC_region_46 ?_
          refine hq_getN hx hb hts i_Plan hown hK hP 37 (by decide) (sc_s_Plan (rfl)) rfl 1 (by decide) (hts _ sc_wd_207) (fun _ h => h) (v := .ref (B + 38)) rfl d_SC_region_49 ?_
          refine hq_getN hx hb hts i_Needs hown hK hP 38 (by decide) (sc_s_Needs (rfl)) rfl 2 (by decide) (hts _ sc_wd_222) (fun _ h => h) (v := .ref (B + 41)) rfl d_SC_region_52 ?_
          refine lv_iload_n hx hb d_SC_region_55 rfl (lv_at hl 1 rfl) ?_
          obtain ⟨g10, hf⟩ := hm_gd_some hf
          refine hq_iald hx hb hK hP 41 (by decide) (sc_s_ia8 (rfl)) 0 rfl g10 d_SC_region_56 ?_
          refine lv_goto (tgt := 72) hx hb d_SC_region_57 (by decide) ?_
          exact w_SC_region_72 X _ _ _ _ _ (lv_sub hl [] rfl) hP hS hf
      · replace hf := (if_pos c7).symm.trans hf
        exact w_SC_region_37 X _ _ _ _ (lv_sub hl [] rfl) hP hS hf
  · replace hf := (if_pos c1).symm.trans hf
    refine lv_sipush (v := (-1000)) hx hb d_SC_region_7 (by decide) ?_
    obtain ⟨h9, h8⟩ := Prod.mk.inj (Option.some.inj hf)
    subst h9
    subst h8
    exact W.iret hx hb hr (fun t ht _ => ⟨⟨_, (), rfl, rfl, by subst ht; exact hP⟩, hS.F ht⟩) hS.2.2 d_SC_region_10 hlk
set_option maxHeartbeats 4000000 in
set_option maxRecDepth 100000 in
theorem c_SC_region {l : Launch} {D : va_G} {ca : Nat → ClassId} {B rl : Nat} {r : Int32} {x1 : Int32} {x2 : Int32} {M M9 : hm_M} (hf : f_SC_region M x1 x2 = some (r, M9)) : Met l y_SC_region [Cond.code y_SC_region b_SC_region 3 (some .int)] ({ frames := 1, cells := 0, slots := 0, locals := 21 } : Room) (hq_Pre D sc_cl ca 64 (sc_sh rl) B (sc_ty ca) hq_tb M hm_L0 [.ref (B + 0), .int x1, .int x2]) (hq_QI D sc_cl ca 64 (sc_sh rl) B r M9 hm_L0) 0 0 (hm_A B 64) := by
  refine Met.ofW (cc := b_SC_region) (maxL := 3) (ret := (some .int)) (by decide +kernel) rfl ?_
  intro p e s m args below meth c s₁ Bd hml hv
  obtain ⟨rfl, hP, hK⟩ := hv
  have hl := lv_entry ([.ref (B + 0), .int x1, .int x2]) (n := 3) (Nat.le_of_ble_eq_true rfl)
  rw [lg_entry_eq]
  generalize (lg_sl ([.ref (B + 0), .int x1, .int x2]) ++ List.replicate (3 - (lg_sl ([.ref (B + 0), .int x1, .int x2])).length) Slot.unset).toArray = ls at hl ⊢
  have hl : lv_has ls 3 [(0, .ref (B + 0)), (1, .int x1), (2, .int x2)] := hl
  exact w_SC_region_e ⟨Bd.exec, Bd.bytes, hml, findClass_of_methodNamed Bd.named, Bd.returns, Bd.notSynchronized, hK⟩  _ _ _ _ _ _ hl hP va_S.rf hf
set_option maxHeartbeats 4000000 in
set_option maxRecDepth 100000 in
theorem w_SC_work_34 {p : Program} {l : Launch} {e : Env} {s : State} {m : MethodId} {args : Array Value} {below : List Frame} {meth : Method} {c : Code} {D : va_G} {ca : Nat → ClassId} {B rl : Nat} {r : Int32} {M9 : hm_M} (X : hq_X p s m args meth c b_SC_work R_SC 2 (some .int) D sc_cl (sc_ty ca) hq_tb) : ∀ (y0 : Int32), ∀ (M : hm_M) (H : Heap) (locs : List Loc) (ls : Array Slot), lv_has ls 2 [] → hm_P D sc_cl ca 64 (sc_sh rl) B M hm_L0 H → va_S (hm_A B 64) s.heap H locs → f_SC_work_34 y0 M = some (r, M9) → W p l e ({ frames := 1, cells := 0, slots := 0, locals := 21 } : Room) s m args below meth c H locs 0 0 (MQ below (hq_QI D sc_cl ca 64 (sc_sh rl) B r M9 hm_L0) args s 0 0 (hm_A B 64)) (F0 m 34 ls [.int y0]) := by
  obtain ⟨hx, hb, hml, hown, hr, hlk, hKt⟩ := id X
  have hK := hKt.1
  have hts : ∀ w ∈ hq_tb, w.before args s = true := fun w h => hKt.2.2 w h args
  intro y0 M H locs ls hl hP hS hf
  unfold f_SC_work_34 at hf
  obtain ⟨h9, h8⟩ := Prod.mk.inj (Option.some.inj hf)
  subst h9
  subst h8
  exact W.iret hx hb hr (fun t ht _ => ⟨⟨_, (), rfl, rfl, by subst ht; exact hP⟩, hS.F ht⟩) hS.2.2 d_SC_work_34 hlk
set_option maxHeartbeats 4000000 in
set_option maxRecDepth 100000 in
theorem w_SC_work_e {p : Program} {l : Launch} {e : Env} {s : State} {m : MethodId} {args : Array Value} {below : List Frame} {meth : Method} {c : Code} {D : va_G} {ca : Nat → ClassId} {B rl : Nat} {r : Int32} {M9 : hm_M} (X : hq_X p s m args meth c b_SC_work R_SC 2 (some .int) D sc_cl (sc_ty ca) hq_tb) : ∀ (x1 : Int32), ∀ (M : hm_M) (H : Heap) (locs : List Loc) (ls : Array Slot), lv_has ls 2 [(0, .ref (B + 0)), (1, .int x1)] → hm_P D sc_cl ca 64 (sc_sh rl) B M hm_L0 H → va_S (hm_A B 64) s.heap H locs → f_SC_work M x1 = some (r, M9) → W p l e ({ frames := 1, cells := 0, slots := 0, locals := 21 } : Room) s m args below meth c H locs 0 0 (MQ below (hq_QI D sc_cl ca 64 (sc_sh rl) B r M9 hm_L0) args s 0 0 (hm_A B 64)) (F0 m 0 ls []) := by
  obtain ⟨hx, hb, hml, hown, hr, hlk, hKt⟩ := id X
  have hK := hKt.1
  have hts : ∀ w ∈ hq_tb, w.before args s = true := fun w h => hKt.2.2 w h args
  intro x1 M H locs ls hl hP hS hf
  unfold f_SC_work at hf
  refine lv_aload_n hx hb d_SC_work_0 rfl (lv_at hl 0 rfl) ?_
  refine hq_get hx hb hts i_SC hown hK hP 0 (by decide) (sc_s_SC (rfl)) rfl 0 (by decide) (hts _ sc_wd_174) (fun _ h => h) (v := .ref (B + 1)) rfl d_SC_work_1 ?_
  refine lv_iload_n hx hb d_SC_work_4 rfl (lv_at hl 1 rfl) ?_
  obtain ⟨r1, M_2, hc3, hf⟩ := hm_bI_some hf
  refine hq_callI (va_runVN (As := [.int x1]) (rest := []) ⟨hx, hb, hml, hown, hts⟩ (c_Pipe_hasStage (l := l) (D := D) (ca := ca) (B := B) (rl := rl)  hc3) (hq_cwN (nn := 1) hts sc_wd_186 sc_wd_31 sc_wd_187 sc_wd_188 sc_wd_189 (by decide +kernel) rfl rfl ⟨(Nat.le_of_ble_eq_true rfl), (Nat.le_of_ble_eq_true rfl)⟩) (hq_preV hKt hP (by decide) (sc_s_Pipe (rfl)) rfl) rfl rfl hl.1 rfl (lv_room (Nat.le_of_ble_eq_true rfl)) d_SC_work_5 ⟨(Nat.le_of_ble_eq_true rfl), (Nat.le_of_ble_eq_true rfl)⟩) hS (fun H locs hP hS => ?_)
  refine lv_if_ne (tgt := 13) hx hb d_SC_work_8 (by decide) (fun c4 => ?_) (fun c4 => ?_)
  · replace hf := (if_neg c4).symm.trans hf
    refine lv_aload_n hx hb d_SC_work_13 rfl (lv_at hl 0 rfl) ?_
    refine hq_get hx hb hts i_SC hown hK hP 0 (by decide) (sc_s_SC (rfl)) rfl 3 (by decide) (hts _ sc_wd_172) (fun _ h => h) (v := .int (M_2 0 3)) rfl d_SC_work_14 ?_
    refine lv_if_eq (tgt := 32) hx hb d_SC_work_17 (by decide) (fun c5 => ?_) (fun c5 => ?_)
    · replace hf := (if_pos c5).symm.trans hf
      refine lv_bipush (v := (-3)) hx hb d_SC_work_32 (by decide) ?_
      exact w_SC_work_34 X _ _ _ _ _ (lv_sub hl [] rfl) hP hS hf
    · replace hf := (if_neg c5).symm.trans hf
      refine lv_aload_n hx hb d_SC_work_20 rfl (lv_at hl 0 rfl) ?_
      refine hq_get hx hb hts i_SC hown hK hP 0 (by decide) (sc_s_SC (rfl)) rfl 1 (by decide) (hts _ sc_wd_200) (fun _ h => h) (v := .ref (B + 37)) rfl d_SC_work_21 ?_
      refine hq_getN hx hb hts i_Plan hown hK hP 37 (by decide) (sc_s_Plan (rfl)) rfl 4 (by decide) (hts _ sc_wd_223) (fun _ h => h) (v := .ref (B + 47)) rfl d_SC_work_24 ?_
      refine lv_iload_n hx hb d_SC_work_27 rfl (lv_at hl 1 rfl) ?_
      obtain ⟨g6, hf⟩ := hm_gd_some hf
      refine hq_iald hx hb hK hP 47 (by decide) (sc_s_ia8 (rfl)) 0 rfl g6 d_SC_work_28 ?_
      refine lv_goto (tgt := 34) hx hb d_SC_work_29 (by decide) ?_
      exact w_SC_work_34 X _ _ _ _ _ (lv_sub hl [] rfl) hP hS hf
  · replace hf := (if_pos c4).symm.trans hf
    refine lv_iconst (v := (-1)) hx hb d_SC_work_11 (by decide) ?_
    obtain ⟨h9, h8⟩ := Prod.mk.inj (Option.some.inj hf)
    subst h9
    subst h8
    exact W.iret hx hb hr (fun t ht _ => ⟨⟨_, (), rfl, rfl, by subst ht; exact hP⟩, hS.F ht⟩) hS.2.2 d_SC_work_12 hlk
set_option maxHeartbeats 4000000 in
set_option maxRecDepth 100000 in
theorem c_SC_work {l : Launch} {D : va_G} {ca : Nat → ClassId} {B rl : Nat} {r : Int32} {x1 : Int32} {M M9 : hm_M} (hf : f_SC_work M x1 = some (r, M9)) : Met l y_SC_work [Cond.code y_SC_work b_SC_work 2 (some .int)] ({ frames := 1, cells := 0, slots := 0, locals := 21 } : Room) (hq_Pre D sc_cl ca 64 (sc_sh rl) B (sc_ty ca) hq_tb M hm_L0 [.ref (B + 0), .int x1]) (hq_QI D sc_cl ca 64 (sc_sh rl) B r M9 hm_L0) 0 0 (hm_A B 64) := by
  refine Met.ofW (cc := b_SC_work) (maxL := 2) (ret := (some .int)) (by decide +kernel) rfl ?_
  intro p e s m args below meth c s₁ Bd hml hv
  obtain ⟨rfl, hP, hK⟩ := hv
  have hl := lv_entry ([.ref (B + 0), .int x1]) (n := 2) (Nat.le_of_ble_eq_true rfl)
  rw [lg_entry_eq]
  generalize (lg_sl ([.ref (B + 0), .int x1]) ++ List.replicate (2 - (lg_sl ([.ref (B + 0), .int x1])).length) Slot.unset).toArray = ls at hl ⊢
  have hl : lv_has ls 2 [(0, .ref (B + 0)), (1, .int x1)] := hl
  exact w_SC_work_e ⟨Bd.exec, Bd.bytes, hml, findClass_of_methodNamed Bd.named, Bd.returns, Bd.notSynchronized, hK⟩  _ _ _ _ _ hl hP va_S.rf hf
set_option maxHeartbeats 4000000 in
set_option maxRecDepth 100000 in
theorem w_SC_count_64 {p : Program} {l : Launch} {e : Env} {s : State} {m : MethodId} {args : Array Value} {below : List Frame} {meth : Method} {c : Code} {D : va_G} {ca : Nat → ClassId} {B rl : Nat} {r : Int32} {M9 : hm_M} (X : hq_X p s m args meth c b_SC_count R_SC 2 (some .int) D sc_cl (sc_ty ca) hq_tb) : ∀ (y0 : Int32), ∀ (M : hm_M) (H : Heap) (locs : List Loc) (ls : Array Slot), lv_has ls 2 [] → hm_P D sc_cl ca 64 (sc_sh rl) B M hm_L0 H → va_S (hm_A B 64) s.heap H locs → f_SC_count_64 y0 M = some (r, M9) → W p l e ({ frames := 1, cells := 0, slots := 0, locals := 22 } : Room) s m args below meth c H locs 0 0 (MQ below (hq_QI D sc_cl ca 64 (sc_sh rl) B r M9 hm_L0) args s 0 0 (hm_A B 64)) (F0 m 64 ls [.int y0]) := by
  obtain ⟨hx, hb, hml, hown, hr, hlk, hKt⟩ := id X
  have hK := hKt.1
  have hts : ∀ w ∈ hq_tb, w.before args s = true := fun w h => hKt.2.2 w h args
  intro y0 M H locs ls hl hP hS hf
  unfold f_SC_count_64 at hf
  obtain ⟨h9, h8⟩ := Prod.mk.inj (Option.some.inj hf)
  subst h9
  subst h8
  exact W.iret hx hb hr (fun t ht _ => ⟨⟨_, (), rfl, rfl, by subst ht; exact hP⟩, hS.F ht⟩) hS.2.2 d_SC_count_64 hlk
set_option maxHeartbeats 4000000 in
set_option maxRecDepth 100000 in
theorem w_SC_count_83 {p : Program} {l : Launch} {e : Env} {s : State} {m : MethodId} {args : Array Value} {below : List Frame} {meth : Method} {c : Code} {D : va_G} {ca : Nat → ClassId} {B rl : Nat} {r : Int32} {M9 : hm_M} (X : hq_X p s m args meth c b_SC_count R_SC 2 (some .int) D sc_cl (sc_ty ca) hq_tb) : ∀ (y0 : Int32), ∀ (M : hm_M) (H : Heap) (locs : List Loc) (ls : Array Slot), lv_has ls 2 [] → hm_P D sc_cl ca 64 (sc_sh rl) B M hm_L0 H → va_S (hm_A B 64) s.heap H locs → f_SC_count_83 y0 M = some (r, M9) → W p l e ({ frames := 1, cells := 0, slots := 0, locals := 22 } : Room) s m args below meth c H locs 0 0 (MQ below (hq_QI D sc_cl ca 64 (sc_sh rl) B r M9 hm_L0) args s 0 0 (hm_A B 64)) (F0 m 83 ls [.int y0]) := by
  obtain ⟨hx, hb, hml, hown, hr, hlk, hKt⟩ := id X
  have hK := hKt.1
  have hts : ∀ w ∈ hq_tb, w.before args s = true := fun w h => hKt.2.2 w h args
  intro y0 M H locs ls hl hP hS hf
  unfold f_SC_count_83 at hf
  obtain ⟨h9, h8⟩ := Prod.mk.inj (Option.some.inj hf)
  subst h9
  subst h8
  exact W.iret hx hb hr (fun t ht _ => ⟨⟨_, (), rfl, rfl, by subst ht; exact hP⟩, hS.F ht⟩) hS.2.2 d_SC_count_83 hlk
set_option maxHeartbeats 4000000 in
set_option maxRecDepth 100000 in
theorem w_SC_count_102 {p : Program} {l : Launch} {e : Env} {s : State} {m : MethodId} {args : Array Value} {below : List Frame} {meth : Method} {c : Code} {D : va_G} {ca : Nat → ClassId} {B rl : Nat} {r : Int32} {M9 : hm_M} (X : hq_X p s m args meth c b_SC_count R_SC 2 (some .int) D sc_cl (sc_ty ca) hq_tb) : ∀ (y0 : Int32), ∀ (M : hm_M) (H : Heap) (locs : List Loc) (ls : Array Slot), lv_has ls 2 [] → hm_P D sc_cl ca 64 (sc_sh rl) B M hm_L0 H → va_S (hm_A B 64) s.heap H locs → f_SC_count_102 y0 M = some (r, M9) → W p l e ({ frames := 1, cells := 0, slots := 0, locals := 22 } : Room) s m args below meth c H locs 0 0 (MQ below (hq_QI D sc_cl ca 64 (sc_sh rl) B r M9 hm_L0) args s 0 0 (hm_A B 64)) (F0 m 102 ls [.int y0]) := by
  obtain ⟨hx, hb, hml, hown, hr, hlk, hKt⟩ := id X
  have hK := hKt.1
  have hts : ∀ w ∈ hq_tb, w.before args s = true := fun w h => hKt.2.2 w h args
  intro y0 M H locs ls hl hP hS hf
  unfold f_SC_count_102 at hf
  obtain ⟨h9, h8⟩ := Prod.mk.inj (Option.some.inj hf)
  subst h9
  subst h8
  exact W.iret hx hb hr (fun t ht _ => ⟨⟨_, (), rfl, rfl, by subst ht; exact hP⟩, hS.F ht⟩) hS.2.2 d_SC_count_102 hlk
set_option maxHeartbeats 4000000 in
set_option maxRecDepth 100000 in
theorem w_SC_count_121 {p : Program} {l : Launch} {e : Env} {s : State} {m : MethodId} {args : Array Value} {below : List Frame} {meth : Method} {c : Code} {D : va_G} {ca : Nat → ClassId} {B rl : Nat} {r : Int32} {M9 : hm_M} (X : hq_X p s m args meth c b_SC_count R_SC 2 (some .int) D sc_cl (sc_ty ca) hq_tb) : ∀ (y0 : Int32), ∀ (M : hm_M) (H : Heap) (locs : List Loc) (ls : Array Slot), lv_has ls 2 [] → hm_P D sc_cl ca 64 (sc_sh rl) B M hm_L0 H → va_S (hm_A B 64) s.heap H locs → f_SC_count_121 y0 M = some (r, M9) → W p l e ({ frames := 1, cells := 0, slots := 0, locals := 22 } : Room) s m args below meth c H locs 0 0 (MQ below (hq_QI D sc_cl ca 64 (sc_sh rl) B r M9 hm_L0) args s 0 0 (hm_A B 64)) (F0 m 121 ls [.int y0]) := by
  obtain ⟨hx, hb, hml, hown, hr, hlk, hKt⟩ := id X
  have hK := hKt.1
  have hts : ∀ w ∈ hq_tb, w.before args s = true := fun w h => hKt.2.2 w h args
  intro y0 M H locs ls hl hP hS hf
  unfold f_SC_count_121 at hf
  obtain ⟨h9, h8⟩ := Prod.mk.inj (Option.some.inj hf)
  subst h9
  subst h8
  exact W.iret hx hb hr (fun t ht _ => ⟨⟨_, (), rfl, rfl, by subst ht; exact hP⟩, hS.F ht⟩) hS.2.2 d_SC_count_121 hlk
set_option maxHeartbeats 4000000 in
set_option maxRecDepth 100000 in
theorem w_SC_count_140 {p : Program} {l : Launch} {e : Env} {s : State} {m : MethodId} {args : Array Value} {below : List Frame} {meth : Method} {c : Code} {D : va_G} {ca : Nat → ClassId} {B rl : Nat} {r : Int32} {M9 : hm_M} (X : hq_X p s m args meth c b_SC_count R_SC 2 (some .int) D sc_cl (sc_ty ca) hq_tb) : ∀ (y0 : Int32), ∀ (M : hm_M) (H : Heap) (locs : List Loc) (ls : Array Slot), lv_has ls 2 [] → hm_P D sc_cl ca 64 (sc_sh rl) B M hm_L0 H → va_S (hm_A B 64) s.heap H locs → f_SC_count_140 y0 M = some (r, M9) → W p l e ({ frames := 1, cells := 0, slots := 0, locals := 22 } : Room) s m args below meth c H locs 0 0 (MQ below (hq_QI D sc_cl ca 64 (sc_sh rl) B r M9 hm_L0) args s 0 0 (hm_A B 64)) (F0 m 140 ls [.int y0]) := by
  obtain ⟨hx, hb, hml, hown, hr, hlk, hKt⟩ := id X
  have hK := hKt.1
  have hts : ∀ w ∈ hq_tb, w.before args s = true := fun w h => hKt.2.2 w h args
  intro y0 M H locs ls hl hP hS hf
  unfold f_SC_count_140 at hf
  obtain ⟨h9, h8⟩ := Prod.mk.inj (Option.some.inj hf)
  subst h9
  subst h8
  exact W.iret hx hb hr (fun t ht _ => ⟨⟨_, (), rfl, rfl, by subst ht; exact hP⟩, hS.F ht⟩) hS.2.2 d_SC_count_140 hlk
set_option maxHeartbeats 4000000 in
set_option maxRecDepth 100000 in
theorem w_SC_count_159 {p : Program} {l : Launch} {e : Env} {s : State} {m : MethodId} {args : Array Value} {below : List Frame} {meth : Method} {c : Code} {D : va_G} {ca : Nat → ClassId} {B rl : Nat} {r : Int32} {M9 : hm_M} (X : hq_X p s m args meth c b_SC_count R_SC 2 (some .int) D sc_cl (sc_ty ca) hq_tb) : ∀ (y0 : Int32), ∀ (M : hm_M) (H : Heap) (locs : List Loc) (ls : Array Slot), lv_has ls 2 [] → hm_P D sc_cl ca 64 (sc_sh rl) B M hm_L0 H → va_S (hm_A B 64) s.heap H locs → f_SC_count_159 y0 M = some (r, M9) → W p l e ({ frames := 1, cells := 0, slots := 0, locals := 22 } : Room) s m args below meth c H locs 0 0 (MQ below (hq_QI D sc_cl ca 64 (sc_sh rl) B r M9 hm_L0) args s 0 0 (hm_A B 64)) (F0 m 159 ls [.int y0]) := by
  obtain ⟨hx, hb, hml, hown, hr, hlk, hKt⟩ := id X
  have hK := hKt.1
  have hts : ∀ w ∈ hq_tb, w.before args s = true := fun w h => hKt.2.2 w h args
  intro y0 M H locs ls hl hP hS hf
  unfold f_SC_count_159 at hf
  obtain ⟨h9, h8⟩ := Prod.mk.inj (Option.some.inj hf)
  subst h9
  subst h8
  exact W.iret hx hb hr (fun t ht _ => ⟨⟨_, (), rfl, rfl, by subst ht; exact hP⟩, hS.F ht⟩) hS.2.2 d_SC_count_159 hlk
set_option maxHeartbeats 4000000 in
set_option maxRecDepth 100000 in
theorem w_SC_count_e {p : Program} {l : Launch} {e : Env} {s : State} {m : MethodId} {args : Array Value} {below : List Frame} {meth : Method} {c : Code} {D : va_G} {ca : Nat → ClassId} {B rl : Nat} {r : Int32} {M9 : hm_M} (X : hq_X p s m args meth c b_SC_count R_SC 2 (some .int) D sc_cl (sc_ty ca) hq_tb) : ∀ (x1 : Int32), ∀ (M : hm_M) (H : Heap) (locs : List Loc) (ls : Array Slot), lv_has ls 2 [(0, .ref (B + 0)), (1, .int x1)] → hm_P D sc_cl ca 64 (sc_sh rl) B M hm_L0 H → va_S (hm_A B 64) s.heap H locs → f_SC_count M x1 = some (r, M9) → W p l e ({ frames := 1, cells := 0, slots := 0, locals := 22 } : Room) s m args below meth c H locs 0 0 (MQ below (hq_QI D sc_cl ca 64 (sc_sh rl) B r M9 hm_L0) args s 0 0 (hm_A B 64)) (F0 m 0 ls []) := by
  obtain ⟨hx, hb, hml, hown, hr, hlk, hKt⟩ := id X
  have hK := hKt.1
  have hts : ∀ w ∈ hq_tb, w.before args s = true := fun w h => hKt.2.2 w h args
  intro x1 M H locs ls hl hP hS hf
  unfold f_SC_count at hf
  refine lv_iload_n hx hb d_SC_count_0 rfl (lv_at hl 1 rfl) ?_
  by_cases c1 : x1 = 0
  · replace hf := (if_pos c1).symm.trans hf
    refine lv_tableIn (tgt := 44) hx hb d_SC_count_1 (by rw [c1]; decide) (by rw [c1]; decide) (by rw [c1]; rfl) (by decide) ?_
    refine lv_aload_n hx hb d_SC_count_44 rfl (lv_at hl 0 rfl) ?_
    refine hq_get hx hb hts i_SC hown hK hP 0 (by decide) (sc_s_SC (rfl)) rfl 0 (by decide) (hts _ sc_wd_174) (fun _ h => h) (v := .ref (B + 1)) rfl d_SC_count_45 ?_
    refine hq_getN hx hb hts i_Pipe hown hK hP 1 (by decide) (sc_s_Pipe (rfl)) rfl 3 (by decide) (hts _ sc_wd_181) (fun _ h => h) (v := .int (M 1 3)) rfl d_SC_count_48 ?_
    obtain ⟨h9, h8⟩ := Prod.mk.inj (Option.some.inj hf)
    subst h9
    subst h8
    exact W.iret hx hb hr (fun t ht _ => ⟨⟨_, (), rfl, rfl, by subst ht; exact hP⟩, hS.F ht⟩) hS.2.2 d_SC_count_51 hlk
  · replace hf := (if_neg c1).symm.trans hf
    by_cases c2 : x1 = 1
    · replace hf := (if_pos c2).symm.trans hf
      refine lv_tableIn (tgt := 52) hx hb d_SC_count_1 (by rw [c2]; decide) (by rw [c2]; decide) (by rw [c2]; rfl) (by decide) ?_
      refine lv_aload_n hx hb d_SC_count_52 rfl (lv_at hl 0 rfl) ?_
      refine hq_get hx hb hts i_SC hown hK hP 0 (by decide) (sc_s_SC (rfl)) rfl 3 (by decide) (hts _ sc_wd_172) (fun _ h => h) (v := .int (M 0 3)) rfl d_SC_count_53 ?_
      refine lv_if_eq (tgt := 63) hx hb d_SC_count_56 (by decide) (fun c3 => ?_) (fun c3 => ?_)
      · replace hf := (if_pos c3).symm.trans hf
        refine lv_iconst (v := 0) hx hb d_SC_count_63 (by decide) ?_
        exact w_SC_count_64 X _ _ _ _ _ (lv_sub hl [] rfl) hP hS hf
      · replace hf := (if_neg c3).symm.trans hf
        refine lv_iconst (v := 1) hx hb d_SC_count_59 (by decide) ?_
        refine lv_goto (tgt := 64) hx hb d_SC_count_60 (by decide) ?_
        exact w_SC_count_64 X _ _ _ _ _ (lv_sub hl [] rfl) hP hS hf
    · replace hf := (if_neg c2).symm.trans hf
      by_cases c4 : x1 = 2
      · replace hf := (if_pos c4).symm.trans hf
        refine lv_tableIn (tgt := 65) hx hb d_SC_count_1 (by rw [c4]; decide) (by rw [c4]; decide) (by rw [c4]; rfl) (by decide) ?_
        refine lv_aload_n hx hb d_SC_count_65 rfl (lv_at hl 0 rfl) ?_
        refine hq_get hx hb hts i_SC hown hK hP 0 (by decide) (sc_s_SC (rfl)) rfl 3 (by decide) (hts _ sc_wd_172) (fun _ h => h) (v := .int (M 0 3)) rfl d_SC_count_66 ?_
        refine lv_if_eq (tgt := 82) hx hb d_SC_count_69 (by decide) (fun c5 => ?_) (fun c5 => ?_)
        · replace hf := (if_pos c5).symm.trans hf
          refine lv_iconst (v := 0) hx hb d_SC_count_82 (by decide) ?_
          exact w_SC_count_83 X _ _ _ _ _ (lv_sub hl [] rfl) hP hS hf
        · replace hf := (if_neg c5).symm.trans hf
          refine lv_aload_n hx hb d_SC_count_72 rfl (lv_at hl 0 rfl) ?_
          refine hq_get hx hb hts i_SC hown hK hP 0 (by decide) (sc_s_SC (rfl)) rfl 1 (by decide) (hts _ sc_wd_200) (fun _ h => h) (v := .ref (B + 37)) rfl d_SC_count_73 ?_
          refine hq_getN hx hb hts i_Plan hown hK hP 37 (by decide) (sc_s_Plan (rfl)) rfl 6 (by decide) (hts _ sc_wd_224) (fun _ h => h) (v := .int (M 37 6)) rfl d_SC_count_76 ?_
          refine lv_goto (tgt := 83) hx hb d_SC_count_79 (by decide) ?_
          exact w_SC_count_83 X _ _ _ _ _ (lv_sub hl [] rfl) hP hS hf
      · replace hf := (if_neg c4).symm.trans hf
        by_cases c6 : x1 = 3
        · replace hf := (if_pos c6).symm.trans hf
          refine lv_tableIn (tgt := 84) hx hb d_SC_count_1 (by rw [c6]; decide) (by rw [c6]; decide) (by rw [c6]; rfl) (by decide) ?_
          refine lv_aload_n hx hb d_SC_count_84 rfl (lv_at hl 0 rfl) ?_
          refine hq_get hx hb hts i_SC hown hK hP 0 (by decide) (sc_s_SC (rfl)) rfl 3 (by decide) (hts _ sc_wd_172) (fun _ h => h) (v := .int (M 0 3)) rfl d_SC_count_85 ?_
          refine lv_if_eq (tgt := 101) hx hb d_SC_count_88 (by decide) (fun c7 => ?_) (fun c7 => ?_)
          · replace hf := (if_pos c7).symm.trans hf
            refine lv_iconst (v := 0) hx hb d_SC_count_101 (by decide) ?_
            exact w_SC_count_102 X _ _ _ _ _ (lv_sub hl [] rfl) hP hS hf
          · replace hf := (if_neg c7).symm.trans hf
            refine lv_aload_n hx hb d_SC_count_91 rfl (lv_at hl 0 rfl) ?_
            refine hq_get hx hb hts i_SC hown hK hP 0 (by decide) (sc_s_SC (rfl)) rfl 1 (by decide) (hts _ sc_wd_200) (fun _ h => h) (v := .ref (B + 37)) rfl d_SC_count_92 ?_
            obtain ⟨r8, M_9, hc10, hf⟩ := hm_bI_some hf
            refine hq_callI (va_runVN (As := []) (rest := []) ⟨hx, hb, hml, hown, hts⟩ (c_Plan_usedCount (l := l) (D := D) (ca := ca) (B := B) (rl := rl)  hc10) (hq_cwN (nn := 0) hts sc_wd_225 sc_wd_59 sc_wd_226 sc_wd_227 sc_wd_228 (by decide +kernel) rfl rfl ⟨(Nat.le_of_ble_eq_true rfl), (Nat.le_of_ble_eq_true rfl)⟩) (hq_preV hKt hP (by decide) (sc_s_Plan (rfl)) rfl) rfl rfl hl.1 rfl (lv_room (Nat.le_of_ble_eq_true rfl)) d_SC_count_95 ⟨(Nat.le_of_ble_eq_true rfl), (Nat.le_of_ble_eq_true rfl)⟩) hS (fun H locs hP hS => ?_)
            refine lv_goto (tgt := 102) hx hb d_SC_count_98 (by decide) ?_
            exact w_SC_count_102 X _ _ _ _ _ (lv_sub hl [] rfl) hP hS hf
        · replace hf := (if_neg c6).symm.trans hf
          by_cases c11 : x1 = 4
          · replace hf := (if_pos c11).symm.trans hf
            refine lv_tableIn (tgt := 103) hx hb d_SC_count_1 (by rw [c11]; decide) (by rw [c11]; decide) (by rw [c11]; rfl) (by decide) ?_
            refine lv_aload_n hx hb d_SC_count_103 rfl (lv_at hl 0 rfl) ?_
            refine hq_get hx hb hts i_SC hown hK hP 0 (by decide) (sc_s_SC (rfl)) rfl 3 (by decide) (hts _ sc_wd_172) (fun _ h => h) (v := .int (M 0 3)) rfl d_SC_count_104 ?_
            refine lv_if_eq (tgt := 120) hx hb d_SC_count_107 (by decide) (fun c12 => ?_) (fun c12 => ?_)
            · replace hf := (if_pos c12).symm.trans hf
              refine lv_iconst (v := 0) hx hb d_SC_count_120 (by decide) ?_
              exact w_SC_count_121 X _ _ _ _ _ (lv_sub hl [] rfl) hP hS hf
            · replace hf := (if_neg c12).symm.trans hf
              refine lv_aload_n hx hb d_SC_count_110 rfl (lv_at hl 0 rfl) ?_
              refine hq_get hx hb hts i_SC hown hK hP 0 (by decide) (sc_s_SC (rfl)) rfl 0 (by decide) (hts _ sc_wd_174) (fun _ h => h) (v := .ref (B + 1)) rfl d_SC_count_111 ?_
              obtain ⟨r13, M_14, hc15, hf⟩ := hm_bI_some hf
              refine hq_callI (va_runVN (As := []) (rest := []) ⟨hx, hb, hml, hown, hts⟩ (c_Pipe_tileCount (l := l) (D := D) (ca := ca) (B := B) (rl := rl)  hc15) (hq_cwN (nn := 0) hts sc_wd_77 sc_wd_31 sc_wd_212 sc_wd_79 sc_wd_80 (by decide +kernel) rfl rfl ⟨(Nat.le_of_ble_eq_true rfl), (Nat.le_of_ble_eq_true rfl)⟩) (hq_preV hKt hP (by decide) (sc_s_Pipe (rfl)) rfl) rfl rfl hl.1 rfl (lv_room (Nat.le_of_ble_eq_true rfl)) d_SC_count_114 ⟨(Nat.le_of_ble_eq_true rfl), (Nat.le_of_ble_eq_true rfl)⟩) hS (fun H locs hP hS => ?_)
              refine lv_goto (tgt := 121) hx hb d_SC_count_117 (by decide) ?_
              exact w_SC_count_121 X _ _ _ _ _ (lv_sub hl [] rfl) hP hS hf
          · replace hf := (if_neg c11).symm.trans hf
            by_cases c16 : x1 = 5
            · replace hf := (if_pos c16).symm.trans hf
              refine lv_tableIn (tgt := 122) hx hb d_SC_count_1 (by rw [c16]; decide) (by rw [c16]; decide) (by rw [c16]; rfl) (by decide) ?_
              refine lv_aload_n hx hb d_SC_count_122 rfl (lv_at hl 0 rfl) ?_
              refine hq_get hx hb hts i_SC hown hK hP 0 (by decide) (sc_s_SC (rfl)) rfl 3 (by decide) (hts _ sc_wd_172) (fun _ h => h) (v := .int (M 0 3)) rfl d_SC_count_123 ?_
              refine lv_if_eq (tgt := 139) hx hb d_SC_count_126 (by decide) (fun c17 => ?_) (fun c17 => ?_)
              · replace hf := (if_pos c17).symm.trans hf
                refine lv_iconst (v := 0) hx hb d_SC_count_139 (by decide) ?_
                exact w_SC_count_140 X _ _ _ _ _ (lv_sub hl [] rfl) hP hS hf
              · replace hf := (if_neg c17).symm.trans hf
                refine lv_aload_n hx hb d_SC_count_129 rfl (lv_at hl 0 rfl) ?_
                refine hq_get hx hb hts i_SC hown hK hP 0 (by decide) (sc_s_SC (rfl)) rfl 1 (by decide) (hts _ sc_wd_200) (fun _ h => h) (v := .ref (B + 37)) rfl d_SC_count_130 ?_
                refine hq_getN hx hb hts i_Plan hown hK hP 37 (by decide) (sc_s_Plan (rfl)) rfl 7 (by decide) (hts _ sc_wd_229) (fun _ h => h) (v := .int (M 37 7)) rfl d_SC_count_133 ?_
                refine lv_goto (tgt := 140) hx hb d_SC_count_136 (by decide) ?_
                exact w_SC_count_140 X _ _ _ _ _ (lv_sub hl [] rfl) hP hS hf
            · replace hf := (if_neg c16).symm.trans hf
              by_cases c18 : x1 = 6
              · replace hf := (if_pos c18).symm.trans hf
                refine lv_tableIn (tgt := 141) hx hb d_SC_count_1 (by rw [c18]; decide) (by rw [c18]; decide) (by rw [c18]; rfl) (by decide) ?_
                refine lv_aload_n hx hb d_SC_count_141 rfl (lv_at hl 0 rfl) ?_
                refine hq_get hx hb hts i_SC hown hK hP 0 (by decide) (sc_s_SC (rfl)) rfl 3 (by decide) (hts _ sc_wd_172) (fun _ h => h) (v := .int (M 0 3)) rfl d_SC_count_142 ?_
                refine lv_if_eq (tgt := 158) hx hb d_SC_count_145 (by decide) (fun c19 => ?_) (fun c19 => ?_)
                · replace hf := (if_pos c19).symm.trans hf
                  refine lv_iconst (v := 0) hx hb d_SC_count_158 (by decide) ?_
                  exact w_SC_count_159 X _ _ _ _ _ (lv_sub hl [] rfl) hP hS hf
                · replace hf := (if_neg c19).symm.trans hf
                  refine lv_aload_n hx hb d_SC_count_148 rfl (lv_at hl 0 rfl) ?_
                  refine hq_get hx hb hts i_SC hown hK hP 0 (by decide) (sc_s_SC (rfl)) rfl 1 (by decide) (hts _ sc_wd_200) (fun _ h => h) (v := .ref (B + 37)) rfl d_SC_count_149 ?_
                  refine hq_getN hx hb hts i_Plan hown hK hP 37 (by decide) (sc_s_Plan (rfl)) rfl 5 (by decide) (hts _ sc_wd_205) (fun _ h => h) (v := .int (M 37 5)) rfl d_SC_count_152 ?_
                  refine lv_goto (tgt := 159) hx hb d_SC_count_155 (by decide) ?_
                  exact w_SC_count_159 X _ _ _ _ _ (lv_sub hl [] rfl) hP hS hf
              · replace hf := (if_neg c18).symm.trans hf
                have tc1 := lv_neT c1 (a := 0) (by decide)
                have tc2 := lv_neT c2 (a := 1) (by decide)
                have tc4 := lv_neT c4 (a := 2) (by decide)
                have tc6 := lv_neT c6 (a := 3) (by decide)
                have tc11 := lv_neT c11 (a := 4) (by decide)
                have tc16 := lv_neT c16 (a := 5) (by decide)
                have tc18 := lv_neT c18 (a := 6) (by decide)
                refine lv_tableOut (tgt := 160) hx hb d_SC_count_1 (by omega) (by decide) ?_
                refine lv_iconst (v := (-1)) hx hb d_SC_count_160 (by decide) ?_
                obtain ⟨h9, h8⟩ := Prod.mk.inj (Option.some.inj hf)
                subst h9
                subst h8
                exact W.iret hx hb hr (fun t ht _ => ⟨⟨_, (), rfl, rfl, by subst ht; exact hP⟩, hS.F ht⟩) hS.2.2 d_SC_count_161 hlk
set_option maxHeartbeats 4000000 in
set_option maxRecDepth 100000 in
theorem c_SC_count {l : Launch} {D : va_G} {ca : Nat → ClassId} {B rl : Nat} {r : Int32} {x1 : Int32} {M M9 : hm_M} (hf : f_SC_count M x1 = some (r, M9)) : Met l y_SC_count [Cond.code y_SC_count b_SC_count 2 (some .int)] ({ frames := 1, cells := 0, slots := 0, locals := 22 } : Room) (hq_Pre D sc_cl ca 64 (sc_sh rl) B (sc_ty ca) hq_tb M hm_L0 [.ref (B + 0), .int x1]) (hq_QI D sc_cl ca 64 (sc_sh rl) B r M9 hm_L0) 0 0 (hm_A B 64) := by
  refine Met.ofW (cc := b_SC_count) (maxL := 2) (ret := (some .int)) (by decide +kernel) rfl ?_
  intro p e s m args below meth c s₁ Bd hml hv
  obtain ⟨rfl, hP, hK⟩ := hv
  have hl := lv_entry ([.ref (B + 0), .int x1]) (n := 2) (Nat.le_of_ble_eq_true rfl)
  rw [lg_entry_eq]
  generalize (lg_sl ([.ref (B + 0), .int x1]) ++ List.replicate (2 - (lg_sl ([.ref (B + 0), .int x1])).length) Slot.unset).toArray = ls at hl ⊢
  have hl : lv_has ls 2 [(0, .ref (B + 0)), (1, .int x1)] := hl
  exact w_SC_count_e ⟨Bd.exec, Bd.bytes, hml, findClass_of_methodNamed Bd.named, Bd.returns, Bd.notSynchronized, hK⟩  _ _ _ _ _ hl hP va_S.rf hf
end
