section
-- ===== PART A: goes FIRST, ahead of the names: the tables' words, and 'selects' of the private methods out of them =====
/-- a private method of a class that the tables say can be made, by its rows of tables_1 -/
def lw_okq (q : MethodName × Nat) : Prop := (q.1.cls ≠ "java/lang/invoke/MethodHandle" ∧ q.1.cls ≠ "java/lang/invoke/VarHandle") ∧ Cond.instantiable q.1.cls q.2 ∈ tables_1 ∧ Cond.privateMethod q.1 ∈ tables_1 ∧ Cond.instanceMethod q.1 ∈ tables_1
theorem lw_p0 : lw_okq (⟨"StencilCompiler", "forgetCompiled", "()V"⟩, 5) := ⟨⟨by decide +kernel, by decide +kernel⟩, List.mem_of_getElem? (i := 11) (by decide +kernel), List.mem_of_getElem? (i := 220) (by decide +kernel), List.mem_of_getElem? (i := 221) (by decide +kernel)⟩
theorem lw_p1 : lw_okq (⟨"StencilCompiler$Pipeline", "addStage", "(II)I"⟩, 7) := ⟨⟨by decide +kernel, by decide +kernel⟩, List.mem_of_getElem? (i := 19) (by decide +kernel), List.mem_of_getElem? (i := 228) (by decide +kernel), List.mem_of_getElem? (i := 229) (by decide +kernel)⟩
theorem lw_p2 : lw_okq (⟨"StencilCompiler$Pipeline", "hasStage", "(I)Z"⟩, 7) := ⟨⟨by decide +kernel, by decide +kernel⟩, List.mem_of_getElem? (i := 19) (by decide +kernel), List.mem_of_getElem? (i := 236) (by decide +kernel), List.mem_of_getElem? (i := 237) (by decide +kernel)⟩
theorem lw_p3 : lw_okq (⟨"StencilCompiler$Stage", "addTap", "(III)V"⟩, 7) := ⟨⟨by decide +kernel, by decide +kernel⟩, List.mem_of_getElem? (i := 32) (by decide +kernel), List.mem_of_getElem? (i := 240) (by decide +kernel), List.mem_of_getElem? (i := 241) (by decide +kernel)⟩
theorem lw_p4 : lw_okq (⟨"StencilCompiler$Plan", "draw", "()I"⟩, 8) := ⟨⟨by decide +kernel, by decide +kernel⟩, List.mem_of_getElem? (i := 113) (by decide +kernel), List.mem_of_getElem? (i := 260) (by decide +kernel), List.mem_of_getElem? (i := 261) (by decide +kernel)⟩
theorem lw_p5 : lw_okq (⟨"StencilCompiler$Needs", "spread", "(LStencilCompiler$Pipeline;II)V"⟩, 3) := ⟨⟨by decide +kernel, by decide +kernel⟩, List.mem_of_getElem? (i := 119) (by decide +kernel), List.mem_of_getElem? (i := 264) (by decide +kernel), List.mem_of_getElem? (i := 265) (by decide +kernel)⟩
theorem lw_p6 : lw_okq (⟨"StencilCompiler$Needs", "widen", "(III)V"⟩, 3) := ⟨⟨by decide +kernel, by decide +kernel⟩, List.mem_of_getElem? (i := 119) (by decide +kernel), List.mem_of_getElem? (i := 268) (by decide +kernel), List.mem_of_getElem? (i := 269) (by decide +kernel)⟩
theorem lw_p7 : lw_okq (⟨"StencilCompiler$Needs", "handOn", "(LStencilCompiler$Stage;II)V"⟩, 3) := ⟨⟨by decide +kernel, by decide +kernel⟩, List.mem_of_getElem? (i := 119) (by decide +kernel), List.mem_of_getElem? (i := 274) (by decide +kernel), List.mem_of_getElem? (i := 275) (by decide +kernel)⟩
theorem lw_p8 : lw_okq (⟨"StencilCompiler$Plan", "leastRootThatAsksTiled", "()I"⟩, 8) := ⟨⟨by decide +kernel, by decide +kernel⟩, List.mem_of_getElem? (i := 113) (by decide +kernel), List.mem_of_getElem? (i := 278) (by decide +kernel), List.mem_of_getElem? (i := 279) (by decide +kernel)⟩
theorem lw_p9 : lw_okq (⟨"StencilCompiler$Plan", "hasTiledToWorkOut", "(LStencilCompiler$Stage;)Z"⟩, 8) := ⟨⟨by decide +kernel, by decide +kernel⟩, List.mem_of_getElem? (i := 113) (by decide +kernel), List.mem_of_getElem? (i := 282) (by decide +kernel), List.mem_of_getElem? (i := 283) (by decide +kernel)⟩
theorem lw_p10 : lw_okq (⟨"StencilCompiler$Plan", "isUsedAs", "(II)Z"⟩, 8) := ⟨⟨by decide +kernel, by decide +kernel⟩, List.mem_of_getElem? (i := 113) (by decide +kernel), List.mem_of_getElem? (i := 286) (by decide +kernel), List.mem_of_getElem? (i := 287) (by decide +kernel)⟩
theorem lw_p11 : lw_okq (⟨"StencilCompiler$Plan", "measureOutput", "()V"⟩, 8) := ⟨⟨by decide +kernel, by decide +kernel⟩, List.mem_of_getElem? (i := 113) (by decide +kernel), List.mem_of_getElem? (i := 293) (by decide +kernel), List.mem_of_getElem? (i := 294) (by decide +kernel)⟩
theorem lw_p12 : lw_okq (⟨"StencilCompiler$Plan", "measureRoots", "()V"⟩, 8) := ⟨⟨by decide +kernel, by decide +kernel⟩, List.mem_of_getElem? (i := 113) (by decide +kernel), List.mem_of_getElem? (i := 297) (by decide +kernel), List.mem_of_getElem? (i := 298) (by decide +kernel)⟩
theorem lw_p13 : lw_okq (⟨"StencilCompiler$Needs", "lengthOf", "(I)I"⟩, 3) := ⟨⟨by decide +kernel, by decide +kernel⟩, List.mem_of_getElem? (i := 119) (by decide +kernel), List.mem_of_getElem? (i := 301) (by decide +kernel), List.mem_of_getElem? (i := 302) (by decide +kernel)⟩
theorem lw_p14 : lw_okq (⟨"StencilCompiler$Plan", "measureTiles", "()V"⟩, 8) := ⟨⟨by decide +kernel, by decide +kernel⟩, List.mem_of_getElem? (i := 113) (by decide +kernel), List.mem_of_getElem? (i := 305) (by decide +kernel), List.mem_of_getElem? (i := 306) (by decide +kernel)⟩
theorem lw_p15 : lw_okq (⟨"StencilCompiler$Pipeline", "tileCount", "()I"⟩, 7) := ⟨⟨by decide +kernel, by decide +kernel⟩, List.mem_of_getElem? (i := 19) (by decide +kernel), List.mem_of_getElem? (i := 309) (by decide +kernel), List.mem_of_getElem? (i := 310) (by decide +kernel)⟩
def lw_privs_1 : List (MethodName × Nat) := [(⟨"StencilCompiler", "forgetCompiled", "()V"⟩, 5), (⟨"StencilCompiler$Pipeline", "addStage", "(II)I"⟩, 7), (⟨"StencilCompiler$Pipeline", "hasStage", "(I)Z"⟩, 7), (⟨"StencilCompiler$Stage", "addTap", "(III)V"⟩, 7), (⟨"StencilCompiler$Plan", "draw", "()I"⟩, 8), (⟨"StencilCompiler$Needs", "spread", "(LStencilCompiler$Pipeline;II)V"⟩, 3), (⟨"StencilCompiler$Needs", "widen", "(III)V"⟩, 3), (⟨"StencilCompiler$Needs", "handOn", "(LStencilCompiler$Stage;II)V"⟩, 3), (⟨"StencilCompiler$Plan", "leastRootThatAsksTiled", "()I"⟩, 8), (⟨"StencilCompiler$Plan", "hasTiledToWorkOut", "(LStencilCompiler$Stage;)Z"⟩, 8), (⟨"StencilCompiler$Plan", "isUsedAs", "(II)Z"⟩, 8), (⟨"StencilCompiler$Plan", "measureOutput", "()V"⟩, 8), (⟨"StencilCompiler$Plan", "measureRoots", "()V"⟩, 8), (⟨"StencilCompiler$Needs", "lengthOf", "(I)I"⟩, 3), (⟨"StencilCompiler$Plan", "measureTiles", "()V"⟩, 8), (⟨"StencilCompiler$Pipeline", "tileCount", "()I"⟩, 7)]
theorem lw_r1 : ∀ q ∈ lw_privs_1, lw_okq q := List.forall_mem_cons.mpr ⟨lw_p0, List.forall_mem_cons.mpr ⟨lw_p1, List.forall_mem_cons.mpr ⟨lw_p2, List.forall_mem_cons.mpr ⟨lw_p3, List.forall_mem_cons.mpr ⟨lw_p4, List.forall_mem_cons.mpr ⟨lw_p5, List.forall_mem_cons.mpr ⟨lw_p6, List.forall_mem_cons.mpr ⟨lw_p7, List.forall_mem_cons.mpr ⟨lw_p8, List.forall_mem_cons.mpr ⟨lw_p9, List.forall_mem_cons.mpr ⟨lw_p10, List.forall_mem_cons.mpr ⟨lw_p11, List.forall_mem_cons.mpr ⟨lw_p12, List.forall_mem_cons.mpr ⟨lw_p13, List.forall_mem_cons.mpr ⟨lw_p14, List.forall_mem_cons.mpr ⟨lw_p15, fun _ h => absurd h List.not_mem_nil⟩⟩⟩⟩⟩⟩⟩⟩⟩⟩⟩⟩⟩⟩⟩⟩
theorem lw_p16 : lw_okq (⟨"StencilCompiler$Pipeline", "tileFirst", "(I)I"⟩, 7) := ⟨⟨by decide +kernel, by decide +kernel⟩, List.mem_of_getElem? (i := 19) (by decide +kernel), List.mem_of_getElem? (i := 313) (by decide +kernel), List.mem_of_getElem? (i := 314) (by decide +kernel)⟩
theorem lw_p17 : lw_okq (⟨"StencilCompiler$Pipeline", "tileLast", "(I)I"⟩, 7) := ⟨⟨by decide +kernel, by decide +kernel⟩, List.mem_of_getElem? (i := 19) (by decide +kernel), List.mem_of_getElem? (i := 317) (by decide +kernel), List.mem_of_getElem? (i := 318) (by decide +kernel)⟩
theorem lw_p18 : lw_okq (⟨"StencilCompiler$Plan", "measureTileInHand", "()I"⟩, 8) := ⟨⟨by decide +kernel, by decide +kernel⟩, List.mem_of_getElem? (i := 113) (by decide +kernel), List.mem_of_getElem? (i := 323) (by decide +kernel), List.mem_of_getElem? (i := 324) (by decide +kernel)⟩
theorem lw_p19 : lw_okq (⟨"StencilCompiler$Plan", "measureInlines", "()V"⟩, 8) := ⟨⟨by decide +kernel, by decide +kernel⟩, List.mem_of_getElem? (i := 113) (by decide +kernel), List.mem_of_getElem? (i := 328) (by decide +kernel), List.mem_of_getElem? (i := 329) (by decide +kernel)⟩
theorem lw_p20 : lw_okq (⟨"StencilCompiler$Plan", "askInlineSources", "(I)V"⟩, 8) := ⟨⟨by decide +kernel, by decide +kernel⟩, List.mem_of_getElem? (i := 113) (by decide +kernel), List.mem_of_getElem? (i := 332) (by decide +kernel), List.mem_of_getElem? (i := 333) (by decide +kernel)⟩
theorem lw_p21 : lw_okq (⟨"StencilCompiler$Runner", "runSchedule", "(LStencilCompiler$Needs;)V"⟩, 5) := ⟨⟨by decide +kernel, by decide +kernel⟩, List.mem_of_getElem? (i := 173) (by decide +kernel), List.mem_of_getElem? (i := 340) (by decide +kernel), List.mem_of_getElem? (i := 341) (by decide +kernel)⟩
theorem lw_p22 : lw_okq (⟨"StencilCompiler$Runner", "keep", "(LStencilCompiler$Needs;I)V"⟩, 5) := ⟨⟨by decide +kernel, by decide +kernel⟩, List.mem_of_getElem? (i := 173) (by decide +kernel), List.mem_of_getElem? (i := 344) (by decide +kernel), List.mem_of_getElem? (i := 345) (by decide +kernel)⟩
theorem lw_p23 : lw_okq (⟨"StencilCompiler$Runner", "workOut", "(II)I"⟩, 5) := ⟨⟨by decide +kernel, by decide +kernel⟩, List.mem_of_getElem? (i := 173) (by decide +kernel), List.mem_of_getElem? (i := 348) (by decide +kernel), List.mem_of_getElem? (i := 349) (by decide +kernel)⟩
theorem lw_p24 : lw_okq (⟨"StencilCompiler$Runner", "sourceValue", "(II)I"⟩, 5) := ⟨⟨by decide +kernel, by decide +kernel⟩, List.mem_of_getElem? (i := 173) (by decide +kernel), List.mem_of_getElem? (i := 352) (by decide +kernel), List.mem_of_getElem? (i := 353) (by decide +kernel)⟩
theorem lw_p25 : lw_okq (⟨"StencilCompiler$Stage", "finished", "(I)I"⟩, 7) := ⟨⟨by decide +kernel, by decide +kernel⟩, List.mem_of_getElem? (i := 32) (by decide +kernel), List.mem_of_getElem? (i := 358) (by decide +kernel), List.mem_of_getElem? (i := 359) (by decide +kernel)⟩
theorem lw_p26 : lw_okq (⟨"StencilCompiler$Runner", "runTile", "(II)V"⟩, 5) := ⟨⟨by decide +kernel, by decide +kernel⟩, List.mem_of_getElem? (i := 173) (by decide +kernel), List.mem_of_getElem? (i := 369) (by decide +kernel), List.mem_of_getElem? (i := 370) (by decide +kernel)⟩
theorem lw_p27 : lw_okq (⟨"StencilCompiler$Runner", "release", "(I)V"⟩, 5) := ⟨⟨by decide +kernel, by decide +kernel⟩, List.mem_of_getElem? (i := 173) (by decide +kernel), List.mem_of_getElem? (i := 374) (by decide +kernel), List.mem_of_getElem? (i := 375) (by decide +kernel)⟩
theorem lw_p28 : lw_okq (⟨"StencilCompiler$Pipeline", "valuesWorkedOutFor", "(I)I"⟩, 7) := ⟨⟨by decide +kernel, by decide +kernel⟩, List.mem_of_getElem? (i := 19) (by decide +kernel), List.mem_of_getElem? (i := 388) (by decide +kernel), List.mem_of_getElem? (i := 389) (by decide +kernel)⟩
theorem lw_p29 : lw_okq (⟨"StencilCompiler$Plan", "usedCount", "()I"⟩, 8) := ⟨⟨by decide +kernel, by decide +kernel⟩, List.mem_of_getElem? (i := 113) (by decide +kernel), List.mem_of_getElem? (i := 405) (by decide +kernel), List.mem_of_getElem? (i := 406) (by decide +kernel)⟩
theorem lw_p30 : lw_okq (⟨"StencilCompilerModel", "changed", "(I)I"⟩, 21) := ⟨⟨by decide +kernel, by decide +kernel⟩, List.mem_of_getElem? (i := 412) (by decide +kernel), List.mem_of_getElem? (i := 487) (by decide +kernel), List.mem_of_getElem? (i := 488) (by decide +kernel)⟩
theorem lw_p31 : lw_okq (⟨"StencilCompilerModel", "no", "(I)Z"⟩, 21) := ⟨⟨by decide +kernel, by decide +kernel⟩, List.mem_of_getElem? (i := 412) (by decide +kernel), List.mem_of_getElem? (i := 499) (by decide +kernel), List.mem_of_getElem? (i := 500) (by decide +kernel)⟩
def lw_privs_2 : List (MethodName × Nat) := [(⟨"StencilCompiler$Pipeline", "tileFirst", "(I)I"⟩, 7), (⟨"StencilCompiler$Pipeline", "tileLast", "(I)I"⟩, 7), (⟨"StencilCompiler$Plan", "measureTileInHand", "()I"⟩, 8), (⟨"StencilCompiler$Plan", "measureInlines", "()V"⟩, 8), (⟨"StencilCompiler$Plan", "askInlineSources", "(I)V"⟩, 8), (⟨"StencilCompiler$Runner", "runSchedule", "(LStencilCompiler$Needs;)V"⟩, 5), (⟨"StencilCompiler$Runner", "keep", "(LStencilCompiler$Needs;I)V"⟩, 5), (⟨"StencilCompiler$Runner", "workOut", "(II)I"⟩, 5), (⟨"StencilCompiler$Runner", "sourceValue", "(II)I"⟩, 5), (⟨"StencilCompiler$Stage", "finished", "(I)I"⟩, 7), (⟨"StencilCompiler$Runner", "runTile", "(II)V"⟩, 5), (⟨"StencilCompiler$Runner", "release", "(I)V"⟩, 5), (⟨"StencilCompiler$Pipeline", "valuesWorkedOutFor", "(I)I"⟩, 7), (⟨"StencilCompiler$Plan", "usedCount", "()I"⟩, 8), (⟨"StencilCompilerModel", "changed", "(I)I"⟩, 21), (⟨"StencilCompilerModel", "no", "(I)Z"⟩, 21)]
theorem lw_r2 : ∀ q ∈ lw_privs_2, lw_okq q := List.forall_mem_cons.mpr ⟨lw_p16, List.forall_mem_cons.mpr ⟨lw_p17, List.forall_mem_cons.mpr ⟨lw_p18, List.forall_mem_cons.mpr ⟨lw_p19, List.forall_mem_cons.mpr ⟨lw_p20, List.forall_mem_cons.mpr ⟨lw_p21, List.forall_mem_cons.mpr ⟨lw_p22, List.forall_mem_cons.mpr ⟨lw_p23, List.forall_mem_cons.mpr ⟨lw_p24, List.forall_mem_cons.mpr ⟨lw_p25, List.forall_mem_cons.mpr ⟨lw_p26, List.forall_mem_cons.mpr ⟨lw_p27, List.forall_mem_cons.mpr ⟨lw_p28, List.forall_mem_cons.mpr ⟨lw_p29, List.forall_mem_cons.mpr ⟨lw_p30, List.forall_mem_cons.mpr ⟨lw_p31, fun _ h => absurd h List.not_mem_nil⟩⟩⟩⟩⟩⟩⟩⟩⟩⟩⟩⟩⟩⟩⟩⟩
theorem lw_p32 : lw_okq (⟨"StencilCompilerModel", "valueAt", "(II)I"⟩, 21) := ⟨⟨by decide +kernel, by decide +kernel⟩, List.mem_of_getElem? (i := 412) (by decide +kernel), List.mem_of_getElem? (i := 521) (by decide +kernel), List.mem_of_getElem? (i := 522) (by decide +kernel)⟩
theorem lw_p33 : lw_okq (⟨"StencilCompilerModel", "given", "(I)I"⟩, 21) := ⟨⟨by decide +kernel, by decide +kernel⟩, List.mem_of_getElem? (i := 412) (by decide +kernel), List.mem_of_getElem? (i := 525) (by decide +kernel), List.mem_of_getElem? (i := 526) (by decide +kernel)⟩
theorem lw_p34 : lw_okq (⟨"StencilCompilerModel", "finished", "(II)I"⟩, 21) := ⟨⟨by decide +kernel, by decide +kernel⟩, List.mem_of_getElem? (i := 412) (by decide +kernel), List.mem_of_getElem? (i := 529) (by decide +kernel), List.mem_of_getElem? (i := 530) (by decide +kernel)⟩
theorem lw_p35 : lw_okq (⟨"StencilCompilerModel", "need", "(II)V"⟩, 21) := ⟨⟨by decide +kernel, by decide +kernel⟩, List.mem_of_getElem? (i := 412) (by decide +kernel), List.mem_of_getElem? (i := 537) (by decide +kernel), List.mem_of_getElem? (i := 538) (by decide +kernel)⟩
theorem lw_p36 : lw_okq (⟨"StencilCompilerModel", "spread", "(II)V"⟩, 21) := ⟨⟨by decide +kernel, by decide +kernel⟩, List.mem_of_getElem? (i := 412) (by decide +kernel), List.mem_of_getElem? (i := 541) (by decide +kernel), List.mem_of_getElem? (i := 542) (by decide +kernel)⟩
theorem lw_p37 : lw_okq (⟨"StencilCompilerModel", "kept", "(II)Z"⟩, 21) := ⟨⟨by decide +kernel, by decide +kernel⟩, List.mem_of_getElem? (i := 412) (by decide +kernel), List.mem_of_getElem? (i := 545) (by decide +kernel), List.mem_of_getElem? (i := 546) (by decide +kernel)⟩
theorem lw_p38 : lw_okq (⟨"StencilCompilerModel", "leans", "(I)Z"⟩, 21) := ⟨⟨by decide +kernel, by decide +kernel⟩, List.mem_of_getElem? (i := 412) (by decide +kernel), List.mem_of_getElem? (i := 549) (by decide +kernel), List.mem_of_getElem? (i := 550) (by decide +kernel)⟩
theorem lw_p39 : lw_okq (⟨"StencilCompilerModel", "total", "()J"⟩, 21) := ⟨⟨by decide +kernel, by decide +kernel⟩, List.mem_of_getElem? (i := 412) (by decide +kernel), List.mem_of_getElem? (i := 553) (by decide +kernel), List.mem_of_getElem? (i := 554) (by decide +kernel)⟩
theorem lw_p40 : lw_okq (⟨"StencilCompilerModel", "tiles", "()I"⟩, 21) := ⟨⟨by decide +kernel, by decide +kernel⟩, List.mem_of_getElem? (i := 412) (by decide +kernel), List.mem_of_getElem? (i := 557) (by decide +kernel), List.mem_of_getElem? (i := 558) (by decide +kernel)⟩
theorem lw_p41 : lw_okq (⟨"StencilCompilerModel", "needTile", "(I)V"⟩, 21) := ⟨⟨by decide +kernel, by decide +kernel⟩, List.mem_of_getElem? (i := 412) (by decide +kernel), List.mem_of_getElem? (i := 561) (by decide +kernel), List.mem_of_getElem? (i := 562) (by decide +kernel)⟩
theorem lw_p42 : lw_okq (⟨"StencilCompilerModel", "greatest", "(Z)I"⟩, 21) := ⟨⟨by decide +kernel, by decide +kernel⟩, List.mem_of_getElem? (i := 412) (by decide +kernel), List.mem_of_getElem? (i := 586) (by decide +kernel), List.mem_of_getElem? (i := 587) (by decide +kernel)⟩
def lw_privs_3 : List (MethodName × Nat) := [(⟨"StencilCompilerModel", "valueAt", "(II)I"⟩, 21), (⟨"StencilCompilerModel", "given", "(I)I"⟩, 21), (⟨"StencilCompilerModel", "finished", "(II)I"⟩, 21), (⟨"StencilCompilerModel", "need", "(II)V"⟩, 21), (⟨"StencilCompilerModel", "spread", "(II)V"⟩, 21), (⟨"StencilCompilerModel", "kept", "(II)Z"⟩, 21), (⟨"StencilCompilerModel", "leans", "(I)Z"⟩, 21), (⟨"StencilCompilerModel", "total", "()J"⟩, 21), (⟨"StencilCompilerModel", "tiles", "()I"⟩, 21), (⟨"StencilCompilerModel", "needTile", "(I)V"⟩, 21), (⟨"StencilCompilerModel", "greatest", "(Z)I"⟩, 21)]
theorem lw_r3 : ∀ q ∈ lw_privs_3, lw_okq q := List.forall_mem_cons.mpr ⟨lw_p32, List.forall_mem_cons.mpr ⟨lw_p33, List.forall_mem_cons.mpr ⟨lw_p34, List.forall_mem_cons.mpr ⟨lw_p35, List.forall_mem_cons.mpr ⟨lw_p36, List.forall_mem_cons.mpr ⟨lw_p37, List.forall_mem_cons.mpr ⟨lw_p38, List.forall_mem_cons.mpr ⟨lw_p39, List.forall_mem_cons.mpr ⟨lw_p40, List.forall_mem_cons.mpr ⟨lw_p41, List.forall_mem_cons.mpr ⟨lw_p42, fun _ h => absurd h List.not_mem_nil⟩⟩⟩⟩⟩⟩⟩⟩⟩⟩⟩
def lw_privs : List (MethodName × Nat) := lw_privs_1 ++ (lw_privs_2 ++ (lw_privs_3))
def lw_tbl : List Cond := k2_sels lw_privs ++ tables_1
theorem lw_privs_ok : ∀ q ∈ lw_privs, lw_okq q := by
  show ∀ q ∈ lw_privs_1 ++ (lw_privs_2 ++ (lw_privs_3)), lw_okq q
  exact List.forall_mem_append.mpr ⟨lw_r1, List.forall_mem_append.mpr ⟨lw_r2, lw_r3⟩⟩
-- ===== end of PART A; then your names; then what follows =====
end
section
/-! A WORLD AT FIXED PLACES: n cells at B, B + 1 ..; cell i has a shape (an object: its class and, a field each, an int or the place that a reference leads to; an array of ints; an array of references) and the ints M i 0, M i 1 .. -/
abbrev hm_M : Type := Nat → Nat → Int32
def hm_up (M : hm_M) (i k : Nat) (x : Int32) : hm_M := fun a => if a = i then upd (M a) k x else M a
theorem hm_up_self {M : hm_M} {i k : Nat} {x : Int32} : hm_up M i k x i = upd (M i) k x := if_pos rfl
theorem hm_up_ne {M : hm_M} {i j k : Nat} {x : Int32} (h : ¬ j = i) : hm_up M i k x j = M j := if_neg h
abbrev hm_L : Type := Nat → Nat → Int64
def hm_L0 : hm_L := fun _ _ => 0
def hm_lup (L : hm_L) (i k : Nat) (x : Int64) : hm_L := fun a => if a = i then vp_updL (L a) k x else L a
theorem hm_lup_self {L : hm_L} {i k : Nat} {x : Int64} : hm_lup L i k x i = vp_updL (L i) k x := if_pos rfl
theorem hm_lup_ne {L : hm_L} {i j k : Nat} {x : Int64} (h : ¬ j = i) : hm_lup L i k x j = L j := if_neg h
abbrev hm_S : Type := (Nat × List (Option Nat)) ⊕ (Nat × Nat × Option (Option (Nat → Nat)))
def hm_fv (B : Nat) (f : Nat → Int32) (k : Nat) (o : Option Nat) : Value := match o with
  | none => .int (f k)
  | some j => .ref (B + j)
def hm_fs (B : Nat) (fl : List (Option Nat)) (f : Nat → Int32) : List Value := fl.zipIdx.map (fun q => hm_fv B f q.2 q.1)
def hm_en (ca : Nat → ClassId) (B : Nat) (s : hm_S) (f : Nat → Int32) (h : Nat → Int64) : va_E := match s with
  | .inl (ci, fl) => .inr (ci, hm_fs B fl f)
  | .inr (t, n, none) => .inl (ca t, n, .inl f)
  | .inr (t, n, some none) => .inl (ca t, n, .inr (.inl h))
  | .inr (t, n, some (some g)) => .inl (ca t, n, .inr (.inr (.inr (.inr (fun j => some (B + g j))))))
def hm_wl (ca : Nat → ClassId) (n : Nat) (sh : Nat → hm_S) (B : Nat) (M : hm_M) (L : hm_L) : va_W := (List.range n).map (fun i => (B + i, hm_en ca B (sh i) (M i) (L i)))
def hm_A (B n : Nat) : Nat → Prop := fun q => B ≤ q ∧ q < B + n
theorem hm_get {ca : Nat → ClassId} {n : Nat} {sh : Nat → hm_S} {B : Nat} {M : hm_M} {L : hm_L} {i : Nat} (hi : i < n) : (hm_wl ca n sh B M L)[i]? = some (B + i, hm_en ca B (sh i) (M i) (L i)) := by
  unfold hm_wl
  rw [List.getElem?_map, List.getElem?_range hi]
  rfl
theorem hm_get_o {ca : Nat → ClassId} {n : Nat} {sh : Nat → hm_S} {B : Nat} {M : hm_M} {L : hm_L} {i ci : Nat} {fl : List (Option Nat)} (hi : i < n) (hs : sh i = .inl (ci, fl)) : (hm_wl ca n sh B M L)[i]? = some (B + i, .inr (ci, hm_fs B fl (M i))) := by
  rw [hm_get hi, hs]; rfl
theorem hm_get_a {ca : Nat → ClassId} {n : Nat} {sh : Nat → hm_S} {B : Nat} {M : hm_M} {L : hm_L} {i t ln : Nat} (hi : i < n) (hs : sh i = .inr (t, ln, none)) : (hm_wl ca n sh B M L)[i]? = some (B + i, .inl (ca t, ln, .inl (M i))) := by
  rw [hm_get hi, hs]; rfl
theorem hm_get_r {ca : Nat → ClassId} {n : Nat} {sh : Nat → hm_S} {B : Nat} {M : hm_M} {L : hm_L} {i t ln : Nat} {g : Nat → Nat} (hi : i < n) (hs : sh i = .inr (t, ln, some (some g))) : (hm_wl ca n sh B M L)[i]? = some (B + i, .inl (ca t, ln, .inr (.inr (.inr (.inr (fun j => some (B + g j))))))) := by
  rw [hm_get hi, hs]; rfl
theorem hm_fs_len {B : Nat} {fl : List (Option Nat)} {f : Nat → Int32} : (hm_fs B fl f).length = fl.length := by
  simp [hm_fs]
theorem hm_fs_get {B k : Nat} {fl : List (Option Nat)} {f : Nat → Int32} {o : Option Nat} (h : fl[k]? = some o) : (hm_fs B fl f)[k]? = some (hm_fv B f k o) := by
  simp [hm_fs, List.getElem?_zipIdx, h]
theorem hm_fs_at {B k : Nat} {fl : List (Option Nat)} {f : Nat → Int32} : (hm_fs B fl f)[k]? = (fl[k]?).map (hm_fv B f k) := by
  simp [hm_fs, List.getElem?_zipIdx]
  cases fl[k]? <;> rfl
theorem hm_fs_set {B k : Nat} {fl : List (Option Nat)} {f : Nat → Int32} {x : Int32} (h : fl[k]? = some none) : (hm_fs B fl f).set k (.int x) = hm_fs B fl (upd f k x) := by
  apply List.ext_getElem?
  intro j
  rw [hm_fs_at]
  by_cases hj : k = j
  · subst hj
    have hl : k < (hm_fs B fl f).length := by rw [hm_fs_len]; exact (List.getElem?_eq_some_iff.mp h).1
    rw [List.getElem?_set_self hl, h]
    simp [hm_fv, upd]
  · rw [List.getElem?_set_ne hj, hm_fs_at]
    cases hq : fl[j]? with
    | none => rfl
    | some o =>
      cases o with
      | none => simp [hm_fv, upd, Ne.symm hj]
      | some q => rfl
theorem hm_set {ca : Nat → ClassId} {n : Nat} {sh : Nat → hm_S} {B : Nat} {M : hm_M} {L : hm_L} {i k : Nat} {x : Int32} {en : va_E} (hi : i < n) (he : en = hm_en ca B (sh i) (upd (M i) k x) (L i)) : (hm_wl ca n sh B M L).set i (B + i, en) = hm_wl ca n sh B (hm_up M i k x) L := by
  subst he
  apply List.ext_getElem?
  intro j
  have hl : (hm_wl ca n sh B M L).length = n := by simp [hm_wl]
  by_cases hj : i = j
  · subst hj
    rw [List.getElem?_set_self (by rw [hl]; exact hi), hm_get hi, hm_up_self]
  · rw [List.getElem?_set_ne hj]
    by_cases hjn : j < n
    · rw [hm_get hjn, hm_get hjn, hm_up_ne (Ne.symm hj)]
    · rw [List.getElem?_eq_none (by rw [hl]; omega), List.getElem?_eq_none (by simp [hm_wl]; omega)]
theorem hm_set_o {ca : Nat → ClassId} {n : Nat} {sh : Nat → hm_S} {B : Nat} {M : hm_M} {L : hm_L} {i ci k : Nat} {fl : List (Option Nat)} {x : Int32} (hi : i < n) (hs : sh i = .inl (ci, fl)) (h : fl[k]? = some none) : (hm_wl ca n sh B M L).set i (B + i, .inr (ci, (hm_fs B fl (M i)).set k (.int x))) = hm_wl ca n sh B (hm_up M i k x) L := by
  refine hm_set hi ?_
  rw [hs, hm_fs_set h]; rfl
theorem hm_set_a {ca : Nat → ClassId} {n : Nat} {sh : Nat → hm_S} {B : Nat} {M : hm_M} {L : hm_L} {i t ln k : Nat} {x : Int32} (hi : i < n) (hs : sh i = .inr (t, ln, none)) : (hm_wl ca n sh B M L).set i (B + i, .inl (ca t, ln, .inl (upd (M i) k x))) = hm_wl ca n sh B (hm_up M i k x) L := by
  refine hm_set hi ?_
  rw [hs]; rfl
theorem hm_get_l {ca : Nat → ClassId} {n : Nat} {sh : Nat → hm_S} {B : Nat} {M : hm_M} {L : hm_L} {i t ln : Nat} (hi : i < n) (hs : sh i = .inr (t, ln, some none)) : (hm_wl ca n sh B M L)[i]? = some (B + i, .inl (ca t, ln, .inr (.inl (L i)))) := by
  rw [hm_get hi, hs]; rfl
theorem hm_set_l {ca : Nat → ClassId} {n : Nat} {sh : Nat → hm_S} {B : Nat} {M : hm_M} {L : hm_L} {i t ln k : Nat} {x : Int64} (hi : i < n) (hs : sh i = .inr (t, ln, some none)) : (hm_wl ca n sh B M L).set i (B + i, .inl (ca t, ln, .inr (.inl (vp_updL (L i) k x)))) = hm_wl ca n sh B M (hm_lup L i k x) := by
  apply List.ext_getElem?
  intro j
  have hl : (hm_wl ca n sh B M L).length = n := by simp [hm_wl]
  by_cases hj : i = j
  · subst hj
    rw [List.getElem?_set_self (by rw [hl]; exact hi), hm_get hi, hm_lup_self, hs]
    rfl
  · rw [List.getElem?_set_ne hj]
    by_cases hjn : j < n
    · rw [hm_get hjn, hm_get hjn, hm_lup_ne (Ne.symm hj)]
    · rw [List.getElem?_eq_none (by rw [hl]; omega), List.getElem?_eq_none (by simp [hm_wl]; omega)]
theorem hm_D {ca : Nat → ClassId} {n : Nat} {sh : Nat → hm_S} {B : Nat} {M : hm_M} {L : hm_L} : va_D (hm_A B n) (hm_wl ca n sh B M L) := by
  have key : ∀ (k : Nat) (q : Nat × va_E), (hm_wl ca n sh B M L)[k]? = some q → k < n ∧ q.1 = B + k := by
    intro k q hk
    have hl : k < n := by
      have := (List.getElem?_eq_some_iff.mp hk).1
      simpa [hm_wl] using this
    rw [hm_get hl] at hk
    cases hk
    exact ⟨hl, rfl⟩
  refine ⟨fun i j x y hx hy hxy => ?_, fun k q hk => ?_⟩
  · have h1 := (key i x hx).2
    have h2 := (key j y hy).2
    omega
  · obtain ⟨h1, h2⟩ := key k q hk
    rw [h2]
    exact ⟨by omega, by omega⟩
abbrev hm_P (D : va_G) (cl : List vw_C) (ca : Nat → ClassId) (n : Nat) (sh : Nat → hm_S) (B : Nat) (M : hm_M) (L : hm_L) (H : Heap) : Prop := va_P D cl (hm_wl ca n sh B M L) H
/-! guards and steps of the functions that the methods are read into -/
def hm_ix (i : Int32) (n : Nat) : Bool := decide (0 ≤ i.toInt ∧ i.toInt < n)
theorem hm_ix_in {i : Int32} {n : Nat} (h : hm_ix i n = true) : vp_in i n := vp_in_iff.mpr (of_decide_eq_true h)
theorem hm_ix_nI {k n : Nat} (h : k < n) (hn : n < 2 ^ 31) : hm_ix (nI k) n = true := decide_eq_true (vp_in_iff.mp (vp_in_nI h hn))
def hm_gd {α : Type} (b : Bool) (k : Option α) : Option α := match b with
  | true => k
  | false => none
theorem hm_gd_some {α : Type} {b : Bool} {k : Option α} {r : α} (h : hm_gd b k = some r) : b = true ∧ k = some r := by
  cases b with
  | true => exact ⟨rfl, h⟩
  | false => cases h
theorem hm_gd_t {α : Type} {b : Bool} {k : Option α} (h : b = true) : hm_gd b k = k := by subst h; rfl
def hm_bI {α β μ : Type} (x : Option (β × μ)) (k : β → μ → Option α) : Option α := match x with
  | none => none
  | some q => k q.1 q.2
theorem hm_bI_some {α β μ : Type} {x : Option (β × μ)} {k : β → μ → Option α} {y : α} (h : hm_bI x k = some y) : ∃ (r : β) (M : μ), x = some (r, M) ∧ k r M = some y := by
  cases x with
  | none => cases h
  | some q => exact ⟨q.1, q.2, rfl, h⟩
theorem hm_bI_t {α β μ : Type} {x : Option (β × μ)} {k : β → μ → Option α} {r : β} {M : μ} (h : x = some (r, M)) : hm_bI x k = k r M := by subst h; rfl
def hm_bV {α μ : Type} (x : Option μ) (k : μ → Option α) : Option α := match x with
  | none => none
  | some M => k M
theorem hm_bV_some {α μ : Type} {x : Option μ} {k : μ → Option α} {y : α} (h : hm_bV x k = some y) : ∃ M : μ, x = some M ∧ k M = some y := by
  cases x with
  | none => cases h
  | some q => exact ⟨q, rfl, h⟩
theorem hm_bV_t {α μ : Type} {x : Option μ} {k : μ → Option α} {M : μ} (h : x = some M) : hm_bV x k = k M := by subst h; rfl
def hm_st {α : Type} (M : hm_M) (i k : Nat) (x : Int32) (f : hm_M → Option α) : Option α := f (hm_up M i k x)
theorem hm_st_some {α : Type} {M : hm_M} {i k : Nat} {x : Int32} {f : hm_M → Option α} {y : α} (h : hm_st M i k x f = some y) : ∃ M1 : hm_M, M1 = hm_up M i k x ∧ f M1 = some y := ⟨_, rfl, h⟩
end
section
/-! ROWS OVER A WORLD AT FIXED PLACES -/
def hq_okw (w : Cond) : Bool := (w.onTables && w.keepsH) || (match w with
  | .arrayClass _ => true
  | _ => false)
/-- what a method of the world takes of the tables: classes, array classes, and all words of tb -/
def hq_K (D : va_G) (cl : List vw_C) (tys : List (ClassId × FieldType)) (tb : List Cond) (U : State) : Prop := va_K D cl tys U ∧ (∀ w ∈ tb, hq_okw w = true) ∧ ∀ w ∈ tb, ∀ a : Array Value, w.before a U = true
theorem hq_K.moved {D : va_G} {cl : List vw_C} {tys : List (ClassId × FieldType)} {tb : List Cond} {s U : State} (hW : s.WarmedH U.vm) (h : hq_K D cl tys tb s) : hq_K D cl tys tb U := by
  refine ⟨va_K.moved hW.alike h.1, h.2.1, fun w hw a => ?_⟩
  have hk := h.2.1 w hw
  have hb := h.2.2 w hw #[]
  unfold hq_okw at hk
  rcases Bool.or_eq_true _ _ |>.mp hk with h1 | h1
  · rw [Bool.and_eq_true] at h1
    have h2 := Cond.onTables_warmH (T := U) (args' := a) hW h1.1 h1.2 hb
    rwa [State.setVm_self] at h2
  · cases w with
    | arrayClass ty => exact word_at hW (Or.inr ⟨ty, rfl⟩) hb
    | _ => cases h1
theorem hq_K.calling {D : va_G} {cl : List vw_C} {tys : List (ClassId × FieldType)} {tb : List Cond} {U : State} {g : JFrame} {mk : MethodId} {a : Array Value} (h : hq_K D cl tys tb U) : hq_K D cl tys tb (U.calling g mk a) :=
  hq_K.moved (s := U) (U := U.calling g mk a) (State.WarmedH.refl U) h
def hq_Pre (D : va_G) (cl : List vw_C) (ca : Nat → ClassId) (n : Nat) (sh : Nat → hm_S) (B : Nat) (tys : List (ClassId × FieldType)) (tb : List Cond) (M : hm_M) (L : hm_L) (vs : List Value) : Array Value → State → Prop := va_Pc vs (fun U => hm_P D cl ca n sh B M L U.heap ∧ hq_K D cl tys tb U)
def hq_QI (D : va_G) (cl : List vw_C) (ca : Nat → ClassId) (n : Nat) (sh : Nat → hm_S) (B : Nat) (r : Int32) (M : hm_M) (L : hm_L) : Array Value → State → Outcome → State → Prop := va_Qi (fun (r' : Int32) (_ : Unit) => r' = r) (fun _ t => hm_P D cl ca n sh B M L t.heap) (hm_A B n)
def hq_QL (D : va_G) (cl : List vw_C) (ca : Nat → ClassId) (n : Nat) (sh : Nat → hm_S) (B : Nat) (r : Int64) (M : hm_M) (L : hm_L) : Array Value → State → Outcome → State → Prop := va_Ql (fun (r' : Int64) (_ : Unit) => r' = r) (fun _ t => hm_P D cl ca n sh B M L t.heap) (hm_A B n)
def hq_QV (D : va_G) (cl : List vw_C) (ca : Nat → ClassId) (n : Nat) (sh : Nat → hm_S) (B : Nat) (M : hm_M) (L : hm_L) : Array Value → State → Outcome → State → Prop := va_Qv (fun (_ : Unit) => True) (fun _ t => hm_P D cl ca n sh B M L t.heap) (hm_A B n)
section HQ
variable {p : Program} {l : Launch} {e : Env} {R : Room} {s : State} {m : MethodId} {args : Array Value} {below : List Frame} {meth : Method} {c : Code} {H : Heap} {locs : List Loc} {cells slots : Nat} {Q : State → Prop}
variable {cc : ByteArray} {pc : Nat} {ls : Array Slot} {rest st0 : List Value} {D : va_G} {cl : List vw_C} {tys : List (ClassId × FieldType)} {H0 : Heap} {ca : Nat → ClassId} {n B : Nat} {sh : Nat → hm_S} {M M1 : hm_M} {L L1 : hm_L} {tb : List Cond} {A : Nat → Prop}
theorem hq_get (hexec : p.tables.exec = Jvm.exec) (hb : c.code = cc) {own ref C : String} {T : u_T} {N ci index : Nat} {Ts : List Cond} (hts : ∀ w ∈ Ts, w.before args s = true) (hin : ∀ w ∈ u_ws C T N, w ∈ Ts) (hown : s.vm.findClass own = some m.cls) (hK : va_K D cl tys s) (hP : hm_P D cl ca n sh B M L H) (i : Nat) (hi : i < n) {fl : List (Option Nat)} (hs : sh i = .inl (ci, fl)) (hc : cl[ci]? = some (C, T, N)) (k : Nat) (hk : k < N) (hlink : (Cond.fieldLink own index ref (T k).2.1 (T k).2.2.1).before args s = true) (hsame : ∀ x, s.fieldFound? (T k).1 (T k).2.1 (T k).2.2.1 = some x → s.fieldFound? ref (T k).2.1 (T k).2.2.1 = some x) {v : Value} (hv : (fl[k]?).map (hm_fv B (M i) k) = some v) (hdg : decode cc pc = .ok (.getfield index, 3))
    (kk : W p l e R s m args below meth c H locs cells slots Q (F0 m (pc + 3) ls (v :: rest))) : W p l e R s m args below meth c H locs cells slots Q (F0 m pc ls (.ref (B + i) :: rest)) :=
  va_get hexec hb hts hin hown hK hP i (hm_get_o hi hs) hc k hk hlink hsame (hm_fs_at.trans hv) hdg kk
theorem hq_getN (hexec : p.tables.exec = Jvm.exec) (hb : c.code = cc) {own ref C host : String} {T : u_T} {N ci index : Nat} {Ts : List Cond} (hts : ∀ w ∈ Ts, w.before args s = true) (hin : ∀ w ∈ u_ws C T N, w ∈ Ts) (hown : s.vm.findClass own = some m.cls) (hK : va_K D cl tys s) (hP : hm_P D cl ca n sh B M L H) (i : Nat) (hi : i < n) {fl : List (Option Nat)} (hs : sh i = .inl (ci, fl)) (hc : cl[ci]? = some (C, T, N)) (k : Nat) (hk : k < N) (hlink : (Cond.fieldLinkNest own index ref (T k).2.1 (T k).2.2.1 host).before args s = true) (hsame : ∀ x, s.fieldFound? (T k).1 (T k).2.1 (T k).2.2.1 = some x → s.fieldFound? ref (T k).2.1 (T k).2.2.1 = some x) {v : Value} (hv : (fl[k]?).map (hm_fv B (M i) k) = some v) (hdg : decode cc pc = .ok (.getfield index, 3))
    (kk : W p l e R s m args below meth c H locs cells slots Q (F0 m (pc + 3) ls (v :: rest))) : W p l e R s m args below meth c H locs cells slots Q (F0 m pc ls (.ref (B + i) :: rest)) :=
  va_getN hexec hb hts hin hown hK hP i (hm_get_o hi hs) hc k hk hlink hsame (hm_fs_at.trans hv) hdg kk
theorem hq_put (hexec : p.tables.exec = Jvm.exec) (hb : c.code = cc) {own ref C : String} {T : u_T} {N ci index : Nat} {Ts : List Cond} (hts : ∀ w ∈ Ts, w.before args s = true) (hin : ∀ w ∈ u_ws C T N, w ∈ Ts) (ty0 : Nat → FieldType) (hty : ∀ k, k < N → parseFieldDescriptor (T k).2.2.1 = some (ty0 k)) (hnm : ∀ a, a < N → ∀ b, b < N → a ≠ b → (T a).2.1 ≠ (T b).2.1) (hown : s.vm.findClass own = some m.cls) (hK : va_K D cl tys s) (hP : hm_P D cl ca n sh B M L H) (hS0 : va_S (hm_A B n) H0 H locs) (i : Nat) (hi : i < n) {fl : List (Option Nat)} (hs : sh i = .inl (ci, fl)) (hc : cl[ci]? = some (C, T, N)) (k : Nat) (hk : k < N) (hlink : (Cond.fieldLink own index ref (T k).2.1 (T k).2.2.1).before args s = true) (hsame : ∀ x, s.fieldFound? (T k).1 (T k).2.1 (T k).2.2.1 = some x → s.fieldFound? ref (T k).2.1 (T k).2.2.1 = some x) (hfin : (T k).2.2.2 = false) {ty : FieldType} {x : Int32} (hd : parseFieldDescriptor (T k).2.2.1 = some ty) (hn : narrow ty (.int x) = .int x) (hfit : fits ty (.int x) = true) (hf : fl[k]? = some none)
    (hdg : decode cc pc = .ok (.putfield index, 3)) (kk : ∀ (H1 : Heap) (locs1 : List Loc), hm_P D cl ca n sh B (hm_up M i k x) L H1 → va_S (hm_A B n) H0 H1 locs1 → W p l e R s m args below meth c H1 locs1 cells slots Q (F0 m (pc + 3) ls rest)) : W p l e R s m args below meth c H locs cells slots Q (F0 m pc ls (.int x :: .ref (B + i) :: rest)) :=
  va_put hexec hb hts hin ty0 hty hnm hown hK hP hm_D hS0 i (hm_get_o hi hs) hc k hk hlink hsame hfin hd hn hfit (by rw [hm_fs_len]; exact (List.getElem?_eq_some_iff.mp hf).1) hdg (fun H1 locs1 hP1 _ hS1 => kk H1 locs1 (by rw [hm_set_o hi hs hf] at hP1; exact hP1) hS1)
theorem hq_putN (hexec : p.tables.exec = Jvm.exec) (hb : c.code = cc) {own ref C host : String} {T : u_T} {N ci index : Nat} {Ts : List Cond} (hts : ∀ w ∈ Ts, w.before args s = true) (hin : ∀ w ∈ u_ws C T N, w ∈ Ts) (ty0 : Nat → FieldType) (hty : ∀ k, k < N → parseFieldDescriptor (T k).2.2.1 = some (ty0 k)) (hnm : ∀ a, a < N → ∀ b, b < N → a ≠ b → (T a).2.1 ≠ (T b).2.1) (hown : s.vm.findClass own = some m.cls) (hK : va_K D cl tys s) (hP : hm_P D cl ca n sh B M L H) (hS0 : va_S (hm_A B n) H0 H locs) (i : Nat) (hi : i < n) {fl : List (Option Nat)} (hs : sh i = .inl (ci, fl)) (hc : cl[ci]? = some (C, T, N)) (k : Nat) (hk : k < N) (hlink : (Cond.fieldLinkNest own index ref (T k).2.1 (T k).2.2.1 host).before args s = true) (hsame : ∀ x, s.fieldFound? (T k).1 (T k).2.1 (T k).2.2.1 = some x → s.fieldFound? ref (T k).2.1 (T k).2.2.1 = some x) (hfin : (T k).2.2.2 = false) {ty : FieldType} {x : Int32} (hd : parseFieldDescriptor (T k).2.2.1 = some ty) (hn : narrow ty (.int x) = .int x) (hfit : fits ty (.int x) = true) (hf : fl[k]? = some none)
    (hdg : decode cc pc = .ok (.putfield index, 3)) (kk : ∀ (H1 : Heap) (locs1 : List Loc), hm_P D cl ca n sh B (hm_up M i k x) L H1 → va_S (hm_A B n) H0 H1 locs1 → W p l e R s m args below meth c H1 locs1 cells slots Q (F0 m (pc + 3) ls rest)) : W p l e R s m args below meth c H locs cells slots Q (F0 m pc ls (.int x :: .ref (B + i) :: rest)) :=
  va_putN hexec hb hts hin ty0 hty hnm hown hK hP hm_D hS0 i (hm_get_o hi hs) hc k hk hlink hsame hfin hd hn hfit (by rw [hm_fs_len]; exact (List.getElem?_eq_some_iff.mp hf).1) hdg (fun H1 locs1 hP1 _ hS1 => kk H1 locs1 (by rw [hm_set_o hi hs hf] at hP1; exact hP1) hS1)
theorem hq_iald (hexec : p.tables.exec = Jvm.exec) (hb : c.code = cc) (hK : va_K D cl tys s) (hP : hm_P D cl ca n sh B M L H) (i : Nat) (hi : i < n) {t ln : Nat} (hs : sh i = .inr (t, ln, none)) (t0 : Nat) (ht : tys[t0]? = some (ca t, .int)) {x : Int32} (hin : hm_ix x ln = true) (hdg : decode cc pc = .ok (.iaload, 1))
    (kk : W p l e R s m args below meth c H locs cells slots Q (F0 m (pc + 1) ls (.int (M i x.toNatClampNeg) :: rest))) : W p l e R s m args below meth c H locs cells slots Q (F0 m pc ls (.int x :: .ref (B + i) :: rest)) :=
  va_iald hexec hb hK hP i t0 (hm_get_a hi hs) ht (hm_ix_in hin) hdg kk
theorem hq_zald (hexec : p.tables.exec = Jvm.exec) (hb : c.code = cc) (hK : va_K D cl tys s) (hP : hm_P D cl ca n sh B M L H) (i : Nat) (hi : i < n) {t ln : Nat} (hs : sh i = .inr (t, ln, none)) (t0 : Nat) (ht : tys[t0]? = some (ca t, .boolean)) {x : Int32} (hin : hm_ix x ln = true) (hdg : decode cc pc = .ok (.baload, 1))
    (kk : W p l e R s m args below meth c H locs cells slots Q (F0 m (pc + 1) ls (.int (M i x.toNatClampNeg) :: rest))) : W p l e R s m args below meth c H locs cells slots Q (F0 m pc ls (.int x :: .ref (B + i) :: rest)) :=
  va_zald hexec hb hK hP i t0 (hm_get_a hi hs) ht (hm_ix_in hin) hdg kk
theorem hq_aald (hexec : p.tables.exec = Jvm.exec) (hb : c.code = cc) (hK : va_K D cl tys s) (hP : hm_P D cl ca n sh B M L H) (i : Nat) (hi : i < n) {t ln : Nat} {g : Nat → Nat} (hs : sh i = .inr (t, ln, some (some g))) (t0 : Nat) {ty : FieldType} (ht : tys[t0]? = some (ca t, ty)) (hty : ty.isReference = true) {x : Int32} (hin : hm_ix x ln = true) (hdg : decode cc pc = .ok (.aaload, 1))
    (kk : W p l e R s m args below meth c H locs cells slots Q (F0 m (pc + 1) ls (.ref (B + g x.toNatClampNeg) :: rest))) : W p l e R s m args below meth c H locs cells slots Q (F0 m pc ls (.int x :: .ref (B + i) :: rest)) := by
  have hin2 := hm_ix_in hin
  have hlt : x.toNatClampNeg < ln := Nat.not_le.mp fun q => hin2 (Or.inr q)
  exact W.aald (v := .ref (B + g x.toNatClampNeg)) (ty := ty) hexec hb (hP i _ (hm_get_r hi hs)) ((hK.2 t0 _ ht).1 ln (fun j => va_rf (some (B + g j)))) hty (fun q => by cases q) (by show ¬ (x < 0 ∨ (arrV _ _ _).slots.size ≤ _); rw [arrV_size]; exact hin2) (by show (arrV _ _ _).slots[_]? = _; rw [arrV_read _ _ hlt]; rfl) rfl rfl hdg kk
theorem hq_alen (hexec : p.tables.exec = Jvm.exec) (hb : c.code = cc) (hK : va_K D cl tys s) (hP : hm_P D cl ca n sh B M L H) (i : Nat) (hi : i < n) {t ln : Nat} (hs : sh i = .inr (t, ln, none)) (t0 : Nat) {ty : FieldType} (ht : tys[t0]? = some (ca t, ty)) {v : Int32} (hv : Int32.ofNat ln = v) (hdg : decode cc pc = .ok (.arraylength, 1))
    (kk : W p l e R s m args below meth c H locs cells slots Q (F0 m (pc + 1) ls (.int v :: rest))) : W p l e R s m args below meth c H locs cells slots Q (F0 m pc ls (.ref (B + i) :: rest)) :=
  va_alen hexec hb hK hP i t0 (hm_get_a hi hs) ht hv hdg kk
theorem hq_iast (hexec : p.tables.exec = Jvm.exec) (hb : c.code = cc) (hK : va_K D cl tys s) (hP : hm_P D cl ca n sh B M L H) (hS0 : va_S (hm_A B n) H0 H locs) (i : Nat) (hi : i < n) {t ln : Nat} (hs : sh i = .inr (t, ln, none)) (t0 : Nat) (ht : tys[t0]? = some (ca t, .int)) {x y : Int32} (hin : hm_ix x ln = true) (hdg : decode cc pc = .ok (.iastore, 1))
    (kk : ∀ (H1 : Heap) (locs1 : List Loc), hm_P D cl ca n sh B (hm_up M i x.toNatClampNeg y) L H1 → va_S (hm_A B n) H0 H1 locs1 → W p l e R s m args below meth c H1 locs1 cells slots Q (F0 m (pc + 1) ls rest)) : W p l e R s m args below meth c H locs cells slots Q (F0 m pc ls (.int y :: .int x :: .ref (B + i) :: rest)) :=
  va_iast hexec hb hK hP hm_D hS0 i t0 (hm_get_a hi hs) ht (hm_ix_in hin) hdg (fun H1 locs1 hP1 _ hS1 => kk H1 locs1 (by rw [hm_set_a hi hs] at hP1; exact hP1) hS1)
theorem hq_nb {y : Int32} (h : y = 0 ∨ y = 1) : vp_nar .boolean y = y := by
  rcases h with rfl | rfl <;> rfl
theorem hq_nb2 {y : Int32} (h : y = 0 ∨ y = 1) : narrow .boolean (.int y) = .int y := by
  rcases h with rfl | rfl <;> rfl
theorem hq_nb3 {y : Int32} (h : y = 0 ∨ y = 1) : fits .boolean (.int y) = true := by
  rcases h with rfl | rfl <;> rfl
theorem hq_zast (hexec : p.tables.exec = Jvm.exec) (hb : c.code = cc) (hK : va_K D cl tys s) (hP : hm_P D cl ca n sh B M L H) (hS0 : va_S (hm_A B n) H0 H locs) (i : Nat) (hi : i < n) {t ln : Nat} (hs : sh i = .inr (t, ln, none)) (t0 : Nat) (ht : tys[t0]? = some (ca t, .boolean)) {x y : Int32} (hin : hm_ix x ln = true) (hy : y = 0 ∨ y = 1) (hdg : decode cc pc = .ok (.bastore, 1))
    (kk : ∀ (H1 : Heap) (locs1 : List Loc), hm_P D cl ca n sh B (hm_up M i x.toNatClampNeg y) L H1 → va_S (hm_A B n) H0 H1 locs1 → W p l e R s m args below meth c H1 locs1 cells slots Q (F0 m (pc + 1) ls rest)) : W p l e R s m args below meth c H locs cells slots Q (F0 m pc ls (.int y :: .int x :: .ref (B + i) :: rest)) :=
  va_zast hexec hb hK hP hm_D hS0 i t0 (hm_get_a hi hs) ht (hm_ix_in hin) hdg (fun H1 locs1 hP1 _ hS1 => kk H1 locs1 (by rw [hq_nb hy, hm_set_a hi hs] at hP1; exact hP1) hS1)
theorem hq_alenl (hexec : p.tables.exec = Jvm.exec) (hb : c.code = cc) (hK : va_K D cl tys s) (hP : hm_P D cl ca n sh B M L H) (i : Nat) (hi : i < n) {t ln : Nat} (hs : sh i = .inr (t, ln, some none)) (t0 : Nat) {ty : FieldType} (ht : tys[t0]? = some (ca t, ty)) {v : Int32} (hv : Int32.ofNat ln = v) (hdg : decode cc pc = .ok (.arraylength, 1))
    (kk : W p l e R s m args below meth c H locs cells slots Q (F0 m (pc + 1) ls (.int v :: rest))) : W p l e R s m args below meth c H locs cells slots Q (F0 m pc ls (.ref (B + i) :: rest)) :=
  va_alen hexec hb hK hP i t0 (hm_get_l hi hs) ht hv hdg kk
theorem hq_lald (hexec : p.tables.exec = Jvm.exec) (hb : c.code = cc) (hK : va_K D cl tys s) (hP : hm_P D cl ca n sh B M L H) (i : Nat) (hi : i < n) {t ln : Nat} (hs : sh i = .inr (t, ln, some none)) (t0 : Nat) (ht : tys[t0]? = some (ca t, .long)) {x : Int32} (hin : hm_ix x ln = true) (hdg : decode cc pc = .ok (.laload, 1))
    (kk : W p l e R s m args below meth c H locs cells slots Q (F0 m (pc + 1) ls (.long (L i x.toNatClampNeg) :: rest))) : W p l e R s m args below meth c H locs cells slots Q (F0 m pc ls (.int x :: .ref (B + i) :: rest)) :=
  va_lald hexec hb hK hP i t0 (hm_get_l hi hs) ht (hm_ix_in hin) hdg kk
theorem hq_last (hexec : p.tables.exec = Jvm.exec) (hb : c.code = cc) (hK : va_K D cl tys s) (hP : hm_P D cl ca n sh B M L H) (hS0 : va_S (hm_A B n) H0 H locs) (i : Nat) (hi : i < n) {t ln : Nat} (hs : sh i = .inr (t, ln, some none)) (t0 : Nat) (ht : tys[t0]? = some (ca t, .long)) {x : Int32} {y : Int64} (hin : hm_ix x ln = true) (hdg : decode cc pc = .ok (.lastore, 1))
    (kk : ∀ (H1 : Heap) (locs1 : List Loc), hm_P D cl ca n sh B M (hm_lup L i x.toNatClampNeg y) H1 → va_S (hm_A B n) H0 H1 locs1 → W p l e R s m args below meth c H1 locs1 cells slots Q (F0 m (pc + 1) ls rest)) : W p l e R s m args below meth c H locs cells slots Q (F0 m pc ls (.long y :: .int x :: .ref (B + i) :: rest)) :=
  va_last hexec hb hK hP hm_D hS0 i t0 (hm_get_l hi hs) ht (hm_ix_in hin) hdg (fun H1 locs1 hP1 _ hS1 => kk H1 locs1 (by rw [hm_set_l hi hs] at hP1; exact hP1) hS1)
/-! calls -/
theorem hq_callI {r : Int32} {a : Array Value} (hr : va_Run p l e R s m args below meth c H locs cells slots 0 0 (F0 m pc ls st0) rest (hq_QI D cl ca n sh B r M1 L1 a) (hm_A B n)) (hS : va_S (hm_A B n) H0 H locs)
    (kk : ∀ (H1 : Heap) (locs1 : List Loc), hm_P D cl ca n sh B M1 L1 H1 → va_S (hm_A B n) H0 H1 locs1 → W p l e R s m args below meth c H1 locs1 cells slots Q (F0 m (pc + 3) ls (.int r :: rest))) : W p l e R s m args below meth c H locs cells slots Q (F0 m pc ls st0) :=
  va_calli hr hS (fun _ _ h => h) (fun _ h => h) (fun r' u t H1 locs1 ht _ hw hB _ _ hS1 => by
    subst hw
    subst ht
    exact kk _ _ hB hS1)
theorem hq_callL {r : Int64} {a : Array Value} (hr : va_Run p l e R s m args below meth c H locs cells slots 0 0 (F0 m pc ls st0) rest (hq_QL D cl ca n sh B r M1 L1 a) (hm_A B n)) (hS : va_S (hm_A B n) H0 H locs)
    (kk : ∀ (H1 : Heap) (locs1 : List Loc), hm_P D cl ca n sh B M1 L1 H1 → va_S (hm_A B n) H0 H1 locs1 → W p l e R s m args below meth c H1 locs1 cells slots Q (F0 m (pc + 3) ls (.long r :: rest))) : W p l e R s m args below meth c H locs cells slots Q (F0 m pc ls st0) :=
  va_calll hr hS (fun _ _ h => h) (fun _ h => h) (fun r' u t H1 locs1 ht _ hw hB _ _ hS1 => by
    subst hw
    subst ht
    exact kk _ _ hB hS1)
theorem hq_callV {a : Array Value} (hr : va_Run p l e R s m args below meth c H locs cells slots 0 0 (F0 m pc ls st0) rest (hq_QV D cl ca n sh B M1 L1 a) (hm_A B n)) (hS : va_S (hm_A B n) H0 H locs)
    (kk : ∀ (H1 : Heap) (locs1 : List Loc), hm_P D cl ca n sh B M1 L1 H1 → va_S (hm_A B n) H0 H1 locs1 → W p l e R s m args below meth c H1 locs1 cells slots Q (F0 m (pc + 3) ls rest)) : W p l e R s m args below meth c H locs cells slots Q (F0 m pc ls st0) :=
  va_callv hr hS (fun _ _ h => h) (fun _ h => h) (fun u t H1 locs1 ht _ _ hB _ _ hS1 => by
    subst ht
    exact kk _ _ hB hS1)
theorem hq_blind {vs : List Value} : FrameBlind (hq_Pre D cl ca n sh B tys tb M L vs) := fun _ _ _ _ q => ⟨q.1, q.2.1, q.2.2.calling⟩
theorem hq_preV {C : String} {T : u_T} {N ci i : Nat} {fl : List (Option Nat)} {As : List Value} (hK : hq_K D cl tys tb s) (hP : hm_P D cl ca n sh B M L H) (hi : i < n) (hs : sh i = .inl (ci, fl)) (hc : cl[ci]? = some (C, T, N)) : PreV s H C (B + i) (hq_Pre D cl ca n sh B tys tb M L (.ref (B + i) :: As)) As :=
  ⟨hq_blind, va_recv hK.1 hP hc (hm_get_o hi hs), fun U hU hW => ⟨rfl, by rw [hU]; exact hP, hK.moved hW⟩⟩
theorem hq_preS {As : List Value} (hK : hq_K D cl tys tb s) (hP : hm_P D cl ca n sh B M L H) : PreS s H (hq_Pre D cl ca n sh B tys tb M L As) As :=
  ⟨hq_blind, fun U hU hW => ⟨rfl, by rw [hU]; exact hP, hK.moved hW⟩⟩
theorem hq_cwV {own C : String} {index maxL nn : Nat} {y : MethodName} {bytes : ByteArray} {ret : Option FieldType} {rm : Room} (hts : ∀ w ∈ tb, w.before args s = true) (hcode : Cond.code y bytes maxL ret ∈ tb) (hini : Cond.initialized y.cls ∈ tb) (hlink : Cond.methodLink own index y ∈ tb) (hin : Cond.instanceMethod y ∈ tb) (hsel : Cond.selects C y y ∈ tb)
    (hd : y.cls ≠ "java/lang/invoke/MethodHandle" ∧ y.cls ≠ "java/lang/invoke/VarHandle" ∧ (parseMethodDescriptor y.desc).map (fun d => d.parameters.length) = some nn) (hc : rm.cells = 0) (hs : rm.slots = 0) (hR : rm.frames + 1 ≤ R.frames ∧ 8 + (maxL + 11) + rm.locals ≤ R.locals) :
    CallW R s args own C index y bytes maxL ret [Cond.code y bytes maxL ret] rm 0 0 nn :=
  ⟨callB_of nn hts (fun w hw => by
    rw [List.mem_singleton.mp hw]
    exact ⟨hcode, Or.inl rfl⟩) rfl hc hs (hts _ hini) (hts _ hlink) hd hR, hts _ hin, hts _ hsel⟩
theorem hq_cwN {own C host : String} {index maxL nn : Nat} {y : MethodName} {bytes : ByteArray} {ret : Option FieldType} {rm : Room} (hts : ∀ w ∈ tb, w.before args s = true) (hcode : Cond.code y bytes maxL ret ∈ tb) (hini : Cond.initialized y.cls ∈ tb) (hlink : Cond.methodLinkNest own index y host ∈ tb) (hin : Cond.instanceMethod y ∈ tb) (hsel : Cond.selects C y y ∈ tb)
    (hd : y.cls ≠ "java/lang/invoke/MethodHandle" ∧ y.cls ≠ "java/lang/invoke/VarHandle" ∧ (parseMethodDescriptor y.desc).map (fun d => d.parameters.length) = some nn) (hc : rm.cells = 0) (hs : rm.slots = 0) (hR : rm.frames + 1 ≤ R.frames ∧ 8 + (maxL + 11) + rm.locals ≤ R.locals) :
    va_CN R s args own index y host bytes maxL ret [Cond.code y bytes maxL ret] rm 0 0 nn ∧ (Cond.instanceMethod y).before args s = true ∧ (Cond.selects C y y).before args s = true :=
  ⟨va_cnB nn hts (fun w hw => by
    rw [List.mem_singleton.mp hw]
    exact ⟨hcode, Or.inl rfl⟩) rfl hc hs (va_Nw.of rfl (hts _ hlink)) (hts _ hini) hd hR, hts _ hin, hts _ hsel⟩
theorem hq_cwS {own : String} {index maxL nn : Nat} {y : MethodName} {bytes : ByteArray} {ret : Option FieldType} {rm : Room} (hts : ∀ w ∈ tb, w.before args s = true) (hcode : Cond.code y bytes maxL ret ∈ tb) (hini : Cond.initialized y.cls ∈ tb) (hlink : Cond.methodLink own index y ∈ tb) (hst : Cond.static y ∈ tb)
    (hd : y.cls ≠ "java/lang/invoke/MethodHandle" ∧ y.cls ≠ "java/lang/invoke/VarHandle" ∧ (parseMethodDescriptor y.desc).map (fun d => d.parameters.length) = some nn) (hc : rm.cells = 0) (hs : rm.slots = 0) (hR : rm.frames + 1 ≤ R.frames ∧ 8 + (maxL + 11) + rm.locals ≤ R.locals) :
    CallB R s args own index y bytes maxL ret [Cond.code y bytes maxL ret] rm 0 0 nn ∧ (Cond.static y).before args s = true :=
  ⟨callB_of nn hts (fun w hw => by
    rw [List.mem_singleton.mp hw]
    exact ⟨hcode, Or.inl rfl⟩) rfl hc hs (hts _ hini) (hts _ hlink) hd hR, hts _ hst⟩
end HQ
end
section
/-! A WORLD THAT GROWS: all cells from B on, c of them, E i the i-th; what a constructor makes lies next behind -/
def hg_W (D : va_G) (cl : List vw_C) (B c : Nat) (E : Nat → va_E) (H : Heap) : Prop := (∀ i, i < c → va_at D cl (B + i, E i) H) ∧ H.size = B + c
def hg_A (B : Nat) : Nat → Prop := fun q => B ≤ q
theorem hg_push {D : va_G} {cl : List vw_C} {B c : Nat} {E : Nat → va_E} {H H1 : Heap} {e : va_E} (h : hg_W D cl B c E H) (h1 : va_at D cl (B + c, e) H1) (z : H1.size = H.size + 1) (o : ∀ q, q < H.size → H1[q]? = H[q]?) : hg_W D cl B (c + 1) (va_up E c e) H1 := by
  refine ⟨fun i hi => ?_, by rw [z, h.2]; omega⟩
  by_cases hic : i = c
  · subst hic
    rw [va_up_self]
    exact h1
  · rw [va_up_ne _ _ hic]
    exact (h.1 i (by omega)).kept (o _ (by rw [h.2]; show B + i < B + c; omega))
theorem hg_set {D : va_G} {cl : List vw_C} {B c i : Nat} {E : Nat → va_E} {H H1 : Heap} {e : va_E} (h : hg_W D cl B c E H) (h1 : va_at D cl (B + i, e) H1) (z : H1.size = H.size) (o : ∀ q, q ≠ B + i → H1[q]? = H[q]?) : hg_W D cl B c (va_up E i e) H1 := by
  refine ⟨fun j hj => ?_, by rw [z, h.2]⟩
  by_cases hic : j = i
  · subst hic
    rw [va_up_self]
    exact h1
  · rw [va_up_ne _ _ hic]
    exact (h.1 j hj).kept (o _ (by show B + j ≠ B + i; omega))
section HG
variable {p : Program} {l : Launch} {e : Env} {R : Room} {s : State} {m : MethodId} {args : Array Value} {below : List Frame} {meth : Method} {c : Code} {H : Heap} {locs : List Loc} {cells slots : Nat} {Q : State → Prop}
variable {cc : ByteArray} {pc : Nat} {ls : Array Slot} {rest st0 : List Value} {D : va_G} {cl : List vw_C} {tys : List (ClassId × FieldType)} {H0 : Heap} {ca : Nat → ClassId} {B k0 : Nat} {E : Nat → va_E}
theorem hg_new (hexec : p.tables.exec = Jvm.exec) (hb : c.code = cc) {own C : String} {T : u_T} {N ci index : Nat} {Ts : List Cond} (hts : ∀ w ∈ Ts, w.before args s = true) (hin : ∀ w ∈ u_ws C T N, w ∈ Ts) (ty : Nat → FieldType) (hty : ∀ k, k < N → parseFieldDescriptor (T k).2.2.1 = some (ty k)) (hown : s.vm.findClass own = some m.cls) (hcl : (Cond.classLink own index C).before args s = true) (hinst : (Cond.instantiable C N).before args s = true) (hini : (Cond.initialized C).before args s = true)
    (hK : va_K D cl tys s) (hW : hg_W D cl B k0 E H) (hS : va_S (hg_A B) H0 H locs) (hc : cl[ci]? = some (C, T, N)) {fs : List Value} (hfs : ∀ j, j < N → defaultValue (ty j) = vp_V fs j) (hcells : cells + 1 ≤ R.cells) (hslots : slots + N ≤ R.slots) (hdg : decode cc pc = .ok (.new index, 3))
    (kk : ∀ (H1 : Heap), hg_W D cl B (k0 + 1) (va_up E k0 (.inr (ci, fs))) H1 → va_S (hg_A B) H0 H1 locs → W p l e R s m args below meth c H1 locs (cells + 1) (slots + N) Q (F0 m (pc + 3) ls (.ref (B + k0) :: rest))) : W p l e R s m args below meth c H locs cells slots Q (F0 m pc ls rest) := by
  have hKn := hK.1 ci _ hc
  refine W.newcK hexec hb hown hcl hinst hini rfl hdg hcells hslots hKn.2.1 hW.2 fun H1 kC hkC e1 z1 o1 => ?_
  refine kk H1 (hg_push hW ⟨_, hc, (u_born ty hts hin hKn hkC e1 hty).to hfs⟩ (by rw [z1, hW.2]) (fun q hq => o1 q (by rw [← hW.2]; exact hq))) ⟨Nat.le_trans hS.1 (by rw [z1, hW.2]; omega), fun x h1 h2 => (o1 x (by rw [← hW.2]; exact Nat.lt_of_lt_of_le h1 hS.1)).trans (hS.2.1 x h1 h2), hS.2.2⟩
theorem hg_newa (hexec : p.tables.exec = Jvm.exec) (hb : c.code = cc) {atype : ArrayType} (harr : (Cond.arrayClass (newarray.typeOf atype)).before args s = true) {ty : FieldType} (hty : newarray.typeOf atype = ty) {t : Nat} (hca : s.vm.findClass ("[" ++ ty.toString) = some (ca t)) (hd : defaultValue ty = .int 0) (hW : hg_W D cl B k0 E H) (hS : va_S (hg_A B) H0 H locs)
    {n : Int32} {N' : Nat} (hn : ¬ n < 0) (hN : n.toNatClampNeg = N') (hbytes : N' * componentBytes ty ≤ 536870912) (hcells : cells + 1 ≤ R.cells) (hslots : slots + N' ≤ R.slots) (hdg : decode cc pc = .ok (.newarray atype, 2))
    (kk : ∀ (H1 : Heap), hg_W D cl B (k0 + 1) (va_up E k0 (.inl (ca t, N', .inl (fun _ => 0)))) H1 → va_S (hg_A B) H0 H1 locs → W p l e R s m args below meth c H1 locs (cells + 1) (slots + N') Q (F0 m (pc + 2) ls (.ref (B + k0) :: rest))) : W p l e R s m args below meth c H locs cells slots Q (F0 m pc ls (.int n :: rest)) := by
  subst hty
  refine va_newaK hexec hb harr rfl hdg rfl hn hN hbytes hcells hslots hW.2 fun H1 cA e1 z1 o1 hAr hNm => ?_
  have ec : cA = ca t := Option.some.inj (hNm.symm.trans hca)
  subst ec
  refine kk H1 (hg_push hW (show H1[B + k0]? = some (vp_cell (ca t) (N', .inl (fun _ => 0))) by rw [e1, vp_cell_i, hd]) (by rw [z1, hW.2]) (fun q hq => o1 q (by rw [← hW.2]; exact hq))) ⟨Nat.le_trans hS.1 (by rw [z1, hW.2]; omega), fun x h1 h2 => (o1 x (by rw [← hW.2]; exact Nat.lt_of_lt_of_le h1 hS.1)).trans (hS.2.1 x h1 h2), hS.2.2⟩
theorem hg_newq (hexec : p.tables.exec = Jvm.exec) (hb : c.code = cc) {own C : String} {index : Nat} (hown : s.vm.findClass own = some m.cls) (hclink : (Cond.classLink own index C).before args s = true) (hover : (Cond.arrayOver (.object C)).before args s = true) {t : Nat} (hca : s.vm.findClass ("[" ++ (FieldType.object C).toString) = some (ca t)) (hW : hg_W D cl B k0 E H) (hS : va_S (hg_A B) H0 H locs)
    {n : Int32} {N' : Nat} (hn : ¬ n < 0) (hN : n.toNatClampNeg = N') (hbytes : N' * 4 ≤ 536870912) (hcells : cells + 1 ≤ R.cells) (hslots : slots + N' ≤ R.slots) (hdg : decode cc pc = .ok (.anewarray index, 3))
    (kk : ∀ (H1 : Heap), hg_W D cl B (k0 + 1) (va_up E k0 (.inl (ca t, N', .inr (.inr (.inr (.inr (fun _ => none))))))) H1 → va_S (hg_A B) H0 H1 locs → W p l e R s m args below meth c H1 locs (cells + 1) (slots + N') Q (F0 m (pc + 3) ls (.ref (B + k0) :: rest))) : W p l e R s m args below meth c H locs cells slots Q (F0 m pc ls (.int n :: rest)) := by
  subst hN
  refine W.anew hexec hb hown hclink hover rfl hdg rfl hn hbytes hcells hslots fun cA kA comp f1 f2 f3 f4 => ?_
  have ec : cA = ca t := Option.some.inj (f1.symm.trans hca)
  subst ec
  rw [hW.2]
  generalize hH1 : H.push ({ cls := ca t, slots := Array.replicate n.toNatClampNeg .null, vm := .none } : Cell) = H1
  have z1 : H1.size = H.size + 1 := by rw [← hH1, Array.size_push]
  have e1 : H1[B + k0]? = some (arrV (ca t) n.toNatClampNeg (fun _ => .null)) := by rw [← hH1, ← hW.2, Array.getElem?_push_size, ← arrV_new]
  have o1 : ∀ q : Nat, q < H.size → H1[q]? = H[q]? := fun q hq => by rw [← hH1, Array.getElem?_push, if_neg (Nat.ne_of_lt hq)]
  refine kk H1 (hg_push hW (show H1[B + k0]? = some (vp_cell (ca t) (n.toNatClampNeg, .inr (.inr (.inr (.inr (fun _ => none)))))) by rw [e1, vp_cell_q]; rfl) z1 o1) ⟨Nat.le_trans hS.1 (by omega), fun x h1 h2 => (o1 x (Nat.lt_of_lt_of_le h1 hS.1)).trans (hS.2.1 x h1 h2), hS.2.2⟩
theorem hg_get (hexec : p.tables.exec = Jvm.exec) (hb : c.code = cc) {own ref C : String} {T : u_T} {N ci index : Nat} {Ts : List Cond} (hts : ∀ w ∈ Ts, w.before args s = true) (hin : ∀ w ∈ u_ws C T N, w ∈ Ts) (hown : s.vm.findClass own = some m.cls) (hK : va_K D cl tys s) (hW : hg_W D cl B k0 E H) (i : Nat) (hi : i < k0) {fs : List Value} (hE : E i = .inr (ci, fs)) (hc : cl[ci]? = some (C, T, N)) (k : Nat) (hk : k < N) (hlink : (Cond.fieldLink own index ref (T k).2.1 (T k).2.2.1).before args s = true) (hsame : ∀ x, s.fieldFound? (T k).1 (T k).2.1 (T k).2.2.1 = some x → s.fieldFound? ref (T k).2.1 (T k).2.2.1 = some x) {v : Value} (hv : fs[k]? = some v) (hdg : decode cc pc = .ok (.getfield index, 3))
    (kk : W p l e R s m args below meth c H locs cells slots Q (F0 m (pc + 3) ls (v :: rest))) : W p l e R s m args below meth c H locs cells slots Q (F0 m pc ls (.ref (B + i) :: rest)) :=
  va_get (ws := [(B + i, .inr (ci, fs))]) hexec hb hts hin hown hK (fun j q hq => by
    have hj : j < 1 := (List.getElem?_eq_some_iff.mp hq).1
    rw [show j = 0 by omega] at hq
    cases hq
    have := hW.1 i hi
    rw [hE] at this
    exact this) 0 rfl hc k hk hlink hsame hv hdg kk
theorem hg_putF (hexec : p.tables.exec = Jvm.exec) (hb : c.code = cc) {own ref C : String} {T : u_T} {N ci index : Nat} {Ts : List Cond} (hts : ∀ w ∈ Ts, w.before args s = true) (hin : ∀ w ∈ u_ws C T N, w ∈ Ts) (ty0 : Nat → FieldType) (hty : ∀ k, k < N → parseFieldDescriptor (T k).2.2.1 = some (ty0 k)) (hnm : ∀ a, a < N → ∀ b, b < N → a ≠ b → (T a).2.1 ≠ (T b).2.1) (hown : s.vm.findClass own = some m.cls) (hK : va_K D cl tys s) (hW : hg_W D cl B k0 E H) (hS0 : va_S (hg_A B) H0 H locs) (i : Nat) (hi : i < k0) {fs : List Value} (hE : E i = .inr (ci, fs)) (hc : cl[ci]? = some (C, T, N)) (k : Nat) (hk : k < N) (hlink : (Cond.fieldLink own index ref (T k).2.1 (T k).2.2.1).before args s = true) (hsame : ∀ x, s.fieldFound? (T k).1 (T k).2.1 (T k).2.2.1 = some x → s.fieldFound? ref (T k).2.1 (T k).2.2.1 = some x) (hfin : (T k).2.2.2 = true) (hin2 : meth.name = "<init>") (hdecl : (T k).1 = own) {ty : FieldType} {v : Value} (hd : parseFieldDescriptor (T k).2.2.1 = some ty) (hn : narrow ty v = v) (hfit : fits ty v = true) (hl : k < fs.length)
    (hdg : decode cc pc = .ok (.putfield index, 3)) (kk : ∀ (H1 : Heap) (locs1 : List Loc), hg_W D cl B k0 (va_up E i (.inr (ci, fs.set k v))) H1 → va_S (hg_A B) H0 H1 locs1 → W p l e R s m args below meth c H1 locs1 cells slots Q (F0 m (pc + 3) ls rest)) : W p l e R s m args below meth c H locs cells slots Q (F0 m pc ls (v :: .ref (B + i) :: rest)) := by
  have hap := va_apart (own := own) hts hin ty0 hty hnm hK hc
  have h0 := hW.1 i hi
  rw [hE] at h0
  obtain ⟨r, h1, cell, q1, q2, q3, q4⟩ := h0
  have hr : r = (C, T, N) := Option.some.inj (h1.symm.trans hc)
  subst hr
  obtain ⟨hS, hfc, kC, hkC, hkind⟩ := hK.1 ci _ hc
  obtain ⟨cf, kf, fi, f, hi2, hsl⟩ := hS k hk
  have hlay := hts _ (hin _ (u_in_lay hk))
  unfold u_lay at hlay
  rw [if_pos hfin] at hlay
  have hst := (u_facts hfc hkC (u_lays hts hin hk) hi2).1
  have hcf : m.cls = cf := by
    obtain ⟨_, _, c', _, _, _, -, -, hf', -, -, -, hown2, -⟩ := Cond.laysFinal_spec hlay
    have e1 : c' = cf := by have := hi2.symm.trans hf'; simp at this; exact this.1.symm
    rw [hdecl] at hown2
    rw [← e1]; exact Option.some.inj (hown.symm.trans hown2)
  have h6 := u_fits hfc hkC hkind (Or.inr hlay) hi2 hd hn hfit
  refine W.putFinK hexec hb hown hlink (hsame _ hi2) hst hcf hin2 (by rw [q2]; exact h6) q1 q3 (by rw [hsl]; exact k2_hasslot (q4 k hk)) rfl rfl hdg fun H' e1 e2 e3 => ?_
  rw [hsl] at e1 ⊢
  exact kk H' _ (hg_set hW ⟨_, hc, t_OB.to (V := updV (vp_V fs) k v) ⟨_, e1, q2, q3, t_set q4 hap hk v⟩ (fun j _ => vp_updV_set hl v j)⟩ e2 e3) (hS0.put e2 e3 (Nat.le_add_right B i))
theorem hg_put (hexec : p.tables.exec = Jvm.exec) (hb : c.code = cc) {own ref C : String} {T : u_T} {N ci index : Nat} {Ts : List Cond} (hts : ∀ w ∈ Ts, w.before args s = true) (hin : ∀ w ∈ u_ws C T N, w ∈ Ts) (ty0 : Nat → FieldType) (hty : ∀ k, k < N → parseFieldDescriptor (T k).2.2.1 = some (ty0 k)) (hnm : ∀ a, a < N → ∀ b, b < N → a ≠ b → (T a).2.1 ≠ (T b).2.1) (hown : s.vm.findClass own = some m.cls) (hK : va_K D cl tys s) (hW : hg_W D cl B k0 E H) (hS0 : va_S (hg_A B) H0 H locs) (i : Nat) (hi : i < k0) {fs : List Value} (hE : E i = .inr (ci, fs)) (hc : cl[ci]? = some (C, T, N)) (k : Nat) (hk : k < N) (hlink : (Cond.fieldLink own index ref (T k).2.1 (T k).2.2.1).before args s = true) (hsame : ∀ x, s.fieldFound? (T k).1 (T k).2.1 (T k).2.2.1 = some x → s.fieldFound? ref (T k).2.1 (T k).2.2.1 = some x) (hfin : (T k).2.2.2 = false) {ty : FieldType} {v : Value} (hd : parseFieldDescriptor (T k).2.2.1 = some ty) (hn : narrow ty v = v) (hfit : fits ty v = true) (hl : k < fs.length)
    (hdg : decode cc pc = .ok (.putfield index, 3)) (kk : ∀ (H1 : Heap) (locs1 : List Loc), hg_W D cl B k0 (va_up E i (.inr (ci, fs.set k v))) H1 → va_S (hg_A B) H0 H1 locs1 → W p l e R s m args below meth c H1 locs1 cells slots Q (F0 m (pc + 3) ls rest)) : W p l e R s m args below meth c H locs cells slots Q (F0 m pc ls (v :: .ref (B + i) :: rest)) := by
  have hap := va_apart (own := own) hts hin ty0 hty hnm hK hc
  have h0 := hW.1 i hi
  rw [hE] at h0
  obtain ⟨r, h1, cell, q1, q2, q3, q4⟩ := h0
  have hr : r = (C, T, N) := Option.some.inj (h1.symm.trans hc)
  subst hr
  obtain ⟨hS, hfc, kC, hkC, hkind⟩ := hK.1 ci _ hc
  obtain ⟨cf, kf, fi, f, hi2, hsl⟩ := hS k hk
  have hlay := hts _ (hin _ (u_in_lay hk))
  unfold u_lay at hlay
  rw [if_neg (by rw [hfin]; decide)] at hlay
  have hst := (u_facts hfc hkC (u_lays hts hin hk) hi2).1
  have h6 := u_store hfc hkC hkind hlay hi2 hd hn hfit
  refine W.putK hexec hb (f := f) ⟨hown, hlink, ⟨_, _, _, hsame _ hi2⟩, hst⟩ (by rw [q2]; exact h6) q1 q3 (by rw [hsl]; exact k2_hasslot (q4 k hk)) rfl rfl hdg fun H' e1 e2 e3 => ?_
  rw [hsl] at e1 ⊢
  exact kk H' _ (hg_set hW ⟨_, hc, t_OB.to (V := updV (vp_V fs) k v) ⟨_, e1, q2, q3, t_set q4 hap hk v⟩ (fun j _ => vp_updV_set hl v j)⟩ e2 e3) (hS0.put e2 e3 (Nat.le_add_right B i))
theorem hg_aast (hexec : p.tables.exec = Jvm.exec) (hb : c.code = cc) (hK : va_K D cl tys s) (hW : hg_W D cl B k0 E H) (hS : va_S (hg_A B) H0 H locs) (i t0 j ci : Nat) (hi : i < k0) (hj : j < k0) {cA : ClassId} {r : vw_C} {n : Nat} {vs : List Value} {f : Nat → Option Nat} (hE : E i = .inl (cA, n, .inr (.inr (.inr (.inr f))))) (ht : tys[t0]? = some (cA, .object r.1)) (hv : E j = .inr (ci, vs)) (hc : cl[ci]? = some r) {x : Int32} (hin : hm_ix x n = true) (hdg : decode cc pc = .ok (.aastore, 1))
    (kk : ∀ (H1 : Heap) (locs1 : List Loc), hg_W D cl B k0 (va_up E i (.inl (cA, n, .inr (.inr (.inr (.inr (va_up f x.toNatClampNeg (some (B + j))))))))) H1 → va_S (hg_A B) H0 H1 locs1 → W p l e R s m args below meth c H1 locs1 cells slots Q (F0 m (pc + 1) ls rest)) : W p l e R s m args below meth c H locs cells slots Q (F0 m pc ls (.ref (B + j) :: .int x :: .ref (B + i) :: rest)) := by
  have hin2 := hm_ix_in hin
  have hlt : x.toNatClampNeg < n := Nat.not_le.mp fun q => hin2 (Or.inr q)
  have h0 : ¬ x < 0 := fun q => hin2 (Or.inl q)
  have hvj := hW.1 j hj
  have hai := hW.1 i hi
  rw [hv] at hvj
  rw [hE] at hai
  obtain ⟨r', hr', cellV, g1, g2, g3, -⟩ := hvj
  have hcls := (hK.1 ci r hc).2
  obtain ⟨kA, comp, k1, k2, k3, -⟩ := (hK.2 t0 _ ht).2
  have hcomp : comp = D.1 ci := Option.some.inj (k3.symm.trans hcls.1)
  subst hcomp
  obtain ⟨kC, hkC, -⟩ := hcls.2
  refine W.aast hexec hb hai (fun q h => by cases h) (fun h => by cases h) k1 k2 rfl hkC ⟨h0, by show _ < (arrV _ _ _).slots.size; rw [arrV_size]; exact hlt⟩ g1 (fun q h => by rw [g3] at h; cases h) (by rw [g2]; exact hkC) (by rw [g2]; exact va_assign hcls) rfl rfl hdg fun H1 e z oq => ?_
  refine kk H1 _ (hg_set hW ?_ z oq) (hS.put z oq (Nat.le_add_right B i))
  show H1[B + i]? = some (vp_cell _ _)
  rw [e]
  rw [vp_cell_q, vp_cell_q, arrV_store]
  congr 2
  funext q
  by_cases hq : q = x.toNatClampNeg
  · subst hq
    simp [updV, va_up, va_rf]
  · simp [updV, va_up, hq]
end HG
theorem hg_congr {D : va_G} {cl : List vw_C} {B c : Nat} {E E1 : Nat → va_E} {H : Heap} (h : hg_W D cl B c E H) (he : ∀ i, i < c → E1 i = E i) : hg_W D cl B c E1 H := ⟨fun i hi => by rw [he i hi]; exact h.1 i hi, h.2⟩
def hg_Pre (D : va_G) (cl : List vw_C) (B c : Nat) (E : Nat → va_E) (tys : List (ClassId × FieldType)) (tb : List Cond) (vs : List Value) : Array Value → State → Prop := va_Pc vs (fun U => hg_W D cl B c E U.heap ∧ hq_K D cl tys tb U)
def hg_Q (D : va_G) (cl : List vw_C) (B c : Nat) (E : Nat → va_E) : Array Value → State → Outcome → State → Prop := va_Qv (fun (_ : Unit) => True) (fun _ t => hg_W D cl B c E t.heap) (hg_A B)
section HGC
variable {p : Program} {l : Launch} {e : Env} {R : Room} {s : State} {m : MethodId} {args : Array Value} {below : List Frame} {meth : Method} {c : Code} {H : Heap} {locs : List Loc} {cells slots : Nat} {Q : State → Prop}
variable {cc : ByteArray} {pc : Nat} {ls : Array Slot} {rest st0 : List Value} {D : va_G} {cl : List vw_C} {tys : List (ClassId × FieldType)} {H0 : Heap} {ca : Nat → ClassId} {B k0 k1 : Nat} {E E1 : Nat → va_E} {tb : List Cond}
theorem hg_call {mc ms : Nat} {a : Array Value} (hr : va_Run p l e R s m args below meth c H locs cells slots mc ms (F0 m pc ls st0) rest (hg_Q D cl B k1 E1 a) (hg_A B)) (hS : va_S (hg_A B) H0 H locs)
    (kk : ∀ (H1 : Heap) (locs1 : List Loc), hg_W D cl B k1 E1 H1 → va_S (hg_A B) H0 H1 locs1 → W p l e R s m args below meth c H1 locs1 (cells + mc) (slots + ms) Q (F0 m (pc + 3) ls rest)) : W p l e R s m args below meth c H locs cells slots Q (F0 m pc ls st0) :=
  va_callv hr hS (fun _ _ h => h) (fun _ h => h) (fun u t H1 locs1 ht _ _ hB _ _ hS1 => by
    subst ht
    exact kk _ _ hB hS1)
theorem hg_blind {vs : List Value} : FrameBlind (hg_Pre D cl B k0 E tys tb vs) := fun _ _ _ _ q => ⟨q.1, q.2.1, q.2.2.calling⟩
theorem hg_pre {As : List Value} (hK : hq_K D cl tys tb s) (hW : hg_W D cl B k0 E H) : PreS s H (hg_Pre D cl B k0 E tys tb As) As :=
  ⟨hg_blind, fun U hU hWm => ⟨rfl, by rw [hU]; exact hW, hK.moved hWm⟩⟩
theorem hg_cwN {own host : String} {index maxL nn mc ms : Nat} {y : MethodName} {bytes : ByteArray} {rm : Room} (hts : ∀ w ∈ tb, w.before args s = true) (hcode : Cond.code y bytes maxL none ∈ tb) (hini : Cond.initialized y.cls ∈ tb) (hlink : Cond.methodLinkNest own index y host ∈ tb) (hin : Cond.instanceMethod y ∈ tb) (hy : y.name = "<init>")
    (hd : y.cls ≠ "java/lang/invoke/MethodHandle" ∧ y.cls ≠ "java/lang/invoke/VarHandle" ∧ (parseMethodDescriptor y.desc).map (fun d => d.parameters.length) = some nn) (hc : rm.cells = mc) (hs : rm.slots = ms) (hR : rm.frames + 1 ≤ R.frames ∧ 8 + (maxL + 11) + rm.locals ≤ R.locals) :
    va_CN R s args own index y host bytes maxL none [Cond.code y bytes maxL none] rm mc ms nn ∧ y.name = "<init>" ∧ (Cond.instanceMethod y).before args s = true :=
  ⟨va_cnB nn hts (fun w hw => by
    rw [List.mem_singleton.mp hw]
    exact ⟨hcode, Or.inl rfl⟩) rfl hc hs (va_Nw.of rfl (hts _ hlink)) (hts _ hini) hd hR, hy, hts _ hin⟩
theorem hg_cwI {own : String} {index maxL nn mc ms : Nat} {y : MethodName} {bytes : ByteArray} {rm : Room} (hts : ∀ w ∈ tb, w.before args s = true) (hcode : Cond.code y bytes maxL none ∈ tb) (hini : Cond.initialized y.cls ∈ tb) (hlink : Cond.methodLink own index y ∈ tb) (hin : Cond.instanceMethod y ∈ tb) (hy : y.name = "<init>")
    (hd : y.cls ≠ "java/lang/invoke/MethodHandle" ∧ y.cls ≠ "java/lang/invoke/VarHandle" ∧ (parseMethodDescriptor y.desc).map (fun d => d.parameters.length) = some nn) (hc : rm.cells = mc) (hs : rm.slots = ms) (hR : rm.frames + 1 ≤ R.frames ∧ 8 + (maxL + 11) + rm.locals ≤ R.locals) :
    CallB R s args own index y bytes maxL none [Cond.code y bytes maxL none] rm mc ms nn ∧ y.name = "<init>" ∧ (Cond.instanceMethod y).before args s = true :=
  ⟨callB_of nn hts (fun w hw => by
    rw [List.mem_singleton.mp hw]
    exact ⟨hcode, Or.inl rfl⟩) rfl hc hs (hts _ hini) (hts _ hlink) hd hR, hy, hts _ hin⟩
end HGC
end
