set_option maxHeartbeats 4000000 in
set_option maxRecDepth 100000 in
theorem w_Pipe_hasStage_17 {p : Program} {l : Launch} {e : Env} {s : State} {m : MethodId} {args : Array Value} {below : List Frame} {meth : Method} {c : Code} {D : va_G} {ca : Nat → ClassId} {B rl : Nat} {r : Int32} {M9 : hm_M} (X : hq_X p s m args meth c b_Pipe_hasStage R_Pipe 2 (some .boolean) D sc_cl (sc_ty ca) hq_tb) : ∀ (y0 : Int32), ∀ (M : hm_M) (H : Heap) (locs : List Loc) (ls : Array Slot), lv_has ls 2 [] → hm_P D sc_cl ca 64 (sc_sh rl) B M hm_L0 H → va_S (hm_A B 64) s.heap H locs → f_Pipe_hasStage_17 y0 M = some (r, M9) → W p l e ({ frames := 0, cells := 0, slots := 0, locals := 0 } : Room) s m args below meth c H locs 0 0 (MQ below (hq_QI D sc_cl ca 64 (sc_sh rl) B r M9 hm_L0) args s 0 0 (hm_A B 64)) (F0 m 17 ls [.int y0]) := by
  obtain ⟨hx, hb, hml, hown, hr, hlk, hKt⟩ := id X
  have hK := hKt.1
  have hts : ∀ w ∈ hq_tb, w.before args s = true := fun w h => hKt.2.2 w h args
  intro y0 M H locs ls hl hP hS hf
  unfold f_Pipe_hasStage_17 at hf
  obtain ⟨g1, hf⟩ := hm_gd_some hf
  obtain ⟨h9, h8⟩ := Prod.mk.inj (Option.some.inj hf)
  subst h9
  subst h8
  exact W.zret (ty := .boolean) hx hb hr (hq_nb2 (of_decide_eq_true g1)) (fun t ht _ => ⟨⟨_, (), rfl, rfl, by subst ht; exact hP⟩, hS.F ht⟩) hS.2.2 d_Pipe_hasStage_17 hlk
set_option maxHeartbeats 4000000 in
set_option maxRecDepth 100000 in
theorem w_Pipe_hasStage_16 {p : Program} {l : Launch} {e : Env} {s : State} {m : MethodId} {args : Array Value} {below : List Frame} {meth : Method} {c : Code} {D : va_G} {ca : Nat → ClassId} {B rl : Nat} {r : Int32} {M9 : hm_M} (X : hq_X p s m args meth c b_Pipe_hasStage R_Pipe 2 (some .boolean) D sc_cl (sc_ty ca) hq_tb) : ∀ (M : hm_M) (H : Heap) (locs : List Loc) (ls : Array Slot), lv_has ls 2 [] → hm_P D sc_cl ca 64 (sc_sh rl) B M hm_L0 H → va_S (hm_A B 64) s.heap H locs → f_Pipe_hasStage_16 M = some (r, M9) → W p l e ({ frames := 0, cells := 0, slots := 0, locals := 0 } : Room) s m args below meth c H locs 0 0 (MQ below (hq_QI D sc_cl ca 64 (sc_sh rl) B r M9 hm_L0) args s 0 0 (hm_A B 64)) (F0 m 16 ls []) := by
  obtain ⟨hx, hb, hml, hown, hr, hlk, hKt⟩ := id X
  have hK := hKt.1
  have hts : ∀ w ∈ hq_tb, w.before args s = true := fun w h => hKt.2.2 w h args
  intro  M H locs ls hl hP hS hf
  unfold f_Pipe_hasStage_16 at hf
  refine lv_iconst (v := 0) hx hb d_Pipe_hasStage_16 (by decide) ?_
  exact w_Pipe_hasStage_17 X _ _ _ _ _ (lv_sub hl [] rfl) hP hS hf
set_option maxHeartbeats 4000000 in
set_option maxRecDepth 100000 in
theorem w_Pipe_hasStage_e {p : Program} {l : Launch} {e : Env} {s : State} {m : MethodId} {args : Array Value} {below : List Frame} {meth : Method} {c : Code} {D : va_G} {ca : Nat → ClassId} {B rl : Nat} {r : Int32} {M9 : hm_M} (X : hq_X p s m args meth c b_Pipe_hasStage R_Pipe 2 (some .boolean) D sc_cl (sc_ty ca) hq_tb) : ∀ (x1 : Int32), ∀ (M : hm_M) (H : Heap) (locs : List Loc) (ls : Array Slot), lv_has ls 2 [(0, .ref (B + 1)), (1, .int x1)] → hm_P D sc_cl ca 64 (sc_sh rl) B M hm_L0 H → va_S (hm_A B 64) s.heap H locs → f_Pipe_hasStage M x1 = some (r, M9) → W p l e ({ frames := 0, cells := 0, slots := 0, locals := 0 } : Room) s m args below meth c H locs 0 0 (MQ below (hq_QI D sc_cl ca 64 (sc_sh rl) B r M9 hm_L0) args s 0 0 (hm_A B 64)) (F0 m 0 ls []) := by
  obtain ⟨hx, hb, hml, hown, hr, hlk, hKt⟩ := id X
  have hK := hKt.1
  have hts : ∀ w ∈ hq_tb, w.before args s = true := fun w h => hKt.2.2 w h args
  intro x1 M H locs ls hl hP hS hf
  unfold f_Pipe_hasStage at hf
  refine lv_iload_n hx hb d_Pipe_hasStage_0 rfl (lv_at hl 1 rfl) ?_
  refine lv_if_lt (tgt := 16) hx hb d_Pipe_hasStage_1 (by decide) (fun c1 => ?_) (fun c1 => ?_)
  · replace hf := (if_pos c1).symm.trans hf
    exact w_Pipe_hasStage_16 X _ _ _ _ (lv_sub hl [] rfl) hP hS hf
  · replace hf := (if_neg c1).symm.trans hf
    refine lv_iload_n hx hb d_Pipe_hasStage_4 rfl (lv_at hl 1 rfl) ?_
    refine lv_aload_n hx hb d_Pipe_hasStage_5 rfl (lv_at hl 0 rfl) ?_
    refine hq_get hx hb hts i_Pipe hown hK hP 1 (by decide) (sc_s_Pipe (rfl)) rfl 3 (by decide) (hts _ sc_wd_24) (fun _ h => h) (v := .int (M 1 3)) rfl d_Pipe_hasStage_6 ?_
    refine lv_icmp_ge (tgt := 16) hx hb d_Pipe_hasStage_9 (by decide) (fun c2 => ?_) (fun c2 => ?_)
    · replace hf := (if_pos c2).symm.trans hf
      exact w_Pipe_hasStage_16 X _ _ _ _ (lv_sub hl [] rfl) hP hS hf
    · replace hf := (if_neg c2).symm.trans hf
      refine lv_iconst (v := 1) hx hb d_Pipe_hasStage_12 (by decide) ?_
      refine lv_goto (tgt := 17) hx hb d_Pipe_hasStage_13 (by decide) ?_
      exact w_Pipe_hasStage_17 X _ _ _ _ _ (lv_sub hl [] rfl) hP hS hf
set_option maxHeartbeats 4000000 in
set_option maxRecDepth 100000 in
theorem c_Pipe_hasStage {l : Launch} {D : va_G} {ca : Nat → ClassId} {B rl : Nat} {r : Int32} {x1 : Int32} {M M9 : hm_M} (hf : f_Pipe_hasStage M x1 = some (r, M9)) : Met l y_Pipe_hasStage [Cond.code y_Pipe_hasStage b_Pipe_hasStage 2 (some .boolean)] ({ frames := 0, cells := 0, slots := 0, locals := 0 } : Room) (hq_Pre D sc_cl ca 64 (sc_sh rl) B (sc_ty ca) hq_tb M hm_L0 [.ref (B + 1), .int x1]) (hq_QI D sc_cl ca 64 (sc_sh rl) B r M9 hm_L0) 0 0 (hm_A B 64) := by
  refine Met.ofW (cc := b_Pipe_hasStage) (maxL := 2) (ret := (some .boolean)) (by decide +kernel) rfl ?_
  intro p e s m args below meth c s₁ Bd hml hv
  obtain ⟨rfl, hP, hK⟩ := hv
  have hl := lv_entry ([.ref (B + 1), .int x1]) (n := 2) (Nat.le_of_ble_eq_true rfl)
  rw [lg_entry_eq]
  generalize (lg_sl ([.ref (B + 1), .int x1]) ++ List.replicate (2 - (lg_sl ([.ref (B + 1), .int x1])).length) Slot.unset).toArray = ls at hl ⊢
  have hl : lv_has ls 2 [(0, .ref (B + 1)), (1, .int x1)] := hl
  exact w_Pipe_hasStage_e ⟨Bd.exec, Bd.bytes, hml, findClass_of_methodNamed Bd.named, Bd.returns, Bd.notSynchronized, hK⟩  _ _ _ _ _ hl hP va_S.rf hf
set_option maxHeartbeats 4000000 in
set_option maxRecDepth 100000 in
theorem w_Pipe_addStage_e {p : Program} {l : Launch} {e : Env} {s : State} {m : MethodId} {args : Array Value} {below : List Frame} {meth : Method} {c : Code} {D : va_G} {ca : Nat → ClassId} {B rl : Nat} {r : Int32} {M9 : hm_M} (X : hq_X p s m args meth c b_Pipe_addStage R_Pipe 4 (some .int) D sc_cl (sc_ty ca) hq_tb) : ∀ (x1 : Int32), ∀ (x2 : Int32), ∀ (M : hm_M) (H : Heap) (locs : List Loc) (ls : Array Slot), lv_has ls 4 [(0, .ref (B + 1)), (1, .int x1), (2, .int x2)] → hm_P D sc_cl ca 64 (sc_sh rl) B M hm_L0 H → va_S (hm_A B 64) s.heap H locs → f_Pipe_addStage M x1 x2 = some (r, M9) → W p l e ({ frames := 0, cells := 0, slots := 0, locals := 0 } : Room) s m args below meth c H locs 0 0 (MQ below (hq_QI D sc_cl ca 64 (sc_sh rl) B r M9 hm_L0) args s 0 0 (hm_A B 64)) (F0 m 0 ls []) := by
  obtain ⟨hx, hb, hml, hown, hr, hlk, hKt⟩ := id X
  have hK := hKt.1
  have hts : ∀ w ∈ hq_tb, w.before args s = true := fun w h => hKt.2.2 w h args
  intro x1 x2 M H locs ls hl hP hS hf
  unfold f_Pipe_addStage at hf
  refine lv_aload_n hx hb d_Pipe_addStage_0 rfl (lv_at hl 0 rfl) ?_
  refine hq_get hx hb hts i_Pipe hown hK hP 1 (by decide) (sc_s_Pipe (rfl)) rfl 1 (by decide) (hts _ sc_wd_25) (fun _ h => h) (v := .ref (B + 2)) rfl d_Pipe_addStage_1 ?_
  refine lv_aload_n hx hb d_Pipe_addStage_4 rfl (lv_at hl 0 rfl) ?_
  refine hq_get hx hb hts i_Pipe hown hK hP 1 (by decide) (sc_s_Pipe (rfl)) rfl 3 (by decide) (hts _ sc_wd_24) (fun _ h => h) (v := .int (M 1 3)) rfl d_Pipe_addStage_5 ?_
  obtain ⟨g1, hf⟩ := hm_gd_some hf
  refine hq_aald hx hb hK hP 2 (by decide) (sc_s_starr (rfl)) 2 rfl rfl g1 d_Pipe_addStage_8 ?_
  refine lv_astore_n (lv' := [(3, .ref (B + (5 + 4 * (M 1 3).toNatClampNeg))), (0, .ref (B + 1)), (1, .int x1), (2, .int x2)]) hx hb d_Pipe_addStage_9 rfl hl (by decide) rfl (fun ls hl => ?_)
  refine lv_aload_n hx hb d_Pipe_addStage_10 rfl (lv_at hl 0 rfl) ?_
  refine lv_iload_n hx hb d_Pipe_addStage_11 rfl (lv_at hl 2 rfl) ?_
  refine hq_putN hx hb hts i_Stage t_Stage t_Stage_ok n_Stage hown hK hP hS (5 + 4 * (M 1 3).toNatClampNeg) (sc_lt (sck_st g1) (by decide)) (sc_s_Stage ((sck_st g1))) rfl 0 (by decide) (hts _ sc_wd_26) (fun _ h => h) rfl (ty := .int) (x := x1) (by decide +kernel) rfl rfl rfl d_Pipe_addStage_12 (fun H locs hP hS => ?_)
  obtain ⟨M_2, e_2, hf⟩ := hm_st_some hf
  rw [← e_2] at hP
  refine lv_aload_n hx hb d_Pipe_addStage_15 rfl (lv_at hl 0 rfl) ?_
  refine lv_iload_n hx hb d_Pipe_addStage_16 rfl (lv_at hl 3 rfl) ?_
  refine hq_putN hx hb hts i_Stage t_Stage t_Stage_ok n_Stage hown hK hP hS (5 + 4 * (M 1 3).toNatClampNeg) (sc_lt (sck_st g1) (by decide)) (sc_s_Stage ((sck_st g1))) rfl 1 (by decide) (hts _ sc_wd_27) (fun _ h => h) rfl (ty := .int) (x := x2) (by decide +kernel) rfl rfl rfl d_Pipe_addStage_17 (fun H locs hP hS => ?_)
  obtain ⟨M_3, e_3, hf⟩ := hm_st_some hf
  rw [← e_3] at hP
  refine lv_aload_n hx hb d_Pipe_addStage_20 rfl (lv_at hl 1 rfl) ?_
  refine lv_dup hx hb d_Pipe_addStage_21 rfl ?_
  refine hq_get hx hb hts i_Pipe hown hK hP 1 (by decide) (sc_s_Pipe (rfl)) rfl 3 (by decide) (hts _ sc_wd_24) (fun _ h => h) (v := .int (M_3 1 3)) rfl d_Pipe_addStage_22 ?_
  refine lv_iconst (v := 1) hx hb d_Pipe_addStage_25 (by decide) ?_
  refine lv_iadd hx hb d_Pipe_addStage_26 ?_
  refine hq_put hx hb hts i_Pipe t_Pipe t_Pipe_ok n_Pipe hown hK hP hS 1 (by decide) (sc_s_Pipe (rfl)) rfl 3 (by decide) (hts _ sc_wd_24) (fun _ h => h) rfl (ty := .int) (x := ((M_3 1 3) + 1)) (by decide +kernel) rfl rfl rfl d_Pipe_addStage_27 (fun H locs hP hS => ?_)
  obtain ⟨M_4, e_4, hf⟩ := hm_st_some hf
  rw [← e_4] at hP
  refine lv_aload_n hx hb d_Pipe_addStage_30 rfl (lv_at hl 1 rfl) ?_
  refine hq_get hx hb hts i_Pipe hown hK hP 1 (by decide) (sc_s_Pipe (rfl)) rfl 3 (by decide) (hts _ sc_wd_24) (fun _ h => h) (v := .int (M_4 1 3)) rfl d_Pipe_addStage_31 ?_
  refine lv_iconst (v := 1) hx hb d_Pipe_addStage_34 (by decide) ?_
  refine lv_isub hx hb d_Pipe_addStage_35 ?_
  obtain ⟨h9, h8⟩ := Prod.mk.inj (Option.some.inj hf)
  subst h9
  subst h8
  exact W.iret hx hb hr (fun t ht _ => ⟨⟨_, (), rfl, rfl, by subst ht; exact hP⟩, hS.F ht⟩) hS.2.2 d_Pipe_addStage_36 hlk
set_option maxHeartbeats 4000000 in
set_option maxRecDepth 100000 in
theorem c_Pipe_addStage {l : Launch} {D : va_G} {ca : Nat → ClassId} {B rl : Nat} {r : Int32} {x1 : Int32} {x2 : Int32} {M M9 : hm_M} (hf : f_Pipe_addStage M x1 x2 = some (r, M9)) : Met l y_Pipe_addStage [Cond.code y_Pipe_addStage b_Pipe_addStage 4 (some .int)] ({ frames := 0, cells := 0, slots := 0, locals := 0 } : Room) (hq_Pre D sc_cl ca 64 (sc_sh rl) B (sc_ty ca) hq_tb M hm_L0 [.ref (B + 1), .int x1, .int x2]) (hq_QI D sc_cl ca 64 (sc_sh rl) B r M9 hm_L0) 0 0 (hm_A B 64) := by
  refine Met.ofW (cc := b_Pipe_addStage) (maxL := 4) (ret := (some .int)) (by decide +kernel) rfl ?_
  intro p e s m args below meth c s₁ Bd hml hv
  obtain ⟨rfl, hP, hK⟩ := hv
  have hl := lv_entry ([.ref (B + 1), .int x1, .int x2]) (n := 4) (Nat.le_of_ble_eq_true rfl)
  rw [lg_entry_eq]
  generalize (lg_sl ([.ref (B + 1), .int x1, .int x2]) ++ List.replicate (4 - (lg_sl ([.ref (B + 1), .int x1, .int x2])).length) Slot.unset).toArray = ls at hl ⊢
  have hl : lv_has ls 4 [(0, .ref (B + 1)), (1, .int x1), (2, .int x2)] := hl
  exact w_Pipe_addStage_e ⟨Bd.exec, Bd.bytes, hml, findClass_of_methodNamed Bd.named, Bd.returns, Bd.notSynchronized, hK⟩  _ _ _ _ _ _ hl hP va_S.rf hf
set_option maxHeartbeats 4000000 in
set_option maxRecDepth 100000 in
theorem w_Pipe_tileCount_e {p : Program} {l : Launch} {e : Env} {s : State} {m : MethodId} {args : Array Value} {below : List Frame} {meth : Method} {c : Code} {D : va_G} {ca : Nat → ClassId} {B rl : Nat} {r : Int32} {M9 : hm_M} (X : hq_X p s m args meth c b_Pipe_tileCount R_Pipe 1 (some .int) D sc_cl (sc_ty ca) hq_tb) : ∀ (M : hm_M) (H : Heap) (locs : List Loc) (ls : Array Slot), lv_has ls 1 [(0, .ref (B + 1))] → hm_P D sc_cl ca 64 (sc_sh rl) B M hm_L0 H → va_S (hm_A B 64) s.heap H locs → f_Pipe_tileCount M = some (r, M9) → W p l e ({ frames := 0, cells := 0, slots := 0, locals := 0 } : Room) s m args below meth c H locs 0 0 (MQ below (hq_QI D sc_cl ca 64 (sc_sh rl) B r M9 hm_L0) args s 0 0 (hm_A B 64)) (F0 m 0 ls []) := by
  obtain ⟨hx, hb, hml, hown, hr, hlk, hKt⟩ := id X
  have hK := hKt.1
  have hts : ∀ w ∈ hq_tb, w.before args s = true := fun w h => hKt.2.2 w h args
  intro  M H locs ls hl hP hS hf
  unfold f_Pipe_tileCount at hf
  refine lv_aload_n hx hb d_Pipe_tileCount_0 rfl (lv_at hl 0 rfl) ?_
  refine hq_get hx hb hts i_Pipe hown hK hP 1 (by decide) (sc_s_Pipe (rfl)) rfl 6 (by decide) (hts _ sc_wd_28) (fun _ h => h) (v := .int (M 1 6)) rfl d_Pipe_tileCount_1 ?_
  refine lv_aload_n hx hb d_Pipe_tileCount_4 rfl (lv_at hl 0 rfl) ?_
  refine hq_get hx hb hts i_Pipe hown hK hP 1 (by decide) (sc_s_Pipe (rfl)) rfl 4 (by decide) (hts _ sc_wd_29) (fun _ h => h) (v := .int (M 1 4)) rfl d_Pipe_tileCount_5 ?_
  refine lv_iadd hx hb d_Pipe_tileCount_8 ?_
  refine lv_iconst (v := 1) hx hb d_Pipe_tileCount_9 (by decide) ?_
  refine lv_isub hx hb d_Pipe_tileCount_10 ?_
  refine lv_aload_n hx hb d_Pipe_tileCount_11 rfl (lv_at hl 0 rfl) ?_
  refine hq_get hx hb hts i_Pipe hown hK hP 1 (by decide) (sc_s_Pipe (rfl)) rfl 4 (by decide) (hts _ sc_wd_29) (fun _ h => h) (v := .int (M 1 4)) rfl d_Pipe_tileCount_12 ?_
  obtain ⟨g1, hf⟩ := hm_gd_some hf
  refine lv_idiv hx hb d_Pipe_tileCount_15 (of_decide_eq_true g1) ?_
  obtain ⟨h9, h8⟩ := Prod.mk.inj (Option.some.inj hf)
  subst h9
  subst h8
  exact W.iret hx hb hr (fun t ht _ => ⟨⟨_, (), rfl, rfl, by subst ht; exact hP⟩, hS.F ht⟩) hS.2.2 d_Pipe_tileCount_16 hlk
set_option maxHeartbeats 4000000 in
set_option maxRecDepth 100000 in
theorem c_Pipe_tileCount {l : Launch} {D : va_G} {ca : Nat → ClassId} {B rl : Nat} {r : Int32} {M M9 : hm_M} (hf : f_Pipe_tileCount M  = some (r, M9)) : Met l y_Pipe_tileCount [Cond.code y_Pipe_tileCount b_Pipe_tileCount 1 (some .int)] ({ frames := 0, cells := 0, slots := 0, locals := 0 } : Room) (hq_Pre D sc_cl ca 64 (sc_sh rl) B (sc_ty ca) hq_tb M hm_L0 [.ref (B + 1)]) (hq_QI D sc_cl ca 64 (sc_sh rl) B r M9 hm_L0) 0 0 (hm_A B 64) := by
  refine Met.ofW (cc := b_Pipe_tileCount) (maxL := 1) (ret := (some .int)) (by decide +kernel) rfl ?_
  intro p e s m args below meth c s₁ Bd hml hv
  obtain ⟨rfl, hP, hK⟩ := hv
  have hl := lv_entry ([.ref (B + 1)]) (n := 1) (Nat.le_of_ble_eq_true rfl)
  rw [lg_entry_eq]
  generalize (lg_sl ([.ref (B + 1)]) ++ List.replicate (1 - (lg_sl ([.ref (B + 1)])).length) Slot.unset).toArray = ls at hl ⊢
  have hl : lv_has ls 1 [(0, .ref (B + 1))] := hl
  exact w_Pipe_tileCount_e ⟨Bd.exec, Bd.bytes, hml, findClass_of_methodNamed Bd.named, Bd.returns, Bd.notSynchronized, hK⟩   _ _ _ _ hl hP va_S.rf hf
set_option maxHeartbeats 4000000 in
set_option maxRecDepth 100000 in
theorem w_Pipe_tileFirst_e {p : Program} {l : Launch} {e : Env} {s : State} {m : MethodId} {args : Array Value} {below : List Frame} {meth : Method} {c : Code} {D : va_G} {ca : Nat → ClassId} {B rl : Nat} {r : Int32} {M9 : hm_M} (X : hq_X p s m args meth c b_Pipe_tileFirst R_Pipe 2 (some .int) D sc_cl (sc_ty ca) hq_tb) : ∀ (x1 : Int32), ∀ (M : hm_M) (H : Heap) (locs : List Loc) (ls : Array Slot), lv_has ls 2 [(0, .ref (B + 1)), (1, .int x1)] → hm_P D sc_cl ca 64 (sc_sh rl) B M hm_L0 H → va_S (hm_A B 64) s.heap H locs → f_Pipe_tileFirst M x1 = some (r, M9) → W p l e ({ frames := 0, cells := 0, slots := 0, locals := 0 } : Room) s m args below meth c H locs 0 0 (MQ below (hq_QI D sc_cl ca 64 (sc_sh rl) B r M9 hm_L0) args s 0 0 (hm_A B 64)) (F0 m 0 ls []) := by
  obtain ⟨hx, hb, hml, hown, hr, hlk, hKt⟩ := id X
  have hK := hKt.1
  have hts : ∀ w ∈ hq_tb, w.before args s = true := fun w h => hKt.2.2 w h args
  intro x1 M H locs ls hl hP hS hf
  unfold f_Pipe_tileFirst at hf
  refine lv_iload_n hx hb d_Pipe_tileFirst_0 rfl (lv_at hl 1 rfl) ?_
  refine lv_aload_n hx hb d_Pipe_tileFirst_1 rfl (lv_at hl 0 rfl) ?_
  refine hq_get hx hb hts i_Pipe hown hK hP 1 (by decide) (sc_s_Pipe (rfl)) rfl 4 (by decide) (hts _ sc_wd_29) (fun _ h => h) (v := .int (M 1 4)) rfl d_Pipe_tileFirst_2 ?_
  refine lv_imul hx hb d_Pipe_tileFirst_5 ?_
  obtain ⟨h9, h8⟩ := Prod.mk.inj (Option.some.inj hf)
  subst h9
  subst h8
  exact W.iret hx hb hr (fun t ht _ => ⟨⟨_, (), rfl, rfl, by subst ht; exact hP⟩, hS.F ht⟩) hS.2.2 d_Pipe_tileFirst_6 hlk
set_option maxHeartbeats 4000000 in
set_option maxRecDepth 100000 in
theorem c_Pipe_tileFirst {l : Launch} {D : va_G} {ca : Nat → ClassId} {B rl : Nat} {r : Int32} {x1 : Int32} {M M9 : hm_M} (hf : f_Pipe_tileFirst M x1 = some (r, M9)) : Met l y_Pipe_tileFirst [Cond.code y_Pipe_tileFirst b_Pipe_tileFirst 2 (some .int)] ({ frames := 0, cells := 0, slots := 0, locals := 0 } : Room) (hq_Pre D sc_cl ca 64 (sc_sh rl) B (sc_ty ca) hq_tb M hm_L0 [.ref (B + 1), .int x1]) (hq_QI D sc_cl ca 64 (sc_sh rl) B r M9 hm_L0) 0 0 (hm_A B 64) := by
  refine Met.ofW (cc := b_Pipe_tileFirst) (maxL := 2) (ret := (some .int)) (by decide +kernel) rfl ?_
  intro p e s m args below meth c s₁ Bd hml hv
  obtain ⟨rfl, hP, hK⟩ := hv
  have hl := lv_entry ([.ref (B + 1), .int x1]) (n := 2) (Nat.le_of_ble_eq_true rfl)
  rw [lg_entry_eq]
  generalize (lg_sl ([.ref (B + 1), .int x1]) ++ List.replicate (2 - (lg_sl ([.ref (B + 1), .int x1])).length) Slot.unset).toArray = ls at hl ⊢
  have hl : lv_has ls 2 [(0, .ref (B + 1)), (1, .int x1)] := hl
  exact w_Pipe_tileFirst_e ⟨Bd.exec, Bd.bytes, hml, findClass_of_methodNamed Bd.named, Bd.returns, Bd.notSynchronized, hK⟩  _ _ _ _ _ hl hP va_S.rf hf
set_option maxHeartbeats 4000000 in
set_option maxRecDepth 100000 in
theorem w_Pipe_tileLast_e {p : Program} {l : Launch} {e : Env} {s : State} {m : MethodId} {args : Array Value} {below : List Frame} {meth : Method} {c : Code} {D : va_G} {ca : Nat → ClassId} {B rl : Nat} {r : Int32} {M9 : hm_M} (X : hq_X p s m args meth c b_Pipe_tileLast R_Pipe 2 (some .int) D sc_cl (sc_ty ca) hq_tb) : ∀ (x1 : Int32), ∀ (M : hm_M) (H : Heap) (locs : List Loc) (ls : Array Slot), lv_has ls 2 [(0, .ref (B + 1)), (1, .int x1)] → hm_P D sc_cl ca 64 (sc_sh rl) B M hm_L0 H → va_S (hm_A B 64) s.heap H locs → f_Pipe_tileLast M x1 = some (r, M9) → W p l e ({ frames := 1, cells := 0, slots := 0, locals := 21 } : Room) s m args below meth c H locs 0 0 (MQ below (hq_QI D sc_cl ca 64 (sc_sh rl) B r M9 hm_L0) args s 0 0 (hm_A B 64)) (F0 m 0 ls []) := by
  obtain ⟨hx, hb, hml, hown, hr, hlk, hKt⟩ := id X
  have hK := hKt.1
  have hts : ∀ w ∈ hq_tb, w.before args s = true := fun w h => hKt.2.2 w h args
  intro x1 M H locs ls hl hP hS hf
  unfold f_Pipe_tileLast at hf
  refine lv_aload_n hx hb d_Pipe_tileLast_0 rfl (lv_at hl 0 rfl) ?_
  refine lv_iload_n hx hb d_Pipe_tileLast_1 rfl (lv_at hl 1 rfl) ?_
  obtain ⟨r1, M_2, hc3, hf⟩ := hm_bI_some hf
  refine hq_callI (va_runV (As := [.int x1]) (rest := []) ⟨hx, hb, hml, hown, hts⟩ (c_Pipe_tileFirst (l := l) (D := D) (ca := ca) (B := B) (rl := rl)  hc3) (hq_cwV (nn := 1) hts sc_wd_30 sc_wd_31 sc_wd_32 sc_wd_33 sc_wd_34 (by decide +kernel) rfl rfl ⟨(Nat.le_of_ble_eq_true rfl), (Nat.le_of_ble_eq_true rfl)⟩) (hq_preV hKt hP (by decide) (sc_s_Pipe (rfl)) rfl) rfl rfl hl.1 rfl (lv_room (Nat.le_of_ble_eq_true rfl)) d_Pipe_tileLast_2 ⟨(Nat.le_of_ble_eq_true rfl), (Nat.le_of_ble_eq_true rfl)⟩) hS (fun H locs hP hS => ?_)
  refine lv_aload_n hx hb d_Pipe_tileLast_5 rfl (lv_at hl 0 rfl) ?_
  refine hq_get hx hb hts i_Pipe hown hK hP 1 (by decide) (sc_s_Pipe (rfl)) rfl 4 (by decide) (hts _ sc_wd_29) (fun _ h => h) (v := .int (M_2 1 4)) rfl d_Pipe_tileLast_6 ?_
  refine lv_iadd hx hb d_Pipe_tileLast_9 ?_
  refine lv_aload_n hx hb d_Pipe_tileLast_10 rfl (lv_at hl 0 rfl) ?_
  refine hq_get hx hb hts i_Pipe hown hK hP 1 (by decide) (sc_s_Pipe (rfl)) rfl 6 (by decide) (hts _ sc_wd_28) (fun _ h => h) (v := .int (M_2 1 6)) rfl d_Pipe_tileLast_11 ?_
  refine va_mmin hx hb (hml.trans hl.1.symm) hown (hts _ sc_wd_35) (hts _ sc_wd_3) (hts _ sc_wd_4) (hts _ sc_wd_5) (Nat.le_of_ble_eq_true rfl) (Nat.le_of_ble_eq_true rfl) (Nat.le_of_ble_eq_true rfl) (Nat.le_of_ble_eq_true rfl) d_Pipe_tileLast_14 ?_
  refine lv_iconst (v := 1) hx hb d_Pipe_tileLast_17 (by decide) ?_
  refine lv_isub hx hb d_Pipe_tileLast_18 ?_
  obtain ⟨h9, h8⟩ := Prod.mk.inj (Option.some.inj hf)
  subst h9
  subst h8
  exact W.iret hx hb hr (fun t ht _ => ⟨⟨_, (), rfl, rfl, by subst ht; exact hP⟩, hS.F ht⟩) hS.2.2 d_Pipe_tileLast_19 hlk
set_option maxHeartbeats 4000000 in
set_option maxRecDepth 100000 in
theorem c_Pipe_tileLast {l : Launch} {D : va_G} {ca : Nat → ClassId} {B rl : Nat} {r : Int32} {x1 : Int32} {M M9 : hm_M} (hf : f_Pipe_tileLast M x1 = some (r, M9)) : Met l y_Pipe_tileLast [Cond.code y_Pipe_tileLast b_Pipe_tileLast 2 (some .int)] ({ frames := 1, cells := 0, slots := 0, locals := 21 } : Room) (hq_Pre D sc_cl ca 64 (sc_sh rl) B (sc_ty ca) hq_tb M hm_L0 [.ref (B + 1), .int x1]) (hq_QI D sc_cl ca 64 (sc_sh rl) B r M9 hm_L0) 0 0 (hm_A B 64) := by
  refine Met.ofW (cc := b_Pipe_tileLast) (maxL := 2) (ret := (some .int)) (by decide +kernel) rfl ?_
  intro p e s m args below meth c s₁ Bd hml hv
  obtain ⟨rfl, hP, hK⟩ := hv
  have hl := lv_entry ([.ref (B + 1), .int x1]) (n := 2) (Nat.le_of_ble_eq_true rfl)
  rw [lg_entry_eq]
  generalize (lg_sl ([.ref (B + 1), .int x1]) ++ List.replicate (2 - (lg_sl ([.ref (B + 1), .int x1])).length) Slot.unset).toArray = ls at hl ⊢
  have hl : lv_has ls 2 [(0, .ref (B + 1)), (1, .int x1)] := hl
  exact w_Pipe_tileLast_e ⟨Bd.exec, Bd.bytes, hml, findClass_of_methodNamed Bd.named, Bd.returns, Bd.notSynchronized, hK⟩  _ _ _ _ _ hl hP va_S.rf hf
set_option maxHeartbeats 4000000 in
set_option maxRecDepth 100000 in
theorem w_Pipe_valuesWorkedOutFor_57 {p : Program} {l : Launch} {e : Env} {s : State} {m : MethodId} {args : Array Value} {below : List Frame} {meth : Method} {c : Code} {D : va_G} {ca : Nat → ClassId} {B rl : Nat} {r : Int32} {M9 : hm_M} (X : hq_X p s m args meth c b_Pipe_valuesWorkedOutFor R_Pipe 7 (some .int) D sc_cl (sc_ty ca) hq_tb) {k2 : Int32 → Int32 → hm_M → Option (Int32 × hm_M)} (hk2 : ∀ (x1 : Int32), ∀ (x2 : Int32), ∀ (M : hm_M) (H : Heap) (locs : List Loc) (ls : Array Slot), lv_has ls 7 [(0, .ref (B + 1)), (1, .int x1), (2, .int x2)] → hm_P D sc_cl ca 64 (sc_sh rl) B M hm_L0 H → va_S (hm_A B 64) s.heap H locs → k2 x1 x2 M = some (r, M9) → W p l e ({ frames := 0, cells := 0, slots := 0, locals := 0 } : Room) s m args below meth c H locs 0 0 (MQ below (hq_QI D sc_cl ca 64 (sc_sh rl) B r M9 hm_L0) args s 0 0 (hm_A B 64)) (F0 m 2 ls [])) {k20 : Int32 → Int32 → Nat → Int32 → Int32 → hm_M → Option (Int32 × hm_M)} (hk20 : ∀ (x1 : Int32), ∀ (x2 : Int32), ∀ (a3 : Nat), ∀ (x4 : Int32), ∀ (x5 : Int32), sc_kd a3 = 5 → ∀ (M : hm_M) (H : Heap) (locs : List Loc) (ls : Array Slot), lv_has ls 7 [(0, .ref (B + 1)), (1, .int x1), (2, .int x2), (3, .ref (B + a3)), (4, .int x4), (5, .int x5)] → hm_P D sc_cl ca 64 (sc_sh rl) B M hm_L0 H → va_S (hm_A B 64) s.heap H locs → k20 x1 x2 a3 x4 x5 M = some (r, M9) → W p l e ({ frames := 0, cells := 0, slots := 0, locals := 0 } : Room) s m args below meth c H locs 0 0 (MQ below (hq_QI D sc_cl ca 64 (sc_sh rl) B r M9 hm_L0) args s 0 0 (hm_A B 64)) (F0 m 20 ls [])) : ∀ (x1 : Int32), ∀ (x2 : Int32), ∀ (a3 : Nat), ∀ (x5 : Int32), ∀ (y0 : Int32), ∀ (y1 : Int32), sc_kd a3 = 5 → ∀ (M : hm_M) (H : Heap) (locs : List Loc) (ls : Array Slot), lv_has ls 7 [(0, .ref (B + 1)), (1, .int x1), (2, .int x2), (3, .ref (B + a3)), (5, .int x5)] → hm_P D sc_cl ca 64 (sc_sh rl) B M hm_L0 H → va_S (hm_A B 64) s.heap H locs → f_Pipe_valuesWorkedOutFor_57 k2 k20 x1 x2 a3 x5 y0 y1 M = some (r, M9) → W p l e ({ frames := 0, cells := 0, slots := 0, locals := 0 } : Room) s m args below meth c H locs 0 0 (MQ below (hq_QI D sc_cl ca 64 (sc_sh rl) B r M9 hm_L0) args s 0 0 (hm_A B 64)) (F0 m 57 ls [.int y1, .int y0]) := by
  obtain ⟨hx, hb, hml, hown, hr, hlk, hKt⟩ := id X
  have hK := hKt.1
  have hts : ∀ w ∈ hq_tb, w.before args s = true := fun w h => hKt.2.2 w h args
  intro x1 x2 a3 x5 y0 y1 h_a3 M H locs ls hl hP hS hf
  unfold f_Pipe_valuesWorkedOutFor_57 at hf
  refine lv_iadd hx hb d_Pipe_valuesWorkedOutFor_57 ?_
  refine lv_istore (lv' := [(4, .int (y0 + y1)), (0, .ref (B + 1)), (1, .int x1), (2, .int x2), (3, .ref (B + a3)), (5, .int x5)]) hx hb d_Pipe_valuesWorkedOutFor_58 hl (by decide) rfl (fun ls hl => ?_)
  refine lv_iinc (v := (x5 + 1)) (lv' := [(5, .int (x5 + 1)), (4, .int (y0 + y1)), (0, .ref (B + 1)), (1, .int x1), (2, .int x2), (3, .ref (B + a3))]) hx hb d_Pipe_valuesWorkedOutFor_60 hl (k := 5) rfl rfl (by decide) rfl (fun ls hl => ?_)
  refine lv_goto (tgt := 20) hx hb d_Pipe_valuesWorkedOutFor_63 (by decide) ?_
  exact hk20 _ _ _ _ _ h_a3 _ _ _ _ (lv_sub hl [2, 3, 4, 5, 1, 0] rfl) hP hS hf
set_option maxHeartbeats 4000000 in
set_option maxRecDepth 100000 in
theorem w_Pipe_valuesWorkedOutFor_20 {p : Program} {l : Launch} {e : Env} {s : State} {m : MethodId} {args : Array Value} {below : List Frame} {meth : Method} {c : Code} {D : va_G} {ca : Nat → ClassId} {B rl : Nat} {r : Int32} {M9 : hm_M} (X : hq_X p s m args meth c b_Pipe_valuesWorkedOutFor R_Pipe 7 (some .int) D sc_cl (sc_ty ca) hq_tb) {k2 : Int32 → Int32 → hm_M → Option (Int32 × hm_M)} (hk2 : ∀ (x1 : Int32), ∀ (x2 : Int32), ∀ (M : hm_M) (H : Heap) (locs : List Loc) (ls : Array Slot), lv_has ls 7 [(0, .ref (B + 1)), (1, .int x1), (2, .int x2)] → hm_P D sc_cl ca 64 (sc_sh rl) B M hm_L0 H → va_S (hm_A B 64) s.heap H locs → k2 x1 x2 M = some (r, M9) → W p l e ({ frames := 0, cells := 0, slots := 0, locals := 0 } : Room) s m args below meth c H locs 0 0 (MQ below (hq_QI D sc_cl ca 64 (sc_sh rl) B r M9 hm_L0) args s 0 0 (hm_A B 64)) (F0 m 2 ls [])) : ∀ (n : Nat), ∀ (x1 : Int32), ∀ (x2 : Int32), ∀ (a3 : Nat), ∀ (x4 : Int32), ∀ (x5 : Int32), sc_kd a3 = 5 → ∀ (M : hm_M) (H : Heap) (locs : List Loc) (ls : Array Slot), lv_has ls 7 [(0, .ref (B + 1)), (1, .int x1), (2, .int x2), (3, .ref (B + a3)), (4, .int x4), (5, .int x5)] → hm_P D sc_cl ca 64 (sc_sh rl) B M hm_L0 H → va_S (hm_A B 64) s.heap H locs → f_Pipe_valuesWorkedOutFor_20 k2 n x1 x2 a3 x4 x5 M = some (r, M9) → W p l e ({ frames := 0, cells := 0, slots := 0, locals := 0 } : Room) s m args below meth c H locs 0 0 (MQ below (hq_QI D sc_cl ca 64 (sc_sh rl) B r M9 hm_L0) args s 0 0 (hm_A B 64)) (F0 m 20 ls []) := by
  obtain ⟨hx, hb, hml, hown, hr, hlk, hKt⟩ := id X
  have hK := hKt.1
  have hts : ∀ w ∈ hq_tb, w.before args s = true := fun w h => hKt.2.2 w h args
  intro n
  induction n with
  | zero =>
    intro x1 x2 a3 x4 x5 h_a3 M H locs ls hl hP hS hf
    cases hf
  | succ n ih =>
    intro x1 x2 a3 x4 x5 h_a3 M H locs ls hl hP hS hf
    rw [f_Pipe_valuesWorkedOutFor_20] at hf
    refine lv_iload hx hb d_Pipe_valuesWorkedOutFor_20 (lv_at hl 5 rfl) ?_
    refine lv_aload_n hx hb d_Pipe_valuesWorkedOutFor_22 rfl (lv_at hl 3 rfl) ?_
    refine hq_getN hx hb hts i_Stage hown hK hP a3 (sc_lt h_a3 (by decide)) (sc_s_Stage (h_a3)) rfl 3 (by decide) (hts _ sc_wd_37) (fun _ h => h) (v := .int (M a3 3)) rfl d_Pipe_valuesWorkedOutFor_23 ?_
    refine lv_icmp_ge (tgt := 66) hx hb d_Pipe_valuesWorkedOutFor_26 (by decide) (fun c1 => ?_) (fun c1 => ?_)
    · replace hf := (if_pos c1).symm.trans hf
      refine lv_aload_n hx hb d_Pipe_valuesWorkedOutFor_66 rfl (lv_at hl 0 rfl) ?_
      refine hq_get hx hb hts i_Pipe hown hK hP 1 (by decide) (sc_s_Pipe (rfl)) rfl 2 (by decide) (hts _ sc_wd_36) (fun _ h => h) (v := .ref (B + 3)) rfl d_Pipe_valuesWorkedOutFor_67 ?_
      refine lv_iload_n hx hb d_Pipe_valuesWorkedOutFor_70 rfl (lv_at hl 2 rfl) ?_
      refine lv_iload hx hb d_Pipe_valuesWorkedOutFor_71 (lv_at hl 4 rfl) ?_
      obtain ⟨g2, hf⟩ := hm_gd_some hf
      refine hq_iast hx hb hK hP hS 3 (by decide) (sc_s_ia8 (rfl)) 0 rfl g2 d_Pipe_valuesWorkedOutFor_73 (fun H locs hP hS => ?_)
      obtain ⟨M_3, e_3, hf⟩ := hm_st_some hf
      rw [← e_3] at hP
      refine lv_iinc (v := (x2 + 1)) (lv' := [(2, .int (x2 + 1)), (0, .ref (B + 1)), (1, .int x1), (3, .ref (B + a3)), (4, .int x4), (5, .int x5)]) hx hb d_Pipe_valuesWorkedOutFor_74 hl (k := 2) rfl rfl (by decide) rfl (fun ls hl => ?_)
      refine lv_goto (tgt := 2) hx hb d_Pipe_valuesWorkedOutFor_77 (by decide) ?_
      exact hk2 _ _ _ _ _ _ (lv_sub hl [1, 2, 0] rfl) hP hS hf
    · replace hf := (if_neg c1).symm.trans hf
      refine lv_aload_n hx hb d_Pipe_valuesWorkedOutFor_29 rfl (lv_at hl 3 rfl) ?_
      refine hq_getN hx hb hts i_Stage hown hK hP a3 (sc_lt h_a3 (by decide)) (sc_s_Stage (h_a3)) rfl 4 (by decide) (hts _ sc_wd_38) (fun _ h => h) (v := .ref (B + (a3 + 1))) rfl d_Pipe_valuesWorkedOutFor_30 ?_
      refine lv_iload hx hb d_Pipe_valuesWorkedOutFor_33 (lv_at hl 5 rfl) ?_
      obtain ⟨g4, hf⟩ := hm_gd_some hf
      refine hq_iald hx hb hK hP (a3 + 1) (sc_lt (sck_Stage1 h_a3) (by decide)) (sc_s_ia4 ((sck_Stage1 h_a3))) 0 rfl g4 d_Pipe_valuesWorkedOutFor_35 ?_
      refine lv_istore (lv' := [(6, .int (M (a3 + 1) x5.toNatClampNeg)), (0, .ref (B + 1)), (1, .int x1), (2, .int x2), (3, .ref (B + a3)), (4, .int x4), (5, .int x5)]) hx hb d_Pipe_valuesWorkedOutFor_36 hl (by decide) rfl (fun ls hl => ?_)
      refine lv_iload hx hb d_Pipe_valuesWorkedOutFor_38 (lv_at hl 5 rfl) ?_
      refine lv_iload hx hb d_Pipe_valuesWorkedOutFor_40 (lv_at hl 0 rfl) ?_
      refine lv_iconst (v := (-1)) hx hb d_Pipe_valuesWorkedOutFor_42 (by decide) ?_
      refine lv_icmp_ne (tgt := 50) hx hb d_Pipe_valuesWorkedOutFor_43 (by decide) (fun c5 => ?_) (fun c5 => ?_)
      · replace hf := (if_neg c5).symm.trans hf
        refine lv_aload_n hx hb d_Pipe_valuesWorkedOutFor_50 rfl (lv_at hl 1 rfl) ?_
        refine hq_get hx hb hts i_Pipe hown hK hP 1 (by decide) (sc_s_Pipe (rfl)) rfl 2 (by decide) (hts _ sc_wd_36) (fun _ h => h) (v := .ref (B + 3)) rfl d_Pipe_valuesWorkedOutFor_51 ?_
        refine lv_iload hx hb d_Pipe_valuesWorkedOutFor_54 (lv_at hl 0 rfl) ?_
        obtain ⟨g6, hf⟩ := hm_gd_some hf
        refine hq_iald hx hb hK hP 3 (by decide) (sc_s_ia8 (rfl)) 0 rfl g6 d_Pipe_valuesWorkedOutFor_56 ?_
        exact w_Pipe_valuesWorkedOutFor_57 X hk2 ih _ _ _ _ _ _ h_a3 _ _ _ _ (lv_sub hl [1, 2, 3, 4, 6] rfl) hP hS hf
      · replace hf := (if_pos c5).symm.trans hf
        refine lv_iconst (v := 0) hx hb d_Pipe_valuesWorkedOutFor_46 (by decide) ?_
        refine lv_goto (tgt := 57) hx hb d_Pipe_valuesWorkedOutFor_47 (by decide) ?_
        exact w_Pipe_valuesWorkedOutFor_57 X hk2 ih _ _ _ _ _ _ h_a3 _ _ _ _ (lv_sub hl [1, 2, 3, 4, 6] rfl) hP hS hf
set_option maxHeartbeats 4000000 in
set_option maxRecDepth 100000 in
theorem w_Pipe_valuesWorkedOutFor_2 {p : Program} {l : Launch} {e : Env} {s : State} {m : MethodId} {args : Array Value} {below : List Frame} {meth : Method} {c : Code} {D : va_G} {ca : Nat → ClassId} {B rl : Nat} {r : Int32} {M9 : hm_M} (X : hq_X p s m args meth c b_Pipe_valuesWorkedOutFor R_Pipe 7 (some .int) D sc_cl (sc_ty ca) hq_tb) : ∀ (n : Nat), ∀ (x1 : Int32), ∀ (x2 : Int32), ∀ (M : hm_M) (H : Heap) (locs : List Loc) (ls : Array Slot), lv_has ls 7 [(0, .ref (B + 1)), (1, .int x1), (2, .int x2)] → hm_P D sc_cl ca 64 (sc_sh rl) B M hm_L0 H → va_S (hm_A B 64) s.heap H locs → f_Pipe_valuesWorkedOutFor_2 n x1 x2 M = some (r, M9) → W p l e ({ frames := 0, cells := 0, slots := 0, locals := 0 } : Room) s m args below meth c H locs 0 0 (MQ below (hq_QI D sc_cl ca 64 (sc_sh rl) B r M9 hm_L0) args s 0 0 (hm_A B 64)) (F0 m 2 ls []) := by
  obtain ⟨hx, hb, hml, hown, hr, hlk, hKt⟩ := id X
  have hK := hKt.1
  have hts : ∀ w ∈ hq_tb, w.before args s = true := fun w h => hKt.2.2 w h args
  intro n
  induction n with
  | zero =>
    intro x1 x2 M H locs ls hl hP hS hf
    cases hf
  | succ n ih =>
    intro x1 x2 M H locs ls hl hP hS hf
    rw [f_Pipe_valuesWorkedOutFor_2] at hf
    refine lv_iload_n hx hb d_Pipe_valuesWorkedOutFor_2 rfl (lv_at hl 2 rfl) ?_
    refine lv_iload_n hx hb d_Pipe_valuesWorkedOutFor_3 rfl (lv_at hl 1 rfl) ?_
    refine lv_icmp_gt (tgt := 80) hx hb d_Pipe_valuesWorkedOutFor_4 (by decide) (fun c1 => ?_) (fun c1 => ?_)
    · replace hf := (if_pos c1).symm.trans hf
      refine lv_aload_n hx hb d_Pipe_valuesWorkedOutFor_80 rfl (lv_at hl 0 rfl) ?_
      refine hq_get hx hb hts i_Pipe hown hK hP 1 (by decide) (sc_s_Pipe (rfl)) rfl 2 (by decide) (hts _ sc_wd_36) (fun _ h => h) (v := .ref (B + 3)) rfl d_Pipe_valuesWorkedOutFor_81 ?_
      refine lv_iload_n hx hb d_Pipe_valuesWorkedOutFor_84 rfl (lv_at hl 1 rfl) ?_
      obtain ⟨g2, hf⟩ := hm_gd_some hf
      refine hq_iald hx hb hK hP 3 (by decide) (sc_s_ia8 (rfl)) 0 rfl g2 d_Pipe_valuesWorkedOutFor_85 ?_
      obtain ⟨h9, h8⟩ := Prod.mk.inj (Option.some.inj hf)
      subst h9
      subst h8
      exact W.iret hx hb hr (fun t ht _ => ⟨⟨_, (), rfl, rfl, by subst ht; exact hP⟩, hS.F ht⟩) hS.2.2 d_Pipe_valuesWorkedOutFor_86 hlk
    · replace hf := (if_neg c1).symm.trans hf
      refine lv_aload_n hx hb d_Pipe_valuesWorkedOutFor_7 rfl (lv_at hl 0 rfl) ?_
      refine hq_get hx hb hts i_Pipe hown hK hP 1 (by decide) (sc_s_Pipe (rfl)) rfl 1 (by decide) (hts _ sc_wd_25) (fun _ h => h) (v := .ref (B + 2)) rfl d_Pipe_valuesWorkedOutFor_8 ?_
      refine lv_iload_n hx hb d_Pipe_valuesWorkedOutFor_11 rfl (lv_at hl 2 rfl) ?_
      obtain ⟨g3, hf⟩ := hm_gd_some hf
      refine hq_aald hx hb hK hP 2 (by decide) (sc_s_starr (rfl)) 2 rfl rfl g3 d_Pipe_valuesWorkedOutFor_12 ?_
      refine lv_astore_n (lv' := [(3, .ref (B + (5 + 4 * x2.toNatClampNeg))), (0, .ref (B + 1)), (1, .int x1), (2, .int x2)]) hx hb d_Pipe_valuesWorkedOutFor_13 rfl hl (by decide) rfl (fun ls hl => ?_)
      refine lv_iconst (v := 1) hx hb d_Pipe_valuesWorkedOutFor_14 (by decide) ?_
      refine lv_istore (lv' := [(4, .int 1), (3, .ref (B + (5 + 4 * x2.toNatClampNeg))), (0, .ref (B + 1)), (1, .int x1), (2, .int x2)]) hx hb d_Pipe_valuesWorkedOutFor_15 hl (by decide) rfl (fun ls hl => ?_)
      refine lv_iconst (v := 0) hx hb d_Pipe_valuesWorkedOutFor_17 (by decide) ?_
      refine lv_istore (lv' := [(5, .int 0), (4, .int 1), (3, .ref (B + (5 + 4 * x2.toNatClampNeg))), (0, .ref (B + 1)), (1, .int x1), (2, .int x2)]) hx hb d_Pipe_valuesWorkedOutFor_18 hl (by decide) rfl (fun ls hl => ?_)
      exact w_Pipe_valuesWorkedOutFor_20 X ih _ _ _ _ _ _ (sck_st g3) _ _ _ _ (lv_sub hl [3, 4, 5, 2, 1, 0] rfl) hP hS hf
set_option maxHeartbeats 4000000 in
set_option maxRecDepth 100000 in
theorem w_Pipe_valuesWorkedOutFor_e {p : Program} {l : Launch} {e : Env} {s : State} {m : MethodId} {args : Array Value} {below : List Frame} {meth : Method} {c : Code} {D : va_G} {ca : Nat → ClassId} {B rl : Nat} {r : Int32} {M9 : hm_M} (X : hq_X p s m args meth c b_Pipe_valuesWorkedOutFor R_Pipe 7 (some .int) D sc_cl (sc_ty ca) hq_tb) : ∀ (x1 : Int32), ∀ (M : hm_M) (H : Heap) (locs : List Loc) (ls : Array Slot), lv_has ls 7 [(0, .ref (B + 1)), (1, .int x1)] → hm_P D sc_cl ca 64 (sc_sh rl) B M hm_L0 H → va_S (hm_A B 64) s.heap H locs → f_Pipe_valuesWorkedOutFor M x1 = some (r, M9) → W p l e ({ frames := 0, cells := 0, slots := 0, locals := 0 } : Room) s m args below meth c H locs 0 0 (MQ below (hq_QI D sc_cl ca 64 (sc_sh rl) B r M9 hm_L0) args s 0 0 (hm_A B 64)) (F0 m 0 ls []) := by
  obtain ⟨hx, hb, hml, hown, hr, hlk, hKt⟩ := id X
  have hK := hKt.1
  have hts : ∀ w ∈ hq_tb, w.before args s = true := fun w h => hKt.2.2 w h args
  intro x1 M H locs ls hl hP hS hf
  unfold f_Pipe_valuesWorkedOutFor at hf
  refine lv_iconst (v := 0) hx hb d_Pipe_valuesWorkedOutFor_0 (by decide) ?_
  refine lv_istore_n (lv' := [(2, .int 0), (0, .ref (B + 1)), (1, .int x1)]) hx hb d_Pipe_valuesWorkedOutFor_1 rfl hl (by decide) rfl (fun ls hl => ?_)
  exact w_Pipe_valuesWorkedOutFor_2 X _ _ _ _ _ _ _ (lv_sub hl [1, 2, 0] rfl) hP hS hf
set_option maxHeartbeats 4000000 in
set_option maxRecDepth 100000 in
theorem c_Pipe_valuesWorkedOutFor {l : Launch} {D : va_G} {ca : Nat → ClassId} {B rl : Nat} {r : Int32} {x1 : Int32} {M M9 : hm_M} (hf : f_Pipe_valuesWorkedOutFor M x1 = some (r, M9)) : Met l y_Pipe_valuesWorkedOutFor [Cond.code y_Pipe_valuesWorkedOutFor b_Pipe_valuesWorkedOutFor 7 (some .int)] ({ frames := 0, cells := 0, slots := 0, locals := 0 } : Room) (hq_Pre D sc_cl ca 64 (sc_sh rl) B (sc_ty ca) hq_tb M hm_L0 [.ref (B + 1), .int x1]) (hq_QI D sc_cl ca 64 (sc_sh rl) B r M9 hm_L0) 0 0 (hm_A B 64) := by
  refine Met.ofW (cc := b_Pipe_valuesWorkedOutFor) (maxL := 7) (ret := (some .int)) (by decide +kernel) rfl ?_
  intro p e s m args below meth c s₁ Bd hml hv
  obtain ⟨rfl, hP, hK⟩ := hv
  have hl := lv_entry ([.ref (B + 1), .int x1]) (n := 7) (Nat.le_of_ble_eq_true rfl)
  rw [lg_entry_eq]
  generalize (lg_sl ([.ref (B + 1), .int x1]) ++ List.replicate (7 - (lg_sl ([.ref (B + 1), .int x1])).length) Slot.unset).toArray = ls at hl ⊢
  have hl : lv_has ls 7 [(0, .ref (B + 1)), (1, .int x1)] := hl
  exact w_Pipe_valuesWorkedOutFor_e ⟨Bd.exec, Bd.bytes, hml, findClass_of_methodNamed Bd.named, Bd.returns, Bd.notSynchronized, hK⟩  _ _ _ _ _ hl hP va_S.rf hf
set_option maxHeartbeats 4000000 in
set_option maxRecDepth 100000 in
theorem w_Stage_addTap_e {p : Program} {l : Launch} {e : Env} {s : State} {m : MethodId} {args : Array Value} {below : List Frame} {meth : Method} {c : Code} {D : va_G} {ca : Nat → ClassId} {B rl : Nat} {M9 : hm_M} (X : hq_X p s m args meth c b_Stage_addTap R_Stage 4 none D sc_cl (sc_ty ca) hq_tb) : ∀ (a0 : Nat), ∀ (x1 : Int32), ∀ (x2 : Int32), ∀ (x3 : Int32), sc_kd a0 = 5 → ∀ (M : hm_M) (H : Heap) (locs : List Loc) (ls : Array Slot), lv_has ls 4 [(0, .ref (B + a0)), (1, .int x1), (2, .int x2), (3, .int x3)] → hm_P D sc_cl ca 64 (sc_sh rl) B M hm_L0 H → va_S (hm_A B 64) s.heap H locs → f_Stage_addTap M a0 x1 x2 x3 = some M9 → W p l e ({ frames := 0, cells := 0, slots := 0, locals := 0 } : Room) s m args below meth c H locs 0 0 (MQ below (hq_QV D sc_cl ca 64 (sc_sh rl) B M9 hm_L0) args s 0 0 (hm_A B 64)) (F0 m 0 ls []) := by
  obtain ⟨hx, hb, hml, hown, hr, hlk, hKt⟩ := id X
  have hK := hKt.1
  have hts : ∀ w ∈ hq_tb, w.before args s = true := fun w h => hKt.2.2 w h args
  intro a0 x1 x2 x3 h_a0 M H locs ls hl hP hS hf
  unfold f_Stage_addTap at hf
  refine lv_aload_n hx hb d_Stage_addTap_0 rfl (lv_at hl 0 rfl) ?_
  refine hq_get hx hb hts i_Stage hown hK hP a0 (sc_lt h_a0 (by decide)) (sc_s_Stage (h_a0)) rfl 4 (by decide) (hts _ sc_wd_39) (fun _ h => h) (v := .ref (B + (a0 + 1))) rfl d_Stage_addTap_1 ?_
  refine lv_aload_n hx hb d_Stage_addTap_4 rfl (lv_at hl 0 rfl) ?_
  refine hq_get hx hb hts i_Stage hown hK hP a0 (sc_lt h_a0 (by decide)) (sc_s_Stage (h_a0)) rfl 3 (by decide) (hts _ sc_wd_40) (fun _ h => h) (v := .int (M a0 3)) rfl d_Stage_addTap_5 ?_
  refine lv_iload_n hx hb d_Stage_addTap_8 rfl (lv_at hl 1 rfl) ?_
  obtain ⟨g1, hf⟩ := hm_gd_some hf
  refine hq_iast hx hb hK hP hS (a0 + 1) (sc_lt (sck_Stage1 h_a0) (by decide)) (sc_s_ia4 ((sck_Stage1 h_a0))) 0 rfl g1 d_Stage_addTap_9 (fun H locs hP hS => ?_)
  obtain ⟨M_2, e_2, hf⟩ := hm_st_some hf
  rw [← e_2] at hP
  refine lv_aload_n hx hb d_Stage_addTap_10 rfl (lv_at hl 0 rfl) ?_
  refine hq_get hx hb hts i_Stage hown hK hP a0 (sc_lt h_a0 (by decide)) (sc_s_Stage (h_a0)) rfl 5 (by decide) (hts _ sc_wd_41) (fun _ h => h) (v := .ref (B + (a0 + 2))) rfl d_Stage_addTap_11 ?_
  refine lv_aload_n hx hb d_Stage_addTap_14 rfl (lv_at hl 0 rfl) ?_
  refine hq_get hx hb hts i_Stage hown hK hP a0 (sc_lt h_a0 (by decide)) (sc_s_Stage (h_a0)) rfl 3 (by decide) (hts _ sc_wd_40) (fun _ h => h) (v := .int (M_2 a0 3)) rfl d_Stage_addTap_15 ?_
  refine lv_iload_n hx hb d_Stage_addTap_18 rfl (lv_at hl 2 rfl) ?_
  obtain ⟨g3, hf⟩ := hm_gd_some hf
  refine hq_iast hx hb hK hP hS (a0 + 2) (sc_lt (sck_Stage2 h_a0) (by decide)) (sc_s_ia4 ((sck_Stage2 h_a0))) 0 rfl g3 d_Stage_addTap_19 (fun H locs hP hS => ?_)
  obtain ⟨M_4, e_4, hf⟩ := hm_st_some hf
  rw [← e_4] at hP
  refine lv_aload_n hx hb d_Stage_addTap_20 rfl (lv_at hl 0 rfl) ?_
  refine hq_get hx hb hts i_Stage hown hK hP a0 (sc_lt h_a0 (by decide)) (sc_s_Stage (h_a0)) rfl 6 (by decide) (hts _ sc_wd_42) (fun _ h => h) (v := .ref (B + (a0 + 3))) rfl d_Stage_addTap_21 ?_
  refine lv_aload_n hx hb d_Stage_addTap_24 rfl (lv_at hl 0 rfl) ?_
  refine hq_get hx hb hts i_Stage hown hK hP a0 (sc_lt h_a0 (by decide)) (sc_s_Stage (h_a0)) rfl 3 (by decide) (hts _ sc_wd_40) (fun _ h => h) (v := .int (M_4 a0 3)) rfl d_Stage_addTap_25 ?_
  refine lv_iload_n hx hb d_Stage_addTap_28 rfl (lv_at hl 3 rfl) ?_
  obtain ⟨g5, hf⟩ := hm_gd_some hf
  refine hq_iast hx hb hK hP hS (a0 + 3) (sc_lt (sck_Stage3 h_a0) (by decide)) (sc_s_ia4 ((sck_Stage3 h_a0))) 0 rfl g5 d_Stage_addTap_29 (fun H locs hP hS => ?_)
  obtain ⟨M_6, e_6, hf⟩ := hm_st_some hf
  rw [← e_6] at hP
  refine lv_aload_n hx hb d_Stage_addTap_30 rfl (lv_at hl 0 rfl) ?_
  refine lv_dup hx hb d_Stage_addTap_31 rfl ?_
  refine hq_get hx hb hts i_Stage hown hK hP a0 (sc_lt h_a0 (by decide)) (sc_s_Stage (h_a0)) rfl 3 (by decide) (hts _ sc_wd_40) (fun _ h => h) (v := .int (M_6 a0 3)) rfl d_Stage_addTap_32 ?_
  refine lv_iconst (v := 1) hx hb d_Stage_addTap_35 (by decide) ?_
  refine lv_iadd hx hb d_Stage_addTap_36 ?_
  refine hq_put hx hb hts i_Stage t_Stage t_Stage_ok n_Stage hown hK hP hS a0 (sc_lt h_a0 (by decide)) (sc_s_Stage (h_a0)) rfl 3 (by decide) (hts _ sc_wd_40) (fun _ h => h) rfl (ty := .int) (x := ((M_6 a0 3) + 1)) (by decide +kernel) rfl rfl rfl d_Stage_addTap_37 (fun H locs hP hS => ?_)
  obtain ⟨M_7, e_7, hf⟩ := hm_st_some hf
  rw [← e_7] at hP
  have h8 := Option.some.inj hf
  subst h8
  exact W.vret hx hb hr (fun t ht _ => ⟨⟨(), rfl, trivial, by subst ht; exact hP⟩, hS.F ht⟩) hS.2.2 d_Stage_addTap_40 hlk
set_option maxHeartbeats 4000000 in
set_option maxRecDepth 100000 in
theorem c_Stage_addTap {l : Launch} {D : va_G} {ca : Nat → ClassId} {B rl : Nat} {a0 : Nat} {x1 : Int32} {x2 : Int32} {x3 : Int32} (h_a0 : sc_kd a0 = 5) {M M9 : hm_M} (hf : f_Stage_addTap M a0 x1 x2 x3 = some M9) : Met l y_Stage_addTap [Cond.code y_Stage_addTap b_Stage_addTap 4 none] ({ frames := 0, cells := 0, slots := 0, locals := 0 } : Room) (hq_Pre D sc_cl ca 64 (sc_sh rl) B (sc_ty ca) hq_tb M hm_L0 [.ref (B + a0), .int x1, .int x2, .int x3]) (hq_QV D sc_cl ca 64 (sc_sh rl) B M9 hm_L0) 0 0 (hm_A B 64) := by
  refine Met.ofW (cc := b_Stage_addTap) (maxL := 4) (ret := none) (by decide +kernel) rfl ?_
  intro p e s m args below meth c s₁ Bd hml hv
  obtain ⟨rfl, hP, hK⟩ := hv
  have hl := lv_entry ([.ref (B + a0), .int x1, .int x2, .int x3]) (n := 4) (Nat.le_of_ble_eq_true rfl)
  rw [lg_entry_eq]
  generalize (lg_sl ([.ref (B + a0), .int x1, .int x2, .int x3]) ++ List.replicate (4 - (lg_sl ([.ref (B + a0), .int x1, .int x2, .int x3])).length) Slot.unset).toArray = ls at hl ⊢
  have hl : lv_has ls 4 [(0, .ref (B + a0)), (1, .int x1), (2, .int x2), (3, .int x3)] := hl
  exact w_Stage_addTap_e ⟨Bd.exec, Bd.bytes, hml, findClass_of_methodNamed Bd.named, Bd.returns, Bd.notSynchronized, hK⟩  _ _ _ _ h_a0 _ _ _ _ hl hP va_S.rf hf
set_option maxHeartbeats 4000000 in
set_option maxRecDepth 100000 in
theorem w_Stage_finished_54 {p : Program} {l : Launch} {e : Env} {s : State} {m : MethodId} {args : Array Value} {below : List Frame} {meth : Method} {c : Code} {D : va_G} {ca : Nat → ClassId} {B rl : Nat} {r : Int32} {M9 : hm_M} (X : hq_X p s m args meth c b_Stage_finished R_Stage 2 (some .int) D sc_cl (sc_ty ca) hq_tb) : ∀ (y0 : Int32), ∀ (M : hm_M) (H : Heap) (locs : List Loc) (ls : Array Slot), lv_has ls 2 [] → hm_P D sc_cl ca 64 (sc_sh rl) B M hm_L0 H → va_S (hm_A B 64) s.heap H locs → f_Stage_finished_54 y0 M = some (r, M9) → W p l e ({ frames := 1, cells := 0, slots := 0, locals := 22 } : Room) s m args below meth c H locs 0 0 (MQ below (hq_QI D sc_cl ca 64 (sc_sh rl) B r M9 hm_L0) args s 0 0 (hm_A B 64)) (F0 m 54 ls [.int y0]) := by
  obtain ⟨hx, hb, hml, hown, hr, hlk, hKt⟩ := id X
  have hK := hKt.1
  have hts : ∀ w ∈ hq_tb, w.before args s = true := fun w h => hKt.2.2 w h args
  intro y0 M H locs ls hl hP hS hf
  unfold f_Stage_finished_54 at hf
  obtain ⟨h9, h8⟩ := Prod.mk.inj (Option.some.inj hf)
  subst h9
  subst h8
  exact W.iret hx hb hr (fun t ht _ => ⟨⟨_, (), rfl, rfl, by subst ht; exact hP⟩, hS.F ht⟩) hS.2.2 d_Stage_finished_54 hlk
set_option maxHeartbeats 4000000 in
set_option maxRecDepth 100000 in
theorem w_Stage_finished_e {p : Program} {l : Launch} {e : Env} {s : State} {m : MethodId} {args : Array Value} {below : List Frame} {meth : Method} {c : Code} {D : va_G} {ca : Nat → ClassId} {B rl : Nat} {r : Int32} {M9 : hm_M} (X : hq_X p s m args meth c b_Stage_finished R_Stage 2 (some .int) D sc_cl (sc_ty ca) hq_tb) : ∀ (a0 : Nat), ∀ (x1 : Int32), sc_kd a0 = 5 → ∀ (M : hm_M) (H : Heap) (locs : List Loc) (ls : Array Slot), lv_has ls 2 [(0, .ref (B + a0)), (1, .int x1)] → hm_P D sc_cl ca 64 (sc_sh rl) B M hm_L0 H → va_S (hm_A B 64) s.heap H locs → f_Stage_finished M a0 x1 = some (r, M9) → W p l e ({ frames := 1, cells := 0, slots := 0, locals := 22 } : Room) s m args below meth c H locs 0 0 (MQ below (hq_QI D sc_cl ca 64 (sc_sh rl) B r M9 hm_L0) args s 0 0 (hm_A B 64)) (F0 m 0 ls []) := by
  obtain ⟨hx, hb, hml, hown, hr, hlk, hKt⟩ := id X
  have hK := hKt.1
  have hts : ∀ w ∈ hq_tb, w.before args s = true := fun w h => hKt.2.2 w h args
  intro a0 x1 h_a0 M H locs ls hl hP hS hf
  unfold f_Stage_finished at hf
  refine lv_aload_n hx hb d_Stage_finished_0 rfl (lv_at hl 0 rfl) ?_
  refine hq_get hx hb hts i_Stage hown hK hP a0 (sc_lt h_a0 (by decide)) (sc_s_Stage (h_a0)) rfl 1 (by decide) (hts _ sc_wd_43) (fun _ h => h) (v := .int (M a0 1)) rfl d_Stage_finished_1 ?_
  by_cases c1 : (M a0 1) = 1
  · replace hf := (if_pos c1).symm.trans hf
    refine lv_tableIn (tgt := 32) hx hb d_Stage_finished_4 (by rw [c1]; decide) (by rw [c1]; decide) (by rw [c1]; rfl) (by decide) ?_
    refine lv_iload_n hx hb d_Stage_finished_32 rfl (lv_at hl 1 rfl) ?_
    refine lv_iconst (v := 0) hx hb d_Stage_finished_33 (by decide) ?_
    refine va_mmax hx hb (hml.trans hl.1.symm) hown (hts _ sc_wd_44) (hts _ sc_wd_8) (hts _ sc_wd_4) (hts _ sc_wd_9) (Nat.le_of_ble_eq_true rfl) (Nat.le_of_ble_eq_true rfl) (Nat.le_of_ble_eq_true rfl) (Nat.le_of_ble_eq_true rfl) d_Stage_finished_34 ?_
    obtain ⟨h9, h8⟩ := Prod.mk.inj (Option.some.inj hf)
    subst h9
    subst h8
    exact W.iret hx hb hr (fun t ht _ => ⟨⟨_, (), rfl, rfl, by subst ht; exact hP⟩, hS.F ht⟩) hS.2.2 d_Stage_finished_37 hlk
  · replace hf := (if_neg c1).symm.trans hf
    by_cases c2 : (M a0 1) = 2
    · replace hf := (if_pos c2).symm.trans hf
      refine lv_tableIn (tgt := 38) hx hb d_Stage_finished_4 (by rw [c2]; decide) (by rw [c2]; decide) (by rw [c2]; rfl) (by decide) ?_
      refine lv_iload_n hx hb d_Stage_finished_38 rfl (lv_at hl 1 rfl) ?_
      refine lv_iconst (v := 2) hx hb d_Stage_finished_39 (by decide) ?_
      obtain ⟨r3, M_4, hc5, hf⟩ := hm_bI_some hf
      refine hq_callI (va_runS (As := [.int x1, .int 2]) (rest := []) ⟨hx, hb, hml, hown, hts⟩ (c_Math_floorDiv (l := l) (D := D) (ca := ca) (B := B) (rl := rl)  hc5) (hq_cwS (nn := 2) hts sc_wd_45 sc_wd_46 sc_wd_47 sc_wd_48 (by decide +kernel) rfl rfl ⟨(Nat.le_of_ble_eq_true rfl), (Nat.le_of_ble_eq_true rfl)⟩) (hq_preS hKt hP) rfl rfl hl.1 rfl (lv_room (Nat.le_of_ble_eq_true rfl)) d_Stage_finished_40 ⟨(Nat.le_of_ble_eq_true rfl), (Nat.le_of_ble_eq_true rfl)⟩) hS (fun H locs hP hS => ?_)
      obtain ⟨h9, h8⟩ := Prod.mk.inj (Option.some.inj hf)
      subst h9
      subst h8
      exact W.iret hx hb hr (fun t ht _ => ⟨⟨_, (), rfl, rfl, by subst ht; exact hP⟩, hS.F ht⟩) hS.2.2 d_Stage_finished_43 hlk
    · replace hf := (if_neg c2).symm.trans hf
      by_cases c6 : (M a0 1) = 3
      · replace hf := (if_pos c6).symm.trans hf
        refine lv_tableIn (tgt := 44) hx hb d_Stage_finished_4 (by rw [c6]; decide) (by rw [c6]; decide) (by rw [c6]; rfl) (by decide) ?_
        refine lv_iload_n hx hb d_Stage_finished_44 rfl (lv_at hl 1 rfl) ?_
        refine lv_if_ge (tgt := 53) hx hb d_Stage_finished_45 (by decide) (fun c7 => ?_) (fun c7 => ?_)
        · replace hf := (if_pos c7).symm.trans hf
          refine lv_iload_n hx hb d_Stage_finished_53 rfl (lv_at hl 1 rfl) ?_
          exact w_Stage_finished_54 X _ _ _ _ _ (lv_sub hl [] rfl) hP hS hf
        · replace hf := (if_neg c7).symm.trans hf
          refine lv_iload_n hx hb d_Stage_finished_48 rfl (lv_at hl 1 rfl) ?_
          refine lv_ineg hx hb d_Stage_finished_49 ?_
          refine lv_goto (tgt := 54) hx hb d_Stage_finished_50 (by decide) ?_
          exact w_Stage_finished_54 X _ _ _ _ _ (lv_sub hl [] rfl) hP hS hf
      · replace hf := (if_neg c6).symm.trans hf
        have tc1 := lv_neT c1 (a := 1) (by decide)
        have tc2 := lv_neT c2 (a := 2) (by decide)
        have tc6 := lv_neT c6 (a := 3) (by decide)
        refine lv_tableOut (tgt := 55) hx hb d_Stage_finished_4 (by omega) (by decide) ?_
        refine lv_iload_n hx hb d_Stage_finished_55 rfl (lv_at hl 1 rfl) ?_
        obtain ⟨h9, h8⟩ := Prod.mk.inj (Option.some.inj hf)
        subst h9
        subst h8
        exact W.iret hx hb hr (fun t ht _ => ⟨⟨_, (), rfl, rfl, by subst ht; exact hP⟩, hS.F ht⟩) hS.2.2 d_Stage_finished_56 hlk
set_option maxHeartbeats 4000000 in
set_option maxRecDepth 100000 in
theorem c_Stage_finished {l : Launch} {D : va_G} {ca : Nat → ClassId} {B rl : Nat} {r : Int32} {a0 : Nat} {x1 : Int32} (h_a0 : sc_kd a0 = 5) {M M9 : hm_M} (hf : f_Stage_finished M a0 x1 = some (r, M9)) : Met l y_Stage_finished [Cond.code y_Stage_finished b_Stage_finished 2 (some .int)] ({ frames := 1, cells := 0, slots := 0, locals := 22 } : Room) (hq_Pre D sc_cl ca 64 (sc_sh rl) B (sc_ty ca) hq_tb M hm_L0 [.ref (B + a0), .int x1]) (hq_QI D sc_cl ca 64 (sc_sh rl) B r M9 hm_L0) 0 0 (hm_A B 64) := by
  refine Met.ofW (cc := b_Stage_finished) (maxL := 2) (ret := (some .int)) (by decide +kernel) rfl ?_
  intro p e s m args below meth c s₁ Bd hml hv
  obtain ⟨rfl, hP, hK⟩ := hv
  have hl := lv_entry ([.ref (B + a0), .int x1]) (n := 2) (Nat.le_of_ble_eq_true rfl)
  rw [lg_entry_eq]
  generalize (lg_sl ([.ref (B + a0), .int x1]) ++ List.replicate (2 - (lg_sl ([.ref (B + a0), .int x1])).length) Slot.unset).toArray = ls at hl ⊢
  have hl : lv_has ls 2 [(0, .ref (B + a0)), (1, .int x1)] := hl
  exact w_Stage_finished_e ⟨Bd.exec, Bd.bytes, hml, findClass_of_methodNamed Bd.named, Bd.returns, Bd.notSynchronized, hK⟩  _ _ h_a0 _ _ _ _ hl hP va_S.rf hf
