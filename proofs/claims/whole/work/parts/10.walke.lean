set_option maxHeartbeats 4000000 in
set_option maxRecDepth 100000 in
theorem w_SC_forgetCompiled_e {p : Program} {l : Launch} {e : Env} {s : State} {m : MethodId} {args : Array Value} {below : List Frame} {meth : Method} {c : Code} {D : va_G} {ca : Nat → ClassId} {B rl : Nat} {M9 : hm_M} (X : hq_X p s m args meth c b_SC_forgetCompiled R_SC 1 none D sc_cl (sc_ty ca) hq_tb) : ∀ (M : hm_M) (H : Heap) (locs : List Loc) (ls : Array Slot), lv_has ls 1 [(0, .ref (B + 0))] → hm_P D sc_cl ca 64 (sc_sh rl) B M hm_L0 H → va_S (hm_A B 64) s.heap H locs → f_SC_forgetCompiled M = some M9 → W p l e ({ frames := 0, cells := 0, slots := 0, locals := 0 } : Room) s m args below meth c H locs 0 0 (MQ below (hq_QV D sc_cl ca 64 (sc_sh rl) B M9 hm_L0) args s 0 0 (hm_A B 64)) (F0 m 0 ls []) := by
  obtain ⟨hx, hb, hml, hown, hr, hlk, hKt⟩ := id X
  have hK := hKt.1
  have hts : ∀ w ∈ hq_tb, w.before args s = true := fun w h => hKt.2.2 w h args
  intro  M H locs ls hl hP hS hf
  unfold f_SC_forgetCompiled at hf
  refine lv_aload_n hx hb d_SC_forgetCompiled_0 rfl (lv_at hl 0 rfl) ?_
  refine lv_iconst (v := 0) hx hb d_SC_forgetCompiled_1 (by decide) ?_
  refine hq_put hx hb hts i_SC t_SC t_SC_ok n_SC hown hK hP hS 0 (by decide) (sc_s_SC (rfl)) rfl 3 (by decide) (hts _ sc_wd_172) (fun _ h => h) rfl (ty := .boolean) (x := 0) (by decide +kernel) rfl rfl rfl d_SC_forgetCompiled_2 (fun H locs hP hS => ?_)
  obtain ⟨M_1, e_1, hf⟩ := hm_st_some hf
  rw [← e_1] at hP
  refine lv_aload_n hx hb d_SC_forgetCompiled_5 rfl (lv_at hl 0 rfl) ?_
  refine lv_iconst (v := 0) hx hb d_SC_forgetCompiled_6 (by decide) ?_
  refine hq_put hx hb hts i_SC t_SC t_SC_ok n_SC hown hK hP hS 0 (by decide) (sc_s_SC (rfl)) rfl 4 (by decide) (hts _ sc_wd_173) (fun _ h => h) rfl (ty := .boolean) (x := 0) (by decide +kernel) rfl rfl rfl d_SC_forgetCompiled_7 (fun H locs hP hS => ?_)
  obtain ⟨M_2, e_2, hf⟩ := hm_st_some hf
  rw [← e_2] at hP
  have h8 := Option.some.inj hf
  subst h8
  exact W.vret hx hb hr (fun t ht _ => ⟨⟨(), rfl, trivial, by subst ht; exact hP⟩, hS.F ht⟩) hS.2.2 d_SC_forgetCompiled_10 hlk
set_option maxHeartbeats 4000000 in
set_option maxRecDepth 100000 in
theorem c_SC_forgetCompiled {l : Launch} {D : va_G} {ca : Nat → ClassId} {B rl : Nat} {M M9 : hm_M} (hf : f_SC_forgetCompiled M  = some M9) : Met l y_SC_forgetCompiled [Cond.code y_SC_forgetCompiled b_SC_forgetCompiled 1 none] ({ frames := 0, cells := 0, slots := 0, locals := 0 } : Room) (hq_Pre D sc_cl ca 64 (sc_sh rl) B (sc_ty ca) hq_tb M hm_L0 [.ref (B + 0)]) (hq_QV D sc_cl ca 64 (sc_sh rl) B M9 hm_L0) 0 0 (hm_A B 64) := by
  refine Met.ofW (cc := b_SC_forgetCompiled) (maxL := 1) (ret := none) (by decide +kernel) rfl ?_
  intro p e s m args below meth c s₁ Bd hml hv
  obtain ⟨rfl, hP, hK⟩ := hv
  have hl := lv_entry ([.ref (B + 0)]) (n := 1) (Nat.le_of_ble_eq_true rfl)
  rw [lg_entry_eq]
  generalize (lg_sl ([.ref (B + 0)]) ++ List.replicate (1 - (lg_sl ([.ref (B + 0)])).length) Slot.unset).toArray = ls at hl ⊢
  have hl : lv_has ls 1 [(0, .ref (B + 0))] := hl
  exact w_SC_forgetCompiled_e ⟨Bd.exec, Bd.bytes, hml, findClass_of_methodNamed Bd.named, Bd.returns, Bd.notSynchronized, hK⟩   _ _ _ _ hl hP va_S.rf hf
set_option maxHeartbeats 4000000 in
set_option maxRecDepth 100000 in
theorem w_SC_input_16 {p : Program} {l : Launch} {e : Env} {s : State} {m : MethodId} {args : Array Value} {below : List Frame} {meth : Method} {c : Code} {D : va_G} {ca : Nat → ClassId} {B rl : Nat} {r : Int32} {M9 : hm_M} (X : hq_X p s m args meth c b_SC_input R_SC 3 (some .int) D sc_cl (sc_ty ca) hq_tb) : ∀ (M : hm_M) (H : Heap) (locs : List Loc) (ls : Array Slot), lv_has ls 3 [] → hm_P D sc_cl ca 64 (sc_sh rl) B M hm_L0 H → va_S (hm_A B 64) s.heap H locs → f_SC_input_16 rl M = some (r, M9) → W p l e ({ frames := 1, cells := 0, slots := 0, locals := 20 } : Room) s m args below meth c H locs 0 0 (MQ below (hq_QI D sc_cl ca 64 (sc_sh rl) B r M9 hm_L0) args s 0 0 (hm_A B 64)) (F0 m 16 ls []) := by
  obtain ⟨hx, hb, hml, hown, hr, hlk, hKt⟩ := id X
  have hK := hKt.1
  have hts : ∀ w ∈ hq_tb, w.before args s = true := fun w h => hKt.2.2 w h args
  intro  M H locs ls hl hP hS hf
  unfold f_SC_input_16 at hf
  refine lv_iconst (v := (-1)) hx hb d_SC_input_16 (by decide) ?_
  obtain ⟨h9, h8⟩ := Prod.mk.inj (Option.some.inj hf)
  subst h9
  subst h8
  exact W.iret hx hb hr (fun t ht _ => ⟨⟨_, (), rfl, rfl, by subst ht; exact hP⟩, hS.F ht⟩) hS.2.2 d_SC_input_17 hlk
set_option maxHeartbeats 4000000 in
set_option maxRecDepth 100000 in
theorem w_SC_input_e {p : Program} {l : Launch} {e : Env} {s : State} {m : MethodId} {args : Array Value} {below : List Frame} {meth : Method} {c : Code} {D : va_G} {ca : Nat → ClassId} {B rl : Nat} {r : Int32} {M9 : hm_M} (X : hq_X p s m args meth c b_SC_input R_SC 3 (some .int) D sc_cl (sc_ty ca) hq_tb) : ∀ (x1 : Int32), ∀ (x2 : Int32), ∀ (M : hm_M) (H : Heap) (locs : List Loc) (ls : Array Slot), lv_has ls 3 [(0, .ref (B + 0)), (1, .int x1), (2, .int x2)] → hm_P D sc_cl ca 64 (sc_sh rl) B M hm_L0 H → va_S (hm_A B 64) s.heap H locs → f_SC_input rl M x1 x2 = some (r, M9) → W p l e ({ frames := 1, cells := 0, slots := 0, locals := 20 } : Room) s m args below meth c H locs 0 0 (MQ below (hq_QI D sc_cl ca 64 (sc_sh rl) B r M9 hm_L0) args s 0 0 (hm_A B 64)) (F0 m 0 ls []) := by
  obtain ⟨hx, hb, hml, hown, hr, hlk, hKt⟩ := id X
  have hK := hKt.1
  have hts : ∀ w ∈ hq_tb, w.before args s = true := fun w h => hKt.2.2 w h args
  intro x1 x2 M H locs ls hl hP hS hf
  unfold f_SC_input at hf
  refine lv_iload_n hx hb d_SC_input_0 rfl (lv_at hl 1 rfl) ?_
  refine lv_if_lt (tgt := 16) hx hb d_SC_input_1 (by decide) (fun c1 => ?_) (fun c1 => ?_)
  · replace hf := (if_pos c1).symm.trans hf
    exact w_SC_input_16 X _ _ _ _ (lv_sub hl [] rfl) hP hS hf
  · replace hf := (if_neg c1).symm.trans hf
    refine lv_iload_n hx hb d_SC_input_4 rfl (lv_at hl 1 rfl) ?_
    refine lv_aload_n hx hb d_SC_input_5 rfl (lv_at hl 0 rfl) ?_
    refine hq_get hx hb hts i_SC hown hK hP 0 (by decide) (sc_s_SC (rfl)) rfl 0 (by decide) (hts _ sc_wd_174) (fun _ h => h) (v := .ref (B + 1)) rfl d_SC_input_6 ?_
    refine hq_getN hx hb hts i_Pipe hown hK hP 1 (by decide) (sc_s_Pipe (rfl)) rfl 0 (by decide) (hts _ sc_wd_175) (fun _ h => h) (v := .ref (B + 4)) rfl d_SC_input_9 ?_
    refine hq_alen hx hb hK hP 4 (by decide) (sc_s_row (rfl)) 0 rfl (v := (nI rl)) rfl d_SC_input_12 ?_
    refine lv_icmp_lt (tgt := 18) hx hb d_SC_input_13 (by decide) (fun c2 => ?_) (fun c2 => ?_)
    · replace hf := (if_pos c2).symm.trans hf
      refine lv_aload_n hx hb d_SC_input_18 rfl (lv_at hl 0 rfl) ?_
      refine hq_get hx hb hts i_SC hown hK hP 0 (by decide) (sc_s_SC (rfl)) rfl 0 (by decide) (hts _ sc_wd_174) (fun _ h => h) (v := .ref (B + 1)) rfl d_SC_input_19 ?_
      refine hq_getN hx hb hts i_Pipe hown hK hP 1 (by decide) (sc_s_Pipe (rfl)) rfl 0 (by decide) (hts _ sc_wd_175) (fun _ h => h) (v := .ref (B + 4)) rfl d_SC_input_22 ?_
      refine lv_iload_n hx hb d_SC_input_25 rfl (lv_at hl 1 rfl) ?_
      refine lv_iload_n hx hb d_SC_input_26 rfl (lv_at hl 2 rfl) ?_
      obtain ⟨g3, hf⟩ := hm_gd_some hf
      refine hq_iast hx hb hK hP hS 4 (by decide) (sc_s_row (rfl)) 0 rfl g3 d_SC_input_27 (fun H locs hP hS => ?_)
      obtain ⟨M_4, e_4, hf⟩ := hm_st_some hf
      rw [← e_4] at hP
      refine lv_aload_n hx hb d_SC_input_28 rfl (lv_at hl 0 rfl) ?_
      obtain ⟨M_6, hc7, hf⟩ := hm_bV_some hf
      refine hq_callV (va_runV (As := []) (rest := []) ⟨hx, hb, hml, hown, hts⟩ (c_SC_forgetCompiled (l := l) (D := D) (ca := ca) (B := B) (rl := rl)  hc7) (hq_cwV (nn := 0) hts sc_wd_176 sc_wd_177 sc_wd_178 sc_wd_179 sc_wd_180 (by decide +kernel) rfl rfl ⟨(Nat.le_of_ble_eq_true rfl), (Nat.le_of_ble_eq_true rfl)⟩) (hq_preV hKt hP (by decide) (sc_s_SC (rfl)) rfl) rfl rfl hl.1 rfl (lv_room (Nat.le_of_ble_eq_true rfl)) d_SC_input_29 ⟨(Nat.le_of_ble_eq_true rfl), (Nat.le_of_ble_eq_true rfl)⟩) hS (fun H locs hP hS => ?_)
      refine lv_iconst (v := 0) hx hb d_SC_input_32 (by decide) ?_
      obtain ⟨h9, h8⟩ := Prod.mk.inj (Option.some.inj hf)
      subst h9
      subst h8
      exact W.iret hx hb hr (fun t ht _ => ⟨⟨_, (), rfl, rfl, by subst ht; exact hP⟩, hS.F ht⟩) hS.2.2 d_SC_input_33 hlk
    · replace hf := (if_neg c2).symm.trans hf
      exact w_SC_input_16 X _ _ _ _ (lv_sub hl [] rfl) hP hS hf
set_option maxHeartbeats 4000000 in
set_option maxRecDepth 100000 in
theorem c_SC_input {l : Launch} {D : va_G} {ca : Nat → ClassId} {B rl : Nat} {r : Int32} {x1 : Int32} {x2 : Int32} {M M9 : hm_M} (hf : f_SC_input rl M x1 x2 = some (r, M9)) : Met l y_SC_input [Cond.code y_SC_input b_SC_input 3 (some .int)] ({ frames := 1, cells := 0, slots := 0, locals := 20 } : Room) (hq_Pre D sc_cl ca 64 (sc_sh rl) B (sc_ty ca) hq_tb M hm_L0 [.ref (B + 0), .int x1, .int x2]) (hq_QI D sc_cl ca 64 (sc_sh rl) B r M9 hm_L0) 0 0 (hm_A B 64) := by
  refine Met.ofW (cc := b_SC_input) (maxL := 3) (ret := (some .int)) (by decide +kernel) rfl ?_
  intro p e s m args below meth c s₁ Bd hml hv
  obtain ⟨rfl, hP, hK⟩ := hv
  have hl := lv_entry ([.ref (B + 0), .int x1, .int x2]) (n := 3) (Nat.le_of_ble_eq_true rfl)
  rw [lg_entry_eq]
  generalize (lg_sl ([.ref (B + 0), .int x1, .int x2]) ++ List.replicate (3 - (lg_sl ([.ref (B + 0), .int x1, .int x2])).length) Slot.unset).toArray = ls at hl ⊢
  have hl : lv_has ls 3 [(0, .ref (B + 0)), (1, .int x1), (2, .int x2)] := hl
  exact w_SC_input_e ⟨Bd.exec, Bd.bytes, hml, findClass_of_methodNamed Bd.named, Bd.returns, Bd.notSynchronized, hK⟩  _ _ _ _ _ _ hl hP va_S.rf hf
set_option maxHeartbeats 4000000 in
set_option maxRecDepth 100000 in
theorem w_SC_stage_9 {p : Program} {l : Launch} {e : Env} {s : State} {m : MethodId} {args : Array Value} {below : List Frame} {meth : Method} {c : Code} {D : va_G} {ca : Nat → ClassId} {B rl : Nat} {r : Int32} {M9 : hm_M} (X : hq_X p s m args meth c b_SC_stage R_SC 4 (some .int) D sc_cl (sc_ty ca) hq_tb) : ∀ (M : hm_M) (H : Heap) (locs : List Loc) (ls : Array Slot), lv_has ls 4 [] → hm_P D sc_cl ca 64 (sc_sh rl) B M hm_L0 H → va_S (hm_A B 64) s.heap H locs → f_SC_stage_9 M = some (r, M9) → W p l e ({ frames := 1, cells := 0, slots := 0, locals := 23 } : Room) s m args below meth c H locs 0 0 (MQ below (hq_QI D sc_cl ca 64 (sc_sh rl) B r M9 hm_L0) args s 0 0 (hm_A B 64)) (F0 m 9 ls []) := by
  obtain ⟨hx, hb, hml, hown, hr, hlk, hKt⟩ := id X
  have hK := hKt.1
  have hts : ∀ w ∈ hq_tb, w.before args s = true := fun w h => hKt.2.2 w h args
  intro  M H locs ls hl hP hS hf
  unfold f_SC_stage_9 at hf
  refine lv_iconst (v := (-1)) hx hb d_SC_stage_9 (by decide) ?_
  obtain ⟨h9, h8⟩ := Prod.mk.inj (Option.some.inj hf)
  subst h9
  subst h8
  exact W.iret hx hb hr (fun t ht _ => ⟨⟨_, (), rfl, rfl, by subst ht; exact hP⟩, hS.F ht⟩) hS.2.2 d_SC_stage_10 hlk
set_option maxHeartbeats 4000000 in
set_option maxRecDepth 100000 in
theorem w_SC_stage_e {p : Program} {l : Launch} {e : Env} {s : State} {m : MethodId} {args : Array Value} {below : List Frame} {meth : Method} {c : Code} {D : va_G} {ca : Nat → ClassId} {B rl : Nat} {r : Int32} {M9 : hm_M} (X : hq_X p s m args meth c b_SC_stage R_SC 4 (some .int) D sc_cl (sc_ty ca) hq_tb) : ∀ (x1 : Int32), ∀ (x2 : Int32), ∀ (M : hm_M) (H : Heap) (locs : List Loc) (ls : Array Slot), lv_has ls 4 [(0, .ref (B + 0)), (1, .int x1), (2, .int x2)] → hm_P D sc_cl ca 64 (sc_sh rl) B M hm_L0 H → va_S (hm_A B 64) s.heap H locs → f_SC_stage M x1 x2 = some (r, M9) → W p l e ({ frames := 1, cells := 0, slots := 0, locals := 23 } : Room) s m args below meth c H locs 0 0 (MQ below (hq_QI D sc_cl ca 64 (sc_sh rl) B r M9 hm_L0) args s 0 0 (hm_A B 64)) (F0 m 0 ls []) := by
  obtain ⟨hx, hb, hml, hown, hr, hlk, hKt⟩ := id X
  have hK := hKt.1
  have hts : ∀ w ∈ hq_tb, w.before args s = true := fun w h => hKt.2.2 w h args
  intro x1 x2 M H locs ls hl hP hS hf
  unfold f_SC_stage at hf
  refine lv_iload_n hx hb d_SC_stage_0 rfl (lv_at hl 2 rfl) ?_
  refine lv_if_lt (tgt := 9) hx hb d_SC_stage_1 (by decide) (fun c1 => ?_) (fun c1 => ?_)
  · replace hf := (if_pos c1).symm.trans hf
    exact w_SC_stage_9 X _ _ _ _ (lv_sub hl [] rfl) hP hS hf
  · replace hf := (if_neg c1).symm.trans hf
    refine lv_iload_n hx hb d_SC_stage_4 rfl (lv_at hl 2 rfl) ?_
    refine lv_iconst (v := 3) hx hb d_SC_stage_5 (by decide) ?_
    refine lv_icmp_le (tgt := 11) hx hb d_SC_stage_6 (by decide) (fun c2 => ?_) (fun c2 => ?_)
    · replace hf := (if_pos c2).symm.trans hf
      refine lv_aload_n hx hb d_SC_stage_11 rfl (lv_at hl 0 rfl) ?_
      refine hq_get hx hb hts i_SC hown hK hP 0 (by decide) (sc_s_SC (rfl)) rfl 0 (by decide) (hts _ sc_wd_174) (fun _ h => h) (v := .ref (B + 1)) rfl d_SC_stage_12 ?_
      refine hq_getN hx hb hts i_Pipe hown hK hP 1 (by decide) (sc_s_Pipe (rfl)) rfl 3 (by decide) (hts _ sc_wd_181) (fun _ h => h) (v := .int (M 1 3)) rfl d_SC_stage_15 ?_
      refine lv_bipush (v := 8) hx hb d_SC_stage_18 (by decide) ?_
      refine lv_icmp_ne (tgt := 26) hx hb d_SC_stage_20 (by decide) (fun c3 => ?_) (fun c3 => ?_)
      · replace hf := (if_neg c3).symm.trans hf
        refine lv_aload_n hx hb d_SC_stage_26 rfl (lv_at hl 0 rfl) ?_
        refine hq_get hx hb hts i_SC hown hK hP 0 (by decide) (sc_s_SC (rfl)) rfl 0 (by decide) (hts _ sc_wd_174) (fun _ h => h) (v := .ref (B + 1)) rfl d_SC_stage_27 ?_
        refine lv_iload_n hx hb d_SC_stage_30 rfl (lv_at hl 1 rfl) ?_
        refine lv_iload_n hx hb d_SC_stage_31 rfl (lv_at hl 2 rfl) ?_
        obtain ⟨r4, M_5, hc6, hf⟩ := hm_bI_some hf
        refine hq_callI (va_runVN (As := [.int x1, .int x2]) (rest := []) ⟨hx, hb, hml, hown, hts⟩ (c_Pipe_addStage (l := l) (D := D) (ca := ca) (B := B) (rl := rl)  hc6) (hq_cwN (nn := 2) hts sc_wd_182 sc_wd_31 sc_wd_183 sc_wd_184 sc_wd_185 (by decide +kernel) rfl rfl ⟨(Nat.le_of_ble_eq_true rfl), (Nat.le_of_ble_eq_true rfl)⟩) (hq_preV hKt hP (by decide) (sc_s_Pipe (rfl)) rfl) rfl rfl hl.1 rfl (lv_room (Nat.le_of_ble_eq_true rfl)) d_SC_stage_32 ⟨(Nat.le_of_ble_eq_true rfl), (Nat.le_of_ble_eq_true rfl)⟩) hS (fun H locs hP hS => ?_)
        refine lv_istore_n (lv' := [(3, .int r4), (0, .ref (B + 0)), (1, .int x1), (2, .int x2)]) hx hb d_SC_stage_35 rfl hl (by decide) rfl (fun ls hl => ?_)
        refine lv_aload_n hx hb d_SC_stage_36 rfl (lv_at hl 1 rfl) ?_
        obtain ⟨M_8, hc9, hf⟩ := hm_bV_some hf
        refine hq_callV (va_runV (As := []) (rest := []) ⟨hx, hb, hml, hown, hts⟩ (c_SC_forgetCompiled (l := l) (D := D) (ca := ca) (B := B) (rl := rl)  hc9) (hq_cwV (nn := 0) hts sc_wd_176 sc_wd_177 sc_wd_178 sc_wd_179 sc_wd_180 (by decide +kernel) rfl rfl ⟨(Nat.le_of_ble_eq_true rfl), (Nat.le_of_ble_eq_true rfl)⟩) (hq_preV hKt hP (by decide) (sc_s_SC (rfl)) rfl) rfl rfl hl.1 rfl (lv_room (Nat.le_of_ble_eq_true rfl)) d_SC_stage_37 ⟨(Nat.le_of_ble_eq_true rfl), (Nat.le_of_ble_eq_true rfl)⟩) hS (fun H locs hP hS => ?_)
        refine lv_iload_n hx hb d_SC_stage_40 rfl (lv_at hl 0 rfl) ?_
        obtain ⟨h9, h8⟩ := Prod.mk.inj (Option.some.inj hf)
        subst h9
        subst h8
        exact W.iret hx hb hr (fun t ht _ => ⟨⟨_, (), rfl, rfl, by subst ht; exact hP⟩, hS.F ht⟩) hS.2.2 d_SC_stage_41 hlk
      · replace hf := (if_pos c3).symm.trans hf
        refine lv_bipush (v := (-2)) hx hb d_SC_stage_23 (by decide) ?_
        obtain ⟨h9, h8⟩ := Prod.mk.inj (Option.some.inj hf)
        subst h9
        subst h8
        exact W.iret hx hb hr (fun t ht _ => ⟨⟨_, (), rfl, rfl, by subst ht; exact hP⟩, hS.F ht⟩) hS.2.2 d_SC_stage_25 hlk
    · replace hf := (if_neg c2).symm.trans hf
      exact w_SC_stage_9 X _ _ _ _ (lv_sub hl [] rfl) hP hS hf
set_option maxHeartbeats 4000000 in
set_option maxRecDepth 100000 in
theorem c_SC_stage {l : Launch} {D : va_G} {ca : Nat → ClassId} {B rl : Nat} {r : Int32} {x1 : Int32} {x2 : Int32} {M M9 : hm_M} (hf : f_SC_stage M x1 x2 = some (r, M9)) : Met l y_SC_stage [Cond.code y_SC_stage b_SC_stage 4 (some .int)] ({ frames := 1, cells := 0, slots := 0, locals := 23 } : Room) (hq_Pre D sc_cl ca 64 (sc_sh rl) B (sc_ty ca) hq_tb M hm_L0 [.ref (B + 0), .int x1, .int x2]) (hq_QI D sc_cl ca 64 (sc_sh rl) B r M9 hm_L0) 0 0 (hm_A B 64) := by
  refine Met.ofW (cc := b_SC_stage) (maxL := 4) (ret := (some .int)) (by decide +kernel) rfl ?_
  intro p e s m args below meth c s₁ Bd hml hv
  obtain ⟨rfl, hP, hK⟩ := hv
  have hl := lv_entry ([.ref (B + 0), .int x1, .int x2]) (n := 4) (Nat.le_of_ble_eq_true rfl)
  rw [lg_entry_eq]
  generalize (lg_sl ([.ref (B + 0), .int x1, .int x2]) ++ List.replicate (4 - (lg_sl ([.ref (B + 0), .int x1, .int x2])).length) Slot.unset).toArray = ls at hl ⊢
  have hl : lv_has ls 4 [(0, .ref (B + 0)), (1, .int x1), (2, .int x2)] := hl
  exact w_SC_stage_e ⟨Bd.exec, Bd.bytes, hml, findClass_of_methodNamed Bd.named, Bd.returns, Bd.notSynchronized, hK⟩  _ _ _ _ _ _ hl hP va_S.rf hf
set_option maxHeartbeats 4000000 in
set_option maxRecDepth 100000 in
theorem w_SC_tap_32 {p : Program} {l : Launch} {e : Env} {s : State} {m : MethodId} {args : Array Value} {below : List Frame} {meth : Method} {c : Code} {D : va_G} {ca : Nat → ClassId} {B rl : Nat} {r : Int32} {M9 : hm_M} (X : hq_X p s m args meth c b_SC_tap R_SC 6 (some .int) D sc_cl (sc_ty ca) hq_tb) : ∀ (M : hm_M) (H : Heap) (locs : List Loc) (ls : Array Slot), lv_has ls 6 [] → hm_P D sc_cl ca 64 (sc_sh rl) B M hm_L0 H → va_S (hm_A B 64) s.heap H locs → f_SC_tap_32 M = some (r, M9) → W p l e ({ frames := 1, cells := 0, slots := 0, locals := 23 } : Room) s m args below meth c H locs 0 0 (MQ below (hq_QI D sc_cl ca 64 (sc_sh rl) B r M9 hm_L0) args s 0 0 (hm_A B 64)) (F0 m 32 ls []) := by
  obtain ⟨hx, hb, hml, hown, hr, hlk, hKt⟩ := id X
  have hK := hKt.1
  have hts : ∀ w ∈ hq_tb, w.before args s = true := fun w h => hKt.2.2 w h args
  intro  M H locs ls hl hP hS hf
  unfold f_SC_tap_32 at hf
  refine lv_iconst (v := (-1)) hx hb d_SC_tap_32 (by decide) ?_
  obtain ⟨h9, h8⟩ := Prod.mk.inj (Option.some.inj hf)
  subst h9
  subst h8
  exact W.iret hx hb hr (fun t ht _ => ⟨⟨_, (), rfl, rfl, by subst ht; exact hP⟩, hS.F ht⟩) hS.2.2 d_SC_tap_33 hlk
set_option maxHeartbeats 4000000 in
set_option maxRecDepth 100000 in
theorem w_SC_tap_e {p : Program} {l : Launch} {e : Env} {s : State} {m : MethodId} {args : Array Value} {below : List Frame} {meth : Method} {c : Code} {D : va_G} {ca : Nat → ClassId} {B rl : Nat} {r : Int32} {M9 : hm_M} (X : hq_X p s m args meth c b_SC_tap R_SC 6 (some .int) D sc_cl (sc_ty ca) hq_tb) : ∀ (x1 : Int32), ∀ (x2 : Int32), ∀ (x3 : Int32), ∀ (x4 : Int32), ∀ (M : hm_M) (H : Heap) (locs : List Loc) (ls : Array Slot), lv_has ls 6 [(0, .ref (B + 0)), (1, .int x1), (2, .int x2), (3, .int x3), (4, .int x4)] → hm_P D sc_cl ca 64 (sc_sh rl) B M hm_L0 H → va_S (hm_A B 64) s.heap H locs → f_SC_tap M x1 x2 x3 x4 = some (r, M9) → W p l e ({ frames := 1, cells := 0, slots := 0, locals := 23 } : Room) s m args below meth c H locs 0 0 (MQ below (hq_QI D sc_cl ca 64 (sc_sh rl) B r M9 hm_L0) args s 0 0 (hm_A B 64)) (F0 m 0 ls []) := by
  obtain ⟨hx, hb, hml, hown, hr, hlk, hKt⟩ := id X
  have hK := hKt.1
  have hts : ∀ w ∈ hq_tb, w.before args s = true := fun w h => hKt.2.2 w h args
  intro x1 x2 x3 x4 M H locs ls hl hP hS hf
  unfold f_SC_tap at hf
  refine lv_aload_n hx hb d_SC_tap_0 rfl (lv_at hl 0 rfl) ?_
  refine hq_get hx hb hts i_SC hown hK hP 0 (by decide) (sc_s_SC (rfl)) rfl 0 (by decide) (hts _ sc_wd_174) (fun _ h => h) (v := .ref (B + 1)) rfl d_SC_tap_1 ?_
  refine lv_iload_n hx hb d_SC_tap_4 rfl (lv_at hl 1 rfl) ?_
  obtain ⟨r1, M_2, hc3, hf⟩ := hm_bI_some hf
  refine hq_callI (va_runVN (As := [.int x1]) (rest := []) ⟨hx, hb, hml, hown, hts⟩ (c_Pipe_hasStage (l := l) (D := D) (ca := ca) (B := B) (rl := rl)  hc3) (hq_cwN (nn := 1) hts sc_wd_186 sc_wd_31 sc_wd_187 sc_wd_188 sc_wd_189 (by decide +kernel) rfl rfl ⟨(Nat.le_of_ble_eq_true rfl), (Nat.le_of_ble_eq_true rfl)⟩) (hq_preV hKt hP (by decide) (sc_s_Pipe (rfl)) rfl) rfl rfl hl.1 rfl (lv_room (Nat.le_of_ble_eq_true rfl)) d_SC_tap_5 ⟨(Nat.le_of_ble_eq_true rfl), (Nat.le_of_ble_eq_true rfl)⟩) hS (fun H locs hP hS => ?_)
  refine lv_if_eq (tgt := 32) hx hb d_SC_tap_8 (by decide) (fun c4 => ?_) (fun c4 => ?_)
  · replace hf := (if_pos c4).symm.trans hf
    exact w_SC_tap_32 X _ _ _ _ (lv_sub hl [] rfl) hP hS hf
  · replace hf := (if_neg c4).symm.trans hf
    refine lv_iload_n hx hb d_SC_tap_11 rfl (lv_at hl 2 rfl) ?_
    refine lv_iconst (v := (-1)) hx hb d_SC_tap_12 (by decide) ?_
    refine lv_icmp_lt (tgt := 32) hx hb d_SC_tap_13 (by decide) (fun c5 => ?_) (fun c5 => ?_)
    · replace hf := (if_pos c5).symm.trans hf
      exact w_SC_tap_32 X _ _ _ _ (lv_sub hl [] rfl) hP hS hf
    · replace hf := (if_neg c5).symm.trans hf
      refine lv_iload_n hx hb d_SC_tap_16 rfl (lv_at hl 2 rfl) ?_
      refine lv_iload_n hx hb d_SC_tap_17 rfl (lv_at hl 1 rfl) ?_
      refine lv_icmp_ge (tgt := 32) hx hb d_SC_tap_18 (by decide) (fun c6 => ?_) (fun c6 => ?_)
      · replace hf := (if_pos c6).symm.trans hf
        exact w_SC_tap_32 X _ _ _ _ (lv_sub hl [] rfl) hP hS hf
      · replace hf := (if_neg c6).symm.trans hf
        refine lv_iload_n hx hb d_SC_tap_21 rfl (lv_at hl 3 rfl) ?_
        refine lv_bipush (v := (-4)) hx hb d_SC_tap_22 (by decide) ?_
        refine lv_icmp_lt (tgt := 32) hx hb d_SC_tap_24 (by decide) (fun c7 => ?_) (fun c7 => ?_)
        · replace hf := (if_pos c7).symm.trans hf
          exact w_SC_tap_32 X _ _ _ _ (lv_sub hl [] rfl) hP hS hf
        · replace hf := (if_neg c7).symm.trans hf
          refine lv_iload_n hx hb d_SC_tap_27 rfl (lv_at hl 3 rfl) ?_
          refine lv_iconst (v := 4) hx hb d_SC_tap_28 (by decide) ?_
          refine lv_icmp_le (tgt := 34) hx hb d_SC_tap_29 (by decide) (fun c8 => ?_) (fun c8 => ?_)
          · replace hf := (if_pos c8).symm.trans hf
            refine lv_aload_n hx hb d_SC_tap_34 rfl (lv_at hl 0 rfl) ?_
            refine hq_get hx hb hts i_SC hown hK hP 0 (by decide) (sc_s_SC (rfl)) rfl 0 (by decide) (hts _ sc_wd_174) (fun _ h => h) (v := .ref (B + 1)) rfl d_SC_tap_35 ?_
            refine hq_getN hx hb hts i_Pipe hown hK hP 1 (by decide) (sc_s_Pipe (rfl)) rfl 1 (by decide) (hts _ sc_wd_190) (fun _ h => h) (v := .ref (B + 2)) rfl d_SC_tap_38 ?_
            refine lv_iload_n hx hb d_SC_tap_41 rfl (lv_at hl 1 rfl) ?_
            obtain ⟨g9, hf⟩ := hm_gd_some hf
            refine hq_aald hx hb hK hP 2 (by decide) (sc_s_starr (rfl)) 2 rfl rfl g9 d_SC_tap_42 ?_
            refine lv_astore (lv' := [(5, .ref (B + (5 + 4 * x1.toNatClampNeg))), (0, .ref (B + 0)), (1, .int x1), (2, .int x2), (3, .int x3), (4, .int x4)]) hx hb d_SC_tap_43 hl (by decide) rfl (fun ls hl => ?_)
            refine lv_aload hx hb d_SC_tap_45 (lv_at hl 0 rfl) ?_
            refine hq_getN hx hb hts i_Stage hown hK hP (5 + 4 * x1.toNatClampNeg) (sc_lt (sck_st g9) (by decide)) (sc_s_Stage ((sck_st g9))) rfl 3 (by decide) (hts _ sc_wd_191) (fun _ h => h) (v := .int (M_2 (5 + 4 * x1.toNatClampNeg) 3)) rfl d_SC_tap_47 ?_
            refine lv_iconst (v := 4) hx hb d_SC_tap_50 (by decide) ?_
            refine lv_icmp_ne (tgt := 57) hx hb d_SC_tap_51 (by decide) (fun c10 => ?_) (fun c10 => ?_)
            · replace hf := (if_neg c10).symm.trans hf
              refine lv_aload hx hb d_SC_tap_57 (lv_at hl 0 rfl) ?_
              refine lv_iload_n hx hb d_SC_tap_59 rfl (lv_at hl 3 rfl) ?_
              refine lv_iload_n hx hb d_SC_tap_60 rfl (lv_at hl 4 rfl) ?_
              refine lv_iload hx hb d_SC_tap_61 (lv_at hl 5 rfl) ?_
              obtain ⟨M_12, hc13, hf⟩ := hm_bV_some hf
              refine hq_callV (va_runVN (As := [.int x2, .int x3, .int x4]) (rest := []) ⟨hx, hb, hml, hown, hts⟩ (c_Stage_addTap (l := l) (D := D) (ca := ca) (B := B) (rl := rl) (sck_st g9) hc13) (hq_cwN (nn := 3) hts sc_wd_192 sc_wd_138 sc_wd_193 sc_wd_194 sc_wd_195 (by decide +kernel) rfl rfl ⟨(Nat.le_of_ble_eq_true rfl), (Nat.le_of_ble_eq_true rfl)⟩) (hq_preV hKt hP (sc_lt (sck_st g9) (by decide)) (sc_s_Stage ((sck_st g9))) rfl) rfl rfl hl.1 rfl (lv_room (Nat.le_of_ble_eq_true rfl)) d_SC_tap_63 ⟨(Nat.le_of_ble_eq_true rfl), (Nat.le_of_ble_eq_true rfl)⟩) hS (fun H locs hP hS => ?_)
              refine lv_aload_n hx hb d_SC_tap_66 rfl (lv_at hl 1 rfl) ?_
              obtain ⟨M_15, hc16, hf⟩ := hm_bV_some hf
              refine hq_callV (va_runV (As := []) (rest := []) ⟨hx, hb, hml, hown, hts⟩ (c_SC_forgetCompiled (l := l) (D := D) (ca := ca) (B := B) (rl := rl)  hc16) (hq_cwV (nn := 0) hts sc_wd_176 sc_wd_177 sc_wd_178 sc_wd_179 sc_wd_180 (by decide +kernel) rfl rfl ⟨(Nat.le_of_ble_eq_true rfl), (Nat.le_of_ble_eq_true rfl)⟩) (hq_preV hKt hP (by decide) (sc_s_SC (rfl)) rfl) rfl rfl hl.1 rfl (lv_room (Nat.le_of_ble_eq_true rfl)) d_SC_tap_67 ⟨(Nat.le_of_ble_eq_true rfl), (Nat.le_of_ble_eq_true rfl)⟩) hS (fun H locs hP hS => ?_)
              refine lv_aload hx hb d_SC_tap_70 (lv_at hl 0 rfl) ?_
              refine hq_getN hx hb hts i_Stage hown hK hP (5 + 4 * x1.toNatClampNeg) (sc_lt (sck_st g9) (by decide)) (sc_s_Stage ((sck_st g9))) rfl 3 (by decide) (hts _ sc_wd_191) (fun _ h => h) (v := .int (M_15 (5 + 4 * x1.toNatClampNeg) 3)) rfl d_SC_tap_72 ?_
              obtain ⟨h9, h8⟩ := Prod.mk.inj (Option.some.inj hf)
              subst h9
              subst h8
              exact W.iret hx hb hr (fun t ht _ => ⟨⟨_, (), rfl, rfl, by subst ht; exact hP⟩, hS.F ht⟩) hS.2.2 d_SC_tap_75 hlk
            · replace hf := (if_pos c10).symm.trans hf
              refine lv_bipush (v := (-2)) hx hb d_SC_tap_54 (by decide) ?_
              obtain ⟨h9, h8⟩ := Prod.mk.inj (Option.some.inj hf)
              subst h9
              subst h8
              exact W.iret hx hb hr (fun t ht _ => ⟨⟨_, (), rfl, rfl, by subst ht; exact hP⟩, hS.F ht⟩) hS.2.2 d_SC_tap_56 hlk
          · replace hf := (if_neg c8).symm.trans hf
            exact w_SC_tap_32 X _ _ _ _ (lv_sub hl [] rfl) hP hS hf
set_option maxHeartbeats 4000000 in
set_option maxRecDepth 100000 in
theorem c_SC_tap {l : Launch} {D : va_G} {ca : Nat → ClassId} {B rl : Nat} {r : Int32} {x1 : Int32} {x2 : Int32} {x3 : Int32} {x4 : Int32} {M M9 : hm_M} (hf : f_SC_tap M x1 x2 x3 x4 = some (r, M9)) : Met l y_SC_tap [Cond.code y_SC_tap b_SC_tap 6 (some .int)] ({ frames := 1, cells := 0, slots := 0, locals := 23 } : Room) (hq_Pre D sc_cl ca 64 (sc_sh rl) B (sc_ty ca) hq_tb M hm_L0 [.ref (B + 0), .int x1, .int x2, .int x3, .int x4]) (hq_QI D sc_cl ca 64 (sc_sh rl) B r M9 hm_L0) 0 0 (hm_A B 64) := by
  refine Met.ofW (cc := b_SC_tap) (maxL := 6) (ret := (some .int)) (by decide +kernel) rfl ?_
  intro p e s m args below meth c s₁ Bd hml hv
  obtain ⟨rfl, hP, hK⟩ := hv
  have hl := lv_entry ([.ref (B + 0), .int x1, .int x2, .int x3, .int x4]) (n := 6) (Nat.le_of_ble_eq_true rfl)
  rw [lg_entry_eq]
  generalize (lg_sl ([.ref (B + 0), .int x1, .int x2, .int x3, .int x4]) ++ List.replicate (6 - (lg_sl ([.ref (B + 0), .int x1, .int x2, .int x3, .int x4])).length) Slot.unset).toArray = ls at hl ⊢
  have hl : lv_has ls 6 [(0, .ref (B + 0)), (1, .int x1), (2, .int x2), (3, .int x3), (4, .int x4)] := hl
  exact w_SC_tap_e ⟨Bd.exec, Bd.bytes, hml, findClass_of_methodNamed Bd.named, Bd.returns, Bd.notSynchronized, hK⟩  _ _ _ _ _ _ _ _ hl hP va_S.rf hf
set_option maxHeartbeats 4000000 in
set_option maxRecDepth 100000 in
theorem w_SC_mode_20 {p : Program} {l : Launch} {e : Env} {s : State} {m : MethodId} {args : Array Value} {below : List Frame} {meth : Method} {c : Code} {D : va_G} {ca : Nat → ClassId} {B rl : Nat} {r : Int32} {M9 : hm_M} (X : hq_X p s m args meth c b_SC_mode R_SC 3 (some .int) D sc_cl (sc_ty ca) hq_tb) : ∀ (M : hm_M) (H : Heap) (locs : List Loc) (ls : Array Slot), lv_has ls 3 [] → hm_P D sc_cl ca 64 (sc_sh rl) B M hm_L0 H → va_S (hm_A B 64) s.heap H locs → f_SC_mode_20 M = some (r, M9) → W p l e ({ frames := 1, cells := 0, slots := 0, locals := 21 } : Room) s m args below meth c H locs 0 0 (MQ below (hq_QI D sc_cl ca 64 (sc_sh rl) B r M9 hm_L0) args s 0 0 (hm_A B 64)) (F0 m 20 ls []) := by
  obtain ⟨hx, hb, hml, hown, hr, hlk, hKt⟩ := id X
  have hK := hKt.1
  have hts : ∀ w ∈ hq_tb, w.before args s = true := fun w h => hKt.2.2 w h args
  intro  M H locs ls hl hP hS hf
  unfold f_SC_mode_20 at hf
  refine lv_iconst (v := (-1)) hx hb d_SC_mode_20 (by decide) ?_
  obtain ⟨h9, h8⟩ := Prod.mk.inj (Option.some.inj hf)
  subst h9
  subst h8
  exact W.iret hx hb hr (fun t ht _ => ⟨⟨_, (), rfl, rfl, by subst ht; exact hP⟩, hS.F ht⟩) hS.2.2 d_SC_mode_21 hlk
set_option maxHeartbeats 4000000 in
set_option maxRecDepth 100000 in
theorem w_SC_mode_e {p : Program} {l : Launch} {e : Env} {s : State} {m : MethodId} {args : Array Value} {below : List Frame} {meth : Method} {c : Code} {D : va_G} {ca : Nat → ClassId} {B rl : Nat} {r : Int32} {M9 : hm_M} (X : hq_X p s m args meth c b_SC_mode R_SC 3 (some .int) D sc_cl (sc_ty ca) hq_tb) : ∀ (x1 : Int32), ∀ (x2 : Int32), ∀ (M : hm_M) (H : Heap) (locs : List Loc) (ls : Array Slot), lv_has ls 3 [(0, .ref (B + 0)), (1, .int x1), (2, .int x2)] → hm_P D sc_cl ca 64 (sc_sh rl) B M hm_L0 H → va_S (hm_A B 64) s.heap H locs → f_SC_mode M x1 x2 = some (r, M9) → W p l e ({ frames := 1, cells := 0, slots := 0, locals := 21 } : Room) s m args below meth c H locs 0 0 (MQ below (hq_QI D sc_cl ca 64 (sc_sh rl) B r M9 hm_L0) args s 0 0 (hm_A B 64)) (F0 m 0 ls []) := by
  obtain ⟨hx, hb, hml, hown, hr, hlk, hKt⟩ := id X
  have hK := hKt.1
  have hts : ∀ w ∈ hq_tb, w.before args s = true := fun w h => hKt.2.2 w h args
  intro x1 x2 M H locs ls hl hP hS hf
  unfold f_SC_mode at hf
  refine lv_aload_n hx hb d_SC_mode_0 rfl (lv_at hl 0 rfl) ?_
  refine hq_get hx hb hts i_SC hown hK hP 0 (by decide) (sc_s_SC (rfl)) rfl 0 (by decide) (hts _ sc_wd_174) (fun _ h => h) (v := .ref (B + 1)) rfl d_SC_mode_1 ?_
  refine lv_iload_n hx hb d_SC_mode_4 rfl (lv_at hl 1 rfl) ?_
  obtain ⟨r1, M_2, hc3, hf⟩ := hm_bI_some hf
  refine hq_callI (va_runVN (As := [.int x1]) (rest := []) ⟨hx, hb, hml, hown, hts⟩ (c_Pipe_hasStage (l := l) (D := D) (ca := ca) (B := B) (rl := rl)  hc3) (hq_cwN (nn := 1) hts sc_wd_186 sc_wd_31 sc_wd_187 sc_wd_188 sc_wd_189 (by decide +kernel) rfl rfl ⟨(Nat.le_of_ble_eq_true rfl), (Nat.le_of_ble_eq_true rfl)⟩) (hq_preV hKt hP (by decide) (sc_s_Pipe (rfl)) rfl) rfl rfl hl.1 rfl (lv_room (Nat.le_of_ble_eq_true rfl)) d_SC_mode_5 ⟨(Nat.le_of_ble_eq_true rfl), (Nat.le_of_ble_eq_true rfl)⟩) hS (fun H locs hP hS => ?_)
  refine lv_if_eq (tgt := 20) hx hb d_SC_mode_8 (by decide) (fun c4 => ?_) (fun c4 => ?_)
  · replace hf := (if_pos c4).symm.trans hf
    exact w_SC_mode_20 X _ _ _ _ (lv_sub hl [] rfl) hP hS hf
  · replace hf := (if_neg c4).symm.trans hf
    refine lv_iload_n hx hb d_SC_mode_11 rfl (lv_at hl 2 rfl) ?_
    refine lv_if_lt (tgt := 20) hx hb d_SC_mode_12 (by decide) (fun c5 => ?_) (fun c5 => ?_)
    · replace hf := (if_pos c5).symm.trans hf
      exact w_SC_mode_20 X _ _ _ _ (lv_sub hl [] rfl) hP hS hf
    · replace hf := (if_neg c5).symm.trans hf
      refine lv_iload_n hx hb d_SC_mode_15 rfl (lv_at hl 2 rfl) ?_
      refine lv_iconst (v := 2) hx hb d_SC_mode_16 (by decide) ?_
      refine lv_icmp_le (tgt := 22) hx hb d_SC_mode_17 (by decide) (fun c6 => ?_) (fun c6 => ?_)
      · replace hf := (if_pos c6).symm.trans hf
        refine lv_aload_n hx hb d_SC_mode_22 rfl (lv_at hl 0 rfl) ?_
        refine hq_get hx hb hts i_SC hown hK hP 0 (by decide) (sc_s_SC (rfl)) rfl 0 (by decide) (hts _ sc_wd_174) (fun _ h => h) (v := .ref (B + 1)) rfl d_SC_mode_23 ?_
        refine hq_getN hx hb hts i_Pipe hown hK hP 1 (by decide) (sc_s_Pipe (rfl)) rfl 1 (by decide) (hts _ sc_wd_190) (fun _ h => h) (v := .ref (B + 2)) rfl d_SC_mode_26 ?_
        refine lv_iload_n hx hb d_SC_mode_29 rfl (lv_at hl 1 rfl) ?_
        obtain ⟨g7, hf⟩ := hm_gd_some hf
        refine hq_aald hx hb hK hP 2 (by decide) (sc_s_starr (rfl)) 2 rfl rfl g7 d_SC_mode_30 ?_
        refine lv_iload_n hx hb d_SC_mode_31 rfl (lv_at hl 2 rfl) ?_
        refine hq_putN hx hb hts i_Stage t_Stage t_Stage_ok n_Stage hown hK hP hS (5 + 4 * x1.toNatClampNeg) (sc_lt (sck_st g7) (by decide)) (sc_s_Stage ((sck_st g7))) rfl 2 (by decide) (hts _ sc_wd_196) (fun _ h => h) rfl (ty := .int) (x := x2) (by decide +kernel) rfl rfl rfl d_SC_mode_32 (fun H locs hP hS => ?_)
        obtain ⟨M_8, e_8, hf⟩ := hm_st_some hf
        rw [← e_8] at hP
        refine lv_aload_n hx hb d_SC_mode_35 rfl (lv_at hl 0 rfl) ?_
        obtain ⟨M_10, hc11, hf⟩ := hm_bV_some hf
        refine hq_callV (va_runV (As := []) (rest := []) ⟨hx, hb, hml, hown, hts⟩ (c_SC_forgetCompiled (l := l) (D := D) (ca := ca) (B := B) (rl := rl)  hc11) (hq_cwV (nn := 0) hts sc_wd_176 sc_wd_177 sc_wd_178 sc_wd_179 sc_wd_180 (by decide +kernel) rfl rfl ⟨(Nat.le_of_ble_eq_true rfl), (Nat.le_of_ble_eq_true rfl)⟩) (hq_preV hKt hP (by decide) (sc_s_SC (rfl)) rfl) rfl rfl hl.1 rfl (lv_room (Nat.le_of_ble_eq_true rfl)) d_SC_mode_36 ⟨(Nat.le_of_ble_eq_true rfl), (Nat.le_of_ble_eq_true rfl)⟩) hS (fun H locs hP hS => ?_)
        refine lv_iconst (v := 0) hx hb d_SC_mode_39 (by decide) ?_
        obtain ⟨h9, h8⟩ := Prod.mk.inj (Option.some.inj hf)
        subst h9
        subst h8
        exact W.iret hx hb hr (fun t ht _ => ⟨⟨_, (), rfl, rfl, by subst ht; exact hP⟩, hS.F ht⟩) hS.2.2 d_SC_mode_40 hlk
      · replace hf := (if_neg c6).symm.trans hf
        exact w_SC_mode_20 X _ _ _ _ (lv_sub hl [] rfl) hP hS hf
set_option maxHeartbeats 4000000 in
set_option maxRecDepth 100000 in
theorem c_SC_mode {l : Launch} {D : va_G} {ca : Nat → ClassId} {B rl : Nat} {r : Int32} {x1 : Int32} {x2 : Int32} {M M9 : hm_M} (hf : f_SC_mode M x1 x2 = some (r, M9)) : Met l y_SC_mode [Cond.code y_SC_mode b_SC_mode 3 (some .int)] ({ frames := 1, cells := 0, slots := 0, locals := 21 } : Room) (hq_Pre D sc_cl ca 64 (sc_sh rl) B (sc_ty ca) hq_tb M hm_L0 [.ref (B + 0), .int x1, .int x2]) (hq_QI D sc_cl ca 64 (sc_sh rl) B r M9 hm_L0) 0 0 (hm_A B 64) := by
  refine Met.ofW (cc := b_SC_mode) (maxL := 3) (ret := (some .int)) (by decide +kernel) rfl ?_
  intro p e s m args below meth c s₁ Bd hml hv
  obtain ⟨rfl, hP, hK⟩ := hv
  have hl := lv_entry ([.ref (B + 0), .int x1, .int x2]) (n := 3) (Nat.le_of_ble_eq_true rfl)
  rw [lg_entry_eq]
  generalize (lg_sl ([.ref (B + 0), .int x1, .int x2]) ++ List.replicate (3 - (lg_sl ([.ref (B + 0), .int x1, .int x2])).length) Slot.unset).toArray = ls at hl ⊢
  have hl : lv_has ls 3 [(0, .ref (B + 0)), (1, .int x1), (2, .int x2)] := hl
  exact w_SC_mode_e ⟨Bd.exec, Bd.bytes, hml, findClass_of_methodNamed Bd.named, Bd.returns, Bd.notSynchronized, hK⟩  _ _ _ _ _ _ hl hP va_S.rf hf
set_option maxHeartbeats 4000000 in
set_option maxRecDepth 100000 in
theorem w_SC_tile_11 {p : Program} {l : Launch} {e : Env} {s : State} {m : MethodId} {args : Array Value} {below : List Frame} {meth : Method} {c : Code} {D : va_G} {ca : Nat → ClassId} {B rl : Nat} {r : Int32} {M9 : hm_M} (X : hq_X p s m args meth c b_SC_tile R_SC 2 (some .int) D sc_cl (sc_ty ca) hq_tb) : ∀ (M : hm_M) (H : Heap) (locs : List Loc) (ls : Array Slot), lv_has ls 2 [] → hm_P D sc_cl ca 64 (sc_sh rl) B M hm_L0 H → va_S (hm_A B 64) s.heap H locs → f_SC_tile_11 M = some (r, M9) → W p l e ({ frames := 1, cells := 0, slots := 0, locals := 20 } : Room) s m args below meth c H locs 0 0 (MQ below (hq_QI D sc_cl ca 64 (sc_sh rl) B r M9 hm_L0) args s 0 0 (hm_A B 64)) (F0 m 11 ls []) := by
  obtain ⟨hx, hb, hml, hown, hr, hlk, hKt⟩ := id X
  have hK := hKt.1
  have hts : ∀ w ∈ hq_tb, w.before args s = true := fun w h => hKt.2.2 w h args
  intro  M H locs ls hl hP hS hf
  unfold f_SC_tile_11 at hf
  refine lv_iconst (v := (-1)) hx hb d_SC_tile_11 (by decide) ?_
  obtain ⟨h9, h8⟩ := Prod.mk.inj (Option.some.inj hf)
  subst h9
  subst h8
  exact W.iret hx hb hr (fun t ht _ => ⟨⟨_, (), rfl, rfl, by subst ht; exact hP⟩, hS.F ht⟩) hS.2.2 d_SC_tile_12 hlk
set_option maxHeartbeats 4000000 in
set_option maxRecDepth 100000 in
theorem w_SC_tile_e {p : Program} {l : Launch} {e : Env} {s : State} {m : MethodId} {args : Array Value} {below : List Frame} {meth : Method} {c : Code} {D : va_G} {ca : Nat → ClassId} {B rl : Nat} {r : Int32} {M9 : hm_M} (X : hq_X p s m args meth c b_SC_tile R_SC 2 (some .int) D sc_cl (sc_ty ca) hq_tb) : ∀ (x1 : Int32), ∀ (M : hm_M) (H : Heap) (locs : List Loc) (ls : Array Slot), lv_has ls 2 [(0, .ref (B + 0)), (1, .int x1)] → hm_P D sc_cl ca 64 (sc_sh rl) B M hm_L0 H → va_S (hm_A B 64) s.heap H locs → f_SC_tile M x1 = some (r, M9) → W p l e ({ frames := 1, cells := 0, slots := 0, locals := 20 } : Room) s m args below meth c H locs 0 0 (MQ below (hq_QI D sc_cl ca 64 (sc_sh rl) B r M9 hm_L0) args s 0 0 (hm_A B 64)) (F0 m 0 ls []) := by
  obtain ⟨hx, hb, hml, hown, hr, hlk, hKt⟩ := id X
  have hK := hKt.1
  have hts : ∀ w ∈ hq_tb, w.before args s = true := fun w h => hKt.2.2 w h args
  intro x1 M H locs ls hl hP hS hf
  unfold f_SC_tile at hf
  refine lv_iload_n hx hb d_SC_tile_0 rfl (lv_at hl 1 rfl) ?_
  refine lv_iconst (v := 1) hx hb d_SC_tile_1 (by decide) ?_
  refine lv_icmp_lt (tgt := 11) hx hb d_SC_tile_2 (by decide) (fun c1 => ?_) (fun c1 => ?_)
  · replace hf := (if_pos c1).symm.trans hf
    exact w_SC_tile_11 X _ _ _ _ (lv_sub hl [] rfl) hP hS hf
  · replace hf := (if_neg c1).symm.trans hf
    refine lv_iload_n hx hb d_SC_tile_5 rfl (lv_at hl 1 rfl) ?_
    refine lv_bipush (v := 32) hx hb d_SC_tile_6 (by decide) ?_
    refine lv_icmp_le (tgt := 13) hx hb d_SC_tile_8 (by decide) (fun c2 => ?_) (fun c2 => ?_)
    · replace hf := (if_pos c2).symm.trans hf
      refine lv_aload_n hx hb d_SC_tile_13 rfl (lv_at hl 0 rfl) ?_
      refine hq_get hx hb hts i_SC hown hK hP 0 (by decide) (sc_s_SC (rfl)) rfl 0 (by decide) (hts _ sc_wd_174) (fun _ h => h) (v := .ref (B + 1)) rfl d_SC_tile_14 ?_
      refine lv_iload_n hx hb d_SC_tile_17 rfl (lv_at hl 1 rfl) ?_
      refine hq_putN hx hb hts i_Pipe t_Pipe t_Pipe_ok n_Pipe hown hK hP hS 1 (by decide) (sc_s_Pipe (rfl)) rfl 4 (by decide) (hts _ sc_wd_197) (fun _ h => h) rfl (ty := .int) (x := x1) (by decide +kernel) rfl rfl rfl d_SC_tile_18 (fun H locs hP hS => ?_)
      obtain ⟨M_3, e_3, hf⟩ := hm_st_some hf
      rw [← e_3] at hP
      refine lv_aload_n hx hb d_SC_tile_21 rfl (lv_at hl 0 rfl) ?_
      obtain ⟨M_5, hc6, hf⟩ := hm_bV_some hf
      refine hq_callV (va_runV (As := []) (rest := []) ⟨hx, hb, hml, hown, hts⟩ (c_SC_forgetCompiled (l := l) (D := D) (ca := ca) (B := B) (rl := rl)  hc6) (hq_cwV (nn := 0) hts sc_wd_176 sc_wd_177 sc_wd_178 sc_wd_179 sc_wd_180 (by decide +kernel) rfl rfl ⟨(Nat.le_of_ble_eq_true rfl), (Nat.le_of_ble_eq_true rfl)⟩) (hq_preV hKt hP (by decide) (sc_s_SC (rfl)) rfl) rfl rfl hl.1 rfl (lv_room (Nat.le_of_ble_eq_true rfl)) d_SC_tile_22 ⟨(Nat.le_of_ble_eq_true rfl), (Nat.le_of_ble_eq_true rfl)⟩) hS (fun H locs hP hS => ?_)
      refine lv_iconst (v := 0) hx hb d_SC_tile_25 (by decide) ?_
      obtain ⟨h9, h8⟩ := Prod.mk.inj (Option.some.inj hf)
      subst h9
      subst h8
      exact W.iret hx hb hr (fun t ht _ => ⟨⟨_, (), rfl, rfl, by subst ht; exact hP⟩, hS.F ht⟩) hS.2.2 d_SC_tile_26 hlk
    · replace hf := (if_neg c2).symm.trans hf
      exact w_SC_tile_11 X _ _ _ _ (lv_sub hl [] rfl) hP hS hf
set_option maxHeartbeats 4000000 in
set_option maxRecDepth 100000 in
theorem c_SC_tile {l : Launch} {D : va_G} {ca : Nat → ClassId} {B rl : Nat} {r : Int32} {x1 : Int32} {M M9 : hm_M} (hf : f_SC_tile M x1 = some (r, M9)) : Met l y_SC_tile [Cond.code y_SC_tile b_SC_tile 2 (some .int)] ({ frames := 1, cells := 0, slots := 0, locals := 20 } : Room) (hq_Pre D sc_cl ca 64 (sc_sh rl) B (sc_ty ca) hq_tb M hm_L0 [.ref (B + 0), .int x1]) (hq_QI D sc_cl ca 64 (sc_sh rl) B r M9 hm_L0) 0 0 (hm_A B 64) := by
  refine Met.ofW (cc := b_SC_tile) (maxL := 2) (ret := (some .int)) (by decide +kernel) rfl ?_
  intro p e s m args below meth c s₁ Bd hml hv
  obtain ⟨rfl, hP, hK⟩ := hv
  have hl := lv_entry ([.ref (B + 0), .int x1]) (n := 2) (Nat.le_of_ble_eq_true rfl)
  rw [lg_entry_eq]
  generalize (lg_sl ([.ref (B + 0), .int x1]) ++ List.replicate (2 - (lg_sl ([.ref (B + 0), .int x1])).length) Slot.unset).toArray = ls at hl ⊢
  have hl : lv_has ls 2 [(0, .ref (B + 0)), (1, .int x1)] := hl
  exact w_SC_tile_e ⟨Bd.exec, Bd.bytes, hml, findClass_of_methodNamed Bd.named, Bd.returns, Bd.notSynchronized, hK⟩  _ _ _ _ _ hl hP va_S.rf hf
set_option maxHeartbeats 4000000 in
set_option maxRecDepth 100000 in
theorem w_SC_output_22 {p : Program} {l : Launch} {e : Env} {s : State} {m : MethodId} {args : Array Value} {below : List Frame} {meth : Method} {c : Code} {D : va_G} {ca : Nat → ClassId} {B rl : Nat} {r : Int32} {M9 : hm_M} (X : hq_X p s m args meth c b_SC_output R_SC 3 (some .int) D sc_cl (sc_ty ca) hq_tb) : ∀ (M : hm_M) (H : Heap) (locs : List Loc) (ls : Array Slot), lv_has ls 3 [] → hm_P D sc_cl ca 64 (sc_sh rl) B M hm_L0 H → va_S (hm_A B 64) s.heap H locs → f_SC_output_22 M = some (r, M9) → W p l e ({ frames := 1, cells := 0, slots := 0, locals := 21 } : Room) s m args below meth c H locs 0 0 (MQ below (hq_QI D sc_cl ca 64 (sc_sh rl) B r M9 hm_L0) args s 0 0 (hm_A B 64)) (F0 m 22 ls []) := by
  obtain ⟨hx, hb, hml, hown, hr, hlk, hKt⟩ := id X
  have hK := hKt.1
  have hts : ∀ w ∈ hq_tb, w.before args s = true := fun w h => hKt.2.2 w h args
  intro  M H locs ls hl hP hS hf
  unfold f_SC_output_22 at hf
  refine lv_iconst (v := (-1)) hx hb d_SC_output_22 (by decide) ?_
  obtain ⟨h9, h8⟩ := Prod.mk.inj (Option.some.inj hf)
  subst h9
  subst h8
  exact W.iret hx hb hr (fun t ht _ => ⟨⟨_, (), rfl, rfl, by subst ht; exact hP⟩, hS.F ht⟩) hS.2.2 d_SC_output_23 hlk
set_option maxHeartbeats 4000000 in
set_option maxRecDepth 100000 in
theorem w_SC_output_e {p : Program} {l : Launch} {e : Env} {s : State} {m : MethodId} {args : Array Value} {below : List Frame} {meth : Method} {c : Code} {D : va_G} {ca : Nat → ClassId} {B rl : Nat} {r : Int32} {M9 : hm_M} (X : hq_X p s m args meth c b_SC_output R_SC 3 (some .int) D sc_cl (sc_ty ca) hq_tb) : ∀ (x1 : Int32), ∀ (x2 : Int32), ∀ (M : hm_M) (H : Heap) (locs : List Loc) (ls : Array Slot), lv_has ls 3 [(0, .ref (B + 0)), (1, .int x1), (2, .int x2)] → hm_P D sc_cl ca 64 (sc_sh rl) B M hm_L0 H → va_S (hm_A B 64) s.heap H locs → f_SC_output M x1 x2 = some (r, M9) → W p l e ({ frames := 1, cells := 0, slots := 0, locals := 21 } : Room) s m args below meth c H locs 0 0 (MQ below (hq_QI D sc_cl ca 64 (sc_sh rl) B r M9 hm_L0) args s 0 0 (hm_A B 64)) (F0 m 0 ls []) := by
  obtain ⟨hx, hb, hml, hown, hr, hlk, hKt⟩ := id X
  have hK := hKt.1
  have hts : ∀ w ∈ hq_tb, w.before args s = true := fun w h => hKt.2.2 w h args
  intro x1 x2 M H locs ls hl hP hS hf
  unfold f_SC_output at hf
  refine lv_aload_n hx hb d_SC_output_0 rfl (lv_at hl 0 rfl) ?_
  refine hq_get hx hb hts i_SC hown hK hP 0 (by decide) (sc_s_SC (rfl)) rfl 0 (by decide) (hts _ sc_wd_174) (fun _ h => h) (v := .ref (B + 1)) rfl d_SC_output_1 ?_
  refine lv_iload_n hx hb d_SC_output_4 rfl (lv_at hl 1 rfl) ?_
  obtain ⟨r1, M_2, hc3, hf⟩ := hm_bI_some hf
  refine hq_callI (va_runVN (As := [.int x1]) (rest := []) ⟨hx, hb, hml, hown, hts⟩ (c_Pipe_hasStage (l := l) (D := D) (ca := ca) (B := B) (rl := rl)  hc3) (hq_cwN (nn := 1) hts sc_wd_186 sc_wd_31 sc_wd_187 sc_wd_188 sc_wd_189 (by decide +kernel) rfl rfl ⟨(Nat.le_of_ble_eq_true rfl), (Nat.le_of_ble_eq_true rfl)⟩) (hq_preV hKt hP (by decide) (sc_s_Pipe (rfl)) rfl) rfl rfl hl.1 rfl (lv_room (Nat.le_of_ble_eq_true rfl)) d_SC_output_5 ⟨(Nat.le_of_ble_eq_true rfl), (Nat.le_of_ble_eq_true rfl)⟩) hS (fun H locs hP hS => ?_)
  refine lv_if_eq (tgt := 22) hx hb d_SC_output_8 (by decide) (fun c4 => ?_) (fun c4 => ?_)
  · replace hf := (if_pos c4).symm.trans hf
    exact w_SC_output_22 X _ _ _ _ (lv_sub hl [] rfl) hP hS hf
  · replace hf := (if_neg c4).symm.trans hf
    refine lv_iload_n hx hb d_SC_output_11 rfl (lv_at hl 2 rfl) ?_
    refine lv_iconst (v := 1) hx hb d_SC_output_12 (by decide) ?_
    refine lv_icmp_lt (tgt := 22) hx hb d_SC_output_13 (by decide) (fun c5 => ?_) (fun c5 => ?_)
    · replace hf := (if_pos c5).symm.trans hf
      exact w_SC_output_22 X _ _ _ _ (lv_sub hl [] rfl) hP hS hf
    · replace hf := (if_neg c5).symm.trans hf
      refine lv_iload_n hx hb d_SC_output_16 rfl (lv_at hl 2 rfl) ?_
      refine lv_bipush (v := 32) hx hb d_SC_output_17 (by decide) ?_
      refine lv_icmp_le (tgt := 24) hx hb d_SC_output_19 (by decide) (fun c6 => ?_) (fun c6 => ?_)
      · replace hf := (if_pos c6).symm.trans hf
        refine lv_aload_n hx hb d_SC_output_24 rfl (lv_at hl 0 rfl) ?_
        refine hq_get hx hb hts i_SC hown hK hP 0 (by decide) (sc_s_SC (rfl)) rfl 0 (by decide) (hts _ sc_wd_174) (fun _ h => h) (v := .ref (B + 1)) rfl d_SC_output_25 ?_
        refine lv_iload_n hx hb d_SC_output_28 rfl (lv_at hl 1 rfl) ?_
        refine hq_putN hx hb hts i_Pipe t_Pipe t_Pipe_ok n_Pipe hown hK hP hS 1 (by decide) (sc_s_Pipe (rfl)) rfl 5 (by decide) (hts _ sc_wd_198) (fun _ h => h) rfl (ty := .int) (x := x1) (by decide +kernel) rfl rfl rfl d_SC_output_29 (fun H locs hP hS => ?_)
        obtain ⟨M_7, e_7, hf⟩ := hm_st_some hf
        rw [← e_7] at hP
        refine lv_aload_n hx hb d_SC_output_32 rfl (lv_at hl 0 rfl) ?_
        refine hq_get hx hb hts i_SC hown hK hP 0 (by decide) (sc_s_SC (rfl)) rfl 0 (by decide) (hts _ sc_wd_174) (fun _ h => h) (v := .ref (B + 1)) rfl d_SC_output_33 ?_
        refine lv_iload_n hx hb d_SC_output_36 rfl (lv_at hl 2 rfl) ?_
        refine hq_putN hx hb hts i_Pipe t_Pipe t_Pipe_ok n_Pipe hown hK hP hS 1 (by decide) (sc_s_Pipe (rfl)) rfl 6 (by decide) (hts _ sc_wd_199) (fun _ h => h) rfl (ty := .int) (x := x2) (by decide +kernel) rfl rfl rfl d_SC_output_37 (fun H locs hP hS => ?_)
        obtain ⟨M_8, e_8, hf⟩ := hm_st_some hf
        rw [← e_8] at hP
        refine lv_aload_n hx hb d_SC_output_40 rfl (lv_at hl 0 rfl) ?_
        obtain ⟨M_10, hc11, hf⟩ := hm_bV_some hf
        refine hq_callV (va_runV (As := []) (rest := []) ⟨hx, hb, hml, hown, hts⟩ (c_SC_forgetCompiled (l := l) (D := D) (ca := ca) (B := B) (rl := rl)  hc11) (hq_cwV (nn := 0) hts sc_wd_176 sc_wd_177 sc_wd_178 sc_wd_179 sc_wd_180 (by decide +kernel) rfl rfl ⟨(Nat.le_of_ble_eq_true rfl), (Nat.le_of_ble_eq_true rfl)⟩) (hq_preV hKt hP (by decide) (sc_s_SC (rfl)) rfl) rfl rfl hl.1 rfl (lv_room (Nat.le_of_ble_eq_true rfl)) d_SC_output_41 ⟨(Nat.le_of_ble_eq_true rfl), (Nat.le_of_ble_eq_true rfl)⟩) hS (fun H locs hP hS => ?_)
        refine lv_iconst (v := 0) hx hb d_SC_output_44 (by decide) ?_
        obtain ⟨h9, h8⟩ := Prod.mk.inj (Option.some.inj hf)
        subst h9
        subst h8
        exact W.iret hx hb hr (fun t ht _ => ⟨⟨_, (), rfl, rfl, by subst ht; exact hP⟩, hS.F ht⟩) hS.2.2 d_SC_output_45 hlk
      · replace hf := (if_neg c6).symm.trans hf
        exact w_SC_output_22 X _ _ _ _ (lv_sub hl [] rfl) hP hS hf
set_option maxHeartbeats 4000000 in
set_option maxRecDepth 100000 in
theorem c_SC_output {l : Launch} {D : va_G} {ca : Nat → ClassId} {B rl : Nat} {r : Int32} {x1 : Int32} {x2 : Int32} {M M9 : hm_M} (hf : f_SC_output M x1 x2 = some (r, M9)) : Met l y_SC_output [Cond.code y_SC_output b_SC_output 3 (some .int)] ({ frames := 1, cells := 0, slots := 0, locals := 21 } : Room) (hq_Pre D sc_cl ca 64 (sc_sh rl) B (sc_ty ca) hq_tb M hm_L0 [.ref (B + 0), .int x1, .int x2]) (hq_QI D sc_cl ca 64 (sc_sh rl) B r M9 hm_L0) 0 0 (hm_A B 64) := by
  refine Met.ofW (cc := b_SC_output) (maxL := 3) (ret := (some .int)) (by decide +kernel) rfl ?_
  intro p e s m args below meth c s₁ Bd hml hv
  obtain ⟨rfl, hP, hK⟩ := hv
  have hl := lv_entry ([.ref (B + 0), .int x1, .int x2]) (n := 3) (Nat.le_of_ble_eq_true rfl)
  rw [lg_entry_eq]
  generalize (lg_sl ([.ref (B + 0), .int x1, .int x2]) ++ List.replicate (3 - (lg_sl ([.ref (B + 0), .int x1, .int x2])).length) Slot.unset).toArray = ls at hl ⊢
  have hl : lv_has ls 3 [(0, .ref (B + 0)), (1, .int x1), (2, .int x2)] := hl
  exact w_SC_output_e ⟨Bd.exec, Bd.bytes, hml, findClass_of_methodNamed Bd.named, Bd.returns, Bd.notSynchronized, hK⟩  _ _ _ _ _ _ hl hP va_S.rf hf
set_option maxHeartbeats 4000000 in
set_option maxRecDepth 100000 in
theorem w_SC_compile_e {p : Program} {l : Launch} {e : Env} {s : State} {m : MethodId} {args : Array Value} {below : List Frame} {meth : Method} {c : Code} {D : va_G} {ca : Nat → ClassId} {B rl : Nat} {r : Int32} {M9 : hm_M} (X : hq_X p s m args meth c b_SC_compile R_SC 2 (some .int) D sc_cl (sc_ty ca) hq_tb) : ∀ (M : hm_M) (H : Heap) (locs : List Loc) (ls : Array Slot), lv_has ls 2 [(0, .ref (B + 0))] → hm_P D sc_cl ca 64 (sc_sh rl) B M hm_L0 H → va_S (hm_A B 64) s.heap H locs → f_SC_compile M = some (r, M9) → W p l e ({ frames := 6, cells := 0, slots := 0, locals := 135 } : Room) s m args below meth c H locs 0 0 (MQ below (hq_QI D sc_cl ca 64 (sc_sh rl) B r M9 hm_L0) args s 0 0 (hm_A B 64)) (F0 m 0 ls []) := by
  obtain ⟨hx, hb, hml, hown, hr, hlk, hKt⟩ := id X
  have hK := hKt.1
  have hts : ∀ w ∈ hq_tb, w.before args s = true := fun w h => hKt.2.2 w h args
  intro  M H locs ls hl hP hS hf
  unfold f_SC_compile at hf
  refine lv_aload_n hx hb d_SC_compile_0 rfl (lv_at hl 0 rfl) ?_
  refine hq_get hx hb hts i_SC hown hK hP 0 (by decide) (sc_s_SC (rfl)) rfl 3 (by decide) (hts _ sc_wd_172) (fun _ h => h) (v := .int (M 0 3)) rfl d_SC_compile_1 ?_
  refine lv_if_eq (tgt := 10) hx hb d_SC_compile_4 (by decide) (fun c1 => ?_) (fun c1 => ?_)
  · replace hf := (if_pos c1).symm.trans hf
    refine lv_aload_n hx hb d_SC_compile_10 rfl (lv_at hl 0 rfl) ?_
    refine hq_get hx hb hts i_SC hown hK hP 0 (by decide) (sc_s_SC (rfl)) rfl 1 (by decide) (hts _ sc_wd_200) (fun _ h => h) (v := .ref (B + 37)) rfl d_SC_compile_11 ?_
    obtain ⟨r2, M_3, hc4, hf⟩ := hm_bI_some hf
    refine hq_callI (va_runVN (As := []) (rest := []) ⟨hx, hb, hml, hown, hts⟩ (c_Plan_draw (l := l) (D := D) (ca := ca) (B := B) (rl := rl)  hc4) (hq_cwN (nn := 0) hts sc_wd_201 sc_wd_59 sc_wd_202 sc_wd_203 sc_wd_204 (by decide +kernel) rfl rfl ⟨(Nat.le_of_ble_eq_true rfl), (Nat.le_of_ble_eq_true rfl)⟩) (hq_preV hKt hP (by decide) (sc_s_Plan (rfl)) rfl) rfl rfl hl.1 rfl (lv_room (Nat.le_of_ble_eq_true rfl)) d_SC_compile_14 ⟨(Nat.le_of_ble_eq_true rfl), (Nat.le_of_ble_eq_true rfl)⟩) hS (fun H locs hP hS => ?_)
    refine lv_istore_n (lv' := [(1, .int r2), (0, .ref (B + 0))]) hx hb d_SC_compile_17 rfl hl (by decide) rfl (fun ls hl => ?_)
    refine lv_iload_n hx hb d_SC_compile_18 rfl (lv_at hl 0 rfl) ?_
    refine lv_if_eq (tgt := 24) hx hb d_SC_compile_19 (by decide) (fun c5 => ?_) (fun c5 => ?_)
    · replace hf := (if_pos c5).symm.trans hf
      refine lv_aload_n hx hb d_SC_compile_24 rfl (lv_at hl 1 rfl) ?_
      refine lv_iconst (v := 1) hx hb d_SC_compile_25 (by decide) ?_
      refine hq_put hx hb hts i_SC t_SC t_SC_ok n_SC hown hK hP hS 0 (by decide) (sc_s_SC (rfl)) rfl 3 (by decide) (hts _ sc_wd_172) (fun _ h => h) rfl (ty := .boolean) (x := 1) (by decide +kernel) rfl rfl rfl d_SC_compile_26 (fun H locs hP hS => ?_)
      obtain ⟨M_6, e_6, hf⟩ := hm_st_some hf
      rw [← e_6] at hP
      refine lv_aload_n hx hb d_SC_compile_29 rfl (lv_at hl 1 rfl) ?_
      refine hq_get hx hb hts i_SC hown hK hP 0 (by decide) (sc_s_SC (rfl)) rfl 1 (by decide) (hts _ sc_wd_200) (fun _ h => h) (v := .ref (B + 37)) rfl d_SC_compile_30 ?_
      refine hq_getN hx hb hts i_Plan hown hK hP 37 (by decide) (sc_s_Plan (rfl)) rfl 5 (by decide) (hts _ sc_wd_205) (fun _ h => h) (v := .int (M_6 37 5)) rfl d_SC_compile_33 ?_
      obtain ⟨h9, h8⟩ := Prod.mk.inj (Option.some.inj hf)
      subst h9
      subst h8
      exact W.iret hx hb hr (fun t ht _ => ⟨⟨_, (), rfl, rfl, by subst ht; exact hP⟩, hS.F ht⟩) hS.2.2 d_SC_compile_36 hlk
    · replace hf := (if_neg c5).symm.trans hf
      refine lv_iload_n hx hb d_SC_compile_22 rfl (lv_at hl 0 rfl) ?_
      obtain ⟨h9, h8⟩ := Prod.mk.inj (Option.some.inj hf)
      subst h9
      subst h8
      exact W.iret hx hb hr (fun t ht _ => ⟨⟨_, (), rfl, rfl, by subst ht; exact hP⟩, hS.F ht⟩) hS.2.2 d_SC_compile_23 hlk
  · replace hf := (if_neg c1).symm.trans hf
    refine lv_bipush (v := (-3)) hx hb d_SC_compile_7 (by decide) ?_
    obtain ⟨h9, h8⟩ := Prod.mk.inj (Option.some.inj hf)
    subst h9
    subst h8
    exact W.iret hx hb hr (fun t ht _ => ⟨⟨_, (), rfl, rfl, by subst ht; exact hP⟩, hS.F ht⟩) hS.2.2 d_SC_compile_9 hlk
set_option maxHeartbeats 4000000 in
set_option maxRecDepth 100000 in
theorem c_SC_compile {l : Launch} {D : va_G} {ca : Nat → ClassId} {B rl : Nat} {r : Int32} {M M9 : hm_M} (hf : f_SC_compile M  = some (r, M9)) : Met l y_SC_compile [Cond.code y_SC_compile b_SC_compile 2 (some .int)] ({ frames := 6, cells := 0, slots := 0, locals := 135 } : Room) (hq_Pre D sc_cl ca 64 (sc_sh rl) B (sc_ty ca) hq_tb M hm_L0 [.ref (B + 0)]) (hq_QI D sc_cl ca 64 (sc_sh rl) B r M9 hm_L0) 0 0 (hm_A B 64) := by
  refine Met.ofW (cc := b_SC_compile) (maxL := 2) (ret := (some .int)) (by decide +kernel) rfl ?_
  intro p e s m args below meth c s₁ Bd hml hv
  obtain ⟨rfl, hP, hK⟩ := hv
  have hl := lv_entry ([.ref (B + 0)]) (n := 2) (Nat.le_of_ble_eq_true rfl)
  rw [lg_entry_eq]
  generalize (lg_sl ([.ref (B + 0)]) ++ List.replicate (2 - (lg_sl ([.ref (B + 0)])).length) Slot.unset).toArray = ls at hl ⊢
  have hl : lv_has ls 2 [(0, .ref (B + 0))] := hl
  exact w_SC_compile_e ⟨Bd.exec, Bd.bytes, hml, findClass_of_methodNamed Bd.named, Bd.returns, Bd.notSynchronized, hK⟩   _ _ _ _ hl hP va_S.rf hf
set_option maxHeartbeats 4000000 in
set_option maxRecDepth 100000 in
theorem w_SC_run_e {p : Program} {l : Launch} {e : Env} {s : State} {m : MethodId} {args : Array Value} {below : List Frame} {meth : Method} {c : Code} {D : va_G} {ca : Nat → ClassId} {B rl : Nat} {r : Int32} {M9 : hm_M} (X : hq_X p s m args meth c b_SC_run R_SC 1 (some .int) D sc_cl (sc_ty ca) hq_tb) : ∀ (M : hm_M) (H : Heap) (locs : List Loc) (ls : Array Slot), lv_has ls 1 [(0, .ref (B + 0))] → hm_P D sc_cl ca 64 (sc_sh rl) B M hm_L0 H → va_S (hm_A B 64) s.heap H locs → f_SC_run rl M = some (r, M9) → W p l e ({ frames := 31, cells := 0, slots := 0, locals := 634 } : Room) s m args below meth c H locs 0 0 (MQ below (hq_QI D sc_cl ca 64 (sc_sh rl) B r M9 hm_L0) args s 0 0 (hm_A B 64)) (F0 m 0 ls []) := by
  obtain ⟨hx, hb, hml, hown, hr, hlk, hKt⟩ := id X
  have hK := hKt.1
  have hts : ∀ w ∈ hq_tb, w.before args s = true := fun w h => hKt.2.2 w h args
  intro  M H locs ls hl hP hS hf
  unfold f_SC_run at hf
  refine lv_aload_n hx hb d_SC_run_0 rfl (lv_at hl 0 rfl) ?_
  refine hq_get hx hb hts i_SC hown hK hP 0 (by decide) (sc_s_SC (rfl)) rfl 3 (by decide) (hts _ sc_wd_172) (fun _ h => h) (v := .int (M 0 3)) rfl d_SC_run_1 ?_
  refine lv_if_ne (tgt := 10) hx hb d_SC_run_4 (by decide) (fun c1 => ?_) (fun c1 => ?_)
  · replace hf := (if_neg c1).symm.trans hf
    refine lv_aload_n hx hb d_SC_run_10 rfl (lv_at hl 0 rfl) ?_
    refine hq_get hx hb hts i_SC hown hK hP 0 (by decide) (sc_s_SC (rfl)) rfl 2 (by decide) (hts _ sc_wd_206) (fun _ h => h) (v := .ref (B + 48)) rfl d_SC_run_11 ?_
    refine lv_aload_n hx hb d_SC_run_14 rfl (lv_at hl 0 rfl) ?_
    refine hq_get hx hb hts i_SC hown hK hP 0 (by decide) (sc_s_SC (rfl)) rfl 1 (by decide) (hts _ sc_wd_200) (fun _ h => h) (v := .ref (B + 37)) rfl d_SC_run_15 ?_
    refine hq_getN hx hb hts i_Plan hown hK hP 37 (by decide) (sc_s_Plan (rfl)) rfl 1 (by decide) (hts _ sc_wd_207) (fun _ h => h) (v := .ref (B + 38)) rfl d_SC_run_18 ?_
    obtain ⟨M_3, hc4, hf⟩ := hm_bV_some hf
    refine hq_callV (va_runVN (As := [.ref (B + 38)]) (rest := []) ⟨hx, hb, hml, hown, hts⟩ (c_Runner_runSchedule (l := l) (D := D) (ca := ca) (B := B) (rl := rl) rfl hc4) (hq_cwN (nn := 1) hts sc_wd_208 sc_wd_125 sc_wd_209 sc_wd_210 sc_wd_211 (by decide +kernel) rfl rfl ⟨(Nat.le_of_ble_eq_true rfl), (Nat.le_of_ble_eq_true rfl)⟩) (hq_preV hKt hP (by decide) (sc_s_Runner (rfl)) rfl) rfl rfl hl.1 rfl (lv_room (Nat.le_of_ble_eq_true rfl)) d_SC_run_21 ⟨(Nat.le_of_ble_eq_true rfl), (Nat.le_of_ble_eq_true rfl)⟩) hS (fun H locs hP hS => ?_)
    refine lv_aload_n hx hb d_SC_run_24 rfl (lv_at hl 0 rfl) ?_
    refine lv_iconst (v := 1) hx hb d_SC_run_25 (by decide) ?_
    refine hq_put hx hb hts i_SC t_SC t_SC_ok n_SC hown hK hP hS 0 (by decide) (sc_s_SC (rfl)) rfl 4 (by decide) (hts _ sc_wd_173) (fun _ h => h) rfl (ty := .boolean) (x := 1) (by decide +kernel) rfl rfl rfl d_SC_run_26 (fun H locs hP hS => ?_)
    obtain ⟨M_5, e_5, hf⟩ := hm_st_some hf
    rw [← e_5] at hP
    refine lv_aload_n hx hb d_SC_run_29 rfl (lv_at hl 0 rfl) ?_
    refine hq_get hx hb hts i_SC hown hK hP 0 (by decide) (sc_s_SC (rfl)) rfl 0 (by decide) (hts _ sc_wd_174) (fun _ h => h) (v := .ref (B + 1)) rfl d_SC_run_30 ?_
    obtain ⟨r6, M_7, hc8, hf⟩ := hm_bI_some hf
    refine hq_callI (va_runVN (As := []) (rest := []) ⟨hx, hb, hml, hown, hts⟩ (c_Pipe_tileCount (l := l) (D := D) (ca := ca) (B := B) (rl := rl)  hc8) (hq_cwN (nn := 0) hts sc_wd_77 sc_wd_31 sc_wd_212 sc_wd_79 sc_wd_80 (by decide +kernel) rfl rfl ⟨(Nat.le_of_ble_eq_true rfl), (Nat.le_of_ble_eq_true rfl)⟩) (hq_preV hKt hP (by decide) (sc_s_Pipe (rfl)) rfl) rfl rfl hl.1 rfl (lv_room (Nat.le_of_ble_eq_true rfl)) d_SC_run_33 ⟨(Nat.le_of_ble_eq_true rfl), (Nat.le_of_ble_eq_true rfl)⟩) hS (fun H locs hP hS => ?_)
    obtain ⟨h9, h8⟩ := Prod.mk.inj (Option.some.inj hf)
    subst h9
    subst h8
    exact W.iret hx hb hr (fun t ht _ => ⟨⟨_, (), rfl, rfl, by subst ht; exact hP⟩, hS.F ht⟩) hS.2.2 d_SC_run_36 hlk
  · replace hf := (if_pos c1).symm.trans hf
    refine lv_bipush (v := (-3)) hx hb d_SC_run_7 (by decide) ?_
    obtain ⟨h9, h8⟩ := Prod.mk.inj (Option.some.inj hf)
    subst h9
    subst h8
    exact W.iret hx hb hr (fun t ht _ => ⟨⟨_, (), rfl, rfl, by subst ht; exact hP⟩, hS.F ht⟩) hS.2.2 d_SC_run_9 hlk
set_option maxHeartbeats 4000000 in
set_option maxRecDepth 100000 in
theorem c_SC_run {l : Launch} {D : va_G} {ca : Nat → ClassId} {B rl : Nat} {r : Int32} {M M9 : hm_M} (hf : f_SC_run rl M  = some (r, M9)) : Met l y_SC_run [Cond.code y_SC_run b_SC_run 1 (some .int)] ({ frames := 31, cells := 0, slots := 0, locals := 634 } : Room) (hq_Pre D sc_cl ca 64 (sc_sh rl) B (sc_ty ca) hq_tb M hm_L0 [.ref (B + 0)]) (hq_QI D sc_cl ca 64 (sc_sh rl) B r M9 hm_L0) 0 0 (hm_A B 64) := by
  refine Met.ofW (cc := b_SC_run) (maxL := 1) (ret := (some .int)) (by decide +kernel) rfl ?_
  intro p e s m args below meth c s₁ Bd hml hv
  obtain ⟨rfl, hP, hK⟩ := hv
  have hl := lv_entry ([.ref (B + 0)]) (n := 1) (Nat.le_of_ble_eq_true rfl)
  rw [lg_entry_eq]
  generalize (lg_sl ([.ref (B + 0)]) ++ List.replicate (1 - (lg_sl ([.ref (B + 0)])).length) Slot.unset).toArray = ls at hl ⊢
  have hl : lv_has ls 1 [(0, .ref (B + 0))] := hl
  exact w_SC_run_e ⟨Bd.exec, Bd.bytes, hml, findClass_of_methodNamed Bd.named, Bd.returns, Bd.notSynchronized, hK⟩   _ _ _ _ hl hP va_S.rf hf
set_option maxHeartbeats 4000000 in
set_option maxRecDepth 100000 in
theorem w_SC_cell_22 {p : Program} {l : Launch} {e : Env} {s : State} {m : MethodId} {args : Array Value} {below : List Frame} {meth : Method} {c : Code} {D : va_G} {ca : Nat → ClassId} {B rl : Nat} {r : Int64} {M9 : hm_M} (X : hq_X p s m args meth c b_SC_cell R_SC 2 (some .long) D sc_cl (sc_ty ca) hq_tb) : ∀ (M : hm_M) (H : Heap) (locs : List Loc) (ls : Array Slot), lv_has ls 2 [] → hm_P D sc_cl ca 64 (sc_sh rl) B M hm_L0 H → va_S (hm_A B 64) s.heap H locs → f_SC_cell_22 M = some (r, M9) → W p l e ({ frames := 0, cells := 0, slots := 0, locals := 0 } : Room) s m args below meth c H locs 0 0 (MQ below (hq_QL D sc_cl ca 64 (sc_sh rl) B r M9 hm_L0) args s 0 0 (hm_A B 64)) (F0 m 22 ls []) := by
  obtain ⟨hx, hb, hml, hown, hr, hlk, hKt⟩ := id X
  have hK := hKt.1
  have hts : ∀ w ∈ hq_tb, w.before args s = true := fun w h => hKt.2.2 w h args
  intro  M H locs ls hl hP hS hf
  unfold f_SC_cell_22 at hf
  refine lv_ldc2 (v := (-1000000000000)) hx hb hown (hts _ sc_wd_214) d_SC_cell_22 ?_
  obtain ⟨h9, h8⟩ := Prod.mk.inj (Option.some.inj hf)
  subst h9
  subst h8
  exact W.lret hx hb hr (fun t ht _ => ⟨⟨_, (), rfl, rfl, by subst ht; exact hP⟩, hS.F ht⟩) hS.2.2 d_SC_cell_25 hlk
set_option maxHeartbeats 4000000 in
set_option maxRecDepth 100000 in
theorem w_SC_cell_e {p : Program} {l : Launch} {e : Env} {s : State} {m : MethodId} {args : Array Value} {below : List Frame} {meth : Method} {c : Code} {D : va_G} {ca : Nat → ClassId} {B rl : Nat} {r : Int64} {M9 : hm_M} (X : hq_X p s m args meth c b_SC_cell R_SC 2 (some .long) D sc_cl (sc_ty ca) hq_tb) : ∀ (x1 : Int32), ∀ (M : hm_M) (H : Heap) (locs : List Loc) (ls : Array Slot), lv_has ls 2 [(0, .ref (B + 0)), (1, .int x1)] → hm_P D sc_cl ca 64 (sc_sh rl) B M hm_L0 H → va_S (hm_A B 64) s.heap H locs → f_SC_cell M x1 = some (r, M9) → W p l e ({ frames := 0, cells := 0, slots := 0, locals := 0 } : Room) s m args below meth c H locs 0 0 (MQ below (hq_QL D sc_cl ca 64 (sc_sh rl) B r M9 hm_L0) args s 0 0 (hm_A B 64)) (F0 m 0 ls []) := by
  obtain ⟨hx, hb, hml, hown, hr, hlk, hKt⟩ := id X
  have hK := hKt.1
  have hts : ∀ w ∈ hq_tb, w.before args s = true := fun w h => hKt.2.2 w h args
  intro x1 M H locs ls hl hP hS hf
  unfold f_SC_cell at hf
  refine lv_aload_n hx hb d_SC_cell_0 rfl (lv_at hl 0 rfl) ?_
  refine hq_get hx hb hts i_SC hown hK hP 0 (by decide) (sc_s_SC (rfl)) rfl 4 (by decide) (hts _ sc_wd_173) (fun _ h => h) (v := .int (M 0 4)) rfl d_SC_cell_1 ?_
  refine lv_if_eq (tgt := 22) hx hb d_SC_cell_4 (by decide) (fun c1 => ?_) (fun c1 => ?_)
  · replace hf := (if_pos c1).symm.trans hf
    exact w_SC_cell_22 X _ _ _ _ (lv_sub hl [] rfl) hP hS hf
  · replace hf := (if_neg c1).symm.trans hf
    refine lv_iload_n hx hb d_SC_cell_7 rfl (lv_at hl 1 rfl) ?_
    refine lv_if_lt (tgt := 22) hx hb d_SC_cell_8 (by decide) (fun c2 => ?_) (fun c2 => ?_)
    · replace hf := (if_pos c2).symm.trans hf
      exact w_SC_cell_22 X _ _ _ _ (lv_sub hl [] rfl) hP hS hf
    · replace hf := (if_neg c2).symm.trans hf
      refine lv_iload_n hx hb d_SC_cell_11 rfl (lv_at hl 1 rfl) ?_
      refine lv_aload_n hx hb d_SC_cell_12 rfl (lv_at hl 0 rfl) ?_
      refine hq_get hx hb hts i_SC hown hK hP 0 (by decide) (sc_s_SC (rfl)) rfl 0 (by decide) (hts _ sc_wd_174) (fun _ h => h) (v := .ref (B + 1)) rfl d_SC_cell_13 ?_
      refine hq_getN hx hb hts i_Pipe hown hK hP 1 (by decide) (sc_s_Pipe (rfl)) rfl 6 (by decide) (hts _ sc_wd_199) (fun _ h => h) (v := .int (M 1 6)) rfl d_SC_cell_16 ?_
      refine lv_icmp_lt (tgt := 26) hx hb d_SC_cell_19 (by decide) (fun c3 => ?_) (fun c3 => ?_)
      · replace hf := (if_pos c3).symm.trans hf
        refine lv_aload_n hx hb d_SC_cell_26 rfl (lv_at hl 0 rfl) ?_
        refine hq_get hx hb hts i_SC hown hK hP 0 (by decide) (sc_s_SC (rfl)) rfl 2 (by decide) (hts _ sc_wd_206) (fun _ h => h) (v := .ref (B + 48)) rfl d_SC_cell_27 ?_
        refine hq_getN hx hb hts i_Runner hown hK hP 48 (by decide) (sc_s_Runner (rfl)) rfl 4 (by decide) (hts _ sc_wd_213) (fun _ h => h) (v := .ref (B + 63)) rfl d_SC_cell_30 ?_
        refine lv_iload_n hx hb d_SC_cell_33 rfl (lv_at hl 1 rfl) ?_
        obtain ⟨g4, hf⟩ := hm_gd_some hf
        refine hq_iald hx hb hK hP 63 (by decide) (sc_s_ia32 (rfl)) 0 rfl g4 d_SC_cell_34 ?_
        refine lv_i2l (v := (M 63 x1.toNatClampNeg).toInt64) hx hb d_SC_cell_35 rfl ?_
        obtain ⟨h9, h8⟩ := Prod.mk.inj (Option.some.inj hf)
        subst h9
        subst h8
        exact W.lret hx hb hr (fun t ht _ => ⟨⟨_, (), rfl, rfl, by subst ht; exact hP⟩, hS.F ht⟩) hS.2.2 d_SC_cell_36 hlk
      · replace hf := (if_neg c3).symm.trans hf
        exact w_SC_cell_22 X _ _ _ _ (lv_sub hl [] rfl) hP hS hf
set_option maxHeartbeats 4000000 in
set_option maxRecDepth 100000 in
theorem c_SC_cell {l : Launch} {D : va_G} {ca : Nat → ClassId} {B rl : Nat} {r : Int64} {x1 : Int32} {M M9 : hm_M} (hf : f_SC_cell M x1 = some (r, M9)) : Met l y_SC_cell [Cond.code y_SC_cell b_SC_cell 2 (some .long)] ({ frames := 0, cells := 0, slots := 0, locals := 0 } : Room) (hq_Pre D sc_cl ca 64 (sc_sh rl) B (sc_ty ca) hq_tb M hm_L0 [.ref (B + 0), .int x1]) (hq_QL D sc_cl ca 64 (sc_sh rl) B r M9 hm_L0) 0 0 (hm_A B 64) := by
  refine Met.ofW (cc := b_SC_cell) (maxL := 2) (ret := (some .long)) (by decide +kernel) rfl ?_
  intro p e s m args below meth c s₁ Bd hml hv
  obtain ⟨rfl, hP, hK⟩ := hv
  have hl := lv_entry ([.ref (B + 0), .int x1]) (n := 2) (Nat.le_of_ble_eq_true rfl)
  rw [lg_entry_eq]
  generalize (lg_sl ([.ref (B + 0), .int x1]) ++ List.replicate (2 - (lg_sl ([.ref (B + 0), .int x1])).length) Slot.unset).toArray = ls at hl ⊢
  have hl : lv_has ls 2 [(0, .ref (B + 0)), (1, .int x1)] := hl
  exact w_SC_cell_e ⟨Bd.exec, Bd.bytes, hml, findClass_of_methodNamed Bd.named, Bd.returns, Bd.notSynchronized, hK⟩  _ _ _ _ _ hl hP va_S.rf hf
set_option maxHeartbeats 4000000 in
set_option maxRecDepth 100000 in
theorem w_SC_at_37 {p : Program} {l : Launch} {e : Env} {s : State} {m : MethodId} {args : Array Value} {below : List Frame} {meth : Method} {c : Code} {D : va_G} {ca : Nat → ClassId} {B rl : Nat} {r : Int64} {M9 : hm_M} (X : hq_X p s m args meth c b_SC_at R_SC 3 (some .long) D sc_cl (sc_ty ca) hq_tb) : ∀ (M : hm_M) (H : Heap) (locs : List Loc) (ls : Array Slot), lv_has ls 3 [] → hm_P D sc_cl ca 64 (sc_sh rl) B M hm_L0 H → va_S (hm_A B 64) s.heap H locs → f_SC_at_37 rl M = some (r, M9) → W p l e ({ frames := 28, cells := 0, slots := 0, locals := 565 } : Room) s m args below meth c H locs 0 0 (MQ below (hq_QL D sc_cl ca 64 (sc_sh rl) B r M9 hm_L0) args s 0 0 (hm_A B 64)) (F0 m 37 ls []) := by
  obtain ⟨hx, hb, hml, hown, hr, hlk, hKt⟩ := id X
  have hK := hKt.1
  have hts : ∀ w ∈ hq_tb, w.before args s = true := fun w h => hKt.2.2 w h args
  intro  M H locs ls hl hP hS hf
  unfold f_SC_at_37 at hf
  refine lv_ldc2 (v := (-1000000000000)) hx hb hown (hts _ sc_wd_214) d_SC_at_37 ?_
  obtain ⟨h9, h8⟩ := Prod.mk.inj (Option.some.inj hf)
  subst h9
  subst h8
  exact W.lret hx hb hr (fun t ht _ => ⟨⟨_, (), rfl, rfl, by subst ht; exact hP⟩, hS.F ht⟩) hS.2.2 d_SC_at_40 hlk
set_option maxHeartbeats 4000000 in
set_option maxRecDepth 100000 in
theorem w_SC_at_e {p : Program} {l : Launch} {e : Env} {s : State} {m : MethodId} {args : Array Value} {below : List Frame} {meth : Method} {c : Code} {D : va_G} {ca : Nat → ClassId} {B rl : Nat} {r : Int64} {M9 : hm_M} (X : hq_X p s m args meth c b_SC_at R_SC 3 (some .long) D sc_cl (sc_ty ca) hq_tb) : ∀ (x1 : Int32), ∀ (x2 : Int32), ∀ (M : hm_M) (H : Heap) (locs : List Loc) (ls : Array Slot), lv_has ls 3 [(0, .ref (B + 0)), (1, .int x1), (2, .int x2)] → hm_P D sc_cl ca 64 (sc_sh rl) B M hm_L0 H → va_S (hm_A B 64) s.heap H locs → f_SC_at rl M x1 x2 = some (r, M9) → W p l e ({ frames := 28, cells := 0, slots := 0, locals := 565 } : Room) s m args below meth c H locs 0 0 (MQ below (hq_QL D sc_cl ca 64 (sc_sh rl) B r M9 hm_L0) args s 0 0 (hm_A B 64)) (F0 m 0 ls []) := by
  obtain ⟨hx, hb, hml, hown, hr, hlk, hKt⟩ := id X
  have hK := hKt.1
  have hts : ∀ w ∈ hq_tb, w.before args s = true := fun w h => hKt.2.2 w h args
  intro x1 x2 M H locs ls hl hP hS hf
  unfold f_SC_at at hf
  refine lv_aload_n hx hb d_SC_at_0 rfl (lv_at hl 0 rfl) ?_
  refine hq_get hx hb hts i_SC hown hK hP 0 (by decide) (sc_s_SC (rfl)) rfl 0 (by decide) (hts _ sc_wd_174) (fun _ h => h) (v := .ref (B + 1)) rfl d_SC_at_1 ?_
  refine lv_iload_n hx hb d_SC_at_4 rfl (lv_at hl 1 rfl) ?_
  obtain ⟨r1, M_2, hc3, hf⟩ := hm_bI_some hf
  refine hq_callI (va_runVN (As := [.int x1]) (rest := []) ⟨hx, hb, hml, hown, hts⟩ (c_Pipe_hasStage (l := l) (D := D) (ca := ca) (B := B) (rl := rl)  hc3) (hq_cwN (nn := 1) hts sc_wd_186 sc_wd_31 sc_wd_187 sc_wd_188 sc_wd_189 (by decide +kernel) rfl rfl ⟨(Nat.le_of_ble_eq_true rfl), (Nat.le_of_ble_eq_true rfl)⟩) (hq_preV hKt hP (by decide) (sc_s_Pipe (rfl)) rfl) rfl rfl hl.1 rfl (lv_room (Nat.le_of_ble_eq_true rfl)) d_SC_at_5 ⟨(Nat.le_of_ble_eq_true rfl), (Nat.le_of_ble_eq_true rfl)⟩) hS (fun H locs hP hS => ?_)
  refine lv_if_eq (tgt := 37) hx hb d_SC_at_8 (by decide) (fun c4 => ?_) (fun c4 => ?_)
  · replace hf := (if_pos c4).symm.trans hf
    exact w_SC_at_37 X _ _ _ _ (lv_sub hl [] rfl) hP hS hf
  · replace hf := (if_neg c4).symm.trans hf
    refine lv_iload_n hx hb d_SC_at_11 rfl (lv_at hl 2 rfl) ?_
    refine lv_bipush (v := (-100)) hx hb d_SC_at_12 (by decide) ?_
    refine lv_icmp_lt (tgt := 37) hx hb d_SC_at_14 (by decide) (fun c5 => ?_) (fun c5 => ?_)
    · replace hf := (if_pos c5).symm.trans hf
      exact w_SC_at_37 X _ _ _ _ (lv_sub hl [] rfl) hP hS hf
    · replace hf := (if_neg c5).symm.trans hf
      refine lv_iload_n hx hb d_SC_at_17 rfl (lv_at hl 2 rfl) ?_
      refine lv_bipush (v := 100) hx hb d_SC_at_18 (by decide) ?_
      refine lv_icmp_gt (tgt := 37) hx hb d_SC_at_20 (by decide) (fun c6 => ?_) (fun c6 => ?_)
      · replace hf := (if_pos c6).symm.trans hf
        exact w_SC_at_37 X _ _ _ _ (lv_sub hl [] rfl) hP hS hf
      · replace hf := (if_neg c6).symm.trans hf
        refine lv_aload_n hx hb d_SC_at_23 rfl (lv_at hl 0 rfl) ?_
        refine hq_get hx hb hts i_SC hown hK hP 0 (by decide) (sc_s_SC (rfl)) rfl 0 (by decide) (hts _ sc_wd_174) (fun _ h => h) (v := .ref (B + 1)) rfl d_SC_at_24 ?_
        refine lv_iload_n hx hb d_SC_at_27 rfl (lv_at hl 1 rfl) ?_
        obtain ⟨r7, M_8, hc9, hf⟩ := hm_bI_some hf
        refine hq_callI (va_runVN (As := [.int x1]) (rest := []) ⟨hx, hb, hml, hown, hts⟩ (c_Pipe_valuesWorkedOutFor (l := l) (D := D) (ca := ca) (B := B) (rl := rl)  hc9) (hq_cwN (nn := 1) hts sc_wd_215 sc_wd_31 sc_wd_216 sc_wd_217 sc_wd_218 (by decide +kernel) rfl rfl ⟨(Nat.le_of_ble_eq_true rfl), (Nat.le_of_ble_eq_true rfl)⟩) (hq_preV hKt hP (by decide) (sc_s_Pipe (rfl)) rfl) rfl rfl hl.1 rfl (lv_room (Nat.le_of_ble_eq_true rfl)) d_SC_at_28 ⟨(Nat.le_of_ble_eq_true rfl), (Nat.le_of_ble_eq_true rfl)⟩) hS (fun H locs hP hS => ?_)
        refine lv_sipush (v := 3000) hx hb d_SC_at_31 (by decide) ?_
        refine lv_icmp_le (tgt := 41) hx hb d_SC_at_34 (by decide) (fun c10 => ?_) (fun c10 => ?_)
        · replace hf := (if_pos c10).symm.trans hf
          refine lv_aload_n hx hb d_SC_at_41 rfl (lv_at hl 0 rfl) ?_
          refine hq_get hx hb hts i_SC hown hK hP 0 (by decide) (sc_s_SC (rfl)) rfl 2 (by decide) (hts _ sc_wd_206) (fun _ h => h) (v := .ref (B + 48)) rfl d_SC_at_42 ?_
          refine lv_iload_n hx hb d_SC_at_45 rfl (lv_at hl 1 rfl) ?_
          refine lv_iload_n hx hb d_SC_at_46 rfl (lv_at hl 2 rfl) ?_
          obtain ⟨r11, M_12, hc13, hf⟩ := hm_bI_some hf
          refine hq_callI (va_runVN (As := [.int x1, .int x2]) (rest := []) ⟨hx, hb, hml, hown, hts⟩ (c_Runner_workOut (l := l) (D := D) (ca := ca) (B := B) (rl := rl)  hc13) (hq_cwN (nn := 2) hts sc_wd_124 sc_wd_125 sc_wd_219 sc_wd_127 sc_wd_128 (by decide +kernel) rfl rfl ⟨(Nat.le_of_ble_eq_true rfl), (Nat.le_of_ble_eq_true rfl)⟩) (hq_preV hKt hP (by decide) (sc_s_Runner (rfl)) rfl) rfl rfl hl.1 rfl (lv_room (Nat.le_of_ble_eq_true rfl)) d_SC_at_47 ⟨(Nat.le_of_ble_eq_true rfl), (Nat.le_of_ble_eq_true rfl)⟩) hS (fun H locs hP hS => ?_)
          refine lv_i2l (v := r11.toInt64) hx hb d_SC_at_50 rfl ?_
          obtain ⟨h9, h8⟩ := Prod.mk.inj (Option.some.inj hf)
          subst h9
          subst h8
          exact W.lret hx hb hr (fun t ht _ => ⟨⟨_, (), rfl, rfl, by subst ht; exact hP⟩, hS.F ht⟩) hS.2.2 d_SC_at_51 hlk
        · replace hf := (if_neg c10).symm.trans hf
          exact w_SC_at_37 X _ _ _ _ (lv_sub hl [] rfl) hP hS hf
set_option maxHeartbeats 4000000 in
set_option maxRecDepth 100000 in
theorem c_SC_at {l : Launch} {D : va_G} {ca : Nat → ClassId} {B rl : Nat} {r : Int64} {x1 : Int32} {x2 : Int32} {M M9 : hm_M} (hf : f_SC_at rl M x1 x2 = some (r, M9)) : Met l y_SC_at [Cond.code y_SC_at b_SC_at 3 (some .long)] ({ frames := 28, cells := 0, slots := 0, locals := 565 } : Room) (hq_Pre D sc_cl ca 64 (sc_sh rl) B (sc_ty ca) hq_tb M hm_L0 [.ref (B + 0), .int x1, .int x2]) (hq_QL D sc_cl ca 64 (sc_sh rl) B r M9 hm_L0) 0 0 (hm_A B 64) := by
  refine Met.ofW (cc := b_SC_at) (maxL := 3) (ret := (some .long)) (by decide +kernel) rfl ?_
  intro p e s m args below meth c s₁ Bd hml hv
  obtain ⟨rfl, hP, hK⟩ := hv
  have hl := lv_entry ([.ref (B + 0), .int x1, .int x2]) (n := 3) (Nat.le_of_ble_eq_true rfl)
  rw [lg_entry_eq]
  generalize (lg_sl ([.ref (B + 0), .int x1, .int x2]) ++ List.replicate (3 - (lg_sl ([.ref (B + 0), .int x1, .int x2])).length) Slot.unset).toArray = ls at hl ⊢
  have hl : lv_has ls 3 [(0, .ref (B + 0)), (1, .int x1), (2, .int x2)] := hl
  exact w_SC_at_e ⟨Bd.exec, Bd.bytes, hml, findClass_of_methodNamed Bd.named, Bd.returns, Bd.notSynchronized, hK⟩  _ _ _ _ _ _ hl hP va_S.rf hf
set_option maxHeartbeats 4000000 in
set_option maxRecDepth 100000 in
theorem w_SC_region_37 {p : Program} {l : Launch} {e : Env} {s : State} {m : MethodId} {args : Array Value} {below : List Frame} {meth : Method} {c : Code} {D : va_G} {ca : Nat → ClassId} {B rl : Nat} {r : Int32} {M9 : hm_M} (X : hq_X p s m args meth c b_SC_region R_SC 3 (some .int) D sc_cl (sc_ty ca) hq_tb) : ∀ (M : hm_M) (H : Heap) (locs : List Loc) (ls : Array Slot), lv_has ls 3 [] → hm_P D sc_cl ca 64 (sc_sh rl) B M hm_L0 H → va_S (hm_A B 64) s.heap H locs → f_SC_region_37 M = some (r, M9) → W p l e ({ frames := 1, cells := 0, slots := 0, locals := 21 } : Room) s m args below meth c H locs 0 0 (MQ below (hq_QI D sc_cl ca 64 (sc_sh rl) B r M9 hm_L0) args s 0 0 (hm_A B 64)) (F0 m 37 ls []) := by
  obtain ⟨hx, hb, hml, hown, hr, hlk, hKt⟩ := id X
  have hK := hKt.1
  have hts : ∀ w ∈ hq_tb, w.before args s = true := fun w h => hKt.2.2 w h args
  intro  M H locs ls hl hP hS hf
  unfold f_SC_region_37 at hf
  refine lv_sipush (v := (-2000)) hx hb d_SC_region_37 (by decide) ?_
  obtain ⟨h9, h8⟩ := Prod.mk.inj (Option.some.inj hf)
  subst h9
  subst h8
  exact W.iret hx hb hr (fun t ht _ => ⟨⟨_, (), rfl, rfl, by subst ht; exact hP⟩, hS.F ht⟩) hS.2.2 d_SC_region_40 hlk
set_option maxHeartbeats 4000000 in
set_option maxRecDepth 100000 in
theorem w_SC_region_72 {p : Program} {l : Launch} {e : Env} {s : State} {m : MethodId} {args : Array Value} {below : List Frame} {meth : Method} {c : Code} {D : va_G} {ca : Nat → ClassId} {B rl : Nat} {r : Int32} {M9 : hm_M} (X : hq_X p s m args meth c b_SC_region R_SC 3 (some .int) D sc_cl (sc_ty ca) hq_tb) : ∀ (y0 : Int32), ∀ (M : hm_M) (H : Heap) (locs : List Loc) (ls : Array Slot), lv_has ls 3 [] → hm_P D sc_cl ca 64 (sc_sh rl) B M hm_L0 H → va_S (hm_A B 64) s.heap H locs → f_SC_region_72 y0 M = some (r, M9) → W p l e ({ frames := 1, cells := 0, slots := 0, locals := 21 } : Room) s m args below meth c H locs 0 0 (MQ below (hq_QI D sc_cl ca 64 (sc_sh rl) B r M9 hm_L0) args s 0 0 (hm_A B 64)) (F0 m 72 ls [.int y0]) := by
  obtain ⟨hx, hb, hml, hown, hr, hlk, hKt⟩ := id X
  have hK := hKt.1
  have hts : ∀ w ∈ hq_tb, w.before args s = true := fun w h => hKt.2.2 w h args
  intro y0 M H locs ls hl hP hS hf
  unfold f_SC_region_72 at hf
  obtain ⟨h9, h8⟩ := Prod.mk.inj (Option.some.inj hf)
  subst h9
  subst h8
  exact W.iret hx hb hr (fun t ht _ => ⟨⟨_, (), rfl, rfl, by subst ht; exact hP⟩, hS.F ht⟩) hS.2.2 d_SC_region_72 hlk
set_option maxHeartbeats 4000000 in
set_option maxRecDepth 100000 in
theorem w_SC_region_e {p : Program} {l : Launch} {e : Env} {s : State} {m : MethodId} {args : Array Value} {below : List Frame} {meth : Method} {c : Code} {D : va_G} {ca : Nat → ClassId} {B rl : Nat} {r : Int32} {M9 : hm_M} (X : hq_X p s m args meth c b_SC_region R_SC 3 (some .int) D sc_cl (sc_ty ca) hq_tb) : ∀ (x1 : Int32), ∀ (x2 : Int32), ∀ (M : hm_M) (H : Heap) (locs : List Loc) (ls : Array Slot), lv_has ls 3 [(0, .ref (B + 0)), (1, .int x1), (2, .int x2)] → hm_P D sc_cl ca 64 (sc_sh rl) B M hm_L0 H → va_S (hm_A B 64) s.heap H locs → f_SC_region M x1 x2 = some (r, M9) → W p l e ({ frames := 1, cells := 0, slots := 0, locals := 21 } : Room) s m args below meth c H locs 0 0 (MQ below (hq_QI D sc_cl ca 64 (sc_sh rl) B r M9 hm_L0) args s 0 0 (hm_A B 64)) (F0 m 0 ls []) := by
  obtain ⟨hx, hb, hml, hown, hr, hlk, hKt⟩ := id X
  have hK := hKt.1
  have hts : ∀ w ∈ hq_tb, w.before args s = true := fun w h => hKt.2.2 w h args
  intro x1 x2 M H locs ls hl hP hS hf
  unfold f_SC_region at hf
  refine lv_aload_n hx hb d_SC_region_0 rfl (lv_at hl 0 rfl) ?_
  refine hq_get hx hb hts i_SC hown hK hP 0 (by decide) (sc_s_SC (rfl)) rfl 3 (by decide) (hts _ sc_wd_172) (fun _ h => h) (v := .int (M 0 3)) rfl d_SC_region_1 ?_
  refine lv_if_ne (tgt := 11) hx hb d_SC_region_4 (by decide) (fun c1 => ?_) (fun c1 => ?_)
  · replace hf := (if_neg c1).symm.trans hf
    refine lv_aload_n hx hb d_SC_region_11 rfl (lv_at hl 0 rfl) ?_
    refine hq_get hx hb hts i_SC hown hK hP 0 (by decide) (sc_s_SC (rfl)) rfl 0 (by decide) (hts _ sc_wd_174) (fun _ h => h) (v := .ref (B + 1)) rfl d_SC_region_12 ?_
    refine lv_iload_n hx hb d_SC_region_15 rfl (lv_at hl 1 rfl) ?_
    obtain ⟨r2, M_3, hc4, hf⟩ := hm_bI_some hf
    refine hq_callI (va_runVN (As := [.int x1]) (rest := []) ⟨hx, hb, hml, hown, hts⟩ (c_Pipe_hasStage (l := l) (D := D) (ca := ca) (B := B) (rl := rl)  hc4) (hq_cwN (nn := 1) hts sc_wd_186 sc_wd_31 sc_wd_187 sc_wd_188 sc_wd_189 (by decide +kernel) rfl rfl ⟨(Nat.le_of_ble_eq_true rfl), (Nat.le_of_ble_eq_true rfl)⟩) (hq_preV hKt hP (by decide) (sc_s_Pipe (rfl)) rfl) rfl rfl hl.1 rfl (lv_room (Nat.le_of_ble_eq_true rfl)) d_SC_region_16 ⟨(Nat.le_of_ble_eq_true rfl), (Nat.le_of_ble_eq_true rfl)⟩) hS (fun H locs hP hS => ?_)
    refine lv_if_eq (tgt := 37) hx hb d_SC_region_19 (by decide) (fun c5 => ?_) (fun c5 => ?_)
    · replace hf := (if_pos c5).symm.trans hf
      exact w_SC_region_37 X _ _ _ _ (lv_sub hl [] rfl) hP hS hf
    · replace hf := (if_neg c5).symm.trans hf
      refine lv_aload_n hx hb d_SC_region_22 rfl (lv_at hl 0 rfl) ?_
      refine hq_get hx hb hts i_SC hown hK hP 0 (by decide) (sc_s_SC (rfl)) rfl 1 (by decide) (hts _ sc_wd_200) (fun _ h => h) (v := .ref (B + 37)) rfl d_SC_region_23 ?_
      refine hq_getN hx hb hts i_Plan hown hK hP 37 (by decide) (sc_s_Plan (rfl)) rfl 1 (by decide) (hts _ sc_wd_207) (fun _ h => h) (v := .ref (B + 38)) rfl d_SC_region_26 ?_
      refine hq_getN hx hb hts i_Needs hown hK hP 38 (by decide) (sc_s_Needs (rfl)) rfl 0 (by decide) (hts _ sc_wd_220) (fun _ h => h) (v := .ref (B + 39)) rfl d_SC_region_29 ?_
      refine lv_iload_n hx hb d_SC_region_32 rfl (lv_at hl 1 rfl) ?_
      obtain ⟨g6, hf⟩ := hm_gd_some hf
      refine hq_zald hx hb hK hP 39 (by decide) (sc_s_za8 (rfl)) 1 rfl g6 d_SC_region_33 ?_
      refine lv_if_ne (tgt := 41) hx hb d_SC_region_34 (by decide) (fun c7 => ?_) (fun c7 => ?_)
      · replace hf := (if_neg c7).symm.trans hf
        refine lv_iload_n hx hb d_SC_region_41 rfl (lv_at hl 2 rfl) ?_
        refine lv_if_eq (tgt := 60) hx hb d_SC_region_42 (by decide) (fun c8 => ?_) (fun c8 => ?_)
        · replace hf := (if_pos c8).symm.trans hf
          refine lv_aload_n hx hb d_SC_region_60 rfl (lv_at hl 0 rfl) ?_
          refine hq_get hx hb hts i_SC hown hK hP 0 (by decide) (sc_s_SC (rfl)) rfl 1 (by decide) (hts _ sc_wd_200) (fun _ h => h) (v := .ref (B + 37)) rfl d_SC_region_61 ?_
          refine hq_getN hx hb hts i_Plan hown hK hP 37 (by decide) (sc_s_Plan (rfl)) rfl 1 (by decide) (hts _ sc_wd_207) (fun _ h => h) (v := .ref (B + 38)) rfl d_SC_region_64 ?_
          refine hq_getN hx hb hts i_Needs hown hK hP 38 (by decide) (sc_s_Needs (rfl)) rfl 1 (by decide) (hts _ sc_wd_221) (fun _ h => h) (v := .ref (B + 40)) rfl d_SC_region_67 ?_
          refine lv_iload_n hx hb d_SC_region_70 rfl (lv_at hl 1 rfl) ?_
          obtain ⟨g9, hf⟩ := hm_gd_some hf
          refine hq_iald hx hb hK hP 40 (by decide) (sc_s_ia8 (rfl)) 0 rfl g9 d_SC_region_71 ?_
          exact w_SC_region_72 X _ _ _ _ _ (lv_sub hl [] rfl) hP hS hf
        · replace hf := (if_neg c8).symm.trans hf
          refine lv_aload_n hx hb d_SC_region_45 rfl (lv_at hl 0 rfl) ?_
          refine hq_get hx hb hts i_SC hown hK hP 0 (by decide) (sc_s_SC (rfl)) rfl 1 (by decide) (hts _ sc_wd_200) (fun _ h => h) (v := .ref (B + 37)) rfl d_SC_region_46 ?_
          refine hq_getN hx hb hts i_Plan hown hK hP 37 (by decide) (sc_s_Plan (rfl)) rfl 1 (by decide) (hts _ sc_wd_207) (fun _ h => h) (v := .ref (B + 38)) rfl d_SC_region_49 ?_
          refine hq_getN hx hb hts i_Needs hown hK hP 38 (by decide) (sc_s_Needs (rfl)) rfl 2 (by decide) (hts _ sc_wd_222) (fun _ h => h) (v := .ref (B + 41)) rfl d_SC_region_52 ?_
          refine lv_iload_n hx hb d_SC_region_55 rfl (lv_at hl 1 rfl) ?_
          obtain ⟨g10, hf⟩ := hm_gd_some hf
          refine hq_iald hx hb hK hP 41 (by decide) (sc_s_ia8 (rfl)) 0 rfl g10 d_SC_region_56 ?_
          refine lv_goto (tgt := 72) hx hb d_SC_region_57 (by decide) ?_
          exact w_SC_region_72 X _ _ _ _ _ (lv_sub hl [] rfl) hP hS hf
      · replace hf := (if_pos c7).symm.trans hf
        exact w_SC_region_37 X _ _ _ _ (lv_sub hl [] rfl) hP hS hf
  · replace hf := (if_pos c1).symm.trans hf
    refine lv_sipush (v := (-1000)) hx hb d_SC_region_7 (by decide) ?_
    obtain ⟨h9, h8⟩ := Prod.mk.inj (Option.some.inj hf)
    subst h9
    subst h8
    exact W.iret hx hb hr (fun t ht _ => ⟨⟨_, (), rfl, rfl, by subst ht; exact hP⟩, hS.F ht⟩) hS.2.2 d_SC_region_10 hlk
set_option maxHeartbeats 4000000 in
set_option maxRecDepth 100000 in
theorem c_SC_region {l : Launch} {D : va_G} {ca : Nat → ClassId} {B rl : Nat} {r : Int32} {x1 : Int32} {x2 : Int32} {M M9 : hm_M} (hf : f_SC_region M x1 x2 = some (r, M9)) : Met l y_SC_region [Cond.code y_SC_region b_SC_region 3 (some .int)] ({ frames := 1, cells := 0, slots := 0, locals := 21 } : Room) (hq_Pre D sc_cl ca 64 (sc_sh rl) B (sc_ty ca) hq_tb M hm_L0 [.ref (B + 0), .int x1, .int x2]) (hq_QI D sc_cl ca 64 (sc_sh rl) B r M9 hm_L0) 0 0 (hm_A B 64) := by
  refine Met.ofW (cc := b_SC_region) (maxL := 3) (ret := (some .int)) (by decide +kernel) rfl ?_
  intro p e s m args below meth c s₁ Bd hml hv
  obtain ⟨rfl, hP, hK⟩ := hv
  have hl := lv_entry ([.ref (B + 0), .int x1, .int x2]) (n := 3) (Nat.le_of_ble_eq_true rfl)
  rw [lg_entry_eq]
  generalize (lg_sl ([.ref (B + 0), .int x1, .int x2]) ++ List.replicate (3 - (lg_sl ([.ref (B + 0), .int x1, .int x2])).length) Slot.unset).toArray = ls at hl ⊢
  have hl : lv_has ls 3 [(0, .ref (B + 0)), (1, .int x1), (2, .int x2)] := hl
  exact w_SC_region_e ⟨Bd.exec, Bd.bytes, hml, findClass_of_methodNamed Bd.named, Bd.returns, Bd.notSynchronized, hK⟩  _ _ _ _ _ _ hl hP va_S.rf hf
set_option maxHeartbeats 4000000 in
set_option maxRecDepth 100000 in
theorem w_SC_work_34 {p : Program} {l : Launch} {e : Env} {s : State} {m : MethodId} {args : Array Value} {below : List Frame} {meth : Method} {c : Code} {D : va_G} {ca : Nat → ClassId} {B rl : Nat} {r : Int32} {M9 : hm_M} (X : hq_X p s m args meth c b_SC_work R_SC 2 (some .int) D sc_cl (sc_ty ca) hq_tb) : ∀ (y0 : Int32), ∀ (M : hm_M) (H : Heap) (locs : List Loc) (ls : Array Slot), lv_has ls 2 [] → hm_P D sc_cl ca 64 (sc_sh rl) B M hm_L0 H → va_S (hm_A B 64) s.heap H locs → f_SC_work_34 y0 M = some (r, M9) → W p l e ({ frames := 1, cells := 0, slots := 0, locals := 21 } : Room) s m args below meth c H locs 0 0 (MQ below (hq_QI D sc_cl ca 64 (sc_sh rl) B r M9 hm_L0) args s 0 0 (hm_A B 64)) (F0 m 34 ls [.int y0]) := by
  obtain ⟨hx, hb, hml, hown, hr, hlk, hKt⟩ := id X
  have hK := hKt.1
  have hts : ∀ w ∈ hq_tb, w.before args s = true := fun w h => hKt.2.2 w h args
  intro y0 M H locs ls hl hP hS hf
  unfold f_SC_work_34 at hf
  obtain ⟨h9, h8⟩ := Prod.mk.inj (Option.some.inj hf)
  subst h9
  subst h8
  exact W.iret hx hb hr (fun t ht _ => ⟨⟨_, (), rfl, rfl, by subst ht; exact hP⟩, hS.F ht⟩) hS.2.2 d_SC_work_34 hlk
set_option maxHeartbeats 4000000 in
set_option maxRecDepth 100000 in
theorem w_SC_work_e {p : Program} {l : Launch} {e : Env} {s : State} {m : MethodId} {args : Array Value} {below : List Frame} {meth : Method} {c : Code} {D : va_G} {ca : Nat → ClassId} {B rl : Nat} {r : Int32} {M9 : hm_M} (X : hq_X p s m args meth c b_SC_work R_SC 2 (some .int) D sc_cl (sc_ty ca) hq_tb) : ∀ (x1 : Int32), ∀ (M : hm_M) (H : Heap) (locs : List Loc) (ls : Array Slot), lv_has ls 2 [(0, .ref (B + 0)), (1, .int x1)] → hm_P D sc_cl ca 64 (sc_sh rl) B M hm_L0 H → va_S (hm_A B 64) s.heap H locs → f_SC_work M x1 = some (r, M9) → W p l e ({ frames := 1, cells := 0, slots := 0, locals := 21 } : Room) s m args below meth c H locs 0 0 (MQ below (hq_QI D sc_cl ca 64 (sc_sh rl) B r M9 hm_L0) args s 0 0 (hm_A B 64)) (F0 m 0 ls []) := by
  obtain ⟨hx, hb, hml, hown, hr, hlk, hKt⟩ := id X
  have hK := hKt.1
  have hts : ∀ w ∈ hq_tb, w.before args s = true := fun w h => hKt.2.2 w h args
  intro x1 M H locs ls hl hP hS hf
  unfold f_SC_work at hf
  refine lv_aload_n hx hb d_SC_work_0 rfl (lv_at hl 0 rfl) ?_
  refine hq_get hx hb hts i_SC hown hK hP 0 (by decide) (sc_s_SC (rfl)) rfl 0 (by decide) (hts _ sc_wd_174) (fun _ h => h) (v := .ref (B + 1)) rfl d_SC_work_1 ?_
  refine lv_iload_n hx hb d_SC_work_4 rfl (lv_at hl 1 rfl) ?_
  obtain ⟨r1, M_2, hc3, hf⟩ := hm_bI_some hf
  refine hq_callI (va_runVN (As := [.int x1]) (rest := []) ⟨hx, hb, hml, hown, hts⟩ (c_Pipe_hasStage (l := l) (D := D) (ca := ca) (B := B) (rl := rl)  hc3) (hq_cwN (nn := 1) hts sc_wd_186 sc_wd_31 sc_wd_187 sc_wd_188 sc_wd_189 (by decide +kernel) rfl rfl ⟨(Nat.le_of_ble_eq_true rfl), (Nat.le_of_ble_eq_true rfl)⟩) (hq_preV hKt hP (by decide) (sc_s_Pipe (rfl)) rfl) rfl rfl hl.1 rfl (lv_room (Nat.le_of_ble_eq_true rfl)) d_SC_work_5 ⟨(Nat.le_of_ble_eq_true rfl), (Nat.le_of_ble_eq_true rfl)⟩) hS (fun H locs hP hS => ?_)
  refine lv_if_ne (tgt := 13) hx hb d_SC_work_8 (by decide) (fun c4 => ?_) (fun c4 => ?_)
  · replace hf := (if_neg c4).symm.trans hf
    refine lv_aload_n hx hb d_SC_work_13 rfl (lv_at hl 0 rfl) ?_
    refine hq_get hx hb hts i_SC hown hK hP 0 (by decide) (sc_s_SC (rfl)) rfl 3 (by decide) (hts _ sc_wd_172) (fun _ h => h) (v := .int (M_2 0 3)) rfl d_SC_work_14 ?_
    refine lv_if_eq (tgt := 32) hx hb d_SC_work_17 (by decide) (fun c5 => ?_) (fun c5 => ?_)
    · replace hf := (if_pos c5).symm.trans hf
      refine lv_bipush (v := (-3)) hx hb d_SC_work_32 (by decide) ?_
      exact w_SC_work_34 X _ _ _ _ _ (lv_sub hl [] rfl) hP hS hf
    · replace hf := (if_neg c5).symm.trans hf
      refine lv_aload_n hx hb d_SC_work_20 rfl (lv_at hl 0 rfl) ?_
      refine hq_get hx hb hts i_SC hown hK hP 0 (by decide) (sc_s_SC (rfl)) rfl 1 (by decide) (hts _ sc_wd_200) (fun _ h => h) (v := .ref (B + 37)) rfl d_SC_work_21 ?_
      refine hq_getN hx hb hts i_Plan hown hK hP 37 (by decide) (sc_s_Plan (rfl)) rfl 4 (by decide) (hts _ sc_wd_223) (fun _ h => h) (v := .ref (B + 47)) rfl d_SC_work_24 ?_
      refine lv_iload_n hx hb d_SC_work_27 rfl (lv_at hl 1 rfl) ?_
      obtain ⟨g6, hf⟩ := hm_gd_some hf
      refine hq_iald hx hb hK hP 47 (by decide) (sc_s_ia8 (rfl)) 0 rfl g6 d_SC_work_28 ?_
      refine lv_goto (tgt := 34) hx hb d_SC_work_29 (by decide) ?_
      exact w_SC_work_34 X _ _ _ _ _ (lv_sub hl [] rfl) hP hS hf
  · replace hf := (if_pos c4).symm.trans hf
    refine lv_iconst (v := (-1)) hx hb d_SC_work_11 (by decide) ?_
    obtain ⟨h9, h8⟩ := Prod.mk.inj (Option.some.inj hf)
    subst h9
    subst h8
    exact W.iret hx hb hr (fun t ht _ => ⟨⟨_, (), rfl, rfl, by subst ht; exact hP⟩, hS.F ht⟩) hS.2.2 d_SC_work_12 hlk
set_option maxHeartbeats 4000000 in
set_option maxRecDepth 100000 in
theorem c_SC_work {l : Launch} {D : va_G} {ca : Nat → ClassId} {B rl : Nat} {r : Int32} {x1 : Int32} {M M9 : hm_M} (hf : f_SC_work M x1 = some (r, M9)) : Met l y_SC_work [Cond.code y_SC_work b_SC_work 2 (some .int)] ({ frames := 1, cells := 0, slots := 0, locals := 21 } : Room) (hq_Pre D sc_cl ca 64 (sc_sh rl) B (sc_ty ca) hq_tb M hm_L0 [.ref (B + 0), .int x1]) (hq_QI D sc_cl ca 64 (sc_sh rl) B r M9 hm_L0) 0 0 (hm_A B 64) := by
  refine Met.ofW (cc := b_SC_work) (maxL := 2) (ret := (some .int)) (by decide +kernel) rfl ?_
  intro p e s m args below meth c s₁ Bd hml hv
  obtain ⟨rfl, hP, hK⟩ := hv
  have hl := lv_entry ([.ref (B + 0), .int x1]) (n := 2) (Nat.le_of_ble_eq_true rfl)
  rw [lg_entry_eq]
  generalize (lg_sl ([.ref (B + 0), .int x1]) ++ List.replicate (2 - (lg_sl ([.ref (B + 0), .int x1])).length) Slot.unset).toArray = ls at hl ⊢
  have hl : lv_has ls 2 [(0, .ref (B + 0)), (1, .int x1)] := hl
  exact w_SC_work_e ⟨Bd.exec, Bd.bytes, hml, findClass_of_methodNamed Bd.named, Bd.returns, Bd.notSynchronized, hK⟩  _ _ _ _ _ hl hP va_S.rf hf
set_option maxHeartbeats 4000000 in
set_option maxRecDepth 100000 in
theorem w_SC_count_64 {p : Program} {l : Launch} {e : Env} {s : State} {m : MethodId} {args : Array Value} {below : List Frame} {meth : Method} {c : Code} {D : va_G} {ca : Nat → ClassId} {B rl : Nat} {r : Int32} {M9 : hm_M} (X : hq_X p s m args meth c b_SC_count R_SC 2 (some .int) D sc_cl (sc_ty ca) hq_tb) : ∀ (y0 : Int32), ∀ (M : hm_M) (H : Heap) (locs : List Loc) (ls : Array Slot), lv_has ls 2 [] → hm_P D sc_cl ca 64 (sc_sh rl) B M hm_L0 H → va_S (hm_A B 64) s.heap H locs → f_SC_count_64 y0 M = some (r, M9) → W p l e ({ frames := 1, cells := 0, slots := 0, locals := 22 } : Room) s m args below meth c H locs 0 0 (MQ below (hq_QI D sc_cl ca 64 (sc_sh rl) B r M9 hm_L0) args s 0 0 (hm_A B 64)) (F0 m 64 ls [.int y0]) := by
  obtain ⟨hx, hb, hml, hown, hr, hlk, hKt⟩ := id X
  have hK := hKt.1
  have hts : ∀ w ∈ hq_tb, w.before args s = true := fun w h => hKt.2.2 w h args
  intro y0 M H locs ls hl hP hS hf
  unfold f_SC_count_64 at hf
  obtain ⟨h9, h8⟩ := Prod.mk.inj (Option.some.inj hf)
  subst h9
  subst h8
  exact W.iret hx hb hr (fun t ht _ => ⟨⟨_, (), rfl, rfl, by subst ht; exact hP⟩, hS.F ht⟩) hS.2.2 d_SC_count_64 hlk
set_option maxHeartbeats 4000000 in
set_option maxRecDepth 100000 in
theorem w_SC_count_83 {p : Program} {l : Launch} {e : Env} {s : State} {m : MethodId} {args : Array Value} {below : List Frame} {meth : Method} {c : Code} {D : va_G} {ca : Nat → ClassId} {B rl : Nat} {r : Int32} {M9 : hm_M} (X : hq_X p s m args meth c b_SC_count R_SC 2 (some .int) D sc_cl (sc_ty ca) hq_tb) : ∀ (y0 : Int32), ∀ (M : hm_M) (H : Heap) (locs : List Loc) (ls : Array Slot), lv_has ls 2 [] → hm_P D sc_cl ca 64 (sc_sh rl) B M hm_L0 H → va_S (hm_A B 64) s.heap H locs → f_SC_count_83 y0 M = some (r, M9) → W p l e ({ frames := 1, cells := 0, slots := 0, locals := 22 } : Room) s m args below meth c H locs 0 0 (MQ below (hq_QI D sc_cl ca 64 (sc_sh rl) B r M9 hm_L0) args s 0 0 (hm_A B 64)) (F0 m 83 ls [.int y0]) := by
  obtain ⟨hx, hb, hml, hown, hr, hlk, hKt⟩ := id X
  have hK := hKt.1
  have hts : ∀ w ∈ hq_tb, w.before args s = true := fun w h => hKt.2.2 w h args
  intro y0 M H locs ls hl hP hS hf
  unfold f_SC_count_83 at hf
  obtain ⟨h9, h8⟩ := Prod.mk.inj (Option.some.inj hf)
  subst h9
  subst h8
  exact W.iret hx hb hr (fun t ht _ => ⟨⟨_, (), rfl, rfl, by subst ht; exact hP⟩, hS.F ht⟩) hS.2.2 d_SC_count_83 hlk
set_option maxHeartbeats 4000000 in
set_option maxRecDepth 100000 in
theorem w_SC_count_102 {p : Program} {l : Launch} {e : Env} {s : State} {m : MethodId} {args : Array Value} {below : List Frame} {meth : Method} {c : Code} {D : va_G} {ca : Nat → ClassId} {B rl : Nat} {r : Int32} {M9 : hm_M} (X : hq_X p s m args meth c b_SC_count R_SC 2 (some .int) D sc_cl (sc_ty ca) hq_tb) : ∀ (y0 : Int32), ∀ (M : hm_M) (H : Heap) (locs : List Loc) (ls : Array Slot), lv_has ls 2 [] → hm_P D sc_cl ca 64 (sc_sh rl) B M hm_L0 H → va_S (hm_A B 64) s.heap H locs → f_SC_count_102 y0 M = some (r, M9) → W p l e ({ frames := 1, cells := 0, slots := 0, locals := 22 } : Room) s m args below meth c H locs 0 0 (MQ below (hq_QI D sc_cl ca 64 (sc_sh rl) B r M9 hm_L0) args s 0 0 (hm_A B 64)) (F0 m 102 ls [.int y0]) := by
  obtain ⟨hx, hb, hml, hown, hr, hlk, hKt⟩ := id X
  have hK := hKt.1
  have hts : ∀ w ∈ hq_tb, w.before args s = true := fun w h => hKt.2.2 w h args
  intro y0 M H locs ls hl hP hS hf
  unfold f_SC_count_102 at hf
  obtain ⟨h9, h8⟩ := Prod.mk.inj (Option.some.inj hf)
  subst h9
  subst h8
  exact W.iret hx hb hr (fun t ht _ => ⟨⟨_, (), rfl, rfl, by subst ht; exact hP⟩, hS.F ht⟩) hS.2.2 d_SC_count_102 hlk
set_option maxHeartbeats 4000000 in
set_option maxRecDepth 100000 in
theorem w_SC_count_121 {p : Program} {l : Launch} {e : Env} {s : State} {m : MethodId} {args : Array Value} {below : List Frame} {meth : Method} {c : Code} {D : va_G} {ca : Nat → ClassId} {B rl : Nat} {r : Int32} {M9 : hm_M} (X : hq_X p s m args meth c b_SC_count R_SC 2 (some .int) D sc_cl (sc_ty ca) hq_tb) : ∀ (y0 : Int32), ∀ (M : hm_M) (H : Heap) (locs : List Loc) (ls : Array Slot), lv_has ls 2 [] → hm_P D sc_cl ca 64 (sc_sh rl) B M hm_L0 H → va_S (hm_A B 64) s.heap H locs → f_SC_count_121 y0 M = some (r, M9) → W p l e ({ frames := 1, cells := 0, slots := 0, locals := 22 } : Room) s m args below meth c H locs 0 0 (MQ below (hq_QI D sc_cl ca 64 (sc_sh rl) B r M9 hm_L0) args s 0 0 (hm_A B 64)) (F0 m 121 ls [.int y0]) := by
  obtain ⟨hx, hb, hml, hown, hr, hlk, hKt⟩ := id X
  have hK := hKt.1
  have hts : ∀ w ∈ hq_tb, w.before args s = true := fun w h => hKt.2.2 w h args
  intro y0 M H locs ls hl hP hS hf
  unfold f_SC_count_121 at hf
  obtain ⟨h9, h8⟩ := Prod.mk.inj (Option.some.inj hf)
  subst h9
  subst h8
  exact W.iret hx hb hr (fun t ht _ => ⟨⟨_, (), rfl, rfl, by subst ht; exact hP⟩, hS.F ht⟩) hS.2.2 d_SC_count_121 hlk
set_option maxHeartbeats 4000000 in
set_option maxRecDepth 100000 in
theorem w_SC_count_140 {p : Program} {l : Launch} {e : Env} {s : State} {m : MethodId} {args : Array Value} {below : List Frame} {meth : Method} {c : Code} {D : va_G} {ca : Nat → ClassId} {B rl : Nat} {r : Int32} {M9 : hm_M} (X : hq_X p s m args meth c b_SC_count R_SC 2 (some .int) D sc_cl (sc_ty ca) hq_tb) : ∀ (y0 : Int32), ∀ (M : hm_M) (H : Heap) (locs : List Loc) (ls : Array Slot), lv_has ls 2 [] → hm_P D sc_cl ca 64 (sc_sh rl) B M hm_L0 H → va_S (hm_A B 64) s.heap H locs → f_SC_count_140 y0 M = some (r, M9) → W p l e ({ frames := 1, cells := 0, slots := 0, locals := 22 } : Room) s m args below meth c H locs 0 0 (MQ below (hq_QI D sc_cl ca 64 (sc_sh rl) B r M9 hm_L0) args s 0 0 (hm_A B 64)) (F0 m 140 ls [.int y0]) := by
  obtain ⟨hx, hb, hml, hown, hr, hlk, hKt⟩ := id X
  have hK := hKt.1
  have hts : ∀ w ∈ hq_tb, w.before args s = true := fun w h => hKt.2.2 w h args
  intro y0 M H locs ls hl hP hS hf
  unfold f_SC_count_140 at hf
  obtain ⟨h9, h8⟩ := Prod.mk.inj (Option.some.inj hf)
  subst h9
  subst h8
  exact W.iret hx hb hr (fun t ht _ => ⟨⟨_, (), rfl, rfl, by subst ht; exact hP⟩, hS.F ht⟩) hS.2.2 d_SC_count_140 hlk
set_option maxHeartbeats 4000000 in
set_option maxRecDepth 100000 in
theorem w_SC_count_159 {p : Program} {l : Launch} {e : Env} {s : State} {m : MethodId} {args : Array Value} {below : List Frame} {meth : Method} {c : Code} {D : va_G} {ca : Nat → ClassId} {B rl : Nat} {r : Int32} {M9 : hm_M} (X : hq_X p s m args meth c b_SC_count R_SC 2 (some .int) D sc_cl (sc_ty ca) hq_tb) : ∀ (y0 : Int32), ∀ (M : hm_M) (H : Heap) (locs : List Loc) (ls : Array Slot), lv_has ls 2 [] → hm_P D sc_cl ca 64 (sc_sh rl) B M hm_L0 H → va_S (hm_A B 64) s.heap H locs → f_SC_count_159 y0 M = some (r, M9) → W p l e ({ frames := 1, cells := 0, slots := 0, locals := 22 } : Room) s m args below meth c H locs 0 0 (MQ below (hq_QI D sc_cl ca 64 (sc_sh rl) B r M9 hm_L0) args s 0 0 (hm_A B 64)) (F0 m 159 ls [.int y0]) := by
  obtain ⟨hx, hb, hml, hown, hr, hlk, hKt⟩ := id X
  have hK := hKt.1
  have hts : ∀ w ∈ hq_tb, w.before args s = true := fun w h => hKt.2.2 w h args
  intro y0 M H locs ls hl hP hS hf
  unfold f_SC_count_159 at hf
  obtain ⟨h9, h8⟩ := Prod.mk.inj (Option.some.inj hf)
  subst h9
  subst h8
  exact W.iret hx hb hr (fun t ht _ => ⟨⟨_, (), rfl, rfl, by subst ht; exact hP⟩, hS.F ht⟩) hS.2.2 d_SC_count_159 hlk
set_option maxHeartbeats 4000000 in
set_option maxRecDepth 100000 in
theorem w_SC_count_e {p : Program} {l : Launch} {e : Env} {s : State} {m : MethodId} {args : Array Value} {below : List Frame} {meth : Method} {c : Code} {D : va_G} {ca : Nat → ClassId} {B rl : Nat} {r : Int32} {M9 : hm_M} (X : hq_X p s m args meth c b_SC_count R_SC 2 (some .int) D sc_cl (sc_ty ca) hq_tb) : ∀ (x1 : Int32), ∀ (M : hm_M) (H : Heap) (locs : List Loc) (ls : Array Slot), lv_has ls 2 [(0, .ref (B + 0)), (1, .int x1)] → hm_P D sc_cl ca 64 (sc_sh rl) B M hm_L0 H → va_S (hm_A B 64) s.heap H locs → f_SC_count M x1 = some (r, M9) → W p l e ({ frames := 1, cells := 0, slots := 0, locals := 22 } : Room) s m args below meth c H locs 0 0 (MQ below (hq_QI D sc_cl ca 64 (sc_sh rl) B r M9 hm_L0) args s 0 0 (hm_A B 64)) (F0 m 0 ls []) := by
  obtain ⟨hx, hb, hml, hown, hr, hlk, hKt⟩ := id X
  have hK := hKt.1
  have hts : ∀ w ∈ hq_tb, w.before args s = true := fun w h => hKt.2.2 w h args
  intro x1 M H locs ls hl hP hS hf
  unfold f_SC_count at hf
  refine lv_iload_n hx hb d_SC_count_0 rfl (lv_at hl 1 rfl) ?_
  by_cases c1 : x1 = 0
  · replace hf := (if_pos c1).symm.trans hf
    refine lv_tableIn (tgt := 44) hx hb d_SC_count_1 (by rw [c1]; decide) (by rw [c1]; decide) (by rw [c1]; rfl) (by decide) ?_
    refine lv_aload_n hx hb d_SC_count_44 rfl (lv_at hl 0 rfl) ?_
    refine hq_get hx hb hts i_SC hown hK hP 0 (by decide) (sc_s_SC (rfl)) rfl 0 (by decide) (hts _ sc_wd_174) (fun _ h => h) (v := .ref (B + 1)) rfl d_SC_count_45 ?_
    refine hq_getN hx hb hts i_Pipe hown hK hP 1 (by decide) (sc_s_Pipe (rfl)) rfl 3 (by decide) (hts _ sc_wd_181) (fun _ h => h) (v := .int (M 1 3)) rfl d_SC_count_48 ?_
    obtain ⟨h9, h8⟩ := Prod.mk.inj (Option.some.inj hf)
    subst h9
    subst h8
    exact W.iret hx hb hr (fun t ht _ => ⟨⟨_, (), rfl, rfl, by subst ht; exact hP⟩, hS.F ht⟩) hS.2.2 d_SC_count_51 hlk
  · replace hf := (if_neg c1).symm.trans hf
    by_cases c2 : x1 = 1
    · replace hf := (if_pos c2).symm.trans hf
      refine lv_tableIn (tgt := 52) hx hb d_SC_count_1 (by rw [c2]; decide) (by rw [c2]; decide) (by rw [c2]; rfl) (by decide) ?_
      refine lv_aload_n hx hb d_SC_count_52 rfl (lv_at hl 0 rfl) ?_
      refine hq_get hx hb hts i_SC hown hK hP 0 (by decide) (sc_s_SC (rfl)) rfl 3 (by decide) (hts _ sc_wd_172) (fun _ h => h) (v := .int (M 0 3)) rfl d_SC_count_53 ?_
      refine lv_if_eq (tgt := 63) hx hb d_SC_count_56 (by decide) (fun c3 => ?_) (fun c3 => ?_)
      · replace hf := (if_pos c3).symm.trans hf
        refine lv_iconst (v := 0) hx hb d_SC_count_63 (by decide) ?_
        exact w_SC_count_64 X _ _ _ _ _ (lv_sub hl [] rfl) hP hS hf
      · replace hf := (if_neg c3).symm.trans hf
        refine lv_iconst (v := 1) hx hb d_SC_count_59 (by decide) ?_
        refine lv_goto (tgt := 64) hx hb d_SC_count_60 (by decide) ?_
        exact w_SC_count_64 X _ _ _ _ _ (lv_sub hl [] rfl) hP hS hf
    · replace hf := (if_neg c2).symm.trans hf
      by_cases c4 : x1 = 2
      · replace hf := (if_pos c4).symm.trans hf
        refine lv_tableIn (tgt := 65) hx hb d_SC_count_1 (by rw [c4]; decide) (by rw [c4]; decide) (by rw [c4]; rfl) (by decide) ?_
        refine lv_aload_n hx hb d_SC_count_65 rfl (lv_at hl 0 rfl) ?_
        refine hq_get hx hb hts i_SC hown hK hP 0 (by decide) (sc_s_SC (rfl)) rfl 3 (by decide) (hts _ sc_wd_172) (fun _ h => h) (v := .int (M 0 3)) rfl d_SC_count_66 ?_
        refine lv_if_eq (tgt := 82) hx hb d_SC_count_69 (by decide) (fun c5 => ?_) (fun c5 => ?_)
        · replace hf := (if_pos c5).symm.trans hf
          refine lv_iconst (v := 0) hx hb d_SC_count_82 (by decide) ?_
          exact w_SC_count_83 X _ _ _ _ _ (lv_sub hl [] rfl) hP hS hf
        · replace hf := (if_neg c5).symm.trans hf
          refine lv_aload_n hx hb d_SC_count_72 rfl (lv_at hl 0 rfl) ?_
          refine hq_get hx hb hts i_SC hown hK hP 0 (by decide) (sc_s_SC (rfl)) rfl 1 (by decide) (hts _ sc_wd_200) (fun _ h => h) (v := .ref (B + 37)) rfl d_SC_count_73 ?_
          refine hq_getN hx hb hts i_Plan hown hK hP 37 (by decide) (sc_s_Plan (rfl)) rfl 6 (by decide) (hts _ sc_wd_224) (fun _ h => h) (v := .int (M 37 6)) rfl d_SC_count_76 ?_
          refine lv_goto (tgt := 83) hx hb d_SC_count_79 (by decide) ?_
          exact w_SC_count_83 X _ _ _ _ _ (lv_sub hl [] rfl) hP hS hf
      · replace hf := (if_neg c4).symm.trans hf
        by_cases c6 : x1 = 3
        · replace hf := (if_pos c6).symm.trans hf
          refine lv_tableIn (tgt := 84) hx hb d_SC_count_1 (by rw [c6]; decide) (by rw [c6]; decide) (by rw [c6]; rfl) (by decide) ?_
          refine lv_aload_n hx hb d_SC_count_84 rfl (lv_at hl 0 rfl) ?_
          refine hq_get hx hb hts i_SC hown hK hP 0 (by decide) (sc_s_SC (rfl)) rfl 3 (by decide) (hts _ sc_wd_172) (fun _ h => h) (v := .int (M 0 3)) rfl d_SC_count_85 ?_
          refine lv_if_eq (tgt := 101) hx hb d_SC_count_88 (by decide) (fun c7 => ?_) (fun c7 => ?_)
          · replace hf := (if_pos c7).symm.trans hf
            refine lv_iconst (v := 0) hx hb d_SC_count_101 (by decide) ?_
            exact w_SC_count_102 X _ _ _ _ _ (lv_sub hl [] rfl) hP hS hf
          · replace hf := (if_neg c7).symm.trans hf
            refine lv_aload_n hx hb d_SC_count_91 rfl (lv_at hl 0 rfl) ?_
            refine hq_get hx hb hts i_SC hown hK hP 0 (by decide) (sc_s_SC (rfl)) rfl 1 (by decide) (hts _ sc_wd_200) (fun _ h => h) (v := .ref (B + 37)) rfl d_SC_count_92 ?_
            obtain ⟨r8, M_9, hc10, hf⟩ := hm_bI_some hf
            refine hq_callI (va_runVN (As := []) (rest := []) ⟨hx, hb, hml, hown, hts⟩ (c_Plan_usedCount (l := l) (D := D) (ca := ca) (B := B) (rl := rl)  hc10) (hq_cwN (nn := 0) hts sc_wd_225 sc_wd_59 sc_wd_226 sc_wd_227 sc_wd_228 (by decide +kernel) rfl rfl ⟨(Nat.le_of_ble_eq_true rfl), (Nat.le_of_ble_eq_true rfl)⟩) (hq_preV hKt hP (by decide) (sc_s_Plan (rfl)) rfl) rfl rfl hl.1 rfl (lv_room (Nat.le_of_ble_eq_true rfl)) d_SC_count_95 ⟨(Nat.le_of_ble_eq_true rfl), (Nat.le_of_ble_eq_true rfl)⟩) hS (fun H locs hP hS => ?_)
            refine lv_goto (tgt := 102) hx hb d_SC_count_98 (by decide) ?_
            exact w_SC_count_102 X _ _ _ _ _ (lv_sub hl [] rfl) hP hS hf
        · replace hf := (if_neg c6).symm.trans hf
          by_cases c11 : x1 = 4
          · replace hf := (if_pos c11).symm.trans hf
            refine lv_tableIn (tgt := 103) hx hb d_SC_count_1 (by rw [c11]; decide) (by rw [c11]; decide) (by rw [c11]; rfl) (by decide) ?_
            refine lv_aload_n hx hb d_SC_count_103 rfl (lv_at hl 0 rfl) ?_
            refine hq_get hx hb hts i_SC hown hK hP 0 (by decide) (sc_s_SC (rfl)) rfl 3 (by decide) (hts _ sc_wd_172) (fun _ h => h) (v := .int (M 0 3)) rfl d_SC_count_104 ?_
            refine lv_if_eq (tgt := 120) hx hb d_SC_count_107 (by decide) (fun c12 => ?_) (fun c12 => ?_)
            · replace hf := (if_pos c12).symm.trans hf
              refine lv_iconst (v := 0) hx hb d_SC_count_120 (by decide) ?_
              exact w_SC_count_121 X _ _ _ _ _ (lv_sub hl [] rfl) hP hS hf
            · replace hf := (if_neg c12).symm.trans hf
              refine lv_aload_n hx hb d_SC_count_110 rfl (lv_at hl 0 rfl) ?_
              refine hq_get hx hb hts i_SC hown hK hP 0 (by decide) (sc_s_SC (rfl)) rfl 0 (by decide) (hts _ sc_wd_174) (fun _ h => h) (v := .ref (B + 1)) rfl d_SC_count_111 ?_
              obtain ⟨r13, M_14, hc15, hf⟩ := hm_bI_some hf
              refine hq_callI (va_runVN (As := []) (rest := []) ⟨hx, hb, hml, hown, hts⟩ (c_Pipe_tileCount (l := l) (D := D) (ca := ca) (B := B) (rl := rl)  hc15) (hq_cwN (nn := 0) hts sc_wd_77 sc_wd_31 sc_wd_212 sc_wd_79 sc_wd_80 (by decide +kernel) rfl rfl ⟨(Nat.le_of_ble_eq_true rfl), (Nat.le_of_ble_eq_true rfl)⟩) (hq_preV hKt hP (by decide) (sc_s_Pipe (rfl)) rfl) rfl rfl hl.1 rfl (lv_room (Nat.le_of_ble_eq_true rfl)) d_SC_count_114 ⟨(Nat.le_of_ble_eq_true rfl), (Nat.le_of_ble_eq_true rfl)⟩) hS (fun H locs hP hS => ?_)
              refine lv_goto (tgt := 121) hx hb d_SC_count_117 (by decide) ?_
              exact w_SC_count_121 X _ _ _ _ _ (lv_sub hl [] rfl) hP hS hf
          · replace hf := (if_neg c11).symm.trans hf
            by_cases c16 : x1 = 5
            · replace hf := (if_pos c16).symm.trans hf
              refine lv_tableIn (tgt := 122) hx hb d_SC_count_1 (by rw [c16]; decide) (by rw [c16]; decide) (by rw [c16]; rfl) (by decide) ?_
              refine lv_aload_n hx hb d_SC_count_122 rfl (lv_at hl 0 rfl) ?_
              refine hq_get hx hb hts i_SC hown hK hP 0 (by decide) (sc_s_SC (rfl)) rfl 3 (by decide) (hts _ sc_wd_172) (fun _ h => h) (v := .int (M 0 3)) rfl d_SC_count_123 ?_
              refine lv_if_eq (tgt := 139) hx hb d_SC_count_126 (by decide) (fun c17 => ?_) (fun c17 => ?_)
              · replace hf := (if_pos c17).symm.trans hf
                refine lv_iconst (v := 0) hx hb d_SC_count_139 (by decide) ?_
                exact w_SC_count_140 X _ _ _ _ _ (lv_sub hl [] rfl) hP hS hf
              · replace hf := (if_neg c17).symm.trans hf
                refine lv_aload_n hx hb d_SC_count_129 rfl (lv_at hl 0 rfl) ?_
                refine hq_get hx hb hts i_SC hown hK hP 0 (by decide) (sc_s_SC (rfl)) rfl 1 (by decide) (hts _ sc_wd_200) (fun _ h => h) (v := .ref (B + 37)) rfl d_SC_count_130 ?_
                refine hq_getN hx hb hts i_Plan hown hK hP 37 (by decide) (sc_s_Plan (rfl)) rfl 7 (by decide) (hts _ sc_wd_229) (fun _ h => h) (v := .int (M 37 7)) rfl d_SC_count_133 ?_
                refine lv_goto (tgt := 140) hx hb d_SC_count_136 (by decide) ?_
                exact w_SC_count_140 X _ _ _ _ _ (lv_sub hl [] rfl) hP hS hf
            · replace hf := (if_neg c16).symm.trans hf
              by_cases c18 : x1 = 6
              · replace hf := (if_pos c18).symm.trans hf
                refine lv_tableIn (tgt := 141) hx hb d_SC_count_1 (by rw [c18]; decide) (by rw [c18]; decide) (by rw [c18]; rfl) (by decide) ?_
                refine lv_aload_n hx hb d_SC_count_141 rfl (lv_at hl 0 rfl) ?_
                refine hq_get hx hb hts i_SC hown hK hP 0 (by decide) (sc_s_SC (rfl)) rfl 3 (by decide) (hts _ sc_wd_172) (fun _ h => h) (v := .int (M 0 3)) rfl d_SC_count_142 ?_
                refine lv_if_eq (tgt := 158) hx hb d_SC_count_145 (by decide) (fun c19 => ?_) (fun c19 => ?_)
                · replace hf := (if_pos c19).symm.trans hf
                  refine lv_iconst (v := 0) hx hb d_SC_count_158 (by decide) ?_
                  exact w_SC_count_159 X _ _ _ _ _ (lv_sub hl [] rfl) hP hS hf
                · replace hf := (if_neg c19).symm.trans hf
                  refine lv_aload_n hx hb d_SC_count_148 rfl (lv_at hl 0 rfl) ?_
                  refine hq_get hx hb hts i_SC hown hK hP 0 (by decide) (sc_s_SC (rfl)) rfl 1 (by decide) (hts _ sc_wd_200) (fun _ h => h) (v := .ref (B + 37)) rfl d_SC_count_149 ?_
                  refine hq_getN hx hb hts i_Plan hown hK hP 37 (by decide) (sc_s_Plan (rfl)) rfl 5 (by decide) (hts _ sc_wd_205) (fun _ h => h) (v := .int (M 37 5)) rfl d_SC_count_152 ?_
                  refine lv_goto (tgt := 159) hx hb d_SC_count_155 (by decide) ?_
                  exact w_SC_count_159 X _ _ _ _ _ (lv_sub hl [] rfl) hP hS hf
              · replace hf := (if_neg c18).symm.trans hf
                have tc1 := lv_neT c1 (a := 0) (by decide)
                have tc2 := lv_neT c2 (a := 1) (by decide)
                have tc4 := lv_neT c4 (a := 2) (by decide)
                have tc6 := lv_neT c6 (a := 3) (by decide)
                have tc11 := lv_neT c11 (a := 4) (by decide)
                have tc16 := lv_neT c16 (a := 5) (by decide)
                have tc18 := lv_neT c18 (a := 6) (by decide)
                refine lv_tableOut (tgt := 160) hx hb d_SC_count_1 (by omega) (by decide) ?_
                refine lv_iconst (v := (-1)) hx hb d_SC_count_160 (by decide) ?_
                obtain ⟨h9, h8⟩ := Prod.mk.inj (Option.some.inj hf)
                subst h9
                subst h8
                exact W.iret hx hb hr (fun t ht _ => ⟨⟨_, (), rfl, rfl, by subst ht; exact hP⟩, hS.F ht⟩) hS.2.2 d_SC_count_161 hlk
set_option maxHeartbeats 4000000 in
set_option maxRecDepth 100000 in
theorem c_SC_count {l : Launch} {D : va_G} {ca : Nat → ClassId} {B rl : Nat} {r : Int32} {x1 : Int32} {M M9 : hm_M} (hf : f_SC_count M x1 = some (r, M9)) : Met l y_SC_count [Cond.code y_SC_count b_SC_count 2 (some .int)] ({ frames := 1, cells := 0, slots := 0, locals := 22 } : Room) (hq_Pre D sc_cl ca 64 (sc_sh rl) B (sc_ty ca) hq_tb M hm_L0 [.ref (B + 0), .int x1]) (hq_QI D sc_cl ca 64 (sc_sh rl) B r M9 hm_L0) 0 0 (hm_A B 64) := by
  refine Met.ofW (cc := b_SC_count) (maxL := 2) (ret := (some .int)) (by decide +kernel) rfl ?_
  intro p e s m args below meth c s₁ Bd hml hv
  obtain ⟨rfl, hP, hK⟩ := hv
  have hl := lv_entry ([.ref (B + 0), .int x1]) (n := 2) (Nat.le_of_ble_eq_true rfl)
  rw [lg_entry_eq]
  generalize (lg_sl ([.ref (B + 0), .int x1]) ++ List.replicate (2 - (lg_sl ([.ref (B + 0), .int x1])).length) Slot.unset).toArray = ls at hl ⊢
  have hl : lv_has ls 2 [(0, .ref (B + 0)), (1, .int x1)] := hl
  exact w_SC_count_e ⟨Bd.exec, Bd.bytes, hml, findClass_of_methodNamed Bd.named, Bd.returns, Bd.notSynchronized, hK⟩  _ _ _ _ _ hl hP va_S.rf hf
