set_option maxHeartbeats 4000000 in
set_option maxRecDepth 100000 in
theorem w_Mo_no_17 {p : Program} {l : Launch} {e : Env} {s : State} {m : MethodId} {args : Array Value} {below : List Frame} {meth : Method} {c : Code} {D : va_G} {ca : Nat → ClassId} {B : Nat} {r : Int32} {M9 : mo_M} (X : hq_X p s m args meth c b_Mo_no R_Mo 2 (some .boolean) D mo_cl (mo_ty ca) hq_tb) : ∀ (y0 : Int32), ∀ (M : mo_M) (H : Heap) (locs : List Loc) (ls : Array Slot), lv_has ls 2 [] → hm_P D mo_cl ca 15 (mo_sh) B M.1 M.2 H → va_S (hm_A B 15) s.heap H locs → f_Mo_no_17 y0 M = some (r, M9) → W p l e ({ frames := 0, cells := 0, slots := 0, locals := 0 } : Room) s m args below meth c H locs 0 0 (MQ below (hq_QI D mo_cl ca 15 (mo_sh) B r M9.1 M9.2) args s 0 0 (hm_A B 15)) (F0 m 17 ls [.int y0]) := by
  obtain ⟨hx, hb, hml, hown, hr, hlk, hKt⟩ := id X
  have hK := hKt.1
  have hts : ∀ w ∈ hq_tb, w.before args s = true := fun w h => hKt.2.2 w h args
  intro y0 M H locs ls hl hP hS hf
  unfold f_Mo_no_17 at hf
  obtain ⟨g1, hf⟩ := hm_gd_some hf
  obtain ⟨h9, h8⟩ := Prod.mk.inj (Option.some.inj hf)
  subst h9
  subst h8
  exact W.zret (ty := .boolean) hx hb hr (hq_nb2 (of_decide_eq_true g1)) (fun t ht _ => ⟨⟨_, (), rfl, rfl, by subst ht; exact hP⟩, hS.F ht⟩) hS.2.2 d_Mo_no_17 hlk
set_option maxHeartbeats 4000000 in
set_option maxRecDepth 100000 in
theorem w_Mo_no_12 {p : Program} {l : Launch} {e : Env} {s : State} {m : MethodId} {args : Array Value} {below : List Frame} {meth : Method} {c : Code} {D : va_G} {ca : Nat → ClassId} {B : Nat} {r : Int32} {M9 : mo_M} (X : hq_X p s m args meth c b_Mo_no R_Mo 2 (some .boolean) D mo_cl (mo_ty ca) hq_tb) : ∀ (M : mo_M) (H : Heap) (locs : List Loc) (ls : Array Slot), lv_has ls 2 [] → hm_P D mo_cl ca 15 (mo_sh) B M.1 M.2 H → va_S (hm_A B 15) s.heap H locs → f_Mo_no_12 M = some (r, M9) → W p l e ({ frames := 0, cells := 0, slots := 0, locals := 0 } : Room) s m args below meth c H locs 0 0 (MQ below (hq_QI D mo_cl ca 15 (mo_sh) B r M9.1 M9.2) args s 0 0 (hm_A B 15)) (F0 m 12 ls []) := by
  obtain ⟨hx, hb, hml, hown, hr, hlk, hKt⟩ := id X
  have hK := hKt.1
  have hts : ∀ w ∈ hq_tb, w.before args s = true := fun w h => hKt.2.2 w h args
  intro  M H locs ls hl hP hS hf
  unfold f_Mo_no_12 at hf
  refine lv_iconst (v := 1) hx hb d_Mo_no_12 (by decide) ?_
  refine lv_goto (tgt := 17) hx hb d_Mo_no_13 (by decide) ?_
  exact w_Mo_no_17 X _ _ _ _ _ (lv_sub hl [] rfl) hP hS hf
set_option maxHeartbeats 4000000 in
set_option maxRecDepth 100000 in
theorem w_Mo_no_e {p : Program} {l : Launch} {e : Env} {s : State} {m : MethodId} {args : Array Value} {below : List Frame} {meth : Method} {c : Code} {D : va_G} {ca : Nat → ClassId} {B : Nat} {r : Int32} {M9 : mo_M} (X : hq_X p s m args meth c b_Mo_no R_Mo 2 (some .boolean) D mo_cl (mo_ty ca) hq_tb) : ∀ (x1 : Int32), ∀ (M : mo_M) (H : Heap) (locs : List Loc) (ls : Array Slot), lv_has ls 2 [(0, .ref (B + 0)), (1, .int x1)] → hm_P D mo_cl ca 15 (mo_sh) B M.1 M.2 H → va_S (hm_A B 15) s.heap H locs → f_Mo_no M x1 = some (r, M9) → W p l e ({ frames := 0, cells := 0, slots := 0, locals := 0 } : Room) s m args below meth c H locs 0 0 (MQ below (hq_QI D mo_cl ca 15 (mo_sh) B r M9.1 M9.2) args s 0 0 (hm_A B 15)) (F0 m 0 ls []) := by
  obtain ⟨hx, hb, hml, hown, hr, hlk, hKt⟩ := id X
  have hK := hKt.1
  have hts : ∀ w ∈ hq_tb, w.before args s = true := fun w h => hKt.2.2 w h args
  intro x1 M H locs ls hl hP hS hf
  unfold f_Mo_no at hf
  refine lv_iload_n hx hb d_Mo_no_0 rfl (lv_at hl 1 rfl) ?_
  refine lv_if_lt (tgt := 12) hx hb d_Mo_no_1 (by decide) (fun c1 => ?_) (fun c1 => ?_)
  · replace hf := (if_pos c1).symm.trans hf
    exact w_Mo_no_12 X _ _ _ _ (lv_sub hl [] rfl) hP hS hf
  · replace hf := (if_neg c1).symm.trans hf
    refine lv_iload_n hx hb d_Mo_no_4 rfl (lv_at hl 1 rfl) ?_
    refine lv_aload_n hx hb d_Mo_no_5 rfl (lv_at hl 0 rfl) ?_
    refine hq_get hx hb hts i_Mo hown hK hP 0 (by decide) (mo_s_Mo (rfl)) rfl 9 (by decide) (hts _ mo_wd_0) (fun _ h => h) (v := .int (M.1 0 9)) rfl d_Mo_no_6 ?_
    refine lv_icmp_lt (tgt := 16) hx hb d_Mo_no_9 (by decide) (fun c2 => ?_) (fun c2 => ?_)
    · replace hf := (if_pos c2).symm.trans hf
      refine lv_iconst (v := 0) hx hb d_Mo_no_16 (by decide) ?_
      exact w_Mo_no_17 X _ _ _ _ _ (lv_sub hl [] rfl) hP hS hf
    · replace hf := (if_neg c2).symm.trans hf
      exact w_Mo_no_12 X _ _ _ _ (lv_sub hl [] rfl) hP hS hf
set_option maxHeartbeats 4000000 in
set_option maxRecDepth 100000 in
theorem c_Mo_no {l : Launch} {D : va_G} {ca : Nat → ClassId} {B : Nat} {r : Int32} {x1 : Int32} {M M9 : mo_M} (hf : f_Mo_no M x1 = some (r, M9)) : Met l y_Mo_no [Cond.code y_Mo_no b_Mo_no 2 (some .boolean)] ({ frames := 0, cells := 0, slots := 0, locals := 0 } : Room) (hq_Pre D mo_cl ca 15 (mo_sh) B (mo_ty ca) hq_tb M.1 M.2 [.ref (B + 0), .int x1]) (hq_QI D mo_cl ca 15 (mo_sh) B r M9.1 M9.2) 0 0 (hm_A B 15) := by
  refine Met.ofW (cc := b_Mo_no) (maxL := 2) (ret := (some .boolean)) (by decide +kernel) rfl ?_
  intro p e s m args below meth c s₁ Bd hml hv
  obtain ⟨rfl, hP, hK⟩ := hv
  have hl := lv_entry ([.ref (B + 0), .int x1]) (n := 2) (Nat.le_of_ble_eq_true rfl)
  rw [lg_entry_eq]
  generalize (lg_sl ([.ref (B + 0), .int x1]) ++ List.replicate (2 - (lg_sl ([.ref (B + 0), .int x1])).length) Slot.unset).toArray = ls at hl ⊢
  have hl : lv_has ls 2 [(0, .ref (B + 0)), (1, .int x1)] := hl
  exact w_Mo_no_e ⟨Bd.exec, Bd.bytes, hml, findClass_of_methodNamed Bd.named, Bd.returns, Bd.notSynchronized, hK⟩  _ _ _ _ _ hl hP va_S.rf hf
set_option maxHeartbeats 4000000 in
set_option maxRecDepth 100000 in
theorem w_Mo_changed_e {p : Program} {l : Launch} {e : Env} {s : State} {m : MethodId} {args : Array Value} {below : List Frame} {meth : Method} {c : Code} {D : va_G} {ca : Nat → ClassId} {B : Nat} {r : Int32} {M9 : mo_M} (X : hq_X p s m args meth c b_Mo_changed R_Mo 2 (some .int) D mo_cl (mo_ty ca) hq_tb) : ∀ (x1 : Int32), ∀ (M : mo_M) (H : Heap) (locs : List Loc) (ls : Array Slot), lv_has ls 2 [(0, .ref (B + 0)), (1, .int x1)] → hm_P D mo_cl ca 15 (mo_sh) B M.1 M.2 H → va_S (hm_A B 15) s.heap H locs → f_Mo_changed M x1 = some (r, M9) → W p l e ({ frames := 0, cells := 0, slots := 0, locals := 0 } : Room) s m args below meth c H locs 0 0 (MQ below (hq_QI D mo_cl ca 15 (mo_sh) B r M9.1 M9.2) args s 0 0 (hm_A B 15)) (F0 m 0 ls []) := by
  obtain ⟨hx, hb, hml, hown, hr, hlk, hKt⟩ := id X
  have hK := hKt.1
  have hts : ∀ w ∈ hq_tb, w.before args s = true := fun w h => hKt.2.2 w h args
  intro x1 M H locs ls hl hP hS hf
  unfold f_Mo_changed at hf
  refine lv_aload_n hx hb d_Mo_changed_0 rfl (lv_at hl 0 rfl) ?_
  refine lv_iconst (v := 0) hx hb d_Mo_changed_1 (by decide) ?_
  refine hq_put hx hb hts i_Mo t_Mo t_Mo_ok n_Mo hown hK hP hS 0 (by decide) (mo_s_Mo (rfl)) rfl 13 (by decide) (hts _ mo_wd_1) (fun _ h => h) rfl (ty := .boolean) (x := 0) (by decide +kernel) rfl rfl rfl d_Mo_changed_2 (fun H locs hP hS => ?_)
  obtain ⟨M_1, e_1, hf⟩ := mo_st_some hf
  replace hP : hm_P D mo_cl ca 15 mo_sh B M_1.1 M_1.2 H := by rw [e_1]; exact hP
  refine lv_aload_n hx hb d_Mo_changed_5 rfl (lv_at hl 0 rfl) ?_
  refine lv_iconst (v := 0) hx hb d_Mo_changed_6 (by decide) ?_
  refine hq_put hx hb hts i_Mo t_Mo t_Mo_ok n_Mo hown hK hP hS 0 (by decide) (mo_s_Mo (rfl)) rfl 14 (by decide) (hts _ mo_wd_2) (fun _ h => h) rfl (ty := .boolean) (x := 0) (by decide +kernel) rfl rfl rfl d_Mo_changed_7 (fun H locs hP hS => ?_)
  obtain ⟨M_2, e_2, hf⟩ := mo_st_some hf
  replace hP : hm_P D mo_cl ca 15 mo_sh B M_2.1 M_2.2 H := by rw [e_2]; exact hP
  refine lv_iload_n hx hb d_Mo_changed_10 rfl (lv_at hl 1 rfl) ?_
  obtain ⟨h9, h8⟩ := Prod.mk.inj (Option.some.inj hf)
  subst h9
  subst h8
  exact W.iret hx hb hr (fun t ht _ => ⟨⟨_, (), rfl, rfl, by subst ht; exact hP⟩, hS.F ht⟩) hS.2.2 d_Mo_changed_11 hlk
set_option maxHeartbeats 4000000 in
set_option maxRecDepth 100000 in
theorem c_Mo_changed {l : Launch} {D : va_G} {ca : Nat → ClassId} {B : Nat} {r : Int32} {x1 : Int32} {M M9 : mo_M} (hf : f_Mo_changed M x1 = some (r, M9)) : Met l y_Mo_changed [Cond.code y_Mo_changed b_Mo_changed 2 (some .int)] ({ frames := 0, cells := 0, slots := 0, locals := 0 } : Room) (hq_Pre D mo_cl ca 15 (mo_sh) B (mo_ty ca) hq_tb M.1 M.2 [.ref (B + 0), .int x1]) (hq_QI D mo_cl ca 15 (mo_sh) B r M9.1 M9.2) 0 0 (hm_A B 15) := by
  refine Met.ofW (cc := b_Mo_changed) (maxL := 2) (ret := (some .int)) (by decide +kernel) rfl ?_
  intro p e s m args below meth c s₁ Bd hml hv
  obtain ⟨rfl, hP, hK⟩ := hv
  have hl := lv_entry ([.ref (B + 0), .int x1]) (n := 2) (Nat.le_of_ble_eq_true rfl)
  rw [lg_entry_eq]
  generalize (lg_sl ([.ref (B + 0), .int x1]) ++ List.replicate (2 - (lg_sl ([.ref (B + 0), .int x1])).length) Slot.unset).toArray = ls at hl ⊢
  have hl : lv_has ls 2 [(0, .ref (B + 0)), (1, .int x1)] := hl
  exact w_Mo_changed_e ⟨Bd.exec, Bd.bytes, hml, findClass_of_methodNamed Bd.named, Bd.returns, Bd.notSynchronized, hK⟩  _ _ _ _ _ hl hP va_S.rf hf
set_option maxHeartbeats 4000000 in
set_option maxRecDepth 100000 in
theorem w_Mo_input_12 {p : Program} {l : Launch} {e : Env} {s : State} {m : MethodId} {args : Array Value} {below : List Frame} {meth : Method} {c : Code} {D : va_G} {ca : Nat → ClassId} {B : Nat} {r : Int32} {M9 : mo_M} (X : hq_X p s m args meth c b_Mo_input R_Mo 3 (some .int) D mo_cl (mo_ty ca) hq_tb) : ∀ (M : mo_M) (H : Heap) (locs : List Loc) (ls : Array Slot), lv_has ls 3 [] → hm_P D mo_cl ca 15 (mo_sh) B M.1 M.2 H → va_S (hm_A B 15) s.heap H locs → f_Mo_input_12 M = some (r, M9) → W p l e ({ frames := 1, cells := 0, slots := 0, locals := 21 } : Room) s m args below meth c H locs 0 0 (MQ below (hq_QI D mo_cl ca 15 (mo_sh) B r M9.1 M9.2) args s 0 0 (hm_A B 15)) (F0 m 12 ls []) := by
  obtain ⟨hx, hb, hml, hown, hr, hlk, hKt⟩ := id X
  have hK := hKt.1
  have hts : ∀ w ∈ hq_tb, w.before args s = true := fun w h => hKt.2.2 w h args
  intro  M H locs ls hl hP hS hf
  unfold f_Mo_input_12 at hf
  refine lv_iconst (v := (-1)) hx hb d_Mo_input_12 (by decide) ?_
  obtain ⟨h9, h8⟩ := Prod.mk.inj (Option.some.inj hf)
  subst h9
  subst h8
  exact W.iret hx hb hr (fun t ht _ => ⟨⟨_, (), rfl, rfl, by subst ht; exact hP⟩, hS.F ht⟩) hS.2.2 d_Mo_input_13 hlk
set_option maxHeartbeats 4000000 in
set_option maxRecDepth 100000 in
theorem w_Mo_input_e {p : Program} {l : Launch} {e : Env} {s : State} {m : MethodId} {args : Array Value} {below : List Frame} {meth : Method} {c : Code} {D : va_G} {ca : Nat → ClassId} {B : Nat} {r : Int32} {M9 : mo_M} (X : hq_X p s m args meth c b_Mo_input R_Mo 3 (some .int) D mo_cl (mo_ty ca) hq_tb) : ∀ (x1 : Int32), ∀ (x2 : Int32), ∀ (M : mo_M) (H : Heap) (locs : List Loc) (ls : Array Slot), lv_has ls 3 [(0, .ref (B + 0)), (1, .int x1), (2, .int x2)] → hm_P D mo_cl ca 15 (mo_sh) B M.1 M.2 H → va_S (hm_A B 15) s.heap H locs → f_Mo_input M x1 x2 = some (r, M9) → W p l e ({ frames := 1, cells := 0, slots := 0, locals := 21 } : Room) s m args below meth c H locs 0 0 (MQ below (hq_QI D mo_cl ca 15 (mo_sh) B r M9.1 M9.2) args s 0 0 (hm_A B 15)) (F0 m 0 ls []) := by
  obtain ⟨hx, hb, hml, hown, hr, hlk, hKt⟩ := id X
  have hK := hKt.1
  have hts : ∀ w ∈ hq_tb, w.before args s = true := fun w h => hKt.2.2 w h args
  intro x1 x2 M H locs ls hl hP hS hf
  unfold f_Mo_input at hf
  refine lv_iload_n hx hb d_Mo_input_0 rfl (lv_at hl 1 rfl) ?_
  refine lv_if_lt (tgt := 12) hx hb d_Mo_input_1 (by decide) (fun c1 => ?_) (fun c1 => ?_)
  · replace hf := (if_pos c1).symm.trans hf
    exact w_Mo_input_12 X _ _ _ _ (lv_sub hl [] rfl) hP hS hf
  · replace hf := (if_neg c1).symm.trans hf
    refine lv_iload_n hx hb d_Mo_input_4 rfl (lv_at hl 1 rfl) ?_
    refine lv_aload_n hx hb d_Mo_input_5 rfl (lv_at hl 0 rfl) ?_
    refine hq_get hx hb hts i_Mo hown hK hP 0 (by decide) (mo_s_Mo (rfl)) rfl 0 (by decide) (hts _ mo_wd_3) (fun _ h => h) (v := .int (M.1 0 0)) rfl d_Mo_input_6 ?_
    refine lv_icmp_lt (tgt := 14) hx hb d_Mo_input_9 (by decide) (fun c2 => ?_) (fun c2 => ?_)
    · replace hf := (if_pos c2).symm.trans hf
      refine lv_aload_n hx hb d_Mo_input_14 rfl (lv_at hl 0 rfl) ?_
      refine hq_get hx hb hts i_Mo hown hK hP 0 (by decide) (mo_s_Mo (rfl)) rfl 1 (by decide) (hts _ mo_wd_4) (fun _ h => h) (v := .ref (B + 1)) rfl d_Mo_input_15 ?_
      refine lv_iload_n hx hb d_Mo_input_18 rfl (lv_at hl 1 rfl) ?_
      refine lv_iload_n hx hb d_Mo_input_19 rfl (lv_at hl 2 rfl) ?_
      obtain ⟨g3, hf⟩ := hm_gd_some hf
      refine hq_iast hx hb hK hP hS 1 (by decide) (mo_s_ia24 (rfl)) 0 rfl g3 d_Mo_input_20 (fun H locs hP hS => ?_)
      obtain ⟨M_4, e_4, hf⟩ := mo_st_some hf
      replace hP : hm_P D mo_cl ca 15 mo_sh B M_4.1 M_4.2 H := by rw [e_4]; exact hP
      refine lv_aload_n hx hb d_Mo_input_21 rfl (lv_at hl 0 rfl) ?_
      refine lv_iconst (v := 0) hx hb d_Mo_input_22 (by decide) ?_
      obtain ⟨r5, M_6, hc7, hf⟩ := hm_bI_some hf
      refine hq_callI (va_runV (As := [.int 0]) (rest := []) ⟨hx, hb, hml, hown, hts⟩ (c_Mo_changed (l := l) (D := D) (ca := ca) (B := B)  hc7) (hq_cwV (nn := 1) hts mo_wd_5 mo_wd_6 mo_wd_7 mo_wd_8 mo_wd_9 (by decide +kernel) rfl rfl ⟨(Nat.le_of_ble_eq_true rfl), (Nat.le_of_ble_eq_true rfl)⟩) (hq_preV hKt hP (by decide) (mo_s_Mo (rfl)) rfl) rfl rfl hl.1 rfl (lv_room (Nat.le_of_ble_eq_true rfl)) d_Mo_input_23 ⟨(Nat.le_of_ble_eq_true rfl), (Nat.le_of_ble_eq_true rfl)⟩) hS (fun H locs hP hS => ?_)
      obtain ⟨h9, h8⟩ := Prod.mk.inj (Option.some.inj hf)
      subst h9
      subst h8
      exact W.iret hx hb hr (fun t ht _ => ⟨⟨_, (), rfl, rfl, by subst ht; exact hP⟩, hS.F ht⟩) hS.2.2 d_Mo_input_26 hlk
    · replace hf := (if_neg c2).symm.trans hf
      exact w_Mo_input_12 X _ _ _ _ (lv_sub hl [] rfl) hP hS hf
set_option maxHeartbeats 4000000 in
set_option maxRecDepth 100000 in
theorem c_Mo_input {l : Launch} {D : va_G} {ca : Nat → ClassId} {B : Nat} {r : Int32} {x1 : Int32} {x2 : Int32} {M M9 : mo_M} (hf : f_Mo_input M x1 x2 = some (r, M9)) : Met l y_Mo_input [Cond.code y_Mo_input b_Mo_input 3 (some .int)] ({ frames := 1, cells := 0, slots := 0, locals := 21 } : Room) (hq_Pre D mo_cl ca 15 (mo_sh) B (mo_ty ca) hq_tb M.1 M.2 [.ref (B + 0), .int x1, .int x2]) (hq_QI D mo_cl ca 15 (mo_sh) B r M9.1 M9.2) 0 0 (hm_A B 15) := by
  refine Met.ofW (cc := b_Mo_input) (maxL := 3) (ret := (some .int)) (by decide +kernel) rfl ?_
  intro p e s m args below meth c s₁ Bd hml hv
  obtain ⟨rfl, hP, hK⟩ := hv
  have hl := lv_entry ([.ref (B + 0), .int x1, .int x2]) (n := 3) (Nat.le_of_ble_eq_true rfl)
  rw [lg_entry_eq]
  generalize (lg_sl ([.ref (B + 0), .int x1, .int x2]) ++ List.replicate (3 - (lg_sl ([.ref (B + 0), .int x1, .int x2])).length) Slot.unset).toArray = ls at hl ⊢
  have hl : lv_has ls 3 [(0, .ref (B + 0)), (1, .int x1), (2, .int x2)] := hl
  exact w_Mo_input_e ⟨Bd.exec, Bd.bytes, hml, findClass_of_methodNamed Bd.named, Bd.returns, Bd.notSynchronized, hK⟩  _ _ _ _ _ _ hl hP va_S.rf hf
set_option maxHeartbeats 4000000 in
set_option maxRecDepth 100000 in
theorem w_Mo_stage_9 {p : Program} {l : Launch} {e : Env} {s : State} {m : MethodId} {args : Array Value} {below : List Frame} {meth : Method} {c : Code} {D : va_G} {ca : Nat → ClassId} {B : Nat} {r : Int32} {M9 : mo_M} (X : hq_X p s m args meth c b_Mo_stage R_Mo 3 (some .int) D mo_cl (mo_ty ca) hq_tb) : ∀ (M : mo_M) (H : Heap) (locs : List Loc) (ls : Array Slot), lv_has ls 3 [] → hm_P D mo_cl ca 15 (mo_sh) B M.1 M.2 H → va_S (hm_A B 15) s.heap H locs → f_Mo_stage_9 M = some (r, M9) → W p l e ({ frames := 1, cells := 0, slots := 0, locals := 21 } : Room) s m args below meth c H locs 0 0 (MQ below (hq_QI D mo_cl ca 15 (mo_sh) B r M9.1 M9.2) args s 0 0 (hm_A B 15)) (F0 m 9 ls []) := by
  obtain ⟨hx, hb, hml, hown, hr, hlk, hKt⟩ := id X
  have hK := hKt.1
  have hts : ∀ w ∈ hq_tb, w.before args s = true := fun w h => hKt.2.2 w h args
  intro  M H locs ls hl hP hS hf
  unfold f_Mo_stage_9 at hf
  refine lv_iconst (v := (-1)) hx hb d_Mo_stage_9 (by decide) ?_
  obtain ⟨h9, h8⟩ := Prod.mk.inj (Option.some.inj hf)
  subst h9
  subst h8
  exact W.iret hx hb hr (fun t ht _ => ⟨⟨_, (), rfl, rfl, by subst ht; exact hP⟩, hS.F ht⟩) hS.2.2 d_Mo_stage_10 hlk
set_option maxHeartbeats 4000000 in
set_option maxRecDepth 100000 in
theorem w_Mo_stage_e {p : Program} {l : Launch} {e : Env} {s : State} {m : MethodId} {args : Array Value} {below : List Frame} {meth : Method} {c : Code} {D : va_G} {ca : Nat → ClassId} {B : Nat} {r : Int32} {M9 : mo_M} (X : hq_X p s m args meth c b_Mo_stage R_Mo 3 (some .int) D mo_cl (mo_ty ca) hq_tb) : ∀ (x1 : Int32), ∀ (x2 : Int32), ∀ (M : mo_M) (H : Heap) (locs : List Loc) (ls : Array Slot), lv_has ls 3 [(0, .ref (B + 0)), (1, .int x1), (2, .int x2)] → hm_P D mo_cl ca 15 (mo_sh) B M.1 M.2 H → va_S (hm_A B 15) s.heap H locs → f_Mo_stage M x1 x2 = some (r, M9) → W p l e ({ frames := 1, cells := 0, slots := 0, locals := 21 } : Room) s m args below meth c H locs 0 0 (MQ below (hq_QI D mo_cl ca 15 (mo_sh) B r M9.1 M9.2) args s 0 0 (hm_A B 15)) (F0 m 0 ls []) := by
  obtain ⟨hx, hb, hml, hown, hr, hlk, hKt⟩ := id X
  have hK := hKt.1
  have hts : ∀ w ∈ hq_tb, w.before args s = true := fun w h => hKt.2.2 w h args
  intro x1 x2 M H locs ls hl hP hS hf
  unfold f_Mo_stage at hf
  refine lv_iload_n hx hb d_Mo_stage_0 rfl (lv_at hl 2 rfl) ?_
  refine lv_if_lt (tgt := 9) hx hb d_Mo_stage_1 (by decide) (fun c1 => ?_) (fun c1 => ?_)
  · replace hf := (if_pos c1).symm.trans hf
    exact w_Mo_stage_9 X _ _ _ _ (lv_sub hl [] rfl) hP hS hf
  · replace hf := (if_neg c1).symm.trans hf
    refine lv_iload_n hx hb d_Mo_stage_4 rfl (lv_at hl 2 rfl) ?_
    refine lv_iconst (v := 3) hx hb d_Mo_stage_5 (by decide) ?_
    refine lv_icmp_le (tgt := 11) hx hb d_Mo_stage_6 (by decide) (fun c2 => ?_) (fun c2 => ?_)
    · replace hf := (if_pos c2).symm.trans hf
      refine lv_aload_n hx hb d_Mo_stage_11 rfl (lv_at hl 0 rfl) ?_
      refine hq_get hx hb hts i_Mo hown hK hP 0 (by decide) (mo_s_Mo (rfl)) rfl 9 (by decide) (hts _ mo_wd_0) (fun _ h => h) (v := .int (M.1 0 9)) rfl d_Mo_stage_12 ?_
      refine lv_bipush (v := 8) hx hb d_Mo_stage_15 (by decide) ?_
      refine lv_icmp_ne (tgt := 23) hx hb d_Mo_stage_17 (by decide) (fun c3 => ?_) (fun c3 => ?_)
      · replace hf := (if_neg c3).symm.trans hf
        refine lv_aload_n hx hb d_Mo_stage_23 rfl (lv_at hl 0 rfl) ?_
        refine hq_get hx hb hts i_Mo hown hK hP 0 (by decide) (mo_s_Mo (rfl)) rfl 2 (by decide) (hts _ mo_wd_10) (fun _ h => h) (v := .ref (B + 2)) rfl d_Mo_stage_24 ?_
        refine lv_aload_n hx hb d_Mo_stage_27 rfl (lv_at hl 0 rfl) ?_
        refine hq_get hx hb hts i_Mo hown hK hP 0 (by decide) (mo_s_Mo (rfl)) rfl 9 (by decide) (hts _ mo_wd_0) (fun _ h => h) (v := .int (M.1 0 9)) rfl d_Mo_stage_28 ?_
        refine lv_iload_n hx hb d_Mo_stage_31 rfl (lv_at hl 1 rfl) ?_
        obtain ⟨g4, hf⟩ := hm_gd_some hf
        refine hq_iast hx hb hK hP hS 2 (by decide) (mo_s_ia8 (rfl)) 0 rfl g4 d_Mo_stage_32 (fun H locs hP hS => ?_)
        obtain ⟨M_5, e_5, hf⟩ := mo_st_some hf
        replace hP : hm_P D mo_cl ca 15 mo_sh B M_5.1 M_5.2 H := by rw [e_5]; exact hP
        refine lv_aload_n hx hb d_Mo_stage_33 rfl (lv_at hl 0 rfl) ?_
        refine hq_get hx hb hts i_Mo hown hK hP 0 (by decide) (mo_s_Mo (rfl)) rfl 3 (by decide) (hts _ mo_wd_11) (fun _ h => h) (v := .ref (B + 3)) rfl d_Mo_stage_34 ?_
        refine lv_aload_n hx hb d_Mo_stage_37 rfl (lv_at hl 0 rfl) ?_
        refine hq_get hx hb hts i_Mo hown hK hP 0 (by decide) (mo_s_Mo (rfl)) rfl 9 (by decide) (hts _ mo_wd_0) (fun _ h => h) (v := .int (M_5.1 0 9)) rfl d_Mo_stage_38 ?_
        refine lv_iload_n hx hb d_Mo_stage_41 rfl (lv_at hl 2 rfl) ?_
        obtain ⟨g6, hf⟩ := hm_gd_some hf
        refine hq_iast hx hb hK hP hS 3 (by decide) (mo_s_ia8 (rfl)) 0 rfl g6 d_Mo_stage_42 (fun H locs hP hS => ?_)
        obtain ⟨M_7, e_7, hf⟩ := mo_st_some hf
        replace hP : hm_P D mo_cl ca 15 mo_sh B M_7.1 M_7.2 H := by rw [e_7]; exact hP
        refine lv_aload_n hx hb d_Mo_stage_43 rfl (lv_at hl 0 rfl) ?_
        refine lv_dup hx hb d_Mo_stage_44 rfl ?_
        refine hq_get hx hb hts i_Mo hown hK hP 0 (by decide) (mo_s_Mo (rfl)) rfl 9 (by decide) (hts _ mo_wd_0) (fun _ h => h) (v := .int (M_7.1 0 9)) rfl d_Mo_stage_45 ?_
        refine lv_iconst (v := 1) hx hb d_Mo_stage_48 (by decide) ?_
        refine lv_iadd hx hb d_Mo_stage_49 ?_
        refine hq_put hx hb hts i_Mo t_Mo t_Mo_ok n_Mo hown hK hP hS 0 (by decide) (mo_s_Mo (rfl)) rfl 9 (by decide) (hts _ mo_wd_0) (fun _ h => h) rfl (ty := .int) (x := ((M_7.1 0 9) + 1)) (by decide +kernel) rfl rfl rfl d_Mo_stage_50 (fun H locs hP hS => ?_)
        obtain ⟨M_8, e_8, hf⟩ := mo_st_some hf
        replace hP : hm_P D mo_cl ca 15 mo_sh B M_8.1 M_8.2 H := by rw [e_8]; exact hP
        refine lv_aload_n hx hb d_Mo_stage_53 rfl (lv_at hl 0 rfl) ?_
        refine lv_aload_n hx hb d_Mo_stage_54 rfl (lv_at hl 0 rfl) ?_
        refine hq_get hx hb hts i_Mo hown hK hP 0 (by decide) (mo_s_Mo (rfl)) rfl 9 (by decide) (hts _ mo_wd_0) (fun _ h => h) (v := .int (M_8.1 0 9)) rfl d_Mo_stage_55 ?_
        refine lv_iconst (v := 1) hx hb d_Mo_stage_58 (by decide) ?_
        refine lv_isub hx hb d_Mo_stage_59 ?_
        obtain ⟨r9, M_10, hc11, hf⟩ := hm_bI_some hf
        refine hq_callI (va_runV (As := [.int ((M_8.1 0 9) - 1)]) (rest := []) ⟨hx, hb, hml, hown, hts⟩ (c_Mo_changed (l := l) (D := D) (ca := ca) (B := B)  hc11) (hq_cwV (nn := 1) hts mo_wd_5 mo_wd_6 mo_wd_7 mo_wd_8 mo_wd_9 (by decide +kernel) rfl rfl ⟨(Nat.le_of_ble_eq_true rfl), (Nat.le_of_ble_eq_true rfl)⟩) (hq_preV hKt hP (by decide) (mo_s_Mo (rfl)) rfl) rfl rfl hl.1 rfl (lv_room (Nat.le_of_ble_eq_true rfl)) d_Mo_stage_60 ⟨(Nat.le_of_ble_eq_true rfl), (Nat.le_of_ble_eq_true rfl)⟩) hS (fun H locs hP hS => ?_)
        obtain ⟨h9, h8⟩ := Prod.mk.inj (Option.some.inj hf)
        subst h9
        subst h8
        exact W.iret hx hb hr (fun t ht _ => ⟨⟨_, (), rfl, rfl, by subst ht; exact hP⟩, hS.F ht⟩) hS.2.2 d_Mo_stage_63 hlk
      · replace hf := (if_pos c3).symm.trans hf
        refine lv_bipush (v := (-2)) hx hb d_Mo_stage_20 (by decide) ?_
        obtain ⟨h9, h8⟩ := Prod.mk.inj (Option.some.inj hf)
        subst h9
        subst h8
        exact W.iret hx hb hr (fun t ht _ => ⟨⟨_, (), rfl, rfl, by subst ht; exact hP⟩, hS.F ht⟩) hS.2.2 d_Mo_stage_22 hlk
    · replace hf := (if_neg c2).symm.trans hf
      exact w_Mo_stage_9 X _ _ _ _ (lv_sub hl [] rfl) hP hS hf
set_option maxHeartbeats 4000000 in
set_option maxRecDepth 100000 in
theorem c_Mo_stage {l : Launch} {D : va_G} {ca : Nat → ClassId} {B : Nat} {r : Int32} {x1 : Int32} {x2 : Int32} {M M9 : mo_M} (hf : f_Mo_stage M x1 x2 = some (r, M9)) : Met l y_Mo_stage [Cond.code y_Mo_stage b_Mo_stage 3 (some .int)] ({ frames := 1, cells := 0, slots := 0, locals := 21 } : Room) (hq_Pre D mo_cl ca 15 (mo_sh) B (mo_ty ca) hq_tb M.1 M.2 [.ref (B + 0), .int x1, .int x2]) (hq_QI D mo_cl ca 15 (mo_sh) B r M9.1 M9.2) 0 0 (hm_A B 15) := by
  refine Met.ofW (cc := b_Mo_stage) (maxL := 3) (ret := (some .int)) (by decide +kernel) rfl ?_
  intro p e s m args below meth c s₁ Bd hml hv
  obtain ⟨rfl, hP, hK⟩ := hv
  have hl := lv_entry ([.ref (B + 0), .int x1, .int x2]) (n := 3) (Nat.le_of_ble_eq_true rfl)
  rw [lg_entry_eq]
  generalize (lg_sl ([.ref (B + 0), .int x1, .int x2]) ++ List.replicate (3 - (lg_sl ([.ref (B + 0), .int x1, .int x2])).length) Slot.unset).toArray = ls at hl ⊢
  have hl : lv_has ls 3 [(0, .ref (B + 0)), (1, .int x1), (2, .int x2)] := hl
  exact w_Mo_stage_e ⟨Bd.exec, Bd.bytes, hml, findClass_of_methodNamed Bd.named, Bd.returns, Bd.notSynchronized, hK⟩  _ _ _ _ _ _ hl hP va_S.rf hf
set_option maxHeartbeats 4000000 in
set_option maxRecDepth 100000 in
theorem w_Mo_tap_29 {p : Program} {l : Launch} {e : Env} {s : State} {m : MethodId} {args : Array Value} {below : List Frame} {meth : Method} {c : Code} {D : va_G} {ca : Nat → ClassId} {B : Nat} {r : Int32} {M9 : mo_M} (X : hq_X p s m args meth c b_Mo_tap R_Mo 6 (some .int) D mo_cl (mo_ty ca) hq_tb) : ∀ (M : mo_M) (H : Heap) (locs : List Loc) (ls : Array Slot), lv_has ls 6 [] → hm_P D mo_cl ca 15 (mo_sh) B M.1 M.2 H → va_S (hm_A B 15) s.heap H locs → f_Mo_tap_29 M = some (r, M9) → W p l e ({ frames := 1, cells := 0, slots := 0, locals := 21 } : Room) s m args below meth c H locs 0 0 (MQ below (hq_QI D mo_cl ca 15 (mo_sh) B r M9.1 M9.2) args s 0 0 (hm_A B 15)) (F0 m 29 ls []) := by
  obtain ⟨hx, hb, hml, hown, hr, hlk, hKt⟩ := id X
  have hK := hKt.1
  have hts : ∀ w ∈ hq_tb, w.before args s = true := fun w h => hKt.2.2 w h args
  intro  M H locs ls hl hP hS hf
  unfold f_Mo_tap_29 at hf
  refine lv_iconst (v := (-1)) hx hb d_Mo_tap_29 (by decide) ?_
  obtain ⟨h9, h8⟩ := Prod.mk.inj (Option.some.inj hf)
  subst h9
  subst h8
  exact W.iret hx hb hr (fun t ht _ => ⟨⟨_, (), rfl, rfl, by subst ht; exact hP⟩, hS.F ht⟩) hS.2.2 d_Mo_tap_30 hlk
set_option maxHeartbeats 4000000 in
set_option maxRecDepth 100000 in
theorem w_Mo_tap_e {p : Program} {l : Launch} {e : Env} {s : State} {m : MethodId} {args : Array Value} {below : List Frame} {meth : Method} {c : Code} {D : va_G} {ca : Nat → ClassId} {B : Nat} {r : Int32} {M9 : mo_M} (X : hq_X p s m args meth c b_Mo_tap R_Mo 6 (some .int) D mo_cl (mo_ty ca) hq_tb) : ∀ (x1 : Int32), ∀ (x2 : Int32), ∀ (x3 : Int32), ∀ (x4 : Int32), ∀ (M : mo_M) (H : Heap) (locs : List Loc) (ls : Array Slot), lv_has ls 6 [(0, .ref (B + 0)), (1, .int x1), (2, .int x2), (3, .int x3), (4, .int x4)] → hm_P D mo_cl ca 15 (mo_sh) B M.1 M.2 H → va_S (hm_A B 15) s.heap H locs → f_Mo_tap M x1 x2 x3 x4 = some (r, M9) → W p l e ({ frames := 1, cells := 0, slots := 0, locals := 21 } : Room) s m args below meth c H locs 0 0 (MQ below (hq_QI D mo_cl ca 15 (mo_sh) B r M9.1 M9.2) args s 0 0 (hm_A B 15)) (F0 m 0 ls []) := by
  obtain ⟨hx, hb, hml, hown, hr, hlk, hKt⟩ := id X
  have hK := hKt.1
  have hts : ∀ w ∈ hq_tb, w.before args s = true := fun w h => hKt.2.2 w h args
  intro x1 x2 x3 x4 M H locs ls hl hP hS hf
  unfold f_Mo_tap at hf
  refine lv_aload_n hx hb d_Mo_tap_0 rfl (lv_at hl 0 rfl) ?_
  refine lv_iload_n hx hb d_Mo_tap_1 rfl (lv_at hl 1 rfl) ?_
  obtain ⟨r1, M_2, hc3, hf⟩ := hm_bI_some hf
  refine hq_callI (va_runV (As := [.int x1]) (rest := []) ⟨hx, hb, hml, hown, hts⟩ (c_Mo_no (l := l) (D := D) (ca := ca) (B := B)  hc3) (hq_cwV (nn := 1) hts mo_wd_12 mo_wd_6 mo_wd_13 mo_wd_14 mo_wd_15 (by decide +kernel) rfl rfl ⟨(Nat.le_of_ble_eq_true rfl), (Nat.le_of_ble_eq_true rfl)⟩) (hq_preV hKt hP (by decide) (mo_s_Mo (rfl)) rfl) rfl rfl hl.1 rfl (lv_room (Nat.le_of_ble_eq_true rfl)) d_Mo_tap_2 ⟨(Nat.le_of_ble_eq_true rfl), (Nat.le_of_ble_eq_true rfl)⟩) hS (fun H locs hP hS => ?_)
  refine lv_if_ne (tgt := 29) hx hb d_Mo_tap_5 (by decide) (fun c4 => ?_) (fun c4 => ?_)
  · replace hf := (if_neg c4).symm.trans hf
    exact w_Mo_tap_29 X _ _ _ _ (lv_sub hl [] rfl) hP hS hf
  · replace hf := (if_pos c4).symm.trans hf
    refine lv_iload_n hx hb d_Mo_tap_8 rfl (lv_at hl 2 rfl) ?_
    refine lv_iconst (v := (-1)) hx hb d_Mo_tap_9 (by decide) ?_
    refine lv_icmp_lt (tgt := 29) hx hb d_Mo_tap_10 (by decide) (fun c5 => ?_) (fun c5 => ?_)
    · replace hf := (if_pos c5).symm.trans hf
      exact w_Mo_tap_29 X _ _ _ _ (lv_sub hl [] rfl) hP hS hf
    · replace hf := (if_neg c5).symm.trans hf
      refine lv_iload_n hx hb d_Mo_tap_13 rfl (lv_at hl 2 rfl) ?_
      refine lv_iload_n hx hb d_Mo_tap_14 rfl (lv_at hl 1 rfl) ?_
      refine lv_icmp_ge (tgt := 29) hx hb d_Mo_tap_15 (by decide) (fun c6 => ?_) (fun c6 => ?_)
      · replace hf := (if_pos c6).symm.trans hf
        exact w_Mo_tap_29 X _ _ _ _ (lv_sub hl [] rfl) hP hS hf
      · replace hf := (if_neg c6).symm.trans hf
        refine lv_iload_n hx hb d_Mo_tap_18 rfl (lv_at hl 3 rfl) ?_
        refine lv_bipush (v := (-4)) hx hb d_Mo_tap_19 (by decide) ?_
        refine lv_icmp_lt (tgt := 29) hx hb d_Mo_tap_21 (by decide) (fun c7 => ?_) (fun c7 => ?_)
        · replace hf := (if_pos c7).symm.trans hf
          exact w_Mo_tap_29 X _ _ _ _ (lv_sub hl [] rfl) hP hS hf
        · replace hf := (if_neg c7).symm.trans hf
          refine lv_iload_n hx hb d_Mo_tap_24 rfl (lv_at hl 3 rfl) ?_
          refine lv_iconst (v := 4) hx hb d_Mo_tap_25 (by decide) ?_
          refine lv_icmp_le (tgt := 31) hx hb d_Mo_tap_26 (by decide) (fun c8 => ?_) (fun c8 => ?_)
          · replace hf := (if_pos c8).symm.trans hf
            refine lv_aload_n hx hb d_Mo_tap_31 rfl (lv_at hl 0 rfl) ?_
            refine hq_get hx hb hts i_Mo hown hK hP 0 (by decide) (mo_s_Mo (rfl)) rfl 8 (by decide) (hts _ mo_wd_16) (fun _ h => h) (v := .ref (B + 8)) rfl d_Mo_tap_32 ?_
            refine lv_iload_n hx hb d_Mo_tap_35 rfl (lv_at hl 1 rfl) ?_
            obtain ⟨g9, hf⟩ := hm_gd_some hf
            refine hq_iald hx hb hK hP 8 (by decide) (mo_s_ia8 (rfl)) 0 rfl g9 d_Mo_tap_36 ?_
            refine lv_iconst (v := 4) hx hb d_Mo_tap_37 (by decide) ?_
            refine lv_icmp_ne (tgt := 44) hx hb d_Mo_tap_38 (by decide) (fun c10 => ?_) (fun c10 => ?_)
            · replace hf := (if_neg c10).symm.trans hf
              refine lv_iload_n hx hb d_Mo_tap_44 rfl (lv_at hl 1 rfl) ?_
              refine lv_iconst (v := 4) hx hb d_Mo_tap_45 (by decide) ?_
              refine lv_imul hx hb d_Mo_tap_46 ?_
              refine lv_aload_n hx hb d_Mo_tap_47 rfl (lv_at hl 0 rfl) ?_
              refine hq_get hx hb hts i_Mo hown hK hP 0 (by decide) (mo_s_Mo (rfl)) rfl 8 (by decide) (hts _ mo_wd_16) (fun _ h => h) (v := .ref (B + 8)) rfl d_Mo_tap_48 ?_
              refine lv_iload_n hx hb d_Mo_tap_51 rfl (lv_at hl 1 rfl) ?_
              obtain ⟨g11, hf⟩ := hm_gd_some hf
              refine hq_iald hx hb hK hP 8 (by decide) (mo_s_ia8 (rfl)) 0 rfl g11 d_Mo_tap_52 ?_
              refine lv_iadd hx hb d_Mo_tap_53 ?_
              refine lv_istore (lv' := [(5, .int ((x1 * 4) + (M_2.1 8 x1.toNatClampNeg))), (0, .ref (B + 0)), (1, .int x1), (2, .int x2), (3, .int x3), (4, .int x4)]) hx hb d_Mo_tap_54 hl (by decide) rfl (fun ls hl => ?_)
              refine lv_aload_n hx hb d_Mo_tap_56 rfl (lv_at hl 1 rfl) ?_
              refine hq_get hx hb hts i_Mo hown hK hP 0 (by decide) (mo_s_Mo (rfl)) rfl 5 (by decide) (hts _ mo_wd_17) (fun _ h => h) (v := .ref (B + 5)) rfl d_Mo_tap_57 ?_
              refine lv_iload hx hb d_Mo_tap_60 (lv_at hl 0 rfl) ?_
              refine lv_iload_n hx hb d_Mo_tap_62 rfl (lv_at hl 3 rfl) ?_
              obtain ⟨g12, hf⟩ := hm_gd_some hf
              refine hq_iast hx hb hK hP hS 5 (by decide) (mo_s_ia32 (rfl)) 0 rfl g12 d_Mo_tap_63 (fun H locs hP hS => ?_)
              obtain ⟨M_13, e_13, hf⟩ := mo_st_some hf
              replace hP : hm_P D mo_cl ca 15 mo_sh B M_13.1 M_13.2 H := by rw [e_13]; exact hP
              refine lv_aload_n hx hb d_Mo_tap_64 rfl (lv_at hl 1 rfl) ?_
              refine hq_get hx hb hts i_Mo hown hK hP 0 (by decide) (mo_s_Mo (rfl)) rfl 6 (by decide) (hts _ mo_wd_18) (fun _ h => h) (v := .ref (B + 6)) rfl d_Mo_tap_65 ?_
              refine lv_iload hx hb d_Mo_tap_68 (lv_at hl 0 rfl) ?_
              refine lv_iload_n hx hb d_Mo_tap_70 rfl (lv_at hl 4 rfl) ?_
              obtain ⟨g14, hf⟩ := hm_gd_some hf
              refine hq_iast hx hb hK hP hS 6 (by decide) (mo_s_ia32 (rfl)) 0 rfl g14 d_Mo_tap_71 (fun H locs hP hS => ?_)
              obtain ⟨M_15, e_15, hf⟩ := mo_st_some hf
              replace hP : hm_P D mo_cl ca 15 mo_sh B M_15.1 M_15.2 H := by rw [e_15]; exact hP
              refine lv_aload_n hx hb d_Mo_tap_72 rfl (lv_at hl 1 rfl) ?_
              refine hq_get hx hb hts i_Mo hown hK hP 0 (by decide) (mo_s_Mo (rfl)) rfl 7 (by decide) (hts _ mo_wd_19) (fun _ h => h) (v := .ref (B + 7)) rfl d_Mo_tap_73 ?_
              refine lv_iload hx hb d_Mo_tap_76 (lv_at hl 0 rfl) ?_
              refine lv_iload hx hb d_Mo_tap_78 (lv_at hl 5 rfl) ?_
              obtain ⟨g16, hf⟩ := hm_gd_some hf
              refine hq_iast hx hb hK hP hS 7 (by decide) (mo_s_ia32 (rfl)) 0 rfl g16 d_Mo_tap_80 (fun H locs hP hS => ?_)
              obtain ⟨M_17, e_17, hf⟩ := mo_st_some hf
              replace hP : hm_P D mo_cl ca 15 mo_sh B M_17.1 M_17.2 H := by rw [e_17]; exact hP
              refine lv_aload_n hx hb d_Mo_tap_81 rfl (lv_at hl 1 rfl) ?_
              refine hq_get hx hb hts i_Mo hown hK hP 0 (by decide) (mo_s_Mo (rfl)) rfl 8 (by decide) (hts _ mo_wd_16) (fun _ h => h) (v := .ref (B + 8)) rfl d_Mo_tap_82 ?_
              refine lv_iload_n hx hb d_Mo_tap_85 rfl (lv_at hl 2 rfl) ?_
              refine lv_dup2_11 hx hb d_Mo_tap_86 rfl rfl ?_
              obtain ⟨g18, hf⟩ := hm_gd_some hf
              refine hq_iald hx hb hK hP 8 (by decide) (mo_s_ia8 (rfl)) 0 rfl g18 d_Mo_tap_87 ?_
              refine lv_iconst (v := 1) hx hb d_Mo_tap_88 (by decide) ?_
              refine lv_iadd hx hb d_Mo_tap_89 ?_
              obtain ⟨g19, hf⟩ := hm_gd_some hf
              refine hq_iast hx hb hK hP hS 8 (by decide) (mo_s_ia8 (rfl)) 0 rfl g19 d_Mo_tap_90 (fun H locs hP hS => ?_)
              obtain ⟨M_20, e_20, hf⟩ := mo_st_some hf
              replace hP : hm_P D mo_cl ca 15 mo_sh B M_20.1 M_20.2 H := by rw [e_20]; exact hP
              refine lv_aload_n hx hb d_Mo_tap_91 rfl (lv_at hl 1 rfl) ?_
              refine lv_aload_n hx hb d_Mo_tap_92 rfl (lv_at hl 1 rfl) ?_
              refine hq_get hx hb hts i_Mo hown hK hP 0 (by decide) (mo_s_Mo (rfl)) rfl 8 (by decide) (hts _ mo_wd_16) (fun _ h => h) (v := .ref (B + 8)) rfl d_Mo_tap_93 ?_
              refine lv_iload_n hx hb d_Mo_tap_96 rfl (lv_at hl 2 rfl) ?_
              obtain ⟨g21, hf⟩ := hm_gd_some hf
              refine hq_iald hx hb hK hP 8 (by decide) (mo_s_ia8 (rfl)) 0 rfl g21 d_Mo_tap_97 ?_
              obtain ⟨r22, M_23, hc24, hf⟩ := hm_bI_some hf
              refine hq_callI (va_runV (As := [.int (M_20.1 8 x1.toNatClampNeg)]) (rest := []) ⟨hx, hb, hml, hown, hts⟩ (c_Mo_changed (l := l) (D := D) (ca := ca) (B := B)  hc24) (hq_cwV (nn := 1) hts mo_wd_5 mo_wd_6 mo_wd_7 mo_wd_8 mo_wd_9 (by decide +kernel) rfl rfl ⟨(Nat.le_of_ble_eq_true rfl), (Nat.le_of_ble_eq_true rfl)⟩) (hq_preV hKt hP (by decide) (mo_s_Mo (rfl)) rfl) rfl rfl hl.1 rfl (lv_room (Nat.le_of_ble_eq_true rfl)) d_Mo_tap_98 ⟨(Nat.le_of_ble_eq_true rfl), (Nat.le_of_ble_eq_true rfl)⟩) hS (fun H locs hP hS => ?_)
              obtain ⟨h9, h8⟩ := Prod.mk.inj (Option.some.inj hf)
              subst h9
              subst h8
              exact W.iret hx hb hr (fun t ht _ => ⟨⟨_, (), rfl, rfl, by subst ht; exact hP⟩, hS.F ht⟩) hS.2.2 d_Mo_tap_101 hlk
            · replace hf := (if_pos c10).symm.trans hf
              refine lv_bipush (v := (-2)) hx hb d_Mo_tap_41 (by decide) ?_
              obtain ⟨h9, h8⟩ := Prod.mk.inj (Option.some.inj hf)
              subst h9
              subst h8
              exact W.iret hx hb hr (fun t ht _ => ⟨⟨_, (), rfl, rfl, by subst ht; exact hP⟩, hS.F ht⟩) hS.2.2 d_Mo_tap_43 hlk
          · replace hf := (if_neg c8).symm.trans hf
            exact w_Mo_tap_29 X _ _ _ _ (lv_sub hl [] rfl) hP hS hf
set_option maxHeartbeats 4000000 in
set_option maxRecDepth 100000 in
theorem c_Mo_tap {l : Launch} {D : va_G} {ca : Nat → ClassId} {B : Nat} {r : Int32} {x1 : Int32} {x2 : Int32} {x3 : Int32} {x4 : Int32} {M M9 : mo_M} (hf : f_Mo_tap M x1 x2 x3 x4 = some (r, M9)) : Met l y_Mo_tap [Cond.code y_Mo_tap b_Mo_tap 6 (some .int)] ({ frames := 1, cells := 0, slots := 0, locals := 21 } : Room) (hq_Pre D mo_cl ca 15 (mo_sh) B (mo_ty ca) hq_tb M.1 M.2 [.ref (B + 0), .int x1, .int x2, .int x3, .int x4]) (hq_QI D mo_cl ca 15 (mo_sh) B r M9.1 M9.2) 0 0 (hm_A B 15) := by
  refine Met.ofW (cc := b_Mo_tap) (maxL := 6) (ret := (some .int)) (by decide +kernel) rfl ?_
  intro p e s m args below meth c s₁ Bd hml hv
  obtain ⟨rfl, hP, hK⟩ := hv
  have hl := lv_entry ([.ref (B + 0), .int x1, .int x2, .int x3, .int x4]) (n := 6) (Nat.le_of_ble_eq_true rfl)
  rw [lg_entry_eq]
  generalize (lg_sl ([.ref (B + 0), .int x1, .int x2, .int x3, .int x4]) ++ List.replicate (6 - (lg_sl ([.ref (B + 0), .int x1, .int x2, .int x3, .int x4])).length) Slot.unset).toArray = ls at hl ⊢
  have hl : lv_has ls 6 [(0, .ref (B + 0)), (1, .int x1), (2, .int x2), (3, .int x3), (4, .int x4)] := hl
  exact w_Mo_tap_e ⟨Bd.exec, Bd.bytes, hml, findClass_of_methodNamed Bd.named, Bd.returns, Bd.notSynchronized, hK⟩  _ _ _ _ _ _ _ _ hl hP va_S.rf hf
set_option maxHeartbeats 4000000 in
set_option maxRecDepth 100000 in
theorem w_Mo_mode_17 {p : Program} {l : Launch} {e : Env} {s : State} {m : MethodId} {args : Array Value} {below : List Frame} {meth : Method} {c : Code} {D : va_G} {ca : Nat → ClassId} {B : Nat} {r : Int32} {M9 : mo_M} (X : hq_X p s m args meth c b_Mo_mode R_Mo 3 (some .int) D mo_cl (mo_ty ca) hq_tb) : ∀ (M : mo_M) (H : Heap) (locs : List Loc) (ls : Array Slot), lv_has ls 3 [] → hm_P D mo_cl ca 15 (mo_sh) B M.1 M.2 H → va_S (hm_A B 15) s.heap H locs → f_Mo_mode_17 M = some (r, M9) → W p l e ({ frames := 1, cells := 0, slots := 0, locals := 21 } : Room) s m args below meth c H locs 0 0 (MQ below (hq_QI D mo_cl ca 15 (mo_sh) B r M9.1 M9.2) args s 0 0 (hm_A B 15)) (F0 m 17 ls []) := by
  obtain ⟨hx, hb, hml, hown, hr, hlk, hKt⟩ := id X
  have hK := hKt.1
  have hts : ∀ w ∈ hq_tb, w.before args s = true := fun w h => hKt.2.2 w h args
  intro  M H locs ls hl hP hS hf
  unfold f_Mo_mode_17 at hf
  refine lv_iconst (v := (-1)) hx hb d_Mo_mode_17 (by decide) ?_
  obtain ⟨h9, h8⟩ := Prod.mk.inj (Option.some.inj hf)
  subst h9
  subst h8
  exact W.iret hx hb hr (fun t ht _ => ⟨⟨_, (), rfl, rfl, by subst ht; exact hP⟩, hS.F ht⟩) hS.2.2 d_Mo_mode_18 hlk
set_option maxHeartbeats 4000000 in
set_option maxRecDepth 100000 in
theorem w_Mo_mode_e {p : Program} {l : Launch} {e : Env} {s : State} {m : MethodId} {args : Array Value} {below : List Frame} {meth : Method} {c : Code} {D : va_G} {ca : Nat → ClassId} {B : Nat} {r : Int32} {M9 : mo_M} (X : hq_X p s m args meth c b_Mo_mode R_Mo 3 (some .int) D mo_cl (mo_ty ca) hq_tb) : ∀ (x1 : Int32), ∀ (x2 : Int32), ∀ (M : mo_M) (H : Heap) (locs : List Loc) (ls : Array Slot), lv_has ls 3 [(0, .ref (B + 0)), (1, .int x1), (2, .int x2)] → hm_P D mo_cl ca 15 (mo_sh) B M.1 M.2 H → va_S (hm_A B 15) s.heap H locs → f_Mo_mode M x1 x2 = some (r, M9) → W p l e ({ frames := 1, cells := 0, slots := 0, locals := 21 } : Room) s m args below meth c H locs 0 0 (MQ below (hq_QI D mo_cl ca 15 (mo_sh) B r M9.1 M9.2) args s 0 0 (hm_A B 15)) (F0 m 0 ls []) := by
  obtain ⟨hx, hb, hml, hown, hr, hlk, hKt⟩ := id X
  have hK := hKt.1
  have hts : ∀ w ∈ hq_tb, w.before args s = true := fun w h => hKt.2.2 w h args
  intro x1 x2 M H locs ls hl hP hS hf
  unfold f_Mo_mode at hf
  refine lv_aload_n hx hb d_Mo_mode_0 rfl (lv_at hl 0 rfl) ?_
  refine lv_iload_n hx hb d_Mo_mode_1 rfl (lv_at hl 1 rfl) ?_
  obtain ⟨r1, M_2, hc3, hf⟩ := hm_bI_some hf
  refine hq_callI (va_runV (As := [.int x1]) (rest := []) ⟨hx, hb, hml, hown, hts⟩ (c_Mo_no (l := l) (D := D) (ca := ca) (B := B)  hc3) (hq_cwV (nn := 1) hts mo_wd_12 mo_wd_6 mo_wd_13 mo_wd_14 mo_wd_15 (by decide +kernel) rfl rfl ⟨(Nat.le_of_ble_eq_true rfl), (Nat.le_of_ble_eq_true rfl)⟩) (hq_preV hKt hP (by decide) (mo_s_Mo (rfl)) rfl) rfl rfl hl.1 rfl (lv_room (Nat.le_of_ble_eq_true rfl)) d_Mo_mode_2 ⟨(Nat.le_of_ble_eq_true rfl), (Nat.le_of_ble_eq_true rfl)⟩) hS (fun H locs hP hS => ?_)
  refine lv_if_ne (tgt := 17) hx hb d_Mo_mode_5 (by decide) (fun c4 => ?_) (fun c4 => ?_)
  · replace hf := (if_neg c4).symm.trans hf
    exact w_Mo_mode_17 X _ _ _ _ (lv_sub hl [] rfl) hP hS hf
  · replace hf := (if_pos c4).symm.trans hf
    refine lv_iload_n hx hb d_Mo_mode_8 rfl (lv_at hl 2 rfl) ?_
    refine lv_if_lt (tgt := 17) hx hb d_Mo_mode_9 (by decide) (fun c5 => ?_) (fun c5 => ?_)
    · replace hf := (if_pos c5).symm.trans hf
      exact w_Mo_mode_17 X _ _ _ _ (lv_sub hl [] rfl) hP hS hf
    · replace hf := (if_neg c5).symm.trans hf
      refine lv_iload_n hx hb d_Mo_mode_12 rfl (lv_at hl 2 rfl) ?_
      refine lv_iconst (v := 2) hx hb d_Mo_mode_13 (by decide) ?_
      refine lv_icmp_le (tgt := 19) hx hb d_Mo_mode_14 (by decide) (fun c6 => ?_) (fun c6 => ?_)
      · replace hf := (if_pos c6).symm.trans hf
        refine lv_aload_n hx hb d_Mo_mode_19 rfl (lv_at hl 0 rfl) ?_
        refine hq_get hx hb hts i_Mo hown hK hP 0 (by decide) (mo_s_Mo (rfl)) rfl 4 (by decide) (hts _ mo_wd_20) (fun _ h => h) (v := .ref (B + 4)) rfl d_Mo_mode_20 ?_
        refine lv_iload_n hx hb d_Mo_mode_23 rfl (lv_at hl 1 rfl) ?_
        refine lv_iload_n hx hb d_Mo_mode_24 rfl (lv_at hl 2 rfl) ?_
        obtain ⟨g7, hf⟩ := hm_gd_some hf
        refine hq_iast hx hb hK hP hS 4 (by decide) (mo_s_ia8 (rfl)) 0 rfl g7 d_Mo_mode_25 (fun H locs hP hS => ?_)
        obtain ⟨M_8, e_8, hf⟩ := mo_st_some hf
        replace hP : hm_P D mo_cl ca 15 mo_sh B M_8.1 M_8.2 H := by rw [e_8]; exact hP
        refine lv_aload_n hx hb d_Mo_mode_26 rfl (lv_at hl 0 rfl) ?_
        refine lv_iconst (v := 0) hx hb d_Mo_mode_27 (by decide) ?_
        obtain ⟨r9, M_10, hc11, hf⟩ := hm_bI_some hf
        refine hq_callI (va_runV (As := [.int 0]) (rest := []) ⟨hx, hb, hml, hown, hts⟩ (c_Mo_changed (l := l) (D := D) (ca := ca) (B := B)  hc11) (hq_cwV (nn := 1) hts mo_wd_5 mo_wd_6 mo_wd_7 mo_wd_8 mo_wd_9 (by decide +kernel) rfl rfl ⟨(Nat.le_of_ble_eq_true rfl), (Nat.le_of_ble_eq_true rfl)⟩) (hq_preV hKt hP (by decide) (mo_s_Mo (rfl)) rfl) rfl rfl hl.1 rfl (lv_room (Nat.le_of_ble_eq_true rfl)) d_Mo_mode_28 ⟨(Nat.le_of_ble_eq_true rfl), (Nat.le_of_ble_eq_true rfl)⟩) hS (fun H locs hP hS => ?_)
        obtain ⟨h9, h8⟩ := Prod.mk.inj (Option.some.inj hf)
        subst h9
        subst h8
        exact W.iret hx hb hr (fun t ht _ => ⟨⟨_, (), rfl, rfl, by subst ht; exact hP⟩, hS.F ht⟩) hS.2.2 d_Mo_mode_31 hlk
      · replace hf := (if_neg c6).symm.trans hf
        exact w_Mo_mode_17 X _ _ _ _ (lv_sub hl [] rfl) hP hS hf
set_option maxHeartbeats 4000000 in
set_option maxRecDepth 100000 in
theorem c_Mo_mode {l : Launch} {D : va_G} {ca : Nat → ClassId} {B : Nat} {r : Int32} {x1 : Int32} {x2 : Int32} {M M9 : mo_M} (hf : f_Mo_mode M x1 x2 = some (r, M9)) : Met l y_Mo_mode [Cond.code y_Mo_mode b_Mo_mode 3 (some .int)] ({ frames := 1, cells := 0, slots := 0, locals := 21 } : Room) (hq_Pre D mo_cl ca 15 (mo_sh) B (mo_ty ca) hq_tb M.1 M.2 [.ref (B + 0), .int x1, .int x2]) (hq_QI D mo_cl ca 15 (mo_sh) B r M9.1 M9.2) 0 0 (hm_A B 15) := by
  refine Met.ofW (cc := b_Mo_mode) (maxL := 3) (ret := (some .int)) (by decide +kernel) rfl ?_
  intro p e s m args below meth c s₁ Bd hml hv
  obtain ⟨rfl, hP, hK⟩ := hv
  have hl := lv_entry ([.ref (B + 0), .int x1, .int x2]) (n := 3) (Nat.le_of_ble_eq_true rfl)
  rw [lg_entry_eq]
  generalize (lg_sl ([.ref (B + 0), .int x1, .int x2]) ++ List.replicate (3 - (lg_sl ([.ref (B + 0), .int x1, .int x2])).length) Slot.unset).toArray = ls at hl ⊢
  have hl : lv_has ls 3 [(0, .ref (B + 0)), (1, .int x1), (2, .int x2)] := hl
  exact w_Mo_mode_e ⟨Bd.exec, Bd.bytes, hml, findClass_of_methodNamed Bd.named, Bd.returns, Bd.notSynchronized, hK⟩  _ _ _ _ _ _ hl hP va_S.rf hf
set_option maxHeartbeats 4000000 in
set_option maxRecDepth 100000 in
theorem w_Mo_tile_11 {p : Program} {l : Launch} {e : Env} {s : State} {m : MethodId} {args : Array Value} {below : List Frame} {meth : Method} {c : Code} {D : va_G} {ca : Nat → ClassId} {B : Nat} {r : Int32} {M9 : mo_M} (X : hq_X p s m args meth c b_Mo_tile R_Mo 2 (some .int) D mo_cl (mo_ty ca) hq_tb) : ∀ (M : mo_M) (H : Heap) (locs : List Loc) (ls : Array Slot), lv_has ls 2 [] → hm_P D mo_cl ca 15 (mo_sh) B M.1 M.2 H → va_S (hm_A B 15) s.heap H locs → f_Mo_tile_11 M = some (r, M9) → W p l e ({ frames := 1, cells := 0, slots := 0, locals := 21 } : Room) s m args below meth c H locs 0 0 (MQ below (hq_QI D mo_cl ca 15 (mo_sh) B r M9.1 M9.2) args s 0 0 (hm_A B 15)) (F0 m 11 ls []) := by
  obtain ⟨hx, hb, hml, hown, hr, hlk, hKt⟩ := id X
  have hK := hKt.1
  have hts : ∀ w ∈ hq_tb, w.before args s = true := fun w h => hKt.2.2 w h args
  intro  M H locs ls hl hP hS hf
  unfold f_Mo_tile_11 at hf
  refine lv_iconst (v := (-1)) hx hb d_Mo_tile_11 (by decide) ?_
  obtain ⟨h9, h8⟩ := Prod.mk.inj (Option.some.inj hf)
  subst h9
  subst h8
  exact W.iret hx hb hr (fun t ht _ => ⟨⟨_, (), rfl, rfl, by subst ht; exact hP⟩, hS.F ht⟩) hS.2.2 d_Mo_tile_12 hlk
set_option maxHeartbeats 4000000 in
set_option maxRecDepth 100000 in
theorem w_Mo_tile_e {p : Program} {l : Launch} {e : Env} {s : State} {m : MethodId} {args : Array Value} {below : List Frame} {meth : Method} {c : Code} {D : va_G} {ca : Nat → ClassId} {B : Nat} {r : Int32} {M9 : mo_M} (X : hq_X p s m args meth c b_Mo_tile R_Mo 2 (some .int) D mo_cl (mo_ty ca) hq_tb) : ∀ (x1 : Int32), ∀ (M : mo_M) (H : Heap) (locs : List Loc) (ls : Array Slot), lv_has ls 2 [(0, .ref (B + 0)), (1, .int x1)] → hm_P D mo_cl ca 15 (mo_sh) B M.1 M.2 H → va_S (hm_A B 15) s.heap H locs → f_Mo_tile M x1 = some (r, M9) → W p l e ({ frames := 1, cells := 0, slots := 0, locals := 21 } : Room) s m args below meth c H locs 0 0 (MQ below (hq_QI D mo_cl ca 15 (mo_sh) B r M9.1 M9.2) args s 0 0 (hm_A B 15)) (F0 m 0 ls []) := by
  obtain ⟨hx, hb, hml, hown, hr, hlk, hKt⟩ := id X
  have hK := hKt.1
  have hts : ∀ w ∈ hq_tb, w.before args s = true := fun w h => hKt.2.2 w h args
  intro x1 M H locs ls hl hP hS hf
  unfold f_Mo_tile at hf
  refine lv_iload_n hx hb d_Mo_tile_0 rfl (lv_at hl 1 rfl) ?_
  refine lv_iconst (v := 1) hx hb d_Mo_tile_1 (by decide) ?_
  refine lv_icmp_lt (tgt := 11) hx hb d_Mo_tile_2 (by decide) (fun c1 => ?_) (fun c1 => ?_)
  · replace hf := (if_pos c1).symm.trans hf
    exact w_Mo_tile_11 X _ _ _ _ (lv_sub hl [] rfl) hP hS hf
  · replace hf := (if_neg c1).symm.trans hf
    refine lv_iload_n hx hb d_Mo_tile_5 rfl (lv_at hl 1 rfl) ?_
    refine lv_bipush (v := 32) hx hb d_Mo_tile_6 (by decide) ?_
    refine lv_icmp_le (tgt := 13) hx hb d_Mo_tile_8 (by decide) (fun c2 => ?_) (fun c2 => ?_)
    · replace hf := (if_pos c2).symm.trans hf
      refine lv_aload_n hx hb d_Mo_tile_13 rfl (lv_at hl 0 rfl) ?_
      refine lv_iload_n hx hb d_Mo_tile_14 rfl (lv_at hl 1 rfl) ?_
      refine hq_put hx hb hts i_Mo t_Mo t_Mo_ok n_Mo hown hK hP hS 0 (by decide) (mo_s_Mo (rfl)) rfl 10 (by decide) (hts _ mo_wd_21) (fun _ h => h) rfl (ty := .int) (x := x1) (by decide +kernel) rfl rfl rfl d_Mo_tile_15 (fun H locs hP hS => ?_)
      obtain ⟨M_3, e_3, hf⟩ := mo_st_some hf
      replace hP : hm_P D mo_cl ca 15 mo_sh B M_3.1 M_3.2 H := by rw [e_3]; exact hP
      refine lv_aload_n hx hb d_Mo_tile_18 rfl (lv_at hl 0 rfl) ?_
      refine lv_iconst (v := 0) hx hb d_Mo_tile_19 (by decide) ?_
      obtain ⟨r4, M_5, hc6, hf⟩ := hm_bI_some hf
      refine hq_callI (va_runV (As := [.int 0]) (rest := []) ⟨hx, hb, hml, hown, hts⟩ (c_Mo_changed (l := l) (D := D) (ca := ca) (B := B)  hc6) (hq_cwV (nn := 1) hts mo_wd_5 mo_wd_6 mo_wd_7 mo_wd_8 mo_wd_9 (by decide +kernel) rfl rfl ⟨(Nat.le_of_ble_eq_true rfl), (Nat.le_of_ble_eq_true rfl)⟩) (hq_preV hKt hP (by decide) (mo_s_Mo (rfl)) rfl) rfl rfl hl.1 rfl (lv_room (Nat.le_of_ble_eq_true rfl)) d_Mo_tile_20 ⟨(Nat.le_of_ble_eq_true rfl), (Nat.le_of_ble_eq_true rfl)⟩) hS (fun H locs hP hS => ?_)
      obtain ⟨h9, h8⟩ := Prod.mk.inj (Option.some.inj hf)
      subst h9
      subst h8
      exact W.iret hx hb hr (fun t ht _ => ⟨⟨_, (), rfl, rfl, by subst ht; exact hP⟩, hS.F ht⟩) hS.2.2 d_Mo_tile_23 hlk
    · replace hf := (if_neg c2).symm.trans hf
      exact w_Mo_tile_11 X _ _ _ _ (lv_sub hl [] rfl) hP hS hf
set_option maxHeartbeats 4000000 in
set_option maxRecDepth 100000 in
theorem c_Mo_tile {l : Launch} {D : va_G} {ca : Nat → ClassId} {B : Nat} {r : Int32} {x1 : Int32} {M M9 : mo_M} (hf : f_Mo_tile M x1 = some (r, M9)) : Met l y_Mo_tile [Cond.code y_Mo_tile b_Mo_tile 2 (some .int)] ({ frames := 1, cells := 0, slots := 0, locals := 21 } : Room) (hq_Pre D mo_cl ca 15 (mo_sh) B (mo_ty ca) hq_tb M.1 M.2 [.ref (B + 0), .int x1]) (hq_QI D mo_cl ca 15 (mo_sh) B r M9.1 M9.2) 0 0 (hm_A B 15) := by
  refine Met.ofW (cc := b_Mo_tile) (maxL := 2) (ret := (some .int)) (by decide +kernel) rfl ?_
  intro p e s m args below meth c s₁ Bd hml hv
  obtain ⟨rfl, hP, hK⟩ := hv
  have hl := lv_entry ([.ref (B + 0), .int x1]) (n := 2) (Nat.le_of_ble_eq_true rfl)
  rw [lg_entry_eq]
  generalize (lg_sl ([.ref (B + 0), .int x1]) ++ List.replicate (2 - (lg_sl ([.ref (B + 0), .int x1])).length) Slot.unset).toArray = ls at hl ⊢
  have hl : lv_has ls 2 [(0, .ref (B + 0)), (1, .int x1)] := hl
  exact w_Mo_tile_e ⟨Bd.exec, Bd.bytes, hml, findClass_of_methodNamed Bd.named, Bd.returns, Bd.notSynchronized, hK⟩  _ _ _ _ _ hl hP va_S.rf hf
set_option maxHeartbeats 4000000 in
set_option maxRecDepth 100000 in
theorem w_Mo_output_19 {p : Program} {l : Launch} {e : Env} {s : State} {m : MethodId} {args : Array Value} {below : List Frame} {meth : Method} {c : Code} {D : va_G} {ca : Nat → ClassId} {B : Nat} {r : Int32} {M9 : mo_M} (X : hq_X p s m args meth c b_Mo_output R_Mo 3 (some .int) D mo_cl (mo_ty ca) hq_tb) : ∀ (M : mo_M) (H : Heap) (locs : List Loc) (ls : Array Slot), lv_has ls 3 [] → hm_P D mo_cl ca 15 (mo_sh) B M.1 M.2 H → va_S (hm_A B 15) s.heap H locs → f_Mo_output_19 M = some (r, M9) → W p l e ({ frames := 1, cells := 0, slots := 0, locals := 21 } : Room) s m args below meth c H locs 0 0 (MQ below (hq_QI D mo_cl ca 15 (mo_sh) B r M9.1 M9.2) args s 0 0 (hm_A B 15)) (F0 m 19 ls []) := by
  obtain ⟨hx, hb, hml, hown, hr, hlk, hKt⟩ := id X
  have hK := hKt.1
  have hts : ∀ w ∈ hq_tb, w.before args s = true := fun w h => hKt.2.2 w h args
  intro  M H locs ls hl hP hS hf
  unfold f_Mo_output_19 at hf
  refine lv_iconst (v := (-1)) hx hb d_Mo_output_19 (by decide) ?_
  obtain ⟨h9, h8⟩ := Prod.mk.inj (Option.some.inj hf)
  subst h9
  subst h8
  exact W.iret hx hb hr (fun t ht _ => ⟨⟨_, (), rfl, rfl, by subst ht; exact hP⟩, hS.F ht⟩) hS.2.2 d_Mo_output_20 hlk
set_option maxHeartbeats 4000000 in
set_option maxRecDepth 100000 in
theorem w_Mo_output_e {p : Program} {l : Launch} {e : Env} {s : State} {m : MethodId} {args : Array Value} {below : List Frame} {meth : Method} {c : Code} {D : va_G} {ca : Nat → ClassId} {B : Nat} {r : Int32} {M9 : mo_M} (X : hq_X p s m args meth c b_Mo_output R_Mo 3 (some .int) D mo_cl (mo_ty ca) hq_tb) : ∀ (x1 : Int32), ∀ (x2 : Int32), ∀ (M : mo_M) (H : Heap) (locs : List Loc) (ls : Array Slot), lv_has ls 3 [(0, .ref (B + 0)), (1, .int x1), (2, .int x2)] → hm_P D mo_cl ca 15 (mo_sh) B M.1 M.2 H → va_S (hm_A B 15) s.heap H locs → f_Mo_output M x1 x2 = some (r, M9) → W p l e ({ frames := 1, cells := 0, slots := 0, locals := 21 } : Room) s m args below meth c H locs 0 0 (MQ below (hq_QI D mo_cl ca 15 (mo_sh) B r M9.1 M9.2) args s 0 0 (hm_A B 15)) (F0 m 0 ls []) := by
  obtain ⟨hx, hb, hml, hown, hr, hlk, hKt⟩ := id X
  have hK := hKt.1
  have hts : ∀ w ∈ hq_tb, w.before args s = true := fun w h => hKt.2.2 w h args
  intro x1 x2 M H locs ls hl hP hS hf
  unfold f_Mo_output at hf
  refine lv_aload_n hx hb d_Mo_output_0 rfl (lv_at hl 0 rfl) ?_
  refine lv_iload_n hx hb d_Mo_output_1 rfl (lv_at hl 1 rfl) ?_
  obtain ⟨r1, M_2, hc3, hf⟩ := hm_bI_some hf
  refine hq_callI (va_runV (As := [.int x1]) (rest := []) ⟨hx, hb, hml, hown, hts⟩ (c_Mo_no (l := l) (D := D) (ca := ca) (B := B)  hc3) (hq_cwV (nn := 1) hts mo_wd_12 mo_wd_6 mo_wd_13 mo_wd_14 mo_wd_15 (by decide +kernel) rfl rfl ⟨(Nat.le_of_ble_eq_true rfl), (Nat.le_of_ble_eq_true rfl)⟩) (hq_preV hKt hP (by decide) (mo_s_Mo (rfl)) rfl) rfl rfl hl.1 rfl (lv_room (Nat.le_of_ble_eq_true rfl)) d_Mo_output_2 ⟨(Nat.le_of_ble_eq_true rfl), (Nat.le_of_ble_eq_true rfl)⟩) hS (fun H locs hP hS => ?_)
  refine lv_if_ne (tgt := 19) hx hb d_Mo_output_5 (by decide) (fun c4 => ?_) (fun c4 => ?_)
  · replace hf := (if_neg c4).symm.trans hf
    exact w_Mo_output_19 X _ _ _ _ (lv_sub hl [] rfl) hP hS hf
  · replace hf := (if_pos c4).symm.trans hf
    refine lv_iload_n hx hb d_Mo_output_8 rfl (lv_at hl 2 rfl) ?_
    refine lv_iconst (v := 1) hx hb d_Mo_output_9 (by decide) ?_
    refine lv_icmp_lt (tgt := 19) hx hb d_Mo_output_10 (by decide) (fun c5 => ?_) (fun c5 => ?_)
    · replace hf := (if_pos c5).symm.trans hf
      exact w_Mo_output_19 X _ _ _ _ (lv_sub hl [] rfl) hP hS hf
    · replace hf := (if_neg c5).symm.trans hf
      refine lv_iload_n hx hb d_Mo_output_13 rfl (lv_at hl 2 rfl) ?_
      refine lv_bipush (v := 32) hx hb d_Mo_output_14 (by decide) ?_
      refine lv_icmp_le (tgt := 21) hx hb d_Mo_output_16 (by decide) (fun c6 => ?_) (fun c6 => ?_)
      · replace hf := (if_pos c6).symm.trans hf
        refine lv_aload_n hx hb d_Mo_output_21 rfl (lv_at hl 0 rfl) ?_
        refine lv_iload_n hx hb d_Mo_output_22 rfl (lv_at hl 1 rfl) ?_
        refine hq_put hx hb hts i_Mo t_Mo t_Mo_ok n_Mo hown hK hP hS 0 (by decide) (mo_s_Mo (rfl)) rfl 11 (by decide) (hts _ mo_wd_22) (fun _ h => h) rfl (ty := .int) (x := x1) (by decide +kernel) rfl rfl rfl d_Mo_output_23 (fun H locs hP hS => ?_)
        obtain ⟨M_7, e_7, hf⟩ := mo_st_some hf
        replace hP : hm_P D mo_cl ca 15 mo_sh B M_7.1 M_7.2 H := by rw [e_7]; exact hP
        refine lv_aload_n hx hb d_Mo_output_26 rfl (lv_at hl 0 rfl) ?_
        refine lv_iload_n hx hb d_Mo_output_27 rfl (lv_at hl 2 rfl) ?_
        refine hq_put hx hb hts i_Mo t_Mo t_Mo_ok n_Mo hown hK hP hS 0 (by decide) (mo_s_Mo (rfl)) rfl 12 (by decide) (hts _ mo_wd_23) (fun _ h => h) rfl (ty := .int) (x := x2) (by decide +kernel) rfl rfl rfl d_Mo_output_28 (fun H locs hP hS => ?_)
        obtain ⟨M_8, e_8, hf⟩ := mo_st_some hf
        replace hP : hm_P D mo_cl ca 15 mo_sh B M_8.1 M_8.2 H := by rw [e_8]; exact hP
        refine lv_aload_n hx hb d_Mo_output_31 rfl (lv_at hl 0 rfl) ?_
        refine lv_iconst (v := 0) hx hb d_Mo_output_32 (by decide) ?_
        obtain ⟨r9, M_10, hc11, hf⟩ := hm_bI_some hf
        refine hq_callI (va_runV (As := [.int 0]) (rest := []) ⟨hx, hb, hml, hown, hts⟩ (c_Mo_changed (l := l) (D := D) (ca := ca) (B := B)  hc11) (hq_cwV (nn := 1) hts mo_wd_5 mo_wd_6 mo_wd_7 mo_wd_8 mo_wd_9 (by decide +kernel) rfl rfl ⟨(Nat.le_of_ble_eq_true rfl), (Nat.le_of_ble_eq_true rfl)⟩) (hq_preV hKt hP (by decide) (mo_s_Mo (rfl)) rfl) rfl rfl hl.1 rfl (lv_room (Nat.le_of_ble_eq_true rfl)) d_Mo_output_33 ⟨(Nat.le_of_ble_eq_true rfl), (Nat.le_of_ble_eq_true rfl)⟩) hS (fun H locs hP hS => ?_)
        obtain ⟨h9, h8⟩ := Prod.mk.inj (Option.some.inj hf)
        subst h9
        subst h8
        exact W.iret hx hb hr (fun t ht _ => ⟨⟨_, (), rfl, rfl, by subst ht; exact hP⟩, hS.F ht⟩) hS.2.2 d_Mo_output_36 hlk
      · replace hf := (if_neg c6).symm.trans hf
        exact w_Mo_output_19 X _ _ _ _ (lv_sub hl [] rfl) hP hS hf
set_option maxHeartbeats 4000000 in
set_option maxRecDepth 100000 in
theorem c_Mo_output {l : Launch} {D : va_G} {ca : Nat → ClassId} {B : Nat} {r : Int32} {x1 : Int32} {x2 : Int32} {M M9 : mo_M} (hf : f_Mo_output M x1 x2 = some (r, M9)) : Met l y_Mo_output [Cond.code y_Mo_output b_Mo_output 3 (some .int)] ({ frames := 1, cells := 0, slots := 0, locals := 21 } : Room) (hq_Pre D mo_cl ca 15 (mo_sh) B (mo_ty ca) hq_tb M.1 M.2 [.ref (B + 0), .int x1, .int x2]) (hq_QI D mo_cl ca 15 (mo_sh) B r M9.1 M9.2) 0 0 (hm_A B 15) := by
  refine Met.ofW (cc := b_Mo_output) (maxL := 3) (ret := (some .int)) (by decide +kernel) rfl ?_
  intro p e s m args below meth c s₁ Bd hml hv
  obtain ⟨rfl, hP, hK⟩ := hv
  have hl := lv_entry ([.ref (B + 0), .int x1, .int x2]) (n := 3) (Nat.le_of_ble_eq_true rfl)
  rw [lg_entry_eq]
  generalize (lg_sl ([.ref (B + 0), .int x1, .int x2]) ++ List.replicate (3 - (lg_sl ([.ref (B + 0), .int x1, .int x2])).length) Slot.unset).toArray = ls at hl ⊢
  have hl : lv_has ls 3 [(0, .ref (B + 0)), (1, .int x1), (2, .int x2)] := hl
  exact w_Mo_output_e ⟨Bd.exec, Bd.bytes, hml, findClass_of_methodNamed Bd.named, Bd.returns, Bd.notSynchronized, hK⟩  _ _ _ _ _ _ hl hP va_S.rf hf
set_option maxHeartbeats 4000000 in
set_option maxRecDepth 100000 in
theorem w_Mo_finished_19 {p : Program} {l : Launch} {e : Env} {s : State} {m : MethodId} {args : Array Value} {below : List Frame} {meth : Method} {c : Code} {D : va_G} {ca : Nat → ClassId} {B : Nat} {r : Int32} {M9 : mo_M} (X : hq_X p s m args meth c b_Mo_finished R_Mo 3 (some .int) D mo_cl (mo_ty ca) hq_tb) : ∀ (y0 : Int32), ∀ (M : mo_M) (H : Heap) (locs : List Loc) (ls : Array Slot), lv_has ls 3 [] → hm_P D mo_cl ca 15 (mo_sh) B M.1 M.2 H → va_S (hm_A B 15) s.heap H locs → f_Mo_finished_19 y0 M = some (r, M9) → W p l e ({ frames := 0, cells := 0, slots := 0, locals := 0 } : Room) s m args below meth c H locs 0 0 (MQ below (hq_QI D mo_cl ca 15 (mo_sh) B r M9.1 M9.2) args s 0 0 (hm_A B 15)) (F0 m 19 ls [.int y0]) := by
  obtain ⟨hx, hb, hml, hown, hr, hlk, hKt⟩ := id X
  have hK := hKt.1
  have hts : ∀ w ∈ hq_tb, w.before args s = true := fun w h => hKt.2.2 w h args
  intro y0 M H locs ls hl hP hS hf
  unfold f_Mo_finished_19 at hf
  obtain ⟨h9, h8⟩ := Prod.mk.inj (Option.some.inj hf)
  subst h9
  subst h8
  exact W.iret hx hb hr (fun t ht _ => ⟨⟨_, (), rfl, rfl, by subst ht; exact hP⟩, hS.F ht⟩) hS.2.2 d_Mo_finished_19 hlk
set_option maxHeartbeats 4000000 in
set_option maxRecDepth 100000 in
theorem w_Mo_finished_54 {p : Program} {l : Launch} {e : Env} {s : State} {m : MethodId} {args : Array Value} {below : List Frame} {meth : Method} {c : Code} {D : va_G} {ca : Nat → ClassId} {B : Nat} {r : Int32} {M9 : mo_M} (X : hq_X p s m args meth c b_Mo_finished R_Mo 3 (some .int) D mo_cl (mo_ty ca) hq_tb) : ∀ (y0 : Int32), ∀ (M : mo_M) (H : Heap) (locs : List Loc) (ls : Array Slot), lv_has ls 3 [] → hm_P D mo_cl ca 15 (mo_sh) B M.1 M.2 H → va_S (hm_A B 15) s.heap H locs → f_Mo_finished_54 y0 M = some (r, M9) → W p l e ({ frames := 0, cells := 0, slots := 0, locals := 0 } : Room) s m args below meth c H locs 0 0 (MQ below (hq_QI D mo_cl ca 15 (mo_sh) B r M9.1 M9.2) args s 0 0 (hm_A B 15)) (F0 m 54 ls [.int y0]) := by
  obtain ⟨hx, hb, hml, hown, hr, hlk, hKt⟩ := id X
  have hK := hKt.1
  have hts : ∀ w ∈ hq_tb, w.before args s = true := fun w h => hKt.2.2 w h args
  intro y0 M H locs ls hl hP hS hf
  unfold f_Mo_finished_54 at hf
  obtain ⟨h9, h8⟩ := Prod.mk.inj (Option.some.inj hf)
  subst h9
  subst h8
  exact W.iret hx hb hr (fun t ht _ => ⟨⟨_, (), rfl, rfl, by subst ht; exact hP⟩, hS.F ht⟩) hS.2.2 d_Mo_finished_54 hlk
set_option maxHeartbeats 4000000 in
set_option maxRecDepth 100000 in
theorem w_Mo_finished_53 {p : Program} {l : Launch} {e : Env} {s : State} {m : MethodId} {args : Array Value} {below : List Frame} {meth : Method} {c : Code} {D : va_G} {ca : Nat → ClassId} {B : Nat} {r : Int32} {M9 : mo_M} (X : hq_X p s m args meth c b_Mo_finished R_Mo 3 (some .int) D mo_cl (mo_ty ca) hq_tb) : ∀ (x2 : Int32), ∀ (M : mo_M) (H : Heap) (locs : List Loc) (ls : Array Slot), lv_has ls 3 [(2, .int x2)] → hm_P D mo_cl ca 15 (mo_sh) B M.1 M.2 H → va_S (hm_A B 15) s.heap H locs → f_Mo_finished_53 x2 M = some (r, M9) → W p l e ({ frames := 0, cells := 0, slots := 0, locals := 0 } : Room) s m args below meth c H locs 0 0 (MQ below (hq_QI D mo_cl ca 15 (mo_sh) B r M9.1 M9.2) args s 0 0 (hm_A B 15)) (F0 m 53 ls []) := by
  obtain ⟨hx, hb, hml, hown, hr, hlk, hKt⟩ := id X
  have hK := hKt.1
  have hts : ∀ w ∈ hq_tb, w.before args s = true := fun w h => hKt.2.2 w h args
  intro x2 M H locs ls hl hP hS hf
  unfold f_Mo_finished_53 at hf
  refine lv_iload_n hx hb d_Mo_finished_53 rfl (lv_at hl 0 rfl) ?_
  exact w_Mo_finished_54 X _ _ _ _ _ (lv_sub hl [] rfl) hP hS hf
set_option maxHeartbeats 4000000 in
set_option maxRecDepth 100000 in
theorem w_Mo_finished_e {p : Program} {l : Launch} {e : Env} {s : State} {m : MethodId} {args : Array Value} {below : List Frame} {meth : Method} {c : Code} {D : va_G} {ca : Nat → ClassId} {B : Nat} {r : Int32} {M9 : mo_M} (X : hq_X p s m args meth c b_Mo_finished R_Mo 3 (some .int) D mo_cl (mo_ty ca) hq_tb) : ∀ (x1 : Int32), ∀ (x2 : Int32), ∀ (M : mo_M) (H : Heap) (locs : List Loc) (ls : Array Slot), lv_has ls 3 [(0, .ref (B + 0)), (1, .int x1), (2, .int x2)] → hm_P D mo_cl ca 15 (mo_sh) B M.1 M.2 H → va_S (hm_A B 15) s.heap H locs → f_Mo_finished M x1 x2 = some (r, M9) → W p l e ({ frames := 0, cells := 0, slots := 0, locals := 0 } : Room) s m args below meth c H locs 0 0 (MQ below (hq_QI D mo_cl ca 15 (mo_sh) B r M9.1 M9.2) args s 0 0 (hm_A B 15)) (F0 m 0 ls []) := by
  obtain ⟨hx, hb, hml, hown, hr, hlk, hKt⟩ := id X
  have hK := hKt.1
  have hts : ∀ w ∈ hq_tb, w.before args s = true := fun w h => hKt.2.2 w h args
  intro x1 x2 M H locs ls hl hP hS hf
  unfold f_Mo_finished at hf
  refine lv_aload_n hx hb d_Mo_finished_0 rfl (lv_at hl 0 rfl) ?_
  refine hq_get hx hb hts i_Mo hown hK hP 0 (by decide) (mo_s_Mo (rfl)) rfl 3 (by decide) (hts _ mo_wd_11) (fun _ h => h) (v := .ref (B + 3)) rfl d_Mo_finished_1 ?_
  refine lv_iload_n hx hb d_Mo_finished_4 rfl (lv_at hl 1 rfl) ?_
  obtain ⟨g1, hf⟩ := hm_gd_some hf
  refine hq_iald hx hb hK hP 3 (by decide) (mo_s_ia8 (rfl)) 0 rfl g1 d_Mo_finished_5 ?_
  refine lv_iconst (v := 1) hx hb d_Mo_finished_6 (by decide) ?_
  refine lv_icmp_ne (tgt := 20) hx hb d_Mo_finished_7 (by decide) (fun c2 => ?_) (fun c2 => ?_)
  · replace hf := (if_neg c2).symm.trans hf
    refine lv_aload_n hx hb d_Mo_finished_20 rfl (lv_at hl 0 rfl) ?_
    refine hq_get hx hb hts i_Mo hown hK hP 0 (by decide) (mo_s_Mo (rfl)) rfl 3 (by decide) (hts _ mo_wd_11) (fun _ h => h) (v := .ref (B + 3)) rfl d_Mo_finished_21 ?_
    refine lv_iload_n hx hb d_Mo_finished_24 rfl (lv_at hl 1 rfl) ?_
    obtain ⟨g3, hf⟩ := hm_gd_some hf
    refine hq_iald hx hb hK hP 3 (by decide) (mo_s_ia8 (rfl)) 0 rfl g3 d_Mo_finished_25 ?_
    refine lv_iconst (v := 2) hx hb d_Mo_finished_26 (by decide) ?_
    refine lv_icmp_ne (tgt := 34) hx hb d_Mo_finished_27 (by decide) (fun c4 => ?_) (fun c4 => ?_)
    · replace hf := (if_neg c4).symm.trans hf
      refine lv_aload_n hx hb d_Mo_finished_34 rfl (lv_at hl 0 rfl) ?_
      refine hq_get hx hb hts i_Mo hown hK hP 0 (by decide) (mo_s_Mo (rfl)) rfl 3 (by decide) (hts _ mo_wd_11) (fun _ h => h) (v := .ref (B + 3)) rfl d_Mo_finished_35 ?_
      refine lv_iload_n hx hb d_Mo_finished_38 rfl (lv_at hl 1 rfl) ?_
      obtain ⟨g5, hf⟩ := hm_gd_some hf
      refine hq_iald hx hb hK hP 3 (by decide) (mo_s_ia8 (rfl)) 0 rfl g5 d_Mo_finished_39 ?_
      refine lv_iconst (v := 3) hx hb d_Mo_finished_40 (by decide) ?_
      refine lv_icmp_ne (tgt := 53) hx hb d_Mo_finished_41 (by decide) (fun c6 => ?_) (fun c6 => ?_)
      · replace hf := (if_neg c6).symm.trans hf
        exact w_Mo_finished_53 X _ _ _ _ _ (lv_sub hl [2] rfl) hP hS hf
      · replace hf := (if_pos c6).symm.trans hf
        refine lv_iload_n hx hb d_Mo_finished_44 rfl (lv_at hl 2 rfl) ?_
        refine lv_if_ge (tgt := 53) hx hb d_Mo_finished_45 (by decide) (fun c7 => ?_) (fun c7 => ?_)
        · replace hf := (if_pos c7).symm.trans hf
          exact w_Mo_finished_53 X _ _ _ _ _ (lv_sub hl [2] rfl) hP hS hf
        · replace hf := (if_neg c7).symm.trans hf
          refine lv_iload_n hx hb d_Mo_finished_48 rfl (lv_at hl 2 rfl) ?_
          refine lv_ineg hx hb d_Mo_finished_49 ?_
          refine lv_goto (tgt := 54) hx hb d_Mo_finished_50 (by decide) ?_
          exact w_Mo_finished_54 X _ _ _ _ _ (lv_sub hl [] rfl) hP hS hf
    · replace hf := (if_pos c4).symm.trans hf
      refine lv_iload_n hx hb d_Mo_finished_30 rfl (lv_at hl 2 rfl) ?_
      refine lv_iconst (v := 1) hx hb d_Mo_finished_31 (by decide) ?_
      refine lv_ishr hx hb d_Mo_finished_32 ?_
      obtain ⟨h9, h8⟩ := Prod.mk.inj (Option.some.inj hf)
      subst h9
      subst h8
      exact W.iret hx hb hr (fun t ht _ => ⟨⟨_, (), rfl, rfl, by subst ht; exact hP⟩, hS.F ht⟩) hS.2.2 d_Mo_finished_33 hlk
  · replace hf := (if_pos c2).symm.trans hf
    refine lv_iload_n hx hb d_Mo_finished_10 rfl (lv_at hl 2 rfl) ?_
    refine lv_if_le (tgt := 18) hx hb d_Mo_finished_11 (by decide) (fun c8 => ?_) (fun c8 => ?_)
    · replace hf := (if_pos c8).symm.trans hf
      refine lv_iconst (v := 0) hx hb d_Mo_finished_18 (by decide) ?_
      exact w_Mo_finished_19 X _ _ _ _ _ (lv_sub hl [] rfl) hP hS hf
    · replace hf := (if_neg c8).symm.trans hf
      refine lv_iload_n hx hb d_Mo_finished_14 rfl (lv_at hl 2 rfl) ?_
      refine lv_goto (tgt := 19) hx hb d_Mo_finished_15 (by decide) ?_
      exact w_Mo_finished_19 X _ _ _ _ _ (lv_sub hl [] rfl) hP hS hf
set_option maxHeartbeats 4000000 in
set_option maxRecDepth 100000 in
theorem c_Mo_finished {l : Launch} {D : va_G} {ca : Nat → ClassId} {B : Nat} {r : Int32} {x1 : Int32} {x2 : Int32} {M M9 : mo_M} (hf : f_Mo_finished M x1 x2 = some (r, M9)) : Met l y_Mo_finished [Cond.code y_Mo_finished b_Mo_finished 3 (some .int)] ({ frames := 0, cells := 0, slots := 0, locals := 0 } : Room) (hq_Pre D mo_cl ca 15 (mo_sh) B (mo_ty ca) hq_tb M.1 M.2 [.ref (B + 0), .int x1, .int x2]) (hq_QI D mo_cl ca 15 (mo_sh) B r M9.1 M9.2) 0 0 (hm_A B 15) := by
  refine Met.ofW (cc := b_Mo_finished) (maxL := 3) (ret := (some .int)) (by decide +kernel) rfl ?_
  intro p e s m args below meth c s₁ Bd hml hv
  obtain ⟨rfl, hP, hK⟩ := hv
  have hl := lv_entry ([.ref (B + 0), .int x1, .int x2]) (n := 3) (Nat.le_of_ble_eq_true rfl)
  rw [lg_entry_eq]
  generalize (lg_sl ([.ref (B + 0), .int x1, .int x2]) ++ List.replicate (3 - (lg_sl ([.ref (B + 0), .int x1, .int x2])).length) Slot.unset).toArray = ls at hl ⊢
  have hl : lv_has ls 3 [(0, .ref (B + 0)), (1, .int x1), (2, .int x2)] := hl
  exact w_Mo_finished_e ⟨Bd.exec, Bd.bytes, hml, findClass_of_methodNamed Bd.named, Bd.returns, Bd.notSynchronized, hK⟩  _ _ _ _ _ _ hl hP va_S.rf hf
set_option maxHeartbeats 4000000 in
set_option maxRecDepth 100000 in
theorem w_Mo_given_30 {p : Program} {l : Launch} {e : Env} {s : State} {m : MethodId} {args : Array Value} {below : List Frame} {meth : Method} {c : Code} {D : va_G} {ca : Nat → ClassId} {B : Nat} {r : Int32} {M9 : mo_M} (X : hq_X p s m args meth c b_Mo_given R_Mo 2 (some .int) D mo_cl (mo_ty ca) hq_tb) : ∀ (y1 : Int32), ∀ (M : mo_M) (H : Heap) (locs : List Loc) (ls : Array Slot), lv_has ls 2 [] → hm_P D mo_cl ca 15 (mo_sh) B M.1 M.2 H → va_S (hm_A B 15) s.heap H locs → f_Mo_given_30 y1 M = some (r, M9) → W p l e ({ frames := 0, cells := 0, slots := 0, locals := 0 } : Room) s m args below meth c H locs 0 0 (MQ below (hq_QI D mo_cl ca 15 (mo_sh) B r M9.1 M9.2) args s 0 0 (hm_A B 15)) (F0 m 30 ls [.int y1, .ref (B + 1)]) := by
  obtain ⟨hx, hb, hml, hown, hr, hlk, hKt⟩ := id X
  have hK := hKt.1
  have hts : ∀ w ∈ hq_tb, w.before args s = true := fun w h => hKt.2.2 w h args
  intro y1 M H locs ls hl hP hS hf
  unfold f_Mo_given_30 at hf
  obtain ⟨g1, hf⟩ := hm_gd_some hf
  refine hq_iald hx hb hK hP 1 (by decide) (mo_s_ia24 (rfl)) 0 rfl g1 d_Mo_given_30 ?_
  obtain ⟨h9, h8⟩ := Prod.mk.inj (Option.some.inj hf)
  subst h9
  subst h8
  exact W.iret hx hb hr (fun t ht _ => ⟨⟨_, (), rfl, rfl, by subst ht; exact hP⟩, hS.F ht⟩) hS.2.2 d_Mo_given_31 hlk
set_option maxHeartbeats 4000000 in
set_option maxRecDepth 100000 in
theorem w_Mo_given_e {p : Program} {l : Launch} {e : Env} {s : State} {m : MethodId} {args : Array Value} {below : List Frame} {meth : Method} {c : Code} {D : va_G} {ca : Nat → ClassId} {B : Nat} {r : Int32} {M9 : mo_M} (X : hq_X p s m args meth c b_Mo_given R_Mo 2 (some .int) D mo_cl (mo_ty ca) hq_tb) : ∀ (x1 : Int32), ∀ (M : mo_M) (H : Heap) (locs : List Loc) (ls : Array Slot), lv_has ls 2 [(0, .ref (B + 0)), (1, .int x1)] → hm_P D mo_cl ca 15 (mo_sh) B M.1 M.2 H → va_S (hm_A B 15) s.heap H locs → f_Mo_given M x1 = some (r, M9) → W p l e ({ frames := 0, cells := 0, slots := 0, locals := 0 } : Room) s m args below meth c H locs 0 0 (MQ below (hq_QI D mo_cl ca 15 (mo_sh) B r M9.1 M9.2) args s 0 0 (hm_A B 15)) (F0 m 0 ls []) := by
  obtain ⟨hx, hb, hml, hown, hr, hlk, hKt⟩ := id X
  have hK := hKt.1
  have hts : ∀ w ∈ hq_tb, w.before args s = true := fun w h => hKt.2.2 w h args
  intro x1 M H locs ls hl hP hS hf
  unfold f_Mo_given at hf
  refine lv_aload_n hx hb d_Mo_given_0 rfl (lv_at hl 0 rfl) ?_
  refine hq_get hx hb hts i_Mo hown hK hP 0 (by decide) (mo_s_Mo (rfl)) rfl 1 (by decide) (hts _ mo_wd_4) (fun _ h => h) (v := .ref (B + 1)) rfl d_Mo_given_1 ?_
  refine lv_iload_n hx hb d_Mo_given_4 rfl (lv_at hl 1 rfl) ?_
  refine lv_if_ge (tgt := 12) hx hb d_Mo_given_5 (by decide) (fun c1 => ?_) (fun c1 => ?_)
  · replace hf := (if_pos c1).symm.trans hf
    refine lv_iload_n hx hb d_Mo_given_12 rfl (lv_at hl 1 rfl) ?_
    refine lv_aload_n hx hb d_Mo_given_13 rfl (lv_at hl 0 rfl) ?_
    refine hq_get hx hb hts i_Mo hown hK hP 0 (by decide) (mo_s_Mo (rfl)) rfl 0 (by decide) (hts _ mo_wd_3) (fun _ h => h) (v := .int (M.1 0 0)) rfl d_Mo_given_14 ?_
    refine lv_icmp_lt (tgt := 29) hx hb d_Mo_given_17 (by decide) (fun c2 => ?_) (fun c2 => ?_)
    · replace hf := (if_pos c2).symm.trans hf
      refine lv_iload_n hx hb d_Mo_given_29 rfl (lv_at hl 1 rfl) ?_
      exact w_Mo_given_30 X _ _ _ _ _ (lv_sub hl [] rfl) hP hS hf
    · replace hf := (if_neg c2).symm.trans hf
      refine lv_aload_n hx hb d_Mo_given_20 rfl (lv_at hl 0 rfl) ?_
      refine hq_get hx hb hts i_Mo hown hK hP 0 (by decide) (mo_s_Mo (rfl)) rfl 0 (by decide) (hts _ mo_wd_3) (fun _ h => h) (v := .int (M.1 0 0)) rfl d_Mo_given_21 ?_
      refine lv_iconst (v := 1) hx hb d_Mo_given_24 (by decide) ?_
      refine lv_isub hx hb d_Mo_given_25 ?_
      refine lv_goto (tgt := 30) hx hb d_Mo_given_26 (by decide) ?_
      exact w_Mo_given_30 X _ _ _ _ _ (lv_sub hl [] rfl) hP hS hf
  · replace hf := (if_neg c1).symm.trans hf
    refine lv_iconst (v := 0) hx hb d_Mo_given_8 (by decide) ?_
    refine lv_goto (tgt := 30) hx hb d_Mo_given_9 (by decide) ?_
    exact w_Mo_given_30 X _ _ _ _ _ (lv_sub hl [] rfl) hP hS hf
set_option maxHeartbeats 4000000 in
set_option maxRecDepth 100000 in
theorem c_Mo_given {l : Launch} {D : va_G} {ca : Nat → ClassId} {B : Nat} {r : Int32} {x1 : Int32} {M M9 : mo_M} (hf : f_Mo_given M x1 = some (r, M9)) : Met l y_Mo_given [Cond.code y_Mo_given b_Mo_given 2 (some .int)] ({ frames := 0, cells := 0, slots := 0, locals := 0 } : Room) (hq_Pre D mo_cl ca 15 (mo_sh) B (mo_ty ca) hq_tb M.1 M.2 [.ref (B + 0), .int x1]) (hq_QI D mo_cl ca 15 (mo_sh) B r M9.1 M9.2) 0 0 (hm_A B 15) := by
  refine Met.ofW (cc := b_Mo_given) (maxL := 2) (ret := (some .int)) (by decide +kernel) rfl ?_
  intro p e s m args below meth c s₁ Bd hml hv
  obtain ⟨rfl, hP, hK⟩ := hv
  have hl := lv_entry ([.ref (B + 0), .int x1]) (n := 2) (Nat.le_of_ble_eq_true rfl)
  rw [lg_entry_eq]
  generalize (lg_sl ([.ref (B + 0), .int x1]) ++ List.replicate (2 - (lg_sl ([.ref (B + 0), .int x1])).length) Slot.unset).toArray = ls at hl ⊢
  have hl : lv_has ls 2 [(0, .ref (B + 0)), (1, .int x1)] := hl
  exact w_Mo_given_e ⟨Bd.exec, Bd.bytes, hml, findClass_of_methodNamed Bd.named, Bd.returns, Bd.notSynchronized, hK⟩  _ _ _ _ _ hl hP va_S.rf hf
set_option maxHeartbeats 4000000 in
set_option maxRecDepth 100000 in
theorem w_Mo_valueAt_117 {p : Program} {l : Launch} {e : Env} {s : State} {m : MethodId} {args : Array Value} {below : List Frame} {meth : Method} {c : Code} {D : va_G} {ca : Nat → ClassId} {B : Nat} {r : Int32} {M9 : mo_M} (X : hq_X p s m args meth c b_Mo_valueAt R_Mo 9 (some .int) D mo_cl (mo_ty ca) hq_tb) {k2 : Int32 → Int32 → Int32 → mo_M → Option (Int32 × mo_M)} (hk2 : ∀ (x1 : Int32), ∀ (x2 : Int32), ∀ (x3 : Int32), ∀ (M : mo_M) (H : Heap) (locs : List Loc) (ls : Array Slot), lv_has ls 9 [(0, .ref (B + 0)), (1, .int x1), (2, .int x2), (3, .int x3)] → hm_P D mo_cl ca 15 (mo_sh) B M.1 M.2 H → va_S (hm_A B 15) s.heap H locs → k2 x1 x2 x3 M = some (r, M9) → W p l e ({ frames := 1, cells := 0, slots := 0, locals := 22 } : Room) s m args below meth c H locs 0 0 (MQ below (hq_QI D mo_cl ca 15 (mo_sh) B r M9.1 M9.2) args s 0 0 (hm_A B 15)) (F0 m 2 ls [])) {k19 : Int32 → Int32 → Int32 → Int32 → Int32 → mo_M → Option (Int32 × mo_M)} (hk19 : ∀ (x1 : Int32), ∀ (x2 : Int32), ∀ (x3 : Int32), ∀ (x4 : Int32), ∀ (x5 : Int32), ∀ (M : mo_M) (H : Heap) (locs : List Loc) (ls : Array Slot), lv_has ls 9 [(0, .ref (B + 0)), (1, .int x1), (2, .int x2), (3, .int x3), (4, .int x4), (5, .int x5)] → hm_P D mo_cl ca 15 (mo_sh) B M.1 M.2 H → va_S (hm_A B 15) s.heap H locs → k19 x1 x2 x3 x4 x5 M = some (r, M9) → W p l e ({ frames := 1, cells := 0, slots := 0, locals := 22 } : Room) s m args below meth c H locs 0 0 (MQ below (hq_QI D mo_cl ca 15 (mo_sh) B r M9.1 M9.2) args s 0 0 (hm_A B 15)) (F0 m 19 ls [])) {k39 : Int32 → Int32 → Int32 → Int32 → Int32 → Int32 → Int32 → mo_M → Option (Int32 × mo_M)} (hk39 : ∀ (x1 : Int32), ∀ (x2 : Int32), ∀ (x3 : Int32), ∀ (x4 : Int32), ∀ (x5 : Int32), ∀ (x6 : Int32), ∀ (x7 : Int32), ∀ (M : mo_M) (H : Heap) (locs : List Loc) (ls : Array Slot), lv_has ls 9 [(0, .ref (B + 0)), (1, .int x1), (2, .int x2), (3, .int x3), (4, .int x4), (5, .int x5), (6, .int x6), (7, .int x7)] → hm_P D mo_cl ca 15 (mo_sh) B M.1 M.2 H → va_S (hm_A B 15) s.heap H locs → k39 x1 x2 x3 x4 x5 x6 x7 M = some (r, M9) → W p l e ({ frames := 1, cells := 0, slots := 0, locals := 22 } : Room) s m args below meth c H locs 0 0 (MQ below (hq_QI D mo_cl ca 15 (mo_sh) B r M9.1 M9.2) args s 0 0 (hm_A B 15)) (F0 m 39 ls [])) : ∀ (x1 : Int32), ∀ (x2 : Int32), ∀ (x3 : Int32), ∀ (x4 : Int32), ∀ (x5 : Int32), ∀ (x7 : Int32), ∀ (y0 : Int32), ∀ (y1 : Int32), ∀ (y2 : Int32), ∀ (M : mo_M) (H : Heap) (locs : List Loc) (ls : Array Slot), lv_has ls 9 [(0, .ref (B + 0)), (1, .int x1), (2, .int x2), (3, .int x3), (4, .int x4), (5, .int x5), (7, .int x7)] → hm_P D mo_cl ca 15 (mo_sh) B M.1 M.2 H → va_S (hm_A B 15) s.heap H locs → f_Mo_valueAt_117 k2 k19 k39 x1 x2 x3 x4 x5 x7 y0 y1 y2 M = some (r, M9) → W p l e ({ frames := 1, cells := 0, slots := 0, locals := 22 } : Room) s m args below meth c H locs 0 0 (MQ below (hq_QI D mo_cl ca 15 (mo_sh) B r M9.1 M9.2) args s 0 0 (hm_A B 15)) (F0 m 117 ls [.int y2, .int y1, .int y0]) := by
  obtain ⟨hx, hb, hml, hown, hr, hlk, hKt⟩ := id X
  have hK := hKt.1
  have hts : ∀ w ∈ hq_tb, w.before args s = true := fun w h => hKt.2.2 w h args
  intro x1 x2 x3 x4 x5 x7 y0 y1 y2 M H locs ls hl hP hS hf
  unfold f_Mo_valueAt_117 at hf
  refine lv_imul hx hb d_Mo_valueAt_117 ?_
  refine lv_iadd hx hb d_Mo_valueAt_118 ?_
  refine lv_istore (lv' := [(6, .int (y0 + (y1 * y2))), (0, .ref (B + 0)), (1, .int x1), (2, .int x2), (3, .int x3), (4, .int x4), (5, .int x5), (7, .int x7)]) hx hb d_Mo_valueAt_119 hl (by decide) rfl (fun ls hl => ?_)
  refine lv_iinc (v := (x7 + 1)) (lv' := [(7, .int (x7 + 1)), (6, .int (y0 + (y1 * y2))), (0, .ref (B + 0)), (1, .int x1), (2, .int x2), (3, .int x3), (4, .int x4), (5, .int x5)]) hx hb d_Mo_valueAt_121 hl (k := 7) rfl rfl (by decide) rfl (fun ls hl => ?_)
  refine lv_goto (tgt := 39) hx hb d_Mo_valueAt_124 (by decide) ?_
  exact hk39 _ _ _ _ _ _ _ _ _ _ _ (lv_sub hl [2, 3, 4, 5, 6, 7, 1, 0] rfl) hP hS hf
set_option maxHeartbeats 4000000 in
set_option maxRecDepth 100000 in
theorem w_Mo_valueAt_39 {p : Program} {l : Launch} {e : Env} {s : State} {m : MethodId} {args : Array Value} {below : List Frame} {meth : Method} {c : Code} {D : va_G} {ca : Nat → ClassId} {B : Nat} {r : Int32} {M9 : mo_M} (X : hq_X p s m args meth c b_Mo_valueAt R_Mo 9 (some .int) D mo_cl (mo_ty ca) hq_tb) {k2 : Int32 → Int32 → Int32 → mo_M → Option (Int32 × mo_M)} (hk2 : ∀ (x1 : Int32), ∀ (x2 : Int32), ∀ (x3 : Int32), ∀ (M : mo_M) (H : Heap) (locs : List Loc) (ls : Array Slot), lv_has ls 9 [(0, .ref (B + 0)), (1, .int x1), (2, .int x2), (3, .int x3)] → hm_P D mo_cl ca 15 (mo_sh) B M.1 M.2 H → va_S (hm_A B 15) s.heap H locs → k2 x1 x2 x3 M = some (r, M9) → W p l e ({ frames := 1, cells := 0, slots := 0, locals := 22 } : Room) s m args below meth c H locs 0 0 (MQ below (hq_QI D mo_cl ca 15 (mo_sh) B r M9.1 M9.2) args s 0 0 (hm_A B 15)) (F0 m 2 ls [])) {k19 : Int32 → Int32 → Int32 → Int32 → Int32 → mo_M → Option (Int32 × mo_M)} (hk19 : ∀ (x1 : Int32), ∀ (x2 : Int32), ∀ (x3 : Int32), ∀ (x4 : Int32), ∀ (x5 : Int32), ∀ (M : mo_M) (H : Heap) (locs : List Loc) (ls : Array Slot), lv_has ls 9 [(0, .ref (B + 0)), (1, .int x1), (2, .int x2), (3, .int x3), (4, .int x4), (5, .int x5)] → hm_P D mo_cl ca 15 (mo_sh) B M.1 M.2 H → va_S (hm_A B 15) s.heap H locs → k19 x1 x2 x3 x4 x5 M = some (r, M9) → W p l e ({ frames := 1, cells := 0, slots := 0, locals := 22 } : Room) s m args below meth c H locs 0 0 (MQ below (hq_QI D mo_cl ca 15 (mo_sh) B r M9.1 M9.2) args s 0 0 (hm_A B 15)) (F0 m 19 ls [])) : ∀ (n : Nat), ∀ (x1 : Int32), ∀ (x2 : Int32), ∀ (x3 : Int32), ∀ (x4 : Int32), ∀ (x5 : Int32), ∀ (x6 : Int32), ∀ (x7 : Int32), ∀ (M : mo_M) (H : Heap) (locs : List Loc) (ls : Array Slot), lv_has ls 9 [(0, .ref (B + 0)), (1, .int x1), (2, .int x2), (3, .int x3), (4, .int x4), (5, .int x5), (6, .int x6), (7, .int x7)] → hm_P D mo_cl ca 15 (mo_sh) B M.1 M.2 H → va_S (hm_A B 15) s.heap H locs → f_Mo_valueAt_39 k2 k19 n x1 x2 x3 x4 x5 x6 x7 M = some (r, M9) → W p l e ({ frames := 1, cells := 0, slots := 0, locals := 22 } : Room) s m args below meth c H locs 0 0 (MQ below (hq_QI D mo_cl ca 15 (mo_sh) B r M9.1 M9.2) args s 0 0 (hm_A B 15)) (F0 m 39 ls []) := by
  obtain ⟨hx, hb, hml, hown, hr, hlk, hKt⟩ := id X
  have hK := hKt.1
  have hts : ∀ w ∈ hq_tb, w.before args s = true := fun w h => hKt.2.2 w h args
  intro n
  induction n with
  | zero =>
    intro x1 x2 x3 x4 x5 x6 x7 M H locs ls hl hP hS hf
    cases hf
  | succ n ih =>
    intro x1 x2 x3 x4 x5 x6 x7 M H locs ls hl hP hS hf
    rw [f_Mo_valueAt_39] at hf
    refine lv_iload hx hb d_Mo_valueAt_39 (lv_at hl 7 rfl) ?_
    refine lv_iload_n hx hb d_Mo_valueAt_41 rfl (lv_at hl 3 rfl) ?_
    refine lv_iconst (v := 4) hx hb d_Mo_valueAt_42 (by decide) ?_
    refine lv_imul hx hb d_Mo_valueAt_43 ?_
    refine lv_aload_n hx hb d_Mo_valueAt_44 rfl (lv_at hl 0 rfl) ?_
    refine hq_get hx hb hts i_Mo hown hK hP 0 (by decide) (mo_s_Mo (rfl)) rfl 8 (by decide) (hts _ mo_wd_16) (fun _ h => h) (v := .ref (B + 8)) rfl d_Mo_valueAt_45 ?_
    refine lv_iload_n hx hb d_Mo_valueAt_48 rfl (lv_at hl 3 rfl) ?_
    obtain ⟨g1, hf⟩ := hm_gd_some hf
    refine hq_iald hx hb hK hP 8 (by decide) (mo_s_ia8 (rfl)) 0 rfl g1 d_Mo_valueAt_49 ?_
    refine lv_iadd hx hb d_Mo_valueAt_50 ?_
    refine lv_icmp_ge (tgt := 127) hx hb d_Mo_valueAt_51 (by decide) (fun c2 => ?_) (fun c2 => ?_)
    · replace hf := (if_pos c2).symm.trans hf
      refine lv_aload_n hx hb d_Mo_valueAt_127 rfl (lv_at hl 0 rfl) ?_
      refine hq_get hx hb hts i_Mo hown hK hP 0 (by decide) (mo_s_Mo (rfl)) rfl 16 (by decide) (hts _ mo_wd_24) (fun _ h => h) (v := .ref (B + 10)) rfl d_Mo_valueAt_128 ?_
      refine lv_iload_n hx hb d_Mo_valueAt_131 rfl (lv_at hl 3 rfl) ?_
      refine lv_bipush (v := 61) hx hb d_Mo_valueAt_132 (by decide) ?_
      refine lv_imul hx hb d_Mo_valueAt_134 ?_
      refine lv_bipush (v := 30) hx hb d_Mo_valueAt_135 (by decide) ?_
      refine lv_iadd hx hb d_Mo_valueAt_137 ?_
      refine lv_iload hx hb d_Mo_valueAt_138 (lv_at hl 5 rfl) ?_
      refine lv_iadd hx hb d_Mo_valueAt_140 ?_
      refine lv_aload_n hx hb d_Mo_valueAt_141 rfl (lv_at hl 0 rfl) ?_
      refine lv_iload_n hx hb d_Mo_valueAt_142 rfl (lv_at hl 3 rfl) ?_
      refine lv_iload hx hb d_Mo_valueAt_143 (lv_at hl 6 rfl) ?_
      obtain ⟨r3, M_4, hc5, hf⟩ := hm_bI_some hf
      refine hq_callI (va_runV (As := [.int x3, .int x6]) (rest := [.int (((x3 * 61) + 30) + x5), .ref (B + 10)]) ⟨hx, hb, hml, hown, hts⟩ (c_Mo_finished (l := l) (D := D) (ca := ca) (B := B)  hc5) (hq_cwV (nn := 2) hts mo_wd_25 mo_wd_6 mo_wd_26 mo_wd_27 mo_wd_28 (by decide +kernel) rfl rfl ⟨(Nat.le_of_ble_eq_true rfl), (Nat.le_of_ble_eq_true rfl)⟩) (hq_preV hKt hP (by decide) (mo_s_Mo (rfl)) rfl) rfl rfl hl.1 rfl (lv_room (Nat.le_of_ble_eq_true rfl)) d_Mo_valueAt_145 ⟨(Nat.le_of_ble_eq_true rfl), (Nat.le_of_ble_eq_true rfl)⟩) hS (fun H locs hP hS => ?_)
      obtain ⟨g6, hf⟩ := hm_gd_some hf
      refine hq_iast hx hb hK hP hS 10 (by decide) (mo_s_ia488 (rfl)) 0 rfl g6 d_Mo_valueAt_148 (fun H locs hP hS => ?_)
      obtain ⟨M_7, e_7, hf⟩ := mo_st_some hf
      replace hP : hm_P D mo_cl ca 15 mo_sh B M_7.1 M_7.2 H := by rw [e_7]; exact hP
      refine lv_iinc (v := (x5 + 1)) (lv' := [(5, .int (x5 + 1)), (0, .ref (B + 0)), (1, .int x1), (2, .int x2), (3, .int x3), (4, .int x4), (6, .int x6), (7, .int x7)]) hx hb d_Mo_valueAt_149 hl (k := 5) rfl rfl (by decide) rfl (fun ls hl => ?_)
      refine lv_goto (tgt := 19) hx hb d_Mo_valueAt_152 (by decide) ?_
      exact hk19 _ _ _ _ _ _ _ _ _ (lv_sub hl [1, 2, 3, 4, 5, 0] rfl) hP hS hf
    · replace hf := (if_neg c2).symm.trans hf
      refine lv_iload hx hb d_Mo_valueAt_54 (lv_at hl 5 rfl) ?_
      refine lv_aload_n hx hb d_Mo_valueAt_56 rfl (lv_at hl 0 rfl) ?_
      refine hq_get hx hb hts i_Mo hown hK hP 0 (by decide) (mo_s_Mo (rfl)) rfl 6 (by decide) (hts _ mo_wd_18) (fun _ h => h) (v := .ref (B + 6)) rfl d_Mo_valueAt_57 ?_
      refine lv_iload hx hb d_Mo_valueAt_60 (lv_at hl 7 rfl) ?_
      obtain ⟨g8, hf⟩ := hm_gd_some hf
      refine hq_iald hx hb hK hP 6 (by decide) (mo_s_ia32 (rfl)) 0 rfl g8 d_Mo_valueAt_62 ?_
      refine lv_iadd hx hb d_Mo_valueAt_63 ?_
      refine lv_istore (lv' := [(8, .int (x5 + (M.1 6 x7.toNatClampNeg))), (0, .ref (B + 0)), (1, .int x1), (2, .int x2), (3, .int x3), (4, .int x4), (5, .int x5), (6, .int x6), (7, .int x7)]) hx hb d_Mo_valueAt_64 hl (by decide) rfl (fun ls hl => ?_)
      refine lv_iload hx hb d_Mo_valueAt_66 (lv_at hl 7 rfl) ?_
      refine lv_aload_n hx hb d_Mo_valueAt_68 rfl (lv_at hl 1 rfl) ?_
      refine hq_get hx hb hts i_Mo hown hK hP 0 (by decide) (mo_s_Mo (rfl)) rfl 7 (by decide) (hts _ mo_wd_19) (fun _ h => h) (v := .ref (B + 7)) rfl d_Mo_valueAt_69 ?_
      refine lv_iload hx hb d_Mo_valueAt_72 (lv_at hl 8 rfl) ?_
      obtain ⟨g9, hf⟩ := hm_gd_some hf
      refine hq_iald hx hb hK hP 7 (by decide) (mo_s_ia32 (rfl)) 0 rfl g9 d_Mo_valueAt_74 ?_
      refine lv_aload_n hx hb d_Mo_valueAt_75 rfl (lv_at hl 1 rfl) ?_
      refine hq_get hx hb hts i_Mo hown hK hP 0 (by decide) (mo_s_Mo (rfl)) rfl 5 (by decide) (hts _ mo_wd_17) (fun _ h => h) (v := .ref (B + 5)) rfl d_Mo_valueAt_76 ?_
      refine lv_iload hx hb d_Mo_valueAt_79 (lv_at hl 8 rfl) ?_
      obtain ⟨g10, hf⟩ := hm_gd_some hf
      refine hq_iald hx hb hK hP 5 (by decide) (mo_s_ia32 (rfl)) 0 rfl g10 d_Mo_valueAt_81 ?_
      refine lv_if_ge (tgt := 96) hx hb d_Mo_valueAt_82 (by decide) (fun c11 => ?_) (fun c11 => ?_)
      · replace hf := (if_pos c11).symm.trans hf
        refine lv_aload_n hx hb d_Mo_valueAt_96 rfl (lv_at hl 1 rfl) ?_
        refine hq_get hx hb hts i_Mo hown hK hP 0 (by decide) (mo_s_Mo (rfl)) rfl 16 (by decide) (hts _ mo_wd_24) (fun _ h => h) (v := .ref (B + 10)) rfl d_Mo_valueAt_97 ?_
        refine lv_aload_n hx hb d_Mo_valueAt_100 rfl (lv_at hl 1 rfl) ?_
        refine hq_get hx hb hts i_Mo hown hK hP 0 (by decide) (mo_s_Mo (rfl)) rfl 5 (by decide) (hts _ mo_wd_17) (fun _ h => h) (v := .ref (B + 5)) rfl d_Mo_valueAt_101 ?_
        refine lv_iload hx hb d_Mo_valueAt_104 (lv_at hl 8 rfl) ?_
        obtain ⟨g12, hf⟩ := hm_gd_some hf
        refine hq_iald hx hb hK hP 5 (by decide) (mo_s_ia32 (rfl)) 0 rfl g12 d_Mo_valueAt_106 ?_
        refine lv_bipush (v := 61) hx hb d_Mo_valueAt_107 (by decide) ?_
        refine lv_imul hx hb d_Mo_valueAt_109 ?_
        refine lv_bipush (v := 30) hx hb d_Mo_valueAt_110 (by decide) ?_
        refine lv_iadd hx hb d_Mo_valueAt_112 ?_
        refine lv_iload hx hb d_Mo_valueAt_113 (lv_at hl 0 rfl) ?_
        refine lv_iadd hx hb d_Mo_valueAt_115 ?_
        obtain ⟨g13, hf⟩ := hm_gd_some hf
        refine hq_iald hx hb hK hP 10 (by decide) (mo_s_ia488 (rfl)) 0 rfl g13 d_Mo_valueAt_116 ?_
        exact w_Mo_valueAt_117 X hk2 hk19 ih _ _ _ _ _ _ _ _ _ _ _ _ _ (lv_sub hl [1, 2, 3, 4, 5, 6, 8] rfl) hP hS hf
      · replace hf := (if_neg c11).symm.trans hf
        refine lv_aload_n hx hb d_Mo_valueAt_85 rfl (lv_at hl 1 rfl) ?_
        refine lv_iload_n hx hb d_Mo_valueAt_86 rfl (lv_at hl 3 rfl) ?_
        refine lv_iload hx hb d_Mo_valueAt_87 (lv_at hl 0 rfl) ?_
        refine lv_iadd hx hb d_Mo_valueAt_89 ?_
        obtain ⟨r14, M_15, hc16, hf⟩ := hm_bI_some hf
        refine hq_callI (va_runV (As := [.int (x2 + (x5 + (M.1 6 x7.toNatClampNeg)))]) (rest := [.int (M.1 7 x7.toNatClampNeg), .int x6]) ⟨hx, hb, hml, hown, hts⟩ (c_Mo_given (l := l) (D := D) (ca := ca) (B := B)  hc16) (hq_cwV (nn := 1) hts mo_wd_29 mo_wd_6 mo_wd_30 mo_wd_31 mo_wd_32 (by decide +kernel) rfl rfl ⟨(Nat.le_of_ble_eq_true rfl), (Nat.le_of_ble_eq_true rfl)⟩) (hq_preV hKt hP (by decide) (mo_s_Mo (rfl)) rfl) rfl rfl hl.1 rfl (lv_room (Nat.le_of_ble_eq_true rfl)) d_Mo_valueAt_90 ⟨(Nat.le_of_ble_eq_true rfl), (Nat.le_of_ble_eq_true rfl)⟩) hS (fun H locs hP hS => ?_)
        refine lv_goto (tgt := 117) hx hb d_Mo_valueAt_93 (by decide) ?_
        exact w_Mo_valueAt_117 X hk2 hk19 ih _ _ _ _ _ _ _ _ _ _ _ _ _ (lv_sub hl [1, 2, 3, 4, 5, 6, 8] rfl) hP hS hf
set_option maxHeartbeats 4000000 in
set_option maxRecDepth 100000 in
theorem w_Mo_valueAt_19 {p : Program} {l : Launch} {e : Env} {s : State} {m : MethodId} {args : Array Value} {below : List Frame} {meth : Method} {c : Code} {D : va_G} {ca : Nat → ClassId} {B : Nat} {r : Int32} {M9 : mo_M} (X : hq_X p s m args meth c b_Mo_valueAt R_Mo 9 (some .int) D mo_cl (mo_ty ca) hq_tb) {k2 : Int32 → Int32 → Int32 → mo_M → Option (Int32 × mo_M)} (hk2 : ∀ (x1 : Int32), ∀ (x2 : Int32), ∀ (x3 : Int32), ∀ (M : mo_M) (H : Heap) (locs : List Loc) (ls : Array Slot), lv_has ls 9 [(0, .ref (B + 0)), (1, .int x1), (2, .int x2), (3, .int x3)] → hm_P D mo_cl ca 15 (mo_sh) B M.1 M.2 H → va_S (hm_A B 15) s.heap H locs → k2 x1 x2 x3 M = some (r, M9) → W p l e ({ frames := 1, cells := 0, slots := 0, locals := 22 } : Room) s m args below meth c H locs 0 0 (MQ below (hq_QI D mo_cl ca 15 (mo_sh) B r M9.1 M9.2) args s 0 0 (hm_A B 15)) (F0 m 2 ls [])) : ∀ (n : Nat), ∀ (x1 : Int32), ∀ (x2 : Int32), ∀ (x3 : Int32), ∀ (x4 : Int32), ∀ (x5 : Int32), ∀ (M : mo_M) (H : Heap) (locs : List Loc) (ls : Array Slot), lv_has ls 9 [(0, .ref (B + 0)), (1, .int x1), (2, .int x2), (3, .int x3), (4, .int x4), (5, .int x5)] → hm_P D mo_cl ca 15 (mo_sh) B M.1 M.2 H → va_S (hm_A B 15) s.heap H locs → f_Mo_valueAt_19 k2 n x1 x2 x3 x4 x5 M = some (r, M9) → W p l e ({ frames := 1, cells := 0, slots := 0, locals := 22 } : Room) s m args below meth c H locs 0 0 (MQ below (hq_QI D mo_cl ca 15 (mo_sh) B r M9.1 M9.2) args s 0 0 (hm_A B 15)) (F0 m 19 ls []) := by
  obtain ⟨hx, hb, hml, hown, hr, hlk, hKt⟩ := id X
  have hK := hKt.1
  have hts : ∀ w ∈ hq_tb, w.before args s = true := fun w h => hKt.2.2 w h args
  intro n
  induction n with
  | zero =>
    intro x1 x2 x3 x4 x5 M H locs ls hl hP hS hf
    cases hf
  | succ n ih =>
    intro x1 x2 x3 x4 x5 M H locs ls hl hP hS hf
    rw [f_Mo_valueAt_19] at hf
    refine lv_iload hx hb d_Mo_valueAt_19 (lv_at hl 5 rfl) ?_
    refine lv_iload hx hb d_Mo_valueAt_21 (lv_at hl 4 rfl) ?_
    refine lv_icmp_gt (tgt := 155) hx hb d_Mo_valueAt_23 (by decide) (fun c1 => ?_) (fun c1 => ?_)
    · replace hf := (if_pos c1).symm.trans hf
      refine lv_iinc (v := (x3 + 1)) (lv' := [(3, .int (x3 + 1)), (0, .ref (B + 0)), (1, .int x1), (2, .int x2), (4, .int x4), (5, .int x5)]) hx hb d_Mo_valueAt_155 hl (k := 3) rfl rfl (by decide) rfl (fun ls hl => ?_)
      refine lv_goto (tgt := 2) hx hb d_Mo_valueAt_158 (by decide) ?_
      exact hk2 _ _ _ _ _ _ _ (lv_sub hl [1, 2, 3, 0] rfl) hP hS hf
    · replace hf := (if_neg c1).symm.trans hf
      refine lv_aload_n hx hb d_Mo_valueAt_26 rfl (lv_at hl 0 rfl) ?_
      refine hq_get hx hb hts i_Mo hown hK hP 0 (by decide) (mo_s_Mo (rfl)) rfl 2 (by decide) (hts _ mo_wd_10) (fun _ h => h) (v := .ref (B + 2)) rfl d_Mo_valueAt_27 ?_
      refine lv_iload_n hx hb d_Mo_valueAt_30 rfl (lv_at hl 3 rfl) ?_
      obtain ⟨g2, hf⟩ := hm_gd_some hf
      refine hq_iald hx hb hK hP 2 (by decide) (mo_s_ia8 (rfl)) 0 rfl g2 d_Mo_valueAt_31 ?_
      refine lv_istore (lv' := [(6, .int (M.1 2 x3.toNatClampNeg)), (0, .ref (B + 0)), (1, .int x1), (2, .int x2), (3, .int x3), (4, .int x4), (5, .int x5)]) hx hb d_Mo_valueAt_32 hl (by decide) rfl (fun ls hl => ?_)
      refine lv_iload_n hx hb d_Mo_valueAt_34 rfl (lv_at hl 4 rfl) ?_
      refine lv_iconst (v := 4) hx hb d_Mo_valueAt_35 (by decide) ?_
      refine lv_imul hx hb d_Mo_valueAt_36 ?_
      refine lv_istore (lv' := [(7, .int (x3 * 4)), (6, .int (M.1 2 x3.toNatClampNeg)), (0, .ref (B + 0)), (1, .int x1), (2, .int x2), (3, .int x3), (4, .int x4), (5, .int x5)]) hx hb d_Mo_valueAt_37 hl (by decide) rfl (fun ls hl => ?_)
      exact w_Mo_valueAt_39 X hk2 ih _ _ _ _ _ _ _ _ _ _ _ _ (lv_sub hl [2, 3, 4, 5, 6, 7, 1, 0] rfl) hP hS hf
set_option maxHeartbeats 4000000 in
set_option maxRecDepth 100000 in
theorem w_Mo_valueAt_2 {p : Program} {l : Launch} {e : Env} {s : State} {m : MethodId} {args : Array Value} {below : List Frame} {meth : Method} {c : Code} {D : va_G} {ca : Nat → ClassId} {B : Nat} {r : Int32} {M9 : mo_M} (X : hq_X p s m args meth c b_Mo_valueAt R_Mo 9 (some .int) D mo_cl (mo_ty ca) hq_tb) : ∀ (n : Nat), ∀ (x1 : Int32), ∀ (x2 : Int32), ∀ (x3 : Int32), ∀ (M : mo_M) (H : Heap) (locs : List Loc) (ls : Array Slot), lv_has ls 9 [(0, .ref (B + 0)), (1, .int x1), (2, .int x2), (3, .int x3)] → hm_P D mo_cl ca 15 (mo_sh) B M.1 M.2 H → va_S (hm_A B 15) s.heap H locs → f_Mo_valueAt_2 n x1 x2 x3 M = some (r, M9) → W p l e ({ frames := 1, cells := 0, slots := 0, locals := 22 } : Room) s m args below meth c H locs 0 0 (MQ below (hq_QI D mo_cl ca 15 (mo_sh) B r M9.1 M9.2) args s 0 0 (hm_A B 15)) (F0 m 2 ls []) := by
  obtain ⟨hx, hb, hml, hown, hr, hlk, hKt⟩ := id X
  have hK := hKt.1
  have hts : ∀ w ∈ hq_tb, w.before args s = true := fun w h => hKt.2.2 w h args
  intro n
  induction n with
  | zero =>
    intro x1 x2 x3 M H locs ls hl hP hS hf
    cases hf
  | succ n ih =>
    intro x1 x2 x3 M H locs ls hl hP hS hf
    rw [f_Mo_valueAt_2] at hf
    refine lv_iload_n hx hb d_Mo_valueAt_2 rfl (lv_at hl 3 rfl) ?_
    refine lv_iload_n hx hb d_Mo_valueAt_3 rfl (lv_at hl 1 rfl) ?_
    refine lv_icmp_gt (tgt := 161) hx hb d_Mo_valueAt_4 (by decide) (fun c1 => ?_) (fun c1 => ?_)
    · replace hf := (if_pos c1).symm.trans hf
      refine lv_aload_n hx hb d_Mo_valueAt_161 rfl (lv_at hl 0 rfl) ?_
      refine hq_get hx hb hts i_Mo hown hK hP 0 (by decide) (mo_s_Mo (rfl)) rfl 16 (by decide) (hts _ mo_wd_24) (fun _ h => h) (v := .ref (B + 10)) rfl d_Mo_valueAt_162 ?_
      refine lv_iload_n hx hb d_Mo_valueAt_165 rfl (lv_at hl 1 rfl) ?_
      refine lv_bipush (v := 61) hx hb d_Mo_valueAt_166 (by decide) ?_
      refine lv_imul hx hb d_Mo_valueAt_168 ?_
      refine lv_bipush (v := 30) hx hb d_Mo_valueAt_169 (by decide) ?_
      refine lv_iadd hx hb d_Mo_valueAt_171 ?_
      obtain ⟨g2, hf⟩ := hm_gd_some hf
      refine hq_iald hx hb hK hP 10 (by decide) (mo_s_ia488 (rfl)) 0 rfl g2 d_Mo_valueAt_172 ?_
      obtain ⟨h9, h8⟩ := Prod.mk.inj (Option.some.inj hf)
      subst h9
      subst h8
      exact W.iret hx hb hr (fun t ht _ => ⟨⟨_, (), rfl, rfl, by subst ht; exact hP⟩, hS.F ht⟩) hS.2.2 d_Mo_valueAt_173 hlk
    · replace hf := (if_neg c1).symm.trans hf
      refine lv_iconst (v := 4) hx hb d_Mo_valueAt_7 (by decide) ?_
      refine lv_iload_n hx hb d_Mo_valueAt_8 rfl (lv_at hl 1 rfl) ?_
      refine lv_iload_n hx hb d_Mo_valueAt_9 rfl (lv_at hl 3 rfl) ?_
      refine lv_isub hx hb d_Mo_valueAt_10 ?_
      refine lv_imul hx hb d_Mo_valueAt_11 ?_
      refine lv_istore (lv' := [(4, .int (4 * (x1 - x3))), (0, .ref (B + 0)), (1, .int x1), (2, .int x2), (3, .int x3)]) hx hb d_Mo_valueAt_12 hl (by decide) rfl (fun ls hl => ?_)
      refine lv_iload hx hb d_Mo_valueAt_14 (lv_at hl 0 rfl) ?_
      refine lv_ineg hx hb d_Mo_valueAt_16 ?_
      refine lv_istore (lv' := [(5, .int (-(4 * (x1 - x3)))), (4, .int (4 * (x1 - x3))), (0, .ref (B + 0)), (1, .int x1), (2, .int x2), (3, .int x3)]) hx hb d_Mo_valueAt_17 hl (by decide) rfl (fun ls hl => ?_)
      exact w_Mo_valueAt_19 X ih _ _ _ _ _ _ _ _ _ _ (lv_sub hl [2, 3, 4, 5, 1, 0] rfl) hP hS hf
set_option maxHeartbeats 4000000 in
set_option maxRecDepth 100000 in
theorem w_Mo_valueAt_e {p : Program} {l : Launch} {e : Env} {s : State} {m : MethodId} {args : Array Value} {below : List Frame} {meth : Method} {c : Code} {D : va_G} {ca : Nat → ClassId} {B : Nat} {r : Int32} {M9 : mo_M} (X : hq_X p s m args meth c b_Mo_valueAt R_Mo 9 (some .int) D mo_cl (mo_ty ca) hq_tb) : ∀ (x1 : Int32), ∀ (x2 : Int32), ∀ (M : mo_M) (H : Heap) (locs : List Loc) (ls : Array Slot), lv_has ls 9 [(0, .ref (B + 0)), (1, .int x1), (2, .int x2)] → hm_P D mo_cl ca 15 (mo_sh) B M.1 M.2 H → va_S (hm_A B 15) s.heap H locs → f_Mo_valueAt M x1 x2 = some (r, M9) → W p l e ({ frames := 1, cells := 0, slots := 0, locals := 22 } : Room) s m args below meth c H locs 0 0 (MQ below (hq_QI D mo_cl ca 15 (mo_sh) B r M9.1 M9.2) args s 0 0 (hm_A B 15)) (F0 m 0 ls []) := by
  obtain ⟨hx, hb, hml, hown, hr, hlk, hKt⟩ := id X
  have hK := hKt.1
  have hts : ∀ w ∈ hq_tb, w.before args s = true := fun w h => hKt.2.2 w h args
  intro x1 x2 M H locs ls hl hP hS hf
  unfold f_Mo_valueAt at hf
  refine lv_iconst (v := 0) hx hb d_Mo_valueAt_0 (by decide) ?_
  refine lv_istore_n (lv' := [(3, .int 0), (0, .ref (B + 0)), (1, .int x1), (2, .int x2)]) hx hb d_Mo_valueAt_1 rfl hl (by decide) rfl (fun ls hl => ?_)
  exact w_Mo_valueAt_2 X _ _ _ _ _ _ _ _ (lv_sub hl [1, 2, 3, 0] rfl) hP hS hf
set_option maxHeartbeats 4000000 in
set_option maxRecDepth 100000 in
theorem c_Mo_valueAt {l : Launch} {D : va_G} {ca : Nat → ClassId} {B : Nat} {r : Int32} {x1 : Int32} {x2 : Int32} {M M9 : mo_M} (hf : f_Mo_valueAt M x1 x2 = some (r, M9)) : Met l y_Mo_valueAt [Cond.code y_Mo_valueAt b_Mo_valueAt 9 (some .int)] ({ frames := 1, cells := 0, slots := 0, locals := 22 } : Room) (hq_Pre D mo_cl ca 15 (mo_sh) B (mo_ty ca) hq_tb M.1 M.2 [.ref (B + 0), .int x1, .int x2]) (hq_QI D mo_cl ca 15 (mo_sh) B r M9.1 M9.2) 0 0 (hm_A B 15) := by
  refine Met.ofW (cc := b_Mo_valueAt) (maxL := 9) (ret := (some .int)) (by decide +kernel) rfl ?_
  intro p e s m args below meth c s₁ Bd hml hv
  obtain ⟨rfl, hP, hK⟩ := hv
  have hl := lv_entry ([.ref (B + 0), .int x1, .int x2]) (n := 9) (Nat.le_of_ble_eq_true rfl)
  rw [lg_entry_eq]
  generalize (lg_sl ([.ref (B + 0), .int x1, .int x2]) ++ List.replicate (9 - (lg_sl ([.ref (B + 0), .int x1, .int x2])).length) Slot.unset).toArray = ls at hl ⊢
  have hl : lv_has ls 9 [(0, .ref (B + 0)), (1, .int x1), (2, .int x2)] := hl
  exact w_Mo_valueAt_e ⟨Bd.exec, Bd.bytes, hml, findClass_of_methodNamed Bd.named, Bd.returns, Bd.notSynchronized, hK⟩  _ _ _ _ _ _ hl hP va_S.rf hf
set_option maxHeartbeats 4000000 in
set_option maxRecDepth 100000 in
theorem w_Mo_at_20 {p : Program} {l : Launch} {e : Env} {s : State} {m : MethodId} {args : Array Value} {below : List Frame} {meth : Method} {c : Code} {D : va_G} {ca : Nat → ClassId} {B : Nat} {r : Int64} {M9 : mo_M} (X : hq_X p s m args meth c b_Mo_at R_Mo 5 (some .long) D mo_cl (mo_ty ca) hq_tb) : ∀ (M : mo_M) (H : Heap) (locs : List Loc) (ls : Array Slot), lv_has ls 5 [] → hm_P D mo_cl ca 15 (mo_sh) B M.1 M.2 H → va_S (hm_A B 15) s.heap H locs → f_Mo_at_20 M = some (r, M9) → W p l e ({ frames := 2, cells := 0, slots := 0, locals := 50 } : Room) s m args below meth c H locs 0 0 (MQ below (hq_QL D mo_cl ca 15 (mo_sh) B r M9.1 M9.2) args s 0 0 (hm_A B 15)) (F0 m 20 ls []) := by
  obtain ⟨hx, hb, hml, hown, hr, hlk, hKt⟩ := id X
  have hK := hKt.1
  have hts : ∀ w ∈ hq_tb, w.before args s = true := fun w h => hKt.2.2 w h args
  intro  M H locs ls hl hP hS hf
  unfold f_Mo_at_20 at hf
  refine lv_ldc2 (v := (-1000000000000)) hx hb hown (hts _ mo_wd_33) d_Mo_at_20 ?_
  obtain ⟨h9, h8⟩ := Prod.mk.inj (Option.some.inj hf)
  subst h9
  subst h8
  exact W.lret hx hb hr (fun t ht _ => ⟨⟨_, (), rfl, rfl, by subst ht; exact hP⟩, hS.F ht⟩) hS.2.2 d_Mo_at_23 hlk
set_option maxHeartbeats 4000000 in
set_option maxRecDepth 100000 in
theorem w_Mo_at_89 {p : Program} {l : Launch} {e : Env} {s : State} {m : MethodId} {args : Array Value} {below : List Frame} {meth : Method} {c : Code} {D : va_G} {ca : Nat → ClassId} {B : Nat} {r : Int64} {M9 : mo_M} (X : hq_X p s m args meth c b_Mo_at R_Mo 5 (some .long) D mo_cl (mo_ty ca) hq_tb) {k26 : Int32 → Int32 → Int32 → mo_M → Option (Int64 × mo_M)} (hk26 : ∀ (x1 : Int32), ∀ (x2 : Int32), ∀ (x3 : Int32), ∀ (M : mo_M) (H : Heap) (locs : List Loc) (ls : Array Slot), lv_has ls 5 [(0, .ref (B + 0)), (1, .int x1), (2, .int x2), (3, .int x3)] → hm_P D mo_cl ca 15 (mo_sh) B M.1 M.2 H → va_S (hm_A B 15) s.heap H locs → k26 x1 x2 x3 M = some (r, M9) → W p l e ({ frames := 2, cells := 0, slots := 0, locals := 50 } : Room) s m args below meth c H locs 0 0 (MQ below (hq_QL D mo_cl ca 15 (mo_sh) B r M9.1 M9.2) args s 0 0 (hm_A B 15)) (F0 m 26 ls [])) {k43 : Int32 → Int32 → Int32 → Int32 → mo_M → Option (Int64 × mo_M)} (hk43 : ∀ (x1 : Int32), ∀ (x2 : Int32), ∀ (x3 : Int32), ∀ (x4 : Int32), ∀ (M : mo_M) (H : Heap) (locs : List Loc) (ls : Array Slot), lv_has ls 5 [(0, .ref (B + 0)), (1, .int x1), (2, .int x2), (3, .int x3), (4, .int x4)] → hm_P D mo_cl ca 15 (mo_sh) B M.1 M.2 H → va_S (hm_A B 15) s.heap H locs → k43 x1 x2 x3 x4 M = some (r, M9) → W p l e ({ frames := 2, cells := 0, slots := 0, locals := 50 } : Room) s m args below meth c H locs 0 0 (MQ below (hq_QL D mo_cl ca 15 (mo_sh) B r M9.1 M9.2) args s 0 0 (hm_A B 15)) (F0 m 43 ls [])) : ∀ (x1 : Int32), ∀ (x2 : Int32), ∀ (x3 : Int32), ∀ (x4 : Int32), ∀ (M : mo_M) (H : Heap) (locs : List Loc) (ls : Array Slot), lv_has ls 5 [(0, .ref (B + 0)), (1, .int x1), (2, .int x2), (3, .int x3), (4, .int x4)] → hm_P D mo_cl ca 15 (mo_sh) B M.1 M.2 H → va_S (hm_A B 15) s.heap H locs → f_Mo_at_89 k26 k43 x1 x2 x3 x4 M = some (r, M9) → W p l e ({ frames := 2, cells := 0, slots := 0, locals := 50 } : Room) s m args below meth c H locs 0 0 (MQ below (hq_QL D mo_cl ca 15 (mo_sh) B r M9.1 M9.2) args s 0 0 (hm_A B 15)) (F0 m 89 ls []) := by
  obtain ⟨hx, hb, hml, hown, hr, hlk, hKt⟩ := id X
  have hK := hKt.1
  have hts : ∀ w ∈ hq_tb, w.before args s = true := fun w h => hKt.2.2 w h args
  intro x1 x2 x3 x4 M H locs ls hl hP hS hf
  unfold f_Mo_at_89 at hf
  refine lv_iinc (v := (x4 + 1)) (lv' := [(4, .int (x4 + 1)), (0, .ref (B + 0)), (1, .int x1), (2, .int x2), (3, .int x3)]) hx hb d_Mo_at_89 hl (k := 4) rfl rfl (by decide) rfl (fun ls hl => ?_)
  refine lv_goto (tgt := 43) hx hb d_Mo_at_92 (by decide) ?_
  exact hk43 _ _ _ _ _ _ _ _ (lv_sub hl [1, 2, 3, 4, 0] rfl) hP hS hf
set_option maxHeartbeats 4000000 in
set_option maxRecDepth 100000 in
theorem w_Mo_at_43 {p : Program} {l : Launch} {e : Env} {s : State} {m : MethodId} {args : Array Value} {below : List Frame} {meth : Method} {c : Code} {D : va_G} {ca : Nat → ClassId} {B : Nat} {r : Int64} {M9 : mo_M} (X : hq_X p s m args meth c b_Mo_at R_Mo 5 (some .long) D mo_cl (mo_ty ca) hq_tb) {k26 : Int32 → Int32 → Int32 → mo_M → Option (Int64 × mo_M)} (hk26 : ∀ (x1 : Int32), ∀ (x2 : Int32), ∀ (x3 : Int32), ∀ (M : mo_M) (H : Heap) (locs : List Loc) (ls : Array Slot), lv_has ls 5 [(0, .ref (B + 0)), (1, .int x1), (2, .int x2), (3, .int x3)] → hm_P D mo_cl ca 15 (mo_sh) B M.1 M.2 H → va_S (hm_A B 15) s.heap H locs → k26 x1 x2 x3 M = some (r, M9) → W p l e ({ frames := 2, cells := 0, slots := 0, locals := 50 } : Room) s m args below meth c H locs 0 0 (MQ below (hq_QL D mo_cl ca 15 (mo_sh) B r M9.1 M9.2) args s 0 0 (hm_A B 15)) (F0 m 26 ls [])) : ∀ (n : Nat), ∀ (x1 : Int32), ∀ (x2 : Int32), ∀ (x3 : Int32), ∀ (x4 : Int32), ∀ (M : mo_M) (H : Heap) (locs : List Loc) (ls : Array Slot), lv_has ls 5 [(0, .ref (B + 0)), (1, .int x1), (2, .int x2), (3, .int x3), (4, .int x4)] → hm_P D mo_cl ca 15 (mo_sh) B M.1 M.2 H → va_S (hm_A B 15) s.heap H locs → f_Mo_at_43 k26 n x1 x2 x3 x4 M = some (r, M9) → W p l e ({ frames := 2, cells := 0, slots := 0, locals := 50 } : Room) s m args below meth c H locs 0 0 (MQ below (hq_QL D mo_cl ca 15 (mo_sh) B r M9.1 M9.2) args s 0 0 (hm_A B 15)) (F0 m 43 ls []) := by
  obtain ⟨hx, hb, hml, hown, hr, hlk, hKt⟩ := id X
  have hK := hKt.1
  have hts : ∀ w ∈ hq_tb, w.before args s = true := fun w h => hKt.2.2 w h args
  intro n
  induction n with
  | zero =>
    intro x1 x2 x3 x4 M H locs ls hl hP hS hf
    cases hf
  | succ n ih =>
    intro x1 x2 x3 x4 M H locs ls hl hP hS hf
    rw [f_Mo_at_43] at hf
    refine lv_iload hx hb d_Mo_at_43 (lv_at hl 4 rfl) ?_
    refine lv_iload_n hx hb d_Mo_at_45 rfl (lv_at hl 3 rfl) ?_
    refine lv_iconst (v := 4) hx hb d_Mo_at_46 (by decide) ?_
    refine lv_imul hx hb d_Mo_at_47 ?_
    refine lv_aload_n hx hb d_Mo_at_48 rfl (lv_at hl 0 rfl) ?_
    refine hq_get hx hb hts i_Mo hown hK hP 0 (by decide) (mo_s_Mo (rfl)) rfl 8 (by decide) (hts _ mo_wd_16) (fun _ h => h) (v := .ref (B + 8)) rfl d_Mo_at_49 ?_
    refine lv_iload_n hx hb d_Mo_at_52 rfl (lv_at hl 3 rfl) ?_
    obtain ⟨g1, hf⟩ := hm_gd_some hf
    refine hq_iald hx hb hK hP 8 (by decide) (mo_s_ia8 (rfl)) 0 rfl g1 d_Mo_at_53 ?_
    refine lv_iadd hx hb d_Mo_at_54 ?_
    refine lv_icmp_ge (tgt := 95) hx hb d_Mo_at_55 (by decide) (fun c2 => ?_) (fun c2 => ?_)
    · replace hf := (if_pos c2).symm.trans hf
      refine lv_iinc (v := (x3 + 1)) (lv' := [(3, .int (x3 + 1)), (0, .ref (B + 0)), (1, .int x1), (2, .int x2), (4, .int x4)]) hx hb d_Mo_at_95 hl (k := 3) rfl rfl (by decide) rfl (fun ls hl => ?_)
      refine lv_goto (tgt := 26) hx hb d_Mo_at_98 (by decide) ?_
      exact hk26 _ _ _ _ _ _ _ (lv_sub hl [1, 2, 3, 0] rfl) hP hS hf
    · replace hf := (if_neg c2).symm.trans hf
      refine lv_aload_n hx hb d_Mo_at_58 rfl (lv_at hl 0 rfl) ?_
      refine hq_get hx hb hts i_Mo hown hK hP 0 (by decide) (mo_s_Mo (rfl)) rfl 5 (by decide) (hts _ mo_wd_17) (fun _ h => h) (v := .ref (B + 5)) rfl d_Mo_at_59 ?_
      refine lv_iload hx hb d_Mo_at_62 (lv_at hl 4 rfl) ?_
      obtain ⟨g3, hf⟩ := hm_gd_some hf
      refine hq_iald hx hb hK hP 5 (by decide) (mo_s_ia32 (rfl)) 0 rfl g3 d_Mo_at_64 ?_
      refine lv_if_lt (tgt := 89) hx hb d_Mo_at_65 (by decide) (fun c4 => ?_) (fun c4 => ?_)
      · replace hf := (if_pos c4).symm.trans hf
        exact w_Mo_at_89 X hk26 ih _ _ _ _ _ _ _ _ (lv_sub hl [0, 1, 2, 3, 4] rfl) hP hS hf
      · replace hf := (if_neg c4).symm.trans hf
        refine lv_aload_n hx hb d_Mo_at_68 rfl (lv_at hl 0 rfl) ?_
        refine hq_get hx hb hts i_Mo hown hK hP 0 (by decide) (mo_s_Mo (rfl)) rfl 20 (by decide) (hts _ mo_wd_34) (fun _ h => h) (v := .ref (B + 14)) rfl d_Mo_at_69 ?_
        refine lv_iload_n hx hb d_Mo_at_72 rfl (lv_at hl 3 rfl) ?_
        refine lv_dup2_11 hx hb d_Mo_at_73 rfl rfl ?_
        obtain ⟨g5, hf⟩ := hm_gd_some hf
        refine hq_lald hx hb hK hP 14 (by decide) (mo_s_la8 (rfl)) 2 rfl g5 d_Mo_at_74 ?_
        refine lv_aload_n hx hb d_Mo_at_75 rfl (lv_at hl 0 rfl) ?_
        refine hq_get hx hb hts i_Mo hown hK hP 0 (by decide) (mo_s_Mo (rfl)) rfl 20 (by decide) (hts _ mo_wd_34) (fun _ h => h) (v := .ref (B + 14)) rfl d_Mo_at_76 ?_
        refine lv_aload_n hx hb d_Mo_at_79 rfl (lv_at hl 0 rfl) ?_
        refine hq_get hx hb hts i_Mo hown hK hP 0 (by decide) (mo_s_Mo (rfl)) rfl 5 (by decide) (hts _ mo_wd_17) (fun _ h => h) (v := .ref (B + 5)) rfl d_Mo_at_80 ?_
        refine lv_iload hx hb d_Mo_at_83 (lv_at hl 4 rfl) ?_
        obtain ⟨g6, hf⟩ := hm_gd_some hf
        refine hq_iald hx hb hK hP 5 (by decide) (mo_s_ia32 (rfl)) 0 rfl g6 d_Mo_at_85 ?_
        obtain ⟨g7, hf⟩ := hm_gd_some hf
        refine hq_lald hx hb hK hP 14 (by decide) (mo_s_la8 (rfl)) 2 rfl g7 d_Mo_at_86 ?_
        refine lv_ladd hx hb d_Mo_at_87 ?_
        obtain ⟨g8, hf⟩ := hm_gd_some hf
        refine hq_last hx hb hK hP hS 14 (by decide) (mo_s_la8 (rfl)) 2 rfl g8 d_Mo_at_88 (fun H locs hP hS => ?_)
        obtain ⟨M_9, e_9, hf⟩ := mo_sl_some hf
        replace hP : hm_P D mo_cl ca 15 mo_sh B M_9.1 M_9.2 H := by rw [e_9]; exact hP
        exact w_Mo_at_89 X hk26 ih _ _ _ _ _ _ _ _ (lv_sub hl [0, 1, 2, 3, 4] rfl) hP hS hf
set_option maxHeartbeats 4000000 in
set_option maxRecDepth 100000 in
theorem w_Mo_at_127 {p : Program} {l : Launch} {e : Env} {s : State} {m : MethodId} {args : Array Value} {below : List Frame} {meth : Method} {c : Code} {D : va_G} {ca : Nat → ClassId} {B : Nat} {r : Int64} {M9 : mo_M} (X : hq_X p s m args meth c b_Mo_at R_Mo 5 (some .long) D mo_cl (mo_ty ca) hq_tb) : ∀ (y0 : Int64), ∀ (M : mo_M) (H : Heap) (locs : List Loc) (ls : Array Slot), lv_has ls 5 [] → hm_P D mo_cl ca 15 (mo_sh) B M.1 M.2 H → va_S (hm_A B 15) s.heap H locs → f_Mo_at_127 y0 M = some (r, M9) → W p l e ({ frames := 2, cells := 0, slots := 0, locals := 50 } : Room) s m args below meth c H locs 0 0 (MQ below (hq_QL D mo_cl ca 15 (mo_sh) B r M9.1 M9.2) args s 0 0 (hm_A B 15)) (F0 m 127 ls [.long y0]) := by
  obtain ⟨hx, hb, hml, hown, hr, hlk, hKt⟩ := id X
  have hK := hKt.1
  have hts : ∀ w ∈ hq_tb, w.before args s = true := fun w h => hKt.2.2 w h args
  intro y0 M H locs ls hl hP hS hf
  unfold f_Mo_at_127 at hf
  obtain ⟨h9, h8⟩ := Prod.mk.inj (Option.some.inj hf)
  subst h9
  subst h8
  exact W.lret hx hb hr (fun t ht _ => ⟨⟨_, (), rfl, rfl, by subst ht; exact hP⟩, hS.F ht⟩) hS.2.2 d_Mo_at_127 hlk
set_option maxHeartbeats 4000000 in
set_option maxRecDepth 100000 in
theorem w_Mo_at_26 {p : Program} {l : Launch} {e : Env} {s : State} {m : MethodId} {args : Array Value} {below : List Frame} {meth : Method} {c : Code} {D : va_G} {ca : Nat → ClassId} {B : Nat} {r : Int64} {M9 : mo_M} (X : hq_X p s m args meth c b_Mo_at R_Mo 5 (some .long) D mo_cl (mo_ty ca) hq_tb) : ∀ (n : Nat), ∀ (x1 : Int32), ∀ (x2 : Int32), ∀ (x3 : Int32), ∀ (M : mo_M) (H : Heap) (locs : List Loc) (ls : Array Slot), lv_has ls 5 [(0, .ref (B + 0)), (1, .int x1), (2, .int x2), (3, .int x3)] → hm_P D mo_cl ca 15 (mo_sh) B M.1 M.2 H → va_S (hm_A B 15) s.heap H locs → f_Mo_at_26 n x1 x2 x3 M = some (r, M9) → W p l e ({ frames := 2, cells := 0, slots := 0, locals := 50 } : Room) s m args below meth c H locs 0 0 (MQ below (hq_QL D mo_cl ca 15 (mo_sh) B r M9.1 M9.2) args s 0 0 (hm_A B 15)) (F0 m 26 ls []) := by
  obtain ⟨hx, hb, hml, hown, hr, hlk, hKt⟩ := id X
  have hK := hKt.1
  have hts : ∀ w ∈ hq_tb, w.before args s = true := fun w h => hKt.2.2 w h args
  intro n
  induction n with
  | zero =>
    intro x1 x2 x3 M H locs ls hl hP hS hf
    cases hf
  | succ n ih =>
    intro x1 x2 x3 M H locs ls hl hP hS hf
    rw [f_Mo_at_26] at hf
    refine lv_iload_n hx hb d_Mo_at_26 rfl (lv_at hl 3 rfl) ?_
    refine lv_iload_n hx hb d_Mo_at_27 rfl (lv_at hl 1 rfl) ?_
    refine lv_icmp_gt (tgt := 101) hx hb d_Mo_at_28 (by decide) (fun c1 => ?_) (fun c1 => ?_)
    · replace hf := (if_pos c1).symm.trans hf
      refine lv_aload_n hx hb d_Mo_at_101 rfl (lv_at hl 0 rfl) ?_
      refine hq_get hx hb hts i_Mo hown hK hP 0 (by decide) (mo_s_Mo (rfl)) rfl 20 (by decide) (hts _ mo_wd_34) (fun _ h => h) (v := .ref (B + 14)) rfl d_Mo_at_102 ?_
      refine lv_iload_n hx hb d_Mo_at_105 rfl (lv_at hl 1 rfl) ?_
      obtain ⟨g2, hf⟩ := hm_gd_some hf
      refine hq_lald hx hb hK hP 14 (by decide) (mo_s_la8 (rfl)) 2 rfl g2 d_Mo_at_106 ?_
      refine lv_ldc2 (v := 3000) hx hb hown (hts _ mo_wd_35) d_Mo_at_107 ?_
      refine W.lcmp hx hb d_Mo_at_110 ?_
      refine lv_if_le (tgt := 120) hx hb d_Mo_at_111 (by decide) (fun c3 => ?_) (fun c3 => ?_)
      · replace hf := (if_pos c3).symm.trans hf
        refine lv_aload_n hx hb d_Mo_at_120 rfl (lv_at hl 0 rfl) ?_
        refine lv_iload_n hx hb d_Mo_at_121 rfl (lv_at hl 1 rfl) ?_
        refine lv_iload_n hx hb d_Mo_at_122 rfl (lv_at hl 2 rfl) ?_
        obtain ⟨r4, M_5, hc6, hf⟩ := hm_bI_some hf
        refine hq_callI (va_runV (As := [.int x1, .int x2]) (rest := []) ⟨hx, hb, hml, hown, hts⟩ (c_Mo_valueAt (l := l) (D := D) (ca := ca) (B := B)  hc6) (hq_cwV (nn := 2) hts mo_wd_36 mo_wd_6 mo_wd_37 mo_wd_38 mo_wd_39 (by decide +kernel) rfl rfl ⟨(Nat.le_of_ble_eq_true rfl), (Nat.le_of_ble_eq_true rfl)⟩) (hq_preV hKt hP (by decide) (mo_s_Mo (rfl)) rfl) rfl rfl hl.1 rfl (lv_room (Nat.le_of_ble_eq_true rfl)) d_Mo_at_123 ⟨(Nat.le_of_ble_eq_true rfl), (Nat.le_of_ble_eq_true rfl)⟩) hS (fun H locs hP hS => ?_)
        refine lv_i2l (v := r4.toInt64) hx hb d_Mo_at_126 rfl ?_
        exact w_Mo_at_127 X _ _ _ _ _ (lv_sub hl [] rfl) hP hS hf
      · replace hf := (if_neg c3).symm.trans hf
        refine lv_ldc2 (v := (-1000000000000)) hx hb hown (hts _ mo_wd_33) d_Mo_at_114 ?_
        refine lv_goto (tgt := 127) hx hb d_Mo_at_117 (by decide) ?_
        exact w_Mo_at_127 X _ _ _ _ _ (lv_sub hl [] rfl) hP hS hf
    · replace hf := (if_neg c1).symm.trans hf
      refine lv_aload_n hx hb d_Mo_at_31 rfl (lv_at hl 0 rfl) ?_
      refine hq_get hx hb hts i_Mo hown hK hP 0 (by decide) (mo_s_Mo (rfl)) rfl 20 (by decide) (hts _ mo_wd_34) (fun _ h => h) (v := .ref (B + 14)) rfl d_Mo_at_32 ?_
      refine lv_iload_n hx hb d_Mo_at_35 rfl (lv_at hl 3 rfl) ?_
      refine lv_lconst (v := 1) hx hb d_Mo_at_36 (by decide) ?_
      obtain ⟨g7, hf⟩ := hm_gd_some hf
      refine hq_last hx hb hK hP hS 14 (by decide) (mo_s_la8 (rfl)) 2 rfl g7 d_Mo_at_37 (fun H locs hP hS => ?_)
      obtain ⟨M_8, e_8, hf⟩ := mo_sl_some hf
      replace hP : hm_P D mo_cl ca 15 mo_sh B M_8.1 M_8.2 H := by rw [e_8]; exact hP
      refine lv_iload_n hx hb d_Mo_at_38 rfl (lv_at hl 3 rfl) ?_
      refine lv_iconst (v := 4) hx hb d_Mo_at_39 (by decide) ?_
      refine lv_imul hx hb d_Mo_at_40 ?_
      refine lv_istore (lv' := [(4, .int (x3 * 4)), (0, .ref (B + 0)), (1, .int x1), (2, .int x2), (3, .int x3)]) hx hb d_Mo_at_41 hl (by decide) rfl (fun ls hl => ?_)
      exact w_Mo_at_43 X ih _ _ _ _ _ _ _ _ _ (lv_sub hl [1, 2, 3, 4, 0] rfl) hP hS hf
set_option maxHeartbeats 4000000 in
set_option maxRecDepth 100000 in
theorem w_Mo_at_e {p : Program} {l : Launch} {e : Env} {s : State} {m : MethodId} {args : Array Value} {below : List Frame} {meth : Method} {c : Code} {D : va_G} {ca : Nat → ClassId} {B : Nat} {r : Int64} {M9 : mo_M} (X : hq_X p s m args meth c b_Mo_at R_Mo 5 (some .long) D mo_cl (mo_ty ca) hq_tb) : ∀ (x1 : Int32), ∀ (x2 : Int32), ∀ (M : mo_M) (H : Heap) (locs : List Loc) (ls : Array Slot), lv_has ls 5 [(0, .ref (B + 0)), (1, .int x1), (2, .int x2)] → hm_P D mo_cl ca 15 (mo_sh) B M.1 M.2 H → va_S (hm_A B 15) s.heap H locs → f_Mo_at M x1 x2 = some (r, M9) → W p l e ({ frames := 2, cells := 0, slots := 0, locals := 50 } : Room) s m args below meth c H locs 0 0 (MQ below (hq_QL D mo_cl ca 15 (mo_sh) B r M9.1 M9.2) args s 0 0 (hm_A B 15)) (F0 m 0 ls []) := by
  obtain ⟨hx, hb, hml, hown, hr, hlk, hKt⟩ := id X
  have hK := hKt.1
  have hts : ∀ w ∈ hq_tb, w.before args s = true := fun w h => hKt.2.2 w h args
  intro x1 x2 M H locs ls hl hP hS hf
  unfold f_Mo_at at hf
  refine lv_aload_n hx hb d_Mo_at_0 rfl (lv_at hl 0 rfl) ?_
  refine lv_iload_n hx hb d_Mo_at_1 rfl (lv_at hl 1 rfl) ?_
  obtain ⟨r1, M_2, hc3, hf⟩ := hm_bI_some hf
  refine hq_callI (va_runV (As := [.int x1]) (rest := []) ⟨hx, hb, hml, hown, hts⟩ (c_Mo_no (l := l) (D := D) (ca := ca) (B := B)  hc3) (hq_cwV (nn := 1) hts mo_wd_12 mo_wd_6 mo_wd_13 mo_wd_14 mo_wd_15 (by decide +kernel) rfl rfl ⟨(Nat.le_of_ble_eq_true rfl), (Nat.le_of_ble_eq_true rfl)⟩) (hq_preV hKt hP (by decide) (mo_s_Mo (rfl)) rfl) rfl rfl hl.1 rfl (lv_room (Nat.le_of_ble_eq_true rfl)) d_Mo_at_2 ⟨(Nat.le_of_ble_eq_true rfl), (Nat.le_of_ble_eq_true rfl)⟩) hS (fun H locs hP hS => ?_)
  refine lv_if_ne (tgt := 20) hx hb d_Mo_at_5 (by decide) (fun c4 => ?_) (fun c4 => ?_)
  · replace hf := (if_neg c4).symm.trans hf
    exact w_Mo_at_20 X _ _ _ _ (lv_sub hl [] rfl) hP hS hf
  · replace hf := (if_pos c4).symm.trans hf
    refine lv_iload_n hx hb d_Mo_at_8 rfl (lv_at hl 2 rfl) ?_
    refine lv_bipush (v := (-100)) hx hb d_Mo_at_9 (by decide) ?_
    refine lv_icmp_lt (tgt := 20) hx hb d_Mo_at_11 (by decide) (fun c5 => ?_) (fun c5 => ?_)
    · replace hf := (if_pos c5).symm.trans hf
      exact w_Mo_at_20 X _ _ _ _ (lv_sub hl [] rfl) hP hS hf
    · replace hf := (if_neg c5).symm.trans hf
      refine lv_iload_n hx hb d_Mo_at_14 rfl (lv_at hl 2 rfl) ?_
      refine lv_bipush (v := 100) hx hb d_Mo_at_15 (by decide) ?_
      refine lv_icmp_le (tgt := 24) hx hb d_Mo_at_17 (by decide) (fun c6 => ?_) (fun c6 => ?_)
      · replace hf := (if_pos c6).symm.trans hf
        refine lv_iconst (v := 0) hx hb d_Mo_at_24 (by decide) ?_
        refine lv_istore_n (lv' := [(3, .int 0), (0, .ref (B + 0)), (1, .int x1), (2, .int x2)]) hx hb d_Mo_at_25 rfl hl (by decide) rfl (fun ls hl => ?_)
        exact w_Mo_at_26 X _ _ _ _ _ _ _ _ (lv_sub hl [1, 2, 3, 0] rfl) hP hS hf
      · replace hf := (if_neg c6).symm.trans hf
        exact w_Mo_at_20 X _ _ _ _ (lv_sub hl [] rfl) hP hS hf
set_option maxHeartbeats 4000000 in
set_option maxRecDepth 100000 in
theorem c_Mo_at {l : Launch} {D : va_G} {ca : Nat → ClassId} {B : Nat} {r : Int64} {x1 : Int32} {x2 : Int32} {M M9 : mo_M} (hf : f_Mo_at M x1 x2 = some (r, M9)) : Met l y_Mo_at [Cond.code y_Mo_at b_Mo_at 5 (some .long)] ({ frames := 2, cells := 0, slots := 0, locals := 50 } : Room) (hq_Pre D mo_cl ca 15 (mo_sh) B (mo_ty ca) hq_tb M.1 M.2 [.ref (B + 0), .int x1, .int x2]) (hq_QL D mo_cl ca 15 (mo_sh) B r M9.1 M9.2) 0 0 (hm_A B 15) := by
  refine Met.ofW (cc := b_Mo_at) (maxL := 5) (ret := (some .long)) (by decide +kernel) rfl ?_
  intro p e s m args below meth c s₁ Bd hml hv
  obtain ⟨rfl, hP, hK⟩ := hv
  have hl := lv_entry ([.ref (B + 0), .int x1, .int x2]) (n := 5) (Nat.le_of_ble_eq_true rfl)
  rw [lg_entry_eq]
  generalize (lg_sl ([.ref (B + 0), .int x1, .int x2]) ++ List.replicate (5 - (lg_sl ([.ref (B + 0), .int x1, .int x2])).length) Slot.unset).toArray = ls at hl ⊢
  have hl : lv_has ls 5 [(0, .ref (B + 0)), (1, .int x1), (2, .int x2)] := hl
  exact w_Mo_at_e ⟨Bd.exec, Bd.bytes, hml, findClass_of_methodNamed Bd.named, Bd.returns, Bd.notSynchronized, hK⟩  _ _ _ _ _ _ hl hP va_S.rf hf
