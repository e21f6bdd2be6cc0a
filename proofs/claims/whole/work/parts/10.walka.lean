set_option maxHeartbeats 4000000 in
set_option maxRecDepth 100000 in
theorem w_Math_floorDiv_21 {p : Program} {l : Launch} {e : Env} {s : State} {m : MethodId} {args : Array Value} {below : List Frame} {meth : Method} {c : Code} {D : va_G} {ca : Nat → ClassId} {B rl : Nat} {r : Int32} {M9 : hm_M} (X : hq_X p s m args meth c b_Math_floorDiv R_Math 3 (some .int) D sc_cl (sc_ty ca) hq_tb) : ∀ (x2 : Int32), ∀ (M : hm_M) (H : Heap) (locs : List Loc) (ls : Array Slot), lv_has ls 3 [(2, .int x2)] → hm_P D sc_cl ca 64 (sc_sh rl) B M hm_L0 H → va_S (hm_A B 64) s.heap H locs → f_Math_floorDiv_21 x2 M = some (r, M9) → W p l e ({ frames := 0, cells := 0, slots := 0, locals := 0 } : Room) s m args below meth c H locs 0 0 (MQ below (hq_QI D sc_cl ca 64 (sc_sh rl) B r M9 hm_L0) args s 0 0 (hm_A B 64)) (F0 m 21 ls []) := by
  obtain ⟨hx, hb, hml, hown, hr, hlk, hKt⟩ := id X
  have hK := hKt.1
  have hts : ∀ w ∈ hq_tb, w.before args s = true := fun w h => hKt.2.2 w h args
  intro x2 M H locs ls hl hP hS hf
  unfold f_Math_floorDiv_21 at hf
  refine lv_iload_n hx hb d_Math_floorDiv_21 rfl (lv_at hl 0 rfl) ?_
  obtain ⟨h9, h8⟩ := Prod.mk.inj (Option.some.inj hf)
  subst h9
  subst h8
  exact W.iret hx hb hr (fun t ht _ => ⟨⟨_, (), rfl, rfl, by subst ht; exact hP⟩, hS.F ht⟩) hS.2.2 d_Math_floorDiv_22 hlk
set_option maxHeartbeats 4000000 in
set_option maxRecDepth 100000 in
theorem w_Math_floorDiv_e {p : Program} {l : Launch} {e : Env} {s : State} {m : MethodId} {args : Array Value} {below : List Frame} {meth : Method} {c : Code} {D : va_G} {ca : Nat → ClassId} {B rl : Nat} {r : Int32} {M9 : hm_M} (X : hq_X p s m args meth c b_Math_floorDiv R_Math 3 (some .int) D sc_cl (sc_ty ca) hq_tb) : ∀ (x0 : Int32), ∀ (x1 : Int32), ∀ (M : hm_M) (H : Heap) (locs : List Loc) (ls : Array Slot), lv_has ls 3 [(0, .int x0), (1, .int x1)] → hm_P D sc_cl ca 64 (sc_sh rl) B M hm_L0 H → va_S (hm_A B 64) s.heap H locs → f_Math_floorDiv M x0 x1 = some (r, M9) → W p l e ({ frames := 0, cells := 0, slots := 0, locals := 0 } : Room) s m args below meth c H locs 0 0 (MQ below (hq_QI D sc_cl ca 64 (sc_sh rl) B r M9 hm_L0) args s 0 0 (hm_A B 64)) (F0 m 0 ls []) := by
  obtain ⟨hx, hb, hml, hown, hr, hlk, hKt⟩ := id X
  have hK := hKt.1
  have hts : ∀ w ∈ hq_tb, w.before args s = true := fun w h => hKt.2.2 w h args
  intro x0 x1 M H locs ls hl hP hS hf
  unfold f_Math_floorDiv at hf
  refine lv_iload_n hx hb d_Math_floorDiv_0 rfl (lv_at hl 0 rfl) ?_
  refine lv_iload_n hx hb d_Math_floorDiv_1 rfl (lv_at hl 1 rfl) ?_
  obtain ⟨g1, hf⟩ := hm_gd_some hf
  refine lv_idiv hx hb d_Math_floorDiv_2 (of_decide_eq_true g1) ?_
  refine lv_istore_n (lv' := [(2, .int (x0 / x1)), (0, .int x0), (1, .int x1)]) hx hb d_Math_floorDiv_3 rfl hl (by decide) rfl (fun ls hl => ?_)
  refine lv_iload_n hx hb d_Math_floorDiv_4 rfl (lv_at hl 1 rfl) ?_
  refine lv_iload_n hx hb d_Math_floorDiv_5 rfl (lv_at hl 2 rfl) ?_
  refine lv_ixor hx hb d_Math_floorDiv_6 ?_
  refine lv_if_ge (tgt := 21) hx hb d_Math_floorDiv_7 (by decide) (fun c2 => ?_) (fun c2 => ?_)
  · replace hf := (if_pos c2).symm.trans hf
    exact w_Math_floorDiv_21 X _ _ _ _ _ (lv_sub hl [0] rfl) hP hS hf
  · replace hf := (if_neg c2).symm.trans hf
    refine lv_iload_n hx hb d_Math_floorDiv_10 rfl (lv_at hl 0 rfl) ?_
    refine lv_iload_n hx hb d_Math_floorDiv_11 rfl (lv_at hl 2 rfl) ?_
    refine lv_imul hx hb d_Math_floorDiv_12 ?_
    refine lv_iload_n hx hb d_Math_floorDiv_13 rfl (lv_at hl 1 rfl) ?_
    refine lv_icmp_eq (tgt := 21) hx hb d_Math_floorDiv_14 (by decide) (fun c3 => ?_) (fun c3 => ?_)
    · replace hf := (if_pos c3).symm.trans hf
      exact w_Math_floorDiv_21 X _ _ _ _ _ (lv_sub hl [0] rfl) hP hS hf
    · replace hf := (if_neg c3).symm.trans hf
      refine lv_iload_n hx hb d_Math_floorDiv_17 rfl (lv_at hl 0 rfl) ?_
      refine lv_iconst (v := 1) hx hb d_Math_floorDiv_18 (by decide) ?_
      refine lv_isub hx hb d_Math_floorDiv_19 ?_
      obtain ⟨h9, h8⟩ := Prod.mk.inj (Option.some.inj hf)
      subst h9
      subst h8
      exact W.iret hx hb hr (fun t ht _ => ⟨⟨_, (), rfl, rfl, by subst ht; exact hP⟩, hS.F ht⟩) hS.2.2 d_Math_floorDiv_20 hlk
set_option maxHeartbeats 4000000 in
set_option maxRecDepth 100000 in
theorem c_Math_floorDiv {l : Launch} {D : va_G} {ca : Nat → ClassId} {B rl : Nat} {r : Int32} {x0 : Int32} {x1 : Int32} {M M9 : hm_M} (hf : f_Math_floorDiv M x0 x1 = some (r, M9)) : Met l y_Math_floorDiv [Cond.code y_Math_floorDiv b_Math_floorDiv 3 (some .int)] ({ frames := 0, cells := 0, slots := 0, locals := 0 } : Room) (hq_Pre D sc_cl ca 64 (sc_sh rl) B (sc_ty ca) hq_tb M hm_L0 [.int x0, .int x1]) (hq_QI D sc_cl ca 64 (sc_sh rl) B r M9 hm_L0) 0 0 (hm_A B 64) := by
  refine va_MetF (cc := b_Math_floorDiv) (maxL := 3) (ret := (some .int)) (by decide +kernel) rfl ?_
  intro p e s m args below meth c s₁ Bd hml hv
  obtain ⟨rfl, hP, hK⟩ := hv
  have hl := lv_entry ([.int x0, .int x1]) (n := 3) (Nat.le_of_ble_eq_true rfl)
  rw [lg_entry_eq]
  generalize (lg_sl ([.int x0, .int x1]) ++ List.replicate (3 - (lg_sl ([.int x0, .int x1])).length) Slot.unset).toArray = ls at hl ⊢
  have hl : lv_has ls 3 [(0, .int x0), (1, .int x1)] := hl
  exact w_Math_floorDiv_e ⟨Bd.exec, Bd.bytes, hml, findClass_of_methodNamed Bd.named, Bd.returns, Bd.notSynchronized, hK⟩  _ _ _ _ _ _ hl hP va_S.rf hf
set_option maxHeartbeats 4000000 in
set_option maxRecDepth 100000 in
theorem w_Arrays_fill_5 {p : Program} {l : Launch} {e : Env} {s : State} {m : MethodId} {args : Array Value} {below : List Frame} {meth : Method} {c : Code} {D : va_G} {ca : Nat → ClassId} {B rl : Nat} {M9 : hm_M} (X : hq_X p s m args meth c b_Arrays_fill R_Arrays 4 none D sc_cl (sc_ty ca) hq_tb) : ∀ (n : Nat), ∀ (a0 : Nat), ∀ (x1 : Int32), ∀ (x2 : Int32), ∀ (x3 : Int32), sc_kd a0 = 3 → ∀ (M : hm_M) (H : Heap) (locs : List Loc) (ls : Array Slot), lv_has ls 4 [(0, .ref (B + a0)), (1, .int x1), (2, .int x2), (3, .int x3)] → hm_P D sc_cl ca 64 (sc_sh rl) B M hm_L0 H → va_S (hm_A B 64) s.heap H locs → f_Arrays_fill_5 n a0 x1 x2 x3 M = some M9 → W p l e ({ frames := 0, cells := 0, slots := 0, locals := 0 } : Room) s m args below meth c H locs 0 0 (MQ below (hq_QV D sc_cl ca 64 (sc_sh rl) B M9 hm_L0) args s 0 0 (hm_A B 64)) (F0 m 5 ls []) := by
  obtain ⟨hx, hb, hml, hown, hr, hlk, hKt⟩ := id X
  have hK := hKt.1
  have hts : ∀ w ∈ hq_tb, w.before args s = true := fun w h => hKt.2.2 w h args
  intro n
  induction n with
  | zero =>
    intro a0 x1 x2 x3 h_a0 M H locs ls hl hP hS hf
    cases hf
  | succ n ih =>
    intro a0 x1 x2 x3 h_a0 M H locs ls hl hP hS hf
    rw [f_Arrays_fill_5] at hf
    refine lv_iload_n hx hb d_Arrays_fill_5 rfl (lv_at hl 2 rfl) ?_
    refine lv_iload_n hx hb d_Arrays_fill_6 rfl (lv_at hl 3 rfl) ?_
    refine lv_icmp_ge (tgt := 20) hx hb d_Arrays_fill_7 (by decide) (fun c1 => ?_) (fun c1 => ?_)
    · replace hf := (if_pos c1).symm.trans hf
      have h8 := Option.some.inj hf
      subst h8
      exact W.vret hx hb hr (fun t ht _ => ⟨⟨(), rfl, trivial, by subst ht; exact hP⟩, hS.F ht⟩) hS.2.2 d_Arrays_fill_20 hlk
    · replace hf := (if_neg c1).symm.trans hf
      refine lv_aload_n hx hb d_Arrays_fill_10 rfl (lv_at hl 0 rfl) ?_
      refine lv_iload_n hx hb d_Arrays_fill_11 rfl (lv_at hl 2 rfl) ?_
      refine lv_iload_n hx hb d_Arrays_fill_12 rfl (lv_at hl 1 rfl) ?_
      obtain ⟨g2, hf⟩ := hm_gd_some hf
      refine hq_iast hx hb hK hP hS a0 (sc_lt h_a0 (by decide)) (sc_s_ia8 (h_a0)) 0 rfl g2 d_Arrays_fill_13 (fun H locs hP hS => ?_)
      obtain ⟨M_3, e_3, hf⟩ := hm_st_some hf
      rw [← e_3] at hP
      refine lv_iinc (v := (x2 + 1)) (lv' := [(2, .int (x2 + 1)), (0, .ref (B + a0)), (1, .int x1), (3, .int x3)]) hx hb d_Arrays_fill_14 hl (k := 2) rfl rfl (by decide) rfl (fun ls hl => ?_)
      refine lv_goto (tgt := 5) hx hb d_Arrays_fill_17 (by decide) ?_
      exact ih _ _ _ _ h_a0 _ _ _ _ (lv_sub hl [1, 2, 0, 3] rfl) hP hS hf
set_option maxHeartbeats 4000000 in
set_option maxRecDepth 100000 in
theorem w_Arrays_fill_e {p : Program} {l : Launch} {e : Env} {s : State} {m : MethodId} {args : Array Value} {below : List Frame} {meth : Method} {c : Code} {D : va_G} {ca : Nat → ClassId} {B rl : Nat} {M9 : hm_M} (X : hq_X p s m args meth c b_Arrays_fill R_Arrays 4 none D sc_cl (sc_ty ca) hq_tb) : ∀ (a0 : Nat), ∀ (x1 : Int32), sc_kd a0 = 3 → ∀ (M : hm_M) (H : Heap) (locs : List Loc) (ls : Array Slot), lv_has ls 4 [(0, .ref (B + a0)), (1, .int x1)] → hm_P D sc_cl ca 64 (sc_sh rl) B M hm_L0 H → va_S (hm_A B 64) s.heap H locs → f_Arrays_fill M a0 x1 = some M9 → W p l e ({ frames := 0, cells := 0, slots := 0, locals := 0 } : Room) s m args below meth c H locs 0 0 (MQ below (hq_QV D sc_cl ca 64 (sc_sh rl) B M9 hm_L0) args s 0 0 (hm_A B 64)) (F0 m 0 ls []) := by
  obtain ⟨hx, hb, hml, hown, hr, hlk, hKt⟩ := id X
  have hK := hKt.1
  have hts : ∀ w ∈ hq_tb, w.before args s = true := fun w h => hKt.2.2 w h args
  intro a0 x1 h_a0 M H locs ls hl hP hS hf
  unfold f_Arrays_fill at hf
  refine lv_iconst (v := 0) hx hb d_Arrays_fill_0 (by decide) ?_
  refine lv_istore_n (lv' := [(2, .int 0), (0, .ref (B + a0)), (1, .int x1)]) hx hb d_Arrays_fill_1 rfl hl (by decide) rfl (fun ls hl => ?_)
  refine lv_aload_n hx hb d_Arrays_fill_2 rfl (lv_at hl 1 rfl) ?_
  refine hq_alen hx hb hK hP a0 (sc_lt h_a0 (by decide)) (sc_s_ia8 (h_a0)) 0 rfl (v := 8) rfl d_Arrays_fill_3 ?_
  refine lv_istore_n (lv' := [(3, .int 8), (2, .int 0), (0, .ref (B + a0)), (1, .int x1)]) hx hb d_Arrays_fill_4 rfl hl (by decide) rfl (fun ls hl => ?_)
  exact w_Arrays_fill_5 X _ _ _ _ _ h_a0 _ _ _ _ (lv_sub hl [2, 3, 1, 0] rfl) hP hS hf
set_option maxHeartbeats 4000000 in
set_option maxRecDepth 100000 in
theorem c_Arrays_fill {l : Launch} {D : va_G} {ca : Nat → ClassId} {B rl : Nat} {a0 : Nat} {x1 : Int32} (h_a0 : sc_kd a0 = 3) {M M9 : hm_M} (hf : f_Arrays_fill M a0 x1 = some M9) : Met l y_Arrays_fill [Cond.code y_Arrays_fill b_Arrays_fill 4 none] ({ frames := 0, cells := 0, slots := 0, locals := 0 } : Room) (hq_Pre D sc_cl ca 64 (sc_sh rl) B (sc_ty ca) hq_tb M hm_L0 [.ref (B + a0), .int x1]) (hq_QV D sc_cl ca 64 (sc_sh rl) B M9 hm_L0) 0 0 (hm_A B 64) := by
  refine va_MetF (cc := b_Arrays_fill) (maxL := 4) (ret := none) (by decide +kernel) rfl ?_
  intro p e s m args below meth c s₁ Bd hml hv
  obtain ⟨rfl, hP, hK⟩ := hv
  have hl := lv_entry ([.ref (B + a0), .int x1]) (n := 4) (Nat.le_of_ble_eq_true rfl)
  rw [lg_entry_eq]
  generalize (lg_sl ([.ref (B + a0), .int x1]) ++ List.replicate (4 - (lg_sl ([.ref (B + a0), .int x1])).length) Slot.unset).toArray = ls at hl ⊢
  have hl : lv_has ls 4 [(0, .ref (B + a0)), (1, .int x1)] := hl
  exact w_Arrays_fill_e ⟨Bd.exec, Bd.bytes, hml, findClass_of_methodNamed Bd.named, Bd.returns, Bd.notSynchronized, hK⟩  _ _ h_a0 _ _ _ _ hl hP va_S.rf hf
set_option maxHeartbeats 4000000 in
set_option maxRecDepth 100000 in
theorem w_Needs_widen_57 {p : Program} {l : Launch} {e : Env} {s : State} {m : MethodId} {args : Array Value} {below : List Frame} {meth : Method} {c : Code} {D : va_G} {ca : Nat → ClassId} {B rl : Nat} {M9 : hm_M} (X : hq_X p s m args meth c b_Needs_widen R_Needs 4 none D sc_cl (sc_ty ca) hq_tb) : ∀ (a0 : Nat), ∀ (x1 : Int32), ∀ (b0 : Nat), ∀ (y1 : Int32), ∀ (y2 : Int32), sc_kd a0 = 8 → sc_kd b0 = 3 → ∀ (M : hm_M) (H : Heap) (locs : List Loc) (ls : Array Slot), lv_has ls 4 [(0, .ref (B + a0)), (1, .int x1)] → hm_P D sc_cl ca 64 (sc_sh rl) B M hm_L0 H → va_S (hm_A B 64) s.heap H locs → f_Needs_widen_57 a0 x1 b0 y1 y2 M = some M9 → W p l e ({ frames := 1, cells := 0, slots := 0, locals := 21 } : Room) s m args below meth c H locs 0 0 (MQ below (hq_QV D sc_cl ca 64 (sc_sh rl) B M9 hm_L0) args s 0 0 (hm_A B 64)) (F0 m 57 ls [.int y2, .int y1, .ref (B + b0)]) := by
  obtain ⟨hx, hb, hml, hown, hr, hlk, hKt⟩ := id X
  have hK := hKt.1
  have hts : ∀ w ∈ hq_tb, w.before args s = true := fun w h => hKt.2.2 w h args
  intro a0 x1 b0 y1 y2 h_a0 h_b0 M H locs ls hl hP hS hf
  unfold f_Needs_widen_57 at hf
  obtain ⟨g1, hf⟩ := hm_gd_some hf
  refine hq_iast hx hb hK hP hS b0 (sc_lt h_b0 (by decide)) (sc_s_ia8 (h_b0)) 0 rfl g1 d_Needs_widen_57 (fun H locs hP hS => ?_)
  obtain ⟨M_2, e_2, hf⟩ := hm_st_some hf
  rw [← e_2] at hP
  refine lv_aload_n hx hb d_Needs_widen_58 rfl (lv_at hl 0 rfl) ?_
  refine hq_get hx hb hts i_Needs hown hK hP a0 (sc_lt h_a0 (by decide)) (sc_s_Needs (h_a0)) rfl 0 (by decide) (hts _ sc_wd_1) (fun _ h => h) (v := .ref (B + (a0 + 1))) rfl d_Needs_widen_59 ?_
  refine lv_iload_n hx hb d_Needs_widen_62 rfl (lv_at hl 1 rfl) ?_
  refine lv_iconst (v := 1) hx hb d_Needs_widen_63 (by decide) ?_
  obtain ⟨g3, hf⟩ := hm_gd_some hf
  refine hq_zast hx hb hK hP hS (a0 + 1) (sc_lt (sck_Needs1 h_a0) (by decide)) (sc_s_za8 ((sck_Needs1 h_a0))) 1 rfl g3 (Or.inr rfl) d_Needs_widen_64 (fun H locs hP hS => ?_)
  obtain ⟨M_4, e_4, hf⟩ := hm_st_some hf
  rw [← e_4] at hP
  have h8 := Option.some.inj hf
  subst h8
  exact W.vret hx hb hr (fun t ht _ => ⟨⟨(), rfl, trivial, by subst ht; exact hP⟩, hS.F ht⟩) hS.2.2 d_Needs_widen_65 hlk
set_option maxHeartbeats 4000000 in
set_option maxRecDepth 100000 in
theorem w_Needs_widen_28 {p : Program} {l : Launch} {e : Env} {s : State} {m : MethodId} {args : Array Value} {below : List Frame} {meth : Method} {c : Code} {D : va_G} {ca : Nat → ClassId} {B rl : Nat} {M9 : hm_M} (X : hq_X p s m args meth c b_Needs_widen R_Needs 4 none D sc_cl (sc_ty ca) hq_tb) : ∀ (a0 : Nat), ∀ (x1 : Int32), ∀ (x3 : Int32), ∀ (b0 : Nat), ∀ (y1 : Int32), ∀ (y2 : Int32), sc_kd a0 = 8 → sc_kd b0 = 3 → ∀ (M : hm_M) (H : Heap) (locs : List Loc) (ls : Array Slot), lv_has ls 4 [(0, .ref (B + a0)), (1, .int x1), (3, .int x3)] → hm_P D sc_cl ca 64 (sc_sh rl) B M hm_L0 H → va_S (hm_A B 64) s.heap H locs → f_Needs_widen_28 a0 x1 x3 b0 y1 y2 M = some M9 → W p l e ({ frames := 1, cells := 0, slots := 0, locals := 21 } : Room) s m args below meth c H locs 0 0 (MQ below (hq_QV D sc_cl ca 64 (sc_sh rl) B M9 hm_L0) args s 0 0 (hm_A B 64)) (F0 m 28 ls [.int y2, .int y1, .ref (B + b0)]) := by
  obtain ⟨hx, hb, hml, hown, hr, hlk, hKt⟩ := id X
  have hK := hKt.1
  have hts : ∀ w ∈ hq_tb, w.before args s = true := fun w h => hKt.2.2 w h args
  intro a0 x1 x3 b0 y1 y2 h_a0 h_b0 M H locs ls hl hP hS hf
  unfold f_Needs_widen_28 at hf
  obtain ⟨g1, hf⟩ := hm_gd_some hf
  refine hq_iast hx hb hK hP hS b0 (sc_lt h_b0 (by decide)) (sc_s_ia8 (h_b0)) 0 rfl g1 d_Needs_widen_28 (fun H locs hP hS => ?_)
  obtain ⟨M_2, e_2, hf⟩ := hm_st_some hf
  rw [← e_2] at hP
  refine lv_aload_n hx hb d_Needs_widen_29 rfl (lv_at hl 0 rfl) ?_
  refine hq_get hx hb hts i_Needs hown hK hP a0 (sc_lt h_a0 (by decide)) (sc_s_Needs (h_a0)) rfl 2 (by decide) (hts _ sc_wd_6) (fun _ h => h) (v := .ref (B + (a0 + 3))) rfl d_Needs_widen_30 ?_
  refine lv_iload_n hx hb d_Needs_widen_33 rfl (lv_at hl 1 rfl) ?_
  refine lv_aload_n hx hb d_Needs_widen_34 rfl (lv_at hl 0 rfl) ?_
  refine hq_get hx hb hts i_Needs hown hK hP a0 (sc_lt h_a0 (by decide)) (sc_s_Needs (h_a0)) rfl 0 (by decide) (hts _ sc_wd_1) (fun _ h => h) (v := .ref (B + (a0 + 1))) rfl d_Needs_widen_35 ?_
  refine lv_iload_n hx hb d_Needs_widen_38 rfl (lv_at hl 1 rfl) ?_
  obtain ⟨g3, hf⟩ := hm_gd_some hf
  refine hq_zald hx hb hK hP (a0 + 1) (sc_lt (sck_Needs1 h_a0) (by decide)) (sc_s_za8 ((sck_Needs1 h_a0))) 1 rfl g3 d_Needs_widen_39 ?_
  refine lv_if_eq (tgt := 56) hx hb d_Needs_widen_40 (by decide) (fun c4 => ?_) (fun c4 => ?_)
  · replace hf := (if_pos c4).symm.trans hf
    refine lv_iload_n hx hb d_Needs_widen_56 rfl (lv_at hl 2 rfl) ?_
    exact w_Needs_widen_57 X _ _ _ _ _ h_a0 (sck_Needs3 h_a0) _ _ _ _ (lv_sub hl [0, 1] rfl) hP hS hf
  · replace hf := (if_neg c4).symm.trans hf
    refine lv_aload_n hx hb d_Needs_widen_43 rfl (lv_at hl 0 rfl) ?_
    refine hq_get hx hb hts i_Needs hown hK hP a0 (sc_lt h_a0 (by decide)) (sc_s_Needs (h_a0)) rfl 2 (by decide) (hts _ sc_wd_6) (fun _ h => h) (v := .ref (B + (a0 + 3))) rfl d_Needs_widen_44 ?_
    refine lv_iload_n hx hb d_Needs_widen_47 rfl (lv_at hl 1 rfl) ?_
    obtain ⟨g5, hf⟩ := hm_gd_some hf
    refine hq_iald hx hb hK hP (a0 + 3) (sc_lt (sck_Needs3 h_a0) (by decide)) (sc_s_ia8 ((sck_Needs3 h_a0))) 0 rfl g5 d_Needs_widen_48 ?_
    refine lv_iload_n hx hb d_Needs_widen_49 rfl (lv_at hl 2 rfl) ?_
    refine va_mmax hx hb (hml.trans hl.1.symm) hown (hts _ sc_wd_7) (hts _ sc_wd_8) (hts _ sc_wd_4) (hts _ sc_wd_9) (Nat.le_of_ble_eq_true rfl) (Nat.le_of_ble_eq_true rfl) (Nat.le_of_ble_eq_true rfl) (Nat.le_of_ble_eq_true rfl) d_Needs_widen_50 ?_
    refine lv_goto (tgt := 57) hx hb d_Needs_widen_53 (by decide) ?_
    exact w_Needs_widen_57 X _ _ _ _ _ h_a0 (sck_Needs3 h_a0) _ _ _ _ (lv_sub hl [0, 1] rfl) hP hS hf
set_option maxHeartbeats 4000000 in
set_option maxRecDepth 100000 in
theorem w_Needs_widen_e {p : Program} {l : Launch} {e : Env} {s : State} {m : MethodId} {args : Array Value} {below : List Frame} {meth : Method} {c : Code} {D : va_G} {ca : Nat → ClassId} {B rl : Nat} {M9 : hm_M} (X : hq_X p s m args meth c b_Needs_widen R_Needs 4 none D sc_cl (sc_ty ca) hq_tb) : ∀ (a0 : Nat), ∀ (x1 : Int32), ∀ (x2 : Int32), ∀ (x3 : Int32), sc_kd a0 = 8 → ∀ (M : hm_M) (H : Heap) (locs : List Loc) (ls : Array Slot), lv_has ls 4 [(0, .ref (B + a0)), (1, .int x1), (2, .int x2), (3, .int x3)] → hm_P D sc_cl ca 64 (sc_sh rl) B M hm_L0 H → va_S (hm_A B 64) s.heap H locs → f_Needs_widen M a0 x1 x2 x3 = some M9 → W p l e ({ frames := 1, cells := 0, slots := 0, locals := 21 } : Room) s m args below meth c H locs 0 0 (MQ below (hq_QV D sc_cl ca 64 (sc_sh rl) B M9 hm_L0) args s 0 0 (hm_A B 64)) (F0 m 0 ls []) := by
  obtain ⟨hx, hb, hml, hown, hr, hlk, hKt⟩ := id X
  have hK := hKt.1
  have hts : ∀ w ∈ hq_tb, w.before args s = true := fun w h => hKt.2.2 w h args
  intro a0 x1 x2 x3 h_a0 M H locs ls hl hP hS hf
  unfold f_Needs_widen at hf
  refine lv_aload_n hx hb d_Needs_widen_0 rfl (lv_at hl 0 rfl) ?_
  refine hq_get hx hb hts i_Needs hown hK hP a0 (sc_lt h_a0 (by decide)) (sc_s_Needs (h_a0)) rfl 1 (by decide) (hts _ sc_wd_0) (fun _ h => h) (v := .ref (B + (a0 + 2))) rfl d_Needs_widen_1 ?_
  refine lv_iload_n hx hb d_Needs_widen_4 rfl (lv_at hl 1 rfl) ?_
  refine lv_aload_n hx hb d_Needs_widen_5 rfl (lv_at hl 0 rfl) ?_
  refine hq_get hx hb hts i_Needs hown hK hP a0 (sc_lt h_a0 (by decide)) (sc_s_Needs (h_a0)) rfl 0 (by decide) (hts _ sc_wd_1) (fun _ h => h) (v := .ref (B + (a0 + 1))) rfl d_Needs_widen_6 ?_
  refine lv_iload_n hx hb d_Needs_widen_9 rfl (lv_at hl 1 rfl) ?_
  obtain ⟨g1, hf⟩ := hm_gd_some hf
  refine hq_zald hx hb hK hP (a0 + 1) (sc_lt (sck_Needs1 h_a0) (by decide)) (sc_s_za8 ((sck_Needs1 h_a0))) 1 rfl g1 d_Needs_widen_10 ?_
  refine lv_if_eq (tgt := 27) hx hb d_Needs_widen_11 (by decide) (fun c2 => ?_) (fun c2 => ?_)
  · replace hf := (if_pos c2).symm.trans hf
    refine lv_iload_n hx hb d_Needs_widen_27 rfl (lv_at hl 2 rfl) ?_
    exact w_Needs_widen_28 X _ _ _ _ _ _ h_a0 (sck_Needs2 h_a0) _ _ _ _ (lv_sub hl [0, 1, 3] rfl) hP hS hf
  · replace hf := (if_neg c2).symm.trans hf
    refine lv_aload_n hx hb d_Needs_widen_14 rfl (lv_at hl 0 rfl) ?_
    refine hq_get hx hb hts i_Needs hown hK hP a0 (sc_lt h_a0 (by decide)) (sc_s_Needs (h_a0)) rfl 1 (by decide) (hts _ sc_wd_0) (fun _ h => h) (v := .ref (B + (a0 + 2))) rfl d_Needs_widen_15 ?_
    refine lv_iload_n hx hb d_Needs_widen_18 rfl (lv_at hl 1 rfl) ?_
    obtain ⟨g3, hf⟩ := hm_gd_some hf
    refine hq_iald hx hb hK hP (a0 + 2) (sc_lt (sck_Needs2 h_a0) (by decide)) (sc_s_ia8 ((sck_Needs2 h_a0))) 0 rfl g3 d_Needs_widen_19 ?_
    refine lv_iload_n hx hb d_Needs_widen_20 rfl (lv_at hl 2 rfl) ?_
    refine va_mmin hx hb (hml.trans hl.1.symm) hown (hts _ sc_wd_2) (hts _ sc_wd_3) (hts _ sc_wd_4) (hts _ sc_wd_5) (Nat.le_of_ble_eq_true rfl) (Nat.le_of_ble_eq_true rfl) (Nat.le_of_ble_eq_true rfl) (Nat.le_of_ble_eq_true rfl) d_Needs_widen_21 ?_
    refine lv_goto (tgt := 28) hx hb d_Needs_widen_24 (by decide) ?_
    exact w_Needs_widen_28 X _ _ _ _ _ _ h_a0 (sck_Needs2 h_a0) _ _ _ _ (lv_sub hl [0, 1, 3] rfl) hP hS hf
set_option maxHeartbeats 4000000 in
set_option maxRecDepth 100000 in
theorem c_Needs_widen {l : Launch} {D : va_G} {ca : Nat → ClassId} {B rl : Nat} {a0 : Nat} {x1 : Int32} {x2 : Int32} {x3 : Int32} (h_a0 : sc_kd a0 = 8) {M M9 : hm_M} (hf : f_Needs_widen M a0 x1 x2 x3 = some M9) : Met l y_Needs_widen [Cond.code y_Needs_widen b_Needs_widen 4 none] ({ frames := 1, cells := 0, slots := 0, locals := 21 } : Room) (hq_Pre D sc_cl ca 64 (sc_sh rl) B (sc_ty ca) hq_tb M hm_L0 [.ref (B + a0), .int x1, .int x2, .int x3]) (hq_QV D sc_cl ca 64 (sc_sh rl) B M9 hm_L0) 0 0 (hm_A B 64) := by
  refine Met.ofW (cc := b_Needs_widen) (maxL := 4) (ret := none) (by decide +kernel) rfl ?_
  intro p e s m args below meth c s₁ Bd hml hv
  obtain ⟨rfl, hP, hK⟩ := hv
  have hl := lv_entry ([.ref (B + a0), .int x1, .int x2, .int x3]) (n := 4) (Nat.le_of_ble_eq_true rfl)
  rw [lg_entry_eq]
  generalize (lg_sl ([.ref (B + a0), .int x1, .int x2, .int x3]) ++ List.replicate (4 - (lg_sl ([.ref (B + a0), .int x1, .int x2, .int x3])).length) Slot.unset).toArray = ls at hl ⊢
  have hl : lv_has ls 4 [(0, .ref (B + a0)), (1, .int x1), (2, .int x2), (3, .int x3)] := hl
  exact w_Needs_widen_e ⟨Bd.exec, Bd.bytes, hml, findClass_of_methodNamed Bd.named, Bd.returns, Bd.notSynchronized, hK⟩  _ _ _ _ h_a0 _ _ _ _ hl hP va_S.rf hf
set_option maxHeartbeats 4000000 in
set_option maxRecDepth 100000 in
theorem w_Needs_handOn_52 {p : Program} {l : Launch} {e : Env} {s : State} {m : MethodId} {args : Array Value} {below : List Frame} {meth : Method} {c : Code} {D : va_G} {ca : Nat → ClassId} {B rl : Nat} {M9 : hm_M} (X : hq_X p s m args meth c b_Needs_handOn R_Needs 5 none D sc_cl (sc_ty ca) hq_tb) {k3 : Nat → Nat → Int32 → Int32 → Int32 → hm_M → Option hm_M} (hk3 : ∀ (a0 : Nat), ∀ (a1 : Nat), ∀ (x2 : Int32), ∀ (x3 : Int32), ∀ (x4 : Int32), sc_kd a0 = 8 → sc_kd a1 = 5 → ∀ (M : hm_M) (H : Heap) (locs : List Loc) (ls : Array Slot), lv_has ls 5 [(0, .ref (B + a0)), (1, .ref (B + a1)), (2, .int x2), (3, .int x3), (4, .int x4)] → hm_P D sc_cl ca 64 (sc_sh rl) B M hm_L0 H → va_S (hm_A B 64) s.heap H locs → k3 a0 a1 x2 x3 x4 M = some M9 → W p l e ({ frames := 2, cells := 0, slots := 0, locals := 44 } : Room) s m args below meth c H locs 0 0 (MQ below (hq_QV D sc_cl ca 64 (sc_sh rl) B M9 hm_L0) args s 0 0 (hm_A B 64)) (F0 m 3 ls [])) : ∀ (a0 : Nat), ∀ (a1 : Nat), ∀ (x2 : Int32), ∀ (x3 : Int32), ∀ (x4 : Int32), sc_kd a0 = 8 → sc_kd a1 = 5 → ∀ (M : hm_M) (H : Heap) (locs : List Loc) (ls : Array Slot), lv_has ls 5 [(0, .ref (B + a0)), (1, .ref (B + a1)), (2, .int x2), (3, .int x3), (4, .int x4)] → hm_P D sc_cl ca 64 (sc_sh rl) B M hm_L0 H → va_S (hm_A B 64) s.heap H locs → f_Needs_handOn_52 k3 a0 a1 x2 x3 x4 M = some M9 → W p l e ({ frames := 2, cells := 0, slots := 0, locals := 44 } : Room) s m args below meth c H locs 0 0 (MQ below (hq_QV D sc_cl ca 64 (sc_sh rl) B M9 hm_L0) args s 0 0 (hm_A B 64)) (F0 m 52 ls []) := by
  obtain ⟨hx, hb, hml, hown, hr, hlk, hKt⟩ := id X
  have hK := hKt.1
  have hts : ∀ w ∈ hq_tb, w.before args s = true := fun w h => hKt.2.2 w h args
  intro a0 a1 x2 x3 x4 h_a0 h_a1 M H locs ls hl hP hS hf
  unfold f_Needs_handOn_52 at hf
  refine lv_iinc (v := (x4 + 1)) (lv' := [(4, .int (x4 + 1)), (0, .ref (B + a0)), (1, .ref (B + a1)), (2, .int x2), (3, .int x3)]) hx hb d_Needs_handOn_52 hl (k := 4) rfl rfl (by decide) rfl (fun ls hl => ?_)
  refine lv_goto (tgt := 3) hx hb d_Needs_handOn_55 (by decide) ?_
  exact hk3 _ _ _ _ _ h_a0 h_a1 _ _ _ _ (lv_sub hl [1, 2, 3, 4, 0] rfl) hP hS hf
set_option maxHeartbeats 4000000 in
set_option maxRecDepth 100000 in
theorem w_Needs_handOn_3 {p : Program} {l : Launch} {e : Env} {s : State} {m : MethodId} {args : Array Value} {below : List Frame} {meth : Method} {c : Code} {D : va_G} {ca : Nat → ClassId} {B rl : Nat} {M9 : hm_M} (X : hq_X p s m args meth c b_Needs_handOn R_Needs 5 none D sc_cl (sc_ty ca) hq_tb) : ∀ (n : Nat), ∀ (a0 : Nat), ∀ (a1 : Nat), ∀ (x2 : Int32), ∀ (x3 : Int32), ∀ (x4 : Int32), sc_kd a0 = 8 → sc_kd a1 = 5 → ∀ (M : hm_M) (H : Heap) (locs : List Loc) (ls : Array Slot), lv_has ls 5 [(0, .ref (B + a0)), (1, .ref (B + a1)), (2, .int x2), (3, .int x3), (4, .int x4)] → hm_P D sc_cl ca 64 (sc_sh rl) B M hm_L0 H → va_S (hm_A B 64) s.heap H locs → f_Needs_handOn_3 n a0 a1 x2 x3 x4 M = some M9 → W p l e ({ frames := 2, cells := 0, slots := 0, locals := 44 } : Room) s m args below meth c H locs 0 0 (MQ below (hq_QV D sc_cl ca 64 (sc_sh rl) B M9 hm_L0) args s 0 0 (hm_A B 64)) (F0 m 3 ls []) := by
  obtain ⟨hx, hb, hml, hown, hr, hlk, hKt⟩ := id X
  have hK := hKt.1
  have hts : ∀ w ∈ hq_tb, w.before args s = true := fun w h => hKt.2.2 w h args
  intro n
  induction n with
  | zero =>
    intro a0 a1 x2 x3 x4 h_a0 h_a1 M H locs ls hl hP hS hf
    cases hf
  | succ n ih =>
    intro a0 a1 x2 x3 x4 h_a0 h_a1 M H locs ls hl hP hS hf
    rw [f_Needs_handOn_3] at hf
    refine lv_iload hx hb d_Needs_handOn_3 (lv_at hl 4 rfl) ?_
    refine lv_aload_n hx hb d_Needs_handOn_5 rfl (lv_at hl 1 rfl) ?_
    refine hq_getN hx hb hts i_Stage hown hK hP a1 (sc_lt h_a1 (by decide)) (sc_s_Stage (h_a1)) rfl 3 (by decide) (hts _ sc_wd_10) (fun _ h => h) (v := .int (M a1 3)) rfl d_Needs_handOn_6 ?_
    refine lv_icmp_ge (tgt := 58) hx hb d_Needs_handOn_9 (by decide) (fun c1 => ?_) (fun c1 => ?_)
    · replace hf := (if_pos c1).symm.trans hf
      have h8 := Option.some.inj hf
      subst h8
      exact W.vret hx hb hr (fun t ht _ => ⟨⟨(), rfl, trivial, by subst ht; exact hP⟩, hS.F ht⟩) hS.2.2 d_Needs_handOn_58 hlk
    · replace hf := (if_neg c1).symm.trans hf
      refine lv_aload_n hx hb d_Needs_handOn_12 rfl (lv_at hl 1 rfl) ?_
      refine hq_getN hx hb hts i_Stage hown hK hP a1 (sc_lt h_a1 (by decide)) (sc_s_Stage (h_a1)) rfl 4 (by decide) (hts _ sc_wd_11) (fun _ h => h) (v := .ref (B + (a1 + 1))) rfl d_Needs_handOn_13 ?_
      refine lv_iload hx hb d_Needs_handOn_16 (lv_at hl 4 rfl) ?_
      obtain ⟨g2, hf⟩ := hm_gd_some hf
      refine hq_iald hx hb hK hP (a1 + 1) (sc_lt (sck_Stage1 h_a1) (by decide)) (sc_s_ia4 ((sck_Stage1 h_a1))) 0 rfl g2 d_Needs_handOn_18 ?_
      refine lv_iconst (v := (-1)) hx hb d_Needs_handOn_19 (by decide) ?_
      refine lv_icmp_eq (tgt := 52) hx hb d_Needs_handOn_20 (by decide) (fun c3 => ?_) (fun c3 => ?_)
      · replace hf := (if_pos c3).symm.trans hf
        exact w_Needs_handOn_52 X ih _ _ _ _ _ h_a0 h_a1 _ _ _ _ (lv_sub hl [0, 1, 2, 3, 4] rfl) hP hS hf
      · replace hf := (if_neg c3).symm.trans hf
        refine lv_aload_n hx hb d_Needs_handOn_23 rfl (lv_at hl 0 rfl) ?_
        refine lv_aload_n hx hb d_Needs_handOn_24 rfl (lv_at hl 1 rfl) ?_
        refine hq_getN hx hb hts i_Stage hown hK hP a1 (sc_lt h_a1 (by decide)) (sc_s_Stage (h_a1)) rfl 4 (by decide) (hts _ sc_wd_11) (fun _ h => h) (v := .ref (B + (a1 + 1))) rfl d_Needs_handOn_25 ?_
        refine lv_iload hx hb d_Needs_handOn_28 (lv_at hl 4 rfl) ?_
        obtain ⟨g4, hf⟩ := hm_gd_some hf
        refine hq_iald hx hb hK hP (a1 + 1) (sc_lt (sck_Stage1 h_a1) (by decide)) (sc_s_ia4 ((sck_Stage1 h_a1))) 0 rfl g4 d_Needs_handOn_30 ?_
        refine lv_iload_n hx hb d_Needs_handOn_31 rfl (lv_at hl 2 rfl) ?_
        refine lv_aload_n hx hb d_Needs_handOn_32 rfl (lv_at hl 1 rfl) ?_
        refine hq_getN hx hb hts i_Stage hown hK hP a1 (sc_lt h_a1 (by decide)) (sc_s_Stage (h_a1)) rfl 5 (by decide) (hts _ sc_wd_12) (fun _ h => h) (v := .ref (B + (a1 + 2))) rfl d_Needs_handOn_33 ?_
        refine lv_iload hx hb d_Needs_handOn_36 (lv_at hl 4 rfl) ?_
        obtain ⟨g5, hf⟩ := hm_gd_some hf
        refine hq_iald hx hb hK hP (a1 + 2) (sc_lt (sck_Stage2 h_a1) (by decide)) (sc_s_ia4 ((sck_Stage2 h_a1))) 0 rfl g5 d_Needs_handOn_38 ?_
        refine lv_iadd hx hb d_Needs_handOn_39 ?_
        refine lv_iload_n hx hb d_Needs_handOn_40 rfl (lv_at hl 3 rfl) ?_
        refine lv_aload_n hx hb d_Needs_handOn_41 rfl (lv_at hl 1 rfl) ?_
        refine hq_getN hx hb hts i_Stage hown hK hP a1 (sc_lt h_a1 (by decide)) (sc_s_Stage (h_a1)) rfl 5 (by decide) (hts _ sc_wd_12) (fun _ h => h) (v := .ref (B + (a1 + 2))) rfl d_Needs_handOn_42 ?_
        refine lv_iload hx hb d_Needs_handOn_45 (lv_at hl 4 rfl) ?_
        obtain ⟨g6, hf⟩ := hm_gd_some hf
        refine hq_iald hx hb hK hP (a1 + 2) (sc_lt (sck_Stage2 h_a1) (by decide)) (sc_s_ia4 ((sck_Stage2 h_a1))) 0 rfl g6 d_Needs_handOn_47 ?_
        refine lv_iadd hx hb d_Needs_handOn_48 ?_
        obtain ⟨M_8, hc9, hf⟩ := hm_bV_some hf
        refine hq_callV (va_runV (As := [.int (M (a1 + 1) x4.toNatClampNeg), .int (x2 + (M (a1 + 2) x4.toNatClampNeg)), .int (x3 + (M (a1 + 2) x4.toNatClampNeg))]) (rest := []) ⟨hx, hb, hml, hown, hts⟩ (c_Needs_widen (l := l) (D := D) (ca := ca) (B := B) (rl := rl) h_a0 hc9) (hq_cwV (nn := 3) hts sc_wd_13 sc_wd_14 sc_wd_15 sc_wd_16 sc_wd_17 (by decide +kernel) rfl rfl ⟨(Nat.le_of_ble_eq_true rfl), (Nat.le_of_ble_eq_true rfl)⟩) (hq_preV hKt hP (sc_lt h_a0 (by decide)) (sc_s_Needs (h_a0)) rfl) rfl rfl hl.1 rfl (lv_room (Nat.le_of_ble_eq_true rfl)) d_Needs_handOn_49 ⟨(Nat.le_of_ble_eq_true rfl), (Nat.le_of_ble_eq_true rfl)⟩) hS (fun H locs hP hS => ?_)
        exact w_Needs_handOn_52 X ih _ _ _ _ _ h_a0 h_a1 _ _ _ _ (lv_sub hl [0, 1, 2, 3, 4] rfl) hP hS hf
set_option maxHeartbeats 4000000 in
set_option maxRecDepth 100000 in
theorem w_Needs_handOn_e {p : Program} {l : Launch} {e : Env} {s : State} {m : MethodId} {args : Array Value} {below : List Frame} {meth : Method} {c : Code} {D : va_G} {ca : Nat → ClassId} {B rl : Nat} {M9 : hm_M} (X : hq_X p s m args meth c b_Needs_handOn R_Needs 5 none D sc_cl (sc_ty ca) hq_tb) : ∀ (a0 : Nat), ∀ (a1 : Nat), ∀ (x2 : Int32), ∀ (x3 : Int32), sc_kd a0 = 8 → sc_kd a1 = 5 → ∀ (M : hm_M) (H : Heap) (locs : List Loc) (ls : Array Slot), lv_has ls 5 [(0, .ref (B + a0)), (1, .ref (B + a1)), (2, .int x2), (3, .int x3)] → hm_P D sc_cl ca 64 (sc_sh rl) B M hm_L0 H → va_S (hm_A B 64) s.heap H locs → f_Needs_handOn M a0 a1 x2 x3 = some M9 → W p l e ({ frames := 2, cells := 0, slots := 0, locals := 44 } : Room) s m args below meth c H locs 0 0 (MQ below (hq_QV D sc_cl ca 64 (sc_sh rl) B M9 hm_L0) args s 0 0 (hm_A B 64)) (F0 m 0 ls []) := by
  obtain ⟨hx, hb, hml, hown, hr, hlk, hKt⟩ := id X
  have hK := hKt.1
  have hts : ∀ w ∈ hq_tb, w.before args s = true := fun w h => hKt.2.2 w h args
  intro a0 a1 x2 x3 h_a0 h_a1 M H locs ls hl hP hS hf
  unfold f_Needs_handOn at hf
  refine lv_iconst (v := 0) hx hb d_Needs_handOn_0 (by decide) ?_
  refine lv_istore (lv' := [(4, .int 0), (0, .ref (B + a0)), (1, .ref (B + a1)), (2, .int x2), (3, .int x3)]) hx hb d_Needs_handOn_1 hl (by decide) rfl (fun ls hl => ?_)
  exact w_Needs_handOn_3 X _ _ _ _ _ _ h_a0 h_a1 _ _ _ _ (lv_sub hl [1, 2, 3, 4, 0] rfl) hP hS hf
set_option maxHeartbeats 4000000 in
set_option maxRecDepth 100000 in
theorem c_Needs_handOn {l : Launch} {D : va_G} {ca : Nat → ClassId} {B rl : Nat} {a0 : Nat} {a1 : Nat} {x2 : Int32} {x3 : Int32} (h_a0 : sc_kd a0 = 8) (h_a1 : sc_kd a1 = 5) {M M9 : hm_M} (hf : f_Needs_handOn M a0 a1 x2 x3 = some M9) : Met l y_Needs_handOn [Cond.code y_Needs_handOn b_Needs_handOn 5 none] ({ frames := 2, cells := 0, slots := 0, locals := 44 } : Room) (hq_Pre D sc_cl ca 64 (sc_sh rl) B (sc_ty ca) hq_tb M hm_L0 [.ref (B + a0), .ref (B + a1), .int x2, .int x3]) (hq_QV D sc_cl ca 64 (sc_sh rl) B M9 hm_L0) 0 0 (hm_A B 64) := by
  refine Met.ofW (cc := b_Needs_handOn) (maxL := 5) (ret := none) (by decide +kernel) rfl ?_
  intro p e s m args below meth c s₁ Bd hml hv
  obtain ⟨rfl, hP, hK⟩ := hv
  have hl := lv_entry ([.ref (B + a0), .ref (B + a1), .int x2, .int x3]) (n := 5) (Nat.le_of_ble_eq_true rfl)
  rw [lg_entry_eq]
  generalize (lg_sl ([.ref (B + a0), .ref (B + a1), .int x2, .int x3]) ++ List.replicate (5 - (lg_sl ([.ref (B + a0), .ref (B + a1), .int x2, .int x3])).length) Slot.unset).toArray = ls at hl ⊢
  have hl : lv_has ls 5 [(0, .ref (B + a0)), (1, .ref (B + a1)), (2, .int x2), (3, .int x3)] := hl
  exact w_Needs_handOn_e ⟨Bd.exec, Bd.bytes, hml, findClass_of_methodNamed Bd.named, Bd.returns, Bd.notSynchronized, hK⟩  _ _ _ _ h_a0 h_a1 _ _ _ _ hl hP va_S.rf hf
set_option maxHeartbeats 4000000 in
set_option maxRecDepth 100000 in
theorem w_Needs_spread_80 {p : Program} {l : Launch} {e : Env} {s : State} {m : MethodId} {args : Array Value} {below : List Frame} {meth : Method} {c : Code} {D : va_G} {ca : Nat → ClassId} {B rl : Nat} {M9 : hm_M} (X : hq_X p s m args meth c b_Needs_spread R_Needs 5 none D sc_cl (sc_ty ca) hq_tb) {k40 : Nat → Int32 → hm_M → Option hm_M} (hk40 : ∀ (a0 : Nat), ∀ (x4 : Int32), sc_kd a0 = 8 → ∀ (M : hm_M) (H : Heap) (locs : List Loc) (ls : Array Slot), lv_has ls 5 [(0, .ref (B + a0)), (1, .ref (B + 1)), (4, .int x4)] → hm_P D sc_cl ca 64 (sc_sh rl) B M hm_L0 H → va_S (hm_A B 64) s.heap H locs → k40 a0 x4 M = some M9 → W p l e ({ frames := 3, cells := 0, slots := 0, locals := 68 } : Room) s m args below meth c H locs 0 0 (MQ below (hq_QV D sc_cl ca 64 (sc_sh rl) B M9 hm_L0) args s 0 0 (hm_A B 64)) (F0 m 40 ls [])) : ∀ (a0 : Nat), ∀ (x4 : Int32), sc_kd a0 = 8 → ∀ (M : hm_M) (H : Heap) (locs : List Loc) (ls : Array Slot), lv_has ls 5 [(0, .ref (B + a0)), (1, .ref (B + 1)), (4, .int x4)] → hm_P D sc_cl ca 64 (sc_sh rl) B M hm_L0 H → va_S (hm_A B 64) s.heap H locs → f_Needs_spread_80 k40 a0 x4 M = some M9 → W p l e ({ frames := 3, cells := 0, slots := 0, locals := 68 } : Room) s m args below meth c H locs 0 0 (MQ below (hq_QV D sc_cl ca 64 (sc_sh rl) B M9 hm_L0) args s 0 0 (hm_A B 64)) (F0 m 80 ls []) := by
  obtain ⟨hx, hb, hml, hown, hr, hlk, hKt⟩ := id X
  have hK := hKt.1
  have hts : ∀ w ∈ hq_tb, w.before args s = true := fun w h => hKt.2.2 w h args
  intro a0 x4 h_a0 M H locs ls hl hP hS hf
  unfold f_Needs_spread_80 at hf
  refine lv_iinc (v := (x4 + (-1))) (lv' := [(4, .int (x4 + (-1))), (0, .ref (B + a0)), (1, .ref (B + 1))]) hx hb d_Needs_spread_80 hl (k := 2) rfl rfl (by decide) rfl (fun ls hl => ?_)
  refine lv_goto (tgt := 40) hx hb d_Needs_spread_83 (by decide) ?_
  exact hk40 _ _ h_a0 _ _ _ _ (lv_sub hl [1, 2, 0] rfl) hP hS hf
set_option maxHeartbeats 4000000 in
set_option maxRecDepth 100000 in
theorem w_Needs_spread_40 {p : Program} {l : Launch} {e : Env} {s : State} {m : MethodId} {args : Array Value} {below : List Frame} {meth : Method} {c : Code} {D : va_G} {ca : Nat → ClassId} {B rl : Nat} {M9 : hm_M} (X : hq_X p s m args meth c b_Needs_spread R_Needs 5 none D sc_cl (sc_ty ca) hq_tb) : ∀ (n : Nat), ∀ (a0 : Nat), ∀ (x4 : Int32), sc_kd a0 = 8 → ∀ (M : hm_M) (H : Heap) (locs : List Loc) (ls : Array Slot), lv_has ls 5 [(0, .ref (B + a0)), (1, .ref (B + 1)), (4, .int x4)] → hm_P D sc_cl ca 64 (sc_sh rl) B M hm_L0 H → va_S (hm_A B 64) s.heap H locs → f_Needs_spread_40 n a0 x4 M = some M9 → W p l e ({ frames := 3, cells := 0, slots := 0, locals := 68 } : Room) s m args below meth c H locs 0 0 (MQ below (hq_QV D sc_cl ca 64 (sc_sh rl) B M9 hm_L0) args s 0 0 (hm_A B 64)) (F0 m 40 ls []) := by
  obtain ⟨hx, hb, hml, hown, hr, hlk, hKt⟩ := id X
  have hK := hKt.1
  have hts : ∀ w ∈ hq_tb, w.before args s = true := fun w h => hKt.2.2 w h args
  intro n
  induction n with
  | zero =>
    intro a0 x4 h_a0 M H locs ls hl hP hS hf
    cases hf
  | succ n ih =>
    intro a0 x4 h_a0 M H locs ls hl hP hS hf
    rw [f_Needs_spread_40] at hf
    refine lv_iload hx hb d_Needs_spread_40 (lv_at hl 2 rfl) ?_
    refine lv_if_lt (tgt := 86) hx hb d_Needs_spread_42 (by decide) (fun c1 => ?_) (fun c1 => ?_)
    · replace hf := (if_pos c1).symm.trans hf
      have h8 := Option.some.inj hf
      subst h8
      exact W.vret hx hb hr (fun t ht _ => ⟨⟨(), rfl, trivial, by subst ht; exact hP⟩, hS.F ht⟩) hS.2.2 d_Needs_spread_86 hlk
    · replace hf := (if_neg c1).symm.trans hf
      refine lv_aload_n hx hb d_Needs_spread_45 rfl (lv_at hl 0 rfl) ?_
      refine hq_get hx hb hts i_Needs hown hK hP a0 (sc_lt h_a0 (by decide)) (sc_s_Needs (h_a0)) rfl 0 (by decide) (hts _ sc_wd_1) (fun _ h => h) (v := .ref (B + (a0 + 1))) rfl d_Needs_spread_46 ?_
      refine lv_iload hx hb d_Needs_spread_49 (lv_at hl 2 rfl) ?_
      obtain ⟨g2, hf⟩ := hm_gd_some hf
      refine hq_zald hx hb hK hP (a0 + 1) (sc_lt (sck_Needs1 h_a0) (by decide)) (sc_s_za8 ((sck_Needs1 h_a0))) 1 rfl g2 d_Needs_spread_51 ?_
      refine lv_if_eq (tgt := 80) hx hb d_Needs_spread_52 (by decide) (fun c3 => ?_) (fun c3 => ?_)
      · replace hf := (if_pos c3).symm.trans hf
        exact w_Needs_spread_80 X ih _ _ h_a0 _ _ _ _ (lv_sub hl [0, 1, 2] rfl) hP hS hf
      · replace hf := (if_neg c3).symm.trans hf
        refine lv_aload_n hx hb d_Needs_spread_55 rfl (lv_at hl 0 rfl) ?_
        refine lv_aload_n hx hb d_Needs_spread_56 rfl (lv_at hl 1 rfl) ?_
        refine hq_getN hx hb hts i_Pipe hown hK hP 1 (by decide) (sc_s_Pipe (rfl)) rfl 1 (by decide) (hts _ sc_wd_19) (fun _ h => h) (v := .ref (B + 2)) rfl d_Needs_spread_57 ?_
        refine lv_iload hx hb d_Needs_spread_60 (lv_at hl 2 rfl) ?_
        obtain ⟨g4, hf⟩ := hm_gd_some hf
        refine hq_aald hx hb hK hP 2 (by decide) (sc_s_starr (rfl)) 2 rfl rfl g4 d_Needs_spread_62 ?_
        refine lv_aload_n hx hb d_Needs_spread_63 rfl (lv_at hl 0 rfl) ?_
        refine hq_get hx hb hts i_Needs hown hK hP a0 (sc_lt h_a0 (by decide)) (sc_s_Needs (h_a0)) rfl 1 (by decide) (hts _ sc_wd_0) (fun _ h => h) (v := .ref (B + (a0 + 2))) rfl d_Needs_spread_64 ?_
        refine lv_iload hx hb d_Needs_spread_67 (lv_at hl 2 rfl) ?_
        obtain ⟨g5, hf⟩ := hm_gd_some hf
        refine hq_iald hx hb hK hP (a0 + 2) (sc_lt (sck_Needs2 h_a0) (by decide)) (sc_s_ia8 ((sck_Needs2 h_a0))) 0 rfl g5 d_Needs_spread_69 ?_
        refine lv_aload_n hx hb d_Needs_spread_70 rfl (lv_at hl 0 rfl) ?_
        refine hq_get hx hb hts i_Needs hown hK hP a0 (sc_lt h_a0 (by decide)) (sc_s_Needs (h_a0)) rfl 2 (by decide) (hts _ sc_wd_6) (fun _ h => h) (v := .ref (B + (a0 + 3))) rfl d_Needs_spread_71 ?_
        refine lv_iload hx hb d_Needs_spread_74 (lv_at hl 2 rfl) ?_
        obtain ⟨g6, hf⟩ := hm_gd_some hf
        refine hq_iald hx hb hK hP (a0 + 3) (sc_lt (sck_Needs3 h_a0) (by decide)) (sc_s_ia8 ((sck_Needs3 h_a0))) 0 rfl g6 d_Needs_spread_76 ?_
        obtain ⟨M_8, hc9, hf⟩ := hm_bV_some hf
        refine hq_callV (va_runV (As := [.ref (B + (5 + 4 * x4.toNatClampNeg)), .int (M (a0 + 2) x4.toNatClampNeg), .int (M (a0 + 3) x4.toNatClampNeg)]) (rest := []) ⟨hx, hb, hml, hown, hts⟩ (c_Needs_handOn (l := l) (D := D) (ca := ca) (B := B) (rl := rl) h_a0 (sck_st g4) hc9) (hq_cwV (nn := 3) hts sc_wd_20 sc_wd_14 sc_wd_21 sc_wd_22 sc_wd_23 (by decide +kernel) rfl rfl ⟨(Nat.le_of_ble_eq_true rfl), (Nat.le_of_ble_eq_true rfl)⟩) (hq_preV hKt hP (sc_lt h_a0 (by decide)) (sc_s_Needs (h_a0)) rfl) rfl rfl hl.1 rfl (lv_room (Nat.le_of_ble_eq_true rfl)) d_Needs_spread_77 ⟨(Nat.le_of_ble_eq_true rfl), (Nat.le_of_ble_eq_true rfl)⟩) hS (fun H locs hP hS => ?_)
        exact w_Needs_spread_80 X ih _ _ h_a0 _ _ _ _ (lv_sub hl [0, 1, 2] rfl) hP hS hf
set_option maxHeartbeats 4000000 in
set_option maxRecDepth 100000 in
theorem w_Needs_spread_3 {p : Program} {l : Launch} {e : Env} {s : State} {m : MethodId} {args : Array Value} {below : List Frame} {meth : Method} {c : Code} {D : va_G} {ca : Nat → ClassId} {B rl : Nat} {M9 : hm_M} (X : hq_X p s m args meth c b_Needs_spread R_Needs 5 none D sc_cl (sc_ty ca) hq_tb) : ∀ (n : Nat), ∀ (a0 : Nat), ∀ (x2 : Int32), ∀ (x3 : Int32), ∀ (x4 : Int32), sc_kd a0 = 8 → ∀ (M : hm_M) (H : Heap) (locs : List Loc) (ls : Array Slot), lv_has ls 5 [(0, .ref (B + a0)), (1, .ref (B + 1)), (2, .int x2), (3, .int x3), (4, .int x4)] → hm_P D sc_cl ca 64 (sc_sh rl) B M hm_L0 H → va_S (hm_A B 64) s.heap H locs → f_Needs_spread_3 n a0 x2 x3 x4 M = some M9 → W p l e ({ frames := 3, cells := 0, slots := 0, locals := 68 } : Room) s m args below meth c H locs 0 0 (MQ below (hq_QV D sc_cl ca 64 (sc_sh rl) B M9 hm_L0) args s 0 0 (hm_A B 64)) (F0 m 3 ls []) := by
  obtain ⟨hx, hb, hml, hown, hr, hlk, hKt⟩ := id X
  have hK := hKt.1
  have hts : ∀ w ∈ hq_tb, w.before args s = true := fun w h => hKt.2.2 w h args
  intro n
  induction n with
  | zero =>
    intro a0 x2 x3 x4 h_a0 M H locs ls hl hP hS hf
    cases hf
  | succ n ih =>
    intro a0 x2 x3 x4 h_a0 M H locs ls hl hP hS hf
    rw [f_Needs_spread_3] at hf
    refine lv_iload hx hb d_Needs_spread_3 (lv_at hl 4 rfl) ?_
    refine lv_bipush (v := 8) hx hb d_Needs_spread_5 (by decide) ?_
    refine lv_icmp_ge (tgt := 24) hx hb d_Needs_spread_7 (by decide) (fun c1 => ?_) (fun c1 => ?_)
    · replace hf := (if_pos c1).symm.trans hf
      refine lv_aload_n hx hb d_Needs_spread_24 rfl (lv_at hl 0 rfl) ?_
      refine lv_aload_n hx hb d_Needs_spread_25 rfl (lv_at hl 1 rfl) ?_
      refine hq_getN hx hb hts i_Pipe hown hK hP 1 (by decide) (sc_s_Pipe (rfl)) rfl 5 (by decide) (hts _ sc_wd_18) (fun _ h => h) (v := .int (M 1 5)) rfl d_Needs_spread_26 ?_
      refine lv_iload_n hx hb d_Needs_spread_29 rfl (lv_at hl 2 rfl) ?_
      refine lv_iload_n hx hb d_Needs_spread_30 rfl (lv_at hl 3 rfl) ?_
      obtain ⟨M_3, hc4, hf⟩ := hm_bV_some hf
      refine hq_callV (va_runV (As := [.int (M 1 5), .int x2, .int x3]) (rest := []) ⟨hx, hb, hml, hown, hts⟩ (c_Needs_widen (l := l) (D := D) (ca := ca) (B := B) (rl := rl) h_a0 hc4) (hq_cwV (nn := 3) hts sc_wd_13 sc_wd_14 sc_wd_15 sc_wd_16 sc_wd_17 (by decide +kernel) rfl rfl ⟨(Nat.le_of_ble_eq_true rfl), (Nat.le_of_ble_eq_true rfl)⟩) (hq_preV hKt hP (sc_lt h_a0 (by decide)) (sc_s_Needs (h_a0)) rfl) rfl rfl hl.1 rfl (lv_room (Nat.le_of_ble_eq_true rfl)) d_Needs_spread_31 ⟨(Nat.le_of_ble_eq_true rfl), (Nat.le_of_ble_eq_true rfl)⟩) hS (fun H locs hP hS => ?_)
      refine lv_aload_n hx hb d_Needs_spread_34 rfl (lv_at hl 1 rfl) ?_
      refine hq_getN hx hb hts i_Pipe hown hK hP 1 (by decide) (sc_s_Pipe (rfl)) rfl 5 (by decide) (hts _ sc_wd_18) (fun _ h => h) (v := .int (M_3 1 5)) rfl d_Needs_spread_35 ?_
      refine lv_istore (lv' := [(4, .int (M_3 1 5)), (0, .ref (B + a0)), (1, .ref (B + 1)), (2, .int x2), (3, .int x3)]) hx hb d_Needs_spread_38 hl (by decide) rfl (fun ls hl => ?_)
      exact w_Needs_spread_40 X _ _ _ h_a0 _ _ _ _ (lv_sub hl [1, 2, 0] rfl) hP hS hf
    · replace hf := (if_neg c1).symm.trans hf
      refine lv_aload_n hx hb d_Needs_spread_10 rfl (lv_at hl 0 rfl) ?_
      refine hq_get hx hb hts i_Needs hown hK hP a0 (sc_lt h_a0 (by decide)) (sc_s_Needs (h_a0)) rfl 0 (by decide) (hts _ sc_wd_1) (fun _ h => h) (v := .ref (B + (a0 + 1))) rfl d_Needs_spread_11 ?_
      refine lv_iload hx hb d_Needs_spread_14 (lv_at hl 4 rfl) ?_
      refine lv_iconst (v := 0) hx hb d_Needs_spread_16 (by decide) ?_
      obtain ⟨g5, hf⟩ := hm_gd_some hf
      refine hq_zast hx hb hK hP hS (a0 + 1) (sc_lt (sck_Needs1 h_a0) (by decide)) (sc_s_za8 ((sck_Needs1 h_a0))) 1 rfl g5 (Or.inl rfl) d_Needs_spread_17 (fun H locs hP hS => ?_)
      obtain ⟨M_6, e_6, hf⟩ := hm_st_some hf
      rw [← e_6] at hP
      refine lv_iinc (v := (x4 + 1)) (lv' := [(4, .int (x4 + 1)), (0, .ref (B + a0)), (1, .ref (B + 1)), (2, .int x2), (3, .int x3)]) hx hb d_Needs_spread_18 hl (k := 4) rfl rfl (by decide) rfl (fun ls hl => ?_)
      refine lv_goto (tgt := 3) hx hb d_Needs_spread_21 (by decide) ?_
      exact ih _ _ _ _ h_a0 _ _ _ _ (lv_sub hl [1, 2, 3, 4, 0] rfl) hP hS hf
set_option maxHeartbeats 4000000 in
set_option maxRecDepth 100000 in
theorem w_Needs_spread_e {p : Program} {l : Launch} {e : Env} {s : State} {m : MethodId} {args : Array Value} {below : List Frame} {meth : Method} {c : Code} {D : va_G} {ca : Nat → ClassId} {B rl : Nat} {M9 : hm_M} (X : hq_X p s m args meth c b_Needs_spread R_Needs 5 none D sc_cl (sc_ty ca) hq_tb) : ∀ (a0 : Nat), ∀ (x2 : Int32), ∀ (x3 : Int32), sc_kd a0 = 8 → ∀ (M : hm_M) (H : Heap) (locs : List Loc) (ls : Array Slot), lv_has ls 5 [(0, .ref (B + a0)), (1, .ref (B + 1)), (2, .int x2), (3, .int x3)] → hm_P D sc_cl ca 64 (sc_sh rl) B M hm_L0 H → va_S (hm_A B 64) s.heap H locs → f_Needs_spread M a0 x2 x3 = some M9 → W p l e ({ frames := 3, cells := 0, slots := 0, locals := 68 } : Room) s m args below meth c H locs 0 0 (MQ below (hq_QV D sc_cl ca 64 (sc_sh rl) B M9 hm_L0) args s 0 0 (hm_A B 64)) (F0 m 0 ls []) := by
  obtain ⟨hx, hb, hml, hown, hr, hlk, hKt⟩ := id X
  have hK := hKt.1
  have hts : ∀ w ∈ hq_tb, w.before args s = true := fun w h => hKt.2.2 w h args
  intro a0 x2 x3 h_a0 M H locs ls hl hP hS hf
  unfold f_Needs_spread at hf
  refine lv_iconst (v := 0) hx hb d_Needs_spread_0 (by decide) ?_
  refine lv_istore (lv' := [(4, .int 0), (0, .ref (B + a0)), (1, .ref (B + 1)), (2, .int x2), (3, .int x3)]) hx hb d_Needs_spread_1 hl (by decide) rfl (fun ls hl => ?_)
  exact w_Needs_spread_3 X _ _ _ _ _ h_a0 _ _ _ _ (lv_sub hl [1, 2, 3, 4, 0] rfl) hP hS hf
set_option maxHeartbeats 4000000 in
set_option maxRecDepth 100000 in
theorem c_Needs_spread {l : Launch} {D : va_G} {ca : Nat → ClassId} {B rl : Nat} {a0 : Nat} {x2 : Int32} {x3 : Int32} (h_a0 : sc_kd a0 = 8) {M M9 : hm_M} (hf : f_Needs_spread M a0 x2 x3 = some M9) : Met l y_Needs_spread [Cond.code y_Needs_spread b_Needs_spread 5 none] ({ frames := 3, cells := 0, slots := 0, locals := 68 } : Room) (hq_Pre D sc_cl ca 64 (sc_sh rl) B (sc_ty ca) hq_tb M hm_L0 [.ref (B + a0), .ref (B + 1), .int x2, .int x3]) (hq_QV D sc_cl ca 64 (sc_sh rl) B M9 hm_L0) 0 0 (hm_A B 64) := by
  refine Met.ofW (cc := b_Needs_spread) (maxL := 5) (ret := none) (by decide +kernel) rfl ?_
  intro p e s m args below meth c s₁ Bd hml hv
  obtain ⟨rfl, hP, hK⟩ := hv
  have hl := lv_entry ([.ref (B + a0), .ref (B + 1), .int x2, .int x3]) (n := 5) (Nat.le_of_ble_eq_true rfl)
  rw [lg_entry_eq]
  generalize (lg_sl ([.ref (B + a0), .ref (B + 1), .int x2, .int x3]) ++ List.replicate (5 - (lg_sl ([.ref (B + a0), .ref (B + 1), .int x2, .int x3])).length) Slot.unset).toArray = ls at hl ⊢
  have hl : lv_has ls 5 [(0, .ref (B + a0)), (1, .ref (B + 1)), (2, .int x2), (3, .int x3)] := hl
  exact w_Needs_spread_e ⟨Bd.exec, Bd.bytes, hml, findClass_of_methodNamed Bd.named, Bd.returns, Bd.notSynchronized, hK⟩  _ _ _ h_a0 _ _ _ _ hl hP va_S.rf hf
set_option maxHeartbeats 4000000 in
set_option maxRecDepth 100000 in
theorem w_Needs_lengthOf_e {p : Program} {l : Launch} {e : Env} {s : State} {m : MethodId} {args : Array Value} {below : List Frame} {meth : Method} {c : Code} {D : va_G} {ca : Nat → ClassId} {B rl : Nat} {r : Int32} {M9 : hm_M} (X : hq_X p s m args meth c b_Needs_lengthOf R_Needs 2 (some .int) D sc_cl (sc_ty ca) hq_tb) : ∀ (a0 : Nat), ∀ (x1 : Int32), sc_kd a0 = 8 → ∀ (M : hm_M) (H : Heap) (locs : List Loc) (ls : Array Slot), lv_has ls 2 [(0, .ref (B + a0)), (1, .int x1)] → hm_P D sc_cl ca 64 (sc_sh rl) B M hm_L0 H → va_S (hm_A B 64) s.heap H locs → f_Needs_lengthOf M a0 x1 = some (r, M9) → W p l e ({ frames := 0, cells := 0, slots := 0, locals := 0 } : Room) s m args below meth c H locs 0 0 (MQ below (hq_QI D sc_cl ca 64 (sc_sh rl) B r M9 hm_L0) args s 0 0 (hm_A B 64)) (F0 m 0 ls []) := by
  obtain ⟨hx, hb, hml, hown, hr, hlk, hKt⟩ := id X
  have hK := hKt.1
  have hts : ∀ w ∈ hq_tb, w.before args s = true := fun w h => hKt.2.2 w h args
  intro a0 x1 h_a0 M H locs ls hl hP hS hf
  unfold f_Needs_lengthOf at hf
  refine lv_aload_n hx hb d_Needs_lengthOf_0 rfl (lv_at hl 0 rfl) ?_
  refine hq_get hx hb hts i_Needs hown hK hP a0 (sc_lt h_a0 (by decide)) (sc_s_Needs (h_a0)) rfl 2 (by decide) (hts _ sc_wd_6) (fun _ h => h) (v := .ref (B + (a0 + 3))) rfl d_Needs_lengthOf_1 ?_
  refine lv_iload_n hx hb d_Needs_lengthOf_4 rfl (lv_at hl 1 rfl) ?_
  obtain ⟨g1, hf⟩ := hm_gd_some hf
  refine hq_iald hx hb hK hP (a0 + 3) (sc_lt (sck_Needs3 h_a0) (by decide)) (sc_s_ia8 ((sck_Needs3 h_a0))) 0 rfl g1 d_Needs_lengthOf_5 ?_
  refine lv_aload_n hx hb d_Needs_lengthOf_6 rfl (lv_at hl 0 rfl) ?_
  refine hq_get hx hb hts i_Needs hown hK hP a0 (sc_lt h_a0 (by decide)) (sc_s_Needs (h_a0)) rfl 1 (by decide) (hts _ sc_wd_0) (fun _ h => h) (v := .ref (B + (a0 + 2))) rfl d_Needs_lengthOf_7 ?_
  refine lv_iload_n hx hb d_Needs_lengthOf_10 rfl (lv_at hl 1 rfl) ?_
  obtain ⟨g2, hf⟩ := hm_gd_some hf
  refine hq_iald hx hb hK hP (a0 + 2) (sc_lt (sck_Needs2 h_a0) (by decide)) (sc_s_ia8 ((sck_Needs2 h_a0))) 0 rfl g2 d_Needs_lengthOf_11 ?_
  refine lv_isub hx hb d_Needs_lengthOf_12 ?_
  refine lv_iconst (v := 1) hx hb d_Needs_lengthOf_13 (by decide) ?_
  refine lv_iadd hx hb d_Needs_lengthOf_14 ?_
  obtain ⟨h9, h8⟩ := Prod.mk.inj (Option.some.inj hf)
  subst h9
  subst h8
  exact W.iret hx hb hr (fun t ht _ => ⟨⟨_, (), rfl, rfl, by subst ht; exact hP⟩, hS.F ht⟩) hS.2.2 d_Needs_lengthOf_15 hlk
set_option maxHeartbeats 4000000 in
set_option maxRecDepth 100000 in
theorem c_Needs_lengthOf {l : Launch} {D : va_G} {ca : Nat → ClassId} {B rl : Nat} {r : Int32} {a0 : Nat} {x1 : Int32} (h_a0 : sc_kd a0 = 8) {M M9 : hm_M} (hf : f_Needs_lengthOf M a0 x1 = some (r, M9)) : Met l y_Needs_lengthOf [Cond.code y_Needs_lengthOf b_Needs_lengthOf 2 (some .int)] ({ frames := 0, cells := 0, slots := 0, locals := 0 } : Room) (hq_Pre D sc_cl ca 64 (sc_sh rl) B (sc_ty ca) hq_tb M hm_L0 [.ref (B + a0), .int x1]) (hq_QI D sc_cl ca 64 (sc_sh rl) B r M9 hm_L0) 0 0 (hm_A B 64) := by
  refine Met.ofW (cc := b_Needs_lengthOf) (maxL := 2) (ret := (some .int)) (by decide +kernel) rfl ?_
  intro p e s m args below meth c s₁ Bd hml hv
  obtain ⟨rfl, hP, hK⟩ := hv
  have hl := lv_entry ([.ref (B + a0), .int x1]) (n := 2) (Nat.le_of_ble_eq_true rfl)
  rw [lg_entry_eq]
  generalize (lg_sl ([.ref (B + a0), .int x1]) ++ List.replicate (2 - (lg_sl ([.ref (B + a0), .int x1])).length) Slot.unset).toArray = ls at hl ⊢
  have hl : lv_has ls 2 [(0, .ref (B + a0)), (1, .int x1)] := hl
  exact w_Needs_lengthOf_e ⟨Bd.exec, Bd.bytes, hml, findClass_of_methodNamed Bd.named, Bd.returns, Bd.notSynchronized, hK⟩  _ _ h_a0 _ _ _ _ hl hP va_S.rf hf
