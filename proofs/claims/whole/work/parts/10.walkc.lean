set_option maxHeartbeats 4000000 in
set_option maxRecDepth 100000 in
theorem w_Plan_isUsedAs_33 {p : Program} {l : Launch} {e : Env} {s : State} {m : MethodId} {args : Array Value} {below : List Frame} {meth : Method} {c : Code} {D : va_G} {ca : Nat → ClassId} {B rl : Nat} {r : Int32} {M9 : hm_M} (X : hq_X p s m args meth c b_Plan_isUsedAs R_Plan 3 (some .boolean) D sc_cl (sc_ty ca) hq_tb) : ∀ (y0 : Int32), ∀ (M : hm_M) (H : Heap) (locs : List Loc) (ls : Array Slot), lv_has ls 3 [] → hm_P D sc_cl ca 64 (sc_sh rl) B M hm_L0 H → va_S (hm_A B 64) s.heap H locs → f_Plan_isUsedAs_33 y0 M = some (r, M9) → W p l e ({ frames := 0, cells := 0, slots := 0, locals := 0 } : Room) s m args below meth c H locs 0 0 (MQ below (hq_QI D sc_cl ca 64 (sc_sh rl) B r M9 hm_L0) args s 0 0 (hm_A B 64)) (F0 m 33 ls [.int y0]) := by
  obtain ⟨hx, hb, hml, hown, hr, hlk, hKt⟩ := id X
  have hK := hKt.1
  have hts : ∀ w ∈ hq_tb, w.before args s = true := fun w h => hKt.2.2 w h args
  intro y0 M H locs ls hl hP hS hf
  unfold f_Plan_isUsedAs_33 at hf
  obtain ⟨g1, hf⟩ := hm_gd_some hf
  obtain ⟨h9, h8⟩ := Prod.mk.inj (Option.some.inj hf)
  subst h9
  subst h8
  exact W.zret (ty := .boolean) hx hb hr (hq_nb2 (of_decide_eq_true g1)) (fun t ht _ => ⟨⟨_, (), rfl, rfl, by subst ht; exact hP⟩, hS.F ht⟩) hS.2.2 d_Plan_isUsedAs_33 hlk
set_option maxHeartbeats 4000000 in
set_option maxRecDepth 100000 in
theorem w_Plan_isUsedAs_32 {p : Program} {l : Launch} {e : Env} {s : State} {m : MethodId} {args : Array Value} {below : List Frame} {meth : Method} {c : Code} {D : va_G} {ca : Nat → ClassId} {B rl : Nat} {r : Int32} {M9 : hm_M} (X : hq_X p s m args meth c b_Plan_isUsedAs R_Plan 3 (some .boolean) D sc_cl (sc_ty ca) hq_tb) : ∀ (M : hm_M) (H : Heap) (locs : List Loc) (ls : Array Slot), lv_has ls 3 [] → hm_P D sc_cl ca 64 (sc_sh rl) B M hm_L0 H → va_S (hm_A B 64) s.heap H locs → f_Plan_isUsedAs_32 M = some (r, M9) → W p l e ({ frames := 0, cells := 0, slots := 0, locals := 0 } : Room) s m args below meth c H locs 0 0 (MQ below (hq_QI D sc_cl ca 64 (sc_sh rl) B r M9 hm_L0) args s 0 0 (hm_A B 64)) (F0 m 32 ls []) := by
  obtain ⟨hx, hb, hml, hown, hr, hlk, hKt⟩ := id X
  have hK := hKt.1
  have hts : ∀ w ∈ hq_tb, w.before args s = true := fun w h => hKt.2.2 w h args
  intro  M H locs ls hl hP hS hf
  unfold f_Plan_isUsedAs_32 at hf
  refine lv_iconst (v := 0) hx hb d_Plan_isUsedAs_32 (by decide) ?_
  exact w_Plan_isUsedAs_33 X _ _ _ _ _ (lv_sub hl [] rfl) hP hS hf
set_option maxHeartbeats 4000000 in
set_option maxRecDepth 100000 in
theorem w_Plan_isUsedAs_e {p : Program} {l : Launch} {e : Env} {s : State} {m : MethodId} {args : Array Value} {below : List Frame} {meth : Method} {c : Code} {D : va_G} {ca : Nat → ClassId} {B rl : Nat} {r : Int32} {M9 : hm_M} (X : hq_X p s m args meth c b_Plan_isUsedAs R_Plan 3 (some .boolean) D sc_cl (sc_ty ca) hq_tb) : ∀ (x1 : Int32), ∀ (x2 : Int32), ∀ (M : hm_M) (H : Heap) (locs : List Loc) (ls : Array Slot), lv_has ls 3 [(0, .ref (B + 37)), (1, .int x1), (2, .int x2)] → hm_P D sc_cl ca 64 (sc_sh rl) B M hm_L0 H → va_S (hm_A B 64) s.heap H locs → f_Plan_isUsedAs M x1 x2 = some (r, M9) → W p l e ({ frames := 0, cells := 0, slots := 0, locals := 0 } : Room) s m args below meth c H locs 0 0 (MQ below (hq_QI D sc_cl ca 64 (sc_sh rl) B r M9 hm_L0) args s 0 0 (hm_A B 64)) (F0 m 0 ls []) := by
  obtain ⟨hx, hb, hml, hown, hr, hlk, hKt⟩ := id X
  have hK := hKt.1
  have hts : ∀ w ∈ hq_tb, w.before args s = true := fun w h => hKt.2.2 w h args
  intro x1 x2 M H locs ls hl hP hS hf
  unfold f_Plan_isUsedAs at hf
  refine lv_aload_n hx hb d_Plan_isUsedAs_0 rfl (lv_at hl 0 rfl) ?_
  refine hq_get hx hb hts i_Plan hown hK hP 37 (by decide) (sc_s_Plan (rfl)) rfl 1 (by decide) (hts _ sc_wd_49) (fun _ h => h) (v := .ref (B + 38)) rfl d_Plan_isUsedAs_1 ?_
  refine hq_getN hx hb hts i_Needs hown hK hP 38 (by decide) (sc_s_Needs (rfl)) rfl 0 (by decide) (hts _ sc_wd_50) (fun _ h => h) (v := .ref (B + 39)) rfl d_Plan_isUsedAs_4 ?_
  refine lv_iload_n hx hb d_Plan_isUsedAs_7 rfl (lv_at hl 1 rfl) ?_
  obtain ⟨g1, hf⟩ := hm_gd_some hf
  refine hq_zald hx hb hK hP 39 (by decide) (sc_s_za8 (rfl)) 1 rfl g1 d_Plan_isUsedAs_8 ?_
  refine lv_if_eq (tgt := 32) hx hb d_Plan_isUsedAs_9 (by decide) (fun c2 => ?_) (fun c2 => ?_)
  · replace hf := (if_pos c2).symm.trans hf
    exact w_Plan_isUsedAs_32 X _ _ _ _ (lv_sub hl [] rfl) hP hS hf
  · replace hf := (if_neg c2).symm.trans hf
    refine lv_aload_n hx hb d_Plan_isUsedAs_12 rfl (lv_at hl 0 rfl) ?_
    refine hq_get hx hb hts i_Plan hown hK hP 37 (by decide) (sc_s_Plan (rfl)) rfl 0 (by decide) (hts _ sc_wd_51) (fun _ h => h) (v := .ref (B + 1)) rfl d_Plan_isUsedAs_13 ?_
    refine hq_getN hx hb hts i_Pipe hown hK hP 1 (by decide) (sc_s_Pipe (rfl)) rfl 1 (by decide) (hts _ sc_wd_52) (fun _ h => h) (v := .ref (B + 2)) rfl d_Plan_isUsedAs_16 ?_
    refine lv_iload_n hx hb d_Plan_isUsedAs_19 rfl (lv_at hl 1 rfl) ?_
    obtain ⟨g3, hf⟩ := hm_gd_some hf
    refine hq_aald hx hb hK hP 2 (by decide) (sc_s_starr (rfl)) 2 rfl rfl g3 d_Plan_isUsedAs_20 ?_
    refine hq_getN hx hb hts i_Stage hown hK hP (5 + 4 * x1.toNatClampNeg) (sc_lt (sck_st g3) (by decide)) (sc_s_Stage ((sck_st g3))) rfl 2 (by decide) (hts _ sc_wd_53) (fun _ h => h) (v := .int (M (5 + 4 * x1.toNatClampNeg) 2)) rfl d_Plan_isUsedAs_21 ?_
    refine lv_iload_n hx hb d_Plan_isUsedAs_24 rfl (lv_at hl 2 rfl) ?_
    refine lv_icmp_ne (tgt := 32) hx hb d_Plan_isUsedAs_25 (by decide) (fun c4 => ?_) (fun c4 => ?_)
    · replace hf := (if_neg c4).symm.trans hf
      exact w_Plan_isUsedAs_32 X _ _ _ _ (lv_sub hl [] rfl) hP hS hf
    · replace hf := (if_pos c4).symm.trans hf
      refine lv_iconst (v := 1) hx hb d_Plan_isUsedAs_28 (by decide) ?_
      refine lv_goto (tgt := 33) hx hb d_Plan_isUsedAs_29 (by decide) ?_
      exact w_Plan_isUsedAs_33 X _ _ _ _ _ (lv_sub hl [] rfl) hP hS hf
set_option maxHeartbeats 4000000 in
set_option maxRecDepth 100000 in
theorem c_Plan_isUsedAs {l : Launch} {D : va_G} {ca : Nat → ClassId} {B rl : Nat} {r : Int32} {x1 : Int32} {x2 : Int32} {M M9 : hm_M} (hf : f_Plan_isUsedAs M x1 x2 = some (r, M9)) : Met l y_Plan_isUsedAs [Cond.code y_Plan_isUsedAs b_Plan_isUsedAs 3 (some .boolean)] ({ frames := 0, cells := 0, slots := 0, locals := 0 } : Room) (hq_Pre D sc_cl ca 64 (sc_sh rl) B (sc_ty ca) hq_tb M hm_L0 [.ref (B + 37), .int x1, .int x2]) (hq_QI D sc_cl ca 64 (sc_sh rl) B r M9 hm_L0) 0 0 (hm_A B 64) := by
  refine Met.ofW (cc := b_Plan_isUsedAs) (maxL := 3) (ret := (some .boolean)) (by decide +kernel) rfl ?_
  intro p e s m args below meth c s₁ Bd hml hv
  obtain ⟨rfl, hP, hK⟩ := hv
  have hl := lv_entry ([.ref (B + 37), .int x1, .int x2]) (n := 3) (Nat.le_of_ble_eq_true rfl)
  rw [lg_entry_eq]
  generalize (lg_sl ([.ref (B + 37), .int x1, .int x2]) ++ List.replicate (3 - (lg_sl ([.ref (B + 37), .int x1, .int x2])).length) Slot.unset).toArray = ls at hl ⊢
  have hl : lv_has ls 3 [(0, .ref (B + 37)), (1, .int x1), (2, .int x2)] := hl
  exact w_Plan_isUsedAs_e ⟨Bd.exec, Bd.bytes, hml, findClass_of_methodNamed Bd.named, Bd.returns, Bd.notSynchronized, hK⟩  _ _ _ _ _ _ hl hP va_S.rf hf
set_option maxHeartbeats 4000000 in
set_option maxRecDepth 100000 in
theorem w_Plan_usedCount_28 {p : Program} {l : Launch} {e : Env} {s : State} {m : MethodId} {args : Array Value} {below : List Frame} {meth : Method} {c : Code} {D : va_G} {ca : Nat → ClassId} {B rl : Nat} {r : Int32} {M9 : hm_M} (X : hq_X p s m args meth c b_Plan_usedCount R_Plan 3 (some .int) D sc_cl (sc_ty ca) hq_tb) {k4 : Int32 → Int32 → hm_M → Option (Int32 × hm_M)} (hk4 : ∀ (x1 : Int32), ∀ (x2 : Int32), ∀ (M : hm_M) (H : Heap) (locs : List Loc) (ls : Array Slot), lv_has ls 3 [(0, .ref (B + 37)), (1, .int x1), (2, .int x2)] → hm_P D sc_cl ca 64 (sc_sh rl) B M hm_L0 H → va_S (hm_A B 64) s.heap H locs → k4 x1 x2 M = some (r, M9) → W p l e ({ frames := 0, cells := 0, slots := 0, locals := 0 } : Room) s m args below meth c H locs 0 0 (MQ below (hq_QI D sc_cl ca 64 (sc_sh rl) B r M9 hm_L0) args s 0 0 (hm_A B 64)) (F0 m 4 ls [])) : ∀ (x2 : Int32), ∀ (y0 : Int32), ∀ (y1 : Int32), ∀ (M : hm_M) (H : Heap) (locs : List Loc) (ls : Array Slot), lv_has ls 3 [(0, .ref (B + 37)), (2, .int x2)] → hm_P D sc_cl ca 64 (sc_sh rl) B M hm_L0 H → va_S (hm_A B 64) s.heap H locs → f_Plan_usedCount_28 k4 x2 y0 y1 M = some (r, M9) → W p l e ({ frames := 0, cells := 0, slots := 0, locals := 0 } : Room) s m args below meth c H locs 0 0 (MQ below (hq_QI D sc_cl ca 64 (sc_sh rl) B r M9 hm_L0) args s 0 0 (hm_A B 64)) (F0 m 28 ls [.int y1, .int y0]) := by
  obtain ⟨hx, hb, hml, hown, hr, hlk, hKt⟩ := id X
  have hK := hKt.1
  have hts : ∀ w ∈ hq_tb, w.before args s = true := fun w h => hKt.2.2 w h args
  intro x2 y0 y1 M H locs ls hl hP hS hf
  unfold f_Plan_usedCount_28 at hf
  refine lv_iadd hx hb d_Plan_usedCount_28 ?_
  refine lv_istore_n (lv' := [(1, .int (y0 + y1)), (0, .ref (B + 37)), (2, .int x2)]) hx hb d_Plan_usedCount_29 rfl hl (by decide) rfl (fun ls hl => ?_)
  refine lv_iinc (v := (x2 + 1)) (lv' := [(2, .int (x2 + 1)), (1, .int (y0 + y1)), (0, .ref (B + 37))]) hx hb d_Plan_usedCount_30 hl (k := 2) rfl rfl (by decide) rfl (fun ls hl => ?_)
  refine lv_goto (tgt := 4) hx hb d_Plan_usedCount_33 (by decide) ?_
  exact hk4 _ _ _ _ _ _ (lv_sub hl [2, 1, 0] rfl) hP hS hf
set_option maxHeartbeats 4000000 in
set_option maxRecDepth 100000 in
theorem w_Plan_usedCount_4 {p : Program} {l : Launch} {e : Env} {s : State} {m : MethodId} {args : Array Value} {below : List Frame} {meth : Method} {c : Code} {D : va_G} {ca : Nat → ClassId} {B rl : Nat} {r : Int32} {M9 : hm_M} (X : hq_X p s m args meth c b_Plan_usedCount R_Plan 3 (some .int) D sc_cl (sc_ty ca) hq_tb) : ∀ (n : Nat), ∀ (x1 : Int32), ∀ (x2 : Int32), ∀ (M : hm_M) (H : Heap) (locs : List Loc) (ls : Array Slot), lv_has ls 3 [(0, .ref (B + 37)), (1, .int x1), (2, .int x2)] → hm_P D sc_cl ca 64 (sc_sh rl) B M hm_L0 H → va_S (hm_A B 64) s.heap H locs → f_Plan_usedCount_4 n x1 x2 M = some (r, M9) → W p l e ({ frames := 0, cells := 0, slots := 0, locals := 0 } : Room) s m args below meth c H locs 0 0 (MQ below (hq_QI D sc_cl ca 64 (sc_sh rl) B r M9 hm_L0) args s 0 0 (hm_A B 64)) (F0 m 4 ls []) := by
  obtain ⟨hx, hb, hml, hown, hr, hlk, hKt⟩ := id X
  have hK := hKt.1
  have hts : ∀ w ∈ hq_tb, w.before args s = true := fun w h => hKt.2.2 w h args
  intro n
  induction n with
  | zero =>
    intro x1 x2 M H locs ls hl hP hS hf
    cases hf
  | succ n ih =>
    intro x1 x2 M H locs ls hl hP hS hf
    rw [f_Plan_usedCount_4] at hf
    refine lv_iload_n hx hb d_Plan_usedCount_4 rfl (lv_at hl 2 rfl) ?_
    refine lv_bipush (v := 8) hx hb d_Plan_usedCount_5 (by decide) ?_
    refine lv_icmp_ge (tgt := 36) hx hb d_Plan_usedCount_7 (by decide) (fun c1 => ?_) (fun c1 => ?_)
    · replace hf := (if_pos c1).symm.trans hf
      refine lv_iload_n hx hb d_Plan_usedCount_36 rfl (lv_at hl 1 rfl) ?_
      obtain ⟨h9, h8⟩ := Prod.mk.inj (Option.some.inj hf)
      subst h9
      subst h8
      exact W.iret hx hb hr (fun t ht _ => ⟨⟨_, (), rfl, rfl, by subst ht; exact hP⟩, hS.F ht⟩) hS.2.2 d_Plan_usedCount_37 hlk
    · replace hf := (if_neg c1).symm.trans hf
      refine lv_iload_n hx hb d_Plan_usedCount_10 rfl (lv_at hl 1 rfl) ?_
      refine lv_aload_n hx hb d_Plan_usedCount_11 rfl (lv_at hl 0 rfl) ?_
      refine hq_get hx hb hts i_Plan hown hK hP 37 (by decide) (sc_s_Plan (rfl)) rfl 1 (by decide) (hts _ sc_wd_49) (fun _ h => h) (v := .ref (B + 38)) rfl d_Plan_usedCount_12 ?_
      refine hq_getN hx hb hts i_Needs hown hK hP 38 (by decide) (sc_s_Needs (rfl)) rfl 0 (by decide) (hts _ sc_wd_50) (fun _ h => h) (v := .ref (B + 39)) rfl d_Plan_usedCount_15 ?_
      refine lv_iload_n hx hb d_Plan_usedCount_18 rfl (lv_at hl 2 rfl) ?_
      obtain ⟨g2, hf⟩ := hm_gd_some hf
      refine hq_zald hx hb hK hP 39 (by decide) (sc_s_za8 (rfl)) 1 rfl g2 d_Plan_usedCount_19 ?_
      refine lv_if_eq (tgt := 27) hx hb d_Plan_usedCount_20 (by decide) (fun c3 => ?_) (fun c3 => ?_)
      · replace hf := (if_pos c3).symm.trans hf
        refine lv_iconst (v := 0) hx hb d_Plan_usedCount_27 (by decide) ?_
        exact w_Plan_usedCount_28 X ih _ _ _ _ _ _ _ (lv_sub hl [0, 2] rfl) hP hS hf
      · replace hf := (if_neg c3).symm.trans hf
        refine lv_iconst (v := 1) hx hb d_Plan_usedCount_23 (by decide) ?_
        refine lv_goto (tgt := 28) hx hb d_Plan_usedCount_24 (by decide) ?_
        exact w_Plan_usedCount_28 X ih _ _ _ _ _ _ _ (lv_sub hl [0, 2] rfl) hP hS hf
set_option maxHeartbeats 4000000 in
set_option maxRecDepth 100000 in
theorem w_Plan_usedCount_e {p : Program} {l : Launch} {e : Env} {s : State} {m : MethodId} {args : Array Value} {below : List Frame} {meth : Method} {c : Code} {D : va_G} {ca : Nat → ClassId} {B rl : Nat} {r : Int32} {M9 : hm_M} (X : hq_X p s m args meth c b_Plan_usedCount R_Plan 3 (some .int) D sc_cl (sc_ty ca) hq_tb) : ∀ (M : hm_M) (H : Heap) (locs : List Loc) (ls : Array Slot), lv_has ls 3 [(0, .ref (B + 37))] → hm_P D sc_cl ca 64 (sc_sh rl) B M hm_L0 H → va_S (hm_A B 64) s.heap H locs → f_Plan_usedCount M = some (r, M9) → W p l e ({ frames := 0, cells := 0, slots := 0, locals := 0 } : Room) s m args below meth c H locs 0 0 (MQ below (hq_QI D sc_cl ca 64 (sc_sh rl) B r M9 hm_L0) args s 0 0 (hm_A B 64)) (F0 m 0 ls []) := by
  obtain ⟨hx, hb, hml, hown, hr, hlk, hKt⟩ := id X
  have hK := hKt.1
  have hts : ∀ w ∈ hq_tb, w.before args s = true := fun w h => hKt.2.2 w h args
  intro  M H locs ls hl hP hS hf
  unfold f_Plan_usedCount at hf
  refine lv_iconst (v := 0) hx hb d_Plan_usedCount_0 (by decide) ?_
  refine lv_istore_n (lv' := [(1, .int 0), (0, .ref (B + 37))]) hx hb d_Plan_usedCount_1 rfl hl (by decide) rfl (fun ls hl => ?_)
  refine lv_iconst (v := 0) hx hb d_Plan_usedCount_2 (by decide) ?_
  refine lv_istore_n (lv' := [(2, .int 0), (1, .int 0), (0, .ref (B + 37))]) hx hb d_Plan_usedCount_3 rfl hl (by decide) rfl (fun ls hl => ?_)
  exact w_Plan_usedCount_4 X _ _ _ _ _ _ _ (lv_sub hl [2, 1, 0] rfl) hP hS hf
set_option maxHeartbeats 4000000 in
set_option maxRecDepth 100000 in
theorem c_Plan_usedCount {l : Launch} {D : va_G} {ca : Nat → ClassId} {B rl : Nat} {r : Int32} {M M9 : hm_M} (hf : f_Plan_usedCount M  = some (r, M9)) : Met l y_Plan_usedCount [Cond.code y_Plan_usedCount b_Plan_usedCount 3 (some .int)] ({ frames := 0, cells := 0, slots := 0, locals := 0 } : Room) (hq_Pre D sc_cl ca 64 (sc_sh rl) B (sc_ty ca) hq_tb M hm_L0 [.ref (B + 37)]) (hq_QI D sc_cl ca 64 (sc_sh rl) B r M9 hm_L0) 0 0 (hm_A B 64) := by
  refine Met.ofW (cc := b_Plan_usedCount) (maxL := 3) (ret := (some .int)) (by decide +kernel) rfl ?_
  intro p e s m args below meth c s₁ Bd hml hv
  obtain ⟨rfl, hP, hK⟩ := hv
  have hl := lv_entry ([.ref (B + 37)]) (n := 3) (Nat.le_of_ble_eq_true rfl)
  rw [lg_entry_eq]
  generalize (lg_sl ([.ref (B + 37)]) ++ List.replicate (3 - (lg_sl ([.ref (B + 37)])).length) Slot.unset).toArray = ls at hl ⊢
  have hl : lv_has ls 3 [(0, .ref (B + 37))] := hl
  exact w_Plan_usedCount_e ⟨Bd.exec, Bd.bytes, hml, findClass_of_methodNamed Bd.named, Bd.returns, Bd.notSynchronized, hK⟩   _ _ _ _ hl hP va_S.rf hf
set_option maxHeartbeats 4000000 in
set_option maxRecDepth 100000 in
theorem w_Plan_hasTiledToWorkOut_59 {p : Program} {l : Launch} {e : Env} {s : State} {m : MethodId} {args : Array Value} {below : List Frame} {meth : Method} {c : Code} {D : va_G} {ca : Nat → ClassId} {B rl : Nat} {r : Int32} {M9 : hm_M} (X : hq_X p s m args meth c b_Plan_hasTiledToWorkOut R_Plan 5 (some .boolean) D sc_cl (sc_ty ca) hq_tb) : ∀ (M : hm_M) (H : Heap) (locs : List Loc) (ls : Array Slot), lv_has ls 5 [] → hm_P D sc_cl ca 64 (sc_sh rl) B M hm_L0 H → va_S (hm_A B 64) s.heap H locs → f_Plan_hasTiledToWorkOut_59 M = some (r, M9) → W p l e ({ frames := 0, cells := 0, slots := 0, locals := 0 } : Room) s m args below meth c H locs 0 0 (MQ below (hq_QI D sc_cl ca 64 (sc_sh rl) B r M9 hm_L0) args s 0 0 (hm_A B 64)) (F0 m 59 ls []) := by
  obtain ⟨hx, hb, hml, hown, hr, hlk, hKt⟩ := id X
  have hK := hKt.1
  have hts : ∀ w ∈ hq_tb, w.before args s = true := fun w h => hKt.2.2 w h args
  intro  M H locs ls hl hP hS hf
  unfold f_Plan_hasTiledToWorkOut_59 at hf
  refine lv_iconst (v := 1) hx hb d_Plan_hasTiledToWorkOut_59 (by decide) ?_
  obtain ⟨g1, hf⟩ := hm_gd_some hf
  obtain ⟨h9, h8⟩ := Prod.mk.inj (Option.some.inj hf)
  subst h9
  subst h8
  exact W.zret (ty := .boolean) hx hb hr (hq_nb2 (of_decide_eq_true g1)) (fun t ht _ => ⟨⟨_, (), rfl, rfl, by subst ht; exact hP⟩, hS.F ht⟩) hS.2.2 d_Plan_hasTiledToWorkOut_60 hlk
set_option maxHeartbeats 4000000 in
set_option maxRecDepth 100000 in
theorem w_Plan_hasTiledToWorkOut_61 {p : Program} {l : Launch} {e : Env} {s : State} {m : MethodId} {args : Array Value} {below : List Frame} {meth : Method} {c : Code} {D : va_G} {ca : Nat → ClassId} {B rl : Nat} {r : Int32} {M9 : hm_M} (X : hq_X p s m args meth c b_Plan_hasTiledToWorkOut R_Plan 5 (some .boolean) D sc_cl (sc_ty ca) hq_tb) {k2 : Nat → Int32 → hm_M → Option (Int32 × hm_M)} (hk2 : ∀ (a1 : Nat), ∀ (x2 : Int32), sc_kd a1 = 5 → ∀ (M : hm_M) (H : Heap) (locs : List Loc) (ls : Array Slot), lv_has ls 5 [(0, .ref (B + 37)), (1, .ref (B + a1)), (2, .int x2)] → hm_P D sc_cl ca 64 (sc_sh rl) B M hm_L0 H → va_S (hm_A B 64) s.heap H locs → k2 a1 x2 M = some (r, M9) → W p l e ({ frames := 0, cells := 0, slots := 0, locals := 0 } : Room) s m args below meth c H locs 0 0 (MQ below (hq_QI D sc_cl ca 64 (sc_sh rl) B r M9 hm_L0) args s 0 0 (hm_A B 64)) (F0 m 2 ls [])) : ∀ (a1 : Nat), ∀ (x2 : Int32), sc_kd a1 = 5 → ∀ (M : hm_M) (H : Heap) (locs : List Loc) (ls : Array Slot), lv_has ls 5 [(0, .ref (B + 37)), (1, .ref (B + a1)), (2, .int x2)] → hm_P D sc_cl ca 64 (sc_sh rl) B M hm_L0 H → va_S (hm_A B 64) s.heap H locs → f_Plan_hasTiledToWorkOut_61 k2 a1 x2 M = some (r, M9) → W p l e ({ frames := 0, cells := 0, slots := 0, locals := 0 } : Room) s m args below meth c H locs 0 0 (MQ below (hq_QI D sc_cl ca 64 (sc_sh rl) B r M9 hm_L0) args s 0 0 (hm_A B 64)) (F0 m 61 ls []) := by
  obtain ⟨hx, hb, hml, hown, hr, hlk, hKt⟩ := id X
  have hK := hKt.1
  have hts : ∀ w ∈ hq_tb, w.before args s = true := fun w h => hKt.2.2 w h args
  intro a1 x2 h_a1 M H locs ls hl hP hS hf
  unfold f_Plan_hasTiledToWorkOut_61 at hf
  refine lv_iinc (v := (x2 + 1)) (lv' := [(2, .int (x2 + 1)), (0, .ref (B + 37)), (1, .ref (B + a1))]) hx hb d_Plan_hasTiledToWorkOut_61 hl (k := 2) rfl rfl (by decide) rfl (fun ls hl => ?_)
  refine lv_goto (tgt := 2) hx hb d_Plan_hasTiledToWorkOut_64 (by decide) ?_
  exact hk2 _ _ h_a1 _ _ _ _ (lv_sub hl [1, 2, 0] rfl) hP hS hf
set_option maxHeartbeats 4000000 in
set_option maxRecDepth 100000 in
theorem w_Plan_hasTiledToWorkOut_2 {p : Program} {l : Launch} {e : Env} {s : State} {m : MethodId} {args : Array Value} {below : List Frame} {meth : Method} {c : Code} {D : va_G} {ca : Nat → ClassId} {B rl : Nat} {r : Int32} {M9 : hm_M} (X : hq_X p s m args meth c b_Plan_hasTiledToWorkOut R_Plan 5 (some .boolean) D sc_cl (sc_ty ca) hq_tb) : ∀ (n : Nat), ∀ (a1 : Nat), ∀ (x2 : Int32), sc_kd a1 = 5 → ∀ (M : hm_M) (H : Heap) (locs : List Loc) (ls : Array Slot), lv_has ls 5 [(0, .ref (B + 37)), (1, .ref (B + a1)), (2, .int x2)] → hm_P D sc_cl ca 64 (sc_sh rl) B M hm_L0 H → va_S (hm_A B 64) s.heap H locs → f_Plan_hasTiledToWorkOut_2 n a1 x2 M = some (r, M9) → W p l e ({ frames := 0, cells := 0, slots := 0, locals := 0 } : Room) s m args below meth c H locs 0 0 (MQ below (hq_QI D sc_cl ca 64 (sc_sh rl) B r M9 hm_L0) args s 0 0 (hm_A B 64)) (F0 m 2 ls []) := by
  obtain ⟨hx, hb, hml, hown, hr, hlk, hKt⟩ := id X
  have hK := hKt.1
  have hts : ∀ w ∈ hq_tb, w.before args s = true := fun w h => hKt.2.2 w h args
  intro n
  induction n with
  | zero =>
    intro a1 x2 h_a1 M H locs ls hl hP hS hf
    cases hf
  | succ n ih =>
    intro a1 x2 h_a1 M H locs ls hl hP hS hf
    rw [f_Plan_hasTiledToWorkOut_2] at hf
    refine lv_iload_n hx hb d_Plan_hasTiledToWorkOut_2 rfl (lv_at hl 2 rfl) ?_
    refine lv_aload_n hx hb d_Plan_hasTiledToWorkOut_3 rfl (lv_at hl 1 rfl) ?_
    refine hq_getN hx hb hts i_Stage hown hK hP a1 (sc_lt h_a1 (by decide)) (sc_s_Stage (h_a1)) rfl 3 (by decide) (hts _ sc_wd_54) (fun _ h => h) (v := .int (M a1 3)) rfl d_Plan_hasTiledToWorkOut_4 ?_
    refine lv_icmp_ge (tgt := 67) hx hb d_Plan_hasTiledToWorkOut_7 (by decide) (fun c1 => ?_) (fun c1 => ?_)
    · replace hf := (if_pos c1).symm.trans hf
      refine lv_iconst (v := 0) hx hb d_Plan_hasTiledToWorkOut_67 (by decide) ?_
      obtain ⟨g2, hf⟩ := hm_gd_some hf
      obtain ⟨h9, h8⟩ := Prod.mk.inj (Option.some.inj hf)
      subst h9
      subst h8
      exact W.zret (ty := .boolean) hx hb hr (hq_nb2 (of_decide_eq_true g2)) (fun t ht _ => ⟨⟨_, (), rfl, rfl, by subst ht; exact hP⟩, hS.F ht⟩) hS.2.2 d_Plan_hasTiledToWorkOut_68 hlk
    · replace hf := (if_neg c1).symm.trans hf
      refine lv_aload_n hx hb d_Plan_hasTiledToWorkOut_10 rfl (lv_at hl 1 rfl) ?_
      refine hq_getN hx hb hts i_Stage hown hK hP a1 (sc_lt h_a1 (by decide)) (sc_s_Stage (h_a1)) rfl 4 (by decide) (hts _ sc_wd_55) (fun _ h => h) (v := .ref (B + (a1 + 1))) rfl d_Plan_hasTiledToWorkOut_11 ?_
      refine lv_iload_n hx hb d_Plan_hasTiledToWorkOut_14 rfl (lv_at hl 2 rfl) ?_
      obtain ⟨g3, hf⟩ := hm_gd_some hf
      refine hq_iald hx hb hK hP (a1 + 1) (sc_lt (sck_Stage1 h_a1) (by decide)) (sc_s_ia4 ((sck_Stage1 h_a1))) 0 rfl g3 d_Plan_hasTiledToWorkOut_15 ?_
      refine lv_istore_n (lv' := [(3, .int (M (a1 + 1) x2.toNatClampNeg)), (0, .ref (B + 37)), (1, .ref (B + a1)), (2, .int x2)]) hx hb d_Plan_hasTiledToWorkOut_16 rfl hl (by decide) rfl (fun ls hl => ?_)
      refine lv_iload_n hx hb d_Plan_hasTiledToWorkOut_17 rfl (lv_at hl 0 rfl) ?_
      refine lv_iconst (v := (-1)) hx hb d_Plan_hasTiledToWorkOut_18 (by decide) ?_
      refine lv_icmp_ne (tgt := 25) hx hb d_Plan_hasTiledToWorkOut_19 (by decide) (fun c4 => ?_) (fun c4 => ?_)
      · replace hf := (if_neg c4).symm.trans hf
        refine lv_aload_n hx hb d_Plan_hasTiledToWorkOut_25 rfl (lv_at hl 1 rfl) ?_
        refine hq_get hx hb hts i_Plan hown hK hP 37 (by decide) (sc_s_Plan (rfl)) rfl 0 (by decide) (hts _ sc_wd_51) (fun _ h => h) (v := .ref (B + 1)) rfl d_Plan_hasTiledToWorkOut_26 ?_
        refine hq_getN hx hb hts i_Pipe hown hK hP 1 (by decide) (sc_s_Pipe (rfl)) rfl 1 (by decide) (hts _ sc_wd_52) (fun _ h => h) (v := .ref (B + 2)) rfl d_Plan_hasTiledToWorkOut_29 ?_
        refine lv_iload_n hx hb d_Plan_hasTiledToWorkOut_32 rfl (lv_at hl 0 rfl) ?_
        obtain ⟨g5, hf⟩ := hm_gd_some hf
        refine hq_aald hx hb hK hP 2 (by decide) (sc_s_starr (rfl)) 2 rfl rfl g5 d_Plan_hasTiledToWorkOut_33 ?_
        refine hq_getN hx hb hts i_Stage hown hK hP (5 + 4 * (M (a1 + 1) x2.toNatClampNeg).toNatClampNeg) (sc_lt (sck_st g5) (by decide)) (sc_s_Stage ((sck_st g5))) rfl 2 (by decide) (hts _ sc_wd_53) (fun _ h => h) (v := .int (M (5 + 4 * (M (a1 + 1) x2.toNatClampNeg).toNatClampNeg) 2)) rfl d_Plan_hasTiledToWorkOut_34 ?_
        refine lv_istore (lv' := [(4, .int (M (5 + 4 * (M (a1 + 1) x2.toNatClampNeg).toNatClampNeg) 2)), (3, .int (M (a1 + 1) x2.toNatClampNeg)), (0, .ref (B + 37)), (1, .ref (B + a1)), (2, .int x2)]) hx hb d_Plan_hasTiledToWorkOut_37 hl (by decide) rfl (fun ls hl => ?_)
        refine lv_iload hx hb d_Plan_hasTiledToWorkOut_39 (lv_at hl 0 rfl) ?_
        refine lv_iconst (v := 2) hx hb d_Plan_hasTiledToWorkOut_41 (by decide) ?_
        refine lv_icmp_eq (tgt := 59) hx hb d_Plan_hasTiledToWorkOut_42 (by decide) (fun c6 => ?_) (fun c6 => ?_)
        · replace hf := (if_pos c6).symm.trans hf
          exact w_Plan_hasTiledToWorkOut_59 X _ _ _ _ (lv_sub hl [] rfl) hP hS hf
        · replace hf := (if_neg c6).symm.trans hf
          refine lv_iload hx hb d_Plan_hasTiledToWorkOut_45 (lv_at hl 0 rfl) ?_
          refine lv_if_ne (tgt := 61) hx hb d_Plan_hasTiledToWorkOut_47 (by decide) (fun c7 => ?_) (fun c7 => ?_)
          · replace hf := (if_neg c7).symm.trans hf
            exact w_Plan_hasTiledToWorkOut_61 X ih _ _ h_a1 _ _ _ _ (lv_sub hl [2, 3, 4] rfl) hP hS hf
          · replace hf := (if_pos c7).symm.trans hf
            refine lv_aload_n hx hb d_Plan_hasTiledToWorkOut_50 rfl (lv_at hl 2 rfl) ?_
            refine hq_get hx hb hts i_Plan hown hK hP 37 (by decide) (sc_s_Plan (rfl)) rfl 3 (by decide) (hts _ sc_wd_56) (fun _ h => h) (v := .ref (B + 46)) rfl d_Plan_hasTiledToWorkOut_51 ?_
            refine lv_iload_n hx hb d_Plan_hasTiledToWorkOut_54 rfl (lv_at hl 1 rfl) ?_
            obtain ⟨g8, hf⟩ := hm_gd_some hf
            refine hq_zald hx hb hK hP 46 (by decide) (sc_s_za8 (rfl)) 1 rfl g8 d_Plan_hasTiledToWorkOut_55 ?_
            refine lv_if_eq (tgt := 61) hx hb d_Plan_hasTiledToWorkOut_56 (by decide) (fun c9 => ?_) (fun c9 => ?_)
            · replace hf := (if_pos c9).symm.trans hf
              exact w_Plan_hasTiledToWorkOut_61 X ih _ _ h_a1 _ _ _ _ (lv_sub hl [2, 3, 4] rfl) hP hS hf
            · replace hf := (if_neg c9).symm.trans hf
              exact w_Plan_hasTiledToWorkOut_59 X _ _ _ _ (lv_sub hl [] rfl) hP hS hf
      · replace hf := (if_pos c4).symm.trans hf
        refine lv_goto (tgt := 61) hx hb d_Plan_hasTiledToWorkOut_22 (by decide) ?_
        exact w_Plan_hasTiledToWorkOut_61 X ih _ _ h_a1 _ _ _ _ (lv_sub hl [1, 2, 3] rfl) hP hS hf
set_option maxHeartbeats 4000000 in
set_option maxRecDepth 100000 in
theorem w_Plan_hasTiledToWorkOut_e {p : Program} {l : Launch} {e : Env} {s : State} {m : MethodId} {args : Array Value} {below : List Frame} {meth : Method} {c : Code} {D : va_G} {ca : Nat → ClassId} {B rl : Nat} {r : Int32} {M9 : hm_M} (X : hq_X p s m args meth c b_Plan_hasTiledToWorkOut R_Plan 5 (some .boolean) D sc_cl (sc_ty ca) hq_tb) : ∀ (a1 : Nat), sc_kd a1 = 5 → ∀ (M : hm_M) (H : Heap) (locs : List Loc) (ls : Array Slot), lv_has ls 5 [(0, .ref (B + 37)), (1, .ref (B + a1))] → hm_P D sc_cl ca 64 (sc_sh rl) B M hm_L0 H → va_S (hm_A B 64) s.heap H locs → f_Plan_hasTiledToWorkOut M a1 = some (r, M9) → W p l e ({ frames := 0, cells := 0, slots := 0, locals := 0 } : Room) s m args below meth c H locs 0 0 (MQ below (hq_QI D sc_cl ca 64 (sc_sh rl) B r M9 hm_L0) args s 0 0 (hm_A B 64)) (F0 m 0 ls []) := by
  obtain ⟨hx, hb, hml, hown, hr, hlk, hKt⟩ := id X
  have hK := hKt.1
  have hts : ∀ w ∈ hq_tb, w.before args s = true := fun w h => hKt.2.2 w h args
  intro a1 h_a1 M H locs ls hl hP hS hf
  unfold f_Plan_hasTiledToWorkOut at hf
  refine lv_iconst (v := 0) hx hb d_Plan_hasTiledToWorkOut_0 (by decide) ?_
  refine lv_istore_n (lv' := [(2, .int 0), (0, .ref (B + 37)), (1, .ref (B + a1))]) hx hb d_Plan_hasTiledToWorkOut_1 rfl hl (by decide) rfl (fun ls hl => ?_)
  exact w_Plan_hasTiledToWorkOut_2 X _ _ _ h_a1 _ _ _ _ (lv_sub hl [1, 2, 0] rfl) hP hS hf
set_option maxHeartbeats 4000000 in
set_option maxRecDepth 100000 in
theorem c_Plan_hasTiledToWorkOut {l : Launch} {D : va_G} {ca : Nat → ClassId} {B rl : Nat} {r : Int32} {a1 : Nat} (h_a1 : sc_kd a1 = 5) {M M9 : hm_M} (hf : f_Plan_hasTiledToWorkOut M a1 = some (r, M9)) : Met l y_Plan_hasTiledToWorkOut [Cond.code y_Plan_hasTiledToWorkOut b_Plan_hasTiledToWorkOut 5 (some .boolean)] ({ frames := 0, cells := 0, slots := 0, locals := 0 } : Room) (hq_Pre D sc_cl ca 64 (sc_sh rl) B (sc_ty ca) hq_tb M hm_L0 [.ref (B + 37), .ref (B + a1)]) (hq_QI D sc_cl ca 64 (sc_sh rl) B r M9 hm_L0) 0 0 (hm_A B 64) := by
  refine Met.ofW (cc := b_Plan_hasTiledToWorkOut) (maxL := 5) (ret := (some .boolean)) (by decide +kernel) rfl ?_
  intro p e s m args below meth c s₁ Bd hml hv
  obtain ⟨rfl, hP, hK⟩ := hv
  have hl := lv_entry ([.ref (B + 37), .ref (B + a1)]) (n := 5) (Nat.le_of_ble_eq_true rfl)
  rw [lg_entry_eq]
  generalize (lg_sl ([.ref (B + 37), .ref (B + a1)]) ++ List.replicate (5 - (lg_sl ([.ref (B + 37), .ref (B + a1)])).length) Slot.unset).toArray = ls at hl ⊢
  have hl : lv_has ls 5 [(0, .ref (B + 37)), (1, .ref (B + a1))] := hl
  exact w_Plan_hasTiledToWorkOut_e ⟨Bd.exec, Bd.bytes, hml, findClass_of_methodNamed Bd.named, Bd.returns, Bd.notSynchronized, hK⟩  _ h_a1 _ _ _ _ hl hP va_S.rf hf
set_option maxHeartbeats 4000000 in
set_option maxRecDepth 100000 in
theorem w_Plan_leastRootThatAsksTiled_52 {p : Program} {l : Launch} {e : Env} {s : State} {m : MethodId} {args : Array Value} {below : List Frame} {meth : Method} {c : Code} {D : va_G} {ca : Nat → ClassId} {B rl : Nat} {r : Int32} {M9 : hm_M} (X : hq_X p s m args meth c b_Plan_leastRootThatAsksTiled R_Plan 2 (some .int) D sc_cl (sc_ty ca) hq_tb) {k2 : Int32 → hm_M → Option (Int32 × hm_M)} (hk2 : ∀ (x1 : Int32), ∀ (M : hm_M) (H : Heap) (locs : List Loc) (ls : Array Slot), lv_has ls 2 [(0, .ref (B + 37)), (1, .int x1)] → hm_P D sc_cl ca 64 (sc_sh rl) B M hm_L0 H → va_S (hm_A B 64) s.heap H locs → k2 x1 M = some (r, M9) → W p l e ({ frames := 1, cells := 0, slots := 0, locals := 24 } : Room) s m args below meth c H locs 0 0 (MQ below (hq_QI D sc_cl ca 64 (sc_sh rl) B r M9 hm_L0) args s 0 0 (hm_A B 64)) (F0 m 2 ls [])) : ∀ (x1 : Int32), ∀ (M : hm_M) (H : Heap) (locs : List Loc) (ls : Array Slot), lv_has ls 2 [(0, .ref (B + 37)), (1, .int x1)] → hm_P D sc_cl ca 64 (sc_sh rl) B M hm_L0 H → va_S (hm_A B 64) s.heap H locs → f_Plan_leastRootThatAsksTiled_52 k2 x1 M = some (r, M9) → W p l e ({ frames := 1, cells := 0, slots := 0, locals := 24 } : Room) s m args below meth c H locs 0 0 (MQ below (hq_QI D sc_cl ca 64 (sc_sh rl) B r M9 hm_L0) args s 0 0 (hm_A B 64)) (F0 m 52 ls []) := by
  obtain ⟨hx, hb, hml, hown, hr, hlk, hKt⟩ := id X
  have hK := hKt.1
  have hts : ∀ w ∈ hq_tb, w.before args s = true := fun w h => hKt.2.2 w h args
  intro x1 M H locs ls hl hP hS hf
  unfold f_Plan_leastRootThatAsksTiled_52 at hf
  refine lv_iinc (v := (x1 + 1)) (lv' := [(1, .int (x1 + 1)), (0, .ref (B + 37))]) hx hb d_Plan_leastRootThatAsksTiled_52 hl (k := 1) rfl rfl (by decide) rfl (fun ls hl => ?_)
  refine lv_goto (tgt := 2) hx hb d_Plan_leastRootThatAsksTiled_55 (by decide) ?_
  exact hk2 _ _ _ _ _ (lv_sub hl [1, 0] rfl) hP hS hf
set_option maxHeartbeats 4000000 in
set_option maxRecDepth 100000 in
theorem w_Plan_leastRootThatAsksTiled_2 {p : Program} {l : Launch} {e : Env} {s : State} {m : MethodId} {args : Array Value} {below : List Frame} {meth : Method} {c : Code} {D : va_G} {ca : Nat → ClassId} {B rl : Nat} {r : Int32} {M9 : hm_M} (X : hq_X p s m args meth c b_Plan_leastRootThatAsksTiled R_Plan 2 (some .int) D sc_cl (sc_ty ca) hq_tb) : ∀ (n : Nat), ∀ (x1 : Int32), ∀ (M : hm_M) (H : Heap) (locs : List Loc) (ls : Array Slot), lv_has ls 2 [(0, .ref (B + 37)), (1, .int x1)] → hm_P D sc_cl ca 64 (sc_sh rl) B M hm_L0 H → va_S (hm_A B 64) s.heap H locs → f_Plan_leastRootThatAsksTiled_2 n x1 M = some (r, M9) → W p l e ({ frames := 1, cells := 0, slots := 0, locals := 24 } : Room) s m args below meth c H locs 0 0 (MQ below (hq_QI D sc_cl ca 64 (sc_sh rl) B r M9 hm_L0) args s 0 0 (hm_A B 64)) (F0 m 2 ls []) := by
  obtain ⟨hx, hb, hml, hown, hr, hlk, hKt⟩ := id X
  have hK := hKt.1
  have hts : ∀ w ∈ hq_tb, w.before args s = true := fun w h => hKt.2.2 w h args
  intro n
  induction n with
  | zero =>
    intro x1 M H locs ls hl hP hS hf
    cases hf
  | succ n ih =>
    intro x1 M H locs ls hl hP hS hf
    rw [f_Plan_leastRootThatAsksTiled_2] at hf
    refine lv_iload_n hx hb d_Plan_leastRootThatAsksTiled_2 rfl (lv_at hl 1 rfl) ?_
    refine lv_aload_n hx hb d_Plan_leastRootThatAsksTiled_3 rfl (lv_at hl 0 rfl) ?_
    refine hq_get hx hb hts i_Plan hown hK hP 37 (by decide) (sc_s_Plan (rfl)) rfl 0 (by decide) (hts _ sc_wd_51) (fun _ h => h) (v := .ref (B + 1)) rfl d_Plan_leastRootThatAsksTiled_4 ?_
    refine hq_getN hx hb hts i_Pipe hown hK hP 1 (by decide) (sc_s_Pipe (rfl)) rfl 5 (by decide) (hts _ sc_wd_57) (fun _ h => h) (v := .int (M 1 5)) rfl d_Plan_leastRootThatAsksTiled_7 ?_
    refine lv_icmp_ge (tgt := 58) hx hb d_Plan_leastRootThatAsksTiled_10 (by decide) (fun c1 => ?_) (fun c1 => ?_)
    · replace hf := (if_pos c1).symm.trans hf
      refine lv_iconst (v := (-1)) hx hb d_Plan_leastRootThatAsksTiled_58 (by decide) ?_
      obtain ⟨h9, h8⟩ := Prod.mk.inj (Option.some.inj hf)
      subst h9
      subst h8
      exact W.iret hx hb hr (fun t ht _ => ⟨⟨_, (), rfl, rfl, by subst ht; exact hP⟩, hS.F ht⟩) hS.2.2 d_Plan_leastRootThatAsksTiled_59 hlk
    · replace hf := (if_neg c1).symm.trans hf
      refine lv_aload_n hx hb d_Plan_leastRootThatAsksTiled_13 rfl (lv_at hl 0 rfl) ?_
      refine hq_get hx hb hts i_Plan hown hK hP 37 (by decide) (sc_s_Plan (rfl)) rfl 3 (by decide) (hts _ sc_wd_56) (fun _ h => h) (v := .ref (B + 46)) rfl d_Plan_leastRootThatAsksTiled_14 ?_
      refine lv_iload_n hx hb d_Plan_leastRootThatAsksTiled_17 rfl (lv_at hl 1 rfl) ?_
      refine lv_aload_n hx hb d_Plan_leastRootThatAsksTiled_18 rfl (lv_at hl 0 rfl) ?_
      refine lv_aload_n hx hb d_Plan_leastRootThatAsksTiled_19 rfl (lv_at hl 0 rfl) ?_
      refine hq_get hx hb hts i_Plan hown hK hP 37 (by decide) (sc_s_Plan (rfl)) rfl 0 (by decide) (hts _ sc_wd_51) (fun _ h => h) (v := .ref (B + 1)) rfl d_Plan_leastRootThatAsksTiled_20 ?_
      refine hq_getN hx hb hts i_Pipe hown hK hP 1 (by decide) (sc_s_Pipe (rfl)) rfl 1 (by decide) (hts _ sc_wd_52) (fun _ h => h) (v := .ref (B + 2)) rfl d_Plan_leastRootThatAsksTiled_23 ?_
      refine lv_iload_n hx hb d_Plan_leastRootThatAsksTiled_26 rfl (lv_at hl 1 rfl) ?_
      obtain ⟨g2, hf⟩ := hm_gd_some hf
      refine hq_aald hx hb hK hP 2 (by decide) (sc_s_starr (rfl)) 2 rfl rfl g2 d_Plan_leastRootThatAsksTiled_27 ?_
      obtain ⟨r3, M_4, hc5, hf⟩ := hm_bI_some hf
      refine hq_callI (va_runV (As := [.ref (B + (5 + 4 * x1.toNatClampNeg))]) (rest := [.int x1, .ref (B + 46)]) ⟨hx, hb, hml, hown, hts⟩ (c_Plan_hasTiledToWorkOut (l := l) (D := D) (ca := ca) (B := B) (rl := rl) (sck_st g2) hc5) (hq_cwV (nn := 1) hts sc_wd_58 sc_wd_59 sc_wd_60 sc_wd_61 sc_wd_62 (by decide +kernel) rfl rfl ⟨(Nat.le_of_ble_eq_true rfl), (Nat.le_of_ble_eq_true rfl)⟩) (hq_preV hKt hP (by decide) (sc_s_Plan (rfl)) rfl) rfl rfl hl.1 rfl (lv_room (Nat.le_of_ble_eq_true rfl)) d_Plan_leastRootThatAsksTiled_28 ⟨(Nat.le_of_ble_eq_true rfl), (Nat.le_of_ble_eq_true rfl)⟩) hS (fun H locs hP hS => ?_)
      obtain ⟨g6, hf⟩ := hm_gd_some hf
      obtain ⟨g7, hf⟩ := hm_gd_some hf
      refine hq_zast hx hb hK hP hS 46 (by decide) (sc_s_za8 (rfl)) 1 rfl g6 (of_decide_eq_true g7) d_Plan_leastRootThatAsksTiled_31 (fun H locs hP hS => ?_)
      obtain ⟨M_8, e_8, hf⟩ := hm_st_some hf
      rw [← e_8] at hP
      refine lv_aload_n hx hb d_Plan_leastRootThatAsksTiled_32 rfl (lv_at hl 0 rfl) ?_
      refine lv_iload_n hx hb d_Plan_leastRootThatAsksTiled_33 rfl (lv_at hl 1 rfl) ?_
      refine lv_iconst (v := 1) hx hb d_Plan_leastRootThatAsksTiled_34 (by decide) ?_
      obtain ⟨r9, M_10, hc11, hf⟩ := hm_bI_some hf
      refine hq_callI (va_runV (As := [.int x1, .int 1]) (rest := []) ⟨hx, hb, hml, hown, hts⟩ (c_Plan_isUsedAs (l := l) (D := D) (ca := ca) (B := B) (rl := rl)  hc11) (hq_cwV (nn := 2) hts sc_wd_63 sc_wd_59 sc_wd_64 sc_wd_65 sc_wd_66 (by decide +kernel) rfl rfl ⟨(Nat.le_of_ble_eq_true rfl), (Nat.le_of_ble_eq_true rfl)⟩) (hq_preV hKt hP (by decide) (sc_s_Plan (rfl)) rfl) rfl rfl hl.1 rfl (lv_room (Nat.le_of_ble_eq_true rfl)) d_Plan_leastRootThatAsksTiled_35 ⟨(Nat.le_of_ble_eq_true rfl), (Nat.le_of_ble_eq_true rfl)⟩) hS (fun H locs hP hS => ?_)
      refine lv_if_eq (tgt := 52) hx hb d_Plan_leastRootThatAsksTiled_38 (by decide) (fun c12 => ?_) (fun c12 => ?_)
      · replace hf := (if_pos c12).symm.trans hf
        exact w_Plan_leastRootThatAsksTiled_52 X ih _ _ _ _ _ (lv_sub hl [0, 1] rfl) hP hS hf
      · replace hf := (if_neg c12).symm.trans hf
        refine lv_aload_n hx hb d_Plan_leastRootThatAsksTiled_41 rfl (lv_at hl 0 rfl) ?_
        refine hq_get hx hb hts i_Plan hown hK hP 37 (by decide) (sc_s_Plan (rfl)) rfl 3 (by decide) (hts _ sc_wd_56) (fun _ h => h) (v := .ref (B + 46)) rfl d_Plan_leastRootThatAsksTiled_42 ?_
        refine lv_iload_n hx hb d_Plan_leastRootThatAsksTiled_45 rfl (lv_at hl 1 rfl) ?_
        obtain ⟨g13, hf⟩ := hm_gd_some hf
        refine hq_zald hx hb hK hP 46 (by decide) (sc_s_za8 (rfl)) 1 rfl g13 d_Plan_leastRootThatAsksTiled_46 ?_
        refine lv_if_eq (tgt := 52) hx hb d_Plan_leastRootThatAsksTiled_47 (by decide) (fun c14 => ?_) (fun c14 => ?_)
        · replace hf := (if_pos c14).symm.trans hf
          exact w_Plan_leastRootThatAsksTiled_52 X ih _ _ _ _ _ (lv_sub hl [0, 1] rfl) hP hS hf
        · replace hf := (if_neg c14).symm.trans hf
          refine lv_iload_n hx hb d_Plan_leastRootThatAsksTiled_50 rfl (lv_at hl 1 rfl) ?_
          obtain ⟨h9, h8⟩ := Prod.mk.inj (Option.some.inj hf)
          subst h9
          subst h8
          exact W.iret hx hb hr (fun t ht _ => ⟨⟨_, (), rfl, rfl, by subst ht; exact hP⟩, hS.F ht⟩) hS.2.2 d_Plan_leastRootThatAsksTiled_51 hlk
set_option maxHeartbeats 4000000 in
set_option maxRecDepth 100000 in
theorem w_Plan_leastRootThatAsksTiled_e {p : Program} {l : Launch} {e : Env} {s : State} {m : MethodId} {args : Array Value} {below : List Frame} {meth : Method} {c : Code} {D : va_G} {ca : Nat → ClassId} {B rl : Nat} {r : Int32} {M9 : hm_M} (X : hq_X p s m args meth c b_Plan_leastRootThatAsksTiled R_Plan 2 (some .int) D sc_cl (sc_ty ca) hq_tb) : ∀ (M : hm_M) (H : Heap) (locs : List Loc) (ls : Array Slot), lv_has ls 2 [(0, .ref (B + 37))] → hm_P D sc_cl ca 64 (sc_sh rl) B M hm_L0 H → va_S (hm_A B 64) s.heap H locs → f_Plan_leastRootThatAsksTiled M = some (r, M9) → W p l e ({ frames := 1, cells := 0, slots := 0, locals := 24 } : Room) s m args below meth c H locs 0 0 (MQ below (hq_QI D sc_cl ca 64 (sc_sh rl) B r M9 hm_L0) args s 0 0 (hm_A B 64)) (F0 m 0 ls []) := by
  obtain ⟨hx, hb, hml, hown, hr, hlk, hKt⟩ := id X
  have hK := hKt.1
  have hts : ∀ w ∈ hq_tb, w.before args s = true := fun w h => hKt.2.2 w h args
  intro  M H locs ls hl hP hS hf
  unfold f_Plan_leastRootThatAsksTiled at hf
  refine lv_iconst (v := 0) hx hb d_Plan_leastRootThatAsksTiled_0 (by decide) ?_
  refine lv_istore_n (lv' := [(1, .int 0), (0, .ref (B + 37))]) hx hb d_Plan_leastRootThatAsksTiled_1 rfl hl (by decide) rfl (fun ls hl => ?_)
  exact w_Plan_leastRootThatAsksTiled_2 X _ _ _ _ _ _ (lv_sub hl [1, 0] rfl) hP hS hf
set_option maxHeartbeats 4000000 in
set_option maxRecDepth 100000 in
theorem c_Plan_leastRootThatAsksTiled {l : Launch} {D : va_G} {ca : Nat → ClassId} {B rl : Nat} {r : Int32} {M M9 : hm_M} (hf : f_Plan_leastRootThatAsksTiled M  = some (r, M9)) : Met l y_Plan_leastRootThatAsksTiled [Cond.code y_Plan_leastRootThatAsksTiled b_Plan_leastRootThatAsksTiled 2 (some .int)] ({ frames := 1, cells := 0, slots := 0, locals := 24 } : Room) (hq_Pre D sc_cl ca 64 (sc_sh rl) B (sc_ty ca) hq_tb M hm_L0 [.ref (B + 37)]) (hq_QI D sc_cl ca 64 (sc_sh rl) B r M9 hm_L0) 0 0 (hm_A B 64) := by
  refine Met.ofW (cc := b_Plan_leastRootThatAsksTiled) (maxL := 2) (ret := (some .int)) (by decide +kernel) rfl ?_
  intro p e s m args below meth c s₁ Bd hml hv
  obtain ⟨rfl, hP, hK⟩ := hv
  have hl := lv_entry ([.ref (B + 37)]) (n := 2) (Nat.le_of_ble_eq_true rfl)
  rw [lg_entry_eq]
  generalize (lg_sl ([.ref (B + 37)]) ++ List.replicate (2 - (lg_sl ([.ref (B + 37)])).length) Slot.unset).toArray = ls at hl ⊢
  have hl : lv_has ls 2 [(0, .ref (B + 37))] := hl
  exact w_Plan_leastRootThatAsksTiled_e ⟨Bd.exec, Bd.bytes, hml, findClass_of_methodNamed Bd.named, Bd.returns, Bd.notSynchronized, hK⟩   _ _ _ _ hl hP va_S.rf hf
set_option maxHeartbeats 4000000 in
set_option maxRecDepth 100000 in
theorem w_Plan_measureOutput_e {p : Program} {l : Launch} {e : Env} {s : State} {m : MethodId} {args : Array Value} {below : List Frame} {meth : Method} {c : Code} {D : va_G} {ca : Nat → ClassId} {B rl : Nat} {M9 : hm_M} (X : hq_X p s m args meth c b_Plan_measureOutput R_Plan 1 none D sc_cl (sc_ty ca) hq_tb) : ∀ (M : hm_M) (H : Heap) (locs : List Loc) (ls : Array Slot), lv_has ls 1 [(0, .ref (B + 37))] → hm_P D sc_cl ca 64 (sc_sh rl) B M hm_L0 H → va_S (hm_A B 64) s.heap H locs → f_Plan_measureOutput M = some M9 → W p l e ({ frames := 0, cells := 0, slots := 0, locals := 0 } : Room) s m args below meth c H locs 0 0 (MQ below (hq_QV D sc_cl ca 64 (sc_sh rl) B M9 hm_L0) args s 0 0 (hm_A B 64)) (F0 m 0 ls []) := by
  obtain ⟨hx, hb, hml, hown, hr, hlk, hKt⟩ := id X
  have hK := hKt.1
  have hts : ∀ w ∈ hq_tb, w.before args s = true := fun w h => hKt.2.2 w h args
  intro  M H locs ls hl hP hS hf
  unfold f_Plan_measureOutput at hf
  refine lv_aload_n hx hb d_Plan_measureOutput_0 rfl (lv_at hl 0 rfl) ?_
  refine hq_get hx hb hts i_Plan hown hK hP 37 (by decide) (sc_s_Plan (rfl)) rfl 4 (by decide) (hts _ sc_wd_67) (fun _ h => h) (v := .ref (B + 47)) rfl d_Plan_measureOutput_1 ?_
  refine lv_aload_n hx hb d_Plan_measureOutput_4 rfl (lv_at hl 0 rfl) ?_
  refine hq_get hx hb hts i_Plan hown hK hP 37 (by decide) (sc_s_Plan (rfl)) rfl 0 (by decide) (hts _ sc_wd_51) (fun _ h => h) (v := .ref (B + 1)) rfl d_Plan_measureOutput_5 ?_
  refine hq_getN hx hb hts i_Pipe hown hK hP 1 (by decide) (sc_s_Pipe (rfl)) rfl 5 (by decide) (hts _ sc_wd_57) (fun _ h => h) (v := .int (M 1 5)) rfl d_Plan_measureOutput_8 ?_
  refine lv_aload_n hx hb d_Plan_measureOutput_11 rfl (lv_at hl 0 rfl) ?_
  refine hq_get hx hb hts i_Plan hown hK hP 37 (by decide) (sc_s_Plan (rfl)) rfl 0 (by decide) (hts _ sc_wd_51) (fun _ h => h) (v := .ref (B + 1)) rfl d_Plan_measureOutput_12 ?_
  refine hq_getN hx hb hts i_Pipe hown hK hP 1 (by decide) (sc_s_Pipe (rfl)) rfl 6 (by decide) (hts _ sc_wd_68) (fun _ h => h) (v := .int (M 1 6)) rfl d_Plan_measureOutput_15 ?_
  obtain ⟨g1, hf⟩ := hm_gd_some hf
  refine hq_iast hx hb hK hP hS 47 (by decide) (sc_s_ia8 (rfl)) 0 rfl g1 d_Plan_measureOutput_18 (fun H locs hP hS => ?_)
  obtain ⟨M_2, e_2, hf⟩ := hm_st_some hf
  rw [← e_2] at hP
  have h8 := Option.some.inj hf
  subst h8
  exact W.vret hx hb hr (fun t ht _ => ⟨⟨(), rfl, trivial, by subst ht; exact hP⟩, hS.F ht⟩) hS.2.2 d_Plan_measureOutput_19 hlk
set_option maxHeartbeats 4000000 in
set_option maxRecDepth 100000 in
theorem c_Plan_measureOutput {l : Launch} {D : va_G} {ca : Nat → ClassId} {B rl : Nat} {M M9 : hm_M} (hf : f_Plan_measureOutput M  = some M9) : Met l y_Plan_measureOutput [Cond.code y_Plan_measureOutput b_Plan_measureOutput 1 none] ({ frames := 0, cells := 0, slots := 0, locals := 0 } : Room) (hq_Pre D sc_cl ca 64 (sc_sh rl) B (sc_ty ca) hq_tb M hm_L0 [.ref (B + 37)]) (hq_QV D sc_cl ca 64 (sc_sh rl) B M9 hm_L0) 0 0 (hm_A B 64) := by
  refine Met.ofW (cc := b_Plan_measureOutput) (maxL := 1) (ret := none) (by decide +kernel) rfl ?_
  intro p e s m args below meth c s₁ Bd hml hv
  obtain ⟨rfl, hP, hK⟩ := hv
  have hl := lv_entry ([.ref (B + 37)]) (n := 1) (Nat.le_of_ble_eq_true rfl)
  rw [lg_entry_eq]
  generalize (lg_sl ([.ref (B + 37)]) ++ List.replicate (1 - (lg_sl ([.ref (B + 37)])).length) Slot.unset).toArray = ls at hl ⊢
  have hl : lv_has ls 1 [(0, .ref (B + 37))] := hl
  exact w_Plan_measureOutput_e ⟨Bd.exec, Bd.bytes, hml, findClass_of_methodNamed Bd.named, Bd.returns, Bd.notSynchronized, hK⟩   _ _ _ _ hl hP va_S.rf hf
set_option maxHeartbeats 4000000 in
set_option maxRecDepth 100000 in
theorem w_Plan_measureRoots_51 {p : Program} {l : Launch} {e : Env} {s : State} {m : MethodId} {args : Array Value} {below : List Frame} {meth : Method} {c : Code} {D : va_G} {ca : Nat → ClassId} {B rl : Nat} {M9 : hm_M} (X : hq_X p s m args meth c b_Plan_measureRoots R_Plan 2 none D sc_cl (sc_ty ca) hq_tb) {k2 : Int32 → hm_M → Option hm_M} (hk2 : ∀ (x1 : Int32), ∀ (M : hm_M) (H : Heap) (locs : List Loc) (ls : Array Slot), lv_has ls 2 [(0, .ref (B + 37)), (1, .int x1)] → hm_P D sc_cl ca 64 (sc_sh rl) B M hm_L0 H → va_S (hm_A B 64) s.heap H locs → k2 x1 M = some M9 → W p l e ({ frames := 1, cells := 0, slots := 0, locals := 22 } : Room) s m args below meth c H locs 0 0 (MQ below (hq_QV D sc_cl ca 64 (sc_sh rl) B M9 hm_L0) args s 0 0 (hm_A B 64)) (F0 m 2 ls [])) : ∀ (x1 : Int32), ∀ (M : hm_M) (H : Heap) (locs : List Loc) (ls : Array Slot), lv_has ls 2 [(0, .ref (B + 37)), (1, .int x1)] → hm_P D sc_cl ca 64 (sc_sh rl) B M hm_L0 H → va_S (hm_A B 64) s.heap H locs → f_Plan_measureRoots_51 k2 x1 M = some M9 → W p l e ({ frames := 1, cells := 0, slots := 0, locals := 22 } : Room) s m args below meth c H locs 0 0 (MQ below (hq_QV D sc_cl ca 64 (sc_sh rl) B M9 hm_L0) args s 0 0 (hm_A B 64)) (F0 m 51 ls []) := by
  obtain ⟨hx, hb, hml, hown, hr, hlk, hKt⟩ := id X
  have hK := hKt.1
  have hts : ∀ w ∈ hq_tb, w.before args s = true := fun w h => hKt.2.2 w h args
  intro x1 M H locs ls hl hP hS hf
  unfold f_Plan_measureRoots_51 at hf
  refine lv_iinc (v := (x1 + 1)) (lv' := [(1, .int (x1 + 1)), (0, .ref (B + 37))]) hx hb d_Plan_measureRoots_51 hl (k := 1) rfl rfl (by decide) rfl (fun ls hl => ?_)
  refine lv_goto (tgt := 2) hx hb d_Plan_measureRoots_54 (by decide) ?_
  exact hk2 _ _ _ _ _ (lv_sub hl [1, 0] rfl) hP hS hf
set_option maxHeartbeats 4000000 in
set_option maxRecDepth 100000 in
theorem w_Plan_measureRoots_2 {p : Program} {l : Launch} {e : Env} {s : State} {m : MethodId} {args : Array Value} {below : List Frame} {meth : Method} {c : Code} {D : va_G} {ca : Nat → ClassId} {B rl : Nat} {M9 : hm_M} (X : hq_X p s m args meth c b_Plan_measureRoots R_Plan 2 none D sc_cl (sc_ty ca) hq_tb) : ∀ (n : Nat), ∀ (x1 : Int32), ∀ (M : hm_M) (H : Heap) (locs : List Loc) (ls : Array Slot), lv_has ls 2 [(0, .ref (B + 37)), (1, .int x1)] → hm_P D sc_cl ca 64 (sc_sh rl) B M hm_L0 H → va_S (hm_A B 64) s.heap H locs → f_Plan_measureRoots_2 n x1 M = some M9 → W p l e ({ frames := 1, cells := 0, slots := 0, locals := 22 } : Room) s m args below meth c H locs 0 0 (MQ below (hq_QV D sc_cl ca 64 (sc_sh rl) B M9 hm_L0) args s 0 0 (hm_A B 64)) (F0 m 2 ls []) := by
  obtain ⟨hx, hb, hml, hown, hr, hlk, hKt⟩ := id X
  have hK := hKt.1
  have hts : ∀ w ∈ hq_tb, w.before args s = true := fun w h => hKt.2.2 w h args
  intro n
  induction n with
  | zero =>
    intro x1 M H locs ls hl hP hS hf
    cases hf
  | succ n ih =>
    intro x1 M H locs ls hl hP hS hf
    rw [f_Plan_measureRoots_2] at hf
    refine lv_iload_n hx hb d_Plan_measureRoots_2 rfl (lv_at hl 1 rfl) ?_
    refine lv_aload_n hx hb d_Plan_measureRoots_3 rfl (lv_at hl 0 rfl) ?_
    refine hq_get hx hb hts i_Plan hown hK hP 37 (by decide) (sc_s_Plan (rfl)) rfl 0 (by decide) (hts _ sc_wd_51) (fun _ h => h) (v := .ref (B + 1)) rfl d_Plan_measureRoots_4 ?_
    refine hq_getN hx hb hts i_Pipe hown hK hP 1 (by decide) (sc_s_Pipe (rfl)) rfl 5 (by decide) (hts _ sc_wd_57) (fun _ h => h) (v := .int (M 1 5)) rfl d_Plan_measureRoots_7 ?_
    refine lv_icmp_ge (tgt := 57) hx hb d_Plan_measureRoots_10 (by decide) (fun c1 => ?_) (fun c1 => ?_)
    · replace hf := (if_pos c1).symm.trans hf
      have h8 := Option.some.inj hf
      subst h8
      exact W.vret hx hb hr (fun t ht _ => ⟨⟨(), rfl, trivial, by subst ht; exact hP⟩, hS.F ht⟩) hS.2.2 d_Plan_measureRoots_57 hlk
    · replace hf := (if_neg c1).symm.trans hf
      refine lv_aload_n hx hb d_Plan_measureRoots_13 rfl (lv_at hl 0 rfl) ?_
      refine lv_iload_n hx hb d_Plan_measureRoots_14 rfl (lv_at hl 1 rfl) ?_
      refine lv_iconst (v := 1) hx hb d_Plan_measureRoots_15 (by decide) ?_
      obtain ⟨r2, M_3, hc4, hf⟩ := hm_bI_some hf
      refine hq_callI (va_runV (As := [.int x1, .int 1]) (rest := []) ⟨hx, hb, hml, hown, hts⟩ (c_Plan_isUsedAs (l := l) (D := D) (ca := ca) (B := B) (rl := rl)  hc4) (hq_cwV (nn := 2) hts sc_wd_63 sc_wd_59 sc_wd_64 sc_wd_65 sc_wd_66 (by decide +kernel) rfl rfl ⟨(Nat.le_of_ble_eq_true rfl), (Nat.le_of_ble_eq_true rfl)⟩) (hq_preV hKt hP (by decide) (sc_s_Plan (rfl)) rfl) rfl rfl hl.1 rfl (lv_room (Nat.le_of_ble_eq_true rfl)) d_Plan_measureRoots_16 ⟨(Nat.le_of_ble_eq_true rfl), (Nat.le_of_ble_eq_true rfl)⟩) hS (fun H locs hP hS => ?_)
      refine lv_if_eq (tgt := 51) hx hb d_Plan_measureRoots_19 (by decide) (fun c5 => ?_) (fun c5 => ?_)
      · replace hf := (if_pos c5).symm.trans hf
        exact w_Plan_measureRoots_51 X ih _ _ _ _ _ (lv_sub hl [0, 1] rfl) hP hS hf
      · replace hf := (if_neg c5).symm.trans hf
        refine lv_aload_n hx hb d_Plan_measureRoots_22 rfl (lv_at hl 0 rfl) ?_
        refine hq_get hx hb hts i_Plan hown hK hP 37 (by decide) (sc_s_Plan (rfl)) rfl 4 (by decide) (hts _ sc_wd_67) (fun _ h => h) (v := .ref (B + 47)) rfl d_Plan_measureRoots_23 ?_
        refine lv_iload_n hx hb d_Plan_measureRoots_26 rfl (lv_at hl 1 rfl) ?_
        refine lv_aload_n hx hb d_Plan_measureRoots_27 rfl (lv_at hl 0 rfl) ?_
        refine hq_get hx hb hts i_Plan hown hK hP 37 (by decide) (sc_s_Plan (rfl)) rfl 1 (by decide) (hts _ sc_wd_49) (fun _ h => h) (v := .ref (B + 38)) rfl d_Plan_measureRoots_28 ?_
        refine lv_iload_n hx hb d_Plan_measureRoots_31 rfl (lv_at hl 1 rfl) ?_
        obtain ⟨r6, M_7, hc8, hf⟩ := hm_bI_some hf
        refine hq_callI (va_runVN (As := [.int x1]) (rest := [.int x1, .ref (B + 47)]) ⟨hx, hb, hml, hown, hts⟩ (c_Needs_lengthOf (l := l) (D := D) (ca := ca) (B := B) (rl := rl) rfl hc8) (hq_cwN (nn := 1) hts sc_wd_69 sc_wd_14 sc_wd_70 sc_wd_71 sc_wd_72 (by decide +kernel) rfl rfl ⟨(Nat.le_of_ble_eq_true rfl), (Nat.le_of_ble_eq_true rfl)⟩) (hq_preV hKt hP (by decide) (sc_s_Needs (rfl)) rfl) rfl rfl hl.1 rfl (lv_room (Nat.le_of_ble_eq_true rfl)) d_Plan_measureRoots_32 ⟨(Nat.le_of_ble_eq_true rfl), (Nat.le_of_ble_eq_true rfl)⟩) hS (fun H locs hP hS => ?_)
        obtain ⟨g9, hf⟩ := hm_gd_some hf
        refine hq_iast hx hb hK hP hS 47 (by decide) (sc_s_ia8 (rfl)) 0 rfl g9 d_Plan_measureRoots_35 (fun H locs hP hS => ?_)
        obtain ⟨M_10, e_10, hf⟩ := hm_st_some hf
        rw [← e_10] at hP
        refine lv_aload_n hx hb d_Plan_measureRoots_36 rfl (lv_at hl 0 rfl) ?_
        refine lv_dup hx hb d_Plan_measureRoots_37 rfl ?_
        refine hq_get hx hb hts i_Plan hown hK hP 37 (by decide) (sc_s_Plan (rfl)) rfl 6 (by decide) (hts _ sc_wd_73) (fun _ h => h) (v := .int (M_10 37 6)) rfl d_Plan_measureRoots_38 ?_
        refine lv_aload_n hx hb d_Plan_measureRoots_41 rfl (lv_at hl 0 rfl) ?_
        refine hq_get hx hb hts i_Plan hown hK hP 37 (by decide) (sc_s_Plan (rfl)) rfl 4 (by decide) (hts _ sc_wd_67) (fun _ h => h) (v := .ref (B + 47)) rfl d_Plan_measureRoots_42 ?_
        refine lv_iload_n hx hb d_Plan_measureRoots_45 rfl (lv_at hl 1 rfl) ?_
        obtain ⟨g11, hf⟩ := hm_gd_some hf
        refine hq_iald hx hb hK hP 47 (by decide) (sc_s_ia8 (rfl)) 0 rfl g11 d_Plan_measureRoots_46 ?_
        refine lv_iadd hx hb d_Plan_measureRoots_47 ?_
        refine hq_put hx hb hts i_Plan t_Plan t_Plan_ok n_Plan hown hK hP hS 37 (by decide) (sc_s_Plan (rfl)) rfl 6 (by decide) (hts _ sc_wd_73) (fun _ h => h) rfl (ty := .int) (x := ((M_10 37 6) + (M_10 47 x1.toNatClampNeg))) (by decide +kernel) rfl rfl rfl d_Plan_measureRoots_48 (fun H locs hP hS => ?_)
        obtain ⟨M_12, e_12, hf⟩ := hm_st_some hf
        rw [← e_12] at hP
        exact w_Plan_measureRoots_51 X ih _ _ _ _ _ (lv_sub hl [0, 1] rfl) hP hS hf
set_option maxHeartbeats 4000000 in
set_option maxRecDepth 100000 in
theorem w_Plan_measureRoots_e {p : Program} {l : Launch} {e : Env} {s : State} {m : MethodId} {args : Array Value} {below : List Frame} {meth : Method} {c : Code} {D : va_G} {ca : Nat → ClassId} {B rl : Nat} {M9 : hm_M} (X : hq_X p s m args meth c b_Plan_measureRoots R_Plan 2 none D sc_cl (sc_ty ca) hq_tb) : ∀ (M : hm_M) (H : Heap) (locs : List Loc) (ls : Array Slot), lv_has ls 2 [(0, .ref (B + 37))] → hm_P D sc_cl ca 64 (sc_sh rl) B M hm_L0 H → va_S (hm_A B 64) s.heap H locs → f_Plan_measureRoots M = some M9 → W p l e ({ frames := 1, cells := 0, slots := 0, locals := 22 } : Room) s m args below meth c H locs 0 0 (MQ below (hq_QV D sc_cl ca 64 (sc_sh rl) B M9 hm_L0) args s 0 0 (hm_A B 64)) (F0 m 0 ls []) := by
  obtain ⟨hx, hb, hml, hown, hr, hlk, hKt⟩ := id X
  have hK := hKt.1
  have hts : ∀ w ∈ hq_tb, w.before args s = true := fun w h => hKt.2.2 w h args
  intro  M H locs ls hl hP hS hf
  unfold f_Plan_measureRoots at hf
  refine lv_iconst (v := 0) hx hb d_Plan_measureRoots_0 (by decide) ?_
  refine lv_istore_n (lv' := [(1, .int 0), (0, .ref (B + 37))]) hx hb d_Plan_measureRoots_1 rfl hl (by decide) rfl (fun ls hl => ?_)
  exact w_Plan_measureRoots_2 X _ _ _ _ _ _ (lv_sub hl [1, 0] rfl) hP hS hf
set_option maxHeartbeats 4000000 in
set_option maxRecDepth 100000 in
theorem c_Plan_measureRoots {l : Launch} {D : va_G} {ca : Nat → ClassId} {B rl : Nat} {M M9 : hm_M} (hf : f_Plan_measureRoots M  = some M9) : Met l y_Plan_measureRoots [Cond.code y_Plan_measureRoots b_Plan_measureRoots 2 none] ({ frames := 1, cells := 0, slots := 0, locals := 22 } : Room) (hq_Pre D sc_cl ca 64 (sc_sh rl) B (sc_ty ca) hq_tb M hm_L0 [.ref (B + 37)]) (hq_QV D sc_cl ca 64 (sc_sh rl) B M9 hm_L0) 0 0 (hm_A B 64) := by
  refine Met.ofW (cc := b_Plan_measureRoots) (maxL := 2) (ret := none) (by decide +kernel) rfl ?_
  intro p e s m args below meth c s₁ Bd hml hv
  obtain ⟨rfl, hP, hK⟩ := hv
  have hl := lv_entry ([.ref (B + 37)]) (n := 2) (Nat.le_of_ble_eq_true rfl)
  rw [lg_entry_eq]
  generalize (lg_sl ([.ref (B + 37)]) ++ List.replicate (2 - (lg_sl ([.ref (B + 37)])).length) Slot.unset).toArray = ls at hl ⊢
  have hl : lv_has ls 2 [(0, .ref (B + 37))] := hl
  exact w_Plan_measureRoots_e ⟨Bd.exec, Bd.bytes, hml, findClass_of_methodNamed Bd.named, Bd.returns, Bd.notSynchronized, hK⟩   _ _ _ _ hl hP va_S.rf hf
set_option maxHeartbeats 4000000 in
set_option maxRecDepth 100000 in
theorem w_Plan_measureTileInHand_59 {p : Program} {l : Launch} {e : Env} {s : State} {m : MethodId} {args : Array Value} {below : List Frame} {meth : Method} {c : Code} {D : va_G} {ca : Nat → ClassId} {B rl : Nat} {r : Int32} {M9 : hm_M} (X : hq_X p s m args meth c b_Plan_measureTileInHand R_Plan 4 (some .int) D sc_cl (sc_ty ca) hq_tb) {k4 : Int32 → Int32 → hm_M → Option (Int32 × hm_M)} (hk4 : ∀ (x1 : Int32), ∀ (x2 : Int32), ∀ (M : hm_M) (H : Heap) (locs : List Loc) (ls : Array Slot), lv_has ls 4 [(0, .ref (B + 37)), (1, .int x1), (2, .int x2)] → hm_P D sc_cl ca 64 (sc_sh rl) B M hm_L0 H → va_S (hm_A B 64) s.heap H locs → k4 x1 x2 M = some (r, M9) → W p l e ({ frames := 1, cells := 0, slots := 0, locals := 22 } : Room) s m args below meth c H locs 0 0 (MQ below (hq_QI D sc_cl ca 64 (sc_sh rl) B r M9 hm_L0) args s 0 0 (hm_A B 64)) (F0 m 4 ls [])) : ∀ (x1 : Int32), ∀ (x2 : Int32), ∀ (M : hm_M) (H : Heap) (locs : List Loc) (ls : Array Slot), lv_has ls 4 [(0, .ref (B + 37)), (1, .int x1), (2, .int x2)] → hm_P D sc_cl ca 64 (sc_sh rl) B M hm_L0 H → va_S (hm_A B 64) s.heap H locs → f_Plan_measureTileInHand_59 k4 x1 x2 M = some (r, M9) → W p l e ({ frames := 1, cells := 0, slots := 0, locals := 22 } : Room) s m args below meth c H locs 0 0 (MQ below (hq_QI D sc_cl ca 64 (sc_sh rl) B r M9 hm_L0) args s 0 0 (hm_A B 64)) (F0 m 59 ls []) := by
  obtain ⟨hx, hb, hml, hown, hr, hlk, hKt⟩ := id X
  have hK := hKt.1
  have hts : ∀ w ∈ hq_tb, w.before args s = true := fun w h => hKt.2.2 w h args
  intro x1 x2 M H locs ls hl hP hS hf
  unfold f_Plan_measureTileInHand_59 at hf
  refine lv_iinc (v := (x2 + 1)) (lv' := [(2, .int (x2 + 1)), (0, .ref (B + 37)), (1, .int x1)]) hx hb d_Plan_measureTileInHand_59 hl (k := 2) rfl rfl (by decide) rfl (fun ls hl => ?_)
  refine lv_goto (tgt := 4) hx hb d_Plan_measureTileInHand_62 (by decide) ?_
  exact hk4 _ _ _ _ _ _ (lv_sub hl [1, 2, 0] rfl) hP hS hf
set_option maxHeartbeats 4000000 in
set_option maxRecDepth 100000 in
theorem w_Plan_measureTileInHand_4 {p : Program} {l : Launch} {e : Env} {s : State} {m : MethodId} {args : Array Value} {below : List Frame} {meth : Method} {c : Code} {D : va_G} {ca : Nat → ClassId} {B rl : Nat} {r : Int32} {M9 : hm_M} (X : hq_X p s m args meth c b_Plan_measureTileInHand R_Plan 4 (some .int) D sc_cl (sc_ty ca) hq_tb) : ∀ (n : Nat), ∀ (x1 : Int32), ∀ (x2 : Int32), ∀ (M : hm_M) (H : Heap) (locs : List Loc) (ls : Array Slot), lv_has ls 4 [(0, .ref (B + 37)), (1, .int x1), (2, .int x2)] → hm_P D sc_cl ca 64 (sc_sh rl) B M hm_L0 H → va_S (hm_A B 64) s.heap H locs → f_Plan_measureTileInHand_4 n x1 x2 M = some (r, M9) → W p l e ({ frames := 1, cells := 0, slots := 0, locals := 22 } : Room) s m args below meth c H locs 0 0 (MQ below (hq_QI D sc_cl ca 64 (sc_sh rl) B r M9 hm_L0) args s 0 0 (hm_A B 64)) (F0 m 4 ls []) := by
  obtain ⟨hx, hb, hml, hown, hr, hlk, hKt⟩ := id X
  have hK := hKt.1
  have hts : ∀ w ∈ hq_tb, w.before args s = true := fun w h => hKt.2.2 w h args
  intro n
  induction n with
  | zero =>
    intro x1 x2 M H locs ls hl hP hS hf
    cases hf
  | succ n ih =>
    intro x1 x2 M H locs ls hl hP hS hf
    rw [f_Plan_measureTileInHand_4] at hf
    refine lv_iload_n hx hb d_Plan_measureTileInHand_4 rfl (lv_at hl 2 rfl) ?_
    refine lv_aload_n hx hb d_Plan_measureTileInHand_5 rfl (lv_at hl 0 rfl) ?_
    refine hq_get hx hb hts i_Plan hown hK hP 37 (by decide) (sc_s_Plan (rfl)) rfl 0 (by decide) (hts _ sc_wd_51) (fun _ h => h) (v := .ref (B + 1)) rfl d_Plan_measureTileInHand_6 ?_
    refine hq_getN hx hb hts i_Pipe hown hK hP 1 (by decide) (sc_s_Pipe (rfl)) rfl 5 (by decide) (hts _ sc_wd_57) (fun _ h => h) (v := .int (M 1 5)) rfl d_Plan_measureTileInHand_9 ?_
    refine lv_icmp_ge (tgt := 65) hx hb d_Plan_measureTileInHand_12 (by decide) (fun c1 => ?_) (fun c1 => ?_)
    · replace hf := (if_pos c1).symm.trans hf
      refine lv_iload_n hx hb d_Plan_measureTileInHand_65 rfl (lv_at hl 1 rfl) ?_
      obtain ⟨h9, h8⟩ := Prod.mk.inj (Option.some.inj hf)
      subst h9
      subst h8
      exact W.iret hx hb hr (fun t ht _ => ⟨⟨_, (), rfl, rfl, by subst ht; exact hP⟩, hS.F ht⟩) hS.2.2 d_Plan_measureTileInHand_66 hlk
    · replace hf := (if_neg c1).symm.trans hf
      refine lv_aload_n hx hb d_Plan_measureTileInHand_15 rfl (lv_at hl 0 rfl) ?_
      refine lv_iload_n hx hb d_Plan_measureTileInHand_16 rfl (lv_at hl 2 rfl) ?_
      refine lv_iconst (v := 2) hx hb d_Plan_measureTileInHand_17 (by decide) ?_
      obtain ⟨r2, M_3, hc4, hf⟩ := hm_bI_some hf
      refine hq_callI (va_runV (As := [.int x2, .int 2]) (rest := []) ⟨hx, hb, hml, hown, hts⟩ (c_Plan_isUsedAs (l := l) (D := D) (ca := ca) (B := B) (rl := rl)  hc4) (hq_cwV (nn := 2) hts sc_wd_63 sc_wd_59 sc_wd_64 sc_wd_65 sc_wd_66 (by decide +kernel) rfl rfl ⟨(Nat.le_of_ble_eq_true rfl), (Nat.le_of_ble_eq_true rfl)⟩) (hq_preV hKt hP (by decide) (sc_s_Plan (rfl)) rfl) rfl rfl hl.1 rfl (lv_room (Nat.le_of_ble_eq_true rfl)) d_Plan_measureTileInHand_18 ⟨(Nat.le_of_ble_eq_true rfl), (Nat.le_of_ble_eq_true rfl)⟩) hS (fun H locs hP hS => ?_)
      refine lv_if_eq (tgt := 59) hx hb d_Plan_measureTileInHand_21 (by decide) (fun c5 => ?_) (fun c5 => ?_)
      · replace hf := (if_pos c5).symm.trans hf
        exact w_Plan_measureTileInHand_59 X ih _ _ _ _ _ _ (lv_sub hl [0, 1, 2] rfl) hP hS hf
      · replace hf := (if_neg c5).symm.trans hf
        refine lv_aload_n hx hb d_Plan_measureTileInHand_24 rfl (lv_at hl 0 rfl) ?_
        refine hq_get hx hb hts i_Plan hown hK hP 37 (by decide) (sc_s_Plan (rfl)) rfl 2 (by decide) (hts _ sc_wd_74) (fun _ h => h) (v := .ref (B + 42)) rfl d_Plan_measureTileInHand_25 ?_
        refine lv_iload_n hx hb d_Plan_measureTileInHand_28 rfl (lv_at hl 2 rfl) ?_
        obtain ⟨r6, M_7, hc8, hf⟩ := hm_bI_some hf
        refine hq_callI (va_runVN (As := [.int x2]) (rest := []) ⟨hx, hb, hml, hown, hts⟩ (c_Needs_lengthOf (l := l) (D := D) (ca := ca) (B := B) (rl := rl) rfl hc8) (hq_cwN (nn := 1) hts sc_wd_69 sc_wd_14 sc_wd_70 sc_wd_71 sc_wd_72 (by decide +kernel) rfl rfl ⟨(Nat.le_of_ble_eq_true rfl), (Nat.le_of_ble_eq_true rfl)⟩) (hq_preV hKt hP (by decide) (sc_s_Needs (rfl)) rfl) rfl rfl hl.1 rfl (lv_room (Nat.le_of_ble_eq_true rfl)) d_Plan_measureTileInHand_29 ⟨(Nat.le_of_ble_eq_true rfl), (Nat.le_of_ble_eq_true rfl)⟩) hS (fun H locs hP hS => ?_)
        refine lv_istore_n (lv' := [(3, .int r6), (0, .ref (B + 37)), (1, .int x1), (2, .int x2)]) hx hb d_Plan_measureTileInHand_32 rfl hl (by decide) rfl (fun ls hl => ?_)
        refine lv_aload_n hx hb d_Plan_measureTileInHand_33 rfl (lv_at hl 1 rfl) ?_
        refine hq_get hx hb hts i_Plan hown hK hP 37 (by decide) (sc_s_Plan (rfl)) rfl 4 (by decide) (hts _ sc_wd_67) (fun _ h => h) (v := .ref (B + 47)) rfl d_Plan_measureTileInHand_34 ?_
        refine lv_iload_n hx hb d_Plan_measureTileInHand_37 rfl (lv_at hl 3 rfl) ?_
        refine lv_dup2_11 hx hb d_Plan_measureTileInHand_38 rfl rfl ?_
        obtain ⟨g9, hf⟩ := hm_gd_some hf
        refine hq_iald hx hb hK hP 47 (by decide) (sc_s_ia8 (rfl)) 0 rfl g9 d_Plan_measureTileInHand_39 ?_
        refine lv_iload_n hx hb d_Plan_measureTileInHand_40 rfl (lv_at hl 0 rfl) ?_
        refine lv_iadd hx hb d_Plan_measureTileInHand_41 ?_
        obtain ⟨g10, hf⟩ := hm_gd_some hf
        refine hq_iast hx hb hK hP hS 47 (by decide) (sc_s_ia8 (rfl)) 0 rfl g10 d_Plan_measureTileInHand_42 (fun H locs hP hS => ?_)
        obtain ⟨M_11, e_11, hf⟩ := hm_st_some hf
        rw [← e_11] at hP
        refine lv_aload_n hx hb d_Plan_measureTileInHand_43 rfl (lv_at hl 1 rfl) ?_
        refine lv_aload_n hx hb d_Plan_measureTileInHand_44 rfl (lv_at hl 1 rfl) ?_
        refine hq_get hx hb hts i_Plan hown hK hP 37 (by decide) (sc_s_Plan (rfl)) rfl 7 (by decide) (hts _ sc_wd_75) (fun _ h => h) (v := .int (M_11 37 7)) rfl d_Plan_measureTileInHand_45 ?_
        refine lv_iload_n hx hb d_Plan_measureTileInHand_48 rfl (lv_at hl 0 rfl) ?_
        refine va_mmax hx hb (hml.trans hl.1.symm) hown (hts _ sc_wd_76) (hts _ sc_wd_8) (hts _ sc_wd_4) (hts _ sc_wd_9) (Nat.le_of_ble_eq_true rfl) (Nat.le_of_ble_eq_true rfl) (Nat.le_of_ble_eq_true rfl) (Nat.le_of_ble_eq_true rfl) d_Plan_measureTileInHand_49 ?_
        refine hq_put hx hb hts i_Plan t_Plan t_Plan_ok n_Plan hown hK hP hS 37 (by decide) (sc_s_Plan (rfl)) rfl 7 (by decide) (hts _ sc_wd_75) (fun _ h => h) rfl (ty := .int) (x := (if (M_11 37 7) < r6 then r6 else (M_11 37 7))) (by decide +kernel) rfl rfl rfl d_Plan_measureTileInHand_52 (fun H locs hP hS => ?_)
        obtain ⟨M_12, e_12, hf⟩ := hm_st_some hf
        rw [← e_12] at hP
        refine lv_iload_n hx hb d_Plan_measureTileInHand_55 rfl (lv_at hl 2 rfl) ?_
        refine lv_iload_n hx hb d_Plan_measureTileInHand_56 rfl (lv_at hl 0 rfl) ?_
        refine lv_iadd hx hb d_Plan_measureTileInHand_57 ?_
        refine lv_istore_n (lv' := [(1, .int (x1 + r6)), (3, .int r6), (0, .ref (B + 37)), (2, .int x2)]) hx hb d_Plan_measureTileInHand_58 rfl hl (by decide) rfl (fun ls hl => ?_)
        exact w_Plan_measureTileInHand_59 X ih _ _ _ _ _ _ (lv_sub hl [2, 0, 3] rfl) hP hS hf
set_option maxHeartbeats 4000000 in
set_option maxRecDepth 100000 in
theorem w_Plan_measureTileInHand_e {p : Program} {l : Launch} {e : Env} {s : State} {m : MethodId} {args : Array Value} {below : List Frame} {meth : Method} {c : Code} {D : va_G} {ca : Nat → ClassId} {B rl : Nat} {r : Int32} {M9 : hm_M} (X : hq_X p s m args meth c b_Plan_measureTileInHand R_Plan 4 (some .int) D sc_cl (sc_ty ca) hq_tb) : ∀ (M : hm_M) (H : Heap) (locs : List Loc) (ls : Array Slot), lv_has ls 4 [(0, .ref (B + 37))] → hm_P D sc_cl ca 64 (sc_sh rl) B M hm_L0 H → va_S (hm_A B 64) s.heap H locs → f_Plan_measureTileInHand M = some (r, M9) → W p l e ({ frames := 1, cells := 0, slots := 0, locals := 22 } : Room) s m args below meth c H locs 0 0 (MQ below (hq_QI D sc_cl ca 64 (sc_sh rl) B r M9 hm_L0) args s 0 0 (hm_A B 64)) (F0 m 0 ls []) := by
  obtain ⟨hx, hb, hml, hown, hr, hlk, hKt⟩ := id X
  have hK := hKt.1
  have hts : ∀ w ∈ hq_tb, w.before args s = true := fun w h => hKt.2.2 w h args
  intro  M H locs ls hl hP hS hf
  unfold f_Plan_measureTileInHand at hf
  refine lv_iconst (v := 0) hx hb d_Plan_measureTileInHand_0 (by decide) ?_
  refine lv_istore_n (lv' := [(1, .int 0), (0, .ref (B + 37))]) hx hb d_Plan_measureTileInHand_1 rfl hl (by decide) rfl (fun ls hl => ?_)
  refine lv_iconst (v := 0) hx hb d_Plan_measureTileInHand_2 (by decide) ?_
  refine lv_istore_n (lv' := [(2, .int 0), (1, .int 0), (0, .ref (B + 37))]) hx hb d_Plan_measureTileInHand_3 rfl hl (by decide) rfl (fun ls hl => ?_)
  exact w_Plan_measureTileInHand_4 X _ _ _ _ _ _ _ (lv_sub hl [2, 1, 0] rfl) hP hS hf
set_option maxHeartbeats 4000000 in
set_option maxRecDepth 100000 in
theorem c_Plan_measureTileInHand {l : Launch} {D : va_G} {ca : Nat → ClassId} {B rl : Nat} {r : Int32} {M M9 : hm_M} (hf : f_Plan_measureTileInHand M  = some (r, M9)) : Met l y_Plan_measureTileInHand [Cond.code y_Plan_measureTileInHand b_Plan_measureTileInHand 4 (some .int)] ({ frames := 1, cells := 0, slots := 0, locals := 22 } : Room) (hq_Pre D sc_cl ca 64 (sc_sh rl) B (sc_ty ca) hq_tb M hm_L0 [.ref (B + 37)]) (hq_QI D sc_cl ca 64 (sc_sh rl) B r M9 hm_L0) 0 0 (hm_A B 64) := by
  refine Met.ofW (cc := b_Plan_measureTileInHand) (maxL := 4) (ret := (some .int)) (by decide +kernel) rfl ?_
  intro p e s m args below meth c s₁ Bd hml hv
  obtain ⟨rfl, hP, hK⟩ := hv
  have hl := lv_entry ([.ref (B + 37)]) (n := 4) (Nat.le_of_ble_eq_true rfl)
  rw [lg_entry_eq]
  generalize (lg_sl ([.ref (B + 37)]) ++ List.replicate (4 - (lg_sl ([.ref (B + 37)])).length) Slot.unset).toArray = ls at hl ⊢
  have hl : lv_has ls 4 [(0, .ref (B + 37))] := hl
  exact w_Plan_measureTileInHand_e ⟨Bd.exec, Bd.bytes, hml, findClass_of_methodNamed Bd.named, Bd.returns, Bd.notSynchronized, hK⟩   _ _ _ _ hl hP va_S.rf hf
set_option maxHeartbeats 4000000 in
set_option maxRecDepth 100000 in
theorem w_Plan_measureTiles_4 {p : Program} {l : Launch} {e : Env} {s : State} {m : MethodId} {args : Array Value} {below : List Frame} {meth : Method} {c : Code} {D : va_G} {ca : Nat → ClassId} {B rl : Nat} {M9 : hm_M} (X : hq_X p s m args meth c b_Plan_measureTiles R_Plan 3 none D sc_cl (sc_ty ca) hq_tb) : ∀ (n : Nat), ∀ (x1 : Int32), ∀ (x2 : Int32), ∀ (M : hm_M) (H : Heap) (locs : List Loc) (ls : Array Slot), lv_has ls 3 [(0, .ref (B + 37)), (1, .int x1), (2, .int x2)] → hm_P D sc_cl ca 64 (sc_sh rl) B M hm_L0 H → va_S (hm_A B 64) s.heap H locs → f_Plan_measureTiles_4 n x1 x2 M = some M9 → W p l e ({ frames := 4, cells := 0, slots := 0, locals := 92 } : Room) s m args below meth c H locs 0 0 (MQ below (hq_QV D sc_cl ca 64 (sc_sh rl) B M9 hm_L0) args s 0 0 (hm_A B 64)) (F0 m 4 ls []) := by
  obtain ⟨hx, hb, hml, hown, hr, hlk, hKt⟩ := id X
  have hK := hKt.1
  have hts : ∀ w ∈ hq_tb, w.before args s = true := fun w h => hKt.2.2 w h args
  intro n
  induction n with
  | zero =>
    intro x1 x2 M H locs ls hl hP hS hf
    cases hf
  | succ n ih =>
    intro x1 x2 M H locs ls hl hP hS hf
    rw [f_Plan_measureTiles_4] at hf
    refine lv_iload_n hx hb d_Plan_measureTiles_4 rfl (lv_at hl 2 rfl) ?_
    refine lv_aload_n hx hb d_Plan_measureTiles_5 rfl (lv_at hl 0 rfl) ?_
    refine hq_get hx hb hts i_Plan hown hK hP 37 (by decide) (sc_s_Plan (rfl)) rfl 0 (by decide) (hts _ sc_wd_51) (fun _ h => h) (v := .ref (B + 1)) rfl d_Plan_measureTiles_6 ?_
    obtain ⟨r1, M_2, hc3, hf⟩ := hm_bI_some hf
    refine hq_callI (va_runVN (As := []) (rest := [.int x2]) ⟨hx, hb, hml, hown, hts⟩ (c_Pipe_tileCount (l := l) (D := D) (ca := ca) (B := B) (rl := rl)  hc3) (hq_cwN (nn := 0) hts sc_wd_77 sc_wd_31 sc_wd_78 sc_wd_79 sc_wd_80 (by decide +kernel) rfl rfl ⟨(Nat.le_of_ble_eq_true rfl), (Nat.le_of_ble_eq_true rfl)⟩) (hq_preV hKt hP (by decide) (sc_s_Pipe (rfl)) rfl) rfl rfl hl.1 rfl (lv_room (Nat.le_of_ble_eq_true rfl)) d_Plan_measureTiles_9 ⟨(Nat.le_of_ble_eq_true rfl), (Nat.le_of_ble_eq_true rfl)⟩) hS (fun H locs hP hS => ?_)
    refine lv_icmp_ge (tgt := 57) hx hb d_Plan_measureTiles_12 (by decide) (fun c4 => ?_) (fun c4 => ?_)
    · replace hf := (if_pos c4).symm.trans hf
      refine lv_aload_n hx hb d_Plan_measureTiles_57 rfl (lv_at hl 0 rfl) ?_
      refine lv_dup hx hb d_Plan_measureTiles_58 rfl ?_
      refine hq_get hx hb hts i_Plan hown hK hP 37 (by decide) (sc_s_Plan (rfl)) rfl 6 (by decide) (hts _ sc_wd_73) (fun _ h => h) (v := .int (M_2 37 6)) rfl d_Plan_measureTiles_59 ?_
      refine lv_iload_n hx hb d_Plan_measureTiles_62 rfl (lv_at hl 1 rfl) ?_
      refine lv_iadd hx hb d_Plan_measureTiles_63 ?_
      refine hq_put hx hb hts i_Plan t_Plan t_Plan_ok n_Plan hown hK hP hS 37 (by decide) (sc_s_Plan (rfl)) rfl 6 (by decide) (hts _ sc_wd_73) (fun _ h => h) rfl (ty := .int) (x := ((M_2 37 6) + x1)) (by decide +kernel) rfl rfl rfl d_Plan_measureTiles_64 (fun H locs hP hS => ?_)
      obtain ⟨M_5, e_5, hf⟩ := hm_st_some hf
      rw [← e_5] at hP
      have h8 := Option.some.inj hf
      subst h8
      exact W.vret hx hb hr (fun t ht _ => ⟨⟨(), rfl, trivial, by subst ht; exact hP⟩, hS.F ht⟩) hS.2.2 d_Plan_measureTiles_67 hlk
    · replace hf := (if_neg c4).symm.trans hf
      refine lv_aload_n hx hb d_Plan_measureTiles_15 rfl (lv_at hl 0 rfl) ?_
      refine hq_get hx hb hts i_Plan hown hK hP 37 (by decide) (sc_s_Plan (rfl)) rfl 2 (by decide) (hts _ sc_wd_74) (fun _ h => h) (v := .ref (B + 42)) rfl d_Plan_measureTiles_16 ?_
      refine lv_aload_n hx hb d_Plan_measureTiles_19 rfl (lv_at hl 0 rfl) ?_
      refine hq_get hx hb hts i_Plan hown hK hP 37 (by decide) (sc_s_Plan (rfl)) rfl 0 (by decide) (hts _ sc_wd_51) (fun _ h => h) (v := .ref (B + 1)) rfl d_Plan_measureTiles_20 ?_
      refine lv_aload_n hx hb d_Plan_measureTiles_23 rfl (lv_at hl 0 rfl) ?_
      refine hq_get hx hb hts i_Plan hown hK hP 37 (by decide) (sc_s_Plan (rfl)) rfl 0 (by decide) (hts _ sc_wd_51) (fun _ h => h) (v := .ref (B + 1)) rfl d_Plan_measureTiles_24 ?_
      refine lv_iload_n hx hb d_Plan_measureTiles_27 rfl (lv_at hl 2 rfl) ?_
      obtain ⟨r6, M_7, hc8, hf⟩ := hm_bI_some hf
      refine hq_callI (va_runVN (As := [.int x2]) (rest := [.ref (B + 1), .ref (B + 42)]) ⟨hx, hb, hml, hown, hts⟩ (c_Pipe_tileFirst (l := l) (D := D) (ca := ca) (B := B) (rl := rl)  hc8) (hq_cwN (nn := 1) hts sc_wd_30 sc_wd_31 sc_wd_81 sc_wd_33 sc_wd_34 (by decide +kernel) rfl rfl ⟨(Nat.le_of_ble_eq_true rfl), (Nat.le_of_ble_eq_true rfl)⟩) (hq_preV hKt hP (by decide) (sc_s_Pipe (rfl)) rfl) rfl rfl hl.1 rfl (lv_room (Nat.le_of_ble_eq_true rfl)) d_Plan_measureTiles_28 ⟨(Nat.le_of_ble_eq_true rfl), (Nat.le_of_ble_eq_true rfl)⟩) hS (fun H locs hP hS => ?_)
      refine lv_aload_n hx hb d_Plan_measureTiles_31 rfl (lv_at hl 0 rfl) ?_
      refine hq_get hx hb hts i_Plan hown hK hP 37 (by decide) (sc_s_Plan (rfl)) rfl 0 (by decide) (hts _ sc_wd_51) (fun _ h => h) (v := .ref (B + 1)) rfl d_Plan_measureTiles_32 ?_
      refine lv_iload_n hx hb d_Plan_measureTiles_35 rfl (lv_at hl 2 rfl) ?_
      obtain ⟨r9, M_10, hc11, hf⟩ := hm_bI_some hf
      refine hq_callI (va_runVN (As := [.int x2]) (rest := [.int r6, .ref (B + 1), .ref (B + 42)]) ⟨hx, hb, hml, hown, hts⟩ (c_Pipe_tileLast (l := l) (D := D) (ca := ca) (B := B) (rl := rl)  hc11) (hq_cwN (nn := 1) hts sc_wd_82 sc_wd_31 sc_wd_83 sc_wd_84 sc_wd_85 (by decide +kernel) rfl rfl ⟨(Nat.le_of_ble_eq_true rfl), (Nat.le_of_ble_eq_true rfl)⟩) (hq_preV hKt hP (by decide) (sc_s_Pipe (rfl)) rfl) rfl rfl hl.1 rfl (lv_room (Nat.le_of_ble_eq_true rfl)) d_Plan_measureTiles_36 ⟨(Nat.le_of_ble_eq_true rfl), (Nat.le_of_ble_eq_true rfl)⟩) hS (fun H locs hP hS => ?_)
      obtain ⟨M_13, hc14, hf⟩ := hm_bV_some hf
      refine hq_callV (va_runVN (As := [.ref (B + 1), .int r6, .int r9]) (rest := []) ⟨hx, hb, hml, hown, hts⟩ (c_Needs_spread (l := l) (D := D) (ca := ca) (B := B) (rl := rl) rfl hc14) (hq_cwN (nn := 3) hts sc_wd_86 sc_wd_14 sc_wd_87 sc_wd_88 sc_wd_89 (by decide +kernel) rfl rfl ⟨(Nat.le_of_ble_eq_true rfl), (Nat.le_of_ble_eq_true rfl)⟩) (hq_preV hKt hP (by decide) (sc_s_Needs (rfl)) rfl) rfl rfl hl.1 rfl (lv_room (Nat.le_of_ble_eq_true rfl)) d_Plan_measureTiles_39 ⟨(Nat.le_of_ble_eq_true rfl), (Nat.le_of_ble_eq_true rfl)⟩) hS (fun H locs hP hS => ?_)
      refine lv_iload_n hx hb d_Plan_measureTiles_42 rfl (lv_at hl 1 rfl) ?_
      refine lv_aload_n hx hb d_Plan_measureTiles_43 rfl (lv_at hl 0 rfl) ?_
      obtain ⟨r15, M_16, hc17, hf⟩ := hm_bI_some hf
      refine hq_callI (va_runV (As := []) (rest := [.int x1]) ⟨hx, hb, hml, hown, hts⟩ (c_Plan_measureTileInHand (l := l) (D := D) (ca := ca) (B := B) (rl := rl)  hc17) (hq_cwV (nn := 0) hts sc_wd_90 sc_wd_59 sc_wd_91 sc_wd_92 sc_wd_93 (by decide +kernel) rfl rfl ⟨(Nat.le_of_ble_eq_true rfl), (Nat.le_of_ble_eq_true rfl)⟩) (hq_preV hKt hP (by decide) (sc_s_Plan (rfl)) rfl) rfl rfl hl.1 rfl (lv_room (Nat.le_of_ble_eq_true rfl)) d_Plan_measureTiles_44 ⟨(Nat.le_of_ble_eq_true rfl), (Nat.le_of_ble_eq_true rfl)⟩) hS (fun H locs hP hS => ?_)
      refine va_mmax hx hb (hml.trans hl.1.symm) hown (hts _ sc_wd_76) (hts _ sc_wd_8) (hts _ sc_wd_4) (hts _ sc_wd_9) (Nat.le_of_ble_eq_true rfl) (Nat.le_of_ble_eq_true rfl) (Nat.le_of_ble_eq_true rfl) (Nat.le_of_ble_eq_true rfl) d_Plan_measureTiles_47 ?_
      refine lv_istore_n (lv' := [(1, .int (if x1 < r15 then r15 else x1)), (0, .ref (B + 37)), (2, .int x2)]) hx hb d_Plan_measureTiles_50 rfl hl (by decide) rfl (fun ls hl => ?_)
      refine lv_iinc (v := (x2 + 1)) (lv' := [(2, .int (x2 + 1)), (1, .int (if x1 < r15 then r15 else x1)), (0, .ref (B + 37))]) hx hb d_Plan_measureTiles_51 hl (k := 2) rfl rfl (by decide) rfl (fun ls hl => ?_)
      refine lv_goto (tgt := 4) hx hb d_Plan_measureTiles_54 (by decide) ?_
      exact ih _ _ _ _ _ _ (lv_sub hl [2, 1, 0] rfl) hP hS hf
set_option maxHeartbeats 4000000 in
set_option maxRecDepth 100000 in
theorem w_Plan_measureTiles_e {p : Program} {l : Launch} {e : Env} {s : State} {m : MethodId} {args : Array Value} {below : List Frame} {meth : Method} {c : Code} {D : va_G} {ca : Nat → ClassId} {B rl : Nat} {M9 : hm_M} (X : hq_X p s m args meth c b_Plan_measureTiles R_Plan 3 none D sc_cl (sc_ty ca) hq_tb) : ∀ (M : hm_M) (H : Heap) (locs : List Loc) (ls : Array Slot), lv_has ls 3 [(0, .ref (B + 37))] → hm_P D sc_cl ca 64 (sc_sh rl) B M hm_L0 H → va_S (hm_A B 64) s.heap H locs → f_Plan_measureTiles M = some M9 → W p l e ({ frames := 4, cells := 0, slots := 0, locals := 92 } : Room) s m args below meth c H locs 0 0 (MQ below (hq_QV D sc_cl ca 64 (sc_sh rl) B M9 hm_L0) args s 0 0 (hm_A B 64)) (F0 m 0 ls []) := by
  obtain ⟨hx, hb, hml, hown, hr, hlk, hKt⟩ := id X
  have hK := hKt.1
  have hts : ∀ w ∈ hq_tb, w.before args s = true := fun w h => hKt.2.2 w h args
  intro  M H locs ls hl hP hS hf
  unfold f_Plan_measureTiles at hf
  refine lv_iconst (v := 0) hx hb d_Plan_measureTiles_0 (by decide) ?_
  refine lv_istore_n (lv' := [(1, .int 0), (0, .ref (B + 37))]) hx hb d_Plan_measureTiles_1 rfl hl (by decide) rfl (fun ls hl => ?_)
  refine lv_iconst (v := 0) hx hb d_Plan_measureTiles_2 (by decide) ?_
  refine lv_istore_n (lv' := [(2, .int 0), (1, .int 0), (0, .ref (B + 37))]) hx hb d_Plan_measureTiles_3 rfl hl (by decide) rfl (fun ls hl => ?_)
  exact w_Plan_measureTiles_4 X _ _ _ _ _ _ _ (lv_sub hl [2, 1, 0] rfl) hP hS hf
set_option maxHeartbeats 4000000 in
set_option maxRecDepth 100000 in
theorem c_Plan_measureTiles {l : Launch} {D : va_G} {ca : Nat → ClassId} {B rl : Nat} {M M9 : hm_M} (hf : f_Plan_measureTiles M  = some M9) : Met l y_Plan_measureTiles [Cond.code y_Plan_measureTiles b_Plan_measureTiles 3 none] ({ frames := 4, cells := 0, slots := 0, locals := 92 } : Room) (hq_Pre D sc_cl ca 64 (sc_sh rl) B (sc_ty ca) hq_tb M hm_L0 [.ref (B + 37)]) (hq_QV D sc_cl ca 64 (sc_sh rl) B M9 hm_L0) 0 0 (hm_A B 64) := by
  refine Met.ofW (cc := b_Plan_measureTiles) (maxL := 3) (ret := none) (by decide +kernel) rfl ?_
  intro p e s m args below meth c s₁ Bd hml hv
  obtain ⟨rfl, hP, hK⟩ := hv
  have hl := lv_entry ([.ref (B + 37)]) (n := 3) (Nat.le_of_ble_eq_true rfl)
  rw [lg_entry_eq]
  generalize (lg_sl ([.ref (B + 37)]) ++ List.replicate (3 - (lg_sl ([.ref (B + 37)])).length) Slot.unset).toArray = ls at hl ⊢
  have hl : lv_has ls 3 [(0, .ref (B + 37))] := hl
  exact w_Plan_measureTiles_e ⟨Bd.exec, Bd.bytes, hml, findClass_of_methodNamed Bd.named, Bd.returns, Bd.notSynchronized, hK⟩   _ _ _ _ hl hP va_S.rf hf
set_option maxHeartbeats 4000000 in
set_option maxRecDepth 100000 in
theorem w_Plan_askInlineSources_66 {p : Program} {l : Launch} {e : Env} {s : State} {m : MethodId} {args : Array Value} {below : List Frame} {meth : Method} {c : Code} {D : va_G} {ca : Nat → ClassId} {B rl : Nat} {M9 : hm_M} (X : hq_X p s m args meth c b_Plan_askInlineSources R_Plan 5 none D sc_cl (sc_ty ca) hq_tb) {k12 : Int32 → Nat → Int32 → hm_M → Option hm_M} (hk12 : ∀ (x1 : Int32), ∀ (a2 : Nat), ∀ (x3 : Int32), sc_kd a2 = 5 → ∀ (M : hm_M) (H : Heap) (locs : List Loc) (ls : Array Slot), lv_has ls 5 [(0, .ref (B + 37)), (1, .int x1), (2, .ref (B + a2)), (3, .int x3)] → hm_P D sc_cl ca 64 (sc_sh rl) B M hm_L0 H → va_S (hm_A B 64) s.heap H locs → k12 x1 a2 x3 M = some M9 → W p l e ({ frames := 0, cells := 0, slots := 0, locals := 0 } : Room) s m args below meth c H locs 0 0 (MQ below (hq_QV D sc_cl ca 64 (sc_sh rl) B M9 hm_L0) args s 0 0 (hm_A B 64)) (F0 m 12 ls [])) : ∀ (x1 : Int32), ∀ (a2 : Nat), ∀ (x3 : Int32), sc_kd a2 = 5 → ∀ (M : hm_M) (H : Heap) (locs : List Loc) (ls : Array Slot), lv_has ls 5 [(0, .ref (B + 37)), (1, .int x1), (2, .ref (B + a2)), (3, .int x3)] → hm_P D sc_cl ca 64 (sc_sh rl) B M hm_L0 H → va_S (hm_A B 64) s.heap H locs → f_Plan_askInlineSources_66 k12 x1 a2 x3 M = some M9 → W p l e ({ frames := 0, cells := 0, slots := 0, locals := 0 } : Room) s m args below meth c H locs 0 0 (MQ below (hq_QV D sc_cl ca 64 (sc_sh rl) B M9 hm_L0) args s 0 0 (hm_A B 64)) (F0 m 66 ls []) := by
  obtain ⟨hx, hb, hml, hown, hr, hlk, hKt⟩ := id X
  have hK := hKt.1
  have hts : ∀ w ∈ hq_tb, w.before args s = true := fun w h => hKt.2.2 w h args
  intro x1 a2 x3 h_a2 M H locs ls hl hP hS hf
  unfold f_Plan_askInlineSources_66 at hf
  refine lv_iinc (v := (x3 + 1)) (lv' := [(3, .int (x3 + 1)), (0, .ref (B + 37)), (1, .int x1), (2, .ref (B + a2))]) hx hb d_Plan_askInlineSources_66 hl (k := 3) rfl rfl (by decide) rfl (fun ls hl => ?_)
  refine lv_goto (tgt := 12) hx hb d_Plan_askInlineSources_69 (by decide) ?_
  exact hk12 _ _ _ h_a2 _ _ _ _ (lv_sub hl [1, 2, 3, 0] rfl) hP hS hf
set_option maxHeartbeats 4000000 in
set_option maxRecDepth 100000 in
theorem w_Plan_askInlineSources_12 {p : Program} {l : Launch} {e : Env} {s : State} {m : MethodId} {args : Array Value} {below : List Frame} {meth : Method} {c : Code} {D : va_G} {ca : Nat → ClassId} {B rl : Nat} {M9 : hm_M} (X : hq_X p s m args meth c b_Plan_askInlineSources R_Plan 5 none D sc_cl (sc_ty ca) hq_tb) : ∀ (n : Nat), ∀ (x1 : Int32), ∀ (a2 : Nat), ∀ (x3 : Int32), sc_kd a2 = 5 → ∀ (M : hm_M) (H : Heap) (locs : List Loc) (ls : Array Slot), lv_has ls 5 [(0, .ref (B + 37)), (1, .int x1), (2, .ref (B + a2)), (3, .int x3)] → hm_P D sc_cl ca 64 (sc_sh rl) B M hm_L0 H → va_S (hm_A B 64) s.heap H locs → f_Plan_askInlineSources_12 n x1 a2 x3 M = some M9 → W p l e ({ frames := 0, cells := 0, slots := 0, locals := 0 } : Room) s m args below meth c H locs 0 0 (MQ below (hq_QV D sc_cl ca 64 (sc_sh rl) B M9 hm_L0) args s 0 0 (hm_A B 64)) (F0 m 12 ls []) := by
  obtain ⟨hx, hb, hml, hown, hr, hlk, hKt⟩ := id X
  have hK := hKt.1
  have hts : ∀ w ∈ hq_tb, w.before args s = true := fun w h => hKt.2.2 w h args
  intro n
  induction n with
  | zero =>
    intro x1 a2 x3 h_a2 M H locs ls hl hP hS hf
    cases hf
  | succ n ih =>
    intro x1 a2 x3 h_a2 M H locs ls hl hP hS hf
    rw [f_Plan_askInlineSources_12] at hf
    refine lv_iload_n hx hb d_Plan_askInlineSources_12 rfl (lv_at hl 3 rfl) ?_
    refine lv_aload_n hx hb d_Plan_askInlineSources_13 rfl (lv_at hl 2 rfl) ?_
    refine hq_getN hx hb hts i_Stage hown hK hP a2 (sc_lt h_a2 (by decide)) (sc_s_Stage (h_a2)) rfl 3 (by decide) (hts _ sc_wd_54) (fun _ h => h) (v := .int (M a2 3)) rfl d_Plan_askInlineSources_14 ?_
    refine lv_icmp_ge (tgt := 72) hx hb d_Plan_askInlineSources_17 (by decide) (fun c1 => ?_) (fun c1 => ?_)
    · replace hf := (if_pos c1).symm.trans hf
      have h8 := Option.some.inj hf
      subst h8
      exact W.vret hx hb hr (fun t ht _ => ⟨⟨(), rfl, trivial, by subst ht; exact hP⟩, hS.F ht⟩) hS.2.2 d_Plan_askInlineSources_72 hlk
    · replace hf := (if_neg c1).symm.trans hf
      refine lv_aload_n hx hb d_Plan_askInlineSources_20 rfl (lv_at hl 2 rfl) ?_
      refine hq_getN hx hb hts i_Stage hown hK hP a2 (sc_lt h_a2 (by decide)) (sc_s_Stage (h_a2)) rfl 4 (by decide) (hts _ sc_wd_55) (fun _ h => h) (v := .ref (B + (a2 + 1))) rfl d_Plan_askInlineSources_21 ?_
      refine lv_iload_n hx hb d_Plan_askInlineSources_24 rfl (lv_at hl 3 rfl) ?_
      obtain ⟨g2, hf⟩ := hm_gd_some hf
      refine hq_iald hx hb hK hP (a2 + 1) (sc_lt (sck_Stage1 h_a2) (by decide)) (sc_s_ia4 ((sck_Stage1 h_a2))) 0 rfl g2 d_Plan_askInlineSources_25 ?_
      refine lv_istore (lv' := [(4, .int (M (a2 + 1) x3.toNatClampNeg)), (0, .ref (B + 37)), (1, .int x1), (2, .ref (B + a2)), (3, .int x3)]) hx hb d_Plan_askInlineSources_26 hl (by decide) rfl (fun ls hl => ?_)
      refine lv_iload hx hb d_Plan_askInlineSources_28 (lv_at hl 0 rfl) ?_
      refine lv_iconst (v := (-1)) hx hb d_Plan_askInlineSources_30 (by decide) ?_
      refine lv_icmp_eq (tgt := 66) hx hb d_Plan_askInlineSources_31 (by decide) (fun c3 => ?_) (fun c3 => ?_)
      · replace hf := (if_pos c3).symm.trans hf
        exact w_Plan_askInlineSources_66 X ih _ _ _ h_a2 _ _ _ _ (lv_sub hl [1, 2, 3, 4] rfl) hP hS hf
      · replace hf := (if_neg c3).symm.trans hf
        refine lv_aload_n hx hb d_Plan_askInlineSources_34 rfl (lv_at hl 1 rfl) ?_
        refine hq_get hx hb hts i_Plan hown hK hP 37 (by decide) (sc_s_Plan (rfl)) rfl 0 (by decide) (hts _ sc_wd_51) (fun _ h => h) (v := .ref (B + 1)) rfl d_Plan_askInlineSources_35 ?_
        refine hq_getN hx hb hts i_Pipe hown hK hP 1 (by decide) (sc_s_Pipe (rfl)) rfl 1 (by decide) (hts _ sc_wd_52) (fun _ h => h) (v := .ref (B + 2)) rfl d_Plan_askInlineSources_38 ?_
        refine lv_iload hx hb d_Plan_askInlineSources_41 (lv_at hl 0 rfl) ?_
        obtain ⟨g4, hf⟩ := hm_gd_some hf
        refine hq_aald hx hb hK hP 2 (by decide) (sc_s_starr (rfl)) 2 rfl rfl g4 d_Plan_askInlineSources_43 ?_
        refine hq_getN hx hb hts i_Stage hown hK hP (5 + 4 * (M (a2 + 1) x3.toNatClampNeg).toNatClampNeg) (sc_lt (sck_st g4) (by decide)) (sc_s_Stage ((sck_st g4))) rfl 2 (by decide) (hts _ sc_wd_53) (fun _ h => h) (v := .int (M (5 + 4 * (M (a2 + 1) x3.toNatClampNeg).toNatClampNeg) 2)) rfl d_Plan_askInlineSources_44 ?_
        refine lv_if_ne (tgt := 66) hx hb d_Plan_askInlineSources_47 (by decide) (fun c5 => ?_) (fun c5 => ?_)
        · replace hf := (if_neg c5).symm.trans hf
          exact w_Plan_askInlineSources_66 X ih _ _ _ h_a2 _ _ _ _ (lv_sub hl [1, 2, 3, 4] rfl) hP hS hf
        · replace hf := (if_pos c5).symm.trans hf
          refine lv_aload_n hx hb d_Plan_askInlineSources_50 rfl (lv_at hl 1 rfl) ?_
          refine hq_get hx hb hts i_Plan hown hK hP 37 (by decide) (sc_s_Plan (rfl)) rfl 4 (by decide) (hts _ sc_wd_67) (fun _ h => h) (v := .ref (B + 47)) rfl d_Plan_askInlineSources_51 ?_
          refine lv_iload hx hb d_Plan_askInlineSources_54 (lv_at hl 0 rfl) ?_
          refine lv_dup2_11 hx hb d_Plan_askInlineSources_56 rfl rfl ?_
          obtain ⟨g6, hf⟩ := hm_gd_some hf
          refine hq_iald hx hb hK hP 47 (by decide) (sc_s_ia8 (rfl)) 0 rfl g6 d_Plan_askInlineSources_57 ?_
          refine lv_aload_n hx hb d_Plan_askInlineSources_58 rfl (lv_at hl 1 rfl) ?_
          refine hq_get hx hb hts i_Plan hown hK hP 37 (by decide) (sc_s_Plan (rfl)) rfl 4 (by decide) (hts _ sc_wd_67) (fun _ h => h) (v := .ref (B + 47)) rfl d_Plan_askInlineSources_59 ?_
          refine lv_iload_n hx hb d_Plan_askInlineSources_62 rfl (lv_at hl 2 rfl) ?_
          obtain ⟨g7, hf⟩ := hm_gd_some hf
          refine hq_iald hx hb hK hP 47 (by decide) (sc_s_ia8 (rfl)) 0 rfl g7 d_Plan_askInlineSources_63 ?_
          refine lv_iadd hx hb d_Plan_askInlineSources_64 ?_
          obtain ⟨g8, hf⟩ := hm_gd_some hf
          refine hq_iast hx hb hK hP hS 47 (by decide) (sc_s_ia8 (rfl)) 0 rfl g8 d_Plan_askInlineSources_65 (fun H locs hP hS => ?_)
          obtain ⟨M_9, e_9, hf⟩ := hm_st_some hf
          rw [← e_9] at hP
          exact w_Plan_askInlineSources_66 X ih _ _ _ h_a2 _ _ _ _ (lv_sub hl [1, 2, 3, 4] rfl) hP hS hf
set_option maxHeartbeats 4000000 in
set_option maxRecDepth 100000 in
theorem w_Plan_askInlineSources_e {p : Program} {l : Launch} {e : Env} {s : State} {m : MethodId} {args : Array Value} {below : List Frame} {meth : Method} {c : Code} {D : va_G} {ca : Nat → ClassId} {B rl : Nat} {M9 : hm_M} (X : hq_X p s m args meth c b_Plan_askInlineSources R_Plan 5 none D sc_cl (sc_ty ca) hq_tb) : ∀ (x1 : Int32), ∀ (M : hm_M) (H : Heap) (locs : List Loc) (ls : Array Slot), lv_has ls 5 [(0, .ref (B + 37)), (1, .int x1)] → hm_P D sc_cl ca 64 (sc_sh rl) B M hm_L0 H → va_S (hm_A B 64) s.heap H locs → f_Plan_askInlineSources M x1 = some M9 → W p l e ({ frames := 0, cells := 0, slots := 0, locals := 0 } : Room) s m args below meth c H locs 0 0 (MQ below (hq_QV D sc_cl ca 64 (sc_sh rl) B M9 hm_L0) args s 0 0 (hm_A B 64)) (F0 m 0 ls []) := by
  obtain ⟨hx, hb, hml, hown, hr, hlk, hKt⟩ := id X
  have hK := hKt.1
  have hts : ∀ w ∈ hq_tb, w.before args s = true := fun w h => hKt.2.2 w h args
  intro x1 M H locs ls hl hP hS hf
  unfold f_Plan_askInlineSources at hf
  refine lv_aload_n hx hb d_Plan_askInlineSources_0 rfl (lv_at hl 0 rfl) ?_
  refine hq_get hx hb hts i_Plan hown hK hP 37 (by decide) (sc_s_Plan (rfl)) rfl 0 (by decide) (hts _ sc_wd_51) (fun _ h => h) (v := .ref (B + 1)) rfl d_Plan_askInlineSources_1 ?_
  refine hq_getN hx hb hts i_Pipe hown hK hP 1 (by decide) (sc_s_Pipe (rfl)) rfl 1 (by decide) (hts _ sc_wd_52) (fun _ h => h) (v := .ref (B + 2)) rfl d_Plan_askInlineSources_4 ?_
  refine lv_iload_n hx hb d_Plan_askInlineSources_7 rfl (lv_at hl 1 rfl) ?_
  obtain ⟨g1, hf⟩ := hm_gd_some hf
  refine hq_aald hx hb hK hP 2 (by decide) (sc_s_starr (rfl)) 2 rfl rfl g1 d_Plan_askInlineSources_8 ?_
  refine lv_astore_n (lv' := [(2, .ref (B + (5 + 4 * x1.toNatClampNeg))), (0, .ref (B + 37)), (1, .int x1)]) hx hb d_Plan_askInlineSources_9 rfl hl (by decide) rfl (fun ls hl => ?_)
  refine lv_iconst (v := 0) hx hb d_Plan_askInlineSources_10 (by decide) ?_
  refine lv_istore_n (lv' := [(3, .int 0), (2, .ref (B + (5 + 4 * x1.toNatClampNeg))), (0, .ref (B + 37)), (1, .int x1)]) hx hb d_Plan_askInlineSources_11 rfl hl (by decide) rfl (fun ls hl => ?_)
  exact w_Plan_askInlineSources_12 X _ _ _ _ (sck_st g1) _ _ _ _ (lv_sub hl [2, 3, 1, 0] rfl) hP hS hf
set_option maxHeartbeats 4000000 in
set_option maxRecDepth 100000 in
theorem c_Plan_askInlineSources {l : Launch} {D : va_G} {ca : Nat → ClassId} {B rl : Nat} {x1 : Int32} {M M9 : hm_M} (hf : f_Plan_askInlineSources M x1 = some M9) : Met l y_Plan_askInlineSources [Cond.code y_Plan_askInlineSources b_Plan_askInlineSources 5 none] ({ frames := 0, cells := 0, slots := 0, locals := 0 } : Room) (hq_Pre D sc_cl ca 64 (sc_sh rl) B (sc_ty ca) hq_tb M hm_L0 [.ref (B + 37), .int x1]) (hq_QV D sc_cl ca 64 (sc_sh rl) B M9 hm_L0) 0 0 (hm_A B 64) := by
  refine Met.ofW (cc := b_Plan_askInlineSources) (maxL := 5) (ret := none) (by decide +kernel) rfl ?_
  intro p e s m args below meth c s₁ Bd hml hv
  obtain ⟨rfl, hP, hK⟩ := hv
  have hl := lv_entry ([.ref (B + 37), .int x1]) (n := 5) (Nat.le_of_ble_eq_true rfl)
  rw [lg_entry_eq]
  generalize (lg_sl ([.ref (B + 37), .int x1]) ++ List.replicate (5 - (lg_sl ([.ref (B + 37), .int x1])).length) Slot.unset).toArray = ls at hl ⊢
  have hl : lv_has ls 5 [(0, .ref (B + 37)), (1, .int x1)] := hl
  exact w_Plan_askInlineSources_e ⟨Bd.exec, Bd.bytes, hml, findClass_of_methodNamed Bd.named, Bd.returns, Bd.notSynchronized, hK⟩  _ _ _ _ _ hl hP va_S.rf hf
set_option maxHeartbeats 4000000 in
set_option maxRecDepth 100000 in
theorem w_Plan_measureInlines_13 {p : Program} {l : Launch} {e : Env} {s : State} {m : MethodId} {args : Array Value} {below : List Frame} {meth : Method} {c : Code} {D : va_G} {ca : Nat → ClassId} {B rl : Nat} {M9 : hm_M} (X : hq_X p s m args meth c b_Plan_measureInlines R_Plan 2 none D sc_cl (sc_ty ca) hq_tb) : ∀ (n : Nat), ∀ (x1 : Int32), ∀ (M : hm_M) (H : Heap) (locs : List Loc) (ls : Array Slot), lv_has ls 2 [(0, .ref (B + 37)), (1, .int x1)] → hm_P D sc_cl ca 64 (sc_sh rl) B M hm_L0 H → va_S (hm_A B 64) s.heap H locs → f_Plan_measureInlines_13 n x1 M = some M9 → W p l e ({ frames := 1, cells := 0, slots := 0, locals := 24 } : Room) s m args below meth c H locs 0 0 (MQ below (hq_QV D sc_cl ca 64 (sc_sh rl) B M9 hm_L0) args s 0 0 (hm_A B 64)) (F0 m 13 ls []) := by
  obtain ⟨hx, hb, hml, hown, hr, hlk, hKt⟩ := id X
  have hK := hKt.1
  have hts : ∀ w ∈ hq_tb, w.before args s = true := fun w h => hKt.2.2 w h args
  intro n
  induction n with
  | zero =>
    intro x1 M H locs ls hl hP hS hf
    cases hf
  | succ n ih =>
    intro x1 M H locs ls hl hP hS hf
    rw [f_Plan_measureInlines_13] at hf
    refine lv_iload_n hx hb d_Plan_measureInlines_13 rfl (lv_at hl 1 rfl) ?_
    refine lv_if_lt (tgt := 43) hx hb d_Plan_measureInlines_14 (by decide) (fun c1 => ?_) (fun c1 => ?_)
    · replace hf := (if_pos c1).symm.trans hf
      have h8 := Option.some.inj hf
      subst h8
      exact W.vret hx hb hr (fun t ht _ => ⟨⟨(), rfl, trivial, by subst ht; exact hP⟩, hS.F ht⟩) hS.2.2 d_Plan_measureInlines_43 hlk
    · replace hf := (if_neg c1).symm.trans hf
      refine lv_aload_n hx hb d_Plan_measureInlines_17 rfl (lv_at hl 0 rfl) ?_
      refine lv_dup hx hb d_Plan_measureInlines_18 rfl ?_
      refine hq_get hx hb hts i_Plan hown hK hP 37 (by decide) (sc_s_Plan (rfl)) rfl 5 (by decide) (hts _ sc_wd_94) (fun _ h => h) (v := .int (M 37 5)) rfl d_Plan_measureInlines_19 ?_
      refine lv_aload_n hx hb d_Plan_measureInlines_22 rfl (lv_at hl 0 rfl) ?_
      refine hq_get hx hb hts i_Plan hown hK hP 37 (by decide) (sc_s_Plan (rfl)) rfl 4 (by decide) (hts _ sc_wd_67) (fun _ h => h) (v := .ref (B + 47)) rfl d_Plan_measureInlines_23 ?_
      refine lv_iload_n hx hb d_Plan_measureInlines_26 rfl (lv_at hl 1 rfl) ?_
      obtain ⟨g2, hf⟩ := hm_gd_some hf
      refine hq_iald hx hb hK hP 47 (by decide) (sc_s_ia8 (rfl)) 0 rfl g2 d_Plan_measureInlines_27 ?_
      refine lv_iadd hx hb d_Plan_measureInlines_28 ?_
      refine hq_put hx hb hts i_Plan t_Plan t_Plan_ok n_Plan hown hK hP hS 37 (by decide) (sc_s_Plan (rfl)) rfl 5 (by decide) (hts _ sc_wd_94) (fun _ h => h) rfl (ty := .int) (x := ((M 37 5) + (M 47 x1.toNatClampNeg))) (by decide +kernel) rfl rfl rfl d_Plan_measureInlines_29 (fun H locs hP hS => ?_)
      obtain ⟨M_3, e_3, hf⟩ := hm_st_some hf
      rw [← e_3] at hP
      refine lv_aload_n hx hb d_Plan_measureInlines_32 rfl (lv_at hl 0 rfl) ?_
      refine lv_iload_n hx hb d_Plan_measureInlines_33 rfl (lv_at hl 1 rfl) ?_
      obtain ⟨M_5, hc6, hf⟩ := hm_bV_some hf
      refine hq_callV (va_runV (As := [.int x1]) (rest := []) ⟨hx, hb, hml, hown, hts⟩ (c_Plan_askInlineSources (l := l) (D := D) (ca := ca) (B := B) (rl := rl)  hc6) (hq_cwV (nn := 1) hts sc_wd_95 sc_wd_59 sc_wd_96 sc_wd_97 sc_wd_98 (by decide +kernel) rfl rfl ⟨(Nat.le_of_ble_eq_true rfl), (Nat.le_of_ble_eq_true rfl)⟩) (hq_preV hKt hP (by decide) (sc_s_Plan (rfl)) rfl) rfl rfl hl.1 rfl (lv_room (Nat.le_of_ble_eq_true rfl)) d_Plan_measureInlines_34 ⟨(Nat.le_of_ble_eq_true rfl), (Nat.le_of_ble_eq_true rfl)⟩) hS (fun H locs hP hS => ?_)
      refine lv_iinc (v := (x1 + (-1))) (lv' := [(1, .int (x1 + (-1))), (0, .ref (B + 37))]) hx hb d_Plan_measureInlines_37 hl (k := 1) rfl rfl (by decide) rfl (fun ls hl => ?_)
      refine lv_goto (tgt := 13) hx hb d_Plan_measureInlines_40 (by decide) ?_
      exact ih _ _ _ _ _ (lv_sub hl [1, 0] rfl) hP hS hf
set_option maxHeartbeats 4000000 in
set_option maxRecDepth 100000 in
theorem w_Plan_measureInlines_e {p : Program} {l : Launch} {e : Env} {s : State} {m : MethodId} {args : Array Value} {below : List Frame} {meth : Method} {c : Code} {D : va_G} {ca : Nat → ClassId} {B rl : Nat} {M9 : hm_M} (X : hq_X p s m args meth c b_Plan_measureInlines R_Plan 2 none D sc_cl (sc_ty ca) hq_tb) : ∀ (M : hm_M) (H : Heap) (locs : List Loc) (ls : Array Slot), lv_has ls 2 [(0, .ref (B + 37))] → hm_P D sc_cl ca 64 (sc_sh rl) B M hm_L0 H → va_S (hm_A B 64) s.heap H locs → f_Plan_measureInlines M = some M9 → W p l e ({ frames := 1, cells := 0, slots := 0, locals := 24 } : Room) s m args below meth c H locs 0 0 (MQ below (hq_QV D sc_cl ca 64 (sc_sh rl) B M9 hm_L0) args s 0 0 (hm_A B 64)) (F0 m 0 ls []) := by
  obtain ⟨hx, hb, hml, hown, hr, hlk, hKt⟩ := id X
  have hK := hKt.1
  have hts : ∀ w ∈ hq_tb, w.before args s = true := fun w h => hKt.2.2 w h args
  intro  M H locs ls hl hP hS hf
  unfold f_Plan_measureInlines at hf
  refine lv_aload_n hx hb d_Plan_measureInlines_0 rfl (lv_at hl 0 rfl) ?_
  refine lv_iconst (v := 0) hx hb d_Plan_measureInlines_1 (by decide) ?_
  refine hq_put hx hb hts i_Plan t_Plan t_Plan_ok n_Plan hown hK hP hS 37 (by decide) (sc_s_Plan (rfl)) rfl 5 (by decide) (hts _ sc_wd_94) (fun _ h => h) rfl (ty := .int) (x := 0) (by decide +kernel) rfl rfl rfl d_Plan_measureInlines_2 (fun H locs hP hS => ?_)
  obtain ⟨M_1, e_1, hf⟩ := hm_st_some hf
  rw [← e_1] at hP
  refine lv_aload_n hx hb d_Plan_measureInlines_5 rfl (lv_at hl 0 rfl) ?_
  refine hq_get hx hb hts i_Plan hown hK hP 37 (by decide) (sc_s_Plan (rfl)) rfl 0 (by decide) (hts _ sc_wd_51) (fun _ h => h) (v := .ref (B + 1)) rfl d_Plan_measureInlines_6 ?_
  refine hq_getN hx hb hts i_Pipe hown hK hP 1 (by decide) (sc_s_Pipe (rfl)) rfl 5 (by decide) (hts _ sc_wd_57) (fun _ h => h) (v := .int (M_1 1 5)) rfl d_Plan_measureInlines_9 ?_
  refine lv_istore_n (lv' := [(1, .int (M_1 1 5)), (0, .ref (B + 37))]) hx hb d_Plan_measureInlines_12 rfl hl (by decide) rfl (fun ls hl => ?_)
  exact w_Plan_measureInlines_13 X _ _ _ _ _ _ (lv_sub hl [1, 0] rfl) hP hS hf
set_option maxHeartbeats 4000000 in
set_option maxRecDepth 100000 in
theorem c_Plan_measureInlines {l : Launch} {D : va_G} {ca : Nat → ClassId} {B rl : Nat} {M M9 : hm_M} (hf : f_Plan_measureInlines M  = some M9) : Met l y_Plan_measureInlines [Cond.code y_Plan_measureInlines b_Plan_measureInlines 2 none] ({ frames := 1, cells := 0, slots := 0, locals := 24 } : Room) (hq_Pre D sc_cl ca 64 (sc_sh rl) B (sc_ty ca) hq_tb M hm_L0 [.ref (B + 37)]) (hq_QV D sc_cl ca 64 (sc_sh rl) B M9 hm_L0) 0 0 (hm_A B 64) := by
  refine Met.ofW (cc := b_Plan_measureInlines) (maxL := 2) (ret := none) (by decide +kernel) rfl ?_
  intro p e s m args below meth c s₁ Bd hml hv
  obtain ⟨rfl, hP, hK⟩ := hv
  have hl := lv_entry ([.ref (B + 37)]) (n := 2) (Nat.le_of_ble_eq_true rfl)
  rw [lg_entry_eq]
  generalize (lg_sl ([.ref (B + 37)]) ++ List.replicate (2 - (lg_sl ([.ref (B + 37)])).length) Slot.unset).toArray = ls at hl ⊢
  have hl : lv_has ls 2 [(0, .ref (B + 37))] := hl
  exact w_Plan_measureInlines_e ⟨Bd.exec, Bd.bytes, hml, findClass_of_methodNamed Bd.named, Bd.returns, Bd.notSynchronized, hK⟩   _ _ _ _ hl hP va_S.rf hf
set_option maxHeartbeats 4000000 in
set_option maxRecDepth 100000 in
theorem w_Plan_draw_101 {p : Program} {l : Launch} {e : Env} {s : State} {m : MethodId} {args : Array Value} {below : List Frame} {meth : Method} {c : Code} {D : va_G} {ca : Nat → ClassId} {B rl : Nat} {r : Int32} {M9 : hm_M} (X : hq_X p s m args meth c b_Plan_draw R_Plan 2 (some .int) D sc_cl (sc_ty ca) hq_tb) : ∀ (y0 : Int32), ∀ (M : hm_M) (H : Heap) (locs : List Loc) (ls : Array Slot), lv_has ls 2 [] → hm_P D sc_cl ca 64 (sc_sh rl) B M hm_L0 H → va_S (hm_A B 64) s.heap H locs → f_Plan_draw_101 y0 M = some (r, M9) → W p l e ({ frames := 5, cells := 0, slots := 0, locals := 114 } : Room) s m args below meth c H locs 0 0 (MQ below (hq_QI D sc_cl ca 64 (sc_sh rl) B r M9 hm_L0) args s 0 0 (hm_A B 64)) (F0 m 101 ls [.int y0]) := by
  obtain ⟨hx, hb, hml, hown, hr, hlk, hKt⟩ := id X
  have hK := hKt.1
  have hts : ∀ w ∈ hq_tb, w.before args s = true := fun w h => hKt.2.2 w h args
  intro y0 M H locs ls hl hP hS hf
  unfold f_Plan_draw_101 at hf
  obtain ⟨h9, h8⟩ := Prod.mk.inj (Option.some.inj hf)
  subst h9
  subst h8
  exact W.iret hx hb hr (fun t ht _ => ⟨⟨_, (), rfl, rfl, by subst ht; exact hP⟩, hS.F ht⟩) hS.2.2 d_Plan_draw_101 hlk
set_option maxHeartbeats 4000000 in
set_option maxRecDepth 100000 in
theorem w_Plan_draw_e {p : Program} {l : Launch} {e : Env} {s : State} {m : MethodId} {args : Array Value} {below : List Frame} {meth : Method} {c : Code} {D : va_G} {ca : Nat → ClassId} {B rl : Nat} {r : Int32} {M9 : hm_M} (X : hq_X p s m args meth c b_Plan_draw R_Plan 2 (some .int) D sc_cl (sc_ty ca) hq_tb) : ∀ (M : hm_M) (H : Heap) (locs : List Loc) (ls : Array Slot), lv_has ls 2 [(0, .ref (B + 37))] → hm_P D sc_cl ca 64 (sc_sh rl) B M hm_L0 H → va_S (hm_A B 64) s.heap H locs → f_Plan_draw M = some (r, M9) → W p l e ({ frames := 5, cells := 0, slots := 0, locals := 114 } : Room) s m args below meth c H locs 0 0 (MQ below (hq_QI D sc_cl ca 64 (sc_sh rl) B r M9 hm_L0) args s 0 0 (hm_A B 64)) (F0 m 0 ls []) := by
  obtain ⟨hx, hb, hml, hown, hr, hlk, hKt⟩ := id X
  have hK := hKt.1
  have hts : ∀ w ∈ hq_tb, w.before args s = true := fun w h => hKt.2.2 w h args
  intro  M H locs ls hl hP hS hf
  unfold f_Plan_draw at hf
  refine lv_aload_n hx hb d_Plan_draw_0 rfl (lv_at hl 0 rfl) ?_
  refine hq_get hx hb hts i_Plan hown hK hP 37 (by decide) (sc_s_Plan (rfl)) rfl 0 (by decide) (hts _ sc_wd_51) (fun _ h => h) (v := .ref (B + 1)) rfl d_Plan_draw_1 ?_
  refine hq_getN hx hb hts i_Pipe hown hK hP 1 (by decide) (sc_s_Pipe (rfl)) rfl 5 (by decide) (hts _ sc_wd_57) (fun _ h => h) (v := .int (M 1 5)) rfl d_Plan_draw_4 ?_
  refine lv_iconst (v := (-1)) hx hb d_Plan_draw_7 (by decide) ?_
  refine lv_icmp_ne (tgt := 14) hx hb d_Plan_draw_8 (by decide) (fun c1 => ?_) (fun c1 => ?_)
  · replace hf := (if_neg c1).symm.trans hf
    refine lv_aload_n hx hb d_Plan_draw_14 rfl (lv_at hl 0 rfl) ?_
    refine hq_get hx hb hts i_Plan hown hK hP 37 (by decide) (sc_s_Plan (rfl)) rfl 1 (by decide) (hts _ sc_wd_49) (fun _ h => h) (v := .ref (B + 38)) rfl d_Plan_draw_15 ?_
    refine lv_aload_n hx hb d_Plan_draw_18 rfl (lv_at hl 0 rfl) ?_
    refine hq_get hx hb hts i_Plan hown hK hP 37 (by decide) (sc_s_Plan (rfl)) rfl 0 (by decide) (hts _ sc_wd_51) (fun _ h => h) (v := .ref (B + 1)) rfl d_Plan_draw_19 ?_
    refine lv_iconst (v := 0) hx hb d_Plan_draw_22 (by decide) ?_
    refine lv_aload_n hx hb d_Plan_draw_23 rfl (lv_at hl 0 rfl) ?_
    refine hq_get hx hb hts i_Plan hown hK hP 37 (by decide) (sc_s_Plan (rfl)) rfl 0 (by decide) (hts _ sc_wd_51) (fun _ h => h) (v := .ref (B + 1)) rfl d_Plan_draw_24 ?_
    refine hq_getN hx hb hts i_Pipe hown hK hP 1 (by decide) (sc_s_Pipe (rfl)) rfl 6 (by decide) (hts _ sc_wd_68) (fun _ h => h) (v := .int (M 1 6)) rfl d_Plan_draw_27 ?_
    refine lv_iconst (v := 1) hx hb d_Plan_draw_30 (by decide) ?_
    refine lv_isub hx hb d_Plan_draw_31 ?_
    obtain ⟨M_3, hc4, hf⟩ := hm_bV_some hf
    refine hq_callV (va_runVN (As := [.ref (B + 1), .int 0, .int ((M 1 6) - 1)]) (rest := []) ⟨hx, hb, hml, hown, hts⟩ (c_Needs_spread (l := l) (D := D) (ca := ca) (B := B) (rl := rl) rfl hc4) (hq_cwN (nn := 3) hts sc_wd_86 sc_wd_14 sc_wd_87 sc_wd_88 sc_wd_89 (by decide +kernel) rfl rfl ⟨(Nat.le_of_ble_eq_true rfl), (Nat.le_of_ble_eq_true rfl)⟩) (hq_preV hKt hP (by decide) (sc_s_Needs (rfl)) rfl) rfl rfl hl.1 rfl (lv_room (Nat.le_of_ble_eq_true rfl)) d_Plan_draw_32 ⟨(Nat.le_of_ble_eq_true rfl), (Nat.le_of_ble_eq_true rfl)⟩) hS (fun H locs hP hS => ?_)
    refine lv_aload_n hx hb d_Plan_draw_35 rfl (lv_at hl 0 rfl) ?_
    obtain ⟨r5, M_6, hc7, hf⟩ := hm_bI_some hf
    refine hq_callI (va_runV (As := []) (rest := []) ⟨hx, hb, hml, hown, hts⟩ (c_Plan_leastRootThatAsksTiled (l := l) (D := D) (ca := ca) (B := B) (rl := rl)  hc7) (hq_cwV (nn := 0) hts sc_wd_99 sc_wd_59 sc_wd_100 sc_wd_101 sc_wd_102 (by decide +kernel) rfl rfl ⟨(Nat.le_of_ble_eq_true rfl), (Nat.le_of_ble_eq_true rfl)⟩) (hq_preV hKt hP (by decide) (sc_s_Plan (rfl)) rfl) rfl rfl hl.1 rfl (lv_room (Nat.le_of_ble_eq_true rfl)) d_Plan_draw_36 ⟨(Nat.le_of_ble_eq_true rfl), (Nat.le_of_ble_eq_true rfl)⟩) hS (fun H locs hP hS => ?_)
    refine lv_istore_n (lv' := [(1, .int r5), (0, .ref (B + 37))]) hx hb d_Plan_draw_39 rfl hl (by decide) rfl (fun ls hl => ?_)
    refine lv_iload_n hx hb d_Plan_draw_40 rfl (lv_at hl 0 rfl) ?_
    refine lv_if_lt (tgt := 50) hx hb d_Plan_draw_41 (by decide) (fun c8 => ?_) (fun c8 => ?_)
    · replace hf := (if_pos c8).symm.trans hf
      refine lv_aload_n hx hb d_Plan_draw_50 rfl (lv_at hl 1 rfl) ?_
      refine hq_get hx hb hts i_Plan hown hK hP 37 (by decide) (sc_s_Plan (rfl)) rfl 4 (by decide) (hts _ sc_wd_67) (fun _ h => h) (v := .ref (B + 47)) rfl d_Plan_draw_51 ?_
      refine lv_iconst (v := 0) hx hb d_Plan_draw_54 (by decide) ?_
      obtain ⟨M_10, hc11, hf⟩ := hm_bV_some hf
      refine hq_callV (va_runS (As := [.ref (B + 47), .int 0]) (rest := []) ⟨hx, hb, hml, hown, hts⟩ (c_Arrays_fill (l := l) (D := D) (ca := ca) (B := B) (rl := rl) rfl hc11) (hq_cwS (nn := 2) hts sc_wd_103 sc_wd_104 sc_wd_105 sc_wd_106 (by decide +kernel) rfl rfl ⟨(Nat.le_of_ble_eq_true rfl), (Nat.le_of_ble_eq_true rfl)⟩) (hq_preS hKt hP) rfl rfl hl.1 rfl (lv_room (Nat.le_of_ble_eq_true rfl)) d_Plan_draw_55 ⟨(Nat.le_of_ble_eq_true rfl), (Nat.le_of_ble_eq_true rfl)⟩) hS (fun H locs hP hS => ?_)
      refine lv_aload_n hx hb d_Plan_draw_58 rfl (lv_at hl 1 rfl) ?_
      refine lv_iconst (v := 0) hx hb d_Plan_draw_59 (by decide) ?_
      refine hq_put hx hb hts i_Plan t_Plan t_Plan_ok n_Plan hown hK hP hS 37 (by decide) (sc_s_Plan (rfl)) rfl 6 (by decide) (hts _ sc_wd_73) (fun _ h => h) rfl (ty := .int) (x := 0) (by decide +kernel) rfl rfl rfl d_Plan_draw_60 (fun H locs hP hS => ?_)
      obtain ⟨M_12, e_12, hf⟩ := hm_st_some hf
      rw [← e_12] at hP
      refine lv_aload_n hx hb d_Plan_draw_63 rfl (lv_at hl 1 rfl) ?_
      refine lv_iconst (v := 0) hx hb d_Plan_draw_64 (by decide) ?_
      refine hq_put hx hb hts i_Plan t_Plan t_Plan_ok n_Plan hown hK hP hS 37 (by decide) (sc_s_Plan (rfl)) rfl 7 (by decide) (hts _ sc_wd_75) (fun _ h => h) rfl (ty := .int) (x := 0) (by decide +kernel) rfl rfl rfl d_Plan_draw_65 (fun H locs hP hS => ?_)
      obtain ⟨M_13, e_13, hf⟩ := hm_st_some hf
      rw [← e_13] at hP
      refine lv_aload_n hx hb d_Plan_draw_68 rfl (lv_at hl 1 rfl) ?_
      obtain ⟨M_15, hc16, hf⟩ := hm_bV_some hf
      refine hq_callV (va_runV (As := []) (rest := []) ⟨hx, hb, hml, hown, hts⟩ (c_Plan_measureOutput (l := l) (D := D) (ca := ca) (B := B) (rl := rl)  hc16) (hq_cwV (nn := 0) hts sc_wd_107 sc_wd_59 sc_wd_108 sc_wd_109 sc_wd_110 (by decide +kernel) rfl rfl ⟨(Nat.le_of_ble_eq_true rfl), (Nat.le_of_ble_eq_true rfl)⟩) (hq_preV hKt hP (by decide) (sc_s_Plan (rfl)) rfl) rfl rfl hl.1 rfl (lv_room (Nat.le_of_ble_eq_true rfl)) d_Plan_draw_69 ⟨(Nat.le_of_ble_eq_true rfl), (Nat.le_of_ble_eq_true rfl)⟩) hS (fun H locs hP hS => ?_)
      refine lv_aload_n hx hb d_Plan_draw_72 rfl (lv_at hl 1 rfl) ?_
      obtain ⟨M_18, hc19, hf⟩ := hm_bV_some hf
      refine hq_callV (va_runV (As := []) (rest := []) ⟨hx, hb, hml, hown, hts⟩ (c_Plan_measureRoots (l := l) (D := D) (ca := ca) (B := B) (rl := rl)  hc19) (hq_cwV (nn := 0) hts sc_wd_111 sc_wd_59 sc_wd_112 sc_wd_113 sc_wd_114 (by decide +kernel) rfl rfl ⟨(Nat.le_of_ble_eq_true rfl), (Nat.le_of_ble_eq_true rfl)⟩) (hq_preV hKt hP (by decide) (sc_s_Plan (rfl)) rfl) rfl rfl hl.1 rfl (lv_room (Nat.le_of_ble_eq_true rfl)) d_Plan_draw_73 ⟨(Nat.le_of_ble_eq_true rfl), (Nat.le_of_ble_eq_true rfl)⟩) hS (fun H locs hP hS => ?_)
      refine lv_aload_n hx hb d_Plan_draw_76 rfl (lv_at hl 1 rfl) ?_
      obtain ⟨M_21, hc22, hf⟩ := hm_bV_some hf
      refine hq_callV (va_runV (As := []) (rest := []) ⟨hx, hb, hml, hown, hts⟩ (c_Plan_measureTiles (l := l) (D := D) (ca := ca) (B := B) (rl := rl)  hc22) (hq_cwV (nn := 0) hts sc_wd_115 sc_wd_59 sc_wd_116 sc_wd_117 sc_wd_118 (by decide +kernel) rfl rfl ⟨(Nat.le_of_ble_eq_true rfl), (Nat.le_of_ble_eq_true rfl)⟩) (hq_preV hKt hP (by decide) (sc_s_Plan (rfl)) rfl) rfl rfl hl.1 rfl (lv_room (Nat.le_of_ble_eq_true rfl)) d_Plan_draw_77 ⟨(Nat.le_of_ble_eq_true rfl), (Nat.le_of_ble_eq_true rfl)⟩) hS (fun H locs hP hS => ?_)
      refine lv_aload_n hx hb d_Plan_draw_80 rfl (lv_at hl 1 rfl) ?_
      obtain ⟨M_24, hc25, hf⟩ := hm_bV_some hf
      refine hq_callV (va_runV (As := []) (rest := []) ⟨hx, hb, hml, hown, hts⟩ (c_Plan_measureInlines (l := l) (D := D) (ca := ca) (B := B) (rl := rl)  hc25) (hq_cwV (nn := 0) hts sc_wd_119 sc_wd_59 sc_wd_120 sc_wd_121 sc_wd_122 (by decide +kernel) rfl rfl ⟨(Nat.le_of_ble_eq_true rfl), (Nat.le_of_ble_eq_true rfl)⟩) (hq_preV hKt hP (by decide) (sc_s_Plan (rfl)) rfl) rfl rfl hl.1 rfl (lv_room (Nat.le_of_ble_eq_true rfl)) d_Plan_draw_81 ⟨(Nat.le_of_ble_eq_true rfl), (Nat.le_of_ble_eq_true rfl)⟩) hS (fun H locs hP hS => ?_)
      refine lv_aload_n hx hb d_Plan_draw_84 rfl (lv_at hl 1 rfl) ?_
      refine hq_get hx hb hts i_Plan hown hK hP 37 (by decide) (sc_s_Plan (rfl)) rfl 5 (by decide) (hts _ sc_wd_94) (fun _ h => h) (v := .int (M_24 37 5)) rfl d_Plan_draw_85 ?_
      refine lv_sipush (v := 4000) hx hb d_Plan_draw_88 (by decide) ?_
      refine lv_icmp_le (tgt := 100) hx hb d_Plan_draw_91 (by decide) (fun c26 => ?_) (fun c26 => ?_)
      · replace hf := (if_pos c26).symm.trans hf
        refine lv_iconst (v := 0) hx hb d_Plan_draw_100 (by decide) ?_
        exact w_Plan_draw_101 X _ _ _ _ _ (lv_sub hl [] rfl) hP hS hf
      · replace hf := (if_neg c26).symm.trans hf
        refine lv_sipush (v := (-300)) hx hb d_Plan_draw_94 (by decide) ?_
        refine lv_goto (tgt := 101) hx hb d_Plan_draw_97 (by decide) ?_
        exact w_Plan_draw_101 X _ _ _ _ _ (lv_sub hl [] rfl) hP hS hf
    · replace hf := (if_neg c8).symm.trans hf
      refine lv_sipush (v := (-200)) hx hb d_Plan_draw_44 (by decide) ?_
      refine lv_iload_n hx hb d_Plan_draw_47 rfl (lv_at hl 0 rfl) ?_
      refine lv_isub hx hb d_Plan_draw_48 ?_
      obtain ⟨h9, h8⟩ := Prod.mk.inj (Option.some.inj hf)
      subst h9
      subst h8
      exact W.iret hx hb hr (fun t ht _ => ⟨⟨_, (), rfl, rfl, by subst ht; exact hP⟩, hS.F ht⟩) hS.2.2 d_Plan_draw_49 hlk
  · replace hf := (if_pos c1).symm.trans hf
    refine lv_bipush (v := (-100)) hx hb d_Plan_draw_11 (by decide) ?_
    obtain ⟨h9, h8⟩ := Prod.mk.inj (Option.some.inj hf)
    subst h9
    subst h8
    exact W.iret hx hb hr (fun t ht _ => ⟨⟨_, (), rfl, rfl, by subst ht; exact hP⟩, hS.F ht⟩) hS.2.2 d_Plan_draw_13 hlk
set_option maxHeartbeats 4000000 in
set_option maxRecDepth 100000 in
theorem c_Plan_draw {l : Launch} {D : va_G} {ca : Nat → ClassId} {B rl : Nat} {r : Int32} {M M9 : hm_M} (hf : f_Plan_draw M  = some (r, M9)) : Met l y_Plan_draw [Cond.code y_Plan_draw b_Plan_draw 2 (some .int)] ({ frames := 5, cells := 0, slots := 0, locals := 114 } : Room) (hq_Pre D sc_cl ca 64 (sc_sh rl) B (sc_ty ca) hq_tb M hm_L0 [.ref (B + 37)]) (hq_QI D sc_cl ca 64 (sc_sh rl) B r M9 hm_L0) 0 0 (hm_A B 64) := by
  refine Met.ofW (cc := b_Plan_draw) (maxL := 2) (ret := (some .int)) (by decide +kernel) rfl ?_
  intro p e s m args below meth c s₁ Bd hml hv
  obtain ⟨rfl, hP, hK⟩ := hv
  have hl := lv_entry ([.ref (B + 37)]) (n := 2) (Nat.le_of_ble_eq_true rfl)
  rw [lg_entry_eq]
  generalize (lg_sl ([.ref (B + 37)]) ++ List.replicate (2 - (lg_sl ([.ref (B + 37)])).length) Slot.unset).toArray = ls at hl ⊢
  have hl : lv_has ls 2 [(0, .ref (B + 37))] := hl
  exact w_Plan_draw_e ⟨Bd.exec, Bd.bytes, hml, findClass_of_methodNamed Bd.named, Bd.returns, Bd.notSynchronized, hK⟩   _ _ _ _ hl hP va_S.rf hf
