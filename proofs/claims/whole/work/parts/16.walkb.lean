set_option maxHeartbeats 4000000 in
set_option maxRecDepth 100000 in
theorem w_Mo_spread_93 {p : Program} {l : Launch} {e : Env} {s : State} {m : MethodId} {args : Array Value} {below : List Frame} {meth : Method} {c : Code} {D : va_G} {ca : Nat → ClassId} {B : Nat} {M9 : mo_M} (X : hq_X p s m args meth c b_Mo_spread R_Mo 6 none D mo_cl (mo_ty ca) hq_tb) : ∀ (x3 : Int32), ∀ (M : mo_M) (H : Heap) (locs : List Loc) (ls : Array Slot), lv_has ls 6 [(0, .ref (B + 0)), (3, .int x3)] → hm_P D mo_cl ca 15 (mo_sh) B M.1 M.2 H → va_S (hm_A B 15) s.heap H locs → f_Mo_spread_93 x3 M = some M9 → W p l e ({ frames := 0, cells := 0, slots := 0, locals := 0 } : Room) s m args below meth c H locs 0 0 (MQ below (hq_QV D mo_cl ca 15 (mo_sh) B M9.1 M9.2) args s 0 0 (hm_A B 15)) (F0 m 93 ls []) := by
  obtain ⟨hx, hb, hml, hown, hr, hlk, hKt⟩ := id X
  have hK := hKt.1
  have hts : ∀ w ∈ hq_tb, w.before args s = true := fun w h => hKt.2.2 w h args
  intro x3 M H locs ls hl hP hS hf
  unfold f_Mo_spread_93 at hf
  refine lv_aload_n hx hb d_Mo_spread_93 rfl (lv_at hl 0 rfl) ?_
  refine hq_get hx hb hts i_Mo hown hK hP 0 (by decide) (mo_s_Mo (rfl)) rfl 17 (by decide) (hts _ mo_wd_42) (fun _ h => h) (v := .ref (B + 11)) rfl d_Mo_spread_94 ?_
  refine lv_iload_n hx hb d_Mo_spread_97 rfl (lv_at hl 1 rfl) ?_
  refine lv_iconst (v := 1) hx hb d_Mo_spread_98 (by decide) ?_
  obtain ⟨g1, hf⟩ := hm_gd_some hf
  refine hq_zast hx hb hK hP hS 11 (by decide) (mo_s_za8 (rfl)) 1 rfl g1 (Or.inr rfl) d_Mo_spread_99 (fun H locs hP hS => ?_)
  obtain ⟨M_2, e_2, hf⟩ := mo_st_some hf
  replace hP : hm_P D mo_cl ca 15 mo_sh B M_2.1 M_2.2 H := by rw [e_2]; exact hP
  have h8 := Option.some.inj hf
  subst h8
  exact W.vret hx hb hr (fun t ht _ => ⟨⟨(), rfl, trivial, by subst ht; exact hP⟩, hS.F ht⟩) hS.2.2 d_Mo_spread_100 hlk
set_option maxHeartbeats 4000000 in
set_option maxRecDepth 100000 in
theorem w_Mo_spread_85 {p : Program} {l : Launch} {e : Env} {s : State} {m : MethodId} {args : Array Value} {below : List Frame} {meth : Method} {c : Code} {D : va_G} {ca : Nat → ClassId} {B : Nat} {M9 : mo_M} (X : hq_X p s m args meth c b_Mo_spread R_Mo 6 none D mo_cl (mo_ty ca) hq_tb) : ∀ (x3 : Int32), ∀ (x5 : Int32), ∀ (M : mo_M) (H : Heap) (locs : List Loc) (ls : Array Slot), lv_has ls 6 [(0, .ref (B + 0)), (3, .int x3), (5, .int x5)] → hm_P D mo_cl ca 15 (mo_sh) B M.1 M.2 H → va_S (hm_A B 15) s.heap H locs → f_Mo_spread_85 x3 x5 M = some M9 → W p l e ({ frames := 0, cells := 0, slots := 0, locals := 0 } : Room) s m args below meth c H locs 0 0 (MQ below (hq_QV D mo_cl ca 15 (mo_sh) B M9.1 M9.2) args s 0 0 (hm_A B 15)) (F0 m 85 ls []) := by
  obtain ⟨hx, hb, hml, hown, hr, hlk, hKt⟩ := id X
  have hK := hKt.1
  have hts : ∀ w ∈ hq_tb, w.before args s = true := fun w h => hKt.2.2 w h args
  intro x3 x5 M H locs ls hl hP hS hf
  unfold f_Mo_spread_85 at hf
  refine lv_aload_n hx hb d_Mo_spread_85 rfl (lv_at hl 0 rfl) ?_
  refine hq_get hx hb hts i_Mo hown hK hP 0 (by decide) (mo_s_Mo (rfl)) rfl 19 (by decide) (hts _ mo_wd_41) (fun _ h => h) (v := .ref (B + 13)) rfl d_Mo_spread_86 ?_
  refine lv_iload_n hx hb d_Mo_spread_89 rfl (lv_at hl 1 rfl) ?_
  refine lv_iload hx hb d_Mo_spread_90 (lv_at hl 2 rfl) ?_
  obtain ⟨g1, hf⟩ := hm_gd_some hf
  refine hq_iast hx hb hK hP hS 13 (by decide) (mo_s_ia8 (rfl)) 0 rfl g1 d_Mo_spread_92 (fun H locs hP hS => ?_)
  obtain ⟨M_2, e_2, hf⟩ := mo_st_some hf
  replace hP : hm_P D mo_cl ca 15 mo_sh B M_2.1 M_2.2 H := by rw [e_2]; exact hP
  exact w_Mo_spread_93 X _ _ _ _ _ (lv_sub hl [0, 1] rfl) hP hS hf
set_option maxHeartbeats 4000000 in
set_option maxRecDepth 100000 in
theorem w_Mo_spread_65 {p : Program} {l : Launch} {e : Env} {s : State} {m : MethodId} {args : Array Value} {below : List Frame} {meth : Method} {c : Code} {D : va_G} {ca : Nat → ClassId} {B : Nat} {M9 : mo_M} (X : hq_X p s m args meth c b_Mo_spread R_Mo 6 none D mo_cl (mo_ty ca) hq_tb) : ∀ (x3 : Int32), ∀ (x5 : Int32), ∀ (M : mo_M) (H : Heap) (locs : List Loc) (ls : Array Slot), lv_has ls 6 [(0, .ref (B + 0)), (3, .int x3), (5, .int x5)] → hm_P D mo_cl ca 15 (mo_sh) B M.1 M.2 H → va_S (hm_A B 15) s.heap H locs → f_Mo_spread_65 x3 x5 M = some M9 → W p l e ({ frames := 0, cells := 0, slots := 0, locals := 0 } : Room) s m args below meth c H locs 0 0 (MQ below (hq_QV D mo_cl ca 15 (mo_sh) B M9.1 M9.2) args s 0 0 (hm_A B 15)) (F0 m 65 ls []) := by
  obtain ⟨hx, hb, hml, hown, hr, hlk, hKt⟩ := id X
  have hK := hKt.1
  have hts : ∀ w ∈ hq_tb, w.before args s = true := fun w h => hKt.2.2 w h args
  intro x3 x5 M H locs ls hl hP hS hf
  unfold f_Mo_spread_65 at hf
  refine lv_aload_n hx hb d_Mo_spread_65 rfl (lv_at hl 0 rfl) ?_
  refine hq_get hx hb hts i_Mo hown hK hP 0 (by decide) (mo_s_Mo (rfl)) rfl 17 (by decide) (hts _ mo_wd_42) (fun _ h => h) (v := .ref (B + 11)) rfl d_Mo_spread_66 ?_
  refine lv_iload_n hx hb d_Mo_spread_69 rfl (lv_at hl 1 rfl) ?_
  obtain ⟨g1, hf⟩ := hm_gd_some hf
  refine hq_zald hx hb hK hP 11 (by decide) (mo_s_za8 (rfl)) 1 rfl g1 d_Mo_spread_70 ?_
  refine lv_if_eq (tgt := 85) hx hb d_Mo_spread_71 (by decide) (fun c2 => ?_) (fun c2 => ?_)
  · replace hf := (if_pos c2).symm.trans hf
    exact w_Mo_spread_85 X _ _ _ _ _ _ (lv_sub hl [0, 1, 2] rfl) hP hS hf
  · replace hf := (if_neg c2).symm.trans hf
    refine lv_iload hx hb d_Mo_spread_74 (lv_at hl 2 rfl) ?_
    refine lv_aload_n hx hb d_Mo_spread_76 rfl (lv_at hl 0 rfl) ?_
    refine hq_get hx hb hts i_Mo hown hK hP 0 (by decide) (mo_s_Mo (rfl)) rfl 19 (by decide) (hts _ mo_wd_41) (fun _ h => h) (v := .ref (B + 13)) rfl d_Mo_spread_77 ?_
    refine lv_iload_n hx hb d_Mo_spread_80 rfl (lv_at hl 1 rfl) ?_
    obtain ⟨g3, hf⟩ := hm_gd_some hf
    refine hq_iald hx hb hK hP 13 (by decide) (mo_s_ia8 (rfl)) 0 rfl g3 d_Mo_spread_81 ?_
    refine lv_icmp_le (tgt := 93) hx hb d_Mo_spread_82 (by decide) (fun c4 => ?_) (fun c4 => ?_)
    · replace hf := (if_pos c4).symm.trans hf
      exact w_Mo_spread_93 X _ _ _ _ _ (lv_sub hl [0, 1] rfl) hP hS hf
    · replace hf := (if_neg c4).symm.trans hf
      exact w_Mo_spread_85 X _ _ _ _ _ _ (lv_sub hl [0, 1, 2] rfl) hP hS hf
set_option maxHeartbeats 4000000 in
set_option maxRecDepth 100000 in
theorem w_Mo_spread_57 {p : Program} {l : Launch} {e : Env} {s : State} {m : MethodId} {args : Array Value} {below : List Frame} {meth : Method} {c : Code} {D : va_G} {ca : Nat → ClassId} {B : Nat} {M9 : mo_M} (X : hq_X p s m args meth c b_Mo_spread R_Mo 6 none D mo_cl (mo_ty ca) hq_tb) : ∀ (x3 : Int32), ∀ (x4 : Int32), ∀ (x5 : Int32), ∀ (M : mo_M) (H : Heap) (locs : List Loc) (ls : Array Slot), lv_has ls 6 [(0, .ref (B + 0)), (3, .int x3), (4, .int x4), (5, .int x5)] → hm_P D mo_cl ca 15 (mo_sh) B M.1 M.2 H → va_S (hm_A B 15) s.heap H locs → f_Mo_spread_57 x3 x4 x5 M = some M9 → W p l e ({ frames := 0, cells := 0, slots := 0, locals := 0 } : Room) s m args below meth c H locs 0 0 (MQ below (hq_QV D mo_cl ca 15 (mo_sh) B M9.1 M9.2) args s 0 0 (hm_A B 15)) (F0 m 57 ls []) := by
  obtain ⟨hx, hb, hml, hown, hr, hlk, hKt⟩ := id X
  have hK := hKt.1
  have hts : ∀ w ∈ hq_tb, w.before args s = true := fun w h => hKt.2.2 w h args
  intro x3 x4 x5 M H locs ls hl hP hS hf
  unfold f_Mo_spread_57 at hf
  refine lv_aload_n hx hb d_Mo_spread_57 rfl (lv_at hl 0 rfl) ?_
  refine hq_get hx hb hts i_Mo hown hK hP 0 (by decide) (mo_s_Mo (rfl)) rfl 18 (by decide) (hts _ mo_wd_40) (fun _ h => h) (v := .ref (B + 12)) rfl d_Mo_spread_58 ?_
  refine lv_iload_n hx hb d_Mo_spread_61 rfl (lv_at hl 1 rfl) ?_
  refine lv_iload hx hb d_Mo_spread_62 (lv_at hl 2 rfl) ?_
  obtain ⟨g1, hf⟩ := hm_gd_some hf
  refine hq_iast hx hb hK hP hS 12 (by decide) (mo_s_ia8 (rfl)) 0 rfl g1 d_Mo_spread_64 (fun H locs hP hS => ?_)
  obtain ⟨M_2, e_2, hf⟩ := mo_st_some hf
  replace hP : hm_P D mo_cl ca 15 mo_sh B M_2.1 M_2.2 H := by rw [e_2]; exact hP
  exact w_Mo_spread_65 X _ _ _ _ _ _ (lv_sub hl [0, 1, 3] rfl) hP hS hf
set_option maxHeartbeats 4000000 in
set_option maxRecDepth 100000 in
theorem w_Mo_spread_e {p : Program} {l : Launch} {e : Env} {s : State} {m : MethodId} {args : Array Value} {below : List Frame} {meth : Method} {c : Code} {D : va_G} {ca : Nat → ClassId} {B : Nat} {M9 : mo_M} (X : hq_X p s m args meth c b_Mo_spread R_Mo 6 none D mo_cl (mo_ty ca) hq_tb) : ∀ (x1 : Int32), ∀ (x2 : Int32), ∀ (M : mo_M) (H : Heap) (locs : List Loc) (ls : Array Slot), lv_has ls 6 [(0, .ref (B + 0)), (1, .int x1), (2, .int x2)] → hm_P D mo_cl ca 15 (mo_sh) B M.1 M.2 H → va_S (hm_A B 15) s.heap H locs → f_Mo_spread M x1 x2 = some M9 → W p l e ({ frames := 0, cells := 0, slots := 0, locals := 0 } : Room) s m args below meth c H locs 0 0 (MQ below (hq_QV D mo_cl ca 15 (mo_sh) B M9.1 M9.2) args s 0 0 (hm_A B 15)) (F0 m 0 ls []) := by
  obtain ⟨hx, hb, hml, hown, hr, hlk, hKt⟩ := id X
  have hK := hKt.1
  have hts : ∀ w ∈ hq_tb, w.before args s = true := fun w h => hKt.2.2 w h args
  intro x1 x2 M H locs ls hl hP hS hf
  unfold f_Mo_spread at hf
  refine lv_aload_n hx hb d_Mo_spread_0 rfl (lv_at hl 0 rfl) ?_
  refine hq_get hx hb hts i_Mo hown hK hP 0 (by decide) (mo_s_Mo (rfl)) rfl 5 (by decide) (hts _ mo_wd_17) (fun _ h => h) (v := .ref (B + 5)) rfl d_Mo_spread_1 ?_
  refine lv_iload_n hx hb d_Mo_spread_4 rfl (lv_at hl 2 rfl) ?_
  obtain ⟨g1, hf⟩ := hm_gd_some hf
  refine hq_iald hx hb hK hP 5 (by decide) (mo_s_ia32 (rfl)) 0 rfl g1 d_Mo_spread_5 ?_
  refine lv_istore_n (lv' := [(3, .int (M.1 5 x2.toNatClampNeg)), (0, .ref (B + 0)), (1, .int x1), (2, .int x2)]) hx hb d_Mo_spread_6 rfl hl (by decide) rfl (fun ls hl => ?_)
  refine lv_aload_n hx hb d_Mo_spread_7 rfl (lv_at hl 1 rfl) ?_
  refine hq_get hx hb hts i_Mo hown hK hP 0 (by decide) (mo_s_Mo (rfl)) rfl 18 (by decide) (hts _ mo_wd_40) (fun _ h => h) (v := .ref (B + 12)) rfl d_Mo_spread_8 ?_
  refine lv_iload_n hx hb d_Mo_spread_11 rfl (lv_at hl 2 rfl) ?_
  obtain ⟨g2, hf⟩ := hm_gd_some hf
  refine hq_iald hx hb hK hP 12 (by decide) (mo_s_ia8 (rfl)) 0 rfl g2 d_Mo_spread_12 ?_
  refine lv_aload_n hx hb d_Mo_spread_13 rfl (lv_at hl 1 rfl) ?_
  refine hq_get hx hb hts i_Mo hown hK hP 0 (by decide) (mo_s_Mo (rfl)) rfl 6 (by decide) (hts _ mo_wd_18) (fun _ h => h) (v := .ref (B + 6)) rfl d_Mo_spread_14 ?_
  refine lv_iload_n hx hb d_Mo_spread_17 rfl (lv_at hl 3 rfl) ?_
  obtain ⟨g3, hf⟩ := hm_gd_some hf
  refine hq_iald hx hb hK hP 6 (by decide) (mo_s_ia32 (rfl)) 0 rfl g3 d_Mo_spread_18 ?_
  refine lv_iadd hx hb d_Mo_spread_19 ?_
  refine lv_istore (lv' := [(4, .int ((M.1 12 x1.toNatClampNeg) + (M.1 6 x2.toNatClampNeg))), (3, .int (M.1 5 x2.toNatClampNeg)), (0, .ref (B + 0)), (1, .int x1), (2, .int x2)]) hx hb d_Mo_spread_20 hl (by decide) rfl (fun ls hl => ?_)
  refine lv_aload_n hx hb d_Mo_spread_22 rfl (lv_at hl 2 rfl) ?_
  refine hq_get hx hb hts i_Mo hown hK hP 0 (by decide) (mo_s_Mo (rfl)) rfl 19 (by decide) (hts _ mo_wd_41) (fun _ h => h) (v := .ref (B + 13)) rfl d_Mo_spread_23 ?_
  refine lv_iload_n hx hb d_Mo_spread_26 rfl (lv_at hl 3 rfl) ?_
  obtain ⟨g4, hf⟩ := hm_gd_some hf
  refine hq_iald hx hb hK hP 13 (by decide) (mo_s_ia8 (rfl)) 0 rfl g4 d_Mo_spread_27 ?_
  refine lv_aload_n hx hb d_Mo_spread_28 rfl (lv_at hl 2 rfl) ?_
  refine hq_get hx hb hts i_Mo hown hK hP 0 (by decide) (mo_s_Mo (rfl)) rfl 6 (by decide) (hts _ mo_wd_18) (fun _ h => h) (v := .ref (B + 6)) rfl d_Mo_spread_29 ?_
  refine lv_iload_n hx hb d_Mo_spread_32 rfl (lv_at hl 4 rfl) ?_
  obtain ⟨g5, hf⟩ := hm_gd_some hf
  refine hq_iald hx hb hK hP 6 (by decide) (mo_s_ia32 (rfl)) 0 rfl g5 d_Mo_spread_33 ?_
  refine lv_iadd hx hb d_Mo_spread_34 ?_
  refine lv_istore (lv' := [(5, .int ((M.1 13 x1.toNatClampNeg) + (M.1 6 x2.toNatClampNeg))), (4, .int ((M.1 12 x1.toNatClampNeg) + (M.1 6 x2.toNatClampNeg))), (3, .int (M.1 5 x2.toNatClampNeg)), (0, .ref (B + 0)), (1, .int x1), (2, .int x2)]) hx hb d_Mo_spread_35 hl (by decide) rfl (fun ls hl => ?_)
  refine lv_aload_n hx hb d_Mo_spread_37 rfl (lv_at hl 3 rfl) ?_
  refine hq_get hx hb hts i_Mo hown hK hP 0 (by decide) (mo_s_Mo (rfl)) rfl 17 (by decide) (hts _ mo_wd_42) (fun _ h => h) (v := .ref (B + 11)) rfl d_Mo_spread_38 ?_
  refine lv_iload_n hx hb d_Mo_spread_41 rfl (lv_at hl 2 rfl) ?_
  obtain ⟨g6, hf⟩ := hm_gd_some hf
  refine hq_zald hx hb hK hP 11 (by decide) (mo_s_za8 (rfl)) 1 rfl g6 d_Mo_spread_42 ?_
  refine lv_if_eq (tgt := 57) hx hb d_Mo_spread_43 (by decide) (fun c7 => ?_) (fun c7 => ?_)
  · replace hf := (if_pos c7).symm.trans hf
    exact w_Mo_spread_57 X _ _ _ _ _ _ _ (lv_sub hl [3, 2, 1, 0] rfl) hP hS hf
  · replace hf := (if_neg c7).symm.trans hf
    refine lv_iload hx hb d_Mo_spread_46 (lv_at hl 1 rfl) ?_
    refine lv_aload_n hx hb d_Mo_spread_48 rfl (lv_at hl 3 rfl) ?_
    refine hq_get hx hb hts i_Mo hown hK hP 0 (by decide) (mo_s_Mo (rfl)) rfl 18 (by decide) (hts _ mo_wd_40) (fun _ h => h) (v := .ref (B + 12)) rfl d_Mo_spread_49 ?_
    refine lv_iload_n hx hb d_Mo_spread_52 rfl (lv_at hl 2 rfl) ?_
    obtain ⟨g8, hf⟩ := hm_gd_some hf
    refine hq_iald hx hb hK hP 12 (by decide) (mo_s_ia8 (rfl)) 0 rfl g8 d_Mo_spread_53 ?_
    refine lv_icmp_ge (tgt := 65) hx hb d_Mo_spread_54 (by decide) (fun c9 => ?_) (fun c9 => ?_)
    · replace hf := (if_pos c9).symm.trans hf
      exact w_Mo_spread_65 X _ _ _ _ _ _ (lv_sub hl [3, 2, 0] rfl) hP hS hf
    · replace hf := (if_neg c9).symm.trans hf
      exact w_Mo_spread_57 X _ _ _ _ _ _ _ (lv_sub hl [3, 2, 1, 0] rfl) hP hS hf
set_option maxHeartbeats 4000000 in
set_option maxRecDepth 100000 in
theorem c_Mo_spread {l : Launch} {D : va_G} {ca : Nat → ClassId} {B : Nat} {x1 : Int32} {x2 : Int32} {M M9 : mo_M} (hf : f_Mo_spread M x1 x2 = some M9) : Met l y_Mo_spread [Cond.code y_Mo_spread b_Mo_spread 6 none] ({ frames := 0, cells := 0, slots := 0, locals := 0 } : Room) (hq_Pre D mo_cl ca 15 (mo_sh) B (mo_ty ca) hq_tb M.1 M.2 [.ref (B + 0), .int x1, .int x2]) (hq_QV D mo_cl ca 15 (mo_sh) B M9.1 M9.2) 0 0 (hm_A B 15) := by
  refine Met.ofW (cc := b_Mo_spread) (maxL := 6) (ret := none) (by decide +kernel) rfl ?_
  intro p e s m args below meth c s₁ Bd hml hv
  obtain ⟨rfl, hP, hK⟩ := hv
  have hl := lv_entry ([.ref (B + 0), .int x1, .int x2]) (n := 6) (Nat.le_of_ble_eq_true rfl)
  rw [lg_entry_eq]
  generalize (lg_sl ([.ref (B + 0), .int x1, .int x2]) ++ List.replicate (6 - (lg_sl ([.ref (B + 0), .int x1, .int x2])).length) Slot.unset).toArray = ls at hl ⊢
  have hl : lv_has ls 6 [(0, .ref (B + 0)), (1, .int x1), (2, .int x2)] := hl
  exact w_Mo_spread_e ⟨Bd.exec, Bd.bytes, hml, findClass_of_methodNamed Bd.named, Bd.returns, Bd.notSynchronized, hK⟩  _ _ _ _ _ _ hl hP va_S.rf hf
set_option maxHeartbeats 4000000 in
set_option maxRecDepth 100000 in
theorem w_Mo_need_26 {p : Program} {l : Launch} {e : Env} {s : State} {m : MethodId} {args : Array Value} {below : List Frame} {meth : Method} {c : Code} {D : va_G} {ca : Nat → ClassId} {B : Nat} {M9 : mo_M} (X : hq_X p s m args meth c b_Mo_need R_Mo 5 none D mo_cl (mo_ty ca) hq_tb) {k2 : Int32 → Int32 → Int32 → mo_M → Option mo_M} (hk2 : ∀ (x1 : Int32), ∀ (x2 : Int32), ∀ (x3 : Int32), ∀ (M : mo_M) (H : Heap) (locs : List Loc) (ls : Array Slot), lv_has ls 5 [(0, .ref (B + 0)), (1, .int x1), (2, .int x2), (3, .int x3)] → hm_P D mo_cl ca 15 (mo_sh) B M.1 M.2 H → va_S (hm_A B 15) s.heap H locs → k2 x1 x2 x3 M = some M9 → W p l e ({ frames := 1, cells := 0, slots := 0, locals := 25 } : Room) s m args below meth c H locs 0 0 (MQ below (hq_QV D mo_cl ca 15 (mo_sh) B M9.1 M9.2) args s 0 0 (hm_A B 15)) (F0 m 2 ls [])) : ∀ (x1 : Int32), ∀ (x2 : Int32), ∀ (x3 : Int32), ∀ (y1 : Int32), ∀ (y2 : Int32), ∀ (M : mo_M) (H : Heap) (locs : List Loc) (ls : Array Slot), lv_has ls 5 [(0, .ref (B + 0)), (1, .int x1), (2, .int x2), (3, .int x3)] → hm_P D mo_cl ca 15 (mo_sh) B M.1 M.2 H → va_S (hm_A B 15) s.heap H locs → f_Mo_need_26 k2 x1 x2 x3 y1 y2 M = some M9 → W p l e ({ frames := 1, cells := 0, slots := 0, locals := 25 } : Room) s m args below meth c H locs 0 0 (MQ below (hq_QV D mo_cl ca 15 (mo_sh) B M9.1 M9.2) args s 0 0 (hm_A B 15)) (F0 m 26 ls [.int y2, .int y1, .ref (B + 11)]) := by
  obtain ⟨hx, hb, hml, hown, hr, hlk, hKt⟩ := id X
  have hK := hKt.1
  have hts : ∀ w ∈ hq_tb, w.before args s = true := fun w h => hKt.2.2 w h args
  intro x1 x2 x3 y1 y2 M H locs ls hl hP hS hf
  unfold f_Mo_need_26 at hf
  obtain ⟨g1, hf⟩ := hm_gd_some hf
  obtain ⟨g2, hf⟩ := hm_gd_some hf
  refine hq_zast hx hb hK hP hS 11 (by decide) (mo_s_za8 (rfl)) 1 rfl g1 (of_decide_eq_true g2) d_Mo_need_26 (fun H locs hP hS => ?_)
  obtain ⟨M_3, e_3, hf⟩ := mo_st_some hf
  replace hP : hm_P D mo_cl ca 15 mo_sh B M_3.1 M_3.2 H := by rw [e_3]; exact hP
  refine lv_iinc (v := (x3 + 1)) (lv' := [(3, .int (x3 + 1)), (0, .ref (B + 0)), (1, .int x1), (2, .int x2)]) hx hb d_Mo_need_27 hl (k := 3) rfl rfl (by decide) rfl (fun ls hl => ?_)
  refine lv_goto (tgt := 2) hx hb d_Mo_need_30 (by decide) ?_
  exact hk2 _ _ _ _ _ _ _ (lv_sub hl [1, 2, 3, 0] rfl) hP hS hf
set_option maxHeartbeats 4000000 in
set_option maxRecDepth 100000 in
theorem w_Mo_need_108 {p : Program} {l : Launch} {e : Env} {s : State} {m : MethodId} {args : Array Value} {below : List Frame} {meth : Method} {c : Code} {D : va_G} {ca : Nat → ClassId} {B : Nat} {M9 : mo_M} (X : hq_X p s m args meth c b_Mo_need R_Mo 5 none D mo_cl (mo_ty ca) hq_tb) {k58 : Int32 → mo_M → Option mo_M} (hk58 : ∀ (x3 : Int32), ∀ (M : mo_M) (H : Heap) (locs : List Loc) (ls : Array Slot), lv_has ls 5 [(0, .ref (B + 0)), (3, .int x3)] → hm_P D mo_cl ca 15 (mo_sh) B M.1 M.2 H → va_S (hm_A B 15) s.heap H locs → k58 x3 M = some M9 → W p l e ({ frames := 1, cells := 0, slots := 0, locals := 25 } : Room) s m args below meth c H locs 0 0 (MQ below (hq_QV D mo_cl ca 15 (mo_sh) B M9.1 M9.2) args s 0 0 (hm_A B 15)) (F0 m 58 ls [])) {k67 : Int32 → Int32 → mo_M → Option mo_M} (hk67 : ∀ (x3 : Int32), ∀ (x4 : Int32), ∀ (M : mo_M) (H : Heap) (locs : List Loc) (ls : Array Slot), lv_has ls 5 [(0, .ref (B + 0)), (3, .int x3), (4, .int x4)] → hm_P D mo_cl ca 15 (mo_sh) B M.1 M.2 H → va_S (hm_A B 15) s.heap H locs → k67 x3 x4 M = some M9 → W p l e ({ frames := 1, cells := 0, slots := 0, locals := 25 } : Room) s m args below meth c H locs 0 0 (MQ below (hq_QV D mo_cl ca 15 (mo_sh) B M9.1 M9.2) args s 0 0 (hm_A B 15)) (F0 m 67 ls [])) : ∀ (x3 : Int32), ∀ (x4 : Int32), ∀ (M : mo_M) (H : Heap) (locs : List Loc) (ls : Array Slot), lv_has ls 5 [(0, .ref (B + 0)), (3, .int x3), (4, .int x4)] → hm_P D mo_cl ca 15 (mo_sh) B M.1 M.2 H → va_S (hm_A B 15) s.heap H locs → f_Mo_need_108 k58 k67 x3 x4 M = some M9 → W p l e ({ frames := 1, cells := 0, slots := 0, locals := 25 } : Room) s m args below meth c H locs 0 0 (MQ below (hq_QV D mo_cl ca 15 (mo_sh) B M9.1 M9.2) args s 0 0 (hm_A B 15)) (F0 m 108 ls []) := by
  obtain ⟨hx, hb, hml, hown, hr, hlk, hKt⟩ := id X
  have hK := hKt.1
  have hts : ∀ w ∈ hq_tb, w.before args s = true := fun w h => hKt.2.2 w h args
  intro x3 x4 M H locs ls hl hP hS hf
  unfold f_Mo_need_108 at hf
  refine lv_iinc (v := (x4 + 1)) (lv' := [(4, .int (x4 + 1)), (0, .ref (B + 0)), (3, .int x3)]) hx hb d_Mo_need_108 hl (k := 2) rfl rfl (by decide) rfl (fun ls hl => ?_)
  refine lv_goto (tgt := 67) hx hb d_Mo_need_111 (by decide) ?_
  exact hk67 _ _ _ _ _ _ (lv_sub hl [1, 2, 0] rfl) hP hS hf
set_option maxHeartbeats 4000000 in
set_option maxRecDepth 100000 in
theorem w_Mo_need_67 {p : Program} {l : Launch} {e : Env} {s : State} {m : MethodId} {args : Array Value} {below : List Frame} {meth : Method} {c : Code} {D : va_G} {ca : Nat → ClassId} {B : Nat} {M9 : mo_M} (X : hq_X p s m args meth c b_Mo_need R_Mo 5 none D mo_cl (mo_ty ca) hq_tb) {k58 : Int32 → mo_M → Option mo_M} (hk58 : ∀ (x3 : Int32), ∀ (M : mo_M) (H : Heap) (locs : List Loc) (ls : Array Slot), lv_has ls 5 [(0, .ref (B + 0)), (3, .int x3)] → hm_P D mo_cl ca 15 (mo_sh) B M.1 M.2 H → va_S (hm_A B 15) s.heap H locs → k58 x3 M = some M9 → W p l e ({ frames := 1, cells := 0, slots := 0, locals := 25 } : Room) s m args below meth c H locs 0 0 (MQ below (hq_QV D mo_cl ca 15 (mo_sh) B M9.1 M9.2) args s 0 0 (hm_A B 15)) (F0 m 58 ls [])) : ∀ (n : Nat), ∀ (x3 : Int32), ∀ (x4 : Int32), ∀ (M : mo_M) (H : Heap) (locs : List Loc) (ls : Array Slot), lv_has ls 5 [(0, .ref (B + 0)), (3, .int x3), (4, .int x4)] → hm_P D mo_cl ca 15 (mo_sh) B M.1 M.2 H → va_S (hm_A B 15) s.heap H locs → f_Mo_need_67 k58 n x3 x4 M = some M9 → W p l e ({ frames := 1, cells := 0, slots := 0, locals := 25 } : Room) s m args below meth c H locs 0 0 (MQ below (hq_QV D mo_cl ca 15 (mo_sh) B M9.1 M9.2) args s 0 0 (hm_A B 15)) (F0 m 67 ls []) := by
  obtain ⟨hx, hb, hml, hown, hr, hlk, hKt⟩ := id X
  have hK := hKt.1
  have hts : ∀ w ∈ hq_tb, w.before args s = true := fun w h => hKt.2.2 w h args
  intro n
  induction n with
  | zero =>
    intro x3 x4 M H locs ls hl hP hS hf
    cases hf
  | succ n ih =>
    intro x3 x4 M H locs ls hl hP hS hf
    rw [f_Mo_need_67] at hf
    refine lv_iload hx hb d_Mo_need_67 (lv_at hl 2 rfl) ?_
    refine lv_iload_n hx hb d_Mo_need_69 rfl (lv_at hl 1 rfl) ?_
    refine lv_iconst (v := 4) hx hb d_Mo_need_70 (by decide) ?_
    refine lv_imul hx hb d_Mo_need_71 ?_
    refine lv_aload_n hx hb d_Mo_need_72 rfl (lv_at hl 0 rfl) ?_
    refine hq_get hx hb hts i_Mo hown hK hP 0 (by decide) (mo_s_Mo (rfl)) rfl 8 (by decide) (hts _ mo_wd_16) (fun _ h => h) (v := .ref (B + 8)) rfl d_Mo_need_73 ?_
    refine lv_iload_n hx hb d_Mo_need_76 rfl (lv_at hl 1 rfl) ?_
    obtain ⟨g1, hf⟩ := hm_gd_some hf
    refine hq_iald hx hb hK hP 8 (by decide) (mo_s_ia8 (rfl)) 0 rfl g1 d_Mo_need_77 ?_
    refine lv_iadd hx hb d_Mo_need_78 ?_
    refine lv_icmp_ge (tgt := 114) hx hb d_Mo_need_79 (by decide) (fun c2 => ?_) (fun c2 => ?_)
    · replace hf := (if_pos c2).symm.trans hf
      refine lv_iinc (v := (x3 + (-1))) (lv' := [(3, .int (x3 + (-1))), (0, .ref (B + 0)), (4, .int x4)]) hx hb d_Mo_need_114 hl (k := 1) rfl rfl (by decide) rfl (fun ls hl => ?_)
      refine lv_goto (tgt := 58) hx hb d_Mo_need_117 (by decide) ?_
      exact hk58 _ _ _ _ _ (lv_sub hl [1, 0] rfl) hP hS hf
    · replace hf := (if_neg c2).symm.trans hf
      refine lv_aload_n hx hb d_Mo_need_82 rfl (lv_at hl 0 rfl) ?_
      refine hq_get hx hb hts i_Mo hown hK hP 0 (by decide) (mo_s_Mo (rfl)) rfl 17 (by decide) (hts _ mo_wd_42) (fun _ h => h) (v := .ref (B + 11)) rfl d_Mo_need_83 ?_
      refine lv_iload_n hx hb d_Mo_need_86 rfl (lv_at hl 1 rfl) ?_
      obtain ⟨g3, hf⟩ := hm_gd_some hf
      refine hq_zald hx hb hK hP 11 (by decide) (mo_s_za8 (rfl)) 1 rfl g3 d_Mo_need_87 ?_
      refine lv_if_eq (tgt := 108) hx hb d_Mo_need_88 (by decide) (fun c4 => ?_) (fun c4 => ?_)
      · replace hf := (if_pos c4).symm.trans hf
        exact w_Mo_need_108 X hk58 ih _ _ _ _ _ _ (lv_sub hl [0, 1, 2] rfl) hP hS hf
      · replace hf := (if_neg c4).symm.trans hf
        refine lv_aload_n hx hb d_Mo_need_91 rfl (lv_at hl 0 rfl) ?_
        refine hq_get hx hb hts i_Mo hown hK hP 0 (by decide) (mo_s_Mo (rfl)) rfl 5 (by decide) (hts _ mo_wd_17) (fun _ h => h) (v := .ref (B + 5)) rfl d_Mo_need_92 ?_
        refine lv_iload hx hb d_Mo_need_95 (lv_at hl 2 rfl) ?_
        obtain ⟨g5, hf⟩ := hm_gd_some hf
        refine hq_iald hx hb hK hP 5 (by decide) (mo_s_ia32 (rfl)) 0 rfl g5 d_Mo_need_97 ?_
        refine lv_if_lt (tgt := 108) hx hb d_Mo_need_98 (by decide) (fun c6 => ?_) (fun c6 => ?_)
        · replace hf := (if_pos c6).symm.trans hf
          exact w_Mo_need_108 X hk58 ih _ _ _ _ _ _ (lv_sub hl [0, 1, 2] rfl) hP hS hf
        · replace hf := (if_neg c6).symm.trans hf
          refine lv_aload_n hx hb d_Mo_need_101 rfl (lv_at hl 0 rfl) ?_
          refine lv_iload_n hx hb d_Mo_need_102 rfl (lv_at hl 1 rfl) ?_
          refine lv_iload hx hb d_Mo_need_103 (lv_at hl 2 rfl) ?_
          obtain ⟨M_8, hc9, hf⟩ := hm_bV_some hf
          refine hq_callV (va_runV (As := [.int x3, .int x4]) (rest := []) ⟨hx, hb, hml, hown, hts⟩ (c_Mo_spread (l := l) (D := D) (ca := ca) (B := B)  hc9) (hq_cwV (nn := 2) hts mo_wd_43 mo_wd_6 mo_wd_44 mo_wd_45 mo_wd_46 (by decide +kernel) rfl rfl ⟨(Nat.le_of_ble_eq_true rfl), (Nat.le_of_ble_eq_true rfl)⟩) (hq_preV hKt hP (by decide) (mo_s_Mo (rfl)) rfl) rfl rfl hl.1 rfl (lv_room (Nat.le_of_ble_eq_true rfl)) d_Mo_need_105 ⟨(Nat.le_of_ble_eq_true rfl), (Nat.le_of_ble_eq_true rfl)⟩) hS (fun H locs hP hS => ?_)
          exact w_Mo_need_108 X hk58 ih _ _ _ _ _ _ (lv_sub hl [0, 1, 2] rfl) hP hS hf
set_option maxHeartbeats 4000000 in
set_option maxRecDepth 100000 in
theorem w_Mo_need_58 {p : Program} {l : Launch} {e : Env} {s : State} {m : MethodId} {args : Array Value} {below : List Frame} {meth : Method} {c : Code} {D : va_G} {ca : Nat → ClassId} {B : Nat} {M9 : mo_M} (X : hq_X p s m args meth c b_Mo_need R_Mo 5 none D mo_cl (mo_ty ca) hq_tb) : ∀ (n : Nat), ∀ (x3 : Int32), ∀ (M : mo_M) (H : Heap) (locs : List Loc) (ls : Array Slot), lv_has ls 5 [(0, .ref (B + 0)), (3, .int x3)] → hm_P D mo_cl ca 15 (mo_sh) B M.1 M.2 H → va_S (hm_A B 15) s.heap H locs → f_Mo_need_58 n x3 M = some M9 → W p l e ({ frames := 1, cells := 0, slots := 0, locals := 25 } : Room) s m args below meth c H locs 0 0 (MQ below (hq_QV D mo_cl ca 15 (mo_sh) B M9.1 M9.2) args s 0 0 (hm_A B 15)) (F0 m 58 ls []) := by
  obtain ⟨hx, hb, hml, hown, hr, hlk, hKt⟩ := id X
  have hK := hKt.1
  have hts : ∀ w ∈ hq_tb, w.before args s = true := fun w h => hKt.2.2 w h args
  intro n
  induction n with
  | zero =>
    intro x3 M H locs ls hl hP hS hf
    cases hf
  | succ n ih =>
    intro x3 M H locs ls hl hP hS hf
    rw [f_Mo_need_58] at hf
    refine lv_iload_n hx hb d_Mo_need_58 rfl (lv_at hl 1 rfl) ?_
    refine lv_if_lt (tgt := 120) hx hb d_Mo_need_59 (by decide) (fun c1 => ?_) (fun c1 => ?_)
    · replace hf := (if_pos c1).symm.trans hf
      have h8 := Option.some.inj hf
      subst h8
      exact W.vret hx hb hr (fun t ht _ => ⟨⟨(), rfl, trivial, by subst ht; exact hP⟩, hS.F ht⟩) hS.2.2 d_Mo_need_120 hlk
    · replace hf := (if_neg c1).symm.trans hf
      refine lv_iload_n hx hb d_Mo_need_62 rfl (lv_at hl 1 rfl) ?_
      refine lv_iconst (v := 4) hx hb d_Mo_need_63 (by decide) ?_
      refine lv_imul hx hb d_Mo_need_64 ?_
      refine lv_istore (lv' := [(4, .int (x3 * 4)), (0, .ref (B + 0)), (3, .int x3)]) hx hb d_Mo_need_65 hl (by decide) rfl (fun ls hl => ?_)
      exact w_Mo_need_67 X ih _ _ _ _ _ _ _ (lv_sub hl [1, 2, 0] rfl) hP hS hf
set_option maxHeartbeats 4000000 in
set_option maxRecDepth 100000 in
theorem w_Mo_need_2 {p : Program} {l : Launch} {e : Env} {s : State} {m : MethodId} {args : Array Value} {below : List Frame} {meth : Method} {c : Code} {D : va_G} {ca : Nat → ClassId} {B : Nat} {M9 : mo_M} (X : hq_X p s m args meth c b_Mo_need R_Mo 5 none D mo_cl (mo_ty ca) hq_tb) : ∀ (n : Nat), ∀ (x1 : Int32), ∀ (x2 : Int32), ∀ (x3 : Int32), ∀ (M : mo_M) (H : Heap) (locs : List Loc) (ls : Array Slot), lv_has ls 5 [(0, .ref (B + 0)), (1, .int x1), (2, .int x2), (3, .int x3)] → hm_P D mo_cl ca 15 (mo_sh) B M.1 M.2 H → va_S (hm_A B 15) s.heap H locs → f_Mo_need_2 n x1 x2 x3 M = some M9 → W p l e ({ frames := 1, cells := 0, slots := 0, locals := 25 } : Room) s m args below meth c H locs 0 0 (MQ below (hq_QV D mo_cl ca 15 (mo_sh) B M9.1 M9.2) args s 0 0 (hm_A B 15)) (F0 m 2 ls []) := by
  obtain ⟨hx, hb, hml, hown, hr, hlk, hKt⟩ := id X
  have hK := hKt.1
  have hts : ∀ w ∈ hq_tb, w.before args s = true := fun w h => hKt.2.2 w h args
  intro n
  induction n with
  | zero =>
    intro x1 x2 x3 M H locs ls hl hP hS hf
    cases hf
  | succ n ih =>
    intro x1 x2 x3 M H locs ls hl hP hS hf
    rw [f_Mo_need_2] at hf
    refine lv_iload_n hx hb d_Mo_need_2 rfl (lv_at hl 3 rfl) ?_
    refine lv_bipush (v := 8) hx hb d_Mo_need_3 (by decide) ?_
    refine lv_icmp_ge (tgt := 33) hx hb d_Mo_need_5 (by decide) (fun c1 => ?_) (fun c1 => ?_)
    · replace hf := (if_pos c1).symm.trans hf
      refine lv_aload_n hx hb d_Mo_need_33 rfl (lv_at hl 0 rfl) ?_
      refine hq_get hx hb hts i_Mo hown hK hP 0 (by decide) (mo_s_Mo (rfl)) rfl 18 (by decide) (hts _ mo_wd_40) (fun _ h => h) (v := .ref (B + 12)) rfl d_Mo_need_34 ?_
      refine lv_aload_n hx hb d_Mo_need_37 rfl (lv_at hl 0 rfl) ?_
      refine hq_get hx hb hts i_Mo hown hK hP 0 (by decide) (mo_s_Mo (rfl)) rfl 11 (by decide) (hts _ mo_wd_22) (fun _ h => h) (v := .int (M.1 0 11)) rfl d_Mo_need_38 ?_
      refine lv_iload_n hx hb d_Mo_need_41 rfl (lv_at hl 1 rfl) ?_
      obtain ⟨g2, hf⟩ := hm_gd_some hf
      refine hq_iast hx hb hK hP hS 12 (by decide) (mo_s_ia8 (rfl)) 0 rfl g2 d_Mo_need_42 (fun H locs hP hS => ?_)
      obtain ⟨M_3, e_3, hf⟩ := mo_st_some hf
      replace hP : hm_P D mo_cl ca 15 mo_sh B M_3.1 M_3.2 H := by rw [e_3]; exact hP
      refine lv_aload_n hx hb d_Mo_need_43 rfl (lv_at hl 0 rfl) ?_
      refine hq_get hx hb hts i_Mo hown hK hP 0 (by decide) (mo_s_Mo (rfl)) rfl 19 (by decide) (hts _ mo_wd_41) (fun _ h => h) (v := .ref (B + 13)) rfl d_Mo_need_44 ?_
      refine lv_aload_n hx hb d_Mo_need_47 rfl (lv_at hl 0 rfl) ?_
      refine hq_get hx hb hts i_Mo hown hK hP 0 (by decide) (mo_s_Mo (rfl)) rfl 11 (by decide) (hts _ mo_wd_22) (fun _ h => h) (v := .int (M_3.1 0 11)) rfl d_Mo_need_48 ?_
      refine lv_iload_n hx hb d_Mo_need_51 rfl (lv_at hl 2 rfl) ?_
      obtain ⟨g4, hf⟩ := hm_gd_some hf
      refine hq_iast hx hb hK hP hS 13 (by decide) (mo_s_ia8 (rfl)) 0 rfl g4 d_Mo_need_52 (fun H locs hP hS => ?_)
      obtain ⟨M_5, e_5, hf⟩ := mo_st_some hf
      replace hP : hm_P D mo_cl ca 15 mo_sh B M_5.1 M_5.2 H := by rw [e_5]; exact hP
      refine lv_aload_n hx hb d_Mo_need_53 rfl (lv_at hl 0 rfl) ?_
      refine hq_get hx hb hts i_Mo hown hK hP 0 (by decide) (mo_s_Mo (rfl)) rfl 11 (by decide) (hts _ mo_wd_22) (fun _ h => h) (v := .int (M_5.1 0 11)) rfl d_Mo_need_54 ?_
      refine lv_istore_n (lv' := [(3, .int (M_5.1 0 11)), (0, .ref (B + 0)), (1, .int x1), (2, .int x2)]) hx hb d_Mo_need_57 rfl hl (by decide) rfl (fun ls hl => ?_)
      exact w_Mo_need_58 X _ _ _ _ _ _ (lv_sub hl [1, 0] rfl) hP hS hf
    · replace hf := (if_neg c1).symm.trans hf
      refine lv_aload_n hx hb d_Mo_need_8 rfl (lv_at hl 0 rfl) ?_
      refine hq_get hx hb hts i_Mo hown hK hP 0 (by decide) (mo_s_Mo (rfl)) rfl 17 (by decide) (hts _ mo_wd_42) (fun _ h => h) (v := .ref (B + 11)) rfl d_Mo_need_9 ?_
      refine lv_iload_n hx hb d_Mo_need_12 rfl (lv_at hl 3 rfl) ?_
      refine lv_iload_n hx hb d_Mo_need_13 rfl (lv_at hl 3 rfl) ?_
      refine lv_aload_n hx hb d_Mo_need_14 rfl (lv_at hl 0 rfl) ?_
      refine hq_get hx hb hts i_Mo hown hK hP 0 (by decide) (mo_s_Mo (rfl)) rfl 11 (by decide) (hts _ mo_wd_22) (fun _ h => h) (v := .int (M.1 0 11)) rfl d_Mo_need_15 ?_
      refine lv_icmp_ne (tgt := 25) hx hb d_Mo_need_18 (by decide) (fun c6 => ?_) (fun c6 => ?_)
      · replace hf := (if_neg c6).symm.trans hf
        refine lv_iconst (v := 0) hx hb d_Mo_need_25 (by decide) ?_
        exact w_Mo_need_26 X ih _ _ _ _ _ _ _ _ _ (lv_sub hl [0, 1, 2, 3] rfl) hP hS hf
      · replace hf := (if_pos c6).symm.trans hf
        refine lv_iconst (v := 1) hx hb d_Mo_need_21 (by decide) ?_
        refine lv_goto (tgt := 26) hx hb d_Mo_need_22 (by decide) ?_
        exact w_Mo_need_26 X ih _ _ _ _ _ _ _ _ _ (lv_sub hl [0, 1, 2, 3] rfl) hP hS hf
set_option maxHeartbeats 4000000 in
set_option maxRecDepth 100000 in
theorem w_Mo_need_e {p : Program} {l : Launch} {e : Env} {s : State} {m : MethodId} {args : Array Value} {below : List Frame} {meth : Method} {c : Code} {D : va_G} {ca : Nat → ClassId} {B : Nat} {M9 : mo_M} (X : hq_X p s m args meth c b_Mo_need R_Mo 5 none D mo_cl (mo_ty ca) hq_tb) : ∀ (x1 : Int32), ∀ (x2 : Int32), ∀ (M : mo_M) (H : Heap) (locs : List Loc) (ls : Array Slot), lv_has ls 5 [(0, .ref (B + 0)), (1, .int x1), (2, .int x2)] → hm_P D mo_cl ca 15 (mo_sh) B M.1 M.2 H → va_S (hm_A B 15) s.heap H locs → f_Mo_need M x1 x2 = some M9 → W p l e ({ frames := 1, cells := 0, slots := 0, locals := 25 } : Room) s m args below meth c H locs 0 0 (MQ below (hq_QV D mo_cl ca 15 (mo_sh) B M9.1 M9.2) args s 0 0 (hm_A B 15)) (F0 m 0 ls []) := by
  obtain ⟨hx, hb, hml, hown, hr, hlk, hKt⟩ := id X
  have hK := hKt.1
  have hts : ∀ w ∈ hq_tb, w.before args s = true := fun w h => hKt.2.2 w h args
  intro x1 x2 M H locs ls hl hP hS hf
  unfold f_Mo_need at hf
  refine lv_iconst (v := 0) hx hb d_Mo_need_0 (by decide) ?_
  refine lv_istore_n (lv' := [(3, .int 0), (0, .ref (B + 0)), (1, .int x1), (2, .int x2)]) hx hb d_Mo_need_1 rfl hl (by decide) rfl (fun ls hl => ?_)
  exact w_Mo_need_2 X _ _ _ _ _ _ _ _ (lv_sub hl [1, 2, 3, 0] rfl) hP hS hf
set_option maxHeartbeats 4000000 in
set_option maxRecDepth 100000 in
theorem c_Mo_need {l : Launch} {D : va_G} {ca : Nat → ClassId} {B : Nat} {x1 : Int32} {x2 : Int32} {M M9 : mo_M} (hf : f_Mo_need M x1 x2 = some M9) : Met l y_Mo_need [Cond.code y_Mo_need b_Mo_need 5 none] ({ frames := 1, cells := 0, slots := 0, locals := 25 } : Room) (hq_Pre D mo_cl ca 15 (mo_sh) B (mo_ty ca) hq_tb M.1 M.2 [.ref (B + 0), .int x1, .int x2]) (hq_QV D mo_cl ca 15 (mo_sh) B M9.1 M9.2) 0 0 (hm_A B 15) := by
  refine Met.ofW (cc := b_Mo_need) (maxL := 5) (ret := none) (by decide +kernel) rfl ?_
  intro p e s m args below meth c s₁ Bd hml hv
  obtain ⟨rfl, hP, hK⟩ := hv
  have hl := lv_entry ([.ref (B + 0), .int x1, .int x2]) (n := 5) (Nat.le_of_ble_eq_true rfl)
  rw [lg_entry_eq]
  generalize (lg_sl ([.ref (B + 0), .int x1, .int x2]) ++ List.replicate (5 - (lg_sl ([.ref (B + 0), .int x1, .int x2])).length) Slot.unset).toArray = ls at hl ⊢
  have hl : lv_has ls 5 [(0, .ref (B + 0)), (1, .int x1), (2, .int x2)] := hl
  exact w_Mo_need_e ⟨Bd.exec, Bd.bytes, hml, findClass_of_methodNamed Bd.named, Bd.returns, Bd.notSynchronized, hK⟩  _ _ _ _ _ _ hl hP va_S.rf hf
set_option maxHeartbeats 4000000 in
set_option maxRecDepth 100000 in
theorem w_Mo_tiles_e {p : Program} {l : Launch} {e : Env} {s : State} {m : MethodId} {args : Array Value} {below : List Frame} {meth : Method} {c : Code} {D : va_G} {ca : Nat → ClassId} {B : Nat} {r : Int32} {M9 : mo_M} (X : hq_X p s m args meth c b_Mo_tiles R_Mo 1 (some .int) D mo_cl (mo_ty ca) hq_tb) : ∀ (M : mo_M) (H : Heap) (locs : List Loc) (ls : Array Slot), lv_has ls 1 [(0, .ref (B + 0))] → hm_P D mo_cl ca 15 (mo_sh) B M.1 M.2 H → va_S (hm_A B 15) s.heap H locs → f_Mo_tiles M = some (r, M9) → W p l e ({ frames := 0, cells := 0, slots := 0, locals := 0 } : Room) s m args below meth c H locs 0 0 (MQ below (hq_QI D mo_cl ca 15 (mo_sh) B r M9.1 M9.2) args s 0 0 (hm_A B 15)) (F0 m 0 ls []) := by
  obtain ⟨hx, hb, hml, hown, hr, hlk, hKt⟩ := id X
  have hK := hKt.1
  have hts : ∀ w ∈ hq_tb, w.before args s = true := fun w h => hKt.2.2 w h args
  intro  M H locs ls hl hP hS hf
  unfold f_Mo_tiles at hf
  refine lv_aload_n hx hb d_Mo_tiles_0 rfl (lv_at hl 0 rfl) ?_
  refine hq_get hx hb hts i_Mo hown hK hP 0 (by decide) (mo_s_Mo (rfl)) rfl 12 (by decide) (hts _ mo_wd_23) (fun _ h => h) (v := .int (M.1 0 12)) rfl d_Mo_tiles_1 ?_
  refine lv_aload_n hx hb d_Mo_tiles_4 rfl (lv_at hl 0 rfl) ?_
  refine hq_get hx hb hts i_Mo hown hK hP 0 (by decide) (mo_s_Mo (rfl)) rfl 10 (by decide) (hts _ mo_wd_21) (fun _ h => h) (v := .int (M.1 0 10)) rfl d_Mo_tiles_5 ?_
  refine lv_iadd hx hb d_Mo_tiles_8 ?_
  refine lv_iconst (v := 1) hx hb d_Mo_tiles_9 (by decide) ?_
  refine lv_isub hx hb d_Mo_tiles_10 ?_
  refine lv_aload_n hx hb d_Mo_tiles_11 rfl (lv_at hl 0 rfl) ?_
  refine hq_get hx hb hts i_Mo hown hK hP 0 (by decide) (mo_s_Mo (rfl)) rfl 10 (by decide) (hts _ mo_wd_21) (fun _ h => h) (v := .int (M.1 0 10)) rfl d_Mo_tiles_12 ?_
  obtain ⟨g1, hf⟩ := hm_gd_some hf
  refine lv_idiv hx hb d_Mo_tiles_15 (of_decide_eq_true g1) ?_
  obtain ⟨h9, h8⟩ := Prod.mk.inj (Option.some.inj hf)
  subst h9
  subst h8
  exact W.iret hx hb hr (fun t ht _ => ⟨⟨_, (), rfl, rfl, by subst ht; exact hP⟩, hS.F ht⟩) hS.2.2 d_Mo_tiles_16 hlk
set_option maxHeartbeats 4000000 in
set_option maxRecDepth 100000 in
theorem c_Mo_tiles {l : Launch} {D : va_G} {ca : Nat → ClassId} {B : Nat} {r : Int32} {M M9 : mo_M} (hf : f_Mo_tiles M  = some (r, M9)) : Met l y_Mo_tiles [Cond.code y_Mo_tiles b_Mo_tiles 1 (some .int)] ({ frames := 0, cells := 0, slots := 0, locals := 0 } : Room) (hq_Pre D mo_cl ca 15 (mo_sh) B (mo_ty ca) hq_tb M.1 M.2 [.ref (B + 0)]) (hq_QI D mo_cl ca 15 (mo_sh) B r M9.1 M9.2) 0 0 (hm_A B 15) := by
  refine Met.ofW (cc := b_Mo_tiles) (maxL := 1) (ret := (some .int)) (by decide +kernel) rfl ?_
  intro p e s m args below meth c s₁ Bd hml hv
  obtain ⟨rfl, hP, hK⟩ := hv
  have hl := lv_entry ([.ref (B + 0)]) (n := 1) (Nat.le_of_ble_eq_true rfl)
  rw [lg_entry_eq]
  generalize (lg_sl ([.ref (B + 0)]) ++ List.replicate (1 - (lg_sl ([.ref (B + 0)])).length) Slot.unset).toArray = ls at hl ⊢
  have hl : lv_has ls 1 [(0, .ref (B + 0))] := hl
  exact w_Mo_tiles_e ⟨Bd.exec, Bd.bytes, hml, findClass_of_methodNamed Bd.named, Bd.returns, Bd.notSynchronized, hK⟩   _ _ _ _ hl hP va_S.rf hf
set_option maxHeartbeats 4000000 in
set_option maxRecDepth 100000 in
theorem w_Mo_needTile_47 {p : Program} {l : Launch} {e : Env} {s : State} {m : MethodId} {args : Array Value} {below : List Frame} {meth : Method} {c : Code} {D : va_G} {ca : Nat → ClassId} {B : Nat} {M9 : mo_M} (X : hq_X p s m args meth c b_Mo_needTile R_Mo 2 none D mo_cl (mo_ty ca) hq_tb) : ∀ (y1 : Int32), ∀ (y2 : Int32), ∀ (M : mo_M) (H : Heap) (locs : List Loc) (ls : Array Slot), lv_has ls 2 [] → hm_P D mo_cl ca 15 (mo_sh) B M.1 M.2 H → va_S (hm_A B 15) s.heap H locs → f_Mo_needTile_47 y1 y2 M = some M9 → W p l e ({ frames := 2, cells := 0, slots := 0, locals := 49 } : Room) s m args below meth c H locs 0 0 (MQ below (hq_QV D mo_cl ca 15 (mo_sh) B M9.1 M9.2) args s 0 0 (hm_A B 15)) (F0 m 47 ls [.int y2, .int y1, .ref (B + 0)]) := by
  obtain ⟨hx, hb, hml, hown, hr, hlk, hKt⟩ := id X
  have hK := hKt.1
  have hts : ∀ w ∈ hq_tb, w.before args s = true := fun w h => hKt.2.2 w h args
  intro y1 y2 M H locs ls hl hP hS hf
  unfold f_Mo_needTile_47 at hf
  obtain ⟨M_2, hc3, hf⟩ := hm_bV_some hf
  refine hq_callV (va_runV (As := [.int y1, .int y2]) (rest := []) ⟨hx, hb, hml, hown, hts⟩ (c_Mo_need (l := l) (D := D) (ca := ca) (B := B)  hc3) (hq_cwV (nn := 2) hts mo_wd_47 mo_wd_6 mo_wd_48 mo_wd_49 mo_wd_50 (by decide +kernel) rfl rfl ⟨(Nat.le_of_ble_eq_true rfl), (Nat.le_of_ble_eq_true rfl)⟩) (hq_preV hKt hP (by decide) (mo_s_Mo (rfl)) rfl) rfl rfl hl.1 rfl (lv_room (Nat.le_of_ble_eq_true rfl)) d_Mo_needTile_47 ⟨(Nat.le_of_ble_eq_true rfl), (Nat.le_of_ble_eq_true rfl)⟩) hS (fun H locs hP hS => ?_)
  have h8 := Option.some.inj hf
  subst h8
  exact W.vret hx hb hr (fun t ht _ => ⟨⟨(), rfl, trivial, by subst ht; exact hP⟩, hS.F ht⟩) hS.2.2 d_Mo_needTile_50 hlk
set_option maxHeartbeats 4000000 in
set_option maxRecDepth 100000 in
theorem w_Mo_needTile_e {p : Program} {l : Launch} {e : Env} {s : State} {m : MethodId} {args : Array Value} {below : List Frame} {meth : Method} {c : Code} {D : va_G} {ca : Nat → ClassId} {B : Nat} {M9 : mo_M} (X : hq_X p s m args meth c b_Mo_needTile R_Mo 2 none D mo_cl (mo_ty ca) hq_tb) : ∀ (x1 : Int32), ∀ (M : mo_M) (H : Heap) (locs : List Loc) (ls : Array Slot), lv_has ls 2 [(0, .ref (B + 0)), (1, .int x1)] → hm_P D mo_cl ca 15 (mo_sh) B M.1 M.2 H → va_S (hm_A B 15) s.heap H locs → f_Mo_needTile M x1 = some M9 → W p l e ({ frames := 2, cells := 0, slots := 0, locals := 49 } : Room) s m args below meth c H locs 0 0 (MQ below (hq_QV D mo_cl ca 15 (mo_sh) B M9.1 M9.2) args s 0 0 (hm_A B 15)) (F0 m 0 ls []) := by
  obtain ⟨hx, hb, hml, hown, hr, hlk, hKt⟩ := id X
  have hK := hKt.1
  have hts : ∀ w ∈ hq_tb, w.before args s = true := fun w h => hKt.2.2 w h args
  intro x1 M H locs ls hl hP hS hf
  unfold f_Mo_needTile at hf
  refine lv_aload_n hx hb d_Mo_needTile_0 rfl (lv_at hl 0 rfl) ?_
  refine lv_iload_n hx hb d_Mo_needTile_1 rfl (lv_at hl 1 rfl) ?_
  refine lv_aload_n hx hb d_Mo_needTile_2 rfl (lv_at hl 0 rfl) ?_
  refine hq_get hx hb hts i_Mo hown hK hP 0 (by decide) (mo_s_Mo (rfl)) rfl 10 (by decide) (hts _ mo_wd_21) (fun _ h => h) (v := .int (M.1 0 10)) rfl d_Mo_needTile_3 ?_
  refine lv_imul hx hb d_Mo_needTile_6 ?_
  refine lv_iload_n hx hb d_Mo_needTile_7 rfl (lv_at hl 1 rfl) ?_
  refine lv_aload_n hx hb d_Mo_needTile_8 rfl (lv_at hl 0 rfl) ?_
  refine hq_get hx hb hts i_Mo hown hK hP 0 (by decide) (mo_s_Mo (rfl)) rfl 10 (by decide) (hts _ mo_wd_21) (fun _ h => h) (v := .int (M.1 0 10)) rfl d_Mo_needTile_9 ?_
  refine lv_imul hx hb d_Mo_needTile_12 ?_
  refine lv_aload_n hx hb d_Mo_needTile_13 rfl (lv_at hl 0 rfl) ?_
  refine hq_get hx hb hts i_Mo hown hK hP 0 (by decide) (mo_s_Mo (rfl)) rfl 10 (by decide) (hts _ mo_wd_21) (fun _ h => h) (v := .int (M.1 0 10)) rfl d_Mo_needTile_14 ?_
  refine lv_iadd hx hb d_Mo_needTile_17 ?_
  refine lv_aload_n hx hb d_Mo_needTile_18 rfl (lv_at hl 0 rfl) ?_
  refine hq_get hx hb hts i_Mo hown hK hP 0 (by decide) (mo_s_Mo (rfl)) rfl 12 (by decide) (hts _ mo_wd_23) (fun _ h => h) (v := .int (M.1 0 12)) rfl d_Mo_needTile_19 ?_
  refine lv_icmp_ge (tgt := 41) hx hb d_Mo_needTile_22 (by decide) (fun c1 => ?_) (fun c1 => ?_)
  · replace hf := (if_pos c1).symm.trans hf
    refine lv_aload_n hx hb d_Mo_needTile_41 rfl (lv_at hl 0 rfl) ?_
    refine hq_get hx hb hts i_Mo hown hK hP 0 (by decide) (mo_s_Mo (rfl)) rfl 12 (by decide) (hts _ mo_wd_23) (fun _ h => h) (v := .int (M.1 0 12)) rfl d_Mo_needTile_42 ?_
    refine lv_iconst (v := 1) hx hb d_Mo_needTile_45 (by decide) ?_
    refine lv_isub hx hb d_Mo_needTile_46 ?_
    exact w_Mo_needTile_47 X _ _ _ _ _ _ (lv_sub hl [] rfl) hP hS hf
  · replace hf := (if_neg c1).symm.trans hf
    refine lv_iload_n hx hb d_Mo_needTile_25 rfl (lv_at hl 1 rfl) ?_
    refine lv_aload_n hx hb d_Mo_needTile_26 rfl (lv_at hl 0 rfl) ?_
    refine hq_get hx hb hts i_Mo hown hK hP 0 (by decide) (mo_s_Mo (rfl)) rfl 10 (by decide) (hts _ mo_wd_21) (fun _ h => h) (v := .int (M.1 0 10)) rfl d_Mo_needTile_27 ?_
    refine lv_imul hx hb d_Mo_needTile_30 ?_
    refine lv_aload_n hx hb d_Mo_needTile_31 rfl (lv_at hl 0 rfl) ?_
    refine hq_get hx hb hts i_Mo hown hK hP 0 (by decide) (mo_s_Mo (rfl)) rfl 10 (by decide) (hts _ mo_wd_21) (fun _ h => h) (v := .int (M.1 0 10)) rfl d_Mo_needTile_32 ?_
    refine lv_iadd hx hb d_Mo_needTile_35 ?_
    refine lv_iconst (v := 1) hx hb d_Mo_needTile_36 (by decide) ?_
    refine lv_isub hx hb d_Mo_needTile_37 ?_
    refine lv_goto (tgt := 47) hx hb d_Mo_needTile_38 (by decide) ?_
    exact w_Mo_needTile_47 X _ _ _ _ _ _ (lv_sub hl [] rfl) hP hS hf
set_option maxHeartbeats 4000000 in
set_option maxRecDepth 100000 in
theorem c_Mo_needTile {l : Launch} {D : va_G} {ca : Nat → ClassId} {B : Nat} {x1 : Int32} {M M9 : mo_M} (hf : f_Mo_needTile M x1 = some M9) : Met l y_Mo_needTile [Cond.code y_Mo_needTile b_Mo_needTile 2 none] ({ frames := 2, cells := 0, slots := 0, locals := 49 } : Room) (hq_Pre D mo_cl ca 15 (mo_sh) B (mo_ty ca) hq_tb M.1 M.2 [.ref (B + 0), .int x1]) (hq_QV D mo_cl ca 15 (mo_sh) B M9.1 M9.2) 0 0 (hm_A B 15) := by
  refine Met.ofW (cc := b_Mo_needTile) (maxL := 2) (ret := none) (by decide +kernel) rfl ?_
  intro p e s m args below meth c s₁ Bd hml hv
  obtain ⟨rfl, hP, hK⟩ := hv
  have hl := lv_entry ([.ref (B + 0), .int x1]) (n := 2) (Nat.le_of_ble_eq_true rfl)
  rw [lg_entry_eq]
  generalize (lg_sl ([.ref (B + 0), .int x1]) ++ List.replicate (2 - (lg_sl ([.ref (B + 0), .int x1])).length) Slot.unset).toArray = ls at hl ⊢
  have hl : lv_has ls 2 [(0, .ref (B + 0)), (1, .int x1)] := hl
  exact w_Mo_needTile_e ⟨Bd.exec, Bd.bytes, hml, findClass_of_methodNamed Bd.named, Bd.returns, Bd.notSynchronized, hK⟩  _ _ _ _ _ hl hP va_S.rf hf
set_option maxHeartbeats 4000000 in
set_option maxRecDepth 100000 in
theorem w_Mo_kept_32 {p : Program} {l : Launch} {e : Env} {s : State} {m : MethodId} {args : Array Value} {below : List Frame} {meth : Method} {c : Code} {D : va_G} {ca : Nat → ClassId} {B : Nat} {r : Int32} {M9 : mo_M} (X : hq_X p s m args meth c b_Mo_kept R_Mo 3 (some .boolean) D mo_cl (mo_ty ca) hq_tb) : ∀ (y0 : Int32), ∀ (M : mo_M) (H : Heap) (locs : List Loc) (ls : Array Slot), lv_has ls 3 [] → hm_P D mo_cl ca 15 (mo_sh) B M.1 M.2 H → va_S (hm_A B 15) s.heap H locs → f_Mo_kept_32 y0 M = some (r, M9) → W p l e ({ frames := 0, cells := 0, slots := 0, locals := 0 } : Room) s m args below meth c H locs 0 0 (MQ below (hq_QI D mo_cl ca 15 (mo_sh) B r M9.1 M9.2) args s 0 0 (hm_A B 15)) (F0 m 32 ls [.int y0]) := by
  obtain ⟨hx, hb, hml, hown, hr, hlk, hKt⟩ := id X
  have hK := hKt.1
  have hts : ∀ w ∈ hq_tb, w.before args s = true := fun w h => hKt.2.2 w h args
  intro y0 M H locs ls hl hP hS hf
  unfold f_Mo_kept_32 at hf
  obtain ⟨g1, hf⟩ := hm_gd_some hf
  obtain ⟨h9, h8⟩ := Prod.mk.inj (Option.some.inj hf)
  subst h9
  subst h8
  exact W.zret (ty := .boolean) hx hb hr (hq_nb2 (of_decide_eq_true g1)) (fun t ht _ => ⟨⟨_, (), rfl, rfl, by subst ht; exact hP⟩, hS.F ht⟩) hS.2.2 d_Mo_kept_32 hlk
set_option maxHeartbeats 4000000 in
set_option maxRecDepth 100000 in
theorem w_Mo_kept_31 {p : Program} {l : Launch} {e : Env} {s : State} {m : MethodId} {args : Array Value} {below : List Frame} {meth : Method} {c : Code} {D : va_G} {ca : Nat → ClassId} {B : Nat} {r : Int32} {M9 : mo_M} (X : hq_X p s m args meth c b_Mo_kept R_Mo 3 (some .boolean) D mo_cl (mo_ty ca) hq_tb) : ∀ (M : mo_M) (H : Heap) (locs : List Loc) (ls : Array Slot), lv_has ls 3 [] → hm_P D mo_cl ca 15 (mo_sh) B M.1 M.2 H → va_S (hm_A B 15) s.heap H locs → f_Mo_kept_31 M = some (r, M9) → W p l e ({ frames := 0, cells := 0, slots := 0, locals := 0 } : Room) s m args below meth c H locs 0 0 (MQ below (hq_QI D mo_cl ca 15 (mo_sh) B r M9.1 M9.2) args s 0 0 (hm_A B 15)) (F0 m 31 ls []) := by
  obtain ⟨hx, hb, hml, hown, hr, hlk, hKt⟩ := id X
  have hK := hKt.1
  have hts : ∀ w ∈ hq_tb, w.before args s = true := fun w h => hKt.2.2 w h args
  intro  M H locs ls hl hP hS hf
  unfold f_Mo_kept_31 at hf
  refine lv_iconst (v := 0) hx hb d_Mo_kept_31 (by decide) ?_
  exact w_Mo_kept_32 X _ _ _ _ _ (lv_sub hl [] rfl) hP hS hf
set_option maxHeartbeats 4000000 in
set_option maxRecDepth 100000 in
theorem w_Mo_kept_e {p : Program} {l : Launch} {e : Env} {s : State} {m : MethodId} {args : Array Value} {below : List Frame} {meth : Method} {c : Code} {D : va_G} {ca : Nat → ClassId} {B : Nat} {r : Int32} {M9 : mo_M} (X : hq_X p s m args meth c b_Mo_kept R_Mo 3 (some .boolean) D mo_cl (mo_ty ca) hq_tb) : ∀ (x1 : Int32), ∀ (x2 : Int32), ∀ (M : mo_M) (H : Heap) (locs : List Loc) (ls : Array Slot), lv_has ls 3 [(0, .ref (B + 0)), (1, .int x1), (2, .int x2)] → hm_P D mo_cl ca 15 (mo_sh) B M.1 M.2 H → va_S (hm_A B 15) s.heap H locs → f_Mo_kept M x1 x2 = some (r, M9) → W p l e ({ frames := 0, cells := 0, slots := 0, locals := 0 } : Room) s m args below meth c H locs 0 0 (MQ below (hq_QI D mo_cl ca 15 (mo_sh) B r M9.1 M9.2) args s 0 0 (hm_A B 15)) (F0 m 0 ls []) := by
  obtain ⟨hx, hb, hml, hown, hr, hlk, hKt⟩ := id X
  have hK := hKt.1
  have hts : ∀ w ∈ hq_tb, w.before args s = true := fun w h => hKt.2.2 w h args
  intro x1 x2 M H locs ls hl hP hS hf
  unfold f_Mo_kept at hf
  refine lv_aload_n hx hb d_Mo_kept_0 rfl (lv_at hl 0 rfl) ?_
  refine hq_get hx hb hts i_Mo hown hK hP 0 (by decide) (mo_s_Mo (rfl)) rfl 17 (by decide) (hts _ mo_wd_42) (fun _ h => h) (v := .ref (B + 11)) rfl d_Mo_kept_1 ?_
  refine lv_iload_n hx hb d_Mo_kept_4 rfl (lv_at hl 1 rfl) ?_
  obtain ⟨g1, hf⟩ := hm_gd_some hf
  refine hq_zald hx hb hK hP 11 (by decide) (mo_s_za8 (rfl)) 1 rfl g1 d_Mo_kept_5 ?_
  refine lv_if_eq (tgt := 31) hx hb d_Mo_kept_6 (by decide) (fun c2 => ?_) (fun c2 => ?_)
  · replace hf := (if_pos c2).symm.trans hf
    exact w_Mo_kept_31 X _ _ _ _ (lv_sub hl [] rfl) hP hS hf
  · replace hf := (if_neg c2).symm.trans hf
    refine lv_iload_n hx hb d_Mo_kept_9 rfl (lv_at hl 1 rfl) ?_
    refine lv_aload_n hx hb d_Mo_kept_10 rfl (lv_at hl 0 rfl) ?_
    refine hq_get hx hb hts i_Mo hown hK hP 0 (by decide) (mo_s_Mo (rfl)) rfl 11 (by decide) (hts _ mo_wd_22) (fun _ h => h) (v := .int (M.1 0 11)) rfl d_Mo_kept_11 ?_
    refine lv_icmp_eq (tgt := 31) hx hb d_Mo_kept_14 (by decide) (fun c3 => ?_) (fun c3 => ?_)
    · replace hf := (if_pos c3).symm.trans hf
      exact w_Mo_kept_31 X _ _ _ _ (lv_sub hl [] rfl) hP hS hf
    · replace hf := (if_neg c3).symm.trans hf
      refine lv_aload_n hx hb d_Mo_kept_17 rfl (lv_at hl 0 rfl) ?_
      refine hq_get hx hb hts i_Mo hown hK hP 0 (by decide) (mo_s_Mo (rfl)) rfl 4 (by decide) (hts _ mo_wd_20) (fun _ h => h) (v := .ref (B + 4)) rfl d_Mo_kept_18 ?_
      refine lv_iload_n hx hb d_Mo_kept_21 rfl (lv_at hl 1 rfl) ?_
      obtain ⟨g4, hf⟩ := hm_gd_some hf
      refine hq_iald hx hb hK hP 4 (by decide) (mo_s_ia8 (rfl)) 0 rfl g4 d_Mo_kept_22 ?_
      refine lv_iload_n hx hb d_Mo_kept_23 rfl (lv_at hl 2 rfl) ?_
      refine lv_icmp_ne (tgt := 31) hx hb d_Mo_kept_24 (by decide) (fun c5 => ?_) (fun c5 => ?_)
      · replace hf := (if_neg c5).symm.trans hf
        exact w_Mo_kept_31 X _ _ _ _ (lv_sub hl [] rfl) hP hS hf
      · replace hf := (if_pos c5).symm.trans hf
        refine lv_iconst (v := 1) hx hb d_Mo_kept_27 (by decide) ?_
        refine lv_goto (tgt := 32) hx hb d_Mo_kept_28 (by decide) ?_
        exact w_Mo_kept_32 X _ _ _ _ _ (lv_sub hl [] rfl) hP hS hf
set_option maxHeartbeats 4000000 in
set_option maxRecDepth 100000 in
theorem c_Mo_kept {l : Launch} {D : va_G} {ca : Nat → ClassId} {B : Nat} {r : Int32} {x1 : Int32} {x2 : Int32} {M M9 : mo_M} (hf : f_Mo_kept M x1 x2 = some (r, M9)) : Met l y_Mo_kept [Cond.code y_Mo_kept b_Mo_kept 3 (some .boolean)] ({ frames := 0, cells := 0, slots := 0, locals := 0 } : Room) (hq_Pre D mo_cl ca 15 (mo_sh) B (mo_ty ca) hq_tb M.1 M.2 [.ref (B + 0), .int x1, .int x2]) (hq_QI D mo_cl ca 15 (mo_sh) B r M9.1 M9.2) 0 0 (hm_A B 15) := by
  refine Met.ofW (cc := b_Mo_kept) (maxL := 3) (ret := (some .boolean)) (by decide +kernel) rfl ?_
  intro p e s m args below meth c s₁ Bd hml hv
  obtain ⟨rfl, hP, hK⟩ := hv
  have hl := lv_entry ([.ref (B + 0), .int x1, .int x2]) (n := 3) (Nat.le_of_ble_eq_true rfl)
  rw [lg_entry_eq]
  generalize (lg_sl ([.ref (B + 0), .int x1, .int x2]) ++ List.replicate (3 - (lg_sl ([.ref (B + 0), .int x1, .int x2])).length) Slot.unset).toArray = ls at hl ⊢
  have hl : lv_has ls 3 [(0, .ref (B + 0)), (1, .int x1), (2, .int x2)] := hl
  exact w_Mo_kept_e ⟨Bd.exec, Bd.bytes, hml, findClass_of_methodNamed Bd.named, Bd.returns, Bd.notSynchronized, hK⟩  _ _ _ _ _ _ hl hP va_S.rf hf
set_option maxHeartbeats 4000000 in
set_option maxRecDepth 100000 in
theorem w_Mo_total_87 {p : Program} {l : Launch} {e : Env} {s : State} {m : MethodId} {args : Array Value} {below : List Frame} {meth : Method} {c : Code} {D : va_G} {ca : Nat → ClassId} {B : Nat} {r : Int64} {M9 : mo_M} (X : hq_X p s m args meth c b_Mo_total R_Mo 5 (some .long) D mo_cl (mo_ty ca) hq_tb) {k48 : Int32 → mo_M → Option (Int64 × mo_M)} (hk48 : ∀ (x1 : Int32), ∀ (M : mo_M) (H : Heap) (locs : List Loc) (ls : Array Slot), lv_has ls 5 [(0, .ref (B + 0)), (1, .int x1)] → hm_P D mo_cl ca 15 (mo_sh) B M.1 M.2 H → va_S (hm_A B 15) s.heap H locs → k48 x1 M = some (r, M9) → W p l e ({ frames := 3, cells := 0, slots := 0, locals := 70 } : Room) s m args below meth c H locs 0 0 (MQ below (hq_QL D mo_cl ca 15 (mo_sh) B r M9.1 M9.2) args s 0 0 (hm_A B 15)) (F0 m 48 ls [])) : ∀ (x1 : Int32), ∀ (M : mo_M) (H : Heap) (locs : List Loc) (ls : Array Slot), lv_has ls 5 [(0, .ref (B + 0)), (1, .int x1)] → hm_P D mo_cl ca 15 (mo_sh) B M.1 M.2 H → va_S (hm_A B 15) s.heap H locs → f_Mo_total_87 k48 x1 M = some (r, M9) → W p l e ({ frames := 3, cells := 0, slots := 0, locals := 70 } : Room) s m args below meth c H locs 0 0 (MQ below (hq_QL D mo_cl ca 15 (mo_sh) B r M9.1 M9.2) args s 0 0 (hm_A B 15)) (F0 m 87 ls []) := by
  obtain ⟨hx, hb, hml, hown, hr, hlk, hKt⟩ := id X
  have hK := hKt.1
  have hts : ∀ w ∈ hq_tb, w.before args s = true := fun w h => hKt.2.2 w h args
  intro x1 M H locs ls hl hP hS hf
  unfold f_Mo_total_87 at hf
  refine lv_iinc (v := (x1 + 1)) (lv' := [(1, .int (x1 + 1)), (0, .ref (B + 0))]) hx hb d_Mo_total_87 hl (k := 1) rfl rfl (by decide) rfl (fun ls hl => ?_)
  refine lv_goto (tgt := 48) hx hb d_Mo_total_90 (by decide) ?_
  exact hk48 _ _ _ _ _ (lv_sub hl [1, 0] rfl) hP hS hf
set_option maxHeartbeats 4000000 in
set_option maxRecDepth 100000 in
theorem w_Mo_total_152 {p : Program} {l : Launch} {e : Env} {s : State} {m : MethodId} {args : Array Value} {below : List Frame} {meth : Method} {c : Code} {D : va_G} {ca : Nat → ClassId} {B : Nat} {r : Int64} {M9 : mo_M} (X : hq_X p s m args meth c b_Mo_total R_Mo 5 (some .long) D mo_cl (mo_ty ca) hq_tb) {k95 : Int32 → mo_M → Option (Int64 × mo_M)} (hk95 : ∀ (x1 : Int32), ∀ (M : mo_M) (H : Heap) (locs : List Loc) (ls : Array Slot), lv_has ls 5 [(0, .ref (B + 0)), (1, .int x1)] → hm_P D mo_cl ca 15 (mo_sh) B M.1 M.2 H → va_S (hm_A B 15) s.heap H locs → k95 x1 M = some (r, M9) → W p l e ({ frames := 3, cells := 0, slots := 0, locals := 70 } : Room) s m args below meth c H locs 0 0 (MQ below (hq_QL D mo_cl ca 15 (mo_sh) B r M9.1 M9.2) args s 0 0 (hm_A B 15)) (F0 m 95 ls [])) {k110 : Int32 → Int32 → mo_M → Option (Int64 × mo_M)} (hk110 : ∀ (x1 : Int32), ∀ (x2 : Int32), ∀ (M : mo_M) (H : Heap) (locs : List Loc) (ls : Array Slot), lv_has ls 5 [(0, .ref (B + 0)), (1, .int x1), (2, .int x2)] → hm_P D mo_cl ca 15 (mo_sh) B M.1 M.2 H → va_S (hm_A B 15) s.heap H locs → k110 x1 x2 M = some (r, M9) → W p l e ({ frames := 3, cells := 0, slots := 0, locals := 70 } : Room) s m args below meth c H locs 0 0 (MQ below (hq_QL D mo_cl ca 15 (mo_sh) B r M9.1 M9.2) args s 0 0 (hm_A B 15)) (F0 m 110 ls [])) : ∀ (x1 : Int32), ∀ (x2 : Int32), ∀ (M : mo_M) (H : Heap) (locs : List Loc) (ls : Array Slot), lv_has ls 5 [(0, .ref (B + 0)), (1, .int x1), (2, .int x2)] → hm_P D mo_cl ca 15 (mo_sh) B M.1 M.2 H → va_S (hm_A B 15) s.heap H locs → f_Mo_total_152 k95 k110 x1 x2 M = some (r, M9) → W p l e ({ frames := 3, cells := 0, slots := 0, locals := 70 } : Room) s m args below meth c H locs 0 0 (MQ below (hq_QL D mo_cl ca 15 (mo_sh) B r M9.1 M9.2) args s 0 0 (hm_A B 15)) (F0 m 152 ls []) := by
  obtain ⟨hx, hb, hml, hown, hr, hlk, hKt⟩ := id X
  have hK := hKt.1
  have hts : ∀ w ∈ hq_tb, w.before args s = true := fun w h => hKt.2.2 w h args
  intro x1 x2 M H locs ls hl hP hS hf
  unfold f_Mo_total_152 at hf
  refine lv_iinc (v := (x2 + 1)) (lv' := [(2, .int (x2 + 1)), (0, .ref (B + 0)), (1, .int x1)]) hx hb d_Mo_total_152 hl (k := 2) rfl rfl (by decide) rfl (fun ls hl => ?_)
  refine lv_goto (tgt := 110) hx hb d_Mo_total_155 (by decide) ?_
  exact hk110 _ _ _ _ _ _ (lv_sub hl [1, 2, 0] rfl) hP hS hf
set_option maxHeartbeats 4000000 in
set_option maxRecDepth 100000 in
theorem w_Mo_total_110 {p : Program} {l : Launch} {e : Env} {s : State} {m : MethodId} {args : Array Value} {below : List Frame} {meth : Method} {c : Code} {D : va_G} {ca : Nat → ClassId} {B : Nat} {r : Int64} {M9 : mo_M} (X : hq_X p s m args meth c b_Mo_total R_Mo 5 (some .long) D mo_cl (mo_ty ca) hq_tb) {k95 : Int32 → mo_M → Option (Int64 × mo_M)} (hk95 : ∀ (x1 : Int32), ∀ (M : mo_M) (H : Heap) (locs : List Loc) (ls : Array Slot), lv_has ls 5 [(0, .ref (B + 0)), (1, .int x1)] → hm_P D mo_cl ca 15 (mo_sh) B M.1 M.2 H → va_S (hm_A B 15) s.heap H locs → k95 x1 M = some (r, M9) → W p l e ({ frames := 3, cells := 0, slots := 0, locals := 70 } : Room) s m args below meth c H locs 0 0 (MQ below (hq_QL D mo_cl ca 15 (mo_sh) B r M9.1 M9.2) args s 0 0 (hm_A B 15)) (F0 m 95 ls [])) : ∀ (n : Nat), ∀ (x1 : Int32), ∀ (x2 : Int32), ∀ (M : mo_M) (H : Heap) (locs : List Loc) (ls : Array Slot), lv_has ls 5 [(0, .ref (B + 0)), (1, .int x1), (2, .int x2)] → hm_P D mo_cl ca 15 (mo_sh) B M.1 M.2 H → va_S (hm_A B 15) s.heap H locs → f_Mo_total_110 k95 n x1 x2 M = some (r, M9) → W p l e ({ frames := 3, cells := 0, slots := 0, locals := 70 } : Room) s m args below meth c H locs 0 0 (MQ below (hq_QL D mo_cl ca 15 (mo_sh) B r M9.1 M9.2) args s 0 0 (hm_A B 15)) (F0 m 110 ls []) := by
  obtain ⟨hx, hb, hml, hown, hr, hlk, hKt⟩ := id X
  have hK := hKt.1
  have hts : ∀ w ∈ hq_tb, w.before args s = true := fun w h => hKt.2.2 w h args
  intro n
  induction n with
  | zero =>
    intro x1 x2 M H locs ls hl hP hS hf
    cases hf
  | succ n ih =>
    intro x1 x2 M H locs ls hl hP hS hf
    rw [f_Mo_total_110] at hf
    refine lv_iload_n hx hb d_Mo_total_110 rfl (lv_at hl 2 rfl) ?_
    refine lv_aload_n hx hb d_Mo_total_111 rfl (lv_at hl 0 rfl) ?_
    refine hq_get hx hb hts i_Mo hown hK hP 0 (by decide) (mo_s_Mo (rfl)) rfl 11 (by decide) (hts _ mo_wd_22) (fun _ h => h) (v := .int (M.1 0 11)) rfl d_Mo_total_112 ?_
    refine lv_icmp_ge (tgt := 158) hx hb d_Mo_total_115 (by decide) (fun c1 => ?_) (fun c1 => ?_)
    · replace hf := (if_pos c1).symm.trans hf
      refine lv_iinc (v := (x1 + 1)) (lv' := [(1, .int (x1 + 1)), (0, .ref (B + 0)), (2, .int x2)]) hx hb d_Mo_total_158 hl (k := 1) rfl rfl (by decide) rfl (fun ls hl => ?_)
      refine lv_goto (tgt := 95) hx hb d_Mo_total_161 (by decide) ?_
      exact hk95 _ _ _ _ _ (lv_sub hl [1, 0] rfl) hP hS hf
    · replace hf := (if_neg c1).symm.trans hf
      refine lv_aload_n hx hb d_Mo_total_118 rfl (lv_at hl 0 rfl) ?_
      refine lv_iload_n hx hb d_Mo_total_119 rfl (lv_at hl 2 rfl) ?_
      refine lv_iconst (v := 2) hx hb d_Mo_total_120 (by decide) ?_
      obtain ⟨r2, M_3, hc4, hf⟩ := hm_bI_some hf
      refine hq_callI (va_runV (As := [.int x2, .int 2]) (rest := []) ⟨hx, hb, hml, hown, hts⟩ (c_Mo_kept (l := l) (D := D) (ca := ca) (B := B)  hc4) (hq_cwV (nn := 2) hts mo_wd_51 mo_wd_6 mo_wd_52 mo_wd_53 mo_wd_54 (by decide +kernel) rfl rfl ⟨(Nat.le_of_ble_eq_true rfl), (Nat.le_of_ble_eq_true rfl)⟩) (hq_preV hKt hP (by decide) (mo_s_Mo (rfl)) rfl) rfl rfl hl.1 rfl (lv_room (Nat.le_of_ble_eq_true rfl)) d_Mo_total_121 ⟨(Nat.le_of_ble_eq_true rfl), (Nat.le_of_ble_eq_true rfl)⟩) hS (fun H locs hP hS => ?_)
      refine lv_if_eq (tgt := 152) hx hb d_Mo_total_124 (by decide) (fun c5 => ?_) (fun c5 => ?_)
      · replace hf := (if_pos c5).symm.trans hf
        exact w_Mo_total_152 X hk95 ih _ _ _ _ _ _ (lv_sub hl [0, 1, 2] rfl) hP hS hf
      · replace hf := (if_neg c5).symm.trans hf
        refine lv_aload_n hx hb d_Mo_total_127 rfl (lv_at hl 0 rfl) ?_
        refine hq_get hx hb hts i_Mo hown hK hP 0 (by decide) (mo_s_Mo (rfl)) rfl 20 (by decide) (hts _ mo_wd_34) (fun _ h => h) (v := .ref (B + 14)) rfl d_Mo_total_128 ?_
        refine lv_iload_n hx hb d_Mo_total_131 rfl (lv_at hl 2 rfl) ?_
        refine lv_dup2_11 hx hb d_Mo_total_132 rfl rfl ?_
        obtain ⟨g6, hf⟩ := hm_gd_some hf
        refine hq_lald hx hb hK hP 14 (by decide) (mo_s_la8 (rfl)) 2 rfl g6 d_Mo_total_133 ?_
        refine lv_aload_n hx hb d_Mo_total_134 rfl (lv_at hl 0 rfl) ?_
        refine hq_get hx hb hts i_Mo hown hK hP 0 (by decide) (mo_s_Mo (rfl)) rfl 19 (by decide) (hts _ mo_wd_41) (fun _ h => h) (v := .ref (B + 13)) rfl d_Mo_total_135 ?_
        refine lv_iload_n hx hb d_Mo_total_138 rfl (lv_at hl 2 rfl) ?_
        obtain ⟨g7, hf⟩ := hm_gd_some hf
        refine hq_iald hx hb hK hP 13 (by decide) (mo_s_ia8 (rfl)) 0 rfl g7 d_Mo_total_139 ?_
        refine lv_aload_n hx hb d_Mo_total_140 rfl (lv_at hl 0 rfl) ?_
        refine hq_get hx hb hts i_Mo hown hK hP 0 (by decide) (mo_s_Mo (rfl)) rfl 18 (by decide) (hts _ mo_wd_40) (fun _ h => h) (v := .ref (B + 12)) rfl d_Mo_total_141 ?_
        refine lv_iload_n hx hb d_Mo_total_144 rfl (lv_at hl 2 rfl) ?_
        obtain ⟨g8, hf⟩ := hm_gd_some hf
        refine hq_iald hx hb hK hP 12 (by decide) (mo_s_ia8 (rfl)) 0 rfl g8 d_Mo_total_145 ?_
        refine lv_isub hx hb d_Mo_total_146 ?_
        refine lv_iconst (v := 1) hx hb d_Mo_total_147 (by decide) ?_
        refine lv_iadd hx hb d_Mo_total_148 ?_
        refine lv_i2l (v := (((M_3.1 13 x2.toNatClampNeg) - (M_3.1 12 x2.toNatClampNeg)) + 1).toInt64) hx hb d_Mo_total_149 rfl ?_
        refine lv_ladd hx hb d_Mo_total_150 ?_
        obtain ⟨g9, hf⟩ := hm_gd_some hf
        refine hq_last hx hb hK hP hS 14 (by decide) (mo_s_la8 (rfl)) 2 rfl g9 d_Mo_total_151 (fun H locs hP hS => ?_)
        obtain ⟨M_10, e_10, hf⟩ := mo_sl_some hf
        replace hP : hm_P D mo_cl ca 15 mo_sh B M_10.1 M_10.2 H := by rw [e_10]; exact hP
        exact w_Mo_total_152 X hk95 ih _ _ _ _ _ _ (lv_sub hl [0, 1, 2] rfl) hP hS hf
set_option maxHeartbeats 4000000 in
set_option maxRecDepth 100000 in
theorem w_Mo_total_250 {p : Program} {l : Launch} {e : Env} {s : State} {m : MethodId} {args : Array Value} {below : List Frame} {meth : Method} {c : Code} {D : va_G} {ca : Nat → ClassId} {B : Nat} {r : Int64} {M9 : mo_M} (X : hq_X p s m args meth c b_Mo_total R_Mo 5 (some .long) D mo_cl (mo_ty ca) hq_tb) {k171 : Int64 → Int32 → mo_M → Option (Int64 × mo_M)} (hk171 : ∀ (x1 : Int64), ∀ (x3 : Int32), ∀ (M : mo_M) (H : Heap) (locs : List Loc) (ls : Array Slot), lv_has ls 5 [(0, .ref (B + 0)), (1, .long x1), (3, .int x3)] → hm_P D mo_cl ca 15 (mo_sh) B M.1 M.2 H → va_S (hm_A B 15) s.heap H locs → k171 x1 x3 M = some (r, M9) → W p l e ({ frames := 3, cells := 0, slots := 0, locals := 70 } : Room) s m args below meth c H locs 0 0 (MQ below (hq_QL D mo_cl ca 15 (mo_sh) B r M9.1 M9.2) args s 0 0 (hm_A B 15)) (F0 m 171 ls [])) {k180 : Int64 → Int32 → Int32 → mo_M → Option (Int64 × mo_M)} (hk180 : ∀ (x1 : Int64), ∀ (x3 : Int32), ∀ (x4 : Int32), ∀ (M : mo_M) (H : Heap) (locs : List Loc) (ls : Array Slot), lv_has ls 5 [(0, .ref (B + 0)), (1, .long x1), (3, .int x3), (4, .int x4)] → hm_P D mo_cl ca 15 (mo_sh) B M.1 M.2 H → va_S (hm_A B 15) s.heap H locs → k180 x1 x3 x4 M = some (r, M9) → W p l e ({ frames := 3, cells := 0, slots := 0, locals := 70 } : Room) s m args below meth c H locs 0 0 (MQ below (hq_QL D mo_cl ca 15 (mo_sh) B r M9.1 M9.2) args s 0 0 (hm_A B 15)) (F0 m 180 ls [])) : ∀ (x1 : Int64), ∀ (x3 : Int32), ∀ (x4 : Int32), ∀ (M : mo_M) (H : Heap) (locs : List Loc) (ls : Array Slot), lv_has ls 5 [(0, .ref (B + 0)), (1, .long x1), (3, .int x3), (4, .int x4)] → hm_P D mo_cl ca 15 (mo_sh) B M.1 M.2 H → va_S (hm_A B 15) s.heap H locs → f_Mo_total_250 k171 k180 x1 x3 x4 M = some (r, M9) → W p l e ({ frames := 3, cells := 0, slots := 0, locals := 70 } : Room) s m args below meth c H locs 0 0 (MQ below (hq_QL D mo_cl ca 15 (mo_sh) B r M9.1 M9.2) args s 0 0 (hm_A B 15)) (F0 m 250 ls []) := by
  obtain ⟨hx, hb, hml, hown, hr, hlk, hKt⟩ := id X
  have hK := hKt.1
  have hts : ∀ w ∈ hq_tb, w.before args s = true := fun w h => hKt.2.2 w h args
  intro x1 x3 x4 M H locs ls hl hP hS hf
  unfold f_Mo_total_250 at hf
  refine lv_iinc (v := (x4 + 1)) (lv' := [(4, .int (x4 + 1)), (0, .ref (B + 0)), (1, .long x1), (3, .int x3)]) hx hb d_Mo_total_250 hl (k := 3) rfl rfl (by decide) rfl (fun ls hl => ?_)
  refine lv_goto (tgt := 180) hx hb d_Mo_total_253 (by decide) ?_
  exact hk180 _ _ _ _ _ _ _ (lv_sub hl [1, 2, 3, 0] rfl) hP hS hf
set_option maxHeartbeats 4000000 in
set_option maxRecDepth 100000 in
theorem w_Mo_total_180 {p : Program} {l : Launch} {e : Env} {s : State} {m : MethodId} {args : Array Value} {below : List Frame} {meth : Method} {c : Code} {D : va_G} {ca : Nat → ClassId} {B : Nat} {r : Int64} {M9 : mo_M} (X : hq_X p s m args meth c b_Mo_total R_Mo 5 (some .long) D mo_cl (mo_ty ca) hq_tb) {k171 : Int64 → Int32 → mo_M → Option (Int64 × mo_M)} (hk171 : ∀ (x1 : Int64), ∀ (x3 : Int32), ∀ (M : mo_M) (H : Heap) (locs : List Loc) (ls : Array Slot), lv_has ls 5 [(0, .ref (B + 0)), (1, .long x1), (3, .int x3)] → hm_P D mo_cl ca 15 (mo_sh) B M.1 M.2 H → va_S (hm_A B 15) s.heap H locs → k171 x1 x3 M = some (r, M9) → W p l e ({ frames := 3, cells := 0, slots := 0, locals := 70 } : Room) s m args below meth c H locs 0 0 (MQ below (hq_QL D mo_cl ca 15 (mo_sh) B r M9.1 M9.2) args s 0 0 (hm_A B 15)) (F0 m 171 ls [])) : ∀ (n : Nat), ∀ (x1 : Int64), ∀ (x3 : Int32), ∀ (x4 : Int32), ∀ (M : mo_M) (H : Heap) (locs : List Loc) (ls : Array Slot), lv_has ls 5 [(0, .ref (B + 0)), (1, .long x1), (3, .int x3), (4, .int x4)] → hm_P D mo_cl ca 15 (mo_sh) B M.1 M.2 H → va_S (hm_A B 15) s.heap H locs → f_Mo_total_180 k171 n x1 x3 x4 M = some (r, M9) → W p l e ({ frames := 3, cells := 0, slots := 0, locals := 70 } : Room) s m args below meth c H locs 0 0 (MQ below (hq_QL D mo_cl ca 15 (mo_sh) B r M9.1 M9.2) args s 0 0 (hm_A B 15)) (F0 m 180 ls []) := by
  obtain ⟨hx, hb, hml, hown, hr, hlk, hKt⟩ := id X
  have hK := hKt.1
  have hts : ∀ w ∈ hq_tb, w.before args s = true := fun w h => hKt.2.2 w h args
  intro n
  induction n with
  | zero =>
    intro x1 x3 x4 M H locs ls hl hP hS hf
    cases hf
  | succ n ih =>
    intro x1 x3 x4 M H locs ls hl hP hS hf
    rw [f_Mo_total_180] at hf
    refine lv_iload hx hb d_Mo_total_180 (lv_at hl 3 rfl) ?_
    refine lv_iload_n hx hb d_Mo_total_182 rfl (lv_at hl 2 rfl) ?_
    refine lv_iconst (v := 4) hx hb d_Mo_total_183 (by decide) ?_
    refine lv_imul hx hb d_Mo_total_184 ?_
    refine lv_aload_n hx hb d_Mo_total_185 rfl (lv_at hl 0 rfl) ?_
    refine hq_get hx hb hts i_Mo hown hK hP 0 (by decide) (mo_s_Mo (rfl)) rfl 8 (by decide) (hts _ mo_wd_16) (fun _ h => h) (v := .ref (B + 8)) rfl d_Mo_total_186 ?_
    refine lv_iload_n hx hb d_Mo_total_189 rfl (lv_at hl 2 rfl) ?_
    obtain ⟨g1, hf⟩ := hm_gd_some hf
    refine hq_iald hx hb hK hP 8 (by decide) (mo_s_ia8 (rfl)) 0 rfl g1 d_Mo_total_190 ?_
    refine lv_iadd hx hb d_Mo_total_191 ?_
    refine lv_icmp_ge (tgt := 256) hx hb d_Mo_total_192 (by decide) (fun c2 => ?_) (fun c2 => ?_)
    · replace hf := (if_pos c2).symm.trans hf
      refine lv_lload_n hx hb d_Mo_total_256 rfl (lv_at hl 1 rfl) ?_
      refine lv_aload_n hx hb d_Mo_total_257 rfl (lv_at hl 0 rfl) ?_
      refine hq_get hx hb hts i_Mo hown hK hP 0 (by decide) (mo_s_Mo (rfl)) rfl 20 (by decide) (hts _ mo_wd_34) (fun _ h => h) (v := .ref (B + 14)) rfl d_Mo_total_258 ?_
      refine lv_iload_n hx hb d_Mo_total_261 rfl (lv_at hl 2 rfl) ?_
      obtain ⟨g3, hf⟩ := hm_gd_some hf
      refine hq_lald hx hb hK hP 14 (by decide) (mo_s_la8 (rfl)) 2 rfl g3 d_Mo_total_262 ?_
      refine lv_ladd hx hb d_Mo_total_263 ?_
      refine lv_lstore_n (lv' := [(1, .long (x1 + (M.2 14 x3.toNatClampNeg))), (0, .ref (B + 0)), (3, .int x3), (4, .int x4)]) hx hb d_Mo_total_264 rfl hl (by decide) rfl (fun ls hl => ?_)
      refine lv_iinc (v := (x3 + (-1))) (lv' := [(3, .int (x3 + (-1))), (1, .long (x1 + (M.2 14 x3.toNatClampNeg))), (0, .ref (B + 0)), (4, .int x4)]) hx hb d_Mo_total_265 hl (k := 2) rfl rfl (by decide) rfl (fun ls hl => ?_)
      refine lv_goto (tgt := 171) hx hb d_Mo_total_268 (by decide) ?_
      exact hk171 _ _ _ _ _ _ (lv_sub hl [2, 1, 0] rfl) hP hS hf
    · replace hf := (if_neg c2).symm.trans hf
      refine lv_aload_n hx hb d_Mo_total_195 rfl (lv_at hl 0 rfl) ?_
      refine hq_get hx hb hts i_Mo hown hK hP 0 (by decide) (mo_s_Mo (rfl)) rfl 17 (by decide) (hts _ mo_wd_42) (fun _ h => h) (v := .ref (B + 11)) rfl d_Mo_total_196 ?_
      refine lv_iload_n hx hb d_Mo_total_199 rfl (lv_at hl 2 rfl) ?_
      obtain ⟨g4, hf⟩ := hm_gd_some hf
      refine hq_zald hx hb hK hP 11 (by decide) (mo_s_za8 (rfl)) 1 rfl g4 d_Mo_total_200 ?_
      refine lv_if_eq (tgt := 250) hx hb d_Mo_total_201 (by decide) (fun c5 => ?_) (fun c5 => ?_)
      · replace hf := (if_pos c5).symm.trans hf
        exact w_Mo_total_250 X hk171 ih _ _ _ _ _ _ _ (lv_sub hl [0, 1, 2, 3] rfl) hP hS hf
      · replace hf := (if_neg c5).symm.trans hf
        refine lv_aload_n hx hb d_Mo_total_204 rfl (lv_at hl 0 rfl) ?_
        refine hq_get hx hb hts i_Mo hown hK hP 0 (by decide) (mo_s_Mo (rfl)) rfl 5 (by decide) (hts _ mo_wd_17) (fun _ h => h) (v := .ref (B + 5)) rfl d_Mo_total_205 ?_
        refine lv_iload hx hb d_Mo_total_208 (lv_at hl 3 rfl) ?_
        obtain ⟨g6, hf⟩ := hm_gd_some hf
        refine hq_iald hx hb hK hP 5 (by decide) (mo_s_ia32 (rfl)) 0 rfl g6 d_Mo_total_210 ?_
        refine lv_if_lt (tgt := 250) hx hb d_Mo_total_211 (by decide) (fun c7 => ?_) (fun c7 => ?_)
        · replace hf := (if_pos c7).symm.trans hf
          exact w_Mo_total_250 X hk171 ih _ _ _ _ _ _ _ (lv_sub hl [0, 1, 2, 3] rfl) hP hS hf
        · replace hf := (if_neg c7).symm.trans hf
          refine lv_aload_n hx hb d_Mo_total_214 rfl (lv_at hl 0 rfl) ?_
          refine hq_get hx hb hts i_Mo hown hK hP 0 (by decide) (mo_s_Mo (rfl)) rfl 4 (by decide) (hts _ mo_wd_20) (fun _ h => h) (v := .ref (B + 4)) rfl d_Mo_total_215 ?_
          refine lv_aload_n hx hb d_Mo_total_218 rfl (lv_at hl 0 rfl) ?_
          refine hq_get hx hb hts i_Mo hown hK hP 0 (by decide) (mo_s_Mo (rfl)) rfl 5 (by decide) (hts _ mo_wd_17) (fun _ h => h) (v := .ref (B + 5)) rfl d_Mo_total_219 ?_
          refine lv_iload hx hb d_Mo_total_222 (lv_at hl 3 rfl) ?_
          obtain ⟨g8, hf⟩ := hm_gd_some hf
          refine hq_iald hx hb hK hP 5 (by decide) (mo_s_ia32 (rfl)) 0 rfl g8 d_Mo_total_224 ?_
          obtain ⟨g9, hf⟩ := hm_gd_some hf
          refine hq_iald hx hb hK hP 4 (by decide) (mo_s_ia8 (rfl)) 0 rfl g9 d_Mo_total_225 ?_
          refine lv_if_ne (tgt := 250) hx hb d_Mo_total_226 (by decide) (fun c10 => ?_) (fun c10 => ?_)
          · replace hf := (if_neg c10).symm.trans hf
            exact w_Mo_total_250 X hk171 ih _ _ _ _ _ _ _ (lv_sub hl [0, 1, 2, 3] rfl) hP hS hf
          · replace hf := (if_pos c10).symm.trans hf
            refine lv_aload_n hx hb d_Mo_total_229 rfl (lv_at hl 0 rfl) ?_
            refine hq_get hx hb hts i_Mo hown hK hP 0 (by decide) (mo_s_Mo (rfl)) rfl 20 (by decide) (hts _ mo_wd_34) (fun _ h => h) (v := .ref (B + 14)) rfl d_Mo_total_230 ?_
            refine lv_aload_n hx hb d_Mo_total_233 rfl (lv_at hl 0 rfl) ?_
            refine hq_get hx hb hts i_Mo hown hK hP 0 (by decide) (mo_s_Mo (rfl)) rfl 5 (by decide) (hts _ mo_wd_17) (fun _ h => h) (v := .ref (B + 5)) rfl d_Mo_total_234 ?_
            refine lv_iload hx hb d_Mo_total_237 (lv_at hl 3 rfl) ?_
            obtain ⟨g11, hf⟩ := hm_gd_some hf
            refine hq_iald hx hb hK hP 5 (by decide) (mo_s_ia32 (rfl)) 0 rfl g11 d_Mo_total_239 ?_
            refine lv_dup2_11 hx hb d_Mo_total_240 rfl rfl ?_
            obtain ⟨g12, hf⟩ := hm_gd_some hf
            refine hq_lald hx hb hK hP 14 (by decide) (mo_s_la8 (rfl)) 2 rfl g12 d_Mo_total_241 ?_
            refine lv_aload_n hx hb d_Mo_total_242 rfl (lv_at hl 0 rfl) ?_
            refine hq_get hx hb hts i_Mo hown hK hP 0 (by decide) (mo_s_Mo (rfl)) rfl 20 (by decide) (hts _ mo_wd_34) (fun _ h => h) (v := .ref (B + 14)) rfl d_Mo_total_243 ?_
            refine lv_iload_n hx hb d_Mo_total_246 rfl (lv_at hl 2 rfl) ?_
            obtain ⟨g13, hf⟩ := hm_gd_some hf
            refine hq_lald hx hb hK hP 14 (by decide) (mo_s_la8 (rfl)) 2 rfl g13 d_Mo_total_247 ?_
            refine lv_ladd hx hb d_Mo_total_248 ?_
            obtain ⟨g14, hf⟩ := hm_gd_some hf
            refine hq_last hx hb hK hP hS 14 (by decide) (mo_s_la8 (rfl)) 2 rfl g14 d_Mo_total_249 (fun H locs hP hS => ?_)
            obtain ⟨M_15, e_15, hf⟩ := mo_sl_some hf
            replace hP : hm_P D mo_cl ca 15 mo_sh B M_15.1 M_15.2 H := by rw [e_15]; exact hP
            exact w_Mo_total_250 X hk171 ih _ _ _ _ _ _ _ (lv_sub hl [0, 1, 2, 3] rfl) hP hS hf
set_option maxHeartbeats 4000000 in
set_option maxRecDepth 100000 in
theorem w_Mo_total_171 {p : Program} {l : Launch} {e : Env} {s : State} {m : MethodId} {args : Array Value} {below : List Frame} {meth : Method} {c : Code} {D : va_G} {ca : Nat → ClassId} {B : Nat} {r : Int64} {M9 : mo_M} (X : hq_X p s m args meth c b_Mo_total R_Mo 5 (some .long) D mo_cl (mo_ty ca) hq_tb) : ∀ (n : Nat), ∀ (x1 : Int64), ∀ (x3 : Int32), ∀ (M : mo_M) (H : Heap) (locs : List Loc) (ls : Array Slot), lv_has ls 5 [(0, .ref (B + 0)), (1, .long x1), (3, .int x3)] → hm_P D mo_cl ca 15 (mo_sh) B M.1 M.2 H → va_S (hm_A B 15) s.heap H locs → f_Mo_total_171 n x1 x3 M = some (r, M9) → W p l e ({ frames := 3, cells := 0, slots := 0, locals := 70 } : Room) s m args below meth c H locs 0 0 (MQ below (hq_QL D mo_cl ca 15 (mo_sh) B r M9.1 M9.2) args s 0 0 (hm_A B 15)) (F0 m 171 ls []) := by
  obtain ⟨hx, hb, hml, hown, hr, hlk, hKt⟩ := id X
  have hK := hKt.1
  have hts : ∀ w ∈ hq_tb, w.before args s = true := fun w h => hKt.2.2 w h args
  intro n
  induction n with
  | zero =>
    intro x1 x3 M H locs ls hl hP hS hf
    cases hf
  | succ n ih =>
    intro x1 x3 M H locs ls hl hP hS hf
    rw [f_Mo_total_171] at hf
    refine lv_iload_n hx hb d_Mo_total_171 rfl (lv_at hl 2 rfl) ?_
    refine lv_if_lt (tgt := 271) hx hb d_Mo_total_172 (by decide) (fun c1 => ?_) (fun c1 => ?_)
    · replace hf := (if_pos c1).symm.trans hf
      refine lv_lload_n hx hb d_Mo_total_271 rfl (lv_at hl 1 rfl) ?_
      obtain ⟨h9, h8⟩ := Prod.mk.inj (Option.some.inj hf)
      subst h9
      subst h8
      exact W.lret hx hb hr (fun t ht _ => ⟨⟨_, (), rfl, rfl, by subst ht; exact hP⟩, hS.F ht⟩) hS.2.2 d_Mo_total_272 hlk
    · replace hf := (if_neg c1).symm.trans hf
      refine lv_iload_n hx hb d_Mo_total_175 rfl (lv_at hl 2 rfl) ?_
      refine lv_iconst (v := 4) hx hb d_Mo_total_176 (by decide) ?_
      refine lv_imul hx hb d_Mo_total_177 ?_
      refine lv_istore (lv' := [(4, .int (x3 * 4)), (0, .ref (B + 0)), (1, .long x1), (3, .int x3)]) hx hb d_Mo_total_178 hl (by decide) rfl (fun ls hl => ?_)
      exact w_Mo_total_180 X ih _ _ _ _ _ _ _ _ (lv_sub hl [1, 2, 3, 0] rfl) hP hS hf
set_option maxHeartbeats 4000000 in
set_option maxRecDepth 100000 in
theorem w_Mo_total_95 {p : Program} {l : Launch} {e : Env} {s : State} {m : MethodId} {args : Array Value} {below : List Frame} {meth : Method} {c : Code} {D : va_G} {ca : Nat → ClassId} {B : Nat} {r : Int64} {M9 : mo_M} (X : hq_X p s m args meth c b_Mo_total R_Mo 5 (some .long) D mo_cl (mo_ty ca) hq_tb) : ∀ (n : Nat), ∀ (x1 : Int32), ∀ (M : mo_M) (H : Heap) (locs : List Loc) (ls : Array Slot), lv_has ls 5 [(0, .ref (B + 0)), (1, .int x1)] → hm_P D mo_cl ca 15 (mo_sh) B M.1 M.2 H → va_S (hm_A B 15) s.heap H locs → f_Mo_total_95 n x1 M = some (r, M9) → W p l e ({ frames := 3, cells := 0, slots := 0, locals := 70 } : Room) s m args below meth c H locs 0 0 (MQ below (hq_QL D mo_cl ca 15 (mo_sh) B r M9.1 M9.2) args s 0 0 (hm_A B 15)) (F0 m 95 ls []) := by
  obtain ⟨hx, hb, hml, hown, hr, hlk, hKt⟩ := id X
  have hK := hKt.1
  have hts : ∀ w ∈ hq_tb, w.before args s = true := fun w h => hKt.2.2 w h args
  intro n
  induction n with
  | zero =>
    intro x1 M H locs ls hl hP hS hf
    cases hf
  | succ n ih =>
    intro x1 M H locs ls hl hP hS hf
    rw [f_Mo_total_95] at hf
    refine lv_iload_n hx hb d_Mo_total_95 rfl (lv_at hl 1 rfl) ?_
    refine lv_aload_n hx hb d_Mo_total_96 rfl (lv_at hl 0 rfl) ?_
    obtain ⟨r1, M_2, hc3, hf⟩ := hm_bI_some hf
    refine hq_callI (va_runV (As := []) (rest := [.int x1]) ⟨hx, hb, hml, hown, hts⟩ (c_Mo_tiles (l := l) (D := D) (ca := ca) (B := B)  hc3) (hq_cwV (nn := 0) hts mo_wd_55 mo_wd_6 mo_wd_56 mo_wd_57 mo_wd_58 (by decide +kernel) rfl rfl ⟨(Nat.le_of_ble_eq_true rfl), (Nat.le_of_ble_eq_true rfl)⟩) (hq_preV hKt hP (by decide) (mo_s_Mo (rfl)) rfl) rfl rfl hl.1 rfl (lv_room (Nat.le_of_ble_eq_true rfl)) d_Mo_total_97 ⟨(Nat.le_of_ble_eq_true rfl), (Nat.le_of_ble_eq_true rfl)⟩) hS (fun H locs hP hS => ?_)
    refine lv_icmp_ge (tgt := 164) hx hb d_Mo_total_100 (by decide) (fun c4 => ?_) (fun c4 => ?_)
    · replace hf := (if_pos c4).symm.trans hf
      refine lv_lconst (v := 0) hx hb d_Mo_total_164 (by decide) ?_
      refine lv_lstore_n (lv' := [(1, .long (0 : Int64)), (0, .ref (B + 0))]) hx hb d_Mo_total_165 rfl hl (by decide) rfl (fun ls hl => ?_)
      refine lv_aload_n hx hb d_Mo_total_166 rfl (lv_at hl 1 rfl) ?_
      refine hq_get hx hb hts i_Mo hown hK hP 0 (by decide) (mo_s_Mo (rfl)) rfl 11 (by decide) (hts _ mo_wd_22) (fun _ h => h) (v := .int (M_2.1 0 11)) rfl d_Mo_total_167 ?_
      refine lv_istore_n (lv' := [(3, .int (M_2.1 0 11)), (1, .long (0 : Int64)), (0, .ref (B + 0))]) hx hb d_Mo_total_170 rfl hl (by decide) rfl (fun ls hl => ?_)
      exact w_Mo_total_171 X _ _ _ _ _ _ _ (lv_sub hl [2, 1, 0] rfl) hP hS hf
    · replace hf := (if_neg c4).symm.trans hf
      refine lv_aload_n hx hb d_Mo_total_103 rfl (lv_at hl 0 rfl) ?_
      refine lv_iload_n hx hb d_Mo_total_104 rfl (lv_at hl 1 rfl) ?_
      obtain ⟨M_6, hc7, hf⟩ := hm_bV_some hf
      refine hq_callV (va_runV (As := [.int x1]) (rest := []) ⟨hx, hb, hml, hown, hts⟩ (c_Mo_needTile (l := l) (D := D) (ca := ca) (B := B)  hc7) (hq_cwV (nn := 1) hts mo_wd_59 mo_wd_6 mo_wd_60 mo_wd_61 mo_wd_62 (by decide +kernel) rfl rfl ⟨(Nat.le_of_ble_eq_true rfl), (Nat.le_of_ble_eq_true rfl)⟩) (hq_preV hKt hP (by decide) (mo_s_Mo (rfl)) rfl) rfl rfl hl.1 rfl (lv_room (Nat.le_of_ble_eq_true rfl)) d_Mo_total_105 ⟨(Nat.le_of_ble_eq_true rfl), (Nat.le_of_ble_eq_true rfl)⟩) hS (fun H locs hP hS => ?_)
      refine lv_iconst (v := 0) hx hb d_Mo_total_108 (by decide) ?_
      refine lv_istore_n (lv' := [(2, .int 0), (0, .ref (B + 0)), (1, .int x1)]) hx hb d_Mo_total_109 rfl hl (by decide) rfl (fun ls hl => ?_)
      exact w_Mo_total_110 X ih _ _ _ _ _ _ _ (lv_sub hl [1, 2, 0] rfl) hP hS hf
set_option maxHeartbeats 4000000 in
set_option maxRecDepth 100000 in
theorem w_Mo_total_48 {p : Program} {l : Launch} {e : Env} {s : State} {m : MethodId} {args : Array Value} {below : List Frame} {meth : Method} {c : Code} {D : va_G} {ca : Nat → ClassId} {B : Nat} {r : Int64} {M9 : mo_M} (X : hq_X p s m args meth c b_Mo_total R_Mo 5 (some .long) D mo_cl (mo_ty ca) hq_tb) : ∀ (n : Nat), ∀ (x1 : Int32), ∀ (M : mo_M) (H : Heap) (locs : List Loc) (ls : Array Slot), lv_has ls 5 [(0, .ref (B + 0)), (1, .int x1)] → hm_P D mo_cl ca 15 (mo_sh) B M.1 M.2 H → va_S (hm_A B 15) s.heap H locs → f_Mo_total_48 n x1 M = some (r, M9) → W p l e ({ frames := 3, cells := 0, slots := 0, locals := 70 } : Room) s m args below meth c H locs 0 0 (MQ below (hq_QL D mo_cl ca 15 (mo_sh) B r M9.1 M9.2) args s 0 0 (hm_A B 15)) (F0 m 48 ls []) := by
  obtain ⟨hx, hb, hml, hown, hr, hlk, hKt⟩ := id X
  have hK := hKt.1
  have hts : ∀ w ∈ hq_tb, w.before args s = true := fun w h => hKt.2.2 w h args
  intro n
  induction n with
  | zero =>
    intro x1 M H locs ls hl hP hS hf
    cases hf
  | succ n ih =>
    intro x1 M H locs ls hl hP hS hf
    rw [f_Mo_total_48] at hf
    refine lv_iload_n hx hb d_Mo_total_48 rfl (lv_at hl 1 rfl) ?_
    refine lv_aload_n hx hb d_Mo_total_49 rfl (lv_at hl 0 rfl) ?_
    refine hq_get hx hb hts i_Mo hown hK hP 0 (by decide) (mo_s_Mo (rfl)) rfl 11 (by decide) (hts _ mo_wd_22) (fun _ h => h) (v := .int (M.1 0 11)) rfl d_Mo_total_50 ?_
    refine lv_icmp_ge (tgt := 93) hx hb d_Mo_total_53 (by decide) (fun c1 => ?_) (fun c1 => ?_)
    · replace hf := (if_pos c1).symm.trans hf
      refine lv_iconst (v := 0) hx hb d_Mo_total_93 (by decide) ?_
      refine lv_istore_n (lv' := [(1, .int 0), (0, .ref (B + 0))]) hx hb d_Mo_total_94 rfl hl (by decide) rfl (fun ls hl => ?_)
      exact w_Mo_total_95 X _ _ _ _ _ _ (lv_sub hl [1, 0] rfl) hP hS hf
    · replace hf := (if_neg c1).symm.trans hf
      refine lv_aload_n hx hb d_Mo_total_56 rfl (lv_at hl 0 rfl) ?_
      refine lv_iload_n hx hb d_Mo_total_57 rfl (lv_at hl 1 rfl) ?_
      refine lv_iconst (v := 1) hx hb d_Mo_total_58 (by decide) ?_
      obtain ⟨r2, M_3, hc4, hf⟩ := hm_bI_some hf
      refine hq_callI (va_runV (As := [.int x1, .int 1]) (rest := []) ⟨hx, hb, hml, hown, hts⟩ (c_Mo_kept (l := l) (D := D) (ca := ca) (B := B)  hc4) (hq_cwV (nn := 2) hts mo_wd_51 mo_wd_6 mo_wd_52 mo_wd_53 mo_wd_54 (by decide +kernel) rfl rfl ⟨(Nat.le_of_ble_eq_true rfl), (Nat.le_of_ble_eq_true rfl)⟩) (hq_preV hKt hP (by decide) (mo_s_Mo (rfl)) rfl) rfl rfl hl.1 rfl (lv_room (Nat.le_of_ble_eq_true rfl)) d_Mo_total_59 ⟨(Nat.le_of_ble_eq_true rfl), (Nat.le_of_ble_eq_true rfl)⟩) hS (fun H locs hP hS => ?_)
      refine lv_if_eq (tgt := 87) hx hb d_Mo_total_62 (by decide) (fun c5 => ?_) (fun c5 => ?_)
      · replace hf := (if_pos c5).symm.trans hf
        exact w_Mo_total_87 X ih _ _ _ _ _ (lv_sub hl [0, 1] rfl) hP hS hf
      · replace hf := (if_neg c5).symm.trans hf
        refine lv_aload_n hx hb d_Mo_total_65 rfl (lv_at hl 0 rfl) ?_
        refine hq_get hx hb hts i_Mo hown hK hP 0 (by decide) (mo_s_Mo (rfl)) rfl 20 (by decide) (hts _ mo_wd_34) (fun _ h => h) (v := .ref (B + 14)) rfl d_Mo_total_66 ?_
        refine lv_iload_n hx hb d_Mo_total_69 rfl (lv_at hl 1 rfl) ?_
        refine lv_aload_n hx hb d_Mo_total_70 rfl (lv_at hl 0 rfl) ?_
        refine hq_get hx hb hts i_Mo hown hK hP 0 (by decide) (mo_s_Mo (rfl)) rfl 19 (by decide) (hts _ mo_wd_41) (fun _ h => h) (v := .ref (B + 13)) rfl d_Mo_total_71 ?_
        refine lv_iload_n hx hb d_Mo_total_74 rfl (lv_at hl 1 rfl) ?_
        obtain ⟨g6, hf⟩ := hm_gd_some hf
        refine hq_iald hx hb hK hP 13 (by decide) (mo_s_ia8 (rfl)) 0 rfl g6 d_Mo_total_75 ?_
        refine lv_aload_n hx hb d_Mo_total_76 rfl (lv_at hl 0 rfl) ?_
        refine hq_get hx hb hts i_Mo hown hK hP 0 (by decide) (mo_s_Mo (rfl)) rfl 18 (by decide) (hts _ mo_wd_40) (fun _ h => h) (v := .ref (B + 12)) rfl d_Mo_total_77 ?_
        refine lv_iload_n hx hb d_Mo_total_80 rfl (lv_at hl 1 rfl) ?_
        obtain ⟨g7, hf⟩ := hm_gd_some hf
        refine hq_iald hx hb hK hP 12 (by decide) (mo_s_ia8 (rfl)) 0 rfl g7 d_Mo_total_81 ?_
        refine lv_isub hx hb d_Mo_total_82 ?_
        refine lv_iconst (v := 1) hx hb d_Mo_total_83 (by decide) ?_
        refine lv_iadd hx hb d_Mo_total_84 ?_
        refine lv_i2l (v := (((M_3.1 13 x1.toNatClampNeg) - (M_3.1 12 x1.toNatClampNeg)) + 1).toInt64) hx hb d_Mo_total_85 rfl ?_
        obtain ⟨g8, hf⟩ := hm_gd_some hf
        refine hq_last hx hb hK hP hS 14 (by decide) (mo_s_la8 (rfl)) 2 rfl g8 d_Mo_total_86 (fun H locs hP hS => ?_)
        obtain ⟨M_9, e_9, hf⟩ := mo_sl_some hf
        replace hP : hm_P D mo_cl ca 15 mo_sh B M_9.1 M_9.2 H := by rw [e_9]; exact hP
        exact w_Mo_total_87 X ih _ _ _ _ _ (lv_sub hl [0, 1] rfl) hP hS hf
set_option maxHeartbeats 4000000 in
set_option maxRecDepth 100000 in
theorem w_Mo_total_2 {p : Program} {l : Launch} {e : Env} {s : State} {m : MethodId} {args : Array Value} {below : List Frame} {meth : Method} {c : Code} {D : va_G} {ca : Nat → ClassId} {B : Nat} {r : Int64} {M9 : mo_M} (X : hq_X p s m args meth c b_Mo_total R_Mo 5 (some .long) D mo_cl (mo_ty ca) hq_tb) : ∀ (n : Nat), ∀ (x1 : Int32), ∀ (M : mo_M) (H : Heap) (locs : List Loc) (ls : Array Slot), lv_has ls 5 [(0, .ref (B + 0)), (1, .int x1)] → hm_P D mo_cl ca 15 (mo_sh) B M.1 M.2 H → va_S (hm_A B 15) s.heap H locs → f_Mo_total_2 n x1 M = some (r, M9) → W p l e ({ frames := 3, cells := 0, slots := 0, locals := 70 } : Room) s m args below meth c H locs 0 0 (MQ below (hq_QL D mo_cl ca 15 (mo_sh) B r M9.1 M9.2) args s 0 0 (hm_A B 15)) (F0 m 2 ls []) := by
  obtain ⟨hx, hb, hml, hown, hr, hlk, hKt⟩ := id X
  have hK := hKt.1
  have hts : ∀ w ∈ hq_tb, w.before args s = true := fun w h => hKt.2.2 w h args
  intro n
  induction n with
  | zero =>
    intro x1 M H locs ls hl hP hS hf
    cases hf
  | succ n ih =>
    intro x1 M H locs ls hl hP hS hf
    rw [f_Mo_total_2] at hf
    refine lv_iload_n hx hb d_Mo_total_2 rfl (lv_at hl 1 rfl) ?_
    refine lv_bipush (v := 8) hx hb d_Mo_total_3 (by decide) ?_
    refine lv_icmp_ge (tgt := 21) hx hb d_Mo_total_5 (by decide) (fun c1 => ?_) (fun c1 => ?_)
    · replace hf := (if_pos c1).symm.trans hf
      refine lv_aload_n hx hb d_Mo_total_21 rfl (lv_at hl 0 rfl) ?_
      refine hq_get hx hb hts i_Mo hown hK hP 0 (by decide) (mo_s_Mo (rfl)) rfl 20 (by decide) (hts _ mo_wd_34) (fun _ h => h) (v := .ref (B + 14)) rfl d_Mo_total_22 ?_
      refine lv_aload_n hx hb d_Mo_total_25 rfl (lv_at hl 0 rfl) ?_
      refine hq_get hx hb hts i_Mo hown hK hP 0 (by decide) (mo_s_Mo (rfl)) rfl 11 (by decide) (hts _ mo_wd_22) (fun _ h => h) (v := .int (M.1 0 11)) rfl d_Mo_total_26 ?_
      refine lv_aload_n hx hb d_Mo_total_29 rfl (lv_at hl 0 rfl) ?_
      refine hq_get hx hb hts i_Mo hown hK hP 0 (by decide) (mo_s_Mo (rfl)) rfl 12 (by decide) (hts _ mo_wd_23) (fun _ h => h) (v := .int (M.1 0 12)) rfl d_Mo_total_30 ?_
      refine lv_i2l (v := (M.1 0 12).toInt64) hx hb d_Mo_total_33 rfl ?_
      obtain ⟨g2, hf⟩ := hm_gd_some hf
      refine hq_last hx hb hK hP hS 14 (by decide) (mo_s_la8 (rfl)) 2 rfl g2 d_Mo_total_34 (fun H locs hP hS => ?_)
      obtain ⟨M_3, e_3, hf⟩ := mo_sl_some hf
      replace hP : hm_P D mo_cl ca 15 mo_sh B M_3.1 M_3.2 H := by rw [e_3]; exact hP
      refine lv_aload_n hx hb d_Mo_total_35 rfl (lv_at hl 0 rfl) ?_
      refine lv_iconst (v := 0) hx hb d_Mo_total_36 (by decide) ?_
      refine lv_aload_n hx hb d_Mo_total_37 rfl (lv_at hl 0 rfl) ?_
      refine hq_get hx hb hts i_Mo hown hK hP 0 (by decide) (mo_s_Mo (rfl)) rfl 12 (by decide) (hts _ mo_wd_23) (fun _ h => h) (v := .int (M_3.1 0 12)) rfl d_Mo_total_38 ?_
      refine lv_iconst (v := 1) hx hb d_Mo_total_41 (by decide) ?_
      refine lv_isub hx hb d_Mo_total_42 ?_
      obtain ⟨M_5, hc6, hf⟩ := hm_bV_some hf
      refine hq_callV (va_runV (As := [.int 0, .int ((M_3.1 0 12) - 1)]) (rest := []) ⟨hx, hb, hml, hown, hts⟩ (c_Mo_need (l := l) (D := D) (ca := ca) (B := B)  hc6) (hq_cwV (nn := 2) hts mo_wd_47 mo_wd_6 mo_wd_48 mo_wd_49 mo_wd_50 (by decide +kernel) rfl rfl ⟨(Nat.le_of_ble_eq_true rfl), (Nat.le_of_ble_eq_true rfl)⟩) (hq_preV hKt hP (by decide) (mo_s_Mo (rfl)) rfl) rfl rfl hl.1 rfl (lv_room (Nat.le_of_ble_eq_true rfl)) d_Mo_total_43 ⟨(Nat.le_of_ble_eq_true rfl), (Nat.le_of_ble_eq_true rfl)⟩) hS (fun H locs hP hS => ?_)
      refine lv_iconst (v := 0) hx hb d_Mo_total_46 (by decide) ?_
      refine lv_istore_n (lv' := [(1, .int 0), (0, .ref (B + 0))]) hx hb d_Mo_total_47 rfl hl (by decide) rfl (fun ls hl => ?_)
      exact w_Mo_total_48 X _ _ _ _ _ _ (lv_sub hl [1, 0] rfl) hP hS hf
    · replace hf := (if_neg c1).symm.trans hf
      refine lv_aload_n hx hb d_Mo_total_8 rfl (lv_at hl 0 rfl) ?_
      refine hq_get hx hb hts i_Mo hown hK hP 0 (by decide) (mo_s_Mo (rfl)) rfl 20 (by decide) (hts _ mo_wd_34) (fun _ h => h) (v := .ref (B + 14)) rfl d_Mo_total_9 ?_
      refine lv_iload_n hx hb d_Mo_total_12 rfl (lv_at hl 1 rfl) ?_
      refine lv_lconst (v := 0) hx hb d_Mo_total_13 (by decide) ?_
      obtain ⟨g7, hf⟩ := hm_gd_some hf
      refine hq_last hx hb hK hP hS 14 (by decide) (mo_s_la8 (rfl)) 2 rfl g7 d_Mo_total_14 (fun H locs hP hS => ?_)
      obtain ⟨M_8, e_8, hf⟩ := mo_sl_some hf
      replace hP : hm_P D mo_cl ca 15 mo_sh B M_8.1 M_8.2 H := by rw [e_8]; exact hP
      refine lv_iinc (v := (x1 + 1)) (lv' := [(1, .int (x1 + 1)), (0, .ref (B + 0))]) hx hb d_Mo_total_15 hl (k := 1) rfl rfl (by decide) rfl (fun ls hl => ?_)
      refine lv_goto (tgt := 2) hx hb d_Mo_total_18 (by decide) ?_
      exact ih _ _ _ _ _ (lv_sub hl [1, 0] rfl) hP hS hf
set_option maxHeartbeats 4000000 in
set_option maxRecDepth 100000 in
theorem w_Mo_total_e {p : Program} {l : Launch} {e : Env} {s : State} {m : MethodId} {args : Array Value} {below : List Frame} {meth : Method} {c : Code} {D : va_G} {ca : Nat → ClassId} {B : Nat} {r : Int64} {M9 : mo_M} (X : hq_X p s m args meth c b_Mo_total R_Mo 5 (some .long) D mo_cl (mo_ty ca) hq_tb) : ∀ (M : mo_M) (H : Heap) (locs : List Loc) (ls : Array Slot), lv_has ls 5 [(0, .ref (B + 0))] → hm_P D mo_cl ca 15 (mo_sh) B M.1 M.2 H → va_S (hm_A B 15) s.heap H locs → f_Mo_total M = some (r, M9) → W p l e ({ frames := 3, cells := 0, slots := 0, locals := 70 } : Room) s m args below meth c H locs 0 0 (MQ below (hq_QL D mo_cl ca 15 (mo_sh) B r M9.1 M9.2) args s 0 0 (hm_A B 15)) (F0 m 0 ls []) := by
  obtain ⟨hx, hb, hml, hown, hr, hlk, hKt⟩ := id X
  have hK := hKt.1
  have hts : ∀ w ∈ hq_tb, w.before args s = true := fun w h => hKt.2.2 w h args
  intro  M H locs ls hl hP hS hf
  unfold f_Mo_total at hf
  refine lv_iconst (v := 0) hx hb d_Mo_total_0 (by decide) ?_
  refine lv_istore_n (lv' := [(1, .int 0), (0, .ref (B + 0))]) hx hb d_Mo_total_1 rfl hl (by decide) rfl (fun ls hl => ?_)
  exact w_Mo_total_2 X _ _ _ _ _ _ (lv_sub hl [1, 0] rfl) hP hS hf
set_option maxHeartbeats 4000000 in
set_option maxRecDepth 100000 in
theorem c_Mo_total {l : Launch} {D : va_G} {ca : Nat → ClassId} {B : Nat} {r : Int64} {M M9 : mo_M} (hf : f_Mo_total M  = some (r, M9)) : Met l y_Mo_total [Cond.code y_Mo_total b_Mo_total 5 (some .long)] ({ frames := 3, cells := 0, slots := 0, locals := 70 } : Room) (hq_Pre D mo_cl ca 15 (mo_sh) B (mo_ty ca) hq_tb M.1 M.2 [.ref (B + 0)]) (hq_QL D mo_cl ca 15 (mo_sh) B r M9.1 M9.2) 0 0 (hm_A B 15) := by
  refine Met.ofW (cc := b_Mo_total) (maxL := 5) (ret := (some .long)) (by decide +kernel) rfl ?_
  intro p e s m args below meth c s₁ Bd hml hv
  obtain ⟨rfl, hP, hK⟩ := hv
  have hl := lv_entry ([.ref (B + 0)]) (n := 5) (Nat.le_of_ble_eq_true rfl)
  rw [lg_entry_eq]
  generalize (lg_sl ([.ref (B + 0)]) ++ List.replicate (5 - (lg_sl ([.ref (B + 0)])).length) Slot.unset).toArray = ls at hl ⊢
  have hl : lv_has ls 5 [(0, .ref (B + 0))] := hl
  exact w_Mo_total_e ⟨Bd.exec, Bd.bytes, hml, findClass_of_methodNamed Bd.named, Bd.returns, Bd.notSynchronized, hK⟩   _ _ _ _ hl hP va_S.rf hf
set_option maxHeartbeats 4000000 in
set_option maxRecDepth 100000 in
theorem w_Mo_leans_111 {p : Program} {l : Launch} {e : Env} {s : State} {m : MethodId} {args : Array Value} {below : List Frame} {meth : Method} {c : Code} {D : va_G} {ca : Nat → ClassId} {B : Nat} {r : Int32} {M9 : mo_M} (X : hq_X p s m args meth c b_Mo_leans R_Mo 6 (some .boolean) D mo_cl (mo_ty ca) hq_tb) {k6 : Int32 → Int32 → Int32 → mo_M → Option (Int32 × mo_M)} (hk6 : ∀ (x1 : Int32), ∀ (x2 : Int32), ∀ (x3 : Int32), ∀ (M : mo_M) (H : Heap) (locs : List Loc) (ls : Array Slot), lv_has ls 6 [(0, .ref (B + 0)), (1, .int x1), (2, .int x2), (3, .int x3)] → hm_P D mo_cl ca 15 (mo_sh) B M.1 M.2 H → va_S (hm_A B 15) s.heap H locs → k6 x1 x2 x3 M = some (r, M9) → W p l e ({ frames := 0, cells := 0, slots := 0, locals := 0 } : Room) s m args below meth c H locs 0 0 (MQ below (hq_QI D mo_cl ca 15 (mo_sh) B r M9.1 M9.2) args s 0 0 (hm_A B 15)) (F0 m 6 ls [])) {k69 : Int32 → Int32 → Int32 → Int32 → Int32 → mo_M → Option (Int32 × mo_M)} (hk69 : ∀ (x1 : Int32), ∀ (x2 : Int32), ∀ (x3 : Int32), ∀ (x4 : Int32), ∀ (x5 : Int32), ∀ (M : mo_M) (H : Heap) (locs : List Loc) (ls : Array Slot), lv_has ls 6 [(0, .ref (B + 0)), (1, .int x1), (2, .int x2), (3, .int x3), (4, .int x4), (5, .int x5)] → hm_P D mo_cl ca 15 (mo_sh) B M.1 M.2 H → va_S (hm_A B 15) s.heap H locs → k69 x1 x2 x3 x4 x5 M = some (r, M9) → W p l e ({ frames := 0, cells := 0, slots := 0, locals := 0 } : Room) s m args below meth c H locs 0 0 (MQ below (hq_QI D mo_cl ca 15 (mo_sh) B r M9.1 M9.2) args s 0 0 (hm_A B 15)) (F0 m 69 ls [])) : ∀ (x1 : Int32), ∀ (x2 : Int32), ∀ (x3 : Int32), ∀ (x4 : Int32), ∀ (x5 : Int32), ∀ (M : mo_M) (H : Heap) (locs : List Loc) (ls : Array Slot), lv_has ls 6 [(0, .ref (B + 0)), (1, .int x1), (2, .int x2), (3, .int x3), (4, .int x4), (5, .int x5)] → hm_P D mo_cl ca 15 (mo_sh) B M.1 M.2 H → va_S (hm_A B 15) s.heap H locs → f_Mo_leans_111 k6 k69 x1 x2 x3 x4 x5 M = some (r, M9) → W p l e ({ frames := 0, cells := 0, slots := 0, locals := 0 } : Room) s m args below meth c H locs 0 0 (MQ below (hq_QI D mo_cl ca 15 (mo_sh) B r M9.1 M9.2) args s 0 0 (hm_A B 15)) (F0 m 111 ls []) := by
  obtain ⟨hx, hb, hml, hown, hr, hlk, hKt⟩ := id X
  have hK := hKt.1
  have hts : ∀ w ∈ hq_tb, w.before args s = true := fun w h => hKt.2.2 w h args
  intro x1 x2 x3 x4 x5 M H locs ls hl hP hS hf
  unfold f_Mo_leans_111 at hf
  refine lv_iinc (v := (x5 + 1)) (lv' := [(5, .int (x5 + 1)), (0, .ref (B + 0)), (1, .int x1), (2, .int x2), (3, .int x3), (4, .int x4)]) hx hb d_Mo_leans_111 hl (k := 5) rfl rfl (by decide) rfl (fun ls hl => ?_)
  refine lv_goto (tgt := 69) hx hb d_Mo_leans_114 (by decide) ?_
  exact hk69 _ _ _ _ _ _ _ _ _ (lv_sub hl [1, 2, 3, 4, 5, 0] rfl) hP hS hf
set_option maxHeartbeats 4000000 in
set_option maxRecDepth 100000 in
theorem w_Mo_leans_69 {p : Program} {l : Launch} {e : Env} {s : State} {m : MethodId} {args : Array Value} {below : List Frame} {meth : Method} {c : Code} {D : va_G} {ca : Nat → ClassId} {B : Nat} {r : Int32} {M9 : mo_M} (X : hq_X p s m args meth c b_Mo_leans R_Mo 6 (some .boolean) D mo_cl (mo_ty ca) hq_tb) {k6 : Int32 → Int32 → Int32 → mo_M → Option (Int32 × mo_M)} (hk6 : ∀ (x1 : Int32), ∀ (x2 : Int32), ∀ (x3 : Int32), ∀ (M : mo_M) (H : Heap) (locs : List Loc) (ls : Array Slot), lv_has ls 6 [(0, .ref (B + 0)), (1, .int x1), (2, .int x2), (3, .int x3)] → hm_P D mo_cl ca 15 (mo_sh) B M.1 M.2 H → va_S (hm_A B 15) s.heap H locs → k6 x1 x2 x3 M = some (r, M9) → W p l e ({ frames := 0, cells := 0, slots := 0, locals := 0 } : Room) s m args below meth c H locs 0 0 (MQ below (hq_QI D mo_cl ca 15 (mo_sh) B r M9.1 M9.2) args s 0 0 (hm_A B 15)) (F0 m 6 ls [])) : ∀ (n : Nat), ∀ (x1 : Int32), ∀ (x2 : Int32), ∀ (x3 : Int32), ∀ (x4 : Int32), ∀ (x5 : Int32), ∀ (M : mo_M) (H : Heap) (locs : List Loc) (ls : Array Slot), lv_has ls 6 [(0, .ref (B + 0)), (1, .int x1), (2, .int x2), (3, .int x3), (4, .int x4), (5, .int x5)] → hm_P D mo_cl ca 15 (mo_sh) B M.1 M.2 H → va_S (hm_A B 15) s.heap H locs → f_Mo_leans_69 k6 n x1 x2 x3 x4 x5 M = some (r, M9) → W p l e ({ frames := 0, cells := 0, slots := 0, locals := 0 } : Room) s m args below meth c H locs 0 0 (MQ below (hq_QI D mo_cl ca 15 (mo_sh) B r M9.1 M9.2) args s 0 0 (hm_A B 15)) (F0 m 69 ls []) := by
  obtain ⟨hx, hb, hml, hown, hr, hlk, hKt⟩ := id X
  have hK := hKt.1
  have hts : ∀ w ∈ hq_tb, w.before args s = true := fun w h => hKt.2.2 w h args
  intro n
  induction n with
  | zero =>
    intro x1 x2 x3 x4 x5 M H locs ls hl hP hS hf
    cases hf
  | succ n ih =>
    intro x1 x2 x3 x4 x5 M H locs ls hl hP hS hf
    rw [f_Mo_leans_69] at hf
    refine lv_iload hx hb d_Mo_leans_69 (lv_at hl 5 rfl) ?_
    refine lv_iload_n hx hb d_Mo_leans_71 rfl (lv_at hl 3 rfl) ?_
    refine lv_iconst (v := 4) hx hb d_Mo_leans_72 (by decide) ?_
    refine lv_imul hx hb d_Mo_leans_73 ?_
    refine lv_aload_n hx hb d_Mo_leans_74 rfl (lv_at hl 0 rfl) ?_
    refine hq_get hx hb hts i_Mo hown hK hP 0 (by decide) (mo_s_Mo (rfl)) rfl 8 (by decide) (hts _ mo_wd_16) (fun _ h => h) (v := .ref (B + 8)) rfl d_Mo_leans_75 ?_
    refine lv_iload_n hx hb d_Mo_leans_78 rfl (lv_at hl 3 rfl) ?_
    obtain ⟨g1, hf⟩ := hm_gd_some hf
    refine hq_iald hx hb hK hP 8 (by decide) (mo_s_ia8 (rfl)) 0 rfl g1 d_Mo_leans_79 ?_
    refine lv_iadd hx hb d_Mo_leans_80 ?_
    refine lv_icmp_ge (tgt := 117) hx hb d_Mo_leans_81 (by decide) (fun c2 => ?_) (fun c2 => ?_)
    · replace hf := (if_pos c2).symm.trans hf
      refine lv_iinc (v := (x3 + (-1))) (lv' := [(3, .int (x3 + (-1))), (0, .ref (B + 0)), (1, .int x1), (2, .int x2), (4, .int x4), (5, .int x5)]) hx hb d_Mo_leans_117 hl (k := 3) rfl rfl (by decide) rfl (fun ls hl => ?_)
      refine lv_goto (tgt := 6) hx hb d_Mo_leans_120 (by decide) ?_
      exact hk6 _ _ _ _ _ _ _ (lv_sub hl [1, 2, 3, 0] rfl) hP hS hf
    · replace hf := (if_neg c2).symm.trans hf
      refine lv_iload hx hb d_Mo_leans_84 (lv_at hl 4 rfl) ?_
      refine lv_if_eq (tgt := 111) hx hb d_Mo_leans_86 (by decide) (fun c3 => ?_) (fun c3 => ?_)
      · replace hf := (if_pos c3).symm.trans hf
        exact w_Mo_leans_111 X hk6 ih _ _ _ _ _ _ _ _ _ (lv_sub hl [0, 1, 2, 3, 4, 5] rfl) hP hS hf
      · replace hf := (if_neg c3).symm.trans hf
        refine lv_aload_n hx hb d_Mo_leans_89 rfl (lv_at hl 0 rfl) ?_
        refine hq_get hx hb hts i_Mo hown hK hP 0 (by decide) (mo_s_Mo (rfl)) rfl 5 (by decide) (hts _ mo_wd_17) (fun _ h => h) (v := .ref (B + 5)) rfl d_Mo_leans_90 ?_
        refine lv_iload hx hb d_Mo_leans_93 (lv_at hl 5 rfl) ?_
        obtain ⟨g4, hf⟩ := hm_gd_some hf
        refine hq_iald hx hb hK hP 5 (by decide) (mo_s_ia32 (rfl)) 0 rfl g4 d_Mo_leans_95 ?_
        refine lv_if_lt (tgt := 111) hx hb d_Mo_leans_96 (by decide) (fun c5 => ?_) (fun c5 => ?_)
        · replace hf := (if_pos c5).symm.trans hf
          exact w_Mo_leans_111 X hk6 ih _ _ _ _ _ _ _ _ _ (lv_sub hl [0, 1, 2, 3, 4, 5] rfl) hP hS hf
        · replace hf := (if_neg c5).symm.trans hf
          refine lv_iload_n hx hb d_Mo_leans_99 rfl (lv_at hl 2 rfl) ?_
          refine lv_iconst (v := 1) hx hb d_Mo_leans_100 (by decide) ?_
          refine lv_aload_n hx hb d_Mo_leans_101 rfl (lv_at hl 0 rfl) ?_
          refine hq_get hx hb hts i_Mo hown hK hP 0 (by decide) (mo_s_Mo (rfl)) rfl 5 (by decide) (hts _ mo_wd_17) (fun _ h => h) (v := .ref (B + 5)) rfl d_Mo_leans_102 ?_
          refine lv_iload hx hb d_Mo_leans_105 (lv_at hl 5 rfl) ?_
          obtain ⟨g6, hf⟩ := hm_gd_some hf
          refine hq_iald hx hb hK hP 5 (by decide) (mo_s_ia32 (rfl)) 0 rfl g6 d_Mo_leans_107 ?_
          refine lv_ishl hx hb d_Mo_leans_108 ?_
          refine lv_ior hx hb d_Mo_leans_109 ?_
          refine lv_istore_n (lv' := [(2, .int (x2 ||| ((1 : Int32) <<< ((M.1 5 x5.toNatClampNeg) &&& 31)))), (0, .ref (B + 0)), (1, .int x1), (3, .int x3), (4, .int x4), (5, .int x5)]) hx hb d_Mo_leans_110 rfl hl (by decide) rfl (fun ls hl => ?_)
          exact w_Mo_leans_111 X hk6 ih _ _ _ _ _ _ _ _ _ (lv_sub hl [1, 2, 0, 3, 4, 5] rfl) hP hS hf
set_option maxHeartbeats 4000000 in
set_option maxRecDepth 100000 in
theorem w_Mo_leans_64 {p : Program} {l : Launch} {e : Env} {s : State} {m : MethodId} {args : Array Value} {below : List Frame} {meth : Method} {c : Code} {D : va_G} {ca : Nat → ClassId} {B : Nat} {r : Int32} {M9 : mo_M} (X : hq_X p s m args meth c b_Mo_leans R_Mo 6 (some .boolean) D mo_cl (mo_ty ca) hq_tb) {k6 : Int32 → Int32 → Int32 → mo_M → Option (Int32 × mo_M)} (hk6 : ∀ (x1 : Int32), ∀ (x2 : Int32), ∀ (x3 : Int32), ∀ (M : mo_M) (H : Heap) (locs : List Loc) (ls : Array Slot), lv_has ls 6 [(0, .ref (B + 0)), (1, .int x1), (2, .int x2), (3, .int x3)] → hm_P D mo_cl ca 15 (mo_sh) B M.1 M.2 H → va_S (hm_A B 15) s.heap H locs → k6 x1 x2 x3 M = some (r, M9) → W p l e ({ frames := 0, cells := 0, slots := 0, locals := 0 } : Room) s m args below meth c H locs 0 0 (MQ below (hq_QI D mo_cl ca 15 (mo_sh) B r M9.1 M9.2) args s 0 0 (hm_A B 15)) (F0 m 6 ls [])) : ∀ (x1 : Int32), ∀ (x2 : Int32), ∀ (x3 : Int32), ∀ (x4 : Int32), ∀ (M : mo_M) (H : Heap) (locs : List Loc) (ls : Array Slot), lv_has ls 6 [(0, .ref (B + 0)), (1, .int x1), (2, .int x2), (3, .int x3), (4, .int x4)] → hm_P D mo_cl ca 15 (mo_sh) B M.1 M.2 H → va_S (hm_A B 15) s.heap H locs → f_Mo_leans_64 k6 x1 x2 x3 x4 M = some (r, M9) → W p l e ({ frames := 0, cells := 0, slots := 0, locals := 0 } : Room) s m args below meth c H locs 0 0 (MQ below (hq_QI D mo_cl ca 15 (mo_sh) B r M9.1 M9.2) args s 0 0 (hm_A B 15)) (F0 m 64 ls []) := by
  obtain ⟨hx, hb, hml, hown, hr, hlk, hKt⟩ := id X
  have hK := hKt.1
  have hts : ∀ w ∈ hq_tb, w.before args s = true := fun w h => hKt.2.2 w h args
  intro x1 x2 x3 x4 M H locs ls hl hP hS hf
  unfold f_Mo_leans_64 at hf
  refine lv_iload_n hx hb d_Mo_leans_64 rfl (lv_at hl 3 rfl) ?_
  refine lv_iconst (v := 4) hx hb d_Mo_leans_65 (by decide) ?_
  refine lv_imul hx hb d_Mo_leans_66 ?_
  refine lv_istore (lv' := [(5, .int (x3 * 4)), (0, .ref (B + 0)), (1, .int x1), (2, .int x2), (3, .int x3), (4, .int x4)]) hx hb d_Mo_leans_67 hl (by decide) rfl (fun ls hl => ?_)
  exact w_Mo_leans_69 X hk6 _ _ _ _ _ _ _ _ _ _ (lv_sub hl [1, 2, 3, 4, 5, 0] rfl) hP hS hf
set_option maxHeartbeats 4000000 in
set_option maxRecDepth 100000 in
theorem w_Mo_leans_37 {p : Program} {l : Launch} {e : Env} {s : State} {m : MethodId} {args : Array Value} {below : List Frame} {meth : Method} {c : Code} {D : va_G} {ca : Nat → ClassId} {B : Nat} {r : Int32} {M9 : mo_M} (X : hq_X p s m args meth c b_Mo_leans R_Mo 6 (some .boolean) D mo_cl (mo_ty ca) hq_tb) {k6 : Int32 → Int32 → Int32 → mo_M → Option (Int32 × mo_M)} (hk6 : ∀ (x1 : Int32), ∀ (x2 : Int32), ∀ (x3 : Int32), ∀ (M : mo_M) (H : Heap) (locs : List Loc) (ls : Array Slot), lv_has ls 6 [(0, .ref (B + 0)), (1, .int x1), (2, .int x2), (3, .int x3)] → hm_P D mo_cl ca 15 (mo_sh) B M.1 M.2 H → va_S (hm_A B 15) s.heap H locs → k6 x1 x2 x3 M = some (r, M9) → W p l e ({ frames := 0, cells := 0, slots := 0, locals := 0 } : Room) s m args below meth c H locs 0 0 (MQ below (hq_QI D mo_cl ca 15 (mo_sh) B r M9.1 M9.2) args s 0 0 (hm_A B 15)) (F0 m 6 ls [])) : ∀ (x1 : Int32), ∀ (x2 : Int32), ∀ (x3 : Int32), ∀ (y0 : Int32), ∀ (M : mo_M) (H : Heap) (locs : List Loc) (ls : Array Slot), lv_has ls 6 [(0, .ref (B + 0)), (1, .int x1), (2, .int x2), (3, .int x3)] → hm_P D mo_cl ca 15 (mo_sh) B M.1 M.2 H → va_S (hm_A B 15) s.heap H locs → f_Mo_leans_37 k6 x1 x2 x3 y0 M = some (r, M9) → W p l e ({ frames := 0, cells := 0, slots := 0, locals := 0 } : Room) s m args below meth c H locs 0 0 (MQ below (hq_QI D mo_cl ca 15 (mo_sh) B r M9.1 M9.2) args s 0 0 (hm_A B 15)) (F0 m 37 ls [.int y0]) := by
  obtain ⟨hx, hb, hml, hown, hr, hlk, hKt⟩ := id X
  have hK := hKt.1
  have hts : ∀ w ∈ hq_tb, w.before args s = true := fun w h => hKt.2.2 w h args
  intro x1 x2 x3 y0 M H locs ls hl hP hS hf
  unfold f_Mo_leans_37 at hf
  refine lv_istore (lv' := [(4, .int y0), (0, .ref (B + 0)), (1, .int x1), (2, .int x2), (3, .int x3)]) hx hb d_Mo_leans_37 hl (by decide) rfl (fun ls hl => ?_)
  refine lv_iload_n hx hb d_Mo_leans_39 rfl (lv_at hl 4 rfl) ?_
  refine lv_iload_n hx hb d_Mo_leans_40 rfl (lv_at hl 2 rfl) ?_
  refine lv_icmp_ge (tgt := 64) hx hb d_Mo_leans_41 (by decide) (fun c1 => ?_) (fun c1 => ?_)
  · replace hf := (if_pos c1).symm.trans hf
    exact w_Mo_leans_64 X hk6 _ _ _ _ _ _ _ _ (lv_sub hl [1, 2, 3, 4, 0] rfl) hP hS hf
  · replace hf := (if_neg c1).symm.trans hf
    refine lv_iload_n hx hb d_Mo_leans_44 rfl (lv_at hl 3 rfl) ?_
    refine lv_iload_n hx hb d_Mo_leans_45 rfl (lv_at hl 4 rfl) ?_
    refine lv_ishr hx hb d_Mo_leans_46 ?_
    refine lv_iconst (v := 1) hx hb d_Mo_leans_47 (by decide) ?_
    refine lv_iand hx hb d_Mo_leans_48 ?_
    refine lv_if_eq (tgt := 64) hx hb d_Mo_leans_49 (by decide) (fun c2 => ?_) (fun c2 => ?_)
    · replace hf := (if_pos c2).symm.trans hf
      exact w_Mo_leans_64 X hk6 _ _ _ _ _ _ _ _ (lv_sub hl [1, 2, 3, 4, 0] rfl) hP hS hf
    · replace hf := (if_neg c2).symm.trans hf
      refine lv_aload_n hx hb d_Mo_leans_52 rfl (lv_at hl 1 rfl) ?_
      refine hq_get hx hb hts i_Mo hown hK hP 0 (by decide) (mo_s_Mo (rfl)) rfl 4 (by decide) (hts _ mo_wd_20) (fun _ h => h) (v := .ref (B + 4)) rfl d_Mo_leans_53 ?_
      refine lv_iload_n hx hb d_Mo_leans_56 rfl (lv_at hl 4 rfl) ?_
      obtain ⟨g3, hf⟩ := hm_gd_some hf
      refine hq_iald hx hb hK hP 4 (by decide) (mo_s_ia8 (rfl)) 0 rfl g3 d_Mo_leans_57 ?_
      refine lv_iconst (v := 2) hx hb d_Mo_leans_58 (by decide) ?_
      refine lv_icmp_ne (tgt := 64) hx hb d_Mo_leans_59 (by decide) (fun c4 => ?_) (fun c4 => ?_)
      · replace hf := (if_neg c4).symm.trans hf
        exact w_Mo_leans_64 X hk6 _ _ _ _ _ _ _ _ (lv_sub hl [1, 2, 3, 4, 0] rfl) hP hS hf
      · replace hf := (if_pos c4).symm.trans hf
        refine lv_iconst (v := 1) hx hb d_Mo_leans_62 (by decide) ?_
        obtain ⟨g5, hf⟩ := hm_gd_some hf
        obtain ⟨h9, h8⟩ := Prod.mk.inj (Option.some.inj hf)
        subst h9
        subst h8
        exact W.zret (ty := .boolean) hx hb hr (hq_nb2 (of_decide_eq_true g5)) (fun t ht _ => ⟨⟨_, (), rfl, rfl, by subst ht; exact hP⟩, hS.F ht⟩) hS.2.2 d_Mo_leans_63 hlk
set_option maxHeartbeats 4000000 in
set_option maxRecDepth 100000 in
theorem w_Mo_leans_32 {p : Program} {l : Launch} {e : Env} {s : State} {m : MethodId} {args : Array Value} {below : List Frame} {meth : Method} {c : Code} {D : va_G} {ca : Nat → ClassId} {B : Nat} {r : Int32} {M9 : mo_M} (X : hq_X p s m args meth c b_Mo_leans R_Mo 6 (some .boolean) D mo_cl (mo_ty ca) hq_tb) {k6 : Int32 → Int32 → Int32 → mo_M → Option (Int32 × mo_M)} (hk6 : ∀ (x1 : Int32), ∀ (x2 : Int32), ∀ (x3 : Int32), ∀ (M : mo_M) (H : Heap) (locs : List Loc) (ls : Array Slot), lv_has ls 6 [(0, .ref (B + 0)), (1, .int x1), (2, .int x2), (3, .int x3)] → hm_P D mo_cl ca 15 (mo_sh) B M.1 M.2 H → va_S (hm_A B 15) s.heap H locs → k6 x1 x2 x3 M = some (r, M9) → W p l e ({ frames := 0, cells := 0, slots := 0, locals := 0 } : Room) s m args below meth c H locs 0 0 (MQ below (hq_QI D mo_cl ca 15 (mo_sh) B r M9.1 M9.2) args s 0 0 (hm_A B 15)) (F0 m 6 ls [])) : ∀ (x1 : Int32), ∀ (x2 : Int32), ∀ (x3 : Int32), ∀ (M : mo_M) (H : Heap) (locs : List Loc) (ls : Array Slot), lv_has ls 6 [(0, .ref (B + 0)), (1, .int x1), (2, .int x2), (3, .int x3)] → hm_P D mo_cl ca 15 (mo_sh) B M.1 M.2 H → va_S (hm_A B 15) s.heap H locs → f_Mo_leans_32 k6 x1 x2 x3 M = some (r, M9) → W p l e ({ frames := 0, cells := 0, slots := 0, locals := 0 } : Room) s m args below meth c H locs 0 0 (MQ below (hq_QI D mo_cl ca 15 (mo_sh) B r M9.1 M9.2) args s 0 0 (hm_A B 15)) (F0 m 32 ls []) := by
  obtain ⟨hx, hb, hml, hown, hr, hlk, hKt⟩ := id X
  have hK := hKt.1
  have hts : ∀ w ∈ hq_tb, w.before args s = true := fun w h => hKt.2.2 w h args
  intro x1 x2 x3 M H locs ls hl hP hS hf
  unfold f_Mo_leans_32 at hf
  refine lv_iconst (v := 1) hx hb d_Mo_leans_32 (by decide) ?_
  refine lv_goto (tgt := 37) hx hb d_Mo_leans_33 (by decide) ?_
  exact w_Mo_leans_37 X hk6 _ _ _ _ _ _ _ _ (lv_sub hl [0, 1, 2, 3] rfl) hP hS hf
set_option maxHeartbeats 4000000 in
set_option maxRecDepth 100000 in
theorem w_Mo_leans_36 {p : Program} {l : Launch} {e : Env} {s : State} {m : MethodId} {args : Array Value} {below : List Frame} {meth : Method} {c : Code} {D : va_G} {ca : Nat → ClassId} {B : Nat} {r : Int32} {M9 : mo_M} (X : hq_X p s m args meth c b_Mo_leans R_Mo 6 (some .boolean) D mo_cl (mo_ty ca) hq_tb) {k6 : Int32 → Int32 → Int32 → mo_M → Option (Int32 × mo_M)} (hk6 : ∀ (x1 : Int32), ∀ (x2 : Int32), ∀ (x3 : Int32), ∀ (M : mo_M) (H : Heap) (locs : List Loc) (ls : Array Slot), lv_has ls 6 [(0, .ref (B + 0)), (1, .int x1), (2, .int x2), (3, .int x3)] → hm_P D mo_cl ca 15 (mo_sh) B M.1 M.2 H → va_S (hm_A B 15) s.heap H locs → k6 x1 x2 x3 M = some (r, M9) → W p l e ({ frames := 0, cells := 0, slots := 0, locals := 0 } : Room) s m args below meth c H locs 0 0 (MQ below (hq_QI D mo_cl ca 15 (mo_sh) B r M9.1 M9.2) args s 0 0 (hm_A B 15)) (F0 m 6 ls [])) : ∀ (x1 : Int32), ∀ (x2 : Int32), ∀ (x3 : Int32), ∀ (M : mo_M) (H : Heap) (locs : List Loc) (ls : Array Slot), lv_has ls 6 [(0, .ref (B + 0)), (1, .int x1), (2, .int x2), (3, .int x3)] → hm_P D mo_cl ca 15 (mo_sh) B M.1 M.2 H → va_S (hm_A B 15) s.heap H locs → f_Mo_leans_36 k6 x1 x2 x3 M = some (r, M9) → W p l e ({ frames := 0, cells := 0, slots := 0, locals := 0 } : Room) s m args below meth c H locs 0 0 (MQ below (hq_QI D mo_cl ca 15 (mo_sh) B r M9.1 M9.2) args s 0 0 (hm_A B 15)) (F0 m 36 ls []) := by
  obtain ⟨hx, hb, hml, hown, hr, hlk, hKt⟩ := id X
  have hK := hKt.1
  have hts : ∀ w ∈ hq_tb, w.before args s = true := fun w h => hKt.2.2 w h args
  intro x1 x2 x3 M H locs ls hl hP hS hf
  unfold f_Mo_leans_36 at hf
  refine lv_iconst (v := 0) hx hb d_Mo_leans_36 (by decide) ?_
  exact w_Mo_leans_37 X hk6 _ _ _ _ _ _ _ _ (lv_sub hl [0, 1, 2, 3] rfl) hP hS hf
set_option maxHeartbeats 4000000 in
set_option maxRecDepth 100000 in
theorem w_Mo_leans_6 {p : Program} {l : Launch} {e : Env} {s : State} {m : MethodId} {args : Array Value} {below : List Frame} {meth : Method} {c : Code} {D : va_G} {ca : Nat → ClassId} {B : Nat} {r : Int32} {M9 : mo_M} (X : hq_X p s m args meth c b_Mo_leans R_Mo 6 (some .boolean) D mo_cl (mo_ty ca) hq_tb) : ∀ (n : Nat), ∀ (x1 : Int32), ∀ (x2 : Int32), ∀ (x3 : Int32), ∀ (M : mo_M) (H : Heap) (locs : List Loc) (ls : Array Slot), lv_has ls 6 [(0, .ref (B + 0)), (1, .int x1), (2, .int x2), (3, .int x3)] → hm_P D mo_cl ca 15 (mo_sh) B M.1 M.2 H → va_S (hm_A B 15) s.heap H locs → f_Mo_leans_6 n x1 x2 x3 M = some (r, M9) → W p l e ({ frames := 0, cells := 0, slots := 0, locals := 0 } : Room) s m args below meth c H locs 0 0 (MQ below (hq_QI D mo_cl ca 15 (mo_sh) B r M9.1 M9.2) args s 0 0 (hm_A B 15)) (F0 m 6 ls []) := by
  obtain ⟨hx, hb, hml, hown, hr, hlk, hKt⟩ := id X
  have hK := hKt.1
  have hts : ∀ w ∈ hq_tb, w.before args s = true := fun w h => hKt.2.2 w h args
  intro n
  induction n with
  | zero =>
    intro x1 x2 x3 M H locs ls hl hP hS hf
    cases hf
  | succ n ih =>
    intro x1 x2 x3 M H locs ls hl hP hS hf
    rw [f_Mo_leans_6] at hf
    refine lv_iload_n hx hb d_Mo_leans_6 rfl (lv_at hl 3 rfl) ?_
    refine lv_if_lt (tgt := 123) hx hb d_Mo_leans_7 (by decide) (fun c1 => ?_) (fun c1 => ?_)
    · replace hf := (if_pos c1).symm.trans hf
      refine lv_iconst (v := 0) hx hb d_Mo_leans_123 (by decide) ?_
      obtain ⟨g2, hf⟩ := hm_gd_some hf
      obtain ⟨h9, h8⟩ := Prod.mk.inj (Option.some.inj hf)
      subst h9
      subst h8
      exact W.zret (ty := .boolean) hx hb hr (hq_nb2 (of_decide_eq_true g2)) (fun t ht _ => ⟨⟨_, (), rfl, rfl, by subst ht; exact hP⟩, hS.F ht⟩) hS.2.2 d_Mo_leans_124 hlk
    · replace hf := (if_neg c1).symm.trans hf
      refine lv_iload_n hx hb d_Mo_leans_10 rfl (lv_at hl 2 rfl) ?_
      refine lv_iload_n hx hb d_Mo_leans_11 rfl (lv_at hl 3 rfl) ?_
      refine lv_ishr hx hb d_Mo_leans_12 ?_
      refine lv_iconst (v := 1) hx hb d_Mo_leans_13 (by decide) ?_
      refine lv_iand hx hb d_Mo_leans_14 ?_
      refine lv_if_eq (tgt := 36) hx hb d_Mo_leans_15 (by decide) (fun c3 => ?_) (fun c3 => ?_)
      · replace hf := (if_pos c3).symm.trans hf
        exact w_Mo_leans_36 X ih _ _ _ _ _ _ _ (lv_sub hl [0, 1, 2, 3] rfl) hP hS hf
      · replace hf := (if_neg c3).symm.trans hf
        refine lv_iload_n hx hb d_Mo_leans_18 rfl (lv_at hl 3 rfl) ?_
        refine lv_iload_n hx hb d_Mo_leans_19 rfl (lv_at hl 1 rfl) ?_
        refine lv_icmp_eq (tgt := 32) hx hb d_Mo_leans_20 (by decide) (fun c4 => ?_) (fun c4 => ?_)
        · replace hf := (if_pos c4).symm.trans hf
          exact w_Mo_leans_32 X ih _ _ _ _ _ _ _ (lv_sub hl [0, 1, 2, 3] rfl) hP hS hf
        · replace hf := (if_neg c4).symm.trans hf
          refine lv_aload_n hx hb d_Mo_leans_23 rfl (lv_at hl 0 rfl) ?_
          refine hq_get hx hb hts i_Mo hown hK hP 0 (by decide) (mo_s_Mo (rfl)) rfl 4 (by decide) (hts _ mo_wd_20) (fun _ h => h) (v := .ref (B + 4)) rfl d_Mo_leans_24 ?_
          refine lv_iload_n hx hb d_Mo_leans_27 rfl (lv_at hl 3 rfl) ?_
          obtain ⟨g5, hf⟩ := hm_gd_some hf
          refine hq_iald hx hb hK hP 4 (by decide) (mo_s_ia8 (rfl)) 0 rfl g5 d_Mo_leans_28 ?_
          refine lv_if_ne (tgt := 36) hx hb d_Mo_leans_29 (by decide) (fun c6 => ?_) (fun c6 => ?_)
          · replace hf := (if_neg c6).symm.trans hf
            exact w_Mo_leans_36 X ih _ _ _ _ _ _ _ (lv_sub hl [0, 1, 2, 3] rfl) hP hS hf
          · replace hf := (if_pos c6).symm.trans hf
            exact w_Mo_leans_32 X ih _ _ _ _ _ _ _ (lv_sub hl [0, 1, 2, 3] rfl) hP hS hf
set_option maxHeartbeats 4000000 in
set_option maxRecDepth 100000 in
theorem w_Mo_leans_e {p : Program} {l : Launch} {e : Env} {s : State} {m : MethodId} {args : Array Value} {below : List Frame} {meth : Method} {c : Code} {D : va_G} {ca : Nat → ClassId} {B : Nat} {r : Int32} {M9 : mo_M} (X : hq_X p s m args meth c b_Mo_leans R_Mo 6 (some .boolean) D mo_cl (mo_ty ca) hq_tb) : ∀ (x1 : Int32), ∀ (M : mo_M) (H : Heap) (locs : List Loc) (ls : Array Slot), lv_has ls 6 [(0, .ref (B + 0)), (1, .int x1)] → hm_P D mo_cl ca 15 (mo_sh) B M.1 M.2 H → va_S (hm_A B 15) s.heap H locs → f_Mo_leans M x1 = some (r, M9) → W p l e ({ frames := 0, cells := 0, slots := 0, locals := 0 } : Room) s m args below meth c H locs 0 0 (MQ below (hq_QI D mo_cl ca 15 (mo_sh) B r M9.1 M9.2) args s 0 0 (hm_A B 15)) (F0 m 0 ls []) := by
  obtain ⟨hx, hb, hml, hown, hr, hlk, hKt⟩ := id X
  have hK := hKt.1
  have hts : ∀ w ∈ hq_tb, w.before args s = true := fun w h => hKt.2.2 w h args
  intro x1 M H locs ls hl hP hS hf
  unfold f_Mo_leans at hf
  refine lv_iconst (v := 1) hx hb d_Mo_leans_0 (by decide) ?_
  refine lv_iload_n hx hb d_Mo_leans_1 rfl (lv_at hl 1 rfl) ?_
  refine lv_ishl hx hb d_Mo_leans_2 ?_
  refine lv_istore_n (lv' := [(2, .int ((1 : Int32) <<< (x1 &&& 31))), (0, .ref (B + 0)), (1, .int x1)]) hx hb d_Mo_leans_3 rfl hl (by decide) rfl (fun ls hl => ?_)
  refine lv_iload_n hx hb d_Mo_leans_4 rfl (lv_at hl 2 rfl) ?_
  refine lv_istore_n (lv' := [(3, .int x1), (2, .int ((1 : Int32) <<< (x1 &&& 31))), (0, .ref (B + 0)), (1, .int x1)]) hx hb d_Mo_leans_5 rfl hl (by decide) rfl (fun ls hl => ?_)
  exact w_Mo_leans_6 X _ _ _ _ _ _ _ _ (lv_sub hl [2, 3, 1, 0] rfl) hP hS hf
set_option maxHeartbeats 4000000 in
set_option maxRecDepth 100000 in
theorem c_Mo_leans {l : Launch} {D : va_G} {ca : Nat → ClassId} {B : Nat} {r : Int32} {x1 : Int32} {M M9 : mo_M} (hf : f_Mo_leans M x1 = some (r, M9)) : Met l y_Mo_leans [Cond.code y_Mo_leans b_Mo_leans 6 (some .boolean)] ({ frames := 0, cells := 0, slots := 0, locals := 0 } : Room) (hq_Pre D mo_cl ca 15 (mo_sh) B (mo_ty ca) hq_tb M.1 M.2 [.ref (B + 0), .int x1]) (hq_QI D mo_cl ca 15 (mo_sh) B r M9.1 M9.2) 0 0 (hm_A B 15) := by
  refine Met.ofW (cc := b_Mo_leans) (maxL := 6) (ret := (some .boolean)) (by decide +kernel) rfl ?_
  intro p e s m args below meth c s₁ Bd hml hv
  obtain ⟨rfl, hP, hK⟩ := hv
  have hl := lv_entry ([.ref (B + 0), .int x1]) (n := 6) (Nat.le_of_ble_eq_true rfl)
  rw [lg_entry_eq]
  generalize (lg_sl ([.ref (B + 0), .int x1]) ++ List.replicate (6 - (lg_sl ([.ref (B + 0), .int x1])).length) Slot.unset).toArray = ls at hl ⊢
  have hl : lv_has ls 6 [(0, .ref (B + 0)), (1, .int x1)] := hl
  exact w_Mo_leans_e ⟨Bd.exec, Bd.bytes, hml, findClass_of_methodNamed Bd.named, Bd.returns, Bd.notSynchronized, hK⟩  _ _ _ _ _ hl hP va_S.rf hf
set_option maxHeartbeats 4000000 in
set_option maxRecDepth 100000 in
theorem w_Mo_compile_64 {p : Program} {l : Launch} {e : Env} {s : State} {m : MethodId} {args : Array Value} {below : List Frame} {meth : Method} {c : Code} {D : va_G} {ca : Nat → ClassId} {B : Nat} {r : Int32} {M9 : mo_M} (X : hq_X p s m args meth c b_Mo_compile R_Mo 3 (some .int) D mo_cl (mo_ty ca) hq_tb) {k33 : Int32 → mo_M → Option (Int32 × mo_M)} (hk33 : ∀ (x1 : Int32), ∀ (M : mo_M) (H : Heap) (locs : List Loc) (ls : Array Slot), lv_has ls 3 [(0, .ref (B + 0)), (1, .int x1)] → hm_P D mo_cl ca 15 (mo_sh) B M.1 M.2 H → va_S (hm_A B 15) s.heap H locs → k33 x1 M = some (r, M9) → W p l e ({ frames := 4, cells := 0, slots := 0, locals := 94 } : Room) s m args below meth c H locs 0 0 (MQ below (hq_QI D mo_cl ca 15 (mo_sh) B r M9.1 M9.2) args s 0 0 (hm_A B 15)) (F0 m 33 ls [])) : ∀ (x1 : Int32), ∀ (M : mo_M) (H : Heap) (locs : List Loc) (ls : Array Slot), lv_has ls 3 [(0, .ref (B + 0)), (1, .int x1)] → hm_P D mo_cl ca 15 (mo_sh) B M.1 M.2 H → va_S (hm_A B 15) s.heap H locs → f_Mo_compile_64 k33 x1 M = some (r, M9) → W p l e ({ frames := 4, cells := 0, slots := 0, locals := 94 } : Room) s m args below meth c H locs 0 0 (MQ below (hq_QI D mo_cl ca 15 (mo_sh) B r M9.1 M9.2) args s 0 0 (hm_A B 15)) (F0 m 64 ls []) := by
  obtain ⟨hx, hb, hml, hown, hr, hlk, hKt⟩ := id X
  have hK := hKt.1
  have hts : ∀ w ∈ hq_tb, w.before args s = true := fun w h => hKt.2.2 w h args
  intro x1 M H locs ls hl hP hS hf
  unfold f_Mo_compile_64 at hf
  refine lv_iinc (v := (x1 + 1)) (lv' := [(1, .int (x1 + 1)), (0, .ref (B + 0))]) hx hb d_Mo_compile_64 hl (k := 1) rfl rfl (by decide) rfl (fun ls hl => ?_)
  refine lv_goto (tgt := 33) hx hb d_Mo_compile_67 (by decide) ?_
  exact hk33 _ _ _ _ _ (lv_sub hl [1, 0] rfl) hP hS hf
set_option maxHeartbeats 4000000 in
set_option maxRecDepth 100000 in
theorem w_Mo_compile_33 {p : Program} {l : Launch} {e : Env} {s : State} {m : MethodId} {args : Array Value} {below : List Frame} {meth : Method} {c : Code} {D : va_G} {ca : Nat → ClassId} {B : Nat} {r : Int32} {M9 : mo_M} (X : hq_X p s m args meth c b_Mo_compile R_Mo 3 (some .int) D mo_cl (mo_ty ca) hq_tb) : ∀ (n : Nat), ∀ (x1 : Int32), ∀ (M : mo_M) (H : Heap) (locs : List Loc) (ls : Array Slot), lv_has ls 3 [(0, .ref (B + 0)), (1, .int x1)] → hm_P D mo_cl ca 15 (mo_sh) B M.1 M.2 H → va_S (hm_A B 15) s.heap H locs → f_Mo_compile_33 n x1 M = some (r, M9) → W p l e ({ frames := 4, cells := 0, slots := 0, locals := 94 } : Room) s m args below meth c H locs 0 0 (MQ below (hq_QI D mo_cl ca 15 (mo_sh) B r M9.1 M9.2) args s 0 0 (hm_A B 15)) (F0 m 33 ls []) := by
  obtain ⟨hx, hb, hml, hown, hr, hlk, hKt⟩ := id X
  have hK := hKt.1
  have hts : ∀ w ∈ hq_tb, w.before args s = true := fun w h => hKt.2.2 w h args
  intro n
  induction n with
  | zero =>
    intro x1 M H locs ls hl hP hS hf
    cases hf
  | succ n ih =>
    intro x1 M H locs ls hl hP hS hf
    rw [f_Mo_compile_33] at hf
    refine lv_iload_n hx hb d_Mo_compile_33 rfl (lv_at hl 1 rfl) ?_
    refine lv_aload_n hx hb d_Mo_compile_34 rfl (lv_at hl 0 rfl) ?_
    refine hq_get hx hb hts i_Mo hown hK hP 0 (by decide) (mo_s_Mo (rfl)) rfl 11 (by decide) (hts _ mo_wd_22) (fun _ h => h) (v := .int (M.1 0 11)) rfl d_Mo_compile_35 ?_
    refine lv_icmp_ge (tgt := 70) hx hb d_Mo_compile_38 (by decide) (fun c1 => ?_) (fun c1 => ?_)
    · replace hf := (if_pos c1).symm.trans hf
      refine lv_aload_n hx hb d_Mo_compile_70 rfl (lv_at hl 0 rfl) ?_
      obtain ⟨r2, M_3, hc4, hf⟩ := hm_bI_some hf
      refine hq_callL (va_runV (As := []) (rest := []) ⟨hx, hb, hml, hown, hts⟩ (c_Mo_total (l := l) (D := D) (ca := ca) (B := B)  hc4) (hq_cwV (nn := 0) hts mo_wd_63 mo_wd_6 mo_wd_64 mo_wd_65 mo_wd_66 (by decide +kernel) rfl rfl ⟨(Nat.le_of_ble_eq_true rfl), (Nat.le_of_ble_eq_true rfl)⟩) (hq_preV hKt hP (by decide) (mo_s_Mo (rfl)) rfl) rfl rfl hl.1 rfl (lv_room (Nat.le_of_ble_eq_true rfl)) d_Mo_compile_71 ⟨(Nat.le_of_ble_eq_true rfl), (Nat.le_of_ble_eq_true rfl)⟩) hS (fun H locs hP hS => ?_)
      refine lv_lstore_n (lv' := [(1, .long r2), (0, .ref (B + 0))]) hx hb d_Mo_compile_74 rfl hl (by decide) rfl (fun ls hl => ?_)
      refine lv_lload_n hx hb d_Mo_compile_75 rfl (lv_at hl 0 rfl) ?_
      refine lv_ldc2 (v := 4000) hx hb hown (hts _ mo_wd_67) d_Mo_compile_76 ?_
      refine W.lcmp hx hb d_Mo_compile_79 ?_
      refine lv_if_le (tgt := 87) hx hb d_Mo_compile_80 (by decide) (fun c5 => ?_) (fun c5 => ?_)
      · replace hf := (if_pos c5).symm.trans hf
        refine lv_aload_n hx hb d_Mo_compile_87 rfl (lv_at hl 1 rfl) ?_
        refine lv_iconst (v := 1) hx hb d_Mo_compile_88 (by decide) ?_
        refine hq_put hx hb hts i_Mo t_Mo t_Mo_ok n_Mo hown hK hP hS 0 (by decide) (mo_s_Mo (rfl)) rfl 13 (by decide) (hts _ mo_wd_1) (fun _ h => h) rfl (ty := .boolean) (x := 1) (by decide +kernel) rfl rfl rfl d_Mo_compile_89 (fun H locs hP hS => ?_)
        obtain ⟨M_6, e_6, hf⟩ := mo_st_some hf
        replace hP : hm_P D mo_cl ca 15 mo_sh B M_6.1 M_6.2 H := by rw [e_6]; exact hP
        refine lv_lload_n hx hb d_Mo_compile_92 rfl (lv_at hl 0 rfl) ?_
        refine lv_l2i (v := r2.toInt32) hx hb d_Mo_compile_93 rfl ?_
        obtain ⟨h9, h8⟩ := Prod.mk.inj (Option.some.inj hf)
        subst h9
        subst h8
        exact W.iret hx hb hr (fun t ht _ => ⟨⟨_, (), rfl, rfl, by subst ht; exact hP⟩, hS.F ht⟩) hS.2.2 d_Mo_compile_94 hlk
      · replace hf := (if_neg c5).symm.trans hf
        refine lv_sipush (v := (-300)) hx hb d_Mo_compile_83 (by decide) ?_
        obtain ⟨h9, h8⟩ := Prod.mk.inj (Option.some.inj hf)
        subst h9
        subst h8
        exact W.iret hx hb hr (fun t ht _ => ⟨⟨_, (), rfl, rfl, by subst ht; exact hP⟩, hS.F ht⟩) hS.2.2 d_Mo_compile_86 hlk
    · replace hf := (if_neg c1).symm.trans hf
      refine lv_aload_n hx hb d_Mo_compile_41 rfl (lv_at hl 0 rfl) ?_
      refine lv_iload_n hx hb d_Mo_compile_42 rfl (lv_at hl 1 rfl) ?_
      refine lv_iconst (v := 1) hx hb d_Mo_compile_43 (by decide) ?_
      obtain ⟨r7, M_8, hc9, hf⟩ := hm_bI_some hf
      refine hq_callI (va_runV (As := [.int x1, .int 1]) (rest := []) ⟨hx, hb, hml, hown, hts⟩ (c_Mo_kept (l := l) (D := D) (ca := ca) (B := B)  hc9) (hq_cwV (nn := 2) hts mo_wd_51 mo_wd_6 mo_wd_52 mo_wd_53 mo_wd_54 (by decide +kernel) rfl rfl ⟨(Nat.le_of_ble_eq_true rfl), (Nat.le_of_ble_eq_true rfl)⟩) (hq_preV hKt hP (by decide) (mo_s_Mo (rfl)) rfl) rfl rfl hl.1 rfl (lv_room (Nat.le_of_ble_eq_true rfl)) d_Mo_compile_44 ⟨(Nat.le_of_ble_eq_true rfl), (Nat.le_of_ble_eq_true rfl)⟩) hS (fun H locs hP hS => ?_)
      refine lv_if_eq (tgt := 64) hx hb d_Mo_compile_47 (by decide) (fun c10 => ?_) (fun c10 => ?_)
      · replace hf := (if_pos c10).symm.trans hf
        exact w_Mo_compile_64 X ih _ _ _ _ _ (lv_sub hl [0, 1] rfl) hP hS hf
      · replace hf := (if_neg c10).symm.trans hf
        refine lv_aload_n hx hb d_Mo_compile_50 rfl (lv_at hl 0 rfl) ?_
        refine lv_iload_n hx hb d_Mo_compile_51 rfl (lv_at hl 1 rfl) ?_
        obtain ⟨r11, M_12, hc13, hf⟩ := hm_bI_some hf
        refine hq_callI (va_runV (As := [.int x1]) (rest := []) ⟨hx, hb, hml, hown, hts⟩ (c_Mo_leans (l := l) (D := D) (ca := ca) (B := B)  hc13) (hq_cwV (nn := 1) hts mo_wd_68 mo_wd_6 mo_wd_69 mo_wd_70 mo_wd_71 (by decide +kernel) rfl rfl ⟨(Nat.le_of_ble_eq_true rfl), (Nat.le_of_ble_eq_true rfl)⟩) (hq_preV hKt hP (by decide) (mo_s_Mo (rfl)) rfl) rfl rfl hl.1 rfl (lv_room (Nat.le_of_ble_eq_true rfl)) d_Mo_compile_52 ⟨(Nat.le_of_ble_eq_true rfl), (Nat.le_of_ble_eq_true rfl)⟩) hS (fun H locs hP hS => ?_)
        refine lv_if_eq (tgt := 64) hx hb d_Mo_compile_55 (by decide) (fun c14 => ?_) (fun c14 => ?_)
        · replace hf := (if_pos c14).symm.trans hf
          exact w_Mo_compile_64 X ih _ _ _ _ _ (lv_sub hl [0, 1] rfl) hP hS hf
        · replace hf := (if_neg c14).symm.trans hf
          refine lv_sipush (v := (-200)) hx hb d_Mo_compile_58 (by decide) ?_
          refine lv_iload_n hx hb d_Mo_compile_61 rfl (lv_at hl 1 rfl) ?_
          refine lv_isub hx hb d_Mo_compile_62 ?_
          obtain ⟨h9, h8⟩ := Prod.mk.inj (Option.some.inj hf)
          subst h9
          subst h8
          exact W.iret hx hb hr (fun t ht _ => ⟨⟨_, (), rfl, rfl, by subst ht; exact hP⟩, hS.F ht⟩) hS.2.2 d_Mo_compile_63 hlk
set_option maxHeartbeats 4000000 in
set_option maxRecDepth 100000 in
theorem w_Mo_compile_e {p : Program} {l : Launch} {e : Env} {s : State} {m : MethodId} {args : Array Value} {below : List Frame} {meth : Method} {c : Code} {D : va_G} {ca : Nat → ClassId} {B : Nat} {r : Int32} {M9 : mo_M} (X : hq_X p s m args meth c b_Mo_compile R_Mo 3 (some .int) D mo_cl (mo_ty ca) hq_tb) : ∀ (M : mo_M) (H : Heap) (locs : List Loc) (ls : Array Slot), lv_has ls 3 [(0, .ref (B + 0))] → hm_P D mo_cl ca 15 (mo_sh) B M.1 M.2 H → va_S (hm_A B 15) s.heap H locs → f_Mo_compile M = some (r, M9) → W p l e ({ frames := 4, cells := 0, slots := 0, locals := 94 } : Room) s m args below meth c H locs 0 0 (MQ below (hq_QI D mo_cl ca 15 (mo_sh) B r M9.1 M9.2) args s 0 0 (hm_A B 15)) (F0 m 0 ls []) := by
  obtain ⟨hx, hb, hml, hown, hr, hlk, hKt⟩ := id X
  have hK := hKt.1
  have hts : ∀ w ∈ hq_tb, w.before args s = true := fun w h => hKt.2.2 w h args
  intro  M H locs ls hl hP hS hf
  unfold f_Mo_compile at hf
  refine lv_aload_n hx hb d_Mo_compile_0 rfl (lv_at hl 0 rfl) ?_
  refine hq_get hx hb hts i_Mo hown hK hP 0 (by decide) (mo_s_Mo (rfl)) rfl 13 (by decide) (hts _ mo_wd_1) (fun _ h => h) (v := .int (M.1 0 13)) rfl d_Mo_compile_1 ?_
  refine lv_if_eq (tgt := 10) hx hb d_Mo_compile_4 (by decide) (fun c1 => ?_) (fun c1 => ?_)
  · replace hf := (if_pos c1).symm.trans hf
    refine lv_aload_n hx hb d_Mo_compile_10 rfl (lv_at hl 0 rfl) ?_
    refine hq_get hx hb hts i_Mo hown hK hP 0 (by decide) (mo_s_Mo (rfl)) rfl 11 (by decide) (hts _ mo_wd_22) (fun _ h => h) (v := .int (M.1 0 11)) rfl d_Mo_compile_11 ?_
    refine lv_if_ge (tgt := 20) hx hb d_Mo_compile_14 (by decide) (fun c2 => ?_) (fun c2 => ?_)
    · replace hf := (if_pos c2).symm.trans hf
      refine lv_aload_n hx hb d_Mo_compile_20 rfl (lv_at hl 0 rfl) ?_
      refine lv_iconst (v := 0) hx hb d_Mo_compile_21 (by decide) ?_
      refine lv_aload_n hx hb d_Mo_compile_22 rfl (lv_at hl 0 rfl) ?_
      refine hq_get hx hb hts i_Mo hown hK hP 0 (by decide) (mo_s_Mo (rfl)) rfl 12 (by decide) (hts _ mo_wd_23) (fun _ h => h) (v := .int (M.1 0 12)) rfl d_Mo_compile_23 ?_
      refine lv_iconst (v := 1) hx hb d_Mo_compile_26 (by decide) ?_
      refine lv_isub hx hb d_Mo_compile_27 ?_
      obtain ⟨M_4, hc5, hf⟩ := hm_bV_some hf
      refine hq_callV (va_runV (As := [.int 0, .int ((M.1 0 12) - 1)]) (rest := []) ⟨hx, hb, hml, hown, hts⟩ (c_Mo_need (l := l) (D := D) (ca := ca) (B := B)  hc5) (hq_cwV (nn := 2) hts mo_wd_47 mo_wd_6 mo_wd_48 mo_wd_49 mo_wd_50 (by decide +kernel) rfl rfl ⟨(Nat.le_of_ble_eq_true rfl), (Nat.le_of_ble_eq_true rfl)⟩) (hq_preV hKt hP (by decide) (mo_s_Mo (rfl)) rfl) rfl rfl hl.1 rfl (lv_room (Nat.le_of_ble_eq_true rfl)) d_Mo_compile_28 ⟨(Nat.le_of_ble_eq_true rfl), (Nat.le_of_ble_eq_true rfl)⟩) hS (fun H locs hP hS => ?_)
      refine lv_iconst (v := 0) hx hb d_Mo_compile_31 (by decide) ?_
      refine lv_istore_n (lv' := [(1, .int 0), (0, .ref (B + 0))]) hx hb d_Mo_compile_32 rfl hl (by decide) rfl (fun ls hl => ?_)
      exact w_Mo_compile_33 X _ _ _ _ _ _ (lv_sub hl [1, 0] rfl) hP hS hf
    · replace hf := (if_neg c2).symm.trans hf
      refine lv_bipush (v := (-100)) hx hb d_Mo_compile_17 (by decide) ?_
      obtain ⟨h9, h8⟩ := Prod.mk.inj (Option.some.inj hf)
      subst h9
      subst h8
      exact W.iret hx hb hr (fun t ht _ => ⟨⟨_, (), rfl, rfl, by subst ht; exact hP⟩, hS.F ht⟩) hS.2.2 d_Mo_compile_19 hlk
  · replace hf := (if_neg c1).symm.trans hf
    refine lv_bipush (v := (-3)) hx hb d_Mo_compile_7 (by decide) ?_
    obtain ⟨h9, h8⟩ := Prod.mk.inj (Option.some.inj hf)
    subst h9
    subst h8
    exact W.iret hx hb hr (fun t ht _ => ⟨⟨_, (), rfl, rfl, by subst ht; exact hP⟩, hS.F ht⟩) hS.2.2 d_Mo_compile_9 hlk
set_option maxHeartbeats 4000000 in
set_option maxRecDepth 100000 in
theorem c_Mo_compile {l : Launch} {D : va_G} {ca : Nat → ClassId} {B : Nat} {r : Int32} {M M9 : mo_M} (hf : f_Mo_compile M  = some (r, M9)) : Met l y_Mo_compile [Cond.code y_Mo_compile b_Mo_compile 3 (some .int)] ({ frames := 4, cells := 0, slots := 0, locals := 94 } : Room) (hq_Pre D mo_cl ca 15 (mo_sh) B (mo_ty ca) hq_tb M.1 M.2 [.ref (B + 0)]) (hq_QI D mo_cl ca 15 (mo_sh) B r M9.1 M9.2) 0 0 (hm_A B 15) := by
  refine Met.ofW (cc := b_Mo_compile) (maxL := 3) (ret := (some .int)) (by decide +kernel) rfl ?_
  intro p e s m args below meth c s₁ Bd hml hv
  obtain ⟨rfl, hP, hK⟩ := hv
  have hl := lv_entry ([.ref (B + 0)]) (n := 3) (Nat.le_of_ble_eq_true rfl)
  rw [lg_entry_eq]
  generalize (lg_sl ([.ref (B + 0)]) ++ List.replicate (3 - (lg_sl ([.ref (B + 0)])).length) Slot.unset).toArray = ls at hl ⊢
  have hl : lv_has ls 3 [(0, .ref (B + 0))] := hl
  exact w_Mo_compile_e ⟨Bd.exec, Bd.bytes, hml, findClass_of_methodNamed Bd.named, Bd.returns, Bd.notSynchronized, hK⟩   _ _ _ _ hl hP va_S.rf hf
set_option maxHeartbeats 4000000 in
set_option maxRecDepth 100000 in
theorem w_Mo_run_12 {p : Program} {l : Launch} {e : Env} {s : State} {m : MethodId} {args : Array Value} {below : List Frame} {meth : Method} {c : Code} {D : va_G} {ca : Nat → ClassId} {B : Nat} {r : Int32} {M9 : mo_M} (X : hq_X p s m args meth c b_Mo_run R_Mo 2 (some .int) D mo_cl (mo_ty ca) hq_tb) : ∀ (n : Nat), ∀ (x1 : Int32), ∀ (M : mo_M) (H : Heap) (locs : List Loc) (ls : Array Slot), lv_has ls 2 [(0, .ref (B + 0)), (1, .int x1)] → hm_P D mo_cl ca 15 (mo_sh) B M.1 M.2 H → va_S (hm_A B 15) s.heap H locs → f_Mo_run_12 n x1 M = some (r, M9) → W p l e ({ frames := 2, cells := 0, slots := 0, locals := 50 } : Room) s m args below meth c H locs 0 0 (MQ below (hq_QI D mo_cl ca 15 (mo_sh) B r M9.1 M9.2) args s 0 0 (hm_A B 15)) (F0 m 12 ls []) := by
  obtain ⟨hx, hb, hml, hown, hr, hlk, hKt⟩ := id X
  have hK := hKt.1
  have hts : ∀ w ∈ hq_tb, w.before args s = true := fun w h => hKt.2.2 w h args
  intro n
  induction n with
  | zero =>
    intro x1 M H locs ls hl hP hS hf
    cases hf
  | succ n ih =>
    intro x1 M H locs ls hl hP hS hf
    rw [f_Mo_run_12] at hf
    refine lv_iload_n hx hb d_Mo_run_12 rfl (lv_at hl 1 rfl) ?_
    refine lv_aload_n hx hb d_Mo_run_13 rfl (lv_at hl 0 rfl) ?_
    refine hq_get hx hb hts i_Mo hown hK hP 0 (by decide) (mo_s_Mo (rfl)) rfl 12 (by decide) (hts _ mo_wd_23) (fun _ h => h) (v := .int (M.1 0 12)) rfl d_Mo_run_14 ?_
    refine lv_icmp_ge (tgt := 41) hx hb d_Mo_run_17 (by decide) (fun c1 => ?_) (fun c1 => ?_)
    · replace hf := (if_pos c1).symm.trans hf
      refine lv_aload_n hx hb d_Mo_run_41 rfl (lv_at hl 0 rfl) ?_
      refine lv_iconst (v := 1) hx hb d_Mo_run_42 (by decide) ?_
      refine hq_put hx hb hts i_Mo t_Mo t_Mo_ok n_Mo hown hK hP hS 0 (by decide) (mo_s_Mo (rfl)) rfl 14 (by decide) (hts _ mo_wd_2) (fun _ h => h) rfl (ty := .boolean) (x := 1) (by decide +kernel) rfl rfl rfl d_Mo_run_43 (fun H locs hP hS => ?_)
      obtain ⟨M_2, e_2, hf⟩ := mo_st_some hf
      replace hP : hm_P D mo_cl ca 15 mo_sh B M_2.1 M_2.2 H := by rw [e_2]; exact hP
      refine lv_aload_n hx hb d_Mo_run_46 rfl (lv_at hl 0 rfl) ?_
      obtain ⟨r3, M_4, hc5, hf⟩ := hm_bI_some hf
      refine hq_callI (va_runV (As := []) (rest := []) ⟨hx, hb, hml, hown, hts⟩ (c_Mo_tiles (l := l) (D := D) (ca := ca) (B := B)  hc5) (hq_cwV (nn := 0) hts mo_wd_55 mo_wd_6 mo_wd_56 mo_wd_57 mo_wd_58 (by decide +kernel) rfl rfl ⟨(Nat.le_of_ble_eq_true rfl), (Nat.le_of_ble_eq_true rfl)⟩) (hq_preV hKt hP (by decide) (mo_s_Mo (rfl)) rfl) rfl rfl hl.1 rfl (lv_room (Nat.le_of_ble_eq_true rfl)) d_Mo_run_47 ⟨(Nat.le_of_ble_eq_true rfl), (Nat.le_of_ble_eq_true rfl)⟩) hS (fun H locs hP hS => ?_)
      obtain ⟨h9, h8⟩ := Prod.mk.inj (Option.some.inj hf)
      subst h9
      subst h8
      exact W.iret hx hb hr (fun t ht _ => ⟨⟨_, (), rfl, rfl, by subst ht; exact hP⟩, hS.F ht⟩) hS.2.2 d_Mo_run_50 hlk
    · replace hf := (if_neg c1).symm.trans hf
      refine lv_aload_n hx hb d_Mo_run_20 rfl (lv_at hl 0 rfl) ?_
      refine hq_get hx hb hts i_Mo hown hK hP 0 (by decide) (mo_s_Mo (rfl)) rfl 15 (by decide) (hts _ mo_wd_72) (fun _ h => h) (v := .ref (B + 9)) rfl d_Mo_run_21 ?_
      refine lv_iload_n hx hb d_Mo_run_24 rfl (lv_at hl 1 rfl) ?_
      refine lv_aload_n hx hb d_Mo_run_25 rfl (lv_at hl 0 rfl) ?_
      refine lv_aload_n hx hb d_Mo_run_26 rfl (lv_at hl 0 rfl) ?_
      refine hq_get hx hb hts i_Mo hown hK hP 0 (by decide) (mo_s_Mo (rfl)) rfl 11 (by decide) (hts _ mo_wd_22) (fun _ h => h) (v := .int (M.1 0 11)) rfl d_Mo_run_27 ?_
      refine lv_iload_n hx hb d_Mo_run_30 rfl (lv_at hl 1 rfl) ?_
      obtain ⟨r6, M_7, hc8, hf⟩ := hm_bI_some hf
      refine hq_callI (va_runV (As := [.int (M.1 0 11), .int x1]) (rest := [.int x1, .ref (B + 9)]) ⟨hx, hb, hml, hown, hts⟩ (c_Mo_valueAt (l := l) (D := D) (ca := ca) (B := B)  hc8) (hq_cwV (nn := 2) hts mo_wd_36 mo_wd_6 mo_wd_37 mo_wd_38 mo_wd_39 (by decide +kernel) rfl rfl ⟨(Nat.le_of_ble_eq_true rfl), (Nat.le_of_ble_eq_true rfl)⟩) (hq_preV hKt hP (by decide) (mo_s_Mo (rfl)) rfl) rfl rfl hl.1 rfl (lv_room (Nat.le_of_ble_eq_true rfl)) d_Mo_run_31 ⟨(Nat.le_of_ble_eq_true rfl), (Nat.le_of_ble_eq_true rfl)⟩) hS (fun H locs hP hS => ?_)
      obtain ⟨g9, hf⟩ := hm_gd_some hf
      refine hq_iast hx hb hK hP hS 9 (by decide) (mo_s_ia32 (rfl)) 0 rfl g9 d_Mo_run_34 (fun H locs hP hS => ?_)
      obtain ⟨M_10, e_10, hf⟩ := mo_st_some hf
      replace hP : hm_P D mo_cl ca 15 mo_sh B M_10.1 M_10.2 H := by rw [e_10]; exact hP
      refine lv_iinc (v := (x1 + 1)) (lv' := [(1, .int (x1 + 1)), (0, .ref (B + 0))]) hx hb d_Mo_run_35 hl (k := 1) rfl rfl (by decide) rfl (fun ls hl => ?_)
      refine lv_goto (tgt := 12) hx hb d_Mo_run_38 (by decide) ?_
      exact ih _ _ _ _ _ (lv_sub hl [1, 0] rfl) hP hS hf
set_option maxHeartbeats 4000000 in
set_option maxRecDepth 100000 in
theorem w_Mo_run_e {p : Program} {l : Launch} {e : Env} {s : State} {m : MethodId} {args : Array Value} {below : List Frame} {meth : Method} {c : Code} {D : va_G} {ca : Nat → ClassId} {B : Nat} {r : Int32} {M9 : mo_M} (X : hq_X p s m args meth c b_Mo_run R_Mo 2 (some .int) D mo_cl (mo_ty ca) hq_tb) : ∀ (M : mo_M) (H : Heap) (locs : List Loc) (ls : Array Slot), lv_has ls 2 [(0, .ref (B + 0))] → hm_P D mo_cl ca 15 (mo_sh) B M.1 M.2 H → va_S (hm_A B 15) s.heap H locs → f_Mo_run M = some (r, M9) → W p l e ({ frames := 2, cells := 0, slots := 0, locals := 50 } : Room) s m args below meth c H locs 0 0 (MQ below (hq_QI D mo_cl ca 15 (mo_sh) B r M9.1 M9.2) args s 0 0 (hm_A B 15)) (F0 m 0 ls []) := by
  obtain ⟨hx, hb, hml, hown, hr, hlk, hKt⟩ := id X
  have hK := hKt.1
  have hts : ∀ w ∈ hq_tb, w.before args s = true := fun w h => hKt.2.2 w h args
  intro  M H locs ls hl hP hS hf
  unfold f_Mo_run at hf
  refine lv_aload_n hx hb d_Mo_run_0 rfl (lv_at hl 0 rfl) ?_
  refine hq_get hx hb hts i_Mo hown hK hP 0 (by decide) (mo_s_Mo (rfl)) rfl 13 (by decide) (hts _ mo_wd_1) (fun _ h => h) (v := .int (M.1 0 13)) rfl d_Mo_run_1 ?_
  refine lv_if_ne (tgt := 10) hx hb d_Mo_run_4 (by decide) (fun c1 => ?_) (fun c1 => ?_)
  · replace hf := (if_neg c1).symm.trans hf
    refine lv_iconst (v := 0) hx hb d_Mo_run_10 (by decide) ?_
    refine lv_istore_n (lv' := [(1, .int 0), (0, .ref (B + 0))]) hx hb d_Mo_run_11 rfl hl (by decide) rfl (fun ls hl => ?_)
    exact w_Mo_run_12 X _ _ _ _ _ _ (lv_sub hl [1, 0] rfl) hP hS hf
  · replace hf := (if_pos c1).symm.trans hf
    refine lv_bipush (v := (-3)) hx hb d_Mo_run_7 (by decide) ?_
    obtain ⟨h9, h8⟩ := Prod.mk.inj (Option.some.inj hf)
    subst h9
    subst h8
    exact W.iret hx hb hr (fun t ht _ => ⟨⟨_, (), rfl, rfl, by subst ht; exact hP⟩, hS.F ht⟩) hS.2.2 d_Mo_run_9 hlk
set_option maxHeartbeats 4000000 in
set_option maxRecDepth 100000 in
theorem c_Mo_run {l : Launch} {D : va_G} {ca : Nat → ClassId} {B : Nat} {r : Int32} {M M9 : mo_M} (hf : f_Mo_run M  = some (r, M9)) : Met l y_Mo_run [Cond.code y_Mo_run b_Mo_run 2 (some .int)] ({ frames := 2, cells := 0, slots := 0, locals := 50 } : Room) (hq_Pre D mo_cl ca 15 (mo_sh) B (mo_ty ca) hq_tb M.1 M.2 [.ref (B + 0)]) (hq_QI D mo_cl ca 15 (mo_sh) B r M9.1 M9.2) 0 0 (hm_A B 15) := by
  refine Met.ofW (cc := b_Mo_run) (maxL := 2) (ret := (some .int)) (by decide +kernel) rfl ?_
  intro p e s m args below meth c s₁ Bd hml hv
  obtain ⟨rfl, hP, hK⟩ := hv
  have hl := lv_entry ([.ref (B + 0)]) (n := 2) (Nat.le_of_ble_eq_true rfl)
  rw [lg_entry_eq]
  generalize (lg_sl ([.ref (B + 0)]) ++ List.replicate (2 - (lg_sl ([.ref (B + 0)])).length) Slot.unset).toArray = ls at hl ⊢
  have hl : lv_has ls 2 [(0, .ref (B + 0))] := hl
  exact w_Mo_run_e ⟨Bd.exec, Bd.bytes, hml, findClass_of_methodNamed Bd.named, Bd.returns, Bd.notSynchronized, hK⟩   _ _ _ _ hl hP va_S.rf hf
set_option maxHeartbeats 4000000 in
set_option maxRecDepth 100000 in
theorem w_Mo_cell_32 {p : Program} {l : Launch} {e : Env} {s : State} {m : MethodId} {args : Array Value} {below : List Frame} {meth : Method} {c : Code} {D : va_G} {ca : Nat → ClassId} {B : Nat} {r : Int64} {M9 : mo_M} (X : hq_X p s m args meth c b_Mo_cell R_Mo 2 (some .long) D mo_cl (mo_ty ca) hq_tb) : ∀ (y0 : Int64), ∀ (M : mo_M) (H : Heap) (locs : List Loc) (ls : Array Slot), lv_has ls 2 [] → hm_P D mo_cl ca 15 (mo_sh) B M.1 M.2 H → va_S (hm_A B 15) s.heap H locs → f_Mo_cell_32 y0 M = some (r, M9) → W p l e ({ frames := 0, cells := 0, slots := 0, locals := 0 } : Room) s m args below meth c H locs 0 0 (MQ below (hq_QL D mo_cl ca 15 (mo_sh) B r M9.1 M9.2) args s 0 0 (hm_A B 15)) (F0 m 32 ls [.long y0]) := by
  obtain ⟨hx, hb, hml, hown, hr, hlk, hKt⟩ := id X
  have hK := hKt.1
  have hts : ∀ w ∈ hq_tb, w.before args s = true := fun w h => hKt.2.2 w h args
  intro y0 M H locs ls hl hP hS hf
  unfold f_Mo_cell_32 at hf
  obtain ⟨h9, h8⟩ := Prod.mk.inj (Option.some.inj hf)
  subst h9
  subst h8
  exact W.lret hx hb hr (fun t ht _ => ⟨⟨_, (), rfl, rfl, by subst ht; exact hP⟩, hS.F ht⟩) hS.2.2 d_Mo_cell_32 hlk
set_option maxHeartbeats 4000000 in
set_option maxRecDepth 100000 in
theorem w_Mo_cell_19 {p : Program} {l : Launch} {e : Env} {s : State} {m : MethodId} {args : Array Value} {below : List Frame} {meth : Method} {c : Code} {D : va_G} {ca : Nat → ClassId} {B : Nat} {r : Int64} {M9 : mo_M} (X : hq_X p s m args meth c b_Mo_cell R_Mo 2 (some .long) D mo_cl (mo_ty ca) hq_tb) : ∀ (M : mo_M) (H : Heap) (locs : List Loc) (ls : Array Slot), lv_has ls 2 [] → hm_P D mo_cl ca 15 (mo_sh) B M.1 M.2 H → va_S (hm_A B 15) s.heap H locs → f_Mo_cell_19 M = some (r, M9) → W p l e ({ frames := 0, cells := 0, slots := 0, locals := 0 } : Room) s m args below meth c H locs 0 0 (MQ below (hq_QL D mo_cl ca 15 (mo_sh) B r M9.1 M9.2) args s 0 0 (hm_A B 15)) (F0 m 19 ls []) := by
  obtain ⟨hx, hb, hml, hown, hr, hlk, hKt⟩ := id X
  have hK := hKt.1
  have hts : ∀ w ∈ hq_tb, w.before args s = true := fun w h => hKt.2.2 w h args
  intro  M H locs ls hl hP hS hf
  unfold f_Mo_cell_19 at hf
  refine lv_ldc2 (v := (-1000000000000)) hx hb hown (hts _ mo_wd_33) d_Mo_cell_19 ?_
  refine lv_goto (tgt := 32) hx hb d_Mo_cell_22 (by decide) ?_
  exact w_Mo_cell_32 X _ _ _ _ _ (lv_sub hl [] rfl) hP hS hf
set_option maxHeartbeats 4000000 in
set_option maxRecDepth 100000 in
theorem w_Mo_cell_e {p : Program} {l : Launch} {e : Env} {s : State} {m : MethodId} {args : Array Value} {below : List Frame} {meth : Method} {c : Code} {D : va_G} {ca : Nat → ClassId} {B : Nat} {r : Int64} {M9 : mo_M} (X : hq_X p s m args meth c b_Mo_cell R_Mo 2 (some .long) D mo_cl (mo_ty ca) hq_tb) : ∀ (x1 : Int32), ∀ (M : mo_M) (H : Heap) (locs : List Loc) (ls : Array Slot), lv_has ls 2 [(0, .ref (B + 0)), (1, .int x1)] → hm_P D mo_cl ca 15 (mo_sh) B M.1 M.2 H → va_S (hm_A B 15) s.heap H locs → f_Mo_cell M x1 = some (r, M9) → W p l e ({ frames := 0, cells := 0, slots := 0, locals := 0 } : Room) s m args below meth c H locs 0 0 (MQ below (hq_QL D mo_cl ca 15 (mo_sh) B r M9.1 M9.2) args s 0 0 (hm_A B 15)) (F0 m 0 ls []) := by
  obtain ⟨hx, hb, hml, hown, hr, hlk, hKt⟩ := id X
  have hK := hKt.1
  have hts : ∀ w ∈ hq_tb, w.before args s = true := fun w h => hKt.2.2 w h args
  intro x1 M H locs ls hl hP hS hf
  unfold f_Mo_cell at hf
  refine lv_aload_n hx hb d_Mo_cell_0 rfl (lv_at hl 0 rfl) ?_
  refine hq_get hx hb hts i_Mo hown hK hP 0 (by decide) (mo_s_Mo (rfl)) rfl 14 (by decide) (hts _ mo_wd_2) (fun _ h => h) (v := .int (M.1 0 14)) rfl d_Mo_cell_1 ?_
  refine lv_if_eq (tgt := 19) hx hb d_Mo_cell_4 (by decide) (fun c1 => ?_) (fun c1 => ?_)
  · replace hf := (if_pos c1).symm.trans hf
    exact w_Mo_cell_19 X _ _ _ _ (lv_sub hl [] rfl) hP hS hf
  · replace hf := (if_neg c1).symm.trans hf
    refine lv_iload_n hx hb d_Mo_cell_7 rfl (lv_at hl 1 rfl) ?_
    refine lv_if_lt (tgt := 19) hx hb d_Mo_cell_8 (by decide) (fun c2 => ?_) (fun c2 => ?_)
    · replace hf := (if_pos c2).symm.trans hf
      exact w_Mo_cell_19 X _ _ _ _ (lv_sub hl [] rfl) hP hS hf
    · replace hf := (if_neg c2).symm.trans hf
      refine lv_iload_n hx hb d_Mo_cell_11 rfl (lv_at hl 1 rfl) ?_
      refine lv_aload_n hx hb d_Mo_cell_12 rfl (lv_at hl 0 rfl) ?_
      refine hq_get hx hb hts i_Mo hown hK hP 0 (by decide) (mo_s_Mo (rfl)) rfl 12 (by decide) (hts _ mo_wd_23) (fun _ h => h) (v := .int (M.1 0 12)) rfl d_Mo_cell_13 ?_
      refine lv_icmp_lt (tgt := 25) hx hb d_Mo_cell_16 (by decide) (fun c3 => ?_) (fun c3 => ?_)
      · replace hf := (if_pos c3).symm.trans hf
        refine lv_aload_n hx hb d_Mo_cell_25 rfl (lv_at hl 0 rfl) ?_
        refine hq_get hx hb hts i_Mo hown hK hP 0 (by decide) (mo_s_Mo (rfl)) rfl 15 (by decide) (hts _ mo_wd_72) (fun _ h => h) (v := .ref (B + 9)) rfl d_Mo_cell_26 ?_
        refine lv_iload_n hx hb d_Mo_cell_29 rfl (lv_at hl 1 rfl) ?_
        obtain ⟨g4, hf⟩ := hm_gd_some hf
        refine hq_iald hx hb hK hP 9 (by decide) (mo_s_ia32 (rfl)) 0 rfl g4 d_Mo_cell_30 ?_
        refine lv_i2l (v := (M.1 9 x1.toNatClampNeg).toInt64) hx hb d_Mo_cell_31 rfl ?_
        exact w_Mo_cell_32 X _ _ _ _ _ (lv_sub hl [] rfl) hP hS hf
      · replace hf := (if_neg c3).symm.trans hf
        exact w_Mo_cell_19 X _ _ _ _ (lv_sub hl [] rfl) hP hS hf
set_option maxHeartbeats 4000000 in
set_option maxRecDepth 100000 in
theorem c_Mo_cell {l : Launch} {D : va_G} {ca : Nat → ClassId} {B : Nat} {r : Int64} {x1 : Int32} {M M9 : mo_M} (hf : f_Mo_cell M x1 = some (r, M9)) : Met l y_Mo_cell [Cond.code y_Mo_cell b_Mo_cell 2 (some .long)] ({ frames := 0, cells := 0, slots := 0, locals := 0 } : Room) (hq_Pre D mo_cl ca 15 (mo_sh) B (mo_ty ca) hq_tb M.1 M.2 [.ref (B + 0), .int x1]) (hq_QL D mo_cl ca 15 (mo_sh) B r M9.1 M9.2) 0 0 (hm_A B 15) := by
  refine Met.ofW (cc := b_Mo_cell) (maxL := 2) (ret := (some .long)) (by decide +kernel) rfl ?_
  intro p e s m args below meth c s₁ Bd hml hv
  obtain ⟨rfl, hP, hK⟩ := hv
  have hl := lv_entry ([.ref (B + 0), .int x1]) (n := 2) (Nat.le_of_ble_eq_true rfl)
  rw [lg_entry_eq]
  generalize (lg_sl ([.ref (B + 0), .int x1]) ++ List.replicate (2 - (lg_sl ([.ref (B + 0), .int x1])).length) Slot.unset).toArray = ls at hl ⊢
  have hl : lv_has ls 2 [(0, .ref (B + 0)), (1, .int x1)] := hl
  exact w_Mo_cell_e ⟨Bd.exec, Bd.bytes, hml, findClass_of_methodNamed Bd.named, Bd.returns, Bd.notSynchronized, hK⟩  _ _ _ _ _ hl hP va_S.rf hf
set_option maxHeartbeats 4000000 in
set_option maxRecDepth 100000 in
theorem w_Mo_region_66 {p : Program} {l : Launch} {e : Env} {s : State} {m : MethodId} {args : Array Value} {below : List Frame} {meth : Method} {c : Code} {D : va_G} {ca : Nat → ClassId} {B : Nat} {r : Int32} {M9 : mo_M} (X : hq_X p s m args meth c b_Mo_region R_Mo 3 (some .int) D mo_cl (mo_ty ca) hq_tb) : ∀ (y0 : Int32), ∀ (M : mo_M) (H : Heap) (locs : List Loc) (ls : Array Slot), lv_has ls 3 [] → hm_P D mo_cl ca 15 (mo_sh) B M.1 M.2 H → va_S (hm_A B 15) s.heap H locs → f_Mo_region_66 y0 M = some (r, M9) → W p l e ({ frames := 2, cells := 0, slots := 0, locals := 49 } : Room) s m args below meth c H locs 0 0 (MQ below (hq_QI D mo_cl ca 15 (mo_sh) B r M9.1 M9.2) args s 0 0 (hm_A B 15)) (F0 m 66 ls [.int y0]) := by
  obtain ⟨hx, hb, hml, hown, hr, hlk, hKt⟩ := id X
  have hK := hKt.1
  have hts : ∀ w ∈ hq_tb, w.before args s = true := fun w h => hKt.2.2 w h args
  intro y0 M H locs ls hl hP hS hf
  unfold f_Mo_region_66 at hf
  obtain ⟨h9, h8⟩ := Prod.mk.inj (Option.some.inj hf)
  subst h9
  subst h8
  exact W.iret hx hb hr (fun t ht _ => ⟨⟨_, (), rfl, rfl, by subst ht; exact hP⟩, hS.F ht⟩) hS.2.2 d_Mo_region_66 hlk
set_option maxHeartbeats 4000000 in
set_option maxRecDepth 100000 in
theorem w_Mo_region_e {p : Program} {l : Launch} {e : Env} {s : State} {m : MethodId} {args : Array Value} {below : List Frame} {meth : Method} {c : Code} {D : va_G} {ca : Nat → ClassId} {B : Nat} {r : Int32} {M9 : mo_M} (X : hq_X p s m args meth c b_Mo_region R_Mo 3 (some .int) D mo_cl (mo_ty ca) hq_tb) : ∀ (x1 : Int32), ∀ (x2 : Int32), ∀ (M : mo_M) (H : Heap) (locs : List Loc) (ls : Array Slot), lv_has ls 3 [(0, .ref (B + 0)), (1, .int x1), (2, .int x2)] → hm_P D mo_cl ca 15 (mo_sh) B M.1 M.2 H → va_S (hm_A B 15) s.heap H locs → f_Mo_region M x1 x2 = some (r, M9) → W p l e ({ frames := 2, cells := 0, slots := 0, locals := 49 } : Room) s m args below meth c H locs 0 0 (MQ below (hq_QI D mo_cl ca 15 (mo_sh) B r M9.1 M9.2) args s 0 0 (hm_A B 15)) (F0 m 0 ls []) := by
  obtain ⟨hx, hb, hml, hown, hr, hlk, hKt⟩ := id X
  have hK := hKt.1
  have hts : ∀ w ∈ hq_tb, w.before args s = true := fun w h => hKt.2.2 w h args
  intro x1 x2 M H locs ls hl hP hS hf
  unfold f_Mo_region at hf
  refine lv_aload_n hx hb d_Mo_region_0 rfl (lv_at hl 0 rfl) ?_
  refine hq_get hx hb hts i_Mo hown hK hP 0 (by decide) (mo_s_Mo (rfl)) rfl 13 (by decide) (hts _ mo_wd_1) (fun _ h => h) (v := .int (M.1 0 13)) rfl d_Mo_region_1 ?_
  refine lv_if_ne (tgt := 11) hx hb d_Mo_region_4 (by decide) (fun c1 => ?_) (fun c1 => ?_)
  · replace hf := (if_neg c1).symm.trans hf
    refine lv_aload_n hx hb d_Mo_region_11 rfl (lv_at hl 0 rfl) ?_
    refine lv_iload_n hx hb d_Mo_region_12 rfl (lv_at hl 1 rfl) ?_
    obtain ⟨r2, M_3, hc4, hf⟩ := hm_bI_some hf
    refine hq_callI (va_runV (As := [.int x1]) (rest := []) ⟨hx, hb, hml, hown, hts⟩ (c_Mo_no (l := l) (D := D) (ca := ca) (B := B)  hc4) (hq_cwV (nn := 1) hts mo_wd_12 mo_wd_6 mo_wd_13 mo_wd_14 mo_wd_15 (by decide +kernel) rfl rfl ⟨(Nat.le_of_ble_eq_true rfl), (Nat.le_of_ble_eq_true rfl)⟩) (hq_preV hKt hP (by decide) (mo_s_Mo (rfl)) rfl) rfl rfl hl.1 rfl (lv_room (Nat.le_of_ble_eq_true rfl)) d_Mo_region_13 ⟨(Nat.le_of_ble_eq_true rfl), (Nat.le_of_ble_eq_true rfl)⟩) hS (fun H locs hP hS => ?_)
    refine lv_if_eq (tgt := 23) hx hb d_Mo_region_16 (by decide) (fun c5 => ?_) (fun c5 => ?_)
    · replace hf := (if_pos c5).symm.trans hf
      refine lv_aload_n hx hb d_Mo_region_23 rfl (lv_at hl 0 rfl) ?_
      refine lv_iconst (v := 0) hx hb d_Mo_region_24 (by decide) ?_
      refine lv_aload_n hx hb d_Mo_region_25 rfl (lv_at hl 0 rfl) ?_
      refine hq_get hx hb hts i_Mo hown hK hP 0 (by decide) (mo_s_Mo (rfl)) rfl 12 (by decide) (hts _ mo_wd_23) (fun _ h => h) (v := .int (M_3.1 0 12)) rfl d_Mo_region_26 ?_
      refine lv_iconst (v := 1) hx hb d_Mo_region_29 (by decide) ?_
      refine lv_isub hx hb d_Mo_region_30 ?_
      obtain ⟨M_7, hc8, hf⟩ := hm_bV_some hf
      refine hq_callV (va_runV (As := [.int 0, .int ((M_3.1 0 12) - 1)]) (rest := []) ⟨hx, hb, hml, hown, hts⟩ (c_Mo_need (l := l) (D := D) (ca := ca) (B := B)  hc8) (hq_cwV (nn := 2) hts mo_wd_47 mo_wd_6 mo_wd_48 mo_wd_49 mo_wd_50 (by decide +kernel) rfl rfl ⟨(Nat.le_of_ble_eq_true rfl), (Nat.le_of_ble_eq_true rfl)⟩) (hq_preV hKt hP (by decide) (mo_s_Mo (rfl)) rfl) rfl rfl hl.1 rfl (lv_room (Nat.le_of_ble_eq_true rfl)) d_Mo_region_31 ⟨(Nat.le_of_ble_eq_true rfl), (Nat.le_of_ble_eq_true rfl)⟩) hS (fun H locs hP hS => ?_)
      refine lv_aload_n hx hb d_Mo_region_34 rfl (lv_at hl 0 rfl) ?_
      refine hq_get hx hb hts i_Mo hown hK hP 0 (by decide) (mo_s_Mo (rfl)) rfl 17 (by decide) (hts _ mo_wd_42) (fun _ h => h) (v := .ref (B + 11)) rfl d_Mo_region_35 ?_
      refine lv_iload_n hx hb d_Mo_region_38 rfl (lv_at hl 1 rfl) ?_
      obtain ⟨g9, hf⟩ := hm_gd_some hf
      refine hq_zald hx hb hK hP 11 (by decide) (mo_s_za8 (rfl)) 1 rfl g9 d_Mo_region_39 ?_
      refine lv_if_ne (tgt := 47) hx hb d_Mo_region_40 (by decide) (fun c10 => ?_) (fun c10 => ?_)
      · replace hf := (if_neg c10).symm.trans hf
        refine lv_iload_n hx hb d_Mo_region_47 rfl (lv_at hl 2 rfl) ?_
        refine lv_if_eq (tgt := 60) hx hb d_Mo_region_48 (by decide) (fun c11 => ?_) (fun c11 => ?_)
        · replace hf := (if_pos c11).symm.trans hf
          refine lv_aload_n hx hb d_Mo_region_60 rfl (lv_at hl 0 rfl) ?_
          refine hq_get hx hb hts i_Mo hown hK hP 0 (by decide) (mo_s_Mo (rfl)) rfl 18 (by decide) (hts _ mo_wd_40) (fun _ h => h) (v := .ref (B + 12)) rfl d_Mo_region_61 ?_
          refine lv_iload_n hx hb d_Mo_region_64 rfl (lv_at hl 1 rfl) ?_
          obtain ⟨g12, hf⟩ := hm_gd_some hf
          refine hq_iald hx hb hK hP 12 (by decide) (mo_s_ia8 (rfl)) 0 rfl g12 d_Mo_region_65 ?_
          exact w_Mo_region_66 X _ _ _ _ _ (lv_sub hl [] rfl) hP hS hf
        · replace hf := (if_neg c11).symm.trans hf
          refine lv_aload_n hx hb d_Mo_region_51 rfl (lv_at hl 0 rfl) ?_
          refine hq_get hx hb hts i_Mo hown hK hP 0 (by decide) (mo_s_Mo (rfl)) rfl 19 (by decide) (hts _ mo_wd_41) (fun _ h => h) (v := .ref (B + 13)) rfl d_Mo_region_52 ?_
          refine lv_iload_n hx hb d_Mo_region_55 rfl (lv_at hl 1 rfl) ?_
          obtain ⟨g13, hf⟩ := hm_gd_some hf
          refine hq_iald hx hb hK hP 13 (by decide) (mo_s_ia8 (rfl)) 0 rfl g13 d_Mo_region_56 ?_
          refine lv_goto (tgt := 66) hx hb d_Mo_region_57 (by decide) ?_
          exact w_Mo_region_66 X _ _ _ _ _ (lv_sub hl [] rfl) hP hS hf
      · replace hf := (if_pos c10).symm.trans hf
        refine lv_sipush (v := (-2000)) hx hb d_Mo_region_43 (by decide) ?_
        obtain ⟨h9, h8⟩ := Prod.mk.inj (Option.some.inj hf)
        subst h9
        subst h8
        exact W.iret hx hb hr (fun t ht _ => ⟨⟨_, (), rfl, rfl, by subst ht; exact hP⟩, hS.F ht⟩) hS.2.2 d_Mo_region_46 hlk
    · replace hf := (if_neg c5).symm.trans hf
      refine lv_sipush (v := (-2000)) hx hb d_Mo_region_19 (by decide) ?_
      obtain ⟨h9, h8⟩ := Prod.mk.inj (Option.some.inj hf)
      subst h9
      subst h8
      exact W.iret hx hb hr (fun t ht _ => ⟨⟨_, (), rfl, rfl, by subst ht; exact hP⟩, hS.F ht⟩) hS.2.2 d_Mo_region_22 hlk
  · replace hf := (if_pos c1).symm.trans hf
    refine lv_sipush (v := (-1000)) hx hb d_Mo_region_7 (by decide) ?_
    obtain ⟨h9, h8⟩ := Prod.mk.inj (Option.some.inj hf)
    subst h9
    subst h8
    exact W.iret hx hb hr (fun t ht _ => ⟨⟨_, (), rfl, rfl, by subst ht; exact hP⟩, hS.F ht⟩) hS.2.2 d_Mo_region_10 hlk
set_option maxHeartbeats 4000000 in
set_option maxRecDepth 100000 in
theorem c_Mo_region {l : Launch} {D : va_G} {ca : Nat → ClassId} {B : Nat} {r : Int32} {x1 : Int32} {x2 : Int32} {M M9 : mo_M} (hf : f_Mo_region M x1 x2 = some (r, M9)) : Met l y_Mo_region [Cond.code y_Mo_region b_Mo_region 3 (some .int)] ({ frames := 2, cells := 0, slots := 0, locals := 49 } : Room) (hq_Pre D mo_cl ca 15 (mo_sh) B (mo_ty ca) hq_tb M.1 M.2 [.ref (B + 0), .int x1, .int x2]) (hq_QI D mo_cl ca 15 (mo_sh) B r M9.1 M9.2) 0 0 (hm_A B 15) := by
  refine Met.ofW (cc := b_Mo_region) (maxL := 3) (ret := (some .int)) (by decide +kernel) rfl ?_
  intro p e s m args below meth c s₁ Bd hml hv
  obtain ⟨rfl, hP, hK⟩ := hv
  have hl := lv_entry ([.ref (B + 0), .int x1, .int x2]) (n := 3) (Nat.le_of_ble_eq_true rfl)
  rw [lg_entry_eq]
  generalize (lg_sl ([.ref (B + 0), .int x1, .int x2]) ++ List.replicate (3 - (lg_sl ([.ref (B + 0), .int x1, .int x2])).length) Slot.unset).toArray = ls at hl ⊢
  have hl : lv_has ls 3 [(0, .ref (B + 0)), (1, .int x1), (2, .int x2)] := hl
  exact w_Mo_region_e ⟨Bd.exec, Bd.bytes, hml, findClass_of_methodNamed Bd.named, Bd.returns, Bd.notSynchronized, hK⟩  _ _ _ _ _ _ hl hP va_S.rf hf
set_option maxHeartbeats 4000000 in
set_option maxRecDepth 100000 in
theorem w_Mo_work_e {p : Program} {l : Launch} {e : Env} {s : State} {m : MethodId} {args : Array Value} {below : List Frame} {meth : Method} {c : Code} {D : va_G} {ca : Nat → ClassId} {B : Nat} {r : Int32} {M9 : mo_M} (X : hq_X p s m args meth c b_Mo_work R_Mo 4 (some .int) D mo_cl (mo_ty ca) hq_tb) : ∀ (x1 : Int32), ∀ (M : mo_M) (H : Heap) (locs : List Loc) (ls : Array Slot), lv_has ls 4 [(0, .ref (B + 0)), (1, .int x1)] → hm_P D mo_cl ca 15 (mo_sh) B M.1 M.2 H → va_S (hm_A B 15) s.heap H locs → f_Mo_work M x1 = some (r, M9) → W p l e ({ frames := 4, cells := 0, slots := 0, locals := 94 } : Room) s m args below meth c H locs 0 0 (MQ below (hq_QI D mo_cl ca 15 (mo_sh) B r M9.1 M9.2) args s 0 0 (hm_A B 15)) (F0 m 0 ls []) := by
  obtain ⟨hx, hb, hml, hown, hr, hlk, hKt⟩ := id X
  have hK := hKt.1
  have hts : ∀ w ∈ hq_tb, w.before args s = true := fun w h => hKt.2.2 w h args
  intro x1 M H locs ls hl hP hS hf
  unfold f_Mo_work at hf
  refine lv_aload_n hx hb d_Mo_work_0 rfl (lv_at hl 0 rfl) ?_
  refine lv_iload_n hx hb d_Mo_work_1 rfl (lv_at hl 1 rfl) ?_
  obtain ⟨r1, M_2, hc3, hf⟩ := hm_bI_some hf
  refine hq_callI (va_runV (As := [.int x1]) (rest := []) ⟨hx, hb, hml, hown, hts⟩ (c_Mo_no (l := l) (D := D) (ca := ca) (B := B)  hc3) (hq_cwV (nn := 1) hts mo_wd_12 mo_wd_6 mo_wd_13 mo_wd_14 mo_wd_15 (by decide +kernel) rfl rfl ⟨(Nat.le_of_ble_eq_true rfl), (Nat.le_of_ble_eq_true rfl)⟩) (hq_preV hKt hP (by decide) (mo_s_Mo (rfl)) rfl) rfl rfl hl.1 rfl (lv_room (Nat.le_of_ble_eq_true rfl)) d_Mo_work_2 ⟨(Nat.le_of_ble_eq_true rfl), (Nat.le_of_ble_eq_true rfl)⟩) hS (fun H locs hP hS => ?_)
  refine lv_if_eq (tgt := 10) hx hb d_Mo_work_5 (by decide) (fun c4 => ?_) (fun c4 => ?_)
  · replace hf := (if_pos c4).symm.trans hf
    refine lv_aload_n hx hb d_Mo_work_10 rfl (lv_at hl 0 rfl) ?_
    refine hq_get hx hb hts i_Mo hown hK hP 0 (by decide) (mo_s_Mo (rfl)) rfl 13 (by decide) (hts _ mo_wd_1) (fun _ h => h) (v := .int (M_2.1 0 13)) rfl d_Mo_work_11 ?_
    refine lv_if_ne (tgt := 20) hx hb d_Mo_work_14 (by decide) (fun c5 => ?_) (fun c5 => ?_)
    · replace hf := (if_neg c5).symm.trans hf
      refine lv_aload_n hx hb d_Mo_work_20 rfl (lv_at hl 0 rfl) ?_
      obtain ⟨r6, M_7, hc8, hf⟩ := hm_bI_some hf
      refine hq_callL (va_runV (As := []) (rest := []) ⟨hx, hb, hml, hown, hts⟩ (c_Mo_total (l := l) (D := D) (ca := ca) (B := B)  hc8) (hq_cwV (nn := 0) hts mo_wd_63 mo_wd_6 mo_wd_64 mo_wd_65 mo_wd_66 (by decide +kernel) rfl rfl ⟨(Nat.le_of_ble_eq_true rfl), (Nat.le_of_ble_eq_true rfl)⟩) (hq_preV hKt hP (by decide) (mo_s_Mo (rfl)) rfl) rfl rfl hl.1 rfl (lv_room (Nat.le_of_ble_eq_true rfl)) d_Mo_work_21 ⟨(Nat.le_of_ble_eq_true rfl), (Nat.le_of_ble_eq_true rfl)⟩) hS (fun H locs hP hS => ?_)
      refine lv_lstore_n (lv' := [(2, .long r6), (0, .ref (B + 0)), (1, .int x1)]) hx hb d_Mo_work_24 rfl hl (by decide) rfl (fun ls hl => ?_)
      refine lv_aload_n hx hb d_Mo_work_25 rfl (lv_at hl 1 rfl) ?_
      refine hq_get hx hb hts i_Mo hown hK hP 0 (by decide) (mo_s_Mo (rfl)) rfl 20 (by decide) (hts _ mo_wd_34) (fun _ h => h) (v := .ref (B + 14)) rfl d_Mo_work_26 ?_
      refine lv_iload_n hx hb d_Mo_work_29 rfl (lv_at hl 2 rfl) ?_
      obtain ⟨g9, hf⟩ := hm_gd_some hf
      refine hq_lald hx hb hK hP 14 (by decide) (mo_s_la8 (rfl)) 2 rfl g9 d_Mo_work_30 ?_
      refine lv_l2i (v := (M_7.2 14 x1.toNatClampNeg).toInt32) hx hb d_Mo_work_31 rfl ?_
      obtain ⟨h9, h8⟩ := Prod.mk.inj (Option.some.inj hf)
      subst h9
      subst h8
      exact W.iret hx hb hr (fun t ht _ => ⟨⟨_, (), rfl, rfl, by subst ht; exact hP⟩, hS.F ht⟩) hS.2.2 d_Mo_work_32 hlk
    · replace hf := (if_pos c5).symm.trans hf
      refine lv_bipush (v := (-3)) hx hb d_Mo_work_17 (by decide) ?_
      obtain ⟨h9, h8⟩ := Prod.mk.inj (Option.some.inj hf)
      subst h9
      subst h8
      exact W.iret hx hb hr (fun t ht _ => ⟨⟨_, (), rfl, rfl, by subst ht; exact hP⟩, hS.F ht⟩) hS.2.2 d_Mo_work_19 hlk
  · replace hf := (if_neg c4).symm.trans hf
    refine lv_iconst (v := (-1)) hx hb d_Mo_work_8 (by decide) ?_
    obtain ⟨h9, h8⟩ := Prod.mk.inj (Option.some.inj hf)
    subst h9
    subst h8
    exact W.iret hx hb hr (fun t ht _ => ⟨⟨_, (), rfl, rfl, by subst ht; exact hP⟩, hS.F ht⟩) hS.2.2 d_Mo_work_9 hlk
set_option maxHeartbeats 4000000 in
set_option maxRecDepth 100000 in
theorem c_Mo_work {l : Launch} {D : va_G} {ca : Nat → ClassId} {B : Nat} {r : Int32} {x1 : Int32} {M M9 : mo_M} (hf : f_Mo_work M x1 = some (r, M9)) : Met l y_Mo_work [Cond.code y_Mo_work b_Mo_work 4 (some .int)] ({ frames := 4, cells := 0, slots := 0, locals := 94 } : Room) (hq_Pre D mo_cl ca 15 (mo_sh) B (mo_ty ca) hq_tb M.1 M.2 [.ref (B + 0), .int x1]) (hq_QI D mo_cl ca 15 (mo_sh) B r M9.1 M9.2) 0 0 (hm_A B 15) := by
  refine Met.ofW (cc := b_Mo_work) (maxL := 4) (ret := (some .int)) (by decide +kernel) rfl ?_
  intro p e s m args below meth c s₁ Bd hml hv
  obtain ⟨rfl, hP, hK⟩ := hv
  have hl := lv_entry ([.ref (B + 0), .int x1]) (n := 4) (Nat.le_of_ble_eq_true rfl)
  rw [lg_entry_eq]
  generalize (lg_sl ([.ref (B + 0), .int x1]) ++ List.replicate (4 - (lg_sl ([.ref (B + 0), .int x1])).length) Slot.unset).toArray = ls at hl ⊢
  have hl : lv_has ls 4 [(0, .ref (B + 0)), (1, .int x1)] := hl
  exact w_Mo_work_e ⟨Bd.exec, Bd.bytes, hml, findClass_of_methodNamed Bd.named, Bd.returns, Bd.notSynchronized, hK⟩  _ _ _ _ _ hl hP va_S.rf hf
set_option maxHeartbeats 4000000 in
set_option maxRecDepth 100000 in
theorem w_Mo_greatest_91 {p : Program} {l : Launch} {e : Env} {s : State} {m : MethodId} {args : Array Value} {below : List Frame} {meth : Method} {c : Code} {D : va_G} {ca : Nat → ClassId} {B : Nat} {r : Int32} {M9 : mo_M} (X : hq_X p s m args meth c b_Mo_greatest R_Mo 7 (some .int) D mo_cl (mo_ty ca) hq_tb) {k4 : Int32 → Int32 → Int32 → mo_M → Option (Int32 × mo_M)} (hk4 : ∀ (x1 : Int32), ∀ (x2 : Int32), ∀ (x3 : Int32), ∀ (M : mo_M) (H : Heap) (locs : List Loc) (ls : Array Slot), lv_has ls 7 [(0, .ref (B + 0)), (1, .int x1), (2, .int x2), (3, .int x3)] → hm_P D mo_cl ca 15 (mo_sh) B M.1 M.2 H → va_S (hm_A B 15) s.heap H locs → k4 x1 x2 x3 M = some (r, M9) → W p l e ({ frames := 3, cells := 0, slots := 0, locals := 70 } : Room) s m args below meth c H locs 0 0 (MQ below (hq_QI D mo_cl ca 15 (mo_sh) B r M9.1 M9.2) args s 0 0 (hm_A B 15)) (F0 m 4 ls [])) {k23 : Int32 → Int32 → Int32 → Int32 → Int32 → mo_M → Option (Int32 × mo_M)} (hk23 : ∀ (x1 : Int32), ∀ (x2 : Int32), ∀ (x3 : Int32), ∀ (x4 : Int32), ∀ (x5 : Int32), ∀ (M : mo_M) (H : Heap) (locs : List Loc) (ls : Array Slot), lv_has ls 7 [(0, .ref (B + 0)), (1, .int x1), (2, .int x2), (3, .int x3), (4, .int x4), (5, .int x5)] → hm_P D mo_cl ca 15 (mo_sh) B M.1 M.2 H → va_S (hm_A B 15) s.heap H locs → k23 x1 x2 x3 x4 x5 M = some (r, M9) → W p l e ({ frames := 3, cells := 0, slots := 0, locals := 70 } : Room) s m args below meth c H locs 0 0 (MQ below (hq_QI D mo_cl ca 15 (mo_sh) B r M9.1 M9.2) args s 0 0 (hm_A B 15)) (F0 m 23 ls [])) : ∀ (x1 : Int32), ∀ (x2 : Int32), ∀ (x3 : Int32), ∀ (x5 : Int32), ∀ (y0 : Int32), ∀ (M : mo_M) (H : Heap) (locs : List Loc) (ls : Array Slot), lv_has ls 7 [(0, .ref (B + 0)), (1, .int x1), (2, .int x2), (3, .int x3), (5, .int x5)] → hm_P D mo_cl ca 15 (mo_sh) B M.1 M.2 H → va_S (hm_A B 15) s.heap H locs → f_Mo_greatest_91 k4 k23 x1 x2 x3 x5 y0 M = some (r, M9) → W p l e ({ frames := 3, cells := 0, slots := 0, locals := 70 } : Room) s m args below meth c H locs 0 0 (MQ below (hq_QI D mo_cl ca 15 (mo_sh) B r M9.1 M9.2) args s 0 0 (hm_A B 15)) (F0 m 91 ls [.int y0]) := by
  obtain ⟨hx, hb, hml, hown, hr, hlk, hKt⟩ := id X
  have hK := hKt.1
  have hts : ∀ w ∈ hq_tb, w.before args s = true := fun w h => hKt.2.2 w h args
  intro x1 x2 x3 x5 y0 M H locs ls hl hP hS hf
  unfold f_Mo_greatest_91 at hf
  refine lv_istore (lv' := [(4, .int y0), (0, .ref (B + 0)), (1, .int x1), (2, .int x2), (3, .int x3), (5, .int x5)]) hx hb d_Mo_greatest_91 hl (by decide) rfl (fun ls hl => ?_)
  refine lv_iinc (v := (x5 + 1)) (lv' := [(5, .int (x5 + 1)), (4, .int y0), (0, .ref (B + 0)), (1, .int x1), (2, .int x2), (3, .int x3)]) hx hb d_Mo_greatest_93 hl (k := 5) rfl rfl (by decide) rfl (fun ls hl => ?_)
  refine lv_goto (tgt := 23) hx hb d_Mo_greatest_96 (by decide) ?_
  exact hk23 _ _ _ _ _ _ _ _ _ (lv_sub hl [2, 3, 4, 5, 1, 0] rfl) hP hS hf
set_option maxHeartbeats 4000000 in
set_option maxRecDepth 100000 in
theorem w_Mo_greatest_63 {p : Program} {l : Launch} {e : Env} {s : State} {m : MethodId} {args : Array Value} {below : List Frame} {meth : Method} {c : Code} {D : va_G} {ca : Nat → ClassId} {B : Nat} {r : Int32} {M9 : mo_M} (X : hq_X p s m args meth c b_Mo_greatest R_Mo 7 (some .int) D mo_cl (mo_ty ca) hq_tb) {k4 : Int32 → Int32 → Int32 → mo_M → Option (Int32 × mo_M)} (hk4 : ∀ (x1 : Int32), ∀ (x2 : Int32), ∀ (x3 : Int32), ∀ (M : mo_M) (H : Heap) (locs : List Loc) (ls : Array Slot), lv_has ls 7 [(0, .ref (B + 0)), (1, .int x1), (2, .int x2), (3, .int x3)] → hm_P D mo_cl ca 15 (mo_sh) B M.1 M.2 H → va_S (hm_A B 15) s.heap H locs → k4 x1 x2 x3 M = some (r, M9) → W p l e ({ frames := 3, cells := 0, slots := 0, locals := 70 } : Room) s m args below meth c H locs 0 0 (MQ below (hq_QI D mo_cl ca 15 (mo_sh) B r M9.1 M9.2) args s 0 0 (hm_A B 15)) (F0 m 4 ls [])) {k23 : Int32 → Int32 → Int32 → Int32 → Int32 → mo_M → Option (Int32 × mo_M)} (hk23 : ∀ (x1 : Int32), ∀ (x2 : Int32), ∀ (x3 : Int32), ∀ (x4 : Int32), ∀ (x5 : Int32), ∀ (M : mo_M) (H : Heap) (locs : List Loc) (ls : Array Slot), lv_has ls 7 [(0, .ref (B + 0)), (1, .int x1), (2, .int x2), (3, .int x3), (4, .int x4), (5, .int x5)] → hm_P D mo_cl ca 15 (mo_sh) B M.1 M.2 H → va_S (hm_A B 15) s.heap H locs → k23 x1 x2 x3 x4 x5 M = some (r, M9) → W p l e ({ frames := 3, cells := 0, slots := 0, locals := 70 } : Room) s m args below meth c H locs 0 0 (MQ below (hq_QI D mo_cl ca 15 (mo_sh) B r M9.1 M9.2) args s 0 0 (hm_A B 15)) (F0 m 23 ls [])) : ∀ (x1 : Int32), ∀ (x2 : Int32), ∀ (x3 : Int32), ∀ (x4 : Int32), ∀ (x5 : Int32), ∀ (y0 : Int32), ∀ (M : mo_M) (H : Heap) (locs : List Loc) (ls : Array Slot), lv_has ls 7 [(0, .ref (B + 0)), (1, .int x1), (2, .int x2), (3, .int x3), (4, .int x4), (5, .int x5)] → hm_P D mo_cl ca 15 (mo_sh) B M.1 M.2 H → va_S (hm_A B 15) s.heap H locs → f_Mo_greatest_63 k4 k23 x1 x2 x3 x4 x5 y0 M = some (r, M9) → W p l e ({ frames := 3, cells := 0, slots := 0, locals := 70 } : Room) s m args below meth c H locs 0 0 (MQ below (hq_QI D mo_cl ca 15 (mo_sh) B r M9.1 M9.2) args s 0 0 (hm_A B 15)) (F0 m 63 ls [.int y0]) := by
  obtain ⟨hx, hb, hml, hown, hr, hlk, hKt⟩ := id X
  have hK := hKt.1
  have hts : ∀ w ∈ hq_tb, w.before args s = true := fun w h => hKt.2.2 w h args
  intro x1 x2 x3 x4 x5 y0 M H locs ls hl hP hS hf
  unfold f_Mo_greatest_63 at hf
  refine lv_istore (lv' := [(6, .int y0), (0, .ref (B + 0)), (1, .int x1), (2, .int x2), (3, .int x3), (4, .int x4), (5, .int x5)]) hx hb d_Mo_greatest_63 hl (by decide) rfl (fun ls hl => ?_)
  refine lv_iload_n hx hb d_Mo_greatest_65 rfl (lv_at hl 2 rfl) ?_
  refine lv_if_eq (tgt := 77) hx hb d_Mo_greatest_66 (by decide) (fun c1 => ?_) (fun c1 => ?_)
  · replace hf := (if_pos c1).symm.trans hf
    refine lv_iload hx hb d_Mo_greatest_77 (lv_at hl 0 rfl) ?_
    refine lv_iload hx hb d_Mo_greatest_79 (lv_at hl 5 rfl) ?_
    refine lv_icmp_le (tgt := 89) hx hb d_Mo_greatest_81 (by decide) (fun c2 => ?_) (fun c2 => ?_)
    · replace hf := (if_pos c2).symm.trans hf
      refine lv_iload hx hb d_Mo_greatest_89 (lv_at hl 5 rfl) ?_
      exact w_Mo_greatest_91 X hk4 hk23 _ _ _ _ _ _ _ _ _ (lv_sub hl [1, 2, 3, 4, 6] rfl) hP hS hf
    · replace hf := (if_neg c2).symm.trans hf
      refine lv_iload hx hb d_Mo_greatest_84 (lv_at hl 0 rfl) ?_
      refine lv_goto (tgt := 91) hx hb d_Mo_greatest_86 (by decide) ?_
      exact w_Mo_greatest_91 X hk4 hk23 _ _ _ _ _ _ _ _ _ (lv_sub hl [1, 2, 3, 4, 6] rfl) hP hS hf
  · replace hf := (if_neg c1).symm.trans hf
    refine lv_iload hx hb d_Mo_greatest_69 (lv_at hl 5 rfl) ?_
    refine lv_iload hx hb d_Mo_greatest_71 (lv_at hl 0 rfl) ?_
    refine lv_iadd hx hb d_Mo_greatest_73 ?_
    refine lv_goto (tgt := 91) hx hb d_Mo_greatest_74 (by decide) ?_
    exact w_Mo_greatest_91 X hk4 hk23 _ _ _ _ _ _ _ _ _ (lv_sub hl [1, 2, 3, 4, 6] rfl) hP hS hf
set_option maxHeartbeats 4000000 in
set_option maxRecDepth 100000 in
theorem w_Mo_greatest_108 {p : Program} {l : Launch} {e : Env} {s : State} {m : MethodId} {args : Array Value} {below : List Frame} {meth : Method} {c : Code} {D : va_G} {ca : Nat → ClassId} {B : Nat} {r : Int32} {M9 : mo_M} (X : hq_X p s m args meth c b_Mo_greatest R_Mo 7 (some .int) D mo_cl (mo_ty ca) hq_tb) {k4 : Int32 → Int32 → Int32 → mo_M → Option (Int32 × mo_M)} (hk4 : ∀ (x1 : Int32), ∀ (x2 : Int32), ∀ (x3 : Int32), ∀ (M : mo_M) (H : Heap) (locs : List Loc) (ls : Array Slot), lv_has ls 7 [(0, .ref (B + 0)), (1, .int x1), (2, .int x2), (3, .int x3)] → hm_P D mo_cl ca 15 (mo_sh) B M.1 M.2 H → va_S (hm_A B 15) s.heap H locs → k4 x1 x2 x3 M = some (r, M9) → W p l e ({ frames := 3, cells := 0, slots := 0, locals := 70 } : Room) s m args below meth c H locs 0 0 (MQ below (hq_QI D mo_cl ca 15 (mo_sh) B r M9.1 M9.2) args s 0 0 (hm_A B 15)) (F0 m 4 ls [])) : ∀ (x1 : Int32), ∀ (x2 : Int32), ∀ (x3 : Int32), ∀ (M : mo_M) (H : Heap) (locs : List Loc) (ls : Array Slot), lv_has ls 7 [(0, .ref (B + 0)), (1, .int x1), (2, .int x2), (3, .int x3)] → hm_P D mo_cl ca 15 (mo_sh) B M.1 M.2 H → va_S (hm_A B 15) s.heap H locs → f_Mo_greatest_108 k4 x1 x2 x3 M = some (r, M9) → W p l e ({ frames := 3, cells := 0, slots := 0, locals := 70 } : Room) s m args below meth c H locs 0 0 (MQ below (hq_QI D mo_cl ca 15 (mo_sh) B r M9.1 M9.2) args s 0 0 (hm_A B 15)) (F0 m 108 ls []) := by
  obtain ⟨hx, hb, hml, hown, hr, hlk, hKt⟩ := id X
  have hK := hKt.1
  have hts : ∀ w ∈ hq_tb, w.before args s = true := fun w h => hKt.2.2 w h args
  intro x1 x2 x3 M H locs ls hl hP hS hf
  unfold f_Mo_greatest_108 at hf
  refine lv_iinc (v := (x3 + 1)) (lv' := [(3, .int (x3 + 1)), (0, .ref (B + 0)), (1, .int x1), (2, .int x2)]) hx hb d_Mo_greatest_108 hl (k := 3) rfl rfl (by decide) rfl (fun ls hl => ?_)
  refine lv_goto (tgt := 4) hx hb d_Mo_greatest_111 (by decide) ?_
  exact hk4 _ _ _ _ _ _ _ (lv_sub hl [1, 2, 3, 0] rfl) hP hS hf
set_option maxHeartbeats 4000000 in
set_option maxRecDepth 100000 in
theorem w_Mo_greatest_23 {p : Program} {l : Launch} {e : Env} {s : State} {m : MethodId} {args : Array Value} {below : List Frame} {meth : Method} {c : Code} {D : va_G} {ca : Nat → ClassId} {B : Nat} {r : Int32} {M9 : mo_M} (X : hq_X p s m args meth c b_Mo_greatest R_Mo 7 (some .int) D mo_cl (mo_ty ca) hq_tb) {k4 : Int32 → Int32 → Int32 → mo_M → Option (Int32 × mo_M)} (hk4 : ∀ (x1 : Int32), ∀ (x2 : Int32), ∀ (x3 : Int32), ∀ (M : mo_M) (H : Heap) (locs : List Loc) (ls : Array Slot), lv_has ls 7 [(0, .ref (B + 0)), (1, .int x1), (2, .int x2), (3, .int x3)] → hm_P D mo_cl ca 15 (mo_sh) B M.1 M.2 H → va_S (hm_A B 15) s.heap H locs → k4 x1 x2 x3 M = some (r, M9) → W p l e ({ frames := 3, cells := 0, slots := 0, locals := 70 } : Room) s m args below meth c H locs 0 0 (MQ below (hq_QI D mo_cl ca 15 (mo_sh) B r M9.1 M9.2) args s 0 0 (hm_A B 15)) (F0 m 4 ls [])) : ∀ (n : Nat), ∀ (x1 : Int32), ∀ (x2 : Int32), ∀ (x3 : Int32), ∀ (x4 : Int32), ∀ (x5 : Int32), ∀ (M : mo_M) (H : Heap) (locs : List Loc) (ls : Array Slot), lv_has ls 7 [(0, .ref (B + 0)), (1, .int x1), (2, .int x2), (3, .int x3), (4, .int x4), (5, .int x5)] → hm_P D mo_cl ca 15 (mo_sh) B M.1 M.2 H → va_S (hm_A B 15) s.heap H locs → f_Mo_greatest_23 k4 n x1 x2 x3 x4 x5 M = some (r, M9) → W p l e ({ frames := 3, cells := 0, slots := 0, locals := 70 } : Room) s m args below meth c H locs 0 0 (MQ below (hq_QI D mo_cl ca 15 (mo_sh) B r M9.1 M9.2) args s 0 0 (hm_A B 15)) (F0 m 23 ls []) := by
  obtain ⟨hx, hb, hml, hown, hr, hlk, hKt⟩ := id X
  have hK := hKt.1
  have hts : ∀ w ∈ hq_tb, w.before args s = true := fun w h => hKt.2.2 w h args
  intro n
  induction n with
  | zero =>
    intro x1 x2 x3 x4 x5 M H locs ls hl hP hS hf
    cases hf
  | succ n ih =>
    intro x1 x2 x3 x4 x5 M H locs ls hl hP hS hf
    rw [f_Mo_greatest_23] at hf
    refine lv_iload hx hb d_Mo_greatest_23 (lv_at hl 5 rfl) ?_
    refine lv_aload_n hx hb d_Mo_greatest_25 rfl (lv_at hl 0 rfl) ?_
    refine hq_get hx hb hts i_Mo hown hK hP 0 (by decide) (mo_s_Mo (rfl)) rfl 11 (by decide) (hts _ mo_wd_22) (fun _ h => h) (v := .int (M.1 0 11)) rfl d_Mo_greatest_26 ?_
    refine lv_icmp_ge (tgt := 99) hx hb d_Mo_greatest_29 (by decide) (fun c1 => ?_) (fun c1 => ?_)
    · replace hf := (if_pos c1).symm.trans hf
      refine lv_iload hx hb d_Mo_greatest_99 (lv_at hl 4 rfl) ?_
      refine lv_iload_n hx hb d_Mo_greatest_101 rfl (lv_at hl 2 rfl) ?_
      refine lv_icmp_le (tgt := 108) hx hb d_Mo_greatest_102 (by decide) (fun c2 => ?_) (fun c2 => ?_)
      · replace hf := (if_pos c2).symm.trans hf
        exact w_Mo_greatest_108 X hk4 _ _ _ _ _ _ _ (lv_sub hl [0, 1, 2, 3] rfl) hP hS hf
      · replace hf := (if_neg c2).symm.trans hf
        refine lv_iload hx hb d_Mo_greatest_105 (lv_at hl 4 rfl) ?_
        refine lv_istore_n (lv' := [(2, .int x4), (0, .ref (B + 0)), (1, .int x1), (3, .int x3), (4, .int x4), (5, .int x5)]) hx hb d_Mo_greatest_107 rfl hl (by decide) rfl (fun ls hl => ?_)
        exact w_Mo_greatest_108 X hk4 _ _ _ _ _ _ _ (lv_sub hl [1, 2, 0, 3] rfl) hP hS hf
    · replace hf := (if_neg c1).symm.trans hf
      refine lv_aload_n hx hb d_Mo_greatest_32 rfl (lv_at hl 0 rfl) ?_
      refine lv_iload hx hb d_Mo_greatest_33 (lv_at hl 5 rfl) ?_
      refine lv_iconst (v := 2) hx hb d_Mo_greatest_35 (by decide) ?_
      obtain ⟨r3, M_4, hc5, hf⟩ := hm_bI_some hf
      refine hq_callI (va_runV (As := [.int x5, .int 2]) (rest := []) ⟨hx, hb, hml, hown, hts⟩ (c_Mo_kept (l := l) (D := D) (ca := ca) (B := B)  hc5) (hq_cwV (nn := 2) hts mo_wd_51 mo_wd_6 mo_wd_52 mo_wd_53 mo_wd_54 (by decide +kernel) rfl rfl ⟨(Nat.le_of_ble_eq_true rfl), (Nat.le_of_ble_eq_true rfl)⟩) (hq_preV hKt hP (by decide) (mo_s_Mo (rfl)) rfl) rfl rfl hl.1 rfl (lv_room (Nat.le_of_ble_eq_true rfl)) d_Mo_greatest_36 ⟨(Nat.le_of_ble_eq_true rfl), (Nat.le_of_ble_eq_true rfl)⟩) hS (fun H locs hP hS => ?_)
      refine lv_if_eq (tgt := 62) hx hb d_Mo_greatest_39 (by decide) (fun c6 => ?_) (fun c6 => ?_)
      · replace hf := (if_pos c6).symm.trans hf
        refine lv_iconst (v := 0) hx hb d_Mo_greatest_62 (by decide) ?_
        exact w_Mo_greatest_63 X hk4 ih _ _ _ _ _ _ _ _ _ _ (lv_sub hl [0, 1, 2, 3, 4, 5] rfl) hP hS hf
      · replace hf := (if_neg c6).symm.trans hf
        refine lv_aload_n hx hb d_Mo_greatest_42 rfl (lv_at hl 0 rfl) ?_
        refine hq_get hx hb hts i_Mo hown hK hP 0 (by decide) (mo_s_Mo (rfl)) rfl 19 (by decide) (hts _ mo_wd_41) (fun _ h => h) (v := .ref (B + 13)) rfl d_Mo_greatest_43 ?_
        refine lv_iload hx hb d_Mo_greatest_46 (lv_at hl 5 rfl) ?_
        obtain ⟨g7, hf⟩ := hm_gd_some hf
        refine hq_iald hx hb hK hP 13 (by decide) (mo_s_ia8 (rfl)) 0 rfl g7 d_Mo_greatest_48 ?_
        refine lv_aload_n hx hb d_Mo_greatest_49 rfl (lv_at hl 0 rfl) ?_
        refine hq_get hx hb hts i_Mo hown hK hP 0 (by decide) (mo_s_Mo (rfl)) rfl 18 (by decide) (hts _ mo_wd_40) (fun _ h => h) (v := .ref (B + 12)) rfl d_Mo_greatest_50 ?_
        refine lv_iload hx hb d_Mo_greatest_53 (lv_at hl 5 rfl) ?_
        obtain ⟨g8, hf⟩ := hm_gd_some hf
        refine hq_iald hx hb hK hP 12 (by decide) (mo_s_ia8 (rfl)) 0 rfl g8 d_Mo_greatest_55 ?_
        refine lv_isub hx hb d_Mo_greatest_56 ?_
        refine lv_iconst (v := 1) hx hb d_Mo_greatest_57 (by decide) ?_
        refine lv_iadd hx hb d_Mo_greatest_58 ?_
        refine lv_goto (tgt := 63) hx hb d_Mo_greatest_59 (by decide) ?_
        exact w_Mo_greatest_63 X hk4 ih _ _ _ _ _ _ _ _ _ _ (lv_sub hl [0, 1, 2, 3, 4, 5] rfl) hP hS hf
set_option maxHeartbeats 4000000 in
set_option maxRecDepth 100000 in
theorem w_Mo_greatest_4 {p : Program} {l : Launch} {e : Env} {s : State} {m : MethodId} {args : Array Value} {below : List Frame} {meth : Method} {c : Code} {D : va_G} {ca : Nat → ClassId} {B : Nat} {r : Int32} {M9 : mo_M} (X : hq_X p s m args meth c b_Mo_greatest R_Mo 7 (some .int) D mo_cl (mo_ty ca) hq_tb) : ∀ (n : Nat), ∀ (x1 : Int32), ∀ (x2 : Int32), ∀ (x3 : Int32), ∀ (M : mo_M) (H : Heap) (locs : List Loc) (ls : Array Slot), lv_has ls 7 [(0, .ref (B + 0)), (1, .int x1), (2, .int x2), (3, .int x3)] → hm_P D mo_cl ca 15 (mo_sh) B M.1 M.2 H → va_S (hm_A B 15) s.heap H locs → f_Mo_greatest_4 n x1 x2 x3 M = some (r, M9) → W p l e ({ frames := 3, cells := 0, slots := 0, locals := 70 } : Room) s m args below meth c H locs 0 0 (MQ below (hq_QI D mo_cl ca 15 (mo_sh) B r M9.1 M9.2) args s 0 0 (hm_A B 15)) (F0 m 4 ls []) := by
  obtain ⟨hx, hb, hml, hown, hr, hlk, hKt⟩ := id X
  have hK := hKt.1
  have hts : ∀ w ∈ hq_tb, w.before args s = true := fun w h => hKt.2.2 w h args
  intro n
  induction n with
  | zero =>
    intro x1 x2 x3 M H locs ls hl hP hS hf
    cases hf
  | succ n ih =>
    intro x1 x2 x3 M H locs ls hl hP hS hf
    rw [f_Mo_greatest_4] at hf
    refine lv_iload_n hx hb d_Mo_greatest_4 rfl (lv_at hl 3 rfl) ?_
    refine lv_aload_n hx hb d_Mo_greatest_5 rfl (lv_at hl 0 rfl) ?_
    obtain ⟨r1, M_2, hc3, hf⟩ := hm_bI_some hf
    refine hq_callI (va_runV (As := []) (rest := [.int x3]) ⟨hx, hb, hml, hown, hts⟩ (c_Mo_tiles (l := l) (D := D) (ca := ca) (B := B)  hc3) (hq_cwV (nn := 0) hts mo_wd_55 mo_wd_6 mo_wd_56 mo_wd_57 mo_wd_58 (by decide +kernel) rfl rfl ⟨(Nat.le_of_ble_eq_true rfl), (Nat.le_of_ble_eq_true rfl)⟩) (hq_preV hKt hP (by decide) (mo_s_Mo (rfl)) rfl) rfl rfl hl.1 rfl (lv_room (Nat.le_of_ble_eq_true rfl)) d_Mo_greatest_6 ⟨(Nat.le_of_ble_eq_true rfl), (Nat.le_of_ble_eq_true rfl)⟩) hS (fun H locs hP hS => ?_)
    refine lv_icmp_ge (tgt := 114) hx hb d_Mo_greatest_9 (by decide) (fun c4 => ?_) (fun c4 => ?_)
    · replace hf := (if_pos c4).symm.trans hf
      refine lv_iload_n hx hb d_Mo_greatest_114 rfl (lv_at hl 2 rfl) ?_
      obtain ⟨h9, h8⟩ := Prod.mk.inj (Option.some.inj hf)
      subst h9
      subst h8
      exact W.iret hx hb hr (fun t ht _ => ⟨⟨_, (), rfl, rfl, by subst ht; exact hP⟩, hS.F ht⟩) hS.2.2 d_Mo_greatest_115 hlk
    · replace hf := (if_neg c4).symm.trans hf
      refine lv_iconst (v := 0) hx hb d_Mo_greatest_12 (by decide) ?_
      refine lv_istore (lv' := [(4, .int 0), (0, .ref (B + 0)), (1, .int x1), (2, .int x2), (3, .int x3)]) hx hb d_Mo_greatest_13 hl (by decide) rfl (fun ls hl => ?_)
      refine lv_aload_n hx hb d_Mo_greatest_15 rfl (lv_at hl 1 rfl) ?_
      refine lv_iload_n hx hb d_Mo_greatest_16 rfl (lv_at hl 4 rfl) ?_
      obtain ⟨M_6, hc7, hf⟩ := hm_bV_some hf
      refine hq_callV (va_runV (As := [.int x3]) (rest := []) ⟨hx, hb, hml, hown, hts⟩ (c_Mo_needTile (l := l) (D := D) (ca := ca) (B := B)  hc7) (hq_cwV (nn := 1) hts mo_wd_59 mo_wd_6 mo_wd_60 mo_wd_61 mo_wd_62 (by decide +kernel) rfl rfl ⟨(Nat.le_of_ble_eq_true rfl), (Nat.le_of_ble_eq_true rfl)⟩) (hq_preV hKt hP (by decide) (mo_s_Mo (rfl)) rfl) rfl rfl hl.1 rfl (lv_room (Nat.le_of_ble_eq_true rfl)) d_Mo_greatest_17 ⟨(Nat.le_of_ble_eq_true rfl), (Nat.le_of_ble_eq_true rfl)⟩) hS (fun H locs hP hS => ?_)
      refine lv_iconst (v := 0) hx hb d_Mo_greatest_20 (by decide) ?_
      refine lv_istore (lv' := [(5, .int 0), (4, .int 0), (0, .ref (B + 0)), (1, .int x1), (2, .int x2), (3, .int x3)]) hx hb d_Mo_greatest_21 hl (by decide) rfl (fun ls hl => ?_)
      exact w_Mo_greatest_23 X ih _ _ _ _ _ _ _ _ _ _ (lv_sub hl [2, 3, 4, 5, 1, 0] rfl) hP hS hf
set_option maxHeartbeats 4000000 in
set_option maxRecDepth 100000 in
theorem w_Mo_greatest_e {p : Program} {l : Launch} {e : Env} {s : State} {m : MethodId} {args : Array Value} {below : List Frame} {meth : Method} {c : Code} {D : va_G} {ca : Nat → ClassId} {B : Nat} {r : Int32} {M9 : mo_M} (X : hq_X p s m args meth c b_Mo_greatest R_Mo 7 (some .int) D mo_cl (mo_ty ca) hq_tb) : ∀ (x1 : Int32), ∀ (M : mo_M) (H : Heap) (locs : List Loc) (ls : Array Slot), lv_has ls 7 [(0, .ref (B + 0)), (1, .int x1)] → hm_P D mo_cl ca 15 (mo_sh) B M.1 M.2 H → va_S (hm_A B 15) s.heap H locs → f_Mo_greatest M x1 = some (r, M9) → W p l e ({ frames := 3, cells := 0, slots := 0, locals := 70 } : Room) s m args below meth c H locs 0 0 (MQ below (hq_QI D mo_cl ca 15 (mo_sh) B r M9.1 M9.2) args s 0 0 (hm_A B 15)) (F0 m 0 ls []) := by
  obtain ⟨hx, hb, hml, hown, hr, hlk, hKt⟩ := id X
  have hK := hKt.1
  have hts : ∀ w ∈ hq_tb, w.before args s = true := fun w h => hKt.2.2 w h args
  intro x1 M H locs ls hl hP hS hf
  unfold f_Mo_greatest at hf
  refine lv_iconst (v := 0) hx hb d_Mo_greatest_0 (by decide) ?_
  refine lv_istore_n (lv' := [(2, .int 0), (0, .ref (B + 0)), (1, .int x1)]) hx hb d_Mo_greatest_1 rfl hl (by decide) rfl (fun ls hl => ?_)
  refine lv_iconst (v := 0) hx hb d_Mo_greatest_2 (by decide) ?_
  refine lv_istore_n (lv' := [(3, .int 0), (2, .int 0), (0, .ref (B + 0)), (1, .int x1)]) hx hb d_Mo_greatest_3 rfl hl (by decide) rfl (fun ls hl => ?_)
  exact w_Mo_greatest_4 X _ _ _ _ _ _ _ _ (lv_sub hl [2, 3, 1, 0] rfl) hP hS hf
set_option maxHeartbeats 4000000 in
set_option maxRecDepth 100000 in
theorem c_Mo_greatest {l : Launch} {D : va_G} {ca : Nat → ClassId} {B : Nat} {r : Int32} {x1 : Int32} {M M9 : mo_M} (hf : f_Mo_greatest M x1 = some (r, M9)) : Met l y_Mo_greatest [Cond.code y_Mo_greatest b_Mo_greatest 7 (some .int)] ({ frames := 3, cells := 0, slots := 0, locals := 70 } : Room) (hq_Pre D mo_cl ca 15 (mo_sh) B (mo_ty ca) hq_tb M.1 M.2 [.ref (B + 0), .int x1]) (hq_QI D mo_cl ca 15 (mo_sh) B r M9.1 M9.2) 0 0 (hm_A B 15) := by
  refine Met.ofW (cc := b_Mo_greatest) (maxL := 7) (ret := (some .int)) (by decide +kernel) rfl ?_
  intro p e s m args below meth c s₁ Bd hml hv
  obtain ⟨rfl, hP, hK⟩ := hv
  have hl := lv_entry ([.ref (B + 0), .int x1]) (n := 7) (Nat.le_of_ble_eq_true rfl)
  rw [lg_entry_eq]
  generalize (lg_sl ([.ref (B + 0), .int x1]) ++ List.replicate (7 - (lg_sl ([.ref (B + 0), .int x1])).length) Slot.unset).toArray = ls at hl ⊢
  have hl : lv_has ls 7 [(0, .ref (B + 0)), (1, .int x1)] := hl
  exact w_Mo_greatest_e ⟨Bd.exec, Bd.bytes, hml, findClass_of_methodNamed Bd.named, Bd.returns, Bd.notSynchronized, hK⟩  _ _ _ _ _ hl hP va_S.rf hf
set_option maxHeartbeats 4000000 in
set_option maxRecDepth 100000 in
theorem w_Mo_count_20 {p : Program} {l : Launch} {e : Env} {s : State} {m : MethodId} {args : Array Value} {below : List Frame} {meth : Method} {c : Code} {D : va_G} {ca : Nat → ClassId} {B : Nat} {r : Int32} {M9 : mo_M} (X : hq_X p s m args meth c b_Mo_count R_Mo 4 (some .int) D mo_cl (mo_ty ca) hq_tb) : ∀ (M : mo_M) (H : Heap) (locs : List Loc) (ls : Array Slot), lv_has ls 4 [] → hm_P D mo_cl ca 15 (mo_sh) B M.1 M.2 H → va_S (hm_A B 15) s.heap H locs → f_Mo_count_20 M = some (r, M9) → W p l e ({ frames := 4, cells := 0, slots := 0, locals := 96 } : Room) s m args below meth c H locs 0 0 (MQ below (hq_QI D mo_cl ca 15 (mo_sh) B r M9.1 M9.2) args s 0 0 (hm_A B 15)) (F0 m 20 ls []) := by
  obtain ⟨hx, hb, hml, hown, hr, hlk, hKt⟩ := id X
  have hK := hKt.1
  have hts : ∀ w ∈ hq_tb, w.before args s = true := fun w h => hKt.2.2 w h args
  intro  M H locs ls hl hP hS hf
  unfold f_Mo_count_20 at hf
  refine lv_iconst (v := (-1)) hx hb d_Mo_count_20 (by decide) ?_
  obtain ⟨h9, h8⟩ := Prod.mk.inj (Option.some.inj hf)
  subst h9
  subst h8
  exact W.iret hx hb hr (fun t ht _ => ⟨⟨_, (), rfl, rfl, by subst ht; exact hP⟩, hS.F ht⟩) hS.2.2 d_Mo_count_21 hlk
set_option maxHeartbeats 4000000 in
set_option maxRecDepth 100000 in
theorem w_Mo_count_39 {p : Program} {l : Launch} {e : Env} {s : State} {m : MethodId} {args : Array Value} {below : List Frame} {meth : Method} {c : Code} {D : va_G} {ca : Nat → ClassId} {B : Nat} {r : Int32} {M9 : mo_M} (X : hq_X p s m args meth c b_Mo_count R_Mo 4 (some .int) D mo_cl (mo_ty ca) hq_tb) : ∀ (y0 : Int32), ∀ (M : mo_M) (H : Heap) (locs : List Loc) (ls : Array Slot), lv_has ls 4 [] → hm_P D mo_cl ca 15 (mo_sh) B M.1 M.2 H → va_S (hm_A B 15) s.heap H locs → f_Mo_count_39 y0 M = some (r, M9) → W p l e ({ frames := 4, cells := 0, slots := 0, locals := 96 } : Room) s m args below meth c H locs 0 0 (MQ below (hq_QI D mo_cl ca 15 (mo_sh) B r M9.1 M9.2) args s 0 0 (hm_A B 15)) (F0 m 39 ls [.int y0]) := by
  obtain ⟨hx, hb, hml, hown, hr, hlk, hKt⟩ := id X
  have hK := hKt.1
  have hts : ∀ w ∈ hq_tb, w.before args s = true := fun w h => hKt.2.2 w h args
  intro y0 M H locs ls hl hP hS hf
  unfold f_Mo_count_39 at hf
  obtain ⟨h9, h8⟩ := Prod.mk.inj (Option.some.inj hf)
  subst h9
  subst h8
  exact W.iret hx hb hr (fun t ht _ => ⟨⟨_, (), rfl, rfl, by subst ht; exact hP⟩, hS.F ht⟩) hS.2.2 d_Mo_count_39 hlk
set_option maxHeartbeats 4000000 in
set_option maxRecDepth 100000 in
theorem w_Mo_count_158 {p : Program} {l : Launch} {e : Env} {s : State} {m : MethodId} {args : Array Value} {below : List Frame} {meth : Method} {c : Code} {D : va_G} {ca : Nat → ClassId} {B : Nat} {r : Int32} {M9 : mo_M} (X : hq_X p s m args meth c b_Mo_count R_Mo 4 (some .int) D mo_cl (mo_ty ca) hq_tb) {k97 : Int32 → Int32 → Int32 → mo_M → Option (Int32 × mo_M)} (hk97 : ∀ (x1 : Int32), ∀ (x2 : Int32), ∀ (x3 : Int32), ∀ (M : mo_M) (H : Heap) (locs : List Loc) (ls : Array Slot), lv_has ls 4 [(0, .ref (B + 0)), (1, .int x1), (2, .int x2), (3, .int x3)] → hm_P D mo_cl ca 15 (mo_sh) B M.1 M.2 H → va_S (hm_A B 15) s.heap H locs → k97 x1 x2 x3 M = some (r, M9) → W p l e ({ frames := 4, cells := 0, slots := 0, locals := 96 } : Room) s m args below meth c H locs 0 0 (MQ below (hq_QI D mo_cl ca 15 (mo_sh) B r M9.1 M9.2) args s 0 0 (hm_A B 15)) (F0 m 97 ls [])) : ∀ (x1 : Int32), ∀ (x2 : Int32), ∀ (x3 : Int32), ∀ (M : mo_M) (H : Heap) (locs : List Loc) (ls : Array Slot), lv_has ls 4 [(0, .ref (B + 0)), (1, .int x1), (2, .int x2), (3, .int x3)] → hm_P D mo_cl ca 15 (mo_sh) B M.1 M.2 H → va_S (hm_A B 15) s.heap H locs → f_Mo_count_158 k97 x1 x2 x3 M = some (r, M9) → W p l e ({ frames := 4, cells := 0, slots := 0, locals := 96 } : Room) s m args below meth c H locs 0 0 (MQ below (hq_QI D mo_cl ca 15 (mo_sh) B r M9.1 M9.2) args s 0 0 (hm_A B 15)) (F0 m 158 ls []) := by
  obtain ⟨hx, hb, hml, hown, hr, hlk, hKt⟩ := id X
  have hK := hKt.1
  have hts : ∀ w ∈ hq_tb, w.before args s = true := fun w h => hKt.2.2 w h args
  intro x1 x2 x3 M H locs ls hl hP hS hf
  unfold f_Mo_count_158 at hf
  refine lv_iinc (v := (x3 + 1)) (lv' := [(3, .int (x3 + 1)), (0, .ref (B + 0)), (1, .int x1), (2, .int x2)]) hx hb d_Mo_count_158 hl (k := 3) rfl rfl (by decide) rfl (fun ls hl => ?_)
  refine lv_goto (tgt := 97) hx hb d_Mo_count_161 (by decide) ?_
  exact hk97 _ _ _ _ _ _ _ (lv_sub hl [1, 2, 3, 0] rfl) hP hS hf
set_option maxHeartbeats 4000000 in
set_option maxRecDepth 100000 in
theorem w_Mo_count_156 {p : Program} {l : Launch} {e : Env} {s : State} {m : MethodId} {args : Array Value} {below : List Frame} {meth : Method} {c : Code} {D : va_G} {ca : Nat → ClassId} {B : Nat} {r : Int32} {M9 : mo_M} (X : hq_X p s m args meth c b_Mo_count R_Mo 4 (some .int) D mo_cl (mo_ty ca) hq_tb) {k97 : Int32 → Int32 → Int32 → mo_M → Option (Int32 × mo_M)} (hk97 : ∀ (x1 : Int32), ∀ (x2 : Int32), ∀ (x3 : Int32), ∀ (M : mo_M) (H : Heap) (locs : List Loc) (ls : Array Slot), lv_has ls 4 [(0, .ref (B + 0)), (1, .int x1), (2, .int x2), (3, .int x3)] → hm_P D mo_cl ca 15 (mo_sh) B M.1 M.2 H → va_S (hm_A B 15) s.heap H locs → k97 x1 x2 x3 M = some (r, M9) → W p l e ({ frames := 4, cells := 0, slots := 0, locals := 96 } : Room) s m args below meth c H locs 0 0 (MQ below (hq_QI D mo_cl ca 15 (mo_sh) B r M9.1 M9.2) args s 0 0 (hm_A B 15)) (F0 m 97 ls [])) : ∀ (x1 : Int32), ∀ (x3 : Int32), ∀ (y0 : Int32), ∀ (y1 : Int32), ∀ (M : mo_M) (H : Heap) (locs : List Loc) (ls : Array Slot), lv_has ls 4 [(0, .ref (B + 0)), (1, .int x1), (3, .int x3)] → hm_P D mo_cl ca 15 (mo_sh) B M.1 M.2 H → va_S (hm_A B 15) s.heap H locs → f_Mo_count_156 k97 x1 x3 y0 y1 M = some (r, M9) → W p l e ({ frames := 4, cells := 0, slots := 0, locals := 96 } : Room) s m args below meth c H locs 0 0 (MQ below (hq_QI D mo_cl ca 15 (mo_sh) B r M9.1 M9.2) args s 0 0 (hm_A B 15)) (F0 m 156 ls [.int y1, .int y0]) := by
  obtain ⟨hx, hb, hml, hown, hr, hlk, hKt⟩ := id X
  have hK := hKt.1
  have hts : ∀ w ∈ hq_tb, w.before args s = true := fun w h => hKt.2.2 w h args
  intro x1 x3 y0 y1 M H locs ls hl hP hS hf
  unfold f_Mo_count_156 at hf
  refine lv_iadd hx hb d_Mo_count_156 ?_
  refine lv_istore_n (lv' := [(2, .int (y0 + y1)), (0, .ref (B + 0)), (1, .int x1), (3, .int x3)]) hx hb d_Mo_count_157 rfl hl (by decide) rfl (fun ls hl => ?_)
  exact w_Mo_count_158 X hk97 _ _ _ _ _ _ _ (lv_sub hl [1, 2, 0, 3] rfl) hP hS hf
set_option maxHeartbeats 4000000 in
set_option maxRecDepth 100000 in
theorem w_Mo_count_131 {p : Program} {l : Launch} {e : Env} {s : State} {m : MethodId} {args : Array Value} {below : List Frame} {meth : Method} {c : Code} {D : va_G} {ca : Nat → ClassId} {B : Nat} {r : Int32} {M9 : mo_M} (X : hq_X p s m args meth c b_Mo_count R_Mo 4 (some .int) D mo_cl (mo_ty ca) hq_tb) {k97 : Int32 → Int32 → Int32 → mo_M → Option (Int32 × mo_M)} (hk97 : ∀ (x1 : Int32), ∀ (x2 : Int32), ∀ (x3 : Int32), ∀ (M : mo_M) (H : Heap) (locs : List Loc) (ls : Array Slot), lv_has ls 4 [(0, .ref (B + 0)), (1, .int x1), (2, .int x2), (3, .int x3)] → hm_P D mo_cl ca 15 (mo_sh) B M.1 M.2 H → va_S (hm_A B 15) s.heap H locs → k97 x1 x2 x3 M = some (r, M9) → W p l e ({ frames := 4, cells := 0, slots := 0, locals := 96 } : Room) s m args below meth c H locs 0 0 (MQ below (hq_QI D mo_cl ca 15 (mo_sh) B r M9.1 M9.2) args s 0 0 (hm_A B 15)) (F0 m 97 ls [])) : ∀ (x1 : Int32), ∀ (x2 : Int32), ∀ (x3 : Int32), ∀ (M : mo_M) (H : Heap) (locs : List Loc) (ls : Array Slot), lv_has ls 4 [(0, .ref (B + 0)), (1, .int x1), (2, .int x2), (3, .int x3)] → hm_P D mo_cl ca 15 (mo_sh) B M.1 M.2 H → va_S (hm_A B 15) s.heap H locs → f_Mo_count_131 k97 x1 x2 x3 M = some (r, M9) → W p l e ({ frames := 4, cells := 0, slots := 0, locals := 96 } : Room) s m args below meth c H locs 0 0 (MQ below (hq_QI D mo_cl ca 15 (mo_sh) B r M9.1 M9.2) args s 0 0 (hm_A B 15)) (F0 m 131 ls []) := by
  obtain ⟨hx, hb, hml, hown, hr, hlk, hKt⟩ := id X
  have hK := hKt.1
  have hts : ∀ w ∈ hq_tb, w.before args s = true := fun w h => hKt.2.2 w h args
  intro x1 x2 x3 M H locs ls hl hP hS hf
  unfold f_Mo_count_131 at hf
  refine lv_iload_n hx hb d_Mo_count_131 rfl (lv_at hl 2 rfl) ?_
  refine lv_iload_n hx hb d_Mo_count_132 rfl (lv_at hl 1 rfl) ?_
  refine lv_iconst (v := 3) hx hb d_Mo_count_133 (by decide) ?_
  refine lv_icmp_ne (tgt := 141) hx hb d_Mo_count_134 (by decide) (fun c1 => ?_) (fun c1 => ?_)
  · replace hf := (if_neg c1).symm.trans hf
    refine lv_aload_n hx hb d_Mo_count_141 rfl (lv_at hl 0 rfl) ?_
    refine hq_get hx hb hts i_Mo hown hK hP 0 (by decide) (mo_s_Mo (rfl)) rfl 19 (by decide) (hts _ mo_wd_41) (fun _ h => h) (v := .ref (B + 13)) rfl d_Mo_count_142 ?_
    refine lv_iload_n hx hb d_Mo_count_145 rfl (lv_at hl 3 rfl) ?_
    obtain ⟨g2, hf⟩ := hm_gd_some hf
    refine hq_iald hx hb hK hP 13 (by decide) (mo_s_ia8 (rfl)) 0 rfl g2 d_Mo_count_146 ?_
    refine lv_aload_n hx hb d_Mo_count_147 rfl (lv_at hl 0 rfl) ?_
    refine hq_get hx hb hts i_Mo hown hK hP 0 (by decide) (mo_s_Mo (rfl)) rfl 18 (by decide) (hts _ mo_wd_40) (fun _ h => h) (v := .ref (B + 12)) rfl d_Mo_count_148 ?_
    refine lv_iload_n hx hb d_Mo_count_151 rfl (lv_at hl 3 rfl) ?_
    obtain ⟨g3, hf⟩ := hm_gd_some hf
    refine hq_iald hx hb hK hP 12 (by decide) (mo_s_ia8 (rfl)) 0 rfl g3 d_Mo_count_152 ?_
    refine lv_isub hx hb d_Mo_count_153 ?_
    refine lv_iconst (v := 1) hx hb d_Mo_count_154 (by decide) ?_
    refine lv_iadd hx hb d_Mo_count_155 ?_
    exact w_Mo_count_156 X hk97 _ _ _ _ _ _ _ _ (lv_sub hl [0, 1, 3] rfl) hP hS hf
  · replace hf := (if_pos c1).symm.trans hf
    refine lv_iconst (v := 1) hx hb d_Mo_count_137 (by decide) ?_
    refine lv_goto (tgt := 156) hx hb d_Mo_count_138 (by decide) ?_
    exact w_Mo_count_156 X hk97 _ _ _ _ _ _ _ _ (lv_sub hl [0, 1, 3] rfl) hP hS hf
set_option maxHeartbeats 4000000 in
set_option maxRecDepth 100000 in
theorem w_Mo_count_180 {p : Program} {l : Launch} {e : Env} {s : State} {m : MethodId} {args : Array Value} {below : List Frame} {meth : Method} {c : Code} {D : va_G} {ca : Nat → ClassId} {B : Nat} {r : Int32} {M9 : mo_M} (X : hq_X p s m args meth c b_Mo_count R_Mo 4 (some .int) D mo_cl (mo_ty ca) hq_tb) : ∀ (y0 : Int32), ∀ (M : mo_M) (H : Heap) (locs : List Loc) (ls : Array Slot), lv_has ls 4 [] → hm_P D mo_cl ca 15 (mo_sh) B M.1 M.2 H → va_S (hm_A B 15) s.heap H locs → f_Mo_count_180 y0 M = some (r, M9) → W p l e ({ frames := 4, cells := 0, slots := 0, locals := 96 } : Room) s m args below meth c H locs 0 0 (MQ below (hq_QI D mo_cl ca 15 (mo_sh) B r M9.1 M9.2) args s 0 0 (hm_A B 15)) (F0 m 180 ls [.int y0]) := by
  obtain ⟨hx, hb, hml, hown, hr, hlk, hKt⟩ := id X
  have hK := hKt.1
  have hts : ∀ w ∈ hq_tb, w.before args s = true := fun w h => hKt.2.2 w h args
  intro y0 M H locs ls hl hP hS hf
  unfold f_Mo_count_180 at hf
  obtain ⟨h9, h8⟩ := Prod.mk.inj (Option.some.inj hf)
  subst h9
  subst h8
  exact W.iret hx hb hr (fun t ht _ => ⟨⟨_, (), rfl, rfl, by subst ht; exact hP⟩, hS.F ht⟩) hS.2.2 d_Mo_count_180 hlk
set_option maxHeartbeats 4000000 in
set_option maxRecDepth 100000 in
theorem w_Mo_count_97 {p : Program} {l : Launch} {e : Env} {s : State} {m : MethodId} {args : Array Value} {below : List Frame} {meth : Method} {c : Code} {D : va_G} {ca : Nat → ClassId} {B : Nat} {r : Int32} {M9 : mo_M} (X : hq_X p s m args meth c b_Mo_count R_Mo 4 (some .int) D mo_cl (mo_ty ca) hq_tb) : ∀ (n : Nat), ∀ (x1 : Int32), ∀ (x2 : Int32), ∀ (x3 : Int32), ∀ (M : mo_M) (H : Heap) (locs : List Loc) (ls : Array Slot), lv_has ls 4 [(0, .ref (B + 0)), (1, .int x1), (2, .int x2), (3, .int x3)] → hm_P D mo_cl ca 15 (mo_sh) B M.1 M.2 H → va_S (hm_A B 15) s.heap H locs → f_Mo_count_97 n x1 x2 x3 M = some (r, M9) → W p l e ({ frames := 4, cells := 0, slots := 0, locals := 96 } : Room) s m args below meth c H locs 0 0 (MQ below (hq_QI D mo_cl ca 15 (mo_sh) B r M9.1 M9.2) args s 0 0 (hm_A B 15)) (F0 m 97 ls []) := by
  obtain ⟨hx, hb, hml, hown, hr, hlk, hKt⟩ := id X
  have hK := hKt.1
  have hts : ∀ w ∈ hq_tb, w.before args s = true := fun w h => hKt.2.2 w h args
  intro n
  induction n with
  | zero =>
    intro x1 x2 x3 M H locs ls hl hP hS hf
    cases hf
  | succ n ih =>
    intro x1 x2 x3 M H locs ls hl hP hS hf
    rw [f_Mo_count_97] at hf
    refine lv_iload_n hx hb d_Mo_count_97 rfl (lv_at hl 3 rfl) ?_
    refine lv_aload_n hx hb d_Mo_count_98 rfl (lv_at hl 0 rfl) ?_
    refine hq_get hx hb hts i_Mo hown hK hP 0 (by decide) (mo_s_Mo (rfl)) rfl 11 (by decide) (hts _ mo_wd_22) (fun _ h => h) (v := .int (M.1 0 11)) rfl d_Mo_count_99 ?_
    refine lv_icmp_gt (tgt := 164) hx hb d_Mo_count_102 (by decide) (fun c1 => ?_) (fun c1 => ?_)
    · replace hf := (if_pos c1).symm.trans hf
      refine lv_iload_n hx hb d_Mo_count_164 rfl (lv_at hl 1 rfl) ?_
      refine lv_iconst (v := 3) hx hb d_Mo_count_165 (by decide) ?_
      refine lv_icmp_ne (tgt := 173) hx hb d_Mo_count_166 (by decide) (fun c2 => ?_) (fun c2 => ?_)
      · replace hf := (if_neg c2).symm.trans hf
        refine lv_iload_n hx hb d_Mo_count_173 rfl (lv_at hl 2 rfl) ?_
        refine lv_aload_n hx hb d_Mo_count_174 rfl (lv_at hl 0 rfl) ?_
        refine lv_iconst (v := 1) hx hb d_Mo_count_175 (by decide) ?_
        obtain ⟨r3, M_4, hc5, hf⟩ := hm_bI_some hf
        refine hq_callI (va_runV (As := [.int 1]) (rest := [.int x2]) ⟨hx, hb, hml, hown, hts⟩ (c_Mo_greatest (l := l) (D := D) (ca := ca) (B := B)  hc5) (hq_cwV (nn := 1) hts mo_wd_73 mo_wd_6 mo_wd_74 mo_wd_75 mo_wd_76 (by decide +kernel) rfl rfl ⟨(Nat.le_of_ble_eq_true rfl), (Nat.le_of_ble_eq_true rfl)⟩) (hq_preV hKt hP (by decide) (mo_s_Mo (rfl)) rfl) rfl rfl hl.1 rfl (lv_room (Nat.le_of_ble_eq_true rfl)) d_Mo_count_176 ⟨(Nat.le_of_ble_eq_true rfl), (Nat.le_of_ble_eq_true rfl)⟩) hS (fun H locs hP hS => ?_)
        refine lv_iadd hx hb d_Mo_count_179 ?_
        exact w_Mo_count_180 X _ _ _ _ _ (lv_sub hl [] rfl) hP hS hf
      · replace hf := (if_pos c2).symm.trans hf
        refine lv_iload_n hx hb d_Mo_count_169 rfl (lv_at hl 2 rfl) ?_
        refine lv_goto (tgt := 180) hx hb d_Mo_count_170 (by decide) ?_
        exact w_Mo_count_180 X _ _ _ _ _ (lv_sub hl [] rfl) hP hS hf
    · replace hf := (if_neg c1).symm.trans hf
      refine lv_iload_n hx hb d_Mo_count_105 rfl (lv_at hl 1 rfl) ?_
      refine lv_iconst (v := 3) hx hb d_Mo_count_106 (by decide) ?_
      refine lv_icmp_ne (tgt := 122) hx hb d_Mo_count_107 (by decide) (fun c6 => ?_) (fun c6 => ?_)
      · replace hf := (if_neg c6).symm.trans hf
        refine lv_aload_n hx hb d_Mo_count_122 rfl (lv_at hl 0 rfl) ?_
        refine lv_iload_n hx hb d_Mo_count_123 rfl (lv_at hl 3 rfl) ?_
        refine lv_iconst (v := 1) hx hb d_Mo_count_124 (by decide) ?_
        obtain ⟨r7, M_8, hc9, hf⟩ := hm_bI_some hf
        refine hq_callI (va_runV (As := [.int x3, .int 1]) (rest := []) ⟨hx, hb, hml, hown, hts⟩ (c_Mo_kept (l := l) (D := D) (ca := ca) (B := B)  hc9) (hq_cwV (nn := 2) hts mo_wd_51 mo_wd_6 mo_wd_52 mo_wd_53 mo_wd_54 (by decide +kernel) rfl rfl ⟨(Nat.le_of_ble_eq_true rfl), (Nat.le_of_ble_eq_true rfl)⟩) (hq_preV hKt hP (by decide) (mo_s_Mo (rfl)) rfl) rfl rfl hl.1 rfl (lv_room (Nat.le_of_ble_eq_true rfl)) d_Mo_count_125 ⟨(Nat.le_of_ble_eq_true rfl), (Nat.le_of_ble_eq_true rfl)⟩) hS (fun H locs hP hS => ?_)
        refine lv_if_eq (tgt := 158) hx hb d_Mo_count_128 (by decide) (fun c10 => ?_) (fun c10 => ?_)
        · replace hf := (if_pos c10).symm.trans hf
          exact w_Mo_count_158 X ih _ _ _ _ _ _ _ (lv_sub hl [0, 1, 2, 3] rfl) hP hS hf
        · replace hf := (if_neg c10).symm.trans hf
          exact w_Mo_count_131 X ih _ _ _ _ _ _ _ (lv_sub hl [0, 1, 2, 3] rfl) hP hS hf
      · replace hf := (if_pos c6).symm.trans hf
        refine lv_aload_n hx hb d_Mo_count_110 rfl (lv_at hl 0 rfl) ?_
        refine hq_get hx hb hts i_Mo hown hK hP 0 (by decide) (mo_s_Mo (rfl)) rfl 17 (by decide) (hts _ mo_wd_42) (fun _ h => h) (v := .ref (B + 11)) rfl d_Mo_count_111 ?_
        refine lv_iload_n hx hb d_Mo_count_114 rfl (lv_at hl 3 rfl) ?_
        obtain ⟨g11, hf⟩ := hm_gd_some hf
        refine hq_zald hx hb hK hP 11 (by decide) (mo_s_za8 (rfl)) 1 rfl g11 d_Mo_count_115 ?_
        refine lv_if_eq (tgt := 158) hx hb d_Mo_count_116 (by decide) (fun c12 => ?_) (fun c12 => ?_)
        · replace hf := (if_pos c12).symm.trans hf
          exact w_Mo_count_158 X ih _ _ _ _ _ _ _ (lv_sub hl [0, 1, 2, 3] rfl) hP hS hf
        · replace hf := (if_neg c12).symm.trans hf
          refine lv_goto (tgt := 131) hx hb d_Mo_count_119 (by decide) ?_
          exact w_Mo_count_131 X ih _ _ _ _ _ _ _ (lv_sub hl [0, 1, 2, 3] rfl) hP hS hf
set_option maxHeartbeats 4000000 in
set_option maxRecDepth 100000 in
theorem w_Mo_count_e {p : Program} {l : Launch} {e : Env} {s : State} {m : MethodId} {args : Array Value} {below : List Frame} {meth : Method} {c : Code} {D : va_G} {ca : Nat → ClassId} {B : Nat} {r : Int32} {M9 : mo_M} (X : hq_X p s m args meth c b_Mo_count R_Mo 4 (some .int) D mo_cl (mo_ty ca) hq_tb) : ∀ (x1 : Int32), ∀ (M : mo_M) (H : Heap) (locs : List Loc) (ls : Array Slot), lv_has ls 4 [(0, .ref (B + 0)), (1, .int x1)] → hm_P D mo_cl ca 15 (mo_sh) B M.1 M.2 H → va_S (hm_A B 15) s.heap H locs → f_Mo_count M x1 = some (r, M9) → W p l e ({ frames := 4, cells := 0, slots := 0, locals := 96 } : Room) s m args below meth c H locs 0 0 (MQ below (hq_QI D mo_cl ca 15 (mo_sh) B r M9.1 M9.2) args s 0 0 (hm_A B 15)) (F0 m 0 ls []) := by
  obtain ⟨hx, hb, hml, hown, hr, hlk, hKt⟩ := id X
  have hK := hKt.1
  have hts : ∀ w ∈ hq_tb, w.before args s = true := fun w h => hKt.2.2 w h args
  intro x1 M H locs ls hl hP hS hf
  unfold f_Mo_count at hf
  refine lv_iload_n hx hb d_Mo_count_0 rfl (lv_at hl 1 rfl) ?_
  refine lv_if_ne (tgt := 9) hx hb d_Mo_count_1 (by decide) (fun c1 => ?_) (fun c1 => ?_)
  · replace hf := (if_neg c1).symm.trans hf
    refine lv_iload_n hx hb d_Mo_count_9 rfl (lv_at hl 1 rfl) ?_
    refine lv_iconst (v := 1) hx hb d_Mo_count_10 (by decide) ?_
    refine lv_icmp_lt (tgt := 20) hx hb d_Mo_count_11 (by decide) (fun c2 => ?_) (fun c2 => ?_)
    · replace hf := (if_pos c2).symm.trans hf
      exact w_Mo_count_20 X _ _ _ _ (lv_sub hl [] rfl) hP hS hf
    · replace hf := (if_neg c2).symm.trans hf
      refine lv_iload_n hx hb d_Mo_count_14 rfl (lv_at hl 1 rfl) ?_
      refine lv_bipush (v := 6) hx hb d_Mo_count_15 (by decide) ?_
      refine lv_icmp_le (tgt := 22) hx hb d_Mo_count_17 (by decide) (fun c3 => ?_) (fun c3 => ?_)
      · replace hf := (if_pos c3).symm.trans hf
        refine lv_iload_n hx hb d_Mo_count_22 rfl (lv_at hl 1 rfl) ?_
        refine lv_iconst (v := 1) hx hb d_Mo_count_23 (by decide) ?_
        refine lv_icmp_ne (tgt := 40) hx hb d_Mo_count_24 (by decide) (fun c4 => ?_) (fun c4 => ?_)
        · replace hf := (if_neg c4).symm.trans hf
          refine lv_aload_n hx hb d_Mo_count_40 rfl (lv_at hl 0 rfl) ?_
          refine hq_get hx hb hts i_Mo hown hK hP 0 (by decide) (mo_s_Mo (rfl)) rfl 13 (by decide) (hts _ mo_wd_1) (fun _ h => h) (v := .int (M.1 0 13)) rfl d_Mo_count_41 ?_
          refine lv_if_ne (tgt := 49) hx hb d_Mo_count_44 (by decide) (fun c5 => ?_) (fun c5 => ?_)
          · replace hf := (if_neg c5).symm.trans hf
            refine lv_iload_n hx hb d_Mo_count_49 rfl (lv_at hl 1 rfl) ?_
            refine lv_iconst (v := 4) hx hb d_Mo_count_50 (by decide) ?_
            refine lv_icmp_ne (tgt := 59) hx hb d_Mo_count_51 (by decide) (fun c6 => ?_) (fun c6 => ?_)
            · replace hf := (if_neg c6).symm.trans hf
              refine lv_iload_n hx hb d_Mo_count_59 rfl (lv_at hl 1 rfl) ?_
              refine lv_iconst (v := 5) hx hb d_Mo_count_60 (by decide) ?_
              refine lv_icmp_ne (tgt := 70) hx hb d_Mo_count_61 (by decide) (fun c7 => ?_) (fun c7 => ?_)
              · replace hf := (if_neg c7).symm.trans hf
                refine lv_iload_n hx hb d_Mo_count_70 rfl (lv_at hl 1 rfl) ?_
                refine lv_bipush (v := 6) hx hb d_Mo_count_71 (by decide) ?_
                refine lv_icmp_ne (tgt := 82) hx hb d_Mo_count_73 (by decide) (fun c8 => ?_) (fun c8 => ?_)
                · replace hf := (if_neg c8).symm.trans hf
                  refine lv_aload_n hx hb d_Mo_count_82 rfl (lv_at hl 0 rfl) ?_
                  refine lv_iconst (v := 0) hx hb d_Mo_count_83 (by decide) ?_
                  refine lv_aload_n hx hb d_Mo_count_84 rfl (lv_at hl 0 rfl) ?_
                  refine hq_get hx hb hts i_Mo hown hK hP 0 (by decide) (mo_s_Mo (rfl)) rfl 12 (by decide) (hts _ mo_wd_23) (fun _ h => h) (v := .int (M.1 0 12)) rfl d_Mo_count_85 ?_
                  refine lv_iconst (v := 1) hx hb d_Mo_count_88 (by decide) ?_
                  refine lv_isub hx hb d_Mo_count_89 ?_
                  obtain ⟨M_10, hc11, hf⟩ := hm_bV_some hf
                  refine hq_callV (va_runV (As := [.int 0, .int ((M.1 0 12) - 1)]) (rest := []) ⟨hx, hb, hml, hown, hts⟩ (c_Mo_need (l := l) (D := D) (ca := ca) (B := B)  hc11) (hq_cwV (nn := 2) hts mo_wd_47 mo_wd_6 mo_wd_48 mo_wd_49 mo_wd_50 (by decide +kernel) rfl rfl ⟨(Nat.le_of_ble_eq_true rfl), (Nat.le_of_ble_eq_true rfl)⟩) (hq_preV hKt hP (by decide) (mo_s_Mo (rfl)) rfl) rfl rfl hl.1 rfl (lv_room (Nat.le_of_ble_eq_true rfl)) d_Mo_count_90 ⟨(Nat.le_of_ble_eq_true rfl), (Nat.le_of_ble_eq_true rfl)⟩) hS (fun H locs hP hS => ?_)
                  refine lv_iconst (v := 0) hx hb d_Mo_count_93 (by decide) ?_
                  refine lv_istore_n (lv' := [(2, .int 0), (0, .ref (B + 0)), (1, .int x1)]) hx hb d_Mo_count_94 rfl hl (by decide) rfl (fun ls hl => ?_)
                  refine lv_iconst (v := 0) hx hb d_Mo_count_95 (by decide) ?_
                  refine lv_istore_n (lv' := [(3, .int 0), (2, .int 0), (0, .ref (B + 0)), (1, .int x1)]) hx hb d_Mo_count_96 rfl hl (by decide) rfl (fun ls hl => ?_)
                  exact w_Mo_count_97 X _ _ _ _ _ _ _ _ (lv_sub hl [2, 3, 1, 0] rfl) hP hS hf
                · replace hf := (if_pos c8).symm.trans hf
                  refine lv_aload_n hx hb d_Mo_count_76 rfl (lv_at hl 0 rfl) ?_
                  obtain ⟨r12, M_13, hc14, hf⟩ := hm_bI_some hf
                  refine hq_callL (va_runV (As := []) (rest := []) ⟨hx, hb, hml, hown, hts⟩ (c_Mo_total (l := l) (D := D) (ca := ca) (B := B)  hc14) (hq_cwV (nn := 0) hts mo_wd_63 mo_wd_6 mo_wd_64 mo_wd_65 mo_wd_66 (by decide +kernel) rfl rfl ⟨(Nat.le_of_ble_eq_true rfl), (Nat.le_of_ble_eq_true rfl)⟩) (hq_preV hKt hP (by decide) (mo_s_Mo (rfl)) rfl) rfl rfl hl.1 rfl (lv_room (Nat.le_of_ble_eq_true rfl)) d_Mo_count_77 ⟨(Nat.le_of_ble_eq_true rfl), (Nat.le_of_ble_eq_true rfl)⟩) hS (fun H locs hP hS => ?_)
                  refine lv_l2i (v := r12.toInt32) hx hb d_Mo_count_80 rfl ?_
                  obtain ⟨h9, h8⟩ := Prod.mk.inj (Option.some.inj hf)
                  subst h9
                  subst h8
                  exact W.iret hx hb hr (fun t ht _ => ⟨⟨_, (), rfl, rfl, by subst ht; exact hP⟩, hS.F ht⟩) hS.2.2 d_Mo_count_81 hlk
              · replace hf := (if_pos c7).symm.trans hf
                refine lv_aload_n hx hb d_Mo_count_64 rfl (lv_at hl 0 rfl) ?_
                refine lv_iconst (v := 0) hx hb d_Mo_count_65 (by decide) ?_
                obtain ⟨r15, M_16, hc17, hf⟩ := hm_bI_some hf
                refine hq_callI (va_runV (As := [.int 0]) (rest := []) ⟨hx, hb, hml, hown, hts⟩ (c_Mo_greatest (l := l) (D := D) (ca := ca) (B := B)  hc17) (hq_cwV (nn := 1) hts mo_wd_73 mo_wd_6 mo_wd_74 mo_wd_75 mo_wd_76 (by decide +kernel) rfl rfl ⟨(Nat.le_of_ble_eq_true rfl), (Nat.le_of_ble_eq_true rfl)⟩) (hq_preV hKt hP (by decide) (mo_s_Mo (rfl)) rfl) rfl rfl hl.1 rfl (lv_room (Nat.le_of_ble_eq_true rfl)) d_Mo_count_66 ⟨(Nat.le_of_ble_eq_true rfl), (Nat.le_of_ble_eq_true rfl)⟩) hS (fun H locs hP hS => ?_)
                obtain ⟨h9, h8⟩ := Prod.mk.inj (Option.some.inj hf)
                subst h9
                subst h8
                exact W.iret hx hb hr (fun t ht _ => ⟨⟨_, (), rfl, rfl, by subst ht; exact hP⟩, hS.F ht⟩) hS.2.2 d_Mo_count_69 hlk
            · replace hf := (if_pos c6).symm.trans hf
              refine lv_aload_n hx hb d_Mo_count_54 rfl (lv_at hl 0 rfl) ?_
              obtain ⟨r18, M_19, hc20, hf⟩ := hm_bI_some hf
              refine hq_callI (va_runV (As := []) (rest := []) ⟨hx, hb, hml, hown, hts⟩ (c_Mo_tiles (l := l) (D := D) (ca := ca) (B := B)  hc20) (hq_cwV (nn := 0) hts mo_wd_55 mo_wd_6 mo_wd_56 mo_wd_57 mo_wd_58 (by decide +kernel) rfl rfl ⟨(Nat.le_of_ble_eq_true rfl), (Nat.le_of_ble_eq_true rfl)⟩) (hq_preV hKt hP (by decide) (mo_s_Mo (rfl)) rfl) rfl rfl hl.1 rfl (lv_room (Nat.le_of_ble_eq_true rfl)) d_Mo_count_55 ⟨(Nat.le_of_ble_eq_true rfl), (Nat.le_of_ble_eq_true rfl)⟩) hS (fun H locs hP hS => ?_)
              obtain ⟨h9, h8⟩ := Prod.mk.inj (Option.some.inj hf)
              subst h9
              subst h8
              exact W.iret hx hb hr (fun t ht _ => ⟨⟨_, (), rfl, rfl, by subst ht; exact hP⟩, hS.F ht⟩) hS.2.2 d_Mo_count_58 hlk
          · replace hf := (if_pos c5).symm.trans hf
            refine lv_iconst (v := 0) hx hb d_Mo_count_47 (by decide) ?_
            obtain ⟨h9, h8⟩ := Prod.mk.inj (Option.some.inj hf)
            subst h9
            subst h8
            exact W.iret hx hb hr (fun t ht _ => ⟨⟨_, (), rfl, rfl, by subst ht; exact hP⟩, hS.F ht⟩) hS.2.2 d_Mo_count_48 hlk
        · replace hf := (if_pos c4).symm.trans hf
          refine lv_aload_n hx hb d_Mo_count_27 rfl (lv_at hl 0 rfl) ?_
          refine hq_get hx hb hts i_Mo hown hK hP 0 (by decide) (mo_s_Mo (rfl)) rfl 13 (by decide) (hts _ mo_wd_1) (fun _ h => h) (v := .int (M.1 0 13)) rfl d_Mo_count_28 ?_
          refine lv_if_eq (tgt := 38) hx hb d_Mo_count_31 (by decide) (fun c21 => ?_) (fun c21 => ?_)
          · replace hf := (if_pos c21).symm.trans hf
            refine lv_iconst (v := 0) hx hb d_Mo_count_38 (by decide) ?_
            exact w_Mo_count_39 X _ _ _ _ _ (lv_sub hl [] rfl) hP hS hf
          · replace hf := (if_neg c21).symm.trans hf
            refine lv_iconst (v := 1) hx hb d_Mo_count_34 (by decide) ?_
            refine lv_goto (tgt := 39) hx hb d_Mo_count_35 (by decide) ?_
            exact w_Mo_count_39 X _ _ _ _ _ (lv_sub hl [] rfl) hP hS hf
      · replace hf := (if_neg c3).symm.trans hf
        exact w_Mo_count_20 X _ _ _ _ (lv_sub hl [] rfl) hP hS hf
  · replace hf := (if_pos c1).symm.trans hf
    refine lv_aload_n hx hb d_Mo_count_4 rfl (lv_at hl 0 rfl) ?_
    refine hq_get hx hb hts i_Mo hown hK hP 0 (by decide) (mo_s_Mo (rfl)) rfl 9 (by decide) (hts _ mo_wd_0) (fun _ h => h) (v := .int (M.1 0 9)) rfl d_Mo_count_5 ?_
    obtain ⟨h9, h8⟩ := Prod.mk.inj (Option.some.inj hf)
    subst h9
    subst h8
    exact W.iret hx hb hr (fun t ht _ => ⟨⟨_, (), rfl, rfl, by subst ht; exact hP⟩, hS.F ht⟩) hS.2.2 d_Mo_count_8 hlk
set_option maxHeartbeats 4000000 in
set_option maxRecDepth 100000 in
theorem c_Mo_count {l : Launch} {D : va_G} {ca : Nat → ClassId} {B : Nat} {r : Int32} {x1 : Int32} {M M9 : mo_M} (hf : f_Mo_count M x1 = some (r, M9)) : Met l y_Mo_count [Cond.code y_Mo_count b_Mo_count 4 (some .int)] ({ frames := 4, cells := 0, slots := 0, locals := 96 } : Room) (hq_Pre D mo_cl ca 15 (mo_sh) B (mo_ty ca) hq_tb M.1 M.2 [.ref (B + 0), .int x1]) (hq_QI D mo_cl ca 15 (mo_sh) B r M9.1 M9.2) 0 0 (hm_A B 15) := by
  refine Met.ofW (cc := b_Mo_count) (maxL := 4) (ret := (some .int)) (by decide +kernel) rfl ?_
  intro p e s m args below meth c s₁ Bd hml hv
  obtain ⟨rfl, hP, hK⟩ := hv
  have hl := lv_entry ([.ref (B + 0), .int x1]) (n := 4) (Nat.le_of_ble_eq_true rfl)
  rw [lg_entry_eq]
  generalize (lg_sl ([.ref (B + 0), .int x1]) ++ List.replicate (4 - (lg_sl ([.ref (B + 0), .int x1])).length) Slot.unset).toArray = ls at hl ⊢
  have hl : lv_has ls 4 [(0, .ref (B + 0)), (1, .int x1)] := hl
  exact w_Mo_count_e ⟨Bd.exec, Bd.bytes, hml, findClass_of_methodNamed Bd.named, Bd.returns, Bd.notSynchronized, hK⟩  _ _ _ _ _ hl hP va_S.rf hf
