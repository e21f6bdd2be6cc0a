set_option maxHeartbeats 4000000 in
set_option maxRecDepth 100000 in
theorem w_Runner_sourceValue_61 {p : Program} {l : Launch} {e : Env} {s : State} {m : MethodId} {args : Array Value} {below : List Frame} {meth : Method} {c : Code} {D : va_G} {ca : Nat → ClassId} {B rl fr lo : Nat} {r : Int32} {M9 : hm_M} {rc : hm_M → Int32 → Int32 → Option (Int32 × hm_M)} (X : hq_X p s m args meth c b_Runner_sourceValue R_Runner 3 (some .int) D sc_cl (sc_ty ca) hq_tb) (hrc : ∀ (M : hm_M) (x1 x2 r : Int32) (M9 : hm_M), rc M x1 x2 = some (r, M9) → Met l y_Runner_workOut [Cond.code y_Runner_workOut b_Runner_workOut 6 (some .int)] ({ frames := fr, cells := 0, slots := 0, locals := lo } : Room) (hq_Pre D sc_cl ca 64 (sc_sh rl) B (sc_ty ca) hq_tb M hm_L0 [.ref (B + 48), .int x1, .int x2]) (hq_QI D sc_cl ca 64 (sc_sh rl) B r M9 hm_L0) 0 0 (hm_A B 64)) : ∀ (y0 : Int32), ∀ (M : hm_M) (H : Heap) (locs : List Loc) (ls : Array Slot), lv_has ls 3 [] → hm_P D sc_cl ca 64 (sc_sh rl) B M hm_L0 H → va_S (hm_A B 64) s.heap H locs → f_Runner_sourceValue_61 rl rc y0 M = some (r, M9) → W p l e ({ frames := fr + 1, cells := 0, slots := 0, locals := lo + 25 } : Room) s m args below meth c H locs 0 0 (MQ below (hq_QI D sc_cl ca 64 (sc_sh rl) B r M9 hm_L0) args s 0 0 (hm_A B 64)) (F0 m 61 ls [.int y0]) := by
  obtain ⟨hx, hb, hml, hown, hr, hlk, hKt⟩ := id X
  have hK := hKt.1
  have hts : ∀ w ∈ hq_tb, w.before args s = true := fun w h => hKt.2.2 w h args
  intro y0 M H locs ls hl hP hS hf
  unfold f_Runner_sourceValue_61 at hf
  obtain ⟨h9, h8⟩ := Prod.mk.inj (Option.some.inj hf)
  subst h9
  subst h8
  exact W.iret hx hb hr (fun t ht _ => ⟨⟨_, (), rfl, rfl, by subst ht; exact hP⟩, hS.F ht⟩) hS.2.2 d_Runner_sourceValue_61 hlk
set_option maxHeartbeats 4000000 in
set_option maxRecDepth 100000 in
theorem w_Runner_sourceValue_e {p : Program} {l : Launch} {e : Env} {s : State} {m : MethodId} {args : Array Value} {below : List Frame} {meth : Method} {c : Code} {D : va_G} {ca : Nat → ClassId} {B rl fr lo : Nat} {r : Int32} {M9 : hm_M} {rc : hm_M → Int32 → Int32 → Option (Int32 × hm_M)} (X : hq_X p s m args meth c b_Runner_sourceValue R_Runner 3 (some .int) D sc_cl (sc_ty ca) hq_tb) (hrc : ∀ (M : hm_M) (x1 x2 r : Int32) (M9 : hm_M), rc M x1 x2 = some (r, M9) → Met l y_Runner_workOut [Cond.code y_Runner_workOut b_Runner_workOut 6 (some .int)] ({ frames := fr, cells := 0, slots := 0, locals := lo } : Room) (hq_Pre D sc_cl ca 64 (sc_sh rl) B (sc_ty ca) hq_tb M hm_L0 [.ref (B + 48), .int x1, .int x2]) (hq_QI D sc_cl ca 64 (sc_sh rl) B r M9 hm_L0) 0 0 (hm_A B 64)) : ∀ (x1 : Int32), ∀ (x2 : Int32), ∀ (M : hm_M) (H : Heap) (locs : List Loc) (ls : Array Slot), lv_has ls 3 [(0, .ref (B + 48)), (1, .int x1), (2, .int x2)] → hm_P D sc_cl ca 64 (sc_sh rl) B M hm_L0 H → va_S (hm_A B 64) s.heap H locs → f_Runner_sourceValue rl rc M x1 x2 = some (r, M9) → W p l e ({ frames := fr + 1, cells := 0, slots := 0, locals := lo + 25 } : Room) s m args below meth c H locs 0 0 (MQ below (hq_QI D sc_cl ca 64 (sc_sh rl) B r M9 hm_L0) args s 0 0 (hm_A B 64)) (F0 m 0 ls []) := by
  obtain ⟨hx, hb, hml, hown, hr, hlk, hKt⟩ := id X
  have hK := hKt.1
  have hts : ∀ w ∈ hq_tb, w.before args s = true := fun w h => hKt.2.2 w h args
  intro x1 x2 M H locs ls hl hP hS hf
  unfold f_Runner_sourceValue at hf
  refine lv_iload_n hx hb d_Runner_sourceValue_0 rfl (lv_at hl 1 rfl) ?_
  refine lv_iconst (v := (-1)) hx hb d_Runner_sourceValue_1 (by decide) ?_
  refine lv_icmp_ne (tgt := 32) hx hb d_Runner_sourceValue_2 (by decide) (fun c1 => ?_) (fun c1 => ?_)
  · replace hf := (if_neg c1).symm.trans hf
    refine lv_aload_n hx hb d_Runner_sourceValue_32 rfl (lv_at hl 0 rfl) ?_
    refine hq_get hx hb hts i_Runner hown hK hP 48 (by decide) (sc_s_Runner (rfl)) rfl 2 (by decide) (hts _ sc_wd_123) (fun _ h => h) (v := .ref (B + 53)) rfl d_Runner_sourceValue_33 ?_
    refine lv_iload_n hx hb d_Runner_sourceValue_36 rfl (lv_at hl 1 rfl) ?_
    obtain ⟨g2, hf⟩ := hm_gd_some hf
    refine hq_zald hx hb hK hP 53 (by decide) (sc_s_za8 (rfl)) 1 rfl g2 d_Runner_sourceValue_37 ?_
    refine lv_if_eq (tgt := 55) hx hb d_Runner_sourceValue_38 (by decide) (fun c3 => ?_) (fun c3 => ?_)
    · replace hf := (if_pos c3).symm.trans hf
      refine lv_aload_n hx hb d_Runner_sourceValue_55 rfl (lv_at hl 0 rfl) ?_
      refine lv_iload_n hx hb d_Runner_sourceValue_56 rfl (lv_at hl 1 rfl) ?_
      refine lv_iload_n hx hb d_Runner_sourceValue_57 rfl (lv_at hl 2 rfl) ?_
      obtain ⟨r4, M_5, hc6, hf⟩ := hm_bI_some hf
      refine hq_callI (va_runV (As := [.int x1, .int x2]) (rest := []) ⟨hx, hb, hml, hown, hts⟩ (hrc _ _ _ _ _ hc6) (hq_cwV (nn := 2) hts sc_wd_124 sc_wd_125 sc_wd_126 sc_wd_127 sc_wd_128 (by decide +kernel) rfl rfl ⟨(by show fr + 1 ≤ fr + 1; omega), (by show 8 + (6 + 11) + (lo) ≤ lo + 25; omega)⟩) (hq_preV hKt hP (by decide) (sc_s_Runner (rfl)) rfl) rfl rfl hl.1 rfl (lv_room (Nat.le_of_ble_eq_true rfl)) d_Runner_sourceValue_58 ⟨(Nat.le_of_ble_eq_true rfl), (Nat.le_of_ble_eq_true rfl)⟩) hS (fun H locs hP hS => ?_)
      exact w_Runner_sourceValue_61 X hrc _ _ _ _ _ (lv_sub hl [] rfl) hP hS hf
    · replace hf := (if_neg c3).symm.trans hf
      refine lv_aload_n hx hb d_Runner_sourceValue_41 rfl (lv_at hl 0 rfl) ?_
      refine hq_get hx hb hts i_Runner hown hK hP 48 (by decide) (sc_s_Runner (rfl)) rfl 3 (by decide) (hts _ sc_wd_129) (fun _ h => h) (v := .ref (B + 54)) rfl d_Runner_sourceValue_42 ?_
      refine lv_iload_n hx hb d_Runner_sourceValue_45 rfl (lv_at hl 1 rfl) ?_
      obtain ⟨g7, hf⟩ := hm_gd_some hf
      refine hq_aald hx hb hK hP 54 (by decide) (sc_s_grid (rfl)) 3 rfl rfl g7 d_Runner_sourceValue_46 ?_
      refine lv_iload_n hx hb d_Runner_sourceValue_47 rfl (lv_at hl 2 rfl) ?_
      refine lv_bipush (v := 28) hx hb d_Runner_sourceValue_48 (by decide) ?_
      refine lv_iadd hx hb d_Runner_sourceValue_50 ?_
      obtain ⟨g8, hf⟩ := hm_gd_some hf
      refine hq_iald hx hb hK hP (55 + x1.toNatClampNeg) (sc_lt (sck_gr g7) (by decide)) (sc_s_ia88 ((sck_gr g7))) 0 rfl g8 d_Runner_sourceValue_51 ?_
      refine lv_goto (tgt := 61) hx hb d_Runner_sourceValue_52 (by decide) ?_
      exact w_Runner_sourceValue_61 X hrc _ _ _ _ _ (lv_sub hl [] rfl) hP hS hf
  · replace hf := (if_pos c1).symm.trans hf
    refine lv_aload_n hx hb d_Runner_sourceValue_5 rfl (lv_at hl 0 rfl) ?_
    refine hq_get hx hb hts i_Runner hown hK hP 48 (by decide) (sc_s_Runner (rfl)) rfl 0 (by decide) (hts _ sc_wd_130) (fun _ h => h) (v := .ref (B + 1)) rfl d_Runner_sourceValue_6 ?_
    refine hq_getN hx hb hts i_Pipe hown hK hP 1 (by decide) (sc_s_Pipe (rfl)) rfl 0 (by decide) (hts _ sc_wd_131) (fun _ h => h) (v := .ref (B + 4)) rfl d_Runner_sourceValue_9 ?_
    refine lv_iconst (v := 0) hx hb d_Runner_sourceValue_12 (by decide) ?_
    refine lv_aload_n hx hb d_Runner_sourceValue_13 rfl (lv_at hl 0 rfl) ?_
    refine hq_get hx hb hts i_Runner hown hK hP 48 (by decide) (sc_s_Runner (rfl)) rfl 0 (by decide) (hts _ sc_wd_130) (fun _ h => h) (v := .ref (B + 1)) rfl d_Runner_sourceValue_14 ?_
    refine hq_getN hx hb hts i_Pipe hown hK hP 1 (by decide) (sc_s_Pipe (rfl)) rfl 0 (by decide) (hts _ sc_wd_131) (fun _ h => h) (v := .ref (B + 4)) rfl d_Runner_sourceValue_17 ?_
    refine hq_alen hx hb hK hP 4 (by decide) (sc_s_row (rfl)) 0 rfl (v := (nI rl)) rfl d_Runner_sourceValue_20 ?_
    refine lv_iconst (v := 1) hx hb d_Runner_sourceValue_21 (by decide) ?_
    refine lv_isub hx hb d_Runner_sourceValue_22 ?_
    refine lv_iload_n hx hb d_Runner_sourceValue_23 rfl (lv_at hl 2 rfl) ?_
    refine va_mmin hx hb (hml.trans hl.1.symm) hown (hts _ sc_wd_132) (hts _ sc_wd_3) (hts _ sc_wd_4) (hts _ sc_wd_5) (by show 1 ≤ fr + 1; omega) (by show 2 + 13 ≤ lo + 25; omega) (Nat.le_of_ble_eq_true rfl) (Nat.le_of_ble_eq_true rfl) d_Runner_sourceValue_24 ?_
    refine va_mmax hx hb (hml.trans hl.1.symm) hown (hts _ sc_wd_133) (hts _ sc_wd_8) (hts _ sc_wd_4) (hts _ sc_wd_9) (by show 1 ≤ fr + 1; omega) (by show 1 + 13 ≤ lo + 25; omega) (Nat.le_of_ble_eq_true rfl) (Nat.le_of_ble_eq_true rfl) d_Runner_sourceValue_27 ?_
    obtain ⟨g9, hf⟩ := hm_gd_some hf
    refine hq_iald hx hb hK hP 4 (by decide) (sc_s_row (rfl)) 0 rfl g9 d_Runner_sourceValue_30 ?_
    obtain ⟨h9, h8⟩ := Prod.mk.inj (Option.some.inj hf)
    subst h9
    subst h8
    exact W.iret hx hb hr (fun t ht _ => ⟨⟨_, (), rfl, rfl, by subst ht; exact hP⟩, hS.F ht⟩) hS.2.2 d_Runner_sourceValue_31 hlk
set_option maxHeartbeats 4000000 in
set_option maxRecDepth 100000 in
theorem c_Runner_sourceValue {l : Launch} {D : va_G} {ca : Nat → ClassId} {B rl : Nat} {rc : hm_M → Int32 → Int32 → Option (Int32 × hm_M)} {fr lo : Nat} (hrc : ∀ (M : hm_M) (x1 x2 r : Int32) (M9 : hm_M), rc M x1 x2 = some (r, M9) → Met l y_Runner_workOut [Cond.code y_Runner_workOut b_Runner_workOut 6 (some .int)] ({ frames := fr, cells := 0, slots := 0, locals := lo } : Room) (hq_Pre D sc_cl ca 64 (sc_sh rl) B (sc_ty ca) hq_tb M hm_L0 [.ref (B + 48), .int x1, .int x2]) (hq_QI D sc_cl ca 64 (sc_sh rl) B r M9 hm_L0) 0 0 (hm_A B 64)) {r : Int32} {x1 : Int32} {x2 : Int32} {M M9 : hm_M} (hf : f_Runner_sourceValue rl rc M x1 x2 = some (r, M9)) : Met l y_Runner_sourceValue [Cond.code y_Runner_sourceValue b_Runner_sourceValue 3 (some .int)] ({ frames := fr + 1, cells := 0, slots := 0, locals := lo + 25 } : Room) (hq_Pre D sc_cl ca 64 (sc_sh rl) B (sc_ty ca) hq_tb M hm_L0 [.ref (B + 48), .int x1, .int x2]) (hq_QI D sc_cl ca 64 (sc_sh rl) B r M9 hm_L0) 0 0 (hm_A B 64) := by
  refine Met.ofW (cc := b_Runner_sourceValue) (maxL := 3) (ret := (some .int)) (by decide +kernel) rfl ?_
  intro p e s m args below meth c s₁ Bd hml hv
  obtain ⟨rfl, hP, hK⟩ := hv
  have hl := lv_entry ([.ref (B + 48), .int x1, .int x2]) (n := 3) (Nat.le_of_ble_eq_true rfl)
  rw [lg_entry_eq]
  generalize (lg_sl ([.ref (B + 48), .int x1, .int x2]) ++ List.replicate (3 - (lg_sl ([.ref (B + 48), .int x1, .int x2])).length) Slot.unset).toArray = ls at hl ⊢
  have hl : lv_has ls 3 [(0, .ref (B + 48)), (1, .int x1), (2, .int x2)] := hl
  exact w_Runner_sourceValue_e ⟨Bd.exec, Bd.bytes, hml, findClass_of_methodNamed Bd.named, Bd.returns, Bd.notSynchronized, hK⟩ hrc _ _ _ _ _ _ hl hP va_S.rf hf
set_option maxHeartbeats 4000000 in
set_option maxRecDepth 100000 in
theorem w_Runner_workOutB_19 {p : Program} {l : Launch} {e : Env} {s : State} {m : MethodId} {args : Array Value} {below : List Frame} {meth : Method} {c : Code} {D : va_G} {ca : Nat → ClassId} {B rl fr lo : Nat} {r : Int32} {M9 : hm_M} {rc : hm_M → Int32 → Int32 → Option (Int32 × hm_M)} (X : hq_X p s m args meth c b_Runner_workOut R_Runner 6 (some .int) D sc_cl (sc_ty ca) hq_tb) (hrc : ∀ (M : hm_M) (x1 x2 r : Int32) (M9 : hm_M), rc M x1 x2 = some (r, M9) → Met l y_Runner_workOut [Cond.code y_Runner_workOut b_Runner_workOut 6 (some .int)] ({ frames := fr, cells := 0, slots := 0, locals := lo } : Room) (hq_Pre D sc_cl ca 64 (sc_sh rl) B (sc_ty ca) hq_tb M hm_L0 [.ref (B + 48), .int x1, .int x2]) (hq_QI D sc_cl ca 64 (sc_sh rl) B r M9 hm_L0) 0 0 (hm_A B 64)) : ∀ (n : Nat), ∀ (x2 : Int32), ∀ (a3 : Nat), ∀ (x4 : Int32), ∀ (x5 : Int32), sc_kd a3 = 5 → ∀ (M : hm_M) (H : Heap) (locs : List Loc) (ls : Array Slot), lv_has ls 6 [(0, .ref (B + 48)), (2, .int x2), (3, .ref (B + a3)), (4, .int x4), (5, .int x5)] → hm_P D sc_cl ca 64 (sc_sh rl) B M hm_L0 H → va_S (hm_A B 64) s.heap H locs → f_Runner_workOutB_19 rl rc n x2 a3 x4 x5 M = some (r, M9) → W p l e ({ frames := fr + 3, cells := 0, slots := 0, locals := lo + 60 } : Room) s m args below meth c H locs 0 0 (MQ below (hq_QI D sc_cl ca 64 (sc_sh rl) B r M9 hm_L0) args s 0 0 (hm_A B 64)) (F0 m 19 ls []) := by
  obtain ⟨hx, hb, hml, hown, hr, hlk, hKt⟩ := id X
  have hK := hKt.1
  have hts : ∀ w ∈ hq_tb, w.before args s = true := fun w h => hKt.2.2 w h args
  intro n
  induction n with
  | zero =>
    intro x2 a3 x4 x5 h_a3 M H locs ls hl hP hS hf
    cases hf
  | succ n ih =>
    intro x2 a3 x4 x5 h_a3 M H locs ls hl hP hS hf
    rw [f_Runner_workOutB_19] at hf
    refine lv_iload hx hb d_Runner_workOut_19 (lv_at hl 4 rfl) ?_
    refine lv_aload_n hx hb d_Runner_workOut_21 rfl (lv_at hl 2 rfl) ?_
    refine hq_getN hx hb hts i_Stage hown hK hP a3 (sc_lt h_a3 (by decide)) (sc_s_Stage (h_a3)) rfl 3 (by decide) (hts _ sc_wd_136) (fun _ h => h) (v := .int (M a3 3)) rfl d_Runner_workOut_22 ?_
    refine lv_icmp_ge (tgt := 67) hx hb d_Runner_workOut_25 (by decide) (fun c1 => ?_) (fun c1 => ?_)
    · replace hf := (if_pos c1).symm.trans hf
      refine lv_aload_n hx hb d_Runner_workOut_67 rfl (lv_at hl 2 rfl) ?_
      refine lv_iload hx hb d_Runner_workOut_68 (lv_at hl 3 rfl) ?_
      obtain ⟨r2, M_3, hc4, hf⟩ := hm_bI_some hf
      refine hq_callI (va_runVN (As := [.int x4]) (rest := []) ⟨hx, hb, hml, hown, hts⟩ (c_Stage_finished (l := l) (D := D) (ca := ca) (B := B) (rl := rl) h_a3 hc4) (hq_cwN (nn := 1) hts sc_wd_137 sc_wd_138 sc_wd_139 sc_wd_140 sc_wd_141 (by decide +kernel) rfl rfl ⟨(by show 1 + 1 ≤ fr + 3; omega), (by show 8 + (2 + 11) + (22) ≤ lo + 60; omega)⟩) (hq_preV hKt hP (sc_lt h_a3 (by decide)) (sc_s_Stage (h_a3)) rfl) rfl rfl hl.1 rfl (lv_room (Nat.le_of_ble_eq_true rfl)) d_Runner_workOut_70 ⟨(Nat.le_of_ble_eq_true rfl), (Nat.le_of_ble_eq_true rfl)⟩) hS (fun H locs hP hS => ?_)
      obtain ⟨h9, h8⟩ := Prod.mk.inj (Option.some.inj hf)
      subst h9
      subst h8
      exact W.iret hx hb hr (fun t ht _ => ⟨⟨_, (), rfl, rfl, by subst ht; exact hP⟩, hS.F ht⟩) hS.2.2 d_Runner_workOut_73 hlk
    · replace hf := (if_neg c1).symm.trans hf
      refine lv_iload hx hb d_Runner_workOut_28 (lv_at hl 3 rfl) ?_
      refine lv_aload_n hx hb d_Runner_workOut_30 rfl (lv_at hl 2 rfl) ?_
      refine hq_getN hx hb hts i_Stage hown hK hP a3 (sc_lt h_a3 (by decide)) (sc_s_Stage (h_a3)) rfl 6 (by decide) (hts _ sc_wd_142) (fun _ h => h) (v := .ref (B + (a3 + 3))) rfl d_Runner_workOut_31 ?_
      refine lv_iload hx hb d_Runner_workOut_34 (lv_at hl 4 rfl) ?_
      obtain ⟨g5, hf⟩ := hm_gd_some hf
      refine hq_iald hx hb hK hP (a3 + 3) (sc_lt (sck_Stage3 h_a3) (by decide)) (sc_s_ia4 ((sck_Stage3 h_a3))) 0 rfl g5 d_Runner_workOut_36 ?_
      refine lv_aload_n hx hb d_Runner_workOut_37 rfl (lv_at hl 0 rfl) ?_
      refine lv_aload_n hx hb d_Runner_workOut_38 rfl (lv_at hl 2 rfl) ?_
      refine hq_getN hx hb hts i_Stage hown hK hP a3 (sc_lt h_a3 (by decide)) (sc_s_Stage (h_a3)) rfl 4 (by decide) (hts _ sc_wd_143) (fun _ h => h) (v := .ref (B + (a3 + 1))) rfl d_Runner_workOut_39 ?_
      refine lv_iload hx hb d_Runner_workOut_42 (lv_at hl 4 rfl) ?_
      obtain ⟨g6, hf⟩ := hm_gd_some hf
      refine hq_iald hx hb hK hP (a3 + 1) (sc_lt (sck_Stage1 h_a3) (by decide)) (sc_s_ia4 ((sck_Stage1 h_a3))) 0 rfl g6 d_Runner_workOut_44 ?_
      refine lv_iload_n hx hb d_Runner_workOut_45 rfl (lv_at hl 1 rfl) ?_
      refine lv_aload_n hx hb d_Runner_workOut_46 rfl (lv_at hl 2 rfl) ?_
      refine hq_getN hx hb hts i_Stage hown hK hP a3 (sc_lt h_a3 (by decide)) (sc_s_Stage (h_a3)) rfl 5 (by decide) (hts _ sc_wd_144) (fun _ h => h) (v := .ref (B + (a3 + 2))) rfl d_Runner_workOut_47 ?_
      refine lv_iload hx hb d_Runner_workOut_50 (lv_at hl 4 rfl) ?_
      obtain ⟨g7, hf⟩ := hm_gd_some hf
      refine hq_iald hx hb hK hP (a3 + 2) (sc_lt (sck_Stage2 h_a3) (by decide)) (sc_s_ia4 ((sck_Stage2 h_a3))) 0 rfl g7 d_Runner_workOut_52 ?_
      refine lv_iadd hx hb d_Runner_workOut_53 ?_
      obtain ⟨r8, M_9, hc10, hf⟩ := hm_bI_some hf
      refine hq_callI (va_runV (As := [.int (M (a3 + 1) x5.toNatClampNeg), .int (x2 + (M (a3 + 2) x5.toNatClampNeg))]) (rest := [.int (M (a3 + 3) x5.toNatClampNeg), .int x4]) ⟨hx, hb, hml, hown, hts⟩ (c_Runner_sourceValue hrc (l := l) (D := D) (ca := ca) (B := B) (rl := rl)  hc10) (hq_cwV (nn := 2) hts sc_wd_145 sc_wd_125 sc_wd_146 sc_wd_147 sc_wd_148 (by decide +kernel) rfl rfl ⟨(by show fr + 1 + 1 ≤ fr + 3; omega), (by show 8 + (3 + 11) + (lo + 25) ≤ lo + 60; omega)⟩) (hq_preV hKt hP (by decide) (sc_s_Runner (rfl)) rfl) rfl rfl hl.1 rfl (lv_room (Nat.le_of_ble_eq_true rfl)) d_Runner_workOut_54 ⟨(Nat.le_of_ble_eq_true rfl), (Nat.le_of_ble_eq_true rfl)⟩) hS (fun H locs hP hS => ?_)
      refine lv_imul hx hb d_Runner_workOut_57 ?_
      refine lv_iadd hx hb d_Runner_workOut_58 ?_
      refine lv_istore (lv' := [(4, .int (x4 + ((M (a3 + 3) x5.toNatClampNeg) * r8))), (0, .ref (B + 48)), (2, .int x2), (3, .ref (B + a3)), (5, .int x5)]) hx hb d_Runner_workOut_59 hl (by decide) rfl (fun ls hl => ?_)
      refine lv_iinc (v := (x5 + 1)) (lv' := [(5, .int (x5 + 1)), (4, .int (x4 + ((M (a3 + 3) x5.toNatClampNeg) * r8))), (0, .ref (B + 48)), (2, .int x2), (3, .ref (B + a3))]) hx hb d_Runner_workOut_61 hl (k := 4) rfl rfl (by decide) rfl (fun ls hl => ?_)
      refine lv_goto (tgt := 19) hx hb d_Runner_workOut_64 (by decide) ?_
      exact ih _ _ _ _ h_a3 _ _ _ _ (lv_sub hl [2, 3, 4, 1, 0] rfl) hP hS hf
set_option maxHeartbeats 4000000 in
set_option maxRecDepth 100000 in
theorem w_Runner_workOutB_e {p : Program} {l : Launch} {e : Env} {s : State} {m : MethodId} {args : Array Value} {below : List Frame} {meth : Method} {c : Code} {D : va_G} {ca : Nat → ClassId} {B rl fr lo : Nat} {r : Int32} {M9 : hm_M} {rc : hm_M → Int32 → Int32 → Option (Int32 × hm_M)} (X : hq_X p s m args meth c b_Runner_workOut R_Runner 6 (some .int) D sc_cl (sc_ty ca) hq_tb) (hrc : ∀ (M : hm_M) (x1 x2 r : Int32) (M9 : hm_M), rc M x1 x2 = some (r, M9) → Met l y_Runner_workOut [Cond.code y_Runner_workOut b_Runner_workOut 6 (some .int)] ({ frames := fr, cells := 0, slots := 0, locals := lo } : Room) (hq_Pre D sc_cl ca 64 (sc_sh rl) B (sc_ty ca) hq_tb M hm_L0 [.ref (B + 48), .int x1, .int x2]) (hq_QI D sc_cl ca 64 (sc_sh rl) B r M9 hm_L0) 0 0 (hm_A B 64)) : ∀ (x1 : Int32), ∀ (x2 : Int32), ∀ (M : hm_M) (H : Heap) (locs : List Loc) (ls : Array Slot), lv_has ls 6 [(0, .ref (B + 48)), (1, .int x1), (2, .int x2)] → hm_P D sc_cl ca 64 (sc_sh rl) B M hm_L0 H → va_S (hm_A B 64) s.heap H locs → f_Runner_workOutB rl rc M x1 x2 = some (r, M9) → W p l e ({ frames := fr + 3, cells := 0, slots := 0, locals := lo + 60 } : Room) s m args below meth c H locs 0 0 (MQ below (hq_QI D sc_cl ca 64 (sc_sh rl) B r M9 hm_L0) args s 0 0 (hm_A B 64)) (F0 m 0 ls []) := by
  obtain ⟨hx, hb, hml, hown, hr, hlk, hKt⟩ := id X
  have hK := hKt.1
  have hts : ∀ w ∈ hq_tb, w.before args s = true := fun w h => hKt.2.2 w h args
  intro x1 x2 M H locs ls hl hP hS hf
  unfold f_Runner_workOutB at hf
  refine lv_aload_n hx hb d_Runner_workOut_0 rfl (lv_at hl 0 rfl) ?_
  refine hq_get hx hb hts i_Runner hown hK hP 48 (by decide) (sc_s_Runner (rfl)) rfl 0 (by decide) (hts _ sc_wd_130) (fun _ h => h) (v := .ref (B + 1)) rfl d_Runner_workOut_1 ?_
  refine hq_getN hx hb hts i_Pipe hown hK hP 1 (by decide) (sc_s_Pipe (rfl)) rfl 1 (by decide) (hts _ sc_wd_134) (fun _ h => h) (v := .ref (B + 2)) rfl d_Runner_workOut_4 ?_
  refine lv_iload_n hx hb d_Runner_workOut_7 rfl (lv_at hl 1 rfl) ?_
  obtain ⟨g1, hf⟩ := hm_gd_some hf
  refine hq_aald hx hb hK hP 2 (by decide) (sc_s_starr (rfl)) 2 rfl rfl g1 d_Runner_workOut_8 ?_
  refine lv_astore_n (lv' := [(3, .ref (B + (5 + 4 * x1.toNatClampNeg))), (0, .ref (B + 48)), (1, .int x1), (2, .int x2)]) hx hb d_Runner_workOut_9 rfl hl (by decide) rfl (fun ls hl => ?_)
  refine lv_aload_n hx hb d_Runner_workOut_10 rfl (lv_at hl 0 rfl) ?_
  refine hq_getN hx hb hts i_Stage hown hK hP (5 + 4 * x1.toNatClampNeg) (sc_lt (sck_st g1) (by decide)) (sc_s_Stage ((sck_st g1))) rfl 0 (by decide) (hts _ sc_wd_135) (fun _ h => h) (v := .int (M (5 + 4 * x1.toNatClampNeg) 0)) rfl d_Runner_workOut_11 ?_
  refine lv_istore (lv' := [(4, .int (M (5 + 4 * x1.toNatClampNeg) 0)), (3, .ref (B + (5 + 4 * x1.toNatClampNeg))), (0, .ref (B + 48)), (1, .int x1), (2, .int x2)]) hx hb d_Runner_workOut_14 hl (by decide) rfl (fun ls hl => ?_)
  refine lv_iconst (v := 0) hx hb d_Runner_workOut_16 (by decide) ?_
  refine lv_istore (lv' := [(5, .int 0), (4, .int (M (5 + 4 * x1.toNatClampNeg) 0)), (3, .ref (B + (5 + 4 * x1.toNatClampNeg))), (0, .ref (B + 48)), (1, .int x1), (2, .int x2)]) hx hb d_Runner_workOut_17 hl (by decide) rfl (fun ls hl => ?_)
  exact w_Runner_workOutB_19 X hrc _ _ _ _ _ (sck_st g1) _ _ _ _ (lv_sub hl [3, 5, 2, 1, 0] rfl) hP hS hf
set_option maxHeartbeats 4000000 in
set_option maxRecDepth 100000 in
theorem c_Runner_workOutB {l : Launch} {D : va_G} {ca : Nat → ClassId} {B rl : Nat} {rc : hm_M → Int32 → Int32 → Option (Int32 × hm_M)} {fr lo : Nat} (hrc : ∀ (M : hm_M) (x1 x2 r : Int32) (M9 : hm_M), rc M x1 x2 = some (r, M9) → Met l y_Runner_workOut [Cond.code y_Runner_workOut b_Runner_workOut 6 (some .int)] ({ frames := fr, cells := 0, slots := 0, locals := lo } : Room) (hq_Pre D sc_cl ca 64 (sc_sh rl) B (sc_ty ca) hq_tb M hm_L0 [.ref (B + 48), .int x1, .int x2]) (hq_QI D sc_cl ca 64 (sc_sh rl) B r M9 hm_L0) 0 0 (hm_A B 64)) {r : Int32} {x1 : Int32} {x2 : Int32} {M M9 : hm_M} (hf : f_Runner_workOutB rl rc M x1 x2 = some (r, M9)) : Met l y_Runner_workOut [Cond.code y_Runner_workOut b_Runner_workOut 6 (some .int)] ({ frames := fr + 3, cells := 0, slots := 0, locals := lo + 60 } : Room) (hq_Pre D sc_cl ca 64 (sc_sh rl) B (sc_ty ca) hq_tb M hm_L0 [.ref (B + 48), .int x1, .int x2]) (hq_QI D sc_cl ca 64 (sc_sh rl) B r M9 hm_L0) 0 0 (hm_A B 64) := by
  refine Met.ofW (cc := b_Runner_workOut) (maxL := 6) (ret := (some .int)) (by decide +kernel) rfl ?_
  intro p e s m args below meth c s₁ Bd hml hv
  obtain ⟨rfl, hP, hK⟩ := hv
  have hl := lv_entry ([.ref (B + 48), .int x1, .int x2]) (n := 6) (Nat.le_of_ble_eq_true rfl)
  rw [lg_entry_eq]
  generalize (lg_sl ([.ref (B + 48), .int x1, .int x2]) ++ List.replicate (6 - (lg_sl ([.ref (B + 48), .int x1, .int x2])).length) Slot.unset).toArray = ls at hl ⊢
  have hl : lv_has ls 6 [(0, .ref (B + 48)), (1, .int x1), (2, .int x2)] := hl
  exact w_Runner_workOutB_e ⟨Bd.exec, Bd.bytes, hml, findClass_of_methodNamed Bd.named, Bd.returns, Bd.notSynchronized, hK⟩ hrc _ _ _ _ _ _ hl hP va_S.rf hf
def sc_rf : Nat → Nat
  | 0 => 0
  | n + 1 => sc_rf n + 3
def sc_rl : Nat → Nat
  | 0 => 0
  | n + 1 => sc_rl n + 60
set_option maxHeartbeats 4000000 in
theorem c_Runner_workOutN {l : Launch} {D : va_G} {ca : Nat → ClassId} {B rl : Nat} : ∀ (n : Nat), ∀ (M : hm_M) (x1 x2 r : Int32) (M9 : hm_M), f_Runner_workOut rl n M x1 x2 = some (r, M9) → Met l y_Runner_workOut [Cond.code y_Runner_workOut b_Runner_workOut 6 (some .int)] ({ frames := sc_rf n, cells := 0, slots := 0, locals := sc_rl n } : Room) (hq_Pre D sc_cl ca 64 (sc_sh rl) B (sc_ty ca) hq_tb M hm_L0 [.ref (B + 48), .int x1, .int x2]) (hq_QI D sc_cl ca 64 (sc_sh rl) B r M9 hm_L0) 0 0 (hm_A B 64) := by
  intro n
  induction n with
  | zero =>
    intro M x1 x2 r M9 hf
    cases hf
  | succ n ih =>
    intro M x1 x2 r M9 hf
    exact c_Runner_workOutB (fr := sc_rf n) (lo := sc_rl n) ih hf
theorem c_Runner_workOut {l : Launch} {D : va_G} {ca : Nat → ClassId} {B rl : Nat} {M : hm_M} {x1 x2 r : Int32} {M9 : hm_M} (hf : f_Runner_workOut rl 9 M x1 x2 = some (r, M9)) : Met l y_Runner_workOut [Cond.code y_Runner_workOut b_Runner_workOut 6 (some .int)] ({ frames := 27, cells := 0, slots := 0, locals := 540 } : Room) (hq_Pre D sc_cl ca 64 (sc_sh rl) B (sc_ty ca) hq_tb M hm_L0 [.ref (B + 48), .int x1, .int x2]) (hq_QI D sc_cl ca 64 (sc_sh rl) B r M9 hm_L0) 0 0 (hm_A B 64) := c_Runner_workOutN 9 M x1 x2 r M9 hf
set_option maxHeartbeats 4000000 in
set_option maxRecDepth 100000 in
theorem w_Runner_release_48 {p : Program} {l : Launch} {e : Env} {s : State} {m : MethodId} {args : Array Value} {below : List Frame} {meth : Method} {c : Code} {D : va_G} {ca : Nat → ClassId} {B rl : Nat} {M9 : hm_M} (X : hq_X p s m args meth c b_Runner_release R_Runner 3 none D sc_cl (sc_ty ca) hq_tb) {k2 : Int32 → Int32 → hm_M → Option hm_M} (hk2 : ∀ (x1 : Int32), ∀ (x2 : Int32), ∀ (M : hm_M) (H : Heap) (locs : List Loc) (ls : Array Slot), lv_has ls 3 [(0, .ref (B + 48)), (1, .int x1), (2, .int x2)] → hm_P D sc_cl ca 64 (sc_sh rl) B M hm_L0 H → va_S (hm_A B 64) s.heap H locs → k2 x1 x2 M = some M9 → W p l e ({ frames := 0, cells := 0, slots := 0, locals := 0 } : Room) s m args below meth c H locs 0 0 (MQ below (hq_QV D sc_cl ca 64 (sc_sh rl) B M9 hm_L0) args s 0 0 (hm_A B 64)) (F0 m 2 ls [])) : ∀ (x1 : Int32), ∀ (x2 : Int32), ∀ (y1 : Int32), ∀ (y2 : Int32), ∀ (M : hm_M) (H : Heap) (locs : List Loc) (ls : Array Slot), lv_has ls 3 [(0, .ref (B + 48)), (1, .int x1), (2, .int x2)] → hm_P D sc_cl ca 64 (sc_sh rl) B M hm_L0 H → va_S (hm_A B 64) s.heap H locs → f_Runner_release_48 k2 x1 x2 y1 y2 M = some M9 → W p l e ({ frames := 0, cells := 0, slots := 0, locals := 0 } : Room) s m args below meth c H locs 0 0 (MQ below (hq_QV D sc_cl ca 64 (sc_sh rl) B M9 hm_L0) args s 0 0 (hm_A B 64)) (F0 m 48 ls [.int y2, .int y1, .ref (B + 53)]) := by
  obtain ⟨hx, hb, hml, hown, hr, hlk, hKt⟩ := id X
  have hK := hKt.1
  have hts : ∀ w ∈ hq_tb, w.before args s = true := fun w h => hKt.2.2 w h args
  intro x1 x2 y1 y2 M H locs ls hl hP hS hf
  unfold f_Runner_release_48 at hf
  obtain ⟨g1, hf⟩ := hm_gd_some hf
  obtain ⟨g2, hf⟩ := hm_gd_some hf
  refine hq_zast hx hb hK hP hS 53 (by decide) (sc_s_za8 (rfl)) 1 rfl g1 (of_decide_eq_true g2) d_Runner_release_48 (fun H locs hP hS => ?_)
  obtain ⟨M_3, e_3, hf⟩ := hm_st_some hf
  rw [← e_3] at hP
  refine lv_iinc (v := (x2 + 1)) (lv' := [(2, .int (x2 + 1)), (0, .ref (B + 48)), (1, .int x1)]) hx hb d_Runner_release_49 hl (k := 2) rfl rfl (by decide) rfl (fun ls hl => ?_)
  refine lv_goto (tgt := 2) hx hb d_Runner_release_52 (by decide) ?_
  exact hk2 _ _ _ _ _ _ (lv_sub hl [1, 2, 0] rfl) hP hS hf
set_option maxHeartbeats 4000000 in
set_option maxRecDepth 100000 in
theorem w_Runner_release_47 {p : Program} {l : Launch} {e : Env} {s : State} {m : MethodId} {args : Array Value} {below : List Frame} {meth : Method} {c : Code} {D : va_G} {ca : Nat → ClassId} {B rl : Nat} {M9 : hm_M} (X : hq_X p s m args meth c b_Runner_release R_Runner 3 none D sc_cl (sc_ty ca) hq_tb) {k2 : Int32 → Int32 → hm_M → Option hm_M} (hk2 : ∀ (x1 : Int32), ∀ (x2 : Int32), ∀ (M : hm_M) (H : Heap) (locs : List Loc) (ls : Array Slot), lv_has ls 3 [(0, .ref (B + 48)), (1, .int x1), (2, .int x2)] → hm_P D sc_cl ca 64 (sc_sh rl) B M hm_L0 H → va_S (hm_A B 64) s.heap H locs → k2 x1 x2 M = some M9 → W p l e ({ frames := 0, cells := 0, slots := 0, locals := 0 } : Room) s m args below meth c H locs 0 0 (MQ below (hq_QV D sc_cl ca 64 (sc_sh rl) B M9 hm_L0) args s 0 0 (hm_A B 64)) (F0 m 2 ls [])) : ∀ (x1 : Int32), ∀ (x2 : Int32), ∀ (y1 : Int32), ∀ (M : hm_M) (H : Heap) (locs : List Loc) (ls : Array Slot), lv_has ls 3 [(0, .ref (B + 48)), (1, .int x1), (2, .int x2)] → hm_P D sc_cl ca 64 (sc_sh rl) B M hm_L0 H → va_S (hm_A B 64) s.heap H locs → f_Runner_release_47 k2 x1 x2 y1 M = some M9 → W p l e ({ frames := 0, cells := 0, slots := 0, locals := 0 } : Room) s m args below meth c H locs 0 0 (MQ below (hq_QV D sc_cl ca 64 (sc_sh rl) B M9 hm_L0) args s 0 0 (hm_A B 64)) (F0 m 47 ls [.int y1, .ref (B + 53)]) := by
  obtain ⟨hx, hb, hml, hown, hr, hlk, hKt⟩ := id X
  have hK := hKt.1
  have hts : ∀ w ∈ hq_tb, w.before args s = true := fun w h => hKt.2.2 w h args
  intro x1 x2 y1 M H locs ls hl hP hS hf
  unfold f_Runner_release_47 at hf
  refine lv_iconst (v := 0) hx hb d_Runner_release_47 (by decide) ?_
  exact w_Runner_release_48 X hk2 _ _ _ _ _ _ _ _ (lv_sub hl [0, 1, 2] rfl) hP hS hf
set_option maxHeartbeats 4000000 in
set_option maxRecDepth 100000 in
theorem w_Runner_release_2 {p : Program} {l : Launch} {e : Env} {s : State} {m : MethodId} {args : Array Value} {below : List Frame} {meth : Method} {c : Code} {D : va_G} {ca : Nat → ClassId} {B rl : Nat} {M9 : hm_M} (X : hq_X p s m args meth c b_Runner_release R_Runner 3 none D sc_cl (sc_ty ca) hq_tb) : ∀ (n : Nat), ∀ (x1 : Int32), ∀ (x2 : Int32), ∀ (M : hm_M) (H : Heap) (locs : List Loc) (ls : Array Slot), lv_has ls 3 [(0, .ref (B + 48)), (1, .int x1), (2, .int x2)] → hm_P D sc_cl ca 64 (sc_sh rl) B M hm_L0 H → va_S (hm_A B 64) s.heap H locs → f_Runner_release_2 n x1 x2 M = some M9 → W p l e ({ frames := 0, cells := 0, slots := 0, locals := 0 } : Room) s m args below meth c H locs 0 0 (MQ below (hq_QV D sc_cl ca 64 (sc_sh rl) B M9 hm_L0) args s 0 0 (hm_A B 64)) (F0 m 2 ls []) := by
  obtain ⟨hx, hb, hml, hown, hr, hlk, hKt⟩ := id X
  have hK := hKt.1
  have hts : ∀ w ∈ hq_tb, w.before args s = true := fun w h => hKt.2.2 w h args
  intro n
  induction n with
  | zero =>
    intro x1 x2 M H locs ls hl hP hS hf
    cases hf
  | succ n ih =>
    intro x1 x2 M H locs ls hl hP hS hf
    rw [f_Runner_release_2] at hf
    refine lv_iload_n hx hb d_Runner_release_2 rfl (lv_at hl 2 rfl) ?_
    refine lv_aload_n hx hb d_Runner_release_3 rfl (lv_at hl 0 rfl) ?_
    refine hq_get hx hb hts i_Runner hown hK hP 48 (by decide) (sc_s_Runner (rfl)) rfl 0 (by decide) (hts _ sc_wd_130) (fun _ h => h) (v := .ref (B + 1)) rfl d_Runner_release_4 ?_
    refine hq_getN hx hb hts i_Pipe hown hK hP 1 (by decide) (sc_s_Pipe (rfl)) rfl 5 (by decide) (hts _ sc_wd_149) (fun _ h => h) (v := .int (M 1 5)) rfl d_Runner_release_7 ?_
    refine lv_icmp_ge (tgt := 55) hx hb d_Runner_release_10 (by decide) (fun c1 => ?_) (fun c1 => ?_)
    · replace hf := (if_pos c1).symm.trans hf
      have h8 := Option.some.inj hf
      subst h8
      exact W.vret hx hb hr (fun t ht _ => ⟨⟨(), rfl, trivial, by subst ht; exact hP⟩, hS.F ht⟩) hS.2.2 d_Runner_release_55 hlk
    · replace hf := (if_neg c1).symm.trans hf
      refine lv_aload_n hx hb d_Runner_release_13 rfl (lv_at hl 0 rfl) ?_
      refine hq_get hx hb hts i_Runner hown hK hP 48 (by decide) (sc_s_Runner (rfl)) rfl 2 (by decide) (hts _ sc_wd_123) (fun _ h => h) (v := .ref (B + 53)) rfl d_Runner_release_14 ?_
      refine lv_iload_n hx hb d_Runner_release_17 rfl (lv_at hl 2 rfl) ?_
      refine lv_aload_n hx hb d_Runner_release_18 rfl (lv_at hl 0 rfl) ?_
      refine hq_get hx hb hts i_Runner hown hK hP 48 (by decide) (sc_s_Runner (rfl)) rfl 2 (by decide) (hts _ sc_wd_123) (fun _ h => h) (v := .ref (B + 53)) rfl d_Runner_release_19 ?_
      refine lv_iload_n hx hb d_Runner_release_22 rfl (lv_at hl 2 rfl) ?_
      obtain ⟨g2, hf⟩ := hm_gd_some hf
      refine hq_zald hx hb hK hP 53 (by decide) (sc_s_za8 (rfl)) 1 rfl g2 d_Runner_release_23 ?_
      refine lv_if_eq (tgt := 47) hx hb d_Runner_release_24 (by decide) (fun c3 => ?_) (fun c3 => ?_)
      · replace hf := (if_pos c3).symm.trans hf
        exact w_Runner_release_47 X ih _ _ _ _ _ _ _ (lv_sub hl [0, 1, 2] rfl) hP hS hf
      · replace hf := (if_neg c3).symm.trans hf
        refine lv_aload_n hx hb d_Runner_release_27 rfl (lv_at hl 0 rfl) ?_
        refine hq_get hx hb hts i_Runner hown hK hP 48 (by decide) (sc_s_Runner (rfl)) rfl 0 (by decide) (hts _ sc_wd_130) (fun _ h => h) (v := .ref (B + 1)) rfl d_Runner_release_28 ?_
        refine hq_getN hx hb hts i_Pipe hown hK hP 1 (by decide) (sc_s_Pipe (rfl)) rfl 1 (by decide) (hts _ sc_wd_134) (fun _ h => h) (v := .ref (B + 2)) rfl d_Runner_release_31 ?_
        refine lv_iload_n hx hb d_Runner_release_34 rfl (lv_at hl 2 rfl) ?_
        obtain ⟨g4, hf⟩ := hm_gd_some hf
        refine hq_aald hx hb hK hP 2 (by decide) (sc_s_starr (rfl)) 2 rfl rfl g4 d_Runner_release_35 ?_
        refine hq_getN hx hb hts i_Stage hown hK hP (5 + 4 * x2.toNatClampNeg) (sc_lt (sck_st g4) (by decide)) (sc_s_Stage ((sck_st g4))) rfl 2 (by decide) (hts _ sc_wd_150) (fun _ h => h) (v := .int (M (5 + 4 * x2.toNatClampNeg) 2)) rfl d_Runner_release_36 ?_
        refine lv_iload_n hx hb d_Runner_release_39 rfl (lv_at hl 1 rfl) ?_
        refine lv_icmp_eq (tgt := 47) hx hb d_Runner_release_40 (by decide) (fun c5 => ?_) (fun c5 => ?_)
        · replace hf := (if_pos c5).symm.trans hf
          exact w_Runner_release_47 X ih _ _ _ _ _ _ _ (lv_sub hl [0, 1, 2] rfl) hP hS hf
        · replace hf := (if_neg c5).symm.trans hf
          refine lv_iconst (v := 1) hx hb d_Runner_release_43 (by decide) ?_
          refine lv_goto (tgt := 48) hx hb d_Runner_release_44 (by decide) ?_
          exact w_Runner_release_48 X ih _ _ _ _ _ _ _ _ (lv_sub hl [0, 1, 2] rfl) hP hS hf
set_option maxHeartbeats 4000000 in
set_option maxRecDepth 100000 in
theorem w_Runner_release_e {p : Program} {l : Launch} {e : Env} {s : State} {m : MethodId} {args : Array Value} {below : List Frame} {meth : Method} {c : Code} {D : va_G} {ca : Nat → ClassId} {B rl : Nat} {M9 : hm_M} (X : hq_X p s m args meth c b_Runner_release R_Runner 3 none D sc_cl (sc_ty ca) hq_tb) : ∀ (x1 : Int32), ∀ (M : hm_M) (H : Heap) (locs : List Loc) (ls : Array Slot), lv_has ls 3 [(0, .ref (B + 48)), (1, .int x1)] → hm_P D sc_cl ca 64 (sc_sh rl) B M hm_L0 H → va_S (hm_A B 64) s.heap H locs → f_Runner_release M x1 = some M9 → W p l e ({ frames := 0, cells := 0, slots := 0, locals := 0 } : Room) s m args below meth c H locs 0 0 (MQ below (hq_QV D sc_cl ca 64 (sc_sh rl) B M9 hm_L0) args s 0 0 (hm_A B 64)) (F0 m 0 ls []) := by
  obtain ⟨hx, hb, hml, hown, hr, hlk, hKt⟩ := id X
  have hK := hKt.1
  have hts : ∀ w ∈ hq_tb, w.before args s = true := fun w h => hKt.2.2 w h args
  intro x1 M H locs ls hl hP hS hf
  unfold f_Runner_release at hf
  refine lv_iconst (v := 0) hx hb d_Runner_release_0 (by decide) ?_
  refine lv_istore_n (lv' := [(2, .int 0), (0, .ref (B + 48)), (1, .int x1)]) hx hb d_Runner_release_1 rfl hl (by decide) rfl (fun ls hl => ?_)
  exact w_Runner_release_2 X _ _ _ _ _ _ _ (lv_sub hl [1, 2, 0] rfl) hP hS hf
set_option maxHeartbeats 4000000 in
set_option maxRecDepth 100000 in
theorem c_Runner_release {l : Launch} {D : va_G} {ca : Nat → ClassId} {B rl : Nat} {x1 : Int32} {M M9 : hm_M} (hf : f_Runner_release M x1 = some M9) : Met l y_Runner_release [Cond.code y_Runner_release b_Runner_release 3 none] ({ frames := 0, cells := 0, slots := 0, locals := 0 } : Room) (hq_Pre D sc_cl ca 64 (sc_sh rl) B (sc_ty ca) hq_tb M hm_L0 [.ref (B + 48), .int x1]) (hq_QV D sc_cl ca 64 (sc_sh rl) B M9 hm_L0) 0 0 (hm_A B 64) := by
  refine Met.ofW (cc := b_Runner_release) (maxL := 3) (ret := none) (by decide +kernel) rfl ?_
  intro p e s m args below meth c s₁ Bd hml hv
  obtain ⟨rfl, hP, hK⟩ := hv
  have hl := lv_entry ([.ref (B + 48), .int x1]) (n := 3) (Nat.le_of_ble_eq_true rfl)
  rw [lg_entry_eq]
  generalize (lg_sl ([.ref (B + 48), .int x1]) ++ List.replicate (3 - (lg_sl ([.ref (B + 48), .int x1])).length) Slot.unset).toArray = ls at hl ⊢
  have hl : lv_has ls 3 [(0, .ref (B + 48)), (1, .int x1)] := hl
  exact w_Runner_release_e ⟨Bd.exec, Bd.bytes, hml, findClass_of_methodNamed Bd.named, Bd.returns, Bd.notSynchronized, hK⟩  _ _ _ _ _ hl hP va_S.rf hf
set_option maxHeartbeats 4000000 in
set_option maxRecDepth 100000 in
theorem w_Runner_keep_92 {p : Program} {l : Launch} {e : Env} {s : State} {m : MethodId} {args : Array Value} {below : List Frame} {meth : Method} {c : Code} {D : va_G} {ca : Nat → ClassId} {B rl : Nat} {M9 : hm_M} (X : hq_X p s m args meth c b_Runner_keep R_Runner 5 none D sc_cl (sc_ty ca) hq_tb) {k2 : Nat → Int32 → Int32 → hm_M → Option hm_M} (hk2 : ∀ (a1 : Nat), ∀ (x2 : Int32), ∀ (x3 : Int32), sc_kd a1 = 8 → ∀ (M : hm_M) (H : Heap) (locs : List Loc) (ls : Array Slot), lv_has ls 5 [(0, .ref (B + 48)), (1, .ref (B + a1)), (2, .int x2), (3, .int x3)] → hm_P D sc_cl ca 64 (sc_sh rl) B M hm_L0 H → va_S (hm_A B 64) s.heap H locs → k2 a1 x2 x3 M = some M9 → W p l e ({ frames := 28, cells := 0, slots := 0, locals := 565 } : Room) s m args below meth c H locs 0 0 (MQ below (hq_QV D sc_cl ca 64 (sc_sh rl) B M9 hm_L0) args s 0 0 (hm_A B 64)) (F0 m 2 ls [])) : ∀ (a1 : Nat), ∀ (x2 : Int32), ∀ (x3 : Int32), sc_kd a1 = 8 → ∀ (M : hm_M) (H : Heap) (locs : List Loc) (ls : Array Slot), lv_has ls 5 [(0, .ref (B + 48)), (1, .ref (B + a1)), (2, .int x2), (3, .int x3)] → hm_P D sc_cl ca 64 (sc_sh rl) B M hm_L0 H → va_S (hm_A B 64) s.heap H locs → f_Runner_keep_92 rl k2 a1 x2 x3 M = some M9 → W p l e ({ frames := 28, cells := 0, slots := 0, locals := 565 } : Room) s m args below meth c H locs 0 0 (MQ below (hq_QV D sc_cl ca 64 (sc_sh rl) B M9 hm_L0) args s 0 0 (hm_A B 64)) (F0 m 92 ls []) := by
  obtain ⟨hx, hb, hml, hown, hr, hlk, hKt⟩ := id X
  have hK := hKt.1
  have hts : ∀ w ∈ hq_tb, w.before args s = true := fun w h => hKt.2.2 w h args
  intro a1 x2 x3 h_a1 M H locs ls hl hP hS hf
  unfold f_Runner_keep_92 at hf
  refine lv_iinc (v := (x3 + 1)) (lv' := [(3, .int (x3 + 1)), (0, .ref (B + 48)), (1, .ref (B + a1)), (2, .int x2)]) hx hb d_Runner_keep_92 hl (k := 3) rfl rfl (by decide) rfl (fun ls hl => ?_)
  refine lv_goto (tgt := 2) hx hb d_Runner_keep_95 (by decide) ?_
  exact hk2 _ _ _ h_a1 _ _ _ _ (lv_sub hl [1, 2, 3, 0] rfl) hP hS hf
set_option maxHeartbeats 4000000 in
set_option maxRecDepth 100000 in
theorem w_Runner_keep_49 {p : Program} {l : Launch} {e : Env} {s : State} {m : MethodId} {args : Array Value} {below : List Frame} {meth : Method} {c : Code} {D : va_G} {ca : Nat → ClassId} {B rl : Nat} {M9 : hm_M} (X : hq_X p s m args meth c b_Runner_keep R_Runner 5 none D sc_cl (sc_ty ca) hq_tb) {k2 : Nat → Int32 → Int32 → hm_M → Option hm_M} (hk2 : ∀ (a1 : Nat), ∀ (x2 : Int32), ∀ (x3 : Int32), sc_kd a1 = 8 → ∀ (M : hm_M) (H : Heap) (locs : List Loc) (ls : Array Slot), lv_has ls 5 [(0, .ref (B + 48)), (1, .ref (B + a1)), (2, .int x2), (3, .int x3)] → hm_P D sc_cl ca 64 (sc_sh rl) B M hm_L0 H → va_S (hm_A B 64) s.heap H locs → k2 a1 x2 x3 M = some M9 → W p l e ({ frames := 28, cells := 0, slots := 0, locals := 565 } : Room) s m args below meth c H locs 0 0 (MQ below (hq_QV D sc_cl ca 64 (sc_sh rl) B M9 hm_L0) args s 0 0 (hm_A B 64)) (F0 m 2 ls [])) : ∀ (n : Nat), ∀ (a1 : Nat), ∀ (x2 : Int32), ∀ (x3 : Int32), ∀ (x4 : Int32), sc_kd a1 = 8 → ∀ (M : hm_M) (H : Heap) (locs : List Loc) (ls : Array Slot), lv_has ls 5 [(0, .ref (B + 48)), (1, .ref (B + a1)), (2, .int x2), (3, .int x3), (4, .int x4)] → hm_P D sc_cl ca 64 (sc_sh rl) B M hm_L0 H → va_S (hm_A B 64) s.heap H locs → f_Runner_keep_49 rl k2 n a1 x2 x3 x4 M = some M9 → W p l e ({ frames := 28, cells := 0, slots := 0, locals := 565 } : Room) s m args below meth c H locs 0 0 (MQ below (hq_QV D sc_cl ca 64 (sc_sh rl) B M9 hm_L0) args s 0 0 (hm_A B 64)) (F0 m 49 ls []) := by
  obtain ⟨hx, hb, hml, hown, hr, hlk, hKt⟩ := id X
  have hK := hKt.1
  have hts : ∀ w ∈ hq_tb, w.before args s = true := fun w h => hKt.2.2 w h args
  intro n
  induction n with
  | zero =>
    intro a1 x2 x3 x4 h_a1 M H locs ls hl hP hS hf
    cases hf
  | succ n ih =>
    intro a1 x2 x3 x4 h_a1 M H locs ls hl hP hS hf
    rw [f_Runner_keep_49] at hf
    refine lv_iload hx hb d_Runner_keep_49 (lv_at hl 4 rfl) ?_
    refine lv_aload_n hx hb d_Runner_keep_51 rfl (lv_at hl 1 rfl) ?_
    refine hq_getN hx hb hts i_Needs hown hK hP a1 (sc_lt h_a1 (by decide)) (sc_s_Needs (h_a1)) rfl 2 (by decide) (hts _ sc_wd_153) (fun _ h => h) (v := .ref (B + (a1 + 3))) rfl d_Runner_keep_52 ?_
    refine lv_iload_n hx hb d_Runner_keep_55 rfl (lv_at hl 3 rfl) ?_
    obtain ⟨g1, hf⟩ := hm_gd_some hf
    refine hq_iald hx hb hK hP (a1 + 3) (sc_lt (sck_Needs3 h_a1) (by decide)) (sc_s_ia8 ((sck_Needs3 h_a1))) 0 rfl g1 d_Runner_keep_56 ?_
    refine lv_icmp_gt (tgt := 85) hx hb d_Runner_keep_57 (by decide) (fun c2 => ?_) (fun c2 => ?_)
    · replace hf := (if_pos c2).symm.trans hf
      refine lv_aload_n hx hb d_Runner_keep_85 rfl (lv_at hl 0 rfl) ?_
      refine hq_get hx hb hts i_Runner hown hK hP 48 (by decide) (sc_s_Runner (rfl)) rfl 2 (by decide) (hts _ sc_wd_123) (fun _ h => h) (v := .ref (B + 53)) rfl d_Runner_keep_86 ?_
      refine lv_iload_n hx hb d_Runner_keep_89 rfl (lv_at hl 3 rfl) ?_
      refine lv_iconst (v := 1) hx hb d_Runner_keep_90 (by decide) ?_
      obtain ⟨g3, hf⟩ := hm_gd_some hf
      refine hq_zast hx hb hK hP hS 53 (by decide) (sc_s_za8 (rfl)) 1 rfl g3 (Or.inr rfl) d_Runner_keep_91 (fun H locs hP hS => ?_)
      obtain ⟨M_4, e_4, hf⟩ := hm_st_some hf
      rw [← e_4] at hP
      exact w_Runner_keep_92 X hk2 _ _ _ h_a1 _ _ _ _ (lv_sub hl [0, 1, 2, 3] rfl) hP hS hf
    · replace hf := (if_neg c2).symm.trans hf
      refine lv_aload_n hx hb d_Runner_keep_60 rfl (lv_at hl 0 rfl) ?_
      refine hq_get hx hb hts i_Runner hown hK hP 48 (by decide) (sc_s_Runner (rfl)) rfl 3 (by decide) (hts _ sc_wd_129) (fun _ h => h) (v := .ref (B + 54)) rfl d_Runner_keep_61 ?_
      refine lv_iload_n hx hb d_Runner_keep_64 rfl (lv_at hl 3 rfl) ?_
      obtain ⟨g5, hf⟩ := hm_gd_some hf
      refine hq_aald hx hb hK hP 54 (by decide) (sc_s_grid (rfl)) 3 rfl rfl g5 d_Runner_keep_65 ?_
      refine lv_iload hx hb d_Runner_keep_66 (lv_at hl 4 rfl) ?_
      refine lv_bipush (v := 28) hx hb d_Runner_keep_68 (by decide) ?_
      refine lv_iadd hx hb d_Runner_keep_70 ?_
      refine lv_aload_n hx hb d_Runner_keep_71 rfl (lv_at hl 0 rfl) ?_
      refine lv_iload_n hx hb d_Runner_keep_72 rfl (lv_at hl 3 rfl) ?_
      refine lv_iload hx hb d_Runner_keep_73 (lv_at hl 4 rfl) ?_
      obtain ⟨r6, M_7, hc8, hf⟩ := hm_bI_some hf
      refine hq_callI (va_runV (As := [.int x3, .int x4]) (rest := [.int (x4 + 28), .ref (B + (55 + x3.toNatClampNeg))]) ⟨hx, hb, hml, hown, hts⟩ (c_Runner_workOut (l := l) (D := D) (ca := ca) (B := B) (rl := rl)  hc8) (hq_cwV (nn := 2) hts sc_wd_124 sc_wd_125 sc_wd_126 sc_wd_127 sc_wd_128 (by decide +kernel) rfl rfl ⟨(Nat.le_of_ble_eq_true rfl), (Nat.le_of_ble_eq_true rfl)⟩) (hq_preV hKt hP (by decide) (sc_s_Runner (rfl)) rfl) rfl rfl hl.1 rfl (lv_room (Nat.le_of_ble_eq_true rfl)) d_Runner_keep_75 ⟨(Nat.le_of_ble_eq_true rfl), (Nat.le_of_ble_eq_true rfl)⟩) hS (fun H locs hP hS => ?_)
      obtain ⟨g9, hf⟩ := hm_gd_some hf
      refine hq_iast hx hb hK hP hS (55 + x3.toNatClampNeg) (sc_lt (sck_gr g5) (by decide)) (sc_s_ia88 ((sck_gr g5))) 0 rfl g9 d_Runner_keep_78 (fun H locs hP hS => ?_)
      obtain ⟨M_10, e_10, hf⟩ := hm_st_some hf
      rw [← e_10] at hP
      refine lv_iinc (v := (x4 + 1)) (lv' := [(4, .int (x4 + 1)), (0, .ref (B + 48)), (1, .ref (B + a1)), (2, .int x2), (3, .int x3)]) hx hb d_Runner_keep_79 hl (k := 4) rfl rfl (by decide) rfl (fun ls hl => ?_)
      refine lv_goto (tgt := 49) hx hb d_Runner_keep_82 (by decide) ?_
      exact ih _ _ _ _ h_a1 _ _ _ _ (lv_sub hl [1, 2, 3, 4, 0] rfl) hP hS hf
set_option maxHeartbeats 4000000 in
set_option maxRecDepth 100000 in
theorem w_Runner_keep_2 {p : Program} {l : Launch} {e : Env} {s : State} {m : MethodId} {args : Array Value} {below : List Frame} {meth : Method} {c : Code} {D : va_G} {ca : Nat → ClassId} {B rl : Nat} {M9 : hm_M} (X : hq_X p s m args meth c b_Runner_keep R_Runner 5 none D sc_cl (sc_ty ca) hq_tb) : ∀ (n : Nat), ∀ (a1 : Nat), ∀ (x2 : Int32), ∀ (x3 : Int32), sc_kd a1 = 8 → ∀ (M : hm_M) (H : Heap) (locs : List Loc) (ls : Array Slot), lv_has ls 5 [(0, .ref (B + 48)), (1, .ref (B + a1)), (2, .int x2), (3, .int x3)] → hm_P D sc_cl ca 64 (sc_sh rl) B M hm_L0 H → va_S (hm_A B 64) s.heap H locs → f_Runner_keep_2 rl n a1 x2 x3 M = some M9 → W p l e ({ frames := 28, cells := 0, slots := 0, locals := 565 } : Room) s m args below meth c H locs 0 0 (MQ below (hq_QV D sc_cl ca 64 (sc_sh rl) B M9 hm_L0) args s 0 0 (hm_A B 64)) (F0 m 2 ls []) := by
  obtain ⟨hx, hb, hml, hown, hr, hlk, hKt⟩ := id X
  have hK := hKt.1
  have hts : ∀ w ∈ hq_tb, w.before args s = true := fun w h => hKt.2.2 w h args
  intro n
  induction n with
  | zero =>
    intro a1 x2 x3 h_a1 M H locs ls hl hP hS hf
    cases hf
  | succ n ih =>
    intro a1 x2 x3 h_a1 M H locs ls hl hP hS hf
    rw [f_Runner_keep_2] at hf
    refine lv_iload_n hx hb d_Runner_keep_2 rfl (lv_at hl 3 rfl) ?_
    refine lv_aload_n hx hb d_Runner_keep_3 rfl (lv_at hl 0 rfl) ?_
    refine hq_get hx hb hts i_Runner hown hK hP 48 (by decide) (sc_s_Runner (rfl)) rfl 0 (by decide) (hts _ sc_wd_130) (fun _ h => h) (v := .ref (B + 1)) rfl d_Runner_keep_4 ?_
    refine hq_getN hx hb hts i_Pipe hown hK hP 1 (by decide) (sc_s_Pipe (rfl)) rfl 5 (by decide) (hts _ sc_wd_149) (fun _ h => h) (v := .int (M 1 5)) rfl d_Runner_keep_7 ?_
    refine lv_icmp_ge (tgt := 98) hx hb d_Runner_keep_10 (by decide) (fun c1 => ?_) (fun c1 => ?_)
    · replace hf := (if_pos c1).symm.trans hf
      have h8 := Option.some.inj hf
      subst h8
      exact W.vret hx hb hr (fun t ht _ => ⟨⟨(), rfl, trivial, by subst ht; exact hP⟩, hS.F ht⟩) hS.2.2 d_Runner_keep_98 hlk
    · replace hf := (if_neg c1).symm.trans hf
      refine lv_aload_n hx hb d_Runner_keep_13 rfl (lv_at hl 1 rfl) ?_
      refine hq_getN hx hb hts i_Needs hown hK hP a1 (sc_lt h_a1 (by decide)) (sc_s_Needs (h_a1)) rfl 0 (by decide) (hts _ sc_wd_151) (fun _ h => h) (v := .ref (B + (a1 + 1))) rfl d_Runner_keep_14 ?_
      refine lv_iload_n hx hb d_Runner_keep_17 rfl (lv_at hl 3 rfl) ?_
      obtain ⟨g2, hf⟩ := hm_gd_some hf
      refine hq_zald hx hb hK hP (a1 + 1) (sc_lt (sck_Needs1 h_a1) (by decide)) (sc_s_za8 ((sck_Needs1 h_a1))) 1 rfl g2 d_Runner_keep_18 ?_
      refine lv_if_eq (tgt := 92) hx hb d_Runner_keep_19 (by decide) (fun c3 => ?_) (fun c3 => ?_)
      · replace hf := (if_pos c3).symm.trans hf
        exact w_Runner_keep_92 X ih _ _ _ h_a1 _ _ _ _ (lv_sub hl [0, 1, 2, 3] rfl) hP hS hf
      · replace hf := (if_neg c3).symm.trans hf
        refine lv_aload_n hx hb d_Runner_keep_22 rfl (lv_at hl 0 rfl) ?_
        refine hq_get hx hb hts i_Runner hown hK hP 48 (by decide) (sc_s_Runner (rfl)) rfl 0 (by decide) (hts _ sc_wd_130) (fun _ h => h) (v := .ref (B + 1)) rfl d_Runner_keep_23 ?_
        refine hq_getN hx hb hts i_Pipe hown hK hP 1 (by decide) (sc_s_Pipe (rfl)) rfl 1 (by decide) (hts _ sc_wd_134) (fun _ h => h) (v := .ref (B + 2)) rfl d_Runner_keep_26 ?_
        refine lv_iload_n hx hb d_Runner_keep_29 rfl (lv_at hl 3 rfl) ?_
        obtain ⟨g4, hf⟩ := hm_gd_some hf
        refine hq_aald hx hb hK hP 2 (by decide) (sc_s_starr (rfl)) 2 rfl rfl g4 d_Runner_keep_30 ?_
        refine hq_getN hx hb hts i_Stage hown hK hP (5 + 4 * x3.toNatClampNeg) (sc_lt (sck_st g4) (by decide)) (sc_s_Stage ((sck_st g4))) rfl 2 (by decide) (hts _ sc_wd_150) (fun _ h => h) (v := .int (M (5 + 4 * x3.toNatClampNeg) 2)) rfl d_Runner_keep_31 ?_
        refine lv_iload_n hx hb d_Runner_keep_34 rfl (lv_at hl 2 rfl) ?_
        refine lv_icmp_eq (tgt := 41) hx hb d_Runner_keep_35 (by decide) (fun c5 => ?_) (fun c5 => ?_)
        · replace hf := (if_pos c5).symm.trans hf
          refine lv_aload_n hx hb d_Runner_keep_41 rfl (lv_at hl 1 rfl) ?_
          refine hq_getN hx hb hts i_Needs hown hK hP a1 (sc_lt h_a1 (by decide)) (sc_s_Needs (h_a1)) rfl 1 (by decide) (hts _ sc_wd_152) (fun _ h => h) (v := .ref (B + (a1 + 2))) rfl d_Runner_keep_42 ?_
          refine lv_iload_n hx hb d_Runner_keep_45 rfl (lv_at hl 3 rfl) ?_
          obtain ⟨g6, hf⟩ := hm_gd_some hf
          refine hq_iald hx hb hK hP (a1 + 2) (sc_lt (sck_Needs2 h_a1) (by decide)) (sc_s_ia8 ((sck_Needs2 h_a1))) 0 rfl g6 d_Runner_keep_46 ?_
          refine lv_istore (lv' := [(4, .int (M (a1 + 2) x3.toNatClampNeg)), (0, .ref (B + 48)), (1, .ref (B + a1)), (2, .int x2), (3, .int x3)]) hx hb d_Runner_keep_47 hl (by decide) rfl (fun ls hl => ?_)
          exact w_Runner_keep_49 X ih _ _ _ _ _ h_a1 _ _ _ _ (lv_sub hl [1, 2, 3, 4, 0] rfl) hP hS hf
        · replace hf := (if_neg c5).symm.trans hf
          refine lv_goto (tgt := 92) hx hb d_Runner_keep_38 (by decide) ?_
          exact w_Runner_keep_92 X ih _ _ _ h_a1 _ _ _ _ (lv_sub hl [0, 1, 2, 3] rfl) hP hS hf
set_option maxHeartbeats 4000000 in
set_option maxRecDepth 100000 in
theorem w_Runner_keep_e {p : Program} {l : Launch} {e : Env} {s : State} {m : MethodId} {args : Array Value} {below : List Frame} {meth : Method} {c : Code} {D : va_G} {ca : Nat → ClassId} {B rl : Nat} {M9 : hm_M} (X : hq_X p s m args meth c b_Runner_keep R_Runner 5 none D sc_cl (sc_ty ca) hq_tb) : ∀ (a1 : Nat), ∀ (x2 : Int32), sc_kd a1 = 8 → ∀ (M : hm_M) (H : Heap) (locs : List Loc) (ls : Array Slot), lv_has ls 5 [(0, .ref (B + 48)), (1, .ref (B + a1)), (2, .int x2)] → hm_P D sc_cl ca 64 (sc_sh rl) B M hm_L0 H → va_S (hm_A B 64) s.heap H locs → f_Runner_keep rl M a1 x2 = some M9 → W p l e ({ frames := 28, cells := 0, slots := 0, locals := 565 } : Room) s m args below meth c H locs 0 0 (MQ below (hq_QV D sc_cl ca 64 (sc_sh rl) B M9 hm_L0) args s 0 0 (hm_A B 64)) (F0 m 0 ls []) := by
  obtain ⟨hx, hb, hml, hown, hr, hlk, hKt⟩ := id X
  have hK := hKt.1
  have hts : ∀ w ∈ hq_tb, w.before args s = true := fun w h => hKt.2.2 w h args
  intro a1 x2 h_a1 M H locs ls hl hP hS hf
  unfold f_Runner_keep at hf
  refine lv_iconst (v := 0) hx hb d_Runner_keep_0 (by decide) ?_
  refine lv_istore_n (lv' := [(3, .int 0), (0, .ref (B + 48)), (1, .ref (B + a1)), (2, .int x2)]) hx hb d_Runner_keep_1 rfl hl (by decide) rfl (fun ls hl => ?_)
  exact w_Runner_keep_2 X _ _ _ _ h_a1 _ _ _ _ (lv_sub hl [1, 2, 3, 0] rfl) hP hS hf
set_option maxHeartbeats 4000000 in
set_option maxRecDepth 100000 in
theorem c_Runner_keep {l : Launch} {D : va_G} {ca : Nat → ClassId} {B rl : Nat} {a1 : Nat} {x2 : Int32} (h_a1 : sc_kd a1 = 8) {M M9 : hm_M} (hf : f_Runner_keep rl M a1 x2 = some M9) : Met l y_Runner_keep [Cond.code y_Runner_keep b_Runner_keep 5 none] ({ frames := 28, cells := 0, slots := 0, locals := 565 } : Room) (hq_Pre D sc_cl ca 64 (sc_sh rl) B (sc_ty ca) hq_tb M hm_L0 [.ref (B + 48), .ref (B + a1), .int x2]) (hq_QV D sc_cl ca 64 (sc_sh rl) B M9 hm_L0) 0 0 (hm_A B 64) := by
  refine Met.ofW (cc := b_Runner_keep) (maxL := 5) (ret := none) (by decide +kernel) rfl ?_
  intro p e s m args below meth c s₁ Bd hml hv
  obtain ⟨rfl, hP, hK⟩ := hv
  have hl := lv_entry ([.ref (B + 48), .ref (B + a1), .int x2]) (n := 5) (Nat.le_of_ble_eq_true rfl)
  rw [lg_entry_eq]
  generalize (lg_sl ([.ref (B + 48), .ref (B + a1), .int x2]) ++ List.replicate (5 - (lg_sl ([.ref (B + 48), .ref (B + a1), .int x2])).length) Slot.unset).toArray = ls at hl ⊢
  have hl : lv_has ls 5 [(0, .ref (B + 48)), (1, .ref (B + a1)), (2, .int x2)] := hl
  exact w_Runner_keep_e ⟨Bd.exec, Bd.bytes, hml, findClass_of_methodNamed Bd.named, Bd.returns, Bd.notSynchronized, hK⟩  _ _ h_a1 _ _ _ _ hl hP va_S.rf hf
set_option maxHeartbeats 4000000 in
set_option maxRecDepth 100000 in
theorem w_Runner_runTile_24 {p : Program} {l : Launch} {e : Env} {s : State} {m : MethodId} {args : Array Value} {below : List Frame} {meth : Method} {c : Code} {D : va_G} {ca : Nat → ClassId} {B rl : Nat} {M9 : hm_M} (X : hq_X p s m args meth c b_Runner_runTile R_Runner 4 none D sc_cl (sc_ty ca) hq_tb) : ∀ (n : Nat), ∀ (x2 : Int32), ∀ (x3 : Int32), ∀ (M : hm_M) (H : Heap) (locs : List Loc) (ls : Array Slot), lv_has ls 4 [(0, .ref (B + 48)), (2, .int x2), (3, .int x3)] → hm_P D sc_cl ca 64 (sc_sh rl) B M hm_L0 H → va_S (hm_A B 64) s.heap H locs → f_Runner_runTile_24 rl n x2 x3 M = some M9 → W p l e ({ frames := 29, cells := 0, slots := 0, locals := 589 } : Room) s m args below meth c H locs 0 0 (MQ below (hq_QV D sc_cl ca 64 (sc_sh rl) B M9 hm_L0) args s 0 0 (hm_A B 64)) (F0 m 24 ls []) := by
  obtain ⟨hx, hb, hml, hown, hr, hlk, hKt⟩ := id X
  have hK := hKt.1
  have hts : ∀ w ∈ hq_tb, w.before args s = true := fun w h => hKt.2.2 w h args
  intro n
  induction n with
  | zero =>
    intro x2 x3 M H locs ls hl hP hS hf
    cases hf
  | succ n ih =>
    intro x2 x3 M H locs ls hl hP hS hf
    rw [f_Runner_runTile_24] at hf
    refine lv_iload_n hx hb d_Runner_runTile_24 rfl (lv_at hl 2 rfl) ?_
    refine lv_iload_n hx hb d_Runner_runTile_25 rfl (lv_at hl 1 rfl) ?_
    refine lv_icmp_gt (tgt := 53) hx hb d_Runner_runTile_26 (by decide) (fun c1 => ?_) (fun c1 => ?_)
    · replace hf := (if_pos c1).symm.trans hf
      refine lv_aload_n hx hb d_Runner_runTile_53 rfl (lv_at hl 0 rfl) ?_
      refine lv_iconst (v := 2) hx hb d_Runner_runTile_54 (by decide) ?_
      obtain ⟨M_3, hc4, hf⟩ := hm_bV_some hf
      refine hq_callV (va_runV (As := [.int 2]) (rest := []) ⟨hx, hb, hml, hown, hts⟩ (c_Runner_release (l := l) (D := D) (ca := ca) (B := B) (rl := rl)  hc4) (hq_cwV (nn := 1) hts sc_wd_160 sc_wd_125 sc_wd_161 sc_wd_162 sc_wd_163 (by decide +kernel) rfl rfl ⟨(Nat.le_of_ble_eq_true rfl), (Nat.le_of_ble_eq_true rfl)⟩) (hq_preV hKt hP (by decide) (sc_s_Runner (rfl)) rfl) rfl rfl hl.1 rfl (lv_room (Nat.le_of_ble_eq_true rfl)) d_Runner_runTile_55 ⟨(Nat.le_of_ble_eq_true rfl), (Nat.le_of_ble_eq_true rfl)⟩) hS (fun H locs hP hS => ?_)
      have h8 := Option.some.inj hf
      subst h8
      exact W.vret hx hb hr (fun t ht _ => ⟨⟨(), rfl, trivial, by subst ht; exact hP⟩, hS.F ht⟩) hS.2.2 d_Runner_runTile_58 hlk
    · replace hf := (if_neg c1).symm.trans hf
      refine lv_aload_n hx hb d_Runner_runTile_29 rfl (lv_at hl 0 rfl) ?_
      refine hq_get hx hb hts i_Runner hown hK hP 48 (by decide) (sc_s_Runner (rfl)) rfl 4 (by decide) (hts _ sc_wd_164) (fun _ h => h) (v := .ref (B + 63)) rfl d_Runner_runTile_30 ?_
      refine lv_iload_n hx hb d_Runner_runTile_33 rfl (lv_at hl 2 rfl) ?_
      refine lv_aload_n hx hb d_Runner_runTile_34 rfl (lv_at hl 0 rfl) ?_
      refine lv_aload_n hx hb d_Runner_runTile_35 rfl (lv_at hl 0 rfl) ?_
      refine hq_get hx hb hts i_Runner hown hK hP 48 (by decide) (sc_s_Runner (rfl)) rfl 0 (by decide) (hts _ sc_wd_130) (fun _ h => h) (v := .ref (B + 1)) rfl d_Runner_runTile_36 ?_
      refine hq_getN hx hb hts i_Pipe hown hK hP 1 (by decide) (sc_s_Pipe (rfl)) rfl 5 (by decide) (hts _ sc_wd_149) (fun _ h => h) (v := .int (M 1 5)) rfl d_Runner_runTile_39 ?_
      refine lv_iload_n hx hb d_Runner_runTile_42 rfl (lv_at hl 2 rfl) ?_
      obtain ⟨r5, M_6, hc7, hf⟩ := hm_bI_some hf
      refine hq_callI (va_runV (As := [.int (M 1 5), .int x3]) (rest := [.int x3, .ref (B + 63)]) ⟨hx, hb, hml, hown, hts⟩ (c_Runner_workOut (l := l) (D := D) (ca := ca) (B := B) (rl := rl)  hc7) (hq_cwV (nn := 2) hts sc_wd_124 sc_wd_125 sc_wd_126 sc_wd_127 sc_wd_128 (by decide +kernel) rfl rfl ⟨(Nat.le_of_ble_eq_true rfl), (Nat.le_of_ble_eq_true rfl)⟩) (hq_preV hKt hP (by decide) (sc_s_Runner (rfl)) rfl) rfl rfl hl.1 rfl (lv_room (Nat.le_of_ble_eq_true rfl)) d_Runner_runTile_43 ⟨(Nat.le_of_ble_eq_true rfl), (Nat.le_of_ble_eq_true rfl)⟩) hS (fun H locs hP hS => ?_)
      obtain ⟨g8, hf⟩ := hm_gd_some hf
      refine hq_iast hx hb hK hP hS 63 (by decide) (sc_s_ia32 (rfl)) 0 rfl g8 d_Runner_runTile_46 (fun H locs hP hS => ?_)
      obtain ⟨M_9, e_9, hf⟩ := hm_st_some hf
      rw [← e_9] at hP
      refine lv_iinc (v := (x3 + 1)) (lv' := [(3, .int (x3 + 1)), (0, .ref (B + 48)), (2, .int x2)]) hx hb d_Runner_runTile_47 hl (k := 2) rfl rfl (by decide) rfl (fun ls hl => ?_)
      refine lv_goto (tgt := 24) hx hb d_Runner_runTile_50 (by decide) ?_
      exact ih _ _ _ _ _ _ (lv_sub hl [1, 2, 0] rfl) hP hS hf
set_option maxHeartbeats 4000000 in
set_option maxRecDepth 100000 in
theorem w_Runner_runTile_e {p : Program} {l : Launch} {e : Env} {s : State} {m : MethodId} {args : Array Value} {below : List Frame} {meth : Method} {c : Code} {D : va_G} {ca : Nat → ClassId} {B rl : Nat} {M9 : hm_M} (X : hq_X p s m args meth c b_Runner_runTile R_Runner 4 none D sc_cl (sc_ty ca) hq_tb) : ∀ (x1 : Int32), ∀ (x2 : Int32), ∀ (M : hm_M) (H : Heap) (locs : List Loc) (ls : Array Slot), lv_has ls 4 [(0, .ref (B + 48)), (1, .int x1), (2, .int x2)] → hm_P D sc_cl ca 64 (sc_sh rl) B M hm_L0 H → va_S (hm_A B 64) s.heap H locs → f_Runner_runTile rl M x1 x2 = some M9 → W p l e ({ frames := 29, cells := 0, slots := 0, locals := 589 } : Room) s m args below meth c H locs 0 0 (MQ below (hq_QV D sc_cl ca 64 (sc_sh rl) B M9 hm_L0) args s 0 0 (hm_A B 64)) (F0 m 0 ls []) := by
  obtain ⟨hx, hb, hml, hown, hr, hlk, hKt⟩ := id X
  have hK := hKt.1
  have hts : ∀ w ∈ hq_tb, w.before args s = true := fun w h => hKt.2.2 w h args
  intro x1 x2 M H locs ls hl hP hS hf
  unfold f_Runner_runTile at hf
  refine lv_aload_n hx hb d_Runner_runTile_0 rfl (lv_at hl 0 rfl) ?_
  refine hq_get hx hb hts i_Runner hown hK hP 48 (by decide) (sc_s_Runner (rfl)) rfl 1 (by decide) (hts _ sc_wd_154) (fun _ h => h) (v := .ref (B + 49)) rfl d_Runner_runTile_1 ?_
  refine lv_aload_n hx hb d_Runner_runTile_4 rfl (lv_at hl 0 rfl) ?_
  refine hq_get hx hb hts i_Runner hown hK hP 48 (by decide) (sc_s_Runner (rfl)) rfl 0 (by decide) (hts _ sc_wd_130) (fun _ h => h) (v := .ref (B + 1)) rfl d_Runner_runTile_5 ?_
  refine lv_iload_n hx hb d_Runner_runTile_8 rfl (lv_at hl 1 rfl) ?_
  refine lv_iload_n hx hb d_Runner_runTile_9 rfl (lv_at hl 2 rfl) ?_
  obtain ⟨M_2, hc3, hf⟩ := hm_bV_some hf
  refine hq_callV (va_runVN (As := [.ref (B + 1), .int x1, .int x2]) (rest := []) ⟨hx, hb, hml, hown, hts⟩ (c_Needs_spread (l := l) (D := D) (ca := ca) (B := B) (rl := rl) rfl hc3) (hq_cwN (nn := 3) hts sc_wd_86 sc_wd_14 sc_wd_155 sc_wd_88 sc_wd_89 (by decide +kernel) rfl rfl ⟨(Nat.le_of_ble_eq_true rfl), (Nat.le_of_ble_eq_true rfl)⟩) (hq_preV hKt hP (by decide) (sc_s_Needs (rfl)) rfl) rfl rfl hl.1 rfl (lv_room (Nat.le_of_ble_eq_true rfl)) d_Runner_runTile_10 ⟨(Nat.le_of_ble_eq_true rfl), (Nat.le_of_ble_eq_true rfl)⟩) hS (fun H locs hP hS => ?_)
  refine lv_aload_n hx hb d_Runner_runTile_13 rfl (lv_at hl 0 rfl) ?_
  refine lv_aload_n hx hb d_Runner_runTile_14 rfl (lv_at hl 0 rfl) ?_
  refine hq_get hx hb hts i_Runner hown hK hP 48 (by decide) (sc_s_Runner (rfl)) rfl 1 (by decide) (hts _ sc_wd_154) (fun _ h => h) (v := .ref (B + 49)) rfl d_Runner_runTile_15 ?_
  refine lv_iconst (v := 2) hx hb d_Runner_runTile_18 (by decide) ?_
  obtain ⟨M_5, hc6, hf⟩ := hm_bV_some hf
  refine hq_callV (va_runV (As := [.ref (B + 49), .int 2]) (rest := []) ⟨hx, hb, hml, hown, hts⟩ (c_Runner_keep (l := l) (D := D) (ca := ca) (B := B) (rl := rl) rfl hc6) (hq_cwV (nn := 2) hts sc_wd_156 sc_wd_125 sc_wd_157 sc_wd_158 sc_wd_159 (by decide +kernel) rfl rfl ⟨(Nat.le_of_ble_eq_true rfl), (Nat.le_of_ble_eq_true rfl)⟩) (hq_preV hKt hP (by decide) (sc_s_Runner (rfl)) rfl) rfl rfl hl.1 rfl (lv_room (Nat.le_of_ble_eq_true rfl)) d_Runner_runTile_19 ⟨(Nat.le_of_ble_eq_true rfl), (Nat.le_of_ble_eq_true rfl)⟩) hS (fun H locs hP hS => ?_)
  refine lv_iload_n hx hb d_Runner_runTile_22 rfl (lv_at hl 1 rfl) ?_
  refine lv_istore_n (lv' := [(3, .int x1), (0, .ref (B + 48)), (1, .int x1), (2, .int x2)]) hx hb d_Runner_runTile_23 rfl hl (by decide) rfl (fun ls hl => ?_)
  exact w_Runner_runTile_24 X _ _ _ _ _ _ _ (lv_sub hl [1, 3, 0] rfl) hP hS hf
set_option maxHeartbeats 4000000 in
set_option maxRecDepth 100000 in
theorem c_Runner_runTile {l : Launch} {D : va_G} {ca : Nat → ClassId} {B rl : Nat} {x1 : Int32} {x2 : Int32} {M M9 : hm_M} (hf : f_Runner_runTile rl M x1 x2 = some M9) : Met l y_Runner_runTile [Cond.code y_Runner_runTile b_Runner_runTile 4 none] ({ frames := 29, cells := 0, slots := 0, locals := 589 } : Room) (hq_Pre D sc_cl ca 64 (sc_sh rl) B (sc_ty ca) hq_tb M hm_L0 [.ref (B + 48), .int x1, .int x2]) (hq_QV D sc_cl ca 64 (sc_sh rl) B M9 hm_L0) 0 0 (hm_A B 64) := by
  refine Met.ofW (cc := b_Runner_runTile) (maxL := 4) (ret := none) (by decide +kernel) rfl ?_
  intro p e s m args below meth c s₁ Bd hml hv
  obtain ⟨rfl, hP, hK⟩ := hv
  have hl := lv_entry ([.ref (B + 48), .int x1, .int x2]) (n := 4) (Nat.le_of_ble_eq_true rfl)
  rw [lg_entry_eq]
  generalize (lg_sl ([.ref (B + 48), .int x1, .int x2]) ++ List.replicate (4 - (lg_sl ([.ref (B + 48), .int x1, .int x2])).length) Slot.unset).toArray = ls at hl ⊢
  have hl : lv_has ls 4 [(0, .ref (B + 48)), (1, .int x1), (2, .int x2)] := hl
  exact w_Runner_runTile_e ⟨Bd.exec, Bd.bytes, hml, findClass_of_methodNamed Bd.named, Bd.returns, Bd.notSynchronized, hK⟩  _ _ _ _ _ _ hl hP va_S.rf hf
set_option maxHeartbeats 4000000 in
set_option maxRecDepth 100000 in
theorem w_Runner_runSchedule_8 {p : Program} {l : Launch} {e : Env} {s : State} {m : MethodId} {args : Array Value} {below : List Frame} {meth : Method} {c : Code} {D : va_G} {ca : Nat → ClassId} {B rl : Nat} {M9 : hm_M} (X : hq_X p s m args meth c b_Runner_runSchedule R_Runner 3 none D sc_cl (sc_ty ca) hq_tb) : ∀ (n : Nat), ∀ (x2 : Int32), ∀ (M : hm_M) (H : Heap) (locs : List Loc) (ls : Array Slot), lv_has ls 3 [(0, .ref (B + 48)), (2, .int x2)] → hm_P D sc_cl ca 64 (sc_sh rl) B M hm_L0 H → va_S (hm_A B 64) s.heap H locs → f_Runner_runSchedule_8 rl n x2 M = some M9 → W p l e ({ frames := 30, cells := 0, slots := 0, locals := 612 } : Room) s m args below meth c H locs 0 0 (MQ below (hq_QV D sc_cl ca 64 (sc_sh rl) B M9 hm_L0) args s 0 0 (hm_A B 64)) (F0 m 8 ls []) := by
  obtain ⟨hx, hb, hml, hown, hr, hlk, hKt⟩ := id X
  have hK := hKt.1
  have hts : ∀ w ∈ hq_tb, w.before args s = true := fun w h => hKt.2.2 w h args
  intro n
  induction n with
  | zero =>
    intro x2 M H locs ls hl hP hS hf
    cases hf
  | succ n ih =>
    intro x2 M H locs ls hl hP hS hf
    rw [f_Runner_runSchedule_8] at hf
    refine lv_iload_n hx hb d_Runner_runSchedule_8 rfl (lv_at hl 1 rfl) ?_
    refine lv_aload_n hx hb d_Runner_runSchedule_9 rfl (lv_at hl 0 rfl) ?_
    refine hq_get hx hb hts i_Runner hown hK hP 48 (by decide) (sc_s_Runner (rfl)) rfl 0 (by decide) (hts _ sc_wd_130) (fun _ h => h) (v := .ref (B + 1)) rfl d_Runner_runSchedule_10 ?_
    obtain ⟨r1, M_2, hc3, hf⟩ := hm_bI_some hf
    refine hq_callI (va_runVN (As := []) (rest := [.int x2]) ⟨hx, hb, hml, hown, hts⟩ (c_Pipe_tileCount (l := l) (D := D) (ca := ca) (B := B) (rl := rl)  hc3) (hq_cwN (nn := 0) hts sc_wd_77 sc_wd_31 sc_wd_165 sc_wd_79 sc_wd_80 (by decide +kernel) rfl rfl ⟨(Nat.le_of_ble_eq_true rfl), (Nat.le_of_ble_eq_true rfl)⟩) (hq_preV hKt hP (by decide) (sc_s_Pipe (rfl)) rfl) rfl rfl hl.1 rfl (lv_room (Nat.le_of_ble_eq_true rfl)) d_Runner_runSchedule_13 ⟨(Nat.le_of_ble_eq_true rfl), (Nat.le_of_ble_eq_true rfl)⟩) hS (fun H locs hP hS => ?_)
    refine lv_icmp_ge (tgt := 45) hx hb d_Runner_runSchedule_16 (by decide) (fun c4 => ?_) (fun c4 => ?_)
    · replace hf := (if_pos c4).symm.trans hf
      refine lv_aload_n hx hb d_Runner_runSchedule_45 rfl (lv_at hl 0 rfl) ?_
      refine lv_iconst (v := 1) hx hb d_Runner_runSchedule_46 (by decide) ?_
      obtain ⟨M_6, hc7, hf⟩ := hm_bV_some hf
      refine hq_callV (va_runV (As := [.int 1]) (rest := []) ⟨hx, hb, hml, hown, hts⟩ (c_Runner_release (l := l) (D := D) (ca := ca) (B := B) (rl := rl)  hc7) (hq_cwV (nn := 1) hts sc_wd_160 sc_wd_125 sc_wd_161 sc_wd_162 sc_wd_163 (by decide +kernel) rfl rfl ⟨(Nat.le_of_ble_eq_true rfl), (Nat.le_of_ble_eq_true rfl)⟩) (hq_preV hKt hP (by decide) (sc_s_Runner (rfl)) rfl) rfl rfl hl.1 rfl (lv_room (Nat.le_of_ble_eq_true rfl)) d_Runner_runSchedule_47 ⟨(Nat.le_of_ble_eq_true rfl), (Nat.le_of_ble_eq_true rfl)⟩) hS (fun H locs hP hS => ?_)
      have h8 := Option.some.inj hf
      subst h8
      exact W.vret hx hb hr (fun t ht _ => ⟨⟨(), rfl, trivial, by subst ht; exact hP⟩, hS.F ht⟩) hS.2.2 d_Runner_runSchedule_50 hlk
    · replace hf := (if_neg c4).symm.trans hf
      refine lv_aload_n hx hb d_Runner_runSchedule_19 rfl (lv_at hl 0 rfl) ?_
      refine lv_aload_n hx hb d_Runner_runSchedule_20 rfl (lv_at hl 0 rfl) ?_
      refine hq_get hx hb hts i_Runner hown hK hP 48 (by decide) (sc_s_Runner (rfl)) rfl 0 (by decide) (hts _ sc_wd_130) (fun _ h => h) (v := .ref (B + 1)) rfl d_Runner_runSchedule_21 ?_
      refine lv_iload_n hx hb d_Runner_runSchedule_24 rfl (lv_at hl 1 rfl) ?_
      obtain ⟨r8, M_9, hc10, hf⟩ := hm_bI_some hf
      refine hq_callI (va_runVN (As := [.int x2]) (rest := [.ref (B + 48)]) ⟨hx, hb, hml, hown, hts⟩ (c_Pipe_tileFirst (l := l) (D := D) (ca := ca) (B := B) (rl := rl)  hc10) (hq_cwN (nn := 1) hts sc_wd_30 sc_wd_31 sc_wd_166 sc_wd_33 sc_wd_34 (by decide +kernel) rfl rfl ⟨(Nat.le_of_ble_eq_true rfl), (Nat.le_of_ble_eq_true rfl)⟩) (hq_preV hKt hP (by decide) (sc_s_Pipe (rfl)) rfl) rfl rfl hl.1 rfl (lv_room (Nat.le_of_ble_eq_true rfl)) d_Runner_runSchedule_25 ⟨(Nat.le_of_ble_eq_true rfl), (Nat.le_of_ble_eq_true rfl)⟩) hS (fun H locs hP hS => ?_)
      refine lv_aload_n hx hb d_Runner_runSchedule_28 rfl (lv_at hl 0 rfl) ?_
      refine hq_get hx hb hts i_Runner hown hK hP 48 (by decide) (sc_s_Runner (rfl)) rfl 0 (by decide) (hts _ sc_wd_130) (fun _ h => h) (v := .ref (B + 1)) rfl d_Runner_runSchedule_29 ?_
      refine lv_iload_n hx hb d_Runner_runSchedule_32 rfl (lv_at hl 1 rfl) ?_
      obtain ⟨r11, M_12, hc13, hf⟩ := hm_bI_some hf
      refine hq_callI (va_runVN (As := [.int x2]) (rest := [.int r8, .ref (B + 48)]) ⟨hx, hb, hml, hown, hts⟩ (c_Pipe_tileLast (l := l) (D := D) (ca := ca) (B := B) (rl := rl)  hc13) (hq_cwN (nn := 1) hts sc_wd_82 sc_wd_31 sc_wd_167 sc_wd_84 sc_wd_85 (by decide +kernel) rfl rfl ⟨(Nat.le_of_ble_eq_true rfl), (Nat.le_of_ble_eq_true rfl)⟩) (hq_preV hKt hP (by decide) (sc_s_Pipe (rfl)) rfl) rfl rfl hl.1 rfl (lv_room (Nat.le_of_ble_eq_true rfl)) d_Runner_runSchedule_33 ⟨(Nat.le_of_ble_eq_true rfl), (Nat.le_of_ble_eq_true rfl)⟩) hS (fun H locs hP hS => ?_)
      obtain ⟨M_15, hc16, hf⟩ := hm_bV_some hf
      refine hq_callV (va_runV (As := [.int r8, .int r11]) (rest := []) ⟨hx, hb, hml, hown, hts⟩ (c_Runner_runTile (l := l) (D := D) (ca := ca) (B := B) (rl := rl)  hc16) (hq_cwV (nn := 2) hts sc_wd_168 sc_wd_125 sc_wd_169 sc_wd_170 sc_wd_171 (by decide +kernel) rfl rfl ⟨(Nat.le_of_ble_eq_true rfl), (Nat.le_of_ble_eq_true rfl)⟩) (hq_preV hKt hP (by decide) (sc_s_Runner (rfl)) rfl) rfl rfl hl.1 rfl (lv_room (Nat.le_of_ble_eq_true rfl)) d_Runner_runSchedule_36 ⟨(Nat.le_of_ble_eq_true rfl), (Nat.le_of_ble_eq_true rfl)⟩) hS (fun H locs hP hS => ?_)
      refine lv_iinc (v := (x2 + 1)) (lv' := [(2, .int (x2 + 1)), (0, .ref (B + 48))]) hx hb d_Runner_runSchedule_39 hl (k := 1) rfl rfl (by decide) rfl (fun ls hl => ?_)
      refine lv_goto (tgt := 8) hx hb d_Runner_runSchedule_42 (by decide) ?_
      exact ih _ _ _ _ _ (lv_sub hl [1, 0] rfl) hP hS hf
set_option maxHeartbeats 4000000 in
set_option maxRecDepth 100000 in
theorem w_Runner_runSchedule_e {p : Program} {l : Launch} {e : Env} {s : State} {m : MethodId} {args : Array Value} {below : List Frame} {meth : Method} {c : Code} {D : va_G} {ca : Nat → ClassId} {B rl : Nat} {M9 : hm_M} (X : hq_X p s m args meth c b_Runner_runSchedule R_Runner 3 none D sc_cl (sc_ty ca) hq_tb) : ∀ (a1 : Nat), sc_kd a1 = 8 → ∀ (M : hm_M) (H : Heap) (locs : List Loc) (ls : Array Slot), lv_has ls 3 [(0, .ref (B + 48)), (1, .ref (B + a1))] → hm_P D sc_cl ca 64 (sc_sh rl) B M hm_L0 H → va_S (hm_A B 64) s.heap H locs → f_Runner_runSchedule rl M a1 = some M9 → W p l e ({ frames := 30, cells := 0, slots := 0, locals := 612 } : Room) s m args below meth c H locs 0 0 (MQ below (hq_QV D sc_cl ca 64 (sc_sh rl) B M9 hm_L0) args s 0 0 (hm_A B 64)) (F0 m 0 ls []) := by
  obtain ⟨hx, hb, hml, hown, hr, hlk, hKt⟩ := id X
  have hK := hKt.1
  have hts : ∀ w ∈ hq_tb, w.before args s = true := fun w h => hKt.2.2 w h args
  intro a1 h_a1 M H locs ls hl hP hS hf
  unfold f_Runner_runSchedule at hf
  refine lv_aload_n hx hb d_Runner_runSchedule_0 rfl (lv_at hl 0 rfl) ?_
  refine lv_aload_n hx hb d_Runner_runSchedule_1 rfl (lv_at hl 1 rfl) ?_
  refine lv_iconst (v := 1) hx hb d_Runner_runSchedule_2 (by decide) ?_
  obtain ⟨M_2, hc3, hf⟩ := hm_bV_some hf
  refine hq_callV (va_runV (As := [.ref (B + a1), .int 1]) (rest := []) ⟨hx, hb, hml, hown, hts⟩ (c_Runner_keep (l := l) (D := D) (ca := ca) (B := B) (rl := rl) h_a1 hc3) (hq_cwV (nn := 2) hts sc_wd_156 sc_wd_125 sc_wd_157 sc_wd_158 sc_wd_159 (by decide +kernel) rfl rfl ⟨(Nat.le_of_ble_eq_true rfl), (Nat.le_of_ble_eq_true rfl)⟩) (hq_preV hKt hP (by decide) (sc_s_Runner (rfl)) rfl) rfl rfl hl.1 rfl (lv_room (Nat.le_of_ble_eq_true rfl)) d_Runner_runSchedule_3 ⟨(Nat.le_of_ble_eq_true rfl), (Nat.le_of_ble_eq_true rfl)⟩) hS (fun H locs hP hS => ?_)
  refine lv_iconst (v := 0) hx hb d_Runner_runSchedule_6 (by decide) ?_
  refine lv_istore_n (lv' := [(2, .int 0), (0, .ref (B + 48)), (1, .ref (B + a1))]) hx hb d_Runner_runSchedule_7 rfl hl (by decide) rfl (fun ls hl => ?_)
  exact w_Runner_runSchedule_8 X _ _ _ _ _ _ (lv_sub hl [1, 0] rfl) hP hS hf
set_option maxHeartbeats 4000000 in
set_option maxRecDepth 100000 in
theorem c_Runner_runSchedule {l : Launch} {D : va_G} {ca : Nat → ClassId} {B rl : Nat} {a1 : Nat} (h_a1 : sc_kd a1 = 8) {M M9 : hm_M} (hf : f_Runner_runSchedule rl M a1 = some M9) : Met l y_Runner_runSchedule [Cond.code y_Runner_runSchedule b_Runner_runSchedule 3 none] ({ frames := 30, cells := 0, slots := 0, locals := 612 } : Room) (hq_Pre D sc_cl ca 64 (sc_sh rl) B (sc_ty ca) hq_tb M hm_L0 [.ref (B + 48), .ref (B + a1)]) (hq_QV D sc_cl ca 64 (sc_sh rl) B M9 hm_L0) 0 0 (hm_A B 64) := by
  refine Met.ofW (cc := b_Runner_runSchedule) (maxL := 3) (ret := none) (by decide +kernel) rfl ?_
  intro p e s m args below meth c s₁ Bd hml hv
  obtain ⟨rfl, hP, hK⟩ := hv
  have hl := lv_entry ([.ref (B + 48), .ref (B + a1)]) (n := 3) (Nat.le_of_ble_eq_true rfl)
  rw [lg_entry_eq]
  generalize (lg_sl ([.ref (B + 48), .ref (B + a1)]) ++ List.replicate (3 - (lg_sl ([.ref (B + 48), .ref (B + a1)])).length) Slot.unset).toArray = ls at hl ⊢
  have hl : lv_has ls 3 [(0, .ref (B + 48)), (1, .ref (B + a1))] := hl
  exact w_Runner_runSchedule_e ⟨Bd.exec, Bd.bytes, hml, findClass_of_methodNamed Bd.named, Bd.returns, Bd.notSynchronized, hK⟩  _ h_a1 _ _ _ _ hl hP va_S.rf hf
