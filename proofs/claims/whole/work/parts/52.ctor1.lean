/-! Needs and Stage -/
set_option maxHeartbeats 4000000 in
set_option maxRecDepth 100000 in
theorem c_Needs_init {l : Launch} {D : va_G} {ca : Nat → ClassId} {B rl i : Nat} {E : Nat → va_E} (hi : sc_kd i = 8) (hE : E i = .inr (4, [.null, .null, .null])) : Met l y_Needs_init [Cond.code y_Needs_init b_Needs_init 1 none] ({ frames := 1, cells := 3, slots := 24, locals := 30 } : Room) (hg_Pre D sc_cl B (i + 1) E (sc_ty ca) hq_tb [.ref (B + i)]) (hg_Q D sc_cl B (i + 4) (hg_mix E i (sc_fin ca rl B))) 3 24 (hg_A B) := by
  refine Met.ofW (cc := b_Needs_init) (maxL := 1) (ret := none) (by decide +kernel) rfl ?_
  intro p e s m args below meth c s₁ Bd hml hv
  obtain ⟨rfl, hW, hKt⟩ := hv
  have hx := Bd.exec
  have hb := Bd.bytes
  have hr := Bd.returns
  have hown : s.vm.findClass R_Needs = some m.cls := findClass_of_methodNamed Bd.named
  have hlk := Bd.notSynchronized
  have hin : meth.name = "<init>" := (name_of_methodNamed Bd.named Bd.method).1
  have hK := hKt.1
  have hts : ∀ w ∈ hq_tb, w.before ([.ref (B + i)] : List Value).toArray s = true := fun w h => hKt.2.2 w h _
  have hS : va_S (hg_A B) s.heap s.heap [] := va_S.rf
  have hl := lv_entry ([.ref (B + i)]) (n := 1) (Nat.le_of_ble_eq_true rfl)
  rw [lg_entry_eq]
  generalize (lg_sl ([.ref (B + i)]) ++ List.replicate (1 - (lg_sl ([.ref (B + i)])).length) Slot.unset).toArray = ls at hl ⊢
  have hl : lv_has ls 1 [(0, .ref (B + i))] := hl
  have hW := hg_start (F := sc_fin ca rl B) hW
  rw [hE] at hW
  refine lv_aload_n hx hb d_Needs_init_0 rfl (lv_at hl 0 rfl) ?_
  refine W.objInit hx hb hown (hts _ ct_wd_0) (hts _ ct_wd_1) (hts _ ct_objcode) rfl (by rw [hml]; exact hl.1) rfl d_Needs_init_1 (Nat.le_of_ble_eq_true rfl) (Nat.le_of_ble_eq_true rfl) ?_
  refine W.eq (g2 := F0 m 4 ls []) rfl ?_
  refine lv_aload_n hx hb d_Needs_init_4 rfl (lv_at hl 0 rfl) ?_
  refine lv_bipush (v := 8) hx hb d_Needs_init_5 (by decide) ?_
  refine hg_newa (atype := .boolean) hx hb (hts _ ct_wd_2) (ty := .boolean) rfl (t := 1) (hK.2 1 _ rfl).2 rfl hW hS (N' := 8) (by decide) rfl (by decide) (Nat.le_of_ble_eq_true rfl) (Nat.le_of_ble_eq_true rfl) d_Needs_init_7 (fun H hW hS => ?_)
  have hW := hg_grow hW (by omega) (sc_fin_a (sc_s_za8 (sck_Needs1 hi)) (sc_ne1 (sck_Needs1 hi) (by decide)))
  refine hg_putF hx hb hts i_Needs t_Needs t_Needs_ok n_Needs hown hK hW hS (i) (by omega) hg_mid_self rfl 0 (by decide) (hts _ ct_wd_3) (fun _ h => h) rfl hin rfl (ty := .array .boolean) (v := .ref (B + (i + 1))) (by decide +kernel) rfl rfl (Nat.le_of_ble_eq_true rfl) d_Needs_init_9 (fun H locs hW hS => ?_)
  have hW := hg_setm hW
  refine lv_aload_n hx hb d_Needs_init_12 rfl (lv_at hl 0 rfl) ?_
  refine lv_bipush (v := 8) hx hb d_Needs_init_13 (by decide) ?_
  refine hg_newa (atype := .int) hx hb (hts _ ct_wd_4) (ty := .int) rfl (t := 0) (hK.2 0 _ rfl).2 rfl hW hS (N' := 8) (by decide) rfl (by decide) (Nat.le_of_ble_eq_true rfl) (Nat.le_of_ble_eq_true rfl) d_Needs_init_15 (fun H hW hS => ?_)
  have hW := hg_grow hW (by omega) (sc_fin_a (sc_s_ia8 (sck_Needs2 hi)) (sc_ne1 (sck_Needs2 hi) (by decide)))
  refine hg_putF hx hb hts i_Needs t_Needs t_Needs_ok n_Needs hown hK hW hS (i) (by omega) hg_mid_self rfl 1 (by decide) (hts _ ct_wd_5) (fun _ h => h) rfl hin rfl (ty := .array .int) (v := .ref (B + (i + 2))) (by decide +kernel) rfl rfl (Nat.le_of_ble_eq_true rfl) d_Needs_init_17 (fun H locs hW hS => ?_)
  have hW := hg_setm hW
  refine lv_aload_n hx hb d_Needs_init_20 rfl (lv_at hl 0 rfl) ?_
  refine lv_bipush (v := 8) hx hb d_Needs_init_21 (by decide) ?_
  refine hg_newa (atype := .int) hx hb (hts _ ct_wd_4) (ty := .int) rfl (t := 0) (hK.2 0 _ rfl).2 rfl hW hS (N' := 8) (by decide) rfl (by decide) (Nat.le_of_ble_eq_true rfl) (Nat.le_of_ble_eq_true rfl) d_Needs_init_23 (fun H hW hS => ?_)
  have hW := hg_grow hW (by omega) (sc_fin_a (sc_s_ia8 (sck_Needs3 hi)) (sc_ne1 (sck_Needs3 hi) (by decide)))
  refine hg_putF hx hb hts i_Needs t_Needs t_Needs_ok n_Needs hown hK hW hS (i) (by omega) hg_mid_self rfl 2 (by decide) (hts _ ct_wd_6) (fun _ h => h) rfl hin rfl (ty := .array .int) (v := .ref (B + (i + 3))) (by decide +kernel) rfl rfl (Nat.le_of_ble_eq_true rfl) d_Needs_init_25 (fun H locs hW hS => ?_)
  have hW := hg_setm hW
  exact W.vret hx hb hr (fun t ht _ => ⟨⟨(), rfl, trivial, by subst ht; exact hg_done hW ((sc_fin_o (sc_s_Needs hi) (sc_ne1 hi (by decide))).trans rfl)⟩, hS.F ht⟩) hS.2.2 d_Needs_init_28 hlk
set_option maxHeartbeats 4000000 in
set_option maxRecDepth 100000 in
theorem c_Stage_init {l : Launch} {D : va_G} {ca : Nat → ClassId} {B rl i : Nat} {E : Nat → va_E} (hi : sc_kd i = 5) (hE : E i = .inr (2, [.int 0, .int 0, .int 0, .int 0, .null, .null, .null])) : Met l y_Stage_init [Cond.code y_Stage_init b_Stage_init 1 none] ({ frames := 1, cells := 3, slots := 12, locals := 30 } : Room) (hg_Pre D sc_cl B (i + 1) E (sc_ty ca) hq_tb [.ref (B + i)]) (hg_Q D sc_cl B (i + 4) (hg_mix E i (sc_fin ca rl B))) 3 12 (hg_A B) := by
  refine Met.ofW (cc := b_Stage_init) (maxL := 1) (ret := none) (by decide +kernel) rfl ?_
  intro p e s m args below meth c s₁ Bd hml hv
  obtain ⟨rfl, hW, hKt⟩ := hv
  have hx := Bd.exec
  have hb := Bd.bytes
  have hr := Bd.returns
  have hown : s.vm.findClass R_Stage = some m.cls := findClass_of_methodNamed Bd.named
  have hlk := Bd.notSynchronized
  have hin : meth.name = "<init>" := (name_of_methodNamed Bd.named Bd.method).1
  have hK := hKt.1
  have hts : ∀ w ∈ hq_tb, w.before ([.ref (B + i)] : List Value).toArray s = true := fun w h => hKt.2.2 w h _
  have hS : va_S (hg_A B) s.heap s.heap [] := va_S.rf
  have hl := lv_entry ([.ref (B + i)]) (n := 1) (Nat.le_of_ble_eq_true rfl)
  rw [lg_entry_eq]
  generalize (lg_sl ([.ref (B + i)]) ++ List.replicate (1 - (lg_sl ([.ref (B + i)])).length) Slot.unset).toArray = ls at hl ⊢
  have hl : lv_has ls 1 [(0, .ref (B + i))] := hl
  have hW := hg_start (F := sc_fin ca rl B) hW
  rw [hE] at hW
  refine lv_aload_n hx hb d_Stage_init_0 rfl (lv_at hl 0 rfl) ?_
  refine W.objInit hx hb hown (hts _ ct_wd_7) (hts _ ct_wd_1) (hts _ ct_objcode) rfl (by rw [hml]; exact hl.1) rfl d_Stage_init_1 (Nat.le_of_ble_eq_true rfl) (Nat.le_of_ble_eq_true rfl) ?_
  refine W.eq (g2 := F0 m 4 ls []) rfl ?_
  refine lv_aload_n hx hb d_Stage_init_4 rfl (lv_at hl 0 rfl) ?_
  refine lv_iconst (v := 4) hx hb d_Stage_init_5 (by decide) ?_
  refine hg_newa (atype := .int) hx hb (hts _ ct_wd_4) (ty := .int) rfl (t := 0) (hK.2 0 _ rfl).2 rfl hW hS (N' := 4) (by decide) rfl (by decide) (Nat.le_of_ble_eq_true rfl) (Nat.le_of_ble_eq_true rfl) d_Stage_init_6 (fun H hW hS => ?_)
  have hW := hg_grow hW (by omega) (sc_fin_a (sc_s_ia4 (sck_Stage1 hi)) (sc_ne1 (sck_Stage1 hi) (by decide)))
  refine hg_putF hx hb hts i_Stage t_Stage t_Stage_ok n_Stage hown hK hW hS (i) (by omega) hg_mid_self rfl 4 (by decide) (hts _ ct_wd_8) (fun _ h => h) rfl hin rfl (ty := .array .int) (v := .ref (B + (i + 1))) (by decide +kernel) rfl rfl (Nat.le_of_ble_eq_true rfl) d_Stage_init_8 (fun H locs hW hS => ?_)
  have hW := hg_setm hW
  refine lv_aload_n hx hb d_Stage_init_11 rfl (lv_at hl 0 rfl) ?_
  refine lv_iconst (v := 4) hx hb d_Stage_init_12 (by decide) ?_
  refine hg_newa (atype := .int) hx hb (hts _ ct_wd_4) (ty := .int) rfl (t := 0) (hK.2 0 _ rfl).2 rfl hW hS (N' := 4) (by decide) rfl (by decide) (Nat.le_of_ble_eq_true rfl) (Nat.le_of_ble_eq_true rfl) d_Stage_init_13 (fun H hW hS => ?_)
  have hW := hg_grow hW (by omega) (sc_fin_a (sc_s_ia4 (sck_Stage2 hi)) (sc_ne1 (sck_Stage2 hi) (by decide)))
  refine hg_putF hx hb hts i_Stage t_Stage t_Stage_ok n_Stage hown hK hW hS (i) (by omega) hg_mid_self rfl 5 (by decide) (hts _ ct_wd_9) (fun _ h => h) rfl hin rfl (ty := .array .int) (v := .ref (B + (i + 2))) (by decide +kernel) rfl rfl (Nat.le_of_ble_eq_true rfl) d_Stage_init_15 (fun H locs hW hS => ?_)
  have hW := hg_setm hW
  refine lv_aload_n hx hb d_Stage_init_18 rfl (lv_at hl 0 rfl) ?_
  refine lv_iconst (v := 4) hx hb d_Stage_init_19 (by decide) ?_
  refine hg_newa (atype := .int) hx hb (hts _ ct_wd_4) (ty := .int) rfl (t := 0) (hK.2 0 _ rfl).2 rfl hW hS (N' := 4) (by decide) rfl (by decide) (Nat.le_of_ble_eq_true rfl) (Nat.le_of_ble_eq_true rfl) d_Stage_init_20 (fun H hW hS => ?_)
  have hW := hg_grow hW (by omega) (sc_fin_a (sc_s_ia4 (sck_Stage3 hi)) (sc_ne1 (sck_Stage3 hi) (by decide)))
  refine hg_putF hx hb hts i_Stage t_Stage t_Stage_ok n_Stage hown hK hW hS (i) (by omega) hg_mid_self rfl 6 (by decide) (hts _ ct_wd_10) (fun _ h => h) rfl hin rfl (ty := .array .int) (v := .ref (B + (i + 3))) (by decide +kernel) rfl rfl (Nat.le_of_ble_eq_true rfl) d_Stage_init_22 (fun H locs hW hS => ?_)
  have hW := hg_setm hW
  exact W.vret hx hb hr (fun t ht _ => ⟨⟨(), rfl, trivial, by subst ht; exact hg_done hW ((sc_fin_o (sc_s_Stage hi) (sc_ne1 hi (by decide))).trans rfl)⟩, hS.F ht⟩) hS.2.2 d_Stage_init_25 hlk
