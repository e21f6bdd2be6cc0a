/-! Plan and Runner -/
set_option maxHeartbeats 4000000 in
set_option maxRecDepth 100000 in
theorem c_Plan_init {l : Launch} {D : va_G} {ca : Nat → ClassId} {B rl : Nat} {E : Nat → va_E} (hE : E 37 = .inr (3, [.null, .null, .null, .null, .null, .int 0, .int 0, .int 0])) : Met l y_Plan_init [Cond.code y_Plan_init b_Plan_init 2 none] ({ frames := 2, cells := 10, slots := 70, locals := 60 } : Room) (hg_Pre2 D sc_cl B 38 E (sc_ty ca) hq_tb [.ref (B + 37), .ref (B + 1)]) (hg_Q D sc_cl B 48 (hg_mix E 37 (sc_fin ca rl B))) 10 70 (hg_A B) := by
  refine Met.ofW (cc := b_Plan_init) (maxL := 2) (ret := none) (by decide +kernel) rfl ?_
  intro p e s m args below meth c s₁ Bd hml hv
  obtain ⟨rfl, hW, hKt, hO⟩ := hv
  have hx := Bd.exec
  have hb := Bd.bytes
  have hr := Bd.returns
  have hown : s.vm.findClass R_Plan = some m.cls := findClass_of_methodNamed Bd.named
  have hlk := Bd.notSynchronized
  have hin : meth.name = "<init>" := (name_of_methodNamed Bd.named Bd.method).1
  have hK := hKt.1
  have hts : ∀ w ∈ hq_tb, w.before ([.ref (B + 37), .ref (B + 1)] : List Value).toArray s = true := fun w h => hKt.2.2 w h _
  have hS : va_S (hg_A B) s.heap s.heap [] := va_S.rf
  have hl := lv_entry ([.ref (B + 37), .ref (B + 1)]) (n := 2) (Nat.le_of_ble_eq_true rfl)
  rw [lg_entry_eq]
  generalize (lg_sl ([.ref (B + 37), .ref (B + 1)]) ++ List.replicate (2 - (lg_sl ([.ref (B + 37), .ref (B + 1)])).length) Slot.unset).toArray = ls at hl ⊢
  have hl : lv_has ls 2 [(0, .ref (B + 37)), (1, .ref (B + 1))] := hl
  have hW := hg_start (F := (sc_fin ca rl B)) hW
  rw [hE] at hW
  refine lv_aload_n hx hb d_Plan_init_0 rfl (lv_at hl 0 rfl) ?_
  refine W.objInit hx hb hown (hts _ ct_wd_23) (hts _ ct_wd_1) (hts _ ct_objcode) rfl (by rw [hml]; exact hl.1) rfl d_Plan_init_1 (Nat.le_of_ble_eq_true rfl) (Nat.le_of_ble_eq_true rfl) ?_
  refine W.eq (g2 := F0 m 4 ls []) rfl ?_
  refine lv_aload_n hx hb d_Plan_init_4 rfl (lv_at hl 0 rfl) ?_
  refine hg_new hx hb hts i_Needs t_Needs t_Needs_ok hown (hts _ ct_wd_24) (hts _ ct_wd_25) (hts _ ct_wd_26) hK hW hS (ci := 4) rfl (fs := [.null, .null, .null]) (by decide) (Nat.le_of_ble_eq_true rfl) (Nat.le_of_ble_eq_true rfl) d_Plan_init_5 (fun H hW hS => ?_)
  refine lv_dup hx hb d_Plan_init_8 rfl ?_
  refine hg_call (va_runIN (As := []) (rest := [.ref (B + 38), .ref (B + 37)]) ⟨hx, hb, hml, hown, hts⟩ (c_Needs_init (l := l) (D := D) (ca := ca) (B := B) (rl := rl) (i := 38) (E := va_up (hg_mid E 37 (.inr (3, [.null, .null, .null, .null, .null, .int 0, .int 0, .int 0])) (sc_fin ca rl B)) 38 (.inr (4, [.null, .null, .null]))) rfl (va_up_self _ _ _)) (hg_cwN (nn := 0) hts ct_wd_27 ct_wd_26 ct_wd_28 ct_wd_29 rfl (by decide +kernel) rfl rfl ⟨(Nat.le_of_ble_eq_true rfl), (Nat.le_of_ble_eq_true rfl)⟩) (hg_pre hKt hW) rfl rfl hl.1 rfl (lv_room (Nat.le_of_ble_eq_true rfl)) d_Plan_init_9 ⟨(Nat.le_of_ble_eq_true rfl), (Nat.le_of_ble_eq_true rfl)⟩) hS (fun H locs hW hS => ?_)
  have hW := hg_back hW (by omega)
  refine hg_putF hx hb hts i_Plan t_Plan t_Plan_ok n_Plan hown hK hW hS (37) (by omega) hg_mid_self rfl 1 (by decide) (hts _ ct_wd_30) (fun _ h => h) rfl hin rfl (ty := .object "StencilCompiler$Needs") (v := .ref (B + 38)) (by decide +kernel) rfl rfl (Nat.le_of_ble_eq_true rfl) d_Plan_init_12 (fun H locs hW hS => ?_)
  have hW := hg_setm hW
  refine lv_aload_n hx hb d_Plan_init_15 rfl (lv_at hl 0 rfl) ?_
  refine hg_new hx hb hts i_Needs t_Needs t_Needs_ok hown (hts _ ct_wd_24) (hts _ ct_wd_25) (hts _ ct_wd_26) hK hW hS (ci := 4) rfl (fs := [.null, .null, .null]) (by decide) (Nat.le_of_ble_eq_true rfl) (Nat.le_of_ble_eq_true rfl) d_Plan_init_16 (fun H hW hS => ?_)
  refine lv_dup hx hb d_Plan_init_19 rfl ?_
  refine hg_call (va_runIN (As := []) (rest := [.ref (B + 42), .ref (B + 37)]) ⟨hx, hb, hml, hown, hts⟩ (c_Needs_init (l := l) (D := D) (ca := ca) (B := B) (rl := rl) (i := 42) (E := va_up (hg_mid E 37 (.inr (3, ([.null, .null, .null, .null, .null, .int 0, .int 0, .int 0] : List Value).set 1 (.ref (B + 38)))) (sc_fin ca rl B)) 42 (.inr (4, [.null, .null, .null]))) rfl (va_up_self _ _ _)) (hg_cwN (nn := 0) hts ct_wd_27 ct_wd_26 ct_wd_28 ct_wd_29 rfl (by decide +kernel) rfl rfl ⟨(Nat.le_of_ble_eq_true rfl), (Nat.le_of_ble_eq_true rfl)⟩) (hg_pre hKt hW) rfl rfl hl.1 rfl (lv_room (Nat.le_of_ble_eq_true rfl)) d_Plan_init_20 ⟨(Nat.le_of_ble_eq_true rfl), (Nat.le_of_ble_eq_true rfl)⟩) hS (fun H locs hW hS => ?_)
  have hW := hg_back hW (by omega)
  refine hg_putF hx hb hts i_Plan t_Plan t_Plan_ok n_Plan hown hK hW hS (37) (by omega) hg_mid_self rfl 2 (by decide) (hts _ ct_wd_31) (fun _ h => h) rfl hin rfl (ty := .object "StencilCompiler$Needs") (v := .ref (B + 42)) (by decide +kernel) rfl rfl (Nat.le_of_ble_eq_true rfl) d_Plan_init_23 (fun H locs hW hS => ?_)
  have hW := hg_setm hW
  refine lv_aload_n hx hb d_Plan_init_26 rfl (lv_at hl 0 rfl) ?_
  refine lv_bipush (v := 8) hx hb d_Plan_init_27 (by decide) ?_
  refine hg_newa (atype := .boolean) hx hb (hts _ ct_wd_2) (ty := .boolean) rfl (t := 1) (hK.2 1 _ rfl).2 rfl hW hS (N' := 8) (by decide) rfl (by decide) (Nat.le_of_ble_eq_true rfl) (Nat.le_of_ble_eq_true rfl) d_Plan_init_29 (fun H hW hS => ?_)
  have hW := hg_grow hW (by omega) (sc_fin_a (sc_s_za8 rfl) (by decide))
  refine hg_putF hx hb hts i_Plan t_Plan t_Plan_ok n_Plan hown hK hW hS (37) (by omega) hg_mid_self rfl 3 (by decide) (hts _ ct_wd_32) (fun _ h => h) rfl hin rfl (ty := .array .boolean) (v := .ref (B + 46)) (by decide +kernel) rfl rfl (Nat.le_of_ble_eq_true rfl) d_Plan_init_31 (fun H locs hW hS => ?_)
  have hW := hg_setm hW
  refine lv_aload_n hx hb d_Plan_init_34 rfl (lv_at hl 0 rfl) ?_
  refine lv_bipush (v := 8) hx hb d_Plan_init_35 (by decide) ?_
  refine hg_newa (atype := .int) hx hb (hts _ ct_wd_4) (ty := .int) rfl (t := 0) (hK.2 0 _ rfl).2 rfl hW hS (N' := 8) (by decide) rfl (by decide) (Nat.le_of_ble_eq_true rfl) (Nat.le_of_ble_eq_true rfl) d_Plan_init_37 (fun H hW hS => ?_)
  have hW := hg_grow hW (by omega) (sc_fin_a (sc_s_ia8 rfl) (by decide))
  refine hg_putF hx hb hts i_Plan t_Plan t_Plan_ok n_Plan hown hK hW hS (37) (by omega) hg_mid_self rfl 4 (by decide) (hts _ ct_wd_33) (fun _ h => h) rfl hin rfl (ty := .array .int) (v := .ref (B + 47)) (by decide +kernel) rfl rfl (Nat.le_of_ble_eq_true rfl) d_Plan_init_39 (fun H locs hW hS => ?_)
  have hW := hg_setm hW
  refine lv_aload_n hx hb d_Plan_init_42 rfl (lv_at hl 0 rfl) ?_
  refine lv_aload_n hx hb d_Plan_init_43 rfl (lv_at hl 1 rfl) ?_
  refine hg_putF hx hb hts i_Plan t_Plan t_Plan_ok n_Plan hown hK hW hS (37) (by omega) hg_mid_self rfl 0 (by decide) (hts _ ct_wd_34) (fun _ h => h) rfl hin rfl (ty := .object "StencilCompiler$Pipeline") (v := .ref (B + 1)) (by decide +kernel) rfl rfl (Nat.le_of_ble_eq_true rfl) d_Plan_init_44 (fun H locs hW hS => ?_)
  have hW := hg_setm hW
  exact W.vret hx hb hr (fun t ht _ => ⟨⟨(), rfl, trivial, by subst ht; exact hg_done hW ((sc_fin_o (sc_s_Plan rfl) (by decide)).trans rfl)⟩, hS.F ht⟩) hS.2.2 d_Plan_init_47 hlk
set_option maxHeartbeats 4000000 in
set_option maxRecDepth 100000 in
theorem c_Runner_init {l : Launch} {D : va_G} {ca : Nat → ClassId} {B rl : Nat} {E : Nat → va_E} (hE : E 48 = .inr (5, [.null, .null, .null, .null, .null])) : Met l y_Runner_init [Cond.code y_Runner_init b_Runner_init 2 none] ({ frames := 2, cells := 15, slots := 779, locals := 60 } : Room) (hg_Pre2 D sc_cl B 49 E (sc_ty ca) hq_tb [.ref (B + 48), .ref (B + 1)]) (hg_Q D sc_cl B 64 (hg_mix E 48 (sc_fin ca rl B))) 15 779 (hg_A B) := by
  refine Met.ofW (cc := b_Runner_init) (maxL := 2) (ret := none) (by decide +kernel) rfl ?_
  intro p e s m args below meth c s₁ Bd hml hv
  obtain ⟨rfl, hW, hKt, hO⟩ := hv
  have hx := Bd.exec
  have hb := Bd.bytes
  have hr := Bd.returns
  have hown : s.vm.findClass R_Runner = some m.cls := findClass_of_methodNamed Bd.named
  have hlk := Bd.notSynchronized
  have hin : meth.name = "<init>" := (name_of_methodNamed Bd.named Bd.method).1
  have hK := hKt.1
  have hts : ∀ w ∈ hq_tb, w.before ([.ref (B + 48), .ref (B + 1)] : List Value).toArray s = true := fun w h => hKt.2.2 w h _
  have hS : va_S (hg_A B) s.heap s.heap [] := va_S.rf
  have hl := lv_entry ([.ref (B + 48), .ref (B + 1)]) (n := 2) (Nat.le_of_ble_eq_true rfl)
  rw [lg_entry_eq]
  generalize (lg_sl ([.ref (B + 48), .ref (B + 1)]) ++ List.replicate (2 - (lg_sl ([.ref (B + 48), .ref (B + 1)])).length) Slot.unset).toArray = ls at hl ⊢
  have hl : lv_has ls 2 [(0, .ref (B + 48)), (1, .ref (B + 1))] := hl
  have hW := hg_start (F := (sc_fin ca rl B)) hW
  rw [hE] at hW
  refine lv_aload_n hx hb d_Runner_init_0 rfl (lv_at hl 0 rfl) ?_
  refine W.objInit hx hb hown (hts _ ct_wd_35) (hts _ ct_wd_1) (hts _ ct_objcode) rfl (by rw [hml]; exact hl.1) rfl d_Runner_init_1 (Nat.le_of_ble_eq_true rfl) (Nat.le_of_ble_eq_true rfl) ?_
  refine W.eq (g2 := F0 m 4 ls []) rfl ?_
  refine lv_aload_n hx hb d_Runner_init_4 rfl (lv_at hl 0 rfl) ?_
  refine hg_new hx hb hts i_Needs t_Needs t_Needs_ok hown (hts _ ct_wd_36) (hts _ ct_wd_25) (hts _ ct_wd_26) hK hW hS (ci := 4) rfl (fs := [.null, .null, .null]) (by decide) (Nat.le_of_ble_eq_true rfl) (Nat.le_of_ble_eq_true rfl) d_Runner_init_5 (fun H hW hS => ?_)
  refine lv_dup hx hb d_Runner_init_8 rfl ?_
  refine hg_call (va_runIN (As := []) (rest := [.ref (B + 49), .ref (B + 48)]) ⟨hx, hb, hml, hown, hts⟩ (c_Needs_init (l := l) (D := D) (ca := ca) (B := B) (rl := rl) (i := 49) (E := va_up (hg_mid E 48 (.inr (5, [.null, .null, .null, .null, .null])) (sc_fin ca rl B)) 49 (.inr (4, [.null, .null, .null]))) rfl (va_up_self _ _ _)) (hg_cwN (nn := 0) hts ct_wd_27 ct_wd_26 ct_wd_37 ct_wd_29 rfl (by decide +kernel) rfl rfl ⟨(Nat.le_of_ble_eq_true rfl), (Nat.le_of_ble_eq_true rfl)⟩) (hg_pre hKt hW) rfl rfl hl.1 rfl (lv_room (Nat.le_of_ble_eq_true rfl)) d_Runner_init_9 ⟨(Nat.le_of_ble_eq_true rfl), (Nat.le_of_ble_eq_true rfl)⟩) hS (fun H locs hW hS => ?_)
  have hW := hg_back hW (by omega)
  refine hg_putF hx hb hts i_Runner t_Runner t_Runner_ok n_Runner hown hK hW hS (48) (by omega) hg_mid_self rfl 1 (by decide) (hts _ ct_wd_38) (fun _ h => h) rfl hin rfl (ty := .object "StencilCompiler$Needs") (v := .ref (B + 49)) (by decide +kernel) rfl rfl (Nat.le_of_ble_eq_true rfl) d_Runner_init_12 (fun H locs hW hS => ?_)
  have hW := hg_setm hW
  refine lv_aload_n hx hb d_Runner_init_15 rfl (lv_at hl 0 rfl) ?_
  refine lv_bipush (v := 8) hx hb d_Runner_init_16 (by decide) ?_
  refine hg_newa (atype := .boolean) hx hb (hts _ ct_wd_2) (ty := .boolean) rfl (t := 1) (hK.2 1 _ rfl).2 rfl hW hS (N' := 8) (by decide) rfl (by decide) (Nat.le_of_ble_eq_true rfl) (Nat.le_of_ble_eq_true rfl) d_Runner_init_18 (fun H hW hS => ?_)
  have hW := hg_grow hW (by omega) (sc_fin_a (sc_s_za8 rfl) (by decide))
  refine hg_putF hx hb hts i_Runner t_Runner t_Runner_ok n_Runner hown hK hW hS (48) (by omega) hg_mid_self rfl 2 (by decide) (hts _ ct_wd_39) (fun _ h => h) rfl hin rfl (ty := .array .boolean) (v := .ref (B + 53)) (by decide +kernel) rfl rfl (Nat.le_of_ble_eq_true rfl) d_Runner_init_20 (fun H locs hW hS => ?_)
  have hW := hg_setm hW
  refine lv_aload_n hx hb d_Runner_init_23 rfl (lv_at hl 0 rfl) ?_
  refine lv_bipush (v := 8) hx hb d_Runner_init_24 (by decide) ?_
  refine lv_bipush (v := 88) hx hb d_Runner_init_26 (by decide) ?_
  refine hg_mna hx hb hown (hts _ ct_wd_40) hO.2 (hts _ ct_wd_4) (t := 0) (t2 := 3) (hK.2 0 _ rfl).2 (hK.2 3 _ rfl).2 hW hS (N' := 8) (K' := 88) (by decide) (by decide) rfl rfl (by decide) (by decide) (by decide) (Nat.le_of_ble_eq_true rfl) (Nat.le_of_ble_eq_true rfl) d_Runner_init_28 (fun _ _ => rfl) (g := fun j => some (B + (55 + j))) ((hg_mid_gt (by omega)).trans rfl) (fun j hj => by rw [show 54 + 1 + j = 55 + j by omega]) (fun j hj => (hg_mid_gt (by omega)).trans (sc_fin_a (sc_s_ia88 (sck_gr0 j hj)) (by omega))) (fun H hW hS => ?_)
  refine hg_putF hx hb hts i_Runner t_Runner t_Runner_ok n_Runner hown hK hW hS (48) (by omega) hg_mid_self rfl 3 (by decide) (hts _ ct_wd_41) (fun _ h => h) rfl hin rfl (ty := .array (.array .int)) (v := .ref (B + 54)) (by decide +kernel) rfl rfl (Nat.le_of_ble_eq_true rfl) d_Runner_init_32 (fun H locs hW hS => ?_)
  have hW := hg_setm hW
  refine lv_aload_n hx hb d_Runner_init_35 rfl (lv_at hl 0 rfl) ?_
  refine lv_bipush (v := 32) hx hb d_Runner_init_36 (by decide) ?_
  refine hg_newa (atype := .int) hx hb (hts _ ct_wd_4) (ty := .int) rfl (t := 0) (hK.2 0 _ rfl).2 rfl hW hS (N' := 32) (by decide) rfl (by decide) (Nat.le_of_ble_eq_true rfl) (Nat.le_of_ble_eq_true rfl) d_Runner_init_38 (fun H hW hS => ?_)
  have hW := hg_grow hW (by omega) (sc_fin_a (sc_s_ia32 rfl) (by decide))
  refine hg_putF hx hb hts i_Runner t_Runner t_Runner_ok n_Runner hown hK hW hS (48) (by omega) hg_mid_self rfl 4 (by decide) (hts _ ct_wd_42) (fun _ h => h) rfl hin rfl (ty := .array .int) (v := .ref (B + 63)) (by decide +kernel) rfl rfl (Nat.le_of_ble_eq_true rfl) d_Runner_init_40 (fun H locs hW hS => ?_)
  have hW := hg_setm hW
  refine lv_aload_n hx hb d_Runner_init_43 rfl (lv_at hl 0 rfl) ?_
  refine lv_aload_n hx hb d_Runner_init_44 rfl (lv_at hl 1 rfl) ?_
  refine hg_putF hx hb hts i_Runner t_Runner t_Runner_ok n_Runner hown hK hW hS (48) (by omega) hg_mid_self rfl 0 (by decide) (hts _ ct_wd_43) (fun _ h => h) rfl hin rfl (ty := .object "StencilCompiler$Pipeline") (v := .ref (B + 1)) (by decide +kernel) rfl rfl (Nat.le_of_ble_eq_true rfl) d_Runner_init_45 (fun H locs hW hS => ?_)
  have hW := hg_setm hW
  exact W.vret hx hb hr (fun t ht _ => ⟨⟨(), rfl, trivial, by subst ht; exact hg_done hW ((sc_fin_o (sc_s_Runner rfl) (by decide)).trans rfl)⟩, hS.F ht⟩) hS.2.2 d_Runner_init_48 hlk
