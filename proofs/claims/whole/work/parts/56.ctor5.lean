/-! StencilCompilerModel -/
def mo_M0 (rl : Nat) : hm_M := fun i => if i = 0 then (fun k => if k = 0 then nI rl else if k = 10 then 4 else if k = 11 then -1 else 0) else fun _ => 0
def mo_fin (ca : Nat → ClassId) (rl B : Nat) : Nat → va_E := fun i => hm_en ca B (mo_sh i) (mo_M0 rl i) (hm_L0 i)
theorem mo_rl_1 {x : Int32} (h : ¬ 1 ≤ x) : (1 : Int32) = nI (sc_ln x) := by
  rw [sc_ln_nI]
  have h1 : ¬ 1 ≤ x.toInt := fun z => h (Int32.le_iff_toInt_le.mpr z)
  rw [show max 1 (min 24 x.toInt) = 1 by omega]
  rfl
theorem mo_rl_24 {x : Int32} (h : ¬ x ≤ 24) : (24 : Int32) = nI (sc_ln x) := by
  rw [sc_ln_nI]
  have h1 : ¬ x.toInt ≤ 24 := fun z => h (Int32.le_iff_toInt_le.mpr z)
  rw [show max 1 (min 24 x.toInt) = 24 by omega]
  rfl
theorem mo_rl_x {x : Int32} (h : 1 ≤ x) (h' : x ≤ 24) : x = nI (sc_ln x) := by
  rw [sc_ln_nI]
  have h1 : 1 ≤ x.toInt := Int32.le_iff_toInt_le.mp h
  have h2 : x.toInt ≤ 24 := Int32.le_iff_toInt_le.mp h'
  rw [show max 1 (min 24 x.toInt) = x.toInt by omega]
  exact iI_of x
set_option maxHeartbeats 4000000 in
set_option maxRecDepth 100000 in
theorem c_Mo_init {l : Launch} {D : va_G} {ca : Nat → ClassId} {B : Nat} {x : Int32} {E : Nat → va_E} (hE : E 0 = .inr (0, [.int 0, .null, .null, .null, .null, .null, .null, .null, .null, .int 0, .int 0, .int 0, .int 0, .int 0, .int 0, .null, .null, .null, .null, .null, .null])) : Met l y_Mo_init [Cond.code y_Mo_init b_Mo_init 2 none] ({ frames := 1, cells := 14, slots := 704, locals := 30 } : Room) (hg_Pre D mo_cl B 1 E (mo_ty ca) hq_tb [.ref (B + 0), .int x]) (hg_Q D mo_cl B 15 (hg_mix E 0 (mo_fin ca (sc_ln x) B))) 14 704 (hg_A B) := by
  refine Met.ofW (cc := b_Mo_init) (maxL := 2) (ret := none) (by decide +kernel) rfl ?_
  intro p e s m args below meth c s₁ Bd hml hv
  obtain ⟨rfl, hW, hKt⟩ := hv
  have hx := Bd.exec
  have hb := Bd.bytes
  have hr := Bd.returns
  have hown : s.vm.findClass R_Mo = some m.cls := findClass_of_methodNamed Bd.named
  have hlk := Bd.notSynchronized
  have hin : meth.name = "<init>" := (name_of_methodNamed Bd.named Bd.method).1
  have hK := hKt.1
  have hts : ∀ w ∈ hq_tb, w.before ([.ref (B + 0), .int x] : List Value).toArray s = true := fun w h => hKt.2.2 w h _
  have hS : va_S (hg_A B) s.heap s.heap [] := va_S.rf
  have hl := lv_entry ([.ref (B + 0), .int x]) (n := 2) (Nat.le_of_ble_eq_true rfl)
  rw [lg_entry_eq]
  generalize (lg_sl ([.ref (B + 0), .int x]) ++ List.replicate (2 - (lg_sl ([.ref (B + 0), .int x])).length) Slot.unset).toArray = ls at hl ⊢
  have hl : lv_has ls 2 [(0, .ref (B + 0)), (1, .int x)] := hl
  have hW := hg_start (F := (mo_fin ca (sc_ln x) B)) hW
  rw [hE] at hW
  refine lv_aload_n hx hb d_Mo_init_0 rfl (lv_at hl 0 rfl) ?_
  refine W.objInit hx hb hown (hts _ ct_wd_68) (hts _ ct_wd_1) (hts _ ct_objcode) rfl (by rw [hml]; exact hl.1) rfl d_Mo_init_1 (Nat.le_of_ble_eq_true rfl) (Nat.le_of_ble_eq_true rfl) ?_
  refine W.eq (g2 := F0 m 4 ls []) rfl ?_
  refine lv_aload_n hx hb d_Mo_init_4 rfl (lv_at hl 0 rfl) ?_
  refine lv_bipush (v := 24) hx hb d_Mo_init_5 (by decide) ?_
  refine hg_newa (atype := .int) hx hb (hts _ ct_wd_4) (ty := .int) rfl (t := 0) (hK.2 0 _ rfl).2 rfl hW hS (N' := 24) (by decide) rfl (by decide) (Nat.le_of_ble_eq_true rfl) (Nat.le_of_ble_eq_true rfl) d_Mo_init_7 (fun H hW hS => ?_)
  have hW := hg_grow hW (by omega) (rfl)
  refine hg_putF hx hb hts i_Mo t_Mo t_Mo_ok n_Mo hown hK hW hS (0) (by omega) hg_mid_self rfl 1 (by decide) (hts _ ct_wd_69) (fun _ h => h) rfl hin rfl (ty := .array .int) (v := .ref (B + 1)) (by decide +kernel) rfl rfl (Nat.le_of_ble_eq_true rfl) d_Mo_init_9 (fun H locs hW hS => ?_)
  have hW := hg_setm hW
  refine lv_aload_n hx hb d_Mo_init_12 rfl (lv_at hl 0 rfl) ?_
  refine lv_bipush (v := 8) hx hb d_Mo_init_13 (by decide) ?_
  refine hg_newa (atype := .int) hx hb (hts _ ct_wd_4) (ty := .int) rfl (t := 0) (hK.2 0 _ rfl).2 rfl hW hS (N' := 8) (by decide) rfl (by decide) (Nat.le_of_ble_eq_true rfl) (Nat.le_of_ble_eq_true rfl) d_Mo_init_15 (fun H hW hS => ?_)
  have hW := hg_grow hW (by omega) (rfl)
  refine hg_putF hx hb hts i_Mo t_Mo t_Mo_ok n_Mo hown hK hW hS (0) (by omega) hg_mid_self rfl 2 (by decide) (hts _ ct_wd_70) (fun _ h => h) rfl hin rfl (ty := .array .int) (v := .ref (B + 2)) (by decide +kernel) rfl rfl (Nat.le_of_ble_eq_true rfl) d_Mo_init_17 (fun H locs hW hS => ?_)
  have hW := hg_setm hW
  refine lv_aload_n hx hb d_Mo_init_20 rfl (lv_at hl 0 rfl) ?_
  refine lv_bipush (v := 8) hx hb d_Mo_init_21 (by decide) ?_
  refine hg_newa (atype := .int) hx hb (hts _ ct_wd_4) (ty := .int) rfl (t := 0) (hK.2 0 _ rfl).2 rfl hW hS (N' := 8) (by decide) rfl (by decide) (Nat.le_of_ble_eq_true rfl) (Nat.le_of_ble_eq_true rfl) d_Mo_init_23 (fun H hW hS => ?_)
  have hW := hg_grow hW (by omega) (rfl)
  refine hg_putF hx hb hts i_Mo t_Mo t_Mo_ok n_Mo hown hK hW hS (0) (by omega) hg_mid_self rfl 3 (by decide) (hts _ ct_wd_71) (fun _ h => h) rfl hin rfl (ty := .array .int) (v := .ref (B + 3)) (by decide +kernel) rfl rfl (Nat.le_of_ble_eq_true rfl) d_Mo_init_25 (fun H locs hW hS => ?_)
  have hW := hg_setm hW
  refine lv_aload_n hx hb d_Mo_init_28 rfl (lv_at hl 0 rfl) ?_
  refine lv_bipush (v := 8) hx hb d_Mo_init_29 (by decide) ?_
  refine hg_newa (atype := .int) hx hb (hts _ ct_wd_4) (ty := .int) rfl (t := 0) (hK.2 0 _ rfl).2 rfl hW hS (N' := 8) (by decide) rfl (by decide) (Nat.le_of_ble_eq_true rfl) (Nat.le_of_ble_eq_true rfl) d_Mo_init_31 (fun H hW hS => ?_)
  have hW := hg_grow hW (by omega) (rfl)
  refine hg_putF hx hb hts i_Mo t_Mo t_Mo_ok n_Mo hown hK hW hS (0) (by omega) hg_mid_self rfl 4 (by decide) (hts _ ct_wd_72) (fun _ h => h) rfl hin rfl (ty := .array .int) (v := .ref (B + 4)) (by decide +kernel) rfl rfl (Nat.le_of_ble_eq_true rfl) d_Mo_init_33 (fun H locs hW hS => ?_)
  have hW := hg_setm hW
  refine lv_aload_n hx hb d_Mo_init_36 rfl (lv_at hl 0 rfl) ?_
  refine lv_bipush (v := 32) hx hb d_Mo_init_37 (by decide) ?_
  refine hg_newa (atype := .int) hx hb (hts _ ct_wd_4) (ty := .int) rfl (t := 0) (hK.2 0 _ rfl).2 rfl hW hS (N' := 32) (by decide) rfl (by decide) (Nat.le_of_ble_eq_true rfl) (Nat.le_of_ble_eq_true rfl) d_Mo_init_39 (fun H hW hS => ?_)
  have hW := hg_grow hW (by omega) (rfl)
  refine hg_putF hx hb hts i_Mo t_Mo t_Mo_ok n_Mo hown hK hW hS (0) (by omega) hg_mid_self rfl 5 (by decide) (hts _ ct_wd_73) (fun _ h => h) rfl hin rfl (ty := .array .int) (v := .ref (B + 5)) (by decide +kernel) rfl rfl (Nat.le_of_ble_eq_true rfl) d_Mo_init_41 (fun H locs hW hS => ?_)
  have hW := hg_setm hW
  refine lv_aload_n hx hb d_Mo_init_44 rfl (lv_at hl 0 rfl) ?_
  refine lv_bipush (v := 32) hx hb d_Mo_init_45 (by decide) ?_
  refine hg_newa (atype := .int) hx hb (hts _ ct_wd_4) (ty := .int) rfl (t := 0) (hK.2 0 _ rfl).2 rfl hW hS (N' := 32) (by decide) rfl (by decide) (Nat.le_of_ble_eq_true rfl) (Nat.le_of_ble_eq_true rfl) d_Mo_init_47 (fun H hW hS => ?_)
  have hW := hg_grow hW (by omega) (rfl)
  refine hg_putF hx hb hts i_Mo t_Mo t_Mo_ok n_Mo hown hK hW hS (0) (by omega) hg_mid_self rfl 6 (by decide) (hts _ ct_wd_74) (fun _ h => h) rfl hin rfl (ty := .array .int) (v := .ref (B + 6)) (by decide +kernel) rfl rfl (Nat.le_of_ble_eq_true rfl) d_Mo_init_49 (fun H locs hW hS => ?_)
  have hW := hg_setm hW
  refine lv_aload_n hx hb d_Mo_init_52 rfl (lv_at hl 0 rfl) ?_
  refine lv_bipush (v := 32) hx hb d_Mo_init_53 (by decide) ?_
  refine hg_newa (atype := .int) hx hb (hts _ ct_wd_4) (ty := .int) rfl (t := 0) (hK.2 0 _ rfl).2 rfl hW hS (N' := 32) (by decide) rfl (by decide) (Nat.le_of_ble_eq_true rfl) (Nat.le_of_ble_eq_true rfl) d_Mo_init_55 (fun H hW hS => ?_)
  have hW := hg_grow hW (by omega) (rfl)
  refine hg_putF hx hb hts i_Mo t_Mo t_Mo_ok n_Mo hown hK hW hS (0) (by omega) hg_mid_self rfl 7 (by decide) (hts _ ct_wd_75) (fun _ h => h) rfl hin rfl (ty := .array .int) (v := .ref (B + 7)) (by decide +kernel) rfl rfl (Nat.le_of_ble_eq_true rfl) d_Mo_init_57 (fun H locs hW hS => ?_)
  have hW := hg_setm hW
  refine lv_aload_n hx hb d_Mo_init_60 rfl (lv_at hl 0 rfl) ?_
  refine lv_bipush (v := 8) hx hb d_Mo_init_61 (by decide) ?_
  refine hg_newa (atype := .int) hx hb (hts _ ct_wd_4) (ty := .int) rfl (t := 0) (hK.2 0 _ rfl).2 rfl hW hS (N' := 8) (by decide) rfl (by decide) (Nat.le_of_ble_eq_true rfl) (Nat.le_of_ble_eq_true rfl) d_Mo_init_63 (fun H hW hS => ?_)
  have hW := hg_grow hW (by omega) (rfl)
  refine hg_putF hx hb hts i_Mo t_Mo t_Mo_ok n_Mo hown hK hW hS (0) (by omega) hg_mid_self rfl 8 (by decide) (hts _ ct_wd_76) (fun _ h => h) rfl hin rfl (ty := .array .int) (v := .ref (B + 8)) (by decide +kernel) rfl rfl (Nat.le_of_ble_eq_true rfl) d_Mo_init_65 (fun H locs hW hS => ?_)
  have hW := hg_setm hW
  refine lv_aload_n hx hb d_Mo_init_68 rfl (lv_at hl 0 rfl) ?_
  refine lv_iconst (v := 4) hx hb d_Mo_init_69 (by decide) ?_
  refine hg_put hx hb hts i_Mo t_Mo t_Mo_ok n_Mo hown hK hW hS (0) (by omega) hg_mid_self rfl 10 (by decide) (hts _ ct_wd_77) (fun _ h => h) rfl (ty := .int) (v := .int 4) (by decide +kernel) rfl rfl (Nat.le_of_ble_eq_true rfl) d_Mo_init_70 (fun H locs hW hS => ?_)
  have hW := hg_setm hW
  refine lv_aload_n hx hb d_Mo_init_73 rfl (lv_at hl 0 rfl) ?_
  refine lv_iconst (v := (-1)) hx hb d_Mo_init_74 (by decide) ?_
  refine hg_put hx hb hts i_Mo t_Mo t_Mo_ok n_Mo hown hK hW hS (0) (by omega) hg_mid_self rfl 11 (by decide) (hts _ ct_wd_78) (fun _ h => h) rfl (ty := .int) (v := .int (-1)) (by decide +kernel) rfl rfl (Nat.le_of_ble_eq_true rfl) d_Mo_init_75 (fun H locs hW hS => ?_)
  have hW := hg_setm hW
  refine lv_aload_n hx hb d_Mo_init_78 rfl (lv_at hl 0 rfl) ?_
  refine lv_bipush (v := 32) hx hb d_Mo_init_79 (by decide) ?_
  refine hg_newa (atype := .int) hx hb (hts _ ct_wd_4) (ty := .int) rfl (t := 0) (hK.2 0 _ rfl).2 rfl hW hS (N' := 32) (by decide) rfl (by decide) (Nat.le_of_ble_eq_true rfl) (Nat.le_of_ble_eq_true rfl) d_Mo_init_81 (fun H hW hS => ?_)
  have hW := hg_grow hW (by omega) (rfl)
  refine hg_putF hx hb hts i_Mo t_Mo t_Mo_ok n_Mo hown hK hW hS (0) (by omega) hg_mid_self rfl 15 (by decide) (hts _ ct_wd_79) (fun _ h => h) rfl hin rfl (ty := .array .int) (v := .ref (B + 9)) (by decide +kernel) rfl rfl (Nat.le_of_ble_eq_true rfl) d_Mo_init_83 (fun H locs hW hS => ?_)
  have hW := hg_setm hW
  refine lv_aload_n hx hb d_Mo_init_86 rfl (lv_at hl 0 rfl) ?_
  refine lv_sipush (v := 488) hx hb d_Mo_init_87 (by decide) ?_
  refine hg_newa (atype := .int) hx hb (hts _ ct_wd_4) (ty := .int) rfl (t := 0) (hK.2 0 _ rfl).2 rfl hW hS (N' := 488) (by decide) rfl (by decide) (Nat.le_of_ble_eq_true rfl) (Nat.le_of_ble_eq_true rfl) d_Mo_init_90 (fun H hW hS => ?_)
  have hW := hg_grow hW (by omega) (rfl)
  refine hg_putF hx hb hts i_Mo t_Mo t_Mo_ok n_Mo hown hK hW hS (0) (by omega) hg_mid_self rfl 16 (by decide) (hts _ ct_wd_80) (fun _ h => h) rfl hin rfl (ty := .array .int) (v := .ref (B + 10)) (by decide +kernel) rfl rfl (Nat.le_of_ble_eq_true rfl) d_Mo_init_92 (fun H locs hW hS => ?_)
  have hW := hg_setm hW
  refine lv_aload_n hx hb d_Mo_init_95 rfl (lv_at hl 0 rfl) ?_
  refine lv_bipush (v := 8) hx hb d_Mo_init_96 (by decide) ?_
  refine hg_newa (atype := .boolean) hx hb (hts _ ct_wd_2) (ty := .boolean) rfl (t := 1) (hK.2 1 _ rfl).2 rfl hW hS (N' := 8) (by decide) rfl (by decide) (Nat.le_of_ble_eq_true rfl) (Nat.le_of_ble_eq_true rfl) d_Mo_init_98 (fun H hW hS => ?_)
  have hW := hg_grow hW (by omega) (rfl)
  refine hg_putF hx hb hts i_Mo t_Mo t_Mo_ok n_Mo hown hK hW hS (0) (by omega) hg_mid_self rfl 17 (by decide) (hts _ ct_wd_81) (fun _ h => h) rfl hin rfl (ty := .array .boolean) (v := .ref (B + 11)) (by decide +kernel) rfl rfl (Nat.le_of_ble_eq_true rfl) d_Mo_init_100 (fun H locs hW hS => ?_)
  have hW := hg_setm hW
  refine lv_aload_n hx hb d_Mo_init_103 rfl (lv_at hl 0 rfl) ?_
  refine lv_bipush (v := 8) hx hb d_Mo_init_104 (by decide) ?_
  refine hg_newa (atype := .int) hx hb (hts _ ct_wd_4) (ty := .int) rfl (t := 0) (hK.2 0 _ rfl).2 rfl hW hS (N' := 8) (by decide) rfl (by decide) (Nat.le_of_ble_eq_true rfl) (Nat.le_of_ble_eq_true rfl) d_Mo_init_106 (fun H hW hS => ?_)
  have hW := hg_grow hW (by omega) (rfl)
  refine hg_putF hx hb hts i_Mo t_Mo t_Mo_ok n_Mo hown hK hW hS (0) (by omega) hg_mid_self rfl 18 (by decide) (hts _ ct_wd_82) (fun _ h => h) rfl hin rfl (ty := .array .int) (v := .ref (B + 12)) (by decide +kernel) rfl rfl (Nat.le_of_ble_eq_true rfl) d_Mo_init_108 (fun H locs hW hS => ?_)
  have hW := hg_setm hW
  refine lv_aload_n hx hb d_Mo_init_111 rfl (lv_at hl 0 rfl) ?_
  refine lv_bipush (v := 8) hx hb d_Mo_init_112 (by decide) ?_
  refine hg_newa (atype := .int) hx hb (hts _ ct_wd_4) (ty := .int) rfl (t := 0) (hK.2 0 _ rfl).2 rfl hW hS (N' := 8) (by decide) rfl (by decide) (Nat.le_of_ble_eq_true rfl) (Nat.le_of_ble_eq_true rfl) d_Mo_init_114 (fun H hW hS => ?_)
  have hW := hg_grow hW (by omega) (rfl)
  refine hg_putF hx hb hts i_Mo t_Mo t_Mo_ok n_Mo hown hK hW hS (0) (by omega) hg_mid_self rfl 19 (by decide) (hts _ ct_wd_83) (fun _ h => h) rfl hin rfl (ty := .array .int) (v := .ref (B + 13)) (by decide +kernel) rfl rfl (Nat.le_of_ble_eq_true rfl) d_Mo_init_116 (fun H locs hW hS => ?_)
  have hW := hg_setm hW
  refine lv_aload_n hx hb d_Mo_init_119 rfl (lv_at hl 0 rfl) ?_
  refine lv_bipush (v := 8) hx hb d_Mo_init_120 (by decide) ?_
  refine hg_newal (atype := .long) hx hb (hts _ ct_wd_84) (ty := .long) rfl (t := 2) (hK.2 2 _ rfl).2 rfl hW hS (N' := 8) (by decide) rfl (by decide) (Nat.le_of_ble_eq_true rfl) (Nat.le_of_ble_eq_true rfl) d_Mo_init_122 (fun H hW hS => ?_)
  have hW := hg_grow hW (by omega) (rfl)
  refine hg_putF hx hb hts i_Mo t_Mo t_Mo_ok n_Mo hown hK hW hS (0) (by omega) hg_mid_self rfl 20 (by decide) (hts _ ct_wd_85) (fun _ h => h) rfl hin rfl (ty := .array .long) (v := .ref (B + 14)) (by decide +kernel) rfl rfl (Nat.le_of_ble_eq_true rfl) d_Mo_init_124 (fun H locs hW hS => ?_)
  have hW := hg_setm hW
  refine lv_aload_n hx hb d_Mo_init_127 rfl (lv_at hl 0 rfl) ?_
  refine lv_iload_n hx hb d_Mo_init_128 rfl (lv_at hl 1 rfl) ?_
  refine lv_iconst (v := 1) hx hb d_Mo_init_129 (by decide) ?_
  refine lv_icmp_ge (tgt := 137) hx hb d_Mo_init_130 (by decide) (fun c1 => ?_) (fun c1 => ?_)
  · refine lv_iload_n hx hb d_Mo_init_137 rfl (lv_at hl 1 rfl) ?_
    refine lv_bipush (v := 24) hx hb d_Mo_init_138 (by decide) ?_
    refine lv_icmp_le (tgt := 148) hx hb d_Mo_init_140 (by decide) (fun c2 => ?_) (fun c2 => ?_)
    · refine lv_iload_n hx hb d_Mo_init_148 rfl (lv_at hl 1 rfl) ?_
      refine W.eq (g2 := F0 m 149 ls [.int (nI (sc_ln x)), .ref (B + 0)]) (by rw [← mo_rl_x c1 c2]) ?_
      refine hg_putF hx hb hts i_Mo t_Mo t_Mo_ok n_Mo hown hK hW hS (0) (by omega) hg_mid_self rfl 0 (by decide) (hts _ ct_wd_86) (fun _ h => h) rfl hin rfl (ty := .int) (v := .int (nI (sc_ln x))) (by decide +kernel) rfl rfl (Nat.le_of_ble_eq_true rfl) d_Mo_init_149 (fun H locs hW hS => ?_)
      have hW := hg_setm hW
      exact W.vret hx hb hr (fun t ht _ => ⟨⟨(), rfl, trivial, by subst ht; exact hg_done hW rfl⟩, hS.F ht⟩) hS.2.2 d_Mo_init_152 hlk
    · refine lv_bipush (v := 24) hx hb d_Mo_init_143 (by decide) ?_
      refine lv_goto (tgt := 149) hx hb d_Mo_init_145 (by decide) ?_
      refine W.eq (g2 := F0 m 149 ls [.int (nI (sc_ln x)), .ref (B + 0)]) (by rw [← mo_rl_24 c2]) ?_
      refine hg_putF hx hb hts i_Mo t_Mo t_Mo_ok n_Mo hown hK hW hS (0) (by omega) hg_mid_self rfl 0 (by decide) (hts _ ct_wd_86) (fun _ h => h) rfl hin rfl (ty := .int) (v := .int (nI (sc_ln x))) (by decide +kernel) rfl rfl (Nat.le_of_ble_eq_true rfl) d_Mo_init_149 (fun H locs hW hS => ?_)
      have hW := hg_setm hW
      exact W.vret hx hb hr (fun t ht _ => ⟨⟨(), rfl, trivial, by subst ht; exact hg_done hW rfl⟩, hS.F ht⟩) hS.2.2 d_Mo_init_152 hlk
  · refine lv_iconst (v := 1) hx hb d_Mo_init_133 (by decide) ?_
    refine lv_goto (tgt := 149) hx hb d_Mo_init_134 (by decide) ?_
    refine W.eq (g2 := F0 m 149 ls [.int (nI (sc_ln x)), .ref (B + 0)]) (by rw [← mo_rl_1 c1]) ?_
    refine hg_putF hx hb hts i_Mo t_Mo t_Mo_ok n_Mo hown hK hW hS (0) (by omega) hg_mid_self rfl 0 (by decide) (hts _ ct_wd_86) (fun _ h => h) rfl hin rfl (ty := .int) (v := .int (nI (sc_ln x))) (by decide +kernel) rfl rfl (Nat.le_of_ble_eq_true rfl) d_Mo_init_149 (fun H locs hW hS => ?_)
    have hW := hg_setm hW
    exact W.vret hx hb hr (fun t ht _ => ⟨⟨(), rfl, trivial, by subst ht; exact hg_done hW rfl⟩, hS.F ht⟩) hS.2.2 d_Mo_init_152 hlk
