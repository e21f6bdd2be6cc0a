/-! Pipeline -/
def sc_sf (B j : Nat) : Nat → Option Nat := fun q => if q < j then some (B + (5 + 4 * q)) else none
theorem sc_sf_0 (B : Nat) : sc_sf B 0 = fun _ => none := by
  funext q
  unfold sc_sf
  rw [if_neg (by omega)]
theorem sc_sf_s (B j : Nat) : va_up (sc_sf B j) j (some (B + (5 + 4 * j))) = sc_sf B (j + 1) := by
  funext q
  unfold sc_sf va_up
  by_cases h : q = j
  · subst h
    rw [if_pos rfl, if_pos (by omega)]
  · rw [if_neg h]
    dsimp only
    by_cases h2 : q < j
    · rw [if_pos h2, if_pos (by omega)]
    · rw [if_neg h2, if_neg (by omega)]
set_option maxHeartbeats 4000000 in
set_option maxRecDepth 100000 in
theorem w_Pipe_init_40 {p : Program} {l : Launch} {e : Env} {s : State} {m : MethodId} {args : Array Value} {below : List Frame} {meth : Method} {c : Code} {D : va_G} {ca : Nat → ClassId} {B rl : Nat} {E : Nat → va_E} (X : hq_X p s m args meth c b_Pipe_init R_Pipe 3 none D sc_cl (sc_ty ca) hq_tb) : ∀ (d j : Nat) (H : Heap) (locs : List Loc) (ls : Array Slot), j + d = 8 → lv_has ls 3 [(2, .int (nI j)), (0, .ref (B + 1)), (1, .int (nI rl))] → hg_W D sc_cl B (5 + 4 * j) (hg_mid (hg_mix E 1 (sc_fin ca rl B)) 2 (.inl (ca 2, 8, .inr (.inr (.inr (.inr (sc_sf B j)))))) (sc_fin ca rl B)) H → va_S (hg_A B) s.heap H locs → W p l e ({ frames := 2, cells := 35, slots := 192, locals := 60 } : Room) s m args below meth c H locs (3 + 4 * j) (40 + 19 * j) (MQ below (hg_Q D sc_cl B 37 (hg_mix E 1 (sc_fin ca rl B))) args s 35 192 (hg_A B)) (F0 m 40 ls []) := by
  obtain ⟨hx, hb, hml, hown, hr, hlk, hKt⟩ := id X
  have hK := hKt.1
  have hts : ∀ w ∈ hq_tb, w.before args s = true := fun w h => hKt.2.2 w h args
  intro d
  induction d with
  | zero =>
    intro j H locs ls hjd hl hW hS
    refine lv_iload_n hx hb d_Pipe_init_40 rfl (lv_at hl 0 rfl) ?_
    refine lv_bipush (v := 8) hx hb d_Pipe_init_41 (by decide) ?_
    refine lv_icmp_ge (tgt := 65) hx hb d_Pipe_init_43 (by decide) (fun c1 => ?_) (fun c1 => ?_)
    · have hj8 : ¬ j < 8 := fun z => by
        have := (nI_lei (a := 8) (b := j) (by omega) (by omega)).mp c1
        omega
      have hj : j = 8 := by omega
      subst hj
      have hW : hg_W D sc_cl B 37 (hg_mix E 1 (sc_fin ca rl B)) H := hg_conv hW (fun i hi h => by
        by_cases h2 : i < 2
        · rw [hg_mid_lt h2] at h; exact h
        · by_cases h3 : i = 2
          · subst h3
            rw [hg_mid_self] at h
            show H[B + 2]? = some (vp_cell (ca 2) (8, .inr (.inr (.inr (.inr (fun j => some (B + (5 + 4 * j)))))))) 
            have h : H[B + 2]? = some (vp_cell (ca 2) (8, .inr (.inr (.inr (.inr (sc_sf B 8)))))) := h
            rw [h]
            exact congrArg some (hg_q _ (fun j hj => by unfold sc_sf; rw [if_pos hj]))
          · rw [hg_mid_gt (by omega)] at h
            unfold hg_mix
            rw [if_neg (by omega)]
            exact h)
      exact W.vret hx hb hr (fun t ht _ => ⟨⟨(), rfl, trivial, by subst ht; exact hW⟩, hS.F ht⟩) hS.2.2 d_Pipe_init_65 hlk
    · exfalso
      exact c1 ((nI_lei (a := 8) (b := j) (by omega) (by omega)).mpr (by omega))
  | succ d ih =>
    intro j H locs ls hjd hl hW hS
    refine lv_iload_n hx hb d_Pipe_init_40 rfl (lv_at hl 0 rfl) ?_
    refine lv_bipush (v := 8) hx hb d_Pipe_init_41 (by decide) ?_
    refine lv_icmp_ge (tgt := 65) hx hb d_Pipe_init_43 (by decide) (fun c1 => ?_) (fun c1 => ?_)
    · have hj8 : ¬ j < 8 := fun z => by
        have := (nI_lei (a := 8) (b := j) (by omega) (by omega)).mp c1
        omega
      have hj : j = 8 := by omega
      subst hj
      have hW : hg_W D sc_cl B 37 (hg_mix E 1 (sc_fin ca rl B)) H := hg_conv hW (fun i hi h => by
        by_cases h2 : i < 2
        · rw [hg_mid_lt h2] at h; exact h
        · by_cases h3 : i = 2
          · subst h3
            rw [hg_mid_self] at h
            show H[B + 2]? = some (vp_cell (ca 2) (8, .inr (.inr (.inr (.inr (fun j => some (B + (5 + 4 * j)))))))) 
            have h : H[B + 2]? = some (vp_cell (ca 2) (8, .inr (.inr (.inr (.inr (sc_sf B 8)))))) := h
            rw [h]
            exact congrArg some (hg_q _ (fun j hj => by unfold sc_sf; rw [if_pos hj]))
          · rw [hg_mid_gt (by omega)] at h
            unfold hg_mix
            rw [if_neg (by omega)]
            exact h)
      exact W.vret hx hb hr (fun t ht _ => ⟨⟨(), rfl, trivial, by subst ht; exact hW⟩, hS.F ht⟩) hS.2.2 d_Pipe_init_65 hlk
    · have hj : j < 8 := by
        rcases Nat.lt_or_ge j 8 with q | q
        · exact q
        · exact absurd ((nI_lei (a := 8) (b := j) (by omega) (by omega)).mpr q) c1
      refine lv_aload_n hx hb d_Pipe_init_46 rfl (lv_at hl 1 rfl) ?_
      refine hg_get hx hb hts i_Pipe hown hK hW 1 (by omega) (ci := 1) (fs := hm_fs B [some 4, some 2, some 3, none, none, none, none] (sc_M0 1)) (hg_mid_lt (by omega)) rfl 1 (by decide) (hts _ sc_wd_25) (fun _ h => h) (v := .ref (B + 2)) rfl d_Pipe_init_47 ?_
      refine lv_iload_n hx hb d_Pipe_init_50 rfl (lv_at hl 0 rfl) ?_
      refine hg_new hx hb hts i_Stage t_Stage t_Stage_ok hown (hts _ ct_wd_11) (hts _ ct_wd_12) (hts _ ct_wd_13) hK hW hS (ci := 2) rfl (fs := [.int 0, .int 0, .int 0, .int 0, .null, .null, .null]) (by decide) (by show 3 + 4 * j + 1 ≤ 35; omega) (by show 40 + 19 * j + 7 ≤ 192; omega) d_Pipe_init_51 (fun H hW hS => ?_)
      refine lv_dup hx hb d_Pipe_init_54 rfl ?_
      refine hg_call (va_runIN (As := []) (rest := [.ref (B + (5 + 4 * j)), .int (nI j), .ref (B + 2)]) ⟨hx, hb, hml, hown, hts⟩ (c_Stage_init (l := l) (D := D) (ca := ca) (B := B) (rl := rl) (i := 5 + 4 * j) (E := va_up (hg_mid (hg_mix E 1 (sc_fin ca rl B)) 2 (.inl (ca 2, 8, .inr (.inr (.inr (.inr (sc_sf B j)))))) (sc_fin ca rl B)) (5 + 4 * j) (.inr (2, [.int 0, .int 0, .int 0, .int 0, .null, .null, .null]))) (sck_st0 j hj) (va_up_self _ _ _)) (hg_cwN (nn := 0) hts ct_wd_14 ct_wd_13 ct_wd_15 ct_wd_16 rfl (by decide +kernel) rfl rfl ⟨(Nat.le_of_ble_eq_true rfl), (Nat.le_of_ble_eq_true rfl)⟩) (hg_pre hKt hW) rfl rfl hl.1 rfl (lv_room (Nat.le_of_ble_eq_true rfl)) d_Pipe_init_55 ⟨by show 3 + 4 * j + 1 + 3 ≤ 35; omega, by show 40 + 19 * j + 7 + 12 ≤ 192; omega⟩) hS (fun H locs hW hS => ?_)
      have hW := hg_back hW (by omega)
      refine hg_aast hx hb hK hW hS 2 2 (5 + 4 * j) 2 (by omega) (by omega) hg_mid_self rfl ((hg_mid_gt (by omega)).trans (sc_fin_o (sc_s_Stage (sck_st0 j hj)) (by omega))) rfl (nI_ix hj (by decide)) d_Pipe_init_58 (fun H locs hW hS => ?_)
      have hW := hg_setm hW
      rw [nI_clamp (show j < 2 ^ 31 by omega), sc_sf_s] at hW
      refine lv_iinc (v := nI (j + 1)) (lv' := [(2, .int (nI (j + 1))), (0, .ref (B + 1)), (1, .int (nI rl))]) hx hb d_Pipe_init_59 hl (k := 0) rfl (nI_s j) (by decide) rfl (fun ls hl => ?_)
      refine lv_goto (tgt := 40) hx hb d_Pipe_init_62 (by decide) ?_
      refine W.widen (k := 3 + 4 * (j + 1)) (n := 40 + 19 * (j + 1)) (by omega) (by omega) ?_
      exact ih (j + 1) H locs ls (by omega) hl hW hS
set_option maxHeartbeats 4000000 in
set_option maxRecDepth 100000 in
theorem c_Pipe_init {l : Launch} {D : va_G} {ca : Nat → ClassId} {B rl : Nat} {E : Nat → va_E} (hr1 : 1 ≤ rl) (hr24 : rl ≤ 24) (hE : E 1 = .inr (1, [.null, .null, .null, .int 0, .int 0, .int 0, .int 0])) : Met l y_Pipe_init [Cond.code y_Pipe_init b_Pipe_init 3 none] ({ frames := 2, cells := 35, slots := 192, locals := 60 } : Room) (hg_Pre2 D sc_cl B 2 E (sc_ty ca) hq_tb [.ref (B + 1), .int (nI rl)]) (hg_Q D sc_cl B 37 (hg_mix E 1 (sc_fin ca rl B))) 35 192 (hg_A B) := by
  refine Met.ofW (cc := b_Pipe_init) (maxL := 3) (ret := none) (by decide +kernel) rfl ?_
  intro p e s m args below meth c s₁ Bd hml hv
  obtain ⟨rfl, hW, hKt, hO⟩ := hv
  have hx := Bd.exec
  have hb := Bd.bytes
  have hr := Bd.returns
  have hown : s.vm.findClass R_Pipe = some m.cls := findClass_of_methodNamed Bd.named
  have hlk := Bd.notSynchronized
  have hin : meth.name = "<init>" := (name_of_methodNamed Bd.named Bd.method).1
  have hK := hKt.1
  have hts : ∀ w ∈ hq_tb, w.before ([.ref (B + 1), .int (nI rl)] : List Value).toArray s = true := fun w h => hKt.2.2 w h _
  have hS : va_S (hg_A B) s.heap s.heap [] := va_S.rf
  have hl := lv_entry ([.ref (B + 1), .int (nI rl)]) (n := 3) (Nat.le_of_ble_eq_true rfl)
  rw [lg_entry_eq]
  generalize (lg_sl ([.ref (B + 1), .int (nI rl)]) ++ List.replicate (3 - (lg_sl ([.ref (B + 1), .int (nI rl)])).length) Slot.unset).toArray = ls at hl ⊢
  have hl : lv_has ls 3 [(0, .ref (B + 1)), (1, .int (nI rl))] := hl
  have hW := hg_start (F := va_up (sc_fin ca rl B) 2 (.inl (ca 2, 8, .inr (.inr (.inr (.inr (fun _ => none))))))) hW
  rw [hE] at hW
  refine lv_aload_n hx hb d_Pipe_init_0 rfl (lv_at hl 0 rfl) ?_
  refine W.objInit hx hb hown (hts _ ct_wd_17) (hts _ ct_wd_1) (hts _ ct_objcode) rfl (by rw [hml]; exact hl.1) rfl d_Pipe_init_1 (Nat.le_of_ble_eq_true rfl) (Nat.le_of_ble_eq_true rfl) ?_
  refine W.eq (g2 := F0 m 4 ls []) rfl ?_
  refine lv_aload_n hx hb d_Pipe_init_4 rfl (lv_at hl 0 rfl) ?_
  refine lv_bipush (v := 8) hx hb d_Pipe_init_5 (by decide) ?_
  obtain ⟨_, _, _, _, _, hca2⟩ := (hK.2 2 _ rfl).2
  refine hg_newq hx hb hown (hts _ ct_wd_11) (va_AO.use hO.1) (t := 2) hca2 hW hS (by decide) rfl (by decide) (Nat.le_of_ble_eq_true rfl) (Nat.le_of_ble_eq_true rfl) d_Pipe_init_7 (fun H hW hS => ?_)
  have hW := hg_grow hW (by omega) (va_up_self _ _ _)
  refine hg_putF hx hb hts i_Pipe t_Pipe t_Pipe_ok n_Pipe hown hK hW hS (1) (by omega) hg_mid_self rfl 1 (by decide) (hts _ ct_wd_18) (fun _ h => h) rfl hin rfl (ty := .array (.object "StencilCompiler$Stage")) (v := .ref (B + 2)) (by decide +kernel) rfl rfl (Nat.le_of_ble_eq_true rfl) d_Pipe_init_10 (fun H locs hW hS => ?_)
  have hW := hg_setm hW
  refine lv_aload_n hx hb d_Pipe_init_13 rfl (lv_at hl 0 rfl) ?_
  refine lv_bipush (v := 8) hx hb d_Pipe_init_14 (by decide) ?_
  refine hg_newa (atype := .int) hx hb (hts _ ct_wd_4) (ty := .int) rfl (t := 0) (hK.2 0 _ rfl).2 rfl hW hS (N' := 8) (by decide) rfl (by decide) (Nat.le_of_ble_eq_true rfl) (Nat.le_of_ble_eq_true rfl) d_Pipe_init_16 (fun H hW hS => ?_)
  have hW := hg_grow hW (by omega) ((va_up_ne _ _ (by decide)).trans (sc_fin_a (sc_s_ia8 rfl) (by decide)))
  refine hg_putF hx hb hts i_Pipe t_Pipe t_Pipe_ok n_Pipe hown hK hW hS (1) (by omega) hg_mid_self rfl 2 (by decide) (hts _ ct_wd_19) (fun _ h => h) rfl hin rfl (ty := .array .int) (v := .ref (B + 3)) (by decide +kernel) rfl rfl (Nat.le_of_ble_eq_true rfl) d_Pipe_init_18 (fun H locs hW hS => ?_)
  have hW := hg_setm hW
  refine lv_aload_n hx hb d_Pipe_init_21 rfl (lv_at hl 0 rfl) ?_
  refine lv_iconst (v := 4) hx hb d_Pipe_init_22 (by decide) ?_
  refine hg_put hx hb hts i_Pipe t_Pipe t_Pipe_ok n_Pipe hown hK hW hS (1) (by omega) hg_mid_self rfl 4 (by decide) (hts _ ct_wd_20) (fun _ h => h) rfl (ty := .int) (v := .int 4) (by decide +kernel) rfl rfl (Nat.le_of_ble_eq_true rfl) d_Pipe_init_23 (fun H locs hW hS => ?_)
  have hW := hg_setm hW
  refine lv_aload_n hx hb d_Pipe_init_26 rfl (lv_at hl 0 rfl) ?_
  refine lv_iconst (v := (-1)) hx hb d_Pipe_init_27 (by decide) ?_
  refine hg_put hx hb hts i_Pipe t_Pipe t_Pipe_ok n_Pipe hown hK hW hS (1) (by omega) hg_mid_self rfl 5 (by decide) (hts _ ct_wd_21) (fun _ h => h) rfl (ty := .int) (v := .int (-1)) (by decide +kernel) rfl rfl (Nat.le_of_ble_eq_true rfl) d_Pipe_init_28 (fun H locs hW hS => ?_)
  have hW := hg_setm hW
  refine lv_aload_n hx hb d_Pipe_init_31 rfl (lv_at hl 0 rfl) ?_
  refine lv_iload_n hx hb d_Pipe_init_32 rfl (lv_at hl 1 rfl) ?_
  refine hg_newa (atype := .int) hx hb (hts _ ct_wd_4) (ty := .int) rfl (t := 0) (hK.2 0 _ rfl).2 rfl hW hS (N' := rl) (nI_pos (by omega)) (nI_clamp (by omega)) (by show rl * 4 ≤ 536870912; omega) (Nat.le_of_ble_eq_true rfl) (by show 0 + 8 + 8 + rl ≤ 192; omega) d_Pipe_init_33 (fun H hW hS => ?_)
  have hW := hg_grow hW (by omega) ((va_up_ne _ _ (by decide)).trans (sc_fin_a (sc_s_row rfl) (by decide)))
  refine W.widen (k := 3) (n := 40) (by omega) (by show 0 + 8 + 8 + rl ≤ 40; omega) ?_
  refine hg_putF hx hb hts i_Pipe t_Pipe t_Pipe_ok n_Pipe hown hK hW hS (1) (by omega) hg_mid_self rfl 0 (by decide) (hts _ ct_wd_22) (fun _ h => h) rfl hin rfl (ty := .array .int) (v := .ref (B + 4)) (by decide +kernel) rfl rfl (Nat.le_of_ble_eq_true rfl) d_Pipe_init_35 (fun H locs hW hS => ?_)
  have hW := hg_setm hW
  refine lv_iconst (v := 0) hx hb d_Pipe_init_38 (by decide) ?_
  refine lv_istore_n (lv' := [(2, .int 0), (0, .ref (B + 1)), (1, .int (nI rl))]) hx hb d_Pipe_init_39 rfl hl (by decide) rfl (fun ls hl => ?_)
  have hW : hg_W D sc_cl B 5 (hg_mid (hg_mix E 1 (sc_fin ca rl B)) 2 (.inl (ca 2, 8, .inr (.inr (.inr (.inr (sc_sf B 0)))))) (sc_fin ca rl B)) H := hg_congr hW (fun j hj => by
    rcases (show j = 0 ∨ j = 1 ∨ j = 2 ∨ j = 3 ∨ j = 4 by omega) with rfl | rfl | rfl | rfl | rfl
    · rfl
    · rfl
    · rw [sc_sf_0]; rfl
    · rfl
    · rfl)
  exact w_Pipe_init_40 ⟨hx, hb, hml, hown, hr, hlk, hKt⟩ 8 0 H _ ls rfl hl hW hS
