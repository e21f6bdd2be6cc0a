/-! StencilCompiler -/
def sc_ln (x : Int32) : Nat := (max 1 (min 24 x.toInt)).toNat
theorem sc_ln_1 (x : Int32) : 1 ≤ sc_ln x := by unfold sc_ln; omega
theorem sc_ln_24 (x : Int32) : sc_ln x ≤ 24 := by unfold sc_ln; omega
theorem sc_ln_nI (x : Int32) : nI (sc_ln x) = iI (max 1 (min 24 x.toInt)) := by
  unfold sc_ln
  rw [iI_nat]
  congr 1
  omega
theorem sc_ln_v (x : Int32) : (if (1 : Int32) < (if x < 24 then x else 24) then (if x < 24 then x else 24) else 1) = nI (sc_ln x) := by
  rw [sc_ln_nI]
  have h1 := x.le_toInt
  have h2 := x.toInt_lt
  have e : (if x < 24 then x else 24) = iI (min 24 x.toInt) := by
    conv => lhs; rw [iI_of x]
    rw [show (24 : Int32) = iI 24 from rfl, iI_min (by omega) (by omega) (by omega) (by omega)]
    congr 1
    omega
  rw [e, show (1 : Int32) = iI 1 from rfl, iI_max (by omega) (by omega) (by omega) (by omega)]
set_option maxHeartbeats 4000000 in
set_option maxRecDepth 100000 in
theorem c_SC_init {l : Launch} {D : va_G} {ca : Nat → ClassId} {B : Nat} {x : Int32} {E : Nat → va_E} (hE : E 0 = .inr (0, [.null, .null, .null, .int 0, .int 0])) : Met l y_SC_init [Cond.code y_SC_init b_SC_init 2 none] ({ frames := 3, cells := 63, slots := 1061, locals := 100 } : Room) (hg_Pre2 D sc_cl B 1 E (sc_ty ca) hq_tb [.ref (B + 0), .int x]) (hg_Q D sc_cl B 64 (hg_mix E 0 (sc_fin ca (sc_ln x) B))) 63 1061 (hg_A B) := by
  refine Met.ofW (cc := b_SC_init) (maxL := 2) (ret := none) (by decide +kernel) rfl ?_
  intro p e s m args below meth c s₁ Bd hml hv
  obtain ⟨rfl, hW, hKt, hO⟩ := hv
  have hx := Bd.exec
  have hb := Bd.bytes
  have hr := Bd.returns
  have hown : s.vm.findClass R_SC = some m.cls := findClass_of_methodNamed Bd.named
  have hlk := Bd.notSynchronized
  have hin : meth.name = "<init>" := (name_of_methodNamed Bd.named Bd.method).1
  have hK := hKt.1
  have hts : ∀ w ∈ hq_tb, w.before ([.ref (B + 0), .int x] : List Value).toArray s = true := fun w h => hKt.2.2 w h _
  have hS : va_S (hg_A B) s.heap s.heap [] := va_S.rf
  have hl := lv_entry ([.ref (B + 0), .int x]) (n := 2) (Nat.le_of_ble_eq_true rfl)
  rw [lg_entry_eq]
  generalize (lg_sl ([.ref (B + 0), .int x]) ++ List.replicate (2 - (lg_sl ([.ref (B + 0), .int x])).length) Slot.unset).toArray = ls at hl ⊢
  have hl : lv_has ls 2 [(0, .ref (B + 0)), (1, .int x)] := hl
  have hW := hg_start (F := (sc_fin ca (sc_ln x) B)) hW
  rw [hE] at hW
  refine lv_aload_n hx hb d_SC_init_0 rfl (lv_at hl 0 rfl) ?_
  refine W.objInit hx hb hown (hts _ ct_wd_44) (hts _ ct_wd_1) (hts _ ct_objcode) rfl (by rw [hml]; exact hl.1) rfl d_SC_init_1 (Nat.le_of_ble_eq_true rfl) (Nat.le_of_ble_eq_true rfl) ?_
  refine W.eq (g2 := F0 m 4 ls []) rfl ?_
  refine lv_aload_n hx hb d_SC_init_4 rfl (lv_at hl 0 rfl) ?_
  refine hg_new hx hb hts i_Pipe t_Pipe t_Pipe_ok hown (hts _ ct_wd_45) (hts _ ct_wd_46) (hts _ ct_wd_47) hK hW hS (ci := 1) rfl (fs := [.null, .null, .null, .int 0, .int 0, .int 0, .int 0]) (by decide) (Nat.le_of_ble_eq_true rfl) (Nat.le_of_ble_eq_true rfl) d_SC_init_5 (fun H hW hS => ?_)
  refine lv_dup hx hb d_SC_init_8 rfl ?_
  refine lv_iconst (v := 1) hx hb d_SC_init_9 (by decide) ?_
  refine lv_bipush (v := 24) hx hb d_SC_init_10 (by decide) ?_
  refine lv_iload_n hx hb d_SC_init_12 rfl (lv_at hl 1 rfl) ?_
  refine va_mmin hx hb (hml.trans hl.1.symm) hown (hts _ ct_wd_48) (hts _ sc_wd_3) (hts _ sc_wd_4) (hts _ sc_wd_5) (Nat.le_of_ble_eq_true rfl) (Nat.le_of_ble_eq_true rfl) (Nat.le_of_ble_eq_true rfl) (Nat.le_of_ble_eq_true rfl) d_SC_init_13 ?_
  refine va_mmax hx hb (hml.trans hl.1.symm) hown (hts _ ct_wd_49) (hts _ sc_wd_8) (hts _ sc_wd_4) (hts _ sc_wd_9) (Nat.le_of_ble_eq_true rfl) (Nat.le_of_ble_eq_true rfl) (Nat.le_of_ble_eq_true rfl) (Nat.le_of_ble_eq_true rfl) d_SC_init_16 ?_
  refine W.eq (g2 := F0 m 19 ls [.int (nI (sc_ln x)), .ref (B + 1), .ref (B + 1), .ref (B + 0)]) (by rw [← sc_ln_v]) ?_
  refine hg_call (va_runIN (As := [.int (nI (sc_ln x))]) (rest := [.ref (B + 1), .ref (B + 0)]) ⟨hx, hb, hml, hown, hts⟩ (c_Pipe_init (l := l) (D := D) (ca := ca) (B := B) (rl := sc_ln x) (E := va_up (hg_mid E 0 (.inr (0, [.null, .null, .null, .int 0, .int 0])) (sc_fin ca (sc_ln x) B)) 1 (.inr (1, [.null, .null, .null, .int 0, .int 0, .int 0, .int 0]))) (sc_ln_1 x) (sc_ln_24 x) (va_up_self _ _ _)) (hg_cwN (nn := 1) hts ct_wd_50 ct_wd_47 ct_wd_51 ct_wd_52 rfl (by decide +kernel) rfl rfl ⟨(Nat.le_of_ble_eq_true rfl), (Nat.le_of_ble_eq_true rfl)⟩) (hg_pre2 hKt hO hW) rfl rfl hl.1 rfl (lv_room (Nat.le_of_ble_eq_true rfl)) d_SC_init_19 ⟨(Nat.le_of_ble_eq_true rfl), (Nat.le_of_ble_eq_true rfl)⟩) hS (fun H locs hW hS => ?_)
  have hW := hg_back hW (by omega)
  refine hg_putF hx hb hts i_SC t_SC t_SC_ok n_SC hown hK hW hS (0) (by omega) hg_mid_self rfl 0 (by decide) (hts _ ct_wd_53) (fun _ h => h) rfl hin rfl (ty := .object "StencilCompiler$Pipeline") (v := .ref (B + 1)) (by decide +kernel) rfl rfl (Nat.le_of_ble_eq_true rfl) d_SC_init_22 (fun H locs hW hS => ?_)
  have hW := hg_setm hW
  refine lv_aload_n hx hb d_SC_init_25 rfl (lv_at hl 0 rfl) ?_
  refine hg_new hx hb hts i_Plan t_Plan t_Plan_ok hown (hts _ ct_wd_54) (hts _ ct_wd_55) (hts _ ct_wd_56) hK hW hS (ci := 3) rfl (fs := [.null, .null, .null, .null, .null, .int 0, .int 0, .int 0]) (by decide) (Nat.le_of_ble_eq_true rfl) (Nat.le_of_ble_eq_true rfl) d_SC_init_26 (fun H hW hS => ?_)
  refine lv_dup hx hb d_SC_init_29 rfl ?_
  refine lv_aload_n hx hb d_SC_init_30 rfl (lv_at hl 0 rfl) ?_
  refine hg_get hx hb hts i_SC hown hK hW 0 (by omega) (ci := 0) ((va_up_ne _ _ (by decide)).trans hg_mid_self) rfl 0 (by decide) (hts _ ct_wd_53) (fun _ h => h) (v := .ref (B + 1)) rfl d_SC_init_31 ?_
  refine hg_call (va_runIN (As := [.ref (B + 1)]) (rest := [.ref (B + 37), .ref (B + 0)]) ⟨hx, hb, hml, hown, hts⟩ (c_Plan_init (l := l) (D := D) (ca := ca) (B := B) (rl := sc_ln x) (E := va_up (hg_mid E 0 (.inr (0, (([.null, .null, .null, .int 0, .int 0] : List Value).set 0 (.ref (B + 1))))) (sc_fin ca (sc_ln x) B)) 37 (.inr (3, [.null, .null, .null, .null, .null, .int 0, .int 0, .int 0]))) (va_up_self _ _ _)) (hg_cwN (nn := 1) hts ct_wd_57 ct_wd_56 ct_wd_58 ct_wd_59 rfl (by decide +kernel) rfl rfl ⟨(Nat.le_of_ble_eq_true rfl), (Nat.le_of_ble_eq_true rfl)⟩) (hg_pre2 hKt hO hW) rfl rfl hl.1 rfl (lv_room (Nat.le_of_ble_eq_true rfl)) d_SC_init_34 ⟨(Nat.le_of_ble_eq_true rfl), (Nat.le_of_ble_eq_true rfl)⟩) hS (fun H locs hW hS => ?_)
  have hW := hg_back hW (by omega)
  refine hg_putF hx hb hts i_SC t_SC t_SC_ok n_SC hown hK hW hS (0) (by omega) hg_mid_self rfl 1 (by decide) (hts _ ct_wd_60) (fun _ h => h) rfl hin rfl (ty := .object "StencilCompiler$Plan") (v := .ref (B + 37)) (by decide +kernel) rfl rfl (Nat.le_of_ble_eq_true rfl) d_SC_init_37 (fun H locs hW hS => ?_)
  have hW := hg_setm hW
  refine lv_aload_n hx hb d_SC_init_40 rfl (lv_at hl 0 rfl) ?_
  refine hg_new hx hb hts i_Runner t_Runner t_Runner_ok hown (hts _ ct_wd_61) (hts _ ct_wd_62) (hts _ ct_wd_63) hK hW hS (ci := 5) rfl (fs := [.null, .null, .null, .null, .null]) (by decide) (Nat.le_of_ble_eq_true rfl) (Nat.le_of_ble_eq_true rfl) d_SC_init_41 (fun H hW hS => ?_)
  refine lv_dup hx hb d_SC_init_44 rfl ?_
  refine lv_aload_n hx hb d_SC_init_45 rfl (lv_at hl 0 rfl) ?_
  refine hg_get hx hb hts i_SC hown hK hW 0 (by omega) (ci := 0) ((va_up_ne _ _ (by decide)).trans hg_mid_self) rfl 0 (by decide) (hts _ ct_wd_53) (fun _ h => h) (v := .ref (B + 1)) rfl d_SC_init_46 ?_
  refine hg_call (va_runIN (As := [.ref (B + 1)]) (rest := [.ref (B + 48), .ref (B + 0)]) ⟨hx, hb, hml, hown, hts⟩ (c_Runner_init (l := l) (D := D) (ca := ca) (B := B) (rl := sc_ln x) (E := va_up (hg_mid E 0 (.inr (0, ((([.null, .null, .null, .int 0, .int 0] : List Value).set 0 (.ref (B + 1))).set 1 (.ref (B + 37))))) (sc_fin ca (sc_ln x) B)) 48 (.inr (5, [.null, .null, .null, .null, .null]))) (va_up_self _ _ _)) (hg_cwN (nn := 1) hts ct_wd_64 ct_wd_63 ct_wd_65 ct_wd_66 rfl (by decide +kernel) rfl rfl ⟨(Nat.le_of_ble_eq_true rfl), (Nat.le_of_ble_eq_true rfl)⟩) (hg_pre2 hKt hO hW) rfl rfl hl.1 rfl (lv_room (Nat.le_of_ble_eq_true rfl)) d_SC_init_49 ⟨(Nat.le_of_ble_eq_true rfl), (Nat.le_of_ble_eq_true rfl)⟩) hS (fun H locs hW hS => ?_)
  have hW := hg_back hW (by omega)
  refine hg_putF hx hb hts i_SC t_SC t_SC_ok n_SC hown hK hW hS (0) (by omega) hg_mid_self rfl 2 (by decide) (hts _ ct_wd_67) (fun _ h => h) rfl hin rfl (ty := .object "StencilCompiler$Runner") (v := .ref (B + 48)) (by decide +kernel) rfl rfl (Nat.le_of_ble_eq_true rfl) d_SC_init_52 (fun H locs hW hS => ?_)
  have hW := hg_setm hW
  exact W.vret hx hb hr (fun t ht _ => ⟨⟨(), rfl, trivial, by subst ht; exact hg_done hW ((sc_fin_o (sc_s_SC rfl) (by decide)).trans rfl)⟩, hS.F ht⟩) hS.2.2 d_SC_init_55 hlk
