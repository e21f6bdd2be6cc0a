/-! the loop -/
set_option maxHeartbeats 4000000 in
set_option maxRecDepth 100000 in
theorem lw_loop {p : Program} {l : Launch} {e : Env} {s : State} {m : MethodId} {below : List Frame} {meth : Method} {c : Code} {b L : Nat} {xs : Nat → Int32} {D D2 : va_G} {ca ca2 : Nat → ClassId} {B rl : Nat} (X : lz_X p s m meth c b L xs D D2 ca ca2 B) :
    ∀ (n i : Nat) (M : hm_M) (mm : mo_M) (H : Heap) (ls : Array Slot), i ≤ L + 1 → L < i + n → sm_I rl M mm → lz_J D D2 ca ca2 B rl s M mm H → lv_has ls 4 (lz_lv b B i) → W p l e room_1 s m #[Value.ref b] below meth c H [] 79 1791 (lw_Z below #[Value.ref b] s) (F0 m 28 ls []) := by
  obtain ⟨hx, hb, hml, hown, hr, hlk, hK1, hK2, hX, hbl, hL, hB⟩ := id X
  have hbA : ¬ hg_A B b := by unfold hg_A; omega
  intro n
  induction n with
  | zero => intro i M mm H ls h1 h2
            exact fun hM hJ hl => by
              have hi : i = L + 1 := by omega
              refine lv_iload_n hx hb d_law_28 rfl (lv_at hl 3 rfl) ?_
              refine lv_aload_n hx hb d_law_29 rfl (lv_at hl 0 rfl) ?_
              refine va_slen hx hb hX hbl hbA hJ.2.2 d_law_30 ?_
              refine lv_iconst (v := 5) hx hb d_law_31 (by decide) ?_
              refine lv_isub hx hb d_law_32 ?_
              refine W.eq (g2 := F0 m 33 ls [.int (iI ((L : Int) - 5)), .int (iI (i : Int))]) (by rw [← iI_sub]; rfl) ?_
              refine lv_icmp_gt (tgt := 501) hx hb d_law_33 (by decide) (fun c1 => ?_) (fun c1 => ?_)
              · refine lv_iconst (v := 1) hx hb d_law_501 (by decide) ?_
                refine W.widen (k := 600000) (n := 7302250) (by decide) (by decide) ?_
                exact lw_ret hx hb hr hlk d_law_502
              · exact absurd ((iI_lt (by omega) (by omega) (by omega) (by omega)).mpr (by omega)) c1
  | succ n ih =>
    intro i M mm H ls h1 h2 hM hJ hl
    refine lv_iload_n hx hb d_law_28 rfl (lv_at hl 3 rfl) ?_
    refine lv_aload_n hx hb d_law_29 rfl (lv_at hl 0 rfl) ?_
    refine va_slen hx hb hX hbl hbA hJ.2.2 d_law_30 ?_
    refine lv_iconst (v := 5) hx hb d_law_31 (by decide) ?_
    refine lv_isub hx hb d_law_32 ?_
    refine W.eq (g2 := F0 m 33 ls [.int (iI ((L : Int) - 5)), .int (iI (i : Int))]) (by rw [← iI_sub]; rfl) ?_
    refine lv_icmp_gt (tgt := 501) hx hb d_law_33 (by decide) (fun c1 => ?_) (fun c1 => ?_)
    · refine lv_iconst (v := 1) hx hb d_law_501 (by decide) ?_
      refine W.widen (k := 600000) (n := 7302250) (by decide) (by decide) ?_
      exact lw_ret hx hb hr hlk d_law_502
    · have hi5 : i + 5 ≤ L := by
        have : ¬ ((L : Int) - 5 < (i : Int)) := fun z => c1 ((iI_lt (by omega) (by omega) (by omega) (by omega)).mpr z)
        omega
      have k495 : ∀ (M1 : hm_M) (m1 : mo_M) (H1 : Heap), sm_I rl M1 m1 → lz_J D D2 ca ca2 B rl s M1 m1 H1 → W p l e room_1 s m #[Value.ref b] below meth c H1 [] 79 1791 (lw_Z below #[Value.ref b] s) (F0 m 495 ls []) := by
        intro M1 m1 H1 hM1 hJ1
        refine lv_iinc (v := nI (i + 5)) (lv' := [(3, .int (nI (i + 5))), (0, .ref b), (1, .ref (B + 0)), (2, .ref (B + 64 + 0))]) hx hb d_law_495 hl (k := 3) rfl (by show nI i + nI 5 = _; rw [nI_add]) (by decide) rfl (fun ls hl => ?_)
        refine lv_goto (tgt := 28) hx hb d_law_498 (by decide) ?_
        exact ih (i + 5) M1 m1 H1 ls (by omega) (by omega) hM1 hJ1 (lv_sub hl [1, 2, 3, 0] rfl)
      refine lv_aload_n hx hb d_law_36 rfl (lv_at hl 0 rfl) ?_
      refine lv_iload_n hx hb d_law_37 rfl (lv_at hl 3 rfl) ?_
      refine va_sld hx hb hX hbl hbA hJ.2.2 (vp_in_nI (show i < L by omega) (by omega)) d_law_38 ?_
      refine lv_bipush (v := 15) hx hb d_law_39 (by decide) ?_
      refine lv_iand hx hb d_law_41 ?_
      refine lv_topi (fun v ev => ?_)
      by_cases c_0 : v = 0
      · exact lv_tableIn (tgt := 108) hx hb d_law_42 (by rw [c_0]; decide) (by rw [c_0]; decide) (by rw [c_0]; rfl) (by decide) (w_law_input X hl hi5 hM hJ k495)
      by_cases c_1 : v = 1
      · exact lv_tableIn (tgt := 141) hx hb d_law_42 (by rw [c_1]; decide) (by rw [c_1]; decide) (by rw [c_1]; rfl) (by decide) (w_law_stage X hl hi5 hM hJ k495)
      by_cases c_2 : v = 2
      · exact lv_tableIn (tgt := 174) hx hb d_law_42 (by rw [c_2]; decide) (by rw [c_2]; decide) (by rw [c_2]; rfl) (by decide) (w_law_tap X hl hi5 hM hJ k495)
      by_cases c_3 : v = 3
      · exact lv_tableIn (tgt := 227) hx hb d_law_42 (by rw [c_3]; decide) (by rw [c_3]; decide) (by rw [c_3]; rfl) (by decide) (w_law_mode X hl hi5 hM hJ k495)
      by_cases c_4 : v = 4
      · exact lv_tableIn (tgt := 260) hx hb d_law_42 (by rw [c_4]; decide) (by rw [c_4]; decide) (by rw [c_4]; rfl) (by decide) (w_law_tile X hl hi5 hM hJ k495)
      by_cases c_5 : v = 5
      · exact lv_tableIn (tgt := 283) hx hb d_law_42 (by rw [c_5]; decide) (by rw [c_5]; decide) (by rw [c_5]; rfl) (by decide) (w_law_output X hl hi5 hM hJ k495)
      by_cases c_6 : v = 6
      · exact lv_tableIn (tgt := 316) hx hb d_law_42 (by rw [c_6]; decide) (by rw [c_6]; decide) (by rw [c_6]; rfl) (by decide) (w_law_compile X hl hi5 hM hJ k495)
      by_cases c_7 : v = 7
      · exact lv_tableIn (tgt := 329) hx hb d_law_42 (by rw [c_7]; decide) (by rw [c_7]; decide) (by rw [c_7]; rfl) (by decide) (w_law_run X hl hi5 hM hJ k495)
      by_cases c_8 : v = 8
      · exact lv_tableIn (tgt := 342) hx hb d_law_42 (by rw [c_8]; decide) (by rw [c_8]; decide) (by rw [c_8]; rfl) (by decide) (w_law_cell X hl hi5 hM hJ k495)
      by_cases c_9 : v = 9
      · exact lv_tableIn (tgt := 366) hx hb d_law_42 (by rw [c_9]; decide) (by rw [c_9]; decide) (by rw [c_9]; rfl) (by decide) (w_law_at X hl hi5 hM hJ k495)
      by_cases c_10 : v = 10
      · exact lv_tableIn (tgt := 400) hx hb d_law_42 (by rw [c_10]; decide) (by rw [c_10]; decide) (by rw [c_10]; rfl) (by decide) (w_law_region X hl hi5 hM hJ k495)
      by_cases c_11 : v = 11
      · exact lv_tableIn (tgt := 449) hx hb d_law_42 (by rw [c_11]; decide) (by rw [c_11]; decide) (by rw [c_11]; rfl) (by decide) (w_law_work X hl hi5 hM hJ k495)
      by_cases c_12 : v = 12
      · exact lv_tableIn (tgt := 472) hx hb d_law_42 (by rw [c_12]; decide) (by rw [c_12]; decide) (by rw [c_12]; rfl) (by decide) (w_law_count X hl hi5 hM hJ k495)
      refine lv_tableOut (tgt := 495) hx hb d_law_42 ?_ (by decide) (k495 M mm H hM hJ)
      have q_0 : v.toInt ≠ 0 := fun z => c_0 (Int32.toInt_inj.mp z)
      have q_1 : v.toInt ≠ 1 := fun z => c_1 (Int32.toInt_inj.mp z)
      have q_2 : v.toInt ≠ 2 := fun z => c_2 (Int32.toInt_inj.mp z)
      have q_3 : v.toInt ≠ 3 := fun z => c_3 (Int32.toInt_inj.mp z)
      have q_4 : v.toInt ≠ 4 := fun z => c_4 (Int32.toInt_inj.mp z)
      have q_5 : v.toInt ≠ 5 := fun z => c_5 (Int32.toInt_inj.mp z)
      have q_6 : v.toInt ≠ 6 := fun z => c_6 (Int32.toInt_inj.mp z)
      have q_7 : v.toInt ≠ 7 := fun z => c_7 (Int32.toInt_inj.mp z)
      have q_8 : v.toInt ≠ 8 := fun z => c_8 (Int32.toInt_inj.mp z)
      have q_9 : v.toInt ≠ 9 := fun z => c_9 (Int32.toInt_inj.mp z)
      have q_10 : v.toInt ≠ 10 := fun z => c_10 (Int32.toInt_inj.mp z)
      have q_11 : v.toInt ≠ 11 := fun z => c_11 (Int32.toInt_inj.mp z)
      have q_12 : v.toInt ≠ 12 := fun z => c_12 (Int32.toInt_inj.mp z)
      omega
/-! the start -/
theorem hm_of_W {D : va_G} {cl : List vw_C} {ca : Nat → ClassId} {n B : Nat} {sh : Nat → hm_S} {M : hm_M} {Lg : hm_L} {E : Nat → va_E} {H : Heap} (hW : hg_W D cl B n (hg_mix E 0 (fun i => hm_en ca B (sh i) (M i) (Lg i))) H) : hm_P D cl ca n sh B M Lg H := by
  intro k q hk
  obtain ⟨h1, h2⟩ := hm_wl_at hk
  rw [hm_get h1] at hk
  cases hk
  exact hW.1 k h1
theorem lz_cellpre {s : State} {H : Heap} {b L : Nat} {xs : Nat → Int32} {As : List Value} (hX : va_X b L xs s H) (hbl : b < H.size) : PreS s H (va_Pc As (fun U => U.heap = H ∧ va_X b L xs U H ∧ b < H.size)) As :=
  ⟨fun _ U _ _ q => ⟨q.1, q.2.1, va_X.moved (Vm.Alike.refl U.vm) q.2.2.1, q.2.2.2⟩, fun U hU hWm => ⟨rfl, hU, va_X.moved hWm.alike hX, hbl⟩⟩
set_option maxHeartbeats 4000000 in
set_option maxRecDepth 100000 in
theorem whole_start {p : Program} {e : Env} {s : State} {m : MethodId} {below : List Frame} {meth : Method} {c : Code} (l : Launch) {b L : Nat} {xs : Nat → Int32} (hL : L ≤ 2561) (C0 : lw_At p s m meth c b L xs) : W p l e room_1 s m #[Value.ref b] below meth c s.heap [] 0 0 (lw_Z below #[Value.ref b] s) (entryFrame m ([Value.ref b] : List Value).toArray 4) := by
  obtain ⟨hx, hb, hr, hml, hown, hts0, hX, hbl, hlk, hgv⟩ := id C0
  obtain ⟨D, ca, hK1⟩ := lz_kn1 hts0
  obtain ⟨D2, ca2, hK2⟩ := lz_kn2 hts0
  have hO := lz_AO hts0
  have hts := lz_tb hts0
  obtain ⟨B, hB⟩ : ∃ B, s.heap.size = B := ⟨_, rfl⟩
  have hbA : ¬ hg_A B b := by unfold hg_A; omega
  have hl := lv_entry ([.ref b]) (n := 4) (Nat.le_of_ble_eq_true rfl)
  rw [lg_entry_eq]
  generalize (lg_sl ([.ref b]) ++ List.replicate (4 - (lg_sl ([.ref b])).length) Slot.unset).toArray = ls at hl ⊢
  have hl : lv_has ls 4 [(0, .ref b)] := hl
  have hW : hg_W D sc_cl B 0 (fun _ => .inr (0, [])) s.heap := ⟨fun i hi => absurd hi (Nat.not_lt_zero i), hB⟩
  have hS : va_S (hg_A B) s.heap s.heap [] := va_S.rf
  obtain ⟨x0, ex0⟩ : ∃ x : Int32, x = if 0 < L then xs 0 else 0 := ⟨_, rfl⟩
  refine hg_new hx hb hts i_SC t_SC t_SC_ok hown (hts _ lz_wd_106) (hts _ lz_wd_107) (hts _ lz_wd_1) hK1.1 hW hS (ci := 0) rfl (fs := [.null, .null, .null, .int 0, .int 0]) (by decide) (Nat.le_of_ble_eq_true rfl) (Nat.le_of_ble_eq_true rfl) d_law_0 (fun H hW hS => ?_)
  refine lv_dup hx hb d_law_3 rfl ?_
  refine lv_aload_n hx hb d_law_4 rfl (lv_at hl 0 rfl) ?_
  refine lv_iconst (v := nI 0) hx hb d_law_5 (by decide) ?_
  have hXH : va_X b L xs s H := hX.kept (hS.2.1 b hbl hbA)
  have hbH : b < H.size := Nat.lt_of_lt_of_le hbl hS.1
  refine va_calli (va_runS (As := [.ref b, .int (nI 0)]) (rest := [.ref (B + 0), .ref (B + 0)]) ⟨hx, hb, hml, hown, hts⟩ (c_lcell (l := l) (b := b) (L := L) (k := 0) (xs := xs) (Hc := H) (by omega) (by omega)) (hq_cwS (nn := 2) hts lz_wd_116 lz_wd_117 lz_wd_118 lz_wd_119 (by decide +kernel) rfl rfl ⟨(Nat.le_of_ble_eq_true rfl), (Nat.le_of_ble_eq_true rfl)⟩) (lz_cellpre hXH hbH) rfl rfl hl.1 rfl (lv_room (Nat.le_of_ble_eq_true rfl)) d_law_6 ⟨(Nat.le_of_ble_eq_true rfl), (Nat.le_of_ble_eq_true rfl)⟩) hS (fun _ _ h => h.elim) (fun _ h => h.elim) (fun r u t H1 locs1 ht _ hw hBq _ _ hS1 => ?_)
  have er : r = x0 := hw.trans ex0.symm
  subst er
  have eH : H1 = H := ht.symm.trans hBq
  subst eH
  refine hg_call (va_runI (As := [.int r]) (rest := [.ref (B + 0)]) ⟨hx, hb, hml, hown, hts⟩ (c_SC_init (l := l) (D := D) (ca := ca) (B := B) (x := r) (E := va_up (fun _ => .inr (0, [])) 0 (.inr (0, [.null, .null, .null, .int 0, .int 0]))) (va_up_self _ _ _)) (hg_cwI (nn := 1) hts lz_wd_108 lz_wd_1 lz_wd_109 lz_wd_110 rfl (by decide +kernel) rfl rfl ⟨(Nat.le_of_ble_eq_true rfl), (Nat.le_of_ble_eq_true rfl)⟩) (hg_pre2 hK1 hO hW) rfl rfl hl.1 rfl (lv_room (Nat.le_of_ble_eq_true rfl)) d_law_9 ⟨(Nat.le_of_ble_eq_true rfl), (Nat.le_of_ble_eq_true rfl)⟩) hS1 (fun H locs hW hS => ?_)
  refine lv_astore_n (lv' := [(1, .ref (B + 0)), (0, .ref b)]) hx hb d_law_12 rfl hl (by decide) rfl (fun ls hl => ?_)
  have hP1 : hm_P D sc_cl ca 64 (sc_sh (sc_ln r)) B sc_M0 hm_L0 H := hm_of_W hW
  have hz : H.size = B + 64 := hW.2
  refine va_forget (fun q hq => by rw [hB]; exact hS.2.2 q hq) ?_
  have hW2 : hg_W D2 mo_cl (B + 64) 0 (fun _ => .inr (0, [])) H := ⟨fun i hi => absurd hi (Nat.not_lt_zero i), hz⟩
  have hS2 : va_S (hg_A (B + 64)) H H [] := va_S.rf
  refine hg_new hx hb hts i_Mo t_Mo t_Mo_ok hown (hts _ lz_wd_111) (hts _ lz_wd_112) (hts _ lz_wd_6) hK2.1 hW2 hS2 (ci := 0) rfl (fs := [.int 0, .null, .null, .null, .null, .null, .null, .null, .null, .int 0, .int 0, .int 0, .int 0, .int 0, .int 0, .null, .null, .null, .null, .null, .null]) (by decide) (Nat.le_of_ble_eq_true rfl) (Nat.le_of_ble_eq_true rfl) d_law_13 (fun H2 hW2 hS2 => ?_)
  refine lv_dup hx hb d_law_16 rfl ?_
  refine lv_aload_n hx hb d_law_17 rfl (lv_at hl 1 rfl) ?_
  refine lv_iconst (v := nI 0) hx hb d_law_18 (by decide) ?_
  have hXH : va_X b L xs s H := hX.kept (hS.2.1 b hbl hbA)
  have hbH : b < H.size := Nat.lt_of_lt_of_le hbl hS.1
  have hXH2 : va_X b L xs s H2 := hXH.kept (hS2.2.1 b hbH (by unfold hg_A; omega))
  have hbH2 : b < H2.size := Nat.lt_of_lt_of_le hbH hS2.1
  refine va_calli (va_runS (As := [.ref b, .int (nI 0)]) (rest := [.ref (B + 64 + 0), .ref (B + 64 + 0)]) ⟨hx, hb, hml, hown, hts⟩ (c_lcell (l := l) (b := b) (L := L) (k := 0) (xs := xs) (Hc := H2) (by omega) (by omega)) (hq_cwS (nn := 2) hts lz_wd_116 lz_wd_117 lz_wd_118 lz_wd_119 (by decide +kernel) rfl rfl ⟨(Nat.le_of_ble_eq_true rfl), (Nat.le_of_ble_eq_true rfl)⟩) (lz_cellpre hXH2 hbH2) rfl rfl hl.1 rfl (lv_room (Nat.le_of_ble_eq_true rfl)) d_law_19 ⟨(Nat.le_of_ble_eq_true rfl), (Nat.le_of_ble_eq_true rfl)⟩) hS2 (fun _ _ h => h.elim) (fun _ h => h.elim) (fun r2 u2 t2 H3 locs3 ht2 _ hw2 hBq2 _ _ hS3 => ?_)
  have er2 : r2 = r := hw2.trans ex0.symm
  subst er2
  have eH2 : H3 = H2 := ht2.symm.trans hBq2
  subst eH2
  refine hg_call (va_runI (As := [.int r2]) (rest := [.ref (B + 64 + 0)]) ⟨hx, hb, hml, hown, hts⟩ (c_Mo_init (l := l) (D := D2) (ca := ca2) (B := B + 64) (x := r2) (E := va_up (fun _ => .inr (0, [])) 0 (.inr (0, [.int 0, .null, .null, .null, .null, .null, .null, .null, .null, .int 0, .int 0, .int 0, .int 0, .int 0, .int 0, .null, .null, .null, .null, .null, .null]))) (va_up_self _ _ _)) (hg_cwI (nn := 1) hts lz_wd_113 lz_wd_6 lz_wd_114 lz_wd_115 rfl (by decide +kernel) rfl rfl ⟨(Nat.le_of_ble_eq_true rfl), (Nat.le_of_ble_eq_true rfl)⟩) (hg_pre hK2 hW2) rfl rfl hl.1 rfl (lv_room (Nat.le_of_ble_eq_true rfl)) d_law_22 ⟨(Nat.le_of_ble_eq_true rfl), (Nat.le_of_ble_eq_true rfl)⟩) hS3 (fun H4 locs4 hW4 hS4 => ?_)
  refine lv_astore_n (lv' := [(2, .ref (B + 64 + 0)), (1, .ref (B + 0)), (0, .ref b)]) hx hb d_law_25 rfl hl (by decide) rfl (fun ls hl => ?_)
  refine lv_iconst (v := nI 1) hx hb d_law_26 (by decide) ?_
  refine lv_istore_n (lv' := [(3, .int (nI 1)), (2, .ref (B + 64 + 0)), (1, .ref (B + 0)), (0, .ref b)]) hx hb d_law_27 rfl hl (by decide) rfl (fun ls hl => ?_)
  refine va_forget (fun q hq => by have : B + 64 ≤ q.base := hS4.2.2 q hq; omega) ?_
  refine W.widen (k := 79) (n := 1791) (by decide) (by decide) ?_
  have hP2 : hm_P D2 mo_cl ca2 15 mo_sh (B + 64) (mo_M0 (sc_ln r2)) hm_L0 H4 := hm_of_W hW4
  have hJ : lz_J D D2 ca ca2 B (sc_ln r2) s sc_M0 (mo_M0 (sc_ln r2), hm_L0) H4 := by
    refine ⟨hP1.kept (fun k x hx => ?_), hP2, Nat.le_trans hS.1 hS4.1, fun q h1 h2 => ?_, fun _ h => absurd h List.not_mem_nil⟩
    · have hlt := (hP1 k x hx).lt
      obtain ⟨g1, g2⟩ := hm_wl_at hx
      exact hS4.2.1 x.1 hlt (by unfold hg_A; omega)
    · exact (hS4.2.1 q (Nat.lt_of_lt_of_le h1 hS.1) (by unfold hg_A; omega)).trans (hS.2.1 q h1 h2)
  exact lw_loop ⟨hx, hb, hml, hown, hr, hlk, hK1, hK2, hX, hbl, hL, hB⟩ (L + 1) 1 sc_M0 (mo_M0 (sc_ln r2), hm_L0) H4 ls (by omega) (by omega) (sm_start (sc_ln_1 r2) (sc_ln_24 r2)) hJ (lv_sub hl [3, 2, 1, 0] rfl)
