/-! the law's start and loop -/
set_option maxHeartbeats 4000000 in
set_option maxRecDepth 100000 in
theorem c_lcell {l : Launch} {b L k : Nat} {xs : Nat → Int32} {Hc : Heap} (hL : L < 2147483648) (hk : k < 2147483648) : Met l y_lcell [Cond.code y_lcell method_2_code 2 (some .int)] ({ frames := 0, cells := 0, slots := 0, locals := 0 } : Room) (va_Pc [.ref b, .int (nI k)] (fun U => U.heap = Hc ∧ va_X b L xs U Hc ∧ b < Hc.size)) (va_Qi (fun (r : Int32) (_ : Unit) => r = if k < L then xs k else 0) (fun _ t => t.heap = Hc) (fun _ => False)) 0 0 (fun _ => False) := by
  refine Met.ofW (cc := method_2_code) (maxL := 2) (ret := (some .int)) (by decide +kernel) rfl ?_
  intro p e s m args below meth c s₁ Bd hml hv
  obtain ⟨rfl, hH, hX, hbl⟩ := hv
  have hx := Bd.exec
  have hb := Bd.bytes
  have hr := Bd.returns
  have hlk := Bd.notSynchronized
  subst hH
  have hS : va_S (fun _ => False) s.heap s.heap [] := va_S.rf
  have hl := lv_entry ([.ref b, .int (nI k)]) (n := 2) (Nat.le_of_ble_eq_true rfl)
  rw [lg_entry_eq]
  generalize (lg_sl ([.ref b, .int (nI k)]) ++ List.replicate (2 - (lg_sl ([.ref b, .int (nI k)])).length) Slot.unset).toArray = ls at hl ⊢
  have hl : lv_has ls 2 [(0, .ref b), (1, .int (nI k))] := hl
  refine lv_iload_n hx hb d_lcell_0 rfl (lv_at hl 1 rfl) ?_
  refine lv_aload_n hx hb d_lcell_1 rfl (lv_at hl 0 rfl) ?_
  refine va_slen hx hb hX hbl (fun h => h) hS d_lcell_2 ?_
  refine lv_icmp_ge (tgt := 12) hx hb d_lcell_3 (by decide) (fun c1 => ?_) (fun c1 => ?_)
  · have hk2 : ¬ k < L := fun z => by
      have := (nI_lei (a := L) (b := k) hL hk).mp c1
      omega
    refine lv_iconst (v := 0) hx hb d_lcell_12 (by decide) ?_
    exact W.iret (v := 0) hx hb hr (fun t ht _ => ⟨⟨0, (), rfl, by rw [if_neg hk2], ht⟩, hS.F ht⟩) hS.2.2 d_lcell_13 hlk
  · have hk2 : k < L := by
      rcases Nat.lt_or_ge k L with q | q
      · exact q
      · exact absurd ((nI_lei (a := L) (b := k) hL hk).mpr q) c1
    refine lv_aload_n hx hb d_lcell_6 rfl (lv_at hl 0 rfl) ?_
    refine lv_iload_n hx hb d_lcell_7 rfl (lv_at hl 1 rfl) ?_
    refine va_sld hx hb hX hbl (fun h => h) hS (vp_in_nI hk2 hL) d_lcell_8 ?_
    rw [nI_clamp (show k < 2 ^ 31 by omega)]
    refine lv_goto (tgt := 13) hx hb d_lcell_9 (by decide) ?_
    exact W.iret (v := xs k) hx hb hr (fun t ht _ => ⟨⟨xs k, (), rfl, by rw [if_pos hk2], ht⟩, hS.F ht⟩) hS.2.2 d_lcell_13 hlk
/-! what the tables give -/
theorem lz_arr {ty : FieldType} {args : Array Value} {s : State} (h : (Cond.arrayClass ty).before args s = true) : ∃ cA : ClassId, ArrOfT s cA ty ∧ s.vm.findClass ("[" ++ ty.toString) = some cA := by
  obtain ⟨cA, k, comp, h1, h2, h3⟩ := Cond.arrayClass_spec h
  exact ⟨cA, fun n z => ⟨(fun q hq => by cases hq), k, h2, comp, h3⟩, h1⟩
theorem lz_AO {b : Nat} {s : State} (hts : ∀ w ∈ lw_tbl, w.before #[Value.ref b] s = true) : sc_AO s :=
  ⟨va_AO.of (hts (Cond.arrayOver (.object R_Stage)) (List.mem_of_getElem? (i := 74) (by decide +kernel))), hts (Cond.arrayOver (.array .int)) (List.mem_of_getElem? (i := 224) (by decide +kernel))⟩
theorem lz_tb {b : Nat} {s : State} (hts : ∀ w ∈ lw_tbl, w.before #[Value.ref b] s = true) : ∀ w ∈ hq_tb, w.before #[Value.ref b] s = true := fun w h => hts w (List.mem_filter.mp h).1
theorem lz_kn1 {b : Nat} {s : State} (hts : ∀ w ∈ lw_tbl, w.before #[Value.ref b] s = true) : ∃ (D : va_G) (ca : Nat → ClassId), hq_K D sc_cl (sc_ty ca) hq_tb s := by
  have htb := lz_tb hts
  obtain ⟨c0, i0, k0⟩ := u_known (C := R_SC) (T := F_SC) (N := 5) (n := 5) htb i_SC (hts (.instantiable R_SC 5) (List.mem_of_getElem? (i := 54) (by decide +kernel)))
  obtain ⟨c1, i1, k1⟩ := u_known (C := R_Pipe) (T := F_Pipe) (N := 7) (n := 7) htb i_Pipe (hts (.instantiable R_Pipe 7) (List.mem_of_getElem? (i := 62) (by decide +kernel)))
  obtain ⟨c2, i2, k2⟩ := u_known (C := R_Stage) (T := F_Stage) (N := 7) (n := 7) htb i_Stage (hts (.instantiable R_Stage 7) (List.mem_of_getElem? (i := 75) (by decide +kernel)))
  obtain ⟨c3, i3, k3⟩ := u_known (C := R_Plan) (T := F_Plan) (N := 8) (n := 8) htb i_Plan (hts (.instantiable R_Plan 8) (List.mem_of_getElem? (i := 156) (by decide +kernel)))
  obtain ⟨c4, i4, k4⟩ := u_known (C := R_Needs) (T := F_Needs) (N := 3) (n := 3) htb i_Needs (hts (.instantiable R_Needs 3) (List.mem_of_getElem? (i := 162) (by decide +kernel)))
  obtain ⟨c5, i5, k5⟩ := u_known (C := R_Runner) (T := F_Runner) (N := 5) (n := 5) htb i_Runner (hts (.instantiable R_Runner 5) (List.mem_of_getElem? (i := 216) (by decide +kernel)))
  obtain ⟨a0, x0, y0⟩ := lz_arr (hts (.arrayClass .int) (List.mem_of_getElem? (i := 118) (by decide +kernel)))
  obtain ⟨a1, x1, y1⟩ := lz_arr (hts (.arrayClass .boolean) (List.mem_of_getElem? (i := 184) (by decide +kernel)))
  obtain ⟨cm2, a2, kA2, g1, g2, g3, g4, g5⟩ := Cond.arrayOver_spec (lz_AO hts).1
  obtain ⟨cm3, a3, kA3, f1, f2, f3, f4⟩ := Cond.arrayOver_specA (lz_AO hts).2
  refine ⟨(fun k => match k with | 0 => c0 | 1 => c1 | 2 => c2 | 3 => c3 | 4 => c4 | _ => c5, fun k => match k with | 0 => i0 | 1 => i1 | 2 => i2 | 3 => i3 | 4 => i4 | _ => i5), (fun k => match k with | 0 => a0 | 1 => a1 | 2 => a2 | _ => a3), ⟨fun k q hq => ?_, fun k q hq => ?_⟩, hq_tb_ok, fun w hw a => hq_any (hq_tb_ok w hw) (htb w hw) a⟩
  · match k, hq with
    | 0, hq => cases hq; exact k0
    | 1, hq => cases hq; exact k1
    | 2, hq => cases hq; exact k2
    | 3, hq => cases hq; exact k3
    | 4, hq => cases hq; exact k4
    | 5, hq => cases hq; exact k5
    | k + 6, hq => simp at hq
  · match k, hq with
    | 0, hq => cases hq; exact ⟨x0, y0⟩
    | 1, hq => cases hq; exact ⟨x1, y1⟩
    | 2, hq => cases hq; exact ⟨fun n z => ⟨(fun q hq => by cases hq), kA2, g3, cm2, g4⟩, kA2, cm2, g3, g4, g1, g5⟩
    | 3, hq => cases hq; exact ⟨fun n z => ⟨(fun q hq => by cases hq), kA3, f2, cm3, f3⟩, f4⟩
    | k + 4, hq => simp at hq
theorem lz_kn2 {b : Nat} {s : State} (hts : ∀ w ∈ lw_tbl, w.before #[Value.ref b] s = true) : ∃ (D : va_G) (ca : Nat → ClassId), hq_K D mo_cl (mo_ty ca) hq_tb s := by
  have htb := lz_tb hts
  obtain ⟨c0, i0, k0⟩ := u_known (C := R_Mo) (T := F_Mo) (N := 21) (n := 21) htb i_Mo (hts (.instantiable R_Mo 21) (List.mem_of_getElem? (i := 455) (by decide +kernel)))
  obtain ⟨a0, x0, y0⟩ := lz_arr (hts (.arrayClass .int) (List.mem_of_getElem? (i := 118) (by decide +kernel)))
  obtain ⟨a1, x1, y1⟩ := lz_arr (hts (.arrayClass .boolean) (List.mem_of_getElem? (i := 184) (by decide +kernel)))
  obtain ⟨a2, x2, y2⟩ := lz_arr (hts (.arrayClass .long) (List.mem_of_getElem? (i := 524) (by decide +kernel)))
  refine ⟨(fun _ => c0, fun _ => i0), (fun k => match k with | 0 => a0 | 1 => a1 | _ => a2), ⟨fun k q hq => ?_, fun k q hq => ?_⟩, hq_tb_ok, fun w hw a => hq_any (hq_tb_ok w hw) (htb w hw) a⟩
  · match k, hq with
    | 0, hq => cases hq; exact k0
    | k + 1, hq => simp at hq
  · match k, hq with
    | 0, hq => cases hq; exact ⟨x0, y0⟩
    | 1, hq => cases hq; exact ⟨x1, y1⟩
    | 2, hq => cases hq; exact ⟨x2, y2⟩
    | k + 3, hq => simp at hq
/-! the first state -/
theorem sm_start {rl : Nat} (h1 : 1 ≤ rl) (h24 : rl ≤ 24) : sm_I rl sc_M0 (mo_M0 rl, hm_L0) := by
  have z : ∀ i k, i ≠ 1 → sc_M0 i k = 0 := fun i k h => congrFun (sc_M0_ne h) k
  have w : ∀ i k, i ≠ 0 → mo_M0 rl i k = 0 := fun i k h => congrFun (if_neg h) k
  have n : ∀ (k : Nat) (t : pl_Tap), ([] : List pl_Tap)[k]? = some t → False := fun k t hk => by simp at hk
  refine ⟨(fun _ => (0, 0, 0, []), fun _ => 0, rl, 0, 4, none), false, false, rfl, ⟨⟨⟨h1, h24⟩, Nat.zero_le 8, ⟨(show 1 ≤ 4 by decide), (show 4 ≤ 32 by decide)⟩, (fun o w h => by cases h), (fun s => ⟨Nat.zero_le 3, Nat.zero_le 2, Nat.zero_le 4, fun t ht => by cases ht⟩), (fun s hs => ⟨rfl, rfl⟩)⟩, ⟨rfl, rfl, rfl, (fun i hi => rfl), (fun s hs => ⟨z _ _ (by omega), z _ _ (by omega), z _ _ (by omega), z _ _ (by omega), fun k t hk => (n k t hk).elim⟩)⟩, (fun q hq => rfl), rfl, rfl, (fun h => by cases h), (fun h => by cases h)⟩, ⟨rfl, rfl, rfl, rfl, (fun i hi => rfl), (fun s hs => ⟨rfl, rfl, rfl, rfl, fun k t hk => (n k t hk).elim⟩)⟩, rfl, rfl, (fun h => by cases h)⟩
