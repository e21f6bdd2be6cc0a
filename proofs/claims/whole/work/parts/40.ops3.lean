/-! run, cell, at, region, work -/
theorem sc_I_keep {M M' : hm_M} {P : pl_X} {cp rn : Bool} (h : sc_I M P cp rn) (e : ∀ i, i ≠ 3 → M' i = M i) : sc_I M' P cp rn := by
  obtain ⟨h1, h2, h3, h4, h5, h6, h7⟩ := h
  refine ⟨h1, sc_R_keep h2 (fun i hi => e i (by rcases hi with rfl | rfl | ⟨_, _⟩ <;> omega)), (fun q hq => by rw [e 53 (by omega)]; exact h3 q hq), by rw [e 0 (by omega)]; exact h4, by rw [e 0 (by omega)]; exact h5, fun hc => ?_, fun hr => ?_⟩
  · obtain ⟨o, w, a, b⟩ := h6 hc
    exact ⟨o, w, a, sc_PL_keep b (fun i _ _ => e i (by omega))⟩
  · obtain ⟨a, o, w, b, d⟩ := h7 hr
    exact ⟨a, o, w, b, fun y hy => by rw [e 63 (by omega)]; exact d y hy⟩
theorem mo_I_keep {m m' : mo_M} {P : pl_X} {cp rn : Bool} (h : mo_I m P cp rn) (e : ∀ i, i < 10 → m'.1 i = m.1 i) : mo_I m' P cp rn := by
  obtain ⟨h1, h2, h3, h4⟩ := h
  refine ⟨mo_R_keep h1 (fun i hi => e i (by omega)), by rw [e 0 (by omega)]; exact h2, by rw [e 0 (by omega)]; exact h3, fun hr => ?_⟩
  obtain ⟨o, w, a, b⟩ := h4 hr
  exact ⟨o, w, a, fun y hy => by rw [e 9 (by omega)]; exact b y hy⟩
theorem op_run {rl : Nat} {M : hm_M} {m : mo_M} (h : sm_I rl M m) : sm_op rl (f_SC_run rl M) (f_Mo_run m) := by
  obtain ⟨P, cp, rn, hrl, ⟨hw, hR, hK, h03, h04, hcp, hrn⟩, ⟨hm, g13, g14, grn⟩⟩ := id h
  unfold f_SC_run f_Mo_run
  cases cp with
  | false =>
    rw [if_pos (by rw [h03]; rfl), if_pos (by rw [g13]; rfl)]
    exact sm_same h _
  | true =>
    rw [if_neg (by rw [h03]; decide), if_neg (by rw [g13]; decide)]
    obtain ⟨o, w, hou, hp⟩ := hcp rfl
    subst hrl
    obtain ⟨M1, e1, out1, K1, v1⟩ := ev_sched hw hou hR hp.1 hK
    obtain ⟨m1, f1, a1, a2, a3, a4⟩ := ev_mrun12 hw hou 1000 0 m (by omega) (by have := (hw.2.2.2.1 o w hou).2; omega) hm (fun y hy => by omega)
    have hR1 := sc_R_oN hR out1
    have e : ∀ i, i ≠ 0 → hm_up M1 0 4 1 i = M1 i := fun i hi => hm_up_ne hi
    have hR2 : sc_R (hm_up M1 0 4 1) P := sc_R_keep hR1 (fun i hi => e i (by rcases hi with rfl | rfl | ⟨_, _⟩ <;> omega))
    rw [e1, show (0 : Int32) = nI 0 from rfl, f1]
    simp only [hm_bV, hm_st, ev_tileCount hw hou hR2, hm_bI]
    refine ⟨_, _, _, rfl, rfl, P, true, true, rfl, ⟨hw, hR2, (fun q hq => by rw [e 53 (by omega)]; exact K1 q hq), ?_, hm_rd_eq, (fun _ => ⟨o, w, hou, sc_PL_keep hp (fun i h1 h2 => by rw [e i (by omega)]; exact out1 i (by omega))⟩), (fun _ => ⟨rfl, o, w, hou, fun y hy => by rw [e 63 (by omega)]; exact v1 y hy⟩)⟩, ?_, ?_, a3, (fun _ => ⟨o, w, hou, a4⟩)⟩
    · rw [hm_rd_ne (by omega), out1 0 (by omega)]; exact h03
    · obtain ⟨b0, b1, b2, b3, b4, b5⟩ := hm
      have k : ∀ i, i ≠ 0 → i ≤ 8 → m1.1 i = m.1 i := fun i h0 h8 => a1 i h0 (by omega) (by omega)
      refine ⟨by rw [a2 0 (by omega)]; exact b0, by rw [a2 9 (by omega)]; exact b1, by rw [a2 10 (by omega)]; exact b2, by rw [a2 11 (by omega), a2 12 (by omega)]; exact b3, by rw [k 1 (by omega) (by omega)]; exact b4, ?_⟩
      rw [k 2 (by omega) (by omega), k 3 (by omega) (by omega), k 4 (by omega) (by omega), k 5 (by omega) (by omega), k 6 (by omega) (by omega), k 7 (by omega) (by omega), k 8 (by omega) (by omega)]
      exact b5
    · rw [a2 13 (by omega)]; exact g13
theorem op_cell {rl : Nat} {M : hm_M} {m : mo_M} (h : sm_I rl M m) (x1 : Int32) : sm_op rl (f_SC_cell M x1) (f_Mo_cell m x1) := by
  obtain ⟨P, cp, rn, hrl, ⟨hw, hR, hK, h03, h04, hcp, hrn⟩, ⟨hm, g13, g14, grn⟩⟩ := id h
  unfold f_SC_cell f_SC_cell_22 f_Mo_cell f_Mo_cell_19 f_Mo_cell_32
  cases rn with
  | false =>
    rw [if_pos (by rw [h04]; rfl), if_pos (by rw [g14]; rfl)]
    exact sm_same h _
  | true =>
    rw [if_neg (show ¬ M 0 4 = 0 by rw [h04]; decide), if_neg (show ¬ m.1 0 14 = 0 by rw [g14]; decide)]
    obtain ⟨-, o, w, hou, hv⟩ := hrn rfl
    obtain ⟨o', w', hou', gv⟩ := grn rfl
    obtain ⟨rfl, rfl⟩ := pl_ou_inj hou hou'
    obtain ⟨-, hw1, hw2⟩ := hw.2.2.2.1 o' w' hou
    rw [(sc_out15 hR hou).2, (mo_out11 hm hou).2]
    by_cases c1 : x1 < 0
    · rw [if_pos c1, if_pos c1]; exact sm_same h _
    rw [if_neg c1, if_neg c1]
    rcases pk_ix x1 (n := w') (by omega) with d | d | ⟨j, hj, rfl⟩
    · exact absurd d c1
    · have c2 : ¬ x1 < nI w' := fun z => by
        have h1 := Int32.le_iff_toInt_le.mp d
        have h2 := Int32.lt_iff_toInt_lt.mp z
        omega
      rw [if_neg c2, if_neg c2]; exact sm_same h _
    · rw [if_pos ((nI_lti (by omega) (by omega)).mpr hj), if_pos ((nI_lti (by omega) (by omega)).mpr hj), hm_gd_t (nI_ix (show j < 32 by omega) (by decide)), hm_gd_t (nI_ix (show j < 32 by omega) (by decide)), nI_clamp (show j < 2 ^ 31 by omega), hv j hj, gv j hj]
      exact sm_same h _
theorem pl_dm_none {P : pl_X} (hw : pl_wf P) : ∀ (s n : Nat) (x : Int), s < n → -200000 + 10 * (s : Int) ≤ x → x ≤ 200000 - 10 * (s : Int) → s < 8 → n ≤ 9 → sc_dm P (fun _ => none) n s x := by
  intro s
  induction s using Nat.strongRecOn with
  | _ s ih =>
    intro n x hn h1 h2 hs8 hn9
    cases n with
    | zero => omega
    | succ n =>
      refine ⟨by omega, fun t ht q hq => ?_⟩
      obtain ⟨k1, k2, k3⟩ := (hw.2.2.2.2.1 s).2.2.2 t ht
      have hqs := k1 q hq
      exact ih q hqs n (x + t.2.1) (by omega) (by omega) (by omega) (by omega) (by omega)
theorem op_at {rl : Nat} {M : hm_M} {m : mo_M} (h : sm_I rl M m) (x1 x2 : Int32) : sm_op rl (f_SC_at rl M x1 x2) (f_Mo_at m x1 x2) := by
  obtain ⟨P, cp, rn, hrl, hS, hO⟩ := id h
  obtain ⟨hw, hR, hK, h03, h04, hcp, hrn⟩ := id hS
  obtain ⟨hm, g13, g14, grn⟩ := id hO
  have h8 := hw.2.1
  unfold f_SC_at f_SC_at_37 f_Mo_at f_Mo_at_20
  rw [ev_has hw hR, ev_no hw hm]
  dsimp only [hm_bI]
  rcases pl_has_cases hw x1 with ⟨e, _⟩ | ⟨e, s, hs, rfl⟩
  · rw [e, if_pos (show b01 false = 0 from rfl), if_neg (show ¬ b01 (!false) = 0 by decide)]
    exact sm_same h _
  rw [e, if_neg (show ¬ b01 true = 0 by decide), if_pos (show b01 (!true) = 0 from rfl)]
  by_cases c1 : x2 < -100
  · rw [if_pos c1, if_pos c1]; exact sm_same h _
  rw [if_neg c1, if_neg c1]
  have hs8 : s < 8 := by omega
  by_cases c2 : x2 ≤ 100
  · rw [if_pos c2]
    have d1 : ¬ x2.toInt < -100 := fun z => c1 (Int32.lt_iff_toInt_lt.mpr z)
    have d2 : x2.toInt ≤ 100 := Int32.le_iff_toInt_le.mp c2
    have c3 : ¬ (100 : Int32) < x2 := fun z => by
      have := Int32.lt_iff_toInt_lt.mp z
      have h100 : (100 : Int32).toInt = 100 := rfl
      omega
    rw [if_neg c3]
    obtain ⟨M1, e1, out1⟩ := ev_vals hw hs8 hR
    have hR1 := sc_R_o3 hR out1
    obtain ⟨m1, f1, mo1⟩ := ev_mat26 hw hs8 (x := x2.toInt) (by omega) 1000 0 m (by omega) (by omega) hm (fun j hj => by omega)
    rw [← iI_of x2, show nI 0 = 0 from rfl] at f1
    rw [f1, e1]
    dsimp only
    have hct := pl_ct_lt hw hs8
    have sI : sm_I rl M1 m1 := ⟨P, cp, rn, hrl, sc_I_keep hS out1, mo_I_keep hO (fun i hi => mo1 i (by omega))⟩
    by_cases c4 : pl_ct P s ≤ 3000
    · rw [if_pos (by rw [show (3000 : Int32) = nI 3000 from rfl]; exact (nI_lei (by omega) (by omega)).mpr c4), if_pos c4]
      have K1 : sc_KR M1 P (fun _ => none) := fun q hq => by
        show M1 53 q = 0
        rw [out1 53 (by omega)]; exact hK q hq
      have ew := ev_workOut hw hR1 K1 9 s x2.toInt hs8 (pl_dm_none hw s 9 x2.toInt (by omega) (by omega) (by omega) hs8 (by omega))
      rw [← iI_of x2, hrl] at ew
      rw [ew]
      exact ⟨_, _, _, rfl, rfl, sI⟩
    · rw [if_neg (fun z => c4 (by rw [show (3000 : Int32) = nI 3000 from rfl] at z; exact (nI_lei (by omega) (by omega)).mp z)), if_neg c4]
      exact ⟨_, _, _, rfl, rfl, sI⟩
  · rw [if_neg c2]
    have c3 : (100 : Int32) < x2 := by
      refine Int32.lt_iff_toInt_lt.mpr ?_
      have h100 : (100 : Int32).toInt = 100 := rfl
      have : ¬ x2.toInt ≤ 100 := fun z => c2 (Int32.le_iff_toInt_le.mpr z)
      omega
    rw [if_pos c3]; exact sm_same h _
theorem op_region {rl : Nat} {M : hm_M} {m : mo_M} (h : sm_I rl M m) (x1 x2 : Int32) : sm_op rl (f_SC_region M x1 x2) (f_Mo_region m x1 x2) := by
  obtain ⟨P, cp, rn, hrl, hS, hO⟩ := id h
  obtain ⟨hw, hR, hK, h03, h04, hcp, hrn⟩ := id hS
  obtain ⟨hm, g13, g14, grn⟩ := id hO
  have h8 := hw.2.1
  unfold f_SC_region f_SC_region_37 f_SC_region_72 f_Mo_region f_Mo_region_66
  cases cp with
  | false =>
    rw [if_pos (by rw [h03]; rfl), if_pos (by rw [g13]; rfl)]
    exact sm_same h _
  | true =>
    rw [if_neg (by rw [h03]; decide), if_neg (by rw [g13]; decide), ev_has hw hR, ev_no hw hm]
    dsimp only [hm_bI]
    rcases pl_has_cases hw x1 with ⟨e, _⟩ | ⟨e, s, hs, rfl⟩
    · rw [e, if_pos (show b01 false = 0 from rfl), if_neg (show ¬ b01 (!false) = 0 by decide)]
      exact sm_same h _
    rw [e, if_neg (show ¬ b01 true = 0 by decide), if_pos (show b01 (!true) = 0 from rfl)]
    have hs8 : s < 8 := by omega
    obtain ⟨o, w, hou, hp⟩ := hcp rfl
    obtain ⟨ho, hw1, hw2⟩ := hw.2.2.2.1 o w hou
    have ew : nI w - 1 = iI ((w : Int) - 1) := by rw [iI_nat, lit_1, iI_sub]
    obtain ⟨m1, f1, mo1, N1⟩ := ev_mneed hw hou (f := 0) (t := (w : Int) - 1) (by omega) (by omega) hm
    rw [show iI 0 = 0 from rfl] at f1
    rw [(mo_out11 hm hou).2, ew, f1]
    dsimp only [hm_bV]
    have gs : hm_ix (nI s) 8 = true := nI_ix hs8 (by decide)
    have cs : (nI s).toNatClampNeg = s := nI_clamp (by omega)
    simp only [hm_gd, gs, cs]
    have sI : sm_I rl M m1 := ⟨P, true, rn, hrl, hS, mo_I_keep hO (fun i hi => mo1.2 i (by omega) (by omega) (by omega))⟩
    have A := hp.1 s hs8
    have B := N1 s hs8
    cases hst : pl_nd P o s with
    | none =>
      rw [hst] at A B
      dsimp only at A B
      rw [if_pos (show M 39 s = 0 from A), if_pos B]
      exact ⟨_, _, _, rfl, rfl, sI⟩
    | some r =>
      rw [hst] at A B
      dsimp only at A B
      rw [if_neg (show ¬ M 39 s = 0 from fun z => absurd (A.1.symm.trans z) (by decide)), if_neg (show ¬ m1.1 11 s = 0 from fun z => absurd (B.1.symm.trans z) (by decide))]
      by_cases c : x2 = 0
      · rw [if_pos c, if_pos c, show M 40 s = _ from A.2.1, B.2.1]
        exact ⟨_, _, _, rfl, rfl, sI⟩
      · rw [if_neg c, if_neg c, show M 41 s = _ from A.2.2, B.2.2]
        exact ⟨_, _, _, rfl, rfl, sI⟩
theorem op_work {rl : Nat} {M : hm_M} {m : mo_M} (h : sm_I rl M m) (x1 : Int32) : sm_op rl (f_SC_work M x1) (f_Mo_work m x1) := by
  obtain ⟨P, cp, rn, hrl, hS, hO⟩ := id h
  obtain ⟨hw, hR, hK, h03, h04, hcp, hrn⟩ := id hS
  obtain ⟨hm, g13, g14, grn⟩ := id hO
  have h8 := hw.2.1
  unfold f_SC_work f_SC_work_34 f_Mo_work
  rw [ev_has hw hR, ev_no hw hm]
  dsimp only [hm_bI]
  rcases pl_has_cases hw x1 with ⟨e, _⟩ | ⟨e, s, hs, rfl⟩
  · rw [e, if_pos (show b01 false = 0 from rfl), if_neg (show ¬ b01 (!false) = 0 by decide)]
    exact sm_same h _
  rw [e, if_neg (show ¬ b01 true = 0 by decide), if_pos (show b01 (!true) = 0 from rfl)]
  have hs8 : s < 8 := by omega
  cases cp with
  | false =>
    rw [if_pos (by rw [h03]; rfl), if_pos (by rw [g13]; rfl)]
    exact sm_same h _
  | true =>
    rw [if_neg (by rw [h03]; decide), if_neg (by rw [g13]; decide)]
    obtain ⟨o, w, hou, hp⟩ := hcp rfl
    obtain ⟨m1, f1, mo1, v1⟩ := ev_mtotal hw hou hm
    rw [f1]
    dsimp only
    rw [hm_gd_t (nI_ix hs8 (by decide)), hm_gd_t (nI_ix hs8 (by decide)), nI_clamp (show s < 2 ^ 31 by omega), hp.2.1 s hs8, v1 s hs8, lN_i]
    exact ⟨_, _, _, rfl, rfl, ⟨P, true, rn, hrl, hS, mo_I_keep hO (fun i hi => mo1 i (by omega) (by omega) (by omega))⟩⟩
