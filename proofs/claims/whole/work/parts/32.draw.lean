theorem pl_ln_88 {o : Nat} {st : pl_N} (h : pl_bd o st) (ho : o < 8) {f t : Int} (hf : 0 ≤ f) (ht : t ≤ 31) (q : Nat) : pl_ln st f t q ≤ 88 := by
  unfold pl_ln
  cases hst : st q with
  | none => exact Nat.zero_le _
  | some r =>
    obtain ⟨h1, h2, h3, h4⟩ := h q r.1 r.2 hst
    show ((t + r.2) - (f + r.1) + 1).toNat ≤ 88
    omega
theorem pl_lf_88 {P : pl_X} {o m : Nat} {st : pl_N} (h : pl_bd o st) (ho : o < 8) {f t : Int} (hf : 0 ≤ f) (ht : t ≤ 31) (q : Nat) : pl_lf P st m f t q ≤ 88 := by
  unfold pl_lf
  split
  · exact pl_ln_88 h ho hf ht q
  · omega
theorem pl_iq_le {P : pl_X} {v : Nat} : ∀ (l : List pl_Tap) (w : Nat → Nat) (q : Nat), pl_iq P v l w q ≤ w q + l.length * v
  | [], w, q => by simp [pl_iq]
  | t :: l, w, q => by
    unfold pl_iq
    refine Nat.le_trans (pl_iq_le l _ q) ?_
    rw [List.length_cons, Nat.succ_mul]
    cases hq : t.1 with
    | none =>
      show w q + _ ≤ _
      omega
    | some p =>
      by_cases hm : pl_md P p = 0
      · simp only [hm, if_true]
        by_cases h : q = p
        · rw [if_pos h]; omega
        · rw [if_neg h]; omega
      · simp only [hm, if_false]
        omega
def pl_U : Nat → Nat
  | 0 => 0
  | n + 1 => 1 + 5 * pl_U n
theorem pl_U_le : ∀ n, n ≤ 8 → pl_U n ≤ 97656 := by decide
theorem pl_dn_le {P : pl_X} (hw : pl_wf P) : ∀ (n X Y : Nat) (r : (Nat → Nat) × Nat), (∀ q, r.1 q ≤ X) → r.2 ≤ Y → (pl_dn P n r).2 ≤ Y + X * pl_U n
  | 0, X, Y, r, _, h => by
    unfold pl_dn pl_U
    omega
  | n + 1, X, Y, r, hX, hY => by
    unfold pl_dn pl_U
    have h4 := (hw.2.2.2.2.1 n).2.2.1
    have h1 := pl_dn_le hw n (5 * X) (Y + X) (pl_iq P (r.1 n) (pl_tp P n) r.1, r.2 + r.1 n) (fun q => by
      have h2 := pl_iq_le (P := P) (v := r.1 n) (pl_tp P n) r.1 q
      have h3 := hX q
      have h5 := hX n
      have h6 : (pl_tp P n).length * r.1 n ≤ 4 * X := Nat.mul_le_mul h4 h5
      show pl_iq P (r.1 n) (pl_tp P n) r.1 q ≤ 5 * X
      omega) (by have := hX n; show r.2 + r.1 n ≤ Y + X; omega)
    refine Nat.le_trans h1 ?_
    rw [Nat.mul_add, Nat.mul_one, Nat.add_assoc, Nat.mul_comm 5 X, Nat.mul_assoc]
    exact Nat.le_refl _
theorem pl_F_le {P : pl_X} (hw : pl_wf P) {o w t : Nat} (hou : pl_ou P = some (o, w)) (ht : t < pl_nt P w) (q : Nat) : pl_F P o w t q ≤ 88 := by
  obtain ⟨ho, hw1, hw2⟩ := hw.2.2.2.1 o w hou
  have ho8 : o < 8 := by have := hw.2.1; omega
  obtain ⟨p1, p2, p3, p4, p5⟩ := pl_tile hw hou ht
  exact pl_lf_88 (pl_nd_bd hw o) ho8 (by omega) (by omega) q
theorem pl_wt_le {P : pl_X} (hw : pl_wf P) {o w : Nat} (hou : pl_ou P = some (o, w)) : ∀ (n t X : Nat) (wv : Nat → Nat), t + n ≤ pl_nt P w → (∀ q, wv q ≤ X) → ∀ q, pl_wt P o w n t wv q ≤ X + n * 88
  | 0, t, X, wv, _, h => fun q => by unfold pl_wt; have := h q; omega
  | n + 1, t, X, wv, ht, h => fun q => by
    unfold pl_wt
    have := pl_wt_le hw hou n (t + 1) (X + 88) (pl_wg (pl_F P o w t) wv 0 o) (by omega) (fun q => by
      unfold pl_wg
      have h1 := h q
      have h2 := pl_F_le hw hou (show t < pl_nt P w by omega) q
      split <;> omega) q
    rw [Nat.succ_mul]
    omega
theorem pl_wb_le {P : pl_X} (hw : pl_wf P) {o w : Nat} (hou : pl_ou P = some (o, w)) (q : Nat) : pl_wb P o w q ≤ 3000 := by
  obtain ⟨ho, hw1, hw2⟩ := hw.2.2.2.1 o w hou
  have ho8 : o < 8 := by have := hw.2.1; omega
  have hnt := pl_nt_le hw hou
  unfold pl_wb
  have := pl_wt_le hw hou (pl_nt P w) 0 100 (pl_rs P o w (pl_w0 o w) 0 o) (by omega) (fun q => by
    unfold pl_rs
    split
    · exact Nat.le_trans (pl_lf_88 (pl_nd_bd hw o) ho8 (by omega) (by omega) q) (by omega)
    · unfold pl_w0
      split <;> omega) q
  have h2 : pl_nt P w * 88 ≤ 32 * 88 := Nat.mul_le_mul_right 88 hnt
  omega
theorem pl_tt_lt {P : pl_X} (hw : pl_wf P) {o w : Nat} (hou : pl_ou P = some (o, w)) : pl_tt P o w < 2000000000 := by
  obtain ⟨ho, hw1, hw2⟩ := hw.2.2.2.1 o w hou
  have ho8 : o < 8 := by have := hw.2.1; omega
  unfold pl_tt
  have h1 := pl_dn_le hw (o + 1) 3000 0 (pl_wb P o w, 0) (pl_wb_le hw hou) (by omega)
  have h2 := pl_U_le (o + 1) (by omega)
  have h3 : 3000 * pl_U (o + 1) ≤ 3000 * 97656 := Nat.mul_le_mul_left 3000 h2
  omega
theorem ev_draw {P : pl_X} (hw : pl_wf P) {o w : Nat} (hou : pl_ou P = some (o, w)) {M : hm_M} (hR : sc_R M P) :
    ∃ M', f_Plan_draw M = some (match pl_lr P o with
      | some s => -200 - nI s
      | none => if pl_tt P o w ≤ 4000 then 0 else -300, M') ∧ sc_oD M M' ∧ (pl_lr P o = none → sc_PL M' P o w) := by
  obtain ⟨ho, hw1, hw2⟩ := hw.2.2.2.1 o w hou
  have ho8 : o < 8 := by have := hw.2.1; omega
  have hbd := pl_nd_bd hw o
  have h15 := sc_out15 hR hou
  unfold f_Plan_draw
  have ew : nI w - 1 = iI ((w : Int) - 1) := by rw [iI_nat, lit_1, iI_sub]
  rw [h15.1, if_neg (nI_ne_m1 (by omega)), h15.2, ew, lit_0]
  obtain ⟨M1, e1, out1, N1⟩ := ev_spread hw (a := 38) (by omega) hou (f := 0) (t := (w : Int) - 1) (by omega) (by omega) hR
  rw [e1]
  have hR1 := sc_R_out (by omega) hR out1
  have D1 : sc_oD M M1 := fun i hi => out1 i (by omega) (by omega) (by omega)
  obtain ⟨M2, e2, out2⟩ := ev_least hw hou hR1 N1
  have hR2 := sc_R_o46 hR1 out2
  have N2 := sc_NR_o46 (Or.inl rfl) N1 out2
  have D2 : sc_oD M M2 := fun i hi => (out2 i (by omega)).trans (D1 i hi)
  simp only [hm_bV, e2, hm_bI]
  cases hlr : pl_lr P o with
  | some s =>
    have hs : s < 8 := by
      have key : ∀ (p : Nat → Bool) (n a b : Nat), pl_fs p n a = some b → b < a + n := by
        intro p n
        induction n with
        | zero => intro a b h; cases h
        | succ n ih =>
          intro a b h
          unfold pl_fs at h
          by_cases hp : p a = true
          · rw [if_pos hp] at h
            cases h
            omega
          · rw [if_neg hp] at h
            have := ih (a + 1) b h
            omega
      have := key _ _ _ _ hlr
      omega
    simp only
    rw [if_neg (show ¬ nI s < iI 0 from nI_pos (show s < 2 ^ 31 by omega))]
    exact ⟨M2, rfl, D2, fun h => by cases h⟩
  | none =>
    simp only
    rw [if_pos (show (-1 : Int32) < iI 0 by decide)]
    obtain ⟨M3, e3, o3, z3⟩ := ev_fill 47 M2
    rw [show (iI 0 : Int32) = 0 from rfl, e3]
    simp only [hm_st]
    obtain ⟨M4, hM4⟩ : ∃ z, z = hm_up (hm_up M3 37 6 0) 37 7 0 := ⟨_, rfl⟩
    rw [← hM4]
    have e4 : ∀ i, i ≠ 37 → M4 i = M3 i := fun i hi => by rw [hM4, hm_up_ne hi, hm_up_ne hi]
    have hc : (nI o).toNatClampNeg = o := nI_clamp (by omega)
    have hR4 : sc_R M4 P := sc_R_keep hR2 (fun i hi => by
      rw [e4 i (by rcases hi with rfl | rfl | ⟨_, _⟩ <;> omega), o3 i (by rcases hi with rfl | rfl | ⟨_, _⟩ <;> omega)])
    have N4 : sc_NR M4 38 (pl_nd P o) 0 ((w : Int) - 1) := sc_NR_eq N2 (by rw [e4 _ (by omega), o3 _ (by omega)]) (by rw [e4 _ (by omega), o3 _ (by omega)]) (by rw [e4 _ (by omega), o3 _ (by omega)])
    have D4 : sc_oD M M4 := fun i hi => by rw [e4 i (by omega), o3 i (by omega)]; exact D2 i hi
    -- measureOutput
    have eO : f_Plan_measureOutput M4 = some (hm_up M4 47 o (nI w)) := by
      unfold f_Plan_measureOutput
      rw [(sc_out15 hR4 hou).1, (sc_out15 hR4 hou).2, hm_gd_t (nI_ix ho8 (by decide)), hc]
      rfl
    rw [eO]
    simp only
    obtain ⟨M5, hM5⟩ : ∃ z, z = hm_up M4 47 o (nI w) := ⟨_, rfl⟩
    rw [← hM5]
    have e5 : ∀ i, i ≠ 47 → M5 i = M4 i := fun i hi => by rw [hM5, hm_up_ne hi]
    have hR5 : sc_R M5 P := sc_R_o47 hR4 e5
    have N5 : sc_NR M5 38 (pl_nd P o) 0 ((w : Int) - 1) := sc_NR_eq N4 (e5 _ (by omega)) (e5 _ (by omega)) (e5 _ (by omega))
    have D5 : sc_oD M M5 := fun i hi => (e5 i (by omega)).trans (D4 i hi)
    have w5 : ∀ q, q < 8 → M5 47 q = nI (pl_w0 o w q) := fun q hq => by
      unfold pl_w0
      rw [hM5]
      by_cases h : q = o
      · subst h; rw [hm_rd_eq, if_pos rfl]
      · rw [hm_rd_ne (fun z => h z.2), if_neg h, e4 _ (by omega), z3 q hq]; rfl
    have r5 : M5 37 6 = nI 0 := by rw [e5 _ (by omega), hM4, hm_rd_ne (by omega), hm_rd_eq]; rfl
    have g5 : M5 37 7 = nI 0 := by rw [e5 _ (by omega), hM4, hm_rd_eq]; rfl
    -- measureRoots
    obtain ⟨M6, e6, out6, v6, r6⟩ := ev_mroots2 hw hou 1000 o 0 M5 (pl_w0 o w) 0 (by omega) (by omega) hR5 N5 w5 r5
    have e6' : f_Plan_measureRoots M5 = some M6 := e6
    rw [e6']
    simp only
    have hR6 := sc_R_oR hR5 out6
    have N6 := sc_NR_oR (Or.inl rfl) N5 out6
    have D6 : sc_oD M M6 := fun i hi => (out6.1 i (by omega) (by omega)).trans (D5 i hi)
    -- measureTiles
    obtain ⟨M7, e7, out7, v7, g7, r7⟩ := ev_mtiles hw hou hR6 N6 v6 (by rw [out6.2 7 (by omega)]; exact g5) r6
    rw [e7]
    simp only
    have hR7 := sc_R_oW hR6 out7
    have N7 := sc_NR_oW N6 out7
    have D7 : sc_oD M M7 := fun i hi => (out7.1 i (by omega) (by omega) (by omega)).trans (D6 i hi)
    -- measureInlines
    unfold f_Plan_measureInlines
    simp only [hm_st]
    have o8 : sc_oI M7 (hm_up M7 37 5 0) := ⟨fun i h1 _ => hm_up_ne h1, fun k hk => hm_rd_ne (by omega)⟩
    have hR8 := sc_R_oI hR7 o8
    have eo8 : hm_up M7 37 5 0 1 5 = iI (((o + 1 : Nat) : Int) - 1) := by
      rw [(sc_out15 hR8 hou).1, iI_nat]
      congr 1
      omega
    rw [eo8]
    obtain ⟨M9, e9, out9, v9, t9⟩ := ev_inl13 hw 1000 (o + 1) (hm_up M7 37 5 0) (pl_wb P o w) 0 (by omega) (by omega) hR8 (fun q hq => by rw [hm_rd_ne (by omega)]; exact v7 q hq) hm_rd_eq
    rw [e9]
    simp only
    have htt := pl_tt_lt hw hou
    have t9' : M9 37 5 = nI (pl_tt P o w) := t9
    have cmp : nI (pl_tt P o w) ≤ 4000 ↔ pl_tt P o w ≤ 4000 := nI_lei (b := 4000) (by omega) (by omega)
    have oI := sc_oI_trans o8 out9
    refine ⟨M9, ?_, fun i hi => (oI.1 i (by omega) (by omega)).trans (D7 i hi), fun _ => ⟨?_, v9, t9', ?_, ?_⟩⟩
    · rw [t9']
      by_cases h : pl_tt P o w ≤ 4000
      · rw [if_pos (cmp.mpr h), if_pos h]; rfl
      · rw [if_neg (fun z => h (cmp.mp z)), if_neg h]; rfl
    · exact sc_NR_eq N7 (oI.1 _ (by omega) (by omega)) (oI.1 _ (by omega) (by omega)) (oI.1 _ (by omega) (by omega))
    · rw [oI.2 6 (by omega), r7, Nat.zero_add]; rfl
    · rw [oI.2 7 (by omega), g7]; rfl
