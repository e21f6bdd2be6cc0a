/-! compile -/
def mo_cn (P : pl_X) (o w : Nat) (x : Option Nat) : Int32 := match x with
  | some s => -200 - nI s
  | none => if pl_tt P o w ≤ 4000 then nI (pl_tt P o w) else -300
def mo_cf (P : pl_X) (o w : Nat) (x : Option Nat) : Bool := x.isNone && decide (pl_tt P o w ≤ 4000)
def mo_oC (M M' : mo_M) : Prop := (∀ i, i ≠ 0 → i ≠ 11 → i ≠ 12 → i ≠ 13 → M'.1 i = M.1 i) ∧ ∀ k, k ≠ 13 → M'.1 0 k = M.1 0 k
theorem ev_mcomp33 {P : pl_X} (hw : pl_wf P) {o w : Nat} (hou : pl_ou P = some (o, w)) :
    ∀ (n s : Nat) (M : mo_M), s ≤ o → o - s < n → mo_R M.1 P → mo_NR M.1 (pl_nd P o) 0 ((w : Int) - 1) → M.1 0 13 = 0 →
      ∃ M', f_Mo_compile_33 n (nI s) M = some (mo_cn P o w (pl_fs (fun s => pl_ua P (pl_nd P o) s 1 && pl_ak P s) (o - s) s), M') ∧ mo_oC M M' ∧ M'.1 0 13 = b01 (mo_cf P o w (pl_fs (fun s => pl_ua P (pl_nd P o) s 1 && pl_ak P s) (o - s) s)) := by
  obtain ⟨ho, hw1, hw2⟩ := hw.2.2.2.1 o w hou
  have ho8 : o < 8 := by have := hw.2.1; omega
  intro n
  induction n with
  | zero => intro s M h1 h2; omega
  | succ n ih =>
    intro s M hs hn hR hN h13
    unfold f_Mo_compile_33
    rw [(mo_out11 hR hou).1]
    by_cases c : o ≤ s
    · have hso : s = o := by omega
      subst hso
      rw [if_pos ((nI_lei (by omega) (by omega)).mpr (Nat.le_refl s)), Nat.sub_self]
      obtain ⟨M1, e1, out1, v1⟩ := ev_mtotal hw hou hR
      have htt := pl_tt_lt hw hou
      have hcmp : lg_cmp (lN (pl_tt P s w)) 4000 ≤ 0 ↔ pl_tt P s w ≤ 4000 := by
        rw [show (4000 : Int64) = lN 4000 from rfl, lg_cmp_le]
        exact lN_le (by omega) (by omega)
      rw [e1]
      dsimp only [hm_bI]
      unfold pl_fs mo_cn mo_cf
      by_cases h4 : pl_tt P s w ≤ 4000
      · rw [if_pos (hcmp.mpr h4), if_pos h4, lN_i]
        refine ⟨_, rfl, ⟨fun i h0 h1 h2 h3 => ?_, fun k hk => ?_⟩, ?_⟩
        · dsimp only
          rw [hm_up_ne h0]; exact out1 i h1 h2 h3
        · dsimp only
          rw [hm_rd_ne (by omega)]; exact congrFun (out1 0 (by omega) (by omega) (by omega)) k
        · dsimp only
          rw [hm_rd_eq, decide_eq_true h4]; rfl
      · rw [if_neg (fun z => h4 (hcmp.mp z)), if_neg h4]
        refine ⟨_, rfl, ⟨fun i h0 h1 h2 h3 => out1 i h1 h2 h3, fun k hk => congrFun (out1 0 (by omega) (by omega) (by omega)) k⟩, ?_⟩
        rw [out1 0 (by omega) (by omega) (by omega), h13, decide_eq_false h4]; rfl
    · have hd : o - s = (o - (s + 1)) + 1 := by omega
      rw [if_neg (fun z => c ((nI_lei (by omega) (by omega)).mp z)), hd]
      rw [show (1 : Int32) = nI 1 from rfl, ev_mkeptlt hw hou hR hN (by omega) (by omega)]
      dsimp only [hm_bI]
      unfold pl_fs
      have hgo : f_Mo_compile_64 (fun x1 M => f_Mo_compile_33 n x1 M) (nI s) M = f_Mo_compile_33 n (nI (s + 1)) M := by
        unfold f_Mo_compile_64
        rw [nI_s]
      cases hua : pl_ua P (pl_nd P o) s 1 with
      | false =>
        rw [if_pos (show b01 false = 0 from rfl), hgo]
        simp only [Bool.false_and, Bool.false_eq_true, if_false]
        exact ih (s + 1) M (by omega) (by omega) hR hN h13
      | true =>
        rw [if_neg (show ¬ b01 true = 0 by decide), ev_leans hw (by omega) hR]
        dsimp only
        cases hak : pl_ak P s with
        | false =>
          rw [if_pos (show b01 false = 0 from rfl), hgo]
          simp only [Bool.and_false, Bool.false_eq_true, if_false]
          exact ih (s + 1) M (by omega) (by omega) hR hN h13
        | true =>
          rw [if_neg (show ¬ b01 true = 0 by decide)]
          simp only [Bool.and_true, if_true]
          exact ⟨M, rfl, ⟨fun _ _ _ _ _ => rfl, fun _ _ => rfl⟩, h13⟩
theorem sc_PL_keep {M M' : hm_M} {P : pl_X} {o w : Nat} (h : sc_PL M P o w) (e : ∀ i, 37 ≤ i → i ≤ 47 → M' i = M i) : sc_PL M' P o w := by
  obtain ⟨h1, h2, h3, h4, h5⟩ := h
  refine ⟨sc_NR_eq h1 (e 39 (by omega) (by omega)) (e 40 (by omega) (by omega)) (e 41 (by omega) (by omega)), fun q hq => ?_, ?_, ?_, ?_⟩
  · rw [e 47 (by omega) (by omega)]; exact h2 q hq
  · rw [e 37 (by omega) (by omega)]; exact h3
  · rw [e 37 (by omega) (by omega)]; exact h4
  · rw [e 37 (by omega) (by omega)]; exact h5
theorem pl_ou_inj {P : pl_X} {o w : Nat} (h : pl_ou P = some (o, w)) {o' w' : Nat} (h' : pl_ou P = some (o', w')) : o' = o ∧ w' = w := by
  have := h.symm.trans h'
  cases this
  exact ⟨rfl, rfl⟩
theorem op_compile {rl : Nat} {M : hm_M} {m : mo_M} (h : sm_I rl M m) : sm_op rl (f_SC_compile M) (f_Mo_compile m) := by
  obtain ⟨P, cp, rn, hrl, ⟨hw, hR, hK, h03, h04, hcp, hrn⟩, ⟨hm, g13, g14, grn⟩⟩ := id h
  unfold f_SC_compile f_Mo_compile
  cases cp with
  | true =>
    rw [if_neg (by rw [h03]; decide), if_neg (by rw [g13]; decide)]
    exact sm_same h _
  | false =>
    have hrn0 : rn = false := by
      cases rn with
      | false => rfl
      | true => exact absurd (hrn rfl).1 (by decide)
    subst hrn0
    rw [if_pos (by rw [h03]; rfl), if_pos (by rw [g13]; rfl)]
    cases hou : pl_ou P with
    | none =>
      have a3 := hR.2.2.1
      have b3 := hm.2.2.2.1
      rw [hou] at a3 b3
      dsimp only at a3 b3
      rw [if_neg (by rw [b3]; decide)]
      unfold f_Plan_draw
      rw [if_pos a3]
      dsimp only [hm_bI]
      rw [if_neg (by decide)]
      exact sm_same h _
    | some ow =>
      obtain ⟨o, w⟩ := ow
      obtain ⟨ho, hw1, hw2⟩ := hw.2.2.2.1 o w hou
      have ho8 : o < 8 := by have := hw.2.1; omega
      have b3 := mo_out11 hm hou
      rw [if_pos (by rw [b3.1, show (0 : Int32) = nI 0 from rfl]; exact (nI_lei (by omega) (by omega)).mpr (by omega))]
      have ew : nI w - 1 = iI ((w : Int) - 1) := by rw [iI_nat, lit_1, iI_sub]
      obtain ⟨M1, e1, out1, pl1⟩ := ev_draw hw hou hR
      obtain ⟨m1, f1, mo1, N1⟩ := ev_mneed hw hou (f := 0) (t := (w : Int) - 1) (by omega) (by omega) hm
      have hm1 := mo_R_out hm mo1
      obtain ⟨m2, f2, mo2, q13⟩ := ev_mcomp33 hw hou 1000 0 m1 (by omega) (by omega) hm1 N1 (by rw [mo1.2 0 (by omega) (by omega) (by omega), g13]; rfl)
      have hm2 : mo_R m2.1 P := by
        obtain ⟨a0, a1, a2, a3, a4, a5⟩ := hm1
        have e : ∀ i, i ≠ 0 → i ≤ 8 → m2.1 i = m1.1 i := fun i h0 h8 => mo2.1 i h0 (by omega) (by omega) (by omega)
        refine ⟨by rw [mo2.2 0 (by omega)]; exact a0, by rw [mo2.2 9 (by omega)]; exact a1, by rw [mo2.2 10 (by omega)]; exact a2, by rw [mo2.2 11 (by omega), mo2.2 12 (by omega)]; exact a3, by rw [e 1 (by omega) (by omega)]; exact a4, ?_⟩
        rw [e 2 (by omega) (by omega), e 3 (by omega) (by omega), e 4 (by omega) (by omega), e 5 (by omega) (by omega), e 6 (by omega) (by omega), e 7 (by omega) (by omega), e 8 (by omega) (by omega)]
        exact a5
      have hR1 : sc_R M1 P := sc_R_keep hR (fun i hi => out1 i (by rcases hi with rfl | rfl | ⟨_, _⟩ <;> omega))
      have K1 : ∀ q, q < 8 → M1 53 q = 0 := fun q hq => by rw [out1 53 (by omega)]; exact hK q hq
      have z03 : M1 0 3 = 0 := by rw [out1 0 (by omega), h03]; rfl
      have z04 : M1 0 4 = 0 := by rw [out1 0 (by omega), h04]; rfl
      have y14 : m2.1 0 14 = 0 := by rw [mo2.2 14 (by omega), mo1.2 0 (by omega) (by omega) (by omega), g14]; rfl
      rw [e1, b3.2, ew, lit_0, f1]
      dsimp only [hm_bI, hm_bV]
      rw [show iI 0 = nI 0 from rfl, f2]
      rw [Nat.sub_zero] at q13 ⊢
      have elr : pl_fs (fun s => pl_ua P (pl_nd P o) s 1 && pl_ak P s) o 0 = pl_lr P o := rfl
      rw [elr] at q13 ⊢
      have keep0 : mo_cf P o w (pl_lr P o) = false → sm_I rl M1 m2 := fun hf => ⟨P, false, false, hrl, ⟨hw, hR1, K1, z03, z04, (fun h => by cases h), (fun h => by cases h)⟩, hm2, by rw [q13, hf], y14, (fun h => by cases h)⟩
      cases hlr : pl_lr P o with
      | some s =>
        have hs8 : s < 1000 := by
          have : ∀ (n k : Nat) (p : Nat → Bool) (r : Nat), pl_fs p n k = some r → r < k + n := by
            intro n
            induction n with
            | zero => intro k p r hh; simp [pl_fs] at hh
            | succ n ih =>
              intro k p r hh
              unfold pl_fs at hh
              by_cases c : p k = true
              · rw [if_pos c] at hh
                cases hh
                omega
              · rw [if_neg c] at hh
                have := ih (k + 1) p r hh
                omega
          have := this o 0 _ s hlr
          omega
        rw [hlr] at keep0
        dsimp only
        have en : ¬ (-200 - nI s : Int32) = 0 := by
          intro z
          have h2 : (-200 - nI s : Int32) = iI (-200 - (s : Int)) := by
            rw [iI_nat, show (-200 : Int32) = iI (-200) from by decide, iI_sub]
          rw [h2, lit_0] at z
          have := (iI_eq (by omega) (by omega) (by omega) (by omega)).mp z
          omega
        rw [if_neg (show ¬ (-200 - nI s : Int32) = nI 0 from en)]
        exact ⟨_, _, _, rfl, rfl, keep0 rfl⟩
      | none =>
        rw [hlr] at keep0 q13
        dsimp only [mo_cn]
        by_cases h4 : pl_tt P o w ≤ 4000
        · rw [if_pos h4, if_pos h4, if_pos rfl]
          have hp := pl1 hlr
          have e37 : hm_up M1 0 3 1 37 5 = nI (pl_tt P o w) := by rw [hm_up_ne (by omega)]; exact hp.2.2.1
          simp only [hm_st, e37]
          have e : ∀ i, i ≠ 0 → hm_up M1 0 3 1 i = M1 i := fun i hi => hm_up_ne hi
          refine ⟨_, _, _, rfl, rfl, P, true, false, hrl, ⟨hw, sc_R_keep hR1 (fun i hi => e i (by rcases hi with rfl | rfl | ⟨_, _⟩ <;> omega)), (fun q hq => by rw [e 53 (by omega)]; exact K1 q hq), hm_rd_eq, (by rw [hm_rd_ne (by omega)]; exact z04), (fun _ => ⟨o, w, hou, sc_PL_keep hp (fun i h1 h2 => e i (by omega))⟩), (fun h => by cases h)⟩, hm2, ?_, y14, (fun h => by cases h)⟩
          rw [q13]
          show b01 (true && decide (pl_tt P o w ≤ 4000)) = _
          rw [decide_eq_true h4]; rfl
        · rw [if_neg h4, if_neg h4, if_neg (by decide)]
          refine ⟨_, _, _, rfl, rfl, keep0 ?_⟩
          show (true && decide (pl_tt P o w ≤ 4000)) = false
          rw [decide_eq_false h4]; rfl
