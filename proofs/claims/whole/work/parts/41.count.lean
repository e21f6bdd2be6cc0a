/-! count -/
theorem pl_sg_0 {f : Nat → Nat} : ∀ (n s : Nat), (∀ q, s ≤ q → f q = 0) → pl_sg f s n = 0
  | 0, _, _ => rfl
  | n + 1, s, h => by
    unfold pl_sg
    rw [h s (Nat.le_refl s), pl_sg_0 n (s + 1) (fun q hq => h q (by omega))]
theorem pl_sg_app {f : Nat → Nat} : ∀ (a s b : Nat), pl_sg f s (a + b) = pl_sg f s a + pl_sg f (s + a) b
  | 0, s, b => by
    rw [Nat.zero_add, Nat.add_zero]
    unfold pl_sg
    cases b with
    | zero => rfl
    | succ b => simp
  | a + 1, s, b => by
    rw [show a + 1 + b = (a + b) + 1 by omega]
    show f s + pl_sg f (s + 1) (a + b) = (f s + pl_sg f (s + 1) a) + _
    rw [pl_sg_app a (s + 1) b, show s + 1 + a = s + (a + 1) by omega]
    omega
def pl_us (P : pl_X) (o : Nat) (q : Nat) : Nat := if (pl_nd P o q).isSome then 1 else 0
theorem ev_used4 {P : pl_X} {o : Nat} {f t : Int} {M : hm_M} (hN : sc_NR M 38 (pl_nd P o) f t) :
    ∀ (n s c : Nat), s ≤ 8 → 8 - s < n → f_Plan_usedCount_4 n (nI c) (nI s) M = some (nI (c + pl_sg (pl_us P o) s (8 - s)), M) := by
  intro n
  induction n with
  | zero => intro s c h1 h2; omega
  | succ n ih =>
    intro s c hs hn
    unfold f_Plan_usedCount_4
    rw [show (8 : Int32) = nI 8 from rfl]
    by_cases c8 : 8 ≤ s
    · have : s = 8 := by omega
      subst this
      rw [if_pos ((nI_lei (by omega) (by omega)).mpr (Nat.le_refl 8)), Nat.sub_self]
      rfl
    · rw [if_neg (fun z => c8 ((nI_lei (by omega) (by omega)).mp z)), hm_gd_t (nI_ix (show s < 8 by omega) (by decide)), nI_clamp (show s < 2 ^ 31 by omega), show 8 - s = (8 - (s + 1)) + 1 by omega]
      unfold f_Plan_usedCount_28 pl_sg
      have A := hN s (by omega)
      cases hst : pl_nd P o s with
      | none =>
        rw [hst] at A
        rw [if_pos (show M 39 s = 0 from A), show (0 : Int32) = nI 0 from rfl, nI_add, nI_s]
        dsimp only
        rw [ih (s + 1) (c + 0) (by omega) (by omega)]
        rw [show pl_us P o s = 0 by unfold pl_us; rw [hst]; rfl, Nat.add_zero, Nat.zero_add]
      | some r =>
        rw [hst] at A
        rw [if_neg (show ¬ M 39 s = 0 from fun z => absurd (A.1.symm.trans z) (by decide)), nI_s, nI_s]
        dsimp only
        rw [ih (s + 1) (c + 1) (by omega) (by omega)]
        rw [show pl_us P o s = 1 by unfold pl_us; rw [hst]; rfl, Nat.add_assoc]
theorem ev_mcnt3 {P : pl_X} (hw : pl_wf P) {o w : Nat} (hou : pl_ou P = some (o, w)) {f t : Int} {M : mo_M} (hR : mo_R M.1 P) (hN : mo_NR M.1 (pl_nd P o) f t) :
    ∀ (n s c : Nat), s ≤ o + 1 → o + 1 - s < n → f_Mo_count_97 n 3 (nI c) (nI s) M = some (nI (c + pl_sg (pl_us P o) s (o + 1 - s)), M) := by
  have ho8 : o < 8 := by have := hw.2.1; have := (hw.2.2.2.1 o w hou).1; omega
  intro n
  induction n with
  | zero => intro s c h1 h2; omega
  | succ n ih =>
    intro s c hs hn
    unfold f_Mo_count_97
    rw [(mo_out11 hR hou).1]
    by_cases cs : o < s
    · have : s = o + 1 := by omega
      subst this
      rw [if_pos ((nI_lti (by omega) (by omega)).mpr (by omega)), if_pos rfl, Nat.sub_self]
      rfl
    · rw [if_neg (fun z => cs ((nI_lti (by omega) (by omega)).mp z)), if_pos rfl, hm_gd_t (nI_ix (show s < 8 by omega) (by decide)), nI_clamp (show s < 2 ^ 31 by omega), show o + 1 - s = (o + 1 - (s + 1)) + 1 by omega]
      unfold f_Mo_count_131 f_Mo_count_156 f_Mo_count_158 pl_sg
      have A := hN s (by omega)
      cases hst : pl_nd P o s with
      | none =>
        rw [hst] at A
        rw [if_pos (show M.1 11 s = 0 from A), nI_s]
        dsimp only
        rw [ih (s + 1) c (by omega) (by omega)]
        rw [show pl_us P o s = 0 by unfold pl_us; rw [hst]; rfl, Nat.zero_add]
      | some r =>
        rw [hst] at A
        rw [if_neg (show ¬ M.1 11 s = 0 from fun z => absurd (A.1.symm.trans z) (by decide)), if_pos rfl, nI_s, nI_s]
        dsimp only
        rw [ih (s + 1) (c + 1) (by omega) (by omega)]
        rw [show pl_us P o s = 1 by unfold pl_us; rw [hst]; rfl, Nat.add_assoc]
theorem ev_mcnt2 {P : pl_X} (hw : pl_wf P) {o w : Nat} (hou : pl_ou P = some (o, w)) {M : mo_M} (hR : mo_R M.1 P) (hN : mo_NR M.1 (pl_nd P o) 0 ((w : Int) - 1)) :
    ∀ (n s c : Nat), s ≤ o + 1 → o + 1 - s < n → ∃ M', f_Mo_count_97 n 2 (nI c) (nI s) M = some (nI (c + pl_sg (pl_L P o w) s (o - s) + pl_gs P o w (pl_nt P w) 0 0), M') ∧ mo_out M M' := by
  obtain ⟨ho, hw1, hw2⟩ := hw.2.2.2.1 o w hou
  have ho8 : o < 8 := by have := hw.2.1; omega
  intro n
  induction n with
  | zero => intro s c h1 h2; omega
  | succ n ih =>
    intro s c hs hn
    unfold f_Mo_count_97
    rw [(mo_out11 hR hou).1]
    by_cases cs : o < s
    · have : s = o + 1 := by omega
      subst this
      rw [if_pos ((nI_lti (by omega) (by omega)).mpr (by omega)), if_neg (by decide)]
      obtain ⟨M1, e1, out1⟩ := ev_great hw hou true hR
      rw [show (1 : Int32) = b01 true from rfl, e1]
      dsimp only [hm_bI]
      unfold f_Mo_count_180
      rw [nI_add, show o - (o + 1) = 0 by omega]
      exact ⟨M1, rfl, out1⟩
    · rw [if_neg (fun z => cs ((nI_lti (by omega) (by omega)).mp z)), if_neg (by decide), show (1 : Int32) = nI 1 from rfl, ev_mkept hw hou hR hN (by omega) (by omega)]
      dsimp only [hm_bI]
      have gs : hm_ix (nI s) 8 = true := nI_ix (by omega) (by decide)
      have ks : (nI s).toNatClampNeg = s := nI_clamp (by omega)
      by_cases hso : s = o
      · subst hso
        rw [if_pos (by rw [decide_eq_false (fun z => z rfl), Bool.and_false]; rfl)]
        unfold f_Mo_count_158
        rw [nI_s]
        have := ih (s + 1) c (by omega) (by omega)
        rw [show s - (s + 1) = 0 by omega] at this
        rw [Nat.sub_self]
        exact this
      · rw [show o - s = (o - (s + 1)) + 1 by omega, decide_eq_true hso, Bool.and_true]
        unfold pl_sg
        have eL : pl_L P o w s = if pl_ua P (pl_nd P o) s 1 then pl_ln (pl_nd P o) 0 ((w : Int) - 1) s else 0 := rfl
        cases hua : pl_ua P (pl_nd P o) s 1 with
        | false =>
          rw [if_pos (show b01 false = 0 from rfl)]
          unfold f_Mo_count_158
          rw [nI_s, eL, hua, if_neg (by decide), Nat.zero_add]
          exact ih (s + 1) c (by omega) (by omega)
        | true =>
          rw [if_neg (show ¬ b01 true = 0 by decide)]
          obtain ⟨r, hr⟩ := pl_ua_some hua
          unfold f_Mo_count_131 f_Mo_count_156 f_Mo_count_158
          rw [if_neg (by decide), hm_gd_t gs, hm_gd_t gs, ks, ev_mlen hN (pl_nd_bd hw o) (by omega) (by omega) hr, nI_add, nI_s, eL, hua, if_pos rfl, ← Nat.add_assoc]
          exact ih (s + 1) (c + pl_ln (pl_nd P o) 0 ((w : Int) - 1) s) (by omega) (by omega)
theorem op_count {rl : Nat} {M : hm_M} {m : mo_M} (h : sm_I rl M m) (x1 : Int32) : sm_op rl (f_SC_count M x1) (f_Mo_count m x1) := by
  obtain ⟨P, cp, rn, hrl, hS, hO⟩ := id h
  obtain ⟨hw, hR, hK, h03, h04, hcp, hrn⟩ := id hS
  obtain ⟨hm, g13, g14, grn⟩ := id hO
  unfold f_SC_count f_Mo_count f_SC_count_64 f_SC_count_83 f_SC_count_102 f_SC_count_121 f_SC_count_140 f_SC_count_159 f_Mo_count_20 f_Mo_count_39
  by_cases c0 : x1 = 0
  · rw [if_pos c0, if_pos c0, hR.1, hm.2.1]; exact sm_same h _
  rw [if_neg c0, if_neg c0]
  by_cases cr : x1 < 1
  · rw [if_pos cr, if_neg (fun z => by rw [z] at cr; exact absurd cr (by decide)), if_neg (fun z => by rw [z] at cr; exact absurd cr (by decide)), if_neg (fun z => by rw [z] at cr; exact absurd cr (by decide)), if_neg (fun z => by rw [z] at cr; exact absurd cr (by decide)), if_neg (fun z => by rw [z] at cr; exact absurd cr (by decide)), if_neg (fun z => by rw [z] at cr; exact absurd cr (by decide))]
    exact sm_same h _
  rw [if_neg cr]
  by_cases ct : x1 ≤ 6
  · rw [if_pos ct]
    have d1 : ¬ x1.toInt < 1 := fun z => cr (Int32.lt_iff_toInt_lt.mpr z)
    have d2 : x1.toInt ≤ 6 := Int32.le_iff_toInt_le.mp ct
    have hx : x1 = 1 ∨ x1 = 2 ∨ x1 = 3 ∨ x1 = 4 ∨ x1 = 5 ∨ x1 = 6 := by
      have e := iI_of x1
      rcases (show x1.toInt = 1 ∨ x1.toInt = 2 ∨ x1.toInt = 3 ∨ x1.toInt = 4 ∨ x1.toInt = 5 ∨ x1.toInt = 6 by omega) with q | q | q | q | q | q
      · exact Or.inl (e.trans (by rw [q]; rfl))
      · exact Or.inr (Or.inl (e.trans (by rw [q]; rfl)))
      · exact Or.inr (Or.inr (Or.inl (e.trans (by rw [q]; rfl))))
      · exact Or.inr (Or.inr (Or.inr (Or.inl (e.trans (by rw [q]; rfl)))))
      · exact Or.inr (Or.inr (Or.inr (Or.inr (Or.inl (e.trans (by rw [q]; rfl))))))
      · exact Or.inr (Or.inr (Or.inr (Or.inr (Or.inr (e.trans (by rw [q]; rfl))))))
    cases cp with
    | false =>
      have z1 : M 0 3 = 0 := by rw [h03]; rfl
      have z2 : m.1 0 13 = 0 := by rw [g13]; rfl
      simp only [z1, z2, if_true]
      rcases hx with rfl | rfl | rfl | rfl | rfl | rfl <;> exact sm_same h _
    | true =>
      have z1 : ¬ M 0 3 = 0 := by rw [h03]; decide
      have z2 : ¬ m.1 0 13 = 0 := by rw [g13]; decide
      obtain ⟨o, w, hou, hp⟩ := hcp rfl
      obtain ⟨ho, hw1, hw2⟩ := hw.2.2.2.1 o w hou
      have ho8 : o < 8 := by have := hw.2.1; omega
      have ew : nI w - 1 = iI ((w : Int) - 1) := by rw [iI_nat, lit_1, iI_sub]
      obtain ⟨m1, f1, mo1, N1⟩ := ev_mneed hw hou (f := 0) (t := (w : Int) - 1) (by omega) (by omega) hm
      have hm1 := mo_R_out hm mo1
      rw [show iI 0 = 0 from rfl] at f1
      rw [(mo_out11 hm hou).2, ew, f1]
      simp only [z1, z2, if_false]
      have sI : ∀ m2 : mo_M, (∀ i, i < 10 → m2.1 i = m.1 i) → sm_I rl M m2 := fun m2 e => ⟨P, true, rn, hrl, hS, mo_I_keep hO e⟩
      rcases hx with rfl | rfl | rfl | rfl | rfl | rfl
      · exact sm_same h _
      · rw [if_neg (by decide), if_pos rfl, if_neg (by decide), if_neg (by decide), if_neg (by decide), if_neg (by decide)]
        dsimp only [hm_bV]
        obtain ⟨m2, f2, mo2⟩ := ev_mcnt2 hw hou hm1 N1 1000 0 0 (by omega) (by omega)
        rw [show nI 0 = 0 from rfl] at f2
        rw [f2, hp.2.2.2.1, Nat.zero_add, Nat.sub_zero]
        exact ⟨_, _, _, rfl, rfl, sI m2 (fun i hi => (mo2.2 i (by omega) (by omega) (by omega)).trans (mo1.2 i (by omega) (by omega) (by omega)))⟩
      · rw [if_neg (by decide), if_neg (by decide), if_pos rfl, if_neg (by decide), if_neg (by decide), if_neg (by decide), if_neg (by decide)]
        dsimp only [hm_bV]
        have f2 := ev_mcnt3 hw hou hm1 N1 1000 0 0 (by omega) (by omega)
        have e2 := ev_used4 hp.1 1000 0 0 (by omega) (by omega)
        rw [show nI 0 = 0 from rfl] at f2 e2
        unfold f_Plan_usedCount
        rw [f2, e2]
        dsimp only [hm_bI]
        have eq : pl_sg (pl_us P o) 0 (8 - 0) = pl_sg (pl_us P o) 0 (o + 1 - 0) := by
          rw [Nat.sub_zero, Nat.sub_zero, show 8 = (o + 1) + (7 - o) by omega, pl_sg_app, pl_sg_0 (7 - o) (0 + (o + 1)) (fun q hq => ?_), Nat.add_zero]
          unfold pl_us
          cases hst : pl_nd P o q with
          | none => rfl
          | some r =>
            have := (pl_nd_bd hw o q r.1 r.2 hst).1
            omega
        rw [eq]
        exact ⟨_, _, _, rfl, rfl, sI m1 (fun i hi => mo1.2 i (by omega) (by omega) (by omega))⟩
      · rw [if_neg (by decide), if_neg (by decide), if_neg (by decide), if_pos rfl, if_neg (by decide), if_pos rfl, ev_tileCount hw hou hR, ev_mtiles0 hw hou hm]
        exact sm_same h _
      · rw [if_neg (by decide), if_neg (by decide), if_neg (by decide), if_neg (by decide), if_pos rfl, if_neg (by decide), if_neg (by decide), if_pos rfl]
        obtain ⟨m2, f2, mo2⟩ := ev_great hw hou false hm
        rw [show b01 false = 0 from rfl] at f2
        rw [f2, hp.2.2.2.2]
        dsimp only [hm_bI]
        exact ⟨_, _, _, rfl, rfl, sI m2 (fun i hi => mo2.2 i (by omega) (by omega) (by omega))⟩
      · rw [if_neg (by decide), if_neg (by decide), if_neg (by decide), if_neg (by decide), if_neg (by decide), if_pos rfl, if_neg (by decide), if_neg (by decide), if_neg (by decide), if_pos rfl]
        obtain ⟨m2, f2, mo2, -⟩ := ev_mtotal hw hou hm
        rw [f2, hp.2.2.1]
        dsimp only [hm_bI]
        rw [lN_i]
        exact ⟨_, _, _, rfl, rfl, sI m2 (fun i hi => mo2 i (by omega) (by omega) (by omega))⟩
  · rw [if_neg ct, if_neg (fun z => ct (by rw [z]; decide)), if_neg (fun z => ct (by rw [z]; decide)), if_neg (fun z => ct (by rw [z]; decide)), if_neg (fun z => ct (by rw [z]; decide)), if_neg (fun z => ct (by rw [z]; decide)), if_neg (fun z => ct (by rw [z]; decide))]
    exact sm_same h _
