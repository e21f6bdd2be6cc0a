def pl_KR (P : pl_X) (o w : Nat) : pl_N := pl_kp P o 1 0 ((w : Int) - 1) (fun _ => none) o
theorem pl_KR_md {P : pl_X} {o w q : Nat} (h : ¬ pl_md P q = 1) : pl_KR P o w q = none := by
  unfold pl_KR pl_kp
  rw [if_neg (fun z => h (by
    have := z.2
    unfold pl_ua at this
    rw [Bool.and_eq_true] at this
    exact of_decide_eq_true this.2))]
theorem pl_KR_some {P : pl_X} {o w q : Nat} {r : Int × Int} (h : pl_KR P o w q = some r) : ∃ a b, pl_nd P o q = some (a, b) ∧ r = (0 + a, (w : Int) - 1 + b) := by
  unfold pl_KR pl_kp at h
  by_cases c : q < o ∧ pl_ua P (pl_nd P o) q 1 = true
  · rw [if_pos c] at h
    cases hn : pl_nd P o q with
    | none => rw [hn] at h; cases h
    | some z =>
      rw [hn] at h
      cases h
      exact ⟨z.1, z.2, rfl, rfl⟩
  · rw [if_neg c] at h
    cases h
theorem pl_KR_in {P : pl_X} {o w : Nat} {f t : Int} (hf : 0 ≤ f) (ht : t ≤ (w : Int) - 1) : ∀ q r, pl_KR P o w q = some r → ∀ a b, pl_nd P o q = some (a, b) → r.1 ≤ f + a ∧ t + b ≤ r.2 := by
  intro q r h a b hab
  obtain ⟨a', b', e, rfl⟩ := pl_KR_some h
  rw [hab] at e
  cases e
  show 0 + a ≤ f + a ∧ t + b ≤ (w : Int) - 1 + b
  omega
theorem pl_K2_in {P : pl_X} {o w : Nat} {f t : Int} (hf : 0 ≤ f) (ht : t ≤ (w : Int) - 1) : ∀ q r, pl_kp P o 2 f t (pl_KR P o w) o q = some r → ∀ a b, pl_nd P o q = some (a, b) → r.1 ≤ f + a ∧ t + b ≤ r.2 := by
  intro q r h a b hab
  unfold pl_kp at h
  by_cases c : q < o ∧ pl_ua P (pl_nd P o) q 2 = true
  · rw [if_pos c, hab] at h
    cases h
    exact ⟨Int.le_refl _, Int.le_refl _⟩
  · rw [if_neg c] at h
    exact pl_KR_in hf ht q r h a b hab
theorem pl_rel2 {P : pl_X} {o w : Nat} {f t : Int} : pl_rel P o 2 (pl_kp P o 2 f t (pl_KR P o w) o) o = pl_KR P o w := by
  funext q
  unfold pl_rel
  by_cases c : q < o ∧ pl_md P q = 2
  · rw [if_pos c, pl_KR_md (by omega)]
  · rw [if_neg c]
    unfold pl_kp
    rw [if_neg (fun z => c ⟨z.1, by
      have := z.2
      unfold pl_ua at this
      rw [Bool.and_eq_true] at this
      exact of_decide_eq_true this.2⟩)]
theorem pl_rel1 {P : pl_X} {o w : Nat} : pl_rel P o 1 (pl_KR P o w) o = fun _ => none := by
  funext q
  unfold pl_rel
  by_cases c : q < o ∧ pl_md P q = 1
  · rw [if_pos c]
  · rw [if_neg c]
    unfold pl_KR pl_kp
    rw [if_neg (fun z => c ⟨z.1, by
      have := z.2
      unfold pl_ua at this
      rw [Bool.and_eq_true] at this
      exact of_decide_eq_true this.2⟩)]
theorem sc_KR_keep {M M' : hm_M} {P : pl_X} {K : pl_N} (h : sc_KR M P K) (e : ∀ i, i = 53 ∨ (55 ≤ i ∧ i < 63) → M' i = M i) : sc_KR M' P K := by
  intro q hq
  have h0 := h q hq
  cases hk : K q with
  | none =>
    rw [hk] at h0
    show M' 53 q = 0
    rw [e 53 (Or.inl rfl)]; exact h0
  | some r =>
    rw [hk] at h0
    obtain ⟨k1, k2, k3, k4⟩ := h0
    refine ⟨by rw [e 53 (Or.inl rfl)]; exact k1, k2, k3, fun y a b => ?_⟩
    rw [e (55 + q) (by omega)]
    exact k4 y a b
theorem ev_tile24 {P : pl_X} (hw : pl_wf P) {o w : Nat} (hou : pl_ou P = some (o, w)) {f t : Int} (hf : 0 ≤ f) (ht : t ≤ (w : Int) - 1) :
    ∀ (n : Nat) (x : Int) (M : hm_M), f ≤ x → x ≤ t + 1 → (t + 1 - x).toNat < n → sc_R M P → sc_KR M P (pl_kp P o 2 f t (pl_KR P o w) o) →
      ∃ M', f_Runner_runTile_24 (pl_rl P) n (iI t) (iI x) M = some M' ∧ (∀ i, i ≠ 53 → i ≠ 63 → M' i = M i) ∧ sc_KR M' P (pl_KR P o w) ∧ (∀ y : Nat, (x ≤ y ∧ (y : Int) ≤ t) → M' 63 y = pl_val P o y) ∧ ∀ y : Nat, ¬ (x ≤ y ∧ (y : Int) ≤ t) → M' 63 y = M 63 y := by
  obtain ⟨ho, hw1, hw2⟩ := hw.2.2.2.1 o w hou
  have ho8 : o < 8 := by have := hw.2.1; omega
  intro n
  induction n with
  | zero => intro x M _ _ h; omega
  | succ n ih =>
    intro x M hx1 hx2 hn hR hKR
    rw [f_Runner_runTile_24]
    have kk : iI t < iI x ↔ t < x := iI_lt (by omega) (by omega) (by omega) (by omega)
    by_cases hxx : t < x
    · rw [if_pos (kk.mpr hxx)]
      obtain ⟨M1, e1, out1, K1⟩ := ev_rel hw (show 2 ≤ 2 by omega) hou hR hKR
      rw [show (2 : Int32) = nI 2 from rfl, e1]
      rw [pl_rel2] at K1
      refine ⟨M1, rfl, fun i h1 _ => out1 i h1, K1, fun y hy => by omega, fun y _ => by rw [out1 63 (by omega)]⟩
    · rw [if_neg (fun z => hxx (kk.mp z)), (sc_out15 hR hou).1]
      have hd := pl_dm_of hw ho8 (K := pl_kp P o 2 f t (pl_KR P o w) o) hf (show t ≤ 31 by omega) (pl_K2_in hf ht) 9 o x 0 0 (by omega) (pl_nd_o hw o) (by omega) (by omega)
      rw [ev_workOut hw hR hKR 9 o x ho8 hd]
      have ex : iI x + 1 = iI (x + 1) := by rw [lit_1, iI_add]
      simp only [hm_bI, ex, iI_ix (z := x) (n := 32) (by omega) (by omega) (by omega), hm_gd, iI_clamp (z := x) (by omega) (by omega), hm_st]
      have out0 : ∀ i, i ≠ 63 → hm_up M 63 x.toNat (pl_val P o x) i = M i := fun i hi => hm_up_ne hi
      obtain ⟨M2, e2, out2, K2, v2, w2⟩ := ih (x + 1) (hm_up M 63 x.toNat (pl_val P o x)) (by omega) (by omega) (by omega) (sc_R_keep hR (fun i hi => out0 i (by rcases hi with rfl | rfl | ⟨_, _⟩ <;> omega))) (sc_KR_keep hKR (fun i hi => out0 i (by omega)))
      refine ⟨M2, e2, fun i h1 h2 => (out2 i h1 h2).trans (out0 i h2), K2, fun y hy => ?_, fun y hy => ?_⟩
      · by_cases h : (y : Int) = x
        · rw [w2 y (by omega)]
          have : y = x.toNat := by omega
          rw [this, hm_rd_eq]
          congr 1
          omega
        · exact v2 y (by omega)
      · rw [w2 y (by omega), hm_rd_ne (by omega)]
theorem ev_runTile {P : pl_X} (hw : pl_wf P) {o w t : Nat} (hou : pl_ou P = some (o, w)) (ht : t < pl_nt P w) {M : hm_M} (hR : sc_R M P) (hKR : sc_KR M P (pl_KR P o w)) :
    ∃ M', f_Runner_runTile (pl_rl P) M (iI (pl_tf P t)) (iI (pl_tl P w t)) = some M' ∧ sc_oN M M' ∧ sc_KR M' P (pl_KR P o w) ∧ (∀ y : Nat, (pl_tf P t ≤ y ∧ (y : Int) ≤ pl_tl P w t) → M' 63 y = pl_val P o y) ∧ ∀ y : Nat, ¬ (pl_tf P t ≤ y ∧ (y : Int) ≤ pl_tl P w t) → M' 63 y = M 63 y := by
  obtain ⟨p1, p2, p3, p4, p5⟩ := pl_tile hw hou ht
  unfold f_Runner_runTile
  obtain ⟨M1, e1, out1, N1⟩ := ev_spread hw (a := 49) (by omega) hou (f := pl_tf P t) (t := pl_tl P w t) (by omega) (by omega) hR
  rw [e1]
  simp only [hm_bV]
  have hR1 := sc_R_out (by omega) hR out1
  obtain ⟨M2, e2, out2, K2⟩ := ev_keep hw (a := 49) (m := 2) (by omega) (by omega) hou (f := pl_tf P t) (t := pl_tl P w t) (by omega) (by omega) (by omega) (K := pl_KR P o w) (fun q hq => pl_KR_md (by omega)) (pl_KR_in (by omega) (by omega)) hR1 N1 (sc_KR_keep hKR (fun i hi => out1 i (by omega) (by omega) (by omega)))
  rw [show (2 : Int32) = nI 2 from rfl, e2]
  simp only
  obtain ⟨M3, e3, out3, K3, v3, w3⟩ := ev_tile24 hw hou (f := pl_tf P t) (t := pl_tl P w t) (by omega) (by omega) 1000 (pl_tf P t) M2 (by omega) (by omega) (by omega) (sc_R_oK hR1 out2) K2
  refine ⟨M3, e3, fun i hi => ?_, K3, v3, fun y hy => ?_⟩
  · rw [out3 i (by omega) (by omega), out2 i (by omega) (by omega), out1 i (by omega) (by omega) (by omega)]
  · rw [w3 y hy, out2 63 (by omega) (by omega), out1 63 (by omega) (by omega) (by omega)]
theorem ev_sched8 {P : pl_X} (hw : pl_wf P) {o w : Nat} (hou : pl_ou P = some (o, w)) :
    ∀ (n d t : Nat) (M : hm_M), t + d = pl_nt P w → d < n → sc_R M P → sc_KR M P (pl_KR P o w) → (∀ y : Nat, y < t * pl_T P → y < w → M 63 y = pl_val P o y) →
      ∃ M', f_Runner_runSchedule_8 (pl_rl P) n (nI t) M = some M' ∧ sc_oN M M' ∧ sc_KR M' P (fun _ => none) ∧ ∀ y : Nat, y < w → M' 63 y = pl_val P o y := by
  have hnt := pl_nt_le hw hou
  intro n
  induction n with
  | zero => intro d t M _ h; omega
  | succ n ih =>
    intro d t M htd hn hR hKR hv
    rw [f_Runner_runSchedule_8, ev_tileCount hw hou hR]
    simp only [hm_bI]
    cases d with
    | zero =>
      rw [if_pos ((nI_lei (by omega) (by omega)).mpr (by omega))]
      obtain ⟨M1, e1, out1, K1⟩ := ev_rel hw (show 1 ≤ 2 by omega) hou hR hKR
      rw [show (1 : Int32) = nI 1 from rfl, e1]
      rw [pl_rel1] at K1
      refine ⟨M1, rfl, fun i hi => out1 i (by omega), K1, fun y hy => ?_⟩
      rw [out1 63 (by omega)]
      refine hv y ?_ hy
      obtain ⟨h1, h2⟩ := hw.2.2.1
      have ht : t = (w + pl_T P - 1) / pl_T P := by unfold pl_nt at htd; omega
      have hm := Nat.div_add_mod (w + pl_T P - 1) (pl_T P)
      have hlt := Nat.mod_lt (w + pl_T P - 1) (show 0 < pl_T P by omega)
      rw [ht, Nat.mul_comm]
      omega
    | succ d =>
      rw [if_neg (fun z => by have := (nI_lei (by omega) (by omega)).mp z; omega), ev_tileFirst hR]
      simp only
      rw [ev_tileLast hw hou hR (by omega)]
      simp only
      obtain ⟨p1, p2, p3, p4, p5⟩ := pl_tile hw hou (show t < pl_nt P w by omega)
      obtain ⟨M1, e1, out1, K1, v1, w1⟩ := ev_runTile hw hou (show t < pl_nt P w by omega) hR hKR
      rw [e1]
      simp only [hm_bV, nI_s]
      obtain ⟨M2, e2, out2, K2, v2⟩ := ih d (t + 1) M1 (by omega) (by omega) (sc_R_oN hR out1) K1 (fun y hy hyw => by
        rw [Nat.succ_mul] at hy
        by_cases h : y < t * pl_T P
        · rw [w1 y (by unfold pl_tf; omega)]
          exact hv y h hyw
        · exact v1 y (by unfold pl_tf pl_tl; omega))
      exact ⟨M2, e2, sc_oN_trans out1 out2, K2, v2⟩
theorem ev_sched {P : pl_X} (hw : pl_wf P) {o w : Nat} (hou : pl_ou P = some (o, w)) {M : hm_M} (hR : sc_R M P) (hN : sc_NR M 38 (pl_nd P o) 0 ((w : Int) - 1)) (hKR : sc_KR M P (fun _ => none)) :
    ∃ M', f_Runner_runSchedule (pl_rl P) M 38 = some M' ∧ sc_oN M M' ∧ sc_KR M' P (fun _ => none) ∧ ∀ y : Nat, y < w → M' 63 y = pl_val P o y := by
  obtain ⟨ho, hw1, hw2⟩ := hw.2.2.2.1 o w hou
  unfold f_Runner_runSchedule
  obtain ⟨M1, e1, out1, K1⟩ := ev_keep hw (a := 38) (m := 1) (by omega) (by omega) hou (f := 0) (t := (w : Int) - 1) (by omega) (by omega) (by omega) (K := fun _ => none) (fun q hq => rfl) (fun q r h => by cases h) hR hN hKR
  rw [show (1 : Int32) = nI 1 from rfl, e1, show (0 : Int32) = nI 0 from rfl]
  simp only [hm_bV]
  obtain ⟨M2, e2, out2, K2, v2⟩ := ev_sched8 hw hou 1000 (pl_nt P w) 0 M1 (by omega) (by have := pl_nt_le hw hou; omega) (sc_R_oK hR out1) K1 (fun y hy => by omega)
  exact ⟨M2, e2, sc_oN_trans (sc_oN_oK out1) out2, K2, v2⟩
theorem ev_mrun12 {P : pl_X} (hw : pl_wf P) {o w : Nat} (hou : pl_ou P = some (o, w)) :
    ∀ (n k : Nat) (M : mo_M), k ≤ w → w - k < n → mo_R M.1 P → (∀ y : Nat, y < k → M.1 9 y = pl_val P o y) →
      ∃ M', f_Mo_run_12 n (nI k) M = some (nI (pl_nt P w), M') ∧ (∀ i, i ≠ 0 → i ≠ 9 → i ≠ 10 → M'.1 i = M.1 i) ∧ (∀ k, k ≠ 14 → M'.1 0 k = M.1 0 k) ∧ M'.1 0 14 = 1 ∧ ∀ y : Nat, y < w → M'.1 9 y = pl_val P o y := by
  obtain ⟨ho, hw1, hw2⟩ := hw.2.2.2.1 o w hou
  have ho8 : o < 8 := by have := hw.2.1; omega
  intro n
  induction n with
  | zero => intro k M _ h; omega
  | succ n ih =>
    intro k M hk hn hR hv
    rw [f_Mo_run_12, (mo_out11 hR hou).2]
    by_cases hkw : k = w
    · subst hkw
      rw [if_pos ((nI_lei (by omega) (by omega)).mpr (Nat.le_refl _))]
      simp only [mo_st]
      have hR1 : mo_R (hm_up M.1 0 14 1) P := by
        obtain ⟨r0, r1, r2, r3, r4, r5⟩ := hR
        refine ⟨by rw [hm_rd_ne (by omega)]; exact r0, by rw [hm_rd_ne (by omega)]; exact r1, by rw [hm_rd_ne (by omega)]; exact r2, ?_, fun i hi => by rw [hm_rd_ne (by omega)]; exact r4 i hi, fun s hs => ?_⟩
        · rw [hm_rd_ne (by omega), hm_rd_ne (by omega)]; exact r3
        · rw [hm_rd_ne (by omega), hm_rd_ne (by omega), hm_rd_ne (by omega), hm_rd_ne (by omega)]
          refine ⟨(r5 s hs).1, (r5 s hs).2.1, (r5 s hs).2.2.1, (r5 s hs).2.2.2.1, fun k t hk => ?_⟩
          rw [hm_rd_ne (by omega), hm_rd_ne (by omega), hm_rd_ne (by omega)]
          exact (r5 s hs).2.2.2.2 k t hk
      rw [ev_mtiles0 hw hou (M := (hm_up M.1 0 14 1, M.2)) hR1]
      refine ⟨(hm_up M.1 0 14 1, M.2), rfl, fun i h0 _ _ => hm_up_ne h0, fun j hj => by dsimp only; exact hm_rd_ne (by omega), by dsimp only; exact hm_rd_eq, fun y hy => ?_⟩
      dsimp only
      rw [hm_rd_ne (by omega)]
      exact hv y hy
    · rw [if_neg (fun z => hkw (by have := (nI_lei (by omega) (by omega)).mp z; omega)), (mo_out11 hR hou).1]
      obtain ⟨M1, e1, o1⟩ := ev_valueAt hw ho8 (x := (k : Int)) (by omega) hR
      rw [← iI_nat] at e1
      rw [e1]
      simp only [hm_bI, nI_ix (show k < 32 by omega) (by decide), hm_gd, nI_clamp (show k < 2 ^ 31 by omega), mo_st, nI_s]
      have hR1 := mo_R_o10 hR o1
      obtain ⟨M2, e2, out2, z2, f2, v2⟩ := ih (k + 1) (hm_up M1.1 9 k (pl_val P o (k : Int)), M1.2) (by omega) (by omega) (mo_R_keep hR1 (fun i hi => hm_up_ne (by omega))) (fun y hy => by
        dsimp only
        by_cases h : y = k
        · subst h
          exact hm_rd_eq
        · rw [hm_rd_ne (fun z => h z.2), o1.2 9 (by omega)]
          exact hv y (by omega))
      refine ⟨M2, e2, fun i h0 h9 h10 => ?_, fun j hj => ?_, f2, v2⟩
      · rw [out2 i h0 h9 h10]
        dsimp only
        rw [hm_up_ne h9, o1.2 i h10]
      · rw [z2 j hj]
        dsimp only
        rw [hm_rd_ne (by omega), o1.2 0 (by omega)]
