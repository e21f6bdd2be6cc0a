/-! THE CLASS'S MEMORY HOLDS A PIPELINE; its needs -/
def sc_R (M : hm_M) (P : pl_X) : Prop := M 1 3 = nI (pl_ns P) ∧ M 1 4 = nI (pl_T P) ∧ (match pl_ou P with
  | none => M 1 5 = -1
  | some r => M 1 5 = nI r.1 ∧ M 1 6 = nI r.2) ∧ (∀ i, i < pl_rl P → M 4 i = pl_rw P i) ∧
  ∀ s, s < 8 → M (5 + 4 * s) 0 = pl_cs P s ∧ M (5 + 4 * s) 1 = nI (pl_fn P s) ∧ M (5 + 4 * s) 2 = nI (pl_md P s) ∧ M (5 + 4 * s) 3 = nI (pl_tp P s).length ∧
    ∀ k t, (pl_tp P s)[k]? = some t → M (5 + 4 * s + 1) k = pl_src t.1 ∧ M (5 + 4 * s + 2) k = iI t.2.1 ∧ M (5 + 4 * s + 3) k = t.2.2
/-- the cells that hold it -/
def sc_pc (i : Nat) : Prop := i = 1 ∨ i = 4 ∨ (5 ≤ i ∧ i < 37)
theorem sc_R_keep {M M' : hm_M} {P : pl_X} (h : sc_R M P) (e : ∀ i, sc_pc i → M' i = M i) : sc_R M' P := by
  obtain ⟨h1, h2, h3, h4, h5⟩ := h
  have e1 : M' 1 = M 1 := e 1 (Or.inl rfl)
  have e4 : M' 4 = M 4 := e 4 (Or.inr (Or.inl rfl))
  refine ⟨by rw [e1]; exact h1, by rw [e1]; exact h2, ?_, fun i hi => by rw [e4]; exact h4 i hi, fun s hs => ?_⟩
  · cases ho : pl_ou P with
    | none => rw [ho] at h3; rw [e1]; exact h3
    | some r => rw [ho] at h3; rw [e1]; exact h3
  · have a0 : M' (5 + 4 * s) = M (5 + 4 * s) := e _ (Or.inr (Or.inr ⟨by omega, by omega⟩))
    have a1 : M' (5 + 4 * s + 1) = M (5 + 4 * s + 1) := e _ (Or.inr (Or.inr ⟨by omega, by omega⟩))
    have a2 : M' (5 + 4 * s + 2) = M (5 + 4 * s + 2) := e _ (Or.inr (Or.inr ⟨by omega, by omega⟩))
    have a3 : M' (5 + 4 * s + 3) = M (5 + 4 * s + 3) := e _ (Or.inr (Or.inr ⟨by omega, by omega⟩))
    rw [a0, a1, a2, a3]
    exact h5 s hs
def sc_out (a : Nat) (M M' : hm_M) : Prop := ∀ i, i ≠ a + 1 → i ≠ a + 2 → i ≠ a + 3 → M' i = M i
theorem sc_out_refl (a : Nat) (M : hm_M) : sc_out a M M := fun _ _ _ _ => rfl
theorem sc_out_trans {a : Nat} {M M' M'' : hm_M} (h : sc_out a M M') (h' : sc_out a M' M'') : sc_out a M M'' := fun i h1 h2 h3 => (h' i h1 h2 h3).trans (h i h1 h2 h3)
theorem sc_R_out {a : Nat} {M M' : hm_M} {P : pl_X} (ha : 37 ≤ a) (h : sc_R M P) (e : sc_out a M M') : sc_R M' P :=
  sc_R_keep h (fun i hi => e i (by rcases hi with rfl | rfl | ⟨_, _⟩ <;> omega) (by rcases hi with rfl | rfl | ⟨_, _⟩ <;> omega) (by rcases hi with rfl | rfl | ⟨_, _⟩ <;> omega))
/-- the cells a + 1, a + 2, a + 3 hold the needs st, of an output's range f .. t -/
def sc_NR (M : hm_M) (a : Nat) (st : pl_N) (f t : Int) : Prop := ∀ q, q < 8 → match st q with
  | none => M (a + 1) q = 0
  | some r => M (a + 1) q = 1 ∧ M (a + 2) q = iI (f + r.1) ∧ M (a + 3) q = iI (t + r.2)
def pl_sm (f t : Int) (st : pl_N) : Prop := ∀ q r, st q = some r → -1000 ≤ f + r.1 ∧ f + r.1 ≤ 1000 ∧ -1000 ≤ t + r.2 ∧ t + r.2 ≤ 1000
theorem pl_sm_of {o : Nat} {f t : Int} {st : pl_N} (h : pl_bd o st) (ho : o < 8) (hf : 0 ≤ f) (hf2 : f ≤ 100) (ht : 0 ≤ t) (ht2 : t ≤ 100) : pl_sm f t st := by
  intro q r e
  obtain ⟨h1, h2, h3, h4⟩ := h q r.1 r.2 e
  omega
theorem ev_widen {M : hm_M} {a q : Nat} {st : pl_N} {f t x y : Int} (hq : q < 8) (h : sc_NR M a st f t) (hs : pl_sm f t st) (hx : -1000 ≤ f + x ∧ f + x ≤ 1000) (hy : -1000 ≤ t + y ∧ t + y ≤ 1000) :
    ∃ M', f_Needs_widen M a (nI q) (iI (f + x)) (iI (t + y)) = some M' ∧ sc_out a M M' ∧ sc_NR M' a (pl_wid st q x y) f t := by
  have hg : hm_ix (nI q) 8 = true := nI_ix hq (by decide)
  have hc : (nI q).toNatClampNeg = q := nI_clamp (by omega)
  have main : ∀ (F L : Int32), (match st q with
      | none => F = iI (f + x) ∧ L = iI (t + y)
      | some r => F = iI (f + min x r.1) ∧ L = iI (t + max r.2 y)) →
      sc_out a M (hm_up (hm_up (hm_up M (a + 2) q F) (a + 3) q L) (a + 1) q 1) ∧ sc_NR (hm_up (hm_up (hm_up M (a + 2) q F) (a + 3) q L) (a + 1) q 1) a (pl_wid st q x y) f t := by
    intro F L hFL
    refine ⟨fun i h1 h2 h3 => ?_, fun j hj => ?_⟩
    · rw [hm_up_ne h1, hm_up_ne h3, hm_up_ne h2]
    · have hj0 := h j hj
      unfold pl_wid
      by_cases hjq : j = q
      · subst hjq
        rw [if_pos rfl]
        cases hst : st j with
        | none =>
          rw [hst] at hFL
          simp [hm_rd, hFL.1, hFL.2]
        | some r =>
          rw [hst] at hFL
          simp [hm_rd, hFL.1, hFL.2]
      · rw [if_neg hjq]
        cases hst : st j with
        | none =>
          rw [hst] at hj0
          simp [hm_rd, hjq, hj0]
        | some r =>
          rw [hst] at hj0
          simp [hm_rd, hjq, hj0]
  have h0 := h q hq
  have r1 : ∀ F : Int32, hm_up M (a + 2) q F (a + 1) q = M (a + 1) q := fun F => hm_rd_ne (by omega)
  have r3 : ∀ F : Int32, hm_up M (a + 2) q F (a + 3) q = M (a + 3) q := fun F => hm_rd_ne (by omega)
  simp only [f_Needs_widen, f_Needs_widen_28, f_Needs_widen_57, hg, hm_gd, hm_st, hc, r1, r3]
  cases hst : st q with
  | none =>
    rw [hst] at h0
    rw [if_pos h0, if_pos h0]
    refine ⟨_, rfl, main _ _ ?_⟩
    rw [hst]
    exact ⟨rfl, rfl⟩
  | some r =>
    rw [hst] at h0
    obtain ⟨u1, u2, u3⟩ := h0
    obtain ⟨b1, b2, b3, b4⟩ := hs q r hst
    have hne : ¬ M (a + 1) q = 0 := by rw [u1]; decide
    rw [if_neg hne, if_neg hne, u2, u3]
    refine ⟨_, rfl, main _ _ ?_⟩
    rw [hst]
    refine ⟨?_, ?_⟩
    · rw [iI_min (by omega) (by omega) (by omega) (by omega)]
      congr 1
      omega
    · rw [iI_max (by omega) (by omega) (by omega) (by omega)]
      congr 1
      omega
theorem pl_wid_sm {f t : Int} {st : pl_N} {q : Nat} {x y : Int} (hs : pl_sm f t st) (hx : -1000 ≤ f + x ∧ f + x ≤ 1000) (hy : -1000 ≤ t + y ∧ t + y ≤ 1000) : pl_sm f t (pl_wid st q x y) := by
  intro j r e
  unfold pl_wid at e
  by_cases hj : j = q
  · subst hj
    rw [if_pos rfl] at e
    cases hst : st j with
    | none =>
      rw [hst] at e
      injection e with e
      subst e
      exact ⟨hx.1, hx.2, hy.1, hy.2⟩
    | some r0 =>
      rw [hst] at e
      injection e with e
      subst e
      obtain ⟨b1, b2, b3, b4⟩ := hs j r0 hst
      show -1000 ≤ f + min x r0.1 ∧ f + min x r0.1 ≤ 1000 ∧ -1000 ≤ t + max r0.2 y ∧ t + max r0.2 y ≤ 1000
      omega
  · rw [if_neg hj] at e
    exact hs j r e
theorem nI_s (k : Nat) : nI k + 1 = nI (k + 1) := nI_1 k
theorem nI_lei {a b : Nat} (ha : a < 2147483648) (hb : b < 2147483648) : nI a ≤ nI b ↔ a ≤ b := nI_leI (by omega) (by omega)
theorem nI_lti {a b : Nat} (ha : a < 2147483648) (hb : b < 2147483648) : nI a < nI b ↔ a < b := nI_ltI (by omega) (by omega)
theorem nI_eqi {a b : Nat} (ha : a < 2147483648) (hb : b < 2147483648) : nI a = nI b ↔ a = b := nI_eq (by omega) (by omega)
theorem nI_ne_m1 {q : Nat} (h : q < 1000) : ¬ nI q = -1 := by
  intro e
  have := congrArg Int32.toInt e
  rw [nI_toInt (by omega)] at this
  have h2 : (-1 : Int32).toInt = -1 := by decide
  omega
theorem pl_drop {α : Type} {l : List α} {k : Nat} (h : k < l.length) : l.drop k = l[k] :: l.drop (k + 1) := List.drop_eq_getElem_cons h
theorem ev_handOn3 {P : pl_X} (hw : pl_wf P) {a s : Nat} (ha : 37 ≤ a) (hs8 : s < 8) {f t x y : Int} (hx : -900 ≤ f + x ∧ f + x ≤ 900) (hy : -900 ≤ t + y ∧ t + y ≤ 900) :
    ∀ (n k : Nat) (M : hm_M) (st : pl_N), k ≤ (pl_tp P s).length → (pl_tp P s).length - k < n → sc_R M P → sc_NR M a st f t → pl_sm f t st →
      ∃ M', f_Needs_handOn_3 n a (5 + 4 * s) (iI (f + x)) (iI (t + y)) (nI k) M = some M' ∧ sc_out a M M' ∧ sc_NR M' a (pl_hand x y ((pl_tp P s).drop k) st) f t := by
  obtain ⟨-, -, -, -, hst, -⟩ := hw
  obtain ⟨-, -, hlen, htap⟩ := hst s
  intro n
  induction n with
  | zero => intro k M st _ h; omega
  | succ n ih =>
    intro k M st hk hn hR hN hsm
    obtain ⟨-, -, -, e3, eT⟩ := hR.2.2.2.2 s hs8
    rw [f_Needs_handOn_3, e3]
    by_cases hkl : k = (pl_tp P s).length
    · subst hkl
      rw [if_pos ((nI_lei (by omega) (by omega)).mpr (Nat.le_refl _)), List.drop_length]
      exact ⟨M, rfl, sc_out_refl a M, hN⟩
    · have hk2 : k < (pl_tp P s).length := by omega
      rw [if_neg (fun q => hkl (by have := (nI_lei (by omega) (by omega)).mp q; omega))]
      have hg : hm_ix (nI k) 4 = true := nI_ix (by omega) (by decide)
      have hc : (nI k).toNatClampNeg = k := nI_clamp (by omega)
      obtain ⟨t1, t2, t3⟩ := eT k (pl_tp P s)[k] (List.getElem?_eq_getElem hk2)
      obtain ⟨o1, o2, o3⟩ := htap (pl_tp P s)[k] (List.getElem_mem hk2)
      rw [pl_drop hk2]
      simp only [hg, hm_gd, hc, t1, t2, f_Needs_handOn_52, nI_s, iI_add]
      unfold pl_hand
      cases hq : (pl_tp P s)[k].1 with
      | none =>
        rw [if_pos (show pl_src none = -1 from rfl)]
        exact ih (k + 1) M st (by omega) (by omega) hR hN hsm
      | some q =>
        have hqs := o1 q hq
        rw [if_neg (show ¬ pl_src (some q) = -1 from nI_ne_m1 (show q < 1000 by omega)), show pl_src (some q) = nI q from rfl]
        rw [Int.add_assoc f, Int.add_assoc t]
        obtain ⟨M1, e1, out1, N1⟩ := ev_widen (x := x + (pl_tp P s)[k].2.1) (y := y + (pl_tp P s)[k].2.1) (show q < 8 by omega) hN hsm (by omega) (by omega)
        rw [e1]
        obtain ⟨M2, e2, out2, N2⟩ := ih (k + 1) M1 _ (by omega) (by omega) (sc_R_out ha hR out1) N1 (pl_wid_sm hsm (by omega) (by omega))
        exact ⟨M2, e2, sc_out_trans out1 out2, N2⟩
theorem ev_handOn {P : pl_X} (hw : pl_wf P) {a s : Nat} (ha : 37 ≤ a) (hs8 : s < 8) {f t x y : Int} (hx : -900 ≤ f + x ∧ f + x ≤ 900) (hy : -900 ≤ t + y ∧ t + y ≤ 900) {M : hm_M} {st : pl_N} (hR : sc_R M P) (hN : sc_NR M a st f t) (hsm : pl_sm f t st) :
    ∃ M', f_Needs_handOn M a (5 + 4 * s) (iI (f + x)) (iI (t + y)) = some M' ∧ sc_out a M M' ∧ sc_NR M' a (pl_hand x y (pl_tp P s) st) f t := by
  have h4 := (hw.2.2.2.2.1 s).2.2.1
  exact ev_handOn3 hw ha hs8 hx hy 1000 0 M st (by omega) (by omega) hR hN hsm
theorem nI_pm (k : Nat) : nI (k + 1) + -1 = nI k := pk_m1 k
theorem nI_0m : nI 0 + -1 = iI (-1) := by decide
theorem ev_spread40 {P : pl_X} (hw : pl_wf P) {a o : Nat} (ha : 37 ≤ a) (ho8 : o < 8) {f t : Int} (hf : 0 ≤ f ∧ f ≤ 100) (ht : 0 ≤ t ∧ t ≤ 100) :
    ∀ (n s : Nat) (M : hm_M) (st : pl_N), s ≤ o + 1 → s < n → sc_R M P → sc_NR M a st f t → pl_bd o st →
      ∃ M', f_Needs_spread_40 n a (iI ((s : Int) - 1)) M = some M' ∧ sc_out a M M' ∧ sc_NR M' a (pl_down P s st) f t := by
  intro n
  induction n with
  | zero => intro s M st _ h; omega
  | succ n ih =>
    intro s M st hso hsn hR hN hbd
    have hsm : pl_sm f t st := pl_sm_of hbd ho8 hf.1 hf.2 ht.1 ht.2
    rw [f_Needs_spread_40]
    cases s with
    | zero =>
      rw [if_pos (show iI (((0 : Nat) : Int) - 1) < 0 by decide)]
      exact ⟨M, rfl, sc_out_refl a M, hN⟩
    | succ s =>
      have es : iI (((s + 1 : Nat) : Int) - 1) = nI s := by
        rw [iI_nat]; congr 1; omega
      rw [es, if_neg (nI_pos (show s < 2 ^ 31 by omega))]
      have hg : hm_ix (nI s) 8 = true := nI_ix (by omega) (by decide)
      have hc : (nI s).toNatClampNeg = s := nI_clamp (by omega)
      have en : nI s + -1 = iI ((s : Int) - 1) := by
        rw [iI_nat, lit_m1, iI_add]; congr 1
      simp only [hg, hm_gd, hc, f_Needs_spread_80, en]
      have h0 := hN s (by omega)
      show ∃ M', _ ∧ _ ∧ sc_NR M' a (pl_down P s (pl_step P s st)) f t
      cases hst : st s with
      | none =>
        rw [hst] at h0
        rw [if_pos h0]
        have e1 : pl_step P s st = st := by unfold pl_step; rw [hst]
        rw [e1]
        exact ih s M st (by omega) (by omega) hR hN hbd
      | some r =>
        rw [hst] at h0
        obtain ⟨u1, u2, u3⟩ := h0
        obtain ⟨b1, b2, b3, b4⟩ := hbd s r.1 r.2 hst
        rw [if_neg (show ¬ M (a + 1) s = 0 by rw [u1]; decide), u2, u3]
        have e1 : pl_step P s st = pl_hand r.1 r.2 (pl_tp P s) st := by unfold pl_step; rw [hst]
        obtain ⟨M1, e2, out1, N1⟩ := ev_handOn hw ha (show s < 8 by omega) (x := r.1) (y := r.2) (by omega) (by omega) hR hN hsm
        rw [e2, e1]
        obtain ⟨M2, e3, out2, N2⟩ := ih s M1 _ (by omega) (by omega) (sc_R_out ha hR out1) N1 (by rw [← e1]; exact pl_step_bd hw hbd)
        exact ⟨M2, e3, sc_out_trans out1 out2, N2⟩
theorem ev_spread3 {P : pl_X} (hw : pl_wf P) {a o w : Nat} (ha : 37 ≤ a) (hou : pl_ou P = some (o, w)) {f t : Int} (hf : 0 ≤ f ∧ f ≤ 100) (ht : 0 ≤ t ∧ t ≤ 100) :
    ∀ (n k : Nat) (M : hm_M), k ≤ 8 → 8 - k < n → sc_R M P → (∀ j, j < k → M (a + 1) j = 0) →
      ∃ M', f_Needs_spread_3 n a (iI f) (iI t) (nI k) M = some M' ∧ sc_out a M M' ∧ sc_NR M' a (pl_nd P o) f t := by
  obtain ⟨ho, hw1, hw2⟩ := hw.2.2.2.1 o w hou
  have ho8 : o < 8 := by have := hw.2.1; omega
  intro n
  induction n with
  | zero => intro k M _ h; omega
  | succ n ih =>
    intro k M hk hn hR hz
    rw [f_Needs_spread_3]
    by_cases hk8 : k = 8
    · subst hk8
      rw [if_pos (show (8 : Int32) ≤ nI 8 by decide)]
      have h15 : M 1 5 = nI o := by
        have := hR.2.2.1
        rw [hou] at this
        exact this.1
      have hN0 : sc_NR M a (fun _ => none) f t := fun q hq => hz q hq
      have hsm0 : pl_sm f t (fun _ => none) := fun q r e => by cases e
      rw [h15]
      obtain ⟨M1, e1, out1, N1⟩ := ev_widen (x := 0) (y := 0) ho8 hN0 hsm0 (by omega) (by omega)
      rw [Int.add_zero, Int.add_zero] at e1
      rw [e1]
      have hR1 := sc_R_out ha hR out1
      have h15' : M1 1 5 = nI o := by
        have := hR1.2.2.1
        rw [hou] at this
        exact this.1
      have e0 : pl_wid (fun _ => none) o 0 0 = pl_n0 o := by
        funext j
        unfold pl_wid pl_n0
        rfl
      rw [e0] at N1
      obtain ⟨M2, e2, out2, N2⟩ := ev_spread40 hw ha ho8 hf ht 1000 (o + 1) M1 (pl_n0 o) (by omega) (by omega) hR1 N1 (pl_n0_bd o)
      refine ⟨M2, ?_, sc_out_trans out1 out2, N2⟩
      simp only [hm_bV, h15']
      rw [← e2]
      congr 1
      rw [iI_nat]; congr 1; omega
    · have hk2 : k < 8 := by omega
      rw [if_neg (show ¬ (8 : Int32) ≤ nI k from fun q => by have := (nI_lei (a := 8) (b := k) (by omega) (by omega)).mp q; omega)]
      have hg : hm_ix (nI k) 8 = true := nI_ix hk2 (by decide)
      have hc : (nI k).toNatClampNeg = k := nI_clamp (by omega)
      simp only [hg, hm_gd, hc, hm_st, nI_s]
      have out0 : sc_out a M (hm_up M (a + 1) k 0) := fun i h1 _ _ => hm_up_ne h1
      obtain ⟨M2, e2, out2, N2⟩ := ih (k + 1) (hm_up M (a + 1) k 0) (by omega) (by omega) (sc_R_out ha hR out0) (fun j hj => by
        by_cases hjk : j = k
        · subst hjk
          exact hm_rd_eq
        · rw [hm_rd_ne (fun q => hjk q.2)]
          exact hz j (by omega))
      exact ⟨M2, e2, sc_out_trans out0 out2, N2⟩
/-- Needs.spread: the needs of all stages for the output's range f .. t -/
theorem ev_spread {P : pl_X} (hw : pl_wf P) {a o w : Nat} (ha : 37 ≤ a) (hou : pl_ou P = some (o, w)) {f t : Int} (hf : 0 ≤ f ∧ f ≤ 100) (ht : 0 ≤ t ∧ t ≤ 100) {M : hm_M} (hR : sc_R M P) :
    ∃ M', f_Needs_spread M a (iI f) (iI t) = some M' ∧ sc_out a M M' ∧ sc_NR M' a (pl_nd P o) f t :=
  ev_spread3 hw ha hou hf ht 1000 0 M (by omega) (by omega) hR (fun j hj => by omega)
