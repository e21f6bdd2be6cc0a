/-! THE REFERENCE'S MEMORY HOLDS A PIPELINE; its needs -/
def mo_R (m : hm_M) (P : pl_X) : Prop := m 0 0 = nI (pl_rl P) ∧ m 0 9 = nI (pl_ns P) ∧ m 0 10 = nI (pl_T P) ∧ (match pl_ou P with
  | none => m 0 11 = -1
  | some r => m 0 11 = nI r.1 ∧ m 0 12 = nI r.2) ∧ (∀ i, i < pl_rl P → m 1 i = pl_rw P i) ∧
  ∀ s, s < 8 → m 2 s = pl_cs P s ∧ m 3 s = nI (pl_fn P s) ∧ m 4 s = nI (pl_md P s) ∧ m 8 s = nI (pl_tp P s).length ∧
    ∀ k t, (pl_tp P s)[k]? = some t → m 5 (4 * s + k) = pl_src t.1 ∧ m 6 (4 * s + k) = iI t.2.1 ∧ m 7 (4 * s + k) = t.2.2
def mo_pc (i : Nat) : Prop := i ≤ 8
theorem mo_R_keep {m m' : hm_M} {P : pl_X} (h : mo_R m P) (e : ∀ i, i ≤ 8 → m' i = m i) : mo_R m' P := by
  have e0 := e 0 (by omega)
  have e1 := e 1 (by omega)
  have e2 := e 2 (by omega)
  have e3 := e 3 (by omega)
  have e4 := e 4 (by omega)
  have e5 := e 5 (by omega)
  have e6 := e 6 (by omega)
  have e7 := e 7 (by omega)
  have e8 := e 8 (by omega)
  unfold mo_R
  rw [e0, e1, e2, e3, e4, e5, e6, e7, e8]
  exact h
def mo_out (M M' : mo_M) : Prop := M'.2 = M.2 ∧ ∀ i, i ≠ 11 → i ≠ 12 → i ≠ 13 → M'.1 i = M.1 i
theorem mo_out_refl (M : mo_M) : mo_out M M := ⟨rfl, fun _ _ _ _ => rfl⟩
theorem mo_out_trans {M M' M'' : mo_M} (h : mo_out M M') (h' : mo_out M' M'') : mo_out M M'' := ⟨h'.1.trans h.1, fun i h1 h2 h3 => (h'.2 i h1 h2 h3).trans (h.2 i h1 h2 h3)⟩
theorem mo_R_out {M M' : mo_M} {P : pl_X} (h : mo_R M.1 P) (e : mo_out M M') : mo_R M'.1 P := mo_R_keep h (fun i hi => e.2 i (by omega) (by omega) (by omega))
def mo_NR (m : hm_M) (st : pl_N) (f t : Int) : Prop := ∀ q, q < 8 → match st q with
  | none => m 11 q = 0
  | some r => m 11 q = 1 ∧ m 12 q = iI (f + r.1) ∧ m 13 q = iI (t + r.2)
theorem nI_m4 (s : Nat) : nI s * 4 = nI (4 * s) := by
  rw [show (4 : Int32) = nI 4 from rfl, pk_mul, Nat.mul_comm]
theorem ev_mspread {P : pl_X} {M : mo_M} {s k q : Nat} {st : pl_N} {f t : Int} {r : Int × Int} {tp : pl_Tap} (hs8 : s < 8) (hk : k < 4) (hqs : q < s) (hR : mo_R M.1 P) (h : mo_NR M.1 st f t) (hs : pl_sm f t st) (hr : st s = some r) (htp : (pl_tp P s)[k]? = some tp) (hq : tp.1 = some q) (hx : -1000 ≤ f + (r.1 + tp.2.1) ∧ f + (r.1 + tp.2.1) ≤ 1000) (hy : -1000 ≤ t + (r.2 + tp.2.1) ∧ t + (r.2 + tp.2.1) ≤ 1000) :
    ∃ M', f_Mo_spread M (nI s) (nI (4 * s + k)) = some M' ∧ mo_out M M' ∧ mo_NR M'.1 (pl_wid st q (r.1 + tp.2.1) (r.2 + tp.2.1)) f t := by
  have hg : hm_ix (nI q) 8 = true := nI_ix (by omega) (by decide)
  have hc : (nI q).toNatClampNeg = q := nI_clamp (by omega)
  have hgs : hm_ix (nI s) 8 = true := nI_ix (by omega) (by decide)
  have hcs : (nI s).toNatClampNeg = s := nI_clamp (by omega)
  have hgk : hm_ix (nI (4 * s + k)) 32 = true := nI_ix (by omega) (by decide)
  have hck : (nI (4 * s + k)).toNatClampNeg = 4 * s + k := nI_clamp (by omega)
  obtain ⟨t1, t2, -⟩ := (hR.2.2.2.2.2 s hs8).2.2.2.2 k tp htp
  rw [hq, show pl_src (some q) = nI q from rfl] at t1
  have h0 := h s hs8
  rw [hr] at h0
  obtain ⟨-, u2, u3⟩ := h0
  generalize hxx : r.1 + tp.2.1 = x at *
  generalize hyy : r.2 + tp.2.1 = y at *
  have ea : iI (f + r.1) + iI tp.2.1 = iI (f + x) := by rw [iI_add]; congr 1; omega
  have eb : iI (t + r.2) + iI tp.2.1 = iI (t + y) := by rw [iI_add]; congr 1; omega
  have main : ∀ (m' : hm_M), (∀ i, i ≠ 11 → i ≠ 12 → i ≠ 13 → m' i = M.1 i) → (∀ i j, j ≠ q → m' i j = M.1 i j) → m' 11 q = 1 → (match st q with
      | none => m' 12 q = iI (f + x) ∧ m' 13 q = iI (t + y)
      | some r => m' 12 q = iI (f + min x r.1) ∧ m' 13 q = iI (t + max r.2 y)) →
      mo_out M (m', M.2) ∧ mo_NR m' (pl_wid st q x y) f t := by
    intro m' h1 h2 h3 h4
    refine ⟨⟨rfl, h1⟩, fun j hj => ?_⟩
    have hj0 := h j hj
    unfold pl_wid
    by_cases hjq : j = q
    · subst hjq
      rw [if_pos rfl]
      cases hst : st j with
      | none => rw [hst] at h4; exact ⟨h3, h4.1, h4.2⟩
      | some r => rw [hst] at h4; exact ⟨h3, h4.1, h4.2⟩
    · rw [if_neg hjq]
      cases hst : st j with
      | none =>
        rw [hst] at hj0
        show m' 11 j = 0
        rw [h2 11 j hjq]; exact hj0
      | some r =>
        rw [hst] at hj0
        show m' 11 j = 1 ∧ m' 12 j = _ ∧ m' 13 j = _
        rw [h2 11 j hjq, h2 12 j hjq, h2 13 j hjq]; exact hj0
  have hq0 := h q (by omega)
  simp only [f_Mo_spread, f_Mo_spread_57, f_Mo_spread_65, f_Mo_spread_85, f_Mo_spread_93, hgk, hck, hgs, hcs, t1, t2, u2, u3, ea, eb, hg, hc, hm_gd, mo_st]
  cases hst : st q with
  | none =>
    rw [hst] at hq0
    have r1 : ∀ F : Int32, hm_up M.1 12 q F 11 q = M.1 11 q := fun F => hm_rd_ne (by omega)
    rw [if_pos hq0]
    simp only [r1]
    rw [if_pos hq0]
    refine ⟨_, rfl, main _ (fun i h1 h2 h3 => ?_) (fun i j hj => ?_) ?_ ?_⟩
    · rw [hm_up_ne h1, hm_up_ne h3, hm_up_ne h2]
    · rw [hm_rd_ne (fun e => hj e.2), hm_rd_ne (fun e => hj e.2), hm_rd_ne (fun e => hj e.2)]
    · exact hm_rd_eq
    · rw [hst]; simp [hm_rd]
  | some r0 =>
    rw [hst] at hq0
    obtain ⟨w1, w2, w3⟩ := hq0
    obtain ⟨b1, b2, b3, b4⟩ := hs q r0 hst
    have hne : ¬ M.1 11 q = 0 := by rw [w1]; decide
    rw [if_neg hne, w2]
    have r1 : ∀ F : Int32, hm_up M.1 12 q F 11 q = M.1 11 q := fun F => hm_rd_ne (by omega)
    have r3 : ∀ F : Int32, hm_up M.1 12 q F 13 q = M.1 13 q := fun F => hm_rd_ne (by omega)
    simp only [r1, r3, w3]
    rw [if_neg hne, if_neg hne]
    have k1 : iI (f + r0.1) ≤ iI (f + x) ↔ f + r0.1 ≤ f + x := iI_le (by omega) (by omega) (by omega) (by omega)
    have k2 : iI (t + y) ≤ iI (t + r0.2) ↔ t + y ≤ t + r0.2 := iI_le (by omega) (by omega) (by omega) (by omega)
    by_cases c1 : f + r0.1 ≤ f + x <;> by_cases c2 : t + y ≤ t + r0.2
    · rw [if_pos (k1.mpr c1), if_pos (k2.mpr c2)]
      refine ⟨_, rfl, main _ (fun i h1 h2 h3 => hm_up_ne h1) (fun i j hj => hm_rd_ne (fun e => hj e.2)) hm_rd_eq ?_⟩
      rw [hst, hm_rd_ne (by omega), hm_rd_ne (by omega), w2, w3]
      exact ⟨by congr 1; omega, by congr 1; omega⟩
    · rw [if_pos (k1.mpr c1), if_neg (fun z => c2 (k2.mp z))]
      refine ⟨_, rfl, main _ (fun i h1 h2 h3 => by rw [hm_up_ne h1, hm_up_ne h3]) (fun i j hj => by rw [hm_rd_ne (fun e => hj e.2), hm_rd_ne (fun e => hj e.2)]) hm_rd_eq ?_⟩
      rw [hst, hm_rd_ne (by omega), hm_rd_ne (by omega), hm_rd_ne (by omega), hm_rd_eq, w2]
      exact ⟨by congr 1; omega, by congr 1; omega⟩
    · rw [if_neg (fun z => c1 (k1.mp z)), if_pos (k2.mpr c2)]
      refine ⟨_, rfl, main _ (fun i h1 h2 h3 => by rw [hm_up_ne h1, hm_up_ne h2]) (fun i j hj => by rw [hm_rd_ne (fun e => hj e.2), hm_rd_ne (fun e => hj e.2)]) hm_rd_eq ?_⟩
      rw [hst, hm_rd_ne (by omega), hm_rd_eq, hm_rd_ne (by omega), hm_rd_ne (by omega), w3]
      exact ⟨by congr 1; omega, by congr 1; omega⟩
    · rw [if_neg (fun z => c1 (k1.mp z)), if_neg (fun z => c2 (k2.mp z))]
      refine ⟨_, rfl, main _ (fun i h1 h2 h3 => by rw [hm_up_ne h1, hm_up_ne h3, hm_up_ne h2]) (fun i j hj => by rw [hm_rd_ne (fun e => hj e.2), hm_rd_ne (fun e => hj e.2), hm_rd_ne (fun e => hj e.2)]) hm_rd_eq ?_⟩
      rw [hst, hm_rd_ne (by omega), hm_rd_ne (by omega), hm_rd_eq, hm_rd_ne (by omega), hm_rd_eq]
      exact ⟨by congr 1; omega, by congr 1; omega⟩
theorem ev_mneed67u {P : pl_X} {s : Nat} {f t : Int} (hs8 : s < 8) (hlen : (pl_tp P s).length ≤ 4) {k58 : Int32 → mo_M → Option mo_M} :
    ∀ (n k : Nat) (M : mo_M), k ≤ (pl_tp P s).length → (pl_tp P s).length - k < n → mo_R M.1 P → M.1 11 s = 0 → f_Mo_need_67 k58 n (nI s) (nI (4 * s + k)) M = k58 (iI ((s : Int) - 1)) M := by
  intro n
  induction n with
  | zero => intro k M _ h; omega
  | succ n ih =>
    intro k M hk hn hR hu
    have hgs : hm_ix (nI s) 8 = true := nI_ix (by omega) (by decide)
    have hcs : (nI s).toNatClampNeg = s := nI_clamp (by omega)
    have en : nI s + -1 = iI ((s : Int) - 1) := by
      rw [iI_nat, lit_m1, iI_add]; congr 1
    have el : nI s * 4 + nI (pl_tp P s).length = nI (4 * s + (pl_tp P s).length) := by rw [nI_m4, nI_add]
    rw [f_Mo_need_67]
    simp only [hgs, hcs, hm_gd, (hR.2.2.2.2.2 s hs8).2.2.2.1, el, en, hu, f_Mo_need_108, nI_s]
    by_cases hkl : k = (pl_tp P s).length
    · subst hkl
      rw [if_pos ((nI_lei (by omega) (by omega)).mpr (Nat.le_refl _))]
    · rw [if_neg (fun q => hkl (by have := (nI_lei (by omega) (by omega)).mp q; omega))]
      exact ih (k + 1) M (by omega) (by omega) hR hu
theorem ev_mneed67 {P : pl_X} (hw : pl_wf P) {s : Nat} {f t : Int} {r : Int × Int} (hs8 : s < 8) (hx : -900 ≤ f + r.1 ∧ f + r.1 ≤ 900) (hy : -900 ≤ t + r.2 ∧ t + r.2 ≤ 900) {k58 : Int32 → mo_M → Option mo_M} :
    ∀ (n k : Nat) (M : mo_M) (st : pl_N), k ≤ (pl_tp P s).length → (pl_tp P s).length - k < n → mo_R M.1 P → mo_NR M.1 st f t → pl_sm f t st → st s = some r →
      ∃ M', f_Mo_need_67 k58 n (nI s) (nI (4 * s + k)) M = k58 (iI ((s : Int) - 1)) M' ∧ mo_out M M' ∧ mo_NR M'.1 (pl_hand r.1 r.2 ((pl_tp P s).drop k) st) f t := by
  obtain ⟨-, -, hlen, htap⟩ := hw.2.2.2.2.1 s
  intro n
  induction n with
  | zero => intro k M st _ h; omega
  | succ n ih =>
    intro k M st hk hn hR hN hsm hr
    have hgs : hm_ix (nI s) 8 = true := nI_ix (by omega) (by decide)
    have hcs : (nI s).toNatClampNeg = s := nI_clamp (by omega)
    have en : nI s + -1 = iI ((s : Int) - 1) := by
      rw [iI_nat, lit_m1, iI_add]; congr 1
    have el : nI s * 4 + nI (pl_tp P s).length = nI (4 * s + (pl_tp P s).length) := by rw [nI_m4, nI_add]
    have h0 := hN s hs8
    rw [hr] at h0
    obtain ⟨u1, u2, u3⟩ := h0
    rw [f_Mo_need_67]
    simp only [hgs, hcs, hm_gd, (hR.2.2.2.2.2 s hs8).2.2.2.1, el, en, f_Mo_need_108, nI_s]
    by_cases hkl : k = (pl_tp P s).length
    · subst hkl
      rw [if_pos ((nI_lei (by omega) (by omega)).mpr (Nat.le_refl _)), List.drop_length]
      exact ⟨M, rfl, mo_out_refl M, hN⟩
    · have hk2 : k < (pl_tp P s).length := by omega
      rw [if_neg (fun q => hkl (by have := (nI_lei (by omega) (by omega)).mp q; omega)), if_neg (show ¬ M.1 11 s = 0 by rw [u1]; decide)]
      have hgk : hm_ix (nI (4 * s + k)) 32 = true := nI_ix (by omega) (by decide)
      have hck : (nI (4 * s + k)).toNatClampNeg = 4 * s + k := nI_clamp (by omega)
      have htk : (pl_tp P s)[k]? = some (pl_tp P s)[k] := List.getElem?_eq_getElem hk2
      obtain ⟨t1, t2, t3⟩ := (hR.2.2.2.2.2 s hs8).2.2.2.2 k (pl_tp P s)[k] htk
      obtain ⟨o1, o2, o3⟩ := htap (pl_tp P s)[k] (List.getElem_mem hk2)
      rw [pl_drop hk2]
      simp only [hgk, hck, t1]
      unfold pl_hand
      cases hq : (pl_tp P s)[k].1 with
      | none =>
        rw [if_pos (show pl_src none < 0 by decide)]
        exact ih (k + 1) M st (by omega) (by omega) hR hN hsm hr
      | some q =>
        have hqs := o1 q hq
        rw [if_neg (show ¬ pl_src (some q) < 0 from nI_pos (show q < 2 ^ 31 by omega))]
        obtain ⟨M1, e1, out1, N1⟩ := ev_mspread hs8 (by omega) hqs hR hN hsm hr htk hq (by omega) (by omega)
        rw [e1]
        obtain ⟨M2, e2, out2, N2⟩ := ih (k + 1) M1 _ (by omega) (by omega) (mo_R_out hR out1) N1 (pl_wid_sm hsm (by omega) (by omega)) (by unfold pl_wid; rw [if_neg (by omega)]; exact hr)
        exact ⟨M2, e2, mo_out_trans out1 out2, N2⟩
theorem ev_mneed58 {P : pl_X} (hw : pl_wf P) {o : Nat} (ho8 : o < 8) {f t : Int} (hf : 0 ≤ f ∧ f ≤ 100) (ht : 0 ≤ t ∧ t ≤ 100) :
    ∀ (n s : Nat) (M : mo_M) (st : pl_N), s ≤ o + 1 → s < n → mo_R M.1 P → mo_NR M.1 st f t → pl_bd o st →
      ∃ M', f_Mo_need_58 n (iI ((s : Int) - 1)) M = some M' ∧ mo_out M M' ∧ mo_NR M'.1 (pl_down P s st) f t := by
  intro n
  induction n with
  | zero => intro s M st _ h; omega
  | succ n ih =>
    intro s M st hso hsn hR hN hbd
    have hsm : pl_sm f t st := pl_sm_of hbd ho8 hf.1 hf.2 ht.1 ht.2
    rw [f_Mo_need_58]
    cases s with
    | zero =>
      rw [if_pos (show iI (((0 : Nat) : Int) - 1) < 0 by decide)]
      exact ⟨M, rfl, mo_out_refl M, hN⟩
    | succ s =>
      have es : iI (((s + 1 : Nat) : Int) - 1) = nI s := by
        rw [iI_nat]; congr 1; omega
      rw [es, if_neg (nI_pos (show s < 2 ^ 31 by omega)), nI_m4]
      have h4 := (hw.2.2.2.2.1 s).2.2.1
      have h0 := hN s (by omega)
      show ∃ M' : mo_M, _ ∧ _ ∧ mo_NR M'.1 (pl_down P s (pl_step P s st)) f t
      cases hst : st s with
      | none =>
        rw [hst] at h0
        have e0 := ev_mneed67u (P := P) (s := s) (f := f) (t := t) (by omega) h4 (k58 := fun x3 M => f_Mo_need_58 n x3 M) 1000 0 M (by omega) (by omega) hR h0
        rw [Nat.add_zero] at e0
        rw [e0]
        have e1 : pl_step P s st = st := by unfold pl_step; rw [hst]
        rw [e1]
        exact ih s M st (by omega) (by omega) hR hN hbd
      | some r =>
        obtain ⟨b1, b2, b3, b4⟩ := hbd s r.1 r.2 hst
        have e1 : pl_step P s st = pl_hand r.1 r.2 (pl_tp P s) st := by unfold pl_step; rw [hst]
        obtain ⟨M1, e2, out1, N1⟩ := ev_mneed67 hw (show s < 8 by omega) (f := f) (t := t) (r := r) (by omega) (by omega) (k58 := fun x3 M => f_Mo_need_58 n x3 M) 1000 0 M st (by omega) (by omega) hR hN hsm hst
        rw [Nat.add_zero] at e2
        rw [e2, e1]
        obtain ⟨M2, e3, out2, N2⟩ := ih s M1 _ (by omega) (by omega) (mo_R_out hR out1) N1 (by rw [List.drop_zero, ← e1]; exact pl_step_bd hw hbd)
        rw [List.drop_zero] at N2
        exact ⟨M2, e3, mo_out_trans out1 out2, N2⟩
theorem ev_mneed2 {P : pl_X} (hw : pl_wf P) {o w : Nat} (hou : pl_ou P = some (o, w)) {f t : Int} (hf : 0 ≤ f ∧ f ≤ 100) (ht : 0 ≤ t ∧ t ≤ 100) :
    ∀ (n k : Nat) (M : mo_M), k ≤ 8 → 8 - k < n → mo_R M.1 P → (∀ j, j < k → M.1 11 j = if j = o then 1 else 0) →
      ∃ M', f_Mo_need_2 n (iI f) (iI t) (nI k) M = some M' ∧ mo_out M M' ∧ mo_NR M'.1 (pl_nd P o) f t := by
  obtain ⟨ho, hw1, hw2⟩ := hw.2.2.2.1 o w hou
  have ho8 : o < 8 := by have := hw.2.1; omega
  intro n
  induction n with
  | zero => intro k M _ h; omega
  | succ n ih =>
    intro k M hk hn hR hz
    have h11 : M.1 0 11 = nI o := by
      have := hR.2.2.2.1
      rw [hou] at this
      exact this.1
    rw [f_Mo_need_2]
    by_cases hk8 : k = 8
    · subst hk8
      rw [if_pos (show (8 : Int32) ≤ nI 8 by decide), h11]
      have hg : hm_ix (nI o) 8 = true := nI_ix ho8 (by decide)
      have hc : (nI o).toNatClampNeg = o := nI_clamp (by omega)
      have r1 : ∀ (F : Int32), hm_up M.1 12 o F 0 11 = nI o := fun F => by rw [hm_rd_ne (by omega)]; exact h11
      have r2 : ∀ (F G : Int32), hm_up (hm_up M.1 12 o F) 13 o G 0 11 = nI o := fun F G => by rw [hm_rd_ne (by omega)]; exact r1 F
      simp only [hg, hc, hm_gd, mo_st, r1, r2]
      have out0 : mo_out M (hm_up (hm_up M.1 12 o (iI f)) 13 o (iI t), M.2) := ⟨rfl, fun i _ h2 h3 => by show hm_up (hm_up M.1 12 o (iI f)) 13 o (iI t) i = M.1 i; rw [hm_up_ne h3, hm_up_ne h2]⟩
      have N0 : mo_NR (hm_up (hm_up M.1 12 o (iI f)) 13 o (iI t)) (pl_n0 o) f t := by
        intro q hq
        have := hz q hq
        unfold pl_n0
        by_cases hqo : q = o
        · subst hqo
          rw [if_pos rfl] at this ⊢
          show _ = _ ∧ _ = _ ∧ _ = _
          rw [hm_rd_ne (by omega), hm_rd_ne (by omega), hm_rd_ne (by omega), hm_rd_eq, hm_rd_eq, Int.add_zero, Int.add_zero]
          exact ⟨this, rfl, rfl⟩
        · rw [if_neg hqo] at this ⊢
          show _ = _
          rw [hm_rd_ne (by omega), hm_rd_ne (by omega)]
          exact this
      obtain ⟨M2, e2, out2, N2⟩ := ev_mneed58 hw ho8 hf ht 1000 (o + 1) (hm_up (hm_up M.1 12 o (iI f)) 13 o (iI t), M.2) (pl_n0 o) (by omega) (by omega) (mo_R_out hR out0) N0 (pl_n0_bd o)
      refine ⟨M2, ?_, mo_out_trans out0 out2, N2⟩
      rw [← e2]
      congr 1
      rw [iI_nat]; congr 1; omega
    · have hk2 : k < 8 := by omega
      rw [if_neg (show ¬ (8 : Int32) ≤ nI k from fun q => by have := (nI_lei (a := 8) (b := k) (by omega) (by omega)).mp q; omega), h11]
      have hg : hm_ix (nI k) 8 = true := nI_ix hk2 (by decide)
      have hc : (nI k).toNatClampNeg = k := nI_clamp (by omega)
      have step : ∀ v : Int32, v = (if k = o then 1 else 0) → ∃ M', f_Mo_need_2 n (iI f) (iI t) (nI (k + 1)) (hm_up M.1 11 k v, M.2) = some M' ∧ mo_out M M' ∧ mo_NR M'.1 (pl_nd P o) f t := by
        intro v hv
        have out0 : mo_out M (hm_up M.1 11 k v, M.2) := ⟨rfl, fun i h1 _ _ => hm_up_ne h1⟩
        obtain ⟨M2, e2, out2, N2⟩ := ih (k + 1) (hm_up M.1 11 k v, M.2) (by omega) (by omega) (mo_R_out hR out0) (fun j hj => by
          show hm_up M.1 11 k v 11 j = _
          by_cases hjk : j = k
          · subst hjk
            rw [hm_rd_eq, hv]
          · rw [hm_rd_ne (fun q => hjk q.2)]
            exact hz j (by omega))
        exact ⟨M2, e2, mo_out_trans out0 out2, N2⟩
      by_cases hko : k = o
      · rw [if_pos (by rw [hko])]
        simp only [f_Mo_need_26, hg, hm_gd, hc, mo_st, nI_s]
        exact step 1 (by rw [if_pos hko])
      · rw [if_neg (fun q => hko ((nI_eqi (by omega) (by omega)).mp q))]
        simp only [f_Mo_need_26, hg, hm_gd, hc, mo_st, nI_s]
        exact step 0 (by rw [if_neg hko])
theorem ev_mneed {P : pl_X} (hw : pl_wf P) {o w : Nat} (hou : pl_ou P = some (o, w)) {f t : Int} (hf : 0 ≤ f ∧ f ≤ 100) (ht : 0 ≤ t ∧ t ≤ 100) {M : mo_M} (hR : mo_R M.1 P) :
    ∃ M', f_Mo_need M (iI f) (iI t) = some M' ∧ mo_out M M' ∧ mo_NR M'.1 (pl_nd P o) f t :=
  ev_mneed2 hw hou hf ht 1000 0 M (by omega) (by omega) hR (fun j hj => by omega)
