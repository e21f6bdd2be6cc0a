/-! CALL BY CALL: class and reference hold one pipeline, and answer alike -/
def sc_I (M : hm_M) (P : pl_X) (cp rn : Bool) : Prop := pl_wf P ∧ sc_R M P ∧ (∀ q, q < 8 → M 53 q = 0) ∧ M 0 3 = b01 cp ∧ M 0 4 = b01 rn ∧ (cp = true → ∃ o w, pl_ou P = some (o, w) ∧ sc_PL M P o w) ∧ (rn = true → cp = true ∧ ∃ o w, pl_ou P = some (o, w) ∧ ∀ y : Nat, y < w → M 63 y = pl_val P o y)
def mo_I (m : mo_M) (P : pl_X) (cp rn : Bool) : Prop := mo_R m.1 P ∧ m.1 0 13 = b01 cp ∧ m.1 0 14 = b01 rn ∧ (rn = true → ∃ o w, pl_ou P = some (o, w) ∧ ∀ y : Nat, y < w → m.1 9 y = pl_val P o y)
def sm_I (rl : Nat) (M : hm_M) (m : mo_M) : Prop := ∃ P cp rn, pl_rl P = rl ∧ sc_I M P cp rn ∧ mo_I m P cp rn
/-- both answer, and the same -/
def sm_op {α : Type} (rl : Nat) (x : Option (α × hm_M)) (y : Option (α × mo_M)) : Prop := ∃ r M' m', x = some (r, M') ∧ y = some (r, m') ∧ sm_I rl M' m'
theorem sm_same {α : Type} {rl : Nat} {M : hm_M} {m : mo_M} (h : sm_I rl M m) (r : α) : sm_op rl (some (r, M)) (some (r, m)) := ⟨r, M, m, rfl, rfl, h⟩
theorem mo_R_up0 {m : hm_M} {P : pl_X} (hR : mo_R m P) {k : Nat} (hk : 13 ≤ k) (v : Int32) : mo_R (hm_up m 0 k v) P := by
  obtain ⟨r0, r1, r2, r3, r4, r5⟩ := hR
  refine ⟨by rw [hm_rd_ne (by omega)]; exact r0, by rw [hm_rd_ne (by omega)]; exact r1, by rw [hm_rd_ne (by omega)]; exact r2, ?_, fun i hi => by rw [hm_rd_ne (by omega)]; exact r4 i hi, fun s hs => ?_⟩
  · rw [hm_rd_ne (by omega), hm_rd_ne (by omega)]; exact r3
  · rw [hm_rd_ne (by omega), hm_rd_ne (by omega), hm_rd_ne (by omega), hm_rd_ne (by omega)]
    refine ⟨(r5 s hs).1, (r5 s hs).2.1, (r5 s hs).2.2.1, (r5 s hs).2.2.2.1, fun k t hk => ?_⟩
    rw [hm_rd_ne (by omega), hm_rd_ne (by omega), hm_rd_ne (by omega)]
    exact (r5 s hs).2.2.2.2 k t hk
theorem ev_forget (M : hm_M) : f_SC_forgetCompiled M = some (hm_up (hm_up M 0 3 0) 0 4 0) := rfl
theorem ev_changed (m : mo_M) (r : Int32) : f_Mo_changed m r = some (r, (hm_up (hm_up m.1 0 13 0) 0 14 0, m.2)) := rfl
theorem sm_forget {rl : Nat} {M : hm_M} {m : mo_M} {P : pl_X} (hrl : pl_rl P = rl) (hw : pl_wf P) (hR : sc_R M P) (hK : ∀ q, q < 8 → M 53 q = 0) (hm : mo_R m.1 P) : sm_I rl (hm_up (hm_up M 0 3 0) 0 4 0) (hm_up (hm_up m.1 0 13 0) 0 14 0, m.2) := by
  have e : ∀ i, i ≠ 0 → hm_up (hm_up M 0 3 0) 0 4 0 i = M i := fun i hi => by rw [hm_up_ne hi, hm_up_ne hi]
  refine ⟨P, false, false, hrl, ⟨hw, sc_R_keep hR (fun i hi => e i (by rcases hi with rfl | rfl | ⟨_, _⟩ <;> omega)), (fun q hq => by rw [e 53 (by omega)]; exact hK q hq), ?_, hm_rd_eq, (fun h => by cases h), (fun h => by cases h)⟩, mo_R_up0 (mo_R_up0 hm (by omega) 0) (by omega) 0, ?_, (by dsimp only; exact hm_rd_eq), (fun h => by cases h)⟩
  · rw [hm_rd_ne (by omega), hm_rd_eq]; rfl
  · dsimp only
    rw [hm_rd_ne (by omega), hm_rd_eq]; rfl
/-! which stage an int names -/
def pl_has (P : pl_X) (x : Int32) : Bool := decide (0 ≤ x.toInt ∧ x.toInt < pl_ns P)
theorem pl_has_cases {P : pl_X} (hw : pl_wf P) (x : Int32) : (pl_has P x = false ∧ (x < 0 ∨ nI (pl_ns P) ≤ x)) ∨ (pl_has P x = true ∧ ∃ s, s < pl_ns P ∧ x = nI s) := by
  have h8 := hw.2.1
  rcases pk_ix x (n := pl_ns P) (by omega) with h | h | ⟨j, hj, rfl⟩
  · left
    refine ⟨decide_eq_false (fun z => ?_), Or.inl h⟩
    have := Int32.lt_iff_toInt_lt.mp h
    have h0 : (0 : Int32).toInt = 0 := rfl
    omega
  · left
    refine ⟨decide_eq_false (fun z => ?_), Or.inr h⟩
    have := Int32.le_iff_toInt_le.mp h
    rw [nI_toInt (by omega)] at this
    omega
  · right
    refine ⟨decide_eq_true ?_, j, hj, rfl⟩
    rw [nI_toInt (by omega)]
    omega
theorem ev_has {P : pl_X} (hw : pl_wf P) {M : hm_M} (hR : sc_R M P) (x : Int32) : f_Pipe_hasStage M x = some (b01 (pl_has P x), M) := by
  have h8 := hw.2.1
  unfold f_Pipe_hasStage f_Pipe_hasStage_16 f_Pipe_hasStage_17
  rw [hR.1]
  rcases pl_has_cases hw x with ⟨e, h⟩ | ⟨e, s, hs, rfl⟩
  · rw [e]
    by_cases c : x < 0
    · rw [if_pos c]; rfl
    · rw [if_neg c, if_pos (h.resolve_left c)]; rfl
  · rw [e, if_neg (nI_pos (show s < 2 ^ 31 by omega)), if_neg (fun z => by have := (nI_lei (by omega) (by omega)).mp z; omega)]
    rfl
theorem ev_no {P : pl_X} (hw : pl_wf P) {m : mo_M} (hR : mo_R m.1 P) (x : Int32) : f_Mo_no m x = some (b01 (!pl_has P x), m) := by
  have h8 := hw.2.1
  unfold f_Mo_no f_Mo_no_12 f_Mo_no_17
  rw [hR.2.1]
  rcases pl_has_cases hw x with ⟨e, h⟩ | ⟨e, s, hs, rfl⟩
  · rw [e]
    by_cases c : x < 0
    · rw [if_pos c]; rfl
    · rw [if_neg c, if_neg (fun z => by
        have h1 := Int32.le_iff_toInt_le.mp (h.resolve_left c)
        have h2 := Int32.lt_iff_toInt_lt.mp z
        omega)]; rfl
  · rw [e, if_neg (nI_pos (show s < 2 ^ 31 by omega)), if_pos ((nI_lti (by omega) (by omega)).mpr hs)]
    rfl
/-! input -/
theorem op_input {rl : Nat} {M : hm_M} {m : mo_M} (h : sm_I rl M m) (x1 x2 : Int32) : sm_op rl (f_SC_input rl M x1 x2) (f_Mo_input m x1 x2) := by
  obtain ⟨P, cp, rn, hrl, ⟨hw, hR, hK, h03, h04, hcp, hrn⟩, ⟨hm, g13, g14, grn⟩⟩ := id h
  obtain ⟨hr1, hr2⟩ := hw.1
  subst hrl
  unfold f_SC_input f_SC_input_16 f_Mo_input f_Mo_input_12
  rw [hm.1]
  by_cases c : x1 < 0
  · rw [if_pos c, if_pos c]
    exact sm_same h _
  · rw [if_neg c, if_neg c]
    by_cases c2 : x1 < nI (pl_rl P)
    · rw [if_pos c2, if_pos c2]
      rcases pk_ix x1 (n := pl_rl P) (by omega) with d | d | ⟨j, hj, rfl⟩
      · exact absurd d c
      · exact absurd c2 (fun z => by
          have h1 := Int32.le_iff_toInt_le.mp d
          have h2 := Int32.lt_iff_toInt_lt.mp z
          omega)
      · rw [hm_gd_t (nI_ix hj (by omega)), hm_gd_t (nI_ix (show j < 24 by omega) (by decide)), nI_clamp (show j < 2 ^ 31 by omega)]
        simp only [hm_st, mo_st, ev_forget, ev_changed, hm_bV, hm_bI]
        refine ⟨_, _, _, rfl, rfl, sm_forget (P := (P.1, fun k => if k = j then x2 else P.2.1 k, P.2.2)) (m := (hm_up m.1 1 j x2, m.2)) rfl hw ?_ (fun q hq => by rw [hm_rd_ne (by omega)]; exact hK q hq) ?_⟩
        · obtain ⟨a1, a2, a3, a4, a5⟩ := hR
          have e : ∀ i, i ≠ 4 → hm_up M 4 j x2 i = M i := fun i hi => hm_up_ne hi
          refine ⟨by rw [e 1 (by omega)]; exact a1, by rw [e 1 (by omega)]; exact a2, by rw [e 1 (by omega)]; exact a3, fun i hi => ?_, fun s hs => ?_⟩
          · rw [hm_rd]
            show _ = if i = j then x2 else P.2.1 i
            by_cases hij : i = j
            · rw [if_pos ⟨rfl, hij⟩, if_pos hij]
            · rw [if_neg (fun z => hij z.2), if_neg hij]
              exact a4 i hi
          · rw [e _ (by omega), e _ (by omega), e _ (by omega), e _ (by omega)]
            exact a5 s hs
        · obtain ⟨a0, a1, a2, a3, a4, a5⟩ := hm
          have e : ∀ i, i ≠ 1 → hm_up m.1 1 j x2 i = m.1 i := fun i hi => hm_up_ne hi
          dsimp only
          refine ⟨by rw [e 0 (by omega)]; exact a0, by rw [e 0 (by omega)]; exact a1, by rw [e 0 (by omega)]; exact a2, by rw [e 0 (by omega)]; exact a3, fun i hi => ?_, fun s hs => ?_⟩
          · rw [hm_rd]
            show _ = if i = j then x2 else P.2.1 i
            by_cases hij : i = j
            · rw [if_pos ⟨rfl, hij⟩, if_pos hij]
            · rw [if_neg (fun z => hij z.2), if_neg hij]
              exact a4 i hi
          · rw [e 2 (by omega), e 3 (by omega), e 4 (by omega), e 8 (by omega), e 5 (by omega), e 6 (by omega), e 7 (by omega)]
            exact a5 s hs
    · rw [if_neg c2, if_neg c2]
      exact sm_same h _
/-! stage -/
theorem op_stage {rl : Nat} {M : hm_M} {m : mo_M} (h : sm_I rl M m) (x1 x2 : Int32) : sm_op rl (f_SC_stage M x1 x2) (f_Mo_stage m x1 x2) := by
  obtain ⟨P, cp, rn, hrl, ⟨hw, hR, hK, h03, h04, hcp, hrn⟩, ⟨hm, g13, g14, grn⟩⟩ := id h
  have h8 := hw.2.1
  unfold f_SC_stage f_SC_stage_9 f_Mo_stage f_Mo_stage_9
  rw [hm.2.1, hR.1]
  by_cases c : x2 < 0
  · rw [if_pos c, if_pos c]
    exact sm_same h _
  · rw [if_neg c, if_neg c]
    by_cases c3 : x2 ≤ 3
    · rw [if_pos c3, if_pos c3]
      by_cases c8 : nI (pl_ns P) = 8
      · rw [if_pos c8, if_pos c8]
        exact sm_same h _
      · rw [if_neg c8, if_neg c8]
        have hn8 : pl_ns P < 8 := by
          rcases Nat.lt_or_ge (pl_ns P) 8 with q | q
          · exact q
          · exact absurd (by rw [show pl_ns P = 8 by omega]; rfl) c8
        obtain ⟨f, hf, rfl⟩ := nI_of2 (x := x2) (M := 3) (n := 3) rfl c c3
        obtain ⟨n, hn⟩ : ∃ n, n = pl_ns P := ⟨_, rfl⟩
        rw [← hn] at hn8
        have hg : hm_ix (nI n) 8 = true := nI_ix hn8 (by decide)
        have hc : (nI n).toNatClampNeg = n := nI_clamp (by omega)
        have rM : M 1 3 = nI n := by rw [hn]; exact hR.1
        have rm : m.1 0 9 = nI n := by rw [hn]; exact hm.2.1
        have s1 : nI (n + 1) - 1 = nI n := by rw [show (1 : Int32) = nI 1 from rfl, pk_sub (by omega), Nat.add_sub_cancel]
        have eS : f_Pipe_addStage M x1 (nI f) = some (nI n, hm_up (hm_up (hm_up M (5 + 4 * n) 0 x1) (5 + 4 * n) 1 (nI f)) 1 3 (nI (n + 1))) := by
          unfold f_Pipe_addStage
          have r1 : hm_up (hm_up M (5 + 4 * n) 0 x1) (5 + 4 * n) 1 (nI f) 1 3 = nI n := by rw [hm_rd_ne (by omega), hm_rd_ne (by omega)]; exact rM
          rw [rM, hm_gd_t hg, hc]
          simp only [hm_st, r1, nI_s, hm_rd_eq, s1]
        rw [← hn, eS, hm_gd_t hg, hc]
        have r2 : hm_up m.1 2 n x1 0 9 = nI n := by rw [hm_rd_ne (by omega)]; exact rm
        have r3 : hm_up (hm_up m.1 2 n x1) 3 n (nI f) 0 9 = nI n := by rw [hm_rd_ne (by omega)]; exact r2
        simp only [mo_st, r2, hg, hm_gd, hc, r3, nI_s, hm_rd_eq, s1, ev_forget, ev_changed, hm_bV, hm_bI]
        obtain ⟨hw1, hw2, hw3, hw4, hw5, hw6⟩ := id hw
        have hmd : pl_md P n = 0 ∧ pl_tp P n = [] := hw6 n (by omega)
        refine ⟨_, _, _, rfl, rfl, sm_forget (P := (fun k => if k = n then (x1, f, 0, []) else P.1 k, P.2.1, P.2.2.1, n + 1, P.2.2.2.2)) (m := (hm_up (hm_up (hm_up m.1 2 n x1) 3 n (nI f)) 0 9 (nI (n + 1)), m.2)) hrl ?_ ?_ (fun q hq => by rw [hm_rd_ne (by omega), hm_rd_ne (by omega), hm_rd_ne (by omega)]; exact hK q hq) ?_⟩
        · refine ⟨hw1, by show n + 1 ≤ 8; omega, hw3, fun o w ho => ?_, fun s => ?_, fun s hs => ?_⟩
          · have := hw4 o w ho
            exact ⟨by show o < n + 1; omega, this.2⟩
          · show (if s = n then _ else P.1 s).2.1 ≤ 3 ∧ (if s = n then _ else P.1 s).2.2.1 ≤ 2 ∧ (if s = n then _ else P.1 s).2.2.2.length ≤ 4 ∧ ∀ t ∈ (if s = n then _ else P.1 s).2.2.2, pl_okt s t
            by_cases hsn : s = n
            · simp only [hsn, if_true]
              exact ⟨hf, by omega, by simp, fun t ht => by cases ht⟩
            · simp only [hsn, if_false]
              exact hw5 s
          · have hsn : ¬ s = n := by have : n + 1 ≤ s := hs; omega
            show (if s = n then _ else P.1 s).2.2.1 = 0 ∧ (if s = n then _ else P.1 s).2.2.2 = []
            simp only [hsn, if_false]
            exact hw6 s (by have : n + 1 ≤ s := hs; omega)
        · obtain ⟨a1, a2, a3, a4, a5⟩ := hR
          refine ⟨hm_rd_eq, by rw [hm_rd_ne (by omega), hm_rd_ne (by omega), hm_rd_ne (by omega)]; exact a2, ?_, fun i hi => by rw [hm_rd_ne (by omega), hm_rd_ne (by omega), hm_rd_ne (by omega)]; exact a4 i hi, fun s hs => ?_⟩
          · rw [hm_rd_ne (by omega), hm_rd_ne (by omega), hm_rd_ne (by omega), hm_rd_ne (by omega), hm_rd_ne (by omega), hm_rd_ne (by omega)]
            exact a3
          · show _ = (if s = n then _ else P.1 s).1 ∧ _ = nI (if s = n then _ else P.1 s).2.1 ∧ _ = nI (if s = n then _ else P.1 s).2.2.1 ∧ _ = nI (if s = n then _ else P.1 s).2.2.2.length ∧ ∀ k t, (if s = n then _ else P.1 s).2.2.2[k]? = some t → _
            by_cases hsn : s = n
            · subst hsn
              simp only [if_true]
              refine ⟨by rw [hm_rd_ne (by omega), hm_rd_ne (by omega), hm_rd_eq], by rw [hm_rd_ne (by omega), hm_rd_eq], ?_, ?_, fun k t hk => by simp at hk⟩
              · rw [hm_rd_ne (by omega), hm_rd_ne (by omega), hm_rd_ne (by omega), (a5 s hs).2.2.1, hmd.1]
              · rw [hm_rd_ne (by omega), hm_rd_ne (by omega), hm_rd_ne (by omega), (a5 s hs).2.2.2.1, hmd.2]
            · simp only [hsn, if_false]
              have e : ∀ i k, i ≠ 5 + 4 * n → i ≠ 1 → hm_up (hm_up (hm_up M (5 + 4 * n) 0 x1) (5 + 4 * n) 1 (nI f)) 1 3 (nI (n + 1)) i k = M i k := fun i k h1 h2 => by rw [hm_up_ne h2, hm_up_ne h1, hm_up_ne h1]
              rw [e _ _ (by omega) (by omega), e _ _ (by omega) (by omega), e _ _ (by omega) (by omega), e _ _ (by omega) (by omega)]
              refine ⟨(a5 s hs).1, (a5 s hs).2.1, (a5 s hs).2.2.1, (a5 s hs).2.2.2.1, fun k t hk => ?_⟩
              rw [e _ _ (by omega) (by omega), e _ _ (by omega) (by omega), e _ _ (by omega) (by omega)]
              exact (a5 s hs).2.2.2.2 k t hk
        · obtain ⟨a0, a1, a2, a3, a4, a5⟩ := hm
          dsimp only
          have e0 : ∀ k, k ≠ 9 → hm_up (hm_up (hm_up m.1 2 n x1) 3 n (nI f)) 0 9 (nI (n + 1)) 0 k = m.1 0 k := fun k hk => by rw [hm_rd_ne (by omega), hm_rd_ne (by omega), hm_rd_ne (by omega)]
          refine ⟨by rw [e0 0 (by omega)]; exact a0, hm_rd_eq, by rw [e0 10 (by omega)]; exact a2, by rw [e0 11 (by omega), e0 12 (by omega)]; exact a3, fun i hi => by rw [hm_rd_ne (by omega), hm_rd_ne (by omega), hm_rd_ne (by omega)]; exact a4 i hi, fun s hs => ?_⟩
          show _ = (if s = n then _ else P.1 s).1 ∧ _ = nI (if s = n then _ else P.1 s).2.1 ∧ _ = nI (if s = n then _ else P.1 s).2.2.1 ∧ _ = nI (if s = n then _ else P.1 s).2.2.2.length ∧ ∀ k t, (if s = n then _ else P.1 s).2.2.2[k]? = some t → _
          by_cases hsn : s = n
          · subst hsn
            simp only [if_true]
            refine ⟨by rw [hm_rd_ne (by omega), hm_rd_ne (by omega), hm_rd_eq], by rw [hm_rd_ne (by omega), hm_rd_eq], ?_, ?_, fun k t hk => by simp at hk⟩
            · rw [hm_rd_ne (by omega), hm_rd_ne (by omega), hm_rd_ne (by omega), (a5 s hs).2.2.1, hmd.1]
            · rw [hm_rd_ne (by omega), hm_rd_ne (by omega), hm_rd_ne (by omega), (a5 s hs).2.2.2.1, hmd.2]
          · simp only [hsn, if_false]
            have e : ∀ i k, i ≠ 0 → k ≠ n ∨ (i ≠ 2 ∧ i ≠ 3) → hm_up (hm_up (hm_up m.1 2 n x1) 3 n (nI f)) 0 9 (nI (n + 1)) i k = m.1 i k := fun i k h1 h2 => by rw [hm_rd_ne (by omega), hm_rd_ne (by omega), hm_rd_ne (by omega)]
            rw [e 2 s (by omega) (by omega), e 3 s (by omega) (by omega), e 4 s (by omega) (by omega), e 8 s (by omega) (by omega)]
            refine ⟨(a5 s hs).1, (a5 s hs).2.1, (a5 s hs).2.2.1, (a5 s hs).2.2.2.1, fun k t hk => ?_⟩
            rw [e 5 _ (by omega) (by omega), e 6 _ (by omega) (by omega), e 7 _ (by omega) (by omega)]
            exact (a5 s hs).2.2.2.2 k t hk
    · rw [if_neg c3, if_neg c3]
      exact sm_same h _
