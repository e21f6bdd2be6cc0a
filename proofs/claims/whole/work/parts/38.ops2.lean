/-! tap, mode, tile, output -/
def pl_set (P : pl_X) (s : Nat) (st : pl_St) : pl_X := (fun k => if k = s then st else P.1 k, P.2)
theorem pl_set_wf {P : pl_X} (hw : pl_wf P) {s : Nat} (hs : s < pl_ns P) {st : pl_St} (h : st.2.1 ≤ 3 ∧ st.2.2.1 ≤ 2 ∧ st.2.2.2.length ≤ 4 ∧ ∀ t ∈ st.2.2.2, pl_okt s t) : pl_wf (pl_set P s st) := by
  obtain ⟨h1, h2, h3, h4, h5, h6⟩ := hw
  refine ⟨h1, h2, h3, h4, fun k => ?_, fun k hk => ?_⟩
  · show (if k = s then st else P.1 k).2.1 ≤ 3 ∧ (if k = s then st else P.1 k).2.2.1 ≤ 2 ∧ (if k = s then st else P.1 k).2.2.2.length ≤ 4 ∧ ∀ t ∈ (if k = s then st else P.1 k).2.2.2, pl_okt k t
    by_cases e : k = s
    · subst e
      simp only [if_true]
      exact h
    · simp only [e, if_false]
      exact h5 k
  · have e : ¬ k = s := by have : pl_ns P ≤ k := hk; omega
    show (if k = s then st else P.1 k).2.2.1 = 0 ∧ (if k = s then st else P.1 k).2.2.2 = []
    simp only [e, if_false]
    exact h6 k hk
theorem sc_R_set {M M' : hm_M} {P : pl_X} (hR : sc_R M P) {s : Nat} {st : pl_St} (e : ∀ i, sc_pc i → (i < 5 + 4 * s ∨ 5 + 4 * s + 3 < i) → M' i = M i) (hst : M' (5 + 4 * s) 0 = st.1 ∧ M' (5 + 4 * s) 1 = nI st.2.1 ∧ M' (5 + 4 * s) 2 = nI st.2.2.1 ∧ M' (5 + 4 * s) 3 = nI st.2.2.2.length ∧
    ∀ k t, st.2.2.2[k]? = some t → M' (5 + 4 * s + 1) k = pl_src t.1 ∧ M' (5 + 4 * s + 2) k = iI t.2.1 ∧ M' (5 + 4 * s + 3) k = t.2.2) : sc_R M' (pl_set P s st) := by
  obtain ⟨a1, a2, a3, a4, a5⟩ := hR
  have e1 : M' 1 = M 1 := e 1 (Or.inl rfl) (by omega)
  have e4 : M' 4 = M 4 := e 4 (Or.inr (Or.inl rfl)) (by omega)
  refine ⟨by rw [e1]; exact a1, by rw [e1]; exact a2, by rw [e1]; exact a3, by rw [e4]; exact a4, fun k hk => ?_⟩
  show _ = (if k = s then st else P.1 k).1 ∧ _ = nI (if k = s then st else P.1 k).2.1 ∧ _ = nI (if k = s then st else P.1 k).2.2.1 ∧ _ = nI (if k = s then st else P.1 k).2.2.2.length ∧ ∀ j t, (if k = s then st else P.1 k).2.2.2[j]? = some t → _
  by_cases c : k = s
  · subst c
    simp only [if_true]
    exact hst
  · simp only [c, if_false]
    rw [e (5 + 4 * k) (Or.inr (Or.inr (by omega))) (by omega), e (5 + 4 * k + 1) (Or.inr (Or.inr (by omega))) (by omega), e (5 + 4 * k + 2) (Or.inr (Or.inr (by omega))) (by omega), e (5 + 4 * k + 3) (Or.inr (Or.inr (by omega))) (by omega)]
    exact a5 k hk
theorem mo_R_set {m m' : hm_M} {P : pl_X} (hw : pl_wf P) (hR : mo_R m P) {s : Nat} {st : pl_St} (e0 : ∀ i, i ≤ 1 → m' i = m i) (e1 : ∀ i k, 2 ≤ i → (i < 5 ∨ i = 8) → k ≠ s → m' i k = m i k) (e2 : ∀ i k, 5 ≤ i → i ≤ 7 → (k < 4 * s ∨ 4 * s + 4 ≤ k) → m' i k = m i k) (hst : m' 2 s = st.1 ∧ m' 3 s = nI st.2.1 ∧ m' 4 s = nI st.2.2.1 ∧ m' 8 s = nI st.2.2.2.length ∧
    ∀ k t, st.2.2.2[k]? = some t → m' 5 (4 * s + k) = pl_src t.1 ∧ m' 6 (4 * s + k) = iI t.2.1 ∧ m' 7 (4 * s + k) = t.2.2) : mo_R m' (pl_set P s st) := by
  obtain ⟨a0, a1, a2, a3, a4, a5⟩ := hR
  have z0 : m' 0 = m 0 := e0 0 (by omega)
  have z1 : m' 1 = m 1 := e0 1 (by omega)
  refine ⟨by rw [z0]; exact a0, by rw [z0]; exact a1, by rw [z0]; exact a2, by rw [z0]; exact a3, by rw [z1]; exact a4, fun k hk => ?_⟩
  show _ = (if k = s then st else P.1 k).1 ∧ _ = nI (if k = s then st else P.1 k).2.1 ∧ _ = nI (if k = s then st else P.1 k).2.2.1 ∧ _ = nI (if k = s then st else P.1 k).2.2.2.length ∧ ∀ j t, (if k = s then st else P.1 k).2.2.2[j]? = some t → _
  by_cases c : k = s
  · subst c
    simp only [if_true]
    exact hst
  · simp only [c, if_false]
    rw [e1 2 k (by omega) (by omega) c, e1 3 k (by omega) (by omega) c, e1 4 k (by omega) (by omega) c, e1 8 k (by omega) (by omega) c]
    refine ⟨(a5 k hk).1, (a5 k hk).2.1, (a5 k hk).2.2.1, (a5 k hk).2.2.2.1, fun j t hj => ?_⟩
    have hj4 : j < 4 := by
      have h1 : j < (pl_tp P k).length := (List.getElem?_eq_some_iff.mp hj).1
      have h2 := (hw.2.2.2.2.1 k).2.2.1
      omega
    rw [e2 5 _ (by omega) (by omega) (by omega), e2 6 _ (by omega) (by omega) (by omega), e2 7 _ (by omega) (by omega) (by omega)]
    exact (a5 k hk).2.2.2.2 j t hj
theorem src_of {s : Nat} (hs : s < 1000) {x : Int32} (h1 : ¬ x < -1) (h2 : ¬ nI s ≤ x) : ∃ q, x = pl_src q ∧ ∀ j, q = some j → j < s := by
  have g1 : ¬ x.toInt < -1 := fun z => h1 (Int32.lt_iff_toInt_lt.mpr z)
  have g2 : ¬ (s : Int) ≤ x.toInt := fun z => h2 (Int32.le_iff_toInt_le.mpr (by rw [nI_toInt (by omega)]; exact z))
  by_cases c : x.toInt = -1
  · exact ⟨none, by rw [iI_of x, c]; rfl, fun j h => by cases h⟩
  · refine ⟨some x.toInt.toNat, ?_, fun j h => ?_⟩
    · show x = nI x.toInt.toNat
      rw [iI_nat]
      have : ((x.toInt.toNat : Nat) : Int) = x.toInt := by omega
      rw [this]
      exact iI_of x
    · cases h
      omega
theorem off_of {x : Int32} (h1 : ¬ x < -4) (h2 : x ≤ 4) : ∃ z : Int, x = iI z ∧ -4 ≤ z ∧ z ≤ 4 := by
  have g1 : ¬ x.toInt < -4 := fun z => h1 (Int32.lt_iff_toInt_lt.mpr z)
  have g2 : x.toInt ≤ 4 := Int32.le_iff_toInt_le.mp h2
  exact ⟨x.toInt, iI_of x, by omega, g2⟩
theorem ev_addTap {M : hm_M} {a k : Nat} (hk : k < 4) (h3 : M a 3 = nI k) (x1 x2 x3 : Int32) : f_Stage_addTap M a x1 x2 x3 = some (hm_up (hm_up (hm_up (hm_up M (a + 1) k x1) (a + 2) k x2) (a + 3) k x3) a 3 (nI (k + 1))) := by
  have hg : hm_ix (nI k) 4 = true := nI_ix hk (by decide)
  have hc : (nI k).toNatClampNeg = k := nI_clamp (by omega)
  have r1 : hm_up M (a + 1) k x1 a 3 = nI k := by rw [hm_rd_ne (by omega)]; exact h3
  have r2 : hm_up (hm_up M (a + 1) k x1) (a + 2) k x2 a 3 = nI k := by rw [hm_rd_ne (by omega)]; exact r1
  have r3 : hm_up (hm_up (hm_up M (a + 1) k x1) (a + 2) k x2) (a + 3) k x3 a 3 = nI k := by rw [hm_rd_ne (by omega)]; exact r2
  unfold f_Stage_addTap
  rw [h3, hm_gd_t hg, hc]
  simp only [hm_st, r1, hg, hm_gd, hc, r2, r3, nI_s]
theorem op_tap {rl : Nat} {M : hm_M} {m : mo_M} (h : sm_I rl M m) (x1 x2 x3 x4 : Int32) : sm_op rl (f_SC_tap M x1 x2 x3 x4) (f_Mo_tap m x1 x2 x3 x4) := by
  obtain ⟨P, cp, rn, hrl, ⟨hw, hR, hK, h03, h04, hcp, hrn⟩, ⟨hm, g13, g14, grn⟩⟩ := id h
  have h8 := hw.2.1
  unfold f_SC_tap f_SC_tap_32 f_Mo_tap f_Mo_tap_29
  rw [ev_has hw hR, ev_no hw hm]
  dsimp only [hm_bI]
  rcases pl_has_cases hw x1 with ⟨e, _⟩ | ⟨e, s, hs, rfl⟩
  · rw [e, if_pos (show b01 false = 0 from rfl), if_neg (show ¬ b01 (!false) = 0 by decide)]
    exact sm_same h _
  rw [e, if_neg (show ¬ b01 true = 0 by decide), if_pos (show b01 (!true) = 0 from rfl)]
  by_cases c1 : x2 < -1
  · rw [if_pos c1, if_pos c1]; exact sm_same h _
  rw [if_neg c1, if_neg c1]
  by_cases c2 : nI s ≤ x2
  · rw [if_pos c2, if_pos c2]; exact sm_same h _
  rw [if_neg c2, if_neg c2]
  by_cases c3 : x3 < -4
  · rw [if_pos c3, if_pos c3]; exact sm_same h _
  rw [if_neg c3, if_neg c3]
  by_cases c4 : x3 ≤ 4
  · rw [if_pos c4, if_pos c4]
    have hs8 : s < 8 := by omega
    have gs : hm_ix (nI s) 8 = true := nI_ix hs8 (by decide)
    have cs : (nI s).toNatClampNeg = s := nI_clamp (by omega)
    obtain ⟨n, hn⟩ : ∃ n, n = (pl_tp P s).length := ⟨_, rfl⟩
    have hn4 : n ≤ 4 := by rw [hn]; exact (hw.2.2.2.2.1 s).2.2.1
    have A := hR.2.2.2.2 s hs8
    have B := hm.2.2.2.2.2 s hs8
    rw [← hn] at A B
    rw [hm_gd_t gs, hm_gd_t gs, cs]
    by_cases cn : nI n = 4
    · rw [if_pos (A.2.2.2.1.trans cn), if_pos (B.2.2.2.1.trans cn)]; exact sm_same h _
    rw [if_neg (fun z => cn (A.2.2.2.1.symm.trans z)), if_neg (fun z => cn (B.2.2.2.1.symm.trans z))]
    have hn3 : n < 4 := by
      rcases Nat.lt_or_ge n 4 with q | q
      · exact q
      · exact absurd (by rw [show n = 4 by omega]; rfl) cn
    obtain ⟨q, rfl, hq⟩ := src_of (by omega) c1 c2
    obtain ⟨z, rfl, hz⟩ := off_of c3 c4
    rw [ev_addTap hn3 A.2.2.2.1]
    have ei : nI s * 4 + nI n = nI (4 * s + n) := by rw [nI_m4, nI_add]
    have gi : hm_ix (nI (4 * s + n)) 32 = true := nI_ix (by omega) (by decide)
    have ci : (nI (4 * s + n)).toNatClampNeg = 4 * s + n := nI_clamp (by omega)
    have r8 : hm_up (hm_up (hm_up m.1 5 (4 * s + n) (pl_src q)) 6 (4 * s + n) (iI z)) 7 (4 * s + n) x4 8 s = nI n := by
      rw [hm_rd_ne (by omega), hm_rd_ne (by omega), hm_rd_ne (by omega)]; exact B.2.2.2.1
    have r3 : hm_up (hm_up (hm_up (hm_up (hm_up (hm_up M (5 + 4 * s + 1) n (pl_src q)) (5 + 4 * s + 2) n (iI z)) (5 + 4 * s + 3) n x4) (5 + 4 * s) 3 (nI (n + 1))) 0 3 0) 0 4 0 (5 + 4 * s) 3 = nI (n + 1) := by
      rw [hm_rd_ne (by omega), hm_rd_ne (by omega), hm_rd_eq]
    simp only [gs, hm_gd, B.2.2.2.1, ei, gi, ci, mo_st, r8, nI_s, hm_rd_eq, cs, ev_changed, ev_forget, hm_bV, hm_bI, r3]
    have hgt : ∀ (k : Nat) (t : pl_Tap), (pl_tp P s ++ [(q, z, x4)])[k]? = some t → (k < n ∧ (pl_tp P s)[k]? = some t) ∨ (k = n ∧ t = (q, z, x4)) := by
      intro k t hk
      rcases Nat.lt_or_ge k n with hlt | hge
      · left
        rw [List.getElem?_append_left (by rw [← hn]; exact hlt)] at hk
        exact ⟨hlt, hk⟩
      · right
        rw [List.getElem?_append_right (by rw [← hn]; exact hge), ← hn] at hk
        have hk0 : k - n = 0 := by
          have := (List.getElem?_eq_some_iff.mp hk).1
          simp at this
          omega
        rw [hk0] at hk
        simp at hk
        exact ⟨by omega, hk.symm⟩
    refine ⟨_, _, _, rfl, rfl, sm_forget (P := pl_set P s (pl_cs P s, pl_fn P s, pl_md P s, pl_tp P s ++ [(q, z, x4)])) (m := (hm_up (hm_up (hm_up (hm_up m.1 5 (4 * s + n) (pl_src q)) 6 (4 * s + n) (iI z)) 7 (4 * s + n) x4) 8 s (nI (n + 1)), m.2)) hrl (pl_set_wf hw hs ⟨(hw.2.2.2.2.1 s).1, (hw.2.2.2.2.1 s).2.1, ?_, ?_⟩) (sc_R_set hR ?_ ?_) (fun j hj => by rw [hm_rd_ne (by omega), hm_rd_ne (by omega), hm_rd_ne (by omega), hm_rd_ne (by omega)]; exact hK j hj) (mo_R_set hw hm ?_ ?_ ?_ ?_)⟩
    · show (pl_tp P s ++ [(q, z, x4)]).length ≤ 4
      rw [List.length_append, ← hn]; simp; omega
    · intro t ht
      rcases List.mem_append.mp ht with h' | h'
      · exact (hw.2.2.2.2.1 s).2.2.2 t h'
      · rw [List.mem_singleton] at h'
        subst h'
        exact ⟨hq, hz.1, hz.2⟩
    · intro i _ hi
      rw [hm_up_ne (by omega), hm_up_ne (by omega), hm_up_ne (by omega), hm_up_ne (by omega)]
    · refine ⟨?_, ?_, ?_, ?_, fun k t hk => ?_⟩
      · rw [hm_rd_ne (by omega), hm_rd_ne (by omega), hm_rd_ne (by omega), hm_rd_ne (by omega)]; exact A.1
      · rw [hm_rd_ne (by omega), hm_rd_ne (by omega), hm_rd_ne (by omega), hm_rd_ne (by omega)]; exact A.2.1
      · rw [hm_rd_ne (by omega), hm_rd_ne (by omega), hm_rd_ne (by omega), hm_rd_ne (by omega)]; exact A.2.2.1
      · rw [hm_rd_eq]
        show _ = nI (pl_tp P s ++ [(q, z, x4)]).length
        rw [List.length_append, ← hn]; rfl
      · rcases hgt k t hk with ⟨h1, h2⟩ | ⟨rfl, rfl⟩
        · have C := A.2.2.2.2 k t h2
          rw [hm_rd_ne (by omega), hm_rd_ne (by omega), hm_rd_ne (by omega), hm_rd_ne (by omega), hm_rd_ne (by omega), hm_rd_ne (by omega), hm_rd_ne (by omega), hm_rd_ne (by omega), hm_rd_ne (by omega), hm_rd_ne (by omega), hm_rd_ne (by omega), hm_rd_ne (by omega)]
          exact C
        · refine ⟨?_, ?_, ?_⟩
          · rw [hm_rd_ne (by omega), hm_rd_ne (by omega), hm_rd_ne (by omega), hm_rd_eq]
          · rw [hm_rd_ne (by omega), hm_rd_ne (by omega), hm_rd_eq]
          · rw [hm_rd_ne (by omega), hm_rd_eq]
    · intro i hi
      dsimp only
      rw [hm_up_ne (by omega), hm_up_ne (by omega), hm_up_ne (by omega), hm_up_ne (by omega)]
    · intro i k h2 h5 hk
      dsimp only
      rw [hm_rd_ne (by omega), hm_rd_ne (by omega), hm_rd_ne (by omega), hm_rd_ne (by omega)]
    · intro i k h5 h7 hk
      dsimp only
      rw [hm_rd_ne (by omega), hm_rd_ne (by omega), hm_rd_ne (by omega), hm_rd_ne (by omega)]
    · dsimp only
      refine ⟨?_, ?_, ?_, ?_, fun k t hk => ?_⟩
      · rw [hm_rd_ne (by omega), hm_rd_ne (by omega), hm_rd_ne (by omega), hm_rd_ne (by omega)]; exact B.1
      · rw [hm_rd_ne (by omega), hm_rd_ne (by omega), hm_rd_ne (by omega), hm_rd_ne (by omega)]; exact B.2.1
      · rw [hm_rd_ne (by omega), hm_rd_ne (by omega), hm_rd_ne (by omega), hm_rd_ne (by omega)]; exact B.2.2.1
      · rw [hm_rd_eq, List.length_append, ← hn]; rfl
      · rcases hgt k t hk with ⟨h1, h2⟩ | ⟨rfl, rfl⟩
        · have C := B.2.2.2.2 k t h2
          rw [hm_rd_ne (by omega), hm_rd_ne (by omega), hm_rd_ne (by omega), hm_rd_ne (by omega), hm_rd_ne (by omega), hm_rd_ne (by omega), hm_rd_ne (by omega), hm_rd_ne (by omega), hm_rd_ne (by omega), hm_rd_ne (by omega), hm_rd_ne (by omega), hm_rd_ne (by omega)]
          exact C
        · refine ⟨?_, ?_, ?_⟩
          · rw [hm_rd_ne (by omega), hm_rd_ne (by omega), hm_rd_ne (by omega), hm_rd_eq]
          · rw [hm_rd_ne (by omega), hm_rd_ne (by omega), hm_rd_eq]
          · rw [hm_rd_ne (by omega), hm_rd_eq]
  · rw [if_neg c4, if_neg c4]; exact sm_same h _
theorem op_mode {rl : Nat} {M : hm_M} {m : mo_M} (h : sm_I rl M m) (x1 x2 : Int32) : sm_op rl (f_SC_mode M x1 x2) (f_Mo_mode m x1 x2) := by
  obtain ⟨P, cp, rn, hrl, ⟨hw, hR, hK, h03, h04, hcp, hrn⟩, ⟨hm, g13, g14, grn⟩⟩ := id h
  have h8 := hw.2.1
  unfold f_SC_mode f_SC_mode_20 f_Mo_mode f_Mo_mode_17
  rw [ev_has hw hR, ev_no hw hm]
  dsimp only [hm_bI]
  rcases pl_has_cases hw x1 with ⟨e, _⟩ | ⟨e, s, hs, rfl⟩
  · rw [e, if_pos (show b01 false = 0 from rfl), if_neg (show ¬ b01 (!false) = 0 by decide)]
    exact sm_same h _
  rw [e, if_neg (show ¬ b01 true = 0 by decide), if_pos (show b01 (!true) = 0 from rfl)]
  by_cases c1 : x2 < 0
  · rw [if_pos c1, if_pos c1]; exact sm_same h _
  rw [if_neg c1, if_neg c1]
  by_cases c2 : x2 ≤ 2
  · rw [if_pos c2, if_pos c2]
    have hs8 : s < 8 := by omega
    obtain ⟨f, hf, rfl⟩ := nI_of2 (x := x2) (M := 2) (n := 2) rfl c1 c2
    have A := hR.2.2.2.2 s hs8
    have B := hm.2.2.2.2.2 s hs8
    rw [hm_gd_t (nI_ix hs8 (by decide)), hm_gd_t (nI_ix hs8 (by decide)), nI_clamp (show s < 2 ^ 31 by omega)]
    simp only [hm_st, mo_st, ev_changed, ev_forget, hm_bV, hm_bI]
    refine ⟨_, _, _, rfl, rfl, sm_forget (P := pl_set P s (pl_cs P s, pl_fn P s, f, pl_tp P s)) (m := (hm_up m.1 4 s (nI f), m.2)) hrl (pl_set_wf hw hs ⟨(hw.2.2.2.2.1 s).1, hf, (hw.2.2.2.2.1 s).2.2.1, (hw.2.2.2.2.1 s).2.2.2⟩) (sc_R_set hR ?_ ?_) (fun j hj => by rw [hm_rd_ne (by omega)]; exact hK j hj) (mo_R_set hw hm ?_ ?_ ?_ ?_)⟩
    · intro i _ hi
      rw [hm_up_ne (by omega)]
    · refine ⟨?_, ?_, hm_rd_eq, ?_, fun k t hk => ?_⟩
      · rw [hm_rd_ne (by omega)]; exact A.1
      · rw [hm_rd_ne (by omega)]; exact A.2.1
      · rw [hm_rd_ne (by omega)]; exact A.2.2.2.1
      · rw [hm_rd_ne (by omega), hm_rd_ne (by omega), hm_rd_ne (by omega)]
        exact A.2.2.2.2 k t hk
    · intro i hi
      dsimp only
      rw [hm_up_ne (by omega)]
    · intro i k h2 h5 hk
      dsimp only
      rw [hm_rd_ne (by omega)]
    · intro i k h5 h7 hk
      dsimp only
      rw [hm_rd_ne (by omega)]
    · dsimp only
      refine ⟨?_, ?_, hm_rd_eq, ?_, fun k t hk => ?_⟩
      · rw [hm_rd_ne (by omega)]; exact B.1
      · rw [hm_rd_ne (by omega)]; exact B.2.1
      · rw [hm_rd_ne (by omega)]; exact B.2.2.2.1
      · rw [hm_rd_ne (by omega), hm_rd_ne (by omega), hm_rd_ne (by omega)]
        exact B.2.2.2.2 k t hk
  · rw [if_neg c2, if_neg c2]; exact sm_same h _
theorem nI_of1 {x : Int32} (h1 : ¬ x < 1) (h2 : x ≤ 32) : ∃ n, 1 ≤ n ∧ n ≤ 32 ∧ x = nI n := by
  have g1 : ¬ x.toInt < 1 := fun z => h1 (Int32.lt_iff_toInt_lt.mpr z)
  have g2 : x.toInt ≤ 32 := Int32.le_iff_toInt_le.mp h2
  refine ⟨x.toInt.toNat, by omega, by omega, ?_⟩
  rw [iI_nat]
  have : ((x.toInt.toNat : Nat) : Int) = x.toInt := by omega
  rw [this]
  exact iI_of x
theorem op_tile {rl : Nat} {M : hm_M} {m : mo_M} (h : sm_I rl M m) (x1 : Int32) : sm_op rl (f_SC_tile M x1) (f_Mo_tile m x1) := by
  obtain ⟨P, cp, rn, hrl, ⟨hw, hR, hK, h03, h04, hcp, hrn⟩, ⟨hm, g13, g14, grn⟩⟩ := id h
  unfold f_SC_tile f_SC_tile_11 f_Mo_tile f_Mo_tile_11
  by_cases c1 : x1 < 1
  · rw [if_pos c1, if_pos c1]; exact sm_same h _
  rw [if_neg c1, if_neg c1]
  by_cases c2 : x1 ≤ 32
  · rw [if_pos c2, if_pos c2]
    obtain ⟨n, hn1, hn2, rfl⟩ := nI_of1 c1 c2
    simp only [hm_st, mo_st, ev_changed, ev_forget, hm_bV, hm_bI]
    obtain ⟨w1, w2, w3, w4, w5, w6⟩ := hw
    refine ⟨_, _, _, rfl, rfl, sm_forget (P := (P.1, P.2.1, P.2.2.1, P.2.2.2.1, n, P.2.2.2.2.2)) (m := (hm_up m.1 0 10 (nI n), m.2)) hrl ⟨w1, w2, ⟨hn1, hn2⟩, w4, w5, w6⟩ ?_ (fun j hj => by rw [hm_rd_ne (by omega)]; exact hK j hj) ?_⟩
    · obtain ⟨a1, a2, a3, a4, a5⟩ := hR
      refine ⟨by rw [hm_rd_ne (by omega)]; exact a1, hm_rd_eq, ?_, ?_, ?_⟩
      · rw [hm_rd_ne (by omega), hm_rd_ne (by omega)]; exact a3
      · rw [hm_up_ne (by omega)]; exact a4
      · intro s hs
        rw [hm_up_ne (by omega), hm_up_ne (by omega), hm_up_ne (by omega), hm_up_ne (by omega)]
        exact a5 s hs
    · obtain ⟨a0, a1, a2, a3, a4, a5⟩ := hm
      dsimp only
      refine ⟨by rw [hm_rd_ne (by omega)]; exact a0, by rw [hm_rd_ne (by omega)]; exact a1, hm_rd_eq, ?_, ?_, ?_⟩
      · rw [hm_rd_ne (by omega), hm_rd_ne (by omega)]; exact a3
      · rw [hm_up_ne (by omega)]; exact a4
      · rw [hm_up_ne (by omega), hm_up_ne (by omega), hm_up_ne (by omega), hm_up_ne (by omega), hm_up_ne (by omega), hm_up_ne (by omega), hm_up_ne (by omega)]
        exact a5
  · rw [if_neg c2, if_neg c2]; exact sm_same h _
theorem op_output {rl : Nat} {M : hm_M} {m : mo_M} (h : sm_I rl M m) (x1 x2 : Int32) : sm_op rl (f_SC_output M x1 x2) (f_Mo_output m x1 x2) := by
  obtain ⟨P, cp, rn, hrl, ⟨hw, hR, hK, h03, h04, hcp, hrn⟩, ⟨hm, g13, g14, grn⟩⟩ := id h
  unfold f_SC_output f_SC_output_22 f_Mo_output f_Mo_output_19
  rw [ev_has hw hR, ev_no hw hm]
  dsimp only [hm_bI]
  rcases pl_has_cases hw x1 with ⟨e, _⟩ | ⟨e, s, hs, rfl⟩
  · rw [e, if_pos (show b01 false = 0 from rfl), if_neg (show ¬ b01 (!false) = 0 by decide)]
    exact sm_same h _
  rw [e, if_neg (show ¬ b01 true = 0 by decide), if_pos (show b01 (!true) = 0 from rfl)]
  by_cases c1 : x2 < 1
  · rw [if_pos c1, if_pos c1]; exact sm_same h _
  rw [if_neg c1, if_neg c1]
  by_cases c2 : x2 ≤ 32
  · rw [if_pos c2, if_pos c2]
    obtain ⟨n, hn1, hn2, rfl⟩ := nI_of1 c1 c2
    simp only [hm_st, mo_st, ev_changed, ev_forget, hm_bV, hm_bI]
    obtain ⟨w1, w2, w3, w4, w5, w6⟩ := hw
    refine ⟨_, _, _, rfl, rfl, sm_forget (P := (P.1, P.2.1, P.2.2.1, P.2.2.2.1, P.2.2.2.2.1, some (s, n))) (m := (hm_up (hm_up m.1 0 11 (nI s)) 0 12 (nI n), m.2)) hrl ⟨w1, w2, w3, ?_, w5, w6⟩ ?_ (fun j hj => by rw [hm_rd_ne (by omega), hm_rd_ne (by omega)]; exact hK j hj) ?_⟩
    · intro o w ho
      cases ho
      exact ⟨hs, hn1, hn2⟩
    · obtain ⟨a1, a2, a3, a4, a5⟩ := hR
      refine ⟨by rw [hm_rd_ne (by omega), hm_rd_ne (by omega)]; exact a1, by rw [hm_rd_ne (by omega), hm_rd_ne (by omega)]; exact a2, ?_, ?_, ?_⟩
      · exact ⟨by rw [hm_rd_ne (by omega), hm_rd_eq], hm_rd_eq⟩
      · rw [hm_up_ne (by omega), hm_up_ne (by omega)]; exact a4
      · intro s hs
        rw [hm_up_ne (by omega), hm_up_ne (by omega), hm_up_ne (by omega), hm_up_ne (by omega), hm_up_ne (by omega), hm_up_ne (by omega), hm_up_ne (by omega), hm_up_ne (by omega)]
        exact a5 s hs
    · obtain ⟨a0, a1, a2, a3, a4, a5⟩ := hm
      dsimp only
      refine ⟨by rw [hm_rd_ne (by omega), hm_rd_ne (by omega)]; exact a0, by rw [hm_rd_ne (by omega), hm_rd_ne (by omega)]; exact a1, by rw [hm_rd_ne (by omega), hm_rd_ne (by omega)]; exact a2, ?_, ?_, ?_⟩
      · exact ⟨by rw [hm_rd_ne (by omega), hm_rd_eq], hm_rd_eq⟩
      · rw [hm_up_ne (by omega), hm_up_ne (by omega)]; exact a4
      · intro s hs
        have e : ∀ i, i ≠ 0 → hm_up (hm_up m.1 0 11 (nI s)) 0 12 (nI n) i = m.1 i := fun i hi => by rw [hm_up_ne hi, hm_up_ne hi]
        rw [hm_up_ne (by omega), hm_up_ne (by omega), hm_up_ne (by omega), hm_up_ne (by omega), hm_up_ne (by omega), hm_up_ne (by omega), hm_up_ne (by omega), hm_up_ne (by omega), hm_up_ne (by omega), hm_up_ne (by omega), hm_up_ne (by omega), hm_up_ne (by omega), hm_up_ne (by omega), hm_up_ne (by omega)]
        exact a5 s hs
  · rw [if_neg c2, if_neg c2]; exact sm_same h _
