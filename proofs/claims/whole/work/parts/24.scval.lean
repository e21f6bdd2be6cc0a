/-! THE CLASS'S VALUES -/
theorem i32_xor2 (v : Int32) : 0 ≤ v ^^^ 2 ↔ 0 ≤ v := by
  have key : ∀ x : Int32, 0 ≤ x ↔ x.toBitVec.msb = false := by
    intro x
    rw [Int32.le_iff_toInt_le, BitVec.msb_eq_toInt]
    have : x.toBitVec.toInt = x.toInt := rfl
    rw [this]
    simp
  rw [key, key, Int32.toBitVec_xor, BitVec.msb_xor]
  have : (2 : Int32).toBitVec.msb = false := by decide
  rw [this]
  simp
theorem i32_half (v : Int32) : (v >>> (1 : Int32)).toInt = v.toInt / 2 := by
  rw [pk_shr v 1 1 (by decide), Int.shiftRight_eq_div_pow]
  rfl
theorem i32_div2 (v : Int32) : (v / 2).toInt = v.toInt.tdiv 2 := by
  rw [Int32.toInt_div_of_ne_right _ _ (by decide)]
  rfl
theorem ev_fdiv (M : hm_M) (v : Int32) : f_Math_floorDiv M v 2 = some (v >>> (1 : Int32), M) := by
  have h1 := i32_half v
  have h2 := i32_div2 v
  have hb1 : -2147483648 ≤ v.toInt := Int32.le_toInt v
  have hb2 : v.toInt < 2147483648 := Int32.toInt_lt v
  have e2 : (2 : Int32) = iI 2 := rfl
  have ed : v / 2 = iI (v.toInt.tdiv 2) := by rw [iI_of (v / 2), h2]
  have es : v >>> (1 : Int32) = iI (v.toInt / 2) := by rw [iI_of (v >>> (1 : Int32)), h1]
  unfold f_Math_floorDiv f_Math_floorDiv_21
  have hg : decide (¬ (2 : Int32) = 0) = true := by decide
  rw [hm_gd_t hg]
  by_cases h0 : 0 ≤ v
  · rw [if_pos ((i32_xor2 v).mpr h0), ed, es]
    have h0' : 0 ≤ v.toInt := by
      have := Int32.le_iff_toInt_le.mp h0
      exact this
    rw [Int.tdiv_eq_ediv_of_nonneg h0']
  · rw [if_neg (fun q => h0 ((i32_xor2 v).mp q))]
    have h0' : v.toInt < 0 := by
      rcases Int.lt_or_le v.toInt 0 with q | q
      · exact q
      · exact absurd (Int32.le_iff_toInt_le.mpr (show (0 : Int32).toInt ≤ v.toInt from q)) h0
    have hv : v = iI v.toInt := iI_of v
    have ht : v.toInt.tdiv 2 = -((-v.toInt) / 2) := by
      have := Int.tdiv_eq_ediv_of_nonneg (a := -v.toInt) (b := 2) (by omega)
      rw [Int.neg_tdiv] at this
      omega
    have hm : v / 2 * 2 = iI (v.toInt.tdiv 2 * 2) := by rw [ed, e2, iI_mul]
    have hiff : v / 2 * 2 = v ↔ v.toInt.tdiv 2 * 2 = v.toInt := by
      rw [hm]
      constructor
      · intro q
        rw [hv] at q
        rw [iI_toInt hb1 hb2] at q
        exact (iI_eq (by omega) (by omega) (by omega) (by omega)).mp q
      · intro q
        rw [q, ← hv]
    by_cases h3 : v.toInt.tdiv 2 * 2 = v.toInt
    · rw [if_pos (hiff.mpr h3), ed, es]
      congr 3
      omega
    · rw [if_neg (fun q => h3 (hiff.mp q)), ed, es, lit_1, iI_sub]
      congr 3
      omega
theorem ev_finished {P : pl_X} (hw : pl_wf P) {M : hm_M} (hR : sc_R M P) {s : Nat} (hs : s < 8) (v : Int32) : f_Stage_finished M (5 + 4 * s) v = some (pl_fin (pl_fn P s) v, M) := by
  have h1 := (hR.2.2.2.2 s hs).2.1
  have h3 := (hw.2.2.2.2.1 s).1
  unfold f_Stage_finished f_Stage_finished_54
  rw [h1, ev_fdiv]
  unfold pl_fin
  rcases (show pl_fn P s = 0 ∨ pl_fn P s = 1 ∨ pl_fn P s = 2 ∨ pl_fn P s = 3 by omega) with e | e | e | e
  · rw [e]
    rw [if_neg (by decide), if_neg (by decide), if_neg (by decide), if_neg (by decide), if_neg (by decide), if_neg (by decide)]
  · rw [e]
    rw [if_pos (by decide), if_pos rfl]
  · rw [e]
    rw [if_neg (by decide), if_pos (by decide), if_neg (by decide), if_pos rfl]
    rfl
  · rw [e]
    rw [if_neg (by decide), if_neg (by decide), if_pos (by decide)]
    by_cases h0 : 0 ≤ v
    · rw [if_pos h0, if_pos h0]; rfl
    · rw [if_neg h0, if_neg h0]; rfl
/-- what is kept: ranges of places with their values -/
def sc_KR (M : hm_M) (P : pl_X) (K : pl_N) : Prop := ∀ q, q < 8 → match K q with
  | none => M 53 q = 0
  | some r => M 53 q = 1 ∧ -28 ≤ r.1 ∧ r.2 ≤ 59 ∧ ∀ y, r.1 ≤ y → y ≤ r.2 → M (55 + q) (y + 28).toNat = pl_val P q y
/-- all that is asked for while stage s is worked out at x is kept there, or is worked out -/
def sc_dm (P : pl_X) (K : pl_N) : Nat → Nat → Int → Prop
  | 0, _, _ => False
  | n + 1, s, x => (-1000000 ≤ x ∧ x ≤ 1000000) ∧ ∀ t ∈ pl_tp P s, ∀ q, t.1 = some q → match K q with
    | some r => r.1 ≤ x + t.2.1 ∧ x + t.2.1 ≤ r.2
    | none => sc_dm P K n q (x + t.2.1)
theorem ev_workOut19 {P : pl_X} (hw : pl_wf P) {M : hm_M} (hR : sc_R M P) {s : Nat} (hs : s < 8) {x : Int} {rc : hm_M → Int32 → Int32 → Option (Int32 × hm_M)} (rl : Nat) (hsv : ∀ t ∈ pl_tp P s, f_Runner_sourceValue rl rc M (pl_src t.1) (iI (x + t.2.1)) = some (pl_sv P t.1 (x + t.2.1), M)) :
    ∀ (n k : Nat) (acc : Int32), k ≤ (pl_tp P s).length → (pl_tp P s).length - k < n → f_Runner_workOutB_19 rl rc n (iI x) (5 + 4 * s) acc (nI k) M = some (pl_fin (pl_fn P s) (pl_sum (pl_sv P) x ((pl_tp P s).drop k) acc), M) := by
  obtain ⟨-, -, hlen, htap⟩ := hw.2.2.2.2.1 s
  obtain ⟨-, -, -, e3, eT⟩ := hR.2.2.2.2 s hs
  intro n
  induction n with
  | zero => intro k acc _ h; omega
  | succ n ih =>
    intro k acc hk hn
    rw [f_Runner_workOutB_19, e3]
    by_cases hkl : k = (pl_tp P s).length
    · subst hkl
      rw [if_pos ((nI_lei (by omega) (by omega)).mpr (Nat.le_refl _)), List.drop_length, ev_finished hw hR hs]
      rfl
    · have hk2 : k < (pl_tp P s).length := by omega
      rw [if_neg (fun q => hkl (by have := (nI_lei (by omega) (by omega)).mp q; omega))]
      have hg : hm_ix (nI k) 4 = true := nI_ix (by omega) (by decide)
      have hc : (nI k).toNatClampNeg = k := nI_clamp (by omega)
      obtain ⟨t1, t2, t3⟩ := eT k (pl_tp P s)[k] (List.getElem?_eq_getElem hk2)
      rw [pl_drop hk2]
      simp only [hg, hm_gd, hc, t1, t2, t3, iI_add, nI_s, hsv _ (List.getElem_mem hk2), hm_bI]
      exact ih (k + 1) _ (by omega) (by omega)
theorem ev_input {P : pl_X} (hw : pl_wf P) {M : hm_M} (hR : sc_R M P) {x : Int} (hx : -2000000 ≤ x ∧ x ≤ 2000000) (rc : hm_M → Int32 → Int32 → Option (Int32 × hm_M)) : f_Runner_sourceValue (pl_rl P) rc M (pl_src none) (iI x) = some (pl_sv P none x, M) := by
  obtain ⟨h1, h2⟩ := hw.1
  unfold f_Runner_sourceValue
  rw [if_pos (show pl_src none = -1 from rfl)]
  have e0 : nI (pl_rl P) - 1 = iI ((pl_rl P : Int) - 1) := by rw [iI_nat, lit_1, iI_sub]
  have e1 : (if iI x < nI (pl_rl P) - 1 then iI x else nI (pl_rl P) - 1) = iI (min x ((pl_rl P : Int) - 1)) := by
    rw [e0]; exact iI_min (by omega) (by omega) (by omega) (by omega)
  rw [e1]
  have e2 : (if 0 < iI (min x ((pl_rl P : Int) - 1)) then iI (min x ((pl_rl P : Int) - 1)) else 0) = iI (max 0 (min x ((pl_rl P : Int) - 1))) := by
    rw [lit_0]; exact iI_max (by omega) (by omega) (by omega) (by omega)
  rw [e2, hm_gd_t (iI_ix (by omega) (by omega) (by omega)), iI_clamp (by omega) (by omega)]
  rw [hR.2.2.2.1 _ (by omega)]
  show some (_, M) = some (pl_in P x, M)
  unfold pl_in
  rw [Int.min_comm]
theorem ev_workOut {P : pl_X} (hw : pl_wf P) {M : hm_M} (hR : sc_R M P) {K : pl_N} (hK : sc_KR M P K) : ∀ (n s : Nat) (x : Int), s < 8 → sc_dm P K n s x → f_Runner_workOut (pl_rl P) n M (nI s) (iI x) = some (pl_val P s x, M) := by
  intro n
  induction n with
  | zero => intro s x _ h; exact h.elim
  | succ n ih =>
    intro s x hs hd
    obtain ⟨hx, hd⟩ := hd
    show f_Runner_workOutB (pl_rl P) (f_Runner_workOut (pl_rl P) n) M (nI s) (iI x) = _
    unfold f_Runner_workOutB
    have hg : hm_ix (nI s) 8 = true := nI_ix hs (by decide)
    have hc : (nI s).toNatClampNeg = s := nI_clamp (by omega)
    rw [hm_gd_t hg, hc, (hR.2.2.2.2 s hs).1]
    obtain ⟨-, -, hlen, htap⟩ := hw.2.2.2.2.1 s
    have hsv : ∀ t ∈ pl_tp P s, f_Runner_sourceValue (pl_rl P) (f_Runner_workOut (pl_rl P) n) M (pl_src t.1) (iI (x + t.2.1)) = some (pl_sv P t.1 (x + t.2.1), M) := by
      intro t ht
      obtain ⟨o1, o2, o3⟩ := htap t ht
      cases hq : t.1 with
      | none => exact ev_input hw hR (by omega) _
      | some q =>
        have hqs := o1 q hq
        have hdq := hd t ht q hq
        have hKq := hK q (by omega)
        have hgq : hm_ix (nI q) 8 = true := nI_ix (by omega) (by decide)
        have hcq : (nI q).toNatClampNeg = q := nI_clamp (by omega)
        rw [pl_sv_some hw]
        unfold f_Runner_sourceValue f_Runner_sourceValue_61
        rw [if_neg (show ¬ pl_src (some q) = -1 from nI_ne_m1 (show q < 1000 by omega)), show pl_src (some q) = nI q from rfl]
        simp only [hgq, hm_gd, hcq]
        cases hk : K q with
        | none =>
          rw [hk] at hdq hKq
          rw [if_pos hKq, ih q _ (by omega) hdq]
          rfl
        | some r =>
          rw [hk] at hdq hKq
          obtain ⟨k1, k2, k3, k4⟩ := hKq
          rw [if_neg (show ¬ M 53 q = 0 by rw [k1]; decide)]
          have e28 : iI (x + t.2.1) + 28 = iI (x + t.2.1 + 28) := by rw [show (28 : Int32) = iI 28 from rfl, iI_add]
          simp only [e28, iI_ix (z := x + t.2.1 + 28) (n := 88) (by omega) (by omega) (by omega)]
          rw [iI_clamp (by omega) (by omega), k4 _ hdq.1 hdq.2]
    have := ev_workOut19 hw hR hs (pl_rl P) hsv 1000 0 (pl_cs P s) (by omega) (by omega)
    rw [List.drop_zero] at this
    exact this
