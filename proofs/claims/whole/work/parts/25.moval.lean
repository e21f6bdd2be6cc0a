/-! THE REFERENCE'S VALUES -/
theorem ev_mfinished {P : pl_X} (hw : pl_wf P) {M : mo_M} (hR : mo_R M.1 P) {s : Nat} (hs : s < 8) (v : Int32) : f_Mo_finished M (nI s) v = some (pl_fin (pl_fn P s) v, M) := by
  have h1 := (hR.2.2.2.2.2 s hs).2.1
  have h3 := (hw.2.2.2.2.1 s).1
  have hg : hm_ix (nI s) 8 = true := nI_ix hs (by decide)
  have hc : (nI s).toNatClampNeg = s := nI_clamp (by omega)
  have e31 : (1 : Int32) &&& 31 = 1 := by decide
  unfold f_Mo_finished f_Mo_finished_19 f_Mo_finished_53 f_Mo_finished_54
  simp only [hg, hm_gd, hc, h1, e31]
  unfold pl_fin
  rcases (show pl_fn P s = 0 ∨ pl_fn P s = 1 ∨ pl_fn P s = 2 ∨ pl_fn P s = 3 by omega) with e | e | e | e
  · rw [e]
    rw [if_neg (by decide), if_neg (by decide), if_neg (by decide), if_neg (by decide), if_neg (by decide), if_neg (by decide)]
  · rw [e]
    rw [if_pos (by decide), if_pos rfl]
    by_cases h0 : v ≤ 0
    · rw [if_pos h0]
      by_cases h2 : v < 0
      · rw [if_pos h2]
      · rw [if_neg h2]
        have : v = 0 := by
          have a1 := Int32.le_iff_toInt_le.mp h0
          have a2 : ¬ v.toInt < (0 : Int32).toInt := fun q => h2 (Int32.lt_iff_toInt_lt.mpr q)
          exact Int32.toInt_inj.mp (by omega)
        rw [this]
    · rw [if_neg h0, if_neg (fun q => h0 (by
        have a1 := Int32.lt_iff_toInt_lt.mp q
        exact Int32.le_iff_toInt_le.mpr (by omega)))]
  · rw [e]
    rw [if_neg (by decide), if_pos (by decide), if_neg (by decide), if_pos rfl]
  · rw [e]
    rw [if_neg (by decide), if_neg (by decide), if_pos (by decide)]
    by_cases h0 : 0 ≤ v
    · rw [if_pos h0, if_pos h0]; rfl
    · rw [if_neg h0, if_neg h0]; rfl
theorem ev_given {P : pl_X} (hw : pl_wf P) {M : mo_M} (hR : mo_R M.1 P) {x : Int} (hx : -2000000 ≤ x ∧ x ≤ 2000000) : f_Mo_given M (iI x) = some (pl_in P x, M) := by
  obtain ⟨h1, h2⟩ := hw.1
  have key : ∀ z : Int, z = max 0 (min ((pl_rl P : Int) - 1) x) → f_Mo_given_30 (iI z) M = some (pl_in P x, M) := by
    intro z hz
    unfold f_Mo_given_30
    rw [hm_gd_t (iI_ix (by omega) (by omega) (by omega)), iI_clamp (by omega) (by omega), hR.2.2.2.2.1 _ (by omega)]
    unfold pl_in
    rw [hz]
  unfold f_Mo_given
  rw [hR.1]
  by_cases c1 : 0 ≤ x
  · rw [if_pos (show 0 ≤ iI x by rw [lit_0]; exact (iI_le (by omega) (by omega) (by omega) (by omega)).mpr c1)]
    by_cases c2 : x < pl_rl P
    · rw [if_pos (show iI x < nI (pl_rl P) by rw [iI_nat]; exact (iI_lt (by omega) (by omega) (by omega) (by omega)).mpr c2)]
      exact key x (by omega)
    · rw [if_neg (show ¬ iI x < nI (pl_rl P) from fun q => c2 ((iI_lt (by omega) (by omega) (by omega) (by omega)).mp (by rw [iI_nat] at q; exact q)))]
      have e0 : nI (pl_rl P) - 1 = iI ((pl_rl P : Int) - 1) := by rw [iI_nat, lit_1, iI_sub]
      rw [e0]
      exact key _ (by omega)
  · rw [if_neg (show ¬ 0 ≤ iI x from fun q => c1 ((iI_le (by omega) (by omega) (by omega) (by omega)).mp (by rw [lit_0] at q; exact q)))]
    exact key 0 (by omega)
def mo_o10 (M M' : mo_M) : Prop := M'.2 = M.2 ∧ ∀ i, i ≠ 10 → M'.1 i = M.1 i
theorem mo_o10_refl (M : mo_M) : mo_o10 M M := ⟨rfl, fun _ _ => rfl⟩
theorem mo_o10_trans {M M' M'' : mo_M} (h : mo_o10 M M') (h' : mo_o10 M' M'') : mo_o10 M M'' := ⟨h'.1.trans h.1, fun i h1 => (h'.2 i h1).trans (h.2 i h1)⟩
theorem mo_R_o10 {M M' : mo_M} {P : pl_X} (h : mo_R M.1 P) (e : mo_o10 M M') : mo_R M'.1 P := mo_R_keep h (fun i hi => e.2 i (by omega))
/-- the table of values: all of the stages before k, and of stage k those before d -/
def mo_VD (m : hm_M) (P : pl_X) (s : Nat) (x : Int) (k : Nat) (d : Int) : Prop := (∀ j : Nat, j < k → ∀ e : Int, -(4 * ((s : Int) - j)) ≤ e → e ≤ 4 * ((s : Int) - j) → m 10 (61 * (j : Int) + 30 + e).toNat = pl_val P j (x + e)) ∧ ∀ e : Int, -(4 * ((s : Int) - k)) ≤ e → e < d → m 10 (61 * (k : Int) + 30 + e).toNat = pl_val P k (x + e)
theorem ev_value39 {P : pl_X} (hw : pl_wf P) {s k : Nat} (hs8 : s < 8) (hks : k ≤ s) {x d : Int} (hx : -1000 ≤ x ∧ x ≤ 1000) (hd : -(4 * ((s : Int) - k)) ≤ d ∧ d ≤ 4 * ((s : Int) - k)) {x4 : Int32} {k2 : Int32 → Int32 → Int32 → mo_M → Option (Int32 × mo_M)} {k19 : Int32 → Int32 → Int32 → Int32 → Int32 → mo_M → Option (Int32 × mo_M)} {M : mo_M} (hR : mo_R M.1 P) (hV : mo_VD M.1 P s x k d) :
    ∀ (n i : Nat) (acc : Int32), i ≤ (pl_tp P k).length → (pl_tp P k).length - i < n →
      f_Mo_valueAt_39 k2 k19 n (nI s) (iI x) (nI k) x4 (iI d) acc (nI (4 * k + i)) M = k19 (nI s) (iI x) (nI k) x4 (iI (d + 1)) (hm_up M.1 10 (61 * (k : Int) + 30 + d).toNat (pl_fin (pl_fn P k) (pl_sum (pl_sv P) (x + d) ((pl_tp P k).drop i) acc)), M.2) := by
  obtain ⟨-, -, hlen, htap⟩ := hw.2.2.2.2.1 k
  obtain ⟨-, -, -, e3, eT⟩ := hR.2.2.2.2.2 k (by omega)
  have hgk : hm_ix (nI k) 8 = true := nI_ix (by omega) (by decide)
  have hck : (nI k).toNatClampNeg = k := nI_clamp (by omega)
  have el : nI k * 4 + nI (pl_tp P k).length = nI (4 * k + (pl_tp P k).length) := by rw [nI_m4, nI_add]
  have ei : nI k * 61 + 30 + iI d = iI (61 * (k : Int) + 30 + d) := by
    rw [iI_nat, show (61 : Int32) = iI 61 from rfl, iI_mul, show (30 : Int32) = iI 30 from rfl, iI_add, iI_add]
    congr 1
    omega
  have ed : iI d + 1 = iI (d + 1) := by rw [lit_1, iI_add]
  intro n
  induction n with
  | zero => intro i acc _ h; omega
  | succ n ih =>
    intro i acc hi hn
    rw [f_Mo_valueAt_39]
    simp only [hgk, hm_gd, hck, e3, el]
    by_cases hil : i = (pl_tp P k).length
    · subst hil
      rw [if_pos ((nI_lei (by omega) (by omega)).mpr (Nat.le_refl _)), ev_mfinished hw hR (by omega), List.drop_length]
      simp only [hm_bI, ei, iI_ix (z := 61 * (k : Int) + 30 + d) (n := 488) (by omega) (by omega) (by omega), iI_clamp (z := 61 * (k : Int) + 30 + d) (by omega) (by omega), mo_st, ed]
      rfl
    · have hi2 : i < (pl_tp P k).length := by omega
      rw [if_neg (fun q => hil (by have := (nI_lei (by omega) (by omega)).mp q; omega))]
      have hgi : hm_ix (nI (4 * k + i)) 32 = true := nI_ix (by omega) (by decide)
      have hci : (nI (4 * k + i)).toNatClampNeg = 4 * k + i := nI_clamp (by omega)
      obtain ⟨t1, t2, t3⟩ := eT i (pl_tp P k)[i] (List.getElem?_eq_getElem hi2)
      obtain ⟨o1, o2, o3⟩ := htap (pl_tp P k)[i] (List.getElem_mem hi2)
      rw [pl_drop hi2]
      simp only [hgi, hci, t1, t2, t3, iI_add, f_Mo_valueAt_117, nI_s]
      unfold pl_sum
      cases hq : (pl_tp P k)[i].1 with
      | none =>
        rw [if_neg (show ¬ 0 ≤ pl_src none by decide), ev_given hw hR (by omega)]
        simp only [hm_bI]
        have e5 : x + (d + (pl_tp P k)[i].2.1) = x + d + (pl_tp P k)[i].2.1 := by omega
        rw [e5]
        exact ih (i + 1) _ (by omega) (by omega)
      | some q =>
        have hqs := o1 q hq
        rw [if_pos (show 0 ≤ pl_src (some q) from nI_pos' (show q < 2 ^ 31 by omega)), show pl_src (some q) = nI q from rfl]
        have ei2 : nI q * 61 + 30 + iI (d + (pl_tp P k)[i].2.1) = iI (61 * (q : Int) + 30 + (d + (pl_tp P k)[i].2.1)) := by
          rw [iI_nat, show (61 : Int32) = iI 61 from rfl, iI_mul, show (30 : Int32) = iI 30 from rfl, iI_add, iI_add]
          congr 1
          omega
        simp only [ei2, iI_ix (z := 61 * (q : Int) + 30 + (d + (pl_tp P k)[i].2.1)) (n := 488) (by omega) (by omega) (by omega)]
        rw [iI_clamp (by omega) (by omega), hV.1 q hqs _ (by omega) (by omega), pl_sv_some hw]
        have e5 : x + (d + (pl_tp P k)[i].2.1) = x + d + (pl_tp P k)[i].2.1 := by omega
        rw [e5]
        exact ih (i + 1) _ (by omega) (by omega)
theorem ev_value19 {P : pl_X} (hw : pl_wf P) {s k : Nat} (hs8 : s < 8) (hks : k ≤ s) {x : Int} (hx : -1000 ≤ x ∧ x ≤ 1000) {k2 : Int32 → Int32 → Int32 → mo_M → Option (Int32 × mo_M)} :
    ∀ (n : Nat) (d : Int) (M : mo_M), -(4 * ((s : Int) - k)) ≤ d → d ≤ 4 * ((s : Int) - k) + 1 → (4 * ((s : Int) - k) + 1 - d).toNat < n → mo_R M.1 P → mo_VD M.1 P s x k d →
      ∃ M', f_Mo_valueAt_19 k2 n (nI s) (iI x) (nI k) (iI (4 * ((s : Int) - k))) (iI d) M = k2 (nI s) (iI x) (nI (k + 1)) M' ∧ mo_o10 M M' ∧ mo_VD M'.1 P s x (k + 1) (-(4 * ((s : Int) - (k + 1 : Nat)))) := by
  have h4 := (hw.2.2.2.2.1 k).2.2.1
  intro n
  induction n with
  | zero => intro d M _ _ h; omega
  | succ n ih =>
    intro d M hd1 hd2 hn hR hV
    rw [f_Mo_valueAt_19]
    have kk : iI (4 * ((s : Int) - k)) < iI d ↔ 4 * ((s : Int) - k) < d := iI_lt (by omega) (by omega) (by omega) (by omega)
    by_cases hdd : 4 * ((s : Int) - k) < d
    · rw [if_pos (kk.mpr hdd), nI_s]
      refine ⟨M, rfl, mo_o10_refl M, fun j hj e he1 he2 => ?_, fun e he1 he2 => by omega⟩
      by_cases hjk : j = k
      · subst hjk
        exact hV.2 e he1 (by omega)
      · exact hV.1 j (by omega) e he1 he2
    · rw [if_neg (fun q => hdd (kk.mp q))]
      have hgk : hm_ix (nI k) 8 = true := nI_ix (by omega) (by decide)
      have hck : (nI k).toNatClampNeg = k := nI_clamp (by omega)
      rw [hm_gd_t hgk, hck, nI_m4, (hR.2.2.2.2.2 k (by omega)).1]
      have e1 := ev_value39 hw hs8 hks hx ⟨hd1, by omega⟩ (x4 := iI (4 * ((s : Int) - k))) (k2 := k2) (k19 := fun x1 x2 x3 x4 x5 M => f_Mo_valueAt_19 k2 n x1 x2 x3 x4 x5 M) hR hV 1000 0 (pl_cs P k) (by omega) (by omega)
      rw [Nat.add_zero, List.drop_zero] at e1
      rw [e1]
      have out0 : mo_o10 M (hm_up M.1 10 (61 * (k : Int) + 30 + d).toNat (pl_fin (pl_fn P k) (pl_sum (pl_sv P) (x + d) (pl_tp P k) (pl_cs P k))), M.2) := ⟨rfl, fun i hi => hm_up_ne hi⟩
      obtain ⟨M2, e2, out2, V2⟩ := ih (d + 1) (hm_up M.1 10 (61 * (k : Int) + 30 + d).toNat (pl_fin (pl_fn P k) (pl_sum (pl_sv P) (x + d) (pl_tp P k) (pl_cs P k))), M.2) (by omega) (by omega) (by omega) (mo_R_o10 hR out0) (by
        refine ⟨fun j hj e he1 he2 => ?_, fun e he1 he2 => ?_⟩
        · dsimp only
          rw [hm_rd_ne (by omega)]
          exact hV.1 j hj e he1 he2
        · dsimp only
          by_cases hed : e = d
          · subst hed
            exact hm_rd_eq
          · rw [hm_rd_ne (by omega)]
            exact hV.2 e he1 (by omega))
      exact ⟨M2, e2, mo_o10_trans out0 out2, V2⟩
theorem ev_value2 {P : pl_X} (hw : pl_wf P) {s : Nat} (hs8 : s < 8) {x : Int} (hx : -1000 ≤ x ∧ x ≤ 1000) :
    ∀ (n k : Nat) (M : mo_M), k ≤ s + 1 → s + 1 - k < n → mo_R M.1 P → mo_VD M.1 P s x k (-(4 * ((s : Int) - k))) →
      ∃ M', f_Mo_valueAt_2 n (nI s) (iI x) (nI k) M = some (pl_val P s x, M') ∧ mo_o10 M M' := by
  intro n
  induction n with
  | zero => intro k M _ h; omega
  | succ n ih =>
    intro k M hk hn hR hV
    rw [f_Mo_valueAt_2]
    by_cases hks : k = s + 1
    · subst hks
      rw [if_pos ((nI_lti (by omega) (by omega)).mpr (by omega))]
      have ei : nI s * 61 + 30 = iI (61 * (s : Int) + 30 + 0) := by
        rw [iI_nat, show (61 : Int32) = iI 61 from rfl, iI_mul, show (30 : Int32) = iI 30 from rfl, iI_add]
        congr 1
        omega
      simp only [ei, iI_ix (z := 61 * (s : Int) + 30 + 0) (n := 488) (by omega) (by omega) (by omega), hm_gd]
      rw [iI_clamp (by omega) (by omega), hV.1 s (by omega) 0 (by omega) (by omega), Int.add_zero]
      exact ⟨M, rfl, mo_o10_refl M⟩
    · rw [if_neg (fun q => by have := (nI_lti (by omega) (by omega)).mp q; omega)]
      have e1 : 4 * (nI s - nI k) = iI (4 * ((s : Int) - k)) := by
        rw [iI_nat, iI_nat, iI_sub, show (4 : Int32) = iI 4 from rfl, iI_mul]
      rw [e1, iI_neg]
      obtain ⟨M1, e2, out1, V1⟩ := ev_value19 hw hs8 (show k ≤ s by omega) hx (k2 := fun x1 x2 x3 M => f_Mo_valueAt_2 n x1 x2 x3 M) 1000 (-(4 * ((s : Int) - k))) M (by omega) (by omega) (by omega) hR hV
      rw [e2]
      obtain ⟨M2, e3, out2⟩ := ih (k + 1) M1 (by omega) (by omega) (mo_R_o10 hR out1) V1
      exact ⟨M2, e3, mo_o10_trans out1 out2⟩
theorem ev_valueAt {P : pl_X} (hw : pl_wf P) {s : Nat} (hs8 : s < 8) {x : Int} (hx : -1000 ≤ x ∧ x ≤ 1000) {M : mo_M} (hR : mo_R M.1 P) : ∃ M', f_Mo_valueAt M (nI s) (iI x) = some (pl_val P s x, M') ∧ mo_o10 M M' :=
  ev_value2 hw hs8 hx 1000 0 M (by omega) (by omega) hR ⟨fun j hj => by omega, fun e h1 h2 => by omega⟩
