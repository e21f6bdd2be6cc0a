/-! HOW MANY VALUES ARE WORKED OUT FOR ONE -/
def pl_cl (f : Nat → Nat) : List pl_Tap → Nat → Nat
  | [], acc => acc
  | t :: l, acc => pl_cl f l (acc + match t.1 with
    | none => 0
    | some q => f q)
def pl_cn (P : pl_X) : Nat → Nat → Nat
  | 0, _ => 0
  | n + 1, s => pl_cl (pl_cn P n) (pl_tp P s) 1
def pl_ct (P : pl_X) (s : Nat) : Nat := pl_cn P (s + 1) s
theorem pl_cl_congr {f g : Nat → Nat} : ∀ (l : List pl_Tap) (acc : Nat), (∀ t ∈ l, ∀ q, t.1 = some q → f q = g q) → pl_cl f l acc = pl_cl g l acc
  | [], acc, _ => rfl
  | t :: l, acc, h => by
    unfold pl_cl
    rw [pl_cl_congr l _ (fun t' ht => h t' (List.mem_cons_of_mem _ ht))]
    have h0 := h t List.mem_cons_self
    cases hq : t.1 with
    | none => rfl
    | some q => simp only [h0 q hq]
theorem pl_cn_any {P : pl_X} (hw : pl_wf P) (s : Nat) : ∀ (n m : Nat), s < n → s < m → pl_cn P n s = pl_cn P m s := by
  induction s using Nat.strongRecOn with
  | _ s ih =>
    intro n m hn hm
    cases n with
    | zero => omega
    | succ n =>
      cases m with
      | zero => omega
      | succ m =>
        unfold pl_cn
        refine pl_cl_congr _ _ (fun t ht q hq => ?_)
        have hqs : q < s := ((hw.2.2.2.2.1 s).2.2.2 t ht).1 q hq
        exact ih q hqs n m (by omega) (by omega)
theorem pl_ct_eq {P : pl_X} (hw : pl_wf P) (s : Nat) : pl_ct P s = pl_cl (pl_ct P) (pl_tp P s) 1 := by
  unfold pl_ct
  show pl_cl (pl_cn P s) (pl_tp P s) 1 = _
  refine pl_cl_congr _ _ (fun t ht q hq => ?_)
  have hqs : q < s := ((hw.2.2.2.2.1 s).2.2.2 t ht).1 q hq
  exact pl_cn_any hw q s (q + 1) hqs (by omega)
theorem pl_cl_le {f : Nat → Nat} {b : Nat} : ∀ (l : List pl_Tap) (acc : Nat), (∀ t ∈ l, ∀ q, t.1 = some q → f q ≤ b) → pl_cl f l acc ≤ acc + l.length * b
  | [], acc, _ => by simp [pl_cl]
  | t :: l, acc, h => by
    unfold pl_cl
    have h1 := pl_cl_le l (acc + match t.1 with
      | none => 0
      | some q => f q) (fun t' ht => h t' (List.mem_cons_of_mem _ ht))
    have h2 : (match t.1 with
      | none => 0
      | some q => f q) ≤ b := by
      cases hq : t.1 with
      | none => exact Nat.zero_le b
      | some q => exact h t List.mem_cons_self q hq
    rw [List.length_cons, Nat.succ_mul]
    omega
theorem pl_ct_le {P : pl_X} (hw : pl_wf P) (s : Nat) : pl_ct P s ≤ 5 ^ (s + 1) := by
  induction s using Nat.strongRecOn with
  | _ s ih =>
    rw [pl_ct_eq hw]
    have h4 := (hw.2.2.2.2.1 s).2.2.1
    have h1 := pl_cl_le (f := pl_ct P) (b := 5 ^ s) (pl_tp P s) 1 (fun t ht q hq => by
      have hqs : q < s := ((hw.2.2.2.2.1 s).2.2.2 t ht).1 q hq
      exact Nat.le_trans (ih q hqs) (Nat.pow_le_pow_right (by omega) (by omega)))
    have h2 : (pl_tp P s).length * 5 ^ s ≤ 4 * 5 ^ s := Nat.mul_le_mul_right _ h4
    have h3 : 1 ≤ 5 ^ s := Nat.pos_of_ne_zero (by simp)
    rw [Nat.pow_succ]
    omega
theorem pl_ct_lt {P : pl_X} (hw : pl_wf P) {s : Nat} (hs : s < 8) : pl_ct P s < 1000000 := by
  have h1 := pl_ct_le hw s
  have h2 : 5 ^ (s + 1) ≤ 5 ^ 8 := Nat.pow_le_pow_right (by omega) (by omega)
  have h3 : 5 ^ 8 = 390625 := by decide
  omega
def sc_o3 (M M' : hm_M) : Prop := ∀ i, i ≠ 3 → M' i = M i
theorem sc_R_o3 {M M' : hm_M} {P : pl_X} (h : sc_R M P) (e : sc_o3 M M') : sc_R M' P :=
  sc_R_keep h (fun i hi => e i (by rcases hi with rfl | rfl | ⟨_, _⟩ <;> omega))
theorem ev_vals20 {P : pl_X} (hw : pl_wf P) {s q : Nat} (hs8 : s < 8) (hqs : q ≤ s) {k2 : Int32 → Int32 → hm_M → Option (Int32 × hm_M)} {M : hm_M} (hR : sc_R M P) (hv : ∀ j, j < q → M 3 j = nI (pl_ct P j)) :
    ∀ (n k acc : Nat), k ≤ (pl_tp P q).length → (pl_tp P q).length - k < n → f_Pipe_valuesWorkedOutFor_20 k2 n (nI s) (nI q) (5 + 4 * q) (nI acc) (nI k) M = k2 (nI s) (nI (q + 1)) (hm_up M 3 q (nI (pl_cl (pl_ct P) ((pl_tp P q).drop k) acc))) := by
  obtain ⟨-, -, hlen, htap⟩ := hw.2.2.2.2.1 q
  obtain ⟨-, -, -, e3, eT⟩ := hR.2.2.2.2 q (by omega)
  have hgq : hm_ix (nI q) 8 = true := nI_ix (by omega) (by decide)
  have hcq : (nI q).toNatClampNeg = q := nI_clamp (by omega)
  intro n
  induction n with
  | zero => intro k acc _ h; omega
  | succ n ih =>
    intro k acc hk hn
    rw [f_Pipe_valuesWorkedOutFor_20, e3]
    by_cases hkl : k = (pl_tp P q).length
    · subst hkl
      rw [if_pos ((nI_lei (by omega) (by omega)).mpr (Nat.le_refl _)), List.drop_length, hm_gd_t hgq, hcq, nI_s]
      rfl
    · have hk2 : k < (pl_tp P q).length := by omega
      rw [if_neg (fun z => hkl (by have := (nI_lei (by omega) (by omega)).mp z; omega))]
      have hg : hm_ix (nI k) 4 = true := nI_ix (by omega) (by decide)
      have hc : (nI k).toNatClampNeg = k := nI_clamp (by omega)
      obtain ⟨t1, t2, t3⟩ := eT k (pl_tp P q)[k] (List.getElem?_eq_getElem hk2)
      obtain ⟨o1, o2, o3⟩ := htap (pl_tp P q)[k] (List.getElem_mem hk2)
      rw [pl_drop hk2]
      simp only [hg, hm_gd, hc, t1, f_Pipe_valuesWorkedOutFor_57, nI_s]
      unfold pl_cl
      cases hq : (pl_tp P q)[k].1 with
      | none =>
        rw [if_pos (show pl_src none = -1 from rfl), show (0 : Int32) = nI 0 from rfl, nI_add]
        exact ih (k + 1) _ (by omega) (by omega)
      | some p =>
        have hps := o1 p hq
        have hgp : hm_ix (nI p) 8 = true := nI_ix (by omega) (by decide)
        have hcp : (nI p).toNatClampNeg = p := nI_clamp (by omega)
        rw [if_neg (show ¬ pl_src (some p) = -1 from nI_ne_m1 (show p < 1000 by omega)), show pl_src (some p) = nI p from rfl]
        simp only [hgp, hcp, hv p hps, nI_add]
        exact ih (k + 1) _ (by omega) (by omega)
theorem ev_vals2 {P : pl_X} (hw : pl_wf P) {s : Nat} (hs8 : s < 8) :
    ∀ (n q : Nat) (M : hm_M), q ≤ s + 1 → s + 1 - q < n → sc_R M P → (∀ j, j < q → M 3 j = nI (pl_ct P j)) → ∃ M', f_Pipe_valuesWorkedOutFor_2 n (nI s) (nI q) M = some (nI (pl_ct P s), M') ∧ sc_o3 M M' := by
  intro n
  induction n with
  | zero => intro q M _ h; omega
  | succ n ih =>
    intro q M hq hn hR hv
    rw [f_Pipe_valuesWorkedOutFor_2]
    by_cases hqs : q = s + 1
    · subst hqs
      rw [if_pos ((nI_lti (by omega) (by omega)).mpr (by omega)), hm_gd_t (nI_ix hs8 (by decide)), nI_clamp (by omega), hv s (by omega)]
      exact ⟨M, rfl, fun _ _ => rfl⟩
    · rw [if_neg (fun z => by have := (nI_lti (by omega) (by omega)).mp z; omega), hm_gd_t (nI_ix (show q < 8 by omega) (by decide)), nI_clamp (show q < 2 ^ 31 by omega)]
      have h4 := (hw.2.2.2.2.1 q).2.2.1
      have e1 := ev_vals20 hw hs8 (show q ≤ s by omega) (k2 := fun x1 x2 M => f_Pipe_valuesWorkedOutFor_2 n x1 x2 M) hR hv 1000 0 1 (by omega) (by omega)
      rw [List.drop_zero, ← pl_ct_eq hw] at e1
      rw [show (1 : Int32) = nI 1 from rfl, show (0 : Int32) = nI 0 from rfl, e1]
      have out0 : sc_o3 M (hm_up M 3 q (nI (pl_ct P q))) := fun i hi => hm_up_ne hi
      obtain ⟨M2, e2, out2⟩ := ih (q + 1) _ (by omega) (by omega) (sc_R_o3 hR out0) (fun j hj => by
        by_cases hjq : j = q
        · subst hjq
          exact hm_rd_eq
        · rw [hm_rd_ne (fun z => hjq z.2)]
          exact hv j (by omega))
      exact ⟨M2, e2, fun i hi => (out2 i hi).trans (out0 i hi)⟩
theorem ev_vals {P : pl_X} (hw : pl_wf P) {s : Nat} (hs8 : s < 8) {M : hm_M} (hR : sc_R M P) : ∃ M', f_Pipe_valuesWorkedOutFor M (nI s) = some (nI (pl_ct P s), M') ∧ sc_o3 M M' :=
  ev_vals2 hw hs8 1000 0 M (by omega) (by omega) hR (fun j hj => by omega)
/-! the reference's: longs -/
def mo_ol (M M' : mo_M) : Prop := (∀ i, i ≠ 14 → M'.2 i = M.2 i) ∧ M'.1 = M.1
theorem ev_mat43 {P : pl_X} (hw : pl_wf P) {s q : Nat} (hs8 : s < 8) (hqs : q ≤ s) {x2 : Int32} {k26 : Int32 → Int32 → Int32 → mo_M → Option (Int64 × mo_M)} :
    ∀ (n k acc : Nat) (M : mo_M), k ≤ (pl_tp P q).length → (pl_tp P q).length - k < n → mo_R M.1 P → (∀ j, j < q → M.2 14 j = lN (pl_ct P j)) → M.2 14 q = lN acc →
      ∃ M', f_Mo_at_43 k26 n (nI s) x2 (nI q) (nI (4 * q + k)) M = k26 (nI s) x2 (nI (q + 1)) M' ∧ M'.1 = M.1 ∧ (∀ j, j ≠ q → M'.2 14 j = M.2 14 j) ∧ M'.2 14 q = lN (pl_cl (pl_ct P) ((pl_tp P q).drop k) acc) := by
  obtain ⟨-, -, hlen, htap⟩ := hw.2.2.2.2.1 q
  have hgq : hm_ix (nI q) 8 = true := nI_ix (by omega) (by decide)
  have hcq : (nI q).toNatClampNeg = q := nI_clamp (by omega)
  have el : nI q * 4 + nI (pl_tp P q).length = nI (4 * q + (pl_tp P q).length) := by rw [nI_m4, nI_add]
  intro n
  induction n with
  | zero => intro k acc M _ h; omega
  | succ n ih =>
    intro k acc M hk hn hR hv ha
    obtain ⟨-, -, -, e3, eT⟩ := hR.2.2.2.2.2 q (by omega)
    rw [f_Mo_at_43]
    simp only [hgq, hm_gd, hcq, e3, el]
    by_cases hkl : k = (pl_tp P q).length
    · subst hkl
      rw [if_pos ((nI_lei (by omega) (by omega)).mpr (Nat.le_refl _)), List.drop_length, nI_s]
      exact ⟨M, rfl, rfl, fun _ _ => rfl, ha⟩
    · have hk2 : k < (pl_tp P q).length := by omega
      rw [if_neg (fun z => hkl (by have := (nI_lei (by omega) (by omega)).mp z; omega))]
      have hg : hm_ix (nI (4 * q + k)) 32 = true := nI_ix (by omega) (by decide)
      have hc : (nI (4 * q + k)).toNatClampNeg = 4 * q + k := nI_clamp (by omega)
      obtain ⟨t1, t2, t3⟩ := eT k (pl_tp P q)[k] (List.getElem?_eq_getElem hk2)
      obtain ⟨o1, o2, o3⟩ := htap (pl_tp P q)[k] (List.getElem_mem hk2)
      rw [pl_drop hk2]
      simp only [hg, hc, t1, f_Mo_at_89, nI_s]
      unfold pl_cl
      cases hq : (pl_tp P q)[k].1 with
      | none =>
        rw [if_pos (show pl_src none < 0 by decide)]
        exact ih (k + 1) (acc + 0) M (by omega) (by omega) hR hv ha
      | some p =>
        have hps := o1 p hq
        have hgp : hm_ix (nI p) 8 = true := nI_ix (by omega) (by decide)
        have hcp : (nI p).toNatClampNeg = p := nI_clamp (by omega)
        rw [if_neg (show ¬ pl_src (some p) < 0 from nI_pos (show p < 2 ^ 31 by omega)), show pl_src (some p) = nI p from rfl]
        simp only [hgp, hcp, mo_sl, hv p hps, ha, lN_add]
        obtain ⟨M2, e2, u1, u2, u3⟩ := ih (k + 1) (acc + pl_ct P p) (M.1, hm_lup M.2 14 q (lN (acc + pl_ct P p))) (by omega) (by omega) hR (fun j hj => by
          dsimp only
          rw [hm_rdl, if_neg (by omega)]
          exact hv j hj) (by dsimp only; rw [hm_rdl, if_pos ⟨rfl, rfl⟩])
        refine ⟨M2, e2, u1, fun j hj => ?_, u3⟩
        rw [u2 j hj]
        dsimp only
        rw [hm_rdl, if_neg (by omega)]
theorem ev_mat26 {P : pl_X} (hw : pl_wf P) {s : Nat} (hs8 : s < 8) {x : Int} (hx : -1000 ≤ x ∧ x ≤ 1000) :
    ∀ (n q : Nat) (M : mo_M), q ≤ s + 1 → s + 1 - q < n → mo_R M.1 P → (∀ j, j < q → M.2 14 j = lN (pl_ct P j)) →
      ∃ M', f_Mo_at_26 n (nI s) (iI x) (nI q) M = some (if pl_ct P s ≤ 3000 then (pl_val P s x).toInt64 else -1000000000000, M') ∧ ∀ i, i ≠ 10 → M'.1 i = M.1 i := by
  intro n
  induction n with
  | zero => intro q M _ h; omega
  | succ n ih =>
    intro q M hq hn hR hv
    rw [f_Mo_at_26]
    by_cases hqs : q = s + 1
    · subst hqs
      rw [if_pos ((nI_lti (by omega) (by omega)).mpr (by omega)), hm_gd_t (nI_ix hs8 (by decide)), nI_clamp (show s < 2 ^ 31 by omega), hv s (by omega)]
      have hct := pl_ct_lt hw hs8
      have hcmp : lg_cmp (lN (pl_ct P s)) 3000 ≤ 0 ↔ pl_ct P s ≤ 3000 := by
        rw [show (3000 : Int64) = lN 3000 from rfl, lg_cmp_le]
        exact lN_le (by omega) (by omega)
      obtain ⟨M1, e1, o1⟩ := ev_valueAt hw hs8 hx hR
      by_cases h3 : pl_ct P s ≤ 3000
      · rw [if_pos (hcmp.mpr h3), if_pos h3, e1]
        exact ⟨M1, rfl, o1.2⟩
      · rw [if_neg (fun z => h3 (hcmp.mp z)), if_neg h3]
        exact ⟨M, rfl, fun _ _ => rfl⟩
    · rw [if_neg (fun z => by have := (nI_lti (by omega) (by omega)).mp z; omega), hm_gd_t (nI_ix (show q < 8 by omega) (by decide)), nI_clamp (show q < 2 ^ 31 by omega), nI_m4]
      have h4 := (hw.2.2.2.2.1 q).2.2.1
      obtain ⟨M1, e1, u1, u2, u3⟩ := ev_mat43 hw hs8 (show q ≤ s by omega) (x2 := iI x) (k26 := fun x1 x2 x3 M => f_Mo_at_26 n x1 x2 x3 M) 1000 0 1 (M.1, hm_lup M.2 14 q 1) (by omega) (by omega) hR (fun j hj => by
        dsimp only
        rw [hm_rdl, if_neg (by omega)]
        exact hv j hj) (by dsimp only; rw [hm_rdl, if_pos ⟨rfl, rfl⟩]; rfl)
      rw [Nat.add_zero, List.drop_zero, ← pl_ct_eq hw] at *
      simp only [mo_sl, e1]
      obtain ⟨M2, e2, v2⟩ := ih (q + 1) M1 (by omega) (by omega) (by rw [u1]; exact hR) (fun j hj => by
        by_cases hjq : j = q
        · subst hjq
          exact u3
        · rw [u2 j hjq]
          dsimp only
          rw [hm_rdl, if_neg (by omega)]
          exact hv j (by omega))
      exact ⟨M2, e2, fun i hi => by rw [v2 i hi, u1]⟩
