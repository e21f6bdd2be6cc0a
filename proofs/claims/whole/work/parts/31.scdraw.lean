/-! inline stages; the plan -/
def pl_iq (P : pl_X) (v : Nat) : List pl_Tap → (Nat → Nat) → (Nat → Nat)
  | [], w => w
  | t :: l, w => pl_iq P v l (match t.1 with
    | none => w
    | some q => if pl_md P q = 0 then (fun j => if j = q then w j + v else w j) else w)
def pl_dn (P : pl_X) : Nat → (Nat → Nat) × Nat → (Nat → Nat) × Nat
  | 0, r => r
  | s + 1, r => pl_dn P s (pl_iq P (r.1 s) (pl_tp P s) r.1, r.2 + r.1 s)
theorem pl_iq_keep {P : pl_X} {v s : Nat} : ∀ (l : List pl_Tap) (w : Nat → Nat) (j : Nat), (∀ t ∈ l, ∀ q, t.1 = some q → q < s) → s ≤ j → pl_iq P v l w j = w j
  | [], w, j, _, _ => rfl
  | t :: l, w, j, h, hj => by
    unfold pl_iq
    rw [pl_iq_keep l _ j (fun t' ht => h t' (List.mem_cons_of_mem _ ht)) hj]
    have h0 := h t List.mem_cons_self
    cases hq : t.1 with
    | none => rfl
    | some q =>
      have := h0 q hq
      by_cases hm : pl_md P q = 0
      · simp only [hm, if_true]
        rw [if_neg (by omega)]
      · simp only [hm, if_false]
def sc_o47 (M M' : hm_M) : Prop := ∀ i, i ≠ 47 → M' i = M i
theorem sc_R_o47 {M M' : hm_M} {P : pl_X} (h : sc_R M P) (e : sc_o47 M M') : sc_R M' P :=
  sc_R_keep h (fun i hi => e i (by rcases hi with rfl | rfl | ⟨_, _⟩ <;> omega))
theorem ev_ask12 {P : pl_X} (hw : pl_wf P) {s : Nat} (hs8 : s < 8) (v : Nat) :
    ∀ (n k : Nat) (M : hm_M) (wv : Nat → Nat), k ≤ (pl_tp P s).length → (pl_tp P s).length - k < n → sc_R M P → (∀ q, q < 8 → M 47 q = nI (wv q)) → wv s = v →
      ∃ M', f_Plan_askInlineSources_12 n (nI s) (5 + 4 * s) (nI k) M = some M' ∧ sc_o47 M M' ∧ ∀ q, q < 8 → M' 47 q = nI (pl_iq P v ((pl_tp P s).drop k) wv q) := by
  obtain ⟨-, -, hlen, htap⟩ := hw.2.2.2.2.1 s
  have hgs : hm_ix (nI s) 8 = true := nI_ix hs8 (by decide)
  have hcs : (nI s).toNatClampNeg = s := nI_clamp (by omega)
  intro n
  induction n with
  | zero => intro k M wv _ h; omega
  | succ n ih =>
    intro k M wv hk hn hR hwv hv
    obtain ⟨-, -, -, e3, eT⟩ := hR.2.2.2.2 s hs8
    rw [f_Plan_askInlineSources_12, e3]
    by_cases hkl : k = (pl_tp P s).length
    · subst hkl
      rw [if_pos ((nI_lei (by omega) (by omega)).mpr (Nat.le_refl _)), List.drop_length]
      exact ⟨M, rfl, fun _ _ => rfl, hwv⟩
    · have hk2 : k < (pl_tp P s).length := by omega
      rw [if_neg (fun z => hkl (by have := (nI_lei (by omega) (by omega)).mp z; omega))]
      have hg : hm_ix (nI k) 4 = true := nI_ix (by omega) (by decide)
      have hc : (nI k).toNatClampNeg = k := nI_clamp (by omega)
      obtain ⟨t1, t2, t3⟩ := eT k (pl_tp P s)[k] (List.getElem?_eq_getElem hk2)
      obtain ⟨o1, o2, o3⟩ := htap (pl_tp P s)[k] (List.getElem_mem hk2)
      rw [pl_drop hk2]
      simp only [hg, hm_gd, hc, t1, f_Plan_askInlineSources_66, nI_s]
      unfold pl_iq
      cases hq : (pl_tp P s)[k].1 with
      | none =>
        rw [if_pos (show pl_src none = -1 from rfl)]
        exact ih (k + 1) M wv (by omega) (by omega) hR hwv hv
      | some q =>
        have hqs := o1 q hq
        have hgq : hm_ix (nI q) 8 = true := nI_ix (by omega) (by decide)
        have hcq : (nI q).toNatClampNeg = q := nI_clamp (by omega)
        obtain ⟨-, m0, -⟩ := nI_md (hw.2.2.2.2.1 q).2.1
        rw [if_neg (show ¬ pl_src (some q) = -1 from nI_ne_m1 (show q < 1000 by omega)), show pl_src (some q) = nI q from rfl]
        simp only [hgq, hcq, hgs, hcs, (hR.2.2.2.2 q (by omega)).2.2.1, hwv q (by omega), hwv s hs8, hm_st, nI_add]
        by_cases c0 : pl_md P q = 0
        · rw [if_pos (m0.mpr c0), if_pos c0]
          have out0 : sc_o47 M (hm_up M 47 q (nI (wv q + wv s))) := fun i hi => hm_up_ne hi
          obtain ⟨M2, e2, out2, v2⟩ := ih (k + 1) _ (fun j => if j = q then wv j + v else wv j) (by omega) (by omega) (sc_R_o47 hR out0) (fun j hj => by
            by_cases h : j = q
            · subst h
              rw [hm_rd_eq, hv]
              simp
            · rw [hm_rd_ne (fun z => h z.2)]
              simp [h, hwv j hj]) (by simp [show ¬ s = q by omega, hv])
          exact ⟨M2, e2, fun i hi => (out2 i hi).trans (out0 i hi), v2⟩
        · rw [if_neg (fun z => c0 (m0.mp z)), if_neg c0]
          exact ih (k + 1) M wv (by omega) (by omega) hR hwv hv
theorem ev_ask {P : pl_X} (hw : pl_wf P) {s : Nat} (hs8 : s < 8) {M : hm_M} {wv : Nat → Nat} (hR : sc_R M P) (hwv : ∀ q, q < 8 → M 47 q = nI (wv q)) :
    ∃ M', f_Plan_askInlineSources M (nI s) = some M' ∧ sc_o47 M M' ∧ ∀ q, q < 8 → M' 47 q = nI (pl_iq P (wv s) (pl_tp P s) wv q) := by
  unfold f_Plan_askInlineSources
  have h4 := (hw.2.2.2.2.1 s).2.2.1
  rw [hm_gd_t (nI_ix hs8 (by decide)), nI_clamp (show s < 2 ^ 31 by omega)]
  have := ev_ask12 hw hs8 (wv s) 1000 0 M wv (by omega) (by omega) hR hwv rfl
  rw [List.drop_zero] at this
  exact this
def sc_oI (M M' : hm_M) : Prop := (∀ i, i ≠ 37 → i ≠ 47 → M' i = M i) ∧ ∀ k, k ≠ 5 → M' 37 k = M 37 k
theorem sc_oI_trans {M M' M'' : hm_M} (h : sc_oI M M') (h' : sc_oI M' M'') : sc_oI M M'' := ⟨fun i a b => (h'.1 i a b).trans (h.1 i a b), fun k a => (h'.2 k a).trans (h.2 k a)⟩
theorem sc_R_oI {M M' : hm_M} {P : pl_X} (h : sc_R M P) (e : sc_oI M M') : sc_R M' P :=
  sc_R_keep h (fun i hi => e.1 i (by rcases hi with rfl | rfl | ⟨_, _⟩ <;> omega) (by rcases hi with rfl | rfl | ⟨_, _⟩ <;> omega))
theorem ev_inl13 {P : pl_X} (hw : pl_wf P) :
    ∀ (n s : Nat) (M : hm_M) (wv : Nat → Nat) (tot : Nat), s ≤ 8 → s < n → sc_R M P → (∀ q, q < 8 → M 47 q = nI (wv q)) → M 37 5 = nI tot →
      ∃ M', f_Plan_measureInlines_13 n (iI ((s : Int) - 1)) M = some M' ∧ sc_oI M M' ∧ (∀ q, q < 8 → M' 47 q = nI ((pl_dn P s (wv, tot)).1 q)) ∧ M' 37 5 = nI (pl_dn P s (wv, tot)).2 := by
  intro n
  induction n with
  | zero => intro s M wv tot _ h; omega
  | succ n ih =>
    intro s M wv tot hs hsn hR hwv htot
    rw [f_Plan_measureInlines_13]
    cases s with
    | zero =>
      rw [if_pos (show iI (((0 : Nat) : Int) - 1) < 0 by decide)]
      exact ⟨M, rfl, ⟨fun _ _ _ => rfl, fun _ _ => rfl⟩, hwv, htot⟩
    | succ s =>
      have es : iI (((s + 1 : Nat) : Int) - 1) = nI s := by
        rw [iI_nat]; congr 1; omega
      have en : nI s + -1 = iI ((s : Int) - 1) := by
        rw [iI_nat, lit_m1, iI_add]; congr 1
      rw [es, if_neg (nI_pos (show s < 2 ^ 31 by omega)), hm_gd_t (nI_ix (show s < 8 by omega) (by decide)), nI_clamp (show s < 2 ^ 31 by omega), htot, hwv s (by omega), nI_add, en]
      have out0 : sc_oI M (hm_up M 37 5 (nI (tot + wv s))) := ⟨fun i h1 _ => hm_up_ne h1, fun k hk => hm_rd_ne (by omega)⟩
      have hR1 := sc_R_oI hR out0
      obtain ⟨M1, e1, out1, v1⟩ := ev_ask hw (show s < 8 by omega) hR1 (wv := wv) (fun q hq => by rw [hm_rd_ne (by omega)]; exact hwv q hq)
      have oI1 : sc_oI (hm_up M 37 5 (nI (tot + wv s))) M1 := ⟨fun i _ h2 => out1 i h2, fun k _ => congrFun (out1 37 (by omega)) k⟩
      simp only [hm_st, e1, hm_bV]
      obtain ⟨M2, e2, out2, v2, t2⟩ := ih s M1 (pl_iq P (wv s) (pl_tp P s) wv) (tot + wv s) (by omega) (by omega) (sc_R_oI hR1 oI1) v1 (by rw [out1 37 (by omega)]; exact hm_rd_eq)
      exact ⟨M2, e2, sc_oI_trans (sc_oI_trans out0 oI1) out2, v2, t2⟩
theorem ev_fill5 (a : Nat) : ∀ (n k : Nat) (M : hm_M), k ≤ 8 → 8 - k < n → (∀ j, j < k → M a j = 0) → ∃ M', f_Arrays_fill_5 n a 0 (nI k) 8 M = some M' ∧ (∀ i, i ≠ a → M' i = M i) ∧ ∀ j, j < 8 → M' a j = 0 := by
  intro n
  induction n with
  | zero => intro k M _ h; omega
  | succ n ih =>
    intro k M hk hn hz
    rw [f_Arrays_fill_5]
    by_cases hk8 : k = 8
    · subst hk8
      rw [if_pos (show (8 : Int32) ≤ nI 8 by decide)]
      exact ⟨M, rfl, fun _ _ => rfl, hz⟩
    · rw [if_neg (show ¬ (8 : Int32) ≤ nI k from fun q => by have := (nI_lei (a := 8) (b := k) (by omega) (by omega)).mp q; omega), hm_gd_t (nI_ix (show k < 8 by omega) (by decide)), nI_clamp (show k < 2 ^ 31 by omega), nI_s]
      obtain ⟨M2, e2, o2, z2⟩ := ih (k + 1) (hm_up M a k 0) (by omega) (by omega) (fun j hj => by
        by_cases h : j = k
        · subst h; exact hm_rd_eq
        · rw [hm_rd_ne (fun z => h z.2)]; exact hz j (by omega))
      exact ⟨M2, e2, fun i hi => (o2 i hi).trans (hm_up_ne hi), z2⟩
theorem ev_fill (a : Nat) (M : hm_M) : ∃ M', f_Arrays_fill M a 0 = some M' ∧ (∀ i, i ≠ a → M' i = M i) ∧ ∀ j, j < 8 → M' a j = 0 :=
  ev_fill5 a 1000 0 M (by omega) (by omega) (fun j hj => by omega)
/-- works before and behind the inline stages; their sum -/
def pl_w0 (o w : Nat) : Nat → Nat := fun q => if q = o then w else 0
def pl_wb (P : pl_X) (o w : Nat) : Nat → Nat := pl_wt P o w (pl_nt P w) 0 (pl_rs P o w (pl_w0 o w) 0 o)
def pl_wk (P : pl_X) (o w : Nat) : Nat → Nat := (pl_dn P (o + 1) (pl_wb P o w, 0)).1
def pl_tt (P : pl_X) (o w : Nat) : Nat := (pl_dn P (o + 1) (pl_wb P o w, 0)).2
def pl_rm (P : pl_X) (o w : Nat) : Nat := pl_sg (pl_L P o w) 0 o + pl_gs P o w (pl_nt P w) 0 0
def pl_gn (P : pl_X) (o w : Nat) : Nat := pl_gt P o w (pl_nt P w) 0 0
/-- what the plan holds -/
def sc_PL (M : hm_M) (P : pl_X) (o w : Nat) : Prop := sc_NR M 38 (pl_nd P o) 0 ((w : Int) - 1) ∧ (∀ q, q < 8 → M 47 q = nI (pl_wk P o w q)) ∧ M 37 5 = nI (pl_tt P o w) ∧ M 37 6 = nI (pl_rm P o w) ∧ M 37 7 = nI (pl_gn P o w)
def sc_oD (M M' : hm_M) : Prop := ∀ i, i < 37 ∨ 47 < i → M' i = M i
