/-! THE CLASS RUNS -/
theorem pl_dm_of {P : pl_X} (hw : pl_wf P) {o : Nat} (ho8 : o < 8) {K : pl_N} {f t : Int} (hf : 0 ≤ f) (ht : t ≤ 31) (hK : ∀ q r, K q = some r → ∀ a b, pl_nd P o q = some (a, b) → r.1 ≤ f + a ∧ t + b ≤ r.2) :
    ∀ (n s : Nat) (x a b : Int), s < n → pl_nd P o s = some (a, b) → f + a ≤ x → x ≤ t + b → sc_dm P K n s x := by
  have hbd := pl_nd_bd hw o
  intro n
  induction n with
  | zero => intro s x a b h; omega
  | succ n ih =>
    intro s x a b hs hnd h1 h2
    obtain ⟨b1, b2, b3, b4⟩ := hbd s a b hnd
    refine ⟨by omega, fun tp htp q hq => ?_⟩
    obtain ⟨a', b', e', l1, l2⟩ := pl_nd_closed hw hnd tp htp q hq
    have hqs := ((hw.2.2.2.2.1 s).2.2.2 tp htp).1 q hq
    cases hk : K q with
    | some r =>
      obtain ⟨k1, k2⟩ := hK q r hk a' b' e'
      show r.1 ≤ x + tp.2.1 ∧ x + tp.2.1 ≤ r.2
      omega
    | none => exact ih q (x + tp.2.1) a' b' (by omega) e' (by omega) (by omega)
/-- the cells that a run changes -/
def sc_oN (M M' : hm_M) : Prop := ∀ i, i < 50 ∨ 63 < i → M' i = M i
theorem sc_oN_trans {M M' M'' : hm_M} (h : sc_oN M M') (h' : sc_oN M' M'') : sc_oN M M'' := fun i hi => (h' i hi).trans (h i hi)
theorem sc_R_oN {M M' : hm_M} {P : pl_X} (h : sc_R M P) (e : sc_oN M M') : sc_R M' P :=
  sc_R_keep h (fun i hi => e i (by rcases hi with rfl | rfl | ⟨_, _⟩ <;> omega))
/-- keeping changes what is kept and the rows alone -/
def sc_oK (M M' : hm_M) : Prop := ∀ i, i ≠ 53 → (i < 55 ∨ 62 < i) → M' i = M i
theorem sc_oK_refl (M : hm_M) : sc_oK M M := fun _ _ _ => rfl
theorem sc_oK_trans {M M' M'' : hm_M} (h : sc_oK M M') (h' : sc_oK M' M'') : sc_oK M M'' := fun i a b => (h' i a b).trans (h i a b)
theorem sc_oN_oK {M M' : hm_M} (h : sc_oK M M') : sc_oN M M' := fun i hi => h i (by omega) (by omega)
theorem sc_R_oK {M M' : hm_M} {P : pl_X} (h : sc_R M P) (e : sc_oK M M') : sc_R M' P := sc_R_oN h (sc_oN_oK e)
theorem sc_NR_oK {M M' : hm_M} {a : Nat} {st : pl_N} {f t : Int} (ha : a = 38 ∨ a = 42 ∨ a = 49) (h : sc_NR M a st f t) (e : sc_oK M M') : sc_NR M' a st f t :=
  sc_NR_eq h (e _ (by omega) (by omega)) (e _ (by omega) (by omega)) (e _ (by omega) (by omega))
/-- what is kept behind keeping the stages before s with mode m -/
def pl_kp (P : pl_X) (o m : Nat) (f t : Int) (K : pl_N) (s : Nat) : pl_N := fun q => if q < s ∧ pl_ua P (pl_nd P o) q m = true then (pl_nd P o q).map (fun r => (f + r.1, t + r.2)) else K q
theorem ev_keep49 {P : pl_X} (hw : pl_wf P) {o w a s m : Nat} (ha : a = 38 ∨ a = 49) (hou : pl_ou P = some (o, w)) (hso : s < o) {f t : Int} (hf : 0 ≤ f) (ht : t ≤ 31) {r : Int × Int} (hr : pl_nd P o s = some r) {K : pl_N} (hK0 : K s = none) (hKin : ∀ q r, K q = some r → ∀ a b, pl_nd P o q = some (a, b) → r.1 ≤ f + a ∧ t + b ≤ r.2) {k2 : Nat → Int32 → Int32 → hm_M → Option hm_M} :
    ∀ (n : Nat) (x : Int) (M : hm_M), f + r.1 ≤ x → x ≤ t + r.2 + 1 → (t + r.2 + 1 - x).toNat < n → sc_R M P → sc_NR M a (pl_nd P o) f t → sc_KR M P K → (∀ y, f + r.1 ≤ y → y < x → M (55 + s) (y + 28).toNat = pl_val P s y) →
      ∃ M', f_Runner_keep_49 (pl_rl P) k2 n a (nI m) (nI s) (iI x) M = k2 a (nI m) (nI (s + 1)) M' ∧ sc_oK M M' ∧ sc_KR M' P (fun q => if q = s then some (f + r.1, t + r.2) else K q) := by
  obtain ⟨ho, hw1, hw2⟩ := hw.2.2.2.1 o w hou
  have ho8 : o < 8 := by have := hw.2.1; omega
  obtain ⟨b1, b2, b3, b4⟩ := pl_nd_bd hw o s r.1 r.2 hr
  have hg : hm_ix (nI s) 8 = true := nI_ix (by omega) (by decide)
  have hc : (nI s).toNatClampNeg = s := nI_clamp (by omega)
  intro n
  induction n with
  | zero => intro x M _ _ h; omega
  | succ n ih =>
    intro x M hx1 hx2 hn hR hN hKR hrow
    have h0 := hN s (by omega)
    rw [hr] at h0
    obtain ⟨-, -, u3⟩ := h0
    rw [f_Runner_keep_49]
    simp only [hg, hm_gd, hc, u3]
    have kk : iI (t + r.2) < iI x ↔ t + r.2 < x := iI_lt (by omega) (by omega) (by omega) (by omega)
    by_cases hxx : t + r.2 < x
    · rw [if_pos (kk.mpr hxx)]
      simp only [hm_st, f_Runner_keep_92, nI_s]
      refine ⟨_, rfl, fun i h1 _ => hm_up_ne h1, fun q hq => ?_⟩
      by_cases hqs : q = s
      · subst hqs
        simp only [if_true]
        refine ⟨hm_rd_eq, by omega, by omega, fun y hy1 hy2 => ?_⟩
        rw [hm_rd_ne (by omega)]
        exact hrow y hy1 (by omega)
      · simp only [hqs, if_false]
        have := hKR q hq
        cases hk : K q with
        | none =>
          rw [hk] at this
          show hm_up _ _ _ _ _ _ = _
          rw [hm_rd_ne (by omega)]
          exact this
        | some r' =>
          rw [hk] at this
          obtain ⟨k1, k2', k3, k4⟩ := this
          refine ⟨by rw [hm_rd_ne (by omega)]; exact k1, k2', k3, fun y hy1 hy2 => ?_⟩
          rw [hm_rd_ne (by omega)]
          exact k4 y hy1 hy2
    · rw [if_neg (fun z => hxx (kk.mp z))]
      have hd : sc_dm P K 9 s x := pl_dm_of hw ho8 hf ht hKin 9 s x r.1 r.2 (by omega) hr hx1 (by omega)
      rw [ev_workOut hw hR hKR 9 s x (by omega) hd]
      have e28 : iI x + 28 = iI (x + 28) := by rw [show (28 : Int32) = iI 28 from rfl, iI_add]
      have ex : iI x + 1 = iI (x + 1) := by rw [lit_1, iI_add]
      simp only [hm_bI, e28, ex, iI_ix (z := x + 28) (n := 88) (by omega) (by omega) (by omega), iI_clamp (z := x + 28) (by omega) (by omega), hm_st]
      have out0 : sc_oK M (hm_up M (55 + s) (x + 28).toNat (pl_val P s x)) := fun i _ h2 => hm_up_ne (by omega)
      obtain ⟨M2, e2, out2, K2⟩ := ih (x + 1) _ (by omega) (by omega) (by omega) (sc_R_oK hR out0) (sc_NR_oK (by omega) hN out0) (fun q hq => by
        have := hKR q hq
        cases hk : K q with
        | none =>
          rw [hk] at this
          show hm_up _ _ _ _ _ _ = _
          rw [hm_rd_ne (by omega)]
          exact this
        | some r' =>
          have hqs : ¬ q = s := fun e => by rw [e, hK0] at hk; cases hk
          rw [hk] at this
          obtain ⟨k1, k2', k3, k4⟩ := this
          refine ⟨by rw [hm_rd_ne (by omega)]; exact k1, k2', k3, fun y hy1 hy2 => ?_⟩
          rw [hm_rd_ne (by omega)]
          exact k4 y hy1 hy2) (fun y hy1 hy2 => by
        by_cases h : y = x
        · subst h
          exact hm_rd_eq
        · rw [hm_rd_ne (by omega)]
          exact hrow y hy1 (by omega))
      exact ⟨M2, e2, sc_oK_trans out0 out2, K2⟩
theorem pl_kp_step_no {P : pl_X} {o m s : Nat} {f t : Int} {K : pl_N} (h : pl_ua P (pl_nd P o) s m = false) : pl_kp P o m f t K (s + 1) = pl_kp P o m f t K s := by
  funext q
  unfold pl_kp
  by_cases h1 : q < s ∧ pl_ua P (pl_nd P o) q m = true
  · rw [if_pos h1, if_pos ⟨by omega, h1.2⟩]
  · rw [if_neg h1]
    by_cases h2 : q = s
    · subst h2
      rw [if_neg (by rw [h]; simp)]
    · rw [if_neg (fun z => h1 ⟨by omega, z.2⟩)]
theorem pl_kp_step_yes {P : pl_X} {o m s : Nat} {f t : Int} {K : pl_N} {r : Int × Int} (h : pl_ua P (pl_nd P o) s m = true) (hr : pl_nd P o s = some r) : pl_kp P o m f t K (s + 1) = fun q => if q = s then some (f + r.1, t + r.2) else pl_kp P o m f t K s q := by
  funext q
  unfold pl_kp
  by_cases h2 : q = s
  · subst h2
    rw [if_pos ⟨by omega, h⟩, if_pos rfl, hr]
    rfl
  · rw [if_neg h2]
    by_cases h1 : q < s ∧ pl_ua P (pl_nd P o) q m = true
    · rw [if_pos h1, if_pos ⟨by omega, h1.2⟩]
    · rw [if_neg h1, if_neg (fun z => h1 ⟨by omega, z.2⟩)]
theorem ev_keep2 {P : pl_X} (hw : pl_wf P) {o w a m : Nat} (ha : a = 38 ∨ a = 49) (hm : m ≤ 2) (hou : pl_ou P = some (o, w)) {f t : Int} (hf : 0 ≤ f) (hft : f ≤ t) (ht : t ≤ 31) {K : pl_N} (hK0 : ∀ q, pl_md P q = m → K q = none) (hKin : ∀ q r, K q = some r → ∀ a b, pl_nd P o q = some (a, b) → r.1 ≤ f + a ∧ t + b ≤ r.2) :
    ∀ (n d s : Nat) (M : hm_M), s + d = o → d < n → sc_R M P → sc_NR M a (pl_nd P o) f t → sc_KR M P (pl_kp P o m f t K s) →
      ∃ M', f_Runner_keep_2 (pl_rl P) n a (nI m) (nI s) M = some M' ∧ sc_oK M M' ∧ sc_KR M' P (pl_kp P o m f t K o) := by
  obtain ⟨ho, hw1, hw2⟩ := hw.2.2.2.1 o w hou
  have ho8 : o < 8 := by have := hw.2.1; omega
  have hbd := pl_nd_bd hw o
  intro n
  induction n with
  | zero => intro d s M _ h; omega
  | succ n ih =>
    intro d s M hsd hn hR hN hKR
    rw [f_Runner_keep_2, (sc_out15 hR hou).1]
    cases d with
    | zero =>
      rw [if_pos ((nI_lei (by omega) (by omega)).mpr (by omega))]
      have : s = o := by omega
      subst this
      exact ⟨M, rfl, sc_oK_refl M, hKR⟩
    | succ d =>
      rw [if_neg (fun z => by have := (nI_lei (by omega) (by omega)).mp z; omega)]
      have hg : hm_ix (nI s) 8 = true := nI_ix (by omega) (by decide)
      have hc : (nI s).toNatClampNeg = s := nI_clamp (by omega)
      have hmd := (hw.2.2.2.2.1 s).2.1
      simp only [hg, hm_gd, hc, (hR.2.2.2.2 s (by omega)).2.2.1, f_Runner_keep_92, nI_s]
      have h0 := hN s (by omega)
      cases hst : pl_nd P o s with
      | none =>
        rw [hst] at h0
        rw [if_pos h0]
        have hua : pl_ua P (pl_nd P o) s m = false := by unfold pl_ua; rw [hst]; rfl
        exact ih d (s + 1) M (by omega) (by omega) hR hN (by rw [pl_kp_step_no hua]; exact hKR)
      | some r =>
        rw [hst] at h0
        obtain ⟨u1, u2, u3⟩ := h0
        rw [if_neg (show ¬ M (a + 1) s = 0 by rw [u1]; decide), u2]
        by_cases c : pl_md P s = m
        · have hua : pl_ua P (pl_nd P o) s m = true := by unfold pl_ua; rw [hst, decide_eq_true c]; rfl
          obtain ⟨b1, b2, b3, b4⟩ := hbd s r.1 r.2 hst
          rw [if_pos (by rw [c])]
          obtain ⟨M1, e1, out1, K1⟩ := ev_keep49 hw ha hou (show s < o by omega) hf ht (m := m) hst (K := pl_kp P o m f t K s) (by
            unfold pl_kp
            rw [if_neg (by omega)]
            exact hK0 s c) (fun q r' hq a' b' hab => by
            unfold pl_kp at hq
            by_cases h : q < s ∧ pl_ua P (pl_nd P o) q m = true
            · rw [if_pos h, hab] at hq
              cases hq
              exact ⟨Int.le_refl _, Int.le_refl _⟩
            · rw [if_neg h] at hq
              exact hKin q r' hq a' b' hab) (k2 := fun a1 x2 x3 M => f_Runner_keep_2 (pl_rl P) n a1 x2 x3 M) 1000 (f + r.1) M (by omega) (by omega) (by omega) hR hN hKR (fun y h1 h2 => by omega)
          rw [e1]
          obtain ⟨M2, e2, out2, K2⟩ := ih d (s + 1) M1 (by omega) (by omega) (sc_R_oK hR out1) (sc_NR_oK (by omega) hN out1) (by rw [pl_kp_step_yes hua hst]; exact K1)
          exact ⟨M2, e2, sc_oK_trans out1 out2, K2⟩
        · have hua : pl_ua P (pl_nd P o) s m = false := by unfold pl_ua; rw [hst, decide_eq_false c]; rfl
          rw [if_neg (fun z => c ((nI_eqi (by omega) (by omega)).mp z))]
          exact ih d (s + 1) M (by omega) (by omega) hR hN (by rw [pl_kp_step_no hua]; exact hKR)
theorem ev_keep {P : pl_X} (hw : pl_wf P) {o w a m : Nat} (ha : a = 38 ∨ a = 49) (hm : m ≤ 2) (hou : pl_ou P = some (o, w)) {f t : Int} (hf : 0 ≤ f) (hft : f ≤ t) (ht : t ≤ 31) {K : pl_N} (hK0 : ∀ q, pl_md P q = m → K q = none) (hKin : ∀ q r, K q = some r → ∀ a b, pl_nd P o q = some (a, b) → r.1 ≤ f + a ∧ t + b ≤ r.2) {M : hm_M} (hR : sc_R M P) (hN : sc_NR M a (pl_nd P o) f t) (hKR : sc_KR M P K) :
    ∃ M', f_Runner_keep (pl_rl P) M a (nI m) = some M' ∧ sc_oK M M' ∧ sc_KR M' P (pl_kp P o m f t K o) :=
  ev_keep2 hw ha hm hou hf hft ht hK0 hKin 1000 o 0 M (by omega) (by have := hw.2.1; have := (hw.2.2.2.1 o w hou).1; omega) hR hN (by
    have : pl_kp P o m f t K 0 = K := by
      funext q
      unfold pl_kp
      rw [if_neg (by omega)]
    rw [this]; exact hKR)
/-- what is kept behind releasing -/
def pl_rel (P : pl_X) (o m : Nat) (K : pl_N) (s : Nat) : pl_N := fun q => if q < s ∧ pl_md P q = m then none else K q
theorem ev_rel2 {P : pl_X} (hw : pl_wf P) {o w m : Nat} (hm : m ≤ 2) (hou : pl_ou P = some (o, w)) {K : pl_N} :
    ∀ (n d s : Nat) (M : hm_M), s + d = o → d < n → sc_R M P → sc_KR M P (pl_rel P o m K s) →
      ∃ M', f_Runner_release_2 n (nI m) (nI s) M = some M' ∧ (∀ i, i ≠ 53 → M' i = M i) ∧ sc_KR M' P (pl_rel P o m K o) := by
  obtain ⟨ho, hw1, hw2⟩ := hw.2.2.2.1 o w hou
  have ho8 : o < 8 := by have := hw.2.1; omega
  intro n
  induction n with
  | zero => intro d s M _ h; omega
  | succ n ih =>
    intro d s M hsd hn hR hKR
    rw [f_Runner_release_2, (sc_out15 hR hou).1]
    cases d with
    | zero =>
      rw [if_pos ((nI_lei (by omega) (by omega)).mpr (by omega))]
      have : s = o := by omega
      subst this
      exact ⟨M, rfl, fun _ _ => rfl, hKR⟩
    | succ d =>
      rw [if_neg (fun z => by have := (nI_lei (by omega) (by omega)).mp z; omega)]
      have hg : hm_ix (nI s) 8 = true := nI_ix (by omega) (by decide)
      have hc : (nI s).toNatClampNeg = s := nI_clamp (by omega)
      have hmd := (hw.2.2.2.2.1 s).2.1
      have hKs : pl_rel P o m K s s = K s := by unfold pl_rel; rw [if_neg (by omega)]
      have step : ∀ v : Int32, (decide (v = 0 ∨ v = 1) = true) → (match (if pl_md P s = m then none else K s : Option (Int × Int)) with
          | none => v = 0
          | some _ => v = 1) → ∃ M', hm_gd (decide (v = 0 ∨ v = 1)) (hm_st M 53 s v fun M_3 => f_Runner_release_2 n (nI m) (nI (s + 1)) M_3) = some M' ∧ (∀ i, i ≠ 53 → M' i = M i) ∧ sc_KR M' P (pl_rel P o m K o) := by
        intro v hv01 hv
        rw [hm_gd_t hv01]
        have out0 : ∀ i, i ≠ 53 → hm_up M 53 s v i = M i := fun i hi => hm_up_ne hi
        obtain ⟨M2, e2, out2, K2⟩ := ih d (s + 1) (hm_up M 53 s v) (by omega) (by omega) (sc_R_keep hR (fun i hi => out0 i (by rcases hi with rfl | rfl | ⟨_, _⟩ <;> omega))) (fun q hq => by
          have hq0 := hKR q hq
          by_cases h : q = s
          · subst h
            rw [hKs] at hq0
            unfold pl_rel
            by_cases c : pl_md P q = m
            · rw [if_pos c] at hv
              rw [if_pos ⟨by omega, c⟩]
              show hm_up M 53 q v 53 q = 0
              rw [hm_rd_eq]; exact hv
            · rw [if_neg c] at hv
              rw [if_neg (fun z => c z.2)]
              cases hk : K q with
              | none =>
                rw [hk] at hv
                show hm_up M 53 q v 53 q = 0
                rw [hm_rd_eq]; exact hv
              | some r' =>
                rw [hk] at hv hq0
                obtain ⟨k1, k2, k3, k4⟩ := hq0
                refine ⟨by rw [hm_rd_eq]; exact hv, k2, k3, fun y a b => ?_⟩
                rw [hm_rd_ne (by omega)]
                exact k4 y a b
          · have e1 : pl_rel P o m K (s + 1) q = pl_rel P o m K s q := by
              unfold pl_rel
              by_cases c : q < s ∧ pl_md P q = m
              · rw [if_pos c, if_pos ⟨by omega, c.2⟩]
              · rw [if_neg c, if_neg (fun z => c ⟨by omega, z.2⟩)]
            rw [e1]
            cases hk : pl_rel P o m K s q with
            | none =>
              rw [hk] at hq0
              show hm_up M 53 s v 53 q = 0
              rw [hm_rd_ne (fun z => h z.2)]; exact hq0
            | some r' =>
              rw [hk] at hq0
              obtain ⟨k1, k2, k3, k4⟩ := hq0
              refine ⟨by rw [hm_rd_ne (fun z => h z.2)]; exact k1, k2, k3, fun y a b => ?_⟩
              rw [hm_rd_ne (by omega)]
              exact k4 y a b)
        exact ⟨M2, e2, fun i hi => (out2 i hi).trans (out0 i hi), K2⟩
      have hq0 := hKR s (by omega)
      rw [hKs] at hq0
      simp only [hg, hc, (hR.2.2.2.2 s (by omega)).2.2.1, f_Runner_release_47, f_Runner_release_48, nI_s]
      rw [hm_gd_t rfl, hm_gd_t rfl, hm_gd_t rfl, hm_gd_t rfl]
      cases hk : K s with
      | none =>
        rw [hk] at hq0
        rw [if_pos hq0]
        exact step 0 (by decide) (by rw [hk]; simp)
      | some r' =>
        rw [hk] at hq0
        rw [if_neg (show ¬ M 53 s = 0 by rw [hq0.1]; decide)]
        by_cases c : pl_md P s = m
        · rw [if_pos (by rw [c])]
          exact step 0 (by decide) (by rw [if_pos c])
        · rw [if_neg (fun z => c ((nI_eqi (by omega) (by omega)).mp z))]
          exact step 1 (by decide) (by rw [if_neg c, hk])
theorem ev_rel {P : pl_X} (hw : pl_wf P) {o w m : Nat} (hm : m ≤ 2) (hou : pl_ou P = some (o, w)) {K : pl_N} {M : hm_M} (hR : sc_R M P) (hKR : sc_KR M P K) :
    ∃ M', f_Runner_release M (nI m) = some M' ∧ (∀ i, i ≠ 53 → M' i = M i) ∧ sc_KR M' P (pl_rel P o m K o) :=
  ev_rel2 hw hm hou 1000 o 0 M (by omega) (by have := hw.2.1; have := (hw.2.2.2.1 o w hou).1; omega) hR (by
    have : pl_rel P o m K 0 = K := by
      funext q
      unfold pl_rel
      rw [if_neg (by omega)]
    rw [this]; exact hKR)
