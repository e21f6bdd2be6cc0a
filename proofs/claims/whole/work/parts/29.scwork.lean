/-! THE CLASS'S WORK -/
def pl_sg (f : Nat → Nat) : Nat → Nat → Nat
  | _, 0 => 0
  | s, n + 1 => f s + pl_sg f (s + 1) n
def pl_mg (f : Nat → Nat) : Nat → Nat → Nat → Nat
  | g, _, 0 => g
  | g, s, n + 1 => pl_mg f (max g (f s)) (s + 1) n
theorem pl_mg_max (f : Nat → Nat) : ∀ (n g s : Nat), pl_mg f g s n = max g (pl_mg f 0 s n)
  | 0, g, s => by simp [pl_mg]
  | n + 1, g, s => by
    unfold pl_mg
    rw [pl_mg_max f n (max g (f s)), pl_mg_max f n (max 0 (f s))]
    omega
theorem pl_mg_le {f : Nat → Nat} {b : Nat} : ∀ (n g s : Nat), g ≤ b → (∀ q, f q ≤ b) → pl_mg f g s n ≤ b
  | 0, g, s, h, _ => h
  | n + 1, g, s, h, hf => pl_mg_le n _ _ (by have := hf s; omega) hf
theorem pl_sg_le {f : Nat → Nat} {b : Nat} (hf : ∀ q, f q ≤ b) : ∀ (n s : Nat), pl_sg f s n ≤ n * b
  | 0, s => by simp [pl_sg]
  | n + 1, s => by
    unfold pl_sg
    have h1 := pl_sg_le hf n (s + 1)
    have h2 := hf s
    rw [Nat.succ_mul]
    omega
/-- the length of a stage's need for f .. t -/
def pl_ln (st : pl_N) (f t : Int) (q : Nat) : Nat := match st q with
  | none => 0
  | some r => ((t + r.2) - (f + r.1) + 1).toNat
/-- that of those that are used with mode m -/
def pl_lf (P : pl_X) (st : pl_N) (m : Nat) (f t : Int) (q : Nat) : Nat := if pl_ua P st q m then pl_ln st f t q else 0
theorem pl_ln_le {o : Nat} {st : pl_N} (h : pl_bd o st) (ho : o < 8) {f t : Int} (hf : 0 ≤ f) (ht : t ≤ 100) (q : Nat) : pl_ln st f t q ≤ 1000 := by
  unfold pl_ln
  cases hst : st q with
  | none => exact Nat.zero_le _
  | some r =>
    obtain ⟨h1, h2, h3, h4⟩ := h q r.1 r.2 hst
    show ((t + r.2) - (f + r.1) + 1).toNat ≤ 1000
    omega
theorem pl_lf_le {P : pl_X} {o m : Nat} {st : pl_N} (h : pl_bd o st) (ho : o < 8) {f t : Int} (hf : 0 ≤ f) (ht : t ≤ 100) (q : Nat) : pl_lf P st m f t q ≤ 1000 := by
  unfold pl_lf
  split
  · exact pl_ln_le h ho hf ht q
  · omega
theorem ev_lengthOf {M : hm_M} {a o : Nat} {st : pl_N} {f t : Int} (hN : sc_NR M a st f t) (hbd : pl_bd o st) (hft : f ≤ t + 1) {q : Nat} (hq : q < 8) {r : Int × Int} (hr : st q = some r) : f_Needs_lengthOf M a (nI q) = some (nI (pl_ln st f t q), M) := by
  have hg : hm_ix (nI q) 8 = true := nI_ix hq (by decide)
  have hc : (nI q).toNatClampNeg = q := nI_clamp (by omega)
  have h0 := hN q hq
  rw [hr] at h0
  obtain ⟨-, u2, u3⟩ := h0
  obtain ⟨h1, h2, h3, h4⟩ := hbd q r.1 r.2 hr
  unfold f_Needs_lengthOf
  rw [hm_gd_t hg, hm_gd_t hg, hc, u2, u3, iI_sub, lit_1, iI_add]
  unfold pl_ln
  rw [hr, iI_nat]
  show some (iI (t + r.2 - (f + r.1) + 1), M) = some (iI (((t + r.2) - (f + r.1) + 1).toNat : Nat), M)
  congr 3
  omega
theorem nI_maxi {a b : Nat} (ha : a < 2000000000) (hb : b < 2000000000) : (if nI a < nI b then nI b else nI a) = nI (max a b) := by
  rw [iI_nat, iI_nat, iI_max (by omega) (by omega) (by omega) (by omega)]
  rw [iI_nat]
  congr 1
  omega
def pl_wg (f : Nat → Nat) (wv : Nat → Nat) (s n : Nat) : Nat → Nat := fun q => if s ≤ q ∧ q < s + n then wv q + f q else wv q
theorem pl_wg_0 (f wv : Nat → Nat) (s : Nat) : pl_wg f wv s 0 = wv := by
  funext q
  unfold pl_wg
  rw [if_neg (by omega)]
theorem pl_wg_step (f wv : Nat → Nat) (s n : Nat) : pl_wg f wv s (n + 1) = pl_wg f (fun q => if q = s then wv q + f q else wv q) (s + 1) n := by
  funext q
  unfold pl_wg
  by_cases h : q = s
  · subst h
    rw [if_pos (by omega), if_neg (by omega)]
    simp
  · by_cases h2 : s ≤ q ∧ q < s + (n + 1)
    · rw [if_pos h2, if_pos (by omega)]
      simp [h]
    · rw [if_neg h2, if_neg (by omega)]
      simp [h]
/-- the cells that working a tile out changes -/
def sc_oT (M M' : hm_M) : Prop := (∀ i, i ≠ 37 → i ≠ 47 → M' i = M i) ∧ ∀ k, k ≠ 7 → M' 37 k = M 37 k
theorem sc_oT_refl (M : hm_M) : sc_oT M M := ⟨fun _ _ _ => rfl, fun _ _ => rfl⟩
theorem sc_oT_trans {M M' M'' : hm_M} (h : sc_oT M M') (h' : sc_oT M' M'') : sc_oT M M'' := ⟨fun i a b => (h'.1 i a b).trans (h.1 i a b), fun k a => (h'.2 k a).trans (h.2 k a)⟩
theorem sc_R_oT {M M' : hm_M} {P : pl_X} (h : sc_R M P) (e : sc_oT M M') : sc_R M' P :=
  sc_R_keep h (fun i hi => e.1 i (by rcases hi with rfl | rfl | ⟨_, _⟩ <;> omega) (by rcases hi with rfl | rfl | ⟨_, _⟩ <;> omega))
theorem sc_NR_eq {M M' : hm_M} {a : Nat} {st : pl_N} {f t : Int} (h : sc_NR M a st f t) (e1 : M' (a + 1) = M (a + 1)) (e2 : M' (a + 2) = M (a + 2)) (e3 : M' (a + 3) = M (a + 3)) : sc_NR M' a st f t := by
  intro q hq
  rw [e1, e2, e3]
  exact h q hq
theorem sc_NR_oT {M M' : hm_M} {a : Nat} {st : pl_N} {f t : Int} (ha : a = 38 ∨ a = 42 ∨ a = 49) (h : sc_NR M a st f t) (e : sc_oT M M') : sc_NR M' a st f t :=
  sc_NR_eq h (e.1 _ (by omega) (by omega)) (e.1 _ (by omega) (by omega)) (e.1 _ (by omega) (by omega))
theorem sc_out15 {M : hm_M} {P : pl_X} {o w : Nat} (hR : sc_R M P) (hou : pl_ou P = some (o, w)) : M 1 5 = nI o ∧ M 1 6 = nI w := by
  have := hR.2.2.1
  rw [hou] at this
  exact this
theorem ev_mtih4 {P : pl_X} (hw : pl_wf P) {o w : Nat} (hou : pl_ou P = some (o, w)) {f t f0 t0 : Int} (hft : f ≤ t + 1) (hf : 0 ≤ f) (ht : t ≤ 100) :
    ∀ (n d s : Nat) (M : hm_M) (wv : Nat → Nat) (g sm : Nat), s + d = o → d < n → sc_R M P → sc_NR M 38 (pl_nd P o) f0 t0 → sc_NR M 42 (pl_nd P o) f t → (∀ q, q < 8 → M 47 q = nI (wv q)) → M 37 7 = nI g → g ≤ 1000 →
      ∃ M', f_Plan_measureTileInHand_4 n (nI sm) (nI s) M = some (nI (sm + pl_sg (pl_lf P (pl_nd P o) 2 f t) s d), M') ∧ sc_oT M M' ∧ (∀ q, q < 8 → M' 47 q = nI (pl_wg (pl_lf P (pl_nd P o) 2 f t) wv s d q)) ∧ M' 37 7 = nI (pl_mg (pl_lf P (pl_nd P o) 2 f t) g s d) := by
  obtain ⟨ho, hw1, hw2⟩ := hw.2.2.2.1 o w hou
  have ho8 : o < 8 := by have := hw.2.1; omega
  have hbd := pl_nd_bd hw o
  intro n
  induction n with
  | zero => intro d s M wv g sm _ h; omega
  | succ n ih =>
    intro d s M wv g sm hsd hn hR hN0 hN hwv hg7 hg1
    rw [f_Plan_measureTileInHand_4, (sc_out15 hR hou).1]
    cases d with
    | zero =>
      rw [if_pos ((nI_lei (by omega) (by omega)).mpr (by omega)), pl_wg_0]
      exact ⟨M, rfl, sc_oT_refl M, hwv, hg7⟩
    | succ d =>
      rw [if_neg (fun z => by have := (nI_lei (by omega) (by omega)).mp z; omega)]
      have hg : hm_ix (nI s) 8 = true := nI_ix (by omega) (by decide)
      have hc : (nI s).toNatClampNeg = s := nI_clamp (by omega)
      rw [show (2 : Int32) = nI 2 from rfl, ev_isUsedAs hw hR hN0 (show s < 8 by omega) (show 2 ≤ 2 by omega)]
      simp only [hm_bI, f_Plan_measureTileInHand_59, nI_s]
      unfold pl_sg pl_mg
      rw [pl_wg_step]
      cases hua : pl_ua P (pl_nd P o) s 2 with
      | false =>
        have el : pl_lf P (pl_nd P o) 2 f t s = 0 := by unfold pl_lf; rw [hua]; rfl
        rw [if_pos (show b01 false = 0 by decide), el, Nat.max_zero, Nat.zero_add]
        have ew : (fun q => if q = s then wv q + pl_lf P (pl_nd P o) 2 f t q else wv q) = wv := by
          funext q
          by_cases h : q = s
          · subst h; rw [if_pos rfl, el]; rfl
          · rw [if_neg h]
        rw [ew]
        exact ih d (s + 1) M wv g sm (by omega) (by omega) hR hN0 hN hwv hg7 hg1
      | true =>
        have el : pl_lf P (pl_nd P o) 2 f t s = pl_ln (pl_nd P o) f t s := by unfold pl_lf; rw [hua]; rfl
        have hsome : ∃ r, pl_nd P o s = some r := by
          unfold pl_ua at hua
          cases h : pl_nd P o s with
          | none => rw [h] at hua; cases hua
          | some r => exact ⟨r, rfl⟩
        obtain ⟨r, hr⟩ := hsome
        have hll := pl_ln_le hbd ho8 hf ht s
        rw [if_neg (show ¬ b01 true = 0 by decide), ev_lengthOf hN hbd hft (show s < 8 by omega) hr, el]
        have r7 : ∀ x : Int32, hm_up M 47 s x 37 7 = nI g := fun x => by rw [hm_rd_ne (by omega)]; exact hg7
        simp only [hg, hm_gd, hc, hm_st, hwv s (by omega), nI_add, r7]
        rw [nI_maxi (by omega) (by omega)]
        have out0 : sc_oT M (hm_up (hm_up M 47 s (nI (wv s + pl_ln (pl_nd P o) f t s))) 37 7 (nI (max g (pl_ln (pl_nd P o) f t s)))) := ⟨fun i h1 h2 => by rw [hm_up_ne h1, hm_up_ne h2], fun k hk => by rw [hm_rd_ne (by omega), hm_rd_ne (by omega)]⟩
        obtain ⟨M2, e2, out2, v2, g2⟩ := ih d (s + 1) _ (fun q => if q = s then wv q + pl_lf P (pl_nd P o) 2 f t q else wv q) (max g (pl_ln (pl_nd P o) f t s)) (sm + pl_ln (pl_nd P o) f t s) (by omega) (by omega) (sc_R_oT hR out0) (sc_NR_oT (Or.inl rfl) hN0 out0) (sc_NR_oT (Or.inr (Or.inl rfl)) hN out0) (fun q hq => by
          rw [hm_rd_ne (by omega)]
          by_cases h : q = s
          · subst h
            rw [hm_rd_eq, if_pos rfl, el]
          · rw [hm_rd_ne (fun z => h z.2), if_neg h]
            exact hwv q hq) hm_rd_eq (by omega)
        exact ⟨M2, by rw [e2, Nat.add_assoc], sc_oT_trans out0 out2, v2, g2⟩
theorem ev_mtih {P : pl_X} (hw : pl_wf P) {o w : Nat} (hou : pl_ou P = some (o, w)) {f t f0 t0 : Int} (hft : f ≤ t + 1) (hf : 0 ≤ f) (ht : t ≤ 100) {M : hm_M} {wv : Nat → Nat} {g : Nat} (hR : sc_R M P) (hN0 : sc_NR M 38 (pl_nd P o) f0 t0) (hN : sc_NR M 42 (pl_nd P o) f t) (hwv : ∀ q, q < 8 → M 47 q = nI (wv q)) (hg7 : M 37 7 = nI g) (hg1 : g ≤ 1000) :
    ∃ M', f_Plan_measureTileInHand M = some (nI (pl_sg (pl_lf P (pl_nd P o) 2 f t) 0 o), M') ∧ sc_oT M M' ∧ (∀ q, q < 8 → M' 47 q = nI (pl_wg (pl_lf P (pl_nd P o) 2 f t) wv 0 o q)) ∧ M' 37 7 = nI (pl_mg (pl_lf P (pl_nd P o) 2 f t) g 0 o) := by
  have := ev_mtih4 hw hou hft hf ht (f0 := f0) (t0 := t0) 1000 o 0 M wv g 0 (by omega) (by have := hw.2.1; have := (hw.2.2.2.1 o w hou).1; omega) hR hN0 hN hwv hg7 hg1
  rw [Nat.zero_add] at this
  exact this
/-! tiles -/
def pl_nt (P : pl_X) (w : Nat) : Nat := (w + pl_T P - 1) / pl_T P
def pl_tf (P : pl_X) (t : Nat) : Int := (t * pl_T P : Nat)
def pl_tl (P : pl_X) (w t : Nat) : Int := (min (t * pl_T P + pl_T P) w : Nat) - 1
theorem pl_tile {P : pl_X} (hw : pl_wf P) {o w t : Nat} (hou : pl_ou P = some (o, w)) (ht : t < pl_nt P w) : t * pl_T P < w ∧ 0 ≤ pl_tf P t ∧ pl_tf P t ≤ pl_tl P w t ∧ pl_tl P w t ≤ (w : Int) - 1 ∧ (w : Int) ≤ 32 := by
  obtain ⟨h1, h2⟩ := hw.2.2.1
  obtain ⟨-, hw1, hw2⟩ := hw.2.2.2.1 o w hou
  unfold pl_nt at ht
  have h3 : t * pl_T P < w := by
    have h4 : (t + 1) * pl_T P ≤ w + pl_T P - 1 := by
      have := (Nat.le_div_iff_mul_le (show 0 < pl_T P by omega)).mp (show t + 1 ≤ (w + pl_T P - 1) / pl_T P by omega)
      exact this
    rw [Nat.succ_mul] at h4
    omega
  unfold pl_tf pl_tl
  refine ⟨h3, by omega, by omega, by omega, by omega⟩
theorem pl_nt_le {P : pl_X} (hw : pl_wf P) {o w : Nat} (hou : pl_ou P = some (o, w)) : pl_nt P w ≤ 32 := by
  obtain ⟨h1, h2⟩ := hw.2.2.1
  obtain ⟨-, hw1, hw2⟩ := hw.2.2.2.1 o w hou
  unfold pl_nt
  have := Nat.div_le_of_le_mul (m := w + pl_T P - 1) (n := w) (k := pl_T P) (by
    have : pl_T P * w ≥ w + pl_T P - 1 := by
      have h5 : (pl_T P - 1) * (w - 1) ≥ 0 := Nat.zero_le _
      have h6 : pl_T P * w = (pl_T P - 1) * (w - 1) + (w + pl_T P - 1) := by
        obtain ⟨a, ha⟩ : ∃ a, pl_T P = a + 1 := ⟨pl_T P - 1, by omega⟩
        obtain ⟨b, hb⟩ : ∃ b, w = b + 1 := ⟨w - 1, by omega⟩
        rw [ha, hb, Nat.succ_mul, Nat.mul_succ]
        simp
        omega
      omega
    omega)
  omega
theorem ev_tileCount {P : pl_X} (hw : pl_wf P) {o w : Nat} (hou : pl_ou P = some (o, w)) {M : hm_M} (hR : sc_R M P) : f_Pipe_tileCount M = some (nI (pl_nt P w), M) := by
  obtain ⟨h1, h2⟩ := hw.2.2.1
  obtain ⟨-, hw1, hw2⟩ := hw.2.2.2.1 o w hou
  unfold f_Pipe_tileCount
  rw [hR.2.1, (sc_out15 hR hou).2, nI_add, show (1 : Int32) = nI 1 from rfl, pk_sub (by omega), pk_div (by omega) (by omega) (by omega)]
  rw [hm_gd_t (decide_eq_true (nI_ne0 (by omega) (by omega)))]
  rfl
theorem ev_tileFirst {P : pl_X} {M : hm_M} (hR : sc_R M P) (t : Nat) : f_Pipe_tileFirst M (nI t) = some (iI (pl_tf P t), M) := by
  unfold f_Pipe_tileFirst
  rw [hR.2.1, pk_mul]
  rfl
theorem ev_tileLast {P : pl_X} (hw : pl_wf P) {o w t : Nat} (hou : pl_ou P = some (o, w)) {M : hm_M} (hR : sc_R M P) (ht : t < 1000) : f_Pipe_tileLast M (nI t) = some (iI (pl_tl P w t), M) := by
  obtain ⟨h1, h2⟩ := hw.2.2.1
  obtain ⟨-, hw1, hw2⟩ := hw.2.2.2.1 o w hou
  have hb : t * pl_T P ≤ 1000 * 32 := Nat.mul_le_mul (by omega) h2
  unfold f_Pipe_tileLast
  rw [ev_tileFirst hR]
  simp only [hm_bI, hR.2.1, (sc_out15 hR hou).2]
  unfold pl_tf pl_tl
  rw [iI_nat (pl_T P), iI_add, iI_nat w, iI_min (by omega) (by omega) (by omega) (by omega), lit_1, iI_sub]
  congr 3
  omega
