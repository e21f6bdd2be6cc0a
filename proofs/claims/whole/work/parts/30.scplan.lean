/-! over all tiles: works, the greatest need, the greatest sum -/
def pl_F (P : pl_X) (o w t : Nat) : Nat → Nat := pl_lf P (pl_nd P o) 2 (pl_tf P t) (pl_tl P w t)
def pl_wt (P : pl_X) (o w : Nat) : Nat → Nat → (Nat → Nat) → (Nat → Nat)
  | 0, _, wv => wv
  | n + 1, t, wv => pl_wt P o w n (t + 1) (pl_wg (pl_F P o w t) wv 0 o)
def pl_gt (P : pl_X) (o w : Nat) : Nat → Nat → Nat → Nat
  | 0, _, g => g
  | n + 1, t, g => pl_gt P o w n (t + 1) (max g (pl_mg (pl_F P o w t) 0 0 o))
def pl_gs (P : pl_X) (o w : Nat) : Nat → Nat → Nat → Nat
  | 0, _, g => g
  | n + 1, t, g => pl_gs P o w n (t + 1) (max g (pl_sg (pl_F P o w t) 0 o))
def sc_oW (M M' : hm_M) : Prop := (∀ i, i ≠ 37 → i ≠ 47 → (i < 43 ∨ 45 < i) → M' i = M i) ∧ ∀ k, k ≠ 6 → k ≠ 7 → M' 37 k = M 37 k
theorem sc_oW_refl (M : hm_M) : sc_oW M M := ⟨fun _ _ _ _ => rfl, fun _ _ _ => rfl⟩
theorem sc_oW_trans {M M' M'' : hm_M} (h : sc_oW M M') (h' : sc_oW M' M'') : sc_oW M M'' := ⟨fun i a b c => (h'.1 i a b c).trans (h.1 i a b c), fun k a b => (h'.2 k a b).trans (h.2 k a b)⟩
theorem sc_oW_out {M M' : hm_M} (h : sc_out 42 M M') : sc_oW M M' := ⟨fun i _ _ h3 => h i (by omega) (by omega) (by omega), fun k _ _ => congrFun (h 37 (by omega) (by omega) (by omega)) k⟩
theorem sc_oW_oT {M M' : hm_M} (h : sc_oT M M') : sc_oW M M' := ⟨fun i h1 h2 _ => h.1 i h1 h2, fun k _ h7 => h.2 k h7⟩
theorem sc_R_oW {M M' : hm_M} {P : pl_X} (h : sc_R M P) (e : sc_oW M M') : sc_R M' P :=
  sc_R_keep h (fun i hi => e.1 i (by rcases hi with rfl | rfl | ⟨_, _⟩ <;> omega) (by rcases hi with rfl | rfl | ⟨_, _⟩ <;> omega) (by rcases hi with rfl | rfl | ⟨_, _⟩ <;> omega))
theorem sc_NR_oW {M M' : hm_M} {st : pl_N} {f t : Int} (h : sc_NR M 38 st f t) (e : sc_oW M M') : sc_NR M' 38 st f t :=
  sc_NR_eq h (e.1 _ (by omega) (by omega) (by omega)) (e.1 _ (by omega) (by omega) (by omega)) (e.1 _ (by omega) (by omega) (by omega))
theorem ev_mtiles4 {P : pl_X} (hw : pl_wf P) {o w : Nat} (hou : pl_ou P = some (o, w)) {f0 t0 : Int} :
    ∀ (n d t : Nat) (M : hm_M) (wv : Nat → Nat) (g gs rm : Nat), t + d = pl_nt P w → d < n → sc_R M P → sc_NR M 38 (pl_nd P o) f0 t0 → (∀ q, q < 8 → M 47 q = nI (wv q)) → M 37 7 = nI g → g ≤ 1000 → gs ≤ 10000 → M 37 6 = nI rm →
      ∃ M', f_Plan_measureTiles_4 n (nI gs) (nI t) M = some M' ∧ sc_oW M M' ∧ (∀ q, q < 8 → M' 47 q = nI (pl_wt P o w d t wv q)) ∧ M' 37 7 = nI (pl_gt P o w d t g) ∧ M' 37 6 = nI (rm + pl_gs P o w d t gs) := by
  obtain ⟨ho, hw1, hw2⟩ := hw.2.2.2.1 o w hou
  have ho8 : o < 8 := by have := hw.2.1; omega
  have hbd := pl_nd_bd hw o
  have hnt := pl_nt_le hw hou
  intro n
  induction n with
  | zero => intro d t M wv g gs rm _ h; omega
  | succ n ih =>
    intro d t M wv g gs rm htd hn hR hN0 hwv hg7 hg1 hgs hrm
    rw [f_Plan_measureTiles_4, ev_tileCount hw hou hR]
    simp only [hm_bI]
    cases d with
    | zero =>
      rw [if_pos ((nI_lei (by omega) (by omega)).mpr (by omega))]
      simp only [hm_st, hrm, nI_add]
      refine ⟨_, rfl, ⟨fun i h1 _ _ => hm_up_ne h1, fun k h6 _ => hm_rd_ne (by omega)⟩, fun q hq => ?_, ?_, hm_rd_eq⟩
      · rw [hm_rd_ne (by omega)]; exact hwv q hq
      · rw [hm_rd_ne (by omega)]; exact hg7
    | succ d =>
      rw [if_neg (fun z => by have := (nI_lei (by omega) (by omega)).mp z; omega), ev_tileFirst hR]
      simp only
      rw [ev_tileLast hw hou hR (by omega)]
      simp only
      obtain ⟨p1, p2, p3, p4, p5⟩ := pl_tile hw hou (show t < pl_nt P w by omega)
      obtain ⟨M1, e1, out1, N1⟩ := ev_spread hw (a := 42) (by omega) hou (f := pl_tf P t) (t := pl_tl P w t) (by omega) (by omega) hR
      rw [e1]
      simp only [hm_bV]
      have oW1 := sc_oW_out out1
      have hR1 := sc_R_oW hR oW1
      have h37 : M1 37 = M 37 := out1 37 (by omega) (by omega) (by omega)
      have h47 : M1 47 = M 47 := out1 47 (by omega) (by omega) (by omega)
      obtain ⟨M2, e2, out2, v2, g2⟩ := ev_mtih hw hou (f := pl_tf P t) (t := pl_tl P w t) (f0 := f0) (t0 := t0) (by omega) (by omega) (by omega) (wv := wv) (g := g) hR1 (sc_NR_oW hN0 oW1) N1 (by rw [h47]; exact hwv) (by rw [h37]; exact hg7) hg1
      rw [e2]
      simp only
      have hF : ∀ q, pl_F P o w t q ≤ 1000 := fun q => pl_lf_le hbd ho8 (by omega) (by omega) q
      have hsum : pl_sg (pl_F P o w t) 0 o ≤ o * 1000 := pl_sg_le hF o 0
      have hmx : pl_mg (pl_F P o w t) g 0 o ≤ 1000 := pl_mg_le o g 0 hg1 hF
      have emx : pl_mg (pl_F P o w t) g 0 o = max g (pl_mg (pl_F P o w t) 0 0 o) := pl_mg_max _ _ _ _
      show ∃ M', f_Plan_measureTiles_4 n (if nI gs < nI (pl_sg (pl_F P o w t) 0 o) then nI (pl_sg (pl_F P o w t) 0 o) else nI gs) (nI t + 1) M2 = some M' ∧ _
      rw [nI_maxi (by omega) (by omega), nI_s]
      have oW2 := sc_oW_trans oW1 (sc_oW_oT out2)
      obtain ⟨M3, e3, out3, v3, g3, r3⟩ := ih d (t + 1) M2 (pl_wg (pl_F P o w t) wv 0 o) (pl_mg (pl_F P o w t) g 0 o) (max gs (pl_sg (pl_F P o w t) 0 o)) rm (by omega) (by omega) (sc_R_oW hR oW2) (sc_NR_oW hN0 oW2) v2 g2 hmx (by omega) (by rw [out2.2 6 (by omega), h37]; exact hrm)
      refine ⟨M3, e3, sc_oW_trans oW2 out3, v3, ?_, r3⟩
      rw [g3, emx]
      rfl
theorem ev_mtiles {P : pl_X} (hw : pl_wf P) {o w : Nat} (hou : pl_ou P = some (o, w)) {f0 t0 : Int} {M : hm_M} {wv : Nat → Nat} {rm : Nat} (hR : sc_R M P) (hN0 : sc_NR M 38 (pl_nd P o) f0 t0) (hwv : ∀ q, q < 8 → M 47 q = nI (wv q)) (hg7 : M 37 7 = nI 0) (hrm : M 37 6 = nI rm) :
    ∃ M', f_Plan_measureTiles M = some M' ∧ sc_oW M M' ∧ (∀ q, q < 8 → M' 47 q = nI (pl_wt P o w (pl_nt P w) 0 wv q)) ∧ M' 37 7 = nI (pl_gt P o w (pl_nt P w) 0 0) ∧ M' 37 6 = nI (rm + pl_gs P o w (pl_nt P w) 0 0) :=
  ev_mtiles4 hw hou 1000 (pl_nt P w) 0 M wv 0 0 rm (by omega) (by have := pl_nt_le hw hou; omega) hR hN0 hwv hg7 (by omega) (by omega) hrm
/-! roots -/
def pl_L (P : pl_X) (o w : Nat) : Nat → Nat := pl_lf P (pl_nd P o) 1 0 ((w : Int) - 1)
def pl_rs (P : pl_X) (o w : Nat) (wv : Nat → Nat) (s n : Nat) : Nat → Nat := fun q => if (s ≤ q ∧ q < s + n) ∧ pl_ua P (pl_nd P o) q 1 = true then pl_L P o w q else wv q
def sc_oR (M M' : hm_M) : Prop := (∀ i, i ≠ 37 → i ≠ 47 → M' i = M i) ∧ ∀ k, k ≠ 6 → M' 37 k = M 37 k
theorem sc_oR_trans {M M' M'' : hm_M} (h : sc_oR M M') (h' : sc_oR M' M'') : sc_oR M M'' := ⟨fun i a b => (h'.1 i a b).trans (h.1 i a b), fun k a => (h'.2 k a).trans (h.2 k a)⟩
theorem sc_R_oR {M M' : hm_M} {P : pl_X} (h : sc_R M P) (e : sc_oR M M') : sc_R M' P :=
  sc_R_keep h (fun i hi => e.1 i (by rcases hi with rfl | rfl | ⟨_, _⟩ <;> omega) (by rcases hi with rfl | rfl | ⟨_, _⟩ <;> omega))
theorem sc_NR_oR {M M' : hm_M} {a : Nat} {st : pl_N} {f t : Int} (ha : a = 38 ∨ a = 42 ∨ a = 49) (h : sc_NR M a st f t) (e : sc_oR M M') : sc_NR M' a st f t :=
  sc_NR_eq h (e.1 _ (by omega) (by omega)) (e.1 _ (by omega) (by omega)) (e.1 _ (by omega) (by omega))
theorem pl_ua_some {P : pl_X} {st : pl_N} {s m : Nat} (h : pl_ua P st s m = true) : ∃ r, st s = some r := by
  unfold pl_ua at h
  cases hs : st s with
  | none => rw [hs] at h; cases h
  | some r => exact ⟨r, rfl⟩
theorem ev_mroots2 {P : pl_X} (hw : pl_wf P) {o w : Nat} (hou : pl_ou P = some (o, w)) :
    ∀ (n d s : Nat) (M : hm_M) (wv : Nat → Nat) (rm : Nat), s + d = o → d < n → sc_R M P → sc_NR M 38 (pl_nd P o) 0 ((w : Int) - 1) → (∀ q, q < 8 → M 47 q = nI (wv q)) → M 37 6 = nI rm →
      ∃ M', f_Plan_measureRoots_2 n (nI s) M = some M' ∧ sc_oR M M' ∧ (∀ q, q < 8 → M' 47 q = nI (pl_rs P o w wv s d q)) ∧ M' 37 6 = nI (rm + pl_sg (pl_L P o w) s d) := by
  obtain ⟨ho, hw1, hw2⟩ := hw.2.2.2.1 o w hou
  have ho8 : o < 8 := by have := hw.2.1; omega
  have hbd := pl_nd_bd hw o
  intro n
  induction n with
  | zero => intro d s M wv rm _ h; omega
  | succ n ih =>
    intro d s M wv rm hsd hn hR hN hwv hrm
    rw [f_Plan_measureRoots_2, (sc_out15 hR hou).1]
    cases d with
    | zero =>
      rw [if_pos ((nI_lei (by omega) (by omega)).mpr (by omega))]
      refine ⟨M, rfl, ⟨fun _ _ _ => rfl, fun _ _ => rfl⟩, fun q hq => ?_, hrm⟩
      unfold pl_rs
      rw [if_neg (by omega)]
      exact hwv q hq
    | succ d =>
      rw [if_neg (fun z => by have := (nI_lei (by omega) (by omega)).mp z; omega)]
      have hg : hm_ix (nI s) 8 = true := nI_ix (by omega) (by decide)
      have hc : (nI s).toNatClampNeg = s := nI_clamp (by omega)
      rw [show (1 : Int32) = nI 1 from rfl, ev_isUsedAs hw hR hN (show s < 8 by omega) (show 1 ≤ 2 by omega)]
      simp only [hm_bI, f_Plan_measureRoots_51, nI_s]
      unfold pl_sg
      cases hua : pl_ua P (pl_nd P o) s 1 with
      | false =>
        have el : pl_L P o w s = 0 := by unfold pl_L pl_lf; rw [hua]; rfl
        rw [if_pos (show b01 false = 0 by decide), el, Nat.zero_add]
        obtain ⟨M2, e2, out2, v2, r2⟩ := ih d (s + 1) M wv rm (by omega) (by omega) hR hN hwv hrm
        refine ⟨M2, e2, out2, fun q hq => ?_, r2⟩
        rw [v2 q hq]
        unfold pl_rs
        by_cases h : (s + 1 ≤ q ∧ q < s + 1 + d) ∧ pl_ua P (pl_nd P o) q 1 = true
        · rw [if_pos h, if_pos ⟨by omega, h.2⟩]
        · rw [if_neg h]
          by_cases h2 : q = s
          · subst h2
            rw [if_neg (by rw [hua]; simp)]
          · rw [if_neg (fun z => h ⟨by omega, z.2⟩)]
      | true =>
        obtain ⟨r, hr⟩ := pl_ua_some hua
        have el : pl_L P o w s = pl_ln (pl_nd P o) 0 ((w : Int) - 1) s := by unfold pl_L pl_lf; rw [hua]; rfl
        rw [if_neg (show ¬ b01 true = 0 by decide), ev_lengthOf hN hbd (by omega) (show s < 8 by omega) hr, ← el]
        have r6 : ∀ x : Int32, hm_up M 47 s x 37 6 = nI rm := fun x => by rw [hm_rd_ne (by omega)]; exact hrm
        simp only [hg, hm_gd, hc, hm_st, r6, hm_rd_eq, nI_add]
        have out0 : sc_oR M (hm_up (hm_up M 47 s (nI (pl_L P o w s))) 37 6 (nI (rm + pl_L P o w s))) := ⟨fun i h1 h2 => by rw [hm_up_ne h1, hm_up_ne h2], fun k hk => by rw [hm_rd_ne (by omega), hm_rd_ne (by omega)]⟩
        obtain ⟨M2, e2, out2, v2, r2⟩ := ih d (s + 1) _ (fun q => if q = s then pl_L P o w q else wv q) (rm + pl_L P o w s) (by omega) (by omega) (sc_R_oR hR out0) (sc_NR_oR (Or.inl rfl) hN out0) (fun q hq => by
          rw [hm_rd_ne (by omega)]
          by_cases h : q = s
          · subst h
            rw [hm_rd_eq]
            simp
          · rw [hm_rd_ne (fun z => h z.2)]
            simp [h, hwv q hq]) hm_rd_eq
        refine ⟨M2, e2, sc_oR_trans out0 out2, fun q hq => ?_, by rw [r2, Nat.add_assoc]⟩
        rw [v2 q hq]
        unfold pl_rs
        by_cases h : (s + 1 ≤ q ∧ q < s + 1 + d) ∧ pl_ua P (pl_nd P o) q 1 = true
        · rw [if_pos h, if_pos ⟨by omega, h.2⟩]
        · rw [if_neg h]
          by_cases h2 : q = s
          · subst h2
            rw [if_pos ⟨by omega, hua⟩]
            simp
          · rw [if_neg (fun z => h ⟨by omega, z.2⟩)]
            simp [h2]
