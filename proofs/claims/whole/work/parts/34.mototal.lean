theorem ev_mtot95 {P : pl_X} (hw : pl_wf P) {o w : Nat} (hou : pl_ou P = some (o, w)) :
    ∀ (n d t : Nat) (M : mo_M) (wv : Nat → Nat) (f0 t0 : Int), t + d = pl_nt P w → d < n → mo_R M.1 P → mo_NR M.1 (pl_nd P o) f0 t0 → (∀ q, q < 8 → M.2 14 q = lN (wv q)) → pl_Z (pl_nd P o) wv →
      ∃ M', f_Mo_total_95 n (nI t) M = some (lN (pl_dn P (o + 1) (pl_wt P o w d t wv, 0)).2, M') ∧ mo_oX M M' ∧ ∀ q, q < 8 → M'.2 14 q = lN ((pl_dn P (o + 1) (pl_wt P o w d t wv, 0)).1 q) := by
  obtain ⟨ho, hw1, hw2⟩ := hw.2.2.2.1 o w hou
  have ho8 : o < 8 := by have := hw.2.1; omega
  have hbd := pl_nd_bd hw o
  have hnt := pl_nt_le hw hou
  intro n
  induction n with
  | zero => intro d t M wv f0 t0 _ h; omega
  | succ n ih =>
    intro d t M wv f0 t0 htd hn hR hN hwv hZ
    rw [f_Mo_total_95, ev_mtiles0 hw hou hR]
    simp only [hm_bI]
    cases d with
    | zero =>
      rw [if_pos ((nI_lei (by omega) (by omega)).mpr (by omega)), (mo_out11 hR hou).1]
      obtain ⟨M1, e1, u1, v1⟩ := ev_mtot171 hw ho8 (f := f0) (t := t0) 1000 (o + 1) M wv 0 (by omega) (by omega) hR hN hwv hZ
      have eo : iI (((o + 1 : Nat) : Int) - 1) = nI o := by rw [iI_nat]; congr 1; omega
      rw [eo] at e1
      exact ⟨M1, e1, fun i _ _ _ => by rw [u1], v1⟩
    | succ d =>
      rw [if_neg (fun z => by have := (nI_lei (by omega) (by omega)).mp z; omega)]
      obtain ⟨p1, p2, p3, p4, p5⟩ := pl_tile hw hou (show t < pl_nt P w by omega)
      obtain ⟨M1, e1, out1, N1⟩ := ev_needTile hw hou (show t < pl_nt P w by omega) hR
      rw [e1]
      simp only [hm_bV]
      have oX1 : mo_oX M M1 := out1.2
      obtain ⟨M2, e2, u2, v2⟩ := ev_mtot110 hw hou (f := pl_tf P t) (t := pl_tl P w t) (by omega) (by omega) (by omega) (k95 := fun x1 M => f_Mo_total_95 n x1 M) (x1 := nI t) 1000 o 0 M1 wv (by omega) (by omega) (mo_R_oX hR oX1) N1 (by rw [out1.1]; exact hwv)
      rw [show (0 : Int32) = nI 0 from rfl, e2, nI_s]
      have oX2 : mo_oX M M2 := fun i a b c => by rw [u2]; exact oX1 i a b c
      obtain ⟨M3, e3, out3, v3⟩ := ih d (t + 1) M2 (pl_wg (pl_F P o w t) wv 0 o) _ _ (by omega) (by omega) (mo_R_oX hR oX2) (by rw [u2]; exact N1) v2 (fun q hq => by
        unfold pl_wg
        have hF : pl_F P o w t q = 0 := by
          unfold pl_F pl_lf pl_ua
          rw [hq]
          rfl
        rw [hF, hZ q hq]
        split <;> rfl)
      exact ⟨M3, e3, mo_oX_trans oX2 out3, v3⟩
theorem ev_mtot48 {P : pl_X} (hw : pl_wf P) {o w : Nat} (hou : pl_ou P = some (o, w)) :
    ∀ (n d s : Nat) (M : mo_M) (wv : Nat → Nat), s + d = o → d < n → mo_R M.1 P → mo_NR M.1 (pl_nd P o) 0 ((w : Int) - 1) → (∀ q, q < 8 → M.2 14 q = lN (wv q)) → pl_Z (pl_nd P o) wv →
      ∃ M', f_Mo_total_48 n (nI s) M = some (lN (pl_dn P (o + 1) (pl_wt P o w (pl_nt P w) 0 (pl_rs P o w wv s d), 0)).2, M') ∧ mo_oX M M' ∧ ∀ q, q < 8 → M'.2 14 q = lN ((pl_dn P (o + 1) (pl_wt P o w (pl_nt P w) 0 (pl_rs P o w wv s d), 0)).1 q) := by
  obtain ⟨ho, hw1, hw2⟩ := hw.2.2.2.1 o w hou
  have ho8 : o < 8 := by have := hw.2.1; omega
  have hbd := pl_nd_bd hw o
  have hnt := pl_nt_le hw hou
  intro n
  induction n with
  | zero => intro d s M wv _ h; omega
  | succ n ih =>
    intro d s M wv hsd hn hR hN hwv hZ
    rw [f_Mo_total_48, (mo_out11 hR hou).1]
    cases d with
    | zero =>
      rw [if_pos ((nI_lei (by omega) (by omega)).mpr (by omega))]
      have e0 : pl_rs P o w wv s 0 = wv := by
        funext q
        unfold pl_rs
        rw [if_neg (by omega)]
      rw [e0]
      exact ev_mtot95 hw hou 1000 (pl_nt P w) 0 M wv 0 ((w : Int) - 1) (by omega) (by omega) hR hN hwv hZ
    | succ d =>
      rw [if_neg (fun z => by have := (nI_lei (by omega) (by omega)).mp z; omega), show (1 : Int32) = nI 1 from rfl, ev_mkeptlt hw hou hR hN (show s < o by omega) (show 1 ≤ 2 by omega)]
      have hg : hm_ix (nI s) 8 = true := nI_ix (by omega) (by decide)
      have hc : (nI s).toNatClampNeg = s := nI_clamp (by omega)
      simp only [hm_bI, f_Mo_total_87, nI_s]
      cases hua : pl_ua P (pl_nd P o) s 1 with
      | false =>
        rw [if_pos (show b01 false = 0 by decide)]
        have e0 : pl_rs P o w wv s (d + 1) = pl_rs P o w wv (s + 1) d := by
          funext q
          unfold pl_rs
          by_cases h : (s + 1 ≤ q ∧ q < s + 1 + d) ∧ pl_ua P (pl_nd P o) q 1 = true
          · rw [if_pos h, if_pos ⟨by omega, h.2⟩]
          · rw [if_neg h]
            by_cases h2 : q = s
            · subst h2
              rw [if_neg (by rw [hua]; simp)]
            · rw [if_neg (fun z => h ⟨by omega, z.2⟩)]
        rw [e0]
        exact ih d (s + 1) M wv (by omega) (by omega) hR hN hwv hZ
      | true =>
        obtain ⟨r, hr⟩ := pl_ua_some hua
        have el : pl_L P o w s = pl_ln (pl_nd P o) 0 ((w : Int) - 1) s := by unfold pl_L pl_lf; rw [hua]; rfl
        have hll := pl_ln_le hbd ho8 (f := 0) (t := (w : Int) - 1) (by omega) (by omega) s
        rw [if_neg (show ¬ b01 true = 0 by decide)]
        have hlen := ev_mlen hN hbd (by omega) (show s < 8 by omega) hr
        rw [show (1 : Int32) = nI 1 from rfl] at hlen
        simp only [hg, hm_gd, hc, mo_sl, hlen, nI_l (show pl_ln (pl_nd P o) 0 ((w : Int) - 1) s < 2 ^ 31 by omega)]
        have e0 : pl_rs P o w wv s (d + 1) = pl_rs P o w (fun q => if q = s then pl_L P o w q else wv q) (s + 1) d := by
          funext q
          unfold pl_rs
          by_cases h : (s + 1 ≤ q ∧ q < s + 1 + d) ∧ pl_ua P (pl_nd P o) q 1 = true
          · rw [if_pos h, if_pos ⟨by omega, h.2⟩]
          · rw [if_neg h]
            by_cases h2 : q = s
            · subst h2
              rw [if_pos ⟨by omega, hua⟩]
              simp
            · rw [if_neg (fun z => h ⟨by omega, z.2⟩)]
              simp [h2]
        rw [e0]
        obtain ⟨M2, e2, out2, v2⟩ := ih d (s + 1) (M.1, hm_lup M.2 14 s (lN (pl_ln (pl_nd P o) 0 ((w : Int) - 1) s))) (fun q => if q = s then pl_L P o w q else wv q) (by omega) (by omega) hR hN (fun q hq => by
          dsimp only
          rw [hm_rdl]
          by_cases h : q = s
          · subst h
            rw [if_pos ⟨rfl, rfl⟩, if_pos rfl, el]
          · rw [if_neg (fun z => h z.2), if_neg h]
            exact hwv q hq) (fun q hq => by
          have hne : ¬ q = s := fun e => by rw [e, hr] at hq; cases hq
          simp [hne, hZ q hq])
        exact ⟨M2, e2, out2, v2⟩
theorem ev_mtot2 {P : pl_X} (hw : pl_wf P) {o w : Nat} (hou : pl_ou P = some (o, w)) :
    ∀ (n k : Nat) (M : mo_M), k ≤ 8 → 8 - k < n → mo_R M.1 P → (∀ j, j < k → M.2 14 j = 0) →
      ∃ M', f_Mo_total_2 n (nI k) M = some (lN (pl_tt P o w), M') ∧ mo_oX M M' ∧ ∀ q, q < 8 → M'.2 14 q = lN (pl_wk P o w q) := by
  obtain ⟨ho, hw1, hw2⟩ := hw.2.2.2.1 o w hou
  have ho8 : o < 8 := by have := hw.2.1; omega
  intro n
  induction n with
  | zero => intro k M _ h; omega
  | succ n ih =>
    intro k M hk hn hR hz
    rw [f_Mo_total_2]
    by_cases hk8 : k = 8
    · subst hk8
      rw [if_pos (show (8 : Int32) ≤ nI 8 by decide), (mo_out11 hR hou).1, hm_gd_t (nI_ix ho8 (by decide)), nI_clamp (show o < 2 ^ 31 by omega), (mo_out11 hR hou).2, nI_l (show w < 2 ^ 31 by omega)]
      simp only [mo_sl, (mo_out11 hR hou).2]
      have ew : nI w - 1 = iI ((w : Int) - 1) := by rw [iI_nat, lit_1, iI_sub]
      rw [ew, lit_0]
      obtain ⟨M1, e1, out1, N1⟩ := ev_mneed hw hou (f := 0) (t := (w : Int) - 1) (by omega) (by omega) (M := (M.1, hm_lup M.2 14 o (lN w))) hR
      rw [e1]
      simp only [hm_bV]
      have oX1 : mo_oX M M1 := out1.2
      obtain ⟨M2, e2, out2, v2⟩ := ev_mtot48 hw hou 1000 o 0 M1 (pl_w0 o w) (by omega) (by omega) (mo_R_oX hR oX1) N1 (fun q hq => by
        rw [out1.1]
        dsimp only
        rw [hm_rdl]
        unfold pl_w0
        by_cases h : q = o
        · rw [if_pos ⟨rfl, h⟩, if_pos h]
        · rw [if_neg (fun z => h z.2), if_neg h, hz q hq]; rfl) (fun q hq => by
        unfold pl_w0
        rw [if_neg (fun e => by rw [e, pl_nd_o hw] at hq; cases hq)])
      exact ⟨M2, e2, mo_oX_trans oX1 out2, v2⟩
    · rw [if_neg (show ¬ (8 : Int32) ≤ nI k from fun q => by have := (nI_lei (a := 8) (b := k) (by omega) (by omega)).mp q; omega), hm_gd_t (nI_ix (show k < 8 by omega) (by decide)), nI_clamp (show k < 2 ^ 31 by omega), nI_s]
      obtain ⟨M2, e2, o2, z2⟩ := ih (k + 1) (M.1, hm_lup M.2 14 k 0) (by omega) (by omega) hR (fun j hj => by
        dsimp only
        rw [hm_rdl]
        by_cases h : j = k
        · rw [if_pos ⟨rfl, h⟩]
        · rw [if_neg (fun z => h z.2)]; exact hz j (by omega))
      exact ⟨M2, e2, o2, z2⟩
theorem ev_mtotal {P : pl_X} (hw : pl_wf P) {o w : Nat} (hou : pl_ou P = some (o, w)) {M : mo_M} (hR : mo_R M.1 P) :
    ∃ M', f_Mo_total M = some (lN (pl_tt P o w), M') ∧ mo_oX M M' ∧ ∀ q, q < 8 → M'.2 14 q = lN (pl_wk P o w q) :=
  ev_mtot2 hw hou 1000 0 M (by omega) (by omega) hR (fun j hj => by omega)
/-! greatest -/
theorem ev_great23 {P : pl_X} (hw : pl_wf P) {o w : Nat} (hou : pl_ou P = some (o, w)) {f t : Int} (hft : f ≤ t + 1) (hf : 0 ≤ f) (ht : t ≤ 100) {k4 : Int32 → Int32 → Int32 → mo_M → Option (Int32 × mo_M)} (tg : Bool) {most x3 : Nat} (hmost : most < 100000) {M : mo_M} (hR : mo_R M.1 P) (hN : mo_NR M.1 (pl_nd P o) f t) :
    ∀ (n d s sm : Nat), s + d = o → d < n → sm + d * 1000 < 100000 → f_Mo_greatest_23 k4 n (b01 tg) (nI most) (nI x3) (nI sm) (nI s) M = k4 (b01 tg) (nI (max most (if tg then sm + pl_sg (pl_lf P (pl_nd P o) 2 f t) s d else pl_mg (pl_lf P (pl_nd P o) 2 f t) sm s d))) (nI (x3 + 1)) M := by
  obtain ⟨ho, hw1, hw2⟩ := hw.2.2.2.1 o w hou
  have ho8 : o < 8 := by have := hw.2.1; omega
  have hbd := pl_nd_bd hw o
  intro n
  induction n with
  | zero => intro d s sm _ h; omega
  | succ n ih =>
    intro d s sm hsd hn hb
    rw [f_Mo_greatest_23, (mo_out11 hR hou).1]
    cases d with
    | zero =>
      rw [if_pos ((nI_lei (by omega) (by omega)).mpr (by omega))]
      unfold pl_sg pl_mg f_Mo_greatest_108
      have ei : (if tg = true then sm + 0 else sm) = sm := by cases tg <;> rfl
      rw [ei, nI_s]
      by_cases c : sm ≤ most
      · rw [if_pos ((nI_lei (by omega) (by omega)).mpr c), Nat.max_eq_left c]
      · rw [if_neg (fun z => c ((nI_lei (by omega) (by omega)).mp z)), Nat.max_eq_right (by omega)]
    | succ d =>
      rw [if_neg (fun z => by have := (nI_lei (by omega) (by omega)).mp z; omega), show (2 : Int32) = nI 2 from rfl, ev_mkeptlt hw hou hR hN (show s < o by omega) (show 2 ≤ 2 by omega)]
      have hg : hm_ix (nI s) 8 = true := nI_ix (by omega) (by decide)
      have hc : (nI s).toNatClampNeg = s := nI_clamp (by omega)
      have key : ∀ v : Nat, v = pl_lf P (pl_nd P o) 2 f t s → v ≤ 1000 → f_Mo_greatest_63 k4 (fun x1 x2 x3 x4 x5 M => f_Mo_greatest_23 k4 n x1 x2 x3 x4 x5 M) (b01 tg) (nI most) (nI x3) (nI sm) (nI s) (nI v) M = k4 (b01 tg) (nI (max most (if tg then sm + pl_sg (pl_lf P (pl_nd P o) 2 f t) s (d + 1) else pl_mg (pl_lf P (pl_nd P o) 2 f t) sm s (d + 1)))) (nI (x3 + 1)) M := by
        intro v hv hv2
        unfold f_Mo_greatest_63 f_Mo_greatest_91 pl_sg pl_mg
        rw [← hv]
        cases tg with
        | false =>
          rw [if_pos (show b01 false = 0 by decide), if_neg (show ¬ (false = true) by decide)]
          have := ih d (s + 1) (max sm v) (by omega) (by omega) (by omega)
          rw [if_neg (show ¬ (false = true) by decide)] at this
          rw [nI_s]
          by_cases c : v ≤ sm
          · rw [if_pos ((nI_lei (by omega) (by omega)).mpr c)]
            have em : max sm v = sm := Nat.max_eq_left c
            rw [em] at this ⊢
            exact this
          · rw [if_neg (fun z => c ((nI_lei (by omega) (by omega)).mp z))]
            have em : max sm v = v := Nat.max_eq_right (by omega)
            rw [em] at this ⊢
            exact this
        | true =>
          rw [if_neg (show ¬ b01 true = 0 by decide), if_pos rfl, nI_add, nI_s]
          have := ih d (s + 1) (sm + v) (by omega) (by omega) (by omega)
          rw [if_pos rfl, Nat.add_assoc] at this
          exact this
      simp only [hm_bI]
      cases hua : pl_ua P (pl_nd P o) s 2 with
      | false =>
        rw [if_pos (show b01 false = 0 by decide), show (0 : Int32) = nI 0 from rfl]
        exact key 0 (by unfold pl_lf; rw [hua]; rfl) (by omega)
      | true =>
        obtain ⟨r, hr⟩ := pl_ua_some hua
        have hll := pl_ln_le hbd ho8 hf ht s
        rw [if_neg (show ¬ b01 true = 0 by decide)]
        simp only [hg, hm_gd, hc, ev_mlen hN hbd hft (show s < 8 by omega) hr]
        exact key _ (by unfold pl_lf; rw [hua]; rfl) hll
theorem ev_great4 {P : pl_X} (hw : pl_wf P) {o w : Nat} (hou : pl_ou P = some (o, w)) (tg : Bool) :
    ∀ (n d t most : Nat) (M : mo_M), t + d = pl_nt P w → d < n → most ≤ 10000 → mo_R M.1 P →
      ∃ M', f_Mo_greatest_4 n (b01 tg) (nI most) (nI t) M = some (nI (if tg then pl_gs P o w d t most else pl_gt P o w d t most), M') ∧ mo_out M M' := by
  obtain ⟨ho, hw1, hw2⟩ := hw.2.2.2.1 o w hou
  have ho8 : o < 8 := by have := hw.2.1; omega
  have hbd := pl_nd_bd hw o
  have hnt := pl_nt_le hw hou
  intro n
  induction n with
  | zero => intro d t most M _ h; omega
  | succ n ih =>
    intro d t most M htd hn hm hR
    rw [f_Mo_greatest_4, ev_mtiles0 hw hou hR]
    simp only [hm_bI]
    cases d with
    | zero =>
      rw [if_pos ((nI_lei (by omega) (by omega)).mpr (by omega))]
      refine ⟨M, ?_, mo_out_refl M⟩
      cases tg <;> rfl
    | succ d =>
      rw [if_neg (fun z => by have := (nI_lei (by omega) (by omega)).mp z; omega)]
      obtain ⟨p1, p2, p3, p4, p5⟩ := pl_tile hw hou (show t < pl_nt P w by omega)
      obtain ⟨M1, e1, out1, N1⟩ := ev_needTile hw hou (show t < pl_nt P w by omega) hR
      rw [e1]
      simp only [hm_bV]
      have hR1 := mo_R_out hR out1
      have e2 := ev_great23 hw hou (f := pl_tf P t) (t := pl_tl P w t) (by omega) (by omega) (by omega) (k4 := fun x1 x2 x3 M => f_Mo_greatest_4 n x1 x2 x3 M) tg (most := most) (x3 := t) (by omega) hR1 N1 1000 o 0 0 (by omega) (by omega) (by omega)
      rw [show (0 : Int32) = nI 0 from rfl, e2]
      have hF : ∀ q, pl_F P o w t q ≤ 1000 := fun q => pl_lf_le hbd ho8 (by omega) (by omega) q
      have hsum : pl_sg (pl_F P o w t) 0 o ≤ o * 1000 := pl_sg_le hF o 0
      have hmx : pl_mg (pl_F P o w t) 0 0 o ≤ 1000 := pl_mg_le o 0 0 (by omega) hF
      obtain ⟨M2, e3, out2⟩ := ih d (t + 1) (max most (if tg then 0 + pl_sg (pl_F P o w t) 0 o else pl_mg (pl_F P o w t) 0 0 o)) M1 (by omega) (by omega) (by cases tg <;> simp <;> omega) hR1
      refine ⟨M2, ?_, mo_out_trans out1 out2⟩
      show f_Mo_greatest_4 n (b01 tg) (nI (max most (if tg then 0 + pl_sg (pl_F P o w t) 0 o else pl_mg (pl_F P o w t) 0 0 o))) (nI (t + 1)) M1 = _
      rw [e3]
      cases tg with
      | false => rfl
      | true =>
        simp only [if_true, Nat.zero_add]
        rfl
theorem ev_great {P : pl_X} (hw : pl_wf P) {o w : Nat} (hou : pl_ou P = some (o, w)) (tg : Bool) {M : mo_M} (hR : mo_R M.1 P) :
    ∃ M', f_Mo_greatest M (b01 tg) = some (nI (if tg then pl_gs P o w (pl_nt P w) 0 0 else pl_gn P o w), M') ∧ mo_out M M' :=
  ev_great4 hw hou tg 1000 (pl_nt P w) 0 0 M (by omega) (by have := pl_nt_le hw hou; omega) (by omega) hR
