/-! THE REFERENCE'S WORK -/
/-- only needs and works are changed -/
def mo_oX (M M' : mo_M) : Prop := ∀ i, i ≠ 11 → i ≠ 12 → i ≠ 13 → M'.1 i = M.1 i
theorem mo_oX_refl (M : mo_M) : mo_oX M M := fun _ _ _ _ => rfl
theorem mo_oX_trans {M M' M'' : mo_M} (h : mo_oX M M') (h' : mo_oX M' M'') : mo_oX M M'' := fun i a b c => (h' i a b c).trans (h i a b c)
theorem mo_R_oX {M M' : mo_M} {P : pl_X} (h : mo_R M.1 P) (e : mo_oX M M') : mo_R M'.1 P := mo_R_keep h (fun i hi => e i (by omega) (by omega) (by omega))
theorem mo_out11 {m : hm_M} {P : pl_X} {o w : Nat} (hR : mo_R m P) (hou : pl_ou P = some (o, w)) : m 0 11 = nI o ∧ m 0 12 = nI w := by
  have := hR.2.2.2.1
  rw [hou] at this
  exact this
def mo_U (m : hm_M) (st : pl_N) : Prop := ∃ f t, mo_NR m st f t
theorem ev_mkept {P : pl_X} (hw : pl_wf P) {o w : Nat} (hou : pl_ou P = some (o, w)) {M : mo_M} (hR : mo_R M.1 P) {st : pl_N} {f t : Int} (hN : mo_NR M.1 st f t) {s m : Nat} (hs8 : s < 8) (hm : m ≤ 2) : f_Mo_kept M (nI s) (nI m) = some (b01 (pl_ua P st s m && decide (¬ s = o)), M) := by
  have ho8 : o < 8 := by have := hw.2.1; have := (hw.2.2.2.1 o w hou).1; omega
  have hg : hm_ix (nI s) 8 = true := nI_ix hs8 (by decide)
  have hc : (nI s).toNatClampNeg = s := nI_clamp (by omega)
  have h0 := hN s hs8
  have hmd := (hw.2.2.2.2.1 s).2.1
  unfold f_Mo_kept f_Mo_kept_31 f_Mo_kept_32
  simp only [hg, hm_gd, hc, (hR.2.2.2.2.2 s hs8).2.2.1, (mo_out11 hR hou).1]
  unfold pl_ua
  cases hst : st s with
  | none =>
    rw [hst] at h0
    rw [if_pos h0]
    rfl
  | some r =>
    rw [hst] at h0
    rw [if_neg (show ¬ M.1 11 s = 0 by rw [h0.1]; decide)]
    by_cases hso : s = o
    · have hd : decide (¬ s = o) = false := decide_eq_false (fun z => z hso)
      rw [if_pos (by rw [hso]), hd, Bool.and_false]
      rfl
    · rw [if_neg (fun z => hso ((nI_eqi (by omega) (by omega)).mp z)), decide_eq_true hso, Bool.and_true]
      by_cases c : pl_md P s = m
      · rw [if_pos (by rw [c]), decide_eq_true c]
        rfl
      · rw [if_neg (fun z => c ((nI_eqi (by omega) (by omega)).mp z)), decide_eq_false c]
        rfl
theorem ev_mkeptlt {P : pl_X} (hw : pl_wf P) {o w : Nat} (hou : pl_ou P = some (o, w)) {M : mo_M} (hR : mo_R M.1 P) {st : pl_N} {f t : Int} (hN : mo_NR M.1 st f t) {s m : Nat} (hso : s < o) (hm : m ≤ 2) : f_Mo_kept M (nI s) (nI m) = some (b01 (pl_ua P st s m), M) := by
  have ho8 : o < 8 := by have := hw.2.1; have := (hw.2.2.2.1 o w hou).1; omega
  rw [ev_mkept hw hou hR hN (by omega) hm, decide_eq_true (by omega), Bool.and_true]
theorem ev_mlen {m : hm_M} {o : Nat} {st : pl_N} {f t : Int} (hN : mo_NR m st f t) (hbd : pl_bd o st) (hft : f ≤ t + 1) {q : Nat} (hq : q < 8) {r : Int × Int} (hr : st q = some r) : m 13 q - m 12 q + 1 = nI (pl_ln st f t q) := by
  have h0 := hN q hq
  rw [hr] at h0
  obtain ⟨-, u2, u3⟩ := h0
  obtain ⟨h1, h2, h3, h4⟩ := hbd q r.1 r.2 hr
  rw [u2, u3, iI_sub, lit_1, iI_add]
  unfold pl_ln
  rw [hr, iI_nat]
  show iI (t + r.2 - (f + r.1) + 1) = iI (((t + r.2) - (f + r.1) + 1).toNat : Nat)
  congr 1
  omega
theorem ev_mtiles0 {P : pl_X} (hw : pl_wf P) {o w : Nat} (hou : pl_ou P = some (o, w)) {M : mo_M} (hR : mo_R M.1 P) : f_Mo_tiles M = some (nI (pl_nt P w), M) := by
  obtain ⟨h1, h2⟩ := hw.2.2.1
  obtain ⟨-, hw1, hw2⟩ := hw.2.2.2.1 o w hou
  unfold f_Mo_tiles
  rw [hR.2.2.1, (mo_out11 hR hou).2, nI_add, show (1 : Int32) = nI 1 from rfl, pk_sub (by omega), pk_div (by omega) (by omega) (by omega)]
  rw [hm_gd_t (decide_eq_true (nI_ne0 (by omega) (by omega)))]
  rfl
theorem ev_needTile {P : pl_X} (hw : pl_wf P) {o w t : Nat} (hou : pl_ou P = some (o, w)) (ht : t < pl_nt P w) {M : mo_M} (hR : mo_R M.1 P) :
    ∃ M', f_Mo_needTile M (nI t) = some M' ∧ mo_out M M' ∧ mo_NR M'.1 (pl_nd P o) (pl_tf P t) (pl_tl P w t) := by
  obtain ⟨p1, p2, p3, p4, p5⟩ := pl_tile hw hou ht
  obtain ⟨h1, h2⟩ := hw.2.2.1
  have hb : t * pl_T P ≤ 32 := by omega
  obtain ⟨M', e, out, N⟩ := ev_mneed hw hou (f := pl_tf P t) (t := pl_tl P w t) (by omega) (by omega) hR
  refine ⟨M', ?_, out, N⟩
  unfold f_Mo_needTile f_Mo_needTile_47
  rw [hR.2.2.1, (mo_out11 hR hou).2, pk_mul, nI_add]
  have e1 : nI (t * pl_T P) = iI (pl_tf P t) := rfl
  have ew : nI w - 1 = iI ((w : Int) - 1) := by rw [iI_nat, lit_1, iI_sub]
  have et : nI (t * pl_T P + pl_T P) - 1 = iI (((t * pl_T P + pl_T P : Nat) : Int) - 1) := by rw [iI_nat, lit_1, iI_sub]
  rw [e1, ew, et]
  by_cases c : w ≤ t * pl_T P + pl_T P
  · rw [if_pos ((nI_lei (by omega) (by omega)).mpr c)]
    have : (w : Int) - 1 = pl_tl P w t := by unfold pl_tl; omega
    rw [this, e]
    rfl
  · rw [if_neg (fun z => c ((nI_lei (by omega) (by omega)).mp z))]
    have : ((t * pl_T P + pl_T P : Nat) : Int) - 1 = pl_tl P w t := by unfold pl_tl; omega
    rw [this, e]
    rfl
theorem ev_mtot110 {P : pl_X} (hw : pl_wf P) {o w : Nat} (hou : pl_ou P = some (o, w)) {f t : Int} (hft : f ≤ t + 1) (hf : 0 ≤ f) (ht : t ≤ 100) {k95 : Int32 → mo_M → Option (Int64 × mo_M)} {x1 : Int32} :
    ∀ (n d s : Nat) (M : mo_M) (wv : Nat → Nat), s + d = o → d < n → mo_R M.1 P → mo_NR M.1 (pl_nd P o) f t → (∀ q, q < 8 → M.2 14 q = lN (wv q)) →
      ∃ M', f_Mo_total_110 k95 n x1 (nI s) M = k95 (x1 + 1) M' ∧ M'.1 = M.1 ∧ ∀ q, q < 8 → M'.2 14 q = lN (pl_wg (pl_lf P (pl_nd P o) 2 f t) wv s d q) := by
  obtain ⟨ho, hw1, hw2⟩ := hw.2.2.2.1 o w hou
  have ho8 : o < 8 := by have := hw.2.1; omega
  have hbd := pl_nd_bd hw o
  intro n
  induction n with
  | zero => intro d s M wv _ h; omega
  | succ n ih =>
    intro d s M wv hsd hn hR hN hwv
    rw [f_Mo_total_110, (mo_out11 hR hou).1]
    cases d with
    | zero =>
      rw [if_pos ((nI_lei (by omega) (by omega)).mpr (by omega)), pl_wg_0]
      exact ⟨M, rfl, rfl, hwv⟩
    | succ d =>
      rw [if_neg (fun z => by have := (nI_lei (by omega) (by omega)).mp z; omega), show (2 : Int32) = nI 2 from rfl, ev_mkeptlt hw hou hR hN (show s < o by omega) (show 2 ≤ 2 by omega)]
      have hg : hm_ix (nI s) 8 = true := nI_ix (by omega) (by decide)
      have hc : (nI s).toNatClampNeg = s := nI_clamp (by omega)
      simp only [hm_bI, f_Mo_total_152, nI_s]
      rw [pl_wg_step]
      cases hua : pl_ua P (pl_nd P o) s 2 with
      | false =>
        have el : pl_lf P (pl_nd P o) 2 f t s = 0 := by unfold pl_lf; rw [hua]; rfl
        rw [if_pos (show b01 false = 0 by decide)]
        have ew : (fun q => if q = s then wv q + pl_lf P (pl_nd P o) 2 f t q else wv q) = wv := by
          funext q
          by_cases h : q = s
          · subst h; rw [if_pos rfl, el]; rfl
          · rw [if_neg h]
        rw [ew]
        exact ih d (s + 1) M wv (by omega) (by omega) hR hN hwv
      | true =>
        obtain ⟨r, hr⟩ := pl_ua_some hua
        have el : pl_lf P (pl_nd P o) 2 f t s = pl_ln (pl_nd P o) f t s := by unfold pl_lf; rw [hua]; rfl
        have hll := pl_ln_le hbd ho8 hf ht s
        rw [if_neg (show ¬ b01 true = 0 by decide)]
        simp only [hg, hm_gd, hc, mo_sl, ev_mlen hN hbd hft (show s < 8 by omega) hr, nI_l (show pl_ln (pl_nd P o) f t s < 2 ^ 31 by omega), hwv s (by omega), lN_add]
        obtain ⟨M2, e2, u2, v2⟩ := ih d (s + 1) (M.1, hm_lup M.2 14 s (lN (wv s + pl_ln (pl_nd P o) f t s))) (fun q => if q = s then wv q + pl_lf P (pl_nd P o) 2 f t q else wv q) (by omega) (by omega) hR hN (fun q hq => by
          dsimp only
          rw [hm_rdl]
          by_cases h : q = s
          · subst h
            rw [if_pos ⟨rfl, rfl⟩, if_pos rfl, el]
          · rw [if_neg (fun z => h z.2), if_neg h]
            exact hwv q hq)
        exact ⟨M2, e2, u2, v2⟩
theorem pl_iq_0 {P : pl_X} : ∀ (l : List pl_Tap) (w : Nat → Nat), pl_iq P 0 l w = w
  | [], w => rfl
  | t :: l, w => by
    unfold pl_iq
    cases hq : t.1 with
    | none => exact pl_iq_0 l w
    | some q =>
      by_cases hm : pl_md P q = 0
      · simp only [hm, if_true, Nat.add_zero, ite_self]
        exact pl_iq_0 l w
      · simp only [hm, if_false]
        exact pl_iq_0 l w
theorem ev_mtot180 {P : pl_X} (hw : pl_wf P) {s : Nat} (hs8 : s < 8) (v : Nat) {x1 : Int64} {k171 : Int64 → Int32 → mo_M → Option (Int64 × mo_M)} (us : Bool) :
    ∀ (n k : Nat) (M : mo_M) (wv : Nat → Nat), k ≤ (pl_tp P s).length → (pl_tp P s).length - k < n → mo_R M.1 P → M.1 11 s = b01 us → (∀ q, q < 8 → M.2 14 q = lN (wv q)) → wv s = v →
      ∃ M', f_Mo_total_180 k171 n x1 (nI s) (nI (4 * s + k)) M = k171 (x1 + lN v) (iI ((s : Int) - 1)) M' ∧ M'.1 = M.1 ∧ ∀ q, q < 8 → M'.2 14 q = lN (if us then pl_iq P v ((pl_tp P s).drop k) wv q else wv q) := by
  obtain ⟨-, -, hlen, htap⟩ := hw.2.2.2.2.1 s
  have hgs : hm_ix (nI s) 8 = true := nI_ix hs8 (by decide)
  have hcs : (nI s).toNatClampNeg = s := nI_clamp (by omega)
  have en : nI s + -1 = iI ((s : Int) - 1) := by
    rw [iI_nat, lit_m1, iI_add]; congr 1
  have el : nI s * 4 + nI (pl_tp P s).length = nI (4 * s + (pl_tp P s).length) := by rw [nI_m4, nI_add]
  intro n
  induction n with
  | zero => intro k M wv _ h; omega
  | succ n ih =>
    intro k M wv hk hn hR hu hwv hv
    obtain ⟨-, -, -, e3, eT⟩ := hR.2.2.2.2.2 s hs8
    rw [f_Mo_total_180]
    simp only [hgs, hm_gd, hcs, e3, el, en, hwv s hs8, hv, f_Mo_total_250, nI_s, hu]
    by_cases hkl : k = (pl_tp P s).length
    · subst hkl
      rw [if_pos ((nI_lei (by omega) (by omega)).mpr (Nat.le_refl _)), List.drop_length]
      refine ⟨M, rfl, rfl, fun q hq => ?_⟩
      cases us <;> exact hwv q hq
    · have hk2 : k < (pl_tp P s).length := by omega
      rw [if_neg (fun z => hkl (by have := (nI_lei (by omega) (by omega)).mp z; omega))]
      cases hus : us with
      | false =>
        rw [if_pos (show b01 false = 0 by decide)]
        obtain ⟨M2, e2, u2, v2⟩ := ih (k + 1) M wv (by omega) (by omega) hR hu hwv hv
        rw [hus] at v2
        exact ⟨M2, e2, u2, v2⟩
      | true =>
        rw [if_neg (show ¬ b01 true = 0 by decide)]
        have hg : hm_ix (nI (4 * s + k)) 32 = true := nI_ix (by omega) (by decide)
        have hc : (nI (4 * s + k)).toNatClampNeg = 4 * s + k := nI_clamp (by omega)
        obtain ⟨t1, t2, t3⟩ := eT k (pl_tp P s)[k] (List.getElem?_eq_getElem hk2)
        obtain ⟨o1, o2, o3⟩ := htap (pl_tp P s)[k] (List.getElem_mem hk2)
        rw [pl_drop hk2]
        simp only [hg, hc, t1]
        unfold pl_iq
        cases hq : (pl_tp P s)[k].1 with
        | none =>
          rw [if_pos (show pl_src none < 0 by decide)]
          obtain ⟨M2, e2, u2, v2⟩ := ih (k + 1) M wv (by omega) (by omega) hR hu hwv hv
          rw [hus] at v2
          exact ⟨M2, e2, u2, v2⟩
        | some q =>
          have hqs := o1 q hq
          have hgq : hm_ix (nI q) 8 = true := nI_ix (by omega) (by decide)
          have hcq : (nI q).toNatClampNeg = q := nI_clamp (by omega)
          obtain ⟨-, m0, -⟩ := nI_md (hw.2.2.2.2.1 q).2.1
          rw [if_neg (show ¬ pl_src (some q) < 0 from nI_pos (show q < 2 ^ 31 by omega)), show pl_src (some q) = nI q from rfl]
          simp only [hgq, hcq, (hR.2.2.2.2.2 q (by omega)).2.2.1, hwv q (by omega), mo_sl, lN_add]
          by_cases c0 : pl_md P q = 0
          · rw [if_pos (m0.mpr c0), if_pos c0]
            obtain ⟨M2, e2, u2, v2⟩ := ih (k + 1) (M.1, hm_lup M.2 14 q (lN (wv q + v))) (fun j => if j = q then wv j + v else wv j) (by omega) (by omega) hR hu (fun j hj => by
              dsimp only
              rw [hm_rdl]
              by_cases h : j = q
              · subst h
                rw [if_pos ⟨rfl, rfl⟩, if_pos rfl]
              · rw [if_neg (fun z => h z.2), if_neg h]
                exact hwv j hj) (by simp [show ¬ s = q by omega, hv])
            rw [hus] at v2
            exact ⟨M2, e2, u2, v2⟩
          · rw [if_neg (fun z => c0 (m0.mp z)), if_neg c0]
            obtain ⟨M2, e2, u2, v2⟩ := ih (k + 1) M wv (by omega) (by omega) hR hu hwv hv
            rw [hus] at v2
            exact ⟨M2, e2, u2, v2⟩
/-- who isn't used has no work -/
def pl_Z (st : pl_N) (w : Nat → Nat) : Prop := ∀ q, st q = none → w q = 0
theorem pl_iq_Z {P : pl_X} {st : pl_N} {v : Nat} : ∀ (l : List pl_Tap) (w : Nat → Nat), (∀ t ∈ l, ∀ q, t.1 = some q → st q ≠ none) → pl_Z st w → pl_Z st (pl_iq P v l w)
  | [], w, _, h => h
  | t :: l, w, hl, h => by
    unfold pl_iq
    refine pl_iq_Z l _ (fun t' ht => hl t' (List.mem_cons_of_mem _ ht)) ?_
    have h0 := hl t List.mem_cons_self
    cases hq : t.1 with
    | none => exact h
    | some q =>
      by_cases hm : pl_md P q = 0
      · simp only [hm, if_true]
        intro j hj
        have hne : ¬ j = q := fun e => h0 q hq (by rw [← e]; exact hj)
        simp [hne, h j hj]
      · simp only [hm, if_false]
        exact h
theorem ev_mtot171 {P : pl_X} (hw : pl_wf P) {o : Nat} (ho8 : o < 8) {f t : Int} :
    ∀ (n s : Nat) (M : mo_M) (wv : Nat → Nat) (tot : Nat), s ≤ o + 1 → s < n → mo_R M.1 P → mo_NR M.1 (pl_nd P o) f t → (∀ q, q < 8 → M.2 14 q = lN (wv q)) → pl_Z (pl_nd P o) wv →
      ∃ M', f_Mo_total_171 n (lN tot) (iI ((s : Int) - 1)) M = some (lN (pl_dn P s (wv, tot)).2, M') ∧ M'.1 = M.1 ∧ ∀ q, q < 8 → M'.2 14 q = lN ((pl_dn P s (wv, tot)).1 q) := by
  intro n
  induction n with
  | zero => intro s M wv tot _ h; omega
  | succ n ih =>
    intro s M wv tot hs hsn hR hN hwv hZ
    rw [f_Mo_total_171]
    cases s with
    | zero =>
      rw [if_pos (show iI (((0 : Nat) : Int) - 1) < 0 by decide)]
      exact ⟨M, rfl, rfl, hwv⟩
    | succ s =>
      have es : iI (((s + 1 : Nat) : Int) - 1) = nI s := by
        rw [iI_nat]; congr 1; omega
      have h4 := (hw.2.2.2.2.1 s).2.2.1
      rw [es, if_neg (nI_pos (show s < 2 ^ 31 by omega)), nI_m4]
      have h0 := hN s (by omega)
      have hu : M.1 11 s = b01 (pl_nd P o s).isSome := by
        cases hst : pl_nd P o s with
        | none => rw [hst] at h0; exact h0
        | some r => rw [hst] at h0; exact h0.1
      obtain ⟨M1, e1, u1, v1⟩ := ev_mtot180 hw (show s < 8 by omega) (wv s) (x1 := lN tot) (k171 := fun x1 x3 M => f_Mo_total_171 n x1 x3 M) _ 1000 0 M wv (by omega) (by omega) hR hu hwv rfl
      rw [Nat.add_zero] at e1
      rw [e1, lN_add]
      have hiq : (fun q => if (pl_nd P o s).isSome = true then pl_iq P (wv s) ((pl_tp P s).drop 0) wv q else wv q) = pl_iq P (wv s) (pl_tp P s) wv := by
        funext q
        rw [List.drop_zero]
        cases hst : pl_nd P o s with
        | none =>
          rw [hZ s hst, pl_iq_0]
          rfl
        | some r => rfl
      have hZ1 : pl_Z (pl_nd P o) (pl_iq P (wv s) (pl_tp P s) wv) := by
        cases hst : pl_nd P o s with
        | none => rw [hZ s hst, pl_iq_0]; exact hZ
        | some r =>
          refine pl_iq_Z _ _ (fun t ht q hq e => ?_) hZ
          obtain ⟨a', b', e', -⟩ := pl_nd_closed hw (show pl_nd P o s = some (r.1, r.2) from hst) t ht q hq
          rw [e] at e'
          cases e'
      obtain ⟨M2, e2, u2, v2⟩ := ih s M1 (pl_iq P (wv s) (pl_tp P s) wv) (tot + wv s) (by omega) (by omega) (by rw [u1]; exact hR) (by rw [u1]; exact hN) (fun q hq => by rw [v1 q hq]; exact congrArg lN (congrFun hiq q)) hZ1
      exact ⟨M2, e2, u2.trans u1, v2⟩
