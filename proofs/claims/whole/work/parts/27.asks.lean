/-! WHICH STAGES HAVE A TILED ONE TO WORK OUT -/
def pl_an (P : pl_X) : Nat → Nat → Bool
  | 0, _ => false
  | n + 1, s => (pl_tp P s).any (fun t => match t.1 with
    | none => false
    | some q => decide (pl_md P q = 2) || (decide (pl_md P q = 0) && pl_an P n q))
def pl_ak (P : pl_X) (s : Nat) : Bool := pl_an P (s + 1) s
/-- a source that is tiled, or inline and asks for a tiled one -/
def pl_pt (P : pl_X) (q : Nat) : Bool := decide (pl_md P q = 2) || (decide (pl_md P q = 0) && pl_ak P q)
def pl_pk (P : pl_X) (t : pl_Tap) : Bool := match t.1 with
  | none => false
  | some q => pl_pt P q
theorem pl_any_congr {f g : pl_Tap → Bool} : ∀ (l : List pl_Tap), (∀ t ∈ l, f t = g t) → l.any f = l.any g
  | [], _ => rfl
  | t :: l, h => by
    rw [List.any_cons, List.any_cons, h t List.mem_cons_self, pl_any_congr l (fun t' ht => h t' (List.mem_cons_of_mem _ ht))]
theorem pl_an_any {P : pl_X} (hw : pl_wf P) (s : Nat) : ∀ (n m : Nat), s < n → s < m → pl_an P n s = pl_an P m s := by
  induction s using Nat.strongRecOn with
  | _ s ih =>
    intro n m hn hm
    cases n with
    | zero => omega
    | succ n =>
      cases m with
      | zero => omega
      | succ m =>
        unfold pl_an
        refine pl_any_congr _ (fun t ht => ?_)
        cases hq : t.1 with
        | none => rfl
        | some q =>
          have hqs : q < s := ((hw.2.2.2.2.1 s).2.2.2 t ht).1 q hq
          simp only [ih q hqs n m (by omega) (by omega)]
theorem pl_ak_eq {P : pl_X} (hw : pl_wf P) (s : Nat) : pl_ak P s = (pl_tp P s).any (pl_pk P) := by
  unfold pl_ak
  show (pl_tp P s).any _ = _
  refine pl_any_congr _ (fun t ht => ?_)
  unfold pl_pk
  cases hq : t.1 with
  | none => rfl
  | some q =>
    have hqs : q < s := ((hw.2.2.2.2.1 s).2.2.2 t ht).1 q hq
    simp only [pl_pt, pl_ak, pl_an_any hw q s (q + 1) hqs (by omega)]
def b01 (b : Bool) : Int32 := if b then 1 else 0
theorem b01_01 (b : Bool) : decide (b01 b = 0 ∨ b01 b = 1) = true := by cases b <;> decide
theorem b01_0 {b : Bool} : b01 b = 0 ↔ b = false := by cases b <;> decide
theorem nI_md {m : Nat} (h : m ≤ 2) : (nI m = 2 ↔ m = 2) ∧ (nI m = 0 ↔ m = 0) ∧ (nI m = 1 ↔ m = 1) := by
  rcases (show m = 0 ∨ m = 1 ∨ m = 2 by omega) with rfl | rfl | rfl <;> decide
theorem ev_hasTiled2 {P : pl_X} (hw : pl_wf P) {s : Nat} (hs8 : s < 8) {M : hm_M} (hR : sc_R M P) (ha : ∀ j, j < s → M 46 j = b01 (pl_ak P j)) :
    ∀ (n k : Nat), k ≤ (pl_tp P s).length → (pl_tp P s).length - k < n → f_Plan_hasTiledToWorkOut_2 n (5 + 4 * s) (nI k) M = some (b01 (((pl_tp P s).drop k).any (pl_pk P)), M) := by
  obtain ⟨-, -, hlen, htap⟩ := hw.2.2.2.2.1 s
  obtain ⟨-, -, -, e3, eT⟩ := hR.2.2.2.2 s hs8
  intro n
  induction n with
  | zero => intro k _ h; omega
  | succ n ih =>
    intro k hk hn
    rw [f_Plan_hasTiledToWorkOut_2, e3]
    by_cases hkl : k = (pl_tp P s).length
    · subst hkl
      rw [if_pos ((nI_lei (by omega) (by omega)).mpr (Nat.le_refl _)), List.drop_length]
      rfl
    · have hk2 : k < (pl_tp P s).length := by omega
      rw [if_neg (fun z => hkl (by have := (nI_lei (by omega) (by omega)).mp z; omega))]
      have hg : hm_ix (nI k) 4 = true := nI_ix (by omega) (by decide)
      have hc : (nI k).toNatClampNeg = k := nI_clamp (by omega)
      obtain ⟨t1, t2, t3⟩ := eT k (pl_tp P s)[k] (List.getElem?_eq_getElem hk2)
      obtain ⟨o1, o2, o3⟩ := htap (pl_tp P s)[k] (List.getElem_mem hk2)
      rw [pl_drop hk2, List.any_cons]
      simp only [hg, hm_gd, hc, t1, f_Plan_hasTiledToWorkOut_61, f_Plan_hasTiledToWorkOut_59, nI_s]
      cases hq : (pl_tp P s)[k].1 with
      | none =>
        have e0 : pl_pk P (pl_tp P s)[k] = false := by unfold pl_pk; rw [hq]
        rw [if_pos (show pl_src none = -1 from rfl), e0, Bool.false_or]
        exact ih (k + 1) (by omega) (by omega)
      | some q =>
        have hqs := o1 q hq
        have e0 : pl_pk P (pl_tp P s)[k] = pl_pt P q := by unfold pl_pk; rw [hq]
        have hgq : hm_ix (nI q) 8 = true := nI_ix (by omega) (by decide)
        have hcq : (nI q).toNatClampNeg = q := nI_clamp (by omega)
        obtain ⟨m2, m0, -⟩ := nI_md (hw.2.2.2.2.1 q).2.1
        rw [if_neg (show ¬ pl_src (some q) = -1 from nI_ne_m1 (show q < 1000 by omega)), show pl_src (some q) = nI q from rfl, e0]
        simp only [hgq, hcq, (hR.2.2.2.2 q (by omega)).2.2.1, ha q hqs]
        unfold pl_pt
        by_cases c2 : pl_md P q = 2
        · rw [if_pos (m2.mpr c2), decide_eq_true c2, Bool.true_or, Bool.true_or]
          rfl
        · rw [if_neg (fun z => c2 (m2.mp z)), decide_eq_false c2, Bool.false_or]
          by_cases c0 : pl_md P q = 0
          · rw [if_pos (m0.mpr c0), decide_eq_true c0, Bool.true_and]
            cases hak : pl_ak P q with
            | false =>
              rw [if_pos (by decide), Bool.false_or]
              exact ih (k + 1) (by omega) (by omega)
            | true =>
              rw [if_neg (by decide), Bool.true_or]
              rfl
          · rw [if_neg (fun z => c0 (m0.mp z)), decide_eq_false c0, Bool.false_and, Bool.false_or]
            exact ih (k + 1) (by omega) (by omega)
theorem ev_hasTiled {P : pl_X} (hw : pl_wf P) {s : Nat} (hs8 : s < 8) {M : hm_M} (hR : sc_R M P) (ha : ∀ j, j < s → M 46 j = b01 (pl_ak P j)) : f_Plan_hasTiledToWorkOut M (5 + 4 * s) = some (b01 (pl_ak P s), M) := by
  have h4 := (hw.2.2.2.2.1 s).2.2.1
  have := ev_hasTiled2 hw hs8 hR ha 1000 0 (by omega) (by omega)
  rw [List.drop_zero, ← pl_ak_eq hw] at this
  exact this
/-- used in the needs st, with mode m -/
def pl_ua (P : pl_X) (st : pl_N) (s m : Nat) : Bool := (st s).isSome && decide (pl_md P s = m)
theorem ev_isUsedAs {P : pl_X} (hw : pl_wf P) {M : hm_M} (hR : sc_R M P) {st : pl_N} {f t : Int} (hN : sc_NR M 38 st f t) {s m : Nat} (hs8 : s < 8) (hm : m ≤ 2) : f_Plan_isUsedAs M (nI s) (nI m) = some (b01 (pl_ua P st s m), M) := by
  have hg : hm_ix (nI s) 8 = true := nI_ix hs8 (by decide)
  have hc : (nI s).toNatClampNeg = s := nI_clamp (by omega)
  have h0 := hN s hs8
  have hmd := (hw.2.2.2.2.1 s).2.1
  unfold f_Plan_isUsedAs f_Plan_isUsedAs_32 f_Plan_isUsedAs_33
  simp only [hg, hm_gd, hc, (hR.2.2.2.2 s hs8).2.2.1]
  unfold pl_ua
  cases hst : st s with
  | none =>
    rw [hst] at h0
    rw [if_pos h0]
    rfl
  | some r =>
    rw [hst] at h0
    rw [if_neg (show ¬ M 39 s = 0 by rw [show M 39 s = 1 from h0.1]; decide)]
    by_cases c : pl_md P s = m
    · rw [if_pos (by rw [c]), decide_eq_true c]
      rfl
    · rw [if_neg (fun z => c ((nI_eqi (by omega) (by omega)).mp z)), decide_eq_false c]
      rfl
/-- the first of n places from s on -/
def pl_fs (p : Nat → Bool) : Nat → Nat → Option Nat
  | 0, _ => none
  | n + 1, s => if p s then some s else pl_fs p n (s + 1)
def pl_lr (P : pl_X) (o : Nat) : Option Nat := pl_fs (fun s => pl_ua P (pl_nd P o) s 1 && pl_ak P s) o 0
def sc_o46 (M M' : hm_M) : Prop := ∀ i, i ≠ 46 → M' i = M i
theorem sc_R_o46 {M M' : hm_M} {P : pl_X} (h : sc_R M P) (e : sc_o46 M M') : sc_R M' P :=
  sc_R_keep h (fun i hi => e i (by rcases hi with rfl | rfl | ⟨_, _⟩ <;> omega))
theorem sc_NR_o46 {M M' : hm_M} {a : Nat} {st : pl_N} {f t : Int} (ha : a = 38 ∨ a = 42 ∨ a = 49) (h : sc_NR M a st f t) (e : sc_o46 M M') : sc_NR M' a st f t := by
  intro q hq
  rw [e (a + 1) (by omega), e (a + 2) (by omega), e (a + 3) (by omega)]
  exact h q hq
theorem ev_least2 {P : pl_X} (hw : pl_wf P) {o w : Nat} (hou : pl_ou P = some (o, w)) {f t : Int} :
    ∀ (n s : Nat) (M : hm_M), s ≤ o → o - s < n → sc_R M P → sc_NR M 38 (pl_nd P o) f t → (∀ j, j < s → M 46 j = b01 (pl_ak P j)) →
      ∃ M', f_Plan_leastRootThatAsksTiled_2 n (nI s) M = some (match pl_fs (fun s => pl_ua P (pl_nd P o) s 1 && pl_ak P s) (o - s) s with
        | none => -1
        | some r => nI r, M') ∧ sc_o46 M M' := by
  obtain ⟨ho, hw1, hw2⟩ := hw.2.2.2.1 o w hou
  have ho8 : o < 8 := by have := hw.2.1; omega
  intro n
  induction n with
  | zero => intro s M _ h; omega
  | succ n ih =>
    intro s M hs hn hR hN ha
    have h15 : M 1 5 = nI o := by
      have := hR.2.2.1
      rw [hou] at this
      exact this.1
    rw [f_Plan_leastRootThatAsksTiled_2, h15]
    by_cases hso : s = o
    · subst hso
      rw [if_pos ((nI_lei (by omega) (by omega)).mpr (Nat.le_refl _)), Nat.sub_self]
      exact ⟨M, rfl, fun _ _ => rfl⟩
    · rw [if_neg (fun z => hso (by have := (nI_lei (by omega) (by omega)).mp z; omega))]
      have hg : hm_ix (nI s) 8 = true := nI_ix (by omega) (by decide)
      have hc : (nI s).toNatClampNeg = s := nI_clamp (by omega)
      simp only [hg, hm_gd, hc, ev_hasTiled hw (show s < 8 by omega) hR ha, hm_bI, b01_01, hm_st]
      have out0 : sc_o46 M (hm_up M 46 s (b01 (pl_ak P s))) := fun i hi => hm_up_ne hi
      have hR1 := sc_R_o46 hR out0
      have hN1 := sc_NR_o46 (Or.inl rfl) hN out0
      have hu := ev_isUsedAs hw hR1 hN1 (show s < 8 by omega) (show 1 ≤ 2 by omega)
      rw [show (1 : Int32) = nI 1 from rfl]
      simp only [hu, hm_rd_eq]
      have ha1 : ∀ j, j < s + 1 → hm_up M 46 s (b01 (pl_ak P s)) 46 j = b01 (pl_ak P j) := fun j hj => by
        by_cases hjs : j = s
        · subst hjs
          exact hm_rd_eq
        · rw [hm_rd_ne (fun z => hjs z.2)]
          exact ha j (by omega)
      have hos : o - s = (o - (s + 1)) + 1 := by omega
      rw [hos]
      unfold pl_fs
      have next : ∃ M', f_Plan_leastRootThatAsksTiled_52 (fun x1 M => f_Plan_leastRootThatAsksTiled_2 n x1 M) (nI s) (hm_up M 46 s (b01 (pl_ak P s))) = some (match pl_fs (fun s => pl_ua P (pl_nd P o) s 1 && pl_ak P s) (o - (s + 1)) (s + 1) with
        | none => -1
        | some r => nI r, M') ∧ sc_o46 M M' := by
        unfold f_Plan_leastRootThatAsksTiled_52
        rw [nI_s]
        obtain ⟨M2, e2, out2⟩ := ih (s + 1) _ (by omega) (by omega) hR1 hN1 ha1
        exact ⟨M2, e2, fun i hi => (out2 i hi).trans (out0 i hi)⟩
      cases hua : pl_ua P (pl_nd P o) s 1 with
      | false =>
        rw [if_pos (show b01 false = 0 by decide), Bool.false_and, if_neg (by decide)]
        exact next
      | true =>
        rw [if_neg (show ¬ b01 true = 0 by decide), Bool.true_and]
        cases hak : pl_ak P s with
        | false =>
          rw [if_pos (show b01 false = 0 by decide), if_neg (by decide)]
          rw [hak] at next
          exact next
        | true =>
          rw [if_neg (show ¬ b01 true = 0 by decide), if_pos rfl]
          exact ⟨_, rfl, by rw [hak] at out0; exact out0⟩
theorem ev_least {P : pl_X} (hw : pl_wf P) {o w : Nat} (hou : pl_ou P = some (o, w)) {f t : Int} {M : hm_M} (hR : sc_R M P) (hN : sc_NR M 38 (pl_nd P o) f t) :
    ∃ M', f_Plan_leastRootThatAsksTiled M = some (match pl_lr P o with
      | none => -1
      | some r => nI r, M') ∧ sc_o46 M M' :=
  ev_least2 hw hou 1000 0 M (by omega) (by have := hw.2.1; have := (hw.2.2.2.1 o w hou).1; omega) hR hN (fun j hj => by omega)
