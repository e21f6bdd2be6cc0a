/-! the reference's leans -/
theorem mk_bit : ∀ v, v < 256 → ∀ k, k < 8 → ((((nI v) >>> (nI k &&& 31)) &&& 1) = 0 ↔ v.testBit k = false) := by decide +kernel
theorem mk_or : ∀ v, v < 256 → ∀ q, q < 8 → nI v ||| ((1 : Int32) <<< (nI q &&& 31)) = nI (v ||| 2 ^ q) := by decide +kernel
theorem mk_lt : ∀ v, v < 256 → ∀ q, q < 8 → v ||| 2 ^ q < 256 := by decide +kernel
theorem mk_one : ∀ q, q < 8 → (1 : Int32) <<< (nI q &&& 31) = nI (2 ^ q) := by decide +kernel
theorem mk_1lt : ∀ q, q < 8 → 2 ^ q < 256 := by decide +kernel
theorem mk_1bit : ∀ q, q < 8 → ∀ j, j < 8 → (2 ^ q).testBit j = decide (j = q) := by decide +kernel
theorem mk_orbit (v q j : Nat) (hq : q < 8) (hj : j < 8) : (v ||| 2 ^ q).testBit j = (v.testBit j || decide (j = q)) := by
  rw [Nat.testBit_or, mk_1bit q hq j hj]
/-- the mask with the sources of l -/
def mk_add : List pl_Tap → Nat → Nat
  | [], v => v
  | t :: l, v => mk_add l (match t.1 with
    | none => v
    | some q => v ||| 2 ^ q)
theorem mk_add_lt {s : Nat} (hs : s ≤ 8) : ∀ (l : List pl_Tap) (v : Nat), v < 256 → (∀ t ∈ l, ∀ q, t.1 = some q → q < s) → mk_add l v < 256
  | [], v, h, _ => h
  | t :: l, v, h, hl => by
    unfold mk_add
    refine mk_add_lt hs l _ ?_ (fun t' ht => hl t' (List.mem_cons_of_mem _ ht))
    have := hl t List.mem_cons_self
    cases hq : t.1 with
    | none => exact h
    | some q => exact mk_lt v h q (by have := this q hq; omega)
theorem mk_add_bit {s j : Nat} (hs : s ≤ 8) (hj : j < 8) : ∀ (l : List pl_Tap) (v : Nat), (∀ t ∈ l, ∀ q, t.1 = some q → q < s) → (mk_add l v).testBit j = (v.testBit j || l.any (fun t => decide (t.1 = some j)))
  | [], v, _ => by simp [mk_add]
  | t :: l, v, hl => by
    unfold mk_add
    rw [mk_add_bit hs hj l _ (fun t' ht => hl t' (List.mem_cons_of_mem _ ht)), List.any_cons]
    have := hl t List.mem_cons_self
    cases hq : t.1 with
    | none => simp
    | some q =>
      have hqs := this q hq
      show ((v ||| 2 ^ q).testBit j || _) = _
      rw [mk_orbit v q j (by omega) hj, Bool.or_assoc]
      have e1 : decide (j = q) = decide (some q = some j) := by
        by_cases h : j = q
        · simp [h]
        · simp [h, Ne.symm h]
      rw [e1]
theorem ev_leans69 {P : pl_X} (hw : pl_wf P) {s k : Nat} (hk8 : k < 8) {M : mo_M} (hR : mo_R M.1 P) {k6 : Int32 → Int32 → Int32 → mo_M → Option (Int32 × mo_M)} (th : Bool) :
    ∀ (n i v : Nat), i ≤ (pl_tp P k).length → (pl_tp P k).length - i < n → v < 256 → f_Mo_leans_69 k6 n (nI s) (nI v) (nI k) (b01 th) (nI (4 * k + i)) M = k6 (nI s) (nI (if th then mk_add ((pl_tp P k).drop i) v else v)) (iI ((k : Int) - 1)) M := by
  obtain ⟨-, -, hlen, htap⟩ := hw.2.2.2.2.1 k
  obtain ⟨-, -, -, e3, eT⟩ := hR.2.2.2.2.2 k hk8
  have hgk : hm_ix (nI k) 8 = true := nI_ix (by omega) (by decide)
  have hck : (nI k).toNatClampNeg = k := nI_clamp (by omega)
  have el : nI k * 4 + nI (pl_tp P k).length = nI (4 * k + (pl_tp P k).length) := by rw [nI_m4, nI_add]
  have en : nI k + -1 = iI ((k : Int) - 1) := by
    rw [iI_nat, lit_m1, iI_add]; congr 1
  intro n
  induction n with
  | zero => intro i v _ h; omega
  | succ n ih =>
    intro i v hi hn hv
    rw [f_Mo_leans_69]
    simp only [hgk, hm_gd, hck, e3, el, en, f_Mo_leans_111, nI_s]
    by_cases hil : i = (pl_tp P k).length
    · subst hil
      rw [if_pos ((nI_lei (by omega) (by omega)).mpr (Nat.le_refl _)), List.drop_length]
      cases th <;> rfl
    · have hi2 : i < (pl_tp P k).length := by omega
      rw [if_neg (fun z => hil (by have := (nI_lei (by omega) (by omega)).mp z; omega))]
      cases hth : th with
      | false =>
        rw [if_pos (show b01 false = 0 by decide), if_neg (by decide)]
        have := ih (i + 1) v (by omega) (by omega) hv
        rw [hth, if_neg (by decide)] at this
        exact this
      | true =>
        rw [if_neg (show ¬ b01 true = 0 by decide), if_pos rfl]
        have hg : hm_ix (nI (4 * k + i)) 32 = true := nI_ix (by omega) (by decide)
        have hc : (nI (4 * k + i)).toNatClampNeg = 4 * k + i := nI_clamp (by omega)
        obtain ⟨t1, t2, t3⟩ := eT i (pl_tp P k)[i] (List.getElem?_eq_getElem hi2)
        obtain ⟨o1, o2, o3⟩ := htap (pl_tp P k)[i] (List.getElem_mem hi2)
        rw [pl_drop hi2]
        simp only [hg, hc, t1]
        unfold mk_add
        cases hq : (pl_tp P k)[i].1 with
        | none =>
          rw [if_pos (show pl_src none < 0 by decide)]
          have := ih (i + 1) v (by omega) (by omega) hv
          rw [hth, if_pos rfl] at this
          exact this
        | some q =>
          have hqs := o1 q hq
          rw [if_neg (show ¬ pl_src (some q) < 0 from nI_pos (show q < 2 ^ 31 by omega)), show pl_src (some q) = nI q from rfl, mk_or v hv q (by omega)]
          have := ih (i + 1) (v ||| 2 ^ q) (by omega) (by omega) (mk_lt v hv q (by omega))
          rw [hth, if_pos rfl] at this
          exact this
/-- is one of the first k stages in the mask, and tiled or inline and asking -/
def mk_ex (P : pl_X) (v : Nat) : Nat → Bool
  | 0 => false
  | k + 1 => (v.testBit k && pl_pt P k) || mk_ex P v k
theorem mk_ex_add {P : pl_X} (l : List pl_Tap) (v : Nat) {s : Nat} (hs : s ≤ 8) (hl : ∀ t ∈ l, ∀ q, t.1 = some q → q < s) : ∀ k, k ≤ 8 → mk_ex P (mk_add l v) k = (mk_ex P v k || l.any (fun t => match t.1 with
    | none => false
    | some q => decide (q < k) && pl_pt P q))
  | 0, _ => by
    simp only [mk_ex]
    symm
    simp only [Bool.false_or]
    rw [List.any_eq_false]
    intro t _
    cases t.1 <;> simp
  | k + 1, hk => by
    unfold mk_ex
    rw [mk_ex_add l v hs hl k (by omega), mk_add_bit hs (show k < 8 by omega) l v hl]
    have e1 : l.any (fun t => match t.1 with
      | none => false
      | some q => decide (q < k + 1) && pl_pt P q) = ((l.any (fun t => decide (t.1 = some k)) && pl_pt P k) || l.any (fun t => match t.1 with
      | none => false
      | some q => decide (q < k) && pl_pt P q)) := by
      clear hl
      induction l with
      | nil => rfl
      | cons t l ih =>
        rw [List.any_cons, List.any_cons, List.any_cons, ih]
        cases hq : t.1 with
        | none => simp
        | some q =>
          by_cases h1 : q = k
          · subst h1
            simp
            cases pl_pt P q <;> simp
          · have e2 : decide (some q = some k) = false := by simp [h1]
            have e3 : decide (q < k + 1) = decide (q < k) := by
              by_cases h2 : q < k
              · rw [decide_eq_true h2, decide_eq_true (by omega)]
              · rw [decide_eq_false h2, decide_eq_false (by omega)]
            simp only [e2, e3]
            generalize (decide (q < k) && pl_pt P q) = a
            generalize (l.any (fun t => decide (t.1 = some k))) = b
            generalize (l.any (fun t => match t.1 with
              | none => false
              | some q => decide (q < k) && pl_pt P q)) = c
            generalize pl_pt P k = d
            cases a <;> cases b <;> cases c <;> cases d <;> rfl
    rw [e1]
    generalize v.testBit k = a
    generalize l.any (fun t => decide (t.1 = some k)) = b
    generalize pl_pt P k = c
    generalize mk_ex P v k = d
    generalize l.any _ = e
    cases a <;> cases b <;> cases c <;> cases d <;> cases e <;> rfl
theorem pl_any_lt {P : pl_X} {k : Nat} : ∀ (l : List pl_Tap), (∀ t ∈ l, ∀ q, t.1 = some q → q < k) → l.any (fun t => match t.1 with
    | none => false
    | some q => decide (q < k) && pl_pt P q) = l.any (pl_pk P) := fun l h => pl_any_congr l (fun t ht => by
  unfold pl_pk
  cases hq : t.1 with
  | none => rfl
  | some q => simp only [decide_eq_true (h t ht q hq), Bool.true_and])
theorem ev_leans6 {P : pl_X} (hw : pl_wf P) {s : Nat} (hs8 : s < 8) {M : mo_M} (hR : mo_R M.1 P) :
    ∀ (n k v : Nat), k ≤ s → k < n → v < 256 → f_Mo_leans_6 n (nI s) (nI v) (iI ((k : Int) - 1)) M = some (b01 (mk_ex P v k), M) := by
  intro n
  induction n with
  | zero => intro k v _ h; omega
  | succ n ih =>
    intro k v hks hkn hv
    rw [f_Mo_leans_6]
    cases k with
    | zero =>
      rw [if_pos (show iI (((0 : Nat) : Int) - 1) < 0 by decide)]
      rfl
    | succ k =>
      have ek : iI (((k + 1 : Nat) : Int) - 1) = nI k := by
        rw [iI_nat]; congr 1; omega
      rw [ek, if_neg (nI_pos (show k < 2 ^ 31 by omega))]
      have hgk : hm_ix (nI k) 8 = true := nI_ix (by omega) (by decide)
      have hck : (nI k).toNatClampNeg = k := nI_clamp (by omega)
      have hb := mk_bit v hv k (by omega)
      have hmd := (hw.2.2.2.2.1 k).2.1
      obtain ⟨m2, m0, m1⟩ := nI_md hmd
      have e4 := (hR.2.2.2.2.2 k (by omega)).2.2.1
      have h4 := (hw.2.2.2.2.1 k).2.2.1
      have htap := (hw.2.2.2.2.1 k).2.2.2
      have hlt : ¬ nI s ≤ nI k := fun z => by have := (nI_lei (by omega) (by omega)).mp z; omega
      have hne : ¬ nI k = nI s := fun z => by have := (nI_eqi (by omega) (by omega)).mp z; omega
      have go : ∀ th : Bool, f_Mo_leans_69 (fun x1 x2 x3 M => f_Mo_leans_6 n x1 x2 x3 M) 1000 (nI s) (nI v) (nI k) (b01 th) (nI k * 4) M = some (b01 (mk_ex P (if th then mk_add (pl_tp P k) v else v) k), M) := by
        intro th
        have e1 := ev_leans69 hw (s := s) (show k < 8 by omega) hR (k6 := fun x1 x2 x3 M => f_Mo_leans_6 n x1 x2 x3 M) th 1000 0 v (by omega) (by omega) hv
        rw [Nat.add_zero, List.drop_zero] at e1
        rw [nI_m4, e1]
        refine ih k _ (by omega) (by omega) ?_
        cases th with
        | false => exact hv
        | true => exact mk_add_lt (s := k) (by omega) _ _ hv (fun t ht q hq => (htap t ht).1 q hq)
      unfold mk_ex
      simp only [f_Mo_leans_32, f_Mo_leans_36, f_Mo_leans_37, f_Mo_leans_64, hgk, hm_gd, hck, e4]
      rw [if_neg hne, if_neg hlt, if_neg hlt]
      cases hbit : v.testBit k with
      | false =>
        rw [if_pos (hb.mpr hbit), if_pos (hb.mpr hbit), Bool.false_and, Bool.false_or]
        have := go false
        rw [if_neg (by decide)] at this
        exact this
      | true =>
        have hbn : ¬ ((nI v >>> (nI k &&& 31)) &&& 1) = 0 := fun z => by rw [hb.mp z] at hbit; cases hbit
        rw [if_neg hbn, if_neg hbn, if_neg hbn, Bool.true_and]
        unfold pl_pt
        by_cases c0 : pl_md P k = 0
        · rw [if_pos (m0.mpr c0), if_neg (fun z => by have := m2.mp z; omega), decide_eq_false (show ¬ pl_md P k = 2 by omega), Bool.false_or, decide_eq_true c0, Bool.true_and]
          have := go true
          rw [if_pos rfl, mk_ex_add _ _ (show k ≤ 8 by omega) (fun t ht q hq => (htap t ht).1 q hq) k (by omega), pl_any_lt _ (fun t ht q hq => (htap t ht).1 q hq), ← pl_ak_eq hw] at this
          rw [Bool.or_comm]
          exact this
        · rw [if_neg (fun z => c0 (m0.mp z))]
          by_cases c2 : pl_md P k = 2
          · rw [if_pos (m2.mpr c2), decide_eq_true c2, Bool.true_or, Bool.true_or]
            rfl
          · rw [if_neg (fun z => c2 (m2.mp z)), decide_eq_false c2, decide_eq_false c0, Bool.false_or, Bool.false_and, Bool.false_or]
            have := go false
            rw [if_neg (by decide)] at this
            exact this
theorem mk_ex_one {P : pl_X} {s : Nat} (hs : s < 8) : ∀ k, k ≤ s → mk_ex P (2 ^ s) k = false
  | 0, _ => rfl
  | k + 1, h => by
    unfold mk_ex
    rw [mk_1bit s hs k (by omega), decide_eq_false (by omega), mk_ex_one hs k (by omega)]
    rfl
theorem ev_leans {P : pl_X} (hw : pl_wf P) {s : Nat} (hs8 : s < 8) {M : mo_M} (hR : mo_R M.1 P) : f_Mo_leans M (nI s) = some (b01 (pl_ak P s), M) := by
  unfold f_Mo_leans
  rw [mk_one s hs8]
  show f_Mo_leans_6 (999 + 1) (nI s) (nI (2 ^ s)) (nI s) M = _
  rw [f_Mo_leans_6, if_neg (nI_pos (show s < 2 ^ 31 by omega))]
  have hb := mk_bit (2 ^ s) (mk_1lt s hs8) s hs8
  have hbit : (2 ^ s).testBit s = true := by rw [mk_1bit s hs8 s hs8]; simp
  have hbn : ¬ ((nI (2 ^ s) >>> (nI s &&& 31)) &&& 1) = 0 := fun z => by rw [hb.mp z] at hbit; cases hbit
  have h4 := (hw.2.2.2.2.1 s).2.2.1
  have htap := (hw.2.2.2.2.1 s).2.2.2
  rw [if_neg hbn, if_pos rfl]
  simp only [f_Mo_leans_32, f_Mo_leans_37, f_Mo_leans_64]
  rw [if_pos ((nI_lei (by omega) (by omega)).mpr (Nat.le_refl _)), nI_m4, show (1 : Int32) = b01 true from rfl]
  have e1 := ev_leans69 hw (s := s) hs8 hR (k6 := fun x1 x2 x3 M => f_Mo_leans_6 999 x1 x2 x3 M) true 1000 0 (2 ^ s) (by omega) (by omega) (mk_1lt s hs8)
  rw [Nat.add_zero, List.drop_zero, if_pos rfl] at e1
  rw [e1, ev_leans6 hw hs8 hR 999 s _ (by omega) (by omega) (mk_add_lt (s := s) (by omega) _ _ (mk_1lt s hs8) (fun t ht q hq => (htap t ht).1 q hq))]
  rw [mk_ex_add _ _ (show s ≤ 8 by omega) (fun t ht q hq => (htap t ht).1 q hq) s (by omega), pl_any_lt _ (fun t ht q hq => (htap t ht).1 q hq), ← pl_ak_eq hw, mk_ex_one hs8 s (by omega), Bool.false_or]
