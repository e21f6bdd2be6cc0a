/-! THE PIPELINE AS A MATHEMATICAL VALUE -/
/-- a tap: its source (none: the input), its offset, its weight -/
abbrev pl_Tap : Type := Option Nat × Int × Int32
/-- a stage: constant, finish, mode, taps -/
abbrev pl_St : Type := Int32 × Nat × Nat × List pl_Tap
/-- stages, input cells, length of the input, how many stages, tile, output and width -/
abbrev pl_X : Type := (Nat → pl_St) × (Nat → Int32) × Nat × Nat × Nat × Option (Nat × Nat)
abbrev pl_cs (P : pl_X) (s : Nat) : Int32 := (P.1 s).1
abbrev pl_fn (P : pl_X) (s : Nat) : Nat := (P.1 s).2.1
abbrev pl_md (P : pl_X) (s : Nat) : Nat := (P.1 s).2.2.1
abbrev pl_tp (P : pl_X) (s : Nat) : List pl_Tap := (P.1 s).2.2.2
abbrev pl_rw (P : pl_X) : Nat → Int32 := P.2.1
abbrev pl_rl (P : pl_X) : Nat := P.2.2.1
abbrev pl_ns (P : pl_X) : Nat := P.2.2.2.1
abbrev pl_T (P : pl_X) : Nat := P.2.2.2.2.1
abbrev pl_ou (P : pl_X) : Option (Nat × Nat) := P.2.2.2.2.2
def pl_src (q : Option Nat) : Int32 := match q with
  | none => -1
  | some n => nI n
def pl_okt (s : Nat) (t : pl_Tap) : Prop := (∀ q, t.1 = some q → q < s) ∧ -4 ≤ t.2.1 ∧ t.2.1 ≤ 4
def pl_wf (P : pl_X) : Prop := (1 ≤ pl_rl P ∧ pl_rl P ≤ 24) ∧ pl_ns P ≤ 8 ∧ (1 ≤ pl_T P ∧ pl_T P ≤ 32) ∧ (∀ o w, pl_ou P = some (o, w) → o < pl_ns P ∧ 1 ≤ w ∧ w ≤ 32) ∧
  (∀ s, pl_fn P s ≤ 3 ∧ pl_md P s ≤ 2 ∧ (pl_tp P s).length ≤ 4 ∧ ∀ t ∈ pl_tp P s, pl_okt s t) ∧ ∀ s, pl_ns P ≤ s → pl_md P s = 0 ∧ pl_tp P s = []
/-- values -/
def pl_fin (f : Nat) (v : Int32) : Int32 := if f = 1 then (if v < 0 then 0 else v) else if f = 2 then v >>> (1 : Int32) else if f = 3 then (if 0 ≤ v then v else -v) else v
def pl_in (P : pl_X) (x : Int) : Int32 := pl_rw P (max 0 (min ((pl_rl P : Int) - 1) x)).toNat
def pl_sum (sv : Option Nat → Int → Int32) (x : Int) : List pl_Tap → Int32 → Int32
  | [], acc => acc
  | t :: l, acc => pl_sum sv x l (acc + t.2.2 * sv t.1 (x + t.2.1))
def pl_vl (P : pl_X) : Nat → Nat → Int → Int32
  | 0, _, _ => 0
  | n + 1, s, x => pl_fin (pl_fn P s) (pl_sum (fun q y => match q with
    | none => pl_in P y
    | some q => pl_vl P n q y) x (pl_tp P s) (pl_cs P s))
def pl_sv (P : pl_X) (q : Option Nat) (y : Int) : Int32 := match q with
  | none => pl_in P y
  | some q => pl_vl P (q + 1) q y
def pl_val (P : pl_X) (s : Nat) (x : Int) : Int32 := pl_fin (pl_fn P s) (pl_sum (pl_sv P) x (pl_tp P s) (pl_cs P s))
theorem pl_sum_congr {f g : Option Nat → Int → Int32} {x : Int} : ∀ (l : List pl_Tap) (acc : Int32), (∀ t ∈ l, ∀ y, f t.1 y = g t.1 y) → pl_sum f x l acc = pl_sum g x l acc
  | [], acc, _ => rfl
  | t :: l, acc, h => by
    unfold pl_sum
    rw [h t List.mem_cons_self]
    exact pl_sum_congr l _ (fun t' ht => h t' (List.mem_cons_of_mem _ ht))
theorem pl_vl_any {P : pl_X} (hw : pl_wf P) (s : Nat) : ∀ (n m : Nat) (x : Int), s < n → s < m → pl_vl P n s x = pl_vl P m s x := by
  induction s using Nat.strongRecOn with
  | _ s ih =>
    intro n m x hn hm
    cases n with
    | zero => omega
    | succ n =>
      cases m with
      | zero => omega
      | succ m =>
        unfold pl_vl
        congr 1
        refine pl_sum_congr _ _ (fun t ht y => ?_)
        cases hq : t.1 with
        | none => rfl
        | some q =>
          have hqs : q < s := ((hw.2.2.2.2.1 s).2.2.2 t ht).1 q hq
          exact ih q hqs n m y (by omega) (by omega)
theorem pl_vl_val {P : pl_X} (hw : pl_wf P) (n s : Nat) (x : Int) (h : s < n) : pl_vl P n s x = pl_val P s x := by
  cases n with
  | zero => omega
  | succ n =>
    unfold pl_vl pl_val
    congr 1
    refine pl_sum_congr _ _ (fun t ht y => ?_)
    cases hq : t.1 with
    | none => rfl
    | some q =>
      have hqs : q < s := ((hw.2.2.2.2.1 s).2.2.2 t ht).1 q hq
      exact pl_vl_any hw q n (q + 1) y (by omega) (by omega)
theorem pl_sv_some {P : pl_X} (hw : pl_wf P) (q : Nat) (y : Int) : pl_sv P (some q) y = pl_val P q y := pl_vl_val hw (q + 1) q y (by omega)
/-- needs: none where a stage isn't used; else how far its range begins and ends from that of the output -/
abbrev pl_N : Type := Nat → Option (Int × Int)
def pl_wid (st : pl_N) (q : Nat) (a b : Int) : pl_N := fun j => if j = q then some (match st q with
  | none => (a, b)
  | some r => (min a r.1, max r.2 b)) else st j
def pl_hand (a b : Int) : List pl_Tap → pl_N → pl_N
  | [], st => st
  | t :: l, st => pl_hand a b l (match t.1 with
    | none => st
    | some q => pl_wid st q (a + t.2.1) (b + t.2.1))
def pl_step (P : pl_X) (s : Nat) (st : pl_N) : pl_N := match st s with
  | none => st
  | some r => pl_hand r.1 r.2 (pl_tp P s) st
def pl_down (P : pl_X) : Nat → pl_N → pl_N
  | 0, st => st
  | s + 1, st => pl_down P s (pl_step P s st)
def pl_n0 (o : Nat) : pl_N := fun j => if j = o then some (0, 0) else none
def pl_nd (P : pl_X) (o : Nat) : pl_N := pl_down P (o + 1) (pl_n0 o)
def pl_le (st st' : pl_N) : Prop := ∀ q a b, st q = some (a, b) → ∃ a' b', st' q = some (a', b') ∧ a' ≤ a ∧ b ≤ b'
theorem pl_le_refl (st : pl_N) : pl_le st st := fun q a b h => ⟨a, b, h, Int.le_refl a, Int.le_refl b⟩
theorem pl_le_trans {st st' st'' : pl_N} (h : pl_le st st') (h' : pl_le st' st'') : pl_le st st'' := fun q a b e => by
  obtain ⟨a1, b1, e1, l1, l2⟩ := h q a b e
  obtain ⟨a2, b2, e2, l3, l4⟩ := h' q a1 b1 e1
  exact ⟨a2, b2, e2, by omega, by omega⟩
theorem pl_wid_le (st : pl_N) (q : Nat) (a b : Int) : pl_le st (pl_wid st q a b) := by
  intro j x y h
  unfold pl_wid
  by_cases hj : j = q
  · subst hj
    rw [if_pos rfl, h]
    exact ⟨_, _, rfl, Int.min_le_right _ _, Int.le_max_left _ _⟩
  · rw [if_neg hj]
    exact ⟨x, y, h, Int.le_refl x, Int.le_refl y⟩
theorem pl_wid_has (st : pl_N) (q : Nat) (a b : Int) : ∃ a' b', pl_wid st q a b q = some (a', b') ∧ a' ≤ a ∧ b ≤ b' := by
  unfold pl_wid
  rw [if_pos rfl]
  cases h : st q with
  | none => exact ⟨a, b, rfl, Int.le_refl a, Int.le_refl b⟩
  | some r => exact ⟨_, _, rfl, Int.min_le_left _ _, Int.le_max_right _ _⟩
theorem pl_hand_le (a b : Int) : ∀ (l : List pl_Tap) (st : pl_N), pl_le st (pl_hand a b l st)
  | [], st => pl_le_refl st
  | t :: l, st => by
    unfold pl_hand
    cases h : t.1 with
    | none => exact pl_hand_le a b l st
    | some q => exact pl_le_trans (pl_wid_le st q _ _) (pl_hand_le a b l _)
theorem pl_hand_has (a b : Int) : ∀ (l : List pl_Tap) (st : pl_N) (t : pl_Tap) (q : Nat), t ∈ l → t.1 = some q → ∃ a' b', pl_hand a b l st q = some (a', b') ∧ a' ≤ a + t.2.1 ∧ b + t.2.1 ≤ b'
  | [], st, t, q, h, _ => by cases h
  | t0 :: l, st, t, q, h, hq => by
    unfold pl_hand
    rcases List.mem_cons.mp h with rfl | h
    · rw [hq]
      obtain ⟨a1, b1, e1, l1, l2⟩ := pl_wid_has st q (a + t.2.1) (b + t.2.1)
      obtain ⟨a2, b2, e2, l3, l4⟩ := pl_hand_le a b l (pl_wid st q (a + t.2.1) (b + t.2.1)) q a1 b1 e1
      exact ⟨a2, b2, e2, by omega, by omega⟩
    · exact pl_hand_has a b l _ t q h hq
theorem pl_hand_keep (a b : Int) (j : Nat) : ∀ (l : List pl_Tap) (st : pl_N), (∀ t ∈ l, t.1 ≠ some j) → pl_hand a b l st j = st j
  | [], st, _ => rfl
  | t :: l, st, h => by
    unfold pl_hand
    rw [pl_hand_keep a b j l _ (fun t' ht => h t' (List.mem_cons_of_mem _ ht))]
    have h0 := h t List.mem_cons_self
    cases hq : t.1 with
    | none => rfl
    | some q =>
      have hne : ¬ j = q := fun e => h0 (by rw [hq, e])
      show pl_wid st q _ _ j = st j
      unfold pl_wid
      rw [if_neg hne]
theorem pl_step_le (P : pl_X) (s : Nat) (st : pl_N) : pl_le st (pl_step P s st) := by
  unfold pl_step
  cases h : st s with
  | none => exact pl_le_refl st
  | some r => exact pl_hand_le _ _ _ _
theorem pl_step_keep {P : pl_X} (hw : pl_wf P) (s j : Nat) (h : s ≤ j) (st : pl_N) : pl_step P s st j = st j := by
  unfold pl_step
  cases hs : st s with
  | none => rfl
  | some r =>
    refine pl_hand_keep _ _ j _ _ (fun t ht e => ?_)
    have := ((hw.2.2.2.2.1 s).2.2.2 t ht).1 j e
    omega
theorem pl_down_le (P : pl_X) : ∀ (n : Nat) (st : pl_N), pl_le st (pl_down P n st)
  | 0, st => pl_le_refl st
  | n + 1, st => pl_le_trans (pl_step_le P n st) (pl_down_le P n _)
theorem pl_down_keep {P : pl_X} (hw : pl_wf P) (j : Nat) : ∀ (n : Nat) (st : pl_N), n ≤ j + 1 → pl_down P n st j = st j
  | 0, st, _ => rfl
  | n + 1, st, h => by
    show pl_down P n (pl_step P n st) j = st j
    rw [pl_down_keep hw j n _ (by omega), pl_step_keep hw n j (by omega)]
/-- a used stage's taps ask within the needs of their sources -/
theorem pl_down_closed {P : pl_X} (hw : pl_wf P) : ∀ (n : Nat) (st : pl_N) (s : Nat) (a b : Int), s < n → pl_down P n st s = some (a, b) → ∀ t ∈ pl_tp P s, ∀ q, t.1 = some q → ∃ a' b', pl_down P n st q = some (a', b') ∧ a' ≤ a + t.2.1 ∧ b + t.2.1 ≤ b'
  | 0, st, s, a, b, h, _ => by omega
  | n + 1, st, s, a, b, h, e => by
    intro t ht q hq
    by_cases hs : s = n
    · subst hs
      have e1 : pl_down P (s + 1) st s = st s := pl_down_keep hw s (s + 1) st (by omega)
      rw [e1] at e
      obtain ⟨a1, b1, e2, l1, l2⟩ := pl_hand_has a b (pl_tp P s) st t q ht hq
      have e3 : pl_step P s st = pl_hand a b (pl_tp P s) st := by
        unfold pl_step
        rw [e]
      obtain ⟨a2, b2, e4, l3, l4⟩ := pl_down_le P s (pl_step P s st) q a1 b1 (by rw [e3]; exact e2)
      exact ⟨a2, b2, e4, by omega, by omega⟩
    · exact pl_down_closed hw n (pl_step P n st) s a b (by omega) e t ht q hq
def pl_bd (o : Nat) (st : pl_N) : Prop := ∀ q a b, st q = some (a, b) → q ≤ o ∧ -(4 * ((o : Int) - q)) ≤ a ∧ a ≤ b ∧ b ≤ 4 * ((o : Int) - q)
theorem pl_wid_bd {o q s : Nat} {st : pl_N} {a b d : Int} (h : pl_bd o st) (hqs : q < s) (hso : s ≤ o) (h1 : -(4 * ((o : Int) - s)) ≤ a) (h2 : a ≤ b) (h3 : b ≤ 4 * ((o : Int) - s)) (h4 : -4 ≤ d) (h5 : d ≤ 4) : pl_bd o (pl_wid st q (a + d) (b + d)) := by
  intro j x y e
  unfold pl_wid at e
  by_cases hj : j = q
  · subst hj
    rw [if_pos rfl] at e
    cases hs : st j with
    | none =>
      rw [hs] at e
      injection e with e
      injection e with e1 e2
      subst e1; subst e2
      exact ⟨by omega, by omega, by omega, by omega⟩
    | some r =>
      rw [hs] at e
      injection e with e
      injection e with e1 e2
      obtain ⟨g1, g2, g3, g4⟩ := h j r.1 r.2 hs
      subst e1; subst e2
      refine ⟨g1, ?_, ?_, ?_⟩
      · simp only [Int.min_def]; split <;> omega
      · simp only [Int.min_def, Int.max_def]; split <;> split <;> omega
      · simp only [Int.max_def]; split <;> omega
  · rw [if_neg hj] at e
    exact h j x y e
theorem pl_hand_bd {o s : Nat} {a b : Int} (hso : s ≤ o) (h1 : -(4 * ((o : Int) - s)) ≤ a) (h2 : a ≤ b) (h3 : b ≤ 4 * ((o : Int) - s)) : ∀ (l : List pl_Tap) (st : pl_N), (∀ t ∈ l, pl_okt s t) → pl_bd o st → pl_bd o (pl_hand a b l st)
  | [], st, _, h => h
  | t :: l, st, hl, h => by
    unfold pl_hand
    refine pl_hand_bd hso h1 h2 h3 l _ (fun t' ht => hl t' (List.mem_cons_of_mem _ ht)) ?_
    obtain ⟨g1, g2, g3⟩ := hl t List.mem_cons_self
    cases hq : t.1 with
    | none => exact h
    | some q => exact pl_wid_bd h (g1 q hq) hso h1 h2 h3 g2 g3
theorem pl_step_bd {P : pl_X} (hw : pl_wf P) {o s : Nat} {st : pl_N} (h : pl_bd o st) : pl_bd o (pl_step P s st) := by
  unfold pl_step
  cases hs : st s with
  | none => exact h
  | some r =>
    obtain ⟨g1, g2, g3, g4⟩ := h s r.1 r.2 hs
    exact pl_hand_bd g1 g2 g3 g4 _ _ (hw.2.2.2.2.1 s).2.2.2 h
theorem pl_down_bd {P : pl_X} (hw : pl_wf P) {o : Nat} : ∀ (n : Nat) (st : pl_N), pl_bd o st → pl_bd o (pl_down P n st)
  | 0, _, h => h
  | n + 1, st, h => pl_down_bd hw n _ (pl_step_bd hw h)
theorem pl_n0_bd (o : Nat) : pl_bd o (pl_n0 o) := by
  intro q a b e
  unfold pl_n0 at e
  by_cases hq : q = o
  · subst hq
    rw [if_pos rfl] at e
    injection e with e
    injection e with e1 e2
    subst e1; subst e2
    exact ⟨by omega, by omega, by omega, by omega⟩
  · rw [if_neg hq] at e
    cases e
theorem pl_nd_bd {P : pl_X} (hw : pl_wf P) (o : Nat) : pl_bd o (pl_nd P o) := pl_down_bd hw _ _ (pl_n0_bd o)
theorem pl_nd_o {P : pl_X} (hw : pl_wf P) (o : Nat) : pl_nd P o o = some (0, 0) := by
  unfold pl_nd
  rw [pl_down_keep hw o (o + 1) _ (by omega)]
  simp [pl_n0]
theorem pl_nd_closed {P : pl_X} (hw : pl_wf P) {o s : Nat} {a b : Int} (h : pl_nd P o s = some (a, b)) : ∀ t ∈ pl_tp P s, ∀ q, t.1 = some q → ∃ a' b', pl_nd P o q = some (a', b') ∧ a' ≤ a + t.2.1 ∧ b + t.2.1 ≤ b' :=
  pl_down_closed hw (o + 1) (pl_n0 o) s a b (by have := (pl_nd_bd hw o s a b h).1; omega) h
