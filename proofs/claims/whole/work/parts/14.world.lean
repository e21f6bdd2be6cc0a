/-! the reference's world: 15 cells, as its constructor lays them; its ints, and the longs of works -/
abbrev mo_M : Type := hm_M × hm_L
def mo_st {α : Type} (M : mo_M) (i k : Nat) (x : Int32) (f : mo_M → Option α) : Option α := f (hm_up M.1 i k x, M.2)
theorem mo_st_some {α : Type} {M : mo_M} {i k : Nat} {x : Int32} {f : mo_M → Option α} {y : α} (h : mo_st M i k x f = some y) : ∃ M1 : mo_M, M1 = (hm_up M.1 i k x, M.2) ∧ f M1 = some y := ⟨_, rfl, h⟩
def mo_sl {α : Type} (M : mo_M) (i k : Nat) (x : Int64) (f : mo_M → Option α) : Option α := f (M.1, hm_lup M.2 i k x)
theorem mo_sl_some {α : Type} {M : mo_M} {i k : Nat} {x : Int64} {f : mo_M → Option α} {y : α} (h : mo_sl M i k x f = some y) : ∃ M1 : mo_M, M1 = (M.1, hm_lup M.2 i k x) ∧ f M1 = some y := ⟨_, rfl, h⟩
def mo_kl : List Nat := [0, 1, 2, 2, 2, 3, 3, 3, 2, 3, 4, 5, 2, 2, 6]
def mo_kd (i : Nat) : Nat := mo_kl.getD i 99
def mo_ks (k : Nat) : hm_S := match k with
  | 0 => .inl (0, [none, some 1, some 2, some 3, some 4, some 5, some 6, some 7, some 8, none, none, none, none, none, none, some 9, some 10, some 11, some 12, some 13, some 14])
  | 1 => .inr (0, 24, none)
  | 2 => .inr (0, 8, none)
  | 3 => .inr (0, 32, none)
  | 4 => .inr (0, 488, none)
  | 5 => .inr (1, 8, none)
  | 6 => .inr (2, 8, some none)
  | _ => .inr (0, 0, none)
def mo_sh (i : Nat) : hm_S := mo_ks (mo_kd i)
theorem mo_s_Mo {i : Nat} (h : mo_kd i = 0) : mo_sh i = .inl (0, [none, some 1, some 2, some 3, some 4, some 5, some 6, some 7, some 8, none, none, none, none, none, none, some 9, some 10, some 11, some 12, some 13, some 14]) := by
  unfold mo_sh
  rw [h]
  rfl
theorem mo_s_ia24 {i : Nat} (h : mo_kd i = 1) : mo_sh i = .inr (0, 24, none) := by
  unfold mo_sh
  rw [h]
  rfl
theorem mo_s_ia8 {i : Nat} (h : mo_kd i = 2) : mo_sh i = .inr (0, 8, none) := by
  unfold mo_sh
  rw [h]
  rfl
theorem mo_s_ia32 {i : Nat} (h : mo_kd i = 3) : mo_sh i = .inr (0, 32, none) := by
  unfold mo_sh
  rw [h]
  rfl
theorem mo_s_ia488 {i : Nat} (h : mo_kd i = 4) : mo_sh i = .inr (0, 488, none) := by
  unfold mo_sh
  rw [h]
  rfl
theorem mo_s_za8 {i : Nat} (h : mo_kd i = 5) : mo_sh i = .inr (1, 8, none) := by
  unfold mo_sh
  rw [h]
  rfl
theorem mo_s_la8 {i : Nat} (h : mo_kd i = 6) : mo_sh i = .inr (2, 8, some none) := by
  unfold mo_sh
  rw [h]
  rfl
abbrev mo_cl : List vw_C := [(R_Mo, F_Mo, 21)]
abbrev mo_ty (ca : Nat → ClassId) : List (ClassId × FieldType) := [(ca 0, .int), (ca 1, .boolean), (ca 2, .long)]
