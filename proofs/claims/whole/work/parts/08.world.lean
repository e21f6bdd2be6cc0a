/-! the class's world: 64 cells, as the constructors lay them -/
def sc_kl : List Nat := [0, 1, 2, 3, 4, 5, 6, 6, 6, 5, 6, 6, 6, 5, 6, 6, 6, 5, 6, 6, 6, 5, 6, 6, 6, 5, 6, 6, 6, 5, 6, 6, 6, 5, 6, 6, 6, 7, 8, 9, 3, 3, 8, 9, 3, 3, 9, 3, 10, 8, 9, 3, 3, 9, 11, 12, 12, 12, 12, 12, 12, 12, 12, 13]
def sc_kd (i : Nat) : Nat := sc_kl.getD i 99
def sc_ks (rl i k : Nat) : hm_S := match k with
  | 0 => .inl (0, [some 1, some 37, some 48, none, none])
  | 1 => .inl (1, [some 4, some 2, some 3, none, none, none, none])
  | 2 => .inr (2, 8, some (some (fun j => 5 + 4 * j)))
  | 3 => .inr (0, 8, none)
  | 4 => .inr (0, rl, none)
  | 5 => .inl (2, [none, none, none, none, some (i + 1), some (i + 2), some (i + 3)])
  | 6 => .inr (0, 4, none)
  | 7 => .inl (3, [some 1, some 38, some 42, some 46, some 47, none, none, none])
  | 8 => .inl (4, [some (i + 1), some (i + 2), some (i + 3)])
  | 9 => .inr (1, 8, none)
  | 10 => .inl (5, [some 1, some 49, some 53, some 54, some 63])
  | 11 => .inr (3, 8, some (some (fun j => 55 + j)))
  | 12 => .inr (0, 88, none)
  | 13 => .inr (0, 32, none)
  | _ => .inr (0, 0, none)
def sc_sh (rl i : Nat) : hm_S := sc_ks rl i (sc_kd i)
theorem sc_lt {i k : Nat} (h : sc_kd i = k) (hk : k < 50) : i < 64 := by
  rcases Nat.lt_or_ge i 64 with q | q
  · exact q
  · have e : sc_kd i = 99 := by
      unfold sc_kd
      rw [List.getD_eq_getElem?_getD, List.getElem?_eq_none (by show sc_kl.length ≤ i; exact Nat.le_trans (by decide) q)]
      rfl
    omega
theorem sc_s_SC {rl i : Nat} (h : sc_kd i = 0) : sc_sh rl i = .inl (0, [some 1, some 37, some 48, none, none]) := by
  unfold sc_sh
  rw [h]
  rfl
theorem sc_s_Pipe {rl i : Nat} (h : sc_kd i = 1) : sc_sh rl i = .inl (1, [some 4, some 2, some 3, none, none, none, none]) := by
  unfold sc_sh
  rw [h]
  rfl
theorem sc_s_starr {rl i : Nat} (h : sc_kd i = 2) : sc_sh rl i = .inr (2, 8, some (some (fun j => 5 + 4 * j))) := by
  unfold sc_sh
  rw [h]
  rfl
theorem sc_s_ia8 {rl i : Nat} (h : sc_kd i = 3) : sc_sh rl i = .inr (0, 8, none) := by
  unfold sc_sh
  rw [h]
  rfl
theorem sc_s_row {rl i : Nat} (h : sc_kd i = 4) : sc_sh rl i = .inr (0, rl, none) := by
  unfold sc_sh
  rw [h]
  rfl
theorem sc_s_Stage {rl i : Nat} (h : sc_kd i = 5) : sc_sh rl i = .inl (2, [none, none, none, none, some (i + 1), some (i + 2), some (i + 3)]) := by
  unfold sc_sh
  rw [h]
  rfl
theorem sc_s_ia4 {rl i : Nat} (h : sc_kd i = 6) : sc_sh rl i = .inr (0, 4, none) := by
  unfold sc_sh
  rw [h]
  rfl
theorem sc_s_Plan {rl i : Nat} (h : sc_kd i = 7) : sc_sh rl i = .inl (3, [some 1, some 38, some 42, some 46, some 47, none, none, none]) := by
  unfold sc_sh
  rw [h]
  rfl
theorem sc_s_Needs {rl i : Nat} (h : sc_kd i = 8) : sc_sh rl i = .inl (4, [some (i + 1), some (i + 2), some (i + 3)]) := by
  unfold sc_sh
  rw [h]
  rfl
theorem sc_s_za8 {rl i : Nat} (h : sc_kd i = 9) : sc_sh rl i = .inr (1, 8, none) := by
  unfold sc_sh
  rw [h]
  rfl
theorem sc_s_Runner {rl i : Nat} (h : sc_kd i = 10) : sc_sh rl i = .inl (5, [some 1, some 49, some 53, some 54, some 63]) := by
  unfold sc_sh
  rw [h]
  rfl
theorem sc_s_grid {rl i : Nat} (h : sc_kd i = 11) : sc_sh rl i = .inr (3, 8, some (some (fun j => 55 + j))) := by
  unfold sc_sh
  rw [h]
  rfl
theorem sc_s_ia88 {rl i : Nat} (h : sc_kd i = 12) : sc_sh rl i = .inr (0, 88, none) := by
  unfold sc_sh
  rw [h]
  rfl
theorem sc_s_ia32 {rl i : Nat} (h : sc_kd i = 13) : sc_sh rl i = .inr (0, 32, none) := by
  unfold sc_sh
  rw [h]
  rfl
theorem sck_Stage : ∀ i, i < 64 → sc_kd i = 5 → sc_kd (i + 1) = 6 ∧ sc_kd (i + 2) = 6 ∧ sc_kd (i + 3) = 6 := by decide
theorem sck_Stage1 {i : Nat} (h : sc_kd i = 5) : sc_kd (i + 1) = 6 := (sck_Stage i (sc_lt h (by decide)) h).1
theorem sck_Stage2 {i : Nat} (h : sc_kd i = 5) : sc_kd (i + 2) = 6 := (sck_Stage i (sc_lt h (by decide)) h).2.1
theorem sck_Stage3 {i : Nat} (h : sc_kd i = 5) : sc_kd (i + 3) = 6 := (sck_Stage i (sc_lt h (by decide)) h).2.2
theorem sck_Needs : ∀ i, i < 64 → sc_kd i = 8 → sc_kd (i + 1) = 9 ∧ sc_kd (i + 2) = 3 ∧ sc_kd (i + 3) = 3 := by decide
theorem sck_Needs1 {i : Nat} (h : sc_kd i = 8) : sc_kd (i + 1) = 9 := (sck_Needs i (sc_lt h (by decide)) h).1
theorem sck_Needs2 {i : Nat} (h : sc_kd i = 8) : sc_kd (i + 2) = 3 := (sck_Needs i (sc_lt h (by decide)) h).2.1
theorem sck_Needs3 {i : Nat} (h : sc_kd i = 8) : sc_kd (i + 3) = 3 := (sck_Needs i (sc_lt h (by decide)) h).2.2
theorem sck_st0 : ∀ j, j < 8 → sc_kd (5 + 4 * j) = 5 := by decide
theorem sck_gr0 : ∀ j, j < 8 → sc_kd (55 + j) = 12 := by decide
theorem sck_st {x : Int32} (h : hm_ix x 8 = true) : sc_kd (5 + 4 * x.toNatClampNeg) = 5 := sck_st0 _ (Nat.not_le.mp fun q => hm_ix_in h (Or.inr q))
theorem sck_gr {x : Int32} (h : hm_ix x 8 = true) : sc_kd (55 + x.toNatClampNeg) = 12 := sck_gr0 _ (Nat.not_le.mp fun q => hm_ix_in h (Or.inr q))
abbrev sc_cl : List vw_C := [(R_SC, F_SC, 5), (R_Pipe, F_Pipe, 7), (R_Stage, F_Stage, 7), (R_Plan, F_Plan, 8), (R_Needs, F_Needs, 3), (R_Runner, F_Runner, 5)]
abbrev sc_ty (ca : Nat → ClassId) : List (ClassId × FieldType) := [(ca 0, .int), (ca 1, .boolean), (ca 2, .object R_Stage), (ca 3, .array .int)]
def hq_X (p : Program) (s : State) (m : MethodId) (args : Array Value) (meth : Method) (c : Code) (cc : ByteArray) (own : String) (nL : Nat) (ret : Option FieldType) (D : va_G) (cl : List vw_C) (tys : List (ClassId × FieldType)) (tb : List Cond) : Prop := p.tables.exec = Jvm.exec ∧ c.code = cc ∧ c.maxLocals = nL ∧ s.vm.findClass own = some m.cls ∧ meth.sig.returnType = ret ∧ meth.locks = false ∧ hq_K D cl tys tb s
