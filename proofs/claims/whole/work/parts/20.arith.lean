/-! ints as numbers -/
def iI (z : Int) : Int32 := Int32.ofInt z
theorem iI_add (a b : Int) : iI a + iI b = iI (a + b) := (Int32.ofInt_add a b).symm
theorem iI_sub (a b : Int) : iI a - iI b = iI (a - b) := (Int32.ofInt_sub a b).symm
theorem iI_mul (a b : Int) : iI a * iI b = iI (a * b) := (Int32.ofInt_mul a b).symm
theorem iI_neg (a : Int) : -iI a = iI (-a) := (Int32.ofInt_neg a).symm
theorem iI_nat (n : Nat) : nI n = iI n := rfl
theorem iI_toInt {z : Int} (h1 : -2147483648 ≤ z) (h2 : z < 2147483648) : (iI z).toInt = z := Int32.toInt_ofInt_of_le (by omega) (by omega)
theorem iI_of (x : Int32) : x = iI x.toInt := by simp [iI]
theorem iI_lt {a b : Int} (h1 : -2147483648 ≤ a) (h2 : a < 2147483648) (h3 : -2147483648 ≤ b) (h4 : b < 2147483648) : iI a < iI b ↔ a < b := by
  rw [Int32.lt_iff_toInt_lt, iI_toInt h1 h2, iI_toInt h3 h4]
theorem iI_le {a b : Int} (h1 : -2147483648 ≤ a) (h2 : a < 2147483648) (h3 : -2147483648 ≤ b) (h4 : b < 2147483648) : iI a ≤ iI b ↔ a ≤ b := by
  rw [Int32.le_iff_toInt_le, iI_toInt h1 h2, iI_toInt h3 h4]
theorem iI_eq {a b : Int} (h1 : -2147483648 ≤ a) (h2 : a < 2147483648) (h3 : -2147483648 ≤ b) (h4 : b < 2147483648) : iI a = iI b ↔ a = b := by
  rw [← Int32.toInt_inj, iI_toInt h1 h2, iI_toInt h3 h4]
theorem iI_clamp {z : Int} (h1 : -2147483648 ≤ z) (h2 : z < 2147483648) : (iI z).toNatClampNeg = z.toNat := by
  show (iI z).toInt.toNat = z.toNat
  rw [iI_toInt h1 h2]
theorem iI_ix {z : Int} {n : Nat} (h1 : 0 ≤ z) (h2 : z < n) (hn : n < 2147483648) : hm_ix (iI z) n = true := by
  unfold hm_ix
  rw [iI_toInt (by omega) (by omega)]
  simp [h1, h2]
theorem nI_ix {k n : Nat} (h : k < n) (hn : n < 2147483648) : hm_ix (nI k) n = true := hm_ix_nI h hn
theorem hm_rd (M : hm_M) (i k : Nat) (x : Int32) (a b : Nat) : hm_up M i k x a b = if a = i ∧ b = k then x else M a b := by
  unfold hm_up
  by_cases h : a = i
  · subst h
    by_cases h2 : b = k <;> simp [upd, h2]
  · simp [h]
theorem hm_rdl (L : hm_L) (i k : Nat) (x : Int64) (a b : Nat) : hm_lup L i k x a b = if a = i ∧ b = k then x else L a b := by
  unfold hm_lup
  by_cases h : a = i
  · subst h
    by_cases h2 : b = k <;> simp [vp_updL, h2]
  · simp [h]
theorem hm_rd_ne {M : hm_M} {i k : Nat} {x : Int32} {a b : Nat} (h : ¬ (a = i ∧ b = k)) : hm_up M i k x a b = M a b := by rw [hm_rd, if_neg h]
theorem hm_rd_eq {M : hm_M} {i k : Nat} {x : Int32} : hm_up M i k x i k = x := by rw [hm_rd, if_pos ⟨rfl, rfl⟩]
/-- the kit's names of literals -/
theorem lit_0 : (0 : Int32) = iI 0 := rfl
theorem lit_1 : (1 : Int32) = iI 1 := rfl
theorem lit_m1 : (-1 : Int32) = iI (-1) := by decide
theorem iI_min {a b : Int} (h1 : -2147483648 ≤ a) (h2 : a < 2147483648) (h3 : -2147483648 ≤ b) (h4 : b < 2147483648) : (if iI a < iI b then iI a else iI b) = iI (min a b) := by
  by_cases h : a < b
  · rw [if_pos ((iI_lt h1 h2 h3 h4).mpr h), Int.min_eq_left (by omega)]
  · rw [if_neg (fun q => h ((iI_lt h1 h2 h3 h4).mp q)), Int.min_eq_right (by omega)]
theorem iI_max {a b : Int} (h1 : -2147483648 ≤ a) (h2 : a < 2147483648) (h3 : -2147483648 ≤ b) (h4 : b < 2147483648) : (if iI a < iI b then iI b else iI a) = iI (max a b) := by
  by_cases h : a < b
  · rw [if_pos ((iI_lt h1 h2 h3 h4).mpr h), Int.max_eq_right (by omega)]
  · rw [if_neg (fun q => h ((iI_lt h1 h2 h3 h4).mp q)), Int.max_eq_left (by omega)]
