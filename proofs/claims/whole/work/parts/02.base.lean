/-! A WORLD AT FIXED PLACES: n cells at B, B + 1 ..; cell i has a shape (an object: its class and, a field each, an int or the place that a reference leads to; an array of ints; an array of references) and the ints M i 0, M i 1 .. -/
abbrev hm_M : Type := Nat → Nat → Int32
def hm_up (M : hm_M) (i k : Nat) (x : Int32) : hm_M := fun a => if a = i then upd (M a) k x else M a
theorem hm_up_self {M : hm_M} {i k : Nat} {x : Int32} : hm_up M i k x i = upd (M i) k x := if_pos rfl
theorem hm_up_ne {M : hm_M} {i j k : Nat} {x : Int32} (h : ¬ j = i) : hm_up M i k x j = M j := if_neg h
abbrev hm_L : Type := Nat → Nat → Int64
def hm_L0 : hm_L := fun _ _ => 0
def hm_lup (L : hm_L) (i k : Nat) (x : Int64) : hm_L := fun a => if a = i then vp_updL (L a) k x else L a
theorem hm_lup_self {L : hm_L} {i k : Nat} {x : Int64} : hm_lup L i k x i = vp_updL (L i) k x := if_pos rfl
theorem hm_lup_ne {L : hm_L} {i j k : Nat} {x : Int64} (h : ¬ j = i) : hm_lup L i k x j = L j := if_neg h
abbrev hm_S : Type := (Nat × List (Option Nat)) ⊕ (Nat × Nat × Option (Option (Nat → Nat)))
def hm_fv (B : Nat) (f : Nat → Int32) (k : Nat) (o : Option Nat) : Value := match o with
  | none => .int (f k)
  | some j => .ref (B + j)
def hm_fs (B : Nat) (fl : List (Option Nat)) (f : Nat → Int32) : List Value := fl.zipIdx.map (fun q => hm_fv B f q.2 q.1)
def hm_en (ca : Nat → ClassId) (B : Nat) (s : hm_S) (f : Nat → Int32) (h : Nat → Int64) : va_E := match s with
  | .inl (ci, fl) => .inr (ci, hm_fs B fl f)
  | .inr (t, n, none) => .inl (ca t, n, .inl f)
  | .inr (t, n, some none) => .inl (ca t, n, .inr (.inl h))
  | .inr (t, n, some (some g)) => .inl (ca t, n, .inr (.inr (.inr (.inr (fun j => some (B + g j))))))
def hm_wl (ca : Nat → ClassId) (n : Nat) (sh : Nat → hm_S) (B : Nat) (M : hm_M) (L : hm_L) : va_W := (List.range n).map (fun i => (B + i, hm_en ca B (sh i) (M i) (L i)))
def hm_A (B n : Nat) : Nat → Prop := fun q => B ≤ q ∧ q < B + n
theorem hm_get {ca : Nat → ClassId} {n : Nat} {sh : Nat → hm_S} {B : Nat} {M : hm_M} {L : hm_L} {i : Nat} (hi : i < n) : (hm_wl ca n sh B M L)[i]? = some (B + i, hm_en ca B (sh i) (M i) (L i)) := by
  unfold hm_wl
  rw [List.getElem?_map, List.getElem?_range hi]
  rfl
theorem hm_get_o {ca : Nat → ClassId} {n : Nat} {sh : Nat → hm_S} {B : Nat} {M : hm_M} {L : hm_L} {i ci : Nat} {fl : List (Option Nat)} (hi : i < n) (hs : sh i = .inl (ci, fl)) : (hm_wl ca n sh B M L)[i]? = some (B + i, .inr (ci, hm_fs B fl (M i))) := by
  rw [hm_get hi, hs]; rfl
theorem hm_get_a {ca : Nat → ClassId} {n : Nat} {sh : Nat → hm_S} {B : Nat} {M : hm_M} {L : hm_L} {i t ln : Nat} (hi : i < n) (hs : sh i = .inr (t, ln, none)) : (hm_wl ca n sh B M L)[i]? = some (B + i, .inl (ca t, ln, .inl (M i))) := by
  rw [hm_get hi, hs]; rfl
theorem hm_get_r {ca : Nat → ClassId} {n : Nat} {sh : Nat → hm_S} {B : Nat} {M : hm_M} {L : hm_L} {i t ln : Nat} {g : Nat → Nat} (hi : i < n) (hs : sh i = .inr (t, ln, some (some g))) : (hm_wl ca n sh B M L)[i]? = some (B + i, .inl (ca t, ln, .inr (.inr (.inr (.inr (fun j => some (B + g j))))))) := by
  rw [hm_get hi, hs]; rfl
theorem hm_fs_len {B : Nat} {fl : List (Option Nat)} {f : Nat → Int32} : (hm_fs B fl f).length = fl.length := by
  simp [hm_fs]
theorem hm_fs_get {B k : Nat} {fl : List (Option Nat)} {f : Nat → Int32} {o : Option Nat} (h : fl[k]? = some o) : (hm_fs B fl f)[k]? = some (hm_fv B f k o) := by
  simp [hm_fs, List.getElem?_zipIdx, h]
theorem hm_fs_at {B k : Nat} {fl : List (Option Nat)} {f : Nat → Int32} : (hm_fs B fl f)[k]? = (fl[k]?).map (hm_fv B f k) := by
  simp [hm_fs, List.getElem?_zipIdx]
  cases fl[k]? <;> rfl
theorem hm_fs_set {B k : Nat} {fl : List (Option Nat)} {f : Nat → Int32} {x : Int32} (h : fl[k]? = some none) : (hm_fs B fl f).set k (.int x) = hm_fs B fl (upd f k x) := by
  apply List.ext_getElem?
  intro j
  rw [hm_fs_at]
  by_cases hj : k = j
  · subst hj
    have hl : k < (hm_fs B fl f).length := by rw [hm_fs_len]; exact (List.getElem?_eq_some_iff.mp h).1
    rw [List.getElem?_set_self hl, h]
    simp [hm_fv, upd]
  · rw [List.getElem?_set_ne hj, hm_fs_at]
    cases hq : fl[j]? with
    | none => rfl
    | some o =>
      cases o with
      | none => simp [hm_fv, upd, Ne.symm hj]
      | some q => rfl
theorem hm_set {ca : Nat → ClassId} {n : Nat} {sh : Nat → hm_S} {B : Nat} {M : hm_M} {L : hm_L} {i k : Nat} {x : Int32} {en : va_E} (hi : i < n) (he : en = hm_en ca B (sh i) (upd (M i) k x) (L i)) : (hm_wl ca n sh B M L).set i (B + i, en) = hm_wl ca n sh B (hm_up M i k x) L := by
  subst he
  apply List.ext_getElem?
  intro j
  have hl : (hm_wl ca n sh B M L).length = n := by simp [hm_wl]
  by_cases hj : i = j
  · subst hj
    rw [List.getElem?_set_self (by rw [hl]; exact hi), hm_get hi, hm_up_self]
  · rw [List.getElem?_set_ne hj]
    by_cases hjn : j < n
    · rw [hm_get hjn, hm_get hjn, hm_up_ne (Ne.symm hj)]
    · rw [List.getElem?_eq_none (by rw [hl]; omega), List.getElem?_eq_none (by simp [hm_wl]; omega)]
theorem hm_set_o {ca : Nat → ClassId} {n : Nat} {sh : Nat → hm_S} {B : Nat} {M : hm_M} {L : hm_L} {i ci k : Nat} {fl : List (Option Nat)} {x : Int32} (hi : i < n) (hs : sh i = .inl (ci, fl)) (h : fl[k]? = some none) : (hm_wl ca n sh B M L).set i (B + i, .inr (ci, (hm_fs B fl (M i)).set k (.int x))) = hm_wl ca n sh B (hm_up M i k x) L := by
  refine hm_set hi ?_
  rw [hs, hm_fs_set h]; rfl
theorem hm_set_a {ca : Nat → ClassId} {n : Nat} {sh : Nat → hm_S} {B : Nat} {M : hm_M} {L : hm_L} {i t ln k : Nat} {x : Int32} (hi : i < n) (hs : sh i = .inr (t, ln, none)) : (hm_wl ca n sh B M L).set i (B + i, .inl (ca t, ln, .inl (upd (M i) k x))) = hm_wl ca n sh B (hm_up M i k x) L := by
  refine hm_set hi ?_
  rw [hs]; rfl
theorem hm_get_l {ca : Nat → ClassId} {n : Nat} {sh : Nat → hm_S} {B : Nat} {M : hm_M} {L : hm_L} {i t ln : Nat} (hi : i < n) (hs : sh i = .inr (t, ln, some none)) : (hm_wl ca n sh B M L)[i]? = some (B + i, .inl (ca t, ln, .inr (.inl (L i)))) := by
  rw [hm_get hi, hs]; rfl
theorem hm_set_l {ca : Nat → ClassId} {n : Nat} {sh : Nat → hm_S} {B : Nat} {M : hm_M} {L : hm_L} {i t ln k : Nat} {x : Int64} (hi : i < n) (hs : sh i = .inr (t, ln, some none)) : (hm_wl ca n sh B M L).set i (B + i, .inl (ca t, ln, .inr (.inl (vp_updL (L i) k x)))) = hm_wl ca n sh B M (hm_lup L i k x) := by
  apply List.ext_getElem?
  intro j
  have hl : (hm_wl ca n sh B M L).length = n := by simp [hm_wl]
  by_cases hj : i = j
  · subst hj
    rw [List.getElem?_set_self (by rw [hl]; exact hi), hm_get hi, hm_lup_self, hs]
    rfl
  · rw [List.getElem?_set_ne hj]
    by_cases hjn : j < n
    · rw [hm_get hjn, hm_get hjn, hm_lup_ne (Ne.symm hj)]
    · rw [List.getElem?_eq_none (by rw [hl]; omega), List.getElem?_eq_none (by simp [hm_wl]; omega)]
theorem hm_D {ca : Nat → ClassId} {n : Nat} {sh : Nat → hm_S} {B : Nat} {M : hm_M} {L : hm_L} : va_D (hm_A B n) (hm_wl ca n sh B M L) := by
  have key : ∀ (k : Nat) (q : Nat × va_E), (hm_wl ca n sh B M L)[k]? = some q → k < n ∧ q.1 = B + k := by
    intro k q hk
    have hl : k < n := by
      have := (List.getElem?_eq_some_iff.mp hk).1
      simpa [hm_wl] using this
    rw [hm_get hl] at hk
    cases hk
    exact ⟨hl, rfl⟩
  refine ⟨fun i j x y hx hy hxy => ?_, fun k q hk => ?_⟩
  · have h1 := (key i x hx).2
    have h2 := (key j y hy).2
    omega
  · obtain ⟨h1, h2⟩ := key k q hk
    rw [h2]
    exact ⟨by omega, by omega⟩
abbrev hm_P (D : va_G) (cl : List vw_C) (ca : Nat → ClassId) (n : Nat) (sh : Nat → hm_S) (B : Nat) (M : hm_M) (L : hm_L) (H : Heap) : Prop := va_P D cl (hm_wl ca n sh B M L) H
/-! guards and steps of the functions that the methods are read into -/
def hm_ix (i : Int32) (n : Nat) : Bool := decide (0 ≤ i.toInt ∧ i.toInt < n)
theorem hm_ix_in {i : Int32} {n : Nat} (h : hm_ix i n = true) : vp_in i n := vp_in_iff.mpr (of_decide_eq_true h)
theorem hm_ix_nI {k n : Nat} (h : k < n) (hn : n < 2 ^ 31) : hm_ix (nI k) n = true := decide_eq_true (vp_in_iff.mp (vp_in_nI h hn))
def hm_gd {α : Type} (b : Bool) (k : Option α) : Option α := match b with
  | true => k
  | false => none
theorem hm_gd_some {α : Type} {b : Bool} {k : Option α} {r : α} (h : hm_gd b k = some r) : b = true ∧ k = some r := by
  cases b with
  | true => exact ⟨rfl, h⟩
  | false => cases h
theorem hm_gd_t {α : Type} {b : Bool} {k : Option α} (h : b = true) : hm_gd b k = k := by subst h; rfl
def hm_bI {α β μ : Type} (x : Option (β × μ)) (k : β → μ → Option α) : Option α := match x with
  | none => none
  | some q => k q.1 q.2
theorem hm_bI_some {α β μ : Type} {x : Option (β × μ)} {k : β → μ → Option α} {y : α} (h : hm_bI x k = some y) : ∃ (r : β) (M : μ), x = some (r, M) ∧ k r M = some y := by
  cases x with
  | none => cases h
  | some q => exact ⟨q.1, q.2, rfl, h⟩
theorem hm_bI_t {α β μ : Type} {x : Option (β × μ)} {k : β → μ → Option α} {r : β} {M : μ} (h : x = some (r, M)) : hm_bI x k = k r M := by subst h; rfl
def hm_bV {α μ : Type} (x : Option μ) (k : μ → Option α) : Option α := match x with
  | none => none
  | some M => k M
theorem hm_bV_some {α μ : Type} {x : Option μ} {k : μ → Option α} {y : α} (h : hm_bV x k = some y) : ∃ M : μ, x = some M ∧ k M = some y := by
  cases x with
  | none => cases h
  | some q => exact ⟨q, rfl, h⟩
theorem hm_bV_t {α μ : Type} {x : Option μ} {k : μ → Option α} {M : μ} (h : x = some M) : hm_bV x k = k M := by subst h; rfl
def hm_st {α : Type} (M : hm_M) (i k : Nat) (x : Int32) (f : hm_M → Option α) : Option α := f (hm_up M i k x)
theorem hm_st_some {α : Type} {M : hm_M} {i k : Nat} {x : Int32} {f : hm_M → Option α} {y : α} (h : hm_st M i k x f = some y) : ∃ M1 : hm_M, M1 = hm_up M i k x ∧ f M1 = some y := ⟨_, rfl, h⟩
