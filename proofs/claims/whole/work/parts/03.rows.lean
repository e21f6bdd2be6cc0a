/-! ROWS OVER A WORLD AT FIXED PLACES -/
def hq_okw (w : Cond) : Bool := (w.onTables && w.keepsH) || (match w with
  | .arrayClass _ => true
  | _ => false)
/-- what a method of the world takes of the tables: classes, array classes, and all words of tb -/
def hq_K (D : va_G) (cl : List vw_C) (tys : List (ClassId × FieldType)) (tb : List Cond) (U : State) : Prop := va_K D cl tys U ∧ (∀ w ∈ tb, hq_okw w = true) ∧ ∀ w ∈ tb, ∀ a : Array Value, w.before a U = true
theorem hq_K.moved {D : va_G} {cl : List vw_C} {tys : List (ClassId × FieldType)} {tb : List Cond} {s U : State} (hW : s.WarmedH U.vm) (h : hq_K D cl tys tb s) : hq_K D cl tys tb U := by
  refine ⟨va_K.moved hW.alike h.1, h.2.1, fun w hw a => ?_⟩
  have hk := h.2.1 w hw
  have hb := h.2.2 w hw #[]
  unfold hq_okw at hk
  rcases Bool.or_eq_true _ _ |>.mp hk with h1 | h1
  · rw [Bool.and_eq_true] at h1
    have h2 := Cond.onTables_warmH (T := U) (args' := a) hW h1.1 h1.2 hb
    rwa [State.setVm_self] at h2
  · cases w with
    | arrayClass ty => exact word_at hW (Or.inr ⟨ty, rfl⟩) hb
    | _ => cases h1
theorem hq_K.calling {D : va_G} {cl : List vw_C} {tys : List (ClassId × FieldType)} {tb : List Cond} {U : State} {g : JFrame} {mk : MethodId} {a : Array Value} (h : hq_K D cl tys tb U) : hq_K D cl tys tb (U.calling g mk a) :=
  hq_K.moved (s := U) (U := U.calling g mk a) (State.WarmedH.refl U) h
def hq_Pre (D : va_G) (cl : List vw_C) (ca : Nat → ClassId) (n : Nat) (sh : Nat → hm_S) (B : Nat) (tys : List (ClassId × FieldType)) (tb : List Cond) (M : hm_M) (L : hm_L) (vs : List Value) : Array Value → State → Prop := va_Pc vs (fun U => hm_P D cl ca n sh B M L U.heap ∧ hq_K D cl tys tb U)
def hq_QI (D : va_G) (cl : List vw_C) (ca : Nat → ClassId) (n : Nat) (sh : Nat → hm_S) (B : Nat) (r : Int32) (M : hm_M) (L : hm_L) : Array Value → State → Outcome → State → Prop := va_Qi (fun (r' : Int32) (_ : Unit) => r' = r) (fun _ t => hm_P D cl ca n sh B M L t.heap) (hm_A B n)
def hq_QL (D : va_G) (cl : List vw_C) (ca : Nat → ClassId) (n : Nat) (sh : Nat → hm_S) (B : Nat) (r : Int64) (M : hm_M) (L : hm_L) : Array Value → State → Outcome → State → Prop := va_Ql (fun (r' : Int64) (_ : Unit) => r' = r) (fun _ t => hm_P D cl ca n sh B M L t.heap) (hm_A B n)
def hq_QV (D : va_G) (cl : List vw_C) (ca : Nat → ClassId) (n : Nat) (sh : Nat → hm_S) (B : Nat) (M : hm_M) (L : hm_L) : Array Value → State → Outcome → State → Prop := va_Qv (fun (_ : Unit) => True) (fun _ t => hm_P D cl ca n sh B M L t.heap) (hm_A B n)
section HQ
variable {p : Program} {l : Launch} {e : Env} {R : Room} {s : State} {m : MethodId} {args : Array Value} {below : List Frame} {meth : Method} {c : Code} {H : Heap} {locs : List Loc} {cells slots : Nat} {Q : State → Prop}
variable {cc : ByteArray} {pc : Nat} {ls : Array Slot} {rest st0 : List Value} {D : va_G} {cl : List vw_C} {tys : List (ClassId × FieldType)} {H0 : Heap} {ca : Nat → ClassId} {n B : Nat} {sh : Nat → hm_S} {M M1 : hm_M} {L L1 : hm_L} {tb : List Cond} {A : Nat → Prop}
theorem hq_get (hexec : p.tables.exec = Jvm.exec) (hb : c.code = cc) {own ref C : String} {T : u_T} {N ci index : Nat} {Ts : List Cond} (hts : ∀ w ∈ Ts, w.before args s = true) (hin : ∀ w ∈ u_ws C T N, w ∈ Ts) (hown : s.vm.findClass own = some m.cls) (hK : va_K D cl tys s) (hP : hm_P D cl ca n sh B M L H) (i : Nat) (hi : i < n) {fl : List (Option Nat)} (hs : sh i = .inl (ci, fl)) (hc : cl[ci]? = some (C, T, N)) (k : Nat) (hk : k < N) (hlink : (Cond.fieldLink own index ref (T k).2.1 (T k).2.2.1).before args s = true) (hsame : ∀ x, s.fieldFound? (T k).1 (T k).2.1 (T k).2.2.1 = some x → s.fieldFound? ref (T k).2.1 (T k).2.2.1 = some x) {v : Value} (hv : (fl[k]?).map (hm_fv B (M i) k) = some v) (hdg : decode cc pc = .ok (.getfield index, 3))
    (kk : W p l e R s m args below meth c H locs cells slots Q (F0 m (pc + 3) ls (v :: rest))) : W p l e R s m args below meth c H locs cells slots Q (F0 m pc ls (.ref (B + i) :: rest)) :=
  va_get hexec hb hts hin hown hK hP i (hm_get_o hi hs) hc k hk hlink hsame (hm_fs_at.trans hv) hdg kk
theorem hq_getN (hexec : p.tables.exec = Jvm.exec) (hb : c.code = cc) {own ref C host : String} {T : u_T} {N ci index : Nat} {Ts : List Cond} (hts : ∀ w ∈ Ts, w.before args s = true) (hin : ∀ w ∈ u_ws C T N, w ∈ Ts) (hown : s.vm.findClass own = some m.cls) (hK : va_K D cl tys s) (hP : hm_P D cl ca n sh B M L H) (i : Nat) (hi : i < n) {fl : List (Option Nat)} (hs : sh i = .inl (ci, fl)) (hc : cl[ci]? = some (C, T, N)) (k : Nat) (hk : k < N) (hlink : (Cond.fieldLinkNest own index ref (T k).2.1 (T k).2.2.1 host).before args s = true) (hsame : ∀ x, s.fieldFound? (T k).1 (T k).2.1 (T k).2.2.1 = some x → s.fieldFound? ref (T k).2.1 (T k).2.2.1 = some x) {v : Value} (hv : (fl[k]?).map (hm_fv B (M i) k) = some v) (hdg : decode cc pc = .ok (.getfield index, 3))
    (kk : W p l e R s m args below meth c H locs cells slots Q (F0 m (pc + 3) ls (v :: rest))) : W p l e R s m args below meth c H locs cells slots Q (F0 m pc ls (.ref (B + i) :: rest)) :=
  va_getN hexec hb hts hin hown hK hP i (hm_get_o hi hs) hc k hk hlink hsame (hm_fs_at.trans hv) hdg kk
theorem hq_put (hexec : p.tables.exec = Jvm.exec) (hb : c.code = cc) {own ref C : String} {T : u_T} {N ci index : Nat} {Ts : List Cond} (hts : ∀ w ∈ Ts, w.before args s = true) (hin : ∀ w ∈ u_ws C T N, w ∈ Ts) (ty0 : Nat → FieldType) (hty : ∀ k, k < N → parseFieldDescriptor (T k).2.2.1 = some (ty0 k)) (hnm : ∀ a, a < N → ∀ b, b < N → a ≠ b → (T a).2.1 ≠ (T b).2.1) (hown : s.vm.findClass own = some m.cls) (hK : va_K D cl tys s) (hP : hm_P D cl ca n sh B M L H) (hS0 : va_S (hm_A B n) H0 H locs) (i : Nat) (hi : i < n) {fl : List (Option Nat)} (hs : sh i = .inl (ci, fl)) (hc : cl[ci]? = some (C, T, N)) (k : Nat) (hk : k < N) (hlink : (Cond.fieldLink own index ref (T k).2.1 (T k).2.2.1).before args s = true) (hsame : ∀ x, s.fieldFound? (T k).1 (T k).2.1 (T k).2.2.1 = some x → s.fieldFound? ref (T k).2.1 (T k).2.2.1 = some x) (hfin : (T k).2.2.2 = false) {ty : FieldType} {x : Int32} (hd : parseFieldDescriptor (T k).2.2.1 = some ty) (hn : narrow ty (.int x) = .int x) (hfit : fits ty (.int x) = true) (hf : fl[k]? = some none)
    (hdg : decode cc pc = .ok (.putfield index, 3)) (kk : ∀ (H1 : Heap) (locs1 : List Loc), hm_P D cl ca n sh B (hm_up M i k x) L H1 → va_S (hm_A B n) H0 H1 locs1 → W p l e R s m args below meth c H1 locs1 cells slots Q (F0 m (pc + 3) ls rest)) : W p l e R s m args below meth c H locs cells slots Q (F0 m pc ls (.int x :: .ref (B + i) :: rest)) :=
  va_put hexec hb hts hin ty0 hty hnm hown hK hP hm_D hS0 i (hm_get_o hi hs) hc k hk hlink hsame hfin hd hn hfit (by rw [hm_fs_len]; exact (List.getElem?_eq_some_iff.mp hf).1) hdg (fun H1 locs1 hP1 _ hS1 => kk H1 locs1 (by rw [hm_set_o hi hs hf] at hP1; exact hP1) hS1)
theorem hq_putN (hexec : p.tables.exec = Jvm.exec) (hb : c.code = cc) {own ref C host : String} {T : u_T} {N ci index : Nat} {Ts : List Cond} (hts : ∀ w ∈ Ts, w.before args s = true) (hin : ∀ w ∈ u_ws C T N, w ∈ Ts) (ty0 : Nat → FieldType) (hty : ∀ k, k < N → parseFieldDescriptor (T k).2.2.1 = some (ty0 k)) (hnm : ∀ a, a < N → ∀ b, b < N → a ≠ b → (T a).2.1 ≠ (T b).2.1) (hown : s.vm.findClass own = some m.cls) (hK : va_K D cl tys s) (hP : hm_P D cl ca n sh B M L H) (hS0 : va_S (hm_A B n) H0 H locs) (i : Nat) (hi : i < n) {fl : List (Option Nat)} (hs : sh i = .inl (ci, fl)) (hc : cl[ci]? = some (C, T, N)) (k : Nat) (hk : k < N) (hlink : (Cond.fieldLinkNest own index ref (T k).2.1 (T k).2.2.1 host).before args s = true) (hsame : ∀ x, s.fieldFound? (T k).1 (T k).2.1 (T k).2.2.1 = some x → s.fieldFound? ref (T k).2.1 (T k).2.2.1 = some x) (hfin : (T k).2.2.2 = false) {ty : FieldType} {x : Int32} (hd : parseFieldDescriptor (T k).2.2.1 = some ty) (hn : narrow ty (.int x) = .int x) (hfit : fits ty (.int x) = true) (hf : fl[k]? = some none)
    (hdg : decode cc pc = .ok (.putfield index, 3)) (kk : ∀ (H1 : Heap) (locs1 : List Loc), hm_P D cl ca n sh B (hm_up M i k x) L H1 → va_S (hm_A B n) H0 H1 locs1 → W p l e R s m args below meth c H1 locs1 cells slots Q (F0 m (pc + 3) ls rest)) : W p l e R s m args below meth c H locs cells slots Q (F0 m pc ls (.int x :: .ref (B + i) :: rest)) :=
  va_putN hexec hb hts hin ty0 hty hnm hown hK hP hm_D hS0 i (hm_get_o hi hs) hc k hk hlink hsame hfin hd hn hfit (by rw [hm_fs_len]; exact (List.getElem?_eq_some_iff.mp hf).1) hdg (fun H1 locs1 hP1 _ hS1 => kk H1 locs1 (by rw [hm_set_o hi hs hf] at hP1; exact hP1) hS1)
theorem hq_iald (hexec : p.tables.exec = Jvm.exec) (hb : c.code = cc) (hK : va_K D cl tys s) (hP : hm_P D cl ca n sh B M L H) (i : Nat) (hi : i < n) {t ln : Nat} (hs : sh i = .inr (t, ln, none)) (t0 : Nat) (ht : tys[t0]? = some (ca t, .int)) {x : Int32} (hin : hm_ix x ln = true) (hdg : decode cc pc = .ok (.iaload, 1))
    (kk : W p l e R s m args below meth c H locs cells slots Q (F0 m (pc + 1) ls (.int (M i x.toNatClampNeg) :: rest))) : W p l e R s m args below meth c H locs cells slots Q (F0 m pc ls (.int x :: .ref (B + i) :: rest)) :=
  va_iald hexec hb hK hP i t0 (hm_get_a hi hs) ht (hm_ix_in hin) hdg kk
theorem hq_zald (hexec : p.tables.exec = Jvm.exec) (hb : c.code = cc) (hK : va_K D cl tys s) (hP : hm_P D cl ca n sh B M L H) (i : Nat) (hi : i < n) {t ln : Nat} (hs : sh i = .inr (t, ln, none)) (t0 : Nat) (ht : tys[t0]? = some (ca t, .boolean)) {x : Int32} (hin : hm_ix x ln = true) (hdg : decode cc pc = .ok (.baload, 1))
    (kk : W p l e R s m args below meth c H locs cells slots Q (F0 m (pc + 1) ls (.int (M i x.toNatClampNeg) :: rest))) : W p l e R s m args below meth c H locs cells slots Q (F0 m pc ls (.int x :: .ref (B + i) :: rest)) :=
  va_zald hexec hb hK hP i t0 (hm_get_a hi hs) ht (hm_ix_in hin) hdg kk
theorem hq_aald (hexec : p.tables.exec = Jvm.exec) (hb : c.code = cc) (hK : va_K D cl tys s) (hP : hm_P D cl ca n sh B M L H) (i : Nat) (hi : i < n) {t ln : Nat} {g : Nat → Nat} (hs : sh i = .inr (t, ln, some (some g))) (t0 : Nat) {ty : FieldType} (ht : tys[t0]? = some (ca t, ty)) (hty : ty.isReference = true) {x : Int32} (hin : hm_ix x ln = true) (hdg : decode cc pc = .ok (.aaload, 1))
    (kk : W p l e R s m args below meth c H locs cells slots Q (F0 m (pc + 1) ls (.ref (B + g x.toNatClampNeg) :: rest))) : W p l e R s m args below meth c H locs cells slots Q (F0 m pc ls (.int x :: .ref (B + i) :: rest)) := by
  have hin2 := hm_ix_in hin
  have hlt : x.toNatClampNeg < ln := Nat.not_le.mp fun q => hin2 (Or.inr q)
  exact W.aald (v := .ref (B + g x.toNatClampNeg)) (ty := ty) hexec hb (hP i _ (hm_get_r hi hs)) ((hK.2 t0 _ ht).1 ln (fun j => va_rf (some (B + g j)))) hty (fun q => by cases q) (by show ¬ (x < 0 ∨ (arrV _ _ _).slots.size ≤ _); rw [arrV_size]; exact hin2) (by show (arrV _ _ _).slots[_]? = _; rw [arrV_read _ _ hlt]; rfl) rfl rfl hdg kk
theorem hq_alen (hexec : p.tables.exec = Jvm.exec) (hb : c.code = cc) (hK : va_K D cl tys s) (hP : hm_P D cl ca n sh B M L H) (i : Nat) (hi : i < n) {t ln : Nat} (hs : sh i = .inr (t, ln, none)) (t0 : Nat) {ty : FieldType} (ht : tys[t0]? = some (ca t, ty)) {v : Int32} (hv : Int32.ofNat ln = v) (hdg : decode cc pc = .ok (.arraylength, 1))
    (kk : W p l e R s m args below meth c H locs cells slots Q (F0 m (pc + 1) ls (.int v :: rest))) : W p l e R s m args below meth c H locs cells slots Q (F0 m pc ls (.ref (B + i) :: rest)) :=
  va_alen hexec hb hK hP i t0 (hm_get_a hi hs) ht hv hdg kk
theorem hq_iast (hexec : p.tables.exec = Jvm.exec) (hb : c.code = cc) (hK : va_K D cl tys s) (hP : hm_P D cl ca n sh B M L H) (hS0 : va_S (hm_A B n) H0 H locs) (i : Nat) (hi : i < n) {t ln : Nat} (hs : sh i = .inr (t, ln, none)) (t0 : Nat) (ht : tys[t0]? = some (ca t, .int)) {x y : Int32} (hin : hm_ix x ln = true) (hdg : decode cc pc = .ok (.iastore, 1))
    (kk : ∀ (H1 : Heap) (locs1 : List Loc), hm_P D cl ca n sh B (hm_up M i x.toNatClampNeg y) L H1 → va_S (hm_A B n) H0 H1 locs1 → W p l e R s m args below meth c H1 locs1 cells slots Q (F0 m (pc + 1) ls rest)) : W p l e R s m args below meth c H locs cells slots Q (F0 m pc ls (.int y :: .int x :: .ref (B + i) :: rest)) :=
  va_iast hexec hb hK hP hm_D hS0 i t0 (hm_get_a hi hs) ht (hm_ix_in hin) hdg (fun H1 locs1 hP1 _ hS1 => kk H1 locs1 (by rw [hm_set_a hi hs] at hP1; exact hP1) hS1)
theorem hq_nb {y : Int32} (h : y = 0 ∨ y = 1) : vp_nar .boolean y = y := by
  rcases h with rfl | rfl <;> rfl
theorem hq_nb2 {y : Int32} (h : y = 0 ∨ y = 1) : narrow .boolean (.int y) = .int y := by
  rcases h with rfl | rfl <;> rfl
theorem hq_nb3 {y : Int32} (h : y = 0 ∨ y = 1) : fits .boolean (.int y) = true := by
  rcases h with rfl | rfl <;> rfl
theorem hq_zast (hexec : p.tables.exec = Jvm.exec) (hb : c.code = cc) (hK : va_K D cl tys s) (hP : hm_P D cl ca n sh B M L H) (hS0 : va_S (hm_A B n) H0 H locs) (i : Nat) (hi : i < n) {t ln : Nat} (hs : sh i = .inr (t, ln, none)) (t0 : Nat) (ht : tys[t0]? = some (ca t, .boolean)) {x y : Int32} (hin : hm_ix x ln = true) (hy : y = 0 ∨ y = 1) (hdg : decode cc pc = .ok (.bastore, 1))
    (kk : ∀ (H1 : Heap) (locs1 : List Loc), hm_P D cl ca n sh B (hm_up M i x.toNatClampNeg y) L H1 → va_S (hm_A B n) H0 H1 locs1 → W p l e R s m args below meth c H1 locs1 cells slots Q (F0 m (pc + 1) ls rest)) : W p l e R s m args below meth c H locs cells slots Q (F0 m pc ls (.int y :: .int x :: .ref (B + i) :: rest)) :=
  va_zast hexec hb hK hP hm_D hS0 i t0 (hm_get_a hi hs) ht (hm_ix_in hin) hdg (fun H1 locs1 hP1 _ hS1 => kk H1 locs1 (by rw [hq_nb hy, hm_set_a hi hs] at hP1; exact hP1) hS1)
theorem hq_alenl (hexec : p.tables.exec = Jvm.exec) (hb : c.code = cc) (hK : va_K D cl tys s) (hP : hm_P D cl ca n sh B M L H) (i : Nat) (hi : i < n) {t ln : Nat} (hs : sh i = .inr (t, ln, some none)) (t0 : Nat) {ty : FieldType} (ht : tys[t0]? = some (ca t, ty)) {v : Int32} (hv : Int32.ofNat ln = v) (hdg : decode cc pc = .ok (.arraylength, 1))
    (kk : W p l e R s m args below meth c H locs cells slots Q (F0 m (pc + 1) ls (.int v :: rest))) : W p l e R s m args below meth c H locs cells slots Q (F0 m pc ls (.ref (B + i) :: rest)) :=
  va_alen hexec hb hK hP i t0 (hm_get_l hi hs) ht hv hdg kk
theorem hq_lald (hexec : p.tables.exec = Jvm.exec) (hb : c.code = cc) (hK : va_K D cl tys s) (hP : hm_P D cl ca n sh B M L H) (i : Nat) (hi : i < n) {t ln : Nat} (hs : sh i = .inr (t, ln, some none)) (t0 : Nat) (ht : tys[t0]? = some (ca t, .long)) {x : Int32} (hin : hm_ix x ln = true) (hdg : decode cc pc = .ok (.laload, 1))
    (kk : W p l e R s m args below meth c H locs cells slots Q (F0 m (pc + 1) ls (.long (L i x.toNatClampNeg) :: rest))) : W p l e R s m args below meth c H locs cells slots Q (F0 m pc ls (.int x :: .ref (B + i) :: rest)) :=
  va_lald hexec hb hK hP i t0 (hm_get_l hi hs) ht (hm_ix_in hin) hdg kk
theorem hq_last (hexec : p.tables.exec = Jvm.exec) (hb : c.code = cc) (hK : va_K D cl tys s) (hP : hm_P D cl ca n sh B M L H) (hS0 : va_S (hm_A B n) H0 H locs) (i : Nat) (hi : i < n) {t ln : Nat} (hs : sh i = .inr (t, ln, some none)) (t0 : Nat) (ht : tys[t0]? = some (ca t, .long)) {x : Int32} {y : Int64} (hin : hm_ix x ln = true) (hdg : decode cc pc = .ok (.lastore, 1))
    (kk : ∀ (H1 : Heap) (locs1 : List Loc), hm_P D cl ca n sh B M (hm_lup L i x.toNatClampNeg y) H1 → va_S (hm_A B n) H0 H1 locs1 → W p l e R s m args below meth c H1 locs1 cells slots Q (F0 m (pc + 1) ls rest)) : W p l e R s m args below meth c H locs cells slots Q (F0 m pc ls (.long y :: .int x :: .ref (B + i) :: rest)) :=
  va_last hexec hb hK hP hm_D hS0 i t0 (hm_get_l hi hs) ht (hm_ix_in hin) hdg (fun H1 locs1 hP1 _ hS1 => kk H1 locs1 (by rw [hm_set_l hi hs] at hP1; exact hP1) hS1)
/-! calls -/
theorem hq_callI {r : Int32} {a : Array Value} (hr : va_Run p l e R s m args below meth c H locs cells slots 0 0 (F0 m pc ls st0) rest (hq_QI D cl ca n sh B r M1 L1 a) (hm_A B n)) (hS : va_S (hm_A B n) H0 H locs)
    (kk : ∀ (H1 : Heap) (locs1 : List Loc), hm_P D cl ca n sh B M1 L1 H1 → va_S (hm_A B n) H0 H1 locs1 → W p l e R s m args below meth c H1 locs1 cells slots Q (F0 m (pc + 3) ls (.int r :: rest))) : W p l e R s m args below meth c H locs cells slots Q (F0 m pc ls st0) :=
  va_calli hr hS (fun _ _ h => h) (fun _ h => h) (fun r' u t H1 locs1 ht _ hw hB _ _ hS1 => by
    subst hw
    subst ht
    exact kk _ _ hB hS1)
theorem hq_callL {r : Int64} {a : Array Value} (hr : va_Run p l e R s m args below meth c H locs cells slots 0 0 (F0 m pc ls st0) rest (hq_QL D cl ca n sh B r M1 L1 a) (hm_A B n)) (hS : va_S (hm_A B n) H0 H locs)
    (kk : ∀ (H1 : Heap) (locs1 : List Loc), hm_P D cl ca n sh B M1 L1 H1 → va_S (hm_A B n) H0 H1 locs1 → W p l e R s m args below meth c H1 locs1 cells slots Q (F0 m (pc + 3) ls (.long r :: rest))) : W p l e R s m args below meth c H locs cells slots Q (F0 m pc ls st0) :=
  va_calll hr hS (fun _ _ h => h) (fun _ h => h) (fun r' u t H1 locs1 ht _ hw hB _ _ hS1 => by
    subst hw
    subst ht
    exact kk _ _ hB hS1)
theorem hq_callV {a : Array Value} (hr : va_Run p l e R s m args below meth c H locs cells slots 0 0 (F0 m pc ls st0) rest (hq_QV D cl ca n sh B M1 L1 a) (hm_A B n)) (hS : va_S (hm_A B n) H0 H locs)
    (kk : ∀ (H1 : Heap) (locs1 : List Loc), hm_P D cl ca n sh B M1 L1 H1 → va_S (hm_A B n) H0 H1 locs1 → W p l e R s m args below meth c H1 locs1 cells slots Q (F0 m (pc + 3) ls rest)) : W p l e R s m args below meth c H locs cells slots Q (F0 m pc ls st0) :=
  va_callv hr hS (fun _ _ h => h) (fun _ h => h) (fun u t H1 locs1 ht _ _ hB _ _ hS1 => by
    subst ht
    exact kk _ _ hB hS1)
theorem hq_blind {vs : List Value} : FrameBlind (hq_Pre D cl ca n sh B tys tb M L vs) := fun _ _ _ _ q => ⟨q.1, q.2.1, q.2.2.calling⟩
theorem hq_preV {C : String} {T : u_T} {N ci i : Nat} {fl : List (Option Nat)} {As : List Value} (hK : hq_K D cl tys tb s) (hP : hm_P D cl ca n sh B M L H) (hi : i < n) (hs : sh i = .inl (ci, fl)) (hc : cl[ci]? = some (C, T, N)) : PreV s H C (B + i) (hq_Pre D cl ca n sh B tys tb M L (.ref (B + i) :: As)) As :=
  ⟨hq_blind, va_recv hK.1 hP hc (hm_get_o hi hs), fun U hU hW => ⟨rfl, by rw [hU]; exact hP, hK.moved hW⟩⟩
theorem hq_preS {As : List Value} (hK : hq_K D cl tys tb s) (hP : hm_P D cl ca n sh B M L H) : PreS s H (hq_Pre D cl ca n sh B tys tb M L As) As :=
  ⟨hq_blind, fun U hU hW => ⟨rfl, by rw [hU]; exact hP, hK.moved hW⟩⟩
theorem hq_cwV {own C : String} {index maxL nn : Nat} {y : MethodName} {bytes : ByteArray} {ret : Option FieldType} {rm : Room} (hts : ∀ w ∈ tb, w.before args s = true) (hcode : Cond.code y bytes maxL ret ∈ tb) (hini : Cond.initialized y.cls ∈ tb) (hlink : Cond.methodLink own index y ∈ tb) (hin : Cond.instanceMethod y ∈ tb) (hsel : Cond.selects C y y ∈ tb)
    (hd : y.cls ≠ "java/lang/invoke/MethodHandle" ∧ y.cls ≠ "java/lang/invoke/VarHandle" ∧ (parseMethodDescriptor y.desc).map (fun d => d.parameters.length) = some nn) (hc : rm.cells = 0) (hs : rm.slots = 0) (hR : rm.frames + 1 ≤ R.frames ∧ 8 + (maxL + 11) + rm.locals ≤ R.locals) :
    CallW R s args own C index y bytes maxL ret [Cond.code y bytes maxL ret] rm 0 0 nn :=
  ⟨callB_of nn hts (fun w hw => by
    rw [List.mem_singleton.mp hw]
    exact ⟨hcode, Or.inl rfl⟩) rfl hc hs (hts _ hini) (hts _ hlink) hd hR, hts _ hin, hts _ hsel⟩
theorem hq_cwN {own C host : String} {index maxL nn : Nat} {y : MethodName} {bytes : ByteArray} {ret : Option FieldType} {rm : Room} (hts : ∀ w ∈ tb, w.before args s = true) (hcode : Cond.code y bytes maxL ret ∈ tb) (hini : Cond.initialized y.cls ∈ tb) (hlink : Cond.methodLinkNest own index y host ∈ tb) (hin : Cond.instanceMethod y ∈ tb) (hsel : Cond.selects C y y ∈ tb)
    (hd : y.cls ≠ "java/lang/invoke/MethodHandle" ∧ y.cls ≠ "java/lang/invoke/VarHandle" ∧ (parseMethodDescriptor y.desc).map (fun d => d.parameters.length) = some nn) (hc : rm.cells = 0) (hs : rm.slots = 0) (hR : rm.frames + 1 ≤ R.frames ∧ 8 + (maxL + 11) + rm.locals ≤ R.locals) :
    va_CN R s args own index y host bytes maxL ret [Cond.code y bytes maxL ret] rm 0 0 nn ∧ (Cond.instanceMethod y).before args s = true ∧ (Cond.selects C y y).before args s = true :=
  ⟨va_cnB nn hts (fun w hw => by
    rw [List.mem_singleton.mp hw]
    exact ⟨hcode, Or.inl rfl⟩) rfl hc hs (va_Nw.of rfl (hts _ hlink)) (hts _ hini) hd hR, hts _ hin, hts _ hsel⟩
theorem hq_cwS {own : String} {index maxL nn : Nat} {y : MethodName} {bytes : ByteArray} {ret : Option FieldType} {rm : Room} (hts : ∀ w ∈ tb, w.before args s = true) (hcode : Cond.code y bytes maxL ret ∈ tb) (hini : Cond.initialized y.cls ∈ tb) (hlink : Cond.methodLink own index y ∈ tb) (hst : Cond.static y ∈ tb)
    (hd : y.cls ≠ "java/lang/invoke/MethodHandle" ∧ y.cls ≠ "java/lang/invoke/VarHandle" ∧ (parseMethodDescriptor y.desc).map (fun d => d.parameters.length) = some nn) (hc : rm.cells = 0) (hs : rm.slots = 0) (hR : rm.frames + 1 ≤ R.frames ∧ 8 + (maxL + 11) + rm.locals ≤ R.locals) :
    CallB R s args own index y bytes maxL ret [Cond.code y bytes maxL ret] rm 0 0 nn ∧ (Cond.static y).before args s = true :=
  ⟨callB_of nn hts (fun w hw => by
    rw [List.mem_singleton.mp hw]
    exact ⟨hcode, Or.inl rfl⟩) rfl hc hs (hts _ hini) (hts _ hlink) hd hR, hts _ hst⟩
end HQ
