/-! CONSTRUCTORS: the world grows cell by cell towards its first state -/
def hg_mid (E : Nat → va_E) (i : Nat) (e : va_E) (F : Nat → va_E) : Nat → va_E := fun j => if j < i then E j else if j = i then e else F j
def hg_mix (E : Nat → va_E) (i : Nat) (F : Nat → va_E) : Nat → va_E := fun j => if j < i then E j else F j
section HM
variable {D : va_G} {cl : List vw_C} {B : Nat} {H : Heap} {E F : Nat → va_E} {i k c : Nat} {e e' x : va_E}
theorem hg_mid_self : hg_mid E i e F i = e := by unfold hg_mid; rw [if_neg (Nat.lt_irrefl i), if_pos rfl]
theorem hg_mid_lt {j : Nat} (h : j < i) : hg_mid E i e F j = E j := by unfold hg_mid; rw [if_pos h]
theorem hg_mid_gt {j : Nat} (h : i < j) : hg_mid E i e F j = F j := by unfold hg_mid; rw [if_neg (by omega), if_neg (by omega)]
theorem hg_start (h : hg_W D cl B (i + 1) E H) : hg_W D cl B (i + 1) (hg_mid E i (E i) F) H := hg_congr h (fun j hj => by
  by_cases q : j < i
  · exact hg_mid_lt q
  · have : j = i := by omega
    subst this
    exact hg_mid_self)
theorem hg_grow (h : hg_W D cl B (k + 1) (va_up (hg_mid E i e F) k x) H) (hik : i < k) (hx : F k = x) : hg_W D cl B (k + 1) (hg_mid E i e F) H := hg_congr h (fun j hj => by
  by_cases q : j = k
  · subst q
    rw [va_up_self, hg_mid_gt hik, hx]
  · rw [va_up_ne _ _ q])
theorem hg_setm (h : hg_W D cl B k (va_up (hg_mid E i e F) i e') H) : hg_W D cl B k (hg_mid E i e' F) H := hg_congr h (fun j hj => by
  by_cases q : j = i
  · subst q
    rw [va_up_self, hg_mid_self]
  · rw [va_up_ne _ _ q]
    unfold hg_mid
    rw [if_neg q, if_neg q])
theorem hg_back (h : hg_W D cl B c (hg_mix (va_up (hg_mid E i e F) k x) k F) H) (hik : i < k) : hg_W D cl B c (hg_mid E i e F) H := hg_congr h (fun j hj => by
  unfold hg_mix
  by_cases q : j < k
  · rw [if_pos q, va_up_ne _ _ (by omega)]
  · rw [if_neg q, hg_mid_gt (by omega)])
theorem hg_done (h : hg_W D cl B c (hg_mid E i e F) H) (he : F i = e) : hg_W D cl B c (hg_mix E i F) H := hg_congr h (fun j hj => by
  unfold hg_mix
  by_cases q : j < i
  · rw [if_pos q, hg_mid_lt q]
  · rw [if_neg q]
    by_cases q2 : j = i
    · subst q2
      rw [hg_mid_self, he]
    · rw [hg_mid_gt (by omega)])
end HM
section HGL
variable {p : Program} {l : Launch} {e : Env} {R : Room} {s : State} {m : MethodId} {args : Array Value} {below : List Frame} {meth : Method} {c : Code} {H : Heap} {locs : List Loc} {cells slots : Nat} {Q : State → Prop}
variable {cc : ByteArray} {pc : Nat} {ls : Array Slot} {rest st0 : List Value} {D : va_G} {cl : List vw_C} {tys : List (ClassId × FieldType)} {H0 : Heap} {ca : Nat → ClassId} {B k0 : Nat} {E : Nat → va_E}
theorem hg_newal (hexec : p.tables.exec = Jvm.exec) (hb : c.code = cc) {atype : ArrayType} (harr : (Cond.arrayClass (newarray.typeOf atype)).before args s = true) {ty : FieldType} (hty : newarray.typeOf atype = ty) {t : Nat} (hca : s.vm.findClass ("[" ++ ty.toString) = some (ca t)) (hd : defaultValue ty = .long 0) (hW : hg_W D cl B k0 E H) (hS : va_S (hg_A B) H0 H locs)
    {n : Int32} {N' : Nat} (hn : ¬ n < 0) (hN : n.toNatClampNeg = N') (hbytes : N' * componentBytes ty ≤ 536870912) (hcells : cells + 1 ≤ R.cells) (hslots : slots + N' ≤ R.slots) (hdg : decode cc pc = .ok (.newarray atype, 2))
    (kk : ∀ (H1 : Heap), hg_W D cl B (k0 + 1) (va_up E k0 (.inl (ca t, N', .inr (.inl (fun _ => 0))))) H1 → va_S (hg_A B) H0 H1 locs → W p l e R s m args below meth c H1 locs (cells + 1) (slots + N') Q (F0 m (pc + 2) ls (.ref (B + k0) :: rest))) : W p l e R s m args below meth c H locs cells slots Q (F0 m pc ls (.int n :: rest)) := by
  subst hty
  refine va_newaK hexec hb harr rfl hdg rfl hn hN hbytes hcells hslots hW.2 fun H1 cA e1 z1 o1 hAr hNm => ?_
  have ec : cA = ca t := Option.some.inj (hNm.symm.trans hca)
  subst ec
  refine kk H1 (hg_push hW (show H1[B + k0]? = some (vp_cell (ca t) (N', .inr (.inl (fun _ => 0)))) by rw [e1, hd]; rfl) (by rw [z1, hW.2]) (fun q hq => o1 q (by rw [← hW.2]; exact hq))) ⟨Nat.le_trans hS.1 (by rw [z1, hW.2]; omega), fun x h1 h2 => (o1 x (by rw [← hW.2]; exact Nat.lt_of_lt_of_le h1 hS.1)).trans (hS.2.1 x h1 h2), hS.2.2⟩
theorem hg_arrV (cA : ClassId) {N : Nat} {f g : Nat → Value} (h : ∀ j, j < N → f j = g j) : arrV cA N f = arrV cA N g := by
  unfold arrV
  congr 2
  funext j
  exact h j.1 j.2
theorem hg_q (cA : ClassId) {N : Nat} {f g : Nat → Option Nat} (h : ∀ j, j < N → f j = g j) : vp_cell cA (N, .inr (.inr (.inr (.inr f)))) = vp_cell cA (N, .inr (.inr (.inr (.inr g)))) := by
  rw [vp_cell_q, vp_cell_q]
  exact hg_arrV cA (fun j hj => by rw [h j hj])
theorem hg_outer (cA : ClassId) (N h0 : Nat) : ∀ i : Nat, Jvm.Free.Multi.outerC cA N h0 i = arrV cA N (fun j => va_rf (if j < i then some (h0 + 1 + j) else none))
  | 0 => by
    show ({ cls := cA, slots := Array.replicate N .null, vm := .none } : Cell) = _
    rw [arrV_new]
    refine congrArg (arrV cA N) (funext fun j => ?_)
    simp [va_rf]
  | i + 1 => by
    show (Jvm.Free.Multi.outerC cA N h0 i).setSlot i (.ref (h0 + 1 + i)) = _
    rw [hg_outer cA N h0 i, arrV_store]
    refine congrArg (arrV cA N) (funext fun j => ?_)
    by_cases q : j = i
    · subst q
      simp [updV, va_rf]
    · by_cases h : j < i
      · simp [updV, q, h, Nat.lt_succ_of_lt h]
      · simp [updV, q, h, show ¬ j < i + 1 by omega]
/-- new int[N][K]: the outer array next behind, then its rows -/
theorem hg_mna (hexec : p.tables.exec = Jvm.exec) (hb : c.code = cc) {own : String} {index : Nat} (hown : s.vm.findClass own = some m.cls) (hclink : (Cond.classLink own index ("[" ++ (FieldType.array .int).toString)).before args s = true) (hover : (Cond.arrayOver (.array .int)).before args s = true) (harr : (Cond.arrayClass .int).before args s = true) {t t2 : Nat} (hca : s.vm.findClass ("[" ++ FieldType.int.toString) = some (ca t)) (hca2 : s.vm.findClass ("[" ++ (FieldType.array .int).toString) = some (ca t2)) (hW : hg_W D cl B k0 E H) (hS : va_S (hg_A B) H0 H locs)
    {n k : Int32} {N' K' : Nat} (hn : ¬ n < 0) (hk : ¬ k < 0) (hN : n.toNatClampNeg = N') (hM : k.toNatClampNeg = K') (hb1 : N' * 4 ≤ 536870912) (hb2 : K' * componentBytes .int ≤ 536870912) (hb3 : K' ≤ 536870912) (hcells : cells + (1 + N') ≤ R.cells) (hslots : slots + (N' + N' * K') ≤ R.slots) (hdg : decode cc pc = .ok (.multianewarray index 2, 4)) {E1 : Nat → va_E} (hE0 : ∀ i, i < k0 → E1 i = E i) {g : Nat → Option Nat} (hE1 : E1 k0 = .inl (ca t2, N', .inr (.inr (.inr (.inr g))))) (hg : ∀ j, j < N' → g j = some (B + (k0 + 1 + j))) (hE2 : ∀ j, j < N' → E1 (k0 + 1 + j) = .inl (ca t, K', .inl (fun _ => 0)))
    (kk : ∀ (H1 : Heap), hg_W D cl B (k0 + 1 + N') E1 H1 → va_S (hg_A B) H0 H1 locs → W p l e R s m args below meth c H1 locs (cells + 1 + N') (slots + N' + N' * K') Q (F0 m (pc + 4) ls (.ref (B + k0) :: rest))) : W p l e R s m args below meth c H locs cells slots Q (F0 m pc ls (.int k :: .int n :: rest)) := by
  subst hN
  subst hM
  intro T hT Xs
  obtain ⟨vm₁, cA, comp, -, fA, fC, -, -, X', step⟩ := Xs.multianewarray2F hexec hown hclink hover harr (g := F0 m pc ls (.int k :: .int n :: rest)) rfl (by rw [hb]; exact hdg) rfl hn hk hb1 hb2 hb3 rfl rfl hcells hslots
  have ec : cA = ca t2 := Option.some.inj (fA.symm.trans hca2)
  have ec2 : comp = ca t := Option.some.inj (fC.symm.trans hca)
  subst ec
  subst ec2
  generalize hF : Jvm.Free.Multi.fill (T.setVm vm₁) (ca t2) (ca t) n.toNatClampNeg k.toNatClampNeg (defaultValue .int) n.toNatClampNeg = F at X' step
  have hTh : (T.setVm vm₁).heap = H := hT
  obtain ⟨f1, f2, -, -⟩ := Jvm.Free.Multi.fill_facts (T.setVm vm₁) (ca t2) (ca t) n.toNatClampNeg k.toNatClampNeg (defaultValue .int) n.toNatClampNeg
  rw [hF, hTh] at f1 f2
  have hold : ∀ x : Nat, x < H.size → F.heap[x]? = H[x]? := fun x hx => by
    have := Jvm.Free.Multi.fill_old (T.setVm vm₁) (ca t2) (ca t) n.toNatClampNeg k.toNatClampNeg (defaultValue .int) (a := x) (by rw [hTh]; exact hx) n.toNatClampNeg
    rw [hF, hTh] at this
    exact this
  have hrow : ∀ j : Nat, j < n.toNatClampNeg → F.heap[H.size + 1 + j]? = some (vp_cell (ca t) (k.toNatClampNeg, .inl (fun _ => 0))) := fun j hj => by
    have := Jvm.Free.Multi.fill_inner (T.setVm vm₁) (ca t2) (ca t) n.toNatClampNeg k.toNatClampNeg (defaultValue .int) n.toNatClampNeg j hj
    rw [hF, hTh] at this
    rw [this, vp_cell_i]
    refine congrArg some ?_
    show ({ cls := ca t, slots := Array.replicate k.toNatClampNeg (.int 0), vm := .none } : Cell) = _
    rw [arrV_new]
  have hsz : F.heap.size = B + (k0 + 1 + n.toNatClampNeg) := by rw [f1, hW.2]; omega
  have hW1 : hg_W D cl B (k0 + 1 + n.toNatClampNeg) E1 F.heap := by
    refine ⟨fun i hi => ?_, hsz⟩
    by_cases h1 : i < k0
    · rw [hE0 i h1]
      exact (hW.1 i h1).kept (hold _ (by rw [hW.2]; show B + i < B + k0; omega))
    · by_cases h2 : i = k0
      · subst h2
        rw [hE1]
        show F.heap[B + i]? = some (vp_cell _ _)
        rw [← hW.2, f2, hg_outer, vp_cell_q]
        refine congrArg some (hg_arrV _ (fun j hj => ?_))
        rw [if_pos hj, hg j hj, hW.2, show B + i + 1 + j = B + (i + 1 + j) by omega]
      · obtain ⟨j, rfl⟩ : ∃ j, i = k0 + 1 + j := ⟨i - (k0 + 1), by omega⟩
        rw [hE2 j (by omega)]
        show F.heap[B + (k0 + 1 + j)]? = some (vp_cell _ _)
        rw [← hrow j (by omega), hW.2]
        congr 1
        omega
  obtain ⟨t', a1, b1⟩ := kk F.heap hW1 ⟨by rw [hsz]; have := hS.1; have := hW.2; omega, fun x h1 h2 => (hold x (Nat.lt_of_lt_of_le h1 hS.1)).trans (hS.2.1 x h1 h2), hS.2.2⟩ F rfl X'
  refine ⟨t', step t' ?_, b1⟩
  have z : T.heap.size = B + k0 := by rw [hT, hW.2]
  rw [z]
  exact a1
end HGL
/-! the words of arrays over classes -/
def sc_AO (U : State) : Prop := va_AO R_Stage U ∧ (Cond.arrayOver (.array .int)).before #[] U = true
theorem sc_AO.moved {u U : State} (hvm : u.vm.Alike U.vm) (h : sc_AO u) : sc_AO U := by
  refine ⟨va_AO.moved hvm h.1, ?_⟩
  show (Cond.arrayOver (.array .int)).before #[] (u.setVm U.vm) = true
  rw [Cond.arrayOver_setVmC hvm]
  exact h.2
def hg_Pre2 (D : va_G) (cl : List vw_C) (B c : Nat) (E : Nat → va_E) (tys : List (ClassId × FieldType)) (tb : List Cond) (vs : List Value) : Array Value → State → Prop := va_Pc vs (fun U => hg_W D cl B c E U.heap ∧ hq_K D cl tys tb U ∧ sc_AO U)
theorem hg_pre2 {s : State} {H : Heap} {D : va_G} {cl : List vw_C} {B k0 : Nat} {E : Nat → va_E} {tys : List (ClassId × FieldType)} {tb : List Cond} {As : List Value} (hK : hq_K D cl tys tb s) (hO : sc_AO s) (hW : hg_W D cl B k0 E H) : PreS s H (hg_Pre2 D cl B k0 E tys tb As) As :=
  ⟨fun _ _ _ _ q => ⟨q.1, q.2.1, q.2.2.1.calling, sc_AO.moved (State.WarmedH.refl _).alike q.2.2.2⟩, fun U hU hWm => ⟨rfl, by rw [hU]; exact hW, hK.moved hWm, hO.moved hWm.alike⟩⟩
/-! the first state of the class -/
def sc_M0 : hm_M := fun i => if i = 1 then (fun k => if k = 4 then 4 else if k = 5 then -1 else 0) else fun _ => 0
theorem sc_M0_ne {i : Nat} (h : ¬ i = 1) : sc_M0 i = fun _ => 0 := if_neg h
def sc_fin (ca : Nat → ClassId) (rl B : Nat) : Nat → va_E := fun i => hm_en ca B (sc_sh rl i) (sc_M0 i) (hm_L0 i)
theorem sc_fin_a {ca : Nat → ClassId} {rl B i t n : Nat} (hs : sc_sh rl i = .inr (t, n, none)) (h1 : ¬ i = 1) : sc_fin ca rl B i = .inl (ca t, n, .inl (fun _ => 0)) := by
  unfold sc_fin
  rw [hs, sc_M0_ne h1]; rfl
theorem sc_fin_o {ca : Nat → ClassId} {rl B i ci : Nat} {fl : List (Option Nat)} (hs : sc_sh rl i = .inl (ci, fl)) (h1 : ¬ i = 1) : sc_fin ca rl B i = .inr (ci, hm_fs B fl (fun _ => 0)) := by
  unfold sc_fin
  rw [hs, sc_M0_ne h1]; rfl
theorem sc_ne1 {i k : Nat} (h : sc_kd i = k) (hk : k ≠ 1) : ¬ i = 1 := fun z => by subst z; exact hk (h.symm.trans rfl)
theorem ct_objcode : Cond.code objectInit object_method_1_code 1 none ∈ hq_tb := hq_in (List.mem_of_getElem? (i := 60) (by decide +kernel)) rfl
theorem hg_conv {D : va_G} {cl : List vw_C} {B c : Nat} {E E1 : Nat → va_E} {H : Heap} (h : hg_W D cl B c E H) (he : ∀ i, i < c → va_at D cl (B + i, E i) H → va_at D cl (B + i, E1 i) H) : hg_W D cl B c E1 H := ⟨fun i hi => he i hi (h.1 i hi), h.2⟩
