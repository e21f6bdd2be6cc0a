/-! the law's rows -/
abbrev lz_lv (b B i : Nat) : List (Nat × Value) := [(0, .ref b), (1, .ref (B + 0)), (2, .ref (B + 64 + 0)), (3, .int (nI i))]
def lz_X (p : Program) (s : State) (m : MethodId) (meth : Method) (c : Code) (b L : Nat) (xs : Nat → Int32) (D D2 : va_G) (ca ca2 : Nat → ClassId) (B : Nat) : Prop :=
  p.tables.exec = Jvm.exec ∧ c.code = code ∧ c.maxLocals = 4 ∧ s.vm.findClass R_law = some m.cls ∧ meth.sig.returnType = ret ∧ meth.locks = false ∧ hq_K D sc_cl (sc_ty ca) hq_tb s ∧ hq_K D2 mo_cl (mo_ty ca2) hq_tb s ∧ va_X b L xs s s.heap ∧ b < s.heap.size ∧ L ≤ 2561 ∧ s.heap.size = B
def lz_J (D D2 : va_G) (ca ca2 : Nat → ClassId) (B rl : Nat) (s : State) (M : hm_M) (mm : mo_M) (H : Heap) : Prop :=
  hm_P D sc_cl ca 64 (sc_sh rl) B M hm_L0 H ∧ hm_P D2 mo_cl ca2 15 mo_sh (B + 64) mm.1 mm.2 H ∧ va_S (hg_A B) s.heap H []
theorem hm_wl_at {ca : Nat → ClassId} {n : Nat} {sh : Nat → hm_S} {B : Nat} {M : hm_M} {L : hm_L} {k : Nat} {q : Nat × va_E} (hk : (hm_wl ca n sh B M L)[k]? = some q) : k < n ∧ q.1 = B + k := by
  have hl : k < n := by
    have := (List.getElem?_eq_some_iff.mp hk).1
    simpa [hm_wl] using this
  rw [hm_get hl] at hk
  cases hk
  exact ⟨hl, rfl⟩
theorem lz_cmp (r : Int64) : lg_cmp r r = 0 := (lg_cmp_eq r r).mpr rfl
theorem hq_any {w : Cond} {args : Array Value} {s : State} (ho : hq_okw w = true) (hb : w.before args s = true) (a : Array Value) : w.before a s = true := by
  unfold hq_okw at ho
  rcases Bool.or_eq_true _ _ |>.mp ho with h1 | h1
  · rw [Bool.and_eq_true] at h1
    have h2 := Cond.onTables_warmH (T := s) (args' := a) (State.WarmedH.refl s) h1.1 h1.2 hb
    rwa [State.setVm_self] at h2
  · cases w with
    | arrayClass ty => exact word_at (State.WarmedH.refl s) (Or.inr ⟨ty, rfl⟩) hb
    | _ => cases h1
section LZ
variable {p : Program} {l : Launch} {e : Env} {R : Room} {s : State} {m : MethodId} {args : Array Value} {below : List Frame} {meth : Method} {c : Code} {H : Heap} {cells slots : Nat} {Q : State → Prop}
variable {pc : Nat} {ls : Array Slot} {rest st0 : List Value} {D D2 : va_G} {ca ca2 : Nat → ClassId} {B rl b L i : Nat} {xs : Nat → Int32} {M M1 : hm_M} {mm m1 : mo_M}
theorem lz_keep2 {n n2 : Nat} {cl2 : List vw_C} {sh2 : Nat → hm_S} {B2 : Nat} {M2 : hm_M} {L2 : hm_L} {H1 : Heap} (h : hm_P D2 cl2 ca2 n2 sh2 B2 M2 L2 H) (hd : ∀ q, B2 ≤ q → q < B2 + n2 → ¬ hm_A B n q) (hk : ∀ q : Nat, q < H.size → ¬ hm_A B n q → H1[q]? = H[q]?) : hm_P D2 cl2 ca2 n2 sh2 B2 M2 L2 H1 :=
  h.kept (fun k x hx => by
    have hlt := (h k x hx).lt
    obtain ⟨h1, h2⟩ := hm_wl_at hx
    exact hk x.1 hlt (hd x.1 (by omega) (by omega)))
theorem hz_call1I {r : Int32} {a : Array Value} (hr : va_Run p l e R s m args below meth c H [] cells slots 0 0 (F0 m pc ls st0) rest (hq_QI D sc_cl ca 64 (sc_sh rl) B r M1 hm_L0 a) (hm_A B 64)) (hB : s.heap.size = B) (hJ : lz_J D D2 ca ca2 B rl s M mm H)
    (kk : ∀ (H1 : Heap), lz_J D D2 ca ca2 B rl s M1 mm H1 → W p l e R s m args below meth c H1 [] cells slots Q (F0 m (pc + 3) ls (.int r :: rest))) : W p l e R s m args below meth c H [] cells slots Q (F0 m pc ls st0) :=
  va_calli hr hJ.2.2 (fun _ _ h => h.1) (fun _ h => h.1) (fun r' u t H1 locs1 ht _ hw hP _ hk hS1 => by
    subst hw
    subst ht
    refine va_forget (fun q hq => by rw [hB]; exact hS1.2.2 q hq) ?_
    exact kk _ ⟨hP, lz_keep2 hJ.2.1 (fun q h1 _ h3 => by have := h3.2; omega) hk, hS1.1, hS1.2.1, fun _ h => absurd h List.not_mem_nil⟩)
theorem hz_call1L {r : Int64} {a : Array Value} (hr : va_Run p l e R s m args below meth c H [] cells slots 0 0 (F0 m pc ls st0) rest (hq_QL D sc_cl ca 64 (sc_sh rl) B r M1 hm_L0 a) (hm_A B 64)) (hB : s.heap.size = B) (hJ : lz_J D D2 ca ca2 B rl s M mm H)
    (kk : ∀ (H1 : Heap), lz_J D D2 ca ca2 B rl s M1 mm H1 → W p l e R s m args below meth c H1 [] cells slots Q (F0 m (pc + 3) ls (.long r :: rest))) : W p l e R s m args below meth c H [] cells slots Q (F0 m pc ls st0) :=
  va_calll hr hJ.2.2 (fun _ _ h => h.1) (fun _ h => h.1) (fun r' u t H1 locs1 ht _ hw hP _ hk hS1 => by
    subst hw
    subst ht
    refine va_forget (fun q hq => by rw [hB]; exact hS1.2.2 q hq) ?_
    exact kk _ ⟨hP, lz_keep2 hJ.2.1 (fun q h1 _ h3 => by have := h3.2; omega) hk, hS1.1, hS1.2.1, fun _ h => absurd h List.not_mem_nil⟩)
theorem hz_call2I {r : Int32} {a : Array Value} (hr : va_Run p l e R s m args below meth c H [] cells slots 0 0 (F0 m pc ls st0) rest (hq_QI D2 mo_cl ca2 15 mo_sh (B + 64) r m1.1 m1.2 a) (hm_A (B + 64) 15)) (hB : s.heap.size = B) (hJ : lz_J D D2 ca ca2 B rl s M mm H)
    (kk : ∀ (H1 : Heap), lz_J D D2 ca ca2 B rl s M m1 H1 → W p l e R s m args below meth c H1 [] cells slots Q (F0 m (pc + 3) ls (.int r :: rest))) : W p l e R s m args below meth c H [] cells slots Q (F0 m pc ls st0) :=
  va_calli hr hJ.2.2 (fun q _ h => by have := h.1; show B ≤ q; omega) (fun q h => by have := h.1; show B ≤ q; omega) (fun r' u t H1 locs1 ht _ hw hP _ hk hS1 => by
    subst hw
    subst ht
    refine va_forget (fun q hq => by rw [hB]; exact hS1.2.2 q hq) ?_
    exact kk _ ⟨lz_keep2 hJ.1 (fun q _ h2 h3 => by have := h3.1; omega) hk, hP, hS1.1, hS1.2.1, fun _ h => absurd h List.not_mem_nil⟩)
theorem hz_call2L {r : Int64} {a : Array Value} (hr : va_Run p l e R s m args below meth c H [] cells slots 0 0 (F0 m pc ls st0) rest (hq_QL D2 mo_cl ca2 15 mo_sh (B + 64) r m1.1 m1.2 a) (hm_A (B + 64) 15)) (hB : s.heap.size = B) (hJ : lz_J D D2 ca ca2 B rl s M mm H)
    (kk : ∀ (H1 : Heap), lz_J D D2 ca ca2 B rl s M m1 H1 → W p l e R s m args below meth c H1 [] cells slots Q (F0 m (pc + 3) ls (.long r :: rest))) : W p l e R s m args below meth c H [] cells slots Q (F0 m pc ls st0) :=
  va_calll hr hJ.2.2 (fun q _ h => by have := h.1; show B ≤ q; omega) (fun q h => by have := h.1; show B ≤ q; omega) (fun r' u t H1 locs1 ht _ hw hP _ hk hS1 => by
    subst hw
    subst ht
    refine va_forget (fun q hq => by rw [hB]; exact hS1.2.2 q hq) ?_
    exact kk _ ⟨lz_keep2 hJ.1 (fun q _ h2 h3 => by have := h3.1; omega) hk, hP, hS1.1, hS1.2.1, fun _ h => absurd h List.not_mem_nil⟩)
theorem lz_rd {k : Nat} {n : Int} (X : lz_X p s m meth c b L xs D D2 ca ca2 B) (hl : lv_has ls 4 (lz_lv b B i)) (hJ : lz_J D D2 ca ca2 B rl s M mm H) (d1 : decode code pc = .ok (.aload_n 0, 1)) (d2 : decode code (pc + 1) = .ok (.iload_n 3, 1)) (d3 : decode code (pc + 2) = .ok (.iconst n, 1)) (d4 : decode code (pc + 3) = .ok (.iadd, 1)) (d5 : decode code (pc + 4) = .ok (.iaload, 1)) (hn : n = (k : Int)) (hik : i + k < L)
    (kk : W p l e R s m args below meth c H [] cells slots Q (F0 m (pc + 5) ls (.int (xs (i + k)) :: rest))) : W p l e R s m args below meth c H [] cells slots Q (F0 m pc ls rest) := by
  obtain ⟨hx, hb, hml, hown, hr, hlk, hK1, hK2, hX, hbl, hL, hB⟩ := id X
  refine lv_aload_n hx hb d1 rfl (lv_at hl 0 rfl) ?_
  refine lv_iload_n hx hb d2 rfl (lv_at hl 3 rfl) ?_
  refine lv_iconst (v := nI k) hx hb d3 (by rw [hn]; rfl) ?_
  refine lv_iadd hx hb d4 ?_
  refine W.eq (g2 := F0 m (pc + 4) ls (.int (nI (i + k)) :: .ref b :: rest)) (by rw [nI_add]) ?_
  refine va_sld hx hb hX hbl (show ¬ hg_A B b by unfold hg_A; omega) hJ.2.2 (vp_in_nI hik (by omega)) d5 ?_
  rw [nI_clamp (show i + k < 2 ^ 31 by omega)]
  exact kk
theorem lz_bool (hx : p.tables.exec = Jvm.exec) (hb : c.code = code) {x : Int32} {t1 : Nat} {o1 o2 : Int} {locs : List Loc} (d0 : decode code pc = .ok (.ifCond .eq o1, 3)) (h0 : (pc : Int) + o1 = (t1 : Int)) (d1 : decode code (pc + 3) = .ok (.iconst 1, 1)) (d2 : decode code (pc + 4) = .ok (.goto o2, 3)) (h2 : ((pc + 4 : Nat) : Int) + o2 = ((t1 + 1 : Nat) : Int)) (d3 : decode code t1 = .ok (.iconst 0, 1))
    (kk : W p l e R s m args below meth c H locs cells slots Q (F0 m (t1 + 1) ls (.int (if x = 0 then 0 else 1) :: rest))) : W p l e R s m args below meth c H locs cells slots Q (F0 m pc ls (.int x :: rest)) := by
  refine lv_if_eq (tgt := t1) hx hb d0 h0 (fun c1 => ?_) (fun c1 => ?_)
  · refine lv_iconst (v := 0) hx hb d3 (by decide) ?_
    rw [if_pos c1] at kk
    exact kk
  · refine lv_iconst (v := 1) hx hb d1 (by decide) ?_
    refine lv_goto (tgt := t1 + 1) hx hb d2 h2 ?_
    rw [if_neg c1] at kk
    exact kk
end LZ
