/-! the law's cases -/
set_option maxHeartbeats 4000000 in
set_option maxRecDepth 100000 in
theorem w_law_input {p : Program} {l : Launch} {e : Env} {s : State} {m : MethodId} {below : List Frame} {meth : Method} {c : Code} {b L : Nat} {xs : Nat → Int32} {D D2 : va_G} {ca ca2 : Nat → ClassId} {B rl : Nat} {M : hm_M} {mm : mo_M} {H : Heap} {ls : Array Slot} {i : Nat} (X : lz_X p s m meth c b L xs D D2 ca ca2 B) (hl : lv_has ls 4 (lz_lv b B i)) (hi : i + 5 ≤ L) (hM : sm_I rl M mm) (hJ : lz_J D D2 ca ca2 B rl s M mm H) (k495 : ∀ (M1 : hm_M) (m1 : mo_M) (H1 : Heap), sm_I rl M1 m1 → lz_J D D2 ca ca2 B rl s M1 m1 H1 → W p l e room_1 s m #[Value.ref b] below meth c H1 [] 79 1791 (lw_Z below #[Value.ref b] s) (F0 m 495 ls [])) : W p l e room_1 s m #[Value.ref b] below meth c H [] 79 1791 (lw_Z below #[Value.ref b] s) (F0 m 108 ls []) := by
  obtain ⟨hx, hb, hml, hown, hr, hlk, hK1, hK2, hX, hbl, hL, hB⟩ := id X
  have hts : ∀ w ∈ hq_tb, w.before #[Value.ref b] s = true := fun w h => hK1.2.2 w h _
  obtain ⟨r, M1, m1, e1, e2, hM1⟩ := op_input hM (xs (i + 1)) (xs (i + 2))
  refine lv_aload_n hx hb d_law_108 rfl (lv_at hl 1 rfl) ?_
  refine lz_rd X hl hJ (k := 1) d_law_109 d_law_110 d_law_111 d_law_112 d_law_113 rfl (by omega) ?_
  refine lz_rd X hl hJ (k := 2) d_law_114 d_law_115 d_law_116 d_law_117 d_law_118 rfl (by omega) ?_
  refine hz_call1I (va_runV (As := [.int (xs (i + 1)), .int (xs (i + 2))]) (rest := []) ⟨hx, hb, hml, hown, hts⟩ (c_SC_input (l := l) (D := D) (ca := ca) (B := B) (rl := rl) e1) (hq_cwV (nn := 2) hts lz_wd_0 lz_wd_1 lz_wd_2 lz_wd_3 lz_wd_4 (by decide +kernel) rfl rfl ⟨(Nat.le_of_ble_eq_true rfl), (Nat.le_of_ble_eq_true rfl)⟩) (hq_preV hK1 hJ.1 (by decide) (sc_s_SC rfl) rfl) rfl rfl hl.1 rfl (lv_room (Nat.le_of_ble_eq_true rfl)) d_law_119 ⟨(Nat.le_of_ble_eq_true rfl), (Nat.le_of_ble_eq_true rfl)⟩) hB hJ (fun H hJ => ?_)
  refine lv_aload_n hx hb d_law_122 rfl (lv_at hl 2 rfl) ?_
  refine lz_rd X hl hJ (k := 1) d_law_123 d_law_124 d_law_125 d_law_126 d_law_127 rfl (by omega) ?_
  refine lz_rd X hl hJ (k := 2) d_law_128 d_law_129 d_law_130 d_law_131 d_law_132 rfl (by omega) ?_
  refine hz_call2I (va_runV (As := [.int (xs (i + 1)), .int (xs (i + 2))]) (rest := [.int r]) ⟨hx, hb, hml, hown, hts⟩ (c_Mo_input (l := l) (D := D2) (ca := ca2) (B := B + 64) e2) (hq_cwV (nn := 2) hts lz_wd_5 lz_wd_6 lz_wd_7 lz_wd_8 lz_wd_9 (by decide +kernel) rfl rfl ⟨(Nat.le_of_ble_eq_true rfl), (Nat.le_of_ble_eq_true rfl)⟩) (hq_preV hK2 hJ.2.1 (by decide) (mo_s_Mo rfl) rfl) rfl rfl hl.1 rfl (lv_room (Nat.le_of_ble_eq_true rfl)) d_law_133 ⟨(Nat.le_of_ble_eq_true rfl), (Nat.le_of_ble_eq_true rfl)⟩) hB hJ (fun H hJ => ?_)
  refine lv_icmp_eq (tgt := 495) hx hb d_law_136 (by decide) (fun _ => ?_) (fun c1 => ?_)
  · exact k495 M1 m1 H hM1 hJ
  · exact absurd rfl c1
set_option maxHeartbeats 4000000 in
set_option maxRecDepth 100000 in
theorem w_law_stage {p : Program} {l : Launch} {e : Env} {s : State} {m : MethodId} {below : List Frame} {meth : Method} {c : Code} {b L : Nat} {xs : Nat → Int32} {D D2 : va_G} {ca ca2 : Nat → ClassId} {B rl : Nat} {M : hm_M} {mm : mo_M} {H : Heap} {ls : Array Slot} {i : Nat} (X : lz_X p s m meth c b L xs D D2 ca ca2 B) (hl : lv_has ls 4 (lz_lv b B i)) (hi : i + 5 ≤ L) (hM : sm_I rl M mm) (hJ : lz_J D D2 ca ca2 B rl s M mm H) (k495 : ∀ (M1 : hm_M) (m1 : mo_M) (H1 : Heap), sm_I rl M1 m1 → lz_J D D2 ca ca2 B rl s M1 m1 H1 → W p l e room_1 s m #[Value.ref b] below meth c H1 [] 79 1791 (lw_Z below #[Value.ref b] s) (F0 m 495 ls [])) : W p l e room_1 s m #[Value.ref b] below meth c H [] 79 1791 (lw_Z below #[Value.ref b] s) (F0 m 141 ls []) := by
  obtain ⟨hx, hb, hml, hown, hr, hlk, hK1, hK2, hX, hbl, hL, hB⟩ := id X
  have hts : ∀ w ∈ hq_tb, w.before #[Value.ref b] s = true := fun w h => hK1.2.2 w h _
  obtain ⟨r, M1, m1, e1, e2, hM1⟩ := op_stage hM (xs (i + 1)) (xs (i + 2))
  refine lv_aload_n hx hb d_law_141 rfl (lv_at hl 1 rfl) ?_
  refine lz_rd X hl hJ (k := 1) d_law_142 d_law_143 d_law_144 d_law_145 d_law_146 rfl (by omega) ?_
  refine lz_rd X hl hJ (k := 2) d_law_147 d_law_148 d_law_149 d_law_150 d_law_151 rfl (by omega) ?_
  refine hz_call1I (va_runV (As := [.int (xs (i + 1)), .int (xs (i + 2))]) (rest := []) ⟨hx, hb, hml, hown, hts⟩ (c_SC_stage (l := l) (D := D) (ca := ca) (B := B) (rl := rl) e1) (hq_cwV (nn := 2) hts lz_wd_10 lz_wd_1 lz_wd_11 lz_wd_12 lz_wd_13 (by decide +kernel) rfl rfl ⟨(Nat.le_of_ble_eq_true rfl), (Nat.le_of_ble_eq_true rfl)⟩) (hq_preV hK1 hJ.1 (by decide) (sc_s_SC rfl) rfl) rfl rfl hl.1 rfl (lv_room (Nat.le_of_ble_eq_true rfl)) d_law_152 ⟨(Nat.le_of_ble_eq_true rfl), (Nat.le_of_ble_eq_true rfl)⟩) hB hJ (fun H hJ => ?_)
  refine lv_aload_n hx hb d_law_155 rfl (lv_at hl 2 rfl) ?_
  refine lz_rd X hl hJ (k := 1) d_law_156 d_law_157 d_law_158 d_law_159 d_law_160 rfl (by omega) ?_
  refine lz_rd X hl hJ (k := 2) d_law_161 d_law_162 d_law_163 d_law_164 d_law_165 rfl (by omega) ?_
  refine hz_call2I (va_runV (As := [.int (xs (i + 1)), .int (xs (i + 2))]) (rest := [.int r]) ⟨hx, hb, hml, hown, hts⟩ (c_Mo_stage (l := l) (D := D2) (ca := ca2) (B := B + 64) e2) (hq_cwV (nn := 2) hts lz_wd_14 lz_wd_6 lz_wd_15 lz_wd_16 lz_wd_17 (by decide +kernel) rfl rfl ⟨(Nat.le_of_ble_eq_true rfl), (Nat.le_of_ble_eq_true rfl)⟩) (hq_preV hK2 hJ.2.1 (by decide) (mo_s_Mo rfl) rfl) rfl rfl hl.1 rfl (lv_room (Nat.le_of_ble_eq_true rfl)) d_law_166 ⟨(Nat.le_of_ble_eq_true rfl), (Nat.le_of_ble_eq_true rfl)⟩) hB hJ (fun H hJ => ?_)
  refine lv_icmp_eq (tgt := 495) hx hb d_law_169 (by decide) (fun _ => ?_) (fun c1 => ?_)
  · exact k495 M1 m1 H hM1 hJ
  · exact absurd rfl c1
set_option maxHeartbeats 4000000 in
set_option maxRecDepth 100000 in
theorem w_law_tap {p : Program} {l : Launch} {e : Env} {s : State} {m : MethodId} {below : List Frame} {meth : Method} {c : Code} {b L : Nat} {xs : Nat → Int32} {D D2 : va_G} {ca ca2 : Nat → ClassId} {B rl : Nat} {M : hm_M} {mm : mo_M} {H : Heap} {ls : Array Slot} {i : Nat} (X : lz_X p s m meth c b L xs D D2 ca ca2 B) (hl : lv_has ls 4 (lz_lv b B i)) (hi : i + 5 ≤ L) (hM : sm_I rl M mm) (hJ : lz_J D D2 ca ca2 B rl s M mm H) (k495 : ∀ (M1 : hm_M) (m1 : mo_M) (H1 : Heap), sm_I rl M1 m1 → lz_J D D2 ca ca2 B rl s M1 m1 H1 → W p l e room_1 s m #[Value.ref b] below meth c H1 [] 79 1791 (lw_Z below #[Value.ref b] s) (F0 m 495 ls [])) : W p l e room_1 s m #[Value.ref b] below meth c H [] 79 1791 (lw_Z below #[Value.ref b] s) (F0 m 174 ls []) := by
  obtain ⟨hx, hb, hml, hown, hr, hlk, hK1, hK2, hX, hbl, hL, hB⟩ := id X
  have hts : ∀ w ∈ hq_tb, w.before #[Value.ref b] s = true := fun w h => hK1.2.2 w h _
  obtain ⟨r, M1, m1, e1, e2, hM1⟩ := op_tap hM (xs (i + 1)) (xs (i + 2)) (xs (i + 3)) (xs (i + 4))
  refine lv_aload_n hx hb d_law_174 rfl (lv_at hl 1 rfl) ?_
  refine lz_rd X hl hJ (k := 1) d_law_175 d_law_176 d_law_177 d_law_178 d_law_179 rfl (by omega) ?_
  refine lz_rd X hl hJ (k := 2) d_law_180 d_law_181 d_law_182 d_law_183 d_law_184 rfl (by omega) ?_
  refine lz_rd X hl hJ (k := 3) d_law_185 d_law_186 d_law_187 d_law_188 d_law_189 rfl (by omega) ?_
  refine lz_rd X hl hJ (k := 4) d_law_190 d_law_191 d_law_192 d_law_193 d_law_194 rfl (by omega) ?_
  refine hz_call1I (va_runV (As := [.int (xs (i + 1)), .int (xs (i + 2)), .int (xs (i + 3)), .int (xs (i + 4))]) (rest := []) ⟨hx, hb, hml, hown, hts⟩ (c_SC_tap (l := l) (D := D) (ca := ca) (B := B) (rl := rl) e1) (hq_cwV (nn := 4) hts lz_wd_18 lz_wd_1 lz_wd_19 lz_wd_20 lz_wd_21 (by decide +kernel) rfl rfl ⟨(Nat.le_of_ble_eq_true rfl), (Nat.le_of_ble_eq_true rfl)⟩) (hq_preV hK1 hJ.1 (by decide) (sc_s_SC rfl) rfl) rfl rfl hl.1 rfl (lv_room (Nat.le_of_ble_eq_true rfl)) d_law_195 ⟨(Nat.le_of_ble_eq_true rfl), (Nat.le_of_ble_eq_true rfl)⟩) hB hJ (fun H hJ => ?_)
  refine lv_aload_n hx hb d_law_198 rfl (lv_at hl 2 rfl) ?_
  refine lz_rd X hl hJ (k := 1) d_law_199 d_law_200 d_law_201 d_law_202 d_law_203 rfl (by omega) ?_
  refine lz_rd X hl hJ (k := 2) d_law_204 d_law_205 d_law_206 d_law_207 d_law_208 rfl (by omega) ?_
  refine lz_rd X hl hJ (k := 3) d_law_209 d_law_210 d_law_211 d_law_212 d_law_213 rfl (by omega) ?_
  refine lz_rd X hl hJ (k := 4) d_law_214 d_law_215 d_law_216 d_law_217 d_law_218 rfl (by omega) ?_
  refine hz_call2I (va_runV (As := [.int (xs (i + 1)), .int (xs (i + 2)), .int (xs (i + 3)), .int (xs (i + 4))]) (rest := [.int r]) ⟨hx, hb, hml, hown, hts⟩ (c_Mo_tap (l := l) (D := D2) (ca := ca2) (B := B + 64) e2) (hq_cwV (nn := 4) hts lz_wd_22 lz_wd_6 lz_wd_23 lz_wd_24 lz_wd_25 (by decide +kernel) rfl rfl ⟨(Nat.le_of_ble_eq_true rfl), (Nat.le_of_ble_eq_true rfl)⟩) (hq_preV hK2 hJ.2.1 (by decide) (mo_s_Mo rfl) rfl) rfl rfl hl.1 rfl (lv_room (Nat.le_of_ble_eq_true rfl)) d_law_219 ⟨(Nat.le_of_ble_eq_true rfl), (Nat.le_of_ble_eq_true rfl)⟩) hB hJ (fun H hJ => ?_)
  refine lv_icmp_eq (tgt := 495) hx hb d_law_222 (by decide) (fun _ => ?_) (fun c1 => ?_)
  · exact k495 M1 m1 H hM1 hJ
  · exact absurd rfl c1
set_option maxHeartbeats 4000000 in
set_option maxRecDepth 100000 in
theorem w_law_mode {p : Program} {l : Launch} {e : Env} {s : State} {m : MethodId} {below : List Frame} {meth : Method} {c : Code} {b L : Nat} {xs : Nat → Int32} {D D2 : va_G} {ca ca2 : Nat → ClassId} {B rl : Nat} {M : hm_M} {mm : mo_M} {H : Heap} {ls : Array Slot} {i : Nat} (X : lz_X p s m meth c b L xs D D2 ca ca2 B) (hl : lv_has ls 4 (lz_lv b B i)) (hi : i + 5 ≤ L) (hM : sm_I rl M mm) (hJ : lz_J D D2 ca ca2 B rl s M mm H) (k495 : ∀ (M1 : hm_M) (m1 : mo_M) (H1 : Heap), sm_I rl M1 m1 → lz_J D D2 ca ca2 B rl s M1 m1 H1 → W p l e room_1 s m #[Value.ref b] below meth c H1 [] 79 1791 (lw_Z below #[Value.ref b] s) (F0 m 495 ls [])) : W p l e room_1 s m #[Value.ref b] below meth c H [] 79 1791 (lw_Z below #[Value.ref b] s) (F0 m 227 ls []) := by
  obtain ⟨hx, hb, hml, hown, hr, hlk, hK1, hK2, hX, hbl, hL, hB⟩ := id X
  have hts : ∀ w ∈ hq_tb, w.before #[Value.ref b] s = true := fun w h => hK1.2.2 w h _
  obtain ⟨r, M1, m1, e1, e2, hM1⟩ := op_mode hM (xs (i + 1)) (xs (i + 2))
  refine lv_aload_n hx hb d_law_227 rfl (lv_at hl 1 rfl) ?_
  refine lz_rd X hl hJ (k := 1) d_law_228 d_law_229 d_law_230 d_law_231 d_law_232 rfl (by omega) ?_
  refine lz_rd X hl hJ (k := 2) d_law_233 d_law_234 d_law_235 d_law_236 d_law_237 rfl (by omega) ?_
  refine hz_call1I (va_runV (As := [.int (xs (i + 1)), .int (xs (i + 2))]) (rest := []) ⟨hx, hb, hml, hown, hts⟩ (c_SC_mode (l := l) (D := D) (ca := ca) (B := B) (rl := rl) e1) (hq_cwV (nn := 2) hts lz_wd_26 lz_wd_1 lz_wd_27 lz_wd_28 lz_wd_29 (by decide +kernel) rfl rfl ⟨(Nat.le_of_ble_eq_true rfl), (Nat.le_of_ble_eq_true rfl)⟩) (hq_preV hK1 hJ.1 (by decide) (sc_s_SC rfl) rfl) rfl rfl hl.1 rfl (lv_room (Nat.le_of_ble_eq_true rfl)) d_law_238 ⟨(Nat.le_of_ble_eq_true rfl), (Nat.le_of_ble_eq_true rfl)⟩) hB hJ (fun H hJ => ?_)
  refine lv_aload_n hx hb d_law_241 rfl (lv_at hl 2 rfl) ?_
  refine lz_rd X hl hJ (k := 1) d_law_242 d_law_243 d_law_244 d_law_245 d_law_246 rfl (by omega) ?_
  refine lz_rd X hl hJ (k := 2) d_law_247 d_law_248 d_law_249 d_law_250 d_law_251 rfl (by omega) ?_
  refine hz_call2I (va_runV (As := [.int (xs (i + 1)), .int (xs (i + 2))]) (rest := [.int r]) ⟨hx, hb, hml, hown, hts⟩ (c_Mo_mode (l := l) (D := D2) (ca := ca2) (B := B + 64) e2) (hq_cwV (nn := 2) hts lz_wd_30 lz_wd_6 lz_wd_31 lz_wd_32 lz_wd_33 (by decide +kernel) rfl rfl ⟨(Nat.le_of_ble_eq_true rfl), (Nat.le_of_ble_eq_true rfl)⟩) (hq_preV hK2 hJ.2.1 (by decide) (mo_s_Mo rfl) rfl) rfl rfl hl.1 rfl (lv_room (Nat.le_of_ble_eq_true rfl)) d_law_252 ⟨(Nat.le_of_ble_eq_true rfl), (Nat.le_of_ble_eq_true rfl)⟩) hB hJ (fun H hJ => ?_)
  refine lv_icmp_eq (tgt := 495) hx hb d_law_255 (by decide) (fun _ => ?_) (fun c1 => ?_)
  · exact k495 M1 m1 H hM1 hJ
  · exact absurd rfl c1
set_option maxHeartbeats 4000000 in
set_option maxRecDepth 100000 in
theorem w_law_tile {p : Program} {l : Launch} {e : Env} {s : State} {m : MethodId} {below : List Frame} {meth : Method} {c : Code} {b L : Nat} {xs : Nat → Int32} {D D2 : va_G} {ca ca2 : Nat → ClassId} {B rl : Nat} {M : hm_M} {mm : mo_M} {H : Heap} {ls : Array Slot} {i : Nat} (X : lz_X p s m meth c b L xs D D2 ca ca2 B) (hl : lv_has ls 4 (lz_lv b B i)) (hi : i + 5 ≤ L) (hM : sm_I rl M mm) (hJ : lz_J D D2 ca ca2 B rl s M mm H) (k495 : ∀ (M1 : hm_M) (m1 : mo_M) (H1 : Heap), sm_I rl M1 m1 → lz_J D D2 ca ca2 B rl s M1 m1 H1 → W p l e room_1 s m #[Value.ref b] below meth c H1 [] 79 1791 (lw_Z below #[Value.ref b] s) (F0 m 495 ls [])) : W p l e room_1 s m #[Value.ref b] below meth c H [] 79 1791 (lw_Z below #[Value.ref b] s) (F0 m 260 ls []) := by
  obtain ⟨hx, hb, hml, hown, hr, hlk, hK1, hK2, hX, hbl, hL, hB⟩ := id X
  have hts : ∀ w ∈ hq_tb, w.before #[Value.ref b] s = true := fun w h => hK1.2.2 w h _
  obtain ⟨r, M1, m1, e1, e2, hM1⟩ := op_tile hM (xs (i + 1))
  refine lv_aload_n hx hb d_law_260 rfl (lv_at hl 1 rfl) ?_
  refine lz_rd X hl hJ (k := 1) d_law_261 d_law_262 d_law_263 d_law_264 d_law_265 rfl (by omega) ?_
  refine hz_call1I (va_runV (As := [.int (xs (i + 1))]) (rest := []) ⟨hx, hb, hml, hown, hts⟩ (c_SC_tile (l := l) (D := D) (ca := ca) (B := B) (rl := rl) e1) (hq_cwV (nn := 1) hts lz_wd_34 lz_wd_1 lz_wd_35 lz_wd_36 lz_wd_37 (by decide +kernel) rfl rfl ⟨(Nat.le_of_ble_eq_true rfl), (Nat.le_of_ble_eq_true rfl)⟩) (hq_preV hK1 hJ.1 (by decide) (sc_s_SC rfl) rfl) rfl rfl hl.1 rfl (lv_room (Nat.le_of_ble_eq_true rfl)) d_law_266 ⟨(Nat.le_of_ble_eq_true rfl), (Nat.le_of_ble_eq_true rfl)⟩) hB hJ (fun H hJ => ?_)
  refine lv_aload_n hx hb d_law_269 rfl (lv_at hl 2 rfl) ?_
  refine lz_rd X hl hJ (k := 1) d_law_270 d_law_271 d_law_272 d_law_273 d_law_274 rfl (by omega) ?_
  refine hz_call2I (va_runV (As := [.int (xs (i + 1))]) (rest := [.int r]) ⟨hx, hb, hml, hown, hts⟩ (c_Mo_tile (l := l) (D := D2) (ca := ca2) (B := B + 64) e2) (hq_cwV (nn := 1) hts lz_wd_38 lz_wd_6 lz_wd_39 lz_wd_40 lz_wd_41 (by decide +kernel) rfl rfl ⟨(Nat.le_of_ble_eq_true rfl), (Nat.le_of_ble_eq_true rfl)⟩) (hq_preV hK2 hJ.2.1 (by decide) (mo_s_Mo rfl) rfl) rfl rfl hl.1 rfl (lv_room (Nat.le_of_ble_eq_true rfl)) d_law_275 ⟨(Nat.le_of_ble_eq_true rfl), (Nat.le_of_ble_eq_true rfl)⟩) hB hJ (fun H hJ => ?_)
  refine lv_icmp_eq (tgt := 495) hx hb d_law_278 (by decide) (fun _ => ?_) (fun c1 => ?_)
  · exact k495 M1 m1 H hM1 hJ
  · exact absurd rfl c1
set_option maxHeartbeats 4000000 in
set_option maxRecDepth 100000 in
theorem w_law_output {p : Program} {l : Launch} {e : Env} {s : State} {m : MethodId} {below : List Frame} {meth : Method} {c : Code} {b L : Nat} {xs : Nat → Int32} {D D2 : va_G} {ca ca2 : Nat → ClassId} {B rl : Nat} {M : hm_M} {mm : mo_M} {H : Heap} {ls : Array Slot} {i : Nat} (X : lz_X p s m meth c b L xs D D2 ca ca2 B) (hl : lv_has ls 4 (lz_lv b B i)) (hi : i + 5 ≤ L) (hM : sm_I rl M mm) (hJ : lz_J D D2 ca ca2 B rl s M mm H) (k495 : ∀ (M1 : hm_M) (m1 : mo_M) (H1 : Heap), sm_I rl M1 m1 → lz_J D D2 ca ca2 B rl s M1 m1 H1 → W p l e room_1 s m #[Value.ref b] below meth c H1 [] 79 1791 (lw_Z below #[Value.ref b] s) (F0 m 495 ls [])) : W p l e room_1 s m #[Value.ref b] below meth c H [] 79 1791 (lw_Z below #[Value.ref b] s) (F0 m 283 ls []) := by
  obtain ⟨hx, hb, hml, hown, hr, hlk, hK1, hK2, hX, hbl, hL, hB⟩ := id X
  have hts : ∀ w ∈ hq_tb, w.before #[Value.ref b] s = true := fun w h => hK1.2.2 w h _
  obtain ⟨r, M1, m1, e1, e2, hM1⟩ := op_output hM (xs (i + 1)) (xs (i + 2))
  refine lv_aload_n hx hb d_law_283 rfl (lv_at hl 1 rfl) ?_
  refine lz_rd X hl hJ (k := 1) d_law_284 d_law_285 d_law_286 d_law_287 d_law_288 rfl (by omega) ?_
  refine lz_rd X hl hJ (k := 2) d_law_289 d_law_290 d_law_291 d_law_292 d_law_293 rfl (by omega) ?_
  refine hz_call1I (va_runV (As := [.int (xs (i + 1)), .int (xs (i + 2))]) (rest := []) ⟨hx, hb, hml, hown, hts⟩ (c_SC_output (l := l) (D := D) (ca := ca) (B := B) (rl := rl) e1) (hq_cwV (nn := 2) hts lz_wd_42 lz_wd_1 lz_wd_43 lz_wd_44 lz_wd_45 (by decide +kernel) rfl rfl ⟨(Nat.le_of_ble_eq_true rfl), (Nat.le_of_ble_eq_true rfl)⟩) (hq_preV hK1 hJ.1 (by decide) (sc_s_SC rfl) rfl) rfl rfl hl.1 rfl (lv_room (Nat.le_of_ble_eq_true rfl)) d_law_294 ⟨(Nat.le_of_ble_eq_true rfl), (Nat.le_of_ble_eq_true rfl)⟩) hB hJ (fun H hJ => ?_)
  refine lv_aload_n hx hb d_law_297 rfl (lv_at hl 2 rfl) ?_
  refine lz_rd X hl hJ (k := 1) d_law_298 d_law_299 d_law_300 d_law_301 d_law_302 rfl (by omega) ?_
  refine lz_rd X hl hJ (k := 2) d_law_303 d_law_304 d_law_305 d_law_306 d_law_307 rfl (by omega) ?_
  refine hz_call2I (va_runV (As := [.int (xs (i + 1)), .int (xs (i + 2))]) (rest := [.int r]) ⟨hx, hb, hml, hown, hts⟩ (c_Mo_output (l := l) (D := D2) (ca := ca2) (B := B + 64) e2) (hq_cwV (nn := 2) hts lz_wd_46 lz_wd_6 lz_wd_47 lz_wd_48 lz_wd_49 (by decide +kernel) rfl rfl ⟨(Nat.le_of_ble_eq_true rfl), (Nat.le_of_ble_eq_true rfl)⟩) (hq_preV hK2 hJ.2.1 (by decide) (mo_s_Mo rfl) rfl) rfl rfl hl.1 rfl (lv_room (Nat.le_of_ble_eq_true rfl)) d_law_308 ⟨(Nat.le_of_ble_eq_true rfl), (Nat.le_of_ble_eq_true rfl)⟩) hB hJ (fun H hJ => ?_)
  refine lv_icmp_eq (tgt := 495) hx hb d_law_311 (by decide) (fun _ => ?_) (fun c1 => ?_)
  · exact k495 M1 m1 H hM1 hJ
  · exact absurd rfl c1
set_option maxHeartbeats 4000000 in
set_option maxRecDepth 100000 in
theorem w_law_compile {p : Program} {l : Launch} {e : Env} {s : State} {m : MethodId} {below : List Frame} {meth : Method} {c : Code} {b L : Nat} {xs : Nat → Int32} {D D2 : va_G} {ca ca2 : Nat → ClassId} {B rl : Nat} {M : hm_M} {mm : mo_M} {H : Heap} {ls : Array Slot} {i : Nat} (X : lz_X p s m meth c b L xs D D2 ca ca2 B) (hl : lv_has ls 4 (lz_lv b B i)) (hi : i + 5 ≤ L) (hM : sm_I rl M mm) (hJ : lz_J D D2 ca ca2 B rl s M mm H) (k495 : ∀ (M1 : hm_M) (m1 : mo_M) (H1 : Heap), sm_I rl M1 m1 → lz_J D D2 ca ca2 B rl s M1 m1 H1 → W p l e room_1 s m #[Value.ref b] below meth c H1 [] 79 1791 (lw_Z below #[Value.ref b] s) (F0 m 495 ls [])) : W p l e room_1 s m #[Value.ref b] below meth c H [] 79 1791 (lw_Z below #[Value.ref b] s) (F0 m 316 ls []) := by
  obtain ⟨hx, hb, hml, hown, hr, hlk, hK1, hK2, hX, hbl, hL, hB⟩ := id X
  have hts : ∀ w ∈ hq_tb, w.before #[Value.ref b] s = true := fun w h => hK1.2.2 w h _
  obtain ⟨r, M1, m1, e1, e2, hM1⟩ := op_compile hM 
  refine lv_aload_n hx hb d_law_316 rfl (lv_at hl 1 rfl) ?_
  refine hz_call1I (va_runV (As := []) (rest := []) ⟨hx, hb, hml, hown, hts⟩ (c_SC_compile (l := l) (D := D) (ca := ca) (B := B) (rl := rl) e1) (hq_cwV (nn := 0) hts lz_wd_50 lz_wd_1 lz_wd_51 lz_wd_52 lz_wd_53 (by decide +kernel) rfl rfl ⟨(Nat.le_of_ble_eq_true rfl), (Nat.le_of_ble_eq_true rfl)⟩) (hq_preV hK1 hJ.1 (by decide) (sc_s_SC rfl) rfl) rfl rfl hl.1 rfl (lv_room (Nat.le_of_ble_eq_true rfl)) d_law_317 ⟨(Nat.le_of_ble_eq_true rfl), (Nat.le_of_ble_eq_true rfl)⟩) hB hJ (fun H hJ => ?_)
  refine lv_aload_n hx hb d_law_320 rfl (lv_at hl 2 rfl) ?_
  refine hz_call2I (va_runV (As := []) (rest := [.int r]) ⟨hx, hb, hml, hown, hts⟩ (c_Mo_compile (l := l) (D := D2) (ca := ca2) (B := B + 64) e2) (hq_cwV (nn := 0) hts lz_wd_54 lz_wd_6 lz_wd_55 lz_wd_56 lz_wd_57 (by decide +kernel) rfl rfl ⟨(Nat.le_of_ble_eq_true rfl), (Nat.le_of_ble_eq_true rfl)⟩) (hq_preV hK2 hJ.2.1 (by decide) (mo_s_Mo rfl) rfl) rfl rfl hl.1 rfl (lv_room (Nat.le_of_ble_eq_true rfl)) d_law_321 ⟨(Nat.le_of_ble_eq_true rfl), (Nat.le_of_ble_eq_true rfl)⟩) hB hJ (fun H hJ => ?_)
  refine lv_icmp_eq (tgt := 495) hx hb d_law_324 (by decide) (fun _ => ?_) (fun c1 => ?_)
  · exact k495 M1 m1 H hM1 hJ
  · exact absurd rfl c1
set_option maxHeartbeats 4000000 in
set_option maxRecDepth 100000 in
theorem w_law_run {p : Program} {l : Launch} {e : Env} {s : State} {m : MethodId} {below : List Frame} {meth : Method} {c : Code} {b L : Nat} {xs : Nat → Int32} {D D2 : va_G} {ca ca2 : Nat → ClassId} {B rl : Nat} {M : hm_M} {mm : mo_M} {H : Heap} {ls : Array Slot} {i : Nat} (X : lz_X p s m meth c b L xs D D2 ca ca2 B) (hl : lv_has ls 4 (lz_lv b B i)) (hi : i + 5 ≤ L) (hM : sm_I rl M mm) (hJ : lz_J D D2 ca ca2 B rl s M mm H) (k495 : ∀ (M1 : hm_M) (m1 : mo_M) (H1 : Heap), sm_I rl M1 m1 → lz_J D D2 ca ca2 B rl s M1 m1 H1 → W p l e room_1 s m #[Value.ref b] below meth c H1 [] 79 1791 (lw_Z below #[Value.ref b] s) (F0 m 495 ls [])) : W p l e room_1 s m #[Value.ref b] below meth c H [] 79 1791 (lw_Z below #[Value.ref b] s) (F0 m 329 ls []) := by
  obtain ⟨hx, hb, hml, hown, hr, hlk, hK1, hK2, hX, hbl, hL, hB⟩ := id X
  have hts : ∀ w ∈ hq_tb, w.before #[Value.ref b] s = true := fun w h => hK1.2.2 w h _
  obtain ⟨r, M1, m1, e1, e2, hM1⟩ := op_run hM 
  refine lv_aload_n hx hb d_law_329 rfl (lv_at hl 1 rfl) ?_
  refine hz_call1I (va_runV (As := []) (rest := []) ⟨hx, hb, hml, hown, hts⟩ (c_SC_run (l := l) (D := D) (ca := ca) (B := B) (rl := rl) e1) (hq_cwV (nn := 0) hts lz_wd_58 lz_wd_1 lz_wd_59 lz_wd_60 lz_wd_61 (by decide +kernel) rfl rfl ⟨(Nat.le_of_ble_eq_true rfl), (Nat.le_of_ble_eq_true rfl)⟩) (hq_preV hK1 hJ.1 (by decide) (sc_s_SC rfl) rfl) rfl rfl hl.1 rfl (lv_room (Nat.le_of_ble_eq_true rfl)) d_law_330 ⟨(Nat.le_of_ble_eq_true rfl), (Nat.le_of_ble_eq_true rfl)⟩) hB hJ (fun H hJ => ?_)
  refine lv_aload_n hx hb d_law_333 rfl (lv_at hl 2 rfl) ?_
  refine hz_call2I (va_runV (As := []) (rest := [.int r]) ⟨hx, hb, hml, hown, hts⟩ (c_Mo_run (l := l) (D := D2) (ca := ca2) (B := B + 64) e2) (hq_cwV (nn := 0) hts lz_wd_62 lz_wd_6 lz_wd_63 lz_wd_64 lz_wd_65 (by decide +kernel) rfl rfl ⟨(Nat.le_of_ble_eq_true rfl), (Nat.le_of_ble_eq_true rfl)⟩) (hq_preV hK2 hJ.2.1 (by decide) (mo_s_Mo rfl) rfl) rfl rfl hl.1 rfl (lv_room (Nat.le_of_ble_eq_true rfl)) d_law_334 ⟨(Nat.le_of_ble_eq_true rfl), (Nat.le_of_ble_eq_true rfl)⟩) hB hJ (fun H hJ => ?_)
  refine lv_icmp_eq (tgt := 495) hx hb d_law_337 (by decide) (fun _ => ?_) (fun c1 => ?_)
  · exact k495 M1 m1 H hM1 hJ
  · exact absurd rfl c1
set_option maxHeartbeats 4000000 in
set_option maxRecDepth 100000 in
theorem w_law_cell {p : Program} {l : Launch} {e : Env} {s : State} {m : MethodId} {below : List Frame} {meth : Method} {c : Code} {b L : Nat} {xs : Nat → Int32} {D D2 : va_G} {ca ca2 : Nat → ClassId} {B rl : Nat} {M : hm_M} {mm : mo_M} {H : Heap} {ls : Array Slot} {i : Nat} (X : lz_X p s m meth c b L xs D D2 ca ca2 B) (hl : lv_has ls 4 (lz_lv b B i)) (hi : i + 5 ≤ L) (hM : sm_I rl M mm) (hJ : lz_J D D2 ca ca2 B rl s M mm H) (k495 : ∀ (M1 : hm_M) (m1 : mo_M) (H1 : Heap), sm_I rl M1 m1 → lz_J D D2 ca ca2 B rl s M1 m1 H1 → W p l e room_1 s m #[Value.ref b] below meth c H1 [] 79 1791 (lw_Z below #[Value.ref b] s) (F0 m 495 ls [])) : W p l e room_1 s m #[Value.ref b] below meth c H [] 79 1791 (lw_Z below #[Value.ref b] s) (F0 m 342 ls []) := by
  obtain ⟨hx, hb, hml, hown, hr, hlk, hK1, hK2, hX, hbl, hL, hB⟩ := id X
  have hts : ∀ w ∈ hq_tb, w.before #[Value.ref b] s = true := fun w h => hK1.2.2 w h _
  obtain ⟨r, M1, m1, e1, e2, hM1⟩ := op_cell hM (xs (i + 1))
  refine lv_aload_n hx hb d_law_342 rfl (lv_at hl 1 rfl) ?_
  refine lz_rd X hl hJ (k := 1) d_law_343 d_law_344 d_law_345 d_law_346 d_law_347 rfl (by omega) ?_
  refine hz_call1L (va_runV (As := [.int (xs (i + 1))]) (rest := []) ⟨hx, hb, hml, hown, hts⟩ (c_SC_cell (l := l) (D := D) (ca := ca) (B := B) (rl := rl) e1) (hq_cwV (nn := 1) hts lz_wd_66 lz_wd_1 lz_wd_67 lz_wd_68 lz_wd_69 (by decide +kernel) rfl rfl ⟨(Nat.le_of_ble_eq_true rfl), (Nat.le_of_ble_eq_true rfl)⟩) (hq_preV hK1 hJ.1 (by decide) (sc_s_SC rfl) rfl) rfl rfl hl.1 rfl (lv_room (Nat.le_of_ble_eq_true rfl)) d_law_348 ⟨(Nat.le_of_ble_eq_true rfl), (Nat.le_of_ble_eq_true rfl)⟩) hB hJ (fun H hJ => ?_)
  refine lv_aload_n hx hb d_law_351 rfl (lv_at hl 2 rfl) ?_
  refine lz_rd X hl hJ (k := 1) d_law_352 d_law_353 d_law_354 d_law_355 d_law_356 rfl (by omega) ?_
  refine hz_call2L (va_runV (As := [.int (xs (i + 1))]) (rest := [.long r]) ⟨hx, hb, hml, hown, hts⟩ (c_Mo_cell (l := l) (D := D2) (ca := ca2) (B := B + 64) e2) (hq_cwV (nn := 1) hts lz_wd_70 lz_wd_6 lz_wd_71 lz_wd_72 lz_wd_73 (by decide +kernel) rfl rfl ⟨(Nat.le_of_ble_eq_true rfl), (Nat.le_of_ble_eq_true rfl)⟩) (hq_preV hK2 hJ.2.1 (by decide) (mo_s_Mo rfl) rfl) rfl rfl hl.1 rfl (lv_room (Nat.le_of_ble_eq_true rfl)) d_law_357 ⟨(Nat.le_of_ble_eq_true rfl), (Nat.le_of_ble_eq_true rfl)⟩) hB hJ (fun H hJ => ?_)
  refine W.lcmp hx hb d_law_360 ?_
  refine lv_if_eq (tgt := 495) hx hb d_law_361 (by decide) (fun _ => ?_) (fun c1 => ?_)
  · exact k495 M1 m1 H hM1 hJ
  · exact absurd (lz_cmp r) c1
set_option maxHeartbeats 4000000 in
set_option maxRecDepth 100000 in
theorem w_law_at {p : Program} {l : Launch} {e : Env} {s : State} {m : MethodId} {below : List Frame} {meth : Method} {c : Code} {b L : Nat} {xs : Nat → Int32} {D D2 : va_G} {ca ca2 : Nat → ClassId} {B rl : Nat} {M : hm_M} {mm : mo_M} {H : Heap} {ls : Array Slot} {i : Nat} (X : lz_X p s m meth c b L xs D D2 ca ca2 B) (hl : lv_has ls 4 (lz_lv b B i)) (hi : i + 5 ≤ L) (hM : sm_I rl M mm) (hJ : lz_J D D2 ca ca2 B rl s M mm H) (k495 : ∀ (M1 : hm_M) (m1 : mo_M) (H1 : Heap), sm_I rl M1 m1 → lz_J D D2 ca ca2 B rl s M1 m1 H1 → W p l e room_1 s m #[Value.ref b] below meth c H1 [] 79 1791 (lw_Z below #[Value.ref b] s) (F0 m 495 ls [])) : W p l e room_1 s m #[Value.ref b] below meth c H [] 79 1791 (lw_Z below #[Value.ref b] s) (F0 m 366 ls []) := by
  obtain ⟨hx, hb, hml, hown, hr, hlk, hK1, hK2, hX, hbl, hL, hB⟩ := id X
  have hts : ∀ w ∈ hq_tb, w.before #[Value.ref b] s = true := fun w h => hK1.2.2 w h _
  obtain ⟨r, M1, m1, e1, e2, hM1⟩ := op_at hM (xs (i + 1)) (xs (i + 2))
  refine lv_aload_n hx hb d_law_366 rfl (lv_at hl 1 rfl) ?_
  refine lz_rd X hl hJ (k := 1) d_law_367 d_law_368 d_law_369 d_law_370 d_law_371 rfl (by omega) ?_
  refine lz_rd X hl hJ (k := 2) d_law_372 d_law_373 d_law_374 d_law_375 d_law_376 rfl (by omega) ?_
  refine hz_call1L (va_runV (As := [.int (xs (i + 1)), .int (xs (i + 2))]) (rest := []) ⟨hx, hb, hml, hown, hts⟩ (c_SC_at (l := l) (D := D) (ca := ca) (B := B) (rl := rl) e1) (hq_cwV (nn := 2) hts lz_wd_74 lz_wd_1 lz_wd_75 lz_wd_76 lz_wd_77 (by decide +kernel) rfl rfl ⟨(Nat.le_of_ble_eq_true rfl), (Nat.le_of_ble_eq_true rfl)⟩) (hq_preV hK1 hJ.1 (by decide) (sc_s_SC rfl) rfl) rfl rfl hl.1 rfl (lv_room (Nat.le_of_ble_eq_true rfl)) d_law_377 ⟨(Nat.le_of_ble_eq_true rfl), (Nat.le_of_ble_eq_true rfl)⟩) hB hJ (fun H hJ => ?_)
  refine lv_aload_n hx hb d_law_380 rfl (lv_at hl 2 rfl) ?_
  refine lz_rd X hl hJ (k := 1) d_law_381 d_law_382 d_law_383 d_law_384 d_law_385 rfl (by omega) ?_
  refine lz_rd X hl hJ (k := 2) d_law_386 d_law_387 d_law_388 d_law_389 d_law_390 rfl (by omega) ?_
  refine hz_call2L (va_runV (As := [.int (xs (i + 1)), .int (xs (i + 2))]) (rest := [.long r]) ⟨hx, hb, hml, hown, hts⟩ (c_Mo_at (l := l) (D := D2) (ca := ca2) (B := B + 64) e2) (hq_cwV (nn := 2) hts lz_wd_78 lz_wd_6 lz_wd_79 lz_wd_80 lz_wd_81 (by decide +kernel) rfl rfl ⟨(Nat.le_of_ble_eq_true rfl), (Nat.le_of_ble_eq_true rfl)⟩) (hq_preV hK2 hJ.2.1 (by decide) (mo_s_Mo rfl) rfl) rfl rfl hl.1 rfl (lv_room (Nat.le_of_ble_eq_true rfl)) d_law_391 ⟨(Nat.le_of_ble_eq_true rfl), (Nat.le_of_ble_eq_true rfl)⟩) hB hJ (fun H hJ => ?_)
  refine W.lcmp hx hb d_law_394 ?_
  refine lv_if_eq (tgt := 495) hx hb d_law_395 (by decide) (fun _ => ?_) (fun c1 => ?_)
  · exact k495 M1 m1 H hM1 hJ
  · exact absurd (lz_cmp r) c1
set_option maxHeartbeats 4000000 in
set_option maxRecDepth 100000 in
theorem w_law_region {p : Program} {l : Launch} {e : Env} {s : State} {m : MethodId} {below : List Frame} {meth : Method} {c : Code} {b L : Nat} {xs : Nat → Int32} {D D2 : va_G} {ca ca2 : Nat → ClassId} {B rl : Nat} {M : hm_M} {mm : mo_M} {H : Heap} {ls : Array Slot} {i : Nat} (X : lz_X p s m meth c b L xs D D2 ca ca2 B) (hl : lv_has ls 4 (lz_lv b B i)) (hi : i + 5 ≤ L) (hM : sm_I rl M mm) (hJ : lz_J D D2 ca ca2 B rl s M mm H) (k495 : ∀ (M1 : hm_M) (m1 : mo_M) (H1 : Heap), sm_I rl M1 m1 → lz_J D D2 ca ca2 B rl s M1 m1 H1 → W p l e room_1 s m #[Value.ref b] below meth c H1 [] 79 1791 (lw_Z below #[Value.ref b] s) (F0 m 495 ls [])) : W p l e room_1 s m #[Value.ref b] below meth c H [] 79 1791 (lw_Z below #[Value.ref b] s) (F0 m 400 ls []) := by
  obtain ⟨hx, hb, hml, hown, hr, hlk, hK1, hK2, hX, hbl, hL, hB⟩ := id X
  have hts : ∀ w ∈ hq_tb, w.before #[Value.ref b] s = true := fun w h => hK1.2.2 w h _
  obtain ⟨r, M1, m1, e1, e2, hM1⟩ := op_region hM (xs (i + 1)) (if xs (i + 2) = 0 then 0 else 1)
  refine lv_aload_n hx hb d_law_400 rfl (lv_at hl 1 rfl) ?_
  refine lz_rd X hl hJ (k := 1) d_law_401 d_law_402 d_law_403 d_law_404 d_law_405 rfl (by omega) ?_
  refine lz_rd X hl hJ (k := 2) d_law_406 d_law_407 d_law_408 d_law_409 d_law_410 rfl (by omega) ?_
  refine lz_bool hx hb (t1 := 418) d_law_411 (by decide) d_law_414 d_law_415 (by decide) d_law_418 ?_
  refine hz_call1I (va_runV (As := [.int (xs (i + 1)), .int (if xs (i + 2) = 0 then 0 else 1)]) (rest := []) ⟨hx, hb, hml, hown, hts⟩ (c_SC_region (l := l) (D := D) (ca := ca) (B := B) (rl := rl) e1) (hq_cwV (nn := 2) hts lz_wd_82 lz_wd_1 lz_wd_83 lz_wd_84 lz_wd_85 (by decide +kernel) rfl rfl ⟨(Nat.le_of_ble_eq_true rfl), (Nat.le_of_ble_eq_true rfl)⟩) (hq_preV hK1 hJ.1 (by decide) (sc_s_SC rfl) rfl) rfl rfl hl.1 rfl (lv_room (Nat.le_of_ble_eq_true rfl)) d_law_419 ⟨(Nat.le_of_ble_eq_true rfl), (Nat.le_of_ble_eq_true rfl)⟩) hB hJ (fun H hJ => ?_)
  refine lv_aload_n hx hb d_law_422 rfl (lv_at hl 2 rfl) ?_
  refine lz_rd X hl hJ (k := 1) d_law_423 d_law_424 d_law_425 d_law_426 d_law_427 rfl (by omega) ?_
  refine lz_rd X hl hJ (k := 2) d_law_428 d_law_429 d_law_430 d_law_431 d_law_432 rfl (by omega) ?_
  refine lz_bool hx hb (t1 := 440) d_law_433 (by decide) d_law_436 d_law_437 (by decide) d_law_440 ?_
  refine hz_call2I (va_runV (As := [.int (xs (i + 1)), .int (if xs (i + 2) = 0 then 0 else 1)]) (rest := [.int r]) ⟨hx, hb, hml, hown, hts⟩ (c_Mo_region (l := l) (D := D2) (ca := ca2) (B := B + 64) e2) (hq_cwV (nn := 2) hts lz_wd_86 lz_wd_6 lz_wd_87 lz_wd_88 lz_wd_89 (by decide +kernel) rfl rfl ⟨(Nat.le_of_ble_eq_true rfl), (Nat.le_of_ble_eq_true rfl)⟩) (hq_preV hK2 hJ.2.1 (by decide) (mo_s_Mo rfl) rfl) rfl rfl hl.1 rfl (lv_room (Nat.le_of_ble_eq_true rfl)) d_law_441 ⟨(Nat.le_of_ble_eq_true rfl), (Nat.le_of_ble_eq_true rfl)⟩) hB hJ (fun H hJ => ?_)
  refine lv_icmp_eq (tgt := 495) hx hb d_law_444 (by decide) (fun _ => ?_) (fun c1 => ?_)
  · exact k495 M1 m1 H hM1 hJ
  · exact absurd rfl c1
set_option maxHeartbeats 4000000 in
set_option maxRecDepth 100000 in
theorem w_law_work {p : Program} {l : Launch} {e : Env} {s : State} {m : MethodId} {below : List Frame} {meth : Method} {c : Code} {b L : Nat} {xs : Nat → Int32} {D D2 : va_G} {ca ca2 : Nat → ClassId} {B rl : Nat} {M : hm_M} {mm : mo_M} {H : Heap} {ls : Array Slot} {i : Nat} (X : lz_X p s m meth c b L xs D D2 ca ca2 B) (hl : lv_has ls 4 (lz_lv b B i)) (hi : i + 5 ≤ L) (hM : sm_I rl M mm) (hJ : lz_J D D2 ca ca2 B rl s M mm H) (k495 : ∀ (M1 : hm_M) (m1 : mo_M) (H1 : Heap), sm_I rl M1 m1 → lz_J D D2 ca ca2 B rl s M1 m1 H1 → W p l e room_1 s m #[Value.ref b] below meth c H1 [] 79 1791 (lw_Z below #[Value.ref b] s) (F0 m 495 ls [])) : W p l e room_1 s m #[Value.ref b] below meth c H [] 79 1791 (lw_Z below #[Value.ref b] s) (F0 m 449 ls []) := by
  obtain ⟨hx, hb, hml, hown, hr, hlk, hK1, hK2, hX, hbl, hL, hB⟩ := id X
  have hts : ∀ w ∈ hq_tb, w.before #[Value.ref b] s = true := fun w h => hK1.2.2 w h _
  obtain ⟨r, M1, m1, e1, e2, hM1⟩ := op_work hM (xs (i + 1))
  refine lv_aload_n hx hb d_law_449 rfl (lv_at hl 1 rfl) ?_
  refine lz_rd X hl hJ (k := 1) d_law_450 d_law_451 d_law_452 d_law_453 d_law_454 rfl (by omega) ?_
  refine hz_call1I (va_runV (As := [.int (xs (i + 1))]) (rest := []) ⟨hx, hb, hml, hown, hts⟩ (c_SC_work (l := l) (D := D) (ca := ca) (B := B) (rl := rl) e1) (hq_cwV (nn := 1) hts lz_wd_90 lz_wd_1 lz_wd_91 lz_wd_92 lz_wd_93 (by decide +kernel) rfl rfl ⟨(Nat.le_of_ble_eq_true rfl), (Nat.le_of_ble_eq_true rfl)⟩) (hq_preV hK1 hJ.1 (by decide) (sc_s_SC rfl) rfl) rfl rfl hl.1 rfl (lv_room (Nat.le_of_ble_eq_true rfl)) d_law_455 ⟨(Nat.le_of_ble_eq_true rfl), (Nat.le_of_ble_eq_true rfl)⟩) hB hJ (fun H hJ => ?_)
  refine lv_aload_n hx hb d_law_458 rfl (lv_at hl 2 rfl) ?_
  refine lz_rd X hl hJ (k := 1) d_law_459 d_law_460 d_law_461 d_law_462 d_law_463 rfl (by omega) ?_
  refine hz_call2I (va_runV (As := [.int (xs (i + 1))]) (rest := [.int r]) ⟨hx, hb, hml, hown, hts⟩ (c_Mo_work (l := l) (D := D2) (ca := ca2) (B := B + 64) e2) (hq_cwV (nn := 1) hts lz_wd_94 lz_wd_6 lz_wd_95 lz_wd_96 lz_wd_97 (by decide +kernel) rfl rfl ⟨(Nat.le_of_ble_eq_true rfl), (Nat.le_of_ble_eq_true rfl)⟩) (hq_preV hK2 hJ.2.1 (by decide) (mo_s_Mo rfl) rfl) rfl rfl hl.1 rfl (lv_room (Nat.le_of_ble_eq_true rfl)) d_law_464 ⟨(Nat.le_of_ble_eq_true rfl), (Nat.le_of_ble_eq_true rfl)⟩) hB hJ (fun H hJ => ?_)
  refine lv_icmp_eq (tgt := 495) hx hb d_law_467 (by decide) (fun _ => ?_) (fun c1 => ?_)
  · exact k495 M1 m1 H hM1 hJ
  · exact absurd rfl c1
set_option maxHeartbeats 4000000 in
set_option maxRecDepth 100000 in
theorem w_law_count {p : Program} {l : Launch} {e : Env} {s : State} {m : MethodId} {below : List Frame} {meth : Method} {c : Code} {b L : Nat} {xs : Nat → Int32} {D D2 : va_G} {ca ca2 : Nat → ClassId} {B rl : Nat} {M : hm_M} {mm : mo_M} {H : Heap} {ls : Array Slot} {i : Nat} (X : lz_X p s m meth c b L xs D D2 ca ca2 B) (hl : lv_has ls 4 (lz_lv b B i)) (hi : i + 5 ≤ L) (hM : sm_I rl M mm) (hJ : lz_J D D2 ca ca2 B rl s M mm H) (k495 : ∀ (M1 : hm_M) (m1 : mo_M) (H1 : Heap), sm_I rl M1 m1 → lz_J D D2 ca ca2 B rl s M1 m1 H1 → W p l e room_1 s m #[Value.ref b] below meth c H1 [] 79 1791 (lw_Z below #[Value.ref b] s) (F0 m 495 ls [])) : W p l e room_1 s m #[Value.ref b] below meth c H [] 79 1791 (lw_Z below #[Value.ref b] s) (F0 m 472 ls []) := by
  obtain ⟨hx, hb, hml, hown, hr, hlk, hK1, hK2, hX, hbl, hL, hB⟩ := id X
  have hts : ∀ w ∈ hq_tb, w.before #[Value.ref b] s = true := fun w h => hK1.2.2 w h _
  obtain ⟨r, M1, m1, e1, e2, hM1⟩ := op_count hM (xs (i + 1))
  refine lv_aload_n hx hb d_law_472 rfl (lv_at hl 1 rfl) ?_
  refine lz_rd X hl hJ (k := 1) d_law_473 d_law_474 d_law_475 d_law_476 d_law_477 rfl (by omega) ?_
  refine hz_call1I (va_runV (As := [.int (xs (i + 1))]) (rest := []) ⟨hx, hb, hml, hown, hts⟩ (c_SC_count (l := l) (D := D) (ca := ca) (B := B) (rl := rl) e1) (hq_cwV (nn := 1) hts lz_wd_98 lz_wd_1 lz_wd_99 lz_wd_100 lz_wd_101 (by decide +kernel) rfl rfl ⟨(Nat.le_of_ble_eq_true rfl), (Nat.le_of_ble_eq_true rfl)⟩) (hq_preV hK1 hJ.1 (by decide) (sc_s_SC rfl) rfl) rfl rfl hl.1 rfl (lv_room (Nat.le_of_ble_eq_true rfl)) d_law_478 ⟨(Nat.le_of_ble_eq_true rfl), (Nat.le_of_ble_eq_true rfl)⟩) hB hJ (fun H hJ => ?_)
  refine lv_aload_n hx hb d_law_481 rfl (lv_at hl 2 rfl) ?_
  refine lz_rd X hl hJ (k := 1) d_law_482 d_law_483 d_law_484 d_law_485 d_law_486 rfl (by omega) ?_
  refine hz_call2I (va_runV (As := [.int (xs (i + 1))]) (rest := [.int r]) ⟨hx, hb, hml, hown, hts⟩ (c_Mo_count (l := l) (D := D2) (ca := ca2) (B := B + 64) e2) (hq_cwV (nn := 1) hts lz_wd_102 lz_wd_6 lz_wd_103 lz_wd_104 lz_wd_105 (by decide +kernel) rfl rfl ⟨(Nat.le_of_ble_eq_true rfl), (Nat.le_of_ble_eq_true rfl)⟩) (hq_preV hK2 hJ.2.1 (by decide) (mo_s_Mo rfl) rfl) rfl rfl hl.1 rfl (lv_room (Nat.le_of_ble_eq_true rfl)) d_law_487 ⟨(Nat.le_of_ble_eq_true rfl), (Nat.le_of_ble_eq_true rfl)⟩) hB hJ (fun H hJ => ?_)
  refine lv_icmp_eq (tgt := 495) hx hb d_law_490 (by decide) (fun _ => ?_) (fun c1 => ?_)
  · exact k495 M1 m1 H hM1 hJ
  · exact absurd rfl c1
