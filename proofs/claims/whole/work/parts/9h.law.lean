/-! the law's cases -/
theorem l_arg {p : Program} {l : Launch} {e : Env} {R : Room} {s : State} {m : MethodId} {args : Array Value} {below : List Frame} {meth : Method} {c : Code} {H : Heap} {locs : List Loc} {cells slots : Nat} {Q : State → Prop} {cc : ByteArray} {pc : Nat} {ls : Array Slot} {rest : List Value} {B b L k : Nat} {xs : Nat → Int32} {x2 x1 : Value}
    (hx : p.tables.exec = Jvm.exec) (hb : c.code = cc) (hX : va_X b L xs s s.heap) (hbl : b < s.heap.size) (hB : B = s.heap.size) (hS : va_S (iA B) s.heap H locs) (hl : lv_has ls 4 [(3, .int (nI k)), (2, x2), (1, x1), (0, .ref b)]) (j : Nat) (v : Int32) (hv : v = nI j) {n : Int} (hn : Int32.ofInt n = v) (hk : k + j < L) (hL : L ≤ 2560)
    (d0 : decode cc pc = .ok (.aload_n 0, 1)) (d1 : decode cc (pc + 1) = .ok (.iload_n 3, 1)) (d2 : decode cc (pc + 2) = .ok (.iconst n, 1)) (d3 : decode cc (pc + 3) = .ok (.iadd, 1)) (d4 : decode cc (pc + 4) = .ok (.iaload, 1))
    (kk : W p l e R s m args below meth c H locs cells slots Q (F0 m (pc + 5) ls (.int (xs (k + j)) :: rest))) : W p l e R s m args below meth c H locs cells slots Q (F0 m pc ls rest) := by
  refine lv_aload_n hx hb d0 rfl (lv_at hl 3 rfl) ?_
  refine lv_iload_n hx hb d1 rfl (lv_at hl 0 rfl) ?_
  refine lv_iconst (v := v) hx hb d2 hn ?_
  refine lv_iadd hx hb d3 ?_
  have e : nI k + v = nI (k + j) := by rw [hv, nI_add]
  rw [e]
  refine va_sld (A := iA B) (H0 := s.heap) hx hb hX hbl (by rw [hB]; exact Nat.not_le.mpr hbl) hS (inb_nI hk (by omega)) d4 ?_
  rw [cl_nI (by omega)]
  exact kk
section LAWCASE
variable {p : Program} {l : Launch} {e : Env} {s : State} {m : MethodId} {below : List Frame} {meth : Method} {c : Code} {H : Heap} {locs : List Loc} {Q : State → Prop}
variable {ls : Array Slot} {E : xE} {B b L k : Nat} {xs : Nat → Int32} {σ τ : xM} {x0 : Cond}
theorem law_0 (S : CallFix p m c cL_law 4 s #[.ref b] (x0 :: AL) RL) (hE : Ev E (iA B) s s.heap) (hX : va_X b L xs s s.heap) (hbl : b < s.heap.size) (hB : B = s.heap.size) (hM : lS E B s σ τ H locs) (hG : GG σ τ) (hl : lv_has ls 4 [(3, .int (nI k)), (2, .ref (B + 160)), (1, .ref B), (0, .ref b)]) (hk : k + 5 ≤ L) (hL : L ≤ 2560)
    (kk : ∀ (σ' τ' : xM) (H1 : Heap) (locs1 : List Loc), GG σ' τ' → lS E B s σ' τ' H1 locs1 → W p l e room_1 s m #[.ref b] below meth c H1 locs1 167 3613 Q (F0 m 735 ls [])) : W p l e room_1 s m #[.ref b] below meth c H locs 167 3613 Q (F0 m 132 ls []) := by
  have hx := S.1
  have hb := S.2.1
  obtain ⟨r, σ1, τ1, ex, ey, hG1⟩ : ∃ (r : Int32) (σ' τ' : xM), F_X6_addRoom 0 (xs (k + 1)) (xs (k + 2)) (xs (k + 3)) (xs (k + 4)) σ = some (r, σ') ∧ F_X7_addRoom 0 (xs (k + 1)) (xs (k + 2)) (xs (k + 3)) (xs (k + 4)) τ = some (r, τ') ∧ GG σ' τ' := op_addRoom σ τ hG
  refine lv_aload_n hx hb dL_law_132 rfl (lv_at hl 2 rfl) ?_
  refine l_arg hx hb hX hbl hB hM.2.2 hl 1 1 rfl (by decide) (by omega) hL dL_law_133 dL_law_134 dL_law_135 dL_law_136 dL_law_137 ?_
  refine l_arg hx hb hX hbl hB hM.2.2 hl 2 2 rfl (by decide) (by omega) hL dL_law_138 dL_law_139 dL_law_140 dL_law_141 dL_law_142 ?_
  refine l_arg hx hb hX hbl hB hM.2.2 hl 3 3 rfl (by decide) (by omega) hL dL_law_143 dL_law_144 dL_law_145 dL_law_146 dL_law_147 ?_
  refine l_arg hx hb hX hbl hB hM.2.2 hl 4 4 rfl (by decide) (by omega) hL dL_law_148 dL_law_149 dL_law_150 dL_law_151 dL_law_152 ?_
  refine l_call (B1 := B) (n := 160) (As := [.int (xs (k + 1)), .int (xs (k + 2)), .int (xs (k + 3)), .int (xs (k + 4))]) (rest := []) (v := some (.int r)) (σ' := σ1) S hE hM.1 hM.2.2 (Nat.le_refl B) (by omega) (ly6 rfl _) rfl lk_L_13 (c_X6_addRoom l E B rfl ex) ⟨rfl, rfl, Nat.le_of_ble_eq_true rfl, Nat.le_of_ble_eq_true rfl⟩ ⟨Nat.le_of_ble_eq_true rfl, Nat.le_of_ble_eq_true rfl⟩ rfl hl.1 rfl (Nat.le_of_ble_eq_true rfl) dL_law_153 (fun H1 locs1 h1 h2 h3 => ?_)
  have hM1 := lS_x hM h1 h2 h3
  clear h1 h2 h3 hM
  refine W.eq (g2 := F0 m 156 ls [.int r]) rfl ?_
  refine lv_aload_n hx hb dL_law_156 rfl (lv_at hl 1 rfl) ?_
  refine l_arg hx hb hX hbl hB hM1.2.2 hl 1 1 rfl (by decide) (by omega) hL dL_law_157 dL_law_158 dL_law_159 dL_law_160 dL_law_161 ?_
  refine l_arg hx hb hX hbl hB hM1.2.2 hl 2 2 rfl (by decide) (by omega) hL dL_law_162 dL_law_163 dL_law_164 dL_law_165 dL_law_166 ?_
  refine l_arg hx hb hX hbl hB hM1.2.2 hl 3 3 rfl (by decide) (by omega) hL dL_law_167 dL_law_168 dL_law_169 dL_law_170 dL_law_171 ?_
  refine l_arg hx hb hX hbl hB hM1.2.2 hl 4 4 rfl (by decide) (by omega) hL dL_law_172 dL_law_173 dL_law_174 dL_law_175 dL_law_176 ?_
  refine l_call (B1 := B + 160) (n := 7) (As := [.int (xs (k + 1)), .int (xs (k + 2)), .int (xs (k + 3)), .int (xs (k + 4))]) (rest := [.int r]) (v := some (.int r)) (σ' := τ1) S hE hM1.2.1 hM1.2.2 (by omega) (by omega) (ly7 rfl _) rfl lk_L_17 (c_X7_addRoom l E (B + 160) rfl ey) ⟨rfl, rfl, Nat.le_of_ble_eq_true rfl, Nat.le_of_ble_eq_true rfl⟩ ⟨Nat.le_of_ble_eq_true rfl, Nat.le_of_ble_eq_true rfl⟩ rfl hl.1 rfl (Nat.le_of_ble_eq_true rfl) dL_law_177 (fun H1 locs1 h1 h2 h3 => ?_)
  have hM2 := lS_y hM1 h1 h2 h3
  refine W.eq (g2 := F0 m 180 ls [.int r, .int r]) rfl ?_
  exact lv_icmp_eq (tgt := 735) hx hb dL_law_180 (by decide) (fun _ => kk _ _ _ _ hG1 hM2) (fun z => absurd rfl z)
theorem law_1 (S : CallFix p m c cL_law 4 s #[.ref b] (x0 :: AL) RL) (hE : Ev E (iA B) s s.heap) (hX : va_X b L xs s s.heap) (hbl : b < s.heap.size) (hB : B = s.heap.size) (hM : lS E B s σ τ H locs) (hG : GG σ τ) (hl : lv_has ls 4 [(3, .int (nI k)), (2, .ref (B + 160)), (1, .ref B), (0, .ref b)]) (hk : k + 5 ≤ L) (hL : L ≤ 2560)
    (kk : ∀ (σ' τ' : xM) (H1 : Heap) (locs1 : List Loc), GG σ' τ' → lS E B s σ' τ' H1 locs1 → W p l e room_1 s m #[.ref b] below meth c H1 locs1 167 3613 Q (F0 m 735 ls [])) : W p l e room_1 s m #[.ref b] below meth c H locs 167 3613 Q (F0 m 185 ls []) := by
  have hx := S.1
  have hb := S.2.1
  obtain ⟨r, σ1, τ1, ex, ey, hG1⟩ : ∃ (r : Int32) (σ' τ' : xM), F_X6_setLink 0 (xs (k + 1)) (xs (k + 2)) (xs (k + 3)) σ = some (r, σ') ∧ F_X7_setLink 0 (xs (k + 1)) (xs (k + 2)) (xs (k + 3)) τ = some (r, τ') ∧ GG σ' τ' := op_setLink σ τ hG
  refine lv_aload_n hx hb dL_law_185 rfl (lv_at hl 2 rfl) ?_
  refine l_arg hx hb hX hbl hB hM.2.2 hl 1 1 rfl (by decide) (by omega) hL dL_law_186 dL_law_187 dL_law_188 dL_law_189 dL_law_190 ?_
  refine l_arg hx hb hX hbl hB hM.2.2 hl 2 2 rfl (by decide) (by omega) hL dL_law_191 dL_law_192 dL_law_193 dL_law_194 dL_law_195 ?_
  refine l_arg hx hb hX hbl hB hM.2.2 hl 3 3 rfl (by decide) (by omega) hL dL_law_196 dL_law_197 dL_law_198 dL_law_199 dL_law_200 ?_
  refine l_call (B1 := B) (n := 160) (As := [.int (xs (k + 1)), .int (xs (k + 2)), .int (xs (k + 3))]) (rest := []) (v := some (.int r)) (σ' := σ1) S hE hM.1 hM.2.2 (Nat.le_refl B) (by omega) (ly6 rfl _) rfl lk_L_18 (c_X6_setLink l E B rfl ex) ⟨rfl, rfl, Nat.le_of_ble_eq_true rfl, Nat.le_of_ble_eq_true rfl⟩ ⟨Nat.le_of_ble_eq_true rfl, Nat.le_of_ble_eq_true rfl⟩ rfl hl.1 rfl (Nat.le_of_ble_eq_true rfl) dL_law_201 (fun H1 locs1 h1 h2 h3 => ?_)
  have hM1 := lS_x hM h1 h2 h3
  clear h1 h2 h3 hM
  refine W.eq (g2 := F0 m 204 ls [.int r]) rfl ?_
  refine lv_aload_n hx hb dL_law_204 rfl (lv_at hl 1 rfl) ?_
  refine l_arg hx hb hX hbl hB hM1.2.2 hl 1 1 rfl (by decide) (by omega) hL dL_law_205 dL_law_206 dL_law_207 dL_law_208 dL_law_209 ?_
  refine l_arg hx hb hX hbl hB hM1.2.2 hl 2 2 rfl (by decide) (by omega) hL dL_law_210 dL_law_211 dL_law_212 dL_law_213 dL_law_214 ?_
  refine l_arg hx hb hX hbl hB hM1.2.2 hl 3 3 rfl (by decide) (by omega) hL dL_law_215 dL_law_216 dL_law_217 dL_law_218 dL_law_219 ?_
  refine l_call (B1 := B + 160) (n := 7) (As := [.int (xs (k + 1)), .int (xs (k + 2)), .int (xs (k + 3))]) (rest := [.int r]) (v := some (.int r)) (σ' := τ1) S hE hM1.2.1 hM1.2.2 (by omega) (by omega) (ly7 rfl _) rfl lk_L_22 (c_X7_setLink l E (B + 160) rfl ey) ⟨rfl, rfl, Nat.le_of_ble_eq_true rfl, Nat.le_of_ble_eq_true rfl⟩ ⟨Nat.le_of_ble_eq_true rfl, Nat.le_of_ble_eq_true rfl⟩ rfl hl.1 rfl (Nat.le_of_ble_eq_true rfl) dL_law_220 (fun H1 locs1 h1 h2 h3 => ?_)
  have hM2 := lS_y hM1 h1 h2 h3
  refine W.eq (g2 := F0 m 223 ls [.int r, .int r]) rfl ?_
  exact lv_icmp_eq (tgt := 735) hx hb dL_law_223 (by decide) (fun _ => kk _ _ _ _ hG1 hM2) (fun z => absurd rfl z)
theorem law_2 (S : CallFix p m c cL_law 4 s #[.ref b] (x0 :: AL) RL) (hE : Ev E (iA B) s s.heap) (hX : va_X b L xs s s.heap) (hbl : b < s.heap.size) (hB : B = s.heap.size) (hM : lS E B s σ τ H locs) (hG : GG σ τ) (hl : lv_has ls 4 [(3, .int (nI k)), (2, .ref (B + 160)), (1, .ref B), (0, .ref b)]) (hk : k + 5 ≤ L) (hL : L ≤ 2560)
    (kk : ∀ (σ' τ' : xM) (H1 : Heap) (locs1 : List Loc), GG σ' τ' → lS E B s σ' τ' H1 locs1 → W p l e room_1 s m #[.ref b] below meth c H1 locs1 167 3613 Q (F0 m 735 ls [])) : W p l e room_1 s m #[.ref b] below meth c H locs 167 3613 Q (F0 m 228 ls []) := by
  have hx := S.1
  have hb := S.2.1
  obtain ⟨r, σ1, τ1, ex, ey, hG1⟩ : ∃ (r : Int32) (σ' τ' : xM), F_X6_setThermostat 0 (xs (k + 1)) (xs (k + 2)) (xs (k + 3)) σ = some (r, σ') ∧ F_X7_setThermostat 0 (xs (k + 1)) (xs (k + 2)) (xs (k + 3)) τ = some (r, τ') ∧ GG σ' τ' := op_setThermostat σ τ hG
  refine lv_aload_n hx hb dL_law_228 rfl (lv_at hl 2 rfl) ?_
  refine l_arg hx hb hX hbl hB hM.2.2 hl 1 1 rfl (by decide) (by omega) hL dL_law_229 dL_law_230 dL_law_231 dL_law_232 dL_law_233 ?_
  refine l_arg hx hb hX hbl hB hM.2.2 hl 2 2 rfl (by decide) (by omega) hL dL_law_234 dL_law_235 dL_law_236 dL_law_237 dL_law_238 ?_
  refine l_arg hx hb hX hbl hB hM.2.2 hl 3 3 rfl (by decide) (by omega) hL dL_law_239 dL_law_240 dL_law_241 dL_law_242 dL_law_243 ?_
  refine l_call (B1 := B) (n := 160) (As := [.int (xs (k + 1)), .int (xs (k + 2)), .int (xs (k + 3))]) (rest := []) (v := some (.int r)) (σ' := σ1) S hE hM.1 hM.2.2 (Nat.le_refl B) (by omega) (ly6 rfl _) rfl lk_L_23 (c_X6_setThermostat l E B rfl ex) ⟨rfl, rfl, Nat.le_of_ble_eq_true rfl, Nat.le_of_ble_eq_true rfl⟩ ⟨Nat.le_of_ble_eq_true rfl, Nat.le_of_ble_eq_true rfl⟩ rfl hl.1 rfl (Nat.le_of_ble_eq_true rfl) dL_law_244 (fun H1 locs1 h1 h2 h3 => ?_)
  have hM1 := lS_x hM h1 h2 h3
  clear h1 h2 h3 hM
  refine W.eq (g2 := F0 m 247 ls [.int r]) rfl ?_
  refine lv_aload_n hx hb dL_law_247 rfl (lv_at hl 1 rfl) ?_
  refine l_arg hx hb hX hbl hB hM1.2.2 hl 1 1 rfl (by decide) (by omega) hL dL_law_248 dL_law_249 dL_law_250 dL_law_251 dL_law_252 ?_
  refine l_arg hx hb hX hbl hB hM1.2.2 hl 2 2 rfl (by decide) (by omega) hL dL_law_253 dL_law_254 dL_law_255 dL_law_256 dL_law_257 ?_
  refine l_arg hx hb hX hbl hB hM1.2.2 hl 3 3 rfl (by decide) (by omega) hL dL_law_258 dL_law_259 dL_law_260 dL_law_261 dL_law_262 ?_
  refine l_call (B1 := B + 160) (n := 7) (As := [.int (xs (k + 1)), .int (xs (k + 2)), .int (xs (k + 3))]) (rest := [.int r]) (v := some (.int r)) (σ' := τ1) S hE hM1.2.1 hM1.2.2 (by omega) (by omega) (ly7 rfl _) rfl lk_L_26 (c_X7_setThermostat l E (B + 160) rfl ey) ⟨rfl, rfl, Nat.le_of_ble_eq_true rfl, Nat.le_of_ble_eq_true rfl⟩ ⟨Nat.le_of_ble_eq_true rfl, Nat.le_of_ble_eq_true rfl⟩ rfl hl.1 rfl (Nat.le_of_ble_eq_true rfl) dL_law_263 (fun H1 locs1 h1 h2 h3 => ?_)
  have hM2 := lS_y hM1 h1 h2 h3
  refine W.eq (g2 := F0 m 266 ls [.int r, .int r]) rfl ?_
  exact lv_icmp_eq (tgt := 735) hx hb dL_law_266 (by decide) (fun _ => kk _ _ _ _ hG1 hM2) (fun z => absurd rfl z)
theorem law_3 (S : CallFix p m c cL_law 4 s #[.ref b] (x0 :: AL) RL) (hE : Ev E (iA B) s s.heap) (hX : va_X b L xs s s.heap) (hbl : b < s.heap.size) (hB : B = s.heap.size) (hM : lS E B s σ τ H locs) (hG : GG σ τ) (hl : lv_has ls 4 [(3, .int (nI k)), (2, .ref (B + 160)), (1, .ref B), (0, .ref b)]) (hk : k + 5 ≤ L) (hL : L ≤ 2560)
    (kk : ∀ (σ' τ' : xM) (H1 : Heap) (locs1 : List Loc), GG σ' τ' → lS E B s σ' τ' H1 locs1 → W p l e room_1 s m #[.ref b] below meth c H1 locs1 167 3613 Q (F0 m 735 ls [])) : W p l e room_1 s m #[.ref b] below meth c H locs 167 3613 Q (F0 m 271 ls []) := by
  have hx := S.1
  have hb := S.2.1
  obtain ⟨r, σ1, τ1, ex, ey, hG1⟩ : ∃ (r : Int32) (σ' τ' : xM), F_X6_setNumber 0 (xs (k + 1)) (xs (k + 2)) σ = some (r, σ') ∧ F_X7_setNumber 0 (xs (k + 1)) (xs (k + 2)) τ = some (r, τ') ∧ GG σ' τ' := op_setNumber σ τ hG
  refine lv_aload_n hx hb dL_law_271 rfl (lv_at hl 2 rfl) ?_
  refine l_arg hx hb hX hbl hB hM.2.2 hl 1 1 rfl (by decide) (by omega) hL dL_law_272 dL_law_273 dL_law_274 dL_law_275 dL_law_276 ?_
  refine l_arg hx hb hX hbl hB hM.2.2 hl 2 2 rfl (by decide) (by omega) hL dL_law_277 dL_law_278 dL_law_279 dL_law_280 dL_law_281 ?_
  refine l_call (B1 := B) (n := 160) (As := [.int (xs (k + 1)), .int (xs (k + 2))]) (rest := []) (v := some (.int r)) (σ' := σ1) S hE hM.1 hM.2.2 (Nat.le_refl B) (by omega) (ly6 rfl _) rfl lk_L_27 (c_X6_setNumber l E B rfl ex) ⟨rfl, rfl, Nat.le_of_ble_eq_true rfl, Nat.le_of_ble_eq_true rfl⟩ ⟨Nat.le_of_ble_eq_true rfl, Nat.le_of_ble_eq_true rfl⟩ rfl hl.1 rfl (Nat.le_of_ble_eq_true rfl) dL_law_282 (fun H1 locs1 h1 h2 h3 => ?_)
  have hM1 := lS_x hM h1 h2 h3
  clear h1 h2 h3 hM
  refine W.eq (g2 := F0 m 285 ls [.int r]) rfl ?_
  refine lv_aload_n hx hb dL_law_285 rfl (lv_at hl 1 rfl) ?_
  refine l_arg hx hb hX hbl hB hM1.2.2 hl 1 1 rfl (by decide) (by omega) hL dL_law_286 dL_law_287 dL_law_288 dL_law_289 dL_law_290 ?_
  refine l_arg hx hb hX hbl hB hM1.2.2 hl 2 2 rfl (by decide) (by omega) hL dL_law_291 dL_law_292 dL_law_293 dL_law_294 dL_law_295 ?_
  refine l_call (B1 := B + 160) (n := 7) (As := [.int (xs (k + 1)), .int (xs (k + 2))]) (rest := [.int r]) (v := some (.int r)) (σ' := τ1) S hE hM1.2.1 hM1.2.2 (by omega) (by omega) (ly7 rfl _) rfl lk_L_31 (c_X7_setNumber l E (B + 160) rfl ey) ⟨rfl, rfl, Nat.le_of_ble_eq_true rfl, Nat.le_of_ble_eq_true rfl⟩ ⟨Nat.le_of_ble_eq_true rfl, Nat.le_of_ble_eq_true rfl⟩ rfl hl.1 rfl (Nat.le_of_ble_eq_true rfl) dL_law_296 (fun H1 locs1 h1 h2 h3 => ?_)
  have hM2 := lS_y hM1 h1 h2 h3
  refine W.eq (g2 := F0 m 299 ls [.int r, .int r]) rfl ?_
  exact lv_icmp_eq (tgt := 735) hx hb dL_law_299 (by decide) (fun _ => kk _ _ _ _ hG1 hM2) (fun z => absurd rfl z)
theorem law_4 (S : CallFix p m c cL_law 4 s #[.ref b] (x0 :: AL) RL) (hE : Ev E (iA B) s s.heap) (hX : va_X b L xs s s.heap) (hbl : b < s.heap.size) (hB : B = s.heap.size) (hM : lS E B s σ τ H locs) (hG : GG σ τ) (hl : lv_has ls 4 [(3, .int (nI k)), (2, .ref (B + 160)), (1, .ref B), (0, .ref b)]) (hk : k + 5 ≤ L) (hL : L ≤ 2560)
    (kk : ∀ (σ' τ' : xM) (H1 : Heap) (locs1 : List Loc), GG σ' τ' → lS E B s σ' τ' H1 locs1 → W p l e room_1 s m #[.ref b] below meth c H1 locs1 167 3613 Q (F0 m 735 ls [])) : W p l e room_1 s m #[.ref b] below meth c H locs 167 3613 Q (F0 m 304 ls []) := by
  have hx := S.1
  have hb := S.2.1
  obtain ⟨r, σ1, τ1, ex, ey, hG1⟩ : ∃ (r : Int32) (σ' τ' : xM), F_X6_warm 0 (xs (k + 1)) (xs (k + 2)) σ = some (r, σ') ∧ F_X7_warm 0 (xs (k + 1)) (xs (k + 2)) τ = some (r, τ') ∧ GG σ' τ' := op_warm σ τ hG
  refine lv_aload_n hx hb dL_law_304 rfl (lv_at hl 2 rfl) ?_
  refine l_arg hx hb hX hbl hB hM.2.2 hl 1 1 rfl (by decide) (by omega) hL dL_law_305 dL_law_306 dL_law_307 dL_law_308 dL_law_309 ?_
  refine l_arg hx hb hX hbl hB hM.2.2 hl 2 2 rfl (by decide) (by omega) hL dL_law_310 dL_law_311 dL_law_312 dL_law_313 dL_law_314 ?_
  refine l_call (B1 := B) (n := 160) (As := [.int (xs (k + 1)), .int (xs (k + 2))]) (rest := []) (v := some (.int r)) (σ' := σ1) S hE hM.1 hM.2.2 (Nat.le_refl B) (by omega) (ly6 rfl _) rfl lk_L_32 (c_X6_warm l E B rfl ex) ⟨rfl, rfl, Nat.le_of_ble_eq_true rfl, Nat.le_of_ble_eq_true rfl⟩ ⟨Nat.le_of_ble_eq_true rfl, Nat.le_of_ble_eq_true rfl⟩ rfl hl.1 rfl (Nat.le_of_ble_eq_true rfl) dL_law_315 (fun H1 locs1 h1 h2 h3 => ?_)
  have hM1 := lS_x hM h1 h2 h3
  clear h1 h2 h3 hM
  refine W.eq (g2 := F0 m 318 ls [.int r]) rfl ?_
  refine lv_aload_n hx hb dL_law_318 rfl (lv_at hl 1 rfl) ?_
  refine l_arg hx hb hX hbl hB hM1.2.2 hl 1 1 rfl (by decide) (by omega) hL dL_law_319 dL_law_320 dL_law_321 dL_law_322 dL_law_323 ?_
  refine l_arg hx hb hX hbl hB hM1.2.2 hl 2 2 rfl (by decide) (by omega) hL dL_law_324 dL_law_325 dL_law_326 dL_law_327 dL_law_328 ?_
  refine l_call (B1 := B + 160) (n := 7) (As := [.int (xs (k + 1)), .int (xs (k + 2))]) (rest := [.int r]) (v := some (.int r)) (σ' := τ1) S hE hM1.2.1 hM1.2.2 (by omega) (by omega) (ly7 rfl _) rfl lk_L_35 (c_X7_warm l E (B + 160) rfl ey) ⟨rfl, rfl, Nat.le_of_ble_eq_true rfl, Nat.le_of_ble_eq_true rfl⟩ ⟨Nat.le_of_ble_eq_true rfl, Nat.le_of_ble_eq_true rfl⟩ rfl hl.1 rfl (Nat.le_of_ble_eq_true rfl) dL_law_329 (fun H1 locs1 h1 h2 h3 => ?_)
  have hM2 := lS_y hM1 h1 h2 h3
  refine W.eq (g2 := F0 m 332 ls [.int r, .int r]) rfl ?_
  exact lv_icmp_eq (tgt := 735) hx hb dL_law_332 (by decide) (fun _ => kk _ _ _ _ hG1 hM2) (fun z => absurd rfl z)
theorem law_5 (S : CallFix p m c cL_law 4 s #[.ref b] (x0 :: AL) RL) (hE : Ev E (iA B) s s.heap) (hX : va_X b L xs s s.heap) (hbl : b < s.heap.size) (hB : B = s.heap.size) (hM : lS E B s σ τ H locs) (hG : GG σ τ) (hl : lv_has ls 4 [(3, .int (nI k)), (2, .ref (B + 160)), (1, .ref B), (0, .ref b)]) (hk : k + 5 ≤ L) (hL : L ≤ 2560)
    (kk : ∀ (σ' τ' : xM) (H1 : Heap) (locs1 : List Loc), GG σ' τ' → lS E B s σ' τ' H1 locs1 → W p l e room_1 s m #[.ref b] below meth c H1 locs1 167 3613 Q (F0 m 735 ls [])) : W p l e room_1 s m #[.ref b] below meth c H locs 167 3613 Q (F0 m 337 ls []) := by
  have hx := S.1
  have hb := S.2.1
  obtain ⟨r, σ1, τ1, ex, ey, hG1⟩ : ∃ (r : Int32) (σ' τ' : xM), F_X6_service 0 (xs (k + 1)) σ = some (r, σ') ∧ F_X7_service 0 (xs (k + 1)) τ = some (r, τ') ∧ GG σ' τ' := op_service σ τ hG
  refine lv_aload_n hx hb dL_law_337 rfl (lv_at hl 2 rfl) ?_
  refine l_arg hx hb hX hbl hB hM.2.2 hl 1 1 rfl (by decide) (by omega) hL dL_law_338 dL_law_339 dL_law_340 dL_law_341 dL_law_342 ?_
  refine l_call (B1 := B) (n := 160) (As := [.int (xs (k + 1))]) (rest := []) (v := some (.int r)) (σ' := σ1) S hE hM.1 hM.2.2 (Nat.le_refl B) (by omega) (ly6 rfl _) rfl lk_L_36 (c_X6_service l E B rfl ex) ⟨rfl, rfl, Nat.le_of_ble_eq_true rfl, Nat.le_of_ble_eq_true rfl⟩ ⟨Nat.le_of_ble_eq_true rfl, Nat.le_of_ble_eq_true rfl⟩ rfl hl.1 rfl (Nat.le_of_ble_eq_true rfl) dL_law_343 (fun H1 locs1 h1 h2 h3 => ?_)
  have hM1 := lS_x hM h1 h2 h3
  clear h1 h2 h3 hM
  refine W.eq (g2 := F0 m 346 ls [.int r]) rfl ?_
  refine lv_aload_n hx hb dL_law_346 rfl (lv_at hl 1 rfl) ?_
  refine l_arg hx hb hX hbl hB hM1.2.2 hl 1 1 rfl (by decide) (by omega) hL dL_law_347 dL_law_348 dL_law_349 dL_law_350 dL_law_351 ?_
  refine l_call (B1 := B + 160) (n := 7) (As := [.int (xs (k + 1))]) (rest := [.int r]) (v := some (.int r)) (σ' := τ1) S hE hM1.2.1 hM1.2.2 (by omega) (by omega) (ly7 rfl _) rfl lk_L_40 (c_X7_service l E (B + 160) rfl ey) ⟨rfl, rfl, Nat.le_of_ble_eq_true rfl, Nat.le_of_ble_eq_true rfl⟩ ⟨Nat.le_of_ble_eq_true rfl, Nat.le_of_ble_eq_true rfl⟩ rfl hl.1 rfl (Nat.le_of_ble_eq_true rfl) dL_law_352 (fun H1 locs1 h1 h2 h3 => ?_)
  have hM2 := lS_y hM1 h1 h2 h3
  refine W.eq (g2 := F0 m 355 ls [.int r, .int r]) rfl ?_
  exact lv_icmp_eq (tgt := 735) hx hb dL_law_355 (by decide) (fun _ => kk _ _ _ _ hG1 hM2) (fun z => absurd rfl z)
theorem law_6 (S : CallFix p m c cL_law 4 s #[.ref b] (x0 :: AL) RL) (hE : Ev E (iA B) s s.heap) (hX : va_X b L xs s s.heap) (hbl : b < s.heap.size) (hB : B = s.heap.size) (hM : lS E B s σ τ H locs) (hG : GG σ τ) (hl : lv_has ls 4 [(3, .int (nI k)), (2, .ref (B + 160)), (1, .ref B), (0, .ref b)]) (hk : k + 5 ≤ L) (hL : L ≤ 2560)
    (kk : ∀ (σ' τ' : xM) (H1 : Heap) (locs1 : List Loc), GG σ' τ' → lS E B s σ' τ' H1 locs1 → W p l e room_1 s m #[.ref b] below meth c H1 locs1 167 3613 Q (F0 m 735 ls [])) : W p l e room_1 s m #[.ref b] below meth c H locs 167 3613 Q (F0 m 360 ls []) := by
  have hx := S.1
  have hb := S.2.1
  obtain ⟨r, σ1, τ1, ex, ey, hG1⟩ : ∃ (r : Int32) (σ' τ' : xM), F_X6_resetCutout 0 (xs (k + 1)) σ = some (r, σ') ∧ F_X7_resetCutout 0 (xs (k + 1)) τ = some (r, τ') ∧ GG σ' τ' := op_resetCutout σ τ hG
  refine lv_aload_n hx hb dL_law_360 rfl (lv_at hl 2 rfl) ?_
  refine l_arg hx hb hX hbl hB hM.2.2 hl 1 1 rfl (by decide) (by omega) hL dL_law_361 dL_law_362 dL_law_363 dL_law_364 dL_law_365 ?_
  refine l_call (B1 := B) (n := 160) (As := [.int (xs (k + 1))]) (rest := []) (v := some (.int r)) (σ' := σ1) S hE hM.1 hM.2.2 (Nat.le_refl B) (by omega) (ly6 rfl _) rfl lk_L_41 (c_X6_resetCutout l E B rfl ex) ⟨rfl, rfl, Nat.le_of_ble_eq_true rfl, Nat.le_of_ble_eq_true rfl⟩ ⟨Nat.le_of_ble_eq_true rfl, Nat.le_of_ble_eq_true rfl⟩ rfl hl.1 rfl (Nat.le_of_ble_eq_true rfl) dL_law_366 (fun H1 locs1 h1 h2 h3 => ?_)
  have hM1 := lS_x hM h1 h2 h3
  clear h1 h2 h3 hM
  refine W.eq (g2 := F0 m 369 ls [.int r]) rfl ?_
  refine lv_aload_n hx hb dL_law_369 rfl (lv_at hl 1 rfl) ?_
  refine l_arg hx hb hX hbl hB hM1.2.2 hl 1 1 rfl (by decide) (by omega) hL dL_law_370 dL_law_371 dL_law_372 dL_law_373 dL_law_374 ?_
  refine l_call (B1 := B + 160) (n := 7) (As := [.int (xs (k + 1))]) (rest := [.int r]) (v := some (.int r)) (σ' := τ1) S hE hM1.2.1 hM1.2.2 (by omega) (by omega) (ly7 rfl _) rfl lk_L_44 (c_X7_resetCutout l E (B + 160) rfl ey) ⟨rfl, rfl, Nat.le_of_ble_eq_true rfl, Nat.le_of_ble_eq_true rfl⟩ ⟨Nat.le_of_ble_eq_true rfl, Nat.le_of_ble_eq_true rfl⟩ rfl hl.1 rfl (Nat.le_of_ble_eq_true rfl) dL_law_375 (fun H1 locs1 h1 h2 h3 => ?_)
  have hM2 := lS_y hM1 h1 h2 h3
  refine W.eq (g2 := F0 m 378 ls [.int r, .int r]) rfl ?_
  exact lv_icmp_eq (tgt := 735) hx hb dL_law_378 (by decide) (fun _ => kk _ _ _ _ hG1 hM2) (fun z => absurd rfl z)
theorem law_7 (S : CallFix p m c cL_law 4 s #[.ref b] (x0 :: AL) RL) (hE : Ev E (iA B) s s.heap) (hX : va_X b L xs s s.heap) (hbl : b < s.heap.size) (hB : B = s.heap.size) (hM : lS E B s σ τ H locs) (hG : GG σ τ) (hl : lv_has ls 4 [(3, .int (nI k)), (2, .ref (B + 160)), (1, .ref B), (0, .ref b)]) (hk : k + 5 ≤ L) (hL : L ≤ 2560)
    (kk : ∀ (σ' τ' : xM) (H1 : Heap) (locs1 : List Loc), GG σ' τ' → lS E B s σ' τ' H1 locs1 → W p l e room_1 s m #[.ref b] below meth c H1 locs1 167 3613 Q (F0 m 735 ls [])) : W p l e room_1 s m #[.ref b] below meth c H locs 167 3613 Q (F0 m 383 ls []) := by
  have hx := S.1
  have hb := S.2.1
  obtain ⟨r, σ1, τ1, ex, ey, hG1⟩ : ∃ (r : Int32) (σ' τ' : xM), F_X6_room 0 (xs (k + 1)) (xs (k + 2)) σ = some (r, σ') ∧ F_X7_room 0 (xs (k + 1)) (xs (k + 2)) τ = some (r, τ') ∧ GG σ' τ' := op_room σ τ hG
  refine lv_aload_n hx hb dL_law_383 rfl (lv_at hl 2 rfl) ?_
  refine l_arg hx hb hX hbl hB hM.2.2 hl 1 1 rfl (by decide) (by omega) hL dL_law_384 dL_law_385 dL_law_386 dL_law_387 dL_law_388 ?_
  refine l_arg hx hb hX hbl hB hM.2.2 hl 2 2 rfl (by decide) (by omega) hL dL_law_389 dL_law_390 dL_law_391 dL_law_392 dL_law_393 ?_
  refine l_call (B1 := B) (n := 160) (As := [.int (xs (k + 1)), .int (xs (k + 2))]) (rest := []) (v := some (.int r)) (σ' := σ1) S hE hM.1 hM.2.2 (Nat.le_refl B) (by omega) (ly6 rfl _) rfl lk_L_45 (c_X6_room l E B rfl ex) ⟨rfl, rfl, Nat.le_of_ble_eq_true rfl, Nat.le_of_ble_eq_true rfl⟩ ⟨Nat.le_of_ble_eq_true rfl, Nat.le_of_ble_eq_true rfl⟩ rfl hl.1 rfl (Nat.le_of_ble_eq_true rfl) dL_law_394 (fun H1 locs1 h1 h2 h3 => ?_)
  have hM1 := lS_x hM h1 h2 h3
  clear h1 h2 h3 hM
  refine W.eq (g2 := F0 m 397 ls [.int r]) rfl ?_
  refine lv_aload_n hx hb dL_law_397 rfl (lv_at hl 1 rfl) ?_
  refine l_arg hx hb hX hbl hB hM1.2.2 hl 1 1 rfl (by decide) (by omega) hL dL_law_398 dL_law_399 dL_law_400 dL_law_401 dL_law_402 ?_
  refine l_arg hx hb hX hbl hB hM1.2.2 hl 2 2 rfl (by decide) (by omega) hL dL_law_403 dL_law_404 dL_law_405 dL_law_406 dL_law_407 ?_
  refine l_call (B1 := B + 160) (n := 7) (As := [.int (xs (k + 1)), .int (xs (k + 2))]) (rest := [.int r]) (v := some (.int r)) (σ' := τ1) S hE hM1.2.1 hM1.2.2 (by omega) (by omega) (ly7 rfl _) rfl lk_L_48 (c_X7_room l E (B + 160) rfl ey) ⟨rfl, rfl, Nat.le_of_ble_eq_true rfl, Nat.le_of_ble_eq_true rfl⟩ ⟨Nat.le_of_ble_eq_true rfl, Nat.le_of_ble_eq_true rfl⟩ rfl hl.1 rfl (Nat.le_of_ble_eq_true rfl) dL_law_408 (fun H1 locs1 h1 h2 h3 => ?_)
  have hM2 := lS_y hM1 h1 h2 h3
  refine W.eq (g2 := F0 m 411 ls [.int r, .int r]) rfl ?_
  exact lv_icmp_eq (tgt := 735) hx hb dL_law_411 (by decide) (fun _ => kk _ _ _ _ hG1 hM2) (fun z => absurd rfl z)
theorem law_8 (S : CallFix p m c cL_law 4 s #[.ref b] (x0 :: AL) RL) (hE : Ev E (iA B) s s.heap) (hX : va_X b L xs s s.heap) (hbl : b < s.heap.size) (hB : B = s.heap.size) (hM : lS E B s σ τ H locs) (hG : GG σ τ) (hl : lv_has ls 4 [(3, .int (nI k)), (2, .ref (B + 160)), (1, .ref B), (0, .ref b)]) (hk : k + 5 ≤ L) (hL : L ≤ 2560)
    (kk : ∀ (σ' τ' : xM) (H1 : Heap) (locs1 : List Loc), GG σ' τ' → lS E B s σ' τ' H1 locs1 → W p l e room_1 s m #[.ref b] below meth c H1 locs1 167 3613 Q (F0 m 735 ls [])) : W p l e room_1 s m #[.ref b] below meth c H locs 167 3613 Q (F0 m 416 ls []) := by
  have hx := S.1
  have hb := S.2.1
  obtain ⟨r, σ1, τ1, ex, ey, hG1⟩ : ∃ (r : Int32) (σ' τ' : xM), F_X6_book 0 (xs (k + 1)) (xs (k + 2)) σ = some (r, σ') ∧ F_X7_book 0 (xs (k + 1)) (xs (k + 2)) τ = some (r, τ') ∧ GG σ' τ' := op_book σ τ hG
  refine lv_aload_n hx hb dL_law_416 rfl (lv_at hl 2 rfl) ?_
  refine l_arg hx hb hX hbl hB hM.2.2 hl 1 1 rfl (by decide) (by omega) hL dL_law_417 dL_law_418 dL_law_419 dL_law_420 dL_law_421 ?_
  refine l_arg hx hb hX hbl hB hM.2.2 hl 2 2 rfl (by decide) (by omega) hL dL_law_422 dL_law_423 dL_law_424 dL_law_425 dL_law_426 ?_
  refine l_call (B1 := B) (n := 160) (As := [.int (xs (k + 1)), .int (xs (k + 2))]) (rest := []) (v := some (.int r)) (σ' := σ1) S hE hM.1 hM.2.2 (Nat.le_refl B) (by omega) (ly6 rfl _) rfl lk_L_49 (c_X6_book l E B rfl ex) ⟨rfl, rfl, Nat.le_of_ble_eq_true rfl, Nat.le_of_ble_eq_true rfl⟩ ⟨Nat.le_of_ble_eq_true rfl, Nat.le_of_ble_eq_true rfl⟩ rfl hl.1 rfl (Nat.le_of_ble_eq_true rfl) dL_law_427 (fun H1 locs1 h1 h2 h3 => ?_)
  have hM1 := lS_x hM h1 h2 h3
  clear h1 h2 h3 hM
  refine W.eq (g2 := F0 m 430 ls [.int r]) rfl ?_
  refine lv_aload_n hx hb dL_law_430 rfl (lv_at hl 1 rfl) ?_
  refine l_arg hx hb hX hbl hB hM1.2.2 hl 1 1 rfl (by decide) (by omega) hL dL_law_431 dL_law_432 dL_law_433 dL_law_434 dL_law_435 ?_
  refine l_arg hx hb hX hbl hB hM1.2.2 hl 2 2 rfl (by decide) (by omega) hL dL_law_436 dL_law_437 dL_law_438 dL_law_439 dL_law_440 ?_
  refine l_call (B1 := B + 160) (n := 7) (As := [.int (xs (k + 1)), .int (xs (k + 2))]) (rest := [.int r]) (v := some (.int r)) (σ' := τ1) S hE hM1.2.1 hM1.2.2 (by omega) (by omega) (ly7 rfl _) rfl lk_L_52 (c_X7_book l E (B + 160) rfl ey) ⟨rfl, rfl, Nat.le_of_ble_eq_true rfl, Nat.le_of_ble_eq_true rfl⟩ ⟨Nat.le_of_ble_eq_true rfl, Nat.le_of_ble_eq_true rfl⟩ rfl hl.1 rfl (Nat.le_of_ble_eq_true rfl) dL_law_441 (fun H1 locs1 h1 h2 h3 => ?_)
  have hM2 := lS_y hM1 h1 h2 h3
  refine W.eq (g2 := F0 m 444 ls [.int r, .int r]) rfl ?_
  exact lv_icmp_eq (tgt := 735) hx hb dL_law_444 (by decide) (fun _ => kk _ _ _ _ hG1 hM2) (fun z => absurd rfl z)
theorem law_9 (S : CallFix p m c cL_law 4 s #[.ref b] (x0 :: AL) RL) (hE : Ev E (iA B) s s.heap) (hX : va_X b L xs s s.heap) (hbl : b < s.heap.size) (hB : B = s.heap.size) (hM : lS E B s σ τ H locs) (hG : GG σ τ) (hl : lv_has ls 4 [(3, .int (nI k)), (2, .ref (B + 160)), (1, .ref B), (0, .ref b)]) (hk : k + 5 ≤ L) (hL : L ≤ 2560)
    (kk : ∀ (σ' τ' : xM) (H1 : Heap) (locs1 : List Loc), GG σ' τ' → lS E B s σ' τ' H1 locs1 → W p l e room_1 s m #[.ref b] below meth c H1 locs1 167 3613 Q (F0 m 735 ls [])) : W p l e room_1 s m #[.ref b] below meth c H locs 167 3613 Q (F0 m 449 ls []) := by
  have hx := S.1
  have hb := S.2.1
  obtain ⟨r, σ1, τ1, ex, ey, hG1⟩ : ∃ (r : Int32) (σ' τ' : xM), F_X6_link 0 (xs (k + 1)) (xs (k + 2)) σ = some (r, σ') ∧ F_X7_link 0 (xs (k + 1)) (xs (k + 2)) τ = some (r, τ') ∧ GG σ' τ' := op_link σ τ hG
  refine lv_aload_n hx hb dL_law_449 rfl (lv_at hl 2 rfl) ?_
  refine l_arg hx hb hX hbl hB hM.2.2 hl 1 1 rfl (by decide) (by omega) hL dL_law_450 dL_law_451 dL_law_452 dL_law_453 dL_law_454 ?_
  refine l_arg hx hb hX hbl hB hM.2.2 hl 2 2 rfl (by decide) (by omega) hL dL_law_455 dL_law_456 dL_law_457 dL_law_458 dL_law_459 ?_
  refine l_call (B1 := B) (n := 160) (As := [.int (xs (k + 1)), .int (xs (k + 2))]) (rest := []) (v := some (.int r)) (σ' := σ1) S hE hM.1 hM.2.2 (Nat.le_refl B) (by omega) (ly6 rfl _) rfl lk_L_53 (c_X6_link l E B rfl ex) ⟨rfl, rfl, Nat.le_of_ble_eq_true rfl, Nat.le_of_ble_eq_true rfl⟩ ⟨Nat.le_of_ble_eq_true rfl, Nat.le_of_ble_eq_true rfl⟩ rfl hl.1 rfl (Nat.le_of_ble_eq_true rfl) dL_law_460 (fun H1 locs1 h1 h2 h3 => ?_)
  have hM1 := lS_x hM h1 h2 h3
  clear h1 h2 h3 hM
  refine W.eq (g2 := F0 m 463 ls [.int r]) rfl ?_
  refine lv_aload_n hx hb dL_law_463 rfl (lv_at hl 1 rfl) ?_
  refine l_arg hx hb hX hbl hB hM1.2.2 hl 1 1 rfl (by decide) (by omega) hL dL_law_464 dL_law_465 dL_law_466 dL_law_467 dL_law_468 ?_
  refine l_arg hx hb hX hbl hB hM1.2.2 hl 2 2 rfl (by decide) (by omega) hL dL_law_469 dL_law_470 dL_law_471 dL_law_472 dL_law_473 ?_
  refine l_call (B1 := B + 160) (n := 7) (As := [.int (xs (k + 1)), .int (xs (k + 2))]) (rest := [.int r]) (v := some (.int r)) (σ' := τ1) S hE hM1.2.1 hM1.2.2 (by omega) (by omega) (ly7 rfl _) rfl lk_L_56 (c_X7_link l E (B + 160) rfl ey) ⟨rfl, rfl, Nat.le_of_ble_eq_true rfl, Nat.le_of_ble_eq_true rfl⟩ ⟨Nat.le_of_ble_eq_true rfl, Nat.le_of_ble_eq_true rfl⟩ rfl hl.1 rfl (Nat.le_of_ble_eq_true rfl) dL_law_474 (fun H1 locs1 h1 h2 h3 => ?_)
  have hM2 := lS_y hM1 h1 h2 h3
  refine W.eq (g2 := F0 m 477 ls [.int r, .int r]) rfl ?_
  exact lv_icmp_eq (tgt := 735) hx hb dL_law_477 (by decide) (fun _ => kk _ _ _ _ hG1 hM2) (fun z => absurd rfl z)
theorem law_10 (S : CallFix p m c cL_law 4 s #[.ref b] (x0 :: AL) RL) (hE : Ev E (iA B) s s.heap) (hX : va_X b L xs s s.heap) (hbl : b < s.heap.size) (hB : B = s.heap.size) (hM : lS E B s σ τ H locs) (hG : GG σ τ) (hl : lv_has ls 4 [(3, .int (nI k)), (2, .ref (B + 160)), (1, .ref B), (0, .ref b)]) (hk : k + 5 ≤ L) (hL : L ≤ 2560)
    (kk : ∀ (σ' τ' : xM) (H1 : Heap) (locs1 : List Loc), GG σ' τ' → lS E B s σ' τ' H1 locs1 → W p l e room_1 s m #[.ref b] below meth c H1 locs1 167 3613 Q (F0 m 735 ls [])) : W p l e room_1 s m #[.ref b] below meth c H locs 167 3613 Q (F0 m 482 ls []) := by
  have hx := S.1
  have hb := S.2.1
  obtain ⟨r, σ1, τ1, ex, ey, hG1⟩ : ∃ (r : Int32) (σ' τ' : xM), F_X6_count 0 (xs (k + 1)) σ = some (r, σ') ∧ F_X7_count 0 (xs (k + 1)) τ = some (r, τ') ∧ GG σ' τ' := op_count σ τ hG
  refine lv_aload_n hx hb dL_law_482 rfl (lv_at hl 2 rfl) ?_
  refine l_arg hx hb hX hbl hB hM.2.2 hl 1 1 rfl (by decide) (by omega) hL dL_law_483 dL_law_484 dL_law_485 dL_law_486 dL_law_487 ?_
  refine l_call (B1 := B) (n := 160) (As := [.int (xs (k + 1))]) (rest := []) (v := some (.int r)) (σ' := σ1) S hE hM.1 hM.2.2 (Nat.le_refl B) (by omega) (ly6 rfl _) rfl lk_L_57 (c_X6_count l E B rfl ex) ⟨rfl, rfl, Nat.le_of_ble_eq_true rfl, Nat.le_of_ble_eq_true rfl⟩ ⟨Nat.le_of_ble_eq_true rfl, Nat.le_of_ble_eq_true rfl⟩ rfl hl.1 rfl (Nat.le_of_ble_eq_true rfl) dL_law_488 (fun H1 locs1 h1 h2 h3 => ?_)
  have hM1 := lS_x hM h1 h2 h3
  clear h1 h2 h3 hM
  refine W.eq (g2 := F0 m 491 ls [.int r]) rfl ?_
  refine lv_aload_n hx hb dL_law_491 rfl (lv_at hl 1 rfl) ?_
  refine l_arg hx hb hX hbl hB hM1.2.2 hl 1 1 rfl (by decide) (by omega) hL dL_law_492 dL_law_493 dL_law_494 dL_law_495 dL_law_496 ?_
  refine l_call (B1 := B + 160) (n := 7) (As := [.int (xs (k + 1))]) (rest := [.int r]) (v := some (.int r)) (σ' := τ1) S hE hM1.2.1 hM1.2.2 (by omega) (by omega) (ly7 rfl _) rfl lk_L_60 (c_X7_count l E (B + 160) rfl ey) ⟨rfl, rfl, Nat.le_of_ble_eq_true rfl, Nat.le_of_ble_eq_true rfl⟩ ⟨Nat.le_of_ble_eq_true rfl, Nat.le_of_ble_eq_true rfl⟩ rfl hl.1 rfl (Nat.le_of_ble_eq_true rfl) dL_law_497 (fun H1 locs1 h1 h2 h3 => ?_)
  have hM2 := lS_y hM1 h1 h2 h3
  refine W.eq (g2 := F0 m 500 ls [.int r, .int r]) rfl ?_
  exact lv_icmp_eq (tgt := 735) hx hb dL_law_500 (by decide) (fun _ => kk _ _ _ _ hG1 hM2) (fun z => absurd rfl z)
theorem law_11 (S : CallFix p m c cL_law 4 s #[.ref b] (x0 :: AL) RL) (hE : Ev E (iA B) s s.heap) (hX : va_X b L xs s s.heap) (hbl : b < s.heap.size) (hB : B = s.heap.size) (hM : lS E B s σ τ H locs) (hG : GG σ τ) (hl : lv_has ls 4 [(3, .int (nI k)), (2, .ref (B + 160)), (1, .ref B), (0, .ref b)]) (hk : k + 5 ≤ L) (hL : L ≤ 2560)
    (kk : ∀ (σ' τ' : xM) (H1 : Heap) (locs1 : List Loc), GG σ' τ' → lS E B s σ' τ' H1 locs1 → W p l e room_1 s m #[.ref b] below meth c H1 locs1 167 3613 Q (F0 m 735 ls [])) : W p l e room_1 s m #[.ref b] below meth c H locs 167 3613 Q (F0 m 505 ls []) := by
  have hx := S.1
  have hb := S.2.1
  obtain ⟨r, σ1, τ1, ex, ey, hG1⟩ : ∃ (r : Int32) (σ' τ' : xM), F_X6_appendCharacter 0 (xs (k + 1)) σ = some (r, σ') ∧ F_X7_appendCharacter 0 (xs (k + 1)) τ = some (r, τ') ∧ GG σ' τ' := op_appendCharacter σ τ hG
  refine lv_aload_n hx hb dL_law_505 rfl (lv_at hl 2 rfl) ?_
  refine l_arg hx hb hX hbl hB hM.2.2 hl 1 1 rfl (by decide) (by omega) hL dL_law_506 dL_law_507 dL_law_508 dL_law_509 dL_law_510 ?_
  refine l_call (B1 := B) (n := 160) (As := [.int (xs (k + 1))]) (rest := []) (v := some (.int r)) (σ' := σ1) S hE hM.1 hM.2.2 (Nat.le_refl B) (by omega) (ly6 rfl _) rfl lk_L_61 (c_X6_appendCharacter l E B rfl ex) ⟨rfl, rfl, Nat.le_of_ble_eq_true rfl, Nat.le_of_ble_eq_true rfl⟩ ⟨Nat.le_of_ble_eq_true rfl, Nat.le_of_ble_eq_true rfl⟩ rfl hl.1 rfl (Nat.le_of_ble_eq_true rfl) dL_law_511 (fun H1 locs1 h1 h2 h3 => ?_)
  have hM1 := lS_x hM h1 h2 h3
  clear h1 h2 h3 hM
  refine W.eq (g2 := F0 m 514 ls [.int r]) rfl ?_
  refine lv_aload_n hx hb dL_law_514 rfl (lv_at hl 1 rfl) ?_
  refine l_arg hx hb hX hbl hB hM1.2.2 hl 1 1 rfl (by decide) (by omega) hL dL_law_515 dL_law_516 dL_law_517 dL_law_518 dL_law_519 ?_
  refine l_call (B1 := B + 160) (n := 7) (As := [.int (xs (k + 1))]) (rest := [.int r]) (v := some (.int r)) (σ' := τ1) S hE hM1.2.1 hM1.2.2 (by omega) (by omega) (ly7 rfl _) rfl lk_L_64 (c_X7_appendCharacter l E (B + 160) rfl ey) ⟨rfl, rfl, Nat.le_of_ble_eq_true rfl, Nat.le_of_ble_eq_true rfl⟩ ⟨Nat.le_of_ble_eq_true rfl, Nat.le_of_ble_eq_true rfl⟩ rfl hl.1 rfl (Nat.le_of_ble_eq_true rfl) dL_law_520 (fun H1 locs1 h1 h2 h3 => ?_)
  have hM2 := lS_y hM1 h1 h2 h3
  refine W.eq (g2 := F0 m 523 ls [.int r, .int r]) rfl ?_
  exact lv_icmp_eq (tgt := 735) hx hb dL_law_523 (by decide) (fun _ => kk _ _ _ _ hG1 hM2) (fun z => absurd rfl z)
theorem law_12 (S : CallFix p m c cL_law 4 s #[.ref b] (x0 :: AL) RL) (hE : Ev E (iA B) s s.heap) (hX : va_X b L xs s s.heap) (hbl : b < s.heap.size) (hB : B = s.heap.size) (hM : lS E B s σ τ H locs) (hG : GG σ τ) (hl : lv_has ls 4 [(3, .int (nI k)), (2, .ref (B + 160)), (1, .ref B), (0, .ref b)]) (hk : k + 5 ≤ L) (hL : L ≤ 2560)
    (kk : ∀ (σ' τ' : xM) (H1 : Heap) (locs1 : List Loc), GG σ' τ' → lS E B s σ' τ' H1 locs1 → W p l e room_1 s m #[.ref b] below meth c H1 locs1 167 3613 Q (F0 m 735 ls [])) : W p l e room_1 s m #[.ref b] below meth c H locs 167 3613 Q (F0 m 528 ls []) := by
  have hx := S.1
  have hb := S.2.1
  obtain ⟨r, σ1, τ1, ex, ey, hG1⟩ : ∃ (r : Int32) (σ' τ' : xM), F_X6_clearText 0 σ = some (r, σ') ∧ F_X7_clearText 0 τ = some (r, τ') ∧ GG σ' τ' := op_clearText σ τ hG
  refine lv_aload_n hx hb dL_law_528 rfl (lv_at hl 2 rfl) ?_
  refine l_call (B1 := B) (n := 160) (As := []) (rest := []) (v := some (.int r)) (σ' := σ1) S hE hM.1 hM.2.2 (Nat.le_refl B) (by omega) (ly6 rfl _) rfl lk_L_65 (c_X6_clearText l E B rfl ex) ⟨rfl, rfl, Nat.le_of_ble_eq_true rfl, Nat.le_of_ble_eq_true rfl⟩ ⟨Nat.le_of_ble_eq_true rfl, Nat.le_of_ble_eq_true rfl⟩ rfl hl.1 rfl (Nat.le_of_ble_eq_true rfl) dL_law_529 (fun H1 locs1 h1 h2 h3 => ?_)
  have hM1 := lS_x hM h1 h2 h3
  clear h1 h2 h3 hM
  refine W.eq (g2 := F0 m 532 ls [.int r]) rfl ?_
  refine lv_aload_n hx hb dL_law_532 rfl (lv_at hl 1 rfl) ?_
  refine l_call (B1 := B + 160) (n := 7) (As := []) (rest := [.int r]) (v := some (.int r)) (σ' := τ1) S hE hM1.2.1 hM1.2.2 (by omega) (by omega) (ly7 rfl _) rfl lk_L_69 (c_X7_clearText l E (B + 160) rfl ey) ⟨rfl, rfl, Nat.le_of_ble_eq_true rfl, Nat.le_of_ble_eq_true rfl⟩ ⟨Nat.le_of_ble_eq_true rfl, Nat.le_of_ble_eq_true rfl⟩ rfl hl.1 rfl (Nat.le_of_ble_eq_true rfl) dL_law_533 (fun H1 locs1 h1 h2 h3 => ?_)
  have hM2 := lS_y hM1 h1 h2 h3
  refine W.eq (g2 := F0 m 536 ls [.int r, .int r]) rfl ?_
  exact lv_icmp_eq (tgt := 735) hx hb dL_law_536 (by decide) (fun _ => kk _ _ _ _ hG1 hM2) (fun z => absurd rfl z)
theorem law_13 (S : CallFix p m c cL_law 4 s #[.ref b] (x0 :: AL) RL) (hE : Ev E (iA B) s s.heap) (hX : va_X b L xs s s.heap) (hbl : b < s.heap.size) (hB : B = s.heap.size) (hM : lS E B s σ τ H locs) (hG : GG σ τ) (hl : lv_has ls 4 [(3, .int (nI k)), (2, .ref (B + 160)), (1, .ref B), (0, .ref b)]) (hk : k + 5 ≤ L) (hL : L ≤ 2560)
    (kk : ∀ (σ' τ' : xM) (H1 : Heap) (locs1 : List Loc), GG σ' τ' → lS E B s σ' τ' H1 locs1 → W p l e room_1 s m #[.ref b] below meth c H1 locs1 167 3613 Q (F0 m 735 ls [])) : W p l e room_1 s m #[.ref b] below meth c H locs 167 3613 Q (F0 m 541 ls []) := by
  have hx := S.1
  have hb := S.2.1
  obtain ⟨r, σ1, τ1, ex, ey, hG1⟩ : ∃ (r : Int32) (σ' τ' : xM), F_X6_load 0 σ = some (r, σ') ∧ F_X7_load 0 τ = some (r, τ') ∧ GG σ' τ' := op_load σ τ hG
  refine lv_aload_n hx hb dL_law_541 rfl (lv_at hl 2 rfl) ?_
  refine l_call (B1 := B) (n := 160) (As := []) (rest := []) (v := some (.int r)) (σ' := σ1) S hE hM.1 hM.2.2 (Nat.le_refl B) (by omega) (ly6 rfl _) rfl lk_L_70 (c_X6_load l E B rfl ex) ⟨rfl, rfl, Nat.le_of_ble_eq_true rfl, Nat.le_of_ble_eq_true rfl⟩ ⟨Nat.le_of_ble_eq_true rfl, Nat.le_of_ble_eq_true rfl⟩ rfl hl.1 rfl (Nat.le_of_ble_eq_true rfl) dL_law_542 (fun H1 locs1 h1 h2 h3 => ?_)
  have hM1 := lS_x hM h1 h2 h3
  clear h1 h2 h3 hM
  refine W.eq (g2 := F0 m 545 ls [.int r]) rfl ?_
  refine lv_aload_n hx hb dL_law_545 rfl (lv_at hl 1 rfl) ?_
  refine l_call (B1 := B + 160) (n := 7) (As := []) (rest := [.int r]) (v := some (.int r)) (σ' := τ1) S hE hM1.2.1 hM1.2.2 (by omega) (by omega) (ly7 rfl _) rfl lk_L_73 (c_X7_load l E (B + 160) rfl ey) ⟨rfl, rfl, Nat.le_of_ble_eq_true rfl, Nat.le_of_ble_eq_true rfl⟩ ⟨Nat.le_of_ble_eq_true rfl, Nat.le_of_ble_eq_true rfl⟩ rfl hl.1 rfl (Nat.le_of_ble_eq_true rfl) dL_law_546 (fun H1 locs1 h1 h2 h3 => ?_)
  have hM2 := lS_y hM1 h1 h2 h3
  refine W.eq (g2 := F0 m 549 ls [.int r, .int r]) rfl ?_
  exact lv_icmp_eq (tgt := 735) hx hb dL_law_549 (by decide) (fun _ => kk _ _ _ _ hG1 hM2) (fun z => absurd rfl z)
theorem law_14 (S : CallFix p m c cL_law 4 s #[.ref b] (x0 :: AL) RL) (hE : Ev E (iA B) s s.heap) (hX : va_X b L xs s s.heap) (hbl : b < s.heap.size) (hB : B = s.heap.size) (hM : lS E B s σ τ H locs) (hG : GG σ τ) (hl : lv_has ls 4 [(3, .int (nI k)), (2, .ref (B + 160)), (1, .ref B), (0, .ref b)]) (hk : k + 5 ≤ L) (hL : L ≤ 2560)
    (kk : ∀ (σ' τ' : xM) (H1 : Heap) (locs1 : List Loc), GG σ' τ' → lS E B s σ' τ' H1 locs1 → W p l e room_1 s m #[.ref b] below meth c H1 locs1 167 3613 Q (F0 m 735 ls [])) : W p l e room_1 s m #[.ref b] below meth c H locs 167 3613 Q (F0 m 554 ls []) := by
  have hx := S.1
  have hb := S.2.1
  obtain ⟨r, σ1, τ1, ex, ey, hG1⟩ : ∃ (r : Int32) (σ' τ' : xM), F_X6_outside 0 (xs (k + 1)) σ = some (r, σ') ∧ F_X7_outside 0 (xs (k + 1)) τ = some (r, τ') ∧ GG σ' τ' := op_outside σ τ hG
  refine lv_aload_n hx hb dL_law_554 rfl (lv_at hl 2 rfl) ?_
  refine l_arg hx hb hX hbl hB hM.2.2 hl 1 1 rfl (by decide) (by omega) hL dL_law_555 dL_law_556 dL_law_557 dL_law_558 dL_law_559 ?_
  refine l_call (B1 := B) (n := 160) (As := [.int (xs (k + 1))]) (rest := []) (v := some (.int r)) (σ' := σ1) S hE hM.1 hM.2.2 (Nat.le_refl B) (by omega) (ly6 rfl _) rfl lk_L_74 (c_X6_outside l E B rfl ex) ⟨rfl, rfl, Nat.le_of_ble_eq_true rfl, Nat.le_of_ble_eq_true rfl⟩ ⟨Nat.le_of_ble_eq_true rfl, Nat.le_of_ble_eq_true rfl⟩ rfl hl.1 rfl (Nat.le_of_ble_eq_true rfl) dL_law_560 (fun H1 locs1 h1 h2 h3 => ?_)
  have hM1 := lS_x hM h1 h2 h3
  clear h1 h2 h3 hM
  refine W.eq (g2 := F0 m 563 ls [.int r]) rfl ?_
  refine lv_aload_n hx hb dL_law_563 rfl (lv_at hl 1 rfl) ?_
  refine l_arg hx hb hX hbl hB hM1.2.2 hl 1 1 rfl (by decide) (by omega) hL dL_law_564 dL_law_565 dL_law_566 dL_law_567 dL_law_568 ?_
  refine l_call (B1 := B + 160) (n := 7) (As := [.int (xs (k + 1))]) (rest := [.int r]) (v := some (.int r)) (σ' := τ1) S hE hM1.2.1 hM1.2.2 (by omega) (by omega) (ly7 rfl _) rfl lk_L_77 (c_X7_outside l E (B + 160) rfl ey) ⟨rfl, rfl, Nat.le_of_ble_eq_true rfl, Nat.le_of_ble_eq_true rfl⟩ ⟨Nat.le_of_ble_eq_true rfl, Nat.le_of_ble_eq_true rfl⟩ rfl hl.1 rfl (Nat.le_of_ble_eq_true rfl) dL_law_569 (fun H1 locs1 h1 h2 h3 => ?_)
  have hM2 := lS_y hM1 h1 h2 h3
  refine W.eq (g2 := F0 m 572 ls [.int r, .int r]) rfl ?_
  exact lv_icmp_eq (tgt := 735) hx hb dL_law_572 (by decide) (fun _ => kk _ _ _ _ hG1 hM2) (fun z => absurd rfl z)
theorem law_15 (S : CallFix p m c cL_law 4 s #[.ref b] (x0 :: AL) RL) (hE : Ev E (iA B) s s.heap) (hX : va_X b L xs s s.heap) (hbl : b < s.heap.size) (hB : B = s.heap.size) (hM : lS E B s σ τ H locs) (hG : GG σ τ) (hl : lv_has ls 4 [(3, .int (nI k)), (2, .ref (B + 160)), (1, .ref B), (0, .ref b)]) (hk : k + 5 ≤ L) (hL : L ≤ 2560)
    (kk : ∀ (σ' τ' : xM) (H1 : Heap) (locs1 : List Loc), GG σ' τ' → lS E B s σ' τ' H1 locs1 → W p l e room_1 s m #[.ref b] below meth c H1 locs1 167 3613 Q (F0 m 735 ls [])) : W p l e room_1 s m #[.ref b] below meth c H locs 167 3613 Q (F0 m 577 ls []) := by
  have hx := S.1
  have hb := S.2.1
  obtain ⟨r, σ1, τ1, ex, ey, hG1⟩ : ∃ (r : Int32) (σ' τ' : xM), F_X6_pass 0 (xs (k + 1)) σ = some (r, σ') ∧ F_X7_pass 0 (xs (k + 1)) τ = some (r, τ') ∧ GG σ' τ' := op_pass σ τ hG
  refine lv_aload_n hx hb dL_law_577 rfl (lv_at hl 2 rfl) ?_
  refine l_arg hx hb hX hbl hB hM.2.2 hl 1 1 rfl (by decide) (by omega) hL dL_law_578 dL_law_579 dL_law_580 dL_law_581 dL_law_582 ?_
  refine l_call (B1 := B) (n := 160) (As := [.int (xs (k + 1))]) (rest := []) (v := some (.int r)) (σ' := σ1) S hE hM.1 hM.2.2 (Nat.le_refl B) (by omega) (ly6 rfl _) rfl lk_L_78 (c_X6_pass l E B rfl ex) ⟨rfl, rfl, Nat.le_of_ble_eq_true rfl, Nat.le_of_ble_eq_true rfl⟩ ⟨Nat.le_of_ble_eq_true rfl, Nat.le_of_ble_eq_true rfl⟩ rfl hl.1 rfl (Nat.le_of_ble_eq_true rfl) dL_law_583 (fun H1 locs1 h1 h2 h3 => ?_)
  have hM1 := lS_x hM h1 h2 h3
  clear h1 h2 h3 hM
  refine W.eq (g2 := F0 m 586 ls [.int r]) rfl ?_
  refine lv_aload_n hx hb dL_law_586 rfl (lv_at hl 1 rfl) ?_
  refine l_arg hx hb hX hbl hB hM1.2.2 hl 1 1 rfl (by decide) (by omega) hL dL_law_587 dL_law_588 dL_law_589 dL_law_590 dL_law_591 ?_
  refine l_call (B1 := B + 160) (n := 7) (As := [.int (xs (k + 1))]) (rest := [.int r]) (v := some (.int r)) (σ' := τ1) S hE hM1.2.1 hM1.2.2 (by omega) (by omega) (ly7 rfl _) rfl lk_L_81 (c_X7_pass l E (B + 160) rfl ey) ⟨rfl, rfl, Nat.le_of_ble_eq_true rfl, Nat.le_of_ble_eq_true rfl⟩ ⟨Nat.le_of_ble_eq_true rfl, Nat.le_of_ble_eq_true rfl⟩ rfl hl.1 rfl (Nat.le_of_ble_eq_true rfl) dL_law_592 (fun H1 locs1 h1 h2 h3 => ?_)
  have hM2 := lS_y hM1 h1 h2 h3
  refine W.eq (g2 := F0 m 595 ls [.int r, .int r]) rfl ?_
  exact lv_icmp_eq (tgt := 735) hx hb dL_law_595 (by decide) (fun _ => kk _ _ _ _ hG1 hM2) (fun z => absurd rfl z)
theorem law_16 (S : CallFix p m c cL_law 4 s #[.ref b] (x0 :: AL) RL) (hE : Ev E (iA B) s s.heap) (hX : va_X b L xs s s.heap) (hbl : b < s.heap.size) (hB : B = s.heap.size) (hM : lS E B s σ τ H locs) (hG : GG σ τ) (hl : lv_has ls 4 [(3, .int (nI k)), (2, .ref (B + 160)), (1, .ref B), (0, .ref b)]) (hk : k + 5 ≤ L) (hL : L ≤ 2560)
    (kk : ∀ (σ' τ' : xM) (H1 : Heap) (locs1 : List Loc), GG σ' τ' → lS E B s σ' τ' H1 locs1 → W p l e room_1 s m #[.ref b] below meth c H1 locs1 167 3613 Q (F0 m 735 ls [])) : W p l e room_1 s m #[.ref b] below meth c H locs 167 3613 Q (F0 m 600 ls []) := by
  have hx := S.1
  have hb := S.2.1
  obtain ⟨r, σ1, τ1, ex, ey, hG1⟩ : ∃ (r : Int32) (σ' τ' : xM), F_X6_minutesToSuspect 0 (xs (k + 1)) σ = some (r, σ') ∧ F_X7_minutesToSuspect 0 (xs (k + 1)) τ = some (r, τ') ∧ GG σ' τ' := op_minutesToSuspect σ τ hG
  refine lv_aload_n hx hb dL_law_600 rfl (lv_at hl 2 rfl) ?_
  refine l_arg hx hb hX hbl hB hM.2.2 hl 1 1 rfl (by decide) (by omega) hL dL_law_601 dL_law_602 dL_law_603 dL_law_604 dL_law_605 ?_
  refine l_call (B1 := B) (n := 160) (As := [.int (xs (k + 1))]) (rest := []) (v := some (.int r)) (σ' := σ1) S hE hM.1 hM.2.2 (Nat.le_refl B) (by omega) (ly6 rfl _) rfl lk_L_82 (c_X6_minutesToSuspect l E B rfl ex) ⟨rfl, rfl, Nat.le_of_ble_eq_true rfl, Nat.le_of_ble_eq_true rfl⟩ ⟨Nat.le_of_ble_eq_true rfl, Nat.le_of_ble_eq_true rfl⟩ rfl hl.1 rfl (Nat.le_of_ble_eq_true rfl) dL_law_606 (fun H1 locs1 h1 h2 h3 => ?_)
  have hM1 := lS_x hM h1 h2 h3
  clear h1 h2 h3 hM
  refine W.eq (g2 := F0 m 609 ls [.int r]) rfl ?_
  refine lv_aload_n hx hb dL_law_609 rfl (lv_at hl 1 rfl) ?_
  refine l_arg hx hb hX hbl hB hM1.2.2 hl 1 1 rfl (by decide) (by omega) hL dL_law_610 dL_law_611 dL_law_612 dL_law_613 dL_law_614 ?_
  refine l_call (B1 := B + 160) (n := 7) (As := [.int (xs (k + 1))]) (rest := [.int r]) (v := some (.int r)) (σ' := τ1) S hE hM1.2.1 hM1.2.2 (by omega) (by omega) (ly7 rfl _) rfl lk_L_85 (c_X7_minutesToSuspect l E (B + 160) rfl ey) ⟨rfl, rfl, Nat.le_of_ble_eq_true rfl, Nat.le_of_ble_eq_true rfl⟩ ⟨Nat.le_of_ble_eq_true rfl, Nat.le_of_ble_eq_true rfl⟩ rfl hl.1 rfl (Nat.le_of_ble_eq_true rfl) dL_law_615 (fun H1 locs1 h1 h2 h3 => ?_)
  have hM2 := lS_y hM1 h1 h2 h3
  refine W.eq (g2 := F0 m 618 ls [.int r, .int r]) rfl ?_
  exact lv_icmp_eq (tgt := 735) hx hb dL_law_618 (by decide) (fun _ => kk _ _ _ _ hG1 hM2) (fun z => absurd rfl z)
theorem law_17 (S : CallFix p m c cL_law 4 s #[.ref b] (x0 :: AL) RL) (hE : Ev E (iA B) s s.heap) (hX : va_X b L xs s s.heap) (hbl : b < s.heap.size) (hB : B = s.heap.size) (hM : lS E B s σ τ H locs) (hG : GG σ τ) (hl : lv_has ls 4 [(3, .int (nI k)), (2, .ref (B + 160)), (1, .ref B), (0, .ref b)]) (hk : k + 5 ≤ L) (hL : L ≤ 2560)
    (kk : ∀ (σ' τ' : xM) (H1 : Heap) (locs1 : List Loc), GG σ' τ' → lS E B s σ' τ' H1 locs1 → W p l e room_1 s m #[.ref b] below meth c H1 locs1 167 3613 Q (F0 m 735 ls [])) : W p l e room_1 s m #[.ref b] below meth c H locs 167 3613 Q (F0 m 623 ls []) := by
  have hx := S.1
  have hb := S.2.1
  obtain ⟨r, σ1, τ1, ex, ey, hG1⟩ : ∃ (r : Int32) (σ' τ' : xM), F_X6_heatIn 0 (xs (k + 1)) σ = some (r, σ') ∧ F_X7_heatIn 0 (xs (k + 1)) τ = some (r, τ') ∧ GG σ' τ' := op_heatIn σ τ hG
  refine lv_aload_n hx hb dL_law_623 rfl (lv_at hl 2 rfl) ?_
  refine l_arg hx hb hX hbl hB hM.2.2 hl 1 1 rfl (by decide) (by omega) hL dL_law_624 dL_law_625 dL_law_626 dL_law_627 dL_law_628 ?_
  refine l_call (B1 := B) (n := 160) (As := [.int (xs (k + 1))]) (rest := []) (v := some (.int r)) (σ' := σ1) S hE hM.1 hM.2.2 (Nat.le_refl B) (by omega) (ly6 rfl _) rfl lk_L_86 (c_X6_heatIn l E B rfl ex) ⟨rfl, rfl, Nat.le_of_ble_eq_true rfl, Nat.le_of_ble_eq_true rfl⟩ ⟨Nat.le_of_ble_eq_true rfl, Nat.le_of_ble_eq_true rfl⟩ rfl hl.1 rfl (Nat.le_of_ble_eq_true rfl) dL_law_629 (fun H1 locs1 h1 h2 h3 => ?_)
  have hM1 := lS_x hM h1 h2 h3
  clear h1 h2 h3 hM
  refine W.eq (g2 := F0 m 632 ls [.int r]) rfl ?_
  refine lv_aload_n hx hb dL_law_632 rfl (lv_at hl 1 rfl) ?_
  refine l_arg hx hb hX hbl hB hM1.2.2 hl 1 1 rfl (by decide) (by omega) hL dL_law_633 dL_law_634 dL_law_635 dL_law_636 dL_law_637 ?_
  refine l_call (B1 := B + 160) (n := 7) (As := [.int (xs (k + 1))]) (rest := [.int r]) (v := some (.int r)) (σ' := τ1) S hE hM1.2.1 hM1.2.2 (by omega) (by omega) (ly7 rfl _) rfl lk_L_89 (c_X7_heatIn l E (B + 160) rfl ey) ⟨rfl, rfl, Nat.le_of_ble_eq_true rfl, Nat.le_of_ble_eq_true rfl⟩ ⟨Nat.le_of_ble_eq_true rfl, Nat.le_of_ble_eq_true rfl⟩ rfl hl.1 rfl (Nat.le_of_ble_eq_true rfl) dL_law_638 (fun H1 locs1 h1 h2 h3 => ?_)
  have hM2 := lS_y hM1 h1 h2 h3
  refine W.eq (g2 := F0 m 641 ls [.int r, .int r]) rfl ?_
  exact lv_icmp_eq (tgt := 735) hx hb dL_law_641 (by decide) (fun _ => kk _ _ _ _ hG1 hM2) (fun z => absurd rfl z)
theorem law_18 (S : CallFix p m c cL_law 4 s #[.ref b] (x0 :: AL) RL) (hE : Ev E (iA B) s s.heap) (hX : va_X b L xs s s.heap) (hbl : b < s.heap.size) (hB : B = s.heap.size) (hM : lS E B s σ τ H locs) (hG : GG σ τ) (hl : lv_has ls 4 [(3, .int (nI k)), (2, .ref (B + 160)), (1, .ref B), (0, .ref b)]) (hk : k + 5 ≤ L) (hL : L ≤ 2560)
    (kk : ∀ (σ' τ' : xM) (H1 : Heap) (locs1 : List Loc), GG σ' τ' → lS E B s σ' τ' H1 locs1 → W p l e room_1 s m #[.ref b] below meth c H1 locs1 167 3613 Q (F0 m 735 ls [])) : W p l e room_1 s m #[.ref b] below meth c H locs 167 3613 Q (F0 m 646 ls []) := by
  have hx := S.1
  have hb := S.2.1
  obtain ⟨r, σ1, τ1, ex, ey, hG1⟩ : ∃ (r : Int32) (σ' τ' : xM), F_X6_finesWith 0 (xs (k + 1)) (xs (k + 2)) (xs (k + 3)) σ = some (r, σ') ∧ F_X7_finesWith 0 (xs (k + 1)) (xs (k + 2)) (xs (k + 3)) τ = some (r, τ') ∧ GG σ' τ' := op_finesWith σ τ hG
  refine lv_aload_n hx hb dL_law_646 rfl (lv_at hl 2 rfl) ?_
  refine l_arg hx hb hX hbl hB hM.2.2 hl 1 1 rfl (by decide) (by omega) hL dL_law_647 dL_law_648 dL_law_649 dL_law_650 dL_law_651 ?_
  refine l_arg hx hb hX hbl hB hM.2.2 hl 2 2 rfl (by decide) (by omega) hL dL_law_652 dL_law_653 dL_law_654 dL_law_655 dL_law_656 ?_
  refine l_arg hx hb hX hbl hB hM.2.2 hl 3 3 rfl (by decide) (by omega) hL dL_law_657 dL_law_658 dL_law_659 dL_law_660 dL_law_661 ?_
  refine l_call (B1 := B) (n := 160) (As := [.int (xs (k + 1)), .int (xs (k + 2)), .int (xs (k + 3))]) (rest := []) (v := some (.int r)) (σ' := σ1) S hE hM.1 hM.2.2 (Nat.le_refl B) (by omega) (ly6 rfl _) rfl lk_L_90 (c_X6_finesWith l E B rfl ex) ⟨rfl, rfl, Nat.le_of_ble_eq_true rfl, Nat.le_of_ble_eq_true rfl⟩ ⟨Nat.le_of_ble_eq_true rfl, Nat.le_of_ble_eq_true rfl⟩ rfl hl.1 rfl (Nat.le_of_ble_eq_true rfl) dL_law_662 (fun H1 locs1 h1 h2 h3 => ?_)
  have hM1 := lS_x hM h1 h2 h3
  clear h1 h2 h3 hM
  refine W.eq (g2 := F0 m 665 ls [.int r]) rfl ?_
  refine lv_aload_n hx hb dL_law_665 rfl (lv_at hl 1 rfl) ?_
  refine l_arg hx hb hX hbl hB hM1.2.2 hl 1 1 rfl (by decide) (by omega) hL dL_law_666 dL_law_667 dL_law_668 dL_law_669 dL_law_670 ?_
  refine l_arg hx hb hX hbl hB hM1.2.2 hl 2 2 rfl (by decide) (by omega) hL dL_law_671 dL_law_672 dL_law_673 dL_law_674 dL_law_675 ?_
  refine l_arg hx hb hX hbl hB hM1.2.2 hl 3 3 rfl (by decide) (by omega) hL dL_law_676 dL_law_677 dL_law_678 dL_law_679 dL_law_680 ?_
  refine l_call (B1 := B + 160) (n := 7) (As := [.int (xs (k + 1)), .int (xs (k + 2)), .int (xs (k + 3))]) (rest := [.int r]) (v := some (.int r)) (σ' := τ1) S hE hM1.2.1 hM1.2.2 (by omega) (by omega) (ly7 rfl _) rfl lk_L_93 (c_X7_finesWith l E (B + 160) rfl ey) ⟨rfl, rfl, Nat.le_of_ble_eq_true rfl, Nat.le_of_ble_eq_true rfl⟩ ⟨Nat.le_of_ble_eq_true rfl, Nat.le_of_ble_eq_true rfl⟩ rfl hl.1 rfl (Nat.le_of_ble_eq_true rfl) dL_law_681 (fun H1 locs1 h1 h2 h3 => ?_)
  have hM2 := lS_y hM1 h1 h2 h3
  refine W.eq (g2 := F0 m 684 ls [.int r, .int r]) rfl ?_
  exact lv_icmp_eq (tgt := 735) hx hb dL_law_684 (by decide) (fun _ => kk _ _ _ _ hG1 hM2) (fun z => absurd rfl z)
theorem law_19 (S : CallFix p m c cL_law 4 s #[.ref b] (x0 :: AL) RL) (hE : Ev E (iA B) s s.heap) (hX : va_X b L xs s s.heap) (hbl : b < s.heap.size) (hB : B = s.heap.size) (hM : lS E B s σ τ H locs) (hG : GG σ τ) (hl : lv_has ls 4 [(3, .int (nI k)), (2, .ref (B + 160)), (1, .ref B), (0, .ref b)]) (hk : k + 5 ≤ L) (hL : L ≤ 2560)
    (kk : ∀ (σ' τ' : xM) (H1 : Heap) (locs1 : List Loc), GG σ' τ' → lS E B s σ' τ' H1 locs1 → W p l e room_1 s m #[.ref b] below meth c H1 locs1 167 3613 Q (F0 m 735 ls [])) : W p l e room_1 s m #[.ref b] below meth c H locs 167 3613 Q (F0 m 689 ls []) := by
  have hx := S.1
  have hb := S.2.1
  obtain ⟨r, σ1, τ1, ex, ey, hG1⟩ : ∃ (r : Int32) (σ' τ' : xM), F_X6_quietBand 0 (xs (k + 1)) (xs (k + 2)) σ = some (r, σ') ∧ F_X7_quietBand 0 (xs (k + 1)) (xs (k + 2)) τ = some (r, τ') ∧ GG σ' τ' := op_quietBand σ τ hG
  refine lv_aload_n hx hb dL_law_689 rfl (lv_at hl 2 rfl) ?_
  refine l_arg hx hb hX hbl hB hM.2.2 hl 1 1 rfl (by decide) (by omega) hL dL_law_690 dL_law_691 dL_law_692 dL_law_693 dL_law_694 ?_
  refine l_arg hx hb hX hbl hB hM.2.2 hl 2 2 rfl (by decide) (by omega) hL dL_law_695 dL_law_696 dL_law_697 dL_law_698 dL_law_699 ?_
  refine l_call (B1 := B) (n := 160) (As := [.int (xs (k + 1)), .int (xs (k + 2))]) (rest := []) (v := some (.int r)) (σ' := σ1) S hE hM.1 hM.2.2 (Nat.le_refl B) (by omega) (ly6 rfl _) rfl lk_L_94 (c_X6_quietBand l E B rfl ex) ⟨rfl, rfl, Nat.le_of_ble_eq_true rfl, Nat.le_of_ble_eq_true rfl⟩ ⟨Nat.le_of_ble_eq_true rfl, Nat.le_of_ble_eq_true rfl⟩ rfl hl.1 rfl (Nat.le_of_ble_eq_true rfl) dL_law_700 (fun H1 locs1 h1 h2 h3 => ?_)
  have hM1 := lS_x hM h1 h2 h3
  clear h1 h2 h3 hM
  refine W.eq (g2 := F0 m 703 ls [.int r]) rfl ?_
  refine lv_aload_n hx hb dL_law_703 rfl (lv_at hl 1 rfl) ?_
  refine l_arg hx hb hX hbl hB hM1.2.2 hl 1 1 rfl (by decide) (by omega) hL dL_law_704 dL_law_705 dL_law_706 dL_law_707 dL_law_708 ?_
  refine l_arg hx hb hX hbl hB hM1.2.2 hl 2 2 rfl (by decide) (by omega) hL dL_law_709 dL_law_710 dL_law_711 dL_law_712 dL_law_713 ?_
  refine l_call (B1 := B + 160) (n := 7) (As := [.int (xs (k + 1)), .int (xs (k + 2))]) (rest := [.int r]) (v := some (.int r)) (σ' := τ1) S hE hM1.2.1 hM1.2.2 (by omega) (by omega) (ly7 rfl _) rfl lk_L_97 (c_X7_quietBand l E (B + 160) rfl ey) ⟨rfl, rfl, Nat.le_of_ble_eq_true rfl, Nat.le_of_ble_eq_true rfl⟩ ⟨Nat.le_of_ble_eq_true rfl, Nat.le_of_ble_eq_true rfl⟩ rfl hl.1 rfl (Nat.le_of_ble_eq_true rfl) dL_law_714 (fun H1 locs1 h1 h2 h3 => ?_)
  have hM2 := lS_y hM1 h1 h2 h3
  refine W.eq (g2 := F0 m 717 ls [.int r, .int r]) rfl ?_
  exact lv_icmp_eq (tgt := 735) hx hb dL_law_717 (by decide) (fun _ => kk _ _ _ _ hG1 hM2) (fun z => absurd rfl z)
theorem law_20 (S : CallFix p m c cL_law 4 s #[.ref b] (x0 :: AL) RL) (hE : Ev E (iA B) s s.heap) (hX : va_X b L xs s s.heap) (hbl : b < s.heap.size) (hB : B = s.heap.size) (hM : lS E B s σ τ H locs) (hG : GG σ τ) (hl : lv_has ls 4 [(3, .int (nI k)), (2, .ref (B + 160)), (1, .ref B), (0, .ref b)]) (hk : k + 5 ≤ L) (hL : L ≤ 2560)
    (kk : ∀ (σ' τ' : xM) (H1 : Heap) (locs1 : List Loc), GG σ' τ' → lS E B s σ' τ' H1 locs1 → W p l e room_1 s m #[.ref b] below meth c H1 locs1 167 3613 Q (F0 m 735 ls [])) : W p l e room_1 s m #[.ref b] below meth c H locs 167 3613 Q (F0 m 722 ls []) := by
  have hx := S.1
  have hb := S.2.1
  obtain ⟨r, σ1, τ1, ex, ey, hG1⟩ : ∃ (r : Int32) (σ' τ' : xM), F_X6_undo 0 σ = some (r, σ') ∧ F_X7_undo 0 τ = some (r, τ') ∧ GG σ' τ' := op_undo σ τ hG
  refine lv_aload_n hx hb dL_law_722 rfl (lv_at hl 2 rfl) ?_
  refine l_call (B1 := B) (n := 160) (As := []) (rest := []) (v := some (.int r)) (σ' := σ1) S hE hM.1 hM.2.2 (Nat.le_refl B) (by omega) (ly6 rfl _) rfl lk_L_98 (c_X6_undo l E B rfl ex) ⟨rfl, rfl, Nat.le_of_ble_eq_true rfl, Nat.le_of_ble_eq_true rfl⟩ ⟨Nat.le_of_ble_eq_true rfl, Nat.le_of_ble_eq_true rfl⟩ rfl hl.1 rfl (Nat.le_of_ble_eq_true rfl) dL_law_723 (fun H1 locs1 h1 h2 h3 => ?_)
  have hM1 := lS_x hM h1 h2 h3
  clear h1 h2 h3 hM
  refine W.eq (g2 := F0 m 726 ls [.int r]) rfl ?_
  refine lv_aload_n hx hb dL_law_726 rfl (lv_at hl 1 rfl) ?_
  refine l_call (B1 := B + 160) (n := 7) (As := []) (rest := [.int r]) (v := some (.int r)) (σ' := τ1) S hE hM1.2.1 hM1.2.2 (by omega) (by omega) (ly7 rfl _) rfl lk_L_101 (c_X7_undo l E (B + 160) rfl ey) ⟨rfl, rfl, Nat.le_of_ble_eq_true rfl, Nat.le_of_ble_eq_true rfl⟩ ⟨Nat.le_of_ble_eq_true rfl, Nat.le_of_ble_eq_true rfl⟩ rfl hl.1 rfl (Nat.le_of_ble_eq_true rfl) dL_law_727 (fun H1 locs1 h1 h2 h3 => ?_)
  have hM2 := lS_y hM1 h1 h2 h3
  refine W.eq (g2 := F0 m 730 ls [.int r, .int r]) rfl ?_
  exact lv_icmp_eq (tgt := 735) hx hb dL_law_730 (by decide) (fun _ => kk _ _ _ _ hG1 hM2) (fun z => absurd rfl z)
end LAWCASE
