/-! THE LAW'S CASES: a call of both, the answers compared -/
set_option maxHeartbeats 4000000 in
set_option maxRecDepth 100000 in
theorem lc_platform {p : Program} {l : Launch} {e : Env} {s : State} {m : MethodId} {b : Nat} {below : List Frame} {meth : Method} {c : Code} {D : va_G} {tg : Nat → ClassId} {L : Nat} {xs : Nat → Int32} {x y : Nat} {ls : Array Slot} (B : lx_B p s m b meth c D tg L xs) {σ τ : tcS} (hR : tr_R σ τ) {i : Nat} (hi : i + 5 ≤ L) (hl : lv_has ls 4 [(3, .int (nI i)), (2, .ref y), (1, .ref x), (0, .ref b)]) (k : ∀ (σ' τ' : tcS) (H : Heap) (locs : List Loc), tr_R σ' τ' → lx_I D tg s.heap x y (tc_hC σ') (tm_h τ') H locs → W p l e room_1 s m #[Value.ref b] below meth c H locs 41 2254 (lw_Z below #[Value.ref b] s) (F0 m 505 ls [])) {H : Heap} {locs : List Loc} (hI : lx_I D tg s.heap x y (tc_hC σ) (tm_h τ) H locs) : W p l e room_1 s m #[Value.ref b] below meth c H locs 41 2254 (lw_Z below #[Value.ref b] s) (F0 m 100 ls []) := by
  obtain ⟨hx, hb, hml, hown, hts, hK, hN, hr, hlk, hX, hbl, hL⟩ := id B
  obtain ⟨r, σ', τ', dC, dM, h8, h8m, hMC, hMM, hR'⟩ := lp_platform hR (xs (i + 1))
  refine lv_aload_n hx hb dLW_law_100 rfl (lv_at hl 2 rfl) ?_
  refine lx_arg B (pc := 101) (j := 1) hl rfl rfl hI (by omega) (by decide) dLW_law_101 dLW_law_102 dLW_law_103 dLW_law_104 dLW_law_105 ?_
  refine lx_call B (pc := 106) (rest := []) [xs (i + 1)] kLW_13 h8 hMC rfl rfl rfl (Nat.le_of_ble_eq_true rfl) dLW_law_106 hl.1 ⟨Nat.le_refl _, Nat.le_refl _⟩ hI (fun H1 locs1 hI1 => ?_)
  refine lv_aload_n hx hb dLW_law_109 rfl (lv_at hl 1 rfl) ?_
  refine lx_arg B (pc := 110) (j := 1) hl rfl rfl hI1 (by omega) (by decide) dLW_law_110 dLW_law_111 dLW_law_112 dLW_law_113 dLW_law_114 ?_
  refine lx_call B (pc := 115) (x := y) (y := x) (rest := [.int r]) [xs (i + 1)] kLW_17 h8m hMM rfl rfl rfl (Nat.le_of_ble_eq_true rfl) dLW_law_115 hl.1 ⟨Nat.le_refl _, Nat.le_refl _⟩ hI1.sw (fun H2 locs2 hI2 => ?_)
  exact lv_icmp_eq (tgt := 505) hx hb dLW_law_118 (by decide) (fun _ => k σ' τ' H2 locs2 hR' hI2.sw) (fun z => absurd rfl z)
set_option maxHeartbeats 4000000 in
set_option maxRecDepth 100000 in
theorem lc_tool {p : Program} {l : Launch} {e : Env} {s : State} {m : MethodId} {b : Nat} {below : List Frame} {meth : Method} {c : Code} {D : va_G} {tg : Nat → ClassId} {L : Nat} {xs : Nat → Int32} {x y : Nat} {ls : Array Slot} (B : lx_B p s m b meth c D tg L xs) {σ τ : tcS} (hR : tr_R σ τ) {i : Nat} (hi : i + 5 ≤ L) (hl : lv_has ls 4 [(3, .int (nI i)), (2, .ref y), (1, .ref x), (0, .ref b)]) (k : ∀ (σ' τ' : tcS) (H : Heap) (locs : List Loc), tr_R σ' τ' → lx_I D tg s.heap x y (tc_hC σ') (tm_h τ') H locs → W p l e room_1 s m #[Value.ref b] below meth c H locs 41 2254 (lw_Z below #[Value.ref b] s) (F0 m 505 ls [])) {H : Heap} {locs : List Loc} (hI : lx_I D tg s.heap x y (tc_hC σ) (tm_h τ) H locs) : W p l e room_1 s m #[Value.ref b] below meth c H locs 41 2254 (lw_Z below #[Value.ref b] s) (F0 m 123 ls []) := by
  obtain ⟨hx, hb, hml, hown, hts, hK, hN, hr, hlk, hX, hbl, hL⟩ := id B
  obtain ⟨r, σ', τ', dC, dM, h8, h8m, hMC, hMM, hR'⟩ := lp_tool hR (xs (i + 1)) (xs (i + 2)) (xs (i + 3)) (xs (i + 4))
  refine lv_aload_n hx hb dLW_law_123 rfl (lv_at hl 2 rfl) ?_
  refine lx_arg B (pc := 124) (j := 1) hl rfl rfl hI (by omega) (by decide) dLW_law_124 dLW_law_125 dLW_law_126 dLW_law_127 dLW_law_128 ?_
  refine lx_arg B (pc := 129) (j := 2) hl rfl rfl hI (by omega) (by decide) dLW_law_129 dLW_law_130 dLW_law_131 dLW_law_132 dLW_law_133 ?_
  refine lx_arg B (pc := 134) (j := 3) hl rfl rfl hI (by omega) (by decide) dLW_law_134 dLW_law_135 dLW_law_136 dLW_law_137 dLW_law_138 ?_
  refine lx_arg B (pc := 139) (j := 4) hl rfl rfl hI (by omega) (by decide) dLW_law_139 dLW_law_140 dLW_law_141 dLW_law_142 dLW_law_143 ?_
  refine lx_call B (pc := 144) (rest := []) [xs (i + 1), xs (i + 2), xs (i + 3), xs (i + 4)] kLW_18 h8 hMC rfl rfl rfl (Nat.le_of_ble_eq_true rfl) dLW_law_144 hl.1 ⟨Nat.le_refl _, Nat.le_refl _⟩ hI (fun H1 locs1 hI1 => ?_)
  refine lv_aload_n hx hb dLW_law_147 rfl (lv_at hl 1 rfl) ?_
  refine lx_arg B (pc := 148) (j := 1) hl rfl rfl hI1 (by omega) (by decide) dLW_law_148 dLW_law_149 dLW_law_150 dLW_law_151 dLW_law_152 ?_
  refine lx_arg B (pc := 153) (j := 2) hl rfl rfl hI1 (by omega) (by decide) dLW_law_153 dLW_law_154 dLW_law_155 dLW_law_156 dLW_law_157 ?_
  refine lx_arg B (pc := 158) (j := 3) hl rfl rfl hI1 (by omega) (by decide) dLW_law_158 dLW_law_159 dLW_law_160 dLW_law_161 dLW_law_162 ?_
  refine lx_arg B (pc := 163) (j := 4) hl rfl rfl hI1 (by omega) (by decide) dLW_law_163 dLW_law_164 dLW_law_165 dLW_law_166 dLW_law_167 ?_
  refine lx_call B (pc := 168) (x := y) (y := x) (rest := [.int r]) [xs (i + 1), xs (i + 2), xs (i + 3), xs (i + 4)] kLW_22 h8m hMM rfl rfl rfl (Nat.le_of_ble_eq_true rfl) dLW_law_168 hl.1 ⟨Nat.le_refl _, Nat.le_refl _⟩ hI1.sw (fun H2 locs2 hI2 => ?_)
  exact lv_icmp_eq (tgt := 505) hx hb dLW_law_171 (by decide) (fun _ => k σ' τ' H2 locs2 hR' hI2.sw) (fun z => absurd rfl z)
set_option maxHeartbeats 4000000 in
set_option maxRecDepth 100000 in
theorem lc_order {p : Program} {l : Launch} {e : Env} {s : State} {m : MethodId} {b : Nat} {below : List Frame} {meth : Method} {c : Code} {D : va_G} {tg : Nat → ClassId} {L : Nat} {xs : Nat → Int32} {x y : Nat} {ls : Array Slot} (B : lx_B p s m b meth c D tg L xs) {σ τ : tcS} (hR : tr_R σ τ) {i : Nat} (hi : i + 5 ≤ L) (hl : lv_has ls 4 [(3, .int (nI i)), (2, .ref y), (1, .ref x), (0, .ref b)]) (k : ∀ (σ' τ' : tcS) (H : Heap) (locs : List Loc), tr_R σ' τ' → lx_I D tg s.heap x y (tc_hC σ') (tm_h τ') H locs → W p l e room_1 s m #[Value.ref b] below meth c H locs 41 2254 (lw_Z below #[Value.ref b] s) (F0 m 505 ls [])) {H : Heap} {locs : List Loc} (hI : lx_I D tg s.heap x y (tc_hC σ) (tm_h τ) H locs) : W p l e room_1 s m #[Value.ref b] below meth c H locs 41 2254 (lw_Z below #[Value.ref b] s) (F0 m 176 ls []) := by
  obtain ⟨hx, hb, hml, hown, hts, hK, hN, hr, hlk, hX, hbl, hL⟩ := id B
  obtain ⟨r, σ', τ', dC, dM, h8, h8m, hMC, hMM, hR'⟩ := lp_order hR (xs (i + 1)) (xs (i + 2))
  refine lv_aload_n hx hb dLW_law_176 rfl (lv_at hl 2 rfl) ?_
  refine lx_arg B (pc := 177) (j := 1) hl rfl rfl hI (by omega) (by decide) dLW_law_177 dLW_law_178 dLW_law_179 dLW_law_180 dLW_law_181 ?_
  refine lx_arg B (pc := 182) (j := 2) hl rfl rfl hI (by omega) (by decide) dLW_law_182 dLW_law_183 dLW_law_184 dLW_law_185 dLW_law_186 ?_
  refine lx_call B (pc := 187) (rest := []) [xs (i + 1), xs (i + 2)] kLW_23 h8 hMC rfl rfl rfl (Nat.le_of_ble_eq_true rfl) dLW_law_187 hl.1 ⟨Nat.le_refl _, Nat.le_refl _⟩ hI (fun H1 locs1 hI1 => ?_)
  refine lv_aload_n hx hb dLW_law_190 rfl (lv_at hl 1 rfl) ?_
  refine lx_arg B (pc := 191) (j := 1) hl rfl rfl hI1 (by omega) (by decide) dLW_law_191 dLW_law_192 dLW_law_193 dLW_law_194 dLW_law_195 ?_
  refine lx_arg B (pc := 196) (j := 2) hl rfl rfl hI1 (by omega) (by decide) dLW_law_196 dLW_law_197 dLW_law_198 dLW_law_199 dLW_law_200 ?_
  refine lx_call B (pc := 201) (x := y) (y := x) (rest := [.int r]) [xs (i + 1), xs (i + 2)] kLW_27 h8m hMM rfl rfl rfl (Nat.le_of_ble_eq_true rfl) dLW_law_201 hl.1 ⟨Nat.le_refl _, Nat.le_refl _⟩ hI1.sw (fun H2 locs2 hI2 => ?_)
  exact lv_icmp_eq (tgt := 505) hx hb dLW_law_204 (by decide) (fun _ => k σ' τ' H2 locs2 hR' hI2.sw) (fun z => absurd rfl z)
set_option maxHeartbeats 4000000 in
set_option maxRecDepth 100000 in
theorem lc_needs {p : Program} {l : Launch} {e : Env} {s : State} {m : MethodId} {b : Nat} {below : List Frame} {meth : Method} {c : Code} {D : va_G} {tg : Nat → ClassId} {L : Nat} {xs : Nat → Int32} {x y : Nat} {ls : Array Slot} (B : lx_B p s m b meth c D tg L xs) {σ τ : tcS} (hR : tr_R σ τ) {i : Nat} (hi : i + 5 ≤ L) (hl : lv_has ls 4 [(3, .int (nI i)), (2, .ref y), (1, .ref x), (0, .ref b)]) (k : ∀ (σ' τ' : tcS) (H : Heap) (locs : List Loc), tr_R σ' τ' → lx_I D tg s.heap x y (tc_hC σ') (tm_h τ') H locs → W p l e room_1 s m #[Value.ref b] below meth c H locs 41 2254 (lw_Z below #[Value.ref b] s) (F0 m 505 ls [])) {H : Heap} {locs : List Loc} (hI : lx_I D tg s.heap x y (tc_hC σ) (tm_h τ) H locs) : W p l e room_1 s m #[Value.ref b] below meth c H locs 41 2254 (lw_Z below #[Value.ref b] s) (F0 m 209 ls []) := by
  obtain ⟨hx, hb, hml, hown, hts, hK, hN, hr, hlk, hX, hbl, hL⟩ := id B
  obtain ⟨r, σ', τ', dC, dM, h8, h8m, hMC, hMM, hR'⟩ := lp_needs hR (xs (i + 1)) (xs (i + 2))
  refine lv_aload_n hx hb dLW_law_209 rfl (lv_at hl 2 rfl) ?_
  refine lx_arg B (pc := 210) (j := 1) hl rfl rfl hI (by omega) (by decide) dLW_law_210 dLW_law_211 dLW_law_212 dLW_law_213 dLW_law_214 ?_
  refine lx_arg B (pc := 215) (j := 2) hl rfl rfl hI (by omega) (by decide) dLW_law_215 dLW_law_216 dLW_law_217 dLW_law_218 dLW_law_219 ?_
  refine lx_call B (pc := 220) (rest := []) [xs (i + 1), xs (i + 2)] kLW_28 h8 hMC rfl rfl rfl (Nat.le_of_ble_eq_true rfl) dLW_law_220 hl.1 ⟨Nat.le_refl _, Nat.le_refl _⟩ hI (fun H1 locs1 hI1 => ?_)
  refine lv_aload_n hx hb dLW_law_223 rfl (lv_at hl 1 rfl) ?_
  refine lx_arg B (pc := 224) (j := 1) hl rfl rfl hI1 (by omega) (by decide) dLW_law_224 dLW_law_225 dLW_law_226 dLW_law_227 dLW_law_228 ?_
  refine lx_arg B (pc := 229) (j := 2) hl rfl rfl hI1 (by omega) (by decide) dLW_law_229 dLW_law_230 dLW_law_231 dLW_law_232 dLW_law_233 ?_
  refine lx_call B (pc := 234) (x := y) (y := x) (rest := [.int r]) [xs (i + 1), xs (i + 2)] kLW_31 h8m hMM rfl rfl rfl (Nat.le_of_ble_eq_true rfl) dLW_law_234 hl.1 ⟨Nat.le_refl _, Nat.le_refl _⟩ hI1.sw (fun H2 locs2 hI2 => ?_)
  exact lv_icmp_eq (tgt := 505) hx hb dLW_law_237 (by decide) (fun _ => k σ' τ' H2 locs2 hR' hI2.sw) (fun z => absurd rfl z)
set_option maxHeartbeats 4000000 in
set_option maxRecDepth 100000 in
theorem lc_ask {p : Program} {l : Launch} {e : Env} {s : State} {m : MethodId} {b : Nat} {below : List Frame} {meth : Method} {c : Code} {D : va_G} {tg : Nat → ClassId} {L : Nat} {xs : Nat → Int32} {x y : Nat} {ls : Array Slot} (B : lx_B p s m b meth c D tg L xs) {σ τ : tcS} (hR : tr_R σ τ) {i : Nat} (hi : i + 5 ≤ L) (hl : lv_has ls 4 [(3, .int (nI i)), (2, .ref y), (1, .ref x), (0, .ref b)]) (k : ∀ (σ' τ' : tcS) (H : Heap) (locs : List Loc), tr_R σ' τ' → lx_I D tg s.heap x y (tc_hC σ') (tm_h τ') H locs → W p l e room_1 s m #[Value.ref b] below meth c H locs 41 2254 (lw_Z below #[Value.ref b] s) (F0 m 505 ls [])) {H : Heap} {locs : List Loc} (hI : lx_I D tg s.heap x y (tc_hC σ) (tm_h τ) H locs) : W p l e room_1 s m #[Value.ref b] below meth c H locs 41 2254 (lw_Z below #[Value.ref b] s) (F0 m 242 ls []) := by
  obtain ⟨hx, hb, hml, hown, hts, hK, hN, hr, hlk, hX, hbl, hL⟩ := id B
  by_cases h0 : xs (i + 3) = 0
  · obtain ⟨r, σ', τ', dC, dM, h8, h8m, hMC, hMM, hR'⟩ := lp_ask hR (xs (i + 1)) (xs (i + 2)) (0) (by simp)
    refine lv_aload_n hx hb dLW_law_242 rfl (lv_at hl 2 rfl) ?_
    refine lx_arg B (pc := 243) (j := 1) hl rfl rfl hI (by omega) (by decide) dLW_law_243 dLW_law_244 dLW_law_245 dLW_law_246 dLW_law_247 ?_
    refine lx_arg B (pc := 248) (j := 2) hl rfl rfl hI (by omega) (by decide) dLW_law_248 dLW_law_249 dLW_law_250 dLW_law_251 dLW_law_252 ?_
    refine lx_arg B (pc := 253) (j := 3) hl rfl rfl hI (by omega) (by decide) dLW_law_253 dLW_law_254 dLW_law_255 dLW_law_256 dLW_law_257 ?_
    refine lv_if_eq (tgt := 265) hx hb dLW_law_258 (by decide) (fun _ => ?_) (fun z => absurd h0 z)
    refine lv_iconst (v := 0) hx hb dLW_law_265 (by decide) ?_
    refine lx_call B (pc := 266) (rest := []) [xs (i + 1), xs (i + 2), 0] kLW_32 h8 hMC rfl rfl rfl (Nat.le_of_ble_eq_true rfl) dLW_law_266 hl.1 ⟨Nat.le_refl _, Nat.le_refl _⟩ hI (fun H1 locs1 hI1 => ?_)
    refine lv_aload_n hx hb dLW_law_269 rfl (lv_at hl 1 rfl) ?_
    refine lx_arg B (pc := 270) (j := 1) hl rfl rfl hI1 (by omega) (by decide) dLW_law_270 dLW_law_271 dLW_law_272 dLW_law_273 dLW_law_274 ?_
    refine lx_arg B (pc := 275) (j := 2) hl rfl rfl hI1 (by omega) (by decide) dLW_law_275 dLW_law_276 dLW_law_277 dLW_law_278 dLW_law_279 ?_
    refine lx_arg B (pc := 280) (j := 3) hl rfl rfl hI1 (by omega) (by decide) dLW_law_280 dLW_law_281 dLW_law_282 dLW_law_283 dLW_law_284 ?_
    refine lv_if_eq (tgt := 292) hx hb dLW_law_285 (by decide) (fun _ => ?_) (fun z => absurd h0 z)
    refine lv_iconst (v := 0) hx hb dLW_law_292 (by decide) ?_
    refine lx_call B (pc := 293) (x := y) (y := x) (rest := [.int r]) [xs (i + 1), xs (i + 2), 0] kLW_36 h8m hMM rfl rfl rfl (Nat.le_of_ble_eq_true rfl) dLW_law_293 hl.1 ⟨Nat.le_refl _, Nat.le_refl _⟩ hI1.sw (fun H2 locs2 hI2 => ?_)
    exact lv_icmp_eq (tgt := 505) hx hb dLW_law_296 (by decide) (fun _ => k σ' τ' H2 locs2 hR' hI2.sw) (fun z => absurd rfl z)
  · obtain ⟨r, σ', τ', dC, dM, h8, h8m, hMC, hMM, hR'⟩ := lp_ask hR (xs (i + 1)) (xs (i + 2)) (1) (by simp)
    refine lv_aload_n hx hb dLW_law_242 rfl (lv_at hl 2 rfl) ?_
    refine lx_arg B (pc := 243) (j := 1) hl rfl rfl hI (by omega) (by decide) dLW_law_243 dLW_law_244 dLW_law_245 dLW_law_246 dLW_law_247 ?_
    refine lx_arg B (pc := 248) (j := 2) hl rfl rfl hI (by omega) (by decide) dLW_law_248 dLW_law_249 dLW_law_250 dLW_law_251 dLW_law_252 ?_
    refine lx_arg B (pc := 253) (j := 3) hl rfl rfl hI (by omega) (by decide) dLW_law_253 dLW_law_254 dLW_law_255 dLW_law_256 dLW_law_257 ?_
    refine lv_if_eq (tgt := 265) hx hb dLW_law_258 (by decide) (fun z => absurd z h0) (fun _ => ?_)
    refine lv_iconst (v := 1) hx hb dLW_law_261 (by decide) ?_
    refine lv_goto (tgt := 266) hx hb dLW_law_262 (by decide) ?_
    refine lx_call B (pc := 266) (rest := []) [xs (i + 1), xs (i + 2), 1] kLW_32 h8 hMC rfl rfl rfl (Nat.le_of_ble_eq_true rfl) dLW_law_266 hl.1 ⟨Nat.le_refl _, Nat.le_refl _⟩ hI (fun H1 locs1 hI1 => ?_)
    refine lv_aload_n hx hb dLW_law_269 rfl (lv_at hl 1 rfl) ?_
    refine lx_arg B (pc := 270) (j := 1) hl rfl rfl hI1 (by omega) (by decide) dLW_law_270 dLW_law_271 dLW_law_272 dLW_law_273 dLW_law_274 ?_
    refine lx_arg B (pc := 275) (j := 2) hl rfl rfl hI1 (by omega) (by decide) dLW_law_275 dLW_law_276 dLW_law_277 dLW_law_278 dLW_law_279 ?_
    refine lx_arg B (pc := 280) (j := 3) hl rfl rfl hI1 (by omega) (by decide) dLW_law_280 dLW_law_281 dLW_law_282 dLW_law_283 dLW_law_284 ?_
    refine lv_if_eq (tgt := 292) hx hb dLW_law_285 (by decide) (fun z => absurd z h0) (fun _ => ?_)
    refine lv_iconst (v := 1) hx hb dLW_law_288 (by decide) ?_
    refine lv_goto (tgt := 293) hx hb dLW_law_289 (by decide) ?_
    refine lx_call B (pc := 293) (x := y) (y := x) (rest := [.int r]) [xs (i + 1), xs (i + 2), 1] kLW_36 h8m hMM rfl rfl rfl (Nat.le_of_ble_eq_true rfl) dLW_law_293 hl.1 ⟨Nat.le_refl _, Nat.le_refl _⟩ hI1.sw (fun H2 locs2 hI2 => ?_)
    exact lv_icmp_eq (tgt := 505) hx hb dLW_law_296 (by decide) (fun _ => k σ' τ' H2 locs2 hR' hI2.sw) (fun z => absurd rfl z)
set_option maxHeartbeats 4000000 in
set_option maxRecDepth 100000 in
theorem lc_drop {p : Program} {l : Launch} {e : Env} {s : State} {m : MethodId} {b : Nat} {below : List Frame} {meth : Method} {c : Code} {D : va_G} {tg : Nat → ClassId} {L : Nat} {xs : Nat → Int32} {x y : Nat} {ls : Array Slot} (B : lx_B p s m b meth c D tg L xs) {σ τ : tcS} (hR : tr_R σ τ) {i : Nat} (hi : i + 5 ≤ L) (hl : lv_has ls 4 [(3, .int (nI i)), (2, .ref y), (1, .ref x), (0, .ref b)]) (k : ∀ (σ' τ' : tcS) (H : Heap) (locs : List Loc), tr_R σ' τ' → lx_I D tg s.heap x y (tc_hC σ') (tm_h τ') H locs → W p l e room_1 s m #[Value.ref b] below meth c H locs 41 2254 (lw_Z below #[Value.ref b] s) (F0 m 505 ls [])) {H : Heap} {locs : List Loc} (hI : lx_I D tg s.heap x y (tc_hC σ) (tm_h τ) H locs) : W p l e room_1 s m #[Value.ref b] below meth c H locs 41 2254 (lw_Z below #[Value.ref b] s) (F0 m 301 ls []) := by
  obtain ⟨hx, hb, hml, hown, hts, hK, hN, hr, hlk, hX, hbl, hL⟩ := id B
  obtain ⟨r, σ', τ', dC, dM, h8, h8m, hMC, hMM, hR'⟩ := lp_drop hR (xs (i + 1))
  refine lv_aload_n hx hb dLW_law_301 rfl (lv_at hl 2 rfl) ?_
  refine lx_arg B (pc := 302) (j := 1) hl rfl rfl hI (by omega) (by decide) dLW_law_302 dLW_law_303 dLW_law_304 dLW_law_305 dLW_law_306 ?_
  refine lx_call B (pc := 307) (rest := []) [xs (i + 1)] kLW_37 h8 hMC rfl rfl rfl (Nat.le_of_ble_eq_true rfl) dLW_law_307 hl.1 ⟨Nat.le_refl _, Nat.le_refl _⟩ hI (fun H1 locs1 hI1 => ?_)
  refine lv_aload_n hx hb dLW_law_310 rfl (lv_at hl 1 rfl) ?_
  refine lx_arg B (pc := 311) (j := 1) hl rfl rfl hI1 (by omega) (by decide) dLW_law_311 dLW_law_312 dLW_law_313 dLW_law_314 dLW_law_315 ?_
  refine lx_call B (pc := 316) (x := y) (y := x) (rest := [.int r]) [xs (i + 1)] kLW_41 h8m hMM rfl rfl rfl (Nat.le_of_ble_eq_true rfl) dLW_law_316 hl.1 ⟨Nat.le_refl _, Nat.le_refl _⟩ hI1.sw (fun H2 locs2 hI2 => ?_)
  exact lv_icmp_eq (tgt := 505) hx hb dLW_law_319 (by decide) (fun _ => k σ' τ' H2 locs2 hR' hI2.sw) (fun z => absurd rfl z)
set_option maxHeartbeats 4000000 in
set_option maxRecDepth 100000 in
theorem lc_force {p : Program} {l : Launch} {e : Env} {s : State} {m : MethodId} {b : Nat} {below : List Frame} {meth : Method} {c : Code} {D : va_G} {tg : Nat → ClassId} {L : Nat} {xs : Nat → Int32} {x y : Nat} {ls : Array Slot} (B : lx_B p s m b meth c D tg L xs) {σ τ : tcS} (hR : tr_R σ τ) {i : Nat} (hi : i + 5 ≤ L) (hl : lv_has ls 4 [(3, .int (nI i)), (2, .ref y), (1, .ref x), (0, .ref b)]) (k : ∀ (σ' τ' : tcS) (H : Heap) (locs : List Loc), tr_R σ' τ' → lx_I D tg s.heap x y (tc_hC σ') (tm_h τ') H locs → W p l e room_1 s m #[Value.ref b] below meth c H locs 41 2254 (lw_Z below #[Value.ref b] s) (F0 m 505 ls [])) {H : Heap} {locs : List Loc} (hI : lx_I D tg s.heap x y (tc_hC σ) (tm_h τ) H locs) : W p l e room_1 s m #[Value.ref b] below meth c H locs 41 2254 (lw_Z below #[Value.ref b] s) (F0 m 324 ls []) := by
  obtain ⟨hx, hb, hml, hown, hts, hK, hN, hr, hlk, hX, hbl, hL⟩ := id B
  obtain ⟨r, σ', τ', dC, dM, h8, h8m, hMC, hMM, hR'⟩ := lp_force hR (xs (i + 1)) (xs (i + 2))
  refine lv_aload_n hx hb dLW_law_324 rfl (lv_at hl 2 rfl) ?_
  refine lx_arg B (pc := 325) (j := 1) hl rfl rfl hI (by omega) (by decide) dLW_law_325 dLW_law_326 dLW_law_327 dLW_law_328 dLW_law_329 ?_
  refine lx_arg B (pc := 330) (j := 2) hl rfl rfl hI (by omega) (by decide) dLW_law_330 dLW_law_331 dLW_law_332 dLW_law_333 dLW_law_334 ?_
  refine lx_call B (pc := 335) (rest := []) [xs (i + 1), xs (i + 2)] kLW_42 h8 hMC rfl rfl rfl (Nat.le_of_ble_eq_true rfl) dLW_law_335 hl.1 ⟨Nat.le_refl _, Nat.le_refl _⟩ hI (fun H1 locs1 hI1 => ?_)
  refine lv_aload_n hx hb dLW_law_338 rfl (lv_at hl 1 rfl) ?_
  refine lx_arg B (pc := 339) (j := 1) hl rfl rfl hI1 (by omega) (by decide) dLW_law_339 dLW_law_340 dLW_law_341 dLW_law_342 dLW_law_343 ?_
  refine lx_arg B (pc := 344) (j := 2) hl rfl rfl hI1 (by omega) (by decide) dLW_law_344 dLW_law_345 dLW_law_346 dLW_law_347 dLW_law_348 ?_
  refine lx_call B (pc := 349) (x := y) (y := x) (rest := [.int r]) [xs (i + 1), xs (i + 2)] kLW_45 h8m hMM rfl rfl rfl (Nat.le_of_ble_eq_true rfl) dLW_law_349 hl.1 ⟨Nat.le_refl _, Nat.le_refl _⟩ hI1.sw (fun H2 locs2 hI2 => ?_)
  exact lv_icmp_eq (tgt := 505) hx hb dLW_law_352 (by decide) (fun _ => k σ' τ' H2 locs2 hR' hI2.sw) (fun z => absurd rfl z)
set_option maxHeartbeats 4000000 in
set_option maxRecDepth 100000 in
theorem lc_choose {p : Program} {l : Launch} {e : Env} {s : State} {m : MethodId} {b : Nat} {below : List Frame} {meth : Method} {c : Code} {D : va_G} {tg : Nat → ClassId} {L : Nat} {xs : Nat → Int32} {x y : Nat} {ls : Array Slot} (B : lx_B p s m b meth c D tg L xs) {σ τ : tcS} (hR : tr_R σ τ) {i : Nat} (hi : i + 5 ≤ L) (hl : lv_has ls 4 [(3, .int (nI i)), (2, .ref y), (1, .ref x), (0, .ref b)]) (k : ∀ (σ' τ' : tcS) (H : Heap) (locs : List Loc), tr_R σ' τ' → lx_I D tg s.heap x y (tc_hC σ') (tm_h τ') H locs → W p l e room_1 s m #[Value.ref b] below meth c H locs 41 2254 (lw_Z below #[Value.ref b] s) (F0 m 505 ls [])) {H : Heap} {locs : List Loc} (hI : lx_I D tg s.heap x y (tc_hC σ) (tm_h τ) H locs) : W p l e room_1 s m #[Value.ref b] below meth c H locs 41 2254 (lw_Z below #[Value.ref b] s) (F0 m 357 ls []) := by
  obtain ⟨hx, hb, hml, hown, hts, hK, hN, hr, hlk, hX, hbl, hL⟩ := id B
  obtain ⟨r, σ', τ', dC, dM, h8, h8m, hMC, hMM, hR'⟩ := lp_choose hR (xs (i + 1))
  refine lv_aload_n hx hb dLW_law_357 rfl (lv_at hl 2 rfl) ?_
  refine lx_arg B (pc := 358) (j := 1) hl rfl rfl hI (by omega) (by decide) dLW_law_358 dLW_law_359 dLW_law_360 dLW_law_361 dLW_law_362 ?_
  refine lx_call B (pc := 363) (rest := []) [xs (i + 1)] kLW_46 h8 hMC rfl rfl rfl (Nat.le_of_ble_eq_true rfl) dLW_law_363 hl.1 ⟨Nat.le_refl _, Nat.le_refl _⟩ hI (fun H1 locs1 hI1 => ?_)
  refine lv_aload_n hx hb dLW_law_366 rfl (lv_at hl 1 rfl) ?_
  refine lx_arg B (pc := 367) (j := 1) hl rfl rfl hI1 (by omega) (by decide) dLW_law_367 dLW_law_368 dLW_law_369 dLW_law_370 dLW_law_371 ?_
  refine lx_call B (pc := 372) (x := y) (y := x) (rest := [.int r]) [xs (i + 1)] kLW_49 h8m hMM rfl rfl rfl (Nat.le_of_ble_eq_true rfl) dLW_law_372 hl.1 ⟨Nat.le_refl _, Nat.le_refl _⟩ hI1.sw (fun H2 locs2 hI2 => ?_)
  exact lv_icmp_eq (tgt := 505) hx hb dLW_law_375 (by decide) (fun _ => k σ' τ' H2 locs2 hR' hI2.sw) (fun z => absurd rfl z)
set_option maxHeartbeats 4000000 in
set_option maxRecDepth 100000 in
theorem lc_chosen {p : Program} {l : Launch} {e : Env} {s : State} {m : MethodId} {b : Nat} {below : List Frame} {meth : Method} {c : Code} {D : va_G} {tg : Nat → ClassId} {L : Nat} {xs : Nat → Int32} {x y : Nat} {ls : Array Slot} (B : lx_B p s m b meth c D tg L xs) {σ τ : tcS} (hR : tr_R σ τ) {i : Nat} (hi : i + 5 ≤ L) (hl : lv_has ls 4 [(3, .int (nI i)), (2, .ref y), (1, .ref x), (0, .ref b)]) (k : ∀ (σ' τ' : tcS) (H : Heap) (locs : List Loc), tr_R σ' τ' → lx_I D tg s.heap x y (tc_hC σ') (tm_h τ') H locs → W p l e room_1 s m #[Value.ref b] below meth c H locs 41 2254 (lw_Z below #[Value.ref b] s) (F0 m 505 ls [])) {H : Heap} {locs : List Loc} (hI : lx_I D tg s.heap x y (tc_hC σ) (tm_h τ) H locs) : W p l e room_1 s m #[Value.ref b] below meth c H locs 41 2254 (lw_Z below #[Value.ref b] s) (F0 m 380 ls []) := by
  obtain ⟨hx, hb, hml, hown, hts, hK, hN, hr, hlk, hX, hbl, hL⟩ := id B
  obtain ⟨r, σ', τ', dC, dM, h8, h8m, hMC, hMM, hR'⟩ := lp_chosen hR (xs (i + 1))
  refine lv_aload_n hx hb dLW_law_380 rfl (lv_at hl 2 rfl) ?_
  refine lx_arg B (pc := 381) (j := 1) hl rfl rfl hI (by omega) (by decide) dLW_law_381 dLW_law_382 dLW_law_383 dLW_law_384 dLW_law_385 ?_
  refine lx_call B (pc := 386) (rest := []) [xs (i + 1)] kLW_50 h8 hMC rfl rfl rfl (Nat.le_of_ble_eq_true rfl) dLW_law_386 hl.1 ⟨Nat.le_refl _, Nat.le_refl _⟩ hI (fun H1 locs1 hI1 => ?_)
  refine lv_aload_n hx hb dLW_law_389 rfl (lv_at hl 1 rfl) ?_
  refine lx_arg B (pc := 390) (j := 1) hl rfl rfl hI1 (by omega) (by decide) dLW_law_390 dLW_law_391 dLW_law_392 dLW_law_393 dLW_law_394 ?_
  refine lx_call B (pc := 395) (x := y) (y := x) (rest := [.int r]) [xs (i + 1)] kLW_53 h8m hMM rfl rfl rfl (Nat.le_of_ble_eq_true rfl) dLW_law_395 hl.1 ⟨Nat.le_refl _, Nat.le_refl _⟩ hI1.sw (fun H2 locs2 hI2 => ?_)
  exact lv_icmp_eq (tgt := 505) hx hb dLW_law_398 (by decide) (fun _ => k σ' τ' H2 locs2 hR' hI2.sw) (fun z => absurd rfl z)
set_option maxHeartbeats 4000000 in
set_option maxRecDepth 100000 in
theorem lc_rows {p : Program} {l : Launch} {e : Env} {s : State} {m : MethodId} {b : Nat} {below : List Frame} {meth : Method} {c : Code} {D : va_G} {tg : Nat → ClassId} {L : Nat} {xs : Nat → Int32} {x y : Nat} {ls : Array Slot} (B : lx_B p s m b meth c D tg L xs) {σ τ : tcS} (hR : tr_R σ τ) {i : Nat} (hi : i + 5 ≤ L) (hl : lv_has ls 4 [(3, .int (nI i)), (2, .ref y), (1, .ref x), (0, .ref b)]) (k : ∀ (σ' τ' : tcS) (H : Heap) (locs : List Loc), tr_R σ' τ' → lx_I D tg s.heap x y (tc_hC σ') (tm_h τ') H locs → W p l e room_1 s m #[Value.ref b] below meth c H locs 41 2254 (lw_Z below #[Value.ref b] s) (F0 m 505 ls [])) {H : Heap} {locs : List Loc} (hI : lx_I D tg s.heap x y (tc_hC σ) (tm_h τ) H locs) : W p l e room_1 s m #[Value.ref b] below meth c H locs 41 2254 (lw_Z below #[Value.ref b] s) (F0 m 403 ls []) := by
  obtain ⟨hx, hb, hml, hown, hts, hK, hN, hr, hlk, hX, hbl, hL⟩ := id B
  obtain ⟨r, σ', τ', dC, dM, h8, h8m, hMC, hMM, hR'⟩ := lp_rows hR 
  refine lv_aload_n hx hb dLW_law_403 rfl (lv_at hl 2 rfl) ?_
  refine lx_call B (pc := 404) (rest := []) [] kLW_54 h8 hMC rfl rfl rfl (Nat.le_of_ble_eq_true rfl) dLW_law_404 hl.1 ⟨Nat.le_refl _, Nat.le_refl _⟩ hI (fun H1 locs1 hI1 => ?_)
  refine lv_aload_n hx hb dLW_law_407 rfl (lv_at hl 1 rfl) ?_
  refine lx_call B (pc := 408) (x := y) (y := x) (rest := [.int r]) [] kLW_58 h8m hMM rfl rfl rfl (Nat.le_of_ble_eq_true rfl) dLW_law_408 hl.1 ⟨Nat.le_refl _, Nat.le_refl _⟩ hI1.sw (fun H2 locs2 hI2 => ?_)
  exact lv_icmp_eq (tgt := 505) hx hb dLW_law_411 (by decide) (fun _ => k σ' τ' H2 locs2 hR' hI2.sw) (fun z => absurd rfl z)
set_option maxHeartbeats 4000000 in
set_option maxRecDepth 100000 in
theorem lc_row {p : Program} {l : Launch} {e : Env} {s : State} {m : MethodId} {b : Nat} {below : List Frame} {meth : Method} {c : Code} {D : va_G} {tg : Nat → ClassId} {L : Nat} {xs : Nat → Int32} {x y : Nat} {ls : Array Slot} (B : lx_B p s m b meth c D tg L xs) {σ τ : tcS} (hR : tr_R σ τ) {i : Nat} (hi : i + 5 ≤ L) (hl : lv_has ls 4 [(3, .int (nI i)), (2, .ref y), (1, .ref x), (0, .ref b)]) (k : ∀ (σ' τ' : tcS) (H : Heap) (locs : List Loc), tr_R σ' τ' → lx_I D tg s.heap x y (tc_hC σ') (tm_h τ') H locs → W p l e room_1 s m #[Value.ref b] below meth c H locs 41 2254 (lw_Z below #[Value.ref b] s) (F0 m 505 ls [])) {H : Heap} {locs : List Loc} (hI : lx_I D tg s.heap x y (tc_hC σ) (tm_h τ) H locs) : W p l e room_1 s m #[Value.ref b] below meth c H locs 41 2254 (lw_Z below #[Value.ref b] s) (F0 m 416 ls []) := by
  obtain ⟨hx, hb, hml, hown, hts, hK, hN, hr, hlk, hX, hbl, hL⟩ := id B
  obtain ⟨r, σ', τ', dC, dM, h8, h8m, hMC, hMM, hR'⟩ := lp_row hR (xs (i + 1)) (xs (i + 2))
  refine lv_aload_n hx hb dLW_law_416 rfl (lv_at hl 2 rfl) ?_
  refine lx_arg B (pc := 417) (j := 1) hl rfl rfl hI (by omega) (by decide) dLW_law_417 dLW_law_418 dLW_law_419 dLW_law_420 dLW_law_421 ?_
  refine lx_arg B (pc := 422) (j := 2) hl rfl rfl hI (by omega) (by decide) dLW_law_422 dLW_law_423 dLW_law_424 dLW_law_425 dLW_law_426 ?_
  refine lx_call B (pc := 427) (rest := []) [xs (i + 1), xs (i + 2)] kLW_59 h8 hMC rfl rfl rfl (Nat.le_of_ble_eq_true rfl) dLW_law_427 hl.1 ⟨Nat.le_refl _, Nat.le_refl _⟩ hI (fun H1 locs1 hI1 => ?_)
  refine lv_aload_n hx hb dLW_law_430 rfl (lv_at hl 1 rfl) ?_
  refine lx_arg B (pc := 431) (j := 1) hl rfl rfl hI1 (by omega) (by decide) dLW_law_431 dLW_law_432 dLW_law_433 dLW_law_434 dLW_law_435 ?_
  refine lx_arg B (pc := 436) (j := 2) hl rfl rfl hI1 (by omega) (by decide) dLW_law_436 dLW_law_437 dLW_law_438 dLW_law_439 dLW_law_440 ?_
  refine lx_call B (pc := 441) (x := y) (y := x) (rest := [.int r]) [xs (i + 1), xs (i + 2)] kLW_63 h8m hMM rfl rfl rfl (Nat.le_of_ble_eq_true rfl) dLW_law_441 hl.1 ⟨Nat.le_refl _, Nat.le_refl _⟩ hI1.sw (fun H2 locs2 hI2 => ?_)
  exact lv_icmp_eq (tgt := 505) hx hb dLW_law_444 (by decide) (fun _ => k σ' τ' H2 locs2 hR' hI2.sw) (fun z => absurd rfl z)
set_option maxHeartbeats 4000000 in
set_option maxRecDepth 100000 in
theorem lc_built {p : Program} {l : Launch} {e : Env} {s : State} {m : MethodId} {b : Nat} {below : List Frame} {meth : Method} {c : Code} {D : va_G} {tg : Nat → ClassId} {L : Nat} {xs : Nat → Int32} {x y : Nat} {ls : Array Slot} (B : lx_B p s m b meth c D tg L xs) {σ τ : tcS} (hR : tr_R σ τ) {i : Nat} (hi : i + 5 ≤ L) (hl : lv_has ls 4 [(3, .int (nI i)), (2, .ref y), (1, .ref x), (0, .ref b)]) (k : ∀ (σ' τ' : tcS) (H : Heap) (locs : List Loc), tr_R σ' τ' → lx_I D tg s.heap x y (tc_hC σ') (tm_h τ') H locs → W p l e room_1 s m #[Value.ref b] below meth c H locs 41 2254 (lw_Z below #[Value.ref b] s) (F0 m 505 ls [])) {H : Heap} {locs : List Loc} (hI : lx_I D tg s.heap x y (tc_hC σ) (tm_h τ) H locs) : W p l e room_1 s m #[Value.ref b] below meth c H locs 41 2254 (lw_Z below #[Value.ref b] s) (F0 m 449 ls []) := by
  obtain ⟨hx, hb, hml, hown, hts, hK, hN, hr, hlk, hX, hbl, hL⟩ := id B
  obtain ⟨r, σ', τ', dC, dM, h8, h8m, hMC, hMM, hR'⟩ := lp_built hR (xs (i + 1)) (xs (i + 2))
  refine lv_aload_n hx hb dLW_law_449 rfl (lv_at hl 2 rfl) ?_
  refine lx_arg B (pc := 450) (j := 1) hl rfl rfl hI (by omega) (by decide) dLW_law_450 dLW_law_451 dLW_law_452 dLW_law_453 dLW_law_454 ?_
  refine lx_arg B (pc := 455) (j := 2) hl rfl rfl hI (by omega) (by decide) dLW_law_455 dLW_law_456 dLW_law_457 dLW_law_458 dLW_law_459 ?_
  refine lx_call B (pc := 460) (rest := []) [xs (i + 1), xs (i + 2)] kLW_64 h8 hMC rfl rfl rfl (Nat.le_of_ble_eq_true rfl) dLW_law_460 hl.1 ⟨Nat.le_refl _, Nat.le_refl _⟩ hI (fun H1 locs1 hI1 => ?_)
  refine lv_aload_n hx hb dLW_law_463 rfl (lv_at hl 1 rfl) ?_
  refine lx_arg B (pc := 464) (j := 1) hl rfl rfl hI1 (by omega) (by decide) dLW_law_464 dLW_law_465 dLW_law_466 dLW_law_467 dLW_law_468 ?_
  refine lx_arg B (pc := 469) (j := 2) hl rfl rfl hI1 (by omega) (by decide) dLW_law_469 dLW_law_470 dLW_law_471 dLW_law_472 dLW_law_473 ?_
  refine lx_call B (pc := 474) (x := y) (y := x) (rest := [.int r]) [xs (i + 1), xs (i + 2)] kLW_67 h8m hMM rfl rfl rfl (Nat.le_of_ble_eq_true rfl) dLW_law_474 hl.1 ⟨Nat.le_refl _, Nat.le_refl _⟩ hI1.sw (fun H2 locs2 hI2 => ?_)
  exact lv_icmp_eq (tgt := 505) hx hb dLW_law_477 (by decide) (fun _ => k σ' τ' H2 locs2 hR' hI2.sw) (fun z => absurd rfl z)
set_option maxHeartbeats 4000000 in
set_option maxRecDepth 100000 in
theorem lc_ring {p : Program} {l : Launch} {e : Env} {s : State} {m : MethodId} {b : Nat} {below : List Frame} {meth : Method} {c : Code} {D : va_G} {tg : Nat → ClassId} {L : Nat} {xs : Nat → Int32} {x y : Nat} {ls : Array Slot} (B : lx_B p s m b meth c D tg L xs) {σ τ : tcS} (hR : tr_R σ τ) {i : Nat} (hi : i + 5 ≤ L) (hl : lv_has ls 4 [(3, .int (nI i)), (2, .ref y), (1, .ref x), (0, .ref b)]) (k : ∀ (σ' τ' : tcS) (H : Heap) (locs : List Loc), tr_R σ' τ' → lx_I D tg s.heap x y (tc_hC σ') (tm_h τ') H locs → W p l e room_1 s m #[Value.ref b] below meth c H locs 41 2254 (lw_Z below #[Value.ref b] s) (F0 m 505 ls [])) {H : Heap} {locs : List Loc} (hI : lx_I D tg s.heap x y (tc_hC σ) (tm_h τ) H locs) : W p l e room_1 s m #[Value.ref b] below meth c H locs 41 2254 (lw_Z below #[Value.ref b] s) (F0 m 482 ls []) := by
  obtain ⟨hx, hb, hml, hown, hts, hK, hN, hr, hlk, hX, hbl, hL⟩ := id B
  obtain ⟨r, σ', τ', dC, dM, h8, h8m, hMC, hMM, hR'⟩ := lp_ring hR (xs (i + 1))
  refine lv_aload_n hx hb dLW_law_482 rfl (lv_at hl 2 rfl) ?_
  refine lx_arg B (pc := 483) (j := 1) hl rfl rfl hI (by omega) (by decide) dLW_law_483 dLW_law_484 dLW_law_485 dLW_law_486 dLW_law_487 ?_
  refine lx_call B (pc := 488) (rest := []) [xs (i + 1)] kLW_68 h8 hMC rfl rfl rfl (Nat.le_of_ble_eq_true rfl) dLW_law_488 hl.1 ⟨Nat.le_refl _, Nat.le_refl _⟩ hI (fun H1 locs1 hI1 => ?_)
  refine lv_aload_n hx hb dLW_law_491 rfl (lv_at hl 1 rfl) ?_
  refine lx_arg B (pc := 492) (j := 1) hl rfl rfl hI1 (by omega) (by decide) dLW_law_492 dLW_law_493 dLW_law_494 dLW_law_495 dLW_law_496 ?_
  refine lx_call B (pc := 497) (x := y) (y := x) (rest := [.int r]) [xs (i + 1)] kLW_71 h8m hMM rfl rfl rfl (Nat.le_of_ble_eq_true rfl) dLW_law_497 hl.1 ⟨Nat.le_refl _, Nat.le_refl _⟩ hI1.sw (fun H2 locs2 hI2 => ?_)
  exact lv_icmp_eq (tgt := 505) hx hb dLW_law_500 (by decide) (fun _ => k σ' τ' H2 locs2 hR' hI2.sw) (fun z => absurd rfl z)
