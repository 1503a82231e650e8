/-! THE LAW'S CALLS, one by one -/
def Jn (D : va_G) (ids : Nat → ClassId) (s : State) (S : SP) (F1 : Nat → Nat → Int) (A1 : Nat → Int → Int) (F2 : Nat → Nat → Int) (A2 : Nat → Int → Int) (H : Heap) (locs : List Loc) : Prop := RepC shC RC 386 S F1 A1 ∧ RepM S F2 A2 ∧ va_P D cl9 (mkW s.heap.size 386 (celE s.heap.size ids shC RC F1 A1)) H ∧ va_P D cl9 (mkW (s.heap.size + 386) 12 (celE (s.heap.size + 386) ids shM RM F2 A2)) H ∧ va_S (inH s.heap.size) s.heap H locs
theorem mid1 {D : va_G} {β : Nat} {E : Nat → va_E} {H H1 : Heap} (hP : va_P D cl9 (mkW (β + 386) 12 E) H) (same : ∀ q, q < H.size → ¬ inG β 386 q → H1[q]? = H[q]?) : va_P D cl9 (mkW (β + 386) 12 E) H1 := kept_of hP (fun k hk => same _ (hP k _ (mkW_get hk)).lt (fun q => by have := q.2; omega))
theorem mid2 {D : va_G} {β : Nat} {E : Nat → va_E} {H H1 : Heap} (hP : va_P D cl9 (mkW β 386 E) H) (same : ∀ q, q < H.size → ¬ inG (β + 386) 12 q → H1[q]? = H[q]?) : va_P D cl9 (mkW β 386 E) H1 := kept_of hP (fun k hk => same _ (hP k _ (mkW_get hk)).lt (fun q => by have := q.1; omega))
section LC
variable {p : Program} {e : Env} {s : State} {m : MethodId} {below : List Frame} {meth : Method} {c : Code} {b L : Nat} {xs : Nat → Int32} {D : va_G} {ids : Nat → ClassId} {H : Heap} {locs : List Loc} {ls : Array Slot} {stk : List Value}
theorem law_C (C0 : lw_At p s m meth c b L xs) : CallFix p m c code 4 s #[Value.ref b] TT RL := ⟨C0.1, C0.2.1, C0.2.2.2.1, C0.2.2.2.2.1, fun w hw => C0.2.2.2.2.2.1 w (TT_in w hw)⟩
theorem w_argL {l : Launch} {nc ns : Nat} {Q : State → Prop} {pc pc2 : Nat} (C0 : lw_At p s m meth c b L xs) (hL : L ≤ 4096) (hS : va_S (inH s.heap.size) s.heap H locs) {i k : Nat} (hl : lv_has ls 4 (lL b s.heap.size i)) (hi : i + k < L) {n2 : Nat} (hd0 : decode code pc = .ok (.aload_n 0, 1)) (hd1 : decode code (pc + 1) = .ok (.iload_n 3, 1)) (hd2 : (n2 = 1 ∧ decode code (pc + 2) = .ok (.iconst (k : Int), 1)) ∨ (n2 = 2 ∧ (Int8.ofInt (k : Int)).toInt32 = Int32.ofInt (k : Int) ∧ decode code (pc + 2) = .ok (.bipush (k : Int), 2))) (hd3 : decode code (pc + 2 + n2) = .ok (.iadd, 1)) (hd4 : decode code (pc + 3 + n2) = .ok (.iaload, 1)) (h2 : pc + 4 + n2 = pc2)
    (kk : W p l e room_1 s m #[Value.ref b] below meth c H locs nc ns Q (F0 m pc2 ls (.int (Int32.ofInt (xi xs (i + k))) :: stk))) : W p l e room_1 s m #[Value.ref b] below meth c H locs nc ns Q (F0 m pc ls stk) := by
  subst h2
  exact w_arg C0.1 C0.2.1 C0.2.2.2.2.2.2.1 C0.2.2.2.2.2.2.2.1 hS hL hl hi hd0 hd1 hd2 hd3 hd4 kk
set_option maxHeartbeats 4000000 in
theorem lc_0 (l : Launch) (C0 : lw_At p s m meth c b L xs) (hK : KN D ids s) (hL : L ≤ 4096) {i : Nat} (hi : i + 8 ≤ L) {S : SP} {F1 F2 : Nat → Nat → Int} {A1 A2 : Nat → Int → Int} (hl : lv_has ls 4 (lL b s.heap.size i)) (J : Jn D ids s S F1 A1 F2 A2 H locs) (next : ∀ (S : SP) (F1 : Nat → Nat → Int) (A1 : Nat → Int → Int) (F2 : Nat → Nat → Int) (A2 : Nat → Int → Int) (H : Heap) (locs : List Loc), Jn D ids s S F1 A1 F2 A2 H locs → W p l e room_1 s m #[Value.ref b] below meth c H locs 398 407099 (lw_Z below #[Value.ref b] s) (F0 m 1066 ls [])) : W p l e room_1 s m #[Value.ref b] below meth c H locs 398 407099 (lw_Z below #[Value.ref b] s) (F0 m 132 ls []) := by
  obtain ⟨hC1, hM2, hP1, hP2, hS⟩ := J
  have hx := C0.1
  have hb := C0.2.1
  refine lv_aload_n hx hb dL_132 rfl (lv_at hl 1 rfl) ?_
  refine w_argL (k := 1) (n2 := 1) (pc := 133) (pc2 := 138) C0 hL hS hl (by omega) dL_133 dL_134 (Or.inl ⟨rfl, dL_135⟩) dL_136 dL_137 rfl ?_
  refine w_cVi (β := s.heap.size) (b := 0) (ci := 7) (av := [pI (xi xs (i + 1))]) (law_C C0) hK (c_box l PbL_C hC1 (xi_i xs _)) lk_385 rfl rfl (by decide) (by decide) rfl ⟨Nat.le_of_ble_eq_true rfl, Nat.le_of_ble_eq_true rfl⟩ ⟨Nat.le_of_ble_eq_true rfl, Nat.le_of_ble_eq_true rfl⟩ hP1 hS (Nat.le_refl _) hl.1 rfl (Nat.le_of_ble_eq_true rfl) dL_138 ?_
  intro z1 F1b A1b H1 locs1 hq1 hP1b hS1 same1
  have hP2b := mid1 hP2 same1
  clear hS hP1 hP2 same1
  have hS := hS1
  refine lv_aload_n hx hb dL_141 rfl (lv_at hl 2 rfl) ?_
  refine w_argL (k := 1) (n2 := 1) (pc := 142) (pc2 := 147) C0 hL hS hl (by omega) dL_142 dL_143 (Or.inl ⟨rfl, dL_144⟩) dL_145 dL_146 rfl ?_
  refine w_cVi (β := s.heap.size + 386) (b := 0) (ci := 8) (av := [pI (xi xs (i + 1))]) (law_C C0) hK (q_box l MoL_M hM2 (xi_i xs _)) lk_868 rfl rfl (by decide) (by decide) rfl ⟨Nat.le_of_ble_eq_true rfl, Nat.le_of_ble_eq_true rfl⟩ ⟨Nat.le_of_ble_eq_true rfl, Nat.le_of_ble_eq_true rfl⟩ hP2b hS (Nat.le_add_right _ _) hl.1 rfl (Nat.le_of_ble_eq_true rfl) dL_147 ?_
  intro z2 F2b A2b H2 locs2 hq2 hP2c hS2 same2
  have hP1c := mid2 hP1b same2
  obtain ⟨rfl, hRa⟩ := hq1
  obtain ⟨rfl, hRb⟩ := hq2
  have fin := next _ F1b A1b F2b A2b H2 locs2 ⟨hRa, hRb, hP1c, hP2c, hS2⟩
  exact lv_icmp_eq (tgt := 1066) hx hb dL_150 rfl (fun _ => fin) (fun h => absurd rfl h)
set_option maxHeartbeats 4000000 in
theorem lc_1 (l : Launch) (C0 : lw_At p s m meth c b L xs) (hK : KN D ids s) (hL : L ≤ 4096) {i : Nat} (hi : i + 8 ≤ L) {S : SP} {F1 F2 : Nat → Nat → Int} {A1 A2 : Nat → Int → Int} (hl : lv_has ls 4 (lL b s.heap.size i)) (J : Jn D ids s S F1 A1 F2 A2 H locs) (next : ∀ (S : SP) (F1 : Nat → Nat → Int) (A1 : Nat → Int → Int) (F2 : Nat → Nat → Int) (A2 : Nat → Int → Int) (H : Heap) (locs : List Loc), Jn D ids s S F1 A1 F2 A2 H locs → W p l e room_1 s m #[Value.ref b] below meth c H locs 398 407099 (lw_Z below #[Value.ref b] s) (F0 m 1066 ls [])) : W p l e room_1 s m #[Value.ref b] below meth c H locs 398 407099 (lw_Z below #[Value.ref b] s) (F0 m 155 ls []) := by
  obtain ⟨hC1, hM2, hP1, hP2, hS⟩ := J
  have hx := C0.1
  have hb := C0.2.1
  refine lv_aload_n hx hb dL_155 rfl (lv_at hl 1 rfl) ?_
  refine w_argL (k := 1) (n2 := 1) (pc := 156) (pc2 := 161) C0 hL hS hl (by omega) dL_156 dL_157 (Or.inl ⟨rfl, dL_158⟩) dL_159 dL_160 rfl ?_
  refine w_argL (k := 2) (n2 := 1) (pc := 161) (pc2 := 166) C0 hL hS hl (by omega) dL_161 dL_162 (Or.inl ⟨rfl, dL_163⟩) dL_164 dL_165 rfl ?_
  refine w_argL (k := 3) (n2 := 1) (pc := 166) (pc2 := 171) C0 hL hS hl (by omega) dL_166 dL_167 (Or.inl ⟨rfl, dL_168⟩) dL_169 dL_170 rfl ?_
  refine w_argL (k := 4) (n2 := 1) (pc := 171) (pc2 := 176) C0 hL hS hl (by omega) dL_171 dL_172 (Or.inl ⟨rfl, dL_173⟩) dL_174 dL_175 rfl ?_
  refine w_argL (k := 5) (n2 := 1) (pc := 176) (pc2 := 181) C0 hL hS hl (by omega) dL_176 dL_177 (Or.inl ⟨rfl, dL_178⟩) dL_179 dL_180 rfl ?_
  refine w_argL (k := 6) (n2 := 2) (pc := 181) (pc2 := 187) C0 hL hS hl (by omega) dL_181 dL_182 (Or.inr ⟨rfl, rfl, dL_183⟩) dL_185 dL_186 rfl ?_
  refine w_argL (k := 7) (n2 := 2) (pc := 187) (pc2 := 193) C0 hL hS hl (by omega) dL_187 dL_188 (Or.inr ⟨rfl, rfl, dL_189⟩) dL_191 dL_192 rfl ?_
  refine w_cVi (β := s.heap.size) (b := 0) (ci := 7) (av := [pI (xi xs (i + 1)), pI (xi xs (i + 2)), pI (xi xs (i + 3)), pI (xi xs (i + 4)), pI (xi xs (i + 5)), pI (xi xs (i + 6)), pI (xi xs (i + 7))]) (law_C C0) hK (c_set l PbL_C hC1 (xi_i xs _) (xi_i xs _) (xi_i xs _) (xi_i xs _) (xi_i xs _) (xi_i xs _) (xi_i xs _)) lk_396 rfl rfl (by decide) (by decide) rfl ⟨Nat.le_of_ble_eq_true rfl, Nat.le_of_ble_eq_true rfl⟩ ⟨Nat.le_of_ble_eq_true rfl, Nat.le_of_ble_eq_true rfl⟩ hP1 hS (Nat.le_refl _) hl.1 rfl (Nat.le_of_ble_eq_true rfl) dL_193 ?_
  intro z1 F1b A1b H1 locs1 hq1 hP1b hS1 same1
  have hP2b := mid1 hP2 same1
  clear hS hP1 hP2 same1
  have hS := hS1
  refine lv_aload_n hx hb dL_196 rfl (lv_at hl 2 rfl) ?_
  refine w_argL (k := 1) (n2 := 1) (pc := 197) (pc2 := 202) C0 hL hS hl (by omega) dL_197 dL_198 (Or.inl ⟨rfl, dL_199⟩) dL_200 dL_201 rfl ?_
  refine w_argL (k := 2) (n2 := 1) (pc := 202) (pc2 := 207) C0 hL hS hl (by omega) dL_202 dL_203 (Or.inl ⟨rfl, dL_204⟩) dL_205 dL_206 rfl ?_
  refine w_argL (k := 3) (n2 := 1) (pc := 207) (pc2 := 212) C0 hL hS hl (by omega) dL_207 dL_208 (Or.inl ⟨rfl, dL_209⟩) dL_210 dL_211 rfl ?_
  refine w_argL (k := 4) (n2 := 1) (pc := 212) (pc2 := 217) C0 hL hS hl (by omega) dL_212 dL_213 (Or.inl ⟨rfl, dL_214⟩) dL_215 dL_216 rfl ?_
  refine w_argL (k := 5) (n2 := 1) (pc := 217) (pc2 := 222) C0 hL hS hl (by omega) dL_217 dL_218 (Or.inl ⟨rfl, dL_219⟩) dL_220 dL_221 rfl ?_
  refine w_argL (k := 6) (n2 := 2) (pc := 222) (pc2 := 228) C0 hL hS hl (by omega) dL_222 dL_223 (Or.inr ⟨rfl, rfl, dL_224⟩) dL_226 dL_227 rfl ?_
  refine w_argL (k := 7) (n2 := 2) (pc := 228) (pc2 := 234) C0 hL hS hl (by omega) dL_228 dL_229 (Or.inr ⟨rfl, rfl, dL_230⟩) dL_232 dL_233 rfl ?_
  refine w_cVi (β := s.heap.size + 386) (b := 0) (ci := 8) (av := [pI (xi xs (i + 1)), pI (xi xs (i + 2)), pI (xi xs (i + 3)), pI (xi xs (i + 4)), pI (xi xs (i + 5)), pI (xi xs (i + 6)), pI (xi xs (i + 7))]) (law_C C0) hK (q_set l MoL_M hM2 (xi_i xs _) (xi_i xs _) (xi_i xs _) (xi_i xs _) (xi_i xs _) (xi_i xs _) (xi_i xs _)) lk_876 rfl rfl (by decide) (by decide) rfl ⟨Nat.le_of_ble_eq_true rfl, Nat.le_of_ble_eq_true rfl⟩ ⟨Nat.le_of_ble_eq_true rfl, Nat.le_of_ble_eq_true rfl⟩ hP2b hS (Nat.le_add_right _ _) hl.1 rfl (Nat.le_of_ble_eq_true rfl) dL_234 ?_
  intro z2 F2b A2b H2 locs2 hq2 hP2c hS2 same2
  have hP1c := mid2 hP1b same2
  obtain ⟨rfl, hRa⟩ := hq1
  obtain ⟨rfl, hRb⟩ := hq2
  have fin := next _ F1b A1b F2b A2b H2 locs2 ⟨hRa, hRb, hP1c, hP2c, hS2⟩
  exact lv_icmp_eq (tgt := 1066) hx hb dL_237 rfl (fun _ => fin) (fun h => absurd rfl h)
set_option maxHeartbeats 4000000 in
theorem lc_2 (l : Launch) (C0 : lw_At p s m meth c b L xs) (hK : KN D ids s) (hL : L ≤ 4096) {i : Nat} (hi : i + 8 ≤ L) {S : SP} {F1 F2 : Nat → Nat → Int} {A1 A2 : Nat → Int → Int} (hl : lv_has ls 4 (lL b s.heap.size i)) (J : Jn D ids s S F1 A1 F2 A2 H locs) (next : ∀ (S : SP) (F1 : Nat → Nat → Int) (A1 : Nat → Int → Int) (F2 : Nat → Nat → Int) (A2 : Nat → Int → Int) (H : Heap) (locs : List Loc), Jn D ids s S F1 A1 F2 A2 H locs → W p l e room_1 s m #[Value.ref b] below meth c H locs 398 407099 (lw_Z below #[Value.ref b] s) (F0 m 1066 ls [])) : W p l e room_1 s m #[Value.ref b] below meth c H locs 398 407099 (lw_Z below #[Value.ref b] s) (F0 m 242 ls []) := by
  obtain ⟨hC1, hM2, hP1, hP2, hS⟩ := J
  have hx := C0.1
  have hb := C0.2.1
  refine lv_aload_n hx hb dL_242 rfl (lv_at hl 1 rfl) ?_
  refine w_argL (k := 1) (n2 := 1) (pc := 243) (pc2 := 248) C0 hL hS hl (by omega) dL_243 dL_244 (Or.inl ⟨rfl, dL_245⟩) dL_246 dL_247 rfl ?_
  refine w_argL (k := 2) (n2 := 1) (pc := 248) (pc2 := 253) C0 hL hS hl (by omega) dL_248 dL_249 (Or.inl ⟨rfl, dL_250⟩) dL_251 dL_252 rfl ?_
  refine w_argL (k := 3) (n2 := 1) (pc := 253) (pc2 := 258) C0 hL hS hl (by omega) dL_253 dL_254 (Or.inl ⟨rfl, dL_255⟩) dL_256 dL_257 rfl ?_
  refine w_argL (k := 4) (n2 := 1) (pc := 258) (pc2 := 263) C0 hL hS hl (by omega) dL_258 dL_259 (Or.inl ⟨rfl, dL_260⟩) dL_261 dL_262 rfl ?_
  refine w_argL (k := 5) (n2 := 1) (pc := 263) (pc2 := 268) C0 hL hS hl (by omega) dL_263 dL_264 (Or.inl ⟨rfl, dL_265⟩) dL_266 dL_267 rfl ?_
  refine w_argL (k := 6) (n2 := 2) (pc := 268) (pc2 := 274) C0 hL hS hl (by omega) dL_268 dL_269 (Or.inr ⟨rfl, rfl, dL_270⟩) dL_272 dL_273 rfl ?_
  refine w_cVi (β := s.heap.size) (b := 0) (ci := 7) (av := [pI (xi xs (i + 1)), pI (xi xs (i + 2)), pI (xi xs (i + 3)), pI (xi xs (i + 4)), pI (xi xs (i + 5)), pI (xi xs (i + 6))]) (law_C C0) hK (c_all l PbL_C hC1 (xi_i xs _) (xi_i xs _) (xi_i xs _) (xi_i xs _) (xi_i xs _) (xi_i xs _)) lk_443 rfl rfl (by decide) (by decide) rfl ⟨Nat.le_of_ble_eq_true rfl, Nat.le_of_ble_eq_true rfl⟩ ⟨Nat.le_of_ble_eq_true rfl, Nat.le_of_ble_eq_true rfl⟩ hP1 hS (Nat.le_refl _) hl.1 rfl (Nat.le_of_ble_eq_true rfl) dL_274 ?_
  intro z1 F1b A1b H1 locs1 hq1 hP1b hS1 same1
  have hP2b := mid1 hP2 same1
  clear hS hP1 hP2 same1
  have hS := hS1
  refine lv_aload_n hx hb dL_277 rfl (lv_at hl 2 rfl) ?_
  refine w_argL (k := 1) (n2 := 1) (pc := 278) (pc2 := 283) C0 hL hS hl (by omega) dL_278 dL_279 (Or.inl ⟨rfl, dL_280⟩) dL_281 dL_282 rfl ?_
  refine w_argL (k := 2) (n2 := 1) (pc := 283) (pc2 := 288) C0 hL hS hl (by omega) dL_283 dL_284 (Or.inl ⟨rfl, dL_285⟩) dL_286 dL_287 rfl ?_
  refine w_argL (k := 3) (n2 := 1) (pc := 288) (pc2 := 293) C0 hL hS hl (by omega) dL_288 dL_289 (Or.inl ⟨rfl, dL_290⟩) dL_291 dL_292 rfl ?_
  refine w_argL (k := 4) (n2 := 1) (pc := 293) (pc2 := 298) C0 hL hS hl (by omega) dL_293 dL_294 (Or.inl ⟨rfl, dL_295⟩) dL_296 dL_297 rfl ?_
  refine w_argL (k := 5) (n2 := 1) (pc := 298) (pc2 := 303) C0 hL hS hl (by omega) dL_298 dL_299 (Or.inl ⟨rfl, dL_300⟩) dL_301 dL_302 rfl ?_
  refine w_argL (k := 6) (n2 := 2) (pc := 303) (pc2 := 309) C0 hL hS hl (by omega) dL_303 dL_304 (Or.inr ⟨rfl, rfl, dL_305⟩) dL_307 dL_308 rfl ?_
  refine w_cVi (β := s.heap.size + 386) (b := 0) (ci := 8) (av := [pI (xi xs (i + 1)), pI (xi xs (i + 2)), pI (xi xs (i + 3)), pI (xi xs (i + 4)), pI (xi xs (i + 5)), pI (xi xs (i + 6))]) (law_C C0) hK (q_all l MoL_M hM2 (xi_i xs _) (xi_i xs _) (xi_i xs _) (xi_i xs _) (xi_i xs _) (xi_i xs _)) lk_965 rfl rfl (by decide) (by decide) rfl ⟨Nat.le_of_ble_eq_true rfl, Nat.le_of_ble_eq_true rfl⟩ ⟨Nat.le_of_ble_eq_true rfl, Nat.le_of_ble_eq_true rfl⟩ hP2b hS (Nat.le_add_right _ _) hl.1 rfl (Nat.le_of_ble_eq_true rfl) dL_309 ?_
  intro z2 F2b A2b H2 locs2 hq2 hP2c hS2 same2
  have hP1c := mid2 hP1b same2
  obtain ⟨rfl, hRa⟩ := hq1
  obtain ⟨rfl, hRb⟩ := hq2
  have fin := next _ F1b A1b F2b A2b H2 locs2 ⟨hRa, hRb, hP1c, hP2c, hS2⟩
  exact lv_icmp_eq (tgt := 1066) hx hb dL_312 rfl (fun _ => fin) (fun h => absurd rfl h)
set_option maxHeartbeats 4000000 in
theorem lc_3 (l : Launch) (C0 : lw_At p s m meth c b L xs) (hK : KN D ids s) (hL : L ≤ 4096) {i : Nat} (hi : i + 8 ≤ L) {S : SP} {F1 F2 : Nat → Nat → Int} {A1 A2 : Nat → Int → Int} (hl : lv_has ls 4 (lL b s.heap.size i)) (J : Jn D ids s S F1 A1 F2 A2 H locs) (next : ∀ (S : SP) (F1 : Nat → Nat → Int) (A1 : Nat → Int → Int) (F2 : Nat → Nat → Int) (A2 : Nat → Int → Int) (H : Heap) (locs : List Loc), Jn D ids s S F1 A1 F2 A2 H locs → W p l e room_1 s m #[Value.ref b] below meth c H locs 398 407099 (lw_Z below #[Value.ref b] s) (F0 m 1066 ls [])) : W p l e room_1 s m #[Value.ref b] below meth c H locs 398 407099 (lw_Z below #[Value.ref b] s) (F0 m 317 ls []) := by
  obtain ⟨hC1, hM2, hP1, hP2, hS⟩ := J
  have hx := C0.1
  have hb := C0.2.1
  refine lv_aload_n hx hb dL_317 rfl (lv_at hl 1 rfl) ?_
  refine w_argL (k := 1) (n2 := 1) (pc := 318) (pc2 := 323) C0 hL hS hl (by omega) dL_318 dL_319 (Or.inl ⟨rfl, dL_320⟩) dL_321 dL_322 rfl ?_
  refine w_argL (k := 2) (n2 := 1) (pc := 323) (pc2 := 328) C0 hL hS hl (by omega) dL_323 dL_324 (Or.inl ⟨rfl, dL_325⟩) dL_326 dL_327 rfl ?_
  refine w_cVi (β := s.heap.size) (b := 0) (ci := 7) (av := [pI (xi xs (i + 1)), pI (xi xs (i + 2))]) (law_C C0) hK (c_copy l PbL_C hC1 (xi_i xs _) (xi_i xs _)) lk_447 rfl rfl (by decide) (by decide) rfl ⟨Nat.le_of_ble_eq_true rfl, Nat.le_of_ble_eq_true rfl⟩ ⟨Nat.le_of_ble_eq_true rfl, Nat.le_of_ble_eq_true rfl⟩ hP1 hS (Nat.le_refl _) hl.1 rfl (Nat.le_of_ble_eq_true rfl) dL_328 ?_
  intro z1 F1b A1b H1 locs1 hq1 hP1b hS1 same1
  have hP2b := mid1 hP2 same1
  clear hS hP1 hP2 same1
  have hS := hS1
  refine lv_aload_n hx hb dL_331 rfl (lv_at hl 2 rfl) ?_
  refine w_argL (k := 1) (n2 := 1) (pc := 332) (pc2 := 337) C0 hL hS hl (by omega) dL_332 dL_333 (Or.inl ⟨rfl, dL_334⟩) dL_335 dL_336 rfl ?_
  refine w_argL (k := 2) (n2 := 1) (pc := 337) (pc2 := 342) C0 hL hS hl (by omega) dL_337 dL_338 (Or.inl ⟨rfl, dL_339⟩) dL_340 dL_341 rfl ?_
  refine w_cVi (β := s.heap.size + 386) (b := 0) (ci := 8) (av := [pI (xi xs (i + 1)), pI (xi xs (i + 2))]) (law_C C0) hK (q_copy l MoL_M hM2 (xi_i xs _) (xi_i xs _)) lk_969 rfl rfl (by decide) (by decide) rfl ⟨Nat.le_of_ble_eq_true rfl, Nat.le_of_ble_eq_true rfl⟩ ⟨Nat.le_of_ble_eq_true rfl, Nat.le_of_ble_eq_true rfl⟩ hP2b hS (Nat.le_add_right _ _) hl.1 rfl (Nat.le_of_ble_eq_true rfl) dL_342 ?_
  intro z2 F2b A2b H2 locs2 hq2 hP2c hS2 same2
  have hP1c := mid2 hP1b same2
  obtain ⟨rfl, hRa⟩ := hq1
  obtain ⟨rfl, hRb⟩ := hq2
  have fin := next _ F1b A1b F2b A2b H2 locs2 ⟨hRa, hRb, hP1c, hP2c, hS2⟩
  exact lv_icmp_eq (tgt := 1066) hx hb dL_345 rfl (fun _ => fin) (fun h => absurd rfl h)
set_option maxHeartbeats 4000000 in
theorem lc_4 (l : Launch) (C0 : lw_At p s m meth c b L xs) (hK : KN D ids s) (hL : L ≤ 4096) {i : Nat} (hi : i + 8 ≤ L) {S : SP} {F1 F2 : Nat → Nat → Int} {A1 A2 : Nat → Int → Int} (hl : lv_has ls 4 (lL b s.heap.size i)) (J : Jn D ids s S F1 A1 F2 A2 H locs) (next : ∀ (S : SP) (F1 : Nat → Nat → Int) (A1 : Nat → Int → Int) (F2 : Nat → Nat → Int) (A2 : Nat → Int → Int) (H : Heap) (locs : List Loc), Jn D ids s S F1 A1 F2 A2 H locs → W p l e room_1 s m #[Value.ref b] below meth c H locs 398 407099 (lw_Z below #[Value.ref b] s) (F0 m 1066 ls [])) : W p l e room_1 s m #[Value.ref b] below meth c H locs 398 407099 (lw_Z below #[Value.ref b] s) (F0 m 350 ls []) := by
  obtain ⟨hC1, hM2, hP1, hP2, hS⟩ := J
  have hx := C0.1
  have hb := C0.2.1
  refine lv_aload_n hx hb dL_350 rfl (lv_at hl 1 rfl) ?_
  refine w_argL (k := 1) (n2 := 1) (pc := 351) (pc2 := 356) C0 hL hS hl (by omega) dL_351 dL_352 (Or.inl ⟨rfl, dL_353⟩) dL_354 dL_355 rfl ?_
  refine w_argL (k := 2) (n2 := 1) (pc := 356) (pc2 := 361) C0 hL hS hl (by omega) dL_356 dL_357 (Or.inl ⟨rfl, dL_358⟩) dL_359 dL_360 rfl ?_
  refine w_argL (k := 3) (n2 := 1) (pc := 361) (pc2 := 366) C0 hL hS hl (by omega) dL_361 dL_362 (Or.inl ⟨rfl, dL_363⟩) dL_364 dL_365 rfl ?_
  refine w_cVi (β := s.heap.size) (b := 0) (ci := 7) (av := [pI (xi xs (i + 1)), pI (xi xs (i + 2)), pI (xi xs (i + 3))]) (law_C C0) hK (c_join l PbL_C hC1 (xi_i xs _) (xi_i xs _) (xi_i xs _)) lk_456 rfl rfl (by decide) (by decide) rfl ⟨Nat.le_of_ble_eq_true rfl, Nat.le_of_ble_eq_true rfl⟩ ⟨Nat.le_of_ble_eq_true rfl, Nat.le_of_ble_eq_true rfl⟩ hP1 hS (Nat.le_refl _) hl.1 rfl (Nat.le_of_ble_eq_true rfl) dL_366 ?_
  intro z1 F1b A1b H1 locs1 hq1 hP1b hS1 same1
  have hP2b := mid1 hP2 same1
  clear hS hP1 hP2 same1
  have hS := hS1
  refine lv_aload_n hx hb dL_369 rfl (lv_at hl 2 rfl) ?_
  refine w_argL (k := 1) (n2 := 1) (pc := 370) (pc2 := 375) C0 hL hS hl (by omega) dL_370 dL_371 (Or.inl ⟨rfl, dL_372⟩) dL_373 dL_374 rfl ?_
  refine w_argL (k := 2) (n2 := 1) (pc := 375) (pc2 := 380) C0 hL hS hl (by omega) dL_375 dL_376 (Or.inl ⟨rfl, dL_377⟩) dL_378 dL_379 rfl ?_
  refine w_argL (k := 3) (n2 := 1) (pc := 380) (pc2 := 385) C0 hL hS hl (by omega) dL_380 dL_381 (Or.inl ⟨rfl, dL_382⟩) dL_383 dL_384 rfl ?_
  refine w_cVi (β := s.heap.size + 386) (b := 0) (ci := 8) (av := [pI (xi xs (i + 1)), pI (xi xs (i + 2)), pI (xi xs (i + 3))]) (law_C C0) hK (q_join l MoL_M hM2 (xi_i xs _) (xi_i xs _) (xi_i xs _)) lk_973 rfl rfl (by decide) (by decide) rfl ⟨Nat.le_of_ble_eq_true rfl, Nat.le_of_ble_eq_true rfl⟩ ⟨Nat.le_of_ble_eq_true rfl, Nat.le_of_ble_eq_true rfl⟩ hP2b hS (Nat.le_add_right _ _) hl.1 rfl (Nat.le_of_ble_eq_true rfl) dL_385 ?_
  intro z2 F2b A2b H2 locs2 hq2 hP2c hS2 same2
  have hP1c := mid2 hP1b same2
  obtain ⟨Sa, ra, hRa⟩ := hq1
  obtain ⟨Sb, rb, hRb⟩ := hq2
  obtain ⟨rfl, rfl⟩ := actR.det ra rb
  have fin := next Sa F1b A1b F2b A2b H2 locs2 ⟨hRa, hRb, hP1c, hP2c, hS2⟩
  exact lv_icmp_eq (tgt := 1066) hx hb dL_388 rfl (fun _ => fin) (fun h => absurd rfl h)
set_option maxHeartbeats 4000000 in
theorem lc_5 (l : Launch) (C0 : lw_At p s m meth c b L xs) (hK : KN D ids s) (hL : L ≤ 4096) {i : Nat} (hi : i + 8 ≤ L) {S : SP} {F1 F2 : Nat → Nat → Int} {A1 A2 : Nat → Int → Int} (hl : lv_has ls 4 (lL b s.heap.size i)) (J : Jn D ids s S F1 A1 F2 A2 H locs) (next : ∀ (S : SP) (F1 : Nat → Nat → Int) (A1 : Nat → Int → Int) (F2 : Nat → Nat → Int) (A2 : Nat → Int → Int) (H : Heap) (locs : List Loc), Jn D ids s S F1 A1 F2 A2 H locs → W p l e room_1 s m #[Value.ref b] below meth c H locs 398 407099 (lw_Z below #[Value.ref b] s) (F0 m 1066 ls [])) : W p l e room_1 s m #[Value.ref b] below meth c H locs 398 407099 (lw_Z below #[Value.ref b] s) (F0 m 393 ls []) := by
  obtain ⟨hC1, hM2, hP1, hP2, hS⟩ := J
  have hx := C0.1
  have hb := C0.2.1
  refine lv_aload_n hx hb dL_393 rfl (lv_at hl 1 rfl) ?_
  refine w_argL (k := 1) (n2 := 1) (pc := 394) (pc2 := 399) C0 hL hS hl (by omega) dL_394 dL_395 (Or.inl ⟨rfl, dL_396⟩) dL_397 dL_398 rfl ?_
  refine w_argL (k := 2) (n2 := 1) (pc := 399) (pc2 := 404) C0 hL hS hl (by omega) dL_399 dL_400 (Or.inl ⟨rfl, dL_401⟩) dL_402 dL_403 rfl ?_
  refine w_argL (k := 3) (n2 := 1) (pc := 404) (pc2 := 409) C0 hL hS hl (by omega) dL_404 dL_405 (Or.inl ⟨rfl, dL_406⟩) dL_407 dL_408 rfl ?_
  refine w_argL (k := 4) (n2 := 1) (pc := 409) (pc2 := 414) C0 hL hS hl (by omega) dL_409 dL_410 (Or.inl ⟨rfl, dL_411⟩) dL_412 dL_413 rfl ?_
  refine w_cVi (β := s.heap.size) (b := 0) (ci := 7) (av := [pI (xi xs (i + 1)), pI (xi xs (i + 2)), pI (xi xs (i + 3)), pI (xi xs (i + 4))]) (law_C C0) hK (c_takeOff l PbL_C hC1 (xi_i xs _) (xi_i xs _) (xi_i xs _) (xi_i xs _)) lk_642 rfl rfl (by decide) (by decide) rfl ⟨Nat.le_of_ble_eq_true rfl, Nat.le_of_ble_eq_true rfl⟩ ⟨Nat.le_of_ble_eq_true rfl, Nat.le_of_ble_eq_true rfl⟩ hP1 hS (Nat.le_refl _) hl.1 rfl (Nat.le_of_ble_eq_true rfl) dL_414 ?_
  intro z1 F1b A1b H1 locs1 hq1 hP1b hS1 same1
  have hP2b := mid1 hP2 same1
  clear hS hP1 hP2 same1
  have hS := hS1
  refine lv_aload_n hx hb dL_417 rfl (lv_at hl 2 rfl) ?_
  refine w_argL (k := 1) (n2 := 1) (pc := 418) (pc2 := 423) C0 hL hS hl (by omega) dL_418 dL_419 (Or.inl ⟨rfl, dL_420⟩) dL_421 dL_422 rfl ?_
  refine w_argL (k := 2) (n2 := 1) (pc := 423) (pc2 := 428) C0 hL hS hl (by omega) dL_423 dL_424 (Or.inl ⟨rfl, dL_425⟩) dL_426 dL_427 rfl ?_
  refine w_argL (k := 3) (n2 := 1) (pc := 428) (pc2 := 433) C0 hL hS hl (by omega) dL_428 dL_429 (Or.inl ⟨rfl, dL_430⟩) dL_431 dL_432 rfl ?_
  refine w_argL (k := 4) (n2 := 1) (pc := 433) (pc2 := 438) C0 hL hS hl (by omega) dL_433 dL_434 (Or.inl ⟨rfl, dL_435⟩) dL_436 dL_437 rfl ?_
  refine w_cVi (β := s.heap.size + 386) (b := 0) (ci := 8) (av := [pI (xi xs (i + 1)), pI (xi xs (i + 2)), pI (xi xs (i + 3)), pI (xi xs (i + 4))]) (law_C C0) hK (q_takeOff l MoL_M hM2 (xi_i xs _) (xi_i xs _) (xi_i xs _) (xi_i xs _)) lk_1056 rfl rfl (by decide) (by decide) rfl ⟨Nat.le_of_ble_eq_true rfl, Nat.le_of_ble_eq_true rfl⟩ ⟨Nat.le_of_ble_eq_true rfl, Nat.le_of_ble_eq_true rfl⟩ hP2b hS (Nat.le_add_right _ _) hl.1 rfl (Nat.le_of_ble_eq_true rfl) dL_438 ?_
  intro z2 F2b A2b H2 locs2 hq2 hP2c hS2 same2
  have hP1c := mid2 hP1b same2
  obtain ⟨Sa, ra, hRa⟩ := hq1
  obtain ⟨Sb, rb, hRb⟩ := hq2
  obtain ⟨rfl, rfl⟩ := actR.det ra rb
  have fin := next Sa F1b A1b F2b A2b H2 locs2 ⟨hRa, hRb, hP1c, hP2c, hS2⟩
  exact lv_icmp_eq (tgt := 1066) hx hb dL_441 rfl (fun _ => fin) (fun h => absurd rfl h)
set_option maxHeartbeats 4000000 in
theorem lc_6 (l : Launch) (C0 : lw_At p s m meth c b L xs) (hK : KN D ids s) (hL : L ≤ 4096) {i : Nat} (hi : i + 8 ≤ L) {S : SP} {F1 F2 : Nat → Nat → Int} {A1 A2 : Nat → Int → Int} (hl : lv_has ls 4 (lL b s.heap.size i)) (J : Jn D ids s S F1 A1 F2 A2 H locs) (next : ∀ (S : SP) (F1 : Nat → Nat → Int) (A1 : Nat → Int → Int) (F2 : Nat → Nat → Int) (A2 : Nat → Int → Int) (H : Heap) (locs : List Loc), Jn D ids s S F1 A1 F2 A2 H locs → W p l e room_1 s m #[Value.ref b] below meth c H locs 398 407099 (lw_Z below #[Value.ref b] s) (F0 m 1066 ls [])) : W p l e room_1 s m #[Value.ref b] below meth c H locs 398 407099 (lw_Z below #[Value.ref b] s) (F0 m 446 ls []) := by
  obtain ⟨hC1, hM2, hP1, hP2, hS⟩ := J
  have hx := C0.1
  have hb := C0.2.1
  refine lv_aload_n hx hb dL_446 rfl (lv_at hl 1 rfl) ?_
  refine w_argL (k := 1) (n2 := 1) (pc := 447) (pc2 := 452) C0 hL hS hl (by omega) dL_447 dL_448 (Or.inl ⟨rfl, dL_449⟩) dL_450 dL_451 rfl ?_
  refine w_argL (k := 2) (n2 := 1) (pc := 452) (pc2 := 457) C0 hL hS hl (by omega) dL_452 dL_453 (Or.inl ⟨rfl, dL_454⟩) dL_455 dL_456 rfl ?_
  refine w_cVi (β := s.heap.size) (b := 0) (ci := 7) (av := [pI (xi xs (i + 1)), pI (xi xs (i + 2))]) (law_C C0) hK (c_turn l PbL_C hC1 (xi_i xs _) (xi_i xs _)) lk_650 rfl rfl (by decide) (by decide) rfl ⟨Nat.le_of_ble_eq_true rfl, Nat.le_of_ble_eq_true rfl⟩ ⟨Nat.le_of_ble_eq_true rfl, Nat.le_of_ble_eq_true rfl⟩ hP1 hS (Nat.le_refl _) hl.1 rfl (Nat.le_of_ble_eq_true rfl) dL_457 ?_
  intro z1 F1b A1b H1 locs1 hq1 hP1b hS1 same1
  have hP2b := mid1 hP2 same1
  clear hS hP1 hP2 same1
  have hS := hS1
  refine lv_aload_n hx hb dL_460 rfl (lv_at hl 2 rfl) ?_
  refine w_argL (k := 1) (n2 := 1) (pc := 461) (pc2 := 466) C0 hL hS hl (by omega) dL_461 dL_462 (Or.inl ⟨rfl, dL_463⟩) dL_464 dL_465 rfl ?_
  refine w_argL (k := 2) (n2 := 1) (pc := 466) (pc2 := 471) C0 hL hS hl (by omega) dL_466 dL_467 (Or.inl ⟨rfl, dL_468⟩) dL_469 dL_470 rfl ?_
  refine w_cVi (β := s.heap.size + 386) (b := 0) (ci := 8) (av := [pI (xi xs (i + 1)), pI (xi xs (i + 2))]) (law_C C0) hK (q_turn l MoL_M hM2 (xi_i xs _) (xi_i xs _)) lk_1068 rfl rfl (by decide) (by decide) rfl ⟨Nat.le_of_ble_eq_true rfl, Nat.le_of_ble_eq_true rfl⟩ ⟨Nat.le_of_ble_eq_true rfl, Nat.le_of_ble_eq_true rfl⟩ hP2b hS (Nat.le_add_right _ _) hl.1 rfl (Nat.le_of_ble_eq_true rfl) dL_471 ?_
  intro z2 F2b A2b H2 locs2 hq2 hP2c hS2 same2
  have hP1c := mid2 hP1b same2
  obtain ⟨rfl, hRa⟩ := hq1
  obtain ⟨rfl, hRb⟩ := hq2
  have fin := next _ F1b A1b F2b A2b H2 locs2 ⟨hRa, hRb, hP1c, hP2c, hS2⟩
  exact lv_icmp_eq (tgt := 1066) hx hb dL_474 rfl (fun _ => fin) (fun h => absurd rfl h)
set_option maxHeartbeats 4000000 in
theorem lc_7 (l : Launch) (C0 : lw_At p s m meth c b L xs) (hK : KN D ids s) (hL : L ≤ 4096) {i : Nat} (hi : i + 8 ≤ L) {S : SP} {F1 F2 : Nat → Nat → Int} {A1 A2 : Nat → Int → Int} (hl : lv_has ls 4 (lL b s.heap.size i)) (J : Jn D ids s S F1 A1 F2 A2 H locs) (next : ∀ (S : SP) (F1 : Nat → Nat → Int) (A1 : Nat → Int → Int) (F2 : Nat → Nat → Int) (A2 : Nat → Int → Int) (H : Heap) (locs : List Loc), Jn D ids s S F1 A1 F2 A2 H locs → W p l e room_1 s m #[Value.ref b] below meth c H locs 398 407099 (lw_Z below #[Value.ref b] s) (F0 m 1066 ls [])) : W p l e room_1 s m #[Value.ref b] below meth c H locs 398 407099 (lw_Z below #[Value.ref b] s) (F0 m 479 ls []) := by
  obtain ⟨hC1, hM2, hP1, hP2, hS⟩ := J
  have hx := C0.1
  have hb := C0.2.1
  refine lv_aload_n hx hb dL_479 rfl (lv_at hl 1 rfl) ?_
  refine w_argL (k := 1) (n2 := 1) (pc := 480) (pc2 := 485) C0 hL hS hl (by omega) dL_480 dL_481 (Or.inl ⟨rfl, dL_482⟩) dL_483 dL_484 rfl ?_
  refine w_argL (k := 2) (n2 := 1) (pc := 485) (pc2 := 490) C0 hL hS hl (by omega) dL_485 dL_486 (Or.inl ⟨rfl, dL_487⟩) dL_488 dL_489 rfl ?_
  refine w_argL (k := 3) (n2 := 1) (pc := 490) (pc2 := 495) C0 hL hS hl (by omega) dL_490 dL_491 (Or.inl ⟨rfl, dL_492⟩) dL_493 dL_494 rfl ?_
  refine w_cVi (β := s.heap.size) (b := 0) (ci := 7) (av := [pI (xi xs (i + 1)), pI (xi xs (i + 2)), pI (xi xs (i + 3))]) (law_C C0) hK (c_close l PbL_C hC1 (xi_i xs _) (xi_i xs _) (xi_i xs _)) lk_658 rfl rfl (by decide) (by decide) rfl ⟨Nat.le_of_ble_eq_true rfl, Nat.le_of_ble_eq_true rfl⟩ ⟨Nat.le_of_ble_eq_true rfl, Nat.le_of_ble_eq_true rfl⟩ hP1 hS (Nat.le_refl _) hl.1 rfl (Nat.le_of_ble_eq_true rfl) dL_495 ?_
  intro z1 F1b A1b H1 locs1 hq1 hP1b hS1 same1
  have hP2b := mid1 hP2 same1
  clear hS hP1 hP2 same1
  have hS := hS1
  refine lv_aload_n hx hb dL_498 rfl (lv_at hl 2 rfl) ?_
  refine w_argL (k := 1) (n2 := 1) (pc := 499) (pc2 := 504) C0 hL hS hl (by omega) dL_499 dL_500 (Or.inl ⟨rfl, dL_501⟩) dL_502 dL_503 rfl ?_
  refine w_argL (k := 2) (n2 := 1) (pc := 504) (pc2 := 509) C0 hL hS hl (by omega) dL_504 dL_505 (Or.inl ⟨rfl, dL_506⟩) dL_507 dL_508 rfl ?_
  refine w_argL (k := 3) (n2 := 1) (pc := 509) (pc2 := 514) C0 hL hS hl (by omega) dL_509 dL_510 (Or.inl ⟨rfl, dL_511⟩) dL_512 dL_513 rfl ?_
  refine w_cVi (β := s.heap.size + 386) (b := 0) (ci := 8) (av := [pI (xi xs (i + 1)), pI (xi xs (i + 2)), pI (xi xs (i + 3))]) (law_C C0) hK (q_close l MoL_M hM2 (xi_i xs _) (xi_i xs _) (xi_i xs _)) lk_1072 rfl rfl (by decide) (by decide) rfl ⟨Nat.le_of_ble_eq_true rfl, Nat.le_of_ble_eq_true rfl⟩ ⟨Nat.le_of_ble_eq_true rfl, Nat.le_of_ble_eq_true rfl⟩ hP2b hS (Nat.le_add_right _ _) hl.1 rfl (Nat.le_of_ble_eq_true rfl) dL_514 ?_
  intro z2 F2b A2b H2 locs2 hq2 hP2c hS2 same2
  have hP1c := mid2 hP1b same2
  obtain ⟨Sa, ra, hRa⟩ := hq1
  obtain ⟨Sb, rb, hRb⟩ := hq2
  obtain ⟨rfl, rfl⟩ := actR.det ra rb
  have fin := next Sa F1b A1b F2b A2b H2 locs2 ⟨hRa, hRb, hP1c, hP2c, hS2⟩
  exact lv_icmp_eq (tgt := 1066) hx hb dL_517 rfl (fun _ => fin) (fun h => absurd rfl h)
set_option maxHeartbeats 4000000 in
theorem lc_8 (l : Launch) (C0 : lw_At p s m meth c b L xs) (hK : KN D ids s) (hL : L ≤ 4096) {i : Nat} (hi : i + 8 ≤ L) {S : SP} {F1 F2 : Nat → Nat → Int} {A1 A2 : Nat → Int → Int} (hl : lv_has ls 4 (lL b s.heap.size i)) (J : Jn D ids s S F1 A1 F2 A2 H locs) (next : ∀ (S : SP) (F1 : Nat → Nat → Int) (A1 : Nat → Int → Int) (F2 : Nat → Nat → Int) (A2 : Nat → Int → Int) (H : Heap) (locs : List Loc), Jn D ids s S F1 A1 F2 A2 H locs → W p l e room_1 s m #[Value.ref b] below meth c H locs 398 407099 (lw_Z below #[Value.ref b] s) (F0 m 1066 ls [])) : W p l e room_1 s m #[Value.ref b] below meth c H locs 398 407099 (lw_Z below #[Value.ref b] s) (F0 m 522 ls []) := by
  obtain ⟨hC1, hM2, hP1, hP2, hS⟩ := J
  have hx := C0.1
  have hb := C0.2.1
  refine lv_aload_n hx hb dL_522 rfl (lv_at hl 1 rfl) ?_
  refine w_argL (k := 1) (n2 := 1) (pc := 523) (pc2 := 528) C0 hL hS hl (by omega) dL_523 dL_524 (Or.inl ⟨rfl, dL_525⟩) dL_526 dL_527 rfl ?_
  refine w_argL (k := 2) (n2 := 1) (pc := 528) (pc2 := 533) C0 hL hS hl (by omega) dL_528 dL_529 (Or.inl ⟨rfl, dL_530⟩) dL_531 dL_532 rfl ?_
  refine w_argL (k := 3) (n2 := 1) (pc := 533) (pc2 := 538) C0 hL hS hl (by omega) dL_533 dL_534 (Or.inl ⟨rfl, dL_535⟩) dL_536 dL_537 rfl ?_
  refine w_cVi (β := s.heap.size) (b := 0) (ci := 7) (av := [pI (xi xs (i + 1)), pI (xi xs (i + 2)), pI (xi xs (i + 3))]) (law_C C0) hK (c_learn l PbL_C hC1 (xi_i xs _) (xi_i xs _) (xi_i xs _)) lk_666 rfl rfl (by decide) (by decide) rfl ⟨Nat.le_of_ble_eq_true rfl, Nat.le_of_ble_eq_true rfl⟩ ⟨Nat.le_of_ble_eq_true rfl, Nat.le_of_ble_eq_true rfl⟩ hP1 hS (Nat.le_refl _) hl.1 rfl (Nat.le_of_ble_eq_true rfl) dL_538 ?_
  intro z1 F1b A1b H1 locs1 hq1 hP1b hS1 same1
  have hP2b := mid1 hP2 same1
  clear hS hP1 hP2 same1
  have hS := hS1
  refine lv_aload_n hx hb dL_541 rfl (lv_at hl 2 rfl) ?_
  refine w_argL (k := 1) (n2 := 1) (pc := 542) (pc2 := 547) C0 hL hS hl (by omega) dL_542 dL_543 (Or.inl ⟨rfl, dL_544⟩) dL_545 dL_546 rfl ?_
  refine w_argL (k := 2) (n2 := 1) (pc := 547) (pc2 := 552) C0 hL hS hl (by omega) dL_547 dL_548 (Or.inl ⟨rfl, dL_549⟩) dL_550 dL_551 rfl ?_
  refine w_argL (k := 3) (n2 := 1) (pc := 552) (pc2 := 557) C0 hL hS hl (by omega) dL_552 dL_553 (Or.inl ⟨rfl, dL_554⟩) dL_555 dL_556 rfl ?_
  refine w_cVi (β := s.heap.size + 386) (b := 0) (ci := 8) (av := [pI (xi xs (i + 1)), pI (xi xs (i + 2)), pI (xi xs (i + 3))]) (law_C C0) hK (q_learn l MoL_M hM2 (xi_i xs _) (xi_i xs _) (xi_i xs _)) lk_1076 rfl rfl (by decide) (by decide) rfl ⟨Nat.le_of_ble_eq_true rfl, Nat.le_of_ble_eq_true rfl⟩ ⟨Nat.le_of_ble_eq_true rfl, Nat.le_of_ble_eq_true rfl⟩ hP2b hS (Nat.le_add_right _ _) hl.1 rfl (Nat.le_of_ble_eq_true rfl) dL_557 ?_
  intro z2 F2b A2b H2 locs2 hq2 hP2c hS2 same2
  have hP1c := mid2 hP1b same2
  obtain ⟨Sa, ra, hRa⟩ := hq1
  obtain ⟨Sb, rb, hRb⟩ := hq2
  obtain ⟨rfl, rfl⟩ := actR.det ra rb
  have fin := next Sa F1b A1b F2b A2b H2 locs2 ⟨hRa, hRb, hP1c, hP2c, hS2⟩
  exact lv_icmp_eq (tgt := 1066) hx hb dL_560 rfl (fun _ => fin) (fun h => absurd rfl h)
set_option maxHeartbeats 4000000 in
theorem lc_9 (l : Launch) (C0 : lw_At p s m meth c b L xs) (hK : KN D ids s) (hL : L ≤ 4096) {i : Nat} (hi : i + 8 ≤ L) {S : SP} {F1 F2 : Nat → Nat → Int} {A1 A2 : Nat → Int → Int} (hl : lv_has ls 4 (lL b s.heap.size i)) (J : Jn D ids s S F1 A1 F2 A2 H locs) (next : ∀ (S : SP) (F1 : Nat → Nat → Int) (A1 : Nat → Int → Int) (F2 : Nat → Nat → Int) (A2 : Nat → Int → Int) (H : Heap) (locs : List Loc), Jn D ids s S F1 A1 F2 A2 H locs → W p l e room_1 s m #[Value.ref b] below meth c H locs 398 407099 (lw_Z below #[Value.ref b] s) (F0 m 1066 ls [])) : W p l e room_1 s m #[Value.ref b] below meth c H locs 398 407099 (lw_Z below #[Value.ref b] s) (F0 m 565 ls []) := by
  obtain ⟨hC1, hM2, hP1, hP2, hS⟩ := J
  have hx := C0.1
  have hb := C0.2.1
  refine lv_aload_n hx hb dL_565 rfl (lv_at hl 1 rfl) ?_
  refine w_argL (k := 1) (n2 := 1) (pc := 566) (pc2 := 571) C0 hL hS hl (by omega) dL_566 dL_567 (Or.inl ⟨rfl, dL_568⟩) dL_569 dL_570 rfl ?_
  refine w_argL (k := 2) (n2 := 1) (pc := 571) (pc2 := 576) C0 hL hS hl (by omega) dL_571 dL_572 (Or.inl ⟨rfl, dL_573⟩) dL_574 dL_575 rfl ?_
  refine w_argL (k := 3) (n2 := 1) (pc := 576) (pc2 := 581) C0 hL hS hl (by omega) dL_576 dL_577 (Or.inl ⟨rfl, dL_578⟩) dL_579 dL_580 rfl ?_
  refine w_cVi (β := s.heap.size) (b := 0) (ci := 7) (av := [pI (xi xs (i + 1)), pI (xi xs (i + 2)), pI (xi xs (i + 3))]) (law_C C0) hK (c_correct l PbL_C hC1 (xi_i xs _) (xi_i xs _) (xi_i xs _)) lk_686 rfl rfl (by decide) (by decide) rfl ⟨Nat.le_of_ble_eq_true rfl, Nat.le_of_ble_eq_true rfl⟩ ⟨Nat.le_of_ble_eq_true rfl, Nat.le_of_ble_eq_true rfl⟩ hP1 hS (Nat.le_refl _) hl.1 rfl (Nat.le_of_ble_eq_true rfl) dL_581 ?_
  intro z1 F1b A1b H1 locs1 hq1 hP1b hS1 same1
  have hP2b := mid1 hP2 same1
  clear hS hP1 hP2 same1
  have hS := hS1
  refine lv_aload_n hx hb dL_584 rfl (lv_at hl 2 rfl) ?_
  refine w_argL (k := 1) (n2 := 1) (pc := 585) (pc2 := 590) C0 hL hS hl (by omega) dL_585 dL_586 (Or.inl ⟨rfl, dL_587⟩) dL_588 dL_589 rfl ?_
  refine w_argL (k := 2) (n2 := 1) (pc := 590) (pc2 := 595) C0 hL hS hl (by omega) dL_590 dL_591 (Or.inl ⟨rfl, dL_592⟩) dL_593 dL_594 rfl ?_
  refine w_argL (k := 3) (n2 := 1) (pc := 595) (pc2 := 600) C0 hL hS hl (by omega) dL_595 dL_596 (Or.inl ⟨rfl, dL_597⟩) dL_598 dL_599 rfl ?_
  refine w_cVi (β := s.heap.size + 386) (b := 0) (ci := 8) (av := [pI (xi xs (i + 1)), pI (xi xs (i + 2)), pI (xi xs (i + 3))]) (law_C C0) hK (q_correct l MoL_M hM2 (xi_i xs _) (xi_i xs _) (xi_i xs _)) lk_1089 rfl rfl (by decide) (by decide) rfl ⟨Nat.le_of_ble_eq_true rfl, Nat.le_of_ble_eq_true rfl⟩ ⟨Nat.le_of_ble_eq_true rfl, Nat.le_of_ble_eq_true rfl⟩ hP2b hS (Nat.le_add_right _ _) hl.1 rfl (Nat.le_of_ble_eq_true rfl) dL_600 ?_
  intro z2 F2b A2b H2 locs2 hq2 hP2c hS2 same2
  have hP1c := mid2 hP1b same2
  obtain ⟨Sa, ra, hRa⟩ := hq1
  obtain ⟨Sb, rb, hRb⟩ := hq2
  obtain ⟨rfl, rfl⟩ := actR.det ra rb
  have fin := next Sa F1b A1b F2b A2b H2 locs2 ⟨hRa, hRb, hP1c, hP2c, hS2⟩
  exact lv_icmp_eq (tgt := 1066) hx hb dL_603 rfl (fun _ => fin) (fun h => absurd rfl h)
set_option maxHeartbeats 4000000 in
theorem lc_10 (l : Launch) (C0 : lw_At p s m meth c b L xs) (hK : KN D ids s) (hL : L ≤ 4096) {i : Nat} (hi : i + 8 ≤ L) {S : SP} {F1 F2 : Nat → Nat → Int} {A1 A2 : Nat → Int → Int} (hl : lv_has ls 4 (lL b s.heap.size i)) (J : Jn D ids s S F1 A1 F2 A2 H locs) (next : ∀ (S : SP) (F1 : Nat → Nat → Int) (A1 : Nat → Int → Int) (F2 : Nat → Nat → Int) (A2 : Nat → Int → Int) (H : Heap) (locs : List Loc), Jn D ids s S F1 A1 F2 A2 H locs → W p l e room_1 s m #[Value.ref b] below meth c H locs 398 407099 (lw_Z below #[Value.ref b] s) (F0 m 1066 ls [])) : W p l e room_1 s m #[Value.ref b] below meth c H locs 398 407099 (lw_Z below #[Value.ref b] s) (F0 m 608 ls []) := by
  obtain ⟨hC1, hM2, hP1, hP2, hS⟩ := J
  have hx := C0.1
  have hb := C0.2.1
  refine lv_aload_n hx hb dL_608 rfl (lv_at hl 1 rfl) ?_
  refine w_argL (k := 1) (n2 := 1) (pc := 609) (pc2 := 614) C0 hL hS hl (by omega) dL_609 dL_610 (Or.inl ⟨rfl, dL_611⟩) dL_612 dL_613 rfl ?_
  refine w_argL (k := 2) (n2 := 1) (pc := 614) (pc2 := 619) C0 hL hS hl (by omega) dL_614 dL_615 (Or.inl ⟨rfl, dL_616⟩) dL_617 dL_618 rfl ?_
  refine w_argL (k := 3) (n2 := 1) (pc := 619) (pc2 := 624) C0 hL hS hl (by omega) dL_619 dL_620 (Or.inl ⟨rfl, dL_621⟩) dL_622 dL_623 rfl ?_
  refine w_cVi (β := s.heap.size) (b := 0) (ci := 7) (av := [pI (xi xs (i + 1)), pI (xi xs (i + 2)), pI (xi xs (i + 3))]) (law_C C0) hK (c_step l PbL_C hC1 (xi_i xs _) (xi_i xs _) (xi_i xs _)) lk_694 rfl rfl (by decide) (by decide) rfl ⟨Nat.le_of_ble_eq_true rfl, Nat.le_of_ble_eq_true rfl⟩ ⟨Nat.le_of_ble_eq_true rfl, Nat.le_of_ble_eq_true rfl⟩ hP1 hS (Nat.le_refl _) hl.1 rfl (Nat.le_of_ble_eq_true rfl) dL_624 ?_
  intro z1 F1b A1b H1 locs1 hq1 hP1b hS1 same1
  have hP2b := mid1 hP2 same1
  clear hS hP1 hP2 same1
  have hS := hS1
  refine lv_aload_n hx hb dL_627 rfl (lv_at hl 2 rfl) ?_
  refine w_argL (k := 1) (n2 := 1) (pc := 628) (pc2 := 633) C0 hL hS hl (by omega) dL_628 dL_629 (Or.inl ⟨rfl, dL_630⟩) dL_631 dL_632 rfl ?_
  refine w_argL (k := 2) (n2 := 1) (pc := 633) (pc2 := 638) C0 hL hS hl (by omega) dL_633 dL_634 (Or.inl ⟨rfl, dL_635⟩) dL_636 dL_637 rfl ?_
  refine w_argL (k := 3) (n2 := 1) (pc := 638) (pc2 := 643) C0 hL hS hl (by omega) dL_638 dL_639 (Or.inl ⟨rfl, dL_640⟩) dL_641 dL_642 rfl ?_
  refine w_cVi (β := s.heap.size + 386) (b := 0) (ci := 8) (av := [pI (xi xs (i + 1)), pI (xi xs (i + 2)), pI (xi xs (i + 3))]) (law_C C0) hK (q_step l MoL_M hM2 (xi_i xs _) (xi_i xs _) (xi_i xs _)) lk_1097 rfl rfl (by decide) (by decide) rfl ⟨Nat.le_of_ble_eq_true rfl, Nat.le_of_ble_eq_true rfl⟩ ⟨Nat.le_of_ble_eq_true rfl, Nat.le_of_ble_eq_true rfl⟩ hP2b hS (Nat.le_add_right _ _) hl.1 rfl (Nat.le_of_ble_eq_true rfl) dL_643 ?_
  intro z2 F2b A2b H2 locs2 hq2 hP2c hS2 same2
  have hP1c := mid2 hP1b same2
  obtain ⟨rfl, hRa⟩ := hq1
  obtain ⟨rfl, hRb⟩ := hq2
  have fin := next _ F1b A1b F2b A2b H2 locs2 ⟨hRa, hRb, hP1c, hP2c, hS2⟩
  exact lv_icmp_eq (tgt := 1066) hx hb dL_646 rfl (fun _ => fin) (fun h => absurd rfl h)
set_option maxHeartbeats 4000000 in
theorem lc_11 (l : Launch) (C0 : lw_At p s m meth c b L xs) (hK : KN D ids s) (hL : L ≤ 4096) {i : Nat} (hi : i + 8 ≤ L) {S : SP} {F1 F2 : Nat → Nat → Int} {A1 A2 : Nat → Int → Int} (hl : lv_has ls 4 (lL b s.heap.size i)) (J : Jn D ids s S F1 A1 F2 A2 H locs) (next : ∀ (S : SP) (F1 : Nat → Nat → Int) (A1 : Nat → Int → Int) (F2 : Nat → Nat → Int) (A2 : Nat → Int → Int) (H : Heap) (locs : List Loc), Jn D ids s S F1 A1 F2 A2 H locs → W p l e room_1 s m #[Value.ref b] below meth c H locs 398 407099 (lw_Z below #[Value.ref b] s) (F0 m 1066 ls [])) : W p l e room_1 s m #[Value.ref b] below meth c H locs 398 407099 (lw_Z below #[Value.ref b] s) (F0 m 651 ls []) := by
  obtain ⟨hC1, hM2, hP1, hP2, hS⟩ := J
  have hx := C0.1
  have hb := C0.2.1
  refine lv_aload_n hx hb dL_651 rfl (lv_at hl 1 rfl) ?_
  refine w_argL (k := 1) (n2 := 1) (pc := 652) (pc2 := 657) C0 hL hS hl (by omega) dL_652 dL_653 (Or.inl ⟨rfl, dL_654⟩) dL_655 dL_656 rfl ?_
  refine w_argL (k := 2) (n2 := 1) (pc := 657) (pc2 := 662) C0 hL hS hl (by omega) dL_657 dL_658 (Or.inl ⟨rfl, dL_659⟩) dL_660 dL_661 rfl ?_
  refine w_argL (k := 3) (n2 := 1) (pc := 662) (pc2 := 667) C0 hL hS hl (by omega) dL_662 dL_663 (Or.inl ⟨rfl, dL_664⟩) dL_665 dL_666 rfl ?_
  refine w_argL (k := 4) (n2 := 1) (pc := 667) (pc2 := 672) C0 hL hS hl (by omega) dL_667 dL_668 (Or.inl ⟨rfl, dL_669⟩) dL_670 dL_671 rfl ?_
  refine w_cVi (β := s.heap.size) (b := 0) (ci := 7) (av := [pI (xi xs (i + 1)), pI (xi xs (i + 2)), pI (xi xs (i + 3)), pI (xi xs (i + 4))]) (law_C C0) hK (c_time l PbL_C hC1 (xi_i xs _) (xi_i xs _) (xi_i xs _) (xi_i xs _)) lk_698 rfl rfl (by decide) (by decide) rfl ⟨Nat.le_of_ble_eq_true rfl, Nat.le_of_ble_eq_true rfl⟩ ⟨Nat.le_of_ble_eq_true rfl, Nat.le_of_ble_eq_true rfl⟩ hP1 hS (Nat.le_refl _) hl.1 rfl (Nat.le_of_ble_eq_true rfl) dL_672 ?_
  intro z1 F1b A1b H1 locs1 hq1 hP1b hS1 same1
  have hP2b := mid1 hP2 same1
  clear hS hP1 hP2 same1
  have hS := hS1
  refine lv_aload_n hx hb dL_675 rfl (lv_at hl 2 rfl) ?_
  refine w_argL (k := 1) (n2 := 1) (pc := 676) (pc2 := 681) C0 hL hS hl (by omega) dL_676 dL_677 (Or.inl ⟨rfl, dL_678⟩) dL_679 dL_680 rfl ?_
  refine w_argL (k := 2) (n2 := 1) (pc := 681) (pc2 := 686) C0 hL hS hl (by omega) dL_681 dL_682 (Or.inl ⟨rfl, dL_683⟩) dL_684 dL_685 rfl ?_
  refine w_argL (k := 3) (n2 := 1) (pc := 686) (pc2 := 691) C0 hL hS hl (by omega) dL_686 dL_687 (Or.inl ⟨rfl, dL_688⟩) dL_689 dL_690 rfl ?_
  refine w_argL (k := 4) (n2 := 1) (pc := 691) (pc2 := 696) C0 hL hS hl (by omega) dL_691 dL_692 (Or.inl ⟨rfl, dL_693⟩) dL_694 dL_695 rfl ?_
  refine w_cVi (β := s.heap.size + 386) (b := 0) (ci := 8) (av := [pI (xi xs (i + 1)), pI (xi xs (i + 2)), pI (xi xs (i + 3)), pI (xi xs (i + 4))]) (law_C C0) hK (q_time_ l MoL_M hM2 (xi_i xs _) (xi_i xs _) (xi_i xs _) (xi_i xs _)) lk_1102 rfl rfl (by decide) (by decide) rfl ⟨Nat.le_of_ble_eq_true rfl, Nat.le_of_ble_eq_true rfl⟩ ⟨Nat.le_of_ble_eq_true rfl, Nat.le_of_ble_eq_true rfl⟩ hP2b hS (Nat.le_add_right _ _) hl.1 rfl (Nat.le_of_ble_eq_true rfl) dL_696 ?_
  intro z2 F2b A2b H2 locs2 hq2 hP2c hS2 same2
  have hP1c := mid2 hP1b same2
  obtain ⟨Sa, ra, hRa⟩ := hq1
  obtain ⟨Sb, rb, hRb⟩ := hq2
  obtain ⟨rfl, rfl⟩ := actR.det ra rb
  have fin := next Sa F1b A1b F2b A2b H2 locs2 ⟨hRa, hRb, hP1c, hP2c, hS2⟩
  exact lv_icmp_eq (tgt := 1066) hx hb dL_699 rfl (fun _ => fin) (fun h => absurd rfl h)
set_option maxHeartbeats 4000000 in
theorem lc_12 (l : Launch) (C0 : lw_At p s m meth c b L xs) (hK : KN D ids s) (hL : L ≤ 4096) {i : Nat} (hi : i + 8 ≤ L) {S : SP} {F1 F2 : Nat → Nat → Int} {A1 A2 : Nat → Int → Int} (hl : lv_has ls 4 (lL b s.heap.size i)) (J : Jn D ids s S F1 A1 F2 A2 H locs) (next : ∀ (S : SP) (F1 : Nat → Nat → Int) (A1 : Nat → Int → Int) (F2 : Nat → Nat → Int) (A2 : Nat → Int → Int) (H : Heap) (locs : List Loc), Jn D ids s S F1 A1 F2 A2 H locs → W p l e room_1 s m #[Value.ref b] below meth c H locs 398 407099 (lw_Z below #[Value.ref b] s) (F0 m 1066 ls [])) : W p l e room_1 s m #[Value.ref b] below meth c H locs 398 407099 (lw_Z below #[Value.ref b] s) (F0 m 704 ls []) := by
  obtain ⟨hC1, hM2, hP1, hP2, hS⟩ := J
  have hx := C0.1
  have hb := C0.2.1
  refine lv_aload_n hx hb dL_704 rfl (lv_at hl 1 rfl) ?_
  refine w_cVi (β := s.heap.size) (b := 0) (ci := 7) (av := []) (law_C C0) hK (c_undo l PbL_C hC1 ) lk_710 rfl rfl (by decide) (by decide) rfl ⟨Nat.le_of_ble_eq_true rfl, Nat.le_of_ble_eq_true rfl⟩ ⟨Nat.le_of_ble_eq_true rfl, Nat.le_of_ble_eq_true rfl⟩ hP1 hS (Nat.le_refl _) hl.1 rfl (Nat.le_of_ble_eq_true rfl) dL_705 ?_
  intro z1 F1b A1b H1 locs1 hq1 hP1b hS1 same1
  have hP2b := mid1 hP2 same1
  clear hS hP1 hP2 same1
  have hS := hS1
  refine lv_aload_n hx hb dL_708 rfl (lv_at hl 2 rfl) ?_
  refine w_cVi (β := s.heap.size + 386) (b := 0) (ci := 8) (av := []) (law_C C0) hK (q_undo l MoL_M hM2 ) lk_1111 rfl rfl (by decide) (by decide) rfl ⟨Nat.le_of_ble_eq_true rfl, Nat.le_of_ble_eq_true rfl⟩ ⟨Nat.le_of_ble_eq_true rfl, Nat.le_of_ble_eq_true rfl⟩ hP2b hS (Nat.le_add_right _ _) hl.1 rfl (Nat.le_of_ble_eq_true rfl) dL_709 ?_
  intro z2 F2b A2b H2 locs2 hq2 hP2c hS2 same2
  have hP1c := mid2 hP1b same2
  obtain ⟨rfl, hRa⟩ := hq1
  obtain ⟨rfl, hRb⟩ := hq2
  have fin := next _ F1b A1b F2b A2b H2 locs2 ⟨hRa, hRb, hP1c, hP2c, hS2⟩
  exact lv_icmp_eq (tgt := 1066) hx hb dL_712 rfl (fun _ => fin) (fun h => absurd rfl h)
set_option maxHeartbeats 4000000 in
theorem lc_13 (l : Launch) (C0 : lw_At p s m meth c b L xs) (hK : KN D ids s) (hL : L ≤ 4096) {i : Nat} (hi : i + 8 ≤ L) {S : SP} {F1 F2 : Nat → Nat → Int} {A1 A2 : Nat → Int → Int} (hl : lv_has ls 4 (lL b s.heap.size i)) (J : Jn D ids s S F1 A1 F2 A2 H locs) (next : ∀ (S : SP) (F1 : Nat → Nat → Int) (A1 : Nat → Int → Int) (F2 : Nat → Nat → Int) (A2 : Nat → Int → Int) (H : Heap) (locs : List Loc), Jn D ids s S F1 A1 F2 A2 H locs → W p l e room_1 s m #[Value.ref b] below meth c H locs 398 407099 (lw_Z below #[Value.ref b] s) (F0 m 1066 ls [])) : W p l e room_1 s m #[Value.ref b] below meth c H locs 398 407099 (lw_Z below #[Value.ref b] s) (F0 m 717 ls []) := by
  obtain ⟨hC1, hM2, hP1, hP2, hS⟩ := J
  have hx := C0.1
  have hb := C0.2.1
  refine lv_aload_n hx hb dL_717 rfl (lv_at hl 1 rfl) ?_
  refine w_argL (k := 1) (n2 := 1) (pc := 718) (pc2 := 723) C0 hL hS hl (by omega) dL_718 dL_719 (Or.inl ⟨rfl, dL_720⟩) dL_721 dL_722 rfl ?_
  refine w_cVi (β := s.heap.size) (b := 0) (ci := 7) (av := [pI (xi xs (i + 1))]) (law_C C0) hK (c_where l PbL_C hC1 (xi_i xs _)) lk_718 rfl rfl (by decide) (by decide) rfl ⟨Nat.le_of_ble_eq_true rfl, Nat.le_of_ble_eq_true rfl⟩ ⟨Nat.le_of_ble_eq_true rfl, Nat.le_of_ble_eq_true rfl⟩ hP1 hS (Nat.le_refl _) hl.1 rfl (Nat.le_of_ble_eq_true rfl) dL_723 ?_
  intro z1 F1b A1b H1 locs1 hq1 hP1b hS1 same1
  have hP2b := mid1 hP2 same1
  clear hS hP1 hP2 same1
  have hS := hS1
  refine lv_aload_n hx hb dL_726 rfl (lv_at hl 2 rfl) ?_
  refine w_argL (k := 1) (n2 := 1) (pc := 727) (pc2 := 732) C0 hL hS hl (by omega) dL_727 dL_728 (Or.inl ⟨rfl, dL_729⟩) dL_730 dL_731 rfl ?_
  refine w_cVi (β := s.heap.size + 386) (b := 0) (ci := 8) (av := [pI (xi xs (i + 1))]) (law_C C0) hK (q_where l MoL_M hM2 (xi_i xs _)) lk_1115 rfl rfl (by decide) (by decide) rfl ⟨Nat.le_of_ble_eq_true rfl, Nat.le_of_ble_eq_true rfl⟩ ⟨Nat.le_of_ble_eq_true rfl, Nat.le_of_ble_eq_true rfl⟩ hP2b hS (Nat.le_add_right _ _) hl.1 rfl (Nat.le_of_ble_eq_true rfl) dL_732 ?_
  intro z2 F2b A2b H2 locs2 hq2 hP2c hS2 same2
  have hP1c := mid2 hP1b same2
  obtain ⟨rfl, hRa⟩ := hq1
  obtain ⟨rfl, hRb⟩ := hq2
  have fin := next _ F1b A1b F2b A2b H2 locs2 ⟨hRa, hRb, hP1c, hP2c, hS2⟩
  exact lv_icmp_eq (tgt := 1066) hx hb dL_735 rfl (fun _ => fin) (fun h => absurd rfl h)
set_option maxHeartbeats 4000000 in
theorem lc_14 (l : Launch) (C0 : lw_At p s m meth c b L xs) (hK : KN D ids s) (hL : L ≤ 4096) {i : Nat} (hi : i + 8 ≤ L) {S : SP} {F1 F2 : Nat → Nat → Int} {A1 A2 : Nat → Int → Int} (hl : lv_has ls 4 (lL b s.heap.size i)) (J : Jn D ids s S F1 A1 F2 A2 H locs) (next : ∀ (S : SP) (F1 : Nat → Nat → Int) (A1 : Nat → Int → Int) (F2 : Nat → Nat → Int) (A2 : Nat → Int → Int) (H : Heap) (locs : List Loc), Jn D ids s S F1 A1 F2 A2 H locs → W p l e room_1 s m #[Value.ref b] below meth c H locs 398 407099 (lw_Z below #[Value.ref b] s) (F0 m 1066 ls [])) : W p l e room_1 s m #[Value.ref b] below meth c H locs 398 407099 (lw_Z below #[Value.ref b] s) (F0 m 740 ls []) := by
  obtain ⟨hC1, hM2, hP1, hP2, hS⟩ := J
  have hx := C0.1
  have hb := C0.2.1
  refine lv_aload_n hx hb dL_740 rfl (lv_at hl 1 rfl) ?_
  refine w_argL (k := 1) (n2 := 1) (pc := 741) (pc2 := 746) C0 hL hS hl (by omega) dL_741 dL_742 (Or.inl ⟨rfl, dL_743⟩) dL_744 dL_745 rfl ?_
  refine w_argL (k := 2) (n2 := 1) (pc := 746) (pc2 := 751) C0 hL hS hl (by omega) dL_746 dL_747 (Or.inl ⟨rfl, dL_748⟩) dL_749 dL_750 rfl ?_
  refine w_argL (k := 3) (n2 := 1) (pc := 751) (pc2 := 756) C0 hL hS hl (by omega) dL_751 dL_752 (Or.inl ⟨rfl, dL_753⟩) dL_754 dL_755 rfl ?_
  refine w_argL (k := 4) (n2 := 1) (pc := 756) (pc2 := 761) C0 hL hS hl (by omega) dL_756 dL_757 (Or.inl ⟨rfl, dL_758⟩) dL_759 dL_760 rfl ?_
  refine w_argL (k := 5) (n2 := 1) (pc := 761) (pc2 := 766) C0 hL hS hl (by omega) dL_761 dL_762 (Or.inl ⟨rfl, dL_763⟩) dL_764 dL_765 rfl ?_
  refine w_cVl (β := s.heap.size) (b := 0) (ci := 7) (av := [pI (xi xs (i + 1)), pI (xi xs (i + 2)), pI (xi xs (i + 3)), pI (xi xs (i + 4)), pI (xi xs (i + 5))]) (law_C C0) hK (c_part l PbL_C hC1 (xi_i xs _) (xi_i xs _) (xi_i xs _) (xi_i xs _) (xi_i xs _)) lk_722 rfl rfl (by decide) (by decide) rfl ⟨Nat.le_of_ble_eq_true rfl, Nat.le_of_ble_eq_true rfl⟩ ⟨Nat.le_of_ble_eq_true rfl, Nat.le_of_ble_eq_true rfl⟩ hP1 hS (Nat.le_refl _) hl.1 rfl (Nat.le_of_ble_eq_true rfl) dL_766 ?_
  intro z1 F1b A1b H1 locs1 hq1 hP1b hS1 same1
  have hP2b := mid1 hP2 same1
  clear hS hP1 hP2 same1
  have hS := hS1
  refine lv_aload_n hx hb dL_769 rfl (lv_at hl 2 rfl) ?_
  refine w_argL (k := 1) (n2 := 1) (pc := 770) (pc2 := 775) C0 hL hS hl (by omega) dL_770 dL_771 (Or.inl ⟨rfl, dL_772⟩) dL_773 dL_774 rfl ?_
  refine w_argL (k := 2) (n2 := 1) (pc := 775) (pc2 := 780) C0 hL hS hl (by omega) dL_775 dL_776 (Or.inl ⟨rfl, dL_777⟩) dL_778 dL_779 rfl ?_
  refine w_argL (k := 3) (n2 := 1) (pc := 780) (pc2 := 785) C0 hL hS hl (by omega) dL_780 dL_781 (Or.inl ⟨rfl, dL_782⟩) dL_783 dL_784 rfl ?_
  refine w_argL (k := 4) (n2 := 1) (pc := 785) (pc2 := 790) C0 hL hS hl (by omega) dL_785 dL_786 (Or.inl ⟨rfl, dL_787⟩) dL_788 dL_789 rfl ?_
  refine w_argL (k := 5) (n2 := 1) (pc := 790) (pc2 := 795) C0 hL hS hl (by omega) dL_790 dL_791 (Or.inl ⟨rfl, dL_792⟩) dL_793 dL_794 rfl ?_
  refine w_cVl (β := s.heap.size + 386) (b := 0) (ci := 8) (av := [pI (xi xs (i + 1)), pI (xi xs (i + 2)), pI (xi xs (i + 3)), pI (xi xs (i + 4)), pI (xi xs (i + 5))]) (law_C C0) hK (q_part l MoL_M hM2 (xi_i xs _) (xi_i xs _) (xi_i xs _) (xi_i xs _) (xi_i xs _)) lk_1119 rfl rfl (by decide) (by decide) rfl ⟨Nat.le_of_ble_eq_true rfl, Nat.le_of_ble_eq_true rfl⟩ ⟨Nat.le_of_ble_eq_true rfl, Nat.le_of_ble_eq_true rfl⟩ hP2b hS (Nat.le_add_right _ _) hl.1 rfl (Nat.le_of_ble_eq_true rfl) dL_795 ?_
  intro z2 F2b A2b H2 locs2 hq2 hP2c hS2 same2
  have hP1c := mid2 hP1b same2
  obtain ⟨rfl, hRa⟩ := hq1
  obtain ⟨rfl, hRb⟩ := hq2
  have fin := next _ F1b A1b F2b A2b H2 locs2 ⟨hRa, hRb, hP1c, hP2c, hS2⟩
  refine W.lcmp hx hb dL_798 ?_
  exact lv_if_eq (tgt := 1066) hx hb dL_799 rfl (fun _ => fin) (fun h => absurd ((lg_cmp_eq _ _).mpr rfl) h)
set_option maxHeartbeats 4000000 in
theorem lc_15 (l : Launch) (C0 : lw_At p s m meth c b L xs) (hK : KN D ids s) (hL : L ≤ 4096) {i : Nat} (hi : i + 8 ≤ L) {S : SP} {F1 F2 : Nat → Nat → Int} {A1 A2 : Nat → Int → Int} (hl : lv_has ls 4 (lL b s.heap.size i)) (J : Jn D ids s S F1 A1 F2 A2 H locs) (next : ∀ (S : SP) (F1 : Nat → Nat → Int) (A1 : Nat → Int → Int) (F2 : Nat → Nat → Int) (A2 : Nat → Int → Int) (H : Heap) (locs : List Loc), Jn D ids s S F1 A1 F2 A2 H locs → W p l e room_1 s m #[Value.ref b] below meth c H locs 398 407099 (lw_Z below #[Value.ref b] s) (F0 m 1066 ls [])) : W p l e room_1 s m #[Value.ref b] below meth c H locs 398 407099 (lw_Z below #[Value.ref b] s) (F0 m 804 ls []) := by
  obtain ⟨hC1, hM2, hP1, hP2, hS⟩ := J
  have hx := C0.1
  have hb := C0.2.1
  refine lv_aload_n hx hb dL_804 rfl (lv_at hl 1 rfl) ?_
  refine w_argL (k := 1) (n2 := 1) (pc := 805) (pc2 := 810) C0 hL hS hl (by omega) dL_805 dL_806 (Or.inl ⟨rfl, dL_807⟩) dL_808 dL_809 rfl ?_
  refine w_argL (k := 2) (n2 := 1) (pc := 810) (pc2 := 815) C0 hL hS hl (by omega) dL_810 dL_811 (Or.inl ⟨rfl, dL_812⟩) dL_813 dL_814 rfl ?_
  refine w_cVi (β := s.heap.size) (b := 0) (ci := 7) (av := [pI (xi xs (i + 1)), pI (xi xs (i + 2))]) (law_C C0) hK (c_about l PbL_C hC1 (xi_i xs _) (xi_i xs _)) lk_731 rfl rfl (by decide) (by decide) rfl ⟨Nat.le_of_ble_eq_true rfl, Nat.le_of_ble_eq_true rfl⟩ ⟨Nat.le_of_ble_eq_true rfl, Nat.le_of_ble_eq_true rfl⟩ hP1 hS (Nat.le_refl _) hl.1 rfl (Nat.le_of_ble_eq_true rfl) dL_815 ?_
  intro z1 F1b A1b H1 locs1 hq1 hP1b hS1 same1
  have hP2b := mid1 hP2 same1
  clear hS hP1 hP2 same1
  have hS := hS1
  refine lv_aload_n hx hb dL_818 rfl (lv_at hl 2 rfl) ?_
  refine w_argL (k := 1) (n2 := 1) (pc := 819) (pc2 := 824) C0 hL hS hl (by omega) dL_819 dL_820 (Or.inl ⟨rfl, dL_821⟩) dL_822 dL_823 rfl ?_
  refine w_argL (k := 2) (n2 := 1) (pc := 824) (pc2 := 829) C0 hL hS hl (by omega) dL_824 dL_825 (Or.inl ⟨rfl, dL_826⟩) dL_827 dL_828 rfl ?_
  refine w_cVi (β := s.heap.size + 386) (b := 0) (ci := 8) (av := [pI (xi xs (i + 1)), pI (xi xs (i + 2))]) (law_C C0) hK (q_about l MoL_M hM2 (xi_i xs _) (xi_i xs _)) lk_1149 rfl rfl (by decide) (by decide) rfl ⟨Nat.le_of_ble_eq_true rfl, Nat.le_of_ble_eq_true rfl⟩ ⟨Nat.le_of_ble_eq_true rfl, Nat.le_of_ble_eq_true rfl⟩ hP2b hS (Nat.le_add_right _ _) hl.1 rfl (Nat.le_of_ble_eq_true rfl) dL_829 ?_
  intro z2 F2b A2b H2 locs2 hq2 hP2c hS2 same2
  have hP1c := mid2 hP1b same2
  obtain ⟨rfl, hRa⟩ := hq1
  obtain ⟨rfl, hRb⟩ := hq2
  have fin := next _ F1b A1b F2b A2b H2 locs2 ⟨hRa, hRb, hP1c, hP2c, hS2⟩
  exact lv_icmp_eq (tgt := 1066) hx hb dL_832 rfl (fun _ => fin) (fun h => absurd rfl h)
set_option maxHeartbeats 4000000 in
theorem lc_16 (l : Launch) (C0 : lw_At p s m meth c b L xs) (hK : KN D ids s) (hL : L ≤ 4096) {i : Nat} (hi : i + 8 ≤ L) {S : SP} {F1 F2 : Nat → Nat → Int} {A1 A2 : Nat → Int → Int} (hl : lv_has ls 4 (lL b s.heap.size i)) (J : Jn D ids s S F1 A1 F2 A2 H locs) (next : ∀ (S : SP) (F1 : Nat → Nat → Int) (A1 : Nat → Int → Int) (F2 : Nat → Nat → Int) (A2 : Nat → Int → Int) (H : Heap) (locs : List Loc), Jn D ids s S F1 A1 F2 A2 H locs → W p l e room_1 s m #[Value.ref b] below meth c H locs 398 407099 (lw_Z below #[Value.ref b] s) (F0 m 1066 ls [])) : W p l e room_1 s m #[Value.ref b] below meth c H locs 398 407099 (lw_Z below #[Value.ref b] s) (F0 m 837 ls []) := by
  obtain ⟨hC1, hM2, hP1, hP2, hS⟩ := J
  have hx := C0.1
  have hb := C0.2.1
  refine lv_aload_n hx hb dL_837 rfl (lv_at hl 1 rfl) ?_
  refine w_argL (k := 1) (n2 := 1) (pc := 838) (pc2 := 843) C0 hL hS hl (by omega) dL_838 dL_839 (Or.inl ⟨rfl, dL_840⟩) dL_841 dL_842 rfl ?_
  refine w_argL (k := 2) (n2 := 1) (pc := 843) (pc2 := 848) C0 hL hS hl (by omega) dL_843 dL_844 (Or.inl ⟨rfl, dL_845⟩) dL_846 dL_847 rfl ?_
  refine w_argL (k := 3) (n2 := 1) (pc := 848) (pc2 := 853) C0 hL hS hl (by omega) dL_848 dL_849 (Or.inl ⟨rfl, dL_850⟩) dL_851 dL_852 rfl ?_
  refine w_cVi (β := s.heap.size) (b := 0) (ci := 7) (av := [pI (xi xs (i + 1)), pI (xi xs (i + 2)), pI (xi xs (i + 3))]) (law_C C0) hK (c_is l PbL_C hC1 (xi_i xs _) (xi_i xs _) (xi_i xs _)) lk_778 rfl rfl (by decide) (by decide) rfl ⟨Nat.le_of_ble_eq_true rfl, Nat.le_of_ble_eq_true rfl⟩ ⟨Nat.le_of_ble_eq_true rfl, Nat.le_of_ble_eq_true rfl⟩ hP1 hS (Nat.le_refl _) hl.1 rfl (Nat.le_of_ble_eq_true rfl) dL_853 ?_
  intro z1 F1b A1b H1 locs1 hq1 hP1b hS1 same1
  have hP2b := mid1 hP2 same1
  clear hS hP1 hP2 same1
  have hS := hS1
  refine lv_aload_n hx hb dL_856 rfl (lv_at hl 2 rfl) ?_
  refine w_argL (k := 1) (n2 := 1) (pc := 857) (pc2 := 862) C0 hL hS hl (by omega) dL_857 dL_858 (Or.inl ⟨rfl, dL_859⟩) dL_860 dL_861 rfl ?_
  refine w_argL (k := 2) (n2 := 1) (pc := 862) (pc2 := 867) C0 hL hS hl (by omega) dL_862 dL_863 (Or.inl ⟨rfl, dL_864⟩) dL_865 dL_866 rfl ?_
  refine w_argL (k := 3) (n2 := 1) (pc := 867) (pc2 := 872) C0 hL hS hl (by omega) dL_867 dL_868 (Or.inl ⟨rfl, dL_869⟩) dL_870 dL_871 rfl ?_
  refine w_cVi (β := s.heap.size + 386) (b := 0) (ci := 8) (av := [pI (xi xs (i + 1)), pI (xi xs (i + 2)), pI (xi xs (i + 3))]) (law_C C0) hK (q_is l MoL_M hM2 (xi_i xs _) (xi_i xs _) (xi_i xs _)) lk_1125 rfl rfl (by decide) (by decide) rfl ⟨Nat.le_of_ble_eq_true rfl, Nat.le_of_ble_eq_true rfl⟩ ⟨Nat.le_of_ble_eq_true rfl, Nat.le_of_ble_eq_true rfl⟩ hP2b hS (Nat.le_add_right _ _) hl.1 rfl (Nat.le_of_ble_eq_true rfl) dL_872 ?_
  intro z2 F2b A2b H2 locs2 hq2 hP2c hS2 same2
  have hP1c := mid2 hP1b same2
  obtain ⟨rfl, hRa⟩ := hq1
  obtain ⟨rfl, hRb⟩ := hq2
  have fin := next _ F1b A1b F2b A2b H2 locs2 ⟨hRa, hRb, hP1c, hP2c, hS2⟩
  exact lv_icmp_eq (tgt := 1066) hx hb dL_875 rfl (fun _ => fin) (fun h => absurd rfl h)
set_option maxHeartbeats 4000000 in
theorem lc_17 (l : Launch) (C0 : lw_At p s m meth c b L xs) (hK : KN D ids s) (hL : L ≤ 4096) {i : Nat} (hi : i + 8 ≤ L) {S : SP} {F1 F2 : Nat → Nat → Int} {A1 A2 : Nat → Int → Int} (hl : lv_has ls 4 (lL b s.heap.size i)) (J : Jn D ids s S F1 A1 F2 A2 H locs) (next : ∀ (S : SP) (F1 : Nat → Nat → Int) (A1 : Nat → Int → Int) (F2 : Nat → Nat → Int) (A2 : Nat → Int → Int) (H : Heap) (locs : List Loc), Jn D ids s S F1 A1 F2 A2 H locs → W p l e room_1 s m #[Value.ref b] below meth c H locs 398 407099 (lw_Z below #[Value.ref b] s) (F0 m 1066 ls [])) : W p l e room_1 s m #[Value.ref b] below meth c H locs 398 407099 (lw_Z below #[Value.ref b] s) (F0 m 880 ls []) := by
  obtain ⟨hC1, hM2, hP1, hP2, hS⟩ := J
  have hx := C0.1
  have hb := C0.2.1
  refine lv_aload_n hx hb dL_880 rfl (lv_at hl 1 rfl) ?_
  refine w_argL (k := 1) (n2 := 1) (pc := 881) (pc2 := 886) C0 hL hS hl (by omega) dL_881 dL_882 (Or.inl ⟨rfl, dL_883⟩) dL_884 dL_885 rfl ?_
  refine w_argL (k := 2) (n2 := 1) (pc := 886) (pc2 := 891) C0 hL hS hl (by omega) dL_886 dL_887 (Or.inl ⟨rfl, dL_888⟩) dL_889 dL_890 rfl ?_
  refine w_argL (k := 3) (n2 := 1) (pc := 891) (pc2 := 896) C0 hL hS hl (by omega) dL_891 dL_892 (Or.inl ⟨rfl, dL_893⟩) dL_894 dL_895 rfl ?_
  refine w_argL (k := 4) (n2 := 1) (pc := 896) (pc2 := 901) C0 hL hS hl (by omega) dL_896 dL_897 (Or.inl ⟨rfl, dL_898⟩) dL_899 dL_900 rfl ?_
  refine w_argL (k := 5) (n2 := 1) (pc := 901) (pc2 := 906) C0 hL hS hl (by omega) dL_901 dL_902 (Or.inl ⟨rfl, dL_903⟩) dL_904 dL_905 rfl ?_
  refine w_argL (k := 6) (n2 := 2) (pc := 906) (pc2 := 912) C0 hL hS hl (by omega) dL_906 dL_907 (Or.inr ⟨rfl, rfl, dL_908⟩) dL_910 dL_911 rfl ?_
  refine w_argL (k := 7) (n2 := 2) (pc := 912) (pc2 := 918) C0 hL hS hl (by omega) dL_912 dL_913 (Or.inr ⟨rfl, rfl, dL_914⟩) dL_916 dL_917 rfl ?_
  refine w_cVi (β := s.heap.size) (b := 0) (ci := 7) (av := [pI (xi xs (i + 1)), pI (xi xs (i + 2)), pI (xi xs (i + 3)), pI (xi xs (i + 4)), pI (xi xs (i + 5)), pI (xi xs (i + 6)), pI (xi xs (i + 7))]) (law_C C0) hK (c_against l PbL_C hC1 (xi_i xs _) (xi_i xs _) (xi_i xs _) (xi_i xs _) (xi_i xs _) (xi_i xs _) (xi_i xs _)) lk_782 rfl rfl (by decide) (by decide) rfl ⟨Nat.le_of_ble_eq_true rfl, Nat.le_of_ble_eq_true rfl⟩ ⟨Nat.le_of_ble_eq_true rfl, Nat.le_of_ble_eq_true rfl⟩ hP1 hS (Nat.le_refl _) hl.1 rfl (Nat.le_of_ble_eq_true rfl) dL_918 ?_
  intro z1 F1b A1b H1 locs1 hq1 hP1b hS1 same1
  have hP2b := mid1 hP2 same1
  clear hS hP1 hP2 same1
  have hS := hS1
  refine lv_aload_n hx hb dL_921 rfl (lv_at hl 2 rfl) ?_
  refine w_argL (k := 1) (n2 := 1) (pc := 922) (pc2 := 927) C0 hL hS hl (by omega) dL_922 dL_923 (Or.inl ⟨rfl, dL_924⟩) dL_925 dL_926 rfl ?_
  refine w_argL (k := 2) (n2 := 1) (pc := 927) (pc2 := 932) C0 hL hS hl (by omega) dL_927 dL_928 (Or.inl ⟨rfl, dL_929⟩) dL_930 dL_931 rfl ?_
  refine w_argL (k := 3) (n2 := 1) (pc := 932) (pc2 := 937) C0 hL hS hl (by omega) dL_932 dL_933 (Or.inl ⟨rfl, dL_934⟩) dL_935 dL_936 rfl ?_
  refine w_argL (k := 4) (n2 := 1) (pc := 937) (pc2 := 942) C0 hL hS hl (by omega) dL_937 dL_938 (Or.inl ⟨rfl, dL_939⟩) dL_940 dL_941 rfl ?_
  refine w_argL (k := 5) (n2 := 1) (pc := 942) (pc2 := 947) C0 hL hS hl (by omega) dL_942 dL_943 (Or.inl ⟨rfl, dL_944⟩) dL_945 dL_946 rfl ?_
  refine w_argL (k := 6) (n2 := 2) (pc := 947) (pc2 := 953) C0 hL hS hl (by omega) dL_947 dL_948 (Or.inr ⟨rfl, rfl, dL_949⟩) dL_951 dL_952 rfl ?_
  refine w_argL (k := 7) (n2 := 2) (pc := 953) (pc2 := 959) C0 hL hS hl (by omega) dL_953 dL_954 (Or.inr ⟨rfl, rfl, dL_955⟩) dL_957 dL_958 rfl ?_
  refine w_cVi (β := s.heap.size + 386) (b := 0) (ci := 8) (av := [pI (xi xs (i + 1)), pI (xi xs (i + 2)), pI (xi xs (i + 3)), pI (xi xs (i + 4)), pI (xi xs (i + 5)), pI (xi xs (i + 6)), pI (xi xs (i + 7))]) (law_C C0) hK (q_against l MoL_M hM2 (xi_i xs _) (xi_i xs _) (xi_i xs _) (xi_i xs _) (xi_i xs _) (xi_i xs _) (xi_i xs _)) lk_1154 rfl rfl (by decide) (by decide) rfl ⟨Nat.le_of_ble_eq_true rfl, Nat.le_of_ble_eq_true rfl⟩ ⟨Nat.le_of_ble_eq_true rfl, Nat.le_of_ble_eq_true rfl⟩ hP2b hS (Nat.le_add_right _ _) hl.1 rfl (Nat.le_of_ble_eq_true rfl) dL_959 ?_
  intro z2 F2b A2b H2 locs2 hq2 hP2c hS2 same2
  have hP1c := mid2 hP1b same2
  obtain ⟨rfl, hRa⟩ := hq1
  obtain ⟨rfl, hRb⟩ := hq2
  have fin := next _ F1b A1b F2b A2b H2 locs2 ⟨hRa, hRb, hP1c, hP2c, hS2⟩
  exact lv_icmp_eq (tgt := 1066) hx hb dL_962 rfl (fun _ => fin) (fun h => absurd rfl h)
set_option maxHeartbeats 4000000 in
theorem lc_18 (l : Launch) (C0 : lw_At p s m meth c b L xs) (hK : KN D ids s) (hL : L ≤ 4096) {i : Nat} (hi : i + 8 ≤ L) {S : SP} {F1 F2 : Nat → Nat → Int} {A1 A2 : Nat → Int → Int} (hl : lv_has ls 4 (lL b s.heap.size i)) (J : Jn D ids s S F1 A1 F2 A2 H locs) (next : ∀ (S : SP) (F1 : Nat → Nat → Int) (A1 : Nat → Int → Int) (F2 : Nat → Nat → Int) (A2 : Nat → Int → Int) (H : Heap) (locs : List Loc), Jn D ids s S F1 A1 F2 A2 H locs → W p l e room_1 s m #[Value.ref b] below meth c H locs 398 407099 (lw_Z below #[Value.ref b] s) (F0 m 1066 ls [])) : W p l e room_1 s m #[Value.ref b] below meth c H locs 398 407099 (lw_Z below #[Value.ref b] s) (F0 m 967 ls []) := by
  obtain ⟨hC1, hM2, hP1, hP2, hS⟩ := J
  have hx := C0.1
  have hb := C0.2.1
  refine lv_aload_n hx hb dL_967 rfl (lv_at hl 1 rfl) ?_
  refine w_argL (k := 1) (n2 := 1) (pc := 968) (pc2 := 973) C0 hL hS hl (by omega) dL_968 dL_969 (Or.inl ⟨rfl, dL_970⟩) dL_971 dL_972 rfl ?_
  refine w_argL (k := 2) (n2 := 1) (pc := 973) (pc2 := 978) C0 hL hS hl (by omega) dL_973 dL_974 (Or.inl ⟨rfl, dL_975⟩) dL_976 dL_977 rfl ?_
  refine w_argL (k := 3) (n2 := 1) (pc := 978) (pc2 := 983) C0 hL hS hl (by omega) dL_978 dL_979 (Or.inl ⟨rfl, dL_980⟩) dL_981 dL_982 rfl ?_
  refine w_cVi (β := s.heap.size) (b := 0) (ci := 7) (av := [pI (xi xs (i + 1)), pI (xi xs (i + 2)), pI (xi xs (i + 3))]) (law_C C0) hK (c_worst l PbL_C hC1 (xi_i xs _) (xi_i xs _) (xi_i xs _)) lk_790 rfl rfl (by decide) (by decide) rfl ⟨Nat.le_of_ble_eq_true rfl, Nat.le_of_ble_eq_true rfl⟩ ⟨Nat.le_of_ble_eq_true rfl, Nat.le_of_ble_eq_true rfl⟩ hP1 hS (Nat.le_refl _) hl.1 rfl (Nat.le_of_ble_eq_true rfl) dL_983 ?_
  intro z1 F1b A1b H1 locs1 hq1 hP1b hS1 same1
  have hP2b := mid1 hP2 same1
  clear hS hP1 hP2 same1
  have hS := hS1
  refine lv_aload_n hx hb dL_986 rfl (lv_at hl 2 rfl) ?_
  refine w_argL (k := 1) (n2 := 1) (pc := 987) (pc2 := 992) C0 hL hS hl (by omega) dL_987 dL_988 (Or.inl ⟨rfl, dL_989⟩) dL_990 dL_991 rfl ?_
  refine w_argL (k := 2) (n2 := 1) (pc := 992) (pc2 := 997) C0 hL hS hl (by omega) dL_992 dL_993 (Or.inl ⟨rfl, dL_994⟩) dL_995 dL_996 rfl ?_
  refine w_argL (k := 3) (n2 := 1) (pc := 997) (pc2 := 1002) C0 hL hS hl (by omega) dL_997 dL_998 (Or.inl ⟨rfl, dL_999⟩) dL_1000 dL_1001 rfl ?_
  refine w_cVi (β := s.heap.size + 386) (b := 0) (ci := 8) (av := [pI (xi xs (i + 1)), pI (xi xs (i + 2)), pI (xi xs (i + 3))]) (law_C C0) hK (q_worst l MoL_M hM2 (xi_i xs _) (xi_i xs _) (xi_i xs _)) lk_1162 rfl rfl (by decide) (by decide) rfl ⟨Nat.le_of_ble_eq_true rfl, Nat.le_of_ble_eq_true rfl⟩ ⟨Nat.le_of_ble_eq_true rfl, Nat.le_of_ble_eq_true rfl⟩ hP2b hS (Nat.le_add_right _ _) hl.1 rfl (Nat.le_of_ble_eq_true rfl) dL_1002 ?_
  intro z2 F2b A2b H2 locs2 hq2 hP2c hS2 same2
  have hP1c := mid2 hP1b same2
  obtain ⟨rfl, hRa⟩ := hq1
  obtain ⟨rfl, hRb⟩ := hq2
  have fin := next _ F1b A1b F2b A2b H2 locs2 ⟨hRa, hRb, hP1c, hP2c, hS2⟩
  exact lv_icmp_eq (tgt := 1066) hx hb dL_1005 rfl (fun _ => fin) (fun h => absurd rfl h)
set_option maxHeartbeats 4000000 in
theorem lc_19 (l : Launch) (C0 : lw_At p s m meth c b L xs) (hK : KN D ids s) (hL : L ≤ 4096) {i : Nat} (hi : i + 8 ≤ L) {S : SP} {F1 F2 : Nat → Nat → Int} {A1 A2 : Nat → Int → Int} (hl : lv_has ls 4 (lL b s.heap.size i)) (J : Jn D ids s S F1 A1 F2 A2 H locs) (next : ∀ (S : SP) (F1 : Nat → Nat → Int) (A1 : Nat → Int → Int) (F2 : Nat → Nat → Int) (A2 : Nat → Int → Int) (H : Heap) (locs : List Loc), Jn D ids s S F1 A1 F2 A2 H locs → W p l e room_1 s m #[Value.ref b] below meth c H locs 398 407099 (lw_Z below #[Value.ref b] s) (F0 m 1066 ls [])) : W p l e room_1 s m #[Value.ref b] below meth c H locs 398 407099 (lw_Z below #[Value.ref b] s) (F0 m 1010 ls []) := by
  obtain ⟨hC1, hM2, hP1, hP2, hS⟩ := J
  have hx := C0.1
  have hb := C0.2.1
  refine lv_aload_n hx hb dL_1010 rfl (lv_at hl 1 rfl) ?_
  refine w_argL (k := 1) (n2 := 1) (pc := 1011) (pc2 := 1016) C0 hL hS hl (by omega) dL_1011 dL_1012 (Or.inl ⟨rfl, dL_1013⟩) dL_1014 dL_1015 rfl ?_
  refine w_argL (k := 2) (n2 := 1) (pc := 1016) (pc2 := 1021) C0 hL hS hl (by omega) dL_1016 dL_1017 (Or.inl ⟨rfl, dL_1018⟩) dL_1019 dL_1020 rfl ?_
  refine w_cVi (β := s.heap.size) (b := 0) (ci := 7) (av := [pI (xi xs (i + 1)), pI (xi xs (i + 2))]) (law_C C0) hK (c_same l PbL_C hC1 (xi_i xs _) (xi_i xs _)) lk_794 rfl rfl (by decide) (by decide) rfl ⟨Nat.le_of_ble_eq_true rfl, Nat.le_of_ble_eq_true rfl⟩ ⟨Nat.le_of_ble_eq_true rfl, Nat.le_of_ble_eq_true rfl⟩ hP1 hS (Nat.le_refl _) hl.1 rfl (Nat.le_of_ble_eq_true rfl) dL_1021 ?_
  intro z1 F1b A1b H1 locs1 hq1 hP1b hS1 same1
  have hP2b := mid1 hP2 same1
  clear hS hP1 hP2 same1
  have hS := hS1
  refine lv_aload_n hx hb dL_1024 rfl (lv_at hl 2 rfl) ?_
  refine w_argL (k := 1) (n2 := 1) (pc := 1025) (pc2 := 1030) C0 hL hS hl (by omega) dL_1025 dL_1026 (Or.inl ⟨rfl, dL_1027⟩) dL_1028 dL_1029 rfl ?_
  refine w_argL (k := 2) (n2 := 1) (pc := 1030) (pc2 := 1035) C0 hL hS hl (by omega) dL_1030 dL_1031 (Or.inl ⟨rfl, dL_1032⟩) dL_1033 dL_1034 rfl ?_
  refine w_cVi (β := s.heap.size + 386) (b := 0) (ci := 8) (av := [pI (xi xs (i + 1)), pI (xi xs (i + 2))]) (law_C C0) hK (q_same l MoL_M hM2 (xi_i xs _) (xi_i xs _)) lk_1166 rfl rfl (by decide) (by decide) rfl ⟨Nat.le_of_ble_eq_true rfl, Nat.le_of_ble_eq_true rfl⟩ ⟨Nat.le_of_ble_eq_true rfl, Nat.le_of_ble_eq_true rfl⟩ hP2b hS (Nat.le_add_right _ _) hl.1 rfl (Nat.le_of_ble_eq_true rfl) dL_1035 ?_
  intro z2 F2b A2b H2 locs2 hq2 hP2c hS2 same2
  have hP1c := mid2 hP1b same2
  obtain ⟨rfl, hRa⟩ := hq1
  obtain ⟨rfl, hRb⟩ := hq2
  have fin := next _ F1b A1b F2b A2b H2 locs2 ⟨hRa, hRb, hP1c, hP2c, hS2⟩
  exact lv_icmp_eq (tgt := 1066) hx hb dL_1038 rfl (fun _ => fin) (fun h => absurd rfl h)
set_option maxHeartbeats 4000000 in
theorem lc_20 (l : Launch) (C0 : lw_At p s m meth c b L xs) (hK : KN D ids s) (hL : L ≤ 4096) {i : Nat} (hi : i + 8 ≤ L) {S : SP} {F1 F2 : Nat → Nat → Int} {A1 A2 : Nat → Int → Int} (hl : lv_has ls 4 (lL b s.heap.size i)) (J : Jn D ids s S F1 A1 F2 A2 H locs) (next : ∀ (S : SP) (F1 : Nat → Nat → Int) (A1 : Nat → Int → Int) (F2 : Nat → Nat → Int) (A2 : Nat → Int → Int) (H : Heap) (locs : List Loc), Jn D ids s S F1 A1 F2 A2 H locs → W p l e room_1 s m #[Value.ref b] below meth c H locs 398 407099 (lw_Z below #[Value.ref b] s) (F0 m 1066 ls [])) : W p l e room_1 s m #[Value.ref b] below meth c H locs 398 407099 (lw_Z below #[Value.ref b] s) (F0 m 1043 ls []) := by
  obtain ⟨hC1, hM2, hP1, hP2, hS⟩ := J
  have hx := C0.1
  have hb := C0.2.1
  refine lv_aload_n hx hb dL_1043 rfl (lv_at hl 1 rfl) ?_
  refine w_argL (k := 1) (n2 := 1) (pc := 1044) (pc2 := 1049) C0 hL hS hl (by omega) dL_1044 dL_1045 (Or.inl ⟨rfl, dL_1046⟩) dL_1047 dL_1048 rfl ?_
  refine w_cVi (β := s.heap.size) (b := 0) (ci := 7) (av := [pI (xi xs (i + 1))]) (law_C C0) hK (c_count l PbL_C hC1 (xi_i xs _)) lk_798 rfl rfl (by decide) (by decide) rfl ⟨Nat.le_of_ble_eq_true rfl, Nat.le_of_ble_eq_true rfl⟩ ⟨Nat.le_of_ble_eq_true rfl, Nat.le_of_ble_eq_true rfl⟩ hP1 hS (Nat.le_refl _) hl.1 rfl (Nat.le_of_ble_eq_true rfl) dL_1049 ?_
  intro z1 F1b A1b H1 locs1 hq1 hP1b hS1 same1
  have hP2b := mid1 hP2 same1
  clear hS hP1 hP2 same1
  have hS := hS1
  refine lv_aload_n hx hb dL_1052 rfl (lv_at hl 2 rfl) ?_
  refine w_argL (k := 1) (n2 := 1) (pc := 1053) (pc2 := 1058) C0 hL hS hl (by omega) dL_1053 dL_1054 (Or.inl ⟨rfl, dL_1055⟩) dL_1056 dL_1057 rfl ?_
  refine w_cVi (β := s.heap.size + 386) (b := 0) (ci := 8) (av := [pI (xi xs (i + 1))]) (law_C C0) hK (q_count l MoL_M hM2 (xi_i xs _)) lk_1170 rfl rfl (by decide) (by decide) rfl ⟨Nat.le_of_ble_eq_true rfl, Nat.le_of_ble_eq_true rfl⟩ ⟨Nat.le_of_ble_eq_true rfl, Nat.le_of_ble_eq_true rfl⟩ hP2b hS (Nat.le_add_right _ _) hl.1 rfl (Nat.le_of_ble_eq_true rfl) dL_1058 ?_
  intro z2 F2b A2b H2 locs2 hq2 hP2c hS2 same2
  have hP1c := mid2 hP1b same2
  obtain ⟨rfl, hRa⟩ := hq1
  obtain ⟨rfl, hRb⟩ := hq2
  have fin := next _ F1b A1b F2b A2b H2 locs2 ⟨hRa, hRb, hP1c, hP2c, hS2⟩
  exact lv_icmp_eq (tgt := 1066) hx hb dL_1061 rfl (fun _ => fin) (fun h => absurd rfl h)
end LC
