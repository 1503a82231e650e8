def Q_sbh (F : Nat → Nat → Int) (A : Nat → Int → Int) (g l2 rs : Nat) : Int → (Nat → Nat → Int) → (Nat → Int → Int) → Prop := fun z F' A' =>
  (z = 0 ∧ F' = F ∧ A' = A) ∨ (z = 1 ∧ (∀ o, o ≠ g → o ≠ l2 → o ≠ rs → F' o = F o) ∧ (∀ a, a ≠ g + 1 → a ≠ l2 + 1 → a ≠ rs + 1 → A' a = A a) ∧ WOK F' A' g ∧ WOK F' A' l2 ∧ WOK F' A' rs ∧ Int.gcd (wv F' A' g) (wv F' A' l2) = Int.gcd (wv F A g) (wv F A l2) ∧ 0 ≤ wv F' A' l2 ∧ wv F' A' l2 ≤ wv F' A' g ∧ 2 * (wv F' A' g * wv F' A' l2) ≤ wv F A g * wv F A l2 ∧ wv F' A' g ≤ wv F A g)
theorem wm_of_pos {F : Nat → Nat → Int} {A : Nat → Int → Int} {w : Nat} (h : WOK F A w) (h0 : 0 ≤ F w 0) : wm F A w = wv F A w := by
  unfold wv
  rcases h.2.2.2.2 with ⟨q1, q2⟩ | ⟨q1, q2 | q2⟩
  · rw [q2, wm_zero (by omega)]; rfl
  · rw [q2, Int.one_mul]
  · omega
theorem half_step {a b q : Int} (hb : 0 ≤ b) (h1 : q * b ≤ a) (h2 : a < (q + 1) * b) (hab : b ≤ a) : 1 ≤ q ∧ 2 * (b * (a - q * b)) ≤ a * b ∧ 0 ≤ a - q * b ∧ a - q * b < b := by
  rw [Int.add_mul, Int.one_mul] at h2
  have hq : 1 ≤ q := by
    apply Classical.byContradiction
    intro r
    have := Int.mul_le_mul_of_nonneg_right (show q ≤ 0 by omega) hb
    omega
  have c := Int.mul_le_mul_of_nonneg_right hq hb
  have d : 2 * (a - q * b) * b ≤ a * b := Int.mul_le_mul_of_nonneg_right (by omega) hb
  refine ⟨hq, ?_, by omega, by omega⟩
  have e : 2 * (b * (a - q * b)) = 2 * (a - q * b) * b := by grind
  omega
theorem lin_step (xx xy yx yy q G M : Int) : xx * G + xy * M - q * (yx * G + yy * M) = (xx - q * yx) * G + (xy - q * yy) * M := by grind
theorem lhB_0 {U sc G M x y : Int} (h1 : x * U ≤ G * sc) (h2 : G * sc ≤ (x + 1) * U) (h3 : y * U ≤ M * sc) (h4 : M * sc ≤ (y + 1) * U) : lhB true U sc G M x y 1 0 0 1 := ⟨fun _ => ⟨by rw [Int.add_zero]; exact h1, h2, by rw [Int.add_zero]; exact h3, h4⟩, fun h => absurd h (by decide)⟩
theorem lhS_mix {ev : Bool} {xx xy yx yy : Int} (h : lhS ev xx xy yx yy) (m1 : -1000000000 < xx ∧ xx < 1000000000) (m2 : -1000000000 < xy ∧ xy < 1000000000) (m3 : -1000000000 < yx ∧ yx < 1000000000) (m4 : -1000000000 < yy ∧ yy < 1000000000) : mixT xx xy ∧ mixT yx yy := by
  cases ev with
  | true =>
    obtain ⟨h1, h2, h3, h4⟩ := h.1 rfl
    exact ⟨mixT_pn h1 (by omega) h2 (by omega), mixT_np (by omega) (by omega) h3 (by omega)⟩
  | false =>
    obtain ⟨h1, h2, h3, h4⟩ := h.2 rfl
    exact ⟨mixT_np (by omega) (by omega) h1 (by omega), mixT_pn h3 (by omega) (by omega) (by omega)⟩
theorem dX3_shareByHeads_0 : decode cX3_shareByHeads 0 = .ok (.aload_n 0, 1) := by decide +kernel
theorem dX3_shareByHeads_1 : decode cX3_shareByHeads 1 = .ok (.getfield 37, 3) := by decide +kernel
theorem dX3_shareByHeads_4 : decode cX3_shareByHeads 4 = .ok (.getfield 66, 3) := by decide +kernel
theorem dX3_shareByHeads_7 : decode cX3_shareByHeads 7 = .ok (.istore_n 1, 1) := by decide +kernel
theorem dX3_shareByHeads_8 : decode cX3_shareByHeads 8 = .ok (.aload_n 0, 1) := by decide +kernel
theorem dX3_shareByHeads_9 : decode cX3_shareByHeads 9 = .ok (.getfield 37, 3) := by decide +kernel
theorem dX3_shareByHeads_12 : decode cX3_shareByHeads 12 = .ok (.iload_n 1, 1) := by decide +kernel
theorem dX3_shareByHeads_13 : decode cX3_shareByHeads 13 = .ok (.iconst 1, 1) := by decide +kernel
theorem dX3_shareByHeads_14 : decode cX3_shareByHeads 14 = .ok (.isub, 1) := by decide +kernel
theorem dX3_shareByHeads_15 : decode cX3_shareByHeads 15 = .ok (.invokevirtual 111, 3) := by decide +kernel
theorem dX3_shareByHeads_18 : decode cX3_shareByHeads 18 = .ok (.invokestatic 115, 3) := by decide +kernel
theorem dX3_shareByHeads_21 : decode cX3_shareByHeads 21 = .ok (.lstore_n 2, 1) := by decide +kernel
theorem dX3_shareByHeads_22 : decode cX3_shareByHeads 22 = .ok (.aload_n 0, 1) := by decide +kernel
theorem dX3_shareByHeads_23 : decode cX3_shareByHeads 23 = .ok (.getfield 37, 3) := by decide +kernel
theorem dX3_shareByHeads_26 : decode cX3_shareByHeads 26 = .ok (.iload_n 1, 1) := by decide +kernel
theorem dX3_shareByHeads_27 : decode cX3_shareByHeads 27 = .ok (.lload_n 2, 1) := by decide +kernel
theorem dX3_shareByHeads_28 : decode cX3_shareByHeads 28 = .ok (.invokevirtual 119, 3) := by decide +kernel
theorem dX3_shareByHeads_31 : decode cX3_shareByHeads 31 = .ok (.lstore 4, 2) := by decide +kernel
theorem dX3_shareByHeads_33 : decode cX3_shareByHeads 33 = .ok (.aload_n 0, 1) := by decide +kernel
theorem dX3_shareByHeads_34 : decode cX3_shareByHeads 34 = .ok (.getfield 40, 3) := by decide +kernel
theorem dX3_shareByHeads_37 : decode cX3_shareByHeads 37 = .ok (.iload_n 1, 1) := by decide +kernel
theorem dX3_shareByHeads_38 : decode cX3_shareByHeads 38 = .ok (.lload_n 2, 1) := by decide +kernel
theorem dX3_shareByHeads_39 : decode cX3_shareByHeads 39 = .ok (.invokevirtual 119, 3) := by decide +kernel
theorem dX3_shareByHeads_42 : decode cX3_shareByHeads 42 = .ok (.lstore 6, 2) := by decide +kernel
theorem dX3_shareByHeads_44 : decode cX3_shareByHeads 44 = .ok (.lconst 1, 1) := by decide +kernel
theorem dX3_shareByHeads_45 : decode cX3_shareByHeads 45 = .ok (.lstore 8, 2) := by decide +kernel
theorem dX3_shareByHeads_47 : decode cX3_shareByHeads 47 = .ok (.lconst 0, 1) := by decide +kernel
theorem dX3_shareByHeads_48 : decode cX3_shareByHeads 48 = .ok (.lstore 10, 2) := by decide +kernel
theorem dX3_shareByHeads_50 : decode cX3_shareByHeads 50 = .ok (.lconst 0, 1) := by decide +kernel
theorem dX3_shareByHeads_51 : decode cX3_shareByHeads 51 = .ok (.lstore 12, 2) := by decide +kernel
theorem dX3_shareByHeads_53 : decode cX3_shareByHeads 53 = .ok (.lconst 1, 1) := by decide +kernel
theorem dX3_shareByHeads_54 : decode cX3_shareByHeads 54 = .ok (.lstore 14, 2) := by decide +kernel
theorem dX3_shareByHeads_56 : decode cX3_shareByHeads 56 = .ok (.iconst 0, 1) := by decide +kernel
theorem dX3_shareByHeads_57 : decode cX3_shareByHeads 57 = .ok (.istore 16, 2) := by decide +kernel
theorem dX3_shareByHeads_59 : decode cX3_shareByHeads 59 = .ok (.iload 16, 2) := by decide +kernel
theorem dX3_shareByHeads_61 : decode cX3_shareByHeads 61 = .ok (.bipush 100, 2) := by decide +kernel
theorem dX3_shareByHeads_63 : decode cX3_shareByHeads 63 = .ok (.if_icmp .ge 152, 3) := by decide +kernel
theorem dX3_shareByHeads_66 : decode cX3_shareByHeads 66 = .ok (.lload 6, 2) := by decide +kernel
theorem dX3_shareByHeads_68 : decode cX3_shareByHeads 68 = .ok (.lload 12, 2) := by decide +kernel
theorem dX3_shareByHeads_70 : decode cX3_shareByHeads 70 = .ok (.ladd, 1) := by decide +kernel
theorem dX3_shareByHeads_71 : decode cX3_shareByHeads 71 = .ok (.lconst 0, 1) := by decide +kernel
theorem dX3_shareByHeads_72 : decode cX3_shareByHeads 72 = .ok (.lcmp, 1) := by decide +kernel
theorem dX3_shareByHeads_73 : decode cX3_shareByHeads 73 = .ok (.ifCond .le 142, 3) := by decide +kernel
theorem dX3_shareByHeads_76 : decode cX3_shareByHeads 76 = .ok (.lload 6, 2) := by decide +kernel
theorem dX3_shareByHeads_78 : decode cX3_shareByHeads 78 = .ok (.lload 14, 2) := by decide +kernel
theorem dX3_shareByHeads_80 : decode cX3_shareByHeads 80 = .ok (.ladd, 1) := by decide +kernel
theorem dX3_shareByHeads_81 : decode cX3_shareByHeads 81 = .ok (.lconst 0, 1) := by decide +kernel
theorem dX3_shareByHeads_82 : decode cX3_shareByHeads 82 = .ok (.lcmp, 1) := by decide +kernel
theorem dX3_shareByHeads_83 : decode cX3_shareByHeads 83 = .ok (.ifCond .le 132, 3) := by decide +kernel
theorem dX3_shareByHeads_86 : decode cX3_shareByHeads 86 = .ok (.lload 4, 2) := by decide +kernel
theorem dX3_shareByHeads_88 : decode cX3_shareByHeads 88 = .ok (.lload 8, 2) := by decide +kernel
theorem dX3_shareByHeads_90 : decode cX3_shareByHeads 90 = .ok (.ladd, 1) := by decide +kernel
theorem dX3_shareByHeads_91 : decode cX3_shareByHeads 91 = .ok (.lload 6, 2) := by decide +kernel
theorem dX3_shareByHeads_93 : decode cX3_shareByHeads 93 = .ok (.lload 12, 2) := by decide +kernel
theorem dX3_shareByHeads_95 : decode cX3_shareByHeads 95 = .ok (.ladd, 1) := by decide +kernel
theorem dX3_shareByHeads_96 : decode cX3_shareByHeads 96 = .ok (.ldiv, 1) := by decide +kernel
theorem dX3_shareByHeads_97 : decode cX3_shareByHeads 97 = .ok (.lstore 17, 2) := by decide +kernel
theorem dX3_shareByHeads_99 : decode cX3_shareByHeads 99 = .ok (.lload 17, 2) := by decide +kernel
theorem dX3_shareByHeads_101 : decode cX3_shareByHeads 101 = .ok (.lload 4, 2) := by decide +kernel
theorem dX3_shareByHeads_103 : decode cX3_shareByHeads 103 = .ok (.lload 10, 2) := by decide +kernel
theorem dX3_shareByHeads_105 : decode cX3_shareByHeads 105 = .ok (.ladd, 1) := by decide +kernel
theorem dX3_shareByHeads_106 : decode cX3_shareByHeads 106 = .ok (.lload 6, 2) := by decide +kernel
theorem dX3_shareByHeads_108 : decode cX3_shareByHeads 108 = .ok (.lload 14, 2) := by decide +kernel
theorem dX3_shareByHeads_110 : decode cX3_shareByHeads 110 = .ok (.ladd, 1) := by decide +kernel
theorem dX3_shareByHeads_111 : decode cX3_shareByHeads 111 = .ok (.ldiv, 1) := by decide +kernel
theorem dX3_shareByHeads_112 : decode cX3_shareByHeads 112 = .ok (.lcmp, 1) := by decide +kernel
theorem dX3_shareByHeads_113 : decode cX3_shareByHeads 113 = .ok (.ifCond .ne 102, 3) := by decide +kernel
theorem dX3_shareByHeads_116 : decode cX3_shareByHeads 116 = .ok (.lload 17, 2) := by decide +kernel
theorem dX3_shareByHeads_118 : decode cX3_shareByHeads 118 = .ok (.ldc2_w 123, 3) := by decide +kernel
theorem dX3_shareByHeads_121 : decode cX3_shareByHeads 121 = .ok (.lcmp, 1) := by decide +kernel
theorem dX3_shareByHeads_122 : decode cX3_shareByHeads 122 = .ok (.ifCond .lt 6, 3) := by decide +kernel
theorem dX3_shareByHeads_125 : decode cX3_shareByHeads 125 = .ok (.goto 90, 3) := by decide +kernel
theorem dX3_shareByHeads_128 : decode cX3_shareByHeads 128 = .ok (.lload 8, 2) := by decide +kernel
theorem dX3_shareByHeads_130 : decode cX3_shareByHeads 130 = .ok (.lload 17, 2) := by decide +kernel
theorem dX3_shareByHeads_132 : decode cX3_shareByHeads 132 = .ok (.lload 12, 2) := by decide +kernel
theorem dX3_shareByHeads_134 : decode cX3_shareByHeads 134 = .ok (.lmul, 1) := by decide +kernel
theorem dX3_shareByHeads_135 : decode cX3_shareByHeads 135 = .ok (.lsub, 1) := by decide +kernel
theorem dX3_shareByHeads_136 : decode cX3_shareByHeads 136 = .ok (.lstore 19, 2) := by decide +kernel
theorem dX3_shareByHeads_138 : decode cX3_shareByHeads 138 = .ok (.lload 10, 2) := by decide +kernel
theorem dX3_shareByHeads_140 : decode cX3_shareByHeads 140 = .ok (.lload 17, 2) := by decide +kernel
theorem dX3_shareByHeads_142 : decode cX3_shareByHeads 142 = .ok (.lload 14, 2) := by decide +kernel
theorem dX3_shareByHeads_144 : decode cX3_shareByHeads 144 = .ok (.lmul, 1) := by decide +kernel
theorem dX3_shareByHeads_145 : decode cX3_shareByHeads 145 = .ok (.lsub, 1) := by decide +kernel
theorem dX3_shareByHeads_146 : decode cX3_shareByHeads 146 = .ok (.lstore 21, 2) := by decide +kernel
theorem dX3_shareByHeads_148 : decode cX3_shareByHeads 148 = .ok (.lload 19, 2) := by decide +kernel
theorem dX3_shareByHeads_150 : decode cX3_shareByHeads 150 = .ok (.invokestatic 125, 3) := by decide +kernel
theorem dX3_shareByHeads_153 : decode cX3_shareByHeads 153 = .ok (.ldc2_w 123, 3) := by decide +kernel
theorem dX3_shareByHeads_156 : decode cX3_shareByHeads 156 = .ok (.lcmp, 1) := by decide +kernel
theorem dX3_shareByHeads_157 : decode cX3_shareByHeads 157 = .ok (.ifCond .ge 58, 3) := by decide +kernel
theorem dX3_shareByHeads_160 : decode cX3_shareByHeads 160 = .ok (.lload 21, 2) := by decide +kernel
theorem dX3_shareByHeads_162 : decode cX3_shareByHeads 162 = .ok (.invokestatic 125, 3) := by decide +kernel
theorem dX3_shareByHeads_165 : decode cX3_shareByHeads 165 = .ok (.ldc2_w 123, 3) := by decide +kernel
theorem dX3_shareByHeads_168 : decode cX3_shareByHeads 168 = .ok (.lcmp, 1) := by decide +kernel
theorem dX3_shareByHeads_169 : decode cX3_shareByHeads 169 = .ok (.ifCond .lt 6, 3) := by decide +kernel
theorem dX3_shareByHeads_172 : decode cX3_shareByHeads 172 = .ok (.goto 43, 3) := by decide +kernel
theorem dX3_shareByHeads_175 : decode cX3_shareByHeads 175 = .ok (.lload 12, 2) := by decide +kernel
theorem dX3_shareByHeads_177 : decode cX3_shareByHeads 177 = .ok (.lstore 8, 2) := by decide +kernel
theorem dX3_shareByHeads_179 : decode cX3_shareByHeads 179 = .ok (.lload 19, 2) := by decide +kernel
theorem dX3_shareByHeads_181 : decode cX3_shareByHeads 181 = .ok (.lstore 12, 2) := by decide +kernel
theorem dX3_shareByHeads_183 : decode cX3_shareByHeads 183 = .ok (.lload 14, 2) := by decide +kernel
theorem dX3_shareByHeads_185 : decode cX3_shareByHeads 185 = .ok (.lstore 10, 2) := by decide +kernel
theorem dX3_shareByHeads_187 : decode cX3_shareByHeads 187 = .ok (.lload 21, 2) := by decide +kernel
theorem dX3_shareByHeads_189 : decode cX3_shareByHeads 189 = .ok (.lstore 14, 2) := by decide +kernel
theorem dX3_shareByHeads_191 : decode cX3_shareByHeads 191 = .ok (.lload 4, 2) := by decide +kernel
theorem dX3_shareByHeads_193 : decode cX3_shareByHeads 193 = .ok (.lload 17, 2) := by decide +kernel
theorem dX3_shareByHeads_195 : decode cX3_shareByHeads 195 = .ok (.lload 6, 2) := by decide +kernel
theorem dX3_shareByHeads_197 : decode cX3_shareByHeads 197 = .ok (.lmul, 1) := by decide +kernel
theorem dX3_shareByHeads_198 : decode cX3_shareByHeads 198 = .ok (.lsub, 1) := by decide +kernel
theorem dX3_shareByHeads_199 : decode cX3_shareByHeads 199 = .ok (.lstore 23, 2) := by decide +kernel
theorem dX3_shareByHeads_201 : decode cX3_shareByHeads 201 = .ok (.lload 6, 2) := by decide +kernel
theorem dX3_shareByHeads_203 : decode cX3_shareByHeads 203 = .ok (.lstore 4, 2) := by decide +kernel
theorem dX3_shareByHeads_205 : decode cX3_shareByHeads 205 = .ok (.lload 23, 2) := by decide +kernel
theorem dX3_shareByHeads_207 : decode cX3_shareByHeads 207 = .ok (.lstore 6, 2) := by decide +kernel
theorem dX3_shareByHeads_209 : decode cX3_shareByHeads 209 = .ok (.iinc 16 1, 3) := by decide +kernel
theorem dX3_shareByHeads_212 : decode cX3_shareByHeads 212 = .ok (.goto (-153), 3) := by decide +kernel
theorem dX3_shareByHeads_215 : decode cX3_shareByHeads 215 = .ok (.lload 10, 2) := by decide +kernel
theorem dX3_shareByHeads_217 : decode cX3_shareByHeads 217 = .ok (.lconst 0, 1) := by decide +kernel
theorem dX3_shareByHeads_218 : decode cX3_shareByHeads 218 = .ok (.lcmp, 1) := by decide +kernel
theorem dX3_shareByHeads_219 : decode cX3_shareByHeads 219 = .ok (.ifCond .ne 5, 3) := by decide +kernel
theorem dX3_shareByHeads_222 : decode cX3_shareByHeads 222 = .ok (.iconst 0, 1) := by decide +kernel
theorem dX3_shareByHeads_223 : decode cX3_shareByHeads 223 = .ok (.ireturn, 1) := by decide +kernel
theorem dX3_shareByHeads_224 : decode cX3_shareByHeads 224 = .ok (.aload_n 0, 1) := by decide +kernel
theorem dX3_shareByHeads_225 : decode cX3_shareByHeads 225 = .ok (.getfield 34, 3) := by decide +kernel
theorem dX3_shareByHeads_228 : decode cX3_shareByHeads 228 = .ok (.aload_n 0, 1) := by decide +kernel
theorem dX3_shareByHeads_229 : decode cX3_shareByHeads 229 = .ok (.getfield 37, 3) := by decide +kernel
theorem dX3_shareByHeads_232 : decode cX3_shareByHeads 232 = .ok (.invokevirtual 57, 3) := by decide +kernel
theorem dX3_shareByHeads_235 : decode cX3_shareByHeads 235 = .ok (.aload_n 0, 1) := by decide +kernel
theorem dX3_shareByHeads_236 : decode cX3_shareByHeads 236 = .ok (.getfield 37, 3) := by decide +kernel
theorem dX3_shareByHeads_239 : decode cX3_shareByHeads 239 = .ok (.aload_n 0, 1) := by decide +kernel
theorem dX3_shareByHeads_240 : decode cX3_shareByHeads 240 = .ok (.getfield 34, 3) := by decide +kernel
theorem dX3_shareByHeads_243 : decode cX3_shareByHeads 243 = .ok (.lload 8, 2) := by decide +kernel
theorem dX3_shareByHeads_245 : decode cX3_shareByHeads 245 = .ok (.aload_n 0, 1) := by decide +kernel
theorem dX3_shareByHeads_246 : decode cX3_shareByHeads 246 = .ok (.getfield 40, 3) := by decide +kernel
theorem dX3_shareByHeads_249 : decode cX3_shareByHeads 249 = .ok (.lload 10, 2) := by decide +kernel
theorem dX3_shareByHeads_251 : decode cX3_shareByHeads 251 = .ok (.iload_n 1, 1) := by decide +kernel
theorem dX3_shareByHeads_252 : decode cX3_shareByHeads 252 = .ok (.invokevirtual 131, 3) := by decide +kernel
theorem dX3_shareByHeads_255 : decode cX3_shareByHeads 255 = .ok (.aload_n 0, 1) := by decide +kernel
theorem dX3_shareByHeads_256 : decode cX3_shareByHeads 256 = .ok (.getfield 40, 3) := by decide +kernel
theorem dX3_shareByHeads_259 : decode cX3_shareByHeads 259 = .ok (.aload_n 0, 1) := by decide +kernel
theorem dX3_shareByHeads_260 : decode cX3_shareByHeads 260 = .ok (.getfield 34, 3) := by decide +kernel
theorem dX3_shareByHeads_263 : decode cX3_shareByHeads 263 = .ok (.lload 12, 2) := by decide +kernel
theorem dX3_shareByHeads_265 : decode cX3_shareByHeads 265 = .ok (.aload_n 0, 1) := by decide +kernel
theorem dX3_shareByHeads_266 : decode cX3_shareByHeads 266 = .ok (.getfield 40, 3) := by decide +kernel
theorem dX3_shareByHeads_269 : decode cX3_shareByHeads 269 = .ok (.lload 14, 2) := by decide +kernel
theorem dX3_shareByHeads_271 : decode cX3_shareByHeads 271 = .ok (.iload_n 1, 1) := by decide +kernel
theorem dX3_shareByHeads_272 : decode cX3_shareByHeads 272 = .ok (.invokevirtual 131, 3) := by decide +kernel
theorem dX3_shareByHeads_275 : decode cX3_shareByHeads 275 = .ok (.aload_n 0, 1) := by decide +kernel
theorem dX3_shareByHeads_276 : decode cX3_shareByHeads 276 = .ok (.getfield 37, 3) := by decide +kernel
theorem dX3_shareByHeads_279 : decode cX3_shareByHeads 279 = .ok (.iload_n 1, 1) := by decide +kernel
theorem dX3_shareByHeads_280 : decode cX3_shareByHeads 280 = .ok (.iconst 1, 1) := by decide +kernel
theorem dX3_shareByHeads_281 : decode cX3_shareByHeads 281 = .ok (.invokevirtual 135, 3) := by decide +kernel
theorem dX3_shareByHeads_284 : decode cX3_shareByHeads 284 = .ok (.aload_n 0, 1) := by decide +kernel
theorem dX3_shareByHeads_285 : decode cX3_shareByHeads 285 = .ok (.getfield 40, 3) := by decide +kernel
theorem dX3_shareByHeads_288 : decode cX3_shareByHeads 288 = .ok (.iload_n 1, 1) := by decide +kernel
theorem dX3_shareByHeads_289 : decode cX3_shareByHeads 289 = .ok (.iconst 1, 1) := by decide +kernel
theorem dX3_shareByHeads_290 : decode cX3_shareByHeads 290 = .ok (.invokevirtual 135, 3) := by decide +kernel
theorem dX3_shareByHeads_293 : decode cX3_shareByHeads 293 = .ok (.iconst 1, 1) := by decide +kernel
theorem dX3_shareByHeads_294 : decode cX3_shareByHeads 294 = .ok (.ireturn, 1) := by decide +kernel
theorem mul_bd {q y : Int} (h0 : 0 ≤ q) (h1 : q < 1000000000) (h : -1000000000 < y ∧ y < 1000000000) : -1000000000000000000 ≤ q * y ∧ q * y ≤ 1000000000000000000 := by
  rcases Int.lt_or_le y 0 with r | r
  · have := mul_rng h0 (show q ≤ 999999999 by omega) (show 0 ≤ -y by omega) (show -y ≤ 999999999 by omega)
    rw [Int.mul_neg] at this; omega
  · have := mul_rng h0 (show q ≤ 999999999 by omega) r (show y ≤ 999999999 by omega)
    omega
set_option maxHeartbeats 8000000 in
theorem m_shareByHeads (l : Launch) {D : va_G} {ids : Nat → ClassId} {β : Nat} {sh : Nat → Nat × Nat} {N : Nat} {R : Nat → Nat → Option Nat} {F : Nat → Nat → Int} {A : Nat → Int → Int} {L dc tp bt qt rs g l2 : Nat} (hL : isL sh R N L dc tp bt qt rs) (hg : isW sh R N g) (hl : isW sh R N l2) (hr0 : isW sh R N rs) (ngl : g ≠ l2) (ngr : g ≠ rs) (nlr : l2 ≠ rs) (h5 : F L 5 = (g : Int)) (h6 : F L 6 = (l2 : Int)) (wg : WOK F A g) (wl : WOK F A l2) (sg : F g 0 = 1) (sl : F l2 0 = 1) (hle : wm F A l2 ≤ wm F A g) (hsz : 3 ≤ F g 1 ∧ F g 1 ≤ 79) : MetX l yX3_shareByHeads cX3_shareByHeads 25 (some (.boolean)) 2 60 D ids β sh N R F A [rf L] (pIr (Q_sbh F A g l2 rs)) := by
  refine MetX.of (loc := [_, _, _, _, _, _, _, _, _, _, _, _, _, _, _, _, _, _, _, _, _, _, _, _, _]) (plainFor_of_name (by decide +kernel)) (Nat.le_of_ble_eq_true rfl) rfl ?_
  intro p e s m args below meth c hC hK hr hlk
  obtain ⟨k1, k2, k3, k4, k5, k6, k7⟩ := id hL
  obtain ⟨hg1, hg2, hg3, hg4⟩ := id hg
  obtain ⟨hl1, hl2, hl3, hl4⟩ := id hl
  obtain ⟨hr1, hr2, hr3, hr4⟩ := id hr0
  have hg0 : g < N := by omega
  have hl0 : l2 < N := by omega
  have hrr0 : rs < N := by omega
  have nLg : L ≠ g := fun q => by rw [q, hg2] at k2; cases k2
  have nLl : L ≠ l2 := fun q => by rw [q, hl2] at k2; cases k2
  have nLr : L ≠ rs := fun q => by rw [q, hr2] at k2; cases k2
  obtain ⟨n, hn⟩ : ∃ n : Nat, F g 1 = n + 3 := ⟨(F g 1 - 3).toNat, by omega⟩
  obtain ⟨Gv, hGv⟩ : ∃ z, z = wm F A g := ⟨_, rfl⟩
  obtain ⟨Lv, hLv⟩ : ∃ z, z = wm F A l2 := ⟨_, rfl⟩
  have vg : wv F A g = Gv := by unfold wv; rw [sg, Int.one_mul, hGv]
  have vl : wv F A l2 = Lv := by unfold wv; rw [sl, Int.one_mul, hLv]
  have sls := size_mono wg wl hle
  have l1s := wl.2.2.2.2
  have L0 : 0 < Lv := by rw [hLv]; exact wm_pos wl (by omega)
  have G1 : Gv < 1000000000 ^ (n + 3) := by rw [hGv]; have := wm_lt wg; rwa [hn, show ((n : Int) + 3).toNat = n + 3 by omega] at this
  rw [← hGv, ← hLv] at hle
  have gcdE : Int.gcd (wv F A g) (wv F A l2) = Int.gcd Gv Lv := by rw [vg, vl]
  have dg0 : dig 1000000000 (lim F A g) (n + 3) := fun k _ _ => lim_dig wg k
  have dl0 : dig 1000000000 (lim F A l2) (n + 3) := fun k _ _ => lim_dig wl k
  have eg : dv 1000000000 (lim F A g) (n + 3) = Gv := by rw [dv_lim wg (by omega), hGv]
  have el : dv 1000000000 (lim F A l2) (n + 3) = Lv := by rw [dv_lim wl (by omega), hLv]
  have topg : 1 ≤ lim F A g (F g 1 - 1) := by
    have a := wg.2.2.2.1 (by omega)
    have b := lim_dig wg (F g 1 - 1)
    have c : lim F A g (F g 1 - 1) = A (g + 1) (F g 1 - 1) := by unfold lim; exact if_pos ⟨by omega, by omega⟩
    omega
  have topl : lim F A l2 (F g 1 - 1) ≤ lim F A g (F g 1 - 1) := by
    apply Classical.byContradiction
    intro q
    have := dv_lt_of (B := 1000000000) (by decide) (f := lim F A g) (g := lim F A l2) (k := n + 2) (n := n + 3) (by omega) (by omega) dg0 dl0 (fun j a b => by omega) (by rw [show (n : Int) + 2 = F g 1 - 1 by omega]; omega)
    omega
  have fin : ∀ (ev : Bool) (sc x y a b xx xy yx yy kk : Int) {e1 e2 e3 e4 e5 e6 e7 e8 : Option PV}, lhS ev xx xy yx yy → (-1000000000 < xx ∧ xx < 1000000000) → (-1000000000 < xy ∧ xy < 1000000000) → (-1000000000 < yx ∧ yx < 1000000000) → (-1000000000 < yy ∧ yy < 1000000000) → a = xx * Gv + xy * Lv → b = yx * Gv + yy * Lv → 0 ≤ b → b ≤ a → a ≤ Gv → Int.gcd a b = Int.gcd Gv Lv → (xy ≠ 0 → 2 * (a * b) ≤ Gv * Lv) → X p l e { frames := 2, cells := 0, slots := 0, locals := 60 } s m args below meth c (MQ below (QX D ids β sh N R (pIr (Q_sbh F A g l2 rs))) args s 0 0 (inG β N)) (inG β N) D ids β sh 25 0 0 N R F A [some (rf L), some (pI (F g 1)), some (pL sc), none, some (pL (x)), none, some (pL (y)), none, some (pL (xx)), none, some (pL (xy)), none, some (pL (yx)), none, some (pL (yy)), none, some (pI (kk)), e1, e2, e3, e4, e5, e6, e7, e8] [] 215 := by
    intro ev sc x y a b xx xy yx yy kk e1 e2 e3 e4 e5 e6 e7 e8 hS m1 m2 m3 m4 ha hb b0 hba haG hgcd hhalf
    obtain ⟨mt1, mt2⟩ := lhS_mix hS m1 m2 m3 m4
    refine x_lload (pc2 := 217) hC rfl dX3_shareByHeads_215 rfl ?_
    refine x_lconst0 (pc2 := 218) hC dX3_shareByHeads_217 rfl ?_
    refine x_lcmp_ne (tgt := 224) (pc2 := 222) hC (by omega) (by omega) dX3_shareByHeads_218 dX3_shareByHeads_219 rfl rfl (fun h_218 => ?_) (fun h_218 => ?_)
    · refine x_aload_n (pc2 := 225) hC rfl rfl dX3_shareByHeads_224 rfl ?_
      refine g_189 (pc2 := 228) hC hK (by assumption) (by assumption) (by assumption) dX3_shareByHeads_225 rfl ?_
      refine x_aload_n (pc2 := 229) hC rfl rfl dX3_shareByHeads_228 rfl ?_
      refine g_190 (pc2 := 232) hC hK (by assumption) (by assumption) (by assumption) dX3_shareByHeads_229 rfl ?_
      refine x_cVv (pc2 := 235) (ci := 6) hC hK (m_assign l hr0 hg wg) lk_557 rfl rfl (by decide) (by assumption) (by assumption) ⟨Nat.le_of_ble_eq_true rfl, Nat.le_of_ble_eq_true rfl⟩ ⟨Nat.le_refl _, Nat.le_refl _⟩ rfl (Nat.le_of_ble_eq_true rfl) dX3_shareByHeads_232 rfl ?_
      rintro F1 A1 ⟨q1, q2, q3, q4⟩
      have r5 : F1 L 5 = (g : Int) := by rw [q1 L nLr]; exact h5
      have r6 : F1 L 6 = (l2 : Int) := by rw [q1 L nLr]; exact h6
      have fg1 : F1 g = F g := q1 g ngr
      have fl1 : F1 l2 = F l2 := q1 l2 nlr
      have ag1 : A1 (g + 1) = A (g + 1) := q2 (g + 1) (by omega)
      have al1 : A1 (l2 + 1) = A (l2 + 1) := q2 (l2 + 1) (by omega)
      have wr1 : wm F1 A1 rs = Gv := by rw [(wm_eq_of wg q3 q4).2, hGv]
      have wl1 : WOK F1 A1 l2 := WOK_of fl1 al1 wl
      have wl1m : wm F1 A1 l2 = Lv := by rw [wm_of fl1 al1, hLv]
      have srs : F1 rs 1 ≤ F g 1 := by
        have := size_mono (F := F1) (A := A1) (x := g) (y := rs) (WOK_of fg1 ag1 wg) q3 (by rw [wr1, wm_of fg1 ag1, hGv]; exact Int.le_refl _)
        rwa [fg1] at this
      refine x_aload_n (pc2 := 236) hC rfl rfl dX3_shareByHeads_235 rfl ?_
      refine g_190 (pc2 := 239) hC hK (by assumption) (by assumption) (by assumption) dX3_shareByHeads_236 rfl ?_
      refine x_aload_n (pc2 := 240) hC rfl rfl dX3_shareByHeads_239 rfl ?_
      refine g_189 (pc2 := 243) hC hK (by assumption) (by assumption) (by assumption) dX3_shareByHeads_240 rfl ?_
      refine x_lload (pc2 := 245) hC rfl dX3_shareByHeads_243 rfl ?_
      refine x_aload_n (pc2 := 246) hC rfl rfl dX3_shareByHeads_245 rfl ?_
      refine g_191 (pc2 := 249) hC hK (by assumption) (by assumption) (by assumption) dX3_shareByHeads_246 rfl ?_
      refine x_lload (pc2 := 251) hC rfl dX3_shareByHeads_249 rfl ?_
      refine x_iload_n (pc2 := 252) hC rfl rfl dX3_shareByHeads_251 rfl ?_
      refine x_cVv (pc2 := 255) (ci := 6) hC hK (m_mix l hg hr0 hl q3 wl1 ⟨srs, by rw [fl1]; omega, by omega⟩ mt1 (by rw [wr1, wl1m, ← ha, hn, show ((n : Int) + 3).toNat = n + 3 by omega]; omega)) lk_601 rfl rfl (by decide) (by assumption) (by assumption) ⟨Nat.le_of_ble_eq_true rfl, Nat.le_of_ble_eq_true rfl⟩ ⟨Nat.le_refl _, Nat.le_refl _⟩ rfl (Nat.le_of_ble_eq_true rfl) dX3_shareByHeads_252 rfl ?_
      rintro F2 A2 ⟨e252, n2, n3, n4⟩
      obtain rfl := e252.symm
      rw [wr1, wl1m, ← ha] at n4
      have ar2 : A2 (rs + 1) = A1 (rs + 1) := n2 (rs + 1) (by omega)
      have al2 : A2 (l2 + 1) = A1 (l2 + 1) := n2 (l2 + 1) (by omega)
      refine x_aload_n (pc2 := 256) hC rfl rfl dX3_shareByHeads_255 rfl ?_
      refine g_191 (pc2 := 259) hC hK (by assumption) (by assumption) (by assumption) dX3_shareByHeads_256 rfl ?_
      refine x_aload_n (pc2 := 260) hC rfl rfl dX3_shareByHeads_259 rfl ?_
      refine g_189 (pc2 := 263) hC hK (by assumption) (by assumption) (by assumption) dX3_shareByHeads_260 rfl ?_
      refine x_lload (pc2 := 265) hC rfl dX3_shareByHeads_263 rfl ?_
      refine x_aload_n (pc2 := 266) hC rfl rfl dX3_shareByHeads_265 rfl ?_
      refine g_191 (pc2 := 269) hC hK (by assumption) (by assumption) (by assumption) dX3_shareByHeads_266 rfl ?_
      refine x_lload (pc2 := 271) hC rfl dX3_shareByHeads_269 rfl ?_
      refine x_iload_n (pc2 := 272) hC rfl rfl dX3_shareByHeads_271 rfl ?_
      refine x_cVv (pc2 := 275) (ci := 6) hC hK (m_mix l hl hr0 hl (WOK_of rfl ar2 q3) (WOK_of rfl al2 wl1) ⟨srs, by rw [fl1]; omega, by omega⟩ mt2 (by rw [wm_of rfl ar2, wm_of rfl al2, wr1, wl1m, ← hb, hn, show ((n : Int) + 3).toNat = n + 3 by omega]; omega)) lk_601 rfl rfl (by decide) (by assumption) (by assumption) ⟨Nat.le_of_ble_eq_true rfl, Nat.le_of_ble_eq_true rfl⟩ ⟨Nat.le_refl _, Nat.le_refl _⟩ rfl (Nat.le_of_ble_eq_true rfl) dX3_shareByHeads_272 rfl ?_
      rintro F3 A3 ⟨e272, p2, p3, p4⟩
      obtain rfl := e272.symm
      rw [wm_of rfl ar2, wm_of rfl al2, wr1, wl1m, ← hb] at p4
      have ag3 : A3 (g + 1) = A2 (g + 1) := p2 (g + 1) (by omega)
      refine x_aload_n (pc2 := 276) hC rfl rfl dX3_shareByHeads_275 rfl ?_
      refine g_190 (pc2 := 279) hC hK (by assumption) (by assumption) (by assumption) dX3_shareByHeads_276 rfl ?_
      refine x_iload_n (pc2 := 280) hC rfl rfl dX3_shareByHeads_279 rfl ?_
      refine x_iconst (pc2 := 281) hC dX3_shareByHeads_280 rfl ?_
      refine x_cVv (pc2 := 284) (ci := 6) hC hK (m_trim l hg ⟨by omega, by omega⟩ (by rw [ag3]; exact n3) (Or.inl rfl)) lk_602 rfl rfl (by decide) (by assumption) (by assumption) ⟨Nat.le_of_ble_eq_true rfl, Nat.le_of_ble_eq_true rfl⟩ ⟨Nat.le_refl _, Nat.le_refl _⟩ rfl (Nat.le_of_ble_eq_true rfl) dX3_shareByHeads_281 rfl ?_
      rintro F4 A4 ⟨e281, t1, t2, t3⟩
      obtain rfl := e281.symm
      rw [ag3, n4, Int.one_mul] at t3
      have r5b : F4 L 5 = (g : Int) := by rw [t1 L nLg]; exact r5
      have r6b : F4 L 6 = (l2 : Int) := by rw [t1 L nLg]; exact r6
      refine x_aload_n (pc2 := 285) hC rfl rfl dX3_shareByHeads_284 rfl ?_
      refine g_191 (pc2 := 288) hC hK (by assumption) (by assumption) (by assumption) dX3_shareByHeads_285 rfl ?_
      refine x_iload_n (pc2 := 289) hC rfl rfl dX3_shareByHeads_288 rfl ?_
      refine x_iconst (pc2 := 290) hC dX3_shareByHeads_289 rfl ?_
      refine x_cVv (pc2 := 293) (ci := 6) hC hK (m_trim l hl ⟨by omega, by omega⟩ p3 (Or.inl rfl)) lk_602 rfl rfl (by decide) (by assumption) (by assumption) ⟨Nat.le_of_ble_eq_true rfl, Nat.le_of_ble_eq_true rfl⟩ ⟨Nat.le_refl _, Nat.le_refl _⟩ rfl (Nat.le_of_ble_eq_true rfl) dX3_shareByHeads_290 rfl ?_
      rintro F5 A5 ⟨e290, u1, u2, u3⟩
      obtain rfl := e290.symm
      rw [p4, Int.one_mul] at u3
      refine x_iconst (pc2 := 294) hC dX3_shareByHeads_293 rfl ?_
      exact x_zret hC (by omega) hr hlk ⟨_, rfl, Or.inr ⟨rfl, fun o a1 a2 a3 => by rw [u1 o a2, t1 o a1, q1 o a3], fun x a1 a2 a3 => by rw [p2 x a2, n2 x a1, q2 x a3], WOK_of (u1 g ngl) rfl t2, u2, WOK_of (by rw [u1 rs (Ne.symm nlr), t1 rs (Ne.symm ngr)]) (by rw [p2 (rs + 1) (by omega), n2 (rs + 1) (by omega)]) q3, by rw [wv_of (u1 g ngl) rfl, t3, u3, hgcd, gcdE], by rw [u3]; exact b0, by rw [wv_of (u1 g ngl) rfl, t3, u3]; exact hba, by rw [wv_of (u1 g ngl) rfl, t3, u3, vg, vl]; exact hhalf (by assumption), by rw [wv_of (u1 g ngl) rfl, t3, vg]; exact haG⟩⟩ dX3_shareByHeads_294
    · refine x_iconst (pc2 := 223) hC dX3_shareByHeads_222 rfl ?_
      exact x_zret hC (by omega) hr hlk ⟨_, rfl, Or.inl ⟨rfl, rfl, rfl⟩⟩ dX3_shareByHeads_223
  have loop : ∀ (sc U X0 : Int), 0 < U → 1 ≤ sc → Gv * sc ≤ (X0 + 1) * U → (0 ≤ X0 ∧ X0 ≤ 3000000000000000000) → ∀ (n2 : Nat) (ev : Bool) (x y a b xx xy yx yy kk : Int), (100 - kk).toNat < n2 → 0 ≤ kk → kk ≤ 100 → lhS ev xx xy yx yy → (-1000000000 < xx ∧ xx < 1000000000) → (-1000000000 < xy ∧ xy < 1000000000) → (-1000000000 < yx ∧ yx < 1000000000) → (-1000000000 < yy ∧ yy < 1000000000) → a = xx * Gv + xy * Lv → b = yx * Gv + yy * Lv → 0 ≤ b → b ≤ a → a ≤ Gv → Int.gcd a b = Int.gcd Gv Lv → (xy = 0 ∧ a = Gv ∧ b = Lv) ∨ (2 * (a * b) ≤ Gv * Lv) → lhB ev U sc a b x y xx xy yx yy → 0 < x + xx → 0 < x + xy → X p l e { frames := 2, cells := 0, slots := 0, locals := 60 } s m args below meth c (MQ below (QX D ids β sh N R (pIr (Q_sbh F A g l2 rs))) args s 0 0 (inG β N)) (inG β N) D ids β sh 25 0 0 N R F A [some (rf L), some (pI (F g 1)), some (pL sc), none, some (pL (x)), none, some (pL (y)), none, some (pL (xx)), none, some (pL (xy)), none, some (pL (yx)), none, some (pL (yy)), none, some (pI (kk)), none, none, none, none, none, none, none, none] [] 59 := by
    intro sc U X0 hU hsc hG hX0 n2
    induction n2 with
    | zero => intro ev x y a b xx xy yx yy kk hn2; omega
    | succ n2 ih =>
      intro ev x y a b xx xy yx yy kk hn2 hk0 hk1 hS m1 m2 m3 m4 ha hb b0 hba haG hgcd hhalf hB xp1 xp2
      have rg := lh_rng hU (by omega) hB (by omega) (by omega) (by omega) (by omega) hG haG (by omega) b0 (by omega) hX0
      refine x_iload (pc2 := 61) hC rfl dX3_shareByHeads_59 rfl ?_
      refine x_bipush (pc2 := 63) hC rfl dX3_shareByHeads_61 rfl ?_
      refine x_icmp_ge (tgt := 215) (pc2 := 66) hC (by omega) (by omega) dX3_shareByHeads_63 rfl rfl (fun h_63 => ?_) (fun h_63 => ?_)
      · exact fin ev sc x y a b xx xy yx yy kk hS m1 m2 m3 m4 ha hb b0 hba haG hgcd (fun q => hhalf.resolve_left (fun r => q r.1))
      · refine x_lload (pc2 := 68) hC rfl dX3_shareByHeads_66 rfl ?_
        refine x_lload (pc2 := 70) hC rfl dX3_shareByHeads_68 rfl ?_
        refine x_ladd (pc2 := 71) hC dX3_shareByHeads_70 rfl ?_
        refine x_lconst0 (pc2 := 72) hC dX3_shareByHeads_71 rfl ?_
        refine x_lcmp_le (tgt := 215) (pc2 := 76) hC ⟨by omega, by omega⟩ ⟨by omega, by omega⟩ dX3_shareByHeads_72 dX3_shareByHeads_73 rfl rfl (fun h_72 => ?_) (fun h_72 => ?_)
        · exact fin ev sc x y a b xx xy yx yy kk hS m1 m2 m3 m4 ha hb b0 hba haG hgcd (fun q => hhalf.resolve_left (fun r => q r.1))
        · refine x_lload (pc2 := 78) hC rfl dX3_shareByHeads_76 rfl ?_
          refine x_lload (pc2 := 80) hC rfl dX3_shareByHeads_78 rfl ?_
          refine x_ladd (pc2 := 81) hC dX3_shareByHeads_80 rfl ?_
          refine x_lconst0 (pc2 := 82) hC dX3_shareByHeads_81 rfl ?_
          refine x_lcmp_le (tgt := 215) (pc2 := 86) hC ⟨by omega, by omega⟩ ⟨by omega, by omega⟩ dX3_shareByHeads_82 dX3_shareByHeads_83 rfl rfl (fun h_82 => ?_) (fun h_82 => ?_)
          · exact fin ev sc x y a b xx xy yx yy kk hS m1 m2 m3 m4 ha hb b0 hba haG hgcd (fun q => hhalf.resolve_left (fun r => q r.1))
          · have qr1 : 0 ≤ (x + xx) / (y + yx) := Int.ediv_nonneg (by omega) (by omega)
            have qm1 : (x + xx) / (y + yx) ≤ x + xx := Int.ediv_le_self _ (by omega)
            have qr2 : 0 ≤ (x + xy) / (y + yy) := Int.ediv_nonneg (by omega) (by omega)
            have qm2 : (x + xy) / (y + yy) ≤ x + xy := Int.ediv_le_self _ (by omega)
            refine x_lload (pc2 := 88) hC rfl dX3_shareByHeads_86 rfl ?_
            refine x_lload (pc2 := 90) hC rfl dX3_shareByHeads_88 rfl ?_
            refine x_ladd (pc2 := 91) hC dX3_shareByHeads_90 rfl ?_
            refine x_lload (pc2 := 93) hC rfl dX3_shareByHeads_91 rfl ?_
            refine x_lload (pc2 := 95) hC rfl dX3_shareByHeads_93 rfl ?_
            refine x_ladd (pc2 := 96) hC dX3_shareByHeads_95 rfl ?_
            refine x_ldivp (pc2 := 97) hC (by omega) (by omega) (by omega) (by omega) dX3_shareByHeads_96 rfl ?_
            refine x_lstore (pc2 := 99) (loc2 := [_, _, _, _, _, _, _, _, _, _, _, _, _, _, _, _, _, _, _, _, _, _, _, _, _]) hC (by decide) rfl dX3_shareByHeads_97 rfl ?_
            refine x_lload (pc2 := 101) hC rfl dX3_shareByHeads_99 rfl ?_
            refine x_lload (pc2 := 103) hC rfl dX3_shareByHeads_101 rfl ?_
            refine x_lload (pc2 := 105) hC rfl dX3_shareByHeads_103 rfl ?_
            refine x_ladd (pc2 := 106) hC dX3_shareByHeads_105 rfl ?_
            refine x_lload (pc2 := 108) hC rfl dX3_shareByHeads_106 rfl ?_
            refine x_lload (pc2 := 110) hC rfl dX3_shareByHeads_108 rfl ?_
            refine x_ladd (pc2 := 111) hC dX3_shareByHeads_110 rfl ?_
            refine x_ldivp (pc2 := 112) hC (by omega) (by omega) (by omega) (by omega) dX3_shareByHeads_111 rfl ?_
            refine x_lcmp_ne (tgt := 215) (pc2 := 116) hC (by omega) (by omega) dX3_shareByHeads_112 dX3_shareByHeads_113 rfl rfl (fun h_112 => ?_) (fun h_112 => ?_)
            · exact fin ev sc x y a b xx xy yx yy kk hS m1 m2 m3 m4 ha hb b0 hba haG hgcd (fun q => hhalf.resolve_left (fun r => q r.1))
            · have qr : 0 ≤ (x + xx) / (y + yx) := Int.ediv_nonneg (by omega) (by omega)
              have qm : (x + xx) / (y + yx) ≤ x + xx := Int.ediv_le_self _ (by omega)
              refine x_lload (pc2 := 118) hC rfl dX3_shareByHeads_116 rfl ?_
              refine x_ldc2 (pc2 := 121) (z := 1000000000) hC wt_597 rfl dX3_shareByHeads_118 rfl ?_
              refine x_lcmp_lt (tgt := 128) (pc2 := 125) hC (by omega) (by omega) dX3_shareByHeads_121 dX3_shareByHeads_122 rfl rfl (fun h_121 => ?_) (fun h_121 => ?_)
              · have p1 := mul_bd (q := (x + xx) / (y + yx)) qr h_121 m3
                have p2 := mul_bd (q := (x + xx) / (y + yx)) qr h_121 m4
                refine x_lload (pc2 := 130) hC rfl dX3_shareByHeads_128 rfl ?_
                refine x_lload (pc2 := 132) hC rfl dX3_shareByHeads_130 rfl ?_
                refine x_lload (pc2 := 134) hC rfl dX3_shareByHeads_132 rfl ?_
                refine x_lmul (pc2 := 135) hC dX3_shareByHeads_134 rfl ?_
                refine x_lsub (pc2 := 136) hC dX3_shareByHeads_135 rfl ?_
                refine x_lstore (pc2 := 138) (loc2 := [_, _, _, _, _, _, _, _, _, _, _, _, _, _, _, _, _, _, _, _, _, _, _, _, _]) hC (by decide) rfl dX3_shareByHeads_136 rfl ?_
                refine x_lload (pc2 := 140) hC rfl dX3_shareByHeads_138 rfl ?_
                refine x_lload (pc2 := 142) hC rfl dX3_shareByHeads_140 rfl ?_
                refine x_lload (pc2 := 144) hC rfl dX3_shareByHeads_142 rfl ?_
                refine x_lmul (pc2 := 145) hC dX3_shareByHeads_144 rfl ?_
                refine x_lsub (pc2 := 146) hC dX3_shareByHeads_145 rfl ?_
                refine x_lstore (pc2 := 148) (loc2 := [_, _, _, _, _, _, _, _, _, _, _, _, _, _, _, _, _, _, _, _, _, _, _, _, _]) hC (by decide) rfl dX3_shareByHeads_146 rfl ?_
                refine x_lload (pc2 := 150) hC rfl dX3_shareByHeads_148 rfl ?_
                refine x_cSl (pc2 := 153) hC hK (m_labs l ⟨by omega, by omega⟩) lk_598 rfl ⟨Nat.le_of_ble_eq_true rfl, Nat.le_of_ble_eq_true rfl⟩ ⟨Nat.le_refl _, Nat.le_refl _⟩ rfl (Nat.le_of_ble_eq_true rfl) dX3_shareByHeads_150 rfl ?_
                rintro z150 F150 A150 ⟨rfl, e1150, e2150⟩
                obtain rfl := e1150.symm
                obtain rfl := e2150.symm
                refine x_ldc2 (pc2 := 156) (z := 1000000000) hC wt_597 rfl dX3_shareByHeads_153 rfl ?_
                refine x_lcmp_ge (tgt := 215) (pc2 := 160) hC (by omega) (by omega) dX3_shareByHeads_156 dX3_shareByHeads_157 rfl rfl (fun h_156 => ?_) (fun h_156 => ?_)
                · exact fin ev sc x y a b xx xy yx yy kk hS m1 m2 m3 m4 ha hb b0 hba haG hgcd (fun q => hhalf.resolve_left (fun r => q r.1))
                · refine x_lload (pc2 := 162) hC rfl dX3_shareByHeads_160 rfl ?_
                  refine x_cSl (pc2 := 165) hC hK (m_labs l ⟨by omega, by omega⟩) lk_598 rfl ⟨Nat.le_of_ble_eq_true rfl, Nat.le_of_ble_eq_true rfl⟩ ⟨Nat.le_refl _, Nat.le_refl _⟩ rfl (Nat.le_of_ble_eq_true rfl) dX3_shareByHeads_162 rfl ?_
                  rintro z162 F162 A162 ⟨rfl, e1162, e2162⟩
                  obtain rfl := e1162.symm
                  obtain rfl := e2162.symm
                  refine x_ldc2 (pc2 := 168) (z := 1000000000) hC wt_597 rfl dX3_shareByHeads_165 rfl ?_
                  refine x_lcmp_lt (tgt := 175) (pc2 := 172) hC (by omega) (by omega) dX3_shareByHeads_168 dX3_shareByHeads_169 rfl rfl (fun h_168 => ?_) (fun h_168 => ?_)
                  · refine x_lload (pc2 := 177) hC rfl dX3_shareByHeads_175 rfl ?_
                    refine x_lstore (pc2 := 179) (loc2 := [_, _, _, _, _, _, _, _, _, _, _, _, _, _, _, _, _, _, _, _, _, _, _, _, _]) hC (by decide) rfl dX3_shareByHeads_177 rfl ?_
                    refine x_lload (pc2 := 181) hC rfl dX3_shareByHeads_179 rfl ?_
                    refine x_lstore (pc2 := 183) (loc2 := [_, _, _, _, _, _, _, _, _, _, _, _, _, _, _, _, _, _, _, _, _, _, _, _, _]) hC (by decide) rfl dX3_shareByHeads_181 rfl ?_
                    refine x_lload (pc2 := 185) hC rfl dX3_shareByHeads_183 rfl ?_
                    refine x_lstore (pc2 := 187) (loc2 := [_, _, _, _, _, _, _, _, _, _, _, _, _, _, _, _, _, _, _, _, _, _, _, _, _]) hC (by decide) rfl dX3_shareByHeads_185 rfl ?_
                    refine x_lload (pc2 := 189) hC rfl dX3_shareByHeads_187 rfl ?_
                    refine x_lstore (pc2 := 191) (loc2 := [_, _, _, _, _, _, _, _, _, _, _, _, _, _, _, _, _, _, _, _, _, _, _, _, _]) hC (by decide) rfl dX3_shareByHeads_189 rfl ?_
                    refine x_lload (pc2 := 193) hC rfl dX3_shareByHeads_191 rfl ?_
                    refine x_lload (pc2 := 195) hC rfl dX3_shareByHeads_193 rfl ?_
                    refine x_lload (pc2 := 197) hC rfl dX3_shareByHeads_195 rfl ?_
                    refine x_lmul (pc2 := 198) hC dX3_shareByHeads_197 rfl ?_
                    refine x_lsub (pc2 := 199) hC dX3_shareByHeads_198 rfl ?_
                    refine x_lstore (pc2 := 201) (loc2 := [_, _, _, _, _, _, _, _, _, _, _, _, _, _, _, _, _, _, _, _, _, _, _, _, _]) hC (by decide) rfl dX3_shareByHeads_199 rfl ?_
                    refine x_lload (pc2 := 203) hC rfl dX3_shareByHeads_201 rfl ?_
                    refine x_lstore (pc2 := 205) (loc2 := [_, _, _, _, _, _, _, _, _, _, _, _, _, _, _, _, _, _, _, _, _, _, _, _, _]) hC (by decide) rfl dX3_shareByHeads_203 rfl ?_
                    refine x_lload (pc2 := 207) hC rfl dX3_shareByHeads_205 rfl ?_
                    refine x_lstore (pc2 := 209) (loc2 := [_, _, _, _, _, _, _, _, _, _, _, _, _, _, _, _, _, _, _, _, _, _, _, _, _]) hC (by decide) rfl dX3_shareByHeads_207 rfl ?_
                    refine x_iinc (pc2 := 212) (loc2 := [_, _, _, _, _, _, _, _, _, _, _, _, _, _, _, _, _, _, _, _, _, _, _, _, _]) hC (by decide) rfl rfl dX3_shareByHeads_209 rfl ?_
                    refine x_goto (pc2 := 59) hC dX3_shareByHeads_212 rfl ?_
                    obtain ⟨⟨s1, s2⟩, s3, s4⟩ := lh_step hU (by omega) hS hB h_72 h_82 xp1 xp2 rfl h_112
                    obtain ⟨s5, s6, s7, s8⟩ := half_step b0 s1 s2 hba
                    refine x_less (loc2 := [some (rf L), some (pI (F g 1)), some (pL sc), none, some (pL (y)), none, some (pL (x - (x + xx) / (y + yx) * y)), none, some (pL (yx)), none, some (pL (yy)), none, some (pL (xx - (x + xx) / (y + yx) * yx)), none, some (pL (xy - (x + xx) / (y + yx) * yy)), none, some (pI (kk + 1)), none, none, none, none, none, none, none, none]) hC ⟨rfl, rfl, rfl, rfl, rfl, rfl, rfl, rfl, rfl, rfl, trivial⟩ ?_
                    refine ih (!ev) _ _ b (a - (x + xx) / (y + yx) * b) _ _ _ _ _ (by omega) (by omega) (by omega) (lh_sgn hS s5) m3 m4 (by omega) (by omega) hb (by rw [ha, hb]; exact lin_step ..) s7 (by omega) (by omega) ((gcd_sub ..).trans hgcd) (Or.inr ?_) s4 h_72 h_82
                    rcases hhalf with ⟨-, r1, r2⟩ | r
                    · rw [← r1, ← r2]; exact s6
                    · have := Int.mul_nonneg (show 0 ≤ a by omega) b0
                      omega
                  · refine x_goto (pc2 := 215) hC dX3_shareByHeads_172 rfl ?_
                    exact fin ev sc x y a b xx xy yx yy kk hS m1 m2 m3 m4 ha hb b0 hba haG hgcd (fun q => hhalf.resolve_left (fun r => q r.1))
              · refine x_goto (pc2 := 215) hC dX3_shareByHeads_125 rfl ?_
                exact fin ev sc x y a b xx xy yx yy kk hS m1 m2 m3 m4 ha hb b0 hba haG hgcd (fun q => hhalf.resolve_left (fun r => q r.1))
  refine x_aload_n (pc2 := 1) hC rfl rfl dX3_shareByHeads_0 rfl ?_
  refine g_190 (pc2 := 4) hC hK (by assumption) (by assumption) (by assumption) dX3_shareByHeads_1 rfl ?_
  refine g_141 (pc2 := 7) hC hK (by assumption) (by assumption) dX3_shareByHeads_4 rfl ?_
  refine x_istore_n (pc2 := 8) (loc2 := [_, _, _, _, _, _, _, _, _, _, _, _, _, _, _, _, _, _, _, _, _, _, _, _, _]) hC rfl (by decide) rfl dX3_shareByHeads_7 rfl ?_
  refine x_aload_n (pc2 := 9) hC rfl rfl dX3_shareByHeads_8 rfl ?_
  refine g_190 (pc2 := 12) hC hK (by assumption) (by assumption) (by assumption) dX3_shareByHeads_9 rfl ?_
  refine x_iload_n (pc2 := 13) hC rfl rfl dX3_shareByHeads_12 rfl ?_
  refine x_iconst (pc2 := 14) hC dX3_shareByHeads_13 rfl ?_
  refine x_isub (pc2 := 15) hC dX3_shareByHeads_14 rfl ?_
  refine x_cVi (pc2 := 18) (ci := 6) hC hK (m_limbAt l hg wg ⟨by omega, by omega⟩) lk_587 rfl rfl (by decide) (by assumption) (by assumption) ⟨Nat.le_of_ble_eq_true rfl, Nat.le_of_ble_eq_true rfl⟩ ⟨Nat.le_refl _, Nat.le_refl _⟩ rfl (Nat.le_of_ble_eq_true rfl) dX3_shareByHeads_15 rfl ?_
  rintro z15 F15 A15 ⟨rfl, e115, e215⟩
  obtain rfl := e115.symm
  obtain rfl := e215.symm
  refine x_cSl (pc2 := 21) hC hK (m_scaleOf l ⟨topg, (lim_dig wg _).2⟩) lk_588 rfl ⟨Nat.le_of_ble_eq_true rfl, Nat.le_of_ble_eq_true rfl⟩ ⟨Nat.le_refl _, Nat.le_refl _⟩ rfl (Nat.le_of_ble_eq_true rfl) dX3_shareByHeads_18 rfl ?_
  rintro z18 F18 A18 ⟨⟨c1, c2, c3⟩, e1, e2⟩
  obtain rfl := e1.symm
  obtain rfl := e2.symm
  have c4 : z18 ≤ 1000000000 := by
    have := Int.mul_le_mul_of_nonneg_right topg (show 0 ≤ z18 by omega)
    omega
  refine x_lstore_n (pc2 := 22) (loc2 := [_, _, _, _, _, _, _, _, _, _, _, _, _, _, _, _, _, _, _, _, _, _, _, _, _]) hC rfl (by decide) rfl dX3_shareByHeads_21 rfl ?_
  refine x_aload_n (pc2 := 23) hC rfl rfl dX3_shareByHeads_22 rfl ?_
  refine g_190 (pc2 := 26) hC hK (by assumption) (by assumption) (by assumption) dX3_shareByHeads_23 rfl ?_
  refine x_iload_n (pc2 := 27) hC rfl rfl dX3_shareByHeads_26 rfl ?_
  refine x_lload_n (pc2 := 28) hC rfl rfl dX3_shareByHeads_27 rfl ?_
  refine x_cVl (pc2 := 31) (ci := 6) hC hK (m_scaledHead l hg wg ⟨by omega, by omega⟩ ⟨c1, c4⟩ c3) lk_593 rfl rfl (by decide) (by assumption) (by assumption) ⟨Nat.le_of_ble_eq_true rfl, Nat.le_of_ble_eq_true rfl⟩ ⟨Nat.le_refl _, Nat.le_refl _⟩ rfl (Nat.le_of_ble_eq_true rfl) dX3_shareByHeads_28 rfl ?_
  rintro z28 F28 A28 ⟨rfl, e128, e228⟩
  obtain rfl := e128.symm
  obtain rfl := e228.symm
  refine x_lstore (pc2 := 33) (loc2 := [_, _, _, _, _, _, _, _, _, _, _, _, _, _, _, _, _, _, _, _, _, _, _, _, _]) hC (by decide) rfl dX3_shareByHeads_31 rfl ?_
  refine x_aload_n (pc2 := 34) hC rfl rfl dX3_shareByHeads_33 rfl ?_
  refine g_191 (pc2 := 37) hC hK (by assumption) (by assumption) (by assumption) dX3_shareByHeads_34 rfl ?_
  refine x_iload_n (pc2 := 38) hC rfl rfl dX3_shareByHeads_37 rfl ?_
  refine x_lload_n (pc2 := 39) hC rfl rfl dX3_shareByHeads_38 rfl ?_
  refine x_cVl (pc2 := 42) (ci := 6) hC hK (m_scaledHead l hl wl ⟨by omega, by omega⟩ ⟨c1, c4⟩ (by have := Int.mul_le_mul_of_nonneg_right topl (show 0 ≤ z18 by omega); omega)) lk_593 rfl rfl (by decide) (by assumption) (by assumption) ⟨Nat.le_of_ble_eq_true rfl, Nat.le_of_ble_eq_true rfl⟩ ⟨Nat.le_refl _, Nat.le_refl _⟩ rfl (Nat.le_of_ble_eq_true rfl) dX3_shareByHeads_39 rfl ?_
  rintro z39 F39 A39 ⟨rfl, e139, e239⟩
  obtain rfl := e139.symm
  obtain rfl := e239.symm
  refine x_lstore (pc2 := 44) (loc2 := [_, _, _, _, _, _, _, _, _, _, _, _, _, _, _, _, _, _, _, _, _, _, _, _, _]) hC (by decide) rfl dX3_shareByHeads_42 rfl ?_
  refine x_lconst1 (pc2 := 45) hC dX3_shareByHeads_44 rfl ?_
  refine x_lstore (pc2 := 47) (loc2 := [_, _, _, _, _, _, _, _, _, _, _, _, _, _, _, _, _, _, _, _, _, _, _, _, _]) hC (by decide) rfl dX3_shareByHeads_45 rfl ?_
  refine x_lconst0 (pc2 := 48) hC dX3_shareByHeads_47 rfl ?_
  refine x_lstore (pc2 := 50) (loc2 := [_, _, _, _, _, _, _, _, _, _, _, _, _, _, _, _, _, _, _, _, _, _, _, _, _]) hC (by decide) rfl dX3_shareByHeads_48 rfl ?_
  refine x_lconst0 (pc2 := 51) hC dX3_shareByHeads_50 rfl ?_
  refine x_lstore (pc2 := 53) (loc2 := [_, _, _, _, _, _, _, _, _, _, _, _, _, _, _, _, _, _, _, _, _, _, _, _, _]) hC (by decide) rfl dX3_shareByHeads_51 rfl ?_
  refine x_lconst1 (pc2 := 54) hC dX3_shareByHeads_53 rfl ?_
  refine x_lstore (pc2 := 56) (loc2 := [_, _, _, _, _, _, _, _, _, _, _, _, _, _, _, _, _, _, _, _, _, _, _, _, _]) hC (by decide) rfl dX3_shareByHeads_54 rfl ?_
  refine x_iconst (pc2 := 57) hC dX3_shareByHeads_56 rfl ?_
  refine x_istore (pc2 := 59) (loc2 := [_, _, _, _, _, _, _, _, _, _, _, _, _, _, _, _, _, _, _, _, _, _, _, _, _]) hC (by decide) rfl dX3_shareByHeads_57 rfl ?_
  have hc1 := head_cut (f := lim F A g) (n := n) (sc := z18) dg0 c1 c2
  have hc2 := head_cut (f := lim F A l2) (n := n) (sc := z18) dl0 c1 c2
  rw [eg] at hc1
  rw [el] at hc2
  rw [show (n : Int) + 2 = F g 1 - 1 by omega, show (n : Int) + 1 = F g 1 - 2 by omega, show (n : Int) = F g 1 - 3 by omega] at hc1 hc2
  have xr : 1 ≤ lim F A g (F g 1 - 1) * z18 * 1000000000 + lim F A g (F g 1 - 2) * z18 + lim F A g (F g 1 - 3) * z18 / 1000000000 ∧ lim F A g (F g 1 - 1) * z18 * 1000000000 + lim F A g (F g 1 - 2) * z18 + lim F A g (F g 1 - 3) * z18 / 1000000000 ≤ 3000000000000000000 := by
    have d2 := lim_dig wg (F g 1 - 2)
    have d3 := lim_dig wg (F g 1 - 3)
    have p1 := Int.mul_le_mul_of_nonneg_right topg (show 0 ≤ z18 by omega)
    have p2 := mul_rng d2.1 (show lim F A g (F g 1 - 2) ≤ 999999999 by omega) (show 0 ≤ z18 by omega) (show z18 ≤ 1000000000 by omega)
    have p3 := mul_rng d3.1 (show lim F A g (F g 1 - 3) ≤ 999999999 by omega) (show 0 ≤ z18 by omega) (show z18 ≤ 1000000000 by omega)
    omega
  exact loop z18 (1000000000 ^ (n + 1)) _ (pow_pos' (by decide) _) c1 (Int.le_of_lt hc1.2) ⟨by omega, xr.2⟩ 101 true _ _ Gv Lv 1 0 0 1 0 (by omega) (by omega) (by omega) ⟨fun _ => ⟨by omega, by omega, by omega, by omega⟩, fun h => absurd h (by decide)⟩ ⟨by omega, by omega⟩ ⟨by omega, by omega⟩ ⟨by omega, by omega⟩ ⟨by omega, by omega⟩ (by omega) (by omega) (by omega) hle (Int.le_refl _) rfl (Or.inl ⟨rfl, rfl, rfl⟩) (lhB_0 hc1.1 (Int.le_of_lt hc1.2) hc2.1 (Int.le_of_lt hc2.2)) (by omega) (by omega)
