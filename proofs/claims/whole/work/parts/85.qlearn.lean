/-! learn -/
theorem has3_iff {S : SP} {k : Int} : has3 S k ↔ ∀ j : Int, 0 ≤ j → j < 3 → hasB S (k + j) 1 := by
  constructor
  · intro h j a b
    rcases (show j = 0 ∨ j = 1 ∨ j = 2 by omega) with rfl | rfl | rfl
    · rw [Int.add_zero]; exact h.1
    · exact h.2.1
    · exact h.2.2
  · intro h
    have h0 := h 0 (by decide) (by decide)
    rw [Int.add_zero] at h0
    exact ⟨h0, h 1 (by decide) (by decide), h 2 (by decide) (by decide)⟩
theorem RowsT.keep {A A' : Nat → Int → Int} {V V' : Int → Int} {r : Nat → T3} {T : Int} (h : RowsT A V r) (hA : A' 11 = A 11) (hT : 285 ≤ T) (hV : ∀ u, u < T → V' u = V u) : RowsT A' V' r := fun j hj => by
  obtain ⟨a, b, c⟩ := h j hj
  refine ⟨by rw [hA]; exact a, ?_, c⟩
  rw [← b]
  have z : slT (j : Int) + 2 < T := by unfold slT; omega
  unfold tr
  rw [hV _ (by omega), hV _ (by omega), hV _ (by omega)]
theorem wrP_bd {A : Nat → Int → Int} {V : Int → Int} {r : Nat → T3} (h : RowsT A V r) {x y z : Nat} (hx : x < 4) (hy : y < 4) (hz : z < 4) : bdt 160 10 (wrP r x y z) := by
  have b : ∀ j, j < 12 → bdt 51 2 (r j) := fun j hj => (h j hj).2.2
  exact bdt_mul (a := 51) (c := 2) (b := 108) (d := 8) (b x (by omega)) (bdt_add (a := 103) (c := 4) (b := 103) (d := 4) (bdt_mul (b (4 + y) (by omega)) (b (8 + z) (by omega)) (by decide) (by decide)) (bdt_neg (bdt_mul (b (4 + z) (by omega)) (b (8 + y) (by omega)) (by decide) (by decide))) (by decide) (by decide) (by decide)) (by decide) (by decide)
theorem wrT_bd {A : Nat → Int → Int} {V : Int → Int} {r : Nat → T3} (h : RowsT A V r) {x y z : Nat} (hx : x < 4) (hy : y < 4) (hz : z < 4) : bdt 182 30 (wrT r x y z) :=
  bdt_add (a := 171) (c := 20) (b := 160) (d := 10) (bdt_add (wrP_bd h hx hy hz) (bdt_neg (wrP_bd h hy hx hz)) (by decide) (by decide) (by decide)) (wrP_bd h hz hx hy) (by decide) (by decide) (by decide)
theorem FrM.c {F F' : Nat → Nat → Int} {A A' : Nat → Int → Int} {f : Int → Int} {b : Int} (h : FrM F A F' A') (c : A 10 = f ∧ F 0 17 = b) : A' 10 = f ∧ F' 0 17 = b := ⟨(h.a (by decide)).trans c.1, (h.2.1 17 (by decide) (by decide) (by decide)).trans c.2⟩
theorem FrL.c {F F' : Nat → Nat → Int} {A A' : Nat → Int → Int} {f : Int → Int} {b : Int} (h : FrL F A F' A') (c : A 10 = f ∧ F 0 17 = b) : A' 10 = f ∧ F' 0 17 = b := ⟨(h.2.2 10 (by decide) (by decide) (by decide) (by decide) (by decide) (by decide) (by decide)).trans c.1, (h.2.1 17 (by decide) (by decide) (by decide)).trans c.2⟩
theorem MkD.b {bx : Int → Int → QR} {f : Int → Int} {b : Int} {P : Int → Int → Prop} (h : MkD bx f b P) : b = 0 ∨ b = 1 := h.1.imp (fun x => x.1) (fun x => x.1)
theorem mk_pos {c : CI} : 0 < (mk3 c).2.2 := by show (0 : Int) < 1; decide
theorem dX8_learn_0 : decode cX8_learn 0 = .ok (.aload_n 0, 1) := by decide +kernel
theorem dX8_learn_1 : decode cX8_learn 1 = .ok (.iload_n 1, 1) := by decide +kernel
theorem dX8_learn_2 : decode cX8_learn 2 = .ok (.iconst 2, 1) := by decide +kernel
theorem dX8_learn_3 : decode cX8_learn 3 = .ok (.invokevirtual 193, 3) := by decide +kernel
theorem dX8_learn_6 : decode cX8_learn 6 = .ok (.istore 4, 2) := by decide +kernel
theorem dX8_learn_8 : decode cX8_learn 8 = .ok (.iconst 0, 1) := by decide +kernel
theorem dX8_learn_9 : decode cX8_learn 9 = .ok (.istore 5, 2) := by decide +kernel
theorem dX8_learn_11 : decode cX8_learn 11 = .ok (.iload 5, 2) := by decide +kernel
theorem dX8_learn_13 : decode cX8_learn 13 = .ok (.iconst 3, 1) := by decide +kernel
theorem dX8_learn_14 : decode cX8_learn 14 = .ok (.if_icmp .ge 69, 3) := by decide +kernel
theorem dX8_learn_17 : decode cX8_learn 17 = .ok (.iload 4, 2) := by decide +kernel
theorem dX8_learn_19 : decode cX8_learn 19 = .ok (.ifCond .eq 55, 3) := by decide +kernel
theorem dX8_learn_22 : decode cX8_learn 22 = .ok (.iload_n 2, 1) := by decide +kernel
theorem dX8_learn_23 : decode cX8_learn 23 = .ok (.i2l, 1) := by decide +kernel
theorem dX8_learn_24 : decode cX8_learn 24 = .ok (.lconst 0, 1) := by decide +kernel
theorem dX8_learn_25 : decode cX8_learn 25 = .ok (.ldc2_w 229, 3) := by decide +kernel
theorem dX8_learn_28 : decode cX8_learn 28 = .ok (.invokestatic 157, 3) := by decide +kernel
theorem dX8_learn_31 : decode cX8_learn 31 = .ok (.ifCond .eq 43, 3) := by decide +kernel
theorem dX8_learn_34 : decode cX8_learn 34 = .ok (.iload_n 3, 1) := by decide +kernel
theorem dX8_learn_35 : decode cX8_learn 35 = .ok (.i2l, 1) := by decide +kernel
theorem dX8_learn_36 : decode cX8_learn 36 = .ok (.lconst 0, 1) := by decide +kernel
theorem dX8_learn_37 : decode cX8_learn 37 = .ok (.ldc2_w 229, 3) := by decide +kernel
theorem dX8_learn_40 : decode cX8_learn 40 = .ok (.invokestatic 157, 3) := by decide +kernel
theorem dX8_learn_43 : decode cX8_learn 43 = .ok (.ifCond .eq 31, 3) := by decide +kernel
theorem dX8_learn_46 : decode cX8_learn 46 = .ok (.aload_n 0, 1) := by decide +kernel
theorem dX8_learn_47 : decode cX8_learn 47 = .ok (.iload_n 2, 1) := by decide +kernel
theorem dX8_learn_48 : decode cX8_learn 48 = .ok (.iload 5, 2) := by decide +kernel
theorem dX8_learn_50 : decode cX8_learn 50 = .ok (.iadd, 1) := by decide +kernel
theorem dX8_learn_51 : decode cX8_learn 51 = .ok (.iconst 1, 1) := by decide +kernel
theorem dX8_learn_52 : decode cX8_learn 52 = .ok (.invokevirtual 193, 3) := by decide +kernel
theorem dX8_learn_55 : decode cX8_learn 55 = .ok (.ifCond .eq 19, 3) := by decide +kernel
theorem dX8_learn_58 : decode cX8_learn 58 = .ok (.aload_n 0, 1) := by decide +kernel
theorem dX8_learn_59 : decode cX8_learn 59 = .ok (.iload_n 3, 1) := by decide +kernel
theorem dX8_learn_60 : decode cX8_learn 60 = .ok (.iload 5, 2) := by decide +kernel
theorem dX8_learn_62 : decode cX8_learn 62 = .ok (.iadd, 1) := by decide +kernel
theorem dX8_learn_63 : decode cX8_learn 63 = .ok (.iconst 1, 1) := by decide +kernel
theorem dX8_learn_64 : decode cX8_learn 64 = .ok (.invokevirtual 193, 3) := by decide +kernel
theorem dX8_learn_67 : decode cX8_learn 67 = .ok (.ifCond .eq 7, 3) := by decide +kernel
theorem dX8_learn_70 : decode cX8_learn 70 = .ok (.iconst 1, 1) := by decide +kernel
theorem dX8_learn_71 : decode cX8_learn 71 = .ok (.goto 4, 3) := by decide +kernel
theorem dX8_learn_74 : decode cX8_learn 74 = .ok (.iconst 0, 1) := by decide +kernel
theorem dX8_learn_75 : decode cX8_learn 75 = .ok (.istore 4, 2) := by decide +kernel
theorem dX8_learn_77 : decode cX8_learn 77 = .ok (.iinc 5 1, 3) := by decide +kernel
theorem dX8_learn_80 : decode cX8_learn 80 = .ok (.goto (-69), 3) := by decide +kernel
theorem dX8_learn_83 : decode cX8_learn 83 = .ok (.iload 4, 2) := by decide +kernel
theorem dX8_learn_85 : decode cX8_learn 85 = .ok (.ifCond .ne 5, 3) := by decide +kernel
theorem dX8_learn_88 : decode cX8_learn 88 = .ok (.iconst (-1), 1) := by decide +kernel
theorem dX8_learn_89 : decode cX8_learn 89 = .ok (.ireturn, 1) := by decide +kernel
theorem dX8_learn_90 : decode cX8_learn 90 = .ok (.iconst 0, 1) := by decide +kernel
theorem dX8_learn_91 : decode cX8_learn 91 = .ok (.istore 5, 2) := by decide +kernel
theorem dX8_learn_93 : decode cX8_learn 93 = .ok (.iload 5, 2) := by decide +kernel
theorem dX8_learn_95 : decode cX8_learn 95 = .ok (.iconst 4, 1) := by decide +kernel
theorem dX8_learn_96 : decode cX8_learn 96 = .ok (.if_icmp .ge 44, 3) := by decide +kernel
theorem dX8_learn_99 : decode cX8_learn 99 = .ok (.aload_n 0, 1) := by decide +kernel
theorem dX8_learn_100 : decode cX8_learn 100 = .ok (.iconst 0, 1) := by decide +kernel
theorem dX8_learn_101 : decode cX8_learn 101 = .ok (.putfield 52, 3) := by decide +kernel
theorem dX8_learn_104 : decode cX8_learn 104 = .ok (.aload_n 0, 1) := by decide +kernel
theorem dX8_learn_105 : decode cX8_learn 105 = .ok (.iload_n 2, 1) := by decide +kernel
theorem dX8_learn_106 : decode cX8_learn 106 = .ok (.iload_n 3, 1) := by decide +kernel
theorem dX8_learn_107 : decode cX8_learn 107 = .ok (.iload 5, 2) := by decide +kernel
theorem dX8_learn_109 : decode cX8_learn 109 = .ok (.invokevirtual 231, 3) := by decide +kernel
theorem dX8_learn_112 : decode cX8_learn 112 = .ok (.aload_n 0, 1) := by decide +kernel
theorem dX8_learn_113 : decode cX8_learn 113 = .ok (.aload_n 0, 1) := by decide +kernel
theorem dX8_learn_114 : decode cX8_learn 114 = .ok (.iconst 0, 1) := by decide +kernel
theorem dX8_learn_115 : decode cX8_learn 115 = .ok (.iconst 1, 1) := by decide +kernel
theorem dX8_learn_116 : decode cX8_learn 116 = .ok (.iconst 2, 1) := by decide +kernel
theorem dX8_learn_117 : decode cX8_learn 117 = .ok (.invokevirtual 235, 3) := by decide +kernel
theorem dX8_learn_120 : decode cX8_learn 120 = .ok (.invokevirtual 206, 3) := by decide +kernel
theorem dX8_learn_123 : decode cX8_learn 123 = .ok (.ifCond .eq 11, 3) := by decide +kernel
theorem dX8_learn_126 : decode cX8_learn 126 = .ok (.aload_n 0, 1) := by decide +kernel
theorem dX8_learn_127 : decode cX8_learn 127 = .ok (.iload 5, 2) := by decide +kernel
theorem dX8_learn_129 : decode cX8_learn 129 = .ok (.iconst 1, 1) := by decide +kernel
theorem dX8_learn_130 : decode cX8_learn 130 = .ok (.invokevirtual 209, 3) := by decide +kernel
theorem dX8_learn_133 : decode cX8_learn 133 = .ok (.ireturn, 1) := by decide +kernel
theorem dX8_learn_134 : decode cX8_learn 134 = .ok (.iinc 5 1, 3) := by decide +kernel
theorem dX8_learn_137 : decode cX8_learn 137 = .ok (.goto (-44), 3) := by decide +kernel
theorem dX8_learn_140 : decode cX8_learn 140 = .ok (.aload_n 0, 1) := by decide +kernel
theorem dX8_learn_141 : decode cX8_learn 141 = .ok (.invokevirtual 212, 3) := by decide +kernel
theorem dX8_learn_144 : decode cX8_learn 144 = .ok (.iconst 0, 1) := by decide +kernel
theorem dX8_learn_145 : decode cX8_learn 145 = .ok (.istore 5, 2) := by decide +kernel
theorem dX8_learn_147 : decode cX8_learn 147 = .ok (.iload 5, 2) := by decide +kernel
theorem dX8_learn_149 : decode cX8_learn 149 = .ok (.iconst 4, 1) := by decide +kernel
theorem dX8_learn_150 : decode cX8_learn 150 = .ok (.if_icmp .ge 167, 3) := by decide +kernel
theorem dX8_learn_153 : decode cX8_learn 153 = .ok (.aload_n 0, 1) := by decide +kernel
theorem dX8_learn_154 : decode cX8_learn 154 = .ok (.iconst 0, 1) := by decide +kernel
theorem dX8_learn_155 : decode cX8_learn 155 = .ok (.putfield 52, 3) := by decide +kernel
theorem dX8_learn_158 : decode cX8_learn 158 = .ok (.aload_n 0, 1) := by decide +kernel
theorem dX8_learn_159 : decode cX8_learn 159 = .ok (.iload_n 2, 1) := by decide +kernel
theorem dX8_learn_160 : decode cX8_learn 160 = .ok (.iload_n 3, 1) := by decide +kernel
theorem dX8_learn_161 : decode cX8_learn 161 = .ok (.iload 5, 2) := by decide +kernel
theorem dX8_learn_163 : decode cX8_learn 163 = .ok (.invokevirtual 231, 3) := by decide +kernel
theorem dX8_learn_166 : decode cX8_learn 166 = .ok (.aload_n 0, 1) := by decide +kernel
theorem dX8_learn_167 : decode cX8_learn 167 = .ok (.iconst 0, 1) := by decide +kernel
theorem dX8_learn_168 : decode cX8_learn 168 = .ok (.iconst 1, 1) := by decide +kernel
theorem dX8_learn_169 : decode cX8_learn 169 = .ok (.iconst 2, 1) := by decide +kernel
theorem dX8_learn_170 : decode cX8_learn 170 = .ok (.invokevirtual 235, 3) := by decide +kernel
theorem dX8_learn_173 : decode cX8_learn 173 = .ok (.istore 6, 2) := by decide +kernel
theorem dX8_learn_175 : decode cX8_learn 175 = .ok (.aload_n 0, 1) := by decide +kernel
theorem dX8_learn_176 : decode cX8_learn 176 = .ok (.iconst 3, 1) := by decide +kernel
theorem dX8_learn_177 : decode cX8_learn 177 = .ok (.iconst 1, 1) := by decide +kernel
theorem dX8_learn_178 : decode cX8_learn 178 = .ok (.iconst 2, 1) := by decide +kernel
theorem dX8_learn_179 : decode cX8_learn 179 = .ok (.invokevirtual 235, 3) := by decide +kernel
theorem dX8_learn_182 : decode cX8_learn 182 = .ok (.istore 7, 2) := by decide +kernel
theorem dX8_learn_184 : decode cX8_learn 184 = .ok (.aload_n 0, 1) := by decide +kernel
theorem dX8_learn_185 : decode cX8_learn 185 = .ok (.iconst 0, 1) := by decide +kernel
theorem dX8_learn_186 : decode cX8_learn 186 = .ok (.iconst 3, 1) := by decide +kernel
theorem dX8_learn_187 : decode cX8_learn 187 = .ok (.iconst 2, 1) := by decide +kernel
theorem dX8_learn_188 : decode cX8_learn 188 = .ok (.invokevirtual 235, 3) := by decide +kernel
theorem dX8_learn_191 : decode cX8_learn 191 = .ok (.istore 8, 2) := by decide +kernel
theorem dX8_learn_193 : decode cX8_learn 193 = .ok (.aload_n 0, 1) := by decide +kernel
theorem dX8_learn_194 : decode cX8_learn 194 = .ok (.iconst 0, 1) := by decide +kernel
theorem dX8_learn_195 : decode cX8_learn 195 = .ok (.iconst 1, 1) := by decide +kernel
theorem dX8_learn_196 : decode cX8_learn 196 = .ok (.iconst 3, 1) := by decide +kernel
theorem dX8_learn_197 : decode cX8_learn 197 = .ok (.invokevirtual 235, 3) := by decide +kernel
theorem dX8_learn_200 : decode cX8_learn 200 = .ok (.istore 9, 2) := by decide +kernel
theorem dX8_learn_202 : decode cX8_learn 202 = .ok (.aload_n 0, 1) := by decide +kernel
theorem dX8_learn_203 : decode cX8_learn 203 = .ok (.getfield 52, 3) := by decide +kernel
theorem dX8_learn_206 : decode cX8_learn 206 = .ok (.istore 10, 2) := by decide +kernel
theorem dX8_learn_208 : decode cX8_learn 208 = .ok (.aload_n 0, 1) := by decide +kernel
theorem dX8_learn_209 : decode cX8_learn 209 = .ok (.iload 5, 2) := by decide +kernel
theorem dX8_learn_211 : decode cX8_learn 211 = .ok (.iconst 0, 1) := by decide +kernel
theorem dX8_learn_212 : decode cX8_learn 212 = .ok (.iconst 0, 1) := by decide +kernel
theorem dX8_learn_213 : decode cX8_learn 213 = .ok (.aload_n 0, 1) := by decide +kernel
theorem dX8_learn_214 : decode cX8_learn 214 = .ok (.iload 7, 2) := by decide +kernel
theorem dX8_learn_216 : decode cX8_learn 216 = .ok (.iload 6, 2) := by decide +kernel
theorem dX8_learn_218 : decode cX8_learn 218 = .ok (.invokevirtual 219, 3) := by decide +kernel
theorem dX8_learn_221 : decode cX8_learn 221 = .ok (.invokevirtual 173, 3) := by decide +kernel
theorem dX8_learn_224 : decode cX8_learn 224 = .ok (.aload_n 0, 1) := by decide +kernel
theorem dX8_learn_225 : decode cX8_learn 225 = .ok (.iload 10, 2) := by decide +kernel
theorem dX8_learn_227 : decode cX8_learn 227 = .ok (.putfield 52, 3) := by decide +kernel
theorem dX8_learn_230 : decode cX8_learn 230 = .ok (.aload_n 0, 1) := by decide +kernel
theorem dX8_learn_231 : decode cX8_learn 231 = .ok (.iload 5, 2) := by decide +kernel
theorem dX8_learn_233 : decode cX8_learn 233 = .ok (.iconst 0, 1) := by decide +kernel
theorem dX8_learn_234 : decode cX8_learn 234 = .ok (.iconst 1, 1) := by decide +kernel
theorem dX8_learn_235 : decode cX8_learn 235 = .ok (.aload_n 0, 1) := by decide +kernel
theorem dX8_learn_236 : decode cX8_learn 236 = .ok (.lconst 1, 1) := by decide +kernel
theorem dX8_learn_237 : decode cX8_learn 237 = .ok (.invokevirtual 197, 3) := by decide +kernel
theorem dX8_learn_240 : decode cX8_learn 240 = .ok (.invokevirtual 173, 3) := by decide +kernel
theorem dX8_learn_243 : decode cX8_learn 243 = .ok (.aload_n 0, 1) := by decide +kernel
theorem dX8_learn_244 : decode cX8_learn 244 = .ok (.iload 10, 2) := by decide +kernel
theorem dX8_learn_246 : decode cX8_learn 246 = .ok (.putfield 52, 3) := by decide +kernel
theorem dX8_learn_249 : decode cX8_learn 249 = .ok (.aload_n 0, 1) := by decide +kernel
theorem dX8_learn_250 : decode cX8_learn 250 = .ok (.iload 5, 2) := by decide +kernel
theorem dX8_learn_252 : decode cX8_learn 252 = .ok (.iconst 1, 1) := by decide +kernel
theorem dX8_learn_253 : decode cX8_learn 253 = .ok (.iconst 1, 1) := by decide +kernel
theorem dX8_learn_254 : decode cX8_learn 254 = .ok (.aload_n 0, 1) := by decide +kernel
theorem dX8_learn_255 : decode cX8_learn 255 = .ok (.iload 9, 2) := by decide +kernel
theorem dX8_learn_257 : decode cX8_learn 257 = .ok (.iload 6, 2) := by decide +kernel
theorem dX8_learn_259 : decode cX8_learn 259 = .ok (.invokevirtual 219, 3) := by decide +kernel
theorem dX8_learn_262 : decode cX8_learn 262 = .ok (.invokevirtual 173, 3) := by decide +kernel
theorem dX8_learn_265 : decode cX8_learn 265 = .ok (.aload_n 0, 1) := by decide +kernel
theorem dX8_learn_266 : decode cX8_learn 266 = .ok (.iload 10, 2) := by decide +kernel
theorem dX8_learn_268 : decode cX8_learn 268 = .ok (.putfield 52, 3) := by decide +kernel
theorem dX8_learn_271 : decode cX8_learn 271 = .ok (.aload_n 0, 1) := by decide +kernel
theorem dX8_learn_272 : decode cX8_learn 272 = .ok (.iload 5, 2) := by decide +kernel
theorem dX8_learn_274 : decode cX8_learn 274 = .ok (.iconst 1, 1) := by decide +kernel
theorem dX8_learn_275 : decode cX8_learn 275 = .ok (.iconst 0, 1) := by decide +kernel
theorem dX8_learn_276 : decode cX8_learn 276 = .ok (.aload_n 0, 1) := by decide +kernel
theorem dX8_learn_277 : decode cX8_learn 277 = .ok (.aload_n 0, 1) := by decide +kernel
theorem dX8_learn_278 : decode cX8_learn 278 = .ok (.aload_n 0, 1) := by decide +kernel
theorem dX8_learn_279 : decode cX8_learn 279 = .ok (.iload 8, 2) := by decide +kernel
theorem dX8_learn_281 : decode cX8_learn 281 = .ok (.iload 6, 2) := by decide +kernel
theorem dX8_learn_283 : decode cX8_learn 283 = .ok (.invokevirtual 118, 3) := by decide +kernel
theorem dX8_learn_286 : decode cX8_learn 286 = .ok (.aload_n 0, 1) := by decide +kernel
theorem dX8_learn_287 : decode cX8_learn 287 = .ok (.iload 7, 2) := by decide +kernel
theorem dX8_learn_289 : decode cX8_learn 289 = .ok (.iload 9, 2) := by decide +kernel
theorem dX8_learn_291 : decode cX8_learn 291 = .ok (.invokevirtual 118, 3) := by decide +kernel
theorem dX8_learn_294 : decode cX8_learn 294 = .ok (.invokevirtual 109, 3) := by decide +kernel
theorem dX8_learn_297 : decode cX8_learn 297 = .ok (.aload_n 0, 1) := by decide +kernel
theorem dX8_learn_298 : decode cX8_learn 298 = .ok (.iload 6, 2) := by decide +kernel
theorem dX8_learn_300 : decode cX8_learn 300 = .ok (.iload 6, 2) := by decide +kernel
theorem dX8_learn_302 : decode cX8_learn 302 = .ok (.invokevirtual 118, 3) := by decide +kernel
theorem dX8_learn_305 : decode cX8_learn 305 = .ok (.invokevirtual 219, 3) := by decide +kernel
theorem dX8_learn_308 : decode cX8_learn 308 = .ok (.invokevirtual 173, 3) := by decide +kernel
theorem dX8_learn_311 : decode cX8_learn 311 = .ok (.iinc 5 1, 3) := by decide +kernel
theorem dX8_learn_314 : decode cX8_learn 314 = .ok (.goto (-167), 3) := by decide +kernel
theorem dX8_learn_317 : decode cX8_learn 317 = .ok (.aload_n 0, 1) := by decide +kernel
theorem dX8_learn_318 : decode cX8_learn 318 = .ok (.iload_n 1, 1) := by decide +kernel
theorem dX8_learn_319 : decode cX8_learn 319 = .ok (.invokevirtual 177, 3) := by decide +kernel
theorem dX8_learn_322 : decode cX8_learn 322 = .ok (.ireturn, 1) := by decide +kernel
set_option maxHeartbeats 32000000 in
theorem q_learn (l : Launch) {D : va_G} {ids : Nat → ClassId} {β : Nat} {sh : Nat → Nat × Nat} {N : Nat} {R : Nat → Nat → Option Nat} {F : Nat → Nat → Int} {A : Nat → Int → Int} {S : SP} (hM : MoL sh R N) (hR0 : RepM S F A) {c0 a b : Int} (hc : I32 c0) (ha0 : I32 a) (hb0 : I32 b) : MetX l yX8_learn cX8_learn 11 (some (.int)) 6 148 D ids β sh N R F A [rf 0, pI c0, pI a, pI b] (pIr (fun z F2 A2 => ∃ S2, rLearn S c0 a b z S2 ∧ RepM S2 F2 A2)) := by
  refine MetX.of (loc := [_, _, _, _, _, _, _, _, _, _, _]) (plainFor_of_name (by decide +kernel)) (Nat.le_of_ble_eq_true rfl) rfl ?_
  intro p e s m args below meth c hC hK hr hlk
  obtain ⟨⟨m0, m1⟩, ⟨rx0, r2, r3, r7, r8, r9, r11, r12, r13, r16, r18⟩, ⟨m2, m3⟩, ⟨m4, m5⟩, ⟨m6, m7⟩, ⟨m8, m9⟩, ⟨m10, m11⟩, ⟨m12, m13⟩, ⟨m14, m15⟩, ⟨m16, m17⟩, ⟨m18, m19⟩, ⟨m20, m21⟩, ⟨m22, m23⟩⟩ := id hM
  obtain ⟨hi, b1, b2, b3, b4, b5, b6, b7, b8⟩ := id hR0
  have i1 := hi.1
  have n16 := hi.1.2
  have loop0 : ∀ (d : Nat) (ix f : Int), 3 - ix < d → 0 ≤ ix → ix ≤ 3 → (f = 0 ∨ f = 1) → (Unit → (f ≠ 0 ↔ (hasB S c0 2 ∧ ∀ j : Int, 0 ≤ j → j < ix → hasB S (a + j) 1 ∧ hasB S (b + j) 1))) → (∀ f : Int, (f = 0 ∨ f = 1) → (Unit → (f ≠ 0 ↔ (hasB S c0 2 ∧ ∀ j : Int, 0 ≤ j → j < 3 → hasB S (a + j) 1 ∧ hasB S (b + j) 1))) → X p l e { frames := 6, cells := 0, slots := 0, locals := 148 } s m args below meth c (MQ below (QX D ids β sh N R (pIr (fun z F2 A2 => ∃ S2, rLearn S c0 a b z S2 ∧ RepM S2 F2 A2))) args s 0 0 (inG β N)) (inG β N) D ids β sh 11 0 0 N R F A [some (rf 0), some (pI c0), some (pI a), some (pI b), some (pI f), some (pI 3), none, none, none, none, none] [] 83) → X p l e { frames := 6, cells := 0, slots := 0, locals := 148 } s m args below meth c (MQ below (QX D ids β sh N R (pIr (fun z F2 A2 => ∃ S2, rLearn S c0 a b z S2 ∧ RepM S2 F2 A2))) args s 0 0 (inG β N)) (inG β N) D ids β sh 11 0 0 N R F A [some (rf 0), some (pI c0), some (pI a), some (pI b), some (pI f), some (pI ix), none, none, none, none, none] [] 11 := by
    intro d
    induction d with
    | zero => intro ix f hd; omega
    | succ d ih =>
      intro ix f hd x0 x3 hf01 hf next
      refine x_iload (pc2 := 13) hC rfl dX8_learn_11 rfl ?_
      refine x_iconst (pc2 := 14) hC dX8_learn_13 rfl ?_
      refine x_icmp_ge (tgt := 83) (pc2 := 17) hC (by omega) (by omega) dX8_learn_14 rfl rfl (fun h_14 => ?_) (fun h_14 => ?_)
      · obtain rfl : ix = 3 := by omega
        exact next f hf01 hf
      · refine x_iload (pc2 := 19) hC rfl dX8_learn_17 rfl ?_
        refine x_if_eq (tgt := 74) (pc2 := 22) hC (by omega) dX8_learn_19 rfl rfl (fun h_19 => ?_) (fun h_19 => ?_)
        · refine x_iconst (pc2 := 75) hC dX8_learn_74 rfl ?_
          refine x_istore (pc2 := 77) (loc2 := [_, _, _, _, _, _, _, _, _, _, _]) hC (by decide) rfl dX8_learn_75 rfl ?_
          refine x_iinc (pc2 := 80) (loc2 := [_, _, _, _, _, _, _, _, _, _, _]) hC (by decide) rfl rfl dX8_learn_77 rfl ?_
          refine x_goto (pc2 := 11) hC dX8_learn_80 rfl ?_
          refine ih (ix + 1) 0 (by omega) (by omega) (by omega) (Or.inl rfl) (fun _ => ⟨fun y => absurd rfl y, fun hP => absurd h_19 ((hf ()).mpr ⟨hP.1, fun j x y => hP.2 j x (by omega)⟩)⟩) next
        · refine x_iload_n (pc2 := 23) hC rfl rfl dX8_learn_22 rfl ?_
          refine x_i2l (pc2 := 24) hC ha0 dX8_learn_23 rfl ?_
          refine x_lconst0 (pc2 := 25) hC dX8_learn_24 rfl ?_
          refine x_ldc2 (pc2 := 28) (z := 16) hC wt_1080 rfl dX8_learn_25 rfl ?_
          refine x_cSi (pc2 := 31) hC hK (n_in l (v := a) (a := 0) (b := 16) (by unfold I64; unfold I32 at ha0; omega) (by decide) (by decide)) lk_873 rfl ⟨Nat.le_of_ble_eq_true rfl, Nat.le_of_ble_eq_true rfl⟩ ⟨Nat.le_refl _, Nat.le_refl _⟩ rfl (Nat.le_of_ble_eq_true rfl) dX8_learn_28 rfl ?_
          rintro z28 F28 A28 ⟨w28, b28, e128, e228⟩
          obtain rfl := e128.symm
          obtain rfl := e228.symm
          refine x_if_eq (tgt := 74) (pc2 := 34) hC (by omega) dX8_learn_31 rfl rfl (fun h_31 => ?_) (fun h_31 => ?_)
          · refine x_iconst (pc2 := 75) hC dX8_learn_74 rfl ?_
            refine x_istore (pc2 := 77) (loc2 := [_, _, _, _, _, _, _, _, _, _, _]) hC (by decide) rfl dX8_learn_75 rfl ?_
            refine x_iinc (pc2 := 80) (loc2 := [_, _, _, _, _, _, _, _, _, _, _]) hC (by decide) rfl rfl dX8_learn_77 rfl ?_
            refine x_goto (pc2 := 11) hC dX8_learn_80 rfl ?_
            refine ih (ix + 1) 0 (by omega) (by omega) (by omega) (Or.inl rfl) (fun _ => ⟨fun y => absurd rfl y, fun hP => absurd h_31 ((b28 ()).mpr (by have := (hP.2 0 (by omega) (by omega)).1.1; omega))⟩) next
          · refine x_iload_n (pc2 := 35) hC rfl rfl dX8_learn_34 rfl ?_
            refine x_i2l (pc2 := 36) hC hb0 dX8_learn_35 rfl ?_
            refine x_lconst0 (pc2 := 37) hC dX8_learn_36 rfl ?_
            refine x_ldc2 (pc2 := 40) (z := 16) hC wt_1080 rfl dX8_learn_37 rfl ?_
            refine x_cSi (pc2 := 43) hC hK (n_in l (v := b) (a := 0) (b := 16) (by unfold I64; unfold I32 at hb0; omega) (by decide) (by decide)) lk_873 rfl ⟨Nat.le_of_ble_eq_true rfl, Nat.le_of_ble_eq_true rfl⟩ ⟨Nat.le_refl _, Nat.le_refl _⟩ rfl (Nat.le_of_ble_eq_true rfl) dX8_learn_40 rfl ?_
            rintro z40 F40 A40 ⟨w40, b40, e140, e240⟩
            obtain rfl := e140.symm
            obtain rfl := e240.symm
            refine x_if_eq (tgt := 74) (pc2 := 46) hC (by omega) dX8_learn_43 rfl rfl (fun h_43 => ?_) (fun h_43 => ?_)
            · refine x_iconst (pc2 := 75) hC dX8_learn_74 rfl ?_
              refine x_istore (pc2 := 77) (loc2 := [_, _, _, _, _, _, _, _, _, _, _]) hC (by decide) rfl dX8_learn_75 rfl ?_
              refine x_iinc (pc2 := 80) (loc2 := [_, _, _, _, _, _, _, _, _, _, _]) hC (by decide) rfl rfl dX8_learn_77 rfl ?_
              refine x_goto (pc2 := 11) hC dX8_learn_80 rfl ?_
              refine ih (ix + 1) 0 (by omega) (by omega) (by omega) (Or.inl rfl) (fun _ => ⟨fun y => absurd rfl y, fun hP => absurd h_43 ((b40 ()).mpr (by have := (hP.2 0 (by omega) (by omega)).2.1; omega))⟩) next
            · have ha16 := (b28 ()).mp h_31
              have hb16 := (b40 ()).mp h_43
              have ha1 : I32 (a + ix) := by unfold I32; omega
              have hb1 : I32 (b + ix) := by unfold I32; omega
              refine x_aload_n (pc2 := 47) hC rfl rfl dX8_learn_46 rfl ?_
              refine x_iload_n (pc2 := 48) hC rfl rfl dX8_learn_47 rfl ?_
              refine x_iload (pc2 := 50) hC rfl dX8_learn_48 rfl ?_
              refine x_iadd (pc2 := 51) hC dX8_learn_50 rfl ?_
              refine x_iconst (pc2 := 52) hC dX8_learn_51 rfl ?_
              refine x_cVi (pc2 := 55) (ci := 8) hC hK (q_has l hM hR0 (b := a + ix) (n := 1) ha1 (by decide)) lk_977 rfl rfl (by decide) (by assumption) (by assumption) ⟨Nat.le_of_ble_eq_true rfl, Nat.le_of_ble_eq_true rfl⟩ ⟨Nat.le_refl _, Nat.le_refl _⟩ rfl (Nat.le_of_ble_eq_true rfl) dX8_learn_52 rfl ?_
              rintro z52 F52 A52 ⟨w52, b52, e152, e252⟩
              obtain rfl := e152.symm
              obtain rfl := e252.symm
              refine x_if_eq (tgt := 74) (pc2 := 58) hC (by omega) dX8_learn_55 rfl rfl (fun h_55 => ?_) (fun h_55 => ?_)
              · refine x_iconst (pc2 := 75) hC dX8_learn_74 rfl ?_
                refine x_istore (pc2 := 77) (loc2 := [_, _, _, _, _, _, _, _, _, _, _]) hC (by decide) rfl dX8_learn_75 rfl ?_
                refine x_iinc (pc2 := 80) (loc2 := [_, _, _, _, _, _, _, _, _, _, _]) hC (by decide) rfl rfl dX8_learn_77 rfl ?_
                refine x_goto (pc2 := 11) hC dX8_learn_80 rfl ?_
                refine ih (ix + 1) 0 (by omega) (by omega) (by omega) (Or.inl rfl) (fun _ => ⟨fun y => absurd rfl y, fun hP => absurd h_55 ((b52 ()).mpr (hP.2 ix x0 (by omega)).1)⟩) next
              · refine x_aload_n (pc2 := 59) hC rfl rfl dX8_learn_58 rfl ?_
                refine x_iload_n (pc2 := 60) hC rfl rfl dX8_learn_59 rfl ?_
                refine x_iload (pc2 := 62) hC rfl dX8_learn_60 rfl ?_
                refine x_iadd (pc2 := 63) hC dX8_learn_62 rfl ?_
                refine x_iconst (pc2 := 64) hC dX8_learn_63 rfl ?_
                refine x_cVi (pc2 := 67) (ci := 8) hC hK (q_has l hM hR0 (b := b + ix) (n := 1) hb1 (by decide)) lk_977 rfl rfl (by decide) (by assumption) (by assumption) ⟨Nat.le_of_ble_eq_true rfl, Nat.le_of_ble_eq_true rfl⟩ ⟨Nat.le_refl _, Nat.le_refl _⟩ rfl (Nat.le_of_ble_eq_true rfl) dX8_learn_64 rfl ?_
                rintro z64 F64 A64 ⟨w64, b64, e164, e264⟩
                obtain rfl := e164.symm
                obtain rfl := e264.symm
                refine x_if_eq (tgt := 74) (pc2 := 70) hC (by omega) dX8_learn_67 rfl rfl (fun h_67 => ?_) (fun h_67 => ?_)
                · refine x_iconst (pc2 := 75) hC dX8_learn_74 rfl ?_
                  refine x_istore (pc2 := 77) (loc2 := [_, _, _, _, _, _, _, _, _, _, _]) hC (by decide) rfl dX8_learn_75 rfl ?_
                  refine x_iinc (pc2 := 80) (loc2 := [_, _, _, _, _, _, _, _, _, _, _]) hC (by decide) rfl rfl dX8_learn_77 rfl ?_
                  refine x_goto (pc2 := 11) hC dX8_learn_80 rfl ?_
                  refine ih (ix + 1) 0 (by omega) (by omega) (by omega) (Or.inl rfl) (fun _ => ⟨fun y => absurd rfl y, fun hP => absurd h_67 ((b64 ()).mpr (hP.2 ix x0 (by omega)).2)⟩) next
                · refine x_iconst (pc2 := 71) hC dX8_learn_70 rfl ?_
                  refine x_goto (pc2 := 75) hC dX8_learn_71 rfl ?_
                  refine x_istore (pc2 := 77) (loc2 := [_, _, _, _, _, _, _, _, _, _, _]) hC (by decide) rfl dX8_learn_75 rfl ?_
                  refine x_iinc (pc2 := 80) (loc2 := [_, _, _, _, _, _, _, _, _, _, _]) hC (by decide) rfl rfl dX8_learn_77 rfl ?_
                  refine x_goto (pc2 := 11) hC dX8_learn_80 rfl ?_
                  refine ih (ix + 1) 1 (by omega) (by omega) (by omega) (Or.inr rfl) (fun _ => ⟨fun _ => ⟨((hf ()).mp h_19).1, fun j x y => ?_⟩, fun _ => by decide⟩) next
                  by_cases y : j = ix
                  · rw [y]
                    exact ⟨(b52 ()).mp h_55, (b64 ()).mp h_67⟩
                  · exact ((hf ()).mp h_19).2 j x (by omega)
  have loop2 : (hasB S c0 2 ∧ has3 S a ∧ has3 S b) → (∀ t, isT t → (fun t => itC (det3 (lrnS S a b t) 0 1 2 = (0, 0)) 1 0) t = 0) → ∀ (d : Nat) (t : Int) (F1 : Nat → Nat → Int) (A1 : Nat → Int → Int) (e4 e6 e7 e8 e9 e10 : Option PV), 4 - t < d → 0 ≤ t → t ≤ 4 → RepM S F1 A1 → MkD (fun t e => learnX (lrnS S a b t) e) (A1 10) (F1 0 17) (fun t0 e0 => t0 < t) → X p l e { frames := 6, cells := 0, slots := 0, locals := 148 } s m args below meth c (MQ below (QX D ids β sh N R (pIr (fun z F2 A2 => ∃ S2, rLearn S c0 a b z S2 ∧ RepM S2 F2 A2))) args s 0 0 (inG β N)) (inG β N) D ids β sh 11 0 0 N R F1 A1 [some (rf 0), some (pI c0), some (pI a), some (pI b), e4, some (pI t), e6, e7, e8, e9, e10] [] 147 := by
    intro hok hdv d
    induction d with
    | zero => intro t F1 A1 e4 e6 e7 e8 e9 e10 hd; omega
    | succ d ih =>
      intro t F1 A1 e4 e6 e7 e8 e9 e10 hd t0 t4 hR1 hmk
      have hdn : isT t → det3 (lrnS S a b t) 0 1 2 ≠ (0, 0) := fun ht y => by
        have := hdv t ht
        dsimp only at this
        rw [itC_pos y] at this
        exact absurd this (by decide)
      have ha3 : ∀ i : Int, 0 ≤ i ∧ i < 3 → isB S (a + i) := fun i hi2 => (has3_iff.mp hok.2.1 i hi2.1 hi2.2).1
      have hb3 : ∀ i : Int, 0 ≤ i ∧ i < 3 → isB S (b + i) := fun i hi2 => (has3_iff.mp hok.2.2 i hi2.1 hi2.2).1
      refine x_iload (pc2 := 149) hC rfl dX8_learn_147 rfl ?_
      refine x_iconst (pc2 := 150) hC dX8_learn_149 rfl ?_
      refine x_icmp_ge (tgt := 317) (pc2 := 153) hC (by omega) (by omega) dX8_learn_150 rfl rfl (fun h_150 => ?_) (fun h_150 => ?_)
      · refine x_aload_n (pc2 := 318) hC rfl rfl dX8_learn_317 rfl ?_
        obtain ⟨hb17, w, hwf, hm1, hm2, hm3⟩ := hmk.ends hi hok.1.1 (fun t0 e0 h1 h2 q => absurd (show t0 < t by omega) q) (fun y => absurd (hok.1.2.symm.trans y) (by decide))
        refine x_iload_n (pc2 := 319) hC rfl rfl dX8_learn_318 rfl ?_
        refine x_cVi (pc2 := 322) (ci := 8) hC hK (q_ends l hM hR1 hok.1.1 hwf hb17 hm1) lk_957 rfl rfl (by decide) (by assumption) (by assumption) ⟨Nat.le_of_ble_eq_true rfl, Nat.le_of_ble_eq_true rfl⟩ ⟨Nat.le_refl _, Nat.le_refl _⟩ rfl (Nat.le_of_ble_eq_true rfl) dX8_learn_319 rfl ?_
        rintro z319 F319 A319 hq
        obtain ⟨S2, hs2, hR2⟩ : ∃ S2, ((F1 0 17 = 1 ∧ z319 = -5 ∧ S2 = S) ∨ (F1 0 17 = 0 ∧ z319 = 0 ∧ S2 = actS S c0 w)) ∧ RepM S2 F319 A319 := by
          rcases hq with ⟨q1, q2, q3⟩ | ⟨q1, q2, q3⟩
          · exact ⟨_, Or.inl ⟨q1, q2, rfl⟩, q3⟩
          · exact ⟨_, Or.inr ⟨q1, q2, rfl⟩, q3⟩
        exact x_iret hC hr hlk ⟨_, rfl, S2, Or.inr ⟨hok, spAct.ok hdv hm2 hm3 hs2⟩, hR2⟩ dX8_learn_322
      · have ht : isT t := by omega
        have hdt := hdn ht
        refine x_aload_n (pc2 := 154) hC rfl rfl dX8_learn_153 rfl ?_
        refine x_iconst (pc2 := 155) hC dX8_learn_154 rfl ?_
        refine p_819 (pc2 := 158) hC hK (by assumption) (by assumption) dX8_learn_155 rfl ?_
        refine x_aload_n (pc2 := 159) hC rfl rfl dX8_learn_158 rfl ?_
        refine x_iload_n (pc2 := 160) hC rfl rfl dX8_learn_159 rfl ?_
        refine x_iload_n (pc2 := 161) hC rfl rfl dX8_learn_160 rfl ?_
        refine x_iload (pc2 := 163) hC rfl dX8_learn_161 rfl ?_
        refine x_cVv (pc2 := 166) (ci := 8) hC hK (q_rows l hM (hR1.K (FrK.f (by decide))) (St.zero (F := F1) (A := A1)) ha3 hb3 ht) lk_1081 rfl rfl (by decide) (by assumption) (by assumption) ⟨Nat.le_of_ble_eq_true rfl, Nat.le_of_ble_eq_true rfl⟩ ⟨Nat.le_refl _, Nat.le_refl _⟩ rfl (Nat.le_of_ble_eq_true rfl) dX8_learn_163 rfl ?_
        rintro F163 A163 ⟨V163, hS163, hw1630, hL163⟩
        have hw163 : RowsT A163 V163 (lrnR S a b t) := hw1630
        clear hw1630
        have hR163 : RepM S F163 A163 := (hR1.K (FrK.f (by decide))).L hL163
        have c163 := hL163.c ((FrM.f (F := F1) (A := A1) (j := 10) (v := 0) (by decide)).c ⟨rfl, rfl⟩)
        refine x_aload_n (pc2 := 167) hC rfl rfl dX8_learn_166 rfl ?_
        refine x_iconst (pc2 := 168) hC dX8_learn_167 rfl ?_
        refine x_iconst (pc2 := 169) hC dX8_learn_168 rfl ?_
        refine x_iconst (pc2 := 170) hC dX8_learn_169 rfl ?_
        refine x_cVi (pc2 := 173) (ci := 8) hC hK (t_worth012_285 l hM hR163 hS163 hw163) lk_1085 rfl rfl (by decide) (by assumption) (by assumption) ⟨Nat.le_of_ble_eq_true rfl, Nat.le_of_ble_eq_true rfl⟩ ⟨Nat.le_refl _, Nat.le_refl _⟩ rfl (Nat.le_of_ble_eq_true rfl) dX8_learn_170 rfl ?_
        rintro z170 F170 A170 ⟨ez170, V170, hS170, v170, k170, g170⟩
        obtain rfl := ez170.symm
        replace hS170 : St 454 V170 F170 A170 := hS170
        rw [show (285 : Int) + 166 = 451 from rfl]
        replace v170 : tr V170 451 = mk3 (det3 (lrnS S a b t) 0 1 2) := v170.trans (wr_lrn S a b t 0 1 2)
        have bw170 : bdt 182 30 (mk3 (det3 (lrnS S a b t) 0 1 2)) := by rw [← wr_lrn]; exact wrT_bd hw163 (by decide) (by decide) (by decide)
        obtain ⟨wb170, ewb170⟩ : ∃ w : T3, w = mk3 (det3 (lrnS S a b t) 0 1 2) := ⟨_, rfl⟩
        have uwb170 : tr V170 451 = wb170 := by rw [ewb170]; exact v170
        have bwb170 : bdt 182 30 wb170 := by rw [ewb170]; exact bw170
        clear v170
        have hw170 : RowsT A170 V170 (lrnR S a b t) := (hw163).keep (g170.a (by decide)) (by decide) k170
        have hR170 : RepM S F170 A170 := (hR163).K (g170).K
        have c170 := (g170).c (c163)
        have hdz : ¬ (wb170.1 = 0 ∧ wb170.2.1 = 0) := by rw [ewb170]; exact fun y => hdt ((mk_z _).mp y)
        refine x_istore (pc2 := 175) (loc2 := [_, _, _, _, _, _, _, _, _, _, _]) hC (by decide) rfl dX8_learn_173 rfl ?_
        refine x_aload_n (pc2 := 176) hC rfl rfl dX8_learn_175 rfl ?_
        refine x_iconst (pc2 := 177) hC dX8_learn_176 rfl ?_
        refine x_iconst (pc2 := 178) hC dX8_learn_177 rfl ?_
        refine x_iconst (pc2 := 179) hC dX8_learn_178 rfl ?_
        refine x_cVi (pc2 := 182) (ci := 8) hC hK (t_worth312_454 l hM hR170 hS170 hw170) lk_1085 rfl rfl (by decide) (by assumption) (by assumption) ⟨Nat.le_of_ble_eq_true rfl, Nat.le_of_ble_eq_true rfl⟩ ⟨Nat.le_refl _, Nat.le_refl _⟩ rfl (Nat.le_of_ble_eq_true rfl) dX8_learn_179 rfl ?_
        rintro z179 F179 A179 ⟨ez179, V179, hS179, v179, k179, g179⟩
        obtain rfl := ez179.symm
        replace hS179 : St 623 V179 F179 A179 := hS179
        have t179_wb170 : tr V179 451 = wb170 := (tr_keep (by decide) k179).trans uwb170
        rw [show (454 : Int) + 166 = 620 from rfl]
        replace v179 : tr V179 620 = mk3 (det3 (lrnS S a b t) 3 1 2) := v179.trans (wr_lrn S a b t 3 1 2)
        have bw179 : bdt 182 30 (mk3 (det3 (lrnS S a b t) 3 1 2)) := by rw [← wr_lrn]; exact wrT_bd hw170 (by decide) (by decide) (by decide)
        obtain ⟨wb179, ewb179⟩ : ∃ w : T3, w = mk3 (det3 (lrnS S a b t) 3 1 2) := ⟨_, rfl⟩
        have uwb179 : tr V179 620 = wb179 := by rw [ewb179]; exact v179
        have bwb179 : bdt 182 30 wb179 := by rw [ewb179]; exact bw179
        clear v179
        have hw179 : RowsT A179 V179 (lrnR S a b t) := (hw170).keep (g179.a (by decide)) (by decide) k179
        have hR179 : RepM S F179 A179 := (hR170).K (g179).K
        have c179 := (g179).c (c170)
        refine x_istore (pc2 := 184) (loc2 := [_, _, _, _, _, _, _, _, _, _, _]) hC (by decide) rfl dX8_learn_182 rfl ?_
        refine x_aload_n (pc2 := 185) hC rfl rfl dX8_learn_184 rfl ?_
        refine x_iconst (pc2 := 186) hC dX8_learn_185 rfl ?_
        refine x_iconst (pc2 := 187) hC dX8_learn_186 rfl ?_
        refine x_iconst (pc2 := 188) hC dX8_learn_187 rfl ?_
        refine x_cVi (pc2 := 191) (ci := 8) hC hK (t_worth032_623 l hM hR179 hS179 hw179) lk_1085 rfl rfl (by decide) (by assumption) (by assumption) ⟨Nat.le_of_ble_eq_true rfl, Nat.le_of_ble_eq_true rfl⟩ ⟨Nat.le_refl _, Nat.le_refl _⟩ rfl (Nat.le_of_ble_eq_true rfl) dX8_learn_188 rfl ?_
        rintro z188 F188 A188 ⟨ez188, V188, hS188, v188, k188, g188⟩
        obtain rfl := ez188.symm
        replace hS188 : St 792 V188 F188 A188 := hS188
        have t188_wb170 : tr V188 451 = wb170 := (tr_keep (by decide) k188).trans t179_wb170
        have t188_wb179 : tr V188 620 = wb179 := (tr_keep (by decide) k188).trans uwb179
        rw [show (623 : Int) + 166 = 789 from rfl]
        replace v188 : tr V188 789 = mk3 (det3 (lrnS S a b t) 0 3 2) := v188.trans (wr_lrn S a b t 0 3 2)
        have bw188 : bdt 182 30 (mk3 (det3 (lrnS S a b t) 0 3 2)) := by rw [← wr_lrn]; exact wrT_bd hw179 (by decide) (by decide) (by decide)
        obtain ⟨wb188, ewb188⟩ : ∃ w : T3, w = mk3 (det3 (lrnS S a b t) 0 3 2) := ⟨_, rfl⟩
        have uwb188 : tr V188 789 = wb188 := by rw [ewb188]; exact v188
        have bwb188 : bdt 182 30 wb188 := by rw [ewb188]; exact bw188
        clear v188
        have hw188 : RowsT A188 V188 (lrnR S a b t) := (hw179).keep (g188.a (by decide)) (by decide) k188
        have hR188 : RepM S F188 A188 := (hR179).K (g188).K
        have c188 := (g188).c (c179)
        refine x_istore (pc2 := 193) (loc2 := [_, _, _, _, _, _, _, _, _, _, _]) hC (by decide) rfl dX8_learn_191 rfl ?_
        refine x_aload_n (pc2 := 194) hC rfl rfl dX8_learn_193 rfl ?_
        refine x_iconst (pc2 := 195) hC dX8_learn_194 rfl ?_
        refine x_iconst (pc2 := 196) hC dX8_learn_195 rfl ?_
        refine x_iconst (pc2 := 197) hC dX8_learn_196 rfl ?_
        refine x_cVi (pc2 := 200) (ci := 8) hC hK (t_worth013_792 l hM hR188 hS188 hw188) lk_1085 rfl rfl (by decide) (by assumption) (by assumption) ⟨Nat.le_of_ble_eq_true rfl, Nat.le_of_ble_eq_true rfl⟩ ⟨Nat.le_refl _, Nat.le_refl _⟩ rfl (Nat.le_of_ble_eq_true rfl) dX8_learn_197 rfl ?_
        rintro z197 F197 A197 ⟨ez197, V197, hS197, v197, k197, g197⟩
        obtain rfl := ez197.symm
        replace hS197 : St 961 V197 F197 A197 := hS197
        have t197_wb170 : tr V197 451 = wb170 := (tr_keep (by decide) k197).trans t188_wb170
        have t197_wb179 : tr V197 620 = wb179 := (tr_keep (by decide) k197).trans t188_wb179
        have t197_wb188 : tr V197 789 = wb188 := (tr_keep (by decide) k197).trans uwb188
        rw [show (792 : Int) + 166 = 958 from rfl]
        replace v197 : tr V197 958 = mk3 (det3 (lrnS S a b t) 0 1 3) := v197.trans (wr_lrn S a b t 0 1 3)
        have bw197 : bdt 182 30 (mk3 (det3 (lrnS S a b t) 0 1 3)) := by rw [← wr_lrn]; exact wrT_bd hw188 (by decide) (by decide) (by decide)
        obtain ⟨wb197, ewb197⟩ : ∃ w : T3, w = mk3 (det3 (lrnS S a b t) 0 1 3) := ⟨_, rfl⟩
        have uwb197 : tr V197 958 = wb197 := by rw [ewb197]; exact v197
        have bwb197 : bdt 182 30 wb197 := by rw [ewb197]; exact bw197
        clear v197
        have hw197 : RowsT A197 V197 (lrnR S a b t) := (hw188).keep (g197.a (by decide)) (by decide) k197
        have hR197 : RepM S F197 A197 := (hR188).K (g197).K
        have c197 := (g197).c (c188)
        refine x_istore (pc2 := 202) (loc2 := [_, _, _, _, _, _, _, _, _, _, _]) hC (by decide) rfl dX8_learn_200 rfl ?_
        refine x_aload_n (pc2 := 203) hC rfl rfl dX8_learn_202 rfl ?_
        refine g_819 (pc2 := 206) hC hK (by assumption) (by assumption) dX8_learn_203 rfl ?_
        rw [show F197 0 10 = 961 from hS197.1]
        refine x_istore (pc2 := 208) (loc2 := [_, _, _, _, _, _, _, _, _, _, _]) hC (by decide) rfl dX8_learn_206 rfl ?_
        refine x_aload_n (pc2 := 209) hC rfl rfl dX8_learn_208 rfl ?_
        refine x_iload (pc2 := 211) hC rfl dX8_learn_209 rfl ?_
        refine x_iconst (pc2 := 212) hC dX8_learn_211 rfl ?_
        refine x_iconst (pc2 := 213) hC dX8_learn_212 rfl ?_
        refine x_aload_n (pc2 := 214) hC rfl rfl dX8_learn_213 rfl ?_
        refine x_iload (pc2 := 216) hC rfl dX8_learn_214 rfl ?_
        refine x_iload (pc2 := 218) hC rfl dX8_learn_216 rfl ?_
        refine x_cVi (pc2 := 221) (ci := 8) hC hK (t_quo l hM hS197 (x := 620) (y := 451) ⟨by decide, by decide⟩ ⟨by decide, by decide⟩ t197_wb179 t197_wb170 bwb179 bwb170 (by decide) ⟨by decide, by decide, by decide, by decide, by decide⟩) lk_1044 rfl rfl (by decide) (by assumption) (by assumption) ⟨Nat.le_of_ble_eq_true rfl, Nat.le_of_ble_eq_true rfl⟩ ⟨Nat.le_refl _, Nat.le_refl _⟩ rfl (Nat.le_of_ble_eq_true rfl) dX8_learn_218 rfl ?_
        rintro z218 F218 A218 ⟨ez218, V218, hS218, v218, k218, g218⟩
        obtain rfl := ez218.symm
        replace hS218 : St 985 V218 F218 A218 := hS218
        have t218_wb170 : tr V218 451 = wb170 := (tr_keep (by decide) k218).trans t197_wb170
        have t218_wb179 : tr V218 620 = wb179 := (tr_keep (by decide) k218).trans t197_wb179
        have t218_wb188 : tr V218 789 = wb188 := (tr_keep (by decide) k218).trans t197_wb188
        have t218_wb197 : tr V218 958 = wb197 := (tr_keep (by decide) k218).trans uwb197
        rw [show (961 : Int) + 21 = 982 from rfl]
        obtain ⟨wb218, ewb218⟩ : ∃ w : T3, w = tquo wb179 wb170 := ⟨_, rfl⟩
        have uwb218 : tr V218 982 = wb218 := by rw [ewb218]; exact v218
        have bwb218 : bdt 395 395 wb218 := by rw [ewb218]; exact (bdt_quo bwb179 bwb170 (by decide) (by decide))
        clear v218
        have hR218 : RepM S F218 A218 := (hR197).K (g218).K
        have c218 := (g218).c (c197)
        have hrp221 : 0 < wb218.2.2 := by rw [ewb218]; exact r_quo (by rw [ewb179]; exact mk_pos) hdz
        have hb221' : F218 0 17 = 0 ∨ F218 0 17 = 1 := by rw [(c218).2]; exact hmk.b
        refine x_cVv (pc2 := 224) (ci := 8) hC hK (n_makes l hM hS218 (by decide) ht (i := 0) (j := 0) ⟨by decide, by decide⟩ (x := 982) ⟨by decide, by decide⟩ uwb218 hrp221 hb221') lk_919 rfl rfl (by decide) (by assumption) (by assumption) ⟨Nat.le_of_ble_eq_true rfl, Nat.le_of_ble_eq_true rfl⟩ ⟨Nat.le_refl _, Nat.le_refl _⟩ rfl (Nat.le_of_ble_eq_true rfl) dX8_learn_221 rfl ?_
        rintro F221 A221 ⟨⟨T221, V221, hT221, hS221, k221⟩, qa221, qb221, qc221, qd221⟩
        have ml221 := mk_low (x := learnX (lrnS S a b t) 0) hrp221 (learnX_un hdt 0) (by rw [ewb218, ewb179, ewb170]; exact learn_0 _) qa221
        have mk221 : MkD (fun t e => learnX (lrnS S a b t) e) (A221 10) (F221 0 17) (fun t0 e0 => (t0 < t ∨ (t0 = t ∧ e0 = 0))) := MkD.step (P := fun t0 e0 => t0 < t) (show MkD (fun t e => learnX (lrnS S a b t) e) (A218 10) (F218 0 17) (fun t0 e0 => t0 < t) from by rw [(c218).1, (c218).2]; exact hmk) ht (e := 0) ⟨by decide, by decide⟩ (fun t0 e0 => Iff.rfl) ml221 qb221 qc221
        have hR221 : RepM S F221 A221 := (hR218).K qd221
        have hC221 : St 961 V221 (uF F221 0 10 961) A221 := hS221.cut ⟨by decide, by omega⟩
        have t221_wb170 : tr V221 451 = wb170 := (tr_keep (by decide) k221).trans t218_wb170
        have t221_wb179 : tr V221 620 = wb179 := (tr_keep (by decide) k221).trans t218_wb179
        have t221_wb188 : tr V221 789 = wb188 := (tr_keep (by decide) k221).trans t218_wb188
        have t221_wb197 : tr V221 958 = wb197 := (tr_keep (by decide) k221).trans t218_wb197
        refine x_aload_n (pc2 := 225) hC rfl rfl dX8_learn_224 rfl ?_
        refine x_iload (pc2 := 227) hC rfl dX8_learn_225 rfl ?_
        refine p_819 (pc2 := 230) hC hK (by assumption) (by assumption) dX8_learn_227 rfl ?_
        refine x_aload_n (pc2 := 231) hC rfl rfl dX8_learn_230 rfl ?_
        refine x_iload (pc2 := 233) hC rfl dX8_learn_231 rfl ?_
        refine x_iconst (pc2 := 234) hC dX8_learn_233 rfl ?_
        refine x_iconst (pc2 := 235) hC dX8_learn_234 rfl ?_
        refine x_aload_n (pc2 := 236) hC rfl rfl dX8_learn_235 rfl ?_
        refine x_lconst1 (pc2 := 237) hC dX8_learn_236 rfl ?_
        refine x_cVi (pc2 := 240) (ci := 8) hC hK (t_whole l hM hC221 (by decide) (v := 1) (by decide)) lk_981 rfl rfl (by decide) (by assumption) (by assumption) ⟨Nat.le_of_ble_eq_true rfl, Nat.le_of_ble_eq_true rfl⟩ ⟨Nat.le_refl _, Nat.le_refl _⟩ rfl (Nat.le_of_ble_eq_true rfl) dX8_learn_237 rfl ?_
        rintro z237 F237 A237 ⟨ez237, V237, hS237, v237, k237, g237⟩
        obtain rfl := ez237.symm
        replace hS237 : St 967 V237 F237 A237 := hS237
        have t237_wb170 : tr V237 451 = wb170 := (tr_keep (by decide) k237).trans t221_wb170
        have t237_wb179 : tr V237 620 = wb179 := (tr_keep (by decide) k237).trans t221_wb179
        have t237_wb188 : tr V237 789 = wb188 := (tr_keep (by decide) k237).trans t221_wb188
        have t237_wb197 : tr V237 958 = wb197 := (tr_keep (by decide) k237).trans t221_wb197
        rw [show (961 : Int) + 3 = 964 from rfl]
        obtain ⟨wb237, ewb237⟩ : ∃ w : T3, w = (1, 0, 1) := ⟨_, rfl⟩
        have uwb237 : tr V237 964 = wb237 := by rw [ewb237]; exact v237
        have bwb237 : bdt 1 1 wb237 := by rw [ewb237]; exact ⟨by unfold bd; decide, by unfold bd; decide, by unfold bd; decide⟩
        clear v237
        have hR237 : RepM S F237 A237 := (hR221.K (FrK.f (by decide) : FrK F221 A221 (uF F221 0 10 961) A221)).K (g237).K
        have c237 := (g237).c ((FrM.f (F := F221) (A := A221) (j := 10) (v := 961) (by decide)).c ⟨rfl, rfl⟩)
        have hrp240 : 0 < wb237.2.2 := by rw [ewb237]; decide
        have hb240' : F237 0 17 = 0 ∨ F237 0 17 = 1 := by rw [(c237).2]; exact mk221.b
        refine x_cVv (pc2 := 243) (ci := 8) hC hK (n_makes l hM hS237 (by decide) ht (i := 0) (j := 1) ⟨by decide, by decide⟩ (x := 964) ⟨by decide, by decide⟩ uwb237 hrp240 hb240') lk_919 rfl rfl (by decide) (by assumption) (by assumption) ⟨Nat.le_of_ble_eq_true rfl, Nat.le_of_ble_eq_true rfl⟩ ⟨Nat.le_refl _, Nat.le_refl _⟩ rfl (Nat.le_of_ble_eq_true rfl) dX8_learn_240 rfl ?_
        rintro F240 A240 ⟨⟨T240, V240, hT240, hS240, k240⟩, qa240, qb240, qc240, qd240⟩
        have ml240 := mk_low (x := learnX (lrnS S a b t) 1) hrp240 (learnX_un hdt 1) (by rw [ewb237]; exact learn_1 _) qa240
        have mk240 : MkD (fun t e => learnX (lrnS S a b t) e) (A240 10) (F240 0 17) (fun t0 e0 => ((t0 < t ∨ (t0 = t ∧ e0 = 0)) ∨ (t0 = t ∧ e0 = 1))) := MkD.step (P := fun t0 e0 => (t0 < t ∨ (t0 = t ∧ e0 = 0))) (show MkD (fun t e => learnX (lrnS S a b t) e) (A237 10) (F237 0 17) (fun t0 e0 => (t0 < t ∨ (t0 = t ∧ e0 = 0))) from by rw [(c237).1, (c237).2]; exact mk221) ht (e := 1) ⟨by decide, by decide⟩ (fun t0 e0 => Iff.rfl) ml240 qb240 qc240
        have hR240 : RepM S F240 A240 := (hR237).K qd240
        have hC240 : St 961 V240 (uF F240 0 10 961) A240 := hS240.cut ⟨by decide, by omega⟩
        have t240_wb170 : tr V240 451 = wb170 := (tr_keep (by decide) k240).trans t237_wb170
        have t240_wb179 : tr V240 620 = wb179 := (tr_keep (by decide) k240).trans t237_wb179
        have t240_wb188 : tr V240 789 = wb188 := (tr_keep (by decide) k240).trans t237_wb188
        have t240_wb197 : tr V240 958 = wb197 := (tr_keep (by decide) k240).trans t237_wb197
        refine x_aload_n (pc2 := 244) hC rfl rfl dX8_learn_243 rfl ?_
        refine x_iload (pc2 := 246) hC rfl dX8_learn_244 rfl ?_
        refine p_819 (pc2 := 249) hC hK (by assumption) (by assumption) dX8_learn_246 rfl ?_
        refine x_aload_n (pc2 := 250) hC rfl rfl dX8_learn_249 rfl ?_
        refine x_iload (pc2 := 252) hC rfl dX8_learn_250 rfl ?_
        refine x_iconst (pc2 := 253) hC dX8_learn_252 rfl ?_
        refine x_iconst (pc2 := 254) hC dX8_learn_253 rfl ?_
        refine x_aload_n (pc2 := 255) hC rfl rfl dX8_learn_254 rfl ?_
        refine x_iload (pc2 := 257) hC rfl dX8_learn_255 rfl ?_
        refine x_iload (pc2 := 259) hC rfl dX8_learn_257 rfl ?_
        refine x_cVi (pc2 := 262) (ci := 8) hC hK (t_quo l hM hC240 (x := 958) (y := 451) ⟨by decide, by decide⟩ ⟨by decide, by decide⟩ t240_wb197 t240_wb170 bwb197 bwb170 (by decide) ⟨by decide, by decide, by decide, by decide, by decide⟩) lk_1044 rfl rfl (by decide) (by assumption) (by assumption) ⟨Nat.le_of_ble_eq_true rfl, Nat.le_of_ble_eq_true rfl⟩ ⟨Nat.le_refl _, Nat.le_refl _⟩ rfl (Nat.le_of_ble_eq_true rfl) dX8_learn_259 rfl ?_
        rintro z259 F259 A259 ⟨ez259, V259, hS259, v259, k259, g259⟩
        obtain rfl := ez259.symm
        replace hS259 : St 985 V259 F259 A259 := hS259
        have t259_wb170 : tr V259 451 = wb170 := (tr_keep (by decide) k259).trans t240_wb170
        have t259_wb179 : tr V259 620 = wb179 := (tr_keep (by decide) k259).trans t240_wb179
        have t259_wb188 : tr V259 789 = wb188 := (tr_keep (by decide) k259).trans t240_wb188
        have t259_wb197 : tr V259 958 = wb197 := (tr_keep (by decide) k259).trans t240_wb197
        rw [show (961 : Int) + 21 = 982 from rfl]
        obtain ⟨wb259, ewb259⟩ : ∃ w : T3, w = tquo wb197 wb170 := ⟨_, rfl⟩
        have uwb259 : tr V259 982 = wb259 := by rw [ewb259]; exact v259
        have bwb259 : bdt 395 395 wb259 := by rw [ewb259]; exact (bdt_quo bwb197 bwb170 (by decide) (by decide))
        clear v259
        have hR259 : RepM S F259 A259 := (hR240.K (FrK.f (by decide) : FrK F240 A240 (uF F240 0 10 961) A240)).K (g259).K
        have c259 := (g259).c ((FrM.f (F := F240) (A := A240) (j := 10) (v := 961) (by decide)).c ⟨rfl, rfl⟩)
        have hrp262 : 0 < wb259.2.2 := by rw [ewb259]; exact r_quo (by rw [ewb197]; exact mk_pos) hdz
        have hb262' : F259 0 17 = 0 ∨ F259 0 17 = 1 := by rw [(c259).2]; exact mk240.b
        refine x_cVv (pc2 := 265) (ci := 8) hC hK (n_makes l hM hS259 (by decide) ht (i := 1) (j := 1) ⟨by decide, by decide⟩ (x := 982) ⟨by decide, by decide⟩ uwb259 hrp262 hb262') lk_919 rfl rfl (by decide) (by assumption) (by assumption) ⟨Nat.le_of_ble_eq_true rfl, Nat.le_of_ble_eq_true rfl⟩ ⟨Nat.le_refl _, Nat.le_refl _⟩ rfl (Nat.le_of_ble_eq_true rfl) dX8_learn_262 rfl ?_
        rintro F262 A262 ⟨⟨T262, V262, hT262, hS262, k262⟩, qa262, qb262, qc262, qd262⟩
        have ml262 := mk_low (x := learnX (lrnS S a b t) 3) hrp262 (learnX_un hdt 3) (by rw [ewb259, ewb197, ewb170]; exact learn_3 _) qa262
        have mk262 : MkD (fun t e => learnX (lrnS S a b t) e) (A262 10) (F262 0 17) (fun t0 e0 => (((t0 < t ∨ (t0 = t ∧ e0 = 0)) ∨ (t0 = t ∧ e0 = 1)) ∨ (t0 = t ∧ e0 = 3))) := MkD.step (P := fun t0 e0 => ((t0 < t ∨ (t0 = t ∧ e0 = 0)) ∨ (t0 = t ∧ e0 = 1))) (show MkD (fun t e => learnX (lrnS S a b t) e) (A259 10) (F259 0 17) (fun t0 e0 => ((t0 < t ∨ (t0 = t ∧ e0 = 0)) ∨ (t0 = t ∧ e0 = 1))) from by rw [(c259).1, (c259).2]; exact mk240) ht (e := 3) ⟨by decide, by decide⟩ (fun t0 e0 => Iff.rfl) ml262 qb262 qc262
        have hR262 : RepM S F262 A262 := (hR259).K qd262
        have hC262 : St 961 V262 (uF F262 0 10 961) A262 := hS262.cut ⟨by decide, by omega⟩
        have t262_wb170 : tr V262 451 = wb170 := (tr_keep (by decide) k262).trans t259_wb170
        have t262_wb179 : tr V262 620 = wb179 := (tr_keep (by decide) k262).trans t259_wb179
        have t262_wb188 : tr V262 789 = wb188 := (tr_keep (by decide) k262).trans t259_wb188
        have t262_wb197 : tr V262 958 = wb197 := (tr_keep (by decide) k262).trans t259_wb197
        refine x_aload_n (pc2 := 266) hC rfl rfl dX8_learn_265 rfl ?_
        refine x_iload (pc2 := 268) hC rfl dX8_learn_266 rfl ?_
        refine p_819 (pc2 := 271) hC hK (by assumption) (by assumption) dX8_learn_268 rfl ?_
        refine x_aload_n (pc2 := 272) hC rfl rfl dX8_learn_271 rfl ?_
        refine x_iload (pc2 := 274) hC rfl dX8_learn_272 rfl ?_
        refine x_iconst (pc2 := 275) hC dX8_learn_274 rfl ?_
        refine x_iconst (pc2 := 276) hC dX8_learn_275 rfl ?_
        refine x_aload_n (pc2 := 277) hC rfl rfl dX8_learn_276 rfl ?_
        refine x_aload_n (pc2 := 278) hC rfl rfl dX8_learn_277 rfl ?_
        refine x_aload_n (pc2 := 279) hC rfl rfl dX8_learn_278 rfl ?_
        refine x_iload (pc2 := 281) hC rfl dX8_learn_279 rfl ?_
        refine x_iload (pc2 := 283) hC rfl dX8_learn_281 rfl ?_
        refine x_cVi (pc2 := 286) (ci := 8) hC hK (t_product l hM hC262 (x := 789) (y := 451) ⟨by decide, by decide⟩ ⟨by decide, by decide⟩ t262_wb188 t262_wb170 bwb188 bwb170 (by decide) ⟨by decide, by decide⟩) lk_1004 rfl rfl (by decide) (by assumption) (by assumption) ⟨Nat.le_of_ble_eq_true rfl, Nat.le_of_ble_eq_true rfl⟩ ⟨Nat.le_refl _, Nat.le_refl _⟩ rfl (Nat.le_of_ble_eq_true rfl) dX8_learn_283 rfl ?_
        rintro z283 F283 A283 ⟨ez283, V283, hS283, v283, k283, g283⟩
        obtain rfl := ez283.symm
        replace hS283 : St 972 V283 F283 A283 := hS283
        have t283_wb170 : tr V283 451 = wb170 := (tr_keep (by decide) k283).trans t262_wb170
        have t283_wb179 : tr V283 620 = wb179 := (tr_keep (by decide) k283).trans t262_wb179
        have t283_wb188 : tr V283 789 = wb188 := (tr_keep (by decide) k283).trans t262_wb188
        have t283_wb197 : tr V283 958 = wb197 := (tr_keep (by decide) k283).trans t262_wb197
        rw [show (961 : Int) + 8 = 969 from rfl]
        obtain ⟨wb283, ewb283⟩ : ∃ w : T3, w = tmul wb188 wb170 := ⟨_, rfl⟩
        have uwb283 : tr V283 969 = wb283 := by rw [ewb283]; exact v283
        have bwb283 : bdt 365 60 wb283 := by rw [ewb283]; exact (bdt_mul bwb188 bwb170 (by decide) (by decide))
        clear v283
        have hR283 : RepM S F283 A283 := (hR262.K (FrK.f (by decide) : FrK F262 A262 (uF F262 0 10 961) A262)).K (g283).K
        have c283 := (g283).c ((FrM.f (F := F262) (A := A262) (j := 10) (v := 961) (by decide)).c ⟨rfl, rfl⟩)
        refine x_aload_n (pc2 := 287) hC rfl rfl dX8_learn_286 rfl ?_
        refine x_iload (pc2 := 289) hC rfl dX8_learn_287 rfl ?_
        refine x_iload (pc2 := 291) hC rfl dX8_learn_289 rfl ?_
        refine x_cVi (pc2 := 294) (ci := 8) hC hK (t_product l hM hS283 (x := 620) (y := 958) ⟨by decide, by decide⟩ ⟨by decide, by decide⟩ t283_wb179 t283_wb197 bwb179 bwb197 (by decide) ⟨by decide, by decide⟩) lk_1004 rfl rfl (by decide) (by assumption) (by assumption) ⟨Nat.le_of_ble_eq_true rfl, Nat.le_of_ble_eq_true rfl⟩ ⟨Nat.le_refl _, Nat.le_refl _⟩ rfl (Nat.le_of_ble_eq_true rfl) dX8_learn_291 rfl ?_
        rintro z291 F291 A291 ⟨ez291, V291, hS291, v291, k291, g291⟩
        obtain rfl := ez291.symm
        replace hS291 : St 983 V291 F291 A291 := hS291
        have t291_wb170 : tr V291 451 = wb170 := (tr_keep (by decide) k291).trans t283_wb170
        have t291_wb179 : tr V291 620 = wb179 := (tr_keep (by decide) k291).trans t283_wb179
        have t291_wb188 : tr V291 789 = wb188 := (tr_keep (by decide) k291).trans t283_wb188
        have t291_wb197 : tr V291 958 = wb197 := (tr_keep (by decide) k291).trans t283_wb197
        have t291_wb283 : tr V291 969 = wb283 := (tr_keep (by decide) k291).trans uwb283
        rw [show (972 : Int) + 8 = 980 from rfl]
        obtain ⟨wb291, ewb291⟩ : ∃ w : T3, w = tmul wb179 wb197 := ⟨_, rfl⟩
        have uwb291 : tr V291 980 = wb291 := by rw [ewb291]; exact v291
        have bwb291 : bdt 365 60 wb291 := by rw [ewb291]; exact (bdt_mul bwb179 bwb197 (by decide) (by decide))
        clear v291
        have hR291 : RepM S F291 A291 := (hR283).K (g291).K
        have c291 := (g291).c (c283)
        refine x_cVi (pc2 := 297) (ci := 8) hC hK (t_added l hM hS291 (x := 969) (y := 980) ⟨by decide, by decide⟩ ⟨by decide, by decide⟩ t291_wb283 uwb291 bwb283 bwb291 (by decide) ⟨by decide, by decide, by decide⟩) lk_1020 rfl rfl (by decide) (by assumption) (by assumption) ⟨Nat.le_of_ble_eq_true rfl, Nat.le_of_ble_eq_true rfl⟩ ⟨Nat.le_refl _, Nat.le_refl _⟩ rfl (Nat.le_of_ble_eq_true rfl) dX8_learn_294 rfl ?_
        rintro z294 F294 A294 ⟨ez294, V294, hS294, v294, k294, g294⟩
        obtain rfl := ez294.symm
        replace hS294 : St 993 V294 F294 A294 := hS294
        have t294_wb170 : tr V294 451 = wb170 := (tr_keep (by decide) k294).trans t291_wb170
        have t294_wb179 : tr V294 620 = wb179 := (tr_keep (by decide) k294).trans t291_wb179
        have t294_wb188 : tr V294 789 = wb188 := (tr_keep (by decide) k294).trans t291_wb188
        have t294_wb197 : tr V294 958 = wb197 := (tr_keep (by decide) k294).trans t291_wb197
        have t294_wb283 : tr V294 969 = wb283 := (tr_keep (by decide) k294).trans t291_wb283
        have t294_wb291 : tr V294 980 = wb291 := (tr_keep (by decide) k294).trans uwb291
        rw [show (983 : Int) + 7 = 990 from rfl]
        obtain ⟨wb294, ewb294⟩ : ∃ w : T3, w = tadd wb283 wb291 := ⟨_, rfl⟩
        have uwb294 : tr V294 990 = wb294 := by rw [ewb294]; exact v294
        have bwb294 : bdt 426 120 wb294 := by rw [ewb294]; exact (bdt_add bwb283 bwb291 (by decide) (by decide) (by decide))
        clear v294
        have hR294 : RepM S F294 A294 := (hR291).K (g294).K
        have c294 := (g294).c (c291)
        refine x_aload_n (pc2 := 298) hC rfl rfl dX8_learn_297 rfl ?_
        refine x_iload (pc2 := 300) hC rfl dX8_learn_298 rfl ?_
        refine x_iload (pc2 := 302) hC rfl dX8_learn_300 rfl ?_
        refine x_cVi (pc2 := 305) (ci := 8) hC hK (t_product l hM hS294 (x := 451) (y := 451) ⟨by decide, by decide⟩ ⟨by decide, by decide⟩ t294_wb170 t294_wb170 bwb170 bwb170 (by decide) ⟨by decide, by decide⟩) lk_1004 rfl rfl (by decide) (by assumption) (by assumption) ⟨Nat.le_of_ble_eq_true rfl, Nat.le_of_ble_eq_true rfl⟩ ⟨Nat.le_refl _, Nat.le_refl _⟩ rfl (Nat.le_of_ble_eq_true rfl) dX8_learn_302 rfl ?_
        rintro z302 F302 A302 ⟨ez302, V302, hS302, v302, k302, g302⟩
        obtain rfl := ez302.symm
        replace hS302 : St 1004 V302 F302 A302 := hS302
        have t302_wb170 : tr V302 451 = wb170 := (tr_keep (by decide) k302).trans t294_wb170
        have t302_wb179 : tr V302 620 = wb179 := (tr_keep (by decide) k302).trans t294_wb179
        have t302_wb188 : tr V302 789 = wb188 := (tr_keep (by decide) k302).trans t294_wb188
        have t302_wb197 : tr V302 958 = wb197 := (tr_keep (by decide) k302).trans t294_wb197
        have t302_wb283 : tr V302 969 = wb283 := (tr_keep (by decide) k302).trans t294_wb283
        have t302_wb291 : tr V302 980 = wb291 := (tr_keep (by decide) k302).trans t294_wb291
        have t302_wb294 : tr V302 990 = wb294 := (tr_keep (by decide) k302).trans uwb294
        rw [show (993 : Int) + 8 = 1001 from rfl]
        obtain ⟨wb302, ewb302⟩ : ∃ w : T3, w = tmul wb170 wb170 := ⟨_, rfl⟩
        have uwb302 : tr V302 1001 = wb302 := by rw [ewb302]; exact v302
        have bwb302 : bdt 365 60 wb302 := by rw [ewb302]; exact (bdt_mul bwb170 bwb170 (by decide) (by decide))
        clear v302
        have hR302 : RepM S F302 A302 := (hR294).K (g302).K
        have c302 := (g302).c (c294)
        have hdd : ¬ (wb302.1 = 0 ∧ wb302.2.1 = 0) := by rw [ewb302, ewb170, mk_mul]; exact fun y => cmul_ne hdt hdt ((mk_z _).mp y)
        refine x_cVi (pc2 := 308) (ci := 8) hC hK (t_quo l hM hS302 (x := 990) (y := 1001) ⟨by decide, by decide⟩ ⟨by decide, by decide⟩ t302_wb294 uwb302 bwb294 bwb302 (by decide) ⟨by decide, by decide, by decide, by decide, by decide⟩) lk_1044 rfl rfl (by decide) (by assumption) (by assumption) ⟨Nat.le_of_ble_eq_true rfl, Nat.le_of_ble_eq_true rfl⟩ ⟨Nat.le_refl _, Nat.le_refl _⟩ rfl (Nat.le_of_ble_eq_true rfl) dX8_learn_305 rfl ?_
        rintro z305 F305 A305 ⟨ez305, V305, hS305, v305, k305, g305⟩
        obtain rfl := ez305.symm
        replace hS305 : St 1028 V305 F305 A305 := hS305
        have t305_wb170 : tr V305 451 = wb170 := (tr_keep (by decide) k305).trans t302_wb170
        have t305_wb179 : tr V305 620 = wb179 := (tr_keep (by decide) k305).trans t302_wb179
        have t305_wb188 : tr V305 789 = wb188 := (tr_keep (by decide) k305).trans t302_wb188
        have t305_wb197 : tr V305 958 = wb197 := (tr_keep (by decide) k305).trans t302_wb197
        have t305_wb283 : tr V305 969 = wb283 := (tr_keep (by decide) k305).trans t302_wb283
        have t305_wb291 : tr V305 980 = wb291 := (tr_keep (by decide) k305).trans t302_wb291
        have t305_wb294 : tr V305 990 = wb294 := (tr_keep (by decide) k305).trans t302_wb294
        have t305_wb302 : tr V305 1001 = wb302 := (tr_keep (by decide) k305).trans uwb302
        rw [show (1004 : Int) + 21 = 1025 from rfl]
        obtain ⟨wb305, ewb305⟩ : ∃ w : T3, w = tquo wb294 wb302 := ⟨_, rfl⟩
        have uwb305 : tr V305 1025 = wb305 := by rw [ewb305]; exact v305
        have bwb305 : bdt 852 851 wb305 := by rw [ewb305]; exact (bdt_quo bwb294 bwb302 (by decide) (by decide))
        clear v305
        have hR305 : RepM S F305 A305 := (hR302).K (g305).K
        have c305 := (g305).c (c302)
        have hrp308 : 0 < wb305.2.2 := by rw [ewb305]; exact r_quo (by rw [ewb294]; exact r_add (by rw [ewb283]; exact r_mul (by rw [ewb188]; exact mk_pos) (by rw [ewb170]; exact mk_pos)) (by rw [ewb291]; exact r_mul (by rw [ewb179]; exact mk_pos) (by rw [ewb197]; exact mk_pos))) hdd
        have hb308' : F305 0 17 = 0 ∨ F305 0 17 = 1 := by rw [(c305).2]; exact mk262.b
        refine x_cVv (pc2 := 311) (ci := 8) hC hK (n_makes l hM hS305 (by decide) ht (i := 1) (j := 0) ⟨by decide, by decide⟩ (x := 1025) ⟨by decide, by decide⟩ uwb305 hrp308 hb308') lk_919 rfl rfl (by decide) (by assumption) (by assumption) ⟨Nat.le_of_ble_eq_true rfl, Nat.le_of_ble_eq_true rfl⟩ ⟨Nat.le_refl _, Nat.le_refl _⟩ rfl (Nat.le_of_ble_eq_true rfl) dX8_learn_308 rfl ?_
        rintro F308 A308 ⟨⟨T308, V308, hT308, hS308, k308⟩, qa308, qb308, qc308, qd308⟩
        have ml308 := mk_low (x := learnX (lrnS S a b t) 2) hrp308 (learnX_un hdt 2) (by rw [ewb305, ewb294, ewb283, ewb291, ewb302, ewb179, ewb188, ewb197, ewb170]; exact learn_2 _) qa308
        have mk308 : MkD (fun t e => learnX (lrnS S a b t) e) (A308 10) (F308 0 17) (fun t0 e0 => ((((t0 < t ∨ (t0 = t ∧ e0 = 0)) ∨ (t0 = t ∧ e0 = 1)) ∨ (t0 = t ∧ e0 = 3)) ∨ (t0 = t ∧ e0 = 2))) := MkD.step (P := fun t0 e0 => (((t0 < t ∨ (t0 = t ∧ e0 = 0)) ∨ (t0 = t ∧ e0 = 1)) ∨ (t0 = t ∧ e0 = 3))) (show MkD (fun t e => learnX (lrnS S a b t) e) (A305 10) (F305 0 17) (fun t0 e0 => (((t0 < t ∨ (t0 = t ∧ e0 = 0)) ∨ (t0 = t ∧ e0 = 1)) ∨ (t0 = t ∧ e0 = 3))) from by rw [(c305).1, (c305).2]; exact mk262) ht (e := 2) ⟨by decide, by decide⟩ (fun t0 e0 => Iff.rfl) ml308 qb308 qc308
        have hR308 : RepM S F308 A308 := (hR305).K qd308
        refine x_iinc (pc2 := 314) (loc2 := [_, _, _, _, _, _, _, _, _, _, _]) hC (by decide) rfl rfl dX8_learn_311 rfl ?_
        refine x_goto (pc2 := 147) hC dX8_learn_314 rfl ?_
        refine ih (t + 1) _ _ _ _ _ _ _ _ (by omega) (by omega) (by omega) hR308 ?_
        obtain ⟨g1, g2⟩ := mk308
        refine ⟨?_, fun t0 e0 h1 h2 q => g2 t0 e0 h1 h2 (by omega)⟩
        rcases g1 with ⟨q1, q2⟩ | q
        · exact Or.inl ⟨q1, fun t0 e0 h1 h2 q => q2 t0 e0 h1 h2 (by omega)⟩
        · exact Or.inr q
  have loop1 : (hasB S c0 2 ∧ has3 S a ∧ has3 S b) → ∀ (d : Nat) (t : Int) (F1 : Nat → Nat → Int) (A1 : Nat → Int → Int) (e4 e6 e7 e8 e9 e10 : Option PV), 4 - t < d → 0 ≤ t → t ≤ 4 → RepM S F1 A1 → (∀ s, 0 ≤ s → s < t → (fun t => itC (det3 (lrnS S a b t) 0 1 2 = (0, 0)) 1 0) s = 0) → X p l e { frames := 6, cells := 0, slots := 0, locals := 148 } s m args below meth c (MQ below (QX D ids β sh N R (pIr (fun z F2 A2 => ∃ S2, rLearn S c0 a b z S2 ∧ RepM S2 F2 A2))) args s 0 0 (inG β N)) (inG β N) D ids β sh 11 0 0 N R F1 A1 [some (rf 0), some (pI c0), some (pI a), some (pI b), e4, some (pI t), e6, e7, e8, e9, e10] [] 93 := by
    intro hok d
    induction d with
    | zero => intro t F1 A1 e4 e6 e7 e8 e9 e10 hd; omega
    | succ d ih =>
      intro t F1 A1 e4 e6 e7 e8 e9 e10 hd t0 t4 hR1 hdv
      have ha3 : ∀ i : Int, 0 ≤ i ∧ i < 3 → isB S (a + i) := fun i hi2 => (has3_iff.mp hok.2.1 i hi2.1 hi2.2).1
      have hb3 : ∀ i : Int, 0 ≤ i ∧ i < 3 → isB S (b + i) := fun i hi2 => (has3_iff.mp hok.2.2 i hi2.1 hi2.2).1
      refine x_iload (pc2 := 95) hC rfl dX8_learn_93 rfl ?_
      refine x_iconst (pc2 := 96) hC dX8_learn_95 rfl ?_
      refine x_icmp_ge (tgt := 140) (pc2 := 99) hC (by omega) (by omega) dX8_learn_96 rfl rfl (fun h_96 => ?_) (fun h_96 => ?_)
      · refine x_aload_n (pc2 := 141) hC rfl rfl dX8_learn_140 rfl ?_
        refine x_cVv (pc2 := 144) (ci := 8) hC hK (n_begins l hM) lk_1036 rfl rfl (by decide) (by assumption) (by assumption) ⟨Nat.le_of_ble_eq_true rfl, Nat.le_of_ble_eq_true rfl⟩ ⟨Nat.le_refl _, Nat.le_refl _⟩ rfl (Nat.le_of_ble_eq_true rfl) dX8_learn_141 rfl ?_
        rintro F141 A141 ⟨e1141, e2141, e3141⟩
        have hRb : RepM S F141 A141 := by rw [e1141]; exact hR1.of (fun j hj => uF_nj (by omega)) (fun b hb => e2141 b (by omega))
        have h17b : F141 0 17 = 0 := by rw [e1141, uF_eq]
        refine x_iconst (pc2 := 145) hC dX8_learn_144 rfl ?_
        refine x_istore (pc2 := 147) (loc2 := [_, _, _, _, _, _, _, _, _, _, _]) hC (by decide) rfl dX8_learn_145 rfl ?_
        exact loop2 hok (fun s hs => hdv s hs.1 (by omega)) 5 0 F141 A141 _ _ _ _ _ _ (by decide) (by decide) (by decide) hRb (by rw [h17b]; exact MkD.nil (fun t e ht _ => by omega) e3141)
      · have ht : isT t := by omega
        refine x_aload_n (pc2 := 100) hC rfl rfl dX8_learn_99 rfl ?_
        refine x_iconst (pc2 := 101) hC dX8_learn_100 rfl ?_
        refine p_819 (pc2 := 104) hC hK (by assumption) (by assumption) dX8_learn_101 rfl ?_
        refine x_aload_n (pc2 := 105) hC rfl rfl dX8_learn_104 rfl ?_
        refine x_iload_n (pc2 := 106) hC rfl rfl dX8_learn_105 rfl ?_
        refine x_iload_n (pc2 := 107) hC rfl rfl dX8_learn_106 rfl ?_
        refine x_iload (pc2 := 109) hC rfl dX8_learn_107 rfl ?_
        refine x_cVv (pc2 := 112) (ci := 8) hC hK (q_rows l hM (hR1.K (FrK.f (by decide))) (St.zero (F := F1) (A := A1)) ha3 hb3 ht) lk_1081 rfl rfl (by decide) (by assumption) (by assumption) ⟨Nat.le_of_ble_eq_true rfl, Nat.le_of_ble_eq_true rfl⟩ ⟨Nat.le_refl _, Nat.le_refl _⟩ rfl (Nat.le_of_ble_eq_true rfl) dX8_learn_109 rfl ?_
        rintro F109 A109 ⟨V109, hS109, hw1090, hL109⟩
        have hw109 : RowsT A109 V109 (lrnR S a b t) := hw1090
        clear hw1090
        have hR109 : RepM S F109 A109 := (hR1.K (FrK.f (by decide))).L hL109
        have c109 := hL109.c ((FrM.f (F := F1) (A := A1) (j := 10) (v := 0) (by decide)).c ⟨rfl, rfl⟩)
        refine x_aload_n (pc2 := 113) hC rfl rfl dX8_learn_112 rfl ?_
        refine x_aload_n (pc2 := 114) hC rfl rfl dX8_learn_113 rfl ?_
        refine x_iconst (pc2 := 115) hC dX8_learn_114 rfl ?_
        refine x_iconst (pc2 := 116) hC dX8_learn_115 rfl ?_
        refine x_iconst (pc2 := 117) hC dX8_learn_116 rfl ?_
        refine x_cVi (pc2 := 120) (ci := 8) hC hK (t_worth012_285 l hM hR109 hS109 hw109) lk_1085 rfl rfl (by decide) (by assumption) (by assumption) ⟨Nat.le_of_ble_eq_true rfl, Nat.le_of_ble_eq_true rfl⟩ ⟨Nat.le_refl _, Nat.le_refl _⟩ rfl (Nat.le_of_ble_eq_true rfl) dX8_learn_117 rfl ?_
        rintro z117 F117 A117 ⟨ez117, V117, hS117, v117, k117, g117⟩
        obtain rfl := ez117.symm
        replace hS117 : St 454 V117 F117 A117 := hS117
        rw [show (285 : Int) + 166 = 451 from rfl]
        replace v117 : tr V117 451 = mk3 (det3 (lrnS S a b t) 0 1 2) := v117.trans (wr_lrn S a b t 0 1 2)
        have bw117 : bdt 182 30 (mk3 (det3 (lrnS S a b t) 0 1 2)) := by rw [← wr_lrn]; exact wrT_bd hw109 (by decide) (by decide) (by decide)
        obtain ⟨wa117, ewa117⟩ : ∃ w : T3, w = mk3 (det3 (lrnS S a b t) 0 1 2) := ⟨_, rfl⟩
        have uwa117 : tr V117 451 = wa117 := by rw [ewa117]; exact v117
        have bwa117 : bdt 182 30 wa117 := by rw [ewa117]; exact bw117
        clear v117
        have hw117 : RowsT A117 V117 (lrnR S a b t) := (hw109).keep (g117.a (by decide)) (by decide) k117
        have hR117 : RepM S F117 A117 := (hR109).K (g117).K
        have c117 := (g117).c (c109)
        refine x_cVi (pc2 := 123) (ci := 8) hC hK (t_zero l hM hS117 (x := 451) ⟨by decide, by decide⟩ uwa117) lk_1024 rfl rfl (by decide) (by assumption) (by assumption) ⟨Nat.le_of_ble_eq_true rfl, Nat.le_of_ble_eq_true rfl⟩ ⟨Nat.le_refl _, Nat.le_refl _⟩ rfl (Nat.le_of_ble_eq_true rfl) dX8_learn_120 rfl ?_
        rintro z120 F120 A120 ⟨w120, b120, e1120, e2120⟩
        obtain rfl := e1120.symm
        obtain rfl := e2120.symm
        have hzz : z120 ≠ 0 ↔ det3 (lrnS S a b t) 0 1 2 = (0, 0) := (b120 ()).trans (by rw [ewa117]; exact mk_z _)
        refine x_if_eq (tgt := 134) (pc2 := 126) hC (by omega) dX8_learn_123 rfl rfl (fun h_123 => ?_) (fun h_123 => ?_)
        · refine x_iinc (pc2 := 137) (loc2 := [_, _, _, _, _, _, _, _, _, _, _]) hC (by decide) rfl rfl dX8_learn_134 rfl ?_
          refine x_goto (pc2 := 93) hC dX8_learn_137 rfl ?_
          refine ih (t + 1) _ _ _ _ _ _ _ _ (by omega) (by omega) (by omega) hR117 (fun s s0 s1 => ?_)
          by_cases y : s = t
          · rw [y]
            exact itC_neg (fun z => absurd h_123 (hzz.mpr z))
          · exact hdv s s0 (by omega)
        · refine x_aload_n (pc2 := 127) hC rfl rfl dX8_learn_126 rfl ?_
          refine x_iload (pc2 := 129) hC rfl dX8_learn_127 rfl ?_
          refine x_iconst (pc2 := 130) hC dX8_learn_129 rfl ?_
          refine x_cVi (pc2 := 133) (ci := 8) hC hK (q_refuses l hM hR117) lk_1032 rfl rfl (by decide) (by assumption) (by assumption) ⟨Nat.le_of_ble_eq_true rfl, Nat.le_of_ble_eq_true rfl⟩ ⟨Nat.le_refl _, Nat.le_refl _⟩ rfl (Nat.le_of_ble_eq_true rfl) dX8_learn_130 rfl ?_
          rintro z130 F130 A130 ⟨ez, hRf⟩
          exact x_iret hC hr hlk ⟨_, rfl, _, Or.inr ⟨hok, Or.inl ⟨t, ht, hdv, fun y => by dsimp only at y; rw [itC_pos (hzz.mp h_123)] at y; exact absurd y (by decide), ez, by dsimp only; rw [itC_pos (hzz.mp h_123)]⟩⟩, hRf⟩ dX8_learn_133
  refine x_aload_n (pc2 := 1) hC rfl rfl dX8_learn_0 rfl ?_
  refine x_iload_n (pc2 := 2) hC rfl rfl dX8_learn_1 rfl ?_
  refine x_iconst (pc2 := 3) hC dX8_learn_2 rfl ?_
  refine x_cVi (pc2 := 6) (ci := 8) hC hK (q_has l hM hR0 hc (by decide)) lk_977 rfl rfl (by decide) (by assumption) (by assumption) ⟨Nat.le_of_ble_eq_true rfl, Nat.le_of_ble_eq_true rfl⟩ ⟨Nat.le_refl _, Nat.le_refl _⟩ rfl (Nat.le_of_ble_eq_true rfl) dX8_learn_3 rfl ?_
  rintro z3 F3 A3 ⟨w3, b3_, e13, e23⟩
  obtain rfl := e13.symm
  obtain rfl := e23.symm
  refine x_istore (pc2 := 8) (loc2 := [_, _, _, _, _, _, _, _, _, _, _]) hC (by decide) rfl dX8_learn_6 rfl ?_
  refine x_iconst (pc2 := 9) hC dX8_learn_8 rfl ?_
  refine x_istore (pc2 := 11) (loc2 := [_, _, _, _, _, _, _, _, _, _, _]) hC (by decide) rfl dX8_learn_9 rfl ?_
  refine loop0 4 0 z3 (by decide) (by decide) (by decide) (by omega) (fun _ => (b3_ ()).trans ⟨fun y => ⟨y, fun j a b => by omega⟩, fun y => y.1⟩) (fun f hf01 hf => ?_)
  refine x_iload (pc2 := 85) hC rfl dX8_learn_83 rfl ?_
  refine x_if_ne (tgt := 90) (pc2 := 88) hC (by omega) dX8_learn_85 rfl rfl (fun h_85 => ?_) (fun h_85 => ?_)
  · refine x_iconst (pc2 := 91) hC dX8_learn_90 rfl ?_
    refine x_istore (pc2 := 93) (loc2 := [_, _, _, _, _, _, _, _, _, _, _]) hC (by decide) rfl dX8_learn_91 rfl ?_
    exact loop1 ⟨((hf ()).mp h_85).1, has3_iff.mpr (fun j x y => (((hf ()).mp h_85).2 j x y).1), has3_iff.mpr (fun j x y => (((hf ()).mp h_85).2 j x y).2)⟩ 5 0 F A _ _ _ _ _ _ (by decide) (by decide) (by decide) hR0 (fun s a b => by omega)
  · refine x_iconst (pc2 := 89) hC dX8_learn_88 rfl ?_
    exact x_iret hC hr hlk ⟨_, rfl, S, Or.inl ⟨fun ⟨q1, q2, q3⟩ => absurd h_85 ((hf ()).mpr ⟨q1, fun j x y => ⟨has3_iff.mp q2 j x y, has3_iff.mp q3 j x y⟩⟩), rfl, rfl⟩, hR0⟩ dX8_learn_89
