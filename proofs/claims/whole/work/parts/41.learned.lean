theorem lrn_at {f : Int → Int} {bK bM tone : Int} {j : Nat} {K M : QR} {k c : Nat} (hj : j = 4 * k + c) (hc : c < 4) (eK : num f ((bK + (k : Int)) * 144 + tone * 36 + 0 * 9) = K) (eM : num f ((bM + (k : Int)) * 144 + tone * 36 + 0 * 9) = M) : lrn f bK bM tone j = if c = 0 then cmul K.2 M.2 else if c = 1 then cmul K.1 M.2 else if c = 2 then cmul K.1 M.1 else cmul M.1 K.2 := by
  have e1 : j / 4 = k := by omega
  have e2 : j % 4 = c := by omega
  unfold lrn
  rw [e1, e2, eK, eM]
theorem lrn_bd {f : Int → Int} {nb : Int} (hB : ∀ b t e : Int, 0 ≤ b ∧ b < nb → 0 ≤ t ∧ t < 4 → 0 ≤ e ∧ e < 4 → OKq 25 (num f (b * 144 + t * 36 + e * 9))) {bK bM tone : Int} (hbk : 0 ≤ bK ∧ bK + 2 < nb) (hbm : 0 ≤ bM ∧ bM + 2 < nb) (ht : 0 ≤ tone ∧ tone < 4) {j : Nat} (hj : j < 12) : bdc 51 (lrn f bK bM tone j) := by
  obtain ⟨k, c, h1, h2, h3⟩ : ∃ k c : Nat, j = 4 * k + c ∧ c < 4 ∧ k < 3 := ⟨j / 4, j % 4, by omega, by omega, by omega⟩
  rw [lrn_at h1 h2 rfl rfl]
  have a := (hB (bK + k) tone 0 ⟨by omega, by omega⟩ ht ⟨by decide, by decide⟩).1
  have b := (hB (bM + k) tone 0 ⟨by omega, by omega⟩ ht ⟨by decide, by decide⟩).1
  split
  · exact bdc_mul a.2 b.2 (by decide)
  · split
    · exact bdc_mul a.1 b.2 (by decide)
    · split
      · exact bdc_mul a.1 b.1 (by decide)
      · exact bdc_mul b.1 a.2 (by decide)
theorem g_small : ∀ g ∈ [33, 38, 78, 83], g ∈ GaL ∧ g < 199 := by decide
/-- what stays while the rows are filled -/
def LH (H : Nat → CI) : Prop := (H 122 = cre 1 ∧ H 127 = cre 1) ∧ H 133 = cre 1 ∧ H 138 = cre 4
theorem LH.up {H : Nat → CI} {g : Nat} {v : CI} (h : LH H) (n1 : g ≠ 122) (n2 : g ≠ 127) (n3 : g ≠ 133) (n4 : g ≠ 138) : LH (upH H g v) := ⟨⟨(upH_ne (Ne.symm n1)).trans h.1.1, (upH_ne (Ne.symm n2)).trans h.1.2⟩, (upH_ne (Ne.symm n3)).trans h.2.1, (upH_ne (Ne.symm n4)).trans h.2.2⟩
theorem dX0_learned_0 : decode cX0_learned 0 = .ok (.iconst 0, 1) := by decide +kernel
theorem dX0_learned_1 : decode cX0_learned 1 = .ok (.istore 4, 2) := by decide +kernel
theorem dX0_learned_3 : decode cX0_learned 3 = .ok (.iload 4, 2) := by decide +kernel
theorem dX0_learned_5 : decode cX0_learned 5 = .ok (.iconst 3, 1) := by decide +kernel
theorem dX0_learned_6 : decode cX0_learned 6 = .ok (.if_icmp .ge 189, 3) := by decide +kernel
theorem dX0_learned_9 : decode cX0_learned 9 = .ok (.aload_n 0, 1) := by decide +kernel
theorem dX0_learned_10 : decode cX0_learned 10 = .ok (.getfield 44, 3) := by decide +kernel
theorem dX0_learned_13 : decode cX0_learned 13 = .ok (.iconst 0, 1) := by decide +kernel
theorem dX0_learned_14 : decode cX0_learned 14 = .ok (.aaload, 1) := by decide +kernel
theorem dX0_learned_15 : decode cX0_learned 15 = .ok (.aload_n 0, 1) := by decide +kernel
theorem dX0_learned_16 : decode cX0_learned 16 = .ok (.getfield 17, 3) := by decide +kernel
theorem dX0_learned_19 : decode cX0_learned 19 = .ok (.getfield 109, 3) := by decide +kernel
theorem dX0_learned_22 : decode cX0_learned 22 = .ok (.iload_n 2, 1) := by decide +kernel
theorem dX0_learned_23 : decode cX0_learned 23 = .ok (.iload 4, 2) := by decide +kernel
theorem dX0_learned_25 : decode cX0_learned 25 = .ok (.iadd, 1) := by decide +kernel
theorem dX0_learned_26 : decode cX0_learned 26 = .ok (.iload_n 1, 1) := by decide +kernel
theorem dX0_learned_27 : decode cX0_learned 27 = .ok (.iconst 0, 1) := by decide +kernel
theorem dX0_learned_28 : decode cX0_learned 28 = .ok (.invokestatic 112, 3) := by decide +kernel
theorem dX0_learned_31 : decode cX0_learned 31 = .ok (.invokevirtual 116, 3) := by decide +kernel
theorem dX0_learned_34 : decode cX0_learned 34 = .ok (.aload_n 0, 1) := by decide +kernel
theorem dX0_learned_35 : decode cX0_learned 35 = .ok (.getfield 48, 3) := by decide +kernel
theorem dX0_learned_38 : decode cX0_learned 38 = .ok (.iconst 0, 1) := by decide +kernel
theorem dX0_learned_39 : decode cX0_learned 39 = .ok (.aaload, 1) := by decide +kernel
theorem dX0_learned_40 : decode cX0_learned 40 = .ok (.aload_n 0, 1) := by decide +kernel
theorem dX0_learned_41 : decode cX0_learned 41 = .ok (.getfield 17, 3) := by decide +kernel
theorem dX0_learned_44 : decode cX0_learned 44 = .ok (.getfield 109, 3) := by decide +kernel
theorem dX0_learned_47 : decode cX0_learned 47 = .ok (.iload_n 3, 1) := by decide +kernel
theorem dX0_learned_48 : decode cX0_learned 48 = .ok (.iload 4, 2) := by decide +kernel
theorem dX0_learned_50 : decode cX0_learned 50 = .ok (.iadd, 1) := by decide +kernel
theorem dX0_learned_51 : decode cX0_learned 51 = .ok (.iload_n 1, 1) := by decide +kernel
theorem dX0_learned_52 : decode cX0_learned 52 = .ok (.iconst 0, 1) := by decide +kernel
theorem dX0_learned_53 : decode cX0_learned 53 = .ok (.invokestatic 112, 3) := by decide +kernel
theorem dX0_learned_56 : decode cX0_learned 56 = .ok (.invokevirtual 116, 3) := by decide +kernel
theorem dX0_learned_59 : decode cX0_learned 59 = .ok (.aload_n 0, 1) := by decide +kernel
theorem dX0_learned_60 : decode cX0_learned 60 = .ok (.getfield 80, 3) := by decide +kernel
theorem dX0_learned_63 : decode cX0_learned 63 = .ok (.iconst 4, 1) := by decide +kernel
theorem dX0_learned_64 : decode cX0_learned 64 = .ok (.iload 4, 2) := by decide +kernel
theorem dX0_learned_66 : decode cX0_learned 66 = .ok (.imul, 1) := by decide +kernel
theorem dX0_learned_67 : decode cX0_learned 67 = .ok (.aaload, 1) := by decide +kernel
theorem dX0_learned_68 : decode cX0_learned 68 = .ok (.aload_n 0, 1) := by decide +kernel
theorem dX0_learned_69 : decode cX0_learned 69 = .ok (.getfield 44, 3) := by decide +kernel
theorem dX0_learned_72 : decode cX0_learned 72 = .ok (.iconst 0, 1) := by decide +kernel
theorem dX0_learned_73 : decode cX0_learned 73 = .ok (.aaload, 1) := by decide +kernel
theorem dX0_learned_74 : decode cX0_learned 74 = .ok (.getfield 142, 3) := by decide +kernel
theorem dX0_learned_77 : decode cX0_learned 77 = .ok (.aload_n 0, 1) := by decide +kernel
theorem dX0_learned_78 : decode cX0_learned 78 = .ok (.getfield 48, 3) := by decide +kernel
theorem dX0_learned_81 : decode cX0_learned 81 = .ok (.iconst 0, 1) := by decide +kernel
theorem dX0_learned_82 : decode cX0_learned 82 = .ok (.aaload, 1) := by decide +kernel
theorem dX0_learned_83 : decode cX0_learned 83 = .ok (.getfield 142, 3) := by decide +kernel
theorem dX0_learned_86 : decode cX0_learned 86 = .ok (.iconst 1, 1) := by decide +kernel
theorem dX0_learned_87 : decode cX0_learned 87 = .ok (.invokevirtual 148, 3) := by decide +kernel
theorem dX0_learned_90 : decode cX0_learned 90 = .ok (.aload_n 0, 1) := by decide +kernel
theorem dX0_learned_91 : decode cX0_learned 91 = .ok (.getfield 80, 3) := by decide +kernel
theorem dX0_learned_94 : decode cX0_learned 94 = .ok (.iconst 4, 1) := by decide +kernel
theorem dX0_learned_95 : decode cX0_learned 95 = .ok (.iload 4, 2) := by decide +kernel
theorem dX0_learned_97 : decode cX0_learned 97 = .ok (.imul, 1) := by decide +kernel
theorem dX0_learned_98 : decode cX0_learned 98 = .ok (.iconst 1, 1) := by decide +kernel
theorem dX0_learned_99 : decode cX0_learned 99 = .ok (.iadd, 1) := by decide +kernel
theorem dX0_learned_100 : decode cX0_learned 100 = .ok (.aaload, 1) := by decide +kernel
theorem dX0_learned_101 : decode cX0_learned 101 = .ok (.aload_n 0, 1) := by decide +kernel
theorem dX0_learned_102 : decode cX0_learned 102 = .ok (.getfield 44, 3) := by decide +kernel
theorem dX0_learned_105 : decode cX0_learned 105 = .ok (.iconst 0, 1) := by decide +kernel
theorem dX0_learned_106 : decode cX0_learned 106 = .ok (.aaload, 1) := by decide +kernel
theorem dX0_learned_107 : decode cX0_learned 107 = .ok (.getfield 139, 3) := by decide +kernel
theorem dX0_learned_110 : decode cX0_learned 110 = .ok (.aload_n 0, 1) := by decide +kernel
theorem dX0_learned_111 : decode cX0_learned 111 = .ok (.getfield 48, 3) := by decide +kernel
theorem dX0_learned_114 : decode cX0_learned 114 = .ok (.iconst 0, 1) := by decide +kernel
theorem dX0_learned_115 : decode cX0_learned 115 = .ok (.aaload, 1) := by decide +kernel
theorem dX0_learned_116 : decode cX0_learned 116 = .ok (.getfield 142, 3) := by decide +kernel
theorem dX0_learned_119 : decode cX0_learned 119 = .ok (.iconst 1, 1) := by decide +kernel
theorem dX0_learned_120 : decode cX0_learned 120 = .ok (.invokevirtual 148, 3) := by decide +kernel
theorem dX0_learned_123 : decode cX0_learned 123 = .ok (.aload_n 0, 1) := by decide +kernel
theorem dX0_learned_124 : decode cX0_learned 124 = .ok (.getfield 80, 3) := by decide +kernel
theorem dX0_learned_127 : decode cX0_learned 127 = .ok (.iconst 4, 1) := by decide +kernel
theorem dX0_learned_128 : decode cX0_learned 128 = .ok (.iload 4, 2) := by decide +kernel
theorem dX0_learned_130 : decode cX0_learned 130 = .ok (.imul, 1) := by decide +kernel
theorem dX0_learned_131 : decode cX0_learned 131 = .ok (.iconst 2, 1) := by decide +kernel
theorem dX0_learned_132 : decode cX0_learned 132 = .ok (.iadd, 1) := by decide +kernel
theorem dX0_learned_133 : decode cX0_learned 133 = .ok (.aaload, 1) := by decide +kernel
theorem dX0_learned_134 : decode cX0_learned 134 = .ok (.aload_n 0, 1) := by decide +kernel
theorem dX0_learned_135 : decode cX0_learned 135 = .ok (.getfield 44, 3) := by decide +kernel
theorem dX0_learned_138 : decode cX0_learned 138 = .ok (.iconst 0, 1) := by decide +kernel
theorem dX0_learned_139 : decode cX0_learned 139 = .ok (.aaload, 1) := by decide +kernel
theorem dX0_learned_140 : decode cX0_learned 140 = .ok (.getfield 139, 3) := by decide +kernel
theorem dX0_learned_143 : decode cX0_learned 143 = .ok (.aload_n 0, 1) := by decide +kernel
theorem dX0_learned_144 : decode cX0_learned 144 = .ok (.getfield 48, 3) := by decide +kernel
theorem dX0_learned_147 : decode cX0_learned 147 = .ok (.iconst 0, 1) := by decide +kernel
theorem dX0_learned_148 : decode cX0_learned 148 = .ok (.aaload, 1) := by decide +kernel
theorem dX0_learned_149 : decode cX0_learned 149 = .ok (.getfield 139, 3) := by decide +kernel
theorem dX0_learned_152 : decode cX0_learned 152 = .ok (.iconst 1, 1) := by decide +kernel
theorem dX0_learned_153 : decode cX0_learned 153 = .ok (.invokevirtual 148, 3) := by decide +kernel
theorem dX0_learned_156 : decode cX0_learned 156 = .ok (.aload_n 0, 1) := by decide +kernel
theorem dX0_learned_157 : decode cX0_learned 157 = .ok (.getfield 80, 3) := by decide +kernel
theorem dX0_learned_160 : decode cX0_learned 160 = .ok (.iconst 4, 1) := by decide +kernel
theorem dX0_learned_161 : decode cX0_learned 161 = .ok (.iload 4, 2) := by decide +kernel
theorem dX0_learned_163 : decode cX0_learned 163 = .ok (.imul, 1) := by decide +kernel
theorem dX0_learned_164 : decode cX0_learned 164 = .ok (.iconst 3, 1) := by decide +kernel
theorem dX0_learned_165 : decode cX0_learned 165 = .ok (.iadd, 1) := by decide +kernel
theorem dX0_learned_166 : decode cX0_learned 166 = .ok (.aaload, 1) := by decide +kernel
theorem dX0_learned_167 : decode cX0_learned 167 = .ok (.aload_n 0, 1) := by decide +kernel
theorem dX0_learned_168 : decode cX0_learned 168 = .ok (.getfield 48, 3) := by decide +kernel
theorem dX0_learned_171 : decode cX0_learned 171 = .ok (.iconst 0, 1) := by decide +kernel
theorem dX0_learned_172 : decode cX0_learned 172 = .ok (.aaload, 1) := by decide +kernel
theorem dX0_learned_173 : decode cX0_learned 173 = .ok (.getfield 139, 3) := by decide +kernel
theorem dX0_learned_176 : decode cX0_learned 176 = .ok (.aload_n 0, 1) := by decide +kernel
theorem dX0_learned_177 : decode cX0_learned 177 = .ok (.getfield 44, 3) := by decide +kernel
theorem dX0_learned_180 : decode cX0_learned 180 = .ok (.iconst 0, 1) := by decide +kernel
theorem dX0_learned_181 : decode cX0_learned 181 = .ok (.aaload, 1) := by decide +kernel
theorem dX0_learned_182 : decode cX0_learned 182 = .ok (.getfield 142, 3) := by decide +kernel
theorem dX0_learned_185 : decode cX0_learned 185 = .ok (.iconst 1, 1) := by decide +kernel
theorem dX0_learned_186 : decode cX0_learned 186 = .ok (.invokevirtual 148, 3) := by decide +kernel
theorem dX0_learned_189 : decode cX0_learned 189 = .ok (.iinc 4 1, 3) := by decide +kernel
theorem dX0_learned_192 : decode cX0_learned 192 = .ok (.goto (-189), 3) := by decide +kernel
theorem dX0_learned_195 : decode cX0_learned 195 = .ok (.aload_n 0, 1) := by decide +kernel
theorem dX0_learned_196 : decode cX0_learned 196 = .ok (.getfield 84, 3) := by decide +kernel
theorem dX0_learned_199 : decode cX0_learned 199 = .ok (.iconst 0, 1) := by decide +kernel
theorem dX0_learned_200 : decode cX0_learned 200 = .ok (.aaload, 1) := by decide +kernel
theorem dX0_learned_201 : decode cX0_learned 201 = .ok (.astore 4, 2) := by decide +kernel
theorem dX0_learned_203 : decode cX0_learned 203 = .ok (.aload_n 0, 1) := by decide +kernel
theorem dX0_learned_204 : decode cX0_learned 204 = .ok (.getfield 84, 3) := by decide +kernel
theorem dX0_learned_207 : decode cX0_learned 207 = .ok (.iconst 1, 1) := by decide +kernel
theorem dX0_learned_208 : decode cX0_learned 208 = .ok (.aaload, 1) := by decide +kernel
theorem dX0_learned_209 : decode cX0_learned 209 = .ok (.astore 5, 2) := by decide +kernel
theorem dX0_learned_211 : decode cX0_learned 211 = .ok (.aload_n 0, 1) := by decide +kernel
theorem dX0_learned_212 : decode cX0_learned 212 = .ok (.getfield 84, 3) := by decide +kernel
theorem dX0_learned_215 : decode cX0_learned 215 = .ok (.iconst 2, 1) := by decide +kernel
theorem dX0_learned_216 : decode cX0_learned 216 = .ok (.aaload, 1) := by decide +kernel
theorem dX0_learned_217 : decode cX0_learned 217 = .ok (.astore 6, 2) := by decide +kernel
theorem dX0_learned_219 : decode cX0_learned 219 = .ok (.aload_n 0, 1) := by decide +kernel
theorem dX0_learned_220 : decode cX0_learned 220 = .ok (.getfield 84, 3) := by decide +kernel
theorem dX0_learned_223 : decode cX0_learned 223 = .ok (.iconst 3, 1) := by decide +kernel
theorem dX0_learned_224 : decode cX0_learned 224 = .ok (.aaload, 1) := by decide +kernel
theorem dX0_learned_225 : decode cX0_learned 225 = .ok (.astore 7, 2) := by decide +kernel
theorem dX0_learned_227 : decode cX0_learned 227 = .ok (.aload_n 0, 1) := by decide +kernel
theorem dX0_learned_228 : decode cX0_learned 228 = .ok (.aload 4, 2) := by decide +kernel
theorem dX0_learned_230 : decode cX0_learned 230 = .ok (.iconst 0, 1) := by decide +kernel
theorem dX0_learned_231 : decode cX0_learned 231 = .ok (.iconst 1, 1) := by decide +kernel
theorem dX0_learned_232 : decode cX0_learned 232 = .ok (.iconst 2, 1) := by decide +kernel
theorem dX0_learned_233 : decode cX0_learned 233 = .ok (.invokevirtual 151, 3) := by decide +kernel
theorem dX0_learned_236 : decode cX0_learned 236 = .ok (.aload 4, 2) := by decide +kernel
theorem dX0_learned_238 : decode cX0_learned 238 = .ok (.invokevirtual 155, 3) := by decide +kernel
theorem dX0_learned_241 : decode cX0_learned 241 = .ok (.ifCond .eq 5, 3) := by decide +kernel
theorem dX0_learned_244 : decode cX0_learned 244 = .ok (.iconst 1, 1) := by decide +kernel
theorem dX0_learned_245 : decode cX0_learned 245 = .ok (.ireturn, 1) := by decide +kernel
theorem dX0_learned_246 : decode cX0_learned 246 = .ok (.aload_n 0, 1) := by decide +kernel
theorem dX0_learned_247 : decode cX0_learned 247 = .ok (.aload 5, 2) := by decide +kernel
theorem dX0_learned_249 : decode cX0_learned 249 = .ok (.iconst 3, 1) := by decide +kernel
theorem dX0_learned_250 : decode cX0_learned 250 = .ok (.iconst 1, 1) := by decide +kernel
theorem dX0_learned_251 : decode cX0_learned 251 = .ok (.iconst 2, 1) := by decide +kernel
theorem dX0_learned_252 : decode cX0_learned 252 = .ok (.invokevirtual 151, 3) := by decide +kernel
theorem dX0_learned_255 : decode cX0_learned 255 = .ok (.aload_n 0, 1) := by decide +kernel
theorem dX0_learned_256 : decode cX0_learned 256 = .ok (.aload 6, 2) := by decide +kernel
theorem dX0_learned_258 : decode cX0_learned 258 = .ok (.iconst 0, 1) := by decide +kernel
theorem dX0_learned_259 : decode cX0_learned 259 = .ok (.iconst 3, 1) := by decide +kernel
theorem dX0_learned_260 : decode cX0_learned 260 = .ok (.iconst 2, 1) := by decide +kernel
theorem dX0_learned_261 : decode cX0_learned 261 = .ok (.invokevirtual 151, 3) := by decide +kernel
theorem dX0_learned_264 : decode cX0_learned 264 = .ok (.aload_n 0, 1) := by decide +kernel
theorem dX0_learned_265 : decode cX0_learned 265 = .ok (.aload 7, 2) := by decide +kernel
theorem dX0_learned_267 : decode cX0_learned 267 = .ok (.iconst 0, 1) := by decide +kernel
theorem dX0_learned_268 : decode cX0_learned 268 = .ok (.iconst 1, 1) := by decide +kernel
theorem dX0_learned_269 : decode cX0_learned 269 = .ok (.iconst 3, 1) := by decide +kernel
theorem dX0_learned_270 : decode cX0_learned 270 = .ok (.invokevirtual 151, 3) := by decide +kernel
theorem dX0_learned_273 : decode cX0_learned 273 = .ok (.aload_n 0, 1) := by decide +kernel
theorem dX0_learned_274 : decode cX0_learned 274 = .ok (.getfield 34, 3) := by decide +kernel
theorem dX0_learned_277 : decode cX0_learned 277 = .ok (.aload 5, 2) := by decide +kernel
theorem dX0_learned_279 : decode cX0_learned 279 = .ok (.aload 4, 2) := by decide +kernel
theorem dX0_learned_281 : decode cX0_learned 281 = .ok (.iload_n 1, 1) := by decide +kernel
theorem dX0_learned_282 : decode cX0_learned 282 = .ok (.iconst 0, 1) := by decide +kernel
theorem dX0_learned_283 : decode cX0_learned 283 = .ok (.invokevirtual 145, 3) := by decide +kernel
theorem dX0_learned_286 : decode cX0_learned 286 = .ok (.aload_n 0, 1) := by decide +kernel
theorem dX0_learned_287 : decode cX0_learned 287 = .ok (.getfield 34, 3) := by decide +kernel
theorem dX0_learned_290 : decode cX0_learned 290 = .ok (.aload_n 0, 1) := by decide +kernel
theorem dX0_learned_291 : decode cX0_learned 291 = .ok (.getfield 54, 3) := by decide +kernel
theorem dX0_learned_294 : decode cX0_learned 294 = .ok (.getfield 139, 3) := by decide +kernel
theorem dX0_learned_297 : decode cX0_learned 297 = .ok (.aload_n 0, 1) := by decide +kernel
theorem dX0_learned_298 : decode cX0_learned 298 = .ok (.getfield 54, 3) := by decide +kernel
theorem dX0_learned_301 : decode cX0_learned 301 = .ok (.getfield 142, 3) := by decide +kernel
theorem dX0_learned_304 : decode cX0_learned 304 = .ok (.iload_n 1, 1) := by decide +kernel
theorem dX0_learned_305 : decode cX0_learned 305 = .ok (.iconst 1, 1) := by decide +kernel
theorem dX0_learned_306 : decode cX0_learned 306 = .ok (.invokevirtual 145, 3) := by decide +kernel
theorem dX0_learned_309 : decode cX0_learned 309 = .ok (.aload_n 0, 1) := by decide +kernel
theorem dX0_learned_310 : decode cX0_learned 310 = .ok (.getfield 91, 3) := by decide +kernel
theorem dX0_learned_313 : decode cX0_learned 313 = .ok (.aload 6, 2) := by decide +kernel
theorem dX0_learned_315 : decode cX0_learned 315 = .ok (.aload 4, 2) := by decide +kernel
theorem dX0_learned_317 : decode cX0_learned 317 = .ok (.iconst 1, 1) := by decide +kernel
theorem dX0_learned_318 : decode cX0_learned 318 = .ok (.invokevirtual 148, 3) := by decide +kernel
theorem dX0_learned_321 : decode cX0_learned 321 = .ok (.aload_n 0, 1) := by decide +kernel
theorem dX0_learned_322 : decode cX0_learned 322 = .ok (.getfield 87, 3) := by decide +kernel
theorem dX0_learned_325 : decode cX0_learned 325 = .ok (.aload 5, 2) := by decide +kernel
theorem dX0_learned_327 : decode cX0_learned 327 = .ok (.aload 7, 2) := by decide +kernel
theorem dX0_learned_329 : decode cX0_learned 329 = .ok (.iconst 1, 1) := by decide +kernel
theorem dX0_learned_330 : decode cX0_learned 330 = .ok (.invokevirtual 148, 3) := by decide +kernel
theorem dX0_learned_333 : decode cX0_learned 333 = .ok (.aload_n 0, 1) := by decide +kernel
theorem dX0_learned_334 : decode cX0_learned 334 = .ok (.getfield 91, 3) := by decide +kernel
theorem dX0_learned_337 : decode cX0_learned 337 = .ok (.aload_n 0, 1) := by decide +kernel
theorem dX0_learned_338 : decode cX0_learned 338 = .ok (.getfield 91, 3) := by decide +kernel
theorem dX0_learned_341 : decode cX0_learned 341 = .ok (.aload_n 0, 1) := by decide +kernel
theorem dX0_learned_342 : decode cX0_learned 342 = .ok (.getfield 87, 3) := by decide +kernel
theorem dX0_learned_345 : decode cX0_learned 345 = .ok (.iconst 1, 1) := by decide +kernel
theorem dX0_learned_346 : decode cX0_learned 346 = .ok (.invokevirtual 156, 3) := by decide +kernel
theorem dX0_learned_349 : decode cX0_learned 349 = .ok (.aload_n 0, 1) := by decide +kernel
theorem dX0_learned_350 : decode cX0_learned 350 = .ok (.getfield 94, 3) := by decide +kernel
theorem dX0_learned_353 : decode cX0_learned 353 = .ok (.aload 4, 2) := by decide +kernel
theorem dX0_learned_355 : decode cX0_learned 355 = .ok (.aload 4, 2) := by decide +kernel
theorem dX0_learned_357 : decode cX0_learned 357 = .ok (.iconst 1, 1) := by decide +kernel
theorem dX0_learned_358 : decode cX0_learned 358 = .ok (.invokevirtual 148, 3) := by decide +kernel
theorem dX0_learned_361 : decode cX0_learned 361 = .ok (.aload_n 0, 1) := by decide +kernel
theorem dX0_learned_362 : decode cX0_learned 362 = .ok (.getfield 34, 3) := by decide +kernel
theorem dX0_learned_365 : decode cX0_learned 365 = .ok (.aload_n 0, 1) := by decide +kernel
theorem dX0_learned_366 : decode cX0_learned 366 = .ok (.getfield 91, 3) := by decide +kernel
theorem dX0_learned_369 : decode cX0_learned 369 = .ok (.aload_n 0, 1) := by decide +kernel
theorem dX0_learned_370 : decode cX0_learned 370 = .ok (.getfield 94, 3) := by decide +kernel
theorem dX0_learned_373 : decode cX0_learned 373 = .ok (.iload_n 1, 1) := by decide +kernel
theorem dX0_learned_374 : decode cX0_learned 374 = .ok (.iconst 2, 1) := by decide +kernel
theorem dX0_learned_375 : decode cX0_learned 375 = .ok (.invokevirtual 145, 3) := by decide +kernel
theorem dX0_learned_378 : decode cX0_learned 378 = .ok (.aload_n 0, 1) := by decide +kernel
theorem dX0_learned_379 : decode cX0_learned 379 = .ok (.getfield 34, 3) := by decide +kernel
theorem dX0_learned_382 : decode cX0_learned 382 = .ok (.aload 7, 2) := by decide +kernel
theorem dX0_learned_384 : decode cX0_learned 384 = .ok (.aload 4, 2) := by decide +kernel
theorem dX0_learned_386 : decode cX0_learned 386 = .ok (.iload_n 1, 1) := by decide +kernel
theorem dX0_learned_387 : decode cX0_learned 387 = .ok (.iconst 3, 1) := by decide +kernel
theorem dX0_learned_388 : decode cX0_learned 388 = .ok (.invokevirtual 145, 3) := by decide +kernel
theorem dX0_learned_391 : decode cX0_learned 391 = .ok (.iconst 0, 1) := by decide +kernel
theorem dX0_learned_392 : decode cX0_learned 392 = .ok (.ireturn, 1) := by decide +kernel
set_option maxHeartbeats 16000000 in
theorem m_learned (l : Launch) {D : va_G} {ids : Nat → ClassId} {β : Nat} {sh : Nat → Nat × Nat} {N : Nat} {R : Nat → Nat → Option Nat} {F : Nat → Nat → Int} {A : Nat → Int → Int} {tone nb : Int} (hA : AcL sh R N) (hAE : AE sh R N F A [] F A) (hT : CK (A 2)) (hnb : nb ≤ 16) (hB : ∀ b t e : Int, 0 ≤ b ∧ b < nb → 0 ≤ t ∧ t < 4 → 0 ≤ e ∧ e < 4 → OKq 25 (num (A 2) (b * 144 + t * 36 + e * 9))) (ht : 0 ≤ tone ∧ tone < 4) (hGG : AcG sh R N) {bK bM : Int} (hbk : 0 ≤ bK ∧ bK + 2 < nb) (hbm : 0 ≤ bM ∧ bM + 2 < nb) : MetX l yX0_learned cX0_learned 8 (some (.int)) 6 165 D ids β sh N R F A [rf 7, pI tone, pI bK, pI bM] (pIr (fun z F2 A2 => (z = 1 ∧ det3 (lrn (A 2) bK bM tone) 0 1 2 = (0, 0) ∧ AE sh R N F A [] F2 A2) ∨ (z = 0 ∧ det3 (lrn (A 2) bK bM tone) 0 1 2 ≠ (0, 0) ∧ AE sh R N F A (learnL (lrn (A 2) bK bM tone) tone) F2 A2))) := by
  refine MetX.of (loc := [_, _, _, _, _, _, _, _]) (plainFor_of_name (by decide +kernel)) (Nat.le_of_ble_eq_true rfl) rfl ?_
  intro p e s m args below meth c hC hK hr hlk
  obtain ⟨hL, hW, ⟨a1, a2⟩, ⟨f0, f1, f2, f3, f4, f5, f6, f7, f8, f9, f10⟩, ⟨f11, f12, f13, f14, f15⟩, ⟨⟨b1, b2⟩, ⟨b3, b4⟩, b5, b6⟩, hR, hsg⟩ := id hA
  obtain ⟨⟨j1, j2⟩, ⟨r0, r1, r2, r3, r4⟩, ⟨j3, j4⟩, ⟨j5, j6⟩, -⟩ := id hL
  have j15 := hW.1.1
  have j16 := hW.1.2.1
  obtain ⟨G, g121, g132, VI, hSI, hGI, hglI, hbI, hfI, hdI⟩ := id hAE
  have n2 : sh 2 ≠ (1, 80) := by rw [j4]; decide
  have o_oneq := ok_one
  have o_quartq := ok_quart
  have rt32 : 32 < N ∧ sh 32 = (0, 4) := ⟨(hR 32 (by decide)).1, (hR 32 (by decide)).2.1⟩
  have rt43 : 43 < N ∧ sh 43 = (0, 4) := ⟨(hR 43 (by decide)).1, (hR 43 (by decide)).2.1⟩
  have rt54 : 54 < N ∧ sh 54 = (0, 4) := ⟨(hR 54 (by decide)).1, (hR 54 (by decide)).2.1⟩
  have rt65 : 65 < N ∧ sh 65 = (0, 4) := ⟨(hR 65 (by decide)).1, (hR 65 (by decide)).2.1⟩
  have rt77 : 77 < N ∧ sh 77 = (0, 4) := ⟨(hR 77 (by decide)).1, (hR 77 (by decide)).2.1⟩
  have rt88 : 88 < N ∧ sh 88 = (0, 4) := ⟨(hR 88 (by decide)).1, (hR 88 (by decide)).2.1⟩
  have rt99 : 99 < N ∧ sh 99 = (0, 4) := ⟨(hR 99 (by decide)).1, (hR 99 (by decide)).2.1⟩
  have rt110 : 110 < N ∧ sh 110 = (0, 4) := ⟨(hR 110 (by decide)).1, (hR 110 (by decide)).2.1⟩
  have rt121 : 121 < N ∧ sh 121 = (0, 4) := ⟨(hR 121 (by decide)).1, (hR 121 (by decide)).2.1⟩
  have rt132 : 132 < N ∧ sh 132 = (0, 4) := ⟨(hR 132 (by decide)).1, (hR 132 (by decide)).2.1⟩
  have rt143 : 143 < N ∧ sh 143 = (0, 4) := ⟨(hR 143 (by decide)).1, (hR 143 (by decide)).2.1⟩
  have rt154 : 154 < N ∧ sh 154 = (0, 4) := ⟨(hR 154 (by decide)).1, (hR 154 (by decide)).2.1⟩
  have rt165 : 165 < N ∧ sh 165 = (0, 4) := ⟨(hR 165 (by decide)).1, (hR 165 (by decide)).2.1⟩
  have rt176 : 176 < N ∧ sh 176 = (0, 4) := ⟨(hR 176 (by decide)).1, (hR 176 (by decide)).2.1⟩
  have rt187 : 187 < N ∧ sh 187 = (0, 4) := ⟨(hR 187 (by decide)).1, (hR 187 (by decide)).2.1⟩
  obtain ⟨rn32, rs32⟩ := rt32
  have ro32 := (hR 32 (by decide)).2.2.1
  have ru32 := (hR 32 (by decide)).2.2.2.1
  obtain ⟨rn43, rs43⟩ := rt43
  have ro43 := (hR 43 (by decide)).2.2.1
  have ru43 := (hR 43 (by decide)).2.2.2.1
  obtain ⟨rn54, rs54⟩ := rt54
  have ro54 := (hR 54 (by decide)).2.2.1
  have ru54 := (hR 54 (by decide)).2.2.2.1
  obtain ⟨rn65, rs65⟩ := rt65
  have ro65 := (hR 65 (by decide)).2.2.1
  have ru65 := (hR 65 (by decide)).2.2.2.1
  obtain ⟨rn77, rs77⟩ := rt77
  have ro77 := (hR 77 (by decide)).2.2.1
  have ru77 := (hR 77 (by decide)).2.2.2.1
  obtain ⟨rn88, rs88⟩ := rt88
  have ro88 := (hR 88 (by decide)).2.2.1
  have ru88 := (hR 88 (by decide)).2.2.2.1
  obtain ⟨rn99, rs99⟩ := rt99
  have ro99 := (hR 99 (by decide)).2.2.1
  have ru99 := (hR 99 (by decide)).2.2.2.1
  obtain ⟨rn110, rs110⟩ := rt110
  have ro110 := (hR 110 (by decide)).2.2.1
  have ru110 := (hR 110 (by decide)).2.2.2.1
  obtain ⟨rn121, rs121⟩ := rt121
  have ro121 := (hR 121 (by decide)).2.2.1
  have ru121 := (hR 121 (by decide)).2.2.2.1
  obtain ⟨rn132, rs132⟩ := rt132
  have ro132 := (hR 132 (by decide)).2.2.1
  have ru132 := (hR 132 (by decide)).2.2.2.1
  obtain ⟨rn143, rs143⟩ := rt143
  have ro143 := (hR 143 (by decide)).2.2.1
  have ru143 := (hR 143 (by decide)).2.2.2.1
  obtain ⟨rn154, rs154⟩ := rt154
  have ro154 := (hR 154 (by decide)).2.2.1
  have ru154 := (hR 154 (by decide)).2.2.2.1
  obtain ⟨rn165, rs165⟩ := rt165
  have ro165 := (hR 165 (by decide)).2.2.1
  have ru165 := (hR 165 (by decide)).2.2.2.1
  obtain ⟨rn176, rs176⟩ := rt176
  have ro176 := (hR 176 (by decide)).2.2.1
  have ru176 := (hR 176 (by decide)).2.2.2.1
  obtain ⟨rn187, rs187⟩ := rt187
  have ro187 := (hR 187 (by decide)).2.2.1
  have ru187 := (hR 187 (by decide)).2.2.2.1
  obtain ⟨c1, c2, c3, c4, hGa⟩ := id hGG
  obtain ⟨c5, c6⟩ := c1
  obtain ⟨c7, c8⟩ := c3
  have hsp := hW.2.2.2.2.2.2.2.2
  have o12 := (hGa 280 (by decide)).1
  have o121n := (hGa 260 (by decide)).1
  have t260 := (hGa 260 (by decide)).1
  have u260 := (hGa 260 (by decide)).2.1
  have t265 := (hGa 265 (by decide)).1
  have u265 := (hGa 265 (by decide)).2.1
  have t270 := (hGa 270 (by decide)).1
  have u270 := (hGa 270 (by decide)).2.1
  have t275 := (hGa 275 (by decide)).1
  have u275 := (hGa 275 (by decide)).2.1
  have t280 := (hGa 280 (by decide)).1
  have u280 := (hGa 280 (by decide)).2.1
  have t285 := (hGa 285 (by decide)).1
  have u285 := (hGa 285 (by decide)).2.1
  have t290 := (hGa 290 (by decide)).1
  have u290 := (hGa 290 (by decide)).2.1
  have fin : ∀ (F1 : Nat → Nat → Int) (A1 : Nat → Int → Int) {e5 e6 e7 : Option PV}, (∃ V1 H1, (∀ j : Nat, j < 4 * 3 → H1 (199 + 5 * j) = (lrn (A 2) bK bM tone) j) ∧ LH H1 ∧ ST sh R N F1 A1 V1 ∧ HV V1 H1 ∧ (∃ g l, gl2 F1 g l) ∧ (F1 15 7 = 0 ∨ F1 15 7 = 1) ∧ FRa sh F A F1 A1 ∧ DrL (A1 3) (A 3) (F 15 7) (F1 15 7) []) → X p l e { frames := 6, cells := 0, slots := 0, locals := 165 } s m args below meth c (MQ below (QX D ids β sh N R (pIr (fun z F2 A2 => (z = 1 ∧ det3 (lrn (A 2) bK bM tone) 0 1 2 = (0, 0) ∧ AE sh R N F A [] F2 A2) ∨ (z = 0 ∧ det3 (lrn (A 2) bK bM tone) 0 1 2 ≠ (0, 0) ∧ AE sh R N F A (learnL (lrn (A 2) bK bM tone) tone) F2 A2)))) args s 0 0 (inG β N)) (inG β N) D ids β sh 8 0 0 N R F1 A1 [some (rf 7), some (pI tone), some (pI bK), some (pI bM), some (pI ((3 : Nat) : Int)), e5, e6, e7] [] 195 := by
    intro F1 A1 e5 e6 e7 ⟨VI, HI, oldI, lhI, hSI, hHI, hglI, hbI, hfI, hdI⟩
    have rvI : ∀ k < 12, HI (199 + 5 * k) = (lrn (A 2) bK bM tone) k ∧ bdc 51 ((lrn (A 2) bK bM tone) k) := fun k hk => ⟨oldI k (by omega), lrn_bd hB hbk hbm ht hk⟩
    obtain ⟨dw, e_dw⟩ : ∃ q, q = det3 (lrn (A 2) bK bM tone) 0 1 2 := ⟨_, rfl⟩
    obtain ⟨du, e_du⟩ : ∃ q, q = det3 (lrn (A 2) bK bM tone) 3 1 2 := ⟨_, rfl⟩
    obtain ⟨dv, e_dv⟩ : ∃ q, q = det3 (lrn (A 2) bK bM tone) 0 3 2 := ⟨_, rfl⟩
    obtain ⟨dz, e_dz⟩ : ∃ q, q = det3 (lrn (A 2) bK bM tone) 0 1 3 := ⟨_, rfl⟩
    refine x_aload_n (pc2 := 196) hC rfl rfl dX0_learned_195 rfl ?_
    refine g_278 (pc2 := 199) hC hK (by assumption) (by assumption) (by assumption) dX0_learned_196 rfl ?_
    refine x_iconst (pc2 := 200) hC dX0_learned_199 rfl ?_
    refine x_aald (pc2 := 201) hC hK c7 c8 (by decide) (by decide) (c4 0 (by decide)) dX0_learned_200 rfl ?_
    refine x_astore (pc2 := 203) (loc2 := [_, _, _, _, _, _, _, _]) hC (by decide) rfl dX0_learned_201 rfl ?_
    refine x_aload_n (pc2 := 204) hC rfl rfl dX0_learned_203 rfl ?_
    refine g_278 (pc2 := 207) hC hK (by assumption) (by assumption) (by assumption) dX0_learned_204 rfl ?_
    refine x_iconst (pc2 := 208) hC dX0_learned_207 rfl ?_
    refine x_aald (pc2 := 209) hC hK c7 c8 (by decide) (by decide) (c4 1 (by decide)) dX0_learned_208 rfl ?_
    refine x_astore (pc2 := 211) (loc2 := [_, _, _, _, _, _, _, _]) hC (by decide) rfl dX0_learned_209 rfl ?_
    refine x_aload_n (pc2 := 212) hC rfl rfl dX0_learned_211 rfl ?_
    refine g_278 (pc2 := 215) hC hK (by assumption) (by assumption) (by assumption) dX0_learned_212 rfl ?_
    refine x_iconst (pc2 := 216) hC dX0_learned_215 rfl ?_
    refine x_aald (pc2 := 217) hC hK c7 c8 (by decide) (by decide) (c4 2 (by decide)) dX0_learned_216 rfl ?_
    refine x_astore (pc2 := 219) (loc2 := [_, _, _, _, _, _, _, _]) hC (by decide) rfl dX0_learned_217 rfl ?_
    refine x_aload_n (pc2 := 220) hC rfl rfl dX0_learned_219 rfl ?_
    refine g_278 (pc2 := 223) hC hK (by assumption) (by assumption) (by assumption) dX0_learned_220 rfl ?_
    refine x_iconst (pc2 := 224) hC dX0_learned_223 rfl ?_
    refine x_aald (pc2 := 225) hC hK c7 c8 (by decide) (by decide) (c4 3 (by decide)) dX0_learned_224 rfl ?_
    refine x_astore (pc2 := 227) (loc2 := [_, _, _, _, _, _, _, _]) hC (by decide) rfl dX0_learned_225 rfl ?_
    refine x_aload_n (pc2 := 228) hC rfl rfl dX0_learned_227 rfl ?_
    refine x_aload (pc2 := 230) hC rfl dX0_learned_228 rfl ?_
    refine x_iconst (pc2 := 231) hC dX0_learned_230 rfl ?_
    refine x_iconst (pc2 := 232) hC dX0_learned_231 rfl ?_
    refine x_iconst (pc2 := 233) hC dX0_learned_232 rfl ?_
    refine x_cVv (pc2 := 236) (ci := 0) hC hK (m_det l hA hGG hSI hHI (into := 260) (r := (lrn (A 2) bK bM tone)) (x := 0) (y := 1) (w := 2) ⟨by decide, by decide, by decide⟩ (by decide) (by decide) (by decide) rvI) lk_679 rfl rfl (by decide) (by assumption) (by assumption) ⟨Nat.le_of_ble_eq_true rfl, Nat.le_of_ble_eq_true rfl⟩ ⟨Nat.le_refl _, Nat.le_refl _⟩ rfl (Nat.le_of_ble_eq_true rfl) dX0_learned_233 rfl ?_
    rintro F233 A233 ⟨V233x, H233, hSQ, hHx, e233, bd233, k233⟩
    obtain ⟨V233, hS233, hH233, hgl233, hb233, hf233, hd233⟩ := ASH.step hA hglI hbI hfI hdI ⟨_, hSQ, hHx⟩
    clear hSQ hHx
    have rv233 : ∀ k < 12, H233 (199 + 5 * k) = (lrn (A 2) bK bM tone) k ∧ bdc 51 ((lrn (A 2) bK bM tone) k) := fun k hk => ⟨(k233 _ (row_mem k hk) (by omega) (by omega) (by omega)).trans (rvI k hk).1, (rvI k hk).2⟩
    have lh233 : LH H233 := ⟨⟨(k233 122 (by decide) (by decide) (by decide) (by decide)).trans lhI.1.1, (k233 127 (by decide) (by decide) (by decide) (by decide)).trans lhI.1.2⟩, (k233 133 (by decide) (by decide) (by decide) (by decide)).trans lhI.2.1, (k233 138 (by decide) (by decide) (by decide) (by decide)).trans lhI.2.2⟩
    have h233_260 : H233 260 = dw := e233.trans e_dw.symm
    rw [← e_dw] at bd233
    refine x_aload (pc2 := 238) hC rfl dX0_learned_236 rfl ?_
    refine x_cVi (pc2 := 241) (ci := 1) hC hK (h_zero l hGa hS233 hH233 (g := 260) (by decide) h233_260) lk_685 rfl rfl (by decide) (by assumption) (by assumption) ⟨Nat.le_of_ble_eq_true rfl, Nat.le_of_ble_eq_true rfl⟩ ⟨Nat.le_refl _, Nat.le_refl _⟩ rfl (Nat.le_of_ble_eq_true rfl) dX0_learned_238 rfl ?_
    rintro z238 F238 A238 ⟨rfl, e1238, e2238⟩
    obtain rfl := e1238.symm
    obtain rfl := e2238.symm
    refine x_ifp_eq (tgt := 246) (pc2 := 244) hC dX0_learned_241 rfl rfl (fun h_241 => ?_) (fun h_241 => ?_)
    · have nzw : dw ≠ (0, 0) := by assumption
      refine x_aload_n (pc2 := 247) hC rfl rfl dX0_learned_246 rfl ?_
      refine x_aload (pc2 := 249) hC rfl dX0_learned_247 rfl ?_
      refine x_iconst (pc2 := 250) hC dX0_learned_249 rfl ?_
      refine x_iconst (pc2 := 251) hC dX0_learned_250 rfl ?_
      refine x_iconst (pc2 := 252) hC dX0_learned_251 rfl ?_
      refine x_cVv (pc2 := 255) (ci := 0) hC hK (m_det l hA hGG hS233 hH233 (into := 265) (r := (lrn (A 2) bK bM tone)) (x := 3) (y := 1) (w := 2) ⟨by decide, by decide, by decide⟩ (by decide) (by decide) (by decide) rv233) lk_679 rfl rfl (by decide) (by assumption) (by assumption) ⟨Nat.le_of_ble_eq_true rfl, Nat.le_of_ble_eq_true rfl⟩ ⟨Nat.le_refl _, Nat.le_refl _⟩ rfl (Nat.le_of_ble_eq_true rfl) dX0_learned_252 rfl ?_
      rintro F252 A252 ⟨V252x, H252, hSQ, hHx, e252, bd252, k252⟩
      obtain ⟨V252, hS252, hH252, hgl252, hb252, hf252, hd252⟩ := ASH.step hA hgl233 hb233 hf233 hd233 ⟨_, hSQ, hHx⟩
      clear hSQ hHx
      have rv252 : ∀ k < 12, H252 (199 + 5 * k) = (lrn (A 2) bK bM tone) k ∧ bdc 51 ((lrn (A 2) bK bM tone) k) := fun k hk => ⟨(k252 _ (row_mem k hk) (by omega) (by omega) (by omega)).trans (rv233 k hk).1, (rv233 k hk).2⟩
      have lh252 : LH H252 := ⟨⟨(k252 122 (by decide) (by decide) (by decide) (by decide)).trans lh233.1.1, (k252 127 (by decide) (by decide) (by decide) (by decide)).trans lh233.1.2⟩, (k252 133 (by decide) (by decide) (by decide) (by decide)).trans lh233.2.1, (k252 138 (by decide) (by decide) (by decide) (by decide)).trans lh233.2.2⟩
      have h252_260 : H252 260 = dw := (k252 260 (by decide) (by decide) (by decide) (by decide)).trans h233_260
      have h252_265 : H252 265 = du := e252.trans e_du.symm
      rw [← e_du] at bd252
      refine x_aload_n (pc2 := 256) hC rfl rfl dX0_learned_255 rfl ?_
      refine x_aload (pc2 := 258) hC rfl dX0_learned_256 rfl ?_
      refine x_iconst (pc2 := 259) hC dX0_learned_258 rfl ?_
      refine x_iconst (pc2 := 260) hC dX0_learned_259 rfl ?_
      refine x_iconst (pc2 := 261) hC dX0_learned_260 rfl ?_
      refine x_cVv (pc2 := 264) (ci := 0) hC hK (m_det l hA hGG hS252 hH252 (into := 270) (r := (lrn (A 2) bK bM tone)) (x := 0) (y := 3) (w := 2) ⟨by decide, by decide, by decide⟩ (by decide) (by decide) (by decide) rv252) lk_679 rfl rfl (by decide) (by assumption) (by assumption) ⟨Nat.le_of_ble_eq_true rfl, Nat.le_of_ble_eq_true rfl⟩ ⟨Nat.le_refl _, Nat.le_refl _⟩ rfl (Nat.le_of_ble_eq_true rfl) dX0_learned_261 rfl ?_
      rintro F261 A261 ⟨V261x, H261, hSQ, hHx, e261, bd261, k261⟩
      obtain ⟨V261, hS261, hH261, hgl261, hb261, hf261, hd261⟩ := ASH.step hA hgl252 hb252 hf252 hd252 ⟨_, hSQ, hHx⟩
      clear hSQ hHx
      have rv261 : ∀ k < 12, H261 (199 + 5 * k) = (lrn (A 2) bK bM tone) k ∧ bdc 51 ((lrn (A 2) bK bM tone) k) := fun k hk => ⟨(k261 _ (row_mem k hk) (by omega) (by omega) (by omega)).trans (rv252 k hk).1, (rv252 k hk).2⟩
      have lh261 : LH H261 := ⟨⟨(k261 122 (by decide) (by decide) (by decide) (by decide)).trans lh252.1.1, (k261 127 (by decide) (by decide) (by decide) (by decide)).trans lh252.1.2⟩, (k261 133 (by decide) (by decide) (by decide) (by decide)).trans lh252.2.1, (k261 138 (by decide) (by decide) (by decide) (by decide)).trans lh252.2.2⟩
      have h261_260 : H261 260 = dw := (k261 260 (by decide) (by decide) (by decide) (by decide)).trans h252_260
      have h261_265 : H261 265 = du := (k261 265 (by decide) (by decide) (by decide) (by decide)).trans h252_265
      have h261_270 : H261 270 = dv := e261.trans e_dv.symm
      rw [← e_dv] at bd261
      refine x_aload_n (pc2 := 265) hC rfl rfl dX0_learned_264 rfl ?_
      refine x_aload (pc2 := 267) hC rfl dX0_learned_265 rfl ?_
      refine x_iconst (pc2 := 268) hC dX0_learned_267 rfl ?_
      refine x_iconst (pc2 := 269) hC dX0_learned_268 rfl ?_
      refine x_iconst (pc2 := 270) hC dX0_learned_269 rfl ?_
      refine x_cVv (pc2 := 273) (ci := 0) hC hK (m_det l hA hGG hS261 hH261 (into := 275) (r := (lrn (A 2) bK bM tone)) (x := 0) (y := 1) (w := 3) ⟨by decide, by decide, by decide⟩ (by decide) (by decide) (by decide) rv261) lk_679 rfl rfl (by decide) (by assumption) (by assumption) ⟨Nat.le_of_ble_eq_true rfl, Nat.le_of_ble_eq_true rfl⟩ ⟨Nat.le_refl _, Nat.le_refl _⟩ rfl (Nat.le_of_ble_eq_true rfl) dX0_learned_270 rfl ?_
      rintro F270 A270 ⟨V270x, H270, hSQ, hHx, e270, bd270, k270⟩
      obtain ⟨V270, hS270, hH270, hgl270, hb270, hf270, hd270⟩ := ASH.step hA hgl261 hb261 hf261 hd261 ⟨_, hSQ, hHx⟩
      clear hSQ hHx
      have rv270 : ∀ k < 12, H270 (199 + 5 * k) = (lrn (A 2) bK bM tone) k ∧ bdc 51 ((lrn (A 2) bK bM tone) k) := fun k hk => ⟨(k270 _ (row_mem k hk) (by omega) (by omega) (by omega)).trans (rv261 k hk).1, (rv261 k hk).2⟩
      have lh270 : LH H270 := ⟨⟨(k270 122 (by decide) (by decide) (by decide) (by decide)).trans lh261.1.1, (k270 127 (by decide) (by decide) (by decide) (by decide)).trans lh261.1.2⟩, (k270 133 (by decide) (by decide) (by decide) (by decide)).trans lh261.2.1, (k270 138 (by decide) (by decide) (by decide) (by decide)).trans lh261.2.2⟩
      have h270_260 : H270 260 = dw := (k270 260 (by decide) (by decide) (by decide) (by decide)).trans h261_260
      have h270_265 : H270 265 = du := (k270 265 (by decide) (by decide) (by decide) (by decide)).trans h261_265
      have h270_270 : H270 270 = dv := (k270 270 (by decide) (by decide) (by decide) (by decide)).trans h261_270
      have h270_275 : H270 275 = dz := e270.trans e_dz.symm
      rw [← e_dz] at bd270
      refine x_aload_n (pc2 := 274) hC rfl rfl dX0_learned_273 rfl ?_
      refine g_267 (pc2 := 277) hC hK (by assumption) (by assumption) (by assumption) dX0_learned_274 rfl ?_
      refine x_aload (pc2 := 279) hC rfl dX0_learned_277 rfl ?_
      refine x_aload (pc2 := 281) hC rfl dX0_learned_279 rfl ?_
      refine x_iload_n (pc2 := 282) hC rfl rfl dX0_learned_281 rfl ?_
      refine x_iconst (pc2 := 283) hC dX0_learned_282 rfl ?_
      refine x_cVv (pc2 := 286) (ci := 3) hC hK (y_draftH hA hGa hS270 hH270 hgl270 hb270 hf270 hd270 (x := 265) (u := 260) (by decide) (by decide) h270_265 h270_260 bd252 bd233 ⟨by decide, by decide⟩ ⟨by decide, by decide⟩ nzw ht ⟨by decide, by decide⟩ (by simp only [List.mem_cons, List.not_mem_nil, or_false, forall_eq_or_imp, forall_eq, false_imp_iff, implies_true] <;> omega)) lk_548 rfl rfl (by decide) (by assumption) (by assumption) ⟨Nat.le_of_ble_eq_true rfl, Nat.le_of_ble_eq_true rfl⟩ ⟨Nat.le_refl _, Nat.le_refl _⟩ rfl (Nat.le_of_ble_eq_true rfl) dX0_learned_283 rfl ?_
      rintro F283 A283 hq
      obtain ⟨V283, hS283, hH283, hgl283, hb283, hf283, hd283⟩ := id hq
      clear hq
      refine x_aload_n (pc2 := 287) hC rfl rfl dX0_learned_286 rfl ?_
      refine g_267 (pc2 := 290) hC hK (by assumption) (by assumption) (by assumption) dX0_learned_287 rfl ?_
      refine x_aload_n (pc2 := 291) hC rfl rfl dX0_learned_290 rfl ?_
      refine g_270 (pc2 := 294) hC hK (by assumption) (by assumption) (by assumption) dX0_learned_291 rfl ?_
      refine g_225 (pc2 := 297) hC hK (by assumption) (by assumption) (by assumption) dX0_learned_294 rfl ?_
      refine x_aload_n (pc2 := 298) hC rfl rfl dX0_learned_297 rfl ?_
      refine g_270 (pc2 := 301) hC hK (by assumption) (by assumption) (by assumption) dX0_learned_298 rfl ?_
      refine g_228 (pc2 := 304) hC hK (by assumption) (by assumption) (by assumption) dX0_learned_301 rfl ?_
      refine x_iload_n (pc2 := 305) hC rfl rfl dX0_learned_304 rfl ?_
      refine x_iconst (pc2 := 306) hC dX0_learned_305 rfl ?_
      refine x_cVv (pc2 := 309) (ci := 3) hC hK (y_draftH hA hGa hS283 hH283 hgl283 hb283 hf283 hd283 (x := 122) (u := 127) (by decide) (by decide) lh270.1.1 lh270.1.2 (a := 1) ⟨by unfold bd; decide, by unfold bd; decide⟩ (b := 1) ⟨by unfold bd; decide, by unfold bd; decide⟩ ⟨by decide, by decide⟩ ⟨by decide, by decide⟩ (by decide) ht ⟨by decide, by decide⟩ (by simp only [List.mem_cons, List.not_mem_nil, or_false, forall_eq_or_imp, forall_eq, false_imp_iff, implies_true] <;> omega)) lk_548 rfl rfl (by decide) (by assumption) (by assumption) ⟨Nat.le_of_ble_eq_true rfl, Nat.le_of_ble_eq_true rfl⟩ ⟨Nat.le_refl _, Nat.le_refl _⟩ rfl (Nat.le_of_ble_eq_true rfl) dX0_learned_306 rfl ?_
      rintro F306 A306 hq
      obtain ⟨V306, hS306, hH306, hgl306, hb306, hf306, hd306⟩ := id hq
      clear hq
      refine x_aload_n (pc2 := 310) hC rfl rfl dX0_learned_309 rfl ?_
      refine g_280 (pc2 := 313) hC hK (by assumption) (by assumption) (by assumption) dX0_learned_310 rfl ?_
      refine x_aload (pc2 := 315) hC rfl dX0_learned_313 rfl ?_
      refine x_aload (pc2 := 317) hC rfl dX0_learned_315 rfl ?_
      refine x_iconst (pc2 := 318) hC dX0_learned_317 rfl ?_
      refine x_cVv (pc2 := 321) (ci := 1) hC hK (h_product l hGa hsp hS306 hH306 (g := 285) (x := 270) (y := 260) (by decide) (by decide) (by decide) (by decide) (by decide) h270_270 h270_260 bd261 bd233 ⟨by decide, by decide⟩) lk_678 rfl rfl (by decide) (by assumption) (by assumption) ⟨Nat.le_of_ble_eq_true rfl, Nat.le_of_ble_eq_true rfl⟩ ⟨Nat.le_refl _, Nat.le_refl _⟩ rfl (Nat.le_of_ble_eq_true rfl) dX0_learned_318 rfl ?_
      rintro F318 A318 hq
      obtain ⟨V318, hS318, hH318, hgl318, hb318, hf318, hd318⟩ := ASH.step hA hgl306 hb306 hf306 hd306 hq
      clear hq
      have eA318 : A318 2 = A 2 := hf318.2 2 (by decide) n2
      refine x_aload_n (pc2 := 322) hC rfl rfl dX0_learned_321 rfl ?_
      refine g_279 (pc2 := 325) hC hK (by assumption) (by assumption) (by assumption) dX0_learned_322 rfl ?_
      refine x_aload (pc2 := 327) hC rfl dX0_learned_325 rfl ?_
      refine x_aload (pc2 := 329) hC rfl dX0_learned_327 rfl ?_
      refine x_iconst (pc2 := 330) hC dX0_learned_329 rfl ?_
      refine x_cVv (pc2 := 333) (ci := 1) hC hK (h_product l hGa hsp hS318 hH318 (g := 280) (x := 265) (y := 275) (by decide) (by decide) (by decide) (by decide) (by decide) ((upH_ne (by decide)).trans h270_265) ((upH_ne (by decide)).trans h270_275) bd252 bd270 ⟨by decide, by decide⟩) lk_678 rfl rfl (by decide) (by assumption) (by assumption) ⟨Nat.le_of_ble_eq_true rfl, Nat.le_of_ble_eq_true rfl⟩ ⟨Nat.le_refl _, Nat.le_refl _⟩ rfl (Nat.le_of_ble_eq_true rfl) dX0_learned_330 rfl ?_
      rintro F330 A330 hq
      obtain ⟨V330, hS330, hH330, hgl330, hb330, hf330, hd330⟩ := ASH.step hA hgl318 hb318 hf318 hd318 hq
      clear hq
      have eA330 : A330 2 = A 2 := hf330.2 2 (by decide) n2
      refine x_aload_n (pc2 := 334) hC rfl rfl dX0_learned_333 rfl ?_
      refine g_280 (pc2 := 337) hC hK (by assumption) (by assumption) (by assumption) dX0_learned_334 rfl ?_
      refine x_aload_n (pc2 := 338) hC rfl rfl dX0_learned_337 rfl ?_
      refine g_280 (pc2 := 341) hC hK (by assumption) (by assumption) (by assumption) dX0_learned_338 rfl ?_
      refine x_aload_n (pc2 := 342) hC rfl rfl dX0_learned_341 rfl ?_
      refine g_279 (pc2 := 345) hC hK (by assumption) (by assumption) (by assumption) dX0_learned_342 rfl ?_
      refine x_iconst (pc2 := 346) hC dX0_learned_345 rfl ?_
      refine x_cVv (pc2 := 349) (ci := 1) hC hK (h_sum l hGa hsp hS330 hH330 (g := 285) (x := 285) (y := 280) (by decide) (by decide) (by decide) (Or.inl rfl) ((upH_ne (by decide)).trans upH_eq) upH_eq (bdc_mul (c := 319) bd261 bd233 (by decide)) (bdc_mul (c := 319) bd252 bd270 (by decide)) ⟨by decide, by decide⟩) lk_684 rfl rfl (by decide) (by assumption) (by assumption) ⟨Nat.le_of_ble_eq_true rfl, Nat.le_of_ble_eq_true rfl⟩ ⟨Nat.le_refl _, Nat.le_refl _⟩ rfl (Nat.le_of_ble_eq_true rfl) dX0_learned_346 rfl ?_
      rintro F346 A346 hq
      obtain ⟨V346, hS346, hH346, hgl346, hb346, hf346, hd346⟩ := ASH.step hA hgl330 hb330 hf330 hd330 hq
      clear hq
      have eA346 : A346 2 = A 2 := hf346.2 2 (by decide) n2
      refine x_aload_n (pc2 := 350) hC rfl rfl dX0_learned_349 rfl ?_
      refine g_281 (pc2 := 353) hC hK (by assumption) (by assumption) (by assumption) dX0_learned_350 rfl ?_
      refine x_aload (pc2 := 355) hC rfl dX0_learned_353 rfl ?_
      refine x_aload (pc2 := 357) hC rfl dX0_learned_355 rfl ?_
      refine x_iconst (pc2 := 358) hC dX0_learned_357 rfl ?_
      refine x_cVv (pc2 := 361) (ci := 1) hC hK (h_product l hGa hsp hS346 hH346 (g := 290) (x := 260) (y := 260) (by decide) (by decide) (by decide) (by decide) (by decide) ((upH_ne (by decide)).trans ((upH_ne (by decide)).trans ((upH_ne (by decide)).trans h270_260))) ((upH_ne (by decide)).trans ((upH_ne (by decide)).trans ((upH_ne (by decide)).trans h270_260))) bd233 bd233 ⟨by decide, by decide⟩) lk_678 rfl rfl (by decide) (by assumption) (by assumption) ⟨Nat.le_of_ble_eq_true rfl, Nat.le_of_ble_eq_true rfl⟩ ⟨Nat.le_refl _, Nat.le_refl _⟩ rfl (Nat.le_of_ble_eq_true rfl) dX0_learned_358 rfl ?_
      rintro F358 A358 hq
      obtain ⟨V358, hS358, hH358, hgl358, hb358, hf358, hd358⟩ := ASH.step hA hgl346 hb346 hf346 hd346 hq
      clear hq
      have eA358 : A358 2 = A 2 := hf358.2 2 (by decide) n2
      refine x_aload_n (pc2 := 362) hC rfl rfl dX0_learned_361 rfl ?_
      refine g_267 (pc2 := 365) hC hK (by assumption) (by assumption) (by assumption) dX0_learned_362 rfl ?_
      refine x_aload_n (pc2 := 366) hC rfl rfl dX0_learned_365 rfl ?_
      refine g_280 (pc2 := 369) hC hK (by assumption) (by assumption) (by assumption) dX0_learned_366 rfl ?_
      refine x_aload_n (pc2 := 370) hC rfl rfl dX0_learned_369 rfl ?_
      refine g_281 (pc2 := 373) hC hK (by assumption) (by assumption) (by assumption) dX0_learned_370 rfl ?_
      refine x_iload_n (pc2 := 374) hC rfl rfl dX0_learned_373 rfl ?_
      refine x_iconst (pc2 := 375) hC dX0_learned_374 rfl ?_
      refine x_cVv (pc2 := 378) (ci := 3) hC hK (y_draftH hA hGa hS358 hH358 hgl358 hb358 hf358 hd358 (x := 285) (u := 290) (by decide) (by decide) ((upH_ne (by decide)).trans upH_eq) upH_eq (bdc_sgn (c := 320) (Or.inl rfl) (bdc_mul (c := 319) bd261 bd233 (by decide)) (bdc_mul (c := 319) bd252 bd270 (by decide)) (by decide) (by decide)) (bdc_mul (c := 319) bd233 bd233 (by decide)) ⟨by decide, by decide⟩ ⟨by decide, by decide⟩ (cmul_ne nzw nzw) ht ⟨by decide, by decide⟩ (by simp only [List.mem_cons, List.not_mem_nil, or_false, forall_eq_or_imp, forall_eq, false_imp_iff, implies_true] <;> omega)) lk_548 rfl rfl (by decide) (by assumption) (by assumption) ⟨Nat.le_of_ble_eq_true rfl, Nat.le_of_ble_eq_true rfl⟩ ⟨Nat.le_refl _, Nat.le_refl _⟩ rfl (Nat.le_of_ble_eq_true rfl) dX0_learned_375 rfl ?_
      rintro F375 A375 hq
      obtain ⟨V375, hS375, hH375, hgl375, hb375, hf375, hd375⟩ := id hq
      clear hq
      refine x_aload_n (pc2 := 379) hC rfl rfl dX0_learned_378 rfl ?_
      refine g_267 (pc2 := 382) hC hK (by assumption) (by assumption) (by assumption) dX0_learned_379 rfl ?_
      refine x_aload (pc2 := 384) hC rfl dX0_learned_382 rfl ?_
      refine x_aload (pc2 := 386) hC rfl dX0_learned_384 rfl ?_
      refine x_iload_n (pc2 := 387) hC rfl rfl dX0_learned_386 rfl ?_
      refine x_iconst (pc2 := 388) hC dX0_learned_387 rfl ?_
      refine x_cVv (pc2 := 391) (ci := 3) hC hK (y_draftH hA hGa hS375 hH375 hgl375 hb375 hf375 hd375 (x := 275) (u := 260) (by decide) (by decide) ((upH_ne (by decide)).trans ((upH_ne (by decide)).trans ((upH_ne (by decide)).trans ((upH_ne (by decide)).trans h270_275)))) ((upH_ne (by decide)).trans ((upH_ne (by decide)).trans ((upH_ne (by decide)).trans ((upH_ne (by decide)).trans h270_260)))) bd270 bd233 ⟨by decide, by decide⟩ ⟨by decide, by decide⟩ nzw ht ⟨by decide, by decide⟩ (by simp only [List.mem_cons, List.not_mem_nil, or_false, forall_eq_or_imp, forall_eq, false_imp_iff, implies_true] <;> omega)) lk_548 rfl rfl (by decide) (by assumption) (by assumption) ⟨Nat.le_of_ble_eq_true rfl, Nat.le_of_ble_eq_true rfl⟩ ⟨Nat.le_refl _, Nat.le_refl _⟩ rfl (Nat.le_of_ble_eq_true rfl) dX0_learned_388 rfl ?_
      rintro F388 A388 hq
      obtain ⟨V388, hS388, hH388, hgl388, hb388, hf388, hd388⟩ := id hq
      clear hq
      refine x_iconst (pc2 := 392) hC dX0_learned_391 rfl ?_
      exact x_iret hC hr hlk ⟨_, rfl, Or.inr ⟨rfl, by rw [← e_dw]; exact nzw, ASH.ae (H := upH (upH (upH (upH H270 285 _) 280 _) 285 _) 290 _) ⟨V388, hS388, hH388, hgl388, hb388, hf388, by
        rw [learnL, ← e_dw, ← e_du, ← e_dv, ← e_dz]; exact hd388⟩ ((((lh270.up (by decide) (by decide) (by decide) (by decide)).up (by decide) (by decide) (by decide) (by decide)).up (by decide) (by decide) (by decide) (by decide)).up (by decide) (by decide) (by decide) (by decide))⟩⟩ dX0_learned_392
    · refine x_iconst (pc2 := 245) hC dX0_learned_244 rfl ?_
      exact x_iret hC hr hlk ⟨_, rfl, Or.inl ⟨rfl, by rw [← e_dw]; assumption, ASH.ae ⟨V233, hS233, hH233, hgl233, hb233, hf233, hd233⟩ lh233⟩⟩ dX0_learned_245
  have loop : ∀ (d k : Nat) (F1 : Nat → Nat → Int) (A1 : Nat → Int → Int) {e5 e6 e7 : Option PV}, 3 - k < d → k ≤ 3 → (∃ V1 H1, (∀ j : Nat, j < 4 * k → H1 (199 + 5 * j) = (lrn (A 2) bK bM tone) j) ∧ LH H1 ∧ ST sh R N F1 A1 V1 ∧ HV V1 H1 ∧ (∃ g l, gl2 F1 g l) ∧ (F1 15 7 = 0 ∨ F1 15 7 = 1) ∧ FRa sh F A F1 A1 ∧ DrL (A1 3) (A 3) (F 15 7) (F1 15 7) []) → X p l e { frames := 6, cells := 0, slots := 0, locals := 165 } s m args below meth c (MQ below (QX D ids β sh N R (pIr (fun z F2 A2 => (z = 1 ∧ det3 (lrn (A 2) bK bM tone) 0 1 2 = (0, 0) ∧ AE sh R N F A [] F2 A2) ∨ (z = 0 ∧ det3 (lrn (A 2) bK bM tone) 0 1 2 ≠ (0, 0) ∧ AE sh R N F A (learnL (lrn (A 2) bK bM tone) tone) F2 A2)))) args s 0 0 (inG β N)) (inG β N) D ids β sh 8 0 0 N R F1 A1 [some (rf 7), some (pI tone), some (pI bK), some (pI bM), some (pI (k : Int)), e5, e6, e7] [] 3 := by
    intro d
    induction d with
    | zero => intro k F1 A1 e5 e6 e7 hd; omega
    | succ d ih =>
      intro k F1 A1 e5 e6 e7 hdd hk3 hq1
      obtain ⟨VI, HI, oldI, lhI, hSI, hHI, hglI, hbI, hfI, hdI⟩ := id hq1
      have eA0 : A1 2 = A 2 := hfI.2 2 (by decide) n2
      obtain ⟨K, eK⟩ : ∃ q, q = num (A 2) ((bK + (k : Int)) * 144 + tone * 36 + 0 * 9) := ⟨_, rfl⟩
      obtain ⟨M, eM⟩ : ∃ q, q = num (A 2) ((bM + (k : Int)) * 144 + tone * 36 + 0 * 9) := ⟨_, rfl⟩
      refine x_iload (pc2 := 5) hC rfl dX0_learned_3 rfl ?_
      refine x_iconst (pc2 := 6) hC dX0_learned_5 rfl ?_
      refine x_icmp_ge (tgt := 195) (pc2 := 9) hC (by omega) (by omega) dX0_learned_6 rfl rfl (fun h_6 => ?_) (fun h_6 => ?_)
      · obtain rfl : k = 3 := by omega
        exact fin F1 A1 hq1
      · have hk : k < 3 := by omega
        have rn0 := (hGa _ (row_mem (4 * k + 0) (by omega))).1
        have rs0 := (hGa _ (row_mem (4 * k + 0) (by omega))).2.1
        have rn1 := (hGa _ (row_mem (4 * k + 1) (by omega))).1
        have rs1 := (hGa _ (row_mem (4 * k + 1) (by omega))).2.1
        have rn2 := (hGa _ (row_mem (4 * k + 2) (by omega))).1
        have rs2 := (hGa _ (row_mem (4 * k + 2) (by omega))).2.1
        have rn3 := (hGa _ (row_mem (4 * k + 3) (by omega))).1
        have rs3 := (hGa _ (row_mem (4 * k + 3) (by omega))).2.1
        have oK := (hB (bK + k) tone 0 ⟨by omega, by omega⟩ ht ⟨by decide, by decide⟩).1
        have oM := (hB (bM + k) tone 0 ⟨by omega, by omega⟩ ht ⟨by decide, by decide⟩).1
        rw [← eK] at oK
        rw [← eM] at oM
        obtain ⟨bK1, bK2⟩ := oK
        obtain ⟨bM1, bM2⟩ := oM
        refine x_aload_n (pc2 := 10) hC rfl rfl dX0_learned_9 rfl ?_
        refine g_268 (pc2 := 13) hC hK (by assumption) (by assumption) (by assumption) dX0_learned_10 rfl ?_
        refine x_iconst (pc2 := 14) hC dX0_learned_13 rfl ?_
        refine x_aald (pc2 := 15) hC hK b1 b2 (by omega) (by decide) (b5 0 (by decide)) dX0_learned_14 rfl ?_
        refine x_aload_n (pc2 := 16) hC rfl rfl dX0_learned_15 rfl ?_
        refine g_266 (pc2 := 19) hC hK (by assumption) (by assumption) (by assumption) dX0_learned_16 rfl ?_
        refine g_94 (pc2 := 22) hC hK (by assumption) (by assumption) (by assumption) dX0_learned_19 rfl ?_
        refine x_iload_n (pc2 := 23) hC rfl rfl dX0_learned_22 rfl ?_
        refine x_iload (pc2 := 25) hC rfl dX0_learned_23 rfl ?_
        refine x_iadd (pc2 := 26) hC dX0_learned_25 rfl ?_
        refine x_iload_n (pc2 := 27) hC rfl rfl dX0_learned_26 rfl ?_
        refine x_iconst (pc2 := 28) hC dX0_learned_27 rfl ?_
        refine x_cNi (pc2 := 31) hC hK (m_place l) lk_477 rfl ⟨Nat.le_of_ble_eq_true rfl, Nat.le_of_ble_eq_true rfl⟩ ⟨Nat.le_refl _, Nat.le_refl _⟩ rfl (Nat.le_of_ble_eq_true rfl) dX0_learned_28 rfl ?_
        rintro z28 F28 A28 ⟨rfl, e128, e228⟩
        obtain rfl := e128.symm
        obtain rfl := e228.symm
        refine x_cVv (pc2 := 34) (ci := 4) hC hK (m_rload l hSI (hR 32 (by decide)) j3 j4 (by decide) (i := (bK + (k : Int)) * 144 + tone * 36 + 0 * 9) ⟨by omega, by omega⟩ (by decide) (by rw [eA0]; exact (hT.at (b := bK + k) ⟨by omega, by omega⟩ ht (e := 0) ⟨by decide, by decide⟩).1) (by rw [eA0]; exact (hT.at (b := bK + k) ⟨by omega, by omega⟩ ht (e := 0) ⟨by decide, by decide⟩).2.1) (by rw [eA0]; exact (hT.at (b := bK + k) ⟨by omega, by omega⟩ ht (e := 0) ⟨by decide, by decide⟩).2.2)) lk_478 rfl rfl (by decide) (by assumption) (by assumption) ⟨Nat.le_of_ble_eq_true rfl, Nat.le_of_ble_eq_true rfl⟩ ⟨Nat.le_refl _, Nat.le_refl _⟩ rfl (Nat.le_of_ble_eq_true rfl) dX0_learned_31 rfl ?_
        rintro F31 A31 hq
        obtain ⟨V31, hS31, hH31, hgl31, hb31, hf31, hd31⟩ := ASH.step hA hglI hbI hfI hdI (RQ.toH hq hHI (r := 32) (by decide))
        clear hq
        have eA31 : A31 2 = A 2 := hf31.2 2 (by decide) n2
        have hH31b : HV V31 (upH (upH HI 33 K.1) 38 K.2) := by rw [eA0] at hH31; rw [eK]; exact hH31
        clear hH31
        obtain ⟨H31, eH31⟩ : ∃ h, h = upH (upH HI 33 K.1) 38 K.2 := ⟨_, rfl⟩
        rw [← eH31] at hH31b
        refine x_aload_n (pc2 := 35) hC rfl rfl dX0_learned_34 rfl ?_
        refine g_269 (pc2 := 38) hC hK (by assumption) (by assumption) (by assumption) dX0_learned_35 rfl ?_
        refine x_iconst (pc2 := 39) hC dX0_learned_38 rfl ?_
        refine x_aald (pc2 := 40) hC hK b3 b4 (by omega) (by decide) (b6 0 (by decide)) dX0_learned_39 rfl ?_
        refine x_aload_n (pc2 := 41) hC rfl rfl dX0_learned_40 rfl ?_
        refine g_266 (pc2 := 44) hC hK (by assumption) (by assumption) (by assumption) dX0_learned_41 rfl ?_
        refine g_94 (pc2 := 47) hC hK (by assumption) (by assumption) (by assumption) dX0_learned_44 rfl ?_
        refine x_iload_n (pc2 := 48) hC rfl rfl dX0_learned_47 rfl ?_
        refine x_iload (pc2 := 50) hC rfl dX0_learned_48 rfl ?_
        refine x_iadd (pc2 := 51) hC dX0_learned_50 rfl ?_
        refine x_iload_n (pc2 := 52) hC rfl rfl dX0_learned_51 rfl ?_
        refine x_iconst (pc2 := 53) hC dX0_learned_52 rfl ?_
        refine x_cNi (pc2 := 56) hC hK (m_place l) lk_477 rfl ⟨Nat.le_of_ble_eq_true rfl, Nat.le_of_ble_eq_true rfl⟩ ⟨Nat.le_refl _, Nat.le_refl _⟩ rfl (Nat.le_of_ble_eq_true rfl) dX0_learned_53 rfl ?_
        rintro z53 F53 A53 ⟨rfl, e153, e253⟩
        obtain rfl := e153.symm
        obtain rfl := e253.symm
        refine x_cVv (pc2 := 59) (ci := 4) hC hK (m_rload l hS31 (hR 77 (by decide)) j3 j4 (by decide) (i := (bM + (k : Int)) * 144 + tone * 36 + 0 * 9) ⟨by omega, by omega⟩ (by decide) (by rw [eA31]; exact (hT.at (b := bM + k) ⟨by omega, by omega⟩ ht (e := 0) ⟨by decide, by decide⟩).1) (by rw [eA31]; exact (hT.at (b := bM + k) ⟨by omega, by omega⟩ ht (e := 0) ⟨by decide, by decide⟩).2.1) (by rw [eA31]; exact (hT.at (b := bM + k) ⟨by omega, by omega⟩ ht (e := 0) ⟨by decide, by decide⟩).2.2)) lk_478 rfl rfl (by decide) (by assumption) (by assumption) ⟨Nat.le_of_ble_eq_true rfl, Nat.le_of_ble_eq_true rfl⟩ ⟨Nat.le_refl _, Nat.le_refl _⟩ rfl (Nat.le_of_ble_eq_true rfl) dX0_learned_56 rfl ?_
        rintro F56 A56 hq
        obtain ⟨V56, hS56, hH56, hgl56, hb56, hf56, hd56⟩ := ASH.step hA hgl31 hb31 hf31 hd31 (RQ.toH hq hH31b (r := 77) (by decide))
        clear hq
        have eA56 : A56 2 = A 2 := hf56.2 2 (by decide) n2
        have hH56b : HV V56 (upH (upH H31 78 M.1) 83 M.2) := by rw [eA31] at hH56; rw [eM]; exact hH56
        clear hH56
        obtain ⟨H56, eH56⟩ : ∃ h, h = upH (upH H31 78 M.1) 83 M.2 := ⟨_, rfl⟩
        rw [← eH56] at hH56b
        have g33 : H56 33 = K.1 := by rw [eH56, upH_ne (by decide), upH_ne (by decide), eH31, upH_ne (by decide), upH_eq]
        have g38 : H56 38 = K.2 := by rw [eH56, upH_ne (by decide), upH_ne (by decide), eH31, upH_eq]
        have g78 : H56 78 = M.1 := by rw [eH56, upH_ne (by decide), upH_eq]
        have g83 : H56 83 = M.2 := by rw [eH56, upH_eq]
        have lh56 : LH H56 := by rw [eH56, eH31]; exact (((lhI.up (by decide) (by decide) (by decide) (by decide)).up (by decide) (by decide) (by decide) (by decide)).up (by decide) (by decide) (by decide) (by decide)).up (by decide) (by decide) (by decide) (by decide)
        have old56 : ∀ j : Nat, j < 4 * k → H56 (199 + 5 * j) = (lrn (A 2) bK bM tone) j := fun j hj => by
          rw [eH56, upH_ne (by omega), upH_ne (by omega), eH31, upH_ne (by omega), upH_ne (by omega)]; exact oldI j hj
        clear eH56 eH31
        refine x_aload_n (pc2 := 60) hC rfl rfl dX0_learned_59 rfl ?_
        refine g_277 (pc2 := 63) hC hK (by assumption) (by assumption) (by assumption) dX0_learned_60 rfl ?_
        refine x_iconst (pc2 := 64) hC dX0_learned_63 rfl ?_
        refine x_iload (pc2 := 66) hC rfl dX0_learned_64 rfl ?_
        refine x_imul (pc2 := 67) hC dX0_learned_66 rfl ?_
        refine x_aald (pc2 := 68) hC hK c5 c6 (by omega) (by decide) (by rw [show (4 * (k : Int)).toNat = 4 * k + 0 by omega]; exact c2 _ (by omega)) dX0_learned_67 rfl ?_
        refine x_aload_n (pc2 := 69) hC rfl rfl dX0_learned_68 rfl ?_
        refine g_268 (pc2 := 72) hC hK (by assumption) (by assumption) (by assumption) dX0_learned_69 rfl ?_
        refine x_iconst (pc2 := 73) hC dX0_learned_72 rfl ?_
        refine x_aald (pc2 := 74) hC hK b1 b2 (by omega) (by decide) (b5 0 (by decide)) dX0_learned_73 rfl ?_
        refine g_228 (pc2 := 77) hC hK (by assumption) (by assumption) (by assumption) dX0_learned_74 rfl ?_
        refine x_aload_n (pc2 := 78) hC rfl rfl dX0_learned_77 rfl ?_
        refine g_269 (pc2 := 81) hC hK (by assumption) (by assumption) (by assumption) dX0_learned_78 rfl ?_
        refine x_iconst (pc2 := 82) hC dX0_learned_81 rfl ?_
        refine x_aald (pc2 := 83) hC hK b3 b4 (by omega) (by decide) (b6 0 (by decide)) dX0_learned_82 rfl ?_
        refine g_228 (pc2 := 86) hC hK (by assumption) (by assumption) (by assumption) dX0_learned_83 rfl ?_
        refine x_iconst (pc2 := 87) hC dX0_learned_86 rfl ?_
        refine x_cVv (pc2 := 90) (ci := 1) hC hK (h_product l hGa hsp hS56 hH56b (g := 199 + 5 * (4 * k + 0)) (row_mem (4 * k + 0) (by omega)) (g_small 38 (by decide)).1 (g_small 83 (by decide)).1 (by omega) (by omega) g38 g83 bK2 bM2 ⟨by decide, by decide⟩) lk_678 rfl rfl (by decide) (by assumption) (by assumption) ⟨Nat.le_of_ble_eq_true rfl, Nat.le_of_ble_eq_true rfl⟩ ⟨Nat.le_refl _, Nat.le_refl _⟩ rfl (Nat.le_of_ble_eq_true rfl) dX0_learned_87 rfl ?_
        rintro F87 A87 hq
        obtain ⟨V87, hS87, hH87, hgl87, hb87, hf87, hd87⟩ := ASH.step hA hgl56 hb56 hf56 hd56 hq
        clear hq
        have eA87 : A87 2 = A 2 := hf87.2 2 (by decide) n2
        obtain ⟨H87, eH⟩ : ∃ h, h = upH H56 (199 + 5 * (4 * k + 0)) (cmul K.2 M.2) := ⟨_, rfl⟩
        have hH87b : HV V87 H87 := by rw [eH]; exact hH87
        clear hH87
        have g33_87 : H87 33 = K.1 := by rw [eH, upH_ne (by omega)]; exact g33
        have g38_87 : H87 38 = K.2 := by rw [eH, upH_ne (by omega)]; exact g38
        have g78_87 : H87 78 = M.1 := by rw [eH, upH_ne (by omega)]; exact g78
        have g83_87 : H87 83 = M.2 := by rw [eH, upH_ne (by omega)]; exact g83
        have lh87 : LH H87 := by rw [eH]; exact lh56.up (by omega) (by omega) (by omega) (by omega)
        have old87 : ∀ j : Nat, j < 4 * k + 1 → H87 (199 + 5 * j) = (lrn (A 2) bK bM tone) j := fun j hj => by
          by_cases q : j = 4 * k + 0
          · rw [eH, q, upH_eq, lrn_at rfl (by decide) eK.symm eM.symm]; rfl
          · rw [eH, upH_ne (by omega)]; exact old56 j (by omega)
        clear eH
        refine x_aload_n (pc2 := 91) hC rfl rfl dX0_learned_90 rfl ?_
        refine g_277 (pc2 := 94) hC hK (by assumption) (by assumption) (by assumption) dX0_learned_91 rfl ?_
        refine x_iconst (pc2 := 95) hC dX0_learned_94 rfl ?_
        refine x_iload (pc2 := 97) hC rfl dX0_learned_95 rfl ?_
        refine x_imul (pc2 := 98) hC dX0_learned_97 rfl ?_
        refine x_iconst (pc2 := 99) hC dX0_learned_98 rfl ?_
        refine x_iadd (pc2 := 100) hC dX0_learned_99 rfl ?_
        refine x_aald (pc2 := 101) hC hK c5 c6 (by omega) (by decide) (by rw [show (4 * (k : Int) + 1).toNat = 4 * k + 1 by omega]; exact c2 _ (by omega)) dX0_learned_100 rfl ?_
        refine x_aload_n (pc2 := 102) hC rfl rfl dX0_learned_101 rfl ?_
        refine g_268 (pc2 := 105) hC hK (by assumption) (by assumption) (by assumption) dX0_learned_102 rfl ?_
        refine x_iconst (pc2 := 106) hC dX0_learned_105 rfl ?_
        refine x_aald (pc2 := 107) hC hK b1 b2 (by omega) (by decide) (b5 0 (by decide)) dX0_learned_106 rfl ?_
        refine g_225 (pc2 := 110) hC hK (by assumption) (by assumption) (by assumption) dX0_learned_107 rfl ?_
        refine x_aload_n (pc2 := 111) hC rfl rfl dX0_learned_110 rfl ?_
        refine g_269 (pc2 := 114) hC hK (by assumption) (by assumption) (by assumption) dX0_learned_111 rfl ?_
        refine x_iconst (pc2 := 115) hC dX0_learned_114 rfl ?_
        refine x_aald (pc2 := 116) hC hK b3 b4 (by omega) (by decide) (b6 0 (by decide)) dX0_learned_115 rfl ?_
        refine g_228 (pc2 := 119) hC hK (by assumption) (by assumption) (by assumption) dX0_learned_116 rfl ?_
        refine x_iconst (pc2 := 120) hC dX0_learned_119 rfl ?_
        refine x_cVv (pc2 := 123) (ci := 1) hC hK (h_product l hGa hsp hS87 hH87b (g := 199 + 5 * (4 * k + 1)) (row_mem (4 * k + 1) (by omega)) (g_small 33 (by decide)).1 (g_small 83 (by decide)).1 (by omega) (by omega) g33_87 g83_87 bK1 bM2 ⟨by decide, by decide⟩) lk_678 rfl rfl (by decide) (by assumption) (by assumption) ⟨Nat.le_of_ble_eq_true rfl, Nat.le_of_ble_eq_true rfl⟩ ⟨Nat.le_refl _, Nat.le_refl _⟩ rfl (Nat.le_of_ble_eq_true rfl) dX0_learned_120 rfl ?_
        rintro F120 A120 hq
        obtain ⟨V120, hS120, hH120, hgl120, hb120, hf120, hd120⟩ := ASH.step hA hgl87 hb87 hf87 hd87 hq
        clear hq
        have eA120 : A120 2 = A 2 := hf120.2 2 (by decide) n2
        obtain ⟨H120, eH⟩ : ∃ h, h = upH H87 (199 + 5 * (4 * k + 1)) (cmul K.1 M.2) := ⟨_, rfl⟩
        have hH120b : HV V120 H120 := by rw [eH]; exact hH120
        clear hH120
        have g33_120 : H120 33 = K.1 := by rw [eH, upH_ne (by omega)]; exact g33_87
        have g38_120 : H120 38 = K.2 := by rw [eH, upH_ne (by omega)]; exact g38_87
        have g78_120 : H120 78 = M.1 := by rw [eH, upH_ne (by omega)]; exact g78_87
        have g83_120 : H120 83 = M.2 := by rw [eH, upH_ne (by omega)]; exact g83_87
        have lh120 : LH H120 := by rw [eH]; exact lh87.up (by omega) (by omega) (by omega) (by omega)
        have old120 : ∀ j : Nat, j < 4 * k + 2 → H120 (199 + 5 * j) = (lrn (A 2) bK bM tone) j := fun j hj => by
          by_cases q : j = 4 * k + 1
          · rw [eH, q, upH_eq, lrn_at rfl (by decide) eK.symm eM.symm]; rfl
          · rw [eH, upH_ne (by omega)]; exact old87 j (by omega)
        clear eH
        refine x_aload_n (pc2 := 124) hC rfl rfl dX0_learned_123 rfl ?_
        refine g_277 (pc2 := 127) hC hK (by assumption) (by assumption) (by assumption) dX0_learned_124 rfl ?_
        refine x_iconst (pc2 := 128) hC dX0_learned_127 rfl ?_
        refine x_iload (pc2 := 130) hC rfl dX0_learned_128 rfl ?_
        refine x_imul (pc2 := 131) hC dX0_learned_130 rfl ?_
        refine x_iconst (pc2 := 132) hC dX0_learned_131 rfl ?_
        refine x_iadd (pc2 := 133) hC dX0_learned_132 rfl ?_
        refine x_aald (pc2 := 134) hC hK c5 c6 (by omega) (by decide) (by rw [show (4 * (k : Int) + 2).toNat = 4 * k + 2 by omega]; exact c2 _ (by omega)) dX0_learned_133 rfl ?_
        refine x_aload_n (pc2 := 135) hC rfl rfl dX0_learned_134 rfl ?_
        refine g_268 (pc2 := 138) hC hK (by assumption) (by assumption) (by assumption) dX0_learned_135 rfl ?_
        refine x_iconst (pc2 := 139) hC dX0_learned_138 rfl ?_
        refine x_aald (pc2 := 140) hC hK b1 b2 (by omega) (by decide) (b5 0 (by decide)) dX0_learned_139 rfl ?_
        refine g_225 (pc2 := 143) hC hK (by assumption) (by assumption) (by assumption) dX0_learned_140 rfl ?_
        refine x_aload_n (pc2 := 144) hC rfl rfl dX0_learned_143 rfl ?_
        refine g_269 (pc2 := 147) hC hK (by assumption) (by assumption) (by assumption) dX0_learned_144 rfl ?_
        refine x_iconst (pc2 := 148) hC dX0_learned_147 rfl ?_
        refine x_aald (pc2 := 149) hC hK b3 b4 (by omega) (by decide) (b6 0 (by decide)) dX0_learned_148 rfl ?_
        refine g_225 (pc2 := 152) hC hK (by assumption) (by assumption) (by assumption) dX0_learned_149 rfl ?_
        refine x_iconst (pc2 := 153) hC dX0_learned_152 rfl ?_
        refine x_cVv (pc2 := 156) (ci := 1) hC hK (h_product l hGa hsp hS120 hH120b (g := 199 + 5 * (4 * k + 2)) (row_mem (4 * k + 2) (by omega)) (g_small 33 (by decide)).1 (g_small 78 (by decide)).1 (by omega) (by omega) g33_120 g78_120 bK1 bM1 ⟨by decide, by decide⟩) lk_678 rfl rfl (by decide) (by assumption) (by assumption) ⟨Nat.le_of_ble_eq_true rfl, Nat.le_of_ble_eq_true rfl⟩ ⟨Nat.le_refl _, Nat.le_refl _⟩ rfl (Nat.le_of_ble_eq_true rfl) dX0_learned_153 rfl ?_
        rintro F153 A153 hq
        obtain ⟨V153, hS153, hH153, hgl153, hb153, hf153, hd153⟩ := ASH.step hA hgl120 hb120 hf120 hd120 hq
        clear hq
        have eA153 : A153 2 = A 2 := hf153.2 2 (by decide) n2
        obtain ⟨H153, eH⟩ : ∃ h, h = upH H120 (199 + 5 * (4 * k + 2)) (cmul K.1 M.1) := ⟨_, rfl⟩
        have hH153b : HV V153 H153 := by rw [eH]; exact hH153
        clear hH153
        have g33_153 : H153 33 = K.1 := by rw [eH, upH_ne (by omega)]; exact g33_120
        have g38_153 : H153 38 = K.2 := by rw [eH, upH_ne (by omega)]; exact g38_120
        have g78_153 : H153 78 = M.1 := by rw [eH, upH_ne (by omega)]; exact g78_120
        have g83_153 : H153 83 = M.2 := by rw [eH, upH_ne (by omega)]; exact g83_120
        have lh153 : LH H153 := by rw [eH]; exact lh120.up (by omega) (by omega) (by omega) (by omega)
        have old153 : ∀ j : Nat, j < 4 * k + 3 → H153 (199 + 5 * j) = (lrn (A 2) bK bM tone) j := fun j hj => by
          by_cases q : j = 4 * k + 2
          · rw [eH, q, upH_eq, lrn_at rfl (by decide) eK.symm eM.symm]; rfl
          · rw [eH, upH_ne (by omega)]; exact old120 j (by omega)
        clear eH
        refine x_aload_n (pc2 := 157) hC rfl rfl dX0_learned_156 rfl ?_
        refine g_277 (pc2 := 160) hC hK (by assumption) (by assumption) (by assumption) dX0_learned_157 rfl ?_
        refine x_iconst (pc2 := 161) hC dX0_learned_160 rfl ?_
        refine x_iload (pc2 := 163) hC rfl dX0_learned_161 rfl ?_
        refine x_imul (pc2 := 164) hC dX0_learned_163 rfl ?_
        refine x_iconst (pc2 := 165) hC dX0_learned_164 rfl ?_
        refine x_iadd (pc2 := 166) hC dX0_learned_165 rfl ?_
        refine x_aald (pc2 := 167) hC hK c5 c6 (by omega) (by decide) (by rw [show (4 * (k : Int) + 3).toNat = 4 * k + 3 by omega]; exact c2 _ (by omega)) dX0_learned_166 rfl ?_
        refine x_aload_n (pc2 := 168) hC rfl rfl dX0_learned_167 rfl ?_
        refine g_269 (pc2 := 171) hC hK (by assumption) (by assumption) (by assumption) dX0_learned_168 rfl ?_
        refine x_iconst (pc2 := 172) hC dX0_learned_171 rfl ?_
        refine x_aald (pc2 := 173) hC hK b3 b4 (by omega) (by decide) (b6 0 (by decide)) dX0_learned_172 rfl ?_
        refine g_225 (pc2 := 176) hC hK (by assumption) (by assumption) (by assumption) dX0_learned_173 rfl ?_
        refine x_aload_n (pc2 := 177) hC rfl rfl dX0_learned_176 rfl ?_
        refine g_268 (pc2 := 180) hC hK (by assumption) (by assumption) (by assumption) dX0_learned_177 rfl ?_
        refine x_iconst (pc2 := 181) hC dX0_learned_180 rfl ?_
        refine x_aald (pc2 := 182) hC hK b1 b2 (by omega) (by decide) (b5 0 (by decide)) dX0_learned_181 rfl ?_
        refine g_228 (pc2 := 185) hC hK (by assumption) (by assumption) (by assumption) dX0_learned_182 rfl ?_
        refine x_iconst (pc2 := 186) hC dX0_learned_185 rfl ?_
        refine x_cVv (pc2 := 189) (ci := 1) hC hK (h_product l hGa hsp hS153 hH153b (g := 199 + 5 * (4 * k + 3)) (row_mem (4 * k + 3) (by omega)) (g_small 78 (by decide)).1 (g_small 38 (by decide)).1 (by omega) (by omega) g78_153 g38_153 bM1 bK2 ⟨by decide, by decide⟩) lk_678 rfl rfl (by decide) (by assumption) (by assumption) ⟨Nat.le_of_ble_eq_true rfl, Nat.le_of_ble_eq_true rfl⟩ ⟨Nat.le_refl _, Nat.le_refl _⟩ rfl (Nat.le_of_ble_eq_true rfl) dX0_learned_186 rfl ?_
        rintro F186 A186 hq
        obtain ⟨V186, hS186, hH186, hgl186, hb186, hf186, hd186⟩ := ASH.step hA hgl153 hb153 hf153 hd153 hq
        clear hq
        have eA186 : A186 2 = A 2 := hf186.2 2 (by decide) n2
        obtain ⟨H186, eH⟩ : ∃ h, h = upH H153 (199 + 5 * (4 * k + 3)) (cmul M.1 K.2) := ⟨_, rfl⟩
        have hH186b : HV V186 H186 := by rw [eH]; exact hH186
        clear hH186
        have g33_186 : H186 33 = K.1 := by rw [eH, upH_ne (by omega)]; exact g33_153
        have g38_186 : H186 38 = K.2 := by rw [eH, upH_ne (by omega)]; exact g38_153
        have g78_186 : H186 78 = M.1 := by rw [eH, upH_ne (by omega)]; exact g78_153
        have g83_186 : H186 83 = M.2 := by rw [eH, upH_ne (by omega)]; exact g83_153
        have lh186 : LH H186 := by rw [eH]; exact lh153.up (by omega) (by omega) (by omega) (by omega)
        have old186 : ∀ j : Nat, j < 4 * k + 4 → H186 (199 + 5 * j) = (lrn (A 2) bK bM tone) j := fun j hj => by
          by_cases q : j = 4 * k + 3
          · rw [eH, q, upH_eq, lrn_at rfl (by decide) eK.symm eM.symm]; rfl
          · rw [eH, upH_ne (by omega)]; exact old153 j (by omega)
        clear eH
        refine x_iinc (pc2 := 192) (loc2 := [_, _, _, _, _, _, _, _]) hC (by decide) rfl rfl dX0_learned_189 rfl ?_
        refine x_goto (pc2 := 3) hC dX0_learned_192 rfl ?_
        refine ih (k + 1) F186 A186 (by omega) (by omega) ⟨V186, H186, old186, lh186, hS186, hH186b, hgl186, hb186, hf186, hd186⟩
  refine x_iconst (pc2 := 1) hC dX0_learned_0 rfl ?_
  refine x_istore (pc2 := 3) (loc2 := [_, _, _, _, _, _, _, _]) hC (by decide) rfl dX0_learned_1 rfl ?_
  obtain ⟨VI0, q1, q2, q3⟩ := (⟨VI, hSI, hGI, hglI, hbI, hfI, hdI⟩ : AS sh R N F A G [] F A)
  refine loop 4 0 F A (by omega) (by omega) ⟨VI, fun g => cx VI g, fun j hj => by omega, ⟨⟨congrArg Prod.fst ((hGI 121 (by decide)).trans g121), congrArg Prod.snd ((hGI 121 (by decide)).trans g121)⟩, congrArg Prod.fst ((hGI 132 (by decide)).trans g132), congrArg Prod.snd ((hGI 132 (by decide)).trans g132)⟩, hSI, fun _ _ => rfl, hglI, hbI, hfI, hdI⟩
