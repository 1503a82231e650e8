/-- takenOff -/
def takeG (a b : Nat → QR) : QR := rsum (-1) (b 0) (a 0)
def takeF (a b : Nat → QR) : QR := rsum 1 (rmul (a 1) (a 2)) (rmul (a 3) (takeG a b))
def takeL (a b : Nat → QR) (tone e0 e1 e2 e3 : Int) : List (QR × Int) :=
  [(rsum (-1) (b 3) (rdiv (rmul (rmul (b 1) (b 2)) (a 3)) (takeF a b)), tone * 36 + e3 * 9), (rdiv (rmul (b 2) (a 1)) (takeF a b), tone * 36 + e2 * 9), (rdiv (rmul (b 1) (a 2)) (takeF a b), tone * 36 + e1 * 9), (rdiv (takeG a b) (takeF a b), tone * 36 + e0 * 9)]
theorem dX0_takenOff_0 : decode cX0_takenOff 0 = .ok (.aload_n 0, 1) := by decide +kernel
theorem dX0_takenOff_1 : decode cX0_takenOff 1 = .ok (.aload_n 0, 1) := by decide +kernel
theorem dX0_takenOff_2 : decode cX0_takenOff 2 = .ok (.getfield 44, 3) := by decide +kernel
theorem dX0_takenOff_5 : decode cX0_takenOff 5 = .ok (.iload_n 3, 1) := by decide +kernel
theorem dX0_takenOff_6 : decode cX0_takenOff 6 = .ok (.iload_n 1, 1) := by decide +kernel
theorem dX0_takenOff_7 : decode cX0_takenOff 7 = .ok (.iload 4, 2) := by decide +kernel
theorem dX0_takenOff_9 : decode cX0_takenOff 9 = .ok (.invokevirtual 120, 3) := by decide +kernel
theorem dX0_takenOff_12 : decode cX0_takenOff 12 = .ok (.aload_n 0, 1) := by decide +kernel
theorem dX0_takenOff_13 : decode cX0_takenOff 13 = .ok (.aload_n 0, 1) := by decide +kernel
theorem dX0_takenOff_14 : decode cX0_takenOff 14 = .ok (.getfield 48, 3) := by decide +kernel
theorem dX0_takenOff_17 : decode cX0_takenOff 17 = .ok (.iload_n 2, 1) := by decide +kernel
theorem dX0_takenOff_18 : decode cX0_takenOff 18 = .ok (.iload_n 1, 1) := by decide +kernel
theorem dX0_takenOff_19 : decode cX0_takenOff 19 = .ok (.iload 4, 2) := by decide +kernel
theorem dX0_takenOff_21 : decode cX0_takenOff 21 = .ok (.invokevirtual 120, 3) := by decide +kernel
theorem dX0_takenOff_24 : decode cX0_takenOff 24 = .ok (.aload_n 0, 1) := by decide +kernel
theorem dX0_takenOff_25 : decode cX0_takenOff 25 = .ok (.getfield 44, 3) := by decide +kernel
theorem dX0_takenOff_28 : decode cX0_takenOff 28 = .ok (.iconst 1, 1) := by decide +kernel
theorem dX0_takenOff_29 : decode cX0_takenOff 29 = .ok (.aaload, 1) := by decide +kernel
theorem dX0_takenOff_30 : decode cX0_takenOff 30 = .ok (.invokevirtual 132, 3) := by decide +kernel
theorem dX0_takenOff_33 : decode cX0_takenOff 33 = .ok (.ifCond .eq 5, 3) := by decide +kernel
theorem dX0_takenOff_36 : decode cX0_takenOff 36 = .ok (.iconst 1, 1) := by decide +kernel
theorem dX0_takenOff_37 : decode cX0_takenOff 37 = .ok (.ireturn, 1) := by decide +kernel
theorem dX0_takenOff_38 : decode cX0_takenOff 38 = .ok (.aload_n 0, 1) := by decide +kernel
theorem dX0_takenOff_39 : decode cX0_takenOff 39 = .ok (.getfield 44, 3) := by decide +kernel
theorem dX0_takenOff_42 : decode cX0_takenOff 42 = .ok (.iconst 2, 1) := by decide +kernel
theorem dX0_takenOff_43 : decode cX0_takenOff 43 = .ok (.aaload, 1) := by decide +kernel
theorem dX0_takenOff_44 : decode cX0_takenOff 44 = .ok (.invokevirtual 132, 3) := by decide +kernel
theorem dX0_takenOff_47 : decode cX0_takenOff 47 = .ok (.ifCond .eq 5, 3) := by decide +kernel
theorem dX0_takenOff_50 : decode cX0_takenOff 50 = .ok (.iconst 2, 1) := by decide +kernel
theorem dX0_takenOff_51 : decode cX0_takenOff 51 = .ok (.ireturn, 1) := by decide +kernel
theorem dX0_takenOff_52 : decode cX0_takenOff 52 = .ok (.aload_n 0, 1) := by decide +kernel
theorem dX0_takenOff_53 : decode cX0_takenOff 53 = .ok (.getfield 67, 3) := by decide +kernel
theorem dX0_takenOff_56 : decode cX0_takenOff 56 = .ok (.aload_n 0, 1) := by decide +kernel
theorem dX0_takenOff_57 : decode cX0_takenOff 57 = .ok (.getfield 48, 3) := by decide +kernel
theorem dX0_takenOff_60 : decode cX0_takenOff 60 = .ok (.iconst 0, 1) := by decide +kernel
theorem dX0_takenOff_61 : decode cX0_takenOff 61 = .ok (.aaload, 1) := by decide +kernel
theorem dX0_takenOff_62 : decode cX0_takenOff 62 = .ok (.aload_n 0, 1) := by decide +kernel
theorem dX0_takenOff_63 : decode cX0_takenOff 63 = .ok (.getfield 44, 3) := by decide +kernel
theorem dX0_takenOff_66 : decode cX0_takenOff 66 = .ok (.iconst 0, 1) := by decide +kernel
theorem dX0_takenOff_67 : decode cX0_takenOff 67 = .ok (.aaload, 1) := by decide +kernel
theorem dX0_takenOff_68 : decode cX0_takenOff 68 = .ok (.iconst (-1), 1) := by decide +kernel
theorem dX0_takenOff_69 : decode cX0_takenOff 69 = .ok (.invokevirtual 128, 3) := by decide +kernel
theorem dX0_takenOff_72 : decode cX0_takenOff 72 = .ok (.aload_n 0, 1) := by decide +kernel
theorem dX0_takenOff_73 : decode cX0_takenOff 73 = .ok (.getfield 70, 3) := by decide +kernel
theorem dX0_takenOff_76 : decode cX0_takenOff 76 = .ok (.aload_n 0, 1) := by decide +kernel
theorem dX0_takenOff_77 : decode cX0_takenOff 77 = .ok (.getfield 44, 3) := by decide +kernel
theorem dX0_takenOff_80 : decode cX0_takenOff 80 = .ok (.iconst 1, 1) := by decide +kernel
theorem dX0_takenOff_81 : decode cX0_takenOff 81 = .ok (.aaload, 1) := by decide +kernel
theorem dX0_takenOff_82 : decode cX0_takenOff 82 = .ok (.aload_n 0, 1) := by decide +kernel
theorem dX0_takenOff_83 : decode cX0_takenOff 83 = .ok (.getfield 44, 3) := by decide +kernel
theorem dX0_takenOff_86 : decode cX0_takenOff 86 = .ok (.iconst 2, 1) := by decide +kernel
theorem dX0_takenOff_87 : decode cX0_takenOff 87 = .ok (.aaload, 1) := by decide +kernel
theorem dX0_takenOff_88 : decode cX0_takenOff 88 = .ok (.invokevirtual 124, 3) := by decide +kernel
theorem dX0_takenOff_91 : decode cX0_takenOff 91 = .ok (.aload_n 0, 1) := by decide +kernel
theorem dX0_takenOff_92 : decode cX0_takenOff 92 = .ok (.getfield 73, 3) := by decide +kernel
theorem dX0_takenOff_95 : decode cX0_takenOff 95 = .ok (.aload_n 0, 1) := by decide +kernel
theorem dX0_takenOff_96 : decode cX0_takenOff 96 = .ok (.getfield 44, 3) := by decide +kernel
theorem dX0_takenOff_99 : decode cX0_takenOff 99 = .ok (.iconst 3, 1) := by decide +kernel
theorem dX0_takenOff_100 : decode cX0_takenOff 100 = .ok (.aaload, 1) := by decide +kernel
theorem dX0_takenOff_101 : decode cX0_takenOff 101 = .ok (.aload_n 0, 1) := by decide +kernel
theorem dX0_takenOff_102 : decode cX0_takenOff 102 = .ok (.getfield 67, 3) := by decide +kernel
theorem dX0_takenOff_105 : decode cX0_takenOff 105 = .ok (.invokevirtual 124, 3) := by decide +kernel
theorem dX0_takenOff_108 : decode cX0_takenOff 108 = .ok (.aload_n 0, 1) := by decide +kernel
theorem dX0_takenOff_109 : decode cX0_takenOff 109 = .ok (.getfield 64, 3) := by decide +kernel
theorem dX0_takenOff_112 : decode cX0_takenOff 112 = .ok (.aload_n 0, 1) := by decide +kernel
theorem dX0_takenOff_113 : decode cX0_takenOff 113 = .ok (.getfield 70, 3) := by decide +kernel
theorem dX0_takenOff_116 : decode cX0_takenOff 116 = .ok (.aload_n 0, 1) := by decide +kernel
theorem dX0_takenOff_117 : decode cX0_takenOff 117 = .ok (.getfield 73, 3) := by decide +kernel
theorem dX0_takenOff_120 : decode cX0_takenOff 120 = .ok (.iconst 1, 1) := by decide +kernel
theorem dX0_takenOff_121 : decode cX0_takenOff 121 = .ok (.invokevirtual 128, 3) := by decide +kernel
theorem dX0_takenOff_124 : decode cX0_takenOff 124 = .ok (.aload_n 0, 1) := by decide +kernel
theorem dX0_takenOff_125 : decode cX0_takenOff 125 = .ok (.getfield 64, 3) := by decide +kernel
theorem dX0_takenOff_128 : decode cX0_takenOff 128 = .ok (.invokevirtual 132, 3) := by decide +kernel
theorem dX0_takenOff_131 : decode cX0_takenOff 131 = .ok (.ifCond .eq 5, 3) := by decide +kernel
theorem dX0_takenOff_134 : decode cX0_takenOff 134 = .ok (.iconst 3, 1) := by decide +kernel
theorem dX0_takenOff_135 : decode cX0_takenOff 135 = .ok (.ireturn, 1) := by decide +kernel
theorem dX0_takenOff_136 : decode cX0_takenOff 136 = .ok (.aload_n 0, 1) := by decide +kernel
theorem dX0_takenOff_137 : decode cX0_takenOff 137 = .ok (.getfield 73, 3) := by decide +kernel
theorem dX0_takenOff_140 : decode cX0_takenOff 140 = .ok (.aload_n 0, 1) := by decide +kernel
theorem dX0_takenOff_141 : decode cX0_takenOff 141 = .ok (.getfield 67, 3) := by decide +kernel
theorem dX0_takenOff_144 : decode cX0_takenOff 144 = .ok (.aload_n 0, 1) := by decide +kernel
theorem dX0_takenOff_145 : decode cX0_takenOff 145 = .ok (.getfield 64, 3) := by decide +kernel
theorem dX0_takenOff_148 : decode cX0_takenOff 148 = .ok (.invokevirtual 136, 3) := by decide +kernel
theorem dX0_takenOff_151 : decode cX0_takenOff 151 = .ok (.aload_n 0, 1) := by decide +kernel
theorem dX0_takenOff_152 : decode cX0_takenOff 152 = .ok (.getfield 34, 3) := by decide +kernel
theorem dX0_takenOff_155 : decode cX0_takenOff 155 = .ok (.aload_n 0, 1) := by decide +kernel
theorem dX0_takenOff_156 : decode cX0_takenOff 156 = .ok (.getfield 73, 3) := by decide +kernel
theorem dX0_takenOff_159 : decode cX0_takenOff 159 = .ok (.getfield 139, 3) := by decide +kernel
theorem dX0_takenOff_162 : decode cX0_takenOff 162 = .ok (.aload_n 0, 1) := by decide +kernel
theorem dX0_takenOff_163 : decode cX0_takenOff 163 = .ok (.getfield 73, 3) := by decide +kernel
theorem dX0_takenOff_166 : decode cX0_takenOff 166 = .ok (.getfield 142, 3) := by decide +kernel
theorem dX0_takenOff_169 : decode cX0_takenOff 169 = .ok (.iload_n 1, 1) := by decide +kernel
theorem dX0_takenOff_170 : decode cX0_takenOff 170 = .ok (.iload 4, 2) := by decide +kernel
theorem dX0_takenOff_172 : decode cX0_takenOff 172 = .ok (.ifCond .eq 7, 3) := by decide +kernel
theorem dX0_takenOff_175 : decode cX0_takenOff 175 = .ok (.iconst 3, 1) := by decide +kernel
theorem dX0_takenOff_176 : decode cX0_takenOff 176 = .ok (.goto 4, 3) := by decide +kernel
theorem dX0_takenOff_179 : decode cX0_takenOff 179 = .ok (.iconst 0, 1) := by decide +kernel
theorem dX0_takenOff_180 : decode cX0_takenOff 180 = .ok (.invokevirtual 145, 3) := by decide +kernel
theorem dX0_takenOff_183 : decode cX0_takenOff 183 = .ok (.aload_n 0, 1) := by decide +kernel
theorem dX0_takenOff_184 : decode cX0_takenOff 184 = .ok (.getfield 70, 3) := by decide +kernel
theorem dX0_takenOff_187 : decode cX0_takenOff 187 = .ok (.aload_n 0, 1) := by decide +kernel
theorem dX0_takenOff_188 : decode cX0_takenOff 188 = .ok (.getfield 48, 3) := by decide +kernel
theorem dX0_takenOff_191 : decode cX0_takenOff 191 = .ok (.iconst 1, 1) := by decide +kernel
theorem dX0_takenOff_192 : decode cX0_takenOff 192 = .ok (.aaload, 1) := by decide +kernel
theorem dX0_takenOff_193 : decode cX0_takenOff 193 = .ok (.aload_n 0, 1) := by decide +kernel
theorem dX0_takenOff_194 : decode cX0_takenOff 194 = .ok (.getfield 44, 3) := by decide +kernel
theorem dX0_takenOff_197 : decode cX0_takenOff 197 = .ok (.iconst 2, 1) := by decide +kernel
theorem dX0_takenOff_198 : decode cX0_takenOff 198 = .ok (.aaload, 1) := by decide +kernel
theorem dX0_takenOff_199 : decode cX0_takenOff 199 = .ok (.invokevirtual 124, 3) := by decide +kernel
theorem dX0_takenOff_202 : decode cX0_takenOff 202 = .ok (.aload_n 0, 1) := by decide +kernel
theorem dX0_takenOff_203 : decode cX0_takenOff 203 = .ok (.getfield 73, 3) := by decide +kernel
theorem dX0_takenOff_206 : decode cX0_takenOff 206 = .ok (.aload_n 0, 1) := by decide +kernel
theorem dX0_takenOff_207 : decode cX0_takenOff 207 = .ok (.getfield 70, 3) := by decide +kernel
theorem dX0_takenOff_210 : decode cX0_takenOff 210 = .ok (.aload_n 0, 1) := by decide +kernel
theorem dX0_takenOff_211 : decode cX0_takenOff 211 = .ok (.getfield 64, 3) := by decide +kernel
theorem dX0_takenOff_214 : decode cX0_takenOff 214 = .ok (.invokevirtual 136, 3) := by decide +kernel
theorem dX0_takenOff_217 : decode cX0_takenOff 217 = .ok (.aload_n 0, 1) := by decide +kernel
theorem dX0_takenOff_218 : decode cX0_takenOff 218 = .ok (.getfield 34, 3) := by decide +kernel
theorem dX0_takenOff_221 : decode cX0_takenOff 221 = .ok (.aload_n 0, 1) := by decide +kernel
theorem dX0_takenOff_222 : decode cX0_takenOff 222 = .ok (.getfield 73, 3) := by decide +kernel
theorem dX0_takenOff_225 : decode cX0_takenOff 225 = .ok (.getfield 139, 3) := by decide +kernel
theorem dX0_takenOff_228 : decode cX0_takenOff 228 = .ok (.aload_n 0, 1) := by decide +kernel
theorem dX0_takenOff_229 : decode cX0_takenOff 229 = .ok (.getfield 73, 3) := by decide +kernel
theorem dX0_takenOff_232 : decode cX0_takenOff 232 = .ok (.getfield 142, 3) := by decide +kernel
theorem dX0_takenOff_235 : decode cX0_takenOff 235 = .ok (.iload_n 1, 1) := by decide +kernel
theorem dX0_takenOff_236 : decode cX0_takenOff 236 = .ok (.iload 4, 2) := by decide +kernel
theorem dX0_takenOff_238 : decode cX0_takenOff 238 = .ok (.ifCond .eq 7, 3) := by decide +kernel
theorem dX0_takenOff_241 : decode cX0_takenOff 241 = .ok (.iconst 2, 1) := by decide +kernel
theorem dX0_takenOff_242 : decode cX0_takenOff 242 = .ok (.goto 4, 3) := by decide +kernel
theorem dX0_takenOff_245 : decode cX0_takenOff 245 = .ok (.iconst 1, 1) := by decide +kernel
theorem dX0_takenOff_246 : decode cX0_takenOff 246 = .ok (.invokevirtual 145, 3) := by decide +kernel
theorem dX0_takenOff_249 : decode cX0_takenOff 249 = .ok (.aload_n 0, 1) := by decide +kernel
theorem dX0_takenOff_250 : decode cX0_takenOff 250 = .ok (.getfield 70, 3) := by decide +kernel
theorem dX0_takenOff_253 : decode cX0_takenOff 253 = .ok (.aload_n 0, 1) := by decide +kernel
theorem dX0_takenOff_254 : decode cX0_takenOff 254 = .ok (.getfield 48, 3) := by decide +kernel
theorem dX0_takenOff_257 : decode cX0_takenOff 257 = .ok (.iconst 2, 1) := by decide +kernel
theorem dX0_takenOff_258 : decode cX0_takenOff 258 = .ok (.aaload, 1) := by decide +kernel
theorem dX0_takenOff_259 : decode cX0_takenOff 259 = .ok (.aload_n 0, 1) := by decide +kernel
theorem dX0_takenOff_260 : decode cX0_takenOff 260 = .ok (.getfield 44, 3) := by decide +kernel
theorem dX0_takenOff_263 : decode cX0_takenOff 263 = .ok (.iconst 1, 1) := by decide +kernel
theorem dX0_takenOff_264 : decode cX0_takenOff 264 = .ok (.aaload, 1) := by decide +kernel
theorem dX0_takenOff_265 : decode cX0_takenOff 265 = .ok (.invokevirtual 124, 3) := by decide +kernel
theorem dX0_takenOff_268 : decode cX0_takenOff 268 = .ok (.aload_n 0, 1) := by decide +kernel
theorem dX0_takenOff_269 : decode cX0_takenOff 269 = .ok (.getfield 73, 3) := by decide +kernel
theorem dX0_takenOff_272 : decode cX0_takenOff 272 = .ok (.aload_n 0, 1) := by decide +kernel
theorem dX0_takenOff_273 : decode cX0_takenOff 273 = .ok (.getfield 70, 3) := by decide +kernel
theorem dX0_takenOff_276 : decode cX0_takenOff 276 = .ok (.aload_n 0, 1) := by decide +kernel
theorem dX0_takenOff_277 : decode cX0_takenOff 277 = .ok (.getfield 64, 3) := by decide +kernel
theorem dX0_takenOff_280 : decode cX0_takenOff 280 = .ok (.invokevirtual 136, 3) := by decide +kernel
theorem dX0_takenOff_283 : decode cX0_takenOff 283 = .ok (.aload_n 0, 1) := by decide +kernel
theorem dX0_takenOff_284 : decode cX0_takenOff 284 = .ok (.getfield 34, 3) := by decide +kernel
theorem dX0_takenOff_287 : decode cX0_takenOff 287 = .ok (.aload_n 0, 1) := by decide +kernel
theorem dX0_takenOff_288 : decode cX0_takenOff 288 = .ok (.getfield 73, 3) := by decide +kernel
theorem dX0_takenOff_291 : decode cX0_takenOff 291 = .ok (.getfield 139, 3) := by decide +kernel
theorem dX0_takenOff_294 : decode cX0_takenOff 294 = .ok (.aload_n 0, 1) := by decide +kernel
theorem dX0_takenOff_295 : decode cX0_takenOff 295 = .ok (.getfield 73, 3) := by decide +kernel
theorem dX0_takenOff_298 : decode cX0_takenOff 298 = .ok (.getfield 142, 3) := by decide +kernel
theorem dX0_takenOff_301 : decode cX0_takenOff 301 = .ok (.iload_n 1, 1) := by decide +kernel
theorem dX0_takenOff_302 : decode cX0_takenOff 302 = .ok (.iload 4, 2) := by decide +kernel
theorem dX0_takenOff_304 : decode cX0_takenOff 304 = .ok (.ifCond .eq 7, 3) := by decide +kernel
theorem dX0_takenOff_307 : decode cX0_takenOff 307 = .ok (.iconst 1, 1) := by decide +kernel
theorem dX0_takenOff_308 : decode cX0_takenOff 308 = .ok (.goto 4, 3) := by decide +kernel
theorem dX0_takenOff_311 : decode cX0_takenOff 311 = .ok (.iconst 2, 1) := by decide +kernel
theorem dX0_takenOff_312 : decode cX0_takenOff 312 = .ok (.invokevirtual 145, 3) := by decide +kernel
theorem dX0_takenOff_315 : decode cX0_takenOff 315 = .ok (.aload_n 0, 1) := by decide +kernel
theorem dX0_takenOff_316 : decode cX0_takenOff 316 = .ok (.getfield 70, 3) := by decide +kernel
theorem dX0_takenOff_319 : decode cX0_takenOff 319 = .ok (.aload_n 0, 1) := by decide +kernel
theorem dX0_takenOff_320 : decode cX0_takenOff 320 = .ok (.getfield 48, 3) := by decide +kernel
theorem dX0_takenOff_323 : decode cX0_takenOff 323 = .ok (.iconst 1, 1) := by decide +kernel
theorem dX0_takenOff_324 : decode cX0_takenOff 324 = .ok (.aaload, 1) := by decide +kernel
theorem dX0_takenOff_325 : decode cX0_takenOff 325 = .ok (.aload_n 0, 1) := by decide +kernel
theorem dX0_takenOff_326 : decode cX0_takenOff 326 = .ok (.getfield 48, 3) := by decide +kernel
theorem dX0_takenOff_329 : decode cX0_takenOff 329 = .ok (.iconst 2, 1) := by decide +kernel
theorem dX0_takenOff_330 : decode cX0_takenOff 330 = .ok (.aaload, 1) := by decide +kernel
theorem dX0_takenOff_331 : decode cX0_takenOff 331 = .ok (.invokevirtual 124, 3) := by decide +kernel
theorem dX0_takenOff_334 : decode cX0_takenOff 334 = .ok (.aload_n 0, 1) := by decide +kernel
theorem dX0_takenOff_335 : decode cX0_takenOff 335 = .ok (.getfield 73, 3) := by decide +kernel
theorem dX0_takenOff_338 : decode cX0_takenOff 338 = .ok (.aload_n 0, 1) := by decide +kernel
theorem dX0_takenOff_339 : decode cX0_takenOff 339 = .ok (.getfield 70, 3) := by decide +kernel
theorem dX0_takenOff_342 : decode cX0_takenOff 342 = .ok (.aload_n 0, 1) := by decide +kernel
theorem dX0_takenOff_343 : decode cX0_takenOff 343 = .ok (.getfield 44, 3) := by decide +kernel
theorem dX0_takenOff_346 : decode cX0_takenOff 346 = .ok (.iconst 3, 1) := by decide +kernel
theorem dX0_takenOff_347 : decode cX0_takenOff 347 = .ok (.aaload, 1) := by decide +kernel
theorem dX0_takenOff_348 : decode cX0_takenOff 348 = .ok (.invokevirtual 124, 3) := by decide +kernel
theorem dX0_takenOff_351 : decode cX0_takenOff 351 = .ok (.aload_n 0, 1) := by decide +kernel
theorem dX0_takenOff_352 : decode cX0_takenOff 352 = .ok (.getfield 70, 3) := by decide +kernel
theorem dX0_takenOff_355 : decode cX0_takenOff 355 = .ok (.aload_n 0, 1) := by decide +kernel
theorem dX0_takenOff_356 : decode cX0_takenOff 356 = .ok (.getfield 73, 3) := by decide +kernel
theorem dX0_takenOff_359 : decode cX0_takenOff 359 = .ok (.aload_n 0, 1) := by decide +kernel
theorem dX0_takenOff_360 : decode cX0_takenOff 360 = .ok (.getfield 64, 3) := by decide +kernel
theorem dX0_takenOff_363 : decode cX0_takenOff 363 = .ok (.invokevirtual 136, 3) := by decide +kernel
theorem dX0_takenOff_366 : decode cX0_takenOff 366 = .ok (.aload_n 0, 1) := by decide +kernel
theorem dX0_takenOff_367 : decode cX0_takenOff 367 = .ok (.getfield 73, 3) := by decide +kernel
theorem dX0_takenOff_370 : decode cX0_takenOff 370 = .ok (.aload_n 0, 1) := by decide +kernel
theorem dX0_takenOff_371 : decode cX0_takenOff 371 = .ok (.getfield 48, 3) := by decide +kernel
theorem dX0_takenOff_374 : decode cX0_takenOff 374 = .ok (.iconst 3, 1) := by decide +kernel
theorem dX0_takenOff_375 : decode cX0_takenOff 375 = .ok (.aaload, 1) := by decide +kernel
theorem dX0_takenOff_376 : decode cX0_takenOff 376 = .ok (.aload_n 0, 1) := by decide +kernel
theorem dX0_takenOff_377 : decode cX0_takenOff 377 = .ok (.getfield 70, 3) := by decide +kernel
theorem dX0_takenOff_380 : decode cX0_takenOff 380 = .ok (.iconst (-1), 1) := by decide +kernel
theorem dX0_takenOff_381 : decode cX0_takenOff 381 = .ok (.invokevirtual 128, 3) := by decide +kernel
theorem dX0_takenOff_384 : decode cX0_takenOff 384 = .ok (.aload_n 0, 1) := by decide +kernel
theorem dX0_takenOff_385 : decode cX0_takenOff 385 = .ok (.getfield 34, 3) := by decide +kernel
theorem dX0_takenOff_388 : decode cX0_takenOff 388 = .ok (.aload_n 0, 1) := by decide +kernel
theorem dX0_takenOff_389 : decode cX0_takenOff 389 = .ok (.getfield 73, 3) := by decide +kernel
theorem dX0_takenOff_392 : decode cX0_takenOff 392 = .ok (.getfield 139, 3) := by decide +kernel
theorem dX0_takenOff_395 : decode cX0_takenOff 395 = .ok (.aload_n 0, 1) := by decide +kernel
theorem dX0_takenOff_396 : decode cX0_takenOff 396 = .ok (.getfield 73, 3) := by decide +kernel
theorem dX0_takenOff_399 : decode cX0_takenOff 399 = .ok (.getfield 142, 3) := by decide +kernel
theorem dX0_takenOff_402 : decode cX0_takenOff 402 = .ok (.iload_n 1, 1) := by decide +kernel
theorem dX0_takenOff_403 : decode cX0_takenOff 403 = .ok (.iload 4, 2) := by decide +kernel
theorem dX0_takenOff_405 : decode cX0_takenOff 405 = .ok (.ifCond .eq 7, 3) := by decide +kernel
theorem dX0_takenOff_408 : decode cX0_takenOff 408 = .ok (.iconst 0, 1) := by decide +kernel
theorem dX0_takenOff_409 : decode cX0_takenOff 409 = .ok (.goto 4, 3) := by decide +kernel
theorem dX0_takenOff_412 : decode cX0_takenOff 412 = .ok (.iconst 3, 1) := by decide +kernel
theorem dX0_takenOff_413 : decode cX0_takenOff 413 = .ok (.invokevirtual 145, 3) := by decide +kernel
theorem dX0_takenOff_416 : decode cX0_takenOff 416 = .ok (.iconst 0, 1) := by decide +kernel
theorem dX0_takenOff_417 : decode cX0_takenOff 417 = .ok (.ireturn, 1) := by decide +kernel
set_option maxHeartbeats 32000000 in
theorem m_takenOff (l : Launch) {D : va_G} {ids : Nat → ClassId} {β : Nat} {sh : Nat → Nat × Nat} {N : Nat} {R : Nat → Nat → Option Nat} {F : Nat → Nat → Int} {A : Nat → Int → Int} {tone nb : Int} (hA : AcL sh R N) (hAE : AE sh R N F A [] F A) (hT : CK (A 2)) (hnb : nb ≤ 16) (hB : ∀ b t e : Int, 0 ≤ b ∧ b < nb → 0 ≤ t ∧ t < 4 → 0 ≤ e ∧ e < 4 → OKq 25 (num (A 2) (b * 144 + t * 36 + e * 9))) (ht : 0 ≤ tone ∧ tone < 4) {bA bB tn : Int} (hba0 : 0 ≤ bA ∧ bA < nb) (hbb0 : 0 ≤ bB ∧ bB < nb) (htn : tn = 0 ∨ tn = 1) : MetX l yX0_takenOff cX0_takenOff 5 (some (.int)) 6 165 D ids β sh N R F A [rf 7, pI tone, pI bB, pI bA, pI tn] (pIr (fun z F2 A2 => (z = 1 ∧ ((ldn (A 2) bA tone tn) 1).1 = (0, 0) ∧ AE sh R N F A [] F2 A2) ∨ (z = 2 ∧ ((ldn (A 2) bA tone tn) 1).1 ≠ (0, 0) ∧ ((ldn (A 2) bA tone tn) 2).1 = (0, 0) ∧ AE sh R N F A [] F2 A2) ∨ (z = 3 ∧ ((ldn (A 2) bA tone tn) 1).1 ≠ (0, 0) ∧ ((ldn (A 2) bA tone tn) 2).1 ≠ (0, 0) ∧ (takeF (ldn (A 2) bA tone tn) (ldn (A 2) bB tone tn)).1 = (0, 0) ∧ AE sh R N F A [] F2 A2) ∨ (z = 0 ∧ ((ldn (A 2) bA tone tn) 1).1 ≠ (0, 0) ∧ ((ldn (A 2) bA tone tn) 2).1 ≠ (0, 0) ∧ (takeF (ldn (A 2) bA tone tn) (ldn (A 2) bB tone tn)).1 ≠ (0, 0) ∧ AE sh R N F A (takeL (ldn (A 2) bA tone tn) (ldn (A 2) bB tone tn) tone (if tn = 0 then 0 else 3) (if tn = 0 then 1 else 2) (if tn = 0 then 2 else 1) (if tn = 0 then 3 else 0)) F2 A2))) := by
  refine MetX.of (loc := [_, _, _, _, _]) (plainFor_of_name (by decide +kernel)) (Nat.le_of_ble_eq_true rfl) rfl ?_
  intro p e s m args below meth c hC hK hr hlk
  obtain ⟨hL, hW, ⟨a1, a2⟩, ⟨f0, f1, f2, f3, f4, f5, f6, f7, f8, f9, f10⟩, ⟨f11, f12, f13, f14, f15⟩, ⟨⟨b1, b2⟩, ⟨b3, b4⟩, b5, b6⟩, hR, hsg⟩ := id hA
  obtain ⟨⟨j1, j2⟩, ⟨r0, r1, r2, r3, r4⟩, ⟨j3, j4⟩, ⟨j5, j6⟩, -⟩ := id hL
  have j15 := hW.1.1
  have j16 := hW.1.2.1
  obtain ⟨G, g121, g132, VI, hSI, hGI, hglI, hbI, hfI, hdI⟩ := id hAE
  have n2 : sh 2 ≠ (1, 80) := by rw [j4]; decide
  have o_oneq := ok_one
  have o_quartq := ok_quart
  have rt32 : 32 < N ∧ sh 32 = (0, 4) := ⟨(hR 32 (by decide)).1, (hR 32 (by decide)).2.1⟩
  have rt43 : 43 < N ∧ sh 43 = (0, 4) := ⟨(hR 43 (by decide)).1, (hR 43 (by decide)).2.1⟩
  have rt54 : 54 < N ∧ sh 54 = (0, 4) := ⟨(hR 54 (by decide)).1, (hR 54 (by decide)).2.1⟩
  have rt65 : 65 < N ∧ sh 65 = (0, 4) := ⟨(hR 65 (by decide)).1, (hR 65 (by decide)).2.1⟩
  have rt77 : 77 < N ∧ sh 77 = (0, 4) := ⟨(hR 77 (by decide)).1, (hR 77 (by decide)).2.1⟩
  have rt88 : 88 < N ∧ sh 88 = (0, 4) := ⟨(hR 88 (by decide)).1, (hR 88 (by decide)).2.1⟩
  have rt99 : 99 < N ∧ sh 99 = (0, 4) := ⟨(hR 99 (by decide)).1, (hR 99 (by decide)).2.1⟩
  have rt110 : 110 < N ∧ sh 110 = (0, 4) := ⟨(hR 110 (by decide)).1, (hR 110 (by decide)).2.1⟩
  have rt121 : 121 < N ∧ sh 121 = (0, 4) := ⟨(hR 121 (by decide)).1, (hR 121 (by decide)).2.1⟩
  have rt132 : 132 < N ∧ sh 132 = (0, 4) := ⟨(hR 132 (by decide)).1, (hR 132 (by decide)).2.1⟩
  have rt143 : 143 < N ∧ sh 143 = (0, 4) := ⟨(hR 143 (by decide)).1, (hR 143 (by decide)).2.1⟩
  have rt154 : 154 < N ∧ sh 154 = (0, 4) := ⟨(hR 154 (by decide)).1, (hR 154 (by decide)).2.1⟩
  have rt165 : 165 < N ∧ sh 165 = (0, 4) := ⟨(hR 165 (by decide)).1, (hR 165 (by decide)).2.1⟩
  have rt176 : 176 < N ∧ sh 176 = (0, 4) := ⟨(hR 176 (by decide)).1, (hR 176 (by decide)).2.1⟩
  have rt187 : 187 < N ∧ sh 187 = (0, 4) := ⟨(hR 187 (by decide)).1, (hR 187 (by decide)).2.1⟩
  obtain ⟨rn32, rs32⟩ := rt32
  have ro32 := (hR 32 (by decide)).2.2.1
  have ru32 := (hR 32 (by decide)).2.2.2.1
  obtain ⟨rn43, rs43⟩ := rt43
  have ro43 := (hR 43 (by decide)).2.2.1
  have ru43 := (hR 43 (by decide)).2.2.2.1
  obtain ⟨rn54, rs54⟩ := rt54
  have ro54 := (hR 54 (by decide)).2.2.1
  have ru54 := (hR 54 (by decide)).2.2.2.1
  obtain ⟨rn65, rs65⟩ := rt65
  have ro65 := (hR 65 (by decide)).2.2.1
  have ru65 := (hR 65 (by decide)).2.2.2.1
  obtain ⟨rn77, rs77⟩ := rt77
  have ro77 := (hR 77 (by decide)).2.2.1
  have ru77 := (hR 77 (by decide)).2.2.2.1
  obtain ⟨rn88, rs88⟩ := rt88
  have ro88 := (hR 88 (by decide)).2.2.1
  have ru88 := (hR 88 (by decide)).2.2.2.1
  obtain ⟨rn99, rs99⟩ := rt99
  have ro99 := (hR 99 (by decide)).2.2.1
  have ru99 := (hR 99 (by decide)).2.2.2.1
  obtain ⟨rn110, rs110⟩ := rt110
  have ro110 := (hR 110 (by decide)).2.2.1
  have ru110 := (hR 110 (by decide)).2.2.2.1
  obtain ⟨rn121, rs121⟩ := rt121
  have ro121 := (hR 121 (by decide)).2.2.1
  have ru121 := (hR 121 (by decide)).2.2.2.1
  obtain ⟨rn132, rs132⟩ := rt132
  have ro132 := (hR 132 (by decide)).2.2.1
  have ru132 := (hR 132 (by decide)).2.2.2.1
  obtain ⟨rn143, rs143⟩ := rt143
  have ro143 := (hR 143 (by decide)).2.2.1
  have ru143 := (hR 143 (by decide)).2.2.2.1
  obtain ⟨rn154, rs154⟩ := rt154
  have ro154 := (hR 154 (by decide)).2.2.1
  have ru154 := (hR 154 (by decide)).2.2.2.1
  obtain ⟨rn165, rs165⟩ := rt165
  have ro165 := (hR 165 (by decide)).2.2.1
  have ru165 := (hR 165 (by decide)).2.2.2.1
  obtain ⟨rn176, rs176⟩ := rt176
  have ro176 := (hR 176 (by decide)).2.2.1
  have ru176 := (hR 176 (by decide)).2.2.2.1
  obtain ⟨rn187, rs187⟩ := rt187
  have ro187 := (hR 187 (by decide)).2.2.1
  have ru187 := (hR 187 (by decide)).2.2.2.1
  have hba := up16 hba0 hnb
  have hbb := up16 hbb0 hnb
  rcases htn with rfl | rfl
  · refine x_aload_n (pc2 := 1) hC rfl rfl dX0_takenOff_0 rfl ?_
    refine x_aload_n (pc2 := 2) hC rfl rfl dX0_takenOff_1 rfl ?_
    refine g_268 (pc2 := 5) hC hK (by assumption) (by assumption) (by assumption) dX0_takenOff_2 rfl ?_
    refine x_iload_n (pc2 := 6) hC rfl rfl dX0_takenOff_5 rfl ?_
    refine x_iload_n (pc2 := 7) hC rfl rfl dX0_takenOff_6 rfl ?_
    refine x_iload (pc2 := 9) hC rfl dX0_takenOff_7 rfl ?_
    refine x_cVv (pc2 := 12) (ci := 0) hC hK (m_loadBox l hA hSI hGI (base := 32) (Or.inl ⟨rfl, rfl⟩) hT hba ht (Or.inl rfl)) lk_473 rfl rfl (by decide) (by assumption) (by assumption) ⟨Nat.le_of_ble_eq_true rfl, Nat.le_of_ble_eq_true rfl⟩ ⟨Nat.le_refl _, Nat.le_refl _⟩ rfl (Nat.le_of_ble_eq_true rfl) dX0_takenOff_9 rfl ?_
    rintro F9 A9 hq
    obtain ⟨V9, hS9, hG9, hgl9, hb9, hf9, hd9⟩ := AS.step hA hglI hbI hfI hdI hq
    clear hq
    have eA9 : A9 2 = A 2 := hf9.2 2 (by decide) n2
    refine x_aload_n (pc2 := 13) hC rfl rfl dX0_takenOff_12 rfl ?_
    refine x_aload_n (pc2 := 14) hC rfl rfl dX0_takenOff_13 rfl ?_
    refine g_269 (pc2 := 17) hC hK (by assumption) (by assumption) (by assumption) dX0_takenOff_14 rfl ?_
    refine x_iload_n (pc2 := 18) hC rfl rfl dX0_takenOff_17 rfl ?_
    refine x_iload_n (pc2 := 19) hC rfl rfl dX0_takenOff_18 rfl ?_
    refine x_iload (pc2 := 21) hC rfl dX0_takenOff_19 rfl ?_
    refine x_cVv (pc2 := 24) (ci := 0) hC hK (m_loadBox l hA hS9 hG9 (base := 77) (Or.inr ⟨rfl, rfl⟩) (by rw [eA9]; exact hT) hbb ht (Or.inl rfl)) lk_473 rfl rfl (by decide) (by assumption) (by assumption) ⟨Nat.le_of_ble_eq_true rfl, Nat.le_of_ble_eq_true rfl⟩ ⟨Nat.le_refl _, Nat.le_refl _⟩ rfl (Nat.le_of_ble_eq_true rfl) dX0_takenOff_21 rfl ?_
    rintro F21 A21 hq
    obtain ⟨V21, hS21, hG21, hgl21, hb21, hf21, hd21⟩ := AS.step hA hgl9 hb9 hf9 hd9 hq
    clear hq
    have eA21 : A21 2 = A 2 := hf21.2 2 (by decide) n2
    rw [eA9] at hG21
    obtain ⟨na, ena⟩ : ∃ n, n = (ldn (A 2) bA tone 0) := ⟨_, rfl⟩
    obtain ⟨nb, enb⟩ : ∃ n, n = (ldn (A 2) bB tone 0) := ⟨_, rfl⟩
    rw [← ena, ← enb] at hG21
    have oa := ldn_ok hB (tn := 0) hba0 ht
    have ob := ldn_ok hB (tn := 0) hbb0 ht
    rw [← ena] at oa
    rw [← enb] at ob
    obtain ⟨xa0, ea0⟩ : ∃ v, v = na 0 := ⟨_, rfl⟩
    obtain ⟨xb0, eb0⟩ : ∃ v, v = nb 0 := ⟨_, rfl⟩
    have o_xa0 := oa 0 (by decide)
    have o_xb0 := ob 0 (by decide)
    rw [← ea0] at o_xa0
    rw [← eb0] at o_xb0
    obtain ⟨xa1, ea1⟩ : ∃ v, v = na 1 := ⟨_, rfl⟩
    obtain ⟨xb1, eb1⟩ : ∃ v, v = nb 1 := ⟨_, rfl⟩
    have o_xa1 := oa 1 (by decide)
    have o_xb1 := ob 1 (by decide)
    rw [← ea1] at o_xa1
    rw [← eb1] at o_xb1
    obtain ⟨xa2, ea2⟩ : ∃ v, v = na 2 := ⟨_, rfl⟩
    obtain ⟨xb2, eb2⟩ : ∃ v, v = nb 2 := ⟨_, rfl⟩
    have o_xa2 := oa 2 (by decide)
    have o_xb2 := ob 2 (by decide)
    rw [← ea2] at o_xa2
    rw [← eb2] at o_xb2
    obtain ⟨xa3, ea3⟩ : ∃ v, v = na 3 := ⟨_, rfl⟩
    obtain ⟨xb3, eb3⟩ : ∃ v, v = nb 3 := ⟨_, rfl⟩
    have o_xa3 := oa 3 (by decide)
    have o_xb3 := ob 3 (by decide)
    rw [← ea3] at o_xa3
    rw [← eb3] at o_xb3
    obtain ⟨G21, eG⟩ : ∃ g, g = ldG (ldG G 32 na 4) 77 nb 4 := ⟨_, rfl⟩
    rw [← eG] at hG21
    have q21_32 : G21 32 = xa0 := by rw [eG, ea0]; rfl
    have q21_77 : G21 77 = xb0 := by rw [eG, eb0]; rfl
    have q21_43 : G21 43 = xa1 := by rw [eG, ea1]; rfl
    have q21_88 : G21 88 = xb1 := by rw [eG, eb1]; rfl
    have q21_54 : G21 54 = xa2 := by rw [eG, ea2]; rfl
    have q21_99 : G21 99 = xb2 := by rw [eG, eb2]; rfl
    have q21_65 : G21 65 = xa3 := by rw [eG, ea3]; rfl
    have q21_110 : G21 110 = xb3 := by rw [eG, eb3]; rfl
    have q21_121 : G21 121 = oneq := by rw [eG]; exact g121
    have q21_132 : G21 132 = quartq := by rw [eG]; exact g132
    clear eG
    refine x_aload_n (pc2 := 25) hC rfl rfl dX0_takenOff_24 rfl ?_
    refine g_268 (pc2 := 28) hC hK (by assumption) (by assumption) (by assumption) dX0_takenOff_25 rfl ?_
    refine x_iconst (pc2 := 29) hC dX0_takenOff_28 rfl ?_
    refine x_aald (pc2 := 30) hC hK b1 b2 (by omega) (by decide) (b5 1 (by decide)) dX0_takenOff_29 rfl ?_
    refine x_cVi (pc2 := 33) (ci := 4) hC hK (w_zero hA hS21 hG21 (r := 43) (by decide)) lk_536 rfl rfl (by decide) (by assumption) (by assumption) ⟨Nat.le_of_ble_eq_true rfl, Nat.le_of_ble_eq_true rfl⟩ ⟨Nat.le_refl _, Nat.le_refl _⟩ rfl (Nat.le_of_ble_eq_true rfl) dX0_takenOff_30 rfl ?_
    rintro z30 F30 A30 ⟨rfl, e130, e230⟩
    obtain rfl := e130.symm
    obtain rfl := e230.symm
    refine x_ifp_eq (tgt := 38) (pc2 := 36) hC dX0_takenOff_33 rfl rfl (fun h_33 => ?_) (fun h_33 => ?_)
    · have n1 : ((ldn (A 2) bA tone 0) 1).1 ≠ (0, 0) := by rw [← ena, ← ea1, ← q21_43]; assumption
      refine x_aload_n (pc2 := 39) hC rfl rfl dX0_takenOff_38 rfl ?_
      refine g_268 (pc2 := 42) hC hK (by assumption) (by assumption) (by assumption) dX0_takenOff_39 rfl ?_
      refine x_iconst (pc2 := 43) hC dX0_takenOff_42 rfl ?_
      refine x_aald (pc2 := 44) hC hK b1 b2 (by omega) (by decide) (b5 2 (by decide)) dX0_takenOff_43 rfl ?_
      refine x_cVi (pc2 := 47) (ci := 4) hC hK (w_zero hA hS21 hG21 (r := 54) (by decide)) lk_536 rfl rfl (by decide) (by assumption) (by assumption) ⟨Nat.le_of_ble_eq_true rfl, Nat.le_of_ble_eq_true rfl⟩ ⟨Nat.le_refl _, Nat.le_refl _⟩ rfl (Nat.le_of_ble_eq_true rfl) dX0_takenOff_44 rfl ?_
      rintro z44 F44 A44 ⟨rfl, e144, e244⟩
      obtain rfl := e144.symm
      obtain rfl := e244.symm
      refine x_ifp_eq (tgt := 52) (pc2 := 50) hC dX0_takenOff_47 rfl rfl (fun h_47 => ?_) (fun h_47 => ?_)
      · have n2b : ((ldn (A 2) bA tone 0) 2).1 ≠ (0, 0) := by rw [← ena, ← ea2, ← q21_54]; assumption
        refine x_aload_n (pc2 := 53) hC rfl rfl dX0_takenOff_52 rfl ?_
        refine g_274 (pc2 := 56) hC hK (by assumption) (by assumption) (by assumption) dX0_takenOff_53 rfl ?_
        refine x_aload_n (pc2 := 57) hC rfl rfl dX0_takenOff_56 rfl ?_
        refine g_269 (pc2 := 60) hC hK (by assumption) (by assumption) (by assumption) dX0_takenOff_57 rfl ?_
        refine x_iconst (pc2 := 61) hC dX0_takenOff_60 rfl ?_
        refine x_aald (pc2 := 62) hC hK b3 b4 (by omega) (by decide) (b6 0 (by decide)) dX0_takenOff_61 rfl ?_
        refine x_aload_n (pc2 := 63) hC rfl rfl dX0_takenOff_62 rfl ?_
        refine g_268 (pc2 := 66) hC hK (by assumption) (by assumption) (by assumption) dX0_takenOff_63 rfl ?_
        refine x_iconst (pc2 := 67) hC dX0_takenOff_66 rfl ?_
        refine x_aald (pc2 := 68) hC hK b1 b2 (by omega) (by decide) (b5 0 (by decide)) dX0_takenOff_67 rfl ?_
        refine x_iconst (pc2 := 69) hC dX0_takenOff_68 rfl ?_
        refine x_cVv (pc2 := 72) (ci := 4) hC hK (y_sum l hA hS21 hG21 (r := 165) (x := 77) (y := 32) (by decide) (by decide) (by decide) (by decide) (by decide) (Or.inr rfl) q21_77 q21_32 o_xb0 o_xa0 ⟨Nat.le_of_ble_eq_true rfl, Nat.le_of_ble_eq_true rfl⟩) lk_528 rfl rfl (by decide) (by assumption) (by assumption) ⟨Nat.le_of_ble_eq_true rfl, Nat.le_of_ble_eq_true rfl⟩ ⟨Nat.le_refl _, Nat.le_refl _⟩ rfl (Nat.le_of_ble_eq_true rfl) dX0_takenOff_69 rfl ?_
        rintro F69 A69 hq
        obtain ⟨V69, hS69, hG69, hgl69, hb69, hf69, hd69⟩ := AS.step hA hgl21 hb21 hf21 hd21 hq
        clear hq
        obtain ⟨v69, e_v69⟩ : ∃ v, v = rsum (-1) xb0 xa0 := ⟨_, rfl⟩
        have o_v69 : OKq 52 v69 := by rw [e_v69]; exact ok_sum  (Or.inr rfl) o_xb0 o_xa0 (Nat.le_of_ble_eq_true rfl)
        rw [← e_v69] at hG69
        obtain ⟨G69, eG⟩ : ∃ g, g = upG G21 165 v69 := ⟨_, rfl⟩
        rw [← eG] at hG69
        have q69_43 : G69 43 = xa1 := by rw [eG]; exact (upG_ne (by decide)).trans q21_43
        have q69_54 : G69 54 = xa2 := by rw [eG]; exact (upG_ne (by decide)).trans q21_54
        have q69_65 : G69 65 = xa3 := by rw [eG]; exact (upG_ne (by decide)).trans q21_65
        have q69_88 : G69 88 = xb1 := by rw [eG]; exact (upG_ne (by decide)).trans q21_88
        have q69_99 : G69 99 = xb2 := by rw [eG]; exact (upG_ne (by decide)).trans q21_99
        have q69_110 : G69 110 = xb3 := by rw [eG]; exact (upG_ne (by decide)).trans q21_110
        have q69_121 : G69 121 = oneq := by rw [eG]; exact (upG_ne (by decide)).trans q21_121
        have q69_132 : G69 132 = quartq := by rw [eG]; exact (upG_ne (by decide)).trans q21_132
        have q69_165 : G69 165 = v69 := by rw [eG]; exact upG_eq
        clear eG
        refine x_aload_n (pc2 := 73) hC rfl rfl dX0_takenOff_72 rfl ?_
        refine g_275 (pc2 := 76) hC hK (by assumption) (by assumption) (by assumption) dX0_takenOff_73 rfl ?_
        refine x_aload_n (pc2 := 77) hC rfl rfl dX0_takenOff_76 rfl ?_
        refine g_268 (pc2 := 80) hC hK (by assumption) (by assumption) (by assumption) dX0_takenOff_77 rfl ?_
        refine x_iconst (pc2 := 81) hC dX0_takenOff_80 rfl ?_
        refine x_aald (pc2 := 82) hC hK b1 b2 (by omega) (by decide) (b5 1 (by decide)) dX0_takenOff_81 rfl ?_
        refine x_aload_n (pc2 := 83) hC rfl rfl dX0_takenOff_82 rfl ?_
        refine g_268 (pc2 := 86) hC hK (by assumption) (by assumption) (by assumption) dX0_takenOff_83 rfl ?_
        refine x_iconst (pc2 := 87) hC dX0_takenOff_86 rfl ?_
        refine x_aald (pc2 := 88) hC hK b1 b2 (by omega) (by decide) (b5 2 (by decide)) dX0_takenOff_87 rfl ?_
        refine x_cVv (pc2 := 91) (ci := 4) hC hK (y_product l hA hS69 hG69 (r := 176) (x := 43) (y := 54) (by decide) (by decide) (by decide) (by decide) (by decide) q69_43 q69_54 o_xa1 o_xa2 ⟨Nat.le_of_ble_eq_true rfl, Nat.le_of_ble_eq_true rfl⟩) lk_488 rfl rfl (by decide) (by assumption) (by assumption) ⟨Nat.le_of_ble_eq_true rfl, Nat.le_of_ble_eq_true rfl⟩ ⟨Nat.le_refl _, Nat.le_refl _⟩ rfl (Nat.le_of_ble_eq_true rfl) dX0_takenOff_88 rfl ?_
        rintro F88 A88 hq
        obtain ⟨V88, hS88, hG88, hgl88, hb88, hf88, hd88⟩ := AS.step hA hgl69 hb69 hf69 hd69 hq
        clear hq
        obtain ⟨v88, e_v88⟩ : ∃ v, v = rmul xa1 xa2 := ⟨_, rfl⟩
        have o_v88 : OKq 51 v88 := by rw [e_v88]; exact ok_mul o_xa1 o_xa2 (Nat.le_of_ble_eq_true rfl)
        rw [← e_v88] at hG88
        obtain ⟨G88, eG⟩ : ∃ g, g = upG G69 176 v88 := ⟨_, rfl⟩
        rw [← eG] at hG88
        have q88_43 : G88 43 = xa1 := by rw [eG]; exact (upG_ne (by decide)).trans q69_43
        have q88_54 : G88 54 = xa2 := by rw [eG]; exact (upG_ne (by decide)).trans q69_54
        have q88_65 : G88 65 = xa3 := by rw [eG]; exact (upG_ne (by decide)).trans q69_65
        have q88_88 : G88 88 = xb1 := by rw [eG]; exact (upG_ne (by decide)).trans q69_88
        have q88_99 : G88 99 = xb2 := by rw [eG]; exact (upG_ne (by decide)).trans q69_99
        have q88_110 : G88 110 = xb3 := by rw [eG]; exact (upG_ne (by decide)).trans q69_110
        have q88_121 : G88 121 = oneq := by rw [eG]; exact (upG_ne (by decide)).trans q69_121
        have q88_132 : G88 132 = quartq := by rw [eG]; exact (upG_ne (by decide)).trans q69_132
        have q88_165 : G88 165 = v69 := by rw [eG]; exact (upG_ne (by decide)).trans q69_165
        have q88_176 : G88 176 = v88 := by rw [eG]; exact upG_eq
        clear eG
        refine x_aload_n (pc2 := 92) hC rfl rfl dX0_takenOff_91 rfl ?_
        refine g_276 (pc2 := 95) hC hK (by assumption) (by assumption) (by assumption) dX0_takenOff_92 rfl ?_
        refine x_aload_n (pc2 := 96) hC rfl rfl dX0_takenOff_95 rfl ?_
        refine g_268 (pc2 := 99) hC hK (by assumption) (by assumption) (by assumption) dX0_takenOff_96 rfl ?_
        refine x_iconst (pc2 := 100) hC dX0_takenOff_99 rfl ?_
        refine x_aald (pc2 := 101) hC hK b1 b2 (by omega) (by decide) (b5 3 (by decide)) dX0_takenOff_100 rfl ?_
        refine x_aload_n (pc2 := 102) hC rfl rfl dX0_takenOff_101 rfl ?_
        refine g_274 (pc2 := 105) hC hK (by assumption) (by assumption) (by assumption) dX0_takenOff_102 rfl ?_
        refine x_cVv (pc2 := 108) (ci := 4) hC hK (y_product l hA hS88 hG88 (r := 187) (x := 65) (y := 165) (by decide) (by decide) (by decide) (by decide) (by decide) q88_65 q88_165 o_xa3 o_v69 ⟨Nat.le_of_ble_eq_true rfl, Nat.le_of_ble_eq_true rfl⟩) lk_488 rfl rfl (by decide) (by assumption) (by assumption) ⟨Nat.le_of_ble_eq_true rfl, Nat.le_of_ble_eq_true rfl⟩ ⟨Nat.le_refl _, Nat.le_refl _⟩ rfl (Nat.le_of_ble_eq_true rfl) dX0_takenOff_105 rfl ?_
        rintro F105 A105 hq
        obtain ⟨V105, hS105, hG105, hgl105, hb105, hf105, hd105⟩ := AS.step hA hgl88 hb88 hf88 hd88 hq
        clear hq
        obtain ⟨v105, e_v105⟩ : ∃ v, v = rmul xa3 v69 := ⟨_, rfl⟩
        have o_v105 : OKq 78 v105 := by rw [e_v105]; exact ok_mul o_xa3 o_v69 (Nat.le_of_ble_eq_true rfl)
        rw [← e_v105] at hG105
        obtain ⟨G105, eG⟩ : ∃ g, g = upG G88 187 v105 := ⟨_, rfl⟩
        rw [← eG] at hG105
        have q105_43 : G105 43 = xa1 := by rw [eG]; exact (upG_ne (by decide)).trans q88_43
        have q105_54 : G105 54 = xa2 := by rw [eG]; exact (upG_ne (by decide)).trans q88_54
        have q105_65 : G105 65 = xa3 := by rw [eG]; exact (upG_ne (by decide)).trans q88_65
        have q105_88 : G105 88 = xb1 := by rw [eG]; exact (upG_ne (by decide)).trans q88_88
        have q105_99 : G105 99 = xb2 := by rw [eG]; exact (upG_ne (by decide)).trans q88_99
        have q105_110 : G105 110 = xb3 := by rw [eG]; exact (upG_ne (by decide)).trans q88_110
        have q105_121 : G105 121 = oneq := by rw [eG]; exact (upG_ne (by decide)).trans q88_121
        have q105_132 : G105 132 = quartq := by rw [eG]; exact (upG_ne (by decide)).trans q88_132
        have q105_165 : G105 165 = v69 := by rw [eG]; exact (upG_ne (by decide)).trans q88_165
        have q105_176 : G105 176 = v88 := by rw [eG]; exact (upG_ne (by decide)).trans q88_176
        have q105_187 : G105 187 = v105 := by rw [eG]; exact upG_eq
        clear eG
        refine x_aload_n (pc2 := 109) hC rfl rfl dX0_takenOff_108 rfl ?_
        refine g_273 (pc2 := 112) hC hK (by assumption) (by assumption) (by assumption) dX0_takenOff_109 rfl ?_
        refine x_aload_n (pc2 := 113) hC rfl rfl dX0_takenOff_112 rfl ?_
        refine g_275 (pc2 := 116) hC hK (by assumption) (by assumption) (by assumption) dX0_takenOff_113 rfl ?_
        refine x_aload_n (pc2 := 117) hC rfl rfl dX0_takenOff_116 rfl ?_
        refine g_276 (pc2 := 120) hC hK (by assumption) (by assumption) (by assumption) dX0_takenOff_117 rfl ?_
        refine x_iconst (pc2 := 121) hC dX0_takenOff_120 rfl ?_
        refine x_cVv (pc2 := 124) (ci := 4) hC hK (y_sum l hA hS105 hG105 (r := 154) (x := 176) (y := 187) (by decide) (by decide) (by decide) (by decide) (by decide) (Or.inl rfl) q105_176 q105_187 o_v88 o_v105 ⟨Nat.le_of_ble_eq_true rfl, Nat.le_of_ble_eq_true rfl⟩) lk_528 rfl rfl (by decide) (by assumption) (by assumption) ⟨Nat.le_of_ble_eq_true rfl, Nat.le_of_ble_eq_true rfl⟩ ⟨Nat.le_refl _, Nat.le_refl _⟩ rfl (Nat.le_of_ble_eq_true rfl) dX0_takenOff_121 rfl ?_
        rintro F121 A121 hq
        obtain ⟨V121, hS121, hG121, hgl121, hb121, hf121, hd121⟩ := AS.step hA hgl105 hb105 hf105 hd105 hq
        clear hq
        obtain ⟨v121, e_v121⟩ : ∃ v, v = rsum (1) v88 v105 := ⟨_, rfl⟩
        have o_v121 : OKq 131 v121 := by rw [e_v121]; exact ok_sum  (Or.inl rfl) o_v88 o_v105 (Nat.le_of_ble_eq_true rfl)
        rw [← e_v121] at hG121
        obtain ⟨G121, eG⟩ : ∃ g, g = upG G105 154 v121 := ⟨_, rfl⟩
        rw [← eG] at hG121
        have q121_43 : G121 43 = xa1 := by rw [eG]; exact (upG_ne (by decide)).trans q105_43
        have q121_54 : G121 54 = xa2 := by rw [eG]; exact (upG_ne (by decide)).trans q105_54
        have q121_65 : G121 65 = xa3 := by rw [eG]; exact (upG_ne (by decide)).trans q105_65
        have q121_88 : G121 88 = xb1 := by rw [eG]; exact (upG_ne (by decide)).trans q105_88
        have q121_99 : G121 99 = xb2 := by rw [eG]; exact (upG_ne (by decide)).trans q105_99
        have q121_110 : G121 110 = xb3 := by rw [eG]; exact (upG_ne (by decide)).trans q105_110
        have q121_121 : G121 121 = oneq := by rw [eG]; exact (upG_ne (by decide)).trans q105_121
        have q121_132 : G121 132 = quartq := by rw [eG]; exact (upG_ne (by decide)).trans q105_132
        have q121_154 : G121 154 = v121 := by rw [eG]; exact upG_eq
        have q121_165 : G121 165 = v69 := by rw [eG]; exact (upG_ne (by decide)).trans q105_165
        clear eG
        refine x_aload_n (pc2 := 125) hC rfl rfl dX0_takenOff_124 rfl ?_
        refine g_273 (pc2 := 128) hC hK (by assumption) (by assumption) (by assumption) dX0_takenOff_125 rfl ?_
        refine x_cVi (pc2 := 131) (ci := 4) hC hK (w_zero hA hS121 hG121 (r := 154) (by decide)) lk_536 rfl rfl (by decide) (by assumption) (by assumption) ⟨Nat.le_of_ble_eq_true rfl, Nat.le_of_ble_eq_true rfl⟩ ⟨Nat.le_refl _, Nat.le_refl _⟩ rfl (Nat.le_of_ble_eq_true rfl) dX0_takenOff_128 rfl ?_
        rintro z128 F128 A128 ⟨rfl, e1128, e2128⟩
        obtain rfl := e1128.symm
        obtain rfl := e2128.symm
        refine x_ifp_eq (tgt := 136) (pc2 := 134) hC dX0_takenOff_131 rfl rfl (fun h_131 => ?_) (fun h_131 => ?_)
        · have nz_v121 : v121.1 ≠ (0, 0) := by rw [← q121_154]; assumption
          have n3b : (takeF (ldn (A 2) bA tone 0) (ldn (A 2) bB tone 0)).1 ≠ (0, 0) := by
            rw [takeF, takeG, ← ena, ← enb, ← ea0, ← ea1, ← ea2, ← ea3, ← eb0, ← e_v69, ← e_v88, ← e_v105, ← e_v121]; exact nz_v121
          refine x_aload_n (pc2 := 137) hC rfl rfl dX0_takenOff_136 rfl ?_
          refine g_276 (pc2 := 140) hC hK (by assumption) (by assumption) (by assumption) dX0_takenOff_137 rfl ?_
          refine x_aload_n (pc2 := 141) hC rfl rfl dX0_takenOff_140 rfl ?_
          refine g_274 (pc2 := 144) hC hK (by assumption) (by assumption) (by assumption) dX0_takenOff_141 rfl ?_
          refine x_aload_n (pc2 := 145) hC rfl rfl dX0_takenOff_144 rfl ?_
          refine g_273 (pc2 := 148) hC hK (by assumption) (by assumption) (by assumption) dX0_takenOff_145 rfl ?_
          refine x_cVv (pc2 := 151) (ci := 4) hC hK (y_quotient l hA hS121 hG121 (r := 187) (x := 165) (y := 154) (by decide) (by decide) (by decide) (by decide) (by decide) q121_165 q121_154 o_v69 o_v121 ⟨Nat.le_of_ble_eq_true rfl, Nat.le_of_ble_eq_true rfl⟩) lk_544 rfl rfl (by decide) (by assumption) (by assumption) ⟨Nat.le_of_ble_eq_true rfl, Nat.le_of_ble_eq_true rfl⟩ ⟨Nat.le_refl _, Nat.le_refl _⟩ rfl (Nat.le_of_ble_eq_true rfl) dX0_takenOff_148 rfl ?_
          rintro F148 A148 hq
          obtain ⟨V148, hS148, hG148, hgl148, hb148, hf148, hd148⟩ := AS.step hA hgl121 hb121 hf121 hd121 hq
          clear hq
          obtain ⟨v148, e_v148⟩ : ∃ v, v = rdiv v69 v121 := ⟨_, rfl⟩
          have o_v148 : OKq 184 v148 := by rw [e_v148]; exact ok_div o_v69 o_v121 nz_v121 (Nat.le_of_ble_eq_true rfl)
          rw [← e_v148] at hG148
          obtain ⟨G148, eG⟩ : ∃ g, g = upG G121 187 v148 := ⟨_, rfl⟩
          rw [← eG] at hG148
          have q148_43 : G148 43 = xa1 := by rw [eG]; exact (upG_ne (by decide)).trans q121_43
          have q148_54 : G148 54 = xa2 := by rw [eG]; exact (upG_ne (by decide)).trans q121_54
          have q148_65 : G148 65 = xa3 := by rw [eG]; exact (upG_ne (by decide)).trans q121_65
          have q148_88 : G148 88 = xb1 := by rw [eG]; exact (upG_ne (by decide)).trans q121_88
          have q148_99 : G148 99 = xb2 := by rw [eG]; exact (upG_ne (by decide)).trans q121_99
          have q148_110 : G148 110 = xb3 := by rw [eG]; exact (upG_ne (by decide)).trans q121_110
          have q148_121 : G148 121 = oneq := by rw [eG]; exact (upG_ne (by decide)).trans q121_121
          have q148_132 : G148 132 = quartq := by rw [eG]; exact (upG_ne (by decide)).trans q121_132
          have q148_154 : G148 154 = v121 := by rw [eG]; exact (upG_ne (by decide)).trans q121_154
          have q148_187 : G148 187 = v148 := by rw [eG]; exact upG_eq
          clear eG
          refine x_aload_n (pc2 := 152) hC rfl rfl dX0_takenOff_151 rfl ?_
          refine g_267 (pc2 := 155) hC hK (by assumption) (by assumption) (by assumption) dX0_takenOff_152 rfl ?_
          refine x_aload_n (pc2 := 156) hC rfl rfl dX0_takenOff_155 rfl ?_
          refine g_276 (pc2 := 159) hC hK (by assumption) (by assumption) (by assumption) dX0_takenOff_156 rfl ?_
          refine g_225 (pc2 := 162) hC hK (by assumption) (by assumption) (by assumption) dX0_takenOff_159 rfl ?_
          refine x_aload_n (pc2 := 163) hC rfl rfl dX0_takenOff_162 rfl ?_
          refine g_276 (pc2 := 166) hC hK (by assumption) (by assumption) (by assumption) dX0_takenOff_163 rfl ?_
          refine g_228 (pc2 := 169) hC hK (by assumption) (by assumption) (by assumption) dX0_takenOff_166 rfl ?_
          refine x_iload_n (pc2 := 170) hC rfl rfl dX0_takenOff_169 rfl ?_
          refine x_iload (pc2 := 172) hC rfl dX0_takenOff_170 rfl ?_
          refine x_if_eq (tgt := 179) (pc2 := 175) hC (by omega) dX0_takenOff_172 rfl rfl (fun h_172 => ?_) (fun h_172 => ?_)
          · refine x_iconst (pc2 := 180) hC dX0_takenOff_179 rfl ?_
            refine x_cVv (pc2 := 183) (ci := 3) hC hK (y_draft hA hS148 hG148 hgl148 hb148 hf148 hd148 (r := 187) (by decide) q148_187 o_v148 ⟨Nat.le_of_ble_eq_true rfl, Nat.le_of_ble_eq_true rfl⟩ ⟨Nat.le_of_ble_eq_true rfl, Nat.le_of_ble_eq_true rfl⟩ ht ⟨by decide, by decide⟩ (by simp only [List.mem_cons, List.not_mem_nil, or_false, forall_eq_or_imp, forall_eq, false_imp_iff, implies_true] <;> omega)) lk_548 rfl rfl (by decide) (by assumption) (by assumption) ⟨Nat.le_of_ble_eq_true rfl, Nat.le_of_ble_eq_true rfl⟩ ⟨Nat.le_refl _, Nat.le_refl _⟩ rfl (Nat.le_of_ble_eq_true rfl) dX0_takenOff_180 rfl ?_
            rintro F180 A180 hq
            obtain ⟨V180, hS180, hG180, hgl180, hb180, hf180, hd180⟩ := id hq
            clear hq
            have q180_43 := q148_43
            have q180_54 := q148_54
            have q180_65 := q148_65
            have q180_88 := q148_88
            have q180_99 := q148_99
            have q180_110 := q148_110
            have q180_121 := q148_121
            have q180_132 := q148_132
            have q180_154 := q148_154
            refine x_aload_n (pc2 := 184) hC rfl rfl dX0_takenOff_183 rfl ?_
            refine g_275 (pc2 := 187) hC hK (by assumption) (by assumption) (by assumption) dX0_takenOff_184 rfl ?_
            refine x_aload_n (pc2 := 188) hC rfl rfl dX0_takenOff_187 rfl ?_
            refine g_269 (pc2 := 191) hC hK (by assumption) (by assumption) (by assumption) dX0_takenOff_188 rfl ?_
            refine x_iconst (pc2 := 192) hC dX0_takenOff_191 rfl ?_
            refine x_aald (pc2 := 193) hC hK b3 b4 (by omega) (by decide) (b6 1 (by decide)) dX0_takenOff_192 rfl ?_
            refine x_aload_n (pc2 := 194) hC rfl rfl dX0_takenOff_193 rfl ?_
            refine g_268 (pc2 := 197) hC hK (by assumption) (by assumption) (by assumption) dX0_takenOff_194 rfl ?_
            refine x_iconst (pc2 := 198) hC dX0_takenOff_197 rfl ?_
            refine x_aald (pc2 := 199) hC hK b1 b2 (by omega) (by decide) (b5 2 (by decide)) dX0_takenOff_198 rfl ?_
            refine x_cVv (pc2 := 202) (ci := 4) hC hK (y_product l hA hS180 hG180 (r := 176) (x := 88) (y := 54) (by decide) (by decide) (by decide) (by decide) (by decide) q180_88 q180_54 o_xb1 o_xa2 ⟨Nat.le_of_ble_eq_true rfl, Nat.le_of_ble_eq_true rfl⟩) lk_488 rfl rfl (by decide) (by assumption) (by assumption) ⟨Nat.le_of_ble_eq_true rfl, Nat.le_of_ble_eq_true rfl⟩ ⟨Nat.le_refl _, Nat.le_refl _⟩ rfl (Nat.le_of_ble_eq_true rfl) dX0_takenOff_199 rfl ?_
            rintro F199 A199 hq
            obtain ⟨V199, hS199, hG199, hgl199, hb199, hf199, hd199⟩ := AS.step hA hgl180 hb180 hf180 hd180 hq
            clear hq
            obtain ⟨v199, e_v199⟩ : ∃ v, v = rmul xb1 xa2 := ⟨_, rfl⟩
            have o_v199 : OKq 51 v199 := by rw [e_v199]; exact ok_mul o_xb1 o_xa2 (Nat.le_of_ble_eq_true rfl)
            rw [← e_v199] at hG199
            obtain ⟨G199, eG⟩ : ∃ g, g = upG G148 176 v199 := ⟨_, rfl⟩
            rw [← eG] at hG199
            have q199_43 : G199 43 = xa1 := by rw [eG]; exact (upG_ne (by decide)).trans q180_43
            have q199_65 : G199 65 = xa3 := by rw [eG]; exact (upG_ne (by decide)).trans q180_65
            have q199_88 : G199 88 = xb1 := by rw [eG]; exact (upG_ne (by decide)).trans q180_88
            have q199_99 : G199 99 = xb2 := by rw [eG]; exact (upG_ne (by decide)).trans q180_99
            have q199_110 : G199 110 = xb3 := by rw [eG]; exact (upG_ne (by decide)).trans q180_110
            have q199_121 : G199 121 = oneq := by rw [eG]; exact (upG_ne (by decide)).trans q180_121
            have q199_132 : G199 132 = quartq := by rw [eG]; exact (upG_ne (by decide)).trans q180_132
            have q199_154 : G199 154 = v121 := by rw [eG]; exact (upG_ne (by decide)).trans q180_154
            have q199_176 : G199 176 = v199 := by rw [eG]; exact upG_eq
            clear eG
            refine x_aload_n (pc2 := 203) hC rfl rfl dX0_takenOff_202 rfl ?_
            refine g_276 (pc2 := 206) hC hK (by assumption) (by assumption) (by assumption) dX0_takenOff_203 rfl ?_
            refine x_aload_n (pc2 := 207) hC rfl rfl dX0_takenOff_206 rfl ?_
            refine g_275 (pc2 := 210) hC hK (by assumption) (by assumption) (by assumption) dX0_takenOff_207 rfl ?_
            refine x_aload_n (pc2 := 211) hC rfl rfl dX0_takenOff_210 rfl ?_
            refine g_273 (pc2 := 214) hC hK (by assumption) (by assumption) (by assumption) dX0_takenOff_211 rfl ?_
            refine x_cVv (pc2 := 217) (ci := 4) hC hK (y_quotient l hA hS199 hG199 (r := 187) (x := 176) (y := 154) (by decide) (by decide) (by decide) (by decide) (by decide) q199_176 q199_154 o_v199 o_v121 ⟨Nat.le_of_ble_eq_true rfl, Nat.le_of_ble_eq_true rfl⟩) lk_544 rfl rfl (by decide) (by assumption) (by assumption) ⟨Nat.le_of_ble_eq_true rfl, Nat.le_of_ble_eq_true rfl⟩ ⟨Nat.le_refl _, Nat.le_refl _⟩ rfl (Nat.le_of_ble_eq_true rfl) dX0_takenOff_214 rfl ?_
            rintro F214 A214 hq
            obtain ⟨V214, hS214, hG214, hgl214, hb214, hf214, hd214⟩ := AS.step hA hgl199 hb199 hf199 hd199 hq
            clear hq
            obtain ⟨v214, e_v214⟩ : ∃ v, v = rdiv v199 v121 := ⟨_, rfl⟩
            have o_v214 : OKq 183 v214 := by rw [e_v214]; exact ok_div o_v199 o_v121 nz_v121 (Nat.le_of_ble_eq_true rfl)
            rw [← e_v214] at hG214
            obtain ⟨G214, eG⟩ : ∃ g, g = upG G199 187 v214 := ⟨_, rfl⟩
            rw [← eG] at hG214
            have q214_43 : G214 43 = xa1 := by rw [eG]; exact (upG_ne (by decide)).trans q199_43
            have q214_65 : G214 65 = xa3 := by rw [eG]; exact (upG_ne (by decide)).trans q199_65
            have q214_88 : G214 88 = xb1 := by rw [eG]; exact (upG_ne (by decide)).trans q199_88
            have q214_99 : G214 99 = xb2 := by rw [eG]; exact (upG_ne (by decide)).trans q199_99
            have q214_110 : G214 110 = xb3 := by rw [eG]; exact (upG_ne (by decide)).trans q199_110
            have q214_121 : G214 121 = oneq := by rw [eG]; exact (upG_ne (by decide)).trans q199_121
            have q214_132 : G214 132 = quartq := by rw [eG]; exact (upG_ne (by decide)).trans q199_132
            have q214_154 : G214 154 = v121 := by rw [eG]; exact (upG_ne (by decide)).trans q199_154
            have q214_187 : G214 187 = v214 := by rw [eG]; exact upG_eq
            clear eG
            refine x_aload_n (pc2 := 218) hC rfl rfl dX0_takenOff_217 rfl ?_
            refine g_267 (pc2 := 221) hC hK (by assumption) (by assumption) (by assumption) dX0_takenOff_218 rfl ?_
            refine x_aload_n (pc2 := 222) hC rfl rfl dX0_takenOff_221 rfl ?_
            refine g_276 (pc2 := 225) hC hK (by assumption) (by assumption) (by assumption) dX0_takenOff_222 rfl ?_
            refine g_225 (pc2 := 228) hC hK (by assumption) (by assumption) (by assumption) dX0_takenOff_225 rfl ?_
            refine x_aload_n (pc2 := 229) hC rfl rfl dX0_takenOff_228 rfl ?_
            refine g_276 (pc2 := 232) hC hK (by assumption) (by assumption) (by assumption) dX0_takenOff_229 rfl ?_
            refine g_228 (pc2 := 235) hC hK (by assumption) (by assumption) (by assumption) dX0_takenOff_232 rfl ?_
            refine x_iload_n (pc2 := 236) hC rfl rfl dX0_takenOff_235 rfl ?_
            refine x_iload (pc2 := 238) hC rfl dX0_takenOff_236 rfl ?_
            refine x_if_eq (tgt := 245) (pc2 := 241) hC (by omega) dX0_takenOff_238 rfl rfl (fun h_238 => ?_) (fun h_238 => ?_)
            · refine x_iconst (pc2 := 246) hC dX0_takenOff_245 rfl ?_
              refine x_cVv (pc2 := 249) (ci := 3) hC hK (y_draft hA hS214 hG214 hgl214 hb214 hf214 hd214 (r := 187) (by decide) q214_187 o_v214 ⟨Nat.le_of_ble_eq_true rfl, Nat.le_of_ble_eq_true rfl⟩ ⟨Nat.le_of_ble_eq_true rfl, Nat.le_of_ble_eq_true rfl⟩ ht ⟨by decide, by decide⟩ (by simp only [List.mem_cons, List.not_mem_nil, or_false, forall_eq_or_imp, forall_eq, false_imp_iff, implies_true] <;> omega)) lk_548 rfl rfl (by decide) (by assumption) (by assumption) ⟨Nat.le_of_ble_eq_true rfl, Nat.le_of_ble_eq_true rfl⟩ ⟨Nat.le_refl _, Nat.le_refl _⟩ rfl (Nat.le_of_ble_eq_true rfl) dX0_takenOff_246 rfl ?_
              rintro F246 A246 hq
              obtain ⟨V246, hS246, hG246, hgl246, hb246, hf246, hd246⟩ := id hq
              clear hq
              have q246_43 := q214_43
              have q246_65 := q214_65
              have q246_88 := q214_88
              have q246_99 := q214_99
              have q246_110 := q214_110
              have q246_121 := q214_121
              have q246_132 := q214_132
              have q246_154 := q214_154
              refine x_aload_n (pc2 := 250) hC rfl rfl dX0_takenOff_249 rfl ?_
              refine g_275 (pc2 := 253) hC hK (by assumption) (by assumption) (by assumption) dX0_takenOff_250 rfl ?_
              refine x_aload_n (pc2 := 254) hC rfl rfl dX0_takenOff_253 rfl ?_
              refine g_269 (pc2 := 257) hC hK (by assumption) (by assumption) (by assumption) dX0_takenOff_254 rfl ?_
              refine x_iconst (pc2 := 258) hC dX0_takenOff_257 rfl ?_
              refine x_aald (pc2 := 259) hC hK b3 b4 (by omega) (by decide) (b6 2 (by decide)) dX0_takenOff_258 rfl ?_
              refine x_aload_n (pc2 := 260) hC rfl rfl dX0_takenOff_259 rfl ?_
              refine g_268 (pc2 := 263) hC hK (by assumption) (by assumption) (by assumption) dX0_takenOff_260 rfl ?_
              refine x_iconst (pc2 := 264) hC dX0_takenOff_263 rfl ?_
              refine x_aald (pc2 := 265) hC hK b1 b2 (by omega) (by decide) (b5 1 (by decide)) dX0_takenOff_264 rfl ?_
              refine x_cVv (pc2 := 268) (ci := 4) hC hK (y_product l hA hS246 hG246 (r := 176) (x := 99) (y := 43) (by decide) (by decide) (by decide) (by decide) (by decide) q246_99 q246_43 o_xb2 o_xa1 ⟨Nat.le_of_ble_eq_true rfl, Nat.le_of_ble_eq_true rfl⟩) lk_488 rfl rfl (by decide) (by assumption) (by assumption) ⟨Nat.le_of_ble_eq_true rfl, Nat.le_of_ble_eq_true rfl⟩ ⟨Nat.le_refl _, Nat.le_refl _⟩ rfl (Nat.le_of_ble_eq_true rfl) dX0_takenOff_265 rfl ?_
              rintro F265 A265 hq
              obtain ⟨V265, hS265, hG265, hgl265, hb265, hf265, hd265⟩ := AS.step hA hgl246 hb246 hf246 hd246 hq
              clear hq
              obtain ⟨v265, e_v265⟩ : ∃ v, v = rmul xb2 xa1 := ⟨_, rfl⟩
              have o_v265 : OKq 51 v265 := by rw [e_v265]; exact ok_mul o_xb2 o_xa1 (Nat.le_of_ble_eq_true rfl)
              rw [← e_v265] at hG265
              obtain ⟨G265, eG⟩ : ∃ g, g = upG G214 176 v265 := ⟨_, rfl⟩
              rw [← eG] at hG265
              have q265_65 : G265 65 = xa3 := by rw [eG]; exact (upG_ne (by decide)).trans q246_65
              have q265_88 : G265 88 = xb1 := by rw [eG]; exact (upG_ne (by decide)).trans q246_88
              have q265_99 : G265 99 = xb2 := by rw [eG]; exact (upG_ne (by decide)).trans q246_99
              have q265_110 : G265 110 = xb3 := by rw [eG]; exact (upG_ne (by decide)).trans q246_110
              have q265_121 : G265 121 = oneq := by rw [eG]; exact (upG_ne (by decide)).trans q246_121
              have q265_132 : G265 132 = quartq := by rw [eG]; exact (upG_ne (by decide)).trans q246_132
              have q265_154 : G265 154 = v121 := by rw [eG]; exact (upG_ne (by decide)).trans q246_154
              have q265_176 : G265 176 = v265 := by rw [eG]; exact upG_eq
              clear eG
              refine x_aload_n (pc2 := 269) hC rfl rfl dX0_takenOff_268 rfl ?_
              refine g_276 (pc2 := 272) hC hK (by assumption) (by assumption) (by assumption) dX0_takenOff_269 rfl ?_
              refine x_aload_n (pc2 := 273) hC rfl rfl dX0_takenOff_272 rfl ?_
              refine g_275 (pc2 := 276) hC hK (by assumption) (by assumption) (by assumption) dX0_takenOff_273 rfl ?_
              refine x_aload_n (pc2 := 277) hC rfl rfl dX0_takenOff_276 rfl ?_
              refine g_273 (pc2 := 280) hC hK (by assumption) (by assumption) (by assumption) dX0_takenOff_277 rfl ?_
              refine x_cVv (pc2 := 283) (ci := 4) hC hK (y_quotient l hA hS265 hG265 (r := 187) (x := 176) (y := 154) (by decide) (by decide) (by decide) (by decide) (by decide) q265_176 q265_154 o_v265 o_v121 ⟨Nat.le_of_ble_eq_true rfl, Nat.le_of_ble_eq_true rfl⟩) lk_544 rfl rfl (by decide) (by assumption) (by assumption) ⟨Nat.le_of_ble_eq_true rfl, Nat.le_of_ble_eq_true rfl⟩ ⟨Nat.le_refl _, Nat.le_refl _⟩ rfl (Nat.le_of_ble_eq_true rfl) dX0_takenOff_280 rfl ?_
              rintro F280 A280 hq
              obtain ⟨V280, hS280, hG280, hgl280, hb280, hf280, hd280⟩ := AS.step hA hgl265 hb265 hf265 hd265 hq
              clear hq
              obtain ⟨v280, e_v280⟩ : ∃ v, v = rdiv v265 v121 := ⟨_, rfl⟩
              have o_v280 : OKq 183 v280 := by rw [e_v280]; exact ok_div o_v265 o_v121 nz_v121 (Nat.le_of_ble_eq_true rfl)
              rw [← e_v280] at hG280
              obtain ⟨G280, eG⟩ : ∃ g, g = upG G265 187 v280 := ⟨_, rfl⟩
              rw [← eG] at hG280
              have q280_65 : G280 65 = xa3 := by rw [eG]; exact (upG_ne (by decide)).trans q265_65
              have q280_88 : G280 88 = xb1 := by rw [eG]; exact (upG_ne (by decide)).trans q265_88
              have q280_99 : G280 99 = xb2 := by rw [eG]; exact (upG_ne (by decide)).trans q265_99
              have q280_110 : G280 110 = xb3 := by rw [eG]; exact (upG_ne (by decide)).trans q265_110
              have q280_121 : G280 121 = oneq := by rw [eG]; exact (upG_ne (by decide)).trans q265_121
              have q280_132 : G280 132 = quartq := by rw [eG]; exact (upG_ne (by decide)).trans q265_132
              have q280_154 : G280 154 = v121 := by rw [eG]; exact (upG_ne (by decide)).trans q265_154
              have q280_187 : G280 187 = v280 := by rw [eG]; exact upG_eq
              clear eG
              refine x_aload_n (pc2 := 284) hC rfl rfl dX0_takenOff_283 rfl ?_
              refine g_267 (pc2 := 287) hC hK (by assumption) (by assumption) (by assumption) dX0_takenOff_284 rfl ?_
              refine x_aload_n (pc2 := 288) hC rfl rfl dX0_takenOff_287 rfl ?_
              refine g_276 (pc2 := 291) hC hK (by assumption) (by assumption) (by assumption) dX0_takenOff_288 rfl ?_
              refine g_225 (pc2 := 294) hC hK (by assumption) (by assumption) (by assumption) dX0_takenOff_291 rfl ?_
              refine x_aload_n (pc2 := 295) hC rfl rfl dX0_takenOff_294 rfl ?_
              refine g_276 (pc2 := 298) hC hK (by assumption) (by assumption) (by assumption) dX0_takenOff_295 rfl ?_
              refine g_228 (pc2 := 301) hC hK (by assumption) (by assumption) (by assumption) dX0_takenOff_298 rfl ?_
              refine x_iload_n (pc2 := 302) hC rfl rfl dX0_takenOff_301 rfl ?_
              refine x_iload (pc2 := 304) hC rfl dX0_takenOff_302 rfl ?_
              refine x_if_eq (tgt := 311) (pc2 := 307) hC (by omega) dX0_takenOff_304 rfl rfl (fun h_304 => ?_) (fun h_304 => ?_)
              · refine x_iconst (pc2 := 312) hC dX0_takenOff_311 rfl ?_
                refine x_cVv (pc2 := 315) (ci := 3) hC hK (y_draft hA hS280 hG280 hgl280 hb280 hf280 hd280 (r := 187) (by decide) q280_187 o_v280 ⟨Nat.le_of_ble_eq_true rfl, Nat.le_of_ble_eq_true rfl⟩ ⟨Nat.le_of_ble_eq_true rfl, Nat.le_of_ble_eq_true rfl⟩ ht ⟨by decide, by decide⟩ (by simp only [List.mem_cons, List.not_mem_nil, or_false, forall_eq_or_imp, forall_eq, false_imp_iff, implies_true] <;> omega)) lk_548 rfl rfl (by decide) (by assumption) (by assumption) ⟨Nat.le_of_ble_eq_true rfl, Nat.le_of_ble_eq_true rfl⟩ ⟨Nat.le_refl _, Nat.le_refl _⟩ rfl (Nat.le_of_ble_eq_true rfl) dX0_takenOff_312 rfl ?_
                rintro F312 A312 hq
                obtain ⟨V312, hS312, hG312, hgl312, hb312, hf312, hd312⟩ := id hq
                clear hq
                have q312_65 := q280_65
                have q312_88 := q280_88
                have q312_99 := q280_99
                have q312_110 := q280_110
                have q312_121 := q280_121
                have q312_132 := q280_132
                have q312_154 := q280_154
                refine x_aload_n (pc2 := 316) hC rfl rfl dX0_takenOff_315 rfl ?_
                refine g_275 (pc2 := 319) hC hK (by assumption) (by assumption) (by assumption) dX0_takenOff_316 rfl ?_
                refine x_aload_n (pc2 := 320) hC rfl rfl dX0_takenOff_319 rfl ?_
                refine g_269 (pc2 := 323) hC hK (by assumption) (by assumption) (by assumption) dX0_takenOff_320 rfl ?_
                refine x_iconst (pc2 := 324) hC dX0_takenOff_323 rfl ?_
                refine x_aald (pc2 := 325) hC hK b3 b4 (by omega) (by decide) (b6 1 (by decide)) dX0_takenOff_324 rfl ?_
                refine x_aload_n (pc2 := 326) hC rfl rfl dX0_takenOff_325 rfl ?_
                refine g_269 (pc2 := 329) hC hK (by assumption) (by assumption) (by assumption) dX0_takenOff_326 rfl ?_
                refine x_iconst (pc2 := 330) hC dX0_takenOff_329 rfl ?_
                refine x_aald (pc2 := 331) hC hK b3 b4 (by omega) (by decide) (b6 2 (by decide)) dX0_takenOff_330 rfl ?_
                refine x_cVv (pc2 := 334) (ci := 4) hC hK (y_product l hA hS312 hG312 (r := 176) (x := 88) (y := 99) (by decide) (by decide) (by decide) (by decide) (by decide) q312_88 q312_99 o_xb1 o_xb2 ⟨Nat.le_of_ble_eq_true rfl, Nat.le_of_ble_eq_true rfl⟩) lk_488 rfl rfl (by decide) (by assumption) (by assumption) ⟨Nat.le_of_ble_eq_true rfl, Nat.le_of_ble_eq_true rfl⟩ ⟨Nat.le_refl _, Nat.le_refl _⟩ rfl (Nat.le_of_ble_eq_true rfl) dX0_takenOff_331 rfl ?_
                rintro F331 A331 hq
                obtain ⟨V331, hS331, hG331, hgl331, hb331, hf331, hd331⟩ := AS.step hA hgl312 hb312 hf312 hd312 hq
                clear hq
                obtain ⟨v331, e_v331⟩ : ∃ v, v = rmul xb1 xb2 := ⟨_, rfl⟩
                have o_v331 : OKq 51 v331 := by rw [e_v331]; exact ok_mul o_xb1 o_xb2 (Nat.le_of_ble_eq_true rfl)
                rw [← e_v331] at hG331
                obtain ⟨G331, eG⟩ : ∃ g, g = upG G280 176 v331 := ⟨_, rfl⟩
                rw [← eG] at hG331
                have q331_65 : G331 65 = xa3 := by rw [eG]; exact (upG_ne (by decide)).trans q312_65
                have q331_110 : G331 110 = xb3 := by rw [eG]; exact (upG_ne (by decide)).trans q312_110
                have q331_121 : G331 121 = oneq := by rw [eG]; exact (upG_ne (by decide)).trans q312_121
                have q331_132 : G331 132 = quartq := by rw [eG]; exact (upG_ne (by decide)).trans q312_132
                have q331_154 : G331 154 = v121 := by rw [eG]; exact (upG_ne (by decide)).trans q312_154
                have q331_176 : G331 176 = v331 := by rw [eG]; exact upG_eq
                clear eG
                refine x_aload_n (pc2 := 335) hC rfl rfl dX0_takenOff_334 rfl ?_
                refine g_276 (pc2 := 338) hC hK (by assumption) (by assumption) (by assumption) dX0_takenOff_335 rfl ?_
                refine x_aload_n (pc2 := 339) hC rfl rfl dX0_takenOff_338 rfl ?_
                refine g_275 (pc2 := 342) hC hK (by assumption) (by assumption) (by assumption) dX0_takenOff_339 rfl ?_
                refine x_aload_n (pc2 := 343) hC rfl rfl dX0_takenOff_342 rfl ?_
                refine g_268 (pc2 := 346) hC hK (by assumption) (by assumption) (by assumption) dX0_takenOff_343 rfl ?_
                refine x_iconst (pc2 := 347) hC dX0_takenOff_346 rfl ?_
                refine x_aald (pc2 := 348) hC hK b1 b2 (by omega) (by decide) (b5 3 (by decide)) dX0_takenOff_347 rfl ?_
                refine x_cVv (pc2 := 351) (ci := 4) hC hK (y_product l hA hS331 hG331 (r := 187) (x := 176) (y := 65) (by decide) (by decide) (by decide) (by decide) (by decide) q331_176 q331_65 o_v331 o_xa3 ⟨Nat.le_of_ble_eq_true rfl, Nat.le_of_ble_eq_true rfl⟩) lk_488 rfl rfl (by decide) (by assumption) (by assumption) ⟨Nat.le_of_ble_eq_true rfl, Nat.le_of_ble_eq_true rfl⟩ ⟨Nat.le_refl _, Nat.le_refl _⟩ rfl (Nat.le_of_ble_eq_true rfl) dX0_takenOff_348 rfl ?_
                rintro F348 A348 hq
                obtain ⟨V348, hS348, hG348, hgl348, hb348, hf348, hd348⟩ := AS.step hA hgl331 hb331 hf331 hd331 hq
                clear hq
                obtain ⟨v348, e_v348⟩ : ∃ v, v = rmul v331 xa3 := ⟨_, rfl⟩
                have o_v348 : OKq 77 v348 := by rw [e_v348]; exact ok_mul o_v331 o_xa3 (Nat.le_of_ble_eq_true rfl)
                rw [← e_v348] at hG348
                obtain ⟨G348, eG⟩ : ∃ g, g = upG G331 187 v348 := ⟨_, rfl⟩
                rw [← eG] at hG348
                have q348_110 : G348 110 = xb3 := by rw [eG]; exact (upG_ne (by decide)).trans q331_110
                have q348_121 : G348 121 = oneq := by rw [eG]; exact (upG_ne (by decide)).trans q331_121
                have q348_132 : G348 132 = quartq := by rw [eG]; exact (upG_ne (by decide)).trans q331_132
                have q348_154 : G348 154 = v121 := by rw [eG]; exact (upG_ne (by decide)).trans q331_154
                have q348_187 : G348 187 = v348 := by rw [eG]; exact upG_eq
                clear eG
                refine x_aload_n (pc2 := 352) hC rfl rfl dX0_takenOff_351 rfl ?_
                refine g_275 (pc2 := 355) hC hK (by assumption) (by assumption) (by assumption) dX0_takenOff_352 rfl ?_
                refine x_aload_n (pc2 := 356) hC rfl rfl dX0_takenOff_355 rfl ?_
                refine g_276 (pc2 := 359) hC hK (by assumption) (by assumption) (by assumption) dX0_takenOff_356 rfl ?_
                refine x_aload_n (pc2 := 360) hC rfl rfl dX0_takenOff_359 rfl ?_
                refine g_273 (pc2 := 363) hC hK (by assumption) (by assumption) (by assumption) dX0_takenOff_360 rfl ?_
                refine x_cVv (pc2 := 366) (ci := 4) hC hK (y_quotient l hA hS348 hG348 (r := 176) (x := 187) (y := 154) (by decide) (by decide) (by decide) (by decide) (by decide) q348_187 q348_154 o_v348 o_v121 ⟨Nat.le_of_ble_eq_true rfl, Nat.le_of_ble_eq_true rfl⟩) lk_544 rfl rfl (by decide) (by assumption) (by assumption) ⟨Nat.le_of_ble_eq_true rfl, Nat.le_of_ble_eq_true rfl⟩ ⟨Nat.le_refl _, Nat.le_refl _⟩ rfl (Nat.le_of_ble_eq_true rfl) dX0_takenOff_363 rfl ?_
                rintro F363 A363 hq
                obtain ⟨V363, hS363, hG363, hgl363, hb363, hf363, hd363⟩ := AS.step hA hgl348 hb348 hf348 hd348 hq
                clear hq
                obtain ⟨v363, e_v363⟩ : ∃ v, v = rdiv v348 v121 := ⟨_, rfl⟩
                have o_v363 : OKq 209 v363 := by rw [e_v363]; exact ok_div o_v348 o_v121 nz_v121 (Nat.le_of_ble_eq_true rfl)
                rw [← e_v363] at hG363
                obtain ⟨G363, eG⟩ : ∃ g, g = upG G348 176 v363 := ⟨_, rfl⟩
                rw [← eG] at hG363
                have q363_110 : G363 110 = xb3 := by rw [eG]; exact (upG_ne (by decide)).trans q348_110
                have q363_121 : G363 121 = oneq := by rw [eG]; exact (upG_ne (by decide)).trans q348_121
                have q363_132 : G363 132 = quartq := by rw [eG]; exact (upG_ne (by decide)).trans q348_132
                have q363_176 : G363 176 = v363 := by rw [eG]; exact upG_eq
                clear eG
                refine x_aload_n (pc2 := 367) hC rfl rfl dX0_takenOff_366 rfl ?_
                refine g_276 (pc2 := 370) hC hK (by assumption) (by assumption) (by assumption) dX0_takenOff_367 rfl ?_
                refine x_aload_n (pc2 := 371) hC rfl rfl dX0_takenOff_370 rfl ?_
                refine g_269 (pc2 := 374) hC hK (by assumption) (by assumption) (by assumption) dX0_takenOff_371 rfl ?_
                refine x_iconst (pc2 := 375) hC dX0_takenOff_374 rfl ?_
                refine x_aald (pc2 := 376) hC hK b3 b4 (by omega) (by decide) (b6 3 (by decide)) dX0_takenOff_375 rfl ?_
                refine x_aload_n (pc2 := 377) hC rfl rfl dX0_takenOff_376 rfl ?_
                refine g_275 (pc2 := 380) hC hK (by assumption) (by assumption) (by assumption) dX0_takenOff_377 rfl ?_
                refine x_iconst (pc2 := 381) hC dX0_takenOff_380 rfl ?_
                refine x_cVv (pc2 := 384) (ci := 4) hC hK (y_sum l hA hS363 hG363 (r := 187) (x := 110) (y := 176) (by decide) (by decide) (by decide) (by decide) (by decide) (Or.inr rfl) q363_110 q363_176 o_xb3 o_v363 ⟨Nat.le_of_ble_eq_true rfl, Nat.le_of_ble_eq_true rfl⟩) lk_528 rfl rfl (by decide) (by assumption) (by assumption) ⟨Nat.le_of_ble_eq_true rfl, Nat.le_of_ble_eq_true rfl⟩ ⟨Nat.le_refl _, Nat.le_refl _⟩ rfl (Nat.le_of_ble_eq_true rfl) dX0_takenOff_381 rfl ?_
                rintro F381 A381 hq
                obtain ⟨V381, hS381, hG381, hgl381, hb381, hf381, hd381⟩ := AS.step hA hgl363 hb363 hf363 hd363 hq
                clear hq
                obtain ⟨v381, e_v381⟩ : ∃ v, v = rsum (-1) xb3 v363 := ⟨_, rfl⟩
                have o_v381 : OKq 236 v381 := by rw [e_v381]; exact ok_sum  (Or.inr rfl) o_xb3 o_v363 (Nat.le_of_ble_eq_true rfl)
                rw [← e_v381] at hG381
                obtain ⟨G381, eG⟩ : ∃ g, g = upG G363 187 v381 := ⟨_, rfl⟩
                rw [← eG] at hG381
                have q381_121 : G381 121 = oneq := by rw [eG]; exact (upG_ne (by decide)).trans q363_121
                have q381_132 : G381 132 = quartq := by rw [eG]; exact (upG_ne (by decide)).trans q363_132
                have q381_187 : G381 187 = v381 := by rw [eG]; exact upG_eq
                clear eG
                refine x_aload_n (pc2 := 385) hC rfl rfl dX0_takenOff_384 rfl ?_
                refine g_267 (pc2 := 388) hC hK (by assumption) (by assumption) (by assumption) dX0_takenOff_385 rfl ?_
                refine x_aload_n (pc2 := 389) hC rfl rfl dX0_takenOff_388 rfl ?_
                refine g_276 (pc2 := 392) hC hK (by assumption) (by assumption) (by assumption) dX0_takenOff_389 rfl ?_
                refine g_225 (pc2 := 395) hC hK (by assumption) (by assumption) (by assumption) dX0_takenOff_392 rfl ?_
                refine x_aload_n (pc2 := 396) hC rfl rfl dX0_takenOff_395 rfl ?_
                refine g_276 (pc2 := 399) hC hK (by assumption) (by assumption) (by assumption) dX0_takenOff_396 rfl ?_
                refine g_228 (pc2 := 402) hC hK (by assumption) (by assumption) (by assumption) dX0_takenOff_399 rfl ?_
                refine x_iload_n (pc2 := 403) hC rfl rfl dX0_takenOff_402 rfl ?_
                refine x_iload (pc2 := 405) hC rfl dX0_takenOff_403 rfl ?_
                refine x_if_eq (tgt := 412) (pc2 := 408) hC (by omega) dX0_takenOff_405 rfl rfl (fun h_405 => ?_) (fun h_405 => ?_)
                · refine x_iconst (pc2 := 413) hC dX0_takenOff_412 rfl ?_
                  refine x_cVv (pc2 := 416) (ci := 3) hC hK (y_draft hA hS381 hG381 hgl381 hb381 hf381 hd381 (r := 187) (by decide) q381_187 o_v381 ⟨Nat.le_of_ble_eq_true rfl, Nat.le_of_ble_eq_true rfl⟩ ⟨Nat.le_of_ble_eq_true rfl, Nat.le_of_ble_eq_true rfl⟩ ht ⟨by decide, by decide⟩ (by simp only [List.mem_cons, List.not_mem_nil, or_false, forall_eq_or_imp, forall_eq, false_imp_iff, implies_true] <;> omega)) lk_548 rfl rfl (by decide) (by assumption) (by assumption) ⟨Nat.le_of_ble_eq_true rfl, Nat.le_of_ble_eq_true rfl⟩ ⟨Nat.le_refl _, Nat.le_refl _⟩ rfl (Nat.le_of_ble_eq_true rfl) dX0_takenOff_413 rfl ?_
                  rintro F413 A413 hq
                  obtain ⟨V413, hS413, hG413, hgl413, hb413, hf413, hd413⟩ := id hq
                  clear hq
                  have q413_121 := q381_121
                  have q413_132 := q381_132
                  refine x_iconst (pc2 := 417) hC dX0_takenOff_416 rfl ?_
                  exact x_iret hC hr hlk ⟨_, rfl, Or.inr (Or.inr (Or.inr ⟨rfl, n1, n2b, n3b, ⟨_, q413_121, q413_132, V413, hS413, hG413, hgl413, hb413, hf413, by
                    have e : takeL (ldn (A 2) bA tone 0) (ldn (A 2) bB tone 0) tone 0 1 2 3 = [(v381, tone * 36 + 3 * 9), (v280, tone * 36 + 2 * 9), (v214, tone * 36 + 1 * 9), (v148, tone * 36 + 0 * 9)] := by
                      rw [takeL, takeF, takeG, ← ena, ← enb, ← ea0, ← ea1, ← ea2, ← ea3, ← eb0, ← eb1, ← eb2, ← eb3, e_v381, e_v363, e_v348, e_v331, e_v280, e_v265, e_v214, e_v199, e_v148, e_v121, e_v105, e_v88, e_v69]
                    show DrL _ _ _ _ (takeL (ldn (A 2) bA tone 0) (ldn (A 2) bB tone 0) tone 0 1 2 3)
                    rw [e]; exact hd413⟩⟩))⟩ dX0_takenOff_417
                · exfalso; omega
              · exfalso; omega
            · exfalso; omega
          · exfalso; omega
        · have z1 : (takeF (ldn (A 2) bA tone 0) (ldn (A 2) bB tone 0)).1 = (0, 0) := by
            rw [takeF, takeG, ← ena, ← enb, ← ea0, ← ea1, ← ea2, ← ea3, ← eb0, ← e_v69, ← e_v88, ← e_v105, ← e_v121]; rw [← q121_154]; assumption
          refine x_iconst (pc2 := 135) hC dX0_takenOff_134 rfl ?_
          exact x_iret hC hr hlk ⟨_, rfl, Or.inr (Or.inr (Or.inl ⟨rfl, n1, n2b, z1, ⟨_, q121_121, q121_132, V121, hS121, hG121, hgl121, hb121, hf121, hd121⟩⟩))⟩ dX0_takenOff_135
      · have z1 : ((ldn (A 2) bA tone 0) 2).1 = (0, 0) := by rw [← ena, ← ea2, ← q21_54]; assumption
        refine x_iconst (pc2 := 51) hC dX0_takenOff_50 rfl ?_
        exact x_iret hC hr hlk ⟨_, rfl, Or.inr (Or.inl ⟨rfl, n1, z1, ⟨_, q21_121, q21_132, V21, hS21, hG21, hgl21, hb21, hf21, hd21⟩⟩)⟩ dX0_takenOff_51
    · have z1 : ((ldn (A 2) bA tone 0) 1).1 = (0, 0) := by rw [← ena, ← ea1, ← q21_43]; assumption
      refine x_iconst (pc2 := 37) hC dX0_takenOff_36 rfl ?_
      exact x_iret hC hr hlk ⟨_, rfl, Or.inl ⟨rfl, z1, ⟨_, q21_121, q21_132, V21, hS21, hG21, hgl21, hb21, hf21, hd21⟩⟩⟩ dX0_takenOff_37
  · refine x_aload_n (pc2 := 1) hC rfl rfl dX0_takenOff_0 rfl ?_
    refine x_aload_n (pc2 := 2) hC rfl rfl dX0_takenOff_1 rfl ?_
    refine g_268 (pc2 := 5) hC hK (by assumption) (by assumption) (by assumption) dX0_takenOff_2 rfl ?_
    refine x_iload_n (pc2 := 6) hC rfl rfl dX0_takenOff_5 rfl ?_
    refine x_iload_n (pc2 := 7) hC rfl rfl dX0_takenOff_6 rfl ?_
    refine x_iload (pc2 := 9) hC rfl dX0_takenOff_7 rfl ?_
    refine x_cVv (pc2 := 12) (ci := 0) hC hK (m_loadBox l hA hSI hGI (base := 32) (Or.inl ⟨rfl, rfl⟩) hT hba ht (Or.inr rfl)) lk_473 rfl rfl (by decide) (by assumption) (by assumption) ⟨Nat.le_of_ble_eq_true rfl, Nat.le_of_ble_eq_true rfl⟩ ⟨Nat.le_refl _, Nat.le_refl _⟩ rfl (Nat.le_of_ble_eq_true rfl) dX0_takenOff_9 rfl ?_
    rintro F9 A9 hq
    obtain ⟨V9, hS9, hG9, hgl9, hb9, hf9, hd9⟩ := AS.step hA hglI hbI hfI hdI hq
    clear hq
    have eA9 : A9 2 = A 2 := hf9.2 2 (by decide) n2
    refine x_aload_n (pc2 := 13) hC rfl rfl dX0_takenOff_12 rfl ?_
    refine x_aload_n (pc2 := 14) hC rfl rfl dX0_takenOff_13 rfl ?_
    refine g_269 (pc2 := 17) hC hK (by assumption) (by assumption) (by assumption) dX0_takenOff_14 rfl ?_
    refine x_iload_n (pc2 := 18) hC rfl rfl dX0_takenOff_17 rfl ?_
    refine x_iload_n (pc2 := 19) hC rfl rfl dX0_takenOff_18 rfl ?_
    refine x_iload (pc2 := 21) hC rfl dX0_takenOff_19 rfl ?_
    refine x_cVv (pc2 := 24) (ci := 0) hC hK (m_loadBox l hA hS9 hG9 (base := 77) (Or.inr ⟨rfl, rfl⟩) (by rw [eA9]; exact hT) hbb ht (Or.inr rfl)) lk_473 rfl rfl (by decide) (by assumption) (by assumption) ⟨Nat.le_of_ble_eq_true rfl, Nat.le_of_ble_eq_true rfl⟩ ⟨Nat.le_refl _, Nat.le_refl _⟩ rfl (Nat.le_of_ble_eq_true rfl) dX0_takenOff_21 rfl ?_
    rintro F21 A21 hq
    obtain ⟨V21, hS21, hG21, hgl21, hb21, hf21, hd21⟩ := AS.step hA hgl9 hb9 hf9 hd9 hq
    clear hq
    have eA21 : A21 2 = A 2 := hf21.2 2 (by decide) n2
    rw [eA9] at hG21
    obtain ⟨na, ena⟩ : ∃ n, n = (ldn (A 2) bA tone 1) := ⟨_, rfl⟩
    obtain ⟨nb, enb⟩ : ∃ n, n = (ldn (A 2) bB tone 1) := ⟨_, rfl⟩
    rw [← ena, ← enb] at hG21
    have oa := ldn_ok hB (tn := 1) hba0 ht
    have ob := ldn_ok hB (tn := 1) hbb0 ht
    rw [← ena] at oa
    rw [← enb] at ob
    obtain ⟨xa0, ea0⟩ : ∃ v, v = na 0 := ⟨_, rfl⟩
    obtain ⟨xb0, eb0⟩ : ∃ v, v = nb 0 := ⟨_, rfl⟩
    have o_xa0 := oa 0 (by decide)
    have o_xb0 := ob 0 (by decide)
    rw [← ea0] at o_xa0
    rw [← eb0] at o_xb0
    obtain ⟨xa1, ea1⟩ : ∃ v, v = na 1 := ⟨_, rfl⟩
    obtain ⟨xb1, eb1⟩ : ∃ v, v = nb 1 := ⟨_, rfl⟩
    have o_xa1 := oa 1 (by decide)
    have o_xb1 := ob 1 (by decide)
    rw [← ea1] at o_xa1
    rw [← eb1] at o_xb1
    obtain ⟨xa2, ea2⟩ : ∃ v, v = na 2 := ⟨_, rfl⟩
    obtain ⟨xb2, eb2⟩ : ∃ v, v = nb 2 := ⟨_, rfl⟩
    have o_xa2 := oa 2 (by decide)
    have o_xb2 := ob 2 (by decide)
    rw [← ea2] at o_xa2
    rw [← eb2] at o_xb2
    obtain ⟨xa3, ea3⟩ : ∃ v, v = na 3 := ⟨_, rfl⟩
    obtain ⟨xb3, eb3⟩ : ∃ v, v = nb 3 := ⟨_, rfl⟩
    have o_xa3 := oa 3 (by decide)
    have o_xb3 := ob 3 (by decide)
    rw [← ea3] at o_xa3
    rw [← eb3] at o_xb3
    obtain ⟨G21, eG⟩ : ∃ g, g = ldG (ldG G 32 na 4) 77 nb 4 := ⟨_, rfl⟩
    rw [← eG] at hG21
    have q21_32 : G21 32 = xa0 := by rw [eG, ea0]; rfl
    have q21_77 : G21 77 = xb0 := by rw [eG, eb0]; rfl
    have q21_43 : G21 43 = xa1 := by rw [eG, ea1]; rfl
    have q21_88 : G21 88 = xb1 := by rw [eG, eb1]; rfl
    have q21_54 : G21 54 = xa2 := by rw [eG, ea2]; rfl
    have q21_99 : G21 99 = xb2 := by rw [eG, eb2]; rfl
    have q21_65 : G21 65 = xa3 := by rw [eG, ea3]; rfl
    have q21_110 : G21 110 = xb3 := by rw [eG, eb3]; rfl
    have q21_121 : G21 121 = oneq := by rw [eG]; exact g121
    have q21_132 : G21 132 = quartq := by rw [eG]; exact g132
    clear eG
    refine x_aload_n (pc2 := 25) hC rfl rfl dX0_takenOff_24 rfl ?_
    refine g_268 (pc2 := 28) hC hK (by assumption) (by assumption) (by assumption) dX0_takenOff_25 rfl ?_
    refine x_iconst (pc2 := 29) hC dX0_takenOff_28 rfl ?_
    refine x_aald (pc2 := 30) hC hK b1 b2 (by omega) (by decide) (b5 1 (by decide)) dX0_takenOff_29 rfl ?_
    refine x_cVi (pc2 := 33) (ci := 4) hC hK (w_zero hA hS21 hG21 (r := 43) (by decide)) lk_536 rfl rfl (by decide) (by assumption) (by assumption) ⟨Nat.le_of_ble_eq_true rfl, Nat.le_of_ble_eq_true rfl⟩ ⟨Nat.le_refl _, Nat.le_refl _⟩ rfl (Nat.le_of_ble_eq_true rfl) dX0_takenOff_30 rfl ?_
    rintro z30 F30 A30 ⟨rfl, e130, e230⟩
    obtain rfl := e130.symm
    obtain rfl := e230.symm
    refine x_ifp_eq (tgt := 38) (pc2 := 36) hC dX0_takenOff_33 rfl rfl (fun h_33 => ?_) (fun h_33 => ?_)
    · have n1 : ((ldn (A 2) bA tone 1) 1).1 ≠ (0, 0) := by rw [← ena, ← ea1, ← q21_43]; assumption
      refine x_aload_n (pc2 := 39) hC rfl rfl dX0_takenOff_38 rfl ?_
      refine g_268 (pc2 := 42) hC hK (by assumption) (by assumption) (by assumption) dX0_takenOff_39 rfl ?_
      refine x_iconst (pc2 := 43) hC dX0_takenOff_42 rfl ?_
      refine x_aald (pc2 := 44) hC hK b1 b2 (by omega) (by decide) (b5 2 (by decide)) dX0_takenOff_43 rfl ?_
      refine x_cVi (pc2 := 47) (ci := 4) hC hK (w_zero hA hS21 hG21 (r := 54) (by decide)) lk_536 rfl rfl (by decide) (by assumption) (by assumption) ⟨Nat.le_of_ble_eq_true rfl, Nat.le_of_ble_eq_true rfl⟩ ⟨Nat.le_refl _, Nat.le_refl _⟩ rfl (Nat.le_of_ble_eq_true rfl) dX0_takenOff_44 rfl ?_
      rintro z44 F44 A44 ⟨rfl, e144, e244⟩
      obtain rfl := e144.symm
      obtain rfl := e244.symm
      refine x_ifp_eq (tgt := 52) (pc2 := 50) hC dX0_takenOff_47 rfl rfl (fun h_47 => ?_) (fun h_47 => ?_)
      · have n2b : ((ldn (A 2) bA tone 1) 2).1 ≠ (0, 0) := by rw [← ena, ← ea2, ← q21_54]; assumption
        refine x_aload_n (pc2 := 53) hC rfl rfl dX0_takenOff_52 rfl ?_
        refine g_274 (pc2 := 56) hC hK (by assumption) (by assumption) (by assumption) dX0_takenOff_53 rfl ?_
        refine x_aload_n (pc2 := 57) hC rfl rfl dX0_takenOff_56 rfl ?_
        refine g_269 (pc2 := 60) hC hK (by assumption) (by assumption) (by assumption) dX0_takenOff_57 rfl ?_
        refine x_iconst (pc2 := 61) hC dX0_takenOff_60 rfl ?_
        refine x_aald (pc2 := 62) hC hK b3 b4 (by omega) (by decide) (b6 0 (by decide)) dX0_takenOff_61 rfl ?_
        refine x_aload_n (pc2 := 63) hC rfl rfl dX0_takenOff_62 rfl ?_
        refine g_268 (pc2 := 66) hC hK (by assumption) (by assumption) (by assumption) dX0_takenOff_63 rfl ?_
        refine x_iconst (pc2 := 67) hC dX0_takenOff_66 rfl ?_
        refine x_aald (pc2 := 68) hC hK b1 b2 (by omega) (by decide) (b5 0 (by decide)) dX0_takenOff_67 rfl ?_
        refine x_iconst (pc2 := 69) hC dX0_takenOff_68 rfl ?_
        refine x_cVv (pc2 := 72) (ci := 4) hC hK (y_sum l hA hS21 hG21 (r := 165) (x := 77) (y := 32) (by decide) (by decide) (by decide) (by decide) (by decide) (Or.inr rfl) q21_77 q21_32 o_xb0 o_xa0 ⟨Nat.le_of_ble_eq_true rfl, Nat.le_of_ble_eq_true rfl⟩) lk_528 rfl rfl (by decide) (by assumption) (by assumption) ⟨Nat.le_of_ble_eq_true rfl, Nat.le_of_ble_eq_true rfl⟩ ⟨Nat.le_refl _, Nat.le_refl _⟩ rfl (Nat.le_of_ble_eq_true rfl) dX0_takenOff_69 rfl ?_
        rintro F69 A69 hq
        obtain ⟨V69, hS69, hG69, hgl69, hb69, hf69, hd69⟩ := AS.step hA hgl21 hb21 hf21 hd21 hq
        clear hq
        obtain ⟨v69, e_v69⟩ : ∃ v, v = rsum (-1) xb0 xa0 := ⟨_, rfl⟩
        have o_v69 : OKq 52 v69 := by rw [e_v69]; exact ok_sum  (Or.inr rfl) o_xb0 o_xa0 (Nat.le_of_ble_eq_true rfl)
        rw [← e_v69] at hG69
        obtain ⟨G69, eG⟩ : ∃ g, g = upG G21 165 v69 := ⟨_, rfl⟩
        rw [← eG] at hG69
        have q69_43 : G69 43 = xa1 := by rw [eG]; exact (upG_ne (by decide)).trans q21_43
        have q69_54 : G69 54 = xa2 := by rw [eG]; exact (upG_ne (by decide)).trans q21_54
        have q69_65 : G69 65 = xa3 := by rw [eG]; exact (upG_ne (by decide)).trans q21_65
        have q69_88 : G69 88 = xb1 := by rw [eG]; exact (upG_ne (by decide)).trans q21_88
        have q69_99 : G69 99 = xb2 := by rw [eG]; exact (upG_ne (by decide)).trans q21_99
        have q69_110 : G69 110 = xb3 := by rw [eG]; exact (upG_ne (by decide)).trans q21_110
        have q69_121 : G69 121 = oneq := by rw [eG]; exact (upG_ne (by decide)).trans q21_121
        have q69_132 : G69 132 = quartq := by rw [eG]; exact (upG_ne (by decide)).trans q21_132
        have q69_165 : G69 165 = v69 := by rw [eG]; exact upG_eq
        clear eG
        refine x_aload_n (pc2 := 73) hC rfl rfl dX0_takenOff_72 rfl ?_
        refine g_275 (pc2 := 76) hC hK (by assumption) (by assumption) (by assumption) dX0_takenOff_73 rfl ?_
        refine x_aload_n (pc2 := 77) hC rfl rfl dX0_takenOff_76 rfl ?_
        refine g_268 (pc2 := 80) hC hK (by assumption) (by assumption) (by assumption) dX0_takenOff_77 rfl ?_
        refine x_iconst (pc2 := 81) hC dX0_takenOff_80 rfl ?_
        refine x_aald (pc2 := 82) hC hK b1 b2 (by omega) (by decide) (b5 1 (by decide)) dX0_takenOff_81 rfl ?_
        refine x_aload_n (pc2 := 83) hC rfl rfl dX0_takenOff_82 rfl ?_
        refine g_268 (pc2 := 86) hC hK (by assumption) (by assumption) (by assumption) dX0_takenOff_83 rfl ?_
        refine x_iconst (pc2 := 87) hC dX0_takenOff_86 rfl ?_
        refine x_aald (pc2 := 88) hC hK b1 b2 (by omega) (by decide) (b5 2 (by decide)) dX0_takenOff_87 rfl ?_
        refine x_cVv (pc2 := 91) (ci := 4) hC hK (y_product l hA hS69 hG69 (r := 176) (x := 43) (y := 54) (by decide) (by decide) (by decide) (by decide) (by decide) q69_43 q69_54 o_xa1 o_xa2 ⟨Nat.le_of_ble_eq_true rfl, Nat.le_of_ble_eq_true rfl⟩) lk_488 rfl rfl (by decide) (by assumption) (by assumption) ⟨Nat.le_of_ble_eq_true rfl, Nat.le_of_ble_eq_true rfl⟩ ⟨Nat.le_refl _, Nat.le_refl _⟩ rfl (Nat.le_of_ble_eq_true rfl) dX0_takenOff_88 rfl ?_
        rintro F88 A88 hq
        obtain ⟨V88, hS88, hG88, hgl88, hb88, hf88, hd88⟩ := AS.step hA hgl69 hb69 hf69 hd69 hq
        clear hq
        obtain ⟨v88, e_v88⟩ : ∃ v, v = rmul xa1 xa2 := ⟨_, rfl⟩
        have o_v88 : OKq 51 v88 := by rw [e_v88]; exact ok_mul o_xa1 o_xa2 (Nat.le_of_ble_eq_true rfl)
        rw [← e_v88] at hG88
        obtain ⟨G88, eG⟩ : ∃ g, g = upG G69 176 v88 := ⟨_, rfl⟩
        rw [← eG] at hG88
        have q88_43 : G88 43 = xa1 := by rw [eG]; exact (upG_ne (by decide)).trans q69_43
        have q88_54 : G88 54 = xa2 := by rw [eG]; exact (upG_ne (by decide)).trans q69_54
        have q88_65 : G88 65 = xa3 := by rw [eG]; exact (upG_ne (by decide)).trans q69_65
        have q88_88 : G88 88 = xb1 := by rw [eG]; exact (upG_ne (by decide)).trans q69_88
        have q88_99 : G88 99 = xb2 := by rw [eG]; exact (upG_ne (by decide)).trans q69_99
        have q88_110 : G88 110 = xb3 := by rw [eG]; exact (upG_ne (by decide)).trans q69_110
        have q88_121 : G88 121 = oneq := by rw [eG]; exact (upG_ne (by decide)).trans q69_121
        have q88_132 : G88 132 = quartq := by rw [eG]; exact (upG_ne (by decide)).trans q69_132
        have q88_165 : G88 165 = v69 := by rw [eG]; exact (upG_ne (by decide)).trans q69_165
        have q88_176 : G88 176 = v88 := by rw [eG]; exact upG_eq
        clear eG
        refine x_aload_n (pc2 := 92) hC rfl rfl dX0_takenOff_91 rfl ?_
        refine g_276 (pc2 := 95) hC hK (by assumption) (by assumption) (by assumption) dX0_takenOff_92 rfl ?_
        refine x_aload_n (pc2 := 96) hC rfl rfl dX0_takenOff_95 rfl ?_
        refine g_268 (pc2 := 99) hC hK (by assumption) (by assumption) (by assumption) dX0_takenOff_96 rfl ?_
        refine x_iconst (pc2 := 100) hC dX0_takenOff_99 rfl ?_
        refine x_aald (pc2 := 101) hC hK b1 b2 (by omega) (by decide) (b5 3 (by decide)) dX0_takenOff_100 rfl ?_
        refine x_aload_n (pc2 := 102) hC rfl rfl dX0_takenOff_101 rfl ?_
        refine g_274 (pc2 := 105) hC hK (by assumption) (by assumption) (by assumption) dX0_takenOff_102 rfl ?_
        refine x_cVv (pc2 := 108) (ci := 4) hC hK (y_product l hA hS88 hG88 (r := 187) (x := 65) (y := 165) (by decide) (by decide) (by decide) (by decide) (by decide) q88_65 q88_165 o_xa3 o_v69 ⟨Nat.le_of_ble_eq_true rfl, Nat.le_of_ble_eq_true rfl⟩) lk_488 rfl rfl (by decide) (by assumption) (by assumption) ⟨Nat.le_of_ble_eq_true rfl, Nat.le_of_ble_eq_true rfl⟩ ⟨Nat.le_refl _, Nat.le_refl _⟩ rfl (Nat.le_of_ble_eq_true rfl) dX0_takenOff_105 rfl ?_
        rintro F105 A105 hq
        obtain ⟨V105, hS105, hG105, hgl105, hb105, hf105, hd105⟩ := AS.step hA hgl88 hb88 hf88 hd88 hq
        clear hq
        obtain ⟨v105, e_v105⟩ : ∃ v, v = rmul xa3 v69 := ⟨_, rfl⟩
        have o_v105 : OKq 78 v105 := by rw [e_v105]; exact ok_mul o_xa3 o_v69 (Nat.le_of_ble_eq_true rfl)
        rw [← e_v105] at hG105
        obtain ⟨G105, eG⟩ : ∃ g, g = upG G88 187 v105 := ⟨_, rfl⟩
        rw [← eG] at hG105
        have q105_43 : G105 43 = xa1 := by rw [eG]; exact (upG_ne (by decide)).trans q88_43
        have q105_54 : G105 54 = xa2 := by rw [eG]; exact (upG_ne (by decide)).trans q88_54
        have q105_65 : G105 65 = xa3 := by rw [eG]; exact (upG_ne (by decide)).trans q88_65
        have q105_88 : G105 88 = xb1 := by rw [eG]; exact (upG_ne (by decide)).trans q88_88
        have q105_99 : G105 99 = xb2 := by rw [eG]; exact (upG_ne (by decide)).trans q88_99
        have q105_110 : G105 110 = xb3 := by rw [eG]; exact (upG_ne (by decide)).trans q88_110
        have q105_121 : G105 121 = oneq := by rw [eG]; exact (upG_ne (by decide)).trans q88_121
        have q105_132 : G105 132 = quartq := by rw [eG]; exact (upG_ne (by decide)).trans q88_132
        have q105_165 : G105 165 = v69 := by rw [eG]; exact (upG_ne (by decide)).trans q88_165
        have q105_176 : G105 176 = v88 := by rw [eG]; exact (upG_ne (by decide)).trans q88_176
        have q105_187 : G105 187 = v105 := by rw [eG]; exact upG_eq
        clear eG
        refine x_aload_n (pc2 := 109) hC rfl rfl dX0_takenOff_108 rfl ?_
        refine g_273 (pc2 := 112) hC hK (by assumption) (by assumption) (by assumption) dX0_takenOff_109 rfl ?_
        refine x_aload_n (pc2 := 113) hC rfl rfl dX0_takenOff_112 rfl ?_
        refine g_275 (pc2 := 116) hC hK (by assumption) (by assumption) (by assumption) dX0_takenOff_113 rfl ?_
        refine x_aload_n (pc2 := 117) hC rfl rfl dX0_takenOff_116 rfl ?_
        refine g_276 (pc2 := 120) hC hK (by assumption) (by assumption) (by assumption) dX0_takenOff_117 rfl ?_
        refine x_iconst (pc2 := 121) hC dX0_takenOff_120 rfl ?_
        refine x_cVv (pc2 := 124) (ci := 4) hC hK (y_sum l hA hS105 hG105 (r := 154) (x := 176) (y := 187) (by decide) (by decide) (by decide) (by decide) (by decide) (Or.inl rfl) q105_176 q105_187 o_v88 o_v105 ⟨Nat.le_of_ble_eq_true rfl, Nat.le_of_ble_eq_true rfl⟩) lk_528 rfl rfl (by decide) (by assumption) (by assumption) ⟨Nat.le_of_ble_eq_true rfl, Nat.le_of_ble_eq_true rfl⟩ ⟨Nat.le_refl _, Nat.le_refl _⟩ rfl (Nat.le_of_ble_eq_true rfl) dX0_takenOff_121 rfl ?_
        rintro F121 A121 hq
        obtain ⟨V121, hS121, hG121, hgl121, hb121, hf121, hd121⟩ := AS.step hA hgl105 hb105 hf105 hd105 hq
        clear hq
        obtain ⟨v121, e_v121⟩ : ∃ v, v = rsum (1) v88 v105 := ⟨_, rfl⟩
        have o_v121 : OKq 131 v121 := by rw [e_v121]; exact ok_sum  (Or.inl rfl) o_v88 o_v105 (Nat.le_of_ble_eq_true rfl)
        rw [← e_v121] at hG121
        obtain ⟨G121, eG⟩ : ∃ g, g = upG G105 154 v121 := ⟨_, rfl⟩
        rw [← eG] at hG121
        have q121_43 : G121 43 = xa1 := by rw [eG]; exact (upG_ne (by decide)).trans q105_43
        have q121_54 : G121 54 = xa2 := by rw [eG]; exact (upG_ne (by decide)).trans q105_54
        have q121_65 : G121 65 = xa3 := by rw [eG]; exact (upG_ne (by decide)).trans q105_65
        have q121_88 : G121 88 = xb1 := by rw [eG]; exact (upG_ne (by decide)).trans q105_88
        have q121_99 : G121 99 = xb2 := by rw [eG]; exact (upG_ne (by decide)).trans q105_99
        have q121_110 : G121 110 = xb3 := by rw [eG]; exact (upG_ne (by decide)).trans q105_110
        have q121_121 : G121 121 = oneq := by rw [eG]; exact (upG_ne (by decide)).trans q105_121
        have q121_132 : G121 132 = quartq := by rw [eG]; exact (upG_ne (by decide)).trans q105_132
        have q121_154 : G121 154 = v121 := by rw [eG]; exact upG_eq
        have q121_165 : G121 165 = v69 := by rw [eG]; exact (upG_ne (by decide)).trans q105_165
        clear eG
        refine x_aload_n (pc2 := 125) hC rfl rfl dX0_takenOff_124 rfl ?_
        refine g_273 (pc2 := 128) hC hK (by assumption) (by assumption) (by assumption) dX0_takenOff_125 rfl ?_
        refine x_cVi (pc2 := 131) (ci := 4) hC hK (w_zero hA hS121 hG121 (r := 154) (by decide)) lk_536 rfl rfl (by decide) (by assumption) (by assumption) ⟨Nat.le_of_ble_eq_true rfl, Nat.le_of_ble_eq_true rfl⟩ ⟨Nat.le_refl _, Nat.le_refl _⟩ rfl (Nat.le_of_ble_eq_true rfl) dX0_takenOff_128 rfl ?_
        rintro z128 F128 A128 ⟨rfl, e1128, e2128⟩
        obtain rfl := e1128.symm
        obtain rfl := e2128.symm
        refine x_ifp_eq (tgt := 136) (pc2 := 134) hC dX0_takenOff_131 rfl rfl (fun h_131 => ?_) (fun h_131 => ?_)
        · have nz_v121 : v121.1 ≠ (0, 0) := by rw [← q121_154]; assumption
          have n3b : (takeF (ldn (A 2) bA tone 1) (ldn (A 2) bB tone 1)).1 ≠ (0, 0) := by
            rw [takeF, takeG, ← ena, ← enb, ← ea0, ← ea1, ← ea2, ← ea3, ← eb0, ← e_v69, ← e_v88, ← e_v105, ← e_v121]; exact nz_v121
          refine x_aload_n (pc2 := 137) hC rfl rfl dX0_takenOff_136 rfl ?_
          refine g_276 (pc2 := 140) hC hK (by assumption) (by assumption) (by assumption) dX0_takenOff_137 rfl ?_
          refine x_aload_n (pc2 := 141) hC rfl rfl dX0_takenOff_140 rfl ?_
          refine g_274 (pc2 := 144) hC hK (by assumption) (by assumption) (by assumption) dX0_takenOff_141 rfl ?_
          refine x_aload_n (pc2 := 145) hC rfl rfl dX0_takenOff_144 rfl ?_
          refine g_273 (pc2 := 148) hC hK (by assumption) (by assumption) (by assumption) dX0_takenOff_145 rfl ?_
          refine x_cVv (pc2 := 151) (ci := 4) hC hK (y_quotient l hA hS121 hG121 (r := 187) (x := 165) (y := 154) (by decide) (by decide) (by decide) (by decide) (by decide) q121_165 q121_154 o_v69 o_v121 ⟨Nat.le_of_ble_eq_true rfl, Nat.le_of_ble_eq_true rfl⟩) lk_544 rfl rfl (by decide) (by assumption) (by assumption) ⟨Nat.le_of_ble_eq_true rfl, Nat.le_of_ble_eq_true rfl⟩ ⟨Nat.le_refl _, Nat.le_refl _⟩ rfl (Nat.le_of_ble_eq_true rfl) dX0_takenOff_148 rfl ?_
          rintro F148 A148 hq
          obtain ⟨V148, hS148, hG148, hgl148, hb148, hf148, hd148⟩ := AS.step hA hgl121 hb121 hf121 hd121 hq
          clear hq
          obtain ⟨v148, e_v148⟩ : ∃ v, v = rdiv v69 v121 := ⟨_, rfl⟩
          have o_v148 : OKq 184 v148 := by rw [e_v148]; exact ok_div o_v69 o_v121 nz_v121 (Nat.le_of_ble_eq_true rfl)
          rw [← e_v148] at hG148
          obtain ⟨G148, eG⟩ : ∃ g, g = upG G121 187 v148 := ⟨_, rfl⟩
          rw [← eG] at hG148
          have q148_43 : G148 43 = xa1 := by rw [eG]; exact (upG_ne (by decide)).trans q121_43
          have q148_54 : G148 54 = xa2 := by rw [eG]; exact (upG_ne (by decide)).trans q121_54
          have q148_65 : G148 65 = xa3 := by rw [eG]; exact (upG_ne (by decide)).trans q121_65
          have q148_88 : G148 88 = xb1 := by rw [eG]; exact (upG_ne (by decide)).trans q121_88
          have q148_99 : G148 99 = xb2 := by rw [eG]; exact (upG_ne (by decide)).trans q121_99
          have q148_110 : G148 110 = xb3 := by rw [eG]; exact (upG_ne (by decide)).trans q121_110
          have q148_121 : G148 121 = oneq := by rw [eG]; exact (upG_ne (by decide)).trans q121_121
          have q148_132 : G148 132 = quartq := by rw [eG]; exact (upG_ne (by decide)).trans q121_132
          have q148_154 : G148 154 = v121 := by rw [eG]; exact (upG_ne (by decide)).trans q121_154
          have q148_187 : G148 187 = v148 := by rw [eG]; exact upG_eq
          clear eG
          refine x_aload_n (pc2 := 152) hC rfl rfl dX0_takenOff_151 rfl ?_
          refine g_267 (pc2 := 155) hC hK (by assumption) (by assumption) (by assumption) dX0_takenOff_152 rfl ?_
          refine x_aload_n (pc2 := 156) hC rfl rfl dX0_takenOff_155 rfl ?_
          refine g_276 (pc2 := 159) hC hK (by assumption) (by assumption) (by assumption) dX0_takenOff_156 rfl ?_
          refine g_225 (pc2 := 162) hC hK (by assumption) (by assumption) (by assumption) dX0_takenOff_159 rfl ?_
          refine x_aload_n (pc2 := 163) hC rfl rfl dX0_takenOff_162 rfl ?_
          refine g_276 (pc2 := 166) hC hK (by assumption) (by assumption) (by assumption) dX0_takenOff_163 rfl ?_
          refine g_228 (pc2 := 169) hC hK (by assumption) (by assumption) (by assumption) dX0_takenOff_166 rfl ?_
          refine x_iload_n (pc2 := 170) hC rfl rfl dX0_takenOff_169 rfl ?_
          refine x_iload (pc2 := 172) hC rfl dX0_takenOff_170 rfl ?_
          refine x_if_eq (tgt := 179) (pc2 := 175) hC (by omega) dX0_takenOff_172 rfl rfl (fun h_172 => ?_) (fun h_172 => ?_)
          · exfalso; omega
          · refine x_iconst (pc2 := 176) hC dX0_takenOff_175 rfl ?_
            refine x_goto (pc2 := 180) hC dX0_takenOff_176 rfl ?_
            refine x_cVv (pc2 := 183) (ci := 3) hC hK (y_draft hA hS148 hG148 hgl148 hb148 hf148 hd148 (r := 187) (by decide) q148_187 o_v148 ⟨Nat.le_of_ble_eq_true rfl, Nat.le_of_ble_eq_true rfl⟩ ⟨Nat.le_of_ble_eq_true rfl, Nat.le_of_ble_eq_true rfl⟩ ht ⟨by decide, by decide⟩ (by simp only [List.mem_cons, List.not_mem_nil, or_false, forall_eq_or_imp, forall_eq, false_imp_iff, implies_true] <;> omega)) lk_548 rfl rfl (by decide) (by assumption) (by assumption) ⟨Nat.le_of_ble_eq_true rfl, Nat.le_of_ble_eq_true rfl⟩ ⟨Nat.le_refl _, Nat.le_refl _⟩ rfl (Nat.le_of_ble_eq_true rfl) dX0_takenOff_180 rfl ?_
            rintro F180 A180 hq
            obtain ⟨V180, hS180, hG180, hgl180, hb180, hf180, hd180⟩ := id hq
            clear hq
            have q180_43 := q148_43
            have q180_54 := q148_54
            have q180_65 := q148_65
            have q180_88 := q148_88
            have q180_99 := q148_99
            have q180_110 := q148_110
            have q180_121 := q148_121
            have q180_132 := q148_132
            have q180_154 := q148_154
            refine x_aload_n (pc2 := 184) hC rfl rfl dX0_takenOff_183 rfl ?_
            refine g_275 (pc2 := 187) hC hK (by assumption) (by assumption) (by assumption) dX0_takenOff_184 rfl ?_
            refine x_aload_n (pc2 := 188) hC rfl rfl dX0_takenOff_187 rfl ?_
            refine g_269 (pc2 := 191) hC hK (by assumption) (by assumption) (by assumption) dX0_takenOff_188 rfl ?_
            refine x_iconst (pc2 := 192) hC dX0_takenOff_191 rfl ?_
            refine x_aald (pc2 := 193) hC hK b3 b4 (by omega) (by decide) (b6 1 (by decide)) dX0_takenOff_192 rfl ?_
            refine x_aload_n (pc2 := 194) hC rfl rfl dX0_takenOff_193 rfl ?_
            refine g_268 (pc2 := 197) hC hK (by assumption) (by assumption) (by assumption) dX0_takenOff_194 rfl ?_
            refine x_iconst (pc2 := 198) hC dX0_takenOff_197 rfl ?_
            refine x_aald (pc2 := 199) hC hK b1 b2 (by omega) (by decide) (b5 2 (by decide)) dX0_takenOff_198 rfl ?_
            refine x_cVv (pc2 := 202) (ci := 4) hC hK (y_product l hA hS180 hG180 (r := 176) (x := 88) (y := 54) (by decide) (by decide) (by decide) (by decide) (by decide) q180_88 q180_54 o_xb1 o_xa2 ⟨Nat.le_of_ble_eq_true rfl, Nat.le_of_ble_eq_true rfl⟩) lk_488 rfl rfl (by decide) (by assumption) (by assumption) ⟨Nat.le_of_ble_eq_true rfl, Nat.le_of_ble_eq_true rfl⟩ ⟨Nat.le_refl _, Nat.le_refl _⟩ rfl (Nat.le_of_ble_eq_true rfl) dX0_takenOff_199 rfl ?_
            rintro F199 A199 hq
            obtain ⟨V199, hS199, hG199, hgl199, hb199, hf199, hd199⟩ := AS.step hA hgl180 hb180 hf180 hd180 hq
            clear hq
            obtain ⟨v199, e_v199⟩ : ∃ v, v = rmul xb1 xa2 := ⟨_, rfl⟩
            have o_v199 : OKq 51 v199 := by rw [e_v199]; exact ok_mul o_xb1 o_xa2 (Nat.le_of_ble_eq_true rfl)
            rw [← e_v199] at hG199
            obtain ⟨G199, eG⟩ : ∃ g, g = upG G148 176 v199 := ⟨_, rfl⟩
            rw [← eG] at hG199
            have q199_43 : G199 43 = xa1 := by rw [eG]; exact (upG_ne (by decide)).trans q180_43
            have q199_65 : G199 65 = xa3 := by rw [eG]; exact (upG_ne (by decide)).trans q180_65
            have q199_88 : G199 88 = xb1 := by rw [eG]; exact (upG_ne (by decide)).trans q180_88
            have q199_99 : G199 99 = xb2 := by rw [eG]; exact (upG_ne (by decide)).trans q180_99
            have q199_110 : G199 110 = xb3 := by rw [eG]; exact (upG_ne (by decide)).trans q180_110
            have q199_121 : G199 121 = oneq := by rw [eG]; exact (upG_ne (by decide)).trans q180_121
            have q199_132 : G199 132 = quartq := by rw [eG]; exact (upG_ne (by decide)).trans q180_132
            have q199_154 : G199 154 = v121 := by rw [eG]; exact (upG_ne (by decide)).trans q180_154
            have q199_176 : G199 176 = v199 := by rw [eG]; exact upG_eq
            clear eG
            refine x_aload_n (pc2 := 203) hC rfl rfl dX0_takenOff_202 rfl ?_
            refine g_276 (pc2 := 206) hC hK (by assumption) (by assumption) (by assumption) dX0_takenOff_203 rfl ?_
            refine x_aload_n (pc2 := 207) hC rfl rfl dX0_takenOff_206 rfl ?_
            refine g_275 (pc2 := 210) hC hK (by assumption) (by assumption) (by assumption) dX0_takenOff_207 rfl ?_
            refine x_aload_n (pc2 := 211) hC rfl rfl dX0_takenOff_210 rfl ?_
            refine g_273 (pc2 := 214) hC hK (by assumption) (by assumption) (by assumption) dX0_takenOff_211 rfl ?_
            refine x_cVv (pc2 := 217) (ci := 4) hC hK (y_quotient l hA hS199 hG199 (r := 187) (x := 176) (y := 154) (by decide) (by decide) (by decide) (by decide) (by decide) q199_176 q199_154 o_v199 o_v121 ⟨Nat.le_of_ble_eq_true rfl, Nat.le_of_ble_eq_true rfl⟩) lk_544 rfl rfl (by decide) (by assumption) (by assumption) ⟨Nat.le_of_ble_eq_true rfl, Nat.le_of_ble_eq_true rfl⟩ ⟨Nat.le_refl _, Nat.le_refl _⟩ rfl (Nat.le_of_ble_eq_true rfl) dX0_takenOff_214 rfl ?_
            rintro F214 A214 hq
            obtain ⟨V214, hS214, hG214, hgl214, hb214, hf214, hd214⟩ := AS.step hA hgl199 hb199 hf199 hd199 hq
            clear hq
            obtain ⟨v214, e_v214⟩ : ∃ v, v = rdiv v199 v121 := ⟨_, rfl⟩
            have o_v214 : OKq 183 v214 := by rw [e_v214]; exact ok_div o_v199 o_v121 nz_v121 (Nat.le_of_ble_eq_true rfl)
            rw [← e_v214] at hG214
            obtain ⟨G214, eG⟩ : ∃ g, g = upG G199 187 v214 := ⟨_, rfl⟩
            rw [← eG] at hG214
            have q214_43 : G214 43 = xa1 := by rw [eG]; exact (upG_ne (by decide)).trans q199_43
            have q214_65 : G214 65 = xa3 := by rw [eG]; exact (upG_ne (by decide)).trans q199_65
            have q214_88 : G214 88 = xb1 := by rw [eG]; exact (upG_ne (by decide)).trans q199_88
            have q214_99 : G214 99 = xb2 := by rw [eG]; exact (upG_ne (by decide)).trans q199_99
            have q214_110 : G214 110 = xb3 := by rw [eG]; exact (upG_ne (by decide)).trans q199_110
            have q214_121 : G214 121 = oneq := by rw [eG]; exact (upG_ne (by decide)).trans q199_121
            have q214_132 : G214 132 = quartq := by rw [eG]; exact (upG_ne (by decide)).trans q199_132
            have q214_154 : G214 154 = v121 := by rw [eG]; exact (upG_ne (by decide)).trans q199_154
            have q214_187 : G214 187 = v214 := by rw [eG]; exact upG_eq
            clear eG
            refine x_aload_n (pc2 := 218) hC rfl rfl dX0_takenOff_217 rfl ?_
            refine g_267 (pc2 := 221) hC hK (by assumption) (by assumption) (by assumption) dX0_takenOff_218 rfl ?_
            refine x_aload_n (pc2 := 222) hC rfl rfl dX0_takenOff_221 rfl ?_
            refine g_276 (pc2 := 225) hC hK (by assumption) (by assumption) (by assumption) dX0_takenOff_222 rfl ?_
            refine g_225 (pc2 := 228) hC hK (by assumption) (by assumption) (by assumption) dX0_takenOff_225 rfl ?_
            refine x_aload_n (pc2 := 229) hC rfl rfl dX0_takenOff_228 rfl ?_
            refine g_276 (pc2 := 232) hC hK (by assumption) (by assumption) (by assumption) dX0_takenOff_229 rfl ?_
            refine g_228 (pc2 := 235) hC hK (by assumption) (by assumption) (by assumption) dX0_takenOff_232 rfl ?_
            refine x_iload_n (pc2 := 236) hC rfl rfl dX0_takenOff_235 rfl ?_
            refine x_iload (pc2 := 238) hC rfl dX0_takenOff_236 rfl ?_
            refine x_if_eq (tgt := 245) (pc2 := 241) hC (by omega) dX0_takenOff_238 rfl rfl (fun h_238 => ?_) (fun h_238 => ?_)
            · exfalso; omega
            · refine x_iconst (pc2 := 242) hC dX0_takenOff_241 rfl ?_
              refine x_goto (pc2 := 246) hC dX0_takenOff_242 rfl ?_
              refine x_cVv (pc2 := 249) (ci := 3) hC hK (y_draft hA hS214 hG214 hgl214 hb214 hf214 hd214 (r := 187) (by decide) q214_187 o_v214 ⟨Nat.le_of_ble_eq_true rfl, Nat.le_of_ble_eq_true rfl⟩ ⟨Nat.le_of_ble_eq_true rfl, Nat.le_of_ble_eq_true rfl⟩ ht ⟨by decide, by decide⟩ (by simp only [List.mem_cons, List.not_mem_nil, or_false, forall_eq_or_imp, forall_eq, false_imp_iff, implies_true] <;> omega)) lk_548 rfl rfl (by decide) (by assumption) (by assumption) ⟨Nat.le_of_ble_eq_true rfl, Nat.le_of_ble_eq_true rfl⟩ ⟨Nat.le_refl _, Nat.le_refl _⟩ rfl (Nat.le_of_ble_eq_true rfl) dX0_takenOff_246 rfl ?_
              rintro F246 A246 hq
              obtain ⟨V246, hS246, hG246, hgl246, hb246, hf246, hd246⟩ := id hq
              clear hq
              have q246_43 := q214_43
              have q246_65 := q214_65
              have q246_88 := q214_88
              have q246_99 := q214_99
              have q246_110 := q214_110
              have q246_121 := q214_121
              have q246_132 := q214_132
              have q246_154 := q214_154
              refine x_aload_n (pc2 := 250) hC rfl rfl dX0_takenOff_249 rfl ?_
              refine g_275 (pc2 := 253) hC hK (by assumption) (by assumption) (by assumption) dX0_takenOff_250 rfl ?_
              refine x_aload_n (pc2 := 254) hC rfl rfl dX0_takenOff_253 rfl ?_
              refine g_269 (pc2 := 257) hC hK (by assumption) (by assumption) (by assumption) dX0_takenOff_254 rfl ?_
              refine x_iconst (pc2 := 258) hC dX0_takenOff_257 rfl ?_
              refine x_aald (pc2 := 259) hC hK b3 b4 (by omega) (by decide) (b6 2 (by decide)) dX0_takenOff_258 rfl ?_
              refine x_aload_n (pc2 := 260) hC rfl rfl dX0_takenOff_259 rfl ?_
              refine g_268 (pc2 := 263) hC hK (by assumption) (by assumption) (by assumption) dX0_takenOff_260 rfl ?_
              refine x_iconst (pc2 := 264) hC dX0_takenOff_263 rfl ?_
              refine x_aald (pc2 := 265) hC hK b1 b2 (by omega) (by decide) (b5 1 (by decide)) dX0_takenOff_264 rfl ?_
              refine x_cVv (pc2 := 268) (ci := 4) hC hK (y_product l hA hS246 hG246 (r := 176) (x := 99) (y := 43) (by decide) (by decide) (by decide) (by decide) (by decide) q246_99 q246_43 o_xb2 o_xa1 ⟨Nat.le_of_ble_eq_true rfl, Nat.le_of_ble_eq_true rfl⟩) lk_488 rfl rfl (by decide) (by assumption) (by assumption) ⟨Nat.le_of_ble_eq_true rfl, Nat.le_of_ble_eq_true rfl⟩ ⟨Nat.le_refl _, Nat.le_refl _⟩ rfl (Nat.le_of_ble_eq_true rfl) dX0_takenOff_265 rfl ?_
              rintro F265 A265 hq
              obtain ⟨V265, hS265, hG265, hgl265, hb265, hf265, hd265⟩ := AS.step hA hgl246 hb246 hf246 hd246 hq
              clear hq
              obtain ⟨v265, e_v265⟩ : ∃ v, v = rmul xb2 xa1 := ⟨_, rfl⟩
              have o_v265 : OKq 51 v265 := by rw [e_v265]; exact ok_mul o_xb2 o_xa1 (Nat.le_of_ble_eq_true rfl)
              rw [← e_v265] at hG265
              obtain ⟨G265, eG⟩ : ∃ g, g = upG G214 176 v265 := ⟨_, rfl⟩
              rw [← eG] at hG265
              have q265_65 : G265 65 = xa3 := by rw [eG]; exact (upG_ne (by decide)).trans q246_65
              have q265_88 : G265 88 = xb1 := by rw [eG]; exact (upG_ne (by decide)).trans q246_88
              have q265_99 : G265 99 = xb2 := by rw [eG]; exact (upG_ne (by decide)).trans q246_99
              have q265_110 : G265 110 = xb3 := by rw [eG]; exact (upG_ne (by decide)).trans q246_110
              have q265_121 : G265 121 = oneq := by rw [eG]; exact (upG_ne (by decide)).trans q246_121
              have q265_132 : G265 132 = quartq := by rw [eG]; exact (upG_ne (by decide)).trans q246_132
              have q265_154 : G265 154 = v121 := by rw [eG]; exact (upG_ne (by decide)).trans q246_154
              have q265_176 : G265 176 = v265 := by rw [eG]; exact upG_eq
              clear eG
              refine x_aload_n (pc2 := 269) hC rfl rfl dX0_takenOff_268 rfl ?_
              refine g_276 (pc2 := 272) hC hK (by assumption) (by assumption) (by assumption) dX0_takenOff_269 rfl ?_
              refine x_aload_n (pc2 := 273) hC rfl rfl dX0_takenOff_272 rfl ?_
              refine g_275 (pc2 := 276) hC hK (by assumption) (by assumption) (by assumption) dX0_takenOff_273 rfl ?_
              refine x_aload_n (pc2 := 277) hC rfl rfl dX0_takenOff_276 rfl ?_
              refine g_273 (pc2 := 280) hC hK (by assumption) (by assumption) (by assumption) dX0_takenOff_277 rfl ?_
              refine x_cVv (pc2 := 283) (ci := 4) hC hK (y_quotient l hA hS265 hG265 (r := 187) (x := 176) (y := 154) (by decide) (by decide) (by decide) (by decide) (by decide) q265_176 q265_154 o_v265 o_v121 ⟨Nat.le_of_ble_eq_true rfl, Nat.le_of_ble_eq_true rfl⟩) lk_544 rfl rfl (by decide) (by assumption) (by assumption) ⟨Nat.le_of_ble_eq_true rfl, Nat.le_of_ble_eq_true rfl⟩ ⟨Nat.le_refl _, Nat.le_refl _⟩ rfl (Nat.le_of_ble_eq_true rfl) dX0_takenOff_280 rfl ?_
              rintro F280 A280 hq
              obtain ⟨V280, hS280, hG280, hgl280, hb280, hf280, hd280⟩ := AS.step hA hgl265 hb265 hf265 hd265 hq
              clear hq
              obtain ⟨v280, e_v280⟩ : ∃ v, v = rdiv v265 v121 := ⟨_, rfl⟩
              have o_v280 : OKq 183 v280 := by rw [e_v280]; exact ok_div o_v265 o_v121 nz_v121 (Nat.le_of_ble_eq_true rfl)
              rw [← e_v280] at hG280
              obtain ⟨G280, eG⟩ : ∃ g, g = upG G265 187 v280 := ⟨_, rfl⟩
              rw [← eG] at hG280
              have q280_65 : G280 65 = xa3 := by rw [eG]; exact (upG_ne (by decide)).trans q265_65
              have q280_88 : G280 88 = xb1 := by rw [eG]; exact (upG_ne (by decide)).trans q265_88
              have q280_99 : G280 99 = xb2 := by rw [eG]; exact (upG_ne (by decide)).trans q265_99
              have q280_110 : G280 110 = xb3 := by rw [eG]; exact (upG_ne (by decide)).trans q265_110
              have q280_121 : G280 121 = oneq := by rw [eG]; exact (upG_ne (by decide)).trans q265_121
              have q280_132 : G280 132 = quartq := by rw [eG]; exact (upG_ne (by decide)).trans q265_132
              have q280_154 : G280 154 = v121 := by rw [eG]; exact (upG_ne (by decide)).trans q265_154
              have q280_187 : G280 187 = v280 := by rw [eG]; exact upG_eq
              clear eG
              refine x_aload_n (pc2 := 284) hC rfl rfl dX0_takenOff_283 rfl ?_
              refine g_267 (pc2 := 287) hC hK (by assumption) (by assumption) (by assumption) dX0_takenOff_284 rfl ?_
              refine x_aload_n (pc2 := 288) hC rfl rfl dX0_takenOff_287 rfl ?_
              refine g_276 (pc2 := 291) hC hK (by assumption) (by assumption) (by assumption) dX0_takenOff_288 rfl ?_
              refine g_225 (pc2 := 294) hC hK (by assumption) (by assumption) (by assumption) dX0_takenOff_291 rfl ?_
              refine x_aload_n (pc2 := 295) hC rfl rfl dX0_takenOff_294 rfl ?_
              refine g_276 (pc2 := 298) hC hK (by assumption) (by assumption) (by assumption) dX0_takenOff_295 rfl ?_
              refine g_228 (pc2 := 301) hC hK (by assumption) (by assumption) (by assumption) dX0_takenOff_298 rfl ?_
              refine x_iload_n (pc2 := 302) hC rfl rfl dX0_takenOff_301 rfl ?_
              refine x_iload (pc2 := 304) hC rfl dX0_takenOff_302 rfl ?_
              refine x_if_eq (tgt := 311) (pc2 := 307) hC (by omega) dX0_takenOff_304 rfl rfl (fun h_304 => ?_) (fun h_304 => ?_)
              · exfalso; omega
              · refine x_iconst (pc2 := 308) hC dX0_takenOff_307 rfl ?_
                refine x_goto (pc2 := 312) hC dX0_takenOff_308 rfl ?_
                refine x_cVv (pc2 := 315) (ci := 3) hC hK (y_draft hA hS280 hG280 hgl280 hb280 hf280 hd280 (r := 187) (by decide) q280_187 o_v280 ⟨Nat.le_of_ble_eq_true rfl, Nat.le_of_ble_eq_true rfl⟩ ⟨Nat.le_of_ble_eq_true rfl, Nat.le_of_ble_eq_true rfl⟩ ht ⟨by decide, by decide⟩ (by simp only [List.mem_cons, List.not_mem_nil, or_false, forall_eq_or_imp, forall_eq, false_imp_iff, implies_true] <;> omega)) lk_548 rfl rfl (by decide) (by assumption) (by assumption) ⟨Nat.le_of_ble_eq_true rfl, Nat.le_of_ble_eq_true rfl⟩ ⟨Nat.le_refl _, Nat.le_refl _⟩ rfl (Nat.le_of_ble_eq_true rfl) dX0_takenOff_312 rfl ?_
                rintro F312 A312 hq
                obtain ⟨V312, hS312, hG312, hgl312, hb312, hf312, hd312⟩ := id hq
                clear hq
                have q312_65 := q280_65
                have q312_88 := q280_88
                have q312_99 := q280_99
                have q312_110 := q280_110
                have q312_121 := q280_121
                have q312_132 := q280_132
                have q312_154 := q280_154
                refine x_aload_n (pc2 := 316) hC rfl rfl dX0_takenOff_315 rfl ?_
                refine g_275 (pc2 := 319) hC hK (by assumption) (by assumption) (by assumption) dX0_takenOff_316 rfl ?_
                refine x_aload_n (pc2 := 320) hC rfl rfl dX0_takenOff_319 rfl ?_
                refine g_269 (pc2 := 323) hC hK (by assumption) (by assumption) (by assumption) dX0_takenOff_320 rfl ?_
                refine x_iconst (pc2 := 324) hC dX0_takenOff_323 rfl ?_
                refine x_aald (pc2 := 325) hC hK b3 b4 (by omega) (by decide) (b6 1 (by decide)) dX0_takenOff_324 rfl ?_
                refine x_aload_n (pc2 := 326) hC rfl rfl dX0_takenOff_325 rfl ?_
                refine g_269 (pc2 := 329) hC hK (by assumption) (by assumption) (by assumption) dX0_takenOff_326 rfl ?_
                refine x_iconst (pc2 := 330) hC dX0_takenOff_329 rfl ?_
                refine x_aald (pc2 := 331) hC hK b3 b4 (by omega) (by decide) (b6 2 (by decide)) dX0_takenOff_330 rfl ?_
                refine x_cVv (pc2 := 334) (ci := 4) hC hK (y_product l hA hS312 hG312 (r := 176) (x := 88) (y := 99) (by decide) (by decide) (by decide) (by decide) (by decide) q312_88 q312_99 o_xb1 o_xb2 ⟨Nat.le_of_ble_eq_true rfl, Nat.le_of_ble_eq_true rfl⟩) lk_488 rfl rfl (by decide) (by assumption) (by assumption) ⟨Nat.le_of_ble_eq_true rfl, Nat.le_of_ble_eq_true rfl⟩ ⟨Nat.le_refl _, Nat.le_refl _⟩ rfl (Nat.le_of_ble_eq_true rfl) dX0_takenOff_331 rfl ?_
                rintro F331 A331 hq
                obtain ⟨V331, hS331, hG331, hgl331, hb331, hf331, hd331⟩ := AS.step hA hgl312 hb312 hf312 hd312 hq
                clear hq
                obtain ⟨v331, e_v331⟩ : ∃ v, v = rmul xb1 xb2 := ⟨_, rfl⟩
                have o_v331 : OKq 51 v331 := by rw [e_v331]; exact ok_mul o_xb1 o_xb2 (Nat.le_of_ble_eq_true rfl)
                rw [← e_v331] at hG331
                obtain ⟨G331, eG⟩ : ∃ g, g = upG G280 176 v331 := ⟨_, rfl⟩
                rw [← eG] at hG331
                have q331_65 : G331 65 = xa3 := by rw [eG]; exact (upG_ne (by decide)).trans q312_65
                have q331_110 : G331 110 = xb3 := by rw [eG]; exact (upG_ne (by decide)).trans q312_110
                have q331_121 : G331 121 = oneq := by rw [eG]; exact (upG_ne (by decide)).trans q312_121
                have q331_132 : G331 132 = quartq := by rw [eG]; exact (upG_ne (by decide)).trans q312_132
                have q331_154 : G331 154 = v121 := by rw [eG]; exact (upG_ne (by decide)).trans q312_154
                have q331_176 : G331 176 = v331 := by rw [eG]; exact upG_eq
                clear eG
                refine x_aload_n (pc2 := 335) hC rfl rfl dX0_takenOff_334 rfl ?_
                refine g_276 (pc2 := 338) hC hK (by assumption) (by assumption) (by assumption) dX0_takenOff_335 rfl ?_
                refine x_aload_n (pc2 := 339) hC rfl rfl dX0_takenOff_338 rfl ?_
                refine g_275 (pc2 := 342) hC hK (by assumption) (by assumption) (by assumption) dX0_takenOff_339 rfl ?_
                refine x_aload_n (pc2 := 343) hC rfl rfl dX0_takenOff_342 rfl ?_
                refine g_268 (pc2 := 346) hC hK (by assumption) (by assumption) (by assumption) dX0_takenOff_343 rfl ?_
                refine x_iconst (pc2 := 347) hC dX0_takenOff_346 rfl ?_
                refine x_aald (pc2 := 348) hC hK b1 b2 (by omega) (by decide) (b5 3 (by decide)) dX0_takenOff_347 rfl ?_
                refine x_cVv (pc2 := 351) (ci := 4) hC hK (y_product l hA hS331 hG331 (r := 187) (x := 176) (y := 65) (by decide) (by decide) (by decide) (by decide) (by decide) q331_176 q331_65 o_v331 o_xa3 ⟨Nat.le_of_ble_eq_true rfl, Nat.le_of_ble_eq_true rfl⟩) lk_488 rfl rfl (by decide) (by assumption) (by assumption) ⟨Nat.le_of_ble_eq_true rfl, Nat.le_of_ble_eq_true rfl⟩ ⟨Nat.le_refl _, Nat.le_refl _⟩ rfl (Nat.le_of_ble_eq_true rfl) dX0_takenOff_348 rfl ?_
                rintro F348 A348 hq
                obtain ⟨V348, hS348, hG348, hgl348, hb348, hf348, hd348⟩ := AS.step hA hgl331 hb331 hf331 hd331 hq
                clear hq
                obtain ⟨v348, e_v348⟩ : ∃ v, v = rmul v331 xa3 := ⟨_, rfl⟩
                have o_v348 : OKq 77 v348 := by rw [e_v348]; exact ok_mul o_v331 o_xa3 (Nat.le_of_ble_eq_true rfl)
                rw [← e_v348] at hG348
                obtain ⟨G348, eG⟩ : ∃ g, g = upG G331 187 v348 := ⟨_, rfl⟩
                rw [← eG] at hG348
                have q348_110 : G348 110 = xb3 := by rw [eG]; exact (upG_ne (by decide)).trans q331_110
                have q348_121 : G348 121 = oneq := by rw [eG]; exact (upG_ne (by decide)).trans q331_121
                have q348_132 : G348 132 = quartq := by rw [eG]; exact (upG_ne (by decide)).trans q331_132
                have q348_154 : G348 154 = v121 := by rw [eG]; exact (upG_ne (by decide)).trans q331_154
                have q348_187 : G348 187 = v348 := by rw [eG]; exact upG_eq
                clear eG
                refine x_aload_n (pc2 := 352) hC rfl rfl dX0_takenOff_351 rfl ?_
                refine g_275 (pc2 := 355) hC hK (by assumption) (by assumption) (by assumption) dX0_takenOff_352 rfl ?_
                refine x_aload_n (pc2 := 356) hC rfl rfl dX0_takenOff_355 rfl ?_
                refine g_276 (pc2 := 359) hC hK (by assumption) (by assumption) (by assumption) dX0_takenOff_356 rfl ?_
                refine x_aload_n (pc2 := 360) hC rfl rfl dX0_takenOff_359 rfl ?_
                refine g_273 (pc2 := 363) hC hK (by assumption) (by assumption) (by assumption) dX0_takenOff_360 rfl ?_
                refine x_cVv (pc2 := 366) (ci := 4) hC hK (y_quotient l hA hS348 hG348 (r := 176) (x := 187) (y := 154) (by decide) (by decide) (by decide) (by decide) (by decide) q348_187 q348_154 o_v348 o_v121 ⟨Nat.le_of_ble_eq_true rfl, Nat.le_of_ble_eq_true rfl⟩) lk_544 rfl rfl (by decide) (by assumption) (by assumption) ⟨Nat.le_of_ble_eq_true rfl, Nat.le_of_ble_eq_true rfl⟩ ⟨Nat.le_refl _, Nat.le_refl _⟩ rfl (Nat.le_of_ble_eq_true rfl) dX0_takenOff_363 rfl ?_
                rintro F363 A363 hq
                obtain ⟨V363, hS363, hG363, hgl363, hb363, hf363, hd363⟩ := AS.step hA hgl348 hb348 hf348 hd348 hq
                clear hq
                obtain ⟨v363, e_v363⟩ : ∃ v, v = rdiv v348 v121 := ⟨_, rfl⟩
                have o_v363 : OKq 209 v363 := by rw [e_v363]; exact ok_div o_v348 o_v121 nz_v121 (Nat.le_of_ble_eq_true rfl)
                rw [← e_v363] at hG363
                obtain ⟨G363, eG⟩ : ∃ g, g = upG G348 176 v363 := ⟨_, rfl⟩
                rw [← eG] at hG363
                have q363_110 : G363 110 = xb3 := by rw [eG]; exact (upG_ne (by decide)).trans q348_110
                have q363_121 : G363 121 = oneq := by rw [eG]; exact (upG_ne (by decide)).trans q348_121
                have q363_132 : G363 132 = quartq := by rw [eG]; exact (upG_ne (by decide)).trans q348_132
                have q363_176 : G363 176 = v363 := by rw [eG]; exact upG_eq
                clear eG
                refine x_aload_n (pc2 := 367) hC rfl rfl dX0_takenOff_366 rfl ?_
                refine g_276 (pc2 := 370) hC hK (by assumption) (by assumption) (by assumption) dX0_takenOff_367 rfl ?_
                refine x_aload_n (pc2 := 371) hC rfl rfl dX0_takenOff_370 rfl ?_
                refine g_269 (pc2 := 374) hC hK (by assumption) (by assumption) (by assumption) dX0_takenOff_371 rfl ?_
                refine x_iconst (pc2 := 375) hC dX0_takenOff_374 rfl ?_
                refine x_aald (pc2 := 376) hC hK b3 b4 (by omega) (by decide) (b6 3 (by decide)) dX0_takenOff_375 rfl ?_
                refine x_aload_n (pc2 := 377) hC rfl rfl dX0_takenOff_376 rfl ?_
                refine g_275 (pc2 := 380) hC hK (by assumption) (by assumption) (by assumption) dX0_takenOff_377 rfl ?_
                refine x_iconst (pc2 := 381) hC dX0_takenOff_380 rfl ?_
                refine x_cVv (pc2 := 384) (ci := 4) hC hK (y_sum l hA hS363 hG363 (r := 187) (x := 110) (y := 176) (by decide) (by decide) (by decide) (by decide) (by decide) (Or.inr rfl) q363_110 q363_176 o_xb3 o_v363 ⟨Nat.le_of_ble_eq_true rfl, Nat.le_of_ble_eq_true rfl⟩) lk_528 rfl rfl (by decide) (by assumption) (by assumption) ⟨Nat.le_of_ble_eq_true rfl, Nat.le_of_ble_eq_true rfl⟩ ⟨Nat.le_refl _, Nat.le_refl _⟩ rfl (Nat.le_of_ble_eq_true rfl) dX0_takenOff_381 rfl ?_
                rintro F381 A381 hq
                obtain ⟨V381, hS381, hG381, hgl381, hb381, hf381, hd381⟩ := AS.step hA hgl363 hb363 hf363 hd363 hq
                clear hq
                obtain ⟨v381, e_v381⟩ : ∃ v, v = rsum (-1) xb3 v363 := ⟨_, rfl⟩
                have o_v381 : OKq 236 v381 := by rw [e_v381]; exact ok_sum  (Or.inr rfl) o_xb3 o_v363 (Nat.le_of_ble_eq_true rfl)
                rw [← e_v381] at hG381
                obtain ⟨G381, eG⟩ : ∃ g, g = upG G363 187 v381 := ⟨_, rfl⟩
                rw [← eG] at hG381
                have q381_121 : G381 121 = oneq := by rw [eG]; exact (upG_ne (by decide)).trans q363_121
                have q381_132 : G381 132 = quartq := by rw [eG]; exact (upG_ne (by decide)).trans q363_132
                have q381_187 : G381 187 = v381 := by rw [eG]; exact upG_eq
                clear eG
                refine x_aload_n (pc2 := 385) hC rfl rfl dX0_takenOff_384 rfl ?_
                refine g_267 (pc2 := 388) hC hK (by assumption) (by assumption) (by assumption) dX0_takenOff_385 rfl ?_
                refine x_aload_n (pc2 := 389) hC rfl rfl dX0_takenOff_388 rfl ?_
                refine g_276 (pc2 := 392) hC hK (by assumption) (by assumption) (by assumption) dX0_takenOff_389 rfl ?_
                refine g_225 (pc2 := 395) hC hK (by assumption) (by assumption) (by assumption) dX0_takenOff_392 rfl ?_
                refine x_aload_n (pc2 := 396) hC rfl rfl dX0_takenOff_395 rfl ?_
                refine g_276 (pc2 := 399) hC hK (by assumption) (by assumption) (by assumption) dX0_takenOff_396 rfl ?_
                refine g_228 (pc2 := 402) hC hK (by assumption) (by assumption) (by assumption) dX0_takenOff_399 rfl ?_
                refine x_iload_n (pc2 := 403) hC rfl rfl dX0_takenOff_402 rfl ?_
                refine x_iload (pc2 := 405) hC rfl dX0_takenOff_403 rfl ?_
                refine x_if_eq (tgt := 412) (pc2 := 408) hC (by omega) dX0_takenOff_405 rfl rfl (fun h_405 => ?_) (fun h_405 => ?_)
                · exfalso; omega
                · refine x_iconst (pc2 := 409) hC dX0_takenOff_408 rfl ?_
                  refine x_goto (pc2 := 413) hC dX0_takenOff_409 rfl ?_
                  refine x_cVv (pc2 := 416) (ci := 3) hC hK (y_draft hA hS381 hG381 hgl381 hb381 hf381 hd381 (r := 187) (by decide) q381_187 o_v381 ⟨Nat.le_of_ble_eq_true rfl, Nat.le_of_ble_eq_true rfl⟩ ⟨Nat.le_of_ble_eq_true rfl, Nat.le_of_ble_eq_true rfl⟩ ht ⟨by decide, by decide⟩ (by simp only [List.mem_cons, List.not_mem_nil, or_false, forall_eq_or_imp, forall_eq, false_imp_iff, implies_true] <;> omega)) lk_548 rfl rfl (by decide) (by assumption) (by assumption) ⟨Nat.le_of_ble_eq_true rfl, Nat.le_of_ble_eq_true rfl⟩ ⟨Nat.le_refl _, Nat.le_refl _⟩ rfl (Nat.le_of_ble_eq_true rfl) dX0_takenOff_413 rfl ?_
                  rintro F413 A413 hq
                  obtain ⟨V413, hS413, hG413, hgl413, hb413, hf413, hd413⟩ := id hq
                  clear hq
                  have q413_121 := q381_121
                  have q413_132 := q381_132
                  refine x_iconst (pc2 := 417) hC dX0_takenOff_416 rfl ?_
                  exact x_iret hC hr hlk ⟨_, rfl, Or.inr (Or.inr (Or.inr ⟨rfl, n1, n2b, n3b, ⟨_, q413_121, q413_132, V413, hS413, hG413, hgl413, hb413, hf413, by
                    have e : takeL (ldn (A 2) bA tone 1) (ldn (A 2) bB tone 1) tone 3 2 1 0 = [(v381, tone * 36 + 0 * 9), (v280, tone * 36 + 1 * 9), (v214, tone * 36 + 2 * 9), (v148, tone * 36 + 3 * 9)] := by
                      rw [takeL, takeF, takeG, ← ena, ← enb, ← ea0, ← ea1, ← ea2, ← ea3, ← eb0, ← eb1, ← eb2, ← eb3, e_v381, e_v363, e_v348, e_v331, e_v280, e_v265, e_v214, e_v199, e_v148, e_v121, e_v105, e_v88, e_v69]
                    show DrL _ _ _ _ (takeL (ldn (A 2) bA tone 1) (ldn (A 2) bB tone 1) tone 3 2 1 0)
                    rw [e]; exact hd413⟩⟩))⟩ dX0_takenOff_417
        · have z1 : (takeF (ldn (A 2) bA tone 1) (ldn (A 2) bB tone 1)).1 = (0, 0) := by
            rw [takeF, takeG, ← ena, ← enb, ← ea0, ← ea1, ← ea2, ← ea3, ← eb0, ← e_v69, ← e_v88, ← e_v105, ← e_v121]; rw [← q121_154]; assumption
          refine x_iconst (pc2 := 135) hC dX0_takenOff_134 rfl ?_
          exact x_iret hC hr hlk ⟨_, rfl, Or.inr (Or.inr (Or.inl ⟨rfl, n1, n2b, z1, ⟨_, q121_121, q121_132, V121, hS121, hG121, hgl121, hb121, hf121, hd121⟩⟩))⟩ dX0_takenOff_135
      · have z1 : ((ldn (A 2) bA tone 1) 2).1 = (0, 0) := by rw [← ena, ← ea2, ← q21_54]; assumption
        refine x_iconst (pc2 := 51) hC dX0_takenOff_50 rfl ?_
        exact x_iret hC hr hlk ⟨_, rfl, Or.inr (Or.inl ⟨rfl, n1, z1, ⟨_, q21_121, q21_132, V21, hS21, hG21, hgl21, hb21, hf21, hd21⟩⟩)⟩ dX0_takenOff_51
    · have z1 : ((ldn (A 2) bA tone 1) 1).1 = (0, 0) := by rw [← ena, ← ea1, ← q21_43]; assumption
      refine x_iconst (pc2 := 37) hC dX0_takenOff_36 rfl ?_
      exact x_iret hC hr hlk ⟨_, rfl, Or.inl ⟨rfl, z1, ⟨_, q21_121, q21_132, V21, hS21, hG21, hgl21, hb21, hf21, hd21⟩⟩⟩ dX0_takenOff_37
