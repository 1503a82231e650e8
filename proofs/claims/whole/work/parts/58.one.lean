/-- limbs of above from j on -/
def sgm (A : Nat → Int → Int) (j : Int) : Int → Int := fun k => A 7 (j + k)
theorem sgm_at {A : Nat → Int → Int} {j k v i : Int} : sgm (uA A 7 (j + k) v) j i = if i = k then v else sgm A j i := by
  unfold sgm
  rw [uA_at]
  by_cases q : i = k
  · rw [if_pos q, if_pos (by omega)]
  · rw [if_neg q, if_neg (by omega)]
theorem dvs_uA {B : Int} {A : Nat → Int → Int} {j v : Int} {k : Nat} : dv B (sgm (uA A 7 (j + (k : Int)) v) j) (k + 1) = dv B (sgm A j) k + v * B ^ k := by
  simp only [dv]
  rw [sgm_at, if_pos rfl, dv_congr (g := sgm A j) (fun i h0 h1 => by rw [sgm_at, if_neg (by omega)])]
/-- the first guess is never too small -/
theorem guess_ge {f g : Int → Int} {n : Nat} {q D U : Int} (hf : dig 32768 f (n + 1 + 1 : Nat)) (hg : dig 32768 g (n + 1 : Nat)) (hU : U = dv 32768 f (n + 1 + 1)) (hD : D = dv 32768 g (n + 1)) (h1 : 1 ≤ g n) (hq : q = (f ((n : Int) + 1) * 32768 + f n) / g n) : U < (q + 1) * D := by
  have P := pow_pos' (B := 32768) (by decide) n
  have a1 := dv_lt (B := 32768) (f := f) (by decide) (n := n) (fun k k0 k1 => hf k k0 (by omega))
  have a2 := dv_nonneg (B := 32768) (f := g) (by decide) (n := n) (fun k k0 k1 => (hg k k0 (by omega)).1)
  have a3 := hf ((n : Int) + 1) (by omega) (by omega)
  have a4 := hf n (by omega) (by omega)
  have a5 : f ((n : Int) + 1) * 32768 + f n < (q + 1) * g n := by
    rw [hq, Int.add_mul, Int.one_mul]
    have e1 := Int.mul_ediv_add_emod (f ((n : Int) + 1) * 32768 + f n) (g n)
    have e2 := Int.emod_lt_of_pos (f ((n : Int) + 1) * 32768 + f n) (show 0 < g n by omega)
    have e3 := Int.mul_comm ((f ((n : Int) + 1) * 32768 + f n) / g n) (g n)
    omega
  have a6 : (f ((n : Int) + 1) * 32768 + f n + 1) * 32768 ^ n ≤ (q + 1) * g n * 32768 ^ n := Int.mul_le_mul_of_nonneg_right (by omega) (Int.le_of_lt P)
  have q0 : 0 ≤ q := by rw [hq]; exact Int.ediv_nonneg (by omega) (by omega)
  have a7 := Int.mul_nonneg (show 0 ≤ q + 1 by omega) a2
  rw [hU, hD]
  simp only [dv]
  rw [show ((n + 1 : Nat) : Int) = (n : Int) + 1 by omega, Int.pow_succ]
  grind
theorem dv_hi {B : Int} {f : Int → Int} {n : Nat} {x : Int} (h : x = dv B f (n + 1)) : x = dv B f n + f n * B ^ n := h
/-- quotient and rest by bounds -/
theorem qr_of {U D q r : Int} (h : U = q * D + r) (h0 : 0 ≤ r) (h1 : r < D) : q = U / D ∧ r = U % D := by
  have hD : 0 < D := by omega
  have e : U = r + D * q := by rw [h, Int.mul_comm]; omega
  constructor
  · rw [e, Int.add_mul_ediv_left _ _ (by omega), Int.ediv_eq_zero_of_lt h0 h1]; omega
  · rw [e, Int.add_mul_emod_self_left, Int.emod_eq_of_lt h0 h1]
theorem ms_step {B d c t P v w x y q : Int} (h : d + -c * P = t) (hv : v = y * q + x) {ow nw a : Int} (hc : c = x + ow) (hw : w = a - v % B - ow) : d + (w + nw * B) * P + -(v / B + nw) * (P * B) = t + (a - q * y) * P := by
  have := Int.mul_ediv_add_emod v B
  grind
theorem ab_step {B d c t P v : Int} (h : d + c * P = t) {a b : Int} (hv : v = a + b + c) : d + v % B * P + v / B * (P * B) = t + (a + b) * P := by
  have := Int.mul_ediv_add_emod v B
  grind
theorem dX8_one_0 : decode cX8_one 0 = .ok (.aload_n 0, 1) := by decide +kernel
theorem dX8_one_1 : decode cX8_one 1 = .ok (.getfield 37, 3) := by decide +kernel
theorem dX8_one_4 : decode cX8_one 4 = .ok (.iload_n 1, 1) := by decide +kernel
theorem dX8_one_5 : decode cX8_one 5 = .ok (.iload_n 2, 1) := by decide +kernel
theorem dX8_one_6 : decode cX8_one 6 = .ok (.iadd, 1) := by decide +kernel
theorem dX8_one_7 : decode cX8_one 7 = .ok (.iaload, 1) := by decide +kernel
theorem dX8_one_8 : decode cX8_one 8 = .ok (.ldc 65, 2) := by decide +kernel
theorem dX8_one_10 : decode cX8_one 10 = .ok (.imul, 1) := by decide +kernel
theorem dX8_one_11 : decode cX8_one 11 = .ok (.aload_n 0, 1) := by decide +kernel
theorem dX8_one_12 : decode cX8_one 12 = .ok (.getfield 37, 3) := by decide +kernel
theorem dX8_one_15 : decode cX8_one 15 = .ok (.iload_n 1, 1) := by decide +kernel
theorem dX8_one_16 : decode cX8_one 16 = .ok (.iload_n 2, 1) := by decide +kernel
theorem dX8_one_17 : decode cX8_one 17 = .ok (.iadd, 1) := by decide +kernel
theorem dX8_one_18 : decode cX8_one 18 = .ok (.iconst 1, 1) := by decide +kernel
theorem dX8_one_19 : decode cX8_one 19 = .ok (.isub, 1) := by decide +kernel
theorem dX8_one_20 : decode cX8_one 20 = .ok (.iaload, 1) := by decide +kernel
theorem dX8_one_21 : decode cX8_one 21 = .ok (.iadd, 1) := by decide +kernel
theorem dX8_one_22 : decode cX8_one 22 = .ok (.istore_n 3, 1) := by decide +kernel
theorem dX8_one_23 : decode cX8_one 23 = .ok (.iload_n 3, 1) := by decide +kernel
theorem dX8_one_24 : decode cX8_one 24 = .ok (.aload_n 0, 1) := by decide +kernel
theorem dX8_one_25 : decode cX8_one 25 = .ok (.getfield 40, 3) := by decide +kernel
theorem dX8_one_28 : decode cX8_one 28 = .ok (.iload_n 2, 1) := by decide +kernel
theorem dX8_one_29 : decode cX8_one 29 = .ok (.iconst 1, 1) := by decide +kernel
theorem dX8_one_30 : decode cX8_one 30 = .ok (.isub, 1) := by decide +kernel
theorem dX8_one_31 : decode cX8_one 31 = .ok (.iaload, 1) := by decide +kernel
theorem dX8_one_32 : decode cX8_one 32 = .ok (.idiv, 1) := by decide +kernel
theorem dX8_one_33 : decode cX8_one 33 = .ok (.istore 4, 2) := by decide +kernel
theorem dX8_one_35 : decode cX8_one 35 = .ok (.iload 4, 2) := by decide +kernel
theorem dX8_one_37 : decode cX8_one 37 = .ok (.sipush 32767, 3) := by decide +kernel
theorem dX8_one_40 : decode cX8_one 40 = .ok (.if_icmp .le 9, 3) := by decide +kernel
theorem dX8_one_43 : decode cX8_one 43 = .ok (.sipush 32767, 3) := by decide +kernel
theorem dX8_one_46 : decode cX8_one 46 = .ok (.goto 5, 3) := by decide +kernel
theorem dX8_one_49 : decode cX8_one 49 = .ok (.iload 4, 2) := by decide +kernel
theorem dX8_one_51 : decode cX8_one 51 = .ok (.istore 4, 2) := by decide +kernel
theorem dX8_one_53 : decode cX8_one 53 = .ok (.iconst 0, 1) := by decide +kernel
theorem dX8_one_54 : decode cX8_one 54 = .ok (.istore 5, 2) := by decide +kernel
theorem dX8_one_56 : decode cX8_one 56 = .ok (.iconst 0, 1) := by decide +kernel
theorem dX8_one_57 : decode cX8_one 57 = .ok (.istore 6, 2) := by decide +kernel
theorem dX8_one_59 : decode cX8_one 59 = .ok (.iconst 0, 1) := by decide +kernel
theorem dX8_one_60 : decode cX8_one 60 = .ok (.istore 7, 2) := by decide +kernel
theorem dX8_one_62 : decode cX8_one 62 = .ok (.iload 7, 2) := by decide +kernel
theorem dX8_one_64 : decode cX8_one 64 = .ok (.iload_n 2, 1) := by decide +kernel
theorem dX8_one_65 : decode cX8_one 65 = .ok (.if_icmp .ge 81, 3) := by decide +kernel
theorem dX8_one_68 : decode cX8_one 68 = .ok (.aload_n 0, 1) := by decide +kernel
theorem dX8_one_69 : decode cX8_one 69 = .ok (.getfield 40, 3) := by decide +kernel
theorem dX8_one_72 : decode cX8_one 72 = .ok (.iload 7, 2) := by decide +kernel
theorem dX8_one_74 : decode cX8_one 74 = .ok (.iaload, 1) := by decide +kernel
theorem dX8_one_75 : decode cX8_one 75 = .ok (.iload 4, 2) := by decide +kernel
theorem dX8_one_77 : decode cX8_one 77 = .ok (.imul, 1) := by decide +kernel
theorem dX8_one_78 : decode cX8_one 78 = .ok (.iload 6, 2) := by decide +kernel
theorem dX8_one_80 : decode cX8_one 80 = .ok (.iadd, 1) := by decide +kernel
theorem dX8_one_81 : decode cX8_one 81 = .ok (.istore 8, 2) := by decide +kernel
theorem dX8_one_83 : decode cX8_one 83 = .ok (.iload 8, 2) := by decide +kernel
theorem dX8_one_85 : decode cX8_one 85 = .ok (.bipush 15, 2) := by decide +kernel
theorem dX8_one_87 : decode cX8_one 87 = .ok (.ishr, 1) := by decide +kernel
theorem dX8_one_88 : decode cX8_one 88 = .ok (.istore 6, 2) := by decide +kernel
theorem dX8_one_90 : decode cX8_one 90 = .ok (.aload_n 0, 1) := by decide +kernel
theorem dX8_one_91 : decode cX8_one 91 = .ok (.getfield 37, 3) := by decide +kernel
theorem dX8_one_94 : decode cX8_one 94 = .ok (.iload_n 1, 1) := by decide +kernel
theorem dX8_one_95 : decode cX8_one 95 = .ok (.iload 7, 2) := by decide +kernel
theorem dX8_one_97 : decode cX8_one 97 = .ok (.iadd, 1) := by decide +kernel
theorem dX8_one_98 : decode cX8_one 98 = .ok (.iaload, 1) := by decide +kernel
theorem dX8_one_99 : decode cX8_one 99 = .ok (.iload 8, 2) := by decide +kernel
theorem dX8_one_101 : decode cX8_one 101 = .ok (.sipush 32767, 3) := by decide +kernel
theorem dX8_one_104 : decode cX8_one 104 = .ok (.iand, 1) := by decide +kernel
theorem dX8_one_105 : decode cX8_one 105 = .ok (.isub, 1) := by decide +kernel
theorem dX8_one_106 : decode cX8_one 106 = .ok (.iload 5, 2) := by decide +kernel
theorem dX8_one_108 : decode cX8_one 108 = .ok (.isub, 1) := by decide +kernel
theorem dX8_one_109 : decode cX8_one 109 = .ok (.istore 9, 2) := by decide +kernel
theorem dX8_one_111 : decode cX8_one 111 = .ok (.iload 9, 2) := by decide +kernel
theorem dX8_one_113 : decode cX8_one 113 = .ok (.ifCond .ge 7, 3) := by decide +kernel
theorem dX8_one_116 : decode cX8_one 116 = .ok (.iconst 1, 1) := by decide +kernel
theorem dX8_one_117 : decode cX8_one 117 = .ok (.goto 4, 3) := by decide +kernel
theorem dX8_one_120 : decode cX8_one 120 = .ok (.iconst 0, 1) := by decide +kernel
theorem dX8_one_121 : decode cX8_one 121 = .ok (.istore 5, 2) := by decide +kernel
theorem dX8_one_123 : decode cX8_one 123 = .ok (.aload_n 0, 1) := by decide +kernel
theorem dX8_one_124 : decode cX8_one 124 = .ok (.getfield 37, 3) := by decide +kernel
theorem dX8_one_127 : decode cX8_one 127 = .ok (.iload_n 1, 1) := by decide +kernel
theorem dX8_one_128 : decode cX8_one 128 = .ok (.iload 7, 2) := by decide +kernel
theorem dX8_one_130 : decode cX8_one 130 = .ok (.iadd, 1) := by decide +kernel
theorem dX8_one_131 : decode cX8_one 131 = .ok (.iload 9, 2) := by decide +kernel
theorem dX8_one_133 : decode cX8_one 133 = .ok (.iload 5, 2) := by decide +kernel
theorem dX8_one_135 : decode cX8_one 135 = .ok (.ldc 65, 2) := by decide +kernel
theorem dX8_one_137 : decode cX8_one 137 = .ok (.imul, 1) := by decide +kernel
theorem dX8_one_138 : decode cX8_one 138 = .ok (.iadd, 1) := by decide +kernel
theorem dX8_one_139 : decode cX8_one 139 = .ok (.iastore, 1) := by decide +kernel
theorem dX8_one_140 : decode cX8_one 140 = .ok (.iinc 7 1, 3) := by decide +kernel
theorem dX8_one_143 : decode cX8_one 143 = .ok (.goto (-81), 3) := by decide +kernel
theorem dX8_one_146 : decode cX8_one 146 = .ok (.aload_n 0, 1) := by decide +kernel
theorem dX8_one_147 : decode cX8_one 147 = .ok (.getfield 37, 3) := by decide +kernel
theorem dX8_one_150 : decode cX8_one 150 = .ok (.iload_n 1, 1) := by decide +kernel
theorem dX8_one_151 : decode cX8_one 151 = .ok (.iload_n 2, 1) := by decide +kernel
theorem dX8_one_152 : decode cX8_one 152 = .ok (.iadd, 1) := by decide +kernel
theorem dX8_one_153 : decode cX8_one 153 = .ok (.iaload, 1) := by decide +kernel
theorem dX8_one_154 : decode cX8_one 154 = .ok (.iload 6, 2) := by decide +kernel
theorem dX8_one_156 : decode cX8_one 156 = .ok (.isub, 1) := by decide +kernel
theorem dX8_one_157 : decode cX8_one 157 = .ok (.iload 5, 2) := by decide +kernel
theorem dX8_one_159 : decode cX8_one 159 = .ok (.isub, 1) := by decide +kernel
theorem dX8_one_160 : decode cX8_one 160 = .ok (.istore 7, 2) := by decide +kernel
theorem dX8_one_162 : decode cX8_one 162 = .ok (.aload_n 0, 1) := by decide +kernel
theorem dX8_one_163 : decode cX8_one 163 = .ok (.getfield 37, 3) := by decide +kernel
theorem dX8_one_166 : decode cX8_one 166 = .ok (.iload_n 1, 1) := by decide +kernel
theorem dX8_one_167 : decode cX8_one 167 = .ok (.iload_n 2, 1) := by decide +kernel
theorem dX8_one_168 : decode cX8_one 168 = .ok (.iadd, 1) := by decide +kernel
theorem dX8_one_169 : decode cX8_one 169 = .ok (.iload 7, 2) := by decide +kernel
theorem dX8_one_171 : decode cX8_one 171 = .ok (.iastore, 1) := by decide +kernel
theorem dX8_one_172 : decode cX8_one 172 = .ok (.aload_n 0, 1) := by decide +kernel
theorem dX8_one_173 : decode cX8_one 173 = .ok (.getfield 37, 3) := by decide +kernel
theorem dX8_one_176 : decode cX8_one 176 = .ok (.iload_n 1, 1) := by decide +kernel
theorem dX8_one_177 : decode cX8_one 177 = .ok (.iload_n 2, 1) := by decide +kernel
theorem dX8_one_178 : decode cX8_one 178 = .ok (.iadd, 1) := by decide +kernel
theorem dX8_one_179 : decode cX8_one 179 = .ok (.iaload, 1) := by decide +kernel
theorem dX8_one_180 : decode cX8_one 180 = .ok (.ifCond .ge 84, 3) := by decide +kernel
theorem dX8_one_183 : decode cX8_one 183 = .ok (.iinc 4 (-1), 3) := by decide +kernel
theorem dX8_one_186 : decode cX8_one 186 = .ok (.iconst 0, 1) := by decide +kernel
theorem dX8_one_187 : decode cX8_one 187 = .ok (.istore 8, 2) := by decide +kernel
theorem dX8_one_189 : decode cX8_one 189 = .ok (.iconst 0, 1) := by decide +kernel
theorem dX8_one_190 : decode cX8_one 190 = .ok (.istore 9, 2) := by decide +kernel
theorem dX8_one_192 : decode cX8_one 192 = .ok (.iload 9, 2) := by decide +kernel
theorem dX8_one_194 : decode cX8_one 194 = .ok (.iload_n 2, 1) := by decide +kernel
theorem dX8_one_195 : decode cX8_one 195 = .ok (.if_icmp .ge 53, 3) := by decide +kernel
theorem dX8_one_198 : decode cX8_one 198 = .ok (.aload_n 0, 1) := by decide +kernel
theorem dX8_one_199 : decode cX8_one 199 = .ok (.getfield 37, 3) := by decide +kernel
theorem dX8_one_202 : decode cX8_one 202 = .ok (.iload_n 1, 1) := by decide +kernel
theorem dX8_one_203 : decode cX8_one 203 = .ok (.iload 9, 2) := by decide +kernel
theorem dX8_one_205 : decode cX8_one 205 = .ok (.iadd, 1) := by decide +kernel
theorem dX8_one_206 : decode cX8_one 206 = .ok (.iaload, 1) := by decide +kernel
theorem dX8_one_207 : decode cX8_one 207 = .ok (.aload_n 0, 1) := by decide +kernel
theorem dX8_one_208 : decode cX8_one 208 = .ok (.getfield 40, 3) := by decide +kernel
theorem dX8_one_211 : decode cX8_one 211 = .ok (.iload 9, 2) := by decide +kernel
theorem dX8_one_213 : decode cX8_one 213 = .ok (.iaload, 1) := by decide +kernel
theorem dX8_one_214 : decode cX8_one 214 = .ok (.iadd, 1) := by decide +kernel
theorem dX8_one_215 : decode cX8_one 215 = .ok (.iload 8, 2) := by decide +kernel
theorem dX8_one_217 : decode cX8_one 217 = .ok (.iadd, 1) := by decide +kernel
theorem dX8_one_218 : decode cX8_one 218 = .ok (.istore 10, 2) := by decide +kernel
theorem dX8_one_220 : decode cX8_one 220 = .ok (.aload_n 0, 1) := by decide +kernel
theorem dX8_one_221 : decode cX8_one 221 = .ok (.getfield 37, 3) := by decide +kernel
theorem dX8_one_224 : decode cX8_one 224 = .ok (.iload_n 1, 1) := by decide +kernel
theorem dX8_one_225 : decode cX8_one 225 = .ok (.iload 9, 2) := by decide +kernel
theorem dX8_one_227 : decode cX8_one 227 = .ok (.iadd, 1) := by decide +kernel
theorem dX8_one_228 : decode cX8_one 228 = .ok (.iload 10, 2) := by decide +kernel
theorem dX8_one_230 : decode cX8_one 230 = .ok (.sipush 32767, 3) := by decide +kernel
theorem dX8_one_233 : decode cX8_one 233 = .ok (.iand, 1) := by decide +kernel
theorem dX8_one_234 : decode cX8_one 234 = .ok (.iastore, 1) := by decide +kernel
theorem dX8_one_235 : decode cX8_one 235 = .ok (.iload 10, 2) := by decide +kernel
theorem dX8_one_237 : decode cX8_one 237 = .ok (.bipush 15, 2) := by decide +kernel
theorem dX8_one_239 : decode cX8_one 239 = .ok (.ishr, 1) := by decide +kernel
theorem dX8_one_240 : decode cX8_one 240 = .ok (.istore 8, 2) := by decide +kernel
theorem dX8_one_242 : decode cX8_one 242 = .ok (.iinc 9 1, 3) := by decide +kernel
theorem dX8_one_245 : decode cX8_one 245 = .ok (.goto (-53), 3) := by decide +kernel
theorem dX8_one_248 : decode cX8_one 248 = .ok (.aload_n 0, 1) := by decide +kernel
theorem dX8_one_249 : decode cX8_one 249 = .ok (.getfield 37, 3) := by decide +kernel
theorem dX8_one_252 : decode cX8_one 252 = .ok (.iload_n 1, 1) := by decide +kernel
theorem dX8_one_253 : decode cX8_one 253 = .ok (.iload_n 2, 1) := by decide +kernel
theorem dX8_one_254 : decode cX8_one 254 = .ok (.iadd, 1) := by decide +kernel
theorem dX8_one_255 : decode cX8_one 255 = .ok (.dup2, 1) := by decide +kernel
theorem dX8_one_256 : decode cX8_one 256 = .ok (.iaload, 1) := by decide +kernel
theorem dX8_one_257 : decode cX8_one 257 = .ok (.iload 8, 2) := by decide +kernel
theorem dX8_one_259 : decode cX8_one 259 = .ok (.iadd, 1) := by decide +kernel
theorem dX8_one_260 : decode cX8_one 260 = .ok (.iastore, 1) := by decide +kernel
theorem dX8_one_261 : decode cX8_one 261 = .ok (.goto (-89), 3) := by decide +kernel
theorem dX8_one_264 : decode cX8_one 264 = .ok (.iload 4, 2) := by decide +kernel
theorem dX8_one_266 : decode cX8_one 266 = .ok (.ireturn, 1) := by decide +kernel
set_option maxHeartbeats 16000000 in
theorem n_one (l : Launch) {D : va_G} {ids : Nat → ClassId} {β : Nat} {sh : Nat → Nat × Nat} {N : Nat} {R : Nat → Nat → Option Nat} {F : Nat → Nat → Int} {A : Nat → Int → Int} (hM : MoL sh R N) {j : Int} {n : Nat} {U Dv : Int} (hj : 0 ≤ j ∧ j + n ≤ 250) (hn : 1 ≤ n ∧ n ≤ 250) (hs : dig 32768 (sgm A j) ((n + 1 : Nat) : Int)) (hb : dig 32768 (A 8) (n : Int)) (hb1 : 1 ≤ A 8 ((n : Int) - 1)) (hU : U = dv 32768 (sgm A j) (n + 1)) (hD : Dv = dv 32768 (A 8) n) (hUD : U < Dv * 32768) : MetX l yX8_one cX8_one 11 (some (.int)) 0 0 D ids β sh N R F A [rf 0, pI j, pI (n : Int)] (pIr (fun z F2 A2 => z = U / Dv ∧ F2 = F ∧ (∀ a, a ≠ 7 → A2 a = A a) ∧ (∀ k, k < j ∨ j + n < k → A2 7 k = A 7 k) ∧ dig 32768 (sgm A2 j) ((n + 1 : Nat) : Int) ∧ dv 32768 (sgm A2 j) n = U % Dv)) := by
  refine MetX.of (loc := [_, _, _, _, _, _, _, _, _, _, _]) (plainFor_of_name (by decide +kernel)) (Nat.le_of_ble_eq_true rfl) rfl ?_
  intro p e s m args below meth c hC hK hr hlk
  obtain ⟨⟨m0, m1⟩, ⟨r0, r2, r3, r7, r8, r9, r11, r12, r13, r16, r18⟩, ⟨m2, m3⟩, ⟨m4, m5⟩, ⟨m6, m7⟩, ⟨m8, m9⟩, ⟨m10, m11⟩, ⟨m12, m13⟩, ⟨m14, m15⟩, ⟨m16, m17⟩, ⟨m18, m19⟩, ⟨m20, m21⟩, ⟨m22, m23⟩⟩ := id hM
  have D0 : 0 < Dv := by
    obtain ⟨n', rfl⟩ : ∃ n', n = n' + 1 := ⟨n - 1, by omega⟩
    have := dv_ge (B := 32768) (f := A 8) (n := n') (by decide) (fun k k0 k1 => (hb k k0 (by omega)).1) (by rw [show (n' : Int) = ((n' + 1 : Nat) : Int) - 1 by omega]; omega)
    have := pow_pos' (B := 32768) (by decide) n'
    omega
  have DB : Dv < 32768 ^ n := by rw [hD]; exact dv_lt (by decide) (fun k k0 k1 => hb k k0 k1)
  have Un : 0 ≤ U := by rw [hU]; exact dv_nonneg (by decide) (fun k k0 k1 => (hs k k0 k1).1)
  have sn := hs n (by omega) (by omega)
  have sn1 := hs ((n : Int) - 1) (by omega) (by omega)
  have bn1 := hb ((n : Int) - 1) (by omega) (by omega)
  unfold sgm at sn sn1
  have PB := pow_pos' (B := 32768) (by decide) n
  have back : ∀ (d : Nat) (q : Int) (A1 : Nat → Int → Int), q < d → 0 ≤ q → q ≤ 32767 → (∀ a, a ≠ 7 → A1 a = A a) → (∀ k, k < j ∨ j + n < k → A1 7 k = A 7 k) → dig 32768 (sgm A1 j) n → (-40000 ≤ sgm A1 j n ∧ sgm A1 j n ≤ 40000) → U < (q + 1) * Dv → dv 32768 (sgm A1 j) n + sgm A1 j n * 32768 ^ n = U - q * Dv → X p l e { frames := 0, cells := 0, slots := 0, locals := 0 } s m args below meth c (MQ below (QX D ids β sh N R (pIr (fun z F2 A2 => z = U / Dv ∧ F2 = F ∧ (∀ a, a ≠ 7 → A2 a = A a) ∧ (∀ k, k < j ∨ j + n < k → A2 7 k = A 7 k) ∧ dig 32768 (sgm A2 j) ((n + 1 : Nat) : Int) ∧ dv 32768 (sgm A2 j) n = U % Dv))) args s 0 0 (inG β N)) (inG β N) D ids β sh 11 0 0 N R F A1 [some (rf 0), some (pI j), some (pI (n : Int)), none, some (pI q), none, none, none, none, none, none] [] 172 := by
    intro d
    induction d with
    | zero => intro q A1 hd; omega
    | succ d ih =>
      intro q A1 hd q0 q1 hA h7 hdg htop hUq hv
      have l0 := dv_nonneg (B := 32768) (f := sgm A1 j) (by decide) (n := n) (fun k k0 k1 => (hdg k k0 k1).1)
      have l1 := dv_lt (B := 32768) (f := sgm A1 j) (by decide) (n := n) (fun k k0 k1 => hdg k k0 k1)
      have t0 : A1 7 (j + (n : Int)) = sgm A1 j n := rfl
      by_cases hneg : sgm A1 j n < 0
      · have qpos : 1 ≤ q := by
          have p1 : sgm A1 j n * 32768 ^ n ≤ -1 * 32768 ^ n := Int.mul_le_mul_of_nonneg_right (by omega) (Int.le_of_lt PB)
          rcases Int.lt_or_le q 1 with x | x
          · have : q = 0 := by omega
            rw [this, Int.zero_mul] at hv
            omega
          · exact x
        have inner : ∀ (d2 k : Nat) (mo : Int) (A2 : Nat → Int → Int), (n : Int) - k < d2 → k ≤ n → (∀ a, a ≠ 7 → A2 a = A a) → (∀ i, i < j ∨ j + n < i → A2 7 i = A 7 i) → (∀ i : Int, k ≤ i → sgm A2 j i = sgm A1 j i) → dig 32768 (sgm A2 j) k → 0 ≤ mo → mo ≤ 1 → dv 32768 (sgm A2 j) k + mo * 32768 ^ k = dv 32768 (sgm A1 j) k + dv 32768 (A 8) k → X p l e { frames := 0, cells := 0, slots := 0, locals := 0 } s m args below meth c (MQ below (QX D ids β sh N R (pIr (fun z F2 A2 => z = U / Dv ∧ F2 = F ∧ (∀ a, a ≠ 7 → A2 a = A a) ∧ (∀ k, k < j ∨ j + n < k → A2 7 k = A 7 k) ∧ dig 32768 (sgm A2 j) ((n + 1 : Nat) : Int) ∧ dv 32768 (sgm A2 j) n = U % Dv))) args s 0 0 (inG β N)) (inG β N) D ids β sh 11 0 0 N R F A2 [some (rf 0), some (pI j), some (pI (n : Int)), none, some (pI (q + -1)), none, none, none, some (pI mo), some (pI (k : Int)), none] [] 192 := by
          intro d2
          induction d2 with
          | zero => intro k mo A2 hd2; omega
          | succ d2 ih2 =>
            intro k mo A2 hd2 hk2 hA2 h72 hr2 hdg2 mo0 mo1 hv2
            have rda : A2 7 (j + (k : Int)) = sgm A1 j k := hr2 k (Int.le_refl _)
            have rdb : A2 8 (k : Int) = A 8 k := by rw [hA2 8 (by decide)]
            refine x_iload (pc2 := 194) hC rfl dX8_one_192 rfl ?_
            refine x_iload_n (pc2 := 195) hC rfl rfl dX8_one_194 rfl ?_
            refine x_icmp_ge (tgt := 248) (pc2 := 198) hC (by omega) (by omega) dX8_one_195 rfl rfl (fun h_195 => ?_) (fun h_195 => ?_)
            · refine x_aload_n (pc2 := 249) hC rfl rfl dX8_one_248 rfl ?_
              refine g_820 (pc2 := 252) hC hK (by assumption) (by assumption) (by assumption) dX8_one_249 rfl ?_
              refine x_iload_n (pc2 := 253) hC rfl rfl dX8_one_252 rfl ?_
              refine x_iload_n (pc2 := 254) hC rfl rfl dX8_one_253 rfl ?_
              refine x_iadd (pc2 := 255) hC dX8_one_254 rfl ?_
              refine x_dup2 (pc2 := 256) hC dX8_one_255 rfl ?_
              refine x_iald (pc2 := 257) hC hK (by assumption) (by assumption) (by omega) (by decide) dX8_one_256 rfl ?_
              refine x_iload (pc2 := 259) hC rfl dX8_one_257 rfl ?_
              refine x_iadd (pc2 := 260) hC dX8_one_259 rfl ?_
              refine x_iast (pc2 := 261) hC hK (by assumption) (by assumption) (by omega) (by decide) dX8_one_260 rfl ?_
              refine x_goto (pc2 := 172) hC dX8_one_261 rfl ?_
              refine x_less (loc2 := [some (rf 0), some (pI j), some (pI (n : Int)), none, some (pI _), none, none, none, none, none, none]) hC ⟨rfl, rfl, rfl, rfl, trivial⟩ ?_
              have hkn : k = n := by omega
              subst hkn
              have t2 : A2 7 (j + (k : Int)) = sgm A1 j k := hr2 k (Int.le_refl _)
              have e2 : sgm (uA A2 7 (j + (k : Int)) (A2 7 (j + (k : Int)) + mo)) j k = sgm A1 j k + mo := by rw [sgm_at, if_pos rfl, t2]
              refine ih (q + -1) _ (by omega) (by omega) (by omega) (fun a ha => by rw [uA_ne ha]; exact hA2 a ha) (fun i hi => by rw [uA_ni (by omega)]; exact h72 i hi) (fun i i0 i1 => by rw [sgm_at, if_neg (by omega)]; exact hdg2 i i0 i1) (by rw [e2]; omega) ?_ ?_
              · have p1 : sgm A1 j k * 32768 ^ k ≤ -1 * 32768 ^ k := Int.mul_le_mul_of_nonneg_right (by omega) (Int.le_of_lt PB)
                rw [show q + -1 + 1 = q by omega]
                omega
              · rw [e2, dv_congr (g := sgm A2 j) (fun i i0 i1 => by rw [sgm_at, if_neg (by omega)])]
                rw [← hD] at hv2
                grind
            · have h198 : (k : Int) < n := by omega
              have da := hdg k (by omega) h198
              have db := hb k (by omega) h198
              refine x_aload_n (pc2 := 199) hC rfl rfl dX8_one_198 rfl ?_
              refine g_820 (pc2 := 202) hC hK (by assumption) (by assumption) (by assumption) dX8_one_199 rfl ?_
              refine x_iload_n (pc2 := 203) hC rfl rfl dX8_one_202 rfl ?_
              refine x_iload (pc2 := 205) hC rfl dX8_one_203 rfl ?_
              refine x_iadd (pc2 := 206) hC dX8_one_205 rfl ?_
              refine x_iald (pc2 := 207) hC hK (by assumption) (by assumption) (by omega) (by decide) dX8_one_206 rfl ?_
              rw [rda]
              refine x_aload_n (pc2 := 208) hC rfl rfl dX8_one_207 rfl ?_
              refine g_821 (pc2 := 211) hC hK (by assumption) (by assumption) (by assumption) dX8_one_208 rfl ?_
              refine x_iload (pc2 := 213) hC rfl dX8_one_211 rfl ?_
              refine x_iald (pc2 := 214) hC hK (by assumption) (by assumption) (by omega) (by decide) dX8_one_213 rfl ?_
              rw [rdb]
              refine x_iadd (pc2 := 215) hC dX8_one_214 rfl ?_
              refine x_iload (pc2 := 217) hC rfl dX8_one_215 rfl ?_
              refine x_iadd (pc2 := 218) hC dX8_one_217 rfl ?_
              refine x_istore (pc2 := 220) (loc2 := [_, _, _, _, _, _, _, _, _, _, _]) hC (by decide) rfl dX8_one_218 rfl ?_
              refine x_aload_n (pc2 := 221) hC rfl rfl dX8_one_220 rfl ?_
              refine g_820 (pc2 := 224) hC hK (by assumption) (by assumption) (by assumption) dX8_one_221 rfl ?_
              refine x_iload_n (pc2 := 225) hC rfl rfl dX8_one_224 rfl ?_
              refine x_iload (pc2 := 227) hC rfl dX8_one_225 rfl ?_
              refine x_iadd (pc2 := 228) hC dX8_one_227 rfl ?_
              refine x_iload (pc2 := 230) hC rfl dX8_one_228 rfl ?_
              refine x_sipush (pc2 := 233) hC rfl dX8_one_230 rfl ?_
              refine x_iand (pc2 := 234) hC (by omega) (by omega) dX8_one_233 rfl ?_
              refine x_iast (pc2 := 235) hC hK (by assumption) (by assumption) (by omega) (by decide) dX8_one_234 rfl ?_
              refine x_iload (pc2 := 237) hC rfl dX8_one_235 rfl ?_
              refine x_bipush (pc2 := 239) hC rfl dX8_one_237 rfl ?_
              refine x_ishr (pc2 := 240) hC (by omega) (by omega) dX8_one_239 rfl ?_
              refine x_istore (pc2 := 242) (loc2 := [_, _, _, _, _, _, _, _, _, _, _]) hC (by decide) rfl dX8_one_240 rfl ?_
              refine x_iinc (pc2 := 245) (loc2 := [_, _, _, _, _, _, _, _, _, _, _]) hC (by decide) rfl rfl dX8_one_242 rfl ?_
              refine x_goto (pc2 := 192) hC dX8_one_245 rfl ?_
              refine x_less (loc2 := [some (rf 0), some (pI j), some (pI (n : Int)), none, some (pI _), none, none, none, some (pI _), some (pI _), none]) hC ⟨rfl, rfl, rfl, rfl, rfl, rfl, trivial⟩ ?_
              refine ih2 (k + 1) _ _ (by omega) (by omega) (fun a ha => by rw [uA_ne ha]; exact hA2 a ha) (fun i hi => by rw [uA_ni (by omega)]; exact h72 i hi) (fun i hi => by rw [sgm_at, if_neg (by omega)]; exact hr2 i (by omega)) (fun i i0 i1 => ?_) (by omega) (by omega) ?_
              · rw [sgm_at]
                split
                · omega
                · exact hdg2 i i0 (by omega)
              · rw [dvs_uA, Int.pow_succ, ab_step hv2 rfl]
                simp only [dv]
                grind
        refine x_aload_n (pc2 := 173) hC rfl rfl dX8_one_172 rfl ?_
        refine g_820 (pc2 := 176) hC hK (by assumption) (by assumption) (by assumption) dX8_one_173 rfl ?_
        refine x_iload_n (pc2 := 177) hC rfl rfl dX8_one_176 rfl ?_
        refine x_iload_n (pc2 := 178) hC rfl rfl dX8_one_177 rfl ?_
        refine x_iadd (pc2 := 179) hC dX8_one_178 rfl ?_
        refine x_iald (pc2 := 180) hC hK (by assumption) (by assumption) (by omega) (by decide) dX8_one_179 rfl ?_
        refine x_if_ge (tgt := 264) (pc2 := 183) hC (by rw [t0]; omega) dX8_one_180 rfl rfl (fun h_180 => ?_) (fun h_180 => ?_)
        · exfalso; omega
        · refine x_iinc (pc2 := 186) (loc2 := [_, _, _, _, _, _, _, _, _, _, _]) hC (by decide) rfl rfl dX8_one_183 rfl ?_
          refine x_iconst (pc2 := 187) hC dX8_one_186 rfl ?_
          refine x_istore (pc2 := 189) (loc2 := [_, _, _, _, _, _, _, _, _, _, _]) hC (by decide) rfl dX8_one_187 rfl ?_
          refine x_iconst (pc2 := 190) hC dX8_one_189 rfl ?_
          refine x_istore (pc2 := 192) (loc2 := [_, _, _, _, _, _, _, _, _, _, _]) hC (by decide) rfl dX8_one_190 rfl ?_
          refine x_less (loc2 := [some (rf 0), some (pI j), some (pI (n : Int)), none, some (pI _), none, none, none, some (pI _), some (pI ((0 : Nat) : Int)), none]) hC ⟨rfl, rfl, rfl, rfl, rfl, rfl, trivial⟩ ?_
          refine inner (n + 1) 0 0 A1 (by omega) (by omega) hA h7 (fun _ _ => rfl) (fun i i0 i1 => by omega) (by decide) (by decide) (by simp [dv])
      · have hqr : U = q * Dv + (dv 32768 (sgm A1 j) n + sgm A1 j n * 32768 ^ n) := by omega
        have p0 : 0 ≤ sgm A1 j n * 32768 ^ n := Int.mul_nonneg (by omega) (Int.le_of_lt PB)
        rw [Int.add_mul, Int.one_mul] at hUq
        obtain ⟨r1, r2⟩ := qr_of hqr (by omega) (by omega)
        have tz : sgm A1 j n = 0 := by
          rcases Int.lt_or_le 0 (sgm A1 j n) with x | x
          · have p1 : 1 * 32768 ^ n ≤ sgm A1 j n * 32768 ^ n := Int.mul_le_mul_of_nonneg_right (by omega) (Int.le_of_lt PB)
            omega
          · omega
        have dg2 : dig 32768 (sgm A1 j) ((n + 1 : Nat) : Int) := fun i i0 i1 => by
          by_cases x : i = n
          · rw [x, tz]; decide
          · exact hdg i i0 (by omega)
        rw [tz, Int.zero_mul, Int.add_zero] at r2
        refine x_aload_n (pc2 := 173) hC rfl rfl dX8_one_172 rfl ?_
        refine g_820 (pc2 := 176) hC hK (by assumption) (by assumption) (by assumption) dX8_one_173 rfl ?_
        refine x_iload_n (pc2 := 177) hC rfl rfl dX8_one_176 rfl ?_
        refine x_iload_n (pc2 := 178) hC rfl rfl dX8_one_177 rfl ?_
        refine x_iadd (pc2 := 179) hC dX8_one_178 rfl ?_
        refine x_iald (pc2 := 180) hC hK (by assumption) (by assumption) (by omega) (by decide) dX8_one_179 rfl ?_
        refine x_if_ge (tgt := 264) (pc2 := 183) hC (by rw [t0]; omega) dX8_one_180 rfl rfl (fun h_180 => ?_) (fun h_180 => ?_)
        · refine x_iload (pc2 := 266) hC rfl dX8_one_264 rfl ?_
          exact x_iret hC hr hlk ⟨_, rfl, r1, rfl, hA, h7, dg2, r2⟩ dX8_one_266
        · exfalso; omega
  have mul : ∀ (q : Int), 0 ≤ q → q ≤ 32767 → U < (q + 1) * Dv → ∀ (d k : Nat) (ow ov : Int) (A1 : Nat → Int → Int), (n : Int) - k < d → k ≤ n → (∀ a, a ≠ 7 → A1 a = A a) → (∀ i, i < j ∨ j + n < i → A1 7 i = A 7 i) → (∀ i : Int, k ≤ i → sgm A1 j i = sgm A j i) → dig 32768 (sgm A1 j) k → (0 ≤ ow ∧ ow ≤ 1) → (0 ≤ ov ∧ ov ≤ 32767) → dv 32768 (sgm A1 j) k + -(ov + ow) * 32768 ^ k = dv 32768 (sgm A j) k - q * dv 32768 (A 8) k → X p l e { frames := 0, cells := 0, slots := 0, locals := 0 } s m args below meth c (MQ below (QX D ids β sh N R (pIr (fun z F2 A2 => z = U / Dv ∧ F2 = F ∧ (∀ a, a ≠ 7 → A2 a = A a) ∧ (∀ k, k < j ∨ j + n < k → A2 7 k = A 7 k) ∧ dig 32768 (sgm A2 j) ((n + 1 : Nat) : Int) ∧ dv 32768 (sgm A2 j) n = U % Dv))) args s 0 0 (inG β N)) (inG β N) D ids β sh 11 0 0 N R F A1 [some (rf 0), some (pI j), some (pI (n : Int)), none, some (pI q), some (pI ow), some (pI ov), some (pI (k : Int)), none, none, none] [] 62 := by
    intro q q0 q1 hUq d
    induction d with
    | zero => intro k ow ov A1 hd; omega
    | succ d ih =>
      intro k ow ov A1 hd hk hA h7 hrr hdg how hov hv
      have rda : A1 7 (j + (k : Int)) = sgm A j k := hrr k (Int.le_refl _)
      have rdb : A1 8 (k : Int) = A 8 k := by rw [hA 8 (by decide)]
      refine x_iload (pc2 := 64) hC rfl dX8_one_62 rfl ?_
      refine x_iload_n (pc2 := 65) hC rfl rfl dX8_one_64 rfl ?_
      refine x_icmp_ge (tgt := 146) (pc2 := 68) hC (by omega) (by omega) dX8_one_65 rfl rfl (fun h_65 => ?_) (fun h_65 => ?_)
      · refine x_aload_n (pc2 := 147) hC rfl rfl dX8_one_146 rfl ?_
        refine g_820 (pc2 := 150) hC hK (by assumption) (by assumption) (by assumption) dX8_one_147 rfl ?_
        refine x_iload_n (pc2 := 151) hC rfl rfl dX8_one_150 rfl ?_
        refine x_iload_n (pc2 := 152) hC rfl rfl dX8_one_151 rfl ?_
        refine x_iadd (pc2 := 153) hC dX8_one_152 rfl ?_
        refine x_iald (pc2 := 154) hC hK (by assumption) (by assumption) (by omega) (by decide) dX8_one_153 rfl ?_
        refine x_iload (pc2 := 156) hC rfl dX8_one_154 rfl ?_
        refine x_isub (pc2 := 157) hC dX8_one_156 rfl ?_
        refine x_iload (pc2 := 159) hC rfl dX8_one_157 rfl ?_
        refine x_isub (pc2 := 160) hC dX8_one_159 rfl ?_
        refine x_istore (pc2 := 162) (loc2 := [_, _, _, _, _, _, _, _, _, _, _]) hC (by decide) rfl dX8_one_160 rfl ?_
        refine x_aload_n (pc2 := 163) hC rfl rfl dX8_one_162 rfl ?_
        refine g_820 (pc2 := 166) hC hK (by assumption) (by assumption) (by assumption) dX8_one_163 rfl ?_
        refine x_iload_n (pc2 := 167) hC rfl rfl dX8_one_166 rfl ?_
        refine x_iload_n (pc2 := 168) hC rfl rfl dX8_one_167 rfl ?_
        refine x_iadd (pc2 := 169) hC dX8_one_168 rfl ?_
        refine x_iload (pc2 := 171) hC rfl dX8_one_169 rfl ?_
        refine x_iast (pc2 := 172) hC hK (by assumption) (by assumption) (by omega) (by decide) dX8_one_171 rfl ?_
        refine x_less (loc2 := [some (rf 0), some (pI j), some (pI (n : Int)), none, some (pI _), none, none, none, none, none, none]) hC ⟨rfl, rfl, rfl, rfl, trivial⟩ ?_
        have hkn : k = n := by omega
        subst hkn
        rw [rda]
        have e2 : sgm (uA A1 7 (j + (k : Int)) (sgm A j k - ov - ow)) j k = sgm A j k - ov - ow := by rw [sgm_at, if_pos rfl]
        refine back (q.toNat + 1) q _ (by omega) q0 q1 (fun a ha => by rw [uA_ne ha]; exact hA a ha) (fun i hi => by rw [uA_ni (by omega)]; exact h7 i hi) (fun i i0 i1 => by rw [sgm_at, if_neg (by omega)]; exact hdg i i0 i1) (by rw [e2]; unfold sgm; omega) hUq ?_
        rw [e2, dv_congr (g := sgm A1 j) (fun i i0 i1 => by rw [sgm_at, if_neg (by omega)])]
        rw [← hD] at hv
        have := dv_hi hU
        grind
      · have h68 : (k : Int) < n := by omega
        have da := hs k (by omega) (by omega)
        have db := hb k (by omega) h68
        have mr := mul_rng2 db (show 0 ≤ q ∧ q < 32768 by omega)
        refine x_aload_n (pc2 := 69) hC rfl rfl dX8_one_68 rfl ?_
        refine g_821 (pc2 := 72) hC hK (by assumption) (by assumption) (by assumption) dX8_one_69 rfl ?_
        refine x_iload (pc2 := 74) hC rfl dX8_one_72 rfl ?_
        refine x_iald (pc2 := 75) hC hK (by assumption) (by assumption) (by omega) (by decide) dX8_one_74 rfl ?_
        rw [rdb]
        refine x_iload (pc2 := 77) hC rfl dX8_one_75 rfl ?_
        refine x_imul (pc2 := 78) hC dX8_one_77 rfl ?_
        refine x_iload (pc2 := 80) hC rfl dX8_one_78 rfl ?_
        refine x_iadd (pc2 := 81) hC dX8_one_80 rfl ?_
        refine x_istore (pc2 := 83) (loc2 := [_, _, _, _, _, _, _, _, _, _, _]) hC (by decide) rfl dX8_one_81 rfl ?_
        refine x_iload (pc2 := 85) hC rfl dX8_one_83 rfl ?_
        refine x_bipush (pc2 := 87) hC rfl dX8_one_85 rfl ?_
        refine x_ishr (pc2 := 88) hC (by omega) (by omega) dX8_one_87 rfl ?_
        refine x_istore (pc2 := 90) (loc2 := [_, _, _, _, _, _, _, _, _, _, _]) hC (by decide) rfl dX8_one_88 rfl ?_
        refine x_aload_n (pc2 := 91) hC rfl rfl dX8_one_90 rfl ?_
        refine g_820 (pc2 := 94) hC hK (by assumption) (by assumption) (by assumption) dX8_one_91 rfl ?_
        refine x_iload_n (pc2 := 95) hC rfl rfl dX8_one_94 rfl ?_
        refine x_iload (pc2 := 97) hC rfl dX8_one_95 rfl ?_
        refine x_iadd (pc2 := 98) hC dX8_one_97 rfl ?_
        refine x_iald (pc2 := 99) hC hK (by assumption) (by assumption) (by omega) (by decide) dX8_one_98 rfl ?_
        rw [rda]
        refine x_iload (pc2 := 101) hC rfl dX8_one_99 rfl ?_
        refine x_sipush (pc2 := 104) hC rfl dX8_one_101 rfl ?_
        refine x_iand (pc2 := 105) hC (by omega) (by omega) dX8_one_104 rfl ?_
        refine x_isub (pc2 := 106) hC dX8_one_105 rfl ?_
        refine x_iload (pc2 := 108) hC rfl dX8_one_106 rfl ?_
        refine x_isub (pc2 := 109) hC dX8_one_108 rfl ?_
        refine x_istore (pc2 := 111) (loc2 := [_, _, _, _, _, _, _, _, _, _, _]) hC (by decide) rfl dX8_one_109 rfl ?_
        refine x_iload (pc2 := 113) hC rfl dX8_one_111 rfl ?_
        refine x_if_ge (tgt := 120) (pc2 := 116) hC (by omega) dX8_one_113 rfl rfl (fun h_113 => ?_) (fun h_113 => ?_)
        · refine x_iconst (pc2 := 121) hC dX8_one_120 rfl ?_
          refine x_istore (pc2 := 123) (loc2 := [_, _, _, _, _, _, _, _, _, _, _]) hC (by decide) rfl dX8_one_121 rfl ?_
          refine x_aload_n (pc2 := 124) hC rfl rfl dX8_one_123 rfl ?_
          refine g_820 (pc2 := 127) hC hK (by assumption) (by assumption) (by assumption) dX8_one_124 rfl ?_
          refine x_iload_n (pc2 := 128) hC rfl rfl dX8_one_127 rfl ?_
          refine x_iload (pc2 := 130) hC rfl dX8_one_128 rfl ?_
          refine x_iadd (pc2 := 131) hC dX8_one_130 rfl ?_
          refine x_iload (pc2 := 133) hC rfl dX8_one_131 rfl ?_
          refine x_iload (pc2 := 135) hC rfl dX8_one_133 rfl ?_
          refine x_ldc (pc2 := 137) (z := 32768) hC wt_935 rfl dX8_one_135 rfl ?_
          refine x_imul (pc2 := 138) hC dX8_one_137 rfl ?_
          refine x_iadd (pc2 := 139) hC dX8_one_138 rfl ?_
          refine x_iast (pc2 := 140) hC hK (by assumption) (by assumption) (by omega) (by decide) dX8_one_139 rfl ?_
          refine x_iinc (pc2 := 143) (loc2 := [_, _, _, _, _, _, _, _, _, _, _]) hC (by decide) rfl rfl dX8_one_140 rfl ?_
          refine x_goto (pc2 := 62) hC dX8_one_143 rfl ?_
          refine x_less (loc2 := [some (rf 0), some (pI j), some (pI (n : Int)), none, some (pI _), some (pI _), some (pI _), some (pI _), none, none, none]) hC ⟨rfl, rfl, rfl, rfl, rfl, rfl, rfl, trivial⟩ ?_
          refine ih (k + 1) _ _ _ (by omega) (by omega) (fun a ha => by rw [uA_ne ha]; exact hA a ha) (fun i hi => by rw [uA_ni (by omega)]; exact h7 i hi) (fun i hi => by rw [sgm_at, if_neg (by omega)]; exact hrr i (by omega)) (fun i i0 i1 => ?_) (by omega) (by omega) ?_
          · rw [sgm_at]
            split
            · omega
            · exact hdg i i0 (by omega)
          · rw [dvs_uA, Int.pow_succ, ms_step (q := q) hv rfl rfl rfl]
            simp only [dv]
            grind
        · refine x_iconst (pc2 := 117) hC dX8_one_116 rfl ?_
          refine x_goto (pc2 := 121) hC dX8_one_117 rfl ?_
          refine x_istore (pc2 := 123) (loc2 := [_, _, _, _, _, _, _, _, _, _, _]) hC (by decide) rfl dX8_one_121 rfl ?_
          refine x_aload_n (pc2 := 124) hC rfl rfl dX8_one_123 rfl ?_
          refine g_820 (pc2 := 127) hC hK (by assumption) (by assumption) (by assumption) dX8_one_124 rfl ?_
          refine x_iload_n (pc2 := 128) hC rfl rfl dX8_one_127 rfl ?_
          refine x_iload (pc2 := 130) hC rfl dX8_one_128 rfl ?_
          refine x_iadd (pc2 := 131) hC dX8_one_130 rfl ?_
          refine x_iload (pc2 := 133) hC rfl dX8_one_131 rfl ?_
          refine x_iload (pc2 := 135) hC rfl dX8_one_133 rfl ?_
          refine x_ldc (pc2 := 137) (z := 32768) hC wt_935 rfl dX8_one_135 rfl ?_
          refine x_imul (pc2 := 138) hC dX8_one_137 rfl ?_
          refine x_iadd (pc2 := 139) hC dX8_one_138 rfl ?_
          refine x_iast (pc2 := 140) hC hK (by assumption) (by assumption) (by omega) (by decide) dX8_one_139 rfl ?_
          refine x_iinc (pc2 := 143) (loc2 := [_, _, _, _, _, _, _, _, _, _, _]) hC (by decide) rfl rfl dX8_one_140 rfl ?_
          refine x_goto (pc2 := 62) hC dX8_one_143 rfl ?_
          refine x_less (loc2 := [some (rf 0), some (pI j), some (pI (n : Int)), none, some (pI _), some (pI _), some (pI _), some (pI _), none, none, none]) hC ⟨rfl, rfl, rfl, rfl, rfl, rfl, rfl, trivial⟩ ?_
          refine ih (k + 1) _ _ _ (by omega) (by omega) (fun a ha => by rw [uA_ne ha]; exact hA a ha) (fun i hi => by rw [uA_ni (by omega)]; exact h7 i hi) (fun i hi => by rw [sgm_at, if_neg (by omega)]; exact hrr i (by omega)) (fun i i0 i1 => ?_) (by omega) (by omega) ?_
          · rw [sgm_at]
            split
            · omega
            · exact hdg i i0 (by omega)
          · rw [dvs_uA, Int.pow_succ, ms_step (q := q) hv rfl rfl rfl]
            simp only [dv]
            grind
  refine x_aload_n (pc2 := 1) hC rfl rfl dX8_one_0 rfl ?_
  refine g_820 (pc2 := 4) hC hK (by assumption) (by assumption) (by assumption) dX8_one_1 rfl ?_
  refine x_iload_n (pc2 := 5) hC rfl rfl dX8_one_4 rfl ?_
  refine x_iload_n (pc2 := 6) hC rfl rfl dX8_one_5 rfl ?_
  refine x_iadd (pc2 := 7) hC dX8_one_6 rfl ?_
  refine x_iald (pc2 := 8) hC hK (by assumption) (by assumption) (by omega) (by decide) dX8_one_7 rfl ?_
  have e7 : A 7 (j + (n : Int) - 1) = A 7 (j + ((n : Int) - 1)) := by rw [show j + (n : Int) - 1 = j + ((n : Int) - 1) by omega]
  refine x_ldc (pc2 := 10) (z := 32768) hC wt_935 rfl dX8_one_8 rfl ?_
  refine x_imul (pc2 := 11) hC dX8_one_10 rfl ?_
  refine x_aload_n (pc2 := 12) hC rfl rfl dX8_one_11 rfl ?_
  refine g_820 (pc2 := 15) hC hK (by assumption) (by assumption) (by assumption) dX8_one_12 rfl ?_
  refine x_iload_n (pc2 := 16) hC rfl rfl dX8_one_15 rfl ?_
  refine x_iload_n (pc2 := 17) hC rfl rfl dX8_one_16 rfl ?_
  refine x_iadd (pc2 := 18) hC dX8_one_17 rfl ?_
  refine x_iconst (pc2 := 19) hC dX8_one_18 rfl ?_
  refine x_isub (pc2 := 20) hC dX8_one_19 rfl ?_
  refine x_iald (pc2 := 21) hC hK (by assumption) (by assumption) (by omega) (by decide) dX8_one_20 rfl ?_
  refine x_iadd (pc2 := 22) hC dX8_one_21 rfl ?_
  refine x_istore_n (pc2 := 23) (loc2 := [_, _, _, _, _, _, _, _, _, _, _]) hC rfl (by decide) rfl dX8_one_22 rfl ?_
  refine x_iload_n (pc2 := 24) hC rfl rfl dX8_one_23 rfl ?_
  refine x_aload_n (pc2 := 25) hC rfl rfl dX8_one_24 rfl ?_
  refine g_821 (pc2 := 28) hC hK (by assumption) (by assumption) (by assumption) dX8_one_25 rfl ?_
  refine x_iload_n (pc2 := 29) hC rfl rfl dX8_one_28 rfl ?_
  refine x_iconst (pc2 := 30) hC dX8_one_29 rfl ?_
  refine x_isub (pc2 := 31) hC dX8_one_30 rfl ?_
  refine x_iald (pc2 := 32) hC hK (by assumption) (by assumption) (by omega) (by decide) dX8_one_31 rfl ?_
  refine x_idivp (pc2 := 33) hC (by omega) (by omega) (by omega) (by omega) dX8_one_32 rfl ?_
  obtain ⟨n', hn'⟩ : ∃ n', n = n' + 1 := ⟨n - 1, by omega⟩
  have gg := guess_ge (f := sgm A j) (g := A 8) (n := n') (q := (A 7 (j + (n : Int)) * 32768 + A 7 (j + (n : Int) - 1)) / A 8 ((n : Int) - 1)) (D := Dv) (U := U) (by rw [← hn']; exact hs) (by rw [← hn']; exact hb) (by rw [← hn']; exact hU) (by rw [← hn']; exact hD) (by rw [show (n' : Int) = (n : Int) - 1 by omega]; exact hb1) (by unfold sgm; rw [show j + ((n' : Int) + 1) = j + (n : Int) by omega, show j + (n' : Int) = j + (n : Int) - 1 by omega, show (n' : Int) = (n : Int) - 1 by omega])
  have g0 : 0 ≤ (A 7 (j + (n : Int)) * 32768 + A 7 (j + (n : Int) - 1)) / A 8 ((n : Int) - 1) := Int.ediv_nonneg (by omega) (by omega)
  have g1 : (A 7 (j + (n : Int)) * 32768 + A 7 (j + (n : Int) - 1)) / A 8 ((n : Int) - 1) ≤ A 7 (j + (n : Int)) * 32768 + A 7 (j + (n : Int) - 1) := Int.ediv_le_self _ (by omega)
  refine x_istore (pc2 := 35) (loc2 := [_, _, _, _, _, _, _, _, _, _, _]) hC (by decide) rfl dX8_one_33 rfl ?_
  refine x_iload (pc2 := 37) hC rfl dX8_one_35 rfl ?_
  refine x_sipush (pc2 := 40) hC rfl dX8_one_37 rfl ?_
  refine x_icmp_le (tgt := 49) (pc2 := 43) hC (by omega) (by omega) dX8_one_40 rfl rfl (fun h_40 => ?_) (fun h_40 => ?_)
  · refine x_iload (pc2 := 51) hC rfl dX8_one_49 rfl ?_
    refine x_istore (pc2 := 53) (loc2 := [_, _, _, _, _, _, _, _, _, _, _]) hC (by decide) rfl dX8_one_51 rfl ?_
    refine x_iconst (pc2 := 54) hC dX8_one_53 rfl ?_
    refine x_istore (pc2 := 56) (loc2 := [_, _, _, _, _, _, _, _, _, _, _]) hC (by decide) rfl dX8_one_54 rfl ?_
    refine x_iconst (pc2 := 57) hC dX8_one_56 rfl ?_
    refine x_istore (pc2 := 59) (loc2 := [_, _, _, _, _, _, _, _, _, _, _]) hC (by decide) rfl dX8_one_57 rfl ?_
    refine x_iconst (pc2 := 60) hC dX8_one_59 rfl ?_
    refine x_istore (pc2 := 62) (loc2 := [_, _, _, _, _, _, _, _, _, _, _]) hC (by decide) rfl dX8_one_60 rfl ?_
    exact x_less (loc2 := [some (rf 0), some (pI j), some (pI (n : Int)), none, some (pI _), some (pI 0), some (pI 0), some (pI ((0 : Nat) : Int)), none, none, none]) hC ⟨rfl, rfl, rfl, rfl, rfl, rfl, rfl, trivial⟩ (mul _ (by omega) (by omega) gg (n + 1) 0 0 0 A (by omega) (by omega) (fun _ _ => rfl) (fun _ _ => rfl) (fun _ _ => rfl) (fun i i0 i1 => by omega) (by decide) (by decide) (by simp [dv]))
  · refine x_sipush (pc2 := 46) hC rfl dX8_one_43 rfl ?_
    refine x_goto (pc2 := 51) hC dX8_one_46 rfl ?_
    refine x_istore (pc2 := 53) (loc2 := [_, _, _, _, _, _, _, _, _, _, _]) hC (by decide) rfl dX8_one_51 rfl ?_
    refine x_iconst (pc2 := 54) hC dX8_one_53 rfl ?_
    refine x_istore (pc2 := 56) (loc2 := [_, _, _, _, _, _, _, _, _, _, _]) hC (by decide) rfl dX8_one_54 rfl ?_
    refine x_iconst (pc2 := 57) hC dX8_one_56 rfl ?_
    refine x_istore (pc2 := 59) (loc2 := [_, _, _, _, _, _, _, _, _, _, _]) hC (by decide) rfl dX8_one_57 rfl ?_
    refine x_iconst (pc2 := 60) hC dX8_one_59 rfl ?_
    refine x_istore (pc2 := 62) (loc2 := [_, _, _, _, _, _, _, _, _, _, _]) hC (by decide) rfl dX8_one_60 rfl ?_
    exact x_less (loc2 := [some (rf 0), some (pI j), some (pI (n : Int)), none, some (pI _), some (pI 0), some (pI 0), some (pI ((0 : Nat) : Int)), none, none, none]) hC ⟨rfl, rfl, rfl, rfl, rfl, rfl, rfl, trivial⟩ (mul _ (by omega) (by omega) (by omega) (n + 1) 0 0 0 A (by omega) (by omega) (fun _ _ => rfl) (fun _ _ => rfl) (fun _ _ => rfl) (fun i i0 i1 => by omega) (by decide) (by decide) (by simp [dv]))
