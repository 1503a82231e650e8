/-- only the slot r and the rows for dividing change -/
def Wx (r : Int) (A A1 : Nat → Int → Int) : Prop := (∀ u, u ≠ r → A1 5 u = A 5 u) ∧ A1 6 = A 6 ∧ (∀ j, j < 240 * r ∨ 240 * r + 240 ≤ j → A1 4 j = A 4 j) ∧ ∀ a, a ≠ 4 → a ≠ 5 → a ≠ 7 → a ≠ 8 → a ≠ 9 → A1 a = A a
theorem Wx.rf {r : Int} {A : Nat → Int → Int} : Wx r A A := ⟨fun _ _ => rfl, rfl, fun _ _ => rfl, fun _ _ _ _ _ _ => rfl⟩
theorem Wx.w4 {r i v : Int} {A A1 : Nat → Int → Int} (h : Wx r A A1) (h0 : 240 * r ≤ i) (h1 : i < 240 * r + 240) : Wx r A (uA A1 4 i v) := ⟨fun u hu => by rw [uA_ne (by decide)]; exact h.1 u hu, by rw [uA_ne (by decide)]; exact h.2.1, fun j hj => by rw [uA_ni (by omega)]; exact h.2.2.1 j hj, fun a a4 a5 a7 a8 a9 => by rw [uA_ne a4]; exact h.2.2.2 a a4 a5 a7 a8 a9⟩
theorem Wx.w5 {r v : Int} {A A1 : Nat → Int → Int} (h : Wx r A A1) : Wx r A (uA A1 5 r v) := ⟨fun u hu => by rw [uA_ni hu]; exact h.1 u hu, by rw [uA_ne (by decide)]; exact h.2.1, fun j hj => by rw [uA_ne (by decide)]; exact h.2.2.1 j hj, fun a a4 a5 a7 a8 a9 => by rw [uA_ne a5]; exact h.2.2.2 a a4 a5 a7 a8 a9⟩
theorem Wx.wa {r i v : Int} {b : Nat} {A A1 : Nat → Int → Int} (h : Wx r A A1) (hb : b = 7 ∨ b = 8 ∨ b = 9) : Wx r A (uA A1 b i v) := ⟨fun u hu => by rw [uA_ne (by omega)]; exact h.1 u hu, by rw [uA_ne (by omega)]; exact h.2.1, fun j hj => by rw [uA_ne (by omega)]; exact h.2.2.1 j hj, fun a a4 a5 a7 a8 a9 => by rw [uA_ne (by omega)]; exact h.2.2.2 a a4 a5 a7 a8 a9⟩
theorem Wx.of {r : Int} {A A1 A2 : Nat → Int → Int} (h : Wx r A A1) (h2 : ∀ a, a ≠ 7 → A2 a = A1 a) : Wx r A A2 := ⟨fun u hu => by rw [h2 5 (by decide)]; exact h.1 u hu, by rw [h2 6 (by decide)]; exact h.2.1, fun j hj => by rw [h2 4 (by decide)]; exact h.2.2.1 j hj, fun a a4 a5 a7 a8 a9 => by rw [h2 a a7]; exact h.2.2.2 a a4 a5 a7 a8 a9⟩
theorem Wx.ok {r x : Int} {A A1 : Nat → Int → Int} (h : Wx r A A1) (hx : x ≠ r) (hs : MOK A x) : MOK A1 x ∧ mm A1 x = mm A x ∧ mv A1 x = mv A x := by
  obtain ⟨h1, h2, h3, -⟩ := h
  have e5 := h1 x hx
  have ml : ∀ k : Int, 0 ≤ k → k < 240 → mlm A1 x k = mlm A x k := fun k k0 hk => h3 _ (by omega)
  obtain ⟨a, b, c, d⟩ := hs
  have em : mm A1 x = mm A x := by
    unfold mm
    rw [e5]; exact dv_congr (fun k k0 k1 => ml k k0 (by omega))
  refine ⟨⟨by rw [e5]; exact a, fun k k0 k1 => ?_, fun q => ?_, by rw [h2]; exact d⟩, em, ?_⟩
  · rw [e5] at k1
    rw [ml k k0 (by omega)]; exact b k k0 k1
  · rw [e5] at q ⊢
    rw [ml _ (by omega) (by omega)]; exact c q
  · unfold mv
    rw [em, h2]
theorem MOK.tr {A1 A2 : Nat → Int → Int} {r n : Int} (hs : 0 ≤ A1 5 r ∧ A1 5 r ≤ 240) (hd : dig 32768 (mlm A1 r) (A1 5 r)) (h6 : A1 6 r = 1 ∨ A1 6 r = -1) (hn : 0 ≤ n ∧ n ≤ A1 5 r) (hA : A2 = uA A1 5 r n) (ht : 0 < n → mlm A1 r (n - 1) ≠ 0) (hz : ∀ k : Int, n ≤ k → k < A1 5 r → mlm A1 r k = 0) : MOK A2 r ∧ mm A2 r = dv 32768 (mlm A1 r) (A1 5 r).toNat := by
  subst hA
  have e5 : uA A1 5 r n 5 r = n := uA_eq
  have e6 : uA A1 5 r n 6 r = A1 6 r := by rw [uA_ne (by decide)]
  refine ⟨⟨by rw [e5]; omega, ?_, ?_, by rw [e6]; exact h6⟩, ?_⟩
  · rw [e5, mlm_5]; exact fun k k0 k1 => hd k k0 (by omega)
  · rw [e5, mlm_5]; exact ht
  · unfold mm
    rw [e5, mlm_5, dv_drop (n := n.toNat) (m := (A1 5 r).toNat) (by omega) (fun k k0 k1 => hz k (by omega) (by omega))]
theorem dv7_uA {B : Int} {A : Nat → Int → Int} {b k : Nat} {v : Int} : dv B (uA A b k v b) (k + 1) = dv B (A b) k + v * B ^ k := dv_uA
theorem mu_step {B d c t P v x y : Int} (h : d + c * P = y * t) (hv : v = x * y + c) : d + v % B * P + v / B * (P * B) = y * (t + x * P) := by
  have := Int.mul_ediv_add_emod v B
  grind
theorem dv_cons {B : Int} {f : Int → Int} {m : Nat} : dv B f (m + 1) = f 0 + B * dv B (fun i => f (1 + i)) m := by
  rw [Nat.add_comm, dv_split 1 m]
  simp [dv, Int.pow_succ]
/-- dividing by the factor, from the top -/
theorem sd_step {B q l P x y v a r : Int} (hv : v = l * B + a) (hP : q * (P * B * y) + l * (P * B) + x + a * P = r) : q * (P * (v / q + B * y)) + v % q * P + x = r := by
  have := Int.mul_ediv_add_emod v q
  grind
/-- the factor makes the divisor great, and no longer -/
theorem nrm_lt {f : Int → Int} {n : Nat} (hd : dig 32768 f (n + 1 : Nat)) : (32768 / (f n + 1)) * dv 32768 f (n + 1) < 32768 ^ (n + 1) := by
  have P := pow_pos' (B := 32768) (by decide) n
  have a1 := dv_lt (B := 32768) (f := f) (by decide) (n := n) (fun k k0 k1 => hd k k0 (by omega))
  have t := hd n (by omega) (by omega)
  have e := Int.mul_ediv_self_le (x := 32768) (k := f n + 1) (by omega)
  have g0 : 1 ≤ 32768 / (f n + 1) := by
    have := Int.ediv_le_ediv (show 0 < f n + 1 by omega) (show f n + 1 ≤ 32768 by omega)
    rwa [Int.ediv_self (by omega)] at this
  have b1 : dv 32768 f (n + 1) < (f n + 1) * 32768 ^ n := by simp only [dv]; grind
  have b2 := Int.mul_lt_mul_of_pos_left b1 (show 0 < 32768 / (f n + 1) by omega)
  have b3 : (f n + 1) * (32768 / (f n + 1)) * 32768 ^ n ≤ 32768 * 32768 ^ n := Int.mul_le_mul_of_nonneg_right e (Int.le_of_lt P)
  rw [Int.pow_succ]
  grind
theorem dX8_divides_0 : decode cX8_divides 0 = .ok (.aload_n 0, 1) := by decide +kernel
theorem dX8_divides_1 : decode cX8_divides 1 = .ok (.getfield 31, 3) := by decide +kernel
theorem dX8_divides_4 : decode cX8_divides 4 = .ok (.iload_n 2, 1) := by decide +kernel
theorem dX8_divides_5 : decode cX8_divides 5 = .ok (.iaload, 1) := by decide +kernel
theorem dX8_divides_6 : decode cX8_divides 6 = .ok (.istore 4, 2) := by decide +kernel
theorem dX8_divides_8 : decode cX8_divides 8 = .ok (.aload_n 0, 1) := by decide +kernel
theorem dX8_divides_9 : decode cX8_divides 9 = .ok (.getfield 31, 3) := by decide +kernel
theorem dX8_divides_12 : decode cX8_divides 12 = .ok (.iload_n 1, 1) := by decide +kernel
theorem dX8_divides_13 : decode cX8_divides 13 = .ok (.iaload, 1) := by decide +kernel
theorem dX8_divides_14 : decode cX8_divides 14 = .ok (.istore 5, 2) := by decide +kernel
theorem dX8_divides_16 : decode cX8_divides 16 = .ok (.iconst 0, 1) := by decide +kernel
theorem dX8_divides_17 : decode cX8_divides 17 = .ok (.istore 6, 2) := by decide +kernel
theorem dX8_divides_19 : decode cX8_divides 19 = .ok (.iload 6, 2) := by decide +kernel
theorem dX8_divides_21 : decode cX8_divides 21 = .ok (.iload 5, 2) := by decide +kernel
theorem dX8_divides_23 : decode cX8_divides 23 = .ok (.iconst 1, 1) := by decide +kernel
theorem dX8_divides_24 : decode cX8_divides 24 = .ok (.iadd, 1) := by decide +kernel
theorem dX8_divides_25 : decode cX8_divides 25 = .ok (.if_icmp .ge 17, 3) := by decide +kernel
theorem dX8_divides_28 : decode cX8_divides 28 = .ok (.aload_n 0, 1) := by decide +kernel
theorem dX8_divides_29 : decode cX8_divides 29 = .ok (.getfield 43, 3) := by decide +kernel
theorem dX8_divides_32 : decode cX8_divides 32 = .ok (.iload 6, 2) := by decide +kernel
theorem dX8_divides_34 : decode cX8_divides 34 = .ok (.iconst 0, 1) := by decide +kernel
theorem dX8_divides_35 : decode cX8_divides 35 = .ok (.iastore, 1) := by decide +kernel
theorem dX8_divides_36 : decode cX8_divides 36 = .ok (.iinc 6 1, 3) := by decide +kernel
theorem dX8_divides_39 : decode cX8_divides 39 = .ok (.goto (-20), 3) := by decide +kernel
theorem dX8_divides_42 : decode cX8_divides 42 = .ok (.aload_n 0, 1) := by decide +kernel
theorem dX8_divides_43 : decode cX8_divides 43 = .ok (.iload_n 1, 1) := by decide +kernel
theorem dX8_divides_44 : decode cX8_divides 44 = .ok (.iload_n 2, 1) := by decide +kernel
theorem dX8_divides_45 : decode cX8_divides 45 = .ok (.invokevirtual 66, 3) := by decide +kernel
theorem dX8_divides_48 : decode cX8_divides 48 = .ok (.ifCond .ge 55, 3) := by decide +kernel
theorem dX8_divides_51 : decode cX8_divides 51 = .ok (.iconst 0, 1) := by decide +kernel
theorem dX8_divides_52 : decode cX8_divides 52 = .ok (.istore 6, 2) := by decide +kernel
theorem dX8_divides_54 : decode cX8_divides 54 = .ok (.iload 6, 2) := by decide +kernel
theorem dX8_divides_56 : decode cX8_divides 56 = .ok (.iload 5, 2) := by decide +kernel
theorem dX8_divides_58 : decode cX8_divides 58 = .ok (.if_icmp .ge 35, 3) := by decide +kernel
theorem dX8_divides_61 : decode cX8_divides 61 = .ok (.aload_n 0, 1) := by decide +kernel
theorem dX8_divides_62 : decode cX8_divides 62 = .ok (.getfield 28, 3) := by decide +kernel
theorem dX8_divides_65 : decode cX8_divides 65 = .ok (.sipush 240, 3) := by decide +kernel
theorem dX8_divides_68 : decode cX8_divides 68 = .ok (.iload_n 3, 1) := by decide +kernel
theorem dX8_divides_69 : decode cX8_divides 69 = .ok (.imul, 1) := by decide +kernel
theorem dX8_divides_70 : decode cX8_divides 70 = .ok (.iload 6, 2) := by decide +kernel
theorem dX8_divides_72 : decode cX8_divides 72 = .ok (.iadd, 1) := by decide +kernel
theorem dX8_divides_73 : decode cX8_divides 73 = .ok (.aload_n 0, 1) := by decide +kernel
theorem dX8_divides_74 : decode cX8_divides 74 = .ok (.getfield 28, 3) := by decide +kernel
theorem dX8_divides_77 : decode cX8_divides 77 = .ok (.sipush 240, 3) := by decide +kernel
theorem dX8_divides_80 : decode cX8_divides 80 = .ok (.iload_n 1, 1) := by decide +kernel
theorem dX8_divides_81 : decode cX8_divides 81 = .ok (.imul, 1) := by decide +kernel
theorem dX8_divides_82 : decode cX8_divides 82 = .ok (.iload 6, 2) := by decide +kernel
theorem dX8_divides_84 : decode cX8_divides 84 = .ok (.iadd, 1) := by decide +kernel
theorem dX8_divides_85 : decode cX8_divides 85 = .ok (.iaload, 1) := by decide +kernel
theorem dX8_divides_86 : decode cX8_divides 86 = .ok (.iastore, 1) := by decide +kernel
theorem dX8_divides_87 : decode cX8_divides 87 = .ok (.iinc 6 1, 3) := by decide +kernel
theorem dX8_divides_90 : decode cX8_divides 90 = .ok (.goto (-36), 3) := by decide +kernel
theorem dX8_divides_93 : decode cX8_divides 93 = .ok (.aload_n 0, 1) := by decide +kernel
theorem dX8_divides_94 : decode cX8_divides 94 = .ok (.getfield 31, 3) := by decide +kernel
theorem dX8_divides_97 : decode cX8_divides 97 = .ok (.iload_n 3, 1) := by decide +kernel
theorem dX8_divides_98 : decode cX8_divides 98 = .ok (.iload 5, 2) := by decide +kernel
theorem dX8_divides_100 : decode cX8_divides 100 = .ok (.iastore, 1) := by decide +kernel
theorem dX8_divides_101 : decode cX8_divides 101 = .ok (.iconst 0, 1) := by decide +kernel
theorem dX8_divides_102 : decode cX8_divides 102 = .ok (.ireturn, 1) := by decide +kernel
theorem dX8_divides_103 : decode cX8_divides 103 = .ok (.ldc 65, 2) := by decide +kernel
theorem dX8_divides_105 : decode cX8_divides 105 = .ok (.aload_n 0, 1) := by decide +kernel
theorem dX8_divides_106 : decode cX8_divides 106 = .ok (.getfield 28, 3) := by decide +kernel
theorem dX8_divides_109 : decode cX8_divides 109 = .ok (.sipush 240, 3) := by decide +kernel
theorem dX8_divides_112 : decode cX8_divides 112 = .ok (.iload_n 2, 1) := by decide +kernel
theorem dX8_divides_113 : decode cX8_divides 113 = .ok (.imul, 1) := by decide +kernel
theorem dX8_divides_114 : decode cX8_divides 114 = .ok (.iload 4, 2) := by decide +kernel
theorem dX8_divides_116 : decode cX8_divides 116 = .ok (.iadd, 1) := by decide +kernel
theorem dX8_divides_117 : decode cX8_divides 117 = .ok (.iconst 1, 1) := by decide +kernel
theorem dX8_divides_118 : decode cX8_divides 118 = .ok (.isub, 1) := by decide +kernel
theorem dX8_divides_119 : decode cX8_divides 119 = .ok (.iaload, 1) := by decide +kernel
theorem dX8_divides_120 : decode cX8_divides 120 = .ok (.iconst 1, 1) := by decide +kernel
theorem dX8_divides_121 : decode cX8_divides 121 = .ok (.iadd, 1) := by decide +kernel
theorem dX8_divides_122 : decode cX8_divides 122 = .ok (.idiv, 1) := by decide +kernel
theorem dX8_divides_123 : decode cX8_divides 123 = .ok (.istore 6, 2) := by decide +kernel
theorem dX8_divides_125 : decode cX8_divides 125 = .ok (.iconst 0, 1) := by decide +kernel
theorem dX8_divides_126 : decode cX8_divides 126 = .ok (.istore 7, 2) := by decide +kernel
theorem dX8_divides_128 : decode cX8_divides 128 = .ok (.iconst 0, 1) := by decide +kernel
theorem dX8_divides_129 : decode cX8_divides 129 = .ok (.istore 8, 2) := by decide +kernel
theorem dX8_divides_131 : decode cX8_divides 131 = .ok (.iload 8, 2) := by decide +kernel
theorem dX8_divides_133 : decode cX8_divides 133 = .ok (.iload 5, 2) := by decide +kernel
theorem dX8_divides_135 : decode cX8_divides 135 = .ok (.if_icmp .ge 50, 3) := by decide +kernel
theorem dX8_divides_138 : decode cX8_divides 138 = .ok (.aload_n 0, 1) := by decide +kernel
theorem dX8_divides_139 : decode cX8_divides 139 = .ok (.getfield 28, 3) := by decide +kernel
theorem dX8_divides_142 : decode cX8_divides 142 = .ok (.sipush 240, 3) := by decide +kernel
theorem dX8_divides_145 : decode cX8_divides 145 = .ok (.iload_n 1, 1) := by decide +kernel
theorem dX8_divides_146 : decode cX8_divides 146 = .ok (.imul, 1) := by decide +kernel
theorem dX8_divides_147 : decode cX8_divides 147 = .ok (.iload 8, 2) := by decide +kernel
theorem dX8_divides_149 : decode cX8_divides 149 = .ok (.iadd, 1) := by decide +kernel
theorem dX8_divides_150 : decode cX8_divides 150 = .ok (.iaload, 1) := by decide +kernel
theorem dX8_divides_151 : decode cX8_divides 151 = .ok (.iload 6, 2) := by decide +kernel
theorem dX8_divides_153 : decode cX8_divides 153 = .ok (.imul, 1) := by decide +kernel
theorem dX8_divides_154 : decode cX8_divides 154 = .ok (.iload 7, 2) := by decide +kernel
theorem dX8_divides_156 : decode cX8_divides 156 = .ok (.iadd, 1) := by decide +kernel
theorem dX8_divides_157 : decode cX8_divides 157 = .ok (.istore 9, 2) := by decide +kernel
theorem dX8_divides_159 : decode cX8_divides 159 = .ok (.aload_n 0, 1) := by decide +kernel
theorem dX8_divides_160 : decode cX8_divides 160 = .ok (.getfield 37, 3) := by decide +kernel
theorem dX8_divides_163 : decode cX8_divides 163 = .ok (.iload 8, 2) := by decide +kernel
theorem dX8_divides_165 : decode cX8_divides 165 = .ok (.iload 9, 2) := by decide +kernel
theorem dX8_divides_167 : decode cX8_divides 167 = .ok (.sipush 32767, 3) := by decide +kernel
theorem dX8_divides_170 : decode cX8_divides 170 = .ok (.iand, 1) := by decide +kernel
theorem dX8_divides_171 : decode cX8_divides 171 = .ok (.iastore, 1) := by decide +kernel
theorem dX8_divides_172 : decode cX8_divides 172 = .ok (.iload 9, 2) := by decide +kernel
theorem dX8_divides_174 : decode cX8_divides 174 = .ok (.bipush 15, 2) := by decide +kernel
theorem dX8_divides_176 : decode cX8_divides 176 = .ok (.ishr, 1) := by decide +kernel
theorem dX8_divides_177 : decode cX8_divides 177 = .ok (.istore 7, 2) := by decide +kernel
theorem dX8_divides_179 : decode cX8_divides 179 = .ok (.iinc 8 1, 3) := by decide +kernel
theorem dX8_divides_182 : decode cX8_divides 182 = .ok (.goto (-51), 3) := by decide +kernel
theorem dX8_divides_185 : decode cX8_divides 185 = .ok (.aload_n 0, 1) := by decide +kernel
theorem dX8_divides_186 : decode cX8_divides 186 = .ok (.getfield 37, 3) := by decide +kernel
theorem dX8_divides_189 : decode cX8_divides 189 = .ok (.iload 5, 2) := by decide +kernel
theorem dX8_divides_191 : decode cX8_divides 191 = .ok (.iload 7, 2) := by decide +kernel
theorem dX8_divides_193 : decode cX8_divides 193 = .ok (.iastore, 1) := by decide +kernel
theorem dX8_divides_194 : decode cX8_divides 194 = .ok (.iconst 0, 1) := by decide +kernel
theorem dX8_divides_195 : decode cX8_divides 195 = .ok (.istore 7, 2) := by decide +kernel
theorem dX8_divides_197 : decode cX8_divides 197 = .ok (.iconst 0, 1) := by decide +kernel
theorem dX8_divides_198 : decode cX8_divides 198 = .ok (.istore 8, 2) := by decide +kernel
theorem dX8_divides_200 : decode cX8_divides 200 = .ok (.iload 8, 2) := by decide +kernel
theorem dX8_divides_202 : decode cX8_divides 202 = .ok (.iload 4, 2) := by decide +kernel
theorem dX8_divides_204 : decode cX8_divides 204 = .ok (.if_icmp .ge 50, 3) := by decide +kernel
theorem dX8_divides_207 : decode cX8_divides 207 = .ok (.aload_n 0, 1) := by decide +kernel
theorem dX8_divides_208 : decode cX8_divides 208 = .ok (.getfield 28, 3) := by decide +kernel
theorem dX8_divides_211 : decode cX8_divides 211 = .ok (.sipush 240, 3) := by decide +kernel
theorem dX8_divides_214 : decode cX8_divides 214 = .ok (.iload_n 2, 1) := by decide +kernel
theorem dX8_divides_215 : decode cX8_divides 215 = .ok (.imul, 1) := by decide +kernel
theorem dX8_divides_216 : decode cX8_divides 216 = .ok (.iload 8, 2) := by decide +kernel
theorem dX8_divides_218 : decode cX8_divides 218 = .ok (.iadd, 1) := by decide +kernel
theorem dX8_divides_219 : decode cX8_divides 219 = .ok (.iaload, 1) := by decide +kernel
theorem dX8_divides_220 : decode cX8_divides 220 = .ok (.iload 6, 2) := by decide +kernel
theorem dX8_divides_222 : decode cX8_divides 222 = .ok (.imul, 1) := by decide +kernel
theorem dX8_divides_223 : decode cX8_divides 223 = .ok (.iload 7, 2) := by decide +kernel
theorem dX8_divides_225 : decode cX8_divides 225 = .ok (.iadd, 1) := by decide +kernel
theorem dX8_divides_226 : decode cX8_divides 226 = .ok (.istore 9, 2) := by decide +kernel
theorem dX8_divides_228 : decode cX8_divides 228 = .ok (.aload_n 0, 1) := by decide +kernel
theorem dX8_divides_229 : decode cX8_divides 229 = .ok (.getfield 40, 3) := by decide +kernel
theorem dX8_divides_232 : decode cX8_divides 232 = .ok (.iload 8, 2) := by decide +kernel
theorem dX8_divides_234 : decode cX8_divides 234 = .ok (.iload 9, 2) := by decide +kernel
theorem dX8_divides_236 : decode cX8_divides 236 = .ok (.sipush 32767, 3) := by decide +kernel
theorem dX8_divides_239 : decode cX8_divides 239 = .ok (.iand, 1) := by decide +kernel
theorem dX8_divides_240 : decode cX8_divides 240 = .ok (.iastore, 1) := by decide +kernel
theorem dX8_divides_241 : decode cX8_divides 241 = .ok (.iload 9, 2) := by decide +kernel
theorem dX8_divides_243 : decode cX8_divides 243 = .ok (.bipush 15, 2) := by decide +kernel
theorem dX8_divides_245 : decode cX8_divides 245 = .ok (.ishr, 1) := by decide +kernel
theorem dX8_divides_246 : decode cX8_divides 246 = .ok (.istore 7, 2) := by decide +kernel
theorem dX8_divides_248 : decode cX8_divides 248 = .ok (.iinc 8 1, 3) := by decide +kernel
theorem dX8_divides_251 : decode cX8_divides 251 = .ok (.goto (-51), 3) := by decide +kernel
theorem dX8_divides_254 : decode cX8_divides 254 = .ok (.iload 5, 2) := by decide +kernel
theorem dX8_divides_256 : decode cX8_divides 256 = .ok (.iload 4, 2) := by decide +kernel
theorem dX8_divides_258 : decode cX8_divides 258 = .ok (.isub, 1) := by decide +kernel
theorem dX8_divides_259 : decode cX8_divides 259 = .ok (.istore 8, 2) := by decide +kernel
theorem dX8_divides_261 : decode cX8_divides 261 = .ok (.iload 8, 2) := by decide +kernel
theorem dX8_divides_263 : decode cX8_divides 263 = .ok (.ifCond .lt 24, 3) := by decide +kernel
theorem dX8_divides_266 : decode cX8_divides 266 = .ok (.aload_n 0, 1) := by decide +kernel
theorem dX8_divides_267 : decode cX8_divides 267 = .ok (.getfield 43, 3) := by decide +kernel
theorem dX8_divides_270 : decode cX8_divides 270 = .ok (.iload 8, 2) := by decide +kernel
theorem dX8_divides_272 : decode cX8_divides 272 = .ok (.aload_n 0, 1) := by decide +kernel
theorem dX8_divides_273 : decode cX8_divides 273 = .ok (.iload 8, 2) := by decide +kernel
theorem dX8_divides_275 : decode cX8_divides 275 = .ok (.iload 4, 2) := by decide +kernel
theorem dX8_divides_277 : decode cX8_divides 277 = .ok (.invokevirtual 80, 3) := by decide +kernel
theorem dX8_divides_280 : decode cX8_divides 280 = .ok (.iastore, 1) := by decide +kernel
theorem dX8_divides_281 : decode cX8_divides 281 = .ok (.iinc 8 (-1), 3) := by decide +kernel
theorem dX8_divides_284 : decode cX8_divides 284 = .ok (.goto (-23), 3) := by decide +kernel
theorem dX8_divides_287 : decode cX8_divides 287 = .ok (.lconst 0, 1) := by decide +kernel
theorem dX8_divides_288 : decode cX8_divides 288 = .ok (.lstore 8, 2) := by decide +kernel
theorem dX8_divides_290 : decode cX8_divides 290 = .ok (.iload 4, 2) := by decide +kernel
theorem dX8_divides_292 : decode cX8_divides 292 = .ok (.iconst 1, 1) := by decide +kernel
theorem dX8_divides_293 : decode cX8_divides 293 = .ok (.isub, 1) := by decide +kernel
theorem dX8_divides_294 : decode cX8_divides 294 = .ok (.istore 10, 2) := by decide +kernel
theorem dX8_divides_296 : decode cX8_divides 296 = .ok (.iload 10, 2) := by decide +kernel
theorem dX8_divides_298 : decode cX8_divides 298 = .ok (.ifCond .lt 54, 3) := by decide +kernel
theorem dX8_divides_301 : decode cX8_divides 301 = .ok (.lload 8, 2) := by decide +kernel
theorem dX8_divides_303 : decode cX8_divides 303 = .ok (.ldc2_w 59, 3) := by decide +kernel
theorem dX8_divides_306 : decode cX8_divides 306 = .ok (.lmul, 1) := by decide +kernel
theorem dX8_divides_307 : decode cX8_divides 307 = .ok (.aload_n 0, 1) := by decide +kernel
theorem dX8_divides_308 : decode cX8_divides 308 = .ok (.getfield 37, 3) := by decide +kernel
theorem dX8_divides_311 : decode cX8_divides 311 = .ok (.iload 10, 2) := by decide +kernel
theorem dX8_divides_313 : decode cX8_divides 313 = .ok (.iaload, 1) := by decide +kernel
theorem dX8_divides_314 : decode cX8_divides 314 = .ok (.i2l, 1) := by decide +kernel
theorem dX8_divides_315 : decode cX8_divides 315 = .ok (.ladd, 1) := by decide +kernel
theorem dX8_divides_316 : decode cX8_divides 316 = .ok (.lstore 11, 2) := by decide +kernel
theorem dX8_divides_318 : decode cX8_divides 318 = .ok (.aload_n 0, 1) := by decide +kernel
theorem dX8_divides_319 : decode cX8_divides 319 = .ok (.getfield 28, 3) := by decide +kernel
theorem dX8_divides_322 : decode cX8_divides 322 = .ok (.sipush 240, 3) := by decide +kernel
theorem dX8_divides_325 : decode cX8_divides 325 = .ok (.iload_n 3, 1) := by decide +kernel
theorem dX8_divides_326 : decode cX8_divides 326 = .ok (.imul, 1) := by decide +kernel
theorem dX8_divides_327 : decode cX8_divides 327 = .ok (.iload 10, 2) := by decide +kernel
theorem dX8_divides_329 : decode cX8_divides 329 = .ok (.iadd, 1) := by decide +kernel
theorem dX8_divides_330 : decode cX8_divides 330 = .ok (.lload 11, 2) := by decide +kernel
theorem dX8_divides_332 : decode cX8_divides 332 = .ok (.iload 6, 2) := by decide +kernel
theorem dX8_divides_334 : decode cX8_divides 334 = .ok (.i2l, 1) := by decide +kernel
theorem dX8_divides_335 : decode cX8_divides 335 = .ok (.ldiv, 1) := by decide +kernel
theorem dX8_divides_336 : decode cX8_divides 336 = .ok (.l2i, 1) := by decide +kernel
theorem dX8_divides_337 : decode cX8_divides 337 = .ok (.iastore, 1) := by decide +kernel
theorem dX8_divides_338 : decode cX8_divides 338 = .ok (.lload 11, 2) := by decide +kernel
theorem dX8_divides_340 : decode cX8_divides 340 = .ok (.iload 6, 2) := by decide +kernel
theorem dX8_divides_342 : decode cX8_divides 342 = .ok (.i2l, 1) := by decide +kernel
theorem dX8_divides_343 : decode cX8_divides 343 = .ok (.lrem, 1) := by decide +kernel
theorem dX8_divides_344 : decode cX8_divides 344 = .ok (.lstore 8, 2) := by decide +kernel
theorem dX8_divides_346 : decode cX8_divides 346 = .ok (.iinc 10 (-1), 3) := by decide +kernel
theorem dX8_divides_349 : decode cX8_divides 349 = .ok (.goto (-53), 3) := by decide +kernel
theorem dX8_divides_352 : decode cX8_divides 352 = .ok (.aload_n 0, 1) := by decide +kernel
theorem dX8_divides_353 : decode cX8_divides 353 = .ok (.getfield 31, 3) := by decide +kernel
theorem dX8_divides_356 : decode cX8_divides 356 = .ok (.iload_n 3, 1) := by decide +kernel
theorem dX8_divides_357 : decode cX8_divides 357 = .ok (.iload 4, 2) := by decide +kernel
theorem dX8_divides_359 : decode cX8_divides 359 = .ok (.iastore, 1) := by decide +kernel
theorem dX8_divides_360 : decode cX8_divides 360 = .ok (.aload_n 0, 1) := by decide +kernel
theorem dX8_divides_361 : decode cX8_divides 361 = .ok (.iload_n 3, 1) := by decide +kernel
theorem dX8_divides_362 : decode cX8_divides 362 = .ok (.invokevirtual 69, 3) := by decide +kernel
theorem dX8_divides_365 : decode cX8_divides 365 = .ok (.iload 5, 2) := by decide +kernel
theorem dX8_divides_367 : decode cX8_divides 367 = .ok (.iload 4, 2) := by decide +kernel
theorem dX8_divides_369 : decode cX8_divides 369 = .ok (.isub, 1) := by decide +kernel
theorem dX8_divides_370 : decode cX8_divides 370 = .ok (.iconst 1, 1) := by decide +kernel
theorem dX8_divides_371 : decode cX8_divides 371 = .ok (.iadd, 1) := by decide +kernel
theorem dX8_divides_372 : decode cX8_divides 372 = .ok (.ireturn, 1) := by decide +kernel
theorem cp_ok {A A1 : Nat → Int → Int} {x r : Int} {k : Nat} (okx : MOK A x) (hw : Wx r A A1) (nx : x ≠ r) (hk : (k : Int) = A 5 x) (hc : ∀ j : Int, 0 ≤ j → j < k → mlm A1 r j = mlm A x j) (hr6 : A 6 r = 1 ∨ A 6 r = -1) : MOK (uA A1 5 r (A 5 x)) r := by
  obtain ⟨s1, s3, s4, s5⟩ := okx
  refine ⟨?_, ?_, ?_, ?_⟩
  · rw [uA_eq]; exact s1
  · rw [uA_eq, mlm_5]; exact fun j a b => by rw [hc j a (by omega)]; exact s3 j a b
  · rw [uA_eq, mlm_5]; exact fun q => by rw [hc _ (by omega) (by omega)]; exact s4 q
  · rw [uA_ne (by decide), hw.2.1]; exact hr6
theorem cp_mm {A A1 : Nat → Int → Int} {x r : Int} {k : Nat} (okx : MOK A x) (hw : Wx r A A1) (nx : x ≠ r) (hk : (k : Int) = A 5 x) (hc : ∀ j : Int, 0 ≤ j → j < k → mlm A1 r j = mlm A x j) : mm (uA A1 5 r (A 5 x)) r = mm A x := by
  have := okx.1
  unfold mm
  rw [uA_eq, mlm_5]
  exact dv_congr (fun j a b => hc j a (by omega))

set_option maxHeartbeats 16000000 in
theorem n_divides (l : Launch) {D : va_G} {ids : Nat → ClassId} {β : Nat} {sh : Nat → Nat × Nat} {N : Nat} {R : Nat → Nat → Option Nat} {F : Nat → Nat → Int} {A : Nat → Int → Int} (hM : MoL sh R N) {x y r : Int} (hx : 0 ≤ x ∧ x < 1500) (hy : 0 ≤ y ∧ y < 1500) (hr0 : 0 ≤ r ∧ r < 1500) (nx : x ≠ r) (ny : y ≠ r) (okx : MOK A x) (oky : MOK A y) (y0 : A 5 y ≠ 0) (hr6 : A 6 r = 1 ∨ A 6 r = -1) : MetX l yX8_divides cX8_divides 13 (some (.int)) 1 30 D ids β sh N R F A [rf 0, pI x, pI y, pI r] (pIr (fun z F2 A2 => F2 = F ∧ (0 ≤ z ∧ z ≤ 240) ∧ dig 32768 (A2 9) z ∧ dv 32768 (A2 9) z.toNat = mm A x / mm A y ∧ MOK A2 r ∧ mm A2 r = mm A x % mm A y ∧ Wx r A A2)) := by
  refine MetX.of (loc := [_, _, _, _, _, _, _, _, _, _, _, _, _]) (plainFor_of_name (by decide +kernel)) (Nat.le_of_ble_eq_true rfl) rfl ?_
  intro p e s m args below meth c hC hK hr hlk
  obtain ⟨⟨m0, m1⟩, ⟨r0, r2, r3, r7, r8, r9, r11, r12, r13, r16, r18⟩, ⟨m2, m3⟩, ⟨m4, m5⟩, ⟨m6, m7⟩, ⟨m8, m9⟩, ⟨m10, m11⟩, ⟨m12, m13⟩, ⟨m14, m15⟩, ⟨m16, m17⟩, ⟨m18, m19⟩, ⟨m20, m21⟩, ⟨m22, m23⟩⟩ := id hM
  have sx := okx.1
  have sy := oky.1
  obtain ⟨n', hn'⟩ : ∃ n : Nat, A 5 y = ((n + 1 : Nat) : Int) := ⟨(A 5 y).toNat - 1, by omega⟩
  obtain ⟨mx, hmx⟩ : ∃ n : Nat, A 5 x = (n : Int) := ⟨(A 5 x).toNat, by omega⟩
  have eX : mm A x = dv 32768 (mlm A x) mx := by unfold mm; rw [hmx, Int.toNat_natCast]
  have eY : mm A y = dv 32768 (mlm A y) (n' + 1) := by unfold mm; rw [hn', Int.toNat_natCast]
  have dgx : dig 32768 (mlm A x) mx := by rw [← hmx]; exact okx.2.1
  have dgy : dig 32768 (mlm A y) ((n' + 1 : Nat) : Int) := by rw [← hn']; exact oky.2.1
  have Yp : 0 < mm A y := by
    have a := mm_ge oky (by omega)
    have b := pow_pos' (B := 32768) (by decide) ((A 5 y).toNat - 1)
    omega
  have Xn := mm_nonneg okx
  have ytop : 1 ≤ mlm A y n' := by
    have a := oky.2.2.1 (by omega)
    rw [show A 5 y - 1 = (n' : Int) by omega] at a
    have := dgy n' (by omega) (by omega)
    omega
  have ytop2 := dgy n' (by omega) (by omega)
  have cp : ∀ (d k : Nat) (A1 : Nat → Int → Int), (mx : Int) - k < d → k ≤ mx → Wx r A A1 → (∀ j : Int, 0 ≤ j → j < k → mlm A1 r j = mlm A x j) → mm A x < mm A y → X p l e { frames := 1, cells := 0, slots := 0, locals := 30 } s m args below meth c (MQ below (QX D ids β sh N R (pIr (fun z F2 A2 => F2 = F ∧ (0 ≤ z ∧ z ≤ 240) ∧ dig 32768 (A2 9) z ∧ dv 32768 (A2 9) z.toNat = mm A x / mm A y ∧ MOK A2 r ∧ mm A2 r = mm A x % mm A y ∧ Wx r A A2))) args s 0 0 (inG β N)) (inG β N) D ids β sh 13 0 0 N R F A1 [some (rf 0), some (pI x), some (pI y), some (pI r), some (pI (A 5 y)), some (pI (A 5 x)), some (pI ((k : Int))), none, none, none, none, none, none] [] 54 := by
    intro d
    induction d with
    | zero => intro k A1 hd; omega
    | succ d ih =>
      intro k A1 hd hk hw hc hlt
      have w5 := hw.1 x nx
      refine x_iload (pc2 := 56) hC rfl dX8_divides_54 rfl ?_
      refine x_iload (pc2 := 58) hC rfl dX8_divides_56 rfl ?_
      refine x_icmp_ge (tgt := 93) (pc2 := 61) hC (by omega) (by omega) dX8_divides_58 rfl rfl (fun h_58 => ?_) (fun h_58 => ?_)
      · refine x_aload_n (pc2 := 94) hC rfl rfl dX8_divides_93 rfl ?_
        refine g_817 (pc2 := 97) hC hK (by assumption) (by assumption) (by assumption) dX8_divides_94 rfl ?_
        refine x_iload_n (pc2 := 98) hC rfl rfl dX8_divides_97 rfl ?_
        refine x_iload (pc2 := 100) hC rfl dX8_divides_98 rfl ?_
        refine x_iast (pc2 := 101) hC hK (by assumption) (by assumption) (by omega) (by decide) dX8_divides_100 rfl ?_
        refine x_iconst (pc2 := 102) hC dX8_divides_101 rfl ?_
        exact x_iret hC hr hlk ⟨_, rfl, rfl, ⟨by decide, by decide⟩, fun j a b => by omega, by rw [Int.ediv_eq_zero_of_lt Xn hlt]; rfl, cp_ok okx hw nx (show (k : Int) = A 5 x by omega) hc hr6, by rw [Int.emod_eq_of_lt Xn hlt]; exact (cp_mm okx hw nx (show (k : Int) = A 5 x by omega) hc), hw.w5⟩ dX8_divides_102
      · refine x_aload_n (pc2 := 62) hC rfl rfl dX8_divides_61 rfl ?_
        refine g_816 (pc2 := 65) hC hK (by assumption) (by assumption) (by assumption) dX8_divides_62 rfl ?_
        refine x_sipush (pc2 := 68) hC rfl dX8_divides_65 rfl ?_
        refine x_iload_n (pc2 := 69) hC rfl rfl dX8_divides_68 rfl ?_
        refine x_imul (pc2 := 70) hC dX8_divides_69 rfl ?_
        refine x_iload (pc2 := 72) hC rfl dX8_divides_70 rfl ?_
        refine x_iadd (pc2 := 73) hC dX8_divides_72 rfl ?_
        refine x_aload_n (pc2 := 74) hC rfl rfl dX8_divides_73 rfl ?_
        refine g_816 (pc2 := 77) hC hK (by assumption) (by assumption) (by assumption) dX8_divides_74 rfl ?_
        refine x_sipush (pc2 := 80) hC rfl dX8_divides_77 rfl ?_
        refine x_iload_n (pc2 := 81) hC rfl rfl dX8_divides_80 rfl ?_
        refine x_imul (pc2 := 82) hC dX8_divides_81 rfl ?_
        refine x_iload (pc2 := 84) hC rfl dX8_divides_82 rfl ?_
        refine x_iadd (pc2 := 85) hC dX8_divides_84 rfl ?_
        refine x_iald (pc2 := 86) hC hK (by assumption) (by assumption) (by omega) (by decide) dX8_divides_85 rfl ?_
        refine x_iast (pc2 := 87) hC hK (by assumption) (by assumption) (by omega) (by decide) dX8_divides_86 rfl ?_
        refine x_iinc (pc2 := 90) (loc2 := [_, _, _, _, _, _, _, _, _, _, _, _, _]) hC (by decide) rfl rfl dX8_divides_87 rfl ?_
        refine x_goto (pc2 := 54) hC dX8_divides_90 rfl ?_
        refine ih (k + 1) _ (by omega) (by omega) (hw.w4 (by omega) (by omega)) (fun j j0 j1 => ?_) hlt
        rw [mlm_at]
        by_cases q : j = k
        · rw [if_pos q, hw.2.2.1 _ (by omega), q]; rfl
        · rw [if_neg q]; exact hc j j0 (by omega)
  have sd : ∀ (q : Int), 1 ≤ q → q ≤ 16384 → ∀ (A0 : Nat → Int → Int), dig 32768 (A0 7) ((n' + 1 : Nat) : Int) → dv 32768 (A0 7) (n' + 1) = q * (mm A x % mm A y) → A 5 y ≤ A 5 x → dig 32768 (A0 9) (A 5 x - A 5 y + 1) → dv 32768 (A0 9) (A 5 x - A 5 y + 1).toNat = mm A x / mm A y → ∀ (d s0 : Nat) (lf : Int) (A1 : Nat → Int → Int), (s0 : Int) < d → s0 ≤ n' + 1 → Wx r A A1 → A1 7 = A0 7 → A1 9 = A0 9 → 0 ≤ lf → lf < q → (∀ i : Int, s0 ≤ i → i < ((n' + 1 : Nat) : Int) → 0 ≤ mlm A1 r i ∧ mlm A1 r i < 32768) → q * (32768 ^ s0 * dv 32768 (fun i => mlm A1 r (s0 + i)) (n' + 1 - s0)) + lf * 32768 ^ s0 + dv 32768 (A0 7) s0 = q * (mm A x % mm A y) → X p l e { frames := 1, cells := 0, slots := 0, locals := 30 } s m args below meth c (MQ below (QX D ids β sh N R (pIr (fun z F2 A2 => F2 = F ∧ (0 ≤ z ∧ z ≤ 240) ∧ dig 32768 (A2 9) z ∧ dv 32768 (A2 9) z.toNat = mm A x / mm A y ∧ MOK A2 r ∧ mm A2 r = mm A x % mm A y ∧ Wx r A A2))) args s 0 0 (inG β N)) (inG β N) D ids β sh 13 0 0 N R F A1 [some (rf 0), some (pI x), some (pI y), some (pI r), some (pI (A 5 y)), some (pI (A 5 x)), some (pI (q)), none, some (pL lf), none, some (pI ((s0 : Int) - 1)), none, none] [] 296 := by
    intro q q0 q1 A0 h7 hR hle h9 hQ d
    induction d with
    | zero => intro s0 lf A1 hd; omega
    | succ d ih =>
      intro s0 lf A1 hd hs hw e7 e9 l0 l1 hdg hv
      cases s0 with
      | zero =>
        have hv2 : q * dv 32768 (mlm A1 r) (n' + 1) + lf = q * (mm A x % mm A y) := by
          rw [← hv, dv_congr (f := fun i => mlm A1 r (((0 : Nat) : Int) + i)) (g := mlm A1 r) (fun i a b => by show mlm A1 r _ = _; rw [show ((0 : Nat) : Int) + i = i by omega])]
          simp [dv]
        have hv3 : dv 32768 (mlm A1 r) (n' + 1) = mm A x % mm A y := by
          have e : q * (mm A x % mm A y) = dv 32768 (mlm A1 r) (n' + 1) * q + lf := by rw [← hv2, Int.mul_comm]
          have k := (qr_of e l0 l1).1
          rw [k, Int.mul_ediv_cancel_left _ (by omega)]
        have hs5 : 0 ≤ uA A1 5 r (A 5 y) 5 r ∧ uA A1 5 r (A 5 y) 5 r ≤ 240 := by rw [uA_eq]; exact sy
        have hd5 : dig 32768 (mlm (uA A1 5 r (A 5 y)) r) (uA A1 5 r (A 5 y) 5 r) := by rw [uA_eq, mlm_5, hn']; exact fun i a b => hdg i a b
        have h65 : uA A1 5 r (A 5 y) 6 r = 1 ∨ uA A1 5 r (A 5 y) 6 r = -1 := by rw [uA_ne (by decide), hw.2.1]; exact hr6
        refine x_iload (pc2 := 298) hC rfl dX8_divides_296 rfl ?_
        refine x_if_lt (tgt := 352) (pc2 := 301) hC (by omega) dX8_divides_298 rfl rfl (fun h_298 => ?_) (fun h_298 => ?_)
        · refine x_aload_n (pc2 := 353) hC rfl rfl dX8_divides_352 rfl ?_
          refine g_817 (pc2 := 356) hC hK (by assumption) (by assumption) (by assumption) dX8_divides_353 rfl ?_
          refine x_iload_n (pc2 := 357) hC rfl rfl dX8_divides_356 rfl ?_
          refine x_iload (pc2 := 359) hC rfl dX8_divides_357 rfl ?_
          refine x_iast (pc2 := 360) hC hK (by assumption) (by assumption) (by omega) (by decide) dX8_divides_359 rfl ?_
          refine x_aload_n (pc2 := 361) hC rfl rfl dX8_divides_360 rfl ?_
          refine x_iload_n (pc2 := 362) hC rfl rfl dX8_divides_361 rfl ?_
          refine x_cVv (pc2 := 365) (ci := 8) hC hK (n_trims l hM hr0 hs5 hd5) lk_940 rfl rfl (by decide) (by assumption) (by assumption) ⟨Nat.le_of_ble_eq_true rfl, Nat.le_of_ble_eq_true rfl⟩ ⟨Nat.le_refl _, Nat.le_refl _⟩ rfl (Nat.le_of_ble_eq_true rfl) dX8_divides_362 rfl ?_
          rintro F362 A362 ⟨e1362, nn, n1, n2, n3, n4⟩
          obtain rfl := e1362.symm
          obtain ⟨t1, t2⟩ := MOK.tr hs5 hd5 h65 n1 n2 n3 n4
          rw [uA_eq, mlm_5, hn', Int.toNat_natCast, hv3] at t2
          have e9b : A362 9 = A0 9 := by rw [n2, uA_ne (by decide), uA_ne (by decide)]; exact e9
          have hwf : Wx r A A362 := by rw [n2]; exact hw.w5.w5
          refine x_iload (pc2 := 367) hC rfl dX8_divides_365 rfl ?_
          refine x_iload (pc2 := 369) hC rfl dX8_divides_367 rfl ?_
          refine x_isub (pc2 := 370) hC dX8_divides_369 rfl ?_
          refine x_iconst (pc2 := 371) hC dX8_divides_370 rfl ?_
          refine x_iadd (pc2 := 372) hC dX8_divides_371 rfl ?_
          exact x_iret hC hr hlk ⟨_, rfl, rfl, by omega, by rw [e9b]; exact h9, by rw [e9b]; exact hQ, t1, t2, hwf⟩ dX8_divides_372
        · exfalso; omega
      | succ s1 =>
        have ea : ((s1 + 1 : Nat) : Int) - 1 = (s1 : Int) := by omega
        have rd7 : A1 7 (s1 : Int) = A0 7 s1 := by rw [e7]
        have d7 := h7 s1 (by omega) (by omega)
        have l2 : lf * 32768 + A0 7 s1 < q * 32768 := by omega
        have q5 : (lf * 32768 + A0 7 s1) / q < 32768 := Int.ediv_lt_of_lt_mul (by omega) (by omega)
        have q6 : 0 ≤ (lf * 32768 + A0 7 s1) / q := Int.ediv_nonneg (by omega) (by omega)
        have q7 : 0 ≤ (lf * 32768 + A0 7 s1) % q := Int.emod_nonneg _ (by omega)
        have q8 : (lf * 32768 + A0 7 s1) % q < q := Int.emod_lt_of_pos _ (by omega)
        rw [ea]
        refine x_iload (pc2 := 298) hC rfl dX8_divides_296 rfl ?_
        refine x_if_lt (tgt := 352) (pc2 := 301) hC (by omega) dX8_divides_298 rfl rfl (fun h_298 => ?_) (fun h_298 => ?_)
        · exfalso; omega
        · refine x_lload (pc2 := 303) hC rfl dX8_divides_301 rfl ?_
          refine x_ldc2 (pc2 := 306) (z := 32768) hC wt_910 rfl dX8_divides_303 rfl ?_
          refine x_lmul (pc2 := 307) hC dX8_divides_306 rfl ?_
          refine x_aload_n (pc2 := 308) hC rfl rfl dX8_divides_307 rfl ?_
          refine g_820 (pc2 := 311) hC hK (by assumption) (by assumption) (by assumption) dX8_divides_308 rfl ?_
          refine x_iload (pc2 := 313) hC rfl dX8_divides_311 rfl ?_
          refine x_iald (pc2 := 314) hC hK (by assumption) (by assumption) (by omega) (by decide) dX8_divides_313 rfl ?_
          rw [rd7]
          refine x_i2l (pc2 := 315) hC (by omega) dX8_divides_314 rfl ?_
          refine x_ladd (pc2 := 316) hC dX8_divides_315 rfl ?_
          refine x_lstore (pc2 := 318) (loc2 := [_, _, _, _, _, _, _, _, _, _, _, _, _]) hC (by decide) rfl dX8_divides_316 rfl ?_
          refine x_aload_n (pc2 := 319) hC rfl rfl dX8_divides_318 rfl ?_
          refine g_816 (pc2 := 322) hC hK (by assumption) (by assumption) (by assumption) dX8_divides_319 rfl ?_
          refine x_sipush (pc2 := 325) hC rfl dX8_divides_322 rfl ?_
          refine x_iload_n (pc2 := 326) hC rfl rfl dX8_divides_325 rfl ?_
          refine x_imul (pc2 := 327) hC dX8_divides_326 rfl ?_
          refine x_iload (pc2 := 329) hC rfl dX8_divides_327 rfl ?_
          refine x_iadd (pc2 := 330) hC dX8_divides_329 rfl ?_
          refine x_lload (pc2 := 332) hC rfl dX8_divides_330 rfl ?_
          refine x_iload (pc2 := 334) hC rfl dX8_divides_332 rfl ?_
          refine x_i2l (pc2 := 335) hC (by omega) dX8_divides_334 rfl ?_
          refine x_ldivp (pc2 := 336) hC (by omega) (by omega) (by omega) (by omega) dX8_divides_335 rfl ?_
          refine x_l2i (pc2 := 337) hC dX8_divides_336 rfl ?_
          refine x_iast (pc2 := 338) hC hK (by assumption) (by assumption) (by omega) (by decide) dX8_divides_337 rfl ?_
          refine x_lload (pc2 := 340) hC rfl dX8_divides_338 rfl ?_
          refine x_iload (pc2 := 342) hC rfl dX8_divides_340 rfl ?_
          refine x_i2l (pc2 := 343) hC (by omega) dX8_divides_342 rfl ?_
          refine x_lremp (pc2 := 344) hC (by omega) (by omega) (by omega) (by omega) dX8_divides_343 rfl ?_
          refine x_lstore (pc2 := 346) (loc2 := [_, _, _, _, _, _, _, _, _, _, _, _, _]) hC (by decide) rfl dX8_divides_344 rfl ?_
          refine x_iinc (pc2 := 349) (loc2 := [_, _, _, _, _, _, _, _, _, _, _, _, _]) hC (by decide) rfl rfl dX8_divides_346 rfl ?_
          refine x_goto (pc2 := 296) hC dX8_divides_349 rfl ?_
          refine x_less (loc2 := [some (rf 0), some (pI x), some (pI y), some (pI r), some (pI (A 5 y)), some (pI (A 5 x)), some (pI (q)), none, some (pL _), none, some (pI ((s1 : Int) + -1)), none, none]) hC ⟨rfl, rfl, rfl, rfl, rfl, rfl, rfl, rfl, rfl, trivial⟩ ?_
          rw [show (s1 : Int) + -1 = (s1 : Int) - 1 by omega]
          refine ih s1 _ _ (by omega) (by omega) (hw.w4 (by omega) (by omega)) (by rw [uA_ne (by decide)]; exact e7) (by rw [uA_ne (by decide)]; exact e9) q7 q8 (fun i a b => ?_) ?_
          · rw [mlm_at]
            split
            · omega
            · exact hdg i (by omega) b
          · rw [show n' + 1 - s1 = (n' + 1 - (s1 + 1)) + 1 by omega, dv_cons, mlm_at, if_pos (by omega), dv_congr (f := fun i => mlm (uA A1 4 (240 * r + (s1 : Int)) ((lf * 32768 + A0 7 s1) / q)) r ((s1 : Int) + (1 + i))) (g := fun i => mlm A1 r (((s1 + 1 : Nat) : Int) + i)) (fun i a b => by show mlm _ _ _ = mlm _ _ _; rw [mlm_at, if_neg (by omega)]; congr 1; omega)]
            refine sd_step rfl ?_
            rw [← hv]
            simp only [dv]
            rw [Int.pow_succ]
            grind
  have dl : ∀ (q : Int), 1 ≤ q → q ≤ 16384 → A 5 y ≤ A 5 x → ∀ (A8 : Int → Int), dig 32768 A8 ((n' + 1 : Nat) : Int) → dv 32768 A8 (n' + 1) = q * mm A y → 1 ≤ A8 n' → ∀ (d t : Nat) (A1 : Nat → Int → Int), (t : Int) < d → (t : Int) ≤ A 5 x - A 5 y + 1 → Wx r A A1 → A1 8 = A8 → dig 32768 (A1 7) ((n' + 1 + t : Nat) : Int) → (∀ i : Int, t ≤ i → i < A 5 x - A 5 y + 1 → 0 ≤ A1 9 i ∧ A1 9 i < 32768) → dv 32768 (A1 7) (n' + 1 + t) + q * mm A y * (32768 ^ t * dv 32768 (fun i => A1 9 ((t : Int) + i)) ((A 5 x - A 5 y + 1).toNat - t)) = q * mm A x → dv 32768 (A1 7) (n' + 1 + t) < q * mm A y * 32768 ^ t → X p l e { frames := 1, cells := 0, slots := 0, locals := 30 } s m args below meth c (MQ below (QX D ids β sh N R (pIr (fun z F2 A2 => F2 = F ∧ (0 ≤ z ∧ z ≤ 240) ∧ dig 32768 (A2 9) z ∧ dv 32768 (A2 9) z.toNat = mm A x / mm A y ∧ MOK A2 r ∧ mm A2 r = mm A x % mm A y ∧ Wx r A A2))) args s 0 0 (inG β N)) (inG β N) D ids β sh 13 0 0 N R F A1 [some (rf 0), some (pI x), some (pI y), some (pI r), some (pI (A 5 y)), some (pI (A 5 x)), some (pI (q)), none, some (pI ((t : Int) - 1)), none, none, none, none] [] 261 := by
    intro q q0 q1 hle A8 h8 hD h8t d
    induction d with
    | zero => intro t A1 hd; omega
    | succ d ih =>
      intro t A1 hd ht hw e8 hdg h9 hv hlt
      have Dp : 0 < q * mm A y := Int.mul_pos (by omega) Yp
      cases t with
      | zero =>
        rw [Nat.add_zero] at hv hlt hdg
        have hQe : dv 32768 (fun i => A1 9 (((0 : Nat) : Int) + i)) ((A 5 x - A 5 y + 1).toNat - 0) = dv 32768 (A1 9) (A 5 x - A 5 y + 1).toNat := dv_congr (fun i a b => by show A1 9 _ = _; rw [show ((0 : Nat) : Int) + i = i by omega])
        rw [hQe, Int.pow_zero, Int.one_mul] at hv
        rw [Int.pow_zero, Int.mul_one] at hlt
        have n0 := dv_nonneg (B := 32768) (f := A1 7) (by decide) (n := n' + 1) (fun k k0 k1 => (hdg k k0 k1).1)
        obtain ⟨r1, r2⟩ := qr_of (U := q * mm A x) (D := q * mm A y) (q := dv 32768 (A1 9) (A 5 x - A 5 y + 1).toNat) (r := dv 32768 (A1 7) (n' + 1)) (by rw [← hv]; grind) n0 hlt
        rw [Int.mul_ediv_mul_of_pos _ _ (by omega)] at r1
        rw [Int.mul_emod_mul_of_pos _ _ (by omega)] at r2
        refine x_iload (pc2 := 263) hC rfl dX8_divides_261 rfl ?_
        refine x_if_lt (tgt := 287) (pc2 := 266) hC (by omega) dX8_divides_263 rfl rfl (fun h_263 => ?_) (fun h_263 => ?_)
        · refine x_lconst0 (pc2 := 288) hC dX8_divides_287 rfl ?_
          refine x_lstore (pc2 := 290) (loc2 := [_, _, _, _, _, _, _, _, _, _, _, _, _]) hC (by decide) rfl dX8_divides_288 rfl ?_
          refine x_iload (pc2 := 292) hC rfl dX8_divides_290 rfl ?_
          refine x_iconst (pc2 := 293) hC dX8_divides_292 rfl ?_
          refine x_isub (pc2 := 294) hC dX8_divides_293 rfl ?_
          refine x_istore (pc2 := 296) (loc2 := [_, _, _, _, _, _, _, _, _, _, _, _, _]) hC (by decide) rfl dX8_divides_294 rfl ?_
          refine x_less (loc2 := [some (rf 0), some (pI x), some (pI y), some (pI r), some (pI (A 5 y)), some (pI (A 5 x)), some (pI (q)), none, some (pL 0), none, some (pI (A 5 y - 1)), none, none]) hC ⟨rfl, rfl, rfl, rfl, rfl, rfl, rfl, rfl, rfl, trivial⟩ ?_
          have g := sd q q0 q1 A1 hdg r2 hle (fun i a b => h9 i (by omega) b) r1 (n' + 2) (n' + 1) 0 A1 (by omega) (Nat.le_refl _) hw rfl rfl (by decide) (by omega) (fun i a b => by omega) (by rw [Nat.sub_self, r2, show ∀ f, dv 32768 f 0 = 0 from fun _ => rfl, Int.mul_zero, Int.mul_zero, Int.zero_mul]; omega)
          rw [show ((n' + 1 : Nat) : Int) - 1 = A 5 y - 1 by omega] at g
          exact g
        · exfalso; omega
      | succ j =>
        have ea : ((j + 1 : Nat) : Int) - 1 = (j : Int) := by omega
        have sp : dv 32768 (A1 7) (n' + 1 + (j + 1)) = dv 32768 (A1 7) j + 32768 ^ j * dv 32768 (sgm A1 j) (n' + 1 + 1) := by
          rw [show n' + 1 + (j + 1) = j + (n' + 1 + 1) by omega, dv_split j]
          rfl
        have Pj := pow_pos' (B := 32768) (by decide) j
        have lo0 := dv_nonneg (B := 32768) (f := A1 7) (by decide) (n := j) (fun k k0 k1 => (hdg k k0 (by omega)).1)
        have lo1 := dv_lt (B := 32768) (f := A1 7) (by decide) (n := j) (fun k k0 k1 => hdg k k0 (by omega))
        have hU : dv 32768 (sgm A1 j) (n' + 1 + 1) < q * mm A y * 32768 := by
          rw [sp, Int.pow_succ] at hlt
          apply Classical.byContradiction
          intro x
          have p1 : 32768 ^ j * (q * mm A y * 32768) ≤ 32768 ^ j * dv 32768 (sgm A1 j) (n' + 1 + 1) := Int.mul_le_mul_of_nonneg_left (by omega) (Int.le_of_lt Pj)
          grind
        rw [ea]
        refine x_iload (pc2 := 263) hC rfl dX8_divides_261 rfl ?_
        refine x_if_lt (tgt := 287) (pc2 := 266) hC (by omega) dX8_divides_263 rfl rfl (fun h_263 => ?_) (fun h_263 => ?_)
        · exfalso; omega
        · refine x_aload_n (pc2 := 267) hC rfl rfl dX8_divides_266 rfl ?_
          refine g_822 (pc2 := 270) hC hK (by assumption) (by assumption) (by assumption) dX8_divides_267 rfl ?_
          refine x_iload (pc2 := 272) hC rfl dX8_divides_270 rfl ?_
          refine x_aload_n (pc2 := 273) hC rfl rfl dX8_divides_272 rfl ?_
          refine x_iload (pc2 := 275) hC rfl dX8_divides_273 rfl ?_
          rw [hn']
          refine x_iload (pc2 := 277) hC rfl dX8_divides_275 rfl ?_
          refine x_cVi (pc2 := 280) (ci := 8) hC hK (n_one l hM (j := (j : Int)) (n := n' + 1) (U := dv 32768 (sgm A1 j) (n' + 1 + 1)) (Dv := q * mm A y) ⟨by omega, by omega⟩ ⟨by omega, by omega⟩ (fun k k0 k1 => hdg (j + k) (by omega) (by omega)) (by rw [e8]; exact h8) (by rw [e8, show ((n' + 1 : Nat) : Int) - 1 = (n' : Int) by omega]; exact h8t) rfl (by rw [e8]; exact hD.symm) hU) lk_936 rfl rfl (by decide) (by assumption) (by assumption) ⟨Nat.le_of_ble_eq_true rfl, Nat.le_of_ble_eq_true rfl⟩ ⟨Nat.le_refl _, Nat.le_refl _⟩ rfl (Nat.le_of_ble_eq_true rfl) dX8_divides_277 rfl ?_
          rintro z277 F277 A277 ⟨o1, e1277, o2, o3, o4, o5⟩
          obtain rfl := e1277.symm
          subst o1
          refine x_iast (pc2 := 281) hC hK (by assumption) (by assumption) (by omega) (by decide) dX8_divides_280 rfl ?_
          refine x_iinc (pc2 := 284) (loc2 := [_, _, _, _, _, _, _, _, _, _, _, _, _]) hC (by decide) rfl rfl dX8_divides_281 rfl ?_
          refine x_goto (pc2 := 261) hC dX8_divides_284 rfl ?_
          rw [← hn']
          obtain ⟨Q, hQ⟩ : ∃ z, z = dv 32768 (sgm A1 j) (n' + 1 + 1) / (q * mm A y) := ⟨_, rfl⟩
          have em := Int.mul_ediv_add_emod (dv 32768 (sgm A1 j) (n' + 1 + 1)) (q * mm A y)
          have m0 := Int.emod_nonneg (dv 32768 (sgm A1 j) (n' + 1 + 1)) (show q * mm A y ≠ 0 by omega)
          have m1 := Int.emod_lt_of_pos (dv 32768 (sgm A1 j) (n' + 1 + 1)) Dp
          have Un := dv_nonneg (B := 32768) (f := sgm A1 j) (by decide) (n := n' + 1 + 1) (fun k k0 k1 => (hdg (j + k) (by omega) (by omega)).1)
          have Q0 : 0 ≤ Q := by rw [hQ]; exact Int.ediv_nonneg Un (by omega)
          have Q1 : Q < 32768 := by rw [hQ]; exact Int.ediv_lt_of_lt_mul Dp (by omega)
          rw [← hQ] at em ⊢
          have sp2 : dv 32768 (A277 7) (n' + 1 + j) = dv 32768 (A1 7) j + 32768 ^ j * (dv 32768 (sgm A1 j) (n' + 1 + 1) % (q * mm A y)) := by
            rw [show n' + 1 + j = j + (n' + 1) by omega, dv_split j, ← o5]
            rw [dv_congr (g := A1 7) (fun k k0 k1 => o3 k (by omega))]
            rfl
          rw [show (j : Int) + -1 = (j : Int) - 1 by omega]
          refine ih j (uA A277 9 (j : Int) Q) (by omega) (by omega) ((hw.of o2).wa (Or.inr (Or.inr rfl))) (by rw [uA_ne (by decide), o2 8 (by decide)]; exact e8) (fun k k0 k1 => ?_) (fun i a b => ?_) ?_ ?_
          · rw [uA_ne (by decide)]
            by_cases x : k < j
            · rw [o3 k (by omega)]; exact hdg k k0 (by omega)
            · have := o4 (k - j) (by omega) (by omega)
              unfold sgm at this
              rwa [show (j : Int) + (k - j) = k by omega] at this
          · rw [uA_at]
            split
            · exact ⟨Q0, Q1⟩
            · rw [o2 9 (by decide)]; exact h9 i (by omega) b
          · rw [uA_ne (show 7 ≠ 9 by decide), sp2, show (A 5 x - A 5 y + 1).toNat - j = ((A 5 x - A 5 y + 1).toNat - (j + 1)) + 1 by omega, dv_cons (f := fun i => uA A277 9 (j : Int) Q 9 ((j : Int) + i))]
            rw [dv_congr (f := fun i => uA A277 9 (j : Int) Q 9 ((j : Int) + (1 + i))) (g := fun i => A1 9 (((j + 1 : Nat) : Int) + i)) (fun i a b => by show uA A277 9 (j : Int) Q 9 _ = _; rw [uA_ni (by omega), o2 9 (by decide)]; congr 1; omega)]
            rw [show uA A277 9 (j : Int) Q 9 ((j : Int) + 0) = Q by rw [Int.add_zero, uA_eq]]
            rw [← hv, sp, Int.pow_succ]
            have e5 : dv 32768 (sgm A1 j) (n' + 1 + 1) % (q * mm A y) = dv 32768 (sgm A1 j) (n' + 1 + 1) - q * mm A y * Q := by omega
            rw [e5]
            grind
          · rw [uA_ne (show 7 ≠ 9 by decide), sp2]
            have p1 : 32768 ^ j * (dv 32768 (sgm A1 j) (n' + 1 + 1) % (q * mm A y) + 1) ≤ 32768 ^ j * (q * mm A y) := Int.mul_le_mul_of_nonneg_left (by omega) (Int.le_of_lt Pj)
            rw [Int.mul_comm (q * mm A y)]
            grind
  have ma : ∀ (q : Int), 1 ≤ q → q ≤ 16384 → ∀ (d k : Nat) (ov : Int) (A1 : Nat → Int → Int), (mx : Int) - k < d → k ≤ mx → Wx r A A1 → dig 32768 (A1 7) k → 0 ≤ ov → ov < 32768 → dv 32768 (A1 7) k + ov * 32768 ^ k = q * dv 32768 (mlm A x) k → (∀ (A2 : Nat → Int → Int) (ov2 : Int), Wx r A A2 → dig 32768 (A2 7) ((mx + 1 : Nat) : Int) → dv 32768 (A2 7) (mx + 1) = q * mm A x → X p l e { frames := 1, cells := 0, slots := 0, locals := 30 } s m args below meth c (MQ below (QX D ids β sh N R (pIr (fun z F2 A2 => F2 = F ∧ (0 ≤ z ∧ z ≤ 240) ∧ dig 32768 (A2 9) z ∧ dv 32768 (A2 9) z.toNat = mm A x / mm A y ∧ MOK A2 r ∧ mm A2 r = mm A x % mm A y ∧ Wx r A A2))) args s 0 0 (inG β N)) (inG β N) D ids β sh 13 0 0 N R F A2 [some (rf 0), some (pI x), some (pI y), some (pI r), some (pI (A 5 y)), some (pI (A 5 x)), some (pI (q)), some (pI (0)), some (pI (0)), none, none, none, none] [] 200) → X p l e { frames := 1, cells := 0, slots := 0, locals := 30 } s m args below meth c (MQ below (QX D ids β sh N R (pIr (fun z F2 A2 => F2 = F ∧ (0 ≤ z ∧ z ≤ 240) ∧ dig 32768 (A2 9) z ∧ dv 32768 (A2 9) z.toNat = mm A x / mm A y ∧ MOK A2 r ∧ mm A2 r = mm A x % mm A y ∧ Wx r A A2))) args s 0 0 (inG β N)) (inG β N) D ids β sh 13 0 0 N R F A1 [some (rf 0), some (pI x), some (pI y), some (pI r), some (pI (A 5 y)), some (pI (A 5 x)), some (pI (q)), some (pI (ov)), some (pI ((k : Int))), none, none, none, none] [] 131 := by
    intro q q0 q1 d
    induction d with
    | zero => intro k ov A1 hd; omega
    | succ d ih =>
      intro k ov A1 hd hk hw hdg ov0 ov1 hv next
      refine x_iload (pc2 := 133) hC rfl dX8_divides_131 rfl ?_
      refine x_iload (pc2 := 135) hC rfl dX8_divides_133 rfl ?_
      refine x_icmp_ge (tgt := 185) (pc2 := 138) hC (by omega) (by omega) dX8_divides_135 rfl rfl (fun h_135 => ?_) (fun h_135 => ?_)
      · refine x_aload_n (pc2 := 186) hC rfl rfl dX8_divides_185 rfl ?_
        refine g_820 (pc2 := 189) hC hK (by assumption) (by assumption) (by assumption) dX8_divides_186 rfl ?_
        refine x_iload (pc2 := 191) hC rfl dX8_divides_189 rfl ?_
        refine x_iload (pc2 := 193) hC rfl dX8_divides_191 rfl ?_
        refine x_iast (pc2 := 194) hC hK (by assumption) (by assumption) (by omega) (by decide) dX8_divides_193 rfl ?_
        refine x_iconst (pc2 := 195) hC dX8_divides_194 rfl ?_
        refine x_istore (pc2 := 197) (loc2 := [_, _, _, _, _, _, _, _, _, _, _, _, _]) hC (by decide) rfl dX8_divides_195 rfl ?_
        refine x_iconst (pc2 := 198) hC dX8_divides_197 rfl ?_
        refine x_istore (pc2 := 200) (loc2 := [_, _, _, _, _, _, _, _, _, _, _, _, _]) hC (by decide) rfl dX8_divides_198 rfl ?_
        refine x_less (loc2 := [some (rf 0), some (pI x), some (pI y), some (pI r), some (pI (A 5 y)), some (pI (A 5 x)), some (pI (q)), some (pI (0)), some (pI (0)), none, none, none, none]) hC ⟨rfl, rfl, rfl, rfl, rfl, rfl, rfl, rfl, rfl, trivial⟩ ?_
        have hkm : k = mx := by omega
        subst hkm
        refine next _ 0 (hw.wa (Or.inl rfl)) (fun j j0 j1 => ?_) ?_
        · rw [hmx, uA_at]
          split
          · omega
          · exact hdg j j0 (by omega)
        · rw [hmx, dv7_uA, hv, eX]
      · have h138 : (k : Int) < mx := by omega
        have rdx : A1 4 (240 * x + (k : Int)) = mlm A x k := (hw.2.2.1 _ (by omega)).trans rfl
        have dx := dgx k (by omega) h138
        have mr := mul_rng dx.1 (show mlm A x k ≤ 32767 by omega) (show 0 ≤ q by omega) q1
        refine x_aload_n (pc2 := 139) hC rfl rfl dX8_divides_138 rfl ?_
        refine g_816 (pc2 := 142) hC hK (by assumption) (by assumption) (by assumption) dX8_divides_139 rfl ?_
        refine x_sipush (pc2 := 145) hC rfl dX8_divides_142 rfl ?_
        refine x_iload_n (pc2 := 146) hC rfl rfl dX8_divides_145 rfl ?_
        refine x_imul (pc2 := 147) hC dX8_divides_146 rfl ?_
        refine x_iload (pc2 := 149) hC rfl dX8_divides_147 rfl ?_
        refine x_iadd (pc2 := 150) hC dX8_divides_149 rfl ?_
        refine x_iald (pc2 := 151) hC hK (by assumption) (by assumption) (by omega) (by decide) dX8_divides_150 rfl ?_
        rw [rdx]
        refine x_iload (pc2 := 153) hC rfl dX8_divides_151 rfl ?_
        refine x_imul (pc2 := 154) hC dX8_divides_153 rfl ?_
        refine x_iload (pc2 := 156) hC rfl dX8_divides_154 rfl ?_
        refine x_iadd (pc2 := 157) hC dX8_divides_156 rfl ?_
        refine x_istore (pc2 := 159) (loc2 := [_, _, _, _, _, _, _, _, _, _, _, _, _]) hC (by decide) rfl dX8_divides_157 rfl ?_
        refine x_aload_n (pc2 := 160) hC rfl rfl dX8_divides_159 rfl ?_
        refine g_820 (pc2 := 163) hC hK (by assumption) (by assumption) (by assumption) dX8_divides_160 rfl ?_
        refine x_iload (pc2 := 165) hC rfl dX8_divides_163 rfl ?_
        refine x_iload (pc2 := 167) hC rfl dX8_divides_165 rfl ?_
        refine x_sipush (pc2 := 170) hC rfl dX8_divides_167 rfl ?_
        refine x_iand (pc2 := 171) hC (by omega) (by omega) dX8_divides_170 rfl ?_
        refine x_iast (pc2 := 172) hC hK (by assumption) (by assumption) (by omega) (by decide) dX8_divides_171 rfl ?_
        refine x_iload (pc2 := 174) hC rfl dX8_divides_172 rfl ?_
        refine x_bipush (pc2 := 176) hC rfl dX8_divides_174 rfl ?_
        refine x_ishr (pc2 := 177) hC (by omega) (by omega) dX8_divides_176 rfl ?_
        refine x_istore (pc2 := 179) (loc2 := [_, _, _, _, _, _, _, _, _, _, _, _, _]) hC (by decide) rfl dX8_divides_177 rfl ?_
        refine x_iinc (pc2 := 182) (loc2 := [_, _, _, _, _, _, _, _, _, _, _, _, _]) hC (by decide) rfl rfl dX8_divides_179 rfl ?_
        refine x_goto (pc2 := 131) hC dX8_divides_182 rfl ?_
        refine x_less (loc2 := [some (rf 0), some (pI x), some (pI y), some (pI r), some (pI (A 5 y)), some (pI (A 5 x)), some (pI (q)), some (pI (_)), some (pI (_)), none, none, none, none]) hC ⟨rfl, rfl, rfl, rfl, rfl, rfl, rfl, rfl, rfl, trivial⟩ ?_
        refine ih (k + 1) _ _ (by omega) (by omega) (hw.wa (Or.inl rfl)) (fun j j0 j1 => ?_) (by omega) (by omega) ?_ next
        · rw [uA_at]
          split
          · omega
          · exact hdg j j0 (by omega)
        · rw [dv7_uA, Int.pow_succ, mu_step hv rfl]
          rfl
  have mb : ∀ (q : Int), q = 32768 / (mlm A y n' + 1) → 1 ≤ q → q ≤ 16384 → ∀ (A0 : Nat → Int → Int), ∀ (d k : Nat) (ov : Int) (A1 : Nat → Int → Int), ((n' + 1 : Nat) : Int) - k < d → k ≤ n' + 1 → Wx r A A1 → A1 7 = A0 7 → dig 32768 (A1 8) k → 0 ≤ ov → ov < 32768 → dv 32768 (A1 8) k + ov * 32768 ^ k = q * dv 32768 (mlm A y) k → (∀ (A2 : Nat → Int → Int), Wx r A A2 → A2 7 = A0 7 → dig 32768 (A2 8) ((n' + 1 : Nat) : Int) → dv 32768 (A2 8) (n' + 1) = q * mm A y → 1 ≤ A2 8 n' → X p l e { frames := 1, cells := 0, slots := 0, locals := 30 } s m args below meth c (MQ below (QX D ids β sh N R (pIr (fun z F2 A2 => F2 = F ∧ (0 ≤ z ∧ z ≤ 240) ∧ dig 32768 (A2 9) z ∧ dv 32768 (A2 9) z.toNat = mm A x / mm A y ∧ MOK A2 r ∧ mm A2 r = mm A x % mm A y ∧ Wx r A A2))) args s 0 0 (inG β N)) (inG β N) D ids β sh 13 0 0 N R F A2 [some (rf 0), some (pI x), some (pI y), some (pI r), some (pI (A 5 y)), some (pI (A 5 x)), some (pI (q)), none, none, none, none, none, none] [] 254) → X p l e { frames := 1, cells := 0, slots := 0, locals := 30 } s m args below meth c (MQ below (QX D ids β sh N R (pIr (fun z F2 A2 => F2 = F ∧ (0 ≤ z ∧ z ≤ 240) ∧ dig 32768 (A2 9) z ∧ dv 32768 (A2 9) z.toNat = mm A x / mm A y ∧ MOK A2 r ∧ mm A2 r = mm A x % mm A y ∧ Wx r A A2))) args s 0 0 (inG β N)) (inG β N) D ids β sh 13 0 0 N R F A1 [some (rf 0), some (pI x), some (pI y), some (pI r), some (pI (A 5 y)), some (pI (A 5 x)), some (pI (q)), some (pI (ov)), some (pI ((k : Int))), none, none, none, none] [] 200 := by
    intro q hq q0 q1 A0 d
    induction d with
    | zero => intro k ov A1 hd; omega
    | succ d ih =>
      intro k ov A1 hd hk hw e7 hdg ov0 ov1 hv next
      refine x_iload (pc2 := 202) hC rfl dX8_divides_200 rfl ?_
      refine x_iload (pc2 := 204) hC rfl dX8_divides_202 rfl ?_
      refine x_icmp_ge (tgt := 254) (pc2 := 207) hC (by omega) (by omega) dX8_divides_204 rfl rfl (fun h_204 => ?_) (fun h_204 => ?_)
      · refine x_less (loc2 := [some (rf 0), some (pI x), some (pI y), some (pI r), some (pI (A 5 y)), some (pI (A 5 x)), some (pI (q)), none, none, none, none, none, none]) hC ⟨rfl, rfl, rfl, rfl, rfl, rfl, rfl, trivial⟩ ?_
        have hkm : k = n' + 1 := by omega
        subst hkm
        have hb := nrm_lt dgy
        rw [← hq] at hb
        have n0 := dv_nonneg (B := 32768) (f := A1 8) (by decide) (n := n' + 1) (fun k k0 k1 => (hdg k k0 k1).1)
        have eD := mix_end (pow_pos' (by decide) (n' + 1)) hv n0 (dv_lt (by decide) hdg) (Int.mul_nonneg (by omega) (by rw [← eY]; omega)) hb
        rw [← eY] at eD
        refine next A1 hw e7 hdg eD ?_
        have t := hdg n' (by omega) (by omega)
        rcases Int.lt_or_le 0 (A1 8 n') with z | z
        · omega
        · exfalso
          have tz : A1 8 n' = 0 := by omega
          rw [dv_top tz] at eD
          have l1 := dv_lt (B := 32768) (f := A1 8) (by decide) (n := n') (fun k k0 k1 => hdg k k0 (by omega))
          have g1 := dv_ge (B := 32768) (f := mlm A y) (n := n') (by decide) (fun k k0 k1 => (dgy k k0 (by omega)).1) (by omega)
          rw [← eY] at g1
          have g2 : 1 * mm A y ≤ q * mm A y := Int.mul_le_mul_of_nonneg_right q0 (by omega)
          omega
      · have h207 : (k : Int) < ((n' + 1 : Nat) : Int) := by omega
        have rdy : A1 4 (240 * y + (k : Int)) = mlm A y k := (hw.2.2.1 _ (by omega)).trans rfl
        have dy := dgy k (by omega) h207
        have mr := mul_rng dy.1 (show mlm A y k ≤ 32767 by omega) (show 0 ≤ q by omega) q1
        refine x_aload_n (pc2 := 208) hC rfl rfl dX8_divides_207 rfl ?_
        refine g_816 (pc2 := 211) hC hK (by assumption) (by assumption) (by assumption) dX8_divides_208 rfl ?_
        refine x_sipush (pc2 := 214) hC rfl dX8_divides_211 rfl ?_
        refine x_iload_n (pc2 := 215) hC rfl rfl dX8_divides_214 rfl ?_
        refine x_imul (pc2 := 216) hC dX8_divides_215 rfl ?_
        refine x_iload (pc2 := 218) hC rfl dX8_divides_216 rfl ?_
        refine x_iadd (pc2 := 219) hC dX8_divides_218 rfl ?_
        refine x_iald (pc2 := 220) hC hK (by assumption) (by assumption) (by omega) (by decide) dX8_divides_219 rfl ?_
        rw [rdy]
        refine x_iload (pc2 := 222) hC rfl dX8_divides_220 rfl ?_
        refine x_imul (pc2 := 223) hC dX8_divides_222 rfl ?_
        refine x_iload (pc2 := 225) hC rfl dX8_divides_223 rfl ?_
        refine x_iadd (pc2 := 226) hC dX8_divides_225 rfl ?_
        refine x_istore (pc2 := 228) (loc2 := [_, _, _, _, _, _, _, _, _, _, _, _, _]) hC (by decide) rfl dX8_divides_226 rfl ?_
        refine x_aload_n (pc2 := 229) hC rfl rfl dX8_divides_228 rfl ?_
        refine g_821 (pc2 := 232) hC hK (by assumption) (by assumption) (by assumption) dX8_divides_229 rfl ?_
        refine x_iload (pc2 := 234) hC rfl dX8_divides_232 rfl ?_
        refine x_iload (pc2 := 236) hC rfl dX8_divides_234 rfl ?_
        refine x_sipush (pc2 := 239) hC rfl dX8_divides_236 rfl ?_
        refine x_iand (pc2 := 240) hC (by omega) (by omega) dX8_divides_239 rfl ?_
        refine x_iast (pc2 := 241) hC hK (by assumption) (by assumption) (by omega) (by decide) dX8_divides_240 rfl ?_
        refine x_iload (pc2 := 243) hC rfl dX8_divides_241 rfl ?_
        refine x_bipush (pc2 := 245) hC rfl dX8_divides_243 rfl ?_
        refine x_ishr (pc2 := 246) hC (by omega) (by omega) dX8_divides_245 rfl ?_
        refine x_istore (pc2 := 248) (loc2 := [_, _, _, _, _, _, _, _, _, _, _, _, _]) hC (by decide) rfl dX8_divides_246 rfl ?_
        refine x_iinc (pc2 := 251) (loc2 := [_, _, _, _, _, _, _, _, _, _, _, _, _]) hC (by decide) rfl rfl dX8_divides_248 rfl ?_
        refine x_goto (pc2 := 200) hC dX8_divides_251 rfl ?_
        refine x_less (loc2 := [some (rf 0), some (pI x), some (pI y), some (pI r), some (pI (A 5 y)), some (pI (A 5 x)), some (pI (q)), some (pI (_)), some (pI (_)), none, none, none, none]) hC ⟨rfl, rfl, rfl, rfl, rfl, rfl, rfl, rfl, rfl, trivial⟩ ?_
        refine ih (k + 1) _ _ (by omega) (by omega) (hw.wa (Or.inr (Or.inl rfl))) (by rw [uA_ne (by decide)]; exact e7) (fun j j0 j1 => ?_) (by omega) (by omega) ?_ next
        · rw [uA_at]
          split
          · omega
          · exact hdg j j0 (by omega)
        · rw [dv7_uA, Int.pow_succ, mu_step hv rfl]
          rfl
  have z0 : ∀ (d k : Nat) (A1 : Nat → Int → Int), A 5 x + 1 - k < d → (k : Int) ≤ A 5 x + 1 → Wx r A A1 → X p l e { frames := 1, cells := 0, slots := 0, locals := 30 } s m args below meth c (MQ below (QX D ids β sh N R (pIr (fun z F2 A2 => F2 = F ∧ (0 ≤ z ∧ z ≤ 240) ∧ dig 32768 (A2 9) z ∧ dv 32768 (A2 9) z.toNat = mm A x / mm A y ∧ MOK A2 r ∧ mm A2 r = mm A x % mm A y ∧ Wx r A A2))) args s 0 0 (inG β N)) (inG β N) D ids β sh 13 0 0 N R F A1 [some (rf 0), some (pI x), some (pI y), some (pI r), some (pI (A 5 y)), some (pI (A 5 x)), some (pI ((k : Int))), none, none, none, none, none, none] [] 19 := by
    intro d
    induction d with
    | zero => intro k A1 hd; omega
    | succ d ih =>
      intro k A1 hd hk hw
      obtain ⟨ax1, ax2, -⟩ := hw.ok nx okx
      obtain ⟨ay1, ay2, -⟩ := hw.ok ny oky
      have rdt : A1 4 (240 * y + A 5 y - 1) = mlm A y n' := by
        rw [hw.2.2.1 _ (by omega)]; unfold mlm; congr 1; omega
      refine x_iload (pc2 := 21) hC rfl dX8_divides_19 rfl ?_
      refine x_iload (pc2 := 23) hC rfl dX8_divides_21 rfl ?_
      refine x_iconst (pc2 := 24) hC dX8_divides_23 rfl ?_
      refine x_iadd (pc2 := 25) hC dX8_divides_24 rfl ?_
      refine x_icmp_ge (tgt := 42) (pc2 := 28) hC (by omega) (by omega) dX8_divides_25 rfl rfl (fun h_25 => ?_) (fun h_25 => ?_)
      · refine x_aload_n (pc2 := 43) hC rfl rfl dX8_divides_42 rfl ?_
        refine x_iload_n (pc2 := 44) hC rfl rfl dX8_divides_43 rfl ?_
        refine x_iload_n (pc2 := 45) hC rfl rfl dX8_divides_44 rfl ?_
        refine x_cVi (pc2 := 48) (ci := 8) hC hK (n_stand l hM hx hy ax1 ay1) lk_931 rfl rfl (by decide) (by assumption) (by assumption) ⟨Nat.le_of_ble_eq_true rfl, Nat.le_of_ble_eq_true rfl⟩ ⟨Nat.le_refl _, Nat.le_refl _⟩ rfl (Nat.le_of_ble_eq_true rfl) dX8_divides_45 rfl ?_
        rintro z45 F45 A45 ⟨rfl, e145, e245⟩
        obtain rfl := e145.symm
        obtain rfl := e245.symm
        have cs := sgc_cs (mm A1 x) (mm A1 y)
        have cs2 := sgc_I (a := mm A1 x) (b := mm A1 y)
        refine x_if_ge (tgt := 103) (pc2 := 51) hC (by omega) dX8_divides_48 rfl rfl (fun h_48 => ?_) (fun h_48 => ?_)
        · refine x_ldc (pc2 := 105) (z := 32768) hC wt_935 rfl dX8_divides_103 rfl ?_
          refine x_aload_n (pc2 := 106) hC rfl rfl dX8_divides_105 rfl ?_
          refine g_816 (pc2 := 109) hC hK (by assumption) (by assumption) (by assumption) dX8_divides_106 rfl ?_
          refine x_sipush (pc2 := 112) hC rfl dX8_divides_109 rfl ?_
          refine x_iload_n (pc2 := 113) hC rfl rfl dX8_divides_112 rfl ?_
          refine x_imul (pc2 := 114) hC dX8_divides_113 rfl ?_
          refine x_iload (pc2 := 116) hC rfl dX8_divides_114 rfl ?_
          refine x_iadd (pc2 := 117) hC dX8_divides_116 rfl ?_
          refine x_iconst (pc2 := 118) hC dX8_divides_117 rfl ?_
          refine x_isub (pc2 := 119) hC dX8_divides_118 rfl ?_
          refine x_iald (pc2 := 120) hC hK (by assumption) (by assumption) (by omega) (by decide) dX8_divides_119 rfl ?_
          rw [rdt]
          refine x_iconst (pc2 := 121) hC dX8_divides_120 rfl ?_
          refine x_iadd (pc2 := 122) hC dX8_divides_121 rfl ?_
          refine x_idivp (pc2 := 123) hC (by omega) (by omega) (by omega) (by omega) dX8_divides_122 rfl ?_
          refine x_istore (pc2 := 125) (loc2 := [_, _, _, _, _, _, _, _, _, _, _, _, _]) hC (by decide) rfl dX8_divides_123 rfl ?_
          refine x_iconst (pc2 := 126) hC dX8_divides_125 rfl ?_
          refine x_istore (pc2 := 128) (loc2 := [_, _, _, _, _, _, _, _, _, _, _, _, _]) hC (by decide) rfl dX8_divides_126 rfl ?_
          refine x_iconst (pc2 := 129) hC dX8_divides_128 rfl ?_
          refine x_istore (pc2 := 131) (loc2 := [_, _, _, _, _, _, _, _, _, _, _, _, _]) hC (by decide) rfl dX8_divides_129 rfl ?_
          obtain ⟨q, hq⟩ : ∃ q, q = 32768 / (mlm A y n' + 1) := ⟨_, rfl⟩
          have q0 : 1 ≤ q := by
            have := Int.ediv_le_ediv (show 0 < mlm A y n' + 1 by omega) (show mlm A y n' + 1 ≤ 32768 by omega)
            rw [Int.ediv_self (by omega), ← hq] at this
            exact this
          have q1 : q ≤ 16384 := by
            have := Int.mul_ediv_self_le (x := 32768) (k := mlm A y n' + 1) (by omega)
            rw [← hq] at this
            have p : 2 * q ≤ (mlm A y n' + 1) * q := Int.mul_le_mul_of_nonneg_right (by omega) (by omega)
            omega
          rw [← hq]
          have hyx : mm A y ≤ mm A x := by omega
          have hle : A 5 y ≤ A 5 x := by
            rcases Int.lt_or_le (A 5 x) (A 5 y) with z | z
            · have := mm_slt okx oky z; omega
            · exact z
          refine ma q q0 q1 (mx + 1) 0 0 A1 (by omega) (by omega) hw (fun j a b => by omega) (by decide) (by decide) (by simp [dv]) (fun A2 ov2 hw2 hd2 hv2 => ?_)
          refine mb q hq q0 q1 A2 (n' + 2) 0 0 A2 (by omega) (by omega) hw2 rfl (fun j a b => by omega) (by decide) (by decide) (by simp [dv]) (fun A3 hw3 e37 hd3 hv3 ht3 => ?_)
          refine x_iload (pc2 := 256) hC rfl dX8_divides_254 rfl ?_
          refine x_iload (pc2 := 258) hC rfl dX8_divides_256 rfl ?_
          refine x_isub (pc2 := 259) hC dX8_divides_258 rfl ?_
          refine x_istore (pc2 := 261) (loc2 := [_, _, _, _, _, _, _, _, _, _, _, _, _]) hC (by decide) rfl dX8_divides_259 rfl ?_
          have hT1 : n' + 1 + (A 5 x - A 5 y + 1).toNat = mx + 1 := by omega
          have g := dl q q0 q1 hle (A3 8) hd3 hv3 ht3 ((A 5 x - A 5 y + 1).toNat + 1) (A 5 x - A 5 y + 1).toNat A3
            (by omega) (by omega) hw3 rfl (by rw [e37, hT1]; exact hd2) (fun i a b => by omega) (by rw [e37, hT1, Nat.sub_self, hv2]; simp only [dv]; omega) (by
              rw [e37, hT1, hv2]
              have a1 := mm_lt okx
              have a2 := mm_ge oky (by omega)
              rw [hmx, Int.toNat_natCast] at a1
              have a3 : 32768 ^ ((A 5 y).toNat - 1) * 32768 ^ (A 5 x - A 5 y + 1).toNat ≤ mm A y * 32768 ^ (A 5 x - A 5 y + 1).toNat := Int.mul_le_mul_of_nonneg_right a2 (Int.le_of_lt (pow_pos' (by decide) _))
              rw [← Int.pow_add, show (A 5 y).toNat - 1 + (A 5 x - A 5 y + 1).toNat = mx by omega] at a3
              rw [Int.mul_assoc]
              exact Int.mul_lt_mul_of_pos_left (by omega) (by omega))
          rw [show (((A 5 x - A 5 y + 1).toNat : Nat) : Int) - 1 = A 5 x - A 5 y by omega] at g
          exact g
        · refine x_iconst (pc2 := 52) hC dX8_divides_51 rfl ?_
          refine x_istore (pc2 := 54) (loc2 := [_, _, _, _, _, _, _, _, _, _, _, _, _]) hC (by decide) rfl dX8_divides_52 rfl ?_
          exact x_less (loc2 := [some (rf 0), some (pI x), some (pI y), some (pI r), some (pI (A 5 y)), some (pI (A 5 x)), some (pI (((0 : Nat) : Int))), none, none, none, none, none, none]) hC ⟨rfl, rfl, rfl, rfl, rfl, rfl, rfl, trivial⟩ (cp (mx + 1) 0 A1 (by omega) (by omega) hw (fun j a b => by omega) (by omega))
      · refine x_aload_n (pc2 := 29) hC rfl rfl dX8_divides_28 rfl ?_
        refine g_822 (pc2 := 32) hC hK (by assumption) (by assumption) (by assumption) dX8_divides_29 rfl ?_
        refine x_iload (pc2 := 34) hC rfl dX8_divides_32 rfl ?_
        refine x_iconst (pc2 := 35) hC dX8_divides_34 rfl ?_
        refine x_iast (pc2 := 36) hC hK (by assumption) (by assumption) (by omega) (by decide) dX8_divides_35 rfl ?_
        refine x_iinc (pc2 := 39) (loc2 := [_, _, _, _, _, _, _, _, _, _, _, _, _]) hC (by decide) rfl rfl dX8_divides_36 rfl ?_
        refine x_goto (pc2 := 19) hC dX8_divides_39 rfl ?_
        exact ih (k + 1) _ (by omega) (by omega) (hw.wa (Or.inr (Or.inr rfl)))
  refine x_aload_n (pc2 := 1) hC rfl rfl dX8_divides_0 rfl ?_
  refine g_817 (pc2 := 4) hC hK (by assumption) (by assumption) (by assumption) dX8_divides_1 rfl ?_
  refine x_iload_n (pc2 := 5) hC rfl rfl dX8_divides_4 rfl ?_
  refine x_iald (pc2 := 6) hC hK (by assumption) (by assumption) (by omega) (by decide) dX8_divides_5 rfl ?_
  refine x_istore (pc2 := 8) (loc2 := [_, _, _, _, _, _, _, _, _, _, _, _, _]) hC (by decide) rfl dX8_divides_6 rfl ?_
  refine x_aload_n (pc2 := 9) hC rfl rfl dX8_divides_8 rfl ?_
  refine g_817 (pc2 := 12) hC hK (by assumption) (by assumption) (by assumption) dX8_divides_9 rfl ?_
  refine x_iload_n (pc2 := 13) hC rfl rfl dX8_divides_12 rfl ?_
  refine x_iald (pc2 := 14) hC hK (by assumption) (by assumption) (by omega) (by decide) dX8_divides_13 rfl ?_
  refine x_istore (pc2 := 16) (loc2 := [_, _, _, _, _, _, _, _, _, _, _, _, _]) hC (by decide) rfl dX8_divides_14 rfl ?_
  refine x_iconst (pc2 := 17) hC dX8_divides_16 rfl ?_
  refine x_istore (pc2 := 19) (loc2 := [_, _, _, _, _, _, _, _, _, _, _, _, _]) hC (by decide) rfl dX8_divides_17 rfl ?_
  exact z0 1000 0 A (by omega) (by omega) Wx.rf
