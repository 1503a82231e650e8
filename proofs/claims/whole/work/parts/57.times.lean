theorem tm_step {B d c t P v Q w r : Int} (h : d + c * (Q * P) = t + w * Q) (hv : v = r + c) : d + v % B * (Q * P) + v / B * (Q * P * B) = t + r * (Q * P) + w * Q := by
  have := Int.mul_ediv_add_emod v B
  grind
theorem mul_rng2 {a b : Int} (h0 : 0 ≤ a ∧ a < 32768) (h1 : 0 ≤ b ∧ b < 32768) : 0 ≤ a * b ∧ a * b ≤ 1073676289 := mul_rng h0.1 (show a ≤ 32767 by omega) h1.1 (show b ≤ 32767 by omega)
theorem dX8_times_0 : decode cX8_times 0 = .ok (.aload_n 0, 1) := by decide +kernel
theorem dX8_times_1 : decode cX8_times 1 = .ok (.invokevirtual 55, 3) := by decide +kernel
theorem dX8_times_4 : decode cX8_times 4 = .ok (.istore_n 3, 1) := by decide +kernel
theorem dX8_times_5 : decode cX8_times 5 = .ok (.aload_n 0, 1) := by decide +kernel
theorem dX8_times_6 : decode cX8_times 6 = .ok (.getfield 31, 3) := by decide +kernel
theorem dX8_times_9 : decode cX8_times 9 = .ok (.iload_n 1, 1) := by decide +kernel
theorem dX8_times_10 : decode cX8_times 10 = .ok (.iaload, 1) := by decide +kernel
theorem dX8_times_11 : decode cX8_times 11 = .ok (.aload_n 0, 1) := by decide +kernel
theorem dX8_times_12 : decode cX8_times 12 = .ok (.getfield 31, 3) := by decide +kernel
theorem dX8_times_15 : decode cX8_times 15 = .ok (.iload_n 2, 1) := by decide +kernel
theorem dX8_times_16 : decode cX8_times 16 = .ok (.iaload, 1) := by decide +kernel
theorem dX8_times_17 : decode cX8_times 17 = .ok (.iadd, 1) := by decide +kernel
theorem dX8_times_18 : decode cX8_times 18 = .ok (.istore 4, 2) := by decide +kernel
theorem dX8_times_20 : decode cX8_times 20 = .ok (.iconst 0, 1) := by decide +kernel
theorem dX8_times_21 : decode cX8_times 21 = .ok (.istore 5, 2) := by decide +kernel
theorem dX8_times_23 : decode cX8_times 23 = .ok (.iload 5, 2) := by decide +kernel
theorem dX8_times_25 : decode cX8_times 25 = .ok (.iload 4, 2) := by decide +kernel
theorem dX8_times_27 : decode cX8_times 27 = .ok (.if_icmp .ge 23, 3) := by decide +kernel
theorem dX8_times_30 : decode cX8_times 30 = .ok (.aload_n 0, 1) := by decide +kernel
theorem dX8_times_31 : decode cX8_times 31 = .ok (.getfield 28, 3) := by decide +kernel
theorem dX8_times_34 : decode cX8_times 34 = .ok (.sipush 240, 3) := by decide +kernel
theorem dX8_times_37 : decode cX8_times 37 = .ok (.iload_n 3, 1) := by decide +kernel
theorem dX8_times_38 : decode cX8_times 38 = .ok (.imul, 1) := by decide +kernel
theorem dX8_times_39 : decode cX8_times 39 = .ok (.iload 5, 2) := by decide +kernel
theorem dX8_times_41 : decode cX8_times 41 = .ok (.iadd, 1) := by decide +kernel
theorem dX8_times_42 : decode cX8_times 42 = .ok (.iconst 0, 1) := by decide +kernel
theorem dX8_times_43 : decode cX8_times 43 = .ok (.iastore, 1) := by decide +kernel
theorem dX8_times_44 : decode cX8_times 44 = .ok (.iinc 5 1, 3) := by decide +kernel
theorem dX8_times_47 : decode cX8_times 47 = .ok (.goto (-24), 3) := by decide +kernel
theorem dX8_times_50 : decode cX8_times 50 = .ok (.iconst 0, 1) := by decide +kernel
theorem dX8_times_51 : decode cX8_times 51 = .ok (.istore 5, 2) := by decide +kernel
theorem dX8_times_53 : decode cX8_times 53 = .ok (.iload 5, 2) := by decide +kernel
theorem dX8_times_55 : decode cX8_times 55 = .ok (.aload_n 0, 1) := by decide +kernel
theorem dX8_times_56 : decode cX8_times 56 = .ok (.getfield 31, 3) := by decide +kernel
theorem dX8_times_59 : decode cX8_times 59 = .ok (.iload_n 1, 1) := by decide +kernel
theorem dX8_times_60 : decode cX8_times 60 = .ok (.iaload, 1) := by decide +kernel
theorem dX8_times_61 : decode cX8_times 61 = .ok (.if_icmp .ge 136, 3) := by decide +kernel
theorem dX8_times_64 : decode cX8_times 64 = .ok (.iconst 0, 1) := by decide +kernel
theorem dX8_times_65 : decode cX8_times 65 = .ok (.istore 6, 2) := by decide +kernel
theorem dX8_times_67 : decode cX8_times 67 = .ok (.aload_n 0, 1) := by decide +kernel
theorem dX8_times_68 : decode cX8_times 68 = .ok (.getfield 28, 3) := by decide +kernel
theorem dX8_times_71 : decode cX8_times 71 = .ok (.sipush 240, 3) := by decide +kernel
theorem dX8_times_74 : decode cX8_times 74 = .ok (.iload_n 1, 1) := by decide +kernel
theorem dX8_times_75 : decode cX8_times 75 = .ok (.imul, 1) := by decide +kernel
theorem dX8_times_76 : decode cX8_times 76 = .ok (.iload 5, 2) := by decide +kernel
theorem dX8_times_78 : decode cX8_times 78 = .ok (.iadd, 1) := by decide +kernel
theorem dX8_times_79 : decode cX8_times 79 = .ok (.iaload, 1) := by decide +kernel
theorem dX8_times_80 : decode cX8_times 80 = .ok (.istore 7, 2) := by decide +kernel
theorem dX8_times_82 : decode cX8_times 82 = .ok (.iconst 0, 1) := by decide +kernel
theorem dX8_times_83 : decode cX8_times 83 = .ok (.istore 8, 2) := by decide +kernel
theorem dX8_times_85 : decode cX8_times 85 = .ok (.iload 8, 2) := by decide +kernel
theorem dX8_times_87 : decode cX8_times 87 = .ok (.aload_n 0, 1) := by decide +kernel
theorem dX8_times_88 : decode cX8_times 88 = .ok (.getfield 31, 3) := by decide +kernel
theorem dX8_times_91 : decode cX8_times 91 = .ok (.iload_n 2, 1) := by decide +kernel
theorem dX8_times_92 : decode cX8_times 92 = .ok (.iaload, 1) := by decide +kernel
theorem dX8_times_93 : decode cX8_times 93 = .ok (.if_icmp .ge 76, 3) := by decide +kernel
theorem dX8_times_96 : decode cX8_times 96 = .ok (.aload_n 0, 1) := by decide +kernel
theorem dX8_times_97 : decode cX8_times 97 = .ok (.getfield 28, 3) := by decide +kernel
theorem dX8_times_100 : decode cX8_times 100 = .ok (.sipush 240, 3) := by decide +kernel
theorem dX8_times_103 : decode cX8_times 103 = .ok (.iload_n 3, 1) := by decide +kernel
theorem dX8_times_104 : decode cX8_times 104 = .ok (.imul, 1) := by decide +kernel
theorem dX8_times_105 : decode cX8_times 105 = .ok (.iload 5, 2) := by decide +kernel
theorem dX8_times_107 : decode cX8_times 107 = .ok (.iadd, 1) := by decide +kernel
theorem dX8_times_108 : decode cX8_times 108 = .ok (.iload 8, 2) := by decide +kernel
theorem dX8_times_110 : decode cX8_times 110 = .ok (.iadd, 1) := by decide +kernel
theorem dX8_times_111 : decode cX8_times 111 = .ok (.iaload, 1) := by decide +kernel
theorem dX8_times_112 : decode cX8_times 112 = .ok (.iload 7, 2) := by decide +kernel
theorem dX8_times_114 : decode cX8_times 114 = .ok (.aload_n 0, 1) := by decide +kernel
theorem dX8_times_115 : decode cX8_times 115 = .ok (.getfield 28, 3) := by decide +kernel
theorem dX8_times_118 : decode cX8_times 118 = .ok (.sipush 240, 3) := by decide +kernel
theorem dX8_times_121 : decode cX8_times 121 = .ok (.iload_n 2, 1) := by decide +kernel
theorem dX8_times_122 : decode cX8_times 122 = .ok (.imul, 1) := by decide +kernel
theorem dX8_times_123 : decode cX8_times 123 = .ok (.iload 8, 2) := by decide +kernel
theorem dX8_times_125 : decode cX8_times 125 = .ok (.iadd, 1) := by decide +kernel
theorem dX8_times_126 : decode cX8_times 126 = .ok (.iaload, 1) := by decide +kernel
theorem dX8_times_127 : decode cX8_times 127 = .ok (.imul, 1) := by decide +kernel
theorem dX8_times_128 : decode cX8_times 128 = .ok (.iadd, 1) := by decide +kernel
theorem dX8_times_129 : decode cX8_times 129 = .ok (.iload 6, 2) := by decide +kernel
theorem dX8_times_131 : decode cX8_times 131 = .ok (.iadd, 1) := by decide +kernel
theorem dX8_times_132 : decode cX8_times 132 = .ok (.istore 9, 2) := by decide +kernel
theorem dX8_times_134 : decode cX8_times 134 = .ok (.aload_n 0, 1) := by decide +kernel
theorem dX8_times_135 : decode cX8_times 135 = .ok (.getfield 28, 3) := by decide +kernel
theorem dX8_times_138 : decode cX8_times 138 = .ok (.sipush 240, 3) := by decide +kernel
theorem dX8_times_141 : decode cX8_times 141 = .ok (.iload_n 3, 1) := by decide +kernel
theorem dX8_times_142 : decode cX8_times 142 = .ok (.imul, 1) := by decide +kernel
theorem dX8_times_143 : decode cX8_times 143 = .ok (.iload 5, 2) := by decide +kernel
theorem dX8_times_145 : decode cX8_times 145 = .ok (.iadd, 1) := by decide +kernel
theorem dX8_times_146 : decode cX8_times 146 = .ok (.iload 8, 2) := by decide +kernel
theorem dX8_times_148 : decode cX8_times 148 = .ok (.iadd, 1) := by decide +kernel
theorem dX8_times_149 : decode cX8_times 149 = .ok (.iload 9, 2) := by decide +kernel
theorem dX8_times_151 : decode cX8_times 151 = .ok (.sipush 32767, 3) := by decide +kernel
theorem dX8_times_154 : decode cX8_times 154 = .ok (.iand, 1) := by decide +kernel
theorem dX8_times_155 : decode cX8_times 155 = .ok (.iastore, 1) := by decide +kernel
theorem dX8_times_156 : decode cX8_times 156 = .ok (.iload 9, 2) := by decide +kernel
theorem dX8_times_158 : decode cX8_times 158 = .ok (.bipush 15, 2) := by decide +kernel
theorem dX8_times_160 : decode cX8_times 160 = .ok (.ishr, 1) := by decide +kernel
theorem dX8_times_161 : decode cX8_times 161 = .ok (.istore 6, 2) := by decide +kernel
theorem dX8_times_163 : decode cX8_times 163 = .ok (.iinc 8 1, 3) := by decide +kernel
theorem dX8_times_166 : decode cX8_times 166 = .ok (.goto (-81), 3) := by decide +kernel
theorem dX8_times_169 : decode cX8_times 169 = .ok (.aload_n 0, 1) := by decide +kernel
theorem dX8_times_170 : decode cX8_times 170 = .ok (.getfield 28, 3) := by decide +kernel
theorem dX8_times_173 : decode cX8_times 173 = .ok (.sipush 240, 3) := by decide +kernel
theorem dX8_times_176 : decode cX8_times 176 = .ok (.iload_n 3, 1) := by decide +kernel
theorem dX8_times_177 : decode cX8_times 177 = .ok (.imul, 1) := by decide +kernel
theorem dX8_times_178 : decode cX8_times 178 = .ok (.iload 5, 2) := by decide +kernel
theorem dX8_times_180 : decode cX8_times 180 = .ok (.iadd, 1) := by decide +kernel
theorem dX8_times_181 : decode cX8_times 181 = .ok (.aload_n 0, 1) := by decide +kernel
theorem dX8_times_182 : decode cX8_times 182 = .ok (.getfield 31, 3) := by decide +kernel
theorem dX8_times_185 : decode cX8_times 185 = .ok (.iload_n 2, 1) := by decide +kernel
theorem dX8_times_186 : decode cX8_times 186 = .ok (.iaload, 1) := by decide +kernel
theorem dX8_times_187 : decode cX8_times 187 = .ok (.iadd, 1) := by decide +kernel
theorem dX8_times_188 : decode cX8_times 188 = .ok (.iload 6, 2) := by decide +kernel
theorem dX8_times_190 : decode cX8_times 190 = .ok (.iastore, 1) := by decide +kernel
theorem dX8_times_191 : decode cX8_times 191 = .ok (.iinc 5 1, 3) := by decide +kernel
theorem dX8_times_194 : decode cX8_times 194 = .ok (.goto (-141), 3) := by decide +kernel
theorem dX8_times_197 : decode cX8_times 197 = .ok (.aload_n 0, 1) := by decide +kernel
theorem dX8_times_198 : decode cX8_times 198 = .ok (.getfield 31, 3) := by decide +kernel
theorem dX8_times_201 : decode cX8_times 201 = .ok (.iload_n 3, 1) := by decide +kernel
theorem dX8_times_202 : decode cX8_times 202 = .ok (.iload 4, 2) := by decide +kernel
theorem dX8_times_204 : decode cX8_times 204 = .ok (.iastore, 1) := by decide +kernel
theorem dX8_times_205 : decode cX8_times 205 = .ok (.aload_n 0, 1) := by decide +kernel
theorem dX8_times_206 : decode cX8_times 206 = .ok (.getfield 34, 3) := by decide +kernel
theorem dX8_times_209 : decode cX8_times 209 = .ok (.iload_n 3, 1) := by decide +kernel
theorem dX8_times_210 : decode cX8_times 210 = .ok (.aload_n 0, 1) := by decide +kernel
theorem dX8_times_211 : decode cX8_times 211 = .ok (.getfield 34, 3) := by decide +kernel
theorem dX8_times_214 : decode cX8_times 214 = .ok (.iload_n 1, 1) := by decide +kernel
theorem dX8_times_215 : decode cX8_times 215 = .ok (.iaload, 1) := by decide +kernel
theorem dX8_times_216 : decode cX8_times 216 = .ok (.aload_n 0, 1) := by decide +kernel
theorem dX8_times_217 : decode cX8_times 217 = .ok (.getfield 34, 3) := by decide +kernel
theorem dX8_times_220 : decode cX8_times 220 = .ok (.iload_n 2, 1) := by decide +kernel
theorem dX8_times_221 : decode cX8_times 221 = .ok (.iaload, 1) := by decide +kernel
theorem dX8_times_222 : decode cX8_times 222 = .ok (.imul, 1) := by decide +kernel
theorem dX8_times_223 : decode cX8_times 223 = .ok (.iastore, 1) := by decide +kernel
theorem dX8_times_224 : decode cX8_times 224 = .ok (.aload_n 0, 1) := by decide +kernel
theorem dX8_times_225 : decode cX8_times 225 = .ok (.iload_n 3, 1) := by decide +kernel
theorem dX8_times_226 : decode cX8_times 226 = .ok (.invokevirtual 69, 3) := by decide +kernel
theorem dX8_times_229 : decode cX8_times 229 = .ok (.iload_n 3, 1) := by decide +kernel
theorem dX8_times_230 : decode cX8_times 230 = .ok (.ireturn, 1) := by decide +kernel
set_option maxHeartbeats 16000000 in
theorem n_times (l : Launch) {D : va_G} {ids : Nat → ClassId} {β : Nat} {sh : Nat → Nat × Nat} {N : Nat} {R : Nat → Nat → Option Nat} {F : Nat → Nat → Int} {A : Nat → Int → Int} (hM : MoL sh R N) {T x y : Int} {V : Int → Int} {a b : Nat} (hS : St T V F A) (hT : T < 1500) (hx : 0 ≤ x ∧ x < T) (hy : 0 ≤ y ∧ y < T) (bx : bd a (V x)) (bY : bd b (V y)) (hab : (a + 8) / 9 + (b + 8) / 9 ≤ 120) : MetX l yX8_times cX8_times 10 (some (.int)) 1 21 D ids β sh N R F A [rf 0, pI x, pI y] (pIr (Pq F A T V (V x * V y))) := by
  refine MetX.of (loc := [_, _, _, _, _, _, _, _, _, _]) (plainFor_of_name (by decide +kernel)) (Nat.le_of_ble_eq_true rfl) rfl ?_
  intro p e s m args below meth c hC hK hr hlk
  obtain ⟨⟨m0, m1⟩, ⟨r0, r2, r3, r7, r8, r9, r11, r12, r13, r16, r18⟩, ⟨m2, m3⟩, ⟨m4, m5⟩, ⟨m6, m7⟩, ⟨m8, m9⟩, ⟨m10, m11⟩, ⟨m12, m13⟩, ⟨m14, m15⟩, ⟨m16, m17⟩, ⟨m18, m19⟩, ⟨m20, m21⟩, ⟨m22, m23⟩⟩ := id hM
  obtain ⟨okx, evx⟩ := hS.2.2 x hx.1 hx.2
  obtain ⟨oky, evy⟩ := hS.2.2 y hy.1 hy.2
  have hT0 := hS.2.1.1
  have szx := mo_size okx (by rw [evx]; exact bx) (m := (a + 8) / 9) (by omega)
  have szy := mo_size oky (by rw [evy]; exact bY) (m := (b + 8) / 9) (by omega)
  have sx0 := okx.1.1
  have sy0 := oky.1.1
  have sxy : A 5 x + A 5 y ≤ 240 := by omega
  clear szx szy
  obtain ⟨sx, hsx⟩ : ∃ n : Nat, A 5 x = (n : Int) := ⟨(A 5 x).toNat, by omega⟩
  obtain ⟨sy, hsy⟩ : ∃ n : Nat, A 5 y = (n : Int) := ⟨(A 5 y).toNat, by omega⟩
  have eX : mm A x = dv 32768 (mlm A x) sx := by unfold mm; rw [hsx, Int.toNat_natCast]
  have eY : mm A y = dv 32768 (mlm A y) sy := by unfold mm; rw [hsy, Int.toNat_natCast]
  have dgx : dig 32768 (mlm A x) sx := by rw [← hsx]; exact okx.2.1
  have dgy : dig 32768 (mlm A y) sy := by rw [← hsy]; exact oky.2.1
  have loop : ∀ (d i : Nat) (A1 : Nat → Int → Int) {e6 e7 e8 e9 : Option PV}, (sx : Int) - i < d → i ≤ sx → Wr T A A1 → dig 32768 (mlm A1 T) ((i + sy : Nat) : Int) → (∀ j : Int, i + sy ≤ j → j < sx + sy → mlm A1 T j = 0) → dv 32768 (mlm A1 T) (i + sy) = dv 32768 (mlm A x) i * dv 32768 (mlm A y) sy → X p l e { frames := 1, cells := 0, slots := 0, locals := 21 } s m args below meth c (MQ below (QX D ids β sh N R (pIr (Pq F A T V (V x * V y)))) args s 0 0 (inG β N)) (inG β N) D ids β sh 10 0 0 N R (uF F 0 10 (T + 1)) A1 [some (rf 0), some (pI x), some (pI y), some (pI T), some (pI (A 5 x + A 5 y)), some (pI (i : Int)), e6, e7, e8, e9] [] 53 := by
    intro d
    induction d with
    | zero => intro i A1 e6 e7 e8 e9 hd; omega
    | succ d ih =>
      intro i A1 e6 e7 e8 e9 hd hi hw hdg hz hval
      obtain ⟨x5, x6⟩ := hw.1.1 x hx.2
      obtain ⟨y5, y6⟩ := hw.1.1 y hy.2
      by_cases hlt : (i : Int) < sx
      · have dxi := dgx i (by omega) hlt
        have rdx : A1 4 (240 * x + (i : Int)) = mlm A x i := hw.1.2 _ (by omega)
        have inner : ∀ (d2 k : Nat) (ov : Int) (A2 : Nat → Int → Int) {e9 : Option PV}, (sy : Int) - k < d2 → k ≤ sy → Wr T A A2 → 0 ≤ ov → ov < 32768 → dig 32768 (mlm A2 T) ((i + k : Nat) : Int) → (∀ j : Int, i + k ≤ j → mlm A2 T j = mlm A1 T j) → dv 32768 (mlm A2 T) (i + k) + ov * (32768 ^ i * 32768 ^ k) = dv 32768 (mlm A1 T) (i + k) + (mlm A x i * dv 32768 (mlm A y) k) * 32768 ^ i → X p l e { frames := 1, cells := 0, slots := 0, locals := 21 } s m args below meth c (MQ below (QX D ids β sh N R (pIr (Pq F A T V (V x * V y)))) args s 0 0 (inG β N)) (inG β N) D ids β sh 10 0 0 N R (uF F 0 10 (T + 1)) A2 [some (rf 0), some (pI x), some (pI y), some (pI T), some (pI (A 5 x + A 5 y)), some (pI (i : Int)), some (pI ov), some (pI (mlm A x i)), some (pI (k : Int)), e9] [] 85 := by
          intro d2
          induction d2 with
          | zero => intro k ov A2 e9 hd2; omega
          | succ d2 ih2 =>
            intro k ov A2 e9 hd2 hk2 hw2 ov0 ov1 hd3 hr hv
            obtain ⟨y5, y6⟩ := hw2.1.1 y hy.2
            have rdz : A2 4 (240 * T + (i : Int) + (k : Int)) = mlm A1 T ((i : Int) + k) := by rw [← hr _ (Int.le_refl _)]; unfold mlm; rw [Int.add_assoc]
            have rdy : A2 4 (240 * y + (k : Int)) = mlm A y k := hw2.1.2 _ (by omega)
            have dz : (k : Int) < sy → 0 ≤ mlm A1 T ((i : Int) + k) ∧ mlm A1 T ((i : Int) + k) < 32768 := fun q => hdg _ (by omega) (by omega)
            refine x_iload (pc2 := 87) hC rfl dX8_times_85 rfl ?_
            refine x_aload_n (pc2 := 88) hC rfl rfl dX8_times_87 rfl ?_
            refine g_817 (pc2 := 91) hC hK (by assumption) (by assumption) (by assumption) dX8_times_88 rfl ?_
            refine x_iload_n (pc2 := 92) hC rfl rfl dX8_times_91 rfl ?_
            refine x_iald (pc2 := 93) hC hK (by assumption) (by assumption) (by omega) (by decide) dX8_times_92 rfl ?_
            refine x_icmp_ge (tgt := 169) (pc2 := 96) hC (by omega) (by rw [y5]; omega) dX8_times_93 rfl rfl (fun h_93 => ?_) (fun h_93 => ?_)
            · refine x_aload_n (pc2 := 170) hC rfl rfl dX8_times_169 rfl ?_
              refine g_816 (pc2 := 173) hC hK (by assumption) (by assumption) (by assumption) dX8_times_170 rfl ?_
              refine x_sipush (pc2 := 176) hC rfl dX8_times_173 rfl ?_
              refine x_iload_n (pc2 := 177) hC rfl rfl dX8_times_176 rfl ?_
              refine x_imul (pc2 := 178) hC dX8_times_177 rfl ?_
              refine x_iload (pc2 := 180) hC rfl dX8_times_178 rfl ?_
              refine x_iadd (pc2 := 181) hC dX8_times_180 rfl ?_
              refine x_aload_n (pc2 := 182) hC rfl rfl dX8_times_181 rfl ?_
              refine g_817 (pc2 := 185) hC hK (by assumption) (by assumption) (by assumption) dX8_times_182 rfl ?_
              refine x_iload_n (pc2 := 186) hC rfl rfl dX8_times_185 rfl ?_
              refine x_iald (pc2 := 187) hC hK (by assumption) (by assumption) (by omega) (by decide) dX8_times_186 rfl ?_
              refine x_iadd (pc2 := 188) hC dX8_times_187 rfl ?_
              refine x_iload (pc2 := 190) hC rfl dX8_times_188 rfl ?_
              refine x_iast (pc2 := 191) hC hK (by assumption) (by assumption) (by omega) (by decide) dX8_times_190 rfl ?_
              refine x_iinc (pc2 := 194) (loc2 := [_, _, _, _, _, _, _, _, _, _]) hC (by decide) rfl rfl dX8_times_191 rfl ?_
              refine x_goto (pc2 := 53) hC dX8_times_194 rfl ?_
              have hks : k = sy := by omega
              subst hks
              have y5b : A2 5 y = (k : Int) := by omega
              rw [y5b, show 240 * T + (i : Int) + (k : Int) = 240 * T + ((i + k : Nat) : Int) by omega]
              refine ih (i + 1) _ (by omega) (by omega) (hw2.w4 (by omega)) (fun j j0 j1 => ?_) (fun j j0 j1 => ?_) ?_
              · rw [mlm_at]
                split
                · omega
                · exact hd3 j j0 (by omega)
              · rw [mlm_at, if_neg (by omega), hr j (by omega)]; exact hz j (by omega) j1
              · rw [show i + 1 + k = (i + k) + 1 by omega, dvm_uA, Int.pow_add, hv, hval]
                simp only [dv]
                grind
            · have h96 : (k : Int) < sy := by omega
              have dz2 := dz h96
              have dk := dgy k (by omega) h96
              have mr := mul_rng2 dxi dk
              refine x_aload_n (pc2 := 97) hC rfl rfl dX8_times_96 rfl ?_
              refine g_816 (pc2 := 100) hC hK (by assumption) (by assumption) (by assumption) dX8_times_97 rfl ?_
              refine x_sipush (pc2 := 103) hC rfl dX8_times_100 rfl ?_
              refine x_iload_n (pc2 := 104) hC rfl rfl dX8_times_103 rfl ?_
              refine x_imul (pc2 := 105) hC dX8_times_104 rfl ?_
              refine x_iload (pc2 := 107) hC rfl dX8_times_105 rfl ?_
              refine x_iadd (pc2 := 108) hC dX8_times_107 rfl ?_
              refine x_iload (pc2 := 110) hC rfl dX8_times_108 rfl ?_
              refine x_iadd (pc2 := 111) hC dX8_times_110 rfl ?_
              refine x_iald (pc2 := 112) hC hK (by assumption) (by assumption) (by omega) (by decide) dX8_times_111 rfl ?_
              rw [rdz]
              refine x_iload (pc2 := 114) hC rfl dX8_times_112 rfl ?_
              refine x_aload_n (pc2 := 115) hC rfl rfl dX8_times_114 rfl ?_
              refine g_816 (pc2 := 118) hC hK (by assumption) (by assumption) (by assumption) dX8_times_115 rfl ?_
              refine x_sipush (pc2 := 121) hC rfl dX8_times_118 rfl ?_
              refine x_iload_n (pc2 := 122) hC rfl rfl dX8_times_121 rfl ?_
              refine x_imul (pc2 := 123) hC dX8_times_122 rfl ?_
              refine x_iload (pc2 := 125) hC rfl dX8_times_123 rfl ?_
              refine x_iadd (pc2 := 126) hC dX8_times_125 rfl ?_
              refine x_iald (pc2 := 127) hC hK (by assumption) (by assumption) (by omega) (by decide) dX8_times_126 rfl ?_
              rw [rdy]
              refine x_imul (pc2 := 128) hC dX8_times_127 rfl ?_
              refine x_iadd (pc2 := 129) hC dX8_times_128 rfl ?_
              refine x_iload (pc2 := 131) hC rfl dX8_times_129 rfl ?_
              refine x_iadd (pc2 := 132) hC dX8_times_131 rfl ?_
              refine x_istore (pc2 := 134) (loc2 := [_, _, _, _, _, _, _, _, _, _]) hC (by decide) rfl dX8_times_132 rfl ?_
              refine x_aload_n (pc2 := 135) hC rfl rfl dX8_times_134 rfl ?_
              refine g_816 (pc2 := 138) hC hK (by assumption) (by assumption) (by assumption) dX8_times_135 rfl ?_
              refine x_sipush (pc2 := 141) hC rfl dX8_times_138 rfl ?_
              refine x_iload_n (pc2 := 142) hC rfl rfl dX8_times_141 rfl ?_
              refine x_imul (pc2 := 143) hC dX8_times_142 rfl ?_
              refine x_iload (pc2 := 145) hC rfl dX8_times_143 rfl ?_
              refine x_iadd (pc2 := 146) hC dX8_times_145 rfl ?_
              refine x_iload (pc2 := 148) hC rfl dX8_times_146 rfl ?_
              refine x_iadd (pc2 := 149) hC dX8_times_148 rfl ?_
              refine x_iload (pc2 := 151) hC rfl dX8_times_149 rfl ?_
              refine x_sipush (pc2 := 154) hC rfl dX8_times_151 rfl ?_
              refine x_iand (pc2 := 155) hC (by omega) (by omega) dX8_times_154 rfl ?_
              refine x_iast (pc2 := 156) hC hK (by assumption) (by assumption) (by omega) (by decide) dX8_times_155 rfl ?_
              refine x_iload (pc2 := 158) hC rfl dX8_times_156 rfl ?_
              refine x_bipush (pc2 := 160) hC rfl dX8_times_158 rfl ?_
              refine x_ishr (pc2 := 161) hC (by omega) (by omega) dX8_times_160 rfl ?_
              refine x_istore (pc2 := 163) (loc2 := [_, _, _, _, _, _, _, _, _, _]) hC (by decide) rfl dX8_times_161 rfl ?_
              refine x_iinc (pc2 := 166) (loc2 := [_, _, _, _, _, _, _, _, _, _]) hC (by decide) rfl rfl dX8_times_163 rfl ?_
              refine x_goto (pc2 := 85) hC dX8_times_166 rfl ?_
              rw [show 240 * T + (i : Int) + (k : Int) = 240 * T + ((i + k : Nat) : Int) by omega]
              refine ih2 (k + 1) _ _ (by omega) (by omega) (hw2.w4 (by omega)) (by omega) (by omega) (fun j j0 j1 => ?_) (fun j hj => ?_) ?_
              · rw [mlm_at]
                split
                · omega
                · exact hd3 j j0 (by omega)
              · rw [mlm_at, if_neg (by omega)]; exact hr j (by omega)
              · rw [show i + (k + 1) = (i + k) + 1 by omega, dvm_uA, show (32768 : Int) ^ (i + k) = 32768 ^ i * 32768 ^ k from Int.pow_add _ _ _, show (32768 : Int) ^ i * 32768 ^ (k + 1) = 32768 ^ i * 32768 ^ k * 32768 by rw [Int.pow_succ, Int.mul_assoc], tm_step (r := mlm A1 T ((i : Int) + k) + mlm A x i * mlm A y k) hv rfl]
                simp only [dv]
                rw [show ((i + k : Nat) : Int) = (i : Int) + k by omega, Int.pow_add]
                grind
        refine x_iload (pc2 := 55) hC rfl dX8_times_53 rfl ?_
        refine x_aload_n (pc2 := 56) hC rfl rfl dX8_times_55 rfl ?_
        refine g_817 (pc2 := 59) hC hK (by assumption) (by assumption) (by assumption) dX8_times_56 rfl ?_
        refine x_iload_n (pc2 := 60) hC rfl rfl dX8_times_59 rfl ?_
        refine x_iald (pc2 := 61) hC hK (by assumption) (by assumption) (by omega) (by decide) dX8_times_60 rfl ?_
        refine x_icmp_ge (tgt := 197) (pc2 := 64) hC (by omega) (by rw [x5]; omega) dX8_times_61 rfl rfl (fun h_61 => ?_) (fun h_61 => ?_)
        · exfalso; omega
        · refine x_iconst (pc2 := 65) hC dX8_times_64 rfl ?_
          refine x_istore (pc2 := 67) (loc2 := [_, _, _, _, _, _, _, _, _, _]) hC (by decide) rfl dX8_times_65 rfl ?_
          refine x_aload_n (pc2 := 68) hC rfl rfl dX8_times_67 rfl ?_
          refine g_816 (pc2 := 71) hC hK (by assumption) (by assumption) (by assumption) dX8_times_68 rfl ?_
          refine x_sipush (pc2 := 74) hC rfl dX8_times_71 rfl ?_
          refine x_iload_n (pc2 := 75) hC rfl rfl dX8_times_74 rfl ?_
          refine x_imul (pc2 := 76) hC dX8_times_75 rfl ?_
          refine x_iload (pc2 := 78) hC rfl dX8_times_76 rfl ?_
          refine x_iadd (pc2 := 79) hC dX8_times_78 rfl ?_
          refine x_iald (pc2 := 80) hC hK (by assumption) (by assumption) (by omega) (by decide) dX8_times_79 rfl ?_
          rw [rdx]
          refine x_istore (pc2 := 82) (loc2 := [_, _, _, _, _, _, _, _, _, _]) hC (by decide) rfl dX8_times_80 rfl ?_
          refine x_iconst (pc2 := 83) hC dX8_times_82 rfl ?_
          refine x_istore (pc2 := 85) (loc2 := [_, _, _, _, _, _, _, _, _, _]) hC (by decide) rfl dX8_times_83 rfl ?_
          exact inner (sy + 1) 0 0 A1 (by omega) (by omega) hw (by decide) (by decide) (fun j a b => hdg j a (by omega)) (fun j _ => rfl) (by simp [dv])
      · have his : i = sx := by omega
        subst his
        have r6x : uA A1 5 T (A 5 x + A 5 y) 6 x = A 6 x := by rw [uA_ne (by decide)]; exact x6
        have r6y : uA A1 5 T (A 5 x + A 5 y) 6 y = A 6 y := by rw [uA_ne (by decide)]; exact y6
        have e6b : uA (uA A1 5 T (A 5 x + A 5 y)) 6 T (A 6 x * A 6 y) 6 T = A 6 x * A 6 y := uA_eq
        have e5b : uA (uA A1 5 T (A 5 x + A 5 y)) 6 T (A 6 x * A 6 y) 5 T = A 5 x + A 5 y := by rw [uA_ne (by decide), uA_eq]
        have hd5 : dig 32768 (mlm (uA (uA A1 5 T (A 5 x + A 5 y)) 6 T (A 6 x * A 6 y)) T) (uA (uA A1 5 T (A 5 x + A 5 y)) 6 T (A 6 x * A 6 y) 5 T) := by
          rw [e5b, mlm_6, mlm_5]; exact fun j a b => hdg j a (by omega)
        have hs5 : 0 ≤ uA (uA A1 5 T (A 5 x + A 5 y)) 6 T (A 6 x * A 6 y) 5 T ∧ uA (uA A1 5 T (A 5 x + A 5 y)) 6 T (A 6 x * A 6 y) 5 T ≤ 240 := by rw [e5b]; omega
        have h65 : uA (uA A1 5 T (A 5 x + A 5 y)) 6 T (A 6 x * A 6 y) 6 T = 1 ∨ uA (uA A1 5 T (A 5 x + A 5 y)) 6 T (A 6 x * A 6 y) 6 T = -1 := by
          rw [e6b]
          rcases okx.2.2.2 with q | q <;> rcases oky.2.2.2 with r | r <;> rw [q, r] <;> decide
        have hv5 : uA (uA A1 5 T (A 5 x + A 5 y)) 6 T (A 6 x * A 6 y) 6 T * dv 32768 (mlm (uA (uA A1 5 T (A 5 x + A 5 y)) 6 T (A 6 x * A 6 y)) T) (uA (uA A1 5 T (A 5 x + A 5 y)) 6 T (A 6 x * A 6 y) 5 T).toNat = V x * V y := by
          rw [e6b, e5b, mlm_6, mlm_5, show (A 5 x + A 5 y).toNat = i + sy by omega, hval, ← evx, ← evy]
          unfold mv
          rw [eX, eY]
          grind
        refine x_iload (pc2 := 55) hC rfl dX8_times_53 rfl ?_
        refine x_aload_n (pc2 := 56) hC rfl rfl dX8_times_55 rfl ?_
        refine g_817 (pc2 := 59) hC hK (by assumption) (by assumption) (by assumption) dX8_times_56 rfl ?_
        refine x_iload_n (pc2 := 60) hC rfl rfl dX8_times_59 rfl ?_
        refine x_iald (pc2 := 61) hC hK (by assumption) (by assumption) (by omega) (by decide) dX8_times_60 rfl ?_
        refine x_icmp_ge (tgt := 197) (pc2 := 64) hC (by omega) (by rw [x5]; omega) dX8_times_61 rfl rfl (fun h_61 => ?_) (fun h_61 => ?_)
        · refine x_aload_n (pc2 := 198) hC rfl rfl dX8_times_197 rfl ?_
          refine g_817 (pc2 := 201) hC hK (by assumption) (by assumption) (by assumption) dX8_times_198 rfl ?_
          refine x_iload_n (pc2 := 202) hC rfl rfl dX8_times_201 rfl ?_
          refine x_iload (pc2 := 204) hC rfl dX8_times_202 rfl ?_
          refine x_iast (pc2 := 205) hC hK (by assumption) (by assumption) (by omega) (by decide) dX8_times_204 rfl ?_
          refine x_aload_n (pc2 := 206) hC rfl rfl dX8_times_205 rfl ?_
          refine g_818 (pc2 := 209) hC hK (by assumption) (by assumption) (by assumption) dX8_times_206 rfl ?_
          refine x_iload_n (pc2 := 210) hC rfl rfl dX8_times_209 rfl ?_
          refine x_aload_n (pc2 := 211) hC rfl rfl dX8_times_210 rfl ?_
          refine g_818 (pc2 := 214) hC hK (by assumption) (by assumption) (by assumption) dX8_times_211 rfl ?_
          refine x_iload_n (pc2 := 215) hC rfl rfl dX8_times_214 rfl ?_
          refine x_iald (pc2 := 216) hC hK (by assumption) (by assumption) (by omega) (by decide) dX8_times_215 rfl ?_
          rw [r6x]
          refine x_aload_n (pc2 := 217) hC rfl rfl dX8_times_216 rfl ?_
          refine g_818 (pc2 := 220) hC hK (by assumption) (by assumption) (by assumption) dX8_times_217 rfl ?_
          refine x_iload_n (pc2 := 221) hC rfl rfl dX8_times_220 rfl ?_
          refine x_iald (pc2 := 222) hC hK (by assumption) (by assumption) (by omega) (by decide) dX8_times_221 rfl ?_
          rw [r6y]
          refine x_imul (pc2 := 223) hC dX8_times_222 rfl ?_
          refine x_iast (pc2 := 224) hC hK (by assumption) (by assumption) (by omega) (by decide) dX8_times_223 rfl ?_
          refine x_aload_n (pc2 := 225) hC rfl rfl dX8_times_224 rfl ?_
          refine x_iload_n (pc2 := 226) hC rfl rfl dX8_times_225 rfl ?_
          refine x_cVv (pc2 := 229) (ci := 8) hC hK (n_trims l hM ⟨hT0, hT⟩ hs5 hd5) lk_940 rfl rfl (by decide) (by assumption) (by assumption) ⟨Nat.le_of_ble_eq_true rfl, Nat.le_of_ble_eq_true rfl⟩ ⟨Nat.le_refl _, Nat.le_refl _⟩ rfl (Nat.le_of_ble_eq_true rfl) dX8_times_226 rfl ?_
          rintro F226 A226 ⟨rfl, nn, n1, n2, n3, n4⟩
          refine x_iload_n (pc2 := 230) hC rfl rfl dX8_times_229 rfl ?_
          exact x_iret hC hr hlk ⟨_, rfl, Pq.tr hS hT hw.w5.w6 hs5 hd5 h65 hv5 n1 n2 n3 n4⟩ dX8_times_230
        · exfalso; omega
  have zl : ∀ (d k : Nat) (A1 : Nat → Int → Int) {e6 e7 e8 e9 : Option PV}, A 5 x + A 5 y - k < d → (k : Int) ≤ A 5 x + A 5 y → Wr T A A1 → (∀ j : Int, 0 ≤ j → j < k → mlm A1 T j = 0) → X p l e { frames := 1, cells := 0, slots := 0, locals := 21 } s m args below meth c (MQ below (QX D ids β sh N R (pIr (Pq F A T V (V x * V y)))) args s 0 0 (inG β N)) (inG β N) D ids β sh 10 0 0 N R (uF F 0 10 (T + 1)) A1 [some (rf 0), some (pI x), some (pI y), some (pI T), some (pI (A 5 x + A 5 y)), some (pI (k : Int)), e6, e7, e8, e9] [] 23 := by
    intro d
    induction d with
    | zero => intro k A1 e6 e7 e8 e9 hd; omega
    | succ d ih =>
      intro k A1 e6 e7 e8 e9 hd hk hw hz
      refine x_iload (pc2 := 25) hC rfl dX8_times_23 rfl ?_
      refine x_iload (pc2 := 27) hC rfl dX8_times_25 rfl ?_
      refine x_icmp_ge (tgt := 50) (pc2 := 30) hC (by omega) (by omega) dX8_times_27 rfl rfl (fun h_27 => ?_) (fun h_27 => ?_)
      · refine x_iconst (pc2 := 51) hC dX8_times_50 rfl ?_
        refine x_istore (pc2 := 53) (loc2 := [_, _, _, _, _, _, _, _, _, _]) hC (by decide) rfl dX8_times_51 rfl ?_
        refine loop (sx + 1) 0 A1 (by omega) (by omega) hw (fun j j0 j1 => by rw [hz j j0 (by omega)]; decide) (fun j j0 j1 => hz j (by omega) (by omega)) ?_
        rw [dv_zero (fun j j0 j1 => hz j j0 (by omega))]
        simp [dv]
      · refine x_aload_n (pc2 := 31) hC rfl rfl dX8_times_30 rfl ?_
        refine g_816 (pc2 := 34) hC hK (by assumption) (by assumption) (by assumption) dX8_times_31 rfl ?_
        refine x_sipush (pc2 := 37) hC rfl dX8_times_34 rfl ?_
        refine x_iload_n (pc2 := 38) hC rfl rfl dX8_times_37 rfl ?_
        refine x_imul (pc2 := 39) hC dX8_times_38 rfl ?_
        refine x_iload (pc2 := 41) hC rfl dX8_times_39 rfl ?_
        refine x_iadd (pc2 := 42) hC dX8_times_41 rfl ?_
        refine x_iconst (pc2 := 43) hC dX8_times_42 rfl ?_
        refine x_iast (pc2 := 44) hC hK (by assumption) (by assumption) (by omega) (by decide) dX8_times_43 rfl ?_
        refine x_iinc (pc2 := 47) (loc2 := [_, _, _, _, _, _, _, _, _, _]) hC (by decide) rfl rfl dX8_times_44 rfl ?_
        refine x_goto (pc2 := 23) hC dX8_times_47 rfl ?_
        refine ih (k + 1) _ (by omega) (by omega) (hw.w4 (by omega)) (fun j j0 j1 => ?_)
        rw [mlm_at]
        split
        · rfl
        · exact hz j j0 (by omega)
  refine x_aload_n (pc2 := 1) hC rfl rfl dX8_times_0 rfl ?_
  refine x_cVi (pc2 := 4) (ci := 8) hC hK (n_fresh l hM hS.1 ⟨hT0, hT⟩) lk_906 rfl rfl (by decide) (by assumption) (by assumption) ⟨Nat.le_of_ble_eq_true rfl, Nat.le_of_ble_eq_true rfl⟩ ⟨Nat.le_refl _, Nat.le_refl _⟩ rfl (Nat.le_of_ble_eq_true rfl) dX8_times_1 rfl ?_
  rintro z1 F1 A1 ⟨e11, e21, e31⟩
  obtain rfl := e11.symm
  obtain rfl := e21.symm
  obtain ⟨A4, eA4⟩ : ∃ B, B = uA (uA A 5 T 0) 6 T 1 := ⟨_, rfl⟩
  have hw4 : Wr T A A4 := by rw [eA4]; exact Wr.fr
  rw [e31, ← eA4]
  clear eA4 e31
  obtain ⟨x5, x6⟩ := hw4.1.1 x hx.2
  obtain ⟨y5, y6⟩ := hw4.1.1 y hy.2
  refine x_istore_n (pc2 := 5) (loc2 := [_, _, _, _, _, _, _, _, _, _]) hC rfl (by decide) rfl dX8_times_4 rfl ?_
  refine x_aload_n (pc2 := 6) hC rfl rfl dX8_times_5 rfl ?_
  refine g_817 (pc2 := 9) hC hK (by assumption) (by assumption) (by assumption) dX8_times_6 rfl ?_
  refine x_iload_n (pc2 := 10) hC rfl rfl dX8_times_9 rfl ?_
  refine x_iald (pc2 := 11) hC hK (by assumption) (by assumption) (by omega) (by decide) dX8_times_10 rfl ?_
  refine x_aload_n (pc2 := 12) hC rfl rfl dX8_times_11 rfl ?_
  refine g_817 (pc2 := 15) hC hK (by assumption) (by assumption) (by assumption) dX8_times_12 rfl ?_
  refine x_iload_n (pc2 := 16) hC rfl rfl dX8_times_15 rfl ?_
  refine x_iald (pc2 := 17) hC hK (by assumption) (by assumption) (by omega) (by decide) dX8_times_16 rfl ?_
  rw [x5, y5]
  refine x_iadd (pc2 := 18) hC dX8_times_17 rfl ?_
  refine x_istore (pc2 := 20) (loc2 := [_, _, _, _, _, _, _, _, _, _]) hC (by decide) rfl dX8_times_18 rfl ?_
  refine x_iconst (pc2 := 21) hC dX8_times_20 rfl ?_
  refine x_istore (pc2 := 23) (loc2 := [_, _, _, _, _, _, _, _, _, _]) hC (by decide) rfl dX8_times_21 rfl ?_
  exact zl 1000 0 A4 (by omega) (by omega) hw4 (fun j a b => by omega)
