theorem rsum1_comm (x y : QR) : rsum 1 x y = rsum 1 y x := by
  obtain ⟨⟨x1, x2⟩, x3, x4⟩ := x
  obtain ⟨⟨y1, y2⟩, y3, y4⟩ := y
  refine Prod.ext (Prod.ext ?_ ?_) (Prod.ext ?_ ?_)
  · show (x1 * y3 - x2 * y4) + 1 * (y1 * x3 - y2 * x4) = (y1 * x3 - y2 * x4) + 1 * (x1 * y3 - x2 * y4); grind
  · show (x2 * y3 + x1 * y4) + 1 * (y2 * x3 + y1 * x4) = (y2 * x3 + y1 * x4) + 1 * (x2 * y3 + x1 * y4); grind
  · show x3 * y3 - x4 * y4 = y3 * x3 - y4 * x4; grind
  · show x4 * y3 + x3 * y4 = y4 * x3 + y3 * x4; grind
theorem rmul_comm (x y : QR) : rmul x y = rmul y x := Prod.ext (cmul_comm _ _) (cmul_comm _ _)
theorem dX8_takeOff_0 : decode cX8_takeOff 0 = .ok (.aload_n 0, 1) := by decide +kernel
theorem dX8_takeOff_1 : decode cX8_takeOff 1 = .ok (.iload_n 1, 1) := by decide +kernel
theorem dX8_takeOff_2 : decode cX8_takeOff 2 = .ok (.iconst 2, 1) := by decide +kernel
theorem dX8_takeOff_3 : decode cX8_takeOff 3 = .ok (.invokevirtual 193, 3) := by decide +kernel
theorem dX8_takeOff_6 : decode cX8_takeOff 6 = .ok (.ifCond .eq 32, 3) := by decide +kernel
theorem dX8_takeOff_9 : decode cX8_takeOff 9 = .ok (.aload_n 0, 1) := by decide +kernel
theorem dX8_takeOff_10 : decode cX8_takeOff 10 = .ok (.iload_n 2, 1) := by decide +kernel
theorem dX8_takeOff_11 : decode cX8_takeOff 11 = .ok (.iconst 2, 1) := by decide +kernel
theorem dX8_takeOff_12 : decode cX8_takeOff 12 = .ok (.invokevirtual 193, 3) := by decide +kernel
theorem dX8_takeOff_15 : decode cX8_takeOff 15 = .ok (.ifCond .eq 23, 3) := by decide +kernel
theorem dX8_takeOff_18 : decode cX8_takeOff 18 = .ok (.aload_n 0, 1) := by decide +kernel
theorem dX8_takeOff_19 : decode cX8_takeOff 19 = .ok (.iload_n 3, 1) := by decide +kernel
theorem dX8_takeOff_20 : decode cX8_takeOff 20 = .ok (.iconst 2, 1) := by decide +kernel
theorem dX8_takeOff_21 : decode cX8_takeOff 21 = .ok (.invokevirtual 193, 3) := by decide +kernel
theorem dX8_takeOff_24 : decode cX8_takeOff 24 = .ok (.ifCond .eq 14, 3) := by decide +kernel
theorem dX8_takeOff_27 : decode cX8_takeOff 27 = .ok (.iload 4, 2) := by decide +kernel
theorem dX8_takeOff_29 : decode cX8_takeOff 29 = .ok (.i2l, 1) := by decide +kernel
theorem dX8_takeOff_30 : decode cX8_takeOff 30 = .ok (.lconst 0, 1) := by decide +kernel
theorem dX8_takeOff_31 : decode cX8_takeOff 31 = .ok (.lconst 1, 1) := by decide +kernel
theorem dX8_takeOff_32 : decode cX8_takeOff 32 = .ok (.invokestatic 157, 3) := by decide +kernel
theorem dX8_takeOff_35 : decode cX8_takeOff 35 = .ok (.ifCond .ne 5, 3) := by decide +kernel
theorem dX8_takeOff_38 : decode cX8_takeOff 38 = .ok (.iconst (-1), 1) := by decide +kernel
theorem dX8_takeOff_39 : decode cX8_takeOff 39 = .ok (.ireturn, 1) := by decide +kernel
theorem dX8_takeOff_40 : decode cX8_takeOff 40 = .ok (.iconst 0, 1) := by decide +kernel
theorem dX8_takeOff_41 : decode cX8_takeOff 41 = .ok (.istore 5, 2) := by decide +kernel
theorem dX8_takeOff_43 : decode cX8_takeOff 43 = .ok (.iload 5, 2) := by decide +kernel
theorem dX8_takeOff_45 : decode cX8_takeOff 45 = .ok (.iconst 4, 1) := by decide +kernel
theorem dX8_takeOff_46 : decode cX8_takeOff 46 = .ok (.if_icmp .ge 95, 3) := by decide +kernel
theorem dX8_takeOff_49 : decode cX8_takeOff 49 = .ok (.aload_n 0, 1) := by decide +kernel
theorem dX8_takeOff_50 : decode cX8_takeOff 50 = .ok (.iconst 0, 1) := by decide +kernel
theorem dX8_takeOff_51 : decode cX8_takeOff 51 = .ok (.putfield 52, 3) := by decide +kernel
theorem dX8_takeOff_54 : decode cX8_takeOff 54 = .ok (.aload_n 0, 1) := by decide +kernel
theorem dX8_takeOff_55 : decode cX8_takeOff 55 = .ok (.aload_n 0, 1) := by decide +kernel
theorem dX8_takeOff_56 : decode cX8_takeOff 56 = .ok (.iload_n 3, 1) := by decide +kernel
theorem dX8_takeOff_57 : decode cX8_takeOff 57 = .ok (.iload 5, 2) := by decide +kernel
theorem dX8_takeOff_59 : decode cX8_takeOff 59 = .ok (.iload 4, 2) := by decide +kernel
theorem dX8_takeOff_61 : decode cX8_takeOff 61 = .ok (.iconst 1, 1) := by decide +kernel
theorem dX8_takeOff_62 : decode cX8_takeOff 62 = .ok (.iload 4, 2) := by decide +kernel
theorem dX8_takeOff_64 : decode cX8_takeOff 64 = .ok (.isub, 1) := by decide +kernel
theorem dX8_takeOff_65 : decode cX8_takeOff 65 = .ok (.invokevirtual 200, 3) := by decide +kernel
theorem dX8_takeOff_68 : decode cX8_takeOff 68 = .ok (.invokevirtual 206, 3) := by decide +kernel
theorem dX8_takeOff_71 : decode cX8_takeOff 71 = .ok (.ifCond .eq 11, 3) := by decide +kernel
theorem dX8_takeOff_74 : decode cX8_takeOff 74 = .ok (.aload_n 0, 1) := by decide +kernel
theorem dX8_takeOff_75 : decode cX8_takeOff 75 = .ok (.iload 5, 2) := by decide +kernel
theorem dX8_takeOff_77 : decode cX8_takeOff 77 = .ok (.iconst 1, 1) := by decide +kernel
theorem dX8_takeOff_78 : decode cX8_takeOff 78 = .ok (.invokevirtual 209, 3) := by decide +kernel
theorem dX8_takeOff_81 : decode cX8_takeOff 81 = .ok (.ireturn, 1) := by decide +kernel
theorem dX8_takeOff_82 : decode cX8_takeOff 82 = .ok (.aload_n 0, 1) := by decide +kernel
theorem dX8_takeOff_83 : decode cX8_takeOff 83 = .ok (.aload_n 0, 1) := by decide +kernel
theorem dX8_takeOff_84 : decode cX8_takeOff 84 = .ok (.iload_n 3, 1) := by decide +kernel
theorem dX8_takeOff_85 : decode cX8_takeOff 85 = .ok (.iload 5, 2) := by decide +kernel
theorem dX8_takeOff_87 : decode cX8_takeOff 87 = .ok (.iconst 1, 1) := by decide +kernel
theorem dX8_takeOff_88 : decode cX8_takeOff 88 = .ok (.iload 4, 2) := by decide +kernel
theorem dX8_takeOff_90 : decode cX8_takeOff 90 = .ok (.isub, 1) := by decide +kernel
theorem dX8_takeOff_91 : decode cX8_takeOff 91 = .ok (.iload 4, 2) := by decide +kernel
theorem dX8_takeOff_93 : decode cX8_takeOff 93 = .ok (.invokevirtual 200, 3) := by decide +kernel
theorem dX8_takeOff_96 : decode cX8_takeOff 96 = .ok (.invokevirtual 206, 3) := by decide +kernel
theorem dX8_takeOff_99 : decode cX8_takeOff 99 = .ok (.ifCond .eq 11, 3) := by decide +kernel
theorem dX8_takeOff_102 : decode cX8_takeOff 102 = .ok (.aload_n 0, 1) := by decide +kernel
theorem dX8_takeOff_103 : decode cX8_takeOff 103 = .ok (.iload 5, 2) := by decide +kernel
theorem dX8_takeOff_105 : decode cX8_takeOff 105 = .ok (.iconst 2, 1) := by decide +kernel
theorem dX8_takeOff_106 : decode cX8_takeOff 106 = .ok (.invokevirtual 209, 3) := by decide +kernel
theorem dX8_takeOff_109 : decode cX8_takeOff 109 = .ok (.ireturn, 1) := by decide +kernel
theorem dX8_takeOff_110 : decode cX8_takeOff 110 = .ok (.aload_n 0, 1) := by decide +kernel
theorem dX8_takeOff_111 : decode cX8_takeOff 111 = .ok (.aload_n 0, 1) := by decide +kernel
theorem dX8_takeOff_112 : decode cX8_takeOff 112 = .ok (.iload_n 2, 1) := by decide +kernel
theorem dX8_takeOff_113 : decode cX8_takeOff 113 = .ok (.iload_n 3, 1) := by decide +kernel
theorem dX8_takeOff_114 : decode cX8_takeOff 114 = .ok (.iload 5, 2) := by decide +kernel
theorem dX8_takeOff_116 : decode cX8_takeOff 116 = .ok (.iload 4, 2) := by decide +kernel
theorem dX8_takeOff_118 : decode cX8_takeOff 118 = .ok (.invokevirtual 222, 3) := by decide +kernel
theorem dX8_takeOff_121 : decode cX8_takeOff 121 = .ok (.invokevirtual 206, 3) := by decide +kernel
theorem dX8_takeOff_124 : decode cX8_takeOff 124 = .ok (.ifCond .eq 11, 3) := by decide +kernel
theorem dX8_takeOff_127 : decode cX8_takeOff 127 = .ok (.aload_n 0, 1) := by decide +kernel
theorem dX8_takeOff_128 : decode cX8_takeOff 128 = .ok (.iload 5, 2) := by decide +kernel
theorem dX8_takeOff_130 : decode cX8_takeOff 130 = .ok (.iconst 3, 1) := by decide +kernel
theorem dX8_takeOff_131 : decode cX8_takeOff 131 = .ok (.invokevirtual 209, 3) := by decide +kernel
theorem dX8_takeOff_134 : decode cX8_takeOff 134 = .ok (.ireturn, 1) := by decide +kernel
theorem dX8_takeOff_135 : decode cX8_takeOff 135 = .ok (.iinc 5 1, 3) := by decide +kernel
theorem dX8_takeOff_138 : decode cX8_takeOff 138 = .ok (.goto (-95), 3) := by decide +kernel
theorem dX8_takeOff_141 : decode cX8_takeOff 141 = .ok (.aload_n 0, 1) := by decide +kernel
theorem dX8_takeOff_142 : decode cX8_takeOff 142 = .ok (.invokevirtual 212, 3) := by decide +kernel
theorem dX8_takeOff_145 : decode cX8_takeOff 145 = .ok (.iconst 0, 1) := by decide +kernel
theorem dX8_takeOff_146 : decode cX8_takeOff 146 = .ok (.istore 5, 2) := by decide +kernel
theorem dX8_takeOff_148 : decode cX8_takeOff 148 = .ok (.iload 5, 2) := by decide +kernel
theorem dX8_takeOff_150 : decode cX8_takeOff 150 = .ok (.iconst 4, 1) := by decide +kernel
theorem dX8_takeOff_151 : decode cX8_takeOff 151 = .ok (.if_icmp .ge 101, 3) := by decide +kernel
theorem dX8_takeOff_154 : decode cX8_takeOff 154 = .ok (.iconst 0, 1) := by decide +kernel
theorem dX8_takeOff_155 : decode cX8_takeOff 155 = .ok (.istore 6, 2) := by decide +kernel
theorem dX8_takeOff_157 : decode cX8_takeOff 157 = .ok (.iload 6, 2) := by decide +kernel
theorem dX8_takeOff_159 : decode cX8_takeOff 159 = .ok (.iconst 4, 1) := by decide +kernel
theorem dX8_takeOff_160 : decode cX8_takeOff 160 = .ok (.if_icmp .ge 86, 3) := by decide +kernel
theorem dX8_takeOff_163 : decode cX8_takeOff 163 = .ok (.aload_n 0, 1) := by decide +kernel
theorem dX8_takeOff_164 : decode cX8_takeOff 164 = .ok (.iconst 0, 1) := by decide +kernel
theorem dX8_takeOff_165 : decode cX8_takeOff 165 = .ok (.putfield 52, 3) := by decide +kernel
theorem dX8_takeOff_168 : decode cX8_takeOff 168 = .ok (.iload 6, 2) := by decide +kernel
theorem dX8_takeOff_170 : decode cX8_takeOff 170 = .ok (.iconst 2, 1) := by decide +kernel
theorem dX8_takeOff_171 : decode cX8_takeOff 171 = .ok (.idiv, 1) := by decide +kernel
theorem dX8_takeOff_172 : decode cX8_takeOff 172 = .ok (.istore 7, 2) := by decide +kernel
theorem dX8_takeOff_174 : decode cX8_takeOff 174 = .ok (.iload 6, 2) := by decide +kernel
theorem dX8_takeOff_176 : decode cX8_takeOff 176 = .ok (.iconst 2, 1) := by decide +kernel
theorem dX8_takeOff_177 : decode cX8_takeOff 177 = .ok (.irem, 1) := by decide +kernel
theorem dX8_takeOff_178 : decode cX8_takeOff 178 = .ok (.istore 8, 2) := by decide +kernel
theorem dX8_takeOff_180 : decode cX8_takeOff 180 = .ok (.aload_n 0, 1) := by decide +kernel
theorem dX8_takeOff_181 : decode cX8_takeOff 181 = .ok (.iload_n 2, 1) := by decide +kernel
theorem dX8_takeOff_182 : decode cX8_takeOff 182 = .ok (.iload_n 3, 1) := by decide +kernel
theorem dX8_takeOff_183 : decode cX8_takeOff 183 = .ok (.iload 5, 2) := by decide +kernel
theorem dX8_takeOff_185 : decode cX8_takeOff 185 = .ok (.iload 4, 2) := by decide +kernel
theorem dX8_takeOff_187 : decode cX8_takeOff 187 = .ok (.invokevirtual 222, 3) := by decide +kernel
theorem dX8_takeOff_190 : decode cX8_takeOff 190 = .ok (.istore 9, 2) := by decide +kernel
theorem dX8_takeOff_192 : decode cX8_takeOff 192 = .ok (.aload_n 0, 1) := by decide +kernel
theorem dX8_takeOff_193 : decode cX8_takeOff 193 = .ok (.iload 5, 2) := by decide +kernel
theorem dX8_takeOff_195 : decode cX8_takeOff 195 = .ok (.iload 4, 2) := by decide +kernel
theorem dX8_takeOff_197 : decode cX8_takeOff 197 = .ok (.ifCond .ne 8, 3) := by decide +kernel
theorem dX8_takeOff_200 : decode cX8_takeOff 200 = .ok (.iload 7, 2) := by decide +kernel
theorem dX8_takeOff_202 : decode cX8_takeOff 202 = .ok (.goto 7, 3) := by decide +kernel
theorem dX8_takeOff_205 : decode cX8_takeOff 205 = .ok (.iconst 1, 1) := by decide +kernel
theorem dX8_takeOff_206 : decode cX8_takeOff 206 = .ok (.iload 7, 2) := by decide +kernel
theorem dX8_takeOff_208 : decode cX8_takeOff 208 = .ok (.isub, 1) := by decide +kernel
theorem dX8_takeOff_209 : decode cX8_takeOff 209 = .ok (.iload 4, 2) := by decide +kernel
theorem dX8_takeOff_211 : decode cX8_takeOff 211 = .ok (.ifCond .ne 8, 3) := by decide +kernel
theorem dX8_takeOff_214 : decode cX8_takeOff 214 = .ok (.iload 8, 2) := by decide +kernel
theorem dX8_takeOff_216 : decode cX8_takeOff 216 = .ok (.goto 7, 3) := by decide +kernel
theorem dX8_takeOff_219 : decode cX8_takeOff 219 = .ok (.iconst 1, 1) := by decide +kernel
theorem dX8_takeOff_220 : decode cX8_takeOff 220 = .ok (.iload 8, 2) := by decide +kernel
theorem dX8_takeOff_222 : decode cX8_takeOff 222 = .ok (.isub, 1) := by decide +kernel
theorem dX8_takeOff_223 : decode cX8_takeOff 223 = .ok (.aload_n 0, 1) := by decide +kernel
theorem dX8_takeOff_224 : decode cX8_takeOff 224 = .ok (.iload_n 2, 1) := by decide +kernel
theorem dX8_takeOff_225 : decode cX8_takeOff 225 = .ok (.iload_n 3, 1) := by decide +kernel
theorem dX8_takeOff_226 : decode cX8_takeOff 226 = .ok (.iload 5, 2) := by decide +kernel
theorem dX8_takeOff_228 : decode cX8_takeOff 228 = .ok (.iload 4, 2) := by decide +kernel
theorem dX8_takeOff_230 : decode cX8_takeOff 230 = .ok (.iload 6, 2) := by decide +kernel
theorem dX8_takeOff_232 : decode cX8_takeOff 232 = .ok (.iload 9, 2) := by decide +kernel
theorem dX8_takeOff_234 : decode cX8_takeOff 234 = .ok (.invokevirtual 225, 3) := by decide +kernel
theorem dX8_takeOff_237 : decode cX8_takeOff 237 = .ok (.invokevirtual 173, 3) := by decide +kernel
theorem dX8_takeOff_240 : decode cX8_takeOff 240 = .ok (.iinc 6 1, 3) := by decide +kernel
theorem dX8_takeOff_243 : decode cX8_takeOff 243 = .ok (.goto (-86), 3) := by decide +kernel
theorem dX8_takeOff_246 : decode cX8_takeOff 246 = .ok (.iinc 5 1, 3) := by decide +kernel
theorem dX8_takeOff_249 : decode cX8_takeOff 249 = .ok (.goto (-101), 3) := by decide +kernel
theorem dX8_takeOff_252 : decode cX8_takeOff 252 = .ok (.aload_n 0, 1) := by decide +kernel
theorem dX8_takeOff_253 : decode cX8_takeOff 253 = .ok (.iload_n 1, 1) := by decide +kernel
theorem dX8_takeOff_254 : decode cX8_takeOff 254 = .ok (.invokevirtual 177, 3) := by decide +kernel
theorem dX8_takeOff_257 : decode cX8_takeOff 257 = .ok (.ireturn, 1) := by decide +kernel
set_option maxHeartbeats 32000000 in
theorem q_takeOff (l : Launch) {D : va_G} {ids : Nat → ClassId} {β : Nat} {sh : Nat → Nat × Nat} {N : Nat} {R : Nat → Nat → Option Nat} {F : Nat → Nat → Int} {A : Nat → Int → Int} {S : SP} (hM : MoL sh R N) (hR0 : RepM S F A) {c0 a b s0 : Int} (hc : I32 c0) (ha0 : I32 a) (hb0 : I32 b) (hs0 : I32 s0) : MetX l yX8_takeOff cX8_takeOff 10 (some (.int)) 6 145 D ids β sh N R F A [rf 0, pI c0, pI a, pI b, pI s0] (pIr (fun z F2 A2 => ∃ S2, rTake S c0 a b s0 z S2 ∧ RepM S2 F2 A2)) := by
  refine MetX.of (loc := [_, _, _, _, _, _, _, _, _, _]) (plainFor_of_name (by decide +kernel)) (Nat.le_of_ble_eq_true rfl) rfl ?_
  intro p e s m args below meth c hC hK hr hlk
  obtain ⟨⟨m0, m1⟩, ⟨rx0, r2, r3, r7, r8, r9, r11, r12, r13, r16, r18⟩, ⟨m2, m3⟩, ⟨m4, m5⟩, ⟨m6, m7⟩, ⟨m8, m9⟩, ⟨m10, m11⟩, ⟨m12, m13⟩, ⟨m14, m15⟩, ⟨m16, m17⟩, ⟨m18, m19⟩, ⟨m20, m21⟩, ⟨m22, m23⟩⟩ := id hM
  obtain ⟨hi, b1, b2, b3, b4, b5, b6, b7, b8⟩ := id hR0
  have i1 := hi.1
  have n16 := hi.1.2
  have body00 : ∀ (t : Int) (F1 : Nat → Nat → Int) (A1 : Nat → Int → Int) {e7 e8 e9 : Option PV}, isT t → isB S c0 → isB S a → isB S b → RepM S F1 A1 → (F1 0 17 = 0 ∨ F1 0 17 = 1) → (takeF (nmT S b t 0) (nmT S a t 0)).1 ≠ (0, 0) → MkD (fun t e => takeX (nmT S b t 0) (nmT S a t 0) (if (0 : Int) = 0 then e else 3 - e)) (A1 10) (F1 0 17) (fun t0 e0 => t0 < t ∨ (t0 = t ∧ e0 < 0)) → (∀ (F2 : Nat → Nat → Int) (A2 : Nat → Int → Int) (f7 f8 f9 : Option PV), RepM S F2 A2 → MkD (fun t e => takeX (nmT S b t 0) (nmT S a t 0) (if (0 : Int) = 0 then e else 3 - e)) (A2 10) (F2 0 17) (fun t0 e0 => t0 < t ∨ (t0 = t ∧ e0 < 1)) → X p l e { frames := 6, cells := 0, slots := 0, locals := 145 } s m args below meth c (MQ below (QX D ids β sh N R (pIr (fun z F2 A2 => ∃ S2, rTake S c0 a b 0 z S2 ∧ RepM S2 F2 A2))) args s 0 0 (inG β N)) (inG β N) D ids β sh 10 0 0 N R F2 A2 [some (rf 0), some (pI c0), some (pI a), some (pI b), some (pI 0), some (pI t), some (pI 1), f7, f8, f9] [] 157) → X p l e { frames := 6, cells := 0, slots := 0, locals := 145 } s m args below meth c (MQ below (QX D ids β sh N R (pIr (fun z F2 A2 => ∃ S2, rTake S c0 a b 0 z S2 ∧ RepM S2 F2 A2))) args s 0 0 (inG β N)) (inG β N) D ids β sh 10 0 0 N R F1 A1 [some (rf 0), some (pI c0), some (pI a), some (pI b), some (pI 0), some (pI t), some (pI 0), e7, e8, e9] [] 163 := by
    intro t F1 A1 e7 e8 e9 ht hc2 ha hb hR1 h17 hdn hmk next
    have hb6 := hR1.2.2.2.2.2.2.1
    have a16 := ha.2
    have b16 := hb.2
    have a00 := ha.1
    have b00 := hb.1
    refine x_aload_n (pc2 := 164) hC rfl rfl dX8_takeOff_163 rfl ?_
    refine x_iconst (pc2 := 165) hC dX8_takeOff_164 rfl ?_
    refine p_819 (pc2 := 168) hC hK (by assumption) (by assumption) dX8_takeOff_165 rfl ?_
    refine x_iload (pc2 := 170) hC rfl dX8_takeOff_168 rfl ?_
    refine x_iconst (pc2 := 171) hC dX8_takeOff_170 rfl ?_
    refine x_idivp (pc2 := 172) hC (by omega) (by omega) (by omega) (by omega) dX8_takeOff_171 rfl ?_
    refine x_istore (pc2 := 174) (loc2 := [_, _, _, _, _, _, _, _, _, _]) hC (by decide) rfl dX8_takeOff_172 rfl ?_
    refine x_iload (pc2 := 176) hC rfl dX8_takeOff_174 rfl ?_
    refine x_iconst (pc2 := 177) hC dX8_takeOff_176 rfl ?_
    refine x_iremp (pc2 := 178) hC (by omega) (by omega) (by omega) (by omega) dX8_takeOff_177 rfl ?_
    refine x_istore (pc2 := 180) (loc2 := [_, _, _, _, _, _, _, _, _, _]) hC (by decide) rfl dX8_takeOff_178 rfl ?_
    refine x_aload_n (pc2 := 181) hC rfl rfl dX8_takeOff_180 rfl ?_
    refine x_iload_n (pc2 := 182) hC rfl rfl dX8_takeOff_181 rfl ?_
    refine x_iload_n (pc2 := 183) hC rfl rfl dX8_takeOff_182 rfl ?_
    refine x_iload (pc2 := 185) hC rfl dX8_takeOff_183 rfl ?_
    refine x_iload (pc2 := 187) hC rfl dX8_takeOff_185 rfl ?_
    refine x_cVi (pc2 := 190) (ci := 8) hC hK (t_left0_0 l hM (hR1.K (FrK.f (by decide))) (St.zero (F := F1) (A := A1)) ha hb ht) lk_1060 rfl rfl (by decide) (by assumption) (by assumption) ⟨Nat.le_of_ble_eq_true rfl, Nat.le_of_ble_eq_true rfl⟩ ⟨Nat.le_refl _, Nat.le_refl _⟩ rfl (Nat.le_of_ble_eq_true rfl) dX8_takeOff_187 rfl ?_
    rintro z187 F187 A187 ⟨ez187, V187, hS187, v187, k187, g187⟩
    obtain rfl := ez187.symm
    replace hS187 : St 137 V187 F187 A187 := hS187
    rw [show (0 : Int) + 134 = 134 from rfl]
    obtain ⟨wb00_187, ewb00_187⟩ : ∃ w : T3, w = tadd (tmul (vS S b t 3) (tadd (vS S a t 0) (tneg (vS S b t 0)))) (tmul (vS S b t 1) (vS S b t 2)) := ⟨_, rfl⟩
    have uwb00_187 : tr V187 134 = wb00_187 := by rw [ewb00_187]; exact v187
    have bwb00_187 : bdt 128 125 wb00_187 := by rw [ewb00_187]; exact (bdt_add (a := 77) (c := 75) (b := 51) (d := 50) (bdt_mul (a := 25) (c := 25) (b := 51) (d := 50) (ok_bdt ((hi.2.1 b hb).2 t 3 ht ⟨by decide, by decide⟩).1) (bdt_add (ok_bdt ((hi.2.1 a ha).2 t 0 ht ⟨by decide, by decide⟩).1) (bdt_neg (ok_bdt ((hi.2.1 b hb).2 t 0 ht ⟨by decide, by decide⟩).1)) (by decide) (by decide) (by decide)) (by decide) (by decide)) (bdt_mul (ok_bdt ((hi.2.1 b hb).2 t 1 ht ⟨by decide, by decide⟩).1) (ok_bdt ((hi.2.1 b hb).2 t 2 ht ⟨by decide, by decide⟩).1) (by decide) (by decide)) (by decide) (by decide) (by decide))
    clear v187
    have hRe : RepM S F187 A187 := hR1.K ((FrK.f (by decide)).tr g187.K)
    refine x_istore (pc2 := 192) (loc2 := [_, _, _, _, _, _, _, _, _, _]) hC (by decide) rfl dX8_takeOff_190 rfl ?_
    refine x_aload_n (pc2 := 193) hC rfl rfl dX8_takeOff_192 rfl ?_
    refine x_iload (pc2 := 195) hC rfl dX8_takeOff_193 rfl ?_
    refine x_iload (pc2 := 197) hC rfl dX8_takeOff_195 rfl ?_
    refine x_if_ne (tgt := 205) (pc2 := 200) hC (by omega) dX8_takeOff_197 rfl rfl (fun h_197 => ?_) (fun h_197 => ?_)
    · exact absurd h_197 (by decide)
    · refine x_iload (pc2 := 202) hC rfl dX8_takeOff_200 rfl ?_
      refine x_goto (pc2 := 209) hC dX8_takeOff_202 rfl ?_
      refine x_iload (pc2 := 211) hC rfl dX8_takeOff_209 rfl ?_
      refine x_if_ne (tgt := 219) (pc2 := 214) hC (by omega) dX8_takeOff_211 rfl rfl (fun h_211 => ?_) (fun h_211 => ?_)
      · exact absurd h_211 (by decide)
      · refine x_iload (pc2 := 216) hC rfl dX8_takeOff_214 rfl ?_
        refine x_goto (pc2 := 223) hC dX8_takeOff_216 rfl ?_
        refine x_aload_n (pc2 := 224) hC rfl rfl dX8_takeOff_223 rfl ?_
        refine x_iload_n (pc2 := 225) hC rfl rfl dX8_takeOff_224 rfl ?_
        refine x_iload_n (pc2 := 226) hC rfl rfl dX8_takeOff_225 rfl ?_
        refine x_iload (pc2 := 228) hC rfl dX8_takeOff_226 rfl ?_
        refine x_iload (pc2 := 230) hC rfl dX8_takeOff_228 rfl ?_
        refine x_iload (pc2 := 232) hC rfl dX8_takeOff_230 rfl ?_
        refine x_iload (pc2 := 234) hC rfl dX8_takeOff_232 rfl ?_
        refine x_cVi (pc2 := 237) (ci := 8) hC hK (t_wo0_0 l hM hRe (by exact hS187) ha hb ht uwb00_187 bwb00_187) lk_1064 rfl rfl (by decide) (by assumption) (by assumption) ⟨Nat.le_of_ble_eq_true rfl, Nat.le_of_ble_eq_true rfl⟩ ⟨Nat.le_refl _, Nat.le_refl _⟩ rfl (Nat.le_of_ble_eq_true rfl) dX8_takeOff_234 rfl ?_
        rintro z234 F234 A234 ⟨ez234, V234, hS234, v234, k234, g234⟩
        obtain rfl := ez234.symm
        replace hS234 : St 212 V234 F234 A234 := hS234
        replace v234 : tr V234 209 = tquo (tadd (vS S a t 0) (tneg (vS S b t 0))) wb00_187 := v234
        rw [show (137 : Int) + 72 = 209 from rfl]
        have qe2 : q3 wb00_187 = takeF (nmT S b t 0) (nmT S a t 0) := by rw [ewb00_187, q_add, q_mul, q_mul, q_sub, rsum1_comm]; rfl
        have hz : ¬ (wb00_187.1 = 0 ∧ wb00_187.2.1 = 0) := fun y => hdn ((z3_iff qe2).mp y)
        have hnz : (q3 wb00_187).1 ≠ (0, 0) := fun y => hz ⟨congrArg Prod.fst y, congrArg Prod.snd y⟩
        have hrp : 0 < (tquo (tadd (vS S a t 0) (tneg (vS S b t 0))) wb00_187).2.2 := r_quo (r_add (rr hi ha ht ⟨by decide, by decide⟩) (show 0 < (tneg _).2.2 from (rr hi hb ht ⟨by decide, by decide⟩))) hz
        have gg := g187.tr g234
        have e17 : F234 0 17 = F1 0 17 := (gg.2.1 17 (by decide) (by decide) (by decide)).trans (by rw [uF_nj (by decide)])
        have e10 : A234 10 = A1 10 := gg.a (by decide)
        have hx : (fun t e => takeX (nmT S b t 0) (nmT S a t 0) (if (0 : Int) = 0 then e else 3 - e)) t 0 = takeX (nmT S b t 0) (nmT S a t 0) 0 := congrArg (takeX (nmT S b t 0) (nmT S a t 0)) ((if_pos rfl).trans rfl)
        refine x_cVv (pc2 := 240) (ci := 8) hC hK (n_makes l hM hS234 (by decide) ht (i := 0 / 2) (j := 0 % 2) ⟨by decide, by decide⟩ (x := 209) ⟨by decide, by decide⟩ v234 hrp (by rw [e17]; exact h17)) lk_919 rfl rfl (by decide) (by assumption) (by assumption) ⟨Nat.le_of_ble_eq_true rfl, Nat.le_of_ble_eq_true rfl⟩ ⟨Nat.le_refl _, Nat.le_refl _⟩ rfl (Nat.le_of_ble_eq_true rfl) dX8_takeOff_237 rfl ?_
        rintro F237 A237 ⟨-, m2, m3, m4, m5⟩
        have ml := mk_low (x := takeX (nmT S b t 0) (nmT S a t 0) 0) hrp (takeX_un (hi.un (s := 0) hb ht) (hi.un (s := 0) ha ht) hdn 0) ((q_quo _ _).tr (un_div (by rw [q_sub]; exact un_sum (un_q3 (rr hi ha ht ⟨by decide, by decide⟩)) (un_q3 (rr hi hb ht ⟨by decide, by decide⟩))) hnz) (by rw [q_sub, qe2]; exact eqf.rf _)) m2
        rw [← hx] at ml
        rw [e17] at m3
        refine x_iinc (pc2 := 243) (loc2 := [_, _, _, _, _, _, _, _, _, _]) hC (by decide) rfl rfl dX8_takeOff_240 rfl ?_
        refine x_goto (pc2 := 157) hC dX8_takeOff_243 rfl ?_
        exact next _ _ _ _ _ (hR1.K ((((FrK.f (by decide)).tr gg.K)).tr m5)) (hmk.step ht (e := 0) ⟨by decide, by decide⟩ (fun t0 e0 => ⟨fun y => by omega, fun y => by omega⟩) ml m3 (fun n hn => by rw [m4 n (by omega), e10]))
  have body01 : ∀ (t : Int) (F1 : Nat → Nat → Int) (A1 : Nat → Int → Int) {e7 e8 e9 : Option PV}, isT t → isB S c0 → isB S a → isB S b → RepM S F1 A1 → (F1 0 17 = 0 ∨ F1 0 17 = 1) → (takeF (nmT S b t 0) (nmT S a t 0)).1 ≠ (0, 0) → MkD (fun t e => takeX (nmT S b t 0) (nmT S a t 0) (if (0 : Int) = 0 then e else 3 - e)) (A1 10) (F1 0 17) (fun t0 e0 => t0 < t ∨ (t0 = t ∧ e0 < 1)) → (∀ (F2 : Nat → Nat → Int) (A2 : Nat → Int → Int) (f7 f8 f9 : Option PV), RepM S F2 A2 → MkD (fun t e => takeX (nmT S b t 0) (nmT S a t 0) (if (0 : Int) = 0 then e else 3 - e)) (A2 10) (F2 0 17) (fun t0 e0 => t0 < t ∨ (t0 = t ∧ e0 < 2)) → X p l e { frames := 6, cells := 0, slots := 0, locals := 145 } s m args below meth c (MQ below (QX D ids β sh N R (pIr (fun z F2 A2 => ∃ S2, rTake S c0 a b 0 z S2 ∧ RepM S2 F2 A2))) args s 0 0 (inG β N)) (inG β N) D ids β sh 10 0 0 N R F2 A2 [some (rf 0), some (pI c0), some (pI a), some (pI b), some (pI 0), some (pI t), some (pI 2), f7, f8, f9] [] 157) → X p l e { frames := 6, cells := 0, slots := 0, locals := 145 } s m args below meth c (MQ below (QX D ids β sh N R (pIr (fun z F2 A2 => ∃ S2, rTake S c0 a b 0 z S2 ∧ RepM S2 F2 A2))) args s 0 0 (inG β N)) (inG β N) D ids β sh 10 0 0 N R F1 A1 [some (rf 0), some (pI c0), some (pI a), some (pI b), some (pI 0), some (pI t), some (pI 1), e7, e8, e9] [] 163 := by
    intro t F1 A1 e7 e8 e9 ht hc2 ha hb hR1 h17 hdn hmk next
    have hb6 := hR1.2.2.2.2.2.2.1
    have a16 := ha.2
    have b16 := hb.2
    have a00 := ha.1
    have b00 := hb.1
    refine x_aload_n (pc2 := 164) hC rfl rfl dX8_takeOff_163 rfl ?_
    refine x_iconst (pc2 := 165) hC dX8_takeOff_164 rfl ?_
    refine p_819 (pc2 := 168) hC hK (by assumption) (by assumption) dX8_takeOff_165 rfl ?_
    refine x_iload (pc2 := 170) hC rfl dX8_takeOff_168 rfl ?_
    refine x_iconst (pc2 := 171) hC dX8_takeOff_170 rfl ?_
    refine x_idivp (pc2 := 172) hC (by omega) (by omega) (by omega) (by omega) dX8_takeOff_171 rfl ?_
    refine x_istore (pc2 := 174) (loc2 := [_, _, _, _, _, _, _, _, _, _]) hC (by decide) rfl dX8_takeOff_172 rfl ?_
    refine x_iload (pc2 := 176) hC rfl dX8_takeOff_174 rfl ?_
    refine x_iconst (pc2 := 177) hC dX8_takeOff_176 rfl ?_
    refine x_iremp (pc2 := 178) hC (by omega) (by omega) (by omega) (by omega) dX8_takeOff_177 rfl ?_
    refine x_istore (pc2 := 180) (loc2 := [_, _, _, _, _, _, _, _, _, _]) hC (by decide) rfl dX8_takeOff_178 rfl ?_
    refine x_aload_n (pc2 := 181) hC rfl rfl dX8_takeOff_180 rfl ?_
    refine x_iload_n (pc2 := 182) hC rfl rfl dX8_takeOff_181 rfl ?_
    refine x_iload_n (pc2 := 183) hC rfl rfl dX8_takeOff_182 rfl ?_
    refine x_iload (pc2 := 185) hC rfl dX8_takeOff_183 rfl ?_
    refine x_iload (pc2 := 187) hC rfl dX8_takeOff_185 rfl ?_
    refine x_cVi (pc2 := 190) (ci := 8) hC hK (t_left0_0 l hM (hR1.K (FrK.f (by decide))) (St.zero (F := F1) (A := A1)) ha hb ht) lk_1060 rfl rfl (by decide) (by assumption) (by assumption) ⟨Nat.le_of_ble_eq_true rfl, Nat.le_of_ble_eq_true rfl⟩ ⟨Nat.le_refl _, Nat.le_refl _⟩ rfl (Nat.le_of_ble_eq_true rfl) dX8_takeOff_187 rfl ?_
    rintro z187 F187 A187 ⟨ez187, V187, hS187, v187, k187, g187⟩
    obtain rfl := ez187.symm
    replace hS187 : St 137 V187 F187 A187 := hS187
    rw [show (0 : Int) + 134 = 134 from rfl]
    obtain ⟨wb01_187, ewb01_187⟩ : ∃ w : T3, w = tadd (tmul (vS S b t 3) (tadd (vS S a t 0) (tneg (vS S b t 0)))) (tmul (vS S b t 1) (vS S b t 2)) := ⟨_, rfl⟩
    have uwb01_187 : tr V187 134 = wb01_187 := by rw [ewb01_187]; exact v187
    have bwb01_187 : bdt 128 125 wb01_187 := by rw [ewb01_187]; exact (bdt_add (a := 77) (c := 75) (b := 51) (d := 50) (bdt_mul (a := 25) (c := 25) (b := 51) (d := 50) (ok_bdt ((hi.2.1 b hb).2 t 3 ht ⟨by decide, by decide⟩).1) (bdt_add (ok_bdt ((hi.2.1 a ha).2 t 0 ht ⟨by decide, by decide⟩).1) (bdt_neg (ok_bdt ((hi.2.1 b hb).2 t 0 ht ⟨by decide, by decide⟩).1)) (by decide) (by decide) (by decide)) (by decide) (by decide)) (bdt_mul (ok_bdt ((hi.2.1 b hb).2 t 1 ht ⟨by decide, by decide⟩).1) (ok_bdt ((hi.2.1 b hb).2 t 2 ht ⟨by decide, by decide⟩).1) (by decide) (by decide)) (by decide) (by decide) (by decide))
    clear v187
    have hRe : RepM S F187 A187 := hR1.K ((FrK.f (by decide)).tr g187.K)
    refine x_istore (pc2 := 192) (loc2 := [_, _, _, _, _, _, _, _, _, _]) hC (by decide) rfl dX8_takeOff_190 rfl ?_
    refine x_aload_n (pc2 := 193) hC rfl rfl dX8_takeOff_192 rfl ?_
    refine x_iload (pc2 := 195) hC rfl dX8_takeOff_193 rfl ?_
    refine x_iload (pc2 := 197) hC rfl dX8_takeOff_195 rfl ?_
    refine x_if_ne (tgt := 205) (pc2 := 200) hC (by omega) dX8_takeOff_197 rfl rfl (fun h_197 => ?_) (fun h_197 => ?_)
    · exact absurd h_197 (by decide)
    · refine x_iload (pc2 := 202) hC rfl dX8_takeOff_200 rfl ?_
      refine x_goto (pc2 := 209) hC dX8_takeOff_202 rfl ?_
      refine x_iload (pc2 := 211) hC rfl dX8_takeOff_209 rfl ?_
      refine x_if_ne (tgt := 219) (pc2 := 214) hC (by omega) dX8_takeOff_211 rfl rfl (fun h_211 => ?_) (fun h_211 => ?_)
      · exact absurd h_211 (by decide)
      · refine x_iload (pc2 := 216) hC rfl dX8_takeOff_214 rfl ?_
        refine x_goto (pc2 := 223) hC dX8_takeOff_216 rfl ?_
        refine x_aload_n (pc2 := 224) hC rfl rfl dX8_takeOff_223 rfl ?_
        refine x_iload_n (pc2 := 225) hC rfl rfl dX8_takeOff_224 rfl ?_
        refine x_iload_n (pc2 := 226) hC rfl rfl dX8_takeOff_225 rfl ?_
        refine x_iload (pc2 := 228) hC rfl dX8_takeOff_226 rfl ?_
        refine x_iload (pc2 := 230) hC rfl dX8_takeOff_228 rfl ?_
        refine x_iload (pc2 := 232) hC rfl dX8_takeOff_230 rfl ?_
        refine x_iload (pc2 := 234) hC rfl dX8_takeOff_232 rfl ?_
        refine x_cVi (pc2 := 237) (ci := 8) hC hK (t_wo1_0 l hM hRe (by exact hS187) ha hb ht uwb01_187 bwb01_187) lk_1064 rfl rfl (by decide) (by assumption) (by assumption) ⟨Nat.le_of_ble_eq_true rfl, Nat.le_of_ble_eq_true rfl⟩ ⟨Nat.le_refl _, Nat.le_refl _⟩ rfl (Nat.le_of_ble_eq_true rfl) dX8_takeOff_234 rfl ?_
        rintro z234 F234 A234 ⟨ez234, V234, hS234, v234, k234, g234⟩
        obtain rfl := ez234.symm
        replace hS234 : St 208 V234 F234 A234 := hS234
        replace v234 : tr V234 205 = tquo (tmul (vS S a t 1) (vS S b t 2)) wb01_187 := v234
        rw [show (137 : Int) + 68 = 205 from rfl]
        have qe2 : q3 wb01_187 = takeF (nmT S b t 0) (nmT S a t 0) := by rw [ewb01_187, q_add, q_mul, q_mul, q_sub, rsum1_comm]; rfl
        have hz : ¬ (wb01_187.1 = 0 ∧ wb01_187.2.1 = 0) := fun y => hdn ((z3_iff qe2).mp y)
        have hnz : (q3 wb01_187).1 ≠ (0, 0) := fun y => hz ⟨congrArg Prod.fst y, congrArg Prod.snd y⟩
        have hrp : 0 < (tquo (tmul (vS S a t 1) (vS S b t 2)) wb01_187).2.2 := r_quo (r_mul (rr hi ha ht ⟨by decide, by decide⟩) (rr hi hb ht ⟨by decide, by decide⟩)) hz
        have gg := g187.tr g234
        have e17 : F234 0 17 = F1 0 17 := (gg.2.1 17 (by decide) (by decide) (by decide)).trans (by rw [uF_nj (by decide)])
        have e10 : A234 10 = A1 10 := gg.a (by decide)
        have hx : (fun t e => takeX (nmT S b t 0) (nmT S a t 0) (if (0 : Int) = 0 then e else 3 - e)) t 1 = takeX (nmT S b t 0) (nmT S a t 0) 1 := congrArg (takeX (nmT S b t 0) (nmT S a t 0)) ((if_pos rfl).trans rfl)
        refine x_cVv (pc2 := 240) (ci := 8) hC hK (n_makes l hM hS234 (by decide) ht (i := 1 / 2) (j := 1 % 2) ⟨by decide, by decide⟩ (x := 205) ⟨by decide, by decide⟩ v234 hrp (by rw [e17]; exact h17)) lk_919 rfl rfl (by decide) (by assumption) (by assumption) ⟨Nat.le_of_ble_eq_true rfl, Nat.le_of_ble_eq_true rfl⟩ ⟨Nat.le_refl _, Nat.le_refl _⟩ rfl (Nat.le_of_ble_eq_true rfl) dX8_takeOff_237 rfl ?_
        rintro F237 A237 ⟨-, m2, m3, m4, m5⟩
        have ml := mk_low (x := takeX (nmT S b t 0) (nmT S a t 0) 1) hrp (takeX_un (hi.un (s := 0) hb ht) (hi.un (s := 0) ha ht) hdn 1) ((q_quo _ _).tr (un_div (by rw [q_mul]; exact un_mul (un_q3 (rr hi ha ht ⟨by decide, by decide⟩)) (un_q3 (rr hi hb ht ⟨by decide, by decide⟩))) hnz) (by rw [q_mul, qe2]; exact eqf.rf _)) m2
        rw [← hx] at ml
        rw [e17] at m3
        refine x_iinc (pc2 := 243) (loc2 := [_, _, _, _, _, _, _, _, _, _]) hC (by decide) rfl rfl dX8_takeOff_240 rfl ?_
        refine x_goto (pc2 := 157) hC dX8_takeOff_243 rfl ?_
        exact next _ _ _ _ _ (hR1.K ((((FrK.f (by decide)).tr gg.K)).tr m5)) (hmk.step ht (e := 1) ⟨by decide, by decide⟩ (fun t0 e0 => ⟨fun y => by omega, fun y => by omega⟩) ml m3 (fun n hn => by rw [m4 n (by omega), e10]))
  have body02 : ∀ (t : Int) (F1 : Nat → Nat → Int) (A1 : Nat → Int → Int) {e7 e8 e9 : Option PV}, isT t → isB S c0 → isB S a → isB S b → RepM S F1 A1 → (F1 0 17 = 0 ∨ F1 0 17 = 1) → (takeF (nmT S b t 0) (nmT S a t 0)).1 ≠ (0, 0) → MkD (fun t e => takeX (nmT S b t 0) (nmT S a t 0) (if (0 : Int) = 0 then e else 3 - e)) (A1 10) (F1 0 17) (fun t0 e0 => t0 < t ∨ (t0 = t ∧ e0 < 2)) → (∀ (F2 : Nat → Nat → Int) (A2 : Nat → Int → Int) (f7 f8 f9 : Option PV), RepM S F2 A2 → MkD (fun t e => takeX (nmT S b t 0) (nmT S a t 0) (if (0 : Int) = 0 then e else 3 - e)) (A2 10) (F2 0 17) (fun t0 e0 => t0 < t ∨ (t0 = t ∧ e0 < 3)) → X p l e { frames := 6, cells := 0, slots := 0, locals := 145 } s m args below meth c (MQ below (QX D ids β sh N R (pIr (fun z F2 A2 => ∃ S2, rTake S c0 a b 0 z S2 ∧ RepM S2 F2 A2))) args s 0 0 (inG β N)) (inG β N) D ids β sh 10 0 0 N R F2 A2 [some (rf 0), some (pI c0), some (pI a), some (pI b), some (pI 0), some (pI t), some (pI 3), f7, f8, f9] [] 157) → X p l e { frames := 6, cells := 0, slots := 0, locals := 145 } s m args below meth c (MQ below (QX D ids β sh N R (pIr (fun z F2 A2 => ∃ S2, rTake S c0 a b 0 z S2 ∧ RepM S2 F2 A2))) args s 0 0 (inG β N)) (inG β N) D ids β sh 10 0 0 N R F1 A1 [some (rf 0), some (pI c0), some (pI a), some (pI b), some (pI 0), some (pI t), some (pI 2), e7, e8, e9] [] 163 := by
    intro t F1 A1 e7 e8 e9 ht hc2 ha hb hR1 h17 hdn hmk next
    have hb6 := hR1.2.2.2.2.2.2.1
    have a16 := ha.2
    have b16 := hb.2
    have a00 := ha.1
    have b00 := hb.1
    refine x_aload_n (pc2 := 164) hC rfl rfl dX8_takeOff_163 rfl ?_
    refine x_iconst (pc2 := 165) hC dX8_takeOff_164 rfl ?_
    refine p_819 (pc2 := 168) hC hK (by assumption) (by assumption) dX8_takeOff_165 rfl ?_
    refine x_iload (pc2 := 170) hC rfl dX8_takeOff_168 rfl ?_
    refine x_iconst (pc2 := 171) hC dX8_takeOff_170 rfl ?_
    refine x_idivp (pc2 := 172) hC (by omega) (by omega) (by omega) (by omega) dX8_takeOff_171 rfl ?_
    refine x_istore (pc2 := 174) (loc2 := [_, _, _, _, _, _, _, _, _, _]) hC (by decide) rfl dX8_takeOff_172 rfl ?_
    refine x_iload (pc2 := 176) hC rfl dX8_takeOff_174 rfl ?_
    refine x_iconst (pc2 := 177) hC dX8_takeOff_176 rfl ?_
    refine x_iremp (pc2 := 178) hC (by omega) (by omega) (by omega) (by omega) dX8_takeOff_177 rfl ?_
    refine x_istore (pc2 := 180) (loc2 := [_, _, _, _, _, _, _, _, _, _]) hC (by decide) rfl dX8_takeOff_178 rfl ?_
    refine x_aload_n (pc2 := 181) hC rfl rfl dX8_takeOff_180 rfl ?_
    refine x_iload_n (pc2 := 182) hC rfl rfl dX8_takeOff_181 rfl ?_
    refine x_iload_n (pc2 := 183) hC rfl rfl dX8_takeOff_182 rfl ?_
    refine x_iload (pc2 := 185) hC rfl dX8_takeOff_183 rfl ?_
    refine x_iload (pc2 := 187) hC rfl dX8_takeOff_185 rfl ?_
    refine x_cVi (pc2 := 190) (ci := 8) hC hK (t_left0_0 l hM (hR1.K (FrK.f (by decide))) (St.zero (F := F1) (A := A1)) ha hb ht) lk_1060 rfl rfl (by decide) (by assumption) (by assumption) ⟨Nat.le_of_ble_eq_true rfl, Nat.le_of_ble_eq_true rfl⟩ ⟨Nat.le_refl _, Nat.le_refl _⟩ rfl (Nat.le_of_ble_eq_true rfl) dX8_takeOff_187 rfl ?_
    rintro z187 F187 A187 ⟨ez187, V187, hS187, v187, k187, g187⟩
    obtain rfl := ez187.symm
    replace hS187 : St 137 V187 F187 A187 := hS187
    rw [show (0 : Int) + 134 = 134 from rfl]
    obtain ⟨wb02_187, ewb02_187⟩ : ∃ w : T3, w = tadd (tmul (vS S b t 3) (tadd (vS S a t 0) (tneg (vS S b t 0)))) (tmul (vS S b t 1) (vS S b t 2)) := ⟨_, rfl⟩
    have uwb02_187 : tr V187 134 = wb02_187 := by rw [ewb02_187]; exact v187
    have bwb02_187 : bdt 128 125 wb02_187 := by rw [ewb02_187]; exact (bdt_add (a := 77) (c := 75) (b := 51) (d := 50) (bdt_mul (a := 25) (c := 25) (b := 51) (d := 50) (ok_bdt ((hi.2.1 b hb).2 t 3 ht ⟨by decide, by decide⟩).1) (bdt_add (ok_bdt ((hi.2.1 a ha).2 t 0 ht ⟨by decide, by decide⟩).1) (bdt_neg (ok_bdt ((hi.2.1 b hb).2 t 0 ht ⟨by decide, by decide⟩).1)) (by decide) (by decide) (by decide)) (by decide) (by decide)) (bdt_mul (ok_bdt ((hi.2.1 b hb).2 t 1 ht ⟨by decide, by decide⟩).1) (ok_bdt ((hi.2.1 b hb).2 t 2 ht ⟨by decide, by decide⟩).1) (by decide) (by decide)) (by decide) (by decide) (by decide))
    clear v187
    have hRe : RepM S F187 A187 := hR1.K ((FrK.f (by decide)).tr g187.K)
    refine x_istore (pc2 := 192) (loc2 := [_, _, _, _, _, _, _, _, _, _]) hC (by decide) rfl dX8_takeOff_190 rfl ?_
    refine x_aload_n (pc2 := 193) hC rfl rfl dX8_takeOff_192 rfl ?_
    refine x_iload (pc2 := 195) hC rfl dX8_takeOff_193 rfl ?_
    refine x_iload (pc2 := 197) hC rfl dX8_takeOff_195 rfl ?_
    refine x_if_ne (tgt := 205) (pc2 := 200) hC (by omega) dX8_takeOff_197 rfl rfl (fun h_197 => ?_) (fun h_197 => ?_)
    · exact absurd h_197 (by decide)
    · refine x_iload (pc2 := 202) hC rfl dX8_takeOff_200 rfl ?_
      refine x_goto (pc2 := 209) hC dX8_takeOff_202 rfl ?_
      refine x_iload (pc2 := 211) hC rfl dX8_takeOff_209 rfl ?_
      refine x_if_ne (tgt := 219) (pc2 := 214) hC (by omega) dX8_takeOff_211 rfl rfl (fun h_211 => ?_) (fun h_211 => ?_)
      · exact absurd h_211 (by decide)
      · refine x_iload (pc2 := 216) hC rfl dX8_takeOff_214 rfl ?_
        refine x_goto (pc2 := 223) hC dX8_takeOff_216 rfl ?_
        refine x_aload_n (pc2 := 224) hC rfl rfl dX8_takeOff_223 rfl ?_
        refine x_iload_n (pc2 := 225) hC rfl rfl dX8_takeOff_224 rfl ?_
        refine x_iload_n (pc2 := 226) hC rfl rfl dX8_takeOff_225 rfl ?_
        refine x_iload (pc2 := 228) hC rfl dX8_takeOff_226 rfl ?_
        refine x_iload (pc2 := 230) hC rfl dX8_takeOff_228 rfl ?_
        refine x_iload (pc2 := 232) hC rfl dX8_takeOff_230 rfl ?_
        refine x_iload (pc2 := 234) hC rfl dX8_takeOff_232 rfl ?_
        refine x_cVi (pc2 := 237) (ci := 8) hC hK (t_wo2_0 l hM hRe (by exact hS187) ha hb ht uwb02_187 bwb02_187) lk_1064 rfl rfl (by decide) (by assumption) (by assumption) ⟨Nat.le_of_ble_eq_true rfl, Nat.le_of_ble_eq_true rfl⟩ ⟨Nat.le_refl _, Nat.le_refl _⟩ rfl (Nat.le_of_ble_eq_true rfl) dX8_takeOff_234 rfl ?_
        rintro z234 F234 A234 ⟨ez234, V234, hS234, v234, k234, g234⟩
        obtain rfl := ez234.symm
        replace hS234 : St 208 V234 F234 A234 := hS234
        replace v234 : tr V234 205 = tquo (tmul (vS S a t 2) (vS S b t 1)) wb02_187 := v234
        rw [show (137 : Int) + 68 = 205 from rfl]
        have qe2 : q3 wb02_187 = takeF (nmT S b t 0) (nmT S a t 0) := by rw [ewb02_187, q_add, q_mul, q_mul, q_sub, rsum1_comm]; rfl
        have hz : ¬ (wb02_187.1 = 0 ∧ wb02_187.2.1 = 0) := fun y => hdn ((z3_iff qe2).mp y)
        have hnz : (q3 wb02_187).1 ≠ (0, 0) := fun y => hz ⟨congrArg Prod.fst y, congrArg Prod.snd y⟩
        have hrp : 0 < (tquo (tmul (vS S a t 2) (vS S b t 1)) wb02_187).2.2 := r_quo (r_mul (rr hi ha ht ⟨by decide, by decide⟩) (rr hi hb ht ⟨by decide, by decide⟩)) hz
        have gg := g187.tr g234
        have e17 : F234 0 17 = F1 0 17 := (gg.2.1 17 (by decide) (by decide) (by decide)).trans (by rw [uF_nj (by decide)])
        have e10 : A234 10 = A1 10 := gg.a (by decide)
        have hx : (fun t e => takeX (nmT S b t 0) (nmT S a t 0) (if (0 : Int) = 0 then e else 3 - e)) t 2 = takeX (nmT S b t 0) (nmT S a t 0) 2 := congrArg (takeX (nmT S b t 0) (nmT S a t 0)) ((if_pos rfl).trans rfl)
        refine x_cVv (pc2 := 240) (ci := 8) hC hK (n_makes l hM hS234 (by decide) ht (i := 2 / 2) (j := 2 % 2) ⟨by decide, by decide⟩ (x := 205) ⟨by decide, by decide⟩ v234 hrp (by rw [e17]; exact h17)) lk_919 rfl rfl (by decide) (by assumption) (by assumption) ⟨Nat.le_of_ble_eq_true rfl, Nat.le_of_ble_eq_true rfl⟩ ⟨Nat.le_refl _, Nat.le_refl _⟩ rfl (Nat.le_of_ble_eq_true rfl) dX8_takeOff_237 rfl ?_
        rintro F237 A237 ⟨-, m2, m3, m4, m5⟩
        have ml := mk_low (x := takeX (nmT S b t 0) (nmT S a t 0) 2) hrp (takeX_un (hi.un (s := 0) hb ht) (hi.un (s := 0) ha ht) hdn 2) ((q_quo _ _).tr (un_div (by rw [q_mul]; exact un_mul (un_q3 (rr hi ha ht ⟨by decide, by decide⟩)) (un_q3 (rr hi hb ht ⟨by decide, by decide⟩))) hnz) (by rw [q_mul, qe2]; exact eqf.rf _)) m2
        rw [← hx] at ml
        rw [e17] at m3
        refine x_iinc (pc2 := 243) (loc2 := [_, _, _, _, _, _, _, _, _, _]) hC (by decide) rfl rfl dX8_takeOff_240 rfl ?_
        refine x_goto (pc2 := 157) hC dX8_takeOff_243 rfl ?_
        exact next _ _ _ _ _ (hR1.K ((((FrK.f (by decide)).tr gg.K)).tr m5)) (hmk.step ht (e := 2) ⟨by decide, by decide⟩ (fun t0 e0 => ⟨fun y => by omega, fun y => by omega⟩) ml m3 (fun n hn => by rw [m4 n (by omega), e10]))
  have body03 : ∀ (t : Int) (F1 : Nat → Nat → Int) (A1 : Nat → Int → Int) {e7 e8 e9 : Option PV}, isT t → isB S c0 → isB S a → isB S b → RepM S F1 A1 → (F1 0 17 = 0 ∨ F1 0 17 = 1) → (takeF (nmT S b t 0) (nmT S a t 0)).1 ≠ (0, 0) → MkD (fun t e => takeX (nmT S b t 0) (nmT S a t 0) (if (0 : Int) = 0 then e else 3 - e)) (A1 10) (F1 0 17) (fun t0 e0 => t0 < t ∨ (t0 = t ∧ e0 < 3)) → (∀ (F2 : Nat → Nat → Int) (A2 : Nat → Int → Int) (f7 f8 f9 : Option PV), RepM S F2 A2 → MkD (fun t e => takeX (nmT S b t 0) (nmT S a t 0) (if (0 : Int) = 0 then e else 3 - e)) (A2 10) (F2 0 17) (fun t0 e0 => t0 < t ∨ (t0 = t ∧ e0 < 4)) → X p l e { frames := 6, cells := 0, slots := 0, locals := 145 } s m args below meth c (MQ below (QX D ids β sh N R (pIr (fun z F2 A2 => ∃ S2, rTake S c0 a b 0 z S2 ∧ RepM S2 F2 A2))) args s 0 0 (inG β N)) (inG β N) D ids β sh 10 0 0 N R F2 A2 [some (rf 0), some (pI c0), some (pI a), some (pI b), some (pI 0), some (pI t), some (pI 4), f7, f8, f9] [] 157) → X p l e { frames := 6, cells := 0, slots := 0, locals := 145 } s m args below meth c (MQ below (QX D ids β sh N R (pIr (fun z F2 A2 => ∃ S2, rTake S c0 a b 0 z S2 ∧ RepM S2 F2 A2))) args s 0 0 (inG β N)) (inG β N) D ids β sh 10 0 0 N R F1 A1 [some (rf 0), some (pI c0), some (pI a), some (pI b), some (pI 0), some (pI t), some (pI 3), e7, e8, e9] [] 163 := by
    intro t F1 A1 e7 e8 e9 ht hc2 ha hb hR1 h17 hdn hmk next
    have hb6 := hR1.2.2.2.2.2.2.1
    have a16 := ha.2
    have b16 := hb.2
    have a00 := ha.1
    have b00 := hb.1
    refine x_aload_n (pc2 := 164) hC rfl rfl dX8_takeOff_163 rfl ?_
    refine x_iconst (pc2 := 165) hC dX8_takeOff_164 rfl ?_
    refine p_819 (pc2 := 168) hC hK (by assumption) (by assumption) dX8_takeOff_165 rfl ?_
    refine x_iload (pc2 := 170) hC rfl dX8_takeOff_168 rfl ?_
    refine x_iconst (pc2 := 171) hC dX8_takeOff_170 rfl ?_
    refine x_idivp (pc2 := 172) hC (by omega) (by omega) (by omega) (by omega) dX8_takeOff_171 rfl ?_
    refine x_istore (pc2 := 174) (loc2 := [_, _, _, _, _, _, _, _, _, _]) hC (by decide) rfl dX8_takeOff_172 rfl ?_
    refine x_iload (pc2 := 176) hC rfl dX8_takeOff_174 rfl ?_
    refine x_iconst (pc2 := 177) hC dX8_takeOff_176 rfl ?_
    refine x_iremp (pc2 := 178) hC (by omega) (by omega) (by omega) (by omega) dX8_takeOff_177 rfl ?_
    refine x_istore (pc2 := 180) (loc2 := [_, _, _, _, _, _, _, _, _, _]) hC (by decide) rfl dX8_takeOff_178 rfl ?_
    refine x_aload_n (pc2 := 181) hC rfl rfl dX8_takeOff_180 rfl ?_
    refine x_iload_n (pc2 := 182) hC rfl rfl dX8_takeOff_181 rfl ?_
    refine x_iload_n (pc2 := 183) hC rfl rfl dX8_takeOff_182 rfl ?_
    refine x_iload (pc2 := 185) hC rfl dX8_takeOff_183 rfl ?_
    refine x_iload (pc2 := 187) hC rfl dX8_takeOff_185 rfl ?_
    refine x_cVi (pc2 := 190) (ci := 8) hC hK (t_left0_0 l hM (hR1.K (FrK.f (by decide))) (St.zero (F := F1) (A := A1)) ha hb ht) lk_1060 rfl rfl (by decide) (by assumption) (by assumption) ⟨Nat.le_of_ble_eq_true rfl, Nat.le_of_ble_eq_true rfl⟩ ⟨Nat.le_refl _, Nat.le_refl _⟩ rfl (Nat.le_of_ble_eq_true rfl) dX8_takeOff_187 rfl ?_
    rintro z187 F187 A187 ⟨ez187, V187, hS187, v187, k187, g187⟩
    obtain rfl := ez187.symm
    replace hS187 : St 137 V187 F187 A187 := hS187
    rw [show (0 : Int) + 134 = 134 from rfl]
    obtain ⟨wb03_187, ewb03_187⟩ : ∃ w : T3, w = tadd (tmul (vS S b t 3) (tadd (vS S a t 0) (tneg (vS S b t 0)))) (tmul (vS S b t 1) (vS S b t 2)) := ⟨_, rfl⟩
    have uwb03_187 : tr V187 134 = wb03_187 := by rw [ewb03_187]; exact v187
    have bwb03_187 : bdt 128 125 wb03_187 := by rw [ewb03_187]; exact (bdt_add (a := 77) (c := 75) (b := 51) (d := 50) (bdt_mul (a := 25) (c := 25) (b := 51) (d := 50) (ok_bdt ((hi.2.1 b hb).2 t 3 ht ⟨by decide, by decide⟩).1) (bdt_add (ok_bdt ((hi.2.1 a ha).2 t 0 ht ⟨by decide, by decide⟩).1) (bdt_neg (ok_bdt ((hi.2.1 b hb).2 t 0 ht ⟨by decide, by decide⟩).1)) (by decide) (by decide) (by decide)) (by decide) (by decide)) (bdt_mul (ok_bdt ((hi.2.1 b hb).2 t 1 ht ⟨by decide, by decide⟩).1) (ok_bdt ((hi.2.1 b hb).2 t 2 ht ⟨by decide, by decide⟩).1) (by decide) (by decide)) (by decide) (by decide) (by decide))
    clear v187
    have hRe : RepM S F187 A187 := hR1.K ((FrK.f (by decide)).tr g187.K)
    refine x_istore (pc2 := 192) (loc2 := [_, _, _, _, _, _, _, _, _, _]) hC (by decide) rfl dX8_takeOff_190 rfl ?_
    refine x_aload_n (pc2 := 193) hC rfl rfl dX8_takeOff_192 rfl ?_
    refine x_iload (pc2 := 195) hC rfl dX8_takeOff_193 rfl ?_
    refine x_iload (pc2 := 197) hC rfl dX8_takeOff_195 rfl ?_
    refine x_if_ne (tgt := 205) (pc2 := 200) hC (by omega) dX8_takeOff_197 rfl rfl (fun h_197 => ?_) (fun h_197 => ?_)
    · exact absurd h_197 (by decide)
    · refine x_iload (pc2 := 202) hC rfl dX8_takeOff_200 rfl ?_
      refine x_goto (pc2 := 209) hC dX8_takeOff_202 rfl ?_
      refine x_iload (pc2 := 211) hC rfl dX8_takeOff_209 rfl ?_
      refine x_if_ne (tgt := 219) (pc2 := 214) hC (by omega) dX8_takeOff_211 rfl rfl (fun h_211 => ?_) (fun h_211 => ?_)
      · exact absurd h_211 (by decide)
      · refine x_iload (pc2 := 216) hC rfl dX8_takeOff_214 rfl ?_
        refine x_goto (pc2 := 223) hC dX8_takeOff_216 rfl ?_
        refine x_aload_n (pc2 := 224) hC rfl rfl dX8_takeOff_223 rfl ?_
        refine x_iload_n (pc2 := 225) hC rfl rfl dX8_takeOff_224 rfl ?_
        refine x_iload_n (pc2 := 226) hC rfl rfl dX8_takeOff_225 rfl ?_
        refine x_iload (pc2 := 228) hC rfl dX8_takeOff_226 rfl ?_
        refine x_iload (pc2 := 230) hC rfl dX8_takeOff_228 rfl ?_
        refine x_iload (pc2 := 232) hC rfl dX8_takeOff_230 rfl ?_
        refine x_iload (pc2 := 234) hC rfl dX8_takeOff_232 rfl ?_
        refine x_cVi (pc2 := 237) (ci := 8) hC hK (t_wo3_0 l hM hRe (by exact hS187) ha hb ht uwb03_187 bwb03_187) lk_1064 rfl rfl (by decide) (by assumption) (by assumption) ⟨Nat.le_of_ble_eq_true rfl, Nat.le_of_ble_eq_true rfl⟩ ⟨Nat.le_refl _, Nat.le_refl _⟩ rfl (Nat.le_of_ble_eq_true rfl) dX8_takeOff_234 rfl ?_
        rintro z234 F234 A234 ⟨ez234, V234, hS234, v234, k234, g234⟩
        obtain rfl := ez234.symm
        replace hS234 : St 270 V234 F234 A234 := hS234
        replace v234 : tr V234 267 = tadd (vS S a t 3) (tneg (tquo (tmul (vS S b t 3) (tmul (vS S a t 1) (vS S a t 2))) wb03_187)) := v234
        rw [show (137 : Int) + 130 = 267 from rfl]
        have qe2 : q3 wb03_187 = takeF (nmT S b t 0) (nmT S a t 0) := by rw [ewb03_187, q_add, q_mul, q_mul, q_sub, rsum1_comm]; rfl
        have hz : ¬ (wb03_187.1 = 0 ∧ wb03_187.2.1 = 0) := fun y => hdn ((z3_iff qe2).mp y)
        have hnz : (q3 wb03_187).1 ≠ (0, 0) := fun y => hz ⟨congrArg Prod.fst y, congrArg Prod.snd y⟩
        have hrp : 0 < (tadd (vS S a t 3) (tneg (tquo (tmul (vS S b t 3) (tmul (vS S a t 1) (vS S a t 2))) wb03_187))).2.2 := r_add (rr hi ha ht ⟨by decide, by decide⟩) (show 0 < (tneg _).2.2 from r_quo (r_mul (rr hi hb ht ⟨by decide, by decide⟩) (r_mul (rr hi ha ht ⟨by decide, by decide⟩) (rr hi ha ht ⟨by decide, by decide⟩))) hz)
        have gg := g187.tr g234
        have e17 : F234 0 17 = F1 0 17 := (gg.2.1 17 (by decide) (by decide) (by decide)).trans (by rw [uF_nj (by decide)])
        have e10 : A234 10 = A1 10 := gg.a (by decide)
        have hx : (fun t e => takeX (nmT S b t 0) (nmT S a t 0) (if (0 : Int) = 0 then e else 3 - e)) t 3 = takeX (nmT S b t 0) (nmT S a t 0) 3 := congrArg (takeX (nmT S b t 0) (nmT S a t 0)) ((if_pos rfl).trans rfl)
        refine x_cVv (pc2 := 240) (ci := 8) hC hK (n_makes l hM hS234 (by decide) ht (i := 3 / 2) (j := 3 % 2) ⟨by decide, by decide⟩ (x := 267) ⟨by decide, by decide⟩ v234 hrp (by rw [e17]; exact h17)) lk_919 rfl rfl (by decide) (by assumption) (by assumption) ⟨Nat.le_of_ble_eq_true rfl, Nat.le_of_ble_eq_true rfl⟩ ⟨Nat.le_refl _, Nat.le_refl _⟩ rfl (Nat.le_of_ble_eq_true rfl) dX8_takeOff_237 rfl ?_
        rintro F237 A237 ⟨-, m2, m3, m4, m5⟩
        have ml := mk_low (x := takeX (nmT S b t 0) (nmT S a t 0) 3) hrp (takeX_un (hi.un (s := 0) hb ht) (hi.un (s := 0) ha ht) hdn 3) (by rw [q_sub]; exact eqf.sum (eqf.rf _) ((q_quo _ _).tr (un_div (by rw [q_mul, q_mul]; exact un_mul (un_q3 (rr hi hb ht ⟨by decide, by decide⟩)) (un_mul (un_q3 (rr hi ha ht ⟨by decide, by decide⟩)) (un_q3 (rr hi ha ht ⟨by decide, by decide⟩)))) hnz) (by rw [q_mul, q_mul, qe2, rmul_comm]; exact eqf.rf _))) m2
        rw [← hx] at ml
        rw [e17] at m3
        refine x_iinc (pc2 := 243) (loc2 := [_, _, _, _, _, _, _, _, _, _]) hC (by decide) rfl rfl dX8_takeOff_240 rfl ?_
        refine x_goto (pc2 := 157) hC dX8_takeOff_243 rfl ?_
        exact next _ _ _ _ _ (hR1.K ((((FrK.f (by decide)).tr gg.K)).tr m5)) (hmk.step ht (e := 3) ⟨by decide, by decide⟩ (fun t0 e0 => ⟨fun y => by omega, fun y => by omega⟩) ml m3 (fun n hn => by rw [m4 n (by omega), e10]))
  have inner0 : ∀ (t : Int), isT t → ((hasB S c0 2 ∧ hasB S a 2 ∧ hasB S b 2) ∧ ((0 : Int) = 0 ∨ (0 : Int) = 1)) → (takeF (nmT S b t 0) (nmT S a t 0)).1 ≠ (0, 0) → (∀ (F2 : Nat → Nat → Int) (A2 : Nat → Int → Int) (e6 e7 e8 e9 : Option PV), RepM S F2 A2 → MkD (fun t e => takeX (nmT S b t 0) (nmT S a t 0) (if (0 : Int) = 0 then e else 3 - e)) (A2 10) (F2 0 17) (fun t0 e0 => t0 < t + 1) → X p l e { frames := 6, cells := 0, slots := 0, locals := 145 } s m args below meth c (MQ below (QX D ids β sh N R (pIr (fun z F2 A2 => ∃ S2, rTake S c0 a b 0 z S2 ∧ RepM S2 F2 A2))) args s 0 0 (inG β N)) (inG β N) D ids β sh 10 0 0 N R F2 A2 [some (rf 0), some (pI c0), some (pI a), some (pI b), some (pI 0), some (pI (t + 1)), e6, e7, e8, e9] [] 148) → ∀ (d : Nat) (k : Int) (F1 : Nat → Nat → Int) (A1 : Nat → Int → Int) (e7 e8 e9 : Option PV), 4 - k < d → 0 ≤ k → k ≤ 4 → RepM S F1 A1 → MkD (fun t e => takeX (nmT S b t 0) (nmT S a t 0) (if (0 : Int) = 0 then e else 3 - e)) (A1 10) (F1 0 17) (fun t0 e0 => t0 < t ∨ (t0 = t ∧ e0 < k)) → X p l e { frames := 6, cells := 0, slots := 0, locals := 145 } s m args below meth c (MQ below (QX D ids β sh N R (pIr (fun z F2 A2 => ∃ S2, rTake S c0 a b 0 z S2 ∧ RepM S2 F2 A2))) args s 0 0 (inG β N)) (inG β N) D ids β sh 10 0 0 N R F1 A1 [some (rf 0), some (pI c0), some (pI a), some (pI b), some (pI 0), some (pI t), some (pI k), e7, e8, e9] [] 157 := by
    intro t ht hok hdn next d
    induction d with
    | zero => intro k F1 A1 e7 e8 e9 hd; omega
    | succ d ih =>
      intro k F1 A1 e7 e8 e9 hd k0 k4 hR1 hmk
      have h17 : F1 0 17 = 0 ∨ F1 0 17 = 1 := by rcases hmk.1 with ⟨q, -⟩ | ⟨q, -⟩ <;> omega
      refine x_iload (pc2 := 159) hC rfl dX8_takeOff_157 rfl ?_
      refine x_iconst (pc2 := 160) hC dX8_takeOff_159 rfl ?_
      refine x_icmp_ge (tgt := 246) (pc2 := 163) hC (by omega) (by omega) dX8_takeOff_160 rfl rfl (fun h_160 => ?_) (fun h_160 => ?_)
      · refine x_iinc (pc2 := 249) (loc2 := [_, _, _, _, _, _, _, _, _, _]) hC (by decide) rfl rfl dX8_takeOff_246 rfl ?_
        refine x_goto (pc2 := 148) hC dX8_takeOff_249 rfl ?_
        refine next F1 A1 _ _ _ _ hR1 ?_
        obtain ⟨g1, g2⟩ := hmk
        refine ⟨?_, fun t0 e0 h1 h2 q => g2 t0 e0 h1 h2 (by omega)⟩
        rcases g1 with ⟨q1, q2⟩ | q
        · exact Or.inl ⟨q1, fun t0 e0 h1 h2 q => q2 t0 e0 h1 h2 (by omega)⟩
        · exact Or.inr q
      · rcases (show k = 0 ∨ k = 1 ∨ k = 2 ∨ k = 3 by omega) with rfl | rfl | rfl | rfl
        · exact body00 t F1 A1 ht hok.1.1.1 hok.1.2.1.1 hok.1.2.2.1 hR1 h17 hdn hmk (fun F2 A2 f7 f8 f9 g1 g2 => ih 1 F2 A2 f7 f8 f9 (by omega) (by decide) (by decide) g1 g2)
        · exact body01 t F1 A1 ht hok.1.1.1 hok.1.2.1.1 hok.1.2.2.1 hR1 h17 hdn hmk (fun F2 A2 f7 f8 f9 g1 g2 => ih 2 F2 A2 f7 f8 f9 (by omega) (by decide) (by decide) g1 g2)
        · exact body02 t F1 A1 ht hok.1.1.1 hok.1.2.1.1 hok.1.2.2.1 hR1 h17 hdn hmk (fun F2 A2 f7 f8 f9 g1 g2 => ih 3 F2 A2 f7 f8 f9 (by omega) (by decide) (by decide) g1 g2)
        · exact body03 t F1 A1 ht hok.1.1.1 hok.1.2.1.1 hok.1.2.2.1 hR1 h17 hdn hmk (fun F2 A2 f7 f8 f9 g1 g2 => ih 4 F2 A2 f7 f8 f9 (by omega) (by decide) (by decide) g1 g2)
  have outer0 : ((hasB S c0 2 ∧ hasB S a 2 ∧ hasB S b 2) ∧ ((0 : Int) = 0 ∨ (0 : Int) = 1)) → (∀ t, isT t → (fun t => takeD (nmT S b t 0) (nmT S a t 0)) t = 0) → ∀ (d : Nat) (t : Int) (F1 : Nat → Nat → Int) (A1 : Nat → Int → Int) (e6 e7 e8 e9 : Option PV), 4 - t < d → 0 ≤ t → t ≤ 4 → RepM S F1 A1 → MkD (fun t e => takeX (nmT S b t 0) (nmT S a t 0) (if (0 : Int) = 0 then e else 3 - e)) (A1 10) (F1 0 17) (fun t0 e0 => t0 < t) → X p l e { frames := 6, cells := 0, slots := 0, locals := 145 } s m args below meth c (MQ below (QX D ids β sh N R (pIr (fun z F2 A2 => ∃ S2, rTake S c0 a b 0 z S2 ∧ RepM S2 F2 A2))) args s 0 0 (inG β N)) (inG β N) D ids β sh 10 0 0 N R F1 A1 [some (rf 0), some (pI c0), some (pI a), some (pI b), some (pI 0), some (pI t), e6, e7, e8, e9] [] 148 := by
    intro hok hdv d
    induction d with
    | zero => intro t F1 A1 e6 e7 e8 e9 hd; omega
    | succ d ih =>
      intro t F1 A1 e6 e7 e8 e9 hd t0 t4 hR1 hmk
      have hdn : isT t → (takeF (nmT S b t 0) (nmT S a t 0)).1 ≠ (0, 0) := fun ht y => by
        have h3 : takeD (nmT S b t 0) (nmT S a t 0) = 0 := hdv t ht
        unfold takeD at h3
        by_cases p1 : (nmT S b t 0 1).1 = (0, 0)
        · rw [itC_pos p1] at h3; exact absurd h3 (by decide)
        · rw [itC_neg p1] at h3
          by_cases p2 : (nmT S b t 0 2).1 = (0, 0)
          · rw [itC_pos p2] at h3; exact absurd h3 (by decide)
          · rw [itC_neg p2, itC_pos y] at h3; exact absurd h3 (by decide)
      refine x_iload (pc2 := 150) hC rfl dX8_takeOff_148 rfl ?_
      refine x_iconst (pc2 := 151) hC dX8_takeOff_150 rfl ?_
      refine x_icmp_ge (tgt := 252) (pc2 := 154) hC (by omega) (by omega) dX8_takeOff_151 rfl rfl (fun h_151 => ?_) (fun h_151 => ?_)
      · obtain ⟨hb17, w, hwf, hm1, hm2, hm3⟩ := hmk.ends hi hok.1.1.1 (fun t0 e0 h1 h2 q => absurd (show t0 < t by omega) q) (fun y => absurd (hok.1.1.2.symm.trans y) (by decide))
        refine x_aload_n (pc2 := 253) hC rfl rfl dX8_takeOff_252 rfl ?_
        refine x_iload_n (pc2 := 254) hC rfl rfl dX8_takeOff_253 rfl ?_
        refine x_cVi (pc2 := 257) (ci := 8) hC hK (q_ends l hM hR1 hok.1.1.1 hwf hb17 hm1) lk_957 rfl rfl (by decide) (by assumption) (by assumption) ⟨Nat.le_of_ble_eq_true rfl, Nat.le_of_ble_eq_true rfl⟩ ⟨Nat.le_refl _, Nat.le_refl _⟩ rfl (Nat.le_of_ble_eq_true rfl) dX8_takeOff_254 rfl ?_
        rintro z254 F254 A254 hq
        obtain ⟨S2, hs2, hR2⟩ : ∃ S2, ((F1 0 17 = 1 ∧ z254 = -5 ∧ S2 = S) ∨ (F1 0 17 = 0 ∧ z254 = 0 ∧ S2 = actS S c0 w)) ∧ RepM S2 F254 A254 := by
          rcases hq with ⟨q1, q2, q3⟩ | ⟨q1, q2, q3⟩
          · exact ⟨_, Or.inl ⟨q1, q2, rfl⟩, q3⟩
          · exact ⟨_, Or.inr ⟨q1, q2, rfl⟩, q3⟩
        exact x_iret hC hr hlk ⟨_, rfl, S2, Or.inr ⟨hok, spAct.ok hdv hm2 hm3 hs2⟩, hR2⟩ dX8_takeOff_257
      · refine x_iconst (pc2 := 155) hC dX8_takeOff_154 rfl ?_
        refine x_istore (pc2 := 157) (loc2 := [_, _, _, _, _, _, _, _, _, _]) hC (by decide) rfl dX8_takeOff_155 rfl ?_
        have ht : isT t := by omega
        refine inner0 t ht hok (hdn ht) (fun F2 A2 f6 f7 f8 f9 g1 g2 => ih (t + 1) F2 A2 f6 f7 f8 f9 (by omega) (by omega) (by omega) g1 g2) 5 0 F1 A1 _ _ _ (by decide) (by decide) (by decide) hR1 ?_
        obtain ⟨g1, g2⟩ := hmk
        refine ⟨?_, fun t0 e0 h1 h2 q => g2 t0 e0 h1 h2 (by omega)⟩
        rcases g1 with ⟨q1, q2⟩ | q
        · exact Or.inl ⟨q1, fun t0 e0 h1 h2 q => q2 t0 e0 h1 h2 (by omega)⟩
        · exact Or.inr q
  have loop0 : ((hasB S c0 2 ∧ hasB S a 2 ∧ hasB S b 2) ∧ ((0 : Int) = 0 ∨ (0 : Int) = 1)) → ∀ (d : Nat) (t : Int) (F1 : Nat → Nat → Int) (A1 : Nat → Int → Int), 4 - t < d → 0 ≤ t → t ≤ 4 → RepM S F1 A1 → (∀ s, 0 ≤ s → s < t → (fun t => takeD (nmT S b t 0) (nmT S a t 0)) s = 0) → X p l e { frames := 6, cells := 0, slots := 0, locals := 145 } s m args below meth c (MQ below (QX D ids β sh N R (pIr (fun z F2 A2 => ∃ S2, rTake S c0 a b 0 z S2 ∧ RepM S2 F2 A2))) args s 0 0 (inG β N)) (inG β N) D ids β sh 10 0 0 N R F1 A1 [some (rf 0), some (pI c0), some (pI a), some (pI b), some (pI 0), some (pI t), none, none, none, none] [] 43 := by
    intro hok d
    induction d with
    | zero => intro t F1 A1 hd; omega
    | succ d ih =>
      intro t F1 A1 hd t0 t4 hR1 hdv
      obtain ⟨⟨⟨hc2, -⟩, ⟨ha, -⟩, hb, -⟩, -⟩ := id hok
      have a16 := ha.2
      have b16 := hb.2
      have a00 := ha.1
      have b00 := hb.1
      have hb6 := hR1.2.2.2.2.2.2.1
      refine x_iload (pc2 := 45) hC rfl dX8_takeOff_43 rfl ?_
      refine x_iconst (pc2 := 46) hC dX8_takeOff_45 rfl ?_
      refine x_icmp_ge (tgt := 141) (pc2 := 49) hC (by omega) (by omega) dX8_takeOff_46 rfl rfl (fun h_46 => ?_) (fun h_46 => ?_)
      · refine x_aload_n (pc2 := 142) hC rfl rfl dX8_takeOff_141 rfl ?_
        refine x_cVv (pc2 := 145) (ci := 8) hC hK (n_begins l hM) lk_1036 rfl rfl (by decide) (by assumption) (by assumption) ⟨Nat.le_of_ble_eq_true rfl, Nat.le_of_ble_eq_true rfl⟩ ⟨Nat.le_refl _, Nat.le_refl _⟩ rfl (Nat.le_of_ble_eq_true rfl) dX8_takeOff_142 rfl ?_
        rintro F142 A142 ⟨e1142, e2142, e3142⟩
        have hRb : RepM S F142 A142 := by rw [e1142]; exact hR1.of (fun j hj => uF_nj (by omega)) (fun b hb => e2142 b (by omega))
        have h17b : F142 0 17 = 0 := by rw [e1142, uF_eq]
        refine x_iconst (pc2 := 146) hC dX8_takeOff_145 rfl ?_
        refine x_istore (pc2 := 148) (loc2 := [_, _, _, _, _, _, _, _, _, _]) hC (by decide) rfl dX8_takeOff_146 rfl ?_
        exact outer0 hok (fun s hs => hdv s hs.1 (by omega)) 5 0 F142 A142 _ _ _ _ (by decide) (by decide) (by decide) hRb (by rw [h17b]; exact MkD.nil (fun t e ht _ => by omega) e3142)
      · have ht : isT t := by omega
        refine x_aload_n (pc2 := 50) hC rfl rfl dX8_takeOff_49 rfl ?_
        refine x_iconst (pc2 := 51) hC dX8_takeOff_50 rfl ?_
        refine p_819 (pc2 := 54) hC hK (by assumption) (by assumption) dX8_takeOff_51 rfl ?_
        refine x_aload_n (pc2 := 55) hC rfl rfl dX8_takeOff_54 rfl ?_
        refine x_aload_n (pc2 := 56) hC rfl rfl dX8_takeOff_55 rfl ?_
        refine x_iload_n (pc2 := 57) hC rfl rfl dX8_takeOff_56 rfl ?_
        refine x_iload (pc2 := 59) hC rfl dX8_takeOff_57 rfl ?_
        refine x_iload (pc2 := 61) hC rfl dX8_takeOff_59 rfl ?_
        refine x_iconst (pc2 := 62) hC dX8_takeOff_61 rfl ?_
        refine x_iload (pc2 := 64) hC rfl dX8_takeOff_62 rfl ?_
        refine x_isub (pc2 := 65) hC dX8_takeOff_64 rfl ?_
        refine x_cVi (pc2 := 68) (ci := 8) hC hK (t_entry l hM (St.zero (F := F1) (A := A1)) (by decide) ⟨by omega, by omega⟩ (x := vS S b t 1) (show held (A1 2) (96 * b + 24 * t + 6 * (2 * 0 + 1)) (vS S b t 1) from hb6 b t 1 hb ht ⟨by decide, by decide⟩) ((hi.2.1 b hb).2 t 1 ht ⟨by decide, by decide⟩).1.2.2) lk_985 rfl rfl (by decide) (by assumption) (by assumption) ⟨Nat.le_of_ble_eq_true rfl, Nat.le_of_ble_eq_true rfl⟩ ⟨Nat.le_refl _, Nat.le_refl _⟩ rfl (Nat.le_of_ble_eq_true rfl) dX8_takeOff_65 rfl ?_
        rintro z65 F65 A65 ⟨ez65, V65, hS65, v65, k65, g65⟩
        obtain rfl := ez65.symm
        replace hS65 : St 18 V65 F65 A65 := hS65
        rw [show (0 : Int) + 15 = 15 from rfl]
        obtain ⟨wi065, ewi065⟩ : ∃ w : T3, w = vS S b t 1 := ⟨_, rfl⟩
        have uwi065 : tr V65 15 = wi065 := by rw [ewi065]; exact v65
        have bwi065 : bdt 25 25 wi065 := by rw [ewi065]; exact (ok_bdt ((hi.2.1 b hb).2 t 1 ht ⟨by decide, by decide⟩).1)
        clear v65
        refine x_cVi (pc2 := 71) (ci := 8) hC hK (t_zero l hM hS65 (x := 15) ⟨by decide, by decide⟩ uwi065) lk_1024 rfl rfl (by decide) (by assumption) (by assumption) ⟨Nat.le_of_ble_eq_true rfl, Nat.le_of_ble_eq_true rfl⟩ ⟨Nat.le_refl _, Nat.le_refl _⟩ rfl (Nat.le_of_ble_eq_true rfl) dX8_takeOff_68 rfl ?_
        rintro z68 F68 A68 ⟨w68, b68, e168, e268⟩
        obtain rfl := e168.symm
        obtain rfl := e268.symm
        have hRz1 : RepM S F65 A65 := hR1.K ((FrK.f (by decide)).tr g65.K)
        have hz1 := (b68 ()).trans (z3_iff (y := nmT S b t 0 1) (x := wi065) (by rw [ewi065]; rfl))
        refine x_if_eq (tgt := 82) (pc2 := 74) hC (by omega) dX8_takeOff_71 rfl rfl (fun h_71 => ?_) (fun h_71 => ?_)
        · refine x_aload_n (pc2 := 83) hC rfl rfl dX8_takeOff_82 rfl ?_
          refine x_aload_n (pc2 := 84) hC rfl rfl dX8_takeOff_83 rfl ?_
          refine x_iload_n (pc2 := 85) hC rfl rfl dX8_takeOff_84 rfl ?_
          refine x_iload (pc2 := 87) hC rfl dX8_takeOff_85 rfl ?_
          refine x_iconst (pc2 := 88) hC dX8_takeOff_87 rfl ?_
          refine x_iload (pc2 := 90) hC rfl dX8_takeOff_88 rfl ?_
          refine x_isub (pc2 := 91) hC dX8_takeOff_90 rfl ?_
          refine x_iload (pc2 := 93) hC rfl dX8_takeOff_91 rfl ?_
          refine x_cVi (pc2 := 96) (ci := 8) hC hK (t_entry l hM hS65 (by decide) ⟨by omega, by omega⟩ (x := vS S b t 2) (by rw [g65.a (by decide)]; exact (show held (A1 2) (96 * b + 24 * t + 6 * (2 * 1 + 0)) (vS S b t 2) from hb6 b t 2 hb ht ⟨by decide, by decide⟩)) ((hi.2.1 b hb).2 t 2 ht ⟨by decide, by decide⟩).1.2.2) lk_985 rfl rfl (by decide) (by assumption) (by assumption) ⟨Nat.le_of_ble_eq_true rfl, Nat.le_of_ble_eq_true rfl⟩ ⟨Nat.le_refl _, Nat.le_refl _⟩ rfl (Nat.le_of_ble_eq_true rfl) dX8_takeOff_93 rfl ?_
          rintro z93 F93 A93 ⟨ez93, V93, hS93, v93, k93, g93⟩
          obtain rfl := ez93.symm
          replace hS93 : St 36 V93 F93 A93 := hS93
          have t93_wi065 : tr V93 15 = wi065 := (tr_keep (by decide) k93).trans uwi065
          rw [show (18 : Int) + 15 = 33 from rfl]
          obtain ⟨wi093, ewi093⟩ : ∃ w : T3, w = vS S b t 2 := ⟨_, rfl⟩
          have uwi093 : tr V93 33 = wi093 := by rw [ewi093]; exact v93
          have bwi093 : bdt 25 25 wi093 := by rw [ewi093]; exact (ok_bdt ((hi.2.1 b hb).2 t 2 ht ⟨by decide, by decide⟩).1)
          clear v93
          refine x_cVi (pc2 := 99) (ci := 8) hC hK (t_zero l hM hS93 (x := 33) ⟨by decide, by decide⟩ uwi093) lk_1024 rfl rfl (by decide) (by assumption) (by assumption) ⟨Nat.le_of_ble_eq_true rfl, Nat.le_of_ble_eq_true rfl⟩ ⟨Nat.le_refl _, Nat.le_refl _⟩ rfl (Nat.le_of_ble_eq_true rfl) dX8_takeOff_96 rfl ?_
          rintro z96 F96 A96 ⟨w96, b96, e196, e296⟩
          obtain rfl := e196.symm
          obtain rfl := e296.symm
          have hRz2 : RepM S F93 A93 := hR1.K ((FrK.f (by decide)).tr (g65.tr g93).K)
          have hz2 := (b96 ()).trans (z3_iff (y := nmT S b t 0 2) (x := wi093) (by rw [ewi093]; rfl))
          refine x_if_eq (tgt := 110) (pc2 := 102) hC (by omega) dX8_takeOff_99 rfl rfl (fun h_99 => ?_) (fun h_99 => ?_)
          · refine x_aload_n (pc2 := 111) hC rfl rfl dX8_takeOff_110 rfl ?_
            refine x_aload_n (pc2 := 112) hC rfl rfl dX8_takeOff_111 rfl ?_
            refine x_iload_n (pc2 := 113) hC rfl rfl dX8_takeOff_112 rfl ?_
            refine x_iload_n (pc2 := 114) hC rfl rfl dX8_takeOff_113 rfl ?_
            refine x_iload (pc2 := 116) hC rfl dX8_takeOff_114 rfl ?_
            refine x_iload (pc2 := 118) hC rfl dX8_takeOff_116 rfl ?_
            refine x_cVi (pc2 := 121) (ci := 8) hC hK (t_left36_0 l hM hRz2 hS93 ha hb ht) lk_1060 rfl rfl (by decide) (by assumption) (by assumption) ⟨Nat.le_of_ble_eq_true rfl, Nat.le_of_ble_eq_true rfl⟩ ⟨Nat.le_refl _, Nat.le_refl _⟩ rfl (Nat.le_of_ble_eq_true rfl) dX8_takeOff_118 rfl ?_
            rintro z118 F118 A118 ⟨ez118, V118, hS118, v118, k118, g118⟩
            obtain rfl := ez118.symm
            replace hS118 : St 173 V118 F118 A118 := hS118
            have t118_wi065 : tr V118 15 = wi065 := (tr_keep (by decide) k118).trans t93_wi065
            have t118_wi093 : tr V118 33 = wi093 := (tr_keep (by decide) k118).trans uwi093
            rw [show (36 : Int) + 134 = 170 from rfl]
            obtain ⟨wi0118, ewi0118⟩ : ∃ w : T3, w = tadd (tmul (vS S b t 3) (tadd (vS S a t 0) (tneg (vS S b t 0)))) (tmul (vS S b t 1) (vS S b t 2)) := ⟨_, rfl⟩
            have uwi0118 : tr V118 170 = wi0118 := by rw [ewi0118]; exact v118
            have bwi0118 : bdt 128 125 wi0118 := by rw [ewi0118]; exact (bdt_add (a := 77) (c := 75) (b := 51) (d := 50) (bdt_mul (a := 25) (c := 25) (b := 51) (d := 50) (ok_bdt ((hi.2.1 b hb).2 t 3 ht ⟨by decide, by decide⟩).1) (bdt_add (ok_bdt ((hi.2.1 a ha).2 t 0 ht ⟨by decide, by decide⟩).1) (bdt_neg (ok_bdt ((hi.2.1 b hb).2 t 0 ht ⟨by decide, by decide⟩).1)) (by decide) (by decide) (by decide)) (by decide) (by decide)) (bdt_mul (ok_bdt ((hi.2.1 b hb).2 t 1 ht ⟨by decide, by decide⟩).1) (ok_bdt ((hi.2.1 b hb).2 t 2 ht ⟨by decide, by decide⟩).1) (by decide) (by decide)) (by decide) (by decide) (by decide))
            clear v118
            refine x_cVi (pc2 := 124) (ci := 8) hC hK (t_zero l hM hS118 (x := 170) ⟨by decide, by decide⟩ uwi0118) lk_1024 rfl rfl (by decide) (by assumption) (by assumption) ⟨Nat.le_of_ble_eq_true rfl, Nat.le_of_ble_eq_true rfl⟩ ⟨Nat.le_refl _, Nat.le_refl _⟩ rfl (Nat.le_of_ble_eq_true rfl) dX8_takeOff_121 rfl ?_
            rintro z121 F121 A121 ⟨w121, b121, e1121, e2121⟩
            obtain rfl := e1121.symm
            obtain rfl := e2121.symm
            have hRz3 : RepM S F118 A118 := hR1.K ((FrK.f (by decide)).tr ((g65.tr g93).tr g118).K)
            have qe2 : q3 wi0118 = takeF (nmT S b t 0) (nmT S a t 0) := by rw [ewi0118, q_add, q_mul, q_mul, q_sub, rsum1_comm]; rfl
            have hz3 := (b121 ()).trans (z3_iff qe2)
            refine x_if_eq (tgt := 135) (pc2 := 127) hC (by omega) dX8_takeOff_124 rfl rfl (fun h_124 => ?_) (fun h_124 => ?_)
            · refine x_iinc (pc2 := 138) (loc2 := [_, _, _, _, _, _, _, _, _, _]) hC (by decide) rfl rfl dX8_takeOff_135 rfl ?_
              refine x_goto (pc2 := 43) hC dX8_takeOff_138 rfl ?_
              refine ih (t + 1) _ _ (by omega) (by omega) (by omega) hRz3 (fun s s0 s1 => ?_)
              by_cases y : s = t
              · rw [y]
                exact ((itC_neg (fun z => absurd h_71 (hz1.mpr z))).trans ((itC_neg (fun z => absurd h_99 (hz2.mpr z))).trans (itC_neg (fun z => absurd h_124 (hz3.mpr z)))))
              · exact hdv s s0 (by omega)
            · refine x_aload_n (pc2 := 128) hC rfl rfl dX8_takeOff_127 rfl ?_
              refine x_iload (pc2 := 130) hC rfl dX8_takeOff_128 rfl ?_
              refine x_iconst (pc2 := 131) hC dX8_takeOff_130 rfl ?_
              refine x_cVi (pc2 := 134) (ci := 8) hC hK (q_refuses l hM hRz3) lk_1032 rfl rfl (by decide) (by assumption) (by assumption) ⟨Nat.le_of_ble_eq_true rfl, Nat.le_of_ble_eq_true rfl⟩ ⟨Nat.le_refl _, Nat.le_refl _⟩ rfl (Nat.le_of_ble_eq_true rfl) dX8_takeOff_131 rfl ?_
              rintro z131 F131 A131 ⟨ez, hRf⟩
              exact x_iret hC hr hlk ⟨_, rfl, _, Or.inr ⟨hok, Or.inl ⟨t, ht, hdv, fun y => absurd ((show takeD (nmT S b t 0) (nmT S a t 0) = 3 from ((itC_neg (fun z => absurd h_71 (hz1.mpr z))).trans ((itC_neg (fun z => absurd h_99 (hz2.mpr z))).trans (itC_pos (hz3.mp h_124))))).symm.trans y) (by decide), ez, congrArg (noS S t) (show takeD (nmT S b t 0) (nmT S a t 0) = 3 from ((itC_neg (fun z => absurd h_71 (hz1.mpr z))).trans ((itC_neg (fun z => absurd h_99 (hz2.mpr z))).trans (itC_pos (hz3.mp h_124))))).symm⟩⟩, hRf⟩ dX8_takeOff_134
          · refine x_aload_n (pc2 := 103) hC rfl rfl dX8_takeOff_102 rfl ?_
            refine x_iload (pc2 := 105) hC rfl dX8_takeOff_103 rfl ?_
            refine x_iconst (pc2 := 106) hC dX8_takeOff_105 rfl ?_
            refine x_cVi (pc2 := 109) (ci := 8) hC hK (q_refuses l hM hRz2) lk_1032 rfl rfl (by decide) (by assumption) (by assumption) ⟨Nat.le_of_ble_eq_true rfl, Nat.le_of_ble_eq_true rfl⟩ ⟨Nat.le_refl _, Nat.le_refl _⟩ rfl (Nat.le_of_ble_eq_true rfl) dX8_takeOff_106 rfl ?_
            rintro z106 F106 A106 ⟨ez, hRf⟩
            exact x_iret hC hr hlk ⟨_, rfl, _, Or.inr ⟨hok, Or.inl ⟨t, ht, hdv, fun y => absurd ((show takeD (nmT S b t 0) (nmT S a t 0) = 2 from ((itC_neg (fun z => absurd h_71 (hz1.mpr z))).trans (itC_pos (hz2.mp h_99)))).symm.trans y) (by decide), ez, congrArg (noS S t) (show takeD (nmT S b t 0) (nmT S a t 0) = 2 from ((itC_neg (fun z => absurd h_71 (hz1.mpr z))).trans (itC_pos (hz2.mp h_99)))).symm⟩⟩, hRf⟩ dX8_takeOff_109
        · refine x_aload_n (pc2 := 75) hC rfl rfl dX8_takeOff_74 rfl ?_
          refine x_iload (pc2 := 77) hC rfl dX8_takeOff_75 rfl ?_
          refine x_iconst (pc2 := 78) hC dX8_takeOff_77 rfl ?_
          refine x_cVi (pc2 := 81) (ci := 8) hC hK (q_refuses l hM hRz1) lk_1032 rfl rfl (by decide) (by assumption) (by assumption) ⟨Nat.le_of_ble_eq_true rfl, Nat.le_of_ble_eq_true rfl⟩ ⟨Nat.le_refl _, Nat.le_refl _⟩ rfl (Nat.le_of_ble_eq_true rfl) dX8_takeOff_78 rfl ?_
          rintro z78 F78 A78 ⟨ez, hRf⟩
          exact x_iret hC hr hlk ⟨_, rfl, _, Or.inr ⟨hok, Or.inl ⟨t, ht, hdv, fun y => absurd ((show takeD (nmT S b t 0) (nmT S a t 0) = 1 from (itC_pos (hz1.mp h_71))).symm.trans y) (by decide), ez, congrArg (noS S t) (show takeD (nmT S b t 0) (nmT S a t 0) = 1 from (itC_pos (hz1.mp h_71))).symm⟩⟩, hRf⟩ dX8_takeOff_81
  have body10 : ∀ (t : Int) (F1 : Nat → Nat → Int) (A1 : Nat → Int → Int) {e7 e8 e9 : Option PV}, isT t → isB S c0 → isB S a → isB S b → RepM S F1 A1 → (F1 0 17 = 0 ∨ F1 0 17 = 1) → (takeF (nmT S b t 1) (nmT S a t 1)).1 ≠ (0, 0) → MkD (fun t e => takeX (nmT S b t 1) (nmT S a t 1) (if (1 : Int) = 0 then e else 3 - e)) (A1 10) (F1 0 17) (fun t0 e0 => t0 < t ∨ (t0 = t ∧ 3 - e0 < 0)) → (∀ (F2 : Nat → Nat → Int) (A2 : Nat → Int → Int) (f7 f8 f9 : Option PV), RepM S F2 A2 → MkD (fun t e => takeX (nmT S b t 1) (nmT S a t 1) (if (1 : Int) = 0 then e else 3 - e)) (A2 10) (F2 0 17) (fun t0 e0 => t0 < t ∨ (t0 = t ∧ 3 - e0 < 1)) → X p l e { frames := 6, cells := 0, slots := 0, locals := 145 } s m args below meth c (MQ below (QX D ids β sh N R (pIr (fun z F2 A2 => ∃ S2, rTake S c0 a b 1 z S2 ∧ RepM S2 F2 A2))) args s 0 0 (inG β N)) (inG β N) D ids β sh 10 0 0 N R F2 A2 [some (rf 0), some (pI c0), some (pI a), some (pI b), some (pI 1), some (pI t), some (pI 1), f7, f8, f9] [] 157) → X p l e { frames := 6, cells := 0, slots := 0, locals := 145 } s m args below meth c (MQ below (QX D ids β sh N R (pIr (fun z F2 A2 => ∃ S2, rTake S c0 a b 1 z S2 ∧ RepM S2 F2 A2))) args s 0 0 (inG β N)) (inG β N) D ids β sh 10 0 0 N R F1 A1 [some (rf 0), some (pI c0), some (pI a), some (pI b), some (pI 1), some (pI t), some (pI 0), e7, e8, e9] [] 163 := by
    intro t F1 A1 e7 e8 e9 ht hc2 ha hb hR1 h17 hdn hmk next
    have hb6 := hR1.2.2.2.2.2.2.1
    have a16 := ha.2
    have b16 := hb.2
    have a00 := ha.1
    have b00 := hb.1
    refine x_aload_n (pc2 := 164) hC rfl rfl dX8_takeOff_163 rfl ?_
    refine x_iconst (pc2 := 165) hC dX8_takeOff_164 rfl ?_
    refine p_819 (pc2 := 168) hC hK (by assumption) (by assumption) dX8_takeOff_165 rfl ?_
    refine x_iload (pc2 := 170) hC rfl dX8_takeOff_168 rfl ?_
    refine x_iconst (pc2 := 171) hC dX8_takeOff_170 rfl ?_
    refine x_idivp (pc2 := 172) hC (by omega) (by omega) (by omega) (by omega) dX8_takeOff_171 rfl ?_
    refine x_istore (pc2 := 174) (loc2 := [_, _, _, _, _, _, _, _, _, _]) hC (by decide) rfl dX8_takeOff_172 rfl ?_
    refine x_iload (pc2 := 176) hC rfl dX8_takeOff_174 rfl ?_
    refine x_iconst (pc2 := 177) hC dX8_takeOff_176 rfl ?_
    refine x_iremp (pc2 := 178) hC (by omega) (by omega) (by omega) (by omega) dX8_takeOff_177 rfl ?_
    refine x_istore (pc2 := 180) (loc2 := [_, _, _, _, _, _, _, _, _, _]) hC (by decide) rfl dX8_takeOff_178 rfl ?_
    refine x_aload_n (pc2 := 181) hC rfl rfl dX8_takeOff_180 rfl ?_
    refine x_iload_n (pc2 := 182) hC rfl rfl dX8_takeOff_181 rfl ?_
    refine x_iload_n (pc2 := 183) hC rfl rfl dX8_takeOff_182 rfl ?_
    refine x_iload (pc2 := 185) hC rfl dX8_takeOff_183 rfl ?_
    refine x_iload (pc2 := 187) hC rfl dX8_takeOff_185 rfl ?_
    refine x_cVi (pc2 := 190) (ci := 8) hC hK (t_left0_1 l hM (hR1.K (FrK.f (by decide))) (St.zero (F := F1) (A := A1)) ha hb ht) lk_1060 rfl rfl (by decide) (by assumption) (by assumption) ⟨Nat.le_of_ble_eq_true rfl, Nat.le_of_ble_eq_true rfl⟩ ⟨Nat.le_refl _, Nat.le_refl _⟩ rfl (Nat.le_of_ble_eq_true rfl) dX8_takeOff_187 rfl ?_
    rintro z187 F187 A187 ⟨ez187, V187, hS187, v187, k187, g187⟩
    obtain rfl := ez187.symm
    replace hS187 : St 137 V187 F187 A187 := hS187
    rw [show (0 : Int) + 134 = 134 from rfl]
    obtain ⟨wb10_187, ewb10_187⟩ : ∃ w : T3, w = tadd (tmul (vS S b t 0) (tadd (vS S a t 3) (tneg (vS S b t 3)))) (tmul (vS S b t 2) (vS S b t 1)) := ⟨_, rfl⟩
    have uwb10_187 : tr V187 134 = wb10_187 := by rw [ewb10_187]; exact v187
    have bwb10_187 : bdt 128 125 wb10_187 := by rw [ewb10_187]; exact (bdt_add (a := 77) (c := 75) (b := 51) (d := 50) (bdt_mul (a := 25) (c := 25) (b := 51) (d := 50) (ok_bdt ((hi.2.1 b hb).2 t 0 ht ⟨by decide, by decide⟩).1) (bdt_add (ok_bdt ((hi.2.1 a ha).2 t 3 ht ⟨by decide, by decide⟩).1) (bdt_neg (ok_bdt ((hi.2.1 b hb).2 t 3 ht ⟨by decide, by decide⟩).1)) (by decide) (by decide) (by decide)) (by decide) (by decide)) (bdt_mul (ok_bdt ((hi.2.1 b hb).2 t 2 ht ⟨by decide, by decide⟩).1) (ok_bdt ((hi.2.1 b hb).2 t 1 ht ⟨by decide, by decide⟩).1) (by decide) (by decide)) (by decide) (by decide) (by decide))
    clear v187
    have hRe : RepM S F187 A187 := hR1.K ((FrK.f (by decide)).tr g187.K)
    refine x_istore (pc2 := 192) (loc2 := [_, _, _, _, _, _, _, _, _, _]) hC (by decide) rfl dX8_takeOff_190 rfl ?_
    refine x_aload_n (pc2 := 193) hC rfl rfl dX8_takeOff_192 rfl ?_
    refine x_iload (pc2 := 195) hC rfl dX8_takeOff_193 rfl ?_
    refine x_iload (pc2 := 197) hC rfl dX8_takeOff_195 rfl ?_
    refine x_if_ne (tgt := 205) (pc2 := 200) hC (by omega) dX8_takeOff_197 rfl rfl (fun h_197 => ?_) (fun h_197 => ?_)
    · refine x_iconst (pc2 := 206) hC dX8_takeOff_205 rfl ?_
      refine x_iload (pc2 := 208) hC rfl dX8_takeOff_206 rfl ?_
      refine x_isub (pc2 := 209) hC dX8_takeOff_208 rfl ?_
      refine x_iload (pc2 := 211) hC rfl dX8_takeOff_209 rfl ?_
      refine x_if_ne (tgt := 219) (pc2 := 214) hC (by omega) dX8_takeOff_211 rfl rfl (fun h_211 => ?_) (fun h_211 => ?_)
      · refine x_iconst (pc2 := 220) hC dX8_takeOff_219 rfl ?_
        refine x_iload (pc2 := 222) hC rfl dX8_takeOff_220 rfl ?_
        refine x_isub (pc2 := 223) hC dX8_takeOff_222 rfl ?_
        refine x_aload_n (pc2 := 224) hC rfl rfl dX8_takeOff_223 rfl ?_
        refine x_iload_n (pc2 := 225) hC rfl rfl dX8_takeOff_224 rfl ?_
        refine x_iload_n (pc2 := 226) hC rfl rfl dX8_takeOff_225 rfl ?_
        refine x_iload (pc2 := 228) hC rfl dX8_takeOff_226 rfl ?_
        refine x_iload (pc2 := 230) hC rfl dX8_takeOff_228 rfl ?_
        refine x_iload (pc2 := 232) hC rfl dX8_takeOff_230 rfl ?_
        refine x_iload (pc2 := 234) hC rfl dX8_takeOff_232 rfl ?_
        refine x_cVi (pc2 := 237) (ci := 8) hC hK (t_wo0_1 l hM hRe (by exact hS187) ha hb ht uwb10_187 bwb10_187) lk_1064 rfl rfl (by decide) (by assumption) (by assumption) ⟨Nat.le_of_ble_eq_true rfl, Nat.le_of_ble_eq_true rfl⟩ ⟨Nat.le_refl _, Nat.le_refl _⟩ rfl (Nat.le_of_ble_eq_true rfl) dX8_takeOff_234 rfl ?_
        rintro z234 F234 A234 ⟨ez234, V234, hS234, v234, k234, g234⟩
        obtain rfl := ez234.symm
        replace hS234 : St 212 V234 F234 A234 := hS234
        replace v234 : tr V234 209 = tquo (tadd (vS S a t 3) (tneg (vS S b t 3))) wb10_187 := v234
        rw [show (137 : Int) + 72 = 209 from rfl]
        have qe2 : q3 wb10_187 = takeF (nmT S b t 1) (nmT S a t 1) := by rw [ewb10_187, q_add, q_mul, q_mul, q_sub, rsum1_comm]; rfl
        have hz : ¬ (wb10_187.1 = 0 ∧ wb10_187.2.1 = 0) := fun y => hdn ((z3_iff qe2).mp y)
        have hnz : (q3 wb10_187).1 ≠ (0, 0) := fun y => hz ⟨congrArg Prod.fst y, congrArg Prod.snd y⟩
        have hrp : 0 < (tquo (tadd (vS S a t 3) (tneg (vS S b t 3))) wb10_187).2.2 := r_quo (r_add (rr hi ha ht ⟨by decide, by decide⟩) (show 0 < (tneg _).2.2 from (rr hi hb ht ⟨by decide, by decide⟩))) hz
        have gg := g187.tr g234
        have e17 : F234 0 17 = F1 0 17 := (gg.2.1 17 (by decide) (by decide) (by decide)).trans (by rw [uF_nj (by decide)])
        have e10 : A234 10 = A1 10 := gg.a (by decide)
        have hx : (fun t e => takeX (nmT S b t 1) (nmT S a t 1) (if (1 : Int) = 0 then e else 3 - e)) t 3 = takeX (nmT S b t 1) (nmT S a t 1) 0 := congrArg (takeX (nmT S b t 1) (nmT S a t 1)) ((if_neg (by decide)).trans (by decide))
        refine x_cVv (pc2 := 240) (ci := 8) hC hK (n_makes l hM hS234 (by decide) ht (i := 1 - 0 / 2) (j := 1 - 0 % 2) ⟨by decide, by decide⟩ (x := 209) ⟨by decide, by decide⟩ v234 hrp (by rw [e17]; exact h17)) lk_919 rfl rfl (by decide) (by assumption) (by assumption) ⟨Nat.le_of_ble_eq_true rfl, Nat.le_of_ble_eq_true rfl⟩ ⟨Nat.le_refl _, Nat.le_refl _⟩ rfl (Nat.le_of_ble_eq_true rfl) dX8_takeOff_237 rfl ?_
        rintro F237 A237 ⟨-, m2, m3, m4, m5⟩
        have ml := mk_low (x := takeX (nmT S b t 1) (nmT S a t 1) 0) hrp (takeX_un (hi.un (s := 1) hb ht) (hi.un (s := 1) ha ht) hdn 0) ((q_quo _ _).tr (un_div (by rw [q_sub]; exact un_sum (un_q3 (rr hi ha ht ⟨by decide, by decide⟩)) (un_q3 (rr hi hb ht ⟨by decide, by decide⟩))) hnz) (by rw [q_sub, qe2]; exact eqf.rf _)) m2
        rw [← hx] at ml
        rw [e17] at m3
        refine x_iinc (pc2 := 243) (loc2 := [_, _, _, _, _, _, _, _, _, _]) hC (by decide) rfl rfl dX8_takeOff_240 rfl ?_
        refine x_goto (pc2 := 157) hC dX8_takeOff_243 rfl ?_
        exact next _ _ _ _ _ (hR1.K ((((FrK.f (by decide)).tr gg.K)).tr m5)) (hmk.step ht (e := 3) ⟨by decide, by decide⟩ (fun t0 e0 => ⟨fun y => by omega, fun y => by omega⟩) ml m3 (fun n hn => by rw [m4 n (by omega), e10]))
      · exact absurd h_211 (by decide)
    · exact absurd h_197 (by decide)
  have body11 : ∀ (t : Int) (F1 : Nat → Nat → Int) (A1 : Nat → Int → Int) {e7 e8 e9 : Option PV}, isT t → isB S c0 → isB S a → isB S b → RepM S F1 A1 → (F1 0 17 = 0 ∨ F1 0 17 = 1) → (takeF (nmT S b t 1) (nmT S a t 1)).1 ≠ (0, 0) → MkD (fun t e => takeX (nmT S b t 1) (nmT S a t 1) (if (1 : Int) = 0 then e else 3 - e)) (A1 10) (F1 0 17) (fun t0 e0 => t0 < t ∨ (t0 = t ∧ 3 - e0 < 1)) → (∀ (F2 : Nat → Nat → Int) (A2 : Nat → Int → Int) (f7 f8 f9 : Option PV), RepM S F2 A2 → MkD (fun t e => takeX (nmT S b t 1) (nmT S a t 1) (if (1 : Int) = 0 then e else 3 - e)) (A2 10) (F2 0 17) (fun t0 e0 => t0 < t ∨ (t0 = t ∧ 3 - e0 < 2)) → X p l e { frames := 6, cells := 0, slots := 0, locals := 145 } s m args below meth c (MQ below (QX D ids β sh N R (pIr (fun z F2 A2 => ∃ S2, rTake S c0 a b 1 z S2 ∧ RepM S2 F2 A2))) args s 0 0 (inG β N)) (inG β N) D ids β sh 10 0 0 N R F2 A2 [some (rf 0), some (pI c0), some (pI a), some (pI b), some (pI 1), some (pI t), some (pI 2), f7, f8, f9] [] 157) → X p l e { frames := 6, cells := 0, slots := 0, locals := 145 } s m args below meth c (MQ below (QX D ids β sh N R (pIr (fun z F2 A2 => ∃ S2, rTake S c0 a b 1 z S2 ∧ RepM S2 F2 A2))) args s 0 0 (inG β N)) (inG β N) D ids β sh 10 0 0 N R F1 A1 [some (rf 0), some (pI c0), some (pI a), some (pI b), some (pI 1), some (pI t), some (pI 1), e7, e8, e9] [] 163 := by
    intro t F1 A1 e7 e8 e9 ht hc2 ha hb hR1 h17 hdn hmk next
    have hb6 := hR1.2.2.2.2.2.2.1
    have a16 := ha.2
    have b16 := hb.2
    have a00 := ha.1
    have b00 := hb.1
    refine x_aload_n (pc2 := 164) hC rfl rfl dX8_takeOff_163 rfl ?_
    refine x_iconst (pc2 := 165) hC dX8_takeOff_164 rfl ?_
    refine p_819 (pc2 := 168) hC hK (by assumption) (by assumption) dX8_takeOff_165 rfl ?_
    refine x_iload (pc2 := 170) hC rfl dX8_takeOff_168 rfl ?_
    refine x_iconst (pc2 := 171) hC dX8_takeOff_170 rfl ?_
    refine x_idivp (pc2 := 172) hC (by omega) (by omega) (by omega) (by omega) dX8_takeOff_171 rfl ?_
    refine x_istore (pc2 := 174) (loc2 := [_, _, _, _, _, _, _, _, _, _]) hC (by decide) rfl dX8_takeOff_172 rfl ?_
    refine x_iload (pc2 := 176) hC rfl dX8_takeOff_174 rfl ?_
    refine x_iconst (pc2 := 177) hC dX8_takeOff_176 rfl ?_
    refine x_iremp (pc2 := 178) hC (by omega) (by omega) (by omega) (by omega) dX8_takeOff_177 rfl ?_
    refine x_istore (pc2 := 180) (loc2 := [_, _, _, _, _, _, _, _, _, _]) hC (by decide) rfl dX8_takeOff_178 rfl ?_
    refine x_aload_n (pc2 := 181) hC rfl rfl dX8_takeOff_180 rfl ?_
    refine x_iload_n (pc2 := 182) hC rfl rfl dX8_takeOff_181 rfl ?_
    refine x_iload_n (pc2 := 183) hC rfl rfl dX8_takeOff_182 rfl ?_
    refine x_iload (pc2 := 185) hC rfl dX8_takeOff_183 rfl ?_
    refine x_iload (pc2 := 187) hC rfl dX8_takeOff_185 rfl ?_
    refine x_cVi (pc2 := 190) (ci := 8) hC hK (t_left0_1 l hM (hR1.K (FrK.f (by decide))) (St.zero (F := F1) (A := A1)) ha hb ht) lk_1060 rfl rfl (by decide) (by assumption) (by assumption) ⟨Nat.le_of_ble_eq_true rfl, Nat.le_of_ble_eq_true rfl⟩ ⟨Nat.le_refl _, Nat.le_refl _⟩ rfl (Nat.le_of_ble_eq_true rfl) dX8_takeOff_187 rfl ?_
    rintro z187 F187 A187 ⟨ez187, V187, hS187, v187, k187, g187⟩
    obtain rfl := ez187.symm
    replace hS187 : St 137 V187 F187 A187 := hS187
    rw [show (0 : Int) + 134 = 134 from rfl]
    obtain ⟨wb11_187, ewb11_187⟩ : ∃ w : T3, w = tadd (tmul (vS S b t 0) (tadd (vS S a t 3) (tneg (vS S b t 3)))) (tmul (vS S b t 2) (vS S b t 1)) := ⟨_, rfl⟩
    have uwb11_187 : tr V187 134 = wb11_187 := by rw [ewb11_187]; exact v187
    have bwb11_187 : bdt 128 125 wb11_187 := by rw [ewb11_187]; exact (bdt_add (a := 77) (c := 75) (b := 51) (d := 50) (bdt_mul (a := 25) (c := 25) (b := 51) (d := 50) (ok_bdt ((hi.2.1 b hb).2 t 0 ht ⟨by decide, by decide⟩).1) (bdt_add (ok_bdt ((hi.2.1 a ha).2 t 3 ht ⟨by decide, by decide⟩).1) (bdt_neg (ok_bdt ((hi.2.1 b hb).2 t 3 ht ⟨by decide, by decide⟩).1)) (by decide) (by decide) (by decide)) (by decide) (by decide)) (bdt_mul (ok_bdt ((hi.2.1 b hb).2 t 2 ht ⟨by decide, by decide⟩).1) (ok_bdt ((hi.2.1 b hb).2 t 1 ht ⟨by decide, by decide⟩).1) (by decide) (by decide)) (by decide) (by decide) (by decide))
    clear v187
    have hRe : RepM S F187 A187 := hR1.K ((FrK.f (by decide)).tr g187.K)
    refine x_istore (pc2 := 192) (loc2 := [_, _, _, _, _, _, _, _, _, _]) hC (by decide) rfl dX8_takeOff_190 rfl ?_
    refine x_aload_n (pc2 := 193) hC rfl rfl dX8_takeOff_192 rfl ?_
    refine x_iload (pc2 := 195) hC rfl dX8_takeOff_193 rfl ?_
    refine x_iload (pc2 := 197) hC rfl dX8_takeOff_195 rfl ?_
    refine x_if_ne (tgt := 205) (pc2 := 200) hC (by omega) dX8_takeOff_197 rfl rfl (fun h_197 => ?_) (fun h_197 => ?_)
    · refine x_iconst (pc2 := 206) hC dX8_takeOff_205 rfl ?_
      refine x_iload (pc2 := 208) hC rfl dX8_takeOff_206 rfl ?_
      refine x_isub (pc2 := 209) hC dX8_takeOff_208 rfl ?_
      refine x_iload (pc2 := 211) hC rfl dX8_takeOff_209 rfl ?_
      refine x_if_ne (tgt := 219) (pc2 := 214) hC (by omega) dX8_takeOff_211 rfl rfl (fun h_211 => ?_) (fun h_211 => ?_)
      · refine x_iconst (pc2 := 220) hC dX8_takeOff_219 rfl ?_
        refine x_iload (pc2 := 222) hC rfl dX8_takeOff_220 rfl ?_
        refine x_isub (pc2 := 223) hC dX8_takeOff_222 rfl ?_
        refine x_aload_n (pc2 := 224) hC rfl rfl dX8_takeOff_223 rfl ?_
        refine x_iload_n (pc2 := 225) hC rfl rfl dX8_takeOff_224 rfl ?_
        refine x_iload_n (pc2 := 226) hC rfl rfl dX8_takeOff_225 rfl ?_
        refine x_iload (pc2 := 228) hC rfl dX8_takeOff_226 rfl ?_
        refine x_iload (pc2 := 230) hC rfl dX8_takeOff_228 rfl ?_
        refine x_iload (pc2 := 232) hC rfl dX8_takeOff_230 rfl ?_
        refine x_iload (pc2 := 234) hC rfl dX8_takeOff_232 rfl ?_
        refine x_cVi (pc2 := 237) (ci := 8) hC hK (t_wo1_1 l hM hRe (by exact hS187) ha hb ht uwb11_187 bwb11_187) lk_1064 rfl rfl (by decide) (by assumption) (by assumption) ⟨Nat.le_of_ble_eq_true rfl, Nat.le_of_ble_eq_true rfl⟩ ⟨Nat.le_refl _, Nat.le_refl _⟩ rfl (Nat.le_of_ble_eq_true rfl) dX8_takeOff_234 rfl ?_
        rintro z234 F234 A234 ⟨ez234, V234, hS234, v234, k234, g234⟩
        obtain rfl := ez234.symm
        replace hS234 : St 208 V234 F234 A234 := hS234
        replace v234 : tr V234 205 = tquo (tmul (vS S a t 2) (vS S b t 1)) wb11_187 := v234
        rw [show (137 : Int) + 68 = 205 from rfl]
        have qe2 : q3 wb11_187 = takeF (nmT S b t 1) (nmT S a t 1) := by rw [ewb11_187, q_add, q_mul, q_mul, q_sub, rsum1_comm]; rfl
        have hz : ¬ (wb11_187.1 = 0 ∧ wb11_187.2.1 = 0) := fun y => hdn ((z3_iff qe2).mp y)
        have hnz : (q3 wb11_187).1 ≠ (0, 0) := fun y => hz ⟨congrArg Prod.fst y, congrArg Prod.snd y⟩
        have hrp : 0 < (tquo (tmul (vS S a t 2) (vS S b t 1)) wb11_187).2.2 := r_quo (r_mul (rr hi ha ht ⟨by decide, by decide⟩) (rr hi hb ht ⟨by decide, by decide⟩)) hz
        have gg := g187.tr g234
        have e17 : F234 0 17 = F1 0 17 := (gg.2.1 17 (by decide) (by decide) (by decide)).trans (by rw [uF_nj (by decide)])
        have e10 : A234 10 = A1 10 := gg.a (by decide)
        have hx : (fun t e => takeX (nmT S b t 1) (nmT S a t 1) (if (1 : Int) = 0 then e else 3 - e)) t 2 = takeX (nmT S b t 1) (nmT S a t 1) 1 := congrArg (takeX (nmT S b t 1) (nmT S a t 1)) ((if_neg (by decide)).trans (by decide))
        refine x_cVv (pc2 := 240) (ci := 8) hC hK (n_makes l hM hS234 (by decide) ht (i := 1 - 1 / 2) (j := 1 - 1 % 2) ⟨by decide, by decide⟩ (x := 205) ⟨by decide, by decide⟩ v234 hrp (by rw [e17]; exact h17)) lk_919 rfl rfl (by decide) (by assumption) (by assumption) ⟨Nat.le_of_ble_eq_true rfl, Nat.le_of_ble_eq_true rfl⟩ ⟨Nat.le_refl _, Nat.le_refl _⟩ rfl (Nat.le_of_ble_eq_true rfl) dX8_takeOff_237 rfl ?_
        rintro F237 A237 ⟨-, m2, m3, m4, m5⟩
        have ml := mk_low (x := takeX (nmT S b t 1) (nmT S a t 1) 1) hrp (takeX_un (hi.un (s := 1) hb ht) (hi.un (s := 1) ha ht) hdn 1) ((q_quo _ _).tr (un_div (by rw [q_mul]; exact un_mul (un_q3 (rr hi ha ht ⟨by decide, by decide⟩)) (un_q3 (rr hi hb ht ⟨by decide, by decide⟩))) hnz) (by rw [q_mul, qe2]; exact eqf.rf _)) m2
        rw [← hx] at ml
        rw [e17] at m3
        refine x_iinc (pc2 := 243) (loc2 := [_, _, _, _, _, _, _, _, _, _]) hC (by decide) rfl rfl dX8_takeOff_240 rfl ?_
        refine x_goto (pc2 := 157) hC dX8_takeOff_243 rfl ?_
        exact next _ _ _ _ _ (hR1.K ((((FrK.f (by decide)).tr gg.K)).tr m5)) (hmk.step ht (e := 2) ⟨by decide, by decide⟩ (fun t0 e0 => ⟨fun y => by omega, fun y => by omega⟩) ml m3 (fun n hn => by rw [m4 n (by omega), e10]))
      · exact absurd h_211 (by decide)
    · exact absurd h_197 (by decide)
  have body12 : ∀ (t : Int) (F1 : Nat → Nat → Int) (A1 : Nat → Int → Int) {e7 e8 e9 : Option PV}, isT t → isB S c0 → isB S a → isB S b → RepM S F1 A1 → (F1 0 17 = 0 ∨ F1 0 17 = 1) → (takeF (nmT S b t 1) (nmT S a t 1)).1 ≠ (0, 0) → MkD (fun t e => takeX (nmT S b t 1) (nmT S a t 1) (if (1 : Int) = 0 then e else 3 - e)) (A1 10) (F1 0 17) (fun t0 e0 => t0 < t ∨ (t0 = t ∧ 3 - e0 < 2)) → (∀ (F2 : Nat → Nat → Int) (A2 : Nat → Int → Int) (f7 f8 f9 : Option PV), RepM S F2 A2 → MkD (fun t e => takeX (nmT S b t 1) (nmT S a t 1) (if (1 : Int) = 0 then e else 3 - e)) (A2 10) (F2 0 17) (fun t0 e0 => t0 < t ∨ (t0 = t ∧ 3 - e0 < 3)) → X p l e { frames := 6, cells := 0, slots := 0, locals := 145 } s m args below meth c (MQ below (QX D ids β sh N R (pIr (fun z F2 A2 => ∃ S2, rTake S c0 a b 1 z S2 ∧ RepM S2 F2 A2))) args s 0 0 (inG β N)) (inG β N) D ids β sh 10 0 0 N R F2 A2 [some (rf 0), some (pI c0), some (pI a), some (pI b), some (pI 1), some (pI t), some (pI 3), f7, f8, f9] [] 157) → X p l e { frames := 6, cells := 0, slots := 0, locals := 145 } s m args below meth c (MQ below (QX D ids β sh N R (pIr (fun z F2 A2 => ∃ S2, rTake S c0 a b 1 z S2 ∧ RepM S2 F2 A2))) args s 0 0 (inG β N)) (inG β N) D ids β sh 10 0 0 N R F1 A1 [some (rf 0), some (pI c0), some (pI a), some (pI b), some (pI 1), some (pI t), some (pI 2), e7, e8, e9] [] 163 := by
    intro t F1 A1 e7 e8 e9 ht hc2 ha hb hR1 h17 hdn hmk next
    have hb6 := hR1.2.2.2.2.2.2.1
    have a16 := ha.2
    have b16 := hb.2
    have a00 := ha.1
    have b00 := hb.1
    refine x_aload_n (pc2 := 164) hC rfl rfl dX8_takeOff_163 rfl ?_
    refine x_iconst (pc2 := 165) hC dX8_takeOff_164 rfl ?_
    refine p_819 (pc2 := 168) hC hK (by assumption) (by assumption) dX8_takeOff_165 rfl ?_
    refine x_iload (pc2 := 170) hC rfl dX8_takeOff_168 rfl ?_
    refine x_iconst (pc2 := 171) hC dX8_takeOff_170 rfl ?_
    refine x_idivp (pc2 := 172) hC (by omega) (by omega) (by omega) (by omega) dX8_takeOff_171 rfl ?_
    refine x_istore (pc2 := 174) (loc2 := [_, _, _, _, _, _, _, _, _, _]) hC (by decide) rfl dX8_takeOff_172 rfl ?_
    refine x_iload (pc2 := 176) hC rfl dX8_takeOff_174 rfl ?_
    refine x_iconst (pc2 := 177) hC dX8_takeOff_176 rfl ?_
    refine x_iremp (pc2 := 178) hC (by omega) (by omega) (by omega) (by omega) dX8_takeOff_177 rfl ?_
    refine x_istore (pc2 := 180) (loc2 := [_, _, _, _, _, _, _, _, _, _]) hC (by decide) rfl dX8_takeOff_178 rfl ?_
    refine x_aload_n (pc2 := 181) hC rfl rfl dX8_takeOff_180 rfl ?_
    refine x_iload_n (pc2 := 182) hC rfl rfl dX8_takeOff_181 rfl ?_
    refine x_iload_n (pc2 := 183) hC rfl rfl dX8_takeOff_182 rfl ?_
    refine x_iload (pc2 := 185) hC rfl dX8_takeOff_183 rfl ?_
    refine x_iload (pc2 := 187) hC rfl dX8_takeOff_185 rfl ?_
    refine x_cVi (pc2 := 190) (ci := 8) hC hK (t_left0_1 l hM (hR1.K (FrK.f (by decide))) (St.zero (F := F1) (A := A1)) ha hb ht) lk_1060 rfl rfl (by decide) (by assumption) (by assumption) ⟨Nat.le_of_ble_eq_true rfl, Nat.le_of_ble_eq_true rfl⟩ ⟨Nat.le_refl _, Nat.le_refl _⟩ rfl (Nat.le_of_ble_eq_true rfl) dX8_takeOff_187 rfl ?_
    rintro z187 F187 A187 ⟨ez187, V187, hS187, v187, k187, g187⟩
    obtain rfl := ez187.symm
    replace hS187 : St 137 V187 F187 A187 := hS187
    rw [show (0 : Int) + 134 = 134 from rfl]
    obtain ⟨wb12_187, ewb12_187⟩ : ∃ w : T3, w = tadd (tmul (vS S b t 0) (tadd (vS S a t 3) (tneg (vS S b t 3)))) (tmul (vS S b t 2) (vS S b t 1)) := ⟨_, rfl⟩
    have uwb12_187 : tr V187 134 = wb12_187 := by rw [ewb12_187]; exact v187
    have bwb12_187 : bdt 128 125 wb12_187 := by rw [ewb12_187]; exact (bdt_add (a := 77) (c := 75) (b := 51) (d := 50) (bdt_mul (a := 25) (c := 25) (b := 51) (d := 50) (ok_bdt ((hi.2.1 b hb).2 t 0 ht ⟨by decide, by decide⟩).1) (bdt_add (ok_bdt ((hi.2.1 a ha).2 t 3 ht ⟨by decide, by decide⟩).1) (bdt_neg (ok_bdt ((hi.2.1 b hb).2 t 3 ht ⟨by decide, by decide⟩).1)) (by decide) (by decide) (by decide)) (by decide) (by decide)) (bdt_mul (ok_bdt ((hi.2.1 b hb).2 t 2 ht ⟨by decide, by decide⟩).1) (ok_bdt ((hi.2.1 b hb).2 t 1 ht ⟨by decide, by decide⟩).1) (by decide) (by decide)) (by decide) (by decide) (by decide))
    clear v187
    have hRe : RepM S F187 A187 := hR1.K ((FrK.f (by decide)).tr g187.K)
    refine x_istore (pc2 := 192) (loc2 := [_, _, _, _, _, _, _, _, _, _]) hC (by decide) rfl dX8_takeOff_190 rfl ?_
    refine x_aload_n (pc2 := 193) hC rfl rfl dX8_takeOff_192 rfl ?_
    refine x_iload (pc2 := 195) hC rfl dX8_takeOff_193 rfl ?_
    refine x_iload (pc2 := 197) hC rfl dX8_takeOff_195 rfl ?_
    refine x_if_ne (tgt := 205) (pc2 := 200) hC (by omega) dX8_takeOff_197 rfl rfl (fun h_197 => ?_) (fun h_197 => ?_)
    · refine x_iconst (pc2 := 206) hC dX8_takeOff_205 rfl ?_
      refine x_iload (pc2 := 208) hC rfl dX8_takeOff_206 rfl ?_
      refine x_isub (pc2 := 209) hC dX8_takeOff_208 rfl ?_
      refine x_iload (pc2 := 211) hC rfl dX8_takeOff_209 rfl ?_
      refine x_if_ne (tgt := 219) (pc2 := 214) hC (by omega) dX8_takeOff_211 rfl rfl (fun h_211 => ?_) (fun h_211 => ?_)
      · refine x_iconst (pc2 := 220) hC dX8_takeOff_219 rfl ?_
        refine x_iload (pc2 := 222) hC rfl dX8_takeOff_220 rfl ?_
        refine x_isub (pc2 := 223) hC dX8_takeOff_222 rfl ?_
        refine x_aload_n (pc2 := 224) hC rfl rfl dX8_takeOff_223 rfl ?_
        refine x_iload_n (pc2 := 225) hC rfl rfl dX8_takeOff_224 rfl ?_
        refine x_iload_n (pc2 := 226) hC rfl rfl dX8_takeOff_225 rfl ?_
        refine x_iload (pc2 := 228) hC rfl dX8_takeOff_226 rfl ?_
        refine x_iload (pc2 := 230) hC rfl dX8_takeOff_228 rfl ?_
        refine x_iload (pc2 := 232) hC rfl dX8_takeOff_230 rfl ?_
        refine x_iload (pc2 := 234) hC rfl dX8_takeOff_232 rfl ?_
        refine x_cVi (pc2 := 237) (ci := 8) hC hK (t_wo2_1 l hM hRe (by exact hS187) ha hb ht uwb12_187 bwb12_187) lk_1064 rfl rfl (by decide) (by assumption) (by assumption) ⟨Nat.le_of_ble_eq_true rfl, Nat.le_of_ble_eq_true rfl⟩ ⟨Nat.le_refl _, Nat.le_refl _⟩ rfl (Nat.le_of_ble_eq_true rfl) dX8_takeOff_234 rfl ?_
        rintro z234 F234 A234 ⟨ez234, V234, hS234, v234, k234, g234⟩
        obtain rfl := ez234.symm
        replace hS234 : St 208 V234 F234 A234 := hS234
        replace v234 : tr V234 205 = tquo (tmul (vS S a t 1) (vS S b t 2)) wb12_187 := v234
        rw [show (137 : Int) + 68 = 205 from rfl]
        have qe2 : q3 wb12_187 = takeF (nmT S b t 1) (nmT S a t 1) := by rw [ewb12_187, q_add, q_mul, q_mul, q_sub, rsum1_comm]; rfl
        have hz : ¬ (wb12_187.1 = 0 ∧ wb12_187.2.1 = 0) := fun y => hdn ((z3_iff qe2).mp y)
        have hnz : (q3 wb12_187).1 ≠ (0, 0) := fun y => hz ⟨congrArg Prod.fst y, congrArg Prod.snd y⟩
        have hrp : 0 < (tquo (tmul (vS S a t 1) (vS S b t 2)) wb12_187).2.2 := r_quo (r_mul (rr hi ha ht ⟨by decide, by decide⟩) (rr hi hb ht ⟨by decide, by decide⟩)) hz
        have gg := g187.tr g234
        have e17 : F234 0 17 = F1 0 17 := (gg.2.1 17 (by decide) (by decide) (by decide)).trans (by rw [uF_nj (by decide)])
        have e10 : A234 10 = A1 10 := gg.a (by decide)
        have hx : (fun t e => takeX (nmT S b t 1) (nmT S a t 1) (if (1 : Int) = 0 then e else 3 - e)) t 1 = takeX (nmT S b t 1) (nmT S a t 1) 2 := congrArg (takeX (nmT S b t 1) (nmT S a t 1)) ((if_neg (by decide)).trans (by decide))
        refine x_cVv (pc2 := 240) (ci := 8) hC hK (n_makes l hM hS234 (by decide) ht (i := 1 - 2 / 2) (j := 1 - 2 % 2) ⟨by decide, by decide⟩ (x := 205) ⟨by decide, by decide⟩ v234 hrp (by rw [e17]; exact h17)) lk_919 rfl rfl (by decide) (by assumption) (by assumption) ⟨Nat.le_of_ble_eq_true rfl, Nat.le_of_ble_eq_true rfl⟩ ⟨Nat.le_refl _, Nat.le_refl _⟩ rfl (Nat.le_of_ble_eq_true rfl) dX8_takeOff_237 rfl ?_
        rintro F237 A237 ⟨-, m2, m3, m4, m5⟩
        have ml := mk_low (x := takeX (nmT S b t 1) (nmT S a t 1) 2) hrp (takeX_un (hi.un (s := 1) hb ht) (hi.un (s := 1) ha ht) hdn 2) ((q_quo _ _).tr (un_div (by rw [q_mul]; exact un_mul (un_q3 (rr hi ha ht ⟨by decide, by decide⟩)) (un_q3 (rr hi hb ht ⟨by decide, by decide⟩))) hnz) (by rw [q_mul, qe2]; exact eqf.rf _)) m2
        rw [← hx] at ml
        rw [e17] at m3
        refine x_iinc (pc2 := 243) (loc2 := [_, _, _, _, _, _, _, _, _, _]) hC (by decide) rfl rfl dX8_takeOff_240 rfl ?_
        refine x_goto (pc2 := 157) hC dX8_takeOff_243 rfl ?_
        exact next _ _ _ _ _ (hR1.K ((((FrK.f (by decide)).tr gg.K)).tr m5)) (hmk.step ht (e := 1) ⟨by decide, by decide⟩ (fun t0 e0 => ⟨fun y => by omega, fun y => by omega⟩) ml m3 (fun n hn => by rw [m4 n (by omega), e10]))
      · exact absurd h_211 (by decide)
    · exact absurd h_197 (by decide)
  have body13 : ∀ (t : Int) (F1 : Nat → Nat → Int) (A1 : Nat → Int → Int) {e7 e8 e9 : Option PV}, isT t → isB S c0 → isB S a → isB S b → RepM S F1 A1 → (F1 0 17 = 0 ∨ F1 0 17 = 1) → (takeF (nmT S b t 1) (nmT S a t 1)).1 ≠ (0, 0) → MkD (fun t e => takeX (nmT S b t 1) (nmT S a t 1) (if (1 : Int) = 0 then e else 3 - e)) (A1 10) (F1 0 17) (fun t0 e0 => t0 < t ∨ (t0 = t ∧ 3 - e0 < 3)) → (∀ (F2 : Nat → Nat → Int) (A2 : Nat → Int → Int) (f7 f8 f9 : Option PV), RepM S F2 A2 → MkD (fun t e => takeX (nmT S b t 1) (nmT S a t 1) (if (1 : Int) = 0 then e else 3 - e)) (A2 10) (F2 0 17) (fun t0 e0 => t0 < t ∨ (t0 = t ∧ 3 - e0 < 4)) → X p l e { frames := 6, cells := 0, slots := 0, locals := 145 } s m args below meth c (MQ below (QX D ids β sh N R (pIr (fun z F2 A2 => ∃ S2, rTake S c0 a b 1 z S2 ∧ RepM S2 F2 A2))) args s 0 0 (inG β N)) (inG β N) D ids β sh 10 0 0 N R F2 A2 [some (rf 0), some (pI c0), some (pI a), some (pI b), some (pI 1), some (pI t), some (pI 4), f7, f8, f9] [] 157) → X p l e { frames := 6, cells := 0, slots := 0, locals := 145 } s m args below meth c (MQ below (QX D ids β sh N R (pIr (fun z F2 A2 => ∃ S2, rTake S c0 a b 1 z S2 ∧ RepM S2 F2 A2))) args s 0 0 (inG β N)) (inG β N) D ids β sh 10 0 0 N R F1 A1 [some (rf 0), some (pI c0), some (pI a), some (pI b), some (pI 1), some (pI t), some (pI 3), e7, e8, e9] [] 163 := by
    intro t F1 A1 e7 e8 e9 ht hc2 ha hb hR1 h17 hdn hmk next
    have hb6 := hR1.2.2.2.2.2.2.1
    have a16 := ha.2
    have b16 := hb.2
    have a00 := ha.1
    have b00 := hb.1
    refine x_aload_n (pc2 := 164) hC rfl rfl dX8_takeOff_163 rfl ?_
    refine x_iconst (pc2 := 165) hC dX8_takeOff_164 rfl ?_
    refine p_819 (pc2 := 168) hC hK (by assumption) (by assumption) dX8_takeOff_165 rfl ?_
    refine x_iload (pc2 := 170) hC rfl dX8_takeOff_168 rfl ?_
    refine x_iconst (pc2 := 171) hC dX8_takeOff_170 rfl ?_
    refine x_idivp (pc2 := 172) hC (by omega) (by omega) (by omega) (by omega) dX8_takeOff_171 rfl ?_
    refine x_istore (pc2 := 174) (loc2 := [_, _, _, _, _, _, _, _, _, _]) hC (by decide) rfl dX8_takeOff_172 rfl ?_
    refine x_iload (pc2 := 176) hC rfl dX8_takeOff_174 rfl ?_
    refine x_iconst (pc2 := 177) hC dX8_takeOff_176 rfl ?_
    refine x_iremp (pc2 := 178) hC (by omega) (by omega) (by omega) (by omega) dX8_takeOff_177 rfl ?_
    refine x_istore (pc2 := 180) (loc2 := [_, _, _, _, _, _, _, _, _, _]) hC (by decide) rfl dX8_takeOff_178 rfl ?_
    refine x_aload_n (pc2 := 181) hC rfl rfl dX8_takeOff_180 rfl ?_
    refine x_iload_n (pc2 := 182) hC rfl rfl dX8_takeOff_181 rfl ?_
    refine x_iload_n (pc2 := 183) hC rfl rfl dX8_takeOff_182 rfl ?_
    refine x_iload (pc2 := 185) hC rfl dX8_takeOff_183 rfl ?_
    refine x_iload (pc2 := 187) hC rfl dX8_takeOff_185 rfl ?_
    refine x_cVi (pc2 := 190) (ci := 8) hC hK (t_left0_1 l hM (hR1.K (FrK.f (by decide))) (St.zero (F := F1) (A := A1)) ha hb ht) lk_1060 rfl rfl (by decide) (by assumption) (by assumption) ⟨Nat.le_of_ble_eq_true rfl, Nat.le_of_ble_eq_true rfl⟩ ⟨Nat.le_refl _, Nat.le_refl _⟩ rfl (Nat.le_of_ble_eq_true rfl) dX8_takeOff_187 rfl ?_
    rintro z187 F187 A187 ⟨ez187, V187, hS187, v187, k187, g187⟩
    obtain rfl := ez187.symm
    replace hS187 : St 137 V187 F187 A187 := hS187
    rw [show (0 : Int) + 134 = 134 from rfl]
    obtain ⟨wb13_187, ewb13_187⟩ : ∃ w : T3, w = tadd (tmul (vS S b t 0) (tadd (vS S a t 3) (tneg (vS S b t 3)))) (tmul (vS S b t 2) (vS S b t 1)) := ⟨_, rfl⟩
    have uwb13_187 : tr V187 134 = wb13_187 := by rw [ewb13_187]; exact v187
    have bwb13_187 : bdt 128 125 wb13_187 := by rw [ewb13_187]; exact (bdt_add (a := 77) (c := 75) (b := 51) (d := 50) (bdt_mul (a := 25) (c := 25) (b := 51) (d := 50) (ok_bdt ((hi.2.1 b hb).2 t 0 ht ⟨by decide, by decide⟩).1) (bdt_add (ok_bdt ((hi.2.1 a ha).2 t 3 ht ⟨by decide, by decide⟩).1) (bdt_neg (ok_bdt ((hi.2.1 b hb).2 t 3 ht ⟨by decide, by decide⟩).1)) (by decide) (by decide) (by decide)) (by decide) (by decide)) (bdt_mul (ok_bdt ((hi.2.1 b hb).2 t 2 ht ⟨by decide, by decide⟩).1) (ok_bdt ((hi.2.1 b hb).2 t 1 ht ⟨by decide, by decide⟩).1) (by decide) (by decide)) (by decide) (by decide) (by decide))
    clear v187
    have hRe : RepM S F187 A187 := hR1.K ((FrK.f (by decide)).tr g187.K)
    refine x_istore (pc2 := 192) (loc2 := [_, _, _, _, _, _, _, _, _, _]) hC (by decide) rfl dX8_takeOff_190 rfl ?_
    refine x_aload_n (pc2 := 193) hC rfl rfl dX8_takeOff_192 rfl ?_
    refine x_iload (pc2 := 195) hC rfl dX8_takeOff_193 rfl ?_
    refine x_iload (pc2 := 197) hC rfl dX8_takeOff_195 rfl ?_
    refine x_if_ne (tgt := 205) (pc2 := 200) hC (by omega) dX8_takeOff_197 rfl rfl (fun h_197 => ?_) (fun h_197 => ?_)
    · refine x_iconst (pc2 := 206) hC dX8_takeOff_205 rfl ?_
      refine x_iload (pc2 := 208) hC rfl dX8_takeOff_206 rfl ?_
      refine x_isub (pc2 := 209) hC dX8_takeOff_208 rfl ?_
      refine x_iload (pc2 := 211) hC rfl dX8_takeOff_209 rfl ?_
      refine x_if_ne (tgt := 219) (pc2 := 214) hC (by omega) dX8_takeOff_211 rfl rfl (fun h_211 => ?_) (fun h_211 => ?_)
      · refine x_iconst (pc2 := 220) hC dX8_takeOff_219 rfl ?_
        refine x_iload (pc2 := 222) hC rfl dX8_takeOff_220 rfl ?_
        refine x_isub (pc2 := 223) hC dX8_takeOff_222 rfl ?_
        refine x_aload_n (pc2 := 224) hC rfl rfl dX8_takeOff_223 rfl ?_
        refine x_iload_n (pc2 := 225) hC rfl rfl dX8_takeOff_224 rfl ?_
        refine x_iload_n (pc2 := 226) hC rfl rfl dX8_takeOff_225 rfl ?_
        refine x_iload (pc2 := 228) hC rfl dX8_takeOff_226 rfl ?_
        refine x_iload (pc2 := 230) hC rfl dX8_takeOff_228 rfl ?_
        refine x_iload (pc2 := 232) hC rfl dX8_takeOff_230 rfl ?_
        refine x_iload (pc2 := 234) hC rfl dX8_takeOff_232 rfl ?_
        refine x_cVi (pc2 := 237) (ci := 8) hC hK (t_wo3_1 l hM hRe (by exact hS187) ha hb ht uwb13_187 bwb13_187) lk_1064 rfl rfl (by decide) (by assumption) (by assumption) ⟨Nat.le_of_ble_eq_true rfl, Nat.le_of_ble_eq_true rfl⟩ ⟨Nat.le_refl _, Nat.le_refl _⟩ rfl (Nat.le_of_ble_eq_true rfl) dX8_takeOff_234 rfl ?_
        rintro z234 F234 A234 ⟨ez234, V234, hS234, v234, k234, g234⟩
        obtain rfl := ez234.symm
        replace hS234 : St 270 V234 F234 A234 := hS234
        replace v234 : tr V234 267 = tadd (vS S a t 0) (tneg (tquo (tmul (vS S b t 0) (tmul (vS S a t 2) (vS S a t 1))) wb13_187)) := v234
        rw [show (137 : Int) + 130 = 267 from rfl]
        have qe2 : q3 wb13_187 = takeF (nmT S b t 1) (nmT S a t 1) := by rw [ewb13_187, q_add, q_mul, q_mul, q_sub, rsum1_comm]; rfl
        have hz : ¬ (wb13_187.1 = 0 ∧ wb13_187.2.1 = 0) := fun y => hdn ((z3_iff qe2).mp y)
        have hnz : (q3 wb13_187).1 ≠ (0, 0) := fun y => hz ⟨congrArg Prod.fst y, congrArg Prod.snd y⟩
        have hrp : 0 < (tadd (vS S a t 0) (tneg (tquo (tmul (vS S b t 0) (tmul (vS S a t 2) (vS S a t 1))) wb13_187))).2.2 := r_add (rr hi ha ht ⟨by decide, by decide⟩) (show 0 < (tneg _).2.2 from r_quo (r_mul (rr hi hb ht ⟨by decide, by decide⟩) (r_mul (rr hi ha ht ⟨by decide, by decide⟩) (rr hi ha ht ⟨by decide, by decide⟩))) hz)
        have gg := g187.tr g234
        have e17 : F234 0 17 = F1 0 17 := (gg.2.1 17 (by decide) (by decide) (by decide)).trans (by rw [uF_nj (by decide)])
        have e10 : A234 10 = A1 10 := gg.a (by decide)
        have hx : (fun t e => takeX (nmT S b t 1) (nmT S a t 1) (if (1 : Int) = 0 then e else 3 - e)) t 0 = takeX (nmT S b t 1) (nmT S a t 1) 3 := congrArg (takeX (nmT S b t 1) (nmT S a t 1)) ((if_neg (by decide)).trans (by decide))
        refine x_cVv (pc2 := 240) (ci := 8) hC hK (n_makes l hM hS234 (by decide) ht (i := 1 - 3 / 2) (j := 1 - 3 % 2) ⟨by decide, by decide⟩ (x := 267) ⟨by decide, by decide⟩ v234 hrp (by rw [e17]; exact h17)) lk_919 rfl rfl (by decide) (by assumption) (by assumption) ⟨Nat.le_of_ble_eq_true rfl, Nat.le_of_ble_eq_true rfl⟩ ⟨Nat.le_refl _, Nat.le_refl _⟩ rfl (Nat.le_of_ble_eq_true rfl) dX8_takeOff_237 rfl ?_
        rintro F237 A237 ⟨-, m2, m3, m4, m5⟩
        have ml := mk_low (x := takeX (nmT S b t 1) (nmT S a t 1) 3) hrp (takeX_un (hi.un (s := 1) hb ht) (hi.un (s := 1) ha ht) hdn 3) (by rw [q_sub]; exact eqf.sum (eqf.rf _) ((q_quo _ _).tr (un_div (by rw [q_mul, q_mul]; exact un_mul (un_q3 (rr hi hb ht ⟨by decide, by decide⟩)) (un_mul (un_q3 (rr hi ha ht ⟨by decide, by decide⟩)) (un_q3 (rr hi ha ht ⟨by decide, by decide⟩)))) hnz) (by rw [q_mul, q_mul, qe2, rmul_comm]; exact eqf.rf _))) m2
        rw [← hx] at ml
        rw [e17] at m3
        refine x_iinc (pc2 := 243) (loc2 := [_, _, _, _, _, _, _, _, _, _]) hC (by decide) rfl rfl dX8_takeOff_240 rfl ?_
        refine x_goto (pc2 := 157) hC dX8_takeOff_243 rfl ?_
        exact next _ _ _ _ _ (hR1.K ((((FrK.f (by decide)).tr gg.K)).tr m5)) (hmk.step ht (e := 0) ⟨by decide, by decide⟩ (fun t0 e0 => ⟨fun y => by omega, fun y => by omega⟩) ml m3 (fun n hn => by rw [m4 n (by omega), e10]))
      · exact absurd h_211 (by decide)
    · exact absurd h_197 (by decide)
  have inner1 : ∀ (t : Int), isT t → ((hasB S c0 2 ∧ hasB S a 2 ∧ hasB S b 2) ∧ ((1 : Int) = 0 ∨ (1 : Int) = 1)) → (takeF (nmT S b t 1) (nmT S a t 1)).1 ≠ (0, 0) → (∀ (F2 : Nat → Nat → Int) (A2 : Nat → Int → Int) (e6 e7 e8 e9 : Option PV), RepM S F2 A2 → MkD (fun t e => takeX (nmT S b t 1) (nmT S a t 1) (if (1 : Int) = 0 then e else 3 - e)) (A2 10) (F2 0 17) (fun t0 e0 => t0 < t + 1) → X p l e { frames := 6, cells := 0, slots := 0, locals := 145 } s m args below meth c (MQ below (QX D ids β sh N R (pIr (fun z F2 A2 => ∃ S2, rTake S c0 a b 1 z S2 ∧ RepM S2 F2 A2))) args s 0 0 (inG β N)) (inG β N) D ids β sh 10 0 0 N R F2 A2 [some (rf 0), some (pI c0), some (pI a), some (pI b), some (pI 1), some (pI (t + 1)), e6, e7, e8, e9] [] 148) → ∀ (d : Nat) (k : Int) (F1 : Nat → Nat → Int) (A1 : Nat → Int → Int) (e7 e8 e9 : Option PV), 4 - k < d → 0 ≤ k → k ≤ 4 → RepM S F1 A1 → MkD (fun t e => takeX (nmT S b t 1) (nmT S a t 1) (if (1 : Int) = 0 then e else 3 - e)) (A1 10) (F1 0 17) (fun t0 e0 => t0 < t ∨ (t0 = t ∧ 3 - e0 < k)) → X p l e { frames := 6, cells := 0, slots := 0, locals := 145 } s m args below meth c (MQ below (QX D ids β sh N R (pIr (fun z F2 A2 => ∃ S2, rTake S c0 a b 1 z S2 ∧ RepM S2 F2 A2))) args s 0 0 (inG β N)) (inG β N) D ids β sh 10 0 0 N R F1 A1 [some (rf 0), some (pI c0), some (pI a), some (pI b), some (pI 1), some (pI t), some (pI k), e7, e8, e9] [] 157 := by
    intro t ht hok hdn next d
    induction d with
    | zero => intro k F1 A1 e7 e8 e9 hd; omega
    | succ d ih =>
      intro k F1 A1 e7 e8 e9 hd k0 k4 hR1 hmk
      have h17 : F1 0 17 = 0 ∨ F1 0 17 = 1 := by rcases hmk.1 with ⟨q, -⟩ | ⟨q, -⟩ <;> omega
      refine x_iload (pc2 := 159) hC rfl dX8_takeOff_157 rfl ?_
      refine x_iconst (pc2 := 160) hC dX8_takeOff_159 rfl ?_
      refine x_icmp_ge (tgt := 246) (pc2 := 163) hC (by omega) (by omega) dX8_takeOff_160 rfl rfl (fun h_160 => ?_) (fun h_160 => ?_)
      · refine x_iinc (pc2 := 249) (loc2 := [_, _, _, _, _, _, _, _, _, _]) hC (by decide) rfl rfl dX8_takeOff_246 rfl ?_
        refine x_goto (pc2 := 148) hC dX8_takeOff_249 rfl ?_
        refine next F1 A1 _ _ _ _ hR1 ?_
        obtain ⟨g1, g2⟩ := hmk
        refine ⟨?_, fun t0 e0 h1 h2 q => g2 t0 e0 h1 h2 (by omega)⟩
        rcases g1 with ⟨q1, q2⟩ | q
        · exact Or.inl ⟨q1, fun t0 e0 h1 h2 q => q2 t0 e0 h1 h2 (by omega)⟩
        · exact Or.inr q
      · rcases (show k = 0 ∨ k = 1 ∨ k = 2 ∨ k = 3 by omega) with rfl | rfl | rfl | rfl
        · exact body10 t F1 A1 ht hok.1.1.1 hok.1.2.1.1 hok.1.2.2.1 hR1 h17 hdn hmk (fun F2 A2 f7 f8 f9 g1 g2 => ih 1 F2 A2 f7 f8 f9 (by omega) (by decide) (by decide) g1 g2)
        · exact body11 t F1 A1 ht hok.1.1.1 hok.1.2.1.1 hok.1.2.2.1 hR1 h17 hdn hmk (fun F2 A2 f7 f8 f9 g1 g2 => ih 2 F2 A2 f7 f8 f9 (by omega) (by decide) (by decide) g1 g2)
        · exact body12 t F1 A1 ht hok.1.1.1 hok.1.2.1.1 hok.1.2.2.1 hR1 h17 hdn hmk (fun F2 A2 f7 f8 f9 g1 g2 => ih 3 F2 A2 f7 f8 f9 (by omega) (by decide) (by decide) g1 g2)
        · exact body13 t F1 A1 ht hok.1.1.1 hok.1.2.1.1 hok.1.2.2.1 hR1 h17 hdn hmk (fun F2 A2 f7 f8 f9 g1 g2 => ih 4 F2 A2 f7 f8 f9 (by omega) (by decide) (by decide) g1 g2)
  have outer1 : ((hasB S c0 2 ∧ hasB S a 2 ∧ hasB S b 2) ∧ ((1 : Int) = 0 ∨ (1 : Int) = 1)) → (∀ t, isT t → (fun t => takeD (nmT S b t 1) (nmT S a t 1)) t = 0) → ∀ (d : Nat) (t : Int) (F1 : Nat → Nat → Int) (A1 : Nat → Int → Int) (e6 e7 e8 e9 : Option PV), 4 - t < d → 0 ≤ t → t ≤ 4 → RepM S F1 A1 → MkD (fun t e => takeX (nmT S b t 1) (nmT S a t 1) (if (1 : Int) = 0 then e else 3 - e)) (A1 10) (F1 0 17) (fun t0 e0 => t0 < t) → X p l e { frames := 6, cells := 0, slots := 0, locals := 145 } s m args below meth c (MQ below (QX D ids β sh N R (pIr (fun z F2 A2 => ∃ S2, rTake S c0 a b 1 z S2 ∧ RepM S2 F2 A2))) args s 0 0 (inG β N)) (inG β N) D ids β sh 10 0 0 N R F1 A1 [some (rf 0), some (pI c0), some (pI a), some (pI b), some (pI 1), some (pI t), e6, e7, e8, e9] [] 148 := by
    intro hok hdv d
    induction d with
    | zero => intro t F1 A1 e6 e7 e8 e9 hd; omega
    | succ d ih =>
      intro t F1 A1 e6 e7 e8 e9 hd t0 t4 hR1 hmk
      have hdn : isT t → (takeF (nmT S b t 1) (nmT S a t 1)).1 ≠ (0, 0) := fun ht y => by
        have h3 : takeD (nmT S b t 1) (nmT S a t 1) = 0 := hdv t ht
        unfold takeD at h3
        by_cases p1 : (nmT S b t 1 1).1 = (0, 0)
        · rw [itC_pos p1] at h3; exact absurd h3 (by decide)
        · rw [itC_neg p1] at h3
          by_cases p2 : (nmT S b t 1 2).1 = (0, 0)
          · rw [itC_pos p2] at h3; exact absurd h3 (by decide)
          · rw [itC_neg p2, itC_pos y] at h3; exact absurd h3 (by decide)
      refine x_iload (pc2 := 150) hC rfl dX8_takeOff_148 rfl ?_
      refine x_iconst (pc2 := 151) hC dX8_takeOff_150 rfl ?_
      refine x_icmp_ge (tgt := 252) (pc2 := 154) hC (by omega) (by omega) dX8_takeOff_151 rfl rfl (fun h_151 => ?_) (fun h_151 => ?_)
      · obtain ⟨hb17, w, hwf, hm1, hm2, hm3⟩ := hmk.ends hi hok.1.1.1 (fun t0 e0 h1 h2 q => absurd (show t0 < t by omega) q) (fun y => absurd (hok.1.1.2.symm.trans y) (by decide))
        refine x_aload_n (pc2 := 253) hC rfl rfl dX8_takeOff_252 rfl ?_
        refine x_iload_n (pc2 := 254) hC rfl rfl dX8_takeOff_253 rfl ?_
        refine x_cVi (pc2 := 257) (ci := 8) hC hK (q_ends l hM hR1 hok.1.1.1 hwf hb17 hm1) lk_957 rfl rfl (by decide) (by assumption) (by assumption) ⟨Nat.le_of_ble_eq_true rfl, Nat.le_of_ble_eq_true rfl⟩ ⟨Nat.le_refl _, Nat.le_refl _⟩ rfl (Nat.le_of_ble_eq_true rfl) dX8_takeOff_254 rfl ?_
        rintro z254 F254 A254 hq
        obtain ⟨S2, hs2, hR2⟩ : ∃ S2, ((F1 0 17 = 1 ∧ z254 = -5 ∧ S2 = S) ∨ (F1 0 17 = 0 ∧ z254 = 0 ∧ S2 = actS S c0 w)) ∧ RepM S2 F254 A254 := by
          rcases hq with ⟨q1, q2, q3⟩ | ⟨q1, q2, q3⟩
          · exact ⟨_, Or.inl ⟨q1, q2, rfl⟩, q3⟩
          · exact ⟨_, Or.inr ⟨q1, q2, rfl⟩, q3⟩
        exact x_iret hC hr hlk ⟨_, rfl, S2, Or.inr ⟨hok, spAct.ok hdv hm2 hm3 hs2⟩, hR2⟩ dX8_takeOff_257
      · refine x_iconst (pc2 := 155) hC dX8_takeOff_154 rfl ?_
        refine x_istore (pc2 := 157) (loc2 := [_, _, _, _, _, _, _, _, _, _]) hC (by decide) rfl dX8_takeOff_155 rfl ?_
        have ht : isT t := by omega
        refine inner1 t ht hok (hdn ht) (fun F2 A2 f6 f7 f8 f9 g1 g2 => ih (t + 1) F2 A2 f6 f7 f8 f9 (by omega) (by omega) (by omega) g1 g2) 5 0 F1 A1 _ _ _ (by decide) (by decide) (by decide) hR1 ?_
        obtain ⟨g1, g2⟩ := hmk
        refine ⟨?_, fun t0 e0 h1 h2 q => g2 t0 e0 h1 h2 (by omega)⟩
        rcases g1 with ⟨q1, q2⟩ | q
        · exact Or.inl ⟨q1, fun t0 e0 h1 h2 q => q2 t0 e0 h1 h2 (by omega)⟩
        · exact Or.inr q
  have loop1 : ((hasB S c0 2 ∧ hasB S a 2 ∧ hasB S b 2) ∧ ((1 : Int) = 0 ∨ (1 : Int) = 1)) → ∀ (d : Nat) (t : Int) (F1 : Nat → Nat → Int) (A1 : Nat → Int → Int), 4 - t < d → 0 ≤ t → t ≤ 4 → RepM S F1 A1 → (∀ s, 0 ≤ s → s < t → (fun t => takeD (nmT S b t 1) (nmT S a t 1)) s = 0) → X p l e { frames := 6, cells := 0, slots := 0, locals := 145 } s m args below meth c (MQ below (QX D ids β sh N R (pIr (fun z F2 A2 => ∃ S2, rTake S c0 a b 1 z S2 ∧ RepM S2 F2 A2))) args s 0 0 (inG β N)) (inG β N) D ids β sh 10 0 0 N R F1 A1 [some (rf 0), some (pI c0), some (pI a), some (pI b), some (pI 1), some (pI t), none, none, none, none] [] 43 := by
    intro hok d
    induction d with
    | zero => intro t F1 A1 hd; omega
    | succ d ih =>
      intro t F1 A1 hd t0 t4 hR1 hdv
      obtain ⟨⟨⟨hc2, -⟩, ⟨ha, -⟩, hb, -⟩, -⟩ := id hok
      have a16 := ha.2
      have b16 := hb.2
      have a00 := ha.1
      have b00 := hb.1
      have hb6 := hR1.2.2.2.2.2.2.1
      refine x_iload (pc2 := 45) hC rfl dX8_takeOff_43 rfl ?_
      refine x_iconst (pc2 := 46) hC dX8_takeOff_45 rfl ?_
      refine x_icmp_ge (tgt := 141) (pc2 := 49) hC (by omega) (by omega) dX8_takeOff_46 rfl rfl (fun h_46 => ?_) (fun h_46 => ?_)
      · refine x_aload_n (pc2 := 142) hC rfl rfl dX8_takeOff_141 rfl ?_
        refine x_cVv (pc2 := 145) (ci := 8) hC hK (n_begins l hM) lk_1036 rfl rfl (by decide) (by assumption) (by assumption) ⟨Nat.le_of_ble_eq_true rfl, Nat.le_of_ble_eq_true rfl⟩ ⟨Nat.le_refl _, Nat.le_refl _⟩ rfl (Nat.le_of_ble_eq_true rfl) dX8_takeOff_142 rfl ?_
        rintro F142 A142 ⟨e1142, e2142, e3142⟩
        have hRb : RepM S F142 A142 := by rw [e1142]; exact hR1.of (fun j hj => uF_nj (by omega)) (fun b hb => e2142 b (by omega))
        have h17b : F142 0 17 = 0 := by rw [e1142, uF_eq]
        refine x_iconst (pc2 := 146) hC dX8_takeOff_145 rfl ?_
        refine x_istore (pc2 := 148) (loc2 := [_, _, _, _, _, _, _, _, _, _]) hC (by decide) rfl dX8_takeOff_146 rfl ?_
        exact outer1 hok (fun s hs => hdv s hs.1 (by omega)) 5 0 F142 A142 _ _ _ _ (by decide) (by decide) (by decide) hRb (by rw [h17b]; exact MkD.nil (fun t e ht _ => by omega) e3142)
      · have ht : isT t := by omega
        refine x_aload_n (pc2 := 50) hC rfl rfl dX8_takeOff_49 rfl ?_
        refine x_iconst (pc2 := 51) hC dX8_takeOff_50 rfl ?_
        refine p_819 (pc2 := 54) hC hK (by assumption) (by assumption) dX8_takeOff_51 rfl ?_
        refine x_aload_n (pc2 := 55) hC rfl rfl dX8_takeOff_54 rfl ?_
        refine x_aload_n (pc2 := 56) hC rfl rfl dX8_takeOff_55 rfl ?_
        refine x_iload_n (pc2 := 57) hC rfl rfl dX8_takeOff_56 rfl ?_
        refine x_iload (pc2 := 59) hC rfl dX8_takeOff_57 rfl ?_
        refine x_iload (pc2 := 61) hC rfl dX8_takeOff_59 rfl ?_
        refine x_iconst (pc2 := 62) hC dX8_takeOff_61 rfl ?_
        refine x_iload (pc2 := 64) hC rfl dX8_takeOff_62 rfl ?_
        refine x_isub (pc2 := 65) hC dX8_takeOff_64 rfl ?_
        refine x_cVi (pc2 := 68) (ci := 8) hC hK (t_entry l hM (St.zero (F := F1) (A := A1)) (by decide) ⟨by omega, by omega⟩ (x := vS S b t 2) (show held (A1 2) (96 * b + 24 * t + 6 * (2 * 1 + 0)) (vS S b t 2) from hb6 b t 2 hb ht ⟨by decide, by decide⟩) ((hi.2.1 b hb).2 t 2 ht ⟨by decide, by decide⟩).1.2.2) lk_985 rfl rfl (by decide) (by assumption) (by assumption) ⟨Nat.le_of_ble_eq_true rfl, Nat.le_of_ble_eq_true rfl⟩ ⟨Nat.le_refl _, Nat.le_refl _⟩ rfl (Nat.le_of_ble_eq_true rfl) dX8_takeOff_65 rfl ?_
        rintro z65 F65 A65 ⟨ez65, V65, hS65, v65, k65, g65⟩
        obtain rfl := ez65.symm
        replace hS65 : St 18 V65 F65 A65 := hS65
        rw [show (0 : Int) + 15 = 15 from rfl]
        obtain ⟨wi165, ewi165⟩ : ∃ w : T3, w = vS S b t 2 := ⟨_, rfl⟩
        have uwi165 : tr V65 15 = wi165 := by rw [ewi165]; exact v65
        have bwi165 : bdt 25 25 wi165 := by rw [ewi165]; exact (ok_bdt ((hi.2.1 b hb).2 t 2 ht ⟨by decide, by decide⟩).1)
        clear v65
        refine x_cVi (pc2 := 71) (ci := 8) hC hK (t_zero l hM hS65 (x := 15) ⟨by decide, by decide⟩ uwi165) lk_1024 rfl rfl (by decide) (by assumption) (by assumption) ⟨Nat.le_of_ble_eq_true rfl, Nat.le_of_ble_eq_true rfl⟩ ⟨Nat.le_refl _, Nat.le_refl _⟩ rfl (Nat.le_of_ble_eq_true rfl) dX8_takeOff_68 rfl ?_
        rintro z68 F68 A68 ⟨w68, b68, e168, e268⟩
        obtain rfl := e168.symm
        obtain rfl := e268.symm
        have hRz1 : RepM S F65 A65 := hR1.K ((FrK.f (by decide)).tr g65.K)
        have hz1 := (b68 ()).trans (z3_iff (y := nmT S b t 1 1) (x := wi165) (by rw [ewi165]; rfl))
        refine x_if_eq (tgt := 82) (pc2 := 74) hC (by omega) dX8_takeOff_71 rfl rfl (fun h_71 => ?_) (fun h_71 => ?_)
        · refine x_aload_n (pc2 := 83) hC rfl rfl dX8_takeOff_82 rfl ?_
          refine x_aload_n (pc2 := 84) hC rfl rfl dX8_takeOff_83 rfl ?_
          refine x_iload_n (pc2 := 85) hC rfl rfl dX8_takeOff_84 rfl ?_
          refine x_iload (pc2 := 87) hC rfl dX8_takeOff_85 rfl ?_
          refine x_iconst (pc2 := 88) hC dX8_takeOff_87 rfl ?_
          refine x_iload (pc2 := 90) hC rfl dX8_takeOff_88 rfl ?_
          refine x_isub (pc2 := 91) hC dX8_takeOff_90 rfl ?_
          refine x_iload (pc2 := 93) hC rfl dX8_takeOff_91 rfl ?_
          refine x_cVi (pc2 := 96) (ci := 8) hC hK (t_entry l hM hS65 (by decide) ⟨by omega, by omega⟩ (x := vS S b t 1) (by rw [g65.a (by decide)]; exact (show held (A1 2) (96 * b + 24 * t + 6 * (2 * 0 + 1)) (vS S b t 1) from hb6 b t 1 hb ht ⟨by decide, by decide⟩)) ((hi.2.1 b hb).2 t 1 ht ⟨by decide, by decide⟩).1.2.2) lk_985 rfl rfl (by decide) (by assumption) (by assumption) ⟨Nat.le_of_ble_eq_true rfl, Nat.le_of_ble_eq_true rfl⟩ ⟨Nat.le_refl _, Nat.le_refl _⟩ rfl (Nat.le_of_ble_eq_true rfl) dX8_takeOff_93 rfl ?_
          rintro z93 F93 A93 ⟨ez93, V93, hS93, v93, k93, g93⟩
          obtain rfl := ez93.symm
          replace hS93 : St 36 V93 F93 A93 := hS93
          have t93_wi165 : tr V93 15 = wi165 := (tr_keep (by decide) k93).trans uwi165
          rw [show (18 : Int) + 15 = 33 from rfl]
          obtain ⟨wi193, ewi193⟩ : ∃ w : T3, w = vS S b t 1 := ⟨_, rfl⟩
          have uwi193 : tr V93 33 = wi193 := by rw [ewi193]; exact v93
          have bwi193 : bdt 25 25 wi193 := by rw [ewi193]; exact (ok_bdt ((hi.2.1 b hb).2 t 1 ht ⟨by decide, by decide⟩).1)
          clear v93
          refine x_cVi (pc2 := 99) (ci := 8) hC hK (t_zero l hM hS93 (x := 33) ⟨by decide, by decide⟩ uwi193) lk_1024 rfl rfl (by decide) (by assumption) (by assumption) ⟨Nat.le_of_ble_eq_true rfl, Nat.le_of_ble_eq_true rfl⟩ ⟨Nat.le_refl _, Nat.le_refl _⟩ rfl (Nat.le_of_ble_eq_true rfl) dX8_takeOff_96 rfl ?_
          rintro z96 F96 A96 ⟨w96, b96, e196, e296⟩
          obtain rfl := e196.symm
          obtain rfl := e296.symm
          have hRz2 : RepM S F93 A93 := hR1.K ((FrK.f (by decide)).tr (g65.tr g93).K)
          have hz2 := (b96 ()).trans (z3_iff (y := nmT S b t 1 2) (x := wi193) (by rw [ewi193]; rfl))
          refine x_if_eq (tgt := 110) (pc2 := 102) hC (by omega) dX8_takeOff_99 rfl rfl (fun h_99 => ?_) (fun h_99 => ?_)
          · refine x_aload_n (pc2 := 111) hC rfl rfl dX8_takeOff_110 rfl ?_
            refine x_aload_n (pc2 := 112) hC rfl rfl dX8_takeOff_111 rfl ?_
            refine x_iload_n (pc2 := 113) hC rfl rfl dX8_takeOff_112 rfl ?_
            refine x_iload_n (pc2 := 114) hC rfl rfl dX8_takeOff_113 rfl ?_
            refine x_iload (pc2 := 116) hC rfl dX8_takeOff_114 rfl ?_
            refine x_iload (pc2 := 118) hC rfl dX8_takeOff_116 rfl ?_
            refine x_cVi (pc2 := 121) (ci := 8) hC hK (t_left36_1 l hM hRz2 hS93 ha hb ht) lk_1060 rfl rfl (by decide) (by assumption) (by assumption) ⟨Nat.le_of_ble_eq_true rfl, Nat.le_of_ble_eq_true rfl⟩ ⟨Nat.le_refl _, Nat.le_refl _⟩ rfl (Nat.le_of_ble_eq_true rfl) dX8_takeOff_118 rfl ?_
            rintro z118 F118 A118 ⟨ez118, V118, hS118, v118, k118, g118⟩
            obtain rfl := ez118.symm
            replace hS118 : St 173 V118 F118 A118 := hS118
            have t118_wi165 : tr V118 15 = wi165 := (tr_keep (by decide) k118).trans t93_wi165
            have t118_wi193 : tr V118 33 = wi193 := (tr_keep (by decide) k118).trans uwi193
            rw [show (36 : Int) + 134 = 170 from rfl]
            obtain ⟨wi1118, ewi1118⟩ : ∃ w : T3, w = tadd (tmul (vS S b t 0) (tadd (vS S a t 3) (tneg (vS S b t 3)))) (tmul (vS S b t 2) (vS S b t 1)) := ⟨_, rfl⟩
            have uwi1118 : tr V118 170 = wi1118 := by rw [ewi1118]; exact v118
            have bwi1118 : bdt 128 125 wi1118 := by rw [ewi1118]; exact (bdt_add (a := 77) (c := 75) (b := 51) (d := 50) (bdt_mul (a := 25) (c := 25) (b := 51) (d := 50) (ok_bdt ((hi.2.1 b hb).2 t 0 ht ⟨by decide, by decide⟩).1) (bdt_add (ok_bdt ((hi.2.1 a ha).2 t 3 ht ⟨by decide, by decide⟩).1) (bdt_neg (ok_bdt ((hi.2.1 b hb).2 t 3 ht ⟨by decide, by decide⟩).1)) (by decide) (by decide) (by decide)) (by decide) (by decide)) (bdt_mul (ok_bdt ((hi.2.1 b hb).2 t 2 ht ⟨by decide, by decide⟩).1) (ok_bdt ((hi.2.1 b hb).2 t 1 ht ⟨by decide, by decide⟩).1) (by decide) (by decide)) (by decide) (by decide) (by decide))
            clear v118
            refine x_cVi (pc2 := 124) (ci := 8) hC hK (t_zero l hM hS118 (x := 170) ⟨by decide, by decide⟩ uwi1118) lk_1024 rfl rfl (by decide) (by assumption) (by assumption) ⟨Nat.le_of_ble_eq_true rfl, Nat.le_of_ble_eq_true rfl⟩ ⟨Nat.le_refl _, Nat.le_refl _⟩ rfl (Nat.le_of_ble_eq_true rfl) dX8_takeOff_121 rfl ?_
            rintro z121 F121 A121 ⟨w121, b121, e1121, e2121⟩
            obtain rfl := e1121.symm
            obtain rfl := e2121.symm
            have hRz3 : RepM S F118 A118 := hR1.K ((FrK.f (by decide)).tr ((g65.tr g93).tr g118).K)
            have qe2 : q3 wi1118 = takeF (nmT S b t 1) (nmT S a t 1) := by rw [ewi1118, q_add, q_mul, q_mul, q_sub, rsum1_comm]; rfl
            have hz3 := (b121 ()).trans (z3_iff qe2)
            refine x_if_eq (tgt := 135) (pc2 := 127) hC (by omega) dX8_takeOff_124 rfl rfl (fun h_124 => ?_) (fun h_124 => ?_)
            · refine x_iinc (pc2 := 138) (loc2 := [_, _, _, _, _, _, _, _, _, _]) hC (by decide) rfl rfl dX8_takeOff_135 rfl ?_
              refine x_goto (pc2 := 43) hC dX8_takeOff_138 rfl ?_
              refine ih (t + 1) _ _ (by omega) (by omega) (by omega) hRz3 (fun s s0 s1 => ?_)
              by_cases y : s = t
              · rw [y]
                exact ((itC_neg (fun z => absurd h_71 (hz1.mpr z))).trans ((itC_neg (fun z => absurd h_99 (hz2.mpr z))).trans (itC_neg (fun z => absurd h_124 (hz3.mpr z)))))
              · exact hdv s s0 (by omega)
            · refine x_aload_n (pc2 := 128) hC rfl rfl dX8_takeOff_127 rfl ?_
              refine x_iload (pc2 := 130) hC rfl dX8_takeOff_128 rfl ?_
              refine x_iconst (pc2 := 131) hC dX8_takeOff_130 rfl ?_
              refine x_cVi (pc2 := 134) (ci := 8) hC hK (q_refuses l hM hRz3) lk_1032 rfl rfl (by decide) (by assumption) (by assumption) ⟨Nat.le_of_ble_eq_true rfl, Nat.le_of_ble_eq_true rfl⟩ ⟨Nat.le_refl _, Nat.le_refl _⟩ rfl (Nat.le_of_ble_eq_true rfl) dX8_takeOff_131 rfl ?_
              rintro z131 F131 A131 ⟨ez, hRf⟩
              exact x_iret hC hr hlk ⟨_, rfl, _, Or.inr ⟨hok, Or.inl ⟨t, ht, hdv, fun y => absurd ((show takeD (nmT S b t 1) (nmT S a t 1) = 3 from ((itC_neg (fun z => absurd h_71 (hz1.mpr z))).trans ((itC_neg (fun z => absurd h_99 (hz2.mpr z))).trans (itC_pos (hz3.mp h_124))))).symm.trans y) (by decide), ez, congrArg (noS S t) (show takeD (nmT S b t 1) (nmT S a t 1) = 3 from ((itC_neg (fun z => absurd h_71 (hz1.mpr z))).trans ((itC_neg (fun z => absurd h_99 (hz2.mpr z))).trans (itC_pos (hz3.mp h_124))))).symm⟩⟩, hRf⟩ dX8_takeOff_134
          · refine x_aload_n (pc2 := 103) hC rfl rfl dX8_takeOff_102 rfl ?_
            refine x_iload (pc2 := 105) hC rfl dX8_takeOff_103 rfl ?_
            refine x_iconst (pc2 := 106) hC dX8_takeOff_105 rfl ?_
            refine x_cVi (pc2 := 109) (ci := 8) hC hK (q_refuses l hM hRz2) lk_1032 rfl rfl (by decide) (by assumption) (by assumption) ⟨Nat.le_of_ble_eq_true rfl, Nat.le_of_ble_eq_true rfl⟩ ⟨Nat.le_refl _, Nat.le_refl _⟩ rfl (Nat.le_of_ble_eq_true rfl) dX8_takeOff_106 rfl ?_
            rintro z106 F106 A106 ⟨ez, hRf⟩
            exact x_iret hC hr hlk ⟨_, rfl, _, Or.inr ⟨hok, Or.inl ⟨t, ht, hdv, fun y => absurd ((show takeD (nmT S b t 1) (nmT S a t 1) = 2 from ((itC_neg (fun z => absurd h_71 (hz1.mpr z))).trans (itC_pos (hz2.mp h_99)))).symm.trans y) (by decide), ez, congrArg (noS S t) (show takeD (nmT S b t 1) (nmT S a t 1) = 2 from ((itC_neg (fun z => absurd h_71 (hz1.mpr z))).trans (itC_pos (hz2.mp h_99)))).symm⟩⟩, hRf⟩ dX8_takeOff_109
        · refine x_aload_n (pc2 := 75) hC rfl rfl dX8_takeOff_74 rfl ?_
          refine x_iload (pc2 := 77) hC rfl dX8_takeOff_75 rfl ?_
          refine x_iconst (pc2 := 78) hC dX8_takeOff_77 rfl ?_
          refine x_cVi (pc2 := 81) (ci := 8) hC hK (q_refuses l hM hRz1) lk_1032 rfl rfl (by decide) (by assumption) (by assumption) ⟨Nat.le_of_ble_eq_true rfl, Nat.le_of_ble_eq_true rfl⟩ ⟨Nat.le_refl _, Nat.le_refl _⟩ rfl (Nat.le_of_ble_eq_true rfl) dX8_takeOff_78 rfl ?_
          rintro z78 F78 A78 ⟨ez, hRf⟩
          exact x_iret hC hr hlk ⟨_, rfl, _, Or.inr ⟨hok, Or.inl ⟨t, ht, hdv, fun y => absurd ((show takeD (nmT S b t 1) (nmT S a t 1) = 1 from (itC_pos (hz1.mp h_71))).symm.trans y) (by decide), ez, congrArg (noS S t) (show takeD (nmT S b t 1) (nmT S a t 1) = 1 from (itC_pos (hz1.mp h_71))).symm⟩⟩, hRf⟩ dX8_takeOff_81
  refine x_aload_n (pc2 := 1) hC rfl rfl dX8_takeOff_0 rfl ?_
  refine x_iload_n (pc2 := 2) hC rfl rfl dX8_takeOff_1 rfl ?_
  refine x_iconst (pc2 := 3) hC dX8_takeOff_2 rfl ?_
  refine x_cVi (pc2 := 6) (ci := 8) hC hK (q_has l hM hR0 hc (by decide)) lk_977 rfl rfl (by decide) (by assumption) (by assumption) ⟨Nat.le_of_ble_eq_true rfl, Nat.le_of_ble_eq_true rfl⟩ ⟨Nat.le_refl _, Nat.le_refl _⟩ rfl (Nat.le_of_ble_eq_true rfl) dX8_takeOff_3 rfl ?_
  rintro z3 F3 A3 ⟨w3, b3_, e13, e23⟩
  obtain rfl := e13.symm
  obtain rfl := e23.symm
  refine x_if_eq (tgt := 38) (pc2 := 9) hC (by omega) dX8_takeOff_6 rfl rfl (fun h_6 => ?_) (fun h_6 => ?_)
  · refine x_iconst (pc2 := 39) hC dX8_takeOff_38 rfl ?_
    exact x_iret hC hr hlk ⟨_, rfl, S, Or.inl ⟨fun ⟨⟨q1, q2, q3⟩, q4⟩ => by first | exact absurd h_6 ((b3_ ()).mpr q1) | exact absurd h_15 ((b12 ()).mpr q2) | exact absurd h_24 ((b21 ()).mpr q3) | exact absurd h_35 ((b32 ()).mpr (by rcases q4 with q4 | q4 <;> omega)), rfl, rfl⟩, hR0⟩ dX8_takeOff_39
  · refine x_aload_n (pc2 := 10) hC rfl rfl dX8_takeOff_9 rfl ?_
    refine x_iload_n (pc2 := 11) hC rfl rfl dX8_takeOff_10 rfl ?_
    refine x_iconst (pc2 := 12) hC dX8_takeOff_11 rfl ?_
    refine x_cVi (pc2 := 15) (ci := 8) hC hK (q_has l hM hR0 ha0 (by decide)) lk_977 rfl rfl (by decide) (by assumption) (by assumption) ⟨Nat.le_of_ble_eq_true rfl, Nat.le_of_ble_eq_true rfl⟩ ⟨Nat.le_refl _, Nat.le_refl _⟩ rfl (Nat.le_of_ble_eq_true rfl) dX8_takeOff_12 rfl ?_
    rintro z12 F12 A12 ⟨w12, b12, e112, e212⟩
    obtain rfl := e112.symm
    obtain rfl := e212.symm
    refine x_if_eq (tgt := 38) (pc2 := 18) hC (by omega) dX8_takeOff_15 rfl rfl (fun h_15 => ?_) (fun h_15 => ?_)
    · refine x_iconst (pc2 := 39) hC dX8_takeOff_38 rfl ?_
      exact x_iret hC hr hlk ⟨_, rfl, S, Or.inl ⟨fun ⟨⟨q1, q2, q3⟩, q4⟩ => by first | exact absurd h_6 ((b3_ ()).mpr q1) | exact absurd h_15 ((b12 ()).mpr q2) | exact absurd h_24 ((b21 ()).mpr q3) | exact absurd h_35 ((b32 ()).mpr (by rcases q4 with q4 | q4 <;> omega)), rfl, rfl⟩, hR0⟩ dX8_takeOff_39
    · refine x_aload_n (pc2 := 19) hC rfl rfl dX8_takeOff_18 rfl ?_
      refine x_iload_n (pc2 := 20) hC rfl rfl dX8_takeOff_19 rfl ?_
      refine x_iconst (pc2 := 21) hC dX8_takeOff_20 rfl ?_
      refine x_cVi (pc2 := 24) (ci := 8) hC hK (q_has l hM hR0 hb0 (by decide)) lk_977 rfl rfl (by decide) (by assumption) (by assumption) ⟨Nat.le_of_ble_eq_true rfl, Nat.le_of_ble_eq_true rfl⟩ ⟨Nat.le_refl _, Nat.le_refl _⟩ rfl (Nat.le_of_ble_eq_true rfl) dX8_takeOff_21 rfl ?_
      rintro z21 F21 A21 ⟨w21, b21, e121, e221⟩
      obtain rfl := e121.symm
      obtain rfl := e221.symm
      refine x_if_eq (tgt := 38) (pc2 := 27) hC (by omega) dX8_takeOff_24 rfl rfl (fun h_24 => ?_) (fun h_24 => ?_)
      · refine x_iconst (pc2 := 39) hC dX8_takeOff_38 rfl ?_
        exact x_iret hC hr hlk ⟨_, rfl, S, Or.inl ⟨fun ⟨⟨q1, q2, q3⟩, q4⟩ => by first | exact absurd h_6 ((b3_ ()).mpr q1) | exact absurd h_15 ((b12 ()).mpr q2) | exact absurd h_24 ((b21 ()).mpr q3) | exact absurd h_35 ((b32 ()).mpr (by rcases q4 with q4 | q4 <;> omega)), rfl, rfl⟩, hR0⟩ dX8_takeOff_39
      · refine x_iload (pc2 := 29) hC rfl dX8_takeOff_27 rfl ?_
        refine x_i2l (pc2 := 30) hC (by omega) dX8_takeOff_29 rfl ?_
        refine x_lconst0 (pc2 := 31) hC dX8_takeOff_30 rfl ?_
        refine x_lconst1 (pc2 := 32) hC dX8_takeOff_31 rfl ?_
        refine x_cSi (pc2 := 35) hC hK (n_in l (by unfold I64; unfold I32 at hs0; omega) (by decide) (by decide)) lk_873 rfl ⟨Nat.le_of_ble_eq_true rfl, Nat.le_of_ble_eq_true rfl⟩ ⟨Nat.le_refl _, Nat.le_refl _⟩ rfl (Nat.le_of_ble_eq_true rfl) dX8_takeOff_32 rfl ?_
        rintro z32 F32 A32 ⟨w32, b32, e132, e232⟩
        obtain rfl := e132.symm
        obtain rfl := e232.symm
        refine x_if_ne (tgt := 40) (pc2 := 38) hC (by omega) dX8_takeOff_35 rfl rfl (fun h_35 => ?_) (fun h_35 => ?_)
        · refine x_iconst (pc2 := 41) hC dX8_takeOff_40 rfl ?_
          refine x_istore (pc2 := 43) (loc2 := [_, _, _, _, _, _, _, _, _, _]) hC (by decide) rfl dX8_takeOff_41 rfl ?_
          have hok := (show hasB S c0 2 ∧ hasB S a 2 ∧ hasB S b 2 from ⟨(b3_ ()).mp h_6, (b12 ()).mp h_15, (b21 ()).mp h_24⟩)
          have hs := (b32 ()).mp h_35
          rcases (show s0 = 0 ∨ s0 = 1 by omega) with rfl | rfl
          · exact loop0 ⟨hok, Or.inl rfl⟩ 5 0 F A (by decide) (by decide) (by decide) hR0 (fun s a b => by omega)
          · exact loop1 ⟨hok, Or.inr rfl⟩ 5 0 F A (by decide) (by decide) (by decide) hR0 (fun s a b => by omega)
        · refine x_iconst (pc2 := 39) hC dX8_takeOff_38 rfl ?_
          exact x_iret hC hr hlk ⟨_, rfl, S, Or.inl ⟨fun ⟨⟨q1, q2, q3⟩, q4⟩ => by first | exact absurd h_6 ((b3_ ()).mpr q1) | exact absurd h_15 ((b12 ()).mpr q2) | exact absurd h_24 ((b21 ()).mpr q3) | exact absurd h_35 ((b32 ()).mpr (by rcases q4 with q4 | q4 <;> omega)), rfl, rfl⟩, hR0⟩ dX8_takeOff_39
