theorem dX8_isNought_0 : decode cX8_isNought 0 = .ok (.aload_n 0, 1) := by decide +kernel
theorem dX8_isNought_1 : decode cX8_isNought 1 = .ok (.getfield 31, 3) := by decide +kernel
theorem dX8_isNought_4 : decode cX8_isNought 4 = .ok (.iload_n 1, 1) := by decide +kernel
theorem dX8_isNought_5 : decode cX8_isNought 5 = .ok (.iaload, 1) := by decide +kernel
theorem dX8_isNought_6 : decode cX8_isNought 6 = .ok (.ifCond .ne 7, 3) := by decide +kernel
theorem dX8_isNought_9 : decode cX8_isNought 9 = .ok (.iconst 1, 1) := by decide +kernel
theorem dX8_isNought_10 : decode cX8_isNought 10 = .ok (.goto 4, 3) := by decide +kernel
theorem dX8_isNought_13 : decode cX8_isNought 13 = .ok (.iconst 0, 1) := by decide +kernel
theorem dX8_isNought_14 : decode cX8_isNought 14 = .ok (.ireturn, 1) := by decide +kernel
set_option maxHeartbeats 4000000 in
theorem n_isNought (l : Launch) {D : va_G} {ids : Nat → ClassId} {β : Nat} {sh : Nat → Nat × Nat} {N : Nat} {R : Nat → Nat → Option Nat} {F : Nat → Nat → Int} {A : Nat → Int → Int} (hM : MoL sh R N) {T x : Int} {V : Int → Int} (hS : St T V F A) (hx : 0 ≤ x ∧ x < T) : MetX l yX8_isNought cX8_isNought 2 (some (.boolean)) 0 0 D ids β sh N R F A [rf 0, pI x] (pIr (fun z F2 A2 => (0 ≤ z ∧ z ≤ 1) ∧ (Unit → (z ≠ 0 ↔ V x = 0)) ∧ F2 = F ∧ A2 = A)) := by
  refine MetX.of (loc := [_, _]) (plainFor_of_name (by decide +kernel)) (Nat.le_of_ble_eq_true rfl) rfl ?_
  intro p e s m args below meth c hC hK hr hlk
  obtain ⟨⟨m0, m1⟩, ⟨r0, r2, r3, r7, r8, r9, r11, r12, r13, r16, r18⟩, ⟨m2, m3⟩, ⟨m4, m5⟩, ⟨m6, m7⟩, ⟨m8, m9⟩, ⟨m10, m11⟩, ⟨m12, m13⟩, ⟨m14, m15⟩, ⟨m16, m17⟩, ⟨m18, m19⟩, ⟨m20, m21⟩, ⟨m22, m23⟩⟩ := id hM
  obtain ⟨ok, ev⟩ := hS.2.2 x hx.1 hx.2
  have hT0 := hS.2.1
  have s1 := ok.1
  have zz := mm_zero ok
  rw [ev] at zz
  refine x_aload_n (pc2 := 1) hC rfl rfl dX8_isNought_0 rfl ?_
  refine g_817 (pc2 := 4) hC hK (by assumption) (by assumption) (by assumption) dX8_isNought_1 rfl ?_
  refine x_iload_n (pc2 := 5) hC rfl rfl dX8_isNought_4 rfl ?_
  refine x_iald (pc2 := 6) hC hK (by assumption) (by assumption) (by omega) (by decide) dX8_isNought_5 rfl ?_
  refine x_if_ne (tgt := 13) (pc2 := 9) hC (by omega) dX8_isNought_6 rfl rfl (fun h_6 => ?_) (fun h_6 => ?_)
  · refine x_iconst (pc2 := 14) hC dX8_isNought_13 rfl ?_
    exact x_zret hC (by omega) hr hlk ⟨_, rfl, by omega, fun _ => by first | exact ⟨fun _ => zz.mp (by assumption), fun _ => by decide⟩ | exact ⟨fun q => absurd rfl q, fun q => absurd (zz.mpr q) (by assumption)⟩, rfl, rfl⟩ dX8_isNought_14
  · refine x_iconst (pc2 := 10) hC dX8_isNought_9 rfl ?_
    refine x_goto (pc2 := 14) hC dX8_isNought_10 rfl ?_
    exact x_zret hC (by omega) hr hlk ⟨_, rfl, by omega, fun _ => by first | exact ⟨fun _ => zz.mp (by assumption), fun _ => by decide⟩ | exact ⟨fun q => absurd rfl q, fun q => absurd (zz.mpr q) (by assumption)⟩, rfl, rfl⟩ dX8_isNought_14
theorem dX8_signOf_0 : decode cX8_signOf 0 = .ok (.aload_n 0, 1) := by decide +kernel
theorem dX8_signOf_1 : decode cX8_signOf 1 = .ok (.getfield 31, 3) := by decide +kernel
theorem dX8_signOf_4 : decode cX8_signOf 4 = .ok (.iload_n 1, 1) := by decide +kernel
theorem dX8_signOf_5 : decode cX8_signOf 5 = .ok (.iaload, 1) := by decide +kernel
theorem dX8_signOf_6 : decode cX8_signOf 6 = .ok (.ifCond .ne 7, 3) := by decide +kernel
theorem dX8_signOf_9 : decode cX8_signOf 9 = .ok (.iconst 0, 1) := by decide +kernel
theorem dX8_signOf_10 : decode cX8_signOf 10 = .ok (.goto 9, 3) := by decide +kernel
theorem dX8_signOf_13 : decode cX8_signOf 13 = .ok (.aload_n 0, 1) := by decide +kernel
theorem dX8_signOf_14 : decode cX8_signOf 14 = .ok (.getfield 34, 3) := by decide +kernel
theorem dX8_signOf_17 : decode cX8_signOf 17 = .ok (.iload_n 1, 1) := by decide +kernel
theorem dX8_signOf_18 : decode cX8_signOf 18 = .ok (.iaload, 1) := by decide +kernel
theorem dX8_signOf_19 : decode cX8_signOf 19 = .ok (.ireturn, 1) := by decide +kernel
theorem sg_of {A : Nat → Int → Int} {x : Int} (h : MOK A x) (hs : A 5 x ≠ 0) : A 6 x = sgc (mv A x) 0 := by
  have a := mm_ge h (by have := h.1; omega)
  have b := pow_pos' (B := 32768) (by decide) ((A 5 x).toNat - 1)
  unfold sgc mv
  rcases h.2.2.2 with q | q <;> rw [q]
  · rw [if_neg (by omega), if_neg (by omega)]
  · rw [if_pos (by omega)]
set_option maxHeartbeats 4000000 in
theorem n_signOf (l : Launch) {D : va_G} {ids : Nat → ClassId} {β : Nat} {sh : Nat → Nat × Nat} {N : Nat} {R : Nat → Nat → Option Nat} {F : Nat → Nat → Int} {A : Nat → Int → Int} (hM : MoL sh R N) {T x : Int} {V : Int → Int} (hS : St T V F A) (hx : 0 ≤ x ∧ x < T) : MetX l yX8_signOf cX8_signOf 2 (some (.int)) 0 0 D ids β sh N R F A [rf 0, pI x] (pIr (sameI F A (sgc (V x) 0))) := by
  refine MetX.of (loc := [_, _]) (plainFor_of_name (by decide +kernel)) (Nat.le_of_ble_eq_true rfl) rfl ?_
  intro p e s m args below meth c hC hK hr hlk
  obtain ⟨⟨m0, m1⟩, ⟨r0, r2, r3, r7, r8, r9, r11, r12, r13, r16, r18⟩, ⟨m2, m3⟩, ⟨m4, m5⟩, ⟨m6, m7⟩, ⟨m8, m9⟩, ⟨m10, m11⟩, ⟨m12, m13⟩, ⟨m14, m15⟩, ⟨m16, m17⟩, ⟨m18, m19⟩, ⟨m20, m21⟩, ⟨m22, m23⟩⟩ := id hM
  obtain ⟨ok, ev⟩ := hS.2.2 x hx.1 hx.2
  have hT0 := hS.2.1
  have s1 := ok.1
  have zz := mm_zero ok
  rw [ev] at zz
  refine x_aload_n (pc2 := 1) hC rfl rfl dX8_signOf_0 rfl ?_
  refine g_817 (pc2 := 4) hC hK (by assumption) (by assumption) (by assumption) dX8_signOf_1 rfl ?_
  refine x_iload_n (pc2 := 5) hC rfl rfl dX8_signOf_4 rfl ?_
  refine x_iald (pc2 := 6) hC hK (by assumption) (by assumption) (by omega) (by decide) dX8_signOf_5 rfl ?_
  refine x_if_ne (tgt := 13) (pc2 := 9) hC (by omega) dX8_signOf_6 rfl rfl (fun h_6 => ?_) (fun h_6 => ?_)
  · have e0 : sgc (V x) 0 = A 6 x := by rw [← ev]; exact (sg_of ok (by assumption)).symm
    refine x_aload_n (pc2 := 14) hC rfl rfl dX8_signOf_13 rfl ?_
    refine g_818 (pc2 := 17) hC hK (by assumption) (by assumption) (by assumption) dX8_signOf_14 rfl ?_
    refine x_iload_n (pc2 := 18) hC rfl rfl dX8_signOf_17 rfl ?_
    refine x_iald (pc2 := 19) hC hK (by assumption) (by assumption) (by omega) (by decide) dX8_signOf_18 rfl ?_
    exact x_iret hC hr hlk ⟨_, rfl, e0.symm, rfl, rfl⟩ dX8_signOf_19
  · have e0 : sgc (V x) 0 = 0 := by rw [zz.mp (by assumption)]; rfl
    refine x_iconst (pc2 := 10) hC dX8_signOf_9 rfl ?_
    refine x_goto (pc2 := 19) hC dX8_signOf_10 rfl ?_
    exact x_iret hC hr hlk ⟨_, rfl, e0.symm, rfl, rfl⟩ dX8_signOf_19
theorem dX8_plus_0 : decode cX8_plus 0 = .ok (.aload_n 0, 1) := by decide +kernel
theorem dX8_plus_1 : decode cX8_plus 1 = .ok (.invokevirtual 55, 3) := by decide +kernel
theorem dX8_plus_4 : decode cX8_plus 4 = .ok (.istore_n 3, 1) := by decide +kernel
theorem dX8_plus_5 : decode cX8_plus 5 = .ok (.aload_n 0, 1) := by decide +kernel
theorem dX8_plus_6 : decode cX8_plus 6 = .ok (.getfield 34, 3) := by decide +kernel
theorem dX8_plus_9 : decode cX8_plus 9 = .ok (.iload_n 1, 1) := by decide +kernel
theorem dX8_plus_10 : decode cX8_plus 10 = .ok (.iaload, 1) := by decide +kernel
theorem dX8_plus_11 : decode cX8_plus 11 = .ok (.aload_n 0, 1) := by decide +kernel
theorem dX8_plus_12 : decode cX8_plus 12 = .ok (.getfield 34, 3) := by decide +kernel
theorem dX8_plus_15 : decode cX8_plus 15 = .ok (.iload_n 2, 1) := by decide +kernel
theorem dX8_plus_16 : decode cX8_plus 16 = .ok (.iaload, 1) := by decide +kernel
theorem dX8_plus_17 : decode cX8_plus 17 = .ok (.if_icmp .ne 124, 3) := by decide +kernel
theorem dX8_plus_20 : decode cX8_plus 20 = .ok (.iconst 0, 1) := by decide +kernel
theorem dX8_plus_21 : decode cX8_plus 21 = .ok (.istore 4, 2) := by decide +kernel
theorem dX8_plus_23 : decode cX8_plus 23 = .ok (.aload_n 0, 1) := by decide +kernel
theorem dX8_plus_24 : decode cX8_plus 24 = .ok (.getfield 31, 3) := by decide +kernel
theorem dX8_plus_27 : decode cX8_plus 27 = .ok (.iload_n 1, 1) := by decide +kernel
theorem dX8_plus_28 : decode cX8_plus 28 = .ok (.iaload, 1) := by decide +kernel
theorem dX8_plus_29 : decode cX8_plus 29 = .ok (.aload_n 0, 1) := by decide +kernel
theorem dX8_plus_30 : decode cX8_plus 30 = .ok (.getfield 31, 3) := by decide +kernel
theorem dX8_plus_33 : decode cX8_plus 33 = .ok (.iload_n 2, 1) := by decide +kernel
theorem dX8_plus_34 : decode cX8_plus 34 = .ok (.iaload, 1) := by decide +kernel
theorem dX8_plus_35 : decode cX8_plus 35 = .ok (.if_icmp .le 12, 3) := by decide +kernel
theorem dX8_plus_38 : decode cX8_plus 38 = .ok (.aload_n 0, 1) := by decide +kernel
theorem dX8_plus_39 : decode cX8_plus 39 = .ok (.getfield 31, 3) := by decide +kernel
theorem dX8_plus_42 : decode cX8_plus 42 = .ok (.iload_n 1, 1) := by decide +kernel
theorem dX8_plus_43 : decode cX8_plus 43 = .ok (.iaload, 1) := by decide +kernel
theorem dX8_plus_44 : decode cX8_plus 44 = .ok (.goto 9, 3) := by decide +kernel
theorem dX8_plus_47 : decode cX8_plus 47 = .ok (.aload_n 0, 1) := by decide +kernel
theorem dX8_plus_48 : decode cX8_plus 48 = .ok (.getfield 31, 3) := by decide +kernel
theorem dX8_plus_51 : decode cX8_plus 51 = .ok (.iload_n 2, 1) := by decide +kernel
theorem dX8_plus_52 : decode cX8_plus 52 = .ok (.iaload, 1) := by decide +kernel
theorem dX8_plus_53 : decode cX8_plus 53 = .ok (.istore 5, 2) := by decide +kernel
theorem dX8_plus_55 : decode cX8_plus 55 = .ok (.iconst 0, 1) := by decide +kernel
theorem dX8_plus_56 : decode cX8_plus 56 = .ok (.istore 6, 2) := by decide +kernel
theorem dX8_plus_58 : decode cX8_plus 58 = .ok (.iload 6, 2) := by decide +kernel
theorem dX8_plus_60 : decode cX8_plus 60 = .ok (.iload 5, 2) := by decide +kernel
theorem dX8_plus_62 : decode cX8_plus 62 = .ok (.if_icmp .gt 54, 3) := by decide +kernel
theorem dX8_plus_65 : decode cX8_plus 65 = .ok (.aload_n 0, 1) := by decide +kernel
theorem dX8_plus_66 : decode cX8_plus 66 = .ok (.iload_n 1, 1) := by decide +kernel
theorem dX8_plus_67 : decode cX8_plus 67 = .ok (.iload 6, 2) := by decide +kernel
theorem dX8_plus_69 : decode cX8_plus 69 = .ok (.invokevirtual 61, 3) := by decide +kernel
theorem dX8_plus_72 : decode cX8_plus 72 = .ok (.aload_n 0, 1) := by decide +kernel
theorem dX8_plus_73 : decode cX8_plus 73 = .ok (.iload_n 2, 1) := by decide +kernel
theorem dX8_plus_74 : decode cX8_plus 74 = .ok (.iload 6, 2) := by decide +kernel
theorem dX8_plus_76 : decode cX8_plus 76 = .ok (.invokevirtual 61, 3) := by decide +kernel
theorem dX8_plus_79 : decode cX8_plus 79 = .ok (.iadd, 1) := by decide +kernel
theorem dX8_plus_80 : decode cX8_plus 80 = .ok (.iload 4, 2) := by decide +kernel
theorem dX8_plus_82 : decode cX8_plus 82 = .ok (.iadd, 1) := by decide +kernel
theorem dX8_plus_83 : decode cX8_plus 83 = .ok (.istore 7, 2) := by decide +kernel
theorem dX8_plus_85 : decode cX8_plus 85 = .ok (.aload_n 0, 1) := by decide +kernel
theorem dX8_plus_86 : decode cX8_plus 86 = .ok (.getfield 28, 3) := by decide +kernel
theorem dX8_plus_89 : decode cX8_plus 89 = .ok (.sipush 240, 3) := by decide +kernel
theorem dX8_plus_92 : decode cX8_plus 92 = .ok (.iload_n 3, 1) := by decide +kernel
theorem dX8_plus_93 : decode cX8_plus 93 = .ok (.imul, 1) := by decide +kernel
theorem dX8_plus_94 : decode cX8_plus 94 = .ok (.iload 6, 2) := by decide +kernel
theorem dX8_plus_96 : decode cX8_plus 96 = .ok (.iadd, 1) := by decide +kernel
theorem dX8_plus_97 : decode cX8_plus 97 = .ok (.iload 7, 2) := by decide +kernel
theorem dX8_plus_99 : decode cX8_plus 99 = .ok (.ldc 65, 2) := by decide +kernel
theorem dX8_plus_101 : decode cX8_plus 101 = .ok (.irem, 1) := by decide +kernel
theorem dX8_plus_102 : decode cX8_plus 102 = .ok (.iastore, 1) := by decide +kernel
theorem dX8_plus_103 : decode cX8_plus 103 = .ok (.iload 7, 2) := by decide +kernel
theorem dX8_plus_105 : decode cX8_plus 105 = .ok (.ldc 65, 2) := by decide +kernel
theorem dX8_plus_107 : decode cX8_plus 107 = .ok (.idiv, 1) := by decide +kernel
theorem dX8_plus_108 : decode cX8_plus 108 = .ok (.istore 4, 2) := by decide +kernel
theorem dX8_plus_110 : decode cX8_plus 110 = .ok (.iinc 6 1, 3) := by decide +kernel
theorem dX8_plus_113 : decode cX8_plus 113 = .ok (.goto (-55), 3) := by decide +kernel
theorem dX8_plus_116 : decode cX8_plus 116 = .ok (.aload_n 0, 1) := by decide +kernel
theorem dX8_plus_117 : decode cX8_plus 117 = .ok (.getfield 31, 3) := by decide +kernel
theorem dX8_plus_120 : decode cX8_plus 120 = .ok (.iload_n 3, 1) := by decide +kernel
theorem dX8_plus_121 : decode cX8_plus 121 = .ok (.iload 5, 2) := by decide +kernel
theorem dX8_plus_123 : decode cX8_plus 123 = .ok (.iconst 1, 1) := by decide +kernel
theorem dX8_plus_124 : decode cX8_plus 124 = .ok (.iadd, 1) := by decide +kernel
theorem dX8_plus_125 : decode cX8_plus 125 = .ok (.iastore, 1) := by decide +kernel
theorem dX8_plus_126 : decode cX8_plus 126 = .ok (.aload_n 0, 1) := by decide +kernel
theorem dX8_plus_127 : decode cX8_plus 127 = .ok (.getfield 34, 3) := by decide +kernel
theorem dX8_plus_130 : decode cX8_plus 130 = .ok (.iload_n 3, 1) := by decide +kernel
theorem dX8_plus_131 : decode cX8_plus 131 = .ok (.aload_n 0, 1) := by decide +kernel
theorem dX8_plus_132 : decode cX8_plus 132 = .ok (.getfield 34, 3) := by decide +kernel
theorem dX8_plus_135 : decode cX8_plus 135 = .ok (.iload_n 1, 1) := by decide +kernel
theorem dX8_plus_136 : decode cX8_plus 136 = .ok (.iaload, 1) := by decide +kernel
theorem dX8_plus_137 : decode cX8_plus 137 = .ok (.iastore, 1) := by decide +kernel
theorem dX8_plus_138 : decode cX8_plus 138 = .ok (.goto 140, 3) := by decide +kernel
theorem dX8_plus_141 : decode cX8_plus 141 = .ok (.aload_n 0, 1) := by decide +kernel
theorem dX8_plus_142 : decode cX8_plus 142 = .ok (.iload_n 1, 1) := by decide +kernel
theorem dX8_plus_143 : decode cX8_plus 143 = .ok (.iload_n 2, 1) := by decide +kernel
theorem dX8_plus_144 : decode cX8_plus 144 = .ok (.invokevirtual 66, 3) := by decide +kernel
theorem dX8_plus_147 : decode cX8_plus 147 = .ok (.istore 4, 2) := by decide +kernel
theorem dX8_plus_149 : decode cX8_plus 149 = .ok (.iload 4, 2) := by decide +kernel
theorem dX8_plus_151 : decode cX8_plus 151 = .ok (.ifCond .ge 7, 3) := by decide +kernel
theorem dX8_plus_154 : decode cX8_plus 154 = .ok (.iload_n 2, 1) := by decide +kernel
theorem dX8_plus_155 : decode cX8_plus 155 = .ok (.goto 4, 3) := by decide +kernel
theorem dX8_plus_158 : decode cX8_plus 158 = .ok (.iload_n 1, 1) := by decide +kernel
theorem dX8_plus_159 : decode cX8_plus 159 = .ok (.istore 5, 2) := by decide +kernel
theorem dX8_plus_161 : decode cX8_plus 161 = .ok (.iload 4, 2) := by decide +kernel
theorem dX8_plus_163 : decode cX8_plus 163 = .ok (.ifCond .ge 7, 3) := by decide +kernel
theorem dX8_plus_166 : decode cX8_plus 166 = .ok (.iload_n 1, 1) := by decide +kernel
theorem dX8_plus_167 : decode cX8_plus 167 = .ok (.goto 4, 3) := by decide +kernel
theorem dX8_plus_170 : decode cX8_plus 170 = .ok (.iload_n 2, 1) := by decide +kernel
theorem dX8_plus_171 : decode cX8_plus 171 = .ok (.istore 6, 2) := by decide +kernel
theorem dX8_plus_173 : decode cX8_plus 173 = .ok (.iconst 0, 1) := by decide +kernel
theorem dX8_plus_174 : decode cX8_plus 174 = .ok (.istore 7, 2) := by decide +kernel
theorem dX8_plus_176 : decode cX8_plus 176 = .ok (.iconst 0, 1) := by decide +kernel
theorem dX8_plus_177 : decode cX8_plus 177 = .ok (.istore 8, 2) := by decide +kernel
theorem dX8_plus_179 : decode cX8_plus 179 = .ok (.iload 8, 2) := by decide +kernel
theorem dX8_plus_181 : decode cX8_plus 181 = .ok (.aload_n 0, 1) := by decide +kernel
theorem dX8_plus_182 : decode cX8_plus 182 = .ok (.getfield 31, 3) := by decide +kernel
theorem dX8_plus_185 : decode cX8_plus 185 = .ok (.iload 5, 2) := by decide +kernel
theorem dX8_plus_187 : decode cX8_plus 187 = .ok (.iaload, 1) := by decide +kernel
theorem dX8_plus_188 : decode cX8_plus 188 = .ok (.if_icmp .ge 64, 3) := by decide +kernel
theorem dX8_plus_191 : decode cX8_plus 191 = .ok (.aload_n 0, 1) := by decide +kernel
theorem dX8_plus_192 : decode cX8_plus 192 = .ok (.iload 5, 2) := by decide +kernel
theorem dX8_plus_194 : decode cX8_plus 194 = .ok (.iload 8, 2) := by decide +kernel
theorem dX8_plus_196 : decode cX8_plus 196 = .ok (.invokevirtual 61, 3) := by decide +kernel
theorem dX8_plus_199 : decode cX8_plus 199 = .ok (.aload_n 0, 1) := by decide +kernel
theorem dX8_plus_200 : decode cX8_plus 200 = .ok (.iload 6, 2) := by decide +kernel
theorem dX8_plus_202 : decode cX8_plus 202 = .ok (.iload 8, 2) := by decide +kernel
theorem dX8_plus_204 : decode cX8_plus 204 = .ok (.invokevirtual 61, 3) := by decide +kernel
theorem dX8_plus_207 : decode cX8_plus 207 = .ok (.isub, 1) := by decide +kernel
theorem dX8_plus_208 : decode cX8_plus 208 = .ok (.iload 7, 2) := by decide +kernel
theorem dX8_plus_210 : decode cX8_plus 210 = .ok (.isub, 1) := by decide +kernel
theorem dX8_plus_211 : decode cX8_plus 211 = .ok (.istore 9, 2) := by decide +kernel
theorem dX8_plus_213 : decode cX8_plus 213 = .ok (.iload 9, 2) := by decide +kernel
theorem dX8_plus_215 : decode cX8_plus 215 = .ok (.ifCond .ge 7, 3) := by decide +kernel
theorem dX8_plus_218 : decode cX8_plus 218 = .ok (.iconst 1, 1) := by decide +kernel
theorem dX8_plus_219 : decode cX8_plus 219 = .ok (.goto 4, 3) := by decide +kernel
theorem dX8_plus_222 : decode cX8_plus 222 = .ok (.iconst 0, 1) := by decide +kernel
theorem dX8_plus_223 : decode cX8_plus 223 = .ok (.istore 7, 2) := by decide +kernel
theorem dX8_plus_225 : decode cX8_plus 225 = .ok (.aload_n 0, 1) := by decide +kernel
theorem dX8_plus_226 : decode cX8_plus 226 = .ok (.getfield 28, 3) := by decide +kernel
theorem dX8_plus_229 : decode cX8_plus 229 = .ok (.sipush 240, 3) := by decide +kernel
theorem dX8_plus_232 : decode cX8_plus 232 = .ok (.iload_n 3, 1) := by decide +kernel
theorem dX8_plus_233 : decode cX8_plus 233 = .ok (.imul, 1) := by decide +kernel
theorem dX8_plus_234 : decode cX8_plus 234 = .ok (.iload 8, 2) := by decide +kernel
theorem dX8_plus_236 : decode cX8_plus 236 = .ok (.iadd, 1) := by decide +kernel
theorem dX8_plus_237 : decode cX8_plus 237 = .ok (.iload 9, 2) := by decide +kernel
theorem dX8_plus_239 : decode cX8_plus 239 = .ok (.iload 7, 2) := by decide +kernel
theorem dX8_plus_241 : decode cX8_plus 241 = .ok (.ldc 65, 2) := by decide +kernel
theorem dX8_plus_243 : decode cX8_plus 243 = .ok (.imul, 1) := by decide +kernel
theorem dX8_plus_244 : decode cX8_plus 244 = .ok (.iadd, 1) := by decide +kernel
theorem dX8_plus_245 : decode cX8_plus 245 = .ok (.iastore, 1) := by decide +kernel
theorem dX8_plus_246 : decode cX8_plus 246 = .ok (.iinc 8 1, 3) := by decide +kernel
theorem dX8_plus_249 : decode cX8_plus 249 = .ok (.goto (-70), 3) := by decide +kernel
theorem dX8_plus_252 : decode cX8_plus 252 = .ok (.aload_n 0, 1) := by decide +kernel
theorem dX8_plus_253 : decode cX8_plus 253 = .ok (.getfield 31, 3) := by decide +kernel
theorem dX8_plus_256 : decode cX8_plus 256 = .ok (.iload_n 3, 1) := by decide +kernel
theorem dX8_plus_257 : decode cX8_plus 257 = .ok (.aload_n 0, 1) := by decide +kernel
theorem dX8_plus_258 : decode cX8_plus 258 = .ok (.getfield 31, 3) := by decide +kernel
theorem dX8_plus_261 : decode cX8_plus 261 = .ok (.iload 5, 2) := by decide +kernel
theorem dX8_plus_263 : decode cX8_plus 263 = .ok (.iaload, 1) := by decide +kernel
theorem dX8_plus_264 : decode cX8_plus 264 = .ok (.iastore, 1) := by decide +kernel
theorem dX8_plus_265 : decode cX8_plus 265 = .ok (.aload_n 0, 1) := by decide +kernel
theorem dX8_plus_266 : decode cX8_plus 266 = .ok (.getfield 34, 3) := by decide +kernel
theorem dX8_plus_269 : decode cX8_plus 269 = .ok (.iload_n 3, 1) := by decide +kernel
theorem dX8_plus_270 : decode cX8_plus 270 = .ok (.aload_n 0, 1) := by decide +kernel
theorem dX8_plus_271 : decode cX8_plus 271 = .ok (.getfield 34, 3) := by decide +kernel
theorem dX8_plus_274 : decode cX8_plus 274 = .ok (.iload 5, 2) := by decide +kernel
theorem dX8_plus_276 : decode cX8_plus 276 = .ok (.iaload, 1) := by decide +kernel
theorem dX8_plus_277 : decode cX8_plus 277 = .ok (.iastore, 1) := by decide +kernel
theorem dX8_plus_278 : decode cX8_plus 278 = .ok (.aload_n 0, 1) := by decide +kernel
theorem dX8_plus_279 : decode cX8_plus 279 = .ok (.iload_n 3, 1) := by decide +kernel
theorem dX8_plus_280 : decode cX8_plus 280 = .ok (.invokevirtual 69, 3) := by decide +kernel
theorem dX8_plus_283 : decode cX8_plus 283 = .ok (.iload_n 3, 1) := by decide +kernel
theorem dX8_plus_284 : decode cX8_plus 284 = .ok (.ireturn, 1) := by decide +kernel
set_option maxHeartbeats 16000000 in
theorem n_plus (l : Launch) {D : va_G} {ids : Nat → ClassId} {β : Nat} {sh : Nat → Nat × Nat} {N : Nat} {R : Nat → Nat → Option Nat} {F : Nat → Nat → Int} {A : Nat → Int → Int} (hM : MoL sh R N) {T x y : Int} {V : Int → Int} {a b : Nat} (hS : St T V F A) (hT : T < 1500) (hx : 0 ≤ x ∧ x < T) (hy : 0 ≤ y ∧ y < T) (bx : bd a (V x)) (bY : bd b (V y)) (hab : a ≤ 1071 ∧ b ≤ 1071) : MetX l yX8_plus cX8_plus 10 (some (.int)) 1 23 D ids β sh N R F A [rf 0, pI x, pI y] (pIr (Pq F A T V (V x + V y))) := by
  refine MetX.of (loc := [_, _, _, _, _, _, _, _, _, _]) (plainFor_of_name (by decide +kernel)) (Nat.le_of_ble_eq_true rfl) rfl ?_
  intro p e s m args below meth c hC hK hr hlk
  obtain ⟨⟨m0, m1⟩, ⟨r0, r2, r3, r7, r8, r9, r11, r12, r13, r16, r18⟩, ⟨m2, m3⟩, ⟨m4, m5⟩, ⟨m6, m7⟩, ⟨m8, m9⟩, ⟨m10, m11⟩, ⟨m12, m13⟩, ⟨m14, m15⟩, ⟨m16, m17⟩, ⟨m18, m19⟩, ⟨m20, m21⟩, ⟨m22, m23⟩⟩ := id hM
  obtain ⟨okx, evx⟩ := hS.2.2 x hx.1 hx.2
  obtain ⟨oky, evy⟩ := hS.2.2 y hy.1 hy.2
  have hT0 := hS.2.1.1
  have szx := mo_size okx (by rw [evx]; exact bx) (m := 119) (by omega)
  have szy := mo_size oky (by rw [evy]; exact bY) (m := 119) (by omega)
  have sx0 := okx.1.1
  have sy0 := oky.1.1
  have fin : ∀ (A1 : Nat → Int → Int) {e4 e5 e6 e7 e8 e9 : Option PV}, Wr T A A1 → (0 ≤ A1 5 T ∧ A1 5 T ≤ 240) → dig 32768 (mlm A1 T) (A1 5 T) → (A1 6 T = 1 ∨ A1 6 T = -1) → A1 6 T * dv 32768 (mlm A1 T) (A1 5 T).toNat = V x + V y → X p l e { frames := 1, cells := 0, slots := 0, locals := 23 } s m args below meth c (MQ below (QX D ids β sh N R (pIr (Pq F A T V (V x + V y)))) args s 0 0 (inG β N)) (inG β N) D ids β sh 10 0 0 N R (uF F 0 10 (T + 1)) A1 [some (rf 0), some (pI x), some (pI y), some (pI T), e4, e5, e6, e7, e8, e9] [] 278 := by
    intro A1 e4 e5 e6 e7 e8 e9 hw hs hd h6 hv
    refine x_aload_n (pc2 := 279) hC rfl rfl dX8_plus_278 rfl ?_
    refine x_iload_n (pc2 := 280) hC rfl rfl dX8_plus_279 rfl ?_
    refine x_cVv (pc2 := 283) (ci := 8) hC hK (n_trims l hM ⟨hT0, hT⟩ hs hd) lk_940 rfl rfl (by decide) (by assumption) (by assumption) ⟨Nat.le_of_ble_eq_true rfl, Nat.le_of_ble_eq_true rfl⟩ ⟨Nat.le_refl _, Nat.le_refl _⟩ rfl (Nat.le_of_ble_eq_true rfl) dX8_plus_280 rfl ?_
    rintro F280 A280 ⟨rfl, nn, n1, n2, n3, n4⟩
    refine x_iload_n (pc2 := 284) hC rfl rfl dX8_plus_283 rfl ?_
    exact x_iret hC hr hlk ⟨_, rfl, Pq.tr hS hT hw hs hd h6 hv n1 n2 n3 n4⟩ dX8_plus_284
  have loop1 : ∀ (n : Int), A 5 x ≤ n → A 5 y ≤ n → n ≤ 239 → A 6 x = A 6 y → ∀ (d k : Nat) (ov : Int) (A1 : Nat → Int → Int) {e7 e8 e9 : Option PV}, n + 1 - k < d → (k : Int) ≤ n + 1 → Wr T A A1 → dig 32768 (mlm A1 T) k → 0 ≤ ov → ov ≤ 1 → dv 32768 (mlm A1 T) k + ov * 32768 ^ k = dv 32768 (mli A x) k + dv 32768 (mli A y) k → X p l e { frames := 1, cells := 0, slots := 0, locals := 23 } s m args below meth c (MQ below (QX D ids β sh N R (pIr (Pq F A T V (V x + V y)))) args s 0 0 (inG β N)) (inG β N) D ids β sh 10 0 0 N R (uF F 0 10 (T + 1)) A1 [some (rf 0), some (pI x), some (pI y), some (pI T), some (pI ov), some (pI n), some (pI (k : Int)), e7, e8, e9] [] 58 := by
    intro n nx ny n239 hsg d
    induction d with
    | zero => intro k ov A1 e7 e8 e9 hd; omega
    | succ d ih =>
      intro k ov A1 e7 e8 e9 hd hk hw hdg ov0 ov1 hv
      obtain ⟨x5, x6⟩ := hw.1.1 x hx.2
      obtain ⟨y5, y6⟩ := hw.1.1 y hy.2
      have dx := mli_dig okx (k := k) (by omega)
      have dy := mli_dig oky (k := k) (by omega)
      have rd : uA A1 5 T (n + 1) 6 x = A 6 x := by rw [uA_ne (by decide)]; exact x6
      refine x_iload (pc2 := 60) hC rfl dX8_plus_58 rfl ?_
      refine x_iload (pc2 := 62) hC rfl dX8_plus_60 rfl ?_
      refine x_icmp_gt (tgt := 116) (pc2 := 65) hC (by omega) (by omega) dX8_plus_62 rfl rfl (fun h_62 => ?_) (fun h_62 => ?_)
      · refine x_aload_n (pc2 := 117) hC rfl rfl dX8_plus_116 rfl ?_
        refine g_817 (pc2 := 120) hC hK (by assumption) (by assumption) (by assumption) dX8_plus_117 rfl ?_
        refine x_iload_n (pc2 := 121) hC rfl rfl dX8_plus_120 rfl ?_
        refine x_iload (pc2 := 123) hC rfl dX8_plus_121 rfl ?_
        refine x_iconst (pc2 := 124) hC dX8_plus_123 rfl ?_
        refine x_iadd (pc2 := 125) hC dX8_plus_124 rfl ?_
        refine x_iast (pc2 := 126) hC hK (by assumption) (by assumption) (by omega) (by decide) dX8_plus_125 rfl ?_
        refine x_aload_n (pc2 := 127) hC rfl rfl dX8_plus_126 rfl ?_
        refine g_818 (pc2 := 130) hC hK (by assumption) (by assumption) (by assumption) dX8_plus_127 rfl ?_
        refine x_iload_n (pc2 := 131) hC rfl rfl dX8_plus_130 rfl ?_
        refine x_aload_n (pc2 := 132) hC rfl rfl dX8_plus_131 rfl ?_
        refine g_818 (pc2 := 135) hC hK (by assumption) (by assumption) (by assumption) dX8_plus_132 rfl ?_
        refine x_iload_n (pc2 := 136) hC rfl rfl dX8_plus_135 rfl ?_
        refine x_iald (pc2 := 137) hC hK (by assumption) (by assumption) (by omega) (by decide) dX8_plus_136 rfl ?_
        rw [rd]
        refine x_iast (pc2 := 138) hC hK (by assumption) (by assumption) (by omega) (by decide) dX8_plus_137 rfl ?_
        refine x_goto (pc2 := 278) hC dX8_plus_138 rfl ?_
        have hk1 : k = (n + 1).toNat := by omega
        refine fin _ hw.w5.w6 (by rw [uA_ne (by decide), uA_eq]; omega) (by rw [uA_ne (by decide), uA_eq, mlm_6, mlm_5]; exact fun j a b => hdg j a (by omega)) (by rw [uA_eq]; exact okx.2.2.2) ?_
        have e6 : uA (uA A1 5 T (n + 1)) 6 T (A 6 x) 6 T = A 6 x := uA_eq
        have e5 : uA (uA A1 5 T (n + 1)) 6 T (A 6 x) 5 T = n + 1 := by rw [uA_ne (by decide), uA_eq]
        rw [e6, e5, mlm_6, mlm_5, ← hk1, ← evx, ← evy]
        rw [dv_mli okx (by omega), dv_mli oky (by omega)] at hv
        have hkk : k = n.toNat + 1 := by omega
        have q1 := mm_lt okx
        have q2 := mm_lt oky
        have q3 := pow_le' (B := 32768) (by decide) (show (A 5 x).toNat ≤ n.toNat by omega)
        have q4 := pow_le' (B := 32768) (by decide) (show (A 5 y).toNat ≤ n.toNat by omega)
        have q5 := pow_pos' (B := 32768) (by decide) n.toNat
        have q6 : (32768 : Int) ^ k = 32768 ^ n.toNat * 32768 := by rw [hkk, Int.pow_succ]
        have := mix_end (P := 32768 ^ k) (by rw [q6]; omega) hv (dv_nonneg (by decide) (fun j a b => (hdg j a b).1)) (dv_lt (by decide) hdg) (by have := mm_nonneg okx; have := mm_nonneg oky; omega) (by rw [q6]; omega)
        rw [this]
        unfold mv
        rw [← hsg, Int.mul_add]
      · refine x_aload_n (pc2 := 66) hC rfl rfl dX8_plus_65 rfl ?_
        refine x_iload_n (pc2 := 67) hC rfl rfl dX8_plus_66 rfl ?_
        refine x_iload (pc2 := 69) hC rfl dX8_plus_67 rfl ?_
        refine x_cVi (pc2 := 72) (ci := 8) hC hK (n_at l hM (x := x) ⟨hx.1, by omega⟩ ⟨by omega, by omega⟩ (by rw [x5]; omega)) lk_1000 rfl rfl (by decide) (by assumption) (by assumption) ⟨Nat.le_of_ble_eq_true rfl, Nat.le_of_ble_eq_true rfl⟩ ⟨Nat.le_refl _, Nat.le_refl _⟩ rfl (Nat.le_of_ble_eq_true rfl) dX8_plus_69 rfl ?_
        rintro z69 F69 A69 ⟨rfl, e169, e269⟩
        obtain rfl := e169.symm
        obtain rfl := e269.symm
        rw [hw.li hx.2 (by omega)]
        refine x_aload_n (pc2 := 73) hC rfl rfl dX8_plus_72 rfl ?_
        refine x_iload_n (pc2 := 74) hC rfl rfl dX8_plus_73 rfl ?_
        refine x_iload (pc2 := 76) hC rfl dX8_plus_74 rfl ?_
        refine x_cVi (pc2 := 79) (ci := 8) hC hK (n_at l hM (x := y) ⟨hy.1, by omega⟩ ⟨by omega, by omega⟩ (by rw [y5]; omega)) lk_1000 rfl rfl (by decide) (by assumption) (by assumption) ⟨Nat.le_of_ble_eq_true rfl, Nat.le_of_ble_eq_true rfl⟩ ⟨Nat.le_refl _, Nat.le_refl _⟩ rfl (Nat.le_of_ble_eq_true rfl) dX8_plus_76 rfl ?_
        rintro z76 F76 A76 ⟨rfl, e176, e276⟩
        obtain rfl := e176.symm
        obtain rfl := e276.symm
        rw [hw.li hy.2 (by omega)]
        refine x_iadd (pc2 := 80) hC dX8_plus_79 rfl ?_
        refine x_iload (pc2 := 82) hC rfl dX8_plus_80 rfl ?_
        refine x_iadd (pc2 := 83) hC dX8_plus_82 rfl ?_
        refine x_istore (pc2 := 85) (loc2 := [_, _, _, _, _, _, _, _, _, _]) hC (by decide) rfl dX8_plus_83 rfl ?_
        refine x_aload_n (pc2 := 86) hC rfl rfl dX8_plus_85 rfl ?_
        refine g_816 (pc2 := 89) hC hK (by assumption) (by assumption) (by assumption) dX8_plus_86 rfl ?_
        refine x_sipush (pc2 := 92) hC rfl dX8_plus_89 rfl ?_
        refine x_iload_n (pc2 := 93) hC rfl rfl dX8_plus_92 rfl ?_
        refine x_imul (pc2 := 94) hC dX8_plus_93 rfl ?_
        refine x_iload (pc2 := 96) hC rfl dX8_plus_94 rfl ?_
        refine x_iadd (pc2 := 97) hC dX8_plus_96 rfl ?_
        refine x_iload (pc2 := 99) hC rfl dX8_plus_97 rfl ?_
        refine x_ldc (pc2 := 101) (z := 32768) hC wt_935 rfl dX8_plus_99 rfl ?_
        refine x_iremp (pc2 := 102) hC (by omega) (by omega) (by omega) (by omega) dX8_plus_101 rfl ?_
        refine x_iast (pc2 := 103) hC hK (by assumption) (by assumption) (by omega) (by decide) dX8_plus_102 rfl ?_
        refine x_iload (pc2 := 105) hC rfl dX8_plus_103 rfl ?_
        refine x_ldc (pc2 := 107) (z := 32768) hC wt_935 rfl dX8_plus_105 rfl ?_
        refine x_idivp (pc2 := 108) hC (by omega) (by omega) (by omega) (by omega) dX8_plus_107 rfl ?_
        refine x_istore (pc2 := 110) (loc2 := [_, _, _, _, _, _, _, _, _, _]) hC (by decide) rfl dX8_plus_108 rfl ?_
        refine x_iinc (pc2 := 113) (loc2 := [_, _, _, _, _, _, _, _, _, _]) hC (by decide) rfl rfl dX8_plus_110 rfl ?_
        refine x_goto (pc2 := 58) hC dX8_plus_113 rfl ?_
        refine ih (k + 1) _ _ (by omega) (by omega) (hw.w4 (by omega)) (fun j j0 j1 => ?_) (by omega) (by omega) ?_
        · rw [mlm_at]
          split
          · omega
          · exact hdg j j0 (by omega)
        · rw [dvm_uA, Int.pow_succ, step_p hv]
          simp only [dv]
          grind
  have loop2 : ∀ (bg sm : Int), (0 ≤ bg ∧ bg < T) → (0 ≤ sm ∧ sm < T) → MOK A bg → MOK A sm → A 5 bg ≤ 238 → A 5 sm ≤ 238 → mm A sm ≤ mm A bg → A 6 bg * (mm A bg - mm A sm) = V x + V y → ∀ (d k : Nat) (ow : Int) (A1 : Nat → Int → Int) {e4 e9 : Option PV}, A 5 bg - k < d → (k : Int) ≤ A 5 bg → Wr T A A1 → dig 32768 (mlm A1 T) k → 0 ≤ ow → ow ≤ 1 → dv 32768 (mlm A1 T) k + -ow * 32768 ^ k = dv 32768 (mli A bg) k - dv 32768 (mli A sm) k → X p l e { frames := 1, cells := 0, slots := 0, locals := 23 } s m args below meth c (MQ below (QX D ids β sh N R (pIr (Pq F A T V (V x + V y)))) args s 0 0 (inG β N)) (inG β N) D ids β sh 10 0 0 N R (uF F 0 10 (T + 1)) A1 [some (rf 0), some (pI x), some (pI y), some (pI T), e4, some (pI bg), some (pI sm), some (pI ow), some (pI (k : Int)), e9] [] 179 := by
    intro bg sm hbg hsm okb oks zb zs hle hfin d
    induction d with
    | zero => intro k ow A1 e4 e9 hd; omega
    | succ d ih =>
      intro k ow A1 e4 e9 hd hk hw hdg ow0 ow1 hv
      obtain ⟨b5, b6⟩ := hw.1.1 bg hbg.2
      obtain ⟨s5, s6⟩ := hw.1.1 sm hsm.2
      have sb0 := okb.1.1
      have ss0 := oks.1.1
      have dx := mli_dig okb (k := k) (by omega)
      have dy := mli_dig oks (k := k) (by omega)
      have szl : A 5 sm ≤ A 5 bg := by
        rcases Int.lt_or_le (A 5 bg) (A 5 sm) with q | q
        · have := mm_slt okb oks q; omega
        · exact q
      have rd : uA A1 5 T (A1 5 bg) 6 bg = A 6 bg := by rw [uA_ne (by decide)]; exact b6
      refine x_iload (pc2 := 181) hC rfl dX8_plus_179 rfl ?_
      refine x_aload_n (pc2 := 182) hC rfl rfl dX8_plus_181 rfl ?_
      refine g_817 (pc2 := 185) hC hK (by assumption) (by assumption) (by assumption) dX8_plus_182 rfl ?_
      refine x_iload (pc2 := 187) hC rfl dX8_plus_185 rfl ?_
      refine x_iald (pc2 := 188) hC hK (by assumption) (by assumption) (by omega) (by decide) dX8_plus_187 rfl ?_
      refine x_icmp_ge (tgt := 252) (pc2 := 191) hC (by omega) (by rw [b5]; omega) dX8_plus_188 rfl rfl (fun h_188 => ?_) (fun h_188 => ?_)
      · refine x_aload_n (pc2 := 253) hC rfl rfl dX8_plus_252 rfl ?_
        refine g_817 (pc2 := 256) hC hK (by assumption) (by assumption) (by assumption) dX8_plus_253 rfl ?_
        refine x_iload_n (pc2 := 257) hC rfl rfl dX8_plus_256 rfl ?_
        refine x_aload_n (pc2 := 258) hC rfl rfl dX8_plus_257 rfl ?_
        refine g_817 (pc2 := 261) hC hK (by assumption) (by assumption) (by assumption) dX8_plus_258 rfl ?_
        refine x_iload (pc2 := 263) hC rfl dX8_plus_261 rfl ?_
        refine x_iald (pc2 := 264) hC hK (by assumption) (by assumption) (by omega) (by decide) dX8_plus_263 rfl ?_
        refine x_iast (pc2 := 265) hC hK (by assumption) (by assumption) (by omega) (by decide) dX8_plus_264 rfl ?_
        refine x_aload_n (pc2 := 266) hC rfl rfl dX8_plus_265 rfl ?_
        refine g_818 (pc2 := 269) hC hK (by assumption) (by assumption) (by assumption) dX8_plus_266 rfl ?_
        refine x_iload_n (pc2 := 270) hC rfl rfl dX8_plus_269 rfl ?_
        refine x_aload_n (pc2 := 271) hC rfl rfl dX8_plus_270 rfl ?_
        refine g_818 (pc2 := 274) hC hK (by assumption) (by assumption) (by assumption) dX8_plus_271 rfl ?_
        refine x_iload (pc2 := 276) hC rfl dX8_plus_274 rfl ?_
        refine x_iald (pc2 := 277) hC hK (by assumption) (by assumption) (by omega) (by decide) dX8_plus_276 rfl ?_
        rw [rd]
        refine x_iast (pc2 := 278) hC hK (by assumption) (by assumption) (by omega) (by decide) dX8_plus_277 rfl ?_
        have hk1 : k = (A 5 bg).toNat := by omega
        refine fin _ hw.w5.w6 (by rw [uA_ne (by decide), uA_eq]; omega) (by rw [uA_ne (by decide), uA_eq, mlm_6, mlm_5]; exact fun j a b => hdg j a (by omega)) (by rw [uA_eq]; exact okb.2.2.2) ?_
        have e6 : uA (uA A1 5 T (A1 5 bg)) 6 T (A 6 bg) 6 T = A 6 bg := uA_eq
        have e5 : uA (uA A1 5 T (A1 5 bg)) 6 T (A 6 bg) 5 T = A1 5 bg := by rw [uA_ne (by decide), uA_eq]
        rw [e6, e5, mlm_6, mlm_5, b5, ← hk1]
        rw [dv_mli okb (by omega), dv_mli oks (by omega)] at hv
        have q1 := mm_lt okb
        have q2 := mm_nonneg oks
        rw [← hk1] at q1
        rw [mix_end (pow_pos' (by decide) k) hv (dv_nonneg (by decide) (fun j a b => (hdg j a b).1)) (dv_lt (by decide) hdg) (by omega) (by omega)]
        exact hfin
      · refine x_aload_n (pc2 := 192) hC rfl rfl dX8_plus_191 rfl ?_
        refine x_iload (pc2 := 194) hC rfl dX8_plus_192 rfl ?_
        refine x_iload (pc2 := 196) hC rfl dX8_plus_194 rfl ?_
        refine x_cVi (pc2 := 199) (ci := 8) hC hK (n_at l hM (x := bg) ⟨hbg.1, by omega⟩ ⟨by omega, by omega⟩ (by rw [b5]; omega)) lk_1000 rfl rfl (by decide) (by assumption) (by assumption) ⟨Nat.le_of_ble_eq_true rfl, Nat.le_of_ble_eq_true rfl⟩ ⟨Nat.le_refl _, Nat.le_refl _⟩ rfl (Nat.le_of_ble_eq_true rfl) dX8_plus_196 rfl ?_
        rintro z196 F196 A196 ⟨rfl, e1196, e2196⟩
        obtain rfl := e1196.symm
        obtain rfl := e2196.symm
        rw [hw.li hbg.2 (by omega)]
        refine x_aload_n (pc2 := 200) hC rfl rfl dX8_plus_199 rfl ?_
        refine x_iload (pc2 := 202) hC rfl dX8_plus_200 rfl ?_
        refine x_iload (pc2 := 204) hC rfl dX8_plus_202 rfl ?_
        refine x_cVi (pc2 := 207) (ci := 8) hC hK (n_at l hM (x := sm) ⟨hsm.1, by omega⟩ ⟨by omega, by omega⟩ (by rw [s5]; omega)) lk_1000 rfl rfl (by decide) (by assumption) (by assumption) ⟨Nat.le_of_ble_eq_true rfl, Nat.le_of_ble_eq_true rfl⟩ ⟨Nat.le_refl _, Nat.le_refl _⟩ rfl (Nat.le_of_ble_eq_true rfl) dX8_plus_204 rfl ?_
        rintro z204 F204 A204 ⟨rfl, e1204, e2204⟩
        obtain rfl := e1204.symm
        obtain rfl := e2204.symm
        rw [hw.li hsm.2 (by omega)]
        refine x_isub (pc2 := 208) hC dX8_plus_207 rfl ?_
        refine x_iload (pc2 := 210) hC rfl dX8_plus_208 rfl ?_
        refine x_isub (pc2 := 211) hC dX8_plus_210 rfl ?_
        refine x_istore (pc2 := 213) (loc2 := [_, _, _, _, _, _, _, _, _, _]) hC (by decide) rfl dX8_plus_211 rfl ?_
        refine x_iload (pc2 := 215) hC rfl dX8_plus_213 rfl ?_
        refine x_if_ge (tgt := 222) (pc2 := 218) hC (by omega) dX8_plus_215 rfl rfl (fun h_215 => ?_) (fun h_215 => ?_)
        · refine x_iconst (pc2 := 223) hC dX8_plus_222 rfl ?_
          refine x_istore (pc2 := 225) (loc2 := [_, _, _, _, _, _, _, _, _, _]) hC (by decide) rfl dX8_plus_223 rfl ?_
          refine x_aload_n (pc2 := 226) hC rfl rfl dX8_plus_225 rfl ?_
          refine g_816 (pc2 := 229) hC hK (by assumption) (by assumption) (by assumption) dX8_plus_226 rfl ?_
          refine x_sipush (pc2 := 232) hC rfl dX8_plus_229 rfl ?_
          refine x_iload_n (pc2 := 233) hC rfl rfl dX8_plus_232 rfl ?_
          refine x_imul (pc2 := 234) hC dX8_plus_233 rfl ?_
          refine x_iload (pc2 := 236) hC rfl dX8_plus_234 rfl ?_
          refine x_iadd (pc2 := 237) hC dX8_plus_236 rfl ?_
          refine x_iload (pc2 := 239) hC rfl dX8_plus_237 rfl ?_
          refine x_iload (pc2 := 241) hC rfl dX8_plus_239 rfl ?_
          refine x_ldc (pc2 := 243) (z := 32768) hC wt_935 rfl dX8_plus_241 rfl ?_
          refine x_imul (pc2 := 244) hC dX8_plus_243 rfl ?_
          refine x_iadd (pc2 := 245) hC dX8_plus_244 rfl ?_
          refine x_iast (pc2 := 246) hC hK (by assumption) (by assumption) (by omega) (by decide) dX8_plus_245 rfl ?_
          refine x_iinc (pc2 := 249) (loc2 := [_, _, _, _, _, _, _, _, _, _]) hC (by decide) rfl rfl dX8_plus_246 rfl ?_
          refine x_goto (pc2 := 179) hC dX8_plus_249 rfl ?_
          refine ih (k + 1) _ _ (by omega) (by omega) (hw.w4 (by omega)) (fun j j0 j1 => ?_) (by omega) (by omega) ?_
          · rw [mlm_at]
            split
            · omega
            · exact hdg j j0 (by omega)
          · rw [dvm_uA, Int.pow_succ, step_m hv]
            simp only [dv]
            grind
        · refine x_iconst (pc2 := 219) hC dX8_plus_218 rfl ?_
          refine x_goto (pc2 := 223) hC dX8_plus_219 rfl ?_
          refine x_istore (pc2 := 225) (loc2 := [_, _, _, _, _, _, _, _, _, _]) hC (by decide) rfl dX8_plus_223 rfl ?_
          refine x_aload_n (pc2 := 226) hC rfl rfl dX8_plus_225 rfl ?_
          refine g_816 (pc2 := 229) hC hK (by assumption) (by assumption) (by assumption) dX8_plus_226 rfl ?_
          refine x_sipush (pc2 := 232) hC rfl dX8_plus_229 rfl ?_
          refine x_iload_n (pc2 := 233) hC rfl rfl dX8_plus_232 rfl ?_
          refine x_imul (pc2 := 234) hC dX8_plus_233 rfl ?_
          refine x_iload (pc2 := 236) hC rfl dX8_plus_234 rfl ?_
          refine x_iadd (pc2 := 237) hC dX8_plus_236 rfl ?_
          refine x_iload (pc2 := 239) hC rfl dX8_plus_237 rfl ?_
          refine x_iload (pc2 := 241) hC rfl dX8_plus_239 rfl ?_
          refine x_ldc (pc2 := 243) (z := 32768) hC wt_935 rfl dX8_plus_241 rfl ?_
          refine x_imul (pc2 := 244) hC dX8_plus_243 rfl ?_
          refine x_iadd (pc2 := 245) hC dX8_plus_244 rfl ?_
          refine x_iast (pc2 := 246) hC hK (by assumption) (by assumption) (by omega) (by decide) dX8_plus_245 rfl ?_
          refine x_iinc (pc2 := 249) (loc2 := [_, _, _, _, _, _, _, _, _, _]) hC (by decide) rfl rfl dX8_plus_246 rfl ?_
          refine x_goto (pc2 := 179) hC dX8_plus_249 rfl ?_
          refine ih (k + 1) _ _ (by omega) (by omega) (hw.w4 (by omega)) (fun j j0 j1 => ?_) (by omega) (by omega) ?_
          · rw [mlm_at]
            split
            · omega
            · exact hdg j j0 (by omega)
          · rw [dvm_uA, Int.pow_succ, step_m hv]
            simp only [dv]
            grind
  refine x_aload_n (pc2 := 1) hC rfl rfl dX8_plus_0 rfl ?_
  refine x_cVi (pc2 := 4) (ci := 8) hC hK (n_fresh l hM hS.1 ⟨hT0, hT⟩) lk_906 rfl rfl (by decide) (by assumption) (by assumption) ⟨Nat.le_of_ble_eq_true rfl, Nat.le_of_ble_eq_true rfl⟩ ⟨Nat.le_refl _, Nat.le_refl _⟩ rfl (Nat.le_of_ble_eq_true rfl) dX8_plus_1 rfl ?_
  rintro z1 F1 A1 ⟨e11, e21, e31⟩
  subst e11 e21 e31
  obtain ⟨A4, eA4⟩ : ∃ B, B = uA (uA A 5 z1 0) 6 z1 1 := ⟨_, rfl⟩
  have hw4 : Wr z1 A A4 := by rw [eA4]; exact Wr.fr
  rw [← eA4]
  clear eA4
  obtain ⟨x5, x6⟩ := hw4.1.1 x hx.2
  obtain ⟨y5, y6⟩ := hw4.1.1 y hy.2
  have okx4 := hw4.ok hx.2 okx
  have oky4 := hw4.ok hy.2 oky
  have sgx := okx.2.2.2
  have sgy := oky.2.2.2
  have mx4 : mm A4 x = mm A x := by unfold mm; rw [x5]; exact dv_congr (fun j a b => hw4.1.2 _ (by omega))
  have my4 : mm A4 y = mm A y := by unfold mm; rw [y5]; exact dv_congr (fun j a b => hw4.1.2 _ (by omega))
  refine x_istore_n (pc2 := 5) (loc2 := [_, _, _, _, _, _, _, _, _, _]) hC rfl (by decide) rfl dX8_plus_4 rfl ?_
  refine x_aload_n (pc2 := 6) hC rfl rfl dX8_plus_5 rfl ?_
  refine g_818 (pc2 := 9) hC hK (by assumption) (by assumption) (by assumption) dX8_plus_6 rfl ?_
  refine x_iload_n (pc2 := 10) hC rfl rfl dX8_plus_9 rfl ?_
  refine x_iald (pc2 := 11) hC hK (by assumption) (by assumption) (by omega) (by decide) dX8_plus_10 rfl ?_
  refine x_aload_n (pc2 := 12) hC rfl rfl dX8_plus_11 rfl ?_
  refine g_818 (pc2 := 15) hC hK (by assumption) (by assumption) (by assumption) dX8_plus_12 rfl ?_
  refine x_iload_n (pc2 := 16) hC rfl rfl dX8_plus_15 rfl ?_
  refine x_iald (pc2 := 17) hC hK (by assumption) (by assumption) (by omega) (by decide) dX8_plus_16 rfl ?_
  refine x_icmp_ne (tgt := 141) (pc2 := 20) hC (by omega) (by omega) dX8_plus_17 rfl rfl (fun h_17 => ?_) (fun h_17 => ?_)
  · refine x_aload_n (pc2 := 142) hC rfl rfl dX8_plus_141 rfl ?_
    refine x_iload_n (pc2 := 143) hC rfl rfl dX8_plus_142 rfl ?_
    refine x_iload_n (pc2 := 144) hC rfl rfl dX8_plus_143 rfl ?_
    refine x_cVi (pc2 := 147) (ci := 8) hC hK (n_stand l hM ⟨hx.1, by omega⟩ ⟨hy.1, by omega⟩ okx4.1 oky4.1) lk_931 rfl rfl (by decide) (by assumption) (by assumption) ⟨Nat.le_of_ble_eq_true rfl, Nat.le_of_ble_eq_true rfl⟩ ⟨Nat.le_refl _, Nat.le_refl _⟩ rfl (Nat.le_of_ble_eq_true rfl) dX8_plus_144 rfl ?_
    rintro z144 F144 A144 ⟨rfl, e1144, e2144⟩
    obtain rfl := e1144.symm
    obtain rfl := e2144.symm
    have cs := sgc_cs (mm A4 x) (mm A4 y)
    have cs2 := sgc_I (a := mm A4 x) (b := mm A4 y)
    rw [mx4, my4] at *
    refine x_istore (pc2 := 149) (loc2 := [_, _, _, _, _, _, _, _, _, _]) hC (by decide) rfl dX8_plus_147 rfl ?_
    refine x_iload (pc2 := 151) hC rfl dX8_plus_149 rfl ?_
    refine x_if_ge (tgt := 158) (pc2 := 154) hC (by omega) dX8_plus_151 rfl rfl (fun h_151 => ?_) (fun h_151 => ?_)
    · refine x_iload_n (pc2 := 159) hC rfl rfl dX8_plus_158 rfl ?_
      refine x_istore (pc2 := 161) (loc2 := [_, _, _, _, _, _, _, _, _, _]) hC (by decide) rfl dX8_plus_159 rfl ?_
      refine x_iload (pc2 := 163) hC rfl dX8_plus_161 rfl ?_
      refine x_if_ge (tgt := 170) (pc2 := 166) hC (by omega) dX8_plus_163 rfl rfl (fun h_163 => ?_) (fun h_163 => ?_)
      · refine x_iload_n (pc2 := 171) hC rfl rfl dX8_plus_170 rfl ?_
        refine x_istore (pc2 := 173) (loc2 := [_, _, _, _, _, _, _, _, _, _]) hC (by decide) rfl dX8_plus_171 rfl ?_
        refine x_iconst (pc2 := 174) hC dX8_plus_173 rfl ?_
        refine x_istore (pc2 := 176) (loc2 := [_, _, _, _, _, _, _, _, _, _]) hC (by decide) rfl dX8_plus_174 rfl ?_
        refine x_iconst (pc2 := 177) hC dX8_plus_176 rfl ?_
        refine x_istore (pc2 := 179) (loc2 := [_, _, _, _, _, _, _, _, _, _]) hC (by decide) rfl dX8_plus_177 rfl ?_
        first | (exfalso; omega) | (exact loop2 y x hy hx oky okx (by omega) (by omega) (by omega) (by rw [← evx, ← evy]; unfold mv; rw [show A 6 x = -(A 6 y) by omega]; grind) 1000 0 0 A4 (by omega) (by omega) hw4 (fun j a b => by omega) (by decide) (by decide) (by simp [dv])) | (exact loop2 x y hx hy okx oky (by omega) (by omega) (by omega) (by rw [← evx, ← evy]; unfold mv; rw [show A 6 y = -(A 6 x) by omega]; grind) 1000 0 0 A4 (by omega) (by omega) hw4 (fun j a b => by omega) (by decide) (by decide) (by simp [dv]))
      · refine x_iload_n (pc2 := 167) hC rfl rfl dX8_plus_166 rfl ?_
        refine x_goto (pc2 := 171) hC dX8_plus_167 rfl ?_
        refine x_istore (pc2 := 173) (loc2 := [_, _, _, _, _, _, _, _, _, _]) hC (by decide) rfl dX8_plus_171 rfl ?_
        refine x_iconst (pc2 := 174) hC dX8_plus_173 rfl ?_
        refine x_istore (pc2 := 176) (loc2 := [_, _, _, _, _, _, _, _, _, _]) hC (by decide) rfl dX8_plus_174 rfl ?_
        refine x_iconst (pc2 := 177) hC dX8_plus_176 rfl ?_
        refine x_istore (pc2 := 179) (loc2 := [_, _, _, _, _, _, _, _, _, _]) hC (by decide) rfl dX8_plus_177 rfl ?_
        first | (exfalso; omega) | (exact loop2 y x hy hx oky okx (by omega) (by omega) (by omega) (by rw [← evx, ← evy]; unfold mv; rw [show A 6 x = -(A 6 y) by omega]; grind) 1000 0 0 A4 (by omega) (by omega) hw4 (fun j a b => by omega) (by decide) (by decide) (by simp [dv])) | (exact loop2 x y hx hy okx oky (by omega) (by omega) (by omega) (by rw [← evx, ← evy]; unfold mv; rw [show A 6 y = -(A 6 x) by omega]; grind) 1000 0 0 A4 (by omega) (by omega) hw4 (fun j a b => by omega) (by decide) (by decide) (by simp [dv]))
    · refine x_iload_n (pc2 := 155) hC rfl rfl dX8_plus_154 rfl ?_
      refine x_goto (pc2 := 159) hC dX8_plus_155 rfl ?_
      refine x_istore (pc2 := 161) (loc2 := [_, _, _, _, _, _, _, _, _, _]) hC (by decide) rfl dX8_plus_159 rfl ?_
      refine x_iload (pc2 := 163) hC rfl dX8_plus_161 rfl ?_
      refine x_if_ge (tgt := 170) (pc2 := 166) hC (by omega) dX8_plus_163 rfl rfl (fun h_163 => ?_) (fun h_163 => ?_)
      · refine x_iload_n (pc2 := 171) hC rfl rfl dX8_plus_170 rfl ?_
        refine x_istore (pc2 := 173) (loc2 := [_, _, _, _, _, _, _, _, _, _]) hC (by decide) rfl dX8_plus_171 rfl ?_
        refine x_iconst (pc2 := 174) hC dX8_plus_173 rfl ?_
        refine x_istore (pc2 := 176) (loc2 := [_, _, _, _, _, _, _, _, _, _]) hC (by decide) rfl dX8_plus_174 rfl ?_
        refine x_iconst (pc2 := 177) hC dX8_plus_176 rfl ?_
        refine x_istore (pc2 := 179) (loc2 := [_, _, _, _, _, _, _, _, _, _]) hC (by decide) rfl dX8_plus_177 rfl ?_
        first | (exfalso; omega) | (exact loop2 y x hy hx oky okx (by omega) (by omega) (by omega) (by rw [← evx, ← evy]; unfold mv; rw [show A 6 x = -(A 6 y) by omega]; grind) 1000 0 0 A4 (by omega) (by omega) hw4 (fun j a b => by omega) (by decide) (by decide) (by simp [dv])) | (exact loop2 x y hx hy okx oky (by omega) (by omega) (by omega) (by rw [← evx, ← evy]; unfold mv; rw [show A 6 y = -(A 6 x) by omega]; grind) 1000 0 0 A4 (by omega) (by omega) hw4 (fun j a b => by omega) (by decide) (by decide) (by simp [dv]))
      · refine x_iload_n (pc2 := 167) hC rfl rfl dX8_plus_166 rfl ?_
        refine x_goto (pc2 := 171) hC dX8_plus_167 rfl ?_
        refine x_istore (pc2 := 173) (loc2 := [_, _, _, _, _, _, _, _, _, _]) hC (by decide) rfl dX8_plus_171 rfl ?_
        refine x_iconst (pc2 := 174) hC dX8_plus_173 rfl ?_
        refine x_istore (pc2 := 176) (loc2 := [_, _, _, _, _, _, _, _, _, _]) hC (by decide) rfl dX8_plus_174 rfl ?_
        refine x_iconst (pc2 := 177) hC dX8_plus_176 rfl ?_
        refine x_istore (pc2 := 179) (loc2 := [_, _, _, _, _, _, _, _, _, _]) hC (by decide) rfl dX8_plus_177 rfl ?_
        first | (exfalso; omega) | (exact loop2 y x hy hx oky okx (by omega) (by omega) (by omega) (by rw [← evx, ← evy]; unfold mv; rw [show A 6 x = -(A 6 y) by omega]; grind) 1000 0 0 A4 (by omega) (by omega) hw4 (fun j a b => by omega) (by decide) (by decide) (by simp [dv])) | (exact loop2 x y hx hy okx oky (by omega) (by omega) (by omega) (by rw [← evx, ← evy]; unfold mv; rw [show A 6 y = -(A 6 x) by omega]; grind) 1000 0 0 A4 (by omega) (by omega) hw4 (fun j a b => by omega) (by decide) (by decide) (by simp [dv]))
  · refine x_iconst (pc2 := 21) hC dX8_plus_20 rfl ?_
    refine x_istore (pc2 := 23) (loc2 := [_, _, _, _, _, _, _, _, _, _]) hC (by decide) rfl dX8_plus_21 rfl ?_
    refine x_aload_n (pc2 := 24) hC rfl rfl dX8_plus_23 rfl ?_
    refine g_817 (pc2 := 27) hC hK (by assumption) (by assumption) (by assumption) dX8_plus_24 rfl ?_
    refine x_iload_n (pc2 := 28) hC rfl rfl dX8_plus_27 rfl ?_
    refine x_iald (pc2 := 29) hC hK (by assumption) (by assumption) (by omega) (by decide) dX8_plus_28 rfl ?_
    refine x_aload_n (pc2 := 30) hC rfl rfl dX8_plus_29 rfl ?_
    refine g_817 (pc2 := 33) hC hK (by assumption) (by assumption) (by assumption) dX8_plus_30 rfl ?_
    refine x_iload_n (pc2 := 34) hC rfl rfl dX8_plus_33 rfl ?_
    refine x_iald (pc2 := 35) hC hK (by assumption) (by assumption) (by omega) (by decide) dX8_plus_34 rfl ?_
    refine x_icmp_le (tgt := 47) (pc2 := 38) hC (by omega) (by omega) dX8_plus_35 rfl rfl (fun h_35 => ?_) (fun h_35 => ?_)
    · refine x_aload_n (pc2 := 48) hC rfl rfl dX8_plus_47 rfl ?_
      refine g_817 (pc2 := 51) hC hK (by assumption) (by assumption) (by assumption) dX8_plus_48 rfl ?_
      refine x_iload_n (pc2 := 52) hC rfl rfl dX8_plus_51 rfl ?_
      refine x_iald (pc2 := 53) hC hK (by assumption) (by assumption) (by omega) (by decide) dX8_plus_52 rfl ?_
      refine x_istore (pc2 := 55) (loc2 := [_, _, _, _, _, _, _, _, _, _]) hC (by decide) rfl dX8_plus_53 rfl ?_
      refine x_iconst (pc2 := 56) hC dX8_plus_55 rfl ?_
      refine x_istore (pc2 := 58) (loc2 := [_, _, _, _, _, _, _, _, _, _]) hC (by decide) rfl dX8_plus_56 rfl ?_
      exact loop1 _ (by omega) (by omega) (by omega) (by omega) 1000 0 0 A4 (by omega) (by omega) hw4 (fun j a b => by omega) (by decide) (by decide) (by simp [dv])
    · refine x_aload_n (pc2 := 39) hC rfl rfl dX8_plus_38 rfl ?_
      refine g_817 (pc2 := 42) hC hK (by assumption) (by assumption) (by assumption) dX8_plus_39 rfl ?_
      refine x_iload_n (pc2 := 43) hC rfl rfl dX8_plus_42 rfl ?_
      refine x_iald (pc2 := 44) hC hK (by assumption) (by assumption) (by omega) (by decide) dX8_plus_43 rfl ?_
      refine x_goto (pc2 := 53) hC dX8_plus_44 rfl ?_
      refine x_istore (pc2 := 55) (loc2 := [_, _, _, _, _, _, _, _, _, _]) hC (by decide) rfl dX8_plus_53 rfl ?_
      refine x_iconst (pc2 := 56) hC dX8_plus_55 rfl ?_
      refine x_istore (pc2 := 58) (loc2 := [_, _, _, _, _, _, _, _, _, _]) hC (by decide) rfl dX8_plus_56 rfl ?_
      exact loop1 _ (by omega) (by omega) (by omega) (by omega) 1000 0 0 A4 (by omega) (by omega) hw4 (fun j a b => by omega) (by decide) (by decide) (by simp [dv])
theorem dX8_less_0 : decode cX8_less 0 = .ok (.aload_n 0, 1) := by decide +kernel
theorem dX8_less_1 : decode cX8_less 1 = .ok (.iload_n 1, 1) := by decide +kernel
theorem dX8_less_2 : decode cX8_less 2 = .ok (.aload_n 0, 1) := by decide +kernel
theorem dX8_less_3 : decode cX8_less 3 = .ok (.iload_n 2, 1) := by decide +kernel
theorem dX8_less_4 : decode cX8_less 4 = .ok (.invokevirtual 73, 3) := by decide +kernel
theorem dX8_less_7 : decode cX8_less 7 = .ok (.invokevirtual 77, 3) := by decide +kernel
theorem dX8_less_10 : decode cX8_less 10 = .ok (.ireturn, 1) := by decide +kernel
set_option maxHeartbeats 4000000 in
theorem n_less (l : Launch) {D : va_G} {ids : Nat → ClassId} {β : Nat} {sh : Nat → Nat × Nat} {N : Nat} {R : Nat → Nat → Option Nat} {F : Nat → Nat → Int} {A : Nat → Int → Int} (hM : MoL sh R N) {T x y : Int} {V : Int → Int} {a b : Nat} (hS : St T V F A) (hT : T < 1499) (hx : 0 ≤ x ∧ x < T) (hy : 0 ≤ y ∧ y < T) (bx : bd a (V x)) (bY : bd b (V y)) (hab : a ≤ 1071 ∧ b ≤ 1071) : MetX l yX8_less cX8_less 3 (some (.int)) 2 52 D ids β sh N R F A [rf 0, pI x, pI y] (pIr (fun z F2 A2 => z = T + 1 ∧ ∃ V2, St (T + 2) V2 F2 A2 ∧ V2 (T + 1) = V x - V y ∧ (∀ u, u < T → V2 u = V u) ∧ FrM F A F2 A2)) := by
  refine MetX.of (loc := [_, _, _]) (plainFor_of_name (by decide +kernel)) (Nat.le_of_ble_eq_true rfl) rfl ?_
  intro p e s m args below meth c hC hK hr hlk
  obtain ⟨⟨m0, m1⟩, ⟨r0, r2, r3, r7, r8, r9, r11, r12, r13, r16, r18⟩, ⟨m2, m3⟩, ⟨m4, m5⟩, ⟨m6, m7⟩, ⟨m8, m9⟩, ⟨m10, m11⟩, ⟨m12, m13⟩, ⟨m14, m15⟩, ⟨m16, m17⟩, ⟨m18, m19⟩, ⟨m20, m21⟩, ⟨m22, m23⟩⟩ := id hM
  refine x_aload_n (pc2 := 1) hC rfl rfl dX8_less_0 rfl ?_
  refine x_iload_n (pc2 := 2) hC rfl rfl dX8_less_1 rfl ?_
  refine x_aload_n (pc2 := 3) hC rfl rfl dX8_less_2 rfl ?_
  refine x_iload_n (pc2 := 4) hC rfl rfl dX8_less_3 rfl ?_
  refine x_cVi (pc2 := 7) (ci := 8) hC hK (n_minus l hM hS (by omega) hy) lk_915 rfl rfl (by decide) (by assumption) (by assumption) ⟨Nat.le_of_ble_eq_true rfl, Nat.le_of_ble_eq_true rfl⟩ ⟨Nat.le_refl _, Nat.le_refl _⟩ rfl (Nat.le_of_ble_eq_true rfl) dX8_less_4 rfl ?_
  rintro z4 F4 A4 ⟨e04, V1, hS1, v1, k1, g1⟩
  obtain rfl := e04.symm
  refine x_cVi (pc2 := 10) (ci := 8) hC hK (n_plus l hM hS1 (by omega) (x := x) ⟨hx.1, by omega⟩ ⟨by have := hS.2.1; omega, by omega⟩ (a := a) (b := b) (by rw [k1 x hx.2]; exact bx) (by rw [v1]; exact bd_neg bY) hab) lk_996 rfl rfl (by decide) (by assumption) (by assumption) ⟨Nat.le_of_ble_eq_true rfl, Nat.le_of_ble_eq_true rfl⟩ ⟨Nat.le_refl _, Nat.le_refl _⟩ rfl (Nat.le_of_ble_eq_true rfl) dX8_less_7 rfl ?_
  rintro z7 F7 A7 ⟨e07, V2, hS2, v2, k2, g2⟩
  obtain rfl := e07.symm
  exact x_iret hC hr hlk ⟨_, rfl, rfl, V2, by rw [show T + 2 = T + 1 + 1 by omega]; exact hS2, by rw [v2, v1, k1 x hx.2]; omega, fun u hu => (k2 u (by omega)).trans (k1 u hu), g1.tr g2⟩ dX8_less_10
