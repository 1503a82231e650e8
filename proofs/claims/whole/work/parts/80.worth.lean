/-- where a row's four numbers lie -/
def slT (n : Int) : Int := 95 * (n / 4) + (59 + 11 * (n % 4))
/-- the twelve numbers of the rows -/
def RowsT (A : Nat → Int → Int) (V : Int → Int) (r : Nat → T3) : Prop := ∀ j : Nat, j < 12 → A 11 (j : Int) = slT (j : Int) ∧ tr V (slT (j : Int)) = r j ∧ bdt 51 2 (r j)
def wrP (r : Nat → T3) (x y z : Nat) : T3 := tmul (r x) (tadd (tmul (r (4 + y)) (r (8 + z))) (tneg (tmul (r (4 + z)) (r (8 + y)))))
def wrT (r : Nat → T3) (x y z : Nat) : T3 := tadd (tadd (wrP r x y z) (tneg (wrP r y x z))) (wrP r z x y)
theorem dX8_worth_0 : decode cX8_worth 0 = .ok (.aload_n 0, 1) := by decide +kernel
theorem dX8_worth_1 : decode cX8_worth 1 = .ok (.aload_n 0, 1) := by decide +kernel
theorem dX8_worth_2 : decode cX8_worth 2 = .ok (.getfield 49, 3) := by decide +kernel
theorem dX8_worth_5 : decode cX8_worth 5 = .ok (.iload_n 1, 1) := by decide +kernel
theorem dX8_worth_6 : decode cX8_worth 6 = .ok (.iaload, 1) := by decide +kernel
theorem dX8_worth_7 : decode cX8_worth 7 = .ok (.aload_n 0, 1) := by decide +kernel
theorem dX8_worth_8 : decode cX8_worth 8 = .ok (.aload_n 0, 1) := by decide +kernel
theorem dX8_worth_9 : decode cX8_worth 9 = .ok (.aload_n 0, 1) := by decide +kernel
theorem dX8_worth_10 : decode cX8_worth 10 = .ok (.getfield 49, 3) := by decide +kernel
theorem dX8_worth_13 : decode cX8_worth 13 = .ok (.iconst 4, 1) := by decide +kernel
theorem dX8_worth_14 : decode cX8_worth 14 = .ok (.iload_n 2, 1) := by decide +kernel
theorem dX8_worth_15 : decode cX8_worth 15 = .ok (.iadd, 1) := by decide +kernel
theorem dX8_worth_16 : decode cX8_worth 16 = .ok (.iaload, 1) := by decide +kernel
theorem dX8_worth_17 : decode cX8_worth 17 = .ok (.aload_n 0, 1) := by decide +kernel
theorem dX8_worth_18 : decode cX8_worth 18 = .ok (.getfield 49, 3) := by decide +kernel
theorem dX8_worth_21 : decode cX8_worth 21 = .ok (.bipush 8, 2) := by decide +kernel
theorem dX8_worth_23 : decode cX8_worth 23 = .ok (.iload_n 3, 1) := by decide +kernel
theorem dX8_worth_24 : decode cX8_worth 24 = .ok (.iadd, 1) := by decide +kernel
theorem dX8_worth_25 : decode cX8_worth 25 = .ok (.iaload, 1) := by decide +kernel
theorem dX8_worth_26 : decode cX8_worth 26 = .ok (.invokevirtual 118, 3) := by decide +kernel
theorem dX8_worth_29 : decode cX8_worth 29 = .ok (.aload_n 0, 1) := by decide +kernel
theorem dX8_worth_30 : decode cX8_worth 30 = .ok (.aload_n 0, 1) := by decide +kernel
theorem dX8_worth_31 : decode cX8_worth 31 = .ok (.getfield 49, 3) := by decide +kernel
theorem dX8_worth_34 : decode cX8_worth 34 = .ok (.iconst 4, 1) := by decide +kernel
theorem dX8_worth_35 : decode cX8_worth 35 = .ok (.iload_n 3, 1) := by decide +kernel
theorem dX8_worth_36 : decode cX8_worth 36 = .ok (.iadd, 1) := by decide +kernel
theorem dX8_worth_37 : decode cX8_worth 37 = .ok (.iaload, 1) := by decide +kernel
theorem dX8_worth_38 : decode cX8_worth 38 = .ok (.aload_n 0, 1) := by decide +kernel
theorem dX8_worth_39 : decode cX8_worth 39 = .ok (.getfield 49, 3) := by decide +kernel
theorem dX8_worth_42 : decode cX8_worth 42 = .ok (.bipush 8, 2) := by decide +kernel
theorem dX8_worth_44 : decode cX8_worth 44 = .ok (.iload_n 2, 1) := by decide +kernel
theorem dX8_worth_45 : decode cX8_worth 45 = .ok (.iadd, 1) := by decide +kernel
theorem dX8_worth_46 : decode cX8_worth 46 = .ok (.iaload, 1) := by decide +kernel
theorem dX8_worth_47 : decode cX8_worth 47 = .ok (.invokevirtual 118, 3) := by decide +kernel
theorem dX8_worth_50 : decode cX8_worth 50 = .ok (.invokevirtual 203, 3) := by decide +kernel
theorem dX8_worth_53 : decode cX8_worth 53 = .ok (.invokevirtual 118, 3) := by decide +kernel
theorem dX8_worth_56 : decode cX8_worth 56 = .ok (.istore 4, 2) := by decide +kernel
theorem dX8_worth_58 : decode cX8_worth 58 = .ok (.aload_n 0, 1) := by decide +kernel
theorem dX8_worth_59 : decode cX8_worth 59 = .ok (.aload_n 0, 1) := by decide +kernel
theorem dX8_worth_60 : decode cX8_worth 60 = .ok (.getfield 49, 3) := by decide +kernel
theorem dX8_worth_63 : decode cX8_worth 63 = .ok (.iload_n 2, 1) := by decide +kernel
theorem dX8_worth_64 : decode cX8_worth 64 = .ok (.iaload, 1) := by decide +kernel
theorem dX8_worth_65 : decode cX8_worth 65 = .ok (.aload_n 0, 1) := by decide +kernel
theorem dX8_worth_66 : decode cX8_worth 66 = .ok (.aload_n 0, 1) := by decide +kernel
theorem dX8_worth_67 : decode cX8_worth 67 = .ok (.aload_n 0, 1) := by decide +kernel
theorem dX8_worth_68 : decode cX8_worth 68 = .ok (.getfield 49, 3) := by decide +kernel
theorem dX8_worth_71 : decode cX8_worth 71 = .ok (.iconst 4, 1) := by decide +kernel
theorem dX8_worth_72 : decode cX8_worth 72 = .ok (.iload_n 1, 1) := by decide +kernel
theorem dX8_worth_73 : decode cX8_worth 73 = .ok (.iadd, 1) := by decide +kernel
theorem dX8_worth_74 : decode cX8_worth 74 = .ok (.iaload, 1) := by decide +kernel
theorem dX8_worth_75 : decode cX8_worth 75 = .ok (.aload_n 0, 1) := by decide +kernel
theorem dX8_worth_76 : decode cX8_worth 76 = .ok (.getfield 49, 3) := by decide +kernel
theorem dX8_worth_79 : decode cX8_worth 79 = .ok (.bipush 8, 2) := by decide +kernel
theorem dX8_worth_81 : decode cX8_worth 81 = .ok (.iload_n 3, 1) := by decide +kernel
theorem dX8_worth_82 : decode cX8_worth 82 = .ok (.iadd, 1) := by decide +kernel
theorem dX8_worth_83 : decode cX8_worth 83 = .ok (.iaload, 1) := by decide +kernel
theorem dX8_worth_84 : decode cX8_worth 84 = .ok (.invokevirtual 118, 3) := by decide +kernel
theorem dX8_worth_87 : decode cX8_worth 87 = .ok (.aload_n 0, 1) := by decide +kernel
theorem dX8_worth_88 : decode cX8_worth 88 = .ok (.aload_n 0, 1) := by decide +kernel
theorem dX8_worth_89 : decode cX8_worth 89 = .ok (.getfield 49, 3) := by decide +kernel
theorem dX8_worth_92 : decode cX8_worth 92 = .ok (.iconst 4, 1) := by decide +kernel
theorem dX8_worth_93 : decode cX8_worth 93 = .ok (.iload_n 3, 1) := by decide +kernel
theorem dX8_worth_94 : decode cX8_worth 94 = .ok (.iadd, 1) := by decide +kernel
theorem dX8_worth_95 : decode cX8_worth 95 = .ok (.iaload, 1) := by decide +kernel
theorem dX8_worth_96 : decode cX8_worth 96 = .ok (.aload_n 0, 1) := by decide +kernel
theorem dX8_worth_97 : decode cX8_worth 97 = .ok (.getfield 49, 3) := by decide +kernel
theorem dX8_worth_100 : decode cX8_worth 100 = .ok (.bipush 8, 2) := by decide +kernel
theorem dX8_worth_102 : decode cX8_worth 102 = .ok (.iload_n 1, 1) := by decide +kernel
theorem dX8_worth_103 : decode cX8_worth 103 = .ok (.iadd, 1) := by decide +kernel
theorem dX8_worth_104 : decode cX8_worth 104 = .ok (.iaload, 1) := by decide +kernel
theorem dX8_worth_105 : decode cX8_worth 105 = .ok (.invokevirtual 118, 3) := by decide +kernel
theorem dX8_worth_108 : decode cX8_worth 108 = .ok (.invokevirtual 203, 3) := by decide +kernel
theorem dX8_worth_111 : decode cX8_worth 111 = .ok (.invokevirtual 118, 3) := by decide +kernel
theorem dX8_worth_114 : decode cX8_worth 114 = .ok (.istore 5, 2) := by decide +kernel
theorem dX8_worth_116 : decode cX8_worth 116 = .ok (.aload_n 0, 1) := by decide +kernel
theorem dX8_worth_117 : decode cX8_worth 117 = .ok (.aload_n 0, 1) := by decide +kernel
theorem dX8_worth_118 : decode cX8_worth 118 = .ok (.getfield 49, 3) := by decide +kernel
theorem dX8_worth_121 : decode cX8_worth 121 = .ok (.iload_n 3, 1) := by decide +kernel
theorem dX8_worth_122 : decode cX8_worth 122 = .ok (.iaload, 1) := by decide +kernel
theorem dX8_worth_123 : decode cX8_worth 123 = .ok (.aload_n 0, 1) := by decide +kernel
theorem dX8_worth_124 : decode cX8_worth 124 = .ok (.aload_n 0, 1) := by decide +kernel
theorem dX8_worth_125 : decode cX8_worth 125 = .ok (.aload_n 0, 1) := by decide +kernel
theorem dX8_worth_126 : decode cX8_worth 126 = .ok (.getfield 49, 3) := by decide +kernel
theorem dX8_worth_129 : decode cX8_worth 129 = .ok (.iconst 4, 1) := by decide +kernel
theorem dX8_worth_130 : decode cX8_worth 130 = .ok (.iload_n 1, 1) := by decide +kernel
theorem dX8_worth_131 : decode cX8_worth 131 = .ok (.iadd, 1) := by decide +kernel
theorem dX8_worth_132 : decode cX8_worth 132 = .ok (.iaload, 1) := by decide +kernel
theorem dX8_worth_133 : decode cX8_worth 133 = .ok (.aload_n 0, 1) := by decide +kernel
theorem dX8_worth_134 : decode cX8_worth 134 = .ok (.getfield 49, 3) := by decide +kernel
theorem dX8_worth_137 : decode cX8_worth 137 = .ok (.bipush 8, 2) := by decide +kernel
theorem dX8_worth_139 : decode cX8_worth 139 = .ok (.iload_n 2, 1) := by decide +kernel
theorem dX8_worth_140 : decode cX8_worth 140 = .ok (.iadd, 1) := by decide +kernel
theorem dX8_worth_141 : decode cX8_worth 141 = .ok (.iaload, 1) := by decide +kernel
theorem dX8_worth_142 : decode cX8_worth 142 = .ok (.invokevirtual 118, 3) := by decide +kernel
theorem dX8_worth_145 : decode cX8_worth 145 = .ok (.aload_n 0, 1) := by decide +kernel
theorem dX8_worth_146 : decode cX8_worth 146 = .ok (.aload_n 0, 1) := by decide +kernel
theorem dX8_worth_147 : decode cX8_worth 147 = .ok (.getfield 49, 3) := by decide +kernel
theorem dX8_worth_150 : decode cX8_worth 150 = .ok (.iconst 4, 1) := by decide +kernel
theorem dX8_worth_151 : decode cX8_worth 151 = .ok (.iload_n 2, 1) := by decide +kernel
theorem dX8_worth_152 : decode cX8_worth 152 = .ok (.iadd, 1) := by decide +kernel
theorem dX8_worth_153 : decode cX8_worth 153 = .ok (.iaload, 1) := by decide +kernel
theorem dX8_worth_154 : decode cX8_worth 154 = .ok (.aload_n 0, 1) := by decide +kernel
theorem dX8_worth_155 : decode cX8_worth 155 = .ok (.getfield 49, 3) := by decide +kernel
theorem dX8_worth_158 : decode cX8_worth 158 = .ok (.bipush 8, 2) := by decide +kernel
theorem dX8_worth_160 : decode cX8_worth 160 = .ok (.iload_n 1, 1) := by decide +kernel
theorem dX8_worth_161 : decode cX8_worth 161 = .ok (.iadd, 1) := by decide +kernel
theorem dX8_worth_162 : decode cX8_worth 162 = .ok (.iaload, 1) := by decide +kernel
theorem dX8_worth_163 : decode cX8_worth 163 = .ok (.invokevirtual 118, 3) := by decide +kernel
theorem dX8_worth_166 : decode cX8_worth 166 = .ok (.invokevirtual 203, 3) := by decide +kernel
theorem dX8_worth_169 : decode cX8_worth 169 = .ok (.invokevirtual 118, 3) := by decide +kernel
theorem dX8_worth_172 : decode cX8_worth 172 = .ok (.istore 6, 2) := by decide +kernel
theorem dX8_worth_174 : decode cX8_worth 174 = .ok (.aload_n 0, 1) := by decide +kernel
theorem dX8_worth_175 : decode cX8_worth 175 = .ok (.aload_n 0, 1) := by decide +kernel
theorem dX8_worth_176 : decode cX8_worth 176 = .ok (.iload 4, 2) := by decide +kernel
theorem dX8_worth_178 : decode cX8_worth 178 = .ok (.iload 5, 2) := by decide +kernel
theorem dX8_worth_180 : decode cX8_worth 180 = .ok (.invokevirtual 203, 3) := by decide +kernel
theorem dX8_worth_183 : decode cX8_worth 183 = .ok (.iload 6, 2) := by decide +kernel
theorem dX8_worth_185 : decode cX8_worth 185 = .ok (.invokevirtual 109, 3) := by decide +kernel
theorem dX8_worth_188 : decode cX8_worth 188 = .ok (.ireturn, 1) := by decide +kernel
set_option maxHeartbeats 16000000 in
theorem t_worth012_285 (l : Launch) {D : va_G} {ids : Nat → ClassId} {β : Nat} {sh : Nat → Nat × Nat} {N : Nat} {R : Nat → Nat → Option Nat} {F : Nat → Nat → Int} {A : Nat → Int → Int} {S : SP} (hM : MoL sh R N) (hR0 : RepM S F A) {V : Int → Int} {r : Nat → T3} (hS : St 285 V F A) (hrw : RowsT A V r) : MetX l yX8_worth cX8_worth 7 (some (.int)) 5 113 D ids β sh N R F A [rf 0, pI 0, pI 1, pI 2] (pIr (Tq 166 F A 285 V (wrT r 0 1 2))) := by
  refine MetX.of (loc := [_, _, _, _, _, _, _]) (plainFor_of_name (by decide +kernel)) (Nat.le_of_ble_eq_true rfl) rfl ?_
  intro p e s m args below meth c hC hK hr hlk
  obtain ⟨⟨m0, m1⟩, ⟨rx0, r2, r3, r7, r8, r9, r11, r12, r13, r16, r18⟩, ⟨m2, m3⟩, ⟨m4, m5⟩, ⟨m6, m7⟩, ⟨m8, m9⟩, ⟨m10, m11⟩, ⟨m12, m13⟩, ⟨m14, m15⟩, ⟨m16, m17⟩, ⟨m18, m19⟩, ⟨m20, m21⟩, ⟨m22, m23⟩⟩ := id hM
  obtain ⟨hi, b1, b2, b3, b4, b5, b6, b7, b8⟩ := id hR0
  have i1 := hi.1
  refine x_aload_n (pc2 := 1) hC rfl rfl dX8_worth_0 rfl ?_
  refine x_aload_n (pc2 := 2) hC rfl rfl dX8_worth_1 rfl ?_
  refine g_827 (pc2 := 5) hC hK (by assumption) (by assumption) (by assumption) dX8_worth_2 rfl ?_
  refine x_iload_n (pc2 := 6) hC rfl rfl dX8_worth_5 rfl ?_
  refine x_iald (pc2 := 7) hC hK (by assumption) (by assumption) (by omega) (by decide) dX8_worth_6 rfl ?_
  rw [show A 11 (0) = 59 from (hrw 0 (by decide)).1]
  refine x_aload_n (pc2 := 8) hC rfl rfl dX8_worth_7 rfl ?_
  refine x_aload_n (pc2 := 9) hC rfl rfl dX8_worth_8 rfl ?_
  refine x_aload_n (pc2 := 10) hC rfl rfl dX8_worth_9 rfl ?_
  refine g_827 (pc2 := 13) hC hK (by assumption) (by assumption) (by assumption) dX8_worth_10 rfl ?_
  refine x_iconst (pc2 := 14) hC dX8_worth_13 rfl ?_
  refine x_iload_n (pc2 := 15) hC rfl rfl dX8_worth_14 rfl ?_
  refine x_iadd (pc2 := 16) hC dX8_worth_15 rfl ?_
  refine x_iald (pc2 := 17) hC hK (by assumption) (by assumption) (by omega) (by decide) dX8_worth_16 rfl ?_
  rw [show A 11 (4 + 1) = 165 from (hrw 5 (by decide)).1]
  refine x_aload_n (pc2 := 18) hC rfl rfl dX8_worth_17 rfl ?_
  refine g_827 (pc2 := 21) hC hK (by assumption) (by assumption) (by assumption) dX8_worth_18 rfl ?_
  refine x_bipush (pc2 := 23) hC rfl dX8_worth_21 rfl ?_
  refine x_iload_n (pc2 := 24) hC rfl rfl dX8_worth_23 rfl ?_
  refine x_iadd (pc2 := 25) hC dX8_worth_24 rfl ?_
  refine x_iald (pc2 := 26) hC hK (by assumption) (by assumption) (by omega) (by decide) dX8_worth_25 rfl ?_
  rw [show A 11 (8 + 2) = 271 from (hrw 10 (by decide)).1]
  refine x_cVi (pc2 := 29) (ci := 8) hC hK (t_product l hM hS (x := 165) (y := 271) ⟨by decide, by decide⟩ ⟨by decide, by decide⟩ (show tr V 165 = r 5 from (hrw 5 (by decide)).2.1) (show tr V 271 = r 10 from (hrw 10 (by decide)).2.1) (hrw 5 (by decide)).2.2 (hrw 10 (by decide)).2.2 (by decide) ⟨by decide, by decide⟩) lk_1004 rfl rfl (by decide) (by assumption) (by assumption) ⟨Nat.le_of_ble_eq_true rfl, Nat.le_of_ble_eq_true rfl⟩ ⟨Nat.le_refl _, Nat.le_refl _⟩ rfl (Nat.le_of_ble_eq_true rfl) dX8_worth_26 rfl ?_
  rintro z26 F26 A26 ⟨ez26, V26, hS26, v26, k26, g26⟩
  obtain rfl := ez26.symm
  replace hS26 : St 296 V26 F26 A26 := hS26
  have t26_r0 : tr V26 59 = (r 0) := (tr_keep (by decide) k26).trans (show tr V 59 = r 0 from (hrw 0 (by decide)).2.1)
  have t26_r1 : tr V26 70 = (r 1) := (tr_keep (by decide) k26).trans (show tr V 70 = r 1 from (hrw 1 (by decide)).2.1)
  have t26_r2 : tr V26 81 = (r 2) := (tr_keep (by decide) k26).trans (show tr V 81 = r 2 from (hrw 2 (by decide)).2.1)
  have t26_r4 : tr V26 154 = (r 4) := (tr_keep (by decide) k26).trans (show tr V 154 = r 4 from (hrw 4 (by decide)).2.1)
  have t26_r5 : tr V26 165 = (r 5) := (tr_keep (by decide) k26).trans (show tr V 165 = r 5 from (hrw 5 (by decide)).2.1)
  have t26_r6 : tr V26 176 = (r 6) := (tr_keep (by decide) k26).trans (show tr V 176 = r 6 from (hrw 6 (by decide)).2.1)
  have t26_r8 : tr V26 249 = (r 8) := (tr_keep (by decide) k26).trans (show tr V 249 = r 8 from (hrw 8 (by decide)).2.1)
  have t26_r9 : tr V26 260 = (r 9) := (tr_keep (by decide) k26).trans (show tr V 260 = r 9 from (hrw 9 (by decide)).2.1)
  have t26_r10 : tr V26 271 = (r 10) := (tr_keep (by decide) k26).trans (show tr V 271 = r 10 from (hrw 10 (by decide)).2.1)
  rw [show (285 : Int) + 8 = 293 from rfl]
  obtain ⟨wj26, ewj26⟩ : ∃ w : T3, w = tmul (r 5) (r 10) := ⟨_, rfl⟩
  have uwj26 : tr V26 293 = wj26 := by rw [ewj26]; exact v26
  have bwj26 : bdt 103 4 wj26 := by rw [ewj26]; exact (bdt_mul (hrw 5 (by decide)).2.2 (hrw 10 (by decide)).2.2 (by decide) (by decide))
  clear v26
  refine x_aload_n (pc2 := 30) hC rfl rfl dX8_worth_29 rfl ?_
  refine x_aload_n (pc2 := 31) hC rfl rfl dX8_worth_30 rfl ?_
  refine g_827 (pc2 := 34) hC hK (by assumption) (by assumption) (by assumption) dX8_worth_31 rfl ?_
  refine x_iconst (pc2 := 35) hC dX8_worth_34 rfl ?_
  refine x_iload_n (pc2 := 36) hC rfl rfl dX8_worth_35 rfl ?_
  refine x_iadd (pc2 := 37) hC dX8_worth_36 rfl ?_
  refine x_iald (pc2 := 38) hC hK (by assumption) (by assumption) (by omega) (by decide) dX8_worth_37 rfl ?_
  rw [show A26 11 (4 + 2) = 176 from (congrFun (g26.a (show 11 = 1 ∨ 11 = 2 ∨ 11 = 3 ∨ 11 = 10 ∨ 11 = 11 by decide)) _).trans (hrw 6 (by decide)).1]
  refine x_aload_n (pc2 := 39) hC rfl rfl dX8_worth_38 rfl ?_
  refine g_827 (pc2 := 42) hC hK (by assumption) (by assumption) (by assumption) dX8_worth_39 rfl ?_
  refine x_bipush (pc2 := 44) hC rfl dX8_worth_42 rfl ?_
  refine x_iload_n (pc2 := 45) hC rfl rfl dX8_worth_44 rfl ?_
  refine x_iadd (pc2 := 46) hC dX8_worth_45 rfl ?_
  refine x_iald (pc2 := 47) hC hK (by assumption) (by assumption) (by omega) (by decide) dX8_worth_46 rfl ?_
  rw [show A26 11 (8 + 1) = 260 from (congrFun (g26.a (show 11 = 1 ∨ 11 = 2 ∨ 11 = 3 ∨ 11 = 10 ∨ 11 = 11 by decide)) _).trans (hrw 9 (by decide)).1]
  refine x_cVi (pc2 := 50) (ci := 8) hC hK (t_product l hM hS26 (x := 176) (y := 260) ⟨by decide, by decide⟩ ⟨by decide, by decide⟩ t26_r6 t26_r9 (hrw 6 (by decide)).2.2 (hrw 9 (by decide)).2.2 (by decide) ⟨by decide, by decide⟩) lk_1004 rfl rfl (by decide) (by assumption) (by assumption) ⟨Nat.le_of_ble_eq_true rfl, Nat.le_of_ble_eq_true rfl⟩ ⟨Nat.le_refl _, Nat.le_refl _⟩ rfl (Nat.le_of_ble_eq_true rfl) dX8_worth_47 rfl ?_
  rintro z47 F47 A47 ⟨ez47, V47, hS47, v47, k47, g47⟩
  obtain rfl := ez47.symm
  replace hS47 : St 307 V47 F47 A47 := hS47
  have t47_r0 : tr V47 59 = (r 0) := (tr_keep (by decide) k47).trans t26_r0
  have t47_r1 : tr V47 70 = (r 1) := (tr_keep (by decide) k47).trans t26_r1
  have t47_r2 : tr V47 81 = (r 2) := (tr_keep (by decide) k47).trans t26_r2
  have t47_r4 : tr V47 154 = (r 4) := (tr_keep (by decide) k47).trans t26_r4
  have t47_r5 : tr V47 165 = (r 5) := (tr_keep (by decide) k47).trans t26_r5
  have t47_r6 : tr V47 176 = (r 6) := (tr_keep (by decide) k47).trans t26_r6
  have t47_r8 : tr V47 249 = (r 8) := (tr_keep (by decide) k47).trans t26_r8
  have t47_r9 : tr V47 260 = (r 9) := (tr_keep (by decide) k47).trans t26_r9
  have t47_r10 : tr V47 271 = (r 10) := (tr_keep (by decide) k47).trans t26_r10
  have t47_wj26 : tr V47 293 = wj26 := (tr_keep (by decide) k47).trans uwj26
  rw [show (296 : Int) + 8 = 304 from rfl]
  obtain ⟨wj47, ewj47⟩ : ∃ w : T3, w = tmul (r 6) (r 9) := ⟨_, rfl⟩
  have uwj47 : tr V47 304 = wj47 := by rw [ewj47]; exact v47
  have bwj47 : bdt 103 4 wj47 := by rw [ewj47]; exact (bdt_mul (hrw 6 (by decide)).2.2 (hrw 9 (by decide)).2.2 (by decide) (by decide))
  clear v47
  refine x_cVi (pc2 := 53) (ci := 8) hC hK (t_sub l hM hS47 (x := 293) (y := 304) ⟨by decide, by decide⟩ ⟨by decide, by decide⟩ t47_wj26 uwj47 bwj26 bwj47 (by decide) ⟨by decide, by decide, by decide⟩) lk_1012 rfl rfl (by decide) (by assumption) (by assumption) ⟨Nat.le_of_ble_eq_true rfl, Nat.le_of_ble_eq_true rfl⟩ ⟨Nat.le_refl _, Nat.le_refl _⟩ rfl (Nat.le_of_ble_eq_true rfl) dX8_worth_50 rfl ?_
  rintro z50 F50 A50 ⟨ez50, V50, hS50, v50, k50, g50⟩
  obtain rfl := ez50.symm
  replace hS50 : St 322 V50 F50 A50 := hS50
  have t50_r0 : tr V50 59 = (r 0) := (tr_keep (by decide) k50).trans t47_r0
  have t50_r1 : tr V50 70 = (r 1) := (tr_keep (by decide) k50).trans t47_r1
  have t50_r2 : tr V50 81 = (r 2) := (tr_keep (by decide) k50).trans t47_r2
  have t50_r4 : tr V50 154 = (r 4) := (tr_keep (by decide) k50).trans t47_r4
  have t50_r5 : tr V50 165 = (r 5) := (tr_keep (by decide) k50).trans t47_r5
  have t50_r6 : tr V50 176 = (r 6) := (tr_keep (by decide) k50).trans t47_r6
  have t50_r8 : tr V50 249 = (r 8) := (tr_keep (by decide) k50).trans t47_r8
  have t50_r9 : tr V50 260 = (r 9) := (tr_keep (by decide) k50).trans t47_r9
  have t50_r10 : tr V50 271 = (r 10) := (tr_keep (by decide) k50).trans t47_r10
  have t50_wj26 : tr V50 293 = wj26 := (tr_keep (by decide) k50).trans t47_wj26
  have t50_wj47 : tr V50 304 = wj47 := (tr_keep (by decide) k50).trans uwj47
  rw [show (307 : Int) + 12 = 319 from rfl]
  obtain ⟨wj50, ewj50⟩ : ∃ w : T3, w = tadd wj26 (tneg wj47) := ⟨_, rfl⟩
  have uwj50 : tr V50 319 = wj50 := by rw [ewj50]; exact v50
  have bwj50 : bdt 108 8 wj50 := by rw [ewj50]; exact (bdt_add bwj26 (bdt_neg bwj47) (by decide) (by decide) (by decide))
  clear v50
  refine x_cVi (pc2 := 56) (ci := 8) hC hK (t_product l hM hS50 (x := 59) (y := 319) ⟨by decide, by decide⟩ ⟨by decide, by decide⟩ t50_r0 uwj50 (hrw 0 (by decide)).2.2 bwj50 (by decide) ⟨by decide, by decide⟩) lk_1004 rfl rfl (by decide) (by assumption) (by assumption) ⟨Nat.le_of_ble_eq_true rfl, Nat.le_of_ble_eq_true rfl⟩ ⟨Nat.le_refl _, Nat.le_refl _⟩ rfl (Nat.le_of_ble_eq_true rfl) dX8_worth_53 rfl ?_
  rintro z53 F53 A53 ⟨ez53, V53, hS53, v53, k53, g53⟩
  obtain rfl := ez53.symm
  replace hS53 : St 333 V53 F53 A53 := hS53
  have t53_r0 : tr V53 59 = (r 0) := (tr_keep (by decide) k53).trans t50_r0
  have t53_r1 : tr V53 70 = (r 1) := (tr_keep (by decide) k53).trans t50_r1
  have t53_r2 : tr V53 81 = (r 2) := (tr_keep (by decide) k53).trans t50_r2
  have t53_r4 : tr V53 154 = (r 4) := (tr_keep (by decide) k53).trans t50_r4
  have t53_r5 : tr V53 165 = (r 5) := (tr_keep (by decide) k53).trans t50_r5
  have t53_r6 : tr V53 176 = (r 6) := (tr_keep (by decide) k53).trans t50_r6
  have t53_r8 : tr V53 249 = (r 8) := (tr_keep (by decide) k53).trans t50_r8
  have t53_r9 : tr V53 260 = (r 9) := (tr_keep (by decide) k53).trans t50_r9
  have t53_r10 : tr V53 271 = (r 10) := (tr_keep (by decide) k53).trans t50_r10
  have t53_wj26 : tr V53 293 = wj26 := (tr_keep (by decide) k53).trans t50_wj26
  have t53_wj47 : tr V53 304 = wj47 := (tr_keep (by decide) k53).trans t50_wj47
  have t53_wj50 : tr V53 319 = wj50 := (tr_keep (by decide) k53).trans uwj50
  rw [show (322 : Int) + 8 = 330 from rfl]
  obtain ⟨wj53, ewj53⟩ : ∃ w : T3, w = tmul (r 0) wj50 := ⟨_, rfl⟩
  have uwj53 : tr V53 330 = wj53 := by rw [ewj53]; exact v53
  have bwj53 : bdt 160 10 wj53 := by rw [ewj53]; exact (bdt_mul (hrw 0 (by decide)).2.2 bwj50 (by decide) (by decide))
  clear v53
  refine x_istore (pc2 := 58) (loc2 := [_, _, _, _, _, _, _]) hC (by decide) rfl dX8_worth_56 rfl ?_
  refine x_aload_n (pc2 := 59) hC rfl rfl dX8_worth_58 rfl ?_
  refine x_aload_n (pc2 := 60) hC rfl rfl dX8_worth_59 rfl ?_
  refine g_827 (pc2 := 63) hC hK (by assumption) (by assumption) (by assumption) dX8_worth_60 rfl ?_
  refine x_iload_n (pc2 := 64) hC rfl rfl dX8_worth_63 rfl ?_
  refine x_iald (pc2 := 65) hC hK (by assumption) (by assumption) (by omega) (by decide) dX8_worth_64 rfl ?_
  rw [show A53 11 (1) = 70 from (congrFun ((((g26.tr g47).tr g50).tr g53).a (show 11 = 1 ∨ 11 = 2 ∨ 11 = 3 ∨ 11 = 10 ∨ 11 = 11 by decide)) _).trans (hrw 1 (by decide)).1]
  refine x_aload_n (pc2 := 66) hC rfl rfl dX8_worth_65 rfl ?_
  refine x_aload_n (pc2 := 67) hC rfl rfl dX8_worth_66 rfl ?_
  refine x_aload_n (pc2 := 68) hC rfl rfl dX8_worth_67 rfl ?_
  refine g_827 (pc2 := 71) hC hK (by assumption) (by assumption) (by assumption) dX8_worth_68 rfl ?_
  refine x_iconst (pc2 := 72) hC dX8_worth_71 rfl ?_
  refine x_iload_n (pc2 := 73) hC rfl rfl dX8_worth_72 rfl ?_
  refine x_iadd (pc2 := 74) hC dX8_worth_73 rfl ?_
  refine x_iald (pc2 := 75) hC hK (by assumption) (by assumption) (by omega) (by decide) dX8_worth_74 rfl ?_
  rw [show A53 11 (4 + 0) = 154 from (congrFun ((((g26.tr g47).tr g50).tr g53).a (show 11 = 1 ∨ 11 = 2 ∨ 11 = 3 ∨ 11 = 10 ∨ 11 = 11 by decide)) _).trans (hrw 4 (by decide)).1]
  refine x_aload_n (pc2 := 76) hC rfl rfl dX8_worth_75 rfl ?_
  refine g_827 (pc2 := 79) hC hK (by assumption) (by assumption) (by assumption) dX8_worth_76 rfl ?_
  refine x_bipush (pc2 := 81) hC rfl dX8_worth_79 rfl ?_
  refine x_iload_n (pc2 := 82) hC rfl rfl dX8_worth_81 rfl ?_
  refine x_iadd (pc2 := 83) hC dX8_worth_82 rfl ?_
  refine x_iald (pc2 := 84) hC hK (by assumption) (by assumption) (by omega) (by decide) dX8_worth_83 rfl ?_
  rw [show A53 11 (8 + 2) = 271 from (congrFun ((((g26.tr g47).tr g50).tr g53).a (show 11 = 1 ∨ 11 = 2 ∨ 11 = 3 ∨ 11 = 10 ∨ 11 = 11 by decide)) _).trans (hrw 10 (by decide)).1]
  refine x_cVi (pc2 := 87) (ci := 8) hC hK (t_product l hM hS53 (x := 154) (y := 271) ⟨by decide, by decide⟩ ⟨by decide, by decide⟩ t53_r4 t53_r10 (hrw 4 (by decide)).2.2 (hrw 10 (by decide)).2.2 (by decide) ⟨by decide, by decide⟩) lk_1004 rfl rfl (by decide) (by assumption) (by assumption) ⟨Nat.le_of_ble_eq_true rfl, Nat.le_of_ble_eq_true rfl⟩ ⟨Nat.le_refl _, Nat.le_refl _⟩ rfl (Nat.le_of_ble_eq_true rfl) dX8_worth_84 rfl ?_
  rintro z84 F84 A84 ⟨ez84, V84, hS84, v84, k84, g84⟩
  obtain rfl := ez84.symm
  replace hS84 : St 344 V84 F84 A84 := hS84
  have t84_r0 : tr V84 59 = (r 0) := (tr_keep (by decide) k84).trans t53_r0
  have t84_r1 : tr V84 70 = (r 1) := (tr_keep (by decide) k84).trans t53_r1
  have t84_r2 : tr V84 81 = (r 2) := (tr_keep (by decide) k84).trans t53_r2
  have t84_r4 : tr V84 154 = (r 4) := (tr_keep (by decide) k84).trans t53_r4
  have t84_r5 : tr V84 165 = (r 5) := (tr_keep (by decide) k84).trans t53_r5
  have t84_r6 : tr V84 176 = (r 6) := (tr_keep (by decide) k84).trans t53_r6
  have t84_r8 : tr V84 249 = (r 8) := (tr_keep (by decide) k84).trans t53_r8
  have t84_r9 : tr V84 260 = (r 9) := (tr_keep (by decide) k84).trans t53_r9
  have t84_r10 : tr V84 271 = (r 10) := (tr_keep (by decide) k84).trans t53_r10
  have t84_wj26 : tr V84 293 = wj26 := (tr_keep (by decide) k84).trans t53_wj26
  have t84_wj47 : tr V84 304 = wj47 := (tr_keep (by decide) k84).trans t53_wj47
  have t84_wj50 : tr V84 319 = wj50 := (tr_keep (by decide) k84).trans t53_wj50
  have t84_wj53 : tr V84 330 = wj53 := (tr_keep (by decide) k84).trans uwj53
  rw [show (333 : Int) + 8 = 341 from rfl]
  obtain ⟨wj84, ewj84⟩ : ∃ w : T3, w = tmul (r 4) (r 10) := ⟨_, rfl⟩
  have uwj84 : tr V84 341 = wj84 := by rw [ewj84]; exact v84
  have bwj84 : bdt 103 4 wj84 := by rw [ewj84]; exact (bdt_mul (hrw 4 (by decide)).2.2 (hrw 10 (by decide)).2.2 (by decide) (by decide))
  clear v84
  refine x_aload_n (pc2 := 88) hC rfl rfl dX8_worth_87 rfl ?_
  refine x_aload_n (pc2 := 89) hC rfl rfl dX8_worth_88 rfl ?_
  refine g_827 (pc2 := 92) hC hK (by assumption) (by assumption) (by assumption) dX8_worth_89 rfl ?_
  refine x_iconst (pc2 := 93) hC dX8_worth_92 rfl ?_
  refine x_iload_n (pc2 := 94) hC rfl rfl dX8_worth_93 rfl ?_
  refine x_iadd (pc2 := 95) hC dX8_worth_94 rfl ?_
  refine x_iald (pc2 := 96) hC hK (by assumption) (by assumption) (by omega) (by decide) dX8_worth_95 rfl ?_
  rw [show A84 11 (4 + 2) = 176 from (congrFun (((((g26.tr g47).tr g50).tr g53).tr g84).a (show 11 = 1 ∨ 11 = 2 ∨ 11 = 3 ∨ 11 = 10 ∨ 11 = 11 by decide)) _).trans (hrw 6 (by decide)).1]
  refine x_aload_n (pc2 := 97) hC rfl rfl dX8_worth_96 rfl ?_
  refine g_827 (pc2 := 100) hC hK (by assumption) (by assumption) (by assumption) dX8_worth_97 rfl ?_
  refine x_bipush (pc2 := 102) hC rfl dX8_worth_100 rfl ?_
  refine x_iload_n (pc2 := 103) hC rfl rfl dX8_worth_102 rfl ?_
  refine x_iadd (pc2 := 104) hC dX8_worth_103 rfl ?_
  refine x_iald (pc2 := 105) hC hK (by assumption) (by assumption) (by omega) (by decide) dX8_worth_104 rfl ?_
  rw [show A84 11 (8 + 0) = 249 from (congrFun (((((g26.tr g47).tr g50).tr g53).tr g84).a (show 11 = 1 ∨ 11 = 2 ∨ 11 = 3 ∨ 11 = 10 ∨ 11 = 11 by decide)) _).trans (hrw 8 (by decide)).1]
  refine x_cVi (pc2 := 108) (ci := 8) hC hK (t_product l hM hS84 (x := 176) (y := 249) ⟨by decide, by decide⟩ ⟨by decide, by decide⟩ t84_r6 t84_r8 (hrw 6 (by decide)).2.2 (hrw 8 (by decide)).2.2 (by decide) ⟨by decide, by decide⟩) lk_1004 rfl rfl (by decide) (by assumption) (by assumption) ⟨Nat.le_of_ble_eq_true rfl, Nat.le_of_ble_eq_true rfl⟩ ⟨Nat.le_refl _, Nat.le_refl _⟩ rfl (Nat.le_of_ble_eq_true rfl) dX8_worth_105 rfl ?_
  rintro z105 F105 A105 ⟨ez105, V105, hS105, v105, k105, g105⟩
  obtain rfl := ez105.symm
  replace hS105 : St 355 V105 F105 A105 := hS105
  have t105_r0 : tr V105 59 = (r 0) := (tr_keep (by decide) k105).trans t84_r0
  have t105_r1 : tr V105 70 = (r 1) := (tr_keep (by decide) k105).trans t84_r1
  have t105_r2 : tr V105 81 = (r 2) := (tr_keep (by decide) k105).trans t84_r2
  have t105_r4 : tr V105 154 = (r 4) := (tr_keep (by decide) k105).trans t84_r4
  have t105_r5 : tr V105 165 = (r 5) := (tr_keep (by decide) k105).trans t84_r5
  have t105_r6 : tr V105 176 = (r 6) := (tr_keep (by decide) k105).trans t84_r6
  have t105_r8 : tr V105 249 = (r 8) := (tr_keep (by decide) k105).trans t84_r8
  have t105_r9 : tr V105 260 = (r 9) := (tr_keep (by decide) k105).trans t84_r9
  have t105_r10 : tr V105 271 = (r 10) := (tr_keep (by decide) k105).trans t84_r10
  have t105_wj26 : tr V105 293 = wj26 := (tr_keep (by decide) k105).trans t84_wj26
  have t105_wj47 : tr V105 304 = wj47 := (tr_keep (by decide) k105).trans t84_wj47
  have t105_wj50 : tr V105 319 = wj50 := (tr_keep (by decide) k105).trans t84_wj50
  have t105_wj53 : tr V105 330 = wj53 := (tr_keep (by decide) k105).trans t84_wj53
  have t105_wj84 : tr V105 341 = wj84 := (tr_keep (by decide) k105).trans uwj84
  rw [show (344 : Int) + 8 = 352 from rfl]
  obtain ⟨wj105, ewj105⟩ : ∃ w : T3, w = tmul (r 6) (r 8) := ⟨_, rfl⟩
  have uwj105 : tr V105 352 = wj105 := by rw [ewj105]; exact v105
  have bwj105 : bdt 103 4 wj105 := by rw [ewj105]; exact (bdt_mul (hrw 6 (by decide)).2.2 (hrw 8 (by decide)).2.2 (by decide) (by decide))
  clear v105
  refine x_cVi (pc2 := 111) (ci := 8) hC hK (t_sub l hM hS105 (x := 341) (y := 352) ⟨by decide, by decide⟩ ⟨by decide, by decide⟩ t105_wj84 uwj105 bwj84 bwj105 (by decide) ⟨by decide, by decide, by decide⟩) lk_1012 rfl rfl (by decide) (by assumption) (by assumption) ⟨Nat.le_of_ble_eq_true rfl, Nat.le_of_ble_eq_true rfl⟩ ⟨Nat.le_refl _, Nat.le_refl _⟩ rfl (Nat.le_of_ble_eq_true rfl) dX8_worth_108 rfl ?_
  rintro z108 F108 A108 ⟨ez108, V108, hS108, v108, k108, g108⟩
  obtain rfl := ez108.symm
  replace hS108 : St 370 V108 F108 A108 := hS108
  have t108_r0 : tr V108 59 = (r 0) := (tr_keep (by decide) k108).trans t105_r0
  have t108_r1 : tr V108 70 = (r 1) := (tr_keep (by decide) k108).trans t105_r1
  have t108_r2 : tr V108 81 = (r 2) := (tr_keep (by decide) k108).trans t105_r2
  have t108_r4 : tr V108 154 = (r 4) := (tr_keep (by decide) k108).trans t105_r4
  have t108_r5 : tr V108 165 = (r 5) := (tr_keep (by decide) k108).trans t105_r5
  have t108_r6 : tr V108 176 = (r 6) := (tr_keep (by decide) k108).trans t105_r6
  have t108_r8 : tr V108 249 = (r 8) := (tr_keep (by decide) k108).trans t105_r8
  have t108_r9 : tr V108 260 = (r 9) := (tr_keep (by decide) k108).trans t105_r9
  have t108_r10 : tr V108 271 = (r 10) := (tr_keep (by decide) k108).trans t105_r10
  have t108_wj26 : tr V108 293 = wj26 := (tr_keep (by decide) k108).trans t105_wj26
  have t108_wj47 : tr V108 304 = wj47 := (tr_keep (by decide) k108).trans t105_wj47
  have t108_wj50 : tr V108 319 = wj50 := (tr_keep (by decide) k108).trans t105_wj50
  have t108_wj53 : tr V108 330 = wj53 := (tr_keep (by decide) k108).trans t105_wj53
  have t108_wj84 : tr V108 341 = wj84 := (tr_keep (by decide) k108).trans t105_wj84
  have t108_wj105 : tr V108 352 = wj105 := (tr_keep (by decide) k108).trans uwj105
  rw [show (355 : Int) + 12 = 367 from rfl]
  obtain ⟨wj108, ewj108⟩ : ∃ w : T3, w = tadd wj84 (tneg wj105) := ⟨_, rfl⟩
  have uwj108 : tr V108 367 = wj108 := by rw [ewj108]; exact v108
  have bwj108 : bdt 108 8 wj108 := by rw [ewj108]; exact (bdt_add bwj84 (bdt_neg bwj105) (by decide) (by decide) (by decide))
  clear v108
  refine x_cVi (pc2 := 114) (ci := 8) hC hK (t_product l hM hS108 (x := 70) (y := 367) ⟨by decide, by decide⟩ ⟨by decide, by decide⟩ t108_r1 uwj108 (hrw 1 (by decide)).2.2 bwj108 (by decide) ⟨by decide, by decide⟩) lk_1004 rfl rfl (by decide) (by assumption) (by assumption) ⟨Nat.le_of_ble_eq_true rfl, Nat.le_of_ble_eq_true rfl⟩ ⟨Nat.le_refl _, Nat.le_refl _⟩ rfl (Nat.le_of_ble_eq_true rfl) dX8_worth_111 rfl ?_
  rintro z111 F111 A111 ⟨ez111, V111, hS111, v111, k111, g111⟩
  obtain rfl := ez111.symm
  replace hS111 : St 381 V111 F111 A111 := hS111
  have t111_r0 : tr V111 59 = (r 0) := (tr_keep (by decide) k111).trans t108_r0
  have t111_r1 : tr V111 70 = (r 1) := (tr_keep (by decide) k111).trans t108_r1
  have t111_r2 : tr V111 81 = (r 2) := (tr_keep (by decide) k111).trans t108_r2
  have t111_r4 : tr V111 154 = (r 4) := (tr_keep (by decide) k111).trans t108_r4
  have t111_r5 : tr V111 165 = (r 5) := (tr_keep (by decide) k111).trans t108_r5
  have t111_r6 : tr V111 176 = (r 6) := (tr_keep (by decide) k111).trans t108_r6
  have t111_r8 : tr V111 249 = (r 8) := (tr_keep (by decide) k111).trans t108_r8
  have t111_r9 : tr V111 260 = (r 9) := (tr_keep (by decide) k111).trans t108_r9
  have t111_r10 : tr V111 271 = (r 10) := (tr_keep (by decide) k111).trans t108_r10
  have t111_wj26 : tr V111 293 = wj26 := (tr_keep (by decide) k111).trans t108_wj26
  have t111_wj47 : tr V111 304 = wj47 := (tr_keep (by decide) k111).trans t108_wj47
  have t111_wj50 : tr V111 319 = wj50 := (tr_keep (by decide) k111).trans t108_wj50
  have t111_wj53 : tr V111 330 = wj53 := (tr_keep (by decide) k111).trans t108_wj53
  have t111_wj84 : tr V111 341 = wj84 := (tr_keep (by decide) k111).trans t108_wj84
  have t111_wj105 : tr V111 352 = wj105 := (tr_keep (by decide) k111).trans t108_wj105
  have t111_wj108 : tr V111 367 = wj108 := (tr_keep (by decide) k111).trans uwj108
  rw [show (370 : Int) + 8 = 378 from rfl]
  obtain ⟨wj111, ewj111⟩ : ∃ w : T3, w = tmul (r 1) wj108 := ⟨_, rfl⟩
  have uwj111 : tr V111 378 = wj111 := by rw [ewj111]; exact v111
  have bwj111 : bdt 160 10 wj111 := by rw [ewj111]; exact (bdt_mul (hrw 1 (by decide)).2.2 bwj108 (by decide) (by decide))
  clear v111
  refine x_istore (pc2 := 116) (loc2 := [_, _, _, _, _, _, _]) hC (by decide) rfl dX8_worth_114 rfl ?_
  refine x_aload_n (pc2 := 117) hC rfl rfl dX8_worth_116 rfl ?_
  refine x_aload_n (pc2 := 118) hC rfl rfl dX8_worth_117 rfl ?_
  refine g_827 (pc2 := 121) hC hK (by assumption) (by assumption) (by assumption) dX8_worth_118 rfl ?_
  refine x_iload_n (pc2 := 122) hC rfl rfl dX8_worth_121 rfl ?_
  refine x_iald (pc2 := 123) hC hK (by assumption) (by assumption) (by omega) (by decide) dX8_worth_122 rfl ?_
  rw [show A111 11 (2) = 81 from (congrFun ((((((((g26.tr g47).tr g50).tr g53).tr g84).tr g105).tr g108).tr g111).a (show 11 = 1 ∨ 11 = 2 ∨ 11 = 3 ∨ 11 = 10 ∨ 11 = 11 by decide)) _).trans (hrw 2 (by decide)).1]
  refine x_aload_n (pc2 := 124) hC rfl rfl dX8_worth_123 rfl ?_
  refine x_aload_n (pc2 := 125) hC rfl rfl dX8_worth_124 rfl ?_
  refine x_aload_n (pc2 := 126) hC rfl rfl dX8_worth_125 rfl ?_
  refine g_827 (pc2 := 129) hC hK (by assumption) (by assumption) (by assumption) dX8_worth_126 rfl ?_
  refine x_iconst (pc2 := 130) hC dX8_worth_129 rfl ?_
  refine x_iload_n (pc2 := 131) hC rfl rfl dX8_worth_130 rfl ?_
  refine x_iadd (pc2 := 132) hC dX8_worth_131 rfl ?_
  refine x_iald (pc2 := 133) hC hK (by assumption) (by assumption) (by omega) (by decide) dX8_worth_132 rfl ?_
  rw [show A111 11 (4 + 0) = 154 from (congrFun ((((((((g26.tr g47).tr g50).tr g53).tr g84).tr g105).tr g108).tr g111).a (show 11 = 1 ∨ 11 = 2 ∨ 11 = 3 ∨ 11 = 10 ∨ 11 = 11 by decide)) _).trans (hrw 4 (by decide)).1]
  refine x_aload_n (pc2 := 134) hC rfl rfl dX8_worth_133 rfl ?_
  refine g_827 (pc2 := 137) hC hK (by assumption) (by assumption) (by assumption) dX8_worth_134 rfl ?_
  refine x_bipush (pc2 := 139) hC rfl dX8_worth_137 rfl ?_
  refine x_iload_n (pc2 := 140) hC rfl rfl dX8_worth_139 rfl ?_
  refine x_iadd (pc2 := 141) hC dX8_worth_140 rfl ?_
  refine x_iald (pc2 := 142) hC hK (by assumption) (by assumption) (by omega) (by decide) dX8_worth_141 rfl ?_
  rw [show A111 11 (8 + 1) = 260 from (congrFun ((((((((g26.tr g47).tr g50).tr g53).tr g84).tr g105).tr g108).tr g111).a (show 11 = 1 ∨ 11 = 2 ∨ 11 = 3 ∨ 11 = 10 ∨ 11 = 11 by decide)) _).trans (hrw 9 (by decide)).1]
  refine x_cVi (pc2 := 145) (ci := 8) hC hK (t_product l hM hS111 (x := 154) (y := 260) ⟨by decide, by decide⟩ ⟨by decide, by decide⟩ t111_r4 t111_r9 (hrw 4 (by decide)).2.2 (hrw 9 (by decide)).2.2 (by decide) ⟨by decide, by decide⟩) lk_1004 rfl rfl (by decide) (by assumption) (by assumption) ⟨Nat.le_of_ble_eq_true rfl, Nat.le_of_ble_eq_true rfl⟩ ⟨Nat.le_refl _, Nat.le_refl _⟩ rfl (Nat.le_of_ble_eq_true rfl) dX8_worth_142 rfl ?_
  rintro z142 F142 A142 ⟨ez142, V142, hS142, v142, k142, g142⟩
  obtain rfl := ez142.symm
  replace hS142 : St 392 V142 F142 A142 := hS142
  have t142_r0 : tr V142 59 = (r 0) := (tr_keep (by decide) k142).trans t111_r0
  have t142_r1 : tr V142 70 = (r 1) := (tr_keep (by decide) k142).trans t111_r1
  have t142_r2 : tr V142 81 = (r 2) := (tr_keep (by decide) k142).trans t111_r2
  have t142_r4 : tr V142 154 = (r 4) := (tr_keep (by decide) k142).trans t111_r4
  have t142_r5 : tr V142 165 = (r 5) := (tr_keep (by decide) k142).trans t111_r5
  have t142_r6 : tr V142 176 = (r 6) := (tr_keep (by decide) k142).trans t111_r6
  have t142_r8 : tr V142 249 = (r 8) := (tr_keep (by decide) k142).trans t111_r8
  have t142_r9 : tr V142 260 = (r 9) := (tr_keep (by decide) k142).trans t111_r9
  have t142_r10 : tr V142 271 = (r 10) := (tr_keep (by decide) k142).trans t111_r10
  have t142_wj26 : tr V142 293 = wj26 := (tr_keep (by decide) k142).trans t111_wj26
  have t142_wj47 : tr V142 304 = wj47 := (tr_keep (by decide) k142).trans t111_wj47
  have t142_wj50 : tr V142 319 = wj50 := (tr_keep (by decide) k142).trans t111_wj50
  have t142_wj53 : tr V142 330 = wj53 := (tr_keep (by decide) k142).trans t111_wj53
  have t142_wj84 : tr V142 341 = wj84 := (tr_keep (by decide) k142).trans t111_wj84
  have t142_wj105 : tr V142 352 = wj105 := (tr_keep (by decide) k142).trans t111_wj105
  have t142_wj108 : tr V142 367 = wj108 := (tr_keep (by decide) k142).trans t111_wj108
  have t142_wj111 : tr V142 378 = wj111 := (tr_keep (by decide) k142).trans uwj111
  rw [show (381 : Int) + 8 = 389 from rfl]
  obtain ⟨wj142, ewj142⟩ : ∃ w : T3, w = tmul (r 4) (r 9) := ⟨_, rfl⟩
  have uwj142 : tr V142 389 = wj142 := by rw [ewj142]; exact v142
  have bwj142 : bdt 103 4 wj142 := by rw [ewj142]; exact (bdt_mul (hrw 4 (by decide)).2.2 (hrw 9 (by decide)).2.2 (by decide) (by decide))
  clear v142
  refine x_aload_n (pc2 := 146) hC rfl rfl dX8_worth_145 rfl ?_
  refine x_aload_n (pc2 := 147) hC rfl rfl dX8_worth_146 rfl ?_
  refine g_827 (pc2 := 150) hC hK (by assumption) (by assumption) (by assumption) dX8_worth_147 rfl ?_
  refine x_iconst (pc2 := 151) hC dX8_worth_150 rfl ?_
  refine x_iload_n (pc2 := 152) hC rfl rfl dX8_worth_151 rfl ?_
  refine x_iadd (pc2 := 153) hC dX8_worth_152 rfl ?_
  refine x_iald (pc2 := 154) hC hK (by assumption) (by assumption) (by omega) (by decide) dX8_worth_153 rfl ?_
  rw [show A142 11 (4 + 1) = 165 from (congrFun (((((((((g26.tr g47).tr g50).tr g53).tr g84).tr g105).tr g108).tr g111).tr g142).a (show 11 = 1 ∨ 11 = 2 ∨ 11 = 3 ∨ 11 = 10 ∨ 11 = 11 by decide)) _).trans (hrw 5 (by decide)).1]
  refine x_aload_n (pc2 := 155) hC rfl rfl dX8_worth_154 rfl ?_
  refine g_827 (pc2 := 158) hC hK (by assumption) (by assumption) (by assumption) dX8_worth_155 rfl ?_
  refine x_bipush (pc2 := 160) hC rfl dX8_worth_158 rfl ?_
  refine x_iload_n (pc2 := 161) hC rfl rfl dX8_worth_160 rfl ?_
  refine x_iadd (pc2 := 162) hC dX8_worth_161 rfl ?_
  refine x_iald (pc2 := 163) hC hK (by assumption) (by assumption) (by omega) (by decide) dX8_worth_162 rfl ?_
  rw [show A142 11 (8 + 0) = 249 from (congrFun (((((((((g26.tr g47).tr g50).tr g53).tr g84).tr g105).tr g108).tr g111).tr g142).a (show 11 = 1 ∨ 11 = 2 ∨ 11 = 3 ∨ 11 = 10 ∨ 11 = 11 by decide)) _).trans (hrw 8 (by decide)).1]
  refine x_cVi (pc2 := 166) (ci := 8) hC hK (t_product l hM hS142 (x := 165) (y := 249) ⟨by decide, by decide⟩ ⟨by decide, by decide⟩ t142_r5 t142_r8 (hrw 5 (by decide)).2.2 (hrw 8 (by decide)).2.2 (by decide) ⟨by decide, by decide⟩) lk_1004 rfl rfl (by decide) (by assumption) (by assumption) ⟨Nat.le_of_ble_eq_true rfl, Nat.le_of_ble_eq_true rfl⟩ ⟨Nat.le_refl _, Nat.le_refl _⟩ rfl (Nat.le_of_ble_eq_true rfl) dX8_worth_163 rfl ?_
  rintro z163 F163 A163 ⟨ez163, V163, hS163, v163, k163, g163⟩
  obtain rfl := ez163.symm
  replace hS163 : St 403 V163 F163 A163 := hS163
  have t163_r0 : tr V163 59 = (r 0) := (tr_keep (by decide) k163).trans t142_r0
  have t163_r1 : tr V163 70 = (r 1) := (tr_keep (by decide) k163).trans t142_r1
  have t163_r2 : tr V163 81 = (r 2) := (tr_keep (by decide) k163).trans t142_r2
  have t163_r4 : tr V163 154 = (r 4) := (tr_keep (by decide) k163).trans t142_r4
  have t163_r5 : tr V163 165 = (r 5) := (tr_keep (by decide) k163).trans t142_r5
  have t163_r6 : tr V163 176 = (r 6) := (tr_keep (by decide) k163).trans t142_r6
  have t163_r8 : tr V163 249 = (r 8) := (tr_keep (by decide) k163).trans t142_r8
  have t163_r9 : tr V163 260 = (r 9) := (tr_keep (by decide) k163).trans t142_r9
  have t163_r10 : tr V163 271 = (r 10) := (tr_keep (by decide) k163).trans t142_r10
  have t163_wj26 : tr V163 293 = wj26 := (tr_keep (by decide) k163).trans t142_wj26
  have t163_wj47 : tr V163 304 = wj47 := (tr_keep (by decide) k163).trans t142_wj47
  have t163_wj50 : tr V163 319 = wj50 := (tr_keep (by decide) k163).trans t142_wj50
  have t163_wj53 : tr V163 330 = wj53 := (tr_keep (by decide) k163).trans t142_wj53
  have t163_wj84 : tr V163 341 = wj84 := (tr_keep (by decide) k163).trans t142_wj84
  have t163_wj105 : tr V163 352 = wj105 := (tr_keep (by decide) k163).trans t142_wj105
  have t163_wj108 : tr V163 367 = wj108 := (tr_keep (by decide) k163).trans t142_wj108
  have t163_wj111 : tr V163 378 = wj111 := (tr_keep (by decide) k163).trans t142_wj111
  have t163_wj142 : tr V163 389 = wj142 := (tr_keep (by decide) k163).trans uwj142
  rw [show (392 : Int) + 8 = 400 from rfl]
  obtain ⟨wj163, ewj163⟩ : ∃ w : T3, w = tmul (r 5) (r 8) := ⟨_, rfl⟩
  have uwj163 : tr V163 400 = wj163 := by rw [ewj163]; exact v163
  have bwj163 : bdt 103 4 wj163 := by rw [ewj163]; exact (bdt_mul (hrw 5 (by decide)).2.2 (hrw 8 (by decide)).2.2 (by decide) (by decide))
  clear v163
  refine x_cVi (pc2 := 169) (ci := 8) hC hK (t_sub l hM hS163 (x := 389) (y := 400) ⟨by decide, by decide⟩ ⟨by decide, by decide⟩ t163_wj142 uwj163 bwj142 bwj163 (by decide) ⟨by decide, by decide, by decide⟩) lk_1012 rfl rfl (by decide) (by assumption) (by assumption) ⟨Nat.le_of_ble_eq_true rfl, Nat.le_of_ble_eq_true rfl⟩ ⟨Nat.le_refl _, Nat.le_refl _⟩ rfl (Nat.le_of_ble_eq_true rfl) dX8_worth_166 rfl ?_
  rintro z166 F166 A166 ⟨ez166, V166, hS166, v166, k166, g166⟩
  obtain rfl := ez166.symm
  replace hS166 : St 418 V166 F166 A166 := hS166
  have t166_r0 : tr V166 59 = (r 0) := (tr_keep (by decide) k166).trans t163_r0
  have t166_r1 : tr V166 70 = (r 1) := (tr_keep (by decide) k166).trans t163_r1
  have t166_r2 : tr V166 81 = (r 2) := (tr_keep (by decide) k166).trans t163_r2
  have t166_r4 : tr V166 154 = (r 4) := (tr_keep (by decide) k166).trans t163_r4
  have t166_r5 : tr V166 165 = (r 5) := (tr_keep (by decide) k166).trans t163_r5
  have t166_r6 : tr V166 176 = (r 6) := (tr_keep (by decide) k166).trans t163_r6
  have t166_r8 : tr V166 249 = (r 8) := (tr_keep (by decide) k166).trans t163_r8
  have t166_r9 : tr V166 260 = (r 9) := (tr_keep (by decide) k166).trans t163_r9
  have t166_r10 : tr V166 271 = (r 10) := (tr_keep (by decide) k166).trans t163_r10
  have t166_wj26 : tr V166 293 = wj26 := (tr_keep (by decide) k166).trans t163_wj26
  have t166_wj47 : tr V166 304 = wj47 := (tr_keep (by decide) k166).trans t163_wj47
  have t166_wj50 : tr V166 319 = wj50 := (tr_keep (by decide) k166).trans t163_wj50
  have t166_wj53 : tr V166 330 = wj53 := (tr_keep (by decide) k166).trans t163_wj53
  have t166_wj84 : tr V166 341 = wj84 := (tr_keep (by decide) k166).trans t163_wj84
  have t166_wj105 : tr V166 352 = wj105 := (tr_keep (by decide) k166).trans t163_wj105
  have t166_wj108 : tr V166 367 = wj108 := (tr_keep (by decide) k166).trans t163_wj108
  have t166_wj111 : tr V166 378 = wj111 := (tr_keep (by decide) k166).trans t163_wj111
  have t166_wj142 : tr V166 389 = wj142 := (tr_keep (by decide) k166).trans t163_wj142
  have t166_wj163 : tr V166 400 = wj163 := (tr_keep (by decide) k166).trans uwj163
  rw [show (403 : Int) + 12 = 415 from rfl]
  obtain ⟨wj166, ewj166⟩ : ∃ w : T3, w = tadd wj142 (tneg wj163) := ⟨_, rfl⟩
  have uwj166 : tr V166 415 = wj166 := by rw [ewj166]; exact v166
  have bwj166 : bdt 108 8 wj166 := by rw [ewj166]; exact (bdt_add bwj142 (bdt_neg bwj163) (by decide) (by decide) (by decide))
  clear v166
  refine x_cVi (pc2 := 172) (ci := 8) hC hK (t_product l hM hS166 (x := 81) (y := 415) ⟨by decide, by decide⟩ ⟨by decide, by decide⟩ t166_r2 uwj166 (hrw 2 (by decide)).2.2 bwj166 (by decide) ⟨by decide, by decide⟩) lk_1004 rfl rfl (by decide) (by assumption) (by assumption) ⟨Nat.le_of_ble_eq_true rfl, Nat.le_of_ble_eq_true rfl⟩ ⟨Nat.le_refl _, Nat.le_refl _⟩ rfl (Nat.le_of_ble_eq_true rfl) dX8_worth_169 rfl ?_
  rintro z169 F169 A169 ⟨ez169, V169, hS169, v169, k169, g169⟩
  obtain rfl := ez169.symm
  replace hS169 : St 429 V169 F169 A169 := hS169
  have t169_r0 : tr V169 59 = (r 0) := (tr_keep (by decide) k169).trans t166_r0
  have t169_r1 : tr V169 70 = (r 1) := (tr_keep (by decide) k169).trans t166_r1
  have t169_r2 : tr V169 81 = (r 2) := (tr_keep (by decide) k169).trans t166_r2
  have t169_r4 : tr V169 154 = (r 4) := (tr_keep (by decide) k169).trans t166_r4
  have t169_r5 : tr V169 165 = (r 5) := (tr_keep (by decide) k169).trans t166_r5
  have t169_r6 : tr V169 176 = (r 6) := (tr_keep (by decide) k169).trans t166_r6
  have t169_r8 : tr V169 249 = (r 8) := (tr_keep (by decide) k169).trans t166_r8
  have t169_r9 : tr V169 260 = (r 9) := (tr_keep (by decide) k169).trans t166_r9
  have t169_r10 : tr V169 271 = (r 10) := (tr_keep (by decide) k169).trans t166_r10
  have t169_wj26 : tr V169 293 = wj26 := (tr_keep (by decide) k169).trans t166_wj26
  have t169_wj47 : tr V169 304 = wj47 := (tr_keep (by decide) k169).trans t166_wj47
  have t169_wj50 : tr V169 319 = wj50 := (tr_keep (by decide) k169).trans t166_wj50
  have t169_wj53 : tr V169 330 = wj53 := (tr_keep (by decide) k169).trans t166_wj53
  have t169_wj84 : tr V169 341 = wj84 := (tr_keep (by decide) k169).trans t166_wj84
  have t169_wj105 : tr V169 352 = wj105 := (tr_keep (by decide) k169).trans t166_wj105
  have t169_wj108 : tr V169 367 = wj108 := (tr_keep (by decide) k169).trans t166_wj108
  have t169_wj111 : tr V169 378 = wj111 := (tr_keep (by decide) k169).trans t166_wj111
  have t169_wj142 : tr V169 389 = wj142 := (tr_keep (by decide) k169).trans t166_wj142
  have t169_wj163 : tr V169 400 = wj163 := (tr_keep (by decide) k169).trans t166_wj163
  have t169_wj166 : tr V169 415 = wj166 := (tr_keep (by decide) k169).trans uwj166
  rw [show (418 : Int) + 8 = 426 from rfl]
  obtain ⟨wj169, ewj169⟩ : ∃ w : T3, w = tmul (r 2) wj166 := ⟨_, rfl⟩
  have uwj169 : tr V169 426 = wj169 := by rw [ewj169]; exact v169
  have bwj169 : bdt 160 10 wj169 := by rw [ewj169]; exact (bdt_mul (hrw 2 (by decide)).2.2 bwj166 (by decide) (by decide))
  clear v169
  refine x_istore (pc2 := 174) (loc2 := [_, _, _, _, _, _, _]) hC (by decide) rfl dX8_worth_172 rfl ?_
  refine x_aload_n (pc2 := 175) hC rfl rfl dX8_worth_174 rfl ?_
  refine x_aload_n (pc2 := 176) hC rfl rfl dX8_worth_175 rfl ?_
  refine x_iload (pc2 := 178) hC rfl dX8_worth_176 rfl ?_
  refine x_iload (pc2 := 180) hC rfl dX8_worth_178 rfl ?_
  refine x_cVi (pc2 := 183) (ci := 8) hC hK (t_sub l hM hS169 (x := 330) (y := 378) ⟨by decide, by decide⟩ ⟨by decide, by decide⟩ t169_wj53 t169_wj111 bwj53 bwj111 (by decide) ⟨by decide, by decide, by decide⟩) lk_1012 rfl rfl (by decide) (by assumption) (by assumption) ⟨Nat.le_of_ble_eq_true rfl, Nat.le_of_ble_eq_true rfl⟩ ⟨Nat.le_refl _, Nat.le_refl _⟩ rfl (Nat.le_of_ble_eq_true rfl) dX8_worth_180 rfl ?_
  rintro z180 F180 A180 ⟨ez180, V180, hS180, v180, k180, g180⟩
  obtain rfl := ez180.symm
  replace hS180 : St 444 V180 F180 A180 := hS180
  have t180_r0 : tr V180 59 = (r 0) := (tr_keep (by decide) k180).trans t169_r0
  have t180_r1 : tr V180 70 = (r 1) := (tr_keep (by decide) k180).trans t169_r1
  have t180_r2 : tr V180 81 = (r 2) := (tr_keep (by decide) k180).trans t169_r2
  have t180_r4 : tr V180 154 = (r 4) := (tr_keep (by decide) k180).trans t169_r4
  have t180_r5 : tr V180 165 = (r 5) := (tr_keep (by decide) k180).trans t169_r5
  have t180_r6 : tr V180 176 = (r 6) := (tr_keep (by decide) k180).trans t169_r6
  have t180_r8 : tr V180 249 = (r 8) := (tr_keep (by decide) k180).trans t169_r8
  have t180_r9 : tr V180 260 = (r 9) := (tr_keep (by decide) k180).trans t169_r9
  have t180_r10 : tr V180 271 = (r 10) := (tr_keep (by decide) k180).trans t169_r10
  have t180_wj26 : tr V180 293 = wj26 := (tr_keep (by decide) k180).trans t169_wj26
  have t180_wj47 : tr V180 304 = wj47 := (tr_keep (by decide) k180).trans t169_wj47
  have t180_wj50 : tr V180 319 = wj50 := (tr_keep (by decide) k180).trans t169_wj50
  have t180_wj53 : tr V180 330 = wj53 := (tr_keep (by decide) k180).trans t169_wj53
  have t180_wj84 : tr V180 341 = wj84 := (tr_keep (by decide) k180).trans t169_wj84
  have t180_wj105 : tr V180 352 = wj105 := (tr_keep (by decide) k180).trans t169_wj105
  have t180_wj108 : tr V180 367 = wj108 := (tr_keep (by decide) k180).trans t169_wj108
  have t180_wj111 : tr V180 378 = wj111 := (tr_keep (by decide) k180).trans t169_wj111
  have t180_wj142 : tr V180 389 = wj142 := (tr_keep (by decide) k180).trans t169_wj142
  have t180_wj163 : tr V180 400 = wj163 := (tr_keep (by decide) k180).trans t169_wj163
  have t180_wj166 : tr V180 415 = wj166 := (tr_keep (by decide) k180).trans t169_wj166
  have t180_wj169 : tr V180 426 = wj169 := (tr_keep (by decide) k180).trans uwj169
  rw [show (429 : Int) + 12 = 441 from rfl]
  obtain ⟨wj180, ewj180⟩ : ∃ w : T3, w = tadd wj53 (tneg wj111) := ⟨_, rfl⟩
  have uwj180 : tr V180 441 = wj180 := by rw [ewj180]; exact v180
  have bwj180 : bdt 171 20 wj180 := by rw [ewj180]; exact (bdt_add bwj53 (bdt_neg bwj111) (by decide) (by decide) (by decide))
  clear v180
  refine x_iload (pc2 := 185) hC rfl dX8_worth_183 rfl ?_
  refine x_cVi (pc2 := 188) (ci := 8) hC hK (t_added l hM hS180 (x := 441) (y := 426) ⟨by decide, by decide⟩ ⟨by decide, by decide⟩ uwj180 t180_wj169 bwj180 bwj169 (by decide) ⟨by decide, by decide, by decide⟩) lk_1020 rfl rfl (by decide) (by assumption) (by assumption) ⟨Nat.le_of_ble_eq_true rfl, Nat.le_of_ble_eq_true rfl⟩ ⟨Nat.le_refl _, Nat.le_refl _⟩ rfl (Nat.le_of_ble_eq_true rfl) dX8_worth_185 rfl ?_
  rintro z185 F185 A185 ⟨ez185, V185, hS185, v185, k185, g185⟩
  obtain rfl := ez185.symm
  replace hS185 : St 454 V185 F185 A185 := hS185
  have t185_r0 : tr V185 59 = (r 0) := (tr_keep (by decide) k185).trans t180_r0
  have t185_r1 : tr V185 70 = (r 1) := (tr_keep (by decide) k185).trans t180_r1
  have t185_r2 : tr V185 81 = (r 2) := (tr_keep (by decide) k185).trans t180_r2
  have t185_r4 : tr V185 154 = (r 4) := (tr_keep (by decide) k185).trans t180_r4
  have t185_r5 : tr V185 165 = (r 5) := (tr_keep (by decide) k185).trans t180_r5
  have t185_r6 : tr V185 176 = (r 6) := (tr_keep (by decide) k185).trans t180_r6
  have t185_r8 : tr V185 249 = (r 8) := (tr_keep (by decide) k185).trans t180_r8
  have t185_r9 : tr V185 260 = (r 9) := (tr_keep (by decide) k185).trans t180_r9
  have t185_r10 : tr V185 271 = (r 10) := (tr_keep (by decide) k185).trans t180_r10
  have t185_wj26 : tr V185 293 = wj26 := (tr_keep (by decide) k185).trans t180_wj26
  have t185_wj47 : tr V185 304 = wj47 := (tr_keep (by decide) k185).trans t180_wj47
  have t185_wj50 : tr V185 319 = wj50 := (tr_keep (by decide) k185).trans t180_wj50
  have t185_wj53 : tr V185 330 = wj53 := (tr_keep (by decide) k185).trans t180_wj53
  have t185_wj84 : tr V185 341 = wj84 := (tr_keep (by decide) k185).trans t180_wj84
  have t185_wj105 : tr V185 352 = wj105 := (tr_keep (by decide) k185).trans t180_wj105
  have t185_wj108 : tr V185 367 = wj108 := (tr_keep (by decide) k185).trans t180_wj108
  have t185_wj111 : tr V185 378 = wj111 := (tr_keep (by decide) k185).trans t180_wj111
  have t185_wj142 : tr V185 389 = wj142 := (tr_keep (by decide) k185).trans t180_wj142
  have t185_wj163 : tr V185 400 = wj163 := (tr_keep (by decide) k185).trans t180_wj163
  have t185_wj166 : tr V185 415 = wj166 := (tr_keep (by decide) k185).trans t180_wj166
  have t185_wj169 : tr V185 426 = wj169 := (tr_keep (by decide) k185).trans t180_wj169
  have t185_wj180 : tr V185 441 = wj180 := (tr_keep (by decide) k185).trans uwj180
  rw [show (444 : Int) + 7 = 451 from rfl]
  obtain ⟨wj185, ewj185⟩ : ∃ w : T3, w = tadd wj180 wj169 := ⟨_, rfl⟩
  have uwj185 : tr V185 451 = wj185 := by rw [ewj185]; exact v185
  have bwj185 : bdt 182 30 wj185 := by rw [ewj185]; exact (bdt_add bwj180 bwj169 (by decide) (by decide) (by decide))
  clear v185
  exact x_iret hC hr hlk ⟨_, rfl, rfl, V185, hS185, (uwj185).trans (by rw [ewj185, ewj180, ewj53, ewj50, ewj26, ewj47, ewj111, ewj108, ewj84, ewj105, ewj169, ewj166, ewj142, ewj163]; rfl), fun u hu => (k185 u (by omega)).trans ((k180 u (by omega)).trans ((k169 u (by omega)).trans ((k166 u (by omega)).trans ((k163 u (by omega)).trans ((k142 u (by omega)).trans ((k111 u (by omega)).trans ((k108 u (by omega)).trans ((k105 u (by omega)).trans ((k84 u (by omega)).trans ((k53 u (by omega)).trans ((k50 u (by omega)).trans ((k47 u (by omega)).trans (k26 u hu))))))))))))), (((((((((((((g26.tr g47).tr g50).tr g53).tr g84).tr g105).tr g108).tr g111).tr g142).tr g163).tr g166).tr g169).tr g180).tr g185)⟩ dX8_worth_188
set_option maxHeartbeats 16000000 in
theorem t_worth312_454 (l : Launch) {D : va_G} {ids : Nat → ClassId} {β : Nat} {sh : Nat → Nat × Nat} {N : Nat} {R : Nat → Nat → Option Nat} {F : Nat → Nat → Int} {A : Nat → Int → Int} {S : SP} (hM : MoL sh R N) (hR0 : RepM S F A) {V : Int → Int} {r : Nat → T3} (hS : St 454 V F A) (hrw : RowsT A V r) : MetX l yX8_worth cX8_worth 7 (some (.int)) 5 113 D ids β sh N R F A [rf 0, pI 3, pI 1, pI 2] (pIr (Tq 166 F A 454 V (wrT r 3 1 2))) := by
  refine MetX.of (loc := [_, _, _, _, _, _, _]) (plainFor_of_name (by decide +kernel)) (Nat.le_of_ble_eq_true rfl) rfl ?_
  intro p e s m args below meth c hC hK hr hlk
  obtain ⟨⟨m0, m1⟩, ⟨rx0, r2, r3, r7, r8, r9, r11, r12, r13, r16, r18⟩, ⟨m2, m3⟩, ⟨m4, m5⟩, ⟨m6, m7⟩, ⟨m8, m9⟩, ⟨m10, m11⟩, ⟨m12, m13⟩, ⟨m14, m15⟩, ⟨m16, m17⟩, ⟨m18, m19⟩, ⟨m20, m21⟩, ⟨m22, m23⟩⟩ := id hM
  obtain ⟨hi, b1, b2, b3, b4, b5, b6, b7, b8⟩ := id hR0
  have i1 := hi.1
  refine x_aload_n (pc2 := 1) hC rfl rfl dX8_worth_0 rfl ?_
  refine x_aload_n (pc2 := 2) hC rfl rfl dX8_worth_1 rfl ?_
  refine g_827 (pc2 := 5) hC hK (by assumption) (by assumption) (by assumption) dX8_worth_2 rfl ?_
  refine x_iload_n (pc2 := 6) hC rfl rfl dX8_worth_5 rfl ?_
  refine x_iald (pc2 := 7) hC hK (by assumption) (by assumption) (by omega) (by decide) dX8_worth_6 rfl ?_
  rw [show A 11 (3) = 92 from (hrw 3 (by decide)).1]
  refine x_aload_n (pc2 := 8) hC rfl rfl dX8_worth_7 rfl ?_
  refine x_aload_n (pc2 := 9) hC rfl rfl dX8_worth_8 rfl ?_
  refine x_aload_n (pc2 := 10) hC rfl rfl dX8_worth_9 rfl ?_
  refine g_827 (pc2 := 13) hC hK (by assumption) (by assumption) (by assumption) dX8_worth_10 rfl ?_
  refine x_iconst (pc2 := 14) hC dX8_worth_13 rfl ?_
  refine x_iload_n (pc2 := 15) hC rfl rfl dX8_worth_14 rfl ?_
  refine x_iadd (pc2 := 16) hC dX8_worth_15 rfl ?_
  refine x_iald (pc2 := 17) hC hK (by assumption) (by assumption) (by omega) (by decide) dX8_worth_16 rfl ?_
  rw [show A 11 (4 + 1) = 165 from (hrw 5 (by decide)).1]
  refine x_aload_n (pc2 := 18) hC rfl rfl dX8_worth_17 rfl ?_
  refine g_827 (pc2 := 21) hC hK (by assumption) (by assumption) (by assumption) dX8_worth_18 rfl ?_
  refine x_bipush (pc2 := 23) hC rfl dX8_worth_21 rfl ?_
  refine x_iload_n (pc2 := 24) hC rfl rfl dX8_worth_23 rfl ?_
  refine x_iadd (pc2 := 25) hC dX8_worth_24 rfl ?_
  refine x_iald (pc2 := 26) hC hK (by assumption) (by assumption) (by omega) (by decide) dX8_worth_25 rfl ?_
  rw [show A 11 (8 + 2) = 271 from (hrw 10 (by decide)).1]
  refine x_cVi (pc2 := 29) (ci := 8) hC hK (t_product l hM hS (x := 165) (y := 271) ⟨by decide, by decide⟩ ⟨by decide, by decide⟩ (show tr V 165 = r 5 from (hrw 5 (by decide)).2.1) (show tr V 271 = r 10 from (hrw 10 (by decide)).2.1) (hrw 5 (by decide)).2.2 (hrw 10 (by decide)).2.2 (by decide) ⟨by decide, by decide⟩) lk_1004 rfl rfl (by decide) (by assumption) (by assumption) ⟨Nat.le_of_ble_eq_true rfl, Nat.le_of_ble_eq_true rfl⟩ ⟨Nat.le_refl _, Nat.le_refl _⟩ rfl (Nat.le_of_ble_eq_true rfl) dX8_worth_26 rfl ?_
  rintro z26 F26 A26 ⟨ez26, V26, hS26, v26, k26, g26⟩
  obtain rfl := ez26.symm
  replace hS26 : St 465 V26 F26 A26 := hS26
  have t26_r1 : tr V26 70 = (r 1) := (tr_keep (by decide) k26).trans (show tr V 70 = r 1 from (hrw 1 (by decide)).2.1)
  have t26_r2 : tr V26 81 = (r 2) := (tr_keep (by decide) k26).trans (show tr V 81 = r 2 from (hrw 2 (by decide)).2.1)
  have t26_r3 : tr V26 92 = (r 3) := (tr_keep (by decide) k26).trans (show tr V 92 = r 3 from (hrw 3 (by decide)).2.1)
  have t26_r5 : tr V26 165 = (r 5) := (tr_keep (by decide) k26).trans (show tr V 165 = r 5 from (hrw 5 (by decide)).2.1)
  have t26_r6 : tr V26 176 = (r 6) := (tr_keep (by decide) k26).trans (show tr V 176 = r 6 from (hrw 6 (by decide)).2.1)
  have t26_r7 : tr V26 187 = (r 7) := (tr_keep (by decide) k26).trans (show tr V 187 = r 7 from (hrw 7 (by decide)).2.1)
  have t26_r9 : tr V26 260 = (r 9) := (tr_keep (by decide) k26).trans (show tr V 260 = r 9 from (hrw 9 (by decide)).2.1)
  have t26_r10 : tr V26 271 = (r 10) := (tr_keep (by decide) k26).trans (show tr V 271 = r 10 from (hrw 10 (by decide)).2.1)
  have t26_r11 : tr V26 282 = (r 11) := (tr_keep (by decide) k26).trans (show tr V 282 = r 11 from (hrw 11 (by decide)).2.1)
  rw [show (454 : Int) + 8 = 462 from rfl]
  obtain ⟨wj26, ewj26⟩ : ∃ w : T3, w = tmul (r 5) (r 10) := ⟨_, rfl⟩
  have uwj26 : tr V26 462 = wj26 := by rw [ewj26]; exact v26
  have bwj26 : bdt 103 4 wj26 := by rw [ewj26]; exact (bdt_mul (hrw 5 (by decide)).2.2 (hrw 10 (by decide)).2.2 (by decide) (by decide))
  clear v26
  refine x_aload_n (pc2 := 30) hC rfl rfl dX8_worth_29 rfl ?_
  refine x_aload_n (pc2 := 31) hC rfl rfl dX8_worth_30 rfl ?_
  refine g_827 (pc2 := 34) hC hK (by assumption) (by assumption) (by assumption) dX8_worth_31 rfl ?_
  refine x_iconst (pc2 := 35) hC dX8_worth_34 rfl ?_
  refine x_iload_n (pc2 := 36) hC rfl rfl dX8_worth_35 rfl ?_
  refine x_iadd (pc2 := 37) hC dX8_worth_36 rfl ?_
  refine x_iald (pc2 := 38) hC hK (by assumption) (by assumption) (by omega) (by decide) dX8_worth_37 rfl ?_
  rw [show A26 11 (4 + 2) = 176 from (congrFun (g26.a (show 11 = 1 ∨ 11 = 2 ∨ 11 = 3 ∨ 11 = 10 ∨ 11 = 11 by decide)) _).trans (hrw 6 (by decide)).1]
  refine x_aload_n (pc2 := 39) hC rfl rfl dX8_worth_38 rfl ?_
  refine g_827 (pc2 := 42) hC hK (by assumption) (by assumption) (by assumption) dX8_worth_39 rfl ?_
  refine x_bipush (pc2 := 44) hC rfl dX8_worth_42 rfl ?_
  refine x_iload_n (pc2 := 45) hC rfl rfl dX8_worth_44 rfl ?_
  refine x_iadd (pc2 := 46) hC dX8_worth_45 rfl ?_
  refine x_iald (pc2 := 47) hC hK (by assumption) (by assumption) (by omega) (by decide) dX8_worth_46 rfl ?_
  rw [show A26 11 (8 + 1) = 260 from (congrFun (g26.a (show 11 = 1 ∨ 11 = 2 ∨ 11 = 3 ∨ 11 = 10 ∨ 11 = 11 by decide)) _).trans (hrw 9 (by decide)).1]
  refine x_cVi (pc2 := 50) (ci := 8) hC hK (t_product l hM hS26 (x := 176) (y := 260) ⟨by decide, by decide⟩ ⟨by decide, by decide⟩ t26_r6 t26_r9 (hrw 6 (by decide)).2.2 (hrw 9 (by decide)).2.2 (by decide) ⟨by decide, by decide⟩) lk_1004 rfl rfl (by decide) (by assumption) (by assumption) ⟨Nat.le_of_ble_eq_true rfl, Nat.le_of_ble_eq_true rfl⟩ ⟨Nat.le_refl _, Nat.le_refl _⟩ rfl (Nat.le_of_ble_eq_true rfl) dX8_worth_47 rfl ?_
  rintro z47 F47 A47 ⟨ez47, V47, hS47, v47, k47, g47⟩
  obtain rfl := ez47.symm
  replace hS47 : St 476 V47 F47 A47 := hS47
  have t47_r1 : tr V47 70 = (r 1) := (tr_keep (by decide) k47).trans t26_r1
  have t47_r2 : tr V47 81 = (r 2) := (tr_keep (by decide) k47).trans t26_r2
  have t47_r3 : tr V47 92 = (r 3) := (tr_keep (by decide) k47).trans t26_r3
  have t47_r5 : tr V47 165 = (r 5) := (tr_keep (by decide) k47).trans t26_r5
  have t47_r6 : tr V47 176 = (r 6) := (tr_keep (by decide) k47).trans t26_r6
  have t47_r7 : tr V47 187 = (r 7) := (tr_keep (by decide) k47).trans t26_r7
  have t47_r9 : tr V47 260 = (r 9) := (tr_keep (by decide) k47).trans t26_r9
  have t47_r10 : tr V47 271 = (r 10) := (tr_keep (by decide) k47).trans t26_r10
  have t47_r11 : tr V47 282 = (r 11) := (tr_keep (by decide) k47).trans t26_r11
  have t47_wj26 : tr V47 462 = wj26 := (tr_keep (by decide) k47).trans uwj26
  rw [show (465 : Int) + 8 = 473 from rfl]
  obtain ⟨wj47, ewj47⟩ : ∃ w : T3, w = tmul (r 6) (r 9) := ⟨_, rfl⟩
  have uwj47 : tr V47 473 = wj47 := by rw [ewj47]; exact v47
  have bwj47 : bdt 103 4 wj47 := by rw [ewj47]; exact (bdt_mul (hrw 6 (by decide)).2.2 (hrw 9 (by decide)).2.2 (by decide) (by decide))
  clear v47
  refine x_cVi (pc2 := 53) (ci := 8) hC hK (t_sub l hM hS47 (x := 462) (y := 473) ⟨by decide, by decide⟩ ⟨by decide, by decide⟩ t47_wj26 uwj47 bwj26 bwj47 (by decide) ⟨by decide, by decide, by decide⟩) lk_1012 rfl rfl (by decide) (by assumption) (by assumption) ⟨Nat.le_of_ble_eq_true rfl, Nat.le_of_ble_eq_true rfl⟩ ⟨Nat.le_refl _, Nat.le_refl _⟩ rfl (Nat.le_of_ble_eq_true rfl) dX8_worth_50 rfl ?_
  rintro z50 F50 A50 ⟨ez50, V50, hS50, v50, k50, g50⟩
  obtain rfl := ez50.symm
  replace hS50 : St 491 V50 F50 A50 := hS50
  have t50_r1 : tr V50 70 = (r 1) := (tr_keep (by decide) k50).trans t47_r1
  have t50_r2 : tr V50 81 = (r 2) := (tr_keep (by decide) k50).trans t47_r2
  have t50_r3 : tr V50 92 = (r 3) := (tr_keep (by decide) k50).trans t47_r3
  have t50_r5 : tr V50 165 = (r 5) := (tr_keep (by decide) k50).trans t47_r5
  have t50_r6 : tr V50 176 = (r 6) := (tr_keep (by decide) k50).trans t47_r6
  have t50_r7 : tr V50 187 = (r 7) := (tr_keep (by decide) k50).trans t47_r7
  have t50_r9 : tr V50 260 = (r 9) := (tr_keep (by decide) k50).trans t47_r9
  have t50_r10 : tr V50 271 = (r 10) := (tr_keep (by decide) k50).trans t47_r10
  have t50_r11 : tr V50 282 = (r 11) := (tr_keep (by decide) k50).trans t47_r11
  have t50_wj26 : tr V50 462 = wj26 := (tr_keep (by decide) k50).trans t47_wj26
  have t50_wj47 : tr V50 473 = wj47 := (tr_keep (by decide) k50).trans uwj47
  rw [show (476 : Int) + 12 = 488 from rfl]
  obtain ⟨wj50, ewj50⟩ : ∃ w : T3, w = tadd wj26 (tneg wj47) := ⟨_, rfl⟩
  have uwj50 : tr V50 488 = wj50 := by rw [ewj50]; exact v50
  have bwj50 : bdt 108 8 wj50 := by rw [ewj50]; exact (bdt_add bwj26 (bdt_neg bwj47) (by decide) (by decide) (by decide))
  clear v50
  refine x_cVi (pc2 := 56) (ci := 8) hC hK (t_product l hM hS50 (x := 92) (y := 488) ⟨by decide, by decide⟩ ⟨by decide, by decide⟩ t50_r3 uwj50 (hrw 3 (by decide)).2.2 bwj50 (by decide) ⟨by decide, by decide⟩) lk_1004 rfl rfl (by decide) (by assumption) (by assumption) ⟨Nat.le_of_ble_eq_true rfl, Nat.le_of_ble_eq_true rfl⟩ ⟨Nat.le_refl _, Nat.le_refl _⟩ rfl (Nat.le_of_ble_eq_true rfl) dX8_worth_53 rfl ?_
  rintro z53 F53 A53 ⟨ez53, V53, hS53, v53, k53, g53⟩
  obtain rfl := ez53.symm
  replace hS53 : St 502 V53 F53 A53 := hS53
  have t53_r1 : tr V53 70 = (r 1) := (tr_keep (by decide) k53).trans t50_r1
  have t53_r2 : tr V53 81 = (r 2) := (tr_keep (by decide) k53).trans t50_r2
  have t53_r3 : tr V53 92 = (r 3) := (tr_keep (by decide) k53).trans t50_r3
  have t53_r5 : tr V53 165 = (r 5) := (tr_keep (by decide) k53).trans t50_r5
  have t53_r6 : tr V53 176 = (r 6) := (tr_keep (by decide) k53).trans t50_r6
  have t53_r7 : tr V53 187 = (r 7) := (tr_keep (by decide) k53).trans t50_r7
  have t53_r9 : tr V53 260 = (r 9) := (tr_keep (by decide) k53).trans t50_r9
  have t53_r10 : tr V53 271 = (r 10) := (tr_keep (by decide) k53).trans t50_r10
  have t53_r11 : tr V53 282 = (r 11) := (tr_keep (by decide) k53).trans t50_r11
  have t53_wj26 : tr V53 462 = wj26 := (tr_keep (by decide) k53).trans t50_wj26
  have t53_wj47 : tr V53 473 = wj47 := (tr_keep (by decide) k53).trans t50_wj47
  have t53_wj50 : tr V53 488 = wj50 := (tr_keep (by decide) k53).trans uwj50
  rw [show (491 : Int) + 8 = 499 from rfl]
  obtain ⟨wj53, ewj53⟩ : ∃ w : T3, w = tmul (r 3) wj50 := ⟨_, rfl⟩
  have uwj53 : tr V53 499 = wj53 := by rw [ewj53]; exact v53
  have bwj53 : bdt 160 10 wj53 := by rw [ewj53]; exact (bdt_mul (hrw 3 (by decide)).2.2 bwj50 (by decide) (by decide))
  clear v53
  refine x_istore (pc2 := 58) (loc2 := [_, _, _, _, _, _, _]) hC (by decide) rfl dX8_worth_56 rfl ?_
  refine x_aload_n (pc2 := 59) hC rfl rfl dX8_worth_58 rfl ?_
  refine x_aload_n (pc2 := 60) hC rfl rfl dX8_worth_59 rfl ?_
  refine g_827 (pc2 := 63) hC hK (by assumption) (by assumption) (by assumption) dX8_worth_60 rfl ?_
  refine x_iload_n (pc2 := 64) hC rfl rfl dX8_worth_63 rfl ?_
  refine x_iald (pc2 := 65) hC hK (by assumption) (by assumption) (by omega) (by decide) dX8_worth_64 rfl ?_
  rw [show A53 11 (1) = 70 from (congrFun ((((g26.tr g47).tr g50).tr g53).a (show 11 = 1 ∨ 11 = 2 ∨ 11 = 3 ∨ 11 = 10 ∨ 11 = 11 by decide)) _).trans (hrw 1 (by decide)).1]
  refine x_aload_n (pc2 := 66) hC rfl rfl dX8_worth_65 rfl ?_
  refine x_aload_n (pc2 := 67) hC rfl rfl dX8_worth_66 rfl ?_
  refine x_aload_n (pc2 := 68) hC rfl rfl dX8_worth_67 rfl ?_
  refine g_827 (pc2 := 71) hC hK (by assumption) (by assumption) (by assumption) dX8_worth_68 rfl ?_
  refine x_iconst (pc2 := 72) hC dX8_worth_71 rfl ?_
  refine x_iload_n (pc2 := 73) hC rfl rfl dX8_worth_72 rfl ?_
  refine x_iadd (pc2 := 74) hC dX8_worth_73 rfl ?_
  refine x_iald (pc2 := 75) hC hK (by assumption) (by assumption) (by omega) (by decide) dX8_worth_74 rfl ?_
  rw [show A53 11 (4 + 3) = 187 from (congrFun ((((g26.tr g47).tr g50).tr g53).a (show 11 = 1 ∨ 11 = 2 ∨ 11 = 3 ∨ 11 = 10 ∨ 11 = 11 by decide)) _).trans (hrw 7 (by decide)).1]
  refine x_aload_n (pc2 := 76) hC rfl rfl dX8_worth_75 rfl ?_
  refine g_827 (pc2 := 79) hC hK (by assumption) (by assumption) (by assumption) dX8_worth_76 rfl ?_
  refine x_bipush (pc2 := 81) hC rfl dX8_worth_79 rfl ?_
  refine x_iload_n (pc2 := 82) hC rfl rfl dX8_worth_81 rfl ?_
  refine x_iadd (pc2 := 83) hC dX8_worth_82 rfl ?_
  refine x_iald (pc2 := 84) hC hK (by assumption) (by assumption) (by omega) (by decide) dX8_worth_83 rfl ?_
  rw [show A53 11 (8 + 2) = 271 from (congrFun ((((g26.tr g47).tr g50).tr g53).a (show 11 = 1 ∨ 11 = 2 ∨ 11 = 3 ∨ 11 = 10 ∨ 11 = 11 by decide)) _).trans (hrw 10 (by decide)).1]
  refine x_cVi (pc2 := 87) (ci := 8) hC hK (t_product l hM hS53 (x := 187) (y := 271) ⟨by decide, by decide⟩ ⟨by decide, by decide⟩ t53_r7 t53_r10 (hrw 7 (by decide)).2.2 (hrw 10 (by decide)).2.2 (by decide) ⟨by decide, by decide⟩) lk_1004 rfl rfl (by decide) (by assumption) (by assumption) ⟨Nat.le_of_ble_eq_true rfl, Nat.le_of_ble_eq_true rfl⟩ ⟨Nat.le_refl _, Nat.le_refl _⟩ rfl (Nat.le_of_ble_eq_true rfl) dX8_worth_84 rfl ?_
  rintro z84 F84 A84 ⟨ez84, V84, hS84, v84, k84, g84⟩
  obtain rfl := ez84.symm
  replace hS84 : St 513 V84 F84 A84 := hS84
  have t84_r1 : tr V84 70 = (r 1) := (tr_keep (by decide) k84).trans t53_r1
  have t84_r2 : tr V84 81 = (r 2) := (tr_keep (by decide) k84).trans t53_r2
  have t84_r3 : tr V84 92 = (r 3) := (tr_keep (by decide) k84).trans t53_r3
  have t84_r5 : tr V84 165 = (r 5) := (tr_keep (by decide) k84).trans t53_r5
  have t84_r6 : tr V84 176 = (r 6) := (tr_keep (by decide) k84).trans t53_r6
  have t84_r7 : tr V84 187 = (r 7) := (tr_keep (by decide) k84).trans t53_r7
  have t84_r9 : tr V84 260 = (r 9) := (tr_keep (by decide) k84).trans t53_r9
  have t84_r10 : tr V84 271 = (r 10) := (tr_keep (by decide) k84).trans t53_r10
  have t84_r11 : tr V84 282 = (r 11) := (tr_keep (by decide) k84).trans t53_r11
  have t84_wj26 : tr V84 462 = wj26 := (tr_keep (by decide) k84).trans t53_wj26
  have t84_wj47 : tr V84 473 = wj47 := (tr_keep (by decide) k84).trans t53_wj47
  have t84_wj50 : tr V84 488 = wj50 := (tr_keep (by decide) k84).trans t53_wj50
  have t84_wj53 : tr V84 499 = wj53 := (tr_keep (by decide) k84).trans uwj53
  rw [show (502 : Int) + 8 = 510 from rfl]
  obtain ⟨wj84, ewj84⟩ : ∃ w : T3, w = tmul (r 7) (r 10) := ⟨_, rfl⟩
  have uwj84 : tr V84 510 = wj84 := by rw [ewj84]; exact v84
  have bwj84 : bdt 103 4 wj84 := by rw [ewj84]; exact (bdt_mul (hrw 7 (by decide)).2.2 (hrw 10 (by decide)).2.2 (by decide) (by decide))
  clear v84
  refine x_aload_n (pc2 := 88) hC rfl rfl dX8_worth_87 rfl ?_
  refine x_aload_n (pc2 := 89) hC rfl rfl dX8_worth_88 rfl ?_
  refine g_827 (pc2 := 92) hC hK (by assumption) (by assumption) (by assumption) dX8_worth_89 rfl ?_
  refine x_iconst (pc2 := 93) hC dX8_worth_92 rfl ?_
  refine x_iload_n (pc2 := 94) hC rfl rfl dX8_worth_93 rfl ?_
  refine x_iadd (pc2 := 95) hC dX8_worth_94 rfl ?_
  refine x_iald (pc2 := 96) hC hK (by assumption) (by assumption) (by omega) (by decide) dX8_worth_95 rfl ?_
  rw [show A84 11 (4 + 2) = 176 from (congrFun (((((g26.tr g47).tr g50).tr g53).tr g84).a (show 11 = 1 ∨ 11 = 2 ∨ 11 = 3 ∨ 11 = 10 ∨ 11 = 11 by decide)) _).trans (hrw 6 (by decide)).1]
  refine x_aload_n (pc2 := 97) hC rfl rfl dX8_worth_96 rfl ?_
  refine g_827 (pc2 := 100) hC hK (by assumption) (by assumption) (by assumption) dX8_worth_97 rfl ?_
  refine x_bipush (pc2 := 102) hC rfl dX8_worth_100 rfl ?_
  refine x_iload_n (pc2 := 103) hC rfl rfl dX8_worth_102 rfl ?_
  refine x_iadd (pc2 := 104) hC dX8_worth_103 rfl ?_
  refine x_iald (pc2 := 105) hC hK (by assumption) (by assumption) (by omega) (by decide) dX8_worth_104 rfl ?_
  rw [show A84 11 (8 + 3) = 282 from (congrFun (((((g26.tr g47).tr g50).tr g53).tr g84).a (show 11 = 1 ∨ 11 = 2 ∨ 11 = 3 ∨ 11 = 10 ∨ 11 = 11 by decide)) _).trans (hrw 11 (by decide)).1]
  refine x_cVi (pc2 := 108) (ci := 8) hC hK (t_product l hM hS84 (x := 176) (y := 282) ⟨by decide, by decide⟩ ⟨by decide, by decide⟩ t84_r6 t84_r11 (hrw 6 (by decide)).2.2 (hrw 11 (by decide)).2.2 (by decide) ⟨by decide, by decide⟩) lk_1004 rfl rfl (by decide) (by assumption) (by assumption) ⟨Nat.le_of_ble_eq_true rfl, Nat.le_of_ble_eq_true rfl⟩ ⟨Nat.le_refl _, Nat.le_refl _⟩ rfl (Nat.le_of_ble_eq_true rfl) dX8_worth_105 rfl ?_
  rintro z105 F105 A105 ⟨ez105, V105, hS105, v105, k105, g105⟩
  obtain rfl := ez105.symm
  replace hS105 : St 524 V105 F105 A105 := hS105
  have t105_r1 : tr V105 70 = (r 1) := (tr_keep (by decide) k105).trans t84_r1
  have t105_r2 : tr V105 81 = (r 2) := (tr_keep (by decide) k105).trans t84_r2
  have t105_r3 : tr V105 92 = (r 3) := (tr_keep (by decide) k105).trans t84_r3
  have t105_r5 : tr V105 165 = (r 5) := (tr_keep (by decide) k105).trans t84_r5
  have t105_r6 : tr V105 176 = (r 6) := (tr_keep (by decide) k105).trans t84_r6
  have t105_r7 : tr V105 187 = (r 7) := (tr_keep (by decide) k105).trans t84_r7
  have t105_r9 : tr V105 260 = (r 9) := (tr_keep (by decide) k105).trans t84_r9
  have t105_r10 : tr V105 271 = (r 10) := (tr_keep (by decide) k105).trans t84_r10
  have t105_r11 : tr V105 282 = (r 11) := (tr_keep (by decide) k105).trans t84_r11
  have t105_wj26 : tr V105 462 = wj26 := (tr_keep (by decide) k105).trans t84_wj26
  have t105_wj47 : tr V105 473 = wj47 := (tr_keep (by decide) k105).trans t84_wj47
  have t105_wj50 : tr V105 488 = wj50 := (tr_keep (by decide) k105).trans t84_wj50
  have t105_wj53 : tr V105 499 = wj53 := (tr_keep (by decide) k105).trans t84_wj53
  have t105_wj84 : tr V105 510 = wj84 := (tr_keep (by decide) k105).trans uwj84
  rw [show (513 : Int) + 8 = 521 from rfl]
  obtain ⟨wj105, ewj105⟩ : ∃ w : T3, w = tmul (r 6) (r 11) := ⟨_, rfl⟩
  have uwj105 : tr V105 521 = wj105 := by rw [ewj105]; exact v105
  have bwj105 : bdt 103 4 wj105 := by rw [ewj105]; exact (bdt_mul (hrw 6 (by decide)).2.2 (hrw 11 (by decide)).2.2 (by decide) (by decide))
  clear v105
  refine x_cVi (pc2 := 111) (ci := 8) hC hK (t_sub l hM hS105 (x := 510) (y := 521) ⟨by decide, by decide⟩ ⟨by decide, by decide⟩ t105_wj84 uwj105 bwj84 bwj105 (by decide) ⟨by decide, by decide, by decide⟩) lk_1012 rfl rfl (by decide) (by assumption) (by assumption) ⟨Nat.le_of_ble_eq_true rfl, Nat.le_of_ble_eq_true rfl⟩ ⟨Nat.le_refl _, Nat.le_refl _⟩ rfl (Nat.le_of_ble_eq_true rfl) dX8_worth_108 rfl ?_
  rintro z108 F108 A108 ⟨ez108, V108, hS108, v108, k108, g108⟩
  obtain rfl := ez108.symm
  replace hS108 : St 539 V108 F108 A108 := hS108
  have t108_r1 : tr V108 70 = (r 1) := (tr_keep (by decide) k108).trans t105_r1
  have t108_r2 : tr V108 81 = (r 2) := (tr_keep (by decide) k108).trans t105_r2
  have t108_r3 : tr V108 92 = (r 3) := (tr_keep (by decide) k108).trans t105_r3
  have t108_r5 : tr V108 165 = (r 5) := (tr_keep (by decide) k108).trans t105_r5
  have t108_r6 : tr V108 176 = (r 6) := (tr_keep (by decide) k108).trans t105_r6
  have t108_r7 : tr V108 187 = (r 7) := (tr_keep (by decide) k108).trans t105_r7
  have t108_r9 : tr V108 260 = (r 9) := (tr_keep (by decide) k108).trans t105_r9
  have t108_r10 : tr V108 271 = (r 10) := (tr_keep (by decide) k108).trans t105_r10
  have t108_r11 : tr V108 282 = (r 11) := (tr_keep (by decide) k108).trans t105_r11
  have t108_wj26 : tr V108 462 = wj26 := (tr_keep (by decide) k108).trans t105_wj26
  have t108_wj47 : tr V108 473 = wj47 := (tr_keep (by decide) k108).trans t105_wj47
  have t108_wj50 : tr V108 488 = wj50 := (tr_keep (by decide) k108).trans t105_wj50
  have t108_wj53 : tr V108 499 = wj53 := (tr_keep (by decide) k108).trans t105_wj53
  have t108_wj84 : tr V108 510 = wj84 := (tr_keep (by decide) k108).trans t105_wj84
  have t108_wj105 : tr V108 521 = wj105 := (tr_keep (by decide) k108).trans uwj105
  rw [show (524 : Int) + 12 = 536 from rfl]
  obtain ⟨wj108, ewj108⟩ : ∃ w : T3, w = tadd wj84 (tneg wj105) := ⟨_, rfl⟩
  have uwj108 : tr V108 536 = wj108 := by rw [ewj108]; exact v108
  have bwj108 : bdt 108 8 wj108 := by rw [ewj108]; exact (bdt_add bwj84 (bdt_neg bwj105) (by decide) (by decide) (by decide))
  clear v108
  refine x_cVi (pc2 := 114) (ci := 8) hC hK (t_product l hM hS108 (x := 70) (y := 536) ⟨by decide, by decide⟩ ⟨by decide, by decide⟩ t108_r1 uwj108 (hrw 1 (by decide)).2.2 bwj108 (by decide) ⟨by decide, by decide⟩) lk_1004 rfl rfl (by decide) (by assumption) (by assumption) ⟨Nat.le_of_ble_eq_true rfl, Nat.le_of_ble_eq_true rfl⟩ ⟨Nat.le_refl _, Nat.le_refl _⟩ rfl (Nat.le_of_ble_eq_true rfl) dX8_worth_111 rfl ?_
  rintro z111 F111 A111 ⟨ez111, V111, hS111, v111, k111, g111⟩
  obtain rfl := ez111.symm
  replace hS111 : St 550 V111 F111 A111 := hS111
  have t111_r1 : tr V111 70 = (r 1) := (tr_keep (by decide) k111).trans t108_r1
  have t111_r2 : tr V111 81 = (r 2) := (tr_keep (by decide) k111).trans t108_r2
  have t111_r3 : tr V111 92 = (r 3) := (tr_keep (by decide) k111).trans t108_r3
  have t111_r5 : tr V111 165 = (r 5) := (tr_keep (by decide) k111).trans t108_r5
  have t111_r6 : tr V111 176 = (r 6) := (tr_keep (by decide) k111).trans t108_r6
  have t111_r7 : tr V111 187 = (r 7) := (tr_keep (by decide) k111).trans t108_r7
  have t111_r9 : tr V111 260 = (r 9) := (tr_keep (by decide) k111).trans t108_r9
  have t111_r10 : tr V111 271 = (r 10) := (tr_keep (by decide) k111).trans t108_r10
  have t111_r11 : tr V111 282 = (r 11) := (tr_keep (by decide) k111).trans t108_r11
  have t111_wj26 : tr V111 462 = wj26 := (tr_keep (by decide) k111).trans t108_wj26
  have t111_wj47 : tr V111 473 = wj47 := (tr_keep (by decide) k111).trans t108_wj47
  have t111_wj50 : tr V111 488 = wj50 := (tr_keep (by decide) k111).trans t108_wj50
  have t111_wj53 : tr V111 499 = wj53 := (tr_keep (by decide) k111).trans t108_wj53
  have t111_wj84 : tr V111 510 = wj84 := (tr_keep (by decide) k111).trans t108_wj84
  have t111_wj105 : tr V111 521 = wj105 := (tr_keep (by decide) k111).trans t108_wj105
  have t111_wj108 : tr V111 536 = wj108 := (tr_keep (by decide) k111).trans uwj108
  rw [show (539 : Int) + 8 = 547 from rfl]
  obtain ⟨wj111, ewj111⟩ : ∃ w : T3, w = tmul (r 1) wj108 := ⟨_, rfl⟩
  have uwj111 : tr V111 547 = wj111 := by rw [ewj111]; exact v111
  have bwj111 : bdt 160 10 wj111 := by rw [ewj111]; exact (bdt_mul (hrw 1 (by decide)).2.2 bwj108 (by decide) (by decide))
  clear v111
  refine x_istore (pc2 := 116) (loc2 := [_, _, _, _, _, _, _]) hC (by decide) rfl dX8_worth_114 rfl ?_
  refine x_aload_n (pc2 := 117) hC rfl rfl dX8_worth_116 rfl ?_
  refine x_aload_n (pc2 := 118) hC rfl rfl dX8_worth_117 rfl ?_
  refine g_827 (pc2 := 121) hC hK (by assumption) (by assumption) (by assumption) dX8_worth_118 rfl ?_
  refine x_iload_n (pc2 := 122) hC rfl rfl dX8_worth_121 rfl ?_
  refine x_iald (pc2 := 123) hC hK (by assumption) (by assumption) (by omega) (by decide) dX8_worth_122 rfl ?_
  rw [show A111 11 (2) = 81 from (congrFun ((((((((g26.tr g47).tr g50).tr g53).tr g84).tr g105).tr g108).tr g111).a (show 11 = 1 ∨ 11 = 2 ∨ 11 = 3 ∨ 11 = 10 ∨ 11 = 11 by decide)) _).trans (hrw 2 (by decide)).1]
  refine x_aload_n (pc2 := 124) hC rfl rfl dX8_worth_123 rfl ?_
  refine x_aload_n (pc2 := 125) hC rfl rfl dX8_worth_124 rfl ?_
  refine x_aload_n (pc2 := 126) hC rfl rfl dX8_worth_125 rfl ?_
  refine g_827 (pc2 := 129) hC hK (by assumption) (by assumption) (by assumption) dX8_worth_126 rfl ?_
  refine x_iconst (pc2 := 130) hC dX8_worth_129 rfl ?_
  refine x_iload_n (pc2 := 131) hC rfl rfl dX8_worth_130 rfl ?_
  refine x_iadd (pc2 := 132) hC dX8_worth_131 rfl ?_
  refine x_iald (pc2 := 133) hC hK (by assumption) (by assumption) (by omega) (by decide) dX8_worth_132 rfl ?_
  rw [show A111 11 (4 + 3) = 187 from (congrFun ((((((((g26.tr g47).tr g50).tr g53).tr g84).tr g105).tr g108).tr g111).a (show 11 = 1 ∨ 11 = 2 ∨ 11 = 3 ∨ 11 = 10 ∨ 11 = 11 by decide)) _).trans (hrw 7 (by decide)).1]
  refine x_aload_n (pc2 := 134) hC rfl rfl dX8_worth_133 rfl ?_
  refine g_827 (pc2 := 137) hC hK (by assumption) (by assumption) (by assumption) dX8_worth_134 rfl ?_
  refine x_bipush (pc2 := 139) hC rfl dX8_worth_137 rfl ?_
  refine x_iload_n (pc2 := 140) hC rfl rfl dX8_worth_139 rfl ?_
  refine x_iadd (pc2 := 141) hC dX8_worth_140 rfl ?_
  refine x_iald (pc2 := 142) hC hK (by assumption) (by assumption) (by omega) (by decide) dX8_worth_141 rfl ?_
  rw [show A111 11 (8 + 1) = 260 from (congrFun ((((((((g26.tr g47).tr g50).tr g53).tr g84).tr g105).tr g108).tr g111).a (show 11 = 1 ∨ 11 = 2 ∨ 11 = 3 ∨ 11 = 10 ∨ 11 = 11 by decide)) _).trans (hrw 9 (by decide)).1]
  refine x_cVi (pc2 := 145) (ci := 8) hC hK (t_product l hM hS111 (x := 187) (y := 260) ⟨by decide, by decide⟩ ⟨by decide, by decide⟩ t111_r7 t111_r9 (hrw 7 (by decide)).2.2 (hrw 9 (by decide)).2.2 (by decide) ⟨by decide, by decide⟩) lk_1004 rfl rfl (by decide) (by assumption) (by assumption) ⟨Nat.le_of_ble_eq_true rfl, Nat.le_of_ble_eq_true rfl⟩ ⟨Nat.le_refl _, Nat.le_refl _⟩ rfl (Nat.le_of_ble_eq_true rfl) dX8_worth_142 rfl ?_
  rintro z142 F142 A142 ⟨ez142, V142, hS142, v142, k142, g142⟩
  obtain rfl := ez142.symm
  replace hS142 : St 561 V142 F142 A142 := hS142
  have t142_r1 : tr V142 70 = (r 1) := (tr_keep (by decide) k142).trans t111_r1
  have t142_r2 : tr V142 81 = (r 2) := (tr_keep (by decide) k142).trans t111_r2
  have t142_r3 : tr V142 92 = (r 3) := (tr_keep (by decide) k142).trans t111_r3
  have t142_r5 : tr V142 165 = (r 5) := (tr_keep (by decide) k142).trans t111_r5
  have t142_r6 : tr V142 176 = (r 6) := (tr_keep (by decide) k142).trans t111_r6
  have t142_r7 : tr V142 187 = (r 7) := (tr_keep (by decide) k142).trans t111_r7
  have t142_r9 : tr V142 260 = (r 9) := (tr_keep (by decide) k142).trans t111_r9
  have t142_r10 : tr V142 271 = (r 10) := (tr_keep (by decide) k142).trans t111_r10
  have t142_r11 : tr V142 282 = (r 11) := (tr_keep (by decide) k142).trans t111_r11
  have t142_wj26 : tr V142 462 = wj26 := (tr_keep (by decide) k142).trans t111_wj26
  have t142_wj47 : tr V142 473 = wj47 := (tr_keep (by decide) k142).trans t111_wj47
  have t142_wj50 : tr V142 488 = wj50 := (tr_keep (by decide) k142).trans t111_wj50
  have t142_wj53 : tr V142 499 = wj53 := (tr_keep (by decide) k142).trans t111_wj53
  have t142_wj84 : tr V142 510 = wj84 := (tr_keep (by decide) k142).trans t111_wj84
  have t142_wj105 : tr V142 521 = wj105 := (tr_keep (by decide) k142).trans t111_wj105
  have t142_wj108 : tr V142 536 = wj108 := (tr_keep (by decide) k142).trans t111_wj108
  have t142_wj111 : tr V142 547 = wj111 := (tr_keep (by decide) k142).trans uwj111
  rw [show (550 : Int) + 8 = 558 from rfl]
  obtain ⟨wj142, ewj142⟩ : ∃ w : T3, w = tmul (r 7) (r 9) := ⟨_, rfl⟩
  have uwj142 : tr V142 558 = wj142 := by rw [ewj142]; exact v142
  have bwj142 : bdt 103 4 wj142 := by rw [ewj142]; exact (bdt_mul (hrw 7 (by decide)).2.2 (hrw 9 (by decide)).2.2 (by decide) (by decide))
  clear v142
  refine x_aload_n (pc2 := 146) hC rfl rfl dX8_worth_145 rfl ?_
  refine x_aload_n (pc2 := 147) hC rfl rfl dX8_worth_146 rfl ?_
  refine g_827 (pc2 := 150) hC hK (by assumption) (by assumption) (by assumption) dX8_worth_147 rfl ?_
  refine x_iconst (pc2 := 151) hC dX8_worth_150 rfl ?_
  refine x_iload_n (pc2 := 152) hC rfl rfl dX8_worth_151 rfl ?_
  refine x_iadd (pc2 := 153) hC dX8_worth_152 rfl ?_
  refine x_iald (pc2 := 154) hC hK (by assumption) (by assumption) (by omega) (by decide) dX8_worth_153 rfl ?_
  rw [show A142 11 (4 + 1) = 165 from (congrFun (((((((((g26.tr g47).tr g50).tr g53).tr g84).tr g105).tr g108).tr g111).tr g142).a (show 11 = 1 ∨ 11 = 2 ∨ 11 = 3 ∨ 11 = 10 ∨ 11 = 11 by decide)) _).trans (hrw 5 (by decide)).1]
  refine x_aload_n (pc2 := 155) hC rfl rfl dX8_worth_154 rfl ?_
  refine g_827 (pc2 := 158) hC hK (by assumption) (by assumption) (by assumption) dX8_worth_155 rfl ?_
  refine x_bipush (pc2 := 160) hC rfl dX8_worth_158 rfl ?_
  refine x_iload_n (pc2 := 161) hC rfl rfl dX8_worth_160 rfl ?_
  refine x_iadd (pc2 := 162) hC dX8_worth_161 rfl ?_
  refine x_iald (pc2 := 163) hC hK (by assumption) (by assumption) (by omega) (by decide) dX8_worth_162 rfl ?_
  rw [show A142 11 (8 + 3) = 282 from (congrFun (((((((((g26.tr g47).tr g50).tr g53).tr g84).tr g105).tr g108).tr g111).tr g142).a (show 11 = 1 ∨ 11 = 2 ∨ 11 = 3 ∨ 11 = 10 ∨ 11 = 11 by decide)) _).trans (hrw 11 (by decide)).1]
  refine x_cVi (pc2 := 166) (ci := 8) hC hK (t_product l hM hS142 (x := 165) (y := 282) ⟨by decide, by decide⟩ ⟨by decide, by decide⟩ t142_r5 t142_r11 (hrw 5 (by decide)).2.2 (hrw 11 (by decide)).2.2 (by decide) ⟨by decide, by decide⟩) lk_1004 rfl rfl (by decide) (by assumption) (by assumption) ⟨Nat.le_of_ble_eq_true rfl, Nat.le_of_ble_eq_true rfl⟩ ⟨Nat.le_refl _, Nat.le_refl _⟩ rfl (Nat.le_of_ble_eq_true rfl) dX8_worth_163 rfl ?_
  rintro z163 F163 A163 ⟨ez163, V163, hS163, v163, k163, g163⟩
  obtain rfl := ez163.symm
  replace hS163 : St 572 V163 F163 A163 := hS163
  have t163_r1 : tr V163 70 = (r 1) := (tr_keep (by decide) k163).trans t142_r1
  have t163_r2 : tr V163 81 = (r 2) := (tr_keep (by decide) k163).trans t142_r2
  have t163_r3 : tr V163 92 = (r 3) := (tr_keep (by decide) k163).trans t142_r3
  have t163_r5 : tr V163 165 = (r 5) := (tr_keep (by decide) k163).trans t142_r5
  have t163_r6 : tr V163 176 = (r 6) := (tr_keep (by decide) k163).trans t142_r6
  have t163_r7 : tr V163 187 = (r 7) := (tr_keep (by decide) k163).trans t142_r7
  have t163_r9 : tr V163 260 = (r 9) := (tr_keep (by decide) k163).trans t142_r9
  have t163_r10 : tr V163 271 = (r 10) := (tr_keep (by decide) k163).trans t142_r10
  have t163_r11 : tr V163 282 = (r 11) := (tr_keep (by decide) k163).trans t142_r11
  have t163_wj26 : tr V163 462 = wj26 := (tr_keep (by decide) k163).trans t142_wj26
  have t163_wj47 : tr V163 473 = wj47 := (tr_keep (by decide) k163).trans t142_wj47
  have t163_wj50 : tr V163 488 = wj50 := (tr_keep (by decide) k163).trans t142_wj50
  have t163_wj53 : tr V163 499 = wj53 := (tr_keep (by decide) k163).trans t142_wj53
  have t163_wj84 : tr V163 510 = wj84 := (tr_keep (by decide) k163).trans t142_wj84
  have t163_wj105 : tr V163 521 = wj105 := (tr_keep (by decide) k163).trans t142_wj105
  have t163_wj108 : tr V163 536 = wj108 := (tr_keep (by decide) k163).trans t142_wj108
  have t163_wj111 : tr V163 547 = wj111 := (tr_keep (by decide) k163).trans t142_wj111
  have t163_wj142 : tr V163 558 = wj142 := (tr_keep (by decide) k163).trans uwj142
  rw [show (561 : Int) + 8 = 569 from rfl]
  obtain ⟨wj163, ewj163⟩ : ∃ w : T3, w = tmul (r 5) (r 11) := ⟨_, rfl⟩
  have uwj163 : tr V163 569 = wj163 := by rw [ewj163]; exact v163
  have bwj163 : bdt 103 4 wj163 := by rw [ewj163]; exact (bdt_mul (hrw 5 (by decide)).2.2 (hrw 11 (by decide)).2.2 (by decide) (by decide))
  clear v163
  refine x_cVi (pc2 := 169) (ci := 8) hC hK (t_sub l hM hS163 (x := 558) (y := 569) ⟨by decide, by decide⟩ ⟨by decide, by decide⟩ t163_wj142 uwj163 bwj142 bwj163 (by decide) ⟨by decide, by decide, by decide⟩) lk_1012 rfl rfl (by decide) (by assumption) (by assumption) ⟨Nat.le_of_ble_eq_true rfl, Nat.le_of_ble_eq_true rfl⟩ ⟨Nat.le_refl _, Nat.le_refl _⟩ rfl (Nat.le_of_ble_eq_true rfl) dX8_worth_166 rfl ?_
  rintro z166 F166 A166 ⟨ez166, V166, hS166, v166, k166, g166⟩
  obtain rfl := ez166.symm
  replace hS166 : St 587 V166 F166 A166 := hS166
  have t166_r1 : tr V166 70 = (r 1) := (tr_keep (by decide) k166).trans t163_r1
  have t166_r2 : tr V166 81 = (r 2) := (tr_keep (by decide) k166).trans t163_r2
  have t166_r3 : tr V166 92 = (r 3) := (tr_keep (by decide) k166).trans t163_r3
  have t166_r5 : tr V166 165 = (r 5) := (tr_keep (by decide) k166).trans t163_r5
  have t166_r6 : tr V166 176 = (r 6) := (tr_keep (by decide) k166).trans t163_r6
  have t166_r7 : tr V166 187 = (r 7) := (tr_keep (by decide) k166).trans t163_r7
  have t166_r9 : tr V166 260 = (r 9) := (tr_keep (by decide) k166).trans t163_r9
  have t166_r10 : tr V166 271 = (r 10) := (tr_keep (by decide) k166).trans t163_r10
  have t166_r11 : tr V166 282 = (r 11) := (tr_keep (by decide) k166).trans t163_r11
  have t166_wj26 : tr V166 462 = wj26 := (tr_keep (by decide) k166).trans t163_wj26
  have t166_wj47 : tr V166 473 = wj47 := (tr_keep (by decide) k166).trans t163_wj47
  have t166_wj50 : tr V166 488 = wj50 := (tr_keep (by decide) k166).trans t163_wj50
  have t166_wj53 : tr V166 499 = wj53 := (tr_keep (by decide) k166).trans t163_wj53
  have t166_wj84 : tr V166 510 = wj84 := (tr_keep (by decide) k166).trans t163_wj84
  have t166_wj105 : tr V166 521 = wj105 := (tr_keep (by decide) k166).trans t163_wj105
  have t166_wj108 : tr V166 536 = wj108 := (tr_keep (by decide) k166).trans t163_wj108
  have t166_wj111 : tr V166 547 = wj111 := (tr_keep (by decide) k166).trans t163_wj111
  have t166_wj142 : tr V166 558 = wj142 := (tr_keep (by decide) k166).trans t163_wj142
  have t166_wj163 : tr V166 569 = wj163 := (tr_keep (by decide) k166).trans uwj163
  rw [show (572 : Int) + 12 = 584 from rfl]
  obtain ⟨wj166, ewj166⟩ : ∃ w : T3, w = tadd wj142 (tneg wj163) := ⟨_, rfl⟩
  have uwj166 : tr V166 584 = wj166 := by rw [ewj166]; exact v166
  have bwj166 : bdt 108 8 wj166 := by rw [ewj166]; exact (bdt_add bwj142 (bdt_neg bwj163) (by decide) (by decide) (by decide))
  clear v166
  refine x_cVi (pc2 := 172) (ci := 8) hC hK (t_product l hM hS166 (x := 81) (y := 584) ⟨by decide, by decide⟩ ⟨by decide, by decide⟩ t166_r2 uwj166 (hrw 2 (by decide)).2.2 bwj166 (by decide) ⟨by decide, by decide⟩) lk_1004 rfl rfl (by decide) (by assumption) (by assumption) ⟨Nat.le_of_ble_eq_true rfl, Nat.le_of_ble_eq_true rfl⟩ ⟨Nat.le_refl _, Nat.le_refl _⟩ rfl (Nat.le_of_ble_eq_true rfl) dX8_worth_169 rfl ?_
  rintro z169 F169 A169 ⟨ez169, V169, hS169, v169, k169, g169⟩
  obtain rfl := ez169.symm
  replace hS169 : St 598 V169 F169 A169 := hS169
  have t169_r1 : tr V169 70 = (r 1) := (tr_keep (by decide) k169).trans t166_r1
  have t169_r2 : tr V169 81 = (r 2) := (tr_keep (by decide) k169).trans t166_r2
  have t169_r3 : tr V169 92 = (r 3) := (tr_keep (by decide) k169).trans t166_r3
  have t169_r5 : tr V169 165 = (r 5) := (tr_keep (by decide) k169).trans t166_r5
  have t169_r6 : tr V169 176 = (r 6) := (tr_keep (by decide) k169).trans t166_r6
  have t169_r7 : tr V169 187 = (r 7) := (tr_keep (by decide) k169).trans t166_r7
  have t169_r9 : tr V169 260 = (r 9) := (tr_keep (by decide) k169).trans t166_r9
  have t169_r10 : tr V169 271 = (r 10) := (tr_keep (by decide) k169).trans t166_r10
  have t169_r11 : tr V169 282 = (r 11) := (tr_keep (by decide) k169).trans t166_r11
  have t169_wj26 : tr V169 462 = wj26 := (tr_keep (by decide) k169).trans t166_wj26
  have t169_wj47 : tr V169 473 = wj47 := (tr_keep (by decide) k169).trans t166_wj47
  have t169_wj50 : tr V169 488 = wj50 := (tr_keep (by decide) k169).trans t166_wj50
  have t169_wj53 : tr V169 499 = wj53 := (tr_keep (by decide) k169).trans t166_wj53
  have t169_wj84 : tr V169 510 = wj84 := (tr_keep (by decide) k169).trans t166_wj84
  have t169_wj105 : tr V169 521 = wj105 := (tr_keep (by decide) k169).trans t166_wj105
  have t169_wj108 : tr V169 536 = wj108 := (tr_keep (by decide) k169).trans t166_wj108
  have t169_wj111 : tr V169 547 = wj111 := (tr_keep (by decide) k169).trans t166_wj111
  have t169_wj142 : tr V169 558 = wj142 := (tr_keep (by decide) k169).trans t166_wj142
  have t169_wj163 : tr V169 569 = wj163 := (tr_keep (by decide) k169).trans t166_wj163
  have t169_wj166 : tr V169 584 = wj166 := (tr_keep (by decide) k169).trans uwj166
  rw [show (587 : Int) + 8 = 595 from rfl]
  obtain ⟨wj169, ewj169⟩ : ∃ w : T3, w = tmul (r 2) wj166 := ⟨_, rfl⟩
  have uwj169 : tr V169 595 = wj169 := by rw [ewj169]; exact v169
  have bwj169 : bdt 160 10 wj169 := by rw [ewj169]; exact (bdt_mul (hrw 2 (by decide)).2.2 bwj166 (by decide) (by decide))
  clear v169
  refine x_istore (pc2 := 174) (loc2 := [_, _, _, _, _, _, _]) hC (by decide) rfl dX8_worth_172 rfl ?_
  refine x_aload_n (pc2 := 175) hC rfl rfl dX8_worth_174 rfl ?_
  refine x_aload_n (pc2 := 176) hC rfl rfl dX8_worth_175 rfl ?_
  refine x_iload (pc2 := 178) hC rfl dX8_worth_176 rfl ?_
  refine x_iload (pc2 := 180) hC rfl dX8_worth_178 rfl ?_
  refine x_cVi (pc2 := 183) (ci := 8) hC hK (t_sub l hM hS169 (x := 499) (y := 547) ⟨by decide, by decide⟩ ⟨by decide, by decide⟩ t169_wj53 t169_wj111 bwj53 bwj111 (by decide) ⟨by decide, by decide, by decide⟩) lk_1012 rfl rfl (by decide) (by assumption) (by assumption) ⟨Nat.le_of_ble_eq_true rfl, Nat.le_of_ble_eq_true rfl⟩ ⟨Nat.le_refl _, Nat.le_refl _⟩ rfl (Nat.le_of_ble_eq_true rfl) dX8_worth_180 rfl ?_
  rintro z180 F180 A180 ⟨ez180, V180, hS180, v180, k180, g180⟩
  obtain rfl := ez180.symm
  replace hS180 : St 613 V180 F180 A180 := hS180
  have t180_r1 : tr V180 70 = (r 1) := (tr_keep (by decide) k180).trans t169_r1
  have t180_r2 : tr V180 81 = (r 2) := (tr_keep (by decide) k180).trans t169_r2
  have t180_r3 : tr V180 92 = (r 3) := (tr_keep (by decide) k180).trans t169_r3
  have t180_r5 : tr V180 165 = (r 5) := (tr_keep (by decide) k180).trans t169_r5
  have t180_r6 : tr V180 176 = (r 6) := (tr_keep (by decide) k180).trans t169_r6
  have t180_r7 : tr V180 187 = (r 7) := (tr_keep (by decide) k180).trans t169_r7
  have t180_r9 : tr V180 260 = (r 9) := (tr_keep (by decide) k180).trans t169_r9
  have t180_r10 : tr V180 271 = (r 10) := (tr_keep (by decide) k180).trans t169_r10
  have t180_r11 : tr V180 282 = (r 11) := (tr_keep (by decide) k180).trans t169_r11
  have t180_wj26 : tr V180 462 = wj26 := (tr_keep (by decide) k180).trans t169_wj26
  have t180_wj47 : tr V180 473 = wj47 := (tr_keep (by decide) k180).trans t169_wj47
  have t180_wj50 : tr V180 488 = wj50 := (tr_keep (by decide) k180).trans t169_wj50
  have t180_wj53 : tr V180 499 = wj53 := (tr_keep (by decide) k180).trans t169_wj53
  have t180_wj84 : tr V180 510 = wj84 := (tr_keep (by decide) k180).trans t169_wj84
  have t180_wj105 : tr V180 521 = wj105 := (tr_keep (by decide) k180).trans t169_wj105
  have t180_wj108 : tr V180 536 = wj108 := (tr_keep (by decide) k180).trans t169_wj108
  have t180_wj111 : tr V180 547 = wj111 := (tr_keep (by decide) k180).trans t169_wj111
  have t180_wj142 : tr V180 558 = wj142 := (tr_keep (by decide) k180).trans t169_wj142
  have t180_wj163 : tr V180 569 = wj163 := (tr_keep (by decide) k180).trans t169_wj163
  have t180_wj166 : tr V180 584 = wj166 := (tr_keep (by decide) k180).trans t169_wj166
  have t180_wj169 : tr V180 595 = wj169 := (tr_keep (by decide) k180).trans uwj169
  rw [show (598 : Int) + 12 = 610 from rfl]
  obtain ⟨wj180, ewj180⟩ : ∃ w : T3, w = tadd wj53 (tneg wj111) := ⟨_, rfl⟩
  have uwj180 : tr V180 610 = wj180 := by rw [ewj180]; exact v180
  have bwj180 : bdt 171 20 wj180 := by rw [ewj180]; exact (bdt_add bwj53 (bdt_neg bwj111) (by decide) (by decide) (by decide))
  clear v180
  refine x_iload (pc2 := 185) hC rfl dX8_worth_183 rfl ?_
  refine x_cVi (pc2 := 188) (ci := 8) hC hK (t_added l hM hS180 (x := 610) (y := 595) ⟨by decide, by decide⟩ ⟨by decide, by decide⟩ uwj180 t180_wj169 bwj180 bwj169 (by decide) ⟨by decide, by decide, by decide⟩) lk_1020 rfl rfl (by decide) (by assumption) (by assumption) ⟨Nat.le_of_ble_eq_true rfl, Nat.le_of_ble_eq_true rfl⟩ ⟨Nat.le_refl _, Nat.le_refl _⟩ rfl (Nat.le_of_ble_eq_true rfl) dX8_worth_185 rfl ?_
  rintro z185 F185 A185 ⟨ez185, V185, hS185, v185, k185, g185⟩
  obtain rfl := ez185.symm
  replace hS185 : St 623 V185 F185 A185 := hS185
  have t185_r1 : tr V185 70 = (r 1) := (tr_keep (by decide) k185).trans t180_r1
  have t185_r2 : tr V185 81 = (r 2) := (tr_keep (by decide) k185).trans t180_r2
  have t185_r3 : tr V185 92 = (r 3) := (tr_keep (by decide) k185).trans t180_r3
  have t185_r5 : tr V185 165 = (r 5) := (tr_keep (by decide) k185).trans t180_r5
  have t185_r6 : tr V185 176 = (r 6) := (tr_keep (by decide) k185).trans t180_r6
  have t185_r7 : tr V185 187 = (r 7) := (tr_keep (by decide) k185).trans t180_r7
  have t185_r9 : tr V185 260 = (r 9) := (tr_keep (by decide) k185).trans t180_r9
  have t185_r10 : tr V185 271 = (r 10) := (tr_keep (by decide) k185).trans t180_r10
  have t185_r11 : tr V185 282 = (r 11) := (tr_keep (by decide) k185).trans t180_r11
  have t185_wj26 : tr V185 462 = wj26 := (tr_keep (by decide) k185).trans t180_wj26
  have t185_wj47 : tr V185 473 = wj47 := (tr_keep (by decide) k185).trans t180_wj47
  have t185_wj50 : tr V185 488 = wj50 := (tr_keep (by decide) k185).trans t180_wj50
  have t185_wj53 : tr V185 499 = wj53 := (tr_keep (by decide) k185).trans t180_wj53
  have t185_wj84 : tr V185 510 = wj84 := (tr_keep (by decide) k185).trans t180_wj84
  have t185_wj105 : tr V185 521 = wj105 := (tr_keep (by decide) k185).trans t180_wj105
  have t185_wj108 : tr V185 536 = wj108 := (tr_keep (by decide) k185).trans t180_wj108
  have t185_wj111 : tr V185 547 = wj111 := (tr_keep (by decide) k185).trans t180_wj111
  have t185_wj142 : tr V185 558 = wj142 := (tr_keep (by decide) k185).trans t180_wj142
  have t185_wj163 : tr V185 569 = wj163 := (tr_keep (by decide) k185).trans t180_wj163
  have t185_wj166 : tr V185 584 = wj166 := (tr_keep (by decide) k185).trans t180_wj166
  have t185_wj169 : tr V185 595 = wj169 := (tr_keep (by decide) k185).trans t180_wj169
  have t185_wj180 : tr V185 610 = wj180 := (tr_keep (by decide) k185).trans uwj180
  rw [show (613 : Int) + 7 = 620 from rfl]
  obtain ⟨wj185, ewj185⟩ : ∃ w : T3, w = tadd wj180 wj169 := ⟨_, rfl⟩
  have uwj185 : tr V185 620 = wj185 := by rw [ewj185]; exact v185
  have bwj185 : bdt 182 30 wj185 := by rw [ewj185]; exact (bdt_add bwj180 bwj169 (by decide) (by decide) (by decide))
  clear v185
  exact x_iret hC hr hlk ⟨_, rfl, rfl, V185, hS185, (uwj185).trans (by rw [ewj185, ewj180, ewj53, ewj50, ewj26, ewj47, ewj111, ewj108, ewj84, ewj105, ewj169, ewj166, ewj142, ewj163]; rfl), fun u hu => (k185 u (by omega)).trans ((k180 u (by omega)).trans ((k169 u (by omega)).trans ((k166 u (by omega)).trans ((k163 u (by omega)).trans ((k142 u (by omega)).trans ((k111 u (by omega)).trans ((k108 u (by omega)).trans ((k105 u (by omega)).trans ((k84 u (by omega)).trans ((k53 u (by omega)).trans ((k50 u (by omega)).trans ((k47 u (by omega)).trans (k26 u hu))))))))))))), (((((((((((((g26.tr g47).tr g50).tr g53).tr g84).tr g105).tr g108).tr g111).tr g142).tr g163).tr g166).tr g169).tr g180).tr g185)⟩ dX8_worth_188
set_option maxHeartbeats 16000000 in
theorem t_worth032_623 (l : Launch) {D : va_G} {ids : Nat → ClassId} {β : Nat} {sh : Nat → Nat × Nat} {N : Nat} {R : Nat → Nat → Option Nat} {F : Nat → Nat → Int} {A : Nat → Int → Int} {S : SP} (hM : MoL sh R N) (hR0 : RepM S F A) {V : Int → Int} {r : Nat → T3} (hS : St 623 V F A) (hrw : RowsT A V r) : MetX l yX8_worth cX8_worth 7 (some (.int)) 5 113 D ids β sh N R F A [rf 0, pI 0, pI 3, pI 2] (pIr (Tq 166 F A 623 V (wrT r 0 3 2))) := by
  refine MetX.of (loc := [_, _, _, _, _, _, _]) (plainFor_of_name (by decide +kernel)) (Nat.le_of_ble_eq_true rfl) rfl ?_
  intro p e s m args below meth c hC hK hr hlk
  obtain ⟨⟨m0, m1⟩, ⟨rx0, r2, r3, r7, r8, r9, r11, r12, r13, r16, r18⟩, ⟨m2, m3⟩, ⟨m4, m5⟩, ⟨m6, m7⟩, ⟨m8, m9⟩, ⟨m10, m11⟩, ⟨m12, m13⟩, ⟨m14, m15⟩, ⟨m16, m17⟩, ⟨m18, m19⟩, ⟨m20, m21⟩, ⟨m22, m23⟩⟩ := id hM
  obtain ⟨hi, b1, b2, b3, b4, b5, b6, b7, b8⟩ := id hR0
  have i1 := hi.1
  refine x_aload_n (pc2 := 1) hC rfl rfl dX8_worth_0 rfl ?_
  refine x_aload_n (pc2 := 2) hC rfl rfl dX8_worth_1 rfl ?_
  refine g_827 (pc2 := 5) hC hK (by assumption) (by assumption) (by assumption) dX8_worth_2 rfl ?_
  refine x_iload_n (pc2 := 6) hC rfl rfl dX8_worth_5 rfl ?_
  refine x_iald (pc2 := 7) hC hK (by assumption) (by assumption) (by omega) (by decide) dX8_worth_6 rfl ?_
  rw [show A 11 (0) = 59 from (hrw 0 (by decide)).1]
  refine x_aload_n (pc2 := 8) hC rfl rfl dX8_worth_7 rfl ?_
  refine x_aload_n (pc2 := 9) hC rfl rfl dX8_worth_8 rfl ?_
  refine x_aload_n (pc2 := 10) hC rfl rfl dX8_worth_9 rfl ?_
  refine g_827 (pc2 := 13) hC hK (by assumption) (by assumption) (by assumption) dX8_worth_10 rfl ?_
  refine x_iconst (pc2 := 14) hC dX8_worth_13 rfl ?_
  refine x_iload_n (pc2 := 15) hC rfl rfl dX8_worth_14 rfl ?_
  refine x_iadd (pc2 := 16) hC dX8_worth_15 rfl ?_
  refine x_iald (pc2 := 17) hC hK (by assumption) (by assumption) (by omega) (by decide) dX8_worth_16 rfl ?_
  rw [show A 11 (4 + 3) = 187 from (hrw 7 (by decide)).1]
  refine x_aload_n (pc2 := 18) hC rfl rfl dX8_worth_17 rfl ?_
  refine g_827 (pc2 := 21) hC hK (by assumption) (by assumption) (by assumption) dX8_worth_18 rfl ?_
  refine x_bipush (pc2 := 23) hC rfl dX8_worth_21 rfl ?_
  refine x_iload_n (pc2 := 24) hC rfl rfl dX8_worth_23 rfl ?_
  refine x_iadd (pc2 := 25) hC dX8_worth_24 rfl ?_
  refine x_iald (pc2 := 26) hC hK (by assumption) (by assumption) (by omega) (by decide) dX8_worth_25 rfl ?_
  rw [show A 11 (8 + 2) = 271 from (hrw 10 (by decide)).1]
  refine x_cVi (pc2 := 29) (ci := 8) hC hK (t_product l hM hS (x := 187) (y := 271) ⟨by decide, by decide⟩ ⟨by decide, by decide⟩ (show tr V 187 = r 7 from (hrw 7 (by decide)).2.1) (show tr V 271 = r 10 from (hrw 10 (by decide)).2.1) (hrw 7 (by decide)).2.2 (hrw 10 (by decide)).2.2 (by decide) ⟨by decide, by decide⟩) lk_1004 rfl rfl (by decide) (by assumption) (by assumption) ⟨Nat.le_of_ble_eq_true rfl, Nat.le_of_ble_eq_true rfl⟩ ⟨Nat.le_refl _, Nat.le_refl _⟩ rfl (Nat.le_of_ble_eq_true rfl) dX8_worth_26 rfl ?_
  rintro z26 F26 A26 ⟨ez26, V26, hS26, v26, k26, g26⟩
  obtain rfl := ez26.symm
  replace hS26 : St 634 V26 F26 A26 := hS26
  have t26_r0 : tr V26 59 = (r 0) := (tr_keep (by decide) k26).trans (show tr V 59 = r 0 from (hrw 0 (by decide)).2.1)
  have t26_r2 : tr V26 81 = (r 2) := (tr_keep (by decide) k26).trans (show tr V 81 = r 2 from (hrw 2 (by decide)).2.1)
  have t26_r3 : tr V26 92 = (r 3) := (tr_keep (by decide) k26).trans (show tr V 92 = r 3 from (hrw 3 (by decide)).2.1)
  have t26_r4 : tr V26 154 = (r 4) := (tr_keep (by decide) k26).trans (show tr V 154 = r 4 from (hrw 4 (by decide)).2.1)
  have t26_r6 : tr V26 176 = (r 6) := (tr_keep (by decide) k26).trans (show tr V 176 = r 6 from (hrw 6 (by decide)).2.1)
  have t26_r7 : tr V26 187 = (r 7) := (tr_keep (by decide) k26).trans (show tr V 187 = r 7 from (hrw 7 (by decide)).2.1)
  have t26_r8 : tr V26 249 = (r 8) := (tr_keep (by decide) k26).trans (show tr V 249 = r 8 from (hrw 8 (by decide)).2.1)
  have t26_r10 : tr V26 271 = (r 10) := (tr_keep (by decide) k26).trans (show tr V 271 = r 10 from (hrw 10 (by decide)).2.1)
  have t26_r11 : tr V26 282 = (r 11) := (tr_keep (by decide) k26).trans (show tr V 282 = r 11 from (hrw 11 (by decide)).2.1)
  rw [show (623 : Int) + 8 = 631 from rfl]
  obtain ⟨wj26, ewj26⟩ : ∃ w : T3, w = tmul (r 7) (r 10) := ⟨_, rfl⟩
  have uwj26 : tr V26 631 = wj26 := by rw [ewj26]; exact v26
  have bwj26 : bdt 103 4 wj26 := by rw [ewj26]; exact (bdt_mul (hrw 7 (by decide)).2.2 (hrw 10 (by decide)).2.2 (by decide) (by decide))
  clear v26
  refine x_aload_n (pc2 := 30) hC rfl rfl dX8_worth_29 rfl ?_
  refine x_aload_n (pc2 := 31) hC rfl rfl dX8_worth_30 rfl ?_
  refine g_827 (pc2 := 34) hC hK (by assumption) (by assumption) (by assumption) dX8_worth_31 rfl ?_
  refine x_iconst (pc2 := 35) hC dX8_worth_34 rfl ?_
  refine x_iload_n (pc2 := 36) hC rfl rfl dX8_worth_35 rfl ?_
  refine x_iadd (pc2 := 37) hC dX8_worth_36 rfl ?_
  refine x_iald (pc2 := 38) hC hK (by assumption) (by assumption) (by omega) (by decide) dX8_worth_37 rfl ?_
  rw [show A26 11 (4 + 2) = 176 from (congrFun (g26.a (show 11 = 1 ∨ 11 = 2 ∨ 11 = 3 ∨ 11 = 10 ∨ 11 = 11 by decide)) _).trans (hrw 6 (by decide)).1]
  refine x_aload_n (pc2 := 39) hC rfl rfl dX8_worth_38 rfl ?_
  refine g_827 (pc2 := 42) hC hK (by assumption) (by assumption) (by assumption) dX8_worth_39 rfl ?_
  refine x_bipush (pc2 := 44) hC rfl dX8_worth_42 rfl ?_
  refine x_iload_n (pc2 := 45) hC rfl rfl dX8_worth_44 rfl ?_
  refine x_iadd (pc2 := 46) hC dX8_worth_45 rfl ?_
  refine x_iald (pc2 := 47) hC hK (by assumption) (by assumption) (by omega) (by decide) dX8_worth_46 rfl ?_
  rw [show A26 11 (8 + 3) = 282 from (congrFun (g26.a (show 11 = 1 ∨ 11 = 2 ∨ 11 = 3 ∨ 11 = 10 ∨ 11 = 11 by decide)) _).trans (hrw 11 (by decide)).1]
  refine x_cVi (pc2 := 50) (ci := 8) hC hK (t_product l hM hS26 (x := 176) (y := 282) ⟨by decide, by decide⟩ ⟨by decide, by decide⟩ t26_r6 t26_r11 (hrw 6 (by decide)).2.2 (hrw 11 (by decide)).2.2 (by decide) ⟨by decide, by decide⟩) lk_1004 rfl rfl (by decide) (by assumption) (by assumption) ⟨Nat.le_of_ble_eq_true rfl, Nat.le_of_ble_eq_true rfl⟩ ⟨Nat.le_refl _, Nat.le_refl _⟩ rfl (Nat.le_of_ble_eq_true rfl) dX8_worth_47 rfl ?_
  rintro z47 F47 A47 ⟨ez47, V47, hS47, v47, k47, g47⟩
  obtain rfl := ez47.symm
  replace hS47 : St 645 V47 F47 A47 := hS47
  have t47_r0 : tr V47 59 = (r 0) := (tr_keep (by decide) k47).trans t26_r0
  have t47_r2 : tr V47 81 = (r 2) := (tr_keep (by decide) k47).trans t26_r2
  have t47_r3 : tr V47 92 = (r 3) := (tr_keep (by decide) k47).trans t26_r3
  have t47_r4 : tr V47 154 = (r 4) := (tr_keep (by decide) k47).trans t26_r4
  have t47_r6 : tr V47 176 = (r 6) := (tr_keep (by decide) k47).trans t26_r6
  have t47_r7 : tr V47 187 = (r 7) := (tr_keep (by decide) k47).trans t26_r7
  have t47_r8 : tr V47 249 = (r 8) := (tr_keep (by decide) k47).trans t26_r8
  have t47_r10 : tr V47 271 = (r 10) := (tr_keep (by decide) k47).trans t26_r10
  have t47_r11 : tr V47 282 = (r 11) := (tr_keep (by decide) k47).trans t26_r11
  have t47_wj26 : tr V47 631 = wj26 := (tr_keep (by decide) k47).trans uwj26
  rw [show (634 : Int) + 8 = 642 from rfl]
  obtain ⟨wj47, ewj47⟩ : ∃ w : T3, w = tmul (r 6) (r 11) := ⟨_, rfl⟩
  have uwj47 : tr V47 642 = wj47 := by rw [ewj47]; exact v47
  have bwj47 : bdt 103 4 wj47 := by rw [ewj47]; exact (bdt_mul (hrw 6 (by decide)).2.2 (hrw 11 (by decide)).2.2 (by decide) (by decide))
  clear v47
  refine x_cVi (pc2 := 53) (ci := 8) hC hK (t_sub l hM hS47 (x := 631) (y := 642) ⟨by decide, by decide⟩ ⟨by decide, by decide⟩ t47_wj26 uwj47 bwj26 bwj47 (by decide) ⟨by decide, by decide, by decide⟩) lk_1012 rfl rfl (by decide) (by assumption) (by assumption) ⟨Nat.le_of_ble_eq_true rfl, Nat.le_of_ble_eq_true rfl⟩ ⟨Nat.le_refl _, Nat.le_refl _⟩ rfl (Nat.le_of_ble_eq_true rfl) dX8_worth_50 rfl ?_
  rintro z50 F50 A50 ⟨ez50, V50, hS50, v50, k50, g50⟩
  obtain rfl := ez50.symm
  replace hS50 : St 660 V50 F50 A50 := hS50
  have t50_r0 : tr V50 59 = (r 0) := (tr_keep (by decide) k50).trans t47_r0
  have t50_r2 : tr V50 81 = (r 2) := (tr_keep (by decide) k50).trans t47_r2
  have t50_r3 : tr V50 92 = (r 3) := (tr_keep (by decide) k50).trans t47_r3
  have t50_r4 : tr V50 154 = (r 4) := (tr_keep (by decide) k50).trans t47_r4
  have t50_r6 : tr V50 176 = (r 6) := (tr_keep (by decide) k50).trans t47_r6
  have t50_r7 : tr V50 187 = (r 7) := (tr_keep (by decide) k50).trans t47_r7
  have t50_r8 : tr V50 249 = (r 8) := (tr_keep (by decide) k50).trans t47_r8
  have t50_r10 : tr V50 271 = (r 10) := (tr_keep (by decide) k50).trans t47_r10
  have t50_r11 : tr V50 282 = (r 11) := (tr_keep (by decide) k50).trans t47_r11
  have t50_wj26 : tr V50 631 = wj26 := (tr_keep (by decide) k50).trans t47_wj26
  have t50_wj47 : tr V50 642 = wj47 := (tr_keep (by decide) k50).trans uwj47
  rw [show (645 : Int) + 12 = 657 from rfl]
  obtain ⟨wj50, ewj50⟩ : ∃ w : T3, w = tadd wj26 (tneg wj47) := ⟨_, rfl⟩
  have uwj50 : tr V50 657 = wj50 := by rw [ewj50]; exact v50
  have bwj50 : bdt 108 8 wj50 := by rw [ewj50]; exact (bdt_add bwj26 (bdt_neg bwj47) (by decide) (by decide) (by decide))
  clear v50
  refine x_cVi (pc2 := 56) (ci := 8) hC hK (t_product l hM hS50 (x := 59) (y := 657) ⟨by decide, by decide⟩ ⟨by decide, by decide⟩ t50_r0 uwj50 (hrw 0 (by decide)).2.2 bwj50 (by decide) ⟨by decide, by decide⟩) lk_1004 rfl rfl (by decide) (by assumption) (by assumption) ⟨Nat.le_of_ble_eq_true rfl, Nat.le_of_ble_eq_true rfl⟩ ⟨Nat.le_refl _, Nat.le_refl _⟩ rfl (Nat.le_of_ble_eq_true rfl) dX8_worth_53 rfl ?_
  rintro z53 F53 A53 ⟨ez53, V53, hS53, v53, k53, g53⟩
  obtain rfl := ez53.symm
  replace hS53 : St 671 V53 F53 A53 := hS53
  have t53_r0 : tr V53 59 = (r 0) := (tr_keep (by decide) k53).trans t50_r0
  have t53_r2 : tr V53 81 = (r 2) := (tr_keep (by decide) k53).trans t50_r2
  have t53_r3 : tr V53 92 = (r 3) := (tr_keep (by decide) k53).trans t50_r3
  have t53_r4 : tr V53 154 = (r 4) := (tr_keep (by decide) k53).trans t50_r4
  have t53_r6 : tr V53 176 = (r 6) := (tr_keep (by decide) k53).trans t50_r6
  have t53_r7 : tr V53 187 = (r 7) := (tr_keep (by decide) k53).trans t50_r7
  have t53_r8 : tr V53 249 = (r 8) := (tr_keep (by decide) k53).trans t50_r8
  have t53_r10 : tr V53 271 = (r 10) := (tr_keep (by decide) k53).trans t50_r10
  have t53_r11 : tr V53 282 = (r 11) := (tr_keep (by decide) k53).trans t50_r11
  have t53_wj26 : tr V53 631 = wj26 := (tr_keep (by decide) k53).trans t50_wj26
  have t53_wj47 : tr V53 642 = wj47 := (tr_keep (by decide) k53).trans t50_wj47
  have t53_wj50 : tr V53 657 = wj50 := (tr_keep (by decide) k53).trans uwj50
  rw [show (660 : Int) + 8 = 668 from rfl]
  obtain ⟨wj53, ewj53⟩ : ∃ w : T3, w = tmul (r 0) wj50 := ⟨_, rfl⟩
  have uwj53 : tr V53 668 = wj53 := by rw [ewj53]; exact v53
  have bwj53 : bdt 160 10 wj53 := by rw [ewj53]; exact (bdt_mul (hrw 0 (by decide)).2.2 bwj50 (by decide) (by decide))
  clear v53
  refine x_istore (pc2 := 58) (loc2 := [_, _, _, _, _, _, _]) hC (by decide) rfl dX8_worth_56 rfl ?_
  refine x_aload_n (pc2 := 59) hC rfl rfl dX8_worth_58 rfl ?_
  refine x_aload_n (pc2 := 60) hC rfl rfl dX8_worth_59 rfl ?_
  refine g_827 (pc2 := 63) hC hK (by assumption) (by assumption) (by assumption) dX8_worth_60 rfl ?_
  refine x_iload_n (pc2 := 64) hC rfl rfl dX8_worth_63 rfl ?_
  refine x_iald (pc2 := 65) hC hK (by assumption) (by assumption) (by omega) (by decide) dX8_worth_64 rfl ?_
  rw [show A53 11 (3) = 92 from (congrFun ((((g26.tr g47).tr g50).tr g53).a (show 11 = 1 ∨ 11 = 2 ∨ 11 = 3 ∨ 11 = 10 ∨ 11 = 11 by decide)) _).trans (hrw 3 (by decide)).1]
  refine x_aload_n (pc2 := 66) hC rfl rfl dX8_worth_65 rfl ?_
  refine x_aload_n (pc2 := 67) hC rfl rfl dX8_worth_66 rfl ?_
  refine x_aload_n (pc2 := 68) hC rfl rfl dX8_worth_67 rfl ?_
  refine g_827 (pc2 := 71) hC hK (by assumption) (by assumption) (by assumption) dX8_worth_68 rfl ?_
  refine x_iconst (pc2 := 72) hC dX8_worth_71 rfl ?_
  refine x_iload_n (pc2 := 73) hC rfl rfl dX8_worth_72 rfl ?_
  refine x_iadd (pc2 := 74) hC dX8_worth_73 rfl ?_
  refine x_iald (pc2 := 75) hC hK (by assumption) (by assumption) (by omega) (by decide) dX8_worth_74 rfl ?_
  rw [show A53 11 (4 + 0) = 154 from (congrFun ((((g26.tr g47).tr g50).tr g53).a (show 11 = 1 ∨ 11 = 2 ∨ 11 = 3 ∨ 11 = 10 ∨ 11 = 11 by decide)) _).trans (hrw 4 (by decide)).1]
  refine x_aload_n (pc2 := 76) hC rfl rfl dX8_worth_75 rfl ?_
  refine g_827 (pc2 := 79) hC hK (by assumption) (by assumption) (by assumption) dX8_worth_76 rfl ?_
  refine x_bipush (pc2 := 81) hC rfl dX8_worth_79 rfl ?_
  refine x_iload_n (pc2 := 82) hC rfl rfl dX8_worth_81 rfl ?_
  refine x_iadd (pc2 := 83) hC dX8_worth_82 rfl ?_
  refine x_iald (pc2 := 84) hC hK (by assumption) (by assumption) (by omega) (by decide) dX8_worth_83 rfl ?_
  rw [show A53 11 (8 + 2) = 271 from (congrFun ((((g26.tr g47).tr g50).tr g53).a (show 11 = 1 ∨ 11 = 2 ∨ 11 = 3 ∨ 11 = 10 ∨ 11 = 11 by decide)) _).trans (hrw 10 (by decide)).1]
  refine x_cVi (pc2 := 87) (ci := 8) hC hK (t_product l hM hS53 (x := 154) (y := 271) ⟨by decide, by decide⟩ ⟨by decide, by decide⟩ t53_r4 t53_r10 (hrw 4 (by decide)).2.2 (hrw 10 (by decide)).2.2 (by decide) ⟨by decide, by decide⟩) lk_1004 rfl rfl (by decide) (by assumption) (by assumption) ⟨Nat.le_of_ble_eq_true rfl, Nat.le_of_ble_eq_true rfl⟩ ⟨Nat.le_refl _, Nat.le_refl _⟩ rfl (Nat.le_of_ble_eq_true rfl) dX8_worth_84 rfl ?_
  rintro z84 F84 A84 ⟨ez84, V84, hS84, v84, k84, g84⟩
  obtain rfl := ez84.symm
  replace hS84 : St 682 V84 F84 A84 := hS84
  have t84_r0 : tr V84 59 = (r 0) := (tr_keep (by decide) k84).trans t53_r0
  have t84_r2 : tr V84 81 = (r 2) := (tr_keep (by decide) k84).trans t53_r2
  have t84_r3 : tr V84 92 = (r 3) := (tr_keep (by decide) k84).trans t53_r3
  have t84_r4 : tr V84 154 = (r 4) := (tr_keep (by decide) k84).trans t53_r4
  have t84_r6 : tr V84 176 = (r 6) := (tr_keep (by decide) k84).trans t53_r6
  have t84_r7 : tr V84 187 = (r 7) := (tr_keep (by decide) k84).trans t53_r7
  have t84_r8 : tr V84 249 = (r 8) := (tr_keep (by decide) k84).trans t53_r8
  have t84_r10 : tr V84 271 = (r 10) := (tr_keep (by decide) k84).trans t53_r10
  have t84_r11 : tr V84 282 = (r 11) := (tr_keep (by decide) k84).trans t53_r11
  have t84_wj26 : tr V84 631 = wj26 := (tr_keep (by decide) k84).trans t53_wj26
  have t84_wj47 : tr V84 642 = wj47 := (tr_keep (by decide) k84).trans t53_wj47
  have t84_wj50 : tr V84 657 = wj50 := (tr_keep (by decide) k84).trans t53_wj50
  have t84_wj53 : tr V84 668 = wj53 := (tr_keep (by decide) k84).trans uwj53
  rw [show (671 : Int) + 8 = 679 from rfl]
  obtain ⟨wj84, ewj84⟩ : ∃ w : T3, w = tmul (r 4) (r 10) := ⟨_, rfl⟩
  have uwj84 : tr V84 679 = wj84 := by rw [ewj84]; exact v84
  have bwj84 : bdt 103 4 wj84 := by rw [ewj84]; exact (bdt_mul (hrw 4 (by decide)).2.2 (hrw 10 (by decide)).2.2 (by decide) (by decide))
  clear v84
  refine x_aload_n (pc2 := 88) hC rfl rfl dX8_worth_87 rfl ?_
  refine x_aload_n (pc2 := 89) hC rfl rfl dX8_worth_88 rfl ?_
  refine g_827 (pc2 := 92) hC hK (by assumption) (by assumption) (by assumption) dX8_worth_89 rfl ?_
  refine x_iconst (pc2 := 93) hC dX8_worth_92 rfl ?_
  refine x_iload_n (pc2 := 94) hC rfl rfl dX8_worth_93 rfl ?_
  refine x_iadd (pc2 := 95) hC dX8_worth_94 rfl ?_
  refine x_iald (pc2 := 96) hC hK (by assumption) (by assumption) (by omega) (by decide) dX8_worth_95 rfl ?_
  rw [show A84 11 (4 + 2) = 176 from (congrFun (((((g26.tr g47).tr g50).tr g53).tr g84).a (show 11 = 1 ∨ 11 = 2 ∨ 11 = 3 ∨ 11 = 10 ∨ 11 = 11 by decide)) _).trans (hrw 6 (by decide)).1]
  refine x_aload_n (pc2 := 97) hC rfl rfl dX8_worth_96 rfl ?_
  refine g_827 (pc2 := 100) hC hK (by assumption) (by assumption) (by assumption) dX8_worth_97 rfl ?_
  refine x_bipush (pc2 := 102) hC rfl dX8_worth_100 rfl ?_
  refine x_iload_n (pc2 := 103) hC rfl rfl dX8_worth_102 rfl ?_
  refine x_iadd (pc2 := 104) hC dX8_worth_103 rfl ?_
  refine x_iald (pc2 := 105) hC hK (by assumption) (by assumption) (by omega) (by decide) dX8_worth_104 rfl ?_
  rw [show A84 11 (8 + 0) = 249 from (congrFun (((((g26.tr g47).tr g50).tr g53).tr g84).a (show 11 = 1 ∨ 11 = 2 ∨ 11 = 3 ∨ 11 = 10 ∨ 11 = 11 by decide)) _).trans (hrw 8 (by decide)).1]
  refine x_cVi (pc2 := 108) (ci := 8) hC hK (t_product l hM hS84 (x := 176) (y := 249) ⟨by decide, by decide⟩ ⟨by decide, by decide⟩ t84_r6 t84_r8 (hrw 6 (by decide)).2.2 (hrw 8 (by decide)).2.2 (by decide) ⟨by decide, by decide⟩) lk_1004 rfl rfl (by decide) (by assumption) (by assumption) ⟨Nat.le_of_ble_eq_true rfl, Nat.le_of_ble_eq_true rfl⟩ ⟨Nat.le_refl _, Nat.le_refl _⟩ rfl (Nat.le_of_ble_eq_true rfl) dX8_worth_105 rfl ?_
  rintro z105 F105 A105 ⟨ez105, V105, hS105, v105, k105, g105⟩
  obtain rfl := ez105.symm
  replace hS105 : St 693 V105 F105 A105 := hS105
  have t105_r0 : tr V105 59 = (r 0) := (tr_keep (by decide) k105).trans t84_r0
  have t105_r2 : tr V105 81 = (r 2) := (tr_keep (by decide) k105).trans t84_r2
  have t105_r3 : tr V105 92 = (r 3) := (tr_keep (by decide) k105).trans t84_r3
  have t105_r4 : tr V105 154 = (r 4) := (tr_keep (by decide) k105).trans t84_r4
  have t105_r6 : tr V105 176 = (r 6) := (tr_keep (by decide) k105).trans t84_r6
  have t105_r7 : tr V105 187 = (r 7) := (tr_keep (by decide) k105).trans t84_r7
  have t105_r8 : tr V105 249 = (r 8) := (tr_keep (by decide) k105).trans t84_r8
  have t105_r10 : tr V105 271 = (r 10) := (tr_keep (by decide) k105).trans t84_r10
  have t105_r11 : tr V105 282 = (r 11) := (tr_keep (by decide) k105).trans t84_r11
  have t105_wj26 : tr V105 631 = wj26 := (tr_keep (by decide) k105).trans t84_wj26
  have t105_wj47 : tr V105 642 = wj47 := (tr_keep (by decide) k105).trans t84_wj47
  have t105_wj50 : tr V105 657 = wj50 := (tr_keep (by decide) k105).trans t84_wj50
  have t105_wj53 : tr V105 668 = wj53 := (tr_keep (by decide) k105).trans t84_wj53
  have t105_wj84 : tr V105 679 = wj84 := (tr_keep (by decide) k105).trans uwj84
  rw [show (682 : Int) + 8 = 690 from rfl]
  obtain ⟨wj105, ewj105⟩ : ∃ w : T3, w = tmul (r 6) (r 8) := ⟨_, rfl⟩
  have uwj105 : tr V105 690 = wj105 := by rw [ewj105]; exact v105
  have bwj105 : bdt 103 4 wj105 := by rw [ewj105]; exact (bdt_mul (hrw 6 (by decide)).2.2 (hrw 8 (by decide)).2.2 (by decide) (by decide))
  clear v105
  refine x_cVi (pc2 := 111) (ci := 8) hC hK (t_sub l hM hS105 (x := 679) (y := 690) ⟨by decide, by decide⟩ ⟨by decide, by decide⟩ t105_wj84 uwj105 bwj84 bwj105 (by decide) ⟨by decide, by decide, by decide⟩) lk_1012 rfl rfl (by decide) (by assumption) (by assumption) ⟨Nat.le_of_ble_eq_true rfl, Nat.le_of_ble_eq_true rfl⟩ ⟨Nat.le_refl _, Nat.le_refl _⟩ rfl (Nat.le_of_ble_eq_true rfl) dX8_worth_108 rfl ?_
  rintro z108 F108 A108 ⟨ez108, V108, hS108, v108, k108, g108⟩
  obtain rfl := ez108.symm
  replace hS108 : St 708 V108 F108 A108 := hS108
  have t108_r0 : tr V108 59 = (r 0) := (tr_keep (by decide) k108).trans t105_r0
  have t108_r2 : tr V108 81 = (r 2) := (tr_keep (by decide) k108).trans t105_r2
  have t108_r3 : tr V108 92 = (r 3) := (tr_keep (by decide) k108).trans t105_r3
  have t108_r4 : tr V108 154 = (r 4) := (tr_keep (by decide) k108).trans t105_r4
  have t108_r6 : tr V108 176 = (r 6) := (tr_keep (by decide) k108).trans t105_r6
  have t108_r7 : tr V108 187 = (r 7) := (tr_keep (by decide) k108).trans t105_r7
  have t108_r8 : tr V108 249 = (r 8) := (tr_keep (by decide) k108).trans t105_r8
  have t108_r10 : tr V108 271 = (r 10) := (tr_keep (by decide) k108).trans t105_r10
  have t108_r11 : tr V108 282 = (r 11) := (tr_keep (by decide) k108).trans t105_r11
  have t108_wj26 : tr V108 631 = wj26 := (tr_keep (by decide) k108).trans t105_wj26
  have t108_wj47 : tr V108 642 = wj47 := (tr_keep (by decide) k108).trans t105_wj47
  have t108_wj50 : tr V108 657 = wj50 := (tr_keep (by decide) k108).trans t105_wj50
  have t108_wj53 : tr V108 668 = wj53 := (tr_keep (by decide) k108).trans t105_wj53
  have t108_wj84 : tr V108 679 = wj84 := (tr_keep (by decide) k108).trans t105_wj84
  have t108_wj105 : tr V108 690 = wj105 := (tr_keep (by decide) k108).trans uwj105
  rw [show (693 : Int) + 12 = 705 from rfl]
  obtain ⟨wj108, ewj108⟩ : ∃ w : T3, w = tadd wj84 (tneg wj105) := ⟨_, rfl⟩
  have uwj108 : tr V108 705 = wj108 := by rw [ewj108]; exact v108
  have bwj108 : bdt 108 8 wj108 := by rw [ewj108]; exact (bdt_add bwj84 (bdt_neg bwj105) (by decide) (by decide) (by decide))
  clear v108
  refine x_cVi (pc2 := 114) (ci := 8) hC hK (t_product l hM hS108 (x := 92) (y := 705) ⟨by decide, by decide⟩ ⟨by decide, by decide⟩ t108_r3 uwj108 (hrw 3 (by decide)).2.2 bwj108 (by decide) ⟨by decide, by decide⟩) lk_1004 rfl rfl (by decide) (by assumption) (by assumption) ⟨Nat.le_of_ble_eq_true rfl, Nat.le_of_ble_eq_true rfl⟩ ⟨Nat.le_refl _, Nat.le_refl _⟩ rfl (Nat.le_of_ble_eq_true rfl) dX8_worth_111 rfl ?_
  rintro z111 F111 A111 ⟨ez111, V111, hS111, v111, k111, g111⟩
  obtain rfl := ez111.symm
  replace hS111 : St 719 V111 F111 A111 := hS111
  have t111_r0 : tr V111 59 = (r 0) := (tr_keep (by decide) k111).trans t108_r0
  have t111_r2 : tr V111 81 = (r 2) := (tr_keep (by decide) k111).trans t108_r2
  have t111_r3 : tr V111 92 = (r 3) := (tr_keep (by decide) k111).trans t108_r3
  have t111_r4 : tr V111 154 = (r 4) := (tr_keep (by decide) k111).trans t108_r4
  have t111_r6 : tr V111 176 = (r 6) := (tr_keep (by decide) k111).trans t108_r6
  have t111_r7 : tr V111 187 = (r 7) := (tr_keep (by decide) k111).trans t108_r7
  have t111_r8 : tr V111 249 = (r 8) := (tr_keep (by decide) k111).trans t108_r8
  have t111_r10 : tr V111 271 = (r 10) := (tr_keep (by decide) k111).trans t108_r10
  have t111_r11 : tr V111 282 = (r 11) := (tr_keep (by decide) k111).trans t108_r11
  have t111_wj26 : tr V111 631 = wj26 := (tr_keep (by decide) k111).trans t108_wj26
  have t111_wj47 : tr V111 642 = wj47 := (tr_keep (by decide) k111).trans t108_wj47
  have t111_wj50 : tr V111 657 = wj50 := (tr_keep (by decide) k111).trans t108_wj50
  have t111_wj53 : tr V111 668 = wj53 := (tr_keep (by decide) k111).trans t108_wj53
  have t111_wj84 : tr V111 679 = wj84 := (tr_keep (by decide) k111).trans t108_wj84
  have t111_wj105 : tr V111 690 = wj105 := (tr_keep (by decide) k111).trans t108_wj105
  have t111_wj108 : tr V111 705 = wj108 := (tr_keep (by decide) k111).trans uwj108
  rw [show (708 : Int) + 8 = 716 from rfl]
  obtain ⟨wj111, ewj111⟩ : ∃ w : T3, w = tmul (r 3) wj108 := ⟨_, rfl⟩
  have uwj111 : tr V111 716 = wj111 := by rw [ewj111]; exact v111
  have bwj111 : bdt 160 10 wj111 := by rw [ewj111]; exact (bdt_mul (hrw 3 (by decide)).2.2 bwj108 (by decide) (by decide))
  clear v111
  refine x_istore (pc2 := 116) (loc2 := [_, _, _, _, _, _, _]) hC (by decide) rfl dX8_worth_114 rfl ?_
  refine x_aload_n (pc2 := 117) hC rfl rfl dX8_worth_116 rfl ?_
  refine x_aload_n (pc2 := 118) hC rfl rfl dX8_worth_117 rfl ?_
  refine g_827 (pc2 := 121) hC hK (by assumption) (by assumption) (by assumption) dX8_worth_118 rfl ?_
  refine x_iload_n (pc2 := 122) hC rfl rfl dX8_worth_121 rfl ?_
  refine x_iald (pc2 := 123) hC hK (by assumption) (by assumption) (by omega) (by decide) dX8_worth_122 rfl ?_
  rw [show A111 11 (2) = 81 from (congrFun ((((((((g26.tr g47).tr g50).tr g53).tr g84).tr g105).tr g108).tr g111).a (show 11 = 1 ∨ 11 = 2 ∨ 11 = 3 ∨ 11 = 10 ∨ 11 = 11 by decide)) _).trans (hrw 2 (by decide)).1]
  refine x_aload_n (pc2 := 124) hC rfl rfl dX8_worth_123 rfl ?_
  refine x_aload_n (pc2 := 125) hC rfl rfl dX8_worth_124 rfl ?_
  refine x_aload_n (pc2 := 126) hC rfl rfl dX8_worth_125 rfl ?_
  refine g_827 (pc2 := 129) hC hK (by assumption) (by assumption) (by assumption) dX8_worth_126 rfl ?_
  refine x_iconst (pc2 := 130) hC dX8_worth_129 rfl ?_
  refine x_iload_n (pc2 := 131) hC rfl rfl dX8_worth_130 rfl ?_
  refine x_iadd (pc2 := 132) hC dX8_worth_131 rfl ?_
  refine x_iald (pc2 := 133) hC hK (by assumption) (by assumption) (by omega) (by decide) dX8_worth_132 rfl ?_
  rw [show A111 11 (4 + 0) = 154 from (congrFun ((((((((g26.tr g47).tr g50).tr g53).tr g84).tr g105).tr g108).tr g111).a (show 11 = 1 ∨ 11 = 2 ∨ 11 = 3 ∨ 11 = 10 ∨ 11 = 11 by decide)) _).trans (hrw 4 (by decide)).1]
  refine x_aload_n (pc2 := 134) hC rfl rfl dX8_worth_133 rfl ?_
  refine g_827 (pc2 := 137) hC hK (by assumption) (by assumption) (by assumption) dX8_worth_134 rfl ?_
  refine x_bipush (pc2 := 139) hC rfl dX8_worth_137 rfl ?_
  refine x_iload_n (pc2 := 140) hC rfl rfl dX8_worth_139 rfl ?_
  refine x_iadd (pc2 := 141) hC dX8_worth_140 rfl ?_
  refine x_iald (pc2 := 142) hC hK (by assumption) (by assumption) (by omega) (by decide) dX8_worth_141 rfl ?_
  rw [show A111 11 (8 + 3) = 282 from (congrFun ((((((((g26.tr g47).tr g50).tr g53).tr g84).tr g105).tr g108).tr g111).a (show 11 = 1 ∨ 11 = 2 ∨ 11 = 3 ∨ 11 = 10 ∨ 11 = 11 by decide)) _).trans (hrw 11 (by decide)).1]
  refine x_cVi (pc2 := 145) (ci := 8) hC hK (t_product l hM hS111 (x := 154) (y := 282) ⟨by decide, by decide⟩ ⟨by decide, by decide⟩ t111_r4 t111_r11 (hrw 4 (by decide)).2.2 (hrw 11 (by decide)).2.2 (by decide) ⟨by decide, by decide⟩) lk_1004 rfl rfl (by decide) (by assumption) (by assumption) ⟨Nat.le_of_ble_eq_true rfl, Nat.le_of_ble_eq_true rfl⟩ ⟨Nat.le_refl _, Nat.le_refl _⟩ rfl (Nat.le_of_ble_eq_true rfl) dX8_worth_142 rfl ?_
  rintro z142 F142 A142 ⟨ez142, V142, hS142, v142, k142, g142⟩
  obtain rfl := ez142.symm
  replace hS142 : St 730 V142 F142 A142 := hS142
  have t142_r0 : tr V142 59 = (r 0) := (tr_keep (by decide) k142).trans t111_r0
  have t142_r2 : tr V142 81 = (r 2) := (tr_keep (by decide) k142).trans t111_r2
  have t142_r3 : tr V142 92 = (r 3) := (tr_keep (by decide) k142).trans t111_r3
  have t142_r4 : tr V142 154 = (r 4) := (tr_keep (by decide) k142).trans t111_r4
  have t142_r6 : tr V142 176 = (r 6) := (tr_keep (by decide) k142).trans t111_r6
  have t142_r7 : tr V142 187 = (r 7) := (tr_keep (by decide) k142).trans t111_r7
  have t142_r8 : tr V142 249 = (r 8) := (tr_keep (by decide) k142).trans t111_r8
  have t142_r10 : tr V142 271 = (r 10) := (tr_keep (by decide) k142).trans t111_r10
  have t142_r11 : tr V142 282 = (r 11) := (tr_keep (by decide) k142).trans t111_r11
  have t142_wj26 : tr V142 631 = wj26 := (tr_keep (by decide) k142).trans t111_wj26
  have t142_wj47 : tr V142 642 = wj47 := (tr_keep (by decide) k142).trans t111_wj47
  have t142_wj50 : tr V142 657 = wj50 := (tr_keep (by decide) k142).trans t111_wj50
  have t142_wj53 : tr V142 668 = wj53 := (tr_keep (by decide) k142).trans t111_wj53
  have t142_wj84 : tr V142 679 = wj84 := (tr_keep (by decide) k142).trans t111_wj84
  have t142_wj105 : tr V142 690 = wj105 := (tr_keep (by decide) k142).trans t111_wj105
  have t142_wj108 : tr V142 705 = wj108 := (tr_keep (by decide) k142).trans t111_wj108
  have t142_wj111 : tr V142 716 = wj111 := (tr_keep (by decide) k142).trans uwj111
  rw [show (719 : Int) + 8 = 727 from rfl]
  obtain ⟨wj142, ewj142⟩ : ∃ w : T3, w = tmul (r 4) (r 11) := ⟨_, rfl⟩
  have uwj142 : tr V142 727 = wj142 := by rw [ewj142]; exact v142
  have bwj142 : bdt 103 4 wj142 := by rw [ewj142]; exact (bdt_mul (hrw 4 (by decide)).2.2 (hrw 11 (by decide)).2.2 (by decide) (by decide))
  clear v142
  refine x_aload_n (pc2 := 146) hC rfl rfl dX8_worth_145 rfl ?_
  refine x_aload_n (pc2 := 147) hC rfl rfl dX8_worth_146 rfl ?_
  refine g_827 (pc2 := 150) hC hK (by assumption) (by assumption) (by assumption) dX8_worth_147 rfl ?_
  refine x_iconst (pc2 := 151) hC dX8_worth_150 rfl ?_
  refine x_iload_n (pc2 := 152) hC rfl rfl dX8_worth_151 rfl ?_
  refine x_iadd (pc2 := 153) hC dX8_worth_152 rfl ?_
  refine x_iald (pc2 := 154) hC hK (by assumption) (by assumption) (by omega) (by decide) dX8_worth_153 rfl ?_
  rw [show A142 11 (4 + 3) = 187 from (congrFun (((((((((g26.tr g47).tr g50).tr g53).tr g84).tr g105).tr g108).tr g111).tr g142).a (show 11 = 1 ∨ 11 = 2 ∨ 11 = 3 ∨ 11 = 10 ∨ 11 = 11 by decide)) _).trans (hrw 7 (by decide)).1]
  refine x_aload_n (pc2 := 155) hC rfl rfl dX8_worth_154 rfl ?_
  refine g_827 (pc2 := 158) hC hK (by assumption) (by assumption) (by assumption) dX8_worth_155 rfl ?_
  refine x_bipush (pc2 := 160) hC rfl dX8_worth_158 rfl ?_
  refine x_iload_n (pc2 := 161) hC rfl rfl dX8_worth_160 rfl ?_
  refine x_iadd (pc2 := 162) hC dX8_worth_161 rfl ?_
  refine x_iald (pc2 := 163) hC hK (by assumption) (by assumption) (by omega) (by decide) dX8_worth_162 rfl ?_
  rw [show A142 11 (8 + 0) = 249 from (congrFun (((((((((g26.tr g47).tr g50).tr g53).tr g84).tr g105).tr g108).tr g111).tr g142).a (show 11 = 1 ∨ 11 = 2 ∨ 11 = 3 ∨ 11 = 10 ∨ 11 = 11 by decide)) _).trans (hrw 8 (by decide)).1]
  refine x_cVi (pc2 := 166) (ci := 8) hC hK (t_product l hM hS142 (x := 187) (y := 249) ⟨by decide, by decide⟩ ⟨by decide, by decide⟩ t142_r7 t142_r8 (hrw 7 (by decide)).2.2 (hrw 8 (by decide)).2.2 (by decide) ⟨by decide, by decide⟩) lk_1004 rfl rfl (by decide) (by assumption) (by assumption) ⟨Nat.le_of_ble_eq_true rfl, Nat.le_of_ble_eq_true rfl⟩ ⟨Nat.le_refl _, Nat.le_refl _⟩ rfl (Nat.le_of_ble_eq_true rfl) dX8_worth_163 rfl ?_
  rintro z163 F163 A163 ⟨ez163, V163, hS163, v163, k163, g163⟩
  obtain rfl := ez163.symm
  replace hS163 : St 741 V163 F163 A163 := hS163
  have t163_r0 : tr V163 59 = (r 0) := (tr_keep (by decide) k163).trans t142_r0
  have t163_r2 : tr V163 81 = (r 2) := (tr_keep (by decide) k163).trans t142_r2
  have t163_r3 : tr V163 92 = (r 3) := (tr_keep (by decide) k163).trans t142_r3
  have t163_r4 : tr V163 154 = (r 4) := (tr_keep (by decide) k163).trans t142_r4
  have t163_r6 : tr V163 176 = (r 6) := (tr_keep (by decide) k163).trans t142_r6
  have t163_r7 : tr V163 187 = (r 7) := (tr_keep (by decide) k163).trans t142_r7
  have t163_r8 : tr V163 249 = (r 8) := (tr_keep (by decide) k163).trans t142_r8
  have t163_r10 : tr V163 271 = (r 10) := (tr_keep (by decide) k163).trans t142_r10
  have t163_r11 : tr V163 282 = (r 11) := (tr_keep (by decide) k163).trans t142_r11
  have t163_wj26 : tr V163 631 = wj26 := (tr_keep (by decide) k163).trans t142_wj26
  have t163_wj47 : tr V163 642 = wj47 := (tr_keep (by decide) k163).trans t142_wj47
  have t163_wj50 : tr V163 657 = wj50 := (tr_keep (by decide) k163).trans t142_wj50
  have t163_wj53 : tr V163 668 = wj53 := (tr_keep (by decide) k163).trans t142_wj53
  have t163_wj84 : tr V163 679 = wj84 := (tr_keep (by decide) k163).trans t142_wj84
  have t163_wj105 : tr V163 690 = wj105 := (tr_keep (by decide) k163).trans t142_wj105
  have t163_wj108 : tr V163 705 = wj108 := (tr_keep (by decide) k163).trans t142_wj108
  have t163_wj111 : tr V163 716 = wj111 := (tr_keep (by decide) k163).trans t142_wj111
  have t163_wj142 : tr V163 727 = wj142 := (tr_keep (by decide) k163).trans uwj142
  rw [show (730 : Int) + 8 = 738 from rfl]
  obtain ⟨wj163, ewj163⟩ : ∃ w : T3, w = tmul (r 7) (r 8) := ⟨_, rfl⟩
  have uwj163 : tr V163 738 = wj163 := by rw [ewj163]; exact v163
  have bwj163 : bdt 103 4 wj163 := by rw [ewj163]; exact (bdt_mul (hrw 7 (by decide)).2.2 (hrw 8 (by decide)).2.2 (by decide) (by decide))
  clear v163
  refine x_cVi (pc2 := 169) (ci := 8) hC hK (t_sub l hM hS163 (x := 727) (y := 738) ⟨by decide, by decide⟩ ⟨by decide, by decide⟩ t163_wj142 uwj163 bwj142 bwj163 (by decide) ⟨by decide, by decide, by decide⟩) lk_1012 rfl rfl (by decide) (by assumption) (by assumption) ⟨Nat.le_of_ble_eq_true rfl, Nat.le_of_ble_eq_true rfl⟩ ⟨Nat.le_refl _, Nat.le_refl _⟩ rfl (Nat.le_of_ble_eq_true rfl) dX8_worth_166 rfl ?_
  rintro z166 F166 A166 ⟨ez166, V166, hS166, v166, k166, g166⟩
  obtain rfl := ez166.symm
  replace hS166 : St 756 V166 F166 A166 := hS166
  have t166_r0 : tr V166 59 = (r 0) := (tr_keep (by decide) k166).trans t163_r0
  have t166_r2 : tr V166 81 = (r 2) := (tr_keep (by decide) k166).trans t163_r2
  have t166_r3 : tr V166 92 = (r 3) := (tr_keep (by decide) k166).trans t163_r3
  have t166_r4 : tr V166 154 = (r 4) := (tr_keep (by decide) k166).trans t163_r4
  have t166_r6 : tr V166 176 = (r 6) := (tr_keep (by decide) k166).trans t163_r6
  have t166_r7 : tr V166 187 = (r 7) := (tr_keep (by decide) k166).trans t163_r7
  have t166_r8 : tr V166 249 = (r 8) := (tr_keep (by decide) k166).trans t163_r8
  have t166_r10 : tr V166 271 = (r 10) := (tr_keep (by decide) k166).trans t163_r10
  have t166_r11 : tr V166 282 = (r 11) := (tr_keep (by decide) k166).trans t163_r11
  have t166_wj26 : tr V166 631 = wj26 := (tr_keep (by decide) k166).trans t163_wj26
  have t166_wj47 : tr V166 642 = wj47 := (tr_keep (by decide) k166).trans t163_wj47
  have t166_wj50 : tr V166 657 = wj50 := (tr_keep (by decide) k166).trans t163_wj50
  have t166_wj53 : tr V166 668 = wj53 := (tr_keep (by decide) k166).trans t163_wj53
  have t166_wj84 : tr V166 679 = wj84 := (tr_keep (by decide) k166).trans t163_wj84
  have t166_wj105 : tr V166 690 = wj105 := (tr_keep (by decide) k166).trans t163_wj105
  have t166_wj108 : tr V166 705 = wj108 := (tr_keep (by decide) k166).trans t163_wj108
  have t166_wj111 : tr V166 716 = wj111 := (tr_keep (by decide) k166).trans t163_wj111
  have t166_wj142 : tr V166 727 = wj142 := (tr_keep (by decide) k166).trans t163_wj142
  have t166_wj163 : tr V166 738 = wj163 := (tr_keep (by decide) k166).trans uwj163
  rw [show (741 : Int) + 12 = 753 from rfl]
  obtain ⟨wj166, ewj166⟩ : ∃ w : T3, w = tadd wj142 (tneg wj163) := ⟨_, rfl⟩
  have uwj166 : tr V166 753 = wj166 := by rw [ewj166]; exact v166
  have bwj166 : bdt 108 8 wj166 := by rw [ewj166]; exact (bdt_add bwj142 (bdt_neg bwj163) (by decide) (by decide) (by decide))
  clear v166
  refine x_cVi (pc2 := 172) (ci := 8) hC hK (t_product l hM hS166 (x := 81) (y := 753) ⟨by decide, by decide⟩ ⟨by decide, by decide⟩ t166_r2 uwj166 (hrw 2 (by decide)).2.2 bwj166 (by decide) ⟨by decide, by decide⟩) lk_1004 rfl rfl (by decide) (by assumption) (by assumption) ⟨Nat.le_of_ble_eq_true rfl, Nat.le_of_ble_eq_true rfl⟩ ⟨Nat.le_refl _, Nat.le_refl _⟩ rfl (Nat.le_of_ble_eq_true rfl) dX8_worth_169 rfl ?_
  rintro z169 F169 A169 ⟨ez169, V169, hS169, v169, k169, g169⟩
  obtain rfl := ez169.symm
  replace hS169 : St 767 V169 F169 A169 := hS169
  have t169_r0 : tr V169 59 = (r 0) := (tr_keep (by decide) k169).trans t166_r0
  have t169_r2 : tr V169 81 = (r 2) := (tr_keep (by decide) k169).trans t166_r2
  have t169_r3 : tr V169 92 = (r 3) := (tr_keep (by decide) k169).trans t166_r3
  have t169_r4 : tr V169 154 = (r 4) := (tr_keep (by decide) k169).trans t166_r4
  have t169_r6 : tr V169 176 = (r 6) := (tr_keep (by decide) k169).trans t166_r6
  have t169_r7 : tr V169 187 = (r 7) := (tr_keep (by decide) k169).trans t166_r7
  have t169_r8 : tr V169 249 = (r 8) := (tr_keep (by decide) k169).trans t166_r8
  have t169_r10 : tr V169 271 = (r 10) := (tr_keep (by decide) k169).trans t166_r10
  have t169_r11 : tr V169 282 = (r 11) := (tr_keep (by decide) k169).trans t166_r11
  have t169_wj26 : tr V169 631 = wj26 := (tr_keep (by decide) k169).trans t166_wj26
  have t169_wj47 : tr V169 642 = wj47 := (tr_keep (by decide) k169).trans t166_wj47
  have t169_wj50 : tr V169 657 = wj50 := (tr_keep (by decide) k169).trans t166_wj50
  have t169_wj53 : tr V169 668 = wj53 := (tr_keep (by decide) k169).trans t166_wj53
  have t169_wj84 : tr V169 679 = wj84 := (tr_keep (by decide) k169).trans t166_wj84
  have t169_wj105 : tr V169 690 = wj105 := (tr_keep (by decide) k169).trans t166_wj105
  have t169_wj108 : tr V169 705 = wj108 := (tr_keep (by decide) k169).trans t166_wj108
  have t169_wj111 : tr V169 716 = wj111 := (tr_keep (by decide) k169).trans t166_wj111
  have t169_wj142 : tr V169 727 = wj142 := (tr_keep (by decide) k169).trans t166_wj142
  have t169_wj163 : tr V169 738 = wj163 := (tr_keep (by decide) k169).trans t166_wj163
  have t169_wj166 : tr V169 753 = wj166 := (tr_keep (by decide) k169).trans uwj166
  rw [show (756 : Int) + 8 = 764 from rfl]
  obtain ⟨wj169, ewj169⟩ : ∃ w : T3, w = tmul (r 2) wj166 := ⟨_, rfl⟩
  have uwj169 : tr V169 764 = wj169 := by rw [ewj169]; exact v169
  have bwj169 : bdt 160 10 wj169 := by rw [ewj169]; exact (bdt_mul (hrw 2 (by decide)).2.2 bwj166 (by decide) (by decide))
  clear v169
  refine x_istore (pc2 := 174) (loc2 := [_, _, _, _, _, _, _]) hC (by decide) rfl dX8_worth_172 rfl ?_
  refine x_aload_n (pc2 := 175) hC rfl rfl dX8_worth_174 rfl ?_
  refine x_aload_n (pc2 := 176) hC rfl rfl dX8_worth_175 rfl ?_
  refine x_iload (pc2 := 178) hC rfl dX8_worth_176 rfl ?_
  refine x_iload (pc2 := 180) hC rfl dX8_worth_178 rfl ?_
  refine x_cVi (pc2 := 183) (ci := 8) hC hK (t_sub l hM hS169 (x := 668) (y := 716) ⟨by decide, by decide⟩ ⟨by decide, by decide⟩ t169_wj53 t169_wj111 bwj53 bwj111 (by decide) ⟨by decide, by decide, by decide⟩) lk_1012 rfl rfl (by decide) (by assumption) (by assumption) ⟨Nat.le_of_ble_eq_true rfl, Nat.le_of_ble_eq_true rfl⟩ ⟨Nat.le_refl _, Nat.le_refl _⟩ rfl (Nat.le_of_ble_eq_true rfl) dX8_worth_180 rfl ?_
  rintro z180 F180 A180 ⟨ez180, V180, hS180, v180, k180, g180⟩
  obtain rfl := ez180.symm
  replace hS180 : St 782 V180 F180 A180 := hS180
  have t180_r0 : tr V180 59 = (r 0) := (tr_keep (by decide) k180).trans t169_r0
  have t180_r2 : tr V180 81 = (r 2) := (tr_keep (by decide) k180).trans t169_r2
  have t180_r3 : tr V180 92 = (r 3) := (tr_keep (by decide) k180).trans t169_r3
  have t180_r4 : tr V180 154 = (r 4) := (tr_keep (by decide) k180).trans t169_r4
  have t180_r6 : tr V180 176 = (r 6) := (tr_keep (by decide) k180).trans t169_r6
  have t180_r7 : tr V180 187 = (r 7) := (tr_keep (by decide) k180).trans t169_r7
  have t180_r8 : tr V180 249 = (r 8) := (tr_keep (by decide) k180).trans t169_r8
  have t180_r10 : tr V180 271 = (r 10) := (tr_keep (by decide) k180).trans t169_r10
  have t180_r11 : tr V180 282 = (r 11) := (tr_keep (by decide) k180).trans t169_r11
  have t180_wj26 : tr V180 631 = wj26 := (tr_keep (by decide) k180).trans t169_wj26
  have t180_wj47 : tr V180 642 = wj47 := (tr_keep (by decide) k180).trans t169_wj47
  have t180_wj50 : tr V180 657 = wj50 := (tr_keep (by decide) k180).trans t169_wj50
  have t180_wj53 : tr V180 668 = wj53 := (tr_keep (by decide) k180).trans t169_wj53
  have t180_wj84 : tr V180 679 = wj84 := (tr_keep (by decide) k180).trans t169_wj84
  have t180_wj105 : tr V180 690 = wj105 := (tr_keep (by decide) k180).trans t169_wj105
  have t180_wj108 : tr V180 705 = wj108 := (tr_keep (by decide) k180).trans t169_wj108
  have t180_wj111 : tr V180 716 = wj111 := (tr_keep (by decide) k180).trans t169_wj111
  have t180_wj142 : tr V180 727 = wj142 := (tr_keep (by decide) k180).trans t169_wj142
  have t180_wj163 : tr V180 738 = wj163 := (tr_keep (by decide) k180).trans t169_wj163
  have t180_wj166 : tr V180 753 = wj166 := (tr_keep (by decide) k180).trans t169_wj166
  have t180_wj169 : tr V180 764 = wj169 := (tr_keep (by decide) k180).trans uwj169
  rw [show (767 : Int) + 12 = 779 from rfl]
  obtain ⟨wj180, ewj180⟩ : ∃ w : T3, w = tadd wj53 (tneg wj111) := ⟨_, rfl⟩
  have uwj180 : tr V180 779 = wj180 := by rw [ewj180]; exact v180
  have bwj180 : bdt 171 20 wj180 := by rw [ewj180]; exact (bdt_add bwj53 (bdt_neg bwj111) (by decide) (by decide) (by decide))
  clear v180
  refine x_iload (pc2 := 185) hC rfl dX8_worth_183 rfl ?_
  refine x_cVi (pc2 := 188) (ci := 8) hC hK (t_added l hM hS180 (x := 779) (y := 764) ⟨by decide, by decide⟩ ⟨by decide, by decide⟩ uwj180 t180_wj169 bwj180 bwj169 (by decide) ⟨by decide, by decide, by decide⟩) lk_1020 rfl rfl (by decide) (by assumption) (by assumption) ⟨Nat.le_of_ble_eq_true rfl, Nat.le_of_ble_eq_true rfl⟩ ⟨Nat.le_refl _, Nat.le_refl _⟩ rfl (Nat.le_of_ble_eq_true rfl) dX8_worth_185 rfl ?_
  rintro z185 F185 A185 ⟨ez185, V185, hS185, v185, k185, g185⟩
  obtain rfl := ez185.symm
  replace hS185 : St 792 V185 F185 A185 := hS185
  have t185_r0 : tr V185 59 = (r 0) := (tr_keep (by decide) k185).trans t180_r0
  have t185_r2 : tr V185 81 = (r 2) := (tr_keep (by decide) k185).trans t180_r2
  have t185_r3 : tr V185 92 = (r 3) := (tr_keep (by decide) k185).trans t180_r3
  have t185_r4 : tr V185 154 = (r 4) := (tr_keep (by decide) k185).trans t180_r4
  have t185_r6 : tr V185 176 = (r 6) := (tr_keep (by decide) k185).trans t180_r6
  have t185_r7 : tr V185 187 = (r 7) := (tr_keep (by decide) k185).trans t180_r7
  have t185_r8 : tr V185 249 = (r 8) := (tr_keep (by decide) k185).trans t180_r8
  have t185_r10 : tr V185 271 = (r 10) := (tr_keep (by decide) k185).trans t180_r10
  have t185_r11 : tr V185 282 = (r 11) := (tr_keep (by decide) k185).trans t180_r11
  have t185_wj26 : tr V185 631 = wj26 := (tr_keep (by decide) k185).trans t180_wj26
  have t185_wj47 : tr V185 642 = wj47 := (tr_keep (by decide) k185).trans t180_wj47
  have t185_wj50 : tr V185 657 = wj50 := (tr_keep (by decide) k185).trans t180_wj50
  have t185_wj53 : tr V185 668 = wj53 := (tr_keep (by decide) k185).trans t180_wj53
  have t185_wj84 : tr V185 679 = wj84 := (tr_keep (by decide) k185).trans t180_wj84
  have t185_wj105 : tr V185 690 = wj105 := (tr_keep (by decide) k185).trans t180_wj105
  have t185_wj108 : tr V185 705 = wj108 := (tr_keep (by decide) k185).trans t180_wj108
  have t185_wj111 : tr V185 716 = wj111 := (tr_keep (by decide) k185).trans t180_wj111
  have t185_wj142 : tr V185 727 = wj142 := (tr_keep (by decide) k185).trans t180_wj142
  have t185_wj163 : tr V185 738 = wj163 := (tr_keep (by decide) k185).trans t180_wj163
  have t185_wj166 : tr V185 753 = wj166 := (tr_keep (by decide) k185).trans t180_wj166
  have t185_wj169 : tr V185 764 = wj169 := (tr_keep (by decide) k185).trans t180_wj169
  have t185_wj180 : tr V185 779 = wj180 := (tr_keep (by decide) k185).trans uwj180
  rw [show (782 : Int) + 7 = 789 from rfl]
  obtain ⟨wj185, ewj185⟩ : ∃ w : T3, w = tadd wj180 wj169 := ⟨_, rfl⟩
  have uwj185 : tr V185 789 = wj185 := by rw [ewj185]; exact v185
  have bwj185 : bdt 182 30 wj185 := by rw [ewj185]; exact (bdt_add bwj180 bwj169 (by decide) (by decide) (by decide))
  clear v185
  exact x_iret hC hr hlk ⟨_, rfl, rfl, V185, hS185, (uwj185).trans (by rw [ewj185, ewj180, ewj53, ewj50, ewj26, ewj47, ewj111, ewj108, ewj84, ewj105, ewj169, ewj166, ewj142, ewj163]; rfl), fun u hu => (k185 u (by omega)).trans ((k180 u (by omega)).trans ((k169 u (by omega)).trans ((k166 u (by omega)).trans ((k163 u (by omega)).trans ((k142 u (by omega)).trans ((k111 u (by omega)).trans ((k108 u (by omega)).trans ((k105 u (by omega)).trans ((k84 u (by omega)).trans ((k53 u (by omega)).trans ((k50 u (by omega)).trans ((k47 u (by omega)).trans (k26 u hu))))))))))))), (((((((((((((g26.tr g47).tr g50).tr g53).tr g84).tr g105).tr g108).tr g111).tr g142).tr g163).tr g166).tr g169).tr g180).tr g185)⟩ dX8_worth_188
set_option maxHeartbeats 16000000 in
theorem t_worth013_792 (l : Launch) {D : va_G} {ids : Nat → ClassId} {β : Nat} {sh : Nat → Nat × Nat} {N : Nat} {R : Nat → Nat → Option Nat} {F : Nat → Nat → Int} {A : Nat → Int → Int} {S : SP} (hM : MoL sh R N) (hR0 : RepM S F A) {V : Int → Int} {r : Nat → T3} (hS : St 792 V F A) (hrw : RowsT A V r) : MetX l yX8_worth cX8_worth 7 (some (.int)) 5 113 D ids β sh N R F A [rf 0, pI 0, pI 1, pI 3] (pIr (Tq 166 F A 792 V (wrT r 0 1 3))) := by
  refine MetX.of (loc := [_, _, _, _, _, _, _]) (plainFor_of_name (by decide +kernel)) (Nat.le_of_ble_eq_true rfl) rfl ?_
  intro p e s m args below meth c hC hK hr hlk
  obtain ⟨⟨m0, m1⟩, ⟨rx0, r2, r3, r7, r8, r9, r11, r12, r13, r16, r18⟩, ⟨m2, m3⟩, ⟨m4, m5⟩, ⟨m6, m7⟩, ⟨m8, m9⟩, ⟨m10, m11⟩, ⟨m12, m13⟩, ⟨m14, m15⟩, ⟨m16, m17⟩, ⟨m18, m19⟩, ⟨m20, m21⟩, ⟨m22, m23⟩⟩ := id hM
  obtain ⟨hi, b1, b2, b3, b4, b5, b6, b7, b8⟩ := id hR0
  have i1 := hi.1
  refine x_aload_n (pc2 := 1) hC rfl rfl dX8_worth_0 rfl ?_
  refine x_aload_n (pc2 := 2) hC rfl rfl dX8_worth_1 rfl ?_
  refine g_827 (pc2 := 5) hC hK (by assumption) (by assumption) (by assumption) dX8_worth_2 rfl ?_
  refine x_iload_n (pc2 := 6) hC rfl rfl dX8_worth_5 rfl ?_
  refine x_iald (pc2 := 7) hC hK (by assumption) (by assumption) (by omega) (by decide) dX8_worth_6 rfl ?_
  rw [show A 11 (0) = 59 from (hrw 0 (by decide)).1]
  refine x_aload_n (pc2 := 8) hC rfl rfl dX8_worth_7 rfl ?_
  refine x_aload_n (pc2 := 9) hC rfl rfl dX8_worth_8 rfl ?_
  refine x_aload_n (pc2 := 10) hC rfl rfl dX8_worth_9 rfl ?_
  refine g_827 (pc2 := 13) hC hK (by assumption) (by assumption) (by assumption) dX8_worth_10 rfl ?_
  refine x_iconst (pc2 := 14) hC dX8_worth_13 rfl ?_
  refine x_iload_n (pc2 := 15) hC rfl rfl dX8_worth_14 rfl ?_
  refine x_iadd (pc2 := 16) hC dX8_worth_15 rfl ?_
  refine x_iald (pc2 := 17) hC hK (by assumption) (by assumption) (by omega) (by decide) dX8_worth_16 rfl ?_
  rw [show A 11 (4 + 1) = 165 from (hrw 5 (by decide)).1]
  refine x_aload_n (pc2 := 18) hC rfl rfl dX8_worth_17 rfl ?_
  refine g_827 (pc2 := 21) hC hK (by assumption) (by assumption) (by assumption) dX8_worth_18 rfl ?_
  refine x_bipush (pc2 := 23) hC rfl dX8_worth_21 rfl ?_
  refine x_iload_n (pc2 := 24) hC rfl rfl dX8_worth_23 rfl ?_
  refine x_iadd (pc2 := 25) hC dX8_worth_24 rfl ?_
  refine x_iald (pc2 := 26) hC hK (by assumption) (by assumption) (by omega) (by decide) dX8_worth_25 rfl ?_
  rw [show A 11 (8 + 3) = 282 from (hrw 11 (by decide)).1]
  refine x_cVi (pc2 := 29) (ci := 8) hC hK (t_product l hM hS (x := 165) (y := 282) ⟨by decide, by decide⟩ ⟨by decide, by decide⟩ (show tr V 165 = r 5 from (hrw 5 (by decide)).2.1) (show tr V 282 = r 11 from (hrw 11 (by decide)).2.1) (hrw 5 (by decide)).2.2 (hrw 11 (by decide)).2.2 (by decide) ⟨by decide, by decide⟩) lk_1004 rfl rfl (by decide) (by assumption) (by assumption) ⟨Nat.le_of_ble_eq_true rfl, Nat.le_of_ble_eq_true rfl⟩ ⟨Nat.le_refl _, Nat.le_refl _⟩ rfl (Nat.le_of_ble_eq_true rfl) dX8_worth_26 rfl ?_
  rintro z26 F26 A26 ⟨ez26, V26, hS26, v26, k26, g26⟩
  obtain rfl := ez26.symm
  replace hS26 : St 803 V26 F26 A26 := hS26
  have t26_r0 : tr V26 59 = (r 0) := (tr_keep (by decide) k26).trans (show tr V 59 = r 0 from (hrw 0 (by decide)).2.1)
  have t26_r1 : tr V26 70 = (r 1) := (tr_keep (by decide) k26).trans (show tr V 70 = r 1 from (hrw 1 (by decide)).2.1)
  have t26_r3 : tr V26 92 = (r 3) := (tr_keep (by decide) k26).trans (show tr V 92 = r 3 from (hrw 3 (by decide)).2.1)
  have t26_r4 : tr V26 154 = (r 4) := (tr_keep (by decide) k26).trans (show tr V 154 = r 4 from (hrw 4 (by decide)).2.1)
  have t26_r5 : tr V26 165 = (r 5) := (tr_keep (by decide) k26).trans (show tr V 165 = r 5 from (hrw 5 (by decide)).2.1)
  have t26_r7 : tr V26 187 = (r 7) := (tr_keep (by decide) k26).trans (show tr V 187 = r 7 from (hrw 7 (by decide)).2.1)
  have t26_r8 : tr V26 249 = (r 8) := (tr_keep (by decide) k26).trans (show tr V 249 = r 8 from (hrw 8 (by decide)).2.1)
  have t26_r9 : tr V26 260 = (r 9) := (tr_keep (by decide) k26).trans (show tr V 260 = r 9 from (hrw 9 (by decide)).2.1)
  have t26_r11 : tr V26 282 = (r 11) := (tr_keep (by decide) k26).trans (show tr V 282 = r 11 from (hrw 11 (by decide)).2.1)
  rw [show (792 : Int) + 8 = 800 from rfl]
  obtain ⟨wj26, ewj26⟩ : ∃ w : T3, w = tmul (r 5) (r 11) := ⟨_, rfl⟩
  have uwj26 : tr V26 800 = wj26 := by rw [ewj26]; exact v26
  have bwj26 : bdt 103 4 wj26 := by rw [ewj26]; exact (bdt_mul (hrw 5 (by decide)).2.2 (hrw 11 (by decide)).2.2 (by decide) (by decide))
  clear v26
  refine x_aload_n (pc2 := 30) hC rfl rfl dX8_worth_29 rfl ?_
  refine x_aload_n (pc2 := 31) hC rfl rfl dX8_worth_30 rfl ?_
  refine g_827 (pc2 := 34) hC hK (by assumption) (by assumption) (by assumption) dX8_worth_31 rfl ?_
  refine x_iconst (pc2 := 35) hC dX8_worth_34 rfl ?_
  refine x_iload_n (pc2 := 36) hC rfl rfl dX8_worth_35 rfl ?_
  refine x_iadd (pc2 := 37) hC dX8_worth_36 rfl ?_
  refine x_iald (pc2 := 38) hC hK (by assumption) (by assumption) (by omega) (by decide) dX8_worth_37 rfl ?_
  rw [show A26 11 (4 + 3) = 187 from (congrFun (g26.a (show 11 = 1 ∨ 11 = 2 ∨ 11 = 3 ∨ 11 = 10 ∨ 11 = 11 by decide)) _).trans (hrw 7 (by decide)).1]
  refine x_aload_n (pc2 := 39) hC rfl rfl dX8_worth_38 rfl ?_
  refine g_827 (pc2 := 42) hC hK (by assumption) (by assumption) (by assumption) dX8_worth_39 rfl ?_
  refine x_bipush (pc2 := 44) hC rfl dX8_worth_42 rfl ?_
  refine x_iload_n (pc2 := 45) hC rfl rfl dX8_worth_44 rfl ?_
  refine x_iadd (pc2 := 46) hC dX8_worth_45 rfl ?_
  refine x_iald (pc2 := 47) hC hK (by assumption) (by assumption) (by omega) (by decide) dX8_worth_46 rfl ?_
  rw [show A26 11 (8 + 1) = 260 from (congrFun (g26.a (show 11 = 1 ∨ 11 = 2 ∨ 11 = 3 ∨ 11 = 10 ∨ 11 = 11 by decide)) _).trans (hrw 9 (by decide)).1]
  refine x_cVi (pc2 := 50) (ci := 8) hC hK (t_product l hM hS26 (x := 187) (y := 260) ⟨by decide, by decide⟩ ⟨by decide, by decide⟩ t26_r7 t26_r9 (hrw 7 (by decide)).2.2 (hrw 9 (by decide)).2.2 (by decide) ⟨by decide, by decide⟩) lk_1004 rfl rfl (by decide) (by assumption) (by assumption) ⟨Nat.le_of_ble_eq_true rfl, Nat.le_of_ble_eq_true rfl⟩ ⟨Nat.le_refl _, Nat.le_refl _⟩ rfl (Nat.le_of_ble_eq_true rfl) dX8_worth_47 rfl ?_
  rintro z47 F47 A47 ⟨ez47, V47, hS47, v47, k47, g47⟩
  obtain rfl := ez47.symm
  replace hS47 : St 814 V47 F47 A47 := hS47
  have t47_r0 : tr V47 59 = (r 0) := (tr_keep (by decide) k47).trans t26_r0
  have t47_r1 : tr V47 70 = (r 1) := (tr_keep (by decide) k47).trans t26_r1
  have t47_r3 : tr V47 92 = (r 3) := (tr_keep (by decide) k47).trans t26_r3
  have t47_r4 : tr V47 154 = (r 4) := (tr_keep (by decide) k47).trans t26_r4
  have t47_r5 : tr V47 165 = (r 5) := (tr_keep (by decide) k47).trans t26_r5
  have t47_r7 : tr V47 187 = (r 7) := (tr_keep (by decide) k47).trans t26_r7
  have t47_r8 : tr V47 249 = (r 8) := (tr_keep (by decide) k47).trans t26_r8
  have t47_r9 : tr V47 260 = (r 9) := (tr_keep (by decide) k47).trans t26_r9
  have t47_r11 : tr V47 282 = (r 11) := (tr_keep (by decide) k47).trans t26_r11
  have t47_wj26 : tr V47 800 = wj26 := (tr_keep (by decide) k47).trans uwj26
  rw [show (803 : Int) + 8 = 811 from rfl]
  obtain ⟨wj47, ewj47⟩ : ∃ w : T3, w = tmul (r 7) (r 9) := ⟨_, rfl⟩
  have uwj47 : tr V47 811 = wj47 := by rw [ewj47]; exact v47
  have bwj47 : bdt 103 4 wj47 := by rw [ewj47]; exact (bdt_mul (hrw 7 (by decide)).2.2 (hrw 9 (by decide)).2.2 (by decide) (by decide))
  clear v47
  refine x_cVi (pc2 := 53) (ci := 8) hC hK (t_sub l hM hS47 (x := 800) (y := 811) ⟨by decide, by decide⟩ ⟨by decide, by decide⟩ t47_wj26 uwj47 bwj26 bwj47 (by decide) ⟨by decide, by decide, by decide⟩) lk_1012 rfl rfl (by decide) (by assumption) (by assumption) ⟨Nat.le_of_ble_eq_true rfl, Nat.le_of_ble_eq_true rfl⟩ ⟨Nat.le_refl _, Nat.le_refl _⟩ rfl (Nat.le_of_ble_eq_true rfl) dX8_worth_50 rfl ?_
  rintro z50 F50 A50 ⟨ez50, V50, hS50, v50, k50, g50⟩
  obtain rfl := ez50.symm
  replace hS50 : St 829 V50 F50 A50 := hS50
  have t50_r0 : tr V50 59 = (r 0) := (tr_keep (by decide) k50).trans t47_r0
  have t50_r1 : tr V50 70 = (r 1) := (tr_keep (by decide) k50).trans t47_r1
  have t50_r3 : tr V50 92 = (r 3) := (tr_keep (by decide) k50).trans t47_r3
  have t50_r4 : tr V50 154 = (r 4) := (tr_keep (by decide) k50).trans t47_r4
  have t50_r5 : tr V50 165 = (r 5) := (tr_keep (by decide) k50).trans t47_r5
  have t50_r7 : tr V50 187 = (r 7) := (tr_keep (by decide) k50).trans t47_r7
  have t50_r8 : tr V50 249 = (r 8) := (tr_keep (by decide) k50).trans t47_r8
  have t50_r9 : tr V50 260 = (r 9) := (tr_keep (by decide) k50).trans t47_r9
  have t50_r11 : tr V50 282 = (r 11) := (tr_keep (by decide) k50).trans t47_r11
  have t50_wj26 : tr V50 800 = wj26 := (tr_keep (by decide) k50).trans t47_wj26
  have t50_wj47 : tr V50 811 = wj47 := (tr_keep (by decide) k50).trans uwj47
  rw [show (814 : Int) + 12 = 826 from rfl]
  obtain ⟨wj50, ewj50⟩ : ∃ w : T3, w = tadd wj26 (tneg wj47) := ⟨_, rfl⟩
  have uwj50 : tr V50 826 = wj50 := by rw [ewj50]; exact v50
  have bwj50 : bdt 108 8 wj50 := by rw [ewj50]; exact (bdt_add bwj26 (bdt_neg bwj47) (by decide) (by decide) (by decide))
  clear v50
  refine x_cVi (pc2 := 56) (ci := 8) hC hK (t_product l hM hS50 (x := 59) (y := 826) ⟨by decide, by decide⟩ ⟨by decide, by decide⟩ t50_r0 uwj50 (hrw 0 (by decide)).2.2 bwj50 (by decide) ⟨by decide, by decide⟩) lk_1004 rfl rfl (by decide) (by assumption) (by assumption) ⟨Nat.le_of_ble_eq_true rfl, Nat.le_of_ble_eq_true rfl⟩ ⟨Nat.le_refl _, Nat.le_refl _⟩ rfl (Nat.le_of_ble_eq_true rfl) dX8_worth_53 rfl ?_
  rintro z53 F53 A53 ⟨ez53, V53, hS53, v53, k53, g53⟩
  obtain rfl := ez53.symm
  replace hS53 : St 840 V53 F53 A53 := hS53
  have t53_r0 : tr V53 59 = (r 0) := (tr_keep (by decide) k53).trans t50_r0
  have t53_r1 : tr V53 70 = (r 1) := (tr_keep (by decide) k53).trans t50_r1
  have t53_r3 : tr V53 92 = (r 3) := (tr_keep (by decide) k53).trans t50_r3
  have t53_r4 : tr V53 154 = (r 4) := (tr_keep (by decide) k53).trans t50_r4
  have t53_r5 : tr V53 165 = (r 5) := (tr_keep (by decide) k53).trans t50_r5
  have t53_r7 : tr V53 187 = (r 7) := (tr_keep (by decide) k53).trans t50_r7
  have t53_r8 : tr V53 249 = (r 8) := (tr_keep (by decide) k53).trans t50_r8
  have t53_r9 : tr V53 260 = (r 9) := (tr_keep (by decide) k53).trans t50_r9
  have t53_r11 : tr V53 282 = (r 11) := (tr_keep (by decide) k53).trans t50_r11
  have t53_wj26 : tr V53 800 = wj26 := (tr_keep (by decide) k53).trans t50_wj26
  have t53_wj47 : tr V53 811 = wj47 := (tr_keep (by decide) k53).trans t50_wj47
  have t53_wj50 : tr V53 826 = wj50 := (tr_keep (by decide) k53).trans uwj50
  rw [show (829 : Int) + 8 = 837 from rfl]
  obtain ⟨wj53, ewj53⟩ : ∃ w : T3, w = tmul (r 0) wj50 := ⟨_, rfl⟩
  have uwj53 : tr V53 837 = wj53 := by rw [ewj53]; exact v53
  have bwj53 : bdt 160 10 wj53 := by rw [ewj53]; exact (bdt_mul (hrw 0 (by decide)).2.2 bwj50 (by decide) (by decide))
  clear v53
  refine x_istore (pc2 := 58) (loc2 := [_, _, _, _, _, _, _]) hC (by decide) rfl dX8_worth_56 rfl ?_
  refine x_aload_n (pc2 := 59) hC rfl rfl dX8_worth_58 rfl ?_
  refine x_aload_n (pc2 := 60) hC rfl rfl dX8_worth_59 rfl ?_
  refine g_827 (pc2 := 63) hC hK (by assumption) (by assumption) (by assumption) dX8_worth_60 rfl ?_
  refine x_iload_n (pc2 := 64) hC rfl rfl dX8_worth_63 rfl ?_
  refine x_iald (pc2 := 65) hC hK (by assumption) (by assumption) (by omega) (by decide) dX8_worth_64 rfl ?_
  rw [show A53 11 (1) = 70 from (congrFun ((((g26.tr g47).tr g50).tr g53).a (show 11 = 1 ∨ 11 = 2 ∨ 11 = 3 ∨ 11 = 10 ∨ 11 = 11 by decide)) _).trans (hrw 1 (by decide)).1]
  refine x_aload_n (pc2 := 66) hC rfl rfl dX8_worth_65 rfl ?_
  refine x_aload_n (pc2 := 67) hC rfl rfl dX8_worth_66 rfl ?_
  refine x_aload_n (pc2 := 68) hC rfl rfl dX8_worth_67 rfl ?_
  refine g_827 (pc2 := 71) hC hK (by assumption) (by assumption) (by assumption) dX8_worth_68 rfl ?_
  refine x_iconst (pc2 := 72) hC dX8_worth_71 rfl ?_
  refine x_iload_n (pc2 := 73) hC rfl rfl dX8_worth_72 rfl ?_
  refine x_iadd (pc2 := 74) hC dX8_worth_73 rfl ?_
  refine x_iald (pc2 := 75) hC hK (by assumption) (by assumption) (by omega) (by decide) dX8_worth_74 rfl ?_
  rw [show A53 11 (4 + 0) = 154 from (congrFun ((((g26.tr g47).tr g50).tr g53).a (show 11 = 1 ∨ 11 = 2 ∨ 11 = 3 ∨ 11 = 10 ∨ 11 = 11 by decide)) _).trans (hrw 4 (by decide)).1]
  refine x_aload_n (pc2 := 76) hC rfl rfl dX8_worth_75 rfl ?_
  refine g_827 (pc2 := 79) hC hK (by assumption) (by assumption) (by assumption) dX8_worth_76 rfl ?_
  refine x_bipush (pc2 := 81) hC rfl dX8_worth_79 rfl ?_
  refine x_iload_n (pc2 := 82) hC rfl rfl dX8_worth_81 rfl ?_
  refine x_iadd (pc2 := 83) hC dX8_worth_82 rfl ?_
  refine x_iald (pc2 := 84) hC hK (by assumption) (by assumption) (by omega) (by decide) dX8_worth_83 rfl ?_
  rw [show A53 11 (8 + 3) = 282 from (congrFun ((((g26.tr g47).tr g50).tr g53).a (show 11 = 1 ∨ 11 = 2 ∨ 11 = 3 ∨ 11 = 10 ∨ 11 = 11 by decide)) _).trans (hrw 11 (by decide)).1]
  refine x_cVi (pc2 := 87) (ci := 8) hC hK (t_product l hM hS53 (x := 154) (y := 282) ⟨by decide, by decide⟩ ⟨by decide, by decide⟩ t53_r4 t53_r11 (hrw 4 (by decide)).2.2 (hrw 11 (by decide)).2.2 (by decide) ⟨by decide, by decide⟩) lk_1004 rfl rfl (by decide) (by assumption) (by assumption) ⟨Nat.le_of_ble_eq_true rfl, Nat.le_of_ble_eq_true rfl⟩ ⟨Nat.le_refl _, Nat.le_refl _⟩ rfl (Nat.le_of_ble_eq_true rfl) dX8_worth_84 rfl ?_
  rintro z84 F84 A84 ⟨ez84, V84, hS84, v84, k84, g84⟩
  obtain rfl := ez84.symm
  replace hS84 : St 851 V84 F84 A84 := hS84
  have t84_r0 : tr V84 59 = (r 0) := (tr_keep (by decide) k84).trans t53_r0
  have t84_r1 : tr V84 70 = (r 1) := (tr_keep (by decide) k84).trans t53_r1
  have t84_r3 : tr V84 92 = (r 3) := (tr_keep (by decide) k84).trans t53_r3
  have t84_r4 : tr V84 154 = (r 4) := (tr_keep (by decide) k84).trans t53_r4
  have t84_r5 : tr V84 165 = (r 5) := (tr_keep (by decide) k84).trans t53_r5
  have t84_r7 : tr V84 187 = (r 7) := (tr_keep (by decide) k84).trans t53_r7
  have t84_r8 : tr V84 249 = (r 8) := (tr_keep (by decide) k84).trans t53_r8
  have t84_r9 : tr V84 260 = (r 9) := (tr_keep (by decide) k84).trans t53_r9
  have t84_r11 : tr V84 282 = (r 11) := (tr_keep (by decide) k84).trans t53_r11
  have t84_wj26 : tr V84 800 = wj26 := (tr_keep (by decide) k84).trans t53_wj26
  have t84_wj47 : tr V84 811 = wj47 := (tr_keep (by decide) k84).trans t53_wj47
  have t84_wj50 : tr V84 826 = wj50 := (tr_keep (by decide) k84).trans t53_wj50
  have t84_wj53 : tr V84 837 = wj53 := (tr_keep (by decide) k84).trans uwj53
  rw [show (840 : Int) + 8 = 848 from rfl]
  obtain ⟨wj84, ewj84⟩ : ∃ w : T3, w = tmul (r 4) (r 11) := ⟨_, rfl⟩
  have uwj84 : tr V84 848 = wj84 := by rw [ewj84]; exact v84
  have bwj84 : bdt 103 4 wj84 := by rw [ewj84]; exact (bdt_mul (hrw 4 (by decide)).2.2 (hrw 11 (by decide)).2.2 (by decide) (by decide))
  clear v84
  refine x_aload_n (pc2 := 88) hC rfl rfl dX8_worth_87 rfl ?_
  refine x_aload_n (pc2 := 89) hC rfl rfl dX8_worth_88 rfl ?_
  refine g_827 (pc2 := 92) hC hK (by assumption) (by assumption) (by assumption) dX8_worth_89 rfl ?_
  refine x_iconst (pc2 := 93) hC dX8_worth_92 rfl ?_
  refine x_iload_n (pc2 := 94) hC rfl rfl dX8_worth_93 rfl ?_
  refine x_iadd (pc2 := 95) hC dX8_worth_94 rfl ?_
  refine x_iald (pc2 := 96) hC hK (by assumption) (by assumption) (by omega) (by decide) dX8_worth_95 rfl ?_
  rw [show A84 11 (4 + 3) = 187 from (congrFun (((((g26.tr g47).tr g50).tr g53).tr g84).a (show 11 = 1 ∨ 11 = 2 ∨ 11 = 3 ∨ 11 = 10 ∨ 11 = 11 by decide)) _).trans (hrw 7 (by decide)).1]
  refine x_aload_n (pc2 := 97) hC rfl rfl dX8_worth_96 rfl ?_
  refine g_827 (pc2 := 100) hC hK (by assumption) (by assumption) (by assumption) dX8_worth_97 rfl ?_
  refine x_bipush (pc2 := 102) hC rfl dX8_worth_100 rfl ?_
  refine x_iload_n (pc2 := 103) hC rfl rfl dX8_worth_102 rfl ?_
  refine x_iadd (pc2 := 104) hC dX8_worth_103 rfl ?_
  refine x_iald (pc2 := 105) hC hK (by assumption) (by assumption) (by omega) (by decide) dX8_worth_104 rfl ?_
  rw [show A84 11 (8 + 0) = 249 from (congrFun (((((g26.tr g47).tr g50).tr g53).tr g84).a (show 11 = 1 ∨ 11 = 2 ∨ 11 = 3 ∨ 11 = 10 ∨ 11 = 11 by decide)) _).trans (hrw 8 (by decide)).1]
  refine x_cVi (pc2 := 108) (ci := 8) hC hK (t_product l hM hS84 (x := 187) (y := 249) ⟨by decide, by decide⟩ ⟨by decide, by decide⟩ t84_r7 t84_r8 (hrw 7 (by decide)).2.2 (hrw 8 (by decide)).2.2 (by decide) ⟨by decide, by decide⟩) lk_1004 rfl rfl (by decide) (by assumption) (by assumption) ⟨Nat.le_of_ble_eq_true rfl, Nat.le_of_ble_eq_true rfl⟩ ⟨Nat.le_refl _, Nat.le_refl _⟩ rfl (Nat.le_of_ble_eq_true rfl) dX8_worth_105 rfl ?_
  rintro z105 F105 A105 ⟨ez105, V105, hS105, v105, k105, g105⟩
  obtain rfl := ez105.symm
  replace hS105 : St 862 V105 F105 A105 := hS105
  have t105_r0 : tr V105 59 = (r 0) := (tr_keep (by decide) k105).trans t84_r0
  have t105_r1 : tr V105 70 = (r 1) := (tr_keep (by decide) k105).trans t84_r1
  have t105_r3 : tr V105 92 = (r 3) := (tr_keep (by decide) k105).trans t84_r3
  have t105_r4 : tr V105 154 = (r 4) := (tr_keep (by decide) k105).trans t84_r4
  have t105_r5 : tr V105 165 = (r 5) := (tr_keep (by decide) k105).trans t84_r5
  have t105_r7 : tr V105 187 = (r 7) := (tr_keep (by decide) k105).trans t84_r7
  have t105_r8 : tr V105 249 = (r 8) := (tr_keep (by decide) k105).trans t84_r8
  have t105_r9 : tr V105 260 = (r 9) := (tr_keep (by decide) k105).trans t84_r9
  have t105_r11 : tr V105 282 = (r 11) := (tr_keep (by decide) k105).trans t84_r11
  have t105_wj26 : tr V105 800 = wj26 := (tr_keep (by decide) k105).trans t84_wj26
  have t105_wj47 : tr V105 811 = wj47 := (tr_keep (by decide) k105).trans t84_wj47
  have t105_wj50 : tr V105 826 = wj50 := (tr_keep (by decide) k105).trans t84_wj50
  have t105_wj53 : tr V105 837 = wj53 := (tr_keep (by decide) k105).trans t84_wj53
  have t105_wj84 : tr V105 848 = wj84 := (tr_keep (by decide) k105).trans uwj84
  rw [show (851 : Int) + 8 = 859 from rfl]
  obtain ⟨wj105, ewj105⟩ : ∃ w : T3, w = tmul (r 7) (r 8) := ⟨_, rfl⟩
  have uwj105 : tr V105 859 = wj105 := by rw [ewj105]; exact v105
  have bwj105 : bdt 103 4 wj105 := by rw [ewj105]; exact (bdt_mul (hrw 7 (by decide)).2.2 (hrw 8 (by decide)).2.2 (by decide) (by decide))
  clear v105
  refine x_cVi (pc2 := 111) (ci := 8) hC hK (t_sub l hM hS105 (x := 848) (y := 859) ⟨by decide, by decide⟩ ⟨by decide, by decide⟩ t105_wj84 uwj105 bwj84 bwj105 (by decide) ⟨by decide, by decide, by decide⟩) lk_1012 rfl rfl (by decide) (by assumption) (by assumption) ⟨Nat.le_of_ble_eq_true rfl, Nat.le_of_ble_eq_true rfl⟩ ⟨Nat.le_refl _, Nat.le_refl _⟩ rfl (Nat.le_of_ble_eq_true rfl) dX8_worth_108 rfl ?_
  rintro z108 F108 A108 ⟨ez108, V108, hS108, v108, k108, g108⟩
  obtain rfl := ez108.symm
  replace hS108 : St 877 V108 F108 A108 := hS108
  have t108_r0 : tr V108 59 = (r 0) := (tr_keep (by decide) k108).trans t105_r0
  have t108_r1 : tr V108 70 = (r 1) := (tr_keep (by decide) k108).trans t105_r1
  have t108_r3 : tr V108 92 = (r 3) := (tr_keep (by decide) k108).trans t105_r3
  have t108_r4 : tr V108 154 = (r 4) := (tr_keep (by decide) k108).trans t105_r4
  have t108_r5 : tr V108 165 = (r 5) := (tr_keep (by decide) k108).trans t105_r5
  have t108_r7 : tr V108 187 = (r 7) := (tr_keep (by decide) k108).trans t105_r7
  have t108_r8 : tr V108 249 = (r 8) := (tr_keep (by decide) k108).trans t105_r8
  have t108_r9 : tr V108 260 = (r 9) := (tr_keep (by decide) k108).trans t105_r9
  have t108_r11 : tr V108 282 = (r 11) := (tr_keep (by decide) k108).trans t105_r11
  have t108_wj26 : tr V108 800 = wj26 := (tr_keep (by decide) k108).trans t105_wj26
  have t108_wj47 : tr V108 811 = wj47 := (tr_keep (by decide) k108).trans t105_wj47
  have t108_wj50 : tr V108 826 = wj50 := (tr_keep (by decide) k108).trans t105_wj50
  have t108_wj53 : tr V108 837 = wj53 := (tr_keep (by decide) k108).trans t105_wj53
  have t108_wj84 : tr V108 848 = wj84 := (tr_keep (by decide) k108).trans t105_wj84
  have t108_wj105 : tr V108 859 = wj105 := (tr_keep (by decide) k108).trans uwj105
  rw [show (862 : Int) + 12 = 874 from rfl]
  obtain ⟨wj108, ewj108⟩ : ∃ w : T3, w = tadd wj84 (tneg wj105) := ⟨_, rfl⟩
  have uwj108 : tr V108 874 = wj108 := by rw [ewj108]; exact v108
  have bwj108 : bdt 108 8 wj108 := by rw [ewj108]; exact (bdt_add bwj84 (bdt_neg bwj105) (by decide) (by decide) (by decide))
  clear v108
  refine x_cVi (pc2 := 114) (ci := 8) hC hK (t_product l hM hS108 (x := 70) (y := 874) ⟨by decide, by decide⟩ ⟨by decide, by decide⟩ t108_r1 uwj108 (hrw 1 (by decide)).2.2 bwj108 (by decide) ⟨by decide, by decide⟩) lk_1004 rfl rfl (by decide) (by assumption) (by assumption) ⟨Nat.le_of_ble_eq_true rfl, Nat.le_of_ble_eq_true rfl⟩ ⟨Nat.le_refl _, Nat.le_refl _⟩ rfl (Nat.le_of_ble_eq_true rfl) dX8_worth_111 rfl ?_
  rintro z111 F111 A111 ⟨ez111, V111, hS111, v111, k111, g111⟩
  obtain rfl := ez111.symm
  replace hS111 : St 888 V111 F111 A111 := hS111
  have t111_r0 : tr V111 59 = (r 0) := (tr_keep (by decide) k111).trans t108_r0
  have t111_r1 : tr V111 70 = (r 1) := (tr_keep (by decide) k111).trans t108_r1
  have t111_r3 : tr V111 92 = (r 3) := (tr_keep (by decide) k111).trans t108_r3
  have t111_r4 : tr V111 154 = (r 4) := (tr_keep (by decide) k111).trans t108_r4
  have t111_r5 : tr V111 165 = (r 5) := (tr_keep (by decide) k111).trans t108_r5
  have t111_r7 : tr V111 187 = (r 7) := (tr_keep (by decide) k111).trans t108_r7
  have t111_r8 : tr V111 249 = (r 8) := (tr_keep (by decide) k111).trans t108_r8
  have t111_r9 : tr V111 260 = (r 9) := (tr_keep (by decide) k111).trans t108_r9
  have t111_r11 : tr V111 282 = (r 11) := (tr_keep (by decide) k111).trans t108_r11
  have t111_wj26 : tr V111 800 = wj26 := (tr_keep (by decide) k111).trans t108_wj26
  have t111_wj47 : tr V111 811 = wj47 := (tr_keep (by decide) k111).trans t108_wj47
  have t111_wj50 : tr V111 826 = wj50 := (tr_keep (by decide) k111).trans t108_wj50
  have t111_wj53 : tr V111 837 = wj53 := (tr_keep (by decide) k111).trans t108_wj53
  have t111_wj84 : tr V111 848 = wj84 := (tr_keep (by decide) k111).trans t108_wj84
  have t111_wj105 : tr V111 859 = wj105 := (tr_keep (by decide) k111).trans t108_wj105
  have t111_wj108 : tr V111 874 = wj108 := (tr_keep (by decide) k111).trans uwj108
  rw [show (877 : Int) + 8 = 885 from rfl]
  obtain ⟨wj111, ewj111⟩ : ∃ w : T3, w = tmul (r 1) wj108 := ⟨_, rfl⟩
  have uwj111 : tr V111 885 = wj111 := by rw [ewj111]; exact v111
  have bwj111 : bdt 160 10 wj111 := by rw [ewj111]; exact (bdt_mul (hrw 1 (by decide)).2.2 bwj108 (by decide) (by decide))
  clear v111
  refine x_istore (pc2 := 116) (loc2 := [_, _, _, _, _, _, _]) hC (by decide) rfl dX8_worth_114 rfl ?_
  refine x_aload_n (pc2 := 117) hC rfl rfl dX8_worth_116 rfl ?_
  refine x_aload_n (pc2 := 118) hC rfl rfl dX8_worth_117 rfl ?_
  refine g_827 (pc2 := 121) hC hK (by assumption) (by assumption) (by assumption) dX8_worth_118 rfl ?_
  refine x_iload_n (pc2 := 122) hC rfl rfl dX8_worth_121 rfl ?_
  refine x_iald (pc2 := 123) hC hK (by assumption) (by assumption) (by omega) (by decide) dX8_worth_122 rfl ?_
  rw [show A111 11 (3) = 92 from (congrFun ((((((((g26.tr g47).tr g50).tr g53).tr g84).tr g105).tr g108).tr g111).a (show 11 = 1 ∨ 11 = 2 ∨ 11 = 3 ∨ 11 = 10 ∨ 11 = 11 by decide)) _).trans (hrw 3 (by decide)).1]
  refine x_aload_n (pc2 := 124) hC rfl rfl dX8_worth_123 rfl ?_
  refine x_aload_n (pc2 := 125) hC rfl rfl dX8_worth_124 rfl ?_
  refine x_aload_n (pc2 := 126) hC rfl rfl dX8_worth_125 rfl ?_
  refine g_827 (pc2 := 129) hC hK (by assumption) (by assumption) (by assumption) dX8_worth_126 rfl ?_
  refine x_iconst (pc2 := 130) hC dX8_worth_129 rfl ?_
  refine x_iload_n (pc2 := 131) hC rfl rfl dX8_worth_130 rfl ?_
  refine x_iadd (pc2 := 132) hC dX8_worth_131 rfl ?_
  refine x_iald (pc2 := 133) hC hK (by assumption) (by assumption) (by omega) (by decide) dX8_worth_132 rfl ?_
  rw [show A111 11 (4 + 0) = 154 from (congrFun ((((((((g26.tr g47).tr g50).tr g53).tr g84).tr g105).tr g108).tr g111).a (show 11 = 1 ∨ 11 = 2 ∨ 11 = 3 ∨ 11 = 10 ∨ 11 = 11 by decide)) _).trans (hrw 4 (by decide)).1]
  refine x_aload_n (pc2 := 134) hC rfl rfl dX8_worth_133 rfl ?_
  refine g_827 (pc2 := 137) hC hK (by assumption) (by assumption) (by assumption) dX8_worth_134 rfl ?_
  refine x_bipush (pc2 := 139) hC rfl dX8_worth_137 rfl ?_
  refine x_iload_n (pc2 := 140) hC rfl rfl dX8_worth_139 rfl ?_
  refine x_iadd (pc2 := 141) hC dX8_worth_140 rfl ?_
  refine x_iald (pc2 := 142) hC hK (by assumption) (by assumption) (by omega) (by decide) dX8_worth_141 rfl ?_
  rw [show A111 11 (8 + 1) = 260 from (congrFun ((((((((g26.tr g47).tr g50).tr g53).tr g84).tr g105).tr g108).tr g111).a (show 11 = 1 ∨ 11 = 2 ∨ 11 = 3 ∨ 11 = 10 ∨ 11 = 11 by decide)) _).trans (hrw 9 (by decide)).1]
  refine x_cVi (pc2 := 145) (ci := 8) hC hK (t_product l hM hS111 (x := 154) (y := 260) ⟨by decide, by decide⟩ ⟨by decide, by decide⟩ t111_r4 t111_r9 (hrw 4 (by decide)).2.2 (hrw 9 (by decide)).2.2 (by decide) ⟨by decide, by decide⟩) lk_1004 rfl rfl (by decide) (by assumption) (by assumption) ⟨Nat.le_of_ble_eq_true rfl, Nat.le_of_ble_eq_true rfl⟩ ⟨Nat.le_refl _, Nat.le_refl _⟩ rfl (Nat.le_of_ble_eq_true rfl) dX8_worth_142 rfl ?_
  rintro z142 F142 A142 ⟨ez142, V142, hS142, v142, k142, g142⟩
  obtain rfl := ez142.symm
  replace hS142 : St 899 V142 F142 A142 := hS142
  have t142_r0 : tr V142 59 = (r 0) := (tr_keep (by decide) k142).trans t111_r0
  have t142_r1 : tr V142 70 = (r 1) := (tr_keep (by decide) k142).trans t111_r1
  have t142_r3 : tr V142 92 = (r 3) := (tr_keep (by decide) k142).trans t111_r3
  have t142_r4 : tr V142 154 = (r 4) := (tr_keep (by decide) k142).trans t111_r4
  have t142_r5 : tr V142 165 = (r 5) := (tr_keep (by decide) k142).trans t111_r5
  have t142_r7 : tr V142 187 = (r 7) := (tr_keep (by decide) k142).trans t111_r7
  have t142_r8 : tr V142 249 = (r 8) := (tr_keep (by decide) k142).trans t111_r8
  have t142_r9 : tr V142 260 = (r 9) := (tr_keep (by decide) k142).trans t111_r9
  have t142_r11 : tr V142 282 = (r 11) := (tr_keep (by decide) k142).trans t111_r11
  have t142_wj26 : tr V142 800 = wj26 := (tr_keep (by decide) k142).trans t111_wj26
  have t142_wj47 : tr V142 811 = wj47 := (tr_keep (by decide) k142).trans t111_wj47
  have t142_wj50 : tr V142 826 = wj50 := (tr_keep (by decide) k142).trans t111_wj50
  have t142_wj53 : tr V142 837 = wj53 := (tr_keep (by decide) k142).trans t111_wj53
  have t142_wj84 : tr V142 848 = wj84 := (tr_keep (by decide) k142).trans t111_wj84
  have t142_wj105 : tr V142 859 = wj105 := (tr_keep (by decide) k142).trans t111_wj105
  have t142_wj108 : tr V142 874 = wj108 := (tr_keep (by decide) k142).trans t111_wj108
  have t142_wj111 : tr V142 885 = wj111 := (tr_keep (by decide) k142).trans uwj111
  rw [show (888 : Int) + 8 = 896 from rfl]
  obtain ⟨wj142, ewj142⟩ : ∃ w : T3, w = tmul (r 4) (r 9) := ⟨_, rfl⟩
  have uwj142 : tr V142 896 = wj142 := by rw [ewj142]; exact v142
  have bwj142 : bdt 103 4 wj142 := by rw [ewj142]; exact (bdt_mul (hrw 4 (by decide)).2.2 (hrw 9 (by decide)).2.2 (by decide) (by decide))
  clear v142
  refine x_aload_n (pc2 := 146) hC rfl rfl dX8_worth_145 rfl ?_
  refine x_aload_n (pc2 := 147) hC rfl rfl dX8_worth_146 rfl ?_
  refine g_827 (pc2 := 150) hC hK (by assumption) (by assumption) (by assumption) dX8_worth_147 rfl ?_
  refine x_iconst (pc2 := 151) hC dX8_worth_150 rfl ?_
  refine x_iload_n (pc2 := 152) hC rfl rfl dX8_worth_151 rfl ?_
  refine x_iadd (pc2 := 153) hC dX8_worth_152 rfl ?_
  refine x_iald (pc2 := 154) hC hK (by assumption) (by assumption) (by omega) (by decide) dX8_worth_153 rfl ?_
  rw [show A142 11 (4 + 1) = 165 from (congrFun (((((((((g26.tr g47).tr g50).tr g53).tr g84).tr g105).tr g108).tr g111).tr g142).a (show 11 = 1 ∨ 11 = 2 ∨ 11 = 3 ∨ 11 = 10 ∨ 11 = 11 by decide)) _).trans (hrw 5 (by decide)).1]
  refine x_aload_n (pc2 := 155) hC rfl rfl dX8_worth_154 rfl ?_
  refine g_827 (pc2 := 158) hC hK (by assumption) (by assumption) (by assumption) dX8_worth_155 rfl ?_
  refine x_bipush (pc2 := 160) hC rfl dX8_worth_158 rfl ?_
  refine x_iload_n (pc2 := 161) hC rfl rfl dX8_worth_160 rfl ?_
  refine x_iadd (pc2 := 162) hC dX8_worth_161 rfl ?_
  refine x_iald (pc2 := 163) hC hK (by assumption) (by assumption) (by omega) (by decide) dX8_worth_162 rfl ?_
  rw [show A142 11 (8 + 0) = 249 from (congrFun (((((((((g26.tr g47).tr g50).tr g53).tr g84).tr g105).tr g108).tr g111).tr g142).a (show 11 = 1 ∨ 11 = 2 ∨ 11 = 3 ∨ 11 = 10 ∨ 11 = 11 by decide)) _).trans (hrw 8 (by decide)).1]
  refine x_cVi (pc2 := 166) (ci := 8) hC hK (t_product l hM hS142 (x := 165) (y := 249) ⟨by decide, by decide⟩ ⟨by decide, by decide⟩ t142_r5 t142_r8 (hrw 5 (by decide)).2.2 (hrw 8 (by decide)).2.2 (by decide) ⟨by decide, by decide⟩) lk_1004 rfl rfl (by decide) (by assumption) (by assumption) ⟨Nat.le_of_ble_eq_true rfl, Nat.le_of_ble_eq_true rfl⟩ ⟨Nat.le_refl _, Nat.le_refl _⟩ rfl (Nat.le_of_ble_eq_true rfl) dX8_worth_163 rfl ?_
  rintro z163 F163 A163 ⟨ez163, V163, hS163, v163, k163, g163⟩
  obtain rfl := ez163.symm
  replace hS163 : St 910 V163 F163 A163 := hS163
  have t163_r0 : tr V163 59 = (r 0) := (tr_keep (by decide) k163).trans t142_r0
  have t163_r1 : tr V163 70 = (r 1) := (tr_keep (by decide) k163).trans t142_r1
  have t163_r3 : tr V163 92 = (r 3) := (tr_keep (by decide) k163).trans t142_r3
  have t163_r4 : tr V163 154 = (r 4) := (tr_keep (by decide) k163).trans t142_r4
  have t163_r5 : tr V163 165 = (r 5) := (tr_keep (by decide) k163).trans t142_r5
  have t163_r7 : tr V163 187 = (r 7) := (tr_keep (by decide) k163).trans t142_r7
  have t163_r8 : tr V163 249 = (r 8) := (tr_keep (by decide) k163).trans t142_r8
  have t163_r9 : tr V163 260 = (r 9) := (tr_keep (by decide) k163).trans t142_r9
  have t163_r11 : tr V163 282 = (r 11) := (tr_keep (by decide) k163).trans t142_r11
  have t163_wj26 : tr V163 800 = wj26 := (tr_keep (by decide) k163).trans t142_wj26
  have t163_wj47 : tr V163 811 = wj47 := (tr_keep (by decide) k163).trans t142_wj47
  have t163_wj50 : tr V163 826 = wj50 := (tr_keep (by decide) k163).trans t142_wj50
  have t163_wj53 : tr V163 837 = wj53 := (tr_keep (by decide) k163).trans t142_wj53
  have t163_wj84 : tr V163 848 = wj84 := (tr_keep (by decide) k163).trans t142_wj84
  have t163_wj105 : tr V163 859 = wj105 := (tr_keep (by decide) k163).trans t142_wj105
  have t163_wj108 : tr V163 874 = wj108 := (tr_keep (by decide) k163).trans t142_wj108
  have t163_wj111 : tr V163 885 = wj111 := (tr_keep (by decide) k163).trans t142_wj111
  have t163_wj142 : tr V163 896 = wj142 := (tr_keep (by decide) k163).trans uwj142
  rw [show (899 : Int) + 8 = 907 from rfl]
  obtain ⟨wj163, ewj163⟩ : ∃ w : T3, w = tmul (r 5) (r 8) := ⟨_, rfl⟩
  have uwj163 : tr V163 907 = wj163 := by rw [ewj163]; exact v163
  have bwj163 : bdt 103 4 wj163 := by rw [ewj163]; exact (bdt_mul (hrw 5 (by decide)).2.2 (hrw 8 (by decide)).2.2 (by decide) (by decide))
  clear v163
  refine x_cVi (pc2 := 169) (ci := 8) hC hK (t_sub l hM hS163 (x := 896) (y := 907) ⟨by decide, by decide⟩ ⟨by decide, by decide⟩ t163_wj142 uwj163 bwj142 bwj163 (by decide) ⟨by decide, by decide, by decide⟩) lk_1012 rfl rfl (by decide) (by assumption) (by assumption) ⟨Nat.le_of_ble_eq_true rfl, Nat.le_of_ble_eq_true rfl⟩ ⟨Nat.le_refl _, Nat.le_refl _⟩ rfl (Nat.le_of_ble_eq_true rfl) dX8_worth_166 rfl ?_
  rintro z166 F166 A166 ⟨ez166, V166, hS166, v166, k166, g166⟩
  obtain rfl := ez166.symm
  replace hS166 : St 925 V166 F166 A166 := hS166
  have t166_r0 : tr V166 59 = (r 0) := (tr_keep (by decide) k166).trans t163_r0
  have t166_r1 : tr V166 70 = (r 1) := (tr_keep (by decide) k166).trans t163_r1
  have t166_r3 : tr V166 92 = (r 3) := (tr_keep (by decide) k166).trans t163_r3
  have t166_r4 : tr V166 154 = (r 4) := (tr_keep (by decide) k166).trans t163_r4
  have t166_r5 : tr V166 165 = (r 5) := (tr_keep (by decide) k166).trans t163_r5
  have t166_r7 : tr V166 187 = (r 7) := (tr_keep (by decide) k166).trans t163_r7
  have t166_r8 : tr V166 249 = (r 8) := (tr_keep (by decide) k166).trans t163_r8
  have t166_r9 : tr V166 260 = (r 9) := (tr_keep (by decide) k166).trans t163_r9
  have t166_r11 : tr V166 282 = (r 11) := (tr_keep (by decide) k166).trans t163_r11
  have t166_wj26 : tr V166 800 = wj26 := (tr_keep (by decide) k166).trans t163_wj26
  have t166_wj47 : tr V166 811 = wj47 := (tr_keep (by decide) k166).trans t163_wj47
  have t166_wj50 : tr V166 826 = wj50 := (tr_keep (by decide) k166).trans t163_wj50
  have t166_wj53 : tr V166 837 = wj53 := (tr_keep (by decide) k166).trans t163_wj53
  have t166_wj84 : tr V166 848 = wj84 := (tr_keep (by decide) k166).trans t163_wj84
  have t166_wj105 : tr V166 859 = wj105 := (tr_keep (by decide) k166).trans t163_wj105
  have t166_wj108 : tr V166 874 = wj108 := (tr_keep (by decide) k166).trans t163_wj108
  have t166_wj111 : tr V166 885 = wj111 := (tr_keep (by decide) k166).trans t163_wj111
  have t166_wj142 : tr V166 896 = wj142 := (tr_keep (by decide) k166).trans t163_wj142
  have t166_wj163 : tr V166 907 = wj163 := (tr_keep (by decide) k166).trans uwj163
  rw [show (910 : Int) + 12 = 922 from rfl]
  obtain ⟨wj166, ewj166⟩ : ∃ w : T3, w = tadd wj142 (tneg wj163) := ⟨_, rfl⟩
  have uwj166 : tr V166 922 = wj166 := by rw [ewj166]; exact v166
  have bwj166 : bdt 108 8 wj166 := by rw [ewj166]; exact (bdt_add bwj142 (bdt_neg bwj163) (by decide) (by decide) (by decide))
  clear v166
  refine x_cVi (pc2 := 172) (ci := 8) hC hK (t_product l hM hS166 (x := 92) (y := 922) ⟨by decide, by decide⟩ ⟨by decide, by decide⟩ t166_r3 uwj166 (hrw 3 (by decide)).2.2 bwj166 (by decide) ⟨by decide, by decide⟩) lk_1004 rfl rfl (by decide) (by assumption) (by assumption) ⟨Nat.le_of_ble_eq_true rfl, Nat.le_of_ble_eq_true rfl⟩ ⟨Nat.le_refl _, Nat.le_refl _⟩ rfl (Nat.le_of_ble_eq_true rfl) dX8_worth_169 rfl ?_
  rintro z169 F169 A169 ⟨ez169, V169, hS169, v169, k169, g169⟩
  obtain rfl := ez169.symm
  replace hS169 : St 936 V169 F169 A169 := hS169
  have t169_r0 : tr V169 59 = (r 0) := (tr_keep (by decide) k169).trans t166_r0
  have t169_r1 : tr V169 70 = (r 1) := (tr_keep (by decide) k169).trans t166_r1
  have t169_r3 : tr V169 92 = (r 3) := (tr_keep (by decide) k169).trans t166_r3
  have t169_r4 : tr V169 154 = (r 4) := (tr_keep (by decide) k169).trans t166_r4
  have t169_r5 : tr V169 165 = (r 5) := (tr_keep (by decide) k169).trans t166_r5
  have t169_r7 : tr V169 187 = (r 7) := (tr_keep (by decide) k169).trans t166_r7
  have t169_r8 : tr V169 249 = (r 8) := (tr_keep (by decide) k169).trans t166_r8
  have t169_r9 : tr V169 260 = (r 9) := (tr_keep (by decide) k169).trans t166_r9
  have t169_r11 : tr V169 282 = (r 11) := (tr_keep (by decide) k169).trans t166_r11
  have t169_wj26 : tr V169 800 = wj26 := (tr_keep (by decide) k169).trans t166_wj26
  have t169_wj47 : tr V169 811 = wj47 := (tr_keep (by decide) k169).trans t166_wj47
  have t169_wj50 : tr V169 826 = wj50 := (tr_keep (by decide) k169).trans t166_wj50
  have t169_wj53 : tr V169 837 = wj53 := (tr_keep (by decide) k169).trans t166_wj53
  have t169_wj84 : tr V169 848 = wj84 := (tr_keep (by decide) k169).trans t166_wj84
  have t169_wj105 : tr V169 859 = wj105 := (tr_keep (by decide) k169).trans t166_wj105
  have t169_wj108 : tr V169 874 = wj108 := (tr_keep (by decide) k169).trans t166_wj108
  have t169_wj111 : tr V169 885 = wj111 := (tr_keep (by decide) k169).trans t166_wj111
  have t169_wj142 : tr V169 896 = wj142 := (tr_keep (by decide) k169).trans t166_wj142
  have t169_wj163 : tr V169 907 = wj163 := (tr_keep (by decide) k169).trans t166_wj163
  have t169_wj166 : tr V169 922 = wj166 := (tr_keep (by decide) k169).trans uwj166
  rw [show (925 : Int) + 8 = 933 from rfl]
  obtain ⟨wj169, ewj169⟩ : ∃ w : T3, w = tmul (r 3) wj166 := ⟨_, rfl⟩
  have uwj169 : tr V169 933 = wj169 := by rw [ewj169]; exact v169
  have bwj169 : bdt 160 10 wj169 := by rw [ewj169]; exact (bdt_mul (hrw 3 (by decide)).2.2 bwj166 (by decide) (by decide))
  clear v169
  refine x_istore (pc2 := 174) (loc2 := [_, _, _, _, _, _, _]) hC (by decide) rfl dX8_worth_172 rfl ?_
  refine x_aload_n (pc2 := 175) hC rfl rfl dX8_worth_174 rfl ?_
  refine x_aload_n (pc2 := 176) hC rfl rfl dX8_worth_175 rfl ?_
  refine x_iload (pc2 := 178) hC rfl dX8_worth_176 rfl ?_
  refine x_iload (pc2 := 180) hC rfl dX8_worth_178 rfl ?_
  refine x_cVi (pc2 := 183) (ci := 8) hC hK (t_sub l hM hS169 (x := 837) (y := 885) ⟨by decide, by decide⟩ ⟨by decide, by decide⟩ t169_wj53 t169_wj111 bwj53 bwj111 (by decide) ⟨by decide, by decide, by decide⟩) lk_1012 rfl rfl (by decide) (by assumption) (by assumption) ⟨Nat.le_of_ble_eq_true rfl, Nat.le_of_ble_eq_true rfl⟩ ⟨Nat.le_refl _, Nat.le_refl _⟩ rfl (Nat.le_of_ble_eq_true rfl) dX8_worth_180 rfl ?_
  rintro z180 F180 A180 ⟨ez180, V180, hS180, v180, k180, g180⟩
  obtain rfl := ez180.symm
  replace hS180 : St 951 V180 F180 A180 := hS180
  have t180_r0 : tr V180 59 = (r 0) := (tr_keep (by decide) k180).trans t169_r0
  have t180_r1 : tr V180 70 = (r 1) := (tr_keep (by decide) k180).trans t169_r1
  have t180_r3 : tr V180 92 = (r 3) := (tr_keep (by decide) k180).trans t169_r3
  have t180_r4 : tr V180 154 = (r 4) := (tr_keep (by decide) k180).trans t169_r4
  have t180_r5 : tr V180 165 = (r 5) := (tr_keep (by decide) k180).trans t169_r5
  have t180_r7 : tr V180 187 = (r 7) := (tr_keep (by decide) k180).trans t169_r7
  have t180_r8 : tr V180 249 = (r 8) := (tr_keep (by decide) k180).trans t169_r8
  have t180_r9 : tr V180 260 = (r 9) := (tr_keep (by decide) k180).trans t169_r9
  have t180_r11 : tr V180 282 = (r 11) := (tr_keep (by decide) k180).trans t169_r11
  have t180_wj26 : tr V180 800 = wj26 := (tr_keep (by decide) k180).trans t169_wj26
  have t180_wj47 : tr V180 811 = wj47 := (tr_keep (by decide) k180).trans t169_wj47
  have t180_wj50 : tr V180 826 = wj50 := (tr_keep (by decide) k180).trans t169_wj50
  have t180_wj53 : tr V180 837 = wj53 := (tr_keep (by decide) k180).trans t169_wj53
  have t180_wj84 : tr V180 848 = wj84 := (tr_keep (by decide) k180).trans t169_wj84
  have t180_wj105 : tr V180 859 = wj105 := (tr_keep (by decide) k180).trans t169_wj105
  have t180_wj108 : tr V180 874 = wj108 := (tr_keep (by decide) k180).trans t169_wj108
  have t180_wj111 : tr V180 885 = wj111 := (tr_keep (by decide) k180).trans t169_wj111
  have t180_wj142 : tr V180 896 = wj142 := (tr_keep (by decide) k180).trans t169_wj142
  have t180_wj163 : tr V180 907 = wj163 := (tr_keep (by decide) k180).trans t169_wj163
  have t180_wj166 : tr V180 922 = wj166 := (tr_keep (by decide) k180).trans t169_wj166
  have t180_wj169 : tr V180 933 = wj169 := (tr_keep (by decide) k180).trans uwj169
  rw [show (936 : Int) + 12 = 948 from rfl]
  obtain ⟨wj180, ewj180⟩ : ∃ w : T3, w = tadd wj53 (tneg wj111) := ⟨_, rfl⟩
  have uwj180 : tr V180 948 = wj180 := by rw [ewj180]; exact v180
  have bwj180 : bdt 171 20 wj180 := by rw [ewj180]; exact (bdt_add bwj53 (bdt_neg bwj111) (by decide) (by decide) (by decide))
  clear v180
  refine x_iload (pc2 := 185) hC rfl dX8_worth_183 rfl ?_
  refine x_cVi (pc2 := 188) (ci := 8) hC hK (t_added l hM hS180 (x := 948) (y := 933) ⟨by decide, by decide⟩ ⟨by decide, by decide⟩ uwj180 t180_wj169 bwj180 bwj169 (by decide) ⟨by decide, by decide, by decide⟩) lk_1020 rfl rfl (by decide) (by assumption) (by assumption) ⟨Nat.le_of_ble_eq_true rfl, Nat.le_of_ble_eq_true rfl⟩ ⟨Nat.le_refl _, Nat.le_refl _⟩ rfl (Nat.le_of_ble_eq_true rfl) dX8_worth_185 rfl ?_
  rintro z185 F185 A185 ⟨ez185, V185, hS185, v185, k185, g185⟩
  obtain rfl := ez185.symm
  replace hS185 : St 961 V185 F185 A185 := hS185
  have t185_r0 : tr V185 59 = (r 0) := (tr_keep (by decide) k185).trans t180_r0
  have t185_r1 : tr V185 70 = (r 1) := (tr_keep (by decide) k185).trans t180_r1
  have t185_r3 : tr V185 92 = (r 3) := (tr_keep (by decide) k185).trans t180_r3
  have t185_r4 : tr V185 154 = (r 4) := (tr_keep (by decide) k185).trans t180_r4
  have t185_r5 : tr V185 165 = (r 5) := (tr_keep (by decide) k185).trans t180_r5
  have t185_r7 : tr V185 187 = (r 7) := (tr_keep (by decide) k185).trans t180_r7
  have t185_r8 : tr V185 249 = (r 8) := (tr_keep (by decide) k185).trans t180_r8
  have t185_r9 : tr V185 260 = (r 9) := (tr_keep (by decide) k185).trans t180_r9
  have t185_r11 : tr V185 282 = (r 11) := (tr_keep (by decide) k185).trans t180_r11
  have t185_wj26 : tr V185 800 = wj26 := (tr_keep (by decide) k185).trans t180_wj26
  have t185_wj47 : tr V185 811 = wj47 := (tr_keep (by decide) k185).trans t180_wj47
  have t185_wj50 : tr V185 826 = wj50 := (tr_keep (by decide) k185).trans t180_wj50
  have t185_wj53 : tr V185 837 = wj53 := (tr_keep (by decide) k185).trans t180_wj53
  have t185_wj84 : tr V185 848 = wj84 := (tr_keep (by decide) k185).trans t180_wj84
  have t185_wj105 : tr V185 859 = wj105 := (tr_keep (by decide) k185).trans t180_wj105
  have t185_wj108 : tr V185 874 = wj108 := (tr_keep (by decide) k185).trans t180_wj108
  have t185_wj111 : tr V185 885 = wj111 := (tr_keep (by decide) k185).trans t180_wj111
  have t185_wj142 : tr V185 896 = wj142 := (tr_keep (by decide) k185).trans t180_wj142
  have t185_wj163 : tr V185 907 = wj163 := (tr_keep (by decide) k185).trans t180_wj163
  have t185_wj166 : tr V185 922 = wj166 := (tr_keep (by decide) k185).trans t180_wj166
  have t185_wj169 : tr V185 933 = wj169 := (tr_keep (by decide) k185).trans t180_wj169
  have t185_wj180 : tr V185 948 = wj180 := (tr_keep (by decide) k185).trans uwj180
  rw [show (951 : Int) + 7 = 958 from rfl]
  obtain ⟨wj185, ewj185⟩ : ∃ w : T3, w = tadd wj180 wj169 := ⟨_, rfl⟩
  have uwj185 : tr V185 958 = wj185 := by rw [ewj185]; exact v185
  have bwj185 : bdt 182 30 wj185 := by rw [ewj185]; exact (bdt_add bwj180 bwj169 (by decide) (by decide) (by decide))
  clear v185
  exact x_iret hC hr hlk ⟨_, rfl, rfl, V185, hS185, (uwj185).trans (by rw [ewj185, ewj180, ewj53, ewj50, ewj26, ewj47, ewj111, ewj108, ewj84, ewj105, ewj169, ewj166, ewj142, ewj163]; rfl), fun u hu => (k185 u (by omega)).trans ((k180 u (by omega)).trans ((k169 u (by omega)).trans ((k166 u (by omega)).trans ((k163 u (by omega)).trans ((k142 u (by omega)).trans ((k111 u (by omega)).trans ((k108 u (by omega)).trans ((k105 u (by omega)).trans ((k84 u (by omega)).trans ((k53 u (by omega)).trans ((k50 u (by omega)).trans ((k47 u (by omega)).trans (k26 u hu))))))))))))), (((((((((((((g26.tr g47).tr g50).tr g53).tr g84).tr g105).tr g108).tr g111).tr g142).tr g163).tr g166).tr g169).tr g180).tr g185)⟩ dX8_worth_188
