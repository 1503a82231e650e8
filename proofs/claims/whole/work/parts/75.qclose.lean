theorem dX8_close_0 : decode cX8_close 0 = .ok (.aload_n 0, 1) := by decide +kernel
theorem dX8_close_1 : decode cX8_close 1 = .ok (.iload_n 1, 1) := by decide +kernel
theorem dX8_close_2 : decode cX8_close 2 = .ok (.iconst 1, 1) := by decide +kernel
theorem dX8_close_3 : decode cX8_close 3 = .ok (.invokevirtual 193, 3) := by decide +kernel
theorem dX8_close_6 : decode cX8_close 6 = .ok (.ifCond .eq 21, 3) := by decide +kernel
theorem dX8_close_9 : decode cX8_close 9 = .ok (.aload_n 0, 1) := by decide +kernel
theorem dX8_close_10 : decode cX8_close 10 = .ok (.iload_n 2, 1) := by decide +kernel
theorem dX8_close_11 : decode cX8_close 11 = .ok (.iconst 2, 1) := by decide +kernel
theorem dX8_close_12 : decode cX8_close 12 = .ok (.invokevirtual 193, 3) := by decide +kernel
theorem dX8_close_15 : decode cX8_close 15 = .ok (.ifCond .eq 12, 3) := by decide +kernel
theorem dX8_close_18 : decode cX8_close 18 = .ok (.aload_n 0, 1) := by decide +kernel
theorem dX8_close_19 : decode cX8_close 19 = .ok (.iload_n 3, 1) := by decide +kernel
theorem dX8_close_20 : decode cX8_close 20 = .ok (.iconst 1, 1) := by decide +kernel
theorem dX8_close_21 : decode cX8_close 21 = .ok (.invokevirtual 193, 3) := by decide +kernel
theorem dX8_close_24 : decode cX8_close 24 = .ok (.ifCond .ne 5, 3) := by decide +kernel
theorem dX8_close_27 : decode cX8_close 27 = .ok (.iconst (-1), 1) := by decide +kernel
theorem dX8_close_28 : decode cX8_close 28 = .ok (.ireturn, 1) := by decide +kernel
theorem dX8_close_29 : decode cX8_close 29 = .ok (.iconst 0, 1) := by decide +kernel
theorem dX8_close_30 : decode cX8_close 30 = .ok (.istore 4, 2) := by decide +kernel
theorem dX8_close_32 : decode cX8_close 32 = .ok (.iload 4, 2) := by decide +kernel
theorem dX8_close_34 : decode cX8_close 34 = .ok (.iconst 4, 1) := by decide +kernel
theorem dX8_close_35 : decode cX8_close 35 = .ok (.if_icmp .ge 60, 3) := by decide +kernel
theorem dX8_close_38 : decode cX8_close 38 = .ok (.aload_n 0, 1) := by decide +kernel
theorem dX8_close_39 : decode cX8_close 39 = .ok (.iconst 0, 1) := by decide +kernel
theorem dX8_close_40 : decode cX8_close 40 = .ok (.putfield 52, 3) := by decide +kernel
theorem dX8_close_43 : decode cX8_close 43 = .ok (.aload_n 0, 1) := by decide +kernel
theorem dX8_close_44 : decode cX8_close 44 = .ok (.aload_n 0, 1) := by decide +kernel
theorem dX8_close_45 : decode cX8_close 45 = .ok (.aload_n 0, 1) := by decide +kernel
theorem dX8_close_46 : decode cX8_close 46 = .ok (.lconst 1, 1) := by decide +kernel
theorem dX8_close_47 : decode cX8_close 47 = .ok (.invokevirtual 197, 3) := by decide +kernel
theorem dX8_close_50 : decode cX8_close 50 = .ok (.aload_n 0, 1) := by decide +kernel
theorem dX8_close_51 : decode cX8_close 51 = .ok (.aload_n 0, 1) := by decide +kernel
theorem dX8_close_52 : decode cX8_close 52 = .ok (.iload_n 2, 1) := by decide +kernel
theorem dX8_close_53 : decode cX8_close 53 = .ok (.iload 4, 2) := by decide +kernel
theorem dX8_close_55 : decode cX8_close 55 = .ok (.iconst 1, 1) := by decide +kernel
theorem dX8_close_56 : decode cX8_close 56 = .ok (.iconst 1, 1) := by decide +kernel
theorem dX8_close_57 : decode cX8_close 57 = .ok (.invokevirtual 200, 3) := by decide +kernel
theorem dX8_close_60 : decode cX8_close 60 = .ok (.aload_n 0, 1) := by decide +kernel
theorem dX8_close_61 : decode cX8_close 61 = .ok (.iload_n 3, 1) := by decide +kernel
theorem dX8_close_62 : decode cX8_close 62 = .ok (.iload 4, 2) := by decide +kernel
theorem dX8_close_64 : decode cX8_close 64 = .ok (.iconst 0, 1) := by decide +kernel
theorem dX8_close_65 : decode cX8_close 65 = .ok (.iconst 0, 1) := by decide +kernel
theorem dX8_close_66 : decode cX8_close 66 = .ok (.invokevirtual 200, 3) := by decide +kernel
theorem dX8_close_69 : decode cX8_close 69 = .ok (.invokevirtual 118, 3) := by decide +kernel
theorem dX8_close_72 : decode cX8_close 72 = .ok (.invokevirtual 203, 3) := by decide +kernel
theorem dX8_close_75 : decode cX8_close 75 = .ok (.invokevirtual 206, 3) := by decide +kernel
theorem dX8_close_78 : decode cX8_close 78 = .ok (.ifCond .eq 11, 3) := by decide +kernel
theorem dX8_close_81 : decode cX8_close 81 = .ok (.aload_n 0, 1) := by decide +kernel
theorem dX8_close_82 : decode cX8_close 82 = .ok (.iload 4, 2) := by decide +kernel
theorem dX8_close_84 : decode cX8_close 84 = .ok (.iconst 1, 1) := by decide +kernel
theorem dX8_close_85 : decode cX8_close 85 = .ok (.invokevirtual 209, 3) := by decide +kernel
theorem dX8_close_88 : decode cX8_close 88 = .ok (.ireturn, 1) := by decide +kernel
theorem dX8_close_89 : decode cX8_close 89 = .ok (.iinc 4 1, 3) := by decide +kernel
theorem dX8_close_92 : decode cX8_close 92 = .ok (.goto (-60), 3) := by decide +kernel
theorem dX8_close_95 : decode cX8_close 95 = .ok (.aload_n 0, 1) := by decide +kernel
theorem dX8_close_96 : decode cX8_close 96 = .ok (.invokevirtual 212, 3) := by decide +kernel
theorem dX8_close_99 : decode cX8_close 99 = .ok (.iconst 0, 1) := by decide +kernel
theorem dX8_close_100 : decode cX8_close 100 = .ok (.istore 4, 2) := by decide +kernel
theorem dX8_close_102 : decode cX8_close 102 = .ok (.iload 4, 2) := by decide +kernel
theorem dX8_close_104 : decode cX8_close 104 = .ok (.iconst 4, 1) := by decide +kernel
theorem dX8_close_105 : decode cX8_close 105 = .ok (.if_icmp .ge 113, 3) := by decide +kernel
theorem dX8_close_108 : decode cX8_close 108 = .ok (.aload_n 0, 1) := by decide +kernel
theorem dX8_close_109 : decode cX8_close 109 = .ok (.iconst 0, 1) := by decide +kernel
theorem dX8_close_110 : decode cX8_close 110 = .ok (.putfield 52, 3) := by decide +kernel
theorem dX8_close_113 : decode cX8_close 113 = .ok (.aload_n 0, 1) := by decide +kernel
theorem dX8_close_114 : decode cX8_close 114 = .ok (.aload_n 0, 1) := by decide +kernel
theorem dX8_close_115 : decode cX8_close 115 = .ok (.lconst 1, 1) := by decide +kernel
theorem dX8_close_116 : decode cX8_close 116 = .ok (.invokevirtual 197, 3) := by decide +kernel
theorem dX8_close_119 : decode cX8_close 119 = .ok (.aload_n 0, 1) := by decide +kernel
theorem dX8_close_120 : decode cX8_close 120 = .ok (.aload_n 0, 1) := by decide +kernel
theorem dX8_close_121 : decode cX8_close 121 = .ok (.iload_n 2, 1) := by decide +kernel
theorem dX8_close_122 : decode cX8_close 122 = .ok (.iload 4, 2) := by decide +kernel
theorem dX8_close_124 : decode cX8_close 124 = .ok (.iconst 1, 1) := by decide +kernel
theorem dX8_close_125 : decode cX8_close 125 = .ok (.iconst 1, 1) := by decide +kernel
theorem dX8_close_126 : decode cX8_close 126 = .ok (.invokevirtual 200, 3) := by decide +kernel
theorem dX8_close_129 : decode cX8_close 129 = .ok (.aload_n 0, 1) := by decide +kernel
theorem dX8_close_130 : decode cX8_close 130 = .ok (.iload_n 3, 1) := by decide +kernel
theorem dX8_close_131 : decode cX8_close 131 = .ok (.iload 4, 2) := by decide +kernel
theorem dX8_close_133 : decode cX8_close 133 = .ok (.iconst 0, 1) := by decide +kernel
theorem dX8_close_134 : decode cX8_close 134 = .ok (.iconst 0, 1) := by decide +kernel
theorem dX8_close_135 : decode cX8_close 135 = .ok (.invokevirtual 200, 3) := by decide +kernel
theorem dX8_close_138 : decode cX8_close 138 = .ok (.invokevirtual 118, 3) := by decide +kernel
theorem dX8_close_141 : decode cX8_close 141 = .ok (.invokevirtual 203, 3) := by decide +kernel
theorem dX8_close_144 : decode cX8_close 144 = .ok (.istore 5, 2) := by decide +kernel
theorem dX8_close_146 : decode cX8_close 146 = .ok (.aload_n 0, 1) := by decide +kernel
theorem dX8_close_147 : decode cX8_close 147 = .ok (.aload_n 0, 1) := by decide +kernel
theorem dX8_close_148 : decode cX8_close 148 = .ok (.aload_n 0, 1) := by decide +kernel
theorem dX8_close_149 : decode cX8_close 149 = .ok (.iload_n 2, 1) := by decide +kernel
theorem dX8_close_150 : decode cX8_close 150 = .ok (.iload 4, 2) := by decide +kernel
theorem dX8_close_152 : decode cX8_close 152 = .ok (.iconst 0, 1) := by decide +kernel
theorem dX8_close_153 : decode cX8_close 153 = .ok (.iconst 1, 1) := by decide +kernel
theorem dX8_close_154 : decode cX8_close 154 = .ok (.invokevirtual 200, 3) := by decide +kernel
theorem dX8_close_157 : decode cX8_close 157 = .ok (.aload_n 0, 1) := by decide +kernel
theorem dX8_close_158 : decode cX8_close 158 = .ok (.iload_n 2, 1) := by decide +kernel
theorem dX8_close_159 : decode cX8_close 159 = .ok (.iload 4, 2) := by decide +kernel
theorem dX8_close_161 : decode cX8_close 161 = .ok (.iconst 1, 1) := by decide +kernel
theorem dX8_close_162 : decode cX8_close 162 = .ok (.iconst 0, 1) := by decide +kernel
theorem dX8_close_163 : decode cX8_close 163 = .ok (.invokevirtual 200, 3) := by decide +kernel
theorem dX8_close_166 : decode cX8_close 166 = .ok (.invokevirtual 118, 3) := by decide +kernel
theorem dX8_close_169 : decode cX8_close 169 = .ok (.aload_n 0, 1) := by decide +kernel
theorem dX8_close_170 : decode cX8_close 170 = .ok (.iload_n 3, 1) := by decide +kernel
theorem dX8_close_171 : decode cX8_close 171 = .ok (.iload 4, 2) := by decide +kernel
theorem dX8_close_173 : decode cX8_close 173 = .ok (.iconst 0, 1) := by decide +kernel
theorem dX8_close_174 : decode cX8_close 174 = .ok (.iconst 0, 1) := by decide +kernel
theorem dX8_close_175 : decode cX8_close 175 = .ok (.invokevirtual 200, 3) := by decide +kernel
theorem dX8_close_178 : decode cX8_close 178 = .ok (.invokevirtual 118, 3) := by decide +kernel
theorem dX8_close_181 : decode cX8_close 181 = .ok (.istore 6, 2) := by decide +kernel
theorem dX8_close_183 : decode cX8_close 183 = .ok (.aload_n 0, 1) := by decide +kernel
theorem dX8_close_184 : decode cX8_close 184 = .ok (.iload 4, 2) := by decide +kernel
theorem dX8_close_186 : decode cX8_close 186 = .ok (.iconst 0, 1) := by decide +kernel
theorem dX8_close_187 : decode cX8_close 187 = .ok (.iconst 0, 1) := by decide +kernel
theorem dX8_close_188 : decode cX8_close 188 = .ok (.aload_n 0, 1) := by decide +kernel
theorem dX8_close_189 : decode cX8_close 189 = .ok (.aload_n 0, 1) := by decide +kernel
theorem dX8_close_190 : decode cX8_close 190 = .ok (.iload_n 2, 1) := by decide +kernel
theorem dX8_close_191 : decode cX8_close 191 = .ok (.iload 4, 2) := by decide +kernel
theorem dX8_close_193 : decode cX8_close 193 = .ok (.iconst 0, 1) := by decide +kernel
theorem dX8_close_194 : decode cX8_close 194 = .ok (.iconst 0, 1) := by decide +kernel
theorem dX8_close_195 : decode cX8_close 195 = .ok (.invokevirtual 200, 3) := by decide +kernel
theorem dX8_close_198 : decode cX8_close 198 = .ok (.aload_n 0, 1) := by decide +kernel
theorem dX8_close_199 : decode cX8_close 199 = .ok (.iload 6, 2) := by decide +kernel
theorem dX8_close_201 : decode cX8_close 201 = .ok (.iload 5, 2) := by decide +kernel
theorem dX8_close_203 : decode cX8_close 203 = .ok (.invokevirtual 219, 3) := by decide +kernel
theorem dX8_close_206 : decode cX8_close 206 = .ok (.invokevirtual 109, 3) := by decide +kernel
theorem dX8_close_209 : decode cX8_close 209 = .ok (.invokevirtual 173, 3) := by decide +kernel
theorem dX8_close_212 : decode cX8_close 212 = .ok (.iinc 4 1, 3) := by decide +kernel
theorem dX8_close_215 : decode cX8_close 215 = .ok (.goto (-113), 3) := by decide +kernel
theorem dX8_close_218 : decode cX8_close 218 = .ok (.aload_n 0, 1) := by decide +kernel
theorem dX8_close_219 : decode cX8_close 219 = .ok (.iload_n 1, 1) := by decide +kernel
theorem dX8_close_220 : decode cX8_close 220 = .ok (.invokevirtual 177, 3) := by decide +kernel
theorem dX8_close_223 : decode cX8_close 223 = .ok (.ireturn, 1) := by decide +kernel
set_option maxHeartbeats 16000000 in
theorem q_close (l : Launch) {D : va_G} {ids : Nat → ClassId} {β : Nat} {sh : Nat → Nat × Nat} {N : Nat} {R : Nat → Nat → Option Nat} {F : Nat → Nat → Int} {A : Nat → Int → Int} {S : SP} (hM : MoL sh R N) (hR0 : RepM S F A) {c0 a b : Int} (hc : I32 c0) (ha0 : I32 a) (hb0 : I32 b) : MetX l yX8_close cX8_close 7 (some (.int)) 5 119 D ids β sh N R F A [rf 0, pI c0, pI a, pI b] (pIr (fun z F2 A2 => ∃ S2, rClose S c0 a b z S2 ∧ RepM S2 F2 A2)) := by
  refine MetX.of (loc := [_, _, _, _, _, _, _]) (plainFor_of_name (by decide +kernel)) (Nat.le_of_ble_eq_true rfl) rfl ?_
  intro p e s m args below meth c hC hK hr hlk
  obtain ⟨⟨m0, m1⟩, ⟨rx0, r2, r3, r7, r8, r9, r11, r12, r13, r16, r18⟩, ⟨m2, m3⟩, ⟨m4, m5⟩, ⟨m6, m7⟩, ⟨m8, m9⟩, ⟨m10, m11⟩, ⟨m12, m13⟩, ⟨m14, m15⟩, ⟨m16, m17⟩, ⟨m18, m19⟩, ⟨m20, m21⟩, ⟨m22, m23⟩⟩ := id hM
  obtain ⟨hi, b1, b2, b3, b4, b5, b6, b7, b8⟩ := id hR0
  have i1 := hi.1
  have n16 := hi.1.2
  have loop2 : (hasB S c0 1 ∧ hasB S a 2 ∧ hasB S b 1) → (∀ t, isT t → (fun t => itC ((closeE (nmN S a t) (nm S b t 0)).1 = (0, 0)) 1 0) t = 0) → ∀ (d : Nat) (t : Int) (F1 : Nat → Nat → Int) (A1 : Nat → Int → Int) {e5 e6 : Option PV}, 4 - t < d → 0 ≤ t → t ≤ 4 → RepM S F1 A1 → MkD (fun t e => closeX (nmN S a t) (nm S b t 0) e) (A1 10) (F1 0 17) (fun t0 e0 => t0 < t ∧ e0 = 0) → X p l e { frames := 5, cells := 0, slots := 0, locals := 119 } s m args below meth c (MQ below (QX D ids β sh N R (pIr (fun z F2 A2 => ∃ S2, rClose S c0 a b z S2 ∧ RepM S2 F2 A2))) args s 0 0 (inG β N)) (inG β N) D ids β sh 7 0 0 N R F1 A1 [some (rf 0), some (pI c0), some (pI a), some (pI b), some (pI t), e5, e6] [] 102 := by
    intro hok hdv d
    induction d with
    | zero => intro t F1 A1 e5 e6 hd; omega
    | succ d ih =>
      intro t F1 A1 e5 e6 hd t0 t4 hR1 hmk
      have h17 : F1 0 17 = 0 ∨ F1 0 17 = 1 := by rcases hmk.1 with ⟨q, -⟩ | ⟨q, -⟩ <;> omega
      have hdn : isT t → ¬ (closeE (nmN S a t) (nm S b t 0)).1 = (0, 0) := fun ht y => by
        have := hdv t ht
        dsimp only at this
        rw [itC_pos y] at this
        exact absurd this (by decide)
      obtain ⟨⟨hc2, -⟩, ⟨ha, -⟩, hb, -⟩ := id hok
      have a16 := ha.2
      have b16 := hb.2
      have a00 := ha.1
      have b00 := hb.1
      have hb6 := hR1.2.2.2.2.2.2.1
      refine x_iload (pc2 := 104) hC rfl dX8_close_102 rfl ?_
      refine x_iconst (pc2 := 105) hC dX8_close_104 rfl ?_
      refine x_icmp_ge (tgt := 218) (pc2 := 108) hC (by omega) (by omega) dX8_close_105 rfl rfl (fun h_105 => ?_) (fun h_105 => ?_)
      · obtain ⟨hb17, w, hwf, hm1, hm2, hm3⟩ := hmk.ends hi hok.1.1 (fun t0 e0 h1 h2 q => if_neg (fun y => q ⟨by omega, y⟩)) (fun y t0 e0 h1 h2 h3 => if_neg h3)
        refine x_aload_n (pc2 := 219) hC rfl rfl dX8_close_218 rfl ?_
        refine x_iload_n (pc2 := 220) hC rfl rfl dX8_close_219 rfl ?_
        refine x_cVi (pc2 := 223) (ci := 8) hC hK (q_ends l hM hR1 hok.1.1 hwf hb17 hm1) lk_957 rfl rfl (by decide) (by assumption) (by assumption) ⟨Nat.le_of_ble_eq_true rfl, Nat.le_of_ble_eq_true rfl⟩ ⟨Nat.le_refl _, Nat.le_refl _⟩ rfl (Nat.le_of_ble_eq_true rfl) dX8_close_220 rfl ?_
        rintro z220 F220 A220 hq
        obtain ⟨S2, hs2, hR2⟩ : ∃ S2, ((F1 0 17 = 1 ∧ z220 = -5 ∧ S2 = S) ∨ (F1 0 17 = 0 ∧ z220 = 0 ∧ S2 = actS S c0 w)) ∧ RepM S2 F220 A220 := by
          rcases hq with ⟨q1, q2, q3⟩ | ⟨q1, q2, q3⟩
          · exact ⟨_, Or.inl ⟨q1, q2, rfl⟩, q3⟩
          · exact ⟨_, Or.inr ⟨q1, q2, rfl⟩, q3⟩
        exact x_iret hC hr hlk ⟨_, rfl, S2, Or.inr ⟨hok, spAct.ok hdv hm2 hm3 hs2⟩, hR2⟩ dX8_close_223
      · have ht : isT t := by omega
        have hdt := hdn ht
        refine x_aload_n (pc2 := 109) hC rfl rfl dX8_close_108 rfl ?_
        refine x_iconst (pc2 := 110) hC dX8_close_109 rfl ?_
        refine p_819 (pc2 := 113) hC hK (by assumption) (by assumption) dX8_close_110 rfl ?_
        refine x_aload_n (pc2 := 114) hC rfl rfl dX8_close_113 rfl ?_
        refine x_aload_n (pc2 := 115) hC rfl rfl dX8_close_114 rfl ?_
        refine x_lconst1 (pc2 := 116) hC dX8_close_115 rfl ?_
        refine x_cVi (pc2 := 119) (ci := 8) hC hK (t_whole l hM (St.zero (F := F1) (A := A1)) (by decide) (v := 1) (by decide)) lk_981 rfl rfl (by decide) (by assumption) (by assumption) ⟨Nat.le_of_ble_eq_true rfl, Nat.le_of_ble_eq_true rfl⟩ ⟨Nat.le_refl _, Nat.le_refl _⟩ rfl (Nat.le_of_ble_eq_true rfl) dX8_close_116 rfl ?_
        rintro z116 F116 A116 ⟨ez116, V116, hS116, v116, k116, g116⟩
        obtain rfl := ez116.symm
        replace hS116 : St 6 V116 F116 A116 := hS116
        rw [show (0 : Int) + 3 = 3 from rfl]
        obtain ⟨wm116, ewm116⟩ : ∃ w : T3, w = (1, 0, 1) := ⟨_, rfl⟩
        have uwm116 : tr V116 3 = wm116 := by rw [ewm116]; exact v116
        have bwm116 : bdt 1 1 wm116 := by rw [ewm116]; exact ⟨by unfold bd; decide, by unfold bd; decide, by unfold bd; decide⟩
        clear v116
        refine x_aload_n (pc2 := 120) hC rfl rfl dX8_close_119 rfl ?_
        refine x_aload_n (pc2 := 121) hC rfl rfl dX8_close_120 rfl ?_
        refine x_iload_n (pc2 := 122) hC rfl rfl dX8_close_121 rfl ?_
        refine x_iload (pc2 := 124) hC rfl dX8_close_122 rfl ?_
        refine x_iconst (pc2 := 125) hC dX8_close_124 rfl ?_
        refine x_iconst (pc2 := 126) hC dX8_close_125 rfl ?_
        refine x_cVi (pc2 := 129) (ci := 8) hC hK (t_entry l hM hS116 (by decide) ⟨by omega, by omega⟩ (x := vS S a t 3) (by rw [g116.a (by decide)]; exact (show held (A1 2) (96 * a + 24 * t + 6 * (2 * 1 + 1)) (vS S a t 3) from hb6 a t 3 ha ht ⟨by decide, by decide⟩)) ((hi.2.1 a ha).2 t 3 ht ⟨by decide, by decide⟩).1.2.2) lk_985 rfl rfl (by decide) (by assumption) (by assumption) ⟨Nat.le_of_ble_eq_true rfl, Nat.le_of_ble_eq_true rfl⟩ ⟨Nat.le_refl _, Nat.le_refl _⟩ rfl (Nat.le_of_ble_eq_true rfl) dX8_close_126 rfl ?_
        rintro z126 F126 A126 ⟨ez126, V126, hS126, v126, k126, g126⟩
        obtain rfl := ez126.symm
        replace hS126 : St 24 V126 F126 A126 := hS126
        have t126_wm116 : tr V126 3 = wm116 := (tr_keep (by decide) k126).trans uwm116
        rw [show (6 : Int) + 15 = 21 from rfl]
        obtain ⟨wm126, ewm126⟩ : ∃ w : T3, w = vS S a t 3 := ⟨_, rfl⟩
        have uwm126 : tr V126 21 = wm126 := by rw [ewm126]; exact v126
        have bwm126 : bdt 25 25 wm126 := by rw [ewm126]; exact (ok_bdt ((hi.2.1 a ha).2 t 3 ht ⟨by decide, by decide⟩).1)
        clear v126
        refine x_aload_n (pc2 := 130) hC rfl rfl dX8_close_129 rfl ?_
        refine x_iload_n (pc2 := 131) hC rfl rfl dX8_close_130 rfl ?_
        refine x_iload (pc2 := 133) hC rfl dX8_close_131 rfl ?_
        refine x_iconst (pc2 := 134) hC dX8_close_133 rfl ?_
        refine x_iconst (pc2 := 135) hC dX8_close_134 rfl ?_
        refine x_cVi (pc2 := 138) (ci := 8) hC hK (t_entry l hM hS126 (by decide) ⟨by omega, by omega⟩ (x := vS S b t 0) (by rw [(g116.tr g126).a (by decide)]; exact (show held (A1 2) (96 * b + 24 * t + 6 * (2 * 0 + 0)) (vS S b t 0) from hb6 b t 0 hb ht ⟨by decide, by decide⟩)) ((hi.2.1 b hb).2 t 0 ht ⟨by decide, by decide⟩).1.2.2) lk_985 rfl rfl (by decide) (by assumption) (by assumption) ⟨Nat.le_of_ble_eq_true rfl, Nat.le_of_ble_eq_true rfl⟩ ⟨Nat.le_refl _, Nat.le_refl _⟩ rfl (Nat.le_of_ble_eq_true rfl) dX8_close_135 rfl ?_
        rintro z135 F135 A135 ⟨ez135, V135, hS135, v135, k135, g135⟩
        obtain rfl := ez135.symm
        replace hS135 : St 42 V135 F135 A135 := hS135
        have t135_wm116 : tr V135 3 = wm116 := (tr_keep (by decide) k135).trans t126_wm116
        have t135_wm126 : tr V135 21 = wm126 := (tr_keep (by decide) k135).trans uwm126
        rw [show (24 : Int) + 15 = 39 from rfl]
        obtain ⟨wm135, ewm135⟩ : ∃ w : T3, w = vS S b t 0 := ⟨_, rfl⟩
        have uwm135 : tr V135 39 = wm135 := by rw [ewm135]; exact v135
        have bwm135 : bdt 25 25 wm135 := by rw [ewm135]; exact (ok_bdt ((hi.2.1 b hb).2 t 0 ht ⟨by decide, by decide⟩).1)
        clear v135
        refine x_cVi (pc2 := 141) (ci := 8) hC hK (t_product l hM hS135 (x := 21) (y := 39) ⟨by decide, by decide⟩ ⟨by decide, by decide⟩ t135_wm126 uwm135 bwm126 bwm135 (by decide) ⟨by decide, by decide⟩) lk_1004 rfl rfl (by decide) (by assumption) (by assumption) ⟨Nat.le_of_ble_eq_true rfl, Nat.le_of_ble_eq_true rfl⟩ ⟨Nat.le_refl _, Nat.le_refl _⟩ rfl (Nat.le_of_ble_eq_true rfl) dX8_close_138 rfl ?_
        rintro z138 F138 A138 ⟨ez138, V138, hS138, v138, k138, g138⟩
        obtain rfl := ez138.symm
        replace hS138 : St 53 V138 F138 A138 := hS138
        have t138_wm116 : tr V138 3 = wm116 := (tr_keep (by decide) k138).trans t135_wm116
        have t138_wm126 : tr V138 21 = wm126 := (tr_keep (by decide) k138).trans t135_wm126
        have t138_wm135 : tr V138 39 = wm135 := (tr_keep (by decide) k138).trans uwm135
        rw [show (42 : Int) + 8 = 50 from rfl]
        obtain ⟨wm138, ewm138⟩ : ∃ w : T3, w = tmul wm126 wm135 := ⟨_, rfl⟩
        have uwm138 : tr V138 50 = wm138 := by rw [ewm138]; exact v138
        have bwm138 : bdt 51 50 wm138 := by rw [ewm138]; exact (bdt_mul bwm126 bwm135 (by decide) (by decide))
        clear v138
        refine x_cVi (pc2 := 144) (ci := 8) hC hK (t_sub l hM hS138 (x := 3) (y := 50) ⟨by decide, by decide⟩ ⟨by decide, by decide⟩ t138_wm116 uwm138 bwm116 bwm138 (by decide) ⟨by decide, by decide, by decide⟩) lk_1012 rfl rfl (by decide) (by assumption) (by assumption) ⟨Nat.le_of_ble_eq_true rfl, Nat.le_of_ble_eq_true rfl⟩ ⟨Nat.le_refl _, Nat.le_refl _⟩ rfl (Nat.le_of_ble_eq_true rfl) dX8_close_141 rfl ?_
        rintro z141 F141 A141 ⟨ez141, V141, hS141, v141, k141, g141⟩
        obtain rfl := ez141.symm
        replace hS141 : St 68 V141 F141 A141 := hS141
        have t141_wm116 : tr V141 3 = wm116 := (tr_keep (by decide) k141).trans t138_wm116
        have t141_wm126 : tr V141 21 = wm126 := (tr_keep (by decide) k141).trans t138_wm126
        have t141_wm135 : tr V141 39 = wm135 := (tr_keep (by decide) k141).trans t138_wm135
        have t141_wm138 : tr V141 50 = wm138 := (tr_keep (by decide) k141).trans uwm138
        rw [show (53 : Int) + 12 = 65 from rfl]
        obtain ⟨wm141, ewm141⟩ : ∃ w : T3, w = tadd wm116 (tneg wm138) := ⟨_, rfl⟩
        have uwm141 : tr V141 65 = wm141 := by rw [ewm141]; exact v141
        have bwm141 : bdt 53 51 wm141 := by rw [ewm141]; exact (bdt_add bwm116 (bdt_neg bwm138) (by decide) (by decide) (by decide))
        clear v141
        refine x_istore (pc2 := 146) (loc2 := [_, _, _, _, _, _, _]) hC (by decide) rfl dX8_close_144 rfl ?_
        refine x_aload_n (pc2 := 147) hC rfl rfl dX8_close_146 rfl ?_
        refine x_aload_n (pc2 := 148) hC rfl rfl dX8_close_147 rfl ?_
        refine x_aload_n (pc2 := 149) hC rfl rfl dX8_close_148 rfl ?_
        refine x_iload_n (pc2 := 150) hC rfl rfl dX8_close_149 rfl ?_
        refine x_iload (pc2 := 152) hC rfl dX8_close_150 rfl ?_
        refine x_iconst (pc2 := 153) hC dX8_close_152 rfl ?_
        refine x_iconst (pc2 := 154) hC dX8_close_153 rfl ?_
        refine x_cVi (pc2 := 157) (ci := 8) hC hK (t_entry l hM hS141 (by decide) ⟨by omega, by omega⟩ (x := vS S a t 1) (by rw [((((g116.tr g126).tr g135).tr g138).tr g141).a (by decide)]; exact (show held (A1 2) (96 * a + 24 * t + 6 * (2 * 0 + 1)) (vS S a t 1) from hb6 a t 1 ha ht ⟨by decide, by decide⟩)) ((hi.2.1 a ha).2 t 1 ht ⟨by decide, by decide⟩).1.2.2) lk_985 rfl rfl (by decide) (by assumption) (by assumption) ⟨Nat.le_of_ble_eq_true rfl, Nat.le_of_ble_eq_true rfl⟩ ⟨Nat.le_refl _, Nat.le_refl _⟩ rfl (Nat.le_of_ble_eq_true rfl) dX8_close_154 rfl ?_
        rintro z154 F154 A154 ⟨ez154, V154, hS154, v154, k154, g154⟩
        obtain rfl := ez154.symm
        replace hS154 : St 86 V154 F154 A154 := hS154
        have t154_wm116 : tr V154 3 = wm116 := (tr_keep (by decide) k154).trans t141_wm116
        have t154_wm126 : tr V154 21 = wm126 := (tr_keep (by decide) k154).trans t141_wm126
        have t154_wm135 : tr V154 39 = wm135 := (tr_keep (by decide) k154).trans t141_wm135
        have t154_wm138 : tr V154 50 = wm138 := (tr_keep (by decide) k154).trans t141_wm138
        have t154_wm141 : tr V154 65 = wm141 := (tr_keep (by decide) k154).trans uwm141
        rw [show (68 : Int) + 15 = 83 from rfl]
        obtain ⟨wm154, ewm154⟩ : ∃ w : T3, w = vS S a t 1 := ⟨_, rfl⟩
        have uwm154 : tr V154 83 = wm154 := by rw [ewm154]; exact v154
        have bwm154 : bdt 25 25 wm154 := by rw [ewm154]; exact (ok_bdt ((hi.2.1 a ha).2 t 1 ht ⟨by decide, by decide⟩).1)
        clear v154
        refine x_aload_n (pc2 := 158) hC rfl rfl dX8_close_157 rfl ?_
        refine x_iload_n (pc2 := 159) hC rfl rfl dX8_close_158 rfl ?_
        refine x_iload (pc2 := 161) hC rfl dX8_close_159 rfl ?_
        refine x_iconst (pc2 := 162) hC dX8_close_161 rfl ?_
        refine x_iconst (pc2 := 163) hC dX8_close_162 rfl ?_
        refine x_cVi (pc2 := 166) (ci := 8) hC hK (t_entry l hM hS154 (by decide) ⟨by omega, by omega⟩ (x := vS S a t 2) (by rw [(((((g116.tr g126).tr g135).tr g138).tr g141).tr g154).a (by decide)]; exact (show held (A1 2) (96 * a + 24 * t + 6 * (2 * 1 + 0)) (vS S a t 2) from hb6 a t 2 ha ht ⟨by decide, by decide⟩)) ((hi.2.1 a ha).2 t 2 ht ⟨by decide, by decide⟩).1.2.2) lk_985 rfl rfl (by decide) (by assumption) (by assumption) ⟨Nat.le_of_ble_eq_true rfl, Nat.le_of_ble_eq_true rfl⟩ ⟨Nat.le_refl _, Nat.le_refl _⟩ rfl (Nat.le_of_ble_eq_true rfl) dX8_close_163 rfl ?_
        rintro z163 F163 A163 ⟨ez163, V163, hS163, v163, k163, g163⟩
        obtain rfl := ez163.symm
        replace hS163 : St 104 V163 F163 A163 := hS163
        have t163_wm116 : tr V163 3 = wm116 := (tr_keep (by decide) k163).trans t154_wm116
        have t163_wm126 : tr V163 21 = wm126 := (tr_keep (by decide) k163).trans t154_wm126
        have t163_wm135 : tr V163 39 = wm135 := (tr_keep (by decide) k163).trans t154_wm135
        have t163_wm138 : tr V163 50 = wm138 := (tr_keep (by decide) k163).trans t154_wm138
        have t163_wm141 : tr V163 65 = wm141 := (tr_keep (by decide) k163).trans t154_wm141
        have t163_wm154 : tr V163 83 = wm154 := (tr_keep (by decide) k163).trans uwm154
        rw [show (86 : Int) + 15 = 101 from rfl]
        obtain ⟨wm163, ewm163⟩ : ∃ w : T3, w = vS S a t 2 := ⟨_, rfl⟩
        have uwm163 : tr V163 101 = wm163 := by rw [ewm163]; exact v163
        have bwm163 : bdt 25 25 wm163 := by rw [ewm163]; exact (ok_bdt ((hi.2.1 a ha).2 t 2 ht ⟨by decide, by decide⟩).1)
        clear v163
        refine x_cVi (pc2 := 169) (ci := 8) hC hK (t_product l hM hS163 (x := 83) (y := 101) ⟨by decide, by decide⟩ ⟨by decide, by decide⟩ t163_wm154 uwm163 bwm154 bwm163 (by decide) ⟨by decide, by decide⟩) lk_1004 rfl rfl (by decide) (by assumption) (by assumption) ⟨Nat.le_of_ble_eq_true rfl, Nat.le_of_ble_eq_true rfl⟩ ⟨Nat.le_refl _, Nat.le_refl _⟩ rfl (Nat.le_of_ble_eq_true rfl) dX8_close_166 rfl ?_
        rintro z166 F166 A166 ⟨ez166, V166, hS166, v166, k166, g166⟩
        obtain rfl := ez166.symm
        replace hS166 : St 115 V166 F166 A166 := hS166
        have t166_wm116 : tr V166 3 = wm116 := (tr_keep (by decide) k166).trans t163_wm116
        have t166_wm126 : tr V166 21 = wm126 := (tr_keep (by decide) k166).trans t163_wm126
        have t166_wm135 : tr V166 39 = wm135 := (tr_keep (by decide) k166).trans t163_wm135
        have t166_wm138 : tr V166 50 = wm138 := (tr_keep (by decide) k166).trans t163_wm138
        have t166_wm141 : tr V166 65 = wm141 := (tr_keep (by decide) k166).trans t163_wm141
        have t166_wm154 : tr V166 83 = wm154 := (tr_keep (by decide) k166).trans t163_wm154
        have t166_wm163 : tr V166 101 = wm163 := (tr_keep (by decide) k166).trans uwm163
        rw [show (104 : Int) + 8 = 112 from rfl]
        obtain ⟨wm166, ewm166⟩ : ∃ w : T3, w = tmul wm154 wm163 := ⟨_, rfl⟩
        have uwm166 : tr V166 112 = wm166 := by rw [ewm166]; exact v166
        have bwm166 : bdt 51 50 wm166 := by rw [ewm166]; exact (bdt_mul bwm154 bwm163 (by decide) (by decide))
        clear v166
        refine x_aload_n (pc2 := 170) hC rfl rfl dX8_close_169 rfl ?_
        refine x_iload_n (pc2 := 171) hC rfl rfl dX8_close_170 rfl ?_
        refine x_iload (pc2 := 173) hC rfl dX8_close_171 rfl ?_
        refine x_iconst (pc2 := 174) hC dX8_close_173 rfl ?_
        refine x_iconst (pc2 := 175) hC dX8_close_174 rfl ?_
        refine x_cVi (pc2 := 178) (ci := 8) hC hK (t_entry l hM hS166 (by decide) ⟨by omega, by omega⟩ (x := vS S b t 0) (by rw [(((((((g116.tr g126).tr g135).tr g138).tr g141).tr g154).tr g163).tr g166).a (by decide)]; exact (show held (A1 2) (96 * b + 24 * t + 6 * (2 * 0 + 0)) (vS S b t 0) from hb6 b t 0 hb ht ⟨by decide, by decide⟩)) ((hi.2.1 b hb).2 t 0 ht ⟨by decide, by decide⟩).1.2.2) lk_985 rfl rfl (by decide) (by assumption) (by assumption) ⟨Nat.le_of_ble_eq_true rfl, Nat.le_of_ble_eq_true rfl⟩ ⟨Nat.le_refl _, Nat.le_refl _⟩ rfl (Nat.le_of_ble_eq_true rfl) dX8_close_175 rfl ?_
        rintro z175 F175 A175 ⟨ez175, V175, hS175, v175, k175, g175⟩
        obtain rfl := ez175.symm
        replace hS175 : St 133 V175 F175 A175 := hS175
        have t175_wm116 : tr V175 3 = wm116 := (tr_keep (by decide) k175).trans t166_wm116
        have t175_wm126 : tr V175 21 = wm126 := (tr_keep (by decide) k175).trans t166_wm126
        have t175_wm135 : tr V175 39 = wm135 := (tr_keep (by decide) k175).trans t166_wm135
        have t175_wm138 : tr V175 50 = wm138 := (tr_keep (by decide) k175).trans t166_wm138
        have t175_wm141 : tr V175 65 = wm141 := (tr_keep (by decide) k175).trans t166_wm141
        have t175_wm154 : tr V175 83 = wm154 := (tr_keep (by decide) k175).trans t166_wm154
        have t175_wm163 : tr V175 101 = wm163 := (tr_keep (by decide) k175).trans t166_wm163
        have t175_wm166 : tr V175 112 = wm166 := (tr_keep (by decide) k175).trans uwm166
        rw [show (115 : Int) + 15 = 130 from rfl]
        obtain ⟨wm175, ewm175⟩ : ∃ w : T3, w = vS S b t 0 := ⟨_, rfl⟩
        have uwm175 : tr V175 130 = wm175 := by rw [ewm175]; exact v175
        have bwm175 : bdt 25 25 wm175 := by rw [ewm175]; exact (ok_bdt ((hi.2.1 b hb).2 t 0 ht ⟨by decide, by decide⟩).1)
        clear v175
        refine x_cVi (pc2 := 181) (ci := 8) hC hK (t_product l hM hS175 (x := 112) (y := 130) ⟨by decide, by decide⟩ ⟨by decide, by decide⟩ t175_wm166 uwm175 bwm166 bwm175 (by decide) ⟨by decide, by decide⟩) lk_1004 rfl rfl (by decide) (by assumption) (by assumption) ⟨Nat.le_of_ble_eq_true rfl, Nat.le_of_ble_eq_true rfl⟩ ⟨Nat.le_refl _, Nat.le_refl _⟩ rfl (Nat.le_of_ble_eq_true rfl) dX8_close_178 rfl ?_
        rintro z178 F178 A178 ⟨ez178, V178, hS178, v178, k178, g178⟩
        obtain rfl := ez178.symm
        replace hS178 : St 144 V178 F178 A178 := hS178
        have t178_wm116 : tr V178 3 = wm116 := (tr_keep (by decide) k178).trans t175_wm116
        have t178_wm126 : tr V178 21 = wm126 := (tr_keep (by decide) k178).trans t175_wm126
        have t178_wm135 : tr V178 39 = wm135 := (tr_keep (by decide) k178).trans t175_wm135
        have t178_wm138 : tr V178 50 = wm138 := (tr_keep (by decide) k178).trans t175_wm138
        have t178_wm141 : tr V178 65 = wm141 := (tr_keep (by decide) k178).trans t175_wm141
        have t178_wm154 : tr V178 83 = wm154 := (tr_keep (by decide) k178).trans t175_wm154
        have t178_wm163 : tr V178 101 = wm163 := (tr_keep (by decide) k178).trans t175_wm163
        have t178_wm166 : tr V178 112 = wm166 := (tr_keep (by decide) k178).trans t175_wm166
        have t178_wm175 : tr V178 130 = wm175 := (tr_keep (by decide) k178).trans uwm175
        rw [show (133 : Int) + 8 = 141 from rfl]
        obtain ⟨wm178, ewm178⟩ : ∃ w : T3, w = tmul wm166 wm175 := ⟨_, rfl⟩
        have uwm178 : tr V178 141 = wm178 := by rw [ewm178]; exact v178
        have bwm178 : bdt 77 75 wm178 := by rw [ewm178]; exact (bdt_mul bwm166 bwm175 (by decide) (by decide))
        clear v178
        refine x_istore (pc2 := 183) (loc2 := [_, _, _, _, _, _, _]) hC (by decide) rfl dX8_close_181 rfl ?_
        refine x_aload_n (pc2 := 184) hC rfl rfl dX8_close_183 rfl ?_
        refine x_iload (pc2 := 186) hC rfl dX8_close_184 rfl ?_
        refine x_iconst (pc2 := 187) hC dX8_close_186 rfl ?_
        refine x_iconst (pc2 := 188) hC dX8_close_187 rfl ?_
        refine x_aload_n (pc2 := 189) hC rfl rfl dX8_close_188 rfl ?_
        refine x_aload_n (pc2 := 190) hC rfl rfl dX8_close_189 rfl ?_
        refine x_iload_n (pc2 := 191) hC rfl rfl dX8_close_190 rfl ?_
        refine x_iload (pc2 := 193) hC rfl dX8_close_191 rfl ?_
        refine x_iconst (pc2 := 194) hC dX8_close_193 rfl ?_
        refine x_iconst (pc2 := 195) hC dX8_close_194 rfl ?_
        refine x_cVi (pc2 := 198) (ci := 8) hC hK (t_entry l hM hS178 (by decide) ⟨by omega, by omega⟩ (x := vS S a t 0) (by rw [(((((((((g116.tr g126).tr g135).tr g138).tr g141).tr g154).tr g163).tr g166).tr g175).tr g178).a (by decide)]; exact (show held (A1 2) (96 * a + 24 * t + 6 * (2 * 0 + 0)) (vS S a t 0) from hb6 a t 0 ha ht ⟨by decide, by decide⟩)) ((hi.2.1 a ha).2 t 0 ht ⟨by decide, by decide⟩).1.2.2) lk_985 rfl rfl (by decide) (by assumption) (by assumption) ⟨Nat.le_of_ble_eq_true rfl, Nat.le_of_ble_eq_true rfl⟩ ⟨Nat.le_refl _, Nat.le_refl _⟩ rfl (Nat.le_of_ble_eq_true rfl) dX8_close_195 rfl ?_
        rintro z195 F195 A195 ⟨ez195, V195, hS195, v195, k195, g195⟩
        obtain rfl := ez195.symm
        replace hS195 : St 162 V195 F195 A195 := hS195
        have t195_wm116 : tr V195 3 = wm116 := (tr_keep (by decide) k195).trans t178_wm116
        have t195_wm126 : tr V195 21 = wm126 := (tr_keep (by decide) k195).trans t178_wm126
        have t195_wm135 : tr V195 39 = wm135 := (tr_keep (by decide) k195).trans t178_wm135
        have t195_wm138 : tr V195 50 = wm138 := (tr_keep (by decide) k195).trans t178_wm138
        have t195_wm141 : tr V195 65 = wm141 := (tr_keep (by decide) k195).trans t178_wm141
        have t195_wm154 : tr V195 83 = wm154 := (tr_keep (by decide) k195).trans t178_wm154
        have t195_wm163 : tr V195 101 = wm163 := (tr_keep (by decide) k195).trans t178_wm163
        have t195_wm166 : tr V195 112 = wm166 := (tr_keep (by decide) k195).trans t178_wm166
        have t195_wm175 : tr V195 130 = wm175 := (tr_keep (by decide) k195).trans t178_wm175
        have t195_wm178 : tr V195 141 = wm178 := (tr_keep (by decide) k195).trans uwm178
        rw [show (144 : Int) + 15 = 159 from rfl]
        obtain ⟨wm195, ewm195⟩ : ∃ w : T3, w = vS S a t 0 := ⟨_, rfl⟩
        have uwm195 : tr V195 159 = wm195 := by rw [ewm195]; exact v195
        have bwm195 : bdt 25 25 wm195 := by rw [ewm195]; exact (ok_bdt ((hi.2.1 a ha).2 t 0 ht ⟨by decide, by decide⟩).1)
        clear v195
        refine x_aload_n (pc2 := 199) hC rfl rfl dX8_close_198 rfl ?_
        refine x_iload (pc2 := 201) hC rfl dX8_close_199 rfl ?_
        refine x_iload (pc2 := 203) hC rfl dX8_close_201 rfl ?_
        refine x_cVi (pc2 := 206) (ci := 8) hC hK (t_quo l hM hS195 (x := 141) (y := 65) ⟨by decide, by decide⟩ ⟨by decide, by decide⟩ t195_wm178 t195_wm141 bwm178 bwm141 (by decide) ⟨by decide, by decide, by decide, by decide, by decide⟩) lk_1044 rfl rfl (by decide) (by assumption) (by assumption) ⟨Nat.le_of_ble_eq_true rfl, Nat.le_of_ble_eq_true rfl⟩ ⟨Nat.le_refl _, Nat.le_refl _⟩ rfl (Nat.le_of_ble_eq_true rfl) dX8_close_203 rfl ?_
        rintro z203 F203 A203 ⟨ez203, V203, hS203, v203, k203, g203⟩
        obtain rfl := ez203.symm
        replace hS203 : St 186 V203 F203 A203 := hS203
        have t203_wm116 : tr V203 3 = wm116 := (tr_keep (by decide) k203).trans t195_wm116
        have t203_wm126 : tr V203 21 = wm126 := (tr_keep (by decide) k203).trans t195_wm126
        have t203_wm135 : tr V203 39 = wm135 := (tr_keep (by decide) k203).trans t195_wm135
        have t203_wm138 : tr V203 50 = wm138 := (tr_keep (by decide) k203).trans t195_wm138
        have t203_wm141 : tr V203 65 = wm141 := (tr_keep (by decide) k203).trans t195_wm141
        have t203_wm154 : tr V203 83 = wm154 := (tr_keep (by decide) k203).trans t195_wm154
        have t203_wm163 : tr V203 101 = wm163 := (tr_keep (by decide) k203).trans t195_wm163
        have t203_wm166 : tr V203 112 = wm166 := (tr_keep (by decide) k203).trans t195_wm166
        have t203_wm175 : tr V203 130 = wm175 := (tr_keep (by decide) k203).trans t195_wm175
        have t203_wm178 : tr V203 141 = wm178 := (tr_keep (by decide) k203).trans t195_wm178
        have t203_wm195 : tr V203 159 = wm195 := (tr_keep (by decide) k203).trans uwm195
        rw [show (162 : Int) + 21 = 183 from rfl]
        obtain ⟨wm203, ewm203⟩ : ∃ w : T3, w = tquo wm178 wm141 := ⟨_, rfl⟩
        have uwm203 : tr V203 183 = wm203 := by rw [ewm203]; exact v203
        have bwm203 : bdt 182 182 wm203 := by rw [ewm203]; exact (bdt_quo bwm178 bwm141 (by decide) (by decide))
        clear v203
        refine x_cVi (pc2 := 209) (ci := 8) hC hK (t_added l hM hS203 (x := 159) (y := 183) ⟨by decide, by decide⟩ ⟨by decide, by decide⟩ t203_wm195 uwm203 bwm195 bwm203 (by decide) ⟨by decide, by decide, by decide⟩) lk_1020 rfl rfl (by decide) (by assumption) (by assumption) ⟨Nat.le_of_ble_eq_true rfl, Nat.le_of_ble_eq_true rfl⟩ ⟨Nat.le_refl _, Nat.le_refl _⟩ rfl (Nat.le_of_ble_eq_true rfl) dX8_close_206 rfl ?_
        rintro z206 F206 A206 ⟨ez206, V206, hS206, v206, k206, g206⟩
        obtain rfl := ez206.symm
        replace hS206 : St 196 V206 F206 A206 := hS206
        have t206_wm116 : tr V206 3 = wm116 := (tr_keep (by decide) k206).trans t203_wm116
        have t206_wm126 : tr V206 21 = wm126 := (tr_keep (by decide) k206).trans t203_wm126
        have t206_wm135 : tr V206 39 = wm135 := (tr_keep (by decide) k206).trans t203_wm135
        have t206_wm138 : tr V206 50 = wm138 := (tr_keep (by decide) k206).trans t203_wm138
        have t206_wm141 : tr V206 65 = wm141 := (tr_keep (by decide) k206).trans t203_wm141
        have t206_wm154 : tr V206 83 = wm154 := (tr_keep (by decide) k206).trans t203_wm154
        have t206_wm163 : tr V206 101 = wm163 := (tr_keep (by decide) k206).trans t203_wm163
        have t206_wm166 : tr V206 112 = wm166 := (tr_keep (by decide) k206).trans t203_wm166
        have t206_wm175 : tr V206 130 = wm175 := (tr_keep (by decide) k206).trans t203_wm175
        have t206_wm178 : tr V206 141 = wm178 := (tr_keep (by decide) k206).trans t203_wm178
        have t206_wm195 : tr V206 159 = wm195 := (tr_keep (by decide) k206).trans t203_wm195
        have t206_wm203 : tr V206 183 = wm203 := (tr_keep (by decide) k206).trans uwm203
        rw [show (186 : Int) + 7 = 193 from rfl]
        obtain ⟨wm206, ewm206⟩ : ∃ w : T3, w = tadd wm195 wm203 := ⟨_, rfl⟩
        have uwm206 : tr V206 193 = wm206 := by rw [ewm206]; exact v206
        have bwm206 : bdt 208 207 wm206 := by rw [ewm206]; exact (bdt_add bwm195 bwm203 (by decide) (by decide) (by decide))
        clear v206
        have qe2 : q3 wm141 = closeE (nmN S a t) (nm S b t 0) := by rw [ewm141, ewm138, ewm116, ewm126, ewm135, q_sub, q_mul]; rfl
        have hz : ¬ (wm141.1 = 0 ∧ wm141.2.1 = 0) := fun y => hdt ((z3_iff qe2).mp y)
        have evwm206 : wm206 = tadd (vS S a t 0) (tquo (tmul (tmul (vS S a t 1) (vS S a t 2)) (vS S b t 0)) wm141) := by rw [ewm206, ewm203, ewm178, ewm166, ewm195, ewm154, ewm163, ewm175]
        have hrp : 0 < wm206.2.2 := by rw [evwm206]; exact r_add (rr hi ha ht ⟨by decide, by decide⟩) (r_quo (r_mul (r_mul (rr hi ha ht ⟨by decide, by decide⟩) (rr hi ha ht ⟨by decide, by decide⟩)) (rr hi hb ht ⟨by decide, by decide⟩)) hz)
        have gg := ((((((((((((g116.tr g126).tr g135).tr g138).tr g141).tr g154).tr g163).tr g166).tr g175).tr g178).tr g195).tr g203).tr g206)
        have e17 : F206 0 17 = F1 0 17 := (gg.2.1 17 (by decide) (by decide) (by decide)).trans (by rw [uF_nj (by decide)])
        have e10 : A206 10 = A1 10 := gg.a (by decide)
        refine x_cVv (pc2 := 212) (ci := 8) hC hK (n_makes l hM hS206 (by decide) ht (i := 0) (j := 0) ⟨by decide, by decide⟩ (x := 193) ⟨by decide, by decide⟩ uwm206 hrp (by rw [e17]; exact h17)) lk_919 rfl rfl (by decide) (by assumption) (by assumption) ⟨Nat.le_of_ble_eq_true rfl, Nat.le_of_ble_eq_true rfl⟩ ⟨Nat.le_refl _, Nat.le_refl _⟩ rfl (Nat.le_of_ble_eq_true rfl) dX8_close_209 rfl ?_
        rintro F209 A209 ⟨-, m2, m3, m4, m5⟩
        have ml := mk_low (x := closeX (nmN S a t) (nm S b t 0) 0) hrp (closeX_un (hi.un (s := 0) ha ht) (un_q3 (rr hi hb ht ⟨by decide, by decide⟩)) hdt 0) (by rw [evwm206, q_add]; exact eqf.sum (eqf.rf _) ((q_quo _ _).tr (un_div (by rw [q_mul, q_mul]; exact un_mul (un_mul (un_q3 (rr hi ha ht ⟨by decide, by decide⟩)) (un_q3 (rr hi ha ht ⟨by decide, by decide⟩))) (un_q3 (rr hi hb ht ⟨by decide, by decide⟩))) (by rw [qe2]; exact hdt)) (by rw [q_mul, q_mul, qe2]; exact eqf.rf _))) m2
        rw [e17] at m3
        refine x_iinc (pc2 := 215) (loc2 := [_, _, _, _, _, _, _]) hC (by decide) rfl rfl dX8_close_212 rfl ?_
        refine x_goto (pc2 := 102) hC dX8_close_215 rfl ?_
        refine ih (t + 1) _ _ (by omega) (by omega) (by omega) (hR1.K ((((FrK.f (by decide)).tr gg.K)).tr m5)) (hmk.step ht (e := 0) ⟨by decide, by decide⟩ (fun t0 e0 => ⟨fun y => by omega, fun y => by omega⟩) ml m3 (fun n hn => by rw [m4 n (by omega), e10]))
  have loop1 : (hasB S c0 1 ∧ hasB S a 2 ∧ hasB S b 1) → ∀ (d : Nat) (t : Int) (F1 : Nat → Nat → Int) (A1 : Nat → Int → Int), 4 - t < d → 0 ≤ t → t ≤ 4 → RepM S F1 A1 → (∀ s, 0 ≤ s → s < t → (fun t => itC ((closeE (nmN S a t) (nm S b t 0)).1 = (0, 0)) 1 0) s = 0) → X p l e { frames := 5, cells := 0, slots := 0, locals := 119 } s m args below meth c (MQ below (QX D ids β sh N R (pIr (fun z F2 A2 => ∃ S2, rClose S c0 a b z S2 ∧ RepM S2 F2 A2))) args s 0 0 (inG β N)) (inG β N) D ids β sh 7 0 0 N R F1 A1 [some (rf 0), some (pI c0), some (pI a), some (pI b), some (pI t), none, none] [] 32 := by
    intro hok d
    induction d with
    | zero => intro t F1 A1 hd; omega
    | succ d ih =>
      intro t F1 A1 hd t0 t4 hR1 hdv
      obtain ⟨⟨hc2, -⟩, ⟨ha, -⟩, hb, -⟩ := id hok
      have a16 := ha.2
      have b16 := hb.2
      have a00 := ha.1
      have b00 := hb.1
      have hb6 := hR1.2.2.2.2.2.2.1
      refine x_iload (pc2 := 34) hC rfl dX8_close_32 rfl ?_
      refine x_iconst (pc2 := 35) hC dX8_close_34 rfl ?_
      refine x_icmp_ge (tgt := 95) (pc2 := 38) hC (by omega) (by omega) dX8_close_35 rfl rfl (fun h_35 => ?_) (fun h_35 => ?_)
      · refine x_aload_n (pc2 := 96) hC rfl rfl dX8_close_95 rfl ?_
        refine x_cVv (pc2 := 99) (ci := 8) hC hK (n_begins l hM) lk_1036 rfl rfl (by decide) (by assumption) (by assumption) ⟨Nat.le_of_ble_eq_true rfl, Nat.le_of_ble_eq_true rfl⟩ ⟨Nat.le_refl _, Nat.le_refl _⟩ rfl (Nat.le_of_ble_eq_true rfl) dX8_close_96 rfl ?_
        rintro F96 A96 ⟨e196, e296, e396⟩
        have hRb : RepM S F96 A96 := by rw [e196]; exact hR1.of (fun j hj => uF_nj (by omega)) (fun b hb => e296 b (by omega))
        have h17b : F96 0 17 = 0 := by rw [e196, uF_eq]
        refine x_iconst (pc2 := 100) hC dX8_close_99 rfl ?_
        refine x_istore (pc2 := 102) (loc2 := [_, _, _, _, _, _, _]) hC (by decide) rfl dX8_close_100 rfl ?_
        exact loop2 hok (fun s hs => hdv s hs.1 (by omega)) 5 0 F96 A96 (by decide) (by decide) (by decide) hRb (by rw [h17b]; exact MkD.nil (fun t e ht _ q => by have := q.1; omega) e396)
      · have ht : isT t := by omega
        refine x_aload_n (pc2 := 39) hC rfl rfl dX8_close_38 rfl ?_
        refine x_iconst (pc2 := 40) hC dX8_close_39 rfl ?_
        refine p_819 (pc2 := 43) hC hK (by assumption) (by assumption) dX8_close_40 rfl ?_
        refine x_aload_n (pc2 := 44) hC rfl rfl dX8_close_43 rfl ?_
        refine x_aload_n (pc2 := 45) hC rfl rfl dX8_close_44 rfl ?_
        refine x_aload_n (pc2 := 46) hC rfl rfl dX8_close_45 rfl ?_
        refine x_lconst1 (pc2 := 47) hC dX8_close_46 rfl ?_
        refine x_cVi (pc2 := 50) (ci := 8) hC hK (t_whole l hM (St.zero (F := F1) (A := A1)) (by decide) (v := 1) (by decide)) lk_981 rfl rfl (by decide) (by assumption) (by assumption) ⟨Nat.le_of_ble_eq_true rfl, Nat.le_of_ble_eq_true rfl⟩ ⟨Nat.le_refl _, Nat.le_refl _⟩ rfl (Nat.le_of_ble_eq_true rfl) dX8_close_47 rfl ?_
        rintro z47 F47 A47 ⟨ez47, V47, hS47, v47, k47, g47⟩
        obtain rfl := ez47.symm
        replace hS47 : St 6 V47 F47 A47 := hS47
        rw [show (0 : Int) + 3 = 3 from rfl]
        obtain ⟨wi47, ewi47⟩ : ∃ w : T3, w = (1, 0, 1) := ⟨_, rfl⟩
        have uwi47 : tr V47 3 = wi47 := by rw [ewi47]; exact v47
        have bwi47 : bdt 1 1 wi47 := by rw [ewi47]; exact ⟨by unfold bd; decide, by unfold bd; decide, by unfold bd; decide⟩
        clear v47
        refine x_aload_n (pc2 := 51) hC rfl rfl dX8_close_50 rfl ?_
        refine x_aload_n (pc2 := 52) hC rfl rfl dX8_close_51 rfl ?_
        refine x_iload_n (pc2 := 53) hC rfl rfl dX8_close_52 rfl ?_
        refine x_iload (pc2 := 55) hC rfl dX8_close_53 rfl ?_
        refine x_iconst (pc2 := 56) hC dX8_close_55 rfl ?_
        refine x_iconst (pc2 := 57) hC dX8_close_56 rfl ?_
        refine x_cVi (pc2 := 60) (ci := 8) hC hK (t_entry l hM hS47 (by decide) ⟨by omega, by omega⟩ (x := vS S a t 3) (by rw [g47.a (by decide)]; exact (show held (A1 2) (96 * a + 24 * t + 6 * (2 * 1 + 1)) (vS S a t 3) from hb6 a t 3 ha ht ⟨by decide, by decide⟩)) ((hi.2.1 a ha).2 t 3 ht ⟨by decide, by decide⟩).1.2.2) lk_985 rfl rfl (by decide) (by assumption) (by assumption) ⟨Nat.le_of_ble_eq_true rfl, Nat.le_of_ble_eq_true rfl⟩ ⟨Nat.le_refl _, Nat.le_refl _⟩ rfl (Nat.le_of_ble_eq_true rfl) dX8_close_57 rfl ?_
        rintro z57 F57 A57 ⟨ez57, V57, hS57, v57, k57, g57⟩
        obtain rfl := ez57.symm
        replace hS57 : St 24 V57 F57 A57 := hS57
        have t57_wi47 : tr V57 3 = wi47 := (tr_keep (by decide) k57).trans uwi47
        rw [show (6 : Int) + 15 = 21 from rfl]
        obtain ⟨wi57, ewi57⟩ : ∃ w : T3, w = vS S a t 3 := ⟨_, rfl⟩
        have uwi57 : tr V57 21 = wi57 := by rw [ewi57]; exact v57
        have bwi57 : bdt 25 25 wi57 := by rw [ewi57]; exact (ok_bdt ((hi.2.1 a ha).2 t 3 ht ⟨by decide, by decide⟩).1)
        clear v57
        refine x_aload_n (pc2 := 61) hC rfl rfl dX8_close_60 rfl ?_
        refine x_iload_n (pc2 := 62) hC rfl rfl dX8_close_61 rfl ?_
        refine x_iload (pc2 := 64) hC rfl dX8_close_62 rfl ?_
        refine x_iconst (pc2 := 65) hC dX8_close_64 rfl ?_
        refine x_iconst (pc2 := 66) hC dX8_close_65 rfl ?_
        refine x_cVi (pc2 := 69) (ci := 8) hC hK (t_entry l hM hS57 (by decide) ⟨by omega, by omega⟩ (x := vS S b t 0) (by rw [(g47.tr g57).a (by decide)]; exact (show held (A1 2) (96 * b + 24 * t + 6 * (2 * 0 + 0)) (vS S b t 0) from hb6 b t 0 hb ht ⟨by decide, by decide⟩)) ((hi.2.1 b hb).2 t 0 ht ⟨by decide, by decide⟩).1.2.2) lk_985 rfl rfl (by decide) (by assumption) (by assumption) ⟨Nat.le_of_ble_eq_true rfl, Nat.le_of_ble_eq_true rfl⟩ ⟨Nat.le_refl _, Nat.le_refl _⟩ rfl (Nat.le_of_ble_eq_true rfl) dX8_close_66 rfl ?_
        rintro z66 F66 A66 ⟨ez66, V66, hS66, v66, k66, g66⟩
        obtain rfl := ez66.symm
        replace hS66 : St 42 V66 F66 A66 := hS66
        have t66_wi47 : tr V66 3 = wi47 := (tr_keep (by decide) k66).trans t57_wi47
        have t66_wi57 : tr V66 21 = wi57 := (tr_keep (by decide) k66).trans uwi57
        rw [show (24 : Int) + 15 = 39 from rfl]
        obtain ⟨wi66, ewi66⟩ : ∃ w : T3, w = vS S b t 0 := ⟨_, rfl⟩
        have uwi66 : tr V66 39 = wi66 := by rw [ewi66]; exact v66
        have bwi66 : bdt 25 25 wi66 := by rw [ewi66]; exact (ok_bdt ((hi.2.1 b hb).2 t 0 ht ⟨by decide, by decide⟩).1)
        clear v66
        refine x_cVi (pc2 := 72) (ci := 8) hC hK (t_product l hM hS66 (x := 21) (y := 39) ⟨by decide, by decide⟩ ⟨by decide, by decide⟩ t66_wi57 uwi66 bwi57 bwi66 (by decide) ⟨by decide, by decide⟩) lk_1004 rfl rfl (by decide) (by assumption) (by assumption) ⟨Nat.le_of_ble_eq_true rfl, Nat.le_of_ble_eq_true rfl⟩ ⟨Nat.le_refl _, Nat.le_refl _⟩ rfl (Nat.le_of_ble_eq_true rfl) dX8_close_69 rfl ?_
        rintro z69 F69 A69 ⟨ez69, V69, hS69, v69, k69, g69⟩
        obtain rfl := ez69.symm
        replace hS69 : St 53 V69 F69 A69 := hS69
        have t69_wi47 : tr V69 3 = wi47 := (tr_keep (by decide) k69).trans t66_wi47
        have t69_wi57 : tr V69 21 = wi57 := (tr_keep (by decide) k69).trans t66_wi57
        have t69_wi66 : tr V69 39 = wi66 := (tr_keep (by decide) k69).trans uwi66
        rw [show (42 : Int) + 8 = 50 from rfl]
        obtain ⟨wi69, ewi69⟩ : ∃ w : T3, w = tmul wi57 wi66 := ⟨_, rfl⟩
        have uwi69 : tr V69 50 = wi69 := by rw [ewi69]; exact v69
        have bwi69 : bdt 51 50 wi69 := by rw [ewi69]; exact (bdt_mul bwi57 bwi66 (by decide) (by decide))
        clear v69
        refine x_cVi (pc2 := 75) (ci := 8) hC hK (t_sub l hM hS69 (x := 3) (y := 50) ⟨by decide, by decide⟩ ⟨by decide, by decide⟩ t69_wi47 uwi69 bwi47 bwi69 (by decide) ⟨by decide, by decide, by decide⟩) lk_1012 rfl rfl (by decide) (by assumption) (by assumption) ⟨Nat.le_of_ble_eq_true rfl, Nat.le_of_ble_eq_true rfl⟩ ⟨Nat.le_refl _, Nat.le_refl _⟩ rfl (Nat.le_of_ble_eq_true rfl) dX8_close_72 rfl ?_
        rintro z72 F72 A72 ⟨ez72, V72, hS72, v72, k72, g72⟩
        obtain rfl := ez72.symm
        replace hS72 : St 68 V72 F72 A72 := hS72
        have t72_wi47 : tr V72 3 = wi47 := (tr_keep (by decide) k72).trans t69_wi47
        have t72_wi57 : tr V72 21 = wi57 := (tr_keep (by decide) k72).trans t69_wi57
        have t72_wi66 : tr V72 39 = wi66 := (tr_keep (by decide) k72).trans t69_wi66
        have t72_wi69 : tr V72 50 = wi69 := (tr_keep (by decide) k72).trans uwi69
        rw [show (53 : Int) + 12 = 65 from rfl]
        obtain ⟨wi72, ewi72⟩ : ∃ w : T3, w = tadd wi47 (tneg wi69) := ⟨_, rfl⟩
        have uwi72 : tr V72 65 = wi72 := by rw [ewi72]; exact v72
        have bwi72 : bdt 53 51 wi72 := by rw [ewi72]; exact (bdt_add bwi47 (bdt_neg bwi69) (by decide) (by decide) (by decide))
        clear v72
        refine x_cVi (pc2 := 78) (ci := 8) hC hK (t_zero l hM hS72 (x := 65) ⟨by decide, by decide⟩ uwi72) lk_1024 rfl rfl (by decide) (by assumption) (by assumption) ⟨Nat.le_of_ble_eq_true rfl, Nat.le_of_ble_eq_true rfl⟩ ⟨Nat.le_refl _, Nat.le_refl _⟩ rfl (Nat.le_of_ble_eq_true rfl) dX8_close_75 rfl ?_
        rintro z75 F75 A75 ⟨w75, b75, e175, e275⟩
        obtain rfl := e175.symm
        obtain rfl := e275.symm
        have hRz : RepM S F72 A72 := hR1.K ((FrK.f (by decide)).tr ((((g47.tr g57).tr g66).tr g69).tr g72).K)
        have qe2 : q3 wi72 = closeE (nmN S a t) (nm S b t 0) := by rw [ewi72, ewi69, ewi47, ewi57, ewi66, q_sub, q_mul]; rfl
        have hzz := (b75 ()).trans (z3_iff qe2)
        refine x_if_eq (tgt := 89) (pc2 := 81) hC (by omega) dX8_close_78 rfl rfl (fun h_78 => ?_) (fun h_78 => ?_)
        · refine x_iinc (pc2 := 92) (loc2 := [_, _, _, _, _, _, _]) hC (by decide) rfl rfl dX8_close_89 rfl ?_
          refine x_goto (pc2 := 32) hC dX8_close_92 rfl ?_
          refine ih (t + 1) _ _ (by omega) (by omega) (by omega) hRz (fun s s0 s1 => ?_)
          by_cases y : s = t
          · rw [y]
            exact itC_neg (fun z => absurd h_78 (hzz.mpr z))
          · exact hdv s s0 (by omega)
        · refine x_aload_n (pc2 := 82) hC rfl rfl dX8_close_81 rfl ?_
          refine x_iload (pc2 := 84) hC rfl dX8_close_82 rfl ?_
          refine x_iconst (pc2 := 85) hC dX8_close_84 rfl ?_
          refine x_cVi (pc2 := 88) (ci := 8) hC hK (q_refuses l hM hRz) lk_1032 rfl rfl (by decide) (by assumption) (by assumption) ⟨Nat.le_of_ble_eq_true rfl, Nat.le_of_ble_eq_true rfl⟩ ⟨Nat.le_refl _, Nat.le_refl _⟩ rfl (Nat.le_of_ble_eq_true rfl) dX8_close_85 rfl ?_
          rintro z85 F85 A85 ⟨ez, hRf⟩
          exact x_iret hC hr hlk ⟨_, rfl, _, Or.inr ⟨hok, Or.inl ⟨t, ht, hdv, fun y => by dsimp only at y; rw [itC_pos (hzz.mp h_78)] at y; exact absurd y (by decide), ez, by dsimp only; rw [itC_pos (hzz.mp h_78)]⟩⟩, hRf⟩ dX8_close_88
  refine x_aload_n (pc2 := 1) hC rfl rfl dX8_close_0 rfl ?_
  refine x_iload_n (pc2 := 2) hC rfl rfl dX8_close_1 rfl ?_
  refine x_iconst (pc2 := 3) hC dX8_close_2 rfl ?_
  refine x_cVi (pc2 := 6) (ci := 8) hC hK (q_has l hM hR0 hc (by decide)) lk_977 rfl rfl (by decide) (by assumption) (by assumption) ⟨Nat.le_of_ble_eq_true rfl, Nat.le_of_ble_eq_true rfl⟩ ⟨Nat.le_refl _, Nat.le_refl _⟩ rfl (Nat.le_of_ble_eq_true rfl) dX8_close_3 rfl ?_
  rintro z3 F3 A3 ⟨w3, b3_, e13, e23⟩
  obtain rfl := e13.symm
  obtain rfl := e23.symm
  refine x_if_eq (tgt := 27) (pc2 := 9) hC (by omega) dX8_close_6 rfl rfl (fun h_6 => ?_) (fun h_6 => ?_)
  · refine x_iconst (pc2 := 28) hC dX8_close_27 rfl ?_
    exact x_iret hC hr hlk ⟨_, rfl, S, Or.inl ⟨fun ⟨q1, q2, q3⟩ => by first | exact absurd h_6 ((b3_ ()).mpr q1) | exact absurd h_15 ((b12 ()).mpr q2) | exact absurd h_24 ((b21 ()).mpr q3), rfl, rfl⟩, hR0⟩ dX8_close_28
  · refine x_aload_n (pc2 := 10) hC rfl rfl dX8_close_9 rfl ?_
    refine x_iload_n (pc2 := 11) hC rfl rfl dX8_close_10 rfl ?_
    refine x_iconst (pc2 := 12) hC dX8_close_11 rfl ?_
    refine x_cVi (pc2 := 15) (ci := 8) hC hK (q_has l hM hR0 ha0 (by decide)) lk_977 rfl rfl (by decide) (by assumption) (by assumption) ⟨Nat.le_of_ble_eq_true rfl, Nat.le_of_ble_eq_true rfl⟩ ⟨Nat.le_refl _, Nat.le_refl _⟩ rfl (Nat.le_of_ble_eq_true rfl) dX8_close_12 rfl ?_
    rintro z12 F12 A12 ⟨w12, b12, e112, e212⟩
    obtain rfl := e112.symm
    obtain rfl := e212.symm
    refine x_if_eq (tgt := 27) (pc2 := 18) hC (by omega) dX8_close_15 rfl rfl (fun h_15 => ?_) (fun h_15 => ?_)
    · refine x_iconst (pc2 := 28) hC dX8_close_27 rfl ?_
      exact x_iret hC hr hlk ⟨_, rfl, S, Or.inl ⟨fun ⟨q1, q2, q3⟩ => by first | exact absurd h_6 ((b3_ ()).mpr q1) | exact absurd h_15 ((b12 ()).mpr q2) | exact absurd h_24 ((b21 ()).mpr q3), rfl, rfl⟩, hR0⟩ dX8_close_28
    · refine x_aload_n (pc2 := 19) hC rfl rfl dX8_close_18 rfl ?_
      refine x_iload_n (pc2 := 20) hC rfl rfl dX8_close_19 rfl ?_
      refine x_iconst (pc2 := 21) hC dX8_close_20 rfl ?_
      refine x_cVi (pc2 := 24) (ci := 8) hC hK (q_has l hM hR0 hb0 (by decide)) lk_977 rfl rfl (by decide) (by assumption) (by assumption) ⟨Nat.le_of_ble_eq_true rfl, Nat.le_of_ble_eq_true rfl⟩ ⟨Nat.le_refl _, Nat.le_refl _⟩ rfl (Nat.le_of_ble_eq_true rfl) dX8_close_21 rfl ?_
      rintro z21 F21 A21 ⟨w21, b21, e121, e221⟩
      obtain rfl := e121.symm
      obtain rfl := e221.symm
      refine x_if_ne (tgt := 29) (pc2 := 27) hC (by omega) dX8_close_24 rfl rfl (fun h_24 => ?_) (fun h_24 => ?_)
      · refine x_iconst (pc2 := 30) hC dX8_close_29 rfl ?_
        refine x_istore (pc2 := 32) (loc2 := [_, _, _, _, _, _, _]) hC (by decide) rfl dX8_close_30 rfl ?_
        exact loop1 ⟨(b3_ ()).mp h_6, (b12 ()).mp h_15, (b21 ()).mp h_24⟩ 5 0 F A (by decide) (by decide) (by decide) hR0 (fun s a b => by omega)
      · refine x_iconst (pc2 := 28) hC dX8_close_27 rfl ?_
        exact x_iret hC hr hlk ⟨_, rfl, S, Or.inl ⟨fun ⟨q1, q2, q3⟩ => by first | exact absurd h_6 ((b3_ ()).mpr q1) | exact absurd h_15 ((b12 ()).mpr q2) | exact absurd h_24 ((b21 ()).mpr q3), rfl, rfl⟩, hR0⟩ dX8_close_28
theorem dX8_correct_0 : decode cX8_correct 0 = .ok (.aload_n 0, 1) := by decide +kernel
theorem dX8_correct_1 : decode cX8_correct 1 = .ok (.iload_n 1, 1) := by decide +kernel
theorem dX8_correct_2 : decode cX8_correct 2 = .ok (.iconst 1, 1) := by decide +kernel
theorem dX8_correct_3 : decode cX8_correct 3 = .ok (.invokevirtual 193, 3) := by decide +kernel
theorem dX8_correct_6 : decode cX8_correct 6 = .ok (.ifCond .eq 21, 3) := by decide +kernel
theorem dX8_correct_9 : decode cX8_correct 9 = .ok (.aload_n 0, 1) := by decide +kernel
theorem dX8_correct_10 : decode cX8_correct 10 = .ok (.iload_n 2, 1) := by decide +kernel
theorem dX8_correct_11 : decode cX8_correct 11 = .ok (.iconst 2, 1) := by decide +kernel
theorem dX8_correct_12 : decode cX8_correct 12 = .ok (.invokevirtual 193, 3) := by decide +kernel
theorem dX8_correct_15 : decode cX8_correct 15 = .ok (.ifCond .eq 12, 3) := by decide +kernel
theorem dX8_correct_18 : decode cX8_correct 18 = .ok (.aload_n 0, 1) := by decide +kernel
theorem dX8_correct_19 : decode cX8_correct 19 = .ok (.iload_n 3, 1) := by decide +kernel
theorem dX8_correct_20 : decode cX8_correct 20 = .ok (.iconst 1, 1) := by decide +kernel
theorem dX8_correct_21 : decode cX8_correct 21 = .ok (.invokevirtual 193, 3) := by decide +kernel
theorem dX8_correct_24 : decode cX8_correct 24 = .ok (.ifCond .ne 5, 3) := by decide +kernel
theorem dX8_correct_27 : decode cX8_correct 27 = .ok (.iconst (-1), 1) := by decide +kernel
theorem dX8_correct_28 : decode cX8_correct 28 = .ok (.ireturn, 1) := by decide +kernel
theorem dX8_correct_29 : decode cX8_correct 29 = .ok (.aload_n 0, 1) := by decide +kernel
theorem dX8_correct_30 : decode cX8_correct 30 = .ok (.invokevirtual 212, 3) := by decide +kernel
theorem dX8_correct_33 : decode cX8_correct 33 = .ok (.iconst 0, 1) := by decide +kernel
theorem dX8_correct_34 : decode cX8_correct 34 = .ok (.istore 4, 2) := by decide +kernel
theorem dX8_correct_36 : decode cX8_correct 36 = .ok (.iload 4, 2) := by decide +kernel
theorem dX8_correct_38 : decode cX8_correct 38 = .ok (.iconst 4, 1) := by decide +kernel
theorem dX8_correct_39 : decode cX8_correct 39 = .ok (.if_icmp .ge 37, 3) := by decide +kernel
theorem dX8_correct_42 : decode cX8_correct 42 = .ok (.aload_n 0, 1) := by decide +kernel
theorem dX8_correct_43 : decode cX8_correct 43 = .ok (.iconst 0, 1) := by decide +kernel
theorem dX8_correct_44 : decode cX8_correct 44 = .ok (.putfield 52, 3) := by decide +kernel
theorem dX8_correct_47 : decode cX8_correct 47 = .ok (.aload_n 0, 1) := by decide +kernel
theorem dX8_correct_48 : decode cX8_correct 48 = .ok (.aload_n 0, 1) := by decide +kernel
theorem dX8_correct_49 : decode cX8_correct 49 = .ok (.iload_n 2, 1) := by decide +kernel
theorem dX8_correct_50 : decode cX8_correct 50 = .ok (.iload_n 3, 1) := by decide +kernel
theorem dX8_correct_51 : decode cX8_correct 51 = .ok (.iload 4, 2) := by decide +kernel
theorem dX8_correct_53 : decode cX8_correct 53 = .ok (.invokevirtual 238, 3) := by decide +kernel
theorem dX8_correct_56 : decode cX8_correct 56 = .ok (.invokevirtual 206, 3) := by decide +kernel
theorem dX8_correct_59 : decode cX8_correct 59 = .ok (.ifCond .eq 11, 3) := by decide +kernel
theorem dX8_correct_62 : decode cX8_correct 62 = .ok (.aload_n 0, 1) := by decide +kernel
theorem dX8_correct_63 : decode cX8_correct 63 = .ok (.iload 4, 2) := by decide +kernel
theorem dX8_correct_65 : decode cX8_correct 65 = .ok (.iconst 1, 1) := by decide +kernel
theorem dX8_correct_66 : decode cX8_correct 66 = .ok (.invokevirtual 209, 3) := by decide +kernel
theorem dX8_correct_69 : decode cX8_correct 69 = .ok (.ireturn, 1) := by decide +kernel
theorem dX8_correct_70 : decode cX8_correct 70 = .ok (.iinc 4 1, 3) := by decide +kernel
theorem dX8_correct_73 : decode cX8_correct 73 = .ok (.goto (-37), 3) := by decide +kernel
theorem dX8_correct_76 : decode cX8_correct 76 = .ok (.iconst 0, 1) := by decide +kernel
theorem dX8_correct_77 : decode cX8_correct 77 = .ok (.istore 4, 2) := by decide +kernel
theorem dX8_correct_79 : decode cX8_correct 79 = .ok (.iload 4, 2) := by decide +kernel
theorem dX8_correct_81 : decode cX8_correct 81 = .ok (.iconst 4, 1) := by decide +kernel
theorem dX8_correct_82 : decode cX8_correct 82 = .ok (.if_icmp .ge 56, 3) := by decide +kernel
theorem dX8_correct_85 : decode cX8_correct 85 = .ok (.aload_n 0, 1) := by decide +kernel
theorem dX8_correct_86 : decode cX8_correct 86 = .ok (.iconst 0, 1) := by decide +kernel
theorem dX8_correct_87 : decode cX8_correct 87 = .ok (.putfield 52, 3) := by decide +kernel
theorem dX8_correct_90 : decode cX8_correct 90 = .ok (.aload_n 0, 1) := by decide +kernel
theorem dX8_correct_91 : decode cX8_correct 91 = .ok (.iload 4, 2) := by decide +kernel
theorem dX8_correct_93 : decode cX8_correct 93 = .ok (.iconst 0, 1) := by decide +kernel
theorem dX8_correct_94 : decode cX8_correct 94 = .ok (.iconst 0, 1) := by decide +kernel
theorem dX8_correct_95 : decode cX8_correct 95 = .ok (.aload_n 0, 1) := by decide +kernel
theorem dX8_correct_96 : decode cX8_correct 96 = .ok (.aload_n 0, 1) := by decide +kernel
theorem dX8_correct_97 : decode cX8_correct 97 = .ok (.aload_n 0, 1) := by decide +kernel
theorem dX8_correct_98 : decode cX8_correct 98 = .ok (.iload_n 3, 1) := by decide +kernel
theorem dX8_correct_99 : decode cX8_correct 99 = .ok (.iload 4, 2) := by decide +kernel
theorem dX8_correct_101 : decode cX8_correct 101 = .ok (.iconst 0, 1) := by decide +kernel
theorem dX8_correct_102 : decode cX8_correct 102 = .ok (.iconst 0, 1) := by decide +kernel
theorem dX8_correct_103 : decode cX8_correct 103 = .ok (.invokevirtual 200, 3) := by decide +kernel
theorem dX8_correct_106 : decode cX8_correct 106 = .ok (.aload_n 0, 1) := by decide +kernel
theorem dX8_correct_107 : decode cX8_correct 107 = .ok (.iload_n 2, 1) := by decide +kernel
theorem dX8_correct_108 : decode cX8_correct 108 = .ok (.iload 4, 2) := by decide +kernel
theorem dX8_correct_110 : decode cX8_correct 110 = .ok (.iconst 0, 1) := by decide +kernel
theorem dX8_correct_111 : decode cX8_correct 111 = .ok (.iconst 0, 1) := by decide +kernel
theorem dX8_correct_112 : decode cX8_correct 112 = .ok (.invokevirtual 200, 3) := by decide +kernel
theorem dX8_correct_115 : decode cX8_correct 115 = .ok (.invokevirtual 203, 3) := by decide +kernel
theorem dX8_correct_118 : decode cX8_correct 118 = .ok (.aload_n 0, 1) := by decide +kernel
theorem dX8_correct_119 : decode cX8_correct 119 = .ok (.iload_n 2, 1) := by decide +kernel
theorem dX8_correct_120 : decode cX8_correct 120 = .ok (.iload_n 3, 1) := by decide +kernel
theorem dX8_correct_121 : decode cX8_correct 121 = .ok (.iload 4, 2) := by decide +kernel
theorem dX8_correct_123 : decode cX8_correct 123 = .ok (.invokevirtual 238, 3) := by decide +kernel
theorem dX8_correct_126 : decode cX8_correct 126 = .ok (.invokevirtual 219, 3) := by decide +kernel
theorem dX8_correct_129 : decode cX8_correct 129 = .ok (.invokevirtual 173, 3) := by decide +kernel
theorem dX8_correct_132 : decode cX8_correct 132 = .ok (.iinc 4 1, 3) := by decide +kernel
theorem dX8_correct_135 : decode cX8_correct 135 = .ok (.goto (-56), 3) := by decide +kernel
theorem dX8_correct_138 : decode cX8_correct 138 = .ok (.aload_n 0, 1) := by decide +kernel
theorem dX8_correct_139 : decode cX8_correct 139 = .ok (.iload_n 1, 1) := by decide +kernel
theorem dX8_correct_140 : decode cX8_correct 140 = .ok (.invokevirtual 177, 3) := by decide +kernel
theorem dX8_correct_143 : decode cX8_correct 143 = .ok (.ireturn, 1) := by decide +kernel
set_option maxHeartbeats 16000000 in
theorem q_correct (l : Launch) {D : va_G} {ids : Nat → ClassId} {β : Nat} {sh : Nat → Nat × Nat} {N : Nat} {R : Nat → Nat → Option Nat} {F : Nat → Nat → Int} {A : Nat → Int → Int} {S : SP} (hM : MoL sh R N) (hR0 : RepM S F A) {c0 a b : Int} (hc : I32 c0) (ha0 : I32 a) (hb0 : I32 b) : MetX l yX8_correct cX8_correct 5 (some (.int)) 6 141 D ids β sh N R F A [rf 0, pI c0, pI a, pI b] (pIr (fun z F2 A2 => ∃ S2, rCorrect S c0 a b z S2 ∧ RepM S2 F2 A2)) := by
  refine MetX.of (loc := [_, _, _, _, _]) (plainFor_of_name (by decide +kernel)) (Nat.le_of_ble_eq_true rfl) rfl ?_
  intro p e s m args below meth c hC hK hr hlk
  obtain ⟨⟨m0, m1⟩, ⟨rx0, r2, r3, r7, r8, r9, r11, r12, r13, r16, r18⟩, ⟨m2, m3⟩, ⟨m4, m5⟩, ⟨m6, m7⟩, ⟨m8, m9⟩, ⟨m10, m11⟩, ⟨m12, m13⟩, ⟨m14, m15⟩, ⟨m16, m17⟩, ⟨m18, m19⟩, ⟨m20, m21⟩, ⟨m22, m23⟩⟩ := id hM
  obtain ⟨hi, b1, b2, b3, b4, b5, b6, b7, b8⟩ := id hR0
  have i1 := hi.1
  have n16 := hi.1.2
  have loop2 : (hasB S c0 1 ∧ hasB S a 2 ∧ hasB S b 1) → (∀ t, isT t → (fun t => itC ((undoF (nmN S a t) (nm S b t 0)).1 = (0, 0)) 1 0) t = 0) → ∀ (d : Nat) (t : Int) (F1 : Nat → Nat → Int) (A1 : Nat → Int → Int), 4 - t < d → 0 ≤ t → t ≤ 4 → RepM S F1 A1 → MkD (fun t e => undoX (nmN S a t) (nm S b t 0) e) (A1 10) (F1 0 17) (fun t0 e0 => t0 < t ∧ e0 = 0) → X p l e { frames := 6, cells := 0, slots := 0, locals := 141 } s m args below meth c (MQ below (QX D ids β sh N R (pIr (fun z F2 A2 => ∃ S2, rCorrect S c0 a b z S2 ∧ RepM S2 F2 A2))) args s 0 0 (inG β N)) (inG β N) D ids β sh 5 0 0 N R F1 A1 [some (rf 0), some (pI c0), some (pI a), some (pI b), some (pI t)] [] 79 := by
    intro hok hdv d
    induction d with
    | zero => intro t F1 A1 hd; omega
    | succ d ih =>
      intro t F1 A1 hd t0 t4 hR1 hmk
      have h17 : F1 0 17 = 0 ∨ F1 0 17 = 1 := by rcases hmk.1 with ⟨q, -⟩ | ⟨q, -⟩ <;> omega
      have hdn : isT t → ¬ (undoF (nmN S a t) (nm S b t 0)).1 = (0, 0) := fun ht y => by
        have := hdv t ht
        dsimp only at this
        rw [itC_pos y] at this
        exact absurd this (by decide)
      obtain ⟨⟨hc2, -⟩, ⟨ha, -⟩, hb, -⟩ := id hok
      have a16 := ha.2
      have b16 := hb.2
      have a00 := ha.1
      have b00 := hb.1
      have hb6 := hR1.2.2.2.2.2.2.1
      refine x_iload (pc2 := 81) hC rfl dX8_correct_79 rfl ?_
      refine x_iconst (pc2 := 82) hC dX8_correct_81 rfl ?_
      refine x_icmp_ge (tgt := 138) (pc2 := 85) hC (by omega) (by omega) dX8_correct_82 rfl rfl (fun h_82 => ?_) (fun h_82 => ?_)
      · obtain ⟨hb17, w, hwf, hm1, hm2, hm3⟩ := hmk.ends hi hok.1.1 (fun t0 e0 h1 h2 q => if_neg (fun y => q ⟨by omega, y⟩)) (fun y t0 e0 h1 h2 h3 => if_neg h3)
        refine x_aload_n (pc2 := 139) hC rfl rfl dX8_correct_138 rfl ?_
        refine x_iload_n (pc2 := 140) hC rfl rfl dX8_correct_139 rfl ?_
        refine x_cVi (pc2 := 143) (ci := 8) hC hK (q_ends l hM hR1 hok.1.1 hwf hb17 hm1) lk_957 rfl rfl (by decide) (by assumption) (by assumption) ⟨Nat.le_of_ble_eq_true rfl, Nat.le_of_ble_eq_true rfl⟩ ⟨Nat.le_refl _, Nat.le_refl _⟩ rfl (Nat.le_of_ble_eq_true rfl) dX8_correct_140 rfl ?_
        rintro z140 F140 A140 hq
        obtain ⟨S2, hs2, hR2⟩ : ∃ S2, ((F1 0 17 = 1 ∧ z140 = -5 ∧ S2 = S) ∨ (F1 0 17 = 0 ∧ z140 = 0 ∧ S2 = actS S c0 w)) ∧ RepM S2 F140 A140 := by
          rcases hq with ⟨q1, q2, q3⟩ | ⟨q1, q2, q3⟩
          · exact ⟨_, Or.inl ⟨q1, q2, rfl⟩, q3⟩
          · exact ⟨_, Or.inr ⟨q1, q2, rfl⟩, q3⟩
        exact x_iret hC hr hlk ⟨_, rfl, S2, Or.inr ⟨hok, spAct.ok hdv hm2 hm3 hs2⟩, hR2⟩ dX8_correct_143
      · have ht : isT t := by omega
        have hdt := hdn ht
        refine x_aload_n (pc2 := 86) hC rfl rfl dX8_correct_85 rfl ?_
        refine x_iconst (pc2 := 87) hC dX8_correct_86 rfl ?_
        refine p_819 (pc2 := 90) hC hK (by assumption) (by assumption) dX8_correct_87 rfl ?_
        refine x_aload_n (pc2 := 91) hC rfl rfl dX8_correct_90 rfl ?_
        refine x_iload (pc2 := 93) hC rfl dX8_correct_91 rfl ?_
        refine x_iconst (pc2 := 94) hC dX8_correct_93 rfl ?_
        refine x_iconst (pc2 := 95) hC dX8_correct_94 rfl ?_
        refine x_aload_n (pc2 := 96) hC rfl rfl dX8_correct_95 rfl ?_
        refine x_aload_n (pc2 := 97) hC rfl rfl dX8_correct_96 rfl ?_
        refine x_aload_n (pc2 := 98) hC rfl rfl dX8_correct_97 rfl ?_
        refine x_iload_n (pc2 := 99) hC rfl rfl dX8_correct_98 rfl ?_
        refine x_iload (pc2 := 101) hC rfl dX8_correct_99 rfl ?_
        refine x_iconst (pc2 := 102) hC dX8_correct_101 rfl ?_
        refine x_iconst (pc2 := 103) hC dX8_correct_102 rfl ?_
        refine x_cVi (pc2 := 106) (ci := 8) hC hK (t_entry l hM (St.zero (F := F1) (A := A1)) (by decide) ⟨by omega, by omega⟩ (x := vS S b t 0) (show held (A1 2) (96 * b + 24 * t + 6 * (2 * 0 + 0)) (vS S b t 0) from hb6 b t 0 hb ht ⟨by decide, by decide⟩) ((hi.2.1 b hb).2 t 0 ht ⟨by decide, by decide⟩).1.2.2) lk_985 rfl rfl (by decide) (by assumption) (by assumption) ⟨Nat.le_of_ble_eq_true rfl, Nat.le_of_ble_eq_true rfl⟩ ⟨Nat.le_refl _, Nat.le_refl _⟩ rfl (Nat.le_of_ble_eq_true rfl) dX8_correct_103 rfl ?_
        rintro z103 F103 A103 ⟨ez103, V103, hS103, v103, k103, g103⟩
        obtain rfl := ez103.symm
        replace hS103 : St 18 V103 F103 A103 := hS103
        rw [show (0 : Int) + 15 = 15 from rfl]
        obtain ⟨wm103, ewm103⟩ : ∃ w : T3, w = vS S b t 0 := ⟨_, rfl⟩
        have uwm103 : tr V103 15 = wm103 := by rw [ewm103]; exact v103
        have bwm103 : bdt 25 25 wm103 := by rw [ewm103]; exact (ok_bdt ((hi.2.1 b hb).2 t 0 ht ⟨by decide, by decide⟩).1)
        clear v103
        refine x_aload_n (pc2 := 107) hC rfl rfl dX8_correct_106 rfl ?_
        refine x_iload_n (pc2 := 108) hC rfl rfl dX8_correct_107 rfl ?_
        refine x_iload (pc2 := 110) hC rfl dX8_correct_108 rfl ?_
        refine x_iconst (pc2 := 111) hC dX8_correct_110 rfl ?_
        refine x_iconst (pc2 := 112) hC dX8_correct_111 rfl ?_
        refine x_cVi (pc2 := 115) (ci := 8) hC hK (t_entry l hM hS103 (by decide) ⟨by omega, by omega⟩ (x := vS S a t 0) (by rw [g103.a (by decide)]; exact (show held (A1 2) (96 * a + 24 * t + 6 * (2 * 0 + 0)) (vS S a t 0) from hb6 a t 0 ha ht ⟨by decide, by decide⟩)) ((hi.2.1 a ha).2 t 0 ht ⟨by decide, by decide⟩).1.2.2) lk_985 rfl rfl (by decide) (by assumption) (by assumption) ⟨Nat.le_of_ble_eq_true rfl, Nat.le_of_ble_eq_true rfl⟩ ⟨Nat.le_refl _, Nat.le_refl _⟩ rfl (Nat.le_of_ble_eq_true rfl) dX8_correct_112 rfl ?_
        rintro z112 F112 A112 ⟨ez112, V112, hS112, v112, k112, g112⟩
        obtain rfl := ez112.symm
        replace hS112 : St 36 V112 F112 A112 := hS112
        have t112_wm103 : tr V112 15 = wm103 := (tr_keep (by decide) k112).trans uwm103
        rw [show (18 : Int) + 15 = 33 from rfl]
        obtain ⟨wm112, ewm112⟩ : ∃ w : T3, w = vS S a t 0 := ⟨_, rfl⟩
        have uwm112 : tr V112 33 = wm112 := by rw [ewm112]; exact v112
        have bwm112 : bdt 25 25 wm112 := by rw [ewm112]; exact (ok_bdt ((hi.2.1 a ha).2 t 0 ht ⟨by decide, by decide⟩).1)
        clear v112
        refine x_cVi (pc2 := 118) (ci := 8) hC hK (t_sub l hM hS112 (x := 15) (y := 33) ⟨by decide, by decide⟩ ⟨by decide, by decide⟩ t112_wm103 uwm112 bwm103 bwm112 (by decide) ⟨by decide, by decide, by decide⟩) lk_1012 rfl rfl (by decide) (by assumption) (by assumption) ⟨Nat.le_of_ble_eq_true rfl, Nat.le_of_ble_eq_true rfl⟩ ⟨Nat.le_refl _, Nat.le_refl _⟩ rfl (Nat.le_of_ble_eq_true rfl) dX8_correct_115 rfl ?_
        rintro z115 F115 A115 ⟨ez115, V115, hS115, v115, k115, g115⟩
        obtain rfl := ez115.symm
        replace hS115 : St 51 V115 F115 A115 := hS115
        have t115_wm103 : tr V115 15 = wm103 := (tr_keep (by decide) k115).trans t112_wm103
        have t115_wm112 : tr V115 33 = wm112 := (tr_keep (by decide) k115).trans uwm112
        rw [show (36 : Int) + 12 = 48 from rfl]
        obtain ⟨wm115, ewm115⟩ : ∃ w : T3, w = tadd wm103 (tneg wm112) := ⟨_, rfl⟩
        have uwm115 : tr V115 48 = wm115 := by rw [ewm115]; exact v115
        have bwm115 : bdt 51 50 wm115 := by rw [ewm115]; exact (bdt_add bwm103 (bdt_neg bwm112) (by decide) (by decide) (by decide))
        clear v115
        have hRu : RepM S F115 A115 := hR1.K ((FrK.f (by decide)).tr ((g103.tr g112).tr g115).K)
        refine x_aload_n (pc2 := 119) hC rfl rfl dX8_correct_118 rfl ?_
        refine x_iload_n (pc2 := 120) hC rfl rfl dX8_correct_119 rfl ?_
        refine x_iload_n (pc2 := 121) hC rfl rfl dX8_correct_120 rfl ?_
        refine x_iload (pc2 := 123) hC rfl dX8_correct_121 rfl ?_
        refine x_cVi (pc2 := 126) (ci := 8) hC hK (t_under51 l hM hRu hS115 ha hb ht) lk_1093 rfl rfl (by decide) (by assumption) (by assumption) ⟨Nat.le_of_ble_eq_true rfl, Nat.le_of_ble_eq_true rfl⟩ ⟨Nat.le_refl _, Nat.le_refl _⟩ rfl (Nat.le_of_ble_eq_true rfl) dX8_correct_123 rfl ?_
        rintro z123 F123 A123 ⟨ez123, V123, hS123, v123, k123, g123⟩
        obtain rfl := ez123.symm
        replace hS123 : St 188 V123 F123 A123 := hS123
        have t123_wm103 : tr V123 15 = wm103 := (tr_keep (by decide) k123).trans t115_wm103
        have t123_wm112 : tr V123 33 = wm112 := (tr_keep (by decide) k123).trans t115_wm112
        have t123_wm115 : tr V123 48 = wm115 := (tr_keep (by decide) k123).trans uwm115
        rw [show (51 : Int) + 134 = 185 from rfl]
        obtain ⟨wm123, ewm123⟩ : ∃ w : T3, w = tadd (tmul (vS S a t 1) (vS S a t 2)) (tmul (vS S a t 3) (tadd (vS S b t 0) (tneg (vS S a t 0)))) := ⟨_, rfl⟩
        have uwm123 : tr V123 185 = wm123 := by rw [ewm123]; exact v123
        have bwm123 : bdt 128 125 wm123 := by rw [ewm123]; exact (bdt_add (a := 51) (c := 50) (b := 77) (d := 75) (bdt_mul (ok_bdt ((hi.2.1 a ha).2 t 1 ht ⟨by decide, by decide⟩).1) (ok_bdt ((hi.2.1 a ha).2 t 2 ht ⟨by decide, by decide⟩).1) (by decide) (by decide)) (bdt_mul (a := 25) (c := 25) (b := 51) (d := 50) (ok_bdt ((hi.2.1 a ha).2 t 3 ht ⟨by decide, by decide⟩).1) (bdt_add (ok_bdt ((hi.2.1 b hb).2 t 0 ht ⟨by decide, by decide⟩).1) (bdt_neg (ok_bdt ((hi.2.1 a ha).2 t 0 ht ⟨by decide, by decide⟩).1)) (by decide) (by decide) (by decide)) (by decide) (by decide)) (by decide) (by decide) (by decide))
        clear v123
        refine x_cVi (pc2 := 129) (ci := 8) hC hK (t_quo l hM hS123 (x := 48) (y := 185) ⟨by decide, by decide⟩ ⟨by decide, by decide⟩ t123_wm115 uwm123 bwm115 bwm123 (by decide) ⟨by decide, by decide, by decide, by decide, by decide⟩) lk_1044 rfl rfl (by decide) (by assumption) (by assumption) ⟨Nat.le_of_ble_eq_true rfl, Nat.le_of_ble_eq_true rfl⟩ ⟨Nat.le_refl _, Nat.le_refl _⟩ rfl (Nat.le_of_ble_eq_true rfl) dX8_correct_126 rfl ?_
        rintro z126 F126 A126 ⟨ez126, V126, hS126, v126, k126, g126⟩
        obtain rfl := ez126.symm
        replace hS126 : St 212 V126 F126 A126 := hS126
        have t126_wm103 : tr V126 15 = wm103 := (tr_keep (by decide) k126).trans t123_wm103
        have t126_wm112 : tr V126 33 = wm112 := (tr_keep (by decide) k126).trans t123_wm112
        have t126_wm115 : tr V126 48 = wm115 := (tr_keep (by decide) k126).trans t123_wm115
        have t126_wm123 : tr V126 185 = wm123 := (tr_keep (by decide) k126).trans uwm123
        rw [show (188 : Int) + 21 = 209 from rfl]
        obtain ⟨wm126, ewm126⟩ : ∃ w : T3, w = tquo wm115 wm123 := ⟨_, rfl⟩
        have uwm126 : tr V126 209 = wm126 := by rw [ewm126]; exact v126
        have bwm126 : bdt 305 307 wm126 := by rw [ewm126]; exact (bdt_quo bwm115 bwm123 (by decide) (by decide))
        clear v126
        have qe2 : q3 wm123 = undoF (nmN S a t) (nm S b t 0) := by rw [ewm123]; rw [q_add, q_mul, q_mul, q_sub]; rfl
        have hz : ¬ (wm123.1 = 0 ∧ wm123.2.1 = 0) := fun y => hdt ((z3_iff qe2).mp y)
        have evwm126 : wm126 = tquo (tadd (vS S b t 0) (tneg (vS S a t 0))) wm123 := by rw [ewm126, ewm115, ewm103, ewm112]
        have hrp : 0 < wm126.2.2 := by rw [evwm126]; exact r_quo (r_add (rr hi hb ht ⟨by decide, by decide⟩) (show 0 < (tneg _).2.2 from (rr hi ha ht ⟨by decide, by decide⟩))) hz
        have gg := ((((g103.tr g112).tr g115).tr g123).tr g126)
        have e17 : F126 0 17 = F1 0 17 := (gg.2.1 17 (by decide) (by decide) (by decide)).trans (by rw [uF_nj (by decide)])
        have e10 : A126 10 = A1 10 := gg.a (by decide)
        refine x_cVv (pc2 := 132) (ci := 8) hC hK (n_makes l hM hS126 (by decide) ht (i := 0) (j := 0) ⟨by decide, by decide⟩ (x := 209) ⟨by decide, by decide⟩ uwm126 hrp (by rw [e17]; exact h17)) lk_919 rfl rfl (by decide) (by assumption) (by assumption) ⟨Nat.le_of_ble_eq_true rfl, Nat.le_of_ble_eq_true rfl⟩ ⟨Nat.le_refl _, Nat.le_refl _⟩ rfl (Nat.le_of_ble_eq_true rfl) dX8_correct_129 rfl ?_
        rintro F129 A129 ⟨-, m2, m3, m4, m5⟩
        have ml := mk_low (x := undoX (nmN S a t) (nm S b t 0) 0) hrp (undoX_un (hi.un (s := 0) ha ht) (un_q3 (rr hi hb ht ⟨by decide, by decide⟩)) hdt 0) (by rw [evwm126]; exact ((q_quo _ _).tr (un_div (by rw [q_sub]; exact un_sum (un_q3 (rr hi hb ht ⟨by decide, by decide⟩)) (un_q3 (rr hi ha ht ⟨by decide, by decide⟩))) (by rw [qe2]; exact hdt)) (by rw [q_sub, qe2]; exact eqf.rf _))) m2
        rw [e17] at m3
        refine x_iinc (pc2 := 135) (loc2 := [_, _, _, _, _]) hC (by decide) rfl rfl dX8_correct_132 rfl ?_
        refine x_goto (pc2 := 79) hC dX8_correct_135 rfl ?_
        refine ih (t + 1) _ _ (by omega) (by omega) (by omega) (hR1.K ((((FrK.f (by decide)).tr gg.K)).tr m5)) (hmk.step ht (e := 0) ⟨by decide, by decide⟩ (fun t0 e0 => ⟨fun y => by omega, fun y => by omega⟩) ml m3 (fun n hn => by rw [m4 n (by omega), e10]))
  have loop1 : (hasB S c0 1 ∧ hasB S a 2 ∧ hasB S b 1) → ∀ (d : Nat) (t : Int) (F1 : Nat → Nat → Int) (A1 : Nat → Int → Int), 4 - t < d → 0 ≤ t → t ≤ 4 → RepM S F1 A1 → (∀ s, 0 ≤ s → s < t → (fun t => itC ((undoF (nmN S a t) (nm S b t 0)).1 = (0, 0)) 1 0) s = 0) → F1 0 17 = 0 → (∀ t e, isT t → isT e → held (A1 10) (24 * t + 6 * e) z3) → X p l e { frames := 6, cells := 0, slots := 0, locals := 141 } s m args below meth c (MQ below (QX D ids β sh N R (pIr (fun z F2 A2 => ∃ S2, rCorrect S c0 a b z S2 ∧ RepM S2 F2 A2))) args s 0 0 (inG β N)) (inG β N) D ids β sh 5 0 0 N R F1 A1 [some (rf 0), some (pI c0), some (pI a), some (pI b), some (pI t)] [] 36 := by
    intro hok d
    induction d with
    | zero => intro t F1 A1 hd; omega
    | succ d ih =>
      intro t F1 A1 hd t0 t4 hR1 hdv h17 hz3
      obtain ⟨⟨hc2, -⟩, ⟨ha, -⟩, hb, -⟩ := id hok
      have a16 := ha.2
      have b16 := hb.2
      have a00 := ha.1
      have b00 := hb.1
      have hb6 := hR1.2.2.2.2.2.2.1
      refine x_iload (pc2 := 38) hC rfl dX8_correct_36 rfl ?_
      refine x_iconst (pc2 := 39) hC dX8_correct_38 rfl ?_
      refine x_icmp_ge (tgt := 76) (pc2 := 42) hC (by omega) (by omega) dX8_correct_39 rfl rfl (fun h_39 => ?_) (fun h_39 => ?_)
      · refine x_iconst (pc2 := 77) hC dX8_correct_76 rfl ?_
        refine x_istore (pc2 := 79) (loc2 := [_, _, _, _, _]) hC (by decide) rfl dX8_correct_77 rfl ?_
        exact loop2 hok (fun s hs => hdv s hs.1 (by omega)) 5 0 F1 A1 (by decide) (by decide) (by decide) hR1 (by rw [h17]; exact MkD.nil (fun t e ht _ q => by have := q.1; omega) hz3)
      · have ht : isT t := by omega
        refine x_aload_n (pc2 := 43) hC rfl rfl dX8_correct_42 rfl ?_
        refine x_iconst (pc2 := 44) hC dX8_correct_43 rfl ?_
        refine p_819 (pc2 := 47) hC hK (by assumption) (by assumption) dX8_correct_44 rfl ?_
        refine x_aload_n (pc2 := 48) hC rfl rfl dX8_correct_47 rfl ?_
        refine x_aload_n (pc2 := 49) hC rfl rfl dX8_correct_48 rfl ?_
        refine x_iload_n (pc2 := 50) hC rfl rfl dX8_correct_49 rfl ?_
        refine x_iload_n (pc2 := 51) hC rfl rfl dX8_correct_50 rfl ?_
        refine x_iload (pc2 := 53) hC rfl dX8_correct_51 rfl ?_
        refine x_cVi (pc2 := 56) (ci := 8) hC hK (t_under0 l hM (hR1.K (FrK.f (by decide))) (St.zero (F := F1) (A := A1)) ha hb ht) lk_1093 rfl rfl (by decide) (by assumption) (by assumption) ⟨Nat.le_of_ble_eq_true rfl, Nat.le_of_ble_eq_true rfl⟩ ⟨Nat.le_refl _, Nat.le_refl _⟩ rfl (Nat.le_of_ble_eq_true rfl) dX8_correct_53 rfl ?_
        rintro z53 F53 A53 ⟨ez53, V53, hS53, v53, k53, g53⟩
        obtain rfl := ez53.symm
        replace hS53 : St 137 V53 F53 A53 := hS53
        rw [show (0 : Int) + 134 = 134 from rfl]
        obtain ⟨wi53, ewi53⟩ : ∃ w : T3, w = tadd (tmul (vS S a t 1) (vS S a t 2)) (tmul (vS S a t 3) (tadd (vS S b t 0) (tneg (vS S a t 0)))) := ⟨_, rfl⟩
        have uwi53 : tr V53 134 = wi53 := by rw [ewi53]; exact v53
        have bwi53 : bdt 128 125 wi53 := by rw [ewi53]; exact (bdt_add (a := 51) (c := 50) (b := 77) (d := 75) (bdt_mul (ok_bdt ((hi.2.1 a ha).2 t 1 ht ⟨by decide, by decide⟩).1) (ok_bdt ((hi.2.1 a ha).2 t 2 ht ⟨by decide, by decide⟩).1) (by decide) (by decide)) (bdt_mul (a := 25) (c := 25) (b := 51) (d := 50) (ok_bdt ((hi.2.1 a ha).2 t 3 ht ⟨by decide, by decide⟩).1) (bdt_add (ok_bdt ((hi.2.1 b hb).2 t 0 ht ⟨by decide, by decide⟩).1) (bdt_neg (ok_bdt ((hi.2.1 a ha).2 t 0 ht ⟨by decide, by decide⟩).1)) (by decide) (by decide) (by decide)) (by decide) (by decide)) (by decide) (by decide) (by decide))
        clear v53
        refine x_cVi (pc2 := 59) (ci := 8) hC hK (t_zero l hM hS53 (x := 134) ⟨by decide, by decide⟩ uwi53) lk_1024 rfl rfl (by decide) (by assumption) (by assumption) ⟨Nat.le_of_ble_eq_true rfl, Nat.le_of_ble_eq_true rfl⟩ ⟨Nat.le_refl _, Nat.le_refl _⟩ rfl (Nat.le_of_ble_eq_true rfl) dX8_correct_56 rfl ?_
        rintro z56 F56 A56 ⟨w56, b56, e156, e256⟩
        obtain rfl := e156.symm
        obtain rfl := e256.symm
        have hRz : RepM S F53 A53 := hR1.K ((FrK.f (by decide)).tr g53.K)
        have qe2 : q3 wi53 = undoF (nmN S a t) (nm S b t 0) := by rw [ewi53]; rw [q_add, q_mul, q_mul, q_sub]; rfl
        have hzz := (b56 ()).trans (z3_iff qe2)
        refine x_if_eq (tgt := 70) (pc2 := 62) hC (by omega) dX8_correct_59 rfl rfl (fun h_59 => ?_) (fun h_59 => ?_)
        · refine x_iinc (pc2 := 73) (loc2 := [_, _, _, _, _]) hC (by decide) rfl rfl dX8_correct_70 rfl ?_
          refine x_goto (pc2 := 36) hC dX8_correct_73 rfl ?_
          refine ih (t + 1) _ _ (by omega) (by omega) (by omega) hRz (fun s s0 s1 => ?_) (by rw [(g53).2.1 17 (by decide) (by decide) (by decide), uF_nj (by decide)]; exact h17) (by rw [(g53).a (show 10 = 1 ∨ 10 = 2 ∨ 10 = 3 ∨ 10 = 10 ∨ 10 = 11 by decide)]; exact hz3)
          by_cases y : s = t
          · rw [y]
            exact itC_neg (fun z => absurd h_59 (hzz.mpr z))
          · exact hdv s s0 (by omega)
        · refine x_aload_n (pc2 := 63) hC rfl rfl dX8_correct_62 rfl ?_
          refine x_iload (pc2 := 65) hC rfl dX8_correct_63 rfl ?_
          refine x_iconst (pc2 := 66) hC dX8_correct_65 rfl ?_
          refine x_cVi (pc2 := 69) (ci := 8) hC hK (q_refuses l hM hRz) lk_1032 rfl rfl (by decide) (by assumption) (by assumption) ⟨Nat.le_of_ble_eq_true rfl, Nat.le_of_ble_eq_true rfl⟩ ⟨Nat.le_refl _, Nat.le_refl _⟩ rfl (Nat.le_of_ble_eq_true rfl) dX8_correct_66 rfl ?_
          rintro z66 F66 A66 ⟨ez, hRf⟩
          exact x_iret hC hr hlk ⟨_, rfl, _, Or.inr ⟨hok, Or.inl ⟨t, ht, hdv, fun y => by dsimp only at y; rw [itC_pos (hzz.mp h_59)] at y; exact absurd y (by decide), ez, by dsimp only; rw [itC_pos (hzz.mp h_59)]⟩⟩, hRf⟩ dX8_correct_69
  refine x_aload_n (pc2 := 1) hC rfl rfl dX8_correct_0 rfl ?_
  refine x_iload_n (pc2 := 2) hC rfl rfl dX8_correct_1 rfl ?_
  refine x_iconst (pc2 := 3) hC dX8_correct_2 rfl ?_
  refine x_cVi (pc2 := 6) (ci := 8) hC hK (q_has l hM hR0 hc (by decide)) lk_977 rfl rfl (by decide) (by assumption) (by assumption) ⟨Nat.le_of_ble_eq_true rfl, Nat.le_of_ble_eq_true rfl⟩ ⟨Nat.le_refl _, Nat.le_refl _⟩ rfl (Nat.le_of_ble_eq_true rfl) dX8_correct_3 rfl ?_
  rintro z3 F3 A3 ⟨w3, b3_, e13, e23⟩
  obtain rfl := e13.symm
  obtain rfl := e23.symm
  refine x_if_eq (tgt := 27) (pc2 := 9) hC (by omega) dX8_correct_6 rfl rfl (fun h_6 => ?_) (fun h_6 => ?_)
  · refine x_iconst (pc2 := 28) hC dX8_correct_27 rfl ?_
    exact x_iret hC hr hlk ⟨_, rfl, S, Or.inl ⟨fun ⟨q1, q2, q3⟩ => by first | exact absurd h_6 ((b3_ ()).mpr q1) | exact absurd h_15 ((b12 ()).mpr q2) | exact absurd h_24 ((b21 ()).mpr q3), rfl, rfl⟩, hR0⟩ dX8_correct_28
  · refine x_aload_n (pc2 := 10) hC rfl rfl dX8_correct_9 rfl ?_
    refine x_iload_n (pc2 := 11) hC rfl rfl dX8_correct_10 rfl ?_
    refine x_iconst (pc2 := 12) hC dX8_correct_11 rfl ?_
    refine x_cVi (pc2 := 15) (ci := 8) hC hK (q_has l hM hR0 ha0 (by decide)) lk_977 rfl rfl (by decide) (by assumption) (by assumption) ⟨Nat.le_of_ble_eq_true rfl, Nat.le_of_ble_eq_true rfl⟩ ⟨Nat.le_refl _, Nat.le_refl _⟩ rfl (Nat.le_of_ble_eq_true rfl) dX8_correct_12 rfl ?_
    rintro z12 F12 A12 ⟨w12, b12, e112, e212⟩
    obtain rfl := e112.symm
    obtain rfl := e212.symm
    refine x_if_eq (tgt := 27) (pc2 := 18) hC (by omega) dX8_correct_15 rfl rfl (fun h_15 => ?_) (fun h_15 => ?_)
    · refine x_iconst (pc2 := 28) hC dX8_correct_27 rfl ?_
      exact x_iret hC hr hlk ⟨_, rfl, S, Or.inl ⟨fun ⟨q1, q2, q3⟩ => by first | exact absurd h_6 ((b3_ ()).mpr q1) | exact absurd h_15 ((b12 ()).mpr q2) | exact absurd h_24 ((b21 ()).mpr q3), rfl, rfl⟩, hR0⟩ dX8_correct_28
    · refine x_aload_n (pc2 := 19) hC rfl rfl dX8_correct_18 rfl ?_
      refine x_iload_n (pc2 := 20) hC rfl rfl dX8_correct_19 rfl ?_
      refine x_iconst (pc2 := 21) hC dX8_correct_20 rfl ?_
      refine x_cVi (pc2 := 24) (ci := 8) hC hK (q_has l hM hR0 hb0 (by decide)) lk_977 rfl rfl (by decide) (by assumption) (by assumption) ⟨Nat.le_of_ble_eq_true rfl, Nat.le_of_ble_eq_true rfl⟩ ⟨Nat.le_refl _, Nat.le_refl _⟩ rfl (Nat.le_of_ble_eq_true rfl) dX8_correct_21 rfl ?_
      rintro z21 F21 A21 ⟨w21, b21, e121, e221⟩
      obtain rfl := e121.symm
      obtain rfl := e221.symm
      refine x_if_ne (tgt := 29) (pc2 := 27) hC (by omega) dX8_correct_24 rfl rfl (fun h_24 => ?_) (fun h_24 => ?_)
      · refine x_aload_n (pc2 := 30) hC rfl rfl dX8_correct_29 rfl ?_
        refine x_cVv (pc2 := 33) (ci := 8) hC hK (n_begins l hM) lk_1036 rfl rfl (by decide) (by assumption) (by assumption) ⟨Nat.le_of_ble_eq_true rfl, Nat.le_of_ble_eq_true rfl⟩ ⟨Nat.le_refl _, Nat.le_refl _⟩ rfl (Nat.le_of_ble_eq_true rfl) dX8_correct_30 rfl ?_
        rintro F30 A30 ⟨e130, e230, e330⟩
        have hRb : RepM S F30 A30 := by rw [e130]; exact hR0.of (fun j hj => uF_nj (by omega)) (fun b hb => e230 b (by omega))
        have h17b : F30 0 17 = 0 := by rw [e130, uF_eq]
        refine x_iconst (pc2 := 34) hC dX8_correct_33 rfl ?_
        refine x_istore (pc2 := 36) (loc2 := [_, _, _, _, _]) hC (by decide) rfl dX8_correct_34 rfl ?_
        exact loop1 ⟨(b3_ ()).mp h_6, (b12 ()).mp h_15, (b21 ()).mp h_24⟩ 5 0 F30 A30 (by decide) (by decide) (by decide) hRb (fun s a b => by omega) h17b e330
      · refine x_iconst (pc2 := 28) hC dX8_correct_27 rfl ?_
        exact x_iret hC hr hlk ⟨_, rfl, S, Or.inl ⟨fun ⟨q1, q2, q3⟩ => by first | exact absurd h_6 ((b3_ ()).mpr q1) | exact absurd h_15 ((b12 ()).mpr q2) | exact absurd h_24 ((b21 ()).mpr q3), rfl, rfl⟩, hR0⟩ dX8_correct_28
