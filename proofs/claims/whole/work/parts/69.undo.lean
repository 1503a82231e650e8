theorem dX8_step_0 : decode cX8_step 0 = .ok (.aload_n 0, 1) := by decide +kernel
theorem dX8_step_1 : decode cX8_step 1 = .ok (.iload_n 1, 1) := by decide +kernel
theorem dX8_step_2 : decode cX8_step 2 = .ok (.iconst 2, 1) := by decide +kernel
theorem dX8_step_3 : decode cX8_step 3 = .ok (.invokevirtual 193, 3) := by decide +kernel
theorem dX8_step_6 : decode cX8_step 6 = .ok (.ifCond .eq 27, 3) := by decide +kernel
theorem dX8_step_9 : decode cX8_step 9 = .ok (.iload_n 2, 1) := by decide +kernel
theorem dX8_step_10 : decode cX8_step 10 = .ok (.i2l, 1) := by decide +kernel
theorem dX8_step_11 : decode cX8_step 11 = .ok (.lconst 1, 1) := by decide +kernel
theorem dX8_step_12 : decode cX8_step 12 = .ok (.ldc2_w 241, 3) := by decide +kernel
theorem dX8_step_15 : decode cX8_step 15 = .ok (.invokestatic 157, 3) := by decide +kernel
theorem dX8_step_18 : decode cX8_step 18 = .ok (.ifCond .eq 15, 3) := by decide +kernel
theorem dX8_step_21 : decode cX8_step 21 = .ok (.iload_n 3, 1) := by decide +kernel
theorem dX8_step_22 : decode cX8_step 22 = .ok (.i2l, 1) := by decide +kernel
theorem dX8_step_23 : decode cX8_step 23 = .ok (.lconst 1, 1) := by decide +kernel
theorem dX8_step_24 : decode cX8_step 24 = .ok (.ldc2_w 241, 3) := by decide +kernel
theorem dX8_step_27 : decode cX8_step 27 = .ok (.invokestatic 157, 3) := by decide +kernel
theorem dX8_step_30 : decode cX8_step 30 = .ok (.ifCond .ne 5, 3) := by decide +kernel
theorem dX8_step_33 : decode cX8_step 33 = .ok (.iconst (-1), 1) := by decide +kernel
theorem dX8_step_34 : decode cX8_step 34 = .ok (.ireturn, 1) := by decide +kernel
theorem dX8_step_35 : decode cX8_step 35 = .ok (.aload_n 0, 1) := by decide +kernel
theorem dX8_step_36 : decode cX8_step 36 = .ok (.invokevirtual 212, 3) := by decide +kernel
theorem dX8_step_39 : decode cX8_step 39 = .ok (.iconst 0, 1) := by decide +kernel
theorem dX8_step_40 : decode cX8_step 40 = .ok (.istore 4, 2) := by decide +kernel
theorem dX8_step_42 : decode cX8_step 42 = .ok (.iload 4, 2) := by decide +kernel
theorem dX8_step_44 : decode cX8_step 44 = .ok (.iconst 4, 1) := by decide +kernel
theorem dX8_step_45 : decode cX8_step 45 = .ok (.if_icmp .ge 150, 3) := by decide +kernel
theorem dX8_step_48 : decode cX8_step 48 = .ok (.aload_n 0, 1) := by decide +kernel
theorem dX8_step_49 : decode cX8_step 49 = .ok (.iconst 0, 1) := by decide +kernel
theorem dX8_step_50 : decode cX8_step 50 = .ok (.putfield 52, 3) := by decide +kernel
theorem dX8_step_53 : decode cX8_step 53 = .ok (.aload_n 0, 1) := by decide +kernel
theorem dX8_step_54 : decode cX8_step 54 = .ok (.iload 4, 2) := by decide +kernel
theorem dX8_step_56 : decode cX8_step 56 = .ok (.iconst 0, 1) := by decide +kernel
theorem dX8_step_57 : decode cX8_step 57 = .ok (.iconst 0, 1) := by decide +kernel
theorem dX8_step_58 : decode cX8_step 58 = .ok (.aload_n 0, 1) := by decide +kernel
theorem dX8_step_59 : decode cX8_step 59 = .ok (.aload_n 0, 1) := by decide +kernel
theorem dX8_step_60 : decode cX8_step 60 = .ok (.iload_n 2, 1) := by decide +kernel
theorem dX8_step_61 : decode cX8_step 61 = .ok (.iload_n 3, 1) := by decide +kernel
theorem dX8_step_62 : decode cX8_step 62 = .ok (.isub, 1) := by decide +kernel
theorem dX8_step_63 : decode cX8_step 63 = .ok (.i2l, 1) := by decide +kernel
theorem dX8_step_64 : decode cX8_step 64 = .ok (.invokevirtual 89, 3) := by decide +kernel
theorem dX8_step_67 : decode cX8_step 67 = .ok (.aload_n 0, 1) := by decide +kernel
theorem dX8_step_68 : decode cX8_step 68 = .ok (.lconst 0, 1) := by decide +kernel
theorem dX8_step_69 : decode cX8_step 69 = .ok (.invokevirtual 89, 3) := by decide +kernel
theorem dX8_step_72 : decode cX8_step 72 = .ok (.aload_n 0, 1) := by decide +kernel
theorem dX8_step_73 : decode cX8_step 73 = .ok (.iload_n 2, 1) := by decide +kernel
theorem dX8_step_74 : decode cX8_step 74 = .ok (.iload_n 3, 1) := by decide +kernel
theorem dX8_step_75 : decode cX8_step 75 = .ok (.iadd, 1) := by decide +kernel
theorem dX8_step_76 : decode cX8_step 76 = .ok (.i2l, 1) := by decide +kernel
theorem dX8_step_77 : decode cX8_step 77 = .ok (.invokevirtual 89, 3) := by decide +kernel
theorem dX8_step_80 : decode cX8_step 80 = .ok (.invokevirtual 103, 3) := by decide +kernel
theorem dX8_step_83 : decode cX8_step 83 = .ok (.invokevirtual 173, 3) := by decide +kernel
theorem dX8_step_86 : decode cX8_step 86 = .ok (.aload_n 0, 1) := by decide +kernel
theorem dX8_step_87 : decode cX8_step 87 = .ok (.iload 4, 2) := by decide +kernel
theorem dX8_step_89 : decode cX8_step 89 = .ok (.iconst 1, 1) := by decide +kernel
theorem dX8_step_90 : decode cX8_step 90 = .ok (.iconst 1, 1) := by decide +kernel
theorem dX8_step_91 : decode cX8_step 91 = .ok (.aload_n 0, 1) := by decide +kernel
theorem dX8_step_92 : decode cX8_step 92 = .ok (.aload_n 0, 1) := by decide +kernel
theorem dX8_step_93 : decode cX8_step 93 = .ok (.iload_n 3, 1) := by decide +kernel
theorem dX8_step_94 : decode cX8_step 94 = .ok (.iload_n 2, 1) := by decide +kernel
theorem dX8_step_95 : decode cX8_step 95 = .ok (.isub, 1) := by decide +kernel
theorem dX8_step_96 : decode cX8_step 96 = .ok (.i2l, 1) := by decide +kernel
theorem dX8_step_97 : decode cX8_step 97 = .ok (.invokevirtual 89, 3) := by decide +kernel
theorem dX8_step_100 : decode cX8_step 100 = .ok (.aload_n 0, 1) := by decide +kernel
theorem dX8_step_101 : decode cX8_step 101 = .ok (.lconst 0, 1) := by decide +kernel
theorem dX8_step_102 : decode cX8_step 102 = .ok (.invokevirtual 89, 3) := by decide +kernel
theorem dX8_step_105 : decode cX8_step 105 = .ok (.aload_n 0, 1) := by decide +kernel
theorem dX8_step_106 : decode cX8_step 106 = .ok (.iload_n 2, 1) := by decide +kernel
theorem dX8_step_107 : decode cX8_step 107 = .ok (.iload_n 3, 1) := by decide +kernel
theorem dX8_step_108 : decode cX8_step 108 = .ok (.iadd, 1) := by decide +kernel
theorem dX8_step_109 : decode cX8_step 109 = .ok (.i2l, 1) := by decide +kernel
theorem dX8_step_110 : decode cX8_step 110 = .ok (.invokevirtual 89, 3) := by decide +kernel
theorem dX8_step_113 : decode cX8_step 113 = .ok (.invokevirtual 103, 3) := by decide +kernel
theorem dX8_step_116 : decode cX8_step 116 = .ok (.invokevirtual 173, 3) := by decide +kernel
theorem dX8_step_119 : decode cX8_step 119 = .ok (.aload_n 0, 1) := by decide +kernel
theorem dX8_step_120 : decode cX8_step 120 = .ok (.iload 4, 2) := by decide +kernel
theorem dX8_step_122 : decode cX8_step 122 = .ok (.iconst 1, 1) := by decide +kernel
theorem dX8_step_123 : decode cX8_step 123 = .ok (.iconst 0, 1) := by decide +kernel
theorem dX8_step_124 : decode cX8_step 124 = .ok (.aload_n 0, 1) := by decide +kernel
theorem dX8_step_125 : decode cX8_step 125 = .ok (.aload_n 0, 1) := by decide +kernel
theorem dX8_step_126 : decode cX8_step 126 = .ok (.ldc2_w 164, 3) := by decide +kernel
theorem dX8_step_129 : decode cX8_step 129 = .ok (.iload_n 2, 1) := by decide +kernel
theorem dX8_step_130 : decode cX8_step 130 = .ok (.i2l, 1) := by decide +kernel
theorem dX8_step_131 : decode cX8_step 131 = .ok (.lmul, 1) := by decide +kernel
theorem dX8_step_132 : decode cX8_step 132 = .ok (.invokevirtual 89, 3) := by decide +kernel
theorem dX8_step_135 : decode cX8_step 135 = .ok (.aload_n 0, 1) := by decide +kernel
theorem dX8_step_136 : decode cX8_step 136 = .ok (.lconst 0, 1) := by decide +kernel
theorem dX8_step_137 : decode cX8_step 137 = .ok (.invokevirtual 89, 3) := by decide +kernel
theorem dX8_step_140 : decode cX8_step 140 = .ok (.aload_n 0, 1) := by decide +kernel
theorem dX8_step_141 : decode cX8_step 141 = .ok (.iload_n 2, 1) := by decide +kernel
theorem dX8_step_142 : decode cX8_step 142 = .ok (.iload_n 3, 1) := by decide +kernel
theorem dX8_step_143 : decode cX8_step 143 = .ok (.iadd, 1) := by decide +kernel
theorem dX8_step_144 : decode cX8_step 144 = .ok (.i2l, 1) := by decide +kernel
theorem dX8_step_145 : decode cX8_step 145 = .ok (.invokevirtual 89, 3) := by decide +kernel
theorem dX8_step_148 : decode cX8_step 148 = .ok (.invokevirtual 103, 3) := by decide +kernel
theorem dX8_step_151 : decode cX8_step 151 = .ok (.invokevirtual 173, 3) := by decide +kernel
theorem dX8_step_154 : decode cX8_step 154 = .ok (.aload_n 0, 1) := by decide +kernel
theorem dX8_step_155 : decode cX8_step 155 = .ok (.iload 4, 2) := by decide +kernel
theorem dX8_step_157 : decode cX8_step 157 = .ok (.iconst 0, 1) := by decide +kernel
theorem dX8_step_158 : decode cX8_step 158 = .ok (.iconst 1, 1) := by decide +kernel
theorem dX8_step_159 : decode cX8_step 159 = .ok (.aload_n 0, 1) := by decide +kernel
theorem dX8_step_160 : decode cX8_step 160 = .ok (.aload_n 0, 1) := by decide +kernel
theorem dX8_step_161 : decode cX8_step 161 = .ok (.ldc2_w 164, 3) := by decide +kernel
theorem dX8_step_164 : decode cX8_step 164 = .ok (.iload_n 3, 1) := by decide +kernel
theorem dX8_step_165 : decode cX8_step 165 = .ok (.i2l, 1) := by decide +kernel
theorem dX8_step_166 : decode cX8_step 166 = .ok (.lmul, 1) := by decide +kernel
theorem dX8_step_167 : decode cX8_step 167 = .ok (.invokevirtual 89, 3) := by decide +kernel
theorem dX8_step_170 : decode cX8_step 170 = .ok (.aload_n 0, 1) := by decide +kernel
theorem dX8_step_171 : decode cX8_step 171 = .ok (.lconst 0, 1) := by decide +kernel
theorem dX8_step_172 : decode cX8_step 172 = .ok (.invokevirtual 89, 3) := by decide +kernel
theorem dX8_step_175 : decode cX8_step 175 = .ok (.aload_n 0, 1) := by decide +kernel
theorem dX8_step_176 : decode cX8_step 176 = .ok (.iload_n 2, 1) := by decide +kernel
theorem dX8_step_177 : decode cX8_step 177 = .ok (.iload_n 3, 1) := by decide +kernel
theorem dX8_step_178 : decode cX8_step 178 = .ok (.iadd, 1) := by decide +kernel
theorem dX8_step_179 : decode cX8_step 179 = .ok (.i2l, 1) := by decide +kernel
theorem dX8_step_180 : decode cX8_step 180 = .ok (.invokevirtual 89, 3) := by decide +kernel
theorem dX8_step_183 : decode cX8_step 183 = .ok (.invokevirtual 103, 3) := by decide +kernel
theorem dX8_step_186 : decode cX8_step 186 = .ok (.invokevirtual 173, 3) := by decide +kernel
theorem dX8_step_189 : decode cX8_step 189 = .ok (.iinc 4 1, 3) := by decide +kernel
theorem dX8_step_192 : decode cX8_step 192 = .ok (.goto (-150), 3) := by decide +kernel
theorem dX8_step_195 : decode cX8_step 195 = .ok (.aload_n 0, 1) := by decide +kernel
theorem dX8_step_196 : decode cX8_step 196 = .ok (.iload_n 1, 1) := by decide +kernel
theorem dX8_step_197 : decode cX8_step 197 = .ok (.invokevirtual 177, 3) := by decide +kernel
theorem dX8_step_200 : decode cX8_step 200 = .ok (.ireturn, 1) := by decide +kernel
set_option maxHeartbeats 16000000 in
theorem q_step (l : Launch) {D : va_G} {ids : Nat → ClassId} {β : Nat} {sh : Nat → Nat × Nat} {N : Nat} {R : Nat → Nat → Option Nat} {F : Nat → Nat → Int} {A : Nat → Int → Int} {S : SP} (hM : MoL sh R N) (hR0 : RepM S F A) {c0 n0 d0 : Int} (hc : I32 c0) (hn : I32 n0) (hd0 : I32 d0) : MetX l yX8_step cX8_step 5 (some (.int)) 4 118 D ids β sh N R F A [rf 0, pI c0, pI n0, pI d0] (pIr (MO (oStep S c0 n0 d0))) := by
  refine MetX.of (loc := [_, _, _, _, _]) (plainFor_of_name (by decide +kernel)) (Nat.le_of_ble_eq_true rfl) rfl ?_
  intro p e s m args below meth c hC hK hr hlk
  obtain ⟨⟨m0, m1⟩, ⟨rx0, r2, r3, r7, r8, r9, r11, r12, r13, r16, r18⟩, ⟨m2, m3⟩, ⟨m4, m5⟩, ⟨m6, m7⟩, ⟨m8, m9⟩, ⟨m10, m11⟩, ⟨m12, m13⟩, ⟨m14, m15⟩, ⟨m16, m17⟩, ⟨m18, m19⟩, ⟨m20, m21⟩, ⟨m22, m23⟩⟩ := id hM
  obtain ⟨hi, b1, b2, b3, b4, b5, b6, b7, b8⟩ := id hR0
  have i1 := hi.1
  have loop : hasB S c0 2 → (1 ≤ n0 ∧ n0 ≤ 10000) → (1 ≤ d0 ∧ d0 ≤ 10000) → ∀ (d : Nat) (k : Int) (F1 : Nat → Nat → Int) (A1 : Nat → Int → Int), 4 - k < d → 0 ≤ k → k ≤ 4 → RepM S F1 A1 → F1 0 17 = 0 → (∀ t e, isT t → isT e → t < k → held (A1 10) (24 * t + 6 * e) (stepW n0 d0 e)) → X p l e { frames := 4, cells := 0, slots := 0, locals := 118 } s m args below meth c (MQ below (QX D ids β sh N R (pIr (MO (oStep S c0 n0 d0)))) args s 0 0 (inG β N)) (inG β N) D ids β sh 5 0 0 N R F1 A1 [some (rf 0), some (pI c0), some (pI n0), some (pI d0), some (pI k)] [] 42 := by
    intro hCc hN hD d
    induction d with
    | zero => intro k F1 A1 hd; omega
    | succ d ih =>
      intro k F1 A1 hd k0 k4 hR1 h17 hmd
      refine x_iload (pc2 := 44) hC rfl dX8_step_42 rfl ?_
      refine x_iconst (pc2 := 45) hC dX8_step_44 rfl ?_
      refine x_icmp_ge (tgt := 195) (pc2 := 48) hC (by omega) (by omega) dX8_step_45 rfl rfl (fun h_45 => ?_) (fun h_45 => ?_)
      · have hwf : wfB (ptS S c0) (fun _ e => stepW n0 d0 e) := by
          intro t0 e0 ht0 he0
          refine ⟨?_, fun p1 _ => ?_⟩
          · dsimp only
            unfold stepW
            split
            · exact g3_ok (by omega) (by omega) (by decide)
            · split
              · exact g3_ok (by omega) (by omega) (by decide)
              · split
                · exact g3_ok (by omega) (by omega) (by decide)
                · exact g3_ok (by omega) (by omega) (by decide)
          · rw [hCc.2] at p1
            exact absurd p1 (by decide)
        refine x_aload_n (pc2 := 196) hC rfl rfl dX8_step_195 rfl ?_
        refine x_iload_n (pc2 := 197) hC rfl rfl dX8_step_196 rfl ?_
        refine x_cVi (pc2 := 200) (ci := 8) hC hK (q_ends l hM hR1 hCc.1 hwf (Or.inl h17) (fun _ t e ht he => hmd t e ht he (by omega))) lk_957 rfl rfl (by decide) (by assumption) (by assumption) ⟨Nat.le_of_ble_eq_true rfl, Nat.le_of_ble_eq_true rfl⟩ ⟨Nat.le_refl _, Nat.le_refl _⟩ rfl (Nat.le_of_ble_eq_true rfl) dX8_step_197 rfl ?_
        rintro z197 F197 A197 hq
        have hq2 := hq.resolve_left (fun q => by have := q.1; omega)
        exact x_iret hC hr hlk ⟨_, rfl, MO.of (by rw [oStep, itO_pos ⟨hCc, hN, hD⟩, hq2.2.1]) hq2.2.2⟩ dX8_step_200
      · refine x_aload_n (pc2 := 49) hC rfl rfl dX8_step_48 rfl ?_
        refine x_iconst (pc2 := 50) hC dX8_step_49 rfl ?_
        refine p_819 (pc2 := 53) hC hK (by assumption) (by assumption) dX8_step_50 rfl ?_
        refine x_aload_n (pc2 := 54) hC rfl rfl dX8_step_53 rfl ?_
        refine x_iload (pc2 := 56) hC rfl dX8_step_54 rfl ?_
        refine x_iconst (pc2 := 57) hC dX8_step_56 rfl ?_
        refine x_iconst (pc2 := 58) hC dX8_step_57 rfl ?_
        refine x_aload_n (pc2 := 59) hC rfl rfl dX8_step_58 rfl ?_
        refine x_aload_n (pc2 := 60) hC rfl rfl dX8_step_59 rfl ?_
        refine x_iload_n (pc2 := 61) hC rfl rfl dX8_step_60 rfl ?_
        refine x_iload_n (pc2 := 62) hC rfl rfl dX8_step_61 rfl ?_
        refine x_isub (pc2 := 63) hC dX8_step_62 rfl ?_
        refine x_i2l (pc2 := 64) hC ⟨by omega, by omega⟩ dX8_step_63 rfl ?_
        refine x_cVi (pc2 := 67) (ci := 8) hC hK (n_of l hM (St.zero (F := F1) (A := A1)) (by omega) (v := n0 - d0) ⟨by omega, by omega⟩) lk_902 rfl rfl (by decide) (by assumption) (by assumption) ⟨Nat.le_of_ble_eq_true rfl, Nat.le_of_ble_eq_true rfl⟩ ⟨Nat.le_refl _, Nat.le_refl _⟩ rfl (Nat.le_of_ble_eq_true rfl) dX8_step_64 rfl ?_
        rintro z64 F64 A64 ⟨e64, V83a, hS83a, v83a, k83a, g83a⟩
        obtain rfl := e64.symm
        refine x_aload_n (pc2 := 68) hC rfl rfl dX8_step_67 rfl ?_
        refine x_lconst0 (pc2 := 69) hC dX8_step_68 rfl ?_
        refine x_cVi (pc2 := 72) (ci := 8) hC hK (n_of l hM hS83a (by omega) (v := 0) (by decide)) lk_902 rfl rfl (by decide) (by assumption) (by assumption) ⟨Nat.le_of_ble_eq_true rfl, Nat.le_of_ble_eq_true rfl⟩ ⟨Nat.le_refl _, Nat.le_refl _⟩ rfl (Nat.le_of_ble_eq_true rfl) dX8_step_69 rfl ?_
        rintro z69 F69 A69 ⟨e69, V83b, hS83b, v83b, k83b, g83b⟩
        obtain rfl := e69.symm
        refine x_aload_n (pc2 := 73) hC rfl rfl dX8_step_72 rfl ?_
        refine x_iload_n (pc2 := 74) hC rfl rfl dX8_step_73 rfl ?_
        refine x_iload_n (pc2 := 75) hC rfl rfl dX8_step_74 rfl ?_
        refine x_iadd (pc2 := 76) hC dX8_step_75 rfl ?_
        refine x_i2l (pc2 := 77) hC ⟨by omega, by omega⟩ dX8_step_76 rfl ?_
        refine x_cVi (pc2 := 80) (ci := 8) hC hK (n_of l hM hS83b (by omega) (v := n0 + d0) ⟨by omega, by omega⟩) lk_902 rfl rfl (by decide) (by assumption) (by assumption) ⟨Nat.le_of_ble_eq_true rfl, Nat.le_of_ble_eq_true rfl⟩ ⟨Nat.le_refl _, Nat.le_refl _⟩ rfl (Nat.le_of_ble_eq_true rfl) dX8_step_77 rfl ?_
        rintro z77 F77 A77 ⟨e77, V83c, hS83c, v83c, k83c, g83c⟩
        obtain rfl := e77.symm
        refine x_cVi (pc2 := 83) (ci := 8) hC hK (n_triple l hM hS83c (by omega) (x := 0) (y := 0 + 1) (w := 0 + 1 + 1) ⟨by omega, by omega⟩ ⟨by omega, by omega⟩ ⟨by omega, by omega⟩) lk_911 rfl rfl (by decide) (by assumption) (by assumption) ⟨Nat.le_of_ble_eq_true rfl, Nat.le_of_ble_eq_true rfl⟩ ⟨Nat.le_refl _, Nat.le_refl _⟩ rfl (Nat.le_of_ble_eq_true rfl) dX8_step_80 rfl ?_
        rintro z80 F80 A80 ⟨e80, V83d, hS83d, ⟨va, vb, vc⟩, k83d, g83d⟩
        obtain rfl := e80.symm
        have tv83 : tr V83d (0 + 1 + 1 + 1) = (n0 - d0, 0, n0 + d0) := by
          refine Prod.ext ?_ (Prod.ext ?_ ?_)
          · show V83d (0 + 1 + 1 + 1) = n0 - d0
            rw [va, k83c (0) (by omega), k83b (0) (by omega), v83a]
          · show V83d (0 + 1 + 1 + 1 + 1) = 0
            rw [vb, k83c (0 + 1) (by omega), v83b]
          · show V83d (0 + 1 + 1 + 1 + 2) = n0 + d0
            rw [vc, v83c]
        have gg83 := ((g83a.tr g83b).tr g83c).tr g83d
        have e17_83 : F80 0 17 = 0 := (gg83.2.1 17 (by decide) (by decide) (by decide)).trans (show uF F1 0 10 0 0 17 = 0 by rw [uF_nj (by decide)]; exact h17)
        have e10_83 : A80 10 = A1 10 := gg83.a (by decide)
        refine x_cVv (pc2 := 86) (ci := 8) hC hK (n_makes l hM hS83d (by omega) (show isT k by omega) (i := 0) (j := 0) (by decide) ⟨by omega, by omega⟩ tv83 (show 0 < n0 + d0 by omega) (Or.inl e17_83)) lk_919 rfl rfl (by decide) (by assumption) (by assumption) ⟨Nat.le_of_ble_eq_true rfl, Nat.le_of_ble_eq_true rfl⟩ ⟨Nat.le_refl _, Nat.le_refl _⟩ rfl (Nat.le_of_ble_eq_true rfl) dX8_step_83 rfl ?_
        rintro F83 A83 ⟨⟨T83, V83, ht83, hS83, -⟩, -, m3, m4_83, m5_83⟩
        have m6_83 := m3.resolve_right (fun z => z.1 (g3_ok (p := n0 - d0) (q := 0) (r := n0 + d0) (by omega) (by omega) (by decide)).2.2)
        clear m3
        have m7_83 : held (A83 10) (24 * k + 6 * (2 * 0 + 0)) (g3 (n0 - d0) 0 (n0 + d0)) := m6_83.2.2
        have h17_83 : F83 0 17 = 0 := m6_83.2.1.trans e17_83
        refine x_aload_n (pc2 := 87) hC rfl rfl dX8_step_86 rfl ?_
        refine x_iload (pc2 := 89) hC rfl dX8_step_87 rfl ?_
        refine x_iconst (pc2 := 90) hC dX8_step_89 rfl ?_
        refine x_iconst (pc2 := 91) hC dX8_step_90 rfl ?_
        refine x_aload_n (pc2 := 92) hC rfl rfl dX8_step_91 rfl ?_
        refine x_aload_n (pc2 := 93) hC rfl rfl dX8_step_92 rfl ?_
        refine x_iload_n (pc2 := 94) hC rfl rfl dX8_step_93 rfl ?_
        refine x_iload_n (pc2 := 95) hC rfl rfl dX8_step_94 rfl ?_
        refine x_isub (pc2 := 96) hC dX8_step_95 rfl ?_
        refine x_i2l (pc2 := 97) hC ⟨by omega, by omega⟩ dX8_step_96 rfl ?_
        refine x_cVi (pc2 := 100) (ci := 8) hC hK (n_of l hM hS83 (by omega) (v := d0 - n0) ⟨by omega, by omega⟩) lk_902 rfl rfl (by decide) (by assumption) (by assumption) ⟨Nat.le_of_ble_eq_true rfl, Nat.le_of_ble_eq_true rfl⟩ ⟨Nat.le_refl _, Nat.le_refl _⟩ rfl (Nat.le_of_ble_eq_true rfl) dX8_step_97 rfl ?_
        rintro z97 F97 A97 ⟨e97, V116a, hS116a, v116a, k116a, g116a⟩
        obtain rfl := e97.symm
        refine x_aload_n (pc2 := 101) hC rfl rfl dX8_step_100 rfl ?_
        refine x_lconst0 (pc2 := 102) hC dX8_step_101 rfl ?_
        refine x_cVi (pc2 := 105) (ci := 8) hC hK (n_of l hM hS116a (by omega) (v := 0) (by decide)) lk_902 rfl rfl (by decide) (by assumption) (by assumption) ⟨Nat.le_of_ble_eq_true rfl, Nat.le_of_ble_eq_true rfl⟩ ⟨Nat.le_refl _, Nat.le_refl _⟩ rfl (Nat.le_of_ble_eq_true rfl) dX8_step_102 rfl ?_
        rintro z102 F102 A102 ⟨e102, V116b, hS116b, v116b, k116b, g116b⟩
        obtain rfl := e102.symm
        refine x_aload_n (pc2 := 106) hC rfl rfl dX8_step_105 rfl ?_
        refine x_iload_n (pc2 := 107) hC rfl rfl dX8_step_106 rfl ?_
        refine x_iload_n (pc2 := 108) hC rfl rfl dX8_step_107 rfl ?_
        refine x_iadd (pc2 := 109) hC dX8_step_108 rfl ?_
        refine x_i2l (pc2 := 110) hC ⟨by omega, by omega⟩ dX8_step_109 rfl ?_
        refine x_cVi (pc2 := 113) (ci := 8) hC hK (n_of l hM hS116b (by omega) (v := n0 + d0) ⟨by omega, by omega⟩) lk_902 rfl rfl (by decide) (by assumption) (by assumption) ⟨Nat.le_of_ble_eq_true rfl, Nat.le_of_ble_eq_true rfl⟩ ⟨Nat.le_refl _, Nat.le_refl _⟩ rfl (Nat.le_of_ble_eq_true rfl) dX8_step_110 rfl ?_
        rintro z110 F110 A110 ⟨e110, V116c, hS116c, v116c, k116c, g116c⟩
        obtain rfl := e110.symm
        refine x_cVi (pc2 := 116) (ci := 8) hC hK (n_triple l hM hS116c (by omega) (x := T83) (y := T83 + 1) (w := T83 + 1 + 1) ⟨by omega, by omega⟩ ⟨by omega, by omega⟩ ⟨by omega, by omega⟩) lk_911 rfl rfl (by decide) (by assumption) (by assumption) ⟨Nat.le_of_ble_eq_true rfl, Nat.le_of_ble_eq_true rfl⟩ ⟨Nat.le_refl _, Nat.le_refl _⟩ rfl (Nat.le_of_ble_eq_true rfl) dX8_step_113 rfl ?_
        rintro z113 F113 A113 ⟨e113, V116d, hS116d, ⟨va, vb, vc⟩, k116d, g116d⟩
        obtain rfl := e113.symm
        have tv116 : tr V116d (T83 + 1 + 1 + 1) = (d0 - n0, 0, n0 + d0) := by
          refine Prod.ext ?_ (Prod.ext ?_ ?_)
          · show V116d (T83 + 1 + 1 + 1) = d0 - n0
            rw [va, k116c (T83) (by omega), k116b (T83) (by omega), v116a]
          · show V116d (T83 + 1 + 1 + 1 + 1) = 0
            rw [vb, k116c (T83 + 1) (by omega), v116b]
          · show V116d (T83 + 1 + 1 + 1 + 2) = n0 + d0
            rw [vc, v116c]
        have gg116 := ((g116a.tr g116b).tr g116c).tr g116d
        have e17_116 : F113 0 17 = 0 := (gg116.2.1 17 (by decide) (by decide) (by decide)).trans h17_83
        have e10_116 : A113 10 = A83 10 := gg116.a (by decide)
        refine x_cVv (pc2 := 119) (ci := 8) hC hK (n_makes l hM hS116d (by omega) (show isT k by omega) (i := 1) (j := 1) (by decide) ⟨by omega, by omega⟩ tv116 (show 0 < n0 + d0 by omega) (Or.inl e17_116)) lk_919 rfl rfl (by decide) (by assumption) (by assumption) ⟨Nat.le_of_ble_eq_true rfl, Nat.le_of_ble_eq_true rfl⟩ ⟨Nat.le_refl _, Nat.le_refl _⟩ rfl (Nat.le_of_ble_eq_true rfl) dX8_step_116 rfl ?_
        rintro F116 A116 ⟨⟨T116, V116, ht116, hS116, -⟩, -, m3, m4_116, m5_116⟩
        have m6_116 := m3.resolve_right (fun z => z.1 (g3_ok (p := d0 - n0) (q := 0) (r := n0 + d0) (by omega) (by omega) (by decide)).2.2)
        clear m3
        have m7_116 : held (A116 10) (24 * k + 6 * (2 * 1 + 1)) (g3 (d0 - n0) 0 (n0 + d0)) := m6_116.2.2
        have h17_116 : F116 0 17 = 0 := m6_116.2.1.trans e17_116
        refine x_aload_n (pc2 := 120) hC rfl rfl dX8_step_119 rfl ?_
        refine x_iload (pc2 := 122) hC rfl dX8_step_120 rfl ?_
        refine x_iconst (pc2 := 123) hC dX8_step_122 rfl ?_
        refine x_iconst (pc2 := 124) hC dX8_step_123 rfl ?_
        refine x_aload_n (pc2 := 125) hC rfl rfl dX8_step_124 rfl ?_
        refine x_aload_n (pc2 := 126) hC rfl rfl dX8_step_125 rfl ?_
        refine x_ldc2 (pc2 := 129) (z := 2) hC wt_872 rfl dX8_step_126 rfl ?_
        refine x_iload_n (pc2 := 130) hC rfl rfl dX8_step_129 rfl ?_
        refine x_i2l (pc2 := 131) hC hn dX8_step_130 rfl ?_
        refine x_lmul (pc2 := 132) hC dX8_step_131 rfl ?_
        refine x_cVi (pc2 := 135) (ci := 8) hC hK (n_of l hM hS116 (by omega) (v := 2 * n0) ⟨by omega, by omega⟩) lk_902 rfl rfl (by decide) (by assumption) (by assumption) ⟨Nat.le_of_ble_eq_true rfl, Nat.le_of_ble_eq_true rfl⟩ ⟨Nat.le_refl _, Nat.le_refl _⟩ rfl (Nat.le_of_ble_eq_true rfl) dX8_step_132 rfl ?_
        rintro z132 F132 A132 ⟨e132, V151a, hS151a, v151a, k151a, g151a⟩
        obtain rfl := e132.symm
        refine x_aload_n (pc2 := 136) hC rfl rfl dX8_step_135 rfl ?_
        refine x_lconst0 (pc2 := 137) hC dX8_step_136 rfl ?_
        refine x_cVi (pc2 := 140) (ci := 8) hC hK (n_of l hM hS151a (by omega) (v := 0) (by decide)) lk_902 rfl rfl (by decide) (by assumption) (by assumption) ⟨Nat.le_of_ble_eq_true rfl, Nat.le_of_ble_eq_true rfl⟩ ⟨Nat.le_refl _, Nat.le_refl _⟩ rfl (Nat.le_of_ble_eq_true rfl) dX8_step_137 rfl ?_
        rintro z137 F137 A137 ⟨e137, V151b, hS151b, v151b, k151b, g151b⟩
        obtain rfl := e137.symm
        refine x_aload_n (pc2 := 141) hC rfl rfl dX8_step_140 rfl ?_
        refine x_iload_n (pc2 := 142) hC rfl rfl dX8_step_141 rfl ?_
        refine x_iload_n (pc2 := 143) hC rfl rfl dX8_step_142 rfl ?_
        refine x_iadd (pc2 := 144) hC dX8_step_143 rfl ?_
        refine x_i2l (pc2 := 145) hC ⟨by omega, by omega⟩ dX8_step_144 rfl ?_
        refine x_cVi (pc2 := 148) (ci := 8) hC hK (n_of l hM hS151b (by omega) (v := n0 + d0) ⟨by omega, by omega⟩) lk_902 rfl rfl (by decide) (by assumption) (by assumption) ⟨Nat.le_of_ble_eq_true rfl, Nat.le_of_ble_eq_true rfl⟩ ⟨Nat.le_refl _, Nat.le_refl _⟩ rfl (Nat.le_of_ble_eq_true rfl) dX8_step_145 rfl ?_
        rintro z145 F145 A145 ⟨e145, V151c, hS151c, v151c, k151c, g151c⟩
        obtain rfl := e145.symm
        refine x_cVi (pc2 := 151) (ci := 8) hC hK (n_triple l hM hS151c (by omega) (x := T116) (y := T116 + 1) (w := T116 + 1 + 1) ⟨by omega, by omega⟩ ⟨by omega, by omega⟩ ⟨by omega, by omega⟩) lk_911 rfl rfl (by decide) (by assumption) (by assumption) ⟨Nat.le_of_ble_eq_true rfl, Nat.le_of_ble_eq_true rfl⟩ ⟨Nat.le_refl _, Nat.le_refl _⟩ rfl (Nat.le_of_ble_eq_true rfl) dX8_step_148 rfl ?_
        rintro z148 F148 A148 ⟨e148, V151d, hS151d, ⟨va, vb, vc⟩, k151d, g151d⟩
        obtain rfl := e148.symm
        have tv151 : tr V151d (T116 + 1 + 1 + 1) = (2 * n0, 0, n0 + d0) := by
          refine Prod.ext ?_ (Prod.ext ?_ ?_)
          · show V151d (T116 + 1 + 1 + 1) = 2 * n0
            rw [va, k151c (T116) (by omega), k151b (T116) (by omega), v151a]
          · show V151d (T116 + 1 + 1 + 1 + 1) = 0
            rw [vb, k151c (T116 + 1) (by omega), v151b]
          · show V151d (T116 + 1 + 1 + 1 + 2) = n0 + d0
            rw [vc, v151c]
        have gg151 := ((g151a.tr g151b).tr g151c).tr g151d
        have e17_151 : F148 0 17 = 0 := (gg151.2.1 17 (by decide) (by decide) (by decide)).trans h17_116
        have e10_151 : A148 10 = A116 10 := gg151.a (by decide)
        refine x_cVv (pc2 := 154) (ci := 8) hC hK (n_makes l hM hS151d (by omega) (show isT k by omega) (i := 1) (j := 0) (by decide) ⟨by omega, by omega⟩ tv151 (show 0 < n0 + d0 by omega) (Or.inl e17_151)) lk_919 rfl rfl (by decide) (by assumption) (by assumption) ⟨Nat.le_of_ble_eq_true rfl, Nat.le_of_ble_eq_true rfl⟩ ⟨Nat.le_refl _, Nat.le_refl _⟩ rfl (Nat.le_of_ble_eq_true rfl) dX8_step_151 rfl ?_
        rintro F151 A151 ⟨⟨T151, V151, ht151, hS151, -⟩, -, m3, m4_151, m5_151⟩
        have m6_151 := m3.resolve_right (fun z => z.1 (g3_ok (p := 2 * n0) (q := 0) (r := n0 + d0) (by omega) (by omega) (by decide)).2.2)
        clear m3
        have m7_151 : held (A151 10) (24 * k + 6 * (2 * 1 + 0)) (g3 (2 * n0) 0 (n0 + d0)) := m6_151.2.2
        have h17_151 : F151 0 17 = 0 := m6_151.2.1.trans e17_151
        refine x_aload_n (pc2 := 155) hC rfl rfl dX8_step_154 rfl ?_
        refine x_iload (pc2 := 157) hC rfl dX8_step_155 rfl ?_
        refine x_iconst (pc2 := 158) hC dX8_step_157 rfl ?_
        refine x_iconst (pc2 := 159) hC dX8_step_158 rfl ?_
        refine x_aload_n (pc2 := 160) hC rfl rfl dX8_step_159 rfl ?_
        refine x_aload_n (pc2 := 161) hC rfl rfl dX8_step_160 rfl ?_
        refine x_ldc2 (pc2 := 164) (z := 2) hC wt_872 rfl dX8_step_161 rfl ?_
        refine x_iload_n (pc2 := 165) hC rfl rfl dX8_step_164 rfl ?_
        refine x_i2l (pc2 := 166) hC hd0 dX8_step_165 rfl ?_
        refine x_lmul (pc2 := 167) hC dX8_step_166 rfl ?_
        refine x_cVi (pc2 := 170) (ci := 8) hC hK (n_of l hM hS151 (by omega) (v := 2 * d0) ⟨by omega, by omega⟩) lk_902 rfl rfl (by decide) (by assumption) (by assumption) ⟨Nat.le_of_ble_eq_true rfl, Nat.le_of_ble_eq_true rfl⟩ ⟨Nat.le_refl _, Nat.le_refl _⟩ rfl (Nat.le_of_ble_eq_true rfl) dX8_step_167 rfl ?_
        rintro z167 F167 A167 ⟨e167, V186a, hS186a, v186a, k186a, g186a⟩
        obtain rfl := e167.symm
        refine x_aload_n (pc2 := 171) hC rfl rfl dX8_step_170 rfl ?_
        refine x_lconst0 (pc2 := 172) hC dX8_step_171 rfl ?_
        refine x_cVi (pc2 := 175) (ci := 8) hC hK (n_of l hM hS186a (by omega) (v := 0) (by decide)) lk_902 rfl rfl (by decide) (by assumption) (by assumption) ⟨Nat.le_of_ble_eq_true rfl, Nat.le_of_ble_eq_true rfl⟩ ⟨Nat.le_refl _, Nat.le_refl _⟩ rfl (Nat.le_of_ble_eq_true rfl) dX8_step_172 rfl ?_
        rintro z172 F172 A172 ⟨e172, V186b, hS186b, v186b, k186b, g186b⟩
        obtain rfl := e172.symm
        refine x_aload_n (pc2 := 176) hC rfl rfl dX8_step_175 rfl ?_
        refine x_iload_n (pc2 := 177) hC rfl rfl dX8_step_176 rfl ?_
        refine x_iload_n (pc2 := 178) hC rfl rfl dX8_step_177 rfl ?_
        refine x_iadd (pc2 := 179) hC dX8_step_178 rfl ?_
        refine x_i2l (pc2 := 180) hC ⟨by omega, by omega⟩ dX8_step_179 rfl ?_
        refine x_cVi (pc2 := 183) (ci := 8) hC hK (n_of l hM hS186b (by omega) (v := n0 + d0) ⟨by omega, by omega⟩) lk_902 rfl rfl (by decide) (by assumption) (by assumption) ⟨Nat.le_of_ble_eq_true rfl, Nat.le_of_ble_eq_true rfl⟩ ⟨Nat.le_refl _, Nat.le_refl _⟩ rfl (Nat.le_of_ble_eq_true rfl) dX8_step_180 rfl ?_
        rintro z180 F180 A180 ⟨e180, V186c, hS186c, v186c, k186c, g186c⟩
        obtain rfl := e180.symm
        refine x_cVi (pc2 := 186) (ci := 8) hC hK (n_triple l hM hS186c (by omega) (x := T151) (y := T151 + 1) (w := T151 + 1 + 1) ⟨by omega, by omega⟩ ⟨by omega, by omega⟩ ⟨by omega, by omega⟩) lk_911 rfl rfl (by decide) (by assumption) (by assumption) ⟨Nat.le_of_ble_eq_true rfl, Nat.le_of_ble_eq_true rfl⟩ ⟨Nat.le_refl _, Nat.le_refl _⟩ rfl (Nat.le_of_ble_eq_true rfl) dX8_step_183 rfl ?_
        rintro z183 F183 A183 ⟨e183, V186d, hS186d, ⟨va, vb, vc⟩, k186d, g186d⟩
        obtain rfl := e183.symm
        have tv186 : tr V186d (T151 + 1 + 1 + 1) = (2 * d0, 0, n0 + d0) := by
          refine Prod.ext ?_ (Prod.ext ?_ ?_)
          · show V186d (T151 + 1 + 1 + 1) = 2 * d0
            rw [va, k186c (T151) (by omega), k186b (T151) (by omega), v186a]
          · show V186d (T151 + 1 + 1 + 1 + 1) = 0
            rw [vb, k186c (T151 + 1) (by omega), v186b]
          · show V186d (T151 + 1 + 1 + 1 + 2) = n0 + d0
            rw [vc, v186c]
        have gg186 := ((g186a.tr g186b).tr g186c).tr g186d
        have e17_186 : F183 0 17 = 0 := (gg186.2.1 17 (by decide) (by decide) (by decide)).trans h17_151
        have e10_186 : A183 10 = A151 10 := gg186.a (by decide)
        refine x_cVv (pc2 := 189) (ci := 8) hC hK (n_makes l hM hS186d (by omega) (show isT k by omega) (i := 0) (j := 1) (by decide) ⟨by omega, by omega⟩ tv186 (show 0 < n0 + d0 by omega) (Or.inl e17_186)) lk_919 rfl rfl (by decide) (by assumption) (by assumption) ⟨Nat.le_of_ble_eq_true rfl, Nat.le_of_ble_eq_true rfl⟩ ⟨Nat.le_refl _, Nat.le_refl _⟩ rfl (Nat.le_of_ble_eq_true rfl) dX8_step_186 rfl ?_
        rintro F186 A186 ⟨⟨T186, V186, ht186, hS186, -⟩, -, m3, m4_186, m5_186⟩
        have m6_186 := m3.resolve_right (fun z => z.1 (g3_ok (p := 2 * d0) (q := 0) (r := n0 + d0) (by omega) (by omega) (by decide)).2.2)
        clear m3
        have m7_186 : held (A186 10) (24 * k + 6 * (2 * 0 + 1)) (g3 (2 * d0) 0 (n0 + d0)) := m6_186.2.2
        have h17_186 : F186 0 17 = 0 := m6_186.2.1.trans e17_186
        refine x_iinc (pc2 := 192) (loc2 := [_, _, _, _, _]) hC (by decide) rfl rfl dX8_step_189 rfl ?_
        refine x_goto (pc2 := 42) hC dX8_step_192 rfl ?_
        refine ih (k + 1) _ _ (by omega) (by omega) (by omega) (hR1.K (((((FrK.f (by decide)).tr ((gg83.K).tr m5_83)).tr ((gg116.K).tr m5_116)).tr ((gg151.K).tr m5_151)).tr ((gg186.K).tr m5_186))) h17_186 (fun t e ht he htk => ?_)
        by_cases q : t = k
        · subst q
          rcases (show e = 0 ∨ e = 1 ∨ e = 2 ∨ e = 3 by omega) with rfl | rfl | rfl | rfl
          · refine held_of m7_83 (fun u u0 u1 => ?_)
            rw [m4_186 _ (by omega), e10_186, m4_151 _ (by omega), e10_151, m4_116 _ (by omega), e10_116]
            rfl
          · exact m7_186
          · refine held_of m7_151 (fun u u0 u1 => ?_)
            rw [m4_186 _ (by omega), e10_186]
            rfl
          · refine held_of m7_116 (fun u u0 u1 => ?_)
            rw [m4_186 _ (by omega), e10_186, m4_151 _ (by omega), e10_151]
            rfl
        · refine held_of (hmd t e ht he (by omega)) (fun u u0 u1 => ?_)
          rw [m4_186 _ (by omega), e10_186, m4_151 _ (by omega), e10_151, m4_116 _ (by omega), e10_116, m4_83 _ (by omega), e10_83]
  refine x_aload_n (pc2 := 1) hC rfl rfl dX8_step_0 rfl ?_
  refine x_iload_n (pc2 := 2) hC rfl rfl dX8_step_1 rfl ?_
  refine x_iconst (pc2 := 3) hC dX8_step_2 rfl ?_
  refine x_cVi (pc2 := 6) (ci := 8) hC hK (q_has l hM hR0 hc (by decide)) lk_977 rfl rfl (by decide) (by assumption) (by assumption) ⟨Nat.le_of_ble_eq_true rfl, Nat.le_of_ble_eq_true rfl⟩ ⟨Nat.le_refl _, Nat.le_refl _⟩ rfl (Nat.le_of_ble_eq_true rfl) dX8_step_3 rfl ?_
  rintro z3 F3 A3 ⟨w3, b3_, e13, e23⟩
  obtain rfl := e13.symm
  obtain rfl := e23.symm
  refine x_if_eq (tgt := 33) (pc2 := 9) hC (by omega) dX8_step_6 rfl rfl (fun h_6 => ?_) (fun h_6 => ?_)
  · refine x_iconst (pc2 := 34) hC dX8_step_33 rfl ?_
    exact x_iret hC hr hlk ⟨_, rfl, MO.of (by rw [oStep, itO_neg (fun ⟨q1, q2, q3⟩ => by first | exact absurd h_6 ((b3_ ()).mpr q1) | exact absurd h_18 ((b15 ()).mpr (by omega)) | exact absurd h_30 ((b27 ()).mpr (by omega)))]) hR0⟩ dX8_step_34
  · refine x_iload_n (pc2 := 10) hC rfl rfl dX8_step_9 rfl ?_
    refine x_i2l (pc2 := 11) hC hn dX8_step_10 rfl ?_
    refine x_lconst1 (pc2 := 12) hC dX8_step_11 rfl ?_
    refine x_ldc2 (pc2 := 15) (z := 10000) hC wt_1101 rfl dX8_step_12 rfl ?_
    refine x_cSi (pc2 := 18) hC hK (n_in l ⟨by omega, by omega⟩ ⟨by omega, by omega⟩ ⟨by omega, by omega⟩) lk_873 rfl ⟨Nat.le_of_ble_eq_true rfl, Nat.le_of_ble_eq_true rfl⟩ ⟨Nat.le_refl _, Nat.le_refl _⟩ rfl (Nat.le_of_ble_eq_true rfl) dX8_step_15 rfl ?_
    rintro z15 F15 A15 ⟨w15, b15, e115, e215⟩
    obtain rfl := e115.symm
    obtain rfl := e215.symm
    refine x_if_eq (tgt := 33) (pc2 := 21) hC (by omega) dX8_step_18 rfl rfl (fun h_18 => ?_) (fun h_18 => ?_)
    · refine x_iconst (pc2 := 34) hC dX8_step_33 rfl ?_
      exact x_iret hC hr hlk ⟨_, rfl, MO.of (by rw [oStep, itO_neg (fun ⟨q1, q2, q3⟩ => by first | exact absurd h_6 ((b3_ ()).mpr q1) | exact absurd h_18 ((b15 ()).mpr (by omega)) | exact absurd h_30 ((b27 ()).mpr (by omega)))]) hR0⟩ dX8_step_34
    · refine x_iload_n (pc2 := 22) hC rfl rfl dX8_step_21 rfl ?_
      refine x_i2l (pc2 := 23) hC hd0 dX8_step_22 rfl ?_
      refine x_lconst1 (pc2 := 24) hC dX8_step_23 rfl ?_
      refine x_ldc2 (pc2 := 27) (z := 10000) hC wt_1101 rfl dX8_step_24 rfl ?_
      refine x_cSi (pc2 := 30) hC hK (n_in l ⟨by omega, by omega⟩ ⟨by omega, by omega⟩ ⟨by omega, by omega⟩) lk_873 rfl ⟨Nat.le_of_ble_eq_true rfl, Nat.le_of_ble_eq_true rfl⟩ ⟨Nat.le_refl _, Nat.le_refl _⟩ rfl (Nat.le_of_ble_eq_true rfl) dX8_step_27 rfl ?_
      rintro z27 F27 A27 ⟨w27, b27, e127, e227⟩
      obtain rfl := e127.symm
      obtain rfl := e227.symm
      refine x_if_ne (tgt := 35) (pc2 := 33) hC (by omega) dX8_step_30 rfl rfl (fun h_30 => ?_) (fun h_30 => ?_)
      · refine x_aload_n (pc2 := 36) hC rfl rfl dX8_step_35 rfl ?_
        refine x_cVv (pc2 := 39) (ci := 8) hC hK (n_begins l hM) lk_1036 rfl rfl (by decide) (by assumption) (by assumption) ⟨Nat.le_of_ble_eq_true rfl, Nat.le_of_ble_eq_true rfl⟩ ⟨Nat.le_refl _, Nat.le_refl _⟩ rfl (Nat.le_of_ble_eq_true rfl) dX8_step_36 rfl ?_
        rintro F36 A36 ⟨e136, e236, -⟩
        have hRb : RepM S F36 A36 := by rw [e136]; exact hR0.of (fun j hj => uF_nj (by omega)) (fun b hb => e236 b (by omega))
        have h17b : F36 0 17 = 0 := by rw [e136, uF_eq]
        refine x_iconst (pc2 := 40) hC dX8_step_39 rfl ?_
        refine x_istore (pc2 := 42) (loc2 := [_, _, _, _, _]) hC (by decide) rfl dX8_step_40 rfl ?_
        exact loop ((b3_ ()).mp h_6) ((b15 ()).mp h_18) ((b27 ()).mp h_30) 5 0 F36 A36 (by decide) (by decide) (by decide) hRb h17b (fun t e _ _ _ => by omega)
      · refine x_iconst (pc2 := 34) hC dX8_step_33 rfl ?_
        exact x_iret hC hr hlk ⟨_, rfl, MO.of (by rw [oStep, itO_neg (fun ⟨q1, q2, q3⟩ => by first | exact absurd h_6 ((b3_ ()).mpr q1) | exact absurd h_18 ((b15 ()).mpr (by omega)) | exact absurd h_30 ((b27 ()).mpr (by omega)))]) hR0⟩ dX8_step_34
theorem dX8_undo_0 : decode cX8_undo 0 = .ok (.aload_n 0, 1) := by decide +kernel
theorem dX8_undo_1 : decode cX8_undo 1 = .ok (.getfield 148, 3) := by decide +kernel
theorem dX8_undo_4 : decode cX8_undo 4 = .ok (.ifCond .ne 6, 3) := by decide +kernel
theorem dX8_undo_7 : decode cX8_undo 7 = .ok (.bipush (-2), 2) := by decide +kernel
theorem dX8_undo_9 : decode cX8_undo 9 = .ok (.ireturn, 1) := by decide +kernel
theorem dX8_undo_10 : decode cX8_undo 10 = .ok (.aload_n 0, 1) := by decide +kernel
theorem dX8_undo_11 : decode cX8_undo 11 = .ok (.dup, 1) := by decide +kernel
theorem dX8_undo_12 : decode cX8_undo 12 = .ok (.getfield 148, 3) := by decide +kernel
theorem dX8_undo_15 : decode cX8_undo 15 = .ok (.iconst 1, 1) := by decide +kernel
theorem dX8_undo_16 : decode cX8_undo 16 = .ok (.isub, 1) := by decide +kernel
theorem dX8_undo_17 : decode cX8_undo 17 = .ok (.putfield 148, 3) := by decide +kernel
theorem dX8_undo_20 : decode cX8_undo 20 = .ok (.iconst 0, 1) := by decide +kernel
theorem dX8_undo_21 : decode cX8_undo 21 = .ok (.istore_n 1, 1) := by decide +kernel
theorem dX8_undo_22 : decode cX8_undo 22 = .ok (.iload_n 1, 1) := by decide +kernel
theorem dX8_undo_23 : decode cX8_undo 23 = .ok (.sipush 1536, 3) := by decide +kernel
theorem dX8_undo_26 : decode cX8_undo 26 = .ok (.if_icmp .ge 30, 3) := by decide +kernel
theorem dX8_undo_29 : decode cX8_undo 29 = .ok (.aload_n 0, 1) := by decide +kernel
theorem dX8_undo_30 : decode cX8_undo 30 = .ok (.getfield 13, 3) := by decide +kernel
theorem dX8_undo_33 : decode cX8_undo 33 = .ok (.iload_n 1, 1) := by decide +kernel
theorem dX8_undo_34 : decode cX8_undo 34 = .ok (.aload_n 0, 1) := by decide +kernel
theorem dX8_undo_35 : decode cX8_undo 35 = .ok (.getfield 17, 3) := by decide +kernel
theorem dX8_undo_38 : decode cX8_undo 38 = .ok (.sipush 1536, 3) := by decide +kernel
theorem dX8_undo_41 : decode cX8_undo 41 = .ok (.aload_n 0, 1) := by decide +kernel
theorem dX8_undo_42 : decode cX8_undo 42 = .ok (.getfield 148, 3) := by decide +kernel
theorem dX8_undo_45 : decode cX8_undo 45 = .ok (.imul, 1) := by decide +kernel
theorem dX8_undo_46 : decode cX8_undo 46 = .ok (.iload_n 1, 1) := by decide +kernel
theorem dX8_undo_47 : decode cX8_undo 47 = .ok (.iadd, 1) := by decide +kernel
theorem dX8_undo_48 : decode cX8_undo 48 = .ok (.laload, 1) := by decide +kernel
theorem dX8_undo_49 : decode cX8_undo 49 = .ok (.lastore, 1) := by decide +kernel
theorem dX8_undo_50 : decode cX8_undo 50 = .ok (.iinc 1 1, 3) := by decide +kernel
theorem dX8_undo_53 : decode cX8_undo 53 = .ok (.goto (-31), 3) := by decide +kernel
theorem dX8_undo_56 : decode cX8_undo 56 = .ok (.iconst 0, 1) := by decide +kernel
theorem dX8_undo_57 : decode cX8_undo 57 = .ok (.istore_n 1, 1) := by decide +kernel
theorem dX8_undo_58 : decode cX8_undo 58 = .ok (.iload_n 1, 1) := by decide +kernel
theorem dX8_undo_59 : decode cX8_undo 59 = .ok (.aload_n 0, 1) := by decide +kernel
theorem dX8_undo_60 : decode cX8_undo 60 = .ok (.getfield 154, 3) := by decide +kernel
theorem dX8_undo_63 : decode cX8_undo 63 = .ok (.if_icmp .ge 82, 3) := by decide +kernel
theorem dX8_undo_66 : decode cX8_undo 66 = .ok (.iconst 0, 1) := by decide +kernel
theorem dX8_undo_67 : decode cX8_undo 67 = .ok (.istore_n 2, 1) := by decide +kernel
theorem dX8_undo_68 : decode cX8_undo 68 = .ok (.iload_n 2, 1) := by decide +kernel
theorem dX8_undo_69 : decode cX8_undo 69 = .ok (.bipush 16, 2) := by decide +kernel
theorem dX8_undo_71 : decode cX8_undo 71 = .ok (.if_icmp .ge 68, 3) := by decide +kernel
theorem dX8_undo_74 : decode cX8_undo 74 = .ok (.aload_n 0, 1) := by decide +kernel
theorem dX8_undo_75 : decode cX8_undo 75 = .ok (.getfield 13, 3) := by decide +kernel
theorem dX8_undo_78 : decode cX8_undo 78 = .ok (.bipush 96, 2) := by decide +kernel
theorem dX8_undo_80 : decode cX8_undo 80 = .ok (.iload_n 1, 1) := by decide +kernel
theorem dX8_undo_81 : decode cX8_undo 81 = .ok (.imul, 1) := by decide +kernel
theorem dX8_undo_82 : decode cX8_undo 82 = .ok (.bipush 6, 2) := by decide +kernel
theorem dX8_undo_84 : decode cX8_undo 84 = .ok (.iload_n 2, 1) := by decide +kernel
theorem dX8_undo_85 : decode cX8_undo 85 = .ok (.imul, 1) := by decide +kernel
theorem dX8_undo_86 : decode cX8_undo 86 = .ok (.iadd, 1) := by decide +kernel
theorem dX8_undo_87 : decode cX8_undo 87 = .ok (.iconst 4, 1) := by decide +kernel
theorem dX8_undo_88 : decode cX8_undo 88 = .ok (.iadd, 1) := by decide +kernel
theorem dX8_undo_89 : decode cX8_undo 89 = .ok (.laload, 1) := by decide +kernel
theorem dX8_undo_90 : decode cX8_undo 90 = .ok (.lconst 0, 1) := by decide +kernel
theorem dX8_undo_91 : decode cX8_undo 91 = .ok (.lcmp, 1) := by decide +kernel
theorem dX8_undo_92 : decode cX8_undo 92 = .ok (.ifCond .ne 41, 3) := by decide +kernel
theorem dX8_undo_95 : decode cX8_undo 95 = .ok (.aload_n 0, 1) := by decide +kernel
theorem dX8_undo_96 : decode cX8_undo 96 = .ok (.getfield 13, 3) := by decide +kernel
theorem dX8_undo_99 : decode cX8_undo 99 = .ok (.bipush 96, 2) := by decide +kernel
theorem dX8_undo_101 : decode cX8_undo 101 = .ok (.iload_n 1, 1) := by decide +kernel
theorem dX8_undo_102 : decode cX8_undo 102 = .ok (.imul, 1) := by decide +kernel
theorem dX8_undo_103 : decode cX8_undo 103 = .ok (.bipush 6, 2) := by decide +kernel
theorem dX8_undo_105 : decode cX8_undo 105 = .ok (.iload_n 2, 1) := by decide +kernel
theorem dX8_undo_106 : decode cX8_undo 106 = .ok (.imul, 1) := by decide +kernel
theorem dX8_undo_107 : decode cX8_undo 107 = .ok (.iadd, 1) := by decide +kernel
theorem dX8_undo_108 : decode cX8_undo 108 = .ok (.iconst 5, 1) := by decide +kernel
theorem dX8_undo_109 : decode cX8_undo 109 = .ok (.iadd, 1) := by decide +kernel
theorem dX8_undo_110 : decode cX8_undo 110 = .ok (.laload, 1) := by decide +kernel
theorem dX8_undo_111 : decode cX8_undo 111 = .ok (.lconst 0, 1) := by decide +kernel
theorem dX8_undo_112 : decode cX8_undo 112 = .ok (.lcmp, 1) := by decide +kernel
theorem dX8_undo_113 : decode cX8_undo 113 = .ok (.ifCond .ne 20, 3) := by decide +kernel
theorem dX8_undo_116 : decode cX8_undo 116 = .ok (.aload_n 0, 1) := by decide +kernel
theorem dX8_undo_117 : decode cX8_undo 117 = .ok (.getfield 13, 3) := by decide +kernel
theorem dX8_undo_120 : decode cX8_undo 120 = .ok (.bipush 96, 2) := by decide +kernel
theorem dX8_undo_122 : decode cX8_undo 122 = .ok (.iload_n 1, 1) := by decide +kernel
theorem dX8_undo_123 : decode cX8_undo 123 = .ok (.imul, 1) := by decide +kernel
theorem dX8_undo_124 : decode cX8_undo 124 = .ok (.bipush 6, 2) := by decide +kernel
theorem dX8_undo_126 : decode cX8_undo 126 = .ok (.iload_n 2, 1) := by decide +kernel
theorem dX8_undo_127 : decode cX8_undo 127 = .ok (.imul, 1) := by decide +kernel
theorem dX8_undo_128 : decode cX8_undo 128 = .ok (.iadd, 1) := by decide +kernel
theorem dX8_undo_129 : decode cX8_undo 129 = .ok (.iconst 5, 1) := by decide +kernel
theorem dX8_undo_130 : decode cX8_undo 130 = .ok (.iadd, 1) := by decide +kernel
theorem dX8_undo_131 : decode cX8_undo 131 = .ok (.lconst 1, 1) := by decide +kernel
theorem dX8_undo_132 : decode cX8_undo 132 = .ok (.lastore, 1) := by decide +kernel
theorem dX8_undo_133 : decode cX8_undo 133 = .ok (.iinc 2 1, 3) := by decide +kernel
theorem dX8_undo_136 : decode cX8_undo 136 = .ok (.goto (-68), 3) := by decide +kernel
theorem dX8_undo_139 : decode cX8_undo 139 = .ok (.iinc 1 1, 3) := by decide +kernel
theorem dX8_undo_142 : decode cX8_undo 142 = .ok (.goto (-84), 3) := by decide +kernel
theorem dX8_undo_145 : decode cX8_undo 145 = .ok (.iconst 1, 1) := by decide +kernel
theorem dX8_undo_146 : decode cX8_undo 146 = .ok (.ireturn, 1) := by decide +kernel
theorem RepM.back {S : SP} {F F2 : Nat → Nat → Int} {A A2 : Nat → Int → Int} {q : Int × BX} {t0 : List (Int × BX)} (h : RepM S F A) (hs : hS S = q :: t0) (f4 : F2 0 4 = (t0.length : Int)) (f2 : ∀ j, j ≠ 4 → F2 0 j = F 0 j) (a0 : ∀ a, a ≠ 2 → A2 a = A a) (a1 : ∀ b t e, isB S b → isT t → isT e → held (A2 2) (96 * b + 24 * t + 6 * e) (upZ (vS S) q.1 q.2 b t e)) (a2 : ∀ k : Int, 96 * nbS S ≤ k → k < 1536 → A2 2 k = 0) : RepM (nbS S, ptS S, upZ (vS S) q.1 q.2, t0, wtS S, wdS S) F2 A2 := by
  obtain ⟨hi, b1, b2, b3, b4, b5, b6, b7, b8⟩ := h
  obtain ⟨hq0, hw0⟩ := hi.2.2.1 q (by rw [hs]; exact List.mem_cons_self)
  have i4 := hi.2.2.2
  rw [hs, List.length_cons] at i4
  refine ⟨⟨hi.1, ?_, ?_, ?_⟩, by rw [f2 1 (by decide)]; exact b1, by rw [a0 1 (by decide)]; exact b2, f4, by rw [f2 5 (by decide)]; exact b4, by rw [f2 6 (by decide)]; exact b5, a1, a2, ?_⟩
  · intro b hb
    refine ⟨(hi.2.1 b hb).1, ?_⟩
    show wfB (ptS S b) (upZ (vS S) q.1 q.2 b)
    by_cases z : b = q.1
    · rw [z, upZ_eq]; exact hw0
    · rw [upZ_ne z]; exact (hi.2.1 b hb).2
  · intro u hu
    exact hi.2.2.1 u (by rw [hs]; exact List.mem_cons_of_mem _ hu)
  · show t0.length ≤ 16
    omega
  · intro i hil
    replace hil : i < t0.length := hil
    obtain ⟨h1, h2⟩ := b8 (i + 1) (by rw [hs, List.length_cons]; omega)
    rw [hs, List.length_cons] at h1 h2
    have e0 : ((t0.length + 1 : Nat) : Int) - 1 - ((i + 1 : Nat) : Int) = (t0.length : Int) - 1 - i := by omega
    rw [e0] at h1 h2
    rw [a0 3 (by decide)]
    exact ⟨h1, h2⟩
theorem rec_z {x : T3} (h : ok3 x) : ¬ (prt x 4 = 0 ∧ prt x 5 = 0) := by
  rintro ⟨h1, h2⟩
  have e := @prt_mul x.2.2
  have p4 : prt x 4 = x.2.2.tdiv 1000000000000 := rfl
  have p5 : prt x 5 = x.2.2.tmod 1000000000000 := rfl
  rw [p4] at h1
  rw [p5] at h2
  have := h.1
  omega
set_option maxHeartbeats 8000000 in
theorem q_undo (l : Launch) {D : va_G} {ids : Nat → ClassId} {β : Nat} {sh : Nat → Nat × Nat} {N : Nat} {R : Nat → Nat → Option Nat} {F : Nat → Nat → Int} {A : Nat → Int → Int} {S : SP} (hM : MoL sh R N) (hR0 : RepM S F A) : MetX l yX8_undo cX8_undo 3 (some (.int)) 0 0 D ids β sh N R F A [rf 0] (pIr (MO (oUndo S ))) := by
  refine MetX.of (loc := [_, _, _]) (plainFor_of_name (by decide +kernel)) (Nat.le_of_ble_eq_true rfl) rfl ?_
  intro p e s m args below meth c hC hK hr hlk
  obtain ⟨⟨m0, m1⟩, ⟨rx0, r2, r3, r7, r8, r9, r11, r12, r13, r16, r18⟩, ⟨m2, m3⟩, ⟨m4, m5⟩, ⟨m6, m7⟩, ⟨m8, m9⟩, ⟨m10, m11⟩, ⟨m12, m13⟩, ⟨m14, m15⟩, ⟨m16, m17⟩, ⟨m18, m19⟩, ⟨m20, m21⟩, ⟨m22, m23⟩⟩ := id hM
  obtain ⟨hi, b1, b2, b3, b4, b5, b6, b7, b8⟩ := id hR0
  have i1 := hi.1
  have hne : ∀ q t0, hS S = q :: t0 → F 0 4 - 1 = (t0.length : Int) := fun q t0 hs => by rw [b3, hs, List.length_cons]; omega
  have inner : ∀ (q : Int × BX) (t0 : List (Int × BX)), hS S = q :: t0 → ∀ (b : Nat), (b : Int) < nbS S → (∀ (A1 : Nat → Int → Int) (e2 : Option PV), (∀ a, a ≠ 2 → A1 a = A a) → (∀ m : Int, 0 ≤ m → m < 16 * ((b : Int) + 1) → held (A1 2) (6 * m) (upZ (vS S) q.1 q.2 (m / 16) (m % 16 / 4) (m % 4))) → (∀ j : Int, 6 * (16 * ((b : Int) + 1)) ≤ j → j < 1536 → A1 2 j = A 3 (1536 * (t0.length : Int) + j)) → X p l e { frames := 0, cells := 0, slots := 0, locals := 0 } s m args below meth c (MQ below (QX D ids β sh N R (pIr (MO (oUndo S )))) args s 0 0 (inG β N)) (inG β N) D ids β sh 3 0 0 N R (uF F 0 4 (F 0 4 - 1)) A1 [some (rf 0), some (pI ((b : Int) + 1)), e2] [] 58) → ∀ (d n : Nat) (A1 : Nat → Int → Int), 16 - (n : Int) < d → n ≤ 16 → (∀ a, a ≠ 2 → A1 a = A a) → (∀ m : Int, 0 ≤ m → m < 16 * (b : Int) + n → held (A1 2) (6 * m) (upZ (vS S) q.1 q.2 (m / 16) (m % 16 / 4) (m % 4))) → (∀ j : Int, 6 * (16 * (b : Int) + n) ≤ j → j < 1536 → A1 2 j = A 3 (1536 * (t0.length : Int) + j)) → X p l e { frames := 0, cells := 0, slots := 0, locals := 0 } s m args below meth c (MQ below (QX D ids β sh N R (pIr (MO (oUndo S )))) args s 0 0 (inG β N)) (inG β N) D ids β sh 3 0 0 N R (uF F 0 4 (F 0 4 - 1)) A1 [some (rf 0), some (pI (b : Int)), some (pI (n : Int))] [] 68 := by
    intro q t0 hs b hb next d
    induction d with
    | zero => intro n A1 hd; omega
    | succ d ih =>
      intro n A1 hd hn h1 h2 h3
      obtain ⟨hq0, hw0⟩ := hi.2.2.1 q (by rw [hs]; exact List.mem_cons_self)
      have okn : n < 16 → ok3 (upZ (vS S) q.1 q.2 ((16 * (b : Int) + n) / 16) ((16 * (b : Int) + n) % 16 / 4) ((16 * (b : Int) + n) % 4)) := fun hn16 => by
        rw [show (16 * (b : Int) + n) / 16 = b by omega]
        by_cases z : (b : Int) = q.1
        · rw [z, upZ_eq]; exact (hw0 _ _ (by omega) (by omega)).1
        · rw [upZ_ne z]; exact ((hi.2.1 b ⟨by omega, hb⟩).2 _ _ (by omega) (by omega)).1
      have hU : n < 16 → heldU (A1 2) (96 * (b : Int) + 6 * n) (upZ (vS S) q.1 q.2 ((16 * (b : Int) + n) / 16) ((16 * (b : Int) + n) % 16 / 4) ((16 * (b : Int) + n) % 4)) := fun hn16 => by
        obtain ⟨u1, -⟩ := b8 0 (by rw [hs, List.length_cons]; omega)
        have u2 := u1 b ((16 * (b : Int) + n) % 16 / 4) ((16 * (b : Int) + n) % 4) ⟨by omega, hb⟩ (by omega) (by omega)
        rw [hs] at u2
        simp only [unV, List.length_cons] at u2
        rw [show (16 * (b : Int) + n) / 16 = b by omega]
        refine heldU_of u2 (fun u u0 u1 => ?_)
        rw [h3 _ (by omega) (by omega)]
        congr 1
        omega
      have rng : n < 16 → ∀ u : Int, 0 ≤ u → u < 6 → -1000000000000 ≤ A1 2 (96 * (b : Int) + 6 * n + u) ∧ A1 2 (96 * (b : Int) + 6 * n + u) ≤ 1000000000000 := fun hn16 u u0 u1 => by
        rcases hU hn16 with z | ⟨-, z⟩
        · rw [z u u0 u1]; exact prt_rng (okn hn16).2.2 u
        · rw [z u u0 u1]; exact ⟨by decide, by decide⟩
      refine x_iload_n (pc2 := 69) hC rfl rfl dX8_undo_68 rfl ?_
      refine x_bipush (pc2 := 71) hC rfl dX8_undo_69 rfl ?_
      refine x_icmp_ge (tgt := 139) (pc2 := 74) hC (by omega) (by omega) dX8_undo_71 rfl rfl (fun h_71 => ?_) (fun h_71 => ?_)
      · refine x_iinc (pc2 := 142) (loc2 := [_, _, _]) hC (by decide) rfl rfl dX8_undo_139 rfl ?_
        refine x_goto (pc2 := 58) hC dX8_undo_142 rfl ?_
        exact next A1 _ h1 (fun m m0 m1 => h2 m m0 (by omega)) (fun j j0 j1 => h3 j (by omega) j1)
      · have hn16 : n < 16 := by omega
        have r4 := rng hn16 4 (by decide) (by decide)
        have r5 := rng hn16 5 (by decide) (by decide)
        have b16 : (b : Int) < 16 := by have := hi.1.2; omega
        refine x_aload_n (pc2 := 75) hC rfl rfl dX8_undo_74 rfl ?_
        refine g_811 (pc2 := 78) hC hK (by assumption) (by assumption) (by assumption) dX8_undo_75 rfl ?_
        refine x_bipush (pc2 := 80) hC rfl dX8_undo_78 rfl ?_
        refine x_iload_n (pc2 := 81) hC rfl rfl dX8_undo_80 rfl ?_
        refine x_imul (pc2 := 82) hC dX8_undo_81 rfl ?_
        refine x_bipush (pc2 := 84) hC rfl dX8_undo_82 rfl ?_
        refine x_iload_n (pc2 := 85) hC rfl rfl dX8_undo_84 rfl ?_
        refine x_imul (pc2 := 86) hC dX8_undo_85 rfl ?_
        refine x_iadd (pc2 := 87) hC dX8_undo_86 rfl ?_
        refine x_iconst (pc2 := 88) hC dX8_undo_87 rfl ?_
        refine x_iadd (pc2 := 89) hC dX8_undo_88 rfl ?_
        refine x_lald (pc2 := 90) hC hK (by assumption) (by assumption) (by omega) (by decide) dX8_undo_89 rfl ?_
        refine x_lconst0 (pc2 := 91) hC dX8_undo_90 rfl ?_
        refine x_lcmp_ne (tgt := 133) (pc2 := 95) hC ⟨by omega, by omega⟩ ⟨by decide, by decide⟩ dX8_undo_91 dX8_undo_92 rfl rfl (fun h_91 => ?_) (fun h_91 => ?_)
        · refine x_iinc (pc2 := 136) (loc2 := [_, _, _]) hC (by decide) rfl rfl dX8_undo_133 rfl ?_
          refine x_goto (pc2 := 68) hC dX8_undo_136 rfl ?_
          refine ih (n + 1) A1 (by omega) (by omega) h1 (fun m m0 m1 => ?_) (fun j j0 j1 => h3 j (by omega) j1)
          by_cases y : m = 16 * (b : Int) + n
          · rw [y]
            have hh := (hU hn16).resolve_right (fun z => h_91 (z.2 4 (by decide) (by decide)))
            exact held_of hh (fun u u0 u1 => by congr 1; omega)
          · exact h2 m m0 (by omega)
        · refine x_aload_n (pc2 := 96) hC rfl rfl dX8_undo_95 rfl ?_
          refine g_811 (pc2 := 99) hC hK (by assumption) (by assumption) (by assumption) dX8_undo_96 rfl ?_
          refine x_bipush (pc2 := 101) hC rfl dX8_undo_99 rfl ?_
          refine x_iload_n (pc2 := 102) hC rfl rfl dX8_undo_101 rfl ?_
          refine x_imul (pc2 := 103) hC dX8_undo_102 rfl ?_
          refine x_bipush (pc2 := 105) hC rfl dX8_undo_103 rfl ?_
          refine x_iload_n (pc2 := 106) hC rfl rfl dX8_undo_105 rfl ?_
          refine x_imul (pc2 := 107) hC dX8_undo_106 rfl ?_
          refine x_iadd (pc2 := 108) hC dX8_undo_107 rfl ?_
          refine x_iconst (pc2 := 109) hC dX8_undo_108 rfl ?_
          refine x_iadd (pc2 := 110) hC dX8_undo_109 rfl ?_
          refine x_lald (pc2 := 111) hC hK (by assumption) (by assumption) (by omega) (by decide) dX8_undo_110 rfl ?_
          refine x_lconst0 (pc2 := 112) hC dX8_undo_111 rfl ?_
          refine x_lcmp_ne (tgt := 133) (pc2 := 116) hC ⟨by omega, by omega⟩ ⟨by decide, by decide⟩ dX8_undo_112 dX8_undo_113 rfl rfl (fun h_112 => ?_) (fun h_112 => ?_)
          · refine x_iinc (pc2 := 136) (loc2 := [_, _, _]) hC (by decide) rfl rfl dX8_undo_133 rfl ?_
            refine x_goto (pc2 := 68) hC dX8_undo_136 rfl ?_
            refine ih (n + 1) A1 (by omega) (by omega) h1 (fun m m0 m1 => ?_) (fun j j0 j1 => h3 j (by omega) j1)
            by_cases y : m = 16 * (b : Int) + n
            · rw [y]
              have hh := (hU hn16).resolve_right (fun z => h_112 (z.2 5 (by decide) (by decide)))
              exact held_of hh (fun u u0 u1 => by congr 1; omega)
            · exact h2 m m0 (by omega)
          · refine x_aload_n (pc2 := 117) hC rfl rfl dX8_undo_116 rfl ?_
            refine g_811 (pc2 := 120) hC hK (by assumption) (by assumption) (by assumption) dX8_undo_117 rfl ?_
            refine x_bipush (pc2 := 122) hC rfl dX8_undo_120 rfl ?_
            refine x_iload_n (pc2 := 123) hC rfl rfl dX8_undo_122 rfl ?_
            refine x_imul (pc2 := 124) hC dX8_undo_123 rfl ?_
            refine x_bipush (pc2 := 126) hC rfl dX8_undo_124 rfl ?_
            refine x_iload_n (pc2 := 127) hC rfl rfl dX8_undo_126 rfl ?_
            refine x_imul (pc2 := 128) hC dX8_undo_127 rfl ?_
            refine x_iadd (pc2 := 129) hC dX8_undo_128 rfl ?_
            refine x_iconst (pc2 := 130) hC dX8_undo_129 rfl ?_
            refine x_iadd (pc2 := 131) hC dX8_undo_130 rfl ?_
            refine x_lconst1 (pc2 := 132) hC dX8_undo_131 rfl ?_
            refine x_last (pc2 := 133) hC hK (by assumption) (by assumption) (by omega) (by decide) dX8_undo_132 rfl ?_
            refine x_iinc (pc2 := 136) (loc2 := [_, _, _]) hC (by decide) rfl rfl dX8_undo_133 rfl ?_
            refine x_goto (pc2 := 68) hC dX8_undo_136 rfl ?_
            have hz := (hU hn16).resolve_left (fun z => rec_z (okn hn16) ⟨by rw [← z 4 (by decide) (by decide)]; exact h_91, by rw [← z 5 (by decide) (by decide)]; exact h_112⟩)
            refine ih (n + 1) _ (by omega) (by omega) (fun a ha => by rw [uA_ne ha]; exact h1 a ha) (fun m m0 m1 => ?_) (fun j j0 j1 => by rw [uA_ni (by omega)]; exact h3 j (by omega) j1)
            by_cases y : m = 16 * (b : Int) + n
            · rw [y, hz.1]
              intro u u0 u1
              rw [prt_z3 u u0 u1]
              split
              · rename_i u5
                rw [show 6 * (16 * (b : Int) + n) + u = 96 * (b : Int) + 6 * n + 5 by omega, uA_eq]
              · rw [uA_ni (by omega), ← hz.2 u u0 u1]
                congr 1
                omega
            · refine held_of (h2 m m0 (by omega)) (fun u u0 u1 => ?_)
              rw [uA_ni (by omega)]
  have outer : ∀ (q : Int × BX) (t0 : List (Int × BX)), hS S = q :: t0 → ∀ (d b : Nat) (A1 : Nat → Int → Int) (e2 : Option PV), 16 - (b : Int) < d → (b : Int) ≤ nbS S → (∀ a, a ≠ 2 → A1 a = A a) → (∀ m : Int, 0 ≤ m → m < 16 * (b : Int) → held (A1 2) (6 * m) (upZ (vS S) q.1 q.2 (m / 16) (m % 16 / 4) (m % 4))) → (∀ j : Int, 6 * (16 * (b : Int)) ≤ j → j < 1536 → A1 2 j = A 3 (1536 * (t0.length : Int) + j)) → X p l e { frames := 0, cells := 0, slots := 0, locals := 0 } s m args below meth c (MQ below (QX D ids β sh N R (pIr (MO (oUndo S )))) args s 0 0 (inG β N)) (inG β N) D ids β sh 3 0 0 N R (uF F 0 4 (F 0 4 - 1)) A1 [some (rf 0), some (pI (b : Int)), e2] [] 58 := by
    intro q t0 hs d
    induction d with
    | zero => intro b A1 e2 hd hb; have := hi.1.2; omega
    | succ d ih =>
      intro b A1 e2 hd hb h1 h2 h3
      have n16 := hi.1.2
      have f1 : uF F 0 4 (F 0 4 - 1) 0 1 = F 0 1 := uF_nj (by decide)
      refine x_iload_n (pc2 := 59) hC rfl rfl dX8_undo_58 rfl ?_
      refine x_aload_n (pc2 := 60) hC rfl rfl dX8_undo_59 rfl ?_
      refine g_810 (pc2 := 63) hC hK (by assumption) (by assumption) dX8_undo_60 rfl ?_
      rw [f1]
      refine x_icmp_ge (tgt := 145) (pc2 := 66) hC (by omega) (by omega) dX8_undo_63 rfl rfl (fun h_63 => ?_) (fun h_63 => ?_)
      · refine x_iconst (pc2 := 146) hC dX8_undo_145 rfl ?_
        refine x_iret hC hr hlk ⟨_, rfl, MO.of (S := (nbS S, ptS S, upZ (vS S) q.1 q.2, t0, wtS S, wdS S)) (by rw [oUndo, hs]) (hR0.back hs (by rw [uF_eq]; exact hne q t0 hs) (fun j hj => uF_nj hj) h1 (fun b2 t e hb2 ht he => ?_) (fun k k0 k1 => ?_))⟩ dX8_undo_146
        · have hb3 : b2 < nbS S := hb2.2
          have := h2 (16 * b2 + 4 * t + e) (by have := hb2.1; omega) (by omega)
          rw [show (16 * b2 + 4 * t + e) / 16 = b2 by omega, show (16 * b2 + 4 * t + e) % 16 / 4 = t by omega, show (16 * b2 + 4 * t + e) % 4 = e by omega] at this
          exact held_of this (fun u u0 u1 => by congr 1; omega)
        · rw [h3 k (by omega) k1]
          obtain ⟨-, u2⟩ := b8 0 (by rw [hs, List.length_cons]; omega)
          have := u2 k k0 k1
          rw [hs, List.length_cons] at this
          rw [← this]
          congr 1
          omega
      · refine x_iconst (pc2 := 67) hC dX8_undo_66 rfl ?_
        refine x_istore_n (pc2 := 68) (loc2 := [_, _, _]) hC rfl (by decide) rfl dX8_undo_67 rfl ?_
        exact inner q t0 hs b (by omega) (fun A2 e3 g1 g2 g3 => ih (b + 1) A2 e3 (by omega) (by omega) g1 (fun m m0 m1 => g2 m m0 (by omega)) (fun j j0 j1 => g3 j (by omega) j1)) 17 0 A1 (by decide) (by decide) h1 (fun m m0 m1 => h2 m m0 (by omega)) (fun j j0 j1 => h3 j (by omega) j1)
  have cp : ∀ (q : Int × BX) (t0 : List (Int × BX)), hS S = q :: t0 → ∀ (d k : Nat) , 1536 - (k : Int) < d → k ≤ 1536 → X p l e { frames := 0, cells := 0, slots := 0, locals := 0 } s m args below meth c (MQ below (QX D ids β sh N R (pIr (MO (oUndo S )))) args s 0 0 (inG β N)) (inG β N) D ids β sh 3 0 0 N R (uF F 0 4 (F 0 4 - 1)) (cpA A 3 (1536 * (t0.length : Int)) 2 0 k) [some (rf 0), some (pI (k : Int)), none] [] 22 := by
    intro q t0 hs d
    induction d with
    | zero => intro k hd; omega
    | succ d ih =>
      intro k hd hk
      have i4 := hi.2.2.2
      rw [hs, List.length_cons] at i4
      have f4 : uF F 0 4 (F 0 4 - 1) 0 4 = (t0.length : Int) := by rw [uF_eq]; exact hne q t0 hs
      refine x_iload_n (pc2 := 23) hC rfl rfl dX8_undo_22 rfl ?_
      refine x_sipush (pc2 := 26) hC rfl dX8_undo_23 rfl ?_
      refine x_icmp_ge (tgt := 56) (pc2 := 29) hC (by omega) (by omega) dX8_undo_26 rfl rfl (fun h_26 => ?_) (fun h_26 => ?_)
      · refine x_iconst (pc2 := 57) hC dX8_undo_56 rfl ?_
        refine x_istore_n (pc2 := 58) (loc2 := [_, _, _]) hC rfl (by decide) rfl dX8_undo_57 rfl ?_
        have hk2 : (k : Int) = 1536 := by omega
        rw [hk2]
        exact outer q t0 hs 17 0 _ _ (by decide) (by have := hi.1.1; omega) (fun a ha => cpA_ne ha) (fun m m0 m1 => by omega) (fun j j0 j1 => by rw [cpA_in (by omega)]; congr 1; omega)
      · refine x_aload_n (pc2 := 30) hC rfl rfl dX8_undo_29 rfl ?_
        refine g_811 (pc2 := 33) hC hK (by assumption) (by assumption) (by assumption) dX8_undo_30 rfl ?_
        refine x_iload_n (pc2 := 34) hC rfl rfl dX8_undo_33 rfl ?_
        refine x_aload_n (pc2 := 35) hC rfl rfl dX8_undo_34 rfl ?_
        refine g_812 (pc2 := 38) hC hK (by assumption) (by assumption) (by assumption) dX8_undo_35 rfl ?_
        refine x_sipush (pc2 := 41) hC rfl dX8_undo_38 rfl ?_
        refine x_aload_n (pc2 := 42) hC rfl rfl dX8_undo_41 rfl ?_
        refine g_813 (pc2 := 45) hC hK (by assumption) (by assumption) dX8_undo_42 rfl ?_
        rw [f4]
        refine x_imul (pc2 := 46) hC dX8_undo_45 rfl ?_
        refine x_iload_n (pc2 := 47) hC rfl rfl dX8_undo_46 rfl ?_
        refine x_iadd (pc2 := 48) hC dX8_undo_47 rfl ?_
        refine x_lald (pc2 := 49) hC hK (by assumption) (by assumption) (by omega) (by decide) dX8_undo_48 rfl ?_
        refine x_last (pc2 := 50) hC hK (by assumption) (by assumption) (by omega) (by decide) dX8_undo_49 rfl ?_
        refine x_iinc (pc2 := 53) (loc2 := [_, _, _]) hC (by decide) rfl rfl dX8_undo_50 rfl ?_
        refine x_goto (pc2 := 22) hC dX8_undo_53 rfl ?_
        have e := cpA_succ (A := A) (s := 3) (d := 2) (so := 1536 * (t0.length : Int)) (dq := 0) (k := (k : Int)) (by omega) (Or.inl (by decide))
        rw [Int.zero_add] at e
        rw [e]
        exact ih (k + 1) (by omega) (by omega)
  refine x_aload_n (pc2 := 1) hC rfl rfl dX8_undo_0 rfl ?_
  refine g_813 (pc2 := 4) hC hK (by assumption) (by assumption) dX8_undo_1 rfl ?_
  refine x_if_ne (tgt := 10) (pc2 := 7) hC (by have := hi.2.2.2; rw [b3]; exact ⟨by omega, by omega⟩) dX8_undo_4 rfl rfl (fun h_4 => ?_) (fun h_4 => ?_)
  · obtain ⟨q, t0, hs⟩ : ∃ q t0, hS S = q :: t0 := by
      rcases h : hS S with _ | ⟨q, t0⟩
      · rw [h] at b3
        exact absurd b3 h_4
      · exact ⟨q, t0, rfl⟩
    refine x_aload_n (pc2 := 11) hC rfl rfl dX8_undo_10 rfl ?_
    refine x_dupR (pc2 := 12) hC dX8_undo_11 rfl ?_
    refine g_813 (pc2 := 15) hC hK (by assumption) (by assumption) dX8_undo_12 rfl ?_
    refine x_iconst (pc2 := 16) hC dX8_undo_15 rfl ?_
    refine x_isub (pc2 := 17) hC dX8_undo_16 rfl ?_
    refine p_813 (pc2 := 20) hC hK (by assumption) (by assumption) dX8_undo_17 rfl ?_
    refine x_iconst (pc2 := 21) hC dX8_undo_20 rfl ?_
    refine x_istore_n (pc2 := 22) (loc2 := [_, _, _]) hC rfl (by decide) rfl dX8_undo_21 rfl ?_
    have g := cp q t0 hs 1537 0 (by decide) (by decide)
    rw [show (((0 : Nat) : Int)) = 0 from rfl, cpA_0] at g
    exact g
  · refine x_bipush (pc2 := 9) hC rfl dX8_undo_7 rfl ?_
    exact x_iret hC hr hlk ⟨_, rfl, MO.of (by
        have hs : hS S = [] := List.length_eq_zero_iff.mp (by omega)
        rw [oUndo, hs]) hR0⟩ dX8_undo_9
