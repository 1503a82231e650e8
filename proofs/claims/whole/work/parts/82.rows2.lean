theorem dX8_rows_0 : decode cX8_rows 0 = .ok (.iconst 0, 1) := by decide +kernel
theorem dX8_rows_1 : decode cX8_rows 1 = .ok (.istore 4, 2) := by decide +kernel
theorem dX8_rows_3 : decode cX8_rows 3 = .ok (.iload 4, 2) := by decide +kernel
theorem dX8_rows_5 : decode cX8_rows 5 = .ok (.iconst 3, 1) := by decide +kernel
theorem dX8_rows_6 : decode cX8_rows 6 = .ok (.if_icmp .ge 178, 3) := by decide +kernel
theorem dX8_rows_9 : decode cX8_rows 9 = .ok (.aload_n 0, 1) := by decide +kernel
theorem dX8_rows_10 : decode cX8_rows 10 = .ok (.iload_n 1, 1) := by decide +kernel
theorem dX8_rows_11 : decode cX8_rows 11 = .ok (.iload 4, 2) := by decide +kernel
theorem dX8_rows_13 : decode cX8_rows 13 = .ok (.iadd, 1) := by decide +kernel
theorem dX8_rows_14 : decode cX8_rows 14 = .ok (.iload_n 3, 1) := by decide +kernel
theorem dX8_rows_15 : decode cX8_rows 15 = .ok (.iconst 0, 1) := by decide +kernel
theorem dX8_rows_16 : decode cX8_rows 16 = .ok (.iconst 0, 1) := by decide +kernel
theorem dX8_rows_17 : decode cX8_rows 17 = .ok (.invokevirtual 200, 3) := by decide +kernel
theorem dX8_rows_20 : decode cX8_rows 20 = .ok (.istore 5, 2) := by decide +kernel
theorem dX8_rows_22 : decode cX8_rows 22 = .ok (.aload_n 0, 1) := by decide +kernel
theorem dX8_rows_23 : decode cX8_rows 23 = .ok (.iload_n 2, 1) := by decide +kernel
theorem dX8_rows_24 : decode cX8_rows 24 = .ok (.iload 4, 2) := by decide +kernel
theorem dX8_rows_26 : decode cX8_rows 26 = .ok (.iadd, 1) := by decide +kernel
theorem dX8_rows_27 : decode cX8_rows 27 = .ok (.iload_n 3, 1) := by decide +kernel
theorem dX8_rows_28 : decode cX8_rows 28 = .ok (.iconst 0, 1) := by decide +kernel
theorem dX8_rows_29 : decode cX8_rows 29 = .ok (.iconst 0, 1) := by decide +kernel
theorem dX8_rows_30 : decode cX8_rows 30 = .ok (.invokevirtual 200, 3) := by decide +kernel
theorem dX8_rows_33 : decode cX8_rows 33 = .ok (.istore 6, 2) := by decide +kernel
theorem dX8_rows_35 : decode cX8_rows 35 = .ok (.aload_n 0, 1) := by decide +kernel
theorem dX8_rows_36 : decode cX8_rows 36 = .ok (.lconst 1, 1) := by decide +kernel
theorem dX8_rows_37 : decode cX8_rows 37 = .ok (.invokevirtual 89, 3) := by decide +kernel
theorem dX8_rows_40 : decode cX8_rows 40 = .ok (.istore 7, 2) := by decide +kernel
theorem dX8_rows_42 : decode cX8_rows 42 = .ok (.aload_n 0, 1) := by decide +kernel
theorem dX8_rows_43 : decode cX8_rows 43 = .ok (.iload 5, 2) := by decide +kernel
theorem dX8_rows_45 : decode cX8_rows 45 = .ok (.iconst 2, 1) := by decide +kernel
theorem dX8_rows_46 : decode cX8_rows 46 = .ok (.iadd, 1) := by decide +kernel
theorem dX8_rows_47 : decode cX8_rows 47 = .ok (.aload_n 0, 1) := by decide +kernel
theorem dX8_rows_48 : decode cX8_rows 48 = .ok (.lconst 0, 1) := by decide +kernel
theorem dX8_rows_49 : decode cX8_rows 49 = .ok (.invokevirtual 89, 3) := by decide +kernel
theorem dX8_rows_52 : decode cX8_rows 52 = .ok (.iload 7, 2) := by decide +kernel
theorem dX8_rows_54 : decode cX8_rows 54 = .ok (.invokevirtual 103, 3) := by decide +kernel
theorem dX8_rows_57 : decode cX8_rows 57 = .ok (.istore 8, 2) := by decide +kernel
theorem dX8_rows_59 : decode cX8_rows 59 = .ok (.aload_n 0, 1) := by decide +kernel
theorem dX8_rows_60 : decode cX8_rows 60 = .ok (.iload 6, 2) := by decide +kernel
theorem dX8_rows_62 : decode cX8_rows 62 = .ok (.iconst 2, 1) := by decide +kernel
theorem dX8_rows_63 : decode cX8_rows 63 = .ok (.iadd, 1) := by decide +kernel
theorem dX8_rows_64 : decode cX8_rows 64 = .ok (.aload_n 0, 1) := by decide +kernel
theorem dX8_rows_65 : decode cX8_rows 65 = .ok (.lconst 0, 1) := by decide +kernel
theorem dX8_rows_66 : decode cX8_rows 66 = .ok (.invokevirtual 89, 3) := by decide +kernel
theorem dX8_rows_69 : decode cX8_rows 69 = .ok (.iload 7, 2) := by decide +kernel
theorem dX8_rows_71 : decode cX8_rows 71 = .ok (.invokevirtual 103, 3) := by decide +kernel
theorem dX8_rows_74 : decode cX8_rows 74 = .ok (.istore 9, 2) := by decide +kernel
theorem dX8_rows_76 : decode cX8_rows 76 = .ok (.aload_n 0, 1) := by decide +kernel
theorem dX8_rows_77 : decode cX8_rows 77 = .ok (.iload 5, 2) := by decide +kernel
theorem dX8_rows_79 : decode cX8_rows 79 = .ok (.iload 5, 2) := by decide +kernel
theorem dX8_rows_81 : decode cX8_rows 81 = .ok (.iconst 1, 1) := by decide +kernel
theorem dX8_rows_82 : decode cX8_rows 82 = .ok (.iadd, 1) := by decide +kernel
theorem dX8_rows_83 : decode cX8_rows 83 = .ok (.iload 7, 2) := by decide +kernel
theorem dX8_rows_85 : decode cX8_rows 85 = .ok (.invokevirtual 103, 3) := by decide +kernel
theorem dX8_rows_88 : decode cX8_rows 88 = .ok (.istore 10, 2) := by decide +kernel
theorem dX8_rows_90 : decode cX8_rows 90 = .ok (.aload_n 0, 1) := by decide +kernel
theorem dX8_rows_91 : decode cX8_rows 91 = .ok (.iload 6, 2) := by decide +kernel
theorem dX8_rows_93 : decode cX8_rows 93 = .ok (.iload 6, 2) := by decide +kernel
theorem dX8_rows_95 : decode cX8_rows 95 = .ok (.iconst 1, 1) := by decide +kernel
theorem dX8_rows_96 : decode cX8_rows 96 = .ok (.iadd, 1) := by decide +kernel
theorem dX8_rows_97 : decode cX8_rows 97 = .ok (.iload 7, 2) := by decide +kernel
theorem dX8_rows_99 : decode cX8_rows 99 = .ok (.invokevirtual 103, 3) := by decide +kernel
theorem dX8_rows_102 : decode cX8_rows 102 = .ok (.istore 11, 2) := by decide +kernel
theorem dX8_rows_104 : decode cX8_rows 104 = .ok (.aload_n 0, 1) := by decide +kernel
theorem dX8_rows_105 : decode cX8_rows 105 = .ok (.getfield 49, 3) := by decide +kernel
theorem dX8_rows_108 : decode cX8_rows 108 = .ok (.iconst 4, 1) := by decide +kernel
theorem dX8_rows_109 : decode cX8_rows 109 = .ok (.iload 4, 2) := by decide +kernel
theorem dX8_rows_111 : decode cX8_rows 111 = .ok (.imul, 1) := by decide +kernel
theorem dX8_rows_112 : decode cX8_rows 112 = .ok (.aload_n 0, 1) := by decide +kernel
theorem dX8_rows_113 : decode cX8_rows 113 = .ok (.iload 8, 2) := by decide +kernel
theorem dX8_rows_115 : decode cX8_rows 115 = .ok (.iload 9, 2) := by decide +kernel
theorem dX8_rows_117 : decode cX8_rows 117 = .ok (.invokevirtual 118, 3) := by decide +kernel
theorem dX8_rows_120 : decode cX8_rows 120 = .ok (.iastore, 1) := by decide +kernel
theorem dX8_rows_121 : decode cX8_rows 121 = .ok (.aload_n 0, 1) := by decide +kernel
theorem dX8_rows_122 : decode cX8_rows 122 = .ok (.getfield 49, 3) := by decide +kernel
theorem dX8_rows_125 : decode cX8_rows 125 = .ok (.iconst 4, 1) := by decide +kernel
theorem dX8_rows_126 : decode cX8_rows 126 = .ok (.iload 4, 2) := by decide +kernel
theorem dX8_rows_128 : decode cX8_rows 128 = .ok (.imul, 1) := by decide +kernel
theorem dX8_rows_129 : decode cX8_rows 129 = .ok (.iconst 1, 1) := by decide +kernel
theorem dX8_rows_130 : decode cX8_rows 130 = .ok (.iadd, 1) := by decide +kernel
theorem dX8_rows_131 : decode cX8_rows 131 = .ok (.aload_n 0, 1) := by decide +kernel
theorem dX8_rows_132 : decode cX8_rows 132 = .ok (.iload 10, 2) := by decide +kernel
theorem dX8_rows_134 : decode cX8_rows 134 = .ok (.iload 9, 2) := by decide +kernel
theorem dX8_rows_136 : decode cX8_rows 136 = .ok (.invokevirtual 118, 3) := by decide +kernel
theorem dX8_rows_139 : decode cX8_rows 139 = .ok (.iastore, 1) := by decide +kernel
theorem dX8_rows_140 : decode cX8_rows 140 = .ok (.aload_n 0, 1) := by decide +kernel
theorem dX8_rows_141 : decode cX8_rows 141 = .ok (.getfield 49, 3) := by decide +kernel
theorem dX8_rows_144 : decode cX8_rows 144 = .ok (.iconst 4, 1) := by decide +kernel
theorem dX8_rows_145 : decode cX8_rows 145 = .ok (.iload 4, 2) := by decide +kernel
theorem dX8_rows_147 : decode cX8_rows 147 = .ok (.imul, 1) := by decide +kernel
theorem dX8_rows_148 : decode cX8_rows 148 = .ok (.iconst 2, 1) := by decide +kernel
theorem dX8_rows_149 : decode cX8_rows 149 = .ok (.iadd, 1) := by decide +kernel
theorem dX8_rows_150 : decode cX8_rows 150 = .ok (.aload_n 0, 1) := by decide +kernel
theorem dX8_rows_151 : decode cX8_rows 151 = .ok (.iload 11, 2) := by decide +kernel
theorem dX8_rows_153 : decode cX8_rows 153 = .ok (.iload 10, 2) := by decide +kernel
theorem dX8_rows_155 : decode cX8_rows 155 = .ok (.invokevirtual 118, 3) := by decide +kernel
theorem dX8_rows_158 : decode cX8_rows 158 = .ok (.iastore, 1) := by decide +kernel
theorem dX8_rows_159 : decode cX8_rows 159 = .ok (.aload_n 0, 1) := by decide +kernel
theorem dX8_rows_160 : decode cX8_rows 160 = .ok (.getfield 49, 3) := by decide +kernel
theorem dX8_rows_163 : decode cX8_rows 163 = .ok (.iconst 4, 1) := by decide +kernel
theorem dX8_rows_164 : decode cX8_rows 164 = .ok (.iload 4, 2) := by decide +kernel
theorem dX8_rows_166 : decode cX8_rows 166 = .ok (.imul, 1) := by decide +kernel
theorem dX8_rows_167 : decode cX8_rows 167 = .ok (.iconst 3, 1) := by decide +kernel
theorem dX8_rows_168 : decode cX8_rows 168 = .ok (.iadd, 1) := by decide +kernel
theorem dX8_rows_169 : decode cX8_rows 169 = .ok (.aload_n 0, 1) := by decide +kernel
theorem dX8_rows_170 : decode cX8_rows 170 = .ok (.iload 11, 2) := by decide +kernel
theorem dX8_rows_172 : decode cX8_rows 172 = .ok (.iload 8, 2) := by decide +kernel
theorem dX8_rows_174 : decode cX8_rows 174 = .ok (.invokevirtual 118, 3) := by decide +kernel
theorem dX8_rows_177 : decode cX8_rows 177 = .ok (.iastore, 1) := by decide +kernel
theorem dX8_rows_178 : decode cX8_rows 178 = .ok (.iinc 4 1, 3) := by decide +kernel
theorem dX8_rows_181 : decode cX8_rows 181 = .ok (.goto (-178), 3) := by decide +kernel
theorem dX8_rows_184 : decode cX8_rows 184 = .ok (.return_, 1) := by decide +kernel
set_option maxHeartbeats 32000000 in
theorem q_rows (l : Launch) {D : va_G} {ids : Nat → ClassId} {β : Nat} {sh : Nat → Nat × Nat} {N : Nat} {R : Nat → Nat → Option Nat} {F : Nat → Nat → Int} {A : Nat → Int → Int} {S : SP} (hM : MoL sh R N) (hR0 : RepM S F A) {V : Int → Int} {k mq t : Int} (hS : St 0 V F A) (hk : ∀ i : Int, 0 ≤ i ∧ i < 3 → isB S (k + i)) (hm : ∀ i : Int, 0 ≤ i ∧ i < 3 → isB S (mq + i)) (ht : isT t) : MetX l yX8_rows cX8_rows 12 none 5 117 D ids β sh N R F A [rf 0, pI k, pI mq, pI t] (pVr (fun F2 A2 => ∃ V2, St 285 V2 F2 A2 ∧ RowsN 12 A2 V2 (lrnR S k mq t) ∧ FrL F A F2 A2)) := by
  refine MetX.of (loc := [_, _, _, _, _, _, _, _, _, _, _, _]) (plainFor_of_name (by decide +kernel)) (Nat.le_of_ble_eq_true rfl) rfl ?_
  intro p e s m args below meth c hC hK hr hlk
  obtain ⟨⟨m0, m1⟩, ⟨rx0, r2, r3, r7, r8, r9, r11, r12, r13, r16, r18⟩, ⟨m2, m3⟩, ⟨m4, m5⟩, ⟨m6, m7⟩, ⟨m8, m9⟩, ⟨m10, m11⟩, ⟨m12, m13⟩, ⟨m14, m15⟩, ⟨m16, m17⟩, ⟨m18, m19⟩, ⟨m20, m21⟩, ⟨m22, m23⟩⟩ := id hM
  obtain ⟨hi, b1, b2, b3, b4, b5, b6, b7, b8⟩ := id hR0
  have i1 := hi.1
  have n16 := hi.1.2
  have body0 : ∀ (F1 : Nat → Nat → Int) (A1 : Nat → Int → Int) (V1 : Int → Int) (x0 x1 x2 x3 x4 x5 x6 : Option PV), St 0 V1 F1 A1 → FrL F A F1 A1 → RowsN (4 * 0) A1 V1 (lrnR S k mq t) → (∀ (F2 : Nat → Nat → Int) (A2 : Nat → Int → Int) (V2 : Int → Int) (x0 x1 x2 x3 x4 x5 x6 : Option PV), St 95 V2 F2 A2 → FrL F A F2 A2 → RowsN (4 * (0 + 1)) A2 V2 (lrnR S k mq t) → X p l e { frames := 5, cells := 0, slots := 0, locals := 117 } s m args below meth c (MQ below (QX D ids β sh N R (pVr (fun F2 A2 => ∃ V2, St 285 V2 F2 A2 ∧ RowsN 12 A2 V2 (lrnR S k mq t) ∧ FrL F A F2 A2))) args s 0 0 (inG β N)) (inG β N) D ids β sh 12 0 0 N R F2 A2 [some (rf 0), some (pI k), some (pI mq), some (pI t), some (pI (0 + 1)), x0, x1, x2, x3, x4, x5, x6] [] 3) → X p l e { frames := 5, cells := 0, slots := 0, locals := 117 } s m args below meth c (MQ below (QX D ids β sh N R (pVr (fun F2 A2 => ∃ V2, St 285 V2 F2 A2 ∧ RowsN 12 A2 V2 (lrnR S k mq t) ∧ FrL F A F2 A2))) args s 0 0 (inG β N)) (inG β N) D ids β sh 12 0 0 N R F1 A1 [some (rf 0), some (pI k), some (pI mq), some (pI t), some (pI (0)), x0, x1, x2, x3, x4, x5, x6] [] 3 := by
    intro F1 A1 V1 x0 x1 x2 x3 x4 x5 x6 hS1 hL hrw next
    have hR1 : RepM S F1 A1 := hR0.L hL
    have hb6 := hR1.2.2.2.2.2.2.1
    have hki := hk (0) ⟨by decide, by decide⟩
    have hmi := hm (0) ⟨by decide, by decide⟩
    have k1 := hki.1
    have k2 := hki.2
    have mq1 := hmi.1
    have mq2 := hmi.2
    refine x_iload (pc2 := 5) hC rfl dX8_rows_3 rfl ?_
    refine x_iconst (pc2 := 6) hC dX8_rows_5 rfl ?_
    refine x_icmp_ge (tgt := 184) (pc2 := 9) hC (by omega) (by omega) dX8_rows_6 rfl rfl (fun h_6 => ?_) (fun h_6 => ?_)
    · exact absurd h_6 (by decide)
    · refine x_aload_n (pc2 := 10) hC rfl rfl dX8_rows_9 rfl ?_
      refine x_iload_n (pc2 := 11) hC rfl rfl dX8_rows_10 rfl ?_
      refine x_iload (pc2 := 13) hC rfl dX8_rows_11 rfl ?_
      refine x_iadd (pc2 := 14) hC dX8_rows_13 rfl ?_
      refine x_iload_n (pc2 := 15) hC rfl rfl dX8_rows_14 rfl ?_
      refine x_iconst (pc2 := 16) hC dX8_rows_15 rfl ?_
      refine x_iconst (pc2 := 17) hC dX8_rows_16 rfl ?_
      refine x_cVi (pc2 := 20) (ci := 8) hC hK (t_entry l hM hS1 (by decide) ⟨by omega, by omega⟩ (x := vS S (k + (0)) t 0) (show held (A1 2) (96 * (k + (0)) + 24 * t + 6 * (2 * 0 + 0)) (vS S (k + (0)) t 0) from hb6 (k + (0)) t 0 hki ht ⟨by decide, by decide⟩) ((hi.2.1 (k + (0)) hki).2 t 0 ht ⟨by decide, by decide⟩).1.2.2) lk_985 rfl rfl (by decide) (by assumption) (by assumption) ⟨Nat.le_of_ble_eq_true rfl, Nat.le_of_ble_eq_true rfl⟩ ⟨Nat.le_refl _, Nat.le_refl _⟩ rfl (Nat.le_of_ble_eq_true rfl) dX8_rows_17 rfl ?_
      rintro z17 F17 A17 ⟨ez17, V17, hS17, v17, k17, g17⟩
      obtain rfl := ez17.symm
      replace hS17 : St 18 V17 F17 A17 := hS17
      rw [show (0 : Int) + 15 = 15 from rfl]
      obtain ⟨wr0_17, ewr0_17⟩ : ∃ w : T3, w = vS S (k + (0)) t 0 := ⟨_, rfl⟩
      have uwr0_17 : tr V17 15 = wr0_17 := by rw [ewr0_17]; exact v17
      have bwr0_17 : bdt 25 25 wr0_17 := by rw [ewr0_17]; exact (ok_bdt ((hi.2.1 (k + (0)) hki).2 t 0 ht ⟨by decide, by decide⟩).1)
      clear v17
      refine x_istore (pc2 := 22) (loc2 := [_, _, _, _, _, _, _, _, _, _, _, _]) hC (by decide) rfl dX8_rows_20 rfl ?_
      refine x_aload_n (pc2 := 23) hC rfl rfl dX8_rows_22 rfl ?_
      refine x_iload_n (pc2 := 24) hC rfl rfl dX8_rows_23 rfl ?_
      refine x_iload (pc2 := 26) hC rfl dX8_rows_24 rfl ?_
      refine x_iadd (pc2 := 27) hC dX8_rows_26 rfl ?_
      refine x_iload_n (pc2 := 28) hC rfl rfl dX8_rows_27 rfl ?_
      refine x_iconst (pc2 := 29) hC dX8_rows_28 rfl ?_
      refine x_iconst (pc2 := 30) hC dX8_rows_29 rfl ?_
      refine x_cVi (pc2 := 33) (ci := 8) hC hK (t_entry l hM hS17 (by decide) ⟨by omega, by omega⟩ (x := vS S (mq + (0)) t 0) (by rw [g17.a (by decide)]; exact (show held (A1 2) (96 * (mq + (0)) + 24 * t + 6 * (2 * 0 + 0)) (vS S (mq + (0)) t 0) from hb6 (mq + (0)) t 0 hmi ht ⟨by decide, by decide⟩)) ((hi.2.1 (mq + (0)) hmi).2 t 0 ht ⟨by decide, by decide⟩).1.2.2) lk_985 rfl rfl (by decide) (by assumption) (by assumption) ⟨Nat.le_of_ble_eq_true rfl, Nat.le_of_ble_eq_true rfl⟩ ⟨Nat.le_refl _, Nat.le_refl _⟩ rfl (Nat.le_of_ble_eq_true rfl) dX8_rows_30 rfl ?_
      rintro z30 F30 A30 ⟨ez30, V30, hS30, v30, k30, g30⟩
      obtain rfl := ez30.symm
      replace hS30 : St 36 V30 F30 A30 := hS30
      have t30_wr0_17 : tr V30 15 = wr0_17 := (tr_keep (by decide) k30).trans uwr0_17
      rw [show (18 : Int) + 15 = 33 from rfl]
      obtain ⟨wr0_30, ewr0_30⟩ : ∃ w : T3, w = vS S (mq + (0)) t 0 := ⟨_, rfl⟩
      have uwr0_30 : tr V30 33 = wr0_30 := by rw [ewr0_30]; exact v30
      have bwr0_30 : bdt 25 25 wr0_30 := by rw [ewr0_30]; exact (ok_bdt ((hi.2.1 (mq + (0)) hmi).2 t 0 ht ⟨by decide, by decide⟩).1)
      clear v30
      refine x_istore (pc2 := 35) (loc2 := [_, _, _, _, _, _, _, _, _, _, _, _]) hC (by decide) rfl dX8_rows_33 rfl ?_
      refine x_aload_n (pc2 := 36) hC rfl rfl dX8_rows_35 rfl ?_
      refine x_lconst1 (pc2 := 37) hC dX8_rows_36 rfl ?_
      refine x_cVi (pc2 := 40) (ci := 8) hC hK (n_of l hM hS30 (by decide) (v := 1) (by decide)) lk_902 rfl rfl (by decide) (by assumption) (by assumption) ⟨Nat.le_of_ble_eq_true rfl, Nat.le_of_ble_eq_true rfl⟩ ⟨Nat.le_refl _, Nat.le_refl _⟩ rfl (Nat.le_of_ble_eq_true rfl) dX8_rows_37 rfl ?_
      rintro z37 F37 A37 ⟨ez37, V37, hS37, v37, k37, g37⟩
      obtain rfl := ez37.symm
      replace hS37 : St 37 V37 F37 A37 := hS37
      have t37_wr0_17 : tr V37 15 = wr0_17 := (tr_keep (by decide) k37).trans t30_wr0_17
      have t37_wr0_30 : tr V37 33 = wr0_30 := (tr_keep (by decide) k37).trans uwr0_30
      refine x_istore (pc2 := 42) (loc2 := [_, _, _, _, _, _, _, _, _, _, _, _]) hC (by decide) rfl dX8_rows_40 rfl ?_
      refine x_aload_n (pc2 := 43) hC rfl rfl dX8_rows_42 rfl ?_
      refine x_iload (pc2 := 45) hC rfl dX8_rows_43 rfl ?_
      refine x_iconst (pc2 := 46) hC dX8_rows_45 rfl ?_
      refine x_iadd (pc2 := 47) hC dX8_rows_46 rfl ?_
      refine x_aload_n (pc2 := 48) hC rfl rfl dX8_rows_47 rfl ?_
      refine x_lconst0 (pc2 := 49) hC dX8_rows_48 rfl ?_
      refine x_cVi (pc2 := 52) (ci := 8) hC hK (n_of l hM hS37 (by decide) (v := 0) (by decide)) lk_902 rfl rfl (by decide) (by assumption) (by assumption) ⟨Nat.le_of_ble_eq_true rfl, Nat.le_of_ble_eq_true rfl⟩ ⟨Nat.le_refl _, Nat.le_refl _⟩ rfl (Nat.le_of_ble_eq_true rfl) dX8_rows_49 rfl ?_
      rintro z49 F49 A49 ⟨ez49, V49, hS49, v49, k49, g49⟩
      obtain rfl := ez49.symm
      replace hS49 : St 38 V49 F49 A49 := hS49
      have t49_wr0_17 : tr V49 15 = wr0_17 := (tr_keep (by decide) k49).trans t37_wr0_17
      have t49_wr0_30 : tr V49 33 = wr0_30 := (tr_keep (by decide) k49).trans t37_wr0_30
      have t49_o37 : V49 36 = 1 := (k49 36 (by decide)).trans v37
      refine x_iload (pc2 := 54) hC rfl dX8_rows_52 rfl ?_
      refine x_cVi (pc2 := 57) (ci := 8) hC hK (n_triple l hM hS49 (by decide) (x := 17) (y := 37) (w := 36) ⟨by decide, by decide⟩ ⟨by decide, by decide⟩ ⟨by decide, by decide⟩) lk_911 rfl rfl (by decide) (by assumption) (by assumption) ⟨Nat.le_of_ble_eq_true rfl, Nat.le_of_ble_eq_true rfl⟩ ⟨Nat.le_refl _, Nat.le_refl _⟩ rfl (Nat.le_of_ble_eq_true rfl) dX8_rows_54 rfl ?_
      rintro z54 F54 A54 ⟨ez54, V54, hS54, v54, k54, g54⟩
      obtain rfl := ez54.symm
      replace v54 : tr V54 38 = ((wr0_17.2.2, 0, 1) : T3) := Prod.ext (v54.1.trans (congrArg (fun q => q.2.2) t49_wr0_17)) (Prod.ext (v54.2.1.trans v49) (v54.2.2.trans t49_o37))
      replace hS54 : St 41 V54 F54 A54 := hS54
      have t54_wr0_17 : tr V54 15 = wr0_17 := (tr_keep (by decide) k54).trans t49_wr0_17
      have t54_wr0_30 : tr V54 33 = wr0_30 := (tr_keep (by decide) k54).trans t49_wr0_30
      have t54_o37 : V54 36 = 1 := (k54 36 (by decide)).trans t49_o37
      have t54_o49 : V54 37 = 0 := (k54 37 (by decide)).trans v49
      obtain ⟨wr0_54, ewr0_54⟩ : ∃ w : T3, w = ((wr0_17.2.2, 0, 1) : T3) := ⟨_, rfl⟩
      have uwr0_54 : tr V54 38 = wr0_54 := by rw [ewr0_54]; exact v54
      have bwr0_54 : bdt 25 1 wr0_54 := by rw [ewr0_54]; exact ⟨bwr0_17.2.2, (show bd 25 0 by unfold bd; decide), (show bd 1 1 by unfold bd; decide)⟩
      clear v54
      refine x_istore (pc2 := 59) (loc2 := [_, _, _, _, _, _, _, _, _, _, _, _]) hC (by decide) rfl dX8_rows_57 rfl ?_
      refine x_aload_n (pc2 := 60) hC rfl rfl dX8_rows_59 rfl ?_
      refine x_iload (pc2 := 62) hC rfl dX8_rows_60 rfl ?_
      refine x_iconst (pc2 := 63) hC dX8_rows_62 rfl ?_
      refine x_iadd (pc2 := 64) hC dX8_rows_63 rfl ?_
      refine x_aload_n (pc2 := 65) hC rfl rfl dX8_rows_64 rfl ?_
      refine x_lconst0 (pc2 := 66) hC dX8_rows_65 rfl ?_
      refine x_cVi (pc2 := 69) (ci := 8) hC hK (n_of l hM hS54 (by decide) (v := 0) (by decide)) lk_902 rfl rfl (by decide) (by assumption) (by assumption) ⟨Nat.le_of_ble_eq_true rfl, Nat.le_of_ble_eq_true rfl⟩ ⟨Nat.le_refl _, Nat.le_refl _⟩ rfl (Nat.le_of_ble_eq_true rfl) dX8_rows_66 rfl ?_
      rintro z66 F66 A66 ⟨ez66, V66, hS66, v66, k66, g66⟩
      obtain rfl := ez66.symm
      replace hS66 : St 42 V66 F66 A66 := hS66
      have t66_wr0_17 : tr V66 15 = wr0_17 := (tr_keep (by decide) k66).trans t54_wr0_17
      have t66_wr0_30 : tr V66 33 = wr0_30 := (tr_keep (by decide) k66).trans t54_wr0_30
      have t66_wr0_54 : tr V66 38 = wr0_54 := (tr_keep (by decide) k66).trans uwr0_54
      have t66_o37 : V66 36 = 1 := (k66 36 (by decide)).trans t54_o37
      have t66_o49 : V66 37 = 0 := (k66 37 (by decide)).trans t54_o49
      refine x_iload (pc2 := 71) hC rfl dX8_rows_69 rfl ?_
      refine x_cVi (pc2 := 74) (ci := 8) hC hK (n_triple l hM hS66 (by decide) (x := 35) (y := 41) (w := 36) ⟨by decide, by decide⟩ ⟨by decide, by decide⟩ ⟨by decide, by decide⟩) lk_911 rfl rfl (by decide) (by assumption) (by assumption) ⟨Nat.le_of_ble_eq_true rfl, Nat.le_of_ble_eq_true rfl⟩ ⟨Nat.le_refl _, Nat.le_refl _⟩ rfl (Nat.le_of_ble_eq_true rfl) dX8_rows_71 rfl ?_
      rintro z71 F71 A71 ⟨ez71, V71, hS71, v71, k71, g71⟩
      obtain rfl := ez71.symm
      replace v71 : tr V71 42 = ((wr0_30.2.2, 0, 1) : T3) := Prod.ext (v71.1.trans (congrArg (fun q => q.2.2) t66_wr0_30)) (Prod.ext (v71.2.1.trans v66) (v71.2.2.trans t66_o37))
      replace hS71 : St 45 V71 F71 A71 := hS71
      have t71_wr0_17 : tr V71 15 = wr0_17 := (tr_keep (by decide) k71).trans t66_wr0_17
      have t71_wr0_30 : tr V71 33 = wr0_30 := (tr_keep (by decide) k71).trans t66_wr0_30
      have t71_wr0_54 : tr V71 38 = wr0_54 := (tr_keep (by decide) k71).trans t66_wr0_54
      have t71_o37 : V71 36 = 1 := (k71 36 (by decide)).trans t66_o37
      have t71_o49 : V71 37 = 0 := (k71 37 (by decide)).trans t66_o49
      have t71_o66 : V71 41 = 0 := (k71 41 (by decide)).trans v66
      obtain ⟨wr0_71, ewr0_71⟩ : ∃ w : T3, w = ((wr0_30.2.2, 0, 1) : T3) := ⟨_, rfl⟩
      have uwr0_71 : tr V71 42 = wr0_71 := by rw [ewr0_71]; exact v71
      have bwr0_71 : bdt 25 1 wr0_71 := by rw [ewr0_71]; exact ⟨bwr0_30.2.2, (show bd 25 0 by unfold bd; decide), (show bd 1 1 by unfold bd; decide)⟩
      clear v71
      refine x_istore (pc2 := 76) (loc2 := [_, _, _, _, _, _, _, _, _, _, _, _]) hC (by decide) rfl dX8_rows_74 rfl ?_
      refine x_aload_n (pc2 := 77) hC rfl rfl dX8_rows_76 rfl ?_
      refine x_iload (pc2 := 79) hC rfl dX8_rows_77 rfl ?_
      refine x_iload (pc2 := 81) hC rfl dX8_rows_79 rfl ?_
      refine x_iconst (pc2 := 82) hC dX8_rows_81 rfl ?_
      refine x_iadd (pc2 := 83) hC dX8_rows_82 rfl ?_
      refine x_iload (pc2 := 85) hC rfl dX8_rows_83 rfl ?_
      refine x_cVi (pc2 := 88) (ci := 8) hC hK (n_triple l hM hS71 (by decide) (x := 15) (y := 16) (w := 36) ⟨by decide, by decide⟩ ⟨by decide, by decide⟩ ⟨by decide, by decide⟩) lk_911 rfl rfl (by decide) (by assumption) (by assumption) ⟨Nat.le_of_ble_eq_true rfl, Nat.le_of_ble_eq_true rfl⟩ ⟨Nat.le_refl _, Nat.le_refl _⟩ rfl (Nat.le_of_ble_eq_true rfl) dX8_rows_85 rfl ?_
      rintro z85 F85 A85 ⟨ez85, V85, hS85, v85, k85, g85⟩
      obtain rfl := ez85.symm
      replace v85 : tr V85 45 = ((wr0_17.1, wr0_17.2.1, 1) : T3) := Prod.ext (v85.1.trans (congrArg (fun q => q.1) t71_wr0_17)) (Prod.ext (v85.2.1.trans (congrArg (fun q => q.2.1) t71_wr0_17)) (v85.2.2.trans t71_o37))
      replace hS85 : St 48 V85 F85 A85 := hS85
      have t85_wr0_17 : tr V85 15 = wr0_17 := (tr_keep (by decide) k85).trans t71_wr0_17
      have t85_wr0_30 : tr V85 33 = wr0_30 := (tr_keep (by decide) k85).trans t71_wr0_30
      have t85_wr0_54 : tr V85 38 = wr0_54 := (tr_keep (by decide) k85).trans t71_wr0_54
      have t85_wr0_71 : tr V85 42 = wr0_71 := (tr_keep (by decide) k85).trans uwr0_71
      have t85_o37 : V85 36 = 1 := (k85 36 (by decide)).trans t71_o37
      have t85_o49 : V85 37 = 0 := (k85 37 (by decide)).trans t71_o49
      have t85_o66 : V85 41 = 0 := (k85 41 (by decide)).trans t71_o66
      obtain ⟨wr0_85, ewr0_85⟩ : ∃ w : T3, w = ((wr0_17.1, wr0_17.2.1, 1) : T3) := ⟨_, rfl⟩
      have uwr0_85 : tr V85 45 = wr0_85 := by rw [ewr0_85]; exact v85
      have bwr0_85 : bdt 25 1 wr0_85 := by rw [ewr0_85]; exact ⟨bwr0_17.1, bwr0_17.2.1, (show bd 1 1 by unfold bd; decide)⟩
      clear v85
      refine x_istore (pc2 := 90) (loc2 := [_, _, _, _, _, _, _, _, _, _, _, _]) hC (by decide) rfl dX8_rows_88 rfl ?_
      refine x_aload_n (pc2 := 91) hC rfl rfl dX8_rows_90 rfl ?_
      refine x_iload (pc2 := 93) hC rfl dX8_rows_91 rfl ?_
      refine x_iload (pc2 := 95) hC rfl dX8_rows_93 rfl ?_
      refine x_iconst (pc2 := 96) hC dX8_rows_95 rfl ?_
      refine x_iadd (pc2 := 97) hC dX8_rows_96 rfl ?_
      refine x_iload (pc2 := 99) hC rfl dX8_rows_97 rfl ?_
      refine x_cVi (pc2 := 102) (ci := 8) hC hK (n_triple l hM hS85 (by decide) (x := 33) (y := 34) (w := 36) ⟨by decide, by decide⟩ ⟨by decide, by decide⟩ ⟨by decide, by decide⟩) lk_911 rfl rfl (by decide) (by assumption) (by assumption) ⟨Nat.le_of_ble_eq_true rfl, Nat.le_of_ble_eq_true rfl⟩ ⟨Nat.le_refl _, Nat.le_refl _⟩ rfl (Nat.le_of_ble_eq_true rfl) dX8_rows_99 rfl ?_
      rintro z99 F99 A99 ⟨ez99, V99, hS99, v99, k99, g99⟩
      obtain rfl := ez99.symm
      replace v99 : tr V99 48 = ((wr0_30.1, wr0_30.2.1, 1) : T3) := Prod.ext (v99.1.trans (congrArg (fun q => q.1) t85_wr0_30)) (Prod.ext (v99.2.1.trans (congrArg (fun q => q.2.1) t85_wr0_30)) (v99.2.2.trans t85_o37))
      replace hS99 : St 51 V99 F99 A99 := hS99
      have t99_wr0_17 : tr V99 15 = wr0_17 := (tr_keep (by decide) k99).trans t85_wr0_17
      have t99_wr0_30 : tr V99 33 = wr0_30 := (tr_keep (by decide) k99).trans t85_wr0_30
      have t99_wr0_54 : tr V99 38 = wr0_54 := (tr_keep (by decide) k99).trans t85_wr0_54
      have t99_wr0_71 : tr V99 42 = wr0_71 := (tr_keep (by decide) k99).trans t85_wr0_71
      have t99_wr0_85 : tr V99 45 = wr0_85 := (tr_keep (by decide) k99).trans uwr0_85
      have t99_o37 : V99 36 = 1 := (k99 36 (by decide)).trans t85_o37
      have t99_o49 : V99 37 = 0 := (k99 37 (by decide)).trans t85_o49
      have t99_o66 : V99 41 = 0 := (k99 41 (by decide)).trans t85_o66
      obtain ⟨wr0_99, ewr0_99⟩ : ∃ w : T3, w = ((wr0_30.1, wr0_30.2.1, 1) : T3) := ⟨_, rfl⟩
      have uwr0_99 : tr V99 48 = wr0_99 := by rw [ewr0_99]; exact v99
      have bwr0_99 : bdt 25 1 wr0_99 := by rw [ewr0_99]; exact ⟨bwr0_30.1, bwr0_30.2.1, (show bd 1 1 by unfold bd; decide)⟩
      clear v99
      refine x_istore (pc2 := 104) (loc2 := [_, _, _, _, _, _, _, _, _, _, _, _]) hC (by decide) rfl dX8_rows_102 rfl ?_
      refine x_aload_n (pc2 := 105) hC rfl rfl dX8_rows_104 rfl ?_
      refine g_827 (pc2 := 108) hC hK (by assumption) (by assumption) (by assumption) dX8_rows_105 rfl ?_
      refine x_iconst (pc2 := 109) hC dX8_rows_108 rfl ?_
      refine x_iload (pc2 := 111) hC rfl dX8_rows_109 rfl ?_
      refine x_imul (pc2 := 112) hC dX8_rows_111 rfl ?_
      refine x_aload_n (pc2 := 113) hC rfl rfl dX8_rows_112 rfl ?_
      refine x_iload (pc2 := 115) hC rfl dX8_rows_113 rfl ?_
      refine x_iload (pc2 := 117) hC rfl dX8_rows_115 rfl ?_
      refine x_cVi (pc2 := 120) (ci := 8) hC hK (t_product l hM hS99 (x := 38) (y := 42) ⟨by decide, by decide⟩ ⟨by decide, by decide⟩ t99_wr0_54 t99_wr0_71 bwr0_54 bwr0_71 (by decide) ⟨by decide, by decide⟩) lk_1004 rfl rfl (by decide) (by assumption) (by assumption) ⟨Nat.le_of_ble_eq_true rfl, Nat.le_of_ble_eq_true rfl⟩ ⟨Nat.le_refl _, Nat.le_refl _⟩ rfl (Nat.le_of_ble_eq_true rfl) dX8_rows_117 rfl ?_
      rintro z117 F117 A117 ⟨ez117, V117, hS117, v117, k117, g117⟩
      obtain rfl := ez117.symm
      replace hS117 : St 62 V117 F117 A117 := hS117
      have t117_wr0_17 : tr V117 15 = wr0_17 := (tr_keep (by decide) k117).trans t99_wr0_17
      have t117_wr0_30 : tr V117 33 = wr0_30 := (tr_keep (by decide) k117).trans t99_wr0_30
      have t117_wr0_54 : tr V117 38 = wr0_54 := (tr_keep (by decide) k117).trans t99_wr0_54
      have t117_wr0_71 : tr V117 42 = wr0_71 := (tr_keep (by decide) k117).trans t99_wr0_71
      have t117_wr0_85 : tr V117 45 = wr0_85 := (tr_keep (by decide) k117).trans t99_wr0_85
      have t117_wr0_99 : tr V117 48 = wr0_99 := (tr_keep (by decide) k117).trans uwr0_99
      have t117_o37 : V117 36 = 1 := (k117 36 (by decide)).trans t99_o37
      have t117_o49 : V117 37 = 0 := (k117 37 (by decide)).trans t99_o49
      have t117_o66 : V117 41 = 0 := (k117 41 (by decide)).trans t99_o66
      rw [show (51 : Int) + 8 = 59 from rfl]
      obtain ⟨wr0_117, ewr0_117⟩ : ∃ w : T3, w = tmul wr0_54 wr0_71 := ⟨_, rfl⟩
      have uwr0_117 : tr V117 59 = wr0_117 := by rw [ewr0_117]; exact v117
      have bwr0_117 : bdt 51 2 wr0_117 := by rw [ewr0_117]; exact (bdt_mul bwr0_54 bwr0_71 (by decide) (by decide))
      clear v117
      refine x_iast (pc2 := 121) hC hK (by assumption) (by assumption) (by omega) (by decide) dX8_rows_120 rfl ?_
      refine x_aload_n (pc2 := 122) hC rfl rfl dX8_rows_121 rfl ?_
      refine g_827 (pc2 := 125) hC hK (by assumption) (by assumption) (by assumption) dX8_rows_122 rfl ?_
      refine x_iconst (pc2 := 126) hC dX8_rows_125 rfl ?_
      refine x_iload (pc2 := 128) hC rfl dX8_rows_126 rfl ?_
      refine x_imul (pc2 := 129) hC dX8_rows_128 rfl ?_
      refine x_iconst (pc2 := 130) hC dX8_rows_129 rfl ?_
      refine x_iadd (pc2 := 131) hC dX8_rows_130 rfl ?_
      refine x_aload_n (pc2 := 132) hC rfl rfl dX8_rows_131 rfl ?_
      refine x_iload (pc2 := 134) hC rfl dX8_rows_132 rfl ?_
      refine x_iload (pc2 := 136) hC rfl dX8_rows_134 rfl ?_
      refine x_cVi (pc2 := 139) (ci := 8) hC hK (t_product l hM (hS117.w11) (x := 45) (y := 42) ⟨by decide, by decide⟩ ⟨by decide, by decide⟩ t117_wr0_85 t117_wr0_71 bwr0_85 bwr0_71 (by decide) ⟨by decide, by decide⟩) lk_1004 rfl rfl (by decide) (by assumption) (by assumption) ⟨Nat.le_of_ble_eq_true rfl, Nat.le_of_ble_eq_true rfl⟩ ⟨Nat.le_refl _, Nat.le_refl _⟩ rfl (Nat.le_of_ble_eq_true rfl) dX8_rows_136 rfl ?_
      rintro z136 F136 A136 ⟨ez136, V136, hS136, v136, k136, g136⟩
      obtain rfl := ez136.symm
      replace hS136 : St 73 V136 F136 A136 := hS136
      have t136_wr0_17 : tr V136 15 = wr0_17 := (tr_keep (by decide) k136).trans t117_wr0_17
      have t136_wr0_30 : tr V136 33 = wr0_30 := (tr_keep (by decide) k136).trans t117_wr0_30
      have t136_wr0_54 : tr V136 38 = wr0_54 := (tr_keep (by decide) k136).trans t117_wr0_54
      have t136_wr0_71 : tr V136 42 = wr0_71 := (tr_keep (by decide) k136).trans t117_wr0_71
      have t136_wr0_85 : tr V136 45 = wr0_85 := (tr_keep (by decide) k136).trans t117_wr0_85
      have t136_wr0_99 : tr V136 48 = wr0_99 := (tr_keep (by decide) k136).trans t117_wr0_99
      have t136_wr0_117 : tr V136 59 = wr0_117 := (tr_keep (by decide) k136).trans uwr0_117
      have t136_o37 : V136 36 = 1 := (k136 36 (by decide)).trans t117_o37
      have t136_o49 : V136 37 = 0 := (k136 37 (by decide)).trans t117_o49
      have t136_o66 : V136 41 = 0 := (k136 41 (by decide)).trans t117_o66
      rw [show (62 : Int) + 8 = 70 from rfl]
      obtain ⟨wr0_136, ewr0_136⟩ : ∃ w : T3, w = tmul wr0_85 wr0_71 := ⟨_, rfl⟩
      have uwr0_136 : tr V136 70 = wr0_136 := by rw [ewr0_136]; exact v136
      have bwr0_136 : bdt 51 2 wr0_136 := by rw [ewr0_136]; exact (bdt_mul bwr0_85 bwr0_71 (by decide) (by decide))
      clear v136
      refine x_iast (pc2 := 140) hC hK (by assumption) (by assumption) (by omega) (by decide) dX8_rows_139 rfl ?_
      refine x_aload_n (pc2 := 141) hC rfl rfl dX8_rows_140 rfl ?_
      refine g_827 (pc2 := 144) hC hK (by assumption) (by assumption) (by assumption) dX8_rows_141 rfl ?_
      refine x_iconst (pc2 := 145) hC dX8_rows_144 rfl ?_
      refine x_iload (pc2 := 147) hC rfl dX8_rows_145 rfl ?_
      refine x_imul (pc2 := 148) hC dX8_rows_147 rfl ?_
      refine x_iconst (pc2 := 149) hC dX8_rows_148 rfl ?_
      refine x_iadd (pc2 := 150) hC dX8_rows_149 rfl ?_
      refine x_aload_n (pc2 := 151) hC rfl rfl dX8_rows_150 rfl ?_
      refine x_iload (pc2 := 153) hC rfl dX8_rows_151 rfl ?_
      refine x_iload (pc2 := 155) hC rfl dX8_rows_153 rfl ?_
      refine x_cVi (pc2 := 158) (ci := 8) hC hK (t_product l hM (hS136.w11) (x := 48) (y := 45) ⟨by decide, by decide⟩ ⟨by decide, by decide⟩ t136_wr0_99 t136_wr0_85 bwr0_99 bwr0_85 (by decide) ⟨by decide, by decide⟩) lk_1004 rfl rfl (by decide) (by assumption) (by assumption) ⟨Nat.le_of_ble_eq_true rfl, Nat.le_of_ble_eq_true rfl⟩ ⟨Nat.le_refl _, Nat.le_refl _⟩ rfl (Nat.le_of_ble_eq_true rfl) dX8_rows_155 rfl ?_
      rintro z155 F155 A155 ⟨ez155, V155, hS155, v155, k155, g155⟩
      obtain rfl := ez155.symm
      replace hS155 : St 84 V155 F155 A155 := hS155
      have t155_wr0_17 : tr V155 15 = wr0_17 := (tr_keep (by decide) k155).trans t136_wr0_17
      have t155_wr0_30 : tr V155 33 = wr0_30 := (tr_keep (by decide) k155).trans t136_wr0_30
      have t155_wr0_54 : tr V155 38 = wr0_54 := (tr_keep (by decide) k155).trans t136_wr0_54
      have t155_wr0_71 : tr V155 42 = wr0_71 := (tr_keep (by decide) k155).trans t136_wr0_71
      have t155_wr0_85 : tr V155 45 = wr0_85 := (tr_keep (by decide) k155).trans t136_wr0_85
      have t155_wr0_99 : tr V155 48 = wr0_99 := (tr_keep (by decide) k155).trans t136_wr0_99
      have t155_wr0_117 : tr V155 59 = wr0_117 := (tr_keep (by decide) k155).trans t136_wr0_117
      have t155_wr0_136 : tr V155 70 = wr0_136 := (tr_keep (by decide) k155).trans uwr0_136
      have t155_o37 : V155 36 = 1 := (k155 36 (by decide)).trans t136_o37
      have t155_o49 : V155 37 = 0 := (k155 37 (by decide)).trans t136_o49
      have t155_o66 : V155 41 = 0 := (k155 41 (by decide)).trans t136_o66
      rw [show (73 : Int) + 8 = 81 from rfl]
      obtain ⟨wr0_155, ewr0_155⟩ : ∃ w : T3, w = tmul wr0_99 wr0_85 := ⟨_, rfl⟩
      have uwr0_155 : tr V155 81 = wr0_155 := by rw [ewr0_155]; exact v155
      have bwr0_155 : bdt 51 2 wr0_155 := by rw [ewr0_155]; exact (bdt_mul bwr0_99 bwr0_85 (by decide) (by decide))
      clear v155
      refine x_iast (pc2 := 159) hC hK (by assumption) (by assumption) (by omega) (by decide) dX8_rows_158 rfl ?_
      refine x_aload_n (pc2 := 160) hC rfl rfl dX8_rows_159 rfl ?_
      refine g_827 (pc2 := 163) hC hK (by assumption) (by assumption) (by assumption) dX8_rows_160 rfl ?_
      refine x_iconst (pc2 := 164) hC dX8_rows_163 rfl ?_
      refine x_iload (pc2 := 166) hC rfl dX8_rows_164 rfl ?_
      refine x_imul (pc2 := 167) hC dX8_rows_166 rfl ?_
      refine x_iconst (pc2 := 168) hC dX8_rows_167 rfl ?_
      refine x_iadd (pc2 := 169) hC dX8_rows_168 rfl ?_
      refine x_aload_n (pc2 := 170) hC rfl rfl dX8_rows_169 rfl ?_
      refine x_iload (pc2 := 172) hC rfl dX8_rows_170 rfl ?_
      refine x_iload (pc2 := 174) hC rfl dX8_rows_172 rfl ?_
      refine x_cVi (pc2 := 177) (ci := 8) hC hK (t_product l hM (hS155.w11) (x := 48) (y := 38) ⟨by decide, by decide⟩ ⟨by decide, by decide⟩ t155_wr0_99 t155_wr0_54 bwr0_99 bwr0_54 (by decide) ⟨by decide, by decide⟩) lk_1004 rfl rfl (by decide) (by assumption) (by assumption) ⟨Nat.le_of_ble_eq_true rfl, Nat.le_of_ble_eq_true rfl⟩ ⟨Nat.le_refl _, Nat.le_refl _⟩ rfl (Nat.le_of_ble_eq_true rfl) dX8_rows_174 rfl ?_
      rintro z174 F174 A174 ⟨ez174, V174, hS174, v174, k174, g174⟩
      obtain rfl := ez174.symm
      replace hS174 : St 95 V174 F174 A174 := hS174
      have t174_wr0_17 : tr V174 15 = wr0_17 := (tr_keep (by decide) k174).trans t155_wr0_17
      have t174_wr0_30 : tr V174 33 = wr0_30 := (tr_keep (by decide) k174).trans t155_wr0_30
      have t174_wr0_54 : tr V174 38 = wr0_54 := (tr_keep (by decide) k174).trans t155_wr0_54
      have t174_wr0_71 : tr V174 42 = wr0_71 := (tr_keep (by decide) k174).trans t155_wr0_71
      have t174_wr0_85 : tr V174 45 = wr0_85 := (tr_keep (by decide) k174).trans t155_wr0_85
      have t174_wr0_99 : tr V174 48 = wr0_99 := (tr_keep (by decide) k174).trans t155_wr0_99
      have t174_wr0_117 : tr V174 59 = wr0_117 := (tr_keep (by decide) k174).trans t155_wr0_117
      have t174_wr0_136 : tr V174 70 = wr0_136 := (tr_keep (by decide) k174).trans t155_wr0_136
      have t174_wr0_155 : tr V174 81 = wr0_155 := (tr_keep (by decide) k174).trans uwr0_155
      have t174_o37 : V174 36 = 1 := (k174 36 (by decide)).trans t155_o37
      have t174_o49 : V174 37 = 0 := (k174 37 (by decide)).trans t155_o49
      have t174_o66 : V174 41 = 0 := (k174 41 (by decide)).trans t155_o66
      rw [show (84 : Int) + 8 = 92 from rfl]
      obtain ⟨wr0_174, ewr0_174⟩ : ∃ w : T3, w = tmul wr0_99 wr0_54 := ⟨_, rfl⟩
      have uwr0_174 : tr V174 92 = wr0_174 := by rw [ewr0_174]; exact v174
      have bwr0_174 : bdt 51 2 wr0_174 := by rw [ewr0_174]; exact (bdt_mul bwr0_99 bwr0_54 (by decide) (by decide))
      clear v174
      refine x_iast (pc2 := 178) hC hK (by assumption) (by assumption) (by omega) (by decide) dX8_rows_177 rfl ?_
      refine x_iinc (pc2 := 181) (loc2 := [_, _, _, _, _, _, _, _, _, _, _, _]) hC (by decide) rfl rfl dX8_rows_178 rfl ?_
      refine x_goto (pc2 := 3) hC dX8_rows_181 rfl ?_
      refine next _ _ V174 _ _ _ _ _ _ _ hS174.w11 ((((((((hL.tr ((((((((((g17.tr g30).tr g37).tr g49).tr g54).tr g66).tr g71).tr g85).tr g99).tr g117)).L).w).tr g136.L).w).tr g155.L).w).tr g174.L).w) (RowsN.add (i := 0) hrw (fun j hj => ((uA_ni (by omega)).trans ((congrFun (g174.a (show 11 = 1 ∨ 11 = 2 ∨ 11 = 3 ∨ 11 = 10 ∨ 11 = 11 by decide)) _).trans ((uA_ni (by omega)).trans ((congrFun (g155.a (show 11 = 1 ∨ 11 = 2 ∨ 11 = 3 ∨ 11 = 10 ∨ 11 = 11 by decide)) _).trans ((uA_ni (by omega)).trans ((congrFun (g136.a (show 11 = 1 ∨ 11 = 2 ∨ 11 = 3 ∨ 11 = 10 ∨ 11 = 11 by decide)) _).trans ((uA_ni (by omega)).trans (congrFun (((((((((((g17.tr g30).tr g37).tr g49).tr g54).tr g66).tr g71).tr g85).tr g99).tr g117)).a (show 11 = 1 ∨ 11 = 2 ∨ 11 = 3 ∨ 11 = 10 ∨ 11 = 11 by decide)) _))))))))) (fun u hu => (k174 u (by omega)).trans ((k155 u (by omega)).trans ((k136 u (by omega)).trans ((k117 u (by omega)).trans ((k99 u (by omega)).trans ((k85 u (by omega)).trans ((k71 u (by omega)).trans ((k66 u (by omega)).trans ((k54 u (by omega)).trans ((k49 u (by omega)).trans ((k37 u (by omega)).trans ((k30 u (by omega)).trans (k17 u (by omega)))))))))))))) (fun j hj => ?_))
      rcases (show j = 0 ∨ j = 1 ∨ j = 2 ∨ j = 3 by omega) with rfl | rfl | rfl | rfl
      · exact ⟨((uA_ni (by decide)).trans ((congrFun (g174.a (show 11 = 1 ∨ 11 = 2 ∨ 11 = 3 ∨ 11 = 10 ∨ 11 = 11 by decide)) _).trans ((uA_ni (by decide)).trans ((congrFun (g155.a (show 11 = 1 ∨ 11 = 2 ∨ 11 = 3 ∨ 11 = 10 ∨ 11 = 11 by decide)) _).trans ((uA_ni (by decide)).trans ((congrFun (g136.a (show 11 = 1 ∨ 11 = 2 ∨ 11 = 3 ∨ 11 = 10 ∨ 11 = 11 by decide)) _).trans uA_eq)))))), (show tr V174 59 = _ from t174_wr0_117).trans (by rw [ewr0_117, ewr0_54, ewr0_71, ewr0_17, ewr0_30]; rfl), by have := bwr0_117; rw [ewr0_117, ewr0_54, ewr0_71, ewr0_17, ewr0_30] at this; exact this⟩
      · exact ⟨((uA_ni (by decide)).trans ((congrFun (g174.a (show 11 = 1 ∨ 11 = 2 ∨ 11 = 3 ∨ 11 = 10 ∨ 11 = 11 by decide)) _).trans ((uA_ni (by decide)).trans ((congrFun (g155.a (show 11 = 1 ∨ 11 = 2 ∨ 11 = 3 ∨ 11 = 10 ∨ 11 = 11 by decide)) _).trans uA_eq)))), (show tr V174 70 = _ from t174_wr0_136).trans (by rw [ewr0_136, ewr0_85, ewr0_71, ewr0_17, ewr0_30]; rfl), by have := bwr0_136; rw [ewr0_136, ewr0_85, ewr0_71, ewr0_17, ewr0_30] at this; exact this⟩
      · exact ⟨((uA_ni (by decide)).trans ((congrFun (g174.a (show 11 = 1 ∨ 11 = 2 ∨ 11 = 3 ∨ 11 = 10 ∨ 11 = 11 by decide)) _).trans uA_eq)), (show tr V174 81 = _ from t174_wr0_155).trans (by rw [ewr0_155, ewr0_99, ewr0_85, ewr0_17, ewr0_30]; rfl), by have := bwr0_155; rw [ewr0_155, ewr0_99, ewr0_85, ewr0_17, ewr0_30] at this; exact this⟩
      · exact ⟨uA_eq, (show tr V174 92 = _ from uwr0_174).trans (by rw [ewr0_174, ewr0_99, ewr0_54, ewr0_17, ewr0_30]; rfl), by have := bwr0_174; rw [ewr0_174, ewr0_99, ewr0_54, ewr0_17, ewr0_30] at this; exact this⟩
  have body1 : ∀ (F1 : Nat → Nat → Int) (A1 : Nat → Int → Int) (V1 : Int → Int) (x0 x1 x2 x3 x4 x5 x6 : Option PV), St 95 V1 F1 A1 → FrL F A F1 A1 → RowsN (4 * 1) A1 V1 (lrnR S k mq t) → (∀ (F2 : Nat → Nat → Int) (A2 : Nat → Int → Int) (V2 : Int → Int) (x0 x1 x2 x3 x4 x5 x6 : Option PV), St 190 V2 F2 A2 → FrL F A F2 A2 → RowsN (4 * (1 + 1)) A2 V2 (lrnR S k mq t) → X p l e { frames := 5, cells := 0, slots := 0, locals := 117 } s m args below meth c (MQ below (QX D ids β sh N R (pVr (fun F2 A2 => ∃ V2, St 285 V2 F2 A2 ∧ RowsN 12 A2 V2 (lrnR S k mq t) ∧ FrL F A F2 A2))) args s 0 0 (inG β N)) (inG β N) D ids β sh 12 0 0 N R F2 A2 [some (rf 0), some (pI k), some (pI mq), some (pI t), some (pI (0 + 1 + 1)), x0, x1, x2, x3, x4, x5, x6] [] 3) → X p l e { frames := 5, cells := 0, slots := 0, locals := 117 } s m args below meth c (MQ below (QX D ids β sh N R (pVr (fun F2 A2 => ∃ V2, St 285 V2 F2 A2 ∧ RowsN 12 A2 V2 (lrnR S k mq t) ∧ FrL F A F2 A2))) args s 0 0 (inG β N)) (inG β N) D ids β sh 12 0 0 N R F1 A1 [some (rf 0), some (pI k), some (pI mq), some (pI t), some (pI (0 + 1)), x0, x1, x2, x3, x4, x5, x6] [] 3 := by
    intro F1 A1 V1 x0 x1 x2 x3 x4 x5 x6 hS1 hL hrw next
    have hR1 : RepM S F1 A1 := hR0.L hL
    have hb6 := hR1.2.2.2.2.2.2.1
    have hki := hk (0 + 1) ⟨by decide, by decide⟩
    have hmi := hm (0 + 1) ⟨by decide, by decide⟩
    have k1 := hki.1
    have k2 := hki.2
    have mq1 := hmi.1
    have mq2 := hmi.2
    refine x_iload (pc2 := 5) hC rfl dX8_rows_3 rfl ?_
    refine x_iconst (pc2 := 6) hC dX8_rows_5 rfl ?_
    refine x_icmp_ge (tgt := 184) (pc2 := 9) hC (by omega) (by omega) dX8_rows_6 rfl rfl (fun h_6 => ?_) (fun h_6 => ?_)
    · exact absurd h_6 (by decide)
    · refine x_aload_n (pc2 := 10) hC rfl rfl dX8_rows_9 rfl ?_
      refine x_iload_n (pc2 := 11) hC rfl rfl dX8_rows_10 rfl ?_
      refine x_iload (pc2 := 13) hC rfl dX8_rows_11 rfl ?_
      refine x_iadd (pc2 := 14) hC dX8_rows_13 rfl ?_
      refine x_iload_n (pc2 := 15) hC rfl rfl dX8_rows_14 rfl ?_
      refine x_iconst (pc2 := 16) hC dX8_rows_15 rfl ?_
      refine x_iconst (pc2 := 17) hC dX8_rows_16 rfl ?_
      refine x_cVi (pc2 := 20) (ci := 8) hC hK (t_entry l hM hS1 (by decide) ⟨by omega, by omega⟩ (x := vS S (k + (0 + 1)) t 0) (show held (A1 2) (96 * (k + (0 + 1)) + 24 * t + 6 * (2 * 0 + 0)) (vS S (k + (0 + 1)) t 0) from hb6 (k + (0 + 1)) t 0 hki ht ⟨by decide, by decide⟩) ((hi.2.1 (k + (0 + 1)) hki).2 t 0 ht ⟨by decide, by decide⟩).1.2.2) lk_985 rfl rfl (by decide) (by assumption) (by assumption) ⟨Nat.le_of_ble_eq_true rfl, Nat.le_of_ble_eq_true rfl⟩ ⟨Nat.le_refl _, Nat.le_refl _⟩ rfl (Nat.le_of_ble_eq_true rfl) dX8_rows_17 rfl ?_
      rintro z17 F17 A17 ⟨ez17, V17, hS17, v17, k17, g17⟩
      obtain rfl := ez17.symm
      replace hS17 : St 113 V17 F17 A17 := hS17
      rw [show (95 : Int) + 15 = 110 from rfl]
      obtain ⟨wr1_17, ewr1_17⟩ : ∃ w : T3, w = vS S (k + (0 + 1)) t 0 := ⟨_, rfl⟩
      have uwr1_17 : tr V17 110 = wr1_17 := by rw [ewr1_17]; exact v17
      have bwr1_17 : bdt 25 25 wr1_17 := by rw [ewr1_17]; exact (ok_bdt ((hi.2.1 (k + (0 + 1)) hki).2 t 0 ht ⟨by decide, by decide⟩).1)
      clear v17
      refine x_istore (pc2 := 22) (loc2 := [_, _, _, _, _, _, _, _, _, _, _, _]) hC (by decide) rfl dX8_rows_20 rfl ?_
      refine x_aload_n (pc2 := 23) hC rfl rfl dX8_rows_22 rfl ?_
      refine x_iload_n (pc2 := 24) hC rfl rfl dX8_rows_23 rfl ?_
      refine x_iload (pc2 := 26) hC rfl dX8_rows_24 rfl ?_
      refine x_iadd (pc2 := 27) hC dX8_rows_26 rfl ?_
      refine x_iload_n (pc2 := 28) hC rfl rfl dX8_rows_27 rfl ?_
      refine x_iconst (pc2 := 29) hC dX8_rows_28 rfl ?_
      refine x_iconst (pc2 := 30) hC dX8_rows_29 rfl ?_
      refine x_cVi (pc2 := 33) (ci := 8) hC hK (t_entry l hM hS17 (by decide) ⟨by omega, by omega⟩ (x := vS S (mq + (0 + 1)) t 0) (by rw [g17.a (by decide)]; exact (show held (A1 2) (96 * (mq + (0 + 1)) + 24 * t + 6 * (2 * 0 + 0)) (vS S (mq + (0 + 1)) t 0) from hb6 (mq + (0 + 1)) t 0 hmi ht ⟨by decide, by decide⟩)) ((hi.2.1 (mq + (0 + 1)) hmi).2 t 0 ht ⟨by decide, by decide⟩).1.2.2) lk_985 rfl rfl (by decide) (by assumption) (by assumption) ⟨Nat.le_of_ble_eq_true rfl, Nat.le_of_ble_eq_true rfl⟩ ⟨Nat.le_refl _, Nat.le_refl _⟩ rfl (Nat.le_of_ble_eq_true rfl) dX8_rows_30 rfl ?_
      rintro z30 F30 A30 ⟨ez30, V30, hS30, v30, k30, g30⟩
      obtain rfl := ez30.symm
      replace hS30 : St 131 V30 F30 A30 := hS30
      have t30_wr1_17 : tr V30 110 = wr1_17 := (tr_keep (by decide) k30).trans uwr1_17
      rw [show (113 : Int) + 15 = 128 from rfl]
      obtain ⟨wr1_30, ewr1_30⟩ : ∃ w : T3, w = vS S (mq + (0 + 1)) t 0 := ⟨_, rfl⟩
      have uwr1_30 : tr V30 128 = wr1_30 := by rw [ewr1_30]; exact v30
      have bwr1_30 : bdt 25 25 wr1_30 := by rw [ewr1_30]; exact (ok_bdt ((hi.2.1 (mq + (0 + 1)) hmi).2 t 0 ht ⟨by decide, by decide⟩).1)
      clear v30
      refine x_istore (pc2 := 35) (loc2 := [_, _, _, _, _, _, _, _, _, _, _, _]) hC (by decide) rfl dX8_rows_33 rfl ?_
      refine x_aload_n (pc2 := 36) hC rfl rfl dX8_rows_35 rfl ?_
      refine x_lconst1 (pc2 := 37) hC dX8_rows_36 rfl ?_
      refine x_cVi (pc2 := 40) (ci := 8) hC hK (n_of l hM hS30 (by decide) (v := 1) (by decide)) lk_902 rfl rfl (by decide) (by assumption) (by assumption) ⟨Nat.le_of_ble_eq_true rfl, Nat.le_of_ble_eq_true rfl⟩ ⟨Nat.le_refl _, Nat.le_refl _⟩ rfl (Nat.le_of_ble_eq_true rfl) dX8_rows_37 rfl ?_
      rintro z37 F37 A37 ⟨ez37, V37, hS37, v37, k37, g37⟩
      obtain rfl := ez37.symm
      replace hS37 : St 132 V37 F37 A37 := hS37
      have t37_wr1_17 : tr V37 110 = wr1_17 := (tr_keep (by decide) k37).trans t30_wr1_17
      have t37_wr1_30 : tr V37 128 = wr1_30 := (tr_keep (by decide) k37).trans uwr1_30
      refine x_istore (pc2 := 42) (loc2 := [_, _, _, _, _, _, _, _, _, _, _, _]) hC (by decide) rfl dX8_rows_40 rfl ?_
      refine x_aload_n (pc2 := 43) hC rfl rfl dX8_rows_42 rfl ?_
      refine x_iload (pc2 := 45) hC rfl dX8_rows_43 rfl ?_
      refine x_iconst (pc2 := 46) hC dX8_rows_45 rfl ?_
      refine x_iadd (pc2 := 47) hC dX8_rows_46 rfl ?_
      refine x_aload_n (pc2 := 48) hC rfl rfl dX8_rows_47 rfl ?_
      refine x_lconst0 (pc2 := 49) hC dX8_rows_48 rfl ?_
      refine x_cVi (pc2 := 52) (ci := 8) hC hK (n_of l hM hS37 (by decide) (v := 0) (by decide)) lk_902 rfl rfl (by decide) (by assumption) (by assumption) ⟨Nat.le_of_ble_eq_true rfl, Nat.le_of_ble_eq_true rfl⟩ ⟨Nat.le_refl _, Nat.le_refl _⟩ rfl (Nat.le_of_ble_eq_true rfl) dX8_rows_49 rfl ?_
      rintro z49 F49 A49 ⟨ez49, V49, hS49, v49, k49, g49⟩
      obtain rfl := ez49.symm
      replace hS49 : St 133 V49 F49 A49 := hS49
      have t49_wr1_17 : tr V49 110 = wr1_17 := (tr_keep (by decide) k49).trans t37_wr1_17
      have t49_wr1_30 : tr V49 128 = wr1_30 := (tr_keep (by decide) k49).trans t37_wr1_30
      have t49_o37 : V49 131 = 1 := (k49 131 (by decide)).trans v37
      refine x_iload (pc2 := 54) hC rfl dX8_rows_52 rfl ?_
      refine x_cVi (pc2 := 57) (ci := 8) hC hK (n_triple l hM hS49 (by decide) (x := 112) (y := 132) (w := 131) ⟨by decide, by decide⟩ ⟨by decide, by decide⟩ ⟨by decide, by decide⟩) lk_911 rfl rfl (by decide) (by assumption) (by assumption) ⟨Nat.le_of_ble_eq_true rfl, Nat.le_of_ble_eq_true rfl⟩ ⟨Nat.le_refl _, Nat.le_refl _⟩ rfl (Nat.le_of_ble_eq_true rfl) dX8_rows_54 rfl ?_
      rintro z54 F54 A54 ⟨ez54, V54, hS54, v54, k54, g54⟩
      obtain rfl := ez54.symm
      replace v54 : tr V54 133 = ((wr1_17.2.2, 0, 1) : T3) := Prod.ext (v54.1.trans (congrArg (fun q => q.2.2) t49_wr1_17)) (Prod.ext (v54.2.1.trans v49) (v54.2.2.trans t49_o37))
      replace hS54 : St 136 V54 F54 A54 := hS54
      have t54_wr1_17 : tr V54 110 = wr1_17 := (tr_keep (by decide) k54).trans t49_wr1_17
      have t54_wr1_30 : tr V54 128 = wr1_30 := (tr_keep (by decide) k54).trans t49_wr1_30
      have t54_o37 : V54 131 = 1 := (k54 131 (by decide)).trans t49_o37
      have t54_o49 : V54 132 = 0 := (k54 132 (by decide)).trans v49
      obtain ⟨wr1_54, ewr1_54⟩ : ∃ w : T3, w = ((wr1_17.2.2, 0, 1) : T3) := ⟨_, rfl⟩
      have uwr1_54 : tr V54 133 = wr1_54 := by rw [ewr1_54]; exact v54
      have bwr1_54 : bdt 25 1 wr1_54 := by rw [ewr1_54]; exact ⟨bwr1_17.2.2, (show bd 25 0 by unfold bd; decide), (show bd 1 1 by unfold bd; decide)⟩
      clear v54
      refine x_istore (pc2 := 59) (loc2 := [_, _, _, _, _, _, _, _, _, _, _, _]) hC (by decide) rfl dX8_rows_57 rfl ?_
      refine x_aload_n (pc2 := 60) hC rfl rfl dX8_rows_59 rfl ?_
      refine x_iload (pc2 := 62) hC rfl dX8_rows_60 rfl ?_
      refine x_iconst (pc2 := 63) hC dX8_rows_62 rfl ?_
      refine x_iadd (pc2 := 64) hC dX8_rows_63 rfl ?_
      refine x_aload_n (pc2 := 65) hC rfl rfl dX8_rows_64 rfl ?_
      refine x_lconst0 (pc2 := 66) hC dX8_rows_65 rfl ?_
      refine x_cVi (pc2 := 69) (ci := 8) hC hK (n_of l hM hS54 (by decide) (v := 0) (by decide)) lk_902 rfl rfl (by decide) (by assumption) (by assumption) ⟨Nat.le_of_ble_eq_true rfl, Nat.le_of_ble_eq_true rfl⟩ ⟨Nat.le_refl _, Nat.le_refl _⟩ rfl (Nat.le_of_ble_eq_true rfl) dX8_rows_66 rfl ?_
      rintro z66 F66 A66 ⟨ez66, V66, hS66, v66, k66, g66⟩
      obtain rfl := ez66.symm
      replace hS66 : St 137 V66 F66 A66 := hS66
      have t66_wr1_17 : tr V66 110 = wr1_17 := (tr_keep (by decide) k66).trans t54_wr1_17
      have t66_wr1_30 : tr V66 128 = wr1_30 := (tr_keep (by decide) k66).trans t54_wr1_30
      have t66_wr1_54 : tr V66 133 = wr1_54 := (tr_keep (by decide) k66).trans uwr1_54
      have t66_o37 : V66 131 = 1 := (k66 131 (by decide)).trans t54_o37
      have t66_o49 : V66 132 = 0 := (k66 132 (by decide)).trans t54_o49
      refine x_iload (pc2 := 71) hC rfl dX8_rows_69 rfl ?_
      refine x_cVi (pc2 := 74) (ci := 8) hC hK (n_triple l hM hS66 (by decide) (x := 130) (y := 136) (w := 131) ⟨by decide, by decide⟩ ⟨by decide, by decide⟩ ⟨by decide, by decide⟩) lk_911 rfl rfl (by decide) (by assumption) (by assumption) ⟨Nat.le_of_ble_eq_true rfl, Nat.le_of_ble_eq_true rfl⟩ ⟨Nat.le_refl _, Nat.le_refl _⟩ rfl (Nat.le_of_ble_eq_true rfl) dX8_rows_71 rfl ?_
      rintro z71 F71 A71 ⟨ez71, V71, hS71, v71, k71, g71⟩
      obtain rfl := ez71.symm
      replace v71 : tr V71 137 = ((wr1_30.2.2, 0, 1) : T3) := Prod.ext (v71.1.trans (congrArg (fun q => q.2.2) t66_wr1_30)) (Prod.ext (v71.2.1.trans v66) (v71.2.2.trans t66_o37))
      replace hS71 : St 140 V71 F71 A71 := hS71
      have t71_wr1_17 : tr V71 110 = wr1_17 := (tr_keep (by decide) k71).trans t66_wr1_17
      have t71_wr1_30 : tr V71 128 = wr1_30 := (tr_keep (by decide) k71).trans t66_wr1_30
      have t71_wr1_54 : tr V71 133 = wr1_54 := (tr_keep (by decide) k71).trans t66_wr1_54
      have t71_o37 : V71 131 = 1 := (k71 131 (by decide)).trans t66_o37
      have t71_o49 : V71 132 = 0 := (k71 132 (by decide)).trans t66_o49
      have t71_o66 : V71 136 = 0 := (k71 136 (by decide)).trans v66
      obtain ⟨wr1_71, ewr1_71⟩ : ∃ w : T3, w = ((wr1_30.2.2, 0, 1) : T3) := ⟨_, rfl⟩
      have uwr1_71 : tr V71 137 = wr1_71 := by rw [ewr1_71]; exact v71
      have bwr1_71 : bdt 25 1 wr1_71 := by rw [ewr1_71]; exact ⟨bwr1_30.2.2, (show bd 25 0 by unfold bd; decide), (show bd 1 1 by unfold bd; decide)⟩
      clear v71
      refine x_istore (pc2 := 76) (loc2 := [_, _, _, _, _, _, _, _, _, _, _, _]) hC (by decide) rfl dX8_rows_74 rfl ?_
      refine x_aload_n (pc2 := 77) hC rfl rfl dX8_rows_76 rfl ?_
      refine x_iload (pc2 := 79) hC rfl dX8_rows_77 rfl ?_
      refine x_iload (pc2 := 81) hC rfl dX8_rows_79 rfl ?_
      refine x_iconst (pc2 := 82) hC dX8_rows_81 rfl ?_
      refine x_iadd (pc2 := 83) hC dX8_rows_82 rfl ?_
      refine x_iload (pc2 := 85) hC rfl dX8_rows_83 rfl ?_
      refine x_cVi (pc2 := 88) (ci := 8) hC hK (n_triple l hM hS71 (by decide) (x := 110) (y := 111) (w := 131) ⟨by decide, by decide⟩ ⟨by decide, by decide⟩ ⟨by decide, by decide⟩) lk_911 rfl rfl (by decide) (by assumption) (by assumption) ⟨Nat.le_of_ble_eq_true rfl, Nat.le_of_ble_eq_true rfl⟩ ⟨Nat.le_refl _, Nat.le_refl _⟩ rfl (Nat.le_of_ble_eq_true rfl) dX8_rows_85 rfl ?_
      rintro z85 F85 A85 ⟨ez85, V85, hS85, v85, k85, g85⟩
      obtain rfl := ez85.symm
      replace v85 : tr V85 140 = ((wr1_17.1, wr1_17.2.1, 1) : T3) := Prod.ext (v85.1.trans (congrArg (fun q => q.1) t71_wr1_17)) (Prod.ext (v85.2.1.trans (congrArg (fun q => q.2.1) t71_wr1_17)) (v85.2.2.trans t71_o37))
      replace hS85 : St 143 V85 F85 A85 := hS85
      have t85_wr1_17 : tr V85 110 = wr1_17 := (tr_keep (by decide) k85).trans t71_wr1_17
      have t85_wr1_30 : tr V85 128 = wr1_30 := (tr_keep (by decide) k85).trans t71_wr1_30
      have t85_wr1_54 : tr V85 133 = wr1_54 := (tr_keep (by decide) k85).trans t71_wr1_54
      have t85_wr1_71 : tr V85 137 = wr1_71 := (tr_keep (by decide) k85).trans uwr1_71
      have t85_o37 : V85 131 = 1 := (k85 131 (by decide)).trans t71_o37
      have t85_o49 : V85 132 = 0 := (k85 132 (by decide)).trans t71_o49
      have t85_o66 : V85 136 = 0 := (k85 136 (by decide)).trans t71_o66
      obtain ⟨wr1_85, ewr1_85⟩ : ∃ w : T3, w = ((wr1_17.1, wr1_17.2.1, 1) : T3) := ⟨_, rfl⟩
      have uwr1_85 : tr V85 140 = wr1_85 := by rw [ewr1_85]; exact v85
      have bwr1_85 : bdt 25 1 wr1_85 := by rw [ewr1_85]; exact ⟨bwr1_17.1, bwr1_17.2.1, (show bd 1 1 by unfold bd; decide)⟩
      clear v85
      refine x_istore (pc2 := 90) (loc2 := [_, _, _, _, _, _, _, _, _, _, _, _]) hC (by decide) rfl dX8_rows_88 rfl ?_
      refine x_aload_n (pc2 := 91) hC rfl rfl dX8_rows_90 rfl ?_
      refine x_iload (pc2 := 93) hC rfl dX8_rows_91 rfl ?_
      refine x_iload (pc2 := 95) hC rfl dX8_rows_93 rfl ?_
      refine x_iconst (pc2 := 96) hC dX8_rows_95 rfl ?_
      refine x_iadd (pc2 := 97) hC dX8_rows_96 rfl ?_
      refine x_iload (pc2 := 99) hC rfl dX8_rows_97 rfl ?_
      refine x_cVi (pc2 := 102) (ci := 8) hC hK (n_triple l hM hS85 (by decide) (x := 128) (y := 129) (w := 131) ⟨by decide, by decide⟩ ⟨by decide, by decide⟩ ⟨by decide, by decide⟩) lk_911 rfl rfl (by decide) (by assumption) (by assumption) ⟨Nat.le_of_ble_eq_true rfl, Nat.le_of_ble_eq_true rfl⟩ ⟨Nat.le_refl _, Nat.le_refl _⟩ rfl (Nat.le_of_ble_eq_true rfl) dX8_rows_99 rfl ?_
      rintro z99 F99 A99 ⟨ez99, V99, hS99, v99, k99, g99⟩
      obtain rfl := ez99.symm
      replace v99 : tr V99 143 = ((wr1_30.1, wr1_30.2.1, 1) : T3) := Prod.ext (v99.1.trans (congrArg (fun q => q.1) t85_wr1_30)) (Prod.ext (v99.2.1.trans (congrArg (fun q => q.2.1) t85_wr1_30)) (v99.2.2.trans t85_o37))
      replace hS99 : St 146 V99 F99 A99 := hS99
      have t99_wr1_17 : tr V99 110 = wr1_17 := (tr_keep (by decide) k99).trans t85_wr1_17
      have t99_wr1_30 : tr V99 128 = wr1_30 := (tr_keep (by decide) k99).trans t85_wr1_30
      have t99_wr1_54 : tr V99 133 = wr1_54 := (tr_keep (by decide) k99).trans t85_wr1_54
      have t99_wr1_71 : tr V99 137 = wr1_71 := (tr_keep (by decide) k99).trans t85_wr1_71
      have t99_wr1_85 : tr V99 140 = wr1_85 := (tr_keep (by decide) k99).trans uwr1_85
      have t99_o37 : V99 131 = 1 := (k99 131 (by decide)).trans t85_o37
      have t99_o49 : V99 132 = 0 := (k99 132 (by decide)).trans t85_o49
      have t99_o66 : V99 136 = 0 := (k99 136 (by decide)).trans t85_o66
      obtain ⟨wr1_99, ewr1_99⟩ : ∃ w : T3, w = ((wr1_30.1, wr1_30.2.1, 1) : T3) := ⟨_, rfl⟩
      have uwr1_99 : tr V99 143 = wr1_99 := by rw [ewr1_99]; exact v99
      have bwr1_99 : bdt 25 1 wr1_99 := by rw [ewr1_99]; exact ⟨bwr1_30.1, bwr1_30.2.1, (show bd 1 1 by unfold bd; decide)⟩
      clear v99
      refine x_istore (pc2 := 104) (loc2 := [_, _, _, _, _, _, _, _, _, _, _, _]) hC (by decide) rfl dX8_rows_102 rfl ?_
      refine x_aload_n (pc2 := 105) hC rfl rfl dX8_rows_104 rfl ?_
      refine g_827 (pc2 := 108) hC hK (by assumption) (by assumption) (by assumption) dX8_rows_105 rfl ?_
      refine x_iconst (pc2 := 109) hC dX8_rows_108 rfl ?_
      refine x_iload (pc2 := 111) hC rfl dX8_rows_109 rfl ?_
      refine x_imul (pc2 := 112) hC dX8_rows_111 rfl ?_
      refine x_aload_n (pc2 := 113) hC rfl rfl dX8_rows_112 rfl ?_
      refine x_iload (pc2 := 115) hC rfl dX8_rows_113 rfl ?_
      refine x_iload (pc2 := 117) hC rfl dX8_rows_115 rfl ?_
      refine x_cVi (pc2 := 120) (ci := 8) hC hK (t_product l hM hS99 (x := 133) (y := 137) ⟨by decide, by decide⟩ ⟨by decide, by decide⟩ t99_wr1_54 t99_wr1_71 bwr1_54 bwr1_71 (by decide) ⟨by decide, by decide⟩) lk_1004 rfl rfl (by decide) (by assumption) (by assumption) ⟨Nat.le_of_ble_eq_true rfl, Nat.le_of_ble_eq_true rfl⟩ ⟨Nat.le_refl _, Nat.le_refl _⟩ rfl (Nat.le_of_ble_eq_true rfl) dX8_rows_117 rfl ?_
      rintro z117 F117 A117 ⟨ez117, V117, hS117, v117, k117, g117⟩
      obtain rfl := ez117.symm
      replace hS117 : St 157 V117 F117 A117 := hS117
      have t117_wr1_17 : tr V117 110 = wr1_17 := (tr_keep (by decide) k117).trans t99_wr1_17
      have t117_wr1_30 : tr V117 128 = wr1_30 := (tr_keep (by decide) k117).trans t99_wr1_30
      have t117_wr1_54 : tr V117 133 = wr1_54 := (tr_keep (by decide) k117).trans t99_wr1_54
      have t117_wr1_71 : tr V117 137 = wr1_71 := (tr_keep (by decide) k117).trans t99_wr1_71
      have t117_wr1_85 : tr V117 140 = wr1_85 := (tr_keep (by decide) k117).trans t99_wr1_85
      have t117_wr1_99 : tr V117 143 = wr1_99 := (tr_keep (by decide) k117).trans uwr1_99
      have t117_o37 : V117 131 = 1 := (k117 131 (by decide)).trans t99_o37
      have t117_o49 : V117 132 = 0 := (k117 132 (by decide)).trans t99_o49
      have t117_o66 : V117 136 = 0 := (k117 136 (by decide)).trans t99_o66
      rw [show (146 : Int) + 8 = 154 from rfl]
      obtain ⟨wr1_117, ewr1_117⟩ : ∃ w : T3, w = tmul wr1_54 wr1_71 := ⟨_, rfl⟩
      have uwr1_117 : tr V117 154 = wr1_117 := by rw [ewr1_117]; exact v117
      have bwr1_117 : bdt 51 2 wr1_117 := by rw [ewr1_117]; exact (bdt_mul bwr1_54 bwr1_71 (by decide) (by decide))
      clear v117
      refine x_iast (pc2 := 121) hC hK (by assumption) (by assumption) (by omega) (by decide) dX8_rows_120 rfl ?_
      refine x_aload_n (pc2 := 122) hC rfl rfl dX8_rows_121 rfl ?_
      refine g_827 (pc2 := 125) hC hK (by assumption) (by assumption) (by assumption) dX8_rows_122 rfl ?_
      refine x_iconst (pc2 := 126) hC dX8_rows_125 rfl ?_
      refine x_iload (pc2 := 128) hC rfl dX8_rows_126 rfl ?_
      refine x_imul (pc2 := 129) hC dX8_rows_128 rfl ?_
      refine x_iconst (pc2 := 130) hC dX8_rows_129 rfl ?_
      refine x_iadd (pc2 := 131) hC dX8_rows_130 rfl ?_
      refine x_aload_n (pc2 := 132) hC rfl rfl dX8_rows_131 rfl ?_
      refine x_iload (pc2 := 134) hC rfl dX8_rows_132 rfl ?_
      refine x_iload (pc2 := 136) hC rfl dX8_rows_134 rfl ?_
      refine x_cVi (pc2 := 139) (ci := 8) hC hK (t_product l hM (hS117.w11) (x := 140) (y := 137) ⟨by decide, by decide⟩ ⟨by decide, by decide⟩ t117_wr1_85 t117_wr1_71 bwr1_85 bwr1_71 (by decide) ⟨by decide, by decide⟩) lk_1004 rfl rfl (by decide) (by assumption) (by assumption) ⟨Nat.le_of_ble_eq_true rfl, Nat.le_of_ble_eq_true rfl⟩ ⟨Nat.le_refl _, Nat.le_refl _⟩ rfl (Nat.le_of_ble_eq_true rfl) dX8_rows_136 rfl ?_
      rintro z136 F136 A136 ⟨ez136, V136, hS136, v136, k136, g136⟩
      obtain rfl := ez136.symm
      replace hS136 : St 168 V136 F136 A136 := hS136
      have t136_wr1_17 : tr V136 110 = wr1_17 := (tr_keep (by decide) k136).trans t117_wr1_17
      have t136_wr1_30 : tr V136 128 = wr1_30 := (tr_keep (by decide) k136).trans t117_wr1_30
      have t136_wr1_54 : tr V136 133 = wr1_54 := (tr_keep (by decide) k136).trans t117_wr1_54
      have t136_wr1_71 : tr V136 137 = wr1_71 := (tr_keep (by decide) k136).trans t117_wr1_71
      have t136_wr1_85 : tr V136 140 = wr1_85 := (tr_keep (by decide) k136).trans t117_wr1_85
      have t136_wr1_99 : tr V136 143 = wr1_99 := (tr_keep (by decide) k136).trans t117_wr1_99
      have t136_wr1_117 : tr V136 154 = wr1_117 := (tr_keep (by decide) k136).trans uwr1_117
      have t136_o37 : V136 131 = 1 := (k136 131 (by decide)).trans t117_o37
      have t136_o49 : V136 132 = 0 := (k136 132 (by decide)).trans t117_o49
      have t136_o66 : V136 136 = 0 := (k136 136 (by decide)).trans t117_o66
      rw [show (157 : Int) + 8 = 165 from rfl]
      obtain ⟨wr1_136, ewr1_136⟩ : ∃ w : T3, w = tmul wr1_85 wr1_71 := ⟨_, rfl⟩
      have uwr1_136 : tr V136 165 = wr1_136 := by rw [ewr1_136]; exact v136
      have bwr1_136 : bdt 51 2 wr1_136 := by rw [ewr1_136]; exact (bdt_mul bwr1_85 bwr1_71 (by decide) (by decide))
      clear v136
      refine x_iast (pc2 := 140) hC hK (by assumption) (by assumption) (by omega) (by decide) dX8_rows_139 rfl ?_
      refine x_aload_n (pc2 := 141) hC rfl rfl dX8_rows_140 rfl ?_
      refine g_827 (pc2 := 144) hC hK (by assumption) (by assumption) (by assumption) dX8_rows_141 rfl ?_
      refine x_iconst (pc2 := 145) hC dX8_rows_144 rfl ?_
      refine x_iload (pc2 := 147) hC rfl dX8_rows_145 rfl ?_
      refine x_imul (pc2 := 148) hC dX8_rows_147 rfl ?_
      refine x_iconst (pc2 := 149) hC dX8_rows_148 rfl ?_
      refine x_iadd (pc2 := 150) hC dX8_rows_149 rfl ?_
      refine x_aload_n (pc2 := 151) hC rfl rfl dX8_rows_150 rfl ?_
      refine x_iload (pc2 := 153) hC rfl dX8_rows_151 rfl ?_
      refine x_iload (pc2 := 155) hC rfl dX8_rows_153 rfl ?_
      refine x_cVi (pc2 := 158) (ci := 8) hC hK (t_product l hM (hS136.w11) (x := 143) (y := 140) ⟨by decide, by decide⟩ ⟨by decide, by decide⟩ t136_wr1_99 t136_wr1_85 bwr1_99 bwr1_85 (by decide) ⟨by decide, by decide⟩) lk_1004 rfl rfl (by decide) (by assumption) (by assumption) ⟨Nat.le_of_ble_eq_true rfl, Nat.le_of_ble_eq_true rfl⟩ ⟨Nat.le_refl _, Nat.le_refl _⟩ rfl (Nat.le_of_ble_eq_true rfl) dX8_rows_155 rfl ?_
      rintro z155 F155 A155 ⟨ez155, V155, hS155, v155, k155, g155⟩
      obtain rfl := ez155.symm
      replace hS155 : St 179 V155 F155 A155 := hS155
      have t155_wr1_17 : tr V155 110 = wr1_17 := (tr_keep (by decide) k155).trans t136_wr1_17
      have t155_wr1_30 : tr V155 128 = wr1_30 := (tr_keep (by decide) k155).trans t136_wr1_30
      have t155_wr1_54 : tr V155 133 = wr1_54 := (tr_keep (by decide) k155).trans t136_wr1_54
      have t155_wr1_71 : tr V155 137 = wr1_71 := (tr_keep (by decide) k155).trans t136_wr1_71
      have t155_wr1_85 : tr V155 140 = wr1_85 := (tr_keep (by decide) k155).trans t136_wr1_85
      have t155_wr1_99 : tr V155 143 = wr1_99 := (tr_keep (by decide) k155).trans t136_wr1_99
      have t155_wr1_117 : tr V155 154 = wr1_117 := (tr_keep (by decide) k155).trans t136_wr1_117
      have t155_wr1_136 : tr V155 165 = wr1_136 := (tr_keep (by decide) k155).trans uwr1_136
      have t155_o37 : V155 131 = 1 := (k155 131 (by decide)).trans t136_o37
      have t155_o49 : V155 132 = 0 := (k155 132 (by decide)).trans t136_o49
      have t155_o66 : V155 136 = 0 := (k155 136 (by decide)).trans t136_o66
      rw [show (168 : Int) + 8 = 176 from rfl]
      obtain ⟨wr1_155, ewr1_155⟩ : ∃ w : T3, w = tmul wr1_99 wr1_85 := ⟨_, rfl⟩
      have uwr1_155 : tr V155 176 = wr1_155 := by rw [ewr1_155]; exact v155
      have bwr1_155 : bdt 51 2 wr1_155 := by rw [ewr1_155]; exact (bdt_mul bwr1_99 bwr1_85 (by decide) (by decide))
      clear v155
      refine x_iast (pc2 := 159) hC hK (by assumption) (by assumption) (by omega) (by decide) dX8_rows_158 rfl ?_
      refine x_aload_n (pc2 := 160) hC rfl rfl dX8_rows_159 rfl ?_
      refine g_827 (pc2 := 163) hC hK (by assumption) (by assumption) (by assumption) dX8_rows_160 rfl ?_
      refine x_iconst (pc2 := 164) hC dX8_rows_163 rfl ?_
      refine x_iload (pc2 := 166) hC rfl dX8_rows_164 rfl ?_
      refine x_imul (pc2 := 167) hC dX8_rows_166 rfl ?_
      refine x_iconst (pc2 := 168) hC dX8_rows_167 rfl ?_
      refine x_iadd (pc2 := 169) hC dX8_rows_168 rfl ?_
      refine x_aload_n (pc2 := 170) hC rfl rfl dX8_rows_169 rfl ?_
      refine x_iload (pc2 := 172) hC rfl dX8_rows_170 rfl ?_
      refine x_iload (pc2 := 174) hC rfl dX8_rows_172 rfl ?_
      refine x_cVi (pc2 := 177) (ci := 8) hC hK (t_product l hM (hS155.w11) (x := 143) (y := 133) ⟨by decide, by decide⟩ ⟨by decide, by decide⟩ t155_wr1_99 t155_wr1_54 bwr1_99 bwr1_54 (by decide) ⟨by decide, by decide⟩) lk_1004 rfl rfl (by decide) (by assumption) (by assumption) ⟨Nat.le_of_ble_eq_true rfl, Nat.le_of_ble_eq_true rfl⟩ ⟨Nat.le_refl _, Nat.le_refl _⟩ rfl (Nat.le_of_ble_eq_true rfl) dX8_rows_174 rfl ?_
      rintro z174 F174 A174 ⟨ez174, V174, hS174, v174, k174, g174⟩
      obtain rfl := ez174.symm
      replace hS174 : St 190 V174 F174 A174 := hS174
      have t174_wr1_17 : tr V174 110 = wr1_17 := (tr_keep (by decide) k174).trans t155_wr1_17
      have t174_wr1_30 : tr V174 128 = wr1_30 := (tr_keep (by decide) k174).trans t155_wr1_30
      have t174_wr1_54 : tr V174 133 = wr1_54 := (tr_keep (by decide) k174).trans t155_wr1_54
      have t174_wr1_71 : tr V174 137 = wr1_71 := (tr_keep (by decide) k174).trans t155_wr1_71
      have t174_wr1_85 : tr V174 140 = wr1_85 := (tr_keep (by decide) k174).trans t155_wr1_85
      have t174_wr1_99 : tr V174 143 = wr1_99 := (tr_keep (by decide) k174).trans t155_wr1_99
      have t174_wr1_117 : tr V174 154 = wr1_117 := (tr_keep (by decide) k174).trans t155_wr1_117
      have t174_wr1_136 : tr V174 165 = wr1_136 := (tr_keep (by decide) k174).trans t155_wr1_136
      have t174_wr1_155 : tr V174 176 = wr1_155 := (tr_keep (by decide) k174).trans uwr1_155
      have t174_o37 : V174 131 = 1 := (k174 131 (by decide)).trans t155_o37
      have t174_o49 : V174 132 = 0 := (k174 132 (by decide)).trans t155_o49
      have t174_o66 : V174 136 = 0 := (k174 136 (by decide)).trans t155_o66
      rw [show (179 : Int) + 8 = 187 from rfl]
      obtain ⟨wr1_174, ewr1_174⟩ : ∃ w : T3, w = tmul wr1_99 wr1_54 := ⟨_, rfl⟩
      have uwr1_174 : tr V174 187 = wr1_174 := by rw [ewr1_174]; exact v174
      have bwr1_174 : bdt 51 2 wr1_174 := by rw [ewr1_174]; exact (bdt_mul bwr1_99 bwr1_54 (by decide) (by decide))
      clear v174
      refine x_iast (pc2 := 178) hC hK (by assumption) (by assumption) (by omega) (by decide) dX8_rows_177 rfl ?_
      refine x_iinc (pc2 := 181) (loc2 := [_, _, _, _, _, _, _, _, _, _, _, _]) hC (by decide) rfl rfl dX8_rows_178 rfl ?_
      refine x_goto (pc2 := 3) hC dX8_rows_181 rfl ?_
      refine next _ _ V174 _ _ _ _ _ _ _ hS174.w11 ((((((((hL.tr ((((((((((g17.tr g30).tr g37).tr g49).tr g54).tr g66).tr g71).tr g85).tr g99).tr g117)).L).w).tr g136.L).w).tr g155.L).w).tr g174.L).w) (RowsN.add (i := 1) hrw (fun j hj => ((uA_ni (by omega)).trans ((congrFun (g174.a (show 11 = 1 ∨ 11 = 2 ∨ 11 = 3 ∨ 11 = 10 ∨ 11 = 11 by decide)) _).trans ((uA_ni (by omega)).trans ((congrFun (g155.a (show 11 = 1 ∨ 11 = 2 ∨ 11 = 3 ∨ 11 = 10 ∨ 11 = 11 by decide)) _).trans ((uA_ni (by omega)).trans ((congrFun (g136.a (show 11 = 1 ∨ 11 = 2 ∨ 11 = 3 ∨ 11 = 10 ∨ 11 = 11 by decide)) _).trans ((uA_ni (by omega)).trans (congrFun (((((((((((g17.tr g30).tr g37).tr g49).tr g54).tr g66).tr g71).tr g85).tr g99).tr g117)).a (show 11 = 1 ∨ 11 = 2 ∨ 11 = 3 ∨ 11 = 10 ∨ 11 = 11 by decide)) _))))))))) (fun u hu => (k174 u (by omega)).trans ((k155 u (by omega)).trans ((k136 u (by omega)).trans ((k117 u (by omega)).trans ((k99 u (by omega)).trans ((k85 u (by omega)).trans ((k71 u (by omega)).trans ((k66 u (by omega)).trans ((k54 u (by omega)).trans ((k49 u (by omega)).trans ((k37 u (by omega)).trans ((k30 u (by omega)).trans (k17 u (by omega)))))))))))))) (fun j hj => ?_))
      rcases (show j = 0 ∨ j = 1 ∨ j = 2 ∨ j = 3 by omega) with rfl | rfl | rfl | rfl
      · exact ⟨((uA_ni (by decide)).trans ((congrFun (g174.a (show 11 = 1 ∨ 11 = 2 ∨ 11 = 3 ∨ 11 = 10 ∨ 11 = 11 by decide)) _).trans ((uA_ni (by decide)).trans ((congrFun (g155.a (show 11 = 1 ∨ 11 = 2 ∨ 11 = 3 ∨ 11 = 10 ∨ 11 = 11 by decide)) _).trans ((uA_ni (by decide)).trans ((congrFun (g136.a (show 11 = 1 ∨ 11 = 2 ∨ 11 = 3 ∨ 11 = 10 ∨ 11 = 11 by decide)) _).trans uA_eq)))))), (show tr V174 154 = _ from t174_wr1_117).trans (by rw [ewr1_117, ewr1_54, ewr1_71, ewr1_17, ewr1_30]; rfl), by have := bwr1_117; rw [ewr1_117, ewr1_54, ewr1_71, ewr1_17, ewr1_30] at this; exact this⟩
      · exact ⟨((uA_ni (by decide)).trans ((congrFun (g174.a (show 11 = 1 ∨ 11 = 2 ∨ 11 = 3 ∨ 11 = 10 ∨ 11 = 11 by decide)) _).trans ((uA_ni (by decide)).trans ((congrFun (g155.a (show 11 = 1 ∨ 11 = 2 ∨ 11 = 3 ∨ 11 = 10 ∨ 11 = 11 by decide)) _).trans uA_eq)))), (show tr V174 165 = _ from t174_wr1_136).trans (by rw [ewr1_136, ewr1_85, ewr1_71, ewr1_17, ewr1_30]; rfl), by have := bwr1_136; rw [ewr1_136, ewr1_85, ewr1_71, ewr1_17, ewr1_30] at this; exact this⟩
      · exact ⟨((uA_ni (by decide)).trans ((congrFun (g174.a (show 11 = 1 ∨ 11 = 2 ∨ 11 = 3 ∨ 11 = 10 ∨ 11 = 11 by decide)) _).trans uA_eq)), (show tr V174 176 = _ from t174_wr1_155).trans (by rw [ewr1_155, ewr1_99, ewr1_85, ewr1_17, ewr1_30]; rfl), by have := bwr1_155; rw [ewr1_155, ewr1_99, ewr1_85, ewr1_17, ewr1_30] at this; exact this⟩
      · exact ⟨uA_eq, (show tr V174 187 = _ from uwr1_174).trans (by rw [ewr1_174, ewr1_99, ewr1_54, ewr1_17, ewr1_30]; rfl), by have := bwr1_174; rw [ewr1_174, ewr1_99, ewr1_54, ewr1_17, ewr1_30] at this; exact this⟩
  have body2 : ∀ (F1 : Nat → Nat → Int) (A1 : Nat → Int → Int) (V1 : Int → Int) (x0 x1 x2 x3 x4 x5 x6 : Option PV), St 190 V1 F1 A1 → FrL F A F1 A1 → RowsN (4 * 2) A1 V1 (lrnR S k mq t) → (∀ (F2 : Nat → Nat → Int) (A2 : Nat → Int → Int) (V2 : Int → Int) (x0 x1 x2 x3 x4 x5 x6 : Option PV), St 285 V2 F2 A2 → FrL F A F2 A2 → RowsN (4 * (2 + 1)) A2 V2 (lrnR S k mq t) → X p l e { frames := 5, cells := 0, slots := 0, locals := 117 } s m args below meth c (MQ below (QX D ids β sh N R (pVr (fun F2 A2 => ∃ V2, St 285 V2 F2 A2 ∧ RowsN 12 A2 V2 (lrnR S k mq t) ∧ FrL F A F2 A2))) args s 0 0 (inG β N)) (inG β N) D ids β sh 12 0 0 N R F2 A2 [some (rf 0), some (pI k), some (pI mq), some (pI t), some (pI (0 + 1 + 1 + 1)), x0, x1, x2, x3, x4, x5, x6] [] 3) → X p l e { frames := 5, cells := 0, slots := 0, locals := 117 } s m args below meth c (MQ below (QX D ids β sh N R (pVr (fun F2 A2 => ∃ V2, St 285 V2 F2 A2 ∧ RowsN 12 A2 V2 (lrnR S k mq t) ∧ FrL F A F2 A2))) args s 0 0 (inG β N)) (inG β N) D ids β sh 12 0 0 N R F1 A1 [some (rf 0), some (pI k), some (pI mq), some (pI t), some (pI (0 + 1 + 1)), x0, x1, x2, x3, x4, x5, x6] [] 3 := by
    intro F1 A1 V1 x0 x1 x2 x3 x4 x5 x6 hS1 hL hrw next
    have hR1 : RepM S F1 A1 := hR0.L hL
    have hb6 := hR1.2.2.2.2.2.2.1
    have hki := hk (0 + 1 + 1) ⟨by decide, by decide⟩
    have hmi := hm (0 + 1 + 1) ⟨by decide, by decide⟩
    have k1 := hki.1
    have k2 := hki.2
    have mq1 := hmi.1
    have mq2 := hmi.2
    refine x_iload (pc2 := 5) hC rfl dX8_rows_3 rfl ?_
    refine x_iconst (pc2 := 6) hC dX8_rows_5 rfl ?_
    refine x_icmp_ge (tgt := 184) (pc2 := 9) hC (by omega) (by omega) dX8_rows_6 rfl rfl (fun h_6 => ?_) (fun h_6 => ?_)
    · exact absurd h_6 (by decide)
    · refine x_aload_n (pc2 := 10) hC rfl rfl dX8_rows_9 rfl ?_
      refine x_iload_n (pc2 := 11) hC rfl rfl dX8_rows_10 rfl ?_
      refine x_iload (pc2 := 13) hC rfl dX8_rows_11 rfl ?_
      refine x_iadd (pc2 := 14) hC dX8_rows_13 rfl ?_
      refine x_iload_n (pc2 := 15) hC rfl rfl dX8_rows_14 rfl ?_
      refine x_iconst (pc2 := 16) hC dX8_rows_15 rfl ?_
      refine x_iconst (pc2 := 17) hC dX8_rows_16 rfl ?_
      refine x_cVi (pc2 := 20) (ci := 8) hC hK (t_entry l hM hS1 (by decide) ⟨by omega, by omega⟩ (x := vS S (k + (0 + 1 + 1)) t 0) (show held (A1 2) (96 * (k + (0 + 1 + 1)) + 24 * t + 6 * (2 * 0 + 0)) (vS S (k + (0 + 1 + 1)) t 0) from hb6 (k + (0 + 1 + 1)) t 0 hki ht ⟨by decide, by decide⟩) ((hi.2.1 (k + (0 + 1 + 1)) hki).2 t 0 ht ⟨by decide, by decide⟩).1.2.2) lk_985 rfl rfl (by decide) (by assumption) (by assumption) ⟨Nat.le_of_ble_eq_true rfl, Nat.le_of_ble_eq_true rfl⟩ ⟨Nat.le_refl _, Nat.le_refl _⟩ rfl (Nat.le_of_ble_eq_true rfl) dX8_rows_17 rfl ?_
      rintro z17 F17 A17 ⟨ez17, V17, hS17, v17, k17, g17⟩
      obtain rfl := ez17.symm
      replace hS17 : St 208 V17 F17 A17 := hS17
      rw [show (190 : Int) + 15 = 205 from rfl]
      obtain ⟨wr2_17, ewr2_17⟩ : ∃ w : T3, w = vS S (k + (0 + 1 + 1)) t 0 := ⟨_, rfl⟩
      have uwr2_17 : tr V17 205 = wr2_17 := by rw [ewr2_17]; exact v17
      have bwr2_17 : bdt 25 25 wr2_17 := by rw [ewr2_17]; exact (ok_bdt ((hi.2.1 (k + (0 + 1 + 1)) hki).2 t 0 ht ⟨by decide, by decide⟩).1)
      clear v17
      refine x_istore (pc2 := 22) (loc2 := [_, _, _, _, _, _, _, _, _, _, _, _]) hC (by decide) rfl dX8_rows_20 rfl ?_
      refine x_aload_n (pc2 := 23) hC rfl rfl dX8_rows_22 rfl ?_
      refine x_iload_n (pc2 := 24) hC rfl rfl dX8_rows_23 rfl ?_
      refine x_iload (pc2 := 26) hC rfl dX8_rows_24 rfl ?_
      refine x_iadd (pc2 := 27) hC dX8_rows_26 rfl ?_
      refine x_iload_n (pc2 := 28) hC rfl rfl dX8_rows_27 rfl ?_
      refine x_iconst (pc2 := 29) hC dX8_rows_28 rfl ?_
      refine x_iconst (pc2 := 30) hC dX8_rows_29 rfl ?_
      refine x_cVi (pc2 := 33) (ci := 8) hC hK (t_entry l hM hS17 (by decide) ⟨by omega, by omega⟩ (x := vS S (mq + (0 + 1 + 1)) t 0) (by rw [g17.a (by decide)]; exact (show held (A1 2) (96 * (mq + (0 + 1 + 1)) + 24 * t + 6 * (2 * 0 + 0)) (vS S (mq + (0 + 1 + 1)) t 0) from hb6 (mq + (0 + 1 + 1)) t 0 hmi ht ⟨by decide, by decide⟩)) ((hi.2.1 (mq + (0 + 1 + 1)) hmi).2 t 0 ht ⟨by decide, by decide⟩).1.2.2) lk_985 rfl rfl (by decide) (by assumption) (by assumption) ⟨Nat.le_of_ble_eq_true rfl, Nat.le_of_ble_eq_true rfl⟩ ⟨Nat.le_refl _, Nat.le_refl _⟩ rfl (Nat.le_of_ble_eq_true rfl) dX8_rows_30 rfl ?_
      rintro z30 F30 A30 ⟨ez30, V30, hS30, v30, k30, g30⟩
      obtain rfl := ez30.symm
      replace hS30 : St 226 V30 F30 A30 := hS30
      have t30_wr2_17 : tr V30 205 = wr2_17 := (tr_keep (by decide) k30).trans uwr2_17
      rw [show (208 : Int) + 15 = 223 from rfl]
      obtain ⟨wr2_30, ewr2_30⟩ : ∃ w : T3, w = vS S (mq + (0 + 1 + 1)) t 0 := ⟨_, rfl⟩
      have uwr2_30 : tr V30 223 = wr2_30 := by rw [ewr2_30]; exact v30
      have bwr2_30 : bdt 25 25 wr2_30 := by rw [ewr2_30]; exact (ok_bdt ((hi.2.1 (mq + (0 + 1 + 1)) hmi).2 t 0 ht ⟨by decide, by decide⟩).1)
      clear v30
      refine x_istore (pc2 := 35) (loc2 := [_, _, _, _, _, _, _, _, _, _, _, _]) hC (by decide) rfl dX8_rows_33 rfl ?_
      refine x_aload_n (pc2 := 36) hC rfl rfl dX8_rows_35 rfl ?_
      refine x_lconst1 (pc2 := 37) hC dX8_rows_36 rfl ?_
      refine x_cVi (pc2 := 40) (ci := 8) hC hK (n_of l hM hS30 (by decide) (v := 1) (by decide)) lk_902 rfl rfl (by decide) (by assumption) (by assumption) ⟨Nat.le_of_ble_eq_true rfl, Nat.le_of_ble_eq_true rfl⟩ ⟨Nat.le_refl _, Nat.le_refl _⟩ rfl (Nat.le_of_ble_eq_true rfl) dX8_rows_37 rfl ?_
      rintro z37 F37 A37 ⟨ez37, V37, hS37, v37, k37, g37⟩
      obtain rfl := ez37.symm
      replace hS37 : St 227 V37 F37 A37 := hS37
      have t37_wr2_17 : tr V37 205 = wr2_17 := (tr_keep (by decide) k37).trans t30_wr2_17
      have t37_wr2_30 : tr V37 223 = wr2_30 := (tr_keep (by decide) k37).trans uwr2_30
      refine x_istore (pc2 := 42) (loc2 := [_, _, _, _, _, _, _, _, _, _, _, _]) hC (by decide) rfl dX8_rows_40 rfl ?_
      refine x_aload_n (pc2 := 43) hC rfl rfl dX8_rows_42 rfl ?_
      refine x_iload (pc2 := 45) hC rfl dX8_rows_43 rfl ?_
      refine x_iconst (pc2 := 46) hC dX8_rows_45 rfl ?_
      refine x_iadd (pc2 := 47) hC dX8_rows_46 rfl ?_
      refine x_aload_n (pc2 := 48) hC rfl rfl dX8_rows_47 rfl ?_
      refine x_lconst0 (pc2 := 49) hC dX8_rows_48 rfl ?_
      refine x_cVi (pc2 := 52) (ci := 8) hC hK (n_of l hM hS37 (by decide) (v := 0) (by decide)) lk_902 rfl rfl (by decide) (by assumption) (by assumption) ⟨Nat.le_of_ble_eq_true rfl, Nat.le_of_ble_eq_true rfl⟩ ⟨Nat.le_refl _, Nat.le_refl _⟩ rfl (Nat.le_of_ble_eq_true rfl) dX8_rows_49 rfl ?_
      rintro z49 F49 A49 ⟨ez49, V49, hS49, v49, k49, g49⟩
      obtain rfl := ez49.symm
      replace hS49 : St 228 V49 F49 A49 := hS49
      have t49_wr2_17 : tr V49 205 = wr2_17 := (tr_keep (by decide) k49).trans t37_wr2_17
      have t49_wr2_30 : tr V49 223 = wr2_30 := (tr_keep (by decide) k49).trans t37_wr2_30
      have t49_o37 : V49 226 = 1 := (k49 226 (by decide)).trans v37
      refine x_iload (pc2 := 54) hC rfl dX8_rows_52 rfl ?_
      refine x_cVi (pc2 := 57) (ci := 8) hC hK (n_triple l hM hS49 (by decide) (x := 207) (y := 227) (w := 226) ⟨by decide, by decide⟩ ⟨by decide, by decide⟩ ⟨by decide, by decide⟩) lk_911 rfl rfl (by decide) (by assumption) (by assumption) ⟨Nat.le_of_ble_eq_true rfl, Nat.le_of_ble_eq_true rfl⟩ ⟨Nat.le_refl _, Nat.le_refl _⟩ rfl (Nat.le_of_ble_eq_true rfl) dX8_rows_54 rfl ?_
      rintro z54 F54 A54 ⟨ez54, V54, hS54, v54, k54, g54⟩
      obtain rfl := ez54.symm
      replace v54 : tr V54 228 = ((wr2_17.2.2, 0, 1) : T3) := Prod.ext (v54.1.trans (congrArg (fun q => q.2.2) t49_wr2_17)) (Prod.ext (v54.2.1.trans v49) (v54.2.2.trans t49_o37))
      replace hS54 : St 231 V54 F54 A54 := hS54
      have t54_wr2_17 : tr V54 205 = wr2_17 := (tr_keep (by decide) k54).trans t49_wr2_17
      have t54_wr2_30 : tr V54 223 = wr2_30 := (tr_keep (by decide) k54).trans t49_wr2_30
      have t54_o37 : V54 226 = 1 := (k54 226 (by decide)).trans t49_o37
      have t54_o49 : V54 227 = 0 := (k54 227 (by decide)).trans v49
      obtain ⟨wr2_54, ewr2_54⟩ : ∃ w : T3, w = ((wr2_17.2.2, 0, 1) : T3) := ⟨_, rfl⟩
      have uwr2_54 : tr V54 228 = wr2_54 := by rw [ewr2_54]; exact v54
      have bwr2_54 : bdt 25 1 wr2_54 := by rw [ewr2_54]; exact ⟨bwr2_17.2.2, (show bd 25 0 by unfold bd; decide), (show bd 1 1 by unfold bd; decide)⟩
      clear v54
      refine x_istore (pc2 := 59) (loc2 := [_, _, _, _, _, _, _, _, _, _, _, _]) hC (by decide) rfl dX8_rows_57 rfl ?_
      refine x_aload_n (pc2 := 60) hC rfl rfl dX8_rows_59 rfl ?_
      refine x_iload (pc2 := 62) hC rfl dX8_rows_60 rfl ?_
      refine x_iconst (pc2 := 63) hC dX8_rows_62 rfl ?_
      refine x_iadd (pc2 := 64) hC dX8_rows_63 rfl ?_
      refine x_aload_n (pc2 := 65) hC rfl rfl dX8_rows_64 rfl ?_
      refine x_lconst0 (pc2 := 66) hC dX8_rows_65 rfl ?_
      refine x_cVi (pc2 := 69) (ci := 8) hC hK (n_of l hM hS54 (by decide) (v := 0) (by decide)) lk_902 rfl rfl (by decide) (by assumption) (by assumption) ⟨Nat.le_of_ble_eq_true rfl, Nat.le_of_ble_eq_true rfl⟩ ⟨Nat.le_refl _, Nat.le_refl _⟩ rfl (Nat.le_of_ble_eq_true rfl) dX8_rows_66 rfl ?_
      rintro z66 F66 A66 ⟨ez66, V66, hS66, v66, k66, g66⟩
      obtain rfl := ez66.symm
      replace hS66 : St 232 V66 F66 A66 := hS66
      have t66_wr2_17 : tr V66 205 = wr2_17 := (tr_keep (by decide) k66).trans t54_wr2_17
      have t66_wr2_30 : tr V66 223 = wr2_30 := (tr_keep (by decide) k66).trans t54_wr2_30
      have t66_wr2_54 : tr V66 228 = wr2_54 := (tr_keep (by decide) k66).trans uwr2_54
      have t66_o37 : V66 226 = 1 := (k66 226 (by decide)).trans t54_o37
      have t66_o49 : V66 227 = 0 := (k66 227 (by decide)).trans t54_o49
      refine x_iload (pc2 := 71) hC rfl dX8_rows_69 rfl ?_
      refine x_cVi (pc2 := 74) (ci := 8) hC hK (n_triple l hM hS66 (by decide) (x := 225) (y := 231) (w := 226) ⟨by decide, by decide⟩ ⟨by decide, by decide⟩ ⟨by decide, by decide⟩) lk_911 rfl rfl (by decide) (by assumption) (by assumption) ⟨Nat.le_of_ble_eq_true rfl, Nat.le_of_ble_eq_true rfl⟩ ⟨Nat.le_refl _, Nat.le_refl _⟩ rfl (Nat.le_of_ble_eq_true rfl) dX8_rows_71 rfl ?_
      rintro z71 F71 A71 ⟨ez71, V71, hS71, v71, k71, g71⟩
      obtain rfl := ez71.symm
      replace v71 : tr V71 232 = ((wr2_30.2.2, 0, 1) : T3) := Prod.ext (v71.1.trans (congrArg (fun q => q.2.2) t66_wr2_30)) (Prod.ext (v71.2.1.trans v66) (v71.2.2.trans t66_o37))
      replace hS71 : St 235 V71 F71 A71 := hS71
      have t71_wr2_17 : tr V71 205 = wr2_17 := (tr_keep (by decide) k71).trans t66_wr2_17
      have t71_wr2_30 : tr V71 223 = wr2_30 := (tr_keep (by decide) k71).trans t66_wr2_30
      have t71_wr2_54 : tr V71 228 = wr2_54 := (tr_keep (by decide) k71).trans t66_wr2_54
      have t71_o37 : V71 226 = 1 := (k71 226 (by decide)).trans t66_o37
      have t71_o49 : V71 227 = 0 := (k71 227 (by decide)).trans t66_o49
      have t71_o66 : V71 231 = 0 := (k71 231 (by decide)).trans v66
      obtain ⟨wr2_71, ewr2_71⟩ : ∃ w : T3, w = ((wr2_30.2.2, 0, 1) : T3) := ⟨_, rfl⟩
      have uwr2_71 : tr V71 232 = wr2_71 := by rw [ewr2_71]; exact v71
      have bwr2_71 : bdt 25 1 wr2_71 := by rw [ewr2_71]; exact ⟨bwr2_30.2.2, (show bd 25 0 by unfold bd; decide), (show bd 1 1 by unfold bd; decide)⟩
      clear v71
      refine x_istore (pc2 := 76) (loc2 := [_, _, _, _, _, _, _, _, _, _, _, _]) hC (by decide) rfl dX8_rows_74 rfl ?_
      refine x_aload_n (pc2 := 77) hC rfl rfl dX8_rows_76 rfl ?_
      refine x_iload (pc2 := 79) hC rfl dX8_rows_77 rfl ?_
      refine x_iload (pc2 := 81) hC rfl dX8_rows_79 rfl ?_
      refine x_iconst (pc2 := 82) hC dX8_rows_81 rfl ?_
      refine x_iadd (pc2 := 83) hC dX8_rows_82 rfl ?_
      refine x_iload (pc2 := 85) hC rfl dX8_rows_83 rfl ?_
      refine x_cVi (pc2 := 88) (ci := 8) hC hK (n_triple l hM hS71 (by decide) (x := 205) (y := 206) (w := 226) ⟨by decide, by decide⟩ ⟨by decide, by decide⟩ ⟨by decide, by decide⟩) lk_911 rfl rfl (by decide) (by assumption) (by assumption) ⟨Nat.le_of_ble_eq_true rfl, Nat.le_of_ble_eq_true rfl⟩ ⟨Nat.le_refl _, Nat.le_refl _⟩ rfl (Nat.le_of_ble_eq_true rfl) dX8_rows_85 rfl ?_
      rintro z85 F85 A85 ⟨ez85, V85, hS85, v85, k85, g85⟩
      obtain rfl := ez85.symm
      replace v85 : tr V85 235 = ((wr2_17.1, wr2_17.2.1, 1) : T3) := Prod.ext (v85.1.trans (congrArg (fun q => q.1) t71_wr2_17)) (Prod.ext (v85.2.1.trans (congrArg (fun q => q.2.1) t71_wr2_17)) (v85.2.2.trans t71_o37))
      replace hS85 : St 238 V85 F85 A85 := hS85
      have t85_wr2_17 : tr V85 205 = wr2_17 := (tr_keep (by decide) k85).trans t71_wr2_17
      have t85_wr2_30 : tr V85 223 = wr2_30 := (tr_keep (by decide) k85).trans t71_wr2_30
      have t85_wr2_54 : tr V85 228 = wr2_54 := (tr_keep (by decide) k85).trans t71_wr2_54
      have t85_wr2_71 : tr V85 232 = wr2_71 := (tr_keep (by decide) k85).trans uwr2_71
      have t85_o37 : V85 226 = 1 := (k85 226 (by decide)).trans t71_o37
      have t85_o49 : V85 227 = 0 := (k85 227 (by decide)).trans t71_o49
      have t85_o66 : V85 231 = 0 := (k85 231 (by decide)).trans t71_o66
      obtain ⟨wr2_85, ewr2_85⟩ : ∃ w : T3, w = ((wr2_17.1, wr2_17.2.1, 1) : T3) := ⟨_, rfl⟩
      have uwr2_85 : tr V85 235 = wr2_85 := by rw [ewr2_85]; exact v85
      have bwr2_85 : bdt 25 1 wr2_85 := by rw [ewr2_85]; exact ⟨bwr2_17.1, bwr2_17.2.1, (show bd 1 1 by unfold bd; decide)⟩
      clear v85
      refine x_istore (pc2 := 90) (loc2 := [_, _, _, _, _, _, _, _, _, _, _, _]) hC (by decide) rfl dX8_rows_88 rfl ?_
      refine x_aload_n (pc2 := 91) hC rfl rfl dX8_rows_90 rfl ?_
      refine x_iload (pc2 := 93) hC rfl dX8_rows_91 rfl ?_
      refine x_iload (pc2 := 95) hC rfl dX8_rows_93 rfl ?_
      refine x_iconst (pc2 := 96) hC dX8_rows_95 rfl ?_
      refine x_iadd (pc2 := 97) hC dX8_rows_96 rfl ?_
      refine x_iload (pc2 := 99) hC rfl dX8_rows_97 rfl ?_
      refine x_cVi (pc2 := 102) (ci := 8) hC hK (n_triple l hM hS85 (by decide) (x := 223) (y := 224) (w := 226) ⟨by decide, by decide⟩ ⟨by decide, by decide⟩ ⟨by decide, by decide⟩) lk_911 rfl rfl (by decide) (by assumption) (by assumption) ⟨Nat.le_of_ble_eq_true rfl, Nat.le_of_ble_eq_true rfl⟩ ⟨Nat.le_refl _, Nat.le_refl _⟩ rfl (Nat.le_of_ble_eq_true rfl) dX8_rows_99 rfl ?_
      rintro z99 F99 A99 ⟨ez99, V99, hS99, v99, k99, g99⟩
      obtain rfl := ez99.symm
      replace v99 : tr V99 238 = ((wr2_30.1, wr2_30.2.1, 1) : T3) := Prod.ext (v99.1.trans (congrArg (fun q => q.1) t85_wr2_30)) (Prod.ext (v99.2.1.trans (congrArg (fun q => q.2.1) t85_wr2_30)) (v99.2.2.trans t85_o37))
      replace hS99 : St 241 V99 F99 A99 := hS99
      have t99_wr2_17 : tr V99 205 = wr2_17 := (tr_keep (by decide) k99).trans t85_wr2_17
      have t99_wr2_30 : tr V99 223 = wr2_30 := (tr_keep (by decide) k99).trans t85_wr2_30
      have t99_wr2_54 : tr V99 228 = wr2_54 := (tr_keep (by decide) k99).trans t85_wr2_54
      have t99_wr2_71 : tr V99 232 = wr2_71 := (tr_keep (by decide) k99).trans t85_wr2_71
      have t99_wr2_85 : tr V99 235 = wr2_85 := (tr_keep (by decide) k99).trans uwr2_85
      have t99_o37 : V99 226 = 1 := (k99 226 (by decide)).trans t85_o37
      have t99_o49 : V99 227 = 0 := (k99 227 (by decide)).trans t85_o49
      have t99_o66 : V99 231 = 0 := (k99 231 (by decide)).trans t85_o66
      obtain ⟨wr2_99, ewr2_99⟩ : ∃ w : T3, w = ((wr2_30.1, wr2_30.2.1, 1) : T3) := ⟨_, rfl⟩
      have uwr2_99 : tr V99 238 = wr2_99 := by rw [ewr2_99]; exact v99
      have bwr2_99 : bdt 25 1 wr2_99 := by rw [ewr2_99]; exact ⟨bwr2_30.1, bwr2_30.2.1, (show bd 1 1 by unfold bd; decide)⟩
      clear v99
      refine x_istore (pc2 := 104) (loc2 := [_, _, _, _, _, _, _, _, _, _, _, _]) hC (by decide) rfl dX8_rows_102 rfl ?_
      refine x_aload_n (pc2 := 105) hC rfl rfl dX8_rows_104 rfl ?_
      refine g_827 (pc2 := 108) hC hK (by assumption) (by assumption) (by assumption) dX8_rows_105 rfl ?_
      refine x_iconst (pc2 := 109) hC dX8_rows_108 rfl ?_
      refine x_iload (pc2 := 111) hC rfl dX8_rows_109 rfl ?_
      refine x_imul (pc2 := 112) hC dX8_rows_111 rfl ?_
      refine x_aload_n (pc2 := 113) hC rfl rfl dX8_rows_112 rfl ?_
      refine x_iload (pc2 := 115) hC rfl dX8_rows_113 rfl ?_
      refine x_iload (pc2 := 117) hC rfl dX8_rows_115 rfl ?_
      refine x_cVi (pc2 := 120) (ci := 8) hC hK (t_product l hM hS99 (x := 228) (y := 232) ⟨by decide, by decide⟩ ⟨by decide, by decide⟩ t99_wr2_54 t99_wr2_71 bwr2_54 bwr2_71 (by decide) ⟨by decide, by decide⟩) lk_1004 rfl rfl (by decide) (by assumption) (by assumption) ⟨Nat.le_of_ble_eq_true rfl, Nat.le_of_ble_eq_true rfl⟩ ⟨Nat.le_refl _, Nat.le_refl _⟩ rfl (Nat.le_of_ble_eq_true rfl) dX8_rows_117 rfl ?_
      rintro z117 F117 A117 ⟨ez117, V117, hS117, v117, k117, g117⟩
      obtain rfl := ez117.symm
      replace hS117 : St 252 V117 F117 A117 := hS117
      have t117_wr2_17 : tr V117 205 = wr2_17 := (tr_keep (by decide) k117).trans t99_wr2_17
      have t117_wr2_30 : tr V117 223 = wr2_30 := (tr_keep (by decide) k117).trans t99_wr2_30
      have t117_wr2_54 : tr V117 228 = wr2_54 := (tr_keep (by decide) k117).trans t99_wr2_54
      have t117_wr2_71 : tr V117 232 = wr2_71 := (tr_keep (by decide) k117).trans t99_wr2_71
      have t117_wr2_85 : tr V117 235 = wr2_85 := (tr_keep (by decide) k117).trans t99_wr2_85
      have t117_wr2_99 : tr V117 238 = wr2_99 := (tr_keep (by decide) k117).trans uwr2_99
      have t117_o37 : V117 226 = 1 := (k117 226 (by decide)).trans t99_o37
      have t117_o49 : V117 227 = 0 := (k117 227 (by decide)).trans t99_o49
      have t117_o66 : V117 231 = 0 := (k117 231 (by decide)).trans t99_o66
      rw [show (241 : Int) + 8 = 249 from rfl]
      obtain ⟨wr2_117, ewr2_117⟩ : ∃ w : T3, w = tmul wr2_54 wr2_71 := ⟨_, rfl⟩
      have uwr2_117 : tr V117 249 = wr2_117 := by rw [ewr2_117]; exact v117
      have bwr2_117 : bdt 51 2 wr2_117 := by rw [ewr2_117]; exact (bdt_mul bwr2_54 bwr2_71 (by decide) (by decide))
      clear v117
      refine x_iast (pc2 := 121) hC hK (by assumption) (by assumption) (by omega) (by decide) dX8_rows_120 rfl ?_
      refine x_aload_n (pc2 := 122) hC rfl rfl dX8_rows_121 rfl ?_
      refine g_827 (pc2 := 125) hC hK (by assumption) (by assumption) (by assumption) dX8_rows_122 rfl ?_
      refine x_iconst (pc2 := 126) hC dX8_rows_125 rfl ?_
      refine x_iload (pc2 := 128) hC rfl dX8_rows_126 rfl ?_
      refine x_imul (pc2 := 129) hC dX8_rows_128 rfl ?_
      refine x_iconst (pc2 := 130) hC dX8_rows_129 rfl ?_
      refine x_iadd (pc2 := 131) hC dX8_rows_130 rfl ?_
      refine x_aload_n (pc2 := 132) hC rfl rfl dX8_rows_131 rfl ?_
      refine x_iload (pc2 := 134) hC rfl dX8_rows_132 rfl ?_
      refine x_iload (pc2 := 136) hC rfl dX8_rows_134 rfl ?_
      refine x_cVi (pc2 := 139) (ci := 8) hC hK (t_product l hM (hS117.w11) (x := 235) (y := 232) ⟨by decide, by decide⟩ ⟨by decide, by decide⟩ t117_wr2_85 t117_wr2_71 bwr2_85 bwr2_71 (by decide) ⟨by decide, by decide⟩) lk_1004 rfl rfl (by decide) (by assumption) (by assumption) ⟨Nat.le_of_ble_eq_true rfl, Nat.le_of_ble_eq_true rfl⟩ ⟨Nat.le_refl _, Nat.le_refl _⟩ rfl (Nat.le_of_ble_eq_true rfl) dX8_rows_136 rfl ?_
      rintro z136 F136 A136 ⟨ez136, V136, hS136, v136, k136, g136⟩
      obtain rfl := ez136.symm
      replace hS136 : St 263 V136 F136 A136 := hS136
      have t136_wr2_17 : tr V136 205 = wr2_17 := (tr_keep (by decide) k136).trans t117_wr2_17
      have t136_wr2_30 : tr V136 223 = wr2_30 := (tr_keep (by decide) k136).trans t117_wr2_30
      have t136_wr2_54 : tr V136 228 = wr2_54 := (tr_keep (by decide) k136).trans t117_wr2_54
      have t136_wr2_71 : tr V136 232 = wr2_71 := (tr_keep (by decide) k136).trans t117_wr2_71
      have t136_wr2_85 : tr V136 235 = wr2_85 := (tr_keep (by decide) k136).trans t117_wr2_85
      have t136_wr2_99 : tr V136 238 = wr2_99 := (tr_keep (by decide) k136).trans t117_wr2_99
      have t136_wr2_117 : tr V136 249 = wr2_117 := (tr_keep (by decide) k136).trans uwr2_117
      have t136_o37 : V136 226 = 1 := (k136 226 (by decide)).trans t117_o37
      have t136_o49 : V136 227 = 0 := (k136 227 (by decide)).trans t117_o49
      have t136_o66 : V136 231 = 0 := (k136 231 (by decide)).trans t117_o66
      rw [show (252 : Int) + 8 = 260 from rfl]
      obtain ⟨wr2_136, ewr2_136⟩ : ∃ w : T3, w = tmul wr2_85 wr2_71 := ⟨_, rfl⟩
      have uwr2_136 : tr V136 260 = wr2_136 := by rw [ewr2_136]; exact v136
      have bwr2_136 : bdt 51 2 wr2_136 := by rw [ewr2_136]; exact (bdt_mul bwr2_85 bwr2_71 (by decide) (by decide))
      clear v136
      refine x_iast (pc2 := 140) hC hK (by assumption) (by assumption) (by omega) (by decide) dX8_rows_139 rfl ?_
      refine x_aload_n (pc2 := 141) hC rfl rfl dX8_rows_140 rfl ?_
      refine g_827 (pc2 := 144) hC hK (by assumption) (by assumption) (by assumption) dX8_rows_141 rfl ?_
      refine x_iconst (pc2 := 145) hC dX8_rows_144 rfl ?_
      refine x_iload (pc2 := 147) hC rfl dX8_rows_145 rfl ?_
      refine x_imul (pc2 := 148) hC dX8_rows_147 rfl ?_
      refine x_iconst (pc2 := 149) hC dX8_rows_148 rfl ?_
      refine x_iadd (pc2 := 150) hC dX8_rows_149 rfl ?_
      refine x_aload_n (pc2 := 151) hC rfl rfl dX8_rows_150 rfl ?_
      refine x_iload (pc2 := 153) hC rfl dX8_rows_151 rfl ?_
      refine x_iload (pc2 := 155) hC rfl dX8_rows_153 rfl ?_
      refine x_cVi (pc2 := 158) (ci := 8) hC hK (t_product l hM (hS136.w11) (x := 238) (y := 235) ⟨by decide, by decide⟩ ⟨by decide, by decide⟩ t136_wr2_99 t136_wr2_85 bwr2_99 bwr2_85 (by decide) ⟨by decide, by decide⟩) lk_1004 rfl rfl (by decide) (by assumption) (by assumption) ⟨Nat.le_of_ble_eq_true rfl, Nat.le_of_ble_eq_true rfl⟩ ⟨Nat.le_refl _, Nat.le_refl _⟩ rfl (Nat.le_of_ble_eq_true rfl) dX8_rows_155 rfl ?_
      rintro z155 F155 A155 ⟨ez155, V155, hS155, v155, k155, g155⟩
      obtain rfl := ez155.symm
      replace hS155 : St 274 V155 F155 A155 := hS155
      have t155_wr2_17 : tr V155 205 = wr2_17 := (tr_keep (by decide) k155).trans t136_wr2_17
      have t155_wr2_30 : tr V155 223 = wr2_30 := (tr_keep (by decide) k155).trans t136_wr2_30
      have t155_wr2_54 : tr V155 228 = wr2_54 := (tr_keep (by decide) k155).trans t136_wr2_54
      have t155_wr2_71 : tr V155 232 = wr2_71 := (tr_keep (by decide) k155).trans t136_wr2_71
      have t155_wr2_85 : tr V155 235 = wr2_85 := (tr_keep (by decide) k155).trans t136_wr2_85
      have t155_wr2_99 : tr V155 238 = wr2_99 := (tr_keep (by decide) k155).trans t136_wr2_99
      have t155_wr2_117 : tr V155 249 = wr2_117 := (tr_keep (by decide) k155).trans t136_wr2_117
      have t155_wr2_136 : tr V155 260 = wr2_136 := (tr_keep (by decide) k155).trans uwr2_136
      have t155_o37 : V155 226 = 1 := (k155 226 (by decide)).trans t136_o37
      have t155_o49 : V155 227 = 0 := (k155 227 (by decide)).trans t136_o49
      have t155_o66 : V155 231 = 0 := (k155 231 (by decide)).trans t136_o66
      rw [show (263 : Int) + 8 = 271 from rfl]
      obtain ⟨wr2_155, ewr2_155⟩ : ∃ w : T3, w = tmul wr2_99 wr2_85 := ⟨_, rfl⟩
      have uwr2_155 : tr V155 271 = wr2_155 := by rw [ewr2_155]; exact v155
      have bwr2_155 : bdt 51 2 wr2_155 := by rw [ewr2_155]; exact (bdt_mul bwr2_99 bwr2_85 (by decide) (by decide))
      clear v155
      refine x_iast (pc2 := 159) hC hK (by assumption) (by assumption) (by omega) (by decide) dX8_rows_158 rfl ?_
      refine x_aload_n (pc2 := 160) hC rfl rfl dX8_rows_159 rfl ?_
      refine g_827 (pc2 := 163) hC hK (by assumption) (by assumption) (by assumption) dX8_rows_160 rfl ?_
      refine x_iconst (pc2 := 164) hC dX8_rows_163 rfl ?_
      refine x_iload (pc2 := 166) hC rfl dX8_rows_164 rfl ?_
      refine x_imul (pc2 := 167) hC dX8_rows_166 rfl ?_
      refine x_iconst (pc2 := 168) hC dX8_rows_167 rfl ?_
      refine x_iadd (pc2 := 169) hC dX8_rows_168 rfl ?_
      refine x_aload_n (pc2 := 170) hC rfl rfl dX8_rows_169 rfl ?_
      refine x_iload (pc2 := 172) hC rfl dX8_rows_170 rfl ?_
      refine x_iload (pc2 := 174) hC rfl dX8_rows_172 rfl ?_
      refine x_cVi (pc2 := 177) (ci := 8) hC hK (t_product l hM (hS155.w11) (x := 238) (y := 228) ⟨by decide, by decide⟩ ⟨by decide, by decide⟩ t155_wr2_99 t155_wr2_54 bwr2_99 bwr2_54 (by decide) ⟨by decide, by decide⟩) lk_1004 rfl rfl (by decide) (by assumption) (by assumption) ⟨Nat.le_of_ble_eq_true rfl, Nat.le_of_ble_eq_true rfl⟩ ⟨Nat.le_refl _, Nat.le_refl _⟩ rfl (Nat.le_of_ble_eq_true rfl) dX8_rows_174 rfl ?_
      rintro z174 F174 A174 ⟨ez174, V174, hS174, v174, k174, g174⟩
      obtain rfl := ez174.symm
      replace hS174 : St 285 V174 F174 A174 := hS174
      have t174_wr2_17 : tr V174 205 = wr2_17 := (tr_keep (by decide) k174).trans t155_wr2_17
      have t174_wr2_30 : tr V174 223 = wr2_30 := (tr_keep (by decide) k174).trans t155_wr2_30
      have t174_wr2_54 : tr V174 228 = wr2_54 := (tr_keep (by decide) k174).trans t155_wr2_54
      have t174_wr2_71 : tr V174 232 = wr2_71 := (tr_keep (by decide) k174).trans t155_wr2_71
      have t174_wr2_85 : tr V174 235 = wr2_85 := (tr_keep (by decide) k174).trans t155_wr2_85
      have t174_wr2_99 : tr V174 238 = wr2_99 := (tr_keep (by decide) k174).trans t155_wr2_99
      have t174_wr2_117 : tr V174 249 = wr2_117 := (tr_keep (by decide) k174).trans t155_wr2_117
      have t174_wr2_136 : tr V174 260 = wr2_136 := (tr_keep (by decide) k174).trans t155_wr2_136
      have t174_wr2_155 : tr V174 271 = wr2_155 := (tr_keep (by decide) k174).trans uwr2_155
      have t174_o37 : V174 226 = 1 := (k174 226 (by decide)).trans t155_o37
      have t174_o49 : V174 227 = 0 := (k174 227 (by decide)).trans t155_o49
      have t174_o66 : V174 231 = 0 := (k174 231 (by decide)).trans t155_o66
      rw [show (274 : Int) + 8 = 282 from rfl]
      obtain ⟨wr2_174, ewr2_174⟩ : ∃ w : T3, w = tmul wr2_99 wr2_54 := ⟨_, rfl⟩
      have uwr2_174 : tr V174 282 = wr2_174 := by rw [ewr2_174]; exact v174
      have bwr2_174 : bdt 51 2 wr2_174 := by rw [ewr2_174]; exact (bdt_mul bwr2_99 bwr2_54 (by decide) (by decide))
      clear v174
      refine x_iast (pc2 := 178) hC hK (by assumption) (by assumption) (by omega) (by decide) dX8_rows_177 rfl ?_
      refine x_iinc (pc2 := 181) (loc2 := [_, _, _, _, _, _, _, _, _, _, _, _]) hC (by decide) rfl rfl dX8_rows_178 rfl ?_
      refine x_goto (pc2 := 3) hC dX8_rows_181 rfl ?_
      refine next _ _ V174 _ _ _ _ _ _ _ hS174.w11 ((((((((hL.tr ((((((((((g17.tr g30).tr g37).tr g49).tr g54).tr g66).tr g71).tr g85).tr g99).tr g117)).L).w).tr g136.L).w).tr g155.L).w).tr g174.L).w) (RowsN.add (i := 2) hrw (fun j hj => ((uA_ni (by omega)).trans ((congrFun (g174.a (show 11 = 1 ∨ 11 = 2 ∨ 11 = 3 ∨ 11 = 10 ∨ 11 = 11 by decide)) _).trans ((uA_ni (by omega)).trans ((congrFun (g155.a (show 11 = 1 ∨ 11 = 2 ∨ 11 = 3 ∨ 11 = 10 ∨ 11 = 11 by decide)) _).trans ((uA_ni (by omega)).trans ((congrFun (g136.a (show 11 = 1 ∨ 11 = 2 ∨ 11 = 3 ∨ 11 = 10 ∨ 11 = 11 by decide)) _).trans ((uA_ni (by omega)).trans (congrFun (((((((((((g17.tr g30).tr g37).tr g49).tr g54).tr g66).tr g71).tr g85).tr g99).tr g117)).a (show 11 = 1 ∨ 11 = 2 ∨ 11 = 3 ∨ 11 = 10 ∨ 11 = 11 by decide)) _))))))))) (fun u hu => (k174 u (by omega)).trans ((k155 u (by omega)).trans ((k136 u (by omega)).trans ((k117 u (by omega)).trans ((k99 u (by omega)).trans ((k85 u (by omega)).trans ((k71 u (by omega)).trans ((k66 u (by omega)).trans ((k54 u (by omega)).trans ((k49 u (by omega)).trans ((k37 u (by omega)).trans ((k30 u (by omega)).trans (k17 u (by omega)))))))))))))) (fun j hj => ?_))
      rcases (show j = 0 ∨ j = 1 ∨ j = 2 ∨ j = 3 by omega) with rfl | rfl | rfl | rfl
      · exact ⟨((uA_ni (by decide)).trans ((congrFun (g174.a (show 11 = 1 ∨ 11 = 2 ∨ 11 = 3 ∨ 11 = 10 ∨ 11 = 11 by decide)) _).trans ((uA_ni (by decide)).trans ((congrFun (g155.a (show 11 = 1 ∨ 11 = 2 ∨ 11 = 3 ∨ 11 = 10 ∨ 11 = 11 by decide)) _).trans ((uA_ni (by decide)).trans ((congrFun (g136.a (show 11 = 1 ∨ 11 = 2 ∨ 11 = 3 ∨ 11 = 10 ∨ 11 = 11 by decide)) _).trans uA_eq)))))), (show tr V174 249 = _ from t174_wr2_117).trans (by rw [ewr2_117, ewr2_54, ewr2_71, ewr2_17, ewr2_30]; rfl), by have := bwr2_117; rw [ewr2_117, ewr2_54, ewr2_71, ewr2_17, ewr2_30] at this; exact this⟩
      · exact ⟨((uA_ni (by decide)).trans ((congrFun (g174.a (show 11 = 1 ∨ 11 = 2 ∨ 11 = 3 ∨ 11 = 10 ∨ 11 = 11 by decide)) _).trans ((uA_ni (by decide)).trans ((congrFun (g155.a (show 11 = 1 ∨ 11 = 2 ∨ 11 = 3 ∨ 11 = 10 ∨ 11 = 11 by decide)) _).trans uA_eq)))), (show tr V174 260 = _ from t174_wr2_136).trans (by rw [ewr2_136, ewr2_85, ewr2_71, ewr2_17, ewr2_30]; rfl), by have := bwr2_136; rw [ewr2_136, ewr2_85, ewr2_71, ewr2_17, ewr2_30] at this; exact this⟩
      · exact ⟨((uA_ni (by decide)).trans ((congrFun (g174.a (show 11 = 1 ∨ 11 = 2 ∨ 11 = 3 ∨ 11 = 10 ∨ 11 = 11 by decide)) _).trans uA_eq)), (show tr V174 271 = _ from t174_wr2_155).trans (by rw [ewr2_155, ewr2_99, ewr2_85, ewr2_17, ewr2_30]; rfl), by have := bwr2_155; rw [ewr2_155, ewr2_99, ewr2_85, ewr2_17, ewr2_30] at this; exact this⟩
      · exact ⟨uA_eq, (show tr V174 282 = _ from uwr2_174).trans (by rw [ewr2_174, ewr2_99, ewr2_54, ewr2_17, ewr2_30]; rfl), by have := bwr2_174; rw [ewr2_174, ewr2_99, ewr2_54, ewr2_17, ewr2_30] at this; exact this⟩
  refine x_iconst (pc2 := 1) hC dX8_rows_0 rfl ?_
  refine x_istore (pc2 := 3) (loc2 := [_, _, _, _, _, _, _, _, _, _, _, _]) hC (by decide) rfl dX8_rows_1 rfl ?_
  refine body0 F A V _ _ _ _ _ _ _ hS FrL.rf (fun j hj => by omega) (fun F1 A1 V1 x0 x1 x2 x3 x4 x5 x6 hS1 hL1 hr1 => ?_)
  refine body1 F1 A1 V1 _ _ _ _ _ _ _ hS1 hL1 hr1 (fun F2 A2 V2 y0 y1 y2 y3 y4 y5 y6 hS2 hL2 hr2 => ?_)
  refine body2 F2 A2 V2 _ _ _ _ _ _ _ hS2 hL2 hr2 (fun F3 A3 V3 z0 z1 z2 z3 z4 z5 z6 hS3 hL3 hr3 => ?_)
  refine x_iload (pc2 := 5) hC rfl dX8_rows_3 rfl ?_
  refine x_iconst (pc2 := 6) hC dX8_rows_5 rfl ?_
  refine x_icmp_ge (tgt := 184) (pc2 := 9) hC (by omega) (by omega) dX8_rows_6 rfl rfl (fun h_6 => ?_) (fun h_6 => ?_)
  · exact x_vret hC hr hlk ⟨rfl, V3, hS3, hr3, hL3⟩ dX8_rows_184
  · exact absurd h_6 (by decide)
