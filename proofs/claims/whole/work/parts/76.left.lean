theorem dX8_leftOver_0 : decode cX8_leftOver 0 = .ok (.aload_n 0, 1) := by decide +kernel
theorem dX8_leftOver_1 : decode cX8_leftOver 1 = .ok (.aload_n 0, 1) := by decide +kernel
theorem dX8_leftOver_2 : decode cX8_leftOver 2 = .ok (.iload_n 2, 1) := by decide +kernel
theorem dX8_leftOver_3 : decode cX8_leftOver 3 = .ok (.iload_n 3, 1) := by decide +kernel
theorem dX8_leftOver_4 : decode cX8_leftOver 4 = .ok (.iconst 1, 1) := by decide +kernel
theorem dX8_leftOver_5 : decode cX8_leftOver 5 = .ok (.iload 4, 2) := by decide +kernel
theorem dX8_leftOver_7 : decode cX8_leftOver 7 = .ok (.isub, 1) := by decide +kernel
theorem dX8_leftOver_8 : decode cX8_leftOver 8 = .ok (.iconst 1, 1) := by decide +kernel
theorem dX8_leftOver_9 : decode cX8_leftOver 9 = .ok (.iload 4, 2) := by decide +kernel
theorem dX8_leftOver_11 : decode cX8_leftOver 11 = .ok (.isub, 1) := by decide +kernel
theorem dX8_leftOver_12 : decode cX8_leftOver 12 = .ok (.invokevirtual 200, 3) := by decide +kernel
theorem dX8_leftOver_15 : decode cX8_leftOver 15 = .ok (.aload_n 0, 1) := by decide +kernel
theorem dX8_leftOver_16 : decode cX8_leftOver 16 = .ok (.aload_n 0, 1) := by decide +kernel
theorem dX8_leftOver_17 : decode cX8_leftOver 17 = .ok (.iload_n 1, 1) := by decide +kernel
theorem dX8_leftOver_18 : decode cX8_leftOver 18 = .ok (.iload_n 3, 1) := by decide +kernel
theorem dX8_leftOver_19 : decode cX8_leftOver 19 = .ok (.iload 4, 2) := by decide +kernel
theorem dX8_leftOver_21 : decode cX8_leftOver 21 = .ok (.iload 4, 2) := by decide +kernel
theorem dX8_leftOver_23 : decode cX8_leftOver 23 = .ok (.invokevirtual 200, 3) := by decide +kernel
theorem dX8_leftOver_26 : decode cX8_leftOver 26 = .ok (.aload_n 0, 1) := by decide +kernel
theorem dX8_leftOver_27 : decode cX8_leftOver 27 = .ok (.iload_n 2, 1) := by decide +kernel
theorem dX8_leftOver_28 : decode cX8_leftOver 28 = .ok (.iload_n 3, 1) := by decide +kernel
theorem dX8_leftOver_29 : decode cX8_leftOver 29 = .ok (.iload 4, 2) := by decide +kernel
theorem dX8_leftOver_31 : decode cX8_leftOver 31 = .ok (.iload 4, 2) := by decide +kernel
theorem dX8_leftOver_33 : decode cX8_leftOver 33 = .ok (.invokevirtual 200, 3) := by decide +kernel
theorem dX8_leftOver_36 : decode cX8_leftOver 36 = .ok (.invokevirtual 203, 3) := by decide +kernel
theorem dX8_leftOver_39 : decode cX8_leftOver 39 = .ok (.invokevirtual 118, 3) := by decide +kernel
theorem dX8_leftOver_42 : decode cX8_leftOver 42 = .ok (.istore 5, 2) := by decide +kernel
theorem dX8_leftOver_44 : decode cX8_leftOver 44 = .ok (.aload_n 0, 1) := by decide +kernel
theorem dX8_leftOver_45 : decode cX8_leftOver 45 = .ok (.iload 5, 2) := by decide +kernel
theorem dX8_leftOver_47 : decode cX8_leftOver 47 = .ok (.aload_n 0, 1) := by decide +kernel
theorem dX8_leftOver_48 : decode cX8_leftOver 48 = .ok (.aload_n 0, 1) := by decide +kernel
theorem dX8_leftOver_49 : decode cX8_leftOver 49 = .ok (.iload_n 2, 1) := by decide +kernel
theorem dX8_leftOver_50 : decode cX8_leftOver 50 = .ok (.iload_n 3, 1) := by decide +kernel
theorem dX8_leftOver_51 : decode cX8_leftOver 51 = .ok (.iload 4, 2) := by decide +kernel
theorem dX8_leftOver_53 : decode cX8_leftOver 53 = .ok (.iconst 1, 1) := by decide +kernel
theorem dX8_leftOver_54 : decode cX8_leftOver 54 = .ok (.iload 4, 2) := by decide +kernel
theorem dX8_leftOver_56 : decode cX8_leftOver 56 = .ok (.isub, 1) := by decide +kernel
theorem dX8_leftOver_57 : decode cX8_leftOver 57 = .ok (.invokevirtual 200, 3) := by decide +kernel
theorem dX8_leftOver_60 : decode cX8_leftOver 60 = .ok (.aload_n 0, 1) := by decide +kernel
theorem dX8_leftOver_61 : decode cX8_leftOver 61 = .ok (.iload_n 2, 1) := by decide +kernel
theorem dX8_leftOver_62 : decode cX8_leftOver 62 = .ok (.iload_n 3, 1) := by decide +kernel
theorem dX8_leftOver_63 : decode cX8_leftOver 63 = .ok (.iconst 1, 1) := by decide +kernel
theorem dX8_leftOver_64 : decode cX8_leftOver 64 = .ok (.iload 4, 2) := by decide +kernel
theorem dX8_leftOver_66 : decode cX8_leftOver 66 = .ok (.isub, 1) := by decide +kernel
theorem dX8_leftOver_67 : decode cX8_leftOver 67 = .ok (.iload 4, 2) := by decide +kernel
theorem dX8_leftOver_69 : decode cX8_leftOver 69 = .ok (.invokevirtual 200, 3) := by decide +kernel
theorem dX8_leftOver_72 : decode cX8_leftOver 72 = .ok (.invokevirtual 118, 3) := by decide +kernel
theorem dX8_leftOver_75 : decode cX8_leftOver 75 = .ok (.invokevirtual 109, 3) := by decide +kernel
theorem dX8_leftOver_78 : decode cX8_leftOver 78 = .ok (.ireturn, 1) := by decide +kernel
set_option maxHeartbeats 8000000 in
theorem t_left0_0 (l : Launch) {D : va_G} {ids : Nat → ClassId} {β : Nat} {sh : Nat → Nat × Nat} {N : Nat} {R : Nat → Nat → Option Nat} {F : Nat → Nat → Int} {A : Nat → Int → Int} {S : SP} (hM : MoL sh R N) (hR0 : RepM S F A) {V : Int → Int} {a b t : Int} (hS : St 0 V F A) (ha : isB S a) (hb : isB S b) (ht : isT t) : MetX l yX8_leftOver cX8_leftOver 6 (some (.int)) 5 117 D ids β sh N R F A [rf 0, pI a, pI b, pI t, pI 0] (pIr (Tq 134 F A 0 V (tadd (tmul (vS S b t 3) (tadd (vS S a t 0) (tneg (vS S b t 0)))) (tmul (vS S b t 1) (vS S b t 2))))) := by
  refine MetX.of (loc := [_, _, _, _, _, _]) (plainFor_of_name (by decide +kernel)) (Nat.le_of_ble_eq_true rfl) rfl ?_
  intro p e s m args below meth c hC hK hr hlk
  obtain ⟨⟨m0, m1⟩, ⟨rx0, r2, r3, r7, r8, r9, r11, r12, r13, r16, r18⟩, ⟨m2, m3⟩, ⟨m4, m5⟩, ⟨m6, m7⟩, ⟨m8, m9⟩, ⟨m10, m11⟩, ⟨m12, m13⟩, ⟨m14, m15⟩, ⟨m16, m17⟩, ⟨m18, m19⟩, ⟨m20, m21⟩, ⟨m22, m23⟩⟩ := id hM
  obtain ⟨hi, b1, b2, b3, b4, b5, b6, b7, b8⟩ := id hR0
  have i1 := hi.1
  have n16 := hi.1.2
  have a16 := ha.2
  have b16 := hb.2
  have a00 := ha.1
  have b00 := hb.1
  refine x_aload_n (pc2 := 1) hC rfl rfl dX8_leftOver_0 rfl ?_
  refine x_aload_n (pc2 := 2) hC rfl rfl dX8_leftOver_1 rfl ?_
  refine x_iload_n (pc2 := 3) hC rfl rfl dX8_leftOver_2 rfl ?_
  refine x_iload_n (pc2 := 4) hC rfl rfl dX8_leftOver_3 rfl ?_
  refine x_iconst (pc2 := 5) hC dX8_leftOver_4 rfl ?_
  refine x_iload (pc2 := 7) hC rfl dX8_leftOver_5 rfl ?_
  refine x_isub (pc2 := 8) hC dX8_leftOver_7 rfl ?_
  refine x_iconst (pc2 := 9) hC dX8_leftOver_8 rfl ?_
  refine x_iload (pc2 := 11) hC rfl dX8_leftOver_9 rfl ?_
  refine x_isub (pc2 := 12) hC dX8_leftOver_11 rfl ?_
  refine x_cVi (pc2 := 15) (ci := 8) hC hK (t_entry l hM hS (by decide) ⟨by omega, by omega⟩ (x := vS S b t 3) (show held (A 2) (96 * b + 24 * t + 6 * (2 * 1 + 1)) (vS S b t 3) from b6 b t 3 hb ht ⟨by decide, by decide⟩) ((hi.2.1 b hb).2 t 3 ht ⟨by decide, by decide⟩).1.2.2) lk_985 rfl rfl (by decide) (by assumption) (by assumption) ⟨Nat.le_of_ble_eq_true rfl, Nat.le_of_ble_eq_true rfl⟩ ⟨Nat.le_refl _, Nat.le_refl _⟩ rfl (Nat.le_of_ble_eq_true rfl) dX8_leftOver_12 rfl ?_
  rintro z12 F12 A12 ⟨ez12, V12, hS12, v12, k12, g12⟩
  obtain rfl := ez12.symm
  replace hS12 : St 18 V12 F12 A12 := hS12
  rw [show (0 : Int) + 15 = 15 from rfl]
  obtain ⟨wj12, ewj12⟩ : ∃ w : T3, w = vS S b t 3 := ⟨_, rfl⟩
  have uwj12 : tr V12 15 = wj12 := by rw [ewj12]; exact v12
  have bwj12 : bdt 25 25 wj12 := by rw [ewj12]; exact (ok_bdt ((hi.2.1 b hb).2 t 3 ht ⟨by decide, by decide⟩).1)
  clear v12
  refine x_aload_n (pc2 := 16) hC rfl rfl dX8_leftOver_15 rfl ?_
  refine x_aload_n (pc2 := 17) hC rfl rfl dX8_leftOver_16 rfl ?_
  refine x_iload_n (pc2 := 18) hC rfl rfl dX8_leftOver_17 rfl ?_
  refine x_iload_n (pc2 := 19) hC rfl rfl dX8_leftOver_18 rfl ?_
  refine x_iload (pc2 := 21) hC rfl dX8_leftOver_19 rfl ?_
  refine x_iload (pc2 := 23) hC rfl dX8_leftOver_21 rfl ?_
  refine x_cVi (pc2 := 26) (ci := 8) hC hK (t_entry l hM hS12 (by decide) ⟨by omega, by omega⟩ (x := vS S a t 0) (by rw [g12.a (by decide)]; exact (show held (A 2) (96 * a + 24 * t + 6 * (2 * 0 + 0)) (vS S a t 0) from b6 a t 0 ha ht ⟨by decide, by decide⟩)) ((hi.2.1 a ha).2 t 0 ht ⟨by decide, by decide⟩).1.2.2) lk_985 rfl rfl (by decide) (by assumption) (by assumption) ⟨Nat.le_of_ble_eq_true rfl, Nat.le_of_ble_eq_true rfl⟩ ⟨Nat.le_refl _, Nat.le_refl _⟩ rfl (Nat.le_of_ble_eq_true rfl) dX8_leftOver_23 rfl ?_
  rintro z23 F23 A23 ⟨ez23, V23, hS23, v23, k23, g23⟩
  obtain rfl := ez23.symm
  replace hS23 : St 36 V23 F23 A23 := hS23
  have t23_wj12 : tr V23 15 = wj12 := (tr_keep (by decide) k23).trans uwj12
  rw [show (18 : Int) + 15 = 33 from rfl]
  obtain ⟨wj23, ewj23⟩ : ∃ w : T3, w = vS S a t 0 := ⟨_, rfl⟩
  have uwj23 : tr V23 33 = wj23 := by rw [ewj23]; exact v23
  have bwj23 : bdt 25 25 wj23 := by rw [ewj23]; exact (ok_bdt ((hi.2.1 a ha).2 t 0 ht ⟨by decide, by decide⟩).1)
  clear v23
  refine x_aload_n (pc2 := 27) hC rfl rfl dX8_leftOver_26 rfl ?_
  refine x_iload_n (pc2 := 28) hC rfl rfl dX8_leftOver_27 rfl ?_
  refine x_iload_n (pc2 := 29) hC rfl rfl dX8_leftOver_28 rfl ?_
  refine x_iload (pc2 := 31) hC rfl dX8_leftOver_29 rfl ?_
  refine x_iload (pc2 := 33) hC rfl dX8_leftOver_31 rfl ?_
  refine x_cVi (pc2 := 36) (ci := 8) hC hK (t_entry l hM hS23 (by decide) ⟨by omega, by omega⟩ (x := vS S b t 0) (by rw [(g12.tr g23).a (by decide)]; exact (show held (A 2) (96 * b + 24 * t + 6 * (2 * 0 + 0)) (vS S b t 0) from b6 b t 0 hb ht ⟨by decide, by decide⟩)) ((hi.2.1 b hb).2 t 0 ht ⟨by decide, by decide⟩).1.2.2) lk_985 rfl rfl (by decide) (by assumption) (by assumption) ⟨Nat.le_of_ble_eq_true rfl, Nat.le_of_ble_eq_true rfl⟩ ⟨Nat.le_refl _, Nat.le_refl _⟩ rfl (Nat.le_of_ble_eq_true rfl) dX8_leftOver_33 rfl ?_
  rintro z33 F33 A33 ⟨ez33, V33, hS33, v33, k33, g33⟩
  obtain rfl := ez33.symm
  replace hS33 : St 54 V33 F33 A33 := hS33
  have t33_wj12 : tr V33 15 = wj12 := (tr_keep (by decide) k33).trans t23_wj12
  have t33_wj23 : tr V33 33 = wj23 := (tr_keep (by decide) k33).trans uwj23
  rw [show (36 : Int) + 15 = 51 from rfl]
  obtain ⟨wj33, ewj33⟩ : ∃ w : T3, w = vS S b t 0 := ⟨_, rfl⟩
  have uwj33 : tr V33 51 = wj33 := by rw [ewj33]; exact v33
  have bwj33 : bdt 25 25 wj33 := by rw [ewj33]; exact (ok_bdt ((hi.2.1 b hb).2 t 0 ht ⟨by decide, by decide⟩).1)
  clear v33
  refine x_cVi (pc2 := 39) (ci := 8) hC hK (t_sub l hM hS33 (x := 33) (y := 51) ⟨by decide, by decide⟩ ⟨by decide, by decide⟩ t33_wj23 uwj33 bwj23 bwj33 (by decide) ⟨by decide, by decide, by decide⟩) lk_1012 rfl rfl (by decide) (by assumption) (by assumption) ⟨Nat.le_of_ble_eq_true rfl, Nat.le_of_ble_eq_true rfl⟩ ⟨Nat.le_refl _, Nat.le_refl _⟩ rfl (Nat.le_of_ble_eq_true rfl) dX8_leftOver_36 rfl ?_
  rintro z36 F36 A36 ⟨ez36, V36, hS36, v36, k36, g36⟩
  obtain rfl := ez36.symm
  replace hS36 : St 69 V36 F36 A36 := hS36
  have t36_wj12 : tr V36 15 = wj12 := (tr_keep (by decide) k36).trans t33_wj12
  have t36_wj23 : tr V36 33 = wj23 := (tr_keep (by decide) k36).trans t33_wj23
  have t36_wj33 : tr V36 51 = wj33 := (tr_keep (by decide) k36).trans uwj33
  rw [show (54 : Int) + 12 = 66 from rfl]
  obtain ⟨wj36, ewj36⟩ : ∃ w : T3, w = tadd wj23 (tneg wj33) := ⟨_, rfl⟩
  have uwj36 : tr V36 66 = wj36 := by rw [ewj36]; exact v36
  have bwj36 : bdt 51 50 wj36 := by rw [ewj36]; exact (bdt_add bwj23 (bdt_neg bwj33) (by decide) (by decide) (by decide))
  clear v36
  refine x_cVi (pc2 := 42) (ci := 8) hC hK (t_product l hM hS36 (x := 15) (y := 66) ⟨by decide, by decide⟩ ⟨by decide, by decide⟩ t36_wj12 uwj36 bwj12 bwj36 (by decide) ⟨by decide, by decide⟩) lk_1004 rfl rfl (by decide) (by assumption) (by assumption) ⟨Nat.le_of_ble_eq_true rfl, Nat.le_of_ble_eq_true rfl⟩ ⟨Nat.le_refl _, Nat.le_refl _⟩ rfl (Nat.le_of_ble_eq_true rfl) dX8_leftOver_39 rfl ?_
  rintro z39 F39 A39 ⟨ez39, V39, hS39, v39, k39, g39⟩
  obtain rfl := ez39.symm
  replace hS39 : St 80 V39 F39 A39 := hS39
  have t39_wj12 : tr V39 15 = wj12 := (tr_keep (by decide) k39).trans t36_wj12
  have t39_wj23 : tr V39 33 = wj23 := (tr_keep (by decide) k39).trans t36_wj23
  have t39_wj33 : tr V39 51 = wj33 := (tr_keep (by decide) k39).trans t36_wj33
  have t39_wj36 : tr V39 66 = wj36 := (tr_keep (by decide) k39).trans uwj36
  rw [show (69 : Int) + 8 = 77 from rfl]
  obtain ⟨wj39, ewj39⟩ : ∃ w : T3, w = tmul wj12 wj36 := ⟨_, rfl⟩
  have uwj39 : tr V39 77 = wj39 := by rw [ewj39]; exact v39
  have bwj39 : bdt 77 75 wj39 := by rw [ewj39]; exact (bdt_mul bwj12 bwj36 (by decide) (by decide))
  clear v39
  refine x_istore (pc2 := 44) (loc2 := [_, _, _, _, _, _]) hC (by decide) rfl dX8_leftOver_42 rfl ?_
  refine x_aload_n (pc2 := 45) hC rfl rfl dX8_leftOver_44 rfl ?_
  refine x_iload (pc2 := 47) hC rfl dX8_leftOver_45 rfl ?_
  refine x_aload_n (pc2 := 48) hC rfl rfl dX8_leftOver_47 rfl ?_
  refine x_aload_n (pc2 := 49) hC rfl rfl dX8_leftOver_48 rfl ?_
  refine x_iload_n (pc2 := 50) hC rfl rfl dX8_leftOver_49 rfl ?_
  refine x_iload_n (pc2 := 51) hC rfl rfl dX8_leftOver_50 rfl ?_
  refine x_iload (pc2 := 53) hC rfl dX8_leftOver_51 rfl ?_
  refine x_iconst (pc2 := 54) hC dX8_leftOver_53 rfl ?_
  refine x_iload (pc2 := 56) hC rfl dX8_leftOver_54 rfl ?_
  refine x_isub (pc2 := 57) hC dX8_leftOver_56 rfl ?_
  refine x_cVi (pc2 := 60) (ci := 8) hC hK (t_entry l hM hS39 (by decide) ⟨by omega, by omega⟩ (x := vS S b t 1) (by rw [((((g12.tr g23).tr g33).tr g36).tr g39).a (by decide)]; exact (show held (A 2) (96 * b + 24 * t + 6 * (2 * 0 + 1)) (vS S b t 1) from b6 b t 1 hb ht ⟨by decide, by decide⟩)) ((hi.2.1 b hb).2 t 1 ht ⟨by decide, by decide⟩).1.2.2) lk_985 rfl rfl (by decide) (by assumption) (by assumption) ⟨Nat.le_of_ble_eq_true rfl, Nat.le_of_ble_eq_true rfl⟩ ⟨Nat.le_refl _, Nat.le_refl _⟩ rfl (Nat.le_of_ble_eq_true rfl) dX8_leftOver_57 rfl ?_
  rintro z57 F57 A57 ⟨ez57, V57, hS57, v57, k57, g57⟩
  obtain rfl := ez57.symm
  replace hS57 : St 98 V57 F57 A57 := hS57
  have t57_wj12 : tr V57 15 = wj12 := (tr_keep (by decide) k57).trans t39_wj12
  have t57_wj23 : tr V57 33 = wj23 := (tr_keep (by decide) k57).trans t39_wj23
  have t57_wj33 : tr V57 51 = wj33 := (tr_keep (by decide) k57).trans t39_wj33
  have t57_wj36 : tr V57 66 = wj36 := (tr_keep (by decide) k57).trans t39_wj36
  have t57_wj39 : tr V57 77 = wj39 := (tr_keep (by decide) k57).trans uwj39
  rw [show (80 : Int) + 15 = 95 from rfl]
  obtain ⟨wj57, ewj57⟩ : ∃ w : T3, w = vS S b t 1 := ⟨_, rfl⟩
  have uwj57 : tr V57 95 = wj57 := by rw [ewj57]; exact v57
  have bwj57 : bdt 25 25 wj57 := by rw [ewj57]; exact (ok_bdt ((hi.2.1 b hb).2 t 1 ht ⟨by decide, by decide⟩).1)
  clear v57
  refine x_aload_n (pc2 := 61) hC rfl rfl dX8_leftOver_60 rfl ?_
  refine x_iload_n (pc2 := 62) hC rfl rfl dX8_leftOver_61 rfl ?_
  refine x_iload_n (pc2 := 63) hC rfl rfl dX8_leftOver_62 rfl ?_
  refine x_iconst (pc2 := 64) hC dX8_leftOver_63 rfl ?_
  refine x_iload (pc2 := 66) hC rfl dX8_leftOver_64 rfl ?_
  refine x_isub (pc2 := 67) hC dX8_leftOver_66 rfl ?_
  refine x_iload (pc2 := 69) hC rfl dX8_leftOver_67 rfl ?_
  refine x_cVi (pc2 := 72) (ci := 8) hC hK (t_entry l hM hS57 (by decide) ⟨by omega, by omega⟩ (x := vS S b t 2) (by rw [(((((g12.tr g23).tr g33).tr g36).tr g39).tr g57).a (by decide)]; exact (show held (A 2) (96 * b + 24 * t + 6 * (2 * 1 + 0)) (vS S b t 2) from b6 b t 2 hb ht ⟨by decide, by decide⟩)) ((hi.2.1 b hb).2 t 2 ht ⟨by decide, by decide⟩).1.2.2) lk_985 rfl rfl (by decide) (by assumption) (by assumption) ⟨Nat.le_of_ble_eq_true rfl, Nat.le_of_ble_eq_true rfl⟩ ⟨Nat.le_refl _, Nat.le_refl _⟩ rfl (Nat.le_of_ble_eq_true rfl) dX8_leftOver_69 rfl ?_
  rintro z69 F69 A69 ⟨ez69, V69, hS69, v69, k69, g69⟩
  obtain rfl := ez69.symm
  replace hS69 : St 116 V69 F69 A69 := hS69
  have t69_wj12 : tr V69 15 = wj12 := (tr_keep (by decide) k69).trans t57_wj12
  have t69_wj23 : tr V69 33 = wj23 := (tr_keep (by decide) k69).trans t57_wj23
  have t69_wj33 : tr V69 51 = wj33 := (tr_keep (by decide) k69).trans t57_wj33
  have t69_wj36 : tr V69 66 = wj36 := (tr_keep (by decide) k69).trans t57_wj36
  have t69_wj39 : tr V69 77 = wj39 := (tr_keep (by decide) k69).trans t57_wj39
  have t69_wj57 : tr V69 95 = wj57 := (tr_keep (by decide) k69).trans uwj57
  rw [show (98 : Int) + 15 = 113 from rfl]
  obtain ⟨wj69, ewj69⟩ : ∃ w : T3, w = vS S b t 2 := ⟨_, rfl⟩
  have uwj69 : tr V69 113 = wj69 := by rw [ewj69]; exact v69
  have bwj69 : bdt 25 25 wj69 := by rw [ewj69]; exact (ok_bdt ((hi.2.1 b hb).2 t 2 ht ⟨by decide, by decide⟩).1)
  clear v69
  refine x_cVi (pc2 := 75) (ci := 8) hC hK (t_product l hM hS69 (x := 95) (y := 113) ⟨by decide, by decide⟩ ⟨by decide, by decide⟩ t69_wj57 uwj69 bwj57 bwj69 (by decide) ⟨by decide, by decide⟩) lk_1004 rfl rfl (by decide) (by assumption) (by assumption) ⟨Nat.le_of_ble_eq_true rfl, Nat.le_of_ble_eq_true rfl⟩ ⟨Nat.le_refl _, Nat.le_refl _⟩ rfl (Nat.le_of_ble_eq_true rfl) dX8_leftOver_72 rfl ?_
  rintro z72 F72 A72 ⟨ez72, V72, hS72, v72, k72, g72⟩
  obtain rfl := ez72.symm
  replace hS72 : St 127 V72 F72 A72 := hS72
  have t72_wj12 : tr V72 15 = wj12 := (tr_keep (by decide) k72).trans t69_wj12
  have t72_wj23 : tr V72 33 = wj23 := (tr_keep (by decide) k72).trans t69_wj23
  have t72_wj33 : tr V72 51 = wj33 := (tr_keep (by decide) k72).trans t69_wj33
  have t72_wj36 : tr V72 66 = wj36 := (tr_keep (by decide) k72).trans t69_wj36
  have t72_wj39 : tr V72 77 = wj39 := (tr_keep (by decide) k72).trans t69_wj39
  have t72_wj57 : tr V72 95 = wj57 := (tr_keep (by decide) k72).trans t69_wj57
  have t72_wj69 : tr V72 113 = wj69 := (tr_keep (by decide) k72).trans uwj69
  rw [show (116 : Int) + 8 = 124 from rfl]
  obtain ⟨wj72, ewj72⟩ : ∃ w : T3, w = tmul wj57 wj69 := ⟨_, rfl⟩
  have uwj72 : tr V72 124 = wj72 := by rw [ewj72]; exact v72
  have bwj72 : bdt 51 50 wj72 := by rw [ewj72]; exact (bdt_mul bwj57 bwj69 (by decide) (by decide))
  clear v72
  refine x_cVi (pc2 := 78) (ci := 8) hC hK (t_added l hM hS72 (x := 77) (y := 124) ⟨by decide, by decide⟩ ⟨by decide, by decide⟩ t72_wj39 uwj72 bwj39 bwj72 (by decide) ⟨by decide, by decide, by decide⟩) lk_1020 rfl rfl (by decide) (by assumption) (by assumption) ⟨Nat.le_of_ble_eq_true rfl, Nat.le_of_ble_eq_true rfl⟩ ⟨Nat.le_refl _, Nat.le_refl _⟩ rfl (Nat.le_of_ble_eq_true rfl) dX8_leftOver_75 rfl ?_
  rintro z75 F75 A75 ⟨ez75, V75, hS75, v75, k75, g75⟩
  obtain rfl := ez75.symm
  replace hS75 : St 137 V75 F75 A75 := hS75
  have t75_wj12 : tr V75 15 = wj12 := (tr_keep (by decide) k75).trans t72_wj12
  have t75_wj23 : tr V75 33 = wj23 := (tr_keep (by decide) k75).trans t72_wj23
  have t75_wj33 : tr V75 51 = wj33 := (tr_keep (by decide) k75).trans t72_wj33
  have t75_wj36 : tr V75 66 = wj36 := (tr_keep (by decide) k75).trans t72_wj36
  have t75_wj39 : tr V75 77 = wj39 := (tr_keep (by decide) k75).trans t72_wj39
  have t75_wj57 : tr V75 95 = wj57 := (tr_keep (by decide) k75).trans t72_wj57
  have t75_wj69 : tr V75 113 = wj69 := (tr_keep (by decide) k75).trans t72_wj69
  have t75_wj72 : tr V75 124 = wj72 := (tr_keep (by decide) k75).trans uwj72
  rw [show (127 : Int) + 7 = 134 from rfl]
  obtain ⟨wj75, ewj75⟩ : ∃ w : T3, w = tadd wj39 wj72 := ⟨_, rfl⟩
  have uwj75 : tr V75 134 = wj75 := by rw [ewj75]; exact v75
  have bwj75 : bdt 128 125 wj75 := by rw [ewj75]; exact (bdt_add bwj39 bwj72 (by decide) (by decide) (by decide))
  clear v75
  exact x_iret hC hr hlk ⟨_, rfl, rfl, V75, hS75, (uwj75).trans (by rw [ewj75, ewj72, ewj39, ewj57, ewj69, ewj36, ewj12, ewj23, ewj33]), fun u hu => (k75 u (by omega)).trans ((k72 u (by omega)).trans ((k69 u (by omega)).trans ((k57 u (by omega)).trans ((k39 u (by omega)).trans ((k36 u (by omega)).trans ((k33 u (by omega)).trans ((k23 u (by omega)).trans (k12 u hu)))))))), ((((((((g12.tr g23).tr g33).tr g36).tr g39).tr g57).tr g69).tr g72).tr g75)⟩ dX8_leftOver_78
set_option maxHeartbeats 8000000 in
theorem t_left36_0 (l : Launch) {D : va_G} {ids : Nat → ClassId} {β : Nat} {sh : Nat → Nat × Nat} {N : Nat} {R : Nat → Nat → Option Nat} {F : Nat → Nat → Int} {A : Nat → Int → Int} {S : SP} (hM : MoL sh R N) (hR0 : RepM S F A) {V : Int → Int} {a b t : Int} (hS : St 36 V F A) (ha : isB S a) (hb : isB S b) (ht : isT t) : MetX l yX8_leftOver cX8_leftOver 6 (some (.int)) 5 117 D ids β sh N R F A [rf 0, pI a, pI b, pI t, pI 0] (pIr (Tq 134 F A 36 V (tadd (tmul (vS S b t 3) (tadd (vS S a t 0) (tneg (vS S b t 0)))) (tmul (vS S b t 1) (vS S b t 2))))) := by
  refine MetX.of (loc := [_, _, _, _, _, _]) (plainFor_of_name (by decide +kernel)) (Nat.le_of_ble_eq_true rfl) rfl ?_
  intro p e s m args below meth c hC hK hr hlk
  obtain ⟨⟨m0, m1⟩, ⟨rx0, r2, r3, r7, r8, r9, r11, r12, r13, r16, r18⟩, ⟨m2, m3⟩, ⟨m4, m5⟩, ⟨m6, m7⟩, ⟨m8, m9⟩, ⟨m10, m11⟩, ⟨m12, m13⟩, ⟨m14, m15⟩, ⟨m16, m17⟩, ⟨m18, m19⟩, ⟨m20, m21⟩, ⟨m22, m23⟩⟩ := id hM
  obtain ⟨hi, b1, b2, b3, b4, b5, b6, b7, b8⟩ := id hR0
  have i1 := hi.1
  have n16 := hi.1.2
  have a16 := ha.2
  have b16 := hb.2
  have a00 := ha.1
  have b00 := hb.1
  refine x_aload_n (pc2 := 1) hC rfl rfl dX8_leftOver_0 rfl ?_
  refine x_aload_n (pc2 := 2) hC rfl rfl dX8_leftOver_1 rfl ?_
  refine x_iload_n (pc2 := 3) hC rfl rfl dX8_leftOver_2 rfl ?_
  refine x_iload_n (pc2 := 4) hC rfl rfl dX8_leftOver_3 rfl ?_
  refine x_iconst (pc2 := 5) hC dX8_leftOver_4 rfl ?_
  refine x_iload (pc2 := 7) hC rfl dX8_leftOver_5 rfl ?_
  refine x_isub (pc2 := 8) hC dX8_leftOver_7 rfl ?_
  refine x_iconst (pc2 := 9) hC dX8_leftOver_8 rfl ?_
  refine x_iload (pc2 := 11) hC rfl dX8_leftOver_9 rfl ?_
  refine x_isub (pc2 := 12) hC dX8_leftOver_11 rfl ?_
  refine x_cVi (pc2 := 15) (ci := 8) hC hK (t_entry l hM hS (by decide) ⟨by omega, by omega⟩ (x := vS S b t 3) (show held (A 2) (96 * b + 24 * t + 6 * (2 * 1 + 1)) (vS S b t 3) from b6 b t 3 hb ht ⟨by decide, by decide⟩) ((hi.2.1 b hb).2 t 3 ht ⟨by decide, by decide⟩).1.2.2) lk_985 rfl rfl (by decide) (by assumption) (by assumption) ⟨Nat.le_of_ble_eq_true rfl, Nat.le_of_ble_eq_true rfl⟩ ⟨Nat.le_refl _, Nat.le_refl _⟩ rfl (Nat.le_of_ble_eq_true rfl) dX8_leftOver_12 rfl ?_
  rintro z12 F12 A12 ⟨ez12, V12, hS12, v12, k12, g12⟩
  obtain rfl := ez12.symm
  replace hS12 : St 54 V12 F12 A12 := hS12
  rw [show (36 : Int) + 15 = 51 from rfl]
  obtain ⟨wj12, ewj12⟩ : ∃ w : T3, w = vS S b t 3 := ⟨_, rfl⟩
  have uwj12 : tr V12 51 = wj12 := by rw [ewj12]; exact v12
  have bwj12 : bdt 25 25 wj12 := by rw [ewj12]; exact (ok_bdt ((hi.2.1 b hb).2 t 3 ht ⟨by decide, by decide⟩).1)
  clear v12
  refine x_aload_n (pc2 := 16) hC rfl rfl dX8_leftOver_15 rfl ?_
  refine x_aload_n (pc2 := 17) hC rfl rfl dX8_leftOver_16 rfl ?_
  refine x_iload_n (pc2 := 18) hC rfl rfl dX8_leftOver_17 rfl ?_
  refine x_iload_n (pc2 := 19) hC rfl rfl dX8_leftOver_18 rfl ?_
  refine x_iload (pc2 := 21) hC rfl dX8_leftOver_19 rfl ?_
  refine x_iload (pc2 := 23) hC rfl dX8_leftOver_21 rfl ?_
  refine x_cVi (pc2 := 26) (ci := 8) hC hK (t_entry l hM hS12 (by decide) ⟨by omega, by omega⟩ (x := vS S a t 0) (by rw [g12.a (by decide)]; exact (show held (A 2) (96 * a + 24 * t + 6 * (2 * 0 + 0)) (vS S a t 0) from b6 a t 0 ha ht ⟨by decide, by decide⟩)) ((hi.2.1 a ha).2 t 0 ht ⟨by decide, by decide⟩).1.2.2) lk_985 rfl rfl (by decide) (by assumption) (by assumption) ⟨Nat.le_of_ble_eq_true rfl, Nat.le_of_ble_eq_true rfl⟩ ⟨Nat.le_refl _, Nat.le_refl _⟩ rfl (Nat.le_of_ble_eq_true rfl) dX8_leftOver_23 rfl ?_
  rintro z23 F23 A23 ⟨ez23, V23, hS23, v23, k23, g23⟩
  obtain rfl := ez23.symm
  replace hS23 : St 72 V23 F23 A23 := hS23
  have t23_wj12 : tr V23 51 = wj12 := (tr_keep (by decide) k23).trans uwj12
  rw [show (54 : Int) + 15 = 69 from rfl]
  obtain ⟨wj23, ewj23⟩ : ∃ w : T3, w = vS S a t 0 := ⟨_, rfl⟩
  have uwj23 : tr V23 69 = wj23 := by rw [ewj23]; exact v23
  have bwj23 : bdt 25 25 wj23 := by rw [ewj23]; exact (ok_bdt ((hi.2.1 a ha).2 t 0 ht ⟨by decide, by decide⟩).1)
  clear v23
  refine x_aload_n (pc2 := 27) hC rfl rfl dX8_leftOver_26 rfl ?_
  refine x_iload_n (pc2 := 28) hC rfl rfl dX8_leftOver_27 rfl ?_
  refine x_iload_n (pc2 := 29) hC rfl rfl dX8_leftOver_28 rfl ?_
  refine x_iload (pc2 := 31) hC rfl dX8_leftOver_29 rfl ?_
  refine x_iload (pc2 := 33) hC rfl dX8_leftOver_31 rfl ?_
  refine x_cVi (pc2 := 36) (ci := 8) hC hK (t_entry l hM hS23 (by decide) ⟨by omega, by omega⟩ (x := vS S b t 0) (by rw [(g12.tr g23).a (by decide)]; exact (show held (A 2) (96 * b + 24 * t + 6 * (2 * 0 + 0)) (vS S b t 0) from b6 b t 0 hb ht ⟨by decide, by decide⟩)) ((hi.2.1 b hb).2 t 0 ht ⟨by decide, by decide⟩).1.2.2) lk_985 rfl rfl (by decide) (by assumption) (by assumption) ⟨Nat.le_of_ble_eq_true rfl, Nat.le_of_ble_eq_true rfl⟩ ⟨Nat.le_refl _, Nat.le_refl _⟩ rfl (Nat.le_of_ble_eq_true rfl) dX8_leftOver_33 rfl ?_
  rintro z33 F33 A33 ⟨ez33, V33, hS33, v33, k33, g33⟩
  obtain rfl := ez33.symm
  replace hS33 : St 90 V33 F33 A33 := hS33
  have t33_wj12 : tr V33 51 = wj12 := (tr_keep (by decide) k33).trans t23_wj12
  have t33_wj23 : tr V33 69 = wj23 := (tr_keep (by decide) k33).trans uwj23
  rw [show (72 : Int) + 15 = 87 from rfl]
  obtain ⟨wj33, ewj33⟩ : ∃ w : T3, w = vS S b t 0 := ⟨_, rfl⟩
  have uwj33 : tr V33 87 = wj33 := by rw [ewj33]; exact v33
  have bwj33 : bdt 25 25 wj33 := by rw [ewj33]; exact (ok_bdt ((hi.2.1 b hb).2 t 0 ht ⟨by decide, by decide⟩).1)
  clear v33
  refine x_cVi (pc2 := 39) (ci := 8) hC hK (t_sub l hM hS33 (x := 69) (y := 87) ⟨by decide, by decide⟩ ⟨by decide, by decide⟩ t33_wj23 uwj33 bwj23 bwj33 (by decide) ⟨by decide, by decide, by decide⟩) lk_1012 rfl rfl (by decide) (by assumption) (by assumption) ⟨Nat.le_of_ble_eq_true rfl, Nat.le_of_ble_eq_true rfl⟩ ⟨Nat.le_refl _, Nat.le_refl _⟩ rfl (Nat.le_of_ble_eq_true rfl) dX8_leftOver_36 rfl ?_
  rintro z36 F36 A36 ⟨ez36, V36, hS36, v36, k36, g36⟩
  obtain rfl := ez36.symm
  replace hS36 : St 105 V36 F36 A36 := hS36
  have t36_wj12 : tr V36 51 = wj12 := (tr_keep (by decide) k36).trans t33_wj12
  have t36_wj23 : tr V36 69 = wj23 := (tr_keep (by decide) k36).trans t33_wj23
  have t36_wj33 : tr V36 87 = wj33 := (tr_keep (by decide) k36).trans uwj33
  rw [show (90 : Int) + 12 = 102 from rfl]
  obtain ⟨wj36, ewj36⟩ : ∃ w : T3, w = tadd wj23 (tneg wj33) := ⟨_, rfl⟩
  have uwj36 : tr V36 102 = wj36 := by rw [ewj36]; exact v36
  have bwj36 : bdt 51 50 wj36 := by rw [ewj36]; exact (bdt_add bwj23 (bdt_neg bwj33) (by decide) (by decide) (by decide))
  clear v36
  refine x_cVi (pc2 := 42) (ci := 8) hC hK (t_product l hM hS36 (x := 51) (y := 102) ⟨by decide, by decide⟩ ⟨by decide, by decide⟩ t36_wj12 uwj36 bwj12 bwj36 (by decide) ⟨by decide, by decide⟩) lk_1004 rfl rfl (by decide) (by assumption) (by assumption) ⟨Nat.le_of_ble_eq_true rfl, Nat.le_of_ble_eq_true rfl⟩ ⟨Nat.le_refl _, Nat.le_refl _⟩ rfl (Nat.le_of_ble_eq_true rfl) dX8_leftOver_39 rfl ?_
  rintro z39 F39 A39 ⟨ez39, V39, hS39, v39, k39, g39⟩
  obtain rfl := ez39.symm
  replace hS39 : St 116 V39 F39 A39 := hS39
  have t39_wj12 : tr V39 51 = wj12 := (tr_keep (by decide) k39).trans t36_wj12
  have t39_wj23 : tr V39 69 = wj23 := (tr_keep (by decide) k39).trans t36_wj23
  have t39_wj33 : tr V39 87 = wj33 := (tr_keep (by decide) k39).trans t36_wj33
  have t39_wj36 : tr V39 102 = wj36 := (tr_keep (by decide) k39).trans uwj36
  rw [show (105 : Int) + 8 = 113 from rfl]
  obtain ⟨wj39, ewj39⟩ : ∃ w : T3, w = tmul wj12 wj36 := ⟨_, rfl⟩
  have uwj39 : tr V39 113 = wj39 := by rw [ewj39]; exact v39
  have bwj39 : bdt 77 75 wj39 := by rw [ewj39]; exact (bdt_mul bwj12 bwj36 (by decide) (by decide))
  clear v39
  refine x_istore (pc2 := 44) (loc2 := [_, _, _, _, _, _]) hC (by decide) rfl dX8_leftOver_42 rfl ?_
  refine x_aload_n (pc2 := 45) hC rfl rfl dX8_leftOver_44 rfl ?_
  refine x_iload (pc2 := 47) hC rfl dX8_leftOver_45 rfl ?_
  refine x_aload_n (pc2 := 48) hC rfl rfl dX8_leftOver_47 rfl ?_
  refine x_aload_n (pc2 := 49) hC rfl rfl dX8_leftOver_48 rfl ?_
  refine x_iload_n (pc2 := 50) hC rfl rfl dX8_leftOver_49 rfl ?_
  refine x_iload_n (pc2 := 51) hC rfl rfl dX8_leftOver_50 rfl ?_
  refine x_iload (pc2 := 53) hC rfl dX8_leftOver_51 rfl ?_
  refine x_iconst (pc2 := 54) hC dX8_leftOver_53 rfl ?_
  refine x_iload (pc2 := 56) hC rfl dX8_leftOver_54 rfl ?_
  refine x_isub (pc2 := 57) hC dX8_leftOver_56 rfl ?_
  refine x_cVi (pc2 := 60) (ci := 8) hC hK (t_entry l hM hS39 (by decide) ⟨by omega, by omega⟩ (x := vS S b t 1) (by rw [((((g12.tr g23).tr g33).tr g36).tr g39).a (by decide)]; exact (show held (A 2) (96 * b + 24 * t + 6 * (2 * 0 + 1)) (vS S b t 1) from b6 b t 1 hb ht ⟨by decide, by decide⟩)) ((hi.2.1 b hb).2 t 1 ht ⟨by decide, by decide⟩).1.2.2) lk_985 rfl rfl (by decide) (by assumption) (by assumption) ⟨Nat.le_of_ble_eq_true rfl, Nat.le_of_ble_eq_true rfl⟩ ⟨Nat.le_refl _, Nat.le_refl _⟩ rfl (Nat.le_of_ble_eq_true rfl) dX8_leftOver_57 rfl ?_
  rintro z57 F57 A57 ⟨ez57, V57, hS57, v57, k57, g57⟩
  obtain rfl := ez57.symm
  replace hS57 : St 134 V57 F57 A57 := hS57
  have t57_wj12 : tr V57 51 = wj12 := (tr_keep (by decide) k57).trans t39_wj12
  have t57_wj23 : tr V57 69 = wj23 := (tr_keep (by decide) k57).trans t39_wj23
  have t57_wj33 : tr V57 87 = wj33 := (tr_keep (by decide) k57).trans t39_wj33
  have t57_wj36 : tr V57 102 = wj36 := (tr_keep (by decide) k57).trans t39_wj36
  have t57_wj39 : tr V57 113 = wj39 := (tr_keep (by decide) k57).trans uwj39
  rw [show (116 : Int) + 15 = 131 from rfl]
  obtain ⟨wj57, ewj57⟩ : ∃ w : T3, w = vS S b t 1 := ⟨_, rfl⟩
  have uwj57 : tr V57 131 = wj57 := by rw [ewj57]; exact v57
  have bwj57 : bdt 25 25 wj57 := by rw [ewj57]; exact (ok_bdt ((hi.2.1 b hb).2 t 1 ht ⟨by decide, by decide⟩).1)
  clear v57
  refine x_aload_n (pc2 := 61) hC rfl rfl dX8_leftOver_60 rfl ?_
  refine x_iload_n (pc2 := 62) hC rfl rfl dX8_leftOver_61 rfl ?_
  refine x_iload_n (pc2 := 63) hC rfl rfl dX8_leftOver_62 rfl ?_
  refine x_iconst (pc2 := 64) hC dX8_leftOver_63 rfl ?_
  refine x_iload (pc2 := 66) hC rfl dX8_leftOver_64 rfl ?_
  refine x_isub (pc2 := 67) hC dX8_leftOver_66 rfl ?_
  refine x_iload (pc2 := 69) hC rfl dX8_leftOver_67 rfl ?_
  refine x_cVi (pc2 := 72) (ci := 8) hC hK (t_entry l hM hS57 (by decide) ⟨by omega, by omega⟩ (x := vS S b t 2) (by rw [(((((g12.tr g23).tr g33).tr g36).tr g39).tr g57).a (by decide)]; exact (show held (A 2) (96 * b + 24 * t + 6 * (2 * 1 + 0)) (vS S b t 2) from b6 b t 2 hb ht ⟨by decide, by decide⟩)) ((hi.2.1 b hb).2 t 2 ht ⟨by decide, by decide⟩).1.2.2) lk_985 rfl rfl (by decide) (by assumption) (by assumption) ⟨Nat.le_of_ble_eq_true rfl, Nat.le_of_ble_eq_true rfl⟩ ⟨Nat.le_refl _, Nat.le_refl _⟩ rfl (Nat.le_of_ble_eq_true rfl) dX8_leftOver_69 rfl ?_
  rintro z69 F69 A69 ⟨ez69, V69, hS69, v69, k69, g69⟩
  obtain rfl := ez69.symm
  replace hS69 : St 152 V69 F69 A69 := hS69
  have t69_wj12 : tr V69 51 = wj12 := (tr_keep (by decide) k69).trans t57_wj12
  have t69_wj23 : tr V69 69 = wj23 := (tr_keep (by decide) k69).trans t57_wj23
  have t69_wj33 : tr V69 87 = wj33 := (tr_keep (by decide) k69).trans t57_wj33
  have t69_wj36 : tr V69 102 = wj36 := (tr_keep (by decide) k69).trans t57_wj36
  have t69_wj39 : tr V69 113 = wj39 := (tr_keep (by decide) k69).trans t57_wj39
  have t69_wj57 : tr V69 131 = wj57 := (tr_keep (by decide) k69).trans uwj57
  rw [show (134 : Int) + 15 = 149 from rfl]
  obtain ⟨wj69, ewj69⟩ : ∃ w : T3, w = vS S b t 2 := ⟨_, rfl⟩
  have uwj69 : tr V69 149 = wj69 := by rw [ewj69]; exact v69
  have bwj69 : bdt 25 25 wj69 := by rw [ewj69]; exact (ok_bdt ((hi.2.1 b hb).2 t 2 ht ⟨by decide, by decide⟩).1)
  clear v69
  refine x_cVi (pc2 := 75) (ci := 8) hC hK (t_product l hM hS69 (x := 131) (y := 149) ⟨by decide, by decide⟩ ⟨by decide, by decide⟩ t69_wj57 uwj69 bwj57 bwj69 (by decide) ⟨by decide, by decide⟩) lk_1004 rfl rfl (by decide) (by assumption) (by assumption) ⟨Nat.le_of_ble_eq_true rfl, Nat.le_of_ble_eq_true rfl⟩ ⟨Nat.le_refl _, Nat.le_refl _⟩ rfl (Nat.le_of_ble_eq_true rfl) dX8_leftOver_72 rfl ?_
  rintro z72 F72 A72 ⟨ez72, V72, hS72, v72, k72, g72⟩
  obtain rfl := ez72.symm
  replace hS72 : St 163 V72 F72 A72 := hS72
  have t72_wj12 : tr V72 51 = wj12 := (tr_keep (by decide) k72).trans t69_wj12
  have t72_wj23 : tr V72 69 = wj23 := (tr_keep (by decide) k72).trans t69_wj23
  have t72_wj33 : tr V72 87 = wj33 := (tr_keep (by decide) k72).trans t69_wj33
  have t72_wj36 : tr V72 102 = wj36 := (tr_keep (by decide) k72).trans t69_wj36
  have t72_wj39 : tr V72 113 = wj39 := (tr_keep (by decide) k72).trans t69_wj39
  have t72_wj57 : tr V72 131 = wj57 := (tr_keep (by decide) k72).trans t69_wj57
  have t72_wj69 : tr V72 149 = wj69 := (tr_keep (by decide) k72).trans uwj69
  rw [show (152 : Int) + 8 = 160 from rfl]
  obtain ⟨wj72, ewj72⟩ : ∃ w : T3, w = tmul wj57 wj69 := ⟨_, rfl⟩
  have uwj72 : tr V72 160 = wj72 := by rw [ewj72]; exact v72
  have bwj72 : bdt 51 50 wj72 := by rw [ewj72]; exact (bdt_mul bwj57 bwj69 (by decide) (by decide))
  clear v72
  refine x_cVi (pc2 := 78) (ci := 8) hC hK (t_added l hM hS72 (x := 113) (y := 160) ⟨by decide, by decide⟩ ⟨by decide, by decide⟩ t72_wj39 uwj72 bwj39 bwj72 (by decide) ⟨by decide, by decide, by decide⟩) lk_1020 rfl rfl (by decide) (by assumption) (by assumption) ⟨Nat.le_of_ble_eq_true rfl, Nat.le_of_ble_eq_true rfl⟩ ⟨Nat.le_refl _, Nat.le_refl _⟩ rfl (Nat.le_of_ble_eq_true rfl) dX8_leftOver_75 rfl ?_
  rintro z75 F75 A75 ⟨ez75, V75, hS75, v75, k75, g75⟩
  obtain rfl := ez75.symm
  replace hS75 : St 173 V75 F75 A75 := hS75
  have t75_wj12 : tr V75 51 = wj12 := (tr_keep (by decide) k75).trans t72_wj12
  have t75_wj23 : tr V75 69 = wj23 := (tr_keep (by decide) k75).trans t72_wj23
  have t75_wj33 : tr V75 87 = wj33 := (tr_keep (by decide) k75).trans t72_wj33
  have t75_wj36 : tr V75 102 = wj36 := (tr_keep (by decide) k75).trans t72_wj36
  have t75_wj39 : tr V75 113 = wj39 := (tr_keep (by decide) k75).trans t72_wj39
  have t75_wj57 : tr V75 131 = wj57 := (tr_keep (by decide) k75).trans t72_wj57
  have t75_wj69 : tr V75 149 = wj69 := (tr_keep (by decide) k75).trans t72_wj69
  have t75_wj72 : tr V75 160 = wj72 := (tr_keep (by decide) k75).trans uwj72
  rw [show (163 : Int) + 7 = 170 from rfl]
  obtain ⟨wj75, ewj75⟩ : ∃ w : T3, w = tadd wj39 wj72 := ⟨_, rfl⟩
  have uwj75 : tr V75 170 = wj75 := by rw [ewj75]; exact v75
  have bwj75 : bdt 128 125 wj75 := by rw [ewj75]; exact (bdt_add bwj39 bwj72 (by decide) (by decide) (by decide))
  clear v75
  exact x_iret hC hr hlk ⟨_, rfl, rfl, V75, hS75, (uwj75).trans (by rw [ewj75, ewj72, ewj39, ewj57, ewj69, ewj36, ewj12, ewj23, ewj33]), fun u hu => (k75 u (by omega)).trans ((k72 u (by omega)).trans ((k69 u (by omega)).trans ((k57 u (by omega)).trans ((k39 u (by omega)).trans ((k36 u (by omega)).trans ((k33 u (by omega)).trans ((k23 u (by omega)).trans (k12 u hu)))))))), ((((((((g12.tr g23).tr g33).tr g36).tr g39).tr g57).tr g69).tr g72).tr g75)⟩ dX8_leftOver_78
set_option maxHeartbeats 8000000 in
theorem t_left0_1 (l : Launch) {D : va_G} {ids : Nat → ClassId} {β : Nat} {sh : Nat → Nat × Nat} {N : Nat} {R : Nat → Nat → Option Nat} {F : Nat → Nat → Int} {A : Nat → Int → Int} {S : SP} (hM : MoL sh R N) (hR0 : RepM S F A) {V : Int → Int} {a b t : Int} (hS : St 0 V F A) (ha : isB S a) (hb : isB S b) (ht : isT t) : MetX l yX8_leftOver cX8_leftOver 6 (some (.int)) 5 117 D ids β sh N R F A [rf 0, pI a, pI b, pI t, pI 1] (pIr (Tq 134 F A 0 V (tadd (tmul (vS S b t 0) (tadd (vS S a t 3) (tneg (vS S b t 3)))) (tmul (vS S b t 2) (vS S b t 1))))) := by
  refine MetX.of (loc := [_, _, _, _, _, _]) (plainFor_of_name (by decide +kernel)) (Nat.le_of_ble_eq_true rfl) rfl ?_
  intro p e s m args below meth c hC hK hr hlk
  obtain ⟨⟨m0, m1⟩, ⟨rx0, r2, r3, r7, r8, r9, r11, r12, r13, r16, r18⟩, ⟨m2, m3⟩, ⟨m4, m5⟩, ⟨m6, m7⟩, ⟨m8, m9⟩, ⟨m10, m11⟩, ⟨m12, m13⟩, ⟨m14, m15⟩, ⟨m16, m17⟩, ⟨m18, m19⟩, ⟨m20, m21⟩, ⟨m22, m23⟩⟩ := id hM
  obtain ⟨hi, b1, b2, b3, b4, b5, b6, b7, b8⟩ := id hR0
  have i1 := hi.1
  have n16 := hi.1.2
  have a16 := ha.2
  have b16 := hb.2
  have a00 := ha.1
  have b00 := hb.1
  refine x_aload_n (pc2 := 1) hC rfl rfl dX8_leftOver_0 rfl ?_
  refine x_aload_n (pc2 := 2) hC rfl rfl dX8_leftOver_1 rfl ?_
  refine x_iload_n (pc2 := 3) hC rfl rfl dX8_leftOver_2 rfl ?_
  refine x_iload_n (pc2 := 4) hC rfl rfl dX8_leftOver_3 rfl ?_
  refine x_iconst (pc2 := 5) hC dX8_leftOver_4 rfl ?_
  refine x_iload (pc2 := 7) hC rfl dX8_leftOver_5 rfl ?_
  refine x_isub (pc2 := 8) hC dX8_leftOver_7 rfl ?_
  refine x_iconst (pc2 := 9) hC dX8_leftOver_8 rfl ?_
  refine x_iload (pc2 := 11) hC rfl dX8_leftOver_9 rfl ?_
  refine x_isub (pc2 := 12) hC dX8_leftOver_11 rfl ?_
  refine x_cVi (pc2 := 15) (ci := 8) hC hK (t_entry l hM hS (by decide) ⟨by omega, by omega⟩ (x := vS S b t 0) (show held (A 2) (96 * b + 24 * t + 6 * (2 * 0 + 0)) (vS S b t 0) from b6 b t 0 hb ht ⟨by decide, by decide⟩) ((hi.2.1 b hb).2 t 0 ht ⟨by decide, by decide⟩).1.2.2) lk_985 rfl rfl (by decide) (by assumption) (by assumption) ⟨Nat.le_of_ble_eq_true rfl, Nat.le_of_ble_eq_true rfl⟩ ⟨Nat.le_refl _, Nat.le_refl _⟩ rfl (Nat.le_of_ble_eq_true rfl) dX8_leftOver_12 rfl ?_
  rintro z12 F12 A12 ⟨ez12, V12, hS12, v12, k12, g12⟩
  obtain rfl := ez12.symm
  replace hS12 : St 18 V12 F12 A12 := hS12
  rw [show (0 : Int) + 15 = 15 from rfl]
  obtain ⟨wj12, ewj12⟩ : ∃ w : T3, w = vS S b t 0 := ⟨_, rfl⟩
  have uwj12 : tr V12 15 = wj12 := by rw [ewj12]; exact v12
  have bwj12 : bdt 25 25 wj12 := by rw [ewj12]; exact (ok_bdt ((hi.2.1 b hb).2 t 0 ht ⟨by decide, by decide⟩).1)
  clear v12
  refine x_aload_n (pc2 := 16) hC rfl rfl dX8_leftOver_15 rfl ?_
  refine x_aload_n (pc2 := 17) hC rfl rfl dX8_leftOver_16 rfl ?_
  refine x_iload_n (pc2 := 18) hC rfl rfl dX8_leftOver_17 rfl ?_
  refine x_iload_n (pc2 := 19) hC rfl rfl dX8_leftOver_18 rfl ?_
  refine x_iload (pc2 := 21) hC rfl dX8_leftOver_19 rfl ?_
  refine x_iload (pc2 := 23) hC rfl dX8_leftOver_21 rfl ?_
  refine x_cVi (pc2 := 26) (ci := 8) hC hK (t_entry l hM hS12 (by decide) ⟨by omega, by omega⟩ (x := vS S a t 3) (by rw [g12.a (by decide)]; exact (show held (A 2) (96 * a + 24 * t + 6 * (2 * 1 + 1)) (vS S a t 3) from b6 a t 3 ha ht ⟨by decide, by decide⟩)) ((hi.2.1 a ha).2 t 3 ht ⟨by decide, by decide⟩).1.2.2) lk_985 rfl rfl (by decide) (by assumption) (by assumption) ⟨Nat.le_of_ble_eq_true rfl, Nat.le_of_ble_eq_true rfl⟩ ⟨Nat.le_refl _, Nat.le_refl _⟩ rfl (Nat.le_of_ble_eq_true rfl) dX8_leftOver_23 rfl ?_
  rintro z23 F23 A23 ⟨ez23, V23, hS23, v23, k23, g23⟩
  obtain rfl := ez23.symm
  replace hS23 : St 36 V23 F23 A23 := hS23
  have t23_wj12 : tr V23 15 = wj12 := (tr_keep (by decide) k23).trans uwj12
  rw [show (18 : Int) + 15 = 33 from rfl]
  obtain ⟨wj23, ewj23⟩ : ∃ w : T3, w = vS S a t 3 := ⟨_, rfl⟩
  have uwj23 : tr V23 33 = wj23 := by rw [ewj23]; exact v23
  have bwj23 : bdt 25 25 wj23 := by rw [ewj23]; exact (ok_bdt ((hi.2.1 a ha).2 t 3 ht ⟨by decide, by decide⟩).1)
  clear v23
  refine x_aload_n (pc2 := 27) hC rfl rfl dX8_leftOver_26 rfl ?_
  refine x_iload_n (pc2 := 28) hC rfl rfl dX8_leftOver_27 rfl ?_
  refine x_iload_n (pc2 := 29) hC rfl rfl dX8_leftOver_28 rfl ?_
  refine x_iload (pc2 := 31) hC rfl dX8_leftOver_29 rfl ?_
  refine x_iload (pc2 := 33) hC rfl dX8_leftOver_31 rfl ?_
  refine x_cVi (pc2 := 36) (ci := 8) hC hK (t_entry l hM hS23 (by decide) ⟨by omega, by omega⟩ (x := vS S b t 3) (by rw [(g12.tr g23).a (by decide)]; exact (show held (A 2) (96 * b + 24 * t + 6 * (2 * 1 + 1)) (vS S b t 3) from b6 b t 3 hb ht ⟨by decide, by decide⟩)) ((hi.2.1 b hb).2 t 3 ht ⟨by decide, by decide⟩).1.2.2) lk_985 rfl rfl (by decide) (by assumption) (by assumption) ⟨Nat.le_of_ble_eq_true rfl, Nat.le_of_ble_eq_true rfl⟩ ⟨Nat.le_refl _, Nat.le_refl _⟩ rfl (Nat.le_of_ble_eq_true rfl) dX8_leftOver_33 rfl ?_
  rintro z33 F33 A33 ⟨ez33, V33, hS33, v33, k33, g33⟩
  obtain rfl := ez33.symm
  replace hS33 : St 54 V33 F33 A33 := hS33
  have t33_wj12 : tr V33 15 = wj12 := (tr_keep (by decide) k33).trans t23_wj12
  have t33_wj23 : tr V33 33 = wj23 := (tr_keep (by decide) k33).trans uwj23
  rw [show (36 : Int) + 15 = 51 from rfl]
  obtain ⟨wj33, ewj33⟩ : ∃ w : T3, w = vS S b t 3 := ⟨_, rfl⟩
  have uwj33 : tr V33 51 = wj33 := by rw [ewj33]; exact v33
  have bwj33 : bdt 25 25 wj33 := by rw [ewj33]; exact (ok_bdt ((hi.2.1 b hb).2 t 3 ht ⟨by decide, by decide⟩).1)
  clear v33
  refine x_cVi (pc2 := 39) (ci := 8) hC hK (t_sub l hM hS33 (x := 33) (y := 51) ⟨by decide, by decide⟩ ⟨by decide, by decide⟩ t33_wj23 uwj33 bwj23 bwj33 (by decide) ⟨by decide, by decide, by decide⟩) lk_1012 rfl rfl (by decide) (by assumption) (by assumption) ⟨Nat.le_of_ble_eq_true rfl, Nat.le_of_ble_eq_true rfl⟩ ⟨Nat.le_refl _, Nat.le_refl _⟩ rfl (Nat.le_of_ble_eq_true rfl) dX8_leftOver_36 rfl ?_
  rintro z36 F36 A36 ⟨ez36, V36, hS36, v36, k36, g36⟩
  obtain rfl := ez36.symm
  replace hS36 : St 69 V36 F36 A36 := hS36
  have t36_wj12 : tr V36 15 = wj12 := (tr_keep (by decide) k36).trans t33_wj12
  have t36_wj23 : tr V36 33 = wj23 := (tr_keep (by decide) k36).trans t33_wj23
  have t36_wj33 : tr V36 51 = wj33 := (tr_keep (by decide) k36).trans uwj33
  rw [show (54 : Int) + 12 = 66 from rfl]
  obtain ⟨wj36, ewj36⟩ : ∃ w : T3, w = tadd wj23 (tneg wj33) := ⟨_, rfl⟩
  have uwj36 : tr V36 66 = wj36 := by rw [ewj36]; exact v36
  have bwj36 : bdt 51 50 wj36 := by rw [ewj36]; exact (bdt_add bwj23 (bdt_neg bwj33) (by decide) (by decide) (by decide))
  clear v36
  refine x_cVi (pc2 := 42) (ci := 8) hC hK (t_product l hM hS36 (x := 15) (y := 66) ⟨by decide, by decide⟩ ⟨by decide, by decide⟩ t36_wj12 uwj36 bwj12 bwj36 (by decide) ⟨by decide, by decide⟩) lk_1004 rfl rfl (by decide) (by assumption) (by assumption) ⟨Nat.le_of_ble_eq_true rfl, Nat.le_of_ble_eq_true rfl⟩ ⟨Nat.le_refl _, Nat.le_refl _⟩ rfl (Nat.le_of_ble_eq_true rfl) dX8_leftOver_39 rfl ?_
  rintro z39 F39 A39 ⟨ez39, V39, hS39, v39, k39, g39⟩
  obtain rfl := ez39.symm
  replace hS39 : St 80 V39 F39 A39 := hS39
  have t39_wj12 : tr V39 15 = wj12 := (tr_keep (by decide) k39).trans t36_wj12
  have t39_wj23 : tr V39 33 = wj23 := (tr_keep (by decide) k39).trans t36_wj23
  have t39_wj33 : tr V39 51 = wj33 := (tr_keep (by decide) k39).trans t36_wj33
  have t39_wj36 : tr V39 66 = wj36 := (tr_keep (by decide) k39).trans uwj36
  rw [show (69 : Int) + 8 = 77 from rfl]
  obtain ⟨wj39, ewj39⟩ : ∃ w : T3, w = tmul wj12 wj36 := ⟨_, rfl⟩
  have uwj39 : tr V39 77 = wj39 := by rw [ewj39]; exact v39
  have bwj39 : bdt 77 75 wj39 := by rw [ewj39]; exact (bdt_mul bwj12 bwj36 (by decide) (by decide))
  clear v39
  refine x_istore (pc2 := 44) (loc2 := [_, _, _, _, _, _]) hC (by decide) rfl dX8_leftOver_42 rfl ?_
  refine x_aload_n (pc2 := 45) hC rfl rfl dX8_leftOver_44 rfl ?_
  refine x_iload (pc2 := 47) hC rfl dX8_leftOver_45 rfl ?_
  refine x_aload_n (pc2 := 48) hC rfl rfl dX8_leftOver_47 rfl ?_
  refine x_aload_n (pc2 := 49) hC rfl rfl dX8_leftOver_48 rfl ?_
  refine x_iload_n (pc2 := 50) hC rfl rfl dX8_leftOver_49 rfl ?_
  refine x_iload_n (pc2 := 51) hC rfl rfl dX8_leftOver_50 rfl ?_
  refine x_iload (pc2 := 53) hC rfl dX8_leftOver_51 rfl ?_
  refine x_iconst (pc2 := 54) hC dX8_leftOver_53 rfl ?_
  refine x_iload (pc2 := 56) hC rfl dX8_leftOver_54 rfl ?_
  refine x_isub (pc2 := 57) hC dX8_leftOver_56 rfl ?_
  refine x_cVi (pc2 := 60) (ci := 8) hC hK (t_entry l hM hS39 (by decide) ⟨by omega, by omega⟩ (x := vS S b t 2) (by rw [((((g12.tr g23).tr g33).tr g36).tr g39).a (by decide)]; exact (show held (A 2) (96 * b + 24 * t + 6 * (2 * 1 + 0)) (vS S b t 2) from b6 b t 2 hb ht ⟨by decide, by decide⟩)) ((hi.2.1 b hb).2 t 2 ht ⟨by decide, by decide⟩).1.2.2) lk_985 rfl rfl (by decide) (by assumption) (by assumption) ⟨Nat.le_of_ble_eq_true rfl, Nat.le_of_ble_eq_true rfl⟩ ⟨Nat.le_refl _, Nat.le_refl _⟩ rfl (Nat.le_of_ble_eq_true rfl) dX8_leftOver_57 rfl ?_
  rintro z57 F57 A57 ⟨ez57, V57, hS57, v57, k57, g57⟩
  obtain rfl := ez57.symm
  replace hS57 : St 98 V57 F57 A57 := hS57
  have t57_wj12 : tr V57 15 = wj12 := (tr_keep (by decide) k57).trans t39_wj12
  have t57_wj23 : tr V57 33 = wj23 := (tr_keep (by decide) k57).trans t39_wj23
  have t57_wj33 : tr V57 51 = wj33 := (tr_keep (by decide) k57).trans t39_wj33
  have t57_wj36 : tr V57 66 = wj36 := (tr_keep (by decide) k57).trans t39_wj36
  have t57_wj39 : tr V57 77 = wj39 := (tr_keep (by decide) k57).trans uwj39
  rw [show (80 : Int) + 15 = 95 from rfl]
  obtain ⟨wj57, ewj57⟩ : ∃ w : T3, w = vS S b t 2 := ⟨_, rfl⟩
  have uwj57 : tr V57 95 = wj57 := by rw [ewj57]; exact v57
  have bwj57 : bdt 25 25 wj57 := by rw [ewj57]; exact (ok_bdt ((hi.2.1 b hb).2 t 2 ht ⟨by decide, by decide⟩).1)
  clear v57
  refine x_aload_n (pc2 := 61) hC rfl rfl dX8_leftOver_60 rfl ?_
  refine x_iload_n (pc2 := 62) hC rfl rfl dX8_leftOver_61 rfl ?_
  refine x_iload_n (pc2 := 63) hC rfl rfl dX8_leftOver_62 rfl ?_
  refine x_iconst (pc2 := 64) hC dX8_leftOver_63 rfl ?_
  refine x_iload (pc2 := 66) hC rfl dX8_leftOver_64 rfl ?_
  refine x_isub (pc2 := 67) hC dX8_leftOver_66 rfl ?_
  refine x_iload (pc2 := 69) hC rfl dX8_leftOver_67 rfl ?_
  refine x_cVi (pc2 := 72) (ci := 8) hC hK (t_entry l hM hS57 (by decide) ⟨by omega, by omega⟩ (x := vS S b t 1) (by rw [(((((g12.tr g23).tr g33).tr g36).tr g39).tr g57).a (by decide)]; exact (show held (A 2) (96 * b + 24 * t + 6 * (2 * 0 + 1)) (vS S b t 1) from b6 b t 1 hb ht ⟨by decide, by decide⟩)) ((hi.2.1 b hb).2 t 1 ht ⟨by decide, by decide⟩).1.2.2) lk_985 rfl rfl (by decide) (by assumption) (by assumption) ⟨Nat.le_of_ble_eq_true rfl, Nat.le_of_ble_eq_true rfl⟩ ⟨Nat.le_refl _, Nat.le_refl _⟩ rfl (Nat.le_of_ble_eq_true rfl) dX8_leftOver_69 rfl ?_
  rintro z69 F69 A69 ⟨ez69, V69, hS69, v69, k69, g69⟩
  obtain rfl := ez69.symm
  replace hS69 : St 116 V69 F69 A69 := hS69
  have t69_wj12 : tr V69 15 = wj12 := (tr_keep (by decide) k69).trans t57_wj12
  have t69_wj23 : tr V69 33 = wj23 := (tr_keep (by decide) k69).trans t57_wj23
  have t69_wj33 : tr V69 51 = wj33 := (tr_keep (by decide) k69).trans t57_wj33
  have t69_wj36 : tr V69 66 = wj36 := (tr_keep (by decide) k69).trans t57_wj36
  have t69_wj39 : tr V69 77 = wj39 := (tr_keep (by decide) k69).trans t57_wj39
  have t69_wj57 : tr V69 95 = wj57 := (tr_keep (by decide) k69).trans uwj57
  rw [show (98 : Int) + 15 = 113 from rfl]
  obtain ⟨wj69, ewj69⟩ : ∃ w : T3, w = vS S b t 1 := ⟨_, rfl⟩
  have uwj69 : tr V69 113 = wj69 := by rw [ewj69]; exact v69
  have bwj69 : bdt 25 25 wj69 := by rw [ewj69]; exact (ok_bdt ((hi.2.1 b hb).2 t 1 ht ⟨by decide, by decide⟩).1)
  clear v69
  refine x_cVi (pc2 := 75) (ci := 8) hC hK (t_product l hM hS69 (x := 95) (y := 113) ⟨by decide, by decide⟩ ⟨by decide, by decide⟩ t69_wj57 uwj69 bwj57 bwj69 (by decide) ⟨by decide, by decide⟩) lk_1004 rfl rfl (by decide) (by assumption) (by assumption) ⟨Nat.le_of_ble_eq_true rfl, Nat.le_of_ble_eq_true rfl⟩ ⟨Nat.le_refl _, Nat.le_refl _⟩ rfl (Nat.le_of_ble_eq_true rfl) dX8_leftOver_72 rfl ?_
  rintro z72 F72 A72 ⟨ez72, V72, hS72, v72, k72, g72⟩
  obtain rfl := ez72.symm
  replace hS72 : St 127 V72 F72 A72 := hS72
  have t72_wj12 : tr V72 15 = wj12 := (tr_keep (by decide) k72).trans t69_wj12
  have t72_wj23 : tr V72 33 = wj23 := (tr_keep (by decide) k72).trans t69_wj23
  have t72_wj33 : tr V72 51 = wj33 := (tr_keep (by decide) k72).trans t69_wj33
  have t72_wj36 : tr V72 66 = wj36 := (tr_keep (by decide) k72).trans t69_wj36
  have t72_wj39 : tr V72 77 = wj39 := (tr_keep (by decide) k72).trans t69_wj39
  have t72_wj57 : tr V72 95 = wj57 := (tr_keep (by decide) k72).trans t69_wj57
  have t72_wj69 : tr V72 113 = wj69 := (tr_keep (by decide) k72).trans uwj69
  rw [show (116 : Int) + 8 = 124 from rfl]
  obtain ⟨wj72, ewj72⟩ : ∃ w : T3, w = tmul wj57 wj69 := ⟨_, rfl⟩
  have uwj72 : tr V72 124 = wj72 := by rw [ewj72]; exact v72
  have bwj72 : bdt 51 50 wj72 := by rw [ewj72]; exact (bdt_mul bwj57 bwj69 (by decide) (by decide))
  clear v72
  refine x_cVi (pc2 := 78) (ci := 8) hC hK (t_added l hM hS72 (x := 77) (y := 124) ⟨by decide, by decide⟩ ⟨by decide, by decide⟩ t72_wj39 uwj72 bwj39 bwj72 (by decide) ⟨by decide, by decide, by decide⟩) lk_1020 rfl rfl (by decide) (by assumption) (by assumption) ⟨Nat.le_of_ble_eq_true rfl, Nat.le_of_ble_eq_true rfl⟩ ⟨Nat.le_refl _, Nat.le_refl _⟩ rfl (Nat.le_of_ble_eq_true rfl) dX8_leftOver_75 rfl ?_
  rintro z75 F75 A75 ⟨ez75, V75, hS75, v75, k75, g75⟩
  obtain rfl := ez75.symm
  replace hS75 : St 137 V75 F75 A75 := hS75
  have t75_wj12 : tr V75 15 = wj12 := (tr_keep (by decide) k75).trans t72_wj12
  have t75_wj23 : tr V75 33 = wj23 := (tr_keep (by decide) k75).trans t72_wj23
  have t75_wj33 : tr V75 51 = wj33 := (tr_keep (by decide) k75).trans t72_wj33
  have t75_wj36 : tr V75 66 = wj36 := (tr_keep (by decide) k75).trans t72_wj36
  have t75_wj39 : tr V75 77 = wj39 := (tr_keep (by decide) k75).trans t72_wj39
  have t75_wj57 : tr V75 95 = wj57 := (tr_keep (by decide) k75).trans t72_wj57
  have t75_wj69 : tr V75 113 = wj69 := (tr_keep (by decide) k75).trans t72_wj69
  have t75_wj72 : tr V75 124 = wj72 := (tr_keep (by decide) k75).trans uwj72
  rw [show (127 : Int) + 7 = 134 from rfl]
  obtain ⟨wj75, ewj75⟩ : ∃ w : T3, w = tadd wj39 wj72 := ⟨_, rfl⟩
  have uwj75 : tr V75 134 = wj75 := by rw [ewj75]; exact v75
  have bwj75 : bdt 128 125 wj75 := by rw [ewj75]; exact (bdt_add bwj39 bwj72 (by decide) (by decide) (by decide))
  clear v75
  exact x_iret hC hr hlk ⟨_, rfl, rfl, V75, hS75, (uwj75).trans (by rw [ewj75, ewj72, ewj39, ewj57, ewj69, ewj36, ewj12, ewj23, ewj33]), fun u hu => (k75 u (by omega)).trans ((k72 u (by omega)).trans ((k69 u (by omega)).trans ((k57 u (by omega)).trans ((k39 u (by omega)).trans ((k36 u (by omega)).trans ((k33 u (by omega)).trans ((k23 u (by omega)).trans (k12 u hu)))))))), ((((((((g12.tr g23).tr g33).tr g36).tr g39).tr g57).tr g69).tr g72).tr g75)⟩ dX8_leftOver_78
set_option maxHeartbeats 8000000 in
theorem t_left36_1 (l : Launch) {D : va_G} {ids : Nat → ClassId} {β : Nat} {sh : Nat → Nat × Nat} {N : Nat} {R : Nat → Nat → Option Nat} {F : Nat → Nat → Int} {A : Nat → Int → Int} {S : SP} (hM : MoL sh R N) (hR0 : RepM S F A) {V : Int → Int} {a b t : Int} (hS : St 36 V F A) (ha : isB S a) (hb : isB S b) (ht : isT t) : MetX l yX8_leftOver cX8_leftOver 6 (some (.int)) 5 117 D ids β sh N R F A [rf 0, pI a, pI b, pI t, pI 1] (pIr (Tq 134 F A 36 V (tadd (tmul (vS S b t 0) (tadd (vS S a t 3) (tneg (vS S b t 3)))) (tmul (vS S b t 2) (vS S b t 1))))) := by
  refine MetX.of (loc := [_, _, _, _, _, _]) (plainFor_of_name (by decide +kernel)) (Nat.le_of_ble_eq_true rfl) rfl ?_
  intro p e s m args below meth c hC hK hr hlk
  obtain ⟨⟨m0, m1⟩, ⟨rx0, r2, r3, r7, r8, r9, r11, r12, r13, r16, r18⟩, ⟨m2, m3⟩, ⟨m4, m5⟩, ⟨m6, m7⟩, ⟨m8, m9⟩, ⟨m10, m11⟩, ⟨m12, m13⟩, ⟨m14, m15⟩, ⟨m16, m17⟩, ⟨m18, m19⟩, ⟨m20, m21⟩, ⟨m22, m23⟩⟩ := id hM
  obtain ⟨hi, b1, b2, b3, b4, b5, b6, b7, b8⟩ := id hR0
  have i1 := hi.1
  have n16 := hi.1.2
  have a16 := ha.2
  have b16 := hb.2
  have a00 := ha.1
  have b00 := hb.1
  refine x_aload_n (pc2 := 1) hC rfl rfl dX8_leftOver_0 rfl ?_
  refine x_aload_n (pc2 := 2) hC rfl rfl dX8_leftOver_1 rfl ?_
  refine x_iload_n (pc2 := 3) hC rfl rfl dX8_leftOver_2 rfl ?_
  refine x_iload_n (pc2 := 4) hC rfl rfl dX8_leftOver_3 rfl ?_
  refine x_iconst (pc2 := 5) hC dX8_leftOver_4 rfl ?_
  refine x_iload (pc2 := 7) hC rfl dX8_leftOver_5 rfl ?_
  refine x_isub (pc2 := 8) hC dX8_leftOver_7 rfl ?_
  refine x_iconst (pc2 := 9) hC dX8_leftOver_8 rfl ?_
  refine x_iload (pc2 := 11) hC rfl dX8_leftOver_9 rfl ?_
  refine x_isub (pc2 := 12) hC dX8_leftOver_11 rfl ?_
  refine x_cVi (pc2 := 15) (ci := 8) hC hK (t_entry l hM hS (by decide) ⟨by omega, by omega⟩ (x := vS S b t 0) (show held (A 2) (96 * b + 24 * t + 6 * (2 * 0 + 0)) (vS S b t 0) from b6 b t 0 hb ht ⟨by decide, by decide⟩) ((hi.2.1 b hb).2 t 0 ht ⟨by decide, by decide⟩).1.2.2) lk_985 rfl rfl (by decide) (by assumption) (by assumption) ⟨Nat.le_of_ble_eq_true rfl, Nat.le_of_ble_eq_true rfl⟩ ⟨Nat.le_refl _, Nat.le_refl _⟩ rfl (Nat.le_of_ble_eq_true rfl) dX8_leftOver_12 rfl ?_
  rintro z12 F12 A12 ⟨ez12, V12, hS12, v12, k12, g12⟩
  obtain rfl := ez12.symm
  replace hS12 : St 54 V12 F12 A12 := hS12
  rw [show (36 : Int) + 15 = 51 from rfl]
  obtain ⟨wj12, ewj12⟩ : ∃ w : T3, w = vS S b t 0 := ⟨_, rfl⟩
  have uwj12 : tr V12 51 = wj12 := by rw [ewj12]; exact v12
  have bwj12 : bdt 25 25 wj12 := by rw [ewj12]; exact (ok_bdt ((hi.2.1 b hb).2 t 0 ht ⟨by decide, by decide⟩).1)
  clear v12
  refine x_aload_n (pc2 := 16) hC rfl rfl dX8_leftOver_15 rfl ?_
  refine x_aload_n (pc2 := 17) hC rfl rfl dX8_leftOver_16 rfl ?_
  refine x_iload_n (pc2 := 18) hC rfl rfl dX8_leftOver_17 rfl ?_
  refine x_iload_n (pc2 := 19) hC rfl rfl dX8_leftOver_18 rfl ?_
  refine x_iload (pc2 := 21) hC rfl dX8_leftOver_19 rfl ?_
  refine x_iload (pc2 := 23) hC rfl dX8_leftOver_21 rfl ?_
  refine x_cVi (pc2 := 26) (ci := 8) hC hK (t_entry l hM hS12 (by decide) ⟨by omega, by omega⟩ (x := vS S a t 3) (by rw [g12.a (by decide)]; exact (show held (A 2) (96 * a + 24 * t + 6 * (2 * 1 + 1)) (vS S a t 3) from b6 a t 3 ha ht ⟨by decide, by decide⟩)) ((hi.2.1 a ha).2 t 3 ht ⟨by decide, by decide⟩).1.2.2) lk_985 rfl rfl (by decide) (by assumption) (by assumption) ⟨Nat.le_of_ble_eq_true rfl, Nat.le_of_ble_eq_true rfl⟩ ⟨Nat.le_refl _, Nat.le_refl _⟩ rfl (Nat.le_of_ble_eq_true rfl) dX8_leftOver_23 rfl ?_
  rintro z23 F23 A23 ⟨ez23, V23, hS23, v23, k23, g23⟩
  obtain rfl := ez23.symm
  replace hS23 : St 72 V23 F23 A23 := hS23
  have t23_wj12 : tr V23 51 = wj12 := (tr_keep (by decide) k23).trans uwj12
  rw [show (54 : Int) + 15 = 69 from rfl]
  obtain ⟨wj23, ewj23⟩ : ∃ w : T3, w = vS S a t 3 := ⟨_, rfl⟩
  have uwj23 : tr V23 69 = wj23 := by rw [ewj23]; exact v23
  have bwj23 : bdt 25 25 wj23 := by rw [ewj23]; exact (ok_bdt ((hi.2.1 a ha).2 t 3 ht ⟨by decide, by decide⟩).1)
  clear v23
  refine x_aload_n (pc2 := 27) hC rfl rfl dX8_leftOver_26 rfl ?_
  refine x_iload_n (pc2 := 28) hC rfl rfl dX8_leftOver_27 rfl ?_
  refine x_iload_n (pc2 := 29) hC rfl rfl dX8_leftOver_28 rfl ?_
  refine x_iload (pc2 := 31) hC rfl dX8_leftOver_29 rfl ?_
  refine x_iload (pc2 := 33) hC rfl dX8_leftOver_31 rfl ?_
  refine x_cVi (pc2 := 36) (ci := 8) hC hK (t_entry l hM hS23 (by decide) ⟨by omega, by omega⟩ (x := vS S b t 3) (by rw [(g12.tr g23).a (by decide)]; exact (show held (A 2) (96 * b + 24 * t + 6 * (2 * 1 + 1)) (vS S b t 3) from b6 b t 3 hb ht ⟨by decide, by decide⟩)) ((hi.2.1 b hb).2 t 3 ht ⟨by decide, by decide⟩).1.2.2) lk_985 rfl rfl (by decide) (by assumption) (by assumption) ⟨Nat.le_of_ble_eq_true rfl, Nat.le_of_ble_eq_true rfl⟩ ⟨Nat.le_refl _, Nat.le_refl _⟩ rfl (Nat.le_of_ble_eq_true rfl) dX8_leftOver_33 rfl ?_
  rintro z33 F33 A33 ⟨ez33, V33, hS33, v33, k33, g33⟩
  obtain rfl := ez33.symm
  replace hS33 : St 90 V33 F33 A33 := hS33
  have t33_wj12 : tr V33 51 = wj12 := (tr_keep (by decide) k33).trans t23_wj12
  have t33_wj23 : tr V33 69 = wj23 := (tr_keep (by decide) k33).trans uwj23
  rw [show (72 : Int) + 15 = 87 from rfl]
  obtain ⟨wj33, ewj33⟩ : ∃ w : T3, w = vS S b t 3 := ⟨_, rfl⟩
  have uwj33 : tr V33 87 = wj33 := by rw [ewj33]; exact v33
  have bwj33 : bdt 25 25 wj33 := by rw [ewj33]; exact (ok_bdt ((hi.2.1 b hb).2 t 3 ht ⟨by decide, by decide⟩).1)
  clear v33
  refine x_cVi (pc2 := 39) (ci := 8) hC hK (t_sub l hM hS33 (x := 69) (y := 87) ⟨by decide, by decide⟩ ⟨by decide, by decide⟩ t33_wj23 uwj33 bwj23 bwj33 (by decide) ⟨by decide, by decide, by decide⟩) lk_1012 rfl rfl (by decide) (by assumption) (by assumption) ⟨Nat.le_of_ble_eq_true rfl, Nat.le_of_ble_eq_true rfl⟩ ⟨Nat.le_refl _, Nat.le_refl _⟩ rfl (Nat.le_of_ble_eq_true rfl) dX8_leftOver_36 rfl ?_
  rintro z36 F36 A36 ⟨ez36, V36, hS36, v36, k36, g36⟩
  obtain rfl := ez36.symm
  replace hS36 : St 105 V36 F36 A36 := hS36
  have t36_wj12 : tr V36 51 = wj12 := (tr_keep (by decide) k36).trans t33_wj12
  have t36_wj23 : tr V36 69 = wj23 := (tr_keep (by decide) k36).trans t33_wj23
  have t36_wj33 : tr V36 87 = wj33 := (tr_keep (by decide) k36).trans uwj33
  rw [show (90 : Int) + 12 = 102 from rfl]
  obtain ⟨wj36, ewj36⟩ : ∃ w : T3, w = tadd wj23 (tneg wj33) := ⟨_, rfl⟩
  have uwj36 : tr V36 102 = wj36 := by rw [ewj36]; exact v36
  have bwj36 : bdt 51 50 wj36 := by rw [ewj36]; exact (bdt_add bwj23 (bdt_neg bwj33) (by decide) (by decide) (by decide))
  clear v36
  refine x_cVi (pc2 := 42) (ci := 8) hC hK (t_product l hM hS36 (x := 51) (y := 102) ⟨by decide, by decide⟩ ⟨by decide, by decide⟩ t36_wj12 uwj36 bwj12 bwj36 (by decide) ⟨by decide, by decide⟩) lk_1004 rfl rfl (by decide) (by assumption) (by assumption) ⟨Nat.le_of_ble_eq_true rfl, Nat.le_of_ble_eq_true rfl⟩ ⟨Nat.le_refl _, Nat.le_refl _⟩ rfl (Nat.le_of_ble_eq_true rfl) dX8_leftOver_39 rfl ?_
  rintro z39 F39 A39 ⟨ez39, V39, hS39, v39, k39, g39⟩
  obtain rfl := ez39.symm
  replace hS39 : St 116 V39 F39 A39 := hS39
  have t39_wj12 : tr V39 51 = wj12 := (tr_keep (by decide) k39).trans t36_wj12
  have t39_wj23 : tr V39 69 = wj23 := (tr_keep (by decide) k39).trans t36_wj23
  have t39_wj33 : tr V39 87 = wj33 := (tr_keep (by decide) k39).trans t36_wj33
  have t39_wj36 : tr V39 102 = wj36 := (tr_keep (by decide) k39).trans uwj36
  rw [show (105 : Int) + 8 = 113 from rfl]
  obtain ⟨wj39, ewj39⟩ : ∃ w : T3, w = tmul wj12 wj36 := ⟨_, rfl⟩
  have uwj39 : tr V39 113 = wj39 := by rw [ewj39]; exact v39
  have bwj39 : bdt 77 75 wj39 := by rw [ewj39]; exact (bdt_mul bwj12 bwj36 (by decide) (by decide))
  clear v39
  refine x_istore (pc2 := 44) (loc2 := [_, _, _, _, _, _]) hC (by decide) rfl dX8_leftOver_42 rfl ?_
  refine x_aload_n (pc2 := 45) hC rfl rfl dX8_leftOver_44 rfl ?_
  refine x_iload (pc2 := 47) hC rfl dX8_leftOver_45 rfl ?_
  refine x_aload_n (pc2 := 48) hC rfl rfl dX8_leftOver_47 rfl ?_
  refine x_aload_n (pc2 := 49) hC rfl rfl dX8_leftOver_48 rfl ?_
  refine x_iload_n (pc2 := 50) hC rfl rfl dX8_leftOver_49 rfl ?_
  refine x_iload_n (pc2 := 51) hC rfl rfl dX8_leftOver_50 rfl ?_
  refine x_iload (pc2 := 53) hC rfl dX8_leftOver_51 rfl ?_
  refine x_iconst (pc2 := 54) hC dX8_leftOver_53 rfl ?_
  refine x_iload (pc2 := 56) hC rfl dX8_leftOver_54 rfl ?_
  refine x_isub (pc2 := 57) hC dX8_leftOver_56 rfl ?_
  refine x_cVi (pc2 := 60) (ci := 8) hC hK (t_entry l hM hS39 (by decide) ⟨by omega, by omega⟩ (x := vS S b t 2) (by rw [((((g12.tr g23).tr g33).tr g36).tr g39).a (by decide)]; exact (show held (A 2) (96 * b + 24 * t + 6 * (2 * 1 + 0)) (vS S b t 2) from b6 b t 2 hb ht ⟨by decide, by decide⟩)) ((hi.2.1 b hb).2 t 2 ht ⟨by decide, by decide⟩).1.2.2) lk_985 rfl rfl (by decide) (by assumption) (by assumption) ⟨Nat.le_of_ble_eq_true rfl, Nat.le_of_ble_eq_true rfl⟩ ⟨Nat.le_refl _, Nat.le_refl _⟩ rfl (Nat.le_of_ble_eq_true rfl) dX8_leftOver_57 rfl ?_
  rintro z57 F57 A57 ⟨ez57, V57, hS57, v57, k57, g57⟩
  obtain rfl := ez57.symm
  replace hS57 : St 134 V57 F57 A57 := hS57
  have t57_wj12 : tr V57 51 = wj12 := (tr_keep (by decide) k57).trans t39_wj12
  have t57_wj23 : tr V57 69 = wj23 := (tr_keep (by decide) k57).trans t39_wj23
  have t57_wj33 : tr V57 87 = wj33 := (tr_keep (by decide) k57).trans t39_wj33
  have t57_wj36 : tr V57 102 = wj36 := (tr_keep (by decide) k57).trans t39_wj36
  have t57_wj39 : tr V57 113 = wj39 := (tr_keep (by decide) k57).trans uwj39
  rw [show (116 : Int) + 15 = 131 from rfl]
  obtain ⟨wj57, ewj57⟩ : ∃ w : T3, w = vS S b t 2 := ⟨_, rfl⟩
  have uwj57 : tr V57 131 = wj57 := by rw [ewj57]; exact v57
  have bwj57 : bdt 25 25 wj57 := by rw [ewj57]; exact (ok_bdt ((hi.2.1 b hb).2 t 2 ht ⟨by decide, by decide⟩).1)
  clear v57
  refine x_aload_n (pc2 := 61) hC rfl rfl dX8_leftOver_60 rfl ?_
  refine x_iload_n (pc2 := 62) hC rfl rfl dX8_leftOver_61 rfl ?_
  refine x_iload_n (pc2 := 63) hC rfl rfl dX8_leftOver_62 rfl ?_
  refine x_iconst (pc2 := 64) hC dX8_leftOver_63 rfl ?_
  refine x_iload (pc2 := 66) hC rfl dX8_leftOver_64 rfl ?_
  refine x_isub (pc2 := 67) hC dX8_leftOver_66 rfl ?_
  refine x_iload (pc2 := 69) hC rfl dX8_leftOver_67 rfl ?_
  refine x_cVi (pc2 := 72) (ci := 8) hC hK (t_entry l hM hS57 (by decide) ⟨by omega, by omega⟩ (x := vS S b t 1) (by rw [(((((g12.tr g23).tr g33).tr g36).tr g39).tr g57).a (by decide)]; exact (show held (A 2) (96 * b + 24 * t + 6 * (2 * 0 + 1)) (vS S b t 1) from b6 b t 1 hb ht ⟨by decide, by decide⟩)) ((hi.2.1 b hb).2 t 1 ht ⟨by decide, by decide⟩).1.2.2) lk_985 rfl rfl (by decide) (by assumption) (by assumption) ⟨Nat.le_of_ble_eq_true rfl, Nat.le_of_ble_eq_true rfl⟩ ⟨Nat.le_refl _, Nat.le_refl _⟩ rfl (Nat.le_of_ble_eq_true rfl) dX8_leftOver_69 rfl ?_
  rintro z69 F69 A69 ⟨ez69, V69, hS69, v69, k69, g69⟩
  obtain rfl := ez69.symm
  replace hS69 : St 152 V69 F69 A69 := hS69
  have t69_wj12 : tr V69 51 = wj12 := (tr_keep (by decide) k69).trans t57_wj12
  have t69_wj23 : tr V69 69 = wj23 := (tr_keep (by decide) k69).trans t57_wj23
  have t69_wj33 : tr V69 87 = wj33 := (tr_keep (by decide) k69).trans t57_wj33
  have t69_wj36 : tr V69 102 = wj36 := (tr_keep (by decide) k69).trans t57_wj36
  have t69_wj39 : tr V69 113 = wj39 := (tr_keep (by decide) k69).trans t57_wj39
  have t69_wj57 : tr V69 131 = wj57 := (tr_keep (by decide) k69).trans uwj57
  rw [show (134 : Int) + 15 = 149 from rfl]
  obtain ⟨wj69, ewj69⟩ : ∃ w : T3, w = vS S b t 1 := ⟨_, rfl⟩
  have uwj69 : tr V69 149 = wj69 := by rw [ewj69]; exact v69
  have bwj69 : bdt 25 25 wj69 := by rw [ewj69]; exact (ok_bdt ((hi.2.1 b hb).2 t 1 ht ⟨by decide, by decide⟩).1)
  clear v69
  refine x_cVi (pc2 := 75) (ci := 8) hC hK (t_product l hM hS69 (x := 131) (y := 149) ⟨by decide, by decide⟩ ⟨by decide, by decide⟩ t69_wj57 uwj69 bwj57 bwj69 (by decide) ⟨by decide, by decide⟩) lk_1004 rfl rfl (by decide) (by assumption) (by assumption) ⟨Nat.le_of_ble_eq_true rfl, Nat.le_of_ble_eq_true rfl⟩ ⟨Nat.le_refl _, Nat.le_refl _⟩ rfl (Nat.le_of_ble_eq_true rfl) dX8_leftOver_72 rfl ?_
  rintro z72 F72 A72 ⟨ez72, V72, hS72, v72, k72, g72⟩
  obtain rfl := ez72.symm
  replace hS72 : St 163 V72 F72 A72 := hS72
  have t72_wj12 : tr V72 51 = wj12 := (tr_keep (by decide) k72).trans t69_wj12
  have t72_wj23 : tr V72 69 = wj23 := (tr_keep (by decide) k72).trans t69_wj23
  have t72_wj33 : tr V72 87 = wj33 := (tr_keep (by decide) k72).trans t69_wj33
  have t72_wj36 : tr V72 102 = wj36 := (tr_keep (by decide) k72).trans t69_wj36
  have t72_wj39 : tr V72 113 = wj39 := (tr_keep (by decide) k72).trans t69_wj39
  have t72_wj57 : tr V72 131 = wj57 := (tr_keep (by decide) k72).trans t69_wj57
  have t72_wj69 : tr V72 149 = wj69 := (tr_keep (by decide) k72).trans uwj69
  rw [show (152 : Int) + 8 = 160 from rfl]
  obtain ⟨wj72, ewj72⟩ : ∃ w : T3, w = tmul wj57 wj69 := ⟨_, rfl⟩
  have uwj72 : tr V72 160 = wj72 := by rw [ewj72]; exact v72
  have bwj72 : bdt 51 50 wj72 := by rw [ewj72]; exact (bdt_mul bwj57 bwj69 (by decide) (by decide))
  clear v72
  refine x_cVi (pc2 := 78) (ci := 8) hC hK (t_added l hM hS72 (x := 113) (y := 160) ⟨by decide, by decide⟩ ⟨by decide, by decide⟩ t72_wj39 uwj72 bwj39 bwj72 (by decide) ⟨by decide, by decide, by decide⟩) lk_1020 rfl rfl (by decide) (by assumption) (by assumption) ⟨Nat.le_of_ble_eq_true rfl, Nat.le_of_ble_eq_true rfl⟩ ⟨Nat.le_refl _, Nat.le_refl _⟩ rfl (Nat.le_of_ble_eq_true rfl) dX8_leftOver_75 rfl ?_
  rintro z75 F75 A75 ⟨ez75, V75, hS75, v75, k75, g75⟩
  obtain rfl := ez75.symm
  replace hS75 : St 173 V75 F75 A75 := hS75
  have t75_wj12 : tr V75 51 = wj12 := (tr_keep (by decide) k75).trans t72_wj12
  have t75_wj23 : tr V75 69 = wj23 := (tr_keep (by decide) k75).trans t72_wj23
  have t75_wj33 : tr V75 87 = wj33 := (tr_keep (by decide) k75).trans t72_wj33
  have t75_wj36 : tr V75 102 = wj36 := (tr_keep (by decide) k75).trans t72_wj36
  have t75_wj39 : tr V75 113 = wj39 := (tr_keep (by decide) k75).trans t72_wj39
  have t75_wj57 : tr V75 131 = wj57 := (tr_keep (by decide) k75).trans t72_wj57
  have t75_wj69 : tr V75 149 = wj69 := (tr_keep (by decide) k75).trans t72_wj69
  have t75_wj72 : tr V75 160 = wj72 := (tr_keep (by decide) k75).trans uwj72
  rw [show (163 : Int) + 7 = 170 from rfl]
  obtain ⟨wj75, ewj75⟩ : ∃ w : T3, w = tadd wj39 wj72 := ⟨_, rfl⟩
  have uwj75 : tr V75 170 = wj75 := by rw [ewj75]; exact v75
  have bwj75 : bdt 128 125 wj75 := by rw [ewj75]; exact (bdt_add bwj39 bwj72 (by decide) (by decide) (by decide))
  clear v75
  exact x_iret hC hr hlk ⟨_, rfl, rfl, V75, hS75, (uwj75).trans (by rw [ewj75, ewj72, ewj39, ewj57, ewj69, ewj36, ewj12, ewj23, ewj33]), fun u hu => (k75 u (by omega)).trans ((k72 u (by omega)).trans ((k69 u (by omega)).trans ((k57 u (by omega)).trans ((k39 u (by omega)).trans ((k36 u (by omega)).trans ((k33 u (by omega)).trans ((k23 u (by omega)).trans (k12 u hu)))))))), ((((((((g12.tr g23).tr g33).tr g36).tr g39).tr g57).tr g69).tr g72).tr g75)⟩ dX8_leftOver_78
theorem dX8_without_0 : decode cX8_without 0 = .ok (.iload 5, 2) := by decide +kernel
theorem dX8_without_2 : decode cX8_without 2 = .ok (.tableswitch 127 0 2 #[26, 57, 92], 26) := by decide +kernel
theorem dX8_without_28 : decode cX8_without 28 = .ok (.aload_n 0, 1) := by decide +kernel
theorem dX8_without_29 : decode cX8_without 29 = .ok (.aload_n 0, 1) := by decide +kernel
theorem dX8_without_30 : decode cX8_without 30 = .ok (.aload_n 0, 1) := by decide +kernel
theorem dX8_without_31 : decode cX8_without 31 = .ok (.iload_n 1, 1) := by decide +kernel
theorem dX8_without_32 : decode cX8_without 32 = .ok (.iload_n 3, 1) := by decide +kernel
theorem dX8_without_33 : decode cX8_without 33 = .ok (.iload 4, 2) := by decide +kernel
theorem dX8_without_35 : decode cX8_without 35 = .ok (.iload 4, 2) := by decide +kernel
theorem dX8_without_37 : decode cX8_without 37 = .ok (.invokevirtual 200, 3) := by decide +kernel
theorem dX8_without_40 : decode cX8_without 40 = .ok (.aload_n 0, 1) := by decide +kernel
theorem dX8_without_41 : decode cX8_without 41 = .ok (.iload_n 2, 1) := by decide +kernel
theorem dX8_without_42 : decode cX8_without 42 = .ok (.iload_n 3, 1) := by decide +kernel
theorem dX8_without_43 : decode cX8_without 43 = .ok (.iload 4, 2) := by decide +kernel
theorem dX8_without_45 : decode cX8_without 45 = .ok (.iload 4, 2) := by decide +kernel
theorem dX8_without_47 : decode cX8_without 47 = .ok (.invokevirtual 200, 3) := by decide +kernel
theorem dX8_without_50 : decode cX8_without 50 = .ok (.invokevirtual 203, 3) := by decide +kernel
theorem dX8_without_53 : decode cX8_without 53 = .ok (.iload 6, 2) := by decide +kernel
theorem dX8_without_55 : decode cX8_without 55 = .ok (.invokevirtual 219, 3) := by decide +kernel
theorem dX8_without_58 : decode cX8_without 58 = .ok (.ireturn, 1) := by decide +kernel
theorem dX8_without_59 : decode cX8_without 59 = .ok (.aload_n 0, 1) := by decide +kernel
theorem dX8_without_60 : decode cX8_without 60 = .ok (.aload_n 0, 1) := by decide +kernel
theorem dX8_without_61 : decode cX8_without 61 = .ok (.aload_n 0, 1) := by decide +kernel
theorem dX8_without_62 : decode cX8_without 62 = .ok (.iload_n 1, 1) := by decide +kernel
theorem dX8_without_63 : decode cX8_without 63 = .ok (.iload_n 3, 1) := by decide +kernel
theorem dX8_without_64 : decode cX8_without 64 = .ok (.iload 4, 2) := by decide +kernel
theorem dX8_without_66 : decode cX8_without 66 = .ok (.iconst 1, 1) := by decide +kernel
theorem dX8_without_67 : decode cX8_without 67 = .ok (.iload 4, 2) := by decide +kernel
theorem dX8_without_69 : decode cX8_without 69 = .ok (.isub, 1) := by decide +kernel
theorem dX8_without_70 : decode cX8_without 70 = .ok (.invokevirtual 200, 3) := by decide +kernel
theorem dX8_without_73 : decode cX8_without 73 = .ok (.aload_n 0, 1) := by decide +kernel
theorem dX8_without_74 : decode cX8_without 74 = .ok (.iload_n 2, 1) := by decide +kernel
theorem dX8_without_75 : decode cX8_without 75 = .ok (.iload_n 3, 1) := by decide +kernel
theorem dX8_without_76 : decode cX8_without 76 = .ok (.iconst 1, 1) := by decide +kernel
theorem dX8_without_77 : decode cX8_without 77 = .ok (.iload 4, 2) := by decide +kernel
theorem dX8_without_79 : decode cX8_without 79 = .ok (.isub, 1) := by decide +kernel
theorem dX8_without_80 : decode cX8_without 80 = .ok (.iload 4, 2) := by decide +kernel
theorem dX8_without_82 : decode cX8_without 82 = .ok (.invokevirtual 200, 3) := by decide +kernel
theorem dX8_without_85 : decode cX8_without 85 = .ok (.invokevirtual 118, 3) := by decide +kernel
theorem dX8_without_88 : decode cX8_without 88 = .ok (.iload 6, 2) := by decide +kernel
theorem dX8_without_90 : decode cX8_without 90 = .ok (.invokevirtual 219, 3) := by decide +kernel
theorem dX8_without_93 : decode cX8_without 93 = .ok (.ireturn, 1) := by decide +kernel
theorem dX8_without_94 : decode cX8_without 94 = .ok (.aload_n 0, 1) := by decide +kernel
theorem dX8_without_95 : decode cX8_without 95 = .ok (.aload_n 0, 1) := by decide +kernel
theorem dX8_without_96 : decode cX8_without 96 = .ok (.aload_n 0, 1) := by decide +kernel
theorem dX8_without_97 : decode cX8_without 97 = .ok (.iload_n 1, 1) := by decide +kernel
theorem dX8_without_98 : decode cX8_without 98 = .ok (.iload_n 3, 1) := by decide +kernel
theorem dX8_without_99 : decode cX8_without 99 = .ok (.iconst 1, 1) := by decide +kernel
theorem dX8_without_100 : decode cX8_without 100 = .ok (.iload 4, 2) := by decide +kernel
theorem dX8_without_102 : decode cX8_without 102 = .ok (.isub, 1) := by decide +kernel
theorem dX8_without_103 : decode cX8_without 103 = .ok (.iload 4, 2) := by decide +kernel
theorem dX8_without_105 : decode cX8_without 105 = .ok (.invokevirtual 200, 3) := by decide +kernel
theorem dX8_without_108 : decode cX8_without 108 = .ok (.aload_n 0, 1) := by decide +kernel
theorem dX8_without_109 : decode cX8_without 109 = .ok (.iload_n 2, 1) := by decide +kernel
theorem dX8_without_110 : decode cX8_without 110 = .ok (.iload_n 3, 1) := by decide +kernel
theorem dX8_without_111 : decode cX8_without 111 = .ok (.iload 4, 2) := by decide +kernel
theorem dX8_without_113 : decode cX8_without 113 = .ok (.iconst 1, 1) := by decide +kernel
theorem dX8_without_114 : decode cX8_without 114 = .ok (.iload 4, 2) := by decide +kernel
theorem dX8_without_116 : decode cX8_without 116 = .ok (.isub, 1) := by decide +kernel
theorem dX8_without_117 : decode cX8_without 117 = .ok (.invokevirtual 200, 3) := by decide +kernel
theorem dX8_without_120 : decode cX8_without 120 = .ok (.invokevirtual 118, 3) := by decide +kernel
theorem dX8_without_123 : decode cX8_without 123 = .ok (.iload 6, 2) := by decide +kernel
theorem dX8_without_125 : decode cX8_without 125 = .ok (.invokevirtual 219, 3) := by decide +kernel
theorem dX8_without_128 : decode cX8_without 128 = .ok (.ireturn, 1) := by decide +kernel
theorem dX8_without_129 : decode cX8_without 129 = .ok (.aload_n 0, 1) := by decide +kernel
theorem dX8_without_130 : decode cX8_without 130 = .ok (.aload_n 0, 1) := by decide +kernel
theorem dX8_without_131 : decode cX8_without 131 = .ok (.iload_n 1, 1) := by decide +kernel
theorem dX8_without_132 : decode cX8_without 132 = .ok (.iload_n 3, 1) := by decide +kernel
theorem dX8_without_133 : decode cX8_without 133 = .ok (.iconst 1, 1) := by decide +kernel
theorem dX8_without_134 : decode cX8_without 134 = .ok (.iload 4, 2) := by decide +kernel
theorem dX8_without_136 : decode cX8_without 136 = .ok (.isub, 1) := by decide +kernel
theorem dX8_without_137 : decode cX8_without 137 = .ok (.iconst 1, 1) := by decide +kernel
theorem dX8_without_138 : decode cX8_without 138 = .ok (.iload 4, 2) := by decide +kernel
theorem dX8_without_140 : decode cX8_without 140 = .ok (.isub, 1) := by decide +kernel
theorem dX8_without_141 : decode cX8_without 141 = .ok (.invokevirtual 200, 3) := by decide +kernel
theorem dX8_without_144 : decode cX8_without 144 = .ok (.aload_n 0, 1) := by decide +kernel
theorem dX8_without_145 : decode cX8_without 145 = .ok (.aload_n 0, 1) := by decide +kernel
theorem dX8_without_146 : decode cX8_without 146 = .ok (.aload_n 0, 1) := by decide +kernel
theorem dX8_without_147 : decode cX8_without 147 = .ok (.iload_n 2, 1) := by decide +kernel
theorem dX8_without_148 : decode cX8_without 148 = .ok (.iload_n 3, 1) := by decide +kernel
theorem dX8_without_149 : decode cX8_without 149 = .ok (.iconst 1, 1) := by decide +kernel
theorem dX8_without_150 : decode cX8_without 150 = .ok (.iload 4, 2) := by decide +kernel
theorem dX8_without_152 : decode cX8_without 152 = .ok (.isub, 1) := by decide +kernel
theorem dX8_without_153 : decode cX8_without 153 = .ok (.iconst 1, 1) := by decide +kernel
theorem dX8_without_154 : decode cX8_without 154 = .ok (.iload 4, 2) := by decide +kernel
theorem dX8_without_156 : decode cX8_without 156 = .ok (.isub, 1) := by decide +kernel
theorem dX8_without_157 : decode cX8_without 157 = .ok (.invokevirtual 200, 3) := by decide +kernel
theorem dX8_without_160 : decode cX8_without 160 = .ok (.aload_n 0, 1) := by decide +kernel
theorem dX8_without_161 : decode cX8_without 161 = .ok (.aload_n 0, 1) := by decide +kernel
theorem dX8_without_162 : decode cX8_without 162 = .ok (.iload_n 1, 1) := by decide +kernel
theorem dX8_without_163 : decode cX8_without 163 = .ok (.iload_n 3, 1) := by decide +kernel
theorem dX8_without_164 : decode cX8_without 164 = .ok (.iload 4, 2) := by decide +kernel
theorem dX8_without_166 : decode cX8_without 166 = .ok (.iconst 1, 1) := by decide +kernel
theorem dX8_without_167 : decode cX8_without 167 = .ok (.iload 4, 2) := by decide +kernel
theorem dX8_without_169 : decode cX8_without 169 = .ok (.isub, 1) := by decide +kernel
theorem dX8_without_170 : decode cX8_without 170 = .ok (.invokevirtual 200, 3) := by decide +kernel
theorem dX8_without_173 : decode cX8_without 173 = .ok (.aload_n 0, 1) := by decide +kernel
theorem dX8_without_174 : decode cX8_without 174 = .ok (.iload_n 1, 1) := by decide +kernel
theorem dX8_without_175 : decode cX8_without 175 = .ok (.iload_n 3, 1) := by decide +kernel
theorem dX8_without_176 : decode cX8_without 176 = .ok (.iconst 1, 1) := by decide +kernel
theorem dX8_without_177 : decode cX8_without 177 = .ok (.iload 4, 2) := by decide +kernel
theorem dX8_without_179 : decode cX8_without 179 = .ok (.isub, 1) := by decide +kernel
theorem dX8_without_180 : decode cX8_without 180 = .ok (.iload 4, 2) := by decide +kernel
theorem dX8_without_182 : decode cX8_without 182 = .ok (.invokevirtual 200, 3) := by decide +kernel
theorem dX8_without_185 : decode cX8_without 185 = .ok (.invokevirtual 118, 3) := by decide +kernel
theorem dX8_without_188 : decode cX8_without 188 = .ok (.invokevirtual 118, 3) := by decide +kernel
theorem dX8_without_191 : decode cX8_without 191 = .ok (.iload 6, 2) := by decide +kernel
theorem dX8_without_193 : decode cX8_without 193 = .ok (.invokevirtual 219, 3) := by decide +kernel
theorem dX8_without_196 : decode cX8_without 196 = .ok (.invokevirtual 203, 3) := by decide +kernel
theorem dX8_without_199 : decode cX8_without 199 = .ok (.ireturn, 1) := by decide +kernel
set_option maxHeartbeats 8000000 in
theorem t_wo0_0 (l : Launch) {D : va_G} {ids : Nat → ClassId} {β : Nat} {sh : Nat → Nat × Nat} {N : Nat} {R : Nat → Nat → Option Nat} {F : Nat → Nat → Int} {A : Nat → Int → Int} {S : SP} (hM : MoL sh R N) (hR0 : RepM S F A) {V : Int → Int} {a b t : Int} {ve : T3} (hS : St 137 V F A) (ha : isB S a) (hb : isB S b) (ht : isT t) (he : tr V 134 = ve) (bve : bdt 128 125 ve) : MetX l yX8_without cX8_without 7 (some (.int)) 5 119 D ids β sh N R F A [rf 0, pI a, pI b, pI t, pI 0, pI 0, pI 134] (pIr (Tq 72 F A 137 V (tquo (tadd (vS S a t 0) (tneg (vS S b t 0))) ve))) := by
  refine MetX.of (loc := [_, _, _, _, _, _, _]) (plainFor_of_name (by decide +kernel)) (Nat.le_of_ble_eq_true rfl) rfl ?_
  intro p e s m args below meth c hC hK hr hlk
  obtain ⟨⟨m0, m1⟩, ⟨rx0, r2, r3, r7, r8, r9, r11, r12, r13, r16, r18⟩, ⟨m2, m3⟩, ⟨m4, m5⟩, ⟨m6, m7⟩, ⟨m8, m9⟩, ⟨m10, m11⟩, ⟨m12, m13⟩, ⟨m14, m15⟩, ⟨m16, m17⟩, ⟨m18, m19⟩, ⟨m20, m21⟩, ⟨m22, m23⟩⟩ := id hM
  obtain ⟨hi, b1, b2, b3, b4, b5, b6, b7, b8⟩ := id hR0
  have i1 := hi.1
  have n16 := hi.1.2
  have a16 := ha.2
  have b16 := hb.2
  have a00 := ha.1
  have b00 := hb.1
  refine x_iload (pc2 := 2) hC rfl dX8_without_0 rfl ?_
  refine x_tin (tgt := 28) hC (by decide) (by decide) (by decide) dX8_without_2 rfl rfl ?_
  refine x_aload_n (pc2 := 29) hC rfl rfl dX8_without_28 rfl ?_
  refine x_aload_n (pc2 := 30) hC rfl rfl dX8_without_29 rfl ?_
  refine x_aload_n (pc2 := 31) hC rfl rfl dX8_without_30 rfl ?_
  refine x_iload_n (pc2 := 32) hC rfl rfl dX8_without_31 rfl ?_
  refine x_iload_n (pc2 := 33) hC rfl rfl dX8_without_32 rfl ?_
  refine x_iload (pc2 := 35) hC rfl dX8_without_33 rfl ?_
  refine x_iload (pc2 := 37) hC rfl dX8_without_35 rfl ?_
  refine x_cVi (pc2 := 40) (ci := 8) hC hK (t_entry l hM hS (by decide) ⟨by omega, by omega⟩ (x := vS S a t 0) (show held (A 2) (96 * a + 24 * t + 6 * (2 * 0 + 0)) (vS S a t 0) from b6 a t 0 ha ht ⟨by decide, by decide⟩) ((hi.2.1 a ha).2 t 0 ht ⟨by decide, by decide⟩).1.2.2) lk_985 rfl rfl (by decide) (by assumption) (by assumption) ⟨Nat.le_of_ble_eq_true rfl, Nat.le_of_ble_eq_true rfl⟩ ⟨Nat.le_refl _, Nat.le_refl _⟩ rfl (Nat.le_of_ble_eq_true rfl) dX8_without_37 rfl ?_
  rintro z37 F37 A37 ⟨ez37, V37, hS37, v37, k37, g37⟩
  obtain rfl := ez37.symm
  replace hS37 : St 155 V37 F37 A37 := hS37
  have t37_ve : tr V37 134 = ve := (tr_keep (by decide) k37).trans he
  rw [show (137 : Int) + 15 = 152 from rfl]
  obtain ⟨wj37, ewj37⟩ : ∃ w : T3, w = vS S a t 0 := ⟨_, rfl⟩
  have uwj37 : tr V37 152 = wj37 := by rw [ewj37]; exact v37
  have bwj37 : bdt 25 25 wj37 := by rw [ewj37]; exact (ok_bdt ((hi.2.1 a ha).2 t 0 ht ⟨by decide, by decide⟩).1)
  clear v37
  refine x_aload_n (pc2 := 41) hC rfl rfl dX8_without_40 rfl ?_
  refine x_iload_n (pc2 := 42) hC rfl rfl dX8_without_41 rfl ?_
  refine x_iload_n (pc2 := 43) hC rfl rfl dX8_without_42 rfl ?_
  refine x_iload (pc2 := 45) hC rfl dX8_without_43 rfl ?_
  refine x_iload (pc2 := 47) hC rfl dX8_without_45 rfl ?_
  refine x_cVi (pc2 := 50) (ci := 8) hC hK (t_entry l hM hS37 (by decide) ⟨by omega, by omega⟩ (x := vS S b t 0) (by rw [g37.a (by decide)]; exact (show held (A 2) (96 * b + 24 * t + 6 * (2 * 0 + 0)) (vS S b t 0) from b6 b t 0 hb ht ⟨by decide, by decide⟩)) ((hi.2.1 b hb).2 t 0 ht ⟨by decide, by decide⟩).1.2.2) lk_985 rfl rfl (by decide) (by assumption) (by assumption) ⟨Nat.le_of_ble_eq_true rfl, Nat.le_of_ble_eq_true rfl⟩ ⟨Nat.le_refl _, Nat.le_refl _⟩ rfl (Nat.le_of_ble_eq_true rfl) dX8_without_47 rfl ?_
  rintro z47 F47 A47 ⟨ez47, V47, hS47, v47, k47, g47⟩
  obtain rfl := ez47.symm
  replace hS47 : St 173 V47 F47 A47 := hS47
  have t47_ve : tr V47 134 = ve := (tr_keep (by decide) k47).trans t37_ve
  have t47_wj37 : tr V47 152 = wj37 := (tr_keep (by decide) k47).trans uwj37
  rw [show (155 : Int) + 15 = 170 from rfl]
  obtain ⟨wj47, ewj47⟩ : ∃ w : T3, w = vS S b t 0 := ⟨_, rfl⟩
  have uwj47 : tr V47 170 = wj47 := by rw [ewj47]; exact v47
  have bwj47 : bdt 25 25 wj47 := by rw [ewj47]; exact (ok_bdt ((hi.2.1 b hb).2 t 0 ht ⟨by decide, by decide⟩).1)
  clear v47
  refine x_cVi (pc2 := 53) (ci := 8) hC hK (t_sub l hM hS47 (x := 152) (y := 170) ⟨by decide, by decide⟩ ⟨by decide, by decide⟩ t47_wj37 uwj47 bwj37 bwj47 (by decide) ⟨by decide, by decide, by decide⟩) lk_1012 rfl rfl (by decide) (by assumption) (by assumption) ⟨Nat.le_of_ble_eq_true rfl, Nat.le_of_ble_eq_true rfl⟩ ⟨Nat.le_refl _, Nat.le_refl _⟩ rfl (Nat.le_of_ble_eq_true rfl) dX8_without_50 rfl ?_
  rintro z50 F50 A50 ⟨ez50, V50, hS50, v50, k50, g50⟩
  obtain rfl := ez50.symm
  replace hS50 : St 188 V50 F50 A50 := hS50
  have t50_ve : tr V50 134 = ve := (tr_keep (by decide) k50).trans t47_ve
  have t50_wj37 : tr V50 152 = wj37 := (tr_keep (by decide) k50).trans t47_wj37
  have t50_wj47 : tr V50 170 = wj47 := (tr_keep (by decide) k50).trans uwj47
  rw [show (173 : Int) + 12 = 185 from rfl]
  obtain ⟨wj50, ewj50⟩ : ∃ w : T3, w = tadd wj37 (tneg wj47) := ⟨_, rfl⟩
  have uwj50 : tr V50 185 = wj50 := by rw [ewj50]; exact v50
  have bwj50 : bdt 51 50 wj50 := by rw [ewj50]; exact (bdt_add bwj37 (bdt_neg bwj47) (by decide) (by decide) (by decide))
  clear v50
  refine x_iload (pc2 := 55) hC rfl dX8_without_53 rfl ?_
  refine x_cVi (pc2 := 58) (ci := 8) hC hK (t_quo l hM hS50 (x := 185) (y := 134) ⟨by decide, by decide⟩ ⟨by decide, by decide⟩ uwj50 t50_ve bwj50 bve (by decide) ⟨by decide, by decide, by decide, by decide, by decide⟩) lk_1044 rfl rfl (by decide) (by assumption) (by assumption) ⟨Nat.le_of_ble_eq_true rfl, Nat.le_of_ble_eq_true rfl⟩ ⟨Nat.le_refl _, Nat.le_refl _⟩ rfl (Nat.le_of_ble_eq_true rfl) dX8_without_55 rfl ?_
  rintro z55 F55 A55 ⟨ez55, V55, hS55, v55, k55, g55⟩
  obtain rfl := ez55.symm
  replace hS55 : St 212 V55 F55 A55 := hS55
  have t55_ve : tr V55 134 = ve := (tr_keep (by decide) k55).trans t50_ve
  have t55_wj37 : tr V55 152 = wj37 := (tr_keep (by decide) k55).trans t50_wj37
  have t55_wj47 : tr V55 170 = wj47 := (tr_keep (by decide) k55).trans t50_wj47
  have t55_wj50 : tr V55 185 = wj50 := (tr_keep (by decide) k55).trans uwj50
  rw [show (188 : Int) + 21 = 209 from rfl]
  obtain ⟨wj55, ewj55⟩ : ∃ w : T3, w = tquo wj50 ve := ⟨_, rfl⟩
  have uwj55 : tr V55 209 = wj55 := by rw [ewj55]; exact v55
  have bwj55 : bdt 305 307 wj55 := by rw [ewj55]; exact (bdt_quo bwj50 bve (by decide) (by decide))
  clear v55
  exact x_iret hC hr hlk ⟨_, rfl, rfl, V55, hS55, (uwj55).trans (by rw [ewj55, ewj50, ewj37, ewj47]), fun u hu => (k55 u (by omega)).trans ((k50 u (by omega)).trans ((k47 u (by omega)).trans (k37 u hu))), (((g37.tr g47).tr g50).tr g55)⟩ dX8_without_58
set_option maxHeartbeats 8000000 in
theorem t_wo1_0 (l : Launch) {D : va_G} {ids : Nat → ClassId} {β : Nat} {sh : Nat → Nat × Nat} {N : Nat} {R : Nat → Nat → Option Nat} {F : Nat → Nat → Int} {A : Nat → Int → Int} {S : SP} (hM : MoL sh R N) (hR0 : RepM S F A) {V : Int → Int} {a b t : Int} {ve : T3} (hS : St 137 V F A) (ha : isB S a) (hb : isB S b) (ht : isT t) (he : tr V 134 = ve) (bve : bdt 128 125 ve) : MetX l yX8_without cX8_without 7 (some (.int)) 5 119 D ids β sh N R F A [rf 0, pI a, pI b, pI t, pI 0, pI 1, pI 134] (pIr (Tq 68 F A 137 V (tquo (tmul (vS S a t 1) (vS S b t 2)) ve))) := by
  refine MetX.of (loc := [_, _, _, _, _, _, _]) (plainFor_of_name (by decide +kernel)) (Nat.le_of_ble_eq_true rfl) rfl ?_
  intro p e s m args below meth c hC hK hr hlk
  obtain ⟨⟨m0, m1⟩, ⟨rx0, r2, r3, r7, r8, r9, r11, r12, r13, r16, r18⟩, ⟨m2, m3⟩, ⟨m4, m5⟩, ⟨m6, m7⟩, ⟨m8, m9⟩, ⟨m10, m11⟩, ⟨m12, m13⟩, ⟨m14, m15⟩, ⟨m16, m17⟩, ⟨m18, m19⟩, ⟨m20, m21⟩, ⟨m22, m23⟩⟩ := id hM
  obtain ⟨hi, b1, b2, b3, b4, b5, b6, b7, b8⟩ := id hR0
  have i1 := hi.1
  have n16 := hi.1.2
  have a16 := ha.2
  have b16 := hb.2
  have a00 := ha.1
  have b00 := hb.1
  refine x_iload (pc2 := 2) hC rfl dX8_without_0 rfl ?_
  refine x_tin (tgt := 59) hC (by decide) (by decide) (by decide) dX8_without_2 rfl rfl ?_
  refine x_aload_n (pc2 := 60) hC rfl rfl dX8_without_59 rfl ?_
  refine x_aload_n (pc2 := 61) hC rfl rfl dX8_without_60 rfl ?_
  refine x_aload_n (pc2 := 62) hC rfl rfl dX8_without_61 rfl ?_
  refine x_iload_n (pc2 := 63) hC rfl rfl dX8_without_62 rfl ?_
  refine x_iload_n (pc2 := 64) hC rfl rfl dX8_without_63 rfl ?_
  refine x_iload (pc2 := 66) hC rfl dX8_without_64 rfl ?_
  refine x_iconst (pc2 := 67) hC dX8_without_66 rfl ?_
  refine x_iload (pc2 := 69) hC rfl dX8_without_67 rfl ?_
  refine x_isub (pc2 := 70) hC dX8_without_69 rfl ?_
  refine x_cVi (pc2 := 73) (ci := 8) hC hK (t_entry l hM hS (by decide) ⟨by omega, by omega⟩ (x := vS S a t 1) (show held (A 2) (96 * a + 24 * t + 6 * (2 * 0 + 1)) (vS S a t 1) from b6 a t 1 ha ht ⟨by decide, by decide⟩) ((hi.2.1 a ha).2 t 1 ht ⟨by decide, by decide⟩).1.2.2) lk_985 rfl rfl (by decide) (by assumption) (by assumption) ⟨Nat.le_of_ble_eq_true rfl, Nat.le_of_ble_eq_true rfl⟩ ⟨Nat.le_refl _, Nat.le_refl _⟩ rfl (Nat.le_of_ble_eq_true rfl) dX8_without_70 rfl ?_
  rintro z70 F70 A70 ⟨ez70, V70, hS70, v70, k70, g70⟩
  obtain rfl := ez70.symm
  replace hS70 : St 155 V70 F70 A70 := hS70
  have t70_ve : tr V70 134 = ve := (tr_keep (by decide) k70).trans he
  rw [show (137 : Int) + 15 = 152 from rfl]
  obtain ⟨wj70, ewj70⟩ : ∃ w : T3, w = vS S a t 1 := ⟨_, rfl⟩
  have uwj70 : tr V70 152 = wj70 := by rw [ewj70]; exact v70
  have bwj70 : bdt 25 25 wj70 := by rw [ewj70]; exact (ok_bdt ((hi.2.1 a ha).2 t 1 ht ⟨by decide, by decide⟩).1)
  clear v70
  refine x_aload_n (pc2 := 74) hC rfl rfl dX8_without_73 rfl ?_
  refine x_iload_n (pc2 := 75) hC rfl rfl dX8_without_74 rfl ?_
  refine x_iload_n (pc2 := 76) hC rfl rfl dX8_without_75 rfl ?_
  refine x_iconst (pc2 := 77) hC dX8_without_76 rfl ?_
  refine x_iload (pc2 := 79) hC rfl dX8_without_77 rfl ?_
  refine x_isub (pc2 := 80) hC dX8_without_79 rfl ?_
  refine x_iload (pc2 := 82) hC rfl dX8_without_80 rfl ?_
  refine x_cVi (pc2 := 85) (ci := 8) hC hK (t_entry l hM hS70 (by decide) ⟨by omega, by omega⟩ (x := vS S b t 2) (by rw [g70.a (by decide)]; exact (show held (A 2) (96 * b + 24 * t + 6 * (2 * 1 + 0)) (vS S b t 2) from b6 b t 2 hb ht ⟨by decide, by decide⟩)) ((hi.2.1 b hb).2 t 2 ht ⟨by decide, by decide⟩).1.2.2) lk_985 rfl rfl (by decide) (by assumption) (by assumption) ⟨Nat.le_of_ble_eq_true rfl, Nat.le_of_ble_eq_true rfl⟩ ⟨Nat.le_refl _, Nat.le_refl _⟩ rfl (Nat.le_of_ble_eq_true rfl) dX8_without_82 rfl ?_
  rintro z82 F82 A82 ⟨ez82, V82, hS82, v82, k82, g82⟩
  obtain rfl := ez82.symm
  replace hS82 : St 173 V82 F82 A82 := hS82
  have t82_ve : tr V82 134 = ve := (tr_keep (by decide) k82).trans t70_ve
  have t82_wj70 : tr V82 152 = wj70 := (tr_keep (by decide) k82).trans uwj70
  rw [show (155 : Int) + 15 = 170 from rfl]
  obtain ⟨wj82, ewj82⟩ : ∃ w : T3, w = vS S b t 2 := ⟨_, rfl⟩
  have uwj82 : tr V82 170 = wj82 := by rw [ewj82]; exact v82
  have bwj82 : bdt 25 25 wj82 := by rw [ewj82]; exact (ok_bdt ((hi.2.1 b hb).2 t 2 ht ⟨by decide, by decide⟩).1)
  clear v82
  refine x_cVi (pc2 := 88) (ci := 8) hC hK (t_product l hM hS82 (x := 152) (y := 170) ⟨by decide, by decide⟩ ⟨by decide, by decide⟩ t82_wj70 uwj82 bwj70 bwj82 (by decide) ⟨by decide, by decide⟩) lk_1004 rfl rfl (by decide) (by assumption) (by assumption) ⟨Nat.le_of_ble_eq_true rfl, Nat.le_of_ble_eq_true rfl⟩ ⟨Nat.le_refl _, Nat.le_refl _⟩ rfl (Nat.le_of_ble_eq_true rfl) dX8_without_85 rfl ?_
  rintro z85 F85 A85 ⟨ez85, V85, hS85, v85, k85, g85⟩
  obtain rfl := ez85.symm
  replace hS85 : St 184 V85 F85 A85 := hS85
  have t85_ve : tr V85 134 = ve := (tr_keep (by decide) k85).trans t82_ve
  have t85_wj70 : tr V85 152 = wj70 := (tr_keep (by decide) k85).trans t82_wj70
  have t85_wj82 : tr V85 170 = wj82 := (tr_keep (by decide) k85).trans uwj82
  rw [show (173 : Int) + 8 = 181 from rfl]
  obtain ⟨wj85, ewj85⟩ : ∃ w : T3, w = tmul wj70 wj82 := ⟨_, rfl⟩
  have uwj85 : tr V85 181 = wj85 := by rw [ewj85]; exact v85
  have bwj85 : bdt 51 50 wj85 := by rw [ewj85]; exact (bdt_mul bwj70 bwj82 (by decide) (by decide))
  clear v85
  refine x_iload (pc2 := 90) hC rfl dX8_without_88 rfl ?_
  refine x_cVi (pc2 := 93) (ci := 8) hC hK (t_quo l hM hS85 (x := 181) (y := 134) ⟨by decide, by decide⟩ ⟨by decide, by decide⟩ uwj85 t85_ve bwj85 bve (by decide) ⟨by decide, by decide, by decide, by decide, by decide⟩) lk_1044 rfl rfl (by decide) (by assumption) (by assumption) ⟨Nat.le_of_ble_eq_true rfl, Nat.le_of_ble_eq_true rfl⟩ ⟨Nat.le_refl _, Nat.le_refl _⟩ rfl (Nat.le_of_ble_eq_true rfl) dX8_without_90 rfl ?_
  rintro z90 F90 A90 ⟨ez90, V90, hS90, v90, k90, g90⟩
  obtain rfl := ez90.symm
  replace hS90 : St 208 V90 F90 A90 := hS90
  have t90_ve : tr V90 134 = ve := (tr_keep (by decide) k90).trans t85_ve
  have t90_wj70 : tr V90 152 = wj70 := (tr_keep (by decide) k90).trans t85_wj70
  have t90_wj82 : tr V90 170 = wj82 := (tr_keep (by decide) k90).trans t85_wj82
  have t90_wj85 : tr V90 181 = wj85 := (tr_keep (by decide) k90).trans uwj85
  rw [show (184 : Int) + 21 = 205 from rfl]
  obtain ⟨wj90, ewj90⟩ : ∃ w : T3, w = tquo wj85 ve := ⟨_, rfl⟩
  have uwj90 : tr V90 205 = wj90 := by rw [ewj90]; exact v90
  have bwj90 : bdt 305 307 wj90 := by rw [ewj90]; exact (bdt_quo bwj85 bve (by decide) (by decide))
  clear v90
  exact x_iret hC hr hlk ⟨_, rfl, rfl, V90, hS90, (uwj90).trans (by rw [ewj90, ewj85, ewj70, ewj82]), fun u hu => (k90 u (by omega)).trans ((k85 u (by omega)).trans ((k82 u (by omega)).trans (k70 u hu))), (((g70.tr g82).tr g85).tr g90)⟩ dX8_without_93
set_option maxHeartbeats 8000000 in
theorem t_wo2_0 (l : Launch) {D : va_G} {ids : Nat → ClassId} {β : Nat} {sh : Nat → Nat × Nat} {N : Nat} {R : Nat → Nat → Option Nat} {F : Nat → Nat → Int} {A : Nat → Int → Int} {S : SP} (hM : MoL sh R N) (hR0 : RepM S F A) {V : Int → Int} {a b t : Int} {ve : T3} (hS : St 137 V F A) (ha : isB S a) (hb : isB S b) (ht : isT t) (he : tr V 134 = ve) (bve : bdt 128 125 ve) : MetX l yX8_without cX8_without 7 (some (.int)) 5 119 D ids β sh N R F A [rf 0, pI a, pI b, pI t, pI 0, pI 2, pI 134] (pIr (Tq 68 F A 137 V (tquo (tmul (vS S a t 2) (vS S b t 1)) ve))) := by
  refine MetX.of (loc := [_, _, _, _, _, _, _]) (plainFor_of_name (by decide +kernel)) (Nat.le_of_ble_eq_true rfl) rfl ?_
  intro p e s m args below meth c hC hK hr hlk
  obtain ⟨⟨m0, m1⟩, ⟨rx0, r2, r3, r7, r8, r9, r11, r12, r13, r16, r18⟩, ⟨m2, m3⟩, ⟨m4, m5⟩, ⟨m6, m7⟩, ⟨m8, m9⟩, ⟨m10, m11⟩, ⟨m12, m13⟩, ⟨m14, m15⟩, ⟨m16, m17⟩, ⟨m18, m19⟩, ⟨m20, m21⟩, ⟨m22, m23⟩⟩ := id hM
  obtain ⟨hi, b1, b2, b3, b4, b5, b6, b7, b8⟩ := id hR0
  have i1 := hi.1
  have n16 := hi.1.2
  have a16 := ha.2
  have b16 := hb.2
  have a00 := ha.1
  have b00 := hb.1
  refine x_iload (pc2 := 2) hC rfl dX8_without_0 rfl ?_
  refine x_tin (tgt := 94) hC (by decide) (by decide) (by decide) dX8_without_2 rfl rfl ?_
  refine x_aload_n (pc2 := 95) hC rfl rfl dX8_without_94 rfl ?_
  refine x_aload_n (pc2 := 96) hC rfl rfl dX8_without_95 rfl ?_
  refine x_aload_n (pc2 := 97) hC rfl rfl dX8_without_96 rfl ?_
  refine x_iload_n (pc2 := 98) hC rfl rfl dX8_without_97 rfl ?_
  refine x_iload_n (pc2 := 99) hC rfl rfl dX8_without_98 rfl ?_
  refine x_iconst (pc2 := 100) hC dX8_without_99 rfl ?_
  refine x_iload (pc2 := 102) hC rfl dX8_without_100 rfl ?_
  refine x_isub (pc2 := 103) hC dX8_without_102 rfl ?_
  refine x_iload (pc2 := 105) hC rfl dX8_without_103 rfl ?_
  refine x_cVi (pc2 := 108) (ci := 8) hC hK (t_entry l hM hS (by decide) ⟨by omega, by omega⟩ (x := vS S a t 2) (show held (A 2) (96 * a + 24 * t + 6 * (2 * 1 + 0)) (vS S a t 2) from b6 a t 2 ha ht ⟨by decide, by decide⟩) ((hi.2.1 a ha).2 t 2 ht ⟨by decide, by decide⟩).1.2.2) lk_985 rfl rfl (by decide) (by assumption) (by assumption) ⟨Nat.le_of_ble_eq_true rfl, Nat.le_of_ble_eq_true rfl⟩ ⟨Nat.le_refl _, Nat.le_refl _⟩ rfl (Nat.le_of_ble_eq_true rfl) dX8_without_105 rfl ?_
  rintro z105 F105 A105 ⟨ez105, V105, hS105, v105, k105, g105⟩
  obtain rfl := ez105.symm
  replace hS105 : St 155 V105 F105 A105 := hS105
  have t105_ve : tr V105 134 = ve := (tr_keep (by decide) k105).trans he
  rw [show (137 : Int) + 15 = 152 from rfl]
  obtain ⟨wj105, ewj105⟩ : ∃ w : T3, w = vS S a t 2 := ⟨_, rfl⟩
  have uwj105 : tr V105 152 = wj105 := by rw [ewj105]; exact v105
  have bwj105 : bdt 25 25 wj105 := by rw [ewj105]; exact (ok_bdt ((hi.2.1 a ha).2 t 2 ht ⟨by decide, by decide⟩).1)
  clear v105
  refine x_aload_n (pc2 := 109) hC rfl rfl dX8_without_108 rfl ?_
  refine x_iload_n (pc2 := 110) hC rfl rfl dX8_without_109 rfl ?_
  refine x_iload_n (pc2 := 111) hC rfl rfl dX8_without_110 rfl ?_
  refine x_iload (pc2 := 113) hC rfl dX8_without_111 rfl ?_
  refine x_iconst (pc2 := 114) hC dX8_without_113 rfl ?_
  refine x_iload (pc2 := 116) hC rfl dX8_without_114 rfl ?_
  refine x_isub (pc2 := 117) hC dX8_without_116 rfl ?_
  refine x_cVi (pc2 := 120) (ci := 8) hC hK (t_entry l hM hS105 (by decide) ⟨by omega, by omega⟩ (x := vS S b t 1) (by rw [g105.a (by decide)]; exact (show held (A 2) (96 * b + 24 * t + 6 * (2 * 0 + 1)) (vS S b t 1) from b6 b t 1 hb ht ⟨by decide, by decide⟩)) ((hi.2.1 b hb).2 t 1 ht ⟨by decide, by decide⟩).1.2.2) lk_985 rfl rfl (by decide) (by assumption) (by assumption) ⟨Nat.le_of_ble_eq_true rfl, Nat.le_of_ble_eq_true rfl⟩ ⟨Nat.le_refl _, Nat.le_refl _⟩ rfl (Nat.le_of_ble_eq_true rfl) dX8_without_117 rfl ?_
  rintro z117 F117 A117 ⟨ez117, V117, hS117, v117, k117, g117⟩
  obtain rfl := ez117.symm
  replace hS117 : St 173 V117 F117 A117 := hS117
  have t117_ve : tr V117 134 = ve := (tr_keep (by decide) k117).trans t105_ve
  have t117_wj105 : tr V117 152 = wj105 := (tr_keep (by decide) k117).trans uwj105
  rw [show (155 : Int) + 15 = 170 from rfl]
  obtain ⟨wj117, ewj117⟩ : ∃ w : T3, w = vS S b t 1 := ⟨_, rfl⟩
  have uwj117 : tr V117 170 = wj117 := by rw [ewj117]; exact v117
  have bwj117 : bdt 25 25 wj117 := by rw [ewj117]; exact (ok_bdt ((hi.2.1 b hb).2 t 1 ht ⟨by decide, by decide⟩).1)
  clear v117
  refine x_cVi (pc2 := 123) (ci := 8) hC hK (t_product l hM hS117 (x := 152) (y := 170) ⟨by decide, by decide⟩ ⟨by decide, by decide⟩ t117_wj105 uwj117 bwj105 bwj117 (by decide) ⟨by decide, by decide⟩) lk_1004 rfl rfl (by decide) (by assumption) (by assumption) ⟨Nat.le_of_ble_eq_true rfl, Nat.le_of_ble_eq_true rfl⟩ ⟨Nat.le_refl _, Nat.le_refl _⟩ rfl (Nat.le_of_ble_eq_true rfl) dX8_without_120 rfl ?_
  rintro z120 F120 A120 ⟨ez120, V120, hS120, v120, k120, g120⟩
  obtain rfl := ez120.symm
  replace hS120 : St 184 V120 F120 A120 := hS120
  have t120_ve : tr V120 134 = ve := (tr_keep (by decide) k120).trans t117_ve
  have t120_wj105 : tr V120 152 = wj105 := (tr_keep (by decide) k120).trans t117_wj105
  have t120_wj117 : tr V120 170 = wj117 := (tr_keep (by decide) k120).trans uwj117
  rw [show (173 : Int) + 8 = 181 from rfl]
  obtain ⟨wj120, ewj120⟩ : ∃ w : T3, w = tmul wj105 wj117 := ⟨_, rfl⟩
  have uwj120 : tr V120 181 = wj120 := by rw [ewj120]; exact v120
  have bwj120 : bdt 51 50 wj120 := by rw [ewj120]; exact (bdt_mul bwj105 bwj117 (by decide) (by decide))
  clear v120
  refine x_iload (pc2 := 125) hC rfl dX8_without_123 rfl ?_
  refine x_cVi (pc2 := 128) (ci := 8) hC hK (t_quo l hM hS120 (x := 181) (y := 134) ⟨by decide, by decide⟩ ⟨by decide, by decide⟩ uwj120 t120_ve bwj120 bve (by decide) ⟨by decide, by decide, by decide, by decide, by decide⟩) lk_1044 rfl rfl (by decide) (by assumption) (by assumption) ⟨Nat.le_of_ble_eq_true rfl, Nat.le_of_ble_eq_true rfl⟩ ⟨Nat.le_refl _, Nat.le_refl _⟩ rfl (Nat.le_of_ble_eq_true rfl) dX8_without_125 rfl ?_
  rintro z125 F125 A125 ⟨ez125, V125, hS125, v125, k125, g125⟩
  obtain rfl := ez125.symm
  replace hS125 : St 208 V125 F125 A125 := hS125
  have t125_ve : tr V125 134 = ve := (tr_keep (by decide) k125).trans t120_ve
  have t125_wj105 : tr V125 152 = wj105 := (tr_keep (by decide) k125).trans t120_wj105
  have t125_wj117 : tr V125 170 = wj117 := (tr_keep (by decide) k125).trans t120_wj117
  have t125_wj120 : tr V125 181 = wj120 := (tr_keep (by decide) k125).trans uwj120
  rw [show (184 : Int) + 21 = 205 from rfl]
  obtain ⟨wj125, ewj125⟩ : ∃ w : T3, w = tquo wj120 ve := ⟨_, rfl⟩
  have uwj125 : tr V125 205 = wj125 := by rw [ewj125]; exact v125
  have bwj125 : bdt 305 307 wj125 := by rw [ewj125]; exact (bdt_quo bwj120 bve (by decide) (by decide))
  clear v125
  exact x_iret hC hr hlk ⟨_, rfl, rfl, V125, hS125, (uwj125).trans (by rw [ewj125, ewj120, ewj105, ewj117]), fun u hu => (k125 u (by omega)).trans ((k120 u (by omega)).trans ((k117 u (by omega)).trans (k105 u hu))), (((g105.tr g117).tr g120).tr g125)⟩ dX8_without_128
set_option maxHeartbeats 8000000 in
theorem t_wo3_0 (l : Launch) {D : va_G} {ids : Nat → ClassId} {β : Nat} {sh : Nat → Nat × Nat} {N : Nat} {R : Nat → Nat → Option Nat} {F : Nat → Nat → Int} {A : Nat → Int → Int} {S : SP} (hM : MoL sh R N) (hR0 : RepM S F A) {V : Int → Int} {a b t : Int} {ve : T3} (hS : St 137 V F A) (ha : isB S a) (hb : isB S b) (ht : isT t) (he : tr V 134 = ve) (bve : bdt 128 125 ve) : MetX l yX8_without cX8_without 7 (some (.int)) 5 119 D ids β sh N R F A [rf 0, pI a, pI b, pI t, pI 0, pI 3, pI 134] (pIr (Tq 130 F A 137 V (tadd (vS S a t 3) (tneg (tquo (tmul (vS S b t 3) (tmul (vS S a t 1) (vS S a t 2))) ve))))) := by
  refine MetX.of (loc := [_, _, _, _, _, _, _]) (plainFor_of_name (by decide +kernel)) (Nat.le_of_ble_eq_true rfl) rfl ?_
  intro p e s m args below meth c hC hK hr hlk
  obtain ⟨⟨m0, m1⟩, ⟨rx0, r2, r3, r7, r8, r9, r11, r12, r13, r16, r18⟩, ⟨m2, m3⟩, ⟨m4, m5⟩, ⟨m6, m7⟩, ⟨m8, m9⟩, ⟨m10, m11⟩, ⟨m12, m13⟩, ⟨m14, m15⟩, ⟨m16, m17⟩, ⟨m18, m19⟩, ⟨m20, m21⟩, ⟨m22, m23⟩⟩ := id hM
  obtain ⟨hi, b1, b2, b3, b4, b5, b6, b7, b8⟩ := id hR0
  have i1 := hi.1
  have n16 := hi.1.2
  have a16 := ha.2
  have b16 := hb.2
  have a00 := ha.1
  have b00 := hb.1
  refine x_iload (pc2 := 2) hC rfl dX8_without_0 rfl ?_
  refine x_tout (tgt := 129) hC (by decide) (by decide) dX8_without_2 rfl ?_
  refine x_aload_n (pc2 := 130) hC rfl rfl dX8_without_129 rfl ?_
  refine x_aload_n (pc2 := 131) hC rfl rfl dX8_without_130 rfl ?_
  refine x_iload_n (pc2 := 132) hC rfl rfl dX8_without_131 rfl ?_
  refine x_iload_n (pc2 := 133) hC rfl rfl dX8_without_132 rfl ?_
  refine x_iconst (pc2 := 134) hC dX8_without_133 rfl ?_
  refine x_iload (pc2 := 136) hC rfl dX8_without_134 rfl ?_
  refine x_isub (pc2 := 137) hC dX8_without_136 rfl ?_
  refine x_iconst (pc2 := 138) hC dX8_without_137 rfl ?_
  refine x_iload (pc2 := 140) hC rfl dX8_without_138 rfl ?_
  refine x_isub (pc2 := 141) hC dX8_without_140 rfl ?_
  refine x_cVi (pc2 := 144) (ci := 8) hC hK (t_entry l hM hS (by decide) ⟨by omega, by omega⟩ (x := vS S a t 3) (show held (A 2) (96 * a + 24 * t + 6 * (2 * 1 + 1)) (vS S a t 3) from b6 a t 3 ha ht ⟨by decide, by decide⟩) ((hi.2.1 a ha).2 t 3 ht ⟨by decide, by decide⟩).1.2.2) lk_985 rfl rfl (by decide) (by assumption) (by assumption) ⟨Nat.le_of_ble_eq_true rfl, Nat.le_of_ble_eq_true rfl⟩ ⟨Nat.le_refl _, Nat.le_refl _⟩ rfl (Nat.le_of_ble_eq_true rfl) dX8_without_141 rfl ?_
  rintro z141 F141 A141 ⟨ez141, V141, hS141, v141, k141, g141⟩
  obtain rfl := ez141.symm
  replace hS141 : St 155 V141 F141 A141 := hS141
  have t141_ve : tr V141 134 = ve := (tr_keep (by decide) k141).trans he
  rw [show (137 : Int) + 15 = 152 from rfl]
  obtain ⟨wj141, ewj141⟩ : ∃ w : T3, w = vS S a t 3 := ⟨_, rfl⟩
  have uwj141 : tr V141 152 = wj141 := by rw [ewj141]; exact v141
  have bwj141 : bdt 25 25 wj141 := by rw [ewj141]; exact (ok_bdt ((hi.2.1 a ha).2 t 3 ht ⟨by decide, by decide⟩).1)
  clear v141
  refine x_aload_n (pc2 := 145) hC rfl rfl dX8_without_144 rfl ?_
  refine x_aload_n (pc2 := 146) hC rfl rfl dX8_without_145 rfl ?_
  refine x_aload_n (pc2 := 147) hC rfl rfl dX8_without_146 rfl ?_
  refine x_iload_n (pc2 := 148) hC rfl rfl dX8_without_147 rfl ?_
  refine x_iload_n (pc2 := 149) hC rfl rfl dX8_without_148 rfl ?_
  refine x_iconst (pc2 := 150) hC dX8_without_149 rfl ?_
  refine x_iload (pc2 := 152) hC rfl dX8_without_150 rfl ?_
  refine x_isub (pc2 := 153) hC dX8_without_152 rfl ?_
  refine x_iconst (pc2 := 154) hC dX8_without_153 rfl ?_
  refine x_iload (pc2 := 156) hC rfl dX8_without_154 rfl ?_
  refine x_isub (pc2 := 157) hC dX8_without_156 rfl ?_
  refine x_cVi (pc2 := 160) (ci := 8) hC hK (t_entry l hM hS141 (by decide) ⟨by omega, by omega⟩ (x := vS S b t 3) (by rw [g141.a (by decide)]; exact (show held (A 2) (96 * b + 24 * t + 6 * (2 * 1 + 1)) (vS S b t 3) from b6 b t 3 hb ht ⟨by decide, by decide⟩)) ((hi.2.1 b hb).2 t 3 ht ⟨by decide, by decide⟩).1.2.2) lk_985 rfl rfl (by decide) (by assumption) (by assumption) ⟨Nat.le_of_ble_eq_true rfl, Nat.le_of_ble_eq_true rfl⟩ ⟨Nat.le_refl _, Nat.le_refl _⟩ rfl (Nat.le_of_ble_eq_true rfl) dX8_without_157 rfl ?_
  rintro z157 F157 A157 ⟨ez157, V157, hS157, v157, k157, g157⟩
  obtain rfl := ez157.symm
  replace hS157 : St 173 V157 F157 A157 := hS157
  have t157_ve : tr V157 134 = ve := (tr_keep (by decide) k157).trans t141_ve
  have t157_wj141 : tr V157 152 = wj141 := (tr_keep (by decide) k157).trans uwj141
  rw [show (155 : Int) + 15 = 170 from rfl]
  obtain ⟨wj157, ewj157⟩ : ∃ w : T3, w = vS S b t 3 := ⟨_, rfl⟩
  have uwj157 : tr V157 170 = wj157 := by rw [ewj157]; exact v157
  have bwj157 : bdt 25 25 wj157 := by rw [ewj157]; exact (ok_bdt ((hi.2.1 b hb).2 t 3 ht ⟨by decide, by decide⟩).1)
  clear v157
  refine x_aload_n (pc2 := 161) hC rfl rfl dX8_without_160 rfl ?_
  refine x_aload_n (pc2 := 162) hC rfl rfl dX8_without_161 rfl ?_
  refine x_iload_n (pc2 := 163) hC rfl rfl dX8_without_162 rfl ?_
  refine x_iload_n (pc2 := 164) hC rfl rfl dX8_without_163 rfl ?_
  refine x_iload (pc2 := 166) hC rfl dX8_without_164 rfl ?_
  refine x_iconst (pc2 := 167) hC dX8_without_166 rfl ?_
  refine x_iload (pc2 := 169) hC rfl dX8_without_167 rfl ?_
  refine x_isub (pc2 := 170) hC dX8_without_169 rfl ?_
  refine x_cVi (pc2 := 173) (ci := 8) hC hK (t_entry l hM hS157 (by decide) ⟨by omega, by omega⟩ (x := vS S a t 1) (by rw [(g141.tr g157).a (by decide)]; exact (show held (A 2) (96 * a + 24 * t + 6 * (2 * 0 + 1)) (vS S a t 1) from b6 a t 1 ha ht ⟨by decide, by decide⟩)) ((hi.2.1 a ha).2 t 1 ht ⟨by decide, by decide⟩).1.2.2) lk_985 rfl rfl (by decide) (by assumption) (by assumption) ⟨Nat.le_of_ble_eq_true rfl, Nat.le_of_ble_eq_true rfl⟩ ⟨Nat.le_refl _, Nat.le_refl _⟩ rfl (Nat.le_of_ble_eq_true rfl) dX8_without_170 rfl ?_
  rintro z170 F170 A170 ⟨ez170, V170, hS170, v170, k170, g170⟩
  obtain rfl := ez170.symm
  replace hS170 : St 191 V170 F170 A170 := hS170
  have t170_ve : tr V170 134 = ve := (tr_keep (by decide) k170).trans t157_ve
  have t170_wj141 : tr V170 152 = wj141 := (tr_keep (by decide) k170).trans t157_wj141
  have t170_wj157 : tr V170 170 = wj157 := (tr_keep (by decide) k170).trans uwj157
  rw [show (173 : Int) + 15 = 188 from rfl]
  obtain ⟨wj170, ewj170⟩ : ∃ w : T3, w = vS S a t 1 := ⟨_, rfl⟩
  have uwj170 : tr V170 188 = wj170 := by rw [ewj170]; exact v170
  have bwj170 : bdt 25 25 wj170 := by rw [ewj170]; exact (ok_bdt ((hi.2.1 a ha).2 t 1 ht ⟨by decide, by decide⟩).1)
  clear v170
  refine x_aload_n (pc2 := 174) hC rfl rfl dX8_without_173 rfl ?_
  refine x_iload_n (pc2 := 175) hC rfl rfl dX8_without_174 rfl ?_
  refine x_iload_n (pc2 := 176) hC rfl rfl dX8_without_175 rfl ?_
  refine x_iconst (pc2 := 177) hC dX8_without_176 rfl ?_
  refine x_iload (pc2 := 179) hC rfl dX8_without_177 rfl ?_
  refine x_isub (pc2 := 180) hC dX8_without_179 rfl ?_
  refine x_iload (pc2 := 182) hC rfl dX8_without_180 rfl ?_
  refine x_cVi (pc2 := 185) (ci := 8) hC hK (t_entry l hM hS170 (by decide) ⟨by omega, by omega⟩ (x := vS S a t 2) (by rw [((g141.tr g157).tr g170).a (by decide)]; exact (show held (A 2) (96 * a + 24 * t + 6 * (2 * 1 + 0)) (vS S a t 2) from b6 a t 2 ha ht ⟨by decide, by decide⟩)) ((hi.2.1 a ha).2 t 2 ht ⟨by decide, by decide⟩).1.2.2) lk_985 rfl rfl (by decide) (by assumption) (by assumption) ⟨Nat.le_of_ble_eq_true rfl, Nat.le_of_ble_eq_true rfl⟩ ⟨Nat.le_refl _, Nat.le_refl _⟩ rfl (Nat.le_of_ble_eq_true rfl) dX8_without_182 rfl ?_
  rintro z182 F182 A182 ⟨ez182, V182, hS182, v182, k182, g182⟩
  obtain rfl := ez182.symm
  replace hS182 : St 209 V182 F182 A182 := hS182
  have t182_ve : tr V182 134 = ve := (tr_keep (by decide) k182).trans t170_ve
  have t182_wj141 : tr V182 152 = wj141 := (tr_keep (by decide) k182).trans t170_wj141
  have t182_wj157 : tr V182 170 = wj157 := (tr_keep (by decide) k182).trans t170_wj157
  have t182_wj170 : tr V182 188 = wj170 := (tr_keep (by decide) k182).trans uwj170
  rw [show (191 : Int) + 15 = 206 from rfl]
  obtain ⟨wj182, ewj182⟩ : ∃ w : T3, w = vS S a t 2 := ⟨_, rfl⟩
  have uwj182 : tr V182 206 = wj182 := by rw [ewj182]; exact v182
  have bwj182 : bdt 25 25 wj182 := by rw [ewj182]; exact (ok_bdt ((hi.2.1 a ha).2 t 2 ht ⟨by decide, by decide⟩).1)
  clear v182
  refine x_cVi (pc2 := 188) (ci := 8) hC hK (t_product l hM hS182 (x := 188) (y := 206) ⟨by decide, by decide⟩ ⟨by decide, by decide⟩ t182_wj170 uwj182 bwj170 bwj182 (by decide) ⟨by decide, by decide⟩) lk_1004 rfl rfl (by decide) (by assumption) (by assumption) ⟨Nat.le_of_ble_eq_true rfl, Nat.le_of_ble_eq_true rfl⟩ ⟨Nat.le_refl _, Nat.le_refl _⟩ rfl (Nat.le_of_ble_eq_true rfl) dX8_without_185 rfl ?_
  rintro z185 F185 A185 ⟨ez185, V185, hS185, v185, k185, g185⟩
  obtain rfl := ez185.symm
  replace hS185 : St 220 V185 F185 A185 := hS185
  have t185_ve : tr V185 134 = ve := (tr_keep (by decide) k185).trans t182_ve
  have t185_wj141 : tr V185 152 = wj141 := (tr_keep (by decide) k185).trans t182_wj141
  have t185_wj157 : tr V185 170 = wj157 := (tr_keep (by decide) k185).trans t182_wj157
  have t185_wj170 : tr V185 188 = wj170 := (tr_keep (by decide) k185).trans t182_wj170
  have t185_wj182 : tr V185 206 = wj182 := (tr_keep (by decide) k185).trans uwj182
  rw [show (209 : Int) + 8 = 217 from rfl]
  obtain ⟨wj185, ewj185⟩ : ∃ w : T3, w = tmul wj170 wj182 := ⟨_, rfl⟩
  have uwj185 : tr V185 217 = wj185 := by rw [ewj185]; exact v185
  have bwj185 : bdt 51 50 wj185 := by rw [ewj185]; exact (bdt_mul bwj170 bwj182 (by decide) (by decide))
  clear v185
  refine x_cVi (pc2 := 191) (ci := 8) hC hK (t_product l hM hS185 (x := 170) (y := 217) ⟨by decide, by decide⟩ ⟨by decide, by decide⟩ t185_wj157 uwj185 bwj157 bwj185 (by decide) ⟨by decide, by decide⟩) lk_1004 rfl rfl (by decide) (by assumption) (by assumption) ⟨Nat.le_of_ble_eq_true rfl, Nat.le_of_ble_eq_true rfl⟩ ⟨Nat.le_refl _, Nat.le_refl _⟩ rfl (Nat.le_of_ble_eq_true rfl) dX8_without_188 rfl ?_
  rintro z188 F188 A188 ⟨ez188, V188, hS188, v188, k188, g188⟩
  obtain rfl := ez188.symm
  replace hS188 : St 231 V188 F188 A188 := hS188
  have t188_ve : tr V188 134 = ve := (tr_keep (by decide) k188).trans t185_ve
  have t188_wj141 : tr V188 152 = wj141 := (tr_keep (by decide) k188).trans t185_wj141
  have t188_wj157 : tr V188 170 = wj157 := (tr_keep (by decide) k188).trans t185_wj157
  have t188_wj170 : tr V188 188 = wj170 := (tr_keep (by decide) k188).trans t185_wj170
  have t188_wj182 : tr V188 206 = wj182 := (tr_keep (by decide) k188).trans t185_wj182
  have t188_wj185 : tr V188 217 = wj185 := (tr_keep (by decide) k188).trans uwj185
  rw [show (220 : Int) + 8 = 228 from rfl]
  obtain ⟨wj188, ewj188⟩ : ∃ w : T3, w = tmul wj157 wj185 := ⟨_, rfl⟩
  have uwj188 : tr V188 228 = wj188 := by rw [ewj188]; exact v188
  have bwj188 : bdt 77 75 wj188 := by rw [ewj188]; exact (bdt_mul bwj157 bwj185 (by decide) (by decide))
  clear v188
  refine x_iload (pc2 := 193) hC rfl dX8_without_191 rfl ?_
  refine x_cVi (pc2 := 196) (ci := 8) hC hK (t_quo l hM hS188 (x := 228) (y := 134) ⟨by decide, by decide⟩ ⟨by decide, by decide⟩ uwj188 t188_ve bwj188 bve (by decide) ⟨by decide, by decide, by decide, by decide, by decide⟩) lk_1044 rfl rfl (by decide) (by assumption) (by assumption) ⟨Nat.le_of_ble_eq_true rfl, Nat.le_of_ble_eq_true rfl⟩ ⟨Nat.le_refl _, Nat.le_refl _⟩ rfl (Nat.le_of_ble_eq_true rfl) dX8_without_193 rfl ?_
  rintro z193 F193 A193 ⟨ez193, V193, hS193, v193, k193, g193⟩
  obtain rfl := ez193.symm
  replace hS193 : St 255 V193 F193 A193 := hS193
  have t193_ve : tr V193 134 = ve := (tr_keep (by decide) k193).trans t188_ve
  have t193_wj141 : tr V193 152 = wj141 := (tr_keep (by decide) k193).trans t188_wj141
  have t193_wj157 : tr V193 170 = wj157 := (tr_keep (by decide) k193).trans t188_wj157
  have t193_wj170 : tr V193 188 = wj170 := (tr_keep (by decide) k193).trans t188_wj170
  have t193_wj182 : tr V193 206 = wj182 := (tr_keep (by decide) k193).trans t188_wj182
  have t193_wj185 : tr V193 217 = wj185 := (tr_keep (by decide) k193).trans t188_wj185
  have t193_wj188 : tr V193 228 = wj188 := (tr_keep (by decide) k193).trans uwj188
  rw [show (231 : Int) + 21 = 252 from rfl]
  obtain ⟨wj193, ewj193⟩ : ∃ w : T3, w = tquo wj188 ve := ⟨_, rfl⟩
  have uwj193 : tr V193 252 = wj193 := by rw [ewj193]; exact v193
  have bwj193 : bdt 331 332 wj193 := by rw [ewj193]; exact (bdt_quo bwj188 bve (by decide) (by decide))
  clear v193
  refine x_cVi (pc2 := 199) (ci := 8) hC hK (t_sub l hM hS193 (x := 152) (y := 252) ⟨by decide, by decide⟩ ⟨by decide, by decide⟩ t193_wj141 uwj193 bwj141 bwj193 (by decide) ⟨by decide, by decide, by decide⟩) lk_1012 rfl rfl (by decide) (by assumption) (by assumption) ⟨Nat.le_of_ble_eq_true rfl, Nat.le_of_ble_eq_true rfl⟩ ⟨Nat.le_refl _, Nat.le_refl _⟩ rfl (Nat.le_of_ble_eq_true rfl) dX8_without_196 rfl ?_
  rintro z196 F196 A196 ⟨ez196, V196, hS196, v196, k196, g196⟩
  obtain rfl := ez196.symm
  replace hS196 : St 270 V196 F196 A196 := hS196
  have t196_ve : tr V196 134 = ve := (tr_keep (by decide) k196).trans t193_ve
  have t196_wj141 : tr V196 152 = wj141 := (tr_keep (by decide) k196).trans t193_wj141
  have t196_wj157 : tr V196 170 = wj157 := (tr_keep (by decide) k196).trans t193_wj157
  have t196_wj170 : tr V196 188 = wj170 := (tr_keep (by decide) k196).trans t193_wj170
  have t196_wj182 : tr V196 206 = wj182 := (tr_keep (by decide) k196).trans t193_wj182
  have t196_wj185 : tr V196 217 = wj185 := (tr_keep (by decide) k196).trans t193_wj185
  have t196_wj188 : tr V196 228 = wj188 := (tr_keep (by decide) k196).trans t193_wj188
  have t196_wj193 : tr V196 252 = wj193 := (tr_keep (by decide) k196).trans uwj193
  rw [show (255 : Int) + 12 = 267 from rfl]
  obtain ⟨wj196, ewj196⟩ : ∃ w : T3, w = tadd wj141 (tneg wj193) := ⟨_, rfl⟩
  have uwj196 : tr V196 267 = wj196 := by rw [ewj196]; exact v196
  have bwj196 : bdt 358 357 wj196 := by rw [ewj196]; exact (bdt_add bwj141 (bdt_neg bwj193) (by decide) (by decide) (by decide))
  clear v196
  exact x_iret hC hr hlk ⟨_, rfl, rfl, V196, hS196, (uwj196).trans (by rw [ewj196, ewj193, ewj188, ewj185, ewj141, ewj157, ewj170, ewj182]), fun u hu => (k196 u (by omega)).trans ((k193 u (by omega)).trans ((k188 u (by omega)).trans ((k185 u (by omega)).trans ((k182 u (by omega)).trans ((k170 u (by omega)).trans ((k157 u (by omega)).trans (k141 u hu))))))), (((((((g141.tr g157).tr g170).tr g182).tr g185).tr g188).tr g193).tr g196)⟩ dX8_without_199
set_option maxHeartbeats 8000000 in
theorem t_wo0_1 (l : Launch) {D : va_G} {ids : Nat → ClassId} {β : Nat} {sh : Nat → Nat × Nat} {N : Nat} {R : Nat → Nat → Option Nat} {F : Nat → Nat → Int} {A : Nat → Int → Int} {S : SP} (hM : MoL sh R N) (hR0 : RepM S F A) {V : Int → Int} {a b t : Int} {ve : T3} (hS : St 137 V F A) (ha : isB S a) (hb : isB S b) (ht : isT t) (he : tr V 134 = ve) (bve : bdt 128 125 ve) : MetX l yX8_without cX8_without 7 (some (.int)) 5 119 D ids β sh N R F A [rf 0, pI a, pI b, pI t, pI 1, pI 0, pI 134] (pIr (Tq 72 F A 137 V (tquo (tadd (vS S a t 3) (tneg (vS S b t 3))) ve))) := by
  refine MetX.of (loc := [_, _, _, _, _, _, _]) (plainFor_of_name (by decide +kernel)) (Nat.le_of_ble_eq_true rfl) rfl ?_
  intro p e s m args below meth c hC hK hr hlk
  obtain ⟨⟨m0, m1⟩, ⟨rx0, r2, r3, r7, r8, r9, r11, r12, r13, r16, r18⟩, ⟨m2, m3⟩, ⟨m4, m5⟩, ⟨m6, m7⟩, ⟨m8, m9⟩, ⟨m10, m11⟩, ⟨m12, m13⟩, ⟨m14, m15⟩, ⟨m16, m17⟩, ⟨m18, m19⟩, ⟨m20, m21⟩, ⟨m22, m23⟩⟩ := id hM
  obtain ⟨hi, b1, b2, b3, b4, b5, b6, b7, b8⟩ := id hR0
  have i1 := hi.1
  have n16 := hi.1.2
  have a16 := ha.2
  have b16 := hb.2
  have a00 := ha.1
  have b00 := hb.1
  refine x_iload (pc2 := 2) hC rfl dX8_without_0 rfl ?_
  refine x_tin (tgt := 28) hC (by decide) (by decide) (by decide) dX8_without_2 rfl rfl ?_
  refine x_aload_n (pc2 := 29) hC rfl rfl dX8_without_28 rfl ?_
  refine x_aload_n (pc2 := 30) hC rfl rfl dX8_without_29 rfl ?_
  refine x_aload_n (pc2 := 31) hC rfl rfl dX8_without_30 rfl ?_
  refine x_iload_n (pc2 := 32) hC rfl rfl dX8_without_31 rfl ?_
  refine x_iload_n (pc2 := 33) hC rfl rfl dX8_without_32 rfl ?_
  refine x_iload (pc2 := 35) hC rfl dX8_without_33 rfl ?_
  refine x_iload (pc2 := 37) hC rfl dX8_without_35 rfl ?_
  refine x_cVi (pc2 := 40) (ci := 8) hC hK (t_entry l hM hS (by decide) ⟨by omega, by omega⟩ (x := vS S a t 3) (show held (A 2) (96 * a + 24 * t + 6 * (2 * 1 + 1)) (vS S a t 3) from b6 a t 3 ha ht ⟨by decide, by decide⟩) ((hi.2.1 a ha).2 t 3 ht ⟨by decide, by decide⟩).1.2.2) lk_985 rfl rfl (by decide) (by assumption) (by assumption) ⟨Nat.le_of_ble_eq_true rfl, Nat.le_of_ble_eq_true rfl⟩ ⟨Nat.le_refl _, Nat.le_refl _⟩ rfl (Nat.le_of_ble_eq_true rfl) dX8_without_37 rfl ?_
  rintro z37 F37 A37 ⟨ez37, V37, hS37, v37, k37, g37⟩
  obtain rfl := ez37.symm
  replace hS37 : St 155 V37 F37 A37 := hS37
  have t37_ve : tr V37 134 = ve := (tr_keep (by decide) k37).trans he
  rw [show (137 : Int) + 15 = 152 from rfl]
  obtain ⟨wj37, ewj37⟩ : ∃ w : T3, w = vS S a t 3 := ⟨_, rfl⟩
  have uwj37 : tr V37 152 = wj37 := by rw [ewj37]; exact v37
  have bwj37 : bdt 25 25 wj37 := by rw [ewj37]; exact (ok_bdt ((hi.2.1 a ha).2 t 3 ht ⟨by decide, by decide⟩).1)
  clear v37
  refine x_aload_n (pc2 := 41) hC rfl rfl dX8_without_40 rfl ?_
  refine x_iload_n (pc2 := 42) hC rfl rfl dX8_without_41 rfl ?_
  refine x_iload_n (pc2 := 43) hC rfl rfl dX8_without_42 rfl ?_
  refine x_iload (pc2 := 45) hC rfl dX8_without_43 rfl ?_
  refine x_iload (pc2 := 47) hC rfl dX8_without_45 rfl ?_
  refine x_cVi (pc2 := 50) (ci := 8) hC hK (t_entry l hM hS37 (by decide) ⟨by omega, by omega⟩ (x := vS S b t 3) (by rw [g37.a (by decide)]; exact (show held (A 2) (96 * b + 24 * t + 6 * (2 * 1 + 1)) (vS S b t 3) from b6 b t 3 hb ht ⟨by decide, by decide⟩)) ((hi.2.1 b hb).2 t 3 ht ⟨by decide, by decide⟩).1.2.2) lk_985 rfl rfl (by decide) (by assumption) (by assumption) ⟨Nat.le_of_ble_eq_true rfl, Nat.le_of_ble_eq_true rfl⟩ ⟨Nat.le_refl _, Nat.le_refl _⟩ rfl (Nat.le_of_ble_eq_true rfl) dX8_without_47 rfl ?_
  rintro z47 F47 A47 ⟨ez47, V47, hS47, v47, k47, g47⟩
  obtain rfl := ez47.symm
  replace hS47 : St 173 V47 F47 A47 := hS47
  have t47_ve : tr V47 134 = ve := (tr_keep (by decide) k47).trans t37_ve
  have t47_wj37 : tr V47 152 = wj37 := (tr_keep (by decide) k47).trans uwj37
  rw [show (155 : Int) + 15 = 170 from rfl]
  obtain ⟨wj47, ewj47⟩ : ∃ w : T3, w = vS S b t 3 := ⟨_, rfl⟩
  have uwj47 : tr V47 170 = wj47 := by rw [ewj47]; exact v47
  have bwj47 : bdt 25 25 wj47 := by rw [ewj47]; exact (ok_bdt ((hi.2.1 b hb).2 t 3 ht ⟨by decide, by decide⟩).1)
  clear v47
  refine x_cVi (pc2 := 53) (ci := 8) hC hK (t_sub l hM hS47 (x := 152) (y := 170) ⟨by decide, by decide⟩ ⟨by decide, by decide⟩ t47_wj37 uwj47 bwj37 bwj47 (by decide) ⟨by decide, by decide, by decide⟩) lk_1012 rfl rfl (by decide) (by assumption) (by assumption) ⟨Nat.le_of_ble_eq_true rfl, Nat.le_of_ble_eq_true rfl⟩ ⟨Nat.le_refl _, Nat.le_refl _⟩ rfl (Nat.le_of_ble_eq_true rfl) dX8_without_50 rfl ?_
  rintro z50 F50 A50 ⟨ez50, V50, hS50, v50, k50, g50⟩
  obtain rfl := ez50.symm
  replace hS50 : St 188 V50 F50 A50 := hS50
  have t50_ve : tr V50 134 = ve := (tr_keep (by decide) k50).trans t47_ve
  have t50_wj37 : tr V50 152 = wj37 := (tr_keep (by decide) k50).trans t47_wj37
  have t50_wj47 : tr V50 170 = wj47 := (tr_keep (by decide) k50).trans uwj47
  rw [show (173 : Int) + 12 = 185 from rfl]
  obtain ⟨wj50, ewj50⟩ : ∃ w : T3, w = tadd wj37 (tneg wj47) := ⟨_, rfl⟩
  have uwj50 : tr V50 185 = wj50 := by rw [ewj50]; exact v50
  have bwj50 : bdt 51 50 wj50 := by rw [ewj50]; exact (bdt_add bwj37 (bdt_neg bwj47) (by decide) (by decide) (by decide))
  clear v50
  refine x_iload (pc2 := 55) hC rfl dX8_without_53 rfl ?_
  refine x_cVi (pc2 := 58) (ci := 8) hC hK (t_quo l hM hS50 (x := 185) (y := 134) ⟨by decide, by decide⟩ ⟨by decide, by decide⟩ uwj50 t50_ve bwj50 bve (by decide) ⟨by decide, by decide, by decide, by decide, by decide⟩) lk_1044 rfl rfl (by decide) (by assumption) (by assumption) ⟨Nat.le_of_ble_eq_true rfl, Nat.le_of_ble_eq_true rfl⟩ ⟨Nat.le_refl _, Nat.le_refl _⟩ rfl (Nat.le_of_ble_eq_true rfl) dX8_without_55 rfl ?_
  rintro z55 F55 A55 ⟨ez55, V55, hS55, v55, k55, g55⟩
  obtain rfl := ez55.symm
  replace hS55 : St 212 V55 F55 A55 := hS55
  have t55_ve : tr V55 134 = ve := (tr_keep (by decide) k55).trans t50_ve
  have t55_wj37 : tr V55 152 = wj37 := (tr_keep (by decide) k55).trans t50_wj37
  have t55_wj47 : tr V55 170 = wj47 := (tr_keep (by decide) k55).trans t50_wj47
  have t55_wj50 : tr V55 185 = wj50 := (tr_keep (by decide) k55).trans uwj50
  rw [show (188 : Int) + 21 = 209 from rfl]
  obtain ⟨wj55, ewj55⟩ : ∃ w : T3, w = tquo wj50 ve := ⟨_, rfl⟩
  have uwj55 : tr V55 209 = wj55 := by rw [ewj55]; exact v55
  have bwj55 : bdt 305 307 wj55 := by rw [ewj55]; exact (bdt_quo bwj50 bve (by decide) (by decide))
  clear v55
  exact x_iret hC hr hlk ⟨_, rfl, rfl, V55, hS55, (uwj55).trans (by rw [ewj55, ewj50, ewj37, ewj47]), fun u hu => (k55 u (by omega)).trans ((k50 u (by omega)).trans ((k47 u (by omega)).trans (k37 u hu))), (((g37.tr g47).tr g50).tr g55)⟩ dX8_without_58
set_option maxHeartbeats 8000000 in
theorem t_wo1_1 (l : Launch) {D : va_G} {ids : Nat → ClassId} {β : Nat} {sh : Nat → Nat × Nat} {N : Nat} {R : Nat → Nat → Option Nat} {F : Nat → Nat → Int} {A : Nat → Int → Int} {S : SP} (hM : MoL sh R N) (hR0 : RepM S F A) {V : Int → Int} {a b t : Int} {ve : T3} (hS : St 137 V F A) (ha : isB S a) (hb : isB S b) (ht : isT t) (he : tr V 134 = ve) (bve : bdt 128 125 ve) : MetX l yX8_without cX8_without 7 (some (.int)) 5 119 D ids β sh N R F A [rf 0, pI a, pI b, pI t, pI 1, pI 1, pI 134] (pIr (Tq 68 F A 137 V (tquo (tmul (vS S a t 2) (vS S b t 1)) ve))) := by
  refine MetX.of (loc := [_, _, _, _, _, _, _]) (plainFor_of_name (by decide +kernel)) (Nat.le_of_ble_eq_true rfl) rfl ?_
  intro p e s m args below meth c hC hK hr hlk
  obtain ⟨⟨m0, m1⟩, ⟨rx0, r2, r3, r7, r8, r9, r11, r12, r13, r16, r18⟩, ⟨m2, m3⟩, ⟨m4, m5⟩, ⟨m6, m7⟩, ⟨m8, m9⟩, ⟨m10, m11⟩, ⟨m12, m13⟩, ⟨m14, m15⟩, ⟨m16, m17⟩, ⟨m18, m19⟩, ⟨m20, m21⟩, ⟨m22, m23⟩⟩ := id hM
  obtain ⟨hi, b1, b2, b3, b4, b5, b6, b7, b8⟩ := id hR0
  have i1 := hi.1
  have n16 := hi.1.2
  have a16 := ha.2
  have b16 := hb.2
  have a00 := ha.1
  have b00 := hb.1
  refine x_iload (pc2 := 2) hC rfl dX8_without_0 rfl ?_
  refine x_tin (tgt := 59) hC (by decide) (by decide) (by decide) dX8_without_2 rfl rfl ?_
  refine x_aload_n (pc2 := 60) hC rfl rfl dX8_without_59 rfl ?_
  refine x_aload_n (pc2 := 61) hC rfl rfl dX8_without_60 rfl ?_
  refine x_aload_n (pc2 := 62) hC rfl rfl dX8_without_61 rfl ?_
  refine x_iload_n (pc2 := 63) hC rfl rfl dX8_without_62 rfl ?_
  refine x_iload_n (pc2 := 64) hC rfl rfl dX8_without_63 rfl ?_
  refine x_iload (pc2 := 66) hC rfl dX8_without_64 rfl ?_
  refine x_iconst (pc2 := 67) hC dX8_without_66 rfl ?_
  refine x_iload (pc2 := 69) hC rfl dX8_without_67 rfl ?_
  refine x_isub (pc2 := 70) hC dX8_without_69 rfl ?_
  refine x_cVi (pc2 := 73) (ci := 8) hC hK (t_entry l hM hS (by decide) ⟨by omega, by omega⟩ (x := vS S a t 2) (show held (A 2) (96 * a + 24 * t + 6 * (2 * 1 + 0)) (vS S a t 2) from b6 a t 2 ha ht ⟨by decide, by decide⟩) ((hi.2.1 a ha).2 t 2 ht ⟨by decide, by decide⟩).1.2.2) lk_985 rfl rfl (by decide) (by assumption) (by assumption) ⟨Nat.le_of_ble_eq_true rfl, Nat.le_of_ble_eq_true rfl⟩ ⟨Nat.le_refl _, Nat.le_refl _⟩ rfl (Nat.le_of_ble_eq_true rfl) dX8_without_70 rfl ?_
  rintro z70 F70 A70 ⟨ez70, V70, hS70, v70, k70, g70⟩
  obtain rfl := ez70.symm
  replace hS70 : St 155 V70 F70 A70 := hS70
  have t70_ve : tr V70 134 = ve := (tr_keep (by decide) k70).trans he
  rw [show (137 : Int) + 15 = 152 from rfl]
  obtain ⟨wj70, ewj70⟩ : ∃ w : T3, w = vS S a t 2 := ⟨_, rfl⟩
  have uwj70 : tr V70 152 = wj70 := by rw [ewj70]; exact v70
  have bwj70 : bdt 25 25 wj70 := by rw [ewj70]; exact (ok_bdt ((hi.2.1 a ha).2 t 2 ht ⟨by decide, by decide⟩).1)
  clear v70
  refine x_aload_n (pc2 := 74) hC rfl rfl dX8_without_73 rfl ?_
  refine x_iload_n (pc2 := 75) hC rfl rfl dX8_without_74 rfl ?_
  refine x_iload_n (pc2 := 76) hC rfl rfl dX8_without_75 rfl ?_
  refine x_iconst (pc2 := 77) hC dX8_without_76 rfl ?_
  refine x_iload (pc2 := 79) hC rfl dX8_without_77 rfl ?_
  refine x_isub (pc2 := 80) hC dX8_without_79 rfl ?_
  refine x_iload (pc2 := 82) hC rfl dX8_without_80 rfl ?_
  refine x_cVi (pc2 := 85) (ci := 8) hC hK (t_entry l hM hS70 (by decide) ⟨by omega, by omega⟩ (x := vS S b t 1) (by rw [g70.a (by decide)]; exact (show held (A 2) (96 * b + 24 * t + 6 * (2 * 0 + 1)) (vS S b t 1) from b6 b t 1 hb ht ⟨by decide, by decide⟩)) ((hi.2.1 b hb).2 t 1 ht ⟨by decide, by decide⟩).1.2.2) lk_985 rfl rfl (by decide) (by assumption) (by assumption) ⟨Nat.le_of_ble_eq_true rfl, Nat.le_of_ble_eq_true rfl⟩ ⟨Nat.le_refl _, Nat.le_refl _⟩ rfl (Nat.le_of_ble_eq_true rfl) dX8_without_82 rfl ?_
  rintro z82 F82 A82 ⟨ez82, V82, hS82, v82, k82, g82⟩
  obtain rfl := ez82.symm
  replace hS82 : St 173 V82 F82 A82 := hS82
  have t82_ve : tr V82 134 = ve := (tr_keep (by decide) k82).trans t70_ve
  have t82_wj70 : tr V82 152 = wj70 := (tr_keep (by decide) k82).trans uwj70
  rw [show (155 : Int) + 15 = 170 from rfl]
  obtain ⟨wj82, ewj82⟩ : ∃ w : T3, w = vS S b t 1 := ⟨_, rfl⟩
  have uwj82 : tr V82 170 = wj82 := by rw [ewj82]; exact v82
  have bwj82 : bdt 25 25 wj82 := by rw [ewj82]; exact (ok_bdt ((hi.2.1 b hb).2 t 1 ht ⟨by decide, by decide⟩).1)
  clear v82
  refine x_cVi (pc2 := 88) (ci := 8) hC hK (t_product l hM hS82 (x := 152) (y := 170) ⟨by decide, by decide⟩ ⟨by decide, by decide⟩ t82_wj70 uwj82 bwj70 bwj82 (by decide) ⟨by decide, by decide⟩) lk_1004 rfl rfl (by decide) (by assumption) (by assumption) ⟨Nat.le_of_ble_eq_true rfl, Nat.le_of_ble_eq_true rfl⟩ ⟨Nat.le_refl _, Nat.le_refl _⟩ rfl (Nat.le_of_ble_eq_true rfl) dX8_without_85 rfl ?_
  rintro z85 F85 A85 ⟨ez85, V85, hS85, v85, k85, g85⟩
  obtain rfl := ez85.symm
  replace hS85 : St 184 V85 F85 A85 := hS85
  have t85_ve : tr V85 134 = ve := (tr_keep (by decide) k85).trans t82_ve
  have t85_wj70 : tr V85 152 = wj70 := (tr_keep (by decide) k85).trans t82_wj70
  have t85_wj82 : tr V85 170 = wj82 := (tr_keep (by decide) k85).trans uwj82
  rw [show (173 : Int) + 8 = 181 from rfl]
  obtain ⟨wj85, ewj85⟩ : ∃ w : T3, w = tmul wj70 wj82 := ⟨_, rfl⟩
  have uwj85 : tr V85 181 = wj85 := by rw [ewj85]; exact v85
  have bwj85 : bdt 51 50 wj85 := by rw [ewj85]; exact (bdt_mul bwj70 bwj82 (by decide) (by decide))
  clear v85
  refine x_iload (pc2 := 90) hC rfl dX8_without_88 rfl ?_
  refine x_cVi (pc2 := 93) (ci := 8) hC hK (t_quo l hM hS85 (x := 181) (y := 134) ⟨by decide, by decide⟩ ⟨by decide, by decide⟩ uwj85 t85_ve bwj85 bve (by decide) ⟨by decide, by decide, by decide, by decide, by decide⟩) lk_1044 rfl rfl (by decide) (by assumption) (by assumption) ⟨Nat.le_of_ble_eq_true rfl, Nat.le_of_ble_eq_true rfl⟩ ⟨Nat.le_refl _, Nat.le_refl _⟩ rfl (Nat.le_of_ble_eq_true rfl) dX8_without_90 rfl ?_
  rintro z90 F90 A90 ⟨ez90, V90, hS90, v90, k90, g90⟩
  obtain rfl := ez90.symm
  replace hS90 : St 208 V90 F90 A90 := hS90
  have t90_ve : tr V90 134 = ve := (tr_keep (by decide) k90).trans t85_ve
  have t90_wj70 : tr V90 152 = wj70 := (tr_keep (by decide) k90).trans t85_wj70
  have t90_wj82 : tr V90 170 = wj82 := (tr_keep (by decide) k90).trans t85_wj82
  have t90_wj85 : tr V90 181 = wj85 := (tr_keep (by decide) k90).trans uwj85
  rw [show (184 : Int) + 21 = 205 from rfl]
  obtain ⟨wj90, ewj90⟩ : ∃ w : T3, w = tquo wj85 ve := ⟨_, rfl⟩
  have uwj90 : tr V90 205 = wj90 := by rw [ewj90]; exact v90
  have bwj90 : bdt 305 307 wj90 := by rw [ewj90]; exact (bdt_quo bwj85 bve (by decide) (by decide))
  clear v90
  exact x_iret hC hr hlk ⟨_, rfl, rfl, V90, hS90, (uwj90).trans (by rw [ewj90, ewj85, ewj70, ewj82]), fun u hu => (k90 u (by omega)).trans ((k85 u (by omega)).trans ((k82 u (by omega)).trans (k70 u hu))), (((g70.tr g82).tr g85).tr g90)⟩ dX8_without_93
set_option maxHeartbeats 8000000 in
theorem t_wo2_1 (l : Launch) {D : va_G} {ids : Nat → ClassId} {β : Nat} {sh : Nat → Nat × Nat} {N : Nat} {R : Nat → Nat → Option Nat} {F : Nat → Nat → Int} {A : Nat → Int → Int} {S : SP} (hM : MoL sh R N) (hR0 : RepM S F A) {V : Int → Int} {a b t : Int} {ve : T3} (hS : St 137 V F A) (ha : isB S a) (hb : isB S b) (ht : isT t) (he : tr V 134 = ve) (bve : bdt 128 125 ve) : MetX l yX8_without cX8_without 7 (some (.int)) 5 119 D ids β sh N R F A [rf 0, pI a, pI b, pI t, pI 1, pI 2, pI 134] (pIr (Tq 68 F A 137 V (tquo (tmul (vS S a t 1) (vS S b t 2)) ve))) := by
  refine MetX.of (loc := [_, _, _, _, _, _, _]) (plainFor_of_name (by decide +kernel)) (Nat.le_of_ble_eq_true rfl) rfl ?_
  intro p e s m args below meth c hC hK hr hlk
  obtain ⟨⟨m0, m1⟩, ⟨rx0, r2, r3, r7, r8, r9, r11, r12, r13, r16, r18⟩, ⟨m2, m3⟩, ⟨m4, m5⟩, ⟨m6, m7⟩, ⟨m8, m9⟩, ⟨m10, m11⟩, ⟨m12, m13⟩, ⟨m14, m15⟩, ⟨m16, m17⟩, ⟨m18, m19⟩, ⟨m20, m21⟩, ⟨m22, m23⟩⟩ := id hM
  obtain ⟨hi, b1, b2, b3, b4, b5, b6, b7, b8⟩ := id hR0
  have i1 := hi.1
  have n16 := hi.1.2
  have a16 := ha.2
  have b16 := hb.2
  have a00 := ha.1
  have b00 := hb.1
  refine x_iload (pc2 := 2) hC rfl dX8_without_0 rfl ?_
  refine x_tin (tgt := 94) hC (by decide) (by decide) (by decide) dX8_without_2 rfl rfl ?_
  refine x_aload_n (pc2 := 95) hC rfl rfl dX8_without_94 rfl ?_
  refine x_aload_n (pc2 := 96) hC rfl rfl dX8_without_95 rfl ?_
  refine x_aload_n (pc2 := 97) hC rfl rfl dX8_without_96 rfl ?_
  refine x_iload_n (pc2 := 98) hC rfl rfl dX8_without_97 rfl ?_
  refine x_iload_n (pc2 := 99) hC rfl rfl dX8_without_98 rfl ?_
  refine x_iconst (pc2 := 100) hC dX8_without_99 rfl ?_
  refine x_iload (pc2 := 102) hC rfl dX8_without_100 rfl ?_
  refine x_isub (pc2 := 103) hC dX8_without_102 rfl ?_
  refine x_iload (pc2 := 105) hC rfl dX8_without_103 rfl ?_
  refine x_cVi (pc2 := 108) (ci := 8) hC hK (t_entry l hM hS (by decide) ⟨by omega, by omega⟩ (x := vS S a t 1) (show held (A 2) (96 * a + 24 * t + 6 * (2 * 0 + 1)) (vS S a t 1) from b6 a t 1 ha ht ⟨by decide, by decide⟩) ((hi.2.1 a ha).2 t 1 ht ⟨by decide, by decide⟩).1.2.2) lk_985 rfl rfl (by decide) (by assumption) (by assumption) ⟨Nat.le_of_ble_eq_true rfl, Nat.le_of_ble_eq_true rfl⟩ ⟨Nat.le_refl _, Nat.le_refl _⟩ rfl (Nat.le_of_ble_eq_true rfl) dX8_without_105 rfl ?_
  rintro z105 F105 A105 ⟨ez105, V105, hS105, v105, k105, g105⟩
  obtain rfl := ez105.symm
  replace hS105 : St 155 V105 F105 A105 := hS105
  have t105_ve : tr V105 134 = ve := (tr_keep (by decide) k105).trans he
  rw [show (137 : Int) + 15 = 152 from rfl]
  obtain ⟨wj105, ewj105⟩ : ∃ w : T3, w = vS S a t 1 := ⟨_, rfl⟩
  have uwj105 : tr V105 152 = wj105 := by rw [ewj105]; exact v105
  have bwj105 : bdt 25 25 wj105 := by rw [ewj105]; exact (ok_bdt ((hi.2.1 a ha).2 t 1 ht ⟨by decide, by decide⟩).1)
  clear v105
  refine x_aload_n (pc2 := 109) hC rfl rfl dX8_without_108 rfl ?_
  refine x_iload_n (pc2 := 110) hC rfl rfl dX8_without_109 rfl ?_
  refine x_iload_n (pc2 := 111) hC rfl rfl dX8_without_110 rfl ?_
  refine x_iload (pc2 := 113) hC rfl dX8_without_111 rfl ?_
  refine x_iconst (pc2 := 114) hC dX8_without_113 rfl ?_
  refine x_iload (pc2 := 116) hC rfl dX8_without_114 rfl ?_
  refine x_isub (pc2 := 117) hC dX8_without_116 rfl ?_
  refine x_cVi (pc2 := 120) (ci := 8) hC hK (t_entry l hM hS105 (by decide) ⟨by omega, by omega⟩ (x := vS S b t 2) (by rw [g105.a (by decide)]; exact (show held (A 2) (96 * b + 24 * t + 6 * (2 * 1 + 0)) (vS S b t 2) from b6 b t 2 hb ht ⟨by decide, by decide⟩)) ((hi.2.1 b hb).2 t 2 ht ⟨by decide, by decide⟩).1.2.2) lk_985 rfl rfl (by decide) (by assumption) (by assumption) ⟨Nat.le_of_ble_eq_true rfl, Nat.le_of_ble_eq_true rfl⟩ ⟨Nat.le_refl _, Nat.le_refl _⟩ rfl (Nat.le_of_ble_eq_true rfl) dX8_without_117 rfl ?_
  rintro z117 F117 A117 ⟨ez117, V117, hS117, v117, k117, g117⟩
  obtain rfl := ez117.symm
  replace hS117 : St 173 V117 F117 A117 := hS117
  have t117_ve : tr V117 134 = ve := (tr_keep (by decide) k117).trans t105_ve
  have t117_wj105 : tr V117 152 = wj105 := (tr_keep (by decide) k117).trans uwj105
  rw [show (155 : Int) + 15 = 170 from rfl]
  obtain ⟨wj117, ewj117⟩ : ∃ w : T3, w = vS S b t 2 := ⟨_, rfl⟩
  have uwj117 : tr V117 170 = wj117 := by rw [ewj117]; exact v117
  have bwj117 : bdt 25 25 wj117 := by rw [ewj117]; exact (ok_bdt ((hi.2.1 b hb).2 t 2 ht ⟨by decide, by decide⟩).1)
  clear v117
  refine x_cVi (pc2 := 123) (ci := 8) hC hK (t_product l hM hS117 (x := 152) (y := 170) ⟨by decide, by decide⟩ ⟨by decide, by decide⟩ t117_wj105 uwj117 bwj105 bwj117 (by decide) ⟨by decide, by decide⟩) lk_1004 rfl rfl (by decide) (by assumption) (by assumption) ⟨Nat.le_of_ble_eq_true rfl, Nat.le_of_ble_eq_true rfl⟩ ⟨Nat.le_refl _, Nat.le_refl _⟩ rfl (Nat.le_of_ble_eq_true rfl) dX8_without_120 rfl ?_
  rintro z120 F120 A120 ⟨ez120, V120, hS120, v120, k120, g120⟩
  obtain rfl := ez120.symm
  replace hS120 : St 184 V120 F120 A120 := hS120
  have t120_ve : tr V120 134 = ve := (tr_keep (by decide) k120).trans t117_ve
  have t120_wj105 : tr V120 152 = wj105 := (tr_keep (by decide) k120).trans t117_wj105
  have t120_wj117 : tr V120 170 = wj117 := (tr_keep (by decide) k120).trans uwj117
  rw [show (173 : Int) + 8 = 181 from rfl]
  obtain ⟨wj120, ewj120⟩ : ∃ w : T3, w = tmul wj105 wj117 := ⟨_, rfl⟩
  have uwj120 : tr V120 181 = wj120 := by rw [ewj120]; exact v120
  have bwj120 : bdt 51 50 wj120 := by rw [ewj120]; exact (bdt_mul bwj105 bwj117 (by decide) (by decide))
  clear v120
  refine x_iload (pc2 := 125) hC rfl dX8_without_123 rfl ?_
  refine x_cVi (pc2 := 128) (ci := 8) hC hK (t_quo l hM hS120 (x := 181) (y := 134) ⟨by decide, by decide⟩ ⟨by decide, by decide⟩ uwj120 t120_ve bwj120 bve (by decide) ⟨by decide, by decide, by decide, by decide, by decide⟩) lk_1044 rfl rfl (by decide) (by assumption) (by assumption) ⟨Nat.le_of_ble_eq_true rfl, Nat.le_of_ble_eq_true rfl⟩ ⟨Nat.le_refl _, Nat.le_refl _⟩ rfl (Nat.le_of_ble_eq_true rfl) dX8_without_125 rfl ?_
  rintro z125 F125 A125 ⟨ez125, V125, hS125, v125, k125, g125⟩
  obtain rfl := ez125.symm
  replace hS125 : St 208 V125 F125 A125 := hS125
  have t125_ve : tr V125 134 = ve := (tr_keep (by decide) k125).trans t120_ve
  have t125_wj105 : tr V125 152 = wj105 := (tr_keep (by decide) k125).trans t120_wj105
  have t125_wj117 : tr V125 170 = wj117 := (tr_keep (by decide) k125).trans t120_wj117
  have t125_wj120 : tr V125 181 = wj120 := (tr_keep (by decide) k125).trans uwj120
  rw [show (184 : Int) + 21 = 205 from rfl]
  obtain ⟨wj125, ewj125⟩ : ∃ w : T3, w = tquo wj120 ve := ⟨_, rfl⟩
  have uwj125 : tr V125 205 = wj125 := by rw [ewj125]; exact v125
  have bwj125 : bdt 305 307 wj125 := by rw [ewj125]; exact (bdt_quo bwj120 bve (by decide) (by decide))
  clear v125
  exact x_iret hC hr hlk ⟨_, rfl, rfl, V125, hS125, (uwj125).trans (by rw [ewj125, ewj120, ewj105, ewj117]), fun u hu => (k125 u (by omega)).trans ((k120 u (by omega)).trans ((k117 u (by omega)).trans (k105 u hu))), (((g105.tr g117).tr g120).tr g125)⟩ dX8_without_128
set_option maxHeartbeats 8000000 in
theorem t_wo3_1 (l : Launch) {D : va_G} {ids : Nat → ClassId} {β : Nat} {sh : Nat → Nat × Nat} {N : Nat} {R : Nat → Nat → Option Nat} {F : Nat → Nat → Int} {A : Nat → Int → Int} {S : SP} (hM : MoL sh R N) (hR0 : RepM S F A) {V : Int → Int} {a b t : Int} {ve : T3} (hS : St 137 V F A) (ha : isB S a) (hb : isB S b) (ht : isT t) (he : tr V 134 = ve) (bve : bdt 128 125 ve) : MetX l yX8_without cX8_without 7 (some (.int)) 5 119 D ids β sh N R F A [rf 0, pI a, pI b, pI t, pI 1, pI 3, pI 134] (pIr (Tq 130 F A 137 V (tadd (vS S a t 0) (tneg (tquo (tmul (vS S b t 0) (tmul (vS S a t 2) (vS S a t 1))) ve))))) := by
  refine MetX.of (loc := [_, _, _, _, _, _, _]) (plainFor_of_name (by decide +kernel)) (Nat.le_of_ble_eq_true rfl) rfl ?_
  intro p e s m args below meth c hC hK hr hlk
  obtain ⟨⟨m0, m1⟩, ⟨rx0, r2, r3, r7, r8, r9, r11, r12, r13, r16, r18⟩, ⟨m2, m3⟩, ⟨m4, m5⟩, ⟨m6, m7⟩, ⟨m8, m9⟩, ⟨m10, m11⟩, ⟨m12, m13⟩, ⟨m14, m15⟩, ⟨m16, m17⟩, ⟨m18, m19⟩, ⟨m20, m21⟩, ⟨m22, m23⟩⟩ := id hM
  obtain ⟨hi, b1, b2, b3, b4, b5, b6, b7, b8⟩ := id hR0
  have i1 := hi.1
  have n16 := hi.1.2
  have a16 := ha.2
  have b16 := hb.2
  have a00 := ha.1
  have b00 := hb.1
  refine x_iload (pc2 := 2) hC rfl dX8_without_0 rfl ?_
  refine x_tout (tgt := 129) hC (by decide) (by decide) dX8_without_2 rfl ?_
  refine x_aload_n (pc2 := 130) hC rfl rfl dX8_without_129 rfl ?_
  refine x_aload_n (pc2 := 131) hC rfl rfl dX8_without_130 rfl ?_
  refine x_iload_n (pc2 := 132) hC rfl rfl dX8_without_131 rfl ?_
  refine x_iload_n (pc2 := 133) hC rfl rfl dX8_without_132 rfl ?_
  refine x_iconst (pc2 := 134) hC dX8_without_133 rfl ?_
  refine x_iload (pc2 := 136) hC rfl dX8_without_134 rfl ?_
  refine x_isub (pc2 := 137) hC dX8_without_136 rfl ?_
  refine x_iconst (pc2 := 138) hC dX8_without_137 rfl ?_
  refine x_iload (pc2 := 140) hC rfl dX8_without_138 rfl ?_
  refine x_isub (pc2 := 141) hC dX8_without_140 rfl ?_
  refine x_cVi (pc2 := 144) (ci := 8) hC hK (t_entry l hM hS (by decide) ⟨by omega, by omega⟩ (x := vS S a t 0) (show held (A 2) (96 * a + 24 * t + 6 * (2 * 0 + 0)) (vS S a t 0) from b6 a t 0 ha ht ⟨by decide, by decide⟩) ((hi.2.1 a ha).2 t 0 ht ⟨by decide, by decide⟩).1.2.2) lk_985 rfl rfl (by decide) (by assumption) (by assumption) ⟨Nat.le_of_ble_eq_true rfl, Nat.le_of_ble_eq_true rfl⟩ ⟨Nat.le_refl _, Nat.le_refl _⟩ rfl (Nat.le_of_ble_eq_true rfl) dX8_without_141 rfl ?_
  rintro z141 F141 A141 ⟨ez141, V141, hS141, v141, k141, g141⟩
  obtain rfl := ez141.symm
  replace hS141 : St 155 V141 F141 A141 := hS141
  have t141_ve : tr V141 134 = ve := (tr_keep (by decide) k141).trans he
  rw [show (137 : Int) + 15 = 152 from rfl]
  obtain ⟨wj141, ewj141⟩ : ∃ w : T3, w = vS S a t 0 := ⟨_, rfl⟩
  have uwj141 : tr V141 152 = wj141 := by rw [ewj141]; exact v141
  have bwj141 : bdt 25 25 wj141 := by rw [ewj141]; exact (ok_bdt ((hi.2.1 a ha).2 t 0 ht ⟨by decide, by decide⟩).1)
  clear v141
  refine x_aload_n (pc2 := 145) hC rfl rfl dX8_without_144 rfl ?_
  refine x_aload_n (pc2 := 146) hC rfl rfl dX8_without_145 rfl ?_
  refine x_aload_n (pc2 := 147) hC rfl rfl dX8_without_146 rfl ?_
  refine x_iload_n (pc2 := 148) hC rfl rfl dX8_without_147 rfl ?_
  refine x_iload_n (pc2 := 149) hC rfl rfl dX8_without_148 rfl ?_
  refine x_iconst (pc2 := 150) hC dX8_without_149 rfl ?_
  refine x_iload (pc2 := 152) hC rfl dX8_without_150 rfl ?_
  refine x_isub (pc2 := 153) hC dX8_without_152 rfl ?_
  refine x_iconst (pc2 := 154) hC dX8_without_153 rfl ?_
  refine x_iload (pc2 := 156) hC rfl dX8_without_154 rfl ?_
  refine x_isub (pc2 := 157) hC dX8_without_156 rfl ?_
  refine x_cVi (pc2 := 160) (ci := 8) hC hK (t_entry l hM hS141 (by decide) ⟨by omega, by omega⟩ (x := vS S b t 0) (by rw [g141.a (by decide)]; exact (show held (A 2) (96 * b + 24 * t + 6 * (2 * 0 + 0)) (vS S b t 0) from b6 b t 0 hb ht ⟨by decide, by decide⟩)) ((hi.2.1 b hb).2 t 0 ht ⟨by decide, by decide⟩).1.2.2) lk_985 rfl rfl (by decide) (by assumption) (by assumption) ⟨Nat.le_of_ble_eq_true rfl, Nat.le_of_ble_eq_true rfl⟩ ⟨Nat.le_refl _, Nat.le_refl _⟩ rfl (Nat.le_of_ble_eq_true rfl) dX8_without_157 rfl ?_
  rintro z157 F157 A157 ⟨ez157, V157, hS157, v157, k157, g157⟩
  obtain rfl := ez157.symm
  replace hS157 : St 173 V157 F157 A157 := hS157
  have t157_ve : tr V157 134 = ve := (tr_keep (by decide) k157).trans t141_ve
  have t157_wj141 : tr V157 152 = wj141 := (tr_keep (by decide) k157).trans uwj141
  rw [show (155 : Int) + 15 = 170 from rfl]
  obtain ⟨wj157, ewj157⟩ : ∃ w : T3, w = vS S b t 0 := ⟨_, rfl⟩
  have uwj157 : tr V157 170 = wj157 := by rw [ewj157]; exact v157
  have bwj157 : bdt 25 25 wj157 := by rw [ewj157]; exact (ok_bdt ((hi.2.1 b hb).2 t 0 ht ⟨by decide, by decide⟩).1)
  clear v157
  refine x_aload_n (pc2 := 161) hC rfl rfl dX8_without_160 rfl ?_
  refine x_aload_n (pc2 := 162) hC rfl rfl dX8_without_161 rfl ?_
  refine x_iload_n (pc2 := 163) hC rfl rfl dX8_without_162 rfl ?_
  refine x_iload_n (pc2 := 164) hC rfl rfl dX8_without_163 rfl ?_
  refine x_iload (pc2 := 166) hC rfl dX8_without_164 rfl ?_
  refine x_iconst (pc2 := 167) hC dX8_without_166 rfl ?_
  refine x_iload (pc2 := 169) hC rfl dX8_without_167 rfl ?_
  refine x_isub (pc2 := 170) hC dX8_without_169 rfl ?_
  refine x_cVi (pc2 := 173) (ci := 8) hC hK (t_entry l hM hS157 (by decide) ⟨by omega, by omega⟩ (x := vS S a t 2) (by rw [(g141.tr g157).a (by decide)]; exact (show held (A 2) (96 * a + 24 * t + 6 * (2 * 1 + 0)) (vS S a t 2) from b6 a t 2 ha ht ⟨by decide, by decide⟩)) ((hi.2.1 a ha).2 t 2 ht ⟨by decide, by decide⟩).1.2.2) lk_985 rfl rfl (by decide) (by assumption) (by assumption) ⟨Nat.le_of_ble_eq_true rfl, Nat.le_of_ble_eq_true rfl⟩ ⟨Nat.le_refl _, Nat.le_refl _⟩ rfl (Nat.le_of_ble_eq_true rfl) dX8_without_170 rfl ?_
  rintro z170 F170 A170 ⟨ez170, V170, hS170, v170, k170, g170⟩
  obtain rfl := ez170.symm
  replace hS170 : St 191 V170 F170 A170 := hS170
  have t170_ve : tr V170 134 = ve := (tr_keep (by decide) k170).trans t157_ve
  have t170_wj141 : tr V170 152 = wj141 := (tr_keep (by decide) k170).trans t157_wj141
  have t170_wj157 : tr V170 170 = wj157 := (tr_keep (by decide) k170).trans uwj157
  rw [show (173 : Int) + 15 = 188 from rfl]
  obtain ⟨wj170, ewj170⟩ : ∃ w : T3, w = vS S a t 2 := ⟨_, rfl⟩
  have uwj170 : tr V170 188 = wj170 := by rw [ewj170]; exact v170
  have bwj170 : bdt 25 25 wj170 := by rw [ewj170]; exact (ok_bdt ((hi.2.1 a ha).2 t 2 ht ⟨by decide, by decide⟩).1)
  clear v170
  refine x_aload_n (pc2 := 174) hC rfl rfl dX8_without_173 rfl ?_
  refine x_iload_n (pc2 := 175) hC rfl rfl dX8_without_174 rfl ?_
  refine x_iload_n (pc2 := 176) hC rfl rfl dX8_without_175 rfl ?_
  refine x_iconst (pc2 := 177) hC dX8_without_176 rfl ?_
  refine x_iload (pc2 := 179) hC rfl dX8_without_177 rfl ?_
  refine x_isub (pc2 := 180) hC dX8_without_179 rfl ?_
  refine x_iload (pc2 := 182) hC rfl dX8_without_180 rfl ?_
  refine x_cVi (pc2 := 185) (ci := 8) hC hK (t_entry l hM hS170 (by decide) ⟨by omega, by omega⟩ (x := vS S a t 1) (by rw [((g141.tr g157).tr g170).a (by decide)]; exact (show held (A 2) (96 * a + 24 * t + 6 * (2 * 0 + 1)) (vS S a t 1) from b6 a t 1 ha ht ⟨by decide, by decide⟩)) ((hi.2.1 a ha).2 t 1 ht ⟨by decide, by decide⟩).1.2.2) lk_985 rfl rfl (by decide) (by assumption) (by assumption) ⟨Nat.le_of_ble_eq_true rfl, Nat.le_of_ble_eq_true rfl⟩ ⟨Nat.le_refl _, Nat.le_refl _⟩ rfl (Nat.le_of_ble_eq_true rfl) dX8_without_182 rfl ?_
  rintro z182 F182 A182 ⟨ez182, V182, hS182, v182, k182, g182⟩
  obtain rfl := ez182.symm
  replace hS182 : St 209 V182 F182 A182 := hS182
  have t182_ve : tr V182 134 = ve := (tr_keep (by decide) k182).trans t170_ve
  have t182_wj141 : tr V182 152 = wj141 := (tr_keep (by decide) k182).trans t170_wj141
  have t182_wj157 : tr V182 170 = wj157 := (tr_keep (by decide) k182).trans t170_wj157
  have t182_wj170 : tr V182 188 = wj170 := (tr_keep (by decide) k182).trans uwj170
  rw [show (191 : Int) + 15 = 206 from rfl]
  obtain ⟨wj182, ewj182⟩ : ∃ w : T3, w = vS S a t 1 := ⟨_, rfl⟩
  have uwj182 : tr V182 206 = wj182 := by rw [ewj182]; exact v182
  have bwj182 : bdt 25 25 wj182 := by rw [ewj182]; exact (ok_bdt ((hi.2.1 a ha).2 t 1 ht ⟨by decide, by decide⟩).1)
  clear v182
  refine x_cVi (pc2 := 188) (ci := 8) hC hK (t_product l hM hS182 (x := 188) (y := 206) ⟨by decide, by decide⟩ ⟨by decide, by decide⟩ t182_wj170 uwj182 bwj170 bwj182 (by decide) ⟨by decide, by decide⟩) lk_1004 rfl rfl (by decide) (by assumption) (by assumption) ⟨Nat.le_of_ble_eq_true rfl, Nat.le_of_ble_eq_true rfl⟩ ⟨Nat.le_refl _, Nat.le_refl _⟩ rfl (Nat.le_of_ble_eq_true rfl) dX8_without_185 rfl ?_
  rintro z185 F185 A185 ⟨ez185, V185, hS185, v185, k185, g185⟩
  obtain rfl := ez185.symm
  replace hS185 : St 220 V185 F185 A185 := hS185
  have t185_ve : tr V185 134 = ve := (tr_keep (by decide) k185).trans t182_ve
  have t185_wj141 : tr V185 152 = wj141 := (tr_keep (by decide) k185).trans t182_wj141
  have t185_wj157 : tr V185 170 = wj157 := (tr_keep (by decide) k185).trans t182_wj157
  have t185_wj170 : tr V185 188 = wj170 := (tr_keep (by decide) k185).trans t182_wj170
  have t185_wj182 : tr V185 206 = wj182 := (tr_keep (by decide) k185).trans uwj182
  rw [show (209 : Int) + 8 = 217 from rfl]
  obtain ⟨wj185, ewj185⟩ : ∃ w : T3, w = tmul wj170 wj182 := ⟨_, rfl⟩
  have uwj185 : tr V185 217 = wj185 := by rw [ewj185]; exact v185
  have bwj185 : bdt 51 50 wj185 := by rw [ewj185]; exact (bdt_mul bwj170 bwj182 (by decide) (by decide))
  clear v185
  refine x_cVi (pc2 := 191) (ci := 8) hC hK (t_product l hM hS185 (x := 170) (y := 217) ⟨by decide, by decide⟩ ⟨by decide, by decide⟩ t185_wj157 uwj185 bwj157 bwj185 (by decide) ⟨by decide, by decide⟩) lk_1004 rfl rfl (by decide) (by assumption) (by assumption) ⟨Nat.le_of_ble_eq_true rfl, Nat.le_of_ble_eq_true rfl⟩ ⟨Nat.le_refl _, Nat.le_refl _⟩ rfl (Nat.le_of_ble_eq_true rfl) dX8_without_188 rfl ?_
  rintro z188 F188 A188 ⟨ez188, V188, hS188, v188, k188, g188⟩
  obtain rfl := ez188.symm
  replace hS188 : St 231 V188 F188 A188 := hS188
  have t188_ve : tr V188 134 = ve := (tr_keep (by decide) k188).trans t185_ve
  have t188_wj141 : tr V188 152 = wj141 := (tr_keep (by decide) k188).trans t185_wj141
  have t188_wj157 : tr V188 170 = wj157 := (tr_keep (by decide) k188).trans t185_wj157
  have t188_wj170 : tr V188 188 = wj170 := (tr_keep (by decide) k188).trans t185_wj170
  have t188_wj182 : tr V188 206 = wj182 := (tr_keep (by decide) k188).trans t185_wj182
  have t188_wj185 : tr V188 217 = wj185 := (tr_keep (by decide) k188).trans uwj185
  rw [show (220 : Int) + 8 = 228 from rfl]
  obtain ⟨wj188, ewj188⟩ : ∃ w : T3, w = tmul wj157 wj185 := ⟨_, rfl⟩
  have uwj188 : tr V188 228 = wj188 := by rw [ewj188]; exact v188
  have bwj188 : bdt 77 75 wj188 := by rw [ewj188]; exact (bdt_mul bwj157 bwj185 (by decide) (by decide))
  clear v188
  refine x_iload (pc2 := 193) hC rfl dX8_without_191 rfl ?_
  refine x_cVi (pc2 := 196) (ci := 8) hC hK (t_quo l hM hS188 (x := 228) (y := 134) ⟨by decide, by decide⟩ ⟨by decide, by decide⟩ uwj188 t188_ve bwj188 bve (by decide) ⟨by decide, by decide, by decide, by decide, by decide⟩) lk_1044 rfl rfl (by decide) (by assumption) (by assumption) ⟨Nat.le_of_ble_eq_true rfl, Nat.le_of_ble_eq_true rfl⟩ ⟨Nat.le_refl _, Nat.le_refl _⟩ rfl (Nat.le_of_ble_eq_true rfl) dX8_without_193 rfl ?_
  rintro z193 F193 A193 ⟨ez193, V193, hS193, v193, k193, g193⟩
  obtain rfl := ez193.symm
  replace hS193 : St 255 V193 F193 A193 := hS193
  have t193_ve : tr V193 134 = ve := (tr_keep (by decide) k193).trans t188_ve
  have t193_wj141 : tr V193 152 = wj141 := (tr_keep (by decide) k193).trans t188_wj141
  have t193_wj157 : tr V193 170 = wj157 := (tr_keep (by decide) k193).trans t188_wj157
  have t193_wj170 : tr V193 188 = wj170 := (tr_keep (by decide) k193).trans t188_wj170
  have t193_wj182 : tr V193 206 = wj182 := (tr_keep (by decide) k193).trans t188_wj182
  have t193_wj185 : tr V193 217 = wj185 := (tr_keep (by decide) k193).trans t188_wj185
  have t193_wj188 : tr V193 228 = wj188 := (tr_keep (by decide) k193).trans uwj188
  rw [show (231 : Int) + 21 = 252 from rfl]
  obtain ⟨wj193, ewj193⟩ : ∃ w : T3, w = tquo wj188 ve := ⟨_, rfl⟩
  have uwj193 : tr V193 252 = wj193 := by rw [ewj193]; exact v193
  have bwj193 : bdt 331 332 wj193 := by rw [ewj193]; exact (bdt_quo bwj188 bve (by decide) (by decide))
  clear v193
  refine x_cVi (pc2 := 199) (ci := 8) hC hK (t_sub l hM hS193 (x := 152) (y := 252) ⟨by decide, by decide⟩ ⟨by decide, by decide⟩ t193_wj141 uwj193 bwj141 bwj193 (by decide) ⟨by decide, by decide, by decide⟩) lk_1012 rfl rfl (by decide) (by assumption) (by assumption) ⟨Nat.le_of_ble_eq_true rfl, Nat.le_of_ble_eq_true rfl⟩ ⟨Nat.le_refl _, Nat.le_refl _⟩ rfl (Nat.le_of_ble_eq_true rfl) dX8_without_196 rfl ?_
  rintro z196 F196 A196 ⟨ez196, V196, hS196, v196, k196, g196⟩
  obtain rfl := ez196.symm
  replace hS196 : St 270 V196 F196 A196 := hS196
  have t196_ve : tr V196 134 = ve := (tr_keep (by decide) k196).trans t193_ve
  have t196_wj141 : tr V196 152 = wj141 := (tr_keep (by decide) k196).trans t193_wj141
  have t196_wj157 : tr V196 170 = wj157 := (tr_keep (by decide) k196).trans t193_wj157
  have t196_wj170 : tr V196 188 = wj170 := (tr_keep (by decide) k196).trans t193_wj170
  have t196_wj182 : tr V196 206 = wj182 := (tr_keep (by decide) k196).trans t193_wj182
  have t196_wj185 : tr V196 217 = wj185 := (tr_keep (by decide) k196).trans t193_wj185
  have t196_wj188 : tr V196 228 = wj188 := (tr_keep (by decide) k196).trans t193_wj188
  have t196_wj193 : tr V196 252 = wj193 := (tr_keep (by decide) k196).trans uwj193
  rw [show (255 : Int) + 12 = 267 from rfl]
  obtain ⟨wj196, ewj196⟩ : ∃ w : T3, w = tadd wj141 (tneg wj193) := ⟨_, rfl⟩
  have uwj196 : tr V196 267 = wj196 := by rw [ewj196]; exact v196
  have bwj196 : bdt 358 357 wj196 := by rw [ewj196]; exact (bdt_add bwj141 (bdt_neg bwj193) (by decide) (by decide) (by decide))
  clear v196
  exact x_iret hC hr hlk ⟨_, rfl, rfl, V196, hS196, (uwj196).trans (by rw [ewj196, ewj193, ewj188, ewj185, ewj141, ewj157, ewj170, ewj182]), fun u hu => (k196 u (by omega)).trans ((k193 u (by omega)).trans ((k188 u (by omega)).trans ((k185 u (by omega)).trans ((k182 u (by omega)).trans ((k170 u (by omega)).trans ((k157 u (by omega)).trans (k141 u hu))))))), (((((((g141.tr g157).tr g170).tr g182).tr g185).tr g188).tr g193).tr g196)⟩ dX8_without_199
