theorem dX8_is_0 : decode cX8_is 0 = .ok (.aload_n 0, 1) := by decide +kernel
theorem dX8_is_1 : decode cX8_is 1 = .ok (.iload_n 1, 1) := by decide +kernel
theorem dX8_is_2 : decode cX8_is 2 = .ok (.invokevirtual 161, 3) := by decide +kernel
theorem dX8_is_5 : decode cX8_is 5 = .ok (.ifCond .eq 27, 3) := by decide +kernel
theorem dX8_is_8 : decode cX8_is 8 = .ok (.iload_n 2, 1) := by decide +kernel
theorem dX8_is_9 : decode cX8_is 9 = .ok (.i2l, 1) := by decide +kernel
theorem dX8_is_10 : decode cX8_is 10 = .ok (.lconst 0, 1) := by decide +kernel
theorem dX8_is_11 : decode cX8_is 11 = .ok (.ldc2_w 184, 3) := by decide +kernel
theorem dX8_is_14 : decode cX8_is 14 = .ok (.invokestatic 157, 3) := by decide +kernel
theorem dX8_is_17 : decode cX8_is 17 = .ok (.ifCond .eq 15, 3) := by decide +kernel
theorem dX8_is_20 : decode cX8_is 20 = .ok (.iload_n 3, 1) := by decide +kernel
theorem dX8_is_21 : decode cX8_is 21 = .ok (.i2l, 1) := by decide +kernel
theorem dX8_is_22 : decode cX8_is 22 = .ok (.lconst 1, 1) := by decide +kernel
theorem dX8_is_23 : decode cX8_is 23 = .ok (.ldc2_w 184, 3) := by decide +kernel
theorem dX8_is_26 : decode cX8_is 26 = .ok (.invokestatic 157, 3) := by decide +kernel
theorem dX8_is_29 : decode cX8_is 29 = .ok (.ifCond .ne 5, 3) := by decide +kernel
theorem dX8_is_32 : decode cX8_is 32 = .ok (.iconst (-1), 1) := by decide +kernel
theorem dX8_is_33 : decode cX8_is 33 = .ok (.ireturn, 1) := by decide +kernel
theorem dX8_is_34 : decode cX8_is 34 = .ok (.iload_n 3, 1) := by decide +kernel
theorem dX8_is_35 : decode cX8_is 35 = .ok (.iconst 1, 1) := by decide +kernel
theorem dX8_is_36 : decode cX8_is 36 = .ok (.if_icmp .ne 12, 3) := by decide +kernel
theorem dX8_is_39 : decode cX8_is 39 = .ok (.aload_n 0, 1) := by decide +kernel
theorem dX8_is_40 : decode cX8_is 40 = .ok (.iload_n 1, 1) := by decide +kernel
theorem dX8_is_41 : decode cX8_is 41 = .ok (.iload_n 2, 1) := by decide +kernel
theorem dX8_is_42 : decode cX8_is 42 = .ok (.invokevirtual 261, 3) := by decide +kernel
theorem dX8_is_45 : decode cX8_is 45 = .ok (.goto 20, 3) := by decide +kernel
theorem dX8_is_48 : decode cX8_is 48 = .ok (.aload_n 0, 1) := by decide +kernel
theorem dX8_is_49 : decode cX8_is 49 = .ok (.iload_n 1, 1) := by decide +kernel
theorem dX8_is_50 : decode cX8_is 50 = .ok (.iload_n 2, 1) := by decide +kernel
theorem dX8_is_51 : decode cX8_is 51 = .ok (.invokevirtual 264, 3) := by decide +kernel
theorem dX8_is_54 : decode cX8_is 54 = .ok (.iload_n 3, 1) := by decide +kernel
theorem dX8_is_55 : decode cX8_is 55 = .ok (.iconst 1, 1) := by decide +kernel
theorem dX8_is_56 : decode cX8_is 56 = .ok (.isub, 1) := by decide +kernel
theorem dX8_is_57 : decode cX8_is 57 = .ok (.if_icmp .lt 7, 3) := by decide +kernel
theorem dX8_is_60 : decode cX8_is 60 = .ok (.iconst 1, 1) := by decide +kernel
theorem dX8_is_61 : decode cX8_is 61 = .ok (.goto 4, 3) := by decide +kernel
theorem dX8_is_64 : decode cX8_is 64 = .ok (.iconst 0, 1) := by decide +kernel
theorem dX8_is_65 : decode cX8_is 65 = .ok (.istore 4, 2) := by decide +kernel
theorem dX8_is_67 : decode cX8_is 67 = .ok (.iload 4, 2) := by decide +kernel
theorem dX8_is_69 : decode cX8_is 69 = .ok (.ifCond .eq 7, 3) := by decide +kernel
theorem dX8_is_72 : decode cX8_is 72 = .ok (.iconst 1, 1) := by decide +kernel
theorem dX8_is_73 : decode cX8_is 73 = .ok (.goto 4, 3) := by decide +kernel
theorem dX8_is_76 : decode cX8_is 76 = .ok (.iconst 0, 1) := by decide +kernel
theorem dX8_is_77 : decode cX8_is 77 = .ok (.ireturn, 1) := by decide +kernel
set_option maxHeartbeats 4000000 in
theorem q_is (l : Launch) {D : va_G} {ids : Nat → ClassId} {β : Nat} {sh : Nat → Nat × Nat} {N : Nat} {R : Nat → Nat → Option Nat} {F : Nat → Nat → Int} {A : Nat → Int → Int} {S : SP} (hM : MoL sh R N) (hR0 : RepM S F A) {b t w : Int} (hb : I32 b) (ht : I32 t) (hw : I32 w) : MetX l yX8_is cX8_is 5 (some (.int)) 7 167 D ids β sh N R F A [rf 0, pI b, pI t, pI w] (pIr (fun z F2 A2 => z = oIs S b t w ∧ RepM S F2 A2)) := by
  refine MetX.of (loc := [_, _, _, _, _]) (plainFor_of_name (by decide +kernel)) (Nat.le_of_ble_eq_true rfl) rfl ?_
  intro p e s m args below meth c hC hK hr hlk
  obtain ⟨⟨m0, m1⟩, ⟨rx0, r2, r3, r7, r8, r9, r11, r12, r13, r16, r18⟩, ⟨m2, m3⟩, ⟨m4, m5⟩, ⟨m6, m7⟩, ⟨m8, m9⟩, ⟨m10, m11⟩, ⟨m12, m13⟩, ⟨m14, m15⟩, ⟨m16, m17⟩, ⟨m18, m19⟩, ⟨m20, m21⟩, ⟨m22, m23⟩⟩ := id hM
  obtain ⟨hi, b1, b2, b3, b4, b5, b6, b7, b8⟩ := id hR0
  have i1 := hi.1
  refine x_aload_n (pc2 := 1) hC rfl rfl dX8_is_0 rfl ?_
  refine x_iload_n (pc2 := 2) hC rfl rfl dX8_is_1 rfl ?_
  refine x_cVi (pc2 := 5) (ci := 8) hC hK (q_isBox l hM hR0 hb) lk_884 rfl rfl (by decide) (by assumption) (by assumption) ⟨Nat.le_of_ble_eq_true rfl, Nat.le_of_ble_eq_true rfl⟩ ⟨Nat.le_refl _, Nat.le_refl _⟩ rfl (Nat.le_of_ble_eq_true rfl) dX8_is_2 rfl ?_
  rintro z2 F2 A2 ⟨w2, b2_, e12, e22⟩
  obtain rfl := e12.symm
  obtain rfl := e22.symm
  refine x_if_eq (tgt := 32) (pc2 := 8) hC (by omega) dX8_is_5 rfl rfl (fun h_5 => ?_) (fun h_5 => ?_)
  · refine x_iconst (pc2 := 33) hC dX8_is_32 rfl ?_
    exact x_iret hC hr hlk ⟨_, rfl, by rw [oIs, itC_neg (fun ⟨q1, q2, q3⟩ => by first | exact absurd h_5 ((b2_ ()).mpr q1) | exact absurd h_17 ((b14 ()).mpr (by omega)) | exact absurd h_29 ((b26 ()).mpr (by omega)))], hR0⟩ dX8_is_33
  · refine x_iload_n (pc2 := 9) hC rfl rfl dX8_is_8 rfl ?_
    refine x_i2l (pc2 := 10) hC ht dX8_is_9 rfl ?_
    refine x_lconst0 (pc2 := 11) hC dX8_is_10 rfl ?_
    refine x_ldc2 (pc2 := 14) (z := 3) hC wt_888 rfl dX8_is_11 rfl ?_
    refine x_cSi (pc2 := 17) hC hK (n_in l ⟨by omega, by omega⟩ ⟨by omega, by omega⟩ ⟨by omega, by omega⟩) lk_873 rfl ⟨Nat.le_of_ble_eq_true rfl, Nat.le_of_ble_eq_true rfl⟩ ⟨Nat.le_refl _, Nat.le_refl _⟩ rfl (Nat.le_of_ble_eq_true rfl) dX8_is_14 rfl ?_
    rintro z14 F14 A14 ⟨w14, b14, e114, e214⟩
    obtain rfl := e114.symm
    obtain rfl := e214.symm
    refine x_if_eq (tgt := 32) (pc2 := 20) hC (by omega) dX8_is_17 rfl rfl (fun h_17 => ?_) (fun h_17 => ?_)
    · refine x_iconst (pc2 := 33) hC dX8_is_32 rfl ?_
      exact x_iret hC hr hlk ⟨_, rfl, by rw [oIs, itC_neg (fun ⟨q1, q2, q3⟩ => by first | exact absurd h_5 ((b2_ ()).mpr q1) | exact absurd h_17 ((b14 ()).mpr (by omega)) | exact absurd h_29 ((b26 ()).mpr (by omega)))], hR0⟩ dX8_is_33
    · refine x_iload_n (pc2 := 21) hC rfl rfl dX8_is_20 rfl ?_
      refine x_i2l (pc2 := 22) hC hw dX8_is_21 rfl ?_
      refine x_lconst1 (pc2 := 23) hC dX8_is_22 rfl ?_
      refine x_ldc2 (pc2 := 26) (z := 3) hC wt_888 rfl dX8_is_23 rfl ?_
      refine x_cSi (pc2 := 29) hC hK (n_in l ⟨by omega, by omega⟩ ⟨by omega, by omega⟩ ⟨by omega, by omega⟩) lk_873 rfl ⟨Nat.le_of_ble_eq_true rfl, Nat.le_of_ble_eq_true rfl⟩ ⟨Nat.le_refl _, Nat.le_refl _⟩ rfl (Nat.le_of_ble_eq_true rfl) dX8_is_26 rfl ?_
      rintro z26 F26 A26 ⟨w26, b26, e126, e226⟩
      obtain rfl := e126.symm
      obtain rfl := e226.symm
      refine x_if_ne (tgt := 34) (pc2 := 32) hC (by omega) dX8_is_29 rfl rfl (fun h_29 => ?_) (fun h_29 => ?_)
      · have hB := (b2_ ()).mp h_5
        have hT : isT t := by have := (b14 ()).mp h_17; omega
        have hW := (b26 ()).mp h_29
        refine x_iload_n (pc2 := 35) hC rfl rfl dX8_is_34 rfl ?_
        refine x_iconst (pc2 := 36) hC dX8_is_35 rfl ?_
        refine x_icmp_ne (tgt := 48) (pc2 := 39) hC (by omega) (by omega) dX8_is_36 rfl rfl (fun h_36 => ?_) (fun h_36 => ?_)
        · refine x_aload_n (pc2 := 49) hC rfl rfl dX8_is_48 rfl ?_
          refine x_iload_n (pc2 := 50) hC rfl rfl dX8_is_49 rfl ?_
          refine x_iload_n (pc2 := 51) hC rfl rfl dX8_is_50 rfl ?_
          refine x_cVi (pc2 := 54) (ci := 8) hC hK (q_passes l hM hR0 hB hT) lk_1133 rfl rfl (by decide) (by assumption) (by assumption) ⟨Nat.le_of_ble_eq_true rfl, Nat.le_of_ble_eq_true rfl⟩ ⟨Nat.le_refl _, Nat.le_refl _⟩ rfl (Nat.le_of_ble_eq_true rfl) dX8_is_51 rfl ?_
          rintro z51 F51 A51 ⟨w51, b51, hR51⟩
          have pk : w - 1 ≤ z51 ↔ pasP S b t w := by
            rcases (show w = 2 ∨ w = 3 by omega) with y | y <;> rw [y]
            · exact (b51 ()).1
            · exact (b51 ()).2
          refine x_iload_n (pc2 := 55) hC rfl rfl dX8_is_54 rfl ?_
          refine x_iconst (pc2 := 56) hC dX8_is_55 rfl ?_
          refine x_isub (pc2 := 57) hC dX8_is_56 rfl ?_
          refine x_icmp_lt (tgt := 64) (pc2 := 60) hC (by omega) (by omega) dX8_is_57 rfl rfl (fun h_57 => ?_) (fun h_57 => ?_)
          · refine x_iconst (pc2 := 65) hC dX8_is_64 rfl ?_
            refine x_istore (pc2 := 67) (loc2 := [_, _, _, _, _]) hC (by decide) rfl dX8_is_65 rfl ?_
            refine x_iload (pc2 := 69) hC rfl dX8_is_67 rfl ?_
            refine x_if_eq (tgt := 76) (pc2 := 72) hC (by omega) dX8_is_69 rfl rfl (fun h_69 => ?_) (fun h_69 => ?_)
            · refine x_iconst (pc2 := 77) hC dX8_is_76 rfl ?_
              exact x_iret hC hr hlk ⟨_, rfl, by rw [oIs, itC_pos ⟨hB, hT, by omega, by omega⟩, pasI]; first | (exfalso; omega) | (rw [itC_neg (fun q => by have := pk.mpr q; omega)]), hR51⟩ dX8_is_77
            · refine x_iconst (pc2 := 73) hC dX8_is_72 rfl ?_
              refine x_goto (pc2 := 77) hC dX8_is_73 rfl ?_
              exact x_iret hC hr hlk ⟨_, rfl, by rw [oIs, itC_pos ⟨hB, hT, by omega, by omega⟩, pasI]; first | (exfalso; omega) | (rw [itC_neg (fun q => by have := pk.mpr q; omega)]), hR51⟩ dX8_is_77
          · refine x_iconst (pc2 := 61) hC dX8_is_60 rfl ?_
            refine x_goto (pc2 := 65) hC dX8_is_61 rfl ?_
            refine x_istore (pc2 := 67) (loc2 := [_, _, _, _, _]) hC (by decide) rfl dX8_is_65 rfl ?_
            refine x_iload (pc2 := 69) hC rfl dX8_is_67 rfl ?_
            refine x_if_eq (tgt := 76) (pc2 := 72) hC (by omega) dX8_is_69 rfl rfl (fun h_69 => ?_) (fun h_69 => ?_)
            · refine x_iconst (pc2 := 77) hC dX8_is_76 rfl ?_
              exact x_iret hC hr hlk ⟨_, rfl, by rw [oIs, itC_pos ⟨hB, hT, by omega, by omega⟩, pasI]; first | (exfalso; omega) | (rw [itC_pos (pk.mp (by omega))]), hR51⟩ dX8_is_77
            · refine x_iconst (pc2 := 73) hC dX8_is_72 rfl ?_
              refine x_goto (pc2 := 77) hC dX8_is_73 rfl ?_
              exact x_iret hC hr hlk ⟨_, rfl, by rw [oIs, itC_pos ⟨hB, hT, by omega, by omega⟩, pasI]; first | (exfalso; omega) | (rw [itC_pos (pk.mp (by omega))]), hR51⟩ dX8_is_77
        · refine x_aload_n (pc2 := 40) hC rfl rfl dX8_is_39 rfl ?_
          refine x_iload_n (pc2 := 41) hC rfl rfl dX8_is_40 rfl ?_
          refine x_iload_n (pc2 := 42) hC rfl rfl dX8_is_41 rfl ?_
          refine x_cVi (pc2 := 45) (ci := 8) hC hK (q_isLike l hM hR0 hB hT) lk_1129 rfl rfl (by decide) (by assumption) (by assumption) ⟨Nat.le_of_ble_eq_true rfl, Nat.le_of_ble_eq_true rfl⟩ ⟨Nat.le_refl _, Nat.le_refl _⟩ rfl (Nat.le_of_ble_eq_true rfl) dX8_is_42 rfl ?_
          rintro z42 F42 A42 ⟨w42, b42, e142, e242⟩
          obtain rfl := e142.symm
          obtain rfl := e242.symm
          have pk : z42 ≠ 0 ↔ pasP S b t w := by
            rw [show w = 1 by omega]
            refine (b42 ()).trans ⟨fun q => Or.inl ⟨rfl, q⟩, fun q => ?_⟩
            rcases q with ⟨-, q⟩ | ⟨q, -⟩ | ⟨q, -⟩
            · exact q
            · omega
            · omega
          refine x_goto (pc2 := 65) hC dX8_is_45 rfl ?_
          refine x_istore (pc2 := 67) (loc2 := [_, _, _, _, _]) hC (by decide) rfl dX8_is_65 rfl ?_
          refine x_iload (pc2 := 69) hC rfl dX8_is_67 rfl ?_
          refine x_if_eq (tgt := 76) (pc2 := 72) hC (by omega) dX8_is_69 rfl rfl (fun h_69 => ?_) (fun h_69 => ?_)
          · refine x_iconst (pc2 := 77) hC dX8_is_76 rfl ?_
            exact x_iret hC hr hlk ⟨_, rfl, by rw [oIs, itC_pos ⟨hB, hT, by omega, by omega⟩, pasI]; first | (rw [itC_pos (pk.mp (by assumption))]) | (rw [itC_neg (fun q => absurd (by assumption) (pk.mpr q))]), hR0⟩ dX8_is_77
          · refine x_iconst (pc2 := 73) hC dX8_is_72 rfl ?_
            refine x_goto (pc2 := 77) hC dX8_is_73 rfl ?_
            exact x_iret hC hr hlk ⟨_, rfl, by rw [oIs, itC_pos ⟨hB, hT, by omega, by omega⟩, pasI]; first | (rw [itC_pos (pk.mp (by assumption))]) | (rw [itC_neg (fun q => absurd (by assumption) (pk.mpr q))]), hR0⟩ dX8_is_77
      · refine x_iconst (pc2 := 33) hC dX8_is_32 rfl ?_
        exact x_iret hC hr hlk ⟨_, rfl, by rw [oIs, itC_neg (fun ⟨q1, q2, q3⟩ => by first | exact absurd h_5 ((b2_ ()).mpr q1) | exact absurd h_17 ((b14 ()).mpr (by omega)) | exact absurd h_29 ((b26 ()).mpr (by omega)))], hR0⟩ dX8_is_33
theorem dX8_about_0 : decode cX8_about 0 = .ok (.aload_n 0, 1) := by decide +kernel
theorem dX8_about_1 : decode cX8_about 1 = .ok (.iload_n 1, 1) := by decide +kernel
theorem dX8_about_2 : decode cX8_about 2 = .ok (.invokevirtual 161, 3) := by decide +kernel
theorem dX8_about_5 : decode cX8_about 5 = .ok (.ifCond .eq 15, 3) := by decide +kernel
theorem dX8_about_8 : decode cX8_about 8 = .ok (.iload_n 2, 1) := by decide +kernel
theorem dX8_about_9 : decode cX8_about 9 = .ok (.i2l, 1) := by decide +kernel
theorem dX8_about_10 : decode cX8_about 10 = .ok (.lconst 0, 1) := by decide +kernel
theorem dX8_about_11 : decode cX8_about 11 = .ok (.ldc2_w 184, 3) := by decide +kernel
theorem dX8_about_14 : decode cX8_about 14 = .ok (.invokestatic 157, 3) := by decide +kernel
theorem dX8_about_17 : decode cX8_about 17 = .ok (.ifCond .ne 5, 3) := by decide +kernel
theorem dX8_about_20 : decode cX8_about 20 = .ok (.iconst (-1), 1) := by decide +kernel
theorem dX8_about_21 : decode cX8_about 21 = .ok (.ireturn, 1) := by decide +kernel
theorem dX8_about_22 : decode cX8_about 22 = .ok (.iload_n 2, 1) := by decide +kernel
theorem dX8_about_23 : decode cX8_about 23 = .ok (.ifCond .ne 10, 3) := by decide +kernel
theorem dX8_about_26 : decode cX8_about 26 = .ok (.aload_n 0, 1) := by decide +kernel
theorem dX8_about_27 : decode cX8_about 27 = .ok (.getfield 7, 3) := by decide +kernel
theorem dX8_about_30 : decode cX8_about 30 = .ok (.iload_n 1, 1) := by decide +kernel
theorem dX8_about_31 : decode cX8_about 31 = .ok (.iaload, 1) := by decide +kernel
theorem dX8_about_32 : decode cX8_about 32 = .ok (.ireturn, 1) := by decide +kernel
theorem dX8_about_33 : decode cX8_about 33 = .ok (.iconst 0, 1) := by decide +kernel
theorem dX8_about_34 : decode cX8_about 34 = .ok (.istore_n 3, 1) := by decide +kernel
theorem dX8_about_35 : decode cX8_about 35 = .ok (.iconst 0, 1) := by decide +kernel
theorem dX8_about_36 : decode cX8_about 36 = .ok (.istore 4, 2) := by decide +kernel
theorem dX8_about_38 : decode cX8_about 38 = .ok (.iload 4, 2) := by decide +kernel
theorem dX8_about_40 : decode cX8_about 40 = .ok (.iconst 4, 1) := by decide +kernel
theorem dX8_about_41 : decode cX8_about 41 = .ok (.if_icmp .ge 20, 3) := by decide +kernel
theorem dX8_about_44 : decode cX8_about 44 = .ok (.iload_n 3, 1) := by decide +kernel
theorem dX8_about_45 : decode cX8_about 45 = .ok (.aload_n 0, 1) := by decide +kernel
theorem dX8_about_46 : decode cX8_about 46 = .ok (.iload_n 1, 1) := by decide +kernel
theorem dX8_about_47 : decode cX8_about 47 = .ok (.iload 4, 2) := by decide +kernel
theorem dX8_about_49 : decode cX8_about 49 = .ok (.iload_n 2, 1) := by decide +kernel
theorem dX8_about_50 : decode cX8_about 50 = .ok (.invokevirtual 267, 3) := by decide +kernel
theorem dX8_about_53 : decode cX8_about 53 = .ok (.iadd, 1) := by decide +kernel
theorem dX8_about_54 : decode cX8_about 54 = .ok (.istore_n 3, 1) := by decide +kernel
theorem dX8_about_55 : decode cX8_about 55 = .ok (.iinc 4 1, 3) := by decide +kernel
theorem dX8_about_58 : decode cX8_about 58 = .ok (.goto (-20), 3) := by decide +kernel
theorem dX8_about_61 : decode cX8_about 61 = .ok (.iload_n 3, 1) := by decide +kernel
theorem dX8_about_62 : decode cX8_about 62 = .ok (.ireturn, 1) := by decide +kernel
set_option maxHeartbeats 4000000 in
theorem q_about (l : Launch) {D : va_G} {ids : Nat → ClassId} {β : Nat} {sh : Nat → Nat × Nat} {N : Nat} {R : Nat → Nat → Option Nat} {F : Nat → Nat → Int} {A : Nat → Int → Int} {S : SP} (hM : MoL sh R N) (hR0 : RepM S F A) {b w : Int} (hb : I32 b) (hw : I32 w) : MetX l yX8_about cX8_about 5 (some (.int)) 8 191 D ids β sh N R F A [rf 0, pI b, pI w] (pIr (fun z F2 A2 => z = oAbout S b w ∧ RepM S F2 A2)) := by
  refine MetX.of (loc := [_, _, _, _, _]) (plainFor_of_name (by decide +kernel)) (Nat.le_of_ble_eq_true rfl) rfl ?_
  intro p e s m args below meth c hC hK hr hlk
  obtain ⟨⟨m0, m1⟩, ⟨rx0, r2, r3, r7, r8, r9, r11, r12, r13, r16, r18⟩, ⟨m2, m3⟩, ⟨m4, m5⟩, ⟨m6, m7⟩, ⟨m8, m9⟩, ⟨m10, m11⟩, ⟨m12, m13⟩, ⟨m14, m15⟩, ⟨m16, m17⟩, ⟨m18, m19⟩, ⟨m20, m21⟩, ⟨m22, m23⟩⟩ := id hM
  obtain ⟨hi, b1, b2, b3, b4, b5, b6, b7, b8⟩ := id hR0
  have i1 := hi.1
  have loop : ∀ (d k : Nat) (n0 : Int) (F1 : Nat → Nat → Int) (A1 : Nat → Int → Int), 4 - k < d → k ≤ 4 → isB S b → (1 ≤ w ∧ w ≤ 3) → n0 = psum S b w k → RepM S F1 A1 → X p l e { frames := 8, cells := 0, slots := 0, locals := 191 } s m args below meth c (MQ below (QX D ids β sh N R (pIr (fun z F2 A2 => z = oAbout S b w ∧ RepM S F2 A2))) args s 0 0 (inG β N)) (inG β N) D ids β sh 5 0 0 N R F1 A1 [some (rf 0), some (pI b), some (pI w), some (pI n0), some (pI (k : Int))] [] 38 := by
    intro d
    induction d with
    | zero => intro k n0 F1 A1 hd; omega
    | succ d ih =>
      intro k n0 F1 A1 hd k4 hB hw3 hn hR1
      refine x_iload (pc2 := 40) hC rfl dX8_about_38 rfl ?_
      refine x_iconst (pc2 := 41) hC dX8_about_40 rfl ?_
      refine x_icmp_ge (tgt := 61) (pc2 := 44) hC (by omega) (by omega) dX8_about_41 rfl rfl (fun h_41 => ?_) (fun h_41 => ?_)
      · refine x_iload_n (pc2 := 62) hC rfl rfl dX8_about_61 rfl ?_
        exact x_iret hC hr hlk ⟨_, rfl, by rw [oAbout, itC_pos ⟨hB, by omega, by omega⟩, itC_neg (by omega), hn, show k = 4 by omega, show psum S b w 4 = 0 + pasI S b 0 w + pasI S b 1 w + pasI S b 2 w + pasI S b 3 w from rfl]; omega, hR1⟩ dX8_about_62
      · refine x_iload_n (pc2 := 45) hC rfl rfl dX8_about_44 rfl ?_
        refine x_aload_n (pc2 := 46) hC rfl rfl dX8_about_45 rfl ?_
        refine x_iload_n (pc2 := 47) hC rfl rfl dX8_about_46 rfl ?_
        refine x_iload (pc2 := 49) hC rfl dX8_about_47 rfl ?_
        refine x_iload_n (pc2 := 50) hC rfl rfl dX8_about_49 rfl ?_
        refine x_cVi (pc2 := 53) (ci := 8) hC hK (q_is l hM hR1 (b := b) (t := (k : Int)) (w := w) hb ⟨by omega, by omega⟩ hw) lk_1153 rfl rfl (by decide) (by assumption) (by assumption) ⟨Nat.le_of_ble_eq_true rfl, Nat.le_of_ble_eq_true rfl⟩ ⟨Nat.le_refl _, Nat.le_refl _⟩ rfl (Nat.le_of_ble_eq_true rfl) dX8_about_50 rfl ?_
        rintro z50 F50 A50 ⟨e50, hR50⟩
        refine x_iadd (pc2 := 54) hC dX8_about_53 rfl ?_
        refine x_istore_n (pc2 := 55) (loc2 := [_, _, _, _, _]) hC rfl (by decide) rfl dX8_about_54 rfl ?_
        refine x_iinc (pc2 := 58) (loc2 := [_, _, _, _, _]) hC (by decide) rfl rfl dX8_about_55 rfl ?_
        refine x_goto (pc2 := 38) hC dX8_about_58 rfl ?_
        refine ih (k + 1) _ F50 A50 (by omega) (by omega) hB hw3 ?_ hR50
        rw [psum, ← hn, e50, oIs, itC_pos ⟨hB, by omega, hw3.1, hw3.2⟩]
  refine x_aload_n (pc2 := 1) hC rfl rfl dX8_about_0 rfl ?_
  refine x_iload_n (pc2 := 2) hC rfl rfl dX8_about_1 rfl ?_
  refine x_cVi (pc2 := 5) (ci := 8) hC hK (q_isBox l hM hR0 hb) lk_884 rfl rfl (by decide) (by assumption) (by assumption) ⟨Nat.le_of_ble_eq_true rfl, Nat.le_of_ble_eq_true rfl⟩ ⟨Nat.le_refl _, Nat.le_refl _⟩ rfl (Nat.le_of_ble_eq_true rfl) dX8_about_2 rfl ?_
  rintro z2 F2 A2 ⟨w2, b2_, e12, e22⟩
  obtain rfl := e12.symm
  obtain rfl := e22.symm
  refine x_if_eq (tgt := 20) (pc2 := 8) hC (by omega) dX8_about_5 rfl rfl (fun h_5 => ?_) (fun h_5 => ?_)
  · refine x_iconst (pc2 := 21) hC dX8_about_20 rfl ?_
    exact x_iret hC hr hlk ⟨_, rfl, by rw [oAbout, itC_neg (fun ⟨q1, q2⟩ => by first | exact absurd h_5 ((b2_ ()).mpr q1) | exact absurd h_17 ((b14 ()).mpr (by omega)))], hR0⟩ dX8_about_21
  · refine x_iload_n (pc2 := 9) hC rfl rfl dX8_about_8 rfl ?_
    refine x_i2l (pc2 := 10) hC hw dX8_about_9 rfl ?_
    refine x_lconst0 (pc2 := 11) hC dX8_about_10 rfl ?_
    refine x_ldc2 (pc2 := 14) (z := 3) hC wt_888 rfl dX8_about_11 rfl ?_
    refine x_cSi (pc2 := 17) hC hK (n_in l ⟨by omega, by omega⟩ ⟨by omega, by omega⟩ ⟨by omega, by omega⟩) lk_873 rfl ⟨Nat.le_of_ble_eq_true rfl, Nat.le_of_ble_eq_true rfl⟩ ⟨Nat.le_refl _, Nat.le_refl _⟩ rfl (Nat.le_of_ble_eq_true rfl) dX8_about_14 rfl ?_
    rintro z14 F14 A14 ⟨w14, b14, e114, e214⟩
    obtain rfl := e114.symm
    obtain rfl := e214.symm
    refine x_if_ne (tgt := 22) (pc2 := 20) hC (by omega) dX8_about_17 rfl rfl (fun h_17 => ?_) (fun h_17 => ?_)
    · have hB := (b2_ ()).mp h_5
      have hW := (b14 ()).mp h_17
      have pt := b2 b hB
      have b16 := hB.2
      refine x_iload_n (pc2 := 23) hC rfl rfl dX8_about_22 rfl ?_
      refine x_if_ne (tgt := 33) (pc2 := 26) hC (by omega) dX8_about_23 rfl rfl (fun h_23 => ?_) (fun h_23 => ?_)
      · refine x_iconst (pc2 := 34) hC dX8_about_33 rfl ?_
        refine x_istore_n (pc2 := 35) (loc2 := [_, _, _, _, _]) hC rfl (by decide) rfl dX8_about_34 rfl ?_
        refine x_iconst (pc2 := 36) hC dX8_about_35 rfl ?_
        refine x_istore (pc2 := 38) (loc2 := [_, _, _, _, _]) hC (by decide) rfl dX8_about_36 rfl ?_
        exact loop 5 0 0 F A (by omega) (by omega) hB ⟨by omega, by omega⟩ rfl hR0
      · refine x_aload_n (pc2 := 27) hC rfl rfl dX8_about_26 rfl ?_
        refine g_809 (pc2 := 30) hC hK (by assumption) (by assumption) (by assumption) dX8_about_27 rfl ?_
        refine x_iload_n (pc2 := 31) hC rfl rfl dX8_about_30 rfl ?_
        refine x_iald (pc2 := 32) hC hK (by assumption) (by assumption) (by omega) (by decide) dX8_about_31 rfl ?_
        exact x_iret hC hr hlk ⟨_, rfl, by rw [oAbout, itC_pos ⟨hB, by omega, by omega⟩, itC_pos (by omega)]; exact pt, hR0⟩ dX8_about_32
    · refine x_iconst (pc2 := 21) hC dX8_about_20 rfl ?_
      exact x_iret hC hr hlk ⟨_, rfl, by rw [oAbout, itC_neg (fun ⟨q1, q2⟩ => by first | exact absurd h_5 ((b2_ ()).mpr q1) | exact absurd h_17 ((b14 ()).mpr (by omega)))], hR0⟩ dX8_about_21
