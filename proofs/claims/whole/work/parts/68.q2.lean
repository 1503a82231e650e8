theorem dX8_where_0 : decode cX8_where 0 = .ok (.iload_n 1, 1) := by decide +kernel
theorem dX8_where_1 : decode cX8_where 1 = .ok (.ifCond .ne 10, 3) := by decide +kernel
theorem dX8_where_4 : decode cX8_where 4 = .ok (.aload_n 0, 1) := by decide +kernel
theorem dX8_where_5 : decode cX8_where 5 = .ok (.getfield 20, 3) := by decide +kernel
theorem dX8_where_8 : decode cX8_where 8 = .ok (.goto 16, 3) := by decide +kernel
theorem dX8_where_11 : decode cX8_where 11 = .ok (.iload_n 1, 1) := by decide +kernel
theorem dX8_where_12 : decode cX8_where 12 = .ok (.iconst 1, 1) := by decide +kernel
theorem dX8_where_13 : decode cX8_where 13 = .ok (.if_icmp .ne 10, 3) := by decide +kernel
theorem dX8_where_16 : decode cX8_where 16 = .ok (.aload_n 0, 1) := by decide +kernel
theorem dX8_where_17 : decode cX8_where 17 = .ok (.getfield 24, 3) := by decide +kernel
theorem dX8_where_20 : decode cX8_where 20 = .ok (.goto 4, 3) := by decide +kernel
theorem dX8_where_23 : decode cX8_where 23 = .ok (.iconst (-1), 1) := by decide +kernel
theorem dX8_where_24 : decode cX8_where 24 = .ok (.ireturn, 1) := by decide +kernel
set_option maxHeartbeats 4000000 in
theorem q_where (l : Launch) {D : va_G} {ids : Nat → ClassId} {β : Nat} {sh : Nat → Nat × Nat} {N : Nat} {R : Nat → Nat → Option Nat} {F : Nat → Nat → Int} {A : Nat → Int → Int} {S : SP} (hM : MoL sh R N) (hR0 : RepM S F A) {w : Int} (hw : I32 w) : MetX l yX8_where cX8_where 2 (some (.int)) 0 0 D ids β sh N R F A [rf 0, pI w] (pIr (fun z F2 A2 => z = oWhere S w ∧ RepM S F2 A2)) := by
  refine MetX.of (loc := [_, _]) (plainFor_of_name (by decide +kernel)) (Nat.le_of_ble_eq_true rfl) rfl ?_
  intro p e s m args below meth c hC hK hr hlk
  obtain ⟨⟨m0, m1⟩, ⟨rx0, r2, r3, r7, r8, r9, r11, r12, r13, r16, r18⟩, ⟨m2, m3⟩, ⟨m4, m5⟩, ⟨m6, m7⟩, ⟨m8, m9⟩, ⟨m10, m11⟩, ⟨m12, m13⟩, ⟨m14, m15⟩, ⟨m16, m17⟩, ⟨m18, m19⟩, ⟨m20, m21⟩, ⟨m22, m23⟩⟩ := id hM
  obtain ⟨hi, b1, b2, b3, b4, b5, b6, b7, b8⟩ := id hR0
  have i1 := hi.1
  refine x_iload_n (pc2 := 1) hC rfl rfl dX8_where_0 rfl ?_
  refine x_if_ne (tgt := 11) (pc2 := 4) hC (by omega) dX8_where_1 rfl rfl (fun h_1 => ?_) (fun h_1 => ?_)
  · refine x_iload_n (pc2 := 12) hC rfl rfl dX8_where_11 rfl ?_
    refine x_iconst (pc2 := 13) hC dX8_where_12 rfl ?_
    refine x_icmp_ne (tgt := 23) (pc2 := 16) hC (by omega) (by omega) dX8_where_13 rfl rfl (fun h_13 => ?_) (fun h_13 => ?_)
    · refine x_iconst (pc2 := 24) hC dX8_where_23 rfl ?_
      exact x_iret hC hr hlk ⟨_, rfl, by first | (rw [oWhere, if_pos (by omega)]; exact b4) | (rw [oWhere, if_neg (by omega), if_pos (by omega)]; exact b5) | rw [oWhere, if_neg (by omega), if_neg (by omega)], hR0⟩ dX8_where_24
    · refine x_aload_n (pc2 := 17) hC rfl rfl dX8_where_16 rfl ?_
      refine g_815 (pc2 := 20) hC hK (by assumption) (by assumption) dX8_where_17 rfl ?_
      refine x_goto (pc2 := 24) hC dX8_where_20 rfl ?_
      exact x_iret hC hr hlk ⟨_, rfl, by first | (rw [oWhere, if_pos (by omega)]; exact b4) | (rw [oWhere, if_neg (by omega), if_pos (by omega)]; exact b5) | rw [oWhere, if_neg (by omega), if_neg (by omega)], hR0⟩ dX8_where_24
  · refine x_aload_n (pc2 := 5) hC rfl rfl dX8_where_4 rfl ?_
    refine g_814 (pc2 := 8) hC hK (by assumption) (by assumption) dX8_where_5 rfl ?_
    refine x_goto (pc2 := 24) hC dX8_where_8 rfl ?_
    exact x_iret hC hr hlk ⟨_, rfl, by first | (rw [oWhere, if_pos (by omega)]; exact b4) | (rw [oWhere, if_neg (by omega), if_pos (by omega)]; exact b5) | rw [oWhere, if_neg (by omega), if_neg (by omega)], hR0⟩ dX8_where_24
theorem dX8_count_0 : decode cX8_count 0 = .ok (.iload_n 1, 1) := by decide +kernel
theorem dX8_count_1 : decode cX8_count 1 = .ok (.ifCond .ne 10, 3) := by decide +kernel
theorem dX8_count_4 : decode cX8_count 4 = .ok (.aload_n 0, 1) := by decide +kernel
theorem dX8_count_5 : decode cX8_count 5 = .ok (.getfield 154, 3) := by decide +kernel
theorem dX8_count_8 : decode cX8_count 8 = .ok (.goto 16, 3) := by decide +kernel
theorem dX8_count_11 : decode cX8_count 11 = .ok (.iload_n 1, 1) := by decide +kernel
theorem dX8_count_12 : decode cX8_count 12 = .ok (.iconst 1, 1) := by decide +kernel
theorem dX8_count_13 : decode cX8_count 13 = .ok (.if_icmp .ne 10, 3) := by decide +kernel
theorem dX8_count_16 : decode cX8_count 16 = .ok (.aload_n 0, 1) := by decide +kernel
theorem dX8_count_17 : decode cX8_count 17 = .ok (.getfield 148, 3) := by decide +kernel
theorem dX8_count_20 : decode cX8_count 20 = .ok (.goto 4, 3) := by decide +kernel
theorem dX8_count_23 : decode cX8_count 23 = .ok (.iconst (-1), 1) := by decide +kernel
theorem dX8_count_24 : decode cX8_count 24 = .ok (.ireturn, 1) := by decide +kernel
set_option maxHeartbeats 4000000 in
theorem q_count (l : Launch) {D : va_G} {ids : Nat → ClassId} {β : Nat} {sh : Nat → Nat × Nat} {N : Nat} {R : Nat → Nat → Option Nat} {F : Nat → Nat → Int} {A : Nat → Int → Int} {S : SP} (hM : MoL sh R N) (hR0 : RepM S F A) {w : Int} (hw : I32 w) : MetX l yX8_count cX8_count 2 (some (.int)) 0 0 D ids β sh N R F A [rf 0, pI w] (pIr (fun z F2 A2 => z = oCount S w ∧ RepM S F2 A2)) := by
  refine MetX.of (loc := [_, _]) (plainFor_of_name (by decide +kernel)) (Nat.le_of_ble_eq_true rfl) rfl ?_
  intro p e s m args below meth c hC hK hr hlk
  obtain ⟨⟨m0, m1⟩, ⟨rx0, r2, r3, r7, r8, r9, r11, r12, r13, r16, r18⟩, ⟨m2, m3⟩, ⟨m4, m5⟩, ⟨m6, m7⟩, ⟨m8, m9⟩, ⟨m10, m11⟩, ⟨m12, m13⟩, ⟨m14, m15⟩, ⟨m16, m17⟩, ⟨m18, m19⟩, ⟨m20, m21⟩, ⟨m22, m23⟩⟩ := id hM
  obtain ⟨hi, b1, b2, b3, b4, b5, b6, b7, b8⟩ := id hR0
  have i1 := hi.1
  refine x_iload_n (pc2 := 1) hC rfl rfl dX8_count_0 rfl ?_
  refine x_if_ne (tgt := 11) (pc2 := 4) hC (by omega) dX8_count_1 rfl rfl (fun h_1 => ?_) (fun h_1 => ?_)
  · refine x_iload_n (pc2 := 12) hC rfl rfl dX8_count_11 rfl ?_
    refine x_iconst (pc2 := 13) hC dX8_count_12 rfl ?_
    refine x_icmp_ne (tgt := 23) (pc2 := 16) hC (by omega) (by omega) dX8_count_13 rfl rfl (fun h_13 => ?_) (fun h_13 => ?_)
    · refine x_iconst (pc2 := 24) hC dX8_count_23 rfl ?_
      exact x_iret hC hr hlk ⟨_, rfl, by first | (rw [oCount, if_pos (by omega)]; exact b1) | (rw [oCount, if_neg (by omega), if_pos (by omega)]; exact b3) | rw [oCount, if_neg (by omega), if_neg (by omega)], hR0⟩ dX8_count_24
    · refine x_aload_n (pc2 := 17) hC rfl rfl dX8_count_16 rfl ?_
      refine g_813 (pc2 := 20) hC hK (by assumption) (by assumption) dX8_count_17 rfl ?_
      refine x_goto (pc2 := 24) hC dX8_count_20 rfl ?_
      exact x_iret hC hr hlk ⟨_, rfl, by first | (rw [oCount, if_pos (by omega)]; exact b1) | (rw [oCount, if_neg (by omega), if_pos (by omega)]; exact b3) | rw [oCount, if_neg (by omega), if_neg (by omega)], hR0⟩ dX8_count_24
  · refine x_aload_n (pc2 := 5) hC rfl rfl dX8_count_4 rfl ?_
    refine g_810 (pc2 := 8) hC hK (by assumption) (by assumption) dX8_count_5 rfl ?_
    refine x_goto (pc2 := 24) hC dX8_count_8 rfl ?_
    exact x_iret hC hr hlk ⟨_, rfl, by first | (rw [oCount, if_pos (by omega)]; exact b1) | (rw [oCount, if_neg (by omega), if_pos (by omega)]; exact b3) | rw [oCount, if_neg (by omega), if_neg (by omega)], hR0⟩ dX8_count_24
theorem dX8_part_0 : decode cX8_part 0 = .ok (.aload_n 0, 1) := by decide +kernel
theorem dX8_part_1 : decode cX8_part 1 = .ok (.iload_n 1, 1) := by decide +kernel
theorem dX8_part_2 : decode cX8_part 2 = .ok (.iload_n 3, 1) := by decide +kernel
theorem dX8_part_3 : decode cX8_part 3 = .ok (.iload 4, 2) := by decide +kernel
theorem dX8_part_5 : decode cX8_part 5 = .ok (.invokevirtual 180, 3) := by decide +kernel
theorem dX8_part_8 : decode cX8_part 8 = .ok (.ifCond .eq 28, 3) := by decide +kernel
theorem dX8_part_11 : decode cX8_part 11 = .ok (.iload_n 2, 1) := by decide +kernel
theorem dX8_part_12 : decode cX8_part 12 = .ok (.i2l, 1) := by decide +kernel
theorem dX8_part_13 : decode cX8_part 13 = .ok (.lconst 0, 1) := by decide +kernel
theorem dX8_part_14 : decode cX8_part 14 = .ok (.ldc2_w 184, 3) := by decide +kernel
theorem dX8_part_17 : decode cX8_part 17 = .ok (.invokestatic 157, 3) := by decide +kernel
theorem dX8_part_20 : decode cX8_part 20 = .ok (.ifCond .eq 16, 3) := by decide +kernel
theorem dX8_part_23 : decode cX8_part 23 = .ok (.iload 5, 2) := by decide +kernel
theorem dX8_part_25 : decode cX8_part 25 = .ok (.i2l, 1) := by decide +kernel
theorem dX8_part_26 : decode cX8_part 26 = .ok (.lconst 0, 1) := by decide +kernel
theorem dX8_part_27 : decode cX8_part 27 = .ok (.ldc2_w 248, 3) := by decide +kernel
theorem dX8_part_30 : decode cX8_part 30 = .ok (.invokestatic 157, 3) := by decide +kernel
theorem dX8_part_33 : decode cX8_part 33 = .ok (.ifCond .ne 7, 3) := by decide +kernel
theorem dX8_part_36 : decode cX8_part 36 = .ok (.ldc2_w 250, 3) := by decide +kernel
theorem dX8_part_39 : decode cX8_part 39 = .ok (.lreturn, 1) := by decide +kernel
theorem dX8_part_40 : decode cX8_part 40 = .ok (.aload_n 0, 1) := by decide +kernel
theorem dX8_part_41 : decode cX8_part 41 = .ok (.getfield 13, 3) := by decide +kernel
theorem dX8_part_44 : decode cX8_part 44 = .ok (.iload_n 1, 1) := by decide +kernel
theorem dX8_part_45 : decode cX8_part 45 = .ok (.iload_n 2, 1) := by decide +kernel
theorem dX8_part_46 : decode cX8_part 46 = .ok (.iload_n 3, 1) := by decide +kernel
theorem dX8_part_47 : decode cX8_part 47 = .ok (.iload 4, 2) := by decide +kernel
theorem dX8_part_49 : decode cX8_part 49 = .ok (.invokestatic 128, 3) := by decide +kernel
theorem dX8_part_52 : decode cX8_part 52 = .ok (.iload 5, 2) := by decide +kernel
theorem dX8_part_54 : decode cX8_part 54 = .ok (.iadd, 1) := by decide +kernel
theorem dX8_part_55 : decode cX8_part 55 = .ok (.laload, 1) := by decide +kernel
theorem dX8_part_56 : decode cX8_part 56 = .ok (.lreturn, 1) := by decide +kernel
set_option maxHeartbeats 4000000 in
theorem q_part (l : Launch) {D : va_G} {ids : Nat → ClassId} {β : Nat} {sh : Nat → Nat × Nat} {N : Nat} {R : Nat → Nat → Option Nat} {F : Nat → Nat → Int} {A : Nat → Int → Int} {S : SP} (hM : MoL sh R N) (hR0 : RepM S F A) {b t i j w : Int} (hb : I32 b) (ht : I32 t) (hi2 : I32 i) (hj : I32 j) (hw : I32 w) : MetX l yX8_part cX8_part 6 (some (.long)) 3 69 D ids β sh N R F A [rf 0, pI b, pI t, pI i, pI j, pI w] (pLr (fun z F2 A2 => z = oPart S b t i j w ∧ RepM S F2 A2)) := by
  refine MetX.of (loc := [_, _, _, _, _, _]) (plainFor_of_name (by decide +kernel)) (Nat.le_of_ble_eq_true rfl) rfl ?_
  intro p e s m args below meth c hC hK hr hlk
  obtain ⟨⟨m0, m1⟩, ⟨rx0, r2, r3, r7, r8, r9, r11, r12, r13, r16, r18⟩, ⟨m2, m3⟩, ⟨m4, m5⟩, ⟨m6, m7⟩, ⟨m8, m9⟩, ⟨m10, m11⟩, ⟨m12, m13⟩, ⟨m14, m15⟩, ⟨m16, m17⟩, ⟨m18, m19⟩, ⟨m20, m21⟩, ⟨m22, m23⟩⟩ := id hM
  obtain ⟨hi, b1, b2, b3, b4, b5, b6, b7, b8⟩ := id hR0
  have i1 := hi.1
  refine x_aload_n (pc2 := 1) hC rfl rfl dX8_part_0 rfl ?_
  refine x_iload_n (pc2 := 2) hC rfl rfl dX8_part_1 rfl ?_
  refine x_iload_n (pc2 := 3) hC rfl rfl dX8_part_2 rfl ?_
  refine x_iload (pc2 := 5) hC rfl dX8_part_3 rfl ?_
  refine x_cVi (pc2 := 8) (ci := 8) hC hK (q_isPlace l hM hR0 hb hi2 hj) lk_880 rfl rfl (by decide) (by assumption) (by assumption) ⟨Nat.le_of_ble_eq_true rfl, Nat.le_of_ble_eq_true rfl⟩ ⟨Nat.le_refl _, Nat.le_refl _⟩ rfl (Nat.le_of_ble_eq_true rfl) dX8_part_5 rfl ?_
  rintro z5 F5 A5 ⟨w5, b5_, e15, e25⟩
  obtain rfl := e15.symm
  obtain rfl := e25.symm
  refine x_if_eq (tgt := 36) (pc2 := 11) hC (by omega) dX8_part_8 rfl rfl (fun h_8 => ?_) (fun h_8 => ?_)
  · refine x_ldc2 (pc2 := 39) (z := -1000000000000000) hC wt_1124 rfl dX8_part_36 rfl ?_
    exact x_lret hC hr hlk ⟨_, rfl, by rw [oPart, itC_neg (fun ⟨q1, q2, q3⟩ => by first | exact absurd h_8 ((b5_ ()).mpr q2) | exact absurd h_20 ((b17 ()).mpr (by omega)) | exact absurd h_33 ((b30 ()).mpr (by omega)))], hR0⟩ dX8_part_39
  · refine x_iload_n (pc2 := 12) hC rfl rfl dX8_part_11 rfl ?_
    refine x_i2l (pc2 := 13) hC ht dX8_part_12 rfl ?_
    refine x_lconst0 (pc2 := 14) hC dX8_part_13 rfl ?_
    refine x_ldc2 (pc2 := 17) (z := 3) hC wt_888 rfl dX8_part_14 rfl ?_
    refine x_cSi (pc2 := 20) hC hK (n_in l ⟨by omega, by omega⟩ ⟨by omega, by omega⟩ ⟨by omega, by omega⟩) lk_873 rfl ⟨Nat.le_of_ble_eq_true rfl, Nat.le_of_ble_eq_true rfl⟩ ⟨Nat.le_refl _, Nat.le_refl _⟩ rfl (Nat.le_of_ble_eq_true rfl) dX8_part_17 rfl ?_
    rintro z17 F17 A17 ⟨w17, b17, e117, e217⟩
    obtain rfl := e117.symm
    obtain rfl := e217.symm
    refine x_if_eq (tgt := 36) (pc2 := 23) hC (by omega) dX8_part_20 rfl rfl (fun h_20 => ?_) (fun h_20 => ?_)
    · refine x_ldc2 (pc2 := 39) (z := -1000000000000000) hC wt_1124 rfl dX8_part_36 rfl ?_
      exact x_lret hC hr hlk ⟨_, rfl, by rw [oPart, itC_neg (fun ⟨q1, q2, q3⟩ => by first | exact absurd h_8 ((b5_ ()).mpr q2) | exact absurd h_20 ((b17 ()).mpr (by omega)) | exact absurd h_33 ((b30 ()).mpr (by omega)))], hR0⟩ dX8_part_39
    · refine x_iload (pc2 := 25) hC rfl dX8_part_23 rfl ?_
      refine x_i2l (pc2 := 26) hC hw dX8_part_25 rfl ?_
      refine x_lconst0 (pc2 := 27) hC dX8_part_26 rfl ?_
      refine x_ldc2 (pc2 := 30) (z := 5) hC wt_1123 rfl dX8_part_27 rfl ?_
      refine x_cSi (pc2 := 33) hC hK (n_in l ⟨by omega, by omega⟩ ⟨by omega, by omega⟩ ⟨by omega, by omega⟩) lk_873 rfl ⟨Nat.le_of_ble_eq_true rfl, Nat.le_of_ble_eq_true rfl⟩ ⟨Nat.le_refl _, Nat.le_refl _⟩ rfl (Nat.le_of_ble_eq_true rfl) dX8_part_30 rfl ?_
      rintro z30 F30 A30 ⟨w30, b30, e130, e230⟩
      obtain rfl := e130.symm
      obtain rfl := e230.symm
      refine x_if_ne (tgt := 40) (pc2 := 36) hC (by omega) dX8_part_33 rfl rfl (fun h_33 => ?_) (fun h_33 => ?_)
      · have hE := (b5_ ()).mp h_8
        have hT := (b17 ()).mp h_20
        have hW := (b30 ()).mp h_33
        have pt2 := (hi.2.1 b hE.1).1
        have he4 : isT (2 * i + j) := by have := hE.2; omega
        have hb16 := hE.1.2
        have hv := b6 b t (2 * i + j) hE.1 (by omega) he4 w (by omega) (by omega)
        refine x_aload_n (pc2 := 41) hC rfl rfl dX8_part_40 rfl ?_
        refine g_811 (pc2 := 44) hC hK (by assumption) (by assumption) (by assumption) dX8_part_41 rfl ?_
        refine x_iload_n (pc2 := 45) hC rfl rfl dX8_part_44 rfl ?_
        refine x_iload_n (pc2 := 46) hC rfl rfl dX8_part_45 rfl ?_
        refine x_iload_n (pc2 := 47) hC rfl rfl dX8_part_46 rfl ?_
        refine x_iload (pc2 := 49) hC rfl dX8_part_47 rfl ?_
        refine x_cSi (pc2 := 52) hC hK (n_place l) lk_989 rfl ⟨Nat.le_of_ble_eq_true rfl, Nat.le_of_ble_eq_true rfl⟩ ⟨Nat.le_refl _, Nat.le_refl _⟩ rfl (Nat.le_of_ble_eq_true rfl) dX8_part_49 rfl ?_
        rintro z49 F49 A49 ⟨rfl, e149, e249⟩
        obtain rfl := e149.symm
        obtain rfl := e249.symm
        refine x_iload (pc2 := 54) hC rfl dX8_part_52 rfl ?_
        refine x_iadd (pc2 := 55) hC dX8_part_54 rfl ?_
        refine x_lald (pc2 := 56) hC hK (by assumption) (by assumption) (by omega) (by decide) dX8_part_55 rfl ?_
        exact x_lret hC hr hlk ⟨_, rfl, by rw [oPart, itC_pos ⟨by omega, hE, by omega, by omega⟩]; exact hv, hR0⟩ dX8_part_56
      · refine x_ldc2 (pc2 := 39) (z := -1000000000000000) hC wt_1124 rfl dX8_part_36 rfl ?_
        exact x_lret hC hr hlk ⟨_, rfl, by rw [oPart, itC_neg (fun ⟨q1, q2, q3⟩ => by first | exact absurd h_8 ((b5_ ()).mpr q2) | exact absurd h_20 ((b17 ()).mpr (by omega)) | exact absurd h_33 ((b30 ()).mpr (by omega)))], hR0⟩ dX8_part_39
theorem dX8_same_0 : decode cX8_same 0 = .ok (.aload_n 0, 1) := by decide +kernel
theorem dX8_same_1 : decode cX8_same 1 = .ok (.iload_n 1, 1) := by decide +kernel
theorem dX8_same_2 : decode cX8_same 2 = .ok (.invokevirtual 161, 3) := by decide +kernel
theorem dX8_same_5 : decode cX8_same 5 = .ok (.ifCond .eq 11, 3) := by decide +kernel
theorem dX8_same_8 : decode cX8_same 8 = .ok (.aload_n 0, 1) := by decide +kernel
theorem dX8_same_9 : decode cX8_same 9 = .ok (.iload_n 2, 1) := by decide +kernel
theorem dX8_same_10 : decode cX8_same 10 = .ok (.invokevirtual 161, 3) := by decide +kernel
theorem dX8_same_13 : decode cX8_same 13 = .ok (.ifCond .ne 5, 3) := by decide +kernel
theorem dX8_same_16 : decode cX8_same 16 = .ok (.iconst (-1), 1) := by decide +kernel
theorem dX8_same_17 : decode cX8_same 17 = .ok (.ireturn, 1) := by decide +kernel
theorem dX8_same_18 : decode cX8_same 18 = .ok (.aload_n 0, 1) := by decide +kernel
theorem dX8_same_19 : decode cX8_same 19 = .ok (.getfield 7, 3) := by decide +kernel
theorem dX8_same_22 : decode cX8_same 22 = .ok (.iload_n 1, 1) := by decide +kernel
theorem dX8_same_23 : decode cX8_same 23 = .ok (.iaload, 1) := by decide +kernel
theorem dX8_same_24 : decode cX8_same 24 = .ok (.aload_n 0, 1) := by decide +kernel
theorem dX8_same_25 : decode cX8_same 25 = .ok (.getfield 7, 3) := by decide +kernel
theorem dX8_same_28 : decode cX8_same 28 = .ok (.iload_n 2, 1) := by decide +kernel
theorem dX8_same_29 : decode cX8_same 29 = .ok (.iaload, 1) := by decide +kernel
theorem dX8_same_30 : decode cX8_same 30 = .ok (.if_icmp .ne 7, 3) := by decide +kernel
theorem dX8_same_33 : decode cX8_same 33 = .ok (.iconst 1, 1) := by decide +kernel
theorem dX8_same_34 : decode cX8_same 34 = .ok (.goto 4, 3) := by decide +kernel
theorem dX8_same_37 : decode cX8_same 37 = .ok (.iconst 0, 1) := by decide +kernel
theorem dX8_same_38 : decode cX8_same 38 = .ok (.istore_n 3, 1) := by decide +kernel
theorem dX8_same_39 : decode cX8_same 39 = .ok (.iconst 0, 1) := by decide +kernel
theorem dX8_same_40 : decode cX8_same 40 = .ok (.istore 4, 2) := by decide +kernel
theorem dX8_same_42 : decode cX8_same 42 = .ok (.iload 4, 2) := by decide +kernel
theorem dX8_same_44 : decode cX8_same 44 = .ok (.bipush 96, 2) := by decide +kernel
theorem dX8_same_46 : decode cX8_same 46 = .ok (.if_icmp .ge 47, 3) := by decide +kernel
theorem dX8_same_49 : decode cX8_same 49 = .ok (.iload_n 3, 1) := by decide +kernel
theorem dX8_same_50 : decode cX8_same 50 = .ok (.ifCond .eq 35, 3) := by decide +kernel
theorem dX8_same_53 : decode cX8_same 53 = .ok (.aload_n 0, 1) := by decide +kernel
theorem dX8_same_54 : decode cX8_same 54 = .ok (.getfield 13, 3) := by decide +kernel
theorem dX8_same_57 : decode cX8_same 57 = .ok (.bipush 96, 2) := by decide +kernel
theorem dX8_same_59 : decode cX8_same 59 = .ok (.iload_n 1, 1) := by decide +kernel
theorem dX8_same_60 : decode cX8_same 60 = .ok (.imul, 1) := by decide +kernel
theorem dX8_same_61 : decode cX8_same 61 = .ok (.iload 4, 2) := by decide +kernel
theorem dX8_same_63 : decode cX8_same 63 = .ok (.iadd, 1) := by decide +kernel
theorem dX8_same_64 : decode cX8_same 64 = .ok (.laload, 1) := by decide +kernel
theorem dX8_same_65 : decode cX8_same 65 = .ok (.aload_n 0, 1) := by decide +kernel
theorem dX8_same_66 : decode cX8_same 66 = .ok (.getfield 13, 3) := by decide +kernel
theorem dX8_same_69 : decode cX8_same 69 = .ok (.bipush 96, 2) := by decide +kernel
theorem dX8_same_71 : decode cX8_same 71 = .ok (.iload_n 2, 1) := by decide +kernel
theorem dX8_same_72 : decode cX8_same 72 = .ok (.imul, 1) := by decide +kernel
theorem dX8_same_73 : decode cX8_same 73 = .ok (.iload 4, 2) := by decide +kernel
theorem dX8_same_75 : decode cX8_same 75 = .ok (.iadd, 1) := by decide +kernel
theorem dX8_same_76 : decode cX8_same 76 = .ok (.laload, 1) := by decide +kernel
theorem dX8_same_77 : decode cX8_same 77 = .ok (.lcmp, 1) := by decide +kernel
theorem dX8_same_78 : decode cX8_same 78 = .ok (.ifCond .ne 7, 3) := by decide +kernel
theorem dX8_same_81 : decode cX8_same 81 = .ok (.iconst 1, 1) := by decide +kernel
theorem dX8_same_82 : decode cX8_same 82 = .ok (.goto 4, 3) := by decide +kernel
theorem dX8_same_85 : decode cX8_same 85 = .ok (.iconst 0, 1) := by decide +kernel
theorem dX8_same_86 : decode cX8_same 86 = .ok (.istore_n 3, 1) := by decide +kernel
theorem dX8_same_87 : decode cX8_same 87 = .ok (.iinc 4 1, 3) := by decide +kernel
theorem dX8_same_90 : decode cX8_same 90 = .ok (.goto (-48), 3) := by decide +kernel
theorem dX8_same_93 : decode cX8_same 93 = .ok (.iload_n 3, 1) := by decide +kernel
theorem dX8_same_94 : decode cX8_same 94 = .ok (.ifCond .eq 7, 3) := by decide +kernel
theorem dX8_same_97 : decode cX8_same 97 = .ok (.iconst 1, 1) := by decide +kernel
theorem dX8_same_98 : decode cX8_same 98 = .ok (.goto 4, 3) := by decide +kernel
theorem dX8_same_101 : decode cX8_same 101 = .ok (.iconst 0, 1) := by decide +kernel
theorem dX8_same_102 : decode cX8_same 102 = .ok (.ireturn, 1) := by decide +kernel
set_option maxHeartbeats 4000000 in
theorem q_same (l : Launch) {D : va_G} {ids : Nat → ClassId} {β : Nat} {sh : Nat → Nat × Nat} {N : Nat} {R : Nat → Nat → Option Nat} {F : Nat → Nat → Int} {A : Nat → Int → Int} {S : SP} (hM : MoL sh R N) (hR0 : RepM S F A) {a b : Int} (ha : I32 a) (hb : I32 b) : MetX l yX8_same cX8_same 5 (some (.int)) 2 46 D ids β sh N R F A [rf 0, pI a, pI b] (pIr (fun z F2 A2 => z = oSame S a b ∧ RepM S F2 A2)) := by
  refine MetX.of (loc := [_, _, _, _, _]) (plainFor_of_name (by decide +kernel)) (Nat.le_of_ble_eq_true rfl) rfl ?_
  intro p e s m args below meth c hC hK hr hlk
  obtain ⟨⟨m0, m1⟩, ⟨rx0, r2, r3, r7, r8, r9, r11, r12, r13, r16, r18⟩, ⟨m2, m3⟩, ⟨m4, m5⟩, ⟨m6, m7⟩, ⟨m8, m9⟩, ⟨m10, m11⟩, ⟨m12, m13⟩, ⟨m14, m15⟩, ⟨m16, m17⟩, ⟨m18, m19⟩, ⟨m20, m21⟩, ⟨m22, m23⟩⟩ := id hM
  obtain ⟨hi, b1, b2, b3, b4, b5, b6, b7, b8⟩ := id hR0
  have i1 := hi.1
  have loop : isB S a → isB S b → ∀ (d k : Nat) (z : Int), 96 - (k : Int) < d → k ≤ 96 → (0 ≤ z ∧ z ≤ 1) → (Unit → (z ≠ 0 ↔ (ptS S a = ptS S b ∧ ∀ n : Int, 0 ≤ n → n < k → A 2 (96 * a + n) = A 2 (96 * b + n)))) → X p l e { frames := 2, cells := 0, slots := 0, locals := 46 } s m args below meth c (MQ below (QX D ids β sh N R (pIr (fun z F2 A2 => z = oSame S a b ∧ RepM S F2 A2))) args s 0 0 (inG β N)) (inG β N) D ids β sh 5 0 0 N R F A [some (rf 0), some (pI a), some (pI b), some (pI z), some (pI (k : Int))] [] 42 := by
    intro hA hB d
    induction d with
    | zero => intro k z hd; omega
    | succ d ih =>
      intro k z hd hk hz hz2
      have a16 := hA.2
      have b16 := hB.2
      refine x_iload (pc2 := 44) hC rfl dX8_same_42 rfl ?_
      refine x_bipush (pc2 := 46) hC rfl dX8_same_44 rfl ?_
      refine x_icmp_ge (tgt := 93) (pc2 := 49) hC (by omega) (by omega) dX8_same_46 rfl rfl (fun h_46 => ?_) (fun h_46 => ?_)
      · have e96 : (k : Int) = 96 := by omega
        have eqv : (ptS S a = ptS S b ∧ ∀ n : Int, 0 ≤ n → n < k → A 2 (96 * a + n) = A 2 (96 * b + n)) ↔ samB S a b := by
          rw [e96]
          constructor
          · rintro ⟨h1, h2⟩
            refine ⟨h1, fun t e ht he => (held_inj (b6 a t e hA ht he) (b6 b t e hB ht he)).mp (fun n n0 n6 => ?_)⟩
            have := h2 (24 * t + 6 * e + n) (by omega) (by omega)
            rwa [show 96 * a + (24 * t + 6 * e + n) = 96 * a + 24 * t + 6 * e + n by omega, show 96 * b + (24 * t + 6 * e + n) = 96 * b + 24 * t + 6 * e + n by omega] at this
          · rintro ⟨h1, h2⟩
            refine ⟨h1, fun n n0 n1 => ?_⟩
            have := (held_inj (b6 a (n / 24) (n % 24 / 6) hA (by omega) (by omega)) (b6 b (n / 24) (n % 24 / 6) hB (by omega) (by omega))).mpr (h2 (n / 24) (n % 24 / 6) (by omega) (by omega)) (n % 6) (by omega) (by omega)
            rwa [show 96 * a + 24 * (n / 24) + 6 * (n % 24 / 6) + n % 6 = 96 * a + n by omega, show 96 * b + 24 * (n / 24) + 6 * (n % 24 / 6) + n % 6 = 96 * b + n by omega] at this
        have eqz := (hz2 ()).trans eqv
        refine x_iload_n (pc2 := 94) hC rfl rfl dX8_same_93 rfl ?_
        refine x_if_eq (tgt := 101) (pc2 := 97) hC (by omega) dX8_same_94 rfl rfl (fun h_94 => ?_) (fun h_94 => ?_)
        · refine x_iconst (pc2 := 102) hC dX8_same_101 rfl ?_
          exact x_iret hC hr hlk ⟨_, rfl, by first | rw [oSame, itC_pos ⟨hA, hB⟩, itC_pos (eqz.mp (by assumption))] | rw [oSame, itC_pos ⟨hA, hB⟩, itC_neg (fun q => absurd (by assumption) (eqz.mpr q))], hR0⟩ dX8_same_102
        · refine x_iconst (pc2 := 98) hC dX8_same_97 rfl ?_
          refine x_goto (pc2 := 102) hC dX8_same_98 rfl ?_
          exact x_iret hC hr hlk ⟨_, rfl, by first | rw [oSame, itC_pos ⟨hA, hB⟩, itC_pos (eqz.mp (by assumption))] | rw [oSame, itC_pos ⟨hA, hB⟩, itC_neg (fun q => absurd (by assumption) (eqz.mpr q))], hR0⟩ dX8_same_102
      · refine x_iload_n (pc2 := 50) hC rfl rfl dX8_same_49 rfl ?_
        refine x_if_eq (tgt := 85) (pc2 := 53) hC (by omega) dX8_same_50 rfl rfl (fun h_50 => ?_) (fun h_50 => ?_)
        · refine x_iconst (pc2 := 86) hC dX8_same_85 rfl ?_
          refine x_istore_n (pc2 := 87) (loc2 := [_, _, _, _, _]) hC rfl (by decide) rfl dX8_same_86 rfl ?_
          refine x_iinc (pc2 := 90) (loc2 := [_, _, _, _, _]) hC (by decide) rfl rfl dX8_same_87 rfl ?_
          refine x_goto (pc2 := 42) hC dX8_same_90 rfl ?_
          refine ih (k + 1) 0 (by omega) (by omega) (by decide) (fun _ => ⟨fun q => absurd rfl q, fun q => ?_⟩)
          exact absurd (by assumption) ((hz2 ()).mpr ⟨q.1, fun n n0 n1 => q.2 n n0 (by omega)⟩)
        · have ra := hR0.i64 (k := 96 * a + k) (by omega) (by omega)
          have rb := hR0.i64 (k := 96 * b + k) (by omega) (by omega)
          refine x_aload_n (pc2 := 54) hC rfl rfl dX8_same_53 rfl ?_
          refine g_811 (pc2 := 57) hC hK (by assumption) (by assumption) (by assumption) dX8_same_54 rfl ?_
          refine x_bipush (pc2 := 59) hC rfl dX8_same_57 rfl ?_
          refine x_iload_n (pc2 := 60) hC rfl rfl dX8_same_59 rfl ?_
          refine x_imul (pc2 := 61) hC dX8_same_60 rfl ?_
          refine x_iload (pc2 := 63) hC rfl dX8_same_61 rfl ?_
          refine x_iadd (pc2 := 64) hC dX8_same_63 rfl ?_
          refine x_lald (pc2 := 65) hC hK (by assumption) (by assumption) (by omega) (by decide) dX8_same_64 rfl ?_
          refine x_aload_n (pc2 := 66) hC rfl rfl dX8_same_65 rfl ?_
          refine g_811 (pc2 := 69) hC hK (by assumption) (by assumption) (by assumption) dX8_same_66 rfl ?_
          refine x_bipush (pc2 := 71) hC rfl dX8_same_69 rfl ?_
          refine x_iload_n (pc2 := 72) hC rfl rfl dX8_same_71 rfl ?_
          refine x_imul (pc2 := 73) hC dX8_same_72 rfl ?_
          refine x_iload (pc2 := 75) hC rfl dX8_same_73 rfl ?_
          refine x_iadd (pc2 := 76) hC dX8_same_75 rfl ?_
          refine x_lald (pc2 := 77) hC hK (by assumption) (by assumption) (by omega) (by decide) dX8_same_76 rfl ?_
          refine x_lcmp_ne (tgt := 85) (pc2 := 81) hC ⟨by omega, by omega⟩ ⟨by omega, by omega⟩ dX8_same_77 dX8_same_78 rfl rfl (fun h_77 => ?_) (fun h_77 => ?_)
          · refine x_iconst (pc2 := 86) hC dX8_same_85 rfl ?_
            refine x_istore_n (pc2 := 87) (loc2 := [_, _, _, _, _]) hC rfl (by decide) rfl dX8_same_86 rfl ?_
            refine x_iinc (pc2 := 90) (loc2 := [_, _, _, _, _]) hC (by decide) rfl rfl dX8_same_87 rfl ?_
            refine x_goto (pc2 := 42) hC dX8_same_90 rfl ?_
            refine ih (k + 1) 0 (by omega) (by omega) (by decide) (fun _ => ⟨fun q => absurd rfl q, fun q => ?_⟩)
            exact absurd (q.2 k (by omega) (by omega)) h_77
          · refine x_iconst (pc2 := 82) hC dX8_same_81 rfl ?_
            refine x_goto (pc2 := 86) hC dX8_same_82 rfl ?_
            refine x_istore_n (pc2 := 87) (loc2 := [_, _, _, _, _]) hC rfl (by decide) rfl dX8_same_86 rfl ?_
            refine x_iinc (pc2 := 90) (loc2 := [_, _, _, _, _]) hC (by decide) rfl rfl dX8_same_87 rfl ?_
            refine x_goto (pc2 := 42) hC dX8_same_90 rfl ?_
            refine ih (k + 1) 1 (by omega) (by omega) (by decide) (fun _ => ⟨fun _ => ?_, fun _ => by decide⟩)
            obtain ⟨p1, p2⟩ := (hz2 ()).mp h_50
            refine ⟨p1, fun n n0 n1 => ?_⟩
            by_cases y : n = k
            · rw [y]; exact h_77
            · exact p2 n n0 (by omega)
  refine x_aload_n (pc2 := 1) hC rfl rfl dX8_same_0 rfl ?_
  refine x_iload_n (pc2 := 2) hC rfl rfl dX8_same_1 rfl ?_
  refine x_cVi (pc2 := 5) (ci := 8) hC hK (q_isBox l hM hR0 ha) lk_884 rfl rfl (by decide) (by assumption) (by assumption) ⟨Nat.le_of_ble_eq_true rfl, Nat.le_of_ble_eq_true rfl⟩ ⟨Nat.le_refl _, Nat.le_refl _⟩ rfl (Nat.le_of_ble_eq_true rfl) dX8_same_2 rfl ?_
  rintro z2 F2 A2 ⟨w2, b2_, e12, e22⟩
  obtain rfl := e12.symm
  obtain rfl := e22.symm
  refine x_if_eq (tgt := 16) (pc2 := 8) hC (by omega) dX8_same_5 rfl rfl (fun h_5 => ?_) (fun h_5 => ?_)
  · refine x_iconst (pc2 := 17) hC dX8_same_16 rfl ?_
    exact x_iret hC hr hlk ⟨_, rfl, by rw [oSame, itC_neg (fun ⟨q1, q2⟩ => by first | exact absurd h_5 ((b2_ ()).mpr q1) | exact absurd h_13 ((b10 ()).mpr q2))], hR0⟩ dX8_same_17
  · refine x_aload_n (pc2 := 9) hC rfl rfl dX8_same_8 rfl ?_
    refine x_iload_n (pc2 := 10) hC rfl rfl dX8_same_9 rfl ?_
    refine x_cVi (pc2 := 13) (ci := 8) hC hK (q_isBox l hM hR0 hb) lk_884 rfl rfl (by decide) (by assumption) (by assumption) ⟨Nat.le_of_ble_eq_true rfl, Nat.le_of_ble_eq_true rfl⟩ ⟨Nat.le_refl _, Nat.le_refl _⟩ rfl (Nat.le_of_ble_eq_true rfl) dX8_same_10 rfl ?_
    rintro z10 F10 A10 ⟨w10, b10, e110, e210⟩
    obtain rfl := e110.symm
    obtain rfl := e210.symm
    refine x_if_ne (tgt := 18) (pc2 := 16) hC (by omega) dX8_same_13 rfl rfl (fun h_13 => ?_) (fun h_13 => ?_)
    · have hB1 := (b2_ ()).mp h_5
      have pt1 := b2 a hB1
      have pt1b := (hi.2.1 a hB1).1
      have hB2 := (b10 ()).mp h_13
      have pt2 := b2 b hB2
      have pt2b := (hi.2.1 b hB2).1
      refine x_aload_n (pc2 := 19) hC rfl rfl dX8_same_18 rfl ?_
      refine g_809 (pc2 := 22) hC hK (by assumption) (by assumption) (by assumption) dX8_same_19 rfl ?_
      refine x_iload_n (pc2 := 23) hC rfl rfl dX8_same_22 rfl ?_
      refine x_iald (pc2 := 24) hC hK (by assumption) (by assumption) (by omega) (by decide) dX8_same_23 rfl ?_
      refine x_aload_n (pc2 := 25) hC rfl rfl dX8_same_24 rfl ?_
      refine g_809 (pc2 := 28) hC hK (by assumption) (by assumption) (by assumption) dX8_same_25 rfl ?_
      refine x_iload_n (pc2 := 29) hC rfl rfl dX8_same_28 rfl ?_
      refine x_iald (pc2 := 30) hC hK (by assumption) (by assumption) (by omega) (by decide) dX8_same_29 rfl ?_
      refine x_icmp_ne (tgt := 37) (pc2 := 33) hC (by omega) (by omega) dX8_same_30 rfl rfl (fun h_30 => ?_) (fun h_30 => ?_)
      · refine x_iconst (pc2 := 38) hC dX8_same_37 rfl ?_
        refine x_istore_n (pc2 := 39) (loc2 := [_, _, _, _, _]) hC rfl (by decide) rfl dX8_same_38 rfl ?_
        refine x_iconst (pc2 := 40) hC dX8_same_39 rfl ?_
        refine x_istore (pc2 := 42) (loc2 := [_, _, _, _, _]) hC (by decide) rfl dX8_same_40 rfl ?_
        exact loop hB1 hB2 97 0 0 (by decide) (by decide) (by decide) (fun _ => ⟨fun q => absurd rfl q, fun q => by have := q.1; omega⟩)
      · refine x_iconst (pc2 := 34) hC dX8_same_33 rfl ?_
        refine x_goto (pc2 := 38) hC dX8_same_34 rfl ?_
        refine x_istore_n (pc2 := 39) (loc2 := [_, _, _, _, _]) hC rfl (by decide) rfl dX8_same_38 rfl ?_
        refine x_iconst (pc2 := 40) hC dX8_same_39 rfl ?_
        refine x_istore (pc2 := 42) (loc2 := [_, _, _, _, _]) hC (by decide) rfl dX8_same_40 rfl ?_
        exact loop hB1 hB2 97 0 1 (by decide) (by decide) (by decide) (fun _ => ⟨fun _ => ⟨by omega, fun n a b => by omega⟩, fun _ => by decide⟩)
    · refine x_iconst (pc2 := 17) hC dX8_same_16 rfl ?_
      exact x_iret hC hr hlk ⟨_, rfl, by rw [oSame, itC_neg (fun ⟨q1, q2⟩ => by first | exact absurd h_5 ((b2_ ()).mpr q1) | exact absurd h_13 ((b10 ()).mpr q2))], hR0⟩ dX8_same_17
theorem dX8_turn_0 : decode cX8_turn 0 = .ok (.aload_n 0, 1) := by decide +kernel
theorem dX8_turn_1 : decode cX8_turn 1 = .ok (.iload_n 1, 1) := by decide +kernel
theorem dX8_turn_2 : decode cX8_turn 2 = .ok (.iconst 2, 1) := by decide +kernel
theorem dX8_turn_3 : decode cX8_turn 3 = .ok (.invokevirtual 193, 3) := by decide +kernel
theorem dX8_turn_6 : decode cX8_turn 6 = .ok (.ifCond .eq 12, 3) := by decide +kernel
theorem dX8_turn_9 : decode cX8_turn 9 = .ok (.aload_n 0, 1) := by decide +kernel
theorem dX8_turn_10 : decode cX8_turn 10 = .ok (.iload_n 2, 1) := by decide +kernel
theorem dX8_turn_11 : decode cX8_turn 11 = .ok (.iconst 2, 1) := by decide +kernel
theorem dX8_turn_12 : decode cX8_turn 12 = .ok (.invokevirtual 193, 3) := by decide +kernel
theorem dX8_turn_15 : decode cX8_turn 15 = .ok (.ifCond .ne 5, 3) := by decide +kernel
theorem dX8_turn_18 : decode cX8_turn 18 = .ok (.iconst (-1), 1) := by decide +kernel
theorem dX8_turn_19 : decode cX8_turn 19 = .ok (.ireturn, 1) := by decide +kernel
theorem dX8_turn_20 : decode cX8_turn 20 = .ok (.aload_n 0, 1) := by decide +kernel
theorem dX8_turn_21 : decode cX8_turn 21 = .ok (.iconst 0, 1) := by decide +kernel
theorem dX8_turn_22 : decode cX8_turn 22 = .ok (.putfield 144, 3) := by decide +kernel
theorem dX8_turn_25 : decode cX8_turn 25 = .ok (.iconst 0, 1) := by decide +kernel
theorem dX8_turn_26 : decode cX8_turn 26 = .ok (.istore_n 3, 1) := by decide +kernel
theorem dX8_turn_27 : decode cX8_turn 27 = .ok (.iload_n 3, 1) := by decide +kernel
theorem dX8_turn_28 : decode cX8_turn 28 = .ok (.iconst 4, 1) := by decide +kernel
theorem dX8_turn_29 : decode cX8_turn 29 = .ok (.if_icmp .ge 83, 3) := by decide +kernel
theorem dX8_turn_32 : decode cX8_turn 32 = .ok (.iconst 0, 1) := by decide +kernel
theorem dX8_turn_33 : decode cX8_turn 33 = .ok (.istore 4, 2) := by decide +kernel
theorem dX8_turn_35 : decode cX8_turn 35 = .ok (.iload 4, 2) := by decide +kernel
theorem dX8_turn_37 : decode cX8_turn 37 = .ok (.iconst 4, 1) := by decide +kernel
theorem dX8_turn_38 : decode cX8_turn 38 = .ok (.if_icmp .ge 68, 3) := by decide +kernel
theorem dX8_turn_41 : decode cX8_turn 41 = .ok (.iconst 0, 1) := by decide +kernel
theorem dX8_turn_42 : decode cX8_turn 42 = .ok (.istore 5, 2) := by decide +kernel
theorem dX8_turn_44 : decode cX8_turn 44 = .ok (.iload 5, 2) := by decide +kernel
theorem dX8_turn_46 : decode cX8_turn 46 = .ok (.bipush 6, 2) := by decide +kernel
theorem dX8_turn_48 : decode cX8_turn 48 = .ok (.if_icmp .ge 52, 3) := by decide +kernel
theorem dX8_turn_51 : decode cX8_turn 51 = .ok (.aload_n 0, 1) := by decide +kernel
theorem dX8_turn_52 : decode cX8_turn 52 = .ok (.getfield 46, 3) := by decide +kernel
theorem dX8_turn_55 : decode cX8_turn 55 = .ok (.bipush 24, 2) := by decide +kernel
theorem dX8_turn_57 : decode cX8_turn 57 = .ok (.iload_n 3, 1) := by decide +kernel
theorem dX8_turn_58 : decode cX8_turn 58 = .ok (.imul, 1) := by decide +kernel
theorem dX8_turn_59 : decode cX8_turn 59 = .ok (.bipush 6, 2) := by decide +kernel
theorem dX8_turn_61 : decode cX8_turn 61 = .ok (.iload 4, 2) := by decide +kernel
theorem dX8_turn_63 : decode cX8_turn 63 = .ok (.imul, 1) := by decide +kernel
theorem dX8_turn_64 : decode cX8_turn 64 = .ok (.iadd, 1) := by decide +kernel
theorem dX8_turn_65 : decode cX8_turn 65 = .ok (.iload 5, 2) := by decide +kernel
theorem dX8_turn_67 : decode cX8_turn 67 = .ok (.iadd, 1) := by decide +kernel
theorem dX8_turn_68 : decode cX8_turn 68 = .ok (.aload_n 0, 1) := by decide +kernel
theorem dX8_turn_69 : decode cX8_turn 69 = .ok (.getfield 13, 3) := by decide +kernel
theorem dX8_turn_72 : decode cX8_turn 72 = .ok (.bipush 96, 2) := by decide +kernel
theorem dX8_turn_74 : decode cX8_turn 74 = .ok (.iload_n 2, 1) := by decide +kernel
theorem dX8_turn_75 : decode cX8_turn 75 = .ok (.imul, 1) := by decide +kernel
theorem dX8_turn_76 : decode cX8_turn 76 = .ok (.bipush 24, 2) := by decide +kernel
theorem dX8_turn_78 : decode cX8_turn 78 = .ok (.iload_n 3, 1) := by decide +kernel
theorem dX8_turn_79 : decode cX8_turn 79 = .ok (.imul, 1) := by decide +kernel
theorem dX8_turn_80 : decode cX8_turn 80 = .ok (.iadd, 1) := by decide +kernel
theorem dX8_turn_81 : decode cX8_turn 81 = .ok (.bipush 6, 2) := by decide +kernel
theorem dX8_turn_83 : decode cX8_turn 83 = .ok (.iconst 3, 1) := by decide +kernel
theorem dX8_turn_84 : decode cX8_turn 84 = .ok (.iload 4, 2) := by decide +kernel
theorem dX8_turn_86 : decode cX8_turn 86 = .ok (.isub, 1) := by decide +kernel
theorem dX8_turn_87 : decode cX8_turn 87 = .ok (.imul, 1) := by decide +kernel
theorem dX8_turn_88 : decode cX8_turn 88 = .ok (.iadd, 1) := by decide +kernel
theorem dX8_turn_89 : decode cX8_turn 89 = .ok (.iload 5, 2) := by decide +kernel
theorem dX8_turn_91 : decode cX8_turn 91 = .ok (.iadd, 1) := by decide +kernel
theorem dX8_turn_92 : decode cX8_turn 92 = .ok (.laload, 1) := by decide +kernel
theorem dX8_turn_93 : decode cX8_turn 93 = .ok (.lastore, 1) := by decide +kernel
theorem dX8_turn_94 : decode cX8_turn 94 = .ok (.iinc 5 1, 3) := by decide +kernel
theorem dX8_turn_97 : decode cX8_turn 97 = .ok (.goto (-53), 3) := by decide +kernel
theorem dX8_turn_100 : decode cX8_turn 100 = .ok (.iinc 4 1, 3) := by decide +kernel
theorem dX8_turn_103 : decode cX8_turn 103 = .ok (.goto (-68), 3) := by decide +kernel
theorem dX8_turn_106 : decode cX8_turn 106 = .ok (.iinc 3 1, 3) := by decide +kernel
theorem dX8_turn_109 : decode cX8_turn 109 = .ok (.goto (-82), 3) := by decide +kernel
theorem dX8_turn_112 : decode cX8_turn 112 = .ok (.aload_n 0, 1) := by decide +kernel
theorem dX8_turn_113 : decode cX8_turn 113 = .ok (.iload_n 1, 1) := by decide +kernel
theorem dX8_turn_114 : decode cX8_turn 114 = .ok (.invokevirtual 177, 3) := by decide +kernel
theorem dX8_turn_117 : decode cX8_turn 117 = .ok (.ireturn, 1) := by decide +kernel
set_option maxHeartbeats 8000000 in
theorem q_turn (l : Launch) {D : va_G} {ids : Nat → ClassId} {β : Nat} {sh : Nat → Nat × Nat} {N : Nat} {R : Nat → Nat → Option Nat} {F : Nat → Nat → Int} {A : Nat → Int → Int} {S : SP} (hM : MoL sh R N) (hR0 : RepM S F A) {c0 a : Int} (hc : I32 c0) (ha : I32 a) : MetX l yX8_turn cX8_turn 6 (some (.int)) 3 68 D ids β sh N R F A [rf 0, pI c0, pI a] (pIr (MO (oTurn S c0 a))) := by
  refine MetX.of (loc := [_, _, _, _, _, _]) (plainFor_of_name (by decide +kernel)) (Nat.le_of_ble_eq_true rfl) rfl ?_
  intro p e s m args below meth c hC hK hr hlk
  obtain ⟨⟨m0, m1⟩, ⟨rx0, r2, r3, r7, r8, r9, r11, r12, r13, r16, r18⟩, ⟨m2, m3⟩, ⟨m4, m5⟩, ⟨m6, m7⟩, ⟨m8, m9⟩, ⟨m10, m11⟩, ⟨m12, m13⟩, ⟨m14, m15⟩, ⟨m16, m17⟩, ⟨m18, m19⟩, ⟨m20, m21⟩, ⟨m22, m23⟩⟩ := id hM
  obtain ⟨hi, b1, b2, b3, b4, b5, b6, b7, b8⟩ := id hR0
  have i1 := hi.1
  have t44 : isB S a → ∀ (t k : Nat), t < 4 → k < 4 → (∀ (A1 : Nat → Int → Int) (e5 : Option PV), (∀ x, x ≠ 10 → A1 x = A x) → (∀ n : Int, 0 ≤ n → n < 24 * (t : Int) + 6 * ((k : Int) + 1) → A1 10 n = A 2 (96 * a + 24 * (n / 24) + 6 * (3 - n % 24 / 6) + n % 6)) → X p l e { frames := 3, cells := 0, slots := 0, locals := 68 } s m args below meth c (MQ below (QX D ids β sh N R (pIr (MO (oTurn S c0 a)))) args s 0 0 (inG β N)) (inG β N) D ids β sh 6 0 0 N R (uF F 0 17 0) A1 [some (rf 0), some (pI c0), some (pI a), some (pI (t : Int)), some (pI ((k : Int) + 1)), e5] [] 35) → ∀ (d w : Nat) (A1 : Nat → Int → Int), 6 - (w : Int) < d → w ≤ 6 → (∀ x, x ≠ 10 → A1 x = A x) → (∀ n : Int, 0 ≤ n → n < 24 * (t : Int) + 6 * (k : Int) + w → A1 10 n = A 2 (96 * a + 24 * (n / 24) + 6 * (3 - n % 24 / 6) + n % 6)) → X p l e { frames := 3, cells := 0, slots := 0, locals := 68 } s m args below meth c (MQ below (QX D ids β sh N R (pIr (MO (oTurn S c0 a)))) args s 0 0 (inG β N)) (inG β N) D ids β sh 6 0 0 N R (uF F 0 17 0) A1 [some (rf 0), some (pI c0), some (pI a), some (pI (t : Int)), some (pI (k : Int)), some (pI (w : Int))] [] 44 := by
    intro hA t k ht hk next d
    induction d with
    | zero => intro w A1 hd; omega
    | succ d ih =>
      intro w A1 hd hw hA1 hm
      have a16 := hA.2
      have r2 : ∀ z, A1 2 z = A 2 z := fun z => by rw [hA1 2 (by decide)]
      refine x_iload (pc2 := 46) hC rfl dX8_turn_44 rfl ?_
      refine x_bipush (pc2 := 48) hC rfl dX8_turn_46 rfl ?_
      refine x_icmp_ge (tgt := 100) (pc2 := 51) hC (by omega) (by omega) dX8_turn_48 rfl rfl (fun h_48 => ?_) (fun h_48 => ?_)
      · refine x_iinc (pc2 := 103) (loc2 := [_, _, _, _, _, _]) hC (by decide) rfl rfl dX8_turn_100 rfl ?_
        refine x_goto (pc2 := 35) hC dX8_turn_103 rfl ?_
        exact next A1 _ hA1 (fun n n0 n1 => hm n n0 (by omega))
      · refine x_aload_n (pc2 := 52) hC rfl rfl dX8_turn_51 rfl ?_
        refine g_825 (pc2 := 55) hC hK (by assumption) (by assumption) (by assumption) dX8_turn_52 rfl ?_
        refine x_bipush (pc2 := 57) hC rfl dX8_turn_55 rfl ?_
        refine x_iload_n (pc2 := 58) hC rfl rfl dX8_turn_57 rfl ?_
        refine x_imul (pc2 := 59) hC dX8_turn_58 rfl ?_
        refine x_bipush (pc2 := 61) hC rfl dX8_turn_59 rfl ?_
        refine x_iload (pc2 := 63) hC rfl dX8_turn_61 rfl ?_
        refine x_imul (pc2 := 64) hC dX8_turn_63 rfl ?_
        refine x_iadd (pc2 := 65) hC dX8_turn_64 rfl ?_
        refine x_iload (pc2 := 67) hC rfl dX8_turn_65 rfl ?_
        refine x_iadd (pc2 := 68) hC dX8_turn_67 rfl ?_
        refine x_aload_n (pc2 := 69) hC rfl rfl dX8_turn_68 rfl ?_
        refine g_811 (pc2 := 72) hC hK (by assumption) (by assumption) (by assumption) dX8_turn_69 rfl ?_
        refine x_bipush (pc2 := 74) hC rfl dX8_turn_72 rfl ?_
        refine x_iload_n (pc2 := 75) hC rfl rfl dX8_turn_74 rfl ?_
        refine x_imul (pc2 := 76) hC dX8_turn_75 rfl ?_
        refine x_bipush (pc2 := 78) hC rfl dX8_turn_76 rfl ?_
        refine x_iload_n (pc2 := 79) hC rfl rfl dX8_turn_78 rfl ?_
        refine x_imul (pc2 := 80) hC dX8_turn_79 rfl ?_
        refine x_iadd (pc2 := 81) hC dX8_turn_80 rfl ?_
        refine x_bipush (pc2 := 83) hC rfl dX8_turn_81 rfl ?_
        refine x_iconst (pc2 := 84) hC dX8_turn_83 rfl ?_
        refine x_iload (pc2 := 86) hC rfl dX8_turn_84 rfl ?_
        refine x_isub (pc2 := 87) hC dX8_turn_86 rfl ?_
        refine x_imul (pc2 := 88) hC dX8_turn_87 rfl ?_
        refine x_iadd (pc2 := 89) hC dX8_turn_88 rfl ?_
        refine x_iload (pc2 := 91) hC rfl dX8_turn_89 rfl ?_
        refine x_iadd (pc2 := 92) hC dX8_turn_91 rfl ?_
        refine x_lald (pc2 := 93) hC hK (by assumption) (by assumption) (by omega) (by decide) dX8_turn_92 rfl ?_
        rw [r2]
        refine x_last (pc2 := 94) hC hK (by assumption) (by assumption) (by omega) (by decide) dX8_turn_93 rfl ?_
        refine x_iinc (pc2 := 97) (loc2 := [_, _, _, _, _, _]) hC (by decide) rfl rfl dX8_turn_94 rfl ?_
        refine x_goto (pc2 := 44) hC dX8_turn_97 rfl ?_
        refine ih (w + 1) _ (by omega) (by omega) (fun x hx => by rw [uA_ne hx]; exact hA1 x hx) (fun n n0 n1 => ?_)
        rw [uA_at]
        by_cases q : n = 24 * (t : Int) + 6 * (k : Int) + w
        · rw [if_pos q]
          congr 1
          omega
        · rw [if_neg q]; exact hm n n0 (by omega)
  have t35 : isB S a → ∀ (t : Nat), t < 4 → (∀ (A1 : Nat → Int → Int) (e4 e5 : Option PV), (∀ x, x ≠ 10 → A1 x = A x) → (∀ n : Int, 0 ≤ n → n < 24 * ((t : Int) + 1) → A1 10 n = A 2 (96 * a + 24 * (n / 24) + 6 * (3 - n % 24 / 6) + n % 6)) → X p l e { frames := 3, cells := 0, slots := 0, locals := 68 } s m args below meth c (MQ below (QX D ids β sh N R (pIr (MO (oTurn S c0 a)))) args s 0 0 (inG β N)) (inG β N) D ids β sh 6 0 0 N R (uF F 0 17 0) A1 [some (rf 0), some (pI c0), some (pI a), some (pI ((t : Int) + 1)), e4, e5] [] 27) → ∀ (d k : Nat) (A1 : Nat → Int → Int) (e5 : Option PV), 4 - (k : Int) < d → k ≤ 4 → (∀ x, x ≠ 10 → A1 x = A x) → (∀ n : Int, 0 ≤ n → n < 24 * (t : Int) + 6 * (k : Int) → A1 10 n = A 2 (96 * a + 24 * (n / 24) + 6 * (3 - n % 24 / 6) + n % 6)) → X p l e { frames := 3, cells := 0, slots := 0, locals := 68 } s m args below meth c (MQ below (QX D ids β sh N R (pIr (MO (oTurn S c0 a)))) args s 0 0 (inG β N)) (inG β N) D ids β sh 6 0 0 N R (uF F 0 17 0) A1 [some (rf 0), some (pI c0), some (pI a), some (pI (t : Int)), some (pI (k : Int)), e5] [] 35 := by
    intro hA t ht next d
    induction d with
    | zero => intro k A1 e5 hd; omega
    | succ d ih =>
      intro k A1 e5 hd hk hA1 hm
      refine x_iload (pc2 := 37) hC rfl dX8_turn_35 rfl ?_
      refine x_iconst (pc2 := 38) hC dX8_turn_37 rfl ?_
      refine x_icmp_ge (tgt := 106) (pc2 := 41) hC (by omega) (by omega) dX8_turn_38 rfl rfl (fun h_38 => ?_) (fun h_38 => ?_)
      · refine x_iinc (pc2 := 109) (loc2 := [_, _, _, _, _, _]) hC (by decide) rfl rfl dX8_turn_106 rfl ?_
        refine x_goto (pc2 := 27) hC dX8_turn_109 rfl ?_
        exact next A1 _ _ hA1 (fun n n0 n1 => hm n n0 (by omega))
      · refine x_iconst (pc2 := 42) hC dX8_turn_41 rfl ?_
        refine x_istore (pc2 := 44) (loc2 := [_, _, _, _, _, _]) hC (by decide) rfl dX8_turn_42 rfl ?_
        exact t44 hA t k ht (by omega) (fun A2 e6 h1 h2 => ih (k + 1) A2 e6 (by omega) (by omega) h1 (fun n n0 n1 => h2 n n0 (by omega))) 7 0 A1 (by decide) (by decide) hA1 (fun n n0 n1 => hm n n0 (by omega))
  have t27 : hasB S c0 2 → hasB S a 2 → ∀ (d t : Nat) (A1 : Nat → Int → Int) (e4 e5 : Option PV), 4 - (t : Int) < d → t ≤ 4 → (∀ x, x ≠ 10 → A1 x = A x) → (∀ n : Int, 0 ≤ n → n < 24 * (t : Int) → A1 10 n = A 2 (96 * a + 24 * (n / 24) + 6 * (3 - n % 24 / 6) + n % 6)) → X p l e { frames := 3, cells := 0, slots := 0, locals := 68 } s m args below meth c (MQ below (QX D ids β sh N R (pIr (MO (oTurn S c0 a)))) args s 0 0 (inG β N)) (inG β N) D ids β sh 6 0 0 N R (uF F 0 17 0) A1 [some (rf 0), some (pI c0), some (pI a), some (pI (t : Int)), e4, e5] [] 27 := by
    intro hCc hA d
    induction d with
    | zero => intro t A1 e4 e5 hd; omega
    | succ d ih =>
      intro t A1 e4 e5 hd ht hA1 hm
      have hRt : RepM S (uF F 0 17 0) A1 := hR0.of (fun j hj => uF_nj (by omega)) (fun b hb => hA1 b (by omega))
      have hwf : wfB (ptS S c0) (fun t e => vS S a t (3 - e)) := by
        intro t0 e0 ht0 he0
        refine ⟨((hi.2.1 a hA.1).2 t0 (3 - e0) ht0 (by omega)).1, fun p1 _ => ?_⟩
        rw [hCc.2] at p1
        exact absurd p1 (by decide)
      have hmw : (t : Int) = 4 → ∀ t0 e0, isT t0 → isT e0 → held (A1 10) (24 * t0 + 6 * e0) ((fun t e => vS S a t (3 - e)) t0 e0) := fun t4 t0 e0 ht0 he0 => by
        refine held_of (b6 a t0 (3 - e0) hA.1 ht0 (by omega)) (fun u u0 u1 => ?_)
        rw [hm _ (by omega) (by omega)]
        congr 1
        omega
      refine x_iload_n (pc2 := 28) hC rfl rfl dX8_turn_27 rfl ?_
      refine x_iconst (pc2 := 29) hC dX8_turn_28 rfl ?_
      refine x_icmp_ge (tgt := 112) (pc2 := 32) hC (by omega) (by omega) dX8_turn_29 rfl rfl (fun h_29 => ?_) (fun h_29 => ?_)
      · refine x_aload_n (pc2 := 113) hC rfl rfl dX8_turn_112 rfl ?_
        refine x_iload_n (pc2 := 114) hC rfl rfl dX8_turn_113 rfl ?_
        refine x_cVi (pc2 := 117) (ci := 8) hC hK (q_ends l hM hRt hCc.1 hwf (Or.inl uF_eq) (fun _ => hmw (by omega))) lk_957 rfl rfl (by decide) (by assumption) (by assumption) ⟨Nat.le_of_ble_eq_true rfl, Nat.le_of_ble_eq_true rfl⟩ ⟨Nat.le_refl _, Nat.le_refl _⟩ rfl (Nat.le_of_ble_eq_true rfl) dX8_turn_114 rfl ?_
        rintro z114 F114 A114 hq
        have hq2 := hq.resolve_left (fun q => by have := q.1; rw [uF_eq] at this; omega)
        exact x_iret hC hr hlk ⟨_, rfl, MO.of (by rw [oTurn, itO_pos ⟨hCc, hA⟩, hq2.2.1]) hq2.2.2⟩ dX8_turn_117
      · refine x_iconst (pc2 := 33) hC dX8_turn_32 rfl ?_
        refine x_istore (pc2 := 35) (loc2 := [_, _, _, _, _, _]) hC (by decide) rfl dX8_turn_33 rfl ?_
        exact t35 hA.1 t (by omega) (fun A2 e6 e7 h1 h2 => ih (t + 1) A2 e6 e7 (by omega) (by omega) h1 (fun n n0 n1 => h2 n n0 (by omega))) 5 0 A1 _ (by decide) (by decide) hA1 (fun n n0 n1 => hm n n0 (by omega))
  refine x_aload_n (pc2 := 1) hC rfl rfl dX8_turn_0 rfl ?_
  refine x_iload_n (pc2 := 2) hC rfl rfl dX8_turn_1 rfl ?_
  refine x_iconst (pc2 := 3) hC dX8_turn_2 rfl ?_
  refine x_cVi (pc2 := 6) (ci := 8) hC hK (q_has l hM hR0 hc (by decide)) lk_977 rfl rfl (by decide) (by assumption) (by assumption) ⟨Nat.le_of_ble_eq_true rfl, Nat.le_of_ble_eq_true rfl⟩ ⟨Nat.le_refl _, Nat.le_refl _⟩ rfl (Nat.le_of_ble_eq_true rfl) dX8_turn_3 rfl ?_
  rintro z3 F3 A3 ⟨w3, b3_, e13, e23⟩
  obtain rfl := e13.symm
  obtain rfl := e23.symm
  refine x_if_eq (tgt := 18) (pc2 := 9) hC (by omega) dX8_turn_6 rfl rfl (fun h_6 => ?_) (fun h_6 => ?_)
  · refine x_iconst (pc2 := 19) hC dX8_turn_18 rfl ?_
    exact x_iret hC hr hlk ⟨_, rfl, MO.of (by rw [oTurn, itO_neg (fun ⟨q1, q2⟩ => by first | exact absurd h_6 ((b3_ ()).mpr q1) | exact absurd h_15 ((b12 ()).mpr q2))]) hR0⟩ dX8_turn_19
  · refine x_aload_n (pc2 := 10) hC rfl rfl dX8_turn_9 rfl ?_
    refine x_iload_n (pc2 := 11) hC rfl rfl dX8_turn_10 rfl ?_
    refine x_iconst (pc2 := 12) hC dX8_turn_11 rfl ?_
    refine x_cVi (pc2 := 15) (ci := 8) hC hK (q_has l hM hR0 ha (by decide)) lk_977 rfl rfl (by decide) (by assumption) (by assumption) ⟨Nat.le_of_ble_eq_true rfl, Nat.le_of_ble_eq_true rfl⟩ ⟨Nat.le_refl _, Nat.le_refl _⟩ rfl (Nat.le_of_ble_eq_true rfl) dX8_turn_12 rfl ?_
    rintro z12 F12 A12 ⟨w12, b12, e112, e212⟩
    obtain rfl := e112.symm
    obtain rfl := e212.symm
    refine x_if_ne (tgt := 20) (pc2 := 18) hC (by omega) dX8_turn_15 rfl rfl (fun h_15 => ?_) (fun h_15 => ?_)
    · refine x_aload_n (pc2 := 21) hC rfl rfl dX8_turn_20 rfl ?_
      refine x_iconst (pc2 := 22) hC dX8_turn_21 rfl ?_
      refine p_826 (pc2 := 25) hC hK (by assumption) (by assumption) (by omega) dX8_turn_22 rfl ?_
      refine x_iconst (pc2 := 26) hC dX8_turn_25 rfl ?_
      refine x_istore_n (pc2 := 27) (loc2 := [_, _, _, _, _, _]) hC rfl (by decide) rfl dX8_turn_26 rfl ?_
      exact t27 ((b3_ ()).mp h_6) ((b12 ()).mp h_15) 5 0 A _ _ (by decide) (by decide) (fun _ _ => rfl) (fun n n0 n1 => by omega)
    · refine x_iconst (pc2 := 19) hC dX8_turn_18 rfl ?_
      exact x_iret hC hr hlk ⟨_, rfl, MO.of (by rw [oTurn, itO_neg (fun ⟨q1, q2⟩ => by first | exact absurd h_6 ((b3_ ()).mpr q1) | exact absurd h_15 ((b12 ()).mpr q2))]) hR0⟩ dX8_turn_19
