/-- six cells hold a number by its parts -/
def held (f : Int → Int) (i : Int) (x : T3) : Prop := ∀ w : Int, 0 ≤ w → w < 6 → f (i + w) = prt x w
theorem td_nn (a b : Int) (hb : 0 ≤ b) (q : a.tdiv b = 0 ∨ a.tdiv b ≠ 0) : True := trivial
theorem prt_mul {a : Int} : a.tdiv 1000000000000 * 1000000000000 + a.tmod 1000000000000 = a := by
  have := Int.tmod_add_mul_tdiv a 1000000000000
  omega
theorem prt_rng {x : T3} (h : fit x) (w : Int) : -1000000000000 ≤ prt x w ∧ prt x w ≤ 1000000000000 := by
  obtain ⟨h1, h2, h3⟩ := h
  have key : ∀ a : Int, a.natAbs ≤ 1000000000000000000000000 → (-1000000000000 ≤ a.tdiv 1000000000000 ∧ a.tdiv 1000000000000 ≤ 1000000000000) ∧ (-1000000000000 ≤ a.tmod 1000000000000 ∧ a.tmod 1000000000000 ≤ 1000000000000) := fun a ha => by
    have e := @prt_mul a
    have r : (a.tmod 1000000000000).natAbs < 1000000000000 := by
      rw [Int.natAbs_tmod]
      exact Nat.mod_lt _ (by decide)
    have q : (a.tdiv 1000000000000).natAbs ≤ 1000000000000 := by
      rw [Int.natAbs_tdiv]
      exact Nat.div_le_of_le_mul (by
        show a.natAbs ≤ (1000000000000 : Int).natAbs * 1000000000000
        rw [show (1000000000000 : Int).natAbs = 1000000000000 from rfl]
        omega)
    omega
  have k1 := key _ h1
  have k2 := key _ h2
  have k3 := key _ h3
  unfold prt
  split
  · exact k1.1
  · split
    · exact k1.2
    · split
      · exact k2.1
      · split
        · exact k2.2
        · split
          · exact k3.1
          · exact k3.2
theorem bd_r {v : Int} (h : -1000000000000 ≤ v ∧ v ≤ 1000000000000) : bd 13 v := by unfold bd; omega
theorem bd_T : bd 13 1000000000000 := by unfold bd; decide
theorem dX8_loaded_0 : decode cX8_loaded 0 = .ok (.aload_n 0, 1) := by decide +kernel
theorem dX8_loaded_1 : decode cX8_loaded 1 = .ok (.aload_n 0, 1) := by decide +kernel
theorem dX8_loaded_2 : decode cX8_loaded 2 = .ok (.aload_n 0, 1) := by decide +kernel
theorem dX8_loaded_3 : decode cX8_loaded 3 = .ok (.aload_n 0, 1) := by decide +kernel
theorem dX8_loaded_4 : decode cX8_loaded 4 = .ok (.getfield 13, 3) := by decide +kernel
theorem dX8_loaded_7 : decode cX8_loaded 7 = .ok (.iload_n 1, 1) := by decide +kernel
theorem dX8_loaded_8 : decode cX8_loaded 8 = .ok (.laload, 1) := by decide +kernel
theorem dX8_loaded_9 : decode cX8_loaded 9 = .ok (.invokevirtual 89, 3) := by decide +kernel
theorem dX8_loaded_12 : decode cX8_loaded 12 = .ok (.aload_n 0, 1) := by decide +kernel
theorem dX8_loaded_13 : decode cX8_loaded 13 = .ok (.ldc2_w 87, 3) := by decide +kernel
theorem dX8_loaded_16 : decode cX8_loaded 16 = .ok (.invokevirtual 89, 3) := by decide +kernel
theorem dX8_loaded_19 : decode cX8_loaded 19 = .ok (.invokevirtual 93, 3) := by decide +kernel
theorem dX8_loaded_22 : decode cX8_loaded 22 = .ok (.aload_n 0, 1) := by decide +kernel
theorem dX8_loaded_23 : decode cX8_loaded 23 = .ok (.aload_n 0, 1) := by decide +kernel
theorem dX8_loaded_24 : decode cX8_loaded 24 = .ok (.getfield 13, 3) := by decide +kernel
theorem dX8_loaded_27 : decode cX8_loaded 27 = .ok (.iload_n 1, 1) := by decide +kernel
theorem dX8_loaded_28 : decode cX8_loaded 28 = .ok (.iconst 1, 1) := by decide +kernel
theorem dX8_loaded_29 : decode cX8_loaded 29 = .ok (.iadd, 1) := by decide +kernel
theorem dX8_loaded_30 : decode cX8_loaded 30 = .ok (.laload, 1) := by decide +kernel
theorem dX8_loaded_31 : decode cX8_loaded 31 = .ok (.invokevirtual 89, 3) := by decide +kernel
theorem dX8_loaded_34 : decode cX8_loaded 34 = .ok (.invokevirtual 77, 3) := by decide +kernel
theorem dX8_loaded_37 : decode cX8_loaded 37 = .ok (.istore_n 2, 1) := by decide +kernel
theorem dX8_loaded_38 : decode cX8_loaded 38 = .ok (.aload_n 0, 1) := by decide +kernel
theorem dX8_loaded_39 : decode cX8_loaded 39 = .ok (.aload_n 0, 1) := by decide +kernel
theorem dX8_loaded_40 : decode cX8_loaded 40 = .ok (.aload_n 0, 1) := by decide +kernel
theorem dX8_loaded_41 : decode cX8_loaded 41 = .ok (.aload_n 0, 1) := by decide +kernel
theorem dX8_loaded_42 : decode cX8_loaded 42 = .ok (.getfield 13, 3) := by decide +kernel
theorem dX8_loaded_45 : decode cX8_loaded 45 = .ok (.iload_n 1, 1) := by decide +kernel
theorem dX8_loaded_46 : decode cX8_loaded 46 = .ok (.iconst 2, 1) := by decide +kernel
theorem dX8_loaded_47 : decode cX8_loaded 47 = .ok (.iadd, 1) := by decide +kernel
theorem dX8_loaded_48 : decode cX8_loaded 48 = .ok (.laload, 1) := by decide +kernel
theorem dX8_loaded_49 : decode cX8_loaded 49 = .ok (.invokevirtual 89, 3) := by decide +kernel
theorem dX8_loaded_52 : decode cX8_loaded 52 = .ok (.aload_n 0, 1) := by decide +kernel
theorem dX8_loaded_53 : decode cX8_loaded 53 = .ok (.ldc2_w 87, 3) := by decide +kernel
theorem dX8_loaded_56 : decode cX8_loaded 56 = .ok (.invokevirtual 89, 3) := by decide +kernel
theorem dX8_loaded_59 : decode cX8_loaded 59 = .ok (.invokevirtual 93, 3) := by decide +kernel
theorem dX8_loaded_62 : decode cX8_loaded 62 = .ok (.aload_n 0, 1) := by decide +kernel
theorem dX8_loaded_63 : decode cX8_loaded 63 = .ok (.aload_n 0, 1) := by decide +kernel
theorem dX8_loaded_64 : decode cX8_loaded 64 = .ok (.getfield 13, 3) := by decide +kernel
theorem dX8_loaded_67 : decode cX8_loaded 67 = .ok (.iload_n 1, 1) := by decide +kernel
theorem dX8_loaded_68 : decode cX8_loaded 68 = .ok (.iconst 3, 1) := by decide +kernel
theorem dX8_loaded_69 : decode cX8_loaded 69 = .ok (.iadd, 1) := by decide +kernel
theorem dX8_loaded_70 : decode cX8_loaded 70 = .ok (.laload, 1) := by decide +kernel
theorem dX8_loaded_71 : decode cX8_loaded 71 = .ok (.invokevirtual 89, 3) := by decide +kernel
theorem dX8_loaded_74 : decode cX8_loaded 74 = .ok (.invokevirtual 77, 3) := by decide +kernel
theorem dX8_loaded_77 : decode cX8_loaded 77 = .ok (.istore_n 3, 1) := by decide +kernel
theorem dX8_loaded_78 : decode cX8_loaded 78 = .ok (.aload_n 0, 1) := by decide +kernel
theorem dX8_loaded_79 : decode cX8_loaded 79 = .ok (.aload_n 0, 1) := by decide +kernel
theorem dX8_loaded_80 : decode cX8_loaded 80 = .ok (.aload_n 0, 1) := by decide +kernel
theorem dX8_loaded_81 : decode cX8_loaded 81 = .ok (.aload_n 0, 1) := by decide +kernel
theorem dX8_loaded_82 : decode cX8_loaded 82 = .ok (.getfield 13, 3) := by decide +kernel
theorem dX8_loaded_85 : decode cX8_loaded 85 = .ok (.iload_n 1, 1) := by decide +kernel
theorem dX8_loaded_86 : decode cX8_loaded 86 = .ok (.iconst 4, 1) := by decide +kernel
theorem dX8_loaded_87 : decode cX8_loaded 87 = .ok (.iadd, 1) := by decide +kernel
theorem dX8_loaded_88 : decode cX8_loaded 88 = .ok (.laload, 1) := by decide +kernel
theorem dX8_loaded_89 : decode cX8_loaded 89 = .ok (.invokevirtual 89, 3) := by decide +kernel
theorem dX8_loaded_92 : decode cX8_loaded 92 = .ok (.aload_n 0, 1) := by decide +kernel
theorem dX8_loaded_93 : decode cX8_loaded 93 = .ok (.ldc2_w 87, 3) := by decide +kernel
theorem dX8_loaded_96 : decode cX8_loaded 96 = .ok (.invokevirtual 89, 3) := by decide +kernel
theorem dX8_loaded_99 : decode cX8_loaded 99 = .ok (.invokevirtual 93, 3) := by decide +kernel
theorem dX8_loaded_102 : decode cX8_loaded 102 = .ok (.aload_n 0, 1) := by decide +kernel
theorem dX8_loaded_103 : decode cX8_loaded 103 = .ok (.aload_n 0, 1) := by decide +kernel
theorem dX8_loaded_104 : decode cX8_loaded 104 = .ok (.getfield 13, 3) := by decide +kernel
theorem dX8_loaded_107 : decode cX8_loaded 107 = .ok (.iload_n 1, 1) := by decide +kernel
theorem dX8_loaded_108 : decode cX8_loaded 108 = .ok (.iconst 5, 1) := by decide +kernel
theorem dX8_loaded_109 : decode cX8_loaded 109 = .ok (.iadd, 1) := by decide +kernel
theorem dX8_loaded_110 : decode cX8_loaded 110 = .ok (.laload, 1) := by decide +kernel
theorem dX8_loaded_111 : decode cX8_loaded 111 = .ok (.invokevirtual 89, 3) := by decide +kernel
theorem dX8_loaded_114 : decode cX8_loaded 114 = .ok (.invokevirtual 77, 3) := by decide +kernel
theorem dX8_loaded_117 : decode cX8_loaded 117 = .ok (.istore 4, 2) := by decide +kernel
theorem dX8_loaded_119 : decode cX8_loaded 119 = .ok (.aload_n 0, 1) := by decide +kernel
theorem dX8_loaded_120 : decode cX8_loaded 120 = .ok (.iload_n 2, 1) := by decide +kernel
theorem dX8_loaded_121 : decode cX8_loaded 121 = .ok (.iload_n 3, 1) := by decide +kernel
theorem dX8_loaded_122 : decode cX8_loaded 122 = .ok (.iload 4, 2) := by decide +kernel
theorem dX8_loaded_124 : decode cX8_loaded 124 = .ok (.invokevirtual 103, 3) := by decide +kernel
theorem dX8_loaded_127 : decode cX8_loaded 127 = .ok (.ireturn, 1) := by decide +kernel
set_option maxHeartbeats 8000000 in
theorem t_loaded (l : Launch) {D : va_G} {ids : Nat → ClassId} {β : Nat} {sh : Nat → Nat × Nat} {N : Nat} {R : Nat → Nat → Option Nat} {F : Nat → Nat → Int} {A : Nat → Int → Int} (hM : MoL sh R N) {T i : Int} {V : Int → Int} {x : T3} (hS : St T V F A) (hT : T < 1480) (hi : 0 ≤ i ∧ i + 6 ≤ 1536) (hx : held (A 2) i x) (hfx : fit x) : MetX l yX8_loaded cX8_loaded 5 (some (.int)) 3 69 D ids β sh N R F A [rf 0, pI i] (pIr (Tq 15 F A T V x)) := by
  refine MetX.of (loc := [_, _, _, _, _]) (plainFor_of_name (by decide +kernel)) (Nat.le_of_ble_eq_true rfl) rfl ?_
  intro p e s m args below meth c hC hK hr hlk
  obtain ⟨⟨m0, m1⟩, ⟨r0, r2, r3, r7, r8, r9, r11, r12, r13, r16, r18⟩, ⟨m2, m3⟩, ⟨m4, m5⟩, ⟨m6, m7⟩, ⟨m8, m9⟩, ⟨m10, m11⟩, ⟨m12, m13⟩, ⟨m14, m15⟩, ⟨m16, m17⟩, ⟨m18, m19⟩, ⟨m20, m21⟩, ⟨m22, m23⟩⟩ := id hM
  have hT0 := hS.2.1
  have p0 := prt_rng hfx 0
  have p1 := prt_rng hfx 1
  have p2 := prt_rng hfx 2
  have p3 := prt_rng hfx 3
  have p4 := prt_rng hfx 4
  have p5 := prt_rng hfx 5
  have c0 : A 2 i = prt x 0 := by have := hx 0 (by decide) (by decide); rwa [Int.add_zero] at this
  have c1 : A 2 (i + 1) = prt x 1 := hx 1 (by decide) (by decide)
  have c2 : A 2 (i + 2) = prt x 2 := hx 2 (by decide) (by decide)
  have c3 : A 2 (i + 3) = prt x 3 := hx 3 (by decide) (by decide)
  have c4 : A 2 (i + 4) = prt x 4 := hx 4 (by decide) (by decide)
  have c5 : A 2 (i + 5) = prt x 5 := hx 5 (by decide) (by decide)
  refine x_aload_n (pc2 := 1) hC rfl rfl dX8_loaded_0 rfl ?_
  refine x_aload_n (pc2 := 2) hC rfl rfl dX8_loaded_1 rfl ?_
  refine x_aload_n (pc2 := 3) hC rfl rfl dX8_loaded_2 rfl ?_
  refine x_aload_n (pc2 := 4) hC rfl rfl dX8_loaded_3 rfl ?_
  refine g_811 (pc2 := 7) hC hK (by assumption) (by assumption) (by assumption) dX8_loaded_4 rfl ?_
  refine x_iload_n (pc2 := 8) hC rfl rfl dX8_loaded_7 rfl ?_
  refine x_lald (pc2 := 9) hC hK (by assumption) (by assumption) (by omega) (by decide) dX8_loaded_8 rfl ?_
  rw [c0]
  refine x_cVi (pc2 := 12) (ci := 8) hC hK (n_of l hM hS (by omega) (v := prt x 0) (by omega)) lk_902 rfl rfl (by decide) (by assumption) (by assumption) ⟨Nat.le_of_ble_eq_true rfl, Nat.le_of_ble_eq_true rfl⟩ ⟨Nat.le_refl _, Nat.le_refl _⟩ rfl (Nat.le_of_ble_eq_true rfl) dX8_loaded_9 rfl ?_
  rintro z9 F9 A9 ⟨e9, V1, hS1, v1, k1, g1⟩
  obtain rfl := e9.symm
  replace hS1 : St (T + 1) V1 F9 A9 := by first | exact hS1 | (rw [show T + 1 = T + 1 by omega]; exact hS1)
  refine x_aload_n (pc2 := 13) hC rfl rfl dX8_loaded_12 rfl ?_
  refine x_ldc2 (pc2 := 16) (z := 1000000000000) hC wt_952 rfl dX8_loaded_13 rfl ?_
  refine x_cVi (pc2 := 19) (ci := 8) hC hK (n_of l hM hS1 (by omega) (by decide)) lk_902 rfl rfl (by decide) (by assumption) (by assumption) ⟨Nat.le_of_ble_eq_true rfl, Nat.le_of_ble_eq_true rfl⟩ ⟨Nat.le_refl _, Nat.le_refl _⟩ rfl (Nat.le_of_ble_eq_true rfl) dX8_loaded_16 rfl ?_
  rintro z16 F16 A16 ⟨e16, V2, hS2, v2, k2, g2⟩
  obtain rfl := e16.symm
  replace hS2 : St (T + 2) V2 F16 A16 := by first | exact hS2 | (rw [show T + 2 = T + 1 + 1 by omega]; exact hS2)
  refine x_cVi (pc2 := 22) (ci := 8) hC hK (n_times l hM hS2 (by omega) (x := T) (y := T + 1) ⟨by omega, by omega⟩ ⟨by omega, by omega⟩ (a := 13) (b := 13) (by rw [k2 _ (by omega), v1]; exact bd_r p0) (by rw [v2]; exact bd_T) (by decide)) lk_953 rfl rfl (by decide) (by assumption) (by assumption) ⟨Nat.le_of_ble_eq_true rfl, Nat.le_of_ble_eq_true rfl⟩ ⟨Nat.le_refl _, Nat.le_refl _⟩ rfl (Nat.le_of_ble_eq_true rfl) dX8_loaded_19 rfl ?_
  rintro z19 F19 A19 ⟨e19, V3, hS3, v3, k3, g3⟩
  obtain rfl := e19.symm
  replace hS3 : St (T + 3) V3 F19 A19 := by first | exact hS3 | (rw [show T + 3 = T + 2 + 1 by omega]; exact hS3)
  rw [k2 _ (by omega), v1, v2] at v3
  refine x_aload_n (pc2 := 23) hC rfl rfl dX8_loaded_22 rfl ?_
  refine x_aload_n (pc2 := 24) hC rfl rfl dX8_loaded_23 rfl ?_
  refine g_811 (pc2 := 27) hC hK (by assumption) (by assumption) (by assumption) dX8_loaded_24 rfl ?_
  refine x_iload_n (pc2 := 28) hC rfl rfl dX8_loaded_27 rfl ?_
  refine x_iconst (pc2 := 29) hC dX8_loaded_28 rfl ?_
  refine x_iadd (pc2 := 30) hC dX8_loaded_29 rfl ?_
  refine x_lald (pc2 := 31) hC hK (by assumption) (by assumption) (by omega) (by decide) dX8_loaded_30 rfl ?_
  rw [((g1.tr g2).tr g3).a (by decide), c1]
  refine x_cVi (pc2 := 34) (ci := 8) hC hK (n_of l hM hS3 (by omega) (v := prt x 1) (by omega)) lk_902 rfl rfl (by decide) (by assumption) (by assumption) ⟨Nat.le_of_ble_eq_true rfl, Nat.le_of_ble_eq_true rfl⟩ ⟨Nat.le_refl _, Nat.le_refl _⟩ rfl (Nat.le_of_ble_eq_true rfl) dX8_loaded_31 rfl ?_
  rintro z31 F31 A31 ⟨e31, V4, hS4, v4, k4, g4⟩
  obtain rfl := e31.symm
  replace hS4 : St (T + 4) V4 F31 A31 := by first | exact hS4 | (rw [show T + 4 = T + 3 + 1 by omega]; exact hS4)
  refine x_cVi (pc2 := 37) (ci := 8) hC hK (n_plus l hM hS4 (by omega) (x := T + 2) (y := T + 3) ⟨by omega, by omega⟩ ⟨by omega, by omega⟩ (a := 26) (b := 13) (by rw [k4 _ (by omega), v3]; exact bd_mul (bd_r p0) bd_T (by decide)) (by rw [v4]; exact bd_r p1) ⟨by decide, by decide⟩) lk_996 rfl rfl (by decide) (by assumption) (by assumption) ⟨Nat.le_of_ble_eq_true rfl, Nat.le_of_ble_eq_true rfl⟩ ⟨Nat.le_refl _, Nat.le_refl _⟩ rfl (Nat.le_of_ble_eq_true rfl) dX8_loaded_34 rfl ?_
  rintro z34 F34 A34 ⟨e34, V5, hS5, v5, k5, g5⟩
  obtain rfl := e34.symm
  replace hS5 : St (T + 5) V5 F34 A34 := by first | exact hS5 | (rw [show T + 5 = T + 4 + 1 by omega]; exact hS5)
  rw [k4 _ (by omega), v3, v4] at v5
  replace v5 : V5 (T + 4) = x.1 := v5.trans prt_mul
  refine x_istore_n (pc2 := 38) (loc2 := [_, _, _, _, _]) hC rfl (by decide) rfl dX8_loaded_37 rfl ?_
  refine x_aload_n (pc2 := 39) hC rfl rfl dX8_loaded_38 rfl ?_
  refine x_aload_n (pc2 := 40) hC rfl rfl dX8_loaded_39 rfl ?_
  refine x_aload_n (pc2 := 41) hC rfl rfl dX8_loaded_40 rfl ?_
  refine x_aload_n (pc2 := 42) hC rfl rfl dX8_loaded_41 rfl ?_
  refine g_811 (pc2 := 45) hC hK (by assumption) (by assumption) (by assumption) dX8_loaded_42 rfl ?_
  refine x_iload_n (pc2 := 46) hC rfl rfl dX8_loaded_45 rfl ?_
  refine x_iconst (pc2 := 47) hC dX8_loaded_46 rfl ?_
  refine x_iadd (pc2 := 48) hC dX8_loaded_47 rfl ?_
  refine x_lald (pc2 := 49) hC hK (by assumption) (by assumption) (by omega) (by decide) dX8_loaded_48 rfl ?_
  rw [((((g1.tr g2).tr g3).tr g4).tr g5).a (by decide), c2]
  refine x_cVi (pc2 := 52) (ci := 8) hC hK (n_of l hM hS5 (by omega) (v := prt x 2) (by omega)) lk_902 rfl rfl (by decide) (by assumption) (by assumption) ⟨Nat.le_of_ble_eq_true rfl, Nat.le_of_ble_eq_true rfl⟩ ⟨Nat.le_refl _, Nat.le_refl _⟩ rfl (Nat.le_of_ble_eq_true rfl) dX8_loaded_49 rfl ?_
  rintro z49 F49 A49 ⟨e49, V6, hS6, v6, k6, g6⟩
  obtain rfl := e49.symm
  replace hS6 : St (T + 6) V6 F49 A49 := by first | exact hS6 | (rw [show T + 6 = T + 5 + 1 by omega]; exact hS6)
  refine x_aload_n (pc2 := 53) hC rfl rfl dX8_loaded_52 rfl ?_
  refine x_ldc2 (pc2 := 56) (z := 1000000000000) hC wt_952 rfl dX8_loaded_53 rfl ?_
  refine x_cVi (pc2 := 59) (ci := 8) hC hK (n_of l hM hS6 (by omega) (by decide)) lk_902 rfl rfl (by decide) (by assumption) (by assumption) ⟨Nat.le_of_ble_eq_true rfl, Nat.le_of_ble_eq_true rfl⟩ ⟨Nat.le_refl _, Nat.le_refl _⟩ rfl (Nat.le_of_ble_eq_true rfl) dX8_loaded_56 rfl ?_
  rintro z56 F56 A56 ⟨e56, V7, hS7, v7, k7, g7⟩
  obtain rfl := e56.symm
  replace hS7 : St (T + 7) V7 F56 A56 := by first | exact hS7 | (rw [show T + 7 = T + 6 + 1 by omega]; exact hS7)
  refine x_cVi (pc2 := 62) (ci := 8) hC hK (n_times l hM hS7 (by omega) (x := T + 5) (y := T + 6) ⟨by omega, by omega⟩ ⟨by omega, by omega⟩ (a := 13) (b := 13) (by rw [k7 _ (by omega), v6]; exact bd_r p2) (by rw [v7]; exact bd_T) (by decide)) lk_953 rfl rfl (by decide) (by assumption) (by assumption) ⟨Nat.le_of_ble_eq_true rfl, Nat.le_of_ble_eq_true rfl⟩ ⟨Nat.le_refl _, Nat.le_refl _⟩ rfl (Nat.le_of_ble_eq_true rfl) dX8_loaded_59 rfl ?_
  rintro z59 F59 A59 ⟨e59, V8, hS8, v8, k8, g8⟩
  obtain rfl := e59.symm
  replace hS8 : St (T + 8) V8 F59 A59 := by first | exact hS8 | (rw [show T + 8 = T + 7 + 1 by omega]; exact hS8)
  rw [k7 _ (by omega), v6, v7] at v8
  refine x_aload_n (pc2 := 63) hC rfl rfl dX8_loaded_62 rfl ?_
  refine x_aload_n (pc2 := 64) hC rfl rfl dX8_loaded_63 rfl ?_
  refine g_811 (pc2 := 67) hC hK (by assumption) (by assumption) (by assumption) dX8_loaded_64 rfl ?_
  refine x_iload_n (pc2 := 68) hC rfl rfl dX8_loaded_67 rfl ?_
  refine x_iconst (pc2 := 69) hC dX8_loaded_68 rfl ?_
  refine x_iadd (pc2 := 70) hC dX8_loaded_69 rfl ?_
  refine x_lald (pc2 := 71) hC hK (by assumption) (by assumption) (by omega) (by decide) dX8_loaded_70 rfl ?_
  rw [(((((((g1.tr g2).tr g3).tr g4).tr g5).tr g6).tr g7).tr g8).a (by decide), c3]
  refine x_cVi (pc2 := 74) (ci := 8) hC hK (n_of l hM hS8 (by omega) (v := prt x 3) (by omega)) lk_902 rfl rfl (by decide) (by assumption) (by assumption) ⟨Nat.le_of_ble_eq_true rfl, Nat.le_of_ble_eq_true rfl⟩ ⟨Nat.le_refl _, Nat.le_refl _⟩ rfl (Nat.le_of_ble_eq_true rfl) dX8_loaded_71 rfl ?_
  rintro z71 F71 A71 ⟨e71, V9, hS9, v9, k9, g9⟩
  obtain rfl := e71.symm
  replace hS9 : St (T + 9) V9 F71 A71 := by first | exact hS9 | (rw [show T + 9 = T + 8 + 1 by omega]; exact hS9)
  refine x_cVi (pc2 := 77) (ci := 8) hC hK (n_plus l hM hS9 (by omega) (x := T + 7) (y := T + 8) ⟨by omega, by omega⟩ ⟨by omega, by omega⟩ (a := 26) (b := 13) (by rw [k9 _ (by omega), v8]; exact bd_mul (bd_r p2) bd_T (by decide)) (by rw [v9]; exact bd_r p3) ⟨by decide, by decide⟩) lk_996 rfl rfl (by decide) (by assumption) (by assumption) ⟨Nat.le_of_ble_eq_true rfl, Nat.le_of_ble_eq_true rfl⟩ ⟨Nat.le_refl _, Nat.le_refl _⟩ rfl (Nat.le_of_ble_eq_true rfl) dX8_loaded_74 rfl ?_
  rintro z74 F74 A74 ⟨e74, V10, hS10, v10, k10, g10⟩
  obtain rfl := e74.symm
  replace hS10 : St (T + 10) V10 F74 A74 := by first | exact hS10 | (rw [show T + 10 = T + 9 + 1 by omega]; exact hS10)
  rw [k9 _ (by omega), v8, v9] at v10
  replace v10 : V10 (T + 9) = x.2.1 := v10.trans prt_mul
  refine x_istore_n (pc2 := 78) (loc2 := [_, _, _, _, _]) hC rfl (by decide) rfl dX8_loaded_77 rfl ?_
  refine x_aload_n (pc2 := 79) hC rfl rfl dX8_loaded_78 rfl ?_
  refine x_aload_n (pc2 := 80) hC rfl rfl dX8_loaded_79 rfl ?_
  refine x_aload_n (pc2 := 81) hC rfl rfl dX8_loaded_80 rfl ?_
  refine x_aload_n (pc2 := 82) hC rfl rfl dX8_loaded_81 rfl ?_
  refine g_811 (pc2 := 85) hC hK (by assumption) (by assumption) (by assumption) dX8_loaded_82 rfl ?_
  refine x_iload_n (pc2 := 86) hC rfl rfl dX8_loaded_85 rfl ?_
  refine x_iconst (pc2 := 87) hC dX8_loaded_86 rfl ?_
  refine x_iadd (pc2 := 88) hC dX8_loaded_87 rfl ?_
  refine x_lald (pc2 := 89) hC hK (by assumption) (by assumption) (by omega) (by decide) dX8_loaded_88 rfl ?_
  rw [(((((((((g1.tr g2).tr g3).tr g4).tr g5).tr g6).tr g7).tr g8).tr g9).tr g10).a (by decide), c4]
  refine x_cVi (pc2 := 92) (ci := 8) hC hK (n_of l hM hS10 (by omega) (v := prt x 4) (by omega)) lk_902 rfl rfl (by decide) (by assumption) (by assumption) ⟨Nat.le_of_ble_eq_true rfl, Nat.le_of_ble_eq_true rfl⟩ ⟨Nat.le_refl _, Nat.le_refl _⟩ rfl (Nat.le_of_ble_eq_true rfl) dX8_loaded_89 rfl ?_
  rintro z89 F89 A89 ⟨e89, V11, hS11, v11, k11, g11⟩
  obtain rfl := e89.symm
  replace hS11 : St (T + 11) V11 F89 A89 := by first | exact hS11 | (rw [show T + 11 = T + 10 + 1 by omega]; exact hS11)
  refine x_aload_n (pc2 := 93) hC rfl rfl dX8_loaded_92 rfl ?_
  refine x_ldc2 (pc2 := 96) (z := 1000000000000) hC wt_952 rfl dX8_loaded_93 rfl ?_
  refine x_cVi (pc2 := 99) (ci := 8) hC hK (n_of l hM hS11 (by omega) (by decide)) lk_902 rfl rfl (by decide) (by assumption) (by assumption) ⟨Nat.le_of_ble_eq_true rfl, Nat.le_of_ble_eq_true rfl⟩ ⟨Nat.le_refl _, Nat.le_refl _⟩ rfl (Nat.le_of_ble_eq_true rfl) dX8_loaded_96 rfl ?_
  rintro z96 F96 A96 ⟨e96, V12, hS12, v12, k12, g12⟩
  obtain rfl := e96.symm
  replace hS12 : St (T + 12) V12 F96 A96 := by first | exact hS12 | (rw [show T + 12 = T + 11 + 1 by omega]; exact hS12)
  refine x_cVi (pc2 := 102) (ci := 8) hC hK (n_times l hM hS12 (by omega) (x := T + 10) (y := T + 11) ⟨by omega, by omega⟩ ⟨by omega, by omega⟩ (a := 13) (b := 13) (by rw [k12 _ (by omega), v11]; exact bd_r p4) (by rw [v12]; exact bd_T) (by decide)) lk_953 rfl rfl (by decide) (by assumption) (by assumption) ⟨Nat.le_of_ble_eq_true rfl, Nat.le_of_ble_eq_true rfl⟩ ⟨Nat.le_refl _, Nat.le_refl _⟩ rfl (Nat.le_of_ble_eq_true rfl) dX8_loaded_99 rfl ?_
  rintro z99 F99 A99 ⟨e99, V13, hS13, v13, k13, g13⟩
  obtain rfl := e99.symm
  replace hS13 : St (T + 13) V13 F99 A99 := by first | exact hS13 | (rw [show T + 13 = T + 12 + 1 by omega]; exact hS13)
  rw [k12 _ (by omega), v11, v12] at v13
  refine x_aload_n (pc2 := 103) hC rfl rfl dX8_loaded_102 rfl ?_
  refine x_aload_n (pc2 := 104) hC rfl rfl dX8_loaded_103 rfl ?_
  refine g_811 (pc2 := 107) hC hK (by assumption) (by assumption) (by assumption) dX8_loaded_104 rfl ?_
  refine x_iload_n (pc2 := 108) hC rfl rfl dX8_loaded_107 rfl ?_
  refine x_iconst (pc2 := 109) hC dX8_loaded_108 rfl ?_
  refine x_iadd (pc2 := 110) hC dX8_loaded_109 rfl ?_
  refine x_lald (pc2 := 111) hC hK (by assumption) (by assumption) (by omega) (by decide) dX8_loaded_110 rfl ?_
  rw [((((((((((((g1.tr g2).tr g3).tr g4).tr g5).tr g6).tr g7).tr g8).tr g9).tr g10).tr g11).tr g12).tr g13).a (by decide), c5]
  refine x_cVi (pc2 := 114) (ci := 8) hC hK (n_of l hM hS13 (by omega) (v := prt x 5) (by omega)) lk_902 rfl rfl (by decide) (by assumption) (by assumption) ⟨Nat.le_of_ble_eq_true rfl, Nat.le_of_ble_eq_true rfl⟩ ⟨Nat.le_refl _, Nat.le_refl _⟩ rfl (Nat.le_of_ble_eq_true rfl) dX8_loaded_111 rfl ?_
  rintro z111 F111 A111 ⟨e111, V14, hS14, v14, k14, g14⟩
  obtain rfl := e111.symm
  replace hS14 : St (T + 14) V14 F111 A111 := by first | exact hS14 | (rw [show T + 14 = T + 13 + 1 by omega]; exact hS14)
  refine x_cVi (pc2 := 117) (ci := 8) hC hK (n_plus l hM hS14 (by omega) (x := T + 12) (y := T + 13) ⟨by omega, by omega⟩ ⟨by omega, by omega⟩ (a := 26) (b := 13) (by rw [k14 _ (by omega), v13]; exact bd_mul (bd_r p4) bd_T (by decide)) (by rw [v14]; exact bd_r p5) ⟨by decide, by decide⟩) lk_996 rfl rfl (by decide) (by assumption) (by assumption) ⟨Nat.le_of_ble_eq_true rfl, Nat.le_of_ble_eq_true rfl⟩ ⟨Nat.le_refl _, Nat.le_refl _⟩ rfl (Nat.le_of_ble_eq_true rfl) dX8_loaded_114 rfl ?_
  rintro z114 F114 A114 ⟨e114, V15, hS15, v15, k15, g15⟩
  obtain rfl := e114.symm
  replace hS15 : St (T + 15) V15 F114 A114 := by first | exact hS15 | (rw [show T + 15 = T + 14 + 1 by omega]; exact hS15)
  rw [k14 _ (by omega), v13, v14] at v15
  replace v15 : V15 (T + 14) = x.2.2 := v15.trans prt_mul
  refine x_istore (pc2 := 119) (loc2 := [_, _, _, _, _]) hC (by decide) rfl dX8_loaded_117 rfl ?_
  refine x_aload_n (pc2 := 120) hC rfl rfl dX8_loaded_119 rfl ?_
  refine x_iload_n (pc2 := 121) hC rfl rfl dX8_loaded_120 rfl ?_
  refine x_iload_n (pc2 := 122) hC rfl rfl dX8_loaded_121 rfl ?_
  refine x_iload (pc2 := 124) hC rfl dX8_loaded_122 rfl ?_
  refine x_cVi (pc2 := 127) (ci := 8) hC hK (n_triple l hM hS15 (by omega) (x := T + 4) (y := T + 9) (w := T + 14) ⟨by omega, by omega⟩ ⟨by omega, by omega⟩ ⟨by omega, by omega⟩) lk_911 rfl rfl (by decide) (by assumption) (by assumption) ⟨Nat.le_of_ble_eq_true rfl, Nat.le_of_ble_eq_true rfl⟩ ⟨Nat.le_refl _, Nat.le_refl _⟩ rfl (Nat.le_of_ble_eq_true rfl) dX8_loaded_124 rfl ?_
  rintro z124 F124 A124 ⟨e124, V16, hS16, ⟨va, vb, vc⟩, k16, g16⟩
  obtain rfl := e124.symm
  rw [k15 (T + 4) (by omega), k14 (T + 4) (by omega), k13 (T + 4) (by omega), k12 (T + 4) (by omega), k11 (T + 4) (by omega), k10 (T + 4) (by omega), k9 (T + 4) (by omega), k8 (T + 4) (by omega), k7 (T + 4) (by omega), k6 (T + 4) (by omega), v5] at va
  rw [k15 (T + 9) (by omega), k14 (T + 9) (by omega), k13 (T + 9) (by omega), k12 (T + 9) (by omega), k11 (T + 9) (by omega), v10] at vb
  rw [v15] at vc
  exact x_iret hC hr hlk ⟨_, rfl, Tq.mk rfl hS16 va vb vc (fun u hu => (k16 u (by omega)).trans ((k15 u (by omega)).trans ((k14 u (by omega)).trans ((k13 u (by omega)).trans ((k12 u (by omega)).trans ((k11 u (by omega)).trans ((k10 u (by omega)).trans ((k9 u (by omega)).trans ((k8 u (by omega)).trans ((k7 u (by omega)).trans ((k6 u (by omega)).trans ((k5 u (by omega)).trans ((k4 u (by omega)).trans ((k3 u (by omega)).trans ((k2 u (by omega)).trans (k1 u hu)))))))))))))))) (((((((((((((((g1.tr g2).tr g3).tr g4).tr g5).tr g6).tr g7).tr g8).tr g9).tr g10).tr g11).tr g12).tr g13).tr g14).tr g15).tr g16)⟩ dX8_loaded_127
theorem dX8_place_0 : decode cX8_place 0 = .ok (.bipush 96, 2) := by decide +kernel
theorem dX8_place_2 : decode cX8_place 2 = .ok (.iload_n 0, 1) := by decide +kernel
theorem dX8_place_3 : decode cX8_place 3 = .ok (.imul, 1) := by decide +kernel
theorem dX8_place_4 : decode cX8_place 4 = .ok (.bipush 24, 2) := by decide +kernel
theorem dX8_place_6 : decode cX8_place 6 = .ok (.iload_n 1, 1) := by decide +kernel
theorem dX8_place_7 : decode cX8_place 7 = .ok (.imul, 1) := by decide +kernel
theorem dX8_place_8 : decode cX8_place 8 = .ok (.iadd, 1) := by decide +kernel
theorem dX8_place_9 : decode cX8_place 9 = .ok (.bipush 6, 2) := by decide +kernel
theorem dX8_place_11 : decode cX8_place 11 = .ok (.iconst 2, 1) := by decide +kernel
theorem dX8_place_12 : decode cX8_place 12 = .ok (.iload_n 2, 1) := by decide +kernel
theorem dX8_place_13 : decode cX8_place 13 = .ok (.imul, 1) := by decide +kernel
theorem dX8_place_14 : decode cX8_place 14 = .ok (.iload_n 3, 1) := by decide +kernel
theorem dX8_place_15 : decode cX8_place 15 = .ok (.iadd, 1) := by decide +kernel
theorem dX8_place_16 : decode cX8_place 16 = .ok (.imul, 1) := by decide +kernel
theorem dX8_place_17 : decode cX8_place 17 = .ok (.iadd, 1) := by decide +kernel
theorem dX8_place_18 : decode cX8_place 18 = .ok (.ireturn, 1) := by decide +kernel
set_option maxHeartbeats 4000000 in
theorem n_place (l : Launch) {D : va_G} {ids : Nat → ClassId} {β : Nat} {sh : Nat → Nat × Nat} {N : Nat} {R : Nat → Nat → Option Nat} {F : Nat → Nat → Int} {A : Nat → Int → Int} {b t i j : Int} : MetX l yX8_place cX8_place 4 (some (.int)) 0 0 D ids β sh N R F A [pI b, pI t, pI i, pI j] (pIr (sameI F A (96 * b + 24 * t + 6 * (2 * i + j)))) := by
  refine MetX.of (loc := [_, _, _, _]) (plainFor_of_name (by decide +kernel)) (Nat.le_of_ble_eq_true rfl) rfl ?_
  intro p e s m args below meth c hC hK hr hlk
  refine x_bipush (pc2 := 2) hC rfl dX8_place_0 rfl ?_
  refine x_iload_n (pc2 := 3) hC rfl rfl dX8_place_2 rfl ?_
  refine x_imul (pc2 := 4) hC dX8_place_3 rfl ?_
  refine x_bipush (pc2 := 6) hC rfl dX8_place_4 rfl ?_
  refine x_iload_n (pc2 := 7) hC rfl rfl dX8_place_6 rfl ?_
  refine x_imul (pc2 := 8) hC dX8_place_7 rfl ?_
  refine x_iadd (pc2 := 9) hC dX8_place_8 rfl ?_
  refine x_bipush (pc2 := 11) hC rfl dX8_place_9 rfl ?_
  refine x_iconst (pc2 := 12) hC dX8_place_11 rfl ?_
  refine x_iload_n (pc2 := 13) hC rfl rfl dX8_place_12 rfl ?_
  refine x_imul (pc2 := 14) hC dX8_place_13 rfl ?_
  refine x_iload_n (pc2 := 15) hC rfl rfl dX8_place_14 rfl ?_
  refine x_iadd (pc2 := 16) hC dX8_place_15 rfl ?_
  refine x_imul (pc2 := 17) hC dX8_place_16 rfl ?_
  refine x_iadd (pc2 := 18) hC dX8_place_17 rfl ?_
  exact x_iret hC hr hlk ⟨_, rfl, rfl, rfl, rfl⟩ dX8_place_18
theorem dX8_entry_0 : decode cX8_entry 0 = .ok (.aload_n 0, 1) := by decide +kernel
theorem dX8_entry_1 : decode cX8_entry 1 = .ok (.iload_n 1, 1) := by decide +kernel
theorem dX8_entry_2 : decode cX8_entry 2 = .ok (.iload_n 2, 1) := by decide +kernel
theorem dX8_entry_3 : decode cX8_entry 3 = .ok (.iload_n 3, 1) := by decide +kernel
theorem dX8_entry_4 : decode cX8_entry 4 = .ok (.iload 4, 2) := by decide +kernel
theorem dX8_entry_6 : decode cX8_entry 6 = .ok (.invokestatic 128, 3) := by decide +kernel
theorem dX8_entry_9 : decode cX8_entry 9 = .ok (.invokevirtual 132, 3) := by decide +kernel
theorem dX8_entry_12 : decode cX8_entry 12 = .ok (.ireturn, 1) := by decide +kernel
set_option maxHeartbeats 4000000 in
theorem t_entry (l : Launch) {D : va_G} {ids : Nat → ClassId} {β : Nat} {sh : Nat → Nat × Nat} {N : Nat} {R : Nat → Nat → Option Nat} {F : Nat → Nat → Int} {A : Nat → Int → Int} (hM : MoL sh R N) {T b t i j : Int} {V : Int → Int} {x : T3} (hS : St T V F A) (hT : T < 1480) (hi : 0 ≤ 96 * b + 24 * t + 6 * (2 * i + j) ∧ 96 * b + 24 * t + 6 * (2 * i + j) + 6 ≤ 1536) (hx : held (A 2) (96 * b + 24 * t + 6 * (2 * i + j)) x) (hfx : fit x) : MetX l yX8_entry cX8_entry 5 (some (.int)) 4 93 D ids β sh N R F A [rf 0, pI b, pI t, pI i, pI j] (pIr (Tq 15 F A T V x)) := by
  refine MetX.of (loc := [_, _, _, _, _]) (plainFor_of_name (by decide +kernel)) (Nat.le_of_ble_eq_true rfl) rfl ?_
  intro p e s m args below meth c hC hK hr hlk
  obtain ⟨⟨m0, m1⟩, ⟨r0, r2, r3, r7, r8, r9, r11, r12, r13, r16, r18⟩, ⟨m2, m3⟩, ⟨m4, m5⟩, ⟨m6, m7⟩, ⟨m8, m9⟩, ⟨m10, m11⟩, ⟨m12, m13⟩, ⟨m14, m15⟩, ⟨m16, m17⟩, ⟨m18, m19⟩, ⟨m20, m21⟩, ⟨m22, m23⟩⟩ := id hM
  refine x_aload_n (pc2 := 1) hC rfl rfl dX8_entry_0 rfl ?_
  refine x_iload_n (pc2 := 2) hC rfl rfl dX8_entry_1 rfl ?_
  refine x_iload_n (pc2 := 3) hC rfl rfl dX8_entry_2 rfl ?_
  refine x_iload_n (pc2 := 4) hC rfl rfl dX8_entry_3 rfl ?_
  refine x_iload (pc2 := 6) hC rfl dX8_entry_4 rfl ?_
  refine x_cSi (pc2 := 9) hC hK (n_place l) lk_989 rfl ⟨Nat.le_of_ble_eq_true rfl, Nat.le_of_ble_eq_true rfl⟩ ⟨Nat.le_refl _, Nat.le_refl _⟩ rfl (Nat.le_of_ble_eq_true rfl) dX8_entry_6 rfl ?_
  rintro z6 F6 A6 ⟨rfl, e16, e26⟩
  obtain rfl := e16.symm
  obtain rfl := e26.symm
  refine x_cVi (pc2 := 12) (ci := 8) hC hK (t_loaded l hM hS hT hi hx hfx) lk_992 rfl rfl (by decide) (by assumption) (by assumption) ⟨Nat.le_of_ble_eq_true rfl, Nat.le_of_ble_eq_true rfl⟩ ⟨Nat.le_refl _, Nat.le_refl _⟩ rfl (Nat.le_of_ble_eq_true rfl) dX8_entry_9 rfl ?_
  rintro z9 F9 A9 hq
  exact x_iret hC hr hlk ⟨_, rfl, hq⟩ dX8_entry_12
def c3 (x : T3) (k : Int) : Int := if k = 0 then x.1 else if k = 1 then x.2.1 else x.2.2
theorem c3_tr {V : Int → Int} {z : Int} {x : T3} (h : tr V z = x) {k : Int} (h0 : 0 ≤ k) (h1 : k < 3) : V (z + k) = c3 x k := by
  subst h
  unfold c3 tr
  rcases (show k = 0 ∨ k = 1 ∨ k = 2 by omega) with rfl | rfl | rfl
  · rw [if_pos rfl, Int.add_zero]
  · rfl
  · rfl
theorem fit_c3 {x : T3} : fit x ↔ ∀ k : Int, 0 ≤ k → k < 3 → (c3 x k).natAbs ≤ 1000000000000000000000000 := by
  constructor
  · rintro ⟨h1, h2, h3⟩ k k0 k1
    unfold c3
    split
    · exact h1
    · split
      · exact h2
      · exact h3
  · intro h
    exact ⟨h 0 (by decide) (by decide), h 1 (by decide) (by decide), h 2 (by decide) (by decide)⟩
theorem prt_c3 (x : T3) {k : Int} (h0 : 0 ≤ k) (h1 : k < 3) : prt x (2 * k) = (c3 x k).tdiv 1000000000000 ∧ prt x (2 * k + 1) = (c3 x k).tmod 1000000000000 := by
  rcases (show k = 0 ∨ k = 1 ∨ k = 2 by omega) with rfl | rfl | rfl <;> exact ⟨rfl, rfl⟩
/-- what making a number leaves -/
def FrK (F : Nat → Nat → Int) (A : Nat → Int → Int) (F' : Nat → Nat → Int) (A' : Nat → Int → Int) : Prop := (∀ o, o ≠ 0 → F' o = F o) ∧ (∀ j, j ≠ 10 → j ≠ 14 → j ≠ 15 → j ≠ 17 → F' 0 j = F 0 j) ∧ ∀ a, a ≠ 4 → a ≠ 5 → a ≠ 6 → a ≠ 7 → a ≠ 8 → a ≠ 9 → a ≠ 10 → A' a = A a
theorem FrK.rf {F : Nat → Nat → Int} {A : Nat → Int → Int} : FrK F A F A := ⟨fun _ _ => rfl, fun _ _ _ _ _ => rfl, fun _ _ _ _ _ _ _ _ => rfl⟩
theorem FrK.tr {F F1 F2 : Nat → Nat → Int} {A A1 A2 : Nat → Int → Int} (h : FrK F A F1 A1) (k : FrK F1 A1 F2 A2) : FrK F A F2 A2 := ⟨fun o ho => (k.1 o ho).trans (h.1 o ho), fun j a b c d => (k.2.1 j a b c d).trans (h.2.1 j a b c d), fun a b c d e f g i => (k.2.2 a b c d e f g i).trans (h.2.2 a b c d e f g i)⟩
theorem FrM.K {F F' : Nat → Nat → Int} {A A' : Nat → Int → Int} (h : FrM F A F' A') : FrK F A F' A' := ⟨h.1, fun j a b c _ => h.2.1 j a b c, fun a a4 a5 a6 a7 a8 a9 _ => h.2.2 a a4 a5 a6 a7 a8 a9⟩
theorem FrK.f {F : Nat → Nat → Int} {A : Nat → Int → Int} {j : Nat} {v : Int} (hj : j = 10 ∨ j = 14 ∨ j = 15 ∨ j = 17) : FrK F A (uF F 0 j v) A := ⟨fun o ho => uF_ne ho, fun k _ _ _ _ => uF_nj (by omega), fun _ _ _ _ _ _ _ _ => rfl⟩
theorem FrK.w10 {F : Nat → Nat → Int} {A : Nat → Int → Int} {i v : Int} : FrK F A F (uA A 10 i v) := ⟨fun _ _ => rfl, fun _ _ _ _ _ => rfl, fun a _ _ _ _ _ _ b => uA_ne b⟩
theorem FrK.a {F F' : Nat → Nat → Int} {A A' : Nat → Int → Int} (h : FrK F A F' A') {a : Nat} (ha : a = 1 ∨ a = 2 ∨ a = 3 ∨ a = 11) : A' a = A a := h.2.2 a (by omega) (by omega) (by omega) (by omega) (by omega) (by omega) (by omega)
theorem gcd3c (p q r : Nat) : Nat.gcd (Nat.gcd p q) r = Nat.gcd (Nat.gcd r p) q := by
  rw [Nat.gcd_comm (Nat.gcd p q) r, Nat.gcd_assoc]
theorem fin_mk {F : Nat → Nat → Int} {F1 : Nat → Nat → Int} {A1 : Nat → Int → Int} {i k : Int} (w : T3) (_ : True) (hk : k = 3) (hbig : ((∀ n : Int, 0 ≤ n → n < k → (c3 w n).natAbs ≤ 1000000000000000000000000) ∧ F1 0 17 = F 0 17) ∨ ((∃ n : Int, (0 ≤ n ∧ n < k) ∧ ¬ (c3 w n).natAbs ≤ 1000000000000000000000000) ∧ F1 0 17 = 1)) (hmd : ∀ n : Int, 0 ≤ n → n < k → (c3 w n).natAbs ≤ 1000000000000000000000000 → A1 10 (i + 2 * n) = (c3 w n).tdiv 1000000000000 ∧ A1 10 (i + 2 * n + 1) = (c3 w n).tmod 1000000000000) : (fit w ∧ F1 0 17 = F 0 17 ∧ held (A1 10) i w) ∨ (¬ fit w ∧ F1 0 17 = 1) := by
  subst hk
  rcases hbig with ⟨h1, h2⟩ | ⟨⟨n, h1, h2⟩, h3⟩
  · refine Or.inl ⟨fit_c3.mpr h1, h2, fun m m0 m6 => ?_⟩
    obtain ⟨n, r, rfl, hr, n0, n3⟩ : ∃ n r : Int, m = 2 * n + r ∧ (r = 0 ∨ r = 1) ∧ 0 ≤ n ∧ n < 3 := ⟨m / 2, m % 2, by omega, by omega, by omega, by omega⟩
    obtain ⟨a, b⟩ := hmd n n0 n3 (h1 n n0 n3)
    obtain ⟨c, d⟩ := prt_c3 w n0 n3
    rcases hr with rfl | rfl
    · rw [Int.add_zero, a, c]
    · rw [← Int.add_assoc, b, d]
  · exact Or.inr ⟨fun q => h2 (fit_c3.mp q n h1.1 h1.2), h3⟩
theorem dX8_makes_0 : decode cX8_makes 0 = .ok (.aload_n 0, 1) := by decide +kernel
theorem dX8_makes_1 : decode cX8_makes 1 = .ok (.aload_n 0, 1) := by decide +kernel
theorem dX8_makes_2 : decode cX8_makes 2 = .ok (.iload 4, 2) := by decide +kernel
theorem dX8_makes_4 : decode cX8_makes 4 = .ok (.iload 4, 2) := by decide +kernel
theorem dX8_makes_6 : decode cX8_makes 6 = .ok (.iconst 1, 1) := by decide +kernel
theorem dX8_makes_7 : decode cX8_makes 7 = .ok (.iadd, 1) := by decide +kernel
theorem dX8_makes_8 : decode cX8_makes 8 = .ok (.invokevirtual 135, 3) := by decide +kernel
theorem dX8_makes_11 : decode cX8_makes 11 = .ok (.iload 4, 2) := by decide +kernel
theorem dX8_makes_13 : decode cX8_makes 13 = .ok (.iconst 2, 1) := by decide +kernel
theorem dX8_makes_14 : decode cX8_makes 14 = .ok (.iadd, 1) := by decide +kernel
theorem dX8_makes_15 : decode cX8_makes 15 = .ok (.invokevirtual 135, 3) := by decide +kernel
theorem dX8_makes_18 : decode cX8_makes 18 = .ok (.istore 5, 2) := by decide +kernel
theorem dX8_makes_20 : decode cX8_makes 20 = .ok (.bipush 24, 2) := by decide +kernel
theorem dX8_makes_22 : decode cX8_makes 22 = .ok (.iload_n 1, 1) := by decide +kernel
theorem dX8_makes_23 : decode cX8_makes 23 = .ok (.imul, 1) := by decide +kernel
theorem dX8_makes_24 : decode cX8_makes 24 = .ok (.bipush 6, 2) := by decide +kernel
theorem dX8_makes_26 : decode cX8_makes 26 = .ok (.iconst 2, 1) := by decide +kernel
theorem dX8_makes_27 : decode cX8_makes 27 = .ok (.iload_n 2, 1) := by decide +kernel
theorem dX8_makes_28 : decode cX8_makes 28 = .ok (.imul, 1) := by decide +kernel
theorem dX8_makes_29 : decode cX8_makes 29 = .ok (.iload_n 3, 1) := by decide +kernel
theorem dX8_makes_30 : decode cX8_makes 30 = .ok (.iadd, 1) := by decide +kernel
theorem dX8_makes_31 : decode cX8_makes 31 = .ok (.imul, 1) := by decide +kernel
theorem dX8_makes_32 : decode cX8_makes 32 = .ok (.iadd, 1) := by decide +kernel
theorem dX8_makes_33 : decode cX8_makes 33 = .ok (.istore 6, 2) := by decide +kernel
theorem dX8_makes_35 : decode cX8_makes 35 = .ok (.iconst 0, 1) := by decide +kernel
theorem dX8_makes_36 : decode cX8_makes 36 = .ok (.istore 7, 2) := by decide +kernel
theorem dX8_makes_38 : decode cX8_makes 38 = .ok (.iload 7, 2) := by decide +kernel
theorem dX8_makes_40 : decode cX8_makes 40 = .ok (.iconst 3, 1) := by decide +kernel
theorem dX8_makes_41 : decode cX8_makes 41 = .ok (.if_icmp .ge 99, 3) := by decide +kernel
theorem dX8_makes_44 : decode cX8_makes 44 = .ok (.aload_n 0, 1) := by decide +kernel
theorem dX8_makes_45 : decode cX8_makes 45 = .ok (.aload_n 0, 1) := by decide +kernel
theorem dX8_makes_46 : decode cX8_makes 46 = .ok (.iload 4, 2) := by decide +kernel
theorem dX8_makes_48 : decode cX8_makes 48 = .ok (.iload 7, 2) := by decide +kernel
theorem dX8_makes_50 : decode cX8_makes 50 = .ok (.iadd, 1) := by decide +kernel
theorem dX8_makes_51 : decode cX8_makes 51 = .ok (.iload 5, 2) := by decide +kernel
theorem dX8_makes_53 : decode cX8_makes 53 = .ok (.invokevirtual 138, 3) := by decide +kernel
theorem dX8_makes_56 : decode cX8_makes 56 = .ok (.invokevirtual 141, 3) := by decide +kernel
theorem dX8_makes_59 : decode cX8_makes 59 = .ok (.istore 8, 2) := by decide +kernel
theorem dX8_makes_61 : decode cX8_makes 61 = .ok (.aload_n 0, 1) := by decide +kernel
theorem dX8_makes_62 : decode cX8_makes 62 = .ok (.aload_n 0, 1) := by decide +kernel
theorem dX8_makes_63 : decode cX8_makes 63 = .ok (.getfield 144, 3) := by decide +kernel
theorem dX8_makes_66 : decode cX8_makes 66 = .ok (.ifCond .ne 8, 3) := by decide +kernel
theorem dX8_makes_69 : decode cX8_makes 69 = .ok (.iload 8, 2) := by decide +kernel
theorem dX8_makes_71 : decode cX8_makes 71 = .ok (.ifCond .ne 7, 3) := by decide +kernel
theorem dX8_makes_74 : decode cX8_makes 74 = .ok (.iconst 1, 1) := by decide +kernel
theorem dX8_makes_75 : decode cX8_makes 75 = .ok (.goto 4, 3) := by decide +kernel
theorem dX8_makes_78 : decode cX8_makes 78 = .ok (.iconst 0, 1) := by decide +kernel
theorem dX8_makes_79 : decode cX8_makes 79 = .ok (.putfield 144, 3) := by decide +kernel
theorem dX8_makes_82 : decode cX8_makes 82 = .ok (.aload_n 0, 1) := by decide +kernel
theorem dX8_makes_83 : decode cX8_makes 83 = .ok (.getfield 46, 3) := by decide +kernel
theorem dX8_makes_86 : decode cX8_makes 86 = .ok (.iload 6, 2) := by decide +kernel
theorem dX8_makes_88 : decode cX8_makes 88 = .ok (.iconst 2, 1) := by decide +kernel
theorem dX8_makes_89 : decode cX8_makes 89 = .ok (.iload 7, 2) := by decide +kernel
theorem dX8_makes_91 : decode cX8_makes 91 = .ok (.imul, 1) := by decide +kernel
theorem dX8_makes_92 : decode cX8_makes 92 = .ok (.iadd, 1) := by decide +kernel
theorem dX8_makes_93 : decode cX8_makes 93 = .ok (.iload 8, 2) := by decide +kernel
theorem dX8_makes_95 : decode cX8_makes 95 = .ok (.ifCond .eq 10, 3) := by decide +kernel
theorem dX8_makes_98 : decode cX8_makes 98 = .ok (.aload_n 0, 1) := by decide +kernel
theorem dX8_makes_99 : decode cX8_makes 99 = .ok (.getfield 96, 3) := by decide +kernel
theorem dX8_makes_102 : decode cX8_makes 102 = .ok (.goto 4, 3) := by decide +kernel
theorem dX8_makes_105 : decode cX8_makes 105 = .ok (.lconst 0, 1) := by decide +kernel
theorem dX8_makes_106 : decode cX8_makes 106 = .ok (.lastore, 1) := by decide +kernel
theorem dX8_makes_107 : decode cX8_makes 107 = .ok (.aload_n 0, 1) := by decide +kernel
theorem dX8_makes_108 : decode cX8_makes 108 = .ok (.getfield 46, 3) := by decide +kernel
theorem dX8_makes_111 : decode cX8_makes 111 = .ok (.iload 6, 2) := by decide +kernel
theorem dX8_makes_113 : decode cX8_makes 113 = .ok (.iconst 2, 1) := by decide +kernel
theorem dX8_makes_114 : decode cX8_makes 114 = .ok (.iload 7, 2) := by decide +kernel
theorem dX8_makes_116 : decode cX8_makes 116 = .ok (.imul, 1) := by decide +kernel
theorem dX8_makes_117 : decode cX8_makes 117 = .ok (.iadd, 1) := by decide +kernel
theorem dX8_makes_118 : decode cX8_makes 118 = .ok (.iconst 1, 1) := by decide +kernel
theorem dX8_makes_119 : decode cX8_makes 119 = .ok (.iadd, 1) := by decide +kernel
theorem dX8_makes_120 : decode cX8_makes 120 = .ok (.iload 8, 2) := by decide +kernel
theorem dX8_makes_122 : decode cX8_makes 122 = .ok (.ifCond .eq 10, 3) := by decide +kernel
theorem dX8_makes_125 : decode cX8_makes 125 = .ok (.aload_n 0, 1) := by decide +kernel
theorem dX8_makes_126 : decode cX8_makes 126 = .ok (.getfield 100, 3) := by decide +kernel
theorem dX8_makes_129 : decode cX8_makes 129 = .ok (.goto 4, 3) := by decide +kernel
theorem dX8_makes_132 : decode cX8_makes 132 = .ok (.lconst 0, 1) := by decide +kernel
theorem dX8_makes_133 : decode cX8_makes 133 = .ok (.lastore, 1) := by decide +kernel
theorem dX8_makes_134 : decode cX8_makes 134 = .ok (.iinc 7 1, 3) := by decide +kernel
theorem dX8_makes_137 : decode cX8_makes 137 = .ok (.goto (-99), 3) := by decide +kernel
theorem dX8_makes_140 : decode cX8_makes 140 = .ok (.return_, 1) := by decide +kernel
set_option maxHeartbeats 16000000 in
theorem n_makes (l : Launch) {D : va_G} {ids : Nat → ClassId} {β : Nat} {sh : Nat → Nat × Nat} {N : Nat} {R : Nat → Nat → Option Nat} {F : Nat → Nat → Int} {A : Nat → Int → Int} (hM : MoL sh R N) {T t i j x : Int} {V : Int → Int} {v : T3} (hS : St T V F A) (hT : T < 1470) (ht : isT t) (hij : isT (2 * i + j)) (hx : 0 ≤ x ∧ x + 2 < T) (hv : tr V x = v) (hv0 : 0 < v.2.2) (hb : F 0 17 = 0 ∨ F 0 17 = 1) : MetX l yX8_makes cX8_makes 9 none 3 90 D ids β sh N R F A [rf 0, pI t, pI i, pI j, pI x] (pVr (fun F2 A2 => (∃ T2 V2, (T ≤ T2 ∧ T2 ≤ T + 12) ∧ St T2 V2 F2 A2 ∧ ∀ u, u < T → V2 u = V u) ∧ LT (q3 v) (low (q3 v)) ∧ ((fit (low (q3 v)) ∧ F2 0 17 = F 0 17 ∧ held (A2 10) (24 * t + 6 * (2 * i + j)) (low (q3 v))) ∨ (¬ fit (low (q3 v)) ∧ F2 0 17 = 1)) ∧ (∀ k, k < 24 * t + 6 * (2 * i + j) ∨ 24 * t + 6 * (2 * i + j) + 6 ≤ k → A2 10 k = A 10 k) ∧ FrK F A F2 A2)) := by
  refine MetX.of (loc := [_, _, _, _, _, _, _, _, _]) (plainFor_of_name (by decide +kernel)) (Nat.le_of_ble_eq_true rfl) rfl ?_
  intro p e s m args below meth c hC hK hr hlk
  obtain ⟨⟨m0, m1⟩, ⟨r0, r2, r3, r7, r8, r9, r11, r12, r13, r16, r18⟩, ⟨m2, m3⟩, ⟨m4, m5⟩, ⟨m6, m7⟩, ⟨m8, m9⟩, ⟨m10, m11⟩, ⟨m12, m13⟩, ⟨m14, m15⟩, ⟨m16, m17⟩, ⟨m18, m19⟩, ⟨m20, m21⟩, ⟨m22, m23⟩⟩ := id hM
  have hT0 := hS.2.1
  obtain ⟨gl, gt⟩ := g3_lt (p := v.1) (q := v.2.1) (r := v.2.2) hv0 rfl
  obtain ⟨g, hg⟩ : ∃ g : Nat, g = Nat.gcd (Nat.gcd v.2.2.natAbs v.1.natAbs) v.2.1.natAbs := ⟨_, rfl⟩
  rw [← hg] at gl gt
  have hlow : low (q3 v) = (v.1.tdiv g, v.2.1.tdiv g, v.2.2.tdiv g) := gl
  obtain ⟨w, hw⟩ : ∃ w, w = low (q3 v) := ⟨_, rfl⟩
  have hwl : LT (q3 v) w := by rw [hw, hlow]; exact gt
  have hwc : ∀ k : Int, 0 ≤ k → k < 3 → c3 w k = (c3 v k).tdiv g := fun k k0 k1 => by
    rw [hw, hlow]
    unfold c3
    split
    · rfl
    · split <;> rfl
  have g0 : 0 < g := by
    rw [hg]
    exact Nat.pos_of_ne_zero (fun h => by have := Nat.eq_zero_of_gcd_eq_zero_left h; have := Nat.eq_zero_of_gcd_eq_zero_left this; omega)
  have loop : ∀ (sl : Int) (d : Nat) (k : Int) (T1 : Int) (V1 : Int → Int) (F1 : Nat → Nat → Int) (A1 : Nat → Int → Int) {e8 : Option PV}, 3 - k < d → 0 ≤ k → k ≤ 3 → T ≤ T1 → T1 = T + 6 + 2 * k → (0 ≤ sl ∧ sl < T + 6) → St T1 V1 F1 A1 → V1 sl = (g : Int) → (∀ u, u < T → V1 u = V u) → (((∀ n : Int, 0 ≤ n → n < k → (c3 w n).natAbs ≤ 1000000000000000000000000) ∧ F1 0 17 = F 0 17) ∨ ((∃ n : Int, (0 ≤ n ∧ n < k) ∧ ¬ (c3 w n).natAbs ≤ 1000000000000000000000000) ∧ F1 0 17 = 1)) → (∀ n : Int, 0 ≤ n → n < k → (c3 w n).natAbs ≤ 1000000000000000000000000 → A1 10 (24 * t + 6 * (2 * i + j) + 2 * n) = (c3 w n).tdiv 1000000000000 ∧ A1 10 (24 * t + 6 * (2 * i + j) + 2 * n + 1) = (c3 w n).tmod 1000000000000) → (∀ n, n < 24 * t + 6 * (2 * i + j) ∨ 24 * t + 6 * (2 * i + j) + 6 ≤ n → A1 10 n = A 10 n) → FrK F A F1 A1 → X p l e { frames := 3, cells := 0, slots := 0, locals := 90 } s m args below meth c (MQ below (QX D ids β sh N R (pVr (fun F2 A2 => (∃ T2 V2, (T ≤ T2 ∧ T2 ≤ T + 12) ∧ St T2 V2 F2 A2 ∧ ∀ u, u < T → V2 u = V u) ∧ LT (q3 v) (low (q3 v)) ∧ ((fit (low (q3 v)) ∧ F2 0 17 = F 0 17 ∧ held (A2 10) (24 * t + 6 * (2 * i + j)) (low (q3 v))) ∨ (¬ fit (low (q3 v)) ∧ F2 0 17 = 1)) ∧ (∀ k, k < 24 * t + 6 * (2 * i + j) ∨ 24 * t + 6 * (2 * i + j) + 6 ≤ k → A2 10 k = A 10 k) ∧ FrK F A F2 A2))) args s 0 0 (inG β N)) (inG β N) D ids β sh 9 0 0 N R F1 A1 [some (rf 0), some (pI t), some (pI i), some (pI j), some (pI x), some (pI sl), some (pI (24 * t + 6 * (2 * i + j))), some (pI k), e8] [] 38 := by
    intro sl d
    induction d with
    | zero => intro k T1 V1 F1 A1 e8 hd; omega
    | succ d ih =>
      intro k T1 V1 F1 A1 e8 hd k0 k3 hT1 hT1e hs hS1 hvs hk1 hbig hmd hout hf1
      have hT2 := hS1.2.1
      have hb1 : F1 0 17 = 0 ∨ F1 0 17 = 1 := by rcases hbig with ⟨-, q⟩ | ⟨-, q⟩ <;> omega
      refine x_iload (pc2 := 40) hC rfl dX8_makes_38 rfl ?_
      refine x_iconst (pc2 := 41) hC dX8_makes_40 rfl ?_
      refine x_icmp_ge (tgt := 140) (pc2 := 44) hC (by omega) (by omega) dX8_makes_41 rfl rfl (fun h_41 => ?_) (fun h_41 => ?_)
      · exact x_vret hC hr hlk ⟨rfl, ⟨T1, V1, ⟨hT1, by omega⟩, hS1, hk1⟩, by rw [← hw]; exact hwl, by rw [← hw]; exact fin_mk w trivial (show k = 3 by omega) hbig hmd, hout, hf1⟩ dX8_makes_140
      · have hk : k < 3 := by omega
        have hvk : V1 (x + k) = c3 v k := by rw [hk1 _ (by omega)]; exact c3_tr hv k0 hk
        refine x_aload_n (pc2 := 45) hC rfl rfl dX8_makes_44 rfl ?_
        refine x_aload_n (pc2 := 46) hC rfl rfl dX8_makes_45 rfl ?_
        refine x_iload (pc2 := 48) hC rfl dX8_makes_46 rfl ?_
        refine x_iload (pc2 := 50) hC rfl dX8_makes_48 rfl ?_
        refine x_iadd (pc2 := 51) hC dX8_makes_50 rfl ?_
        refine x_iload (pc2 := 53) hC rfl dX8_makes_51 rfl ?_
        refine x_cVi (pc2 := 56) (ci := 8) hC hK (n_by l hM hS1 (by omega) (x := x + k) (y := sl) ⟨by omega, by omega⟩ ⟨hs.1, by omega⟩ (by rw [hvs]; omega)) lk_944 rfl rfl (by decide) (by assumption) (by assumption) ⟨Nat.le_of_ble_eq_true rfl, Nat.le_of_ble_eq_true rfl⟩ ⟨Nat.le_refl _, Nat.le_refl _⟩ rfl (Nat.le_of_ble_eq_true rfl) dX8_makes_53 rfl ?_
        rintro z53 F53 A53 ⟨e53, V2, hS2, v2, k2, g2⟩
        obtain rfl := e53.symm
        rw [hvk, hvs, ← hwc k k0 hk] at v2
        refine x_cVi (pc2 := 59) (ci := 8) hC hK (n_splits l hM hS2 (by omega) (x := T1 + 1) ⟨by omega, by omega⟩) lk_948 rfl rfl (by decide) (by assumption) (by assumption) ⟨Nat.le_of_ble_eq_true rfl, Nat.le_of_ble_eq_true rfl⟩ ⟨Nat.le_refl _, Nat.le_refl _⟩ rfl (Nat.le_of_ble_eq_true rfl) dX8_makes_56 rfl ?_
        rintro z56 F56 A56 ⟨y1, y2, y3, ⟨V3, hS3, k3b⟩, g3⟩
        rw [v2] at y2 y3
        replace hS3 : St (T1 + 2) V3 F56 A56 := hS3
        have e17 : F56 0 17 = F1 0 17 := (g3.2.1 17 (by decide) (by decide) (by decide)).trans (g2.2.1 17 (by decide) (by decide) (by decide))
        have e10 : A56 10 = A1 10 := (g3.a (by decide)).trans (g2.a (by decide))
        refine x_istore (pc2 := 61) (loc2 := [_, _, _, _, _, _, _, _, _]) hC (by decide) rfl dX8_makes_59 rfl ?_
        have j133 : ∀ (bv hi lo : Int), (0 ≤ bv ∧ bv ≤ 1) → (Unit → (bv ≠ 0 ↔ (F1 0 17 ≠ 0 ∨ z56 = 0))) → (z56 ≠ 0 → hi = (c3 w k).tdiv 1000000000000 ∧ lo = (c3 w k).tmod 1000000000000) → X p l e { frames := 3, cells := 0, slots := 0, locals := 90 } s m args below meth c (MQ below (QX D ids β sh N R (pVr (fun F2 A2 => (∃ T2 V2, (T ≤ T2 ∧ T2 ≤ T + 12) ∧ St T2 V2 F2 A2 ∧ ∀ u, u < T → V2 u = V u) ∧ LT (q3 v) (low (q3 v)) ∧ ((fit (low (q3 v)) ∧ F2 0 17 = F 0 17 ∧ held (A2 10) (24 * t + 6 * (2 * i + j)) (low (q3 v))) ∨ (¬ fit (low (q3 v)) ∧ F2 0 17 = 1)) ∧ (∀ k, k < 24 * t + 6 * (2 * i + j) ∨ 24 * t + 6 * (2 * i + j) + 6 ≤ k → A2 10 k = A 10 k) ∧ FrK F A F2 A2))) args s 0 0 (inG β N)) (inG β N) D ids β sh 9 0 0 N R (uF F56 0 17 bv) (uA A56 10 (24 * t + 6 * (2 * i + j) + 2 * k) hi) [some (rf 0), some (pI t), some (pI i), some (pI j), some (pI x), some (pI sl), some (pI (24 * t + 6 * (2 * i + j))), some (pI k), some (pI z56)] [pL lo, pI (24 * t + 6 * (2 * i + j) + 2 * k + 1), rf 10] 133 := by
          intro bv hi lo hb0 hb2 hhl
          refine x_last (pc2 := 134) hC hK (by assumption) (by assumption) (by omega) (by decide) dX8_makes_133 rfl ?_
          refine x_iinc (pc2 := 137) (loc2 := [_, _, _, _, _, _, _, _, _]) hC (by decide) rfl rfl dX8_makes_134 rfl ?_
          refine x_goto (pc2 := 38) hC dX8_makes_137 rfl ?_
          refine ih (k + 1) (T1 + 2) V3 _ _ (by omega) (by omega) (by omega) (by omega) (by omega) hs (hS3.F (by rw [uF_nj (by decide)]) (fun a ha => by rw [uA_ne (by omega), uA_ne (by omega)])) (by rw [k3b sl (by omega), k2 sl (by omega)]; exact hvs) (fun u hu => by rw [k3b u (by omega), k2 u (by omega)]; exact hk1 u hu) ?_ ?_ (fun n hn => ?_) (((hf1.tr g2.K).tr g3.K).tr (((FrK.f (by decide)).tr FrK.w10).tr FrK.w10))
          · rw [uF_eq]
            by_cases q : z56 = 0
            · have b1 : bv = 1 := by have := (hb2 ()).mpr (Or.inr q); omega
              exact Or.inr ⟨⟨k, ⟨k0, by omega⟩, fun y => absurd q ((y2 ()).mpr y)⟩, b1⟩
            · rcases hbig with ⟨b1, b2⟩ | ⟨⟨n, b1, b2⟩, b3⟩
              · refine Or.inl ⟨fun n n0 n1 => ?_, ?_⟩
                · by_cases y : n = k
                  · rw [y]; exact (y2 ()).mp q
                  · exact b1 n n0 (by omega)
                · by_cases y : F1 0 17 = 0
                  · have : ¬ bv ≠ 0 := fun x => by
                      rcases (hb2 ()).mp x with z | z
                      · exact z y
                      · exact q z
                    omega
                  · have := (hb2 ()).mpr (Or.inl y); omega
              · have b4 := (hb2 ()).mpr (Or.inl (show F1 0 17 ≠ 0 by omega))
                exact Or.inr ⟨⟨n, ⟨b1.1, by omega⟩, b2⟩, by omega⟩
          · intro n n0 n1 hn
            by_cases q : n = k
            · subst q
              obtain ⟨h1, h2⟩ := hhl ((y2 ()).mpr hn)
              rw [uA_ni (by omega), uA_eq, uA_eq]
              exact ⟨h1, h2⟩
            · rw [uA_ni (by omega), uA_ni (by omega), uA_ni (by omega), uA_ni (by omega), e10]
              exact hmd n n0 (by omega) hn
          · rw [uA_ni (by omega), uA_ni (by omega), e10]
            exact hout n hn
        have j106 : ∀ (bv hi : Int), (0 ≤ bv ∧ bv ≤ 1) → (Unit → (bv ≠ 0 ↔ (F1 0 17 ≠ 0 ∨ z56 = 0))) → (z56 ≠ 0 → hi = (c3 w k).tdiv 1000000000000) → X p l e { frames := 3, cells := 0, slots := 0, locals := 90 } s m args below meth c (MQ below (QX D ids β sh N R (pVr (fun F2 A2 => (∃ T2 V2, (T ≤ T2 ∧ T2 ≤ T + 12) ∧ St T2 V2 F2 A2 ∧ ∀ u, u < T → V2 u = V u) ∧ LT (q3 v) (low (q3 v)) ∧ ((fit (low (q3 v)) ∧ F2 0 17 = F 0 17 ∧ held (A2 10) (24 * t + 6 * (2 * i + j)) (low (q3 v))) ∨ (¬ fit (low (q3 v)) ∧ F2 0 17 = 1)) ∧ (∀ k, k < 24 * t + 6 * (2 * i + j) ∨ 24 * t + 6 * (2 * i + j) + 6 ≤ k → A2 10 k = A 10 k) ∧ FrK F A F2 A2))) args s 0 0 (inG β N)) (inG β N) D ids β sh 9 0 0 N R (uF F56 0 17 bv) A56 [some (rf 0), some (pI t), some (pI i), some (pI j), some (pI x), some (pI sl), some (pI (24 * t + 6 * (2 * i + j))), some (pI k), some (pI z56)] [pL hi, pI (24 * t + 6 * (2 * i + j) + 2 * k), rf 10] 106 := by
          intro bv hi hb0 hb2 hhi
          have e15 : uF F56 0 17 bv 0 15 = F56 0 15 := uF_nj (by decide)
          refine x_last (pc2 := 107) hC hK (by assumption) (by assumption) (by omega) (by decide) dX8_makes_106 rfl ?_
          refine x_aload_n (pc2 := 108) hC rfl rfl dX8_makes_107 rfl ?_
          refine g_825 (pc2 := 111) hC hK (by assumption) (by assumption) (by assumption) dX8_makes_108 rfl ?_
          refine x_iload (pc2 := 113) hC rfl dX8_makes_111 rfl ?_
          refine x_iconst (pc2 := 114) hC dX8_makes_113 rfl ?_
          refine x_iload (pc2 := 116) hC rfl dX8_makes_114 rfl ?_
          refine x_imul (pc2 := 117) hC dX8_makes_116 rfl ?_
          refine x_iadd (pc2 := 118) hC dX8_makes_117 rfl ?_
          refine x_iconst (pc2 := 119) hC dX8_makes_118 rfl ?_
          refine x_iadd (pc2 := 120) hC dX8_makes_119 rfl ?_
          refine x_iload (pc2 := 122) hC rfl dX8_makes_120 rfl ?_
          refine x_if_eq (tgt := 132) (pc2 := 125) hC (by omega) dX8_makes_122 rfl rfl (fun h_122 => ?_) (fun h_122 => ?_)
          · refine x_lconst0 (pc2 := 133) hC dX8_makes_132 rfl ?_
            exact j133 bv hi _ hb0 hb2 (fun q => absurd (by assumption) q)
          · refine x_aload_n (pc2 := 126) hC rfl rfl dX8_makes_125 rfl ?_
            refine g_824 (pc2 := 129) hC hK (by assumption) (by assumption) dX8_makes_126 rfl ?_
            refine x_goto (pc2 := 133) hC dX8_makes_129 rfl ?_
            rw [e15]
            exact j133 bv hi _ hb0 hb2 (fun q => ⟨hhi q, (y3 q).2⟩)
        have j79 : ∀ (bv : Int), (0 ≤ bv ∧ bv ≤ 1) → (Unit → (bv ≠ 0 ↔ (F1 0 17 ≠ 0 ∨ z56 = 0))) → X p l e { frames := 3, cells := 0, slots := 0, locals := 90 } s m args below meth c (MQ below (QX D ids β sh N R (pVr (fun F2 A2 => (∃ T2 V2, (T ≤ T2 ∧ T2 ≤ T + 12) ∧ St T2 V2 F2 A2 ∧ ∀ u, u < T → V2 u = V u) ∧ LT (q3 v) (low (q3 v)) ∧ ((fit (low (q3 v)) ∧ F2 0 17 = F 0 17 ∧ held (A2 10) (24 * t + 6 * (2 * i + j)) (low (q3 v))) ∨ (¬ fit (low (q3 v)) ∧ F2 0 17 = 1)) ∧ (∀ k, k < 24 * t + 6 * (2 * i + j) ∨ 24 * t + 6 * (2 * i + j) + 6 ≤ k → A2 10 k = A 10 k) ∧ FrK F A F2 A2))) args s 0 0 (inG β N)) (inG β N) D ids β sh 9 0 0 N R F56 A56 [some (rf 0), some (pI t), some (pI i), some (pI j), some (pI x), some (pI sl), some (pI (24 * t + 6 * (2 * i + j))), some (pI k), some (pI z56)] [pI bv, rf 0] 79 := by
          intro bv hb0 hb2
          have e14 : uF F56 0 17 bv 0 14 = F56 0 14 := uF_nj (by decide)
          refine p_826 (pc2 := 82) hC hK (by assumption) (by assumption) (by omega) dX8_makes_79 rfl ?_
          refine x_aload_n (pc2 := 83) hC rfl rfl dX8_makes_82 rfl ?_
          refine g_825 (pc2 := 86) hC hK (by assumption) (by assumption) (by assumption) dX8_makes_83 rfl ?_
          refine x_iload (pc2 := 88) hC rfl dX8_makes_86 rfl ?_
          refine x_iconst (pc2 := 89) hC dX8_makes_88 rfl ?_
          refine x_iload (pc2 := 91) hC rfl dX8_makes_89 rfl ?_
          refine x_imul (pc2 := 92) hC dX8_makes_91 rfl ?_
          refine x_iadd (pc2 := 93) hC dX8_makes_92 rfl ?_
          refine x_iload (pc2 := 95) hC rfl dX8_makes_93 rfl ?_
          refine x_if_eq (tgt := 105) (pc2 := 98) hC (by omega) dX8_makes_95 rfl rfl (fun h_95 => ?_) (fun h_95 => ?_)
          · refine x_lconst0 (pc2 := 106) hC dX8_makes_105 rfl ?_
            exact j106 bv _ hb0 hb2 (fun q => absurd (by assumption) q)
          · refine x_aload_n (pc2 := 99) hC rfl rfl dX8_makes_98 rfl ?_
            refine g_823 (pc2 := 102) hC hK (by assumption) (by assumption) dX8_makes_99 rfl ?_
            refine x_goto (pc2 := 106) hC dX8_makes_102 rfl ?_
            rw [e14]
            exact j106 bv _ hb0 hb2 (fun q => (y3 q).1)
        refine x_aload_n (pc2 := 62) hC rfl rfl dX8_makes_61 rfl ?_
        refine x_aload_n (pc2 := 63) hC rfl rfl dX8_makes_62 rfl ?_
        refine g_826 (pc2 := 66) hC hK (by assumption) (by assumption) dX8_makes_63 rfl ?_
        refine x_if_ne (tgt := 74) (pc2 := 69) hC (by rcases hb1 with q | q <;> rw [e17, q] <;> exact ⟨by decide, by decide⟩) dX8_makes_66 rfl rfl (fun h_66 => ?_) (fun h_66 => ?_)
        · refine x_iconst (pc2 := 75) hC dX8_makes_74 rfl ?_
          refine x_goto (pc2 := 79) hC dX8_makes_75 rfl ?_
          exact j79 1 (by decide) (fun _ => ⟨fun _ => Or.inl (by rw [← e17]; exact h_66), fun _ => by decide⟩)
        · refine x_iload (pc2 := 71) hC rfl dX8_makes_69 rfl ?_
          refine x_if_ne (tgt := 78) (pc2 := 74) hC (by omega) dX8_makes_71 rfl rfl (fun h_71 => ?_) (fun h_71 => ?_)
          · refine x_iconst (pc2 := 79) hC dX8_makes_78 rfl ?_
            exact j79 0 (by decide) (fun _ => ⟨fun q => absurd rfl q, fun q => by rcases q with q | q <;> first | exact absurd (e17.symm.trans h_66) q | exact absurd q h_71⟩)
          · refine x_iconst (pc2 := 75) hC dX8_makes_74 rfl ?_
            refine x_goto (pc2 := 79) hC dX8_makes_75 rfl ?_
            exact j79 1 (by decide) (fun _ => ⟨fun _ => Or.inr (by omega), fun _ => by decide⟩)
  refine x_aload_n (pc2 := 1) hC rfl rfl dX8_makes_0 rfl ?_
  refine x_aload_n (pc2 := 2) hC rfl rfl dX8_makes_1 rfl ?_
  refine x_iload (pc2 := 4) hC rfl dX8_makes_2 rfl ?_
  refine x_iload (pc2 := 6) hC rfl dX8_makes_4 rfl ?_
  refine x_iconst (pc2 := 7) hC dX8_makes_6 rfl ?_
  refine x_iadd (pc2 := 8) hC dX8_makes_7 rfl ?_
  refine x_cVi (pc2 := 11) (ci := 8) hC hK (n_common l hM hS (by omega) (x := x) (y := x + 1) ⟨hx.1, by omega⟩ ⟨by omega, by omega⟩) lk_923 rfl rfl (by decide) (by assumption) (by assumption) ⟨Nat.le_of_ble_eq_true rfl, Nat.le_of_ble_eq_true rfl⟩ ⟨Nat.le_refl _, Nat.le_refl _⟩ rfl (Nat.le_of_ble_eq_true rfl) dX8_makes_8 rfl ?_
  rintro z8 F8 A8 ⟨e8, V1, hS1, v1, k1, g1⟩
  refine x_iload (pc2 := 13) hC rfl dX8_makes_11 rfl ?_
  refine x_iconst (pc2 := 14) hC dX8_makes_13 rfl ?_
  refine x_iadd (pc2 := 15) hC dX8_makes_14 rfl ?_
  refine x_cVi (pc2 := 18) (ci := 8) hC hK (n_common l hM hS1 (by omega) (x := z8) (y := x + 2) ⟨by omega, by omega⟩ ⟨by omega, by omega⟩) lk_923 rfl rfl (by decide) (by assumption) (by assumption) ⟨Nat.le_of_ble_eq_true rfl, Nat.le_of_ble_eq_true rfl⟩ ⟨Nat.le_refl _, Nat.le_refl _⟩ rfl (Nat.le_of_ble_eq_true rfl) dX8_makes_15 rfl ?_
  rintro z15 F15 A15 ⟨e15, V2, hS2, v2, k2, g2⟩
  have x0 : V x = v.1 := congrArg Prod.fst hv
  have x1 : V (x + 1) = v.2.1 := congrArg (fun q => q.2.1) hv
  have x2 : V (x + 2) = v.2.2 := congrArg (fun q => q.2.2) hv
  rw [v1, k1 (x + 2) (by omega), x0, x1, x2, Int.natAbs_natCast, gcd3c, ← hg] at v2
  refine x_istore (pc2 := 20) (loc2 := [_, _, _, _, _, _, _, _, _]) hC (by decide) rfl dX8_makes_18 rfl ?_
  refine x_bipush (pc2 := 22) hC rfl dX8_makes_20 rfl ?_
  refine x_iload_n (pc2 := 23) hC rfl rfl dX8_makes_22 rfl ?_
  refine x_imul (pc2 := 24) hC dX8_makes_23 rfl ?_
  refine x_bipush (pc2 := 26) hC rfl dX8_makes_24 rfl ?_
  refine x_iconst (pc2 := 27) hC dX8_makes_26 rfl ?_
  refine x_iload_n (pc2 := 28) hC rfl rfl dX8_makes_27 rfl ?_
  refine x_imul (pc2 := 29) hC dX8_makes_28 rfl ?_
  refine x_iload_n (pc2 := 30) hC rfl rfl dX8_makes_29 rfl ?_
  refine x_iadd (pc2 := 31) hC dX8_makes_30 rfl ?_
  refine x_imul (pc2 := 32) hC dX8_makes_31 rfl ?_
  refine x_iadd (pc2 := 33) hC dX8_makes_32 rfl ?_
  refine x_istore (pc2 := 35) (loc2 := [_, _, _, _, _, _, _, _, _]) hC (by decide) rfl dX8_makes_33 rfl ?_
  refine x_iconst (pc2 := 36) hC dX8_makes_35 rfl ?_
  refine x_istore (pc2 := 38) (loc2 := [_, _, _, _, _, _, _, _, _]) hC (by decide) rfl dX8_makes_36 rfl ?_
  have g := g1.tr g2
  exact loop z15 4 0 (T + 6) V2 F15 A15 (by omega) (by decide) (by decide) (by omega) (by omega) ⟨by omega, by omega⟩ (by rw [show T + 6 = T + 3 + 3 by omega]; exact hS2) v2 (fun u hu => (k2 u (by omega)).trans (k1 u hu)) (Or.inl ⟨fun n a b => by omega, g.2.1 17 (by decide) (by decide) (by decide)⟩) (fun n a b => by omega) (fun n _ => by rw [g.a (by decide)]) g.K
