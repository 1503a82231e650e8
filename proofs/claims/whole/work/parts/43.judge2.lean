def numN (f : Int → Int) (i : Int) (k : Nat) : QR := num f (i + (k : Int) * 9)
theorem lackI_bd {x y : QR} (hx : bdq 25 x) (hy : bdq 25 y) : bd 103 (lackI x y) := by
  have e : lackI x y = (x.2.1 * x.2.1) * (y.2.1 * y.2.1) + -1 * (nrm x.1 * (y.2.1 * y.2.1)) + -1 * (nrm y.1 * (x.2.1 * x.2.1)) := by unfold lackI; omega
  rw [e]
  have a := bd_mul (c := 50) hx.2.1 hx.2.1 (by decide)
  have b := bd_mul (c := 50) hy.2.1 hy.2.1 (by decide)
  exact bd_add2 (a := 102) (b := 101) (Or.inr rfl) (bd_add2 (a := 100) (b := 101) (Or.inr rfl) (bd_mul a b (by decide)) (bd_mul (a := 51) (nrm_bd hx.1 (by decide)) b (by decide)) (by decide) (by decide)) (bd_mul (a := 51) (nrm_bd hy.1 (by decide)) a (by decide)) (by decide) (by decide)
theorem jur_k : ∀ k < 4, 304 + 11 * k ∈ JuR := by decide
theorem sgc_cs (a b : Int) : (sgc a b < 0 ∧ a < b) ∨ (0 ≤ sgc a b ∧ b ≤ a) := by
  unfold sgc
  split
  · omega
  · split <;> omega
theorem dX2_measure_0 : decode cX2_measure 0 = .ok (.iconst 0, 1) := by decide +kernel
theorem dX2_measure_1 : decode cX2_measure 1 = .ok (.istore 4, 2) := by decide +kernel
theorem dX2_measure_3 : decode cX2_measure 3 = .ok (.iload 4, 2) := by decide +kernel
theorem dX2_measure_5 : decode cX2_measure 5 = .ok (.iconst 4, 1) := by decide +kernel
theorem dX2_measure_6 : decode cX2_measure 6 = .ok (.if_icmp .ge 27, 3) := by decide +kernel
theorem dX2_measure_9 : decode cX2_measure 9 = .ok (.aload_n 0, 1) := by decide +kernel
theorem dX2_measure_10 : decode cX2_measure 10 = .ok (.getfield 23, 3) := by decide +kernel
theorem dX2_measure_13 : decode cX2_measure 13 = .ok (.iload 4, 2) := by decide +kernel
theorem dX2_measure_15 : decode cX2_measure 15 = .ok (.aaload, 1) := by decide +kernel
theorem dX2_measure_16 : decode cX2_measure 16 = .ok (.aload_n 1, 1) := by decide +kernel
theorem dX2_measure_17 : decode cX2_measure 17 = .ok (.iload_n 2, 1) := by decide +kernel
theorem dX2_measure_18 : decode cX2_measure 18 = .ok (.iload 4, 2) := by decide +kernel
theorem dX2_measure_20 : decode cX2_measure 20 = .ok (.bipush 9, 2) := by decide +kernel
theorem dX2_measure_22 : decode cX2_measure 22 = .ok (.imul, 1) := by decide +kernel
theorem dX2_measure_23 : decode cX2_measure 23 = .ok (.iadd, 1) := by decide +kernel
theorem dX2_measure_24 : decode cX2_measure 24 = .ok (.invokevirtual 70, 3) := by decide +kernel
theorem dX2_measure_27 : decode cX2_measure 27 = .ok (.iinc 4 1, 3) := by decide +kernel
theorem dX2_measure_30 : decode cX2_measure 30 = .ok (.goto (-27), 3) := by decide +kernel
theorem dX2_measure_33 : decode cX2_measure 33 = .ok (.aload_n 0, 1) := by decide +kernel
theorem dX2_measure_34 : decode cX2_measure 34 = .ok (.aload_n 0, 1) := by decide +kernel
theorem dX2_measure_35 : decode cX2_measure 35 = .ok (.getfield 23, 3) := by decide +kernel
theorem dX2_measure_38 : decode cX2_measure 38 = .ok (.iconst 0, 1) := by decide +kernel
theorem dX2_measure_39 : decode cX2_measure 39 = .ok (.aaload, 1) := by decide +kernel
theorem dX2_measure_40 : decode cX2_measure 40 = .ok (.aload_n 0, 1) := by decide +kernel
theorem dX2_measure_41 : decode cX2_measure 41 = .ok (.getfield 23, 3) := by decide +kernel
theorem dX2_measure_44 : decode cX2_measure 44 = .ok (.iconst 2, 1) := by decide +kernel
theorem dX2_measure_45 : decode cX2_measure 45 = .ok (.aaload, 1) := by decide +kernel
theorem dX2_measure_46 : decode cX2_measure 46 = .ok (.invokevirtual 74, 3) := by decide +kernel
theorem dX2_measure_49 : decode cX2_measure 49 = .ok (.aload_n 0, 1) := by decide +kernel
theorem dX2_measure_50 : decode cX2_measure 50 = .ok (.aload_n 0, 1) := by decide +kernel
theorem dX2_measure_51 : decode cX2_measure 51 = .ok (.getfield 58, 3) := by decide +kernel
theorem dX2_measure_54 : decode cX2_measure 54 = .ok (.invokevirtual 96, 3) := by decide +kernel
theorem dX2_measure_57 : decode cX2_measure 57 = .ok (.aload_n 0, 1) := by decide +kernel
theorem dX2_measure_58 : decode cX2_measure 58 = .ok (.getfield 61, 3) := by decide +kernel
theorem dX2_measure_61 : decode cX2_measure 61 = .ok (.invokevirtual 99, 3) := by decide +kernel
theorem dX2_measure_64 : decode cX2_measure 64 = .ok (.aload_n 0, 1) := by decide +kernel
theorem dX2_measure_65 : decode cX2_measure 65 = .ok (.getfield 67, 3) := by decide +kernel
theorem dX2_measure_68 : decode cX2_measure 68 = .ok (.invokevirtual 99, 3) := by decide +kernel
theorem dX2_measure_71 : decode cX2_measure 71 = .ok (.iload_n 3, 1) := by decide +kernel
theorem dX2_measure_72 : decode cX2_measure 72 = .ok (.iconst 2, 1) := by decide +kernel
theorem dX2_measure_73 : decode cX2_measure 73 = .ok (.if_icmp .ne 31, 3) := by decide +kernel
theorem dX2_measure_76 : decode cX2_measure 76 = .ok (.aload_n 0, 1) := by decide +kernel
theorem dX2_measure_77 : decode cX2_measure 77 = .ok (.aload_n 0, 1) := by decide +kernel
theorem dX2_measure_78 : decode cX2_measure 78 = .ok (.getfield 23, 3) := by decide +kernel
theorem dX2_measure_81 : decode cX2_measure 81 = .ok (.iconst 1, 1) := by decide +kernel
theorem dX2_measure_82 : decode cX2_measure 82 = .ok (.aaload, 1) := by decide +kernel
theorem dX2_measure_83 : decode cX2_measure 83 = .ok (.aload_n 0, 1) := by decide +kernel
theorem dX2_measure_84 : decode cX2_measure 84 = .ok (.getfield 23, 3) := by decide +kernel
theorem dX2_measure_87 : decode cX2_measure 87 = .ok (.iconst 3, 1) := by decide +kernel
theorem dX2_measure_88 : decode cX2_measure 88 = .ok (.aaload, 1) := by decide +kernel
theorem dX2_measure_89 : decode cX2_measure 89 = .ok (.invokevirtual 74, 3) := by decide +kernel
theorem dX2_measure_92 : decode cX2_measure 92 = .ok (.aload_n 0, 1) := by decide +kernel
theorem dX2_measure_93 : decode cX2_measure 93 = .ok (.aload_n 0, 1) := by decide +kernel
theorem dX2_measure_94 : decode cX2_measure 94 = .ok (.getfield 61, 3) := by decide +kernel
theorem dX2_measure_97 : decode cX2_measure 97 = .ok (.invokevirtual 96, 3) := by decide +kernel
theorem dX2_measure_100 : decode cX2_measure 100 = .ok (.aload_n 0, 1) := by decide +kernel
theorem dX2_measure_101 : decode cX2_measure 101 = .ok (.invokevirtual 102, 3) := by decide +kernel
theorem dX2_measure_104 : decode cX2_measure 104 = .ok (.aload_n 0, 1) := by decide +kernel
theorem dX2_measure_105 : decode cX2_measure 105 = .ok (.getfield 64, 3) := by decide +kernel
theorem dX2_measure_108 : decode cX2_measure 108 = .ok (.aload_n 0, 1) := by decide +kernel
theorem dX2_measure_109 : decode cX2_measure 109 = .ok (.getfield 58, 3) := by decide +kernel
theorem dX2_measure_112 : decode cX2_measure 112 = .ok (.aload_n 0, 1) := by decide +kernel
theorem dX2_measure_113 : decode cX2_measure 113 = .ok (.getfield 61, 3) := by decide +kernel
theorem dX2_measure_116 : decode cX2_measure 116 = .ok (.invokevirtual 86, 3) := by decide +kernel
theorem dX2_measure_119 : decode cX2_measure 119 = .ok (.return_, 1) := by decide +kernel
set_option maxHeartbeats 16000000 in
theorem m_measure (l : Launch) {D : va_G} {ids : Nat → ClassId} {β : Nat} {sh : Nat → Nat × Nat} {N : Nat} {R : Nat → Nat → Option Nat} {F : Nat → Nat → Int} {A : Nat → Int → Int} {V : Nat → Int} {i pt : Int} (hJ : JuL sh R N) (hS : ST sh R N F A V) (hc : 2 < N) (hcs : sh 2 = (1, 2304)) (hi : 0 ≤ i ∧ i + 36 ≤ 2304) (hT : ∀ k : Nat, k < 4 → triOK (A 2) (i + (k : Int) * 9) ∧ triOK (A 2) (i + (k : Int) * 9 + 3) ∧ triOK (A 2) (i + (k : Int) * 9 + 6)) (hB : ∀ k < 4, bdq 25 (numN (A 2) i k)) (hp : pt = 1 ∨ pt = 2) : MetX l yX2_measure cX2_measure 5 none 5 129 D ids β sh N R F A [rf 295, rf 2, pI i, pI pt] (pVr (fun F2 A2 => ∃ V2, SQ sh R N F A V2 F2 A2 ∧ V2 378 = lackI (numN (A 2) i 0) (numN (A 2) i 2) ∧ V2 380 = (if pt = 2 then lackI (numN (A 2) i 1) (numN (A 2) i 3) else 0) ∧ V2 384 = (if pt = 2 then nrm (crsC (numN (A 2) i)) else 0) ∧ V2 382 = V2 378 * V2 380 ∧ ∀ u, u < 296 → V2 u = V u)) := by
  refine MetX.of (loc := [_, _, _, _, _]) (plainFor_of_name (by decide +kernel)) (Nat.le_of_ble_eq_true rfl) rfl ?_
  intro p e s m args below meth c hC hK hr hlk
  obtain ⟨⟨j1, j2⟩, ⟨f0, f1, f2, f3, f4, f5, f6, f7, f8, f9, f10, f11, f12, f13⟩, ⟨j3, j4⟩, j5, hJR, hJG, hJW, hsp, hsg⟩ := id hJ
  have w370 := hJW 370 (by decide)
  have wN370 : 370 < N := by have := w370.1; omega
  have wS370 := w370.2.1
  have w372 := hJW 372 (by decide)
  have wN372 : 372 < N := by have := w372.1; omega
  have wS372 := w372.2.1
  have w374 := hJW 374 (by decide)
  have wN374 : 374 < N := by have := w374.1; omega
  have wS374 := w374.2.1
  have w376 := hJW 376 (by decide)
  have wN376 : 376 < N := by have := w376.1; omega
  have wS376 := w376.2.1
  have w378 := hJW 378 (by decide)
  have wN378 : 378 < N := by have := w378.1; omega
  have wS378 := w378.2.1
  have w380 := hJW 380 (by decide)
  have wN380 : 380 < N := by have := w380.1; omega
  have wS380 := w380.2.1
  have w382 := hJW 382 (by decide)
  have wN382 : 382 < N := by have := w382.1; omega
  have wS382 := w382.2.1
  have w384 := hJW 384 (by decide)
  have wN384 : 384 < N := by have := w384.1; omega
  have wS384 := w384.2.1
  have n2 : sh 2 ≠ (1, 80) := by rw [hcs]; decide
  have q304 := hJR 304 (by decide)
  have q304N := q304.1
  have q304S := q304.2.1
  have q315 := hJR 315 (by decide)
  have q315N := q315.1
  have q315S := q315.2.1
  have q326 := hJR 326 (by decide)
  have q326N := q326.1
  have q326S := q326.2.1
  have q337 := hJR 337 (by decide)
  have q337N := q337.1
  have q337S := q337.2.1
  have fin : ∀ (F1 : Nat → Nat → Int) (A1 : Nat → Int → Int) (V1 : Nat → Int), SQ sh R N F A V1 F1 A1 → V1 378 = lackI (numN (A 2) i 0) (numN (A 2) i 2) → V1 380 = (if pt = 2 then lackI (numN (A 2) i 1) (numN (A 2) i 3) else 0) → V1 384 = (if pt = 2 then nrm (crsC (numN (A 2) i)) else 0) → (∀ u, u < 296 → V1 u = V u) → X p l e { frames := 5, cells := 0, slots := 0, locals := 129 } s m args below meth c (MQ below (QX D ids β sh N R (pVr (fun F2 A2 => ∃ V2, SQ sh R N F A V2 F2 A2 ∧ V2 378 = lackI (numN (A 2) i 0) (numN (A 2) i 2) ∧ V2 380 = (if pt = 2 then lackI (numN (A 2) i 1) (numN (A 2) i 3) else 0) ∧ V2 384 = (if pt = 2 then nrm (crsC (numN (A 2) i)) else 0) ∧ V2 382 = V2 378 * V2 380 ∧ ∀ u, u < 296 → V2 u = V u))) args s 0 0 (inG β N)) (inG β N) D ids β sh 5 0 0 N R F1 A1 [some (rf 295), some (rf 2), some (pI i), some (pI pt), some (pI ((4 : Nat) : Int))] [] 104 := by
    intro F1 A1 V1 ⟨S1, g1⟩ v1 v2 v3 k1
    have bA : bd 103 (V1 378) := by rw [v1]; exact lackI_bd (hB 0 (by decide)) (hB 2 (by decide))
    have bB : bd 103 (V1 380) := by
      rw [v2]
      split
      · exact lackI_bd (hB 1 (by decide)) (hB 3 (by decide))
      · exact bd_0
    refine x_aload_n (pc2 := 105) hC rfl rfl dX2_measure_104 rfl ?_
    refine g_338 (pc2 := 108) hC hK (by assumption) (by assumption) (by assumption) dX2_measure_105 rfl ?_
    refine x_aload_n (pc2 := 109) hC rfl rfl dX2_measure_108 rfl ?_
    refine g_336 (pc2 := 112) hC hK (by assumption) (by assumption) (by assumption) dX2_measure_109 rfl ?_
    refine x_aload_n (pc2 := 113) hC rfl rfl dX2_measure_112 rfl ?_
    refine g_337 (pc2 := 116) hC hK (by assumption) (by assumption) (by assumption) dX2_measure_113 rfl ?_
    refine x_cVv (pc2 := 119) (ci := 6) hC hK (s_product l S1 w382 w378 w380 (by decide) (by decide) bA bB (by decide)) lk_752 rfl rfl (by decide) (by assumption) (by assumption) ⟨Nat.le_of_ble_eq_true rfl, Nat.le_of_ble_eq_true rfl⟩ ⟨Nat.le_refl _, Nat.le_refl _⟩ rfl (Nat.le_of_ble_eq_true rfl) dX2_measure_116 rfl ?_
    rintro F2 A2 ⟨S2, g2⟩
    exact x_vret hC hr hlk ⟨rfl, _, ⟨S2, g1.tr g2⟩, by rw [upV_ne (by decide)]; exact v1, by rw [upV_ne (by decide)]; exact v2, by rw [upV_ne (by decide)]; exact v3, by rw [upV_eq, upV_ne (by decide), upV_ne (by decide)], fun u hu => by rw [upV_ne (by omega)]; exact k1 u hu⟩ dX2_measure_119
  have mid : ∀ (F1 : Nat → Nat → Int) (A1 : Nat → Int → Int) (V1 : Nat → Int), SQ sh R N F A V1 F1 A1 → (∀ j < 4, rg V1 (304 + 11 * j) = numN (A 2) i j) → (∀ u, u < 296 → V1 u = V u) → X p l e { frames := 5, cells := 0, slots := 0, locals := 129 } s m args below meth c (MQ below (QX D ids β sh N R (pVr (fun F2 A2 => ∃ V2, SQ sh R N F A V2 F2 A2 ∧ V2 378 = lackI (numN (A 2) i 0) (numN (A 2) i 2) ∧ V2 380 = (if pt = 2 then lackI (numN (A 2) i 1) (numN (A 2) i 3) else 0) ∧ V2 384 = (if pt = 2 then nrm (crsC (numN (A 2) i)) else 0) ∧ V2 382 = V2 378 * V2 380 ∧ ∀ u, u < 296 → V2 u = V u))) args s 0 0 (inG β N)) (inG β N) D ids β sh 5 0 0 N R F1 A1 [some (rf 295), some (rf 2), some (pI i), some (pI pt), some (pI ((4 : Nat) : Int))] [] 33 := by
    intro F1 A1 V1 ⟨S1, g1⟩ hv k1
    have x0 := hv 0 (by decide)
    have x1 := hv 1 (by decide)
    have x2 := hv 2 (by decide)
    have x3 := hv 3 (by decide)
    have u1 : ∀ k < 4, V1 (304 + 11 * k + 6 + 1) = (numN (A 2) i k).2.1 := fun k hk => congrArg (fun q => q.2.1) (hv k hk)
    have o1 : ∀ k < 4, cx V1 (304 + 11 * k + 1) = (numN (A 2) i k).1 := fun k hk => congrArg (fun q => q.1) (hv k hk)
    have bU : ∀ k < 4, bd 50 ((numN (A 2) i k).2.1 * (numN (A 2) i k).2.1) := fun k hk => bd_mul (hB k hk).2.1 (hB k hk).2.1 (by decide)
    have bO : ∀ k < 4, bd 51 (nrm (numN (A 2) i k).1) := fun k hk => nrm_bd (hB k hk).1 (by decide)
    refine x_aload_n (pc2 := 34) hC rfl rfl dX2_measure_33 rfl ?_
    refine x_aload_n (pc2 := 35) hC rfl rfl dX2_measure_34 rfl ?_
    refine g_326 (pc2 := 38) hC hK (by assumption) (by assumption) (by assumption) dX2_measure_35 rfl ?_
    refine x_iconst (pc2 := 39) hC dX2_measure_38 rfl ?_
    refine x_aald (pc2 := 40) hC hK j3 j4 (by omega) (by decide) (j5 0 (by decide)) dX2_measure_39 rfl ?_
    refine x_aload_n (pc2 := 41) hC rfl rfl dX2_measure_40 rfl ?_
    refine g_326 (pc2 := 44) hC hK (by assumption) (by assumption) (by assumption) dX2_measure_41 rfl ?_
    refine x_iconst (pc2 := 45) hC dX2_measure_44 rfl ?_
    refine x_aald (pc2 := 46) hC hK j3 j4 (by omega) (by decide) (j5 2 (by decide)) dX2_measure_45 rfl ?_
    refine x_cVv (pc2 := 49) (ci := 2) hC hK (m_setSizes l hJ S1 (x := 304) (y := 326) (by decide) (by decide) (by rw [x0]; exact hB 0 (by decide)) (by rw [x2]; exact hB 2 (by decide))) lk_748 rfl rfl (by decide) (by assumption) (by assumption) ⟨Nat.le_of_ble_eq_true rfl, Nat.le_of_ble_eq_true rfl⟩ ⟨Nat.le_refl _, Nat.le_refl _⟩ rfl (Nat.le_of_ble_eq_true rfl) dX2_measure_46 rfl ?_
    rintro F2 A2 ⟨V2, ⟨S2, g2⟩, a2, b2, c2, d2, k2⟩
    replace a2 : V2 374 = (numN (A 2) i 0).2.1 * (numN (A 2) i 0).2.1 := a2.trans (by rw [u1 0 (by decide)])
    replace b2 : V2 376 = (numN (A 2) i 2).2.1 * (numN (A 2) i 2).2.1 := b2.trans (by rw [u1 2 (by decide)])
    replace c2 : V2 370 = nrm (numN (A 2) i 0).1 * ((numN (A 2) i 2).2.1 * (numN (A 2) i 2).2.1) := c2.trans (by rw [u1 2 (by decide), o1 0 (by decide)])
    replace d2 : V2 372 = nrm (numN (A 2) i 2).1 * ((numN (A 2) i 0).2.1 * (numN (A 2) i 0).2.1) := d2.trans (by rw [u1 0 (by decide), o1 2 (by decide)])
    refine x_aload_n (pc2 := 50) hC rfl rfl dX2_measure_49 rfl ?_
    refine x_aload_n (pc2 := 51) hC rfl rfl dX2_measure_50 rfl ?_
    refine g_336 (pc2 := 54) hC hK (by assumption) (by assumption) (by assumption) dX2_measure_51 rfl ?_
    refine x_cVv (pc2 := 57) (ci := 2) hC hK (m_setLack l hJ S2 (into := 378) (by decide) (by rw [a2]; exact bU 0 (by decide)) (by rw [b2]; exact bU 2 (by decide)) (by rw [c2]; exact bd_mul (bO 0 (by decide)) (bU 2 (by decide)) (by decide)) (by rw [d2]; exact bd_mul (bO 2 (by decide)) (bU 0 (by decide)) (by decide))) lk_754 rfl rfl (by decide) (by assumption) (by assumption) ⟨Nat.le_of_ble_eq_true rfl, Nat.le_of_ble_eq_true rfl⟩ ⟨Nat.le_refl _, Nat.le_refl _⟩ rfl (Nat.le_of_ble_eq_true rfl) dX2_measure_54 rfl ?_
    rintro F3 A3 ⟨S3, g3⟩
    rw [a2, b2, c2, d2] at S3
    replace S3 : ST sh R N F3 A3 (upV V2 378 (lackI (numN (A 2) i 0) (numN (A 2) i 2))) := S3
    refine x_aload_n (pc2 := 58) hC rfl rfl dX2_measure_57 rfl ?_
    refine g_337 (pc2 := 61) hC hK (by assumption) (by assumption) (by assumption) dX2_measure_58 rfl ?_
    refine x_cVv (pc2 := 64) (ci := 6) hC hK (s_clear l S3 w380) lk_759 rfl rfl (by decide) (by assumption) (by assumption) ⟨Nat.le_of_ble_eq_true rfl, Nat.le_of_ble_eq_true rfl⟩ ⟨Nat.le_refl _, Nat.le_refl _⟩ rfl (Nat.le_of_ble_eq_true rfl) dX2_measure_61 rfl ?_
    rintro F4 A4 ⟨S4, g4⟩
    refine x_aload_n (pc2 := 65) hC rfl rfl dX2_measure_64 rfl ?_
    refine g_339 (pc2 := 68) hC hK (by assumption) (by assumption) (by assumption) dX2_measure_65 rfl ?_
    refine x_cVv (pc2 := 71) (ci := 6) hC hK (s_clear l S4 w384) lk_759 rfl rfl (by decide) (by assumption) (by assumption) ⟨Nat.le_of_ble_eq_true rfl, Nat.le_of_ble_eq_true rfl⟩ ⟨Nat.le_refl _, Nat.le_refl _⟩ rfl (Nat.le_of_ble_eq_true rfl) dX2_measure_68 rfl ?_
    rintro F5 A5 ⟨S5, g5⟩
    obtain ⟨V5, e5⟩ : ∃ v, v = upV (upV (upV V2 378 (lackI (numN (A 2) i 0) (numN (A 2) i 2))) 380 0) 384 0 := ⟨_, rfl⟩
    rw [← e5] at S5
    have lo5 : ∀ u, u < 368 → u ≠ 296 → V5 u = V1 u := fun u hu hu2 => by rw [e5, upV_ne (by omega), upV_ne (by omega), upV_ne (by omega)]; exact k2 u hu2 (by omega) (by omega) (by omega) (by omega) (by omega)
    have p378 : V5 378 = lackI (numN (A 2) i 0) (numN (A 2) i 2) := by rw [e5, upV_ne (by decide), upV_ne (by decide), upV_eq]
    have p380 : V5 380 = 0 := by rw [e5, upV_ne (by decide), upV_eq]
    have p384 : V5 384 = 0 := by rw [e5, upV_eq]
    have y5 : ∀ j < 4, rg V5 (304 + 11 * j) = numN (A 2) i j := fun j hj => by
      rw [← hv j hj, rg, rg, cx, cx, cx, cx, lo5 _ (by omega) (by omega), lo5 _ (by omega) (by omega), lo5 _ (by omega) (by omega), lo5 _ (by omega) (by omega)]
    clear e5
    refine x_iload_n (pc2 := 72) hC rfl rfl dX2_measure_71 rfl ?_
    refine x_iconst (pc2 := 73) hC dX2_measure_72 rfl ?_
    refine x_icmp_ne (tgt := 104) (pc2 := 76) hC (by omega) (by omega) dX2_measure_73 rfl rfl (fun h_73 => ?_) (fun h_73 => ?_)
    · exact fin F5 A5 V5 ⟨S5, (((g1.tr g2).tr g3).tr g4).tr g5⟩ p378 (by rw [if_neg h_73]; exact p380) (by rw [if_neg h_73]; exact p384) (fun u hu => (lo5 u (by omega) (by omega)).trans (k1 u hu))
    · refine x_aload_n (pc2 := 77) hC rfl rfl dX2_measure_76 rfl ?_
      refine x_aload_n (pc2 := 78) hC rfl rfl dX2_measure_77 rfl ?_
      refine g_326 (pc2 := 81) hC hK (by assumption) (by assumption) (by assumption) dX2_measure_78 rfl ?_
      refine x_iconst (pc2 := 82) hC dX2_measure_81 rfl ?_
      refine x_aald (pc2 := 83) hC hK j3 j4 (by omega) (by decide) (j5 1 (by decide)) dX2_measure_82 rfl ?_
      refine x_aload_n (pc2 := 84) hC rfl rfl dX2_measure_83 rfl ?_
      refine g_326 (pc2 := 87) hC hK (by assumption) (by assumption) (by assumption) dX2_measure_84 rfl ?_
      refine x_iconst (pc2 := 88) hC dX2_measure_87 rfl ?_
      refine x_aald (pc2 := 89) hC hK j3 j4 (by omega) (by decide) (j5 3 (by decide)) dX2_measure_88 rfl ?_
      refine x_cVv (pc2 := 92) (ci := 2) hC hK (m_setSizes l hJ S5 (x := 315) (y := 337) (by decide) (by decide) (by rw [y5 1 (by decide)]; exact hB 1 (by decide)) (by rw [y5 3 (by decide)]; exact hB 3 (by decide))) lk_748 rfl rfl (by decide) (by assumption) (by assumption) ⟨Nat.le_of_ble_eq_true rfl, Nat.le_of_ble_eq_true rfl⟩ ⟨Nat.le_refl _, Nat.le_refl _⟩ rfl (Nat.le_of_ble_eq_true rfl) dX2_measure_89 rfl ?_
      rintro F6 A6 ⟨V6, ⟨S6, g6⟩, a6, b6, c6, d6, k6⟩
      have hv5u : ∀ k < 4, V5 (304 + 11 * k + 6 + 1) = (numN (A 2) i k).2.1 := fun k hk => congrArg (fun q => q.2.1) (y5 k hk)
      have hv5o : ∀ k < 4, cx V5 (304 + 11 * k + 1) = (numN (A 2) i k).1 := fun k hk => congrArg (fun q => q.1) (y5 k hk)
      replace a6 : V6 374 = (numN (A 2) i 1).2.1 * (numN (A 2) i 1).2.1 := a6.trans (by rw [hv5u 1 (by decide)])
      replace b6 : V6 376 = (numN (A 2) i 3).2.1 * (numN (A 2) i 3).2.1 := b6.trans (by rw [hv5u 3 (by decide)])
      replace c6 : V6 370 = nrm (numN (A 2) i 1).1 * ((numN (A 2) i 3).2.1 * (numN (A 2) i 3).2.1) := c6.trans (by rw [hv5u 3 (by decide), hv5o 1 (by decide)])
      replace d6 : V6 372 = nrm (numN (A 2) i 3).1 * ((numN (A 2) i 1).2.1 * (numN (A 2) i 1).2.1) := d6.trans (by rw [hv5u 1 (by decide), hv5o 3 (by decide)])
      refine x_aload_n (pc2 := 93) hC rfl rfl dX2_measure_92 rfl ?_
      refine x_aload_n (pc2 := 94) hC rfl rfl dX2_measure_93 rfl ?_
      refine g_337 (pc2 := 97) hC hK (by assumption) (by assumption) (by assumption) dX2_measure_94 rfl ?_
      refine x_cVv (pc2 := 100) (ci := 2) hC hK (m_setLack l hJ S6 (into := 380) (by decide) (by rw [a6]; exact bU 1 (by decide)) (by rw [b6]; exact bU 3 (by decide)) (by rw [c6]; exact bd_mul (bO 1 (by decide)) (bU 3 (by decide)) (by decide)) (by rw [d6]; exact bd_mul (bO 3 (by decide)) (bU 1 (by decide)) (by decide))) lk_754 rfl rfl (by decide) (by assumption) (by assumption) ⟨Nat.le_of_ble_eq_true rfl, Nat.le_of_ble_eq_true rfl⟩ ⟨Nat.le_refl _, Nat.le_refl _⟩ rfl (Nat.le_of_ble_eq_true rfl) dX2_measure_97 rfl ?_
      rintro F7 A7 ⟨S7, g7⟩
      rw [a6, b6, c6, d6] at S7
      replace S7 : ST sh R N F7 A7 (upV V6 380 (lackI (numN (A 2) i 1) (numN (A 2) i 3))) := S7
      have y7 : ∀ j < 4, rg (upV V6 380 (lackI (numN (A 2) i 1) (numN (A 2) i 3))) (304 + 11 * j) = numN (A 2) i j := fun j hj => by
        have k : ∀ u, u < 368 → u ≠ 296 → upV V6 380 (lackI (numN (A 2) i 1) (numN (A 2) i 3)) u = V5 u := fun u hu hu2 => by rw [upV_ne (by omega)]; exact k6 u hu2 (by omega) (by omega) (by omega) (by omega) (by omega)
        rw [← y5 j hj, rg, rg, cx, cx, cx, cx, k _ (by omega) (by omega), k _ (by omega) (by omega), k _ (by omega) (by omega), k _ (by omega) (by omega)]
      refine x_aload_n (pc2 := 101) hC rfl rfl dX2_measure_100 rfl ?_
      refine x_cVv (pc2 := 104) (ci := 2) hC hK (m_setCrossing l hJ S7 (n := numN (A 2) i) (fun k hk => ⟨y7 k hk, hB k hk⟩)) lk_760 rfl rfl (by decide) (by assumption) (by assumption) ⟨Nat.le_of_ble_eq_true rfl, Nat.le_of_ble_eq_true rfl⟩ ⟨Nat.le_refl _, Nat.le_refl _⟩ rfl (Nat.le_of_ble_eq_true rfl) dX2_measure_101 rfl ?_
      rintro F8 A8 ⟨V8, ⟨S8, g8⟩, v8, k8⟩
      have hp2 : pt = 2 := by omega
      exact fin F8 A8 V8 ⟨S8, ((((((g1.tr g2).tr g3).tr g4).tr g5).tr g6).tr g7).tr g8⟩ (by rw [k8 _ (Or.inr (Or.inl rfl)), upV_ne (by decide), k6 _ (by decide) (by decide) (by decide) (by decide) (by decide) (by decide)]; exact p378) (by rw [if_pos hp2, k8 _ (Or.inr (Or.inr rfl)), upV_eq]) (by rw [if_pos hp2]; exact v8) (fun u hu => by rw [k8 u (Or.inl hu), upV_ne (by omega), k6 u (by omega) (by omega) (by omega) (by omega) (by omega) (by omega), lo5 u (by omega) (by omega)]; exact k1 u hu)
  have loop : ∀ (d k : Nat) (F1 : Nat → Nat → Int) (A1 : Nat → Int → Int) (V1 : Nat → Int), 4 - k < d → k ≤ 4 → SQ sh R N F A V1 F1 A1 → (∀ j < k, rg V1 (304 + 11 * j) = numN (A 2) i j) → (∀ u, u < 296 → V1 u = V u) → X p l e { frames := 5, cells := 0, slots := 0, locals := 129 } s m args below meth c (MQ below (QX D ids β sh N R (pVr (fun F2 A2 => ∃ V2, SQ sh R N F A V2 F2 A2 ∧ V2 378 = lackI (numN (A 2) i 0) (numN (A 2) i 2) ∧ V2 380 = (if pt = 2 then lackI (numN (A 2) i 1) (numN (A 2) i 3) else 0) ∧ V2 384 = (if pt = 2 then nrm (crsC (numN (A 2) i)) else 0) ∧ V2 382 = V2 378 * V2 380 ∧ ∀ u, u < 296 → V2 u = V u))) args s 0 0 (inG β N)) (inG β N) D ids β sh 5 0 0 N R F1 A1 [some (rf 295), some (rf 2), some (pI i), some (pI pt), some (pI (k : Int))] [] 3 := by
    intro d
    induction d with
    | zero => intro k F1 A1 V1 hd; omega
    | succ d ih =>
      intro k F1 A1 V1 hd hk4 hq1 hv k1
      obtain ⟨S1, g1⟩ := id hq1
      have eA : A1 2 = A 2 := g1.2 2 n2
      refine x_iload (pc2 := 5) hC rfl dX2_measure_3 rfl ?_
      refine x_iconst (pc2 := 6) hC dX2_measure_5 rfl ?_
      refine x_icmp_ge (tgt := 33) (pc2 := 9) hC (by omega) (by omega) dX2_measure_6 rfl rfl (fun h_6 => ?_) (fun h_6 => ?_)
      · obtain rfl : k = 4 := by omega
        exact mid F1 A1 V1 hq1 hv k1
      · have hk : k < 4 := by omega
        have rt := hJR _ (jur_k k hk)
        have rtN := rt.1
        have rtS := rt.2.1
        have ti := hT k hk
        refine x_aload_n (pc2 := 10) hC rfl rfl dX2_measure_9 rfl ?_
        refine g_326 (pc2 := 13) hC hK (by assumption) (by assumption) (by assumption) dX2_measure_10 rfl ?_
        refine x_iload (pc2 := 15) hC rfl dX2_measure_13 rfl ?_
        refine x_aald (pc2 := 16) hC hK j3 j4 (by omega) (by decide) (j5 k hk) dX2_measure_15 rfl ?_
        refine x_aload_n (pc2 := 17) hC rfl rfl dX2_measure_16 rfl ?_
        refine x_iload_n (pc2 := 18) hC rfl rfl dX2_measure_17 rfl ?_
        refine x_iload (pc2 := 20) hC rfl dX2_measure_18 rfl ?_
        refine x_bipush (pc2 := 22) hC rfl dX2_measure_20 rfl ?_
        refine x_imul (pc2 := 23) hC dX2_measure_22 rfl ?_
        refine x_iadd (pc2 := 24) hC dX2_measure_23 rfl ?_
        refine x_cVv (pc2 := 27) (ci := 4) hC hK (m_rload l S1 rt hc hcs (by decide) (i := i + (k : Int) * 9) ⟨by omega, by omega⟩ (by decide) (by rw [eA]; exact ti.1) (by rw [eA]; exact ti.2.1) (by rw [eA]; exact ti.2.2)) lk_747 rfl rfl (by decide) (by assumption) (by assumption) ⟨Nat.le_of_ble_eq_true rfl, Nat.le_of_ble_eq_true rfl⟩ ⟨Nat.le_refl _, Nat.le_refl _⟩ rfl (Nat.le_of_ble_eq_true rfl) dX2_measure_24 rfl ?_
        rintro F2 A2 ⟨V2, ⟨S2, g2⟩, v2, v3, k2⟩
        refine x_iinc (pc2 := 30) (loc2 := [_, _, _, _, _]) hC (by decide) rfl rfl dX2_measure_27 rfl ?_
        refine x_goto (pc2 := 3) hC dX2_measure_30 rfl ?_
        refine ih (k + 1) F2 A2 V2 (by omega) (by omega) ⟨S2, g1.tr g2⟩ (fun j hj => ?_) (fun u hu => (k2 u (by omega) (by omega) (by omega) (by omega) (by omega) (by omega) (by omega)).trans (k1 u hu))
        by_cases q : j = k
        · rw [q]; rw [eA] at v2 v3; exact Prod.ext v2 v3
        · have kk : ∀ u ∈ [304 + 11 * j + 2, 304 + 11 * j + 4, 304 + 11 * j + 7, 304 + 11 * j + 9], V2 u = V1 u := fun u hu => by
            simp only [List.mem_cons, List.not_mem_nil, or_false] at hu
            exact k2 u (by omega) (by omega) (by omega) (by omega) (by omega) (by omega) (by omega)
          rw [← hv j (by omega)]
          refine Prod.ext (Prod.ext ?_ ?_) (Prod.ext ?_ ?_)
          · exact kk (304 + 11 * j + 2) (by simp)
          · exact kk (304 + 11 * j + 4) (by simp)
          · exact kk (304 + 11 * j + 7) (by simp)
          · exact kk (304 + 11 * j + 9) (by simp)
  refine x_iconst (pc2 := 1) hC dX2_measure_0 rfl ?_
  refine x_istore (pc2 := 3) (loc2 := [_, _, _, _, _]) hC (by decide) rfl dX2_measure_1 rfl ?_
  exact loop 5 0 F A V (by omega) (by omega) ⟨hS, FRm.rf⟩ (fun j hj => by omega) (fun _ _ => rfl)
theorem dX2_foundPassive_0 : decode cX2_foundPassive 0 = .ok (.aload_n 0, 1) := by decide +kernel
theorem dX2_foundPassive_1 : decode cX2_foundPassive 1 = .ok (.getfield 58, 3) := by decide +kernel
theorem dX2_foundPassive_4 : decode cX2_foundPassive 4 = .ok (.getfield 114, 3) := by decide +kernel
theorem dX2_foundPassive_7 : decode cX2_foundPassive 7 = .ok (.ifCond .lt 31, 3) := by decide +kernel
theorem dX2_foundPassive_10 : decode cX2_foundPassive 10 = .ok (.aload_n 0, 1) := by decide +kernel
theorem dX2_foundPassive_11 : decode cX2_foundPassive 11 = .ok (.getfield 61, 3) := by decide +kernel
theorem dX2_foundPassive_14 : decode cX2_foundPassive 14 = .ok (.getfield 114, 3) := by decide +kernel
theorem dX2_foundPassive_17 : decode cX2_foundPassive 17 = .ok (.ifCond .lt 21, 3) := by decide +kernel
theorem dX2_foundPassive_20 : decode cX2_foundPassive 20 = .ok (.aload_n 0, 1) := by decide +kernel
theorem dX2_foundPassive_21 : decode cX2_foundPassive 21 = .ok (.getfield 64, 3) := by decide +kernel
theorem dX2_foundPassive_24 : decode cX2_foundPassive 24 = .ok (.aload_n 0, 1) := by decide +kernel
theorem dX2_foundPassive_25 : decode cX2_foundPassive 25 = .ok (.getfield 67, 3) := by decide +kernel
theorem dX2_foundPassive_28 : decode cX2_foundPassive 28 = .ok (.invokevirtual 78, 3) := by decide +kernel
theorem dX2_foundPassive_31 : decode cX2_foundPassive 31 = .ok (.ifCond .lt 7, 3) := by decide +kernel
theorem dX2_foundPassive_34 : decode cX2_foundPassive 34 = .ok (.iconst 1, 1) := by decide +kernel
theorem dX2_foundPassive_35 : decode cX2_foundPassive 35 = .ok (.goto 4, 3) := by decide +kernel
theorem dX2_foundPassive_38 : decode cX2_foundPassive 38 = .ok (.iconst 0, 1) := by decide +kernel
theorem dX2_foundPassive_39 : decode cX2_foundPassive 39 = .ok (.ireturn, 1) := by decide +kernel
set_option maxHeartbeats 4000000 in
theorem m_foundPassive (l : Launch) {D : va_G} {ids : Nat → ClassId} {β : Nat} {sh : Nat → Nat × Nat} {N : Nat} {R : Nat → Nat → Option Nat} {F : Nat → Nat → Int} {A : Nat → Int → Int} {V : Nat → Int} (hJ : JuL sh R N) (hS : ST sh R N F A V) : MetX l yX2_foundPassive cX2_foundPassive 1 (some (.boolean)) 2 43 D ids β sh N R F A [rf 295] (pIr (sameI F A (if 0 ≤ V 378 ∧ 0 ≤ V 380 ∧ V 384 ≤ V 382 then 1 else 0))) := by
  refine MetX.of (loc := [_]) (plainFor_of_name (by decide +kernel)) (Nat.le_of_ble_eq_true rfl) rfl ?_
  intro p e s m args below meth c hC hK hr hlk
  obtain ⟨⟨j1, j2⟩, ⟨f0, f1, f2, f3, f4, f5, f6, f7, f8, f9, f10, f11, f12, f13⟩, ⟨j3, j4⟩, j5, hJR, hJG, hJW, hsp, hsg⟩ := id hJ
  have w378 := hJW 378 (by decide)
  have wN378 : 378 < N := by have := w378.1; omega
  have wS378 := w378.2.1
  have w380 := hJW 380 (by decide)
  have wN380 : 380 < N := by have := w380.1; omega
  have wS380 := w380.2.1
  have w382 := hJW 382 (by decide)
  have wN382 : 382 < N := by have := w382.1; omega
  have wS382 := w382.2.1
  have w384 := hJW 384 (by decide)
  have wN384 : 384 < N := by have := w384.1; omega
  have wS384 := w384.2.1
  have s378 := wv_pos_iff (hS _ w378).1
  have s380 := wv_pos_iff (hS _ w380).1
  have s384 := wv_pos_iff (hS _ w384).1
  rw [(hS _ w378).2] at s378
  rw [(hS _ w380).2] at s380
  rw [(hS _ w384).2] at s384
  have cs := sgc_cs (V 382) (V 384)
  have cs2 := @sgc_I (V 382) (V 384)
  refine x_aload_n (pc2 := 1) hC rfl rfl dX2_foundPassive_0 rfl ?_
  refine g_336 (pc2 := 4) hC hK (by assumption) (by assumption) (by assumption) dX2_foundPassive_1 rfl ?_
  refine g_139 (pc2 := 7) hC hK (by assumption) (by assumption) dX2_foundPassive_4 rfl ?_
  refine x_if_lt (tgt := 38) (pc2 := 10) hC (by omega) dX2_foundPassive_7 rfl rfl (fun h_7 => ?_) (fun h_7 => ?_)
  · refine x_iconst (pc2 := 39) hC dX2_foundPassive_38 rfl ?_
    exact x_zret hC (by omega) hr hlk ⟨_, rfl, by first | rw [if_pos ⟨by omega, by omega, by omega⟩] | rw [if_neg (by omega)], rfl, rfl⟩ dX2_foundPassive_39
  · refine x_aload_n (pc2 := 11) hC rfl rfl dX2_foundPassive_10 rfl ?_
    refine g_337 (pc2 := 14) hC hK (by assumption) (by assumption) (by assumption) dX2_foundPassive_11 rfl ?_
    refine g_139 (pc2 := 17) hC hK (by assumption) (by assumption) dX2_foundPassive_14 rfl ?_
    refine x_if_lt (tgt := 38) (pc2 := 20) hC (by omega) dX2_foundPassive_17 rfl rfl (fun h_17 => ?_) (fun h_17 => ?_)
    · refine x_iconst (pc2 := 39) hC dX2_foundPassive_38 rfl ?_
      exact x_zret hC (by omega) hr hlk ⟨_, rfl, by first | rw [if_pos ⟨by omega, by omega, by omega⟩] | rw [if_neg (by omega)], rfl, rfl⟩ dX2_foundPassive_39
    · refine x_aload_n (pc2 := 21) hC rfl rfl dX2_foundPassive_20 rfl ?_
      refine g_338 (pc2 := 24) hC hK (by assumption) (by assumption) (by assumption) dX2_foundPassive_21 rfl ?_
      refine x_aload_n (pc2 := 25) hC rfl rfl dX2_foundPassive_24 rfl ?_
      refine g_339 (pc2 := 28) hC hK (by assumption) (by assumption) (by assumption) dX2_foundPassive_25 rfl ?_
      refine x_cVi (pc2 := 31) (ci := 6) hC hK (s_compareWith l hS w382 w384) lk_770 rfl rfl (by decide) (by assumption) (by assumption) ⟨Nat.le_of_ble_eq_true rfl, Nat.le_of_ble_eq_true rfl⟩ ⟨Nat.le_refl _, Nat.le_refl _⟩ rfl (Nat.le_of_ble_eq_true rfl) dX2_foundPassive_28 rfl ?_
      rintro z28 F28 A28 ⟨rfl, e128, e228⟩
      obtain rfl := e128.symm
      obtain rfl := e228.symm
      refine x_if_lt (tgt := 38) (pc2 := 34) hC (by omega) dX2_foundPassive_31 rfl rfl (fun h_31 => ?_) (fun h_31 => ?_)
      · refine x_iconst (pc2 := 39) hC dX2_foundPassive_38 rfl ?_
        exact x_zret hC (by omega) hr hlk ⟨_, rfl, by first | rw [if_pos ⟨by omega, by omega, by omega⟩] | rw [if_neg (by omega)], rfl, rfl⟩ dX2_foundPassive_39
      · refine x_iconst (pc2 := 35) hC dX2_foundPassive_34 rfl ?_
        refine x_goto (pc2 := 39) hC dX2_foundPassive_35 rfl ?_
        exact x_zret hC (by omega) hr hlk ⟨_, rfl, by first | rw [if_pos ⟨by omega, by omega, by omega⟩] | rw [if_neg (by omega)], rfl, rfl⟩ dX2_foundPassive_39
theorem dX2_foundLossless_0 : decode cX2_foundLossless 0 = .ok (.aload_n 0, 1) := by decide +kernel
theorem dX2_foundLossless_1 : decode cX2_foundLossless 1 = .ok (.getfield 58, 3) := by decide +kernel
theorem dX2_foundLossless_4 : decode cX2_foundLossless 4 = .ok (.getfield 114, 3) := by decide +kernel
theorem dX2_foundLossless_7 : decode cX2_foundLossless 7 = .ok (.ifCond .ne 27, 3) := by decide +kernel
theorem dX2_foundLossless_10 : decode cX2_foundLossless 10 = .ok (.aload_n 0, 1) := by decide +kernel
theorem dX2_foundLossless_11 : decode cX2_foundLossless 11 = .ok (.getfield 61, 3) := by decide +kernel
theorem dX2_foundLossless_14 : decode cX2_foundLossless 14 = .ok (.getfield 114, 3) := by decide +kernel
theorem dX2_foundLossless_17 : decode cX2_foundLossless 17 = .ok (.ifCond .ne 17, 3) := by decide +kernel
theorem dX2_foundLossless_20 : decode cX2_foundLossless 20 = .ok (.aload_n 0, 1) := by decide +kernel
theorem dX2_foundLossless_21 : decode cX2_foundLossless 21 = .ok (.getfield 67, 3) := by decide +kernel
theorem dX2_foundLossless_24 : decode cX2_foundLossless 24 = .ok (.getfield 114, 3) := by decide +kernel
theorem dX2_foundLossless_27 : decode cX2_foundLossless 27 = .ok (.ifCond .ne 7, 3) := by decide +kernel
theorem dX2_foundLossless_30 : decode cX2_foundLossless 30 = .ok (.iconst 1, 1) := by decide +kernel
theorem dX2_foundLossless_31 : decode cX2_foundLossless 31 = .ok (.goto 4, 3) := by decide +kernel
theorem dX2_foundLossless_34 : decode cX2_foundLossless 34 = .ok (.iconst 0, 1) := by decide +kernel
theorem dX2_foundLossless_35 : decode cX2_foundLossless 35 = .ok (.ireturn, 1) := by decide +kernel
set_option maxHeartbeats 4000000 in
theorem m_foundLossless (l : Launch) {D : va_G} {ids : Nat → ClassId} {β : Nat} {sh : Nat → Nat × Nat} {N : Nat} {R : Nat → Nat → Option Nat} {F : Nat → Nat → Int} {A : Nat → Int → Int} {V : Nat → Int} (hJ : JuL sh R N) (hS : ST sh R N F A V) : MetX l yX2_foundLossless cX2_foundLossless 1 (some (.boolean)) 0 0 D ids β sh N R F A [rf 295] (pIr (sameI F A (if V 378 = 0 ∧ V 380 = 0 ∧ V 384 = 0 then 1 else 0))) := by
  refine MetX.of (loc := [_]) (plainFor_of_name (by decide +kernel)) (Nat.le_of_ble_eq_true rfl) rfl ?_
  intro p e s m args below meth c hC hK hr hlk
  obtain ⟨⟨j1, j2⟩, ⟨f0, f1, f2, f3, f4, f5, f6, f7, f8, f9, f10, f11, f12, f13⟩, ⟨j3, j4⟩, j5, hJR, hJG, hJW, hsp, hsg⟩ := id hJ
  have w378 := hJW 378 (by decide)
  have wN378 : 378 < N := by have := w378.1; omega
  have wS378 := w378.2.1
  have w380 := hJW 380 (by decide)
  have wN380 : 380 < N := by have := w380.1; omega
  have wS380 := w380.2.1
  have w382 := hJW 382 (by decide)
  have wN382 : 382 < N := by have := w382.1; omega
  have wS382 := w382.2.1
  have w384 := hJW 384 (by decide)
  have wN384 : 384 < N := by have := w384.1; omega
  have wS384 := w384.2.1
  have s378 := wv_pos_iff (hS _ w378).1
  have s380 := wv_pos_iff (hS _ w380).1
  have s384 := wv_pos_iff (hS _ w384).1
  rw [(hS _ w378).2] at s378
  rw [(hS _ w380).2] at s380
  rw [(hS _ w384).2] at s384
  have cs := sgc_cs (V 382) (V 384)
  have cs2 := @sgc_I (V 382) (V 384)
  refine x_aload_n (pc2 := 1) hC rfl rfl dX2_foundLossless_0 rfl ?_
  refine g_336 (pc2 := 4) hC hK (by assumption) (by assumption) (by assumption) dX2_foundLossless_1 rfl ?_
  refine g_139 (pc2 := 7) hC hK (by assumption) (by assumption) dX2_foundLossless_4 rfl ?_
  refine x_if_ne (tgt := 34) (pc2 := 10) hC (by omega) dX2_foundLossless_7 rfl rfl (fun h_7 => ?_) (fun h_7 => ?_)
  · refine x_iconst (pc2 := 35) hC dX2_foundLossless_34 rfl ?_
    exact x_zret hC (by omega) hr hlk ⟨_, rfl, by first | rw [if_pos ⟨by omega, by omega, by omega⟩] | rw [if_neg (by omega)], rfl, rfl⟩ dX2_foundLossless_35
  · refine x_aload_n (pc2 := 11) hC rfl rfl dX2_foundLossless_10 rfl ?_
    refine g_337 (pc2 := 14) hC hK (by assumption) (by assumption) (by assumption) dX2_foundLossless_11 rfl ?_
    refine g_139 (pc2 := 17) hC hK (by assumption) (by assumption) dX2_foundLossless_14 rfl ?_
    refine x_if_ne (tgt := 34) (pc2 := 20) hC (by omega) dX2_foundLossless_17 rfl rfl (fun h_17 => ?_) (fun h_17 => ?_)
    · refine x_iconst (pc2 := 35) hC dX2_foundLossless_34 rfl ?_
      exact x_zret hC (by omega) hr hlk ⟨_, rfl, by first | rw [if_pos ⟨by omega, by omega, by omega⟩] | rw [if_neg (by omega)], rfl, rfl⟩ dX2_foundLossless_35
    · refine x_aload_n (pc2 := 21) hC rfl rfl dX2_foundLossless_20 rfl ?_
      refine g_339 (pc2 := 24) hC hK (by assumption) (by assumption) (by assumption) dX2_foundLossless_21 rfl ?_
      refine g_139 (pc2 := 27) hC hK (by assumption) (by assumption) dX2_foundLossless_24 rfl ?_
      refine x_if_ne (tgt := 34) (pc2 := 30) hC (by omega) dX2_foundLossless_27 rfl rfl (fun h_27 => ?_) (fun h_27 => ?_)
      · refine x_iconst (pc2 := 35) hC dX2_foundLossless_34 rfl ?_
        exact x_zret hC (by omega) hr hlk ⟨_, rfl, by first | rw [if_pos ⟨by omega, by omega, by omega⟩] | rw [if_neg (by omega)], rfl, rfl⟩ dX2_foundLossless_35
      · refine x_iconst (pc2 := 31) hC dX2_foundLossless_30 rfl ?_
        refine x_goto (pc2 := 35) hC dX2_foundLossless_31 rfl ?_
        exact x_zret hC (by omega) hr hlk ⟨_, rfl, by first | rw [if_pos ⟨by omega, by omega, by omega⟩] | rw [if_neg (by omega)], rfl, rfl⟩ dX2_foundLossless_35
