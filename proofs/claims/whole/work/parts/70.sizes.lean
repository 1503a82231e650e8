theorem ok_bdt {x : T3} (h : ok3 x) : bdt 25 25 x := by
  obtain ⟨h1, h2, h3, h4, h5⟩ := h
  refine ⟨?_, ?_, ?_⟩
  · unfold bd; omega
  · unfold bd; omega
  · unfold bd; omega
def lackT (x y : T3) : T3 := tadd (tadd (1, 0, 1) (tneg (tsq x, 0, x.2.2 * x.2.2))) (tneg (tsq y, 0, y.2.2 * y.2.2))
theorem bdt_sz {a c : Nat} {x : T3} (h : bdt a c x) : bdt (a + a + 1) (c + c) (tsq x, 0, x.2.2 * x.2.2) := ⟨bd_tsq h (Nat.le_refl _), bd_0, bd_mul h.2.2 h.2.2 (Nat.le_refl _)⟩
theorem bdt_1 : bdt 1 1 ((1, 0, 1) : T3) := ⟨by unfold bd; decide, by unfold bd; decide, by unfold bd; decide⟩
theorem bdt_lack {a b c d e f : Nat} {x y : T3} (hx : bdt a c x) (hy : bdt b d y) (h1 : (max (1 + (c + c)) (a + a + 1 + 1) + 1) + (d + d) + 1 ≤ e) (h2 : b + b + 1 + (1 + (c + c)) + 1 ≤ e) (h3 : 1 + (c + c) + (d + d) ≤ f) : bdt e f (lackT x y) :=
  bdt_add (bdt_add (e := max (1 + (c + c)) (a + a + 1 + 1) + 1) (f := 1 + (c + c)) bdt_1 (bdt_neg (bdt_sz hx)) (by omega) (by omega) (Nat.le_refl _)) (bdt_neg (bdt_sz hy)) h1 h2 h3
theorem dX8_spare_0 : decode cX8_spare 0 = .ok (.aload_n 0, 1) := by decide +kernel
theorem dX8_spare_1 : decode cX8_spare 1 = .ok (.iload_n 1, 1) := by decide +kernel
theorem dX8_spare_2 : decode cX8_spare 2 = .ok (.invokevirtual 252, 3) := by decide +kernel
theorem dX8_spare_5 : decode cX8_spare 5 = .ok (.istore_n 3, 1) := by decide +kernel
theorem dX8_spare_6 : decode cX8_spare 6 = .ok (.aload_n 0, 1) := by decide +kernel
theorem dX8_spare_7 : decode cX8_spare 7 = .ok (.iload_n 3, 1) := by decide +kernel
theorem dX8_spare_8 : decode cX8_spare 8 = .ok (.aload_n 0, 1) := by decide +kernel
theorem dX8_spare_9 : decode cX8_spare 9 = .ok (.lconst 0, 1) := by decide +kernel
theorem dX8_spare_10 : decode cX8_spare 10 = .ok (.invokevirtual 89, 3) := by decide +kernel
theorem dX8_spare_13 : decode cX8_spare 13 = .ok (.iload_n 3, 1) := by decide +kernel
theorem dX8_spare_14 : decode cX8_spare 14 = .ok (.iconst 1, 1) := by decide +kernel
theorem dX8_spare_15 : decode cX8_spare 15 = .ok (.iadd, 1) := by decide +kernel
theorem dX8_spare_16 : decode cX8_spare 16 = .ok (.invokevirtual 103, 3) := by decide +kernel
theorem dX8_spare_19 : decode cX8_spare 19 = .ok (.istore 4, 2) := by decide +kernel
theorem dX8_spare_21 : decode cX8_spare 21 = .ok (.aload_n 0, 1) := by decide +kernel
theorem dX8_spare_22 : decode cX8_spare 22 = .ok (.iload_n 2, 1) := by decide +kernel
theorem dX8_spare_23 : decode cX8_spare 23 = .ok (.invokevirtual 252, 3) := by decide +kernel
theorem dX8_spare_26 : decode cX8_spare 26 = .ok (.istore 5, 2) := by decide +kernel
theorem dX8_spare_28 : decode cX8_spare 28 = .ok (.aload_n 0, 1) := by decide +kernel
theorem dX8_spare_29 : decode cX8_spare 29 = .ok (.iload 5, 2) := by decide +kernel
theorem dX8_spare_31 : decode cX8_spare 31 = .ok (.aload_n 0, 1) := by decide +kernel
theorem dX8_spare_32 : decode cX8_spare 32 = .ok (.lconst 0, 1) := by decide +kernel
theorem dX8_spare_33 : decode cX8_spare 33 = .ok (.invokevirtual 89, 3) := by decide +kernel
theorem dX8_spare_36 : decode cX8_spare 36 = .ok (.iload 5, 2) := by decide +kernel
theorem dX8_spare_38 : decode cX8_spare 38 = .ok (.iconst 1, 1) := by decide +kernel
theorem dX8_spare_39 : decode cX8_spare 39 = .ok (.iadd, 1) := by decide +kernel
theorem dX8_spare_40 : decode cX8_spare 40 = .ok (.invokevirtual 103, 3) := by decide +kernel
theorem dX8_spare_43 : decode cX8_spare 43 = .ok (.istore 6, 2) := by decide +kernel
theorem dX8_spare_45 : decode cX8_spare 45 = .ok (.aload_n 0, 1) := by decide +kernel
theorem dX8_spare_46 : decode cX8_spare 46 = .ok (.aload_n 0, 1) := by decide +kernel
theorem dX8_spare_47 : decode cX8_spare 47 = .ok (.aload_n 0, 1) := by decide +kernel
theorem dX8_spare_48 : decode cX8_spare 48 = .ok (.lconst 1, 1) := by decide +kernel
theorem dX8_spare_49 : decode cX8_spare 49 = .ok (.invokevirtual 197, 3) := by decide +kernel
theorem dX8_spare_52 : decode cX8_spare 52 = .ok (.iload 4, 2) := by decide +kernel
theorem dX8_spare_54 : decode cX8_spare 54 = .ok (.invokevirtual 203, 3) := by decide +kernel
theorem dX8_spare_57 : decode cX8_spare 57 = .ok (.iload 6, 2) := by decide +kernel
theorem dX8_spare_59 : decode cX8_spare 59 = .ok (.invokevirtual 203, 3) := by decide +kernel
theorem dX8_spare_62 : decode cX8_spare 62 = .ok (.ireturn, 1) := by decide +kernel
set_option maxHeartbeats 4000000 in
theorem t_spare (l : Launch) {D : va_G} {ids : Nat → ClassId} {β : Nat} {sh : Nat → Nat × Nat} {N : Nat} {R : Nat → Nat → Option Nat} {F : Nat → Nat → Int} {A : Nat → Int → Int} (hM : MoL sh R N) {T x y : Int} {V : Int → Int} {vx vy : T3} {na nb nc nd : Nat} (hS : St T V F A) (hx : 0 ≤ x ∧ x + 2 < T) (hy : 0 ≤ y ∧ y + 2 < T) (evx : tr V x = vx) (evy : tr V y = vy) (bvx : bdt na nc vx) (bvy : bdt nb nd vy) (hT : T < 1400) (hab : (na ≤ 60 ∧ nc ≤ 60) ∧ (nb ≤ 60 ∧ nd ≤ 60)) : MetX l yX8_spare cX8_spare 7 (some (.int)) 5 113 D ids β sh N R F A [rf 0, pI x, pI y] (pIr (Tq 53 F A T V (lackT vx vy))) := by
  refine MetX.of (loc := [_, _, _, _, _, _, _]) (plainFor_of_name (by decide +kernel)) (Nat.le_of_ble_eq_true rfl) rfl ?_
  intro p e s m args below meth c hC hK hr hlk
  obtain ⟨⟨m0, m1⟩, ⟨rx0, r2, r3, r7, r8, r9, r11, r12, r13, r16, r18⟩, ⟨m2, m3⟩, ⟨m4, m5⟩, ⟨m6, m7⟩, ⟨m8, m9⟩, ⟨m10, m11⟩, ⟨m12, m13⟩, ⟨m14, m15⟩, ⟨m16, m17⟩, ⟨m18, m19⟩, ⟨m20, m21⟩, ⟨m22, m23⟩⟩ := id hM
  have hT0 := hS.2.1
  refine x_aload_n (pc2 := 1) hC rfl rfl dX8_spare_0 rfl ?_
  refine x_iload_n (pc2 := 2) hC rfl rfl dX8_spare_1 rfl ?_
  refine x_cVi (pc2 := 5) (ci := 8) hC hK (t_size l hM hS hx evx bvx (by omega) ⟨by omega, by omega⟩) lk_1137 rfl rfl (by decide) (by assumption) (by assumption) ⟨Nat.le_of_ble_eq_true rfl, Nat.le_of_ble_eq_true rfl⟩ ⟨Nat.le_refl _, Nat.le_refl _⟩ rfl (Nat.le_of_ble_eq_true rfl) dX8_spare_2 rfl ?_
  rintro z2 F2 A2 ⟨e2, V1, hS1, va, vb, k1, g1⟩
  obtain rfl := e2.symm
  refine x_istore_n (pc2 := 6) (loc2 := [_, _, _, _, _, _, _]) hC rfl (by decide) rfl dX8_spare_5 rfl ?_
  refine x_aload_n (pc2 := 7) hC rfl rfl dX8_spare_6 rfl ?_
  refine x_iload_n (pc2 := 8) hC rfl rfl dX8_spare_7 rfl ?_
  refine x_aload_n (pc2 := 9) hC rfl rfl dX8_spare_8 rfl ?_
  refine x_lconst0 (pc2 := 10) hC dX8_spare_9 rfl ?_
  refine x_cVi (pc2 := 13) (ci := 8) hC hK (n_of l hM hS1 (by omega) (by decide)) lk_902 rfl rfl (by decide) (by assumption) (by assumption) ⟨Nat.le_of_ble_eq_true rfl, Nat.le_of_ble_eq_true rfl⟩ ⟨Nat.le_refl _, Nat.le_refl _⟩ rfl (Nat.le_of_ble_eq_true rfl) dX8_spare_10 rfl ?_
  rintro z10 F10 A10 ⟨e10, V2, hS2, v2, k2, g2⟩
  obtain rfl := e10.symm
  replace hS2 : St (T + 7) V2 F10 A10 := by rw [show T + 7 = T + 6 + 1 by omega]; exact hS2
  refine x_iload_n (pc2 := 14) hC rfl rfl dX8_spare_13 rfl ?_
  refine x_iconst (pc2 := 15) hC dX8_spare_14 rfl ?_
  refine x_iadd (pc2 := 16) hC dX8_spare_15 rfl ?_
  refine x_cVi (pc2 := 19) (ci := 8) hC hK (n_triple l hM hS2 (by omega) (x := T + 4) (y := T + 6) (w := T + 4 + 1) ⟨by omega, by omega⟩ ⟨by omega, by omega⟩ ⟨by omega, by omega⟩) lk_911 rfl rfl (by decide) (by assumption) (by assumption) ⟨Nat.le_of_ble_eq_true rfl, Nat.le_of_ble_eq_true rfl⟩ ⟨Nat.le_refl _, Nat.le_refl _⟩ rfl (Nat.le_of_ble_eq_true rfl) dX8_spare_16 rfl ?_
  rintro z16 F16 A16 ⟨e16, V3, hS3, ⟨wa, wb, wc⟩, k3, g3⟩
  obtain rfl := e16.symm
  rw [k2 _ (by omega), va] at wa
  rw [v2] at wb
  rw [k2 _ (by omega), show T + 4 + 1 = T + 5 by omega, vb] at wc
  have t1 : tr V3 (T + 7) = (tsq vx, 0, vx.2.2 * vx.2.2) := Prod.ext wa (Prod.ext wb wc)
  replace hS3 : St (T + 10) V3 F16 A16 := by rw [show T + 10 = T + 7 + 3 by omega]; exact hS3
  have kA : ∀ u, u < T → V3 u = V u := fun u hu => (k3 u (by omega)).trans ((k2 u (by omega)).trans (k1 u hu))
  refine x_istore (pc2 := 21) (loc2 := [_, _, _, _, _, _, _]) hC (by decide) rfl dX8_spare_19 rfl ?_
  refine x_aload_n (pc2 := 22) hC rfl rfl dX8_spare_21 rfl ?_
  refine x_iload_n (pc2 := 23) hC rfl rfl dX8_spare_22 rfl ?_
  refine x_cVi (pc2 := 26) (ci := 8) hC hK (t_size l hM hS3 (x := y) (vx := vy) ⟨hy.1, by omega⟩ ((tr_keep hy.2 kA).trans evy) bvy (by omega) ⟨by omega, by omega⟩) lk_1137 rfl rfl (by decide) (by assumption) (by assumption) ⟨Nat.le_of_ble_eq_true rfl, Nat.le_of_ble_eq_true rfl⟩ ⟨Nat.le_refl _, Nat.le_refl _⟩ rfl (Nat.le_of_ble_eq_true rfl) dX8_spare_23 rfl ?_
  rintro z23 F23 A23 ⟨e23, V4, hS4, vd, ve, k4, g4⟩
  obtain rfl := e23.symm
  replace hS4 : St (T + 16) V4 F23 A23 := by rw [show T + 16 = T + 10 + 6 by omega]; exact hS4
  refine x_istore (pc2 := 28) (loc2 := [_, _, _, _, _, _, _]) hC (by decide) rfl dX8_spare_26 rfl ?_
  refine x_aload_n (pc2 := 29) hC rfl rfl dX8_spare_28 rfl ?_
  refine x_iload (pc2 := 31) hC rfl dX8_spare_29 rfl ?_
  refine x_aload_n (pc2 := 32) hC rfl rfl dX8_spare_31 rfl ?_
  refine x_lconst0 (pc2 := 33) hC dX8_spare_32 rfl ?_
  refine x_cVi (pc2 := 36) (ci := 8) hC hK (n_of l hM hS4 (by omega) (by decide)) lk_902 rfl rfl (by decide) (by assumption) (by assumption) ⟨Nat.le_of_ble_eq_true rfl, Nat.le_of_ble_eq_true rfl⟩ ⟨Nat.le_refl _, Nat.le_refl _⟩ rfl (Nat.le_of_ble_eq_true rfl) dX8_spare_33 rfl ?_
  rintro z33 F33 A33 ⟨e33, V5, hS5, v5, k5, g5⟩
  obtain rfl := e33.symm
  replace hS5 : St (T + 17) V5 F33 A33 := by rw [show T + 17 = T + 16 + 1 by omega]; exact hS5
  refine x_iload (pc2 := 38) hC rfl dX8_spare_36 rfl ?_
  refine x_iconst (pc2 := 39) hC dX8_spare_38 rfl ?_
  refine x_iadd (pc2 := 40) hC dX8_spare_39 rfl ?_
  refine x_cVi (pc2 := 43) (ci := 8) hC hK (n_triple l hM hS5 (by omega) (x := T + 10 + 4) (y := T + 16) (w := T + 10 + 4 + 1) ⟨by omega, by omega⟩ ⟨by omega, by omega⟩ ⟨by omega, by omega⟩) lk_911 rfl rfl (by decide) (by assumption) (by assumption) ⟨Nat.le_of_ble_eq_true rfl, Nat.le_of_ble_eq_true rfl⟩ ⟨Nat.le_refl _, Nat.le_refl _⟩ rfl (Nat.le_of_ble_eq_true rfl) dX8_spare_40 rfl ?_
  rintro z40 F40 A40 ⟨e40, V6, hS6, ⟨wd, we, wf⟩, k6, g6⟩
  obtain rfl := e40.symm
  rw [k5 _ (by omega), vd] at wd
  rw [v5] at we
  rw [k5 _ (by omega), show T + 10 + 4 + 1 = T + 10 + 5 by omega, ve] at wf
  have t2 : tr V6 (T + 17) = (tsq vy, 0, vy.2.2 * vy.2.2) := Prod.ext wd (Prod.ext we wf)
  replace hS6 : St (T + 20) V6 F40 A40 := by rw [show T + 20 = T + 17 + 3 by omega]; exact hS6
  have t1b : tr V6 (T + 7) = (tsq vx, 0, vx.2.2 * vx.2.2) := (tr_keep (by omega) k6).trans ((tr_keep (by omega) k5).trans ((tr_keep (by omega) k4).trans t1))
  refine x_istore (pc2 := 45) (loc2 := [_, _, _, _, _, _, _]) hC (by decide) rfl dX8_spare_43 rfl ?_
  refine x_aload_n (pc2 := 46) hC rfl rfl dX8_spare_45 rfl ?_
  refine x_aload_n (pc2 := 47) hC rfl rfl dX8_spare_46 rfl ?_
  refine x_aload_n (pc2 := 48) hC rfl rfl dX8_spare_47 rfl ?_
  refine x_lconst1 (pc2 := 49) hC dX8_spare_48 rfl ?_
  refine x_cVi (pc2 := 52) (ci := 8) hC hK (t_whole l hM hS6 (by omega) (v := 1) (by decide)) lk_981 rfl rfl (by decide) (by assumption) (by assumption) ⟨Nat.le_of_ble_eq_true rfl, Nat.le_of_ble_eq_true rfl⟩ ⟨Nat.le_refl _, Nat.le_refl _⟩ rfl (Nat.le_of_ble_eq_true rfl) dX8_spare_49 rfl ?_
  rintro z49 F49 A49 ⟨e49, V7, hS7, v7, k7, g7⟩
  obtain rfl := e49.symm
  replace hS7 : St (T + 26) V7 F49 A49 := by rw [show T + 26 = T + 20 + 3 + 3 by omega]; exact hS7
  refine x_iload (pc2 := 54) hC rfl dX8_spare_52 rfl ?_
  refine x_cVi (pc2 := 57) (ci := 8) hC hK (t_sub l hM hS7 (x := T + 20 + 3) (y := T + 7) ⟨by omega, by omega⟩ ⟨by omega, by omega⟩ v7 ((tr_keep (by omega) k7).trans t1b) bdt_1 (bdt_sz bvx) (by omega) ⟨by omega, by omega, by omega⟩) lk_1012 rfl rfl (by decide) (by assumption) (by assumption) ⟨Nat.le_of_ble_eq_true rfl, Nat.le_of_ble_eq_true rfl⟩ ⟨Nat.le_refl _, Nat.le_refl _⟩ rfl (Nat.le_of_ble_eq_true rfl) dX8_spare_54 rfl ?_
  rintro z54 F54 A54 ⟨e54, V8, hS8, v8, k8, g8⟩
  obtain rfl := e54.symm
  replace hS8 : St (T + 41) V8 F54 A54 := by rw [show T + 41 = T + 26 + 12 + 3 by omega]; exact hS8
  refine x_iload (pc2 := 59) hC rfl dX8_spare_57 rfl ?_
  refine x_cVi (pc2 := 62) (ci := 8) hC hK (t_sub l hM hS8 (x := T + 26 + 12) (y := T + 17) ⟨by omega, by omega⟩ ⟨by omega, by omega⟩ v8 ((tr_keep (by omega) k8).trans ((tr_keep (by omega) k7).trans t2)) (bdt_add (e := max (1 + (nc + nc)) (na + na + 1 + 1) + 1) (f := 1 + (nc + nc)) bdt_1 (bdt_neg (bdt_sz bvx)) (by omega) (by omega) (Nat.le_refl _)) (bdt_sz bvy) (by omega) ⟨by omega, by omega, by omega⟩) lk_1012 rfl rfl (by decide) (by assumption) (by assumption) ⟨Nat.le_of_ble_eq_true rfl, Nat.le_of_ble_eq_true rfl⟩ ⟨Nat.le_refl _, Nat.le_refl _⟩ rfl (Nat.le_of_ble_eq_true rfl) dX8_spare_59 rfl ?_
  rintro z59 F59 A59 ⟨e59, V9, hS9, v9, k9, g9⟩
  obtain rfl := e59.symm
  exact x_iret hC hr hlk ⟨_, rfl, by omega, V9, by rw [show T + 53 + 3 = T + 41 + 12 + 3 by omega]; exact hS9, by rw [show T + 53 = T + 41 + 12 by omega]; exact v9, fun u hu => (k9 u (by omega)).trans ((k8 u (by omega)).trans ((k7 u (by omega)).trans ((k6 u (by omega)).trans ((k5 u (by omega)).trans ((k4 u (by omega)).trans (kA u hu)))))), ((((((((g1.tr g2).tr g3).tr g4).tr g5).tr g6).tr g7).tr g8).tr g9)⟩ dX8_spare_62
theorem dX8_stands_0 : decode cX8_stands 0 = .ok (.aload_n 0, 1) := by decide +kernel
theorem dX8_stands_1 : decode cX8_stands 1 = .ok (.iconst 0, 1) := by decide +kernel
theorem dX8_stands_2 : decode cX8_stands 2 = .ok (.putfield 52, 3) := by decide +kernel
theorem dX8_stands_5 : decode cX8_stands 5 = .ok (.aload_n 0, 1) := by decide +kernel
theorem dX8_stands_6 : decode cX8_stands 6 = .ok (.aload_n 0, 1) := by decide +kernel
theorem dX8_stands_7 : decode cX8_stands 7 = .ok (.iload_n 1, 1) := by decide +kernel
theorem dX8_stands_8 : decode cX8_stands 8 = .ok (.invokevirtual 132, 3) := by decide +kernel
theorem dX8_stands_11 : decode cX8_stands 11 = .ok (.invokevirtual 252, 3) := by decide +kernel
theorem dX8_stands_14 : decode cX8_stands 14 = .ok (.istore_n 3, 1) := by decide +kernel
theorem dX8_stands_15 : decode cX8_stands 15 = .ok (.aload_n 0, 1) := by decide +kernel
theorem dX8_stands_16 : decode cX8_stands 16 = .ok (.aload_n 0, 1) := by decide +kernel
theorem dX8_stands_17 : decode cX8_stands 17 = .ok (.iload_n 2, 1) := by decide +kernel
theorem dX8_stands_18 : decode cX8_stands 18 = .ok (.invokevirtual 132, 3) := by decide +kernel
theorem dX8_stands_21 : decode cX8_stands 21 = .ok (.invokevirtual 252, 3) := by decide +kernel
theorem dX8_stands_24 : decode cX8_stands 24 = .ok (.istore 4, 2) := by decide +kernel
theorem dX8_stands_26 : decode cX8_stands 26 = .ok (.aload_n 0, 1) := by decide +kernel
theorem dX8_stands_27 : decode cX8_stands 27 = .ok (.aload_n 0, 1) := by decide +kernel
theorem dX8_stands_28 : decode cX8_stands 28 = .ok (.iload_n 3, 1) := by decide +kernel
theorem dX8_stands_29 : decode cX8_stands 29 = .ok (.iload 4, 2) := by decide +kernel
theorem dX8_stands_31 : decode cX8_stands 31 = .ok (.iconst 1, 1) := by decide +kernel
theorem dX8_stands_32 : decode cX8_stands 32 = .ok (.iadd, 1) := by decide +kernel
theorem dX8_stands_33 : decode cX8_stands 33 = .ok (.invokevirtual 93, 3) := by decide +kernel
theorem dX8_stands_36 : decode cX8_stands 36 = .ok (.aload_n 0, 1) := by decide +kernel
theorem dX8_stands_37 : decode cX8_stands 37 = .ok (.iload 4, 2) := by decide +kernel
theorem dX8_stands_39 : decode cX8_stands 39 = .ok (.iload_n 3, 1) := by decide +kernel
theorem dX8_stands_40 : decode cX8_stands 40 = .ok (.iconst 1, 1) := by decide +kernel
theorem dX8_stands_41 : decode cX8_stands 41 = .ok (.iadd, 1) := by decide +kernel
theorem dX8_stands_42 : decode cX8_stands 42 = .ok (.invokevirtual 93, 3) := by decide +kernel
theorem dX8_stands_45 : decode cX8_stands 45 = .ok (.invokevirtual 66, 3) := by decide +kernel
theorem dX8_stands_48 : decode cX8_stands 48 = .ok (.ireturn, 1) := by decide +kernel
theorem tsq_nn (x : T3) : 0 ≤ tsq x := by have a := sq_nn x.1; have b := sq_nn x.2.1; unfold tsq; omega
set_option maxHeartbeats 4000000 in
theorem q_stands (l : Launch) {D : va_G} {ids : Nat → ClassId} {β : Nat} {sh : Nat → Nat × Nat} {N : Nat} {R : Nat → Nat → Option Nat} {F : Nat → Nat → Int} {A : Nat → Int → Int} {S : SP} (hM : MoL sh R N) (hR0 : RepM S F A) {b t en b0 t0 en0 : Int} (hb : isB S b) (ht : isT t) (he : isT en) (hb0 : isB S b0) (ht0 : isT t0) (he0 : isT en0) : MetX l yX8_stands cX8_stands 5 (some (.int)) 4 98 D ids β sh N R F A [rf 0, pI (96 * b + 24 * t + 6 * en), pI (96 * b0 + 24 * t0 + 6 * en0)] (pIr (fun z F2 A2 => z = cmpS (nm S b t en) (nm S b0 t0 en0) ∧ RepM S F2 A2)) := by
  refine MetX.of (loc := [_, _, _, _, _]) (plainFor_of_name (by decide +kernel)) (Nat.le_of_ble_eq_true rfl) rfl ?_
  intro p e s m args below meth c hC hK hr hlk
  obtain ⟨⟨m0, m1⟩, ⟨rx0, r2, r3, r7, r8, r9, r11, r12, r13, r16, r18⟩, ⟨m2, m3⟩, ⟨m4, m5⟩, ⟨m6, m7⟩, ⟨m8, m9⟩, ⟨m10, m11⟩, ⟨m12, m13⟩, ⟨m14, m15⟩, ⟨m16, m17⟩, ⟨m18, m19⟩, ⟨m20, m21⟩, ⟨m22, m23⟩⟩ := id hM
  obtain ⟨hi, b1, b2, b3, b4, b5, b6, b7, b8⟩ := id hR0
  have i1 := hi.1
  have n16 := hi.1.2
  have h1 := b6 b t en hb ht he
  have h2 := b6 b0 t0 en0 hb0 ht0 he0
  have o1 := ((hi.2.1 b hb).2 t en ht he).1
  have o2 := ((hi.2.1 b0 hb0).2 t0 en0 ht0 he0).1
  obtain ⟨x, ex⟩ : ∃ x, x = vS S b t en := ⟨_, rfl⟩
  obtain ⟨y, ey⟩ : ∃ x, x = vS S b0 t0 en0 := ⟨_, rfl⟩
  rw [← ex] at h1 o1
  rw [← ey] at h2 o2
  refine x_aload_n (pc2 := 1) hC rfl rfl dX8_stands_0 rfl ?_
  refine x_iconst (pc2 := 2) hC dX8_stands_1 rfl ?_
  refine p_819 (pc2 := 5) hC hK (by assumption) (by assumption) dX8_stands_2 rfl ?_
  refine x_aload_n (pc2 := 6) hC rfl rfl dX8_stands_5 rfl ?_
  refine x_aload_n (pc2 := 7) hC rfl rfl dX8_stands_6 rfl ?_
  refine x_iload_n (pc2 := 8) hC rfl rfl dX8_stands_7 rfl ?_
  refine x_cVi (pc2 := 11) (ci := 8) hC hK (t_loaded l hM (St.zero (F := F) (A := A)) (by decide) ⟨by omega, by omega⟩ (x := x) h1 o1.2.2) lk_992 rfl rfl (by decide) (by assumption) (by assumption) ⟨Nat.le_of_ble_eq_true rfl, Nat.le_of_ble_eq_true rfl⟩ ⟨Nat.le_refl _, Nat.le_refl _⟩ rfl (Nat.le_of_ble_eq_true rfl) dX8_stands_8 rfl ?_
  rintro z8 F8 A8 ⟨ez8, V8, hS8, v8, k8, g8⟩
  obtain rfl := ez8.symm
  replace hS8 : St 18 V8 F8 A8 := hS8
  rw [show (0 : Int) + 15 = 15 from rfl]
  obtain ⟨w8, ew8⟩ : ∃ w, w = x := ⟨_, rfl⟩
  have uw8 : tr V8 15 = w8 := by rw [ew8]; exact v8
  have bw8 : bdt 25 25 w8 := by rw [ew8]; exact (ok_bdt o1)
  clear v8
  refine x_cVi (pc2 := 14) (ci := 8) hC hK (t_size l hM hS8 (x := 15) ⟨by decide, by decide⟩ uw8 bw8 (by decide) ⟨by decide, by decide⟩) lk_1137 rfl rfl (by decide) (by assumption) (by assumption) ⟨Nat.le_of_ble_eq_true rfl, Nat.le_of_ble_eq_true rfl⟩ ⟨Nat.le_refl _, Nat.le_refl _⟩ rfl (Nat.le_of_ble_eq_true rfl) dX8_stands_11 rfl ?_
  rintro z11 F11 A11 ⟨ez11, V11, hS11, va11, vb11, k11, g11⟩
  obtain rfl := ez11.symm
  replace hS11 : St 24 V11 F11 A11 := hS11
  have t11_w8 : tr V11 15 = w8 := (tr_keep (by decide) k11).trans uw8
  rw [show (18 : Int) + 4 = 22 from rfl]
  have sa11 : V11 22 = tsq w8 := va11
  have sb11 : V11 23 = w8.2.2 * w8.2.2 := vb11
  clear va11 vb11
  refine x_istore_n (pc2 := 15) (loc2 := [_, _, _, _, _]) hC rfl (by decide) rfl dX8_stands_14 rfl ?_
  refine x_aload_n (pc2 := 16) hC rfl rfl dX8_stands_15 rfl ?_
  refine x_aload_n (pc2 := 17) hC rfl rfl dX8_stands_16 rfl ?_
  refine x_iload_n (pc2 := 18) hC rfl rfl dX8_stands_17 rfl ?_
  refine x_cVi (pc2 := 21) (ci := 8) hC hK (t_loaded l hM hS11 (by decide) ⟨by omega, by omega⟩ (x := y) (by rw [(g8.tr g11).a (by decide)]; exact h2) o2.2.2) lk_992 rfl rfl (by decide) (by assumption) (by assumption) ⟨Nat.le_of_ble_eq_true rfl, Nat.le_of_ble_eq_true rfl⟩ ⟨Nat.le_refl _, Nat.le_refl _⟩ rfl (Nat.le_of_ble_eq_true rfl) dX8_stands_18 rfl ?_
  rintro z18 F18 A18 ⟨ez18, V18, hS18, v18, k18, g18⟩
  obtain rfl := ez18.symm
  replace hS18 : St 42 V18 F18 A18 := hS18
  have t18_w8 : tr V18 15 = w8 := (tr_keep (by decide) k18).trans t11_w8
  have t18_a11 : V18 22 = tsq w8 := (k18 22 (by decide)).trans sa11
  have t18_b11 : V18 23 = w8.2.2 * w8.2.2 := (k18 23 (by decide)).trans sb11
  rw [show (24 : Int) + 15 = 39 from rfl]
  obtain ⟨w18, ew18⟩ : ∃ w, w = y := ⟨_, rfl⟩
  have uw18 : tr V18 39 = w18 := by rw [ew18]; exact v18
  have bw18 : bdt 25 25 w18 := by rw [ew18]; exact (ok_bdt o2)
  clear v18
  refine x_cVi (pc2 := 24) (ci := 8) hC hK (t_size l hM hS18 (x := 39) ⟨by decide, by decide⟩ uw18 bw18 (by decide) ⟨by decide, by decide⟩) lk_1137 rfl rfl (by decide) (by assumption) (by assumption) ⟨Nat.le_of_ble_eq_true rfl, Nat.le_of_ble_eq_true rfl⟩ ⟨Nat.le_refl _, Nat.le_refl _⟩ rfl (Nat.le_of_ble_eq_true rfl) dX8_stands_21 rfl ?_
  rintro z21 F21 A21 ⟨ez21, V21, hS21, va21, vb21, k21, g21⟩
  obtain rfl := ez21.symm
  replace hS21 : St 48 V21 F21 A21 := hS21
  have t21_w8 : tr V21 15 = w8 := (tr_keep (by decide) k21).trans t18_w8
  have t21_w18 : tr V21 39 = w18 := (tr_keep (by decide) k21).trans uw18
  have t21_a11 : V21 22 = tsq w8 := (k21 22 (by decide)).trans t18_a11
  have t21_b11 : V21 23 = w8.2.2 * w8.2.2 := (k21 23 (by decide)).trans t18_b11
  rw [show (42 : Int) + 4 = 46 from rfl]
  have sa21 : V21 46 = tsq w18 := va21
  have sb21 : V21 47 = w18.2.2 * w18.2.2 := vb21
  clear va21 vb21
  refine x_istore (pc2 := 26) (loc2 := [_, _, _, _, _]) hC (by decide) rfl dX8_stands_24 rfl ?_
  refine x_aload_n (pc2 := 27) hC rfl rfl dX8_stands_26 rfl ?_
  refine x_aload_n (pc2 := 28) hC rfl rfl dX8_stands_27 rfl ?_
  refine x_iload_n (pc2 := 29) hC rfl rfl dX8_stands_28 rfl ?_
  refine x_iload (pc2 := 31) hC rfl dX8_stands_29 rfl ?_
  refine x_iconst (pc2 := 32) hC dX8_stands_31 rfl ?_
  refine x_iadd (pc2 := 33) hC dX8_stands_32 rfl ?_
  refine x_cVi (pc2 := 36) (ci := 8) hC hK (n_times l hM hS21 (by decide) (x := 22) (y := 47) ⟨by decide, by decide⟩ ⟨by decide, by decide⟩ (a := 51) (b := 50) (by rw [t21_a11]; exact (bd_tsq bw8 (by decide))) (by rw [sb21]; exact (bd_mul bw18.2.2 bw18.2.2 (by decide))) (by decide)) lk_953 rfl rfl (by decide) (by assumption) (by assumption) ⟨Nat.le_of_ble_eq_true rfl, Nat.le_of_ble_eq_true rfl⟩ ⟨Nat.le_refl _, Nat.le_refl _⟩ rfl (Nat.le_of_ble_eq_true rfl) dX8_stands_33 rfl ?_
  rintro z33 F33 A33 ⟨ez33, V33, hS33, v33, k33, g33⟩
  obtain rfl := ez33.symm
  replace hS33 : St 49 V33 F33 A33 := hS33
  have t33_w8 : tr V33 15 = w8 := (tr_keep (by decide) k33).trans t21_w8
  have t33_w18 : tr V33 39 = w18 := (tr_keep (by decide) k33).trans t21_w18
  have t33_a11 : V33 22 = tsq w8 := (k33 22 (by decide)).trans t21_a11
  have t33_b11 : V33 23 = w8.2.2 * w8.2.2 := (k33 23 (by decide)).trans t21_b11
  have t33_a21 : V33 46 = tsq w18 := (k33 46 (by decide)).trans sa21
  have t33_b21 : V33 47 = w18.2.2 * w18.2.2 := (k33 47 (by decide)).trans sb21
  rw [t21_a11, sb21] at v33
  have m33 : V33 48 = (tsq w8) * (w18.2.2 * w18.2.2) := v33
  clear v33
  refine x_aload_n (pc2 := 37) hC rfl rfl dX8_stands_36 rfl ?_
  refine x_iload (pc2 := 39) hC rfl dX8_stands_37 rfl ?_
  refine x_iload_n (pc2 := 40) hC rfl rfl dX8_stands_39 rfl ?_
  refine x_iconst (pc2 := 41) hC dX8_stands_40 rfl ?_
  refine x_iadd (pc2 := 42) hC dX8_stands_41 rfl ?_
  refine x_cVi (pc2 := 45) (ci := 8) hC hK (n_times l hM hS33 (by decide) (x := 46) (y := 23) ⟨by decide, by decide⟩ ⟨by decide, by decide⟩ (a := 51) (b := 50) (by rw [t33_a21]; exact (bd_tsq bw18 (by decide))) (by rw [t33_b11]; exact (bd_mul bw8.2.2 bw8.2.2 (by decide))) (by decide)) lk_953 rfl rfl (by decide) (by assumption) (by assumption) ⟨Nat.le_of_ble_eq_true rfl, Nat.le_of_ble_eq_true rfl⟩ ⟨Nat.le_refl _, Nat.le_refl _⟩ rfl (Nat.le_of_ble_eq_true rfl) dX8_stands_42 rfl ?_
  rintro z42 F42 A42 ⟨ez42, V42, hS42, v42, k42, g42⟩
  obtain rfl := ez42.symm
  replace hS42 : St 50 V42 F42 A42 := hS42
  have t42_w8 : tr V42 15 = w8 := (tr_keep (by decide) k42).trans t33_w8
  have t42_w18 : tr V42 39 = w18 := (tr_keep (by decide) k42).trans t33_w18
  have t42_a11 : V42 22 = tsq w8 := (k42 22 (by decide)).trans t33_a11
  have t42_b11 : V42 23 = w8.2.2 * w8.2.2 := (k42 23 (by decide)).trans t33_b11
  have t42_a21 : V42 46 = tsq w18 := (k42 46 (by decide)).trans t33_a21
  have t42_b21 : V42 47 = w18.2.2 * w18.2.2 := (k42 47 (by decide)).trans t33_b21
  have t42_m33 : V42 48 = (tsq w8) * (w18.2.2 * w18.2.2) := (k42 48 (by decide)).trans m33
  rw [t33_a21, t33_b11] at v42
  have m42 : V42 49 = (tsq w18) * (w8.2.2 * w8.2.2) := v42
  clear v42
  refine x_cVi (pc2 := 48) (ci := 8) hC hK (n_stand l hM (x := 48) (y := 49) ⟨by decide, by decide⟩ ⟨by decide, by decide⟩ (hS42.2.2 48 (by decide) (by decide)).1 (hS42.2.2 49 (by decide) (by decide)).1) lk_931 rfl rfl (by decide) (by assumption) (by assumption) ⟨Nat.le_of_ble_eq_true rfl, Nat.le_of_ble_eq_true rfl⟩ ⟨Nat.le_refl _, Nat.le_refl _⟩ rfl (Nat.le_of_ble_eq_true rfl) dX8_stands_45 rfl ?_
  rintro z45 F45 A45 ⟨rfl, e145, e245⟩
  obtain rfl := e145.symm
  obtain rfl := e245.symm
  exact x_iret hC hr hlk ⟨_, rfl, by
      obtain ⟨k1, l1⟩ := hS42.2.2 48 (by decide) (by decide)
      obtain ⟨k2, l2⟩ := hS42.2.2 49 (by decide) (by decide)
      have x1 : mm A42 48 = tsq w8 * (w18.2.2 * w18.2.2) := by
        rw [mm_na k1, l1, t42_m33]
        exact Int.natAbs_of_nonneg (Int.mul_nonneg (tsq_nn _) (sq_nn _))
      have x2 : mm A42 49 = tsq w18 * (w8.2.2 * w8.2.2) := by
        rw [mm_na k2, l2, m42]
        exact Int.natAbs_of_nonneg (Int.mul_nonneg (tsq_nn _) (sq_nn _))
      rw [x1, x2, ew8, ew18, ex, ey]
      rfl, hR0.K ((FrK.f (by decide)).tr (((((g8.tr g11).tr g18).tr g21).tr g33).tr g42).K)⟩ dX8_stands_48
theorem dX8_against_0 : decode cX8_against 0 = .ok (.iload_n 1, 1) := by decide +kernel
theorem dX8_against_1 : decode cX8_against 1 = .ok (.i2l, 1) := by decide +kernel
theorem dX8_against_2 : decode cX8_against 2 = .ok (.lconst 0, 1) := by decide +kernel
theorem dX8_against_3 : decode cX8_against 3 = .ok (.ldc2_w 184, 3) := by decide +kernel
theorem dX8_against_6 : decode cX8_against 6 = .ok (.invokestatic 157, 3) := by decide +kernel
theorem dX8_against_9 : decode cX8_against 9 = .ok (.ifCond .eq 27, 3) := by decide +kernel
theorem dX8_against_12 : decode cX8_against 12 = .ok (.aload_n 0, 1) := by decide +kernel
theorem dX8_against_13 : decode cX8_against 13 = .ok (.iload_n 2, 1) := by decide +kernel
theorem dX8_against_14 : decode cX8_against 14 = .ok (.iload_n 3, 1) := by decide +kernel
theorem dX8_against_15 : decode cX8_against 15 = .ok (.iload 4, 2) := by decide +kernel
theorem dX8_against_17 : decode cX8_against 17 = .ok (.invokevirtual 180, 3) := by decide +kernel
theorem dX8_against_20 : decode cX8_against 20 = .ok (.ifCond .eq 16, 3) := by decide +kernel
theorem dX8_against_23 : decode cX8_against 23 = .ok (.aload_n 0, 1) := by decide +kernel
theorem dX8_against_24 : decode cX8_against 24 = .ok (.iload 5, 2) := by decide +kernel
theorem dX8_against_26 : decode cX8_against 26 = .ok (.iload 6, 2) := by decide +kernel
theorem dX8_against_28 : decode cX8_against 28 = .ok (.iload 7, 2) := by decide +kernel
theorem dX8_against_30 : decode cX8_against 30 = .ok (.invokevirtual 180, 3) := by decide +kernel
theorem dX8_against_33 : decode cX8_against 33 = .ok (.ifCond .ne 6, 3) := by decide +kernel
theorem dX8_against_36 : decode cX8_against 36 = .ok (.bipush (-9), 2) := by decide +kernel
theorem dX8_against_38 : decode cX8_against 38 = .ok (.ireturn, 1) := by decide +kernel
theorem dX8_against_39 : decode cX8_against 39 = .ok (.aload_n 0, 1) := by decide +kernel
theorem dX8_against_40 : decode cX8_against 40 = .ok (.iload_n 2, 1) := by decide +kernel
theorem dX8_against_41 : decode cX8_against 41 = .ok (.iload_n 1, 1) := by decide +kernel
theorem dX8_against_42 : decode cX8_against 42 = .ok (.iload_n 3, 1) := by decide +kernel
theorem dX8_against_43 : decode cX8_against 43 = .ok (.iload 4, 2) := by decide +kernel
theorem dX8_against_45 : decode cX8_against 45 = .ok (.invokestatic 128, 3) := by decide +kernel
theorem dX8_against_48 : decode cX8_against 48 = .ok (.iload 5, 2) := by decide +kernel
theorem dX8_against_50 : decode cX8_against 50 = .ok (.iload_n 1, 1) := by decide +kernel
theorem dX8_against_51 : decode cX8_against 51 = .ok (.iload 6, 2) := by decide +kernel
theorem dX8_against_53 : decode cX8_against 53 = .ok (.iload 7, 2) := by decide +kernel
theorem dX8_against_55 : decode cX8_against 55 = .ok (.invokestatic 128, 3) := by decide +kernel
theorem dX8_against_58 : decode cX8_against 58 = .ok (.invokevirtual 270, 3) := by decide +kernel
theorem dX8_against_61 : decode cX8_against 61 = .ok (.ireturn, 1) := by decide +kernel
set_option maxHeartbeats 4000000 in
theorem q_against (l : Launch) {D : va_G} {ids : Nat → ClassId} {β : Nat} {sh : Nat → Nat × Nat} {N : Nat} {R : Nat → Nat → Option Nat} {F : Nat → Nat → Int} {A : Nat → Int → Int} {S : SP} (hM : MoL sh R N) (hR0 : RepM S F A) {t a i j b k n : Int} (ht : I32 t) (ha : I32 a) (hi2 : I32 i) (hj : I32 j) (hb : I32 b) (hk : I32 k) (hn : I32 n) : MetX l yX8_against cX8_against 8 (some (.int)) 5 122 D ids β sh N R F A [rf 0, pI t, pI a, pI i, pI j, pI b, pI k, pI n] (pIr (fun z F2 A2 => z = oAgainst S t a i j b k n ∧ RepM S F2 A2)) := by
  refine MetX.of (loc := [_, _, _, _, _, _, _, _]) (plainFor_of_name (by decide +kernel)) (Nat.le_of_ble_eq_true rfl) rfl ?_
  intro p e s m args below meth c hC hK hr hlk
  obtain ⟨⟨m0, m1⟩, ⟨rx0, r2, r3, r7, r8, r9, r11, r12, r13, r16, r18⟩, ⟨m2, m3⟩, ⟨m4, m5⟩, ⟨m6, m7⟩, ⟨m8, m9⟩, ⟨m10, m11⟩, ⟨m12, m13⟩, ⟨m14, m15⟩, ⟨m16, m17⟩, ⟨m18, m19⟩, ⟨m20, m21⟩, ⟨m22, m23⟩⟩ := id hM
  obtain ⟨hi, b1, b2, b3, b4, b5, b6, b7, b8⟩ := id hR0
  have i1 := hi.1
  refine x_iload_n (pc2 := 1) hC rfl rfl dX8_against_0 rfl ?_
  refine x_i2l (pc2 := 2) hC ht dX8_against_1 rfl ?_
  refine x_lconst0 (pc2 := 3) hC dX8_against_2 rfl ?_
  refine x_ldc2 (pc2 := 6) (z := 3) hC wt_888 rfl dX8_against_3 rfl ?_
  refine x_cSi (pc2 := 9) hC hK (n_in l ⟨by omega, by omega⟩ ⟨by omega, by omega⟩ ⟨by omega, by omega⟩) lk_873 rfl ⟨Nat.le_of_ble_eq_true rfl, Nat.le_of_ble_eq_true rfl⟩ ⟨Nat.le_refl _, Nat.le_refl _⟩ rfl (Nat.le_of_ble_eq_true rfl) dX8_against_6 rfl ?_
  rintro z6 F6 A6 ⟨w6, b6_, e16, e26⟩
  obtain rfl := e16.symm
  obtain rfl := e26.symm
  refine x_if_eq (tgt := 36) (pc2 := 12) hC (by omega) dX8_against_9 rfl rfl (fun h_9 => ?_) (fun h_9 => ?_)
  · refine x_bipush (pc2 := 38) hC rfl dX8_against_36 rfl ?_
    exact x_iret hC hr hlk ⟨_, rfl, by rw [oAgainst, itC_neg (fun ⟨q1, q2, q3⟩ => by first | exact absurd h_9 ((b6_ ()).mpr (by omega)) | exact absurd h_20 ((b17 ()).mpr q2) | exact absurd h_33 ((b30 ()).mpr q3))], hR0⟩ dX8_against_38
  · refine x_aload_n (pc2 := 13) hC rfl rfl dX8_against_12 rfl ?_
    refine x_iload_n (pc2 := 14) hC rfl rfl dX8_against_13 rfl ?_
    refine x_iload_n (pc2 := 15) hC rfl rfl dX8_against_14 rfl ?_
    refine x_iload (pc2 := 17) hC rfl dX8_against_15 rfl ?_
    refine x_cVi (pc2 := 20) (ci := 8) hC hK (q_isPlace l hM hR0 ha hi2 hj) lk_880 rfl rfl (by decide) (by assumption) (by assumption) ⟨Nat.le_of_ble_eq_true rfl, Nat.le_of_ble_eq_true rfl⟩ ⟨Nat.le_refl _, Nat.le_refl _⟩ rfl (Nat.le_of_ble_eq_true rfl) dX8_against_17 rfl ?_
    rintro z17 F17 A17 ⟨w17, b17, e117, e217⟩
    obtain rfl := e117.symm
    obtain rfl := e217.symm
    refine x_if_eq (tgt := 36) (pc2 := 23) hC (by omega) dX8_against_20 rfl rfl (fun h_20 => ?_) (fun h_20 => ?_)
    · refine x_bipush (pc2 := 38) hC rfl dX8_against_36 rfl ?_
      exact x_iret hC hr hlk ⟨_, rfl, by rw [oAgainst, itC_neg (fun ⟨q1, q2, q3⟩ => by first | exact absurd h_9 ((b6_ ()).mpr (by omega)) | exact absurd h_20 ((b17 ()).mpr q2) | exact absurd h_33 ((b30 ()).mpr q3))], hR0⟩ dX8_against_38
    · refine x_aload_n (pc2 := 24) hC rfl rfl dX8_against_23 rfl ?_
      refine x_iload (pc2 := 26) hC rfl dX8_against_24 rfl ?_
      refine x_iload (pc2 := 28) hC rfl dX8_against_26 rfl ?_
      refine x_iload (pc2 := 30) hC rfl dX8_against_28 rfl ?_
      refine x_cVi (pc2 := 33) (ci := 8) hC hK (q_isPlace l hM hR0 hb hk hn) lk_880 rfl rfl (by decide) (by assumption) (by assumption) ⟨Nat.le_of_ble_eq_true rfl, Nat.le_of_ble_eq_true rfl⟩ ⟨Nat.le_refl _, Nat.le_refl _⟩ rfl (Nat.le_of_ble_eq_true rfl) dX8_against_30 rfl ?_
      rintro z30 F30 A30 ⟨w30, b30, e130, e230⟩
      obtain rfl := e130.symm
      obtain rfl := e230.symm
      refine x_if_ne (tgt := 39) (pc2 := 36) hC (by omega) dX8_against_33 rfl rfl (fun h_33 => ?_) (fun h_33 => ?_)
      · have hT : isT t := by have := (b6_ ()).mp h_9; omega
        have hE1 := (b17 ()).mp h_20
        have hE2 := (b30 ()).mp h_33
        have pt1 := (hi.2.1 a hE1.1).1
        have he1 : isT (2 * i + j) := by have := hE1.2; omega
        have pt2 := (hi.2.1 b hE2.1).1
        have he2 : isT (2 * k + n) := by have := hE2.2; omega
        refine x_aload_n (pc2 := 40) hC rfl rfl dX8_against_39 rfl ?_
        refine x_iload_n (pc2 := 41) hC rfl rfl dX8_against_40 rfl ?_
        refine x_iload_n (pc2 := 42) hC rfl rfl dX8_against_41 rfl ?_
        refine x_iload_n (pc2 := 43) hC rfl rfl dX8_against_42 rfl ?_
        refine x_iload (pc2 := 45) hC rfl dX8_against_43 rfl ?_
        refine x_cSi (pc2 := 48) hC hK (n_place l) lk_989 rfl ⟨Nat.le_of_ble_eq_true rfl, Nat.le_of_ble_eq_true rfl⟩ ⟨Nat.le_refl _, Nat.le_refl _⟩ rfl (Nat.le_of_ble_eq_true rfl) dX8_against_45 rfl ?_
        rintro z45 F45 A45 ⟨rfl, e145, e245⟩
        obtain rfl := e145.symm
        obtain rfl := e245.symm
        refine x_iload (pc2 := 50) hC rfl dX8_against_48 rfl ?_
        refine x_iload_n (pc2 := 51) hC rfl rfl dX8_against_50 rfl ?_
        refine x_iload (pc2 := 53) hC rfl dX8_against_51 rfl ?_
        refine x_iload (pc2 := 55) hC rfl dX8_against_53 rfl ?_
        refine x_cSi (pc2 := 58) hC hK (n_place l) lk_989 rfl ⟨Nat.le_of_ble_eq_true rfl, Nat.le_of_ble_eq_true rfl⟩ ⟨Nat.le_refl _, Nat.le_refl _⟩ rfl (Nat.le_of_ble_eq_true rfl) dX8_against_55 rfl ?_
        rintro z55 F55 A55 ⟨rfl, e155, e255⟩
        obtain rfl := e155.symm
        obtain rfl := e255.symm
        refine x_cVi (pc2 := 61) (ci := 8) hC hK (q_stands l hM hR0 hE1.1 hT he1 hE2.1 hT he2) lk_1158 rfl rfl (by decide) (by assumption) (by assumption) ⟨Nat.le_of_ble_eq_true rfl, Nat.le_of_ble_eq_true rfl⟩ ⟨Nat.le_refl _, Nat.le_refl _⟩ rfl (Nat.le_of_ble_eq_true rfl) dX8_against_58 rfl ?_
        rintro z58 F58 A58 ⟨e58, hR58⟩
        exact x_iret hC hr hlk ⟨_, rfl, by rw [oAgainst, itC_pos ⟨hT, hE1, hE2⟩]; exact e58, hR58⟩ dX8_against_61
      · refine x_bipush (pc2 := 38) hC rfl dX8_against_36 rfl ?_
        exact x_iret hC hr hlk ⟨_, rfl, by rw [oAgainst, itC_neg (fun ⟨q1, q2, q3⟩ => by first | exact absurd h_9 ((b6_ ()).mpr (by omega)) | exact absurd h_20 ((b17 ()).mpr q2) | exact absurd h_33 ((b30 ()).mpr q3))], hR0⟩ dX8_against_38
theorem dX8_worst_0 : decode cX8_worst 0 = .ok (.aload_n 0, 1) := by decide +kernel
theorem dX8_worst_1 : decode cX8_worst 1 = .ok (.iload_n 1, 1) := by decide +kernel
theorem dX8_worst_2 : decode cX8_worst 2 = .ok (.iload_n 2, 1) := by decide +kernel
theorem dX8_worst_3 : decode cX8_worst 3 = .ok (.iload_n 3, 1) := by decide +kernel
theorem dX8_worst_4 : decode cX8_worst 4 = .ok (.invokevirtual 180, 3) := by decide +kernel
theorem dX8_worst_7 : decode cX8_worst 7 = .ok (.ifCond .ne 5, 3) := by decide +kernel
theorem dX8_worst_10 : decode cX8_worst 10 = .ok (.iconst (-1), 1) := by decide +kernel
theorem dX8_worst_11 : decode cX8_worst 11 = .ok (.ireturn, 1) := by decide +kernel
theorem dX8_worst_12 : decode cX8_worst 12 = .ok (.iconst 0, 1) := by decide +kernel
theorem dX8_worst_13 : decode cX8_worst 13 = .ok (.istore 4, 2) := by decide +kernel
theorem dX8_worst_15 : decode cX8_worst 15 = .ok (.iconst 1, 1) := by decide +kernel
theorem dX8_worst_16 : decode cX8_worst 16 = .ok (.istore 5, 2) := by decide +kernel
theorem dX8_worst_18 : decode cX8_worst 18 = .ok (.iload 5, 2) := by decide +kernel
theorem dX8_worst_20 : decode cX8_worst 20 = .ok (.iconst 4, 1) := by decide +kernel
theorem dX8_worst_21 : decode cX8_worst 21 = .ok (.if_icmp .ge 41, 3) := by decide +kernel
theorem dX8_worst_24 : decode cX8_worst 24 = .ok (.aload_n 0, 1) := by decide +kernel
theorem dX8_worst_25 : decode cX8_worst 25 = .ok (.iload_n 1, 1) := by decide +kernel
theorem dX8_worst_26 : decode cX8_worst 26 = .ok (.iload 5, 2) := by decide +kernel
theorem dX8_worst_28 : decode cX8_worst 28 = .ok (.iload_n 2, 1) := by decide +kernel
theorem dX8_worst_29 : decode cX8_worst 29 = .ok (.iload_n 3, 1) := by decide +kernel
theorem dX8_worst_30 : decode cX8_worst 30 = .ok (.invokestatic 128, 3) := by decide +kernel
theorem dX8_worst_33 : decode cX8_worst 33 = .ok (.iload_n 1, 1) := by decide +kernel
theorem dX8_worst_34 : decode cX8_worst 34 = .ok (.iload 4, 2) := by decide +kernel
theorem dX8_worst_36 : decode cX8_worst 36 = .ok (.iload_n 2, 1) := by decide +kernel
theorem dX8_worst_37 : decode cX8_worst 37 = .ok (.iload_n 3, 1) := by decide +kernel
theorem dX8_worst_38 : decode cX8_worst 38 = .ok (.invokestatic 128, 3) := by decide +kernel
theorem dX8_worst_41 : decode cX8_worst 41 = .ok (.invokevirtual 270, 3) := by decide +kernel
theorem dX8_worst_44 : decode cX8_worst 44 = .ok (.ifCond .le 8, 3) := by decide +kernel
theorem dX8_worst_47 : decode cX8_worst 47 = .ok (.iload 5, 2) := by decide +kernel
theorem dX8_worst_49 : decode cX8_worst 49 = .ok (.goto 5, 3) := by decide +kernel
theorem dX8_worst_52 : decode cX8_worst 52 = .ok (.iload 4, 2) := by decide +kernel
theorem dX8_worst_54 : decode cX8_worst 54 = .ok (.istore 4, 2) := by decide +kernel
theorem dX8_worst_56 : decode cX8_worst 56 = .ok (.iinc 5 1, 3) := by decide +kernel
theorem dX8_worst_59 : decode cX8_worst 59 = .ok (.goto (-41), 3) := by decide +kernel
theorem dX8_worst_62 : decode cX8_worst 62 = .ok (.iload 4, 2) := by decide +kernel
theorem dX8_worst_64 : decode cX8_worst 64 = .ok (.ireturn, 1) := by decide +kernel
set_option maxHeartbeats 4000000 in
theorem q_worst (l : Launch) {D : va_G} {ids : Nat → ClassId} {β : Nat} {sh : Nat → Nat × Nat} {N : Nat} {R : Nat → Nat → Option Nat} {F : Nat → Nat → Int} {A : Nat → Int → Int} {S : SP} (hM : MoL sh R N) (hR0 : RepM S F A) {b i j : Int} (hb : I32 b) (hi2 : I32 i) (hj : I32 j) : MetX l yX8_worst cX8_worst 6 (some (.int)) 5 122 D ids β sh N R F A [rf 0, pI b, pI i, pI j] (pIr (fun z F2 A2 => z = oWorst S b i j ∧ RepM S F2 A2)) := by
  refine MetX.of (loc := [_, _, _, _, _, _]) (plainFor_of_name (by decide +kernel)) (Nat.le_of_ble_eq_true rfl) rfl ?_
  intro p e s m args below meth c hC hK hr hlk
  obtain ⟨⟨m0, m1⟩, ⟨rx0, r2, r3, r7, r8, r9, r11, r12, r13, r16, r18⟩, ⟨m2, m3⟩, ⟨m4, m5⟩, ⟨m6, m7⟩, ⟨m8, m9⟩, ⟨m10, m11⟩, ⟨m12, m13⟩, ⟨m14, m15⟩, ⟨m16, m17⟩, ⟨m18, m19⟩, ⟨m20, m21⟩, ⟨m22, m23⟩⟩ := id hM
  obtain ⟨hi, b1, b2, b3, b4, b5, b6, b7, b8⟩ := id hR0
  have i1 := hi.1
  have loop : ∀ (d k : Nat) (n0 : Int) (F1 : Nat → Nat → Int) (A1 : Nat → Int → Int), 3 - k < d → k ≤ 3 → isE S b i j → isT (2 * i + j) → n0 = wst (fun t => nm S b t (2 * i + j)) k → RepM S F1 A1 → X p l e { frames := 5, cells := 0, slots := 0, locals := 122 } s m args below meth c (MQ below (QX D ids β sh N R (pIr (fun z F2 A2 => z = oWorst S b i j ∧ RepM S F2 A2))) args s 0 0 (inG β N)) (inG β N) D ids β sh 6 0 0 N R F1 A1 [some (rf 0), some (pI b), some (pI i), some (pI j), some (pI n0), some (pI ((k : Int) + 1))] [] 18 := by
    intro d
    induction d with
    | zero => intro k n0 F1 A1 hd; omega
    | succ d ih =>
      intro k n0 F1 A1 hd k4 hE he4 hn hR1
      have hwn := wst_in (fun t => nm S b t (2 * i + j)) k
      rw [← hn] at hwn
      refine x_iload (pc2 := 20) hC rfl dX8_worst_18 rfl ?_
      refine x_iconst (pc2 := 21) hC dX8_worst_20 rfl ?_
      refine x_icmp_ge (tgt := 62) (pc2 := 24) hC (by omega) (by omega) dX8_worst_21 rfl rfl (fun h_21 => ?_) (fun h_21 => ?_)
      · refine x_iload (pc2 := 64) hC rfl dX8_worst_62 rfl ?_
        exact x_iret hC hr hlk ⟨_, rfl, by rw [oWorst, itC_pos hE, hn, show k = 3 by omega], hR1⟩ dX8_worst_64
      · refine x_aload_n (pc2 := 25) hC rfl rfl dX8_worst_24 rfl ?_
        refine x_iload_n (pc2 := 26) hC rfl rfl dX8_worst_25 rfl ?_
        refine x_iload (pc2 := 28) hC rfl dX8_worst_26 rfl ?_
        refine x_iload_n (pc2 := 29) hC rfl rfl dX8_worst_28 rfl ?_
        refine x_iload_n (pc2 := 30) hC rfl rfl dX8_worst_29 rfl ?_
        refine x_cSi (pc2 := 33) hC hK (n_place l) lk_989 rfl ⟨Nat.le_of_ble_eq_true rfl, Nat.le_of_ble_eq_true rfl⟩ ⟨Nat.le_refl _, Nat.le_refl _⟩ rfl (Nat.le_of_ble_eq_true rfl) dX8_worst_30 rfl ?_
        rintro z30 F30 A30 ⟨rfl, e130, e230⟩
        obtain rfl := e130.symm
        obtain rfl := e230.symm
        refine x_iload_n (pc2 := 34) hC rfl rfl dX8_worst_33 rfl ?_
        refine x_iload (pc2 := 36) hC rfl dX8_worst_34 rfl ?_
        refine x_iload_n (pc2 := 37) hC rfl rfl dX8_worst_36 rfl ?_
        refine x_iload_n (pc2 := 38) hC rfl rfl dX8_worst_37 rfl ?_
        refine x_cSi (pc2 := 41) hC hK (n_place l) lk_989 rfl ⟨Nat.le_of_ble_eq_true rfl, Nat.le_of_ble_eq_true rfl⟩ ⟨Nat.le_refl _, Nat.le_refl _⟩ rfl (Nat.le_of_ble_eq_true rfl) dX8_worst_38 rfl ?_
        rintro z38 F38 A38 ⟨rfl, e138, e238⟩
        obtain rfl := e138.symm
        obtain rfl := e238.symm
        refine x_cVi (pc2 := 44) (ci := 8) hC hK (q_stands l hM hR1 hE.1 (show isT ((k : Int) + 1) by omega) he4 hE.1 (show isT n0 by omega) he4) lk_1158 rfl rfl (by decide) (by assumption) (by assumption) ⟨Nat.le_of_ble_eq_true rfl, Nat.le_of_ble_eq_true rfl⟩ ⟨Nat.le_refl _, Nat.le_refl _⟩ rfl (Nat.le_of_ble_eq_true rfl) dX8_worst_41 rfl ?_
        rintro z41 F41 A41 ⟨e41, hR41⟩
        have zb41 : -1 ≤ z41 ∧ z41 ≤ 1 := by rw [e41]; exact sgc_I
        refine x_if_le (tgt := 52) (pc2 := 47) hC (by omega) dX8_worst_44 rfl rfl (fun h_44 => ?_) (fun h_44 => ?_)
        · refine x_iload (pc2 := 54) hC rfl dX8_worst_52 rfl ?_
          refine x_istore (pc2 := 56) (loc2 := [_, _, _, _, _, _]) hC (by decide) rfl dX8_worst_54 rfl ?_
          refine x_iinc (pc2 := 59) (loc2 := [_, _, _, _, _, _]) hC (by decide) rfl rfl dX8_worst_56 rfl ?_
          refine x_goto (pc2 := 18) hC dX8_worst_59 rfl ?_
          refine ih (k + 1) n0 F41 A41 (by omega) (by omega) hE he4 ?_ hR41
          rw [wst, if_neg (by rw [← hn]; show ¬ (0 < cmpS (nm S b ((k : Int) + 1) (2 * i + j)) (nm S b n0 (2 * i + j))); rw [← e41]; omega)]; exact hn
        · refine x_iload (pc2 := 49) hC rfl dX8_worst_47 rfl ?_
          refine x_goto (pc2 := 54) hC dX8_worst_49 rfl ?_
          refine x_istore (pc2 := 56) (loc2 := [_, _, _, _, _, _]) hC (by decide) rfl dX8_worst_54 rfl ?_
          refine x_iinc (pc2 := 59) (loc2 := [_, _, _, _, _, _]) hC (by decide) rfl rfl dX8_worst_56 rfl ?_
          refine x_goto (pc2 := 18) hC dX8_worst_59 rfl ?_
          refine ih (k + 1) _ F41 A41 (by omega) (by omega) hE he4 ?_ hR41
          rw [wst, if_pos (by rw [← hn]; show 0 < cmpS (nm S b ((k : Int) + 1) (2 * i + j)) (nm S b n0 (2 * i + j)); rw [← e41]; omega)]
  refine x_aload_n (pc2 := 1) hC rfl rfl dX8_worst_0 rfl ?_
  refine x_iload_n (pc2 := 2) hC rfl rfl dX8_worst_1 rfl ?_
  refine x_iload_n (pc2 := 3) hC rfl rfl dX8_worst_2 rfl ?_
  refine x_iload_n (pc2 := 4) hC rfl rfl dX8_worst_3 rfl ?_
  refine x_cVi (pc2 := 7) (ci := 8) hC hK (q_isPlace l hM hR0 hb hi2 hj) lk_880 rfl rfl (by decide) (by assumption) (by assumption) ⟨Nat.le_of_ble_eq_true rfl, Nat.le_of_ble_eq_true rfl⟩ ⟨Nat.le_refl _, Nat.le_refl _⟩ rfl (Nat.le_of_ble_eq_true rfl) dX8_worst_4 rfl ?_
  rintro z4 F4 A4 ⟨w4, b4_, e14, e24⟩
  obtain rfl := e14.symm
  obtain rfl := e24.symm
  refine x_if_ne (tgt := 12) (pc2 := 10) hC (by omega) dX8_worst_7 rfl rfl (fun h_7 => ?_) (fun h_7 => ?_)
  · have hE := (b4_ ()).mp h_7
    have pt1 := (hi.2.1 b hE.1).1
    have he1 : isT (2 * i + j) := by have := hE.2; omega
    refine x_iconst (pc2 := 13) hC dX8_worst_12 rfl ?_
    refine x_istore (pc2 := 15) (loc2 := [_, _, _, _, _, _]) hC (by decide) rfl dX8_worst_13 rfl ?_
    refine x_iconst (pc2 := 16) hC dX8_worst_15 rfl ?_
    refine x_istore (pc2 := 18) (loc2 := [_, _, _, _, _, _]) hC (by decide) rfl dX8_worst_16 rfl ?_
    exact loop 4 0 0 F A (by omega) (by omega) hE he1 rfl hR0
  · refine x_iconst (pc2 := 11) hC dX8_worst_10 rfl ?_
    exact x_iret hC hr hlk ⟨_, rfl, by rw [oWorst, itC_neg (fun q => absurd h_7 ((b4_ ()).mpr q))], hR0⟩ dX8_worst_11
theorem dX8_isLike_0 : decode cX8_isLike 0 = .ok (.iconst 1, 1) := by decide +kernel
theorem dX8_isLike_1 : decode cX8_isLike 1 = .ok (.istore_n 3, 1) := by decide +kernel
theorem dX8_isLike_2 : decode cX8_isLike 2 = .ok (.iconst 0, 1) := by decide +kernel
theorem dX8_isLike_3 : decode cX8_isLike 3 = .ok (.istore 4, 2) := by decide +kernel
theorem dX8_isLike_5 : decode cX8_isLike 5 = .ok (.iload 4, 2) := by decide +kernel
theorem dX8_isLike_7 : decode cX8_isLike 7 = .ok (.bipush 6, 2) := by decide +kernel
theorem dX8_isLike_9 : decode cX8_isLike 9 = .ok (.if_icmp .ge 63, 3) := by decide +kernel
theorem dX8_isLike_12 : decode cX8_isLike 12 = .ok (.aload_n 0, 1) := by decide +kernel
theorem dX8_isLike_13 : decode cX8_isLike 13 = .ok (.getfield 7, 3) := by decide +kernel
theorem dX8_isLike_16 : decode cX8_isLike 16 = .ok (.iload_n 1, 1) := by decide +kernel
theorem dX8_isLike_17 : decode cX8_isLike 17 = .ok (.iaload, 1) := by decide +kernel
theorem dX8_isLike_18 : decode cX8_isLike 18 = .ok (.iconst 2, 1) := by decide +kernel
theorem dX8_isLike_19 : decode cX8_isLike 19 = .ok (.if_icmp .ne 53, 3) := by decide +kernel
theorem dX8_isLike_22 : decode cX8_isLike 22 = .ok (.iload_n 3, 1) := by decide +kernel
theorem dX8_isLike_23 : decode cX8_isLike 23 = .ok (.ifCond .eq 41, 3) := by decide +kernel
theorem dX8_isLike_26 : decode cX8_isLike 26 = .ok (.aload_n 0, 1) := by decide +kernel
theorem dX8_isLike_27 : decode cX8_isLike 27 = .ok (.getfield 13, 3) := by decide +kernel
theorem dX8_isLike_30 : decode cX8_isLike 30 = .ok (.iload_n 1, 1) := by decide +kernel
theorem dX8_isLike_31 : decode cX8_isLike 31 = .ok (.iload_n 2, 1) := by decide +kernel
theorem dX8_isLike_32 : decode cX8_isLike 32 = .ok (.iconst 0, 1) := by decide +kernel
theorem dX8_isLike_33 : decode cX8_isLike 33 = .ok (.iconst 1, 1) := by decide +kernel
theorem dX8_isLike_34 : decode cX8_isLike 34 = .ok (.invokestatic 128, 3) := by decide +kernel
theorem dX8_isLike_37 : decode cX8_isLike 37 = .ok (.iload 4, 2) := by decide +kernel
theorem dX8_isLike_39 : decode cX8_isLike 39 = .ok (.iadd, 1) := by decide +kernel
theorem dX8_isLike_40 : decode cX8_isLike 40 = .ok (.laload, 1) := by decide +kernel
theorem dX8_isLike_41 : decode cX8_isLike 41 = .ok (.aload_n 0, 1) := by decide +kernel
theorem dX8_isLike_42 : decode cX8_isLike 42 = .ok (.getfield 13, 3) := by decide +kernel
theorem dX8_isLike_45 : decode cX8_isLike 45 = .ok (.iload_n 1, 1) := by decide +kernel
theorem dX8_isLike_46 : decode cX8_isLike 46 = .ok (.iload_n 2, 1) := by decide +kernel
theorem dX8_isLike_47 : decode cX8_isLike 47 = .ok (.iconst 1, 1) := by decide +kernel
theorem dX8_isLike_48 : decode cX8_isLike 48 = .ok (.iconst 0, 1) := by decide +kernel
theorem dX8_isLike_49 : decode cX8_isLike 49 = .ok (.invokestatic 128, 3) := by decide +kernel
theorem dX8_isLike_52 : decode cX8_isLike 52 = .ok (.iload 4, 2) := by decide +kernel
theorem dX8_isLike_54 : decode cX8_isLike 54 = .ok (.iadd, 1) := by decide +kernel
theorem dX8_isLike_55 : decode cX8_isLike 55 = .ok (.laload, 1) := by decide +kernel
theorem dX8_isLike_56 : decode cX8_isLike 56 = .ok (.lcmp, 1) := by decide +kernel
theorem dX8_isLike_57 : decode cX8_isLike 57 = .ok (.ifCond .ne 7, 3) := by decide +kernel
theorem dX8_isLike_60 : decode cX8_isLike 60 = .ok (.iconst 1, 1) := by decide +kernel
theorem dX8_isLike_61 : decode cX8_isLike 61 = .ok (.goto 4, 3) := by decide +kernel
theorem dX8_isLike_64 : decode cX8_isLike 64 = .ok (.iconst 0, 1) := by decide +kernel
theorem dX8_isLike_65 : decode cX8_isLike 65 = .ok (.istore_n 3, 1) := by decide +kernel
theorem dX8_isLike_66 : decode cX8_isLike 66 = .ok (.iinc 4 1, 3) := by decide +kernel
theorem dX8_isLike_69 : decode cX8_isLike 69 = .ok (.goto (-64), 3) := by decide +kernel
theorem dX8_isLike_72 : decode cX8_isLike 72 = .ok (.iload_n 3, 1) := by decide +kernel
theorem dX8_isLike_73 : decode cX8_isLike 73 = .ok (.ireturn, 1) := by decide +kernel
set_option maxHeartbeats 4000000 in
theorem q_isLike (l : Launch) {D : va_G} {ids : Nat → ClassId} {β : Nat} {sh : Nat → Nat × Nat} {N : Nat} {R : Nat → Nat → Option Nat} {F : Nat → Nat → Int} {A : Nat → Int → Int} {S : SP} (hM : MoL sh R N) (hR0 : RepM S F A) {b t : Int} (hb : isB S b) (ht : isT t) : MetX l yX8_isLike cX8_isLike 5 (some (.boolean)) 1 23 D ids β sh N R F A [rf 0, pI b, pI t] (pIr (boolP F A (ptS S b = 1 ∨ vS S b t 1 = vS S b t 2))) := by
  refine MetX.of (loc := [_, _, _, _, _]) (plainFor_of_name (by decide +kernel)) (Nat.le_of_ble_eq_true rfl) rfl ?_
  intro p e s m args below meth c hC hK hr hlk
  obtain ⟨⟨m0, m1⟩, ⟨rx0, r2, r3, r7, r8, r9, r11, r12, r13, r16, r18⟩, ⟨m2, m3⟩, ⟨m4, m5⟩, ⟨m6, m7⟩, ⟨m8, m9⟩, ⟨m10, m11⟩, ⟨m12, m13⟩, ⟨m14, m15⟩, ⟨m16, m17⟩, ⟨m18, m19⟩, ⟨m20, m21⟩, ⟨m22, m23⟩⟩ := id hM
  obtain ⟨hi, b1, b2, b3, b4, b5, b6, b7, b8⟩ := id hR0
  have i1 := hi.1
  have loop : ∀ (d k : Nat) (z : Int), 6 - (k : Int) < d → k ≤ 6 → (0 ≤ z ∧ z ≤ 1) → (Unit → (z ≠ 0 ↔ (∀ n : Int, 0 ≤ n → n < k → A 2 (96 * b + 24 * t + 6 * 1 + n) = A 2 (96 * b + 24 * t + 6 * 2 + n)))) → (ptS S b = 1 → k = 0) → X p l e { frames := 1, cells := 0, slots := 0, locals := 23 } s m args below meth c (MQ below (QX D ids β sh N R (pIr (boolP F A (ptS S b = 1 ∨ vS S b t 1 = vS S b t 2)))) args s 0 0 (inG β N)) (inG β N) D ids β sh 5 0 0 N R F A [some (rf 0), some (pI b), some (pI t), some (pI z), some (pI (k : Int))] [] 5 := by
    intro d
    induction d with
    | zero => intro k z hd; omega
    | succ d ih =>
      intro k z hd hk hz hz2 hk0
      have b16 := hb.2
      have n16 := hi.1.2
      have pt := b2 b hb
      have pt2 := (hi.2.1 b hb).1
      have hinj := held_inj (b6 b t 1 hb ht ⟨by decide, by decide⟩) (b6 b t 2 hb ht ⟨by decide, by decide⟩)
      refine x_iload (pc2 := 7) hC rfl dX8_isLike_5 rfl ?_
      refine x_bipush (pc2 := 9) hC rfl dX8_isLike_7 rfl ?_
      refine x_icmp_ge (tgt := 72) (pc2 := 12) hC (by omega) (by omega) dX8_isLike_9 rfl rfl (fun h_9 => ?_) (fun h_9 => ?_)
      · refine x_iload_n (pc2 := 73) hC rfl rfl dX8_isLike_72 rfl ?_
        exact x_zret hC (by omega) hr hlk ⟨_, rfl, hz, fun _ => ⟨fun q => by first | (exact Or.inl (by omega)) | exact Or.inr (hinj.mp (fun n n0 n1 => (hz2 ()).mp q n n0 (by omega))), fun q => by first | exact (hz2 ()).mpr (fun n n0 n1 => by have := hk0 (by omega); omega) | exact (hz2 ()).mpr (fun n n0 n1 => hinj.mpr (q.resolve_left (by omega)) n n0 (by omega))⟩, rfl, rfl⟩ dX8_isLike_73
      · refine x_aload_n (pc2 := 13) hC rfl rfl dX8_isLike_12 rfl ?_
        refine g_809 (pc2 := 16) hC hK (by assumption) (by assumption) (by assumption) dX8_isLike_13 rfl ?_
        refine x_iload_n (pc2 := 17) hC rfl rfl dX8_isLike_16 rfl ?_
        refine x_iald (pc2 := 18) hC hK (by assumption) (by assumption) (by omega) (by decide) dX8_isLike_17 rfl ?_
        refine x_iconst (pc2 := 19) hC dX8_isLike_18 rfl ?_
        refine x_icmp_ne (tgt := 72) (pc2 := 22) hC (by omega) (by decide) dX8_isLike_19 rfl rfl (fun h_19 => ?_) (fun h_19 => ?_)
        · refine x_iload_n (pc2 := 73) hC rfl rfl dX8_isLike_72 rfl ?_
          exact x_zret hC (by omega) hr hlk ⟨_, rfl, hz, fun _ => ⟨fun q => by first | (exact Or.inl (by omega)) | exact Or.inr (hinj.mp (fun n n0 n1 => (hz2 ()).mp q n n0 (by omega))), fun q => by first | exact (hz2 ()).mpr (fun n n0 n1 => by have := hk0 (by omega); omega) | exact (hz2 ()).mpr (fun n n0 n1 => hinj.mpr (q.resolve_left (by omega)) n n0 (by omega))⟩, rfl, rfl⟩ dX8_isLike_73
        · refine x_iload_n (pc2 := 23) hC rfl rfl dX8_isLike_22 rfl ?_
          refine x_if_eq (tgt := 64) (pc2 := 26) hC (by omega) dX8_isLike_23 rfl rfl (fun h_23 => ?_) (fun h_23 => ?_)
          · refine x_iconst (pc2 := 65) hC dX8_isLike_64 rfl ?_
            refine x_istore_n (pc2 := 66) (loc2 := [_, _, _, _, _]) hC rfl (by decide) rfl dX8_isLike_65 rfl ?_
            refine x_iinc (pc2 := 69) (loc2 := [_, _, _, _, _]) hC (by decide) rfl rfl dX8_isLike_66 rfl ?_
            refine x_goto (pc2 := 5) hC dX8_isLike_69 rfl ?_
            refine ih (k + 1) 0 (by omega) (by omega) (by decide) (fun _ => ⟨fun q => absurd rfl q, fun q => ?_⟩) (fun q => by omega)
            exact absurd (by assumption) ((hz2 ()).mpr (fun n n0 n1 => q n n0 (by omega)))
          · have ra := hR0.i64 (k := 96 * b + 24 * t + 6 * (2 * 0 + 1) + k) (by omega) (by omega)
            have rb := hR0.i64 (k := 96 * b + 24 * t + 6 * (2 * 1 + 0) + k) (by omega) (by omega)
            refine x_aload_n (pc2 := 27) hC rfl rfl dX8_isLike_26 rfl ?_
            refine g_811 (pc2 := 30) hC hK (by assumption) (by assumption) (by assumption) dX8_isLike_27 rfl ?_
            refine x_iload_n (pc2 := 31) hC rfl rfl dX8_isLike_30 rfl ?_
            refine x_iload_n (pc2 := 32) hC rfl rfl dX8_isLike_31 rfl ?_
            refine x_iconst (pc2 := 33) hC dX8_isLike_32 rfl ?_
            refine x_iconst (pc2 := 34) hC dX8_isLike_33 rfl ?_
            refine x_cSi (pc2 := 37) hC hK (n_place l) lk_989 rfl ⟨Nat.le_of_ble_eq_true rfl, Nat.le_of_ble_eq_true rfl⟩ ⟨Nat.le_refl _, Nat.le_refl _⟩ rfl (Nat.le_of_ble_eq_true rfl) dX8_isLike_34 rfl ?_
            rintro z34 F34 A34 ⟨rfl, e134, e234⟩
            obtain rfl := e134.symm
            obtain rfl := e234.symm
            refine x_iload (pc2 := 39) hC rfl dX8_isLike_37 rfl ?_
            refine x_iadd (pc2 := 40) hC dX8_isLike_39 rfl ?_
            refine x_lald (pc2 := 41) hC hK (by assumption) (by assumption) (by omega) (by decide) dX8_isLike_40 rfl ?_
            refine x_aload_n (pc2 := 42) hC rfl rfl dX8_isLike_41 rfl ?_
            refine g_811 (pc2 := 45) hC hK (by assumption) (by assumption) (by assumption) dX8_isLike_42 rfl ?_
            refine x_iload_n (pc2 := 46) hC rfl rfl dX8_isLike_45 rfl ?_
            refine x_iload_n (pc2 := 47) hC rfl rfl dX8_isLike_46 rfl ?_
            refine x_iconst (pc2 := 48) hC dX8_isLike_47 rfl ?_
            refine x_iconst (pc2 := 49) hC dX8_isLike_48 rfl ?_
            refine x_cSi (pc2 := 52) hC hK (n_place l) lk_989 rfl ⟨Nat.le_of_ble_eq_true rfl, Nat.le_of_ble_eq_true rfl⟩ ⟨Nat.le_refl _, Nat.le_refl _⟩ rfl (Nat.le_of_ble_eq_true rfl) dX8_isLike_49 rfl ?_
            rintro z49 F49 A49 ⟨rfl, e149, e249⟩
            obtain rfl := e149.symm
            obtain rfl := e249.symm
            refine x_iload (pc2 := 54) hC rfl dX8_isLike_52 rfl ?_
            refine x_iadd (pc2 := 55) hC dX8_isLike_54 rfl ?_
            refine x_lald (pc2 := 56) hC hK (by assumption) (by assumption) (by omega) (by decide) dX8_isLike_55 rfl ?_
            refine x_lcmp_ne (tgt := 64) (pc2 := 60) hC ⟨by omega, by omega⟩ ⟨by omega, by omega⟩ dX8_isLike_56 dX8_isLike_57 rfl rfl (fun h_56 => ?_) (fun h_56 => ?_)
            · refine x_iconst (pc2 := 65) hC dX8_isLike_64 rfl ?_
              refine x_istore_n (pc2 := 66) (loc2 := [_, _, _, _, _]) hC rfl (by decide) rfl dX8_isLike_65 rfl ?_
              refine x_iinc (pc2 := 69) (loc2 := [_, _, _, _, _]) hC (by decide) rfl rfl dX8_isLike_66 rfl ?_
              refine x_goto (pc2 := 5) hC dX8_isLike_69 rfl ?_
              refine ih (k + 1) 0 (by omega) (by omega) (by decide) (fun _ => ⟨fun q => absurd rfl q, fun q => ?_⟩) (fun q => by omega)
              exact absurd (q k (by omega) (by omega)) h_56
            · refine x_iconst (pc2 := 61) hC dX8_isLike_60 rfl ?_
              refine x_goto (pc2 := 65) hC dX8_isLike_61 rfl ?_
              refine x_istore_n (pc2 := 66) (loc2 := [_, _, _, _, _]) hC rfl (by decide) rfl dX8_isLike_65 rfl ?_
              refine x_iinc (pc2 := 69) (loc2 := [_, _, _, _, _]) hC (by decide) rfl rfl dX8_isLike_66 rfl ?_
              refine x_goto (pc2 := 5) hC dX8_isLike_69 rfl ?_
              refine ih (k + 1) 1 (by omega) (by omega) (by decide) (fun _ => ⟨fun _ => ?_, fun _ => by decide⟩) (fun q => by omega)
              have p2 := (hz2 ()).mp h_23
              intro n n0 n1
              by_cases y : n = k
              · rw [y]; exact h_56
              · exact p2 n n0 (by omega)
  refine x_iconst (pc2 := 1) hC dX8_isLike_0 rfl ?_
  refine x_istore_n (pc2 := 2) (loc2 := [_, _, _, _, _]) hC rfl (by decide) rfl dX8_isLike_1 rfl ?_
  refine x_iconst (pc2 := 3) hC dX8_isLike_2 rfl ?_
  refine x_istore (pc2 := 5) (loc2 := [_, _, _, _, _]) hC (by decide) rfl dX8_isLike_3 rfl ?_
  exact loop 7 0 1 (by decide) (by decide) (by decide) (fun _ => ⟨fun _ n a b => by omega, fun _ => by decide⟩) (fun _ => rfl)
