theorem dX1_sum_0 : decode cX1_sum 0 = .ok (.aload_n 0, 1) := by decide +kernel
theorem dX1_sum_1 : decode cX1_sum 1 = .ok (.getfield 10, 3) := by decide +kernel
theorem dX1_sum_4 : decode cX1_sum 4 = .ok (.aload_n 1, 1) := by decide +kernel
theorem dX1_sum_5 : decode cX1_sum 5 = .ok (.getfield 10, 3) := by decide +kernel
theorem dX1_sum_8 : decode cX1_sum 8 = .ok (.aload_n 2, 1) := by decide +kernel
theorem dX1_sum_9 : decode cX1_sum 9 = .ok (.getfield 10, 3) := by decide +kernel
theorem dX1_sum_12 : decode cX1_sum 12 = .ok (.iload_n 3, 1) := by decide +kernel
theorem dX1_sum_13 : decode cX1_sum 13 = .ok (.invokevirtual 43, 3) := by decide +kernel
theorem dX1_sum_16 : decode cX1_sum 16 = .ok (.aload_n 0, 1) := by decide +kernel
theorem dX1_sum_17 : decode cX1_sum 17 = .ok (.getfield 16, 3) := by decide +kernel
theorem dX1_sum_20 : decode cX1_sum 20 = .ok (.aload_n 1, 1) := by decide +kernel
theorem dX1_sum_21 : decode cX1_sum 21 = .ok (.getfield 16, 3) := by decide +kernel
theorem dX1_sum_24 : decode cX1_sum 24 = .ok (.aload_n 2, 1) := by decide +kernel
theorem dX1_sum_25 : decode cX1_sum 25 = .ok (.getfield 16, 3) := by decide +kernel
theorem dX1_sum_28 : decode cX1_sum 28 = .ok (.iload_n 3, 1) := by decide +kernel
theorem dX1_sum_29 : decode cX1_sum 29 = .ok (.invokevirtual 43, 3) := by decide +kernel
theorem dX1_sum_32 : decode cX1_sum 32 = .ok (.return_, 1) := by decide +kernel
theorem isG_3 {sh : Nat → Nat × Nat} {R : Nat → Nat → Option Nat} {N g x s t : Nat} (hg : isG sh R N g s) (hx : isG sh R N x t) : g + 1 ≠ x + 3 ∧ g + 3 ≠ x + 1 := by
  by_cases h : g = x
  · omega
  · have := isG_ne hg hx h; exact ⟨this.2.1, this.2.2.1⟩
set_option maxHeartbeats 4000000 in
theorem m_gsum (l : Launch) {D : va_G} {ids : Nat → ClassId} {β : Nat} {sh : Nat → Nat × Nat} {N : Nat} {R : Nat → Nat → Option Nat} {F : Nat → Nat → Int} {A : Nat → Int → Int} {V : Nat → Int} (hS : ST sh R N F A V) {g x y sp tx ty a b : Nat} {s0 : Int} (hg : isG sh R N g sp) (hx : isG sh R N x tx) (hy : isG sh R N y ty) (hs : s0 = 1 ∨ s0 = -1) (bx : bd a (V (x + 1)) ∧ bd a (V (x + 3))) (by0 : bd b (V (y + 1)) ∧ bd b (V (y + 3))) (hab : a ≤ 711 ∧ b ≤ 711) : MetX l yX1_sum cX1_sum 4 none 3 86 D ids β sh N R F A [rf g, rf x, rf y, pI s0] (pVr (GQ sh R N F A V g sp (V (x + 1) + s0 * V (y + 1)) (V (x + 3) + s0 * V (y + 3)))) := by
  refine MetX.of (loc := [_, _, _, _]) (plainFor_of_name (by decide +kernel)) (Nat.le_of_ble_eq_true rfl) rfl ?_
  intro p e s m args below meth c hC hK hr hlk
  obtain ⟨g1, g2, g3, g4, g5, g6, g7, g8⟩ := id hg
  have gr : g + 1 < N := by have := g6.1; omega
  have gi : g + 3 < N := by have := g7.1; omega
  have gr2 := g6.2.1
  have gi2 := g7.2.1
  obtain ⟨x1, x2, x3, x4, x5, x6, x7, x8⟩ := id hx
  have xr : x + 1 < N := by have := x6.1; omega
  have xi : x + 3 < N := by have := x7.1; omega
  have xr2 := x6.2.1
  have xi2 := x7.2.1
  obtain ⟨y1, y2, y3, y4, y5, y6, y7, y8⟩ := id hy
  have yr : y + 1 < N := by have := y6.1; omega
  have yi : y + 3 < N := by have := y7.1; omega
  have yr2 := y6.2.1
  have yi2 := y7.2.1
  have nx := isG_3 hg hx
  have ny := isG_3 hg hy
  refine x_aload_n (pc2 := 1) hC rfl rfl dX1_sum_0 rfl ?_
  refine g_158 (pc2 := 4) hC hK (by assumption) (by assumption) (by assumption) dX1_sum_1 rfl ?_
  refine x_aload_n (pc2 := 5) hC rfl rfl dX1_sum_4 rfl ?_
  refine g_158 (pc2 := 8) hC hK (by assumption) (by assumption) (by assumption) dX1_sum_5 rfl ?_
  refine x_aload_n (pc2 := 9) hC rfl rfl dX1_sum_8 rfl ?_
  refine g_158 (pc2 := 12) hC hK (by assumption) (by assumption) (by assumption) dX1_sum_9 rfl ?_
  refine x_iload_n (pc2 := 13) hC rfl rfl dX1_sum_12 rfl ?_
  refine x_cVv (pc2 := 16) (ci := 6) hC hK (s_sum l hS g6 x6 y6 hs bx.1 by0.1 hab) lk_507 rfl rfl (by decide) (by assumption) (by assumption) ⟨Nat.le_of_ble_eq_true rfl, Nat.le_of_ble_eq_true rfl⟩ ⟨Nat.le_refl _, Nat.le_refl _⟩ rfl (Nat.le_of_ble_eq_true rfl) dX1_sum_13 rfl ?_
  rintro F1 A1 ⟨S1, f1⟩
  refine x_aload_n (pc2 := 17) hC rfl rfl dX1_sum_16 rfl ?_
  refine g_163 (pc2 := 20) hC hK (by assumption) (by assumption) (by assumption) dX1_sum_17 rfl ?_
  refine x_aload_n (pc2 := 21) hC rfl rfl dX1_sum_20 rfl ?_
  refine g_163 (pc2 := 24) hC hK (by assumption) (by assumption) (by assumption) dX1_sum_21 rfl ?_
  refine x_aload_n (pc2 := 25) hC rfl rfl dX1_sum_24 rfl ?_
  refine g_163 (pc2 := 28) hC hK (by assumption) (by assumption) (by assumption) dX1_sum_25 rfl ?_
  refine x_iload_n (pc2 := 29) hC rfl rfl dX1_sum_28 rfl ?_
  refine x_cVv (pc2 := 32) (ci := 6) hC hK (s_sum l S1 g7 x7 y7 hs (a := a) (b := b) (by rw [upV_ne (Ne.symm nx.1)]; exact bx.2) (by rw [upV_ne (Ne.symm ny.1)]; exact by0.2) hab) lk_507 rfl rfl (by decide) (by assumption) (by assumption) ⟨Nat.le_of_ble_eq_true rfl, Nat.le_of_ble_eq_true rfl⟩ ⟨Nat.le_refl _, Nat.le_refl _⟩ rfl (Nat.le_of_ble_eq_true rfl) dX1_sum_29 rfl ?_
  rintro F2 A2 ⟨S2, f2⟩
  exact x_vret hC hr hlk ⟨rfl, _, ⟨S2, f1.tr f2⟩, by rw [upV_ne (by omega), upV_eq], by rw [upV_eq, upV_ne (Ne.symm nx.1), upV_ne (Ne.symm ny.1)], fun u u1 u2 u3 => by rw [upV_ne u2, upV_ne u1]⟩ dX1_sum_32
theorem dX1_setSize_0 : decode cX1_setSize 0 = .ok (.aload_n 1, 1) := by decide +kernel
theorem dX1_setSize_1 : decode cX1_setSize 1 = .ok (.aload_n 0, 1) := by decide +kernel
theorem dX1_setSize_2 : decode cX1_setSize 2 = .ok (.getfield 10, 3) := by decide +kernel
theorem dX1_setSize_5 : decode cX1_setSize 5 = .ok (.aload_n 0, 1) := by decide +kernel
theorem dX1_setSize_6 : decode cX1_setSize 6 = .ok (.getfield 10, 3) := by decide +kernel
theorem dX1_setSize_9 : decode cX1_setSize 9 = .ok (.invokevirtual 39, 3) := by decide +kernel
theorem dX1_setSize_12 : decode cX1_setSize 12 = .ok (.aload_n 0, 1) := by decide +kernel
theorem dX1_setSize_13 : decode cX1_setSize 13 = .ok (.getfield 19, 3) := by decide +kernel
theorem dX1_setSize_16 : decode cX1_setSize 16 = .ok (.aload_n 0, 1) := by decide +kernel
theorem dX1_setSize_17 : decode cX1_setSize 17 = .ok (.getfield 16, 3) := by decide +kernel
theorem dX1_setSize_20 : decode cX1_setSize 20 = .ok (.aload_n 0, 1) := by decide +kernel
theorem dX1_setSize_21 : decode cX1_setSize 21 = .ok (.getfield 16, 3) := by decide +kernel
theorem dX1_setSize_24 : decode cX1_setSize 24 = .ok (.invokevirtual 39, 3) := by decide +kernel
theorem dX1_setSize_27 : decode cX1_setSize 27 = .ok (.aload_n 1, 1) := by decide +kernel
theorem dX1_setSize_28 : decode cX1_setSize 28 = .ok (.aload_n 1, 1) := by decide +kernel
theorem dX1_setSize_29 : decode cX1_setSize 29 = .ok (.aload_n 0, 1) := by decide +kernel
theorem dX1_setSize_30 : decode cX1_setSize 30 = .ok (.getfield 19, 3) := by decide +kernel
theorem dX1_setSize_33 : decode cX1_setSize 33 = .ok (.iconst 1, 1) := by decide +kernel
theorem dX1_setSize_34 : decode cX1_setSize 34 = .ok (.invokevirtual 43, 3) := by decide +kernel
theorem dX1_setSize_37 : decode cX1_setSize 37 = .ok (.return_, 1) := by decide +kernel
set_option maxHeartbeats 4000000 in
theorem m_gsize (l : Launch) {D : va_G} {ids : Nat → ClassId} {β : Nat} {sh : Nat → Nat × Nat} {N : Nat} {R : Nat → Nat → Option Nat} {F : Nat → Nat → Int} {A : Nat → Int → Int} {V : Nat → Int} (hS : ST sh R N F A V) {g sp w a : Nat} (hg : isG sh R N g sp) (hsp : spG sh R N sp) (hw : isW sh R N w) (nws : w ≠ sp) (nwr : w ≠ g + 1) (nwi : w ≠ g + 3) (bg : bd a (V (g + 1)) ∧ bd a (V (g + 3))) (ha : 2 * ((a + 8) / 9) ≤ 80 ∧ 2 * a ≤ 711) : MetX l yX1_setSize cX1_setSize 2 none 3 86 D ids β sh N R F A [rf g, rf w] (pVr (fun F' A' => ∃ V', SQ sh R N F A V' F' A' ∧ V' w = V (g + 1) * V (g + 1) + V (g + 3) * V (g + 3) ∧ ∀ u, u ≠ w → u ≠ sp → V' u = V u)) := by
  refine MetX.of (loc := [_, _]) (plainFor_of_name (by decide +kernel)) (Nat.le_of_ble_eq_true rfl) rfl ?_
  intro p e s m args below meth c hC hK hr hlk
  obtain ⟨g1, g2, g3, g4, g5, g6, g7, g8⟩ := id hg
  have gr : g + 1 < N := by have := g6.1; omega
  have gi : g + 3 < N := by have := g7.1; omega
  have gr2 := g6.2.1
  have gi2 := g7.2.1
  obtain ⟨p1, p2⟩ := hsp g _ hg
  have w1 := hw.1
  have w0 : w < N := by omega
  have w2 := hw.2.1
  have s1 := g8.1
  have s0 : sp < N := by omega
  have s2 := g8.2.1
  refine x_aload_n (pc2 := 1) hC rfl rfl dX1_setSize_0 rfl ?_
  refine x_aload_n (pc2 := 2) hC rfl rfl dX1_setSize_1 rfl ?_
  refine g_158 (pc2 := 5) hC hK (by assumption) (by assumption) (by assumption) dX1_setSize_2 rfl ?_
  refine x_aload_n (pc2 := 6) hC rfl rfl dX1_setSize_5 rfl ?_
  refine g_158 (pc2 := 9) hC hK (by assumption) (by assumption) (by assumption) dX1_setSize_6 rfl ?_
  refine x_cVv (pc2 := 12) (ci := 6) hC hK (s_product l hS hw g6 g6 (Ne.symm nwr) (Ne.symm nwr) bg.1 bg.1 (by omega)) lk_496 rfl rfl (by decide) (by assumption) (by assumption) ⟨Nat.le_of_ble_eq_true rfl, Nat.le_of_ble_eq_true rfl⟩ ⟨Nat.le_refl _, Nat.le_refl _⟩ rfl (Nat.le_of_ble_eq_true rfl) dX1_setSize_9 rfl ?_
  rintro F1 A1 ⟨S1, f1⟩
  refine x_aload_n (pc2 := 13) hC rfl rfl dX1_setSize_12 rfl ?_
  refine g_167 (pc2 := 16) hC hK (by assumption) (by assumption) (by assumption) dX1_setSize_13 rfl ?_
  refine x_aload_n (pc2 := 17) hC rfl rfl dX1_setSize_16 rfl ?_
  refine g_163 (pc2 := 20) hC hK (by assumption) (by assumption) (by assumption) dX1_setSize_17 rfl ?_
  refine x_aload_n (pc2 := 21) hC rfl rfl dX1_setSize_20 rfl ?_
  refine g_163 (pc2 := 24) hC hK (by assumption) (by assumption) (by assumption) dX1_setSize_21 rfl ?_
  refine x_cVv (pc2 := 27) (ci := 6) hC hK (s_product l S1 g8 g7 g7 (Ne.symm p2) (Ne.symm p2) (a := a) (b := a) (by rw [upV_ne (Ne.symm nwi)]; exact bg.2) (by rw [upV_ne (Ne.symm nwi)]; exact bg.2) (by omega)) lk_496 rfl rfl (by decide) (by assumption) (by assumption) ⟨Nat.le_of_ble_eq_true rfl, Nat.le_of_ble_eq_true rfl⟩ ⟨Nat.le_refl _, Nat.le_refl _⟩ rfl (Nat.le_of_ble_eq_true rfl) dX1_setSize_24 rfl ?_
  rintro F2 A2 ⟨S2, f2⟩
  refine x_aload_n (pc2 := 28) hC rfl rfl dX1_setSize_27 rfl ?_
  refine x_aload_n (pc2 := 29) hC rfl rfl dX1_setSize_28 rfl ?_
  refine x_aload_n (pc2 := 30) hC rfl rfl dX1_setSize_29 rfl ?_
  refine g_167 (pc2 := 33) hC hK (by assumption) (by assumption) (by assumption) dX1_setSize_30 rfl ?_
  refine x_iconst (pc2 := 34) hC dX1_setSize_33 rfl ?_
  refine x_cVv (pc2 := 37) (ci := 6) hC hK (s_sum l S2 hw hw g8 (Or.inl rfl) (a := a + a) (b := a + a) (by rw [upV_ne nws, upV_eq]; exact bd_mul bg.1 bg.1 (Nat.le_refl _)) (by rw [upV_eq, upV_ne (Ne.symm nwi)]; exact bd_mul bg.2 bg.2 (Nat.le_refl _)) (by omega)) lk_507 rfl rfl (by decide) (by assumption) (by assumption) ⟨Nat.le_of_ble_eq_true rfl, Nat.le_of_ble_eq_true rfl⟩ ⟨Nat.le_refl _, Nat.le_refl _⟩ rfl (Nat.le_of_ble_eq_true rfl) dX1_setSize_34 rfl ?_
  rintro F3 A3 ⟨S3, f3⟩
  exact x_vret hC hr hlk ⟨rfl, _, ⟨S3, (f1.tr f2).tr f3⟩, by rw [upV_eq, upV_ne nws, upV_eq, upV_eq, upV_ne (Ne.symm nwi), Int.one_mul], fun u u1 u2 => by rw [upV_ne u1, upV_ne u2, upV_ne u1]⟩ dX1_setSize_37
theorem dX1_assign_0 : decode cX1_assign 0 = .ok (.aload_n 0, 1) := by decide +kernel
theorem dX1_assign_1 : decode cX1_assign 1 = .ok (.getfield 10, 3) := by decide +kernel
theorem dX1_assign_4 : decode cX1_assign 4 = .ok (.aload_n 1, 1) := by decide +kernel
theorem dX1_assign_5 : decode cX1_assign 5 = .ok (.getfield 10, 3) := by decide +kernel
theorem dX1_assign_8 : decode cX1_assign 8 = .ok (.invokevirtual 32, 3) := by decide +kernel
theorem dX1_assign_11 : decode cX1_assign 11 = .ok (.aload_n 0, 1) := by decide +kernel
theorem dX1_assign_12 : decode cX1_assign 12 = .ok (.getfield 16, 3) := by decide +kernel
theorem dX1_assign_15 : decode cX1_assign 15 = .ok (.aload_n 1, 1) := by decide +kernel
theorem dX1_assign_16 : decode cX1_assign 16 = .ok (.getfield 16, 3) := by decide +kernel
theorem dX1_assign_19 : decode cX1_assign 19 = .ok (.invokevirtual 32, 3) := by decide +kernel
theorem dX1_assign_22 : decode cX1_assign 22 = .ok (.return_, 1) := by decide +kernel
set_option maxHeartbeats 4000000 in
theorem m_gassign (l : Launch) {D : va_G} {ids : Nat → ClassId} {β : Nat} {sh : Nat → Nat × Nat} {N : Nat} {R : Nat → Nat → Option Nat} {F : Nat → Nat → Int} {A : Nat → Int → Int} {V : Nat → Int} (hS : ST sh R N F A V) {g x sp tx : Nat} (hg : isG sh R N g sp) (hx : isG sh R N x tx) : MetX l yX1_assign cX1_assign 2 none 2 47 D ids β sh N R F A [rf g, rf x] (pVr (GQ sh R N F A V g sp (V (x + 1)) (V (x + 3)))) := by
  refine MetX.of (loc := [_, _]) (plainFor_of_name (by decide +kernel)) (Nat.le_of_ble_eq_true rfl) rfl ?_
  intro p e s m args below meth c hC hK hr hlk
  obtain ⟨g1, g2, g3, g4, g5, g6, g7, g8⟩ := id hg
  have gr : g + 1 < N := by have := g6.1; omega
  have gi : g + 3 < N := by have := g7.1; omega
  have gr2 := g6.2.1
  have gi2 := g7.2.1
  obtain ⟨x1, x2, x3, x4, x5, x6, x7, x8⟩ := id hx
  have xr : x + 1 < N := by have := x6.1; omega
  have xi : x + 3 < N := by have := x7.1; omega
  have xr2 := x6.2.1
  have xi2 := x7.2.1
  have nx := isG_3 hg hx
  refine x_aload_n (pc2 := 1) hC rfl rfl dX1_assign_0 rfl ?_
  refine g_158 (pc2 := 4) hC hK (by assumption) (by assumption) (by assumption) dX1_assign_1 rfl ?_
  refine x_aload_n (pc2 := 5) hC rfl rfl dX1_assign_4 rfl ?_
  refine g_158 (pc2 := 8) hC hK (by assumption) (by assumption) (by assumption) dX1_assign_5 rfl ?_
  refine x_cVv (pc2 := 11) (ci := 6) hC hK (s_assign l hS g6 x6) lk_556 rfl rfl (by decide) (by assumption) (by assumption) ⟨Nat.le_of_ble_eq_true rfl, Nat.le_of_ble_eq_true rfl⟩ ⟨Nat.le_refl _, Nat.le_refl _⟩ rfl (Nat.le_of_ble_eq_true rfl) dX1_assign_8 rfl ?_
  rintro F1 A1 ⟨S1, f1⟩
  refine x_aload_n (pc2 := 12) hC rfl rfl dX1_assign_11 rfl ?_
  refine g_163 (pc2 := 15) hC hK (by assumption) (by assumption) (by assumption) dX1_assign_12 rfl ?_
  refine x_aload_n (pc2 := 16) hC rfl rfl dX1_assign_15 rfl ?_
  refine g_163 (pc2 := 19) hC hK (by assumption) (by assumption) (by assumption) dX1_assign_16 rfl ?_
  refine x_cVv (pc2 := 22) (ci := 6) hC hK (s_assign l S1 g7 x7) lk_556 rfl rfl (by decide) (by assumption) (by assumption) ⟨Nat.le_of_ble_eq_true rfl, Nat.le_of_ble_eq_true rfl⟩ ⟨Nat.le_refl _, Nat.le_refl _⟩ rfl (Nat.le_of_ble_eq_true rfl) dX1_assign_19 rfl ?_
  rintro F2 A2 ⟨S2, f2⟩
  exact x_vret hC hr hlk ⟨rfl, _, ⟨S2, f1.tr f2⟩, by rw [upV_ne (by omega), upV_eq], by rw [upV_eq, upV_ne (Ne.symm nx.1)], fun u u1 u2 u3 => by rw [upV_ne u2, upV_ne u1]⟩ dX1_assign_22
theorem dX1_putSmall_0 : decode cX1_putSmall 0 = .ok (.aload_n 0, 1) := by decide +kernel
theorem dX1_putSmall_1 : decode cX1_putSmall 1 = .ok (.getfield 10, 3) := by decide +kernel
theorem dX1_putSmall_4 : decode cX1_putSmall 4 = .ok (.iload_n 1, 1) := by decide +kernel
theorem dX1_putSmall_5 : decode cX1_putSmall 5 = .ok (.i2l, 1) := by decide +kernel
theorem dX1_putSmall_6 : decode cX1_putSmall 6 = .ok (.invokevirtual 25, 3) := by decide +kernel
theorem dX1_putSmall_9 : decode cX1_putSmall 9 = .ok (.aload_n 0, 1) := by decide +kernel
theorem dX1_putSmall_10 : decode cX1_putSmall 10 = .ok (.getfield 16, 3) := by decide +kernel
theorem dX1_putSmall_13 : decode cX1_putSmall 13 = .ok (.invokevirtual 29, 3) := by decide +kernel
theorem dX1_putSmall_16 : decode cX1_putSmall 16 = .ok (.return_, 1) := by decide +kernel
set_option maxHeartbeats 4000000 in
theorem m_gput (l : Launch) {D : va_G} {ids : Nat → ClassId} {β : Nat} {sh : Nat → Nat × Nat} {N : Nat} {R : Nat → Nat → Option Nat} {F : Nat → Nat → Int} {A : Nat → Int → Int} {V : Nat → Int} (hS : ST sh R N F A V) {g sp : Nat} {v : Int} (hg : isG sh R N g sp) (hv : 0 ≤ v ∧ v ≤ 2147483647) : MetX l yX1_putSmall cX1_putSmall 2 none 2 45 D ids β sh N R F A [rf g, pI v] (pVr (GQ sh R N F A V g sp v 0)) := by
  refine MetX.of (loc := [_, _]) (plainFor_of_name (by decide +kernel)) (Nat.le_of_ble_eq_true rfl) rfl ?_
  intro p e s m args below meth c hC hK hr hlk
  obtain ⟨g1, g2, g3, g4, g5, g6, g7, g8⟩ := id hg
  have gr : g + 1 < N := by have := g6.1; omega
  have gi : g + 3 < N := by have := g7.1; omega
  have gr2 := g6.2.1
  have gi2 := g7.2.1
  refine x_aload_n (pc2 := 1) hC rfl rfl dX1_putSmall_0 rfl ?_
  refine g_158 (pc2 := 4) hC hK (by assumption) (by assumption) (by assumption) dX1_putSmall_1 rfl ?_
  refine x_iload_n (pc2 := 5) hC rfl rfl dX1_putSmall_4 rfl ?_
  refine x_i2l (pc2 := 6) hC (by omega) dX1_putSmall_5 rfl ?_
  refine x_cVv (pc2 := 9) (ci := 6) hC hK (s_putSmall l hS g6 ⟨by omega, by omega⟩) lk_253 rfl rfl (by decide) (by assumption) (by assumption) ⟨Nat.le_of_ble_eq_true rfl, Nat.le_of_ble_eq_true rfl⟩ ⟨Nat.le_refl _, Nat.le_refl _⟩ rfl (Nat.le_of_ble_eq_true rfl) dX1_putSmall_6 rfl ?_
  rintro F1 A1 ⟨S1, f1⟩
  refine x_aload_n (pc2 := 10) hC rfl rfl dX1_putSmall_9 rfl ?_
  refine g_163 (pc2 := 13) hC hK (by assumption) (by assumption) (by assumption) dX1_putSmall_10 rfl ?_
  refine x_cVv (pc2 := 16) (ci := 6) hC hK (s_clear l S1 g7) lk_262 rfl rfl (by decide) (by assumption) (by assumption) ⟨Nat.le_of_ble_eq_true rfl, Nat.le_of_ble_eq_true rfl⟩ ⟨Nat.le_refl _, Nat.le_refl _⟩ rfl (Nat.le_of_ble_eq_true rfl) dX1_putSmall_13 rfl ?_
  rintro F2 A2 ⟨S2, f2⟩
  exact x_vret hC hr hlk ⟨rfl, _, ⟨S2, f1.tr f2⟩, by rw [upV_ne (by omega), upV_eq], upV_eq, fun u u1 u2 u3 => by rw [upV_ne u2, upV_ne u1]⟩ dX1_putSmall_16
theorem dX1_isZero_0 : decode cX1_isZero 0 = .ok (.aload_n 0, 1) := by decide +kernel
theorem dX1_isZero_1 : decode cX1_isZero 1 = .ok (.getfield 10, 3) := by decide +kernel
theorem dX1_isZero_4 : decode cX1_isZero 4 = .ok (.getfield 35, 3) := by decide +kernel
theorem dX1_isZero_7 : decode cX1_isZero 7 = .ok (.ifCond .ne 17, 3) := by decide +kernel
theorem dX1_isZero_10 : decode cX1_isZero 10 = .ok (.aload_n 0, 1) := by decide +kernel
theorem dX1_isZero_11 : decode cX1_isZero 11 = .ok (.getfield 16, 3) := by decide +kernel
theorem dX1_isZero_14 : decode cX1_isZero 14 = .ok (.getfield 35, 3) := by decide +kernel
theorem dX1_isZero_17 : decode cX1_isZero 17 = .ok (.ifCond .ne 7, 3) := by decide +kernel
theorem dX1_isZero_20 : decode cX1_isZero 20 = .ok (.iconst 1, 1) := by decide +kernel
theorem dX1_isZero_21 : decode cX1_isZero 21 = .ok (.goto 4, 3) := by decide +kernel
theorem dX1_isZero_24 : decode cX1_isZero 24 = .ok (.iconst 0, 1) := by decide +kernel
theorem dX1_isZero_25 : decode cX1_isZero 25 = .ok (.ireturn, 1) := by decide +kernel
set_option maxHeartbeats 4000000 in
theorem m_gzero (l : Launch) {D : va_G} {ids : Nat → ClassId} {β : Nat} {sh : Nat → Nat × Nat} {N : Nat} {R : Nat → Nat → Option Nat} {F : Nat → Nat → Int} {A : Nat → Int → Int} {V : Nat → Int} (hS : ST sh R N F A V) {g sp : Nat} (hg : isG sh R N g sp) : MetX l yX1_isZero cX1_isZero 1 (some (.boolean)) 0 0 D ids β sh N R F A [rf g] (pIr (sameI F A (if V (g + 1) = 0 ∧ V (g + 3) = 0 then 1 else 0))) := by
  refine MetX.of (loc := [_]) (plainFor_of_name (by decide +kernel)) (Nat.le_of_ble_eq_true rfl) rfl ?_
  intro p e s m args below meth c hC hK hr hlk
  obtain ⟨g1, g2, g3, g4, g5, g6, g7, g8⟩ := id hg
  have gr : g + 1 < N := by have := g6.1; omega
  have gi : g + 3 < N := by have := g7.1; omega
  have gr2 := g6.2.1
  have gi2 := g7.2.1
  have er := wv_pos_iff (hS _ g6).1
  have ei := wv_pos_iff (hS _ g7).1
  rw [(hS _ g6).2] at er
  rw [(hS _ g7).2] at ei
  refine x_aload_n (pc2 := 1) hC rfl rfl dX1_isZero_0 rfl ?_
  refine g_158 (pc2 := 4) hC hK (by assumption) (by assumption) (by assumption) dX1_isZero_1 rfl ?_
  refine g_138 (pc2 := 7) hC hK (by assumption) (by assumption) dX1_isZero_4 rfl ?_
  refine x_if_ne (tgt := 24) (pc2 := 10) hC (by omega) dX1_isZero_7 rfl rfl (fun h_7 => ?_) (fun h_7 => ?_)
  · refine x_iconst (pc2 := 25) hC dX1_isZero_24 rfl ?_
    exact x_zret hC (by omega) hr hlk ⟨_, rfl, by first | rw [if_pos ⟨by omega, by omega⟩] | rw [if_neg (by omega)], rfl, rfl⟩ dX1_isZero_25
  · refine x_aload_n (pc2 := 11) hC rfl rfl dX1_isZero_10 rfl ?_
    refine g_163 (pc2 := 14) hC hK (by assumption) (by assumption) (by assumption) dX1_isZero_11 rfl ?_
    refine g_138 (pc2 := 17) hC hK (by assumption) (by assumption) dX1_isZero_14 rfl ?_
    refine x_if_ne (tgt := 24) (pc2 := 20) hC (by omega) dX1_isZero_17 rfl rfl (fun h_17 => ?_) (fun h_17 => ?_)
    · refine x_iconst (pc2 := 25) hC dX1_isZero_24 rfl ?_
      exact x_zret hC (by omega) hr hlk ⟨_, rfl, by first | rw [if_pos ⟨by omega, by omega⟩] | rw [if_neg (by omega)], rfl, rfl⟩ dX1_isZero_25
    · refine x_iconst (pc2 := 21) hC dX1_isZero_20 rfl ?_
      refine x_goto (pc2 := 25) hC dX1_isZero_21 rfl ?_
      exact x_zret hC (by omega) hr hlk ⟨_, rfl, by first | rw [if_pos ⟨by omega, by omega⟩] | rw [if_neg (by omega)], rfl, rfl⟩ dX1_isZero_25
/-- times i, n times -/
def rot (p : Int × Int) : Nat → Int × Int
  | 0 => p
  | n + 1 => (-(rot p n).2, (rot p n).1)
theorem neg_sign {F : Nat → Nat → Int} {A : Nat → Int → Int} {w : Nat} (h : WOK F A w) : Q_set F A w (-(wv F A w)) (uF F w 0 (-(F w 0))) A := by
  have e0 : uF F w 0 (-(F w 0)) w 0 = -(F w 0) := uF_eq
  have e1 : uF F w 0 (-(F w 0)) w 1 = F w 1 := uF_nj (by decide)
  obtain ⟨s1, s2, s3, s4, s5⟩ := h
  refine ⟨fun o ho => uF_ne ho, fun _ _ => rfl, ?_, ?_⟩
  · unfold WOK
    rw [e0, e1]
    exact ⟨s1, s2, s3, s4, by omega⟩
  · unfold wv wm
    rw [e0, e1, Int.neg_mul]
theorem dX1_rotate_0 : decode cX1_rotate 0 = .ok (.iconst 0, 1) := by decide +kernel
theorem dX1_rotate_1 : decode cX1_rotate 1 = .ok (.istore_n 2, 1) := by decide +kernel
theorem dX1_rotate_2 : decode cX1_rotate 2 = .ok (.iload_n 2, 1) := by decide +kernel
theorem dX1_rotate_3 : decode cX1_rotate 3 = .ok (.iload_n 1, 1) := by decide +kernel
theorem dX1_rotate_4 : decode cX1_rotate 4 = .ok (.if_icmp .ge 57, 3) := by decide +kernel
theorem dX1_rotate_7 : decode cX1_rotate 7 = .ok (.aload_n 0, 1) := by decide +kernel
theorem dX1_rotate_8 : decode cX1_rotate 8 = .ok (.getfield 19, 3) := by decide +kernel
theorem dX1_rotate_11 : decode cX1_rotate 11 = .ok (.aload_n 0, 1) := by decide +kernel
theorem dX1_rotate_12 : decode cX1_rotate 12 = .ok (.getfield 10, 3) := by decide +kernel
theorem dX1_rotate_15 : decode cX1_rotate 15 = .ok (.invokevirtual 32, 3) := by decide +kernel
theorem dX1_rotate_18 : decode cX1_rotate 18 = .ok (.aload_n 0, 1) := by decide +kernel
theorem dX1_rotate_19 : decode cX1_rotate 19 = .ok (.getfield 10, 3) := by decide +kernel
theorem dX1_rotate_22 : decode cX1_rotate 22 = .ok (.aload_n 0, 1) := by decide +kernel
theorem dX1_rotate_23 : decode cX1_rotate 23 = .ok (.getfield 16, 3) := by decide +kernel
theorem dX1_rotate_26 : decode cX1_rotate 26 = .ok (.invokevirtual 32, 3) := by decide +kernel
theorem dX1_rotate_29 : decode cX1_rotate 29 = .ok (.aload_n 0, 1) := by decide +kernel
theorem dX1_rotate_30 : decode cX1_rotate 30 = .ok (.getfield 10, 3) := by decide +kernel
theorem dX1_rotate_33 : decode cX1_rotate 33 = .ok (.aload_n 0, 1) := by decide +kernel
theorem dX1_rotate_34 : decode cX1_rotate 34 = .ok (.getfield 10, 3) := by decide +kernel
theorem dX1_rotate_37 : decode cX1_rotate 37 = .ok (.getfield 35, 3) := by decide +kernel
theorem dX1_rotate_40 : decode cX1_rotate 40 = .ok (.ineg, 1) := by decide +kernel
theorem dX1_rotate_41 : decode cX1_rotate 41 = .ok (.putfield 35, 3) := by decide +kernel
theorem dX1_rotate_44 : decode cX1_rotate 44 = .ok (.aload_n 0, 1) := by decide +kernel
theorem dX1_rotate_45 : decode cX1_rotate 45 = .ok (.getfield 16, 3) := by decide +kernel
theorem dX1_rotate_48 : decode cX1_rotate 48 = .ok (.aload_n 0, 1) := by decide +kernel
theorem dX1_rotate_49 : decode cX1_rotate 49 = .ok (.getfield 19, 3) := by decide +kernel
theorem dX1_rotate_52 : decode cX1_rotate 52 = .ok (.invokevirtual 32, 3) := by decide +kernel
theorem dX1_rotate_55 : decode cX1_rotate 55 = .ok (.iinc 2 1, 3) := by decide +kernel
theorem dX1_rotate_58 : decode cX1_rotate 58 = .ok (.goto (-56), 3) := by decide +kernel
theorem dX1_rotate_61 : decode cX1_rotate 61 = .ok (.return_, 1) := by decide +kernel
set_option maxHeartbeats 4000000 in
theorem m_grot (l : Launch) {D : va_G} {ids : Nat → ClassId} {β : Nat} {sh : Nat → Nat × Nat} {N : Nat} {R : Nat → Nat → Option Nat} {F : Nat → Nat → Int} {A : Nat → Int → Int} {V : Nat → Int} (hS : ST sh R N F A V) {g sp : Nat} {q : Nat} (hg : isG sh R N g sp) (hsp : spG sh R N sp) (hq : q ≤ 1000) : MetX l yX1_rotate cX1_rotate 3 none 2 47 D ids β sh N R F A [rf g, pI (q : Int)] (pVr (GQ sh R N F A V g sp (rot (V (g + 1), V (g + 3)) q).1 (rot (V (g + 1), V (g + 3)) q).2)) := by
  refine MetX.of (loc := [_, _, _]) (plainFor_of_name (by decide +kernel)) (Nat.le_of_ble_eq_true rfl) rfl ?_
  intro p e s m args below meth c hC hK hr hlk
  obtain ⟨g1, g2, g3, g4, g5, g6, g7, g8⟩ := id hg
  have gr : g + 1 < N := by have := g6.1; omega
  have gi : g + 3 < N := by have := g7.1; omega
  have gr2 := g6.2.1
  have gi2 := g7.2.1
  obtain ⟨p1, p2⟩ := hsp g _ hg
  have gs : sp < N := by have := g8.1; omega
  have gs2 := g8.2.1
  have loop : ∀ (n k : Nat) (F1 : Nat → Nat → Int) (A1 : Nat → Int → Int), q - k < n → k ≤ q → GQ sh R N F A V g sp (rot (V (g + 1), V (g + 3)) k).1 (rot (V (g + 1), V (g + 3)) k).2 F1 A1 → X p l e { frames := 2, cells := 0, slots := 0, locals := 47 } s m args below meth c (MQ below (QX D ids β sh N R (pVr (GQ sh R N F A V g sp (rot (V (g + 1), V (g + 3)) q).1 (rot (V (g + 1), V (g + 3)) q).2))) args s 0 0 (inG β N)) (inG β N) D ids β sh 3 0 0 N R F1 A1 [some (rf g), some (pI (q : Int)), some (pI (k : Int))] [] 2 := by
    intro n
    induction n with
    | zero => intro k F1 A1 hn; omega
    | succ n ih =>
      intro k F1 A1 hn hk hG
      obtain ⟨V1, ⟨S1, f1⟩, v1, v2, v3⟩ := id hG
      refine x_iload_n (pc2 := 3) hC rfl rfl dX1_rotate_2 rfl ?_
      refine x_iload_n (pc2 := 4) hC rfl rfl dX1_rotate_3 rfl ?_
      refine x_icmp_ge (tgt := 61) (pc2 := 7) hC (by omega) (by omega) dX1_rotate_4 rfl rfl (fun h_4 => ?_) (fun h_4 => ?_)
      · exact x_vret hC hr hlk ⟨rfl, (show k = q by omega) ▸ hG⟩ dX1_rotate_61
      · refine x_aload_n (pc2 := 8) hC rfl rfl dX1_rotate_7 rfl ?_
        refine g_167 (pc2 := 11) hC hK (by assumption) (by assumption) (by assumption) dX1_rotate_8 rfl ?_
        refine x_aload_n (pc2 := 12) hC rfl rfl dX1_rotate_11 rfl ?_
        refine g_158 (pc2 := 15) hC hK (by assumption) (by assumption) (by assumption) dX1_rotate_12 rfl ?_
        refine x_cVv (pc2 := 18) (ci := 6) hC hK (s_assign l S1 g8 g6) lk_556 rfl rfl (by decide) (by assumption) (by assumption) ⟨Nat.le_of_ble_eq_true rfl, Nat.le_of_ble_eq_true rfl⟩ ⟨Nat.le_refl _, Nat.le_refl _⟩ rfl (Nat.le_of_ble_eq_true rfl) dX1_rotate_15 rfl ?_
        rintro F2 A2 ⟨S2, f2⟩
        refine x_aload_n (pc2 := 19) hC rfl rfl dX1_rotate_18 rfl ?_
        refine g_158 (pc2 := 22) hC hK (by assumption) (by assumption) (by assumption) dX1_rotate_19 rfl ?_
        refine x_aload_n (pc2 := 23) hC rfl rfl dX1_rotate_22 rfl ?_
        refine g_163 (pc2 := 26) hC hK (by assumption) (by assumption) (by assumption) dX1_rotate_23 rfl ?_
        refine x_cVv (pc2 := 29) (ci := 6) hC hK (s_assign l S2 g6 g7) lk_556 rfl rfl (by decide) (by assumption) (by assumption) ⟨Nat.le_of_ble_eq_true rfl, Nat.le_of_ble_eq_true rfl⟩ ⟨Nat.le_refl _, Nat.le_refl _⟩ rfl (Nat.le_of_ble_eq_true rfl) dX1_rotate_26 rfl ?_
        rintro F3 A3 ⟨S3, f3⟩
        have f4S := S3.set g6 (neg_sign (S3 _ g6).1)
        rw [(S3 _ g6).2] at f4S
        obtain ⟨S4, f4⟩ := f4S
        refine x_aload_n (pc2 := 30) hC rfl rfl dX1_rotate_29 rfl ?_
        refine g_158 (pc2 := 33) hC hK (by assumption) (by assumption) (by assumption) dX1_rotate_30 rfl ?_
        refine x_aload_n (pc2 := 34) hC rfl rfl dX1_rotate_33 rfl ?_
        refine g_158 (pc2 := 37) hC hK (by assumption) (by assumption) (by assumption) dX1_rotate_34 rfl ?_
        refine g_138 (pc2 := 40) hC hK (by assumption) (by assumption) dX1_rotate_37 rfl ?_
        refine x_ineg (pc2 := 41) hC dX1_rotate_40 rfl ?_
        refine p_138 (pc2 := 44) hC hK (by assumption) (by assumption) dX1_rotate_41 rfl ?_
        refine x_aload_n (pc2 := 45) hC rfl rfl dX1_rotate_44 rfl ?_
        refine g_163 (pc2 := 48) hC hK (by assumption) (by assumption) (by assumption) dX1_rotate_45 rfl ?_
        refine x_aload_n (pc2 := 49) hC rfl rfl dX1_rotate_48 rfl ?_
        refine g_167 (pc2 := 52) hC hK (by assumption) (by assumption) (by assumption) dX1_rotate_49 rfl ?_
        refine x_cVv (pc2 := 55) (ci := 6) hC hK (s_assign l S4 g7 g8) lk_556 rfl rfl (by decide) (by assumption) (by assumption) ⟨Nat.le_of_ble_eq_true rfl, Nat.le_of_ble_eq_true rfl⟩ ⟨Nat.le_refl _, Nat.le_refl _⟩ rfl (Nat.le_of_ble_eq_true rfl) dX1_rotate_52 rfl ?_
        rintro F5 A5 ⟨S5, f5⟩
        refine x_iinc (pc2 := 58) (loc2 := [_, _, _]) hC (by decide) rfl rfl dX1_rotate_55 rfl ?_
        refine x_goto (pc2 := 2) hC dX1_rotate_58 rfl ?_
        refine ih (k + 1) _ _ (by omega) (by omega) ⟨_, ⟨S5, (((f1.tr f2).tr f3).tr f4).tr f5⟩, ?_, ?_, fun u u1 u2 u3 => ?_⟩
        · rw [upV_ne (by omega), upV_eq, upV_eq, upV_ne (Ne.symm p2)]
          simp only [rot]
          rw [← v2]
        · rw [upV_eq, upV_ne p1, upV_ne p1, upV_eq]
          simp only [rot]
          rw [v1]
        · rw [upV_ne u2, upV_ne u1, upV_ne u1, upV_ne u3]; exact v3 u u1 u2 u3
  refine x_iconst (pc2 := 1) hC dX1_rotate_0 rfl ?_
  refine x_istore_n (pc2 := 2) (loc2 := [_, _, _]) hC rfl (by decide) rfl dX1_rotate_1 rfl ?_
  exact loop (q + 1) 0 F A (by omega) (by omega) ⟨V, ⟨hS, FRm.rf⟩, rfl, rfl, fun _ _ _ _ => rfl⟩
