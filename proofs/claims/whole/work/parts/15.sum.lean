theorem wv_pos_iff {F : Nat → Nat → Int} {A : Nat → Int → Int} {w : Nat} (h : WOK F A w) : (F w 0 = 1 ∧ 0 < wv F A w) ∨ (F w 0 = 0 ∧ wv F A w = 0) ∨ (F w 0 = -1 ∧ wv F A w < 0) := by
  unfold wv
  rcases h.2.2.2.2 with ⟨q1, q2⟩ | ⟨q1, q2 | q2⟩
  · exact Or.inr (Or.inl ⟨q2, by rw [q2, Int.zero_mul]⟩)
  · exact Or.inl ⟨q2, by rw [q2, Int.one_mul]; exact wm_pos h q1⟩
  · exact Or.inr (Or.inr ⟨q2, by rw [q2]; have := wm_pos h q1; omega⟩)
theorem wm_eq_of {F F' : Nat → Nat → Int} {A A' : Nat → Int → Int} {w y : Nat} (h : WOK F A y) (h' : WOK F' A' w) (e : wv F' A' w = wv F A y) : F' w 0 = F y 0 ∧ wm F' A' w = wm F A y := by
  have a := wv_pos_iff h
  have b := wv_pos_iff h'
  have c : F' w 0 = F y 0 := by omega
  refine ⟨c, ?_⟩
  have n1 := wm_nonneg h
  have n2 := wm_nonneg h'
  have e2 := e
  unfold wv at e2
  rw [c] at e2
  rcases (show F y 0 = 1 ∨ F y 0 = 0 ∨ F y 0 = -1 by omega) with q | q | q
  · rw [q] at e2; omega
  · have z1 := h.2.2.2.2
    have z2 := h'.2.2.2.2
    rw [wm_zero (by omega), wm_zero (by omega)]
  · rw [q] at e2; omega
theorem sum_fin_x0 {F F' : Nat → Nat → Int} {A A' : Nat → Int → Int} {w y : Nat} {sd : Int} (h1 : WOK F A y) (hq : Q_set F A w (wv F A y) F' A') (hs : sd = F y 0 ∨ sd = - F y 0) (hne : sd ≠ 0) {v : Int} (hv : v = sd * wm F A y) : Q_set F A w v (uF F' w 0 sd) A' := by
  obtain ⟨q1, q2, q3, q4⟩ := hq
  obtain ⟨c1, c2⟩ := wm_eq_of h1 q3 q4
  have e0 : uF F' w 0 sd w 0 = sd := uF_eq
  have e1 : uF F' w 0 sd w 1 = F' w 1 := uF_nj (by decide)
  refine ⟨fun o ho => by rw [uF_ne ho]; exact q1 o ho, q2, ?_, ?_⟩
  · obtain ⟨s1, s2, s3, s4, s5⟩ := q3
    unfold WOK
    rw [e0, e1]
    exact ⟨s1, s2, s3, s4, by omega⟩
  · unfold wv
    rw [e0, hv, ← c2]
    unfold wm
    rw [e1]
theorem sgn_side {F : Nat → Nat → Int} {A : Nat → Int → Int} {y : Nat} {ys : Int} (h : WOK F A y) (hys : ys = 1 ∨ ys = -1) : F y 0 * ys = F y 0 ∨ F y 0 * ys = -F y 0 := by
  rcases hys with rfl | rfl <;> omega
theorem mix_add {F : Nat → Nat → Int} {A : Nat → Int → Int} {x y : Nat} (h0 : WOK F A x) (h1 : WOK F A y) : 0 ≤ 1 * wm F A x + 1 * wm F A y ∧ 1 * wm F A x + 1 * wm F A y < 1000000000 ^ (max (F x 1) (F y 1) + 1).toNat := by
  have a1 := wm_lt h0
  have a2 := wm_lt h1
  have b1 := wm_nonneg h0
  have b2 := wm_nonneg h1
  have s1 := h0.1
  have t1 := h1.1
  have c1 := pow_le' (B := 1000000000) (by decide) (show (F x 1).toNat ≤ (max (F x 1) (F y 1)).toNat by omega)
  have c2 := pow_le' (B := 1000000000) (by decide) (show (F y 1).toNat ≤ (max (F x 1) (F y 1)).toNat by omega)
  rw [show (max (F x 1) (F y 1) + 1).toNat = (max (F x 1) (F y 1)).toNat + 1 by omega, Int.pow_succ]
  omega
theorem mix_less {F : Nat → Nat → Int} {A : Nat → Int → Int} {x y : Nat} (h0 : WOK F A x) (h1 : WOK F A y) (h : wm F A y ≤ wm F A x) : 0 ≤ 1 * wm F A x + -1 * wm F A y ∧ 1 * wm F A x + -1 * wm F A y < 1000000000 ^ (F x 1).toNat := by
  have a1 := wm_lt h0
  have b2 := wm_nonneg h1
  omega
theorem sgc_ge {a b : Int} : 0 ≤ sgc a b ↔ b ≤ a := by unfold sgc; split; omega; split <;> omega
theorem size_mono {F : Nat → Nat → Int} {A : Nat → Int → Int} {x y : Nat} (h0 : WOK F A x) (h1 : WOK F A y) (h : wm F A y ≤ wm F A x) : F y 1 ≤ F x 1 := by
  apply Classical.byContradiction
  intro q
  have := wm_size_lt h0 h1 (by omega)
  omega
theorem sum_fin {F F' : Nat → Nat → Int} {A A1 A' : Nat → Int → Int} {w : Nat} {most sd t v : Int} (hm : Q_mix F A w most t F A1) (hq : Q_trim F A1 w most sd F' A') (hv : v = sd * t) : Q_set F A w v F' A' := by
  obtain ⟨-, m2, m3, m4⟩ := hm
  obtain ⟨rfl, q1, q2, q3⟩ := hq
  exact ⟨q1, m2, q2, by rw [q3, m4, hv]⟩
theorem dX6_sum_0 : decode cX6_sum 0 = .ok (.aload_n 2, 1) := by decide +kernel
theorem dX6_sum_1 : decode cX6_sum 1 = .ok (.getfield 15, 3) := by decide +kernel
theorem dX6_sum_4 : decode cX6_sum 4 = .ok (.iload_n 3, 1) := by decide +kernel
theorem dX6_sum_5 : decode cX6_sum 5 = .ok (.imul, 1) := by decide +kernel
theorem dX6_sum_6 : decode cX6_sum 6 = .ok (.istore 4, 2) := by decide +kernel
theorem dX6_sum_8 : decode cX6_sum 8 = .ok (.iload 4, 2) := by decide +kernel
theorem dX6_sum_10 : decode cX6_sum 10 = .ok (.ifCond .ne 11, 3) := by decide +kernel
theorem dX6_sum_13 : decode cX6_sum 13 = .ok (.aload_n 0, 1) := by decide +kernel
theorem dX6_sum_14 : decode cX6_sum 14 = .ok (.aload_n 1, 1) := by decide +kernel
theorem dX6_sum_15 : decode cX6_sum 15 = .ok (.invokevirtual 61, 3) := by decide +kernel
theorem dX6_sum_18 : decode cX6_sum 18 = .ok (.goto 138, 3) := by decide +kernel
theorem dX6_sum_21 : decode cX6_sum 21 = .ok (.aload_n 1, 1) := by decide +kernel
theorem dX6_sum_22 : decode cX6_sum 22 = .ok (.getfield 15, 3) := by decide +kernel
theorem dX6_sum_25 : decode cX6_sum 25 = .ok (.ifCond .ne 17, 3) := by decide +kernel
theorem dX6_sum_28 : decode cX6_sum 28 = .ok (.aload_n 0, 1) := by decide +kernel
theorem dX6_sum_29 : decode cX6_sum 29 = .ok (.aload_n 2, 1) := by decide +kernel
theorem dX6_sum_30 : decode cX6_sum 30 = .ok (.invokevirtual 61, 3) := by decide +kernel
theorem dX6_sum_33 : decode cX6_sum 33 = .ok (.aload_n 0, 1) := by decide +kernel
theorem dX6_sum_34 : decode cX6_sum 34 = .ok (.iload 4, 2) := by decide +kernel
theorem dX6_sum_36 : decode cX6_sum 36 = .ok (.putfield 15, 3) := by decide +kernel
theorem dX6_sum_39 : decode cX6_sum 39 = .ok (.goto 117, 3) := by decide +kernel
theorem dX6_sum_42 : decode cX6_sum 42 = .ok (.aload_n 1, 1) := by decide +kernel
theorem dX6_sum_43 : decode cX6_sum 43 = .ok (.getfield 15, 3) := by decide +kernel
theorem dX6_sum_46 : decode cX6_sum 46 = .ok (.iload 4, 2) := by decide +kernel
theorem dX6_sum_48 : decode cX6_sum 48 = .ok (.if_icmp .ne 39, 3) := by decide +kernel
theorem dX6_sum_51 : decode cX6_sum 51 = .ok (.aload_n 1, 1) := by decide +kernel
theorem dX6_sum_52 : decode cX6_sum 52 = .ok (.getfield 19, 3) := by decide +kernel
theorem dX6_sum_55 : decode cX6_sum 55 = .ok (.aload_n 2, 1) := by decide +kernel
theorem dX6_sum_56 : decode cX6_sum 56 = .ok (.getfield 19, 3) := by decide +kernel
theorem dX6_sum_59 : decode cX6_sum 59 = .ok (.invokestatic 54, 3) := by decide +kernel
theorem dX6_sum_62 : decode cX6_sum 62 = .ok (.iconst 1, 1) := by decide +kernel
theorem dX6_sum_63 : decode cX6_sum 63 = .ok (.iadd, 1) := by decide +kernel
theorem dX6_sum_64 : decode cX6_sum 64 = .ok (.istore 5, 2) := by decide +kernel
theorem dX6_sum_66 : decode cX6_sum 66 = .ok (.aload_n 0, 1) := by decide +kernel
theorem dX6_sum_67 : decode cX6_sum 67 = .ok (.aload_n 1, 1) := by decide +kernel
theorem dX6_sum_68 : decode cX6_sum 68 = .ok (.lconst 1, 1) := by decide +kernel
theorem dX6_sum_69 : decode cX6_sum 69 = .ok (.aload_n 2, 1) := by decide +kernel
theorem dX6_sum_70 : decode cX6_sum 70 = .ok (.lconst 1, 1) := by decide +kernel
theorem dX6_sum_71 : decode cX6_sum 71 = .ok (.iload 5, 2) := by decide +kernel
theorem dX6_sum_73 : decode cX6_sum 73 = .ok (.invokevirtual 65, 3) := by decide +kernel
theorem dX6_sum_76 : decode cX6_sum 76 = .ok (.aload_n 0, 1) := by decide +kernel
theorem dX6_sum_77 : decode cX6_sum 77 = .ok (.iload 5, 2) := by decide +kernel
theorem dX6_sum_79 : decode cX6_sum 79 = .ok (.iload 4, 2) := by decide +kernel
theorem dX6_sum_81 : decode cX6_sum 81 = .ok (.invokevirtual 24, 3) := by decide +kernel
theorem dX6_sum_84 : decode cX6_sum 84 = .ok (.goto 72, 3) := by decide +kernel
theorem dX6_sum_87 : decode cX6_sum 87 = .ok (.aload_n 1, 1) := by decide +kernel
theorem dX6_sum_88 : decode cX6_sum 88 = .ok (.aload_n 2, 1) := by decide +kernel
theorem dX6_sum_89 : decode cX6_sum 89 = .ok (.invokevirtual 43, 3) := by decide +kernel
theorem dX6_sum_92 : decode cX6_sum 92 = .ok (.ifCond .lt 38, 3) := by decide +kernel
theorem dX6_sum_95 : decode cX6_sum 95 = .ok (.aload_n 1, 1) := by decide +kernel
theorem dX6_sum_96 : decode cX6_sum 96 = .ok (.getfield 19, 3) := by decide +kernel
theorem dX6_sum_99 : decode cX6_sum 99 = .ok (.istore 5, 2) := by decide +kernel
theorem dX6_sum_101 : decode cX6_sum 101 = .ok (.aload_n 1, 1) := by decide +kernel
theorem dX6_sum_102 : decode cX6_sum 102 = .ok (.getfield 15, 3) := by decide +kernel
theorem dX6_sum_105 : decode cX6_sum 105 = .ok (.istore 6, 2) := by decide +kernel
theorem dX6_sum_107 : decode cX6_sum 107 = .ok (.aload_n 0, 1) := by decide +kernel
theorem dX6_sum_108 : decode cX6_sum 108 = .ok (.aload_n 1, 1) := by decide +kernel
theorem dX6_sum_109 : decode cX6_sum 109 = .ok (.lconst 1, 1) := by decide +kernel
theorem dX6_sum_110 : decode cX6_sum 110 = .ok (.aload_n 2, 1) := by decide +kernel
theorem dX6_sum_111 : decode cX6_sum 111 = .ok (.ldc2_w 69, 3) := by decide +kernel
theorem dX6_sum_114 : decode cX6_sum 114 = .ok (.iload 5, 2) := by decide +kernel
theorem dX6_sum_116 : decode cX6_sum 116 = .ok (.invokevirtual 65, 3) := by decide +kernel
theorem dX6_sum_119 : decode cX6_sum 119 = .ok (.aload_n 0, 1) := by decide +kernel
theorem dX6_sum_120 : decode cX6_sum 120 = .ok (.iload 5, 2) := by decide +kernel
theorem dX6_sum_122 : decode cX6_sum 122 = .ok (.iload 6, 2) := by decide +kernel
theorem dX6_sum_124 : decode cX6_sum 124 = .ok (.invokevirtual 24, 3) := by decide +kernel
theorem dX6_sum_127 : decode cX6_sum 127 = .ok (.goto 29, 3) := by decide +kernel
theorem dX6_sum_130 : decode cX6_sum 130 = .ok (.aload_n 2, 1) := by decide +kernel
theorem dX6_sum_131 : decode cX6_sum 131 = .ok (.getfield 19, 3) := by decide +kernel
theorem dX6_sum_134 : decode cX6_sum 134 = .ok (.istore 5, 2) := by decide +kernel
theorem dX6_sum_136 : decode cX6_sum 136 = .ok (.aload_n 0, 1) := by decide +kernel
theorem dX6_sum_137 : decode cX6_sum 137 = .ok (.aload_n 2, 1) := by decide +kernel
theorem dX6_sum_138 : decode cX6_sum 138 = .ok (.lconst 1, 1) := by decide +kernel
theorem dX6_sum_139 : decode cX6_sum 139 = .ok (.aload_n 1, 1) := by decide +kernel
theorem dX6_sum_140 : decode cX6_sum 140 = .ok (.ldc2_w 69, 3) := by decide +kernel
theorem dX6_sum_143 : decode cX6_sum 143 = .ok (.iload 5, 2) := by decide +kernel
theorem dX6_sum_145 : decode cX6_sum 145 = .ok (.invokevirtual 65, 3) := by decide +kernel
theorem dX6_sum_148 : decode cX6_sum 148 = .ok (.aload_n 0, 1) := by decide +kernel
theorem dX6_sum_149 : decode cX6_sum 149 = .ok (.iload 5, 2) := by decide +kernel
theorem dX6_sum_151 : decode cX6_sum 151 = .ok (.iload 4, 2) := by decide +kernel
theorem dX6_sum_153 : decode cX6_sum 153 = .ok (.invokevirtual 24, 3) := by decide +kernel
theorem dX6_sum_156 : decode cX6_sum 156 = .ok (.return_, 1) := by decide +kernel
set_option maxHeartbeats 4000000 in
theorem m_sum (l : Launch) {D : va_G} {ids : Nat → ClassId} {β : Nat} {sh : Nat → Nat × Nat} {N : Nat} {R : Nat → Nat → Option Nat} {F : Nat → Nat → Int} {A : Nat → Int → Int} {w x y : Nat} {ys : Int} (hw : isW sh R N w) (hx : isW sh R N x) (hy : isW sh R N y) (h0 : WOK F A x) (h1 : WOK F A y) (hys : ys = 1 ∨ ys = -1) (hsz : F x 1 ≤ 79 ∧ F y 1 ≤ 79) : MetX l yX6_sum cX6_sum 7 none 2 60 D ids β sh N R F A [rf w, rf x, rf y, pI ys] (pVr (Q_set F A w (wv F A x + ys * wv F A y))) := by
  refine MetX.of (loc := [_, _, _, _, _, _, _]) (plainFor_of_name (by decide +kernel)) (Nat.le_of_ble_eq_true rfl) rfl ?_
  intro p e s m args below meth c hC hK hr hlk
  obtain ⟨hw1, hw2, hw3, hw4⟩ := id hw
  have hw0 : w < N := by omega
  obtain ⟨hx1, hx2, hx3, hx4⟩ := id hx
  have hx0 : x < N := by omega
  obtain ⟨hy1, hy2, hy3, hy4⟩ := id hy
  have hy0 : y < N := by omega
  obtain ⟨s1, s2, s3, s4, s5⟩ := id h0
  obtain ⟨t1, t2, t3, t4, t5⟩ := id h1
  have hsd := sgn_side h1 hys
  have vx := wv_pos_iff h0
  have vy := wv_pos_iff h1
  refine x_aload_n (pc2 := 1) hC rfl rfl dX6_sum_0 rfl ?_
  refine g_136 (pc2 := 4) hC hK (by assumption) (by assumption) dX6_sum_1 rfl ?_
  refine x_iload_n (pc2 := 5) hC rfl rfl dX6_sum_4 rfl ?_
  refine x_imul (pc2 := 6) hC dX6_sum_5 rfl ?_
  refine x_istore (pc2 := 8) (loc2 := [_, _, _, _, _, _, _]) hC (by decide) rfl dX6_sum_6 rfl ?_
  refine x_iload (pc2 := 10) hC rfl dX6_sum_8 rfl ?_
  refine x_if_ne (tgt := 21) (pc2 := 13) hC (by omega) dX6_sum_10 rfl rfl (fun h_10 => ?_) (fun h_10 => ?_)
  · refine x_aload_n (pc2 := 22) hC rfl rfl dX6_sum_21 rfl ?_
    refine g_136 (pc2 := 25) hC hK (by assumption) (by assumption) dX6_sum_22 rfl ?_
    refine x_if_ne (tgt := 42) (pc2 := 28) hC (by omega) dX6_sum_25 rfl rfl (fun h_25 => ?_) (fun h_25 => ?_)
    · refine x_aload_n (pc2 := 43) hC rfl rfl dX6_sum_42 rfl ?_
      refine g_136 (pc2 := 46) hC hK (by assumption) (by assumption) dX6_sum_43 rfl ?_
      refine x_iload (pc2 := 48) hC rfl dX6_sum_46 rfl ?_
      refine x_icmp_ne (tgt := 87) (pc2 := 51) hC (by omega) (by omega) dX6_sum_48 rfl rfl (fun h_48 => ?_) (fun h_48 => ?_)
      · refine x_aload_n (pc2 := 88) hC rfl rfl dX6_sum_87 rfl ?_
        refine x_aload_n (pc2 := 89) hC rfl rfl dX6_sum_88 rfl ?_
        refine x_cVi (pc2 := 92) (ci := 6) hC hK (m_compareLimbs l hx hy h0 h1) lk_523 rfl rfl (by decide) (by assumption) (by assumption) ⟨Nat.le_of_ble_eq_true rfl, Nat.le_of_ble_eq_true rfl⟩ ⟨Nat.le_refl _, Nat.le_refl _⟩ rfl (Nat.le_of_ble_eq_true rfl) dX6_sum_89 rfl ?_
        rintro z89 F89 A89 ⟨rfl, e189, e289⟩
        obtain rfl := e189.symm
        obtain rfl := e289.symm
        refine x_if_lt (tgt := 130) (pc2 := 95) hC (by have := @sgc_I (wm F A x) (wm F A y); omega) dX6_sum_92 rfl rfl (fun h_92 => ?_) (fun h_92 => ?_)
        · have hlt : sgc (wm F A x) (wm F A y) < 0 → wm F A x < wm F A y := fun q => Int.not_le.mp (fun r => absurd (sgc_ge.mpr r) (by omega))
          refine x_aload_n (pc2 := 131) hC rfl rfl dX6_sum_130 rfl ?_
          refine g_140 (pc2 := 134) hC hK (by assumption) (by assumption) dX6_sum_131 rfl ?_
          refine x_istore (pc2 := 136) (loc2 := [_, _, _, _, _, _, _]) hC (by decide) rfl dX6_sum_134 rfl ?_
          refine x_aload_n (pc2 := 137) hC rfl rfl dX6_sum_136 rfl ?_
          refine x_aload_n (pc2 := 138) hC rfl rfl dX6_sum_137 rfl ?_
          refine x_lconst1 (pc2 := 139) hC dX6_sum_138 rfl ?_
          refine x_aload_n (pc2 := 140) hC rfl rfl dX6_sum_139 rfl ?_
          refine x_ldc2 (pc2 := 143) (z := -1) hC wt_527 rfl dX6_sum_140 rfl ?_
          refine x_iload (pc2 := 145) hC rfl dX6_sum_143 rfl ?_
          refine x_cVv (pc2 := 148) (ci := 6) hC hK (m_mix l hw hy hx h1 h0 ⟨by omega, size_mono h1 h0 (Int.le_of_lt (hlt h_92)), by omega⟩ mixT_sub (mix_less h1 h0 (Int.le_of_lt (hlt h_92)))) lk_516 rfl rfl (by decide) (by assumption) (by assumption) ⟨Nat.le_of_ble_eq_true rfl, Nat.le_of_ble_eq_true rfl⟩ ⟨Nat.le_refl _, Nat.le_refl _⟩ rfl (Nat.le_of_ble_eq_true rfl) dX6_sum_145 rfl ?_
          rintro F145 A145 ⟨e145, m2, m3, m4⟩
          obtain rfl := e145.symm
          refine x_aload_n (pc2 := 149) hC rfl rfl dX6_sum_148 rfl ?_
          refine x_iload (pc2 := 151) hC rfl dX6_sum_149 rfl ?_
          refine x_iload (pc2 := 153) hC rfl dX6_sum_151 rfl ?_
          refine x_cVv (pc2 := 156) (ci := 6) hC hK (m_trim l hw ⟨by omega, by omega⟩ m3 (by omega)) lk_258 rfl rfl (by decide) (by assumption) (by assumption) ⟨Nat.le_of_ble_eq_true rfl, Nat.le_of_ble_eq_true rfl⟩ ⟨Nat.le_refl _, Nat.le_refl _⟩ rfl (Nat.le_of_ble_eq_true rfl) dX6_sum_153 rfl ?_
          rintro F153 A153 hq
          exact x_vret hC hr hlk ⟨rfl, by
              first
                | (have e : wv F A y = 0 := by omega
                   rw [e, Int.mul_zero, Int.add_zero]; exact hq)
                | (have e : wv F A x = 0 := by omega
                   exact sum_fin_x0 h1 hq (by omega) (by omega) (by rw [e, Int.zero_add]; unfold wv; grind))
                | exact sum_fin ⟨rfl, m2, m3, m4⟩ hq (by unfold wv; rcases (show F x 0 = 1 ∨ F x 0 = -1 by omega) with q | q <;> rcases hys with r | r <;> rcases (show F y 0 = 1 ∨ F y 0 = -1 by omega) with u | u <;> subst r <;> rw [u] at * <;> rw [q] at * <;> omega)⟩ dX6_sum_156
        · refine x_aload_n (pc2 := 96) hC rfl rfl dX6_sum_95 rfl ?_
          refine g_140 (pc2 := 99) hC hK (by assumption) (by assumption) dX6_sum_96 rfl ?_
          refine x_istore (pc2 := 101) (loc2 := [_, _, _, _, _, _, _]) hC (by decide) rfl dX6_sum_99 rfl ?_
          refine x_aload_n (pc2 := 102) hC rfl rfl dX6_sum_101 rfl ?_
          refine g_136 (pc2 := 105) hC hK (by assumption) (by assumption) dX6_sum_102 rfl ?_
          refine x_istore (pc2 := 107) (loc2 := [_, _, _, _, _, _, _]) hC (by decide) rfl dX6_sum_105 rfl ?_
          refine x_aload_n (pc2 := 108) hC rfl rfl dX6_sum_107 rfl ?_
          refine x_aload_n (pc2 := 109) hC rfl rfl dX6_sum_108 rfl ?_
          refine x_lconst1 (pc2 := 110) hC dX6_sum_109 rfl ?_
          refine x_aload_n (pc2 := 111) hC rfl rfl dX6_sum_110 rfl ?_
          refine x_ldc2 (pc2 := 114) (z := -1) hC wt_527 rfl dX6_sum_111 rfl ?_
          refine x_iload (pc2 := 116) hC rfl dX6_sum_114 rfl ?_
          refine x_cVv (pc2 := 119) (ci := 6) hC hK (m_mix l hw hx hy h0 h1 ⟨by omega, size_mono h0 h1 (sgc_ge.mp h_92), by omega⟩ mixT_sub (mix_less h0 h1 (sgc_ge.mp h_92))) lk_516 rfl rfl (by decide) (by assumption) (by assumption) ⟨Nat.le_of_ble_eq_true rfl, Nat.le_of_ble_eq_true rfl⟩ ⟨Nat.le_refl _, Nat.le_refl _⟩ rfl (Nat.le_of_ble_eq_true rfl) dX6_sum_116 rfl ?_
          rintro F116 A116 ⟨e116, m2, m3, m4⟩
          obtain rfl := e116.symm
          refine x_aload_n (pc2 := 120) hC rfl rfl dX6_sum_119 rfl ?_
          refine x_iload (pc2 := 122) hC rfl dX6_sum_120 rfl ?_
          refine x_iload (pc2 := 124) hC rfl dX6_sum_122 rfl ?_
          refine x_cVv (pc2 := 127) (ci := 6) hC hK (m_trim l hw ⟨by omega, by omega⟩ m3 (by omega)) lk_258 rfl rfl (by decide) (by assumption) (by assumption) ⟨Nat.le_of_ble_eq_true rfl, Nat.le_of_ble_eq_true rfl⟩ ⟨Nat.le_refl _, Nat.le_refl _⟩ rfl (Nat.le_of_ble_eq_true rfl) dX6_sum_124 rfl ?_
          rintro F124 A124 hq
          refine x_goto (pc2 := 156) hC dX6_sum_127 rfl ?_
          exact x_vret hC hr hlk ⟨rfl, by
              first
                | (have e : wv F A y = 0 := by omega
                   rw [e, Int.mul_zero, Int.add_zero]; exact hq)
                | (have e : wv F A x = 0 := by omega
                   exact sum_fin_x0 h1 hq (by omega) (by omega) (by rw [e, Int.zero_add]; unfold wv; grind))
                | exact sum_fin ⟨rfl, m2, m3, m4⟩ hq (by unfold wv; rcases (show F x 0 = 1 ∨ F x 0 = -1 by omega) with q | q <;> rcases hys with r | r <;> rcases (show F y 0 = 1 ∨ F y 0 = -1 by omega) with u | u <;> subst r <;> rw [u] at * <;> rw [q] at * <;> omega)⟩ dX6_sum_156
      · refine x_aload_n (pc2 := 52) hC rfl rfl dX6_sum_51 rfl ?_
        refine g_140 (pc2 := 55) hC hK (by assumption) (by assumption) dX6_sum_52 rfl ?_
        refine x_aload_n (pc2 := 56) hC rfl rfl dX6_sum_55 rfl ?_
        refine g_140 (pc2 := 59) hC hK (by assumption) (by assumption) dX6_sum_56 rfl ?_
        refine x_cSi (pc2 := 62) hC hK (m_max l (by omega) (by omega)) lk_502 rfl ⟨Nat.le_of_ble_eq_true rfl, Nat.le_of_ble_eq_true rfl⟩ ⟨Nat.le_refl _, Nat.le_refl _⟩ rfl (Nat.le_of_ble_eq_true rfl) dX6_sum_59 rfl ?_
        rintro z59 F59 A59 ⟨rfl, e159, e259⟩
        obtain rfl := e159.symm
        obtain rfl := e259.symm
        refine x_iconst (pc2 := 63) hC dX6_sum_62 rfl ?_
        refine x_iadd (pc2 := 64) hC dX6_sum_63 rfl ?_
        refine x_istore (pc2 := 66) (loc2 := [_, _, _, _, _, _, _]) hC (by decide) rfl dX6_sum_64 rfl ?_
        refine x_aload_n (pc2 := 67) hC rfl rfl dX6_sum_66 rfl ?_
        refine x_aload_n (pc2 := 68) hC rfl rfl dX6_sum_67 rfl ?_
        refine x_lconst1 (pc2 := 69) hC dX6_sum_68 rfl ?_
        refine x_aload_n (pc2 := 70) hC rfl rfl dX6_sum_69 rfl ?_
        refine x_lconst1 (pc2 := 71) hC dX6_sum_70 rfl ?_
        refine x_iload (pc2 := 73) hC rfl dX6_sum_71 rfl ?_
        refine x_cVv (pc2 := 76) (ci := 6) hC hK (m_mix l hw hx hy h0 h1 ⟨by omega, by omega, by omega⟩ mixT_one (mix_add h0 h1)) lk_516 rfl rfl (by decide) (by assumption) (by assumption) ⟨Nat.le_of_ble_eq_true rfl, Nat.le_of_ble_eq_true rfl⟩ ⟨Nat.le_refl _, Nat.le_refl _⟩ rfl (Nat.le_of_ble_eq_true rfl) dX6_sum_73 rfl ?_
        rintro F73 A73 ⟨e73, m2, m3, m4⟩
        obtain rfl := e73.symm
        refine x_aload_n (pc2 := 77) hC rfl rfl dX6_sum_76 rfl ?_
        refine x_iload (pc2 := 79) hC rfl dX6_sum_77 rfl ?_
        refine x_iload (pc2 := 81) hC rfl dX6_sum_79 rfl ?_
        refine x_cVv (pc2 := 84) (ci := 6) hC hK (m_trim l hw ⟨by omega, by omega⟩ m3 (by omega)) lk_258 rfl rfl (by decide) (by assumption) (by assumption) ⟨Nat.le_of_ble_eq_true rfl, Nat.le_of_ble_eq_true rfl⟩ ⟨Nat.le_refl _, Nat.le_refl _⟩ rfl (Nat.le_of_ble_eq_true rfl) dX6_sum_81 rfl ?_
        rintro F81 A81 hq
        refine x_goto (pc2 := 156) hC dX6_sum_84 rfl ?_
        exact x_vret hC hr hlk ⟨rfl, by
            first
              | (have e : wv F A y = 0 := by omega
                 rw [e, Int.mul_zero, Int.add_zero]; exact hq)
              | (have e : wv F A x = 0 := by omega
                 exact sum_fin_x0 h1 hq (by omega) (by omega) (by rw [e, Int.zero_add]; unfold wv; grind))
              | exact sum_fin ⟨rfl, m2, m3, m4⟩ hq (by unfold wv; rcases (show F x 0 = 1 ∨ F x 0 = -1 by omega) with q | q <;> rcases hys with r | r <;> rcases (show F y 0 = 1 ∨ F y 0 = -1 by omega) with u | u <;> subst r <;> rw [u] at * <;> rw [q] at * <;> omega)⟩ dX6_sum_156
    · refine x_aload_n (pc2 := 29) hC rfl rfl dX6_sum_28 rfl ?_
      refine x_aload_n (pc2 := 30) hC rfl rfl dX6_sum_29 rfl ?_
      refine x_cVv (pc2 := 33) (ci := 6) hC hK (m_assign l hw hy h1) lk_511 rfl rfl (by decide) (by assumption) (by assumption) ⟨Nat.le_of_ble_eq_true rfl, Nat.le_of_ble_eq_true rfl⟩ ⟨Nat.le_refl _, Nat.le_refl _⟩ rfl (Nat.le_of_ble_eq_true rfl) dX6_sum_30 rfl ?_
      rintro F30 A30 hq
      refine x_aload_n (pc2 := 34) hC rfl rfl dX6_sum_33 rfl ?_
      refine x_iload (pc2 := 36) hC rfl dX6_sum_34 rfl ?_
      refine p_136 (pc2 := 39) hC hK (by assumption) (by assumption) dX6_sum_36 rfl ?_
      refine x_goto (pc2 := 156) hC dX6_sum_39 rfl ?_
      exact x_vret hC hr hlk ⟨rfl, by
          first
            | (have e : wv F A y = 0 := by omega
               rw [e, Int.mul_zero, Int.add_zero]; exact hq)
            | (have e : wv F A x = 0 := by omega
               exact sum_fin_x0 h1 hq (by omega) (by omega) (by rw [e, Int.zero_add]; unfold wv; grind))
            | exact sum_fin ⟨rfl, m2, m3, m4⟩ hq (by unfold wv; rcases (show F x 0 = 1 ∨ F x 0 = -1 by omega) with q | q <;> rcases hys with r | r <;> rcases (show F y 0 = 1 ∨ F y 0 = -1 by omega) with u | u <;> subst r <;> rw [u] at * <;> rw [q] at * <;> omega)⟩ dX6_sum_156
  · refine x_aload_n (pc2 := 14) hC rfl rfl dX6_sum_13 rfl ?_
    refine x_aload_n (pc2 := 15) hC rfl rfl dX6_sum_14 rfl ?_
    refine x_cVv (pc2 := 18) (ci := 6) hC hK (m_assign l hw hx h0) lk_511 rfl rfl (by decide) (by assumption) (by assumption) ⟨Nat.le_of_ble_eq_true rfl, Nat.le_of_ble_eq_true rfl⟩ ⟨Nat.le_refl _, Nat.le_refl _⟩ rfl (Nat.le_of_ble_eq_true rfl) dX6_sum_15 rfl ?_
    rintro F15 A15 hq
    refine x_goto (pc2 := 156) hC dX6_sum_18 rfl ?_
    exact x_vret hC hr hlk ⟨rfl, by
        first
          | (have e : wv F A y = 0 := by omega
             rw [e, Int.mul_zero, Int.add_zero]; exact hq)
          | (have e : wv F A x = 0 := by omega
             exact sum_fin_x0 h1 hq (by omega) (by omega) (by rw [e, Int.zero_add]; unfold wv; grind))
          | exact sum_fin ⟨rfl, m2, m3, m4⟩ hq (by unfold wv; rcases (show F x 0 = 1 ∨ F x 0 = -1 by omega) with q | q <;> rcases hys with r | r <;> rcases (show F y 0 = 1 ∨ F y 0 = -1 by omega) with u | u <;> subst r <;> rw [u] at * <;> rw [q] at * <;> omega)⟩ dX6_sum_156
