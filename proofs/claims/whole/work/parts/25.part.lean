def Q_wp (F : Nat → Nat → Int) (A : Nat → Int → Int) (g qt rs dc x : Nat) (i : Int) (d : Int) : Int → (Nat → Nat → Int) → (Nat → Int → Int) → Prop := fun z F' A' =>
  (∀ o, o ≠ g → o ≠ qt → o ≠ rs → F' o = F o) ∧ (∀ a, a ≠ g + 1 → a ≠ qt + 1 → a ≠ rs + 1 → a ≠ dc → A' a = A a) ∧ (∀ j, j < i ∨ i + 3 ≤ j → A' dc j = A dc j) ∧ WOK F' A' g ∧ WOK F' A' qt ∧ WOK F' A' rs ∧ wv F' A' g = wv F A g ∧
  ((z = 1 ∧ wm F A x / d ≤ 1000000000000000000000000 ∧ triOK (A' dc) i ∧ tri (A' dc) i = F x 0 * (wm F A x / d)) ∨ (z = 0 ∧ 1000000000000000000000000 < wm F A x / d))
theorem big_size {F F' : Nat → Nat → Int} {A A' : Nat → Int → Int} {x g : Nat} {d : Int} (hx : WOK F A x) (hg : WOK F' A' g) (hd : wm F' A' g = d) (d0 : 0 < d) (h : 3 < F x 1 - F' g 1) : 1000000000000000000000000 < wm F A x / d := by
  have h1 := wm_ge hx (by have := hg.1; omega)
  have h2 := wm_lt hg
  rw [hd] at h2
  have h3 : 1000000000000000000000001 ≤ wm F A x / d := by
    refine Int.le_ediv_of_mul_le d0 ?_
    have e : (1000000000 : Int) ^ ((F' g 1).toNat + 3) ≤ 1000000000 ^ ((F x 1).toNat - 1) := pow_le' (by decide) (by have := hg.1; omega)
    rw [Int.pow_add] at e
    have e3 : (1000000000 : Int) ^ 3 = 1000000000000000000000000000 := by decide
    rw [e3] at e
    have p := pow_pos' (B := 1000000000) (by decide) (F' g 1).toNat
    have := Int.mul_le_mul_of_nonneg_left (show d ≤ 1000000000 ^ (F' g 1).toNat by omega) (show (0 : Int) ≤ 1000000000000000000000001 by decide)
    omega
  omega
theorem wm_3 {F : Nat → Nat → Int} {A : Nat → Int → Int} {w : Nat} (h : WOK F A w) (hs : F w 1 ≤ 3) : wm F A w = lim F A w 0 + lim F A w 1 * 1000000000 + lim F A w 2 * 1000000000000000000 := by
  rw [← dv_lim h (n := 3) (by omega), dv_three]
theorem wm_4 {F : Nat → Nat → Int} {A : Nat → Int → Int} {w : Nat} (h : WOK F A w) (hs : 3 < F w 1) : 1000000000000000000000000 < wm F A w := by
  have h1 := wm_ge h (by omega)
  have e : (1000000000 : Int) ^ 3 ≤ 1000000000 ^ ((F w 1).toNat - 1) := pow_le' (by decide) (by omega)
  have e3 : (1000000000 : Int) ^ 3 = 1000000000000000000000000000 := by decide
  omega
theorem tri_mul {f : Int → Int} {i s q0 q1 q2 : Int} (hs : s = 0 ∨ s = 1 ∨ s = -1) (h0 : 0 ≤ q0 ∧ q0 < 1000000000) (h1 : 0 ≤ q1 ∧ q1 < 1000000000) (h2 : 0 ≤ q2 ∧ q2 < 1000000000) (e0 : f i = s * q0) (e1 : f (i + 1) = s * q1) (e2 : f (i + 2) = s * q2) : triOK f i ∧ tri f i = s * (q0 + q1 * 1000000000 + q2 * 1000000000000000000) := by
  have c : ∀ k : Int, 0 ≤ k → k < 3 → f (i + k) = s * q0 ∨ f (i + k) = s * q1 ∨ f (i + k) = s * q2 := fun k a b => by
    rcases (show k = 0 ∨ k = 1 ∨ k = 2 by omega) with r | r | r
    · rw [r, Int.add_zero]; exact Or.inl e0
    · rw [r]; exact Or.inr (Or.inl e1)
    · rw [r]; exact Or.inr (Or.inr e2)
  unfold triOK tri
  rw [e0, e1, e2]
  rcases hs with rfl | rfl | rfl
  · refine ⟨⟨fun k a b => by rcases c k a b with r | r | r <;> rw [r] <;> omega, Or.inl (fun k a b => by rcases c k a b with r | r | r <;> rw [r] <;> omega)⟩, by omega⟩
  · refine ⟨⟨fun k a b => by rcases c k a b with r | r | r <;> rw [r] <;> omega, Or.inl (fun k a b => by rcases c k a b with r | r | r <;> rw [r] <;> omega)⟩, by omega⟩
  · refine ⟨⟨fun k a b => by rcases c k a b with r | r | r <;> rw [r] <;> omega, Or.inr (fun k a b => by rcases c k a b with r | r | r <;> rw [r] <;> omega)⟩, by omega⟩
theorem dX3_writePart_0 : decode cX3_writePart 0 = .ok (.aload_n 1, 1) := by decide +kernel
theorem dX3_writePart_1 : decode cX3_writePart 1 = .ok (.getfield 66, 3) := by decide +kernel
theorem dX3_writePart_4 : decode cX3_writePart 4 = .ok (.aload_n 0, 1) := by decide +kernel
theorem dX3_writePart_5 : decode cX3_writePart 5 = .ok (.getfield 37, 3) := by decide +kernel
theorem dX3_writePart_8 : decode cX3_writePart 8 = .ok (.getfield 66, 3) := by decide +kernel
theorem dX3_writePart_11 : decode cX3_writePart 11 = .ok (.isub, 1) := by decide +kernel
theorem dX3_writePart_12 : decode cX3_writePart 12 = .ok (.iconst 3, 1) := by decide +kernel
theorem dX3_writePart_13 : decode cX3_writePart 13 = .ok (.if_icmp .le 5, 3) := by decide +kernel
theorem dX3_writePart_16 : decode cX3_writePart 16 = .ok (.iconst 0, 1) := by decide +kernel
theorem dX3_writePart_17 : decode cX3_writePart 17 = .ok (.ireturn, 1) := by decide +kernel
theorem dX3_writePart_18 : decode cX3_writePart 18 = .ok (.aload_n 0, 1) := by decide +kernel
theorem dX3_writePart_19 : decode cX3_writePart 19 = .ok (.getfield 34, 3) := by decide +kernel
theorem dX3_writePart_22 : decode cX3_writePart 22 = .ok (.aload_n 1, 1) := by decide +kernel
theorem dX3_writePart_23 : decode cX3_writePart 23 = .ok (.invokevirtual 57, 3) := by decide +kernel
theorem dX3_writePart_26 : decode cX3_writePart 26 = .ok (.aload_n 0, 1) := by decide +kernel
theorem dX3_writePart_27 : decode cX3_writePart 27 = .ok (.getfield 34, 3) := by decide +kernel
theorem dX3_writePart_30 : decode cX3_writePart 30 = .ok (.aload_n 0, 1) := by decide +kernel
theorem dX3_writePart_31 : decode cX3_writePart 31 = .ok (.getfield 37, 3) := by decide +kernel
theorem dX3_writePart_34 : decode cX3_writePart 34 = .ok (.aload_n 0, 1) := by decide +kernel
theorem dX3_writePart_35 : decode cX3_writePart 35 = .ok (.getfield 31, 3) := by decide +kernel
theorem dX3_writePart_38 : decode cX3_writePart 38 = .ok (.invokevirtual 107, 3) := by decide +kernel
theorem dX3_writePart_41 : decode cX3_writePart 41 = .ok (.aload_n 0, 1) := by decide +kernel
theorem dX3_writePart_42 : decode cX3_writePart 42 = .ok (.getfield 31, 3) := by decide +kernel
theorem dX3_writePart_45 : decode cX3_writePart 45 = .ok (.iconst 2, 1) := by decide +kernel
theorem dX3_writePart_46 : decode cX3_writePart 46 = .ok (.invokevirtual 111, 3) := by decide +kernel
theorem dX3_writePart_49 : decode cX3_writePart 49 = .ok (.istore_n 3, 1) := by decide +kernel
theorem dX3_writePart_50 : decode cX3_writePart 50 = .ok (.aload_n 0, 1) := by decide +kernel
theorem dX3_writePart_51 : decode cX3_writePart 51 = .ok (.getfield 31, 3) := by decide +kernel
theorem dX3_writePart_54 : decode cX3_writePart 54 = .ok (.getfield 66, 3) := by decide +kernel
theorem dX3_writePart_57 : decode cX3_writePart 57 = .ok (.iconst 3, 1) := by decide +kernel
theorem dX3_writePart_58 : decode cX3_writePart 58 = .ok (.if_icmp .gt 9, 3) := by decide +kernel
theorem dX3_writePart_61 : decode cX3_writePart 61 = .ok (.iload_n 3, 1) := by decide +kernel
theorem dX3_writePart_62 : decode cX3_writePart 62 = .ok (.ldc 143, 2) := by decide +kernel
theorem dX3_writePart_64 : decode cX3_writePart 64 = .ok (.if_icmp .le 5, 3) := by decide +kernel
theorem dX3_writePart_67 : decode cX3_writePart 67 = .ok (.iconst 0, 1) := by decide +kernel
theorem dX3_writePart_68 : decode cX3_writePart 68 = .ok (.ireturn, 1) := by decide +kernel
theorem dX3_writePart_69 : decode cX3_writePart 69 = .ok (.iload_n 3, 1) := by decide +kernel
theorem dX3_writePart_70 : decode cX3_writePart 70 = .ok (.ldc 143, 2) := by decide +kernel
theorem dX3_writePart_72 : decode cX3_writePart 72 = .ok (.if_icmp .ne 27, 3) := by decide +kernel
theorem dX3_writePart_75 : decode cX3_writePart 75 = .ok (.aload_n 0, 1) := by decide +kernel
theorem dX3_writePart_76 : decode cX3_writePart 76 = .ok (.getfield 31, 3) := by decide +kernel
theorem dX3_writePart_79 : decode cX3_writePart 79 = .ok (.iconst 1, 1) := by decide +kernel
theorem dX3_writePart_80 : decode cX3_writePart 80 = .ok (.invokevirtual 111, 3) := by decide +kernel
theorem dX3_writePart_83 : decode cX3_writePart 83 = .ok (.ifCond .gt 14, 3) := by decide +kernel
theorem dX3_writePart_86 : decode cX3_writePart 86 = .ok (.aload_n 0, 1) := by decide +kernel
theorem dX3_writePart_87 : decode cX3_writePart 87 = .ok (.getfield 31, 3) := by decide +kernel
theorem dX3_writePart_90 : decode cX3_writePart 90 = .ok (.iconst 0, 1) := by decide +kernel
theorem dX3_writePart_91 : decode cX3_writePart 91 = .ok (.invokevirtual 111, 3) := by decide +kernel
theorem dX3_writePart_94 : decode cX3_writePart 94 = .ok (.ifCond .le 5, 3) := by decide +kernel
theorem dX3_writePart_97 : decode cX3_writePart 97 = .ok (.iconst 0, 1) := by decide +kernel
theorem dX3_writePart_98 : decode cX3_writePart 98 = .ok (.ireturn, 1) := by decide +kernel
theorem dX3_writePart_99 : decode cX3_writePart 99 = .ok (.iconst 0, 1) := by decide +kernel
theorem dX3_writePart_100 : decode cX3_writePart 100 = .ok (.istore 4, 2) := by decide +kernel
theorem dX3_writePart_102 : decode cX3_writePart 102 = .ok (.iload 4, 2) := by decide +kernel
theorem dX3_writePart_104 : decode cX3_writePart 104 = .ok (.iconst 3, 1) := by decide +kernel
theorem dX3_writePart_105 : decode cX3_writePart 105 = .ok (.if_icmp .ge 32, 3) := by decide +kernel
theorem dX3_writePart_108 : decode cX3_writePart 108 = .ok (.aload_n 0, 1) := by decide +kernel
theorem dX3_writePart_109 : decode cX3_writePart 109 = .ok (.getfield 9, 3) := by decide +kernel
theorem dX3_writePart_112 : decode cX3_writePart 112 = .ok (.iload_n 2, 1) := by decide +kernel
theorem dX3_writePart_113 : decode cX3_writePart 113 = .ok (.iload 4, 2) := by decide +kernel
theorem dX3_writePart_115 : decode cX3_writePart 115 = .ok (.iadd, 1) := by decide +kernel
theorem dX3_writePart_116 : decode cX3_writePart 116 = .ok (.aload_n 1, 1) := by decide +kernel
theorem dX3_writePart_117 : decode cX3_writePart 117 = .ok (.getfield 46, 3) := by decide +kernel
theorem dX3_writePart_120 : decode cX3_writePart 120 = .ok (.aload_n 0, 1) := by decide +kernel
theorem dX3_writePart_121 : decode cX3_writePart 121 = .ok (.getfield 31, 3) := by decide +kernel
theorem dX3_writePart_124 : decode cX3_writePart 124 = .ok (.iload 4, 2) := by decide +kernel
theorem dX3_writePart_126 : decode cX3_writePart 126 = .ok (.invokevirtual 111, 3) := by decide +kernel
theorem dX3_writePart_129 : decode cX3_writePart 129 = .ok (.imul, 1) := by decide +kernel
theorem dX3_writePart_130 : decode cX3_writePart 130 = .ok (.iastore, 1) := by decide +kernel
theorem dX3_writePart_131 : decode cX3_writePart 131 = .ok (.iinc 4 1, 3) := by decide +kernel
theorem dX3_writePart_134 : decode cX3_writePart 134 = .ok (.goto (-32), 3) := by decide +kernel
theorem dX3_writePart_137 : decode cX3_writePart 137 = .ok (.iconst 1, 1) := by decide +kernel
theorem dX3_writePart_138 : decode cX3_writePart 138 = .ok (.ireturn, 1) := by decide +kernel
set_option maxHeartbeats 4000000 in
theorem m_writePart (l : Launch) {D : va_G} {ids : Nat → ClassId} {β : Nat} {sh : Nat → Nat × Nat} {N : Nat} {R : Nat → Nat → Option Nat} {F : Nat → Nat → Int} {A : Nat → Int → Int} {L dc tp bt qt rs g x : Nat} {i d : Int} (hL : isL sh R N L dc tp bt qt rs) (hdc : dc < N) (hds : sh dc = (1, 144)) (hg : isW sh R N g) (hq : isW sh R N qt) (hr0 : isW sh R N rs) (hx : isW sh R N x) (ngq : g ≠ qt) (ngr : g ≠ rs) (nqr : qt ≠ rs) (nxg : x ≠ g) (nxq : x ≠ qt) (nxr : x ≠ rs) (h5 : F L 5 = (g : Int)) (wg : WOK F A g) (wq : WOK F A qt) (wr : WOK F A rs) (wx : WOK F A x) (hd : wv F A g = d) (d0 : 0 < d) (hsz : F x 1 ≤ 79) (hi : 0 ≤ i ∧ i + 3 ≤ 144) : MetX l yX3_writePart cX3_writePart 5 (some (.boolean)) 4 114 D ids β sh N R F A [rf L, rf x, pI i] (pIr (Q_wp F A g qt rs dc x i d)) := by
  refine MetX.of (loc := [_, _, _, _, _]) (plainFor_of_name (by decide +kernel)) (Nat.le_of_ble_eq_true rfl) rfl ?_
  intro p e s m args below meth c hC hK hr hlk
  obtain ⟨k1, k2, k3, k4, k5, k6, k7⟩ := id hL
  obtain ⟨hg1, hg2, hg3, hg4⟩ := id hg
  obtain ⟨hq1, hq2, hq3, hq4⟩ := id hq
  obtain ⟨hr1, hr2, hr3, hr4⟩ := id hr0
  obtain ⟨hx1, hx2, hx3, hx4⟩ := id hx
  have hg0 : g < N := by omega
  have hq0 : qt < N := by omega
  have hrr0 : rs < N := by omega
  have hx0 : x < N := by omega
  have nLW : ∀ w, isW sh R N w → L ≠ w := fun w h q => by rw [q, h.2.1] at k2; cases k2
  have nLg := nLW g hg
  have nLq := nLW qt hq
  have nLr := nLW rs hr0
  have nDW : ∀ w, isW sh R N w → dc ≠ w + 1 := fun w h q => by rw [q, h.2.2.1] at hds; cases hds
  have nDg := nDW g hg
  have nDq := nDW qt hq
  have nDr := nDW rs hr0
  have mgd : wm F A g = d := by have := wv_pos_iff wg; rw [wm_of_pos wg (by omega), hd]
  obtain ⟨sx1, sx2, -, -, sx5⟩ := id wx
  obtain ⟨sg1, sg2, -, -, -⟩ := id wg
  have sxx : F x 0 = 0 ∨ F x 0 = 1 ∨ F x 0 = -1 := by omega
  refine x_aload_n (pc2 := 1) hC rfl rfl dX3_writePart_0 rfl ?_
  refine g_141 (pc2 := 4) hC hK (by assumption) (by assumption) dX3_writePart_1 rfl ?_
  refine x_aload_n (pc2 := 5) hC rfl rfl dX3_writePart_4 rfl ?_
  refine g_190 (pc2 := 8) hC hK (by assumption) (by assumption) (by assumption) dX3_writePart_5 rfl ?_
  refine g_141 (pc2 := 11) hC hK (by assumption) (by assumption) dX3_writePart_8 rfl ?_
  refine x_isub (pc2 := 12) hC dX3_writePart_11 rfl ?_
  refine x_iconst (pc2 := 13) hC dX3_writePart_12 rfl ?_
  refine x_icmp_le (tgt := 18) (pc2 := 16) hC (by omega) (by omega) dX3_writePart_13 rfl rfl (fun h_13 => ?_) (fun h_13 => ?_)
  · refine x_aload_n (pc2 := 19) hC rfl rfl dX3_writePart_18 rfl ?_
    refine g_189 (pc2 := 22) hC hK (by assumption) (by assumption) (by assumption) dX3_writePart_19 rfl ?_
    refine x_aload_n (pc2 := 23) hC rfl rfl dX3_writePart_22 rfl ?_
    refine x_cVv (pc2 := 26) (ci := 6) hC hK (m_assign l hr0 hx wx) lk_557 rfl rfl (by decide) (by assumption) (by assumption) ⟨Nat.le_of_ble_eq_true rfl, Nat.le_of_ble_eq_true rfl⟩ ⟨Nat.le_refl _, Nat.le_refl _⟩ rfl (Nat.le_of_ble_eq_true rfl) dX3_writePart_23 rfl ?_
    rintro F1 A1 hq23
    obtain ⟨q1, q2, q3, q4⟩ := id hq23
    obtain ⟨q5, q6⟩ := wm_eq_of wx q3 q4
    have r5 : F1 L 5 = (g : Int) := by rw [q1 L nLr]; exact h5
    have wg1 : WOK F1 A1 g := WOK_of (q1 g ngr) (q2 (g + 1) (by omega)) wg
    have mg1 : wm F1 A1 g = d := by rw [wm_of (q1 g ngr) (q2 (g + 1) (by omega))]; exact mgd
    have srs : F1 rs 1 ≤ 79 := by
      have := size_mono (F := F1) (A := A1) (x := x) (y := rs) (WOK_of (q1 x nxr) (q2 (x + 1) (by omega)) wx) q3 (by rw [q6, wm_of (q1 x nxr) (q2 (x + 1) (by omega))]; exact Int.le_refl _)
      rw [q1 x nxr] at this
      omega
    refine x_aload_n (pc2 := 27) hC rfl rfl dX3_writePart_26 rfl ?_
    refine g_189 (pc2 := 30) hC hK (by assumption) (by assumption) (by assumption) dX3_writePart_27 rfl ?_
    refine x_aload_n (pc2 := 31) hC rfl rfl dX3_writePart_30 rfl ?_
    refine g_190 (pc2 := 34) hC hK (by assumption) (by assumption) (by assumption) dX3_writePart_31 rfl ?_
    refine x_aload_n (pc2 := 35) hC rfl rfl dX3_writePart_34 rfl ?_
    refine g_188 (pc2 := 38) hC hK (by assumption) (by assumption) (by assumption) dX3_writePart_35 rfl ?_
    refine x_cVv (pc2 := 41) (ci := 6) hC hK (m_divide l hr0 hg hq (Ne.symm ngr) (Ne.symm nqr) ngq q3 wg1 srs) lk_603 rfl rfl (by decide) (by assumption) (by assumption) ⟨Nat.le_of_ble_eq_true rfl, Nat.le_of_ble_eq_true rfl⟩ ⟨Nat.le_refl _, Nat.le_refl _⟩ rfl (Nat.le_of_ble_eq_true rfl) dX3_writePart_38 rfl ?_
    rintro F3 A3 ⟨p1, p2, p3, p4, p5, p6, p7, p8, p9⟩
    rw [q6, mg1] at p6
    have sx3 : F3 x = F x := by rw [p1 x nxr nxg nxq, q1 x nxr]
    have base : ∀ (AA : Nat → Int → Int) (z : Int), (∀ a, a ≠ dc → AA a = A3 a) → (∀ j, j < i ∨ i + 3 ≤ j → AA dc j = A3 dc j) → ((z = 1 ∧ wm F A x / d ≤ 1000000000000000000000000 ∧ triOK (AA dc) i ∧ tri (AA dc) i = F x 0 * (wm F A x / d)) ∨ (z = 0 ∧ 1000000000000000000000000 < wm F A x / d)) → Q_wp F A g qt rs dc x i d z F3 AA := fun AA z h1 h2 h3 => by
      have ed : A3 dc = A dc := by rw [p2 dc nDr nDg nDq, q2 dc nDr]
      refine ⟨fun o o1 o2 o3 => by rw [p1 o o3 o1 o2, q1 o o3], fun a a1 a2 a3 a4 => by rw [h1 a a4, p2 a a3 a1 a2, q2 a a3], fun j hj => by rw [h2 j hj, ed], WOK_of rfl (h1 (g + 1) (Ne.symm nDg)) p4, WOK_of rfl (h1 (qt + 1) (Ne.symm nDq)) p5, WOK_of rfl (h1 (rs + 1) (Ne.symm nDr)) p3, ?_, h3⟩
      rw [wv_of rfl (h1 (g + 1) (Ne.symm nDg)), p8, wv_of (q1 g ngr) (q2 (g + 1) (by omega))]
    have d2 := lim_dig p5 2
    have d1 := lim_dig p5 1
    have d3 := lim_dig p5 0
    obtain ⟨sq1, sq2, -, -, -⟩ := id p5
    have loop : F3 qt 1 ≤ 3 → wm F A x / d ≤ 1000000000000000000000000 → ∀ (n : Nat) (k : Int) (AA : Nat → Int → Int), (3 - k).toNat < n → 0 ≤ k → k ≤ 3 → (∀ a, a ≠ dc → AA a = A3 a) → (∀ j, j < i ∨ i + 3 ≤ j → AA dc j = A3 dc j) → (∀ j, 0 ≤ j → j < k → AA dc (i + j) = F x 0 * lim F3 A3 qt j) → X p l e { frames := 4, cells := 0, slots := 0, locals := 114 } s m args below meth c (MQ below (QX D ids β sh N R (pIr (Q_wp F A g qt rs dc x i d))) args s 0 0 (inG β N)) (inG β N) D ids β sh 5 0 0 N R F3 AA [some (rf L), some (rf x), some (pI i), some (pI (lim F3 A3 qt 2)), some (pI k)] [] 102 := by
      intro hs3 hle n
      induction n with
      | zero => intro k AA hn; omega
      | succ n ih =>
        intro k AA hn hk0 hk3 hA hB hv
        have wqA : WOK F3 AA qt := WOK_of rfl (hA (qt + 1) (Ne.symm nDq)) p5
        have limA : lim F3 AA qt k = lim F3 A3 qt k := by unfold lim; rw [hA (qt + 1) (Ne.symm nDq)]
        refine x_iload (pc2 := 104) hC rfl dX3_writePart_102 rfl ?_
        refine x_iconst (pc2 := 105) hC dX3_writePart_104 rfl ?_
        refine x_icmp_ge (tgt := 137) (pc2 := 108) hC (by omega) (by omega) dX3_writePart_105 rfl rfl (fun h_105 => ?_) (fun h_105 => ?_)
        · refine x_iconst (pc2 := 138) hC dX3_writePart_137 rfl ?_
          exact x_zret hC (by omega) hr hlk ⟨_, rfl, base AA 1 hA hB (Or.inl ⟨rfl, hle, by
                have e := tri_mul (f := AA dc) (i := i) sxx d3 d1 d2 (by have := hv 0 (by omega) (by omega); rwa [Int.add_zero] at this) (hv 1 (by omega) (by omega)) (hv 2 (by omega) (by omega))
                rw [← wm_3 p5 hs3, p6] at e
                exact e⟩)⟩ dX3_writePart_138
        · refine x_aload_n (pc2 := 109) hC rfl rfl dX3_writePart_108 rfl ?_
          refine g_185 (pc2 := 112) hC hK (by assumption) (by assumption) (by assumption) dX3_writePart_109 rfl ?_
          refine x_iload_n (pc2 := 113) hC rfl rfl dX3_writePart_112 rfl ?_
          refine x_iload (pc2 := 115) hC rfl dX3_writePart_113 rfl ?_
          refine x_iadd (pc2 := 116) hC dX3_writePart_115 rfl ?_
          refine x_aload_n (pc2 := 117) hC rfl rfl dX3_writePart_116 rfl ?_
          refine g_137 (pc2 := 120) hC hK (by assumption) (by assumption) dX3_writePart_117 rfl ?_
          refine x_aload_n (pc2 := 121) hC rfl rfl dX3_writePart_120 rfl ?_
          refine g_188 (pc2 := 124) hC hK (by assumption) (by assumption) (by assumption) dX3_writePart_121 rfl ?_
          refine x_iload (pc2 := 126) hC rfl dX3_writePart_124 rfl ?_
          refine x_cVi (pc2 := 129) (ci := 6) hC hK (m_limbAt l hq wqA ⟨by omega, by omega⟩) lk_587 rfl rfl (by decide) (by assumption) (by assumption) ⟨Nat.le_of_ble_eq_true rfl, Nat.le_of_ble_eq_true rfl⟩ ⟨Nat.le_refl _, Nat.le_refl _⟩ rfl (Nat.le_of_ble_eq_true rfl) dX3_writePart_126 rfl ?_
          rintro z126 F126 A126 ⟨rfl, e1126, e2126⟩
          obtain rfl := e1126.symm
          obtain rfl := e2126.symm
          rw [limA]
          refine x_imul (pc2 := 130) hC dX3_writePart_129 rfl ?_
          refine x_iast (pc2 := 131) hC hK (by assumption) (by assumption) ⟨by omega, by omega⟩ (by decide) dX3_writePart_130 rfl ?_
          refine x_iinc (pc2 := 134) (loc2 := [_, _, _, _, _]) hC (by decide) rfl rfl dX3_writePart_131 rfl ?_
          refine x_goto (pc2 := 102) hC dX3_writePart_134 rfl ?_
          refine ih (k + 1) _ (by omega) (by omega) (by omega) (fun a ha => by rw [uA_ne ha]; exact hA a ha) (fun j hj => by rw [uA_ni (by omega)]; exact hB j hj) (fun j a b => ?_)
          rw [uA_at]
          by_cases e : j = k
          · rw [if_pos (by rw [e]), sx3, e]
          · rw [if_neg (by omega)]; exact hv j a (by omega)
    refine x_aload_n (pc2 := 42) hC rfl rfl dX3_writePart_41 rfl ?_
    refine g_188 (pc2 := 45) hC hK (by assumption) (by assumption) (by assumption) dX3_writePart_42 rfl ?_
    refine x_iconst (pc2 := 46) hC dX3_writePart_45 rfl ?_
    refine x_cVi (pc2 := 49) (ci := 6) hC hK (m_limbAt l hq p5 ⟨by omega, by omega⟩) lk_587 rfl rfl (by decide) (by assumption) (by assumption) ⟨Nat.le_of_ble_eq_true rfl, Nat.le_of_ble_eq_true rfl⟩ ⟨Nat.le_refl _, Nat.le_refl _⟩ rfl (Nat.le_of_ble_eq_true rfl) dX3_writePart_46 rfl ?_
    rintro z46 F46 A46 ⟨rfl, e146, e246⟩
    obtain rfl := e146.symm
    obtain rfl := e246.symm
    refine x_istore_n (pc2 := 50) (loc2 := [_, _, _, _, _]) hC rfl (by decide) rfl dX3_writePart_49 rfl ?_
    refine x_aload_n (pc2 := 51) hC rfl rfl dX3_writePart_50 rfl ?_
    refine g_188 (pc2 := 54) hC hK (by assumption) (by assumption) (by assumption) dX3_writePart_51 rfl ?_
    refine g_141 (pc2 := 57) hC hK (by assumption) (by assumption) dX3_writePart_54 rfl ?_
    refine x_iconst (pc2 := 58) hC dX3_writePart_57 rfl ?_
    refine x_icmp_gt (tgt := 67) (pc2 := 61) hC (by omega) (by omega) dX3_writePart_58 rfl rfl (fun h_58 => ?_) (fun h_58 => ?_)
    · refine x_iconst (pc2 := 68) hC dX3_writePart_67 rfl ?_
      exact x_zret hC (by omega) hr hlk ⟨_, rfl, base A3 0 (fun _ _ => rfl) (fun _ _ => rfl) (Or.inr ⟨rfl, by
                first
                  | (have := wm_4 p5 h_58; rw [p6] at this; exact this)
                  | (have e := wm_3 p5 h_58; rw [p6] at e; omega)⟩)⟩ dX3_writePart_68
    · refine x_iload_n (pc2 := 62) hC rfl rfl dX3_writePart_61 rfl ?_
      refine x_ldc (pc2 := 64) (z := 1000000) hC wt_629 rfl dX3_writePart_62 rfl ?_
      refine x_icmp_le (tgt := 69) (pc2 := 67) hC (by omega) (by omega) dX3_writePart_64 rfl rfl (fun h_64 => ?_) (fun h_64 => ?_)
      · refine x_iload_n (pc2 := 70) hC rfl rfl dX3_writePart_69 rfl ?_
        refine x_ldc (pc2 := 72) (z := 1000000) hC wt_629 rfl dX3_writePart_70 rfl ?_
        refine x_icmp_ne (tgt := 99) (pc2 := 75) hC (by omega) (by omega) dX3_writePart_72 rfl rfl (fun h_72 => ?_) (fun h_72 => ?_)
        · refine x_iconst (pc2 := 100) hC dX3_writePart_99 rfl ?_
          refine x_istore (pc2 := 102) (loc2 := [_, _, _, _, _]) hC (by decide) rfl dX3_writePart_100 rfl ?_
          exact loop h_58 (by
            have e := wm_3 p5 h_58
            rw [p6] at e
            omega) 4 0 A3 (by omega) (by omega) (by omega) (fun _ _ => rfl) (fun _ _ => rfl) (fun j a b => by omega)
        · refine x_aload_n (pc2 := 76) hC rfl rfl dX3_writePart_75 rfl ?_
          refine g_188 (pc2 := 79) hC hK (by assumption) (by assumption) (by assumption) dX3_writePart_76 rfl ?_
          refine x_iconst (pc2 := 80) hC dX3_writePart_79 rfl ?_
          refine x_cVi (pc2 := 83) (ci := 6) hC hK (m_limbAt l hq p5 ⟨by omega, by omega⟩) lk_587 rfl rfl (by decide) (by assumption) (by assumption) ⟨Nat.le_of_ble_eq_true rfl, Nat.le_of_ble_eq_true rfl⟩ ⟨Nat.le_refl _, Nat.le_refl _⟩ rfl (Nat.le_of_ble_eq_true rfl) dX3_writePart_80 rfl ?_
          rintro z80 F80 A80 ⟨rfl, e180, e280⟩
          obtain rfl := e180.symm
          obtain rfl := e280.symm
          refine x_if_gt (tgt := 97) (pc2 := 86) hC (by omega) dX3_writePart_83 rfl rfl (fun h_83 => ?_) (fun h_83 => ?_)
          · refine x_iconst (pc2 := 98) hC dX3_writePart_97 rfl ?_
            exact x_zret hC (by omega) hr hlk ⟨_, rfl, base A3 0 (fun _ _ => rfl) (fun _ _ => rfl) (Or.inr ⟨rfl, by
                      first
                        | (have := wm_4 p5 h_58; rw [p6] at this; exact this)
                        | (have e := wm_3 p5 h_58; rw [p6] at e; omega)⟩)⟩ dX3_writePart_98
          · refine x_aload_n (pc2 := 87) hC rfl rfl dX3_writePart_86 rfl ?_
            refine g_188 (pc2 := 90) hC hK (by assumption) (by assumption) (by assumption) dX3_writePart_87 rfl ?_
            refine x_iconst (pc2 := 91) hC dX3_writePart_90 rfl ?_
            refine x_cVi (pc2 := 94) (ci := 6) hC hK (m_limbAt l hq p5 ⟨by omega, by omega⟩) lk_587 rfl rfl (by decide) (by assumption) (by assumption) ⟨Nat.le_of_ble_eq_true rfl, Nat.le_of_ble_eq_true rfl⟩ ⟨Nat.le_refl _, Nat.le_refl _⟩ rfl (Nat.le_of_ble_eq_true rfl) dX3_writePart_91 rfl ?_
            rintro z91 F91 A91 ⟨rfl, e191, e291⟩
            obtain rfl := e191.symm
            obtain rfl := e291.symm
            refine x_if_le (tgt := 99) (pc2 := 97) hC (by omega) dX3_writePart_94 rfl rfl (fun h_94 => ?_) (fun h_94 => ?_)
            · refine x_iconst (pc2 := 100) hC dX3_writePart_99 rfl ?_
              refine x_istore (pc2 := 102) (loc2 := [_, _, _, _, _]) hC (by decide) rfl dX3_writePart_100 rfl ?_
              exact loop h_58 (by
                have e := wm_3 p5 h_58
                rw [p6] at e
                omega) 4 0 A3 (by omega) (by omega) (by omega) (fun _ _ => rfl) (fun _ _ => rfl) (fun j a b => by omega)
            · refine x_iconst (pc2 := 98) hC dX3_writePart_97 rfl ?_
              exact x_zret hC (by omega) hr hlk ⟨_, rfl, base A3 0 (fun _ _ => rfl) (fun _ _ => rfl) (Or.inr ⟨rfl, by
                        first
                          | (have := wm_4 p5 h_58; rw [p6] at this; exact this)
                          | (have e := wm_3 p5 h_58; rw [p6] at e; omega)⟩)⟩ dX3_writePart_98
      · refine x_iconst (pc2 := 68) hC dX3_writePart_67 rfl ?_
        exact x_zret hC (by omega) hr hlk ⟨_, rfl, base A3 0 (fun _ _ => rfl) (fun _ _ => rfl) (Or.inr ⟨rfl, by
                  first
                    | (have := wm_4 p5 h_58; rw [p6] at this; exact this)
                    | (have e := wm_3 p5 h_58; rw [p6] at e; omega)⟩)⟩ dX3_writePart_68
  · refine x_iconst (pc2 := 17) hC dX3_writePart_16 rfl ?_
    exact x_zret hC (by omega) hr hlk ⟨_, rfl, fun _ _ _ _ => rfl, fun _ _ _ _ _ => rfl, fun _ _ => rfl, wg, wq, wr, rfl, Or.inr ⟨rfl, big_size wx wg mgd d0 h_13⟩⟩ dX3_writePart_17
