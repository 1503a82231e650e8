theorem bd_sb {a b c : Nat} {x y : Int} (hx : bd a x) (hy : bd b y) (ha : a + 1 ≤ c) (hb : b + 1 ≤ c) : bd c (x - y) := by
  rw [show x - y = x + -y by omega]; exact bd_add hx (bd_neg hy) ha hb
def tr (V : Int → Int) (z : Int) : T3 := (V z, V (z + 1), V (z + 2))
def tadd (x y : T3) : T3 := (x.1 * y.2.2 + y.1 * x.2.2, x.2.1 * y.2.2 + y.2.1 * x.2.2, x.2.2 * y.2.2)
def tneg (x : T3) : T3 := (-x.1, -x.2.1, x.2.2)
def tmul (x y : T3) : T3 := (x.1 * y.1 - x.2.1 * y.2.1, x.1 * y.2.1 + x.2.1 * y.1, x.2.2 * y.2.2)
def tsq (x : T3) : Int := x.1 * x.1 + x.2.1 * x.2.1
def tmir (x : T3) : T3 := (x.1, -x.2.1, x.2.2)
def tquo (x y : T3) : T3 := ((tmul x (tmir y)).1 * y.2.2, (tmul x (tmir y)).2.1 * y.2.2, x.2.2 * tsq y)
def bdt (a c : Nat) (x : T3) : Prop := bd a x.1 ∧ bd a x.2.1 ∧ bd c x.2.2
theorem bdt_mono {a b c d : Nat} {x : T3} (h : bdt a c x) (h1 : a ≤ b) (h2 : c ≤ d) : bdt b d x := ⟨bd_mono h.1 h1, bd_mono h.2.1 h1, bd_mono h.2.2 h2⟩
theorem bdt_add {a b c d e f : Nat} {x y : T3} (hx : bdt a c x) (hy : bdt b d y) (h1 : a + d + 1 ≤ e) (h2 : b + c + 1 ≤ e) (h3 : c + d ≤ f) : bdt e f (tadd x y) := ⟨bd_add (bd_mul hx.1 hy.2.2 (Nat.le_refl _)) (bd_mul hy.1 hx.2.2 (Nat.le_refl _)) h1 h2, bd_add (bd_mul hx.2.1 hy.2.2 (Nat.le_refl _)) (bd_mul hy.2.1 hx.2.2 (Nat.le_refl _)) h1 h2, bd_mul hx.2.2 hy.2.2 h3⟩
theorem bdt_neg {a c : Nat} {x : T3} (hx : bdt a c x) : bdt a c (tneg x) := ⟨bd_neg hx.1, bd_neg hx.2.1, hx.2.2⟩
theorem bdt_mir {a c : Nat} {x : T3} (hx : bdt a c x) : bdt a c (tmir x) := ⟨hx.1, bd_neg hx.2.1, hx.2.2⟩
theorem bdt_mul {a b c d e f : Nat} {x y : T3} (hx : bdt a c x) (hy : bdt b d y) (h1 : a + b + 1 ≤ e) (h3 : c + d ≤ f) : bdt e f (tmul x y) := ⟨bd_sb (bd_mul hx.1 hy.1 (Nat.le_refl _)) (bd_mul hx.2.1 hy.2.1 (Nat.le_refl _)) h1 h1, bd_add (bd_mul hx.1 hy.2.1 (Nat.le_refl _)) (bd_mul hx.2.1 hy.1 (Nat.le_refl _)) h1 h1, bd_mul hx.2.2 hy.2.2 h3⟩
theorem bd_tsq {a c e : Nat} {x : T3} (hx : bdt a c x) (h : a + a + 1 ≤ e) : bd e (tsq x) := bd_add (bd_mul hx.1 hx.1 (Nat.le_refl _)) (bd_mul hx.2.1 hx.2.1 (Nat.le_refl _)) h h
theorem bdt_quo {a b c d e f : Nat} {x y : T3} (hx : bdt a c x) (hy : bdt b d y) (h1 : a + b + 1 + d ≤ e) (h3 : c + (b + b + 1) ≤ f) : bdt e f (tquo x y) :=
  have m := bdt_mul (e := a + b + 1) (f := c + d) hx (bdt_mir hy) (Nat.le_refl _) (Nat.le_refl _)
  ⟨bd_mul m.1 hy.2.2 h1, bd_mul m.2.1 hy.2.2 h1, bd_mul hx.2.2 (bd_tsq hy (Nat.le_refl _)) h3⟩
/-- a triple is pushed, behind n slots -/
def Tq (n : Int) (F : Nat → Nat → Int) (A : Nat → Int → Int) (T : Int) (V : Int → Int) (v : T3) : Int → (Nat → Nat → Int) → (Nat → Int → Int) → Prop := fun z F' A' => z = T + n ∧ ∃ V', St (T + n + 3) V' F' A' ∧ tr V' (T + n) = v ∧ (∀ u, u < T → V' u = V u) ∧ FrM F A F' A'
theorem Tq.mk {n z : Int} {F F' : Nat → Nat → Int} {A A' : Nat → Int → Int} {T : Int} {V V' : Int → Int} {v : T3} (hz : z = T + n) (hS : St (T + n + 3) V' F' A') (h1 : V' (T + n) = v.1) (h2 : V' (T + n + 1) = v.2.1) (h3 : V' (T + n + 2) = v.2.2) (hk : ∀ u, u < T → V' u = V u) (hf : FrM F A F' A') : Tq n F A T V v z F' A' := ⟨hz, V', hS, Prod.ext h1 (Prod.ext h2 h3), hk, hf⟩
theorem sq_nn (x : Int) : 0 ≤ x * x := by
  rcases Int.lt_or_le x 0 with h | h
  · have := Int.mul_nonneg (show 0 ≤ -x by omega) (show 0 ≤ -x by omega)
    rwa [Int.neg_mul_neg] at this
  · exact Int.mul_nonneg h h
theorem dX8_added_0 : decode cX8_added 0 = .ok (.aload_n 0, 1) := by decide +kernel
theorem dX8_added_1 : decode cX8_added 1 = .ok (.aload_n 0, 1) := by decide +kernel
theorem dX8_added_2 : decode cX8_added 2 = .ok (.aload_n 0, 1) := by decide +kernel
theorem dX8_added_3 : decode cX8_added 3 = .ok (.iload_n 1, 1) := by decide +kernel
theorem dX8_added_4 : decode cX8_added 4 = .ok (.iload_n 2, 1) := by decide +kernel
theorem dX8_added_5 : decode cX8_added 5 = .ok (.iconst 2, 1) := by decide +kernel
theorem dX8_added_6 : decode cX8_added 6 = .ok (.iadd, 1) := by decide +kernel
theorem dX8_added_7 : decode cX8_added 7 = .ok (.invokevirtual 93, 3) := by decide +kernel
theorem dX8_added_10 : decode cX8_added 10 = .ok (.aload_n 0, 1) := by decide +kernel
theorem dX8_added_11 : decode cX8_added 11 = .ok (.iload_n 2, 1) := by decide +kernel
theorem dX8_added_12 : decode cX8_added 12 = .ok (.iload_n 1, 1) := by decide +kernel
theorem dX8_added_13 : decode cX8_added 13 = .ok (.iconst 2, 1) := by decide +kernel
theorem dX8_added_14 : decode cX8_added 14 = .ok (.iadd, 1) := by decide +kernel
theorem dX8_added_15 : decode cX8_added 15 = .ok (.invokevirtual 93, 3) := by decide +kernel
theorem dX8_added_18 : decode cX8_added 18 = .ok (.invokevirtual 77, 3) := by decide +kernel
theorem dX8_added_21 : decode cX8_added 21 = .ok (.aload_n 0, 1) := by decide +kernel
theorem dX8_added_22 : decode cX8_added 22 = .ok (.aload_n 0, 1) := by decide +kernel
theorem dX8_added_23 : decode cX8_added 23 = .ok (.iload_n 1, 1) := by decide +kernel
theorem dX8_added_24 : decode cX8_added 24 = .ok (.iconst 1, 1) := by decide +kernel
theorem dX8_added_25 : decode cX8_added 25 = .ok (.iadd, 1) := by decide +kernel
theorem dX8_added_26 : decode cX8_added 26 = .ok (.iload_n 2, 1) := by decide +kernel
theorem dX8_added_27 : decode cX8_added 27 = .ok (.iconst 2, 1) := by decide +kernel
theorem dX8_added_28 : decode cX8_added 28 = .ok (.iadd, 1) := by decide +kernel
theorem dX8_added_29 : decode cX8_added 29 = .ok (.invokevirtual 93, 3) := by decide +kernel
theorem dX8_added_32 : decode cX8_added 32 = .ok (.aload_n 0, 1) := by decide +kernel
theorem dX8_added_33 : decode cX8_added 33 = .ok (.iload_n 2, 1) := by decide +kernel
theorem dX8_added_34 : decode cX8_added 34 = .ok (.iconst 1, 1) := by decide +kernel
theorem dX8_added_35 : decode cX8_added 35 = .ok (.iadd, 1) := by decide +kernel
theorem dX8_added_36 : decode cX8_added 36 = .ok (.iload_n 1, 1) := by decide +kernel
theorem dX8_added_37 : decode cX8_added 37 = .ok (.iconst 2, 1) := by decide +kernel
theorem dX8_added_38 : decode cX8_added 38 = .ok (.iadd, 1) := by decide +kernel
theorem dX8_added_39 : decode cX8_added 39 = .ok (.invokevirtual 93, 3) := by decide +kernel
theorem dX8_added_42 : decode cX8_added 42 = .ok (.invokevirtual 77, 3) := by decide +kernel
theorem dX8_added_45 : decode cX8_added 45 = .ok (.aload_n 0, 1) := by decide +kernel
theorem dX8_added_46 : decode cX8_added 46 = .ok (.iload_n 1, 1) := by decide +kernel
theorem dX8_added_47 : decode cX8_added 47 = .ok (.iconst 2, 1) := by decide +kernel
theorem dX8_added_48 : decode cX8_added 48 = .ok (.iadd, 1) := by decide +kernel
theorem dX8_added_49 : decode cX8_added 49 = .ok (.iload_n 2, 1) := by decide +kernel
theorem dX8_added_50 : decode cX8_added 50 = .ok (.iconst 2, 1) := by decide +kernel
theorem dX8_added_51 : decode cX8_added 51 = .ok (.iadd, 1) := by decide +kernel
theorem dX8_added_52 : decode cX8_added 52 = .ok (.invokevirtual 93, 3) := by decide +kernel
theorem dX8_added_55 : decode cX8_added 55 = .ok (.invokevirtual 103, 3) := by decide +kernel
theorem dX8_added_58 : decode cX8_added 58 = .ok (.ireturn, 1) := by decide +kernel
set_option maxHeartbeats 4000000 in
theorem t_added (l : Launch) {D : va_G} {ids : Nat → ClassId} {β : Nat} {sh : Nat → Nat × Nat} {N : Nat} {R : Nat → Nat → Option Nat} {F : Nat → Nat → Int} {A : Nat → Int → Int} (hM : MoL sh R N) {T x y : Int} {V : Int → Int} {vx vy : T3} {na nb nc nd : Nat} (hS : St T V F A) (hx : 0 ≤ x ∧ x + 2 < T) (hy : 0 ≤ y ∧ y + 2 < T) (evx : tr V x = vx) (evy : tr V y = vy) (bvx : bdt na nc vx) (bvy : bdt nb nd vy) (hT : T < 1480) (hab : (na + 8) / 9 + (nd + 8) / 9 ≤ 119 ∧ (nb + 8) / 9 + (nc + 8) / 9 ≤ 119 ∧ (nc + 8) / 9 + (nd + 8) / 9 ≤ 119) : MetX l yX8_added cX8_added 3 (some (.int)) 3 69 D ids β sh N R F A [rf 0, pI x, pI y] (pIr (Tq 7 F A T V (tadd vx vy))) := by
  refine MetX.of (loc := [_, _, _]) (plainFor_of_name (by decide +kernel)) (Nat.le_of_ble_eq_true rfl) rfl ?_
  intro p e s m args below meth c hC hK hr hlk
  obtain ⟨⟨m0, m1⟩, ⟨r0, r2, r3, r7, r8, r9, r11, r12, r13, r16, r18⟩, ⟨m2, m3⟩, ⟨m4, m5⟩, ⟨m6, m7⟩, ⟨m8, m9⟩, ⟨m10, m11⟩, ⟨m12, m13⟩, ⟨m14, m15⟩, ⟨m16, m17⟩, ⟨m18, m19⟩, ⟨m20, m21⟩, ⟨m22, m23⟩⟩ := id hM
  have hT0 := hS.2.1
  have x1vx : V (x) = vx.1 := congrArg Prod.fst evx
  have x2vx : V (x + 1) = vx.2.1 := congrArg (fun q => q.2.1) evx
  have x3vx : V (x + 2) = vx.2.2 := congrArg (fun q => q.2.2) evx
  have x1vy : V (y) = vy.1 := congrArg Prod.fst evy
  have x2vy : V (y + 1) = vy.2.1 := congrArg (fun q => q.2.1) evy
  have x3vy : V (y + 2) = vy.2.2 := congrArg (fun q => q.2.2) evy
  refine x_aload_n (pc2 := 1) hC rfl rfl dX8_added_0 rfl ?_
  refine x_aload_n (pc2 := 2) hC rfl rfl dX8_added_1 rfl ?_
  refine x_aload_n (pc2 := 3) hC rfl rfl dX8_added_2 rfl ?_
  refine x_iload_n (pc2 := 4) hC rfl rfl dX8_added_3 rfl ?_
  refine x_iload_n (pc2 := 5) hC rfl rfl dX8_added_4 rfl ?_
  refine x_iconst (pc2 := 6) hC dX8_added_5 rfl ?_
  refine x_iadd (pc2 := 7) hC dX8_added_6 rfl ?_
  refine x_cVi (pc2 := 10) (ci := 8) hC hK (n_times l hM hS (by omega) (x := x) (y := y + 2) ⟨by omega, by omega⟩ ⟨by omega, by omega⟩ (a := na) (b := nd) (by rw [x1vx]; exact bvx.1) (by rw [x3vy]; exact bvy.2.2) (by omega)) lk_953 rfl rfl (by decide) (by assumption) (by assumption) ⟨Nat.le_of_ble_eq_true rfl, Nat.le_of_ble_eq_true rfl⟩ ⟨Nat.le_refl _, Nat.le_refl _⟩ rfl (Nat.le_of_ble_eq_true rfl) dX8_added_7 rfl ?_
  rintro z7 F7 A7 ⟨ez7, V7, hS7, v7, k7, g7⟩
  obtain rfl := ez7.symm
  replace hS7 : St (T + 1) V7 F7 A7 := by first | exact hS7 | (rw [show T + 1 = T + 1 by omega]; exact hS7)
  have q7_0 : V7 (x) = vx.1 := (k7 (x) (by omega)).trans x1vx
  have q7_1 : V7 (x + 1) = vx.2.1 := (k7 (x + 1) (by omega)).trans x2vx
  have q7_2 : V7 (x + 2) = vx.2.2 := (k7 (x + 2) (by omega)).trans x3vx
  have q7_3 : V7 (y) = vy.1 := (k7 (y) (by omega)).trans x1vy
  have q7_4 : V7 (y + 1) = vy.2.1 := (k7 (y + 1) (by omega)).trans x2vy
  have q7_5 : V7 (y + 2) = vy.2.2 := (k7 (y + 2) (by omega)).trans x3vy
  rw [x1vx, x3vy] at v7
  have n7 : V7 (T) = (vx.1 * vy.2.2) := by first | exact v7 | (rw [show T = T by omega]; exact v7)
  refine x_aload_n (pc2 := 11) hC rfl rfl dX8_added_10 rfl ?_
  refine x_iload_n (pc2 := 12) hC rfl rfl dX8_added_11 rfl ?_
  refine x_iload_n (pc2 := 13) hC rfl rfl dX8_added_12 rfl ?_
  refine x_iconst (pc2 := 14) hC dX8_added_13 rfl ?_
  refine x_iadd (pc2 := 15) hC dX8_added_14 rfl ?_
  refine x_cVi (pc2 := 18) (ci := 8) hC hK (n_times l hM hS7 (by omega) (x := y) (y := x + 2) ⟨by omega, by omega⟩ ⟨by omega, by omega⟩ (a := nb) (b := nc) (by rw [q7_3]; exact bvy.1) (by rw [q7_2]; exact bvx.2.2) (by omega)) lk_953 rfl rfl (by decide) (by assumption) (by assumption) ⟨Nat.le_of_ble_eq_true rfl, Nat.le_of_ble_eq_true rfl⟩ ⟨Nat.le_refl _, Nat.le_refl _⟩ rfl (Nat.le_of_ble_eq_true rfl) dX8_added_15 rfl ?_
  rintro z15 F15 A15 ⟨ez15, V15, hS15, v15, k15, g15⟩
  obtain rfl := ez15.symm
  replace hS15 : St (T + 2) V15 F15 A15 := by first | exact hS15 | (rw [show T + 2 = T + 1 + 1 by omega]; exact hS15)
  have q15_0 : V15 (x) = vx.1 := (k15 (x) (by omega)).trans q7_0
  have q15_1 : V15 (x + 1) = vx.2.1 := (k15 (x + 1) (by omega)).trans q7_1
  have q15_2 : V15 (x + 2) = vx.2.2 := (k15 (x + 2) (by omega)).trans q7_2
  have q15_3 : V15 (y) = vy.1 := (k15 (y) (by omega)).trans q7_3
  have q15_4 : V15 (y + 1) = vy.2.1 := (k15 (y + 1) (by omega)).trans q7_4
  have q15_5 : V15 (y + 2) = vy.2.2 := (k15 (y + 2) (by omega)).trans q7_5
  have q15_6 : V15 (T) = (vx.1 * vy.2.2) := (k15 (T) (by omega)).trans n7
  rw [q7_3, q7_2] at v15
  have n15 : V15 (T + 1) = (vy.1 * vx.2.2) := by first | exact v15 | (rw [show T + 1 = T + 1 by omega]; exact v15)
  refine x_cVi (pc2 := 21) (ci := 8) hC hK (n_plus l hM hS15 (by omega) (x := T) (y := T + 1) ⟨by omega, by omega⟩ ⟨by omega, by omega⟩ (a := (na + nd)) (b := (nb + nc)) (by rw [q15_6]; exact (bd_mul bvx.1 bvy.2.2 (Nat.le_refl _))) (by rw [n15]; exact (bd_mul bvy.1 bvx.2.2 (Nat.le_refl _))) ⟨by omega, by omega⟩) lk_996 rfl rfl (by decide) (by assumption) (by assumption) ⟨Nat.le_of_ble_eq_true rfl, Nat.le_of_ble_eq_true rfl⟩ ⟨Nat.le_refl _, Nat.le_refl _⟩ rfl (Nat.le_of_ble_eq_true rfl) dX8_added_18 rfl ?_
  rintro z18 F18 A18 ⟨ez18, V18, hS18, v18, k18, g18⟩
  obtain rfl := ez18.symm
  replace hS18 : St (T + 3) V18 F18 A18 := by first | exact hS18 | (rw [show T + 3 = T + 2 + 1 by omega]; exact hS18)
  have q18_0 : V18 (x) = vx.1 := (k18 (x) (by omega)).trans q15_0
  have q18_1 : V18 (x + 1) = vx.2.1 := (k18 (x + 1) (by omega)).trans q15_1
  have q18_2 : V18 (x + 2) = vx.2.2 := (k18 (x + 2) (by omega)).trans q15_2
  have q18_3 : V18 (y) = vy.1 := (k18 (y) (by omega)).trans q15_3
  have q18_4 : V18 (y + 1) = vy.2.1 := (k18 (y + 1) (by omega)).trans q15_4
  have q18_5 : V18 (y + 2) = vy.2.2 := (k18 (y + 2) (by omega)).trans q15_5
  have q18_6 : V18 (T) = (vx.1 * vy.2.2) := (k18 (T) (by omega)).trans q15_6
  have q18_7 : V18 (T + 1) = (vy.1 * vx.2.2) := (k18 (T + 1) (by omega)).trans n15
  rw [q15_6, n15] at v18
  have n18 : V18 (T + 2) = ((vx.1 * vy.2.2) + (vy.1 * vx.2.2)) := by first | exact v18 | (rw [show T + 2 = T + 2 by omega]; exact v18)
  refine x_aload_n (pc2 := 22) hC rfl rfl dX8_added_21 rfl ?_
  refine x_aload_n (pc2 := 23) hC rfl rfl dX8_added_22 rfl ?_
  refine x_iload_n (pc2 := 24) hC rfl rfl dX8_added_23 rfl ?_
  refine x_iconst (pc2 := 25) hC dX8_added_24 rfl ?_
  refine x_iadd (pc2 := 26) hC dX8_added_25 rfl ?_
  refine x_iload_n (pc2 := 27) hC rfl rfl dX8_added_26 rfl ?_
  refine x_iconst (pc2 := 28) hC dX8_added_27 rfl ?_
  refine x_iadd (pc2 := 29) hC dX8_added_28 rfl ?_
  refine x_cVi (pc2 := 32) (ci := 8) hC hK (n_times l hM hS18 (by omega) (x := x + 1) (y := y + 2) ⟨by omega, by omega⟩ ⟨by omega, by omega⟩ (a := na) (b := nd) (by rw [q18_1]; exact bvx.2.1) (by rw [q18_5]; exact bvy.2.2) (by omega)) lk_953 rfl rfl (by decide) (by assumption) (by assumption) ⟨Nat.le_of_ble_eq_true rfl, Nat.le_of_ble_eq_true rfl⟩ ⟨Nat.le_refl _, Nat.le_refl _⟩ rfl (Nat.le_of_ble_eq_true rfl) dX8_added_29 rfl ?_
  rintro z29 F29 A29 ⟨ez29, V29, hS29, v29, k29, g29⟩
  obtain rfl := ez29.symm
  replace hS29 : St (T + 4) V29 F29 A29 := by first | exact hS29 | (rw [show T + 4 = T + 3 + 1 by omega]; exact hS29)
  have q29_0 : V29 (x) = vx.1 := (k29 (x) (by omega)).trans q18_0
  have q29_1 : V29 (x + 1) = vx.2.1 := (k29 (x + 1) (by omega)).trans q18_1
  have q29_2 : V29 (x + 2) = vx.2.2 := (k29 (x + 2) (by omega)).trans q18_2
  have q29_3 : V29 (y) = vy.1 := (k29 (y) (by omega)).trans q18_3
  have q29_4 : V29 (y + 1) = vy.2.1 := (k29 (y + 1) (by omega)).trans q18_4
  have q29_5 : V29 (y + 2) = vy.2.2 := (k29 (y + 2) (by omega)).trans q18_5
  have q29_6 : V29 (T) = (vx.1 * vy.2.2) := (k29 (T) (by omega)).trans q18_6
  have q29_7 : V29 (T + 1) = (vy.1 * vx.2.2) := (k29 (T + 1) (by omega)).trans q18_7
  have q29_8 : V29 (T + 2) = ((vx.1 * vy.2.2) + (vy.1 * vx.2.2)) := (k29 (T + 2) (by omega)).trans n18
  rw [q18_1, q18_5] at v29
  have n29 : V29 (T + 3) = (vx.2.1 * vy.2.2) := by first | exact v29 | (rw [show T + 3 = T + 3 by omega]; exact v29)
  refine x_aload_n (pc2 := 33) hC rfl rfl dX8_added_32 rfl ?_
  refine x_iload_n (pc2 := 34) hC rfl rfl dX8_added_33 rfl ?_
  refine x_iconst (pc2 := 35) hC dX8_added_34 rfl ?_
  refine x_iadd (pc2 := 36) hC dX8_added_35 rfl ?_
  refine x_iload_n (pc2 := 37) hC rfl rfl dX8_added_36 rfl ?_
  refine x_iconst (pc2 := 38) hC dX8_added_37 rfl ?_
  refine x_iadd (pc2 := 39) hC dX8_added_38 rfl ?_
  refine x_cVi (pc2 := 42) (ci := 8) hC hK (n_times l hM hS29 (by omega) (x := y + 1) (y := x + 2) ⟨by omega, by omega⟩ ⟨by omega, by omega⟩ (a := nb) (b := nc) (by rw [q29_4]; exact bvy.2.1) (by rw [q29_2]; exact bvx.2.2) (by omega)) lk_953 rfl rfl (by decide) (by assumption) (by assumption) ⟨Nat.le_of_ble_eq_true rfl, Nat.le_of_ble_eq_true rfl⟩ ⟨Nat.le_refl _, Nat.le_refl _⟩ rfl (Nat.le_of_ble_eq_true rfl) dX8_added_39 rfl ?_
  rintro z39 F39 A39 ⟨ez39, V39, hS39, v39, k39, g39⟩
  obtain rfl := ez39.symm
  replace hS39 : St (T + 5) V39 F39 A39 := by first | exact hS39 | (rw [show T + 5 = T + 4 + 1 by omega]; exact hS39)
  have q39_0 : V39 (x) = vx.1 := (k39 (x) (by omega)).trans q29_0
  have q39_1 : V39 (x + 1) = vx.2.1 := (k39 (x + 1) (by omega)).trans q29_1
  have q39_2 : V39 (x + 2) = vx.2.2 := (k39 (x + 2) (by omega)).trans q29_2
  have q39_3 : V39 (y) = vy.1 := (k39 (y) (by omega)).trans q29_3
  have q39_4 : V39 (y + 1) = vy.2.1 := (k39 (y + 1) (by omega)).trans q29_4
  have q39_5 : V39 (y + 2) = vy.2.2 := (k39 (y + 2) (by omega)).trans q29_5
  have q39_6 : V39 (T) = (vx.1 * vy.2.2) := (k39 (T) (by omega)).trans q29_6
  have q39_7 : V39 (T + 1) = (vy.1 * vx.2.2) := (k39 (T + 1) (by omega)).trans q29_7
  have q39_8 : V39 (T + 2) = ((vx.1 * vy.2.2) + (vy.1 * vx.2.2)) := (k39 (T + 2) (by omega)).trans q29_8
  have q39_9 : V39 (T + 3) = (vx.2.1 * vy.2.2) := (k39 (T + 3) (by omega)).trans n29
  rw [q29_4, q29_2] at v39
  have n39 : V39 (T + 4) = (vy.2.1 * vx.2.2) := by first | exact v39 | (rw [show T + 4 = T + 4 by omega]; exact v39)
  refine x_cVi (pc2 := 45) (ci := 8) hC hK (n_plus l hM hS39 (by omega) (x := T + 3) (y := T + 4) ⟨by omega, by omega⟩ ⟨by omega, by omega⟩ (a := (na + nd)) (b := (nb + nc)) (by rw [q39_9]; exact (bd_mul bvx.2.1 bvy.2.2 (Nat.le_refl _))) (by rw [n39]; exact (bd_mul bvy.2.1 bvx.2.2 (Nat.le_refl _))) ⟨by omega, by omega⟩) lk_996 rfl rfl (by decide) (by assumption) (by assumption) ⟨Nat.le_of_ble_eq_true rfl, Nat.le_of_ble_eq_true rfl⟩ ⟨Nat.le_refl _, Nat.le_refl _⟩ rfl (Nat.le_of_ble_eq_true rfl) dX8_added_42 rfl ?_
  rintro z42 F42 A42 ⟨ez42, V42, hS42, v42, k42, g42⟩
  obtain rfl := ez42.symm
  replace hS42 : St (T + 6) V42 F42 A42 := by first | exact hS42 | (rw [show T + 6 = T + 5 + 1 by omega]; exact hS42)
  have q42_0 : V42 (x) = vx.1 := (k42 (x) (by omega)).trans q39_0
  have q42_1 : V42 (x + 1) = vx.2.1 := (k42 (x + 1) (by omega)).trans q39_1
  have q42_2 : V42 (x + 2) = vx.2.2 := (k42 (x + 2) (by omega)).trans q39_2
  have q42_3 : V42 (y) = vy.1 := (k42 (y) (by omega)).trans q39_3
  have q42_4 : V42 (y + 1) = vy.2.1 := (k42 (y + 1) (by omega)).trans q39_4
  have q42_5 : V42 (y + 2) = vy.2.2 := (k42 (y + 2) (by omega)).trans q39_5
  have q42_6 : V42 (T) = (vx.1 * vy.2.2) := (k42 (T) (by omega)).trans q39_6
  have q42_7 : V42 (T + 1) = (vy.1 * vx.2.2) := (k42 (T + 1) (by omega)).trans q39_7
  have q42_8 : V42 (T + 2) = ((vx.1 * vy.2.2) + (vy.1 * vx.2.2)) := (k42 (T + 2) (by omega)).trans q39_8
  have q42_9 : V42 (T + 3) = (vx.2.1 * vy.2.2) := (k42 (T + 3) (by omega)).trans q39_9
  have q42_10 : V42 (T + 4) = (vy.2.1 * vx.2.2) := (k42 (T + 4) (by omega)).trans n39
  rw [q39_9, n39] at v42
  have n42 : V42 (T + 5) = ((vx.2.1 * vy.2.2) + (vy.2.1 * vx.2.2)) := by first | exact v42 | (rw [show T + 5 = T + 5 by omega]; exact v42)
  refine x_aload_n (pc2 := 46) hC rfl rfl dX8_added_45 rfl ?_
  refine x_iload_n (pc2 := 47) hC rfl rfl dX8_added_46 rfl ?_
  refine x_iconst (pc2 := 48) hC dX8_added_47 rfl ?_
  refine x_iadd (pc2 := 49) hC dX8_added_48 rfl ?_
  refine x_iload_n (pc2 := 50) hC rfl rfl dX8_added_49 rfl ?_
  refine x_iconst (pc2 := 51) hC dX8_added_50 rfl ?_
  refine x_iadd (pc2 := 52) hC dX8_added_51 rfl ?_
  refine x_cVi (pc2 := 55) (ci := 8) hC hK (n_times l hM hS42 (by omega) (x := x + 2) (y := y + 2) ⟨by omega, by omega⟩ ⟨by omega, by omega⟩ (a := nc) (b := nd) (by rw [q42_2]; exact bvx.2.2) (by rw [q42_5]; exact bvy.2.2) (by omega)) lk_953 rfl rfl (by decide) (by assumption) (by assumption) ⟨Nat.le_of_ble_eq_true rfl, Nat.le_of_ble_eq_true rfl⟩ ⟨Nat.le_refl _, Nat.le_refl _⟩ rfl (Nat.le_of_ble_eq_true rfl) dX8_added_52 rfl ?_
  rintro z52 F52 A52 ⟨ez52, V52, hS52, v52, k52, g52⟩
  obtain rfl := ez52.symm
  replace hS52 : St (T + 7) V52 F52 A52 := by first | exact hS52 | (rw [show T + 7 = T + 6 + 1 by omega]; exact hS52)
  have q52_0 : V52 (x) = vx.1 := (k52 (x) (by omega)).trans q42_0
  have q52_1 : V52 (x + 1) = vx.2.1 := (k52 (x + 1) (by omega)).trans q42_1
  have q52_2 : V52 (x + 2) = vx.2.2 := (k52 (x + 2) (by omega)).trans q42_2
  have q52_3 : V52 (y) = vy.1 := (k52 (y) (by omega)).trans q42_3
  have q52_4 : V52 (y + 1) = vy.2.1 := (k52 (y + 1) (by omega)).trans q42_4
  have q52_5 : V52 (y + 2) = vy.2.2 := (k52 (y + 2) (by omega)).trans q42_5
  have q52_6 : V52 (T) = (vx.1 * vy.2.2) := (k52 (T) (by omega)).trans q42_6
  have q52_7 : V52 (T + 1) = (vy.1 * vx.2.2) := (k52 (T + 1) (by omega)).trans q42_7
  have q52_8 : V52 (T + 2) = ((vx.1 * vy.2.2) + (vy.1 * vx.2.2)) := (k52 (T + 2) (by omega)).trans q42_8
  have q52_9 : V52 (T + 3) = (vx.2.1 * vy.2.2) := (k52 (T + 3) (by omega)).trans q42_9
  have q52_10 : V52 (T + 4) = (vy.2.1 * vx.2.2) := (k52 (T + 4) (by omega)).trans q42_10
  have q52_11 : V52 (T + 5) = ((vx.2.1 * vy.2.2) + (vy.2.1 * vx.2.2)) := (k52 (T + 5) (by omega)).trans n42
  rw [q42_2, q42_5] at v52
  have n52 : V52 (T + 6) = (vx.2.2 * vy.2.2) := by first | exact v52 | (rw [show T + 6 = T + 6 by omega]; exact v52)
  refine x_cVi (pc2 := 58) (ci := 8) hC hK (n_triple l hM hS52 (by omega) (x := T + 2) (y := T + 5) (w := T + 6) ⟨by omega, by omega⟩ ⟨by omega, by omega⟩ ⟨by omega, by omega⟩) lk_911 rfl rfl (by decide) (by assumption) (by assumption) ⟨Nat.le_of_ble_eq_true rfl, Nat.le_of_ble_eq_true rfl⟩ ⟨Nat.le_refl _, Nat.le_refl _⟩ rfl (Nat.le_of_ble_eq_true rfl) dX8_added_55 rfl ?_
  rintro z55 F55 A55 ⟨ez55, V55, hS55, v55, k55, g55⟩
  obtain rfl := ez55.symm
  replace hS55 : St (T + 10) V55 F55 A55 := by first | exact hS55 | (rw [show T + 10 = T + 7 + 3 by omega]; exact hS55)
  have q55_0 : V55 (x) = vx.1 := (k55 (x) (by omega)).trans q52_0
  have q55_1 : V55 (x + 1) = vx.2.1 := (k55 (x + 1) (by omega)).trans q52_1
  have q55_2 : V55 (x + 2) = vx.2.2 := (k55 (x + 2) (by omega)).trans q52_2
  have q55_3 : V55 (y) = vy.1 := (k55 (y) (by omega)).trans q52_3
  have q55_4 : V55 (y + 1) = vy.2.1 := (k55 (y + 1) (by omega)).trans q52_4
  have q55_5 : V55 (y + 2) = vy.2.2 := (k55 (y + 2) (by omega)).trans q52_5
  have q55_6 : V55 (T) = (vx.1 * vy.2.2) := (k55 (T) (by omega)).trans q52_6
  have q55_7 : V55 (T + 1) = (vy.1 * vx.2.2) := (k55 (T + 1) (by omega)).trans q52_7
  have q55_8 : V55 (T + 2) = ((vx.1 * vy.2.2) + (vy.1 * vx.2.2)) := (k55 (T + 2) (by omega)).trans q52_8
  have q55_9 : V55 (T + 3) = (vx.2.1 * vy.2.2) := (k55 (T + 3) (by omega)).trans q52_9
  have q55_10 : V55 (T + 4) = (vy.2.1 * vx.2.2) := (k55 (T + 4) (by omega)).trans q52_10
  have q55_11 : V55 (T + 5) = ((vx.2.1 * vy.2.2) + (vy.2.1 * vx.2.2)) := (k55 (T + 5) (by omega)).trans q52_11
  have q55_12 : V55 (T + 6) = (vx.2.2 * vy.2.2) := (k55 (T + 6) (by omega)).trans n52
  obtain ⟨va55, vb55, vc55⟩ := v55
  rw [q52_8] at va55
  rw [q52_11] at vb55
  rw [n52] at vc55
  exact x_iret hC hr hlk ⟨_, rfl, Tq.mk (by omega) (by rw [show T + 7 + 3 = T + 10 by omega]; exact hS55) (by first | exact va55 | (rw [show T + 7 = T + 7 by omega]; exact va55)) (by first | exact vb55 | (rw [show T + 7 + 1 = T + 7 + 1 by omega]; exact vb55)) (by first | exact vc55 | (rw [show T + 7 + 2 = T + 7 + 2 by omega]; exact vc55)) (fun u hu => (k55 u (by omega)).trans ((k52 u (by omega)).trans ((k42 u (by omega)).trans ((k39 u (by omega)).trans ((k29 u (by omega)).trans ((k18 u (by omega)).trans ((k15 u (by omega)).trans (k7 u (by omega))))))))) (((((((g7.tr g15).tr g18).tr g29).tr g39).tr g42).tr g52).tr g55)⟩ dX8_added_58
theorem dX8_product_0 : decode cX8_product 0 = .ok (.aload_n 0, 1) := by decide +kernel
theorem dX8_product_1 : decode cX8_product 1 = .ok (.aload_n 0, 1) := by decide +kernel
theorem dX8_product_2 : decode cX8_product 2 = .ok (.aload_n 0, 1) := by decide +kernel
theorem dX8_product_3 : decode cX8_product 3 = .ok (.iload_n 1, 1) := by decide +kernel
theorem dX8_product_4 : decode cX8_product 4 = .ok (.iload_n 2, 1) := by decide +kernel
theorem dX8_product_5 : decode cX8_product 5 = .ok (.invokevirtual 93, 3) := by decide +kernel
theorem dX8_product_8 : decode cX8_product 8 = .ok (.aload_n 0, 1) := by decide +kernel
theorem dX8_product_9 : decode cX8_product 9 = .ok (.iload_n 1, 1) := by decide +kernel
theorem dX8_product_10 : decode cX8_product 10 = .ok (.iconst 1, 1) := by decide +kernel
theorem dX8_product_11 : decode cX8_product 11 = .ok (.iadd, 1) := by decide +kernel
theorem dX8_product_12 : decode cX8_product 12 = .ok (.iload_n 2, 1) := by decide +kernel
theorem dX8_product_13 : decode cX8_product 13 = .ok (.iconst 1, 1) := by decide +kernel
theorem dX8_product_14 : decode cX8_product 14 = .ok (.iadd, 1) := by decide +kernel
theorem dX8_product_15 : decode cX8_product 15 = .ok (.invokevirtual 93, 3) := by decide +kernel
theorem dX8_product_18 : decode cX8_product 18 = .ok (.invokevirtual 112, 3) := by decide +kernel
theorem dX8_product_21 : decode cX8_product 21 = .ok (.aload_n 0, 1) := by decide +kernel
theorem dX8_product_22 : decode cX8_product 22 = .ok (.aload_n 0, 1) := by decide +kernel
theorem dX8_product_23 : decode cX8_product 23 = .ok (.iload_n 1, 1) := by decide +kernel
theorem dX8_product_24 : decode cX8_product 24 = .ok (.iload_n 2, 1) := by decide +kernel
theorem dX8_product_25 : decode cX8_product 25 = .ok (.iconst 1, 1) := by decide +kernel
theorem dX8_product_26 : decode cX8_product 26 = .ok (.iadd, 1) := by decide +kernel
theorem dX8_product_27 : decode cX8_product 27 = .ok (.invokevirtual 93, 3) := by decide +kernel
theorem dX8_product_30 : decode cX8_product 30 = .ok (.aload_n 0, 1) := by decide +kernel
theorem dX8_product_31 : decode cX8_product 31 = .ok (.iload_n 1, 1) := by decide +kernel
theorem dX8_product_32 : decode cX8_product 32 = .ok (.iconst 1, 1) := by decide +kernel
theorem dX8_product_33 : decode cX8_product 33 = .ok (.iadd, 1) := by decide +kernel
theorem dX8_product_34 : decode cX8_product 34 = .ok (.iload_n 2, 1) := by decide +kernel
theorem dX8_product_35 : decode cX8_product 35 = .ok (.invokevirtual 93, 3) := by decide +kernel
theorem dX8_product_38 : decode cX8_product 38 = .ok (.invokevirtual 77, 3) := by decide +kernel
theorem dX8_product_41 : decode cX8_product 41 = .ok (.aload_n 0, 1) := by decide +kernel
theorem dX8_product_42 : decode cX8_product 42 = .ok (.iload_n 1, 1) := by decide +kernel
theorem dX8_product_43 : decode cX8_product 43 = .ok (.iconst 2, 1) := by decide +kernel
theorem dX8_product_44 : decode cX8_product 44 = .ok (.iadd, 1) := by decide +kernel
theorem dX8_product_45 : decode cX8_product 45 = .ok (.iload_n 2, 1) := by decide +kernel
theorem dX8_product_46 : decode cX8_product 46 = .ok (.iconst 2, 1) := by decide +kernel
theorem dX8_product_47 : decode cX8_product 47 = .ok (.iadd, 1) := by decide +kernel
theorem dX8_product_48 : decode cX8_product 48 = .ok (.invokevirtual 93, 3) := by decide +kernel
theorem dX8_product_51 : decode cX8_product 51 = .ok (.invokevirtual 103, 3) := by decide +kernel
theorem dX8_product_54 : decode cX8_product 54 = .ok (.ireturn, 1) := by decide +kernel
set_option maxHeartbeats 4000000 in
theorem t_product (l : Launch) {D : va_G} {ids : Nat → ClassId} {β : Nat} {sh : Nat → Nat × Nat} {N : Nat} {R : Nat → Nat → Option Nat} {F : Nat → Nat → Int} {A : Nat → Int → Int} (hM : MoL sh R N) {T x y : Int} {V : Int → Int} {vx vy : T3} {na nb nc nd : Nat} (hS : St T V F A) (hx : 0 ≤ x ∧ x + 2 < T) (hy : 0 ≤ y ∧ y + 2 < T) (evx : tr V x = vx) (evy : tr V y = vy) (bvx : bdt na nc vx) (bvy : bdt nb nd vy) (hT : T < 1480) (hab : (na + 8) / 9 + (nb + 8) / 9 ≤ 119 ∧ (nc + 8) / 9 + (nd + 8) / 9 ≤ 119) : MetX l yX8_product cX8_product 3 (some (.int)) 3 74 D ids β sh N R F A [rf 0, pI x, pI y] (pIr (Tq 8 F A T V (tmul vx vy))) := by
  refine MetX.of (loc := [_, _, _]) (plainFor_of_name (by decide +kernel)) (Nat.le_of_ble_eq_true rfl) rfl ?_
  intro p e s m args below meth c hC hK hr hlk
  obtain ⟨⟨m0, m1⟩, ⟨r0, r2, r3, r7, r8, r9, r11, r12, r13, r16, r18⟩, ⟨m2, m3⟩, ⟨m4, m5⟩, ⟨m6, m7⟩, ⟨m8, m9⟩, ⟨m10, m11⟩, ⟨m12, m13⟩, ⟨m14, m15⟩, ⟨m16, m17⟩, ⟨m18, m19⟩, ⟨m20, m21⟩, ⟨m22, m23⟩⟩ := id hM
  have hT0 := hS.2.1
  have x1vx : V (x) = vx.1 := congrArg Prod.fst evx
  have x2vx : V (x + 1) = vx.2.1 := congrArg (fun q => q.2.1) evx
  have x3vx : V (x + 2) = vx.2.2 := congrArg (fun q => q.2.2) evx
  have x1vy : V (y) = vy.1 := congrArg Prod.fst evy
  have x2vy : V (y + 1) = vy.2.1 := congrArg (fun q => q.2.1) evy
  have x3vy : V (y + 2) = vy.2.2 := congrArg (fun q => q.2.2) evy
  refine x_aload_n (pc2 := 1) hC rfl rfl dX8_product_0 rfl ?_
  refine x_aload_n (pc2 := 2) hC rfl rfl dX8_product_1 rfl ?_
  refine x_aload_n (pc2 := 3) hC rfl rfl dX8_product_2 rfl ?_
  refine x_iload_n (pc2 := 4) hC rfl rfl dX8_product_3 rfl ?_
  refine x_iload_n (pc2 := 5) hC rfl rfl dX8_product_4 rfl ?_
  refine x_cVi (pc2 := 8) (ci := 8) hC hK (n_times l hM hS (by omega) (x := x) (y := y) ⟨by omega, by omega⟩ ⟨by omega, by omega⟩ (a := na) (b := nb) (by rw [x1vx]; exact bvx.1) (by rw [x1vy]; exact bvy.1) (by omega)) lk_953 rfl rfl (by decide) (by assumption) (by assumption) ⟨Nat.le_of_ble_eq_true rfl, Nat.le_of_ble_eq_true rfl⟩ ⟨Nat.le_refl _, Nat.le_refl _⟩ rfl (Nat.le_of_ble_eq_true rfl) dX8_product_5 rfl ?_
  rintro z5 F5 A5 ⟨ez5, V5, hS5, v5, k5, g5⟩
  obtain rfl := ez5.symm
  replace hS5 : St (T + 1) V5 F5 A5 := by first | exact hS5 | (rw [show T + 1 = T + 1 by omega]; exact hS5)
  have q5_0 : V5 (x) = vx.1 := (k5 (x) (by omega)).trans x1vx
  have q5_1 : V5 (x + 1) = vx.2.1 := (k5 (x + 1) (by omega)).trans x2vx
  have q5_2 : V5 (x + 2) = vx.2.2 := (k5 (x + 2) (by omega)).trans x3vx
  have q5_3 : V5 (y) = vy.1 := (k5 (y) (by omega)).trans x1vy
  have q5_4 : V5 (y + 1) = vy.2.1 := (k5 (y + 1) (by omega)).trans x2vy
  have q5_5 : V5 (y + 2) = vy.2.2 := (k5 (y + 2) (by omega)).trans x3vy
  rw [x1vx, x1vy] at v5
  have n5 : V5 (T) = (vx.1 * vy.1) := by first | exact v5 | (rw [show T = T by omega]; exact v5)
  refine x_aload_n (pc2 := 9) hC rfl rfl dX8_product_8 rfl ?_
  refine x_iload_n (pc2 := 10) hC rfl rfl dX8_product_9 rfl ?_
  refine x_iconst (pc2 := 11) hC dX8_product_10 rfl ?_
  refine x_iadd (pc2 := 12) hC dX8_product_11 rfl ?_
  refine x_iload_n (pc2 := 13) hC rfl rfl dX8_product_12 rfl ?_
  refine x_iconst (pc2 := 14) hC dX8_product_13 rfl ?_
  refine x_iadd (pc2 := 15) hC dX8_product_14 rfl ?_
  refine x_cVi (pc2 := 18) (ci := 8) hC hK (n_times l hM hS5 (by omega) (x := x + 1) (y := y + 1) ⟨by omega, by omega⟩ ⟨by omega, by omega⟩ (a := na) (b := nb) (by rw [q5_1]; exact bvx.2.1) (by rw [q5_4]; exact bvy.2.1) (by omega)) lk_953 rfl rfl (by decide) (by assumption) (by assumption) ⟨Nat.le_of_ble_eq_true rfl, Nat.le_of_ble_eq_true rfl⟩ ⟨Nat.le_refl _, Nat.le_refl _⟩ rfl (Nat.le_of_ble_eq_true rfl) dX8_product_15 rfl ?_
  rintro z15 F15 A15 ⟨ez15, V15, hS15, v15, k15, g15⟩
  obtain rfl := ez15.symm
  replace hS15 : St (T + 2) V15 F15 A15 := by first | exact hS15 | (rw [show T + 2 = T + 1 + 1 by omega]; exact hS15)
  have q15_0 : V15 (x) = vx.1 := (k15 (x) (by omega)).trans q5_0
  have q15_1 : V15 (x + 1) = vx.2.1 := (k15 (x + 1) (by omega)).trans q5_1
  have q15_2 : V15 (x + 2) = vx.2.2 := (k15 (x + 2) (by omega)).trans q5_2
  have q15_3 : V15 (y) = vy.1 := (k15 (y) (by omega)).trans q5_3
  have q15_4 : V15 (y + 1) = vy.2.1 := (k15 (y + 1) (by omega)).trans q5_4
  have q15_5 : V15 (y + 2) = vy.2.2 := (k15 (y + 2) (by omega)).trans q5_5
  have q15_6 : V15 (T) = (vx.1 * vy.1) := (k15 (T) (by omega)).trans n5
  rw [q5_1, q5_4] at v15
  have n15 : V15 (T + 1) = (vx.2.1 * vy.2.1) := by first | exact v15 | (rw [show T + 1 = T + 1 by omega]; exact v15)
  refine x_cVi (pc2 := 21) (ci := 8) hC hK (n_less l hM hS15 (by omega) (x := T) (y := T + 1) ⟨by omega, by omega⟩ ⟨by omega, by omega⟩ (a := (na + nb)) (b := (na + nb)) (by rw [q15_6]; exact (bd_mul bvx.1 bvy.1 (Nat.le_refl _))) (by rw [n15]; exact (bd_mul bvx.2.1 bvy.2.1 (Nat.le_refl _))) ⟨by omega, by omega⟩) lk_1008 rfl rfl (by decide) (by assumption) (by assumption) ⟨Nat.le_of_ble_eq_true rfl, Nat.le_of_ble_eq_true rfl⟩ ⟨Nat.le_refl _, Nat.le_refl _⟩ rfl (Nat.le_of_ble_eq_true rfl) dX8_product_18 rfl ?_
  rintro z18 F18 A18 ⟨ez18, V18, hS18, v18, k18, g18⟩
  obtain rfl := ez18.symm
  replace hS18 : St (T + 4) V18 F18 A18 := by first | exact hS18 | (rw [show T + 4 = T + 2 + 2 by omega]; exact hS18)
  have q18_0 : V18 (x) = vx.1 := (k18 (x) (by omega)).trans q15_0
  have q18_1 : V18 (x + 1) = vx.2.1 := (k18 (x + 1) (by omega)).trans q15_1
  have q18_2 : V18 (x + 2) = vx.2.2 := (k18 (x + 2) (by omega)).trans q15_2
  have q18_3 : V18 (y) = vy.1 := (k18 (y) (by omega)).trans q15_3
  have q18_4 : V18 (y + 1) = vy.2.1 := (k18 (y + 1) (by omega)).trans q15_4
  have q18_5 : V18 (y + 2) = vy.2.2 := (k18 (y + 2) (by omega)).trans q15_5
  have q18_6 : V18 (T) = (vx.1 * vy.1) := (k18 (T) (by omega)).trans q15_6
  have q18_7 : V18 (T + 1) = (vx.2.1 * vy.2.1) := (k18 (T + 1) (by omega)).trans n15
  rw [show T + 2 + 1 = T + 3 by omega]
  rw [q15_6, n15] at v18
  have n18 : V18 (T + 3) = ((vx.1 * vy.1) - (vx.2.1 * vy.2.1)) := by first | exact v18 | (rw [show T + 3 = T + 2 + 1 by omega]; exact v18)
  refine x_aload_n (pc2 := 22) hC rfl rfl dX8_product_21 rfl ?_
  refine x_aload_n (pc2 := 23) hC rfl rfl dX8_product_22 rfl ?_
  refine x_iload_n (pc2 := 24) hC rfl rfl dX8_product_23 rfl ?_
  refine x_iload_n (pc2 := 25) hC rfl rfl dX8_product_24 rfl ?_
  refine x_iconst (pc2 := 26) hC dX8_product_25 rfl ?_
  refine x_iadd (pc2 := 27) hC dX8_product_26 rfl ?_
  refine x_cVi (pc2 := 30) (ci := 8) hC hK (n_times l hM hS18 (by omega) (x := x) (y := y + 1) ⟨by omega, by omega⟩ ⟨by omega, by omega⟩ (a := na) (b := nb) (by rw [q18_0]; exact bvx.1) (by rw [q18_4]; exact bvy.2.1) (by omega)) lk_953 rfl rfl (by decide) (by assumption) (by assumption) ⟨Nat.le_of_ble_eq_true rfl, Nat.le_of_ble_eq_true rfl⟩ ⟨Nat.le_refl _, Nat.le_refl _⟩ rfl (Nat.le_of_ble_eq_true rfl) dX8_product_27 rfl ?_
  rintro z27 F27 A27 ⟨ez27, V27, hS27, v27, k27, g27⟩
  obtain rfl := ez27.symm
  replace hS27 : St (T + 5) V27 F27 A27 := by first | exact hS27 | (rw [show T + 5 = T + 4 + 1 by omega]; exact hS27)
  have q27_0 : V27 (x) = vx.1 := (k27 (x) (by omega)).trans q18_0
  have q27_1 : V27 (x + 1) = vx.2.1 := (k27 (x + 1) (by omega)).trans q18_1
  have q27_2 : V27 (x + 2) = vx.2.2 := (k27 (x + 2) (by omega)).trans q18_2
  have q27_3 : V27 (y) = vy.1 := (k27 (y) (by omega)).trans q18_3
  have q27_4 : V27 (y + 1) = vy.2.1 := (k27 (y + 1) (by omega)).trans q18_4
  have q27_5 : V27 (y + 2) = vy.2.2 := (k27 (y + 2) (by omega)).trans q18_5
  have q27_6 : V27 (T) = (vx.1 * vy.1) := (k27 (T) (by omega)).trans q18_6
  have q27_7 : V27 (T + 1) = (vx.2.1 * vy.2.1) := (k27 (T + 1) (by omega)).trans q18_7
  have q27_8 : V27 (T + 3) = ((vx.1 * vy.1) - (vx.2.1 * vy.2.1)) := (k27 (T + 3) (by omega)).trans n18
  rw [q18_0, q18_4] at v27
  have n27 : V27 (T + 4) = (vx.1 * vy.2.1) := by first | exact v27 | (rw [show T + 4 = T + 4 by omega]; exact v27)
  refine x_aload_n (pc2 := 31) hC rfl rfl dX8_product_30 rfl ?_
  refine x_iload_n (pc2 := 32) hC rfl rfl dX8_product_31 rfl ?_
  refine x_iconst (pc2 := 33) hC dX8_product_32 rfl ?_
  refine x_iadd (pc2 := 34) hC dX8_product_33 rfl ?_
  refine x_iload_n (pc2 := 35) hC rfl rfl dX8_product_34 rfl ?_
  refine x_cVi (pc2 := 38) (ci := 8) hC hK (n_times l hM hS27 (by omega) (x := x + 1) (y := y) ⟨by omega, by omega⟩ ⟨by omega, by omega⟩ (a := na) (b := nb) (by rw [q27_1]; exact bvx.2.1) (by rw [q27_3]; exact bvy.1) (by omega)) lk_953 rfl rfl (by decide) (by assumption) (by assumption) ⟨Nat.le_of_ble_eq_true rfl, Nat.le_of_ble_eq_true rfl⟩ ⟨Nat.le_refl _, Nat.le_refl _⟩ rfl (Nat.le_of_ble_eq_true rfl) dX8_product_35 rfl ?_
  rintro z35 F35 A35 ⟨ez35, V35, hS35, v35, k35, g35⟩
  obtain rfl := ez35.symm
  replace hS35 : St (T + 6) V35 F35 A35 := by first | exact hS35 | (rw [show T + 6 = T + 5 + 1 by omega]; exact hS35)
  have q35_0 : V35 (x) = vx.1 := (k35 (x) (by omega)).trans q27_0
  have q35_1 : V35 (x + 1) = vx.2.1 := (k35 (x + 1) (by omega)).trans q27_1
  have q35_2 : V35 (x + 2) = vx.2.2 := (k35 (x + 2) (by omega)).trans q27_2
  have q35_3 : V35 (y) = vy.1 := (k35 (y) (by omega)).trans q27_3
  have q35_4 : V35 (y + 1) = vy.2.1 := (k35 (y + 1) (by omega)).trans q27_4
  have q35_5 : V35 (y + 2) = vy.2.2 := (k35 (y + 2) (by omega)).trans q27_5
  have q35_6 : V35 (T) = (vx.1 * vy.1) := (k35 (T) (by omega)).trans q27_6
  have q35_7 : V35 (T + 1) = (vx.2.1 * vy.2.1) := (k35 (T + 1) (by omega)).trans q27_7
  have q35_8 : V35 (T + 3) = ((vx.1 * vy.1) - (vx.2.1 * vy.2.1)) := (k35 (T + 3) (by omega)).trans q27_8
  have q35_9 : V35 (T + 4) = (vx.1 * vy.2.1) := (k35 (T + 4) (by omega)).trans n27
  rw [q27_1, q27_3] at v35
  have n35 : V35 (T + 5) = (vx.2.1 * vy.1) := by first | exact v35 | (rw [show T + 5 = T + 5 by omega]; exact v35)
  refine x_cVi (pc2 := 41) (ci := 8) hC hK (n_plus l hM hS35 (by omega) (x := T + 4) (y := T + 5) ⟨by omega, by omega⟩ ⟨by omega, by omega⟩ (a := (na + nb)) (b := (na + nb)) (by rw [q35_9]; exact (bd_mul bvx.1 bvy.2.1 (Nat.le_refl _))) (by rw [n35]; exact (bd_mul bvx.2.1 bvy.1 (Nat.le_refl _))) ⟨by omega, by omega⟩) lk_996 rfl rfl (by decide) (by assumption) (by assumption) ⟨Nat.le_of_ble_eq_true rfl, Nat.le_of_ble_eq_true rfl⟩ ⟨Nat.le_refl _, Nat.le_refl _⟩ rfl (Nat.le_of_ble_eq_true rfl) dX8_product_38 rfl ?_
  rintro z38 F38 A38 ⟨ez38, V38, hS38, v38, k38, g38⟩
  obtain rfl := ez38.symm
  replace hS38 : St (T + 7) V38 F38 A38 := by first | exact hS38 | (rw [show T + 7 = T + 6 + 1 by omega]; exact hS38)
  have q38_0 : V38 (x) = vx.1 := (k38 (x) (by omega)).trans q35_0
  have q38_1 : V38 (x + 1) = vx.2.1 := (k38 (x + 1) (by omega)).trans q35_1
  have q38_2 : V38 (x + 2) = vx.2.2 := (k38 (x + 2) (by omega)).trans q35_2
  have q38_3 : V38 (y) = vy.1 := (k38 (y) (by omega)).trans q35_3
  have q38_4 : V38 (y + 1) = vy.2.1 := (k38 (y + 1) (by omega)).trans q35_4
  have q38_5 : V38 (y + 2) = vy.2.2 := (k38 (y + 2) (by omega)).trans q35_5
  have q38_6 : V38 (T) = (vx.1 * vy.1) := (k38 (T) (by omega)).trans q35_6
  have q38_7 : V38 (T + 1) = (vx.2.1 * vy.2.1) := (k38 (T + 1) (by omega)).trans q35_7
  have q38_8 : V38 (T + 3) = ((vx.1 * vy.1) - (vx.2.1 * vy.2.1)) := (k38 (T + 3) (by omega)).trans q35_8
  have q38_9 : V38 (T + 4) = (vx.1 * vy.2.1) := (k38 (T + 4) (by omega)).trans q35_9
  have q38_10 : V38 (T + 5) = (vx.2.1 * vy.1) := (k38 (T + 5) (by omega)).trans n35
  rw [q35_9, n35] at v38
  have n38 : V38 (T + 6) = ((vx.1 * vy.2.1) + (vx.2.1 * vy.1)) := by first | exact v38 | (rw [show T + 6 = T + 6 by omega]; exact v38)
  refine x_aload_n (pc2 := 42) hC rfl rfl dX8_product_41 rfl ?_
  refine x_iload_n (pc2 := 43) hC rfl rfl dX8_product_42 rfl ?_
  refine x_iconst (pc2 := 44) hC dX8_product_43 rfl ?_
  refine x_iadd (pc2 := 45) hC dX8_product_44 rfl ?_
  refine x_iload_n (pc2 := 46) hC rfl rfl dX8_product_45 rfl ?_
  refine x_iconst (pc2 := 47) hC dX8_product_46 rfl ?_
  refine x_iadd (pc2 := 48) hC dX8_product_47 rfl ?_
  refine x_cVi (pc2 := 51) (ci := 8) hC hK (n_times l hM hS38 (by omega) (x := x + 2) (y := y + 2) ⟨by omega, by omega⟩ ⟨by omega, by omega⟩ (a := nc) (b := nd) (by rw [q38_2]; exact bvx.2.2) (by rw [q38_5]; exact bvy.2.2) (by omega)) lk_953 rfl rfl (by decide) (by assumption) (by assumption) ⟨Nat.le_of_ble_eq_true rfl, Nat.le_of_ble_eq_true rfl⟩ ⟨Nat.le_refl _, Nat.le_refl _⟩ rfl (Nat.le_of_ble_eq_true rfl) dX8_product_48 rfl ?_
  rintro z48 F48 A48 ⟨ez48, V48, hS48, v48, k48, g48⟩
  obtain rfl := ez48.symm
  replace hS48 : St (T + 8) V48 F48 A48 := by first | exact hS48 | (rw [show T + 8 = T + 7 + 1 by omega]; exact hS48)
  have q48_0 : V48 (x) = vx.1 := (k48 (x) (by omega)).trans q38_0
  have q48_1 : V48 (x + 1) = vx.2.1 := (k48 (x + 1) (by omega)).trans q38_1
  have q48_2 : V48 (x + 2) = vx.2.2 := (k48 (x + 2) (by omega)).trans q38_2
  have q48_3 : V48 (y) = vy.1 := (k48 (y) (by omega)).trans q38_3
  have q48_4 : V48 (y + 1) = vy.2.1 := (k48 (y + 1) (by omega)).trans q38_4
  have q48_5 : V48 (y + 2) = vy.2.2 := (k48 (y + 2) (by omega)).trans q38_5
  have q48_6 : V48 (T) = (vx.1 * vy.1) := (k48 (T) (by omega)).trans q38_6
  have q48_7 : V48 (T + 1) = (vx.2.1 * vy.2.1) := (k48 (T + 1) (by omega)).trans q38_7
  have q48_8 : V48 (T + 3) = ((vx.1 * vy.1) - (vx.2.1 * vy.2.1)) := (k48 (T + 3) (by omega)).trans q38_8
  have q48_9 : V48 (T + 4) = (vx.1 * vy.2.1) := (k48 (T + 4) (by omega)).trans q38_9
  have q48_10 : V48 (T + 5) = (vx.2.1 * vy.1) := (k48 (T + 5) (by omega)).trans q38_10
  have q48_11 : V48 (T + 6) = ((vx.1 * vy.2.1) + (vx.2.1 * vy.1)) := (k48 (T + 6) (by omega)).trans n38
  rw [q38_2, q38_5] at v48
  have n48 : V48 (T + 7) = (vx.2.2 * vy.2.2) := by first | exact v48 | (rw [show T + 7 = T + 7 by omega]; exact v48)
  refine x_cVi (pc2 := 54) (ci := 8) hC hK (n_triple l hM hS48 (by omega) (x := T + 3) (y := T + 6) (w := T + 7) ⟨by omega, by omega⟩ ⟨by omega, by omega⟩ ⟨by omega, by omega⟩) lk_911 rfl rfl (by decide) (by assumption) (by assumption) ⟨Nat.le_of_ble_eq_true rfl, Nat.le_of_ble_eq_true rfl⟩ ⟨Nat.le_refl _, Nat.le_refl _⟩ rfl (Nat.le_of_ble_eq_true rfl) dX8_product_51 rfl ?_
  rintro z51 F51 A51 ⟨ez51, V51, hS51, v51, k51, g51⟩
  obtain rfl := ez51.symm
  replace hS51 : St (T + 11) V51 F51 A51 := by first | exact hS51 | (rw [show T + 11 = T + 8 + 3 by omega]; exact hS51)
  have q51_0 : V51 (x) = vx.1 := (k51 (x) (by omega)).trans q48_0
  have q51_1 : V51 (x + 1) = vx.2.1 := (k51 (x + 1) (by omega)).trans q48_1
  have q51_2 : V51 (x + 2) = vx.2.2 := (k51 (x + 2) (by omega)).trans q48_2
  have q51_3 : V51 (y) = vy.1 := (k51 (y) (by omega)).trans q48_3
  have q51_4 : V51 (y + 1) = vy.2.1 := (k51 (y + 1) (by omega)).trans q48_4
  have q51_5 : V51 (y + 2) = vy.2.2 := (k51 (y + 2) (by omega)).trans q48_5
  have q51_6 : V51 (T) = (vx.1 * vy.1) := (k51 (T) (by omega)).trans q48_6
  have q51_7 : V51 (T + 1) = (vx.2.1 * vy.2.1) := (k51 (T + 1) (by omega)).trans q48_7
  have q51_8 : V51 (T + 3) = ((vx.1 * vy.1) - (vx.2.1 * vy.2.1)) := (k51 (T + 3) (by omega)).trans q48_8
  have q51_9 : V51 (T + 4) = (vx.1 * vy.2.1) := (k51 (T + 4) (by omega)).trans q48_9
  have q51_10 : V51 (T + 5) = (vx.2.1 * vy.1) := (k51 (T + 5) (by omega)).trans q48_10
  have q51_11 : V51 (T + 6) = ((vx.1 * vy.2.1) + (vx.2.1 * vy.1)) := (k51 (T + 6) (by omega)).trans q48_11
  have q51_12 : V51 (T + 7) = (vx.2.2 * vy.2.2) := (k51 (T + 7) (by omega)).trans n48
  obtain ⟨va51, vb51, vc51⟩ := v51
  rw [q48_8] at va51
  rw [q48_11] at vb51
  rw [n48] at vc51
  exact x_iret hC hr hlk ⟨_, rfl, Tq.mk (by omega) (by rw [show T + 8 + 3 = T + 11 by omega]; exact hS51) (by first | exact va51 | (rw [show T + 8 = T + 8 by omega]; exact va51)) (by first | exact vb51 | (rw [show T + 8 + 1 = T + 8 + 1 by omega]; exact vb51)) (by first | exact vc51 | (rw [show T + 8 + 2 = T + 8 + 2 by omega]; exact vc51)) (fun u hu => (k51 u (by omega)).trans ((k48 u (by omega)).trans ((k38 u (by omega)).trans ((k35 u (by omega)).trans ((k27 u (by omega)).trans ((k18 u (by omega)).trans ((k15 u (by omega)).trans (k5 u (by omega))))))))) (((((((g5.tr g15).tr g18).tr g27).tr g35).tr g38).tr g48).tr g51)⟩ dX8_product_54
theorem dX8_turnedSign_0 : decode cX8_turnedSign 0 = .ok (.aload_n 0, 1) := by decide +kernel
theorem dX8_turnedSign_1 : decode cX8_turnedSign 1 = .ok (.aload_n 0, 1) := by decide +kernel
theorem dX8_turnedSign_2 : decode cX8_turnedSign 2 = .ok (.iload_n 1, 1) := by decide +kernel
theorem dX8_turnedSign_3 : decode cX8_turnedSign 3 = .ok (.invokevirtual 73, 3) := by decide +kernel
theorem dX8_turnedSign_6 : decode cX8_turnedSign 6 = .ok (.aload_n 0, 1) := by decide +kernel
theorem dX8_turnedSign_7 : decode cX8_turnedSign 7 = .ok (.iload_n 1, 1) := by decide +kernel
theorem dX8_turnedSign_8 : decode cX8_turnedSign 8 = .ok (.iconst 1, 1) := by decide +kernel
theorem dX8_turnedSign_9 : decode cX8_turnedSign 9 = .ok (.iadd, 1) := by decide +kernel
theorem dX8_turnedSign_10 : decode cX8_turnedSign 10 = .ok (.invokevirtual 73, 3) := by decide +kernel
theorem dX8_turnedSign_13 : decode cX8_turnedSign 13 = .ok (.iload_n 1, 1) := by decide +kernel
theorem dX8_turnedSign_14 : decode cX8_turnedSign 14 = .ok (.iconst 2, 1) := by decide +kernel
theorem dX8_turnedSign_15 : decode cX8_turnedSign 15 = .ok (.iadd, 1) := by decide +kernel
theorem dX8_turnedSign_16 : decode cX8_turnedSign 16 = .ok (.invokevirtual 103, 3) := by decide +kernel
theorem dX8_turnedSign_19 : decode cX8_turnedSign 19 = .ok (.ireturn, 1) := by decide +kernel
set_option maxHeartbeats 4000000 in
theorem t_neg (l : Launch) {D : va_G} {ids : Nat → ClassId} {β : Nat} {sh : Nat → Nat × Nat} {N : Nat} {R : Nat → Nat → Option Nat} {F : Nat → Nat → Int} {A : Nat → Int → Int} (hM : MoL sh R N) {T x : Int} {V : Int → Int} {vx : T3} {na nc : Nat} (hS : St T V F A) (hx : 0 ≤ x ∧ x + 2 < T) (evx : tr V x = vx) (bvx : bdt na nc vx) (hT : T < 1490) : MetX l yX8_turnedSign cX8_turnedSign 2 (some (.int)) 3 69 D ids β sh N R F A [rf 0, pI x] (pIr (Tq 2 F A T V (tneg vx))) := by
  refine MetX.of (loc := [_, _]) (plainFor_of_name (by decide +kernel)) (Nat.le_of_ble_eq_true rfl) rfl ?_
  intro p e s m args below meth c hC hK hr hlk
  obtain ⟨⟨m0, m1⟩, ⟨r0, r2, r3, r7, r8, r9, r11, r12, r13, r16, r18⟩, ⟨m2, m3⟩, ⟨m4, m5⟩, ⟨m6, m7⟩, ⟨m8, m9⟩, ⟨m10, m11⟩, ⟨m12, m13⟩, ⟨m14, m15⟩, ⟨m16, m17⟩, ⟨m18, m19⟩, ⟨m20, m21⟩, ⟨m22, m23⟩⟩ := id hM
  have hT0 := hS.2.1
  have x1vx : V (x) = vx.1 := congrArg Prod.fst evx
  have x2vx : V (x + 1) = vx.2.1 := congrArg (fun q => q.2.1) evx
  have x3vx : V (x + 2) = vx.2.2 := congrArg (fun q => q.2.2) evx
  refine x_aload_n (pc2 := 1) hC rfl rfl dX8_turnedSign_0 rfl ?_
  refine x_aload_n (pc2 := 2) hC rfl rfl dX8_turnedSign_1 rfl ?_
  refine x_iload_n (pc2 := 3) hC rfl rfl dX8_turnedSign_2 rfl ?_
  refine x_cVi (pc2 := 6) (ci := 8) hC hK (n_minus l hM hS (by omega) (x := x) ⟨by omega, by omega⟩) lk_915 rfl rfl (by decide) (by assumption) (by assumption) ⟨Nat.le_of_ble_eq_true rfl, Nat.le_of_ble_eq_true rfl⟩ ⟨Nat.le_refl _, Nat.le_refl _⟩ rfl (Nat.le_of_ble_eq_true rfl) dX8_turnedSign_3 rfl ?_
  rintro z3 F3 A3 ⟨ez3, V3, hS3, v3, k3, g3⟩
  obtain rfl := ez3.symm
  replace hS3 : St (T + 1) V3 F3 A3 := by first | exact hS3 | (rw [show T + 1 = T + 1 by omega]; exact hS3)
  have q3_0 : V3 (x) = vx.1 := (k3 (x) (by omega)).trans x1vx
  have q3_1 : V3 (x + 1) = vx.2.1 := (k3 (x + 1) (by omega)).trans x2vx
  have q3_2 : V3 (x + 2) = vx.2.2 := (k3 (x + 2) (by omega)).trans x3vx
  rw [x1vx] at v3
  have n3 : V3 (T) = (-vx.1) := by first | exact v3 | (rw [show T = T by omega]; exact v3)
  refine x_aload_n (pc2 := 7) hC rfl rfl dX8_turnedSign_6 rfl ?_
  refine x_iload_n (pc2 := 8) hC rfl rfl dX8_turnedSign_7 rfl ?_
  refine x_iconst (pc2 := 9) hC dX8_turnedSign_8 rfl ?_
  refine x_iadd (pc2 := 10) hC dX8_turnedSign_9 rfl ?_
  refine x_cVi (pc2 := 13) (ci := 8) hC hK (n_minus l hM hS3 (by omega) (x := x + 1) ⟨by omega, by omega⟩) lk_915 rfl rfl (by decide) (by assumption) (by assumption) ⟨Nat.le_of_ble_eq_true rfl, Nat.le_of_ble_eq_true rfl⟩ ⟨Nat.le_refl _, Nat.le_refl _⟩ rfl (Nat.le_of_ble_eq_true rfl) dX8_turnedSign_10 rfl ?_
  rintro z10 F10 A10 ⟨ez10, V10, hS10, v10, k10, g10⟩
  obtain rfl := ez10.symm
  replace hS10 : St (T + 2) V10 F10 A10 := by first | exact hS10 | (rw [show T + 2 = T + 1 + 1 by omega]; exact hS10)
  have q10_0 : V10 (x) = vx.1 := (k10 (x) (by omega)).trans q3_0
  have q10_1 : V10 (x + 1) = vx.2.1 := (k10 (x + 1) (by omega)).trans q3_1
  have q10_2 : V10 (x + 2) = vx.2.2 := (k10 (x + 2) (by omega)).trans q3_2
  have q10_3 : V10 (T) = (-vx.1) := (k10 (T) (by omega)).trans n3
  rw [q3_1] at v10
  have n10 : V10 (T + 1) = (-vx.2.1) := by first | exact v10 | (rw [show T + 1 = T + 1 by omega]; exact v10)
  refine x_iload_n (pc2 := 14) hC rfl rfl dX8_turnedSign_13 rfl ?_
  refine x_iconst (pc2 := 15) hC dX8_turnedSign_14 rfl ?_
  refine x_iadd (pc2 := 16) hC dX8_turnedSign_15 rfl ?_
  refine x_cVi (pc2 := 19) (ci := 8) hC hK (n_triple l hM hS10 (by omega) (x := T) (y := T + 1) (w := x + 2) ⟨by omega, by omega⟩ ⟨by omega, by omega⟩ ⟨by omega, by omega⟩) lk_911 rfl rfl (by decide) (by assumption) (by assumption) ⟨Nat.le_of_ble_eq_true rfl, Nat.le_of_ble_eq_true rfl⟩ ⟨Nat.le_refl _, Nat.le_refl _⟩ rfl (Nat.le_of_ble_eq_true rfl) dX8_turnedSign_16 rfl ?_
  rintro z16 F16 A16 ⟨ez16, V16, hS16, v16, k16, g16⟩
  obtain rfl := ez16.symm
  replace hS16 : St (T + 5) V16 F16 A16 := by first | exact hS16 | (rw [show T + 5 = T + 2 + 3 by omega]; exact hS16)
  have q16_0 : V16 (x) = vx.1 := (k16 (x) (by omega)).trans q10_0
  have q16_1 : V16 (x + 1) = vx.2.1 := (k16 (x + 1) (by omega)).trans q10_1
  have q16_2 : V16 (x + 2) = vx.2.2 := (k16 (x + 2) (by omega)).trans q10_2
  have q16_3 : V16 (T) = (-vx.1) := (k16 (T) (by omega)).trans q10_3
  have q16_4 : V16 (T + 1) = (-vx.2.1) := (k16 (T + 1) (by omega)).trans n10
  obtain ⟨va16, vb16, vc16⟩ := v16
  rw [q10_3] at va16
  rw [n10] at vb16
  rw [q10_2] at vc16
  exact x_iret hC hr hlk ⟨_, rfl, Tq.mk (by omega) (by rw [show T + 2 + 3 = T + 5 by omega]; exact hS16) (by first | exact va16 | (rw [show T + 2 = T + 2 by omega]; exact va16)) (by first | exact vb16 | (rw [show T + 2 + 1 = T + 2 + 1 by omega]; exact vb16)) (by first | exact vc16 | (rw [show T + 2 + 2 = T + 2 + 2 by omega]; exact vc16)) (fun u hu => (k16 u (by omega)).trans ((k10 u (by omega)).trans (k3 u (by omega)))) ((g3.tr g10).tr g16)⟩ dX8_turnedSign_19
theorem dX8_mirrored_0 : decode cX8_mirrored 0 = .ok (.aload_n 0, 1) := by decide +kernel
theorem dX8_mirrored_1 : decode cX8_mirrored 1 = .ok (.iload_n 1, 1) := by decide +kernel
theorem dX8_mirrored_2 : decode cX8_mirrored 2 = .ok (.aload_n 0, 1) := by decide +kernel
theorem dX8_mirrored_3 : decode cX8_mirrored 3 = .ok (.iload_n 1, 1) := by decide +kernel
theorem dX8_mirrored_4 : decode cX8_mirrored 4 = .ok (.iconst 1, 1) := by decide +kernel
theorem dX8_mirrored_5 : decode cX8_mirrored 5 = .ok (.iadd, 1) := by decide +kernel
theorem dX8_mirrored_6 : decode cX8_mirrored 6 = .ok (.invokevirtual 73, 3) := by decide +kernel
theorem dX8_mirrored_9 : decode cX8_mirrored 9 = .ok (.iload_n 1, 1) := by decide +kernel
theorem dX8_mirrored_10 : decode cX8_mirrored 10 = .ok (.iconst 2, 1) := by decide +kernel
theorem dX8_mirrored_11 : decode cX8_mirrored 11 = .ok (.iadd, 1) := by decide +kernel
theorem dX8_mirrored_12 : decode cX8_mirrored 12 = .ok (.invokevirtual 103, 3) := by decide +kernel
theorem dX8_mirrored_15 : decode cX8_mirrored 15 = .ok (.ireturn, 1) := by decide +kernel
set_option maxHeartbeats 4000000 in
theorem t_mir (l : Launch) {D : va_G} {ids : Nat → ClassId} {β : Nat} {sh : Nat → Nat × Nat} {N : Nat} {R : Nat → Nat → Option Nat} {F : Nat → Nat → Int} {A : Nat → Int → Int} (hM : MoL sh R N) {T x : Int} {V : Int → Int} {vx : T3} {na nc : Nat} (hS : St T V F A) (hx : 0 ≤ x ∧ x + 2 < T) (evx : tr V x = vx) (bvx : bdt na nc vx) (hT : T < 1490) : MetX l yX8_mirrored cX8_mirrored 2 (some (.int)) 3 69 D ids β sh N R F A [rf 0, pI x] (pIr (Tq 1 F A T V (tmir vx))) := by
  refine MetX.of (loc := [_, _]) (plainFor_of_name (by decide +kernel)) (Nat.le_of_ble_eq_true rfl) rfl ?_
  intro p e s m args below meth c hC hK hr hlk
  obtain ⟨⟨m0, m1⟩, ⟨r0, r2, r3, r7, r8, r9, r11, r12, r13, r16, r18⟩, ⟨m2, m3⟩, ⟨m4, m5⟩, ⟨m6, m7⟩, ⟨m8, m9⟩, ⟨m10, m11⟩, ⟨m12, m13⟩, ⟨m14, m15⟩, ⟨m16, m17⟩, ⟨m18, m19⟩, ⟨m20, m21⟩, ⟨m22, m23⟩⟩ := id hM
  have hT0 := hS.2.1
  have x1vx : V (x) = vx.1 := congrArg Prod.fst evx
  have x2vx : V (x + 1) = vx.2.1 := congrArg (fun q => q.2.1) evx
  have x3vx : V (x + 2) = vx.2.2 := congrArg (fun q => q.2.2) evx
  refine x_aload_n (pc2 := 1) hC rfl rfl dX8_mirrored_0 rfl ?_
  refine x_iload_n (pc2 := 2) hC rfl rfl dX8_mirrored_1 rfl ?_
  refine x_aload_n (pc2 := 3) hC rfl rfl dX8_mirrored_2 rfl ?_
  refine x_iload_n (pc2 := 4) hC rfl rfl dX8_mirrored_3 rfl ?_
  refine x_iconst (pc2 := 5) hC dX8_mirrored_4 rfl ?_
  refine x_iadd (pc2 := 6) hC dX8_mirrored_5 rfl ?_
  refine x_cVi (pc2 := 9) (ci := 8) hC hK (n_minus l hM hS (by omega) (x := x + 1) ⟨by omega, by omega⟩) lk_915 rfl rfl (by decide) (by assumption) (by assumption) ⟨Nat.le_of_ble_eq_true rfl, Nat.le_of_ble_eq_true rfl⟩ ⟨Nat.le_refl _, Nat.le_refl _⟩ rfl (Nat.le_of_ble_eq_true rfl) dX8_mirrored_6 rfl ?_
  rintro z6 F6 A6 ⟨ez6, V6, hS6, v6, k6, g6⟩
  obtain rfl := ez6.symm
  replace hS6 : St (T + 1) V6 F6 A6 := by first | exact hS6 | (rw [show T + 1 = T + 1 by omega]; exact hS6)
  have q6_0 : V6 (x) = vx.1 := (k6 (x) (by omega)).trans x1vx
  have q6_1 : V6 (x + 1) = vx.2.1 := (k6 (x + 1) (by omega)).trans x2vx
  have q6_2 : V6 (x + 2) = vx.2.2 := (k6 (x + 2) (by omega)).trans x3vx
  rw [x2vx] at v6
  have n6 : V6 (T) = (-vx.2.1) := by first | exact v6 | (rw [show T = T by omega]; exact v6)
  refine x_iload_n (pc2 := 10) hC rfl rfl dX8_mirrored_9 rfl ?_
  refine x_iconst (pc2 := 11) hC dX8_mirrored_10 rfl ?_
  refine x_iadd (pc2 := 12) hC dX8_mirrored_11 rfl ?_
  refine x_cVi (pc2 := 15) (ci := 8) hC hK (n_triple l hM hS6 (by omega) (x := x) (y := T) (w := x + 2) ⟨by omega, by omega⟩ ⟨by omega, by omega⟩ ⟨by omega, by omega⟩) lk_911 rfl rfl (by decide) (by assumption) (by assumption) ⟨Nat.le_of_ble_eq_true rfl, Nat.le_of_ble_eq_true rfl⟩ ⟨Nat.le_refl _, Nat.le_refl _⟩ rfl (Nat.le_of_ble_eq_true rfl) dX8_mirrored_12 rfl ?_
  rintro z12 F12 A12 ⟨ez12, V12, hS12, v12, k12, g12⟩
  obtain rfl := ez12.symm
  replace hS12 : St (T + 4) V12 F12 A12 := by first | exact hS12 | (rw [show T + 4 = T + 1 + 3 by omega]; exact hS12)
  have q12_0 : V12 (x) = vx.1 := (k12 (x) (by omega)).trans q6_0
  have q12_1 : V12 (x + 1) = vx.2.1 := (k12 (x + 1) (by omega)).trans q6_1
  have q12_2 : V12 (x + 2) = vx.2.2 := (k12 (x + 2) (by omega)).trans q6_2
  have q12_3 : V12 (T) = (-vx.2.1) := (k12 (T) (by omega)).trans n6
  obtain ⟨va12, vb12, vc12⟩ := v12
  rw [q6_0] at va12
  rw [n6] at vb12
  rw [q6_2] at vc12
  exact x_iret hC hr hlk ⟨_, rfl, Tq.mk (by omega) (by rw [show T + 1 + 3 = T + 4 by omega]; exact hS12) (by first | exact va12 | (rw [show T + 1 = T + 1 by omega]; exact va12)) (by first | exact vb12 | (rw [show T + 1 + 1 = T + 1 + 1 by omega]; exact vb12)) (by first | exact vc12 | (rw [show T + 1 + 2 = T + 1 + 2 by omega]; exact vc12)) (fun u hu => (k12 u (by omega)).trans (k6 u (by omega))) (g6.tr g12)⟩ dX8_mirrored_15
theorem dX8_square_0 : decode cX8_square 0 = .ok (.aload_n 0, 1) := by decide +kernel
theorem dX8_square_1 : decode cX8_square 1 = .ok (.aload_n 0, 1) := by decide +kernel
theorem dX8_square_2 : decode cX8_square 2 = .ok (.iload_n 1, 1) := by decide +kernel
theorem dX8_square_3 : decode cX8_square 3 = .ok (.iload_n 1, 1) := by decide +kernel
theorem dX8_square_4 : decode cX8_square 4 = .ok (.invokevirtual 93, 3) := by decide +kernel
theorem dX8_square_7 : decode cX8_square 7 = .ok (.aload_n 0, 1) := by decide +kernel
theorem dX8_square_8 : decode cX8_square 8 = .ok (.iload_n 1, 1) := by decide +kernel
theorem dX8_square_9 : decode cX8_square 9 = .ok (.iconst 1, 1) := by decide +kernel
theorem dX8_square_10 : decode cX8_square 10 = .ok (.iadd, 1) := by decide +kernel
theorem dX8_square_11 : decode cX8_square 11 = .ok (.iload_n 1, 1) := by decide +kernel
theorem dX8_square_12 : decode cX8_square 12 = .ok (.iconst 1, 1) := by decide +kernel
theorem dX8_square_13 : decode cX8_square 13 = .ok (.iadd, 1) := by decide +kernel
theorem dX8_square_14 : decode cX8_square 14 = .ok (.invokevirtual 93, 3) := by decide +kernel
theorem dX8_square_17 : decode cX8_square 17 = .ok (.invokevirtual 77, 3) := by decide +kernel
theorem dX8_square_20 : decode cX8_square 20 = .ok (.ireturn, 1) := by decide +kernel
set_option maxHeartbeats 4000000 in
theorem t_sq (l : Launch) {D : va_G} {ids : Nat → ClassId} {β : Nat} {sh : Nat → Nat × Nat} {N : Nat} {R : Nat → Nat → Option Nat} {F : Nat → Nat → Int} {A : Nat → Int → Int} (hM : MoL sh R N) {T x : Int} {V : Int → Int} {vx : T3} {na nc : Nat} (hS : St T V F A) (hx : 0 ≤ x ∧ x + 2 < T) (evx : tr V x = vx) (bvx : bdt na nc vx) (hT : T < 1490) (hab : (na + 8) / 9 ≤ 59) : MetX l yX8_square cX8_square 2 (some (.int)) 2 52 D ids β sh N R F A [rf 0, pI x] (pIr (fun z F2 A2 => z = T + 2 ∧ ∃ V2, St (T + 3) V2 F2 A2 ∧ V2 (T + 2) = tsq vx ∧ (∀ u, u < T → V2 u = V u) ∧ FrM F A F2 A2)) := by
  refine MetX.of (loc := [_, _]) (plainFor_of_name (by decide +kernel)) (Nat.le_of_ble_eq_true rfl) rfl ?_
  intro p e s m args below meth c hC hK hr hlk
  obtain ⟨⟨m0, m1⟩, ⟨r0, r2, r3, r7, r8, r9, r11, r12, r13, r16, r18⟩, ⟨m2, m3⟩, ⟨m4, m5⟩, ⟨m6, m7⟩, ⟨m8, m9⟩, ⟨m10, m11⟩, ⟨m12, m13⟩, ⟨m14, m15⟩, ⟨m16, m17⟩, ⟨m18, m19⟩, ⟨m20, m21⟩, ⟨m22, m23⟩⟩ := id hM
  have hT0 := hS.2.1
  have x1vx : V (x) = vx.1 := congrArg Prod.fst evx
  have x2vx : V (x + 1) = vx.2.1 := congrArg (fun q => q.2.1) evx
  have x3vx : V (x + 2) = vx.2.2 := congrArg (fun q => q.2.2) evx
  refine x_aload_n (pc2 := 1) hC rfl rfl dX8_square_0 rfl ?_
  refine x_aload_n (pc2 := 2) hC rfl rfl dX8_square_1 rfl ?_
  refine x_iload_n (pc2 := 3) hC rfl rfl dX8_square_2 rfl ?_
  refine x_iload_n (pc2 := 4) hC rfl rfl dX8_square_3 rfl ?_
  refine x_cVi (pc2 := 7) (ci := 8) hC hK (n_times l hM hS (by omega) (x := x) (y := x) ⟨by omega, by omega⟩ ⟨by omega, by omega⟩ (a := na) (b := na) (by rw [x1vx]; exact bvx.1) (by rw [x1vx]; exact bvx.1) (by omega)) lk_953 rfl rfl (by decide) (by assumption) (by assumption) ⟨Nat.le_of_ble_eq_true rfl, Nat.le_of_ble_eq_true rfl⟩ ⟨Nat.le_refl _, Nat.le_refl _⟩ rfl (Nat.le_of_ble_eq_true rfl) dX8_square_4 rfl ?_
  rintro z4 F4 A4 ⟨ez4, V4, hS4, v4, k4, g4⟩
  obtain rfl := ez4.symm
  replace hS4 : St (T + 1) V4 F4 A4 := by first | exact hS4 | (rw [show T + 1 = T + 1 by omega]; exact hS4)
  have q4_0 : V4 (x) = vx.1 := (k4 (x) (by omega)).trans x1vx
  have q4_1 : V4 (x + 1) = vx.2.1 := (k4 (x + 1) (by omega)).trans x2vx
  have q4_2 : V4 (x + 2) = vx.2.2 := (k4 (x + 2) (by omega)).trans x3vx
  rw [x1vx] at v4
  have n4 : V4 (T) = (vx.1 * vx.1) := by first | exact v4 | (rw [show T = T by omega]; exact v4)
  refine x_aload_n (pc2 := 8) hC rfl rfl dX8_square_7 rfl ?_
  refine x_iload_n (pc2 := 9) hC rfl rfl dX8_square_8 rfl ?_
  refine x_iconst (pc2 := 10) hC dX8_square_9 rfl ?_
  refine x_iadd (pc2 := 11) hC dX8_square_10 rfl ?_
  refine x_iload_n (pc2 := 12) hC rfl rfl dX8_square_11 rfl ?_
  refine x_iconst (pc2 := 13) hC dX8_square_12 rfl ?_
  refine x_iadd (pc2 := 14) hC dX8_square_13 rfl ?_
  refine x_cVi (pc2 := 17) (ci := 8) hC hK (n_times l hM hS4 (by omega) (x := x + 1) (y := x + 1) ⟨by omega, by omega⟩ ⟨by omega, by omega⟩ (a := na) (b := na) (by rw [q4_1]; exact bvx.2.1) (by rw [q4_1]; exact bvx.2.1) (by omega)) lk_953 rfl rfl (by decide) (by assumption) (by assumption) ⟨Nat.le_of_ble_eq_true rfl, Nat.le_of_ble_eq_true rfl⟩ ⟨Nat.le_refl _, Nat.le_refl _⟩ rfl (Nat.le_of_ble_eq_true rfl) dX8_square_14 rfl ?_
  rintro z14 F14 A14 ⟨ez14, V14, hS14, v14, k14, g14⟩
  obtain rfl := ez14.symm
  replace hS14 : St (T + 2) V14 F14 A14 := by first | exact hS14 | (rw [show T + 2 = T + 1 + 1 by omega]; exact hS14)
  have q14_0 : V14 (x) = vx.1 := (k14 (x) (by omega)).trans q4_0
  have q14_1 : V14 (x + 1) = vx.2.1 := (k14 (x + 1) (by omega)).trans q4_1
  have q14_2 : V14 (x + 2) = vx.2.2 := (k14 (x + 2) (by omega)).trans q4_2
  have q14_3 : V14 (T) = (vx.1 * vx.1) := (k14 (T) (by omega)).trans n4
  rw [q4_1] at v14
  have n14 : V14 (T + 1) = (vx.2.1 * vx.2.1) := by first | exact v14 | (rw [show T + 1 = T + 1 by omega]; exact v14)
  refine x_cVi (pc2 := 20) (ci := 8) hC hK (n_plus l hM hS14 (by omega) (x := T) (y := T + 1) ⟨by omega, by omega⟩ ⟨by omega, by omega⟩ (a := (na + na)) (b := (na + na)) (by rw [q14_3]; exact (bd_mul bvx.1 bvx.1 (Nat.le_refl _))) (by rw [n14]; exact (bd_mul bvx.2.1 bvx.2.1 (Nat.le_refl _))) ⟨by omega, by omega⟩) lk_996 rfl rfl (by decide) (by assumption) (by assumption) ⟨Nat.le_of_ble_eq_true rfl, Nat.le_of_ble_eq_true rfl⟩ ⟨Nat.le_refl _, Nat.le_refl _⟩ rfl (Nat.le_of_ble_eq_true rfl) dX8_square_17 rfl ?_
  rintro z17 F17 A17 ⟨ez17, V17, hS17, v17, k17, g17⟩
  obtain rfl := ez17.symm
  replace hS17 : St (T + 3) V17 F17 A17 := by first | exact hS17 | (rw [show T + 3 = T + 2 + 1 by omega]; exact hS17)
  have q17_0 : V17 (x) = vx.1 := (k17 (x) (by omega)).trans q14_0
  have q17_1 : V17 (x + 1) = vx.2.1 := (k17 (x + 1) (by omega)).trans q14_1
  have q17_2 : V17 (x + 2) = vx.2.2 := (k17 (x + 2) (by omega)).trans q14_2
  have q17_3 : V17 (T) = (vx.1 * vx.1) := (k17 (T) (by omega)).trans q14_3
  have q17_4 : V17 (T + 1) = (vx.2.1 * vx.2.1) := (k17 (T + 1) (by omega)).trans n14
  rw [q14_3, n14] at v17
  have n17 : V17 (T + 2) = ((vx.1 * vx.1) + (vx.2.1 * vx.2.1)) := by first | exact v17 | (rw [show T + 2 = T + 2 by omega]; exact v17)
  exact x_iret hC hr hlk ⟨_, rfl, rfl, _, hS17, n17, fun u hu => (k17 u (by omega)).trans ((k14 u (by omega)).trans (k4 u (by omega))), ((g4.tr g14).tr g17)⟩ dX8_square_20
theorem dX8_lessen_0 : decode cX8_lessen 0 = .ok (.aload_n 0, 1) := by decide +kernel
theorem dX8_lessen_1 : decode cX8_lessen 1 = .ok (.iload_n 1, 1) := by decide +kernel
theorem dX8_lessen_2 : decode cX8_lessen 2 = .ok (.aload_n 0, 1) := by decide +kernel
theorem dX8_lessen_3 : decode cX8_lessen 3 = .ok (.iload_n 2, 1) := by decide +kernel
theorem dX8_lessen_4 : decode cX8_lessen 4 = .ok (.invokevirtual 106, 3) := by decide +kernel
theorem dX8_lessen_7 : decode cX8_lessen 7 = .ok (.invokevirtual 109, 3) := by decide +kernel
theorem dX8_lessen_10 : decode cX8_lessen 10 = .ok (.ireturn, 1) := by decide +kernel
theorem tr_keep {V V' : Int → Int} {T x : Int} (hx : x + 2 < T) (h : ∀ u, u < T → V' u = V u) : tr V' x = tr V x := by
  unfold tr
  rw [h x (by omega), h (x + 1) (by omega), h (x + 2) (by omega)]
set_option maxHeartbeats 4000000 in
theorem t_sub (l : Launch) {D : va_G} {ids : Nat → ClassId} {β : Nat} {sh : Nat → Nat × Nat} {N : Nat} {R : Nat → Nat → Option Nat} {F : Nat → Nat → Int} {A : Nat → Int → Int} (hM : MoL sh R N) {T x y : Int} {V : Int → Int} {vx vy : T3} {na nb nc nd : Nat} (hS : St T V F A) (hx : 0 ≤ x ∧ x + 2 < T) (hy : 0 ≤ y ∧ y + 2 < T) (evx : tr V x = vx) (evy : tr V y = vy) (bvx : bdt na nc vx) (bvy : bdt nb nd vy) (hT : T < 1470) (hab : (na + 8) / 9 + (nd + 8) / 9 ≤ 119 ∧ (nb + 8) / 9 + (nc + 8) / 9 ≤ 119 ∧ (nc + 8) / 9 + (nd + 8) / 9 ≤ 119) : MetX l yX8_lessen cX8_lessen 3 (some (.int)) 4 91 D ids β sh N R F A [rf 0, pI x, pI y] (pIr (Tq 12 F A T V (tadd vx (tneg vy)))) := by
  refine MetX.of (loc := [_, _, _]) (plainFor_of_name (by decide +kernel)) (Nat.le_of_ble_eq_true rfl) rfl ?_
  intro p e s m args below meth c hC hK hr hlk
  obtain ⟨⟨m0, m1⟩, ⟨r0, r2, r3, r7, r8, r9, r11, r12, r13, r16, r18⟩, ⟨m2, m3⟩, ⟨m4, m5⟩, ⟨m6, m7⟩, ⟨m8, m9⟩, ⟨m10, m11⟩, ⟨m12, m13⟩, ⟨m14, m15⟩, ⟨m16, m17⟩, ⟨m18, m19⟩, ⟨m20, m21⟩, ⟨m22, m23⟩⟩ := id hM
  have hT0 := hS.2.1
  refine x_aload_n (pc2 := 1) hC rfl rfl dX8_lessen_0 rfl ?_
  refine x_iload_n (pc2 := 2) hC rfl rfl dX8_lessen_1 rfl ?_
  refine x_aload_n (pc2 := 3) hC rfl rfl dX8_lessen_2 rfl ?_
  refine x_iload_n (pc2 := 4) hC rfl rfl dX8_lessen_3 rfl ?_
  refine x_cVi (pc2 := 7) (ci := 8) hC hK (t_neg l hM hS hy evy bvy (by omega)) lk_1016 rfl rfl (by decide) (by assumption) (by assumption) ⟨Nat.le_of_ble_eq_true rfl, Nat.le_of_ble_eq_true rfl⟩ ⟨Nat.le_refl _, Nat.le_refl _⟩ rfl (Nat.le_of_ble_eq_true rfl) dX8_lessen_4 rfl ?_
  rintro z4 F4 A4 ⟨e4, V1, hS1, v1, k1, g1⟩
  obtain rfl := e4.symm
  refine x_cVi (pc2 := 10) (ci := 8) hC hK (t_added l hM hS1 (x := x) (y := T + 2) ⟨hx.1, by omega⟩ ⟨by omega, by omega⟩ ((tr_keep hx.2 k1).trans evx) v1 bvx (bdt_neg bvy) (by omega) hab) lk_1020 rfl rfl (by decide) (by assumption) (by assumption) ⟨Nat.le_of_ble_eq_true rfl, Nat.le_of_ble_eq_true rfl⟩ ⟨Nat.le_refl _, Nat.le_refl _⟩ rfl (Nat.le_of_ble_eq_true rfl) dX8_lessen_7 rfl ?_
  rintro z7 F7 A7 ⟨e7, V2, hS2, v2, k2, g2⟩
  obtain rfl := e7.symm
  exact x_iret hC hr hlk ⟨_, rfl, by omega, V2, by rw [show T + 12 + 3 = T + 2 + 3 + 7 + 3 by omega]; exact hS2, by rw [show T + 12 = T + 2 + 3 + 7 by omega]; exact v2, fun u hu => (k2 u (by omega)).trans (k1 u hu), g1.tr g2⟩ dX8_lessen_10
theorem dX8_quotientOf_0 : decode cX8_quotientOf 0 = .ok (.aload_n 0, 1) := by decide +kernel
theorem dX8_quotientOf_1 : decode cX8_quotientOf 1 = .ok (.iload_n 1, 1) := by decide +kernel
theorem dX8_quotientOf_2 : decode cX8_quotientOf 2 = .ok (.aload_n 0, 1) := by decide +kernel
theorem dX8_quotientOf_3 : decode cX8_quotientOf 3 = .ok (.iload_n 2, 1) := by decide +kernel
theorem dX8_quotientOf_4 : decode cX8_quotientOf 4 = .ok (.invokevirtual 115, 3) := by decide +kernel
theorem dX8_quotientOf_7 : decode cX8_quotientOf 7 = .ok (.invokevirtual 118, 3) := by decide +kernel
theorem dX8_quotientOf_10 : decode cX8_quotientOf 10 = .ok (.istore_n 3, 1) := by decide +kernel
theorem dX8_quotientOf_11 : decode cX8_quotientOf 11 = .ok (.aload_n 0, 1) := by decide +kernel
theorem dX8_quotientOf_12 : decode cX8_quotientOf 12 = .ok (.aload_n 0, 1) := by decide +kernel
theorem dX8_quotientOf_13 : decode cX8_quotientOf 13 = .ok (.iload_n 3, 1) := by decide +kernel
theorem dX8_quotientOf_14 : decode cX8_quotientOf 14 = .ok (.iload_n 2, 1) := by decide +kernel
theorem dX8_quotientOf_15 : decode cX8_quotientOf 15 = .ok (.iconst 2, 1) := by decide +kernel
theorem dX8_quotientOf_16 : decode cX8_quotientOf 16 = .ok (.iadd, 1) := by decide +kernel
theorem dX8_quotientOf_17 : decode cX8_quotientOf 17 = .ok (.invokevirtual 93, 3) := by decide +kernel
theorem dX8_quotientOf_20 : decode cX8_quotientOf 20 = .ok (.aload_n 0, 1) := by decide +kernel
theorem dX8_quotientOf_21 : decode cX8_quotientOf 21 = .ok (.iload_n 3, 1) := by decide +kernel
theorem dX8_quotientOf_22 : decode cX8_quotientOf 22 = .ok (.iconst 1, 1) := by decide +kernel
theorem dX8_quotientOf_23 : decode cX8_quotientOf 23 = .ok (.iadd, 1) := by decide +kernel
theorem dX8_quotientOf_24 : decode cX8_quotientOf 24 = .ok (.iload_n 2, 1) := by decide +kernel
theorem dX8_quotientOf_25 : decode cX8_quotientOf 25 = .ok (.iconst 2, 1) := by decide +kernel
theorem dX8_quotientOf_26 : decode cX8_quotientOf 26 = .ok (.iadd, 1) := by decide +kernel
theorem dX8_quotientOf_27 : decode cX8_quotientOf 27 = .ok (.invokevirtual 93, 3) := by decide +kernel
theorem dX8_quotientOf_30 : decode cX8_quotientOf 30 = .ok (.aload_n 0, 1) := by decide +kernel
theorem dX8_quotientOf_31 : decode cX8_quotientOf 31 = .ok (.iload_n 1, 1) := by decide +kernel
theorem dX8_quotientOf_32 : decode cX8_quotientOf 32 = .ok (.iconst 2, 1) := by decide +kernel
theorem dX8_quotientOf_33 : decode cX8_quotientOf 33 = .ok (.iadd, 1) := by decide +kernel
theorem dX8_quotientOf_34 : decode cX8_quotientOf 34 = .ok (.aload_n 0, 1) := by decide +kernel
theorem dX8_quotientOf_35 : decode cX8_quotientOf 35 = .ok (.iload_n 2, 1) := by decide +kernel
theorem dX8_quotientOf_36 : decode cX8_quotientOf 36 = .ok (.invokevirtual 121, 3) := by decide +kernel
theorem dX8_quotientOf_39 : decode cX8_quotientOf 39 = .ok (.invokevirtual 93, 3) := by decide +kernel
theorem dX8_quotientOf_42 : decode cX8_quotientOf 42 = .ok (.invokevirtual 103, 3) := by decide +kernel
theorem dX8_quotientOf_45 : decode cX8_quotientOf 45 = .ok (.ireturn, 1) := by decide +kernel
set_option maxHeartbeats 4000000 in
theorem t_quo (l : Launch) {D : va_G} {ids : Nat → ClassId} {β : Nat} {sh : Nat → Nat × Nat} {N : Nat} {R : Nat → Nat → Option Nat} {F : Nat → Nat → Int} {A : Nat → Int → Int} (hM : MoL sh R N) {T x y : Int} {V : Int → Int} {vx vy : T3} {na nb nc nd : Nat} (hS : St T V F A) (hx : 0 ≤ x ∧ x + 2 < T) (hy : 0 ≤ y ∧ y + 2 < T) (evx : tr V x = vx) (evy : tr V y = vy) (bvx : bdt na nc vx) (bvy : bdt nb nd vy) (hT : T < 1450) (hab : (na + 8) / 9 + (nb + 8) / 9 ≤ 119 ∧ (nc + 8) / 9 + (nd + 8) / 9 ≤ 119 ∧ (na + nb + 1 + 8) / 9 + (nd + 8) / 9 ≤ 119 ∧ (nb + 8) / 9 ≤ 59 ∧ (nc + 8) / 9 + (nb + nb + 1 + 8) / 9 ≤ 119) : MetX l yX8_quotientOf cX8_quotientOf 4 (some (.int)) 4 96 D ids β sh N R F A [rf 0, pI x, pI y] (pIr (Tq 21 F A T V (tquo vx vy))) := by
  refine MetX.of (loc := [_, _, _, _]) (plainFor_of_name (by decide +kernel)) (Nat.le_of_ble_eq_true rfl) rfl ?_
  intro p e s m args below meth c hC hK hr hlk
  obtain ⟨⟨m0, m1⟩, ⟨r0, r2, r3, r7, r8, r9, r11, r12, r13, r16, r18⟩, ⟨m2, m3⟩, ⟨m4, m5⟩, ⟨m6, m7⟩, ⟨m8, m9⟩, ⟨m10, m11⟩, ⟨m12, m13⟩, ⟨m14, m15⟩, ⟨m16, m17⟩, ⟨m18, m19⟩, ⟨m20, m21⟩, ⟨m22, m23⟩⟩ := id hM
  have hT0 := hS.2.1
  have m1 := bdt_mul (e := na + nb + 1) (f := nc + nd) bvx (bdt_mir bvy) (Nat.le_refl _) (Nat.le_refl _)
  have q1 := bd_tsq bvy (Nat.le_refl (nb + nb + 1))
  refine x_aload_n (pc2 := 1) hC rfl rfl dX8_quotientOf_0 rfl ?_
  refine x_iload_n (pc2 := 2) hC rfl rfl dX8_quotientOf_1 rfl ?_
  refine x_aload_n (pc2 := 3) hC rfl rfl dX8_quotientOf_2 rfl ?_
  refine x_iload_n (pc2 := 4) hC rfl rfl dX8_quotientOf_3 rfl ?_
  refine x_cVi (pc2 := 7) (ci := 8) hC hK (t_mir l hM hS hy evy bvy (by omega)) lk_1048 rfl rfl (by decide) (by assumption) (by assumption) ⟨Nat.le_of_ble_eq_true rfl, Nat.le_of_ble_eq_true rfl⟩ ⟨Nat.le_refl _, Nat.le_refl _⟩ rfl (Nat.le_of_ble_eq_true rfl) dX8_quotientOf_4 rfl ?_
  rintro z4 F4 A4 ⟨e4, V1, hS1, v1, k1, g1⟩
  obtain rfl := e4.symm
  refine x_cVi (pc2 := 10) (ci := 8) hC hK (t_product l hM hS1 (x := x) (y := T + 1) ⟨hx.1, by omega⟩ ⟨by omega, by omega⟩ ((tr_keep hx.2 k1).trans evx) v1 bvx (bdt_mir bvy) (by omega) ⟨hab.1, hab.2.1⟩) lk_1004 rfl rfl (by decide) (by assumption) (by assumption) ⟨Nat.le_of_ble_eq_true rfl, Nat.le_of_ble_eq_true rfl⟩ ⟨Nat.le_refl _, Nat.le_refl _⟩ rfl (Nat.le_of_ble_eq_true rfl) dX8_quotientOf_7 rfl ?_
  rintro z7 F7 A7 ⟨e7, V2, hS2, v2, k2, g2⟩
  obtain rfl := e7.symm
  have hSb : St (T + 15) V2 F7 A7 := by rw [show T + 15 = T + 1 + 3 + 8 + 3 by omega]; exact hS2
  have v2b : tr V2 (T + 12) = tmul vx (tmir vy) := by rw [show T + 12 = T + 1 + 3 + 8 by omega]; exact v2
  rw [show T + 1 + 3 + 8 = T + 12 by omega]
  have kb : ∀ u, u < T → V2 u = V u := fun u hu => (k2 u (by omega)).trans (k1 u hu)
  have x1vm : V2 (T + 12) = (tmul vx (tmir vy)).1 := congrArg Prod.fst v2b
  have x2vm : V2 (T + 12 + 1) = (tmul vx (tmir vy)).2.1 := congrArg (fun q => q.2.1) v2b
  have y3 : V2 (y + 2) = vy.2.2 := (kb _ (by omega)).trans (congrArg (fun q => q.2.2) evy)
  have x3 : V2 (x + 2) = vx.2.2 := (kb _ (by omega)).trans (congrArg (fun q => q.2.2) evx)
  refine x_istore_n (pc2 := 11) (loc2 := [_, _, _, _]) hC rfl (by decide) rfl dX8_quotientOf_10 rfl ?_
  refine x_aload_n (pc2 := 12) hC rfl rfl dX8_quotientOf_11 rfl ?_
  refine x_aload_n (pc2 := 13) hC rfl rfl dX8_quotientOf_12 rfl ?_
  refine x_iload_n (pc2 := 14) hC rfl rfl dX8_quotientOf_13 rfl ?_
  refine x_iload_n (pc2 := 15) hC rfl rfl dX8_quotientOf_14 rfl ?_
  refine x_iconst (pc2 := 16) hC dX8_quotientOf_15 rfl ?_
  refine x_iadd (pc2 := 17) hC dX8_quotientOf_16 rfl ?_
  refine x_cVi (pc2 := 20) (ci := 8) hC hK (n_times l hM hSb (by omega) (x := T + 12) (y := y + 2) ⟨by omega, by omega⟩ ⟨by omega, by omega⟩ (a := na + nb + 1) (b := nd) (by rw [x1vm]; exact m1.1) (by rw [y3]; exact bvy.2.2) (by omega)) lk_953 rfl rfl (by decide) (by assumption) (by assumption) ⟨Nat.le_of_ble_eq_true rfl, Nat.le_of_ble_eq_true rfl⟩ ⟨Nat.le_refl _, Nat.le_refl _⟩ rfl (Nat.le_of_ble_eq_true rfl) dX8_quotientOf_17 rfl ?_
  rintro z17 F17 A17 ⟨e17, V3, hS3, v3, k3, g3⟩
  obtain rfl := e17.symm
  rw [x1vm, y3] at v3
  replace hS3 : St (T + 16) V3 F17 A17 := by rw [show T + 16 = T + 15 + 1 by omega]; exact hS3
  refine x_aload_n (pc2 := 21) hC rfl rfl dX8_quotientOf_20 rfl ?_
  refine x_iload_n (pc2 := 22) hC rfl rfl dX8_quotientOf_21 rfl ?_
  refine x_iconst (pc2 := 23) hC dX8_quotientOf_22 rfl ?_
  refine x_iadd (pc2 := 24) hC dX8_quotientOf_23 rfl ?_
  refine x_iload_n (pc2 := 25) hC rfl rfl dX8_quotientOf_24 rfl ?_
  refine x_iconst (pc2 := 26) hC dX8_quotientOf_25 rfl ?_
  refine x_iadd (pc2 := 27) hC dX8_quotientOf_26 rfl ?_
  refine x_cVi (pc2 := 30) (ci := 8) hC hK (n_times l hM hS3 (by omega) (x := T + 12 + 1) (y := y + 2) ⟨by omega, by omega⟩ ⟨by omega, by omega⟩ (a := na + nb + 1) (b := nd) (by rw [k3 _ (by omega), x2vm]; exact m1.2.1) (by rw [k3 _ (by omega), y3]; exact bvy.2.2) (by omega)) lk_953 rfl rfl (by decide) (by assumption) (by assumption) ⟨Nat.le_of_ble_eq_true rfl, Nat.le_of_ble_eq_true rfl⟩ ⟨Nat.le_refl _, Nat.le_refl _⟩ rfl (Nat.le_of_ble_eq_true rfl) dX8_quotientOf_27 rfl ?_
  rintro z27 F27 A27 ⟨e27, V4, hS4, v4, k4, g4⟩
  obtain rfl := e27.symm
  rw [k3 (T + 12 + 1) (by omega), k3 (y + 2) (by omega), x2vm, y3] at v4
  replace hS4 : St (T + 17) V4 F27 A27 := by rw [show T + 17 = T + 16 + 1 by omega]; exact hS4
  refine x_aload_n (pc2 := 31) hC rfl rfl dX8_quotientOf_30 rfl ?_
  refine x_iload_n (pc2 := 32) hC rfl rfl dX8_quotientOf_31 rfl ?_
  refine x_iconst (pc2 := 33) hC dX8_quotientOf_32 rfl ?_
  refine x_iadd (pc2 := 34) hC dX8_quotientOf_33 rfl ?_
  refine x_aload_n (pc2 := 35) hC rfl rfl dX8_quotientOf_34 rfl ?_
  refine x_iload_n (pc2 := 36) hC rfl rfl dX8_quotientOf_35 rfl ?_
  refine x_cVi (pc2 := 39) (ci := 8) hC hK (t_sq l hM hS4 (x := y) (vx := vy) ⟨hy.1, by omega⟩ ((tr_keep hy.2 (fun u hu => (k4 u (by omega)).trans ((k3 u (by omega)).trans (kb u hu)))).trans evy) bvy (by omega) hab.2.2.2.1) lk_1052 rfl rfl (by decide) (by assumption) (by assumption) ⟨Nat.le_of_ble_eq_true rfl, Nat.le_of_ble_eq_true rfl⟩ ⟨Nat.le_refl _, Nat.le_refl _⟩ rfl (Nat.le_of_ble_eq_true rfl) dX8_quotientOf_36 rfl ?_
  rintro z36 F36 A36 ⟨e36, V5, hS5, v5, k5, g5⟩
  obtain rfl := e36.symm
  replace hS5 : St (T + 20) V5 F36 A36 := by rw [show T + 20 = T + 17 + 3 by omega]; exact hS5
  have x35 : V5 (x + 2) = vx.2.2 := (k5 _ (by omega)).trans ((k4 _ (by omega)).trans ((k3 _ (by omega)).trans x3))
  refine x_cVi (pc2 := 42) (ci := 8) hC hK (n_times l hM hS5 (by omega) (x := x + 2) (y := T + 17 + 2) ⟨by omega, by omega⟩ ⟨by omega, by omega⟩ (a := nc) (b := nb + nb + 1) (by rw [x35]; exact bvx.2.2) (by rw [v5]; exact q1) (by omega)) lk_953 rfl rfl (by decide) (by assumption) (by assumption) ⟨Nat.le_of_ble_eq_true rfl, Nat.le_of_ble_eq_true rfl⟩ ⟨Nat.le_refl _, Nat.le_refl _⟩ rfl (Nat.le_of_ble_eq_true rfl) dX8_quotientOf_39 rfl ?_
  rintro z39 F39 A39 ⟨e39, V6, hS6, v6, k6, g6⟩
  obtain rfl := e39.symm
  rw [x35, v5] at v6
  replace hS6 : St (T + 21) V6 F39 A39 := by rw [show T + 21 = T + 20 + 1 by omega]; exact hS6
  refine x_cVi (pc2 := 45) (ci := 8) hC hK (n_triple l hM hS6 (by omega) (x := T + 15) (y := T + 16) (w := T + 20) ⟨by omega, by omega⟩ ⟨by omega, by omega⟩ ⟨by omega, by omega⟩) lk_911 rfl rfl (by decide) (by assumption) (by assumption) ⟨Nat.le_of_ble_eq_true rfl, Nat.le_of_ble_eq_true rfl⟩ ⟨Nat.le_refl _, Nat.le_refl _⟩ rfl (Nat.le_of_ble_eq_true rfl) dX8_quotientOf_42 rfl ?_
  rintro z42 F42 A42 ⟨e42, V7, hS7, ⟨va, vb, vc⟩, k7, g7⟩
  obtain rfl := e42.symm
  rw [k6 (T + 15) (by omega), k5 (T + 15) (by omega), k4 (T + 15) (by omega), v3] at va
  rw [k6 (T + 16) (by omega), k5 (T + 16) (by omega), v4] at vb
  rw [v6] at vc
  exact x_iret hC hr hlk ⟨_, rfl, Tq.mk rfl hS7 va vb vc (fun u hu => (k7 u (by omega)).trans ((k6 u (by omega)).trans ((k5 u (by omega)).trans ((k4 u (by omega)).trans ((k3 u (by omega)).trans (kb u hu)))))) ((((((g1.tr g2).tr g3).tr g4).tr g5).tr g6).tr g7)⟩ dX8_quotientOf_45
theorem dX8_isZero_0 : decode cX8_isZero 0 = .ok (.aload_n 0, 1) := by decide +kernel
theorem dX8_isZero_1 : decode cX8_isZero 1 = .ok (.iload_n 1, 1) := by decide +kernel
theorem dX8_isZero_2 : decode cX8_isZero 2 = .ok (.invokevirtual 124, 3) := by decide +kernel
theorem dX8_isZero_5 : decode cX8_isZero 5 = .ok (.ifCond .eq 17, 3) := by decide +kernel
theorem dX8_isZero_8 : decode cX8_isZero 8 = .ok (.aload_n 0, 1) := by decide +kernel
theorem dX8_isZero_9 : decode cX8_isZero 9 = .ok (.iload_n 1, 1) := by decide +kernel
theorem dX8_isZero_10 : decode cX8_isZero 10 = .ok (.iconst 1, 1) := by decide +kernel
theorem dX8_isZero_11 : decode cX8_isZero 11 = .ok (.iadd, 1) := by decide +kernel
theorem dX8_isZero_12 : decode cX8_isZero 12 = .ok (.invokevirtual 124, 3) := by decide +kernel
theorem dX8_isZero_15 : decode cX8_isZero 15 = .ok (.ifCond .eq 7, 3) := by decide +kernel
theorem dX8_isZero_18 : decode cX8_isZero 18 = .ok (.iconst 1, 1) := by decide +kernel
theorem dX8_isZero_19 : decode cX8_isZero 19 = .ok (.goto 4, 3) := by decide +kernel
theorem dX8_isZero_22 : decode cX8_isZero 22 = .ok (.iconst 0, 1) := by decide +kernel
theorem dX8_isZero_23 : decode cX8_isZero 23 = .ok (.ireturn, 1) := by decide +kernel
set_option maxHeartbeats 4000000 in
theorem t_zero (l : Launch) {D : va_G} {ids : Nat → ClassId} {β : Nat} {sh : Nat → Nat × Nat} {N : Nat} {R : Nat → Nat → Option Nat} {F : Nat → Nat → Int} {A : Nat → Int → Int} (hM : MoL sh R N) {T x : Int} {V : Int → Int} {vx : T3} (hS : St T V F A) (hx : 0 ≤ x ∧ x + 2 < T) (evx : tr V x = vx) : MetX l yX8_isZero cX8_isZero 2 (some (.boolean)) 1 21 D ids β sh N R F A [rf 0, pI x] (pIr (fun z F2 A2 => (0 ≤ z ∧ z ≤ 1) ∧ (Unit → (z ≠ 0 ↔ (vx.1 = 0 ∧ vx.2.1 = 0))) ∧ F2 = F ∧ A2 = A)) := by
  refine MetX.of (loc := [_, _]) (plainFor_of_name (by decide +kernel)) (Nat.le_of_ble_eq_true rfl) rfl ?_
  intro p e s m args below meth c hC hK hr hlk
  obtain ⟨⟨m0, m1⟩, ⟨r0, r2, r3, r7, r8, r9, r11, r12, r13, r16, r18⟩, ⟨m2, m3⟩, ⟨m4, m5⟩, ⟨m6, m7⟩, ⟨m8, m9⟩, ⟨m10, m11⟩, ⟨m12, m13⟩, ⟨m14, m15⟩, ⟨m16, m17⟩, ⟨m18, m19⟩, ⟨m20, m21⟩, ⟨m22, m23⟩⟩ := id hM
  have hT0 := hS.2.1
  have x1vx : V (x) = vx.1 := congrArg Prod.fst evx
  have x2vx : V (x + 1) = vx.2.1 := congrArg (fun q => q.2.1) evx
  have x3vx : V (x + 2) = vx.2.2 := congrArg (fun q => q.2.2) evx
  refine x_aload_n (pc2 := 1) hC rfl rfl dX8_isZero_0 rfl ?_
  refine x_iload_n (pc2 := 2) hC rfl rfl dX8_isZero_1 rfl ?_
  refine x_cVi (pc2 := 5) (ci := 8) hC hK (n_isNought l hM hS ⟨hx.1, by omega⟩) lk_1028 rfl rfl (by decide) (by assumption) (by assumption) ⟨Nat.le_of_ble_eq_true rfl, Nat.le_of_ble_eq_true rfl⟩ ⟨Nat.le_refl _, Nat.le_refl _⟩ rfl (Nat.le_of_ble_eq_true rfl) dX8_isZero_2 rfl ?_
  rintro z2 F2 A2 ⟨w2, b2, e12, e22⟩
  obtain rfl := e12.symm
  obtain rfl := e22.symm
  rw [x1vx] at b2
  refine x_if_eq (tgt := 22) (pc2 := 8) hC (by omega) dX8_isZero_5 rfl rfl (fun h_5 => ?_) (fun h_5 => ?_)
  · refine x_iconst (pc2 := 23) hC dX8_isZero_22 rfl ?_
    exact x_zret hC (by omega) hr hlk ⟨_, rfl, by omega, fun _ => by first | exact ⟨fun _ => ⟨(b2 ()).mp h_5, (b12 ()).mp h_15⟩, fun _ => by decide⟩ | exact ⟨fun q => absurd rfl q, fun q => absurd h_15 ((b12 ()).mpr q.2)⟩ | exact ⟨fun q => absurd rfl q, fun q => absurd h_5 ((b2 ()).mpr q.1)⟩, rfl, rfl⟩ dX8_isZero_23
  · refine x_aload_n (pc2 := 9) hC rfl rfl dX8_isZero_8 rfl ?_
    refine x_iload_n (pc2 := 10) hC rfl rfl dX8_isZero_9 rfl ?_
    refine x_iconst (pc2 := 11) hC dX8_isZero_10 rfl ?_
    refine x_iadd (pc2 := 12) hC dX8_isZero_11 rfl ?_
    refine x_cVi (pc2 := 15) (ci := 8) hC hK (n_isNought l hM hS (x := x + 1) ⟨by omega, by omega⟩) lk_1028 rfl rfl (by decide) (by assumption) (by assumption) ⟨Nat.le_of_ble_eq_true rfl, Nat.le_of_ble_eq_true rfl⟩ ⟨Nat.le_refl _, Nat.le_refl _⟩ rfl (Nat.le_of_ble_eq_true rfl) dX8_isZero_12 rfl ?_
    rintro z12 F12 A12 ⟨w12, b12, e112, e212⟩
    obtain rfl := e112.symm
    obtain rfl := e212.symm
    rw [x2vx] at b12
    refine x_if_eq (tgt := 22) (pc2 := 18) hC (by omega) dX8_isZero_15 rfl rfl (fun h_15 => ?_) (fun h_15 => ?_)
    · refine x_iconst (pc2 := 23) hC dX8_isZero_22 rfl ?_
      exact x_zret hC (by omega) hr hlk ⟨_, rfl, by omega, fun _ => by first | exact ⟨fun _ => ⟨(b2 ()).mp h_5, (b12 ()).mp h_15⟩, fun _ => by decide⟩ | exact ⟨fun q => absurd rfl q, fun q => absurd h_15 ((b12 ()).mpr q.2)⟩ | exact ⟨fun q => absurd rfl q, fun q => absurd h_5 ((b2 ()).mpr q.1)⟩, rfl, rfl⟩ dX8_isZero_23
    · refine x_iconst (pc2 := 19) hC dX8_isZero_18 rfl ?_
      refine x_goto (pc2 := 23) hC dX8_isZero_19 rfl ?_
      exact x_zret hC (by omega) hr hlk ⟨_, rfl, by omega, fun _ => by first | exact ⟨fun _ => ⟨(b2 ()).mp h_5, (b12 ()).mp h_15⟩, fun _ => by decide⟩ | exact ⟨fun q => absurd rfl q, fun q => absurd h_15 ((b12 ()).mpr q.2)⟩ | exact ⟨fun q => absurd rfl q, fun q => absurd h_5 ((b2 ()).mpr q.1)⟩, rfl, rfl⟩ dX8_isZero_23
theorem dX8_whole_0 : decode cX8_whole 0 = .ok (.aload_n 0, 1) := by decide +kernel
theorem dX8_whole_1 : decode cX8_whole 1 = .ok (.aload_n 0, 1) := by decide +kernel
theorem dX8_whole_2 : decode cX8_whole 2 = .ok (.lload_n 1, 1) := by decide +kernel
theorem dX8_whole_3 : decode cX8_whole 3 = .ok (.invokevirtual 89, 3) := by decide +kernel
theorem dX8_whole_6 : decode cX8_whole 6 = .ok (.aload_n 0, 1) := by decide +kernel
theorem dX8_whole_7 : decode cX8_whole 7 = .ok (.lconst 0, 1) := by decide +kernel
theorem dX8_whole_8 : decode cX8_whole 8 = .ok (.invokevirtual 89, 3) := by decide +kernel
theorem dX8_whole_11 : decode cX8_whole 11 = .ok (.aload_n 0, 1) := by decide +kernel
theorem dX8_whole_12 : decode cX8_whole 12 = .ok (.lconst 1, 1) := by decide +kernel
theorem dX8_whole_13 : decode cX8_whole 13 = .ok (.invokevirtual 89, 3) := by decide +kernel
theorem dX8_whole_16 : decode cX8_whole 16 = .ok (.invokevirtual 103, 3) := by decide +kernel
theorem dX8_whole_19 : decode cX8_whole 19 = .ok (.ireturn, 1) := by decide +kernel
set_option maxHeartbeats 4000000 in
theorem t_whole (l : Launch) {D : va_G} {ids : Nat → ClassId} {β : Nat} {sh : Nat → Nat × Nat} {N : Nat} {R : Nat → Nat → Option Nat} {F : Nat → Nat → Int} {A : Nat → Int → Int} (hM : MoL sh R N) {T v : Int} {V : Int → Int} (hS : St T V F A) (hT : T < 1480) (hv : -1000000000000000 ≤ v ∧ v ≤ 1000000000000000) : MetX l yX8_whole cX8_whole 3 (some (.int)) 3 69 D ids β sh N R F A [rf 0, pL v] (pIr (Tq 3 F A T V (v, 0, 1))) := by
  refine MetX.of (loc := [_, _, _]) (plainFor_of_name (by decide +kernel)) (Nat.le_of_ble_eq_true rfl) rfl ?_
  intro p e s m args below meth c hC hK hr hlk
  obtain ⟨⟨m0, m1⟩, ⟨r0, r2, r3, r7, r8, r9, r11, r12, r13, r16, r18⟩, ⟨m2, m3⟩, ⟨m4, m5⟩, ⟨m6, m7⟩, ⟨m8, m9⟩, ⟨m10, m11⟩, ⟨m12, m13⟩, ⟨m14, m15⟩, ⟨m16, m17⟩, ⟨m18, m19⟩, ⟨m20, m21⟩, ⟨m22, m23⟩⟩ := id hM
  have hT0 := hS.2.1
  refine x_aload_n (pc2 := 1) hC rfl rfl dX8_whole_0 rfl ?_
  refine x_aload_n (pc2 := 2) hC rfl rfl dX8_whole_1 rfl ?_
  refine x_lload_n (pc2 := 3) hC rfl rfl dX8_whole_2 rfl ?_
  refine x_cVi (pc2 := 6) (ci := 8) hC hK (n_of l hM hS (by omega) hv) lk_902 rfl rfl (by decide) (by assumption) (by assumption) ⟨Nat.le_of_ble_eq_true rfl, Nat.le_of_ble_eq_true rfl⟩ ⟨Nat.le_refl _, Nat.le_refl _⟩ rfl (Nat.le_of_ble_eq_true rfl) dX8_whole_3 rfl ?_
  rintro z3 F3 A3 ⟨e3, V1, hS1, v1, k1, g1⟩
  obtain rfl := e3.symm
  refine x_aload_n (pc2 := 7) hC rfl rfl dX8_whole_6 rfl ?_
  refine x_lconst0 (pc2 := 8) hC dX8_whole_7 rfl ?_
  refine x_cVi (pc2 := 11) (ci := 8) hC hK (n_of l hM hS1 (by omega) (by decide)) lk_902 rfl rfl (by decide) (by assumption) (by assumption) ⟨Nat.le_of_ble_eq_true rfl, Nat.le_of_ble_eq_true rfl⟩ ⟨Nat.le_refl _, Nat.le_refl _⟩ rfl (Nat.le_of_ble_eq_true rfl) dX8_whole_8 rfl ?_
  rintro z8 F8 A8 ⟨e8, V2, hS2, v2, k2, g2⟩
  obtain rfl := e8.symm
  refine x_aload_n (pc2 := 12) hC rfl rfl dX8_whole_11 rfl ?_
  refine x_lconst1 (pc2 := 13) hC dX8_whole_12 rfl ?_
  refine x_cVi (pc2 := 16) (ci := 8) hC hK (n_of l hM hS2 (by omega) (by decide)) lk_902 rfl rfl (by decide) (by assumption) (by assumption) ⟨Nat.le_of_ble_eq_true rfl, Nat.le_of_ble_eq_true rfl⟩ ⟨Nat.le_refl _, Nat.le_refl _⟩ rfl (Nat.le_of_ble_eq_true rfl) dX8_whole_13 rfl ?_
  rintro z13 F13 A13 ⟨e13, V3, hS3, v3, k3, g3⟩
  obtain rfl := e13.symm
  refine x_cVi (pc2 := 19) (ci := 8) hC hK (n_triple l hM hS3 (by omega) (x := T) (y := T + 1) (w := T + 1 + 1) ⟨by omega, by omega⟩ ⟨by omega, by omega⟩ ⟨by omega, by omega⟩) lk_911 rfl rfl (by decide) (by assumption) (by assumption) ⟨Nat.le_of_ble_eq_true rfl, Nat.le_of_ble_eq_true rfl⟩ ⟨Nat.le_refl _, Nat.le_refl _⟩ rfl (Nat.le_of_ble_eq_true rfl) dX8_whole_16 rfl ?_
  rintro z16 F16 A16 ⟨e16, V4, hS4, ⟨va, vb, vc⟩, k4, g4⟩
  obtain rfl := e16.symm
  rw [k3 T (by omega), k2 T (by omega), v1] at va
  rw [k3 (T + 1) (by omega), v2] at vb
  rw [v3] at vc
  exact x_iret hC hr hlk ⟨_, rfl, Tq.mk (by omega) (by rw [show T + 3 + 3 = T + 1 + 1 + 1 + 3 by omega]; exact hS4) (by rw [show T + 3 = T + 1 + 1 + 1 by omega]; exact va) (by rw [show T + 3 + 1 = T + 1 + 1 + 1 + 1 by omega]; exact vb) (by rw [show T + 3 + 2 = T + 1 + 1 + 1 + 2 by omega]; exact vc) (fun u hu => (k4 u (by omega)).trans ((k3 u (by omega)).trans ((k2 u (by omega)).trans (k1 u hu)))) (((g1.tr g2).tr g3).tr g4)⟩ dX8_whole_19
theorem dX8_sizeOf_0 : decode cX8_sizeOf 0 = .ok (.aload_n 0, 1) := by decide +kernel
theorem dX8_sizeOf_1 : decode cX8_sizeOf 1 = .ok (.iload_n 1, 1) := by decide +kernel
theorem dX8_sizeOf_2 : decode cX8_sizeOf 2 = .ok (.invokevirtual 121, 3) := by decide +kernel
theorem dX8_sizeOf_5 : decode cX8_sizeOf 5 = .ok (.istore_n 2, 1) := by decide +kernel
theorem dX8_sizeOf_6 : decode cX8_sizeOf 6 = .ok (.aload_n 0, 1) := by decide +kernel
theorem dX8_sizeOf_7 : decode cX8_sizeOf 7 = .ok (.iload_n 1, 1) := by decide +kernel
theorem dX8_sizeOf_8 : decode cX8_sizeOf 8 = .ok (.iconst 2, 1) := by decide +kernel
theorem dX8_sizeOf_9 : decode cX8_sizeOf 9 = .ok (.iadd, 1) := by decide +kernel
theorem dX8_sizeOf_10 : decode cX8_sizeOf 10 = .ok (.iload_n 1, 1) := by decide +kernel
theorem dX8_sizeOf_11 : decode cX8_sizeOf 11 = .ok (.iconst 2, 1) := by decide +kernel
theorem dX8_sizeOf_12 : decode cX8_sizeOf 12 = .ok (.iadd, 1) := by decide +kernel
theorem dX8_sizeOf_13 : decode cX8_sizeOf 13 = .ok (.invokevirtual 93, 3) := by decide +kernel
theorem dX8_sizeOf_16 : decode cX8_sizeOf 16 = .ok (.istore_n 3, 1) := by decide +kernel
theorem dX8_sizeOf_17 : decode cX8_sizeOf 17 = .ok (.aload_n 0, 1) := by decide +kernel
theorem dX8_sizeOf_18 : decode cX8_sizeOf 18 = .ok (.iload_n 2, 1) := by decide +kernel
theorem dX8_sizeOf_19 : decode cX8_sizeOf 19 = .ok (.invokevirtual 73, 3) := by decide +kernel
theorem dX8_sizeOf_22 : decode cX8_sizeOf 22 = .ok (.istore 4, 2) := by decide +kernel
theorem dX8_sizeOf_24 : decode cX8_sizeOf 24 = .ok (.aload_n 0, 1) := by decide +kernel
theorem dX8_sizeOf_25 : decode cX8_sizeOf 25 = .ok (.iload_n 3, 1) := by decide +kernel
theorem dX8_sizeOf_26 : decode cX8_sizeOf 26 = .ok (.invokevirtual 73, 3) := by decide +kernel
theorem dX8_sizeOf_29 : decode cX8_sizeOf 29 = .ok (.istore 5, 2) := by decide +kernel
theorem dX8_sizeOf_31 : decode cX8_sizeOf 31 = .ok (.aload_n 0, 1) := by decide +kernel
theorem dX8_sizeOf_32 : decode cX8_sizeOf 32 = .ok (.getfield 34, 3) := by decide +kernel
theorem dX8_sizeOf_35 : decode cX8_sizeOf 35 = .ok (.iload 4, 2) := by decide +kernel
theorem dX8_sizeOf_37 : decode cX8_sizeOf 37 = .ok (.iconst 1, 1) := by decide +kernel
theorem dX8_sizeOf_38 : decode cX8_sizeOf 38 = .ok (.iastore, 1) := by decide +kernel
theorem dX8_sizeOf_39 : decode cX8_sizeOf 39 = .ok (.aload_n 0, 1) := by decide +kernel
theorem dX8_sizeOf_40 : decode cX8_sizeOf 40 = .ok (.getfield 34, 3) := by decide +kernel
theorem dX8_sizeOf_43 : decode cX8_sizeOf 43 = .ok (.iload 5, 2) := by decide +kernel
theorem dX8_sizeOf_45 : decode cX8_sizeOf 45 = .ok (.iconst 1, 1) := by decide +kernel
theorem dX8_sizeOf_46 : decode cX8_sizeOf 46 = .ok (.iastore, 1) := by decide +kernel
theorem dX8_sizeOf_47 : decode cX8_sizeOf 47 = .ok (.iload 4, 2) := by decide +kernel
theorem dX8_sizeOf_49 : decode cX8_sizeOf 49 = .ok (.ireturn, 1) := by decide +kernel
set_option maxHeartbeats 4000000 in
theorem t_size (l : Launch) {D : va_G} {ids : Nat → ClassId} {β : Nat} {sh : Nat → Nat × Nat} {N : Nat} {R : Nat → Nat → Option Nat} {F : Nat → Nat → Int} {A : Nat → Int → Int} (hM : MoL sh R N) {T x : Int} {V : Int → Int} {vx : T3} {na nc : Nat} (hS : St T V F A) (hx : 0 ≤ x ∧ x + 2 < T) (evx : tr V x = vx) (bvx : bdt na nc vx) (hT : T < 1490) (hab : (na + 8) / 9 ≤ 59 ∧ (nc + 8) / 9 ≤ 59) : MetX l yX8_sizeOf cX8_sizeOf 6 (some (.int)) 3 73 D ids β sh N R F A [rf 0, pI x] (pIr (fun z F2 A2 => z = T + 4 ∧ ∃ V2, St (T + 6) V2 F2 A2 ∧ V2 (T + 4) = tsq vx ∧ V2 (T + 5) = vx.2.2 * vx.2.2 ∧ (∀ u, u < T → V2 u = V u) ∧ FrM F A F2 A2)) := by
  refine MetX.of (loc := [_, _, _, _, _, _]) (plainFor_of_name (by decide +kernel)) (Nat.le_of_ble_eq_true rfl) rfl ?_
  intro p e s m args below meth c hC hK hr hlk
  obtain ⟨⟨m0, m1⟩, ⟨r0, r2, r3, r7, r8, r9, r11, r12, r13, r16, r18⟩, ⟨m2, m3⟩, ⟨m4, m5⟩, ⟨m6, m7⟩, ⟨m8, m9⟩, ⟨m10, m11⟩, ⟨m12, m13⟩, ⟨m14, m15⟩, ⟨m16, m17⟩, ⟨m18, m19⟩, ⟨m20, m21⟩, ⟨m22, m23⟩⟩ := id hM
  have hT0 := hS.2.1
  have x1vx : V (x) = vx.1 := congrArg Prod.fst evx
  have x2vx : V (x + 1) = vx.2.1 := congrArg (fun q => q.2.1) evx
  have x3vx : V (x + 2) = vx.2.2 := congrArg (fun q => q.2.2) evx
  have p1 : 0 ≤ tsq vx := by have a := sq_nn vx.1; have b := sq_nn vx.2.1; unfold tsq; omega
  have p2 := sq_nn vx.2.2
  refine x_aload_n (pc2 := 1) hC rfl rfl dX8_sizeOf_0 rfl ?_
  refine x_iload_n (pc2 := 2) hC rfl rfl dX8_sizeOf_1 rfl ?_
  refine x_cVi (pc2 := 5) (ci := 8) hC hK (t_sq l hM hS hx evx bvx (by omega) hab.1) lk_1052 rfl rfl (by decide) (by assumption) (by assumption) ⟨Nat.le_of_ble_eq_true rfl, Nat.le_of_ble_eq_true rfl⟩ ⟨Nat.le_refl _, Nat.le_refl _⟩ rfl (Nat.le_of_ble_eq_true rfl) dX8_sizeOf_2 rfl ?_
  rintro z2 F2 A2 ⟨e2, V1, hS1, v1, k1, g1⟩
  obtain rfl := e2.symm
  refine x_istore_n (pc2 := 6) (loc2 := [_, _, _, _, _, _]) hC rfl (by decide) rfl dX8_sizeOf_5 rfl ?_
  refine x_aload_n (pc2 := 7) hC rfl rfl dX8_sizeOf_6 rfl ?_
  refine x_iload_n (pc2 := 8) hC rfl rfl dX8_sizeOf_7 rfl ?_
  refine x_iconst (pc2 := 9) hC dX8_sizeOf_8 rfl ?_
  refine x_iadd (pc2 := 10) hC dX8_sizeOf_9 rfl ?_
  refine x_iload_n (pc2 := 11) hC rfl rfl dX8_sizeOf_10 rfl ?_
  refine x_iconst (pc2 := 12) hC dX8_sizeOf_11 rfl ?_
  refine x_iadd (pc2 := 13) hC dX8_sizeOf_12 rfl ?_
  refine x_cVi (pc2 := 16) (ci := 8) hC hK (n_times l hM hS1 (by omega) (x := x + 2) (y := x + 2) ⟨by omega, by omega⟩ ⟨by omega, by omega⟩ (a := nc) (b := nc) (by rw [k1 _ (by omega), x3vx]; exact bvx.2.2) (by rw [k1 _ (by omega), x3vx]; exact bvx.2.2) (by omega)) lk_953 rfl rfl (by decide) (by assumption) (by assumption) ⟨Nat.le_of_ble_eq_true rfl, Nat.le_of_ble_eq_true rfl⟩ ⟨Nat.le_refl _, Nat.le_refl _⟩ rfl (Nat.le_of_ble_eq_true rfl) dX8_sizeOf_13 rfl ?_
  rintro z13 F13 A13 ⟨e13, V2, hS2, v2, k2, g2⟩
  obtain rfl := e13.symm
  rw [k1 _ (by omega), x3vx] at v2
  replace hS2 : St (T + 4) V2 F13 A13 := by rw [show T + 4 = T + 3 + 1 by omega]; exact hS2
  refine x_istore_n (pc2 := 17) (loc2 := [_, _, _, _, _, _]) hC rfl (by decide) rfl dX8_sizeOf_16 rfl ?_
  refine x_aload_n (pc2 := 18) hC rfl rfl dX8_sizeOf_17 rfl ?_
  refine x_iload_n (pc2 := 19) hC rfl rfl dX8_sizeOf_18 rfl ?_
  refine x_cVi (pc2 := 22) (ci := 8) hC hK (n_minus l hM hS2 (by omega) (x := T + 2) ⟨by omega, by omega⟩) lk_915 rfl rfl (by decide) (by assumption) (by assumption) ⟨Nat.le_of_ble_eq_true rfl, Nat.le_of_ble_eq_true rfl⟩ ⟨Nat.le_refl _, Nat.le_refl _⟩ rfl (Nat.le_of_ble_eq_true rfl) dX8_sizeOf_19 rfl ?_
  rintro z19 F19 A19 ⟨e19, V3, hS3, v3, k3, g3⟩
  obtain rfl := e19.symm
  rw [k2 _ (by omega), v1] at v3
  replace hS3 : St (T + 5) V3 F19 A19 := by rw [show T + 5 = T + 4 + 1 by omega]; exact hS3
  refine x_istore (pc2 := 24) (loc2 := [_, _, _, _, _, _]) hC (by decide) rfl dX8_sizeOf_22 rfl ?_
  refine x_aload_n (pc2 := 25) hC rfl rfl dX8_sizeOf_24 rfl ?_
  refine x_iload_n (pc2 := 26) hC rfl rfl dX8_sizeOf_25 rfl ?_
  refine x_cVi (pc2 := 29) (ci := 8) hC hK (n_minus l hM hS3 (by omega) (x := T + 3) ⟨by omega, by omega⟩) lk_915 rfl rfl (by decide) (by assumption) (by assumption) ⟨Nat.le_of_ble_eq_true rfl, Nat.le_of_ble_eq_true rfl⟩ ⟨Nat.le_refl _, Nat.le_refl _⟩ rfl (Nat.le_of_ble_eq_true rfl) dX8_sizeOf_26 rfl ?_
  rintro z26 F26 A26 ⟨e26, V4, hS4, v4, k4, g4⟩
  obtain rfl := e26.symm
  rw [k3 _ (by omega), v2] at v4
  replace hS4 : St (T + 6) V4 F26 A26 := by rw [show T + 6 = T + 5 + 1 by omega]; exact hS4
  have hS5 := hS4.sg (x := T + 4) (s := 1) ⟨by omega, by omega⟩ (Or.inl rfl)
  have hS6 := hS5.sg (x := T + 5) (s := 1) ⟨by omega, by omega⟩ (Or.inl rfl)
  refine x_istore (pc2 := 31) (loc2 := [_, _, _, _, _, _]) hC (by decide) rfl dX8_sizeOf_29 rfl ?_
  refine x_aload_n (pc2 := 32) hC rfl rfl dX8_sizeOf_31 rfl ?_
  refine g_818 (pc2 := 35) hC hK (by assumption) (by assumption) (by assumption) dX8_sizeOf_32 rfl ?_
  refine x_iload (pc2 := 37) hC rfl dX8_sizeOf_35 rfl ?_
  refine x_iconst (pc2 := 38) hC dX8_sizeOf_37 rfl ?_
  refine x_iast (pc2 := 39) hC hK (by assumption) (by assumption) (by omega) (by decide) dX8_sizeOf_38 rfl ?_
  refine x_aload_n (pc2 := 40) hC rfl rfl dX8_sizeOf_39 rfl ?_
  refine g_818 (pc2 := 43) hC hK (by assumption) (by assumption) (by assumption) dX8_sizeOf_40 rfl ?_
  refine x_iload (pc2 := 45) hC rfl dX8_sizeOf_43 rfl ?_
  refine x_iconst (pc2 := 46) hC dX8_sizeOf_45 rfl ?_
  refine x_iast (pc2 := 47) hC hK (by assumption) (by assumption) (by omega) (by decide) dX8_sizeOf_46 rfl ?_
  refine x_iload (pc2 := 49) hC rfl dX8_sizeOf_47 rfl ?_
  exact x_iret hC hr hlk ⟨_, rfl, rfl, _, hS6, by rw [upZ_ne (by omega), upZ_eq, k4 _ (by omega), v3]; omega, by rw [upZ_eq, upZ_ne (by omega), v4]; omega, fun u hu => by rw [upZ_ne (by omega), upZ_ne (by omega), k4 u (by omega), k3 u (by omega), k2 u (by omega), k1 u hu], (((g1.tr g2).tr g3).tr g4).tr ((FrM.w (by decide)).tr (FrM.w (by decide)))⟩ dX8_sizeOf_49
