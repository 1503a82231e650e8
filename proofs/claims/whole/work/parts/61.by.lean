theorem tdiv_sg {X Y a b : Int} (ha : a = 1 ∨ a = -1) (hb : b = 1 ∨ b = -1) (hX : a * (X.natAbs : Int) = X) (hY : b * (Y.natAbs : Int) = Y) : a * b * ((X.natAbs / Y.natAbs : Nat) : Int) = X.tdiv Y := by
  have e : (X.natAbs : Int).tdiv (Y.natAbs : Int) = ((X.natAbs / Y.natAbs : Nat) : Int) := rfl
  have nX : X = X.natAbs ∨ X = -(X.natAbs : Int) := by omega
  rcases ha with rfl | rfl <;> rcases hb with rfl | rfl
  · rw [Int.one_mul] at hX hY
    rw [← e, hX, hY]; omega
  · have hY2 : (Y.natAbs : Int) = -Y := by omega
    rw [← e, show (X.natAbs : Int) = X by omega, hY2, Int.tdiv_neg]; omega
  · have hX2 : (X.natAbs : Int) = -X := by omega
    rw [← e, show (Y.natAbs : Int) = Y by omega, hX2, Int.neg_tdiv]; omega
  · have hX2 : (X.natAbs : Int) = -X := by omega
    have hY2 : (Y.natAbs : Int) = -Y := by omega
    rw [← e, hX2, hY2, Int.neg_tdiv, Int.tdiv_neg]; omega
theorem dX8_by_0 : decode cX8_by 0 = .ok (.aload_n 0, 1) := by decide +kernel
theorem dX8_by_1 : decode cX8_by 1 = .ok (.invokevirtual 55, 3) := by decide +kernel
theorem dX8_by_4 : decode cX8_by 4 = .ok (.istore_n 3, 1) := by decide +kernel
theorem dX8_by_5 : decode cX8_by 5 = .ok (.aload_n 0, 1) := by decide +kernel
theorem dX8_by_6 : decode cX8_by 6 = .ok (.invokevirtual 55, 3) := by decide +kernel
theorem dX8_by_9 : decode cX8_by 9 = .ok (.istore 4, 2) := by decide +kernel
theorem dX8_by_11 : decode cX8_by 11 = .ok (.aload_n 0, 1) := by decide +kernel
theorem dX8_by_12 : decode cX8_by 12 = .ok (.iload_n 1, 1) := by decide +kernel
theorem dX8_by_13 : decode cX8_by 13 = .ok (.iload_n 2, 1) := by decide +kernel
theorem dX8_by_14 : decode cX8_by 14 = .ok (.iload_n 3, 1) := by decide +kernel
theorem dX8_by_15 : decode cX8_by 15 = .ok (.invokevirtual 83, 3) := by decide +kernel
theorem dX8_by_18 : decode cX8_by 18 = .ok (.istore 5, 2) := by decide +kernel
theorem dX8_by_20 : decode cX8_by 20 = .ok (.iconst 0, 1) := by decide +kernel
theorem dX8_by_21 : decode cX8_by 21 = .ok (.istore 6, 2) := by decide +kernel
theorem dX8_by_23 : decode cX8_by 23 = .ok (.iload 6, 2) := by decide +kernel
theorem dX8_by_25 : decode cX8_by 25 = .ok (.iload 5, 2) := by decide +kernel
theorem dX8_by_27 : decode cX8_by 27 = .ok (.if_icmp .ge 30, 3) := by decide +kernel
theorem dX8_by_30 : decode cX8_by 30 = .ok (.aload_n 0, 1) := by decide +kernel
theorem dX8_by_31 : decode cX8_by 31 = .ok (.getfield 28, 3) := by decide +kernel
theorem dX8_by_34 : decode cX8_by 34 = .ok (.sipush 240, 3) := by decide +kernel
theorem dX8_by_37 : decode cX8_by 37 = .ok (.iload 4, 2) := by decide +kernel
theorem dX8_by_39 : decode cX8_by 39 = .ok (.imul, 1) := by decide +kernel
theorem dX8_by_40 : decode cX8_by 40 = .ok (.iload 6, 2) := by decide +kernel
theorem dX8_by_42 : decode cX8_by 42 = .ok (.iadd, 1) := by decide +kernel
theorem dX8_by_43 : decode cX8_by 43 = .ok (.aload_n 0, 1) := by decide +kernel
theorem dX8_by_44 : decode cX8_by 44 = .ok (.getfield 43, 3) := by decide +kernel
theorem dX8_by_47 : decode cX8_by 47 = .ok (.iload 6, 2) := by decide +kernel
theorem dX8_by_49 : decode cX8_by 49 = .ok (.iaload, 1) := by decide +kernel
theorem dX8_by_50 : decode cX8_by 50 = .ok (.iastore, 1) := by decide +kernel
theorem dX8_by_51 : decode cX8_by 51 = .ok (.iinc 6 1, 3) := by decide +kernel
theorem dX8_by_54 : decode cX8_by 54 = .ok (.goto (-31), 3) := by decide +kernel
theorem dX8_by_57 : decode cX8_by 57 = .ok (.aload_n 0, 1) := by decide +kernel
theorem dX8_by_58 : decode cX8_by 58 = .ok (.getfield 31, 3) := by decide +kernel
theorem dX8_by_61 : decode cX8_by 61 = .ok (.iload 4, 2) := by decide +kernel
theorem dX8_by_63 : decode cX8_by 63 = .ok (.iload 5, 2) := by decide +kernel
theorem dX8_by_65 : decode cX8_by 65 = .ok (.iastore, 1) := by decide +kernel
theorem dX8_by_66 : decode cX8_by 66 = .ok (.aload_n 0, 1) := by decide +kernel
theorem dX8_by_67 : decode cX8_by 67 = .ok (.getfield 34, 3) := by decide +kernel
theorem dX8_by_70 : decode cX8_by 70 = .ok (.iload 4, 2) := by decide +kernel
theorem dX8_by_72 : decode cX8_by 72 = .ok (.aload_n 0, 1) := by decide +kernel
theorem dX8_by_73 : decode cX8_by 73 = .ok (.getfield 34, 3) := by decide +kernel
theorem dX8_by_76 : decode cX8_by 76 = .ok (.iload_n 1, 1) := by decide +kernel
theorem dX8_by_77 : decode cX8_by 77 = .ok (.iaload, 1) := by decide +kernel
theorem dX8_by_78 : decode cX8_by 78 = .ok (.aload_n 0, 1) := by decide +kernel
theorem dX8_by_79 : decode cX8_by 79 = .ok (.getfield 34, 3) := by decide +kernel
theorem dX8_by_82 : decode cX8_by 82 = .ok (.iload_n 2, 1) := by decide +kernel
theorem dX8_by_83 : decode cX8_by 83 = .ok (.iaload, 1) := by decide +kernel
theorem dX8_by_84 : decode cX8_by 84 = .ok (.imul, 1) := by decide +kernel
theorem dX8_by_85 : decode cX8_by 85 = .ok (.iastore, 1) := by decide +kernel
theorem dX8_by_86 : decode cX8_by 86 = .ok (.aload_n 0, 1) := by decide +kernel
theorem dX8_by_87 : decode cX8_by 87 = .ok (.iload 4, 2) := by decide +kernel
theorem dX8_by_89 : decode cX8_by 89 = .ok (.invokevirtual 69, 3) := by decide +kernel
theorem dX8_by_92 : decode cX8_by 92 = .ok (.iload 4, 2) := by decide +kernel
theorem dX8_by_94 : decode cX8_by 94 = .ok (.ireturn, 1) := by decide +kernel
theorem St.fr {T : Int} {V : Int → Int} {F : Nat → Nat → Int} {A : Nat → Int → Int} (hS : St T V F A) (hT : T < 1500) : St (T + 1) (upZ V T 0) (uF F 0 10 (T + 1)) (uA (uA A 5 T 0) 6 T 1) := by
  have e5 : uA (uA A 5 T 0) 6 T 1 5 T = 0 := by rw [uA_ne (by decide), uA_eq]
  refine ⟨uF_eq, by have := hS.2.1; omega, fun u u0 u1 => ?_⟩
  by_cases z : u = T
  · subst z
    rw [upZ_eq]
    refine ⟨⟨by rw [e5]; decide, by rw [e5]; exact fun k a b => by omega, by rw [e5]; exact fun q => absurd q (by decide), by rw [uA_eq]; decide⟩, ?_⟩
    unfold mv mm
    rw [e5]
    exact Int.mul_zero _
  · obtain ⟨a, b⟩ := hS.2.2 u u0 (by omega)
    obtain ⟨c, d⟩ := (Wr.fr (A := A) (T := T)).ok (by omega) a
    rw [upZ_ne z]; exact ⟨c, d.trans b⟩
theorem FrM.fr {T : Int} {F : Nat → Nat → Int} {A : Nat → Int → Int} : FrM F A (uF F 0 10 (T + 1)) (uA (uA A 5 T 0) 6 T 1) := ⟨fun _ ho => uF_ne ho, fun _ a _ _ => uF_nj a, fun a a4 a5 a6 _ _ _ => by rw [uA_ne a6, uA_ne a5]⟩
set_option maxHeartbeats 8000000 in
theorem n_by (l : Launch) {D : va_G} {ids : Nat → ClassId} {β : Nat} {sh : Nat → Nat × Nat} {N : Nat} {R : Nat → Nat → Option Nat} {F : Nat → Nat → Int} {A : Nat → Int → Int} (hM : MoL sh R N) {T x y : Int} {V : Int → Int} (hS : St T V F A) (hT : T < 1498) (hx : 0 ≤ x ∧ x < T) (hy : 0 ≤ y ∧ y < T) (y0 : V y ≠ 0) : MetX l yX8_by cX8_by 7 (some (.int)) 2 62 D ids β sh N R F A [rf 0, pI x, pI y] (pIr (fun z F2 A2 => z = T + 1 ∧ ∃ V2, St (T + 2) V2 F2 A2 ∧ V2 (T + 1) = (V x).tdiv (V y) ∧ (∀ u, u < T → V2 u = V u) ∧ FrM F A F2 A2)) := by
  refine MetX.of (loc := [_, _, _, _, _, _, _]) (plainFor_of_name (by decide +kernel)) (Nat.le_of_ble_eq_true rfl) rfl ?_
  intro p e s m args below meth c hC hK hr hlk
  obtain ⟨⟨m0, m1⟩, ⟨r0, r2, r3, r7, r8, r9, r11, r12, r13, r16, r18⟩, ⟨m2, m3⟩, ⟨m4, m5⟩, ⟨m6, m7⟩, ⟨m8, m9⟩, ⟨m10, m11⟩, ⟨m12, m13⟩, ⟨m14, m15⟩, ⟨m16, m17⟩, ⟨m18, m19⟩, ⟨m20, m21⟩, ⟨m22, m23⟩⟩ := id hM
  obtain ⟨okx, evx⟩ := hS.2.2 x hx.1 hx.2
  obtain ⟨oky, evy⟩ := hS.2.2 y hy.1 hy.2
  have hT0 := hS.2.1
  have fin : ∀ (q : Int) (F1 : Nat → Nat → Int) (A1 : Nat → Int → Int) (V1 : Int → Int), 0 ≤ q → q ≤ 240 → St (T + 2) V1 F1 A1 → (∀ u, u < T → V1 u = V u) → FrM F A F1 A1 → A1 6 x = A 6 x → A1 6 y = A 6 y → dig 32768 (A1 9) q → dv 32768 (A1 9) q.toNat = (((V x).natAbs / (V y).natAbs : Nat) : Int) → ∀ (d k : Nat) (A2 : Nat → Int → Int), q - k < d → (k : Int) ≤ q → Wr (T + 1) A1 A2 → (∀ j : Int, 0 ≤ j → j < k → mlm A2 (T + 1) j = A1 9 j) → X p l e { frames := 2, cells := 0, slots := 0, locals := 62 } s m args below meth c (MQ below (QX D ids β sh N R (pIr (fun z F2 A2 => z = T + 1 ∧ ∃ V2, St (T + 2) V2 F2 A2 ∧ V2 (T + 1) = (V x).tdiv (V y) ∧ (∀ u, u < T → V2 u = V u) ∧ FrM F A F2 A2))) args s 0 0 (inG β N)) (inG β N) D ids β sh 7 0 0 N R F1 A2 [some (rf 0), some (pI x), some (pI y), some (pI T), some (pI (T + 1)), some (pI q), some (pI (k : Int))] [] 23 := by
    intro q F1 A1 V1 q0 q1 hS1 hk1 hf1 x6 y6 hd9 hv9 d
    induction d with
    | zero => intro k A2 hd; omega
    | succ d ih =>
      intro k A2 hd hk hw hc
      have rd9 : A2 9 (k : Int) = A1 9 k := by rw [hw.2 9 (by decide) (by decide) (by decide)]
      obtain ⟨wx5, wx6⟩ := hw.1.1 x (by omega)
      obtain ⟨wy5, wy6⟩ := hw.1.1 y (by omega)
      have r6x : uA A2 5 (T + 1) q 6 x = A 6 x := by rw [uA_ne (by decide), wx6, x6]
      have r6y : uA A2 5 (T + 1) q 6 y = A 6 y := by rw [uA_ne (by decide), wy6, y6]
      refine x_iload (pc2 := 25) hC rfl dX8_by_23 rfl ?_
      refine x_iload (pc2 := 27) hC rfl dX8_by_25 rfl ?_
      refine x_icmp_ge (tgt := 57) (pc2 := 30) hC (by omega) (by omega) dX8_by_27 rfl rfl (fun h_27 => ?_) (fun h_27 => ?_)
      · have hkq : (k : Int) = q := by omega
        have e5b : (uA (uA A2 5 (T + 1) q) 6 (T + 1) (A 6 x * A 6 y)) 5 (T + 1) = q := by rw [uA_ne (by decide), uA_eq]
        have e6b : (uA (uA A2 5 (T + 1) q) 6 (T + 1) (A 6 x * A 6 y)) 6 (T + 1) = A 6 x * A 6 y := uA_eq
        have hs5 : 0 ≤ (uA (uA A2 5 (T + 1) q) 6 (T + 1) (A 6 x * A 6 y)) 5 (T + 1) ∧ (uA (uA A2 5 (T + 1) q) 6 (T + 1) (A 6 x * A 6 y)) 5 (T + 1) ≤ 240 := by rw [e5b]; exact ⟨q0, q1⟩
        have hd5 : dig 32768 (mlm (uA (uA A2 5 (T + 1) q) 6 (T + 1) (A 6 x * A 6 y)) (T + 1)) ((uA (uA A2 5 (T + 1) q) 6 (T + 1) (A 6 x * A 6 y)) 5 (T + 1)) := by
          rw [e5b, mlm_6, mlm_5]
          exact fun j a b => by rw [hc j a (by omega)]; exact hd9 j a b
        have h65 : (uA (uA A2 5 (T + 1) q) 6 (T + 1) (A 6 x * A 6 y)) 6 (T + 1) = 1 ∨ (uA (uA A2 5 (T + 1) q) 6 (T + 1) (A 6 x * A 6 y)) 6 (T + 1) = -1 := by
          rw [e6b]
          rcases okx.2.2.2 with z | z <;> rcases oky.2.2.2 with w | w <;> rw [z, w] <;> decide
        have hval : (uA (uA A2 5 (T + 1) q) 6 (T + 1) (A 6 x * A 6 y)) 6 (T + 1) * dv 32768 (mlm (uA (uA A2 5 (T + 1) q) 6 (T + 1) (A 6 x * A 6 y)) (T + 1)) ((uA (uA A2 5 (T + 1) q) 6 (T + 1) (A 6 x * A 6 y)) 5 (T + 1)).toNat = (V x).tdiv (V y) := by
          rw [e5b, e6b, mlm_6, mlm_5, dv_congr (g := A1 9) (fun j a b => hc j a (by omega)), hv9]
          exact tdiv_sg okx.2.2.2 oky.2.2.2 (by rw [← evx]; exact sgn_na okx) (by rw [← evy]; exact sgn_na oky)
        refine x_aload_n (pc2 := 58) hC rfl rfl dX8_by_57 rfl ?_
        refine g_817 (pc2 := 61) hC hK (by assumption) (by assumption) (by assumption) dX8_by_58 rfl ?_
        refine x_iload (pc2 := 63) hC rfl dX8_by_61 rfl ?_
        refine x_iload (pc2 := 65) hC rfl dX8_by_63 rfl ?_
        refine x_iast (pc2 := 66) hC hK (by assumption) (by assumption) (by omega) (by decide) dX8_by_65 rfl ?_
        refine x_aload_n (pc2 := 67) hC rfl rfl dX8_by_66 rfl ?_
        refine g_818 (pc2 := 70) hC hK (by assumption) (by assumption) (by assumption) dX8_by_67 rfl ?_
        refine x_iload (pc2 := 72) hC rfl dX8_by_70 rfl ?_
        refine x_aload_n (pc2 := 73) hC rfl rfl dX8_by_72 rfl ?_
        refine g_818 (pc2 := 76) hC hK (by assumption) (by assumption) (by assumption) dX8_by_73 rfl ?_
        refine x_iload_n (pc2 := 77) hC rfl rfl dX8_by_76 rfl ?_
        refine x_iald (pc2 := 78) hC hK (by assumption) (by assumption) (by omega) (by decide) dX8_by_77 rfl ?_
        rw [r6x]
        refine x_aload_n (pc2 := 79) hC rfl rfl dX8_by_78 rfl ?_
        refine g_818 (pc2 := 82) hC hK (by assumption) (by assumption) (by assumption) dX8_by_79 rfl ?_
        refine x_iload_n (pc2 := 83) hC rfl rfl dX8_by_82 rfl ?_
        refine x_iald (pc2 := 84) hC hK (by assumption) (by assumption) (by omega) (by decide) dX8_by_83 rfl ?_
        rw [r6y]
        refine x_imul (pc2 := 85) hC dX8_by_84 rfl ?_
        refine x_iast (pc2 := 86) hC hK (by assumption) (by assumption) (by omega) (by decide) dX8_by_85 rfl ?_
        refine x_aload_n (pc2 := 87) hC rfl rfl dX8_by_86 rfl ?_
        refine x_iload (pc2 := 89) hC rfl dX8_by_87 rfl ?_
        refine x_cVv (pc2 := 92) (ci := 8) hC hK (n_trims l hM ⟨by omega, by omega⟩ hs5 hd5) lk_940 rfl rfl (by decide) (by assumption) (by assumption) ⟨Nat.le_of_ble_eq_true rfl, Nat.le_of_ble_eq_true rfl⟩ ⟨Nat.le_refl _, Nat.le_refl _⟩ rfl (Nat.le_of_ble_eq_true rfl) dX8_by_89 rfl ?_
        rintro F89 A89 ⟨e189, nn, n1, n2, n3, n4⟩
        obtain rfl := e189.symm
        obtain ⟨t1, t2⟩ := MOK.tr hs5 hd5 h65 n1 n2 n3 n4
        have t3 : mv A89 (T + 1) = (V x).tdiv (V y) := by
          unfold mv
          rw [t2, ← hval]
          congr 1
          rw [n2, uA_ne (by decide)]
        have hw3 : Wr (T + 1) A1 A89 := by rw [n2]; exact hw.w5.w6.w5
        have hS3 : St (T + 2) (upZ V1 (T + 1) ((V x).tdiv (V y))) F1 A89 := by
          refine ⟨hS1.1, hS1.2.1, fun u u0 u1 => ?_⟩
          by_cases z : u = T + 1
          · subst z; rw [upZ_eq]; exact ⟨t1, t3⟩
          · obtain ⟨a, b⟩ := hS1.2.2 u u0 u1
            obtain ⟨c, dd⟩ := hw3.ok (by omega) a
            rw [upZ_ne z]; exact ⟨c, dd.trans b⟩
        refine x_iload (pc2 := 94) hC rfl dX8_by_92 rfl ?_
        exact x_iret hC hr hlk ⟨_, rfl, rfl, _, hS3, upZ_eq, fun u hu => by rw [upZ_ne (by omega)]; exact hk1 u hu, hf1.tr ⟨fun _ _ => rfl, fun _ _ _ _ => rfl, fun a a4 a5 a6 _ _ _ => hw3.2 a a4 a5 a6⟩⟩ dX8_by_94
      · refine x_aload_n (pc2 := 31) hC rfl rfl dX8_by_30 rfl ?_
        refine g_816 (pc2 := 34) hC hK (by assumption) (by assumption) (by assumption) dX8_by_31 rfl ?_
        refine x_sipush (pc2 := 37) hC rfl dX8_by_34 rfl ?_
        refine x_iload (pc2 := 39) hC rfl dX8_by_37 rfl ?_
        refine x_imul (pc2 := 40) hC dX8_by_39 rfl ?_
        refine x_iload (pc2 := 42) hC rfl dX8_by_40 rfl ?_
        refine x_iadd (pc2 := 43) hC dX8_by_42 rfl ?_
        refine x_aload_n (pc2 := 44) hC rfl rfl dX8_by_43 rfl ?_
        refine g_822 (pc2 := 47) hC hK (by assumption) (by assumption) (by assumption) dX8_by_44 rfl ?_
        refine x_iload (pc2 := 49) hC rfl dX8_by_47 rfl ?_
        refine x_iald (pc2 := 50) hC hK (by assumption) (by assumption) (by omega) (by decide) dX8_by_49 rfl ?_
        rw [rd9]
        refine x_iast (pc2 := 51) hC hK (by assumption) (by assumption) (by omega) (by decide) dX8_by_50 rfl ?_
        refine x_iinc (pc2 := 54) (loc2 := [_, _, _, _, _, _, _]) hC (by decide) rfl rfl dX8_by_51 rfl ?_
        refine x_goto (pc2 := 23) hC dX8_by_54 rfl ?_
        refine ih (k + 1) _ (by omega) (by omega) (hw.w4 (by omega)) (fun j j0 j1 => ?_)
        rw [mlm_at]
        by_cases z : j = k
        · rw [if_pos z, z]
        · rw [if_neg z]; exact hc j j0 (by omega)
  refine x_aload_n (pc2 := 1) hC rfl rfl dX8_by_0 rfl ?_
  refine x_cVi (pc2 := 4) (ci := 8) hC hK (n_fresh l hM hS.1 ⟨hT0.1, by omega⟩) lk_906 rfl rfl (by decide) (by assumption) (by assumption) ⟨Nat.le_of_ble_eq_true rfl, Nat.le_of_ble_eq_true rfl⟩ ⟨Nat.le_refl _, Nat.le_refl _⟩ rfl (Nat.le_of_ble_eq_true rfl) dX8_by_1 rfl ?_
  rintro z1 F1 A1 ⟨e11, e21, e31⟩
  have hS1 := St.fr hS (show T < 1500 by omega)
  have hw1 : Wr (T) A A1 := by rw [e31]; exact Wr.fr
  have gf1 : FrM F A F1 A1 := by rw [e21, e31]; exact FrM.fr
  rw [← e21, ← e31] at hS1
  obtain rfl := e11.symm
  clear e21 e31
  refine x_istore_n (pc2 := 5) (loc2 := [_, _, _, _, _, _, _]) hC rfl (by decide) rfl dX8_by_4 rfl ?_
  refine x_aload_n (pc2 := 6) hC rfl rfl dX8_by_5 rfl ?_
  refine x_cVi (pc2 := 9) (ci := 8) hC hK (n_fresh l hM hS1.1 ⟨by omega, by omega⟩) lk_906 rfl rfl (by decide) (by assumption) (by assumption) ⟨Nat.le_of_ble_eq_true rfl, Nat.le_of_ble_eq_true rfl⟩ ⟨Nat.le_refl _, Nat.le_refl _⟩ rfl (Nat.le_of_ble_eq_true rfl) dX8_by_6 rfl ?_
  rintro z6 F6 A6 ⟨e16, e26, e36⟩
  have hS2 := St.fr hS1 (show T + 1 < 1500 by omega)
  have hw2 : Wr (T + 1) A1 A6 := by rw [e36]; exact Wr.fr
  have gf2 : FrM F1 A1 F6 A6 := by rw [e26, e36]; exact FrM.fr
  rw [← e26, ← e36] at hS2
  obtain rfl := e16.symm
  clear e26 e36
  refine x_istore (pc2 := 11) (loc2 := [_, _, _, _, _, _, _]) hC (by decide) rfl dX8_by_9 rfl ?_
  refine x_aload_n (pc2 := 12) hC rfl rfl dX8_by_11 rfl ?_
  refine x_iload_n (pc2 := 13) hC rfl rfl dX8_by_12 rfl ?_
  refine x_iload_n (pc2 := 14) hC rfl rfl dX8_by_13 rfl ?_
  refine x_iload_n (pc2 := 15) hC rfl rfl dX8_by_14 rfl ?_
  refine x_cVi (pc2 := 18) (ci := 8) hC hK (s_divides l hM hS2 (x := x) (y := y) (r := T) ⟨hx.1, by omega⟩ ⟨hy.1, by omega⟩ ⟨by omega, by omega⟩ (by omega) (by omega) (by rw [upZ_ne (by omega), upZ_ne (by omega)]; exact y0)) lk_927 rfl rfl (by decide) (by assumption) (by assumption) ⟨Nat.le_of_ble_eq_true rfl, Nat.le_of_ble_eq_true rfl⟩ ⟨Nat.le_refl _, Nat.le_refl _⟩ rfl (Nat.le_of_ble_eq_true rfl) dX8_by_15 rfl ?_
  rintro z15 F15 A15 ⟨p1, p2, p3, e15, V3, hS3, p4, p5, p6, p7⟩
  obtain rfl := e15.symm
  have px : upZ (upZ V T 0) (T + 1) 0 x = V x := by rw [upZ_ne (by omega), upZ_ne (by omega)]
  have py : upZ (upZ V T 0) (T + 1) 0 y = V y := by rw [upZ_ne (by omega), upZ_ne (by omega)]
  rw [px, py] at p3
  refine x_istore (pc2 := 20) (loc2 := [_, _, _, _, _, _, _]) hC (by decide) rfl dX8_by_18 rfl ?_
  refine x_iconst (pc2 := 21) hC dX8_by_20 rfl ?_
  refine x_istore (pc2 := 23) (loc2 := [_, _, _, _, _, _, _]) hC (by decide) rfl dX8_by_21 rfl ?_
  exact fin z15 _ A15 V3 p1.1 p1.2 (by rw [show T + 2 = T + 1 + 1 by omega]; exact hS3) (fun u hu => by rw [p5 u (by omega), upZ_ne (by omega), upZ_ne (by omega)]) ((gf1.tr gf2).tr p7) (by rw [p6, (hw2.1.1 x (by omega)).2, (hw1.1.1 x (by omega)).2]) (by rw [p6, (hw2.1.1 y (by omega)).2, (hw1.1.1 y (by omega)).2]) p2 p3 1000 0 A15 (by omega) (by omega) Wr.rf (fun j a b => by omega)
theorem dX8_triple_0 : decode cX8_triple 0 = .ok (.aload_n 0, 1) := by decide +kernel
theorem dX8_triple_1 : decode cX8_triple 1 = .ok (.iload_n 1, 1) := by decide +kernel
theorem dX8_triple_2 : decode cX8_triple 2 = .ok (.invokevirtual 73, 3) := by decide +kernel
theorem dX8_triple_5 : decode cX8_triple 5 = .ok (.istore 4, 2) := by decide +kernel
theorem dX8_triple_7 : decode cX8_triple 7 = .ok (.aload_n 0, 1) := by decide +kernel
theorem dX8_triple_8 : decode cX8_triple 8 = .ok (.iload_n 2, 1) := by decide +kernel
theorem dX8_triple_9 : decode cX8_triple 9 = .ok (.invokevirtual 73, 3) := by decide +kernel
theorem dX8_triple_12 : decode cX8_triple 12 = .ok (.istore 5, 2) := by decide +kernel
theorem dX8_triple_14 : decode cX8_triple 14 = .ok (.aload_n 0, 1) := by decide +kernel
theorem dX8_triple_15 : decode cX8_triple 15 = .ok (.iload_n 3, 1) := by decide +kernel
theorem dX8_triple_16 : decode cX8_triple 16 = .ok (.invokevirtual 73, 3) := by decide +kernel
theorem dX8_triple_19 : decode cX8_triple 19 = .ok (.istore 6, 2) := by decide +kernel
theorem dX8_triple_21 : decode cX8_triple 21 = .ok (.aload_n 0, 1) := by decide +kernel
theorem dX8_triple_22 : decode cX8_triple 22 = .ok (.getfield 34, 3) := by decide +kernel
theorem dX8_triple_25 : decode cX8_triple 25 = .ok (.iload 4, 2) := by decide +kernel
theorem dX8_triple_27 : decode cX8_triple 27 = .ok (.aload_n 0, 1) := by decide +kernel
theorem dX8_triple_28 : decode cX8_triple 28 = .ok (.getfield 34, 3) := by decide +kernel
theorem dX8_triple_31 : decode cX8_triple 31 = .ok (.iload 4, 2) := by decide +kernel
theorem dX8_triple_33 : decode cX8_triple 33 = .ok (.iaload, 1) := by decide +kernel
theorem dX8_triple_34 : decode cX8_triple 34 = .ok (.ineg, 1) := by decide +kernel
theorem dX8_triple_35 : decode cX8_triple 35 = .ok (.iastore, 1) := by decide +kernel
theorem dX8_triple_36 : decode cX8_triple 36 = .ok (.aload_n 0, 1) := by decide +kernel
theorem dX8_triple_37 : decode cX8_triple 37 = .ok (.getfield 34, 3) := by decide +kernel
theorem dX8_triple_40 : decode cX8_triple 40 = .ok (.iload 5, 2) := by decide +kernel
theorem dX8_triple_42 : decode cX8_triple 42 = .ok (.aload_n 0, 1) := by decide +kernel
theorem dX8_triple_43 : decode cX8_triple 43 = .ok (.getfield 34, 3) := by decide +kernel
theorem dX8_triple_46 : decode cX8_triple 46 = .ok (.iload 5, 2) := by decide +kernel
theorem dX8_triple_48 : decode cX8_triple 48 = .ok (.iaload, 1) := by decide +kernel
theorem dX8_triple_49 : decode cX8_triple 49 = .ok (.ineg, 1) := by decide +kernel
theorem dX8_triple_50 : decode cX8_triple 50 = .ok (.iastore, 1) := by decide +kernel
theorem dX8_triple_51 : decode cX8_triple 51 = .ok (.aload_n 0, 1) := by decide +kernel
theorem dX8_triple_52 : decode cX8_triple 52 = .ok (.getfield 34, 3) := by decide +kernel
theorem dX8_triple_55 : decode cX8_triple 55 = .ok (.iload 6, 2) := by decide +kernel
theorem dX8_triple_57 : decode cX8_triple 57 = .ok (.aload_n 0, 1) := by decide +kernel
theorem dX8_triple_58 : decode cX8_triple 58 = .ok (.getfield 34, 3) := by decide +kernel
theorem dX8_triple_61 : decode cX8_triple 61 = .ok (.iload 6, 2) := by decide +kernel
theorem dX8_triple_63 : decode cX8_triple 63 = .ok (.iaload, 1) := by decide +kernel
theorem dX8_triple_64 : decode cX8_triple 64 = .ok (.ineg, 1) := by decide +kernel
theorem dX8_triple_65 : decode cX8_triple 65 = .ok (.iastore, 1) := by decide +kernel
theorem dX8_triple_66 : decode cX8_triple 66 = .ok (.iload 4, 2) := by decide +kernel
theorem dX8_triple_68 : decode cX8_triple 68 = .ok (.ireturn, 1) := by decide +kernel
theorem St.ng {T x : Int} {V : Int → Int} {F : Nat → Nat → Int} {A : Nat → Int → Int} (h : St T V F A) (hx : 0 ≤ x ∧ x < T) : St T (upZ V x (-(V x))) F (uA A 6 x (-(A 6 x))) := by
  obtain ⟨ok, ev⟩ := h.2.2 x hx.1 hx.2
  have k := h.sg hx (s := -(A 6 x)) (by have := ok.2.2.2; omega)
  have e := sgn_na ok
  rw [ev] at e
  rwa [show -(A 6 x) * ((V x).natAbs : Int) = -(V x) by rw [Int.neg_mul, e]] at k
set_option maxHeartbeats 4000000 in
theorem n_triple (l : Launch) {D : va_G} {ids : Nat → ClassId} {β : Nat} {sh : Nat → Nat × Nat} {N : Nat} {R : Nat → Nat → Option Nat} {F : Nat → Nat → Int} {A : Nat → Int → Int} (hM : MoL sh R N) {T x y w : Int} {V : Int → Int} (hS : St T V F A) (hT : T < 1497) (hx : 0 ≤ x ∧ x < T) (hy : 0 ≤ y ∧ y < T) (hw : 0 ≤ w ∧ w < T) : MetX l yX8_triple cX8_triple 7 (some (.int)) 2 43 D ids β sh N R F A [rf 0, pI x, pI y, pI w] (pIr (fun z F2 A2 => z = T ∧ ∃ V2, St (T + 3) V2 F2 A2 ∧ (V2 T = V x ∧ V2 (T + 1) = V y ∧ V2 (T + 2) = V w) ∧ (∀ u, u < T → V2 u = V u) ∧ FrM F A F2 A2)) := by
  refine MetX.of (loc := [_, _, _, _, _, _, _]) (plainFor_of_name (by decide +kernel)) (Nat.le_of_ble_eq_true rfl) rfl ?_
  intro p e s m args below meth c hC hK hr hlk
  obtain ⟨⟨m0, m1⟩, ⟨r0, r2, r3, r7, r8, r9, r11, r12, r13, r16, r18⟩, ⟨m2, m3⟩, ⟨m4, m5⟩, ⟨m6, m7⟩, ⟨m8, m9⟩, ⟨m10, m11⟩, ⟨m12, m13⟩, ⟨m14, m15⟩, ⟨m16, m17⟩, ⟨m18, m19⟩, ⟨m20, m21⟩, ⟨m22, m23⟩⟩ := id hM
  have hT0 := hS.2.1
  refine x_aload_n (pc2 := 1) hC rfl rfl dX8_triple_0 rfl ?_
  refine x_iload_n (pc2 := 2) hC rfl rfl dX8_triple_1 rfl ?_
  refine x_cVi (pc2 := 5) (ci := 8) hC hK (n_minus l hM hS (by omega) hx) lk_915 rfl rfl (by decide) (by assumption) (by assumption) ⟨Nat.le_of_ble_eq_true rfl, Nat.le_of_ble_eq_true rfl⟩ ⟨Nat.le_refl _, Nat.le_refl _⟩ rfl (Nat.le_of_ble_eq_true rfl) dX8_triple_2 rfl ?_
  rintro z2 F2 A2 ⟨e2, V1, hS1, v1, k1, g1⟩
  obtain rfl := e2.symm
  refine x_istore (pc2 := 7) (loc2 := [_, _, _, _, _, _, _]) hC (by decide) rfl dX8_triple_5 rfl ?_
  refine x_aload_n (pc2 := 8) hC rfl rfl dX8_triple_7 rfl ?_
  refine x_iload_n (pc2 := 9) hC rfl rfl dX8_triple_8 rfl ?_
  refine x_cVi (pc2 := 12) (ci := 8) hC hK (n_minus l hM hS1 (by omega) (x := y) ⟨hy.1, by omega⟩) lk_915 rfl rfl (by decide) (by assumption) (by assumption) ⟨Nat.le_of_ble_eq_true rfl, Nat.le_of_ble_eq_true rfl⟩ ⟨Nat.le_refl _, Nat.le_refl _⟩ rfl (Nat.le_of_ble_eq_true rfl) dX8_triple_9 rfl ?_
  rintro z9 F9 A9 ⟨e9, V2, hS2, v2, k2, g2⟩
  obtain rfl := e9.symm
  refine x_istore (pc2 := 14) (loc2 := [_, _, _, _, _, _, _]) hC (by decide) rfl dX8_triple_12 rfl ?_
  refine x_aload_n (pc2 := 15) hC rfl rfl dX8_triple_14 rfl ?_
  refine x_iload_n (pc2 := 16) hC rfl rfl dX8_triple_15 rfl ?_
  refine x_cVi (pc2 := 19) (ci := 8) hC hK (n_minus l hM hS2 (by omega) (x := w) ⟨hw.1, by omega⟩) lk_915 rfl rfl (by decide) (by assumption) (by assumption) ⟨Nat.le_of_ble_eq_true rfl, Nat.le_of_ble_eq_true rfl⟩ ⟨Nat.le_refl _, Nat.le_refl _⟩ rfl (Nat.le_of_ble_eq_true rfl) dX8_triple_16 rfl ?_
  rintro z16 F16 A16 ⟨e16, V3, hS3, v3, k3, g3⟩
  obtain rfl := e16.symm
  have hS4 := hS3.ng (x := T) ⟨by omega, by omega⟩
  have hS5 := hS4.ng (x := T + 1) ⟨by omega, by omega⟩
  have hS6 := hS5.ng (x := T + 1 + 1) ⟨by omega, by omega⟩
  refine x_istore (pc2 := 21) (loc2 := [_, _, _, _, _, _, _]) hC (by decide) rfl dX8_triple_19 rfl ?_
  refine x_aload_n (pc2 := 22) hC rfl rfl dX8_triple_21 rfl ?_
  refine g_818 (pc2 := 25) hC hK (by assumption) (by assumption) (by assumption) dX8_triple_22 rfl ?_
  refine x_iload (pc2 := 27) hC rfl dX8_triple_25 rfl ?_
  refine x_aload_n (pc2 := 28) hC rfl rfl dX8_triple_27 rfl ?_
  refine g_818 (pc2 := 31) hC hK (by assumption) (by assumption) (by assumption) dX8_triple_28 rfl ?_
  refine x_iload (pc2 := 33) hC rfl dX8_triple_31 rfl ?_
  refine x_iald (pc2 := 34) hC hK (by assumption) (by assumption) (by omega) (by decide) dX8_triple_33 rfl ?_
  refine x_ineg (pc2 := 35) hC dX8_triple_34 rfl ?_
  refine x_iast (pc2 := 36) hC hK (by assumption) (by assumption) (by omega) (by decide) dX8_triple_35 rfl ?_
  refine x_aload_n (pc2 := 37) hC rfl rfl dX8_triple_36 rfl ?_
  refine g_818 (pc2 := 40) hC hK (by assumption) (by assumption) (by assumption) dX8_triple_37 rfl ?_
  refine x_iload (pc2 := 42) hC rfl dX8_triple_40 rfl ?_
  refine x_aload_n (pc2 := 43) hC rfl rfl dX8_triple_42 rfl ?_
  refine g_818 (pc2 := 46) hC hK (by assumption) (by assumption) (by assumption) dX8_triple_43 rfl ?_
  refine x_iload (pc2 := 48) hC rfl dX8_triple_46 rfl ?_
  refine x_iald (pc2 := 49) hC hK (by assumption) (by assumption) (by omega) (by decide) dX8_triple_48 rfl ?_
  refine x_ineg (pc2 := 50) hC dX8_triple_49 rfl ?_
  refine x_iast (pc2 := 51) hC hK (by assumption) (by assumption) (by omega) (by decide) dX8_triple_50 rfl ?_
  refine x_aload_n (pc2 := 52) hC rfl rfl dX8_triple_51 rfl ?_
  refine g_818 (pc2 := 55) hC hK (by assumption) (by assumption) (by assumption) dX8_triple_52 rfl ?_
  refine x_iload (pc2 := 57) hC rfl dX8_triple_55 rfl ?_
  refine x_aload_n (pc2 := 58) hC rfl rfl dX8_triple_57 rfl ?_
  refine g_818 (pc2 := 61) hC hK (by assumption) (by assumption) (by assumption) dX8_triple_58 rfl ?_
  refine x_iload (pc2 := 63) hC rfl dX8_triple_61 rfl ?_
  refine x_iald (pc2 := 64) hC hK (by assumption) (by assumption) (by omega) (by decide) dX8_triple_63 rfl ?_
  refine x_ineg (pc2 := 65) hC dX8_triple_64 rfl ?_
  refine x_iast (pc2 := 66) hC hK (by assumption) (by assumption) (by omega) (by decide) dX8_triple_65 rfl ?_
  refine x_iload (pc2 := 68) hC rfl dX8_triple_66 rfl ?_
  refine x_iret hC hr hlk ⟨_, rfl, rfl, _, by rw [show T + 3 = T + 1 + 1 + 1 by omega]; exact hS6, ⟨?_, ?_, ?_⟩, fun u hu => ?_, ((g1.tr g2).tr g3).tr (((FrM.w (by decide)).tr (FrM.w (by decide))).tr (FrM.w (by decide)))⟩ dX8_triple_68
  · rw [upZ_ne (by omega), upZ_ne (by omega), upZ_eq, k3 T (by omega), k2 T (by omega), v1]; omega
  · rw [upZ_ne (by omega), upZ_eq, upZ_ne (by omega), k3 (T + 1) (by omega), v2, k1 y hy.2]; omega
  · rw [show T + 2 = T + 1 + 1 by omega, upZ_eq, upZ_ne (by omega), upZ_ne (by omega), v3, k2 w (by omega), k1 w hw.2]; omega
  · rw [upZ_ne (by omega), upZ_ne (by omega), upZ_ne (by omega), k3 u (by omega), k2 u (by omega), k1 u hu]
