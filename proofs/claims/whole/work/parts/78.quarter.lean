/-- a triple a quarter turned, r times -/
def trot (r : Nat) (x : T3) : T3 := if r = 0 then x else if r = 1 then (-x.2.1, x.1, x.2.2) else if r = 2 then tneg x else (x.2.1, -x.1, x.2.2)
theorem trot_0 (x : T3) : trot 0 x = x := rfl
theorem trot_1 (x : T3) : trot 1 x = (-x.2.1, x.1, x.2.2) := rfl
theorem trot_2 (x : T3) : trot 2 x = tneg x := rfl
theorem trot_3 (x : T3) : trot 3 x = (x.2.1, -x.1, x.2.2) := rfl
theorem bd_neg' {n : Nat} {x : Int} (h : bd n x) : bd n (-x) := by unfold bd at *; rw [Int.natAbs_neg]; exact h
theorem bdt_rot {a c : Nat} {x : T3} (r : Nat) (h : bdt a c x) : bdt a c (trot r x) := by
  obtain ⟨h1, h2, h3⟩ := h
  unfold trot
  split
  · exact ⟨h1, h2, h3⟩
  · split
    · exact ⟨bd_neg' h2, h1, h3⟩
    · split
      · exact bdt_neg ⟨h1, h2, h3⟩
      · exact ⟨h2, bd_neg' h1, h3⟩
theorem r_rot {x : T3} (r : Nat) (h : 0 < x.2.2) : 0 < (trot r x).2.2 := by
  unfold trot
  split
  · exact h
  · split
    · exact h
    · split <;> exact h
theorem rsum_as (x y z : QR) : rsum 1 (rsum 1 x y) z = rsum 1 x (rsum 1 y z) := by
  obtain ⟨⟨x1, x2⟩, x3, x4⟩ := x
  obtain ⟨⟨y1, y2⟩, y3, y4⟩ := y
  obtain ⟨⟨z1, z2⟩, z3, z4⟩ := z
  unfold rsum csgn cmul
  refine Prod.ext (Prod.ext ?_ ?_) (Prod.ext ?_ ?_) <;> dsimp only <;> grind
theorem rsum_zq (y : QR) : rsum 1 zq y = y := by
  obtain ⟨⟨y1, y2⟩, y3, y4⟩ := y
  refine Prod.ext (Prod.ext ?_ ?_) (Prod.ext ?_ ?_)
  · show (0 * y3 - 0 * y4) + 1 * (y1 * 1 - y2 * 0) = y1; grind
  · show (0 * y3 + 0 * y4) + 1 * (y2 * 1 + y1 * 0) = y2; grind
  · show 1 * y3 - 0 * y4 = y3; grind
  · show 0 * y3 + 1 * y4 = y4; grind
theorem q_rot (r : Nat) (hr : r < 4) (x : T3) : q3 (trot r x) = (rot (q3 x).1 r, (q3 x).2) := by
  rcases (show r = 0 ∨ r = 1 ∨ r = 2 ∨ r = 3 by omega) with rfl | rfl | rfl | rfl
  · rfl
  · rfl
  · rfl
  · exact Prod.ext (Prod.ext (show x.2.1 = - -x.2.1 by omega) rfl) rfl
theorem q_time {x : Int → QR} {n : Int} {w z q0 q1 q2 q3' : T3} (hz : z = (0, 0, 1)) (hw : w = tadd (tadd (tadd (tadd z q0) q1) q2) q3') (h0 : q3 q0 = timeQ x n 0) (h1 : q3 q1 = timeQ x n 1) (h2 : q3 q2 = timeQ x n 2) (h3 : q3 q3' = timeQ x n 3) : q3 (w.1, w.2.1, w.2.2 * 4) = timeX x n 0 := by
  have a : q3 w = rsum 1 (rsum 1 (timeQ x n 0) (timeQ x n 1)) (rsum 1 (timeQ x n 2) (timeQ x n 3)) := by
    rw [hw, q_add, q_add, q_add, q_add, hz, show q3 (0, 0, 1) = zq from rfl, rsum_zq, h0, h1, h2, h3, rsum_as]
  show _ = rmul _ quartq
  rw [← a]
  refine Prod.ext (Prod.ext ?_ ?_) (Prod.ext ?_ ?_)
  · show w.1 = w.1 * 1 - w.2.1 * 0; grind
  · show w.2.1 = w.2.1 * 1 + w.1 * 0; grind
  · show w.2.2 * 4 = w.2.2 * 4 - 0 * 0; grind
  · show 0 = 0 * 4 + w.2.2 * 0; grind
theorem dX8_quarter_0 : decode cX8_quarter 0 = .ok (.iload_n 2, 1) := by decide +kernel
theorem dX8_quarter_1 : decode cX8_quarter 1 = .ok (.iconst 4, 1) := by decide +kernel
theorem dX8_quarter_2 : decode cX8_quarter 2 = .ok (.irem, 1) := by decide +kernel
theorem dX8_quarter_3 : decode cX8_quarter 3 = .ok (.tableswitch 49 0 2 #[25, 27, 43], 25) := by decide +kernel
theorem dX8_quarter_28 : decode cX8_quarter 28 = .ok (.iload_n 1, 1) := by decide +kernel
theorem dX8_quarter_29 : decode cX8_quarter 29 = .ok (.ireturn, 1) := by decide +kernel
theorem dX8_quarter_30 : decode cX8_quarter 30 = .ok (.aload_n 0, 1) := by decide +kernel
theorem dX8_quarter_31 : decode cX8_quarter 31 = .ok (.aload_n 0, 1) := by decide +kernel
theorem dX8_quarter_32 : decode cX8_quarter 32 = .ok (.iload_n 1, 1) := by decide +kernel
theorem dX8_quarter_33 : decode cX8_quarter 33 = .ok (.iconst 1, 1) := by decide +kernel
theorem dX8_quarter_34 : decode cX8_quarter 34 = .ok (.iadd, 1) := by decide +kernel
theorem dX8_quarter_35 : decode cX8_quarter 35 = .ok (.invokevirtual 73, 3) := by decide +kernel
theorem dX8_quarter_38 : decode cX8_quarter 38 = .ok (.iload_n 1, 1) := by decide +kernel
theorem dX8_quarter_39 : decode cX8_quarter 39 = .ok (.iload_n 1, 1) := by decide +kernel
theorem dX8_quarter_40 : decode cX8_quarter 40 = .ok (.iconst 2, 1) := by decide +kernel
theorem dX8_quarter_41 : decode cX8_quarter 41 = .ok (.iadd, 1) := by decide +kernel
theorem dX8_quarter_42 : decode cX8_quarter 42 = .ok (.invokevirtual 103, 3) := by decide +kernel
theorem dX8_quarter_45 : decode cX8_quarter 45 = .ok (.ireturn, 1) := by decide +kernel
theorem dX8_quarter_46 : decode cX8_quarter 46 = .ok (.aload_n 0, 1) := by decide +kernel
theorem dX8_quarter_47 : decode cX8_quarter 47 = .ok (.iload_n 1, 1) := by decide +kernel
theorem dX8_quarter_48 : decode cX8_quarter 48 = .ok (.invokevirtual 106, 3) := by decide +kernel
theorem dX8_quarter_51 : decode cX8_quarter 51 = .ok (.ireturn, 1) := by decide +kernel
theorem dX8_quarter_52 : decode cX8_quarter 52 = .ok (.aload_n 0, 1) := by decide +kernel
theorem dX8_quarter_53 : decode cX8_quarter 53 = .ok (.iload_n 1, 1) := by decide +kernel
theorem dX8_quarter_54 : decode cX8_quarter 54 = .ok (.iconst 1, 1) := by decide +kernel
theorem dX8_quarter_55 : decode cX8_quarter 55 = .ok (.iadd, 1) := by decide +kernel
theorem dX8_quarter_56 : decode cX8_quarter 56 = .ok (.aload_n 0, 1) := by decide +kernel
theorem dX8_quarter_57 : decode cX8_quarter 57 = .ok (.iload_n 1, 1) := by decide +kernel
theorem dX8_quarter_58 : decode cX8_quarter 58 = .ok (.invokevirtual 73, 3) := by decide +kernel
theorem dX8_quarter_61 : decode cX8_quarter 61 = .ok (.iload_n 1, 1) := by decide +kernel
theorem dX8_quarter_62 : decode cX8_quarter 62 = .ok (.iconst 2, 1) := by decide +kernel
theorem dX8_quarter_63 : decode cX8_quarter 63 = .ok (.iadd, 1) := by decide +kernel
theorem dX8_quarter_64 : decode cX8_quarter 64 = .ok (.invokevirtual 103, 3) := by decide +kernel
theorem dX8_quarter_67 : decode cX8_quarter 67 = .ok (.ireturn, 1) := by decide +kernel
set_option maxHeartbeats 4000000 in
theorem t_quarter0 (l : Launch) {D : va_G} {ids : Nat → ClassId} {β : Nat} {sh : Nat → Nat × Nat} {N : Nat} {R : Nat → Nat → Option Nat} {F : Nat → Nat → Int} {A : Nat → Int → Int} {S : SP} (hM : MoL sh R N) (hR0 : RepM S F A) {V : Int → Int} {T x n : Int} {vx : T3} {na nc : Nat} (hS : St T V F A) (hx : 0 ≤ x ∧ x + 2 < T) (evx : tr V x = vx) (bvx : bdt na nc vx) (hn : n % 4 = 0) (hn0 : 0 ≤ n ∧ n < 100) (hT : T < 1480) : MetX l yX8_quarter cX8_quarter 3 (some (.int)) 4 90 D ids β sh N R F A [rf 0, pI x, pI n] (pIr (fun z F2 A2 => z = x ∧ ∃ V2, St (T) V2 F2 A2 ∧ tr V2 (x) = trot 0 vx ∧ (∀ u, u < T → V2 u = V u) ∧ FrM F A F2 A2)) := by
  refine MetX.of (loc := [_, _, _]) (plainFor_of_name (by decide +kernel)) (Nat.le_of_ble_eq_true rfl) rfl ?_
  intro p e s m args below meth c hC hK hr hlk
  obtain ⟨⟨m0, m1⟩, ⟨rx0, r2, r3, r7, r8, r9, r11, r12, r13, r16, r18⟩, ⟨m2, m3⟩, ⟨m4, m5⟩, ⟨m6, m7⟩, ⟨m8, m9⟩, ⟨m10, m11⟩, ⟨m12, m13⟩, ⟨m14, m15⟩, ⟨m16, m17⟩, ⟨m18, m19⟩, ⟨m20, m21⟩, ⟨m22, m23⟩⟩ := id hM
  have hT0 := hS.2.1
  have v1 : V x = vx.1 := congrArg (fun q => q.1) evx
  have v2 : V (x + 1) = vx.2.1 := congrArg (fun q => q.2.1) evx
  have v3 : V (x + 2) = vx.2.2 := congrArg (fun q => q.2.2) evx
  refine x_iload_n (pc2 := 1) hC rfl rfl dX8_quarter_0 rfl ?_
  refine x_iconst (pc2 := 2) hC dX8_quarter_1 rfl ?_
  refine x_iremp (pc2 := 3) hC (by omega) (by omega) (by omega) (by omega) dX8_quarter_2 rfl ?_
  rw [hn]
  refine x_tin (tgt := 28) hC (by decide) (by decide) (by decide) dX8_quarter_3 rfl rfl ?_
  refine x_iload_n (pc2 := 29) hC rfl rfl dX8_quarter_28 rfl ?_
  exact x_iret hC hr hlk ⟨_, rfl, rfl, V, hS, evx, fun u _ => rfl, FrM.rf⟩ dX8_quarter_29
set_option maxHeartbeats 4000000 in
theorem t_quarter1 (l : Launch) {D : va_G} {ids : Nat → ClassId} {β : Nat} {sh : Nat → Nat × Nat} {N : Nat} {R : Nat → Nat → Option Nat} {F : Nat → Nat → Int} {A : Nat → Int → Int} {S : SP} (hM : MoL sh R N) (hR0 : RepM S F A) {V : Int → Int} {T x n : Int} {vx : T3} {na nc : Nat} (hS : St T V F A) (hx : 0 ≤ x ∧ x + 2 < T) (evx : tr V x = vx) (bvx : bdt na nc vx) (hn : n % 4 = 1) (hn0 : 0 ≤ n ∧ n < 100) (hT : T < 1480) : MetX l yX8_quarter cX8_quarter 3 (some (.int)) 4 90 D ids β sh N R F A [rf 0, pI x, pI n] (pIr (fun z F2 A2 => z = T + 1 ∧ ∃ V2, St (T + 1 + 3) V2 F2 A2 ∧ tr V2 (T + 1) = trot 1 vx ∧ (∀ u, u < T → V2 u = V u) ∧ FrM F A F2 A2)) := by
  refine MetX.of (loc := [_, _, _]) (plainFor_of_name (by decide +kernel)) (Nat.le_of_ble_eq_true rfl) rfl ?_
  intro p e s m args below meth c hC hK hr hlk
  obtain ⟨⟨m0, m1⟩, ⟨rx0, r2, r3, r7, r8, r9, r11, r12, r13, r16, r18⟩, ⟨m2, m3⟩, ⟨m4, m5⟩, ⟨m6, m7⟩, ⟨m8, m9⟩, ⟨m10, m11⟩, ⟨m12, m13⟩, ⟨m14, m15⟩, ⟨m16, m17⟩, ⟨m18, m19⟩, ⟨m20, m21⟩, ⟨m22, m23⟩⟩ := id hM
  have hT0 := hS.2.1
  have v1 : V x = vx.1 := congrArg (fun q => q.1) evx
  have v2 : V (x + 1) = vx.2.1 := congrArg (fun q => q.2.1) evx
  have v3 : V (x + 2) = vx.2.2 := congrArg (fun q => q.2.2) evx
  refine x_iload_n (pc2 := 1) hC rfl rfl dX8_quarter_0 rfl ?_
  refine x_iconst (pc2 := 2) hC dX8_quarter_1 rfl ?_
  refine x_iremp (pc2 := 3) hC (by omega) (by omega) (by omega) (by omega) dX8_quarter_2 rfl ?_
  rw [hn]
  refine x_tin (tgt := 30) hC (by decide) (by decide) (by decide) dX8_quarter_3 rfl rfl ?_
  refine x_aload_n (pc2 := 31) hC rfl rfl dX8_quarter_30 rfl ?_
  refine x_aload_n (pc2 := 32) hC rfl rfl dX8_quarter_31 rfl ?_
  refine x_iload_n (pc2 := 33) hC rfl rfl dX8_quarter_32 rfl ?_
  refine x_iconst (pc2 := 34) hC dX8_quarter_33 rfl ?_
  refine x_iadd (pc2 := 35) hC dX8_quarter_34 rfl ?_
  refine x_cVi (pc2 := 38) (ci := 8) hC hK (n_minus l hM hS (by omega) (x := x + 1) ⟨by omega, by omega⟩) lk_915 rfl rfl (by decide) (by assumption) (by assumption) ⟨Nat.le_of_ble_eq_true rfl, Nat.le_of_ble_eq_true rfl⟩ ⟨Nat.le_refl _, Nat.le_refl _⟩ rfl (Nat.le_of_ble_eq_true rfl) dX8_quarter_35 rfl ?_
  rintro z35 F35 A35 ⟨ez, V1, hS1, w1, k1, g1⟩
  obtain rfl := ez.symm
  refine x_iload_n (pc2 := 39) hC rfl rfl dX8_quarter_38 rfl ?_
  refine x_iload_n (pc2 := 40) hC rfl rfl dX8_quarter_39 rfl ?_
  refine x_iconst (pc2 := 41) hC dX8_quarter_40 rfl ?_
  refine x_iadd (pc2 := 42) hC dX8_quarter_41 rfl ?_
  refine x_cVi (pc2 := 45) (ci := 8) hC hK (n_triple l hM hS1 (by omega) (x := T) (y := x) (w := x + 2) ⟨by omega, by omega⟩ ⟨by omega, by omega⟩ ⟨by omega, by omega⟩) lk_911 rfl rfl (by decide) (by assumption) (by assumption) ⟨Nat.le_of_ble_eq_true rfl, Nat.le_of_ble_eq_true rfl⟩ ⟨Nat.le_refl _, Nat.le_refl _⟩ rfl (Nat.le_of_ble_eq_true rfl) dX8_quarter_42 rfl ?_
  rintro z42 F42 A42 ⟨ez2, V2, hS2, ⟨wa, wb, wc⟩, k2, g2⟩
  obtain rfl := ez2.symm
  exact x_iret hC hr hlk ⟨_, rfl, rfl, V2, hS2, Prod.ext (wa.trans (w1.trans (congrArg (fun q => -q) v2))) (Prod.ext (wb.trans ((k1 _ (by omega)).trans v1)) (wc.trans ((k1 _ (by omega)).trans v3))), fun u hu => (k2 u (by omega)).trans (k1 u hu), g1.tr g2⟩ dX8_quarter_45
set_option maxHeartbeats 4000000 in
theorem t_quarter2 (l : Launch) {D : va_G} {ids : Nat → ClassId} {β : Nat} {sh : Nat → Nat × Nat} {N : Nat} {R : Nat → Nat → Option Nat} {F : Nat → Nat → Int} {A : Nat → Int → Int} {S : SP} (hM : MoL sh R N) (hR0 : RepM S F A) {V : Int → Int} {T x n : Int} {vx : T3} {na nc : Nat} (hS : St T V F A) (hx : 0 ≤ x ∧ x + 2 < T) (evx : tr V x = vx) (bvx : bdt na nc vx) (hn : n % 4 = 2) (hn0 : 0 ≤ n ∧ n < 100) (hT : T < 1480) : MetX l yX8_quarter cX8_quarter 3 (some (.int)) 4 90 D ids β sh N R F A [rf 0, pI x, pI n] (pIr (fun z F2 A2 => z = T + 2 ∧ ∃ V2, St (T + 2 + 3) V2 F2 A2 ∧ tr V2 (T + 2) = trot 2 vx ∧ (∀ u, u < T → V2 u = V u) ∧ FrM F A F2 A2)) := by
  refine MetX.of (loc := [_, _, _]) (plainFor_of_name (by decide +kernel)) (Nat.le_of_ble_eq_true rfl) rfl ?_
  intro p e s m args below meth c hC hK hr hlk
  obtain ⟨⟨m0, m1⟩, ⟨rx0, r2, r3, r7, r8, r9, r11, r12, r13, r16, r18⟩, ⟨m2, m3⟩, ⟨m4, m5⟩, ⟨m6, m7⟩, ⟨m8, m9⟩, ⟨m10, m11⟩, ⟨m12, m13⟩, ⟨m14, m15⟩, ⟨m16, m17⟩, ⟨m18, m19⟩, ⟨m20, m21⟩, ⟨m22, m23⟩⟩ := id hM
  have hT0 := hS.2.1
  have v1 : V x = vx.1 := congrArg (fun q => q.1) evx
  have v2 : V (x + 1) = vx.2.1 := congrArg (fun q => q.2.1) evx
  have v3 : V (x + 2) = vx.2.2 := congrArg (fun q => q.2.2) evx
  refine x_iload_n (pc2 := 1) hC rfl rfl dX8_quarter_0 rfl ?_
  refine x_iconst (pc2 := 2) hC dX8_quarter_1 rfl ?_
  refine x_iremp (pc2 := 3) hC (by omega) (by omega) (by omega) (by omega) dX8_quarter_2 rfl ?_
  rw [hn]
  refine x_tin (tgt := 46) hC (by decide) (by decide) (by decide) dX8_quarter_3 rfl rfl ?_
  refine x_aload_n (pc2 := 47) hC rfl rfl dX8_quarter_46 rfl ?_
  refine x_iload_n (pc2 := 48) hC rfl rfl dX8_quarter_47 rfl ?_
  refine x_cVi (pc2 := 51) (ci := 8) hC hK (t_neg l hM hS hx evx bvx (by omega)) lk_1016 rfl rfl (by decide) (by assumption) (by assumption) ⟨Nat.le_of_ble_eq_true rfl, Nat.le_of_ble_eq_true rfl⟩ ⟨Nat.le_refl _, Nat.le_refl _⟩ rfl (Nat.le_of_ble_eq_true rfl) dX8_quarter_48 rfl ?_
  rintro z48 F48 A48 ⟨ez, V1, hS1, w1, k1, g1⟩
  obtain rfl := ez.symm
  exact x_iret hC hr hlk ⟨_, rfl, rfl, V1, hS1, w1, k1, g1⟩ dX8_quarter_51
set_option maxHeartbeats 4000000 in
theorem t_quarter3 (l : Launch) {D : va_G} {ids : Nat → ClassId} {β : Nat} {sh : Nat → Nat × Nat} {N : Nat} {R : Nat → Nat → Option Nat} {F : Nat → Nat → Int} {A : Nat → Int → Int} {S : SP} (hM : MoL sh R N) (hR0 : RepM S F A) {V : Int → Int} {T x n : Int} {vx : T3} {na nc : Nat} (hS : St T V F A) (hx : 0 ≤ x ∧ x + 2 < T) (evx : tr V x = vx) (bvx : bdt na nc vx) (hn : n % 4 = 3) (hn0 : 0 ≤ n ∧ n < 100) (hT : T < 1480) : MetX l yX8_quarter cX8_quarter 3 (some (.int)) 4 90 D ids β sh N R F A [rf 0, pI x, pI n] (pIr (fun z F2 A2 => z = T + 1 ∧ ∃ V2, St (T + 1 + 3) V2 F2 A2 ∧ tr V2 (T + 1) = trot 3 vx ∧ (∀ u, u < T → V2 u = V u) ∧ FrM F A F2 A2)) := by
  refine MetX.of (loc := [_, _, _]) (plainFor_of_name (by decide +kernel)) (Nat.le_of_ble_eq_true rfl) rfl ?_
  intro p e s m args below meth c hC hK hr hlk
  obtain ⟨⟨m0, m1⟩, ⟨rx0, r2, r3, r7, r8, r9, r11, r12, r13, r16, r18⟩, ⟨m2, m3⟩, ⟨m4, m5⟩, ⟨m6, m7⟩, ⟨m8, m9⟩, ⟨m10, m11⟩, ⟨m12, m13⟩, ⟨m14, m15⟩, ⟨m16, m17⟩, ⟨m18, m19⟩, ⟨m20, m21⟩, ⟨m22, m23⟩⟩ := id hM
  have hT0 := hS.2.1
  have v1 : V x = vx.1 := congrArg (fun q => q.1) evx
  have v2 : V (x + 1) = vx.2.1 := congrArg (fun q => q.2.1) evx
  have v3 : V (x + 2) = vx.2.2 := congrArg (fun q => q.2.2) evx
  refine x_iload_n (pc2 := 1) hC rfl rfl dX8_quarter_0 rfl ?_
  refine x_iconst (pc2 := 2) hC dX8_quarter_1 rfl ?_
  refine x_iremp (pc2 := 3) hC (by omega) (by omega) (by omega) (by omega) dX8_quarter_2 rfl ?_
  rw [hn]
  refine x_tout (tgt := 52) hC (by decide) (by decide) dX8_quarter_3 rfl ?_
  refine x_aload_n (pc2 := 53) hC rfl rfl dX8_quarter_52 rfl ?_
  refine x_iload_n (pc2 := 54) hC rfl rfl dX8_quarter_53 rfl ?_
  refine x_iconst (pc2 := 55) hC dX8_quarter_54 rfl ?_
  refine x_iadd (pc2 := 56) hC dX8_quarter_55 rfl ?_
  refine x_aload_n (pc2 := 57) hC rfl rfl dX8_quarter_56 rfl ?_
  refine x_iload_n (pc2 := 58) hC rfl rfl dX8_quarter_57 rfl ?_
  refine x_cVi (pc2 := 61) (ci := 8) hC hK (n_minus l hM hS (by omega) (x := x) ⟨by omega, by omega⟩) lk_915 rfl rfl (by decide) (by assumption) (by assumption) ⟨Nat.le_of_ble_eq_true rfl, Nat.le_of_ble_eq_true rfl⟩ ⟨Nat.le_refl _, Nat.le_refl _⟩ rfl (Nat.le_of_ble_eq_true rfl) dX8_quarter_58 rfl ?_
  rintro z58 F58 A58 ⟨ez, V1, hS1, w1, k1, g1⟩
  obtain rfl := ez.symm
  refine x_iload_n (pc2 := 62) hC rfl rfl dX8_quarter_61 rfl ?_
  refine x_iconst (pc2 := 63) hC dX8_quarter_62 rfl ?_
  refine x_iadd (pc2 := 64) hC dX8_quarter_63 rfl ?_
  refine x_cVi (pc2 := 67) (ci := 8) hC hK (n_triple l hM hS1 (by omega) (x := x + 1) (y := T) (w := x + 2) ⟨by omega, by omega⟩ ⟨by omega, by omega⟩ ⟨by omega, by omega⟩) lk_911 rfl rfl (by decide) (by assumption) (by assumption) ⟨Nat.le_of_ble_eq_true rfl, Nat.le_of_ble_eq_true rfl⟩ ⟨Nat.le_refl _, Nat.le_refl _⟩ rfl (Nat.le_of_ble_eq_true rfl) dX8_quarter_64 rfl ?_
  rintro z64 F64 A64 ⟨ez2, V2, hS2, ⟨wa, wb, wc⟩, k2, g2⟩
  obtain rfl := ez2.symm
  exact x_iret hC hr hlk ⟨_, rfl, rfl, V2, hS2, Prod.ext (wa.trans ((k1 _ (by omega)).trans v2)) (Prod.ext (wb.trans (w1.trans (congrArg (fun q => -q) v1))) (wc.trans ((k1 _ (by omega)).trans v3))), fun u hu => (k2 u (by omega)).trans (k1 u hu), g1.tr g2⟩ dX8_quarter_67
