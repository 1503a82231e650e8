/-! THE MODEL HOLDS THE STATE -/
/-- the numbers before the act i (0 the latest) -/
def unV (v : Int → BX) : List (Int × BX) → Nat → Int → BX
  | [], _ => v
  | q :: _, 0 => upZ v q.1 q.2
  | q :: t, n + 1 => unV (upZ v q.1 q.2) t n
/-- held, or not yet a box then -/
def heldU (f : Int → Int) (i : Int) (x : T3) : Prop := held f i x ∨ (x = z3 ∧ ∀ w : Int, 0 ≤ w → w < 6 → f (i + w) = 0)
def HisM (A : Nat → Int → Int) (S : SP) : Prop := ∀ i : Nat, i < (hS S).length → (∀ b t e, isB S b → isT t → isT e → heldU (A 3) (1536 * (((hS S).length : Int) - 1 - i) + 96 * b + 24 * t + 6 * e) (unV (vS S) (hS S) i b t e)) ∧ ∀ k : Int, 96 * nbS S ≤ k → k < 1536 → A 3 (1536 * (((hS S).length : Int) - 1 - i) + k) = 0
def RepM (S : SP) (F : Nat → Nat → Int) (A : Nat → Int → Int) : Prop := invS S ∧ F 0 1 = nbS S ∧ (∀ b, isB S b → A 1 b = ptS S b) ∧ F 0 4 = ((hS S).length : Int) ∧ F 0 5 = wtS S ∧ F 0 6 = wdS S ∧ (∀ b t e, isB S b → isT t → isT e → held (A 2) (96 * b + 24 * t + 6 * e) (vS S b t e)) ∧ (∀ k : Int, 96 * nbS S ≤ k → k < 1536 → A 2 k = 0) ∧ HisM A S
theorem RepM.of {S : SP} {F F' : Nat → Nat → Int} {A A' : Nat → Int → Int} (h : RepM S F A) (f : ∀ j, j = 1 ∨ j = 4 ∨ j = 5 ∨ j = 6 → F' 0 j = F 0 j) (a : ∀ b, b = 1 ∨ b = 2 ∨ b = 3 → A' b = A b) : RepM S F' A' := by
  obtain ⟨hi, b1, b2, b3, b4, b5, b6, b7, b8⟩ := h
  refine ⟨hi, by rw [f 1 (by decide)]; exact b1, by rw [a 1 (by decide)]; exact b2, by rw [f 4 (by decide)]; exact b3, by rw [f 5 (by decide)]; exact b4, by rw [f 6 (by decide)]; exact b5, by rw [a 2 (by decide)]; exact b6, by rw [a 2 (by decide)]; exact b7, ?_⟩
  unfold HisM
  rw [a 3 (by decide)]
  exact b8
theorem RepM.K {S : SP} {F F' : Nat → Nat → Int} {A A' : Nat → Int → Int} (h : RepM S F A) (k : FrK F A F' A') : RepM S F' A' := h.of (fun j hj => k.2.1 j (by omega) (by omega) (by omega) (by omega)) (fun b hb => k.a (by omega))
theorem RepM.i64 {S : SP} {F : Nat → Nat → Int} {A : Nat → Int → Int} (h : RepM S F A) {k : Int} (k0 : 0 ≤ k) (k1 : k < 1536) : -1000000000000 ≤ A 2 k ∧ A 2 k ≤ 1000000000000 := by
  obtain ⟨hi, -, -, -, -, -, b6, b7, -⟩ := h
  by_cases q : k < 96 * nbS S
  · have := b6 (k / 96) (k % 96 / 24) (k % 24 / 6) ⟨by omega, by omega⟩ (by omega) (by omega) (k % 6) (by omega) (by omega)
    rw [show 96 * (k / 96) + 24 * (k % 96 / 24) + 6 * (k % 24 / 6) + k % 6 = k by omega] at this
    rw [this]
    exact prt_rng ((hi.2.1 (k / 96) ⟨by omega, by omega⟩).2 (k % 96 / 24) (k % 24 / 6) (by omega) (by omega)).1.2.2 _
  · rw [b7 k (by omega) k1]; exact ⟨by decide, by decide⟩
theorem held_of {f f' : Int → Int} {i j : Int} {x : T3} (h : held f i x) (e : ∀ w : Int, 0 ≤ w → w < 6 → f' (j + w) = f (i + w)) : held f' j x := fun w w0 w1 => (e w w0 w1).trans (h w w0 w1)
theorem heldU_of {f f' : Int → Int} {i j : Int} {x : T3} (h : heldU f i x) (e : ∀ w : Int, 0 ≤ w → w < 6 → f' (j + w) = f (i + w)) : heldU f' j x := by
  rcases h with h | ⟨h1, h2⟩
  · exact Or.inl (held_of h e)
  · exact Or.inr ⟨h1, fun w w0 w1 => (e w w0 w1).trans (h2 w w0 w1)⟩
theorem held_inj {f : Int → Int} {i j : Int} {x y : T3} (h : held f i x) (k : held f j y) : (∀ w : Int, 0 ≤ w → w < 6 → f (i + w) = f (j + w)) ↔ x = y := by
  constructor
  · intro e
    have g : ∀ w : Int, 0 ≤ w → w < 6 → prt x w = prt y w := fun w w0 w1 => by rw [← h w w0 w1, ← k w w0 w1]; exact e w w0 w1
    have c : ∀ n : Int, 0 ≤ n → n < 3 → c3 x n = c3 y n := fun n n0 n1 => by
      obtain ⟨p1, p2⟩ := prt_c3 x n0 n1
      obtain ⟨q1, q2⟩ := prt_c3 y n0 n1
      have e1 := g (2 * n) (by omega) (by omega)
      have e2 := g (2 * n + 1) (by omega) (by omega)
      rw [p1, q1] at e1
      rw [p2, q2] at e2
      have a := @prt_mul (c3 x n)
      have b := @prt_mul (c3 y n)
      omega
    exact Prod.ext (c 0 (by decide) (by decide)) (Prod.ext (c 1 (by decide) (by decide)) (c 2 (by decide) (by decide)))
  · rintro rfl w w0 w1
    rw [h w w0 w1, k w w0 w1]
theorem cpA_succ {A : Nat → Int → Int} {s d : Nat} {so dq : Int} {k : Int} (hk : 0 ≤ k) (h : s ≠ d ∨ dq + k ≤ so + k) : uA (cpA A s so d dq k) d (dq + k) (cpA A s so d dq k s (so + k)) = cpA A s so d dq (k + 1) := by
  have r : cpA A s so d dq k s (so + k) = A s (so + k) := by
    rcases h with h | h
    · rw [cpA_ne h]
    · by_cases q : s = d
      · subst q; rw [cpA_out (by omega)]
      · rw [cpA_ne q]
  rw [r]
  funext a j
  by_cases q : a = d
  · subst q
    rw [uA_at]
    by_cases y : j = dq + k
    · rw [if_pos y, cpA_in (by omega)]; congr 1; omega
    · rw [if_neg y]
      by_cases z : dq ≤ j ∧ j < dq + k
      · rw [cpA_in z, cpA_in (by omega)]
      · rw [cpA_out (by omega), cpA_out (by omega)]
  · rw [uA_ne q, cpA_ne q, cpA_ne q]
theorem cpA_0 {A : Nat → Int → Int} {s d : Nat} {so dq : Int} : cpA A s so d dq 0 = A := by
  funext a j
  by_cases q : a = d
  · subst q; rw [cpA_out (by omega)]
  · rw [cpA_ne q]
theorem dX8_in_0 : decode cX8_in 0 = .ok (.lload_n 0, 1) := by decide +kernel
theorem dX8_in_1 : decode cX8_in 1 = .ok (.lload_n 2, 1) := by decide +kernel
theorem dX8_in_2 : decode cX8_in 2 = .ok (.lcmp, 1) := by decide +kernel
theorem dX8_in_3 : decode cX8_in 3 = .ok (.ifCond .lt 14, 3) := by decide +kernel
theorem dX8_in_6 : decode cX8_in 6 = .ok (.lload_n 0, 1) := by decide +kernel
theorem dX8_in_7 : decode cX8_in 7 = .ok (.lload 4, 2) := by decide +kernel
theorem dX8_in_9 : decode cX8_in 9 = .ok (.lcmp, 1) := by decide +kernel
theorem dX8_in_10 : decode cX8_in 10 = .ok (.ifCond .gt 7, 3) := by decide +kernel
theorem dX8_in_13 : decode cX8_in 13 = .ok (.iconst 1, 1) := by decide +kernel
theorem dX8_in_14 : decode cX8_in 14 = .ok (.goto 4, 3) := by decide +kernel
theorem dX8_in_17 : decode cX8_in 17 = .ok (.iconst 0, 1) := by decide +kernel
theorem dX8_in_18 : decode cX8_in 18 = .ok (.ireturn, 1) := by decide +kernel
set_option maxHeartbeats 4000000 in
theorem n_in (l : Launch) {D : va_G} {ids : Nat → ClassId} {β : Nat} {sh : Nat → Nat × Nat} {N : Nat} {R : Nat → Nat → Option Nat} {F : Nat → Nat → Int} {A : Nat → Int → Int} {v a b : Int} (hv : I64 v) (ha : I64 a) (hb : I64 b) : MetX l yX8_in cX8_in 6 (some (.boolean)) 0 0 D ids β sh N R F A [pL v, pL a, pL b] (pIr (boolP F A (a ≤ v ∧ v ≤ b))) := by
  refine MetX.of (loc := [_, _, _, _, _, _]) (plainFor_of_name (by decide +kernel)) (Nat.le_of_ble_eq_true rfl) rfl ?_
  intro p e s m args below meth c hC hK hr hlk
  refine x_lload_n (pc2 := 1) hC rfl rfl dX8_in_0 rfl ?_
  refine x_lload_n (pc2 := 2) hC rfl rfl dX8_in_1 rfl ?_
  refine x_lcmp_lt (tgt := 17) (pc2 := 6) hC hv ha dX8_in_2 dX8_in_3 rfl rfl (fun h_2 => ?_) (fun h_2 => ?_)
  · refine x_iconst (pc2 := 18) hC dX8_in_17 rfl ?_
    exact x_zret hC (by omega) hr hlk ⟨_, rfl, by omega, fun _ => by omega, rfl, rfl⟩ dX8_in_18
  · refine x_lload_n (pc2 := 7) hC rfl rfl dX8_in_6 rfl ?_
    refine x_lload (pc2 := 9) hC rfl dX8_in_7 rfl ?_
    refine x_lcmp_gt (tgt := 17) (pc2 := 13) hC hv hb dX8_in_9 dX8_in_10 rfl rfl (fun h_9 => ?_) (fun h_9 => ?_)
    · refine x_iconst (pc2 := 18) hC dX8_in_17 rfl ?_
      exact x_zret hC (by omega) hr hlk ⟨_, rfl, by omega, fun _ => by omega, rfl, rfl⟩ dX8_in_18
    · refine x_iconst (pc2 := 14) hC dX8_in_13 rfl ?_
      refine x_goto (pc2 := 18) hC dX8_in_14 rfl ?_
      exact x_zret hC (by omega) hr hlk ⟨_, rfl, by omega, fun _ => by omega, rfl, rfl⟩ dX8_in_18
theorem dX8_isBox_0 : decode cX8_isBox 0 = .ok (.iload_n 1, 1) := by decide +kernel
theorem dX8_isBox_1 : decode cX8_isBox 1 = .ok (.i2l, 1) := by decide +kernel
theorem dX8_isBox_2 : decode cX8_isBox 2 = .ok (.lconst 0, 1) := by decide +kernel
theorem dX8_isBox_3 : decode cX8_isBox 3 = .ok (.aload_n 0, 1) := by decide +kernel
theorem dX8_isBox_4 : decode cX8_isBox 4 = .ok (.getfield 154, 3) := by decide +kernel
theorem dX8_isBox_7 : decode cX8_isBox 7 = .ok (.iconst 1, 1) := by decide +kernel
theorem dX8_isBox_8 : decode cX8_isBox 8 = .ok (.isub, 1) := by decide +kernel
theorem dX8_isBox_9 : decode cX8_isBox 9 = .ok (.i2l, 1) := by decide +kernel
theorem dX8_isBox_10 : decode cX8_isBox 10 = .ok (.invokestatic 157, 3) := by decide +kernel
theorem dX8_isBox_13 : decode cX8_isBox 13 = .ok (.ireturn, 1) := by decide +kernel
set_option maxHeartbeats 4000000 in
theorem q_isBox (l : Launch) {D : va_G} {ids : Nat → ClassId} {β : Nat} {sh : Nat → Nat × Nat} {N : Nat} {R : Nat → Nat → Option Nat} {F : Nat → Nat → Int} {A : Nat → Int → Int} {S : SP} (hM : MoL sh R N) (hR0 : RepM S F A) {b : Int} (hb : I32 b) : MetX l yX8_isBox cX8_isBox 2 (some (.boolean)) 1 25 D ids β sh N R F A [rf 0, pI b] (pIr (boolP F A (isB S b))) := by
  refine MetX.of (loc := [_, _]) (plainFor_of_name (by decide +kernel)) (Nat.le_of_ble_eq_true rfl) rfl ?_
  intro p e s m args below meth c hC hK hr hlk
  obtain ⟨⟨m0, m1⟩, ⟨r0, r2, r3, r7, r8, r9, r11, r12, r13, r16, r18⟩, ⟨m2, m3⟩, ⟨m4, m5⟩, ⟨m6, m7⟩, ⟨m8, m9⟩, ⟨m10, m11⟩, ⟨m12, m13⟩, ⟨m14, m15⟩, ⟨m16, m17⟩, ⟨m18, m19⟩, ⟨m20, m21⟩, ⟨m22, m23⟩⟩ := id hM
  obtain ⟨hi, b1, b2, b3, b4, b5, b6, b7, b8⟩ := id hR0
  have i1 := hi.1
  refine x_iload_n (pc2 := 1) hC rfl rfl dX8_isBox_0 rfl ?_
  refine x_i2l (pc2 := 2) hC hb dX8_isBox_1 rfl ?_
  refine x_lconst0 (pc2 := 3) hC dX8_isBox_2 rfl ?_
  refine x_aload_n (pc2 := 4) hC rfl rfl dX8_isBox_3 rfl ?_
  refine g_810 (pc2 := 7) hC hK (by assumption) (by assumption) dX8_isBox_4 rfl ?_
  refine x_iconst (pc2 := 8) hC dX8_isBox_7 rfl ?_
  refine x_isub (pc2 := 9) hC dX8_isBox_8 rfl ?_
  refine x_i2l (pc2 := 10) hC ⟨by omega, by omega⟩ dX8_isBox_9 rfl ?_
  refine x_cSi (pc2 := 13) hC hK (n_in l ⟨by omega, by omega⟩ ⟨by omega, by omega⟩ ⟨by omega, by omega⟩) lk_873 rfl ⟨Nat.le_of_ble_eq_true rfl, Nat.le_of_ble_eq_true rfl⟩ ⟨Nat.le_refl _, Nat.le_refl _⟩ rfl (Nat.le_of_ble_eq_true rfl) dX8_isBox_10 rfl ?_
  rintro z10 F10 A10 ⟨w10, b10, e110, e210⟩
  obtain rfl := e110.symm
  obtain rfl := e210.symm
  exact x_zret hC (by omega) hr hlk ⟨_, rfl, w10, fun _ => (b10 ()).trans ⟨fun q => ⟨q.1, by omega⟩, fun q => ⟨q.1, by omega⟩⟩, rfl, rfl⟩ dX8_isBox_13
theorem dX8_has_0 : decode cX8_has 0 = .ok (.aload_n 0, 1) := by decide +kernel
theorem dX8_has_1 : decode cX8_has 1 = .ok (.iload_n 1, 1) := by decide +kernel
theorem dX8_has_2 : decode cX8_has 2 = .ok (.invokevirtual 161, 3) := by decide +kernel
theorem dX8_has_5 : decode cX8_has 5 = .ok (.ifCond .eq 17, 3) := by decide +kernel
theorem dX8_has_8 : decode cX8_has 8 = .ok (.aload_n 0, 1) := by decide +kernel
theorem dX8_has_9 : decode cX8_has 9 = .ok (.getfield 7, 3) := by decide +kernel
theorem dX8_has_12 : decode cX8_has 12 = .ok (.iload_n 1, 1) := by decide +kernel
theorem dX8_has_13 : decode cX8_has 13 = .ok (.iaload, 1) := by decide +kernel
theorem dX8_has_14 : decode cX8_has 14 = .ok (.iload_n 2, 1) := by decide +kernel
theorem dX8_has_15 : decode cX8_has 15 = .ok (.if_icmp .ne 7, 3) := by decide +kernel
theorem dX8_has_18 : decode cX8_has 18 = .ok (.iconst 1, 1) := by decide +kernel
theorem dX8_has_19 : decode cX8_has 19 = .ok (.goto 4, 3) := by decide +kernel
theorem dX8_has_22 : decode cX8_has 22 = .ok (.iconst 0, 1) := by decide +kernel
theorem dX8_has_23 : decode cX8_has 23 = .ok (.ireturn, 1) := by decide +kernel
set_option maxHeartbeats 4000000 in
theorem q_has (l : Launch) {D : va_G} {ids : Nat → ClassId} {β : Nat} {sh : Nat → Nat × Nat} {N : Nat} {R : Nat → Nat → Option Nat} {F : Nat → Nat → Int} {A : Nat → Int → Int} {S : SP} (hM : MoL sh R N) (hR0 : RepM S F A) {b n : Int} (hb : I32 b) (hn : I32 n) : MetX l yX8_has cX8_has 3 (some (.boolean)) 2 46 D ids β sh N R F A [rf 0, pI b, pI n] (pIr (boolP F A (hasB S b n))) := by
  refine MetX.of (loc := [_, _, _]) (plainFor_of_name (by decide +kernel)) (Nat.le_of_ble_eq_true rfl) rfl ?_
  intro p e s m args below meth c hC hK hr hlk
  obtain ⟨⟨m0, m1⟩, ⟨r0, r2, r3, r7, r8, r9, r11, r12, r13, r16, r18⟩, ⟨m2, m3⟩, ⟨m4, m5⟩, ⟨m6, m7⟩, ⟨m8, m9⟩, ⟨m10, m11⟩, ⟨m12, m13⟩, ⟨m14, m15⟩, ⟨m16, m17⟩, ⟨m18, m19⟩, ⟨m20, m21⟩, ⟨m22, m23⟩⟩ := id hM
  obtain ⟨hi, b1, b2, b3, b4, b5, b6, b7, b8⟩ := id hR0
  have i1 := hi.1
  refine x_aload_n (pc2 := 1) hC rfl rfl dX8_has_0 rfl ?_
  refine x_iload_n (pc2 := 2) hC rfl rfl dX8_has_1 rfl ?_
  refine x_cVi (pc2 := 5) (ci := 8) hC hK (q_isBox l hM hR0 hb) lk_884 rfl rfl (by decide) (by assumption) (by assumption) ⟨Nat.le_of_ble_eq_true rfl, Nat.le_of_ble_eq_true rfl⟩ ⟨Nat.le_refl _, Nat.le_refl _⟩ rfl (Nat.le_of_ble_eq_true rfl) dX8_has_2 rfl ?_
  rintro z2 F2 A2 ⟨w2, b2_, e12, e22⟩
  obtain rfl := e12.symm
  obtain rfl := e22.symm
  refine x_if_eq (tgt := 22) (pc2 := 8) hC (by omega) dX8_has_5 rfl rfl (fun h_5 => ?_) (fun h_5 => ?_)
  · refine x_iconst (pc2 := 23) hC dX8_has_22 rfl ?_
    exact x_zret hC (by omega) hr hlk ⟨_, rfl, by omega, fun _ => by first | exact ⟨fun _ => ⟨hB, by omega⟩, fun _ => by decide⟩ | exact ⟨fun q => absurd rfl q, fun q => by have := q.2; omega⟩ | exact ⟨fun q => absurd rfl q, fun q => absurd h_5 ((b2_ ()).mpr q.1)⟩, rfl, rfl⟩ dX8_has_23
  · have hB := (b2_ ()).mp h_5
    have pt := b2 b hB
    have pt2 := (hi.2.1 b hB).1
    refine x_aload_n (pc2 := 9) hC rfl rfl dX8_has_8 rfl ?_
    refine g_809 (pc2 := 12) hC hK (by assumption) (by assumption) (by assumption) dX8_has_9 rfl ?_
    refine x_iload_n (pc2 := 13) hC rfl rfl dX8_has_12 rfl ?_
    refine x_iald (pc2 := 14) hC hK (by assumption) (by assumption) (by omega) (by decide) dX8_has_13 rfl ?_
    refine x_iload_n (pc2 := 15) hC rfl rfl dX8_has_14 rfl ?_
    refine x_icmp_ne (tgt := 22) (pc2 := 18) hC (by omega) hn dX8_has_15 rfl rfl (fun h_15 => ?_) (fun h_15 => ?_)
    · refine x_iconst (pc2 := 23) hC dX8_has_22 rfl ?_
      exact x_zret hC (by omega) hr hlk ⟨_, rfl, by omega, fun _ => by first | exact ⟨fun _ => ⟨hB, by omega⟩, fun _ => by decide⟩ | exact ⟨fun q => absurd rfl q, fun q => by have := q.2; omega⟩ | exact ⟨fun q => absurd rfl q, fun q => absurd h_5 ((b2_ ()).mpr q.1)⟩, rfl, rfl⟩ dX8_has_23
    · refine x_iconst (pc2 := 19) hC dX8_has_18 rfl ?_
      refine x_goto (pc2 := 23) hC dX8_has_19 rfl ?_
      exact x_zret hC (by omega) hr hlk ⟨_, rfl, by omega, fun _ => by first | exact ⟨fun _ => ⟨hB, by omega⟩, fun _ => by decide⟩ | exact ⟨fun q => absurd rfl q, fun q => by have := q.2; omega⟩ | exact ⟨fun q => absurd rfl q, fun q => absurd h_5 ((b2_ ()).mpr q.1)⟩, rfl, rfl⟩ dX8_has_23
theorem dX8_isPlace_0 : decode cX8_isPlace 0 = .ok (.aload_n 0, 1) := by decide +kernel
theorem dX8_isPlace_1 : decode cX8_isPlace 1 = .ok (.iload_n 1, 1) := by decide +kernel
theorem dX8_isPlace_2 : decode cX8_isPlace 2 = .ok (.invokevirtual 161, 3) := by decide +kernel
theorem dX8_isPlace_5 : decode cX8_isPlace 5 = .ok (.ifCond .eq 43, 3) := by decide +kernel
theorem dX8_isPlace_8 : decode cX8_isPlace 8 = .ok (.iload_n 2, 1) := by decide +kernel
theorem dX8_isPlace_9 : decode cX8_isPlace 9 = .ok (.i2l, 1) := by decide +kernel
theorem dX8_isPlace_10 : decode cX8_isPlace 10 = .ok (.lconst 0, 1) := by decide +kernel
theorem dX8_isPlace_11 : decode cX8_isPlace 11 = .ok (.aload_n 0, 1) := by decide +kernel
theorem dX8_isPlace_12 : decode cX8_isPlace 12 = .ok (.getfield 7, 3) := by decide +kernel
theorem dX8_isPlace_15 : decode cX8_isPlace 15 = .ok (.iload_n 1, 1) := by decide +kernel
theorem dX8_isPlace_16 : decode cX8_isPlace 16 = .ok (.iaload, 1) := by decide +kernel
theorem dX8_isPlace_17 : decode cX8_isPlace 17 = .ok (.iconst 1, 1) := by decide +kernel
theorem dX8_isPlace_18 : decode cX8_isPlace 18 = .ok (.isub, 1) := by decide +kernel
theorem dX8_isPlace_19 : decode cX8_isPlace 19 = .ok (.i2l, 1) := by decide +kernel
theorem dX8_isPlace_20 : decode cX8_isPlace 20 = .ok (.invokestatic 157, 3) := by decide +kernel
theorem dX8_isPlace_23 : decode cX8_isPlace 23 = .ok (.ifCond .eq 25, 3) := by decide +kernel
theorem dX8_isPlace_26 : decode cX8_isPlace 26 = .ok (.iload_n 3, 1) := by decide +kernel
theorem dX8_isPlace_27 : decode cX8_isPlace 27 = .ok (.i2l, 1) := by decide +kernel
theorem dX8_isPlace_28 : decode cX8_isPlace 28 = .ok (.lconst 0, 1) := by decide +kernel
theorem dX8_isPlace_29 : decode cX8_isPlace 29 = .ok (.aload_n 0, 1) := by decide +kernel
theorem dX8_isPlace_30 : decode cX8_isPlace 30 = .ok (.getfield 7, 3) := by decide +kernel
theorem dX8_isPlace_33 : decode cX8_isPlace 33 = .ok (.iload_n 1, 1) := by decide +kernel
theorem dX8_isPlace_34 : decode cX8_isPlace 34 = .ok (.iaload, 1) := by decide +kernel
theorem dX8_isPlace_35 : decode cX8_isPlace 35 = .ok (.iconst 1, 1) := by decide +kernel
theorem dX8_isPlace_36 : decode cX8_isPlace 36 = .ok (.isub, 1) := by decide +kernel
theorem dX8_isPlace_37 : decode cX8_isPlace 37 = .ok (.i2l, 1) := by decide +kernel
theorem dX8_isPlace_38 : decode cX8_isPlace 38 = .ok (.invokestatic 157, 3) := by decide +kernel
theorem dX8_isPlace_41 : decode cX8_isPlace 41 = .ok (.ifCond .eq 7, 3) := by decide +kernel
theorem dX8_isPlace_44 : decode cX8_isPlace 44 = .ok (.iconst 1, 1) := by decide +kernel
theorem dX8_isPlace_45 : decode cX8_isPlace 45 = .ok (.goto 4, 3) := by decide +kernel
theorem dX8_isPlace_48 : decode cX8_isPlace 48 = .ok (.iconst 0, 1) := by decide +kernel
theorem dX8_isPlace_49 : decode cX8_isPlace 49 = .ok (.ireturn, 1) := by decide +kernel
set_option maxHeartbeats 4000000 in
theorem q_isPlace (l : Launch) {D : va_G} {ids : Nat → ClassId} {β : Nat} {sh : Nat → Nat × Nat} {N : Nat} {R : Nat → Nat → Option Nat} {F : Nat → Nat → Int} {A : Nat → Int → Int} {S : SP} (hM : MoL sh R N) (hR0 : RepM S F A) {b i j : Int} (hb : I32 b) (hi2 : I32 i) (hj : I32 j) : MetX l yX8_isPlace cX8_isPlace 4 (some (.boolean)) 2 46 D ids β sh N R F A [rf 0, pI b, pI i, pI j] (pIr (boolP F A (isE S b i j))) := by
  refine MetX.of (loc := [_, _, _, _]) (plainFor_of_name (by decide +kernel)) (Nat.le_of_ble_eq_true rfl) rfl ?_
  intro p e s m args below meth c hC hK hr hlk
  obtain ⟨⟨m0, m1⟩, ⟨r0, r2, r3, r7, r8, r9, r11, r12, r13, r16, r18⟩, ⟨m2, m3⟩, ⟨m4, m5⟩, ⟨m6, m7⟩, ⟨m8, m9⟩, ⟨m10, m11⟩, ⟨m12, m13⟩, ⟨m14, m15⟩, ⟨m16, m17⟩, ⟨m18, m19⟩, ⟨m20, m21⟩, ⟨m22, m23⟩⟩ := id hM
  obtain ⟨hi, b1, b2, b3, b4, b5, b6, b7, b8⟩ := id hR0
  have i1 := hi.1
  refine x_aload_n (pc2 := 1) hC rfl rfl dX8_isPlace_0 rfl ?_
  refine x_iload_n (pc2 := 2) hC rfl rfl dX8_isPlace_1 rfl ?_
  refine x_cVi (pc2 := 5) (ci := 8) hC hK (q_isBox l hM hR0 hb) lk_884 rfl rfl (by decide) (by assumption) (by assumption) ⟨Nat.le_of_ble_eq_true rfl, Nat.le_of_ble_eq_true rfl⟩ ⟨Nat.le_refl _, Nat.le_refl _⟩ rfl (Nat.le_of_ble_eq_true rfl) dX8_isPlace_2 rfl ?_
  rintro z2 F2 A2 ⟨w2, b2_, e12, e22⟩
  obtain rfl := e12.symm
  obtain rfl := e22.symm
  refine x_if_eq (tgt := 48) (pc2 := 8) hC (by omega) dX8_isPlace_5 rfl rfl (fun h_5 => ?_) (fun h_5 => ?_)
  · refine x_iconst (pc2 := 49) hC dX8_isPlace_48 rfl ?_
    exact x_zret hC (by omega) hr hlk ⟨_, rfl, by omega, fun _ => by first | exact ⟨fun _ => ⟨hB, by have := (b20 ()).mp h_23; omega, by have := (b38 ()).mp h_41; omega⟩, fun _ => by decide⟩ | exact ⟨fun q => absurd rfl q, fun q => absurd h_41 ((b38 ()).mpr (by have := q.2.2; omega))⟩ | exact ⟨fun q => absurd rfl q, fun q => absurd h_23 ((b20 ()).mpr (by have := q.2.1; omega))⟩ | exact ⟨fun q => absurd rfl q, fun q => absurd h_5 ((b2_ ()).mpr q.1)⟩, rfl, rfl⟩ dX8_isPlace_49
  · have hB := (b2_ ()).mp h_5
    have pt := b2 b hB
    have pt2 := (hi.2.1 b hB).1
    refine x_iload_n (pc2 := 9) hC rfl rfl dX8_isPlace_8 rfl ?_
    refine x_i2l (pc2 := 10) hC hi2 dX8_isPlace_9 rfl ?_
    refine x_lconst0 (pc2 := 11) hC dX8_isPlace_10 rfl ?_
    refine x_aload_n (pc2 := 12) hC rfl rfl dX8_isPlace_11 rfl ?_
    refine g_809 (pc2 := 15) hC hK (by assumption) (by assumption) (by assumption) dX8_isPlace_12 rfl ?_
    refine x_iload_n (pc2 := 16) hC rfl rfl dX8_isPlace_15 rfl ?_
    refine x_iald (pc2 := 17) hC hK (by assumption) (by assumption) (by omega) (by decide) dX8_isPlace_16 rfl ?_
    refine x_iconst (pc2 := 18) hC dX8_isPlace_17 rfl ?_
    refine x_isub (pc2 := 19) hC dX8_isPlace_18 rfl ?_
    refine x_i2l (pc2 := 20) hC ⟨by omega, by omega⟩ dX8_isPlace_19 rfl ?_
    refine x_cSi (pc2 := 23) hC hK (n_in l ⟨by omega, by omega⟩ ⟨by omega, by omega⟩ ⟨by omega, by omega⟩) lk_873 rfl ⟨Nat.le_of_ble_eq_true rfl, Nat.le_of_ble_eq_true rfl⟩ ⟨Nat.le_refl _, Nat.le_refl _⟩ rfl (Nat.le_of_ble_eq_true rfl) dX8_isPlace_20 rfl ?_
    rintro z20 F20 A20 ⟨w20, b20, e120, e220⟩
    obtain rfl := e120.symm
    obtain rfl := e220.symm
    refine x_if_eq (tgt := 48) (pc2 := 26) hC (by omega) dX8_isPlace_23 rfl rfl (fun h_23 => ?_) (fun h_23 => ?_)
    · refine x_iconst (pc2 := 49) hC dX8_isPlace_48 rfl ?_
      exact x_zret hC (by omega) hr hlk ⟨_, rfl, by omega, fun _ => by first | exact ⟨fun _ => ⟨hB, by have := (b20 ()).mp h_23; omega, by have := (b38 ()).mp h_41; omega⟩, fun _ => by decide⟩ | exact ⟨fun q => absurd rfl q, fun q => absurd h_41 ((b38 ()).mpr (by have := q.2.2; omega))⟩ | exact ⟨fun q => absurd rfl q, fun q => absurd h_23 ((b20 ()).mpr (by have := q.2.1; omega))⟩ | exact ⟨fun q => absurd rfl q, fun q => absurd h_5 ((b2_ ()).mpr q.1)⟩, rfl, rfl⟩ dX8_isPlace_49
    · refine x_iload_n (pc2 := 27) hC rfl rfl dX8_isPlace_26 rfl ?_
      refine x_i2l (pc2 := 28) hC hj dX8_isPlace_27 rfl ?_
      refine x_lconst0 (pc2 := 29) hC dX8_isPlace_28 rfl ?_
      refine x_aload_n (pc2 := 30) hC rfl rfl dX8_isPlace_29 rfl ?_
      refine g_809 (pc2 := 33) hC hK (by assumption) (by assumption) (by assumption) dX8_isPlace_30 rfl ?_
      refine x_iload_n (pc2 := 34) hC rfl rfl dX8_isPlace_33 rfl ?_
      refine x_iald (pc2 := 35) hC hK (by assumption) (by assumption) (by omega) (by decide) dX8_isPlace_34 rfl ?_
      refine x_iconst (pc2 := 36) hC dX8_isPlace_35 rfl ?_
      refine x_isub (pc2 := 37) hC dX8_isPlace_36 rfl ?_
      refine x_i2l (pc2 := 38) hC ⟨by omega, by omega⟩ dX8_isPlace_37 rfl ?_
      refine x_cSi (pc2 := 41) hC hK (n_in l ⟨by omega, by omega⟩ ⟨by omega, by omega⟩ ⟨by omega, by omega⟩) lk_873 rfl ⟨Nat.le_of_ble_eq_true rfl, Nat.le_of_ble_eq_true rfl⟩ ⟨Nat.le_refl _, Nat.le_refl _⟩ rfl (Nat.le_of_ble_eq_true rfl) dX8_isPlace_38 rfl ?_
      rintro z38 F38 A38 ⟨w38, b38, e138, e238⟩
      obtain rfl := e138.symm
      obtain rfl := e238.symm
      refine x_if_eq (tgt := 48) (pc2 := 44) hC (by omega) dX8_isPlace_41 rfl rfl (fun h_41 => ?_) (fun h_41 => ?_)
      · refine x_iconst (pc2 := 49) hC dX8_isPlace_48 rfl ?_
        exact x_zret hC (by omega) hr hlk ⟨_, rfl, by omega, fun _ => by first | exact ⟨fun _ => ⟨hB, by have := (b20 ()).mp h_23; omega, by have := (b38 ()).mp h_41; omega⟩, fun _ => by decide⟩ | exact ⟨fun q => absurd rfl q, fun q => absurd h_41 ((b38 ()).mpr (by have := q.2.2; omega))⟩ | exact ⟨fun q => absurd rfl q, fun q => absurd h_23 ((b20 ()).mpr (by have := q.2.1; omega))⟩ | exact ⟨fun q => absurd rfl q, fun q => absurd h_5 ((b2_ ()).mpr q.1)⟩, rfl, rfl⟩ dX8_isPlace_49
      · refine x_iconst (pc2 := 45) hC dX8_isPlace_44 rfl ?_
        refine x_goto (pc2 := 49) hC dX8_isPlace_45 rfl ?_
        exact x_zret hC (by omega) hr hlk ⟨_, rfl, by omega, fun _ => by first | exact ⟨fun _ => ⟨hB, by have := (b20 ()).mp h_23; omega, by have := (b38 ()).mp h_41; omega⟩, fun _ => by decide⟩ | exact ⟨fun q => absurd rfl q, fun q => absurd h_41 ((b38 ()).mpr (by have := q.2.2; omega))⟩ | exact ⟨fun q => absurd rfl q, fun q => absurd h_23 ((b20 ()).mpr (by have := q.2.1; omega))⟩ | exact ⟨fun q => absurd rfl q, fun q => absurd h_5 ((b2_ ()).mpr q.1)⟩, rfl, rfl⟩ dX8_isPlace_49
theorem dX8_areParts_0 : decode cX8_areParts 0 = .ok (.iload_n 0, 1) := by decide +kernel
theorem dX8_areParts_1 : decode cX8_areParts 1 = .ok (.i2l, 1) := by decide +kernel
theorem dX8_areParts_2 : decode cX8_areParts 2 = .ok (.ldc2_w 166, 3) := by decide +kernel
theorem dX8_areParts_5 : decode cX8_areParts 5 = .ok (.ldc2_w 168, 3) := by decide +kernel
theorem dX8_areParts_8 : decode cX8_areParts 8 = .ok (.invokestatic 157, 3) := by decide +kernel
theorem dX8_areParts_11 : decode cX8_areParts 11 = .ok (.ifCond .eq 33, 3) := by decide +kernel
theorem dX8_areParts_14 : decode cX8_areParts 14 = .ok (.iload_n 1, 1) := by decide +kernel
theorem dX8_areParts_15 : decode cX8_areParts 15 = .ok (.i2l, 1) := by decide +kernel
theorem dX8_areParts_16 : decode cX8_areParts 16 = .ok (.ldc2_w 166, 3) := by decide +kernel
theorem dX8_areParts_19 : decode cX8_areParts 19 = .ok (.ldc2_w 168, 3) := by decide +kernel
theorem dX8_areParts_22 : decode cX8_areParts 22 = .ok (.invokestatic 157, 3) := by decide +kernel
theorem dX8_areParts_25 : decode cX8_areParts 25 = .ok (.ifCond .eq 19, 3) := by decide +kernel
theorem dX8_areParts_28 : decode cX8_areParts 28 = .ok (.iload_n 2, 1) := by decide +kernel
theorem dX8_areParts_29 : decode cX8_areParts 29 = .ok (.i2l, 1) := by decide +kernel
theorem dX8_areParts_30 : decode cX8_areParts 30 = .ok (.lconst 1, 1) := by decide +kernel
theorem dX8_areParts_31 : decode cX8_areParts 31 = .ok (.ldc2_w 168, 3) := by decide +kernel
theorem dX8_areParts_34 : decode cX8_areParts 34 = .ok (.invokestatic 157, 3) := by decide +kernel
theorem dX8_areParts_37 : decode cX8_areParts 37 = .ok (.ifCond .eq 7, 3) := by decide +kernel
theorem dX8_areParts_40 : decode cX8_areParts 40 = .ok (.iconst 1, 1) := by decide +kernel
theorem dX8_areParts_41 : decode cX8_areParts 41 = .ok (.goto 4, 3) := by decide +kernel
theorem dX8_areParts_44 : decode cX8_areParts 44 = .ok (.iconst 0, 1) := by decide +kernel
theorem dX8_areParts_45 : decode cX8_areParts 45 = .ok (.ireturn, 1) := by decide +kernel
set_option maxHeartbeats 4000000 in
theorem q_given (l : Launch) {D : va_G} {ids : Nat → ClassId} {β : Nat} {sh : Nat → Nat × Nat} {N : Nat} {R : Nat → Nat → Option Nat} {F : Nat → Nat → Int} {A : Nat → Int → Int} {p0 q0 r0 : Int} (hp : I32 p0) (hq : I32 q0) (hr0 : I32 r0) : MetX l yX8_areParts cX8_areParts 3 (some (.boolean)) 1 25 D ids β sh N R F A [pI p0, pI q0, pI r0] (pIr (boolP F A (given p0 q0 r0))) := by
  refine MetX.of (loc := [_, _, _]) (plainFor_of_name (by decide +kernel)) (Nat.le_of_ble_eq_true rfl) rfl ?_
  intro p e s m args below meth c hC hK hr hlk
  refine x_iload_n (pc2 := 1) hC rfl rfl dX8_areParts_0 rfl ?_
  refine x_i2l (pc2 := 2) hC hp dX8_areParts_1 rfl ?_
  refine x_ldc2 (pc2 := 5) (z := -1000000) hC wt_892 rfl dX8_areParts_2 rfl ?_
  refine x_ldc2 (pc2 := 8) (z := 1000000) hC wt_893 rfl dX8_areParts_5 rfl ?_
  refine x_cSi (pc2 := 11) hC hK (n_in l ⟨by omega, by omega⟩ ⟨by omega, by omega⟩ ⟨by omega, by omega⟩) lk_873 rfl ⟨Nat.le_of_ble_eq_true rfl, Nat.le_of_ble_eq_true rfl⟩ ⟨Nat.le_refl _, Nat.le_refl _⟩ rfl (Nat.le_of_ble_eq_true rfl) dX8_areParts_8 rfl ?_
  rintro z8 F8 A8 ⟨w8, b8, e18, e28⟩
  obtain rfl := e18.symm
  obtain rfl := e28.symm
  refine x_if_eq (tgt := 44) (pc2 := 14) hC (by omega) dX8_areParts_11 rfl rfl (fun h_11 => ?_) (fun h_11 => ?_)
  · refine x_iconst (pc2 := 45) hC dX8_areParts_44 rfl ?_
    exact x_zret hC (by omega) hr hlk ⟨_, rfl, by omega, fun _ => by first | exact ⟨fun _ => ⟨(b8 ()).mp h_11, (b22 ()).mp h_25, (b34 ()).mp h_37⟩, fun _ => by decide⟩ | exact ⟨fun q => absurd rfl q, fun q => absurd h_37 ((b34 ()).mpr q.2.2)⟩ | exact ⟨fun q => absurd rfl q, fun q => absurd h_25 ((b22 ()).mpr q.2.1)⟩ | exact ⟨fun q => absurd rfl q, fun q => absurd h_11 ((b8 ()).mpr q.1)⟩, rfl, rfl⟩ dX8_areParts_45
  · refine x_iload_n (pc2 := 15) hC rfl rfl dX8_areParts_14 rfl ?_
    refine x_i2l (pc2 := 16) hC hq dX8_areParts_15 rfl ?_
    refine x_ldc2 (pc2 := 19) (z := -1000000) hC wt_892 rfl dX8_areParts_16 rfl ?_
    refine x_ldc2 (pc2 := 22) (z := 1000000) hC wt_893 rfl dX8_areParts_19 rfl ?_
    refine x_cSi (pc2 := 25) hC hK (n_in l ⟨by omega, by omega⟩ ⟨by omega, by omega⟩ ⟨by omega, by omega⟩) lk_873 rfl ⟨Nat.le_of_ble_eq_true rfl, Nat.le_of_ble_eq_true rfl⟩ ⟨Nat.le_refl _, Nat.le_refl _⟩ rfl (Nat.le_of_ble_eq_true rfl) dX8_areParts_22 rfl ?_
    rintro z22 F22 A22 ⟨w22, b22, e122, e222⟩
    obtain rfl := e122.symm
    obtain rfl := e222.symm
    refine x_if_eq (tgt := 44) (pc2 := 28) hC (by omega) dX8_areParts_25 rfl rfl (fun h_25 => ?_) (fun h_25 => ?_)
    · refine x_iconst (pc2 := 45) hC dX8_areParts_44 rfl ?_
      exact x_zret hC (by omega) hr hlk ⟨_, rfl, by omega, fun _ => by first | exact ⟨fun _ => ⟨(b8 ()).mp h_11, (b22 ()).mp h_25, (b34 ()).mp h_37⟩, fun _ => by decide⟩ | exact ⟨fun q => absurd rfl q, fun q => absurd h_37 ((b34 ()).mpr q.2.2)⟩ | exact ⟨fun q => absurd rfl q, fun q => absurd h_25 ((b22 ()).mpr q.2.1)⟩ | exact ⟨fun q => absurd rfl q, fun q => absurd h_11 ((b8 ()).mpr q.1)⟩, rfl, rfl⟩ dX8_areParts_45
    · refine x_iload_n (pc2 := 29) hC rfl rfl dX8_areParts_28 rfl ?_
      refine x_i2l (pc2 := 30) hC hr0 dX8_areParts_29 rfl ?_
      refine x_lconst1 (pc2 := 31) hC dX8_areParts_30 rfl ?_
      refine x_ldc2 (pc2 := 34) (z := 1000000) hC wt_893 rfl dX8_areParts_31 rfl ?_
      refine x_cSi (pc2 := 37) hC hK (n_in l ⟨by omega, by omega⟩ ⟨by omega, by omega⟩ ⟨by omega, by omega⟩) lk_873 rfl ⟨Nat.le_of_ble_eq_true rfl, Nat.le_of_ble_eq_true rfl⟩ ⟨Nat.le_refl _, Nat.le_refl _⟩ rfl (Nat.le_of_ble_eq_true rfl) dX8_areParts_34 rfl ?_
      rintro z34 F34 A34 ⟨w34, b34, e134, e234⟩
      obtain rfl := e134.symm
      obtain rfl := e234.symm
      refine x_if_eq (tgt := 44) (pc2 := 40) hC (by omega) dX8_areParts_37 rfl rfl (fun h_37 => ?_) (fun h_37 => ?_)
      · refine x_iconst (pc2 := 45) hC dX8_areParts_44 rfl ?_
        exact x_zret hC (by omega) hr hlk ⟨_, rfl, by omega, fun _ => by first | exact ⟨fun _ => ⟨(b8 ()).mp h_11, (b22 ()).mp h_25, (b34 ()).mp h_37⟩, fun _ => by decide⟩ | exact ⟨fun q => absurd rfl q, fun q => absurd h_37 ((b34 ()).mpr q.2.2)⟩ | exact ⟨fun q => absurd rfl q, fun q => absurd h_25 ((b22 ()).mpr q.2.1)⟩ | exact ⟨fun q => absurd rfl q, fun q => absurd h_11 ((b8 ()).mpr q.1)⟩, rfl, rfl⟩ dX8_areParts_45
      · refine x_iconst (pc2 := 41) hC dX8_areParts_40 rfl ?_
        refine x_goto (pc2 := 45) hC dX8_areParts_41 rfl ?_
        exact x_zret hC (by omega) hr hlk ⟨_, rfl, by omega, fun _ => by first | exact ⟨fun _ => ⟨(b8 ()).mp h_11, (b22 ()).mp h_25, (b34 ()).mp h_37⟩, fun _ => by decide⟩ | exact ⟨fun q => absurd rfl q, fun q => absurd h_37 ((b34 ()).mpr q.2.2)⟩ | exact ⟨fun q => absurd rfl q, fun q => absurd h_25 ((b22 ()).mpr q.2.1)⟩ | exact ⟨fun q => absurd rfl q, fun q => absurd h_11 ((b8 ()).mpr q.1)⟩, rfl, rfl⟩ dX8_areParts_45
theorem dX8_refuses_0 : decode cX8_refuses 0 = .ok (.aload_n 0, 1) := by decide +kernel
theorem dX8_refuses_1 : decode cX8_refuses 1 = .ok (.iload_n 1, 1) := by decide +kernel
theorem dX8_refuses_2 : decode cX8_refuses 2 = .ok (.putfield 20, 3) := by decide +kernel
theorem dX8_refuses_5 : decode cX8_refuses 5 = .ok (.aload_n 0, 1) := by decide +kernel
theorem dX8_refuses_6 : decode cX8_refuses 6 = .ok (.iload_n 2, 1) := by decide +kernel
theorem dX8_refuses_7 : decode cX8_refuses 7 = .ok (.putfield 24, 3) := by decide +kernel
theorem dX8_refuses_10 : decode cX8_refuses 10 = .ok (.bipush (-2), 2) := by decide +kernel
theorem dX8_refuses_12 : decode cX8_refuses 12 = .ok (.ireturn, 1) := by decide +kernel
set_option maxHeartbeats 4000000 in
theorem q_refuses (l : Launch) {D : va_G} {ids : Nat → ClassId} {β : Nat} {sh : Nat → Nat × Nat} {N : Nat} {R : Nat → Nat → Option Nat} {F : Nat → Nat → Int} {A : Nat → Int → Int} {S : SP} (hM : MoL sh R N) (hR0 : RepM S F A) {t d : Int} : MetX l yX8_refuses cX8_refuses 3 (some (.int)) 0 0 D ids β sh N R F A [rf 0, pI t, pI d] (pIr (fun z F2 A2 => z = -2 ∧ RepM (noS S t d) F2 A2)) := by
  refine MetX.of (loc := [_, _, _]) (plainFor_of_name (by decide +kernel)) (Nat.le_of_ble_eq_true rfl) rfl ?_
  intro p e s m args below meth c hC hK hr hlk
  obtain ⟨⟨m0, m1⟩, ⟨r0, r2, r3, r7, r8, r9, r11, r12, r13, r16, r18⟩, ⟨m2, m3⟩, ⟨m4, m5⟩, ⟨m6, m7⟩, ⟨m8, m9⟩, ⟨m10, m11⟩, ⟨m12, m13⟩, ⟨m14, m15⟩, ⟨m16, m17⟩, ⟨m18, m19⟩, ⟨m20, m21⟩, ⟨m22, m23⟩⟩ := id hM
  obtain ⟨hi, b1, b2, b3, b4, b5, b6, b7, b8⟩ := id hR0
  have i1 := hi.1
  refine x_aload_n (pc2 := 1) hC rfl rfl dX8_refuses_0 rfl ?_
  refine x_iload_n (pc2 := 2) hC rfl rfl dX8_refuses_1 rfl ?_
  refine p_814 (pc2 := 5) hC hK (by assumption) (by assumption) dX8_refuses_2 rfl ?_
  refine x_aload_n (pc2 := 6) hC rfl rfl dX8_refuses_5 rfl ?_
  refine x_iload_n (pc2 := 7) hC rfl rfl dX8_refuses_6 rfl ?_
  refine p_815 (pc2 := 10) hC hK (by assumption) (by assumption) dX8_refuses_7 rfl ?_
  refine x_bipush (pc2 := 12) hC rfl dX8_refuses_10 rfl ?_
  exact x_iret hC hr hlk ⟨_, rfl, rfl, hi, by rw [uF_nj (by decide), uF_nj (by decide)]; exact b1, b2, by rw [uF_nj (by decide), uF_nj (by decide)]; exact b3, by rw [uF_nj (by decide), uF_eq]; rfl, by rw [uF_eq]; rfl, b6, b7, b8⟩ dX8_refuses_12
theorem dX8_takes_0 : decode cX8_takes 0 = .ok (.iconst 0, 1) := by decide +kernel
theorem dX8_takes_1 : decode cX8_takes 1 = .ok (.istore_n 2, 1) := by decide +kernel
theorem dX8_takes_2 : decode cX8_takes 2 = .ok (.iload_n 2, 1) := by decide +kernel
theorem dX8_takes_3 : decode cX8_takes 3 = .ok (.bipush 96, 2) := by decide +kernel
theorem dX8_takes_5 : decode cX8_takes 5 = .ok (.if_icmp .ge 26, 3) := by decide +kernel
theorem dX8_takes_8 : decode cX8_takes 8 = .ok (.aload_n 0, 1) := by decide +kernel
theorem dX8_takes_9 : decode cX8_takes 9 = .ok (.getfield 46, 3) := by decide +kernel
theorem dX8_takes_12 : decode cX8_takes 12 = .ok (.iload_n 2, 1) := by decide +kernel
theorem dX8_takes_13 : decode cX8_takes 13 = .ok (.aload_n 0, 1) := by decide +kernel
theorem dX8_takes_14 : decode cX8_takes 14 = .ok (.getfield 13, 3) := by decide +kernel
theorem dX8_takes_17 : decode cX8_takes 17 = .ok (.bipush 96, 2) := by decide +kernel
theorem dX8_takes_19 : decode cX8_takes 19 = .ok (.iload_n 1, 1) := by decide +kernel
theorem dX8_takes_20 : decode cX8_takes 20 = .ok (.imul, 1) := by decide +kernel
theorem dX8_takes_21 : decode cX8_takes 21 = .ok (.iload_n 2, 1) := by decide +kernel
theorem dX8_takes_22 : decode cX8_takes 22 = .ok (.iadd, 1) := by decide +kernel
theorem dX8_takes_23 : decode cX8_takes 23 = .ok (.laload, 1) := by decide +kernel
theorem dX8_takes_24 : decode cX8_takes 24 = .ok (.lastore, 1) := by decide +kernel
theorem dX8_takes_25 : decode cX8_takes 25 = .ok (.iinc 2 1, 3) := by decide +kernel
theorem dX8_takes_28 : decode cX8_takes 28 = .ok (.goto (-26), 3) := by decide +kernel
theorem dX8_takes_31 : decode cX8_takes 31 = .ok (.aload_n 0, 1) := by decide +kernel
theorem dX8_takes_32 : decode cX8_takes 32 = .ok (.iconst 0, 1) := by decide +kernel
theorem dX8_takes_33 : decode cX8_takes 33 = .ok (.putfield 144, 3) := by decide +kernel
theorem dX8_takes_36 : decode cX8_takes 36 = .ok (.return_, 1) := by decide +kernel
set_option maxHeartbeats 4000000 in
theorem n_takes (l : Launch) {D : va_G} {ids : Nat → ClassId} {β : Nat} {sh : Nat → Nat × Nat} {N : Nat} {R : Nat → Nat → Option Nat} {F : Nat → Nat → Int} {A : Nat → Int → Int} (hM : MoL sh R N) {b : Int} (hb : 0 ≤ b ∧ b < 16) : MetX l yX8_takes cX8_takes 3 none 0 0 D ids β sh N R F A [rf 0, pI b] (pVr (fun F2 A2 => F2 = uF F 0 17 0 ∧ A2 = cpA A 2 (96 * b) 10 0 96)) := by
  refine MetX.of (loc := [_, _, _]) (plainFor_of_name (by decide +kernel)) (Nat.le_of_ble_eq_true rfl) rfl ?_
  intro p e s m args below meth c hC hK hr hlk
  obtain ⟨⟨m0, m1⟩, ⟨r0, r2, r3, r7, r8, r9, r11, r12, r13, r16, r18⟩, ⟨m2, m3⟩, ⟨m4, m5⟩, ⟨m6, m7⟩, ⟨m8, m9⟩, ⟨m10, m11⟩, ⟨m12, m13⟩, ⟨m14, m15⟩, ⟨m16, m17⟩, ⟨m18, m19⟩, ⟨m20, m21⟩, ⟨m22, m23⟩⟩ := id hM
  have loop : ∀ (d k : Nat), 96 - (k : Int) < d → k ≤ 96 → X p l e { frames := 0, cells := 0, slots := 0, locals := 0 } s m args below meth c (MQ below (QX D ids β sh N R (pVr (fun F2 A2 => F2 = uF F 0 17 0 ∧ A2 = cpA A 2 (96 * b) 10 0 96))) args s 0 0 (inG β N)) (inG β N) D ids β sh 3 0 0 N R F (cpA A 2 (96 * b) 10 0 k) [some (rf 0), some (pI b), some (pI (k : Int))] [] 2 := by
    intro d
    induction d with
    | zero => intro k hd; omega
    | succ d ih =>
      intro k hd hk
      refine x_iload_n (pc2 := 3) hC rfl rfl dX8_takes_2 rfl ?_
      refine x_bipush (pc2 := 5) hC rfl dX8_takes_3 rfl ?_
      refine x_icmp_ge (tgt := 31) (pc2 := 8) hC (by omega) (by omega) dX8_takes_5 rfl rfl (fun h_5 => ?_) (fun h_5 => ?_)
      · refine x_aload_n (pc2 := 32) hC rfl rfl dX8_takes_31 rfl ?_
        refine x_iconst (pc2 := 33) hC dX8_takes_32 rfl ?_
        refine p_826 (pc2 := 36) hC hK (by assumption) (by assumption) (by omega) dX8_takes_33 rfl ?_
        exact x_vret hC hr hlk ⟨rfl, rfl, by rw [show (k : Int) = 96 by omega]⟩ dX8_takes_36
      · refine x_aload_n (pc2 := 9) hC rfl rfl dX8_takes_8 rfl ?_
        refine g_825 (pc2 := 12) hC hK (by assumption) (by assumption) (by assumption) dX8_takes_9 rfl ?_
        refine x_iload_n (pc2 := 13) hC rfl rfl dX8_takes_12 rfl ?_
        refine x_aload_n (pc2 := 14) hC rfl rfl dX8_takes_13 rfl ?_
        refine g_811 (pc2 := 17) hC hK (by assumption) (by assumption) (by assumption) dX8_takes_14 rfl ?_
        refine x_bipush (pc2 := 19) hC rfl dX8_takes_17 rfl ?_
        refine x_iload_n (pc2 := 20) hC rfl rfl dX8_takes_19 rfl ?_
        refine x_imul (pc2 := 21) hC dX8_takes_20 rfl ?_
        refine x_iload_n (pc2 := 22) hC rfl rfl dX8_takes_21 rfl ?_
        refine x_iadd (pc2 := 23) hC dX8_takes_22 rfl ?_
        refine x_lald (pc2 := 24) hC hK (by assumption) (by assumption) (by omega) (by decide) dX8_takes_23 rfl ?_
        refine x_last (pc2 := 25) hC hK (by assumption) (by assumption) (by omega) (by decide) dX8_takes_24 rfl ?_
        refine x_iinc (pc2 := 28) (loc2 := [_, _, _]) hC (by decide) rfl rfl dX8_takes_25 rfl ?_
        refine x_goto (pc2 := 2) hC dX8_takes_28 rfl ?_
        have e := cpA_succ (A := A) (s := 2) (d := 10) (so := 96 * b) (dq := 0) (k := (k : Int)) (by omega) (Or.inl (by decide))
        rw [Int.zero_add] at e
        rw [e]
        exact ih (k + 1) (by omega) (by omega)
  refine x_iconst (pc2 := 1) hC dX8_takes_0 rfl ?_
  refine x_istore_n (pc2 := 2) (loc2 := [_, _, _]) hC rfl (by decide) rfl dX8_takes_1 rfl ?_
  have g := loop 97 0 (by decide) (by decide)
  rw [show (((0 : Nat) : Int)) = 0 from rfl, cpA_0] at g
  exact g
