def same (F : Nat → Nat → Int) (A : Nat → Int → Int) : (Nat → Nat → Int) → (Nat → Int → Int) → Prop := fun F' A' => F' = F ∧ A' = A
def sameI (F : Nat → Nat → Int) (A : Nat → Int → Int) (v : Int) : Int → (Nat → Nat → Int) → (Nat → Int → Int) → Prop := fun z F' A' => z = v ∧ F' = F ∧ A' = A
/-- the limb at k, 0 outside -/
def lim (F : Nat → Nat → Int) (A : Nat → Int → Int) (w : Nat) (k : Int) : Int := if 0 ≤ k ∧ k < F w 1 then A (w + 1) k else 0
theorem lim_dig {F : Nat → Nat → Int} {A : Nat → Int → Int} {w : Nat} (h : WOK F A w) (k : Int) : 0 ≤ lim F A w k ∧ lim F A w k < 1000000000 := by
  unfold lim
  split
  · rename_i q; exact h.2.2.1 k q.1 q.2
  · omega
def sgc (a b : Int) : Int := if a < b then -1 else if a = b then 0 else 1
theorem sgc_I {a b : Int} : -1 ≤ sgc a b ∧ sgc a b ≤ 1 := by unfold sgc; split; omega; split <;> omega
theorem wm_nonneg {F : Nat → Nat → Int} {A : Nat → Int → Int} {w : Nat} (h : WOK F A w) : 0 ≤ wm F A w := dv_nonneg (by decide) (fun k h0 h1 => (h.2.2.1 k h0 (by have := h.1; omega)).1)
theorem wm_lt {F : Nat → Nat → Int} {A : Nat → Int → Int} {w : Nat} (h : WOK F A w) : wm F A w < 1000000000 ^ (F w 1).toNat := dv_lt (by decide) (fun k h0 h1 => h.2.2.1 k h0 (by have := h.1; omega))
theorem wm_ge {F : Nat → Nat → Int} {A : Nat → Int → Int} {w : Nat} (h : WOK F A w) (h1 : 0 < F w 1) : 1000000000 ^ ((F w 1).toNat - 1) ≤ wm F A w := by
  obtain ⟨n, hn⟩ : ∃ n : Nat, F w 1 = n + 1 := ⟨(F w 1).toNat - 1, by omega⟩
  unfold wm
  rw [hn, show ((n : Int) + 1).toNat = n + 1 by omega, Nat.add_sub_cancel]
  exact dv_ge (by decide) (fun k h0 h2 => (h.2.2.1 k h0 (by omega)).1) (by have := h.2.2.2.1 h1; rw [hn] at this; simpa using this)
theorem wm_pos {F : Nat → Nat → Int} {A : Nat → Int → Int} {w : Nat} (h : WOK F A w) (h1 : 0 < F w 1) : 0 < wm F A w := by
  have := wm_ge h h1
  have := pow_pos' (B := 1000000000) (by decide) ((F w 1).toNat - 1)
  omega
theorem wm_zero {F : Nat → Nat → Int} {A : Nat → Int → Int} {w : Nat} (h1 : F w 1 ≤ 0) : wm F A w = 0 := by
  unfold wm; rw [show (F w 1).toNat = 0 by omega]; rfl
/-- fewer limbs, a smaller number -/
theorem wm_size_lt {F : Nat → Nat → Int} {A : Nat → Int → Int} {w x : Nat} (h : WOK F A w) (hx : WOK F A x) (hs : F w 1 < F x 1) : wm F A w < wm F A x := by
  have h1 := wm_lt h
  have h2 := wm_ge hx (by have := h.1; omega)
  have h3 := pow_le' (B := 1000000000) (by decide) (show (F w 1).toNat ≤ (F x 1).toNat - 1 by have := h.1; omega)
  omega
theorem size_le {F : Nat → Nat → Int} {A : Nat → Int → Int} {w : Nat} (h : WOK F A w) {n : Nat} (hv : wm F A w < 1000000000 ^ n) : F w 1 ≤ n := by
  apply Classical.byContradiction
  intro q
  have h1 := wm_ge h (by omega)
  have h2 := pow_le' (B := 1000000000) (by decide) (show n ≤ (F w 1).toNat - 1 by omega)
  omega
theorem wv_abs {F : Nat → Nat → Int} {A : Nat → Int → Int} {w : Nat} (h : WOK F A w) : (wv F A w).natAbs = (wm F A w).natAbs := by
  unfold wv
  rcases h.2.2.2.2 with ⟨q1, q2⟩ | ⟨q1, q2 | q2⟩
  · rw [wm_zero (by omega), Int.mul_zero]
  · rw [q2, Int.one_mul]
  · rw [q2]; omega
theorem dv_two {f : Int → Int} : dv 1000000000 f 2 = f 0 + f 1 * 1000000000 := by simp [dv]
theorem dv_three {f : Int → Int} : dv 1000000000 f 3 = f 0 + f 1 * 1000000000 + f 2 * 1000000000000000000 := by simp [dv]
theorem dv_lim {F : Nat → Nat → Int} {A : Nat → Int → Int} {w : Nat} (h : WOK F A w) {n : Nat} (hn : F w 1 ≤ n) : dv 1000000000 (lim F A w) n = wm F A w := by
  unfold wm
  rw [dv_drop (n := (F w 1).toNat) (m := n) (by omega) (fun k h0 h1 => by unfold lim; rw [if_neg (by omega)])]
  exact dv_congr (fun k h0 h1 => by unfold lim; rw [if_pos (by omega)])
theorem dX6_limbAt_0 : decode cX6_limbAt 0 = .ok (.iload_n 1, 1) := by decide +kernel
theorem dX6_limbAt_1 : decode cX6_limbAt 1 = .ok (.ifCond .lt 20, 3) := by decide +kernel
theorem dX6_limbAt_4 : decode cX6_limbAt 4 = .ok (.iload_n 1, 1) := by decide +kernel
theorem dX6_limbAt_5 : decode cX6_limbAt 5 = .ok (.aload_n 0, 1) := by decide +kernel
theorem dX6_limbAt_6 : decode cX6_limbAt 6 = .ok (.getfield 19, 3) := by decide +kernel
theorem dX6_limbAt_9 : decode cX6_limbAt 9 = .ok (.if_icmp .ge 12, 3) := by decide +kernel
theorem dX6_limbAt_12 : decode cX6_limbAt 12 = .ok (.aload_n 0, 1) := by decide +kernel
theorem dX6_limbAt_13 : decode cX6_limbAt 13 = .ok (.getfield 9, 3) := by decide +kernel
theorem dX6_limbAt_16 : decode cX6_limbAt 16 = .ok (.iload_n 1, 1) := by decide +kernel
theorem dX6_limbAt_17 : decode cX6_limbAt 17 = .ok (.iaload, 1) := by decide +kernel
theorem dX6_limbAt_18 : decode cX6_limbAt 18 = .ok (.goto 4, 3) := by decide +kernel
theorem dX6_limbAt_21 : decode cX6_limbAt 21 = .ok (.iconst 0, 1) := by decide +kernel
theorem dX6_limbAt_22 : decode cX6_limbAt 22 = .ok (.ireturn, 1) := by decide +kernel
set_option maxHeartbeats 4000000 in
theorem m_limbAt (l : Launch) {D : va_G} {ids : Nat → ClassId} {β : Nat} {sh : Nat → Nat × Nat} {N : Nat} {R : Nat → Nat → Option Nat} {F : Nat → Nat → Int} {A : Nat → Int → Int} {w : Nat} {k : Int} (hw : isW sh R N w) (h0 : WOK F A w) (hk : I32 k) : MetX l yX6_limbAt cX6_limbAt 2 (some (.int)) 0 0 D ids β sh N R F A [rf w, pI k] (pIr (sameI F A (lim F A w k))) := by
  refine MetX.of (loc := [_, _]) (plainFor_of_name (by decide +kernel)) (Nat.le_of_ble_eq_true rfl) rfl ?_
  intro p e s m args below meth c hC hK hr hlk
  obtain ⟨hw1, hw2, hw3, hw4⟩ := id hw
  have hw0 : w < N := by omega
  obtain ⟨s1, s2, s3, s4, s5⟩ := id h0
  refine x_iload_n (pc2 := 1) hC rfl rfl dX6_limbAt_0 rfl ?_
  refine x_if_lt (tgt := 21) (pc2 := 4) hC (by omega) dX6_limbAt_1 rfl rfl (fun h_1 => ?_) (fun h_1 => ?_)
  · refine x_iconst (pc2 := 22) hC dX6_limbAt_21 rfl ?_
    exact x_iret hC hr hlk ⟨_, rfl, by unfold lim; first | rw [if_pos (by omega)] | rw [if_neg (by omega)], rfl, rfl⟩ dX6_limbAt_22
  · refine x_iload_n (pc2 := 5) hC rfl rfl dX6_limbAt_4 rfl ?_
    refine x_aload_n (pc2 := 6) hC rfl rfl dX6_limbAt_5 rfl ?_
    refine g_140 (pc2 := 9) hC hK (by assumption) (by assumption) dX6_limbAt_6 rfl ?_
    refine x_icmp_ge (tgt := 21) (pc2 := 12) hC (by omega) (by omega) dX6_limbAt_9 rfl rfl (fun h_9 => ?_) (fun h_9 => ?_)
    · refine x_iconst (pc2 := 22) hC dX6_limbAt_21 rfl ?_
      exact x_iret hC hr hlk ⟨_, rfl, by unfold lim; first | rw [if_pos (by omega)] | rw [if_neg (by omega)], rfl, rfl⟩ dX6_limbAt_22
    · refine x_aload_n (pc2 := 13) hC rfl rfl dX6_limbAt_12 rfl ?_
      refine g_142 (pc2 := 16) hC hK (by assumption) (by assumption) (by assumption) dX6_limbAt_13 rfl ?_
      refine x_iload_n (pc2 := 17) hC rfl rfl dX6_limbAt_16 rfl ?_
      refine x_iald (pc2 := 18) hC hK (by assumption) (by assumption) (by omega) (by decide) dX6_limbAt_17 rfl ?_
      refine x_goto (pc2 := 22) hC dX6_limbAt_18 rfl ?_
      exact x_iret hC hr hlk ⟨_, rfl, by unfold lim; first | rw [if_pos (by omega)] | rw [if_neg (by omega)], rfl, rfl⟩ dX6_limbAt_22
theorem dX6_head_0 : decode cX6_head 0 = .ok (.aload_n 0, 1) := by decide +kernel
theorem dX6_head_1 : decode cX6_head 1 = .ok (.iconst 1, 1) := by decide +kernel
theorem dX6_head_2 : decode cX6_head 2 = .ok (.invokevirtual 40, 3) := by decide +kernel
theorem dX6_head_5 : decode cX6_head 5 = .ok (.i2l, 1) := by decide +kernel
theorem dX6_head_6 : decode cX6_head 6 = .ok (.ldc2_w 22, 3) := by decide +kernel
theorem dX6_head_9 : decode cX6_head 9 = .ok (.lmul, 1) := by decide +kernel
theorem dX6_head_10 : decode cX6_head 10 = .ok (.aload_n 0, 1) := by decide +kernel
theorem dX6_head_11 : decode cX6_head 11 = .ok (.iconst 0, 1) := by decide +kernel
theorem dX6_head_12 : decode cX6_head 12 = .ok (.invokevirtual 40, 3) := by decide +kernel
theorem dX6_head_15 : decode cX6_head 15 = .ok (.i2l, 1) := by decide +kernel
theorem dX6_head_16 : decode cX6_head 16 = .ok (.ladd, 1) := by decide +kernel
theorem dX6_head_17 : decode cX6_head 17 = .ok (.lreturn, 1) := by decide +kernel
set_option maxHeartbeats 4000000 in
theorem m_head (l : Launch) {D : va_G} {ids : Nat → ClassId} {β : Nat} {sh : Nat → Nat × Nat} {N : Nat} {R : Nat → Nat → Option Nat} {F : Nat → Nat → Int} {A : Nat → Int → Int} {w : Nat} (hw : isW sh R N w) (h0 : WOK F A w) (hs : F w 1 ≤ 2) : MetX l yX6_head cX6_head 1 (some (.long)) 1 21 D ids β sh N R F A [rf w] (pLr (sameI F A (wm F A w))) := by
  refine MetX.of (loc := [_]) (plainFor_of_name (by decide +kernel)) (Nat.le_of_ble_eq_true rfl) rfl ?_
  intro p e s m args below meth c hC hK hr hlk
  obtain ⟨hw1, hw2, hw3, hw4⟩ := id hw
  have hw0 : w < N := by omega
  have d0 := lim_dig h0 0
  have d1 := lim_dig h0 1
  have e2 := dv_lim h0 hs
  rw [dv_two] at e2
  refine x_aload_n (pc2 := 1) hC rfl rfl dX6_head_0 rfl ?_
  refine x_iconst (pc2 := 2) hC dX6_head_1 rfl ?_
  refine x_cVi (pc2 := 5) (ci := 6) hC hK (m_limbAt l hw h0 (by omega)) lk_577 rfl rfl (by decide) (by assumption) (by assumption) ⟨Nat.le_of_ble_eq_true rfl, Nat.le_of_ble_eq_true rfl⟩ ⟨Nat.le_refl _, Nat.le_refl _⟩ rfl (Nat.le_of_ble_eq_true rfl) dX6_head_2 rfl ?_
  rintro z2 F2 A2 ⟨rfl, rfl, rfl⟩
  refine x_i2l (pc2 := 6) hC (by omega) dX6_head_5 rfl ?_
  refine x_ldc2 (pc2 := 9) (z := 1000000000) hC wt_257 rfl dX6_head_6 rfl ?_
  refine x_lmul (pc2 := 10) hC dX6_head_9 rfl ?_
  refine x_aload_n (pc2 := 11) hC rfl rfl dX6_head_10 rfl ?_
  refine x_iconst (pc2 := 12) hC dX6_head_11 rfl ?_
  refine x_cVi (pc2 := 15) (ci := 6) hC hK (m_limbAt l hw h0 (by omega)) lk_577 rfl rfl (by decide) (by assumption) (by assumption) ⟨Nat.le_of_ble_eq_true rfl, Nat.le_of_ble_eq_true rfl⟩ ⟨Nat.le_refl _, Nat.le_refl _⟩ rfl (Nat.le_of_ble_eq_true rfl) dX6_head_12 rfl ?_
  rintro z12 F12 A12 ⟨rfl, rfl, rfl⟩
  refine x_i2l (pc2 := 16) hC (by omega) dX6_head_15 rfl ?_
  refine x_ladd (pc2 := 17) hC dX6_head_16 rfl ?_
  exact x_lret hC hr hlk ⟨_, rfl, by omega, rfl, rfl⟩ dX6_head_17
theorem mul_rng {a b : Int} {m n : Int} (h0 : 0 ≤ a) (h1 : a ≤ m) (h2 : 0 ≤ b) (h3 : b ≤ n) : 0 ≤ a * b ∧ a * b ≤ m * n := ⟨Int.mul_nonneg h0 h2, Int.mul_le_mul h1 h3 h2 (by omega)⟩
theorem dX6_scaledHead_0 : decode cX6_scaledHead 0 = .ok (.aload_n 0, 1) := by decide +kernel
theorem dX6_scaledHead_1 : decode cX6_scaledHead 1 = .ok (.iload_n 1, 1) := by decide +kernel
theorem dX6_scaledHead_2 : decode cX6_scaledHead 2 = .ok (.iconst 1, 1) := by decide +kernel
theorem dX6_scaledHead_3 : decode cX6_scaledHead 3 = .ok (.isub, 1) := by decide +kernel
theorem dX6_scaledHead_4 : decode cX6_scaledHead 4 = .ok (.invokevirtual 40, 3) := by decide +kernel
theorem dX6_scaledHead_7 : decode cX6_scaledHead 7 = .ok (.i2l, 1) := by decide +kernel
theorem dX6_scaledHead_8 : decode cX6_scaledHead 8 = .ok (.lload_n 2, 1) := by decide +kernel
theorem dX6_scaledHead_9 : decode cX6_scaledHead 9 = .ok (.lmul, 1) := by decide +kernel
theorem dX6_scaledHead_10 : decode cX6_scaledHead 10 = .ok (.lstore 4, 2) := by decide +kernel
theorem dX6_scaledHead_12 : decode cX6_scaledHead 12 = .ok (.aload_n 0, 1) := by decide +kernel
theorem dX6_scaledHead_13 : decode cX6_scaledHead 13 = .ok (.iload_n 1, 1) := by decide +kernel
theorem dX6_scaledHead_14 : decode cX6_scaledHead 14 = .ok (.iconst 2, 1) := by decide +kernel
theorem dX6_scaledHead_15 : decode cX6_scaledHead 15 = .ok (.isub, 1) := by decide +kernel
theorem dX6_scaledHead_16 : decode cX6_scaledHead 16 = .ok (.invokevirtual 40, 3) := by decide +kernel
theorem dX6_scaledHead_19 : decode cX6_scaledHead 19 = .ok (.i2l, 1) := by decide +kernel
theorem dX6_scaledHead_20 : decode cX6_scaledHead 20 = .ok (.lload_n 2, 1) := by decide +kernel
theorem dX6_scaledHead_21 : decode cX6_scaledHead 21 = .ok (.lmul, 1) := by decide +kernel
theorem dX6_scaledHead_22 : decode cX6_scaledHead 22 = .ok (.lstore 6, 2) := by decide +kernel
theorem dX6_scaledHead_24 : decode cX6_scaledHead 24 = .ok (.aload_n 0, 1) := by decide +kernel
theorem dX6_scaledHead_25 : decode cX6_scaledHead 25 = .ok (.iload_n 1, 1) := by decide +kernel
theorem dX6_scaledHead_26 : decode cX6_scaledHead 26 = .ok (.iconst 3, 1) := by decide +kernel
theorem dX6_scaledHead_27 : decode cX6_scaledHead 27 = .ok (.isub, 1) := by decide +kernel
theorem dX6_scaledHead_28 : decode cX6_scaledHead 28 = .ok (.invokevirtual 40, 3) := by decide +kernel
theorem dX6_scaledHead_31 : decode cX6_scaledHead 31 = .ok (.i2l, 1) := by decide +kernel
theorem dX6_scaledHead_32 : decode cX6_scaledHead 32 = .ok (.lload_n 2, 1) := by decide +kernel
theorem dX6_scaledHead_33 : decode cX6_scaledHead 33 = .ok (.lmul, 1) := by decide +kernel
theorem dX6_scaledHead_34 : decode cX6_scaledHead 34 = .ok (.lstore 8, 2) := by decide +kernel
theorem dX6_scaledHead_36 : decode cX6_scaledHead 36 = .ok (.lload 4, 2) := by decide +kernel
theorem dX6_scaledHead_38 : decode cX6_scaledHead 38 = .ok (.ldc2_w 22, 3) := by decide +kernel
theorem dX6_scaledHead_41 : decode cX6_scaledHead 41 = .ok (.lmul, 1) := by decide +kernel
theorem dX6_scaledHead_42 : decode cX6_scaledHead 42 = .ok (.lload 6, 2) := by decide +kernel
theorem dX6_scaledHead_44 : decode cX6_scaledHead 44 = .ok (.ladd, 1) := by decide +kernel
theorem dX6_scaledHead_45 : decode cX6_scaledHead 45 = .ok (.lload 8, 2) := by decide +kernel
theorem dX6_scaledHead_47 : decode cX6_scaledHead 47 = .ok (.ldc2_w 22, 3) := by decide +kernel
theorem dX6_scaledHead_50 : decode cX6_scaledHead 50 = .ok (.ldiv, 1) := by decide +kernel
theorem dX6_scaledHead_51 : decode cX6_scaledHead 51 = .ok (.ladd, 1) := by decide +kernel
theorem dX6_scaledHead_52 : decode cX6_scaledHead 52 = .ok (.lreturn, 1) := by decide +kernel
set_option maxHeartbeats 4000000 in
theorem m_scaledHead (l : Launch) {D : va_G} {ids : Nat → ClassId} {β : Nat} {sh : Nat → Nat × Nat} {N : Nat} {R : Nat → Nat → Option Nat} {F : Nat → Nat → Int} {A : Nat → Int → Int} {w : Nat} {n sc : Int} (hw : isW sh R N w) (h0 : WOK F A w) (hn : 0 ≤ n ∧ n ≤ 80) (hsc : 1 ≤ sc ∧ sc ≤ 1000000000) (ht : lim F A w (n - 1) * sc < 1000000000) : MetX l yX6_scaledHead cX6_scaledHead 10 (some (.long)) 1 21 D ids β sh N R F A [rf w, pI n, pL sc] (pLr (sameI F A (lim F A w (n - 1) * sc * 1000000000 + lim F A w (n - 2) * sc + lim F A w (n - 3) * sc / 1000000000))) := by
  refine MetX.of (loc := [_, _, _, _, _, _, _, _, _, _]) (plainFor_of_name (by decide +kernel)) (Nat.le_of_ble_eq_true rfl) rfl ?_
  intro p e s m args below meth c hC hK hr hlk
  obtain ⟨hw1, hw2, hw3, hw4⟩ := id hw
  have hw0 : w < N := by omega
  have d1 := lim_dig h0 (n - 1)
  have d2 := lim_dig h0 (n - 2)
  have d3 := lim_dig h0 (n - 3)
  have b1 := mul_rng d1.1 (show lim F A w (n - 1) ≤ 999999999 by omega) (show 0 ≤ sc by omega) hsc.2
  have b2 := mul_rng d2.1 (show lim F A w (n - 2) ≤ 999999999 by omega) (show 0 ≤ sc by omega) hsc.2
  have b3 := mul_rng d3.1 (show lim F A w (n - 3) ≤ 999999999 by omega) (show 0 ≤ sc by omega) hsc.2
  refine x_aload_n (pc2 := 1) hC rfl rfl dX6_scaledHead_0 rfl ?_
  refine x_iload_n (pc2 := 2) hC rfl rfl dX6_scaledHead_1 rfl ?_
  refine x_iconst (pc2 := 3) hC dX6_scaledHead_2 rfl ?_
  refine x_isub (pc2 := 4) hC dX6_scaledHead_3 rfl ?_
  refine x_cVi (pc2 := 7) (ci := 6) hC hK (m_limbAt l hw h0 (by omega)) lk_577 rfl rfl (by decide) (by assumption) (by assumption) ⟨Nat.le_of_ble_eq_true rfl, Nat.le_of_ble_eq_true rfl⟩ ⟨Nat.le_refl _, Nat.le_refl _⟩ rfl (Nat.le_of_ble_eq_true rfl) dX6_scaledHead_4 rfl ?_
  rintro z4 F4 A4 ⟨rfl, rfl, rfl⟩
  refine x_i2l (pc2 := 8) hC (by omega) dX6_scaledHead_7 rfl ?_
  refine x_lload_n (pc2 := 9) hC rfl rfl dX6_scaledHead_8 rfl ?_
  refine x_lmul (pc2 := 10) hC dX6_scaledHead_9 rfl ?_
  refine x_lstore (pc2 := 12) (loc2 := [_, _, _, _, _, _, _, _, _, _]) hC (by decide) rfl dX6_scaledHead_10 rfl ?_
  refine x_aload_n (pc2 := 13) hC rfl rfl dX6_scaledHead_12 rfl ?_
  refine x_iload_n (pc2 := 14) hC rfl rfl dX6_scaledHead_13 rfl ?_
  refine x_iconst (pc2 := 15) hC dX6_scaledHead_14 rfl ?_
  refine x_isub (pc2 := 16) hC dX6_scaledHead_15 rfl ?_
  refine x_cVi (pc2 := 19) (ci := 6) hC hK (m_limbAt l hw h0 (by omega)) lk_577 rfl rfl (by decide) (by assumption) (by assumption) ⟨Nat.le_of_ble_eq_true rfl, Nat.le_of_ble_eq_true rfl⟩ ⟨Nat.le_refl _, Nat.le_refl _⟩ rfl (Nat.le_of_ble_eq_true rfl) dX6_scaledHead_16 rfl ?_
  rintro z16 F16 A16 ⟨rfl, rfl, rfl⟩
  refine x_i2l (pc2 := 20) hC (by omega) dX6_scaledHead_19 rfl ?_
  refine x_lload_n (pc2 := 21) hC rfl rfl dX6_scaledHead_20 rfl ?_
  refine x_lmul (pc2 := 22) hC dX6_scaledHead_21 rfl ?_
  refine x_lstore (pc2 := 24) (loc2 := [_, _, _, _, _, _, _, _, _, _]) hC (by decide) rfl dX6_scaledHead_22 rfl ?_
  refine x_aload_n (pc2 := 25) hC rfl rfl dX6_scaledHead_24 rfl ?_
  refine x_iload_n (pc2 := 26) hC rfl rfl dX6_scaledHead_25 rfl ?_
  refine x_iconst (pc2 := 27) hC dX6_scaledHead_26 rfl ?_
  refine x_isub (pc2 := 28) hC dX6_scaledHead_27 rfl ?_
  refine x_cVi (pc2 := 31) (ci := 6) hC hK (m_limbAt l hw h0 (by omega)) lk_577 rfl rfl (by decide) (by assumption) (by assumption) ⟨Nat.le_of_ble_eq_true rfl, Nat.le_of_ble_eq_true rfl⟩ ⟨Nat.le_refl _, Nat.le_refl _⟩ rfl (Nat.le_of_ble_eq_true rfl) dX6_scaledHead_28 rfl ?_
  rintro z28 F28 A28 ⟨rfl, rfl, rfl⟩
  refine x_i2l (pc2 := 32) hC (by omega) dX6_scaledHead_31 rfl ?_
  refine x_lload_n (pc2 := 33) hC rfl rfl dX6_scaledHead_32 rfl ?_
  refine x_lmul (pc2 := 34) hC dX6_scaledHead_33 rfl ?_
  refine x_lstore (pc2 := 36) (loc2 := [_, _, _, _, _, _, _, _, _, _]) hC (by decide) rfl dX6_scaledHead_34 rfl ?_
  refine x_lload (pc2 := 38) hC rfl dX6_scaledHead_36 rfl ?_
  refine x_ldc2 (pc2 := 41) (z := 1000000000) hC wt_257 rfl dX6_scaledHead_38 rfl ?_
  refine x_lmul (pc2 := 42) hC dX6_scaledHead_41 rfl ?_
  refine x_lload (pc2 := 44) hC rfl dX6_scaledHead_42 rfl ?_
  refine x_ladd (pc2 := 45) hC dX6_scaledHead_44 rfl ?_
  refine x_lload (pc2 := 47) hC rfl dX6_scaledHead_45 rfl ?_
  refine x_ldc2 (pc2 := 50) (z := 1000000000) hC wt_257 rfl dX6_scaledHead_47 rfl ?_
  refine x_ldivp (pc2 := 51) hC (by omega) (by omega) (by omega) (by omega) dX6_scaledHead_50 rfl ?_
  refine x_ladd (pc2 := 52) hC dX6_scaledHead_51 rfl ?_
  exact x_lret hC hr hlk ⟨_, rfl, by omega, rfl, rfl⟩ dX6_scaledHead_52
def Q_set (F : Nat → Nat → Int) (A : Nat → Int → Int) (w : Nat) (v : Int) : (Nat → Nat → Int) → (Nat → Int → Int) → Prop := fun F' A' => (∀ o, o ≠ w → F' o = F o) ∧ (∀ a, a ≠ w + 1 → A' a = A a) ∧ WOK F' A' w ∧ wv F' A' w = v
theorem dX6_putSmall_0 : decode cX6_putSmall 0 = .ok (.aload_n 0, 1) := by decide +kernel
theorem dX6_putSmall_1 : decode cX6_putSmall 1 = .ok (.getfield 9, 3) := by decide +kernel
theorem dX6_putSmall_4 : decode cX6_putSmall 4 = .ok (.iconst 0, 1) := by decide +kernel
theorem dX6_putSmall_5 : decode cX6_putSmall 5 = .ok (.lload_n 1, 1) := by decide +kernel
theorem dX6_putSmall_6 : decode cX6_putSmall 6 = .ok (.ldc2_w 22, 3) := by decide +kernel
theorem dX6_putSmall_9 : decode cX6_putSmall 9 = .ok (.lrem, 1) := by decide +kernel
theorem dX6_putSmall_10 : decode cX6_putSmall 10 = .ok (.l2i, 1) := by decide +kernel
theorem dX6_putSmall_11 : decode cX6_putSmall 11 = .ok (.iastore, 1) := by decide +kernel
theorem dX6_putSmall_12 : decode cX6_putSmall 12 = .ok (.aload_n 0, 1) := by decide +kernel
theorem dX6_putSmall_13 : decode cX6_putSmall 13 = .ok (.getfield 9, 3) := by decide +kernel
theorem dX6_putSmall_16 : decode cX6_putSmall 16 = .ok (.iconst 1, 1) := by decide +kernel
theorem dX6_putSmall_17 : decode cX6_putSmall 17 = .ok (.lload_n 1, 1) := by decide +kernel
theorem dX6_putSmall_18 : decode cX6_putSmall 18 = .ok (.ldc2_w 22, 3) := by decide +kernel
theorem dX6_putSmall_21 : decode cX6_putSmall 21 = .ok (.ldiv, 1) := by decide +kernel
theorem dX6_putSmall_22 : decode cX6_putSmall 22 = .ok (.ldc2_w 22, 3) := by decide +kernel
theorem dX6_putSmall_25 : decode cX6_putSmall 25 = .ok (.lrem, 1) := by decide +kernel
theorem dX6_putSmall_26 : decode cX6_putSmall 26 = .ok (.l2i, 1) := by decide +kernel
theorem dX6_putSmall_27 : decode cX6_putSmall 27 = .ok (.iastore, 1) := by decide +kernel
theorem dX6_putSmall_28 : decode cX6_putSmall 28 = .ok (.aload_n 0, 1) := by decide +kernel
theorem dX6_putSmall_29 : decode cX6_putSmall 29 = .ok (.iconst 2, 1) := by decide +kernel
theorem dX6_putSmall_30 : decode cX6_putSmall 30 = .ok (.iconst 1, 1) := by decide +kernel
theorem dX6_putSmall_31 : decode cX6_putSmall 31 = .ok (.invokevirtual 24, 3) := by decide +kernel
theorem dX6_putSmall_34 : decode cX6_putSmall 34 = .ok (.return_, 1) := by decide +kernel
set_option maxHeartbeats 4000000 in
theorem m_putSmall (l : Launch) {D : va_G} {ids : Nat → ClassId} {β : Nat} {sh : Nat → Nat × Nat} {N : Nat} {R : Nat → Nat → Option Nat} {F : Nat → Nat → Int} {A : Nat → Int → Int} {w : Nat} {v : Int} (hw : isW sh R N w) (hv : 0 ≤ v ∧ v < 1000000000000000000) : MetX l yX6_putSmall cX6_putSmall 3 none 1 23 D ids β sh N R F A [rf w, pL v] (pVr (Q_set F A w v)) := by
  refine MetX.of (loc := [_, _, _]) (plainFor_of_name (by decide +kernel)) (Nat.le_of_ble_eq_true rfl) rfl ?_
  intro p e s m args below meth c hC hK hr hlk
  obtain ⟨hw1, hw2, hw3, hw4⟩ := id hw
  have hw0 : w < N := by omega
  have e0 : uA (uA A (w + 1) 0 (v % 1000000000)) (w + 1) 1 (v / 1000000000 % 1000000000) (w + 1) 0 = v % 1000000000 := by rw [uA_ni (by decide), uA_eq]
  have e1 : uA (uA A (w + 1) 0 (v % 1000000000)) (w + 1) 1 (v / 1000000000 % 1000000000) (w + 1) 1 = v / 1000000000 % 1000000000 := uA_eq
  refine x_aload_n (pc2 := 1) hC rfl rfl dX6_putSmall_0 rfl ?_
  refine g_142 (pc2 := 4) hC hK (by assumption) (by assumption) (by assumption) dX6_putSmall_1 rfl ?_
  refine x_iconst (pc2 := 5) hC dX6_putSmall_4 rfl ?_
  refine x_lload_n (pc2 := 6) hC rfl rfl dX6_putSmall_5 rfl ?_
  refine x_ldc2 (pc2 := 9) (z := 1000000000) hC wt_257 rfl dX6_putSmall_6 rfl ?_
  refine x_lremp (pc2 := 10) hC (by omega) (by omega) (by omega) (by omega) dX6_putSmall_9 rfl ?_
  refine x_l2i (pc2 := 11) hC dX6_putSmall_10 rfl ?_
  refine x_iast (pc2 := 12) hC hK (by assumption) (by assumption) (by omega) (by decide) dX6_putSmall_11 rfl ?_
  refine x_aload_n (pc2 := 13) hC rfl rfl dX6_putSmall_12 rfl ?_
  refine g_142 (pc2 := 16) hC hK (by assumption) (by assumption) (by assumption) dX6_putSmall_13 rfl ?_
  refine x_iconst (pc2 := 17) hC dX6_putSmall_16 rfl ?_
  refine x_lload_n (pc2 := 18) hC rfl rfl dX6_putSmall_17 rfl ?_
  refine x_ldc2 (pc2 := 21) (z := 1000000000) hC wt_257 rfl dX6_putSmall_18 rfl ?_
  refine x_ldivp (pc2 := 22) hC (by omega) (by omega) (by omega) (by omega) dX6_putSmall_21 rfl ?_
  refine x_ldc2 (pc2 := 25) (z := 1000000000) hC wt_257 rfl dX6_putSmall_22 rfl ?_
  refine x_lremp (pc2 := 26) hC (by omega) (by omega) (by omega) (by omega) dX6_putSmall_25 rfl ?_
  refine x_l2i (pc2 := 27) hC dX6_putSmall_26 rfl ?_
  refine x_iast (pc2 := 28) hC hK (by assumption) (by assumption) (by omega) (by decide) dX6_putSmall_27 rfl ?_
  refine x_aload_n (pc2 := 29) hC rfl rfl dX6_putSmall_28 rfl ?_
  refine x_iconst (pc2 := 30) hC dX6_putSmall_29 rfl ?_
  refine x_iconst (pc2 := 31) hC dX6_putSmall_30 rfl ?_
  refine x_cVv (pc2 := 34) (ci := 6) hC hK (m_trim l hw ⟨by decide, by decide⟩ (fun k h0 h1 => by rcases (show k = 0 ∨ k = 1 by omega) with rfl | rfl; rw [e0]; omega; rw [e1]; omega) (Or.inl rfl)) lk_258 rfl rfl (by decide) (by assumption) (by assumption) ⟨Nat.le_of_ble_eq_true rfl, Nat.le_of_ble_eq_true rfl⟩ ⟨Nat.le_refl _, Nat.le_refl _⟩ rfl (Nat.le_of_ble_eq_true rfl) dX6_putSmall_31 rfl ?_
  rintro F31 A31 ⟨rfl, q1, q2, q3⟩
  exact x_vret hC hr hlk ⟨rfl, q1, fun a ha => by rw [uA_ne ha, uA_ne ha], q2, by rw [q3, show (2 : Int).toNat = 2 from rfl, dv_two, e0, e1]; omega⟩ dX6_putSmall_34
theorem assign_fin {F : Nat → Nat → Int} {A : Nat → Int → Int} {w x : Nat} (h : w ≠ x) (hx : WOK F A x) : Q_set F A w (wv F A x) (uF (uF F w 1 (F x 1)) w 0 (F x 0)) (cpA A (x + 1) 0 (w + 1) 0 (F x 1)) := by
  have e1 : uF (uF F w 1 (F x 1)) w 0 (F x 0) w 1 = F x 1 := by rw [uF_nj (by decide), uF_eq]
  have e0 : uF (uF F w 1 (F x 1)) w 0 (F x 0) w 0 = F x 0 := uF_eq
  have ea : ∀ k : Int, 0 ≤ k → k < F x 1 → cpA A (x + 1) 0 (w + 1) 0 (F x 1) (w + 1) k = A (x + 1) k := fun k h0 h1 => by rw [cpA_in (by omega)]; congr 1; omega
  obtain ⟨s1, s2, s3, s4, s5⟩ := hx
  refine ⟨fun o ho => by rw [uF_ne ho, uF_ne ho], fun a ha => cpA_ne ha, ?_, ?_⟩
  · unfold WOK
    rw [e1, e0]
    exact ⟨s1, s2, fun k h0 h1 => by rw [ea k h0 h1]; exact s3 k h0 h1, fun q => by rw [ea _ (by omega) (by omega)]; exact s4 q, s5⟩
  · unfold wv wm
    rw [e1, e0, dv_congr (g := A (x + 1)) (fun k h0 h1 => ea k h0 (by omega))]
theorem dX6_assign_0 : decode cX6_assign 0 = .ok (.aload_n 1, 1) := by decide +kernel
theorem dX6_assign_1 : decode cX6_assign 1 = .ok (.aload_n 0, 1) := by decide +kernel
theorem dX6_assign_2 : decode cX6_assign 2 = .ok (.if_acmp .eq 36, 3) := by decide +kernel
theorem dX6_assign_5 : decode cX6_assign 5 = .ok (.aload_n 1, 1) := by decide +kernel
theorem dX6_assign_6 : decode cX6_assign 6 = .ok (.getfield 9, 3) := by decide +kernel
theorem dX6_assign_9 : decode cX6_assign 9 = .ok (.iconst 0, 1) := by decide +kernel
theorem dX6_assign_10 : decode cX6_assign 10 = .ok (.aload_n 0, 1) := by decide +kernel
theorem dX6_assign_11 : decode cX6_assign 11 = .ok (.getfield 9, 3) := by decide +kernel
theorem dX6_assign_14 : decode cX6_assign 14 = .ok (.iconst 0, 1) := by decide +kernel
theorem dX6_assign_15 : decode cX6_assign 15 = .ok (.aload_n 1, 1) := by decide +kernel
theorem dX6_assign_16 : decode cX6_assign 16 = .ok (.getfield 19, 3) := by decide +kernel
theorem dX6_assign_19 : decode cX6_assign 19 = .ok (.invokestatic 34, 3) := by decide +kernel
theorem dX6_assign_22 : decode cX6_assign 22 = .ok (.aload_n 0, 1) := by decide +kernel
theorem dX6_assign_23 : decode cX6_assign 23 = .ok (.aload_n 1, 1) := by decide +kernel
theorem dX6_assign_24 : decode cX6_assign 24 = .ok (.getfield 19, 3) := by decide +kernel
theorem dX6_assign_27 : decode cX6_assign 27 = .ok (.putfield 19, 3) := by decide +kernel
theorem dX6_assign_30 : decode cX6_assign 30 = .ok (.aload_n 0, 1) := by decide +kernel
theorem dX6_assign_31 : decode cX6_assign 31 = .ok (.aload_n 1, 1) := by decide +kernel
theorem dX6_assign_32 : decode cX6_assign 32 = .ok (.getfield 15, 3) := by decide +kernel
theorem dX6_assign_35 : decode cX6_assign 35 = .ok (.putfield 15, 3) := by decide +kernel
theorem dX6_assign_38 : decode cX6_assign 38 = .ok (.return_, 1) := by decide +kernel
set_option maxHeartbeats 4000000 in
theorem m_assign (l : Launch) {D : va_G} {ids : Nat → ClassId} {β : Nat} {sh : Nat → Nat × Nat} {N : Nat} {R : Nat → Nat → Option Nat} {F : Nat → Nat → Int} {A : Nat → Int → Int} {w x : Nat} (hw : isW sh R N w) (hx : isW sh R N x) (h0 : WOK F A x) : MetX l yX6_assign cX6_assign 2 none 1 26 D ids β sh N R F A [rf w, rf x] (pVr (Q_set F A w (wv F A x))) := by
  refine MetX.of (loc := [_, _]) (plainFor_of_name (by decide +kernel)) (Nat.le_of_ble_eq_true rfl) rfl ?_
  intro p e s m args below meth c hC hK hr hlk
  obtain ⟨hw1, hw2, hw3, hw4⟩ := id hw
  have hw0 : w < N := by omega
  obtain ⟨hx1, hx2, hx3, hx4⟩ := id hx
  have hx0 : x < N := by omega
  obtain ⟨s1, s2, s3, s4, s5⟩ := id h0
  refine x_aload_n (pc2 := 1) hC rfl rfl dX6_assign_0 rfl ?_
  refine x_aload_n (pc2 := 2) hC rfl rfl dX6_assign_1 rfl ?_
  refine x_acmp_eq (tgt := 38) (pc2 := 5) hC dX6_assign_2 rfl rfl (fun h_2 => ?_) (fun h_2 => ?_)
  · exact x_vret hC hr hlk (by first | (obtain rfl := Option.some.inj h_2; exact ⟨rfl, fun _ _ => rfl, fun _ _ => rfl, h0, rfl⟩) | exact ⟨rfl, assign_fin hne h0⟩) dX6_assign_38
  · refine x_aload_n (pc2 := 6) hC rfl rfl dX6_assign_5 rfl ?_
    refine g_142 (pc2 := 9) hC hK (by assumption) (by assumption) (by assumption) dX6_assign_6 rfl ?_
    refine x_iconst (pc2 := 10) hC dX6_assign_9 rfl ?_
    refine x_aload_n (pc2 := 11) hC rfl rfl dX6_assign_10 rfl ?_
    refine g_142 (pc2 := 14) hC hK (by assumption) (by assumption) (by assumption) dX6_assign_11 rfl ?_
    refine x_iconst (pc2 := 15) hC dX6_assign_14 rfl ?_
    refine x_aload_n (pc2 := 16) hC rfl rfl dX6_assign_15 rfl ?_
    refine g_140 (pc2 := 19) hC hK (by assumption) (by assumption) dX6_assign_16 rfl ?_
    refine x_copy (pc2 := 22) hC hK wt_515 (by assumption) (by assumption) (by assumption) (by assumption) ⟨by omega, by omega, by omega, by omega, by omega⟩ ⟨by decide, by decide⟩ ⟨Nat.le_of_ble_eq_true rfl, Nat.le_of_ble_eq_true rfl⟩ dX6_assign_19 rfl ?_
    refine x_aload_n (pc2 := 23) hC rfl rfl dX6_assign_22 rfl ?_
    refine x_aload_n (pc2 := 24) hC rfl rfl dX6_assign_23 rfl ?_
    refine g_140 (pc2 := 27) hC hK (by assumption) (by assumption) dX6_assign_24 rfl ?_
    refine p_140 (pc2 := 30) hC hK (by assumption) (by assumption) dX6_assign_27 rfl ?_
    refine x_aload_n (pc2 := 31) hC rfl rfl dX6_assign_30 rfl ?_
    refine x_aload_n (pc2 := 32) hC rfl rfl dX6_assign_31 rfl ?_
    refine g_136 (pc2 := 35) hC hK (by assumption) (by assumption) dX6_assign_32 rfl ?_
    have hne : w ≠ x := fun q => h_2 (by rw [q])
    rw [uF_ne (Ne.symm hne)]
    refine p_136 (pc2 := 38) hC hK (by assumption) (by assumption) dX6_assign_35 rfl ?_
    exact x_vret hC hr hlk (by first | (obtain rfl := Option.some.inj h_2; exact ⟨rfl, fun _ _ => rfl, fun _ _ => rfl, h0, rfl⟩) | exact ⟨rfl, assign_fin hne h0⟩) dX6_assign_38
