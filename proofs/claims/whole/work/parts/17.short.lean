def Q_ms (F : Nat → Nat → Int) (A : Nat → Int → Int) (w : Nat) (n v : Int) : (Nat → Nat → Int) → (Nat → Int → Int) → Prop := fun F' A' => F' = F ∧ (∀ a, a ≠ w + 1 → A' a = A a) ∧ (∀ j, n ≤ j → A' (w + 1) j = A (w + 1) j) ∧ dig 1000000000 (A' (w + 1)) n ∧ dv 1000000000 (A' (w + 1)) n.toNat = v
theorem dX6_multiplyShort_0 : decode cX6_multiplyShort 0 = .ok (.lconst 0, 1) := by decide +kernel
theorem dX6_multiplyShort_1 : decode cX6_multiplyShort 1 = .ok (.lstore_n 3, 1) := by decide +kernel
theorem dX6_multiplyShort_2 : decode cX6_multiplyShort 2 = .ok (.iconst 0, 1) := by decide +kernel
theorem dX6_multiplyShort_3 : decode cX6_multiplyShort 3 = .ok (.istore 5, 2) := by decide +kernel
theorem dX6_multiplyShort_5 : decode cX6_multiplyShort 5 = .ok (.iload 5, 2) := by decide +kernel
theorem dX6_multiplyShort_7 : decode cX6_multiplyShort 7 = .ok (.iload_n 2, 1) := by decide +kernel
theorem dX6_multiplyShort_8 : decode cX6_multiplyShort 8 = .ok (.if_icmp .ge 47, 3) := by decide +kernel
theorem dX6_multiplyShort_11 : decode cX6_multiplyShort 11 = .ok (.iload_n 1, 1) := by decide +kernel
theorem dX6_multiplyShort_12 : decode cX6_multiplyShort 12 = .ok (.i2l, 1) := by decide +kernel
theorem dX6_multiplyShort_13 : decode cX6_multiplyShort 13 = .ok (.aload_n 0, 1) := by decide +kernel
theorem dX6_multiplyShort_14 : decode cX6_multiplyShort 14 = .ok (.getfield 9, 3) := by decide +kernel
theorem dX6_multiplyShort_17 : decode cX6_multiplyShort 17 = .ok (.iload 5, 2) := by decide +kernel
theorem dX6_multiplyShort_19 : decode cX6_multiplyShort 19 = .ok (.iaload, 1) := by decide +kernel
theorem dX6_multiplyShort_20 : decode cX6_multiplyShort 20 = .ok (.i2l, 1) := by decide +kernel
theorem dX6_multiplyShort_21 : decode cX6_multiplyShort 21 = .ok (.lmul, 1) := by decide +kernel
theorem dX6_multiplyShort_22 : decode cX6_multiplyShort 22 = .ok (.lload_n 3, 1) := by decide +kernel
theorem dX6_multiplyShort_23 : decode cX6_multiplyShort 23 = .ok (.ladd, 1) := by decide +kernel
theorem dX6_multiplyShort_24 : decode cX6_multiplyShort 24 = .ok (.lstore 6, 2) := by decide +kernel
theorem dX6_multiplyShort_26 : decode cX6_multiplyShort 26 = .ok (.lload 6, 2) := by decide +kernel
theorem dX6_multiplyShort_28 : decode cX6_multiplyShort 28 = .ok (.ldc2_w 22, 3) := by decide +kernel
theorem dX6_multiplyShort_31 : decode cX6_multiplyShort 31 = .ok (.ldiv, 1) := by decide +kernel
theorem dX6_multiplyShort_32 : decode cX6_multiplyShort 32 = .ok (.lstore_n 3, 1) := by decide +kernel
theorem dX6_multiplyShort_33 : decode cX6_multiplyShort 33 = .ok (.aload_n 0, 1) := by decide +kernel
theorem dX6_multiplyShort_34 : decode cX6_multiplyShort 34 = .ok (.getfield 9, 3) := by decide +kernel
theorem dX6_multiplyShort_37 : decode cX6_multiplyShort 37 = .ok (.iload 5, 2) := by decide +kernel
theorem dX6_multiplyShort_39 : decode cX6_multiplyShort 39 = .ok (.lload 6, 2) := by decide +kernel
theorem dX6_multiplyShort_41 : decode cX6_multiplyShort 41 = .ok (.lload_n 3, 1) := by decide +kernel
theorem dX6_multiplyShort_42 : decode cX6_multiplyShort 42 = .ok (.ldc2_w 22, 3) := by decide +kernel
theorem dX6_multiplyShort_45 : decode cX6_multiplyShort 45 = .ok (.lmul, 1) := by decide +kernel
theorem dX6_multiplyShort_46 : decode cX6_multiplyShort 46 = .ok (.lsub, 1) := by decide +kernel
theorem dX6_multiplyShort_47 : decode cX6_multiplyShort 47 = .ok (.l2i, 1) := by decide +kernel
theorem dX6_multiplyShort_48 : decode cX6_multiplyShort 48 = .ok (.iastore, 1) := by decide +kernel
theorem dX6_multiplyShort_49 : decode cX6_multiplyShort 49 = .ok (.iinc 5 1, 3) := by decide +kernel
theorem dX6_multiplyShort_52 : decode cX6_multiplyShort 52 = .ok (.goto (-47), 3) := by decide +kernel
theorem dX6_multiplyShort_55 : decode cX6_multiplyShort 55 = .ok (.return_, 1) := by decide +kernel
set_option maxHeartbeats 4000000 in
theorem m_multiplyShort (l : Launch) {D : va_G} {ids : Nat → ClassId} {β : Nat} {sh : Nat → Nat × Nat} {N : Nat} {R : Nat → Nat → Option Nat} {F : Nat → Nat → Int} {A : Nat → Int → Int} {w : Nat} {f len : Int} (hw : isW sh R N w) (hf : 0 ≤ f ∧ f ≤ 1000000000) (hlen : 0 ≤ len ∧ len ≤ 80) (hd0 : dig 1000000000 (A (w + 1)) len) (hb : f * dv 1000000000 (A (w + 1)) len.toNat < 1000000000 ^ len.toNat) : MetX l yX6_multiplyShort cX6_multiplyShort 8 none 0 0 D ids β sh N R F A [rf w, pI f, pI len] (pVr (Q_ms F A w len (f * dv 1000000000 (A (w + 1)) len.toNat))) := by
  refine MetX.of (loc := [_, _, _, _, _, _, _, _]) (plainFor_of_name (by decide +kernel)) (Nat.le_of_ble_eq_true rfl) rfl ?_
  intro p e s m args below meth c hC hK hr hlk
  obtain ⟨hw1, hw2, hw3, hw4⟩ := id hw
  have hw0 : w < N := by omega
  have loop : ∀ (n k : Nat) (c0 : Int) (A1 : Nat → Int → Int), (len - k).toNat < n → (k : Int) ≤ len → (∀ a, a ≠ w + 1 → A1 a = A a) → (∀ j : Int, k ≤ j → A1 (w + 1) j = A (w + 1) j) → dig 1000000000 (A1 (w + 1)) k → 0 ≤ c0 → c0 ≤ 1000000000 → dv 1000000000 (A1 (w + 1)) k + c0 * 1000000000 ^ k = f * dv 1000000000 (A (w + 1)) k → X p l e { frames := 0, cells := 0, slots := 0, locals := 0 } s m args below meth c (MQ below (QX D ids β sh N R (pVr (Q_ms F A w len (f * dv 1000000000 (A (w + 1)) len.toNat)))) args s 0 0 (inG β N)) (inG β N) D ids β sh 8 0 0 N R F A1 [some (rf w), some (pI f), some (pI len), some (pL (c0)), none, some (pI (k)), none, none] [] 5 := by
    intro n
    induction n with
    | zero => intro k c0 A1 hn; omega
    | succ n ih =>
      intro k c0 A1 hn hk hA hB hd hc0 hc1 hv
      have ek := hB k (by omega)
      have rg : (k : Int) < len → (0 ≤ A1 (w + 1) k ∧ A1 (w + 1) k < 1000000000) ∧ 0 ≤ f * A1 (w + 1) k ∧ f * A1 (w + 1) k ≤ 1000000000 * 999999999 := fun q => by
        have r := hd0 k (by omega) q
        rw [ek]
        exact ⟨r, mul_rng hf.1 hf.2 r.1 (by omega)⟩
      refine x_iload (pc2 := 7) hC rfl dX6_multiplyShort_5 rfl ?_
      refine x_iload_n (pc2 := 8) hC rfl rfl dX6_multiplyShort_7 rfl ?_
      refine x_icmp_ge (tgt := 55) (pc2 := 11) hC (by omega) (by omega) dX6_multiplyShort_8 rfl rfl (fun h_8 => ?_) (fun h_8 => ?_)
      · exact x_vret hC hr hlk ⟨rfl, rfl, hA, fun j hj => hB j (by omega), fun j a b => hd j a (by omega), by
                have ek : len.toNat = k := by omega
                rw [ek] at hb ⊢
                exact mix_end (pow_pos' (by decide) k) hv (dv_nonneg (by decide) (fun j a b => (hd j a b).1)) (dv_lt (by decide) hd) (by rw [← hv]; have := dv_nonneg (B := 1000000000) (by decide) (fun j a b => (hd j a b).1); have := Int.mul_nonneg hc0 (Int.le_of_lt (pow_pos' (B := 1000000000) (by decide) k)); omega) hb⟩ dX6_multiplyShort_55
      · have rg2 := rg h_8
        refine x_iload_n (pc2 := 12) hC rfl rfl dX6_multiplyShort_11 rfl ?_
        refine x_i2l (pc2 := 13) hC (by omega) dX6_multiplyShort_12 rfl ?_
        refine x_aload_n (pc2 := 14) hC rfl rfl dX6_multiplyShort_13 rfl ?_
        refine g_142 (pc2 := 17) hC hK (by assumption) (by assumption) (by assumption) dX6_multiplyShort_14 rfl ?_
        refine x_iload (pc2 := 19) hC rfl dX6_multiplyShort_17 rfl ?_
        refine x_iald (pc2 := 20) hC hK (by assumption) (by assumption) ⟨by omega, by omega⟩ (by decide) dX6_multiplyShort_19 rfl ?_
        refine x_i2l (pc2 := 21) hC (by omega) dX6_multiplyShort_20 rfl ?_
        refine x_lmul (pc2 := 22) hC dX6_multiplyShort_21 rfl ?_
        refine x_lload_n (pc2 := 23) hC rfl rfl dX6_multiplyShort_22 rfl ?_
        refine x_ladd (pc2 := 24) hC dX6_multiplyShort_23 rfl ?_
        refine x_lstore (pc2 := 26) (loc2 := [_, _, _, _, _, _, _, _]) hC (by decide) rfl dX6_multiplyShort_24 rfl ?_
        refine x_lload (pc2 := 28) hC rfl dX6_multiplyShort_26 rfl ?_
        refine x_ldc2 (pc2 := 31) (z := 1000000000) hC wt_257 rfl dX6_multiplyShort_28 rfl ?_
        refine x_ldivp (pc2 := 32) hC (by omega) (by omega) (by omega) (by omega) dX6_multiplyShort_31 rfl ?_
        refine x_lstore_n (pc2 := 33) (loc2 := [_, _, _, _, _, _, _, _]) hC rfl (by decide) rfl dX6_multiplyShort_32 rfl ?_
        refine x_aload_n (pc2 := 34) hC rfl rfl dX6_multiplyShort_33 rfl ?_
        refine g_142 (pc2 := 37) hC hK (by assumption) (by assumption) (by assumption) dX6_multiplyShort_34 rfl ?_
        refine x_iload (pc2 := 39) hC rfl dX6_multiplyShort_37 rfl ?_
        refine x_lload (pc2 := 41) hC rfl dX6_multiplyShort_39 rfl ?_
        refine x_lload_n (pc2 := 42) hC rfl rfl dX6_multiplyShort_41 rfl ?_
        refine x_ldc2 (pc2 := 45) (z := 1000000000) hC wt_257 rfl dX6_multiplyShort_42 rfl ?_
        refine x_lmul (pc2 := 46) hC dX6_multiplyShort_45 rfl ?_
        refine x_lsub (pc2 := 47) hC dX6_multiplyShort_46 rfl ?_
        refine x_l2i (pc2 := 48) hC dX6_multiplyShort_47 rfl ?_
        refine x_iast (pc2 := 49) hC hK (by assumption) (by assumption) (by omega) (by decide) dX6_multiplyShort_48 rfl ?_
        refine x_iinc (pc2 := 52) (loc2 := [_, _, _, _, _, _, _, _]) hC (by decide) rfl rfl dX6_multiplyShort_49 rfl ?_
        refine x_goto (pc2 := 5) hC dX6_multiplyShort_52 rfl ?_
        refine x_less (loc2 := [some (rf w), some (pI f), some (pI len), some (pL (_)), none, some (pI ((k : Int) + 1)), none, none]) hC ⟨rfl, rfl, rfl, rfl, rfl, trivial⟩ ?_
        refine ih (k + 1) _ _ (by omega) (by omega) (fun a ha => by rw [uA_ne ha]; exact hA a ha) (fun j hj => by rw [uA_ni (by omega)]; exact hB j (by omega)) (fun j a b => ?_) (by omega) (by omega) ?_
        · rw [uA_at]
          by_cases e : j = k
          · rw [if_pos e]; omega
          · rw [if_neg e]; exact hd j a (by omega)
        · rw [dv_uA, Int.pow_succ, Int.add_comm (f * A1 (w + 1) k) c0, mix_step hv, ek]
          simp only [dv]
          generalize 1000000000 ^ k = P
          grind
  refine x_lconst0 (pc2 := 1) hC dX6_multiplyShort_0 rfl ?_
  refine x_lstore_n (pc2 := 2) (loc2 := [_, _, _, _, _, _, _, _]) hC rfl (by decide) rfl dX6_multiplyShort_1 rfl ?_
  refine x_iconst (pc2 := 3) hC dX6_multiplyShort_2 rfl ?_
  refine x_istore (pc2 := 5) (loc2 := [_, _, _, _, _, _, _, _]) hC (by decide) rfl dX6_multiplyShort_3 rfl ?_
  exact loop (len.toNat + 1) 0 0 A (by omega) (by omega) (fun _ _ => rfl) (fun _ _ => rfl) (fun j a b => by omega) (by omega) (by omega) (by simp [dv])
theorem dv_shift {B : Int} {f : Int → Int} (i m : Nat) : dv B (fun j => f (i + j)) (m + 1) = f i + B * dv B (fun j => f ((i + 1 : Nat) + j)) m := by
  have h := dv_split (B := B) (f := fun j => f (i + j)) 1 m
  rw [Nat.add_comm 1 m] at h
  rw [h]
  simp only [dv]
  rw [dv_congr (f := fun k : Int => f (i + ((1 : Nat) + k))) (g := fun j => f ((i + 1 : Nat) + j)) (fun j _ _ => by show f _ = f _; congr 1; omega)]
  simp [Int.pow_succ]
def Q_ds (F : Nat → Nat → Int) (A : Nat → Int → Int) (w : Nat) (b : Int) : Int → (Nat → Nat → Int) → (Nat → Int → Int) → Prop := fun z F' A' => z = wm F A w % b ∧ Q_set F A w (F w 0 * (wm F A w / b)) F' A'
theorem ds_step {B q b H Q l a : Int} (h : H = b * Q + l) (e : q = (l * B + a) / b) : a + B * H = b * (q + B * Q) + (l * B + a) % b := by
  have := Int.mul_ediv_add_emod (l * B + a) b
  rw [← e] at this
  grind
theorem div_dig {l b a : Int} (h0 : 0 ≤ l) (h1 : l < b) (h2 : 0 ≤ a) (h3 : a < 1000000000) : 0 ≤ (l * 1000000000 + a) / b ∧ (l * 1000000000 + a) / b < 1000000000 := by
  refine ⟨Int.ediv_nonneg (by omega) (by omega), Int.ediv_lt_of_lt_mul (by omega) ?_⟩
  have : (l + 1) * 1000000000 ≤ b * 1000000000 := Int.mul_le_mul_of_nonneg_right (by omega) (by omega)
  rw [Int.mul_comm 1000000000 b]
  omega
theorem dX6_divideShort_0 : decode cX6_divideShort 0 = .ok (.lconst 0, 1) := by decide +kernel
theorem dX6_divideShort_1 : decode cX6_divideShort 1 = .ok (.lstore_n 2, 1) := by decide +kernel
theorem dX6_divideShort_2 : decode cX6_divideShort 2 = .ok (.iload_n 1, 1) := by decide +kernel
theorem dX6_divideShort_3 : decode cX6_divideShort 3 = .ok (.ifCond .le 69, 3) := by decide +kernel
theorem dX6_divideShort_6 : decode cX6_divideShort 6 = .ok (.aload_n 0, 1) := by decide +kernel
theorem dX6_divideShort_7 : decode cX6_divideShort 7 = .ok (.getfield 19, 3) := by decide +kernel
theorem dX6_divideShort_10 : decode cX6_divideShort 10 = .ok (.iconst 1, 1) := by decide +kernel
theorem dX6_divideShort_11 : decode cX6_divideShort 11 = .ok (.isub, 1) := by decide +kernel
theorem dX6_divideShort_12 : decode cX6_divideShort 12 = .ok (.istore 4, 2) := by decide +kernel
theorem dX6_divideShort_14 : decode cX6_divideShort 14 = .ok (.iload 4, 2) := by decide +kernel
theorem dX6_divideShort_16 : decode cX6_divideShort 16 = .ok (.ifCond .lt 44, 3) := by decide +kernel
theorem dX6_divideShort_19 : decode cX6_divideShort 19 = .ok (.lload_n 2, 1) := by decide +kernel
theorem dX6_divideShort_20 : decode cX6_divideShort 20 = .ok (.ldc2_w 22, 3) := by decide +kernel
theorem dX6_divideShort_23 : decode cX6_divideShort 23 = .ok (.lmul, 1) := by decide +kernel
theorem dX6_divideShort_24 : decode cX6_divideShort 24 = .ok (.aload_n 0, 1) := by decide +kernel
theorem dX6_divideShort_25 : decode cX6_divideShort 25 = .ok (.getfield 9, 3) := by decide +kernel
theorem dX6_divideShort_28 : decode cX6_divideShort 28 = .ok (.iload 4, 2) := by decide +kernel
theorem dX6_divideShort_30 : decode cX6_divideShort 30 = .ok (.iaload, 1) := by decide +kernel
theorem dX6_divideShort_31 : decode cX6_divideShort 31 = .ok (.i2l, 1) := by decide +kernel
theorem dX6_divideShort_32 : decode cX6_divideShort 32 = .ok (.ladd, 1) := by decide +kernel
theorem dX6_divideShort_33 : decode cX6_divideShort 33 = .ok (.lstore 5, 2) := by decide +kernel
theorem dX6_divideShort_35 : decode cX6_divideShort 35 = .ok (.aload_n 0, 1) := by decide +kernel
theorem dX6_divideShort_36 : decode cX6_divideShort 36 = .ok (.getfield 9, 3) := by decide +kernel
theorem dX6_divideShort_39 : decode cX6_divideShort 39 = .ok (.iload 4, 2) := by decide +kernel
theorem dX6_divideShort_41 : decode cX6_divideShort 41 = .ok (.lload 5, 2) := by decide +kernel
theorem dX6_divideShort_43 : decode cX6_divideShort 43 = .ok (.iload_n 1, 1) := by decide +kernel
theorem dX6_divideShort_44 : decode cX6_divideShort 44 = .ok (.i2l, 1) := by decide +kernel
theorem dX6_divideShort_45 : decode cX6_divideShort 45 = .ok (.ldiv, 1) := by decide +kernel
theorem dX6_divideShort_46 : decode cX6_divideShort 46 = .ok (.l2i, 1) := by decide +kernel
theorem dX6_divideShort_47 : decode cX6_divideShort 47 = .ok (.iastore, 1) := by decide +kernel
theorem dX6_divideShort_48 : decode cX6_divideShort 48 = .ok (.lload 5, 2) := by decide +kernel
theorem dX6_divideShort_50 : decode cX6_divideShort 50 = .ok (.iload_n 1, 1) := by decide +kernel
theorem dX6_divideShort_51 : decode cX6_divideShort 51 = .ok (.i2l, 1) := by decide +kernel
theorem dX6_divideShort_52 : decode cX6_divideShort 52 = .ok (.lrem, 1) := by decide +kernel
theorem dX6_divideShort_53 : decode cX6_divideShort 53 = .ok (.lstore_n 2, 1) := by decide +kernel
theorem dX6_divideShort_54 : decode cX6_divideShort 54 = .ok (.iinc 4 (-1), 3) := by decide +kernel
theorem dX6_divideShort_57 : decode cX6_divideShort 57 = .ok (.goto (-43), 3) := by decide +kernel
theorem dX6_divideShort_60 : decode cX6_divideShort 60 = .ok (.aload_n 0, 1) := by decide +kernel
theorem dX6_divideShort_61 : decode cX6_divideShort 61 = .ok (.aload_n 0, 1) := by decide +kernel
theorem dX6_divideShort_62 : decode cX6_divideShort 62 = .ok (.getfield 19, 3) := by decide +kernel
theorem dX6_divideShort_65 : decode cX6_divideShort 65 = .ok (.aload_n 0, 1) := by decide +kernel
theorem dX6_divideShort_66 : decode cX6_divideShort 66 = .ok (.getfield 15, 3) := by decide +kernel
theorem dX6_divideShort_69 : decode cX6_divideShort 69 = .ok (.invokevirtual 24, 3) := by decide +kernel
theorem dX6_divideShort_72 : decode cX6_divideShort 72 = .ok (.lload_n 2, 1) := by decide +kernel
theorem dX6_divideShort_73 : decode cX6_divideShort 73 = .ok (.lreturn, 1) := by decide +kernel
set_option maxHeartbeats 4000000 in
theorem m_divideShort (l : Launch) {D : va_G} {ids : Nat → ClassId} {β : Nat} {sh : Nat → Nat × Nat} {N : Nat} {R : Nat → Nat → Option Nat} {F : Nat → Nat → Int} {A : Nat → Int → Int} {w : Nat} {b : Int} (hw : isW sh R N w) (h0 : WOK F A w) (hb : 0 < b ∧ b < 1000000000) : MetX l yX6_divideShort cX6_divideShort 7 (some (.long)) 1 23 D ids β sh N R F A [rf w, pI b] (pLr (Q_ds F A w b)) := by
  refine MetX.of (loc := [_, _, _, _, _, _, _]) (plainFor_of_name (by decide +kernel)) (Nat.le_of_ble_eq_true rfl) rfl ?_
  intro p e s m args below meth c hC hK hr hlk
  obtain ⟨hw1, hw2, hw3, hw4⟩ := id hw
  have hw0 : w < N := by omega
  obtain ⟨s1, s2, s3, s4, s5⟩ := id h0
  have loop : ∀ (n i : Nat) (c0 : Int) (A1 : Nat → Int → Int), i < n → (i : Int) ≤ F w 1 → (∀ a, a ≠ w + 1 → A1 a = A a) → (∀ j : Int, j < i → A1 (w + 1) j = A (w + 1) j) → (∀ j : Int, i ≤ j → j < F w 1 → 0 ≤ A1 (w + 1) j ∧ A1 (w + 1) j < 1000000000) → 0 ≤ c0 → c0 < b → dv 1000000000 (fun j => A (w + 1) (i + j)) ((F w 1).toNat - i) = b * dv 1000000000 (fun j => A1 (w + 1) (i + j)) ((F w 1).toNat - i) + c0 → X p l e { frames := 1, cells := 0, slots := 0, locals := 23 } s m args below meth c (MQ below (QX D ids β sh N R (pLr (Q_ds F A w b))) args s 0 0 (inG β N)) (inG β N) D ids β sh 7 0 0 N R F A1 [some (rf w), some (pI b), some (pL (c0)), none, some (pI ((i : Int) - 1)), none, none] [] 14 := by
    intro n
    induction n with
    | zero => intro i c0 A1 hn; omega
    | succ n ih =>
      intro i c0 A1 hn hk hA hB hd hc0 hc1 hv
      have rg : 0 ≤ (i : Int) - 1 → A1 (w + 1) ((i : Int) - 1) = A (w + 1) ((i : Int) - 1) ∧ 0 ≤ A1 (w + 1) ((i : Int) - 1) ∧ A1 (w + 1) ((i : Int) - 1) < 1000000000 := fun q => by
        have e := hB ((i : Int) - 1) (by omega)
        have r := s3 ((i : Int) - 1) (by omega) (by omega)
        rw [e]; exact ⟨rfl, r⟩
      refine x_iload (pc2 := 16) hC rfl dX6_divideShort_14 rfl ?_
      refine x_if_lt (tgt := 60) (pc2 := 19) hC (by omega) dX6_divideShort_16 rfl rfl (fun h_16 => ?_) (fun h_16 => ?_)
      · refine x_aload_n (pc2 := 61) hC rfl rfl dX6_divideShort_60 rfl ?_
        refine x_aload_n (pc2 := 62) hC rfl rfl dX6_divideShort_61 rfl ?_
        refine g_140 (pc2 := 65) hC hK (by assumption) (by assumption) dX6_divideShort_62 rfl ?_
        refine x_aload_n (pc2 := 66) hC rfl rfl dX6_divideShort_65 rfl ?_
        refine g_136 (pc2 := 69) hC hK (by assumption) (by assumption) dX6_divideShort_66 rfl ?_
        refine x_cVv (pc2 := 72) (ci := 6) hC hK (m_trim l hw ⟨by omega, by omega⟩ (fun j a c => hd j (by omega) c) (by rcases s5 with ⟨u1, u2⟩ | ⟨u1, u2 | u2⟩; exact Or.inr (Or.inr ⟨u2, fun j a c => by omega⟩); exact Or.inl u2; exact Or.inr (Or.inl u2))) lk_258 rfl rfl (by decide) (by assumption) (by assumption) ⟨Nat.le_of_ble_eq_true rfl, Nat.le_of_ble_eq_true rfl⟩ ⟨Nat.le_refl _, Nat.le_refl _⟩ rfl (Nat.le_of_ble_eq_true rfl) dX6_divideShort_69 rfl ?_
        have ez : i = 0 := by omega
        subst ez
        rw [Nat.sub_zero, dv_congr (f := fun j : Int => A (w + 1) ((0 : Nat) + j)) (g := A (w + 1)) (fun j _ _ => by show A _ _ = A _ _; congr 1; omega), dv_congr (f := fun j : Int => A1 (w + 1) ((0 : Nat) + j)) (g := A1 (w + 1)) (fun j _ _ => by show A1 _ _ = A1 _ _; congr 1; omega)] at hv
        have hv : wm F A w = b * dv 1000000000 (A1 (w + 1)) (F w 1).toNat + c0 := hv
        rintro F69 A69 ⟨e69, q1, q2, q3⟩
        obtain rfl := e69.symm
        refine x_lload_n (pc2 := 73) hC rfl rfl dX6_divideShort_72 rfl ?_
        exact x_lret hC hr hlk ⟨_, rfl, by rw [hv, Int.add_comm, Int.add_mul_emod_self_left, Int.emod_eq_of_lt hc0 hc1], q1, hA, q2, by
                rw [q3, hv, Int.add_comm, Int.add_mul_ediv_left _ _ (by omega), Int.ediv_eq_zero_of_lt hc0 hc1, Int.zero_add]⟩ dX6_divideShort_73
      · obtain ⟨r1, r2, r3⟩ := rg h_16
        have dd := div_dig hc0 hc1 r2 r3
        have dr := Int.emod_lt_of_pos (c0 * 1000000000 + A1 (w + 1) ((i : Int) - 1)) hb.1
        have dr0 := Int.emod_nonneg (c0 * 1000000000 + A1 (w + 1) ((i : Int) - 1)) (show b ≠ 0 by omega)
        refine x_lload_n (pc2 := 20) hC rfl rfl dX6_divideShort_19 rfl ?_
        refine x_ldc2 (pc2 := 23) (z := 1000000000) hC wt_257 rfl dX6_divideShort_20 rfl ?_
        refine x_lmul (pc2 := 24) hC dX6_divideShort_23 rfl ?_
        refine x_aload_n (pc2 := 25) hC rfl rfl dX6_divideShort_24 rfl ?_
        refine g_142 (pc2 := 28) hC hK (by assumption) (by assumption) (by assumption) dX6_divideShort_25 rfl ?_
        refine x_iload (pc2 := 30) hC rfl dX6_divideShort_28 rfl ?_
        refine x_iald (pc2 := 31) hC hK (by assumption) (by assumption) ⟨by omega, by omega⟩ (by decide) dX6_divideShort_30 rfl ?_
        refine x_i2l (pc2 := 32) hC (by have := (rg h_16).2; omega) dX6_divideShort_31 rfl ?_
        refine x_ladd (pc2 := 33) hC dX6_divideShort_32 rfl ?_
        refine x_lstore (pc2 := 35) (loc2 := [_, _, _, _, _, _, _]) hC (by decide) rfl dX6_divideShort_33 rfl ?_
        refine x_aload_n (pc2 := 36) hC rfl rfl dX6_divideShort_35 rfl ?_
        refine g_142 (pc2 := 39) hC hK (by assumption) (by assumption) (by assumption) dX6_divideShort_36 rfl ?_
        refine x_iload (pc2 := 41) hC rfl dX6_divideShort_39 rfl ?_
        refine x_lload (pc2 := 43) hC rfl dX6_divideShort_41 rfl ?_
        refine x_iload_n (pc2 := 44) hC rfl rfl dX6_divideShort_43 rfl ?_
        refine x_i2l (pc2 := 45) hC (by omega) dX6_divideShort_44 rfl ?_
        refine x_ldivp (pc2 := 46) hC (by omega) (by omega) (by omega) (by omega) dX6_divideShort_45 rfl ?_
        refine x_l2i (pc2 := 47) hC dX6_divideShort_46 rfl ?_
        refine x_iast (pc2 := 48) hC hK (by assumption) (by assumption) (by omega) (by decide) dX6_divideShort_47 rfl ?_
        refine x_lload (pc2 := 50) hC rfl dX6_divideShort_48 rfl ?_
        refine x_iload_n (pc2 := 51) hC rfl rfl dX6_divideShort_50 rfl ?_
        refine x_i2l (pc2 := 52) hC (by omega) dX6_divideShort_51 rfl ?_
        refine x_lremp (pc2 := 53) hC (by omega) (by omega) (by omega) (by omega) dX6_divideShort_52 rfl ?_
        refine x_lstore_n (pc2 := 54) (loc2 := [_, _, _, _, _, _, _]) hC rfl (by decide) rfl dX6_divideShort_53 rfl ?_
        refine x_iinc (pc2 := 57) (loc2 := [_, _, _, _, _, _, _]) hC (by decide) rfl rfl dX6_divideShort_54 rfl ?_
        refine x_goto (pc2 := 14) hC dX6_divideShort_57 rfl ?_
        obtain ⟨i', rfl⟩ : ∃ i' : Nat, i = i' + 1 := ⟨i - 1, by omega⟩
        have ei : ((i' + 1 : Nat) : Int) - 1 = i' := by omega
        rw [ei] at r1 r2 r3 dd dr dr0
        rw [ei]
        refine x_less (loc2 := [some (rf w), some (pI b), some (pL (_)), none, some (pI (_)), none, none]) hC ⟨rfl, rfl, rfl, rfl, trivial⟩ ?_
        refine ih i' _ _ (by omega) (by omega) (fun a ha => by rw [uA_ne ha]; exact hA a ha) (fun j hj => by rw [uA_ni (by omega)]; exact hB j (by omega)) (fun j a b => ?_) dr0 dr ?_
        · rw [uA_at]
          by_cases e : j = i'
          · rw [if_pos e]; exact dd
          · rw [if_neg e]; exact hd j (by omega) b
        · rw [show (F w 1).toNat - i' = ((F w 1).toNat - (i' + 1)) + 1 by omega, dv_shift, dv_shift, uA_eq]
          rw [dv_congr (f := fun j : Int => uA A1 (w + 1) (i' : Int) ((c0 * 1000000000 + A1 (w + 1) (i' : Int)) / b) (w + 1) ((i' + 1 : Nat) + j)) (g := fun j => A1 (w + 1) ((i' + 1 : Nat) + j)) (fun j a b => by show uA _ _ _ _ _ _ = _; rw [uA_ni (by omega)])]
          rw [ds_step hv rfl, r1]
  refine x_lconst0 (pc2 := 1) hC dX6_divideShort_0 rfl ?_
  refine x_lstore_n (pc2 := 2) (loc2 := [_, _, _, _, _, _, _]) hC rfl (by decide) rfl dX6_divideShort_1 rfl ?_
  refine x_iload_n (pc2 := 3) hC rfl rfl dX6_divideShort_2 rfl ?_
  refine x_if_le (tgt := 72) (pc2 := 6) hC (by omega) dX6_divideShort_3 rfl rfl (fun h_3 => ?_) (fun h_3 => ?_)
  · exfalso; omega
  · refine x_aload_n (pc2 := 7) hC rfl rfl dX6_divideShort_6 rfl ?_
    refine g_140 (pc2 := 10) hC hK (by assumption) (by assumption) dX6_divideShort_7 rfl ?_
    refine x_iconst (pc2 := 11) hC dX6_divideShort_10 rfl ?_
    refine x_isub (pc2 := 12) hC dX6_divideShort_11 rfl ?_
    refine x_istore (pc2 := 14) (loc2 := [_, _, _, _, _, _, _]) hC (by decide) rfl dX6_divideShort_12 rfl ?_
    have q := loop ((F w 1).toNat + 1) (F w 1).toNat 0 A (by omega) (by omega) (fun _ _ => rfl) (fun _ _ => rfl) (fun j a c => by omega) (by omega) (by omega) (by rw [Nat.sub_self]; simp [dv])
    rw [Int.toNat_of_nonneg s1] at q
    exact q
