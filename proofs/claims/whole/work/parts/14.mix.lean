def Q_mix (F : Nat → Nat → Int) (A : Nat → Int → Int) (w : Nat) (most t : Int) : (Nat → Nat → Int) → (Nat → Int → Int) → Prop := fun F' A' => F' = F ∧ (∀ a, a ≠ w + 1 → A' a = A a) ∧ dig 1000000000 (A' (w + 1)) most ∧ dv 1000000000 (A' (w + 1)) most.toNat = t
/-- the factors of mix: no limb's worth is greater than a square -/
def mixT (xT yT : Int) : Prop := ∀ a b : Int, 0 ≤ a → a < 1000000000 → 0 ≤ b → b < 1000000000 → -999999998000000001 ≤ xT * a + yT * b ∧ xT * a + yT * b ≤ 999999998000000001
theorem mixT_one : mixT 1 1 := fun a b _ _ _ _ => by omega
theorem mixT_sub : mixT 1 (-1) := fun a b _ _ _ _ => by omega
theorem mixT_pn {x y : Int} (h0 : 0 ≤ x) (h1 : x < 1000000000) (h2 : y ≤ 0) (h3 : -1000000000 < y) : mixT x y := fun a b a0 a1 b0 b1 => by
  have p := mul_rng h0 (show x ≤ 999999999 by omega) a0 (show a ≤ 999999999 by omega)
  have q := mul_rng (show 0 ≤ -y by omega) (show -y ≤ 999999999 by omega) b0 (show b ≤ 999999999 by omega)
  rw [Int.neg_mul] at q
  omega
theorem mixT_np {x y : Int} (h0 : 0 ≤ y) (h1 : y < 1000000000) (h2 : x ≤ 0) (h3 : -1000000000 < x) : mixT x y := fun a b a0 a1 b0 b1 => by
  have p := mul_rng h0 (show y ≤ 999999999 by omega) b0 (show b ≤ 999999999 by omega)
  have q := mul_rng (show 0 ≤ -x by omega) (show -x ≤ 999999999 by omega) a0 (show a ≤ 999999999 by omega)
  rw [Int.neg_mul] at q
  omega
theorem dv_uA {B : Int} {A : Nat → Int → Int} {a k : Nat} {v : Int} : dv B (uA A a k v a) (k + 1) = dv B (A a) k + v * B ^ k := by
  simp only [dv]
  rw [uA_eq, dv_congr (g := A a) (fun j h0 h1 => by rw [uA_ni (by omega)])]
theorem mix_step {B c v q d s P : Int} (h : d + c * P = s) : d + (c + v - q * B) * P + q * (P * B) = s + v * P := by grind
theorem mix_end {c d t P : Int} (hP : 0 < P) (h : d + c * P = t) (h0 : 0 ≤ d) (h1 : d < P) (h2 : 0 ≤ t) (h3 : t < P) : d = t := by
  have hc : c = 0 := by
    rcases Int.lt_trichotomy c 0 with q | q | q
    · have := Int.mul_le_mul_of_nonneg_right (show c ≤ -1 by omega) (Int.le_of_lt hP); omega
    · exact q
    · have := Int.mul_le_mul_of_nonneg_right (show 1 ≤ c by omega) (Int.le_of_lt hP); omega
  subst hc; omega
theorem dX6_mix_0 : decode cX6_mix 0 = .ok (.iload 7, 2) := by decide +kernel
theorem dX6_mix_2 : decode cX6_mix 2 = .ok (.bipush 80, 2) := by decide +kernel
theorem dX6_mix_4 : decode cX6_mix 4 = .ok (.invokestatic 50, 3) := by decide +kernel
theorem dX6_mix_7 : decode cX6_mix 7 = .ok (.istore 8, 2) := by decide +kernel
theorem dX6_mix_9 : decode cX6_mix 9 = .ok (.aload_n 1, 1) := by decide +kernel
theorem dX6_mix_10 : decode cX6_mix 10 = .ok (.getfield 19, 3) := by decide +kernel
theorem dX6_mix_13 : decode cX6_mix 13 = .ok (.istore 9, 2) := by decide +kernel
theorem dX6_mix_15 : decode cX6_mix 15 = .ok (.aload 4, 2) := by decide +kernel
theorem dX6_mix_17 : decode cX6_mix 17 = .ok (.getfield 19, 3) := by decide +kernel
theorem dX6_mix_20 : decode cX6_mix 20 = .ok (.istore 10, 2) := by decide +kernel
theorem dX6_mix_22 : decode cX6_mix 22 = .ok (.lconst 0, 1) := by decide +kernel
theorem dX6_mix_23 : decode cX6_mix 23 = .ok (.lstore 11, 2) := by decide +kernel
theorem dX6_mix_25 : decode cX6_mix 25 = .ok (.iconst 0, 1) := by decide +kernel
theorem dX6_mix_26 : decode cX6_mix 26 = .ok (.istore 13, 2) := by decide +kernel
theorem dX6_mix_28 : decode cX6_mix 28 = .ok (.iload 13, 2) := by decide +kernel
theorem dX6_mix_30 : decode cX6_mix 30 = .ok (.iload 8, 2) := by decide +kernel
theorem dX6_mix_32 : decode cX6_mix 32 = .ok (.if_icmp .ge 86, 3) := by decide +kernel
theorem dX6_mix_35 : decode cX6_mix 35 = .ok (.lload 11, 2) := by decide +kernel
theorem dX6_mix_37 : decode cX6_mix 37 = .ok (.lstore 14, 2) := by decide +kernel
theorem dX6_mix_39 : decode cX6_mix 39 = .ok (.iload 13, 2) := by decide +kernel
theorem dX6_mix_41 : decode cX6_mix 41 = .ok (.iload 9, 2) := by decide +kernel
theorem dX6_mix_43 : decode cX6_mix 43 = .ok (.if_icmp .ge 18, 3) := by decide +kernel
theorem dX6_mix_46 : decode cX6_mix 46 = .ok (.lload 14, 2) := by decide +kernel
theorem dX6_mix_48 : decode cX6_mix 48 = .ok (.lload_n 2, 1) := by decide +kernel
theorem dX6_mix_49 : decode cX6_mix 49 = .ok (.aload_n 1, 1) := by decide +kernel
theorem dX6_mix_50 : decode cX6_mix 50 = .ok (.getfield 9, 3) := by decide +kernel
theorem dX6_mix_53 : decode cX6_mix 53 = .ok (.iload 13, 2) := by decide +kernel
theorem dX6_mix_55 : decode cX6_mix 55 = .ok (.iaload, 1) := by decide +kernel
theorem dX6_mix_56 : decode cX6_mix 56 = .ok (.i2l, 1) := by decide +kernel
theorem dX6_mix_57 : decode cX6_mix 57 = .ok (.lmul, 1) := by decide +kernel
theorem dX6_mix_58 : decode cX6_mix 58 = .ok (.ladd, 1) := by decide +kernel
theorem dX6_mix_59 : decode cX6_mix 59 = .ok (.lstore 14, 2) := by decide +kernel
theorem dX6_mix_61 : decode cX6_mix 61 = .ok (.iload 13, 2) := by decide +kernel
theorem dX6_mix_63 : decode cX6_mix 63 = .ok (.iload 10, 2) := by decide +kernel
theorem dX6_mix_65 : decode cX6_mix 65 = .ok (.if_icmp .ge 20, 3) := by decide +kernel
theorem dX6_mix_68 : decode cX6_mix 68 = .ok (.lload 14, 2) := by decide +kernel
theorem dX6_mix_70 : decode cX6_mix 70 = .ok (.lload 5, 2) := by decide +kernel
theorem dX6_mix_72 : decode cX6_mix 72 = .ok (.aload 4, 2) := by decide +kernel
theorem dX6_mix_74 : decode cX6_mix 74 = .ok (.getfield 9, 3) := by decide +kernel
theorem dX6_mix_77 : decode cX6_mix 77 = .ok (.iload 13, 2) := by decide +kernel
theorem dX6_mix_79 : decode cX6_mix 79 = .ok (.iaload, 1) := by decide +kernel
theorem dX6_mix_80 : decode cX6_mix 80 = .ok (.i2l, 1) := by decide +kernel
theorem dX6_mix_81 : decode cX6_mix 81 = .ok (.lmul, 1) := by decide +kernel
theorem dX6_mix_82 : decode cX6_mix 82 = .ok (.ladd, 1) := by decide +kernel
theorem dX6_mix_83 : decode cX6_mix 83 = .ok (.lstore 14, 2) := by decide +kernel
theorem dX6_mix_85 : decode cX6_mix 85 = .ok (.lload 14, 2) := by decide +kernel
theorem dX6_mix_87 : decode cX6_mix 87 = .ok (.ldc2_w 22, 3) := by decide +kernel
theorem dX6_mix_90 : decode cX6_mix 90 = .ok (.invokestatic 71, 3) := by decide +kernel
theorem dX6_mix_93 : decode cX6_mix 93 = .ok (.lstore 11, 2) := by decide +kernel
theorem dX6_mix_95 : decode cX6_mix 95 = .ok (.aload_n 0, 1) := by decide +kernel
theorem dX6_mix_96 : decode cX6_mix 96 = .ok (.getfield 9, 3) := by decide +kernel
theorem dX6_mix_99 : decode cX6_mix 99 = .ok (.iload 13, 2) := by decide +kernel
theorem dX6_mix_101 : decode cX6_mix 101 = .ok (.lload 14, 2) := by decide +kernel
theorem dX6_mix_103 : decode cX6_mix 103 = .ok (.lload 11, 2) := by decide +kernel
theorem dX6_mix_105 : decode cX6_mix 105 = .ok (.ldc2_w 22, 3) := by decide +kernel
theorem dX6_mix_108 : decode cX6_mix 108 = .ok (.lmul, 1) := by decide +kernel
theorem dX6_mix_109 : decode cX6_mix 109 = .ok (.lsub, 1) := by decide +kernel
theorem dX6_mix_110 : decode cX6_mix 110 = .ok (.l2i, 1) := by decide +kernel
theorem dX6_mix_111 : decode cX6_mix 111 = .ok (.iastore, 1) := by decide +kernel
theorem dX6_mix_112 : decode cX6_mix 112 = .ok (.iinc 13 1, 3) := by decide +kernel
theorem dX6_mix_115 : decode cX6_mix 115 = .ok (.goto (-87), 3) := by decide +kernel
theorem dX6_mix_118 : decode cX6_mix 118 = .ok (.return_, 1) := by decide +kernel
set_option maxHeartbeats 4000000 in
theorem m_mix (l : Launch) {D : va_G} {ids : Nat → ClassId} {β : Nat} {sh : Nat → Nat × Nat} {N : Nat} {R : Nat → Nat → Option Nat} {F : Nat → Nat → Int} {A : Nat → Int → Int} {w x y : Nat} {xT yT most : Int} (hw : isW sh R N w) (hx : isW sh R N x) (hy : isW sh R N y) (h0 : WOK F A x) (h1 : WOK F A y) (hm : F x 1 ≤ most ∧ F y 1 ≤ most ∧ most ≤ 80) (hT : mixT xT yT) (hp : 0 ≤ xT * wm F A x + yT * wm F A y ∧ xT * wm F A x + yT * wm F A y < 1000000000 ^ most.toNat) : MetX l yX6_mix cX6_mix 16 none 1 25 D ids β sh N R F A [rf w, rf x, pL xT, rf y, pL yT, pI most] (pVr (Q_mix F A w most (xT * wm F A x + yT * wm F A y))) := by
  refine MetX.of (loc := [_, _, _, _, _, _, _, _, _, _, _, _, _, _, _, _]) (plainFor_of_name (by decide +kernel)) (Nat.le_of_ble_eq_true rfl) rfl ?_
  intro p e s m args below meth c hC hK hr hlk
  obtain ⟨hw1, hw2, hw3, hw4⟩ := id hw
  have hw0 : w < N := by omega
  obtain ⟨hx1, hx2, hx3, hx4⟩ := id hx
  have hx0 : x < N := by omega
  obtain ⟨hy1, hy2, hy3, hy4⟩ := id hy
  have hy0 : y < N := by omega
  obtain ⟨s1, s2, s3, s4, s5⟩ := id h0
  obtain ⟨t1, t2, t3, t4, t5⟩ := id h1
  have loop : ∀ (n k : Nat) (c0 : Int) (A1 : Nat → Int → Int), (most - k).toNat < n → (k : Int) ≤ most → (∀ a, a ≠ w + 1 → A1 a = A a) → (∀ j : Int, k ≤ j → A1 (w + 1) j = A (w + 1) j) → dig 1000000000 (A1 (w + 1)) k → (-1000000000 ≤ c0 ∧ c0 ≤ 1000000000) → dv 1000000000 (A1 (w + 1)) k + c0 * 1000000000 ^ k = xT * dv 1000000000 (lim F A x) k + yT * dv 1000000000 (lim F A y) k → X p l e { frames := 1, cells := 0, slots := 0, locals := 25 } s m args below meth c (MQ below (QX D ids β sh N R (pVr (Q_mix F A w most (xT * wm F A x + yT * wm F A y)))) args s 0 0 (inG β N)) (inG β N) D ids β sh 16 0 0 N R F A1 [some (rf w), some (rf x), some (pL xT), none, some (rf y), some (pL yT), none, some (pI most), some (pI most), some (pI (F x 1)), some (pI (F y 1)), some (pL (c0)), none, some (pI ((k : Int))), none, none] [] 28 := by
    intro n
    induction n with
    | zero => intro k c0 A1 hn; omega
    | succ n ih =>
      intro k c0 A1 hn hk hA hB hd hc hv
      have rd : ∀ u : Nat, A1 (u + 1) k = A (u + 1) k := fun u => by
        by_cases e : u = w
        · rw [e]; exact hB k (by omega)
        · rw [hA (u + 1) (by omega)]
      have j85 : (k : Int) < most → X p l e { frames := 1, cells := 0, slots := 0, locals := 25 } s m args below meth c (MQ below (QX D ids β sh N R (pVr (Q_mix F A w most (xT * wm F A x + yT * wm F A y)))) args s 0 0 (inG β N)) (inG β N) D ids β sh 16 0 0 N R F A1 [some (rf w), some (rf x), some (pL xT), none, some (rf y), some (pL yT), none, some (pI most), some (pI most), some (pI (F x 1)), some (pI (F y 1)), some (pL (c0)), none, some (pI ((k : Int))), some (pL (c0 + xT * lim F A x k + yT * lim F A y k)), none] [] 85 := by
        intro hlt
        refine x_lload (pc2 := 87) hC rfl dX6_mix_85 rfl ?_
        refine x_ldc2 (pc2 := 90) (z := 1000000000) hC wt_257 rfl dX6_mix_87 rfl ?_
        refine x_cSl (pc2 := 93) hC hK (m_floorDiv l (by have := hT _ _ (lim_dig h0 k).1 (lim_dig h0 k).2 (lim_dig h1 k).1 (lim_dig h1 k).2; omega) ⟨by decide, by decide⟩) lk_520 rfl ⟨Nat.le_of_ble_eq_true rfl, Nat.le_of_ble_eq_true rfl⟩ ⟨Nat.le_refl _, Nat.le_refl _⟩ rfl (Nat.le_of_ble_eq_true rfl) dX6_mix_90 rfl ?_
        rintro z90 F90 A90 ⟨rfl, e190, e290⟩
        obtain rfl := e190.symm
        obtain rfl := e290.symm
        refine x_lstore (pc2 := 95) (loc2 := [_, _, _, _, _, _, _, _, _, _, _, _, _, _, _, _]) hC (by decide) rfl dX6_mix_93 rfl ?_
        refine x_aload_n (pc2 := 96) hC rfl rfl dX6_mix_95 rfl ?_
        refine g_142 (pc2 := 99) hC hK (by assumption) (by assumption) (by assumption) dX6_mix_96 rfl ?_
        refine x_iload (pc2 := 101) hC rfl dX6_mix_99 rfl ?_
        refine x_lload (pc2 := 103) hC rfl dX6_mix_101 rfl ?_
        refine x_lload (pc2 := 105) hC rfl dX6_mix_103 rfl ?_
        refine x_ldc2 (pc2 := 108) (z := 1000000000) hC wt_257 rfl dX6_mix_105 rfl ?_
        refine x_lmul (pc2 := 109) hC dX6_mix_108 rfl ?_
        refine x_lsub (pc2 := 110) hC dX6_mix_109 rfl ?_
        refine x_l2i (pc2 := 111) hC dX6_mix_110 rfl ?_
        refine x_iast (pc2 := 112) hC hK (by assumption) (by assumption) (by omega) (by decide) dX6_mix_111 rfl ?_
        refine x_iinc (pc2 := 115) (loc2 := [_, _, _, _, _, _, _, _, _, _, _, _, _, _, _, _]) hC (by decide) rfl rfl dX6_mix_112 rfl ?_
        refine x_goto (pc2 := 28) hC dX6_mix_115 rfl ?_
        refine x_less (loc2 := [some (rf w), some (rf x), some (pL xT), none, some (rf y), some (pL yT), none, some (pI most), some (pI most), some (pI (F x 1)), some (pI (F y 1)), some (pL (_)), none, some (pI ((k : Int) + 1)), none, none]) hC ⟨rfl, rfl, rfl, rfl, rfl, rfl, rfl, rfl, rfl, rfl, rfl, trivial⟩ ?_
        have bd := hT _ _ (lim_dig h0 k).1 (lim_dig h0 k).2 (lim_dig h1 k).1 (lim_dig h1 k).2
        refine ih (k + 1) _ _ (by omega) (by omega) (fun a ha => by rw [uA_ne ha]; exact hA a ha) (fun j hj => by rw [uA_ni (by omega)]; exact hB j (by omega)) (fun j a b => ?_) ⟨by omega, by omega⟩ ?_
        · rw [uA_at]
          by_cases e : j = k
          · rw [if_pos e]; omega
          · rw [if_neg e]; exact hd j a (by omega)
        · rw [dv_uA, Int.pow_succ, Int.add_assoc c0 (xT * lim F A x k) (yT * lim F A y k), mix_step hv]
          simp only [dv]
          grind
      have j61 : (k : Int) < most → X p l e { frames := 1, cells := 0, slots := 0, locals := 25 } s m args below meth c (MQ below (QX D ids β sh N R (pVr (Q_mix F A w most (xT * wm F A x + yT * wm F A y)))) args s 0 0 (inG β N)) (inG β N) D ids β sh 16 0 0 N R F A1 [some (rf w), some (rf x), some (pL xT), none, some (rf y), some (pL yT), none, some (pI most), some (pI most), some (pI (F x 1)), some (pI (F y 1)), some (pL (c0)), none, some (pI ((k : Int))), some (pL (c0 + xT * lim F A x k)), none] [] 61 := by
        intro hlt
        refine x_iload (pc2 := 63) hC rfl dX6_mix_61 rfl ?_
        refine x_iload (pc2 := 65) hC rfl dX6_mix_63 rfl ?_
        refine x_icmp_ge (tgt := 85) (pc2 := 68) hC (by omega) (by omega) dX6_mix_65 rfl rfl (fun h_65 => ?_) (fun h_65 => ?_)
        · first
            | (have e := rd y; have e2 : lim F A y k = A (y + 1) k := if_pos ⟨by omega, h_65⟩
               rw [e, ← e2]; exact j85 hlt)
            | (have e2 : lim F A y k = 0 := if_neg (by omega)
               have e3 := j85 hlt
               rw [e2, Int.mul_zero, Int.add_zero] at e3; exact e3)
        · refine x_lload (pc2 := 70) hC rfl dX6_mix_68 rfl ?_
          refine x_lload (pc2 := 72) hC rfl dX6_mix_70 rfl ?_
          refine x_aload (pc2 := 74) hC rfl dX6_mix_72 rfl ?_
          refine g_142 (pc2 := 77) hC hK (by assumption) (by assumption) (by assumption) dX6_mix_74 rfl ?_
          refine x_iload (pc2 := 79) hC rfl dX6_mix_77 rfl ?_
          refine x_iald (pc2 := 80) hC hK (by assumption) (by assumption) ⟨by omega, by omega⟩ (by decide) dX6_mix_79 rfl ?_
          refine x_i2l (pc2 := 81) hC (by have e := rd y; have := t3 k (by omega) h_65; omega) dX6_mix_80 rfl ?_
          refine x_lmul (pc2 := 82) hC dX6_mix_81 rfl ?_
          refine x_ladd (pc2 := 83) hC dX6_mix_82 rfl ?_
          refine x_lstore (pc2 := 85) (loc2 := [_, _, _, _, _, _, _, _, _, _, _, _, _, _, _, _]) hC (by decide) rfl dX6_mix_83 rfl ?_
          first
            | (have e := rd y; have e2 : lim F A y k = A (y + 1) k := if_pos ⟨by omega, h_65⟩
               rw [e, ← e2]; exact j85 hlt)
            | (have e2 : lim F A y k = 0 := if_neg (by omega)
               have e3 := j85 hlt
               rw [e2, Int.mul_zero, Int.add_zero] at e3; exact e3)
      refine x_iload (pc2 := 30) hC rfl dX6_mix_28 rfl ?_
      refine x_iload (pc2 := 32) hC rfl dX6_mix_30 rfl ?_
      refine x_icmp_ge (tgt := 118) (pc2 := 35) hC (by omega) (by omega) dX6_mix_32 rfl rfl (fun h_32 => ?_) (fun h_32 => ?_)
      · exact x_vret hC hr hlk ⟨rfl, rfl, hA, fun j a b => hd j a (by omega), by
                have ek : most.toNat = k := by omega
                rw [dv_lim h0 (by omega), dv_lim h1 (by omega)] at hv
                rw [ek] at hp ⊢
                exact mix_end (pow_pos' (by decide) k) hv (dv_nonneg (by decide) (fun j a b => (hd j a b).1)) (dv_lt (by decide) hd) hp.1 hp.2⟩ dX6_mix_118
      · refine x_lload (pc2 := 37) hC rfl dX6_mix_35 rfl ?_
        refine x_lstore (pc2 := 39) (loc2 := [_, _, _, _, _, _, _, _, _, _, _, _, _, _, _, _]) hC (by decide) rfl dX6_mix_37 rfl ?_
        refine x_iload (pc2 := 41) hC rfl dX6_mix_39 rfl ?_
        refine x_iload (pc2 := 43) hC rfl dX6_mix_41 rfl ?_
        refine x_icmp_ge (tgt := 61) (pc2 := 46) hC (by omega) (by omega) dX6_mix_43 rfl rfl (fun h_43 => ?_) (fun h_43 => ?_)
        · first
            | (have e := rd x; have e2 : lim F A x k = A (x + 1) k := if_pos ⟨by omega, h_43⟩
               rw [e, ← e2]; exact j61 h_32)
            | (have e2 : lim F A x k = 0 := if_neg (by omega)
               have e3 := j61 h_32
               rw [e2, Int.mul_zero, Int.add_zero] at e3; exact e3)
        · refine x_lload (pc2 := 48) hC rfl dX6_mix_46 rfl ?_
          refine x_lload_n (pc2 := 49) hC rfl rfl dX6_mix_48 rfl ?_
          refine x_aload_n (pc2 := 50) hC rfl rfl dX6_mix_49 rfl ?_
          refine g_142 (pc2 := 53) hC hK (by assumption) (by assumption) (by assumption) dX6_mix_50 rfl ?_
          refine x_iload (pc2 := 55) hC rfl dX6_mix_53 rfl ?_
          refine x_iald (pc2 := 56) hC hK (by assumption) (by assumption) ⟨by omega, by omega⟩ (by decide) dX6_mix_55 rfl ?_
          refine x_i2l (pc2 := 57) hC (by have e := rd x; have := s3 k (by omega) h_43; omega) dX6_mix_56 rfl ?_
          refine x_lmul (pc2 := 58) hC dX6_mix_57 rfl ?_
          refine x_ladd (pc2 := 59) hC dX6_mix_58 rfl ?_
          refine x_lstore (pc2 := 61) (loc2 := [_, _, _, _, _, _, _, _, _, _, _, _, _, _, _, _]) hC (by decide) rfl dX6_mix_59 rfl ?_
          first
            | (have e := rd x; have e2 : lim F A x k = A (x + 1) k := if_pos ⟨by omega, h_43⟩
               rw [e, ← e2]; exact j61 h_32)
            | (have e2 : lim F A x k = 0 := if_neg (by omega)
               have e3 := j61 h_32
               rw [e2, Int.mul_zero, Int.add_zero] at e3; exact e3)
  refine x_iload (pc2 := 2) hC rfl dX6_mix_0 rfl ?_
  refine x_bipush (pc2 := 4) hC rfl dX6_mix_2 rfl ?_
  refine x_cSi (pc2 := 7) hC hK (m_min l (by omega) (by omega)) lk_501 rfl ⟨Nat.le_of_ble_eq_true rfl, Nat.le_of_ble_eq_true rfl⟩ ⟨Nat.le_refl _, Nat.le_refl _⟩ rfl (Nat.le_of_ble_eq_true rfl) dX6_mix_4 rfl ?_
  rintro z4 F4 A4 ⟨rfl, e14, e24⟩
  obtain rfl := e14.symm
  obtain rfl := e24.symm
  rw [show min most 80 = most by omega]
  refine x_istore (pc2 := 9) (loc2 := [_, _, _, _, _, _, _, _, _, _, _, _, _, _, _, _]) hC (by decide) rfl dX6_mix_7 rfl ?_
  refine x_aload_n (pc2 := 10) hC rfl rfl dX6_mix_9 rfl ?_
  refine g_140 (pc2 := 13) hC hK (by assumption) (by assumption) dX6_mix_10 rfl ?_
  refine x_istore (pc2 := 15) (loc2 := [_, _, _, _, _, _, _, _, _, _, _, _, _, _, _, _]) hC (by decide) rfl dX6_mix_13 rfl ?_
  refine x_aload (pc2 := 17) hC rfl dX6_mix_15 rfl ?_
  refine g_140 (pc2 := 20) hC hK (by assumption) (by assumption) dX6_mix_17 rfl ?_
  refine x_istore (pc2 := 22) (loc2 := [_, _, _, _, _, _, _, _, _, _, _, _, _, _, _, _]) hC (by decide) rfl dX6_mix_20 rfl ?_
  refine x_lconst0 (pc2 := 23) hC dX6_mix_22 rfl ?_
  refine x_lstore (pc2 := 25) (loc2 := [_, _, _, _, _, _, _, _, _, _, _, _, _, _, _, _]) hC (by decide) rfl dX6_mix_23 rfl ?_
  refine x_iconst (pc2 := 26) hC dX6_mix_25 rfl ?_
  refine x_istore (pc2 := 28) (loc2 := [_, _, _, _, _, _, _, _, _, _, _, _, _, _, _, _]) hC (by decide) rfl dX6_mix_26 rfl ?_
  exact loop (most.toNat + 1) 0 0 A (by omega) (by omega) (fun _ _ => rfl) (fun _ _ => rfl) (fun j a b => by omega) ⟨by omega, by omega⟩ (by simp [dv])
