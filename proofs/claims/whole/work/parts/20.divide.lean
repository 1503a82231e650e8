theorem WOK_of {F F' : Nat → Nat → Int} {A A' : Nat → Int → Int} {w : Nat} (hF : F' w = F w) (hA : A' (w + 1) = A (w + 1)) (h : WOK F A w) : WOK F' A' w := by unfold WOK; rw [hF, hA]; exact h
theorem wm_of {F F' : Nat → Nat → Int} {A A' : Nat → Int → Int} {w : Nat} (hF : F' w = F w) (hA : A' (w + 1) = A (w + 1)) : wm F' A' w = wm F A w := by unfold wm; rw [hF, hA]
theorem wv_of {F F' : Nat → Nat → Int} {A A' : Nat → Int → Int} {w : Nat} (hF : F' w = F w) (hA : A' (w + 1) = A (w + 1)) : wv F' A' w = wv F A w := by unfold wv; rw [hF, wm_of hF hA]
theorem wm_of_wv {F : Nat → Nat → Int} {A : Nat → Int → Int} {w : Nat} {v : Int} (h : WOK F A w) (e : wv F A w = v) : wm F A w = v.natAbs := by
  have a := wv_abs h
  have b := wm_nonneg h
  rw [e] at a
  omega
def Q_div (F : Nat → Nat → Int) (A : Nat → Int → Int) (w b q : Nat) : (Nat → Nat → Int) → (Nat → Int → Int) → Prop := fun F' A' => (∀ o, o ≠ w → o ≠ b → o ≠ q → F' o = F o) ∧ (∀ a, a ≠ w + 1 → a ≠ b + 1 → a ≠ q + 1 → A' a = A a) ∧ WOK F' A' w ∧ WOK F' A' b ∧ WOK F' A' q ∧ wm F' A' q = wm F A w / wm F A b ∧ wm F' A' w = wm F A w % wm F A b ∧ wv F' A' b = wv F A b ∧ (0 ≤ F w 0 → 0 ≤ F' w 0)
theorem div_fin_small {F F' : Nat → Nat → Int} {A : Nat → Int → Int} {w b q : Nat} (h0 : WOK F A w) (h1 : WOK F A b) (nwq : w ≠ q) (nbq : b ≠ q) (hs : F b 1 = 0 ∨ wm F A w < wm F A b) (hq : Q_clear F A q F' A) : Q_div F A w b q F' A := by
  obtain ⟨-, q1, q2, q3⟩ := hq
  have fw := q1 w nwq
  have fb := q1 b nbq
  have z : wm F A w / wm F A b = 0 ∧ wm F A w % wm F A b = wm F A w := by
    rcases hs with h | h
    · rw [wm_zero (w := b) (by omega)]; simp
    · exact ⟨Int.ediv_eq_zero_of_lt (wm_nonneg h0) h, Int.emod_eq_of_lt (wm_nonneg h0) h⟩
  refine ⟨fun o _ _ ho => q1 o ho, fun _ _ _ _ => rfl, WOK_of fw rfl h0, WOK_of fb rfl h1, q2, ?_, by rw [wm_of fw rfl, z.2], wv_of fb rfl, fun h => by rw [fw]; exact h⟩
  rw [wm_of_wv q2 q3, z.1]; rfl
/-- the factor that makes the first limb great -/
theorem nf_lo {t f : Int} (ht : 1 ≤ t) (ht2 : t ≤ 999999999) (hf : f = 1000000000 / (t + 1)) : 1 ≤ f ∧ f ≤ 500000000 ∧ f * (t + 1) ≤ 1000000000 ∧ 1000000000 ≤ 2 * (f * t) := by
  have h1 := Int.mul_ediv_add_emod 1000000000 (t + 1)
  have h2 := Int.emod_nonneg 1000000000 (show t + 1 ≠ 0 by omega)
  have h3 := Int.emod_lt_of_pos 1000000000 (show 0 < t + 1 by omega)
  rw [← hf, Int.mul_comm] at h1
  have f1 : 1 ≤ f := by
    apply Classical.byContradiction
    intro q
    have := Int.mul_le_mul_of_nonneg_right (show f ≤ 0 by omega) (show 0 ≤ t + 1 by omega)
    omega
  have f2 : f * 2 ≤ f * (t + 1) := Int.mul_le_mul_of_nonneg_left (by omega) (by omega)
  refine ⟨f1, by omega, by omega, ?_⟩
  rcases Int.lt_or_le t 500000000 with q | q
  · have a : 0 ≤ (t - 1) * (1000000000 - 2 * t - 1) := Int.mul_nonneg (by omega) (by omega)
    have b : t * (1000000000 - t) ≤ t * (f * (t + 1)) := Int.mul_le_mul_of_nonneg_left (by omega) (by omega)
    have c : (t - 1) * (1000000000 - 2 * t - 1) = 2 * (t * (1000000000 - t)) - 999999999 * (t + 1) := by grind
    have d : t * (f * (t + 1)) = (f * t) * (t + 1) := by grind
    apply Classical.byContradiction
    intro r
    have e : (2 * (f * t)) * (t + 1) ≤ 999999998 * (t + 1) := Int.mul_le_mul_of_nonneg_right (by omega) (by omega)
    rw [Int.mul_assoc] at e
    omega
  · have : 1 * t ≤ f * t := Int.mul_le_mul_of_nonneg_right f1 (by omega)
    omega
theorem div_step {V B P Qd d a H W z r U : Int} (h : U = V * (P * B) * Qd + (d + a * P) + P * B * H) (hW : W = a + B * H) (hz : V * z + r = W) : U = V * P * (z + B * Qd) + d + P * r := by
  have : r = a + B * H - V * z := by omega
  rw [h, this]; grind
theorem top_zero {B : Int} {f : Int → Int} {n : Nat} (hB : 0 < B) (hd : dig B f (n + 1)) (h : dv B f (n + 1) < B ^ n) : f n = 0 ∧ dv B f (n + 1) = dv B f n := by
  have h1 := dv_nonneg (f := f) (n := n) hB (fun k a b => (hd k a (by omega)).1)
  have h2 := hd n (by omega) (by omega)
  have e : dv B f (n + 1) = dv B f n + f n * B ^ n := rfl
  have z : f n = 0 := by
    apply Classical.byContradiction
    intro q
    have := Int.mul_le_mul_of_nonneg_right (show 1 ≤ f n by omega) (Int.le_of_lt (pow_pos' hB n))
    omega
  exact ⟨z, dv_top z⟩
theorem dX6_divide_0 : decode cX6_divide 0 = .ok (.aload_n 1, 1) := by decide +kernel
theorem dX6_divide_1 : decode cX6_divide 1 = .ok (.getfield 19, 3) := by decide +kernel
theorem dX6_divide_4 : decode cX6_divide 4 = .ok (.ifCond .eq 20, 3) := by decide +kernel
theorem dX6_divide_7 : decode cX6_divide 7 = .ok (.aload_n 0, 1) := by decide +kernel
theorem dX6_divide_8 : decode cX6_divide 8 = .ok (.aload_n 1, 1) := by decide +kernel
theorem dX6_divide_9 : decode cX6_divide 9 = .ok (.invokevirtual 43, 3) := by decide +kernel
theorem dX6_divide_12 : decode cX6_divide 12 = .ok (.ifCond .lt 12, 3) := by decide +kernel
theorem dX6_divide_15 : decode cX6_divide 15 = .ok (.aload_n 0, 1) := by decide +kernel
theorem dX6_divide_16 : decode cX6_divide 16 = .ok (.getfield 19, 3) := by decide +kernel
theorem dX6_divide_19 : decode cX6_divide 19 = .ok (.bipush 80, 2) := by decide +kernel
theorem dX6_divide_21 : decode cX6_divide 21 = .ok (.if_icmp .lt 8, 3) := by decide +kernel
theorem dX6_divide_24 : decode cX6_divide 24 = .ok (.aload_n 2, 1) := by decide +kernel
theorem dX6_divide_25 : decode cX6_divide 25 = .ok (.invokevirtual 47, 3) := by decide +kernel
theorem dX6_divide_28 : decode cX6_divide 28 = .ok (.return_, 1) := by decide +kernel
theorem dX6_divide_29 : decode cX6_divide 29 = .ok (.aload_n 1, 1) := by decide +kernel
theorem dX6_divide_30 : decode cX6_divide 30 = .ok (.getfield 19, 3) := by decide +kernel
theorem dX6_divide_33 : decode cX6_divide 33 = .ok (.iconst 1, 1) := by decide +kernel
theorem dX6_divide_34 : decode cX6_divide 34 = .ok (.if_icmp .ne 23, 3) := by decide +kernel
theorem dX6_divide_37 : decode cX6_divide 37 = .ok (.aload_n 2, 1) := by decide +kernel
theorem dX6_divide_38 : decode cX6_divide 38 = .ok (.aload_n 0, 1) := by decide +kernel
theorem dX6_divide_39 : decode cX6_divide 39 = .ok (.invokevirtual 61, 3) := by decide +kernel
theorem dX6_divide_42 : decode cX6_divide 42 = .ok (.aload_n 0, 1) := by decide +kernel
theorem dX6_divide_43 : decode cX6_divide 43 = .ok (.aload_n 2, 1) := by decide +kernel
theorem dX6_divide_44 : decode cX6_divide 44 = .ok (.aload_n 1, 1) := by decide +kernel
theorem dX6_divide_45 : decode cX6_divide 45 = .ok (.getfield 9, 3) := by decide +kernel
theorem dX6_divide_48 : decode cX6_divide 48 = .ok (.iconst 0, 1) := by decide +kernel
theorem dX6_divide_49 : decode cX6_divide 49 = .ok (.iaload, 1) := by decide +kernel
theorem dX6_divide_50 : decode cX6_divide 50 = .ok (.invokevirtual 75, 3) := by decide +kernel
theorem dX6_divide_53 : decode cX6_divide 53 = .ok (.invokevirtual 79, 3) := by decide +kernel
theorem dX6_divide_56 : decode cX6_divide 56 = .ok (.return_, 1) := by decide +kernel
theorem dX6_divide_57 : decode cX6_divide 57 = .ok (.ldc 83, 2) := by decide +kernel
theorem dX6_divide_59 : decode cX6_divide 59 = .ok (.aload_n 1, 1) := by decide +kernel
theorem dX6_divide_60 : decode cX6_divide 60 = .ok (.getfield 9, 3) := by decide +kernel
theorem dX6_divide_63 : decode cX6_divide 63 = .ok (.aload_n 1, 1) := by decide +kernel
theorem dX6_divide_64 : decode cX6_divide 64 = .ok (.getfield 19, 3) := by decide +kernel
theorem dX6_divide_67 : decode cX6_divide 67 = .ok (.iconst 1, 1) := by decide +kernel
theorem dX6_divide_68 : decode cX6_divide 68 = .ok (.isub, 1) := by decide +kernel
theorem dX6_divide_69 : decode cX6_divide 69 = .ok (.iaload, 1) := by decide +kernel
theorem dX6_divide_70 : decode cX6_divide 70 = .ok (.iconst 1, 1) := by decide +kernel
theorem dX6_divide_71 : decode cX6_divide 71 = .ok (.iadd, 1) := by decide +kernel
theorem dX6_divide_72 : decode cX6_divide 72 = .ok (.idiv, 1) := by decide +kernel
theorem dX6_divide_73 : decode cX6_divide 73 = .ok (.istore_n 3, 1) := by decide +kernel
theorem dX6_divide_74 : decode cX6_divide 74 = .ok (.aload_n 0, 1) := by decide +kernel
theorem dX6_divide_75 : decode cX6_divide 75 = .ok (.getfield 19, 3) := by decide +kernel
theorem dX6_divide_78 : decode cX6_divide 78 = .ok (.aload_n 1, 1) := by decide +kernel
theorem dX6_divide_79 : decode cX6_divide 79 = .ok (.getfield 19, 3) := by decide +kernel
theorem dX6_divide_82 : decode cX6_divide 82 = .ok (.isub, 1) := by decide +kernel
theorem dX6_divide_83 : decode cX6_divide 83 = .ok (.istore 4, 2) := by decide +kernel
theorem dX6_divide_85 : decode cX6_divide 85 = .ok (.aload_n 1, 1) := by decide +kernel
theorem dX6_divide_86 : decode cX6_divide 86 = .ok (.getfield 19, 3) := by decide +kernel
theorem dX6_divide_89 : decode cX6_divide 89 = .ok (.istore 5, 2) := by decide +kernel
theorem dX6_divide_91 : decode cX6_divide 91 = .ok (.aload_n 0, 1) := by decide +kernel
theorem dX6_divide_92 : decode cX6_divide 92 = .ok (.getfield 9, 3) := by decide +kernel
theorem dX6_divide_95 : decode cX6_divide 95 = .ok (.aload_n 0, 1) := by decide +kernel
theorem dX6_divide_96 : decode cX6_divide 96 = .ok (.getfield 19, 3) := by decide +kernel
theorem dX6_divide_99 : decode cX6_divide 99 = .ok (.iconst 0, 1) := by decide +kernel
theorem dX6_divide_100 : decode cX6_divide 100 = .ok (.iastore, 1) := by decide +kernel
theorem dX6_divide_101 : decode cX6_divide 101 = .ok (.aload_n 0, 1) := by decide +kernel
theorem dX6_divide_102 : decode cX6_divide 102 = .ok (.iload_n 3, 1) := by decide +kernel
theorem dX6_divide_103 : decode cX6_divide 103 = .ok (.aload_n 0, 1) := by decide +kernel
theorem dX6_divide_104 : decode cX6_divide 104 = .ok (.getfield 19, 3) := by decide +kernel
theorem dX6_divide_107 : decode cX6_divide 107 = .ok (.iconst 1, 1) := by decide +kernel
theorem dX6_divide_108 : decode cX6_divide 108 = .ok (.iadd, 1) := by decide +kernel
theorem dX6_divide_109 : decode cX6_divide 109 = .ok (.invokevirtual 84, 3) := by decide +kernel
theorem dX6_divide_112 : decode cX6_divide 112 = .ok (.aload_n 1, 1) := by decide +kernel
theorem dX6_divide_113 : decode cX6_divide 113 = .ok (.iload_n 3, 1) := by decide +kernel
theorem dX6_divide_114 : decode cX6_divide 114 = .ok (.iload 5, 2) := by decide +kernel
theorem dX6_divide_116 : decode cX6_divide 116 = .ok (.invokevirtual 84, 3) := by decide +kernel
theorem dX6_divide_119 : decode cX6_divide 119 = .ok (.iload 4, 2) := by decide +kernel
theorem dX6_divide_121 : decode cX6_divide 121 = .ok (.istore 6, 2) := by decide +kernel
theorem dX6_divide_123 : decode cX6_divide 123 = .ok (.iload 6, 2) := by decide +kernel
theorem dX6_divide_125 : decode cX6_divide 125 = .ok (.ifCond .lt 25, 3) := by decide +kernel
theorem dX6_divide_128 : decode cX6_divide 128 = .ok (.aload_n 2, 1) := by decide +kernel
theorem dX6_divide_129 : decode cX6_divide 129 = .ok (.getfield 9, 3) := by decide +kernel
theorem dX6_divide_132 : decode cX6_divide 132 = .ok (.iload 6, 2) := by decide +kernel
theorem dX6_divide_134 : decode cX6_divide 134 = .ok (.aload_n 0, 1) := by decide +kernel
theorem dX6_divide_135 : decode cX6_divide 135 = .ok (.aload_n 1, 1) := by decide +kernel
theorem dX6_divide_136 : decode cX6_divide 136 = .ok (.iload 5, 2) := by decide +kernel
theorem dX6_divide_138 : decode cX6_divide 138 = .ok (.iload 6, 2) := by decide +kernel
theorem dX6_divide_140 : decode cX6_divide 140 = .ok (.invokevirtual 87, 3) := by decide +kernel
theorem dX6_divide_143 : decode cX6_divide 143 = .ok (.iastore, 1) := by decide +kernel
theorem dX6_divide_144 : decode cX6_divide 144 = .ok (.iinc 6 (-1), 3) := by decide +kernel
theorem dX6_divide_147 : decode cX6_divide 147 = .ok (.goto (-24), 3) := by decide +kernel
theorem dX6_divide_150 : decode cX6_divide 150 = .ok (.aload_n 2, 1) := by decide +kernel
theorem dX6_divide_151 : decode cX6_divide 151 = .ok (.iload 4, 2) := by decide +kernel
theorem dX6_divide_153 : decode cX6_divide 153 = .ok (.iconst 1, 1) := by decide +kernel
theorem dX6_divide_154 : decode cX6_divide 154 = .ok (.iadd, 1) := by decide +kernel
theorem dX6_divide_155 : decode cX6_divide 155 = .ok (.iconst 1, 1) := by decide +kernel
theorem dX6_divide_156 : decode cX6_divide 156 = .ok (.invokevirtual 24, 3) := by decide +kernel
theorem dX6_divide_159 : decode cX6_divide 159 = .ok (.aload_n 0, 1) := by decide +kernel
theorem dX6_divide_160 : decode cX6_divide 160 = .ok (.iload 5, 2) := by decide +kernel
theorem dX6_divide_162 : decode cX6_divide 162 = .ok (.iconst 1, 1) := by decide +kernel
theorem dX6_divide_163 : decode cX6_divide 163 = .ok (.invokevirtual 24, 3) := by decide +kernel
theorem dX6_divide_166 : decode cX6_divide 166 = .ok (.aload_n 0, 1) := by decide +kernel
theorem dX6_divide_167 : decode cX6_divide 167 = .ok (.iload_n 3, 1) := by decide +kernel
theorem dX6_divide_168 : decode cX6_divide 168 = .ok (.invokevirtual 75, 3) := by decide +kernel
theorem dX6_divide_171 : decode cX6_divide 171 = .ok (.pop2, 1) := by decide +kernel
theorem dX6_divide_172 : decode cX6_divide 172 = .ok (.aload_n 1, 1) := by decide +kernel
theorem dX6_divide_173 : decode cX6_divide 173 = .ok (.iload_n 3, 1) := by decide +kernel
theorem dX6_divide_174 : decode cX6_divide 174 = .ok (.invokevirtual 75, 3) := by decide +kernel
theorem dX6_divide_177 : decode cX6_divide 177 = .ok (.pop2, 1) := by decide +kernel
theorem dX6_divide_178 : decode cX6_divide 178 = .ok (.return_, 1) := by decide +kernel
set_option maxHeartbeats 16000000 in
theorem m_divide (l : Launch) {D : va_G} {ids : Nat → ClassId} {β : Nat} {sh : Nat → Nat × Nat} {N : Nat} {R : Nat → Nat → Option Nat} {F : Nat → Nat → Int} {A : Nat → Int → Int} {w b q : Nat} (hw : isW sh R N w) (hb : isW sh R N b) (hq : isW sh R N q) (nwb : w ≠ b) (nwq : w ≠ q) (nbq : b ≠ q) (h0 : WOK F A w) (h1 : WOK F A b) (hsz : F w 1 ≤ 79) : MetX l yX6_divide cX6_divide 7 none 3 88 D ids β sh N R F A [rf w, rf b, rf q] (pVr (Q_div F A w b q)) := by
  refine MetX.of (loc := [_, _, _, _, _, _, _]) (plainFor_of_name (by decide +kernel)) (Nat.le_of_ble_eq_true rfl) rfl ?_
  intro p e s m args below meth c hC hK hr hlk
  obtain ⟨hw1, hw2, hw3, hw4⟩ := id hw
  have hw0 : w < N := by omega
  obtain ⟨hb1, hb2, hb3, hb4⟩ := id hb
  have hb0 : b < N := by omega
  obtain ⟨hq1, hq2, hq3, hq4⟩ := id hq
  have hq0 : q < N := by omega
  obtain ⟨s1, s2, s3, s4, s5⟩ := id h0
  obtain ⟨t1, t2, t3, t4, t5⟩ := id h1
  have main : 2 ≤ F b 1 → wm F A b ≤ wm F A w → X p l e { frames := 3, cells := 0, slots := 0, locals := 88 } s m args below meth c (MQ below (QX D ids β sh N R (pVr (Q_div F A w b q))) args s 0 0 (inG β N)) (inG β N) D ids β sh 7 0 0 N R F A [some (rf w), some (rf b), some (rf q), none, none, none, none] [] 57 := by
    intro hn2 hge
    have hsl := size_mono h0 h1 hge
    obtain ⟨n, hn⟩ : ∃ n : Nat, F b 1 = n + 1 := ⟨(F b 1).toNat - 1, by omega⟩
    obtain ⟨t, ht⟩ : ∃ z, z = A (b + 1) (F b 1 - 1) := ⟨_, rfl⟩
    have tr := t3 (F b 1 - 1) (by omega) (by omega)
    have tn := t4 (by omega)
    rw [← ht] at tr tn
    obtain ⟨f, hf⟩ : ∃ z : Int, z = 1000000000 / (t + 1) := ⟨_, rfl⟩
    obtain ⟨f1, f2, f3, f4⟩ := nf_lo (by omega) (by omega) hf
    obtain ⟨A0, hA0⟩ : ∃ z, z = uA A (w + 1) (F w 1) 0 := ⟨_, rfl⟩
    have dA0 : dig 1000000000 (A0 (w + 1)) (F w 1 + 1) := fun j a c => by
      rw [hA0, uA_at]
      by_cases e : j = F w 1
      · rw [if_pos e]; omega
      · rw [if_neg e]; exact s3 j a (by omega)
    have vA0 : dv 1000000000 (A0 (w + 1)) (F w 1 + 1).toNat = wm F A w := by
      obtain ⟨sw, hsw⟩ : ∃ sw : Nat, F w 1 = sw := ⟨(F w 1).toNat, by omega⟩
      rw [hA0, hsw, show ((sw : Int) + 1).toNat = sw + 1 by omega, dv_uA, Int.zero_mul, Int.add_zero]
      unfold wm; rw [hsw, Int.toNat_natCast]
    have bw0 := wm_nonneg h0
    have bb0 := wm_pos h1 (by omega)
    have fw : f * wm F A w < 1000000000 ^ (F w 1 + 1).toNat := by
      have a := wm_lt h0
      have c := Int.mul_le_mul (show f ≤ 1000000000 by omega) (Int.le_of_lt a) bw0 (by decide)
      have d := Int.mul_le_mul (show f ≤ 500000000 by omega) (Int.le_of_lt a) bw0 (by decide)
      have e := pow_pos' (B := 1000000000) (by decide) (F w 1).toNat
      rw [show (F w 1 + 1).toNat = (F w 1).toNat + 1 by omega, Int.pow_succ]
      omega
    have vb : wm F A b = dv 1000000000 (A (b + 1)) n + t * 1000000000 ^ n := by
      unfold wm
      rw [hn, show ((n : Int) + 1).toNat = n + 1 by omega, ht, show F b 1 - 1 = (n : Int) by omega]
      rfl
    have vb1 : dv 1000000000 (A (b + 1)) n < 1000000000 ^ n := dv_lt (by decide) (fun j a c => t3 j a (by omega))
    have vb0 : 0 ≤ dv 1000000000 (A (b + 1)) n := dv_nonneg (by decide) (fun j a c => (t3 j a (by omega)).1)
    have Pn := pow_pos' (B := 1000000000) (by decide) n
    have fb : f * wm F A b < 1000000000 ^ (F b 1).toNat := by
      rw [hn, show ((n : Int) + 1).toNat = n + 1 by omega, Int.pow_succ]
      have a : f * wm F A b < f * ((t + 1) * 1000000000 ^ n) := Int.mul_lt_mul_of_pos_left (by rw [Int.add_mul, Int.one_mul]; omega) (by omega)
      have c : (f * (t + 1)) * 1000000000 ^ n ≤ 1000000000 * 1000000000 ^ n := Int.mul_le_mul_of_nonneg_right f3 (by omega)
      rw [← Int.mul_assoc] at a
      rw [Int.mul_comm (1000000000 ^ n) 1000000000]
      omega
    obtain ⟨V, hV⟩ : ∃ z, z = f * wm F A b := ⟨_, rfl⟩
    obtain ⟨U, hU⟩ : ∃ z, z = f * wm F A w := ⟨_, rfl⟩
    have V0 : 0 < V := by rw [hV]; exact Int.mul_pos (by omega) bb0
    have qU : U / V = wm F A w / wm F A b := by rw [hU, hV]; exact Int.mul_ediv_mul_of_pos _ _ (by omega)
    have rU : U % V = f * (wm F A w % wm F A b) := by rw [hU, hV]; exact Int.mul_emod_mul_of_pos _ _ (by omega)
    have fin : ∀ (A1 A2 : Nat → Int → Int), (∀ a, a ≠ w + 1 → A1 a = A0 a) → dig 1000000000 (A1 (w + 1)) (F w 1 + 1) → dv 1000000000 (A1 (w + 1)) (F w 1 + 1).toNat = U → (∀ a, a ≠ b + 1 → A2 a = A1 a) → dig 1000000000 (A2 (b + 1)) (F b 1) → dv 1000000000 (A2 (b + 1)) (F b 1).toNat = V → X p l e { frames := 3, cells := 0, slots := 0, locals := 88 } s m args below meth c (MQ below (QX D ids β sh N R (pVr (Q_div F A w b q))) args s 0 0 (inG β N)) (inG β N) D ids β sh 7 0 0 N R F A2 [some (rf w), some (rf b), some (rf q), some (pI f), some (pI (F w 1 - F b 1)), some (pI (F b 1)), none] [] 119 := by
      intro A1 A2 hA1 d1 v1 hA2 d2 v2
      have eb : (F b 1).toNat = n + 1 := by omega
      rw [eb] at v2
      have VB : V < 1000000000 ^ (n + 1) := by rw [← v2]; exact dv_lt (by decide) (fun j a c => d2 j a (by omega))
      have w2 : A2 (w + 1) = A1 (w + 1) := hA2 (w + 1) (by omega)
      have hno : 1000000000 ≤ 2 * A2 (b + 1) (F b 1 - 1) := by
        have e : V = dv 1000000000 (A2 (b + 1)) n + A2 (b + 1) n * 1000000000 ^ n := by rw [← v2]; rfl
        have a : dv 1000000000 (A2 (b + 1)) n < 1000000000 ^ n := dv_lt (by decide) (fun j a c => d2 j a (by omega))
        have c : f * (t * 1000000000 ^ n) ≤ V := by rw [hV, vb]; exact Int.mul_le_mul_of_nonneg_left (by omega) (by omega)
        rw [← Int.mul_assoc] at c
        rw [show F b 1 - 1 = (n : Int) by omega]
        apply Classical.byContradiction
        intro r
        have : (A2 (b + 1) n + 1) * 1000000000 ^ n ≤ (f * t) * 1000000000 ^ n := Int.mul_le_mul_of_nonneg_right (by omega) (by omega)
        rw [Int.add_mul, Int.one_mul] at this
        omega
      obtain ⟨tp, htp⟩ : ∃ tp : Nat, F w 1 - F b 1 = tp := ⟨(F w 1 - F b 1).toNat, by omega⟩
      have loop : ∀ (n3 i : Nat) (A3 : Nat → Int → Int), i < n3 → i ≤ tp + 1 → (∀ a, a ≠ w + 1 → a ≠ q + 1 → A3 a = A2 a) → (∀ j : Int, j < i → A3 (w + 1) j = A2 (w + 1) j) → (∀ j : Int, 0 ≤ j → j < n + 1 → 0 ≤ A3 (w + 1) (i + j) ∧ A3 (w + 1) (i + j) < 1000000000) → dv 1000000000 (fun j => A3 (w + 1) (i + j)) (n + 1) < V → (∀ j : Int, i ≤ j → j ≤ tp → 0 ≤ A3 (q + 1) j ∧ A3 (q + 1) j < 1000000000) → U = V * 1000000000 ^ i * dv 1000000000 (fun j => A3 (q + 1) (i + j)) (tp + 1 - i) + dv 1000000000 (A2 (w + 1)) i + 1000000000 ^ i * dv 1000000000 (fun j => A3 (w + 1) (i + j)) (n + 1) → X p l e { frames := 3, cells := 0, slots := 0, locals := 88 } s m args below meth c (MQ below (QX D ids β sh N R (pVr (Q_div F A w b q))) args s 0 0 (inG β N)) (inG β N) D ids β sh 7 0 0 N R F A3 [some (rf w), some (rf b), some (rf q), some (pI f), some (pI (F w 1 - F b 1)), some (pI (F b 1)), some (pI ((i : Int) - 1))] [] 123 := by
        intro n3
        induction n3 with
        | zero => intro i A3 hn3; omega
        | succ n3 ih =>
          intro i A3 hn3 hi hA3 hlow hHd hHlt hqd heq
          by_cases hi0 : i = 0
          · subst hi0
            refine x_iload (pc2 := 125) hC rfl dX6_divide_123 rfl ?_
            refine x_if_lt (tgt := 150) (pc2 := 128) hC (by omega) dX6_divide_125 rfl rfl (fun h_125 => ?_) (fun h_125 => ?_)
            · refine x_aload_n (pc2 := 151) hC rfl rfl dX6_divide_150 rfl ?_
              refine x_iload (pc2 := 153) hC rfl dX6_divide_151 rfl ?_
              refine x_iconst (pc2 := 154) hC dX6_divide_153 rfl ?_
              refine x_iadd (pc2 := 155) hC dX6_divide_154 rfl ?_
              refine x_iconst (pc2 := 156) hC dX6_divide_155 rfl ?_
              refine x_cVv (pc2 := 159) (ci := 6) hC hK (m_trim l hq ⟨by omega, by omega⟩ (fun j a c => hqd j (by omega) (by omega)) (Or.inl rfl)) lk_258 rfl rfl (by decide) (by assumption) (by assumption) ⟨Nat.le_of_ble_eq_true rfl, Nat.le_of_ble_eq_true rfl⟩ ⟨Nat.le_refl _, Nat.le_refl _⟩ rfl (Nat.le_of_ble_eq_true rfl) dX6_divide_156 rfl ?_
              rintro F5 A5 ⟨e156, p1, p2, p3⟩
              obtain rfl := e156.symm
              refine x_aload_n (pc2 := 160) hC rfl rfl dX6_divide_159 rfl ?_
              refine x_iload (pc2 := 162) hC rfl dX6_divide_160 rfl ?_
              refine x_iconst (pc2 := 163) hC dX6_divide_162 rfl ?_
              refine x_cVv (pc2 := 166) (ci := 6) hC hK (m_trim l hw ⟨by omega, by omega⟩ (fun j a c => by have := hHd j a (by omega); rw [show ((0 : Nat) : Int) + j = j by omega] at this; exact this) (Or.inl rfl)) lk_258 rfl rfl (by decide) (by assumption) (by assumption) ⟨Nat.le_of_ble_eq_true rfl, Nat.le_of_ble_eq_true rfl⟩ ⟨Nat.le_refl _, Nat.le_refl _⟩ rfl (Nat.le_of_ble_eq_true rfl) dX6_divide_163 rfl ?_
              rintro F6 A6 ⟨e163, p4, p5, p6⟩
              obtain rfl := e163.symm
              refine x_aload_n (pc2 := 167) hC rfl rfl dX6_divide_166 rfl ?_
              refine x_iload_n (pc2 := 168) hC rfl rfl dX6_divide_167 rfl ?_
              refine x_cVl (pc2 := 171) (ci := 6) hC hK (m_divideShort l hw p5 ⟨by omega, by omega⟩) lk_607 rfl rfl (by decide) (by assumption) (by assumption) ⟨Nat.le_of_ble_eq_true rfl, Nat.le_of_ble_eq_true rfl⟩ ⟨Nat.le_refl _, Nat.le_refl _⟩ rfl (Nat.le_of_ble_eq_true rfl) dX6_divide_168 rfl ?_
              rintro z7 F7 A7 ⟨-, p7, p8, p9, p10⟩
              refine x_pop2L (pc2 := 172) hC dX6_divide_171 rfl ?_
              refine x_aload_n (pc2 := 173) hC rfl rfl dX6_divide_172 rfl ?_
              refine x_iload_n (pc2 := 174) hC rfl rfl dX6_divide_173 rfl ?_
              refine x_cVl (pc2 := 177) (ci := 6) hC hK (m_divideShort l hb (by
                have e1 : F7 b = F b := by rw [p7 b (by omega), p4 b (by omega), p1 b (by omega)]
                have e2 : A7 (b + 1) = A2 (b + 1) := by rw [p8 (b + 1) (by omega), hA3 (b + 1) (by omega) (by omega)]
                unfold WOK
                rw [e1, e2]
                exact ⟨t1, t2, d2, fun _ => by omega, t5⟩) ⟨by omega, by omega⟩) lk_607 rfl rfl (by decide) (by assumption) (by assumption) ⟨Nat.le_of_ble_eq_true rfl, Nat.le_of_ble_eq_true rfl⟩ ⟨Nat.le_refl _, Nat.le_refl _⟩ rfl (Nat.le_of_ble_eq_true rfl) dX6_divide_174 rfl ?_
              rintro z8 F8 A8 ⟨-, p11, p12, p13, p14⟩
              refine x_pop2L (pc2 := 178) hC dX6_divide_177 rfl ?_
              exact x_vret hC hr hlk ⟨rfl, by
                have e1 : F7 b = F b := by rw [p7 b (by omega), p4 b (by omega), p1 b (by omega)]
                have e2 : A7 (b + 1) = A2 (b + 1) := by rw [p8 (b + 1) (by omega), hA3 (b + 1) (by omega) (by omega)]
                have k1 : wm F7 A7 b = V := by unfold wm; rw [e1, e2, eb, v2]
                have e3 : F8 q = F5 q := by rw [p11 q (by omega), p7 q (by omega), p4 q (by omega)]
                have e4 : A8 (q + 1) = A3 (q + 1) := by rw [p12 (q + 1) (by omega), p8 (q + 1) (by omega)]
                have e5 : F8 w = F7 w := p11 w (by omega)
                have e6 : A8 (w + 1) = A7 (w + 1) := p12 (w + 1) (by omega)
                have hH : dv 1000000000 (A3 (w + 1)) (n + 1) = dv 1000000000 (fun j => A3 (w + 1) ((0 : Nat) + j)) (n + 1) := dv_congr (fun j a c => by show _ = A3 _ _; congr 1; omega)
                have hQ : dv 1000000000 (A3 (q + 1)) (tp + 1) = dv 1000000000 (fun j => A3 (q + 1) ((0 : Nat) + j)) (tp + 1) := dv_congr (fun j a c => by show _ = A3 _ _; congr 1; omega)
                have hH0 := dv_nonneg (B := 1000000000) (f := fun j => A3 (w + 1) ((0 : Nat) + j)) (n := n + 1) (by decide) (fun j a c => (hHd j a (by omega)).1)
                have hQ0 := dv_nonneg (B := 1000000000) (f := A3 (q + 1)) (n := tp + 1) (by decide) (fun j a c => (hqd j (by omega) (by omega)).1)
                rw [Nat.sub_zero, ← hQ, ← hH] at heq
                rw [← hH] at hHlt hH0
                simp only [dv, Int.pow_zero, Int.mul_one, Int.one_mul, Int.add_zero] at heq
                have uq := kn_q (W := U) (g := dv 1000000000 (A3 (q + 1)) (tp + 1)) V0 (by rw [Int.add_mul, Int.one_mul, Int.mul_comm _ V]; simp only [dv] at hHlt hH0 ⊢; omega) (by rw [Int.mul_comm _ V]; simp only [dv] at hHlt hH0 ⊢; omega)
                have k2 : wm F5 A3 q = dv 1000000000 (A3 (q + 1)) (tp + 1) := by rw [wm_of_wv p2 p3, Int.one_mul, show (F w 1 - F b 1 + 1).toNat = tp + 1 by omega]; omega
                have k3 : wm F6 A3 w = dv 1000000000 (A3 (w + 1)) (n + 1) := by rw [wm_of_wv p5 p6, Int.one_mul, eb]; omega
                have k4 : dv 1000000000 (A3 (w + 1)) (n + 1) = U % V := by rw [uq.2, Int.mul_comm _ V]; simp only [dv] at heq ⊢; omega
                have s6 : wm F6 A3 w / f = wm F A w % wm F A b := by rw [k3, k4, rU]; exact Int.mul_ediv_cancel_left _ (by omega)
                refine ⟨fun o a1 a2 a3 => by rw [p11 o a2, p7 o a1, p4 o a1, p1 o a3], fun a a1 a2 a3 => by rw [p12 a a2, p8 a a1, hA3 a a1 a3, hA2 a a2, hA1 a a1, hA0, uA_ne a1], WOK_of e5 e6 p9, p13, WOK_of (F := F5) (A := A3) e3 e4 p2, ?_, ?_, ?_, ?_⟩
                · rw [wm_of (F := F5) (A := A3) e3 e4, k2, ← qU, uq.1]
                · rw [wm_of e5 e6, wm_of_wv p9 p10, s6]
                  have q0 := Int.emod_nonneg (wm F A w) (show wm F A b ≠ 0 by omega)
                  have sg := wv_pos_iff p5
                  rcases Int.lt_or_le 0 (wm F A w % wm F A b) with r | r
                  · have : F6 w 0 = 1 := by
                      rcases sg with u | u | u
                      · exact u.1
                      · exfalso
                        have z0 : wm F6 A3 w = 0 := by rw [wm_of_wv p5 u.2]; rfl
                        rw [z0] at s6; simp at s6; omega
                      · exfalso
                        have := p6
                        have nn := wm_nonneg p5
                        unfold wv at this
                        rw [u.1] at this
                        have : 0 ≤ dv 1000000000 (A3 (w + 1)) (n + 1) := hH0
                        rw [Int.one_mul, eb] at *
                        omega
                    rw [this]; omega
                  · have z0 : wm F A w % wm F A b = 0 := by omega
                    rw [z0, Int.mul_zero]; rfl
                · rw [p14, k1, e1, hV, Int.mul_ediv_cancel_left _ (by omega)]; rfl
                · intro _
                  have sg := wv_pos_iff p9
                  have sg6 := wv_pos_iff p5
                  have r0 : 0 ≤ wm F6 A3 w / f := by rw [s6]; exact Int.emod_nonneg _ (by omega)
                  have f6 : 0 ≤ F6 w 0 := by
                    rcases sg6 with u | u | u
                    · omega
                    · omega
                    · exfalso
                      have := p6
                      rw [Int.one_mul, eb] at this
                      omega
                  have m0 := Int.mul_nonneg f6 r0
                  rw [← p10] at m0
                  rw [e5]
                  omega⟩ dX6_divide_178
            · exfalso; omega
          · obtain ⟨i', rfl⟩ : ∃ i' : Nat, i = i' + 1 := ⟨i - 1, by omega⟩
            have ei : ((i' + 1 : Nat) : Int) - 1 = i' := by omega
            rw [ei]
            have bA : A3 (b + 1) = A2 (b + 1) := hA3 (b + 1) (by omega) (by omega)
            have li := hlow i' (by omega)
            have ld := d1 i' (by omega) (by omega)
            rw [← w2] at ld
            have eW : dv 1000000000 (win A3 w i') (n + 1 + 1) = A3 (w + 1) i' + 1000000000 * dv 1000000000 (fun j => A3 (w + 1) ((i' + 1 : Nat) + j)) (n + 1) := dv_shift i' (n + 1)
            have H0 := dv_nonneg (B := 1000000000) (f := fun j => A3 (w + 1) ((i' + 1 : Nat) + j)) (n := n + 1) (by decide) (fun j a c => (hHd j a (by omega)).1)
            have dW : dig 1000000000 (win A3 w i') (F b 1 + 1) := fun j a c => by
              by_cases e : j = 0
              · show 0 ≤ A3 (w + 1) (i' + j) ∧ A3 (w + 1) (i' + j) < _
                rw [e, Int.add_zero, li]; exact ld
              · have := hHd (j - 1) (by omega) (by omega)
                rw [show ((i' + 1 : Nat) : Int) + (j - 1) = i' + j by omega] at this
                exact this
            refine x_iload (pc2 := 125) hC rfl dX6_divide_123 rfl ?_
            refine x_if_lt (tgt := 150) (pc2 := 128) hC (by omega) dX6_divide_125 rfl rfl (fun h_125 => ?_) (fun h_125 => ?_)
            · exfalso; omega
            · refine x_aload_n (pc2 := 129) hC rfl rfl dX6_divide_128 rfl ?_
              refine g_142 (pc2 := 132) hC hK (by assumption) (by assumption) (by assumption) dX6_divide_129 rfl ?_
              refine x_iload (pc2 := 134) hC rfl dX6_divide_132 rfl ?_
              refine x_aload_n (pc2 := 135) hC rfl rfl dX6_divide_134 rfl ?_
              refine x_aload_n (pc2 := 136) hC rfl rfl dX6_divide_135 rfl ?_
              refine x_iload (pc2 := 138) hC rfl dX6_divide_136 rfl ?_
              refine x_iload (pc2 := 140) hC rfl dX6_divide_138 rfl ?_
              refine x_cVi (pc2 := 143) (ci := 6) hC hK (m_divideLimb l hw hb nwb ⟨by omega, by omega, by omega⟩ (by rw [bA]; exact d2) dW (by rw [bA]; exact hno) (by rw [bA, eb, v2, eW]; omega)) lk_617 rfl rfl (by decide) (by assumption) (by assumption) ⟨Nat.le_of_ble_eq_true rfl, Nat.le_of_ble_eq_true rfl⟩ ⟨Nat.le_refl _, Nat.le_refl _⟩ rfl (Nat.le_of_ble_eq_true rfl) dX6_divide_140 rfl ?_
              rintro z F4 A4 ⟨y1, e140, y2, y3, y4, y5⟩
              obtain rfl := e140.symm
              rw [bA, eb, v2] at y1 y5
              refine x_iast (pc2 := 144) hC hK (by assumption) (by assumption) ⟨by omega, by omega⟩ (by decide) dX6_divide_143 rfl ?_
              refine x_iinc (pc2 := 147) (loc2 := [_, _, _, _, _, _, _]) hC (by decide) rfl rfl dX6_divide_144 rfl ?_
              refine x_goto (pc2 := 123) hC dX6_divide_147 rfl ?_
              have W0 : 0 ≤ dv 1000000000 (win A3 w i') (n + 1 + 1) := by omega
              have WV : dv 1000000000 (win A3 w i') (n + 1 + 1) < 1000000000 * V := by omega
              have z0 : 0 ≤ z := by rw [y1]; exact Int.ediv_nonneg W0 (by omega)
              have z1 : z < 1000000000 := by rw [y1]; exact Int.ediv_lt_of_lt_mul V0 (by omega)
              have rl := Int.emod_lt_of_pos (dv 1000000000 (win A3 w i') (n + 1 + 1)) V0
              have tz := top_zero (B := 1000000000) (f := win A4 w i') (n := n + 1) (by decide) (fun j a c => y4 j a (by omega)) (by rw [y5]; omega)
              refine ih i' _ (by omega) (by omega) (fun a a1 a2 => by rw [uA_ne a2, y2 a a1, hA3 a a1 a2]) (fun j hj => by rw [uA_ne (by omega), y3 j (by omega), hlow j (by omega)]) (fun j a c => by rw [uA_ne (by omega)]; exact y4 j a (by omega)) ?_ (fun j a c => ?_) ?_
              · rw [uA_ne (by omega)]
                show dv 1000000000 (win A4 w i') (n + 1) < V
                rw [← tz.2, y5]; exact rl
              · rw [uA_at]
                by_cases e : j = i'
                · rw [if_pos e]; omega
                · rw [if_neg e, y2 (q + 1) (by omega)]; exact hqd j (by omega) c
              · have hz := Int.mul_ediv_add_emod (dv 1000000000 (win A3 w i') (n + 1 + 1)) V
                rw [← y1] at hz
                rw [show tp + 1 - i' = (tp + 1 - (i' + 1)) + 1 by omega, dv_shift, uA_eq, uA_ne (show w + 1 ≠ q + 1 by omega)]
                rw [dv_congr (f := fun j : Int => uA A4 (q + 1) (i' : Int) z (q + 1) ((i' + 1 : Nat) + j)) (g := fun j => A3 (q + 1) ((i' + 1 : Nat) + j)) (fun j a c => by show uA _ _ _ _ _ _ = _; rw [uA_ni (by omega), y2 (q + 1) (by omega)])]
                have hh : dv 1000000000 (fun j => A4 (w + 1) (i' + j)) (n + 1) = dv 1000000000 (win A3 w i') (n + 1 + 1) % V := by
                  show dv 1000000000 (win A4 w i') (n + 1) = _
                  rw [← tz.2, y5]
                rw [hh]
                refine div_step (a := A2 (w + 1) i') (W := dv 1000000000 (win A3 w i') (n + 1 + 1)) ?_ (by rw [eW, li]) hz
                rw [heq, Int.pow_succ]
                rfl
      refine x_iload (pc2 := 121) hC rfl dX6_divide_119 rfl ?_
      refine x_istore (pc2 := 123) (loc2 := [_, _, _, _, _, _, _]) hC (by decide) rfl dX6_divide_121 rfl ?_
      refine (fun q => ?_) (loop (tp + 2) (tp + 1) A2 (by omega) (by omega) (fun _ _ _ => rfl) (fun _ _ => rfl) (fun j a c => by rw [w2]; exact d1 _ (by omega) (by omega)) ?_ (fun j a c => by omega) ?_)
      · rw [htp]
        rw [show ((tp + 1 : Nat) : Int) - 1 = (tp : Int) by omega, htp] at q
        exact q
      · have sp := dv_split (B := 1000000000) (f := A2 (w + 1)) (tp + 1) (n + 1)
        rw [show tp + 1 + (n + 1) = (F w 1 + 1).toNat by omega, w2, v1] at sp
        have lo := dv_nonneg (B := 1000000000) (f := A1 (w + 1)) (n := tp + 1) (by decide) (fun j a c => (d1 j a (by omega)).1)
        rw [w2]
        apply Classical.byContradiction
        intro r
        have P1 := pow_pos' (B := 1000000000) (by decide) (tp + 1)
        have a := Int.mul_le_mul_of_nonneg_left (show V ≤ _ from Int.not_lt.mp r) (Int.le_of_lt P1)
        have c : f * (t * 1000000000 ^ n) ≤ V := by rw [hV, vb]; exact Int.mul_le_mul_of_nonneg_left (by omega) (by omega)
        have c2 : f * (1 * 1000000000 ^ n) ≤ f * (t * 1000000000 ^ n) := Int.mul_le_mul_of_nonneg_left (Int.mul_le_mul_of_nonneg_right (by omega) (by omega)) (by omega)
        rw [Int.one_mul] at c2
        have d : f * wm F A w < f * 1000000000 ^ (F w 1).toNat := Int.mul_lt_mul_of_pos_left (wm_lt h0) (by omega)
        have e : 1000000000 ^ (tp + 1) * (f * 1000000000 ^ n) = f * 1000000000 ^ (F w 1).toNat := by
          rw [show (F w 1).toNat = (tp + 1) + n by omega, Int.pow_add _ (tp + 1) n]
          exact Int.mul_left_comm _ _ _
        have g := Int.mul_le_mul_of_nonneg_left (show f * 1000000000 ^ n ≤ V by omega) (Int.le_of_lt P1)
        omega
      · rw [Nat.sub_self, show dv 1000000000 (fun j => A2 (q + 1) (((tp + 1 : Nat) : Int) + j)) 0 = 0 from rfl, Int.mul_zero, Int.zero_add, ← dv_split, w2, show tp + 1 + (n + 1) = (F w 1 + 1).toNat by omega, v1]
    refine x_ldc (pc2 := 59) (z := 1000000000) hC wt_612 rfl dX6_divide_57 rfl ?_
    refine x_aload_n (pc2 := 60) hC rfl rfl dX6_divide_59 rfl ?_
    refine g_142 (pc2 := 63) hC hK (by assumption) (by assumption) (by assumption) dX6_divide_60 rfl ?_
    refine x_aload_n (pc2 := 64) hC rfl rfl dX6_divide_63 rfl ?_
    refine g_140 (pc2 := 67) hC hK (by assumption) (by assumption) dX6_divide_64 rfl ?_
    refine x_iconst (pc2 := 68) hC dX6_divide_67 rfl ?_
    refine x_isub (pc2 := 69) hC dX6_divide_68 rfl ?_
    refine x_iald (pc2 := 70) hC hK (by assumption) (by assumption) ⟨by omega, by omega⟩ (by decide) dX6_divide_69 rfl ?_
    rw [← ht]
    refine x_iconst (pc2 := 71) hC dX6_divide_70 rfl ?_
    refine x_iadd (pc2 := 72) hC dX6_divide_71 rfl ?_
    refine x_idivp (pc2 := 73) hC (by omega) (by omega) (by omega) (by omega) dX6_divide_72 rfl ?_
    rw [← hf]
    refine x_istore_n (pc2 := 74) (loc2 := [_, _, _, _, _, _, _]) hC rfl (by decide) rfl dX6_divide_73 rfl ?_
    refine x_aload_n (pc2 := 75) hC rfl rfl dX6_divide_74 rfl ?_
    refine g_140 (pc2 := 78) hC hK (by assumption) (by assumption) dX6_divide_75 rfl ?_
    refine x_aload_n (pc2 := 79) hC rfl rfl dX6_divide_78 rfl ?_
    refine g_140 (pc2 := 82) hC hK (by assumption) (by assumption) dX6_divide_79 rfl ?_
    refine x_isub (pc2 := 83) hC dX6_divide_82 rfl ?_
    refine x_istore (pc2 := 85) (loc2 := [_, _, _, _, _, _, _]) hC (by decide) rfl dX6_divide_83 rfl ?_
    refine x_aload_n (pc2 := 86) hC rfl rfl dX6_divide_85 rfl ?_
    refine g_140 (pc2 := 89) hC hK (by assumption) (by assumption) dX6_divide_86 rfl ?_
    refine x_istore (pc2 := 91) (loc2 := [_, _, _, _, _, _, _]) hC (by decide) rfl dX6_divide_89 rfl ?_
    refine x_aload_n (pc2 := 92) hC rfl rfl dX6_divide_91 rfl ?_
    refine g_142 (pc2 := 95) hC hK (by assumption) (by assumption) (by assumption) dX6_divide_92 rfl ?_
    refine x_aload_n (pc2 := 96) hC rfl rfl dX6_divide_95 rfl ?_
    refine g_140 (pc2 := 99) hC hK (by assumption) (by assumption) dX6_divide_96 rfl ?_
    refine x_iconst (pc2 := 100) hC dX6_divide_99 rfl ?_
    refine x_iast (pc2 := 101) hC hK (by assumption) (by assumption) ⟨by omega, by omega⟩ (by decide) dX6_divide_100 rfl ?_
    rw [← hA0]
    refine x_aload_n (pc2 := 102) hC rfl rfl dX6_divide_101 rfl ?_
    refine x_iload_n (pc2 := 103) hC rfl rfl dX6_divide_102 rfl ?_
    refine x_aload_n (pc2 := 104) hC rfl rfl dX6_divide_103 rfl ?_
    refine g_140 (pc2 := 107) hC hK (by assumption) (by assumption) dX6_divide_104 rfl ?_
    refine x_iconst (pc2 := 108) hC dX6_divide_107 rfl ?_
    refine x_iadd (pc2 := 109) hC dX6_divide_108 rfl ?_
    refine x_cVv (pc2 := 112) (ci := 6) hC hK (m_multiplyShort l hw ⟨by omega, by omega⟩ ⟨by omega, by omega⟩ dA0 (by rw [vA0]; exact fw)) lk_613 rfl rfl (by decide) (by assumption) (by assumption) ⟨Nat.le_of_ble_eq_true rfl, Nat.le_of_ble_eq_true rfl⟩ ⟨Nat.le_refl _, Nat.le_refl _⟩ rfl (Nat.le_of_ble_eq_true rfl) dX6_divide_109 rfl ?_
    rintro F1 A1 ⟨e109, x1, x2, x3, x4⟩
    obtain rfl := e109.symm
    rw [vA0, ← hU] at x4
    have bA1 : A1 (b + 1) = A (b + 1) := by rw [x1 (b + 1) (by omega), hA0, uA_ne (by omega)]
    refine x_aload_n (pc2 := 113) hC rfl rfl dX6_divide_112 rfl ?_
    refine x_iload_n (pc2 := 114) hC rfl rfl dX6_divide_113 rfl ?_
    refine x_iload (pc2 := 116) hC rfl dX6_divide_114 rfl ?_
    refine x_cVv (pc2 := 119) (ci := 6) hC hK (m_multiplyShort l hb ⟨by omega, by omega⟩ ⟨by omega, by omega⟩ (by rw [bA1]; exact t3) (by rw [bA1]; exact fb)) lk_613 rfl rfl (by decide) (by assumption) (by assumption) ⟨Nat.le_of_ble_eq_true rfl, Nat.le_of_ble_eq_true rfl⟩ ⟨Nat.le_refl _, Nat.le_refl _⟩ rfl (Nat.le_of_ble_eq_true rfl) dX6_divide_116 rfl ?_
    rintro F2 A2 ⟨e116, y1, y2, y3, y4⟩
    obtain rfl := e116.symm
    rw [bA1] at y4
    have y4 : dv 1000000000 (A2 (b + 1)) (F b 1).toNat = V := y4.trans hV.symm
    exact fin A1 A2 x1 x3 x4 y1 y3 y4
  refine x_aload_n (pc2 := 1) hC rfl rfl dX6_divide_0 rfl ?_
  refine g_140 (pc2 := 4) hC hK (by assumption) (by assumption) dX6_divide_1 rfl ?_
  refine x_if_eq (tgt := 24) (pc2 := 7) hC (by omega) dX6_divide_4 rfl rfl (fun h_4 => ?_) (fun h_4 => ?_)
  · refine x_aload_n (pc2 := 25) hC rfl rfl dX6_divide_24 rfl ?_
    refine x_cVv (pc2 := 28) (ci := 6) hC hK (m_clear l hq) lk_500 rfl rfl (by decide) (by assumption) (by assumption) ⟨Nat.le_of_ble_eq_true rfl, Nat.le_of_ble_eq_true rfl⟩ ⟨Nat.le_refl _, Nat.le_refl _⟩ rfl (Nat.le_of_ble_eq_true rfl) dX6_divide_25 rfl ?_
    rintro F25 A25 hcl
    obtain rfl := (show A25 = A from hcl.1).symm
    exact x_vret hC hr hlk ⟨rfl, div_fin_small h0 h1 nwq nbq (by first | exact Or.inl h_4 | (right; have e : ¬ wm F A b ≤ wm F A w := (fun q => absurd (sgc_ge.mpr q) (by omega)); omega) | (exfalso; omega)) hcl⟩ dX6_divide_28
  · refine x_aload_n (pc2 := 8) hC rfl rfl dX6_divide_7 rfl ?_
    refine x_aload_n (pc2 := 9) hC rfl rfl dX6_divide_8 rfl ?_
    refine x_cVi (pc2 := 12) (ci := 6) hC hK (m_compareLimbs l hw hb h0 h1) lk_523 rfl rfl (by decide) (by assumption) (by assumption) ⟨Nat.le_of_ble_eq_true rfl, Nat.le_of_ble_eq_true rfl⟩ ⟨Nat.le_refl _, Nat.le_refl _⟩ rfl (Nat.le_of_ble_eq_true rfl) dX6_divide_9 rfl ?_
    rintro z9 F9 A9 ⟨rfl, e19, e29⟩
    obtain rfl := e19.symm
    obtain rfl := e29.symm
    refine x_if_lt (tgt := 24) (pc2 := 15) hC (by have := @sgc_I (wm F A w) (wm F A b); omega) dX6_divide_12 rfl rfl (fun h_12 => ?_) (fun h_12 => ?_)
    · refine x_aload_n (pc2 := 25) hC rfl rfl dX6_divide_24 rfl ?_
      refine x_cVv (pc2 := 28) (ci := 6) hC hK (m_clear l hq) lk_500 rfl rfl (by decide) (by assumption) (by assumption) ⟨Nat.le_of_ble_eq_true rfl, Nat.le_of_ble_eq_true rfl⟩ ⟨Nat.le_refl _, Nat.le_refl _⟩ rfl (Nat.le_of_ble_eq_true rfl) dX6_divide_25 rfl ?_
      rintro F25 A25 hcl
      obtain rfl := (show A25 = A from hcl.1).symm
      exact x_vret hC hr hlk ⟨rfl, div_fin_small h0 h1 nwq nbq (by first | exact Or.inl h_4 | (right; have e : ¬ wm F A b ≤ wm F A w := (fun q => absurd (sgc_ge.mpr q) (by omega)); omega) | (exfalso; omega)) hcl⟩ dX6_divide_28
    · refine x_aload_n (pc2 := 16) hC rfl rfl dX6_divide_15 rfl ?_
      refine g_140 (pc2 := 19) hC hK (by assumption) (by assumption) dX6_divide_16 rfl ?_
      refine x_bipush (pc2 := 21) hC rfl dX6_divide_19 rfl ?_
      refine x_icmp_lt (tgt := 29) (pc2 := 24) hC (by omega) (by omega) dX6_divide_21 rfl rfl (fun h_21 => ?_) (fun h_21 => ?_)
      · refine x_aload_n (pc2 := 30) hC rfl rfl dX6_divide_29 rfl ?_
        refine g_140 (pc2 := 33) hC hK (by assumption) (by assumption) dX6_divide_30 rfl ?_
        refine x_iconst (pc2 := 34) hC dX6_divide_33 rfl ?_
        refine x_icmp_ne (tgt := 57) (pc2 := 37) hC (by omega) (by omega) dX6_divide_34 rfl rfl (fun h_34 => ?_) (fun h_34 => ?_)
        · exact main (by omega) (sgc_ge.mp h_12)
        · refine x_aload_n (pc2 := 38) hC rfl rfl dX6_divide_37 rfl ?_
          refine x_aload_n (pc2 := 39) hC rfl rfl dX6_divide_38 rfl ?_
          refine x_cVv (pc2 := 42) (ci := 6) hC hK (m_assign l hq hw h0) lk_511 rfl rfl (by decide) (by assumption) (by assumption) ⟨Nat.le_of_ble_eq_true rfl, Nat.le_of_ble_eq_true rfl⟩ ⟨Nat.le_refl _, Nat.le_refl _⟩ rfl (Nat.le_of_ble_eq_true rfl) dX6_divide_39 rfl ?_
          rintro F38 A38 ⟨k1, k2, k3, k4⟩
          obtain ⟨k5, k6⟩ := wm_eq_of h0 k3 k4
          have eb : A38 (b + 1) = A (b + 1) := k2 (b + 1) (by omega)
          have d0 := t3 0 (by omega) (by omega)
          have d1 := t4 (by omega)
          rw [show F b 1 - 1 = 0 by omega] at d1
          have vb : wm F A b = A (b + 1) 0 := by unfold wm; rw [show (F b 1).toNat = 1 by omega]; simp [dv]
          refine x_aload_n (pc2 := 43) hC rfl rfl dX6_divide_42 rfl ?_
          refine x_aload_n (pc2 := 44) hC rfl rfl dX6_divide_43 rfl ?_
          refine x_aload_n (pc2 := 45) hC rfl rfl dX6_divide_44 rfl ?_
          refine g_142 (pc2 := 48) hC hK (by assumption) (by assumption) (by assumption) dX6_divide_45 rfl ?_
          refine x_iconst (pc2 := 49) hC dX6_divide_48 rfl ?_
          refine x_iald (pc2 := 50) hC hK (by assumption) (by assumption) ⟨by omega, by omega⟩ (by decide) dX6_divide_49 rfl ?_
          refine x_cVl (pc2 := 53) (ci := 6) hC hK (m_divideShort l hq k3 (by rw [eb]; omega)) lk_607 rfl rfl (by decide) (by assumption) (by assumption) ⟨Nat.le_of_ble_eq_true rfl, Nat.le_of_ble_eq_true rfl⟩ ⟨Nat.le_refl _, Nat.le_refl _⟩ rfl (Nat.le_of_ble_eq_true rfl) dX6_divide_50 rfl ?_
          rintro z F50 A50 ⟨k7, k8, k9, k10, k11⟩
          rw [eb, k6] at k7
          rw [eb, k6, k5] at k11
          have zz0 := Int.emod_nonneg (wm F A w) (show A (b + 1) 0 ≠ 0 by omega)
          have zz1 := Int.emod_lt_of_pos (wm F A w) (show 0 < A (b + 1) 0 by omega)
          refine x_cVv (pc2 := 56) (ci := 6) hC hK (m_putSmall l hw ⟨by omega, by omega⟩) lk_611 rfl rfl (by decide) (by assumption) (by assumption) ⟨Nat.le_of_ble_eq_true rfl, Nat.le_of_ble_eq_true rfl⟩ ⟨Nat.le_refl _, Nat.le_refl _⟩ rfl (Nat.le_of_ble_eq_true rfl) dX6_divide_53 rfl ?_
          rintro F53 A53 ⟨k12, k13, k14, k15⟩
          exact x_vret hC hr hlk ⟨rfl, fun o a1 a2 a3 => by rw [k12 o a1, k8 o a3, k1 o a3], fun a a1 a2 a3 => by rw [k13 a a1, k9 a a3, k2 a a3], k14, WOK_of (by rw [k12 b (by omega), k8 b (by omega), k1 b (by omega)]) (by rw [k13 (b + 1) (by omega), k9 (b + 1) (by omega), eb]) h1, WOK_of (k12 q (by omega)) (k13 (q + 1) (by omega)) k10, by
              rw [wm_of (k12 q (by omega)) (k13 (q + 1) (by omega)), wm_of_wv k10 k11, vb]
              have g0 : 0 ≤ wm F A w / A (b + 1) 0 := Int.ediv_nonneg (wm_nonneg h0) (by omega)
              rcases s5 with ⟨u1, u2⟩ | ⟨u1, u2 | u2⟩
              · rw [wm_zero (by omega)]; simp
              · rw [u2, Int.one_mul]; omega
              · rw [u2]; omega, by rw [wm_of_wv k14 k15, vb, k7]; omega, wv_of (by rw [k12 b (by omega), k8 b (by omega), k1 b (by omega)]) (by rw [k13 (b + 1) (by omega), k9 (b + 1) (by omega), eb]), fun _ => by
              have := wv_pos_iff k14
              rw [k15, k7] at this
              omega⟩ dX6_divide_56
      · refine x_aload_n (pc2 := 25) hC rfl rfl dX6_divide_24 rfl ?_
        refine x_cVv (pc2 := 28) (ci := 6) hC hK (m_clear l hq) lk_500 rfl rfl (by decide) (by assumption) (by assumption) ⟨Nat.le_of_ble_eq_true rfl, Nat.le_of_ble_eq_true rfl⟩ ⟨Nat.le_refl _, Nat.le_refl _⟩ rfl (Nat.le_of_ble_eq_true rfl) dX6_divide_25 rfl ?_
        rintro F25 A25 hcl
        obtain rfl := (show A25 = A from hcl.1).symm
        exact x_vret hC hr hlk ⟨rfl, div_fin_small h0 h1 nwq nbq (by first | exact Or.inl h_4 | (right; have e : ¬ wm F A b ≤ wm F A w := (fun q => absurd (sgc_ge.mpr q) (by omega)); omega) | (exfalso; omega)) hcl⟩ dX6_divide_28
