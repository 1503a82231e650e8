/-! one limb of a quotient, by two limbs of one -/
theorem kn_ge0 {B P v1 vr V h hr W g l : Int} (hB : 1 < B) (hP : 0 < P) (hV : V = v1 * (B * P) + vr) (hvr : 0 ≤ vr) (hW : W = h * (B * P) + hr) (hhr : hr < B * P) (he : g * v1 + l = h) (hl : l < v1) (hg : 0 ≤ g) : W < (g + 1) * V := by
  have q : 0 < B * P := Int.mul_pos (by omega) hP
  have a : (h + 1) * (B * P) ≤ ((g + 1) * v1) * (B * P) := Int.mul_le_mul_of_nonneg_right (by rw [Int.add_mul]; omega) (by omega)
  have b : 0 ≤ (g + 1) * vr := Int.mul_nonneg (by omega) hvr
  have c : (g + 1) * V = ((g + 1) * v1) * (B * P) + (g + 1) * vr := by rw [hV]; grind
  have d : (h + 1) * (B * P) = h * (B * P) + B * P := by rw [Int.add_mul, Int.one_mul]
  omega
theorem kn_dec {B P v1 v2 vl V h u2 wl W g l : Int} (hP : 0 < P) (hV : V = (v1 * B + v2) * P + vl) (hvl : 0 ≤ vl) (hW : W = (h * B + u2) * P + wl) (hwl : wl < P) (he : g * v1 + l = h) (hg : 0 ≤ g) (hc : l * B + u2 < g * v2) : W < g * V := by
  have e : g * V = (g * v1 * B + g * v2) * P + g * vl := by rw [hV]; grind
  have a : (h * B + u2 + 1) * P ≤ (g * v1 * B + g * v2) * P := Int.mul_le_mul_of_nonneg_right (by rw [← he, Int.add_mul]; omega) (by omega)
  have b : 0 ≤ g * vl := Int.mul_nonneg hg hvl
  rw [Int.add_mul, Int.one_mul] at a
  omega
theorem kn_ex1 {B P v1 v2 vl V h u2 wl W g l : Int} (hB : 1 < B) (hP : 0 < P) (hv1 : 1 ≤ v1) (hv2 : 0 ≤ v2) (hV : V = (v1 * B + v2) * P + vl) (hvl : 0 ≤ vl) (hvl2 : vl < P) (hW : W = (h * B + u2) * P + wl) (hwl : 0 ≤ wl) (he : g * v1 + l = h) (hg : 0 ≤ g) (hgB : g < B) (hc : g * v2 ≤ l * B + u2) : g * V ≤ W + V := by
  have e : g * V = (g * v1 * B + g * v2) * P + g * vl := by rw [hV]; grind
  have a : (g * v1 * B + g * v2) * P ≤ (h * B + u2) * P := Int.mul_le_mul_of_nonneg_right (by rw [← he, Int.add_mul]; omega) (by omega)
  have b : g * vl ≤ B * P := Int.mul_le_mul (by omega) (by omega) hvl (by omega)
  have c : 1 * B * P ≤ (v1 * B + v2) * P := Int.mul_le_mul_of_nonneg_right (by have := Int.mul_le_mul_of_nonneg_right hv1 (show 0 ≤ B by omega); omega) (by omega)
  rw [Int.one_mul] at c
  omega
theorem kn_ex2 {B P v1 vr V h hr W g l : Int} (hB : 1 < B) (hP : 0 < P) (hv1 : 1 ≤ v1) (hV : V = v1 * (B * P) + vr) (hvr : 0 ≤ vr) (hvr2 : vr < B * P) (hW : W = h * (B * P) + hr) (hhr : 0 ≤ hr) (he : g * v1 + l = h) (hg : 0 ≤ g) (hl : B ≤ l) (hWB : W < B * V) : g * V ≤ W + V := by
  have q : 0 < B * P := Int.mul_pos (by omega) hP
  have gB : g < B := by
    apply Classical.byContradiction
    intro r
    have a : B * v1 ≤ g * v1 := Int.mul_le_mul_of_nonneg_right (by omega) (by omega)
    have b : (B * v1 + B) * (B * P) ≤ h * (B * P) := Int.mul_le_mul_of_nonneg_right (by omega) (by omega)
    have c : B * vr < B * (B * P) := Int.mul_lt_mul_of_pos_left hvr2 (by omega)
    have d : B * V = B * v1 * (B * P) + B * vr := by rw [hV]; grind
    have f : (B * v1 + B) * (B * P) = B * v1 * (B * P) + B * (B * P) := by rw [Int.add_mul]
    omega
  have a : (g * v1 + g) * (B * P) ≤ h * (B * P) := Int.mul_le_mul_of_nonneg_right (by omega) (by omega)
  have b : g * vr ≤ g * (B * P) := Int.mul_le_mul_of_nonneg_left (by omega) hg
  have d : g * V = g * v1 * (B * P) + g * vr := by rw [hV]; grind
  have f : (g * v1 + g) * (B * P) = g * v1 * (B * P) + g * (B * P) := by rw [Int.add_mul]
  have v0 : 0 ≤ V := by rw [hV]; have := Int.mul_nonneg (show 0 ≤ v1 by omega) (Int.le_of_lt q); omega
  omega
/-- the quotient, when the guess is it or one more -/
theorem kn_q {W V g : Int} (hV : 0 < V) (h1 : W < (g + 1) * V) (h2 : g * V ≤ W) : W / V = g ∧ W % V = W - g * V := by
  have e : W / V = g := dv_uni hV (by rw [Int.mul_comm]; exact h2) (by rw [Int.mul_comm V g]; rw [Int.add_mul, Int.one_mul] at h1; exact h1)
  refine ⟨e, ?_⟩
  have := Int.mul_ediv_add_emod W V
  rw [e, Int.mul_comm] at this
  omega
theorem dv_head {B : Int} {f : Int → Int} (n : Nat) : dv B f (n + 2) = (f (n + 1) * B + f n) * B ^ n + dv B f n := by
  simp only [dv]
  rw [Int.pow_succ]
  generalize B ^ n = P
  rw [show f ((n + 1 : Nat) : Int) = f ((n : Int) + 1) from rfl]
  grind
theorem dv_head3 {B : Int} {f : Int → Int} (n : Nat) : dv B f (n + 3) = ((f (n + 2) * B + f (n + 1)) * B + f n) * B ^ n + dv B f n := by
  simp only [dv]
  rw [Int.pow_succ B (n + 1), Int.pow_succ B n]
  generalize B ^ n = P
  rw [show f ((n + 1 : Nat) : Int) = f ((n : Int) + 1) from rfl, show f ((n + 2 : Nat) : Int) = f ((n : Int) + 2) from rfl]
  grind
theorem carry_0 {d z T M : Int} (e : d + z * M = T) (hd0 : 0 ≤ d) (hd1 : d < M) (h0 : 0 ≤ T) (h1 : T < M) : z = 0 ∧ d = T := by
  have hz : z = 0 := by
    rcases Int.lt_trichotomy z 0 with q | q | q
    · have := Int.mul_le_mul_of_nonneg_right (show z ≤ -1 by omega) (show 0 ≤ M by omega); omega
    · exact q
    · have := Int.mul_le_mul_of_nonneg_right (show 1 ≤ z by omega) (show 0 ≤ M by omega); omega
  subst hz; omega
theorem carry_sgn {d z T M : Int} (e : d + z * M = T) (hd0 : 0 ≤ d) (hd1 : d < M) : 0 ≤ z ↔ 0 ≤ T := by
  constructor
  · intro h; have := Int.mul_nonneg h (show 0 ≤ M by omega); omega
  · intro h
    apply Classical.byContradiction
    intro q
    have := Int.mul_le_mul_of_nonneg_right (show z ≤ -1 by omega) (show 0 ≤ M by omega); omega
def Q_dl (F : Nat → Nat → Int) (A : Nat → Int → Int) (w b : Nat) (bs k : Int) : Int → (Nat → Nat → Int) → (Nat → Int → Int) → Prop := fun z F' A' => z = dv 1000000000 (win A w k) (bs.toNat + 1) / dv 1000000000 (A (b + 1)) bs.toNat ∧ F' = F ∧ (∀ a, a ≠ w + 1 → A' a = A a) ∧ (∀ j, j < k ∨ k + bs < j → A' (w + 1) j = A (w + 1) j) ∧ dig 1000000000 (win A' w k) (bs + 1) ∧ dv 1000000000 (win A' w k) (bs.toNat + 1) = dv 1000000000 (win A w k) (bs.toNat + 1) % dv 1000000000 (A (b + 1)) bs.toNat
theorem dX6_divideLimb_0 : decode cX6_divideLimb 0 = .ok (.aload_n 1, 1) := by decide +kernel
theorem dX6_divideLimb_1 : decode cX6_divideLimb 1 = .ok (.getfield 9, 3) := by decide +kernel
theorem dX6_divideLimb_4 : decode cX6_divideLimb 4 = .ok (.astore 4, 2) := by decide +kernel
theorem dX6_divideLimb_6 : decode cX6_divideLimb 6 = .ok (.aload 4, 2) := by decide +kernel
theorem dX6_divideLimb_8 : decode cX6_divideLimb 8 = .ok (.iload_n 2, 1) := by decide +kernel
theorem dX6_divideLimb_9 : decode cX6_divideLimb 9 = .ok (.iconst 1, 1) := by decide +kernel
theorem dX6_divideLimb_10 : decode cX6_divideLimb 10 = .ok (.isub, 1) := by decide +kernel
theorem dX6_divideLimb_11 : decode cX6_divideLimb 11 = .ok (.iaload, 1) := by decide +kernel
theorem dX6_divideLimb_12 : decode cX6_divideLimb 12 = .ok (.i2l, 1) := by decide +kernel
theorem dX6_divideLimb_13 : decode cX6_divideLimb 13 = .ok (.lstore 5, 2) := by decide +kernel
theorem dX6_divideLimb_15 : decode cX6_divideLimb 15 = .ok (.aload_n 0, 1) := by decide +kernel
theorem dX6_divideLimb_16 : decode cX6_divideLimb 16 = .ok (.getfield 9, 3) := by decide +kernel
theorem dX6_divideLimb_19 : decode cX6_divideLimb 19 = .ok (.iload_n 3, 1) := by decide +kernel
theorem dX6_divideLimb_20 : decode cX6_divideLimb 20 = .ok (.iload_n 2, 1) := by decide +kernel
theorem dX6_divideLimb_21 : decode cX6_divideLimb 21 = .ok (.iadd, 1) := by decide +kernel
theorem dX6_divideLimb_22 : decode cX6_divideLimb 22 = .ok (.iaload, 1) := by decide +kernel
theorem dX6_divideLimb_23 : decode cX6_divideLimb 23 = .ok (.i2l, 1) := by decide +kernel
theorem dX6_divideLimb_24 : decode cX6_divideLimb 24 = .ok (.ldc2_w 22, 3) := by decide +kernel
theorem dX6_divideLimb_27 : decode cX6_divideLimb 27 = .ok (.lmul, 1) := by decide +kernel
theorem dX6_divideLimb_28 : decode cX6_divideLimb 28 = .ok (.aload_n 0, 1) := by decide +kernel
theorem dX6_divideLimb_29 : decode cX6_divideLimb 29 = .ok (.getfield 9, 3) := by decide +kernel
theorem dX6_divideLimb_32 : decode cX6_divideLimb 32 = .ok (.iload_n 3, 1) := by decide +kernel
theorem dX6_divideLimb_33 : decode cX6_divideLimb 33 = .ok (.iload_n 2, 1) := by decide +kernel
theorem dX6_divideLimb_34 : decode cX6_divideLimb 34 = .ok (.iadd, 1) := by decide +kernel
theorem dX6_divideLimb_35 : decode cX6_divideLimb 35 = .ok (.iconst 1, 1) := by decide +kernel
theorem dX6_divideLimb_36 : decode cX6_divideLimb 36 = .ok (.isub, 1) := by decide +kernel
theorem dX6_divideLimb_37 : decode cX6_divideLimb 37 = .ok (.iaload, 1) := by decide +kernel
theorem dX6_divideLimb_38 : decode cX6_divideLimb 38 = .ok (.i2l, 1) := by decide +kernel
theorem dX6_divideLimb_39 : decode cX6_divideLimb 39 = .ok (.ladd, 1) := by decide +kernel
theorem dX6_divideLimb_40 : decode cX6_divideLimb 40 = .ok (.lstore 7, 2) := by decide +kernel
theorem dX6_divideLimb_42 : decode cX6_divideLimb 42 = .ok (.lload 5, 2) := by decide +kernel
theorem dX6_divideLimb_44 : decode cX6_divideLimb 44 = .ok (.lconst 0, 1) := by decide +kernel
theorem dX6_divideLimb_45 : decode cX6_divideLimb 45 = .ok (.lcmp, 1) := by decide +kernel
theorem dX6_divideLimb_46 : decode cX6_divideLimb 46 = .ok (.ifCond .ne 5, 3) := by decide +kernel
theorem dX6_divideLimb_49 : decode cX6_divideLimb 49 = .ok (.iconst 0, 1) := by decide +kernel
theorem dX6_divideLimb_50 : decode cX6_divideLimb 50 = .ok (.ireturn, 1) := by decide +kernel
theorem dX6_divideLimb_51 : decode cX6_divideLimb 51 = .ok (.lload 7, 2) := by decide +kernel
theorem dX6_divideLimb_53 : decode cX6_divideLimb 53 = .ok (.lload 5, 2) := by decide +kernel
theorem dX6_divideLimb_55 : decode cX6_divideLimb 55 = .ok (.ldiv, 1) := by decide +kernel
theorem dX6_divideLimb_56 : decode cX6_divideLimb 56 = .ok (.lstore 9, 2) := by decide +kernel
theorem dX6_divideLimb_58 : decode cX6_divideLimb 58 = .ok (.lload 7, 2) := by decide +kernel
theorem dX6_divideLimb_60 : decode cX6_divideLimb 60 = .ok (.lload 5, 2) := by decide +kernel
theorem dX6_divideLimb_62 : decode cX6_divideLimb 62 = .ok (.lrem, 1) := by decide +kernel
theorem dX6_divideLimb_63 : decode cX6_divideLimb 63 = .ok (.lstore 11, 2) := by decide +kernel
theorem dX6_divideLimb_65 : decode cX6_divideLimb 65 = .ok (.iconst 0, 1) := by decide +kernel
theorem dX6_divideLimb_66 : decode cX6_divideLimb 66 = .ok (.istore 13, 2) := by decide +kernel
theorem dX6_divideLimb_68 : decode cX6_divideLimb 68 = .ok (.iload 13, 2) := by decide +kernel
theorem dX6_divideLimb_70 : decode cX6_divideLimb 70 = .ok (.iconst 3, 1) := by decide +kernel
theorem dX6_divideLimb_71 : decode cX6_divideLimb 71 = .ok (.if_icmp .ge 75, 3) := by decide +kernel
theorem dX6_divideLimb_74 : decode cX6_divideLimb 74 = .ok (.lload 11, 2) := by decide +kernel
theorem dX6_divideLimb_76 : decode cX6_divideLimb 76 = .ok (.ldc2_w 22, 3) := by decide +kernel
theorem dX6_divideLimb_79 : decode cX6_divideLimb 79 = .ok (.lcmp, 1) := by decide +kernel
theorem dX6_divideLimb_80 : decode cX6_divideLimb 80 = .ok (.ifCond .ge 66, 3) := by decide +kernel
theorem dX6_divideLimb_83 : decode cX6_divideLimb 83 = .ok (.lload 9, 2) := by decide +kernel
theorem dX6_divideLimb_85 : decode cX6_divideLimb 85 = .ok (.ldc2_w 22, 3) := by decide +kernel
theorem dX6_divideLimb_88 : decode cX6_divideLimb 88 = .ok (.lcmp, 1) := by decide +kernel
theorem dX6_divideLimb_89 : decode cX6_divideLimb 89 = .ok (.ifCond .ge 38, 3) := by decide +kernel
theorem dX6_divideLimb_92 : decode cX6_divideLimb 92 = .ok (.lload 9, 2) := by decide +kernel
theorem dX6_divideLimb_94 : decode cX6_divideLimb 94 = .ok (.aload 4, 2) := by decide +kernel
theorem dX6_divideLimb_96 : decode cX6_divideLimb 96 = .ok (.iload_n 2, 1) := by decide +kernel
theorem dX6_divideLimb_97 : decode cX6_divideLimb 97 = .ok (.iconst 2, 1) := by decide +kernel
theorem dX6_divideLimb_98 : decode cX6_divideLimb 98 = .ok (.isub, 1) := by decide +kernel
theorem dX6_divideLimb_99 : decode cX6_divideLimb 99 = .ok (.iaload, 1) := by decide +kernel
theorem dX6_divideLimb_100 : decode cX6_divideLimb 100 = .ok (.i2l, 1) := by decide +kernel
theorem dX6_divideLimb_101 : decode cX6_divideLimb 101 = .ok (.lmul, 1) := by decide +kernel
theorem dX6_divideLimb_102 : decode cX6_divideLimb 102 = .ok (.lload 11, 2) := by decide +kernel
theorem dX6_divideLimb_104 : decode cX6_divideLimb 104 = .ok (.ldc2_w 22, 3) := by decide +kernel
theorem dX6_divideLimb_107 : decode cX6_divideLimb 107 = .ok (.lmul, 1) := by decide +kernel
theorem dX6_divideLimb_108 : decode cX6_divideLimb 108 = .ok (.aload_n 0, 1) := by decide +kernel
theorem dX6_divideLimb_109 : decode cX6_divideLimb 109 = .ok (.getfield 9, 3) := by decide +kernel
theorem dX6_divideLimb_112 : decode cX6_divideLimb 112 = .ok (.iload_n 3, 1) := by decide +kernel
theorem dX6_divideLimb_113 : decode cX6_divideLimb 113 = .ok (.iload_n 2, 1) := by decide +kernel
theorem dX6_divideLimb_114 : decode cX6_divideLimb 114 = .ok (.iadd, 1) := by decide +kernel
theorem dX6_divideLimb_115 : decode cX6_divideLimb 115 = .ok (.iconst 2, 1) := by decide +kernel
theorem dX6_divideLimb_116 : decode cX6_divideLimb 116 = .ok (.isub, 1) := by decide +kernel
theorem dX6_divideLimb_117 : decode cX6_divideLimb 117 = .ok (.iaload, 1) := by decide +kernel
theorem dX6_divideLimb_118 : decode cX6_divideLimb 118 = .ok (.i2l, 1) := by decide +kernel
theorem dX6_divideLimb_119 : decode cX6_divideLimb 119 = .ok (.ladd, 1) := by decide +kernel
theorem dX6_divideLimb_120 : decode cX6_divideLimb 120 = .ok (.lcmp, 1) := by decide +kernel
theorem dX6_divideLimb_121 : decode cX6_divideLimb 121 = .ok (.ifCond .gt 6, 3) := by decide +kernel
theorem dX6_divideLimb_124 : decode cX6_divideLimb 124 = .ok (.goto 22, 3) := by decide +kernel
theorem dX6_divideLimb_127 : decode cX6_divideLimb 127 = .ok (.lload 9, 2) := by decide +kernel
theorem dX6_divideLimb_129 : decode cX6_divideLimb 129 = .ok (.lconst 1, 1) := by decide +kernel
theorem dX6_divideLimb_130 : decode cX6_divideLimb 130 = .ok (.lsub, 1) := by decide +kernel
theorem dX6_divideLimb_131 : decode cX6_divideLimb 131 = .ok (.lstore 9, 2) := by decide +kernel
theorem dX6_divideLimb_133 : decode cX6_divideLimb 133 = .ok (.lload 11, 2) := by decide +kernel
theorem dX6_divideLimb_135 : decode cX6_divideLimb 135 = .ok (.lload 5, 2) := by decide +kernel
theorem dX6_divideLimb_137 : decode cX6_divideLimb 137 = .ok (.ladd, 1) := by decide +kernel
theorem dX6_divideLimb_138 : decode cX6_divideLimb 138 = .ok (.lstore 11, 2) := by decide +kernel
theorem dX6_divideLimb_140 : decode cX6_divideLimb 140 = .ok (.iinc 13 1, 3) := by decide +kernel
theorem dX6_divideLimb_143 : decode cX6_divideLimb 143 = .ok (.goto (-75), 3) := by decide +kernel
theorem dX6_divideLimb_146 : decode cX6_divideLimb 146 = .ok (.aload_n 0, 1) := by decide +kernel
theorem dX6_divideLimb_147 : decode cX6_divideLimb 147 = .ok (.aload_n 1, 1) := by decide +kernel
theorem dX6_divideLimb_148 : decode cX6_divideLimb 148 = .ok (.iload_n 2, 1) := by decide +kernel
theorem dX6_divideLimb_149 : decode cX6_divideLimb 149 = .ok (.iload_n 3, 1) := by decide +kernel
theorem dX6_divideLimb_150 : decode cX6_divideLimb 150 = .ok (.lload 9, 2) := by decide +kernel
theorem dX6_divideLimb_152 : decode cX6_divideLimb 152 = .ok (.lneg, 1) := by decide +kernel
theorem dX6_divideLimb_153 : decode cX6_divideLimb 153 = .ok (.invokevirtual 91, 3) := by decide +kernel
theorem dX6_divideLimb_156 : decode cX6_divideLimb 156 = .ok (.lconst 0, 1) := by decide +kernel
theorem dX6_divideLimb_157 : decode cX6_divideLimb 157 = .ok (.lcmp, 1) := by decide +kernel
theorem dX6_divideLimb_158 : decode cX6_divideLimb 158 = .ok (.ifCond .ge 18, 3) := by decide +kernel
theorem dX6_divideLimb_161 : decode cX6_divideLimb 161 = .ok (.lload 9, 2) := by decide +kernel
theorem dX6_divideLimb_163 : decode cX6_divideLimb 163 = .ok (.lconst 1, 1) := by decide +kernel
theorem dX6_divideLimb_164 : decode cX6_divideLimb 164 = .ok (.lsub, 1) := by decide +kernel
theorem dX6_divideLimb_165 : decode cX6_divideLimb 165 = .ok (.lstore 9, 2) := by decide +kernel
theorem dX6_divideLimb_167 : decode cX6_divideLimb 167 = .ok (.aload_n 0, 1) := by decide +kernel
theorem dX6_divideLimb_168 : decode cX6_divideLimb 168 = .ok (.aload_n 1, 1) := by decide +kernel
theorem dX6_divideLimb_169 : decode cX6_divideLimb 169 = .ok (.iload_n 2, 1) := by decide +kernel
theorem dX6_divideLimb_170 : decode cX6_divideLimb 170 = .ok (.iload_n 3, 1) := by decide +kernel
theorem dX6_divideLimb_171 : decode cX6_divideLimb 171 = .ok (.lconst 1, 1) := by decide +kernel
theorem dX6_divideLimb_172 : decode cX6_divideLimb 172 = .ok (.invokevirtual 91, 3) := by decide +kernel
theorem dX6_divideLimb_175 : decode cX6_divideLimb 175 = .ok (.pop2, 1) := by decide +kernel
theorem dX6_divideLimb_176 : decode cX6_divideLimb 176 = .ok (.lload 9, 2) := by decide +kernel
theorem dX6_divideLimb_178 : decode cX6_divideLimb 178 = .ok (.l2i, 1) := by decide +kernel
theorem dX6_divideLimb_179 : decode cX6_divideLimb 179 = .ok (.ireturn, 1) := by decide +kernel
set_option maxHeartbeats 4000000 in
theorem m_divideLimb (l : Launch) {D : va_G} {ids : Nat → ClassId} {β : Nat} {sh : Nat → Nat × Nat} {N : Nat} {R : Nat → Nat → Option Nat} {F : Nat → Nat → Int} {A : Nat → Int → Int} {w b : Nat} {bs k : Int} (hw : isW sh R N w) (hb : isW sh R N b) (hne : w ≠ b) (hbs : 2 ≤ bs ∧ 0 ≤ k ∧ k + bs < 80) (hdb : dig 1000000000 (A (b + 1)) bs) (hdw : dig 1000000000 (win A w k) (bs + 1)) (hno : 1000000000 ≤ 2 * A (b + 1) (bs - 1)) (hlt : dv 1000000000 (win A w k) (bs.toNat + 1) < 1000000000 * dv 1000000000 (A (b + 1)) bs.toNat) : MetX l yX6_divideLimb cX6_divideLimb 14 (some (.int)) 2 55 D ids β sh N R F A [rf w, rf b, pI bs, pI k] (pIr (Q_dl F A w b bs k)) := by
  refine MetX.of (loc := [_, _, _, _, _, _, _, _, _, _, _, _, _, _]) (plainFor_of_name (by decide +kernel)) (Nat.le_of_ble_eq_true rfl) rfl ?_
  intro p e s m args below meth c hC hK hr hlk
  obtain ⟨hw1, hw2, hw3, hw4⟩ := id hw
  have hw0 : w < N := by omega
  obtain ⟨hb1, hb2, hb3, hb4⟩ := id hb
  have hb0 : b < N := by omega
  obtain ⟨n, hn⟩ : ∃ n : Nat, bs = n + 2 := ⟨(bs - 2).toNat, by omega⟩
  have e1 : bs.toNat = n + 2 := by omega
  obtain ⟨v1, hv1⟩ : ∃ z, z = A (b + 1) (bs - 1) := ⟨_, rfl⟩
  obtain ⟨v2, hv2⟩ : ∃ z, z = A (b + 1) (bs - 2) := ⟨_, rfl⟩
  obtain ⟨u0, hu0⟩ : ∃ z, z = A (w + 1) (k + bs) := ⟨_, rfl⟩
  obtain ⟨u1, hu1⟩ : ∃ z, z = A (w + 1) (k + bs - 1) := ⟨_, rfl⟩
  obtain ⟨u2, hu2⟩ : ∃ z, z = A (w + 1) (k + bs - 2) := ⟨_, rfl⟩
  have r1 := hdb (bs - 1) (by omega) (by omega)
  have r2 := hdb (bs - 2) (by omega) (by omega)
  have x0 : 0 ≤ u0 ∧ u0 < 1000000000 := by rw [hu0]; exact hdw bs (by omega) (by omega)
  have x1 : 0 ≤ u1 ∧ u1 < 1000000000 := by rw [hu1, show k + bs - 1 = k + (bs - 1) by omega]; exact hdw (bs - 1) (by omega) (by omega)
  have x2 : 0 ≤ u2 ∧ u2 < 1000000000 := by rw [hu2, show k + bs - 2 = k + (bs - 2) by omega]; exact hdw (bs - 2) (by omega) (by omega)
  rw [← hv1] at r1 hno
  rw [← hv2] at r2
  rw [e1] at hlt
  obtain ⟨V, hV⟩ : ∃ z, z = dv 1000000000 (A (b + 1)) (n + 2) := ⟨_, rfl⟩
  obtain ⟨W0, hW⟩ : ∃ z, z = dv 1000000000 (win A w k) (n + 2 + 1) := ⟨_, rfl⟩
  obtain ⟨P, hP⟩ : ∃ z : Int, z = 1000000000 ^ n := ⟨_, rfl⟩
  have hP0 : 0 < P := by rw [hP]; exact pow_pos' (by decide) n
  obtain ⟨vl, hvl⟩ : ∃ z, z = dv 1000000000 (A (b + 1)) n := ⟨_, rfl⟩
  obtain ⟨wl, hwl⟩ : ∃ z, z = dv 1000000000 (win A w k) n := ⟨_, rfl⟩
  have hvl0 : 0 ≤ vl := by rw [hvl]; exact dv_nonneg (by decide) (fun j a c => (hdb j a (by omega)).1)
  have hvl1 : vl < P := by rw [hvl, hP]; exact dv_lt (by decide) (fun j a c => hdb j a (by omega))
  have hwl0 : 0 ≤ wl := by rw [hwl]; exact dv_nonneg (by decide) (fun j a c => (hdw j a (by omega)).1)
  have hwl1 : wl < P := by rw [hwl, hP]; exact dv_lt (by decide) (fun j a c => hdw j a (by omega))
  have hV2 : V = (v1 * 1000000000 + v2) * P + vl := by
    rw [hV, dv_head, ← hvl, ← hP, hv1, hv2, show bs - 1 = n + 1 by omega, show bs - 2 = n by omega]
  have hW2 : W0 = ((u0 * 1000000000 + u1) * 1000000000 + u2) * P + wl := by
    rw [hW, dv_head3, ← hwl, ← hP, hu0, hu1, hu2]
    rw [show win A w k ((n : Int) + 2) = A (w + 1) (k + bs) by show A _ _ = _; congr 1; omega, show win A w k ((n : Int) + 1) = A (w + 1) (k + bs - 1) by show A _ _ = _; congr 1; omega, show win A w k (n : Int) = A (w + 1) (k + bs - 2) by show A _ _ = _; congr 1; omega]
  have hV3 : V = v1 * (1000000000 * P) + (v2 * P + vl) := by rw [hV2]; grind
  have hW3 : W0 = (u0 * 1000000000 + u1) * (1000000000 * P) + (u2 * P + wl) := by rw [hW2]; grind
  have hvr : 0 ≤ v2 * P := Int.mul_nonneg r2.1 (by omega)
  have hvr2 : v2 * P ≤ 999999999 * P := Int.mul_le_mul_of_nonneg_right (by omega) (by omega)
  have hur : 0 ≤ u2 * P := Int.mul_nonneg x2.1 (by omega)
  have hur2 : u2 * P ≤ 999999999 * P := Int.mul_le_mul_of_nonneg_right (by omega) (by omega)
  rw [← hW, ← hV] at hlt
  have hV0 : 0 < V := by have := Int.mul_pos (show 0 < v1 by omega) (show 0 < 1000000000 * P by omega); omega
  have hWn : 0 ≤ W0 := by have := Int.mul_nonneg (show 0 ≤ u0 * 1000000000 + u1 by omega) (show 0 ≤ 1000000000 * P by omega); omega
  have fin : ∀ (g lf : Int) {t : Option PV}, 0 ≤ g → W0 < (g + 1) * V → g * V ≤ W0 + V → X p l e { frames := 2, cells := 0, slots := 0, locals := 55 } s m args below meth c (MQ below (QX D ids β sh N R (pIr (Q_dl F A w b bs k))) args s 0 0 (inG β N)) (inG β N) D ids β sh 14 0 0 N R F A [some (rf w), some (rf b), some (pI bs), some (pI k), some (rf (b + 1)), some (pL v1), none, some (pL (u0 * 1000000000 + u1)), none, some (pL (g)), none, some (pL (lf)), none, t] [] 146 := by
    intro g lf t hg hg2 hg3
    have gle : g ≤ 1000000000 := by
      apply Classical.byContradiction
      intro q
      have := Int.mul_le_mul_of_nonneg_right (show 1000000001 ≤ g by omega) (Int.le_of_lt hV0)
      omega
    refine x_aload_n (pc2 := 147) hC rfl rfl dX6_divideLimb_146 rfl ?_
    refine x_aload_n (pc2 := 148) hC rfl rfl dX6_divideLimb_147 rfl ?_
    refine x_iload_n (pc2 := 149) hC rfl rfl dX6_divideLimb_148 rfl ?_
    refine x_iload_n (pc2 := 150) hC rfl rfl dX6_divideLimb_149 rfl ?_
    refine x_lload (pc2 := 152) hC rfl dX6_divideLimb_150 rfl ?_
    refine x_lneg (pc2 := 153) hC dX6_divideLimb_152 rfl ?_
    refine x_cVl (pc2 := 156) (ci := 6) hC hK (m_addShifted l hw hb hne ⟨by omega, by omega, by omega⟩ hdb hdw ⟨by omega, by omega⟩) lk_621 rfl rfl (by decide) (by assumption) (by assumption) ⟨Nat.le_of_ble_eq_true rfl, Nat.le_of_ble_eq_true rfl⟩ ⟨Nat.le_refl _, Nat.le_refl _⟩ rfl (Nat.le_of_ble_eq_true rfl) dX6_divideLimb_153 rfl ?_
    rintro z A1F A1 ⟨e153, a2, a3, a4, a5, a6⟩
    obtain rfl := e153.symm
    rw [e1, ← hW, ← hV] at a6
    have d0 := dv_nonneg (B := 1000000000) (f := win A1 w k) (n := n + 2 + 1) (by decide) (fun j a c => (a4 j a (by omega)).1)
    have d1 := dv_lt (B := 1000000000) (f := win A1 w k) (n := n + 2 + 1) (by decide) (fun j a c => a4 j a (by omega))
    have sg := carry_sgn a6 d0 d1
    rw [Int.neg_mul] at a6 sg
    refine x_lconst0 (pc2 := 157) hC dX6_divideLimb_156 rfl ?_
    refine x_lcmp_ge (tgt := 176) (pc2 := 161) hC (by omega) (by omega) dX6_divideLimb_157 dX6_divideLimb_158 rfl rfl (fun h_157 => ?_) (fun h_157 => ?_)
    · refine x_lload (pc2 := 178) hC rfl dX6_divideLimb_176 rfl ?_
      refine x_l2i (pc2 := 179) hC dX6_divideLimb_178 rfl ?_
      exact x_iret hC hr hlk ⟨_, rfl, by
          unfold Q_dl
          rw [e1, ← hW, ← hV]
          have M0 : V ≤ 1000000000 ^ (n + 2 + 1) := by
            have q1 := dv_lt (B := 1000000000) (f := A (b + 1)) (n := n + 2) (by decide) (fun j a c => hdb j a (by omega))
            have q2 := pow_le' (B := 1000000000) (by decide) (show n + 2 ≤ n + 2 + 1 by omega)
            rw [← hV] at q1
            omega
          first
            | (have q1 : g * V ≤ W0 := by omega
               obtain ⟨k1, k2⟩ := kn_q hV0 hg2 q1
               obtain ⟨c1, c2⟩ := carry_0 a6 d0 d1 (by omega) (by rw [Int.add_mul, Int.one_mul] at hg2; omega)
               exact ⟨k1.symm, rfl, a2, a3, a4, by rw [c2, k2]; omega⟩)
            | (have q1 : W0 < g * V := by omega
               obtain ⟨k1, k2⟩ := kn_q (g := g - 1) hV0 (by rw [Int.sub_add_cancel]; exact q1) (by rw [Int.sub_mul, Int.one_mul]; omega)
               rw [Int.sub_mul, Int.one_mul] at k2
               obtain ⟨f1, f2⟩ := carry_0 (z := z + 1) (T := W0 - g * V + 1000000000 ^ (n + 2 + 1)) (by rw [Int.add_mul, Int.one_mul]; omega) d0 d1 (by omega) (by omega)
               obtain ⟨g1, g2⟩ := carry_0 (z := z2 - 1) (T := W0 - g * V + V) (by rw [Int.sub_mul, Int.one_mul]; omega) c0 c1 (by omega) (by omega)
               exact ⟨k1.symm, rfl, fun a ha => by rw [b2 a ha, a2 a ha], fun j hj => by rw [b3 j hj, a3 j hj], b4, by rw [g2, k2]; omega⟩)⟩ dX6_divideLimb_179
    · refine x_lload (pc2 := 163) hC rfl dX6_divideLimb_161 rfl ?_
      refine x_lconst1 (pc2 := 164) hC dX6_divideLimb_163 rfl ?_
      refine x_lsub (pc2 := 165) hC dX6_divideLimb_164 rfl ?_
      refine x_lstore (pc2 := 167) (loc2 := [_, _, _, _, _, _, _, _, _, _, _, _, _, _]) hC (by decide) rfl dX6_divideLimb_165 rfl ?_
      refine x_aload_n (pc2 := 168) hC rfl rfl dX6_divideLimb_167 rfl ?_
      refine x_aload_n (pc2 := 169) hC rfl rfl dX6_divideLimb_168 rfl ?_
      refine x_iload_n (pc2 := 170) hC rfl rfl dX6_divideLimb_169 rfl ?_
      refine x_iload_n (pc2 := 171) hC rfl rfl dX6_divideLimb_170 rfl ?_
      refine x_lconst1 (pc2 := 172) hC dX6_divideLimb_171 rfl ?_
      refine x_cVl (pc2 := 175) (ci := 6) hC hK (m_addShifted l hw hb hne ⟨by omega, by omega, by omega⟩ (fun j a c => by rw [a2 (b + 1) (by omega)]; exact hdb j a c) a4 ⟨by omega, by omega⟩) lk_621 rfl rfl (by decide) (by assumption) (by assumption) ⟨Nat.le_of_ble_eq_true rfl, Nat.le_of_ble_eq_true rfl⟩ ⟨Nat.le_refl _, Nat.le_refl _⟩ rfl (Nat.le_of_ble_eq_true rfl) dX6_divideLimb_172 rfl ?_
      rintro z2 A2F A2 ⟨e172, b2, b3, b4, b5, b6⟩
      obtain rfl := e172.symm
      rw [e1, a2 (b + 1) (by omega), ← hV, Int.one_mul] at b6
      have c0 := dv_nonneg (B := 1000000000) (f := win A2 w k) (n := n + 2 + 1) (by decide) (fun j a c => (b4 j a (by omega)).1)
      have c1 := dv_lt (B := 1000000000) (f := win A2 w k) (n := n + 2 + 1) (by decide) (fun j a c => b4 j a (by omega))
      refine x_pop2L (pc2 := 176) hC dX6_divideLimb_175 rfl ?_
      refine x_lload (pc2 := 178) hC rfl dX6_divideLimb_176 rfl ?_
      refine x_l2i (pc2 := 179) hC dX6_divideLimb_178 rfl ?_
      exact x_iret hC hr hlk ⟨_, rfl, by
          unfold Q_dl
          rw [e1, ← hW, ← hV]
          have M0 : V ≤ 1000000000 ^ (n + 2 + 1) := by
            have q1 := dv_lt (B := 1000000000) (f := A (b + 1)) (n := n + 2) (by decide) (fun j a c => hdb j a (by omega))
            have q2 := pow_le' (B := 1000000000) (by decide) (show n + 2 ≤ n + 2 + 1 by omega)
            rw [← hV] at q1
            omega
          first
            | (have q1 : g * V ≤ W0 := by omega
               obtain ⟨k1, k2⟩ := kn_q hV0 hg2 q1
               obtain ⟨c1, c2⟩ := carry_0 a6 d0 d1 (by omega) (by rw [Int.add_mul, Int.one_mul] at hg2; omega)
               exact ⟨k1.symm, rfl, a2, a3, a4, by rw [c2, k2]; omega⟩)
            | (have q1 : W0 < g * V := by omega
               obtain ⟨k1, k2⟩ := kn_q (g := g - 1) hV0 (by rw [Int.sub_add_cancel]; exact q1) (by rw [Int.sub_mul, Int.one_mul]; omega)
               rw [Int.sub_mul, Int.one_mul] at k2
               obtain ⟨f1, f2⟩ := carry_0 (z := z + 1) (T := W0 - g * V + 1000000000 ^ (n + 2 + 1)) (by rw [Int.add_mul, Int.one_mul]; omega) d0 d1 (by omega) (by omega)
               obtain ⟨g1, g2⟩ := carry_0 (z := z2 - 1) (T := W0 - g * V + V) (by rw [Int.sub_mul, Int.one_mul]; omega) c0 c1 (by omega) (by omega)
               exact ⟨k1.symm, rfl, fun a ha => by rw [b2 a ha, a2 a ha], fun j hj => by rw [b3 j hj, a3 j hj], b4, by rw [g2, k2]; omega⟩)⟩ dX6_divideLimb_179
  have loop : ∀ (n2 : Nat) (t g lf : Int), (3 - t).toNat < n2 → 0 ≤ t → t ≤ 3 → 0 ≤ g → g * v1 + lf = u0 * 1000000000 + u1 → 0 ≤ lf → t * v1 ≤ lf → lf ≤ 999999999 + t * 1000000000 → g ≤ 1000000000000000000 → W0 < (g + 1) * V → X p l e { frames := 2, cells := 0, slots := 0, locals := 55 } s m args below meth c (MQ below (QX D ids β sh N R (pIr (Q_dl F A w b bs k))) args s 0 0 (inG β N)) (inG β N) D ids β sh 14 0 0 N R F A [some (rf w), some (rf b), some (pI bs), some (pI k), some (rf (b + 1)), some (pL v1), none, some (pL (u0 * 1000000000 + u1)), none, some (pL (g)), none, some (pL (lf)), none, some (pI t)] [] 68 := by
    intro n2
    induction n2 with
    | zero => intro t g lf hn2; omega
    | succ n2 ih =>
      intro t g lf hn2 ht0 ht3 hg he hl0 hl1 hl2 hgm hgW
      have dec : W0 < g * V → 1 ≤ g := fun q => by
        apply Classical.byContradiction
        intro r
        have : g = 0 := by omega
        rw [this, Int.zero_mul] at q; omega
      have pv := fun q : g < 1000000000 => mul_rng hg (show g ≤ 999999999 by omega) r2.1 (show v2 ≤ 999999999 by omega)
      have next : W0 < g * V → lf < 1000000000 → t < 3 → X p l e { frames := 2, cells := 0, slots := 0, locals := 55 } s m args below meth c (MQ below (QX D ids β sh N R (pIr (Q_dl F A w b bs k))) args s 0 0 (inG β N)) (inG β N) D ids β sh 14 0 0 N R F A [some (rf w), some (rf b), some (pI bs), some (pI k), some (rf (b + 1)), some (pL v1), none, some (pL (u0 * 1000000000 + u1)), none, some (pL (g)), none, some (pL (lf)), none, some (pI t)] [] 127 := by
        intro hq hlt3 ht4
        have g1 := dec hq
        refine x_lload (pc2 := 129) hC rfl dX6_divideLimb_127 rfl ?_
        refine x_lconst1 (pc2 := 130) hC dX6_divideLimb_129 rfl ?_
        refine x_lsub (pc2 := 131) hC dX6_divideLimb_130 rfl ?_
        refine x_lstore (pc2 := 133) (loc2 := [_, _, _, _, _, _, _, _, _, _, _, _, _, _]) hC (by decide) rfl dX6_divideLimb_131 rfl ?_
        refine x_lload (pc2 := 135) hC rfl dX6_divideLimb_133 rfl ?_
        refine x_lload (pc2 := 137) hC rfl dX6_divideLimb_135 rfl ?_
        refine x_ladd (pc2 := 138) hC dX6_divideLimb_137 rfl ?_
        refine x_lstore (pc2 := 140) (loc2 := [_, _, _, _, _, _, _, _, _, _, _, _, _, _]) hC (by decide) rfl dX6_divideLimb_138 rfl ?_
        refine x_iinc (pc2 := 143) (loc2 := [_, _, _, _, _, _, _, _, _, _, _, _, _, _]) hC (by decide) rfl rfl dX6_divideLimb_140 rfl ?_
        refine x_goto (pc2 := 68) hC dX6_divideLimb_143 rfl ?_
        exact ih (t + 1) (g - 1) (lf + v1) (by omega) (by omega) (by omega) (by omega) (by rw [Int.sub_mul]; omega) (by omega) (by rw [Int.add_mul]; omega) (by omega) (by omega) (by rw [Int.sub_add_cancel]; exact hq)
      refine x_iload (pc2 := 70) hC rfl dX6_divideLimb_68 rfl ?_
      refine x_iconst (pc2 := 71) hC dX6_divideLimb_70 rfl ?_
      refine x_icmp_ge (tgt := 146) (pc2 := 74) hC (by omega) (by omega) dX6_divideLimb_71 rfl rfl (fun h_71 => ?_) (fun h_71 => ?_)
      · first
          | exact fin g lf hg hgW (kn_ex2 (h := u0 * 1000000000 + u1) (by decide) hP0 (by omega) hV3 (by omega) (by omega) hW3 (by omega) he hg (by omega) hlt)
          | (have t3 : t = 3 := by omega
             subst t3
             exact fin g lf hg hgW (kn_ex2 (h := u0 * 1000000000 + u1) (by decide) hP0 (by omega) hV3 (by omega) (by omega) hW3 (by omega) he hg (by omega) hlt))
          | exact fin g lf hg hgW (kn_ex1 (h := u0 * 1000000000 + u1) (by decide) hP0 (by omega) r2.1 hV2 hvl0 hvl1 hW2 hwl0 he hg (by assumption) (by assumption))
      · refine x_lload (pc2 := 76) hC rfl dX6_divideLimb_74 rfl ?_
        refine x_ldc2 (pc2 := 79) (z := 1000000000) hC wt_257 rfl dX6_divideLimb_76 rfl ?_
        refine x_lcmp_ge (tgt := 146) (pc2 := 83) hC (by omega) (by omega) dX6_divideLimb_79 dX6_divideLimb_80 rfl rfl (fun h_79 => ?_) (fun h_79 => ?_)
        · first
            | exact fin g lf hg hgW (kn_ex2 (h := u0 * 1000000000 + u1) (by decide) hP0 (by omega) hV3 (by omega) (by omega) hW3 (by omega) he hg (by omega) hlt)
            | (have t3 : t = 3 := by omega
               subst t3
               exact fin g lf hg hgW (kn_ex2 (h := u0 * 1000000000 + u1) (by decide) hP0 (by omega) hV3 (by omega) (by omega) hW3 (by omega) he hg (by omega) hlt))
            | exact fin g lf hg hgW (kn_ex1 (h := u0 * 1000000000 + u1) (by decide) hP0 (by omega) r2.1 hV2 hvl0 hvl1 hW2 hwl0 he hg (by assumption) (by assumption))
        · refine x_lload (pc2 := 85) hC rfl dX6_divideLimb_83 rfl ?_
          refine x_ldc2 (pc2 := 88) (z := 1000000000) hC wt_257 rfl dX6_divideLimb_85 rfl ?_
          refine x_lcmp_ge (tgt := 127) (pc2 := 92) hC (by omega) (by omega) dX6_divideLimb_88 dX6_divideLimb_89 rfl rfl (fun h_88 => ?_) (fun h_88 => ?_)
          · first
              | exact next (by
                  have := Int.mul_le_mul_of_nonneg_right h_88 (Int.le_of_lt hV0)
                  omega) h_79 h_71
              | exact next (kn_dec (h := u0 * 1000000000 + u1) hP0 hV2 hvl0 hW2 hwl1 he hg (by assumption)) h_79 h_71
          · refine x_lload (pc2 := 94) hC rfl dX6_divideLimb_92 rfl ?_
            refine x_aload (pc2 := 96) hC rfl dX6_divideLimb_94 rfl ?_
            refine x_iload_n (pc2 := 97) hC rfl rfl dX6_divideLimb_96 rfl ?_
            refine x_iconst (pc2 := 98) hC dX6_divideLimb_97 rfl ?_
            refine x_isub (pc2 := 99) hC dX6_divideLimb_98 rfl ?_
            refine x_iald (pc2 := 100) hC hK (by assumption) (by assumption) ⟨by omega, by omega⟩ (by decide) dX6_divideLimb_99 rfl ?_
            refine x_i2l (pc2 := 101) hC (by rw [← hv2]; omega) dX6_divideLimb_100 rfl ?_
            refine x_lmul (pc2 := 102) hC dX6_divideLimb_101 rfl ?_
            rw [← hv2]
            have pvg := pv h_88
            refine x_lload (pc2 := 104) hC rfl dX6_divideLimb_102 rfl ?_
            refine x_ldc2 (pc2 := 107) (z := 1000000000) hC wt_257 rfl dX6_divideLimb_104 rfl ?_
            refine x_lmul (pc2 := 108) hC dX6_divideLimb_107 rfl ?_
            refine x_aload_n (pc2 := 109) hC rfl rfl dX6_divideLimb_108 rfl ?_
            refine g_142 (pc2 := 112) hC hK (by assumption) (by assumption) (by assumption) dX6_divideLimb_109 rfl ?_
            refine x_iload_n (pc2 := 113) hC rfl rfl dX6_divideLimb_112 rfl ?_
            refine x_iload_n (pc2 := 114) hC rfl rfl dX6_divideLimb_113 rfl ?_
            refine x_iadd (pc2 := 115) hC dX6_divideLimb_114 rfl ?_
            refine x_iconst (pc2 := 116) hC dX6_divideLimb_115 rfl ?_
            refine x_isub (pc2 := 117) hC dX6_divideLimb_116 rfl ?_
            refine x_iald (pc2 := 118) hC hK (by assumption) (by assumption) ⟨by omega, by omega⟩ (by decide) dX6_divideLimb_117 rfl ?_
            refine x_i2l (pc2 := 119) hC (by rw [← hu2]; omega) dX6_divideLimb_118 rfl ?_
            rw [← hu2]
            refine x_ladd (pc2 := 120) hC dX6_divideLimb_119 rfl ?_
            refine x_lcmp_gt (tgt := 127) (pc2 := 124) hC (by omega) (by omega) dX6_divideLimb_120 dX6_divideLimb_121 rfl rfl (fun h_120 => ?_) (fun h_120 => ?_)
            · first
                | exact next (by
                    have := Int.mul_le_mul_of_nonneg_right h_88 (Int.le_of_lt hV0)
                    omega) h_79 h_71
                | exact next (kn_dec (h := u0 * 1000000000 + u1) hP0 hV2 hvl0 hW2 hwl1 he hg (by assumption)) h_79 h_71
            · refine x_goto (pc2 := 146) hC dX6_divideLimb_124 rfl ?_
              first
                | exact fin g lf hg hgW (kn_ex2 (h := u0 * 1000000000 + u1) (by decide) hP0 (by omega) hV3 (by omega) (by omega) hW3 (by omega) he hg (by omega) hlt)
                | (have t3 : t = 3 := by omega
                   subst t3
                   exact fin g lf hg hgW (kn_ex2 (h := u0 * 1000000000 + u1) (by decide) hP0 (by omega) hV3 (by omega) (by omega) hW3 (by omega) he hg (by omega) hlt))
                | exact fin g lf hg hgW (kn_ex1 (h := u0 * 1000000000 + u1) (by decide) hP0 (by omega) r2.1 hV2 hvl0 hvl1 hW2 hwl0 he hg (by assumption) (by assumption))
  refine x_aload_n (pc2 := 1) hC rfl rfl dX6_divideLimb_0 rfl ?_
  refine g_142 (pc2 := 4) hC hK (by assumption) (by assumption) (by assumption) dX6_divideLimb_1 rfl ?_
  refine x_astore (pc2 := 6) (loc2 := [_, _, _, _, _, _, _, _, _, _, _, _, _, _]) hC (by decide) rfl dX6_divideLimb_4 rfl ?_
  refine x_aload (pc2 := 8) hC rfl dX6_divideLimb_6 rfl ?_
  refine x_iload_n (pc2 := 9) hC rfl rfl dX6_divideLimb_8 rfl ?_
  refine x_iconst (pc2 := 10) hC dX6_divideLimb_9 rfl ?_
  refine x_isub (pc2 := 11) hC dX6_divideLimb_10 rfl ?_
  refine x_iald (pc2 := 12) hC hK (by assumption) (by assumption) ⟨by omega, by omega⟩ (by decide) dX6_divideLimb_11 rfl ?_
  refine x_i2l (pc2 := 13) hC (by rw [← hv1]; omega) dX6_divideLimb_12 rfl ?_
  rw [← hv1]
  refine x_lstore (pc2 := 15) (loc2 := [_, _, _, _, _, _, _, _, _, _, _, _, _, _]) hC (by decide) rfl dX6_divideLimb_13 rfl ?_
  refine x_aload_n (pc2 := 16) hC rfl rfl dX6_divideLimb_15 rfl ?_
  refine g_142 (pc2 := 19) hC hK (by assumption) (by assumption) (by assumption) dX6_divideLimb_16 rfl ?_
  refine x_iload_n (pc2 := 20) hC rfl rfl dX6_divideLimb_19 rfl ?_
  refine x_iload_n (pc2 := 21) hC rfl rfl dX6_divideLimb_20 rfl ?_
  refine x_iadd (pc2 := 22) hC dX6_divideLimb_21 rfl ?_
  refine x_iald (pc2 := 23) hC hK (by assumption) (by assumption) ⟨by omega, by omega⟩ (by decide) dX6_divideLimb_22 rfl ?_
  refine x_i2l (pc2 := 24) hC (by rw [← hu0]; omega) dX6_divideLimb_23 rfl ?_
  rw [← hu0]
  refine x_ldc2 (pc2 := 27) (z := 1000000000) hC wt_257 rfl dX6_divideLimb_24 rfl ?_
  refine x_lmul (pc2 := 28) hC dX6_divideLimb_27 rfl ?_
  refine x_aload_n (pc2 := 29) hC rfl rfl dX6_divideLimb_28 rfl ?_
  refine g_142 (pc2 := 32) hC hK (by assumption) (by assumption) (by assumption) dX6_divideLimb_29 rfl ?_
  refine x_iload_n (pc2 := 33) hC rfl rfl dX6_divideLimb_32 rfl ?_
  refine x_iload_n (pc2 := 34) hC rfl rfl dX6_divideLimb_33 rfl ?_
  refine x_iadd (pc2 := 35) hC dX6_divideLimb_34 rfl ?_
  refine x_iconst (pc2 := 36) hC dX6_divideLimb_35 rfl ?_
  refine x_isub (pc2 := 37) hC dX6_divideLimb_36 rfl ?_
  refine x_iald (pc2 := 38) hC hK (by assumption) (by assumption) ⟨by omega, by omega⟩ (by decide) dX6_divideLimb_37 rfl ?_
  refine x_i2l (pc2 := 39) hC (by rw [← hu1]; omega) dX6_divideLimb_38 rfl ?_
  rw [← hu1]
  refine x_ladd (pc2 := 40) hC dX6_divideLimb_39 rfl ?_
  refine x_lstore (pc2 := 42) (loc2 := [_, _, _, _, _, _, _, _, _, _, _, _, _, _]) hC (by decide) rfl dX6_divideLimb_40 rfl ?_
  refine x_lload (pc2 := 44) hC rfl dX6_divideLimb_42 rfl ?_
  refine x_lconst0 (pc2 := 45) hC dX6_divideLimb_44 rfl ?_
  refine x_lcmp_ne (tgt := 51) (pc2 := 49) hC (by omega) (by omega) dX6_divideLimb_45 dX6_divideLimb_46 rfl rfl (fun h_45 => ?_) (fun h_45 => ?_)
  · refine x_lload (pc2 := 53) hC rfl dX6_divideLimb_51 rfl ?_
    refine x_lload (pc2 := 55) hC rfl dX6_divideLimb_53 rfl ?_
    refine x_ldivp (pc2 := 56) hC (by omega) (by omega) (by omega) (by omega) dX6_divideLimb_55 rfl ?_
    refine x_lstore (pc2 := 58) (loc2 := [_, _, _, _, _, _, _, _, _, _, _, _, _, _]) hC (by decide) rfl dX6_divideLimb_56 rfl ?_
    refine x_lload (pc2 := 60) hC rfl dX6_divideLimb_58 rfl ?_
    refine x_lload (pc2 := 62) hC rfl dX6_divideLimb_60 rfl ?_
    refine x_lremp (pc2 := 63) hC (by omega) (by omega) (by omega) (by omega) dX6_divideLimb_62 rfl ?_
    refine x_lstore (pc2 := 65) (loc2 := [_, _, _, _, _, _, _, _, _, _, _, _, _, _]) hC (by decide) rfl dX6_divideLimb_63 rfl ?_
    refine x_iconst (pc2 := 66) hC dX6_divideLimb_65 rfl ?_
    refine x_istore (pc2 := 68) (loc2 := [_, _, _, _, _, _, _, _, _, _, _, _, _, _]) hC (by decide) rfl dX6_divideLimb_66 rfl ?_
    have hg0 : 0 ≤ (u0 * 1000000000 + u1) / v1 := Int.ediv_nonneg (by omega) (by omega)
    have hrm := Int.emod_nonneg (u0 * 1000000000 + u1) (show v1 ≠ 0 by omega)
    have hrl := Int.emod_lt_of_pos (u0 * 1000000000 + u1) (show 0 < v1 by omega)
    have hdm := Int.mul_ediv_add_emod (u0 * 1000000000 + u1) v1
    rw [Int.mul_comm] at hdm
    have gmx : (u0 * 1000000000 + u1) / v1 ≤ u0 * 1000000000 + u1 := Int.ediv_le_self _ (by omega)
    exact loop 4 0 _ _ (by omega) (by omega) (by omega) hg0 hdm hrm (by omega) (by omega) (by omega) (kn_ge0 (h := u0 * 1000000000 + u1) (by decide) hP0 hV3 (by omega) hW3 (by omega) hdm hrl hg0)
  · refine x_iconst (pc2 := 50) hC dX6_divideLimb_49 rfl ?_
    exact x_iret hC hr hlk (by exfalso; omega) dX6_divideLimb_50
