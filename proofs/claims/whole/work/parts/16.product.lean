/-- columns of a product -/
def cv (X Y : Int → Int) (k : Int) : Nat → Int
  | 0 => 0
  | n + 1 => cv X Y k n + X n * Y (k - n)
def cs (B : Int) (X Y : Int → Int) (xs : Nat) : Nat → Int
  | 0 => 0
  | k + 1 => cs B X Y xs k + cv X Y k xs * B ^ k
theorem cv_ext {X Y : Int → Int} {k : Int} {n : Nat} : ∀ {m : Nat}, n ≤ m → (∀ i : Int, n ≤ i → i < m → Y (k - i) = 0) → cv X Y k m = cv X Y k n
  | 0, h, _ => by rw [show n = 0 by omega]
  | m + 1, h, hz => by
    by_cases e : n = m + 1
    · rw [e]
    · simp only [cv]
      rw [hz m (by omega) (by omega), Int.mul_zero, Int.add_zero, cv_ext (m := m) (by omega) (fun i h0 h1 => hz i h0 (by omega))]
theorem cv_bnd {X Y : Int → Int} {k : Int} (hX : ∀ i, 0 ≤ X i ∧ X i < 1000000000) (hY : ∀ i, 0 ≤ Y i ∧ Y i < 1000000000) : ∀ n : Nat, 0 ≤ cv X Y k n ∧ cv X Y k n ≤ n * 999999998000000001
  | 0 => by simp [cv]
  | n + 1 => by
    have h := cv_bnd hX hY (k := k) n
    have a := hX n
    have b := hY (k - n)
    have p := mul_rng a.1 (show X n ≤ 999999999 by omega) b.1 (show Y (k - n) ≤ 999999999 by omega)
    simp only [cv]
    omega
theorem cs_succ {B : Int} {X Y : Int → Int} {xs : Nat} : ∀ m : Nat, cs B X Y (xs + 1) m = cs B X Y xs m + X xs * dv B (fun j => Y (j - xs)) m
  | 0 => by simp [cs, dv]
  | m + 1 => by
    simp only [cs, dv, cv]
    rw [cs_succ m]
    grind
theorem cs_mul {B : Int} {X Y : Int → Int} {ys m : Nat} (hY0 : ∀ i : Int, i < 0 → Y i = 0) (hY1 : ∀ i : Int, ys ≤ i → Y i = 0) : ∀ xs : Nat, xs + ys ≤ m + 1 → cs B X Y xs m = dv B X xs * dv B Y ys
  | 0, _ => by
    have : ∀ m : Nat, cs B X Y 0 m = 0 := fun m => by induction m with
      | zero => rfl
      | succ m ih => simp only [cs, cv]; rw [ih]; omega
    rw [this]; simp [dv]
  | xs + 1, h => by
    rw [cs_succ, cs_mul hY0 hY1 xs (by omega)]
    simp only [dv]
    obtain ⟨q, rfl⟩ := Nat.exists_eq_add_of_le (show xs ≤ m by omega)
    have e1 : dv B (fun j => Y (j - xs)) xs = 0 := dv_zero (fun j h0 h1 => hY0 _ (by omega))
    have e2 : dv B (fun k : Int => Y (xs + k - xs)) q = dv B Y ys := by
      rw [dv_congr (g := Y) (fun j h0 h1 => by show Y _ = Y _; congr 1; omega), dv_drop (n := ys) (m := q) (by omega) (fun j h0 h1 => hY1 j h0)]
    rw [dv_split xs q, e1, e2]
    generalize B ^ xs = P
    grind
theorem lim_out {F : Nat → Nat → Int} {A : Nat → Int → Int} {w : Nat} {k : Int} (h : k < 0 ∨ F w 1 ≤ k) : lim F A w k = 0 := by unfold lim; exact if_neg (by omega)
theorem prod_step {B c col q rel d s P : Int} (h : d + c * P = s) {cvv : Int} (e : col + rel * B = c + cvv) : d + (col - q * B) * P + (q + rel) * (P * B) = s + cvv * P := by grind
theorem dX6_product_0 : decode cX6_product 0 = .ok (.aload_n 1, 1) := by decide +kernel
theorem dX6_product_1 : decode cX6_product 1 = .ok (.getfield 19, 3) := by decide +kernel
theorem dX6_product_4 : decode cX6_product 4 = .ok (.aload_n 2, 1) := by decide +kernel
theorem dX6_product_5 : decode cX6_product 5 = .ok (.getfield 19, 3) := by decide +kernel
theorem dX6_product_8 : decode cX6_product 8 = .ok (.iadd, 1) := by decide +kernel
theorem dX6_product_9 : decode cX6_product 9 = .ok (.istore_n 3, 1) := by decide +kernel
theorem dX6_product_10 : decode cX6_product 10 = .ok (.aload_n 1, 1) := by decide +kernel
theorem dX6_product_11 : decode cX6_product 11 = .ok (.getfield 19, 3) := by decide +kernel
theorem dX6_product_14 : decode cX6_product 14 = .ok (.ifCond .eq 16, 3) := by decide +kernel
theorem dX6_product_17 : decode cX6_product 17 = .ok (.aload_n 2, 1) := by decide +kernel
theorem dX6_product_18 : decode cX6_product 18 = .ok (.getfield 19, 3) := by decide +kernel
theorem dX6_product_21 : decode cX6_product 21 = .ok (.ifCond .eq 9, 3) := by decide +kernel
theorem dX6_product_24 : decode cX6_product 24 = .ok (.iload_n 3, 1) := by decide +kernel
theorem dX6_product_25 : decode cX6_product 25 = .ok (.bipush 80, 2) := by decide +kernel
theorem dX6_product_27 : decode cX6_product 27 = .ok (.if_icmp .le 8, 3) := by decide +kernel
theorem dX6_product_30 : decode cX6_product 30 = .ok (.aload_n 0, 1) := by decide +kernel
theorem dX6_product_31 : decode cX6_product 31 = .ok (.invokevirtual 47, 3) := by decide +kernel
theorem dX6_product_34 : decode cX6_product 34 = .ok (.return_, 1) := by decide +kernel
theorem dX6_product_35 : decode cX6_product 35 = .ok (.lconst 0, 1) := by decide +kernel
theorem dX6_product_36 : decode cX6_product 36 = .ok (.lstore 4, 2) := by decide +kernel
theorem dX6_product_38 : decode cX6_product 38 = .ok (.iconst 0, 1) := by decide +kernel
theorem dX6_product_39 : decode cX6_product 39 = .ok (.istore 6, 2) := by decide +kernel
theorem dX6_product_41 : decode cX6_product 41 = .ok (.iload 6, 2) := by decide +kernel
theorem dX6_product_43 : decode cX6_product 43 = .ok (.iload_n 3, 1) := by decide +kernel
theorem dX6_product_44 : decode cX6_product 44 = .ok (.iconst 1, 1) := by decide +kernel
theorem dX6_product_45 : decode cX6_product 45 = .ok (.isub, 1) := by decide +kernel
theorem dX6_product_46 : decode cX6_product 46 = .ok (.if_icmp .ge 139, 3) := by decide +kernel
theorem dX6_product_49 : decode cX6_product 49 = .ok (.lload 4, 2) := by decide +kernel
theorem dX6_product_51 : decode cX6_product 51 = .ok (.lstore 7, 2) := by decide +kernel
theorem dX6_product_53 : decode cX6_product 53 = .ok (.lconst 0, 1) := by decide +kernel
theorem dX6_product_54 : decode cX6_product 54 = .ok (.lstore 9, 2) := by decide +kernel
theorem dX6_product_56 : decode cX6_product 56 = .ok (.iload 6, 2) := by decide +kernel
theorem dX6_product_58 : decode cX6_product 58 = .ok (.aload_n 1, 1) := by decide +kernel
theorem dX6_product_59 : decode cX6_product 59 = .ok (.getfield 19, 3) := by decide +kernel
theorem dX6_product_62 : decode cX6_product 62 = .ok (.iconst 1, 1) := by decide +kernel
theorem dX6_product_63 : decode cX6_product 63 = .ok (.isub, 1) := by decide +kernel
theorem dX6_product_64 : decode cX6_product 64 = .ok (.invokestatic 50, 3) := by decide +kernel
theorem dX6_product_67 : decode cX6_product 67 = .ok (.istore 11, 2) := by decide +kernel
theorem dX6_product_69 : decode cX6_product 69 = .ok (.iconst 0, 1) := by decide +kernel
theorem dX6_product_70 : decode cX6_product 70 = .ok (.iload 6, 2) := by decide +kernel
theorem dX6_product_72 : decode cX6_product 72 = .ok (.aload_n 2, 1) := by decide +kernel
theorem dX6_product_73 : decode cX6_product 73 = .ok (.getfield 19, 3) := by decide +kernel
theorem dX6_product_76 : decode cX6_product 76 = .ok (.isub, 1) := by decide +kernel
theorem dX6_product_77 : decode cX6_product 77 = .ok (.iconst 1, 1) := by decide +kernel
theorem dX6_product_78 : decode cX6_product 78 = .ok (.iadd, 1) := by decide +kernel
theorem dX6_product_79 : decode cX6_product 79 = .ok (.invokestatic 54, 3) := by decide +kernel
theorem dX6_product_82 : decode cX6_product 82 = .ok (.istore 12, 2) := by decide +kernel
theorem dX6_product_84 : decode cX6_product 84 = .ok (.iload 12, 2) := by decide +kernel
theorem dX6_product_86 : decode cX6_product 86 = .ok (.iload 11, 2) := by decide +kernel
theorem dX6_product_88 : decode cX6_product 88 = .ok (.if_icmp .gt 59, 3) := by decide +kernel
theorem dX6_product_91 : decode cX6_product 91 = .ok (.lload 7, 2) := by decide +kernel
theorem dX6_product_93 : decode cX6_product 93 = .ok (.aload_n 1, 1) := by decide +kernel
theorem dX6_product_94 : decode cX6_product 94 = .ok (.getfield 9, 3) := by decide +kernel
theorem dX6_product_97 : decode cX6_product 97 = .ok (.iload 12, 2) := by decide +kernel
theorem dX6_product_99 : decode cX6_product 99 = .ok (.iaload, 1) := by decide +kernel
theorem dX6_product_100 : decode cX6_product 100 = .ok (.i2l, 1) := by decide +kernel
theorem dX6_product_101 : decode cX6_product 101 = .ok (.aload_n 2, 1) := by decide +kernel
theorem dX6_product_102 : decode cX6_product 102 = .ok (.getfield 9, 3) := by decide +kernel
theorem dX6_product_105 : decode cX6_product 105 = .ok (.iload 6, 2) := by decide +kernel
theorem dX6_product_107 : decode cX6_product 107 = .ok (.iload 12, 2) := by decide +kernel
theorem dX6_product_109 : decode cX6_product 109 = .ok (.isub, 1) := by decide +kernel
theorem dX6_product_110 : decode cX6_product 110 = .ok (.iaload, 1) := by decide +kernel
theorem dX6_product_111 : decode cX6_product 111 = .ok (.i2l, 1) := by decide +kernel
theorem dX6_product_112 : decode cX6_product 112 = .ok (.lmul, 1) := by decide +kernel
theorem dX6_product_113 : decode cX6_product 113 = .ok (.ladd, 1) := by decide +kernel
theorem dX6_product_114 : decode cX6_product 114 = .ok (.lstore 7, 2) := by decide +kernel
theorem dX6_product_116 : decode cX6_product 116 = .ok (.lload 7, 2) := by decide +kernel
theorem dX6_product_118 : decode cX6_product 118 = .ok (.ldc2_w 57, 3) := by decide +kernel
theorem dX6_product_121 : decode cX6_product 121 = .ok (.lcmp, 1) := by decide +kernel
theorem dX6_product_122 : decode cX6_product 122 = .ok (.ifCond .lt 19, 3) := by decide +kernel
theorem dX6_product_125 : decode cX6_product 125 = .ok (.lload 7, 2) := by decide +kernel
theorem dX6_product_127 : decode cX6_product 127 = .ok (.ldc2_w 57, 3) := by decide +kernel
theorem dX6_product_130 : decode cX6_product 130 = .ok (.lsub, 1) := by decide +kernel
theorem dX6_product_131 : decode cX6_product 131 = .ok (.lstore 7, 2) := by decide +kernel
theorem dX6_product_133 : decode cX6_product 133 = .ok (.lload 9, 2) := by decide +kernel
theorem dX6_product_135 : decode cX6_product 135 = .ok (.ldc2_w 59, 3) := by decide +kernel
theorem dX6_product_138 : decode cX6_product 138 = .ok (.ladd, 1) := by decide +kernel
theorem dX6_product_139 : decode cX6_product 139 = .ok (.lstore 9, 2) := by decide +kernel
theorem dX6_product_141 : decode cX6_product 141 = .ok (.iinc 12 1, 3) := by decide +kernel
theorem dX6_product_144 : decode cX6_product 144 = .ok (.goto (-60), 3) := by decide +kernel
theorem dX6_product_147 : decode cX6_product 147 = .ok (.lload 7, 2) := by decide +kernel
theorem dX6_product_149 : decode cX6_product 149 = .ok (.ldc2_w 22, 3) := by decide +kernel
theorem dX6_product_152 : decode cX6_product 152 = .ok (.ldiv, 1) := by decide +kernel
theorem dX6_product_153 : decode cX6_product 153 = .ok (.lstore 4, 2) := by decide +kernel
theorem dX6_product_155 : decode cX6_product 155 = .ok (.aload_n 0, 1) := by decide +kernel
theorem dX6_product_156 : decode cX6_product 156 = .ok (.getfield 9, 3) := by decide +kernel
theorem dX6_product_159 : decode cX6_product 159 = .ok (.iload 6, 2) := by decide +kernel
theorem dX6_product_161 : decode cX6_product 161 = .ok (.lload 7, 2) := by decide +kernel
theorem dX6_product_163 : decode cX6_product 163 = .ok (.lload 4, 2) := by decide +kernel
theorem dX6_product_165 : decode cX6_product 165 = .ok (.ldc2_w 22, 3) := by decide +kernel
theorem dX6_product_168 : decode cX6_product 168 = .ok (.lmul, 1) := by decide +kernel
theorem dX6_product_169 : decode cX6_product 169 = .ok (.lsub, 1) := by decide +kernel
theorem dX6_product_170 : decode cX6_product 170 = .ok (.l2i, 1) := by decide +kernel
theorem dX6_product_171 : decode cX6_product 171 = .ok (.iastore, 1) := by decide +kernel
theorem dX6_product_172 : decode cX6_product 172 = .ok (.lload 4, 2) := by decide +kernel
theorem dX6_product_174 : decode cX6_product 174 = .ok (.lload 9, 2) := by decide +kernel
theorem dX6_product_176 : decode cX6_product 176 = .ok (.ladd, 1) := by decide +kernel
theorem dX6_product_177 : decode cX6_product 177 = .ok (.lstore 4, 2) := by decide +kernel
theorem dX6_product_179 : decode cX6_product 179 = .ok (.iinc 6 1, 3) := by decide +kernel
theorem dX6_product_182 : decode cX6_product 182 = .ok (.goto (-141), 3) := by decide +kernel
theorem dX6_product_185 : decode cX6_product 185 = .ok (.aload_n 0, 1) := by decide +kernel
theorem dX6_product_186 : decode cX6_product 186 = .ok (.getfield 9, 3) := by decide +kernel
theorem dX6_product_189 : decode cX6_product 189 = .ok (.iload_n 3, 1) := by decide +kernel
theorem dX6_product_190 : decode cX6_product 190 = .ok (.iconst 1, 1) := by decide +kernel
theorem dX6_product_191 : decode cX6_product 191 = .ok (.isub, 1) := by decide +kernel
theorem dX6_product_192 : decode cX6_product 192 = .ok (.lload 4, 2) := by decide +kernel
theorem dX6_product_194 : decode cX6_product 194 = .ok (.l2i, 1) := by decide +kernel
theorem dX6_product_195 : decode cX6_product 195 = .ok (.iastore, 1) := by decide +kernel
theorem dX6_product_196 : decode cX6_product 196 = .ok (.aload_n 0, 1) := by decide +kernel
theorem dX6_product_197 : decode cX6_product 197 = .ok (.iload_n 3, 1) := by decide +kernel
theorem dX6_product_198 : decode cX6_product 198 = .ok (.aload_n 1, 1) := by decide +kernel
theorem dX6_product_199 : decode cX6_product 199 = .ok (.getfield 15, 3) := by decide +kernel
theorem dX6_product_202 : decode cX6_product 202 = .ok (.aload_n 2, 1) := by decide +kernel
theorem dX6_product_203 : decode cX6_product 203 = .ok (.getfield 15, 3) := by decide +kernel
theorem dX6_product_206 : decode cX6_product 206 = .ok (.imul, 1) := by decide +kernel
theorem dX6_product_207 : decode cX6_product 207 = .ok (.invokevirtual 24, 3) := by decide +kernel
theorem dX6_product_210 : decode cX6_product 210 = .ok (.return_, 1) := by decide +kernel
set_option maxHeartbeats 4000000 in
theorem m_wproduct (l : Launch) {D : va_G} {ids : Nat → ClassId} {β : Nat} {sh : Nat → Nat × Nat} {N : Nat} {R : Nat → Nat → Option Nat} {F : Nat → Nat → Int} {A : Nat → Int → Int} {w x y : Nat} (hw : isW sh R N w) (hx : isW sh R N x) (hy : isW sh R N y) (h0 : WOK F A x) (h1 : WOK F A y) (nx : x ≠ w) (ny : y ≠ w) (hsz : F x 1 + F y 1 ≤ 80) : MetX l yX6_product cX6_product 13 none 1 23 D ids β sh N R F A [rf w, rf x, rf y] (pVr (Q_set F A w (wv F A x * wv F A y))) := by
  refine MetX.of (loc := [_, _, _, _, _, _, _, _, _, _, _, _, _]) (plainFor_of_name (by decide +kernel)) (Nat.le_of_ble_eq_true rfl) rfl ?_
  intro p e s m args below meth c hC hK hr hlk
  obtain ⟨hw1, hw2, hw3, hw4⟩ := id hw
  have hw0 : w < N := by omega
  obtain ⟨hx1, hx2, hx3, hx4⟩ := id hx
  have hx0 : x < N := by omega
  obtain ⟨hy1, hy2, hy3, hy4⟩ := id hy
  have hy0 : y < N := by omega
  obtain ⟨s1, s2, s3, s4, s5⟩ := id h0
  obtain ⟨t1, t2, t3, t4, t5⟩ := id h1
  by_cases hz : F x 1 = 0 ∨ F y 1 = 0
  · have v0 : wv F A x * wv F A y = 0 := by
      rcases hz with q | q
      · have : wv F A x = 0 := by unfold wv; rw [wm_zero (by omega), Int.mul_zero]
        rw [this, Int.zero_mul]
      · have : wv F A y = 0 := by unfold wv; rw [wm_zero (by omega), Int.mul_zero]
        rw [this, Int.mul_zero]
    refine x_aload_n (pc2 := 1) hC rfl rfl dX6_product_0 rfl ?_
    refine g_140 (pc2 := 4) hC hK (by assumption) (by assumption) dX6_product_1 rfl ?_
    refine x_aload_n (pc2 := 5) hC rfl rfl dX6_product_4 rfl ?_
    refine g_140 (pc2 := 8) hC hK (by assumption) (by assumption) dX6_product_5 rfl ?_
    refine x_iadd (pc2 := 9) hC dX6_product_8 rfl ?_
    refine x_istore_n (pc2 := 10) (loc2 := [_, _, _, _, _, _, _, _, _, _, _, _, _]) hC rfl (by decide) rfl dX6_product_9 rfl ?_
    refine x_aload_n (pc2 := 11) hC rfl rfl dX6_product_10 rfl ?_
    refine g_140 (pc2 := 14) hC hK (by assumption) (by assumption) dX6_product_11 rfl ?_
    refine x_if_eq (tgt := 30) (pc2 := 17) hC (by omega) dX6_product_14 rfl rfl (fun h_14 => ?_) (fun h_14 => ?_)
    · refine x_aload_n (pc2 := 31) hC rfl rfl dX6_product_30 rfl ?_
      refine x_cVv (pc2 := 34) (ci := 6) hC hK (m_clear l hw) lk_500 rfl rfl (by decide) (by assumption) (by assumption) ⟨Nat.le_of_ble_eq_true rfl, Nat.le_of_ble_eq_true rfl⟩ ⟨Nat.le_refl _, Nat.le_refl _⟩ rfl (Nat.le_of_ble_eq_true rfl) dX6_product_31 rfl ?_
      rintro F31 A31 ⟨e31, q1, q2, q3⟩
      obtain rfl := e31.symm
      exact x_vret hC hr hlk ⟨rfl, q1, fun _ _ => rfl, q2, by rw [q3, v0]⟩ dX6_product_34
    · refine x_aload_n (pc2 := 18) hC rfl rfl dX6_product_17 rfl ?_
      refine g_140 (pc2 := 21) hC hK (by assumption) (by assumption) dX6_product_18 rfl ?_
      refine x_if_eq (tgt := 30) (pc2 := 24) hC (by omega) dX6_product_21 rfl rfl (fun h_21 => ?_) (fun h_21 => ?_)
      · refine x_aload_n (pc2 := 31) hC rfl rfl dX6_product_30 rfl ?_
        refine x_cVv (pc2 := 34) (ci := 6) hC hK (m_clear l hw) lk_500 rfl rfl (by decide) (by assumption) (by assumption) ⟨Nat.le_of_ble_eq_true rfl, Nat.le_of_ble_eq_true rfl⟩ ⟨Nat.le_refl _, Nat.le_refl _⟩ rfl (Nat.le_of_ble_eq_true rfl) dX6_product_31 rfl ?_
        rintro F31 A31 ⟨e31, q1, q2, q3⟩
        obtain rfl := e31.symm
        exact x_vret hC hr hlk ⟨rfl, q1, fun _ _ => rfl, q2, by rw [q3, v0]⟩ dX6_product_34
      · refine x_iload_n (pc2 := 25) hC rfl rfl dX6_product_24 rfl ?_
        refine x_bipush (pc2 := 27) hC rfl dX6_product_25 rfl ?_
        refine x_icmp_le (tgt := 35) (pc2 := 30) hC (by omega) (by omega) dX6_product_27 rfl rfl (fun h_27 => ?_) (fun h_27 => ?_)
        · exfalso; omega
        · refine x_aload_n (pc2 := 31) hC rfl rfl dX6_product_30 rfl ?_
          refine x_cVv (pc2 := 34) (ci := 6) hC hK (m_clear l hw) lk_500 rfl rfl (by decide) (by assumption) (by assumption) ⟨Nat.le_of_ble_eq_true rfl, Nat.le_of_ble_eq_true rfl⟩ ⟨Nat.le_refl _, Nat.le_refl _⟩ rfl (Nat.le_of_ble_eq_true rfl) dX6_product_31 rfl ?_
          rintro F31 A31 ⟨e31, q1, q2, q3⟩
          obtain rfl := e31.symm
          exact x_vret hC hr hlk ⟨rfl, q1, fun _ _ => rfl, q2, by rw [q3, v0]⟩ dX6_product_34
  have loop : ∀ (n k : Nat) (c0 : Int) (A1 : Nat → Int → Int), (F x 1 + F y 1 - 1 - k).toNat < n → (k : Int) ≤ F x 1 + F y 1 - 1 → (∀ a, a ≠ w + 1 → A1 a = A a) → dig 1000000000 (A1 (w + 1)) k → 0 ≤ c0 → c0 ≤ 100000000000 → dv 1000000000 (A1 (w + 1)) k + c0 * 1000000000 ^ k = cs 1000000000 (lim F A x) (lim F A y) (F x 1).toNat k → X p l e { frames := 1, cells := 0, slots := 0, locals := 23 } s m args below meth c (MQ below (QX D ids β sh N R (pVr (Q_set F A w (wv F A x * wv F A y)))) args s 0 0 (inG β N)) (inG β N) D ids β sh 13 0 0 N R F A1 [some (rf w), some (rf x), some (rf y), some (pI (F x 1 + F y 1)), some (pL c0), none, some (pI (k : Int)), none, none, none, none, none, none] [] 41 := by
    intro n
    induction n with
    | zero => intro k c0 A1 hn; omega
    | succ n ih =>
      intro k c0 A1 hn hk hA hd hc0 hc1 hv
      by_cases hlast : (k : Int) < F x 1 + F y 1 - 1
      · obtain ⟨last, hlst⟩ : ∃ z : Int, z = min (k : Int) (F x 1 - 1) := ⟨_, rfl⟩
        obtain ⟨lo, hlo⟩ : ∃ z : Int, z = max 0 ((k : Int) - F y 1 + 1) := ⟨_, rfl⟩
        have cb := cv_bnd (X := lim F A x) (Y := lim F A y) (k := k) (fun i => lim_dig h0 i) (fun i => lim_dig h1 i) (F x 1).toNat
        have hfull : ∀ i : Nat, (i : Int) = last + 1 → c0 + cv (lim F A x) (lim F A y) k i = c0 + cv (lim F A x) (lim F A y) k (F x 1).toNat := fun i hi => by
          rw [cv_ext (n := i) (m := (F x 1).toNat) (by omega) (fun j a b => if_neg (by omega))]
        have after : ∀ (col rel : Int) {ls : Option PV} {lt : Option PV}, 0 ≤ col → col < 8000000000000000000 → 0 ≤ rel → col + rel * 1000000000 = c0 + cv (lim F A x) (lim F A y) k (F x 1).toNat → X p l e { frames := 1, cells := 0, slots := 0, locals := 23 } s m args below meth c (MQ below (QX D ids β sh N R (pVr (Q_set F A w (wv F A x * wv F A y)))) args s 0 0 (inG β N)) (inG β N) D ids β sh 13 0 0 N R F A1 [some (rf w), some (rf x), some (rf y), some (pI (F x 1 + F y 1)), some (pL c0), none, some (pI (k : Int)), some (pL col), none, some (pL rel), none, ls, lt] [] 147 := by
          intro col rel ls lt hcl0 hcl1 hrl he
          refine x_lload (pc2 := 149) hC rfl dX6_product_147 rfl ?_
          refine x_ldc2 (pc2 := 152) (z := 1000000000) hC wt_257 rfl dX6_product_149 rfl ?_
          refine x_ldivp (pc2 := 153) hC (by omega) (by omega) (by omega) (by omega) dX6_product_152 rfl ?_
          refine x_lstore (pc2 := 155) (loc2 := [_, _, _, _, _, _, _, _, _, _, _, _, _]) hC (by decide) rfl dX6_product_153 rfl ?_
          refine x_aload_n (pc2 := 156) hC rfl rfl dX6_product_155 rfl ?_
          refine g_142 (pc2 := 159) hC hK (by assumption) (by assumption) (by assumption) dX6_product_156 rfl ?_
          refine x_iload (pc2 := 161) hC rfl dX6_product_159 rfl ?_
          refine x_lload (pc2 := 163) hC rfl dX6_product_161 rfl ?_
          refine x_lload (pc2 := 165) hC rfl dX6_product_163 rfl ?_
          refine x_ldc2 (pc2 := 168) (z := 1000000000) hC wt_257 rfl dX6_product_165 rfl ?_
          refine x_lmul (pc2 := 169) hC dX6_product_168 rfl ?_
          refine x_lsub (pc2 := 170) hC dX6_product_169 rfl ?_
          refine x_l2i (pc2 := 171) hC dX6_product_170 rfl ?_
          refine x_iast (pc2 := 172) hC hK (by assumption) (by assumption) (by omega) (by decide) dX6_product_171 rfl ?_
          refine x_lload (pc2 := 174) hC rfl dX6_product_172 rfl ?_
          refine x_lload (pc2 := 176) hC rfl dX6_product_174 rfl ?_
          refine x_ladd (pc2 := 177) hC dX6_product_176 rfl ?_
          refine x_lstore (pc2 := 179) (loc2 := [_, _, _, _, _, _, _, _, _, _, _, _, _]) hC (by decide) rfl dX6_product_177 rfl ?_
          refine x_iinc (pc2 := 182) (loc2 := [_, _, _, _, _, _, _, _, _, _, _, _, _]) hC (by decide) rfl rfl dX6_product_179 rfl ?_
          refine x_goto (pc2 := 41) hC dX6_product_182 rfl ?_
          refine x_less (loc2 := [some (rf w), some (rf x), some (rf y), some (pI (F x 1 + F y 1)), some (pL _), none, some (pI ((k : Int) + 1)), none, none, none, none, none, none]) hC ⟨rfl, rfl, rfl, rfl, rfl, rfl, trivial⟩ ?_
          refine ih (k + 1) _ _ (by omega) (by omega) (fun a ha => by rw [uA_ne ha]; exact hA a ha) (fun j a b => ?_) (by omega) (by omega) ?_
          · rw [uA_at]
            by_cases e : j = k
            · rw [if_pos e]; omega
            · rw [if_neg e]; exact hd j a (by omega)
          · rw [dv_uA, Int.pow_succ, prod_step hv he]
            rfl
        have inner : ∀ (n2 i : Nat) (col rel : Int), (last + 1 - i).toNat < n2 → lo ≤ i → (i : Int) ≤ last + 1 → 0 ≤ col → col < 8000000000000000000 → 0 ≤ rel → col + rel * 1000000000 = c0 + cv (lim F A x) (lim F A y) k i → X p l e { frames := 1, cells := 0, slots := 0, locals := 23 } s m args below meth c (MQ below (QX D ids β sh N R (pVr (Q_set F A w (wv F A x * wv F A y)))) args s 0 0 (inG β N)) (inG β N) D ids β sh 13 0 0 N R F A1 [some (rf w), some (rf x), some (rf y), some (pI (F x 1 + F y 1)), some (pL c0), none, some (pI (k : Int)), some (pL col), none, some (pL rel), none, some (pI last), some (pI (i : Int))] [] 84 := by
          intro n2
          induction n2 with
          | zero => intro i col rel hn2; omega
          | succ n2 ih2 =>
            intro i col rel hn2 hi0 hi1 hc0' hc1 hr0' he
            have ex : lim F A x i = A1 (x + 1) i ∨ last < i := by
              rcases Int.lt_or_le last i with q | q
              · exact Or.inr q
              · left; rw [hA _ (by omega)]; exact if_pos ⟨by omega, by omega⟩
            have ey : lim F A y (k - i) = A1 (y + 1) (k - i) ∨ last < i := by
              rcases Int.lt_or_le last i with q | q
              · exact Or.inr q
              · left; rw [hA _ (by omega)]; exact if_pos ⟨by omega, by omega⟩
            have dx := lim_dig h0 i
            have dy := lim_dig h1 (k - i)
            have pr := mul_rng dx.1 (show lim F A x i ≤ 999999999 by omega) dy.1 (show lim F A y (k - i) ≤ 999999999 by omega)
            refine x_iload (pc2 := 86) hC rfl dX6_product_84 rfl ?_
            refine x_iload (pc2 := 88) hC rfl dX6_product_86 rfl ?_
            refine x_icmp_gt (tgt := 147) (pc2 := 91) hC (by omega) (by omega) dX6_product_88 rfl rfl (fun h_88 => ?_) (fun h_88 => ?_)
            · exact after col rel hc0' hc1 hr0' (by rw [he]; exact hfull i (by omega))
            · refine x_lload (pc2 := 93) hC rfl dX6_product_91 rfl ?_
              refine x_aload_n (pc2 := 94) hC rfl rfl dX6_product_93 rfl ?_
              refine g_142 (pc2 := 97) hC hK (by assumption) (by assumption) (by assumption) dX6_product_94 rfl ?_
              refine x_iload (pc2 := 99) hC rfl dX6_product_97 rfl ?_
              refine x_iald (pc2 := 100) hC hK (by assumption) (by assumption) ⟨by omega, by omega⟩ (by decide) dX6_product_99 rfl ?_
              refine x_i2l (pc2 := 101) hC (by rw [← ex.resolve_right (by omega)]; omega) dX6_product_100 rfl ?_
              refine x_aload_n (pc2 := 102) hC rfl rfl dX6_product_101 rfl ?_
              refine g_142 (pc2 := 105) hC hK (by assumption) (by assumption) (by assumption) dX6_product_102 rfl ?_
              refine x_iload (pc2 := 107) hC rfl dX6_product_105 rfl ?_
              refine x_iload (pc2 := 109) hC rfl dX6_product_107 rfl ?_
              refine x_isub (pc2 := 110) hC dX6_product_109 rfl ?_
              refine x_iald (pc2 := 111) hC hK (by assumption) (by assumption) ⟨by omega, by omega⟩ (by decide) dX6_product_110 rfl ?_
              refine x_i2l (pc2 := 112) hC (by rw [← ey.resolve_right (by omega)]; omega) dX6_product_111 rfl ?_
              refine x_lmul (pc2 := 113) hC dX6_product_112 rfl ?_
              rw [← ex.resolve_right (by omega), ← ey.resolve_right (by omega)]
              refine x_ladd (pc2 := 114) hC dX6_product_113 rfl ?_
              refine x_lstore (pc2 := 116) (loc2 := [_, _, _, _, _, _, _, _, _, _, _, _, _]) hC (by decide) rfl dX6_product_114 rfl ?_
              refine x_lload (pc2 := 118) hC rfl dX6_product_116 rfl ?_
              refine x_ldc2 (pc2 := 121) (z := 8000000000000000000) hC wt_505 rfl dX6_product_118 rfl ?_
              refine x_lcmp_lt (tgt := 141) (pc2 := 125) hC (by omega) (by omega) dX6_product_121 dX6_product_122 rfl rfl (fun h_121 => ?_) (fun h_121 => ?_)
              · refine x_iinc (pc2 := 144) (loc2 := [_, _, _, _, _, _, _, _, _, _, _, _, _]) hC (by decide) rfl rfl dX6_product_141 rfl ?_
                refine x_goto (pc2 := 84) hC dX6_product_144 rfl ?_
                refine ih2 (i + 1) _ _ (by omega) (by omega) (by omega) (by omega) (by omega) (by omega) ?_
                simp only [cv]
                omega
              · refine x_lload (pc2 := 127) hC rfl dX6_product_125 rfl ?_
                refine x_ldc2 (pc2 := 130) (z := 8000000000000000000) hC wt_505 rfl dX6_product_127 rfl ?_
                refine x_lsub (pc2 := 131) hC dX6_product_130 rfl ?_
                refine x_lstore (pc2 := 133) (loc2 := [_, _, _, _, _, _, _, _, _, _, _, _, _]) hC (by decide) rfl dX6_product_131 rfl ?_
                refine x_lload (pc2 := 135) hC rfl dX6_product_133 rfl ?_
                refine x_ldc2 (pc2 := 138) (z := 8000000000) hC wt_506 rfl dX6_product_135 rfl ?_
                refine x_ladd (pc2 := 139) hC dX6_product_138 rfl ?_
                refine x_lstore (pc2 := 141) (loc2 := [_, _, _, _, _, _, _, _, _, _, _, _, _]) hC (by decide) rfl dX6_product_139 rfl ?_
                refine x_iinc (pc2 := 144) (loc2 := [_, _, _, _, _, _, _, _, _, _, _, _, _]) hC (by decide) rfl rfl dX6_product_141 rfl ?_
                refine x_goto (pc2 := 84) hC dX6_product_144 rfl ?_
                refine ih2 (i + 1) _ _ (by omega) (by omega) (by omega) (by omega) (by omega) (by omega) ?_
                simp only [cv]
                omega
        refine x_iload (pc2 := 43) hC rfl dX6_product_41 rfl ?_
        refine x_iload_n (pc2 := 44) hC rfl rfl dX6_product_43 rfl ?_
        refine x_iconst (pc2 := 45) hC dX6_product_44 rfl ?_
        refine x_isub (pc2 := 46) hC dX6_product_45 rfl ?_
        refine x_icmp_ge (tgt := 185) (pc2 := 49) hC (by omega) (by omega) dX6_product_46 rfl rfl (fun h_46 => ?_) (fun h_46 => ?_)
        · exfalso; omega
        · refine x_lload (pc2 := 51) hC rfl dX6_product_49 rfl ?_
          refine x_lstore (pc2 := 53) (loc2 := [_, _, _, _, _, _, _, _, _, _, _, _, _]) hC (by decide) rfl dX6_product_51 rfl ?_
          refine x_lconst0 (pc2 := 54) hC dX6_product_53 rfl ?_
          refine x_lstore (pc2 := 56) (loc2 := [_, _, _, _, _, _, _, _, _, _, _, _, _]) hC (by decide) rfl dX6_product_54 rfl ?_
          refine x_iload (pc2 := 58) hC rfl dX6_product_56 rfl ?_
          refine x_aload_n (pc2 := 59) hC rfl rfl dX6_product_58 rfl ?_
          refine g_140 (pc2 := 62) hC hK (by assumption) (by assumption) dX6_product_59 rfl ?_
          refine x_iconst (pc2 := 63) hC dX6_product_62 rfl ?_
          refine x_isub (pc2 := 64) hC dX6_product_63 rfl ?_
          refine x_cSi (pc2 := 67) hC hK (m_min l (by omega) (by omega)) lk_501 rfl ⟨Nat.le_of_ble_eq_true rfl, Nat.le_of_ble_eq_true rfl⟩ ⟨Nat.le_refl _, Nat.le_refl _⟩ rfl (Nat.le_of_ble_eq_true rfl) dX6_product_64 rfl ?_
          rintro z64 F64 A64 ⟨rfl, e164, e264⟩
          obtain rfl := e164.symm
          obtain rfl := e264.symm
          refine x_istore (pc2 := 69) (loc2 := [_, _, _, _, _, _, _, _, _, _, _, _, _]) hC (by decide) rfl dX6_product_67 rfl ?_
          refine x_iconst (pc2 := 70) hC dX6_product_69 rfl ?_
          refine x_iload (pc2 := 72) hC rfl dX6_product_70 rfl ?_
          refine x_aload_n (pc2 := 73) hC rfl rfl dX6_product_72 rfl ?_
          refine g_140 (pc2 := 76) hC hK (by assumption) (by assumption) dX6_product_73 rfl ?_
          refine x_isub (pc2 := 77) hC dX6_product_76 rfl ?_
          refine x_iconst (pc2 := 78) hC dX6_product_77 rfl ?_
          refine x_iadd (pc2 := 79) hC dX6_product_78 rfl ?_
          refine x_cSi (pc2 := 82) hC hK (m_max l (by omega) (by omega)) lk_502 rfl ⟨Nat.le_of_ble_eq_true rfl, Nat.le_of_ble_eq_true rfl⟩ ⟨Nat.le_refl _, Nat.le_refl _⟩ rfl (Nat.le_of_ble_eq_true rfl) dX6_product_79 rfl ?_
          rintro z79 F79 A79 ⟨rfl, e179, e279⟩
          obtain rfl := e179.symm
          obtain rfl := e279.symm
          refine x_istore (pc2 := 84) (loc2 := [_, _, _, _, _, _, _, _, _, _, _, _, _]) hC (by decide) rfl dX6_product_82 rfl ?_
          rw [← hlst, ← hlo]
          have q := inner (last + 1 - lo + 1).toNat lo.toNat c0 0 (by omega) (by omega) (by omega) hc0 (by omega) (by omega) (by
            rw [cv_ext (n := 0) (m := lo.toNat) (by omega) (fun j a b => by unfold lim; exact if_neg (by omega))]; simp [cv])
          rw [Int.toNat_of_nonneg (by omega)] at q
          exact q
      · have ek : k = (F x 1 + F y 1 - 1).toNat := by omega
        have hz : cs 1000000000 (lim F A x) (lim F A y) (F x 1).toNat k = wm F A x * wm F A y := by
          rw [cs_mul (X := lim F A x) (Y := lim F A y) (m := k) (ys := (F y 1).toNat) (fun i hi => lim_out (Or.inl hi)) (fun i hi => lim_out (Or.inr (by omega))) (F x 1).toNat (by omega), dv_lim h0 (by omega), dv_lim h1 (by omega)]
        rw [hz] at hv
        have n1 := dv_nonneg (B := 1000000000) (by decide) (fun j a b => (hd j a b).1)
        have c9 : c0 < 1000000000 := by
          have a1 := wm_lt h0
          have a2 := wm_lt h1
          have b1 := wm_nonneg h0
          have b2 := wm_nonneg h1
          have p1 : wm F A x * wm F A y < 1000000000 ^ (F x 1).toNat * 1000000000 ^ (F y 1).toNat := Int.lt_of_le_of_lt (Int.mul_le_mul_of_nonneg_right (Int.le_of_lt a1) b2) (Int.mul_lt_mul_of_pos_left a2 (pow_pos' (by decide) _))
          rw [← Int.pow_add, show (F x 1).toNat + (F y 1).toNat = k + 1 by omega, Int.pow_succ] at p1
          have p2 := pow_pos' (B := 1000000000) (by decide) k
          apply Classical.byContradiction
          intro q
          have p3 := Int.mul_le_mul_of_nonneg_right (show 1000000000 ≤ c0 by omega) (Int.le_of_lt p2)
          rw [Int.mul_comm (1000000000 ^ k) 1000000000] at p1
          omega
        have ei : F x 1 + F y 1 - 1 = (k : Int) := by omega
        have dd : dig 1000000000 (uA A1 (w + 1) k c0 (w + 1)) (F x 1 + F y 1) := fun j a b => by
          rw [uA_at]
          by_cases e : j = k
          · rw [if_pos e]; omega
          · rw [if_neg e]; exact hd j a (by omega)
        have fx : F x 0 = 1 ∨ F x 0 = -1 := by omega
        have fy : F y 0 = 1 ∨ F y 0 = -1 := by omega
        refine x_iload (pc2 := 43) hC rfl dX6_product_41 rfl ?_
        refine x_iload_n (pc2 := 44) hC rfl rfl dX6_product_43 rfl ?_
        refine x_iconst (pc2 := 45) hC dX6_product_44 rfl ?_
        refine x_isub (pc2 := 46) hC dX6_product_45 rfl ?_
        refine x_icmp_ge (tgt := 185) (pc2 := 49) hC (by omega) (by omega) dX6_product_46 rfl rfl (fun h_46 => ?_) (fun h_46 => ?_)
        · refine x_aload_n (pc2 := 186) hC rfl rfl dX6_product_185 rfl ?_
          refine g_142 (pc2 := 189) hC hK (by assumption) (by assumption) (by assumption) dX6_product_186 rfl ?_
          refine x_iload_n (pc2 := 190) hC rfl rfl dX6_product_189 rfl ?_
          refine x_iconst (pc2 := 191) hC dX6_product_190 rfl ?_
          refine x_isub (pc2 := 192) hC dX6_product_191 rfl ?_
          rw [ei]
          refine x_lload (pc2 := 194) hC rfl dX6_product_192 rfl ?_
          refine x_l2i (pc2 := 195) hC dX6_product_194 rfl ?_
          refine x_iast (pc2 := 196) hC hK (by assumption) (by assumption) (by omega) (by decide) dX6_product_195 rfl ?_
          refine x_aload_n (pc2 := 197) hC rfl rfl dX6_product_196 rfl ?_
          refine x_iload_n (pc2 := 198) hC rfl rfl dX6_product_197 rfl ?_
          refine x_aload_n (pc2 := 199) hC rfl rfl dX6_product_198 rfl ?_
          refine g_136 (pc2 := 202) hC hK (by assumption) (by assumption) dX6_product_199 rfl ?_
          refine x_aload_n (pc2 := 203) hC rfl rfl dX6_product_202 rfl ?_
          refine g_136 (pc2 := 206) hC hK (by assumption) (by assumption) dX6_product_203 rfl ?_
          refine x_imul (pc2 := 207) hC dX6_product_206 rfl ?_
          refine x_cVv (pc2 := 210) (ci := 6) hC hK (m_trim l hw ⟨by omega, by omega⟩ dd (by rcases fx with q | q <;> rcases fy with r | r <;> rw [q, r] <;> omega)) lk_258 rfl rfl (by decide) (by assumption) (by assumption) ⟨Nat.le_of_ble_eq_true rfl, Nat.le_of_ble_eq_true rfl⟩ ⟨Nat.le_refl _, Nat.le_refl _⟩ rfl (Nat.le_of_ble_eq_true rfl) dX6_product_207 rfl ?_
          rintro F207 A207 ⟨e207, q1, q2, q3⟩
          obtain rfl := e207.symm
          exact x_vret hC hr hlk ⟨rfl, q1, fun a ha => by rw [uA_ne ha]; exact hA a ha, q2, by
                    rw [q3, show (F x 1 + F y 1).toNat = k + 1 by omega, dv_uA, hv]
                    unfold wv
                    grind⟩ dX6_product_210
        · exfalso; omega
  refine x_aload_n (pc2 := 1) hC rfl rfl dX6_product_0 rfl ?_
  refine g_140 (pc2 := 4) hC hK (by assumption) (by assumption) dX6_product_1 rfl ?_
  refine x_aload_n (pc2 := 5) hC rfl rfl dX6_product_4 rfl ?_
  refine g_140 (pc2 := 8) hC hK (by assumption) (by assumption) dX6_product_5 rfl ?_
  refine x_iadd (pc2 := 9) hC dX6_product_8 rfl ?_
  refine x_istore_n (pc2 := 10) (loc2 := [_, _, _, _, _, _, _, _, _, _, _, _, _]) hC rfl (by decide) rfl dX6_product_9 rfl ?_
  refine x_aload_n (pc2 := 11) hC rfl rfl dX6_product_10 rfl ?_
  refine g_140 (pc2 := 14) hC hK (by assumption) (by assumption) dX6_product_11 rfl ?_
  refine x_if_eq (tgt := 30) (pc2 := 17) hC (by omega) dX6_product_14 rfl rfl (fun h_14 => ?_) (fun h_14 => ?_)
  · exfalso; omega
  · refine x_aload_n (pc2 := 18) hC rfl rfl dX6_product_17 rfl ?_
    refine g_140 (pc2 := 21) hC hK (by assumption) (by assumption) dX6_product_18 rfl ?_
    refine x_if_eq (tgt := 30) (pc2 := 24) hC (by omega) dX6_product_21 rfl rfl (fun h_21 => ?_) (fun h_21 => ?_)
    · exfalso; omega
    · refine x_iload_n (pc2 := 25) hC rfl rfl dX6_product_24 rfl ?_
      refine x_bipush (pc2 := 27) hC rfl dX6_product_25 rfl ?_
      refine x_icmp_le (tgt := 35) (pc2 := 30) hC (by omega) (by omega) dX6_product_27 rfl rfl (fun h_27 => ?_) (fun h_27 => ?_)
      · refine x_lconst0 (pc2 := 36) hC dX6_product_35 rfl ?_
        refine x_lstore (pc2 := 38) (loc2 := [_, _, _, _, _, _, _, _, _, _, _, _, _]) hC (by decide) rfl dX6_product_36 rfl ?_
        refine x_iconst (pc2 := 39) hC dX6_product_38 rfl ?_
        refine x_istore (pc2 := 41) (loc2 := [_, _, _, _, _, _, _, _, _, _, _, _, _]) hC (by decide) rfl dX6_product_39 rfl ?_
        exact loop (F x 1 + F y 1).toNat 0 0 A (by omega) (by omega) (fun _ _ => rfl) (fun j a b => by omega) (by omega) (by omega) (by simp [dv, cs])
      · exfalso; omega
