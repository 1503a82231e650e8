/-- the Lowest object L: its draft row dc, its wholes -/
def isL (sh : Nat → Nat × Nat) (R : Nat → Nat → Option Nat) (N L dc tp bt qt rs : Nat) : Prop := L < N ∧ sh L = (0, 3) ∧ R L 0 = some dc ∧ R L 1 = some tp ∧ R L 2 = some bt ∧ R L 3 = some qt ∧ R L 4 = some rs
def Q_scale (k : Int) (F : Nat → Nat → Int) (A : Nat → Int → Int) : Int → (Nat → Nat → Int) → (Nat → Int → Int) → Prop := fun z F' A' => (1 ≤ z ∧ (∃ c, z * c = 1000000000) ∧ k * z < 1000000000) ∧ F' = F ∧ A' = A
theorem dX3_scaleOf_0 : decode cX3_scaleOf 0 = .ok (.lconst 1, 1) := by decide +kernel
theorem dX3_scaleOf_1 : decode cX3_scaleOf 1 = .ok (.lstore_n 1, 1) := by decide +kernel
theorem dX3_scaleOf_2 : decode cX3_scaleOf 2 = .ok (.iconst 0, 1) := by decide +kernel
theorem dX3_scaleOf_3 : decode cX3_scaleOf 3 = .ok (.istore_n 3, 1) := by decide +kernel
theorem dX3_scaleOf_4 : decode cX3_scaleOf 4 = .ok (.iload_n 3, 1) := by decide +kernel
theorem dX3_scaleOf_5 : decode cX3_scaleOf 5 = .ok (.bipush 9, 2) := by decide +kernel
theorem dX3_scaleOf_7 : decode cX3_scaleOf 7 = .ok (.if_icmp .ge 26, 3) := by decide +kernel
theorem dX3_scaleOf_10 : decode cX3_scaleOf 10 = .ok (.iload_n 0, 1) := by decide +kernel
theorem dX3_scaleOf_11 : decode cX3_scaleOf 11 = .ok (.i2l, 1) := by decide +kernel
theorem dX3_scaleOf_12 : decode cX3_scaleOf 12 = .ok (.lload_n 1, 1) := by decide +kernel
theorem dX3_scaleOf_13 : decode cX3_scaleOf 13 = .ok (.lmul, 1) := by decide +kernel
theorem dX3_scaleOf_14 : decode cX3_scaleOf 14 = .ok (.ldc2_w 139, 3) := by decide +kernel
theorem dX3_scaleOf_17 : decode cX3_scaleOf 17 = .ok (.lcmp, 1) := by decide +kernel
theorem dX3_scaleOf_18 : decode cX3_scaleOf 18 = .ok (.ifCond .ge 15, 3) := by decide +kernel
theorem dX3_scaleOf_21 : decode cX3_scaleOf 21 = .ok (.lload_n 1, 1) := by decide +kernel
theorem dX3_scaleOf_22 : decode cX3_scaleOf 22 = .ok (.ldc2_w 141, 3) := by decide +kernel
theorem dX3_scaleOf_25 : decode cX3_scaleOf 25 = .ok (.lmul, 1) := by decide +kernel
theorem dX3_scaleOf_26 : decode cX3_scaleOf 26 = .ok (.lstore_n 1, 1) := by decide +kernel
theorem dX3_scaleOf_27 : decode cX3_scaleOf 27 = .ok (.iinc 3 1, 3) := by decide +kernel
theorem dX3_scaleOf_30 : decode cX3_scaleOf 30 = .ok (.goto (-26), 3) := by decide +kernel
theorem dX3_scaleOf_33 : decode cX3_scaleOf 33 = .ok (.lload_n 1, 1) := by decide +kernel
theorem dX3_scaleOf_34 : decode cX3_scaleOf 34 = .ok (.lreturn, 1) := by decide +kernel
set_option maxHeartbeats 4000000 in
theorem m_scaleOf (l : Launch) {D : va_G} {ids : Nat → ClassId} {β : Nat} {sh : Nat → Nat × Nat} {N : Nat} {R : Nat → Nat → Option Nat} {F : Nat → Nat → Int} {A : Nat → Int → Int} {k : Int} (hk : 1 ≤ k ∧ k < 1000000000) : MetX l yX3_scaleOf cX3_scaleOf 4 (some (.long)) 0 0 D ids β sh N R F A [pI k] (pLr (Q_scale k F A)) := by
  refine MetX.of (loc := [_, _, _, _]) (plainFor_of_name (by decide +kernel)) (Nat.le_of_ble_eq_true rfl) rfl ?_
  intro p e s m args below meth c hC hK hr hlk
  have loop : ∀ (n j : Nat), 9 - j < n → j ≤ 9 → k * (10 : Int) ^ j < 1000000000 → X p l e { frames := 0, cells := 0, slots := 0, locals := 0 } s m args below meth c (MQ below (QX D ids β sh N R (pLr (Q_scale k F A))) args s 0 0 (inG β N)) (inG β N) D ids β sh 4 0 0 N R F A [some (pI k), some (pL ((10 : Int) ^ j)), none, some (pI (j : Int))] [] 4 := by
    intro n
    induction n with
    | zero => intro j hn; omega
    | succ n ih =>
      intro j hn hj hlt
      have z0 := pow_pos' (B := 10) (by decide) j
      have z1 : (10 : Int) ^ j ≤ 1000000000 := pow_le' (B := 10) (by decide) (show j ≤ 9 by omega)
      have z2 : ∃ c : Int, (10 : Int) ^ j * c = 1000000000 := ⟨10 ^ (9 - j), by rw [← Int.pow_add, show j + (9 - j) = 9 by omega]; decide⟩
      have es : (10 : Int) ^ (j + 1) = (10 : Int) ^ j * 10 := Int.pow_succ ..
      generalize (10 : Int) ^ j = z at *
      have kz := mul_rng (show 0 ≤ k by omega) (show k ≤ 999999999 by omega) (show 0 ≤ z by omega) z1
      refine x_iload_n (pc2 := 5) hC rfl rfl dX3_scaleOf_4 rfl ?_
      refine x_bipush (pc2 := 7) hC rfl dX3_scaleOf_5 rfl ?_
      refine x_icmp_ge (tgt := 33) (pc2 := 10) hC (by omega) (by omega) dX3_scaleOf_7 rfl rfl (fun h_7 => ?_) (fun h_7 => ?_)
      · refine x_lload_n (pc2 := 34) hC rfl rfl dX3_scaleOf_33 rfl ?_
        exact x_lret hC hr hlk ⟨_, rfl, ⟨by omega, z2, hlt⟩, rfl, rfl⟩ dX3_scaleOf_34
      · refine x_iload_n (pc2 := 11) hC rfl rfl dX3_scaleOf_10 rfl ?_
        refine x_i2l (pc2 := 12) hC (by omega) dX3_scaleOf_11 rfl ?_
        refine x_lload_n (pc2 := 13) hC rfl rfl dX3_scaleOf_12 rfl ?_
        refine x_lmul (pc2 := 14) hC dX3_scaleOf_13 rfl ?_
        refine x_ldc2 (pc2 := 17) (z := 100000000) hC wt_591 rfl dX3_scaleOf_14 rfl ?_
        refine x_lcmp_ge (tgt := 33) (pc2 := 21) hC ⟨by omega, by omega⟩ ⟨by omega, by omega⟩ dX3_scaleOf_17 dX3_scaleOf_18 rfl rfl (fun h_17 => ?_) (fun h_17 => ?_)
        · refine x_lload_n (pc2 := 34) hC rfl rfl dX3_scaleOf_33 rfl ?_
          exact x_lret hC hr hlk ⟨_, rfl, ⟨by omega, z2, hlt⟩, rfl, rfl⟩ dX3_scaleOf_34
        · refine x_lload_n (pc2 := 22) hC rfl rfl dX3_scaleOf_21 rfl ?_
          refine x_ldc2 (pc2 := 25) (z := 10) hC wt_592 rfl dX3_scaleOf_22 rfl ?_
          refine x_lmul (pc2 := 26) hC dX3_scaleOf_25 rfl ?_
          refine x_lstore_n (pc2 := 27) (loc2 := [_, _, _, _]) hC rfl (by decide) rfl dX3_scaleOf_26 rfl ?_
          refine x_iinc (pc2 := 30) (loc2 := [_, _, _, _]) hC (by decide) rfl rfl dX3_scaleOf_27 rfl ?_
          refine x_goto (pc2 := 4) hC dX3_scaleOf_30 rfl ?_
          have q := ih (j + 1) (by omega) (by omega) (by rw [es, ← Int.mul_assoc]; omega)
          rw [es] at q
          exact q
  refine x_lconst1 (pc2 := 1) hC dX3_scaleOf_0 rfl ?_
  refine x_lstore_n (pc2 := 2) (loc2 := [_, _, _, _]) hC rfl (by decide) rfl dX3_scaleOf_1 rfl ?_
  refine x_iconst (pc2 := 3) hC dX3_scaleOf_2 rfl ?_
  refine x_istore_n (pc2 := 4) (loc2 := [_, _, _, _]) hC rfl (by decide) rfl dX3_scaleOf_3 rfl ?_
  exact loop 10 0 (by omega) (by omega) (by rw [Int.pow_zero]; omega)
theorem dX3_swap_0 : decode cX3_swap 0 = .ok (.aload_n 0, 1) := by decide +kernel
theorem dX3_swap_1 : decode cX3_swap 1 = .ok (.getfield 37, 3) := by decide +kernel
theorem dX3_swap_4 : decode cX3_swap 4 = .ok (.astore_n 1, 1) := by decide +kernel
theorem dX3_swap_5 : decode cX3_swap 5 = .ok (.aload_n 0, 1) := by decide +kernel
theorem dX3_swap_6 : decode cX3_swap 6 = .ok (.aload_n 0, 1) := by decide +kernel
theorem dX3_swap_7 : decode cX3_swap 7 = .ok (.getfield 40, 3) := by decide +kernel
theorem dX3_swap_10 : decode cX3_swap 10 = .ok (.putfield 37, 3) := by decide +kernel
theorem dX3_swap_13 : decode cX3_swap 13 = .ok (.aload_n 0, 1) := by decide +kernel
theorem dX3_swap_14 : decode cX3_swap 14 = .ok (.aload_n 1, 1) := by decide +kernel
theorem dX3_swap_15 : decode cX3_swap 15 = .ok (.putfield 40, 3) := by decide +kernel
theorem dX3_swap_18 : decode cX3_swap 18 = .ok (.return_, 1) := by decide +kernel
set_option maxHeartbeats 4000000 in
theorem m_swap (l : Launch) {D : va_G} {ids : Nat → ClassId} {β : Nat} {sh : Nat → Nat × Nat} {N : Nat} {R : Nat → Nat → Option Nat} {F : Nat → Nat → Int} {A : Nat → Int → Int} {L g l2 : Nat} (hL : L < N) (hs : sh L = (0, 3)) (hg : F L 5 = (g : Int)) (hl : F L 6 = (l2 : Int)) : MetX l yX3_swap cX3_swap 2 none 0 0 D ids β sh N R F A [rf L] (pVr (same (uF (uF F L 5 (l2 : Int)) L 6 (g : Int)) A)) := by
  refine MetX.of (loc := [_, _]) (plainFor_of_name (by decide +kernel)) (Nat.le_of_ble_eq_true rfl) rfl ?_
  intro p e s m args below meth c hC hK hr hlk
  refine x_aload_n (pc2 := 1) hC rfl rfl dX3_swap_0 rfl ?_
  refine g_190 (pc2 := 4) hC hK (by assumption) (by assumption) (by assumption) dX3_swap_1 rfl ?_
  refine x_astore_n (pc2 := 5) (loc2 := [_, _]) hC rfl (by decide) rfl dX3_swap_4 rfl ?_
  refine x_aload_n (pc2 := 6) hC rfl rfl dX3_swap_5 rfl ?_
  refine x_aload_n (pc2 := 7) hC rfl rfl dX3_swap_6 rfl ?_
  refine g_191 (pc2 := 10) hC hK (by assumption) (by assumption) (by assumption) dX3_swap_7 rfl ?_
  refine p_190 (pc2 := 13) hC hK (by assumption) (by assumption) dX3_swap_10 rfl ?_
  refine x_aload_n (pc2 := 14) hC rfl rfl dX3_swap_13 rfl ?_
  refine x_aload_n (pc2 := 15) hC rfl rfl dX3_swap_14 rfl ?_
  refine p_191 (pc2 := 18) hC hK (by assumption) (by assumption) dX3_swap_15 rfl ?_
  exact x_vret hC hr hlk ⟨rfl, rfl, rfl⟩ dX3_swap_18
/-! what a step by heads alone knows: a, b are the numbers now (times sc), told by x, y up to the factors -/
/-- signs of the factors, even or odd -/
def lhS (ev : Bool) (xx xy yx yy : Int) : Prop := (ev = true → 0 ≤ xx ∧ xy ≤ 0 ∧ yx ≤ 0 ∧ 1 ≤ yy) ∧ (ev = false → xx ≤ 0 ∧ 1 ≤ xy ∧ 0 ≤ yx ∧ yy ≤ -1)
/-- how the heads bound the numbers; a, b are times sc, in units U -/
def lhB (ev : Bool) (U sc a b x y xx xy yx yy : Int) : Prop := (ev = true → (x + xy) * U ≤ a * sc ∧ a * sc ≤ (x + xx) * U ∧ (y + yx) * U ≤ b * sc ∧ b * sc ≤ (y + yy) * U) ∧ (ev = false → (x + xx) * U ≤ a * sc ∧ a * sc ≤ (x + xy) * U ∧ (y + yy) * U ≤ b * sc ∧ b * sc ≤ (y + yx) * U)
theorem lh_q {U sc a b x0 y0 x1 y1 q : Int} (hU : 0 < U) (hsc : 0 < sc) (hq : 0 ≤ q) (a0 : x0 * U ≤ a * sc) (a1 : a * sc ≤ x1 * U) (b0 : y0 * U ≤ b * sc) (b1 : b * sc ≤ y1 * U) (p0 : 0 < y0) (p1 : 0 < y1) (e0 : q = x0 / y1) (e1 : q = x1 / y0) : q * b ≤ a ∧ a < (q + 1) * b := by
  have h0 := Int.mul_ediv_add_emod x0 y1
  have h1 := Int.emod_nonneg x0 (show y1 ≠ 0 by omega)
  have h2 := Int.mul_ediv_add_emod x1 y0
  have h3 := Int.emod_lt_of_pos x1 p0
  rw [← e0] at h0
  rw [← e1] at h2
  have c1 : q * (b * sc) ≤ q * (y1 * U) := Int.mul_le_mul_of_nonneg_left b1 hq
  have c2 : (y1 * q) * U ≤ x0 * U := Int.mul_le_mul_of_nonneg_right (by omega) (by omega)
  have c3 : q * (y1 * U) = (y1 * q) * U := by grind
  have d1 : (q + 1) * (y0 * U) ≤ (q + 1) * (b * sc) := Int.mul_le_mul_of_nonneg_left b0 (by omega)
  have d2 : x1 * U < (y0 * q + y0) * U := Int.mul_lt_mul_of_pos_right (by omega) hU
  have d3 : (q + 1) * (y0 * U) = (y0 * q + y0) * U := by grind
  refine ⟨Int.le_of_mul_le_mul_right (a := sc) (by rw [Int.mul_assoc]; omega) hsc, Int.lt_of_mul_lt_mul_right (a := sc) (by rw [Int.mul_assoc]; omega) (by omega)⟩
theorem lh_step {ev : Bool} {U sc a b x y xx xy yx yy q : Int} (hU : 0 < U) (hsc : 0 < sc) (hS : lhS ev xx xy yx yy) (hB : lhB ev U sc a b x y xx xy yx yy) (p0 : 0 < y + yx) (p1 : 0 < y + yy) (x0 : 0 < x + xx) (x1 : 0 < x + xy) (e0 : q = (x + xx) / (y + yx)) (e1 : q = (x + xy) / (y + yy)) :
    (q * b ≤ a ∧ a < (q + 1) * b) ∧ 0 ≤ q ∧ lhB (!ev) U sc b (a - q * b) y (x - q * y) yx yy (xx - q * yx) (xy - q * yy) := by
  have q0 : 0 ≤ q := by rw [e0]; exact Int.ediv_nonneg (by omega) (by omega)
  cases ev with
  | true =>
    obtain ⟨h1, h2, h3, h4⟩ := hB.1 rfl
    have hq := lh_q hU hsc q0 h1 h2 h3 h4 p0 p1 e1 e0
    refine ⟨hq, q0, ⟨fun h => absurd h (by decide), fun _ => ?_⟩⟩
    have c1 : q * ((y + yx) * U) ≤ q * (b * sc) := Int.mul_le_mul_of_nonneg_left h3 q0
    have c2 : q * (b * sc) ≤ q * ((y + yy) * U) := Int.mul_le_mul_of_nonneg_left h4 q0
    refine ⟨h3, h4, ?_, ?_⟩
    · have e : (x - q * y + (xy - q * yy)) * U = (x + xy) * U - q * ((y + yy) * U) := by grind
      have f : (a - q * b) * sc = a * sc - q * (b * sc) := by grind
      omega
    · have e : (x - q * y + (xx - q * yx)) * U = (x + xx) * U - q * ((y + yx) * U) := by grind
      have f : (a - q * b) * sc = a * sc - q * (b * sc) := by grind
      omega
  | false =>
    obtain ⟨h1, h2, h3, h4⟩ := hB.2 rfl
    have hq := lh_q hU hsc q0 h1 h2 h3 h4 p1 p0 e0 e1
    refine ⟨hq, q0, ⟨fun _ => ?_, fun h => absurd h (by decide)⟩⟩
    have c1 : q * ((y + yy) * U) ≤ q * (b * sc) := Int.mul_le_mul_of_nonneg_left h3 q0
    have c2 : q * (b * sc) ≤ q * ((y + yx) * U) := Int.mul_le_mul_of_nonneg_left h4 q0
    refine ⟨h3, h4, ?_, ?_⟩
    · have e : (x - q * y + (xx - q * yx)) * U = (x + xx) * U - q * ((y + yx) * U) := by grind
      have f : (a - q * b) * sc = a * sc - q * (b * sc) := by grind
      omega
    · have e : (x - q * y + (xy - q * yy)) * U = (x + xy) * U - q * ((y + yy) * U) := by grind
      have f : (a - q * b) * sc = a * sc - q * (b * sc) := by grind
      omega
theorem lh_sgn {ev : Bool} {xx xy yx yy q : Int} (hS : lhS ev xx xy yx yy) (hq : 1 ≤ q) : lhS (!ev) yx yy (xx - q * yx) (xy - q * yy) := by
  cases ev with
  | true =>
    obtain ⟨h1, h2, h3, h4⟩ := hS.1 rfl
    refine ⟨fun h => absurd h (by decide), fun _ => ⟨h3, h4, ?_, ?_⟩⟩
    · have := Int.mul_nonneg (show 0 ≤ q by omega) (show 0 ≤ -yx by omega)
      rw [Int.mul_neg] at this; omega
    · have : 1 * 1 ≤ q * yy := Int.mul_le_mul hq h4 (by omega) (by omega)
      omega
  | false =>
    obtain ⟨h1, h2, h3, h4⟩ := hS.2 rfl
    refine ⟨fun _ => ⟨h3, by omega, ?_, ?_⟩, fun h => absurd h (by decide)⟩
    · have := Int.mul_nonneg (show 0 ≤ q by omega) h3
      omega
    · have : 1 * 1 ≤ q * (-yy) := Int.mul_le_mul hq (by omega) (by omega) (by omega)
      rw [Int.mul_neg] at this; omega
/-- the heads are not greater than the first ones, but for little -/
theorem lh_rng {ev : Bool} {U sc a b x y xx xy yx yy x0 Gv : Int} (hU : 0 < U) (hsc : 0 < sc) (hB : lhB ev U sc a b x y xx xy yx yy) (m1 : -1000000000 ≤ xx ∧ xx ≤ 1000000000) (m2 : -1000000000 ≤ xy ∧ xy ≤ 1000000000) (m3 : -1000000000 ≤ yx ∧ yx ≤ 1000000000) (m4 : -1000000000 ≤ yy ∧ yy ≤ 1000000000) (hG : Gv * sc ≤ (x0 + 1) * U) (ha : a ≤ Gv) (hb : b ≤ Gv) (b0 : 0 ≤ b) (a0 : 0 ≤ a) (hx0 : 0 ≤ x0 ∧ x0 ≤ 3000000000000000000) : (-1000000000 ≤ x ∧ x ≤ 3000000001000000001) ∧ (-1000000000 ≤ y ∧ y ≤ 3000000001000000001) := by
  have ga : a * sc ≤ Gv * sc := Int.mul_le_mul_of_nonneg_right ha (by omega)
  have gb : b * sc ≤ Gv * sc := Int.mul_le_mul_of_nonneg_right hb (by omega)
  have na := Int.mul_nonneg a0 (show 0 ≤ sc by omega)
  have nb := Int.mul_nonneg b0 (show 0 ≤ sc by omega)
  have up : ∀ {u v w : Int}, (u + v) * U ≤ w → w ≤ (x0 + 1) * U → u + v ≤ x0 + 1 := fun h1 h2 => Int.le_of_mul_le_mul_right (Int.le_trans h1 h2) hU
  have lo : ∀ {u v w : Int}, w ≤ (u + v) * U → 0 ≤ w → 0 ≤ u + v := fun {u v w} h1 h2 => by
    apply Classical.byContradiction
    intro q
    have := Int.mul_le_mul_of_nonneg_right (show u + v ≤ -1 by omega) (show 0 ≤ U by omega)
    omega
  cases ev with
  | true =>
    obtain ⟨h1, h2, h3, h4⟩ := hB.1 rfl
    have := up h1 (by omega)
    have := lo h2 na
    have := up h3 (by omega)
    have := lo h4 nb
    omega
  | false =>
    obtain ⟨h1, h2, h3, h4⟩ := hB.2 rfl
    have := up h1 (by omega)
    have := lo h2 na
    have := up h3 (by omega)
    have := lo h4 nb
    omega
theorem gcd_sub (a b q : Int) : Int.gcd b (a - q * b) = Int.gcd a b := by
  rw [Int.gcd_comm a b, Int.sub_eq_add_neg, ← Int.neg_mul, Int.gcd_add_mul_right_right]
theorem hc_ring (u v w P d sc qd md : Int) (h : w * sc = 1000000000 * qd + md) : (((u * 1000000000 + v) * 1000000000 + w) * P + d) * sc = (u * sc * 1000000000 + v * sc + qd) * (P * 1000000000) + (md * P + d * sc) := by
  have e2 : (((u * 1000000000 + v) * 1000000000 + w) * P + d) * sc = (u * sc * 1000000000 + v * sc) * (P * 1000000000) + (w * sc) * P + d * sc := by grind
  rw [e2, h]; grind
theorem hc_md {w sc c qd md : Int} (hm : 1000000000 * qd + md = w * sc) (hc : sc * c = 1000000000) (h1 : 1 ≤ sc) (m1 : md < 1000000000) : md ≤ 1000000000 - sc := by
  have e : md = (w - c * qd) * sc := by
    have : c * qd * sc = 1000000000 * qd := by rw [← hc]; grind
    rw [Int.sub_mul]; omega
  have hb : (w - c * qd) * sc < c * sc := by rw [← e, Int.mul_comm c sc, hc]; exact m1
  have hb2 : w - c * qd < c := Int.lt_of_mul_lt_mul_right hb (by omega)
  have := Int.mul_le_mul_of_nonneg_right (show (w - c * qd) + 1 ≤ c by omega) (show 0 ≤ sc by omega)
  rw [Int.add_mul, Int.one_mul, ← e, Int.mul_comm c sc, hc] at this
  omega
/-- the head of a number: its first digits, cut -/
theorem head_cut {f : Int → Int} {n : Nat} {sc : Int} (hd : dig 1000000000 f (n + 3)) (h1 : 1 ≤ sc) (hc : ∃ c, sc * c = 1000000000) : (f (n + 2) * sc * 1000000000 + f (n + 1) * sc + f n * sc / 1000000000) * 1000000000 ^ (n + 1) ≤ dv 1000000000 f (n + 3) * sc ∧ dv 1000000000 f (n + 3) * sc < (f (n + 2) * sc * 1000000000 + f (n + 1) * sc + f n * sc / 1000000000 + 1) * 1000000000 ^ (n + 1) := by
  obtain ⟨c, hc⟩ := hc
  have r0 := dv_nonneg (B := 1000000000) (f := f) (n := n) (by decide) (fun k a b => (hd k a (by omega)).1)
  have r1 := dv_lt (B := 1000000000) (f := f) (n := n) (by decide) (fun k a b => hd k a (by omega))
  have P0 := pow_pos' (B := 1000000000) (by decide) n
  have e := dv_head3 (B := 1000000000) (f := f) n
  rw [Int.pow_succ]
  rw [e]
  generalize dv 1000000000 f n = d at *
  generalize (1000000000 : Int) ^ n = P at *
  generalize f ((n : Int) + 2) = u at *
  generalize f ((n : Int) + 1) = v at *
  have hf := hd n (by omega) (by omega)
  generalize f (n : Int) = w at *
  have hm := Int.mul_ediv_add_emod (w * sc) 1000000000
  have m0 := Int.emod_nonneg (w * sc) (show (1000000000 : Int) ≠ 0 by decide)
  have m1 := Int.emod_lt_of_pos (w * sc) (show (0 : Int) < 1000000000 by decide)
  have hle := hc_md hm hc h1 m1
  generalize w * sc % 1000000000 = md at *
  generalize w * sc / 1000000000 = qd at *
  have k1 := hc_ring u v w P d sc qd md hm.symm
  have k2 : 0 ≤ md * P := Int.mul_nonneg m0 (by omega)
  have k3 : 0 ≤ d * sc := Int.mul_nonneg r0 (by omega)
  have k4 : md * P ≤ (1000000000 - sc) * P := Int.mul_le_mul_of_nonneg_right hle (by omega)
  have k5 : d * sc < P * sc := Int.mul_lt_mul_of_pos_right r1 (by omega)
  have k6 : (1000000000 - sc) * P = P * 1000000000 - P * sc := by rw [Int.sub_mul, Int.mul_comm P 1000000000, Int.mul_comm P sc]
  refine ⟨by omega, ?_⟩
  rw [Int.add_mul _ 1, Int.one_mul]
  omega
