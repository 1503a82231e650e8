/-! the short gcd ends in a hundred rounds -/
def fb : Nat → Nat
  | 0 => 0
  | 1 => 1
  | n + 2 => fb n + fb (n + 1)
theorem fb_mono (n : Nat) : fb (n + 1) ≤ fb (n + 2) := by simp [fb]
theorem fb_5 (n : Nat) : 8 * fb n ≤ fb (n + 5) := by
  have h1 : fb (n + 5) = fb (n + 3) + fb (n + 4) := rfl
  have h2 : fb (n + 4) = fb (n + 2) + fb (n + 3) := rfl
  have h3 : fb (n + 3) = fb (n + 1) + fb (n + 2) := rfl
  have h4 : fb (n + 2) = fb n + fb (n + 1) := rfl
  cases n with
  | zero => simp [fb]
  | succ n => have := fb_mono n; have h5 : fb (n + 1 + 1) = fb (n + 2) := rfl; omega
theorem fb_big (k : Nat) : 8 ^ k ≤ fb (5 * k + 1) := by
  induction k with
  | zero => simp [fb]
  | succ k ih =>
    have := fb_5 (5 * k + 1)
    rw [show 5 * (k + 1) + 1 = 5 * k + 1 + 5 by omega, Nat.pow_succ]
    omega
def eu : Nat → Nat × Nat → Nat × Nat
  | 0, p => p
  | n + 1, p => eu n (p.2, p.1 % p.2)
theorem eu_succ : ∀ (n : Nat) (p : Nat × Nat), eu (n + 1) p = ((eu n p).2, (eu n p).1 % (eu n p).2)
  | 0, _ => rfl
  | n + 1, p => by
    rw [eu, eu_succ n (p.2, p.1 % p.2)]
    rfl
theorem lame : ∀ (n g l : Nat), l ≤ g → (∀ j, j ≤ n → (eu j (g, l)).2 ≠ 0) → fb (n + 2) ≤ g ∧ fb (n + 1) ≤ l
  | 0, g, l, h, hz => by
    have : l ≠ 0 := hz 0 (Nat.le_refl 0)
    simp [fb]; omega
  | n + 1, g, l, h, hz => by
    have hl : l ≠ 0 := hz 0 (by omega)
    have ih := lame n l (g % l) (Nat.le_of_lt (Nat.mod_lt _ (by omega))) (fun j hj => hz (j + 1) (by omega))
    refine ⟨?_, ih.1⟩
    have e := Nat.div_add_mod g l
    have q : 1 ≤ g / l := (Nat.le_div_iff_mul_le (by omega)).mpr (by omega)
    have := Nat.mul_le_mul_left l q
    have : fb (n + 1 + 2) = fb (n + 1) + fb (n + 2) := rfl
    omega
theorem eu_end {a b : Nat} (hb : b < 1000000000000000000) (hz : ∀ j, j ≤ 100 → (eu j (a, b)).2 ≠ 0) : False := by
  have hb0 : b ≠ 0 := hz 0 (by omega)
  have h := lame 99 b (a % b) (Nat.le_of_lt (Nat.mod_lt _ (by omega))) (fun j hj => hz (j + 1) (by omega))
  have h2 := fb_big 20
  have h3 : (8 : Nat) ^ 20 = 1152921504606846976 := by decide
  have h4 : fb (5 * 20 + 1) = fb (99 + 2) := rfl
  omega
theorem dX6_shortGcd_0 : decode cX6_shortGcd 0 = .ok (.lload_n 0, 1) := by decide +kernel
theorem dX6_shortGcd_1 : decode cX6_shortGcd 1 = .ok (.lstore 4, 2) := by decide +kernel
theorem dX6_shortGcd_3 : decode cX6_shortGcd 3 = .ok (.lload_n 2, 1) := by decide +kernel
theorem dX6_shortGcd_4 : decode cX6_shortGcd 4 = .ok (.lstore 6, 2) := by decide +kernel
theorem dX6_shortGcd_6 : decode cX6_shortGcd 6 = .ok (.iconst 0, 1) := by decide +kernel
theorem dX6_shortGcd_7 : decode cX6_shortGcd 7 = .ok (.istore 8, 2) := by decide +kernel
theorem dX6_shortGcd_9 : decode cX6_shortGcd 9 = .ok (.iload 8, 2) := by decide +kernel
theorem dX6_shortGcd_11 : decode cX6_shortGcd 11 = .ok (.bipush 100, 2) := by decide +kernel
theorem dX6_shortGcd_13 : decode cX6_shortGcd 13 = .ok (.if_icmp .ge 31, 3) := by decide +kernel
theorem dX6_shortGcd_16 : decode cX6_shortGcd 16 = .ok (.lload 6, 2) := by decide +kernel
theorem dX6_shortGcd_18 : decode cX6_shortGcd 18 = .ok (.lconst 0, 1) := by decide +kernel
theorem dX6_shortGcd_19 : decode cX6_shortGcd 19 = .ok (.lcmp, 1) := by decide +kernel
theorem dX6_shortGcd_20 : decode cX6_shortGcd 20 = .ok (.ifCond .eq 24, 3) := by decide +kernel
theorem dX6_shortGcd_23 : decode cX6_shortGcd 23 = .ok (.lload 4, 2) := by decide +kernel
theorem dX6_shortGcd_25 : decode cX6_shortGcd 25 = .ok (.lload 6, 2) := by decide +kernel
theorem dX6_shortGcd_27 : decode cX6_shortGcd 27 = .ok (.lrem, 1) := by decide +kernel
theorem dX6_shortGcd_28 : decode cX6_shortGcd 28 = .ok (.lstore 9, 2) := by decide +kernel
theorem dX6_shortGcd_30 : decode cX6_shortGcd 30 = .ok (.lload 6, 2) := by decide +kernel
theorem dX6_shortGcd_32 : decode cX6_shortGcd 32 = .ok (.lstore 4, 2) := by decide +kernel
theorem dX6_shortGcd_34 : decode cX6_shortGcd 34 = .ok (.lload 9, 2) := by decide +kernel
theorem dX6_shortGcd_36 : decode cX6_shortGcd 36 = .ok (.lstore 6, 2) := by decide +kernel
theorem dX6_shortGcd_38 : decode cX6_shortGcd 38 = .ok (.iinc 8 1, 3) := by decide +kernel
theorem dX6_shortGcd_41 : decode cX6_shortGcd 41 = .ok (.goto (-32), 3) := by decide +kernel
theorem dX6_shortGcd_44 : decode cX6_shortGcd 44 = .ok (.lload 4, 2) := by decide +kernel
theorem dX6_shortGcd_46 : decode cX6_shortGcd 46 = .ok (.lreturn, 1) := by decide +kernel
set_option maxHeartbeats 4000000 in
theorem m_shortGcd (l : Launch) {D : va_G} {ids : Nat → ClassId} {β : Nat} {sh : Nat → Nat × Nat} {N : Nat} {R : Nat → Nat → Option Nat} {F : Nat → Nat → Int} {A : Nat → Int → Int} {a b : Nat} (ha : a < 1000000000000000000) (hb : b < 1000000000000000000) : MetX l yX6_shortGcd cX6_shortGcd 11 (some (.long)) 0 0 D ids β sh N R F A [pL (a : Int), pL (b : Int)] (pLr (sameI F A ((Nat.gcd a b : Nat) : Int))) := by
  refine MetX.of (loc := [_, _, _, _, _, _, _, _, _, _, _]) (plainFor_of_name (by decide +kernel)) (Nat.le_of_ble_eq_true rfl) rfl ?_
  intro p e s m args below meth c hC hK hr hlk
  have loop : ∀ (n k g l0 : Nat), 100 - k < n → k ≤ 100 → eu k (a, b) = (g, l0) → (∀ j, j < k → (eu j (a, b)).2 ≠ 0) → g < 1000000000000000000 → l0 < 1000000000000000000 → g.gcd l0 = a.gcd b → X p l e { frames := 0, cells := 0, slots := 0, locals := 0 } s m args below meth c (MQ below (QX D ids β sh N R (pLr (sameI F A ((Nat.gcd a b : Nat) : Int)))) args s 0 0 (inG β N)) (inG β N) D ids β sh 11 0 0 N R F A [some (pL (a : Int)), none, some (pL (b : Int)), none, some (pL ((g : Int))), none, some (pL ((l0 : Int))), none, some (pI ((k : Int))), none, none] [] 9 := by
    intro n
    induction n with
    | zero => intro k g l0 hn; omega
    | succ n ih =>
      intro k g l0 hn hk he hz hg hl hgcd
      refine x_iload (pc2 := 11) hC rfl dX6_shortGcd_9 rfl ?_
      refine x_bipush (pc2 := 13) hC rfl dX6_shortGcd_11 rfl ?_
      refine x_icmp_ge (tgt := 44) (pc2 := 16) hC (by omega) (by omega) dX6_shortGcd_13 rfl rfl (fun h_13 => ?_) (fun h_13 => ?_)
      · refine x_lload (pc2 := 46) hC rfl dX6_shortGcd_44 rfl ?_
        exact x_lret hC hr hlk ⟨_, rfl, by
              first
                | (have : l0 = 0 := by omega
                   subst this
                   rw [Nat.gcd_zero_right] at hgcd
                   rw [hgcd])
                | (have e : k = 100 := by omega
                   subst e
                   by_cases q : l0 = 0
                   · subst q
                     rw [Nat.gcd_zero_right] at hgcd
                     rw [hgcd]
                   · exact (eu_end hb (fun j hj => by
                       by_cases r : j = 100
                       · rw [r, he]; exact q
                       · exact hz j (by omega))).elim), rfl, rfl⟩ dX6_shortGcd_46
      · refine x_lload (pc2 := 18) hC rfl dX6_shortGcd_16 rfl ?_
        refine x_lconst0 (pc2 := 19) hC dX6_shortGcd_18 rfl ?_
        refine x_lcmp_eq (tgt := 44) (pc2 := 23) hC ⟨by omega, by omega⟩ ⟨by omega, by omega⟩ dX6_shortGcd_19 dX6_shortGcd_20 rfl rfl (fun h_19 => ?_) (fun h_19 => ?_)
        · refine x_lload (pc2 := 46) hC rfl dX6_shortGcd_44 rfl ?_
          exact x_lret hC hr hlk ⟨_, rfl, by
                first
                  | (have : l0 = 0 := by omega
                     subst this
                     rw [Nat.gcd_zero_right] at hgcd
                     rw [hgcd])
                  | (have e : k = 100 := by omega
                     subst e
                     by_cases q : l0 = 0
                     · subst q
                       rw [Nat.gcd_zero_right] at hgcd
                       rw [hgcd]
                     · exact (eu_end hb (fun j hj => by
                         by_cases r : j = 100
                         · rw [r, he]; exact q
                         · exact hz j (by omega))).elim), rfl, rfl⟩ dX6_shortGcd_46
        · refine x_lload (pc2 := 25) hC rfl dX6_shortGcd_23 rfl ?_
          refine x_lload (pc2 := 27) hC rfl dX6_shortGcd_25 rfl ?_
          refine x_lremp (pc2 := 28) hC (by omega) (by omega) (by omega) (by omega) dX6_shortGcd_27 rfl ?_
          refine x_lstore (pc2 := 30) (loc2 := [_, _, _, _, _, _, _, _, _, _, _]) hC (by decide) rfl dX6_shortGcd_28 rfl ?_
          refine x_lload (pc2 := 32) hC rfl dX6_shortGcd_30 rfl ?_
          refine x_lstore (pc2 := 34) (loc2 := [_, _, _, _, _, _, _, _, _, _, _]) hC (by decide) rfl dX6_shortGcd_32 rfl ?_
          refine x_lload (pc2 := 36) hC rfl dX6_shortGcd_34 rfl ?_
          refine x_lstore (pc2 := 38) (loc2 := [_, _, _, _, _, _, _, _, _, _, _]) hC (by decide) rfl dX6_shortGcd_36 rfl ?_
          refine x_iinc (pc2 := 41) (loc2 := [_, _, _, _, _, _, _, _, _, _, _]) hC (by decide) rfl rfl dX6_shortGcd_38 rfl ?_
          refine x_goto (pc2 := 9) hC dX6_shortGcd_41 rfl ?_
          refine x_less (loc2 := [some (pL (a : Int)), none, some (pL (b : Int)), none, some (pL ((l0 : Int))), none, some (pL (((g % l0 : Nat) : Int))), none, some (pI (((k + 1 : Nat) : Int))), none, none]) hC ⟨rfl, rfl, rfl, rfl, rfl, trivial⟩ ?_
          have lp : 0 < l0 := by omega
          have es : eu (k + 1) (a, b) = (l0, g % l0) := by rw [eu_succ, he]
          refine ih (k + 1) l0 (g % l0) (by omega) (by omega) es (fun j hj => ?_) hl (by have := Nat.mod_lt g lp; omega) ?_
          · by_cases e : j = k
            · rw [e, he]; show l0 ≠ 0; omega
            · exact hz j (by omega)
          · rw [← hgcd, show l0.gcd (g % l0) = g.gcd l0 by rw [Nat.gcd_comm l0 (g % l0), ← Nat.gcd_rec, Nat.gcd_comm]]
  refine x_lload_n (pc2 := 1) hC rfl rfl dX6_shortGcd_0 rfl ?_
  refine x_lstore (pc2 := 3) (loc2 := [_, _, _, _, _, _, _, _, _, _, _]) hC (by decide) rfl dX6_shortGcd_1 rfl ?_
  refine x_lload_n (pc2 := 4) hC rfl rfl dX6_shortGcd_3 rfl ?_
  refine x_lstore (pc2 := 6) (loc2 := [_, _, _, _, _, _, _, _, _, _, _]) hC (by decide) rfl dX6_shortGcd_4 rfl ?_
  refine x_iconst (pc2 := 7) hC dX6_shortGcd_6 rfl ?_
  refine x_istore (pc2 := 9) (loc2 := [_, _, _, _, _, _, _, _, _, _, _]) hC (by decide) rfl dX6_shortGcd_7 rfl ?_
  exact loop 101 0 a b (by omega) (by omega) rfl (fun j hj => by omega) ha hb rfl
