/-- what a share does to the Lowest object and its wholes -/
def shF (F : Nat → Nat → Int) (A : Nat → Int → Int) (L g l2 qt rs g' l' : Nat) (F' : Nat → Nat → Int) (A' : Nat → Int → Int) : Prop :=
  ((g' = g ∧ l' = l2) ∨ (g' = l2 ∧ l' = g)) ∧ F' L 5 = (g' : Int) ∧ F' L 6 = (l' : Int) ∧ (∀ o, o ≠ L → o ≠ g → o ≠ l2 → o ≠ qt → o ≠ rs → F' o = F o) ∧ (∀ j, j ≠ 5 → j ≠ 6 → F' L j = F L j) ∧ (∀ a, a ≠ g + 1 → a ≠ l2 + 1 → a ≠ qt + 1 → a ≠ rs + 1 → A' a = A a) ∧ WOK F' A' g' ∧ WOK F' A' l' ∧ WOK F' A' qt ∧ WOK F' A' rs
def Q_share (F : Nat → Nat → Int) (A : Nat → Int → Int) (L g l2 qt rs : Nat) (few : Int) (d : Nat) : Int → (Nat → Nat → Int) → (Nat → Int → Int) → Prop := fun z F' A' =>
  ∃ g' l' : Nat, shF F A L g l2 qt rs g' l' F' A' ∧ ((z = 1 ∧ wv F' A' g' = (d : Int)) ∨ (z = 0 ∧ 2 ≤ few ∧ (d : Int) < 1000000000 ^ (few - 1).toNat ∧ 0 < d))
def pw (n : Nat) : Nat := 2 ^ n
def B79 : Int := 1000000000 ^ 79
theorem pw_0 : pw 0 = 1 := rfl
theorem two_pow_half {p q e : Nat} (h : 2 * q ≤ p) (hp : p < pw (e + 1)) : q < pw e := by unfold pw at *; rw [Nat.pow_succ] at hp; omega
theorem big_start {a b : Nat} (ha : (a : Int) < B79) (hb : (b : Int) < B79) : a * b < pw 4999 := by
  unfold B79 at *
  unfold pw
  have e : (1000000000 : Int) ^ 79 = ((1000000000 ^ 79 : Nat) : Int) := by rw [Int.natCast_pow]; rfl
  rw [e] at ha hb
  have h1 : a * b < 1000000000 ^ 79 * 1000000000 ^ 79 := Nat.mul_lt_mul'' (by omega) (by omega)
  have h2 : 1000000000 ^ 79 * 1000000000 ^ 79 < 2 ^ 4999 := by decide +kernel
  omega
theorem sq_set {F F' : Nat → Nat → Int} {A A' : Nat → Int → Int} {w : Nat} {v : Int} (h : Q_set F A w v F' A') : WOK (uF F' w 0 (F' w 0 * F' w 0)) A' w ∧ wv (uF F' w 0 (F' w 0 * F' w 0)) A' w = v.natAbs ∧ 0 ≤ uF F' w 0 (F' w 0 * F' w 0) w 0 := by
  obtain ⟨-, -, q3, q4⟩ := h
  have e0 : uF F' w 0 (F' w 0 * F' w 0) w 0 = F' w 0 * F' w 0 := uF_eq
  have e1 : uF F' w 0 (F' w 0 * F' w 0) w 1 = F' w 1 := uF_nj (by decide)
  have em : wm (uF F' w 0 (F' w 0 * F' w 0)) A' w = wm F' A' w := by unfold wm; rw [e1]
  have hm := wm_of_wv q3 q4
  obtain ⟨s1, s2, s3, s4, s5⟩ := q3
  refine ⟨?_, ?_, ?_⟩
  · unfold WOK
    rw [e0, e1]
    refine ⟨s1, s2, s3, s4, ?_⟩
    rcases s5 with ⟨u1, u2⟩ | ⟨u1, u2 | u2⟩ <;> rw [u2] <;> omega
  · unfold wv
    rw [em, e0, hm]
    rcases s5 with ⟨u1, u2⟩ | ⟨u1, u2 | u2⟩
    · rw [u2]; unfold wv at q4; rw [u2, Int.zero_mul] at q4; rw [← q4]; rfl
    · rw [u2]; omega
    · rw [u2]; omega
  · rw [e0]
    rcases s5 with ⟨u1, u2⟩ | ⟨u1, u2 | u2⟩ <;> rw [u2] <;> omega
theorem dX3_share_0 : decode cX3_share 0 = .ok (.aload_n 0, 1) := by decide +kernel
theorem dX3_share_1 : decode cX3_share 1 = .ok (.getfield 40, 3) := by decide +kernel
theorem dX3_share_4 : decode cX3_share 4 = .ok (.aload_n 1, 1) := by decide +kernel
theorem dX3_share_5 : decode cX3_share 5 = .ok (.invokevirtual 57, 3) := by decide +kernel
theorem dX3_share_8 : decode cX3_share 8 = .ok (.aload_n 0, 1) := by decide +kernel
theorem dX3_share_9 : decode cX3_share 9 = .ok (.getfield 40, 3) := by decide +kernel
theorem dX3_share_12 : decode cX3_share 12 = .ok (.aload_n 0, 1) := by decide +kernel
theorem dX3_share_13 : decode cX3_share 13 = .ok (.getfield 40, 3) := by decide +kernel
theorem dX3_share_16 : decode cX3_share 16 = .ok (.getfield 46, 3) := by decide +kernel
theorem dX3_share_19 : decode cX3_share 19 = .ok (.aload_n 0, 1) := by decide +kernel
theorem dX3_share_20 : decode cX3_share 20 = .ok (.getfield 40, 3) := by decide +kernel
theorem dX3_share_23 : decode cX3_share 23 = .ok (.getfield 46, 3) := by decide +kernel
theorem dX3_share_26 : decode cX3_share 26 = .ok (.imul, 1) := by decide +kernel
theorem dX3_share_27 : decode cX3_share 27 = .ok (.putfield 46, 3) := by decide +kernel
theorem dX3_share_30 : decode cX3_share 30 = .ok (.aload_n 0, 1) := by decide +kernel
theorem dX3_share_31 : decode cX3_share 31 = .ok (.getfield 37, 3) := by decide +kernel
theorem dX3_share_34 : decode cX3_share 34 = .ok (.aload_n 0, 1) := by decide +kernel
theorem dX3_share_35 : decode cX3_share 35 = .ok (.getfield 40, 3) := by decide +kernel
theorem dX3_share_38 : decode cX3_share 38 = .ok (.invokevirtual 84, 3) := by decide +kernel
theorem dX3_share_41 : decode cX3_share 41 = .ok (.ifCond .ge 7, 3) := by decide +kernel
theorem dX3_share_44 : decode cX3_share 44 = .ok (.aload_n 0, 1) := by decide +kernel
theorem dX3_share_45 : decode cX3_share 45 = .ok (.invokevirtual 88, 3) := by decide +kernel
theorem dX3_share_48 : decode cX3_share 48 = .ok (.iconst 0, 1) := by decide +kernel
theorem dX3_share_49 : decode cX3_share 49 = .ok (.istore_n 3, 1) := by decide +kernel
theorem dX3_share_50 : decode cX3_share 50 = .ok (.iload_n 3, 1) := by decide +kernel
theorem dX3_share_51 : decode cX3_share 51 = .ok (.sipush 5000, 3) := by decide +kernel
theorem dX3_share_54 : decode cX3_share 54 = .ok (.if_icmp .ge 97, 3) := by decide +kernel
theorem dX3_share_57 : decode cX3_share 57 = .ok (.aload_n 0, 1) := by decide +kernel
theorem dX3_share_58 : decode cX3_share 58 = .ok (.getfield 40, 3) := by decide +kernel
theorem dX3_share_61 : decode cX3_share 61 = .ok (.getfield 46, 3) := by decide +kernel
theorem dX3_share_64 : decode cX3_share 64 = .ok (.ifCond .ne 5, 3) := by decide +kernel
theorem dX3_share_67 : decode cX3_share 67 = .ok (.iconst 1, 1) := by decide +kernel
theorem dX3_share_68 : decode cX3_share 68 = .ok (.ireturn, 1) := by decide +kernel
theorem dX3_share_69 : decode cX3_share 69 = .ok (.aload_n 0, 1) := by decide +kernel
theorem dX3_share_70 : decode cX3_share 70 = .ok (.getfield 40, 3) := by decide +kernel
theorem dX3_share_73 : decode cX3_share 73 = .ok (.getfield 66, 3) := by decide +kernel
theorem dX3_share_76 : decode cX3_share 76 = .ok (.iload_n 2, 1) := by decide +kernel
theorem dX3_share_77 : decode cX3_share 77 = .ok (.if_icmp .ge 5, 3) := by decide +kernel
theorem dX3_share_80 : decode cX3_share 80 = .ok (.iconst 0, 1) := by decide +kernel
theorem dX3_share_81 : decode cX3_share 81 = .ok (.ireturn, 1) := by decide +kernel
theorem dX3_share_82 : decode cX3_share 82 = .ok (.aload_n 0, 1) := by decide +kernel
theorem dX3_share_83 : decode cX3_share 83 = .ok (.getfield 37, 3) := by decide +kernel
theorem dX3_share_86 : decode cX3_share 86 = .ok (.getfield 66, 3) := by decide +kernel
theorem dX3_share_89 : decode cX3_share 89 = .ok (.iconst 2, 1) := by decide +kernel
theorem dX3_share_90 : decode cX3_share 90 = .ok (.if_icmp .gt 29, 3) := by decide +kernel
theorem dX3_share_93 : decode cX3_share 93 = .ok (.aload_n 0, 1) := by decide +kernel
theorem dX3_share_94 : decode cX3_share 94 = .ok (.getfield 37, 3) := by decide +kernel
theorem dX3_share_97 : decode cX3_share 97 = .ok (.aload_n 0, 1) := by decide +kernel
theorem dX3_share_98 : decode cX3_share 98 = .ok (.getfield 37, 3) := by decide +kernel
theorem dX3_share_101 : decode cX3_share 101 = .ok (.invokevirtual 91, 3) := by decide +kernel
theorem dX3_share_104 : decode cX3_share 104 = .ok (.aload_n 0, 1) := by decide +kernel
theorem dX3_share_105 : decode cX3_share 105 = .ok (.getfield 40, 3) := by decide +kernel
theorem dX3_share_108 : decode cX3_share 108 = .ok (.invokevirtual 91, 3) := by decide +kernel
theorem dX3_share_111 : decode cX3_share 111 = .ok (.invokestatic 95, 3) := by decide +kernel
theorem dX3_share_114 : decode cX3_share 114 = .ok (.invokevirtual 99, 3) := by decide +kernel
theorem dX3_share_117 : decode cX3_share 117 = .ok (.iconst 1, 1) := by decide +kernel
theorem dX3_share_118 : decode cX3_share 118 = .ok (.ireturn, 1) := by decide +kernel
theorem dX3_share_119 : decode cX3_share 119 = .ok (.aload_n 0, 1) := by decide +kernel
theorem dX3_share_120 : decode cX3_share 120 = .ok (.invokevirtual 103, 3) := by decide +kernel
theorem dX3_share_123 : decode cX3_share 123 = .ok (.ifCond .ne 22, 3) := by decide +kernel
theorem dX3_share_126 : decode cX3_share 126 = .ok (.aload_n 0, 1) := by decide +kernel
theorem dX3_share_127 : decode cX3_share 127 = .ok (.getfield 37, 3) := by decide +kernel
theorem dX3_share_130 : decode cX3_share 130 = .ok (.aload_n 0, 1) := by decide +kernel
theorem dX3_share_131 : decode cX3_share 131 = .ok (.getfield 40, 3) := by decide +kernel
theorem dX3_share_134 : decode cX3_share 134 = .ok (.aload_n 0, 1) := by decide +kernel
theorem dX3_share_135 : decode cX3_share 135 = .ok (.getfield 31, 3) := by decide +kernel
theorem dX3_share_138 : decode cX3_share 138 = .ok (.invokevirtual 107, 3) := by decide +kernel
theorem dX3_share_141 : decode cX3_share 141 = .ok (.aload_n 0, 1) := by decide +kernel
theorem dX3_share_142 : decode cX3_share 142 = .ok (.invokevirtual 88, 3) := by decide +kernel
theorem dX3_share_145 : decode cX3_share 145 = .ok (.iinc 3 1, 3) := by decide +kernel
theorem dX3_share_148 : decode cX3_share 148 = .ok (.goto (-98), 3) := by decide +kernel
theorem dX3_share_151 : decode cX3_share 151 = .ok (.iconst 0, 1) := by decide +kernel
theorem dX3_share_152 : decode cX3_share 152 = .ok (.ireturn, 1) := by decide +kernel
set_option maxHeartbeats 6000000 in
theorem m_share (l : Launch) {D : va_G} {ids : Nat → ClassId} {β : Nat} {sh : Nat → Nat × Nat} {N : Nat} {R : Nat → Nat → Option Nat} {F : Nat → Nat → Int} {A : Nat → Int → Int} {L dc tp bt qt rs g l2 x : Nat} {few : Int} {a0 x0 : Nat} (hL : isL sh R N L dc tp bt qt rs) (hg : isW sh R N g) (hl : isW sh R N l2) (hq : isW sh R N qt) (hr0 : isW sh R N rs) (hx : isW sh R N x) (ngl : g ≠ l2) (ngq : g ≠ qt) (ngr : g ≠ rs) (nlq : l2 ≠ qt) (nlr : l2 ≠ rs) (nqr : qt ≠ rs) (ngx : x ≠ g) (nlx : x ≠ l2) (h5 : F L 5 = (g : Int)) (h6 : F L 6 = (l2 : Int)) (wg : WOK F A g) (wl : WOK F A l2) (wq : WOK F A qt) (wr : WOK F A rs) (wx : WOK F A x) (ha0 : wv F A g = (a0 : Int)) (hx0 : wm F A x = (x0 : Int)) (hsz : F g 1 ≤ 79 ∧ F x 1 ≤ 79) (hfew : I32 few) : MetX l yX3_share cX3_share 4 (some (.boolean)) 4 114 D ids β sh N R F A [rf L, rf x, pI few] (pIr (Q_share F A L g l2 qt rs few (a0.gcd x0))) := by
  refine MetX.of (loc := [_, _, _, _]) (plainFor_of_name (by decide +kernel)) (Nat.le_of_ble_eq_true rfl) rfl ?_
  intro p e s m args below meth c hC hK hr hlk
  obtain ⟨k1, k2, k3, k4, k5, k6, k7⟩ := id hL
  obtain ⟨hg1, hg2, hg3, hg4⟩ := id hg
  obtain ⟨hl1, hl2, hl3, hl4⟩ := id hl
  obtain ⟨hq1, hq2, hq3, hq4⟩ := id hq
  obtain ⟨hr1, hr2, hr3, hr4⟩ := id hr0
  obtain ⟨hx1, hx2, hx3, hx4⟩ := id hx
  have hg0 : g < N := by omega
  have hl0 : l2 < N := by omega
  have nLW : ∀ w, isW sh R N w → L ≠ w := fun w h q => by rw [q, h.2.1] at k2; cases k2
  have nLg := nLW g hg
  have nLl := nLW l2 hl
  have nLq := nLW qt hq
  have nLr := nLW rs hr0
  have nLx := nLW x hx
  have loop : ∀ (n r w9 : Nat) (F1 : Nat → Nat → Int) (A1 : Nat → Int → Int) (g1 l1 a b : Nat), w9 < n → w9 + r = 4999 → isW sh R N g1 → isW sh R N l1 → g1 ≠ l1 → g1 ≠ qt → g1 ≠ rs → l1 ≠ qt → l1 ≠ rs → shF F A L g l2 qt rs g1 l1 F1 A1 → wv F1 A1 g1 = (a : Int) → wv F1 A1 l1 = (b : Int) → b ≤ a → (a : Int) < B79 → a * b < pw w9 → a.gcd b = a0.gcd x0 → X p l e { frames := 4, cells := 0, slots := 0, locals := 114 } s m args below meth c (MQ below (QX D ids β sh N R (pIr (Q_share F A L g l2 qt rs few (a0.gcd x0)))) args s 0 0 (inG β N)) (inG β N) D ids β sh 4 0 0 N R F1 A1 [some (rf L), some (rf x), some (pI few), some (pI (r : Int))] [] 50 := by
    intro n
    induction n with
    | zero => intro r w9 F1 A1 g1 l1 a b hn; omega
    | succ n ih =>
      intro r w9 F1 A1 g1 l1 a b hn hr1' hg1' hl1' n1 n2 n3 n4 n5 hF va vb hba hab hp hgcd
      obtain ⟨f0, f5, f6, f7, f8, f9, fg, fl, fq, fr⟩ := id hF
      obtain ⟨i1, i2, i3, i4⟩ := id hg1'
      obtain ⟨j1, j2, j3, j4⟩ := id hl1'
      have i0 : g1 < N := by omega
      have j0 : l1 < N := by omega
      have sg : 0 ≤ F1 g1 0 := by have := wv_pos_iff fg; omega
      have sg1 : ∀ _ : Unit, 0 < a → F1 g1 0 = 1 := fun _ q => by have := wv_pos_iff fg; omega
      have sl : 0 ≤ F1 l1 0 ∧ F1 l1 0 ≤ 1 := by have := wv_pos_iff fl; omega
      have sl0 : ∀ _ : Unit, F1 l1 0 = 0 → b = 0 := fun _ q => by have := wv_pos_iff fl; omega
      have l1p : ∀ _ : Unit, F1 l1 0 ≠ 0 → 1 ≤ F1 l1 1 := fun _ q => by have := fl.2.2.2.2; omega
      have sl1 : ∀ _ : Unit, F1 l1 0 ≠ 0 → 0 < b ∧ F1 l1 0 = 1 := fun _ q => by have := wv_pos_iff fl; omega
      have n6 : ∀ o, o ≠ g → o ≠ l2 → o ≠ g1 ∧ o ≠ l1 := fun o o1 o2 => by rcases f0 with ⟨q1, q2⟩ | ⟨q1, q2⟩ <;> rw [q1, q2] <;> exact ⟨by assumption, by assumption⟩
      have n7 : ∀ c, c ≠ g + 1 → c ≠ l2 + 1 → c ≠ g1 + 1 ∧ c ≠ l1 + 1 := fun o o1 o2 => by rcases f0 with ⟨q1, q2⟩ | ⟨q1, q2⟩ <;> rw [q1, q2] <;> exact ⟨by assumption, by assumption⟩
      have mg : wm F1 A1 g1 = (a : Int) := by rw [wm_of_pos fg sg, va]
      have ml : wm F1 A1 l1 = (b : Int) := by rw [wm_of_pos fl sl.1, vb]
      have szg : F1 g1 1 ≤ 79 := size_le (n := 79) fg (by rw [mg]; exact hab)
      have a18 : ∀ _ : Unit, F1 g1 1 ≤ 2 → a < 1000000000000000000 := fun _ q => by
        have := wm_lt fg
        rw [mg] at this
        have p := pow_le' (B := 1000000000) (by decide) (show (F1 g1 1).toNat ≤ 2 by omega)
        have e : (1000000000 : Int) ^ 2 = 1000000000000000000 := by decide
        omega
      have b18 : ∀ _ : Unit, F1 g1 1 ≤ 2 → b < 1000000000000000000 := fun _ q => by have := a18 () q; omega
      have g18 : ∀ _ : Unit, F1 g1 1 ≤ 2 → 0 < a → ((a.gcd b : Nat) : Int) < 1000000000000000000 := fun _ q q2 => by
        have := a18 () q
        have e2 := Nat.gcd_le_left (m := a) b q2
        omega
      have szl : F1 l1 1 ≤ F1 g1 1 := size_mono fg fl (by rw [mg, ml]; omega)
      obtain ⟨u1, u2, -, -, -⟩ := id fl
      obtain ⟨v1, v2, -, -, -⟩ := id fg
      have nLg1 := nLW g1 hg1'
      have nLl1 := nLW l1 hl1'
      have next : 0 < b → ∀ (F2 : Nat → Nat → Int) (A2 : Nat → Int → Int) (g2 l3 a2 b2 : Nat), isW sh R N g2 → isW sh R N l3 → g2 ≠ l3 → g2 ≠ qt → g2 ≠ rs → l3 ≠ qt → l3 ≠ rs → shF F A L g l2 qt rs g2 l3 F2 A2 → wv F2 A2 g2 = (a2 : Int) → wv F2 A2 l3 = (b2 : Int) → b2 ≤ a2 → a2 ≤ a → 2 * (a2 * b2) ≤ a * b → a2.gcd b2 = a.gcd b → X p l e { frames := 4, cells := 0, slots := 0, locals := 114 } s m args below meth c (MQ below (QX D ids β sh N R (pIr (Q_share F A L g l2 qt rs few (a0.gcd x0)))) args s 0 0 (inG β N)) (inG β N) D ids β sh 4 0 0 N R F2 A2 [some (rf L), some (rf x), some (pI few), some (pI ((r : Int) + 1))] [] 50 := by
        intro hb0 F2 A2 g2 l3 a2 b2 o1 o2 o3 o4 o5 o6 o7 hF2 va2 vb2 hba2 haa hh hgc
        obtain ⟨e', he'⟩ : ∃ e', w9 = e' + 1 := by
          cases w9 with
          | zero =>
            exfalso
            rw [pw_0] at hp
            have := Nat.mul_le_mul (show 1 ≤ a by omega) (show 1 ≤ b by omega)
            omega
          | succ e' => exact ⟨e', rfl⟩
        subst he'
        have q := ih (r + 1) e' F2 A2 g2 l3 a2 b2 (by omega) (by omega) o1 o2 o3 o4 o5 o6 o7 hF2 va2 vb2 hba2 (by omega) (two_pow_half hh hp) (hgc.trans hgcd)
        exact q
      refine x_iload_n (pc2 := 51) hC rfl rfl dX3_share_50 rfl ?_
      refine x_sipush (pc2 := 54) hC rfl dX3_share_51 rfl ?_
      refine x_icmp_ge (tgt := 151) (pc2 := 57) hC (by omega) (by omega) dX3_share_54 rfl rfl (fun h_54 => ?_) (fun h_54 => ?_)
      · exfalso; omega
      · refine x_aload_n (pc2 := 58) hC rfl rfl dX3_share_57 rfl ?_
        refine g_191 (pc2 := 61) hC hK (by assumption) (by assumption) (by assumption) dX3_share_58 rfl ?_
        refine g_137 (pc2 := 64) hC hK (by assumption) (by assumption) dX3_share_61 rfl ?_
        refine x_if_ne (tgt := 69) (pc2 := 67) hC (by omega) dX3_share_64 rfl rfl (fun h_64 => ?_) (fun h_64 => ?_)
        · refine x_aload_n (pc2 := 70) hC rfl rfl dX3_share_69 rfl ?_
          refine g_191 (pc2 := 73) hC hK (by assumption) (by assumption) (by assumption) dX3_share_70 rfl ?_
          refine g_141 (pc2 := 76) hC hK (by assumption) (by assumption) dX3_share_73 rfl ?_
          refine x_iload_n (pc2 := 77) hC rfl rfl dX3_share_76 rfl ?_
          refine x_icmp_ge (tgt := 82) (pc2 := 80) hC (by omega) (by omega) dX3_share_77 rfl rfl (fun h_77 => ?_) (fun h_77 => ?_)
          · refine x_aload_n (pc2 := 83) hC rfl rfl dX3_share_82 rfl ?_
            refine g_190 (pc2 := 86) hC hK (by assumption) (by assumption) (by assumption) dX3_share_83 rfl ?_
            refine g_141 (pc2 := 89) hC hK (by assumption) (by assumption) dX3_share_86 rfl ?_
            refine x_iconst (pc2 := 90) hC dX3_share_89 rfl ?_
            refine x_icmp_gt (tgt := 119) (pc2 := 93) hC (by omega) (by omega) dX3_share_90 rfl rfl (fun h_90 => ?_) (fun h_90 => ?_)
            · refine x_aload_n (pc2 := 120) hC rfl rfl dX3_share_119 rfl ?_
              refine x_cVi (pc2 := 123) (ci := 3) hC hK (m_shareByHeads l hL hg1' hl1' hr0 n1 n3 n5 f5 f6 fg fl (sg1 () (by have := (sl1 () h_64).1; omega)) (sl1 () h_64).2 (by rw [mg, ml]; omega) ⟨by omega, szg⟩) lk_583 rfl rfl (by decide) (by assumption) (by assumption) ⟨Nat.le_of_ble_eq_true rfl, Nat.le_of_ble_eq_true rfl⟩ ⟨Nat.le_refl _, Nat.le_refl _⟩ rfl (Nat.le_of_ble_eq_true rfl) dX3_share_120 rfl ?_
              rintro z F2 A2 (⟨rfl, e1, e2⟩ | ⟨rfl, p1, p2, p3, p4, p5, p6, p7, p8, p9, p10⟩)
              all_goals first | (obtain rfl := e1.symm; obtain rfl := e2.symm) | skip
              rotate_left
              · obtain ⟨a2, ha2⟩ : ∃ a2 : Nat, wv F2 A2 g1 = a2 := ⟨(wv F2 A2 g1).toNat, by omega⟩
                obtain ⟨b2, hb2⟩ : ∃ b2 : Nat, wv F2 A2 l1 = b2 := ⟨(wv F2 A2 l1).toNat, by omega⟩
                have gg : a2.gcd b2 = a.gcd b := by rw [ha2, hb2, va, vb] at p6; exact p6
                have hh : 2 * (a2 * b2) ≤ a * b := by rw [ha2, hb2, va, vb] at p9; rw [← Int.natCast_mul, ← Int.natCast_mul] at p9; omega
                have a2a : a2 ≤ a := by rw [ha2, va] at p10; omega
                have fin5 := next (sl1 () h_64).1 F2 A2 g1 l1 a2 b2 hg1' hl1' n1 n2 n3 n4 n5 ⟨f0, by rw [p1 L nLg1 nLl1 nLr]; exact f5, by rw [p1 L nLg1 nLl1 nLr]; exact f6, fun o o1 o2 o3 o4 o5 => by rw [p1 o (n6 o o2 o3).1 (n6 o o2 o3).2 o5]; exact f7 o o1 o2 o3 o4 o5, fun j q1 q2 => by rw [p1 L nLg1 nLl1 nLr]; exact f8 j q1 q2, fun c c1 c2 c3 c4 => by rw [p2 c (n7 c c1 c2).1 (n7 c c1 c2).2 c4]; exact f9 c c1 c2 c3 c4, p3, p4, WOK_of (p1 qt (Ne.symm n2) (Ne.symm n4) nqr) (p2 (qt + 1) (by omega) (by omega) (by omega)) fq, p5⟩ ha2 hb2 (by omega) a2a hh gg
                refine x_if_ne (tgt := 145) (pc2 := 126) hC (by omega) dX3_share_123 rfl rfl (fun h_123 => ?_) (fun h_123 => ?_)
                · refine x_iinc (pc2 := 148) (loc2 := [_, _, _, _]) hC (by decide) rfl rfl dX3_share_145 rfl ?_
                  refine x_goto (pc2 := 50) hC dX3_share_148 rfl ?_
                  exact fin5
                · exfalso; omega
              refine x_if_ne (tgt := 145) (pc2 := 126) hC (by omega) dX3_share_123 rfl rfl (fun h_123 => ?_) (fun h_123 => ?_)
              · refine x_iinc (pc2 := 148) (loc2 := [_, _, _, _]) hC (by decide) rfl rfl dX3_share_145 rfl ?_
                refine x_goto (pc2 := 50) hC dX3_share_148 rfl ?_
                first
                  | exact fin6
                  | (exfalso; omega)
              · refine x_aload_n (pc2 := 127) hC rfl rfl dX3_share_126 rfl ?_
                refine g_190 (pc2 := 130) hC hK (by assumption) (by assumption) (by assumption) dX3_share_127 rfl ?_
                refine x_aload_n (pc2 := 131) hC rfl rfl dX3_share_130 rfl ?_
                refine g_191 (pc2 := 134) hC hK (by assumption) (by assumption) (by assumption) dX3_share_131 rfl ?_
                refine x_aload_n (pc2 := 135) hC rfl rfl dX3_share_134 rfl ?_
                refine g_188 (pc2 := 138) hC hK (by assumption) (by assumption) (by assumption) dX3_share_135 rfl ?_
                refine x_cVv (pc2 := 141) (ci := 6) hC hK (m_divide l hg1' hl1' hq n1 n2 n4 fg fl szg) lk_603 rfl rfl (by decide) (by assumption) (by assumption) ⟨Nat.le_of_ble_eq_true rfl, Nat.le_of_ble_eq_true rfl⟩ ⟨Nat.le_refl _, Nat.le_refl _⟩ rfl (Nat.le_of_ble_eq_true rfl) dX3_share_138 rfl ?_
                rintro F3 A3 ⟨q1, q2, q3, q4, q5, q6, q7, q8, q9⟩
                rw [mg, ml] at q6 q7
                have r5 : F3 L 5 = (g1 : Int) := by rw [q1 L nLg1 nLl1 nLq]; exact f5
                have r6 : F3 L 6 = (l1 : Int) := by rw [q1 L nLg1 nLl1 nLq]; exact f6
                have wv3 : wv F3 A3 g1 = ((a % b : Nat) : Int) := by
                  have := wv_pos_iff q3
                  rw [← wm_of_pos q3 (q9 sg), q7, Int.natCast_emod]
                rw [vb] at q8
                refine x_aload_n (pc2 := 142) hC rfl rfl dX3_share_141 rfl ?_
                refine x_cVv (pc2 := 145) (ci := 3) hC hK (m_swap l k1 k2 r5 r6) lk_569 rfl rfl (by decide) (by assumption) (by assumption) ⟨Nat.le_of_ble_eq_true rfl, Nat.le_of_ble_eq_true rfl⟩ ⟨Nat.le_refl _, Nat.le_refl _⟩ rfl (Nat.le_of_ble_eq_true rfl) dX3_share_142 rfl ?_
                rintro F4 A4 ⟨e1, e2⟩
                obtain rfl := e1.symm
                obtain rfl := e2.symm
                have bp : 0 < b := (sl1 () h_64).1
                have em := Nat.mod_lt a bp
                have ed := Nat.div_add_mod a b
                have hs2 := half_step (a := (a : Int)) (b := (b : Int)) (q := ((a / b : Nat) : Int)) (by omega) (by rw [← Int.natCast_mul, Nat.mul_comm]; omega) (by rw [← Int.natCast_add_one, ← Int.natCast_mul, Nat.add_mul, Nat.one_mul, Nat.mul_comm (a / b) b]; omega) (by omega)
                have c1 : ∀ o, o ≠ L → uF (uF F3 L 5 (l1 : Int)) L 6 (g1 : Int) o = F3 o := fun o ho => by rw [uF_ne ho, uF_ne ho]
                have fin6 := next bp (uF (uF F3 L 5 (l1 : Int)) L 6 (g1 : Int)) A3 l1 g1 b (a % b) hl1' hg1' (Ne.symm n1) n4 n5 n2 n3 ⟨f0.elim (fun q => Or.inr ⟨q.2, q.1⟩) (fun q => Or.inl ⟨q.2, q.1⟩), by rw [uF_nj (by decide), uF_eq], uF_eq, fun o o1 o2 o3 o4 o5 => by rw [c1 o o1, q1 o (n6 o o2 o3).1 (n6 o o2 o3).2 o4]; exact f7 o o1 o2 o3 o4 o5, fun j j1 j2 => by rw [uF_nj j2, uF_nj j1, q1 L nLg1 nLl1 nLq]; exact f8 j j1 j2, fun c c1' c2 c3 c4 => by rw [q2 c (n7 c c1' c2).1 (n7 c c1' c2).2 c3]; exact f9 c c1' c2 c3 c4, WOK_of (c1 l1 (Ne.symm nLl1)) rfl q4, WOK_of (c1 g1 (Ne.symm nLg1)) rfl q3, WOK_of (c1 qt (Ne.symm nLq)) rfl q5, WOK_of (by rw [c1 rs (Ne.symm nLr), q1 rs (Ne.symm n3) (Ne.symm n5) (Ne.symm nqr)]) (q2 (rs + 1) (by omega) (by omega) (by omega)) fr⟩ (by rw [wv_of (c1 l1 (Ne.symm nLl1)) rfl]; exact q8) (by rw [wv_of (c1 g1 (Ne.symm nLg1)) rfl]; exact wv3) (by omega) (by omega) (by
                  have := hs2.2.1
                  have e : (a : Int) - ((a / b : Nat) : Int) * b = ((a % b : Nat) : Int) := by rw [← Int.natCast_mul, Nat.mul_comm]; omega
                  rw [e, ← Int.natCast_mul, ← Int.natCast_mul] at this
                  omega) (by rw [Nat.gcd_comm b, ← Nat.gcd_rec, Nat.gcd_comm])
                refine x_iinc (pc2 := 148) (loc2 := [_, _, _, _]) hC (by decide) rfl rfl dX3_share_145 rfl ?_
                refine x_goto (pc2 := 50) hC dX3_share_148 rfl ?_
                first
                  | exact fin6
                  | (exfalso; omega)
            · refine x_aload_n (pc2 := 94) hC rfl rfl dX3_share_93 rfl ?_
              refine g_190 (pc2 := 97) hC hK (by assumption) (by assumption) (by assumption) dX3_share_94 rfl ?_
              refine x_aload_n (pc2 := 98) hC rfl rfl dX3_share_97 rfl ?_
              refine g_190 (pc2 := 101) hC hK (by assumption) (by assumption) (by assumption) dX3_share_98 rfl ?_
              refine x_cVl (pc2 := 104) (ci := 6) hC hK (m_head l hg1' fg (by omega)) lk_573 rfl rfl (by decide) (by assumption) (by assumption) ⟨Nat.le_of_ble_eq_true rfl, Nat.le_of_ble_eq_true rfl⟩ ⟨Nat.le_refl _, Nat.le_refl _⟩ rfl (Nat.le_of_ble_eq_true rfl) dX3_share_101 rfl ?_
              rintro z101 F101 A101 ⟨rfl, e1101, e2101⟩
              obtain rfl := e1101.symm
              obtain rfl := e2101.symm
              refine x_aload_n (pc2 := 105) hC rfl rfl dX3_share_104 rfl ?_
              refine g_191 (pc2 := 108) hC hK (by assumption) (by assumption) (by assumption) dX3_share_105 rfl ?_
              refine x_cVl (pc2 := 111) (ci := 6) hC hK (m_head l hl1' fl (by omega)) lk_573 rfl rfl (by decide) (by assumption) (by assumption) ⟨Nat.le_of_ble_eq_true rfl, Nat.le_of_ble_eq_true rfl⟩ ⟨Nat.le_refl _, Nat.le_refl _⟩ rfl (Nat.le_of_ble_eq_true rfl) dX3_share_108 rfl ?_
              rintro z108 F108 A108 ⟨rfl, e1108, e2108⟩
              obtain rfl := e1108.symm
              obtain rfl := e2108.symm
              rw [mg, ml]
              refine x_cSl (pc2 := 114) hC hK (m_shortGcd l (a18 () h_90) (b18 () h_90)) lk_581 rfl ⟨Nat.le_of_ble_eq_true rfl, Nat.le_of_ble_eq_true rfl⟩ ⟨Nat.le_refl _, Nat.le_refl _⟩ rfl (Nat.le_of_ble_eq_true rfl) dX3_share_111 rfl ?_
              rintro z111 F111 A111 ⟨rfl, e1111, e2111⟩
              obtain rfl := e1111.symm
              obtain rfl := e2111.symm
              refine x_cVv (pc2 := 117) (ci := 6) hC hK (m_putSmall l hg1' ⟨by omega, by have := g18 () h_90 (by have := (sl1 () h_64).1; omega); omega⟩) lk_582 rfl rfl (by decide) (by assumption) (by assumption) ⟨Nat.le_of_ble_eq_true rfl, Nat.le_of_ble_eq_true rfl⟩ ⟨Nat.le_refl _, Nat.le_refl _⟩ rfl (Nat.le_of_ble_eq_true rfl) dX3_share_114 rfl ?_
              rintro F9 A9 ⟨p1, p2, p3, p4⟩
              refine x_iconst (pc2 := 118) hC dX3_share_117 rfl ?_
              exact x_zret hC (by omega) hr hlk ⟨_, rfl, g1, l1, ⟨f0, by rw [p1 L nLg1]; exact f5, by rw [p1 L nLg1]; exact f6, fun o o1 o2 o3 o4 o5 => by rw [p1 o (n6 o o2 o3).1]; exact f7 o o1 o2 o3 o4 o5, fun j q1 q2 => by rw [p1 L nLg1]; exact f8 j q1 q2, fun c c1 c2 c3 c4 => by rw [p2 c (n7 c c1 c2).1]; exact f9 c c1 c2 c3 c4, p3, WOK_of (p1 l1 (Ne.symm n1)) (p2 (l1 + 1) (by omega)) fl, WOK_of (p1 qt (Ne.symm n2)) (p2 (qt + 1) (by omega)) fq, WOK_of (p1 rs (Ne.symm n3)) (p2 (rs + 1) (by omega)) fr⟩, Or.inl ⟨rfl, by rw [p4, hgcd]⟩⟩ dX3_share_118
          · refine x_iconst (pc2 := 81) hC dX3_share_80 rfl ?_
            exact x_zret hC (by omega) hr hlk ⟨_, rfl, g1, l1, hF, Or.inr ⟨rfl, by have := l1p () h_64; omega, by
                    have h1 := wm_lt fl
                    have h2 := pow_le' (B := 1000000000) (by decide) (show (F1 l1 1).toNat ≤ (few - 1).toNat by omega)
                    have h3 := Nat.gcd_le_right (n := b) a (sl1 () h_64).1
                    rw [ml] at h1
                    rw [← hgcd]
                    omega, by rw [← hgcd]; exact Nat.gcd_pos_of_pos_right _ (sl1 () h_64).1⟩⟩ dX3_share_81
        · refine x_iconst (pc2 := 68) hC dX3_share_67 rfl ?_
          exact x_zret hC (by omega) hr hlk ⟨_, rfl, g1, l1, hF, Or.inl ⟨rfl, by rw [va, ← hgcd, sl0 () h_64, Nat.gcd_zero_right]⟩⟩ dX3_share_68
  have ga0 : wm F A g = (a0 : Int) := by have := wv_pos_iff wg; rw [wm_of_pos wg (by omega), ha0]
  have a79 : (a0 : Int) < B79 := by
    have h1 := wm_lt wg
    have h2 := pow_le' (B := 1000000000) (by decide) (show (F g 1).toNat ≤ 79 by omega)
    rw [ga0] at h1
    unfold B79
    omega
  have x79 : (x0 : Int) < B79 := by
    have h1 := wm_lt wx
    have h2 := pow_le' (B := 1000000000) (by decide) (show (F x 1).toNat ≤ 79 by omega)
    rw [hx0] at h1
    unfold B79
    omega
  have sle : ∀ _ : Unit, 0 ≤ sgc (a0 : Int) (x0 : Int) → x0 ≤ a0 := fun _ q => by rw [sgc_ge] at q; omega
  have slt : ∀ _ : Unit, sgc (a0 : Int) (x0 : Int) < 0 → a0 ≤ x0 := fun _ q => by
    have : ¬ (0 ≤ sgc (a0 : Int) (x0 : Int)) := by omega
    rw [sgc_ge] at this; omega
  have vx0 : (wv F A x).natAbs = x0 := by rw [wv_abs wx, hx0]; rfl
  refine x_aload_n (pc2 := 1) hC rfl rfl dX3_share_0 rfl ?_
  refine g_191 (pc2 := 4) hC hK (by assumption) (by assumption) (by assumption) dX3_share_1 rfl ?_
  refine x_aload_n (pc2 := 5) hC rfl rfl dX3_share_4 rfl ?_
  refine x_cVv (pc2 := 8) (ci := 6) hC hK (m_assign l hl hx wx) lk_557 rfl rfl (by decide) (by assumption) (by assumption) ⟨Nat.le_of_ble_eq_true rfl, Nat.le_of_ble_eq_true rfl⟩ ⟨Nat.le_refl _, Nat.le_refl _⟩ rfl (Nat.le_of_ble_eq_true rfl) dX3_share_5 rfl ?_
  rintro F1 A1 hq5
  obtain ⟨q1, q2, q3, q4⟩ := id hq5
  have r5 : F1 L 5 = (g : Int) := by rw [q1 L nLl]; exact h5
  have r6 : F1 L 6 = (l2 : Int) := by rw [q1 L nLl]; exact h6
  obtain ⟨z1, z2, z3⟩ := sq_set hq5
  refine x_aload_n (pc2 := 9) hC rfl rfl dX3_share_8 rfl ?_
  refine g_191 (pc2 := 12) hC hK (by assumption) (by assumption) (by assumption) dX3_share_9 rfl ?_
  refine x_aload_n (pc2 := 13) hC rfl rfl dX3_share_12 rfl ?_
  refine g_191 (pc2 := 16) hC hK (by assumption) (by assumption) (by assumption) dX3_share_13 rfl ?_
  refine g_137 (pc2 := 19) hC hK (by assumption) (by assumption) dX3_share_16 rfl ?_
  refine x_aload_n (pc2 := 20) hC rfl rfl dX3_share_19 rfl ?_
  refine g_191 (pc2 := 23) hC hK (by assumption) (by assumption) (by assumption) dX3_share_20 rfl ?_
  refine g_137 (pc2 := 26) hC hK (by assumption) (by assumption) dX3_share_23 rfl ?_
  refine x_imul (pc2 := 27) hC dX3_share_26 rfl ?_
  refine p_137 (pc2 := 30) hC hK (by assumption) (by assumption) dX3_share_27 rfl ?_
  obtain ⟨FF, hFF⟩ : ∃ z, z = uF F1 l2 0 (F1 l2 0 * F1 l2 0) := ⟨_, rfl⟩
  rw [← hFF] at z1 z2 z3 ⊢
  have Fo : ∀ o, o ≠ l2 → FF o = F o := fun o ho => by rw [hFF, uF_ne ho, q1 o ho]
  have r5 : FF L 5 = (g : Int) := by rw [Fo L nLl]; exact h5
  have r6 : FF L 6 = (l2 : Int) := by rw [Fo L nLl]; exact h6
  have wgF : WOK FF A1 g := WOK_of (Fo g ngl) (q2 (g + 1) (by omega)) wg
  have wqF : WOK FF A1 qt := WOK_of (Fo qt (Ne.symm nlq)) (q2 (qt + 1) (by omega)) wq
  have wrF : WOK FF A1 rs := WOK_of (Fo rs (Ne.symm nlr)) (q2 (rs + 1) (by omega)) wr
  have wlF := z1
  have vgF : wv FF A1 g = (a0 : Int) := by rw [wv_of (Fo g ngl) (q2 (g + 1) (by omega))]; exact ha0
  have vlF : wv FF A1 l2 = (x0 : Int) := by rw [z2, vx0]
  have mgF : wm FF A1 g = (a0 : Int) := by rw [wm_of (Fo g ngl) (q2 (g + 1) (by omega))]; exact ga0
  have mlF : wm FF A1 l2 = (x0 : Int) := by rw [wm_of_pos wlF z3]; exact vlF
  refine x_aload_n (pc2 := 31) hC rfl rfl dX3_share_30 rfl ?_
  refine g_190 (pc2 := 34) hC hK (by assumption) (by assumption) (by assumption) dX3_share_31 rfl ?_
  refine x_aload_n (pc2 := 35) hC rfl rfl dX3_share_34 rfl ?_
  refine g_191 (pc2 := 38) hC hK (by assumption) (by assumption) (by assumption) dX3_share_35 rfl ?_
  refine x_cVi (pc2 := 41) (ci := 6) hC hK (m_compareLimbs l hg hl wgF wlF) lk_568 rfl rfl (by decide) (by assumption) (by assumption) ⟨Nat.le_of_ble_eq_true rfl, Nat.le_of_ble_eq_true rfl⟩ ⟨Nat.le_refl _, Nat.le_refl _⟩ rfl (Nat.le_of_ble_eq_true rfl) dX3_share_38 rfl ?_
  rintro z38 F38 A38 ⟨rfl, e138, e238⟩
  obtain rfl := e138.symm
  obtain rfl := e238.symm
  rw [mgF, mlF]
  refine x_if_ge (tgt := 48) (pc2 := 44) hC (by have := @sgc_I (a0 : Int) (x0 : Int); omega) dX3_share_41 rfl rfl (fun h_41 => ?_) (fun h_41 => ?_)
  · refine x_iconst (pc2 := 49) hC dX3_share_48 rfl ?_
    refine x_istore_n (pc2 := 50) (loc2 := [_, _, _, _]) hC rfl (by decide) rfl dX3_share_49 rfl ?_
    first
      | exact loop 5000 0 4999 FF A1 g l2 a0 x0 (by omega) (by omega) hg hl ngl ngq ngr nlq nlr ⟨Or.inl ⟨rfl, rfl⟩, r5, r6, fun o _ _ o3 _ _ => Fo o o3, fun j _ _ => congrFun (Fo L nLl) j, fun c _ c2 _ _ => q2 c c2, wgF, wlF, wqF, wrF⟩ vgF vlF (sle () h_41) a79 (big_start a79 x79) rfl
      | exact loop 5000 0 4999 (uF (uF FF L 5 (l2 : Int)) L 6 (g : Int)) A1 l2 g x0 a0 (by omega) (by omega) hl hg (Ne.symm ngl) nlq nlr ngq ngr ⟨Or.inr ⟨rfl, rfl⟩, by rw [uF_nj (by decide), uF_eq], uF_eq, fun o o1 _ o3 _ _ => by rw [uF_ne o1, uF_ne o1]; exact Fo o o3, fun j j1 j2 => by rw [uF_nj j2, uF_nj j1]; exact congrFun (Fo L nLl) j, fun c _ c2 _ _ => q2 c c2, WOK_of (by rw [uF_ne (Ne.symm nLl), uF_ne (Ne.symm nLl)]) rfl wlF, WOK_of (by rw [uF_ne (Ne.symm nLg), uF_ne (Ne.symm nLg)]) rfl wgF, WOK_of (by rw [uF_ne (Ne.symm nLq), uF_ne (Ne.symm nLq)]) rfl wqF, WOK_of (by rw [uF_ne (Ne.symm nLr), uF_ne (Ne.symm nLr)]) rfl wrF⟩ (by rw [wv_of (by rw [uF_ne (Ne.symm nLl), uF_ne (Ne.symm nLl)]) rfl]; exact vlF) (by rw [wv_of (by rw [uF_ne (Ne.symm nLg), uF_ne (Ne.symm nLg)]) rfl]; exact vgF) (slt () h_41) x79 (big_start x79 a79) (Nat.gcd_comm ..)
  · refine x_aload_n (pc2 := 45) hC rfl rfl dX3_share_44 rfl ?_
    refine x_cVv (pc2 := 48) (ci := 3) hC hK (m_swap l k1 k2 r5 r6) lk_569 rfl rfl (by decide) (by assumption) (by assumption) ⟨Nat.le_of_ble_eq_true rfl, Nat.le_of_ble_eq_true rfl⟩ ⟨Nat.le_refl _, Nat.le_refl _⟩ rfl (Nat.le_of_ble_eq_true rfl) dX3_share_45 rfl ?_
    rintro F45 A45 ⟨e1, e2⟩
    obtain rfl := e1.symm
    obtain rfl := e2.symm
    refine x_iconst (pc2 := 49) hC dX3_share_48 rfl ?_
    refine x_istore_n (pc2 := 50) (loc2 := [_, _, _, _]) hC rfl (by decide) rfl dX3_share_49 rfl ?_
    first
      | exact loop 5000 0 4999 FF A1 g l2 a0 x0 (by omega) (by omega) hg hl ngl ngq ngr nlq nlr ⟨Or.inl ⟨rfl, rfl⟩, r5, r6, fun o _ _ o3 _ _ => Fo o o3, fun j _ _ => congrFun (Fo L nLl) j, fun c _ c2 _ _ => q2 c c2, wgF, wlF, wqF, wrF⟩ vgF vlF (sle () h_41) a79 (big_start a79 x79) rfl
      | exact loop 5000 0 4999 (uF (uF FF L 5 (l2 : Int)) L 6 (g : Int)) A1 l2 g x0 a0 (by omega) (by omega) hl hg (Ne.symm ngl) nlq nlr ngq ngr ⟨Or.inr ⟨rfl, rfl⟩, by rw [uF_nj (by decide), uF_eq], uF_eq, fun o o1 _ o3 _ _ => by rw [uF_ne o1, uF_ne o1]; exact Fo o o3, fun j j1 j2 => by rw [uF_nj j2, uF_nj j1]; exact congrFun (Fo L nLl) j, fun c _ c2 _ _ => q2 c c2, WOK_of (by rw [uF_ne (Ne.symm nLl), uF_ne (Ne.symm nLl)]) rfl wlF, WOK_of (by rw [uF_ne (Ne.symm nLg), uF_ne (Ne.symm nLg)]) rfl wgF, WOK_of (by rw [uF_ne (Ne.symm nLq), uF_ne (Ne.symm nLq)]) rfl wqF, WOK_of (by rw [uF_ne (Ne.symm nLr), uF_ne (Ne.symm nLr)]) rfl wrF⟩ (by rw [wv_of (by rw [uF_ne (Ne.symm nLl), uF_ne (Ne.symm nLl)]) rfl]; exact vlF) (by rw [wv_of (by rw [uF_ne (Ne.symm nLg), uF_ne (Ne.symm nLg)]) rfl]; exact vgF) (slt () h_41) x79 (big_start x79 a79) (Nat.gcd_comm ..)
