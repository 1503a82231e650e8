/-- a window of w's limbs, from k on -/
abbrev win (A : Nat → Int → Int) (w : Nat) (k : Int) : Int → Int := fun j => A (w + 1) (k + j)
def Q_as (F : Nat → Nat → Int) (A : Nat → Int → Int) (w b : Nat) (bs k f : Int) : Int → (Nat → Nat → Int) → (Nat → Int → Int) → Prop := fun z F' A' => F' = F ∧ (∀ a, a ≠ w + 1 → A' a = A a) ∧ (∀ j, j < k ∨ k + bs < j → A' (w + 1) j = A (w + 1) j) ∧ dig 1000000000 (win A' w k) (bs + 1) ∧ (-1000000002 ≤ z ∧ z ≤ 1000000002) ∧ dv 1000000000 (win A' w k) (bs.toNat + 1) + z * 1000000000 ^ (bs.toNat + 1) = dv 1000000000 (win A w k) (bs.toNat + 1) + f * dv 1000000000 (A (b + 1)) bs.toNat
theorem dX6_addShifted_0 : decode cX6_addShifted 0 = .ok (.lconst 0, 1) := by decide +kernel
theorem dX6_addShifted_1 : decode cX6_addShifted 1 = .ok (.lstore 6, 2) := by decide +kernel
theorem dX6_addShifted_3 : decode cX6_addShifted 3 = .ok (.iconst 0, 1) := by decide +kernel
theorem dX6_addShifted_4 : decode cX6_addShifted 4 = .ok (.istore 8, 2) := by decide +kernel
theorem dX6_addShifted_6 : decode cX6_addShifted 6 = .ok (.iload 8, 2) := by decide +kernel
theorem dX6_addShifted_8 : decode cX6_addShifted 8 = .ok (.iload_n 2, 1) := by decide +kernel
theorem dX6_addShifted_9 : decode cX6_addShifted 9 = .ok (.if_icmp .gt 75, 3) := by decide +kernel
theorem dX6_addShifted_12 : decode cX6_addShifted 12 = .ok (.aload_n 0, 1) := by decide +kernel
theorem dX6_addShifted_13 : decode cX6_addShifted 13 = .ok (.getfield 9, 3) := by decide +kernel
theorem dX6_addShifted_16 : decode cX6_addShifted 16 = .ok (.iload_n 3, 1) := by decide +kernel
theorem dX6_addShifted_17 : decode cX6_addShifted 17 = .ok (.iload 8, 2) := by decide +kernel
theorem dX6_addShifted_19 : decode cX6_addShifted 19 = .ok (.iadd, 1) := by decide +kernel
theorem dX6_addShifted_20 : decode cX6_addShifted 20 = .ok (.iaload, 1) := by decide +kernel
theorem dX6_addShifted_21 : decode cX6_addShifted 21 = .ok (.i2l, 1) := by decide +kernel
theorem dX6_addShifted_22 : decode cX6_addShifted 22 = .ok (.lload 6, 2) := by decide +kernel
theorem dX6_addShifted_24 : decode cX6_addShifted 24 = .ok (.ladd, 1) := by decide +kernel
theorem dX6_addShifted_25 : decode cX6_addShifted 25 = .ok (.lstore 9, 2) := by decide +kernel
theorem dX6_addShifted_27 : decode cX6_addShifted 27 = .ok (.iload 8, 2) := by decide +kernel
theorem dX6_addShifted_29 : decode cX6_addShifted 29 = .ok (.iload_n 2, 1) := by decide +kernel
theorem dX6_addShifted_30 : decode cX6_addShifted 30 = .ok (.if_icmp .ge 19, 3) := by decide +kernel
theorem dX6_addShifted_33 : decode cX6_addShifted 33 = .ok (.lload 9, 2) := by decide +kernel
theorem dX6_addShifted_35 : decode cX6_addShifted 35 = .ok (.lload 4, 2) := by decide +kernel
theorem dX6_addShifted_37 : decode cX6_addShifted 37 = .ok (.aload_n 1, 1) := by decide +kernel
theorem dX6_addShifted_38 : decode cX6_addShifted 38 = .ok (.getfield 9, 3) := by decide +kernel
theorem dX6_addShifted_41 : decode cX6_addShifted 41 = .ok (.iload 8, 2) := by decide +kernel
theorem dX6_addShifted_43 : decode cX6_addShifted 43 = .ok (.iaload, 1) := by decide +kernel
theorem dX6_addShifted_44 : decode cX6_addShifted 44 = .ok (.i2l, 1) := by decide +kernel
theorem dX6_addShifted_45 : decode cX6_addShifted 45 = .ok (.lmul, 1) := by decide +kernel
theorem dX6_addShifted_46 : decode cX6_addShifted 46 = .ok (.ladd, 1) := by decide +kernel
theorem dX6_addShifted_47 : decode cX6_addShifted 47 = .ok (.lstore 9, 2) := by decide +kernel
theorem dX6_addShifted_49 : decode cX6_addShifted 49 = .ok (.lload 9, 2) := by decide +kernel
theorem dX6_addShifted_51 : decode cX6_addShifted 51 = .ok (.ldc2_w 22, 3) := by decide +kernel
theorem dX6_addShifted_54 : decode cX6_addShifted 54 = .ok (.invokestatic 71, 3) := by decide +kernel
theorem dX6_addShifted_57 : decode cX6_addShifted 57 = .ok (.lstore 6, 2) := by decide +kernel
theorem dX6_addShifted_59 : decode cX6_addShifted 59 = .ok (.aload_n 0, 1) := by decide +kernel
theorem dX6_addShifted_60 : decode cX6_addShifted 60 = .ok (.getfield 9, 3) := by decide +kernel
theorem dX6_addShifted_63 : decode cX6_addShifted 63 = .ok (.iload_n 3, 1) := by decide +kernel
theorem dX6_addShifted_64 : decode cX6_addShifted 64 = .ok (.iload 8, 2) := by decide +kernel
theorem dX6_addShifted_66 : decode cX6_addShifted 66 = .ok (.iadd, 1) := by decide +kernel
theorem dX6_addShifted_67 : decode cX6_addShifted 67 = .ok (.lload 9, 2) := by decide +kernel
theorem dX6_addShifted_69 : decode cX6_addShifted 69 = .ok (.lload 6, 2) := by decide +kernel
theorem dX6_addShifted_71 : decode cX6_addShifted 71 = .ok (.ldc2_w 22, 3) := by decide +kernel
theorem dX6_addShifted_74 : decode cX6_addShifted 74 = .ok (.lmul, 1) := by decide +kernel
theorem dX6_addShifted_75 : decode cX6_addShifted 75 = .ok (.lsub, 1) := by decide +kernel
theorem dX6_addShifted_76 : decode cX6_addShifted 76 = .ok (.l2i, 1) := by decide +kernel
theorem dX6_addShifted_77 : decode cX6_addShifted 77 = .ok (.iastore, 1) := by decide +kernel
theorem dX6_addShifted_78 : decode cX6_addShifted 78 = .ok (.iinc 8 1, 3) := by decide +kernel
theorem dX6_addShifted_81 : decode cX6_addShifted 81 = .ok (.goto (-75), 3) := by decide +kernel
theorem dX6_addShifted_84 : decode cX6_addShifted 84 = .ok (.lload 6, 2) := by decide +kernel
theorem dX6_addShifted_86 : decode cX6_addShifted 86 = .ok (.lreturn, 1) := by decide +kernel
set_option maxHeartbeats 4000000 in
theorem m_addShifted (l : Launch) {D : va_G} {ids : Nat → ClassId} {β : Nat} {sh : Nat → Nat × Nat} {N : Nat} {R : Nat → Nat → Option Nat} {F : Nat → Nat → Int} {A : Nat → Int → Int} {w b : Nat} {bs k f : Int} (hw : isW sh R N w) (hb : isW sh R N b) (hne : w ≠ b) (hbs : 0 ≤ bs ∧ 0 ≤ k ∧ k + bs < 80) (hdb : dig 1000000000 (A (b + 1)) bs) (hdw : dig 1000000000 (win A w k) (bs + 1)) (hf : -1000000001 ≤ f ∧ f ≤ 1) : MetX l yX6_addShifted cX6_addShifted 11 (some (.long)) 1 25 D ids β sh N R F A [rf w, rf b, pI bs, pI k, pL f] (pLr (Q_as F A w b bs k f)) := by
  refine MetX.of (loc := [_, _, _, _, _, _, _, _, _, _, _]) (plainFor_of_name (by decide +kernel)) (Nat.le_of_ble_eq_true rfl) rfl ?_
  intro p e s m args below meth c hC hK hr hlk
  obtain ⟨hw1, hw2, hw3, hw4⟩ := id hw
  have hw0 : w < N := by omega
  obtain ⟨hb1, hb2, hb3, hb4⟩ := id hb
  have hb0 : b < N := by omega
  obtain ⟨bd, hbd⟩ : ∃ g : Int → Int, g = fun j => if j < bs then A (b + 1) j else 0 := ⟨_, rfl⟩
  have hbg : ∀ j : Int, 0 ≤ j → 0 ≤ bd j ∧ bd j < 1000000000 := fun j hj => by
    by_cases q : j < bs
    · have e : bd j = A (b + 1) j := by rw [hbd]; exact if_pos q
      rw [e]; exact hdb j hj q
    · have e : bd j = 0 := by rw [hbd]; exact if_neg q
      omega
  have loop : ∀ (n i : Nat) (c0 : Int) (A1 : Nat → Int → Int), (bs + 1 - i).toNat < n → (i : Int) ≤ bs + 1 → (∀ a, a ≠ w + 1 → A1 a = A a) → (∀ j : Int, j < k ∨ k + i ≤ j → A1 (w + 1) j = A (w + 1) j) → dig 1000000000 (win A1 w k) i → (-1000000002 ≤ c0 ∧ c0 ≤ 1000000002) → dv 1000000000 (win A1 w k) i + c0 * 1000000000 ^ i = dv 1000000000 (win A w k) i + f * dv 1000000000 bd i → X p l e { frames := 1, cells := 0, slots := 0, locals := 25 } s m args below meth c (MQ below (QX D ids β sh N R (pLr (Q_as F A w b bs k f))) args s 0 0 (inG β N)) (inG β N) D ids β sh 11 0 0 N R F A1 [some (rf w), some (rf b), some (pI bs), some (pI k), some (pL f), none, some (pL (c0)), none, some (pI (i)), none, none] [] 6 := by
    intro n
    induction n with
    | zero => intro i c0 A1 hn; omega
    | succ n ih =>
      intro i c0 A1 hn hk hA hB hd hc hv
      have eA : A1 (w + 1) (k + i) = A (w + 1) (k + i) := hB (k + i) (by omega)
      have eb : (i : Int) < bs → bd i = A1 (b + 1) i := fun q => by rw [hA (b + 1) (by omega), hbd]; exact if_pos q
      have wi0 : (i : Int) ≤ bs → 0 ≤ A1 (w + 1) (k + i) ∧ A1 (w + 1) (k + i) < 1000000000 := fun q => by rw [eA]; exact hdw i (by omega) (by omega)
      have bi := hbg i (by omega)
      have pr : -1000000001 * 999999999 ≤ f * bd i ∧ f * bd i ≤ 999999999 := by
        rcases (show f = 1 ∨ f ≤ 0 by omega) with q | q
        · rw [q]; omega
        · have := mul_rng (show 0 ≤ -f by omega) (show -f ≤ 1000000001 by omega) bi.1 (show bd i ≤ 999999999 by omega)
          rw [Int.neg_mul] at this
          omega
      have j49 : (i : Int) ≤ bs → X p l e { frames := 1, cells := 0, slots := 0, locals := 25 } s m args below meth c (MQ below (QX D ids β sh N R (pLr (Q_as F A w b bs k f))) args s 0 0 (inG β N)) (inG β N) D ids β sh 11 0 0 N R F A1 [some (rf w), some (rf b), some (pI bs), some (pI k), some (pL f), none, some (pL (c0)), none, some (pI (i)), some (pL (A1 (w + 1) (k + i) + c0 + f * bd i)), none] [] 49 := by
        intro hle
        have wi : 0 ≤ A1 (w + 1) (k + i) ∧ A1 (w + 1) (k + i) < 1000000000 := wi0 hle
        refine x_lload (pc2 := 51) hC rfl dX6_addShifted_49 rfl ?_
        refine x_ldc2 (pc2 := 54) (z := 1000000000) hC wt_257 rfl dX6_addShifted_51 rfl ?_
        refine x_cSl (pc2 := 57) hC hK (m_floorDiv l (by omega) ⟨by decide, by decide⟩) lk_520 rfl ⟨Nat.le_of_ble_eq_true rfl, Nat.le_of_ble_eq_true rfl⟩ ⟨Nat.le_refl _, Nat.le_refl _⟩ rfl (Nat.le_of_ble_eq_true rfl) dX6_addShifted_54 rfl ?_
        rintro z54 F54 A54 ⟨rfl, e154, e254⟩
        obtain rfl := e154.symm
        obtain rfl := e254.symm
        refine x_lstore (pc2 := 59) (loc2 := [_, _, _, _, _, _, _, _, _, _, _]) hC (by decide) rfl dX6_addShifted_57 rfl ?_
        refine x_aload_n (pc2 := 60) hC rfl rfl dX6_addShifted_59 rfl ?_
        refine g_142 (pc2 := 63) hC hK (by assumption) (by assumption) (by assumption) dX6_addShifted_60 rfl ?_
        refine x_iload_n (pc2 := 64) hC rfl rfl dX6_addShifted_63 rfl ?_
        refine x_iload (pc2 := 66) hC rfl dX6_addShifted_64 rfl ?_
        refine x_iadd (pc2 := 67) hC dX6_addShifted_66 rfl ?_
        refine x_lload (pc2 := 69) hC rfl dX6_addShifted_67 rfl ?_
        refine x_lload (pc2 := 71) hC rfl dX6_addShifted_69 rfl ?_
        refine x_ldc2 (pc2 := 74) (z := 1000000000) hC wt_257 rfl dX6_addShifted_71 rfl ?_
        refine x_lmul (pc2 := 75) hC dX6_addShifted_74 rfl ?_
        refine x_lsub (pc2 := 76) hC dX6_addShifted_75 rfl ?_
        refine x_l2i (pc2 := 77) hC dX6_addShifted_76 rfl ?_
        refine x_iast (pc2 := 78) hC hK (by assumption) (by assumption) (by omega) (by decide) dX6_addShifted_77 rfl ?_
        refine x_iinc (pc2 := 81) (loc2 := [_, _, _, _, _, _, _, _, _, _, _]) hC (by decide) rfl rfl dX6_addShifted_78 rfl ?_
        refine x_goto (pc2 := 6) hC dX6_addShifted_81 rfl ?_
        refine x_less (loc2 := [some (rf w), some (rf b), some (pI bs), some (pI k), some (pL f), none, some (pL (_)), none, some (pI ((i : Int) + 1)), none, none]) hC ⟨rfl, rfl, rfl, rfl, rfl, rfl, rfl, trivial⟩ ?_
        refine ih (i + 1) _ _ (by omega) (by omega) (fun a ha => by rw [uA_ne ha]; exact hA a ha) (fun j hj => by rw [uA_ni (by omega)]; exact hB j (by omega)) (fun j a c => ?_) ⟨by omega, by omega⟩ ?_
        · show 0 ≤ uA _ _ _ _ _ _ ∧ uA _ _ _ _ _ _ < _
          rw [uA_at]
          by_cases e : k + j = k + i
          · rw [if_pos e]; omega
          · rw [if_neg e]; exact hd j a (by omega)
        · have e1 : dv 1000000000 (win (uA A1 (w + 1) (k + i) (A1 (w + 1) (k + i) + c0 + f * bd i - (A1 (w + 1) (k + i) + c0 + f * bd i) / 1000000000 * 1000000000)) w k) (i + 1) = dv 1000000000 (win A1 w k) i + (A1 (w + 1) (k + i) + c0 + f * bd i - (A1 (w + 1) (k + i) + c0 + f * bd i) / 1000000000 * 1000000000) * 1000000000 ^ i := by
            simp only [dv]
            rw [show win (uA A1 (w + 1) (k + i) _) w k (i : Int) = _ from uA_eq, dv_congr (g := win A1 w k) (fun j a c => by show uA _ _ _ _ _ _ = _; rw [uA_ni (by omega)])]
          rw [e1, Int.pow_succ, show A1 (w + 1) (k + i) + c0 + f * bd i = c0 + (A1 (w + 1) (k + i) + f * bd i) by omega, mix_step hv, eA]
          simp only [dv]
          generalize 1000000000 ^ i = P
          grind
      refine x_iload (pc2 := 8) hC rfl dX6_addShifted_6 rfl ?_
      refine x_iload_n (pc2 := 9) hC rfl rfl dX6_addShifted_8 rfl ?_
      refine x_icmp_gt (tgt := 84) (pc2 := 12) hC (by omega) (by omega) dX6_addShifted_9 rfl rfl (fun h_9 => ?_) (fun h_9 => ?_)
      · refine x_lload (pc2 := 86) hC rfl dX6_addShifted_84 rfl ?_
        exact x_lret hC hr hlk ⟨_, rfl, rfl, hA, fun j hj => hB j (by omega), fun j a c => hd j a (by omega), hc, by
                have ei : i = bs.toNat + 1 := by omega
                rw [ei] at hv
                rw [hv]
                congr 2
                simp only [dv]
                rw [show bd (bs.toNat : Int) = 0 by rw [hbd]; exact if_neg (by omega), Int.zero_mul, Int.add_zero]
                exact dv_congr (fun j a c => by rw [hbd]; exact if_pos (by omega))⟩ dX6_addShifted_86
      · refine x_aload_n (pc2 := 13) hC rfl rfl dX6_addShifted_12 rfl ?_
        refine g_142 (pc2 := 16) hC hK (by assumption) (by assumption) (by assumption) dX6_addShifted_13 rfl ?_
        refine x_iload_n (pc2 := 17) hC rfl rfl dX6_addShifted_16 rfl ?_
        refine x_iload (pc2 := 19) hC rfl dX6_addShifted_17 rfl ?_
        refine x_iadd (pc2 := 20) hC dX6_addShifted_19 rfl ?_
        refine x_iald (pc2 := 21) hC hK (by assumption) (by assumption) ⟨by omega, by omega⟩ (by decide) dX6_addShifted_20 rfl ?_
        refine x_i2l (pc2 := 22) hC (by have := wi0 (by omega); omega) dX6_addShifted_21 rfl ?_
        refine x_lload (pc2 := 24) hC rfl dX6_addShifted_22 rfl ?_
        refine x_ladd (pc2 := 25) hC dX6_addShifted_24 rfl ?_
        refine x_lstore (pc2 := 27) (loc2 := [_, _, _, _, _, _, _, _, _, _, _]) hC (by decide) rfl dX6_addShifted_25 rfl ?_
        refine x_iload (pc2 := 29) hC rfl dX6_addShifted_27 rfl ?_
        refine x_iload_n (pc2 := 30) hC rfl rfl dX6_addShifted_29 rfl ?_
        refine x_icmp_ge (tgt := 49) (pc2 := 33) hC (by omega) (by omega) dX6_addShifted_30 rfl rfl (fun h_30 => ?_) (fun h_30 => ?_)
        · first
            | (rw [← eb h_30]; exact j49 (by omega))
            | (have e2 : bd i = 0 := by rw [hbd]; exact if_neg (by omega)
               have e3 := j49 (by omega)
               rw [e2, Int.mul_zero, Int.add_zero] at e3; exact e3)
        · refine x_lload (pc2 := 35) hC rfl dX6_addShifted_33 rfl ?_
          refine x_lload (pc2 := 37) hC rfl dX6_addShifted_35 rfl ?_
          refine x_aload_n (pc2 := 38) hC rfl rfl dX6_addShifted_37 rfl ?_
          refine g_142 (pc2 := 41) hC hK (by assumption) (by assumption) (by assumption) dX6_addShifted_38 rfl ?_
          refine x_iload (pc2 := 43) hC rfl dX6_addShifted_41 rfl ?_
          refine x_iald (pc2 := 44) hC hK (by assumption) (by assumption) ⟨by omega, by omega⟩ (by decide) dX6_addShifted_43 rfl ?_
          refine x_i2l (pc2 := 45) hC (by rw [← eb h_30]; omega) dX6_addShifted_44 rfl ?_
          refine x_lmul (pc2 := 46) hC dX6_addShifted_45 rfl ?_
          refine x_ladd (pc2 := 47) hC dX6_addShifted_46 rfl ?_
          refine x_lstore (pc2 := 49) (loc2 := [_, _, _, _, _, _, _, _, _, _, _]) hC (by decide) rfl dX6_addShifted_47 rfl ?_
          first
            | (rw [← eb h_30]; exact j49 (by omega))
            | (have e2 : bd i = 0 := by rw [hbd]; exact if_neg (by omega)
               have e3 := j49 (by omega)
               rw [e2, Int.mul_zero, Int.add_zero] at e3; exact e3)
  refine x_lconst0 (pc2 := 1) hC dX6_addShifted_0 rfl ?_
  refine x_lstore (pc2 := 3) (loc2 := [_, _, _, _, _, _, _, _, _, _, _]) hC (by decide) rfl dX6_addShifted_1 rfl ?_
  refine x_iconst (pc2 := 4) hC dX6_addShifted_3 rfl ?_
  refine x_istore (pc2 := 6) (loc2 := [_, _, _, _, _, _, _, _, _, _, _]) hC (by decide) rfl dX6_addShifted_4 rfl ?_
  exact loop (bs + 2).toNat 0 0 A (by omega) (by omega) (fun _ _ => rfl) (fun _ _ => rfl) (fun j a c => by omega) ⟨by omega, by omega⟩ (by simp [dv])
