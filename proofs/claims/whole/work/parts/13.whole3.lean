theorem dv_lt_of {B : Int} (hB : 0 < B) {f g : Int → Int} {k : Int} (h0 : 0 ≤ k) : ∀ {n : Nat}, k < n → dig B f n → dig B g n → (∀ j : Int, k < j → j < n → f j = g j) → f k < g k → dv B f n < dv B g n
  | 0, hk, _, _, _, _ => by omega
  | n + 1, hk, hf, hg, he, hl => by
    simp only [dv]
    by_cases e : k = n
    · have h1 := dv_lt hB (f := f) (n := n) (fun j a b => hf j a (by omega))
      have h2 := dv_nonneg hB (f := g) (n := n) (fun j a b => (hg j a (by omega)).1)
      have h3 : (f n + 1) * B ^ n ≤ g n * B ^ n := Int.mul_le_mul_of_nonneg_right (by rw [← e]; omega) (Int.le_of_lt (pow_pos' hB n))
      rw [Int.add_mul, Int.one_mul] at h3
      omega
    · have h1 := dv_lt_of hB h0 (n := n) (by omega) (fun j a b => hf j a (by omega)) (fun j a b => hg j a (by omega)) (fun j a b => he j a (by omega)) hl
      rw [he n (by omega) (by omega)]
      omega
theorem cmp_fin_lt {F : Nat → Nat → Int} {A : Nat → Int → Int} {w x : Nat} {k : Int} (h0 : WOK F A w) (hx : WOK F A x) (hs : F w 1 = F x 1) (hk : 0 ≤ k) (hk2 : k < F w 1) (he : ∀ j, k < j → j < F w 1 → A (w + 1) j = A (x + 1) j) (hl : A (w + 1) k < A (x + 1) k) : sgc (wm F A w) (wm F A x) = -1 := by
  have h1 : wm F A w < wm F A x := by
    unfold wm
    rw [← hs]
    exact dv_lt_of (by decide) hk (by omega) (fun j a b => h0.2.2.1 j a (by omega)) (fun j a b => hx.2.2.1 j a (by omega)) (fun j a b => he j a (by omega)) hl
  unfold sgc; rw [if_pos h1]
theorem cmp_fin_gt {F : Nat → Nat → Int} {A : Nat → Int → Int} {w x : Nat} {k : Int} (h0 : WOK F A w) (hx : WOK F A x) (hs : F w 1 = F x 1) (hk : 0 ≤ k) (hk2 : k < F w 1) (he : ∀ j, k < j → j < F w 1 → A (w + 1) j = A (x + 1) j) (hl : A (x + 1) k < A (w + 1) k) : sgc (wm F A w) (wm F A x) = 1 := by
  have h1 : wm F A x < wm F A w := by
    unfold wm
    rw [← hs]
    exact dv_lt_of (by decide) hk (by omega) (fun j a b => hx.2.2.1 j a (by omega)) (fun j a b => h0.2.2.1 j a (by omega)) (fun j a b => (he j a (by omega)).symm) hl
  unfold sgc; rw [if_neg (by omega), if_neg (by omega)]
theorem cmp_fin_eq {F : Nat → Nat → Int} {A : Nat → Int → Int} {w x : Nat} (hs : F w 1 = F x 1) (he : ∀ j, 0 ≤ j → j < F w 1 → A (w + 1) j = A (x + 1) j) : sgc (wm F A w) (wm F A x) = 0 := by
  have h1 : wm F A w = wm F A x := by
    unfold wm
    rw [← hs]
    exact dv_congr (fun j a b => he j a (by omega))
  unfold sgc; rw [if_neg (by omega), if_pos h1]
theorem dX6_compareLimbs_0 : decode cX6_compareLimbs 0 = .ok (.aload_n 0, 1) := by decide +kernel
theorem dX6_compareLimbs_1 : decode cX6_compareLimbs 1 = .ok (.getfield 19, 3) := by decide +kernel
theorem dX6_compareLimbs_4 : decode cX6_compareLimbs 4 = .ok (.aload_n 1, 1) := by decide +kernel
theorem dX6_compareLimbs_5 : decode cX6_compareLimbs 5 = .ok (.getfield 19, 3) := by decide +kernel
theorem dX6_compareLimbs_8 : decode cX6_compareLimbs 8 = .ok (.if_icmp .eq 20, 3) := by decide +kernel
theorem dX6_compareLimbs_11 : decode cX6_compareLimbs 11 = .ok (.aload_n 0, 1) := by decide +kernel
theorem dX6_compareLimbs_12 : decode cX6_compareLimbs 12 = .ok (.getfield 19, 3) := by decide +kernel
theorem dX6_compareLimbs_15 : decode cX6_compareLimbs 15 = .ok (.aload_n 1, 1) := by decide +kernel
theorem dX6_compareLimbs_16 : decode cX6_compareLimbs 16 = .ok (.getfield 19, 3) := by decide +kernel
theorem dX6_compareLimbs_19 : decode cX6_compareLimbs 19 = .ok (.if_icmp .ge 7, 3) := by decide +kernel
theorem dX6_compareLimbs_22 : decode cX6_compareLimbs 22 = .ok (.iconst (-1), 1) := by decide +kernel
theorem dX6_compareLimbs_23 : decode cX6_compareLimbs 23 = .ok (.goto 4, 3) := by decide +kernel
theorem dX6_compareLimbs_26 : decode cX6_compareLimbs 26 = .ok (.iconst 1, 1) := by decide +kernel
theorem dX6_compareLimbs_27 : decode cX6_compareLimbs 27 = .ok (.ireturn, 1) := by decide +kernel
theorem dX6_compareLimbs_28 : decode cX6_compareLimbs 28 = .ok (.aload_n 0, 1) := by decide +kernel
theorem dX6_compareLimbs_29 : decode cX6_compareLimbs 29 = .ok (.getfield 19, 3) := by decide +kernel
theorem dX6_compareLimbs_32 : decode cX6_compareLimbs 32 = .ok (.iconst 1, 1) := by decide +kernel
theorem dX6_compareLimbs_33 : decode cX6_compareLimbs 33 = .ok (.isub, 1) := by decide +kernel
theorem dX6_compareLimbs_34 : decode cX6_compareLimbs 34 = .ok (.istore_n 2, 1) := by decide +kernel
theorem dX6_compareLimbs_35 : decode cX6_compareLimbs 35 = .ok (.iload_n 2, 1) := by decide +kernel
theorem dX6_compareLimbs_36 : decode cX6_compareLimbs 36 = .ok (.ifCond .lt 45, 3) := by decide +kernel
theorem dX6_compareLimbs_39 : decode cX6_compareLimbs 39 = .ok (.aload_n 0, 1) := by decide +kernel
theorem dX6_compareLimbs_40 : decode cX6_compareLimbs 40 = .ok (.getfield 9, 3) := by decide +kernel
theorem dX6_compareLimbs_43 : decode cX6_compareLimbs 43 = .ok (.iload_n 2, 1) := by decide +kernel
theorem dX6_compareLimbs_44 : decode cX6_compareLimbs 44 = .ok (.iaload, 1) := by decide +kernel
theorem dX6_compareLimbs_45 : decode cX6_compareLimbs 45 = .ok (.aload_n 1, 1) := by decide +kernel
theorem dX6_compareLimbs_46 : decode cX6_compareLimbs 46 = .ok (.getfield 9, 3) := by decide +kernel
theorem dX6_compareLimbs_49 : decode cX6_compareLimbs 49 = .ok (.iload_n 2, 1) := by decide +kernel
theorem dX6_compareLimbs_50 : decode cX6_compareLimbs 50 = .ok (.iaload, 1) := by decide +kernel
theorem dX6_compareLimbs_51 : decode cX6_compareLimbs 51 = .ok (.if_icmp .eq 24, 3) := by decide +kernel
theorem dX6_compareLimbs_54 : decode cX6_compareLimbs 54 = .ok (.aload_n 0, 1) := by decide +kernel
theorem dX6_compareLimbs_55 : decode cX6_compareLimbs 55 = .ok (.getfield 9, 3) := by decide +kernel
theorem dX6_compareLimbs_58 : decode cX6_compareLimbs 58 = .ok (.iload_n 2, 1) := by decide +kernel
theorem dX6_compareLimbs_59 : decode cX6_compareLimbs 59 = .ok (.iaload, 1) := by decide +kernel
theorem dX6_compareLimbs_60 : decode cX6_compareLimbs 60 = .ok (.aload_n 1, 1) := by decide +kernel
theorem dX6_compareLimbs_61 : decode cX6_compareLimbs 61 = .ok (.getfield 9, 3) := by decide +kernel
theorem dX6_compareLimbs_64 : decode cX6_compareLimbs 64 = .ok (.iload_n 2, 1) := by decide +kernel
theorem dX6_compareLimbs_65 : decode cX6_compareLimbs 65 = .ok (.iaload, 1) := by decide +kernel
theorem dX6_compareLimbs_66 : decode cX6_compareLimbs 66 = .ok (.if_icmp .ge 7, 3) := by decide +kernel
theorem dX6_compareLimbs_69 : decode cX6_compareLimbs 69 = .ok (.iconst (-1), 1) := by decide +kernel
theorem dX6_compareLimbs_70 : decode cX6_compareLimbs 70 = .ok (.goto 4, 3) := by decide +kernel
theorem dX6_compareLimbs_73 : decode cX6_compareLimbs 73 = .ok (.iconst 1, 1) := by decide +kernel
theorem dX6_compareLimbs_74 : decode cX6_compareLimbs 74 = .ok (.ireturn, 1) := by decide +kernel
theorem dX6_compareLimbs_75 : decode cX6_compareLimbs 75 = .ok (.iinc 2 (-1), 3) := by decide +kernel
theorem dX6_compareLimbs_78 : decode cX6_compareLimbs 78 = .ok (.goto (-43), 3) := by decide +kernel
theorem dX6_compareLimbs_81 : decode cX6_compareLimbs 81 = .ok (.iconst 0, 1) := by decide +kernel
theorem dX6_compareLimbs_82 : decode cX6_compareLimbs 82 = .ok (.ireturn, 1) := by decide +kernel
set_option maxHeartbeats 4000000 in
theorem m_compareLimbs (l : Launch) {D : va_G} {ids : Nat → ClassId} {β : Nat} {sh : Nat → Nat × Nat} {N : Nat} {R : Nat → Nat → Option Nat} {F : Nat → Nat → Int} {A : Nat → Int → Int} {w x : Nat} (hw : isW sh R N w) (hx : isW sh R N x) (h0 : WOK F A w) (h1 : WOK F A x) : MetX l yX6_compareLimbs cX6_compareLimbs 3 (some (.int)) 0 0 D ids β sh N R F A [rf w, rf x] (pIr (sameI F A (sgc (wm F A w) (wm F A x)))) := by
  refine MetX.of (loc := [_, _, _]) (plainFor_of_name (by decide +kernel)) (Nat.le_of_ble_eq_true rfl) rfl ?_
  intro p e s m args below meth c hC hK hr hlk
  obtain ⟨hw1, hw2, hw3, hw4⟩ := id hw
  have hw0 : w < N := by omega
  obtain ⟨hx1, hx2, hx3, hx4⟩ := id hx
  have hx0 : x < N := by omega
  obtain ⟨s1, s2, s3, s4, s5⟩ := id h0
  obtain ⟨t1, t2, t3, t4, t5⟩ := id h1
  have loop : ∀ (n : Nat) (k : Int), (k + 1).toNat < n → -1 ≤ k → k < F w 1 → F w 1 = F x 1 → (∀ j, k < j → j < F w 1 → A (w + 1) j = A (x + 1) j) → X p l e { frames := 0, cells := 0, slots := 0, locals := 0 } s m args below meth c (MQ below (QX D ids β sh N R (pIr (sameI F A (sgc (wm F A w) (wm F A x))))) args s 0 0 (inG β N)) (inG β N) D ids β sh 3 0 0 N R F A [some (rf w), some (rf x), some (pI k)] [] 35 := by
    intro n
    induction n with
    | zero => intro k hn; omega
    | succ n ih =>
      intro k hn hk1 hk2 he hz
      refine x_iload_n (pc2 := 36) hC rfl rfl dX6_compareLimbs_35 rfl ?_
      refine x_if_lt (tgt := 81) (pc2 := 39) hC (by omega) dX6_compareLimbs_36 rfl rfl (fun h_36 => ?_) (fun h_36 => ?_)
      · refine x_iconst (pc2 := 82) hC dX6_compareLimbs_81 rfl ?_
        exact x_iret hC hr hlk ⟨_, rfl, (cmp_fin_eq he (fun j a b => hz j (by omega) b)).symm, rfl, rfl⟩ dX6_compareLimbs_82
      · refine x_aload_n (pc2 := 40) hC rfl rfl dX6_compareLimbs_39 rfl ?_
        refine g_142 (pc2 := 43) hC hK (by assumption) (by assumption) (by assumption) dX6_compareLimbs_40 rfl ?_
        refine x_iload_n (pc2 := 44) hC rfl rfl dX6_compareLimbs_43 rfl ?_
        refine x_iald (pc2 := 45) hC hK (by assumption) (by assumption) (by omega) (by decide) dX6_compareLimbs_44 rfl ?_
        refine x_aload_n (pc2 := 46) hC rfl rfl dX6_compareLimbs_45 rfl ?_
        refine g_142 (pc2 := 49) hC hK (by assumption) (by assumption) (by assumption) dX6_compareLimbs_46 rfl ?_
        refine x_iload_n (pc2 := 50) hC rfl rfl dX6_compareLimbs_49 rfl ?_
        refine x_iald (pc2 := 51) hC hK (by assumption) (by assumption) (by omega) (by decide) dX6_compareLimbs_50 rfl ?_
        refine x_icmp_eq (tgt := 75) (pc2 := 54) hC (by have := s3 k (by omega) (by omega); omega) (by have := t3 k (by omega) (by omega); omega) dX6_compareLimbs_51 rfl rfl (fun h_51 => ?_) (fun h_51 => ?_)
        · refine x_iinc (pc2 := 78) (loc2 := [_, _, _]) hC (by decide) rfl rfl dX6_compareLimbs_75 rfl ?_
          refine x_goto (pc2 := 35) hC dX6_compareLimbs_78 rfl ?_
          exact ih (k - 1) (by omega) (by omega) (by omega) he (fun j h1 h2 => by by_cases e : j = k; rw [e]; exact h_51; exact hz j (by omega) h2)
        · refine x_aload_n (pc2 := 55) hC rfl rfl dX6_compareLimbs_54 rfl ?_
          refine g_142 (pc2 := 58) hC hK (by assumption) (by assumption) (by assumption) dX6_compareLimbs_55 rfl ?_
          refine x_iload_n (pc2 := 59) hC rfl rfl dX6_compareLimbs_58 rfl ?_
          refine x_iald (pc2 := 60) hC hK (by assumption) (by assumption) (by omega) (by decide) dX6_compareLimbs_59 rfl ?_
          refine x_aload_n (pc2 := 61) hC rfl rfl dX6_compareLimbs_60 rfl ?_
          refine g_142 (pc2 := 64) hC hK (by assumption) (by assumption) (by assumption) dX6_compareLimbs_61 rfl ?_
          refine x_iload_n (pc2 := 65) hC rfl rfl dX6_compareLimbs_64 rfl ?_
          refine x_iald (pc2 := 66) hC hK (by assumption) (by assumption) (by omega) (by decide) dX6_compareLimbs_65 rfl ?_
          refine x_icmp_ge (tgt := 73) (pc2 := 69) hC (by have := s3 k (by omega) (by omega); omega) (by have := t3 k (by omega) (by omega); omega) dX6_compareLimbs_66 rfl rfl (fun h_66 => ?_) (fun h_66 => ?_)
          · refine x_iconst (pc2 := 74) hC dX6_compareLimbs_73 rfl ?_
            exact x_iret hC hr hlk ⟨_, rfl, by first | exact (cmp_fin_lt h0 h1 he (by omega) hk2 hz h_66).symm | exact (cmp_fin_gt h0 h1 he (by omega) hk2 hz (by omega)).symm, rfl, rfl⟩ dX6_compareLimbs_74
          · refine x_iconst (pc2 := 70) hC dX6_compareLimbs_69 rfl ?_
            refine x_goto (pc2 := 74) hC dX6_compareLimbs_70 rfl ?_
            exact x_iret hC hr hlk ⟨_, rfl, by first | exact (cmp_fin_lt h0 h1 he (by omega) hk2 hz h_66).symm | exact (cmp_fin_gt h0 h1 he (by omega) hk2 hz (by omega)).symm, rfl, rfl⟩ dX6_compareLimbs_74
  refine x_aload_n (pc2 := 1) hC rfl rfl dX6_compareLimbs_0 rfl ?_
  refine g_140 (pc2 := 4) hC hK (by assumption) (by assumption) dX6_compareLimbs_1 rfl ?_
  refine x_aload_n (pc2 := 5) hC rfl rfl dX6_compareLimbs_4 rfl ?_
  refine g_140 (pc2 := 8) hC hK (by assumption) (by assumption) dX6_compareLimbs_5 rfl ?_
  refine x_icmp_eq (tgt := 28) (pc2 := 11) hC (by omega) (by omega) dX6_compareLimbs_8 rfl rfl (fun h_8 => ?_) (fun h_8 => ?_)
  · refine x_aload_n (pc2 := 29) hC rfl rfl dX6_compareLimbs_28 rfl ?_
    refine g_140 (pc2 := 32) hC hK (by assumption) (by assumption) dX6_compareLimbs_29 rfl ?_
    refine x_iconst (pc2 := 33) hC dX6_compareLimbs_32 rfl ?_
    refine x_isub (pc2 := 34) hC dX6_compareLimbs_33 rfl ?_
    refine x_istore_n (pc2 := 35) (loc2 := [_, _, _]) hC rfl (by decide) rfl dX6_compareLimbs_34 rfl ?_
    exact loop ((F w 1).toNat + 1) _ (by omega) (by omega) (by omega) h_8 (fun j a b => by omega)
  · refine x_aload_n (pc2 := 12) hC rfl rfl dX6_compareLimbs_11 rfl ?_
    refine g_140 (pc2 := 15) hC hK (by assumption) (by assumption) dX6_compareLimbs_12 rfl ?_
    refine x_aload_n (pc2 := 16) hC rfl rfl dX6_compareLimbs_15 rfl ?_
    refine g_140 (pc2 := 19) hC hK (by assumption) (by assumption) dX6_compareLimbs_16 rfl ?_
    refine x_icmp_ge (tgt := 26) (pc2 := 22) hC (by omega) (by omega) dX6_compareLimbs_19 rfl rfl (fun h_19 => ?_) (fun h_19 => ?_)
    · refine x_iconst (pc2 := 27) hC dX6_compareLimbs_26 rfl ?_
      exact x_iret hC hr hlk ⟨_, rfl, by unfold sgc; first | (have := wm_size_lt h0 h1 h_19; rw [if_pos this]) | (have := wm_size_lt h1 h0 (by omega); rw [if_neg (by omega), if_neg (by omega)]), rfl, rfl⟩ dX6_compareLimbs_27
    · refine x_iconst (pc2 := 23) hC dX6_compareLimbs_22 rfl ?_
      refine x_goto (pc2 := 27) hC dX6_compareLimbs_23 rfl ?_
      exact x_iret hC hr hlk ⟨_, rfl, by unfold sgc; first | (have := wm_size_lt h0 h1 h_19; rw [if_pos this]) | (have := wm_size_lt h1 h0 (by omega); rw [if_neg (by omega), if_neg (by omega)]), rfl, rfl⟩ dX6_compareLimbs_27
theorem cmpw_same {F : Nat → Nat → Int} {A : Nat → Int → Int} {w x : Nat} (h0 : WOK F A w) (hx : WOK F A x) (hs : F w 0 = F x 0) : sgc (wv F A w) (wv F A x) = F w 0 * sgc (wm F A w) (wm F A x) := by
  unfold wv
  rw [← hs]
  rcases h0.2.2.2.2 with ⟨q1, q2⟩ | ⟨q1, q2 | q2⟩ <;> rw [q2]
  · simp [sgc]
  · simp
  · unfold sgc; split <;> (try split) <;> (try split) <;> (try split) <;> omega
theorem cmpw_diff {F : Nat → Nat → Int} {A : Nat → Int → Int} {w x : Nat} (h0 : WOK F A w) (hx : WOK F A x) (hs : F w 0 < F x 0) : wv F A w < wv F A x := by
  have p0 : ∀ {y : Nat}, WOK F A y → F y 0 = 1 → 0 < wv F A y := fun {y} h e => by
    unfold wv; rw [e, Int.one_mul]; exact wm_pos h (by have := h.2.2.2.2; omega)
  have p1 : ∀ {y : Nat}, WOK F A y → F y 0 = 0 → wv F A y = 0 := fun {y} h e => by unfold wv; rw [e, Int.zero_mul]
  have p2 : ∀ {y : Nat}, WOK F A y → F y 0 = -1 → wv F A y < 0 := fun {y} h e => by
    have := wm_pos h (by have := h.2.2.2.2; omega)
    unfold wv; rw [e]; omega
  have a := h0.2.2.2.2
  have b := hx.2.2.2.2
  rcases (show F w 0 = -1 ∨ F w 0 = 0 by omega) with e | e
  · have q := p2 h0 e
    rcases (show F x 0 = 0 ∨ F x 0 = 1 by omega) with e2 | e2
    · have := p1 hx e2; omega
    · have := p0 hx e2; omega
  · have q := p1 h0 e
    have := p0 hx (by omega); omega
theorem dX6_compareWith_0 : decode cX6_compareWith 0 = .ok (.aload_n 0, 1) := by decide +kernel
theorem dX6_compareWith_1 : decode cX6_compareWith 1 = .ok (.getfield 15, 3) := by decide +kernel
theorem dX6_compareWith_4 : decode cX6_compareWith 4 = .ok (.aload_n 1, 1) := by decide +kernel
theorem dX6_compareWith_5 : decode cX6_compareWith 5 = .ok (.getfield 15, 3) := by decide +kernel
theorem dX6_compareWith_8 : decode cX6_compareWith 8 = .ok (.if_icmp .eq 20, 3) := by decide +kernel
theorem dX6_compareWith_11 : decode cX6_compareWith 11 = .ok (.aload_n 0, 1) := by decide +kernel
theorem dX6_compareWith_12 : decode cX6_compareWith 12 = .ok (.getfield 15, 3) := by decide +kernel
theorem dX6_compareWith_15 : decode cX6_compareWith 15 = .ok (.aload_n 1, 1) := by decide +kernel
theorem dX6_compareWith_16 : decode cX6_compareWith 16 = .ok (.getfield 15, 3) := by decide +kernel
theorem dX6_compareWith_19 : decode cX6_compareWith 19 = .ok (.if_icmp .ge 7, 3) := by decide +kernel
theorem dX6_compareWith_22 : decode cX6_compareWith 22 = .ok (.iconst (-1), 1) := by decide +kernel
theorem dX6_compareWith_23 : decode cX6_compareWith 23 = .ok (.goto 4, 3) := by decide +kernel
theorem dX6_compareWith_26 : decode cX6_compareWith 26 = .ok (.iconst 1, 1) := by decide +kernel
theorem dX6_compareWith_27 : decode cX6_compareWith 27 = .ok (.ireturn, 1) := by decide +kernel
theorem dX6_compareWith_28 : decode cX6_compareWith 28 = .ok (.aload_n 0, 1) := by decide +kernel
theorem dX6_compareWith_29 : decode cX6_compareWith 29 = .ok (.getfield 15, 3) := by decide +kernel
theorem dX6_compareWith_32 : decode cX6_compareWith 32 = .ok (.aload_n 0, 1) := by decide +kernel
theorem dX6_compareWith_33 : decode cX6_compareWith 33 = .ok (.aload_n 1, 1) := by decide +kernel
theorem dX6_compareWith_34 : decode cX6_compareWith 34 = .ok (.invokevirtual 43, 3) := by decide +kernel
theorem dX6_compareWith_37 : decode cX6_compareWith 37 = .ok (.imul, 1) := by decide +kernel
theorem dX6_compareWith_38 : decode cX6_compareWith 38 = .ok (.ireturn, 1) := by decide +kernel
set_option maxHeartbeats 4000000 in
theorem m_compareWith (l : Launch) {D : va_G} {ids : Nat → ClassId} {β : Nat} {sh : Nat → Nat × Nat} {N : Nat} {R : Nat → Nat → Option Nat} {F : Nat → Nat → Int} {A : Nat → Int → Int} {w x : Nat} (hw : isW sh R N w) (hx : isW sh R N x) (h0 : WOK F A w) (h1 : WOK F A x) : MetX l yX6_compareWith cX6_compareWith 2 (some (.int)) 1 22 D ids β sh N R F A [rf w, rf x] (pIr (sameI F A (sgc (wv F A w) (wv F A x)))) := by
  refine MetX.of (loc := [_, _]) (plainFor_of_name (by decide +kernel)) (Nat.le_of_ble_eq_true rfl) rfl ?_
  intro p e s m args below meth c hC hK hr hlk
  obtain ⟨hw1, hw2, hw3, hw4⟩ := id hw
  have hw0 : w < N := by omega
  obtain ⟨hx1, hx2, hx3, hx4⟩ := id hx
  have hx0 : x < N := by omega
  obtain ⟨s1, s2, s3, s4, s5⟩ := id h0
  obtain ⟨t1, t2, t3, t4, t5⟩ := id h1
  refine x_aload_n (pc2 := 1) hC rfl rfl dX6_compareWith_0 rfl ?_
  refine g_136 (pc2 := 4) hC hK (by assumption) (by assumption) dX6_compareWith_1 rfl ?_
  refine x_aload_n (pc2 := 5) hC rfl rfl dX6_compareWith_4 rfl ?_
  refine g_136 (pc2 := 8) hC hK (by assumption) (by assumption) dX6_compareWith_5 rfl ?_
  refine x_icmp_eq (tgt := 28) (pc2 := 11) hC (by omega) (by omega) dX6_compareWith_8 rfl rfl (fun h_8 => ?_) (fun h_8 => ?_)
  · refine x_aload_n (pc2 := 29) hC rfl rfl dX6_compareWith_28 rfl ?_
    refine g_136 (pc2 := 32) hC hK (by assumption) (by assumption) dX6_compareWith_29 rfl ?_
    refine x_aload_n (pc2 := 33) hC rfl rfl dX6_compareWith_32 rfl ?_
    refine x_aload_n (pc2 := 34) hC rfl rfl dX6_compareWith_33 rfl ?_
    refine x_cVi (pc2 := 37) (ci := 6) hC hK (m_compareLimbs l hw hx h0 h1) lk_523 rfl rfl (by decide) (by assumption) (by assumption) ⟨Nat.le_of_ble_eq_true rfl, Nat.le_of_ble_eq_true rfl⟩ ⟨Nat.le_refl _, Nat.le_refl _⟩ rfl (Nat.le_of_ble_eq_true rfl) dX6_compareWith_34 rfl ?_
    rintro z34 F34 A34 ⟨rfl, rfl, rfl⟩
    refine x_imul (pc2 := 38) hC dX6_compareWith_37 rfl ?_
    exact x_iret hC hr hlk ⟨_, rfl, (cmpw_same h0 h1 h_8).symm, rfl, rfl⟩ dX6_compareWith_38
  · refine x_aload_n (pc2 := 12) hC rfl rfl dX6_compareWith_11 rfl ?_
    refine g_136 (pc2 := 15) hC hK (by assumption) (by assumption) dX6_compareWith_12 rfl ?_
    refine x_aload_n (pc2 := 16) hC rfl rfl dX6_compareWith_15 rfl ?_
    refine g_136 (pc2 := 19) hC hK (by assumption) (by assumption) dX6_compareWith_16 rfl ?_
    refine x_icmp_ge (tgt := 26) (pc2 := 22) hC (by omega) (by omega) dX6_compareWith_19 rfl rfl (fun h_19 => ?_) (fun h_19 => ?_)
    · refine x_iconst (pc2 := 27) hC dX6_compareWith_26 rfl ?_
      exact x_iret hC hr hlk ⟨_, rfl, by unfold sgc; first | (have := cmpw_diff h0 h1 h_19; rw [if_pos this]) | (have := cmpw_diff h1 h0 (by omega); rw [if_neg (by omega), if_neg (by omega)]), rfl, rfl⟩ dX6_compareWith_27
    · refine x_iconst (pc2 := 23) hC dX6_compareWith_22 rfl ?_
      refine x_goto (pc2 := 27) hC dX6_compareWith_23 rfl ?_
      exact x_iret hC hr hlk ⟨_, rfl, by unfold sgc; first | (have := cmpw_diff h0 h1 h_19; rw [if_pos this]) | (have := cmpw_diff h1 h0 (by omega); rw [if_neg (by omega), if_neg (by omega)]), rfl, rfl⟩ dX6_compareWith_27
/-- a number's cells: three limbs, none against another's sign -/
def tri (f : Int → Int) (i : Int) : Int := f i + f (i + 1) * 1000000000 + f (i + 2) * 1000000000000000000
def triOK (f : Int → Int) (i : Int) : Prop := (∀ k : Int, 0 ≤ k → k < 3 → -1000000000 < f (i + k) ∧ f (i + k) < 1000000000) ∧ ((∀ k : Int, 0 ≤ k → k < 3 → 0 ≤ f (i + k)) ∨ (∀ k : Int, 0 ≤ k → k < 3 → f (i + k) ≤ 0))
/-- what the walk of load knows of the side when k limbs are done -/
def sideAt (f : Int → Int) (i k s : Int) : Prop := (s = 0 ∧ ∀ j, 0 ≤ j → j < k → f (i + j) = 0) ∨ (s = 1 ∧ ∃ j, 0 ≤ j ∧ j < k ∧ 0 < f (i + j)) ∨ (s = -1 ∧ ∃ j, 0 ≤ j ∧ j < k ∧ f (i + j) < 0)
theorem side_end {f : Int → Int} {i s : Int} (h : triOK f i) (hs : sideAt f i 3 s) : (s = 1 ∨ s = -1 ∨ (s = 0 ∧ ∀ j : Int, 0 ≤ j → j < 3 → ((f (i + j)).natAbs : Int) = 0)) ∧ s * (((f (i + 0)).natAbs : Int) + (f (i + 1)).natAbs * 1000000000 + (f (i + 2)).natAbs * 1000000000000000000) = tri f i := by
  obtain ⟨h1, h2⟩ := h
  have a0 := h1 0 (by omega) (by omega)
  have a1 := h1 1 (by omega) (by omega)
  have a2 := h1 2 (by omega) (by omega)
  unfold tri
  rw [Int.add_zero] at *
  rcases hs with ⟨rfl, hz⟩ | ⟨rfl, j, j0, j1, j2⟩ | ⟨rfl, j, j0, j1, j2⟩
  · have z0 := hz 0 (by omega) (by omega)
    have z1 := hz 1 (by omega) (by omega)
    have z2 := hz 2 (by omega) (by omega)
    rw [Int.add_zero] at z0
    refine ⟨Or.inr (Or.inr ⟨rfl, fun j a b => by rw [hz j a b]; rfl⟩), by omega⟩
  · refine ⟨Or.inl rfl, ?_⟩
    rcases h2 with h2 | h2
    · have b0 := h2 0 (by omega) (by omega)
      have b1 := h2 1 (by omega) (by omega)
      have b2 := h2 2 (by omega) (by omega)
      rw [Int.add_zero] at b0
      omega
    · have := h2 j j0 j1; omega
  · refine ⟨Or.inr (Or.inl rfl), ?_⟩
    rcases h2 with h2 | h2
    · have := h2 j j0 j1; omega
    · have b0 := h2 0 (by omega) (by omega)
      have b1 := h2 1 (by omega) (by omega)
      have b2 := h2 2 (by omega) (by omega)
      rw [Int.add_zero] at b0
      omega
theorem dX6_load_0 : decode cX6_load 0 = .ok (.iconst 0, 1) := by decide +kernel
theorem dX6_load_1 : decode cX6_load 1 = .ok (.istore_n 3, 1) := by decide +kernel
theorem dX6_load_2 : decode cX6_load 2 = .ok (.iconst 0, 1) := by decide +kernel
theorem dX6_load_3 : decode cX6_load 3 = .ok (.istore 4, 2) := by decide +kernel
theorem dX6_load_5 : decode cX6_load 5 = .ok (.iload 4, 2) := by decide +kernel
theorem dX6_load_7 : decode cX6_load 7 = .ok (.iconst 3, 1) := by decide +kernel
theorem dX6_load_8 : decode cX6_load 8 = .ok (.if_icmp .ge 45, 3) := by decide +kernel
theorem dX6_load_11 : decode cX6_load 11 = .ok (.aload_n 1, 1) := by decide +kernel
theorem dX6_load_12 : decode cX6_load 12 = .ok (.iload_n 2, 1) := by decide +kernel
theorem dX6_load_13 : decode cX6_load 13 = .ok (.iload 4, 2) := by decide +kernel
theorem dX6_load_15 : decode cX6_load 15 = .ok (.iadd, 1) := by decide +kernel
theorem dX6_load_16 : decode cX6_load 16 = .ok (.iaload, 1) := by decide +kernel
theorem dX6_load_17 : decode cX6_load 17 = .ok (.istore 5, 2) := by decide +kernel
theorem dX6_load_19 : decode cX6_load 19 = .ok (.aload_n 0, 1) := by decide +kernel
theorem dX6_load_20 : decode cX6_load 20 = .ok (.getfield 9, 3) := by decide +kernel
theorem dX6_load_23 : decode cX6_load 23 = .ok (.iload 4, 2) := by decide +kernel
theorem dX6_load_25 : decode cX6_load 25 = .ok (.iload 5, 2) := by decide +kernel
theorem dX6_load_27 : decode cX6_load 27 = .ok (.invokestatic 28, 3) := by decide +kernel
theorem dX6_load_30 : decode cX6_load 30 = .ok (.iastore, 1) := by decide +kernel
theorem dX6_load_31 : decode cX6_load 31 = .ok (.iload 5, 2) := by decide +kernel
theorem dX6_load_33 : decode cX6_load 33 = .ok (.ifCond .eq 14, 3) := by decide +kernel
theorem dX6_load_36 : decode cX6_load 36 = .ok (.iload 5, 2) := by decide +kernel
theorem dX6_load_38 : decode cX6_load 38 = .ok (.ifCond .ge 7, 3) := by decide +kernel
theorem dX6_load_41 : decode cX6_load 41 = .ok (.iconst (-1), 1) := by decide +kernel
theorem dX6_load_42 : decode cX6_load 42 = .ok (.goto 4, 3) := by decide +kernel
theorem dX6_load_45 : decode cX6_load 45 = .ok (.iconst 1, 1) := by decide +kernel
theorem dX6_load_46 : decode cX6_load 46 = .ok (.istore_n 3, 1) := by decide +kernel
theorem dX6_load_47 : decode cX6_load 47 = .ok (.iinc 4 1, 3) := by decide +kernel
theorem dX6_load_50 : decode cX6_load 50 = .ok (.goto (-45), 3) := by decide +kernel
theorem dX6_load_53 : decode cX6_load 53 = .ok (.aload_n 0, 1) := by decide +kernel
theorem dX6_load_54 : decode cX6_load 54 = .ok (.iconst 3, 1) := by decide +kernel
theorem dX6_load_55 : decode cX6_load 55 = .ok (.iload_n 3, 1) := by decide +kernel
theorem dX6_load_56 : decode cX6_load 56 = .ok (.invokevirtual 24, 3) := by decide +kernel
theorem dX6_load_59 : decode cX6_load 59 = .ok (.return_, 1) := by decide +kernel
set_option maxHeartbeats 4000000 in
theorem m_load (l : Launch) {D : va_G} {ids : Nat → ClassId} {β : Nat} {sh : Nat → Nat × Nat} {N : Nat} {R : Nat → Nat → Option Nat} {F : Nat → Nat → Int} {A : Nat → Int → Int} {w ca cn : Nat} {i : Int} (hw : isW sh R N w) (hc : ca < N) (hcs : sh ca = (1, cn)) (hi : 0 ≤ i ∧ i + 3 ≤ cn) (hcn : cn ≤ 2147483647) (hne : ca ≠ w + 1) (h0 : triOK (A ca) i) : MetX l yX6_load cX6_load 6 none 1 23 D ids β sh N R F A [rf w, rf ca, pI i] (pVr (Q_set F A w (tri (A ca) i))) := by
  refine MetX.of (loc := [_, _, _, _, _, _]) (plainFor_of_name (by decide +kernel)) (Nat.le_of_ble_eq_true rfl) rfl ?_
  intro p e s m args below meth c hC hK hr hlk
  obtain ⟨hw1, hw2, hw3, hw4⟩ := id hw
  have hw0 : w < N := by omega
  have loop : ∀ (n : Nat) (k s0 : Int) (A1 : Nat → Int → Int), (3 - k).toNat < n → 0 ≤ k → k ≤ 3 → (∀ a, a ≠ w + 1 → A1 a = A a) → (∀ j : Int, 0 ≤ j → j < k → A1 (w + 1) j = (A ca (i + j)).natAbs) → sideAt (A ca) i k s0 → X p l e { frames := 1, cells := 0, slots := 0, locals := 23 } s m args below meth c (MQ below (QX D ids β sh N R (pVr (Q_set F A w (tri (A ca) i)))) args s 0 0 (inG β N)) (inG β N) D ids β sh 6 0 0 N R F A1 [some (rf w), some (rf ca), some (pI i), some (pI s0), some (pI k), none] [] 5 := by
    intro n
    induction n with
    | zero => intro k s0 A1 hn; omega
    | succ n ih =>
      intro k s0 A1 hn hk0 hk3 hA hL hS
      have ec : A1 ca = A ca := hA ca hne
      have rg : k < 3 → -1000000000 < A1 ca (i + k) ∧ A1 ca (i + k) < 1000000000 := fun q => by rw [ec]; exact h0.1 k hk0 q
      refine x_iload (pc2 := 7) hC rfl dX6_load_5 rfl ?_
      refine x_iconst (pc2 := 8) hC dX6_load_7 rfl ?_
      refine x_icmp_ge (tgt := 53) (pc2 := 11) hC (by omega) (by omega) dX6_load_8 rfl rfl (fun h_8 => ?_) (fun h_8 => ?_)
      · refine x_aload_n (pc2 := 54) hC rfl rfl dX6_load_53 rfl ?_
        refine x_iconst (pc2 := 55) hC dX6_load_54 rfl ?_
        refine x_iload_n (pc2 := 56) hC rfl rfl dX6_load_55 rfl ?_
        refine x_cVv (pc2 := 59) (ci := 6) hC hK (m_trim l hw ⟨by decide, by decide⟩ (fun j a b => by rw [hL j a (by omega)]; have := h0.1 j a b; omega) (by
                  have q := (side_end h0 (by rw [show (3 : Int) = k by omega]; exact hS)).1
                  exact q.imp id (Or.imp id (fun r => ⟨r.1, fun j a b => by rw [hL j a (by omega)]; exact r.2 j a b⟩)))) lk_258 rfl rfl (by decide) (by assumption) (by assumption) ⟨Nat.le_of_ble_eq_true rfl, Nat.le_of_ble_eq_true rfl⟩ ⟨Nat.le_refl _, Nat.le_refl _⟩ rfl (Nat.le_of_ble_eq_true rfl) dX6_load_56 rfl ?_
        rintro F56 A56 ⟨rfl, q1, q2, q3⟩
        exact x_vret hC hr hlk ⟨rfl, q1, hA, q2, by
                have q := (side_end h0 (by rw [show (3 : Int) = k by omega]; exact hS)).2
                rw [q3, show (3 : Int).toNat = 3 from rfl, dv_three, hL 0 (by omega) (by omega), hL 1 (by omega) (by omega), hL 2 (by omega) (by omega)]
                exact q⟩ dX6_load_59
      · refine x_aload_n (pc2 := 12) hC rfl rfl dX6_load_11 rfl ?_
        refine x_iload_n (pc2 := 13) hC rfl rfl dX6_load_12 rfl ?_
        refine x_iload (pc2 := 15) hC rfl dX6_load_13 rfl ?_
        refine x_iadd (pc2 := 16) hC dX6_load_15 rfl ?_
        refine x_iald (pc2 := 17) hC hK (by assumption) (by assumption) ⟨by omega, by omega⟩ hcn dX6_load_16 rfl ?_
        refine x_istore (pc2 := 19) (loc2 := [_, _, _, _, _, _]) hC (by decide) rfl dX6_load_17 rfl ?_
        refine x_aload_n (pc2 := 20) hC rfl rfl dX6_load_19 rfl ?_
        refine g_142 (pc2 := 23) hC hK (by assumption) (by assumption) (by assumption) dX6_load_20 rfl ?_
        refine x_iload (pc2 := 25) hC rfl dX6_load_23 rfl ?_
        refine x_iload (pc2 := 27) hC rfl dX6_load_25 rfl ?_
        refine x_cSi (pc2 := 30) hC hK (m_abs l (by have := rg h_8; omega)) lk_486 rfl ⟨Nat.le_of_ble_eq_true rfl, Nat.le_of_ble_eq_true rfl⟩ ⟨Nat.le_refl _, Nat.le_refl _⟩ rfl (Nat.le_of_ble_eq_true rfl) dX6_load_27 rfl ?_
        rintro z27 F27 A27 ⟨rfl, rfl, rfl⟩
        refine x_iast (pc2 := 31) hC hK (by assumption) (by assumption) (by omega) (by decide) dX6_load_30 rfl ?_
        refine x_iload (pc2 := 33) hC rfl dX6_load_31 rfl ?_
        refine x_if_eq (tgt := 47) (pc2 := 36) hC (by have := rg h_8; omega) dX6_load_33 rfl rfl (fun h_33 => ?_) (fun h_33 => ?_)
        · refine x_iinc (pc2 := 50) (loc2 := [_, _, _, _, _, _]) hC (by decide) rfl rfl dX6_load_47 rfl ?_
          refine x_goto (pc2 := 5) hC dX6_load_50 rfl ?_
          refine x_less (loc2 := [some (rf w), some (rf ca), some (pI i), some (pI _), some (pI (k + 1)), none]) hC ⟨rfl, rfl, rfl, rfl, rfl, trivial⟩ ?_
          refine ih (k + 1) _ _ (by omega) (by omega) (by omega) (fun a ha => by rw [uA_ne ha]; exact hA a ha) (fun j a b => ?_) ?_
          · rw [uA_at]
            by_cases e : j = k
            · rw [if_pos e, e, ec]
            · rw [if_neg e]; exact hL j a (by omega)
          · rw [ec] at h_33
            first
              | exact hS.imp (fun q => ⟨q.1, fun j a b => by by_cases e : j = k; rw [e]; exact h_33; exact q.2 j a (by omega)⟩) (Or.imp (fun q => ⟨q.1, q.2.imp fun j r => ⟨r.1, by omega, r.2.2⟩⟩) (fun q => ⟨q.1, q.2.imp fun j r => ⟨r.1, by omega, r.2.2⟩⟩))
              | (rw [ec] at h_38; exact Or.inr (Or.inl ⟨rfl, k, hk0, by omega, by omega⟩))
              | (rw [ec] at h_38; exact Or.inr (Or.inr ⟨rfl, k, hk0, by omega, by omega⟩))
        · refine x_iload (pc2 := 38) hC rfl dX6_load_36 rfl ?_
          refine x_if_ge (tgt := 45) (pc2 := 41) hC (by have := rg h_8; omega) dX6_load_38 rfl rfl (fun h_38 => ?_) (fun h_38 => ?_)
          · refine x_iconst (pc2 := 46) hC dX6_load_45 rfl ?_
            refine x_istore_n (pc2 := 47) (loc2 := [_, _, _, _, _, _]) hC rfl (by decide) rfl dX6_load_46 rfl ?_
            refine x_iinc (pc2 := 50) (loc2 := [_, _, _, _, _, _]) hC (by decide) rfl rfl dX6_load_47 rfl ?_
            refine x_goto (pc2 := 5) hC dX6_load_50 rfl ?_
            refine x_less (loc2 := [some (rf w), some (rf ca), some (pI i), some (pI _), some (pI (k + 1)), none]) hC ⟨rfl, rfl, rfl, rfl, rfl, trivial⟩ ?_
            refine ih (k + 1) _ _ (by omega) (by omega) (by omega) (fun a ha => by rw [uA_ne ha]; exact hA a ha) (fun j a b => ?_) ?_
            · rw [uA_at]
              by_cases e : j = k
              · rw [if_pos e, e, ec]
              · rw [if_neg e]; exact hL j a (by omega)
            · rw [ec] at h_33
              first
                | exact hS.imp (fun q => ⟨q.1, fun j a b => by by_cases e : j = k; rw [e]; exact h_33; exact q.2 j a (by omega)⟩) (Or.imp (fun q => ⟨q.1, q.2.imp fun j r => ⟨r.1, by omega, r.2.2⟩⟩) (fun q => ⟨q.1, q.2.imp fun j r => ⟨r.1, by omega, r.2.2⟩⟩))
                | (rw [ec] at h_38; exact Or.inr (Or.inl ⟨rfl, k, hk0, by omega, by omega⟩))
                | (rw [ec] at h_38; exact Or.inr (Or.inr ⟨rfl, k, hk0, by omega, by omega⟩))
          · refine x_iconst (pc2 := 42) hC dX6_load_41 rfl ?_
            refine x_goto (pc2 := 46) hC dX6_load_42 rfl ?_
            refine x_istore_n (pc2 := 47) (loc2 := [_, _, _, _, _, _]) hC rfl (by decide) rfl dX6_load_46 rfl ?_
            refine x_iinc (pc2 := 50) (loc2 := [_, _, _, _, _, _]) hC (by decide) rfl rfl dX6_load_47 rfl ?_
            refine x_goto (pc2 := 5) hC dX6_load_50 rfl ?_
            refine x_less (loc2 := [some (rf w), some (rf ca), some (pI i), some (pI _), some (pI (k + 1)), none]) hC ⟨rfl, rfl, rfl, rfl, rfl, trivial⟩ ?_
            refine ih (k + 1) _ _ (by omega) (by omega) (by omega) (fun a ha => by rw [uA_ne ha]; exact hA a ha) (fun j a b => ?_) ?_
            · rw [uA_at]
              by_cases e : j = k
              · rw [if_pos e, e, ec]
              · rw [if_neg e]; exact hL j a (by omega)
            · rw [ec] at h_33
              first
                | exact hS.imp (fun q => ⟨q.1, fun j a b => by by_cases e : j = k; rw [e]; exact h_33; exact q.2 j a (by omega)⟩) (Or.imp (fun q => ⟨q.1, q.2.imp fun j r => ⟨r.1, by omega, r.2.2⟩⟩) (fun q => ⟨q.1, q.2.imp fun j r => ⟨r.1, by omega, r.2.2⟩⟩))
                | (rw [ec] at h_38; exact Or.inr (Or.inl ⟨rfl, k, hk0, by omega, by omega⟩))
                | (rw [ec] at h_38; exact Or.inr (Or.inr ⟨rfl, k, hk0, by omega, by omega⟩))
  refine x_iconst (pc2 := 1) hC dX6_load_0 rfl ?_
  refine x_istore_n (pc2 := 2) (loc2 := [_, _, _, _, _, _]) hC rfl (by decide) rfl dX6_load_1 rfl ?_
  refine x_iconst (pc2 := 3) hC dX6_load_2 rfl ?_
  refine x_istore (pc2 := 5) (loc2 := [_, _, _, _, _, _]) hC (by decide) rfl dX6_load_3 rfl ?_
  exact loop 4 0 0 A (by omega) (by omega) (by omega) (fun _ _ => rfl) (fun j a b => by omega) (Or.inl ⟨rfl, fun j a b => by omega⟩)
