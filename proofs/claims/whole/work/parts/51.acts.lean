/-! PORTSBENCH: the acts that divide -/
abbrev dE (S : SP) (c e : Int) : Prop := ptS S c = 2 ∨ e = 0
/-- the draft when the tones below k are done -/
def DrK (S : SP) (c : Int) (bx : Int → Int → QR) (f : Int → Int) (b k : Int) : Prop :=
  ((b = 0 ∧ ∀ t e, 0 ≤ t → t < k → isT e → dE S c e → LT (bx t e) (low (bx t e)) ∧ fit (low (bx t e)) ∧ holdT f (t * 36 + e * 9) (low (bx t e))) ∨ (b = 1 ∧ ∃ t e, 0 ≤ t ∧ t < k ∧ isT e ∧ ¬ fit (low (bx t e)))) ∧ ∀ t e, isT t → isT e → (k ≤ t ∨ ¬ dE S c e) → holdT f (t * 36 + e * 9) (vS S c t e)
/-- what a tone's work does -/
def TS (sh : Nat → Nat × Nat) (R : Nat → Nat → Option Nat) (N : Nat) (S : SP) (c : Int) (dv : Int → Int) (bx : Int → Int → QR) (F : Nat → Nat → Int) (A : Nat → Int → Int) (k : Int) : Int → (Nat → Nat → Int) → (Nat → Int → Int) → Prop := fun z F2 A2 => (0 ≤ z ∧ z ≤ 3) ∧ (Unit → (z ≠ 0 ∧ z = dv k ∧ AE sh R N F A [] F2 A2) ∨ (z = 0 ∧ dv k = 0 ∧ ∃ L, (∀ x ∈ L, ∃ e, isT e ∧ dE S c e ∧ x = (bx k e, k * 36 + e * 9)) ∧ (∀ e, isT e → dE S c e → (bx k e, k * 36 + e * 9) ∈ L) ∧ (∀ e, (bx k e).2 ≠ (0, 0)) ∧ AE sh R N F A L F2 A2))
theorem DrK.step {S : SP} {c : Int} {bx : Int → Int → QR} {f f2 : Int → Int} {b b2 k : Int} {L : List (QR × Int)} (h : DrK S c bx f b k) (hk : isT k) (h1 : ∀ x ∈ L, ∃ e, isT e ∧ dE S c e ∧ x = (bx k e, k * 36 + e * 9)) (h2 : ∀ e, isT e → dE S c e → (bx k e, k * 36 + e * 9) ∈ L) (hn : ∀ e, (bx k e).2 ≠ (0, 0)) (hd : DrL f2 f b b2 L) : DrK S c bx f2 b2 (k + 1) := by
  obtain ⟨d1, d2⟩ := hd
  obtain ⟨g1, g2⟩ := h
  have far : ∀ t e, isT t → isT e → (t ≠ k ∨ ¬ dE S c e) → ∀ j : Int, 0 ≤ j → j < 9 → f2 (t * 36 + e * 9 + j) = f (t * 36 + e * 9 + j) := fun t e ht he q j j0 j1 => by
    refine d2 _ (fun x hx => ?_)
    obtain ⟨e2, a1, a2, rfl⟩ := h1 x hx
    dsimp only
    by_cases w : t = k
    · rcases q with q | q
      · exact absurd w q
      · have : e2 ≠ e := fun y => q (y ▸ a2)
        subst w
        omega
    · omega
  refine ⟨?_, fun t e ht he q => ?_⟩
  · rcases d1 with ⟨rfl, d1⟩ | ⟨rfl, x, hx, p, q, r, d3, d4⟩
    · rcases g1 with ⟨rfl, g1⟩ | ⟨rfl, t, e, a1, a2, a3⟩
      · refine Or.inl ⟨rfl, fun t e t0 t1 he hE => ?_⟩
        by_cases w : t = k
        · subst w
          obtain ⟨p, q, r, d3, d4, d5⟩ := d1 _ (h2 e he hE)
          have l : low (bx t e) = (p, q, r) := low_of (hn e) d3
          rw [l]
          exact ⟨d3, d4, d5⟩
        · obtain ⟨b1, b2, b3⟩ := g1 t e t0 (by omega) he hE
          exact ⟨b1, b2, holdT_of (far t e ⟨t0, by omega⟩ he (Or.inl w)) b3⟩
      · exact Or.inr ⟨rfl, t, e, a1, by omega, a3⟩
    · refine Or.inr ⟨rfl, k, ?_⟩
      obtain ⟨e, a1, a2, rfl⟩ := h1 x hx
      have l : low (bx k e) = (p, q, r) := low_of (hn e) d3
      exact ⟨e, hk.1, by omega, a1, by rw [l]; exact d4⟩
  · exact holdT_of (far t e ht he (by rcases q with q | q; exact Or.inl (by omega); exact Or.inr q)) (g2 t e ht he (by rcases q with q | q; exact Or.inl (by omega); exact Or.inr q))
theorem DrK.fin {S : SP} {c : Int} {bx : Int → Int → QR} {f : Int → Int} {b : Int} (h : DrK S c bx f b 4) (hi : invS S) (hc : isB S c) (hz : ptS S c = 1 → ∀ t e, isT t → isT e → e ≠ 0 → bx t e = zq) : (b = 0 ∧ (∀ t e, isT t → isT e → LT (bx t e) (low (bx t e)) ∧ fit (low (bx t e))) ∧ (∀ t e, isT t → isT e → holdT f (t * 36 + e * 9) (low (bx t e))) ∧ wfB (ptS S c) (fun t e => low (bx t e))) ∨ (b = 1 ∧ ∃ t e, isT t ∧ isT e ∧ ¬ fit (low (bx t e))) := by
  obtain ⟨g1, g2⟩ := h
  rcases g1 with ⟨rfl, g1⟩ | ⟨rfl, t, e, a1, a2, a3⟩
  · left
    have pt := (hi.2.1 c hc).1
    have one : ∀ t e, isT t → isT e → ¬ dE S c e → bx t e = zq ∧ vS S c t e = z3 := fun t e ht he q => by
      have q1 : ptS S c = 1 := by rcases pt with x | x; exact x; exact absurd (Or.inl x) q
      have q2 : e ≠ 0 := fun x => q (Or.inr x)
      exact ⟨hz q1 t e ht he q2, ((hi.2.1 c hc).2 t e ht he).2 q1 q2⟩
    have key : ∀ t e, isT t → isT e → LT (bx t e) (low (bx t e)) ∧ fit (low (bx t e)) ∧ holdT f (t * 36 + e * 9) (low (bx t e)) := fun t e ht he => by
      by_cases q : dE S c e
      · exact g1 t e ht.1 ht.2 he q
      · obtain ⟨x1, x2⟩ := one t e ht he q
        have := g2 t e ht he (Or.inr q)
        rw [x2] at this
        rw [x1, low_z.2]
        exact ⟨low_z.1, ok3_z.2.2, this⟩
    refine ⟨rfl, fun t e ht he => ⟨(key t e ht he).1, (key t e ht he).2.1⟩, fun t e ht he => (key t e ht he).2.2, fun t e ht he => ⟨⟨(key t e ht he).1.1, (key t e ht he).1.2.1, (key t e ht he).2.1⟩, fun p q => ?_⟩⟩
    show low (bx t e) = z3
    rw [hz p t e ht he q]
    exact low_z.2
  · exact Or.inr ⟨rfl, t, e, ⟨a1, a2⟩, a3⟩
theorem p_start (l : Launch) {D : va_G} {ids : Nat → ClassId} {β : Nat} {sh : Nat → Nat × Nat} {N : Nat} {R : Nat → Nat → Option Nat} {F : Nat → Nat → Int} {A : Nat → Int → Int} {S : SP} (hP : PbL sh R N) (hR0 : RepC sh R N S F A) {c0 : Int} (hc : isB S c0) : MetX l yX0_start cX0_start 2 none 2 47 D ids β sh N R F A [rf 7, pI c0] (pVr (fun F2 A2 => RepC sh R N S F2 A2 ∧ ∀ bx, DrK S c0 bx (A2 3) (F2 15 7) 0)) := by
  refine (m_start l hP.1 hR0.shI (up16 hc hR0.nb)).mono (fun rv F2 A2 h => ?_)
  obtain ⟨h1, rfl, rfl⟩ := h
  obtain ⟨q1, -, q2⟩ := hR0.start hP hc
  exact ⟨h1, q1, fun bx => ⟨Or.inl ⟨uF_eq, fun t e a b => by omega⟩, fun t e ht he _ => q2 t e ht he⟩⟩
theorem dX7_finish_0 : decode cX7_finish 0 = .ok (.aload_n 0, 1) := by decide +kernel
theorem dX7_finish_1 : decode cX7_finish 1 = .ok (.getfield 21, 3) := by decide +kernel
theorem dX7_finish_4 : decode cX7_finish 4 = .ok (.invokevirtual 149, 3) := by decide +kernel
theorem dX7_finish_7 : decode cX7_finish 7 = .ok (.ifCond .eq 6, 3) := by decide +kernel
theorem dX7_finish_10 : decode cX7_finish 10 = .ok (.bipush (-5), 2) := by decide +kernel
theorem dX7_finish_12 : decode cX7_finish 12 = .ok (.ireturn, 1) := by decide +kernel
theorem dX7_finish_13 : decode cX7_finish 13 = .ok (.aload_n 0, 1) := by decide +kernel
theorem dX7_finish_14 : decode cX7_finish 14 = .ok (.getfield 12, 3) := by decide +kernel
theorem dX7_finish_17 : decode cX7_finish 17 = .ok (.iload_n 1, 1) := by decide +kernel
theorem dX7_finish_18 : decode cX7_finish 18 = .ok (.invokevirtual 66, 3) := by decide +kernel
theorem dX7_finish_21 : decode cX7_finish 21 = .ok (.iconst 0, 1) := by decide +kernel
theorem dX7_finish_22 : decode cX7_finish 22 = .ok (.ireturn, 1) := by decide +kernel
set_option maxHeartbeats 4000000 in
theorem m_finish (l : Launch) {D : va_G} {ids : Nat → ClassId} {β : Nat} {sh : Nat → Nat × Nat} {N : Nat} {R : Nat → Nat → Option Nat} {F : Nat → Nat → Int} {A : Nat → Int → Int} {S : SP} (hP : PbL sh R N) (hR0 : RepC sh R N S F A) {c0 : Int} {bx : Int → Int → QR} (hc : isB S c0) (hD : DrK S c0 bx (A 3) (F 15 7) 4) (hz : ptS S c0 = 1 → ∀ t e, isT t → isT e → e ≠ 0 → bx t e = zq) : MetX l yX7_finish cX7_finish 2 (some (.int)) 2 47 D ids β sh N R F A [rf 0, pI c0] (pIr (fun z F2 A2 => ∃ S2, (((∃ t e, isT t ∧ isT e ∧ ¬ fit (low (bx t e))) ∧ z = -5 ∧ S2 = S) ∨ ((∀ t e, isT t → isT e → LT (bx t e) (low (bx t e)) ∧ fit (low (bx t e))) ∧ z = 0 ∧ S2 = actS S c0 (fun t e => low (bx t e)))) ∧ RepC sh R N S2 F2 A2)) := by
  refine MetX.of (loc := [_, _]) (plainFor_of_name (by decide +kernel)) (Nat.le_of_ble_eq_true rfl) rfl ?_
  intro p e s m args below meth c hC hK hr hlk
  obtain ⟨hAc, hAg, hJu, ⟨z1, z2⟩, r00, r01, r02⟩ := id hP
  have hShL := hAc.1
  obtain ⟨⟨j1, j2⟩, ⟨s0, s1, s2, s3, s4⟩, ⟨j3, j4⟩, -⟩ := id hShL
  have hI := hR0.shI
  have hi := hR0.2.1
  have i1 := hi.1
  obtain ⟨q71, q72⟩ := hAc.2.2.1
  have hb15 := hR0.1.fr.2.2
  have hF := hD.fin hi hc hz
  have hF0 : F 15 7 = 0 → ∀ t e, isT t → isT e → holdT (A 3) (t * 36 + e * 9) (low (bx t e)) := fun q => by
    rcases hF with ⟨-, -, x, -⟩ | ⟨x, -⟩
    · exact x
    · omega
  have hF2 : F 15 7 = 0 → wfB (ptS S c0) (fun t e => low (bx t e)) := fun q => by
    rcases hF with ⟨-, -, -, x⟩ | ⟨x, -⟩
    · exact x
    · omega
  refine x_aload_n (pc2 := 1) hC rfl rfl dX7_finish_0 rfl ?_
  refine g_370 (pc2 := 4) hC hK (by assumption) (by assumption) (by assumption) dX7_finish_1 rfl ?_
  refine x_cVi (pc2 := 7) (ci := 0) hC hK (m_foundBig l hAc hb15) lk_638 rfl rfl (by decide) (by assumption) (by assumption) ⟨Nat.le_of_ble_eq_true rfl, Nat.le_of_ble_eq_true rfl⟩ ⟨Nat.le_refl _, Nat.le_refl _⟩ rfl (Nat.le_of_ble_eq_true rfl) dX7_finish_4 rfl ?_
  rintro z4 F4 A4 ⟨rfl, e14, e24⟩
  obtain rfl := e14.symm
  obtain rfl := e24.symm
  refine x_if_eq (tgt := 13) (pc2 := 10) hC (by rcases hb15 with q | q <;> rw [q] <;> exact ⟨by decide, by decide⟩) dX7_finish_7 rfl rfl (fun h_7 => ?_) (fun h_7 => ?_)
  · refine x_aload_n (pc2 := 14) hC rfl rfl dX7_finish_13 rfl ?_
    refine g_369 (pc2 := 17) hC hK (by assumption) (by assumption) (by assumption) dX7_finish_14 rfl ?_
    refine x_iload_n (pc2 := 18) hC rfl rfl dX7_finish_17 rfl ?_
    refine x_cVv (pc2 := 21) (ci := 5) hC hK (p_keepDraft l hP hR0 (w := fun t e => low (bx t e)) hc (hF2 (by assumption)) (hF0 (by assumption))) lk_436 rfl rfl (by decide) (by assumption) (by assumption) ⟨Nat.le_of_ble_eq_true rfl, Nat.le_of_ble_eq_true rfl⟩ ⟨Nat.le_refl _, Nat.le_refl _⟩ rfl (Nat.le_of_ble_eq_true rfl) dX7_finish_18 rfl ?_
    rintro F18 A18 hR18
    refine x_iconst (pc2 := 22) hC dX7_finish_21 rfl ?_
    exact x_iret hC hr hlk ⟨_, rfl, _, Or.inr ⟨by rcases hF with ⟨-, x, -⟩ | ⟨x, -⟩; exact x; omega, rfl, rfl⟩, hR18⟩ dX7_finish_22
  · refine x_bipush (pc2 := 12) hC rfl dX7_finish_10 rfl ?_
    exact x_iret hC hr hlk ⟨_, rfl, S, Or.inl ⟨by rcases hF with ⟨x, -⟩ | ⟨-, x⟩; exact absurd x (by assumption); exact x, rfl, rfl⟩, hR0⟩ dX7_finish_12
