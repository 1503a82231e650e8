/-! PORTSBENCH: the small ones -/
def boolP (F : Nat → Nat → Int) (A : Nat → Int → Int) (P : Prop) : Int → (Nat → Nat → Int) → (Nat → Int → Int) → Prop := fun z F2 A2 => (0 ≤ z ∧ z ≤ 1) ∧ (Unit → (z ≠ 0 ↔ P)) ∧ F2 = F ∧ A2 = A
theorem boolP.of {F F2 : Nat → Nat → Int} {A A2 : Nat → Int → Int} {P Q : Prop} {z : Int} (c : Decidable Q) (h : sameI F A (if Q then 1 else 0) z F2 A2) (e : Q ↔ P) : boolP F A P z F2 A2 := by
  obtain ⟨h1, h2, h3⟩ := h
  by_cases q : Q
  · rw [if_pos q] at h1
    exact ⟨by omega, fun _ => ⟨fun _ => e.mp q, fun _ => by omega⟩, h2, h3⟩
  · rw [if_neg q] at h1
    exact ⟨by omega, fun _ => ⟨fun k => absurd h1 k, fun k => absurd (e.mpr k) q⟩, h2, h3⟩
def RepO (sh : Nat → Nat × Nat) (R : Nat → Nat → Option Nat) (N : Nat) (o : Int × SP) : Int → (Nat → Nat → Int) → (Nat → Int → Int) → Prop := fun z F2 A2 => z = o.1 ∧ RepC sh R N o.2 F2 A2
theorem RepO.of {sh : Nat → Nat × Nat} {R : Nat → Nat → Option Nat} {N : Nat} {o : Int × SP} {S : SP} {z : Int} {F2 : Nat → Nat → Int} {A2 : Nat → Int → Int} (e : o = (z, S)) (h : RepC sh R N S F2 A2) : RepO sh R N o z F2 A2 := by subst e; exact ⟨rfl, h⟩
theorem hold_small {f : Int → Int} {i v : Int} (h0 : f i = v) (h1 : f (i + 1) = 0) (h2 : f (i + 2) = 0) (hv : -1000000000 < v ∧ v < 1000000000) : triOK f i ∧ tri f i = v := by
  have key : ∀ k : Int, 0 ≤ k → k < 3 → (k = 0 ∧ f (i + k) = v) ∨ (f (i + k) = 0) := fun k a b => by
    rcases (show k = 0 ∨ k = 1 ∨ k = 2 by omega) with rfl | rfl | rfl
    · left; rw [Int.add_zero]; exact ⟨rfl, h0⟩
    · right; exact h1
    · right; exact h2
  refine ⟨⟨fun k a b => ?_, ?_⟩, ?_⟩
  · rcases key k a b with ⟨-, e⟩ | e <;> rw [e]
    · exact hv
    · exact ⟨by decide, by decide⟩
  · by_cases q : 0 ≤ v
    · left; intro k a b; rcases key k a b with ⟨-, e⟩ | e <;> rw [e] <;> omega
    · right; intro k a b; rcases key k a b with ⟨-, e⟩ | e <;> rw [e] <;> omega
  · unfold tri; rw [h0, h1, h2]; omega
theorem RepC.add {sh : Nat → Nat × Nat} {R : Nat → Nat → Option Nat} {N : Nat} {S : SP} {F F2 : Nat → Nat → Int} {A A2 : Nat → Int → Int} {p z : Int} (hL : PbL sh R N) (h : RepC sh R N S F A) (hp : p = 1 ∨ p = 2) (hq : (F 1 6 = 16 ∧ z = -3 ∧ F2 = F ∧ A2 = A) ∨ (F 1 6 < 16 ∧ z = F 1 6 ∧ F2 = uF F 1 6 (F 1 6 + 1) ∧ (∀ o, o ≠ 2 → o ≠ 4 → A2 o = A o) ∧ A2 4 = uA A 4 (F 1 6) p 4 ∧ (∀ k, (∃ j : Int, 0 ≤ j ∧ j < 16 ∧ k = F 1 6 * 144 + j * 9 + 6) → A2 2 k = 1) ∧ (∀ k, (∀ j : Int, 0 ≤ j → j < 16 → k ≠ F 1 6 * 144 + j * 9 + 6) → A2 2 k = A 2 k))) : RepO sh R N (oBox S p) z F2 A2 := by
  obtain ⟨s0, s1, s2, s3, s4, s5, s6, s15⟩ := hL.sh
  have hh := h
  obtain ⟨hE, hi, ⟨n1, n2, n3, n4, n5, n6⟩, ⟨c1, c2⟩, h5, h6⟩ := h
  have i1 := hi.1
  rcases hq with ⟨q1, rfl, rfl, rfl⟩ | ⟨q1, rfl, rfl, q2, q3, q4, q5⟩
  · exact RepO.of (by rw [oBox, itO_pos hp, itO_pos (by omega)]) hh
  · refine RepO.of (S := addS S p) (by rw [oBox, itO_pos hp, itO_neg (by omega), n1]) ⟨hE.chg (fun o ho => ?_) (fun a ha => ?_) ?_ ?_ ?_, ⟨?_, ?_, ?_, hi.2.2.2⟩, ⟨?_, ?_, ?_, ?_, ?_, ?_⟩, ⟨?_, ?_⟩, ?_, ?_⟩
    · exact uF_ne (fun q => by rw [q, s1] at ho; exact absurd ho (by decide))
    · exact q2 a (fun q => by rw [q, s2] at ha; exact absurd ha (by decide)) (fun q => by rw [q, s4] at ha; exact absurd ha (by decide))
    · rw [uF_ne (by decide)]
    · rw [uF_ne (by decide)]
    · rw [uF_ne (by decide)]; exact hE.fr.2.2
    · show 0 ≤ nbS S + 1 ∧ nbS S + 1 ≤ 16
      omega
    · intro b hb
      replace hb : 0 ≤ b ∧ b < nbS S + 1 := hb
      show (upZ (ptS S) (nbS S) p b = 1 ∨ upZ (ptS S) (nbS S) p b = 2) ∧ wfB (upZ (ptS S) (nbS S) p b) (upZ (vS S) (nbS S) (fun _ _ => z3) b)
      by_cases q : b = nbS S
      · rw [q, upZ_eq, upZ_eq]
        exact ⟨hp, fun t e _ _ => ⟨ok3_z, fun _ _ => rfl⟩⟩
      · rw [upZ_ne q, upZ_ne q]
        exact hi.2.1 b ⟨hb.1, by omega⟩
    · intro q hq
      obtain ⟨a, b⟩ := hi.2.2.1 q hq
      refine ⟨⟨a.1, ?_⟩, ?_⟩
      · show q.1 < nbS S + 1
        have := a.2
        omega
      · show wfB (upZ (ptS S) (nbS S) p q.1) q.2
        rw [upZ_ne (by have := a.2; omega)]; exact b
    · rw [uF_eq, n1]; rfl
    · rw [uF_nj (by decide)]; exact n2
    · rw [uF_nj (by decide)]; exact n3
    · intro b hb
      replace hb : 0 ≤ b ∧ b < nbS S + 1 := hb
      show A2 4 b = upZ (ptS S) (nbS S) p b
      rw [q3, uA_at, n1]
      by_cases q : b = nbS S
      · rw [if_pos q, q, upZ_eq]
      · rw [if_neg q, upZ_ne q]; exact n4 b ⟨hb.1, by omega⟩
    · intro b b0 b1
      rw [q3, uA_at]
      split
      · omega
      · exact n5 b b0 b1
    · rw [q2 6 (by decide) (by decide)]; exact n6
    · intro b t e hb ht he
      replace hb : 0 ≤ b ∧ b < nbS S + 1 := hb
      show holdT (A2 2) _ (upZ (vS S) (nbS S) (fun _ _ => z3) b t e)
      by_cases q : b = nbS S
      · rw [q, upZ_eq]
        have z : ∀ k : Int, 0 ≤ k → k < 9 → k ≠ 6 → A2 2 (nbS S * 144 + t * 36 + e * 9 + k) = 0 := fun k a b c => by
          rw [q5 _ (fun j j0 j1 => by omega)]
          exact c2 _ (by omega) (by omega)
        have o1 : A2 2 (nbS S * 144 + t * 36 + e * 9 + 6) = 1 := q4 _ ⟨t * 4 + e, by omega, by omega, by omega⟩
        refine ⟨hold_small ?_ (z 1 (by decide) (by decide) (by decide)) (z 2 (by decide) (by decide) (by decide)) (by decide), hold_small (z 3 (by decide) (by decide) (by decide)) ?_ ?_ (by decide), hold_small o1 ?_ ?_ (by decide)⟩
        · have := z 0 (by decide) (by decide) (by decide); rwa [Int.add_zero] at this
        · have := z 4 (by decide) (by decide) (by decide); rwa [show nbS S * 144 + t * 36 + e * 9 + 3 + 1 = nbS S * 144 + t * 36 + e * 9 + 4 by omega]
        · have := z 5 (by decide) (by decide) (by decide); rwa [show nbS S * 144 + t * 36 + e * 9 + 3 + 2 = nbS S * 144 + t * 36 + e * 9 + 5 by omega]
        · have := z 7 (by decide) (by decide) (by decide); rwa [show nbS S * 144 + t * 36 + e * 9 + 6 + 1 = nbS S * 144 + t * 36 + e * 9 + 7 by omega]
        · have := z 8 (by decide) (by decide) (by decide); rwa [show nbS S * 144 + t * 36 + e * 9 + 6 + 2 = nbS S * 144 + t * 36 + e * 9 + 8 by omega]
      · rw [upZ_ne q]
        refine holdT_of (fun k k0 k1 => q5 _ (fun j j0 j1 => ?_)) (c1 b t e ⟨hb.1, by omega⟩ ht he)
        omega
    · intro k k0 k1
      replace k0 : (nbS S + 1) * 144 ≤ k := k0
      rw [q5 k (fun j j0 j1 => by omega)]
      exact c2 k (by omega) k1
    · intro i q hq
      obtain ⟨a, b⟩ := h5 i q hq
      rw [uF_nj (by decide), q2 6 (by decide) (by decide), q2 5 (by decide) (by decide)]
      exact ⟨a, b⟩
    · exact ⟨by rw [uF_ne (by decide)]; exact h6.1, by rw [uF_ne (by decide)]; exact h6.2⟩
theorem RepC.back {sh : Nat → Nat × Nat} {R : Nat → Nat → Option Nat} {N : Nat} {S : SP} {F F2 : Nat → Nat → Int} {A A2 : Nat → Int → Int} {z : Int} (hL : PbL sh R N) (h : RepC sh R N S F A) (hq : (F 1 7 = 0 ∧ z = 0 ∧ F2 = F ∧ A2 = A) ∨ (F 1 7 ≠ 0 ∧ z = 1 ∧ F2 = uF (uF F 1 5 ((F 1 5 + 15) % 16)) 1 7 (F 1 7 - 1) ∧ A2 = cpA A 5 ((F 1 5 + 15) % 16 * 144) 2 (A 6 ((F 1 5 + 15) % 16) * 144) 144)) : (z = 0 ∧ (oUndo S).1 = -2 ∧ RepC sh R N (oUndo S).2 F2 A2) ∨ (z = 1 ∧ (oUndo S).1 = 1 ∧ RepC sh R N (oUndo S).2 F2 A2) := by
  obtain ⟨s0, s1, s2, s3, s4, s5, s6, s15⟩ := hL.sh
  have hh := h
  obtain ⟨hE, hi, ⟨n1, n2, n3, n4, n5, n6⟩, ⟨c1, c2⟩, h5, h6⟩ := h
  have i1 := hi.1
  have i4 := hi.2.2.2
  unfold oUndo
  rcases hs : hS S with _ | ⟨q0, t0⟩
  · rcases hq with ⟨q1, rfl, rfl, rfl⟩ | ⟨q1, -⟩
    · exact Or.inl ⟨rfl, rfl, hh⟩
    · rw [n3, hs] at q1
      exact absurd rfl q1
  · rcases hq with ⟨q1, -⟩ | ⟨q1, rfl, rfl, rfl⟩
    · rw [n3, hs] at q1
      simp at q1
      omega
    · obtain ⟨a0, b0⟩ := h5 0 q0 (by rw [hs]; rfl)
      rw [show (F 1 5 + 15 - ((0 : Nat) : Int)) % 16 = (F 1 5 + 15) % 16 by omega] at a0 b0
      obtain ⟨hq0, hw0⟩ := hi.2.2.1 q0 (by rw [hs]; exact List.mem_cons_self)
      rw [hs] at i4
      rw [List.length_cons] at i4
      refine Or.inr ⟨rfl, rfl, ⟨hE.chg (fun o ho => ?_) (fun a ha => ?_) ?_ ?_ ?_, ⟨i1, ?_, ?_, ?_⟩, ⟨?_, ?_, ?_, ?_, ?_, ?_⟩, ⟨?_, ?_⟩, ?_, ?_⟩⟩
      · have : o ≠ 1 := fun q => by rw [q, s1] at ho; exact absurd ho (by decide)
        rw [uF_ne this, uF_ne this]
      · exact cpA_ne (fun q => by rw [q, s2] at ha; exact absurd ha (by decide))
      · rw [uF_ne (by decide), uF_ne (by decide)]
      · rw [uF_ne (by decide), uF_ne (by decide)]
      · rw [uF_ne (by decide), uF_ne (by decide)]; exact hE.fr.2.2
      · intro b hb
        refine ⟨(hi.2.1 b hb).1, ?_⟩
        show wfB (ptS S b) (upZ (vS S) q0.1 q0.2 b)
        by_cases q : b = q0.1
        · rw [q, upZ_eq]; exact hw0
        · rw [upZ_ne q]; exact (hi.2.1 b hb).2
      · intro q hq
        exact hi.2.2.1 q (by rw [hs]; exact List.mem_cons_of_mem _ hq)
      · show t0.length ≤ 16
        omega
      · rw [uF_nj (by decide), uF_nj (by decide)]; exact n1
      · rw [uF_nj (by decide), uF_eq]; omega
      · rw [uF_eq, n3, hs]
        show ((t0.length + 1 : Nat) : Int) - 1 = (t0.length : Int)
        omega
      · intro b hb
        rw [cpA_ne (by decide)]; exact n4 b hb
      · intro b b0 b1
        rw [cpA_ne (by decide)]; exact n5 b b0 b1
      · rw [cpA_ne (by decide)]; exact n6
      · intro b t e hb ht he
        show holdT _ _ (upZ (vS S) q0.1 q0.2 b t e)
        rw [a0]
        by_cases q : b = q0.1
        · rw [q, upZ_eq]
          refine holdT_of (fun k k0 k1 => ?_) (b0 t e ht he)
          rw [cpA_in ⟨by omega, by omega⟩]
          congr 1
          omega
        · rw [upZ_ne q]
          refine holdT_of (fun k k0 k1 => ?_) (c1 b t e hb ht he)
          rw [cpA_out (by omega)]
      · intro k k0 k1
        rw [a0, cpA_out (by have := hq0.2; have k2 : nbS S * 144 ≤ k := k0; omega)]
        exact c2 k k0 k1
      · intro i q hq
        obtain ⟨a1, b1⟩ := h5 (i + 1) q (by rw [hs]; exact hq)
        rw [uF_nj (by decide), uF_eq, cpA_ne (by decide), cpA_ne (by decide)]
        have e : ((F 1 5 + 15) % 16 + 15 - (i : Int)) % 16 = (F 1 5 + 15 - ((i + 1 : Nat) : Int)) % 16 := by omega
        rw [e]
        exact ⟨a1, b1⟩
      · exact ⟨by rw [uF_ne (by decide), uF_ne (by decide)]; exact h6.1, by rw [uF_ne (by decide), uF_ne (by decide)]; exact h6.2⟩
