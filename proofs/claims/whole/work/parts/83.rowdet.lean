/-! the rows' determinants, as the state asks for them -/
def mk3 (c : CI) : T3 := (c.1, c.2, 1)
theorem mk_mul (a b : CI) : tmul (mk3 a) (mk3 b) = mk3 (cmul a b) := by
  refine Prod.ext ?_ (Prod.ext ?_ ?_)
  · rfl
  · show a.1 * b.2 + a.2 * b.1 = a.2 * b.1 + a.1 * b.2; grind
  · rfl
theorem mk_sub (a b : CI) : tadd (mk3 a) (tneg (mk3 b)) = mk3 (csgn (-1) a b) := by
  refine Prod.ext ?_ (Prod.ext ?_ ?_)
  · show a.1 * 1 + -b.1 * 1 = a.1 + -1 * b.1; grind
  · show a.2 * 1 + -b.2 * 1 = a.2 + -1 * b.2; grind
  · rfl
theorem mk_add (a b : CI) : tadd (mk3 a) (mk3 b) = mk3 (csgn 1 a b) := by
  refine Prod.ext ?_ (Prod.ext ?_ ?_)
  · show a.1 * 1 + b.1 * 1 = a.1 + 1 * b.1; grind
  · show a.2 * 1 + b.2 * 1 = a.2 + 1 * b.2; grind
  · rfl
theorem det_turn (A h u v : CI) : csgn (-1) A (cmul h (csgn (-1) u v)) = csgn 1 (csgn 1 (0, 0) A) (cmul h (csgn (-1) v u)) := by
  unfold csgn cmul
  refine Prod.ext ?_ ?_ <;> dsimp only <;> grind
theorem wr_det {r : Nat → T3} {q : Nat → CI} (h : ∀ j, r j = mk3 (q j)) (x y z : Nat) : wrT r x y z = mk3 (det3 q x y z) := by
  have P : ∀ x y z, wrP r x y z = mk3 (detT q x y z) := fun x y z => by
    unfold wrP detT
    rw [h, h, h, h, h, mk_mul, mk_mul, mk_sub, mk_mul]
  unfold wrT det3
  rw [P, P, P, mk_sub, mk_add]
  refine congrArg (fun w => mk3 (csgn 1 w (detT q z x y))) ?_
  exact det_turn (detT q x y z) (q y) _ _
theorem lrnR_mk (S : SP) (k m t : Int) (j : Nat) : lrnR S k m t j = mk3 (lrnS S k m t j) := by
  unfold lrnR lrnS lrnQ rowT
  by_cases h0 : j % 4 = 0
  · rw [if_pos h0, if_pos h0]; exact mk_mul (_, 0) (_, 0)
  · rw [if_neg h0, if_neg h0]
    by_cases h1 : j % 4 = 1
    · rw [if_pos h1, if_pos h1]; exact mk_mul (_, _) (_, 0)
    · rw [if_neg h1, if_neg h1]
      by_cases h2 : j % 4 = 2
      · rw [if_pos h2, if_pos h2]; exact (mk_mul (_, _) (_, _)).trans (congrArg mk3 (cmul_comm _ _))
      · rw [if_neg h2, if_neg h2]; exact mk_mul (_, _) (_, 0)
/-- a worth is the state's determinant -/
theorem wr_lrn (S : SP) (k m t : Int) (x y z : Nat) : wrT (lrnR S k m t) x y z = mk3 (det3 (lrnS S k m t) x y z) := wr_det (lrnR_mk S k m t) x y z
theorem mk_q (c : CI) : q3 (mk3 c) = (c, cre 1) := rfl
theorem mk_z (c : CI) : ((mk3 c).1 = 0 ∧ (mk3 c).2.1 = 0) ↔ c = (0, 0) := ⟨fun h => Prod.ext h.1 h.2, fun h => by rw [h]; exact ⟨rfl, rfl⟩⟩
