/-! what learn makes, as the state asks for it -/
theorem quo_mk (c d : CI) : eqf (q3 (tquo (mk3 c) (mk3 d))) (c, d) := by
  have h : rdiv (q3 (mk3 c)) (q3 (mk3 d)) = (c, d) := by
    refine Prod.ext (Prod.ext ?_ ?_) (Prod.ext ?_ ?_)
    · show c.1 * 1 - c.2 * 0 = c.1; grind
    · show c.2 * 1 + c.1 * 0 = c.2; grind
    · show 1 * d.1 - 0 * d.2 = d.1; grind
    · show 0 * d.1 + 1 * d.2 = d.2; grind
  rw [← h]
  exact q_quo _ _
theorem learn_0 (q : Nat → CI) : eqf (q3 (tquo (mk3 (det3 q 3 1 2)) (mk3 (det3 q 0 1 2)))) (learnX q 0) := quo_mk _ _
theorem learn_1 (q : Nat → CI) : eqf (q3 (1, 0, 1)) (learnX q 1) := eqf.rf _
theorem learn_2 (q : Nat → CI) : eqf (q3 (tquo (tadd (tmul (mk3 (det3 q 0 3 2)) (mk3 (det3 q 0 1 2))) (tmul (mk3 (det3 q 3 1 2)) (mk3 (det3 q 0 1 3)))) (tmul (mk3 (det3 q 0 1 2)) (mk3 (det3 q 0 1 2))))) (learnX q 2) := by
  rw [mk_mul, mk_mul, mk_mul, mk_add]
  exact quo_mk _ _
theorem learn_3 (q : Nat → CI) : eqf (q3 (tquo (mk3 (det3 q 0 1 3)) (mk3 (det3 q 0 1 2)))) (learnX q 3) := quo_mk _ _
