/-! THE SPEC: what both sides keep -/
abbrev T3 : Type := Int × Int × Int
abbrev q3 (x : T3) : QR := ((x.1, x.2.1), cre x.2.2)
abbrev z3 : T3 := (0, 0, 1)
abbrev fit (x : T3) : Prop := fit3 x.1 x.2.1 x.2.2
abbrev LT (x : QR) (w : T3) : Prop := LT3 x.1 x.2 w.1 w.2.1 w.2.2
noncomputable def low (x : QR) : T3 := @Classical.epsilon T3 ⟨z3⟩ (fun w => LT x w)
theorem cmul_comm (a b : CI) : cmul a b = cmul b a := by unfold cmul; exact Prod.ext (by dsimp only; grind) (by dsimp only; grind)
theorem cmul_assoc (a b c : CI) : cmul (cmul a b) c = cmul a (cmul b c) := by unfold cmul; exact Prod.ext (by dsimp only; grind) (by dsimp only; grind)
theorem cmul4 (a b c d : CI) : cmul (cmul a b) (cmul c d) = cmul (cmul a c) (cmul b d) := by unfold cmul; exact Prod.ext (by dsimp only; grind) (by dsimp only; grind)
theorem cmul_sgn (s : Int) (a b c : CI) : cmul (csgn s a b) c = csgn s (cmul a c) (cmul b c) := by unfold cmul csgn; exact Prod.ext (by dsimp only; grind) (by dsimp only; grind)
theorem cmul_re (a : CI) (r : Int) : cmul a (cre r) = (a.1 * r, a.2 * r) := by unfold cmul cre; exact Prod.ext (by dsimp only; grind) (by dsimp only; grind)
theorem cmul_can {a b c : CI} (hc : c ≠ (0, 0)) (h : cmul a c = cmul b c) : a = b := by
  by_cases q : csgn (-1) a b = (0, 0)
  · have h1 : a.1 + -1 * b.1 = 0 := congrArg Prod.fst q
    have h2 : a.2 + -1 * b.2 = 0 := congrArg Prod.snd q
    exact Prod.ext (by omega) (by omega)
  · exfalso
    refine cmul_ne q hc ?_
    rw [cmul_sgn, h]
    unfold csgn
    exact Prod.ext (by dsimp only; omega) (by dsimp only; omega)
def eqf (x y : QR) : Prop := cmul x.1 y.2 = cmul y.1 x.2
theorem eqf.rf (x : QR) : eqf x x := rfl
theorem eqf.sy {x y : QR} (h : eqf x y) : eqf y x := Eq.symm h
theorem eqf.tr {x y z : QR} (hy : y.2 ≠ (0, 0)) (h : eqf x y) (h2 : eqf y z) : eqf x z := by
  refine cmul_can hy ?_
  have a : cmul (cmul x.1 y.2) z.2 = cmul (cmul y.1 x.2) z.2 := by rw [show cmul x.1 y.2 = _ from h]
  have b : cmul (cmul y.1 z.2) x.2 = cmul (cmul z.1 y.2) x.2 := by rw [show cmul y.1 z.2 = _ from h2]
  rw [cmul_assoc, cmul_comm z.2, ← cmul_assoc, a, cmul_assoc, cmul_comm x.2, ← cmul_assoc, b, cmul_assoc, cmul_comm y.2, ← cmul_assoc]
theorem eqf.mul {x y x' y' : QR} (h : eqf x x') (k : eqf y y') : eqf (rmul x y) (rmul x' y') := by
  show cmul (cmul x.1 y.1) (cmul x'.2 y'.2) = cmul (cmul x'.1 y'.1) (cmul x.2 y.2)
  rw [cmul4, show cmul x.1 x'.2 = _ from h, show cmul y.1 y'.2 = _ from k, cmul4]
theorem eqf.div {x y x' y' : QR} (h : eqf x x') (k : eqf y y') : eqf (rdiv x y) (rdiv x' y') := by
  show cmul (cmul x.1 y.2) (cmul x'.2 y'.1) = cmul (cmul x'.1 y'.2) (cmul x.2 y.1)
  rw [cmul4, show cmul x.1 x'.2 = _ from h, cmul_comm y.2, ← show cmul y.1 y'.2 = _ from k, cmul_comm y.1, cmul4]
theorem eqf.sum {s : Int} {x y x' y' : QR} (h : eqf x x') (k : eqf y y') : eqf (rsum s x y) (rsum s x' y') := by
  show cmul (csgn s (cmul x.1 y.2) (cmul y.1 x.2)) (cmul x'.2 y'.2) = cmul (csgn s (cmul x'.1 y'.2) (cmul y'.1 x'.2)) (cmul x.2 y.2)
  rw [cmul_sgn, cmul_sgn, cmul4 x.1, show cmul x.1 x'.2 = _ from h, cmul_comm x'.2 y'.2, cmul4 y.1, show cmul y.1 y'.2 = _ from k, cmul4 x'.1 y'.2 x.2, cmul_comm x.2 y.2, cmul4 y'.1 x'.2, cmul_comm y.2 y'.2, cmul_comm x.2 x'.2]
/-- an over that is 0 stays so -/
theorem eqf.zero {x y : QR} (hx : x.2 ≠ (0, 0)) (h : eqf x y) (q : x.1 = (0, 0)) : y.1 = (0, 0) := by
  by_cases k : y.1 = (0, 0)
  · exact k
  · refine absurd ?_ (cmul_ne k hx)
    rw [← show cmul x.1 y.2 = _ from h, q]
    unfold cmul
    exact Prod.ext (by dsimp only; grind) (by dsimp only; grind)
theorem eqf.of_eq {x y : QR} (h : x = y) : eqf x y := h ▸ rfl
theorem LT.eqf {x y : QR} {w : T3} (hx : x.2 ≠ (0, 0)) (h : eqf x y) (k : LT x w) : LT y w := by
  refine ⟨k.1, k.2.1, cmul_can hx ?_⟩
  have a : cmul (w.1, w.2.1) x.2 = cmul x.1 (cre w.2.2) := by rw [cmul_re]; exact k.2.2
  rw [← cmul_re, cmul_assoc, cmul_comm y.2, ← cmul_assoc, a, cmul_assoc, cmul_comm (cre _), ← cmul_assoc, show cmul x.1 y.2 = _ from h, cmul_assoc, cmul_assoc, cmul_comm x.2]
theorem dvd_of3 {a b c m : Nat} (h : Nat.gcd (Nat.gcd a b) c = 1) (h1 : a ∣ b * m) (h2 : a ∣ c * m) : a ∣ m := by
  have h3 : a ∣ Nat.gcd (Nat.gcd a b) c * m := by
    rw [← Nat.gcd_mul_right, ← Nat.gcd_mul_right]
    exact Nat.dvd_gcd (Nat.dvd_gcd (Nat.dvd_mul_right a m) h1) h2
  rwa [h, Nat.one_mul] at h3
theorem LT.uniq {x : QR} {v w : T3} (hx : x.2 ≠ (0, 0)) (h : LT x v) (k : LT x w) : v = w := by
  obtain ⟨h1, h2, h3⟩ := h
  obtain ⟨k1, k2, k3⟩ := k
  have e : cmul (v.1, v.2.1) (cre w.2.2) = cmul (w.1, w.2.1) (cre v.2.2) := by
    refine cmul_can hx ?_
    rw [cmul_assoc, cmul_comm (cre _), ← cmul_assoc, h3, cmul_assoc, cmul_comm (cre _), ← cmul_assoc, k3, cmul_re, cmul_re]
    exact Prod.ext (Int.mul_right_comm _ _ _) (Int.mul_right_comm _ _ _)
  rw [cmul_re, cmul_re] at e
  have e1 : v.1 * w.2.2 = w.1 * v.2.2 := congrArg Prod.fst e
  have e2 : v.2.1 * w.2.2 = w.2.1 * v.2.2 := congrArg Prod.snd e
  have n1 := congrArg Int.natAbs e1
  have n2 := congrArg Int.natAbs e2
  rw [Int.natAbs_mul, Int.natAbs_mul] at n1 n2
  have d1 : v.2.2.natAbs ∣ w.2.2.natAbs := dvd_of3 h2 (by rw [n1]; exact Nat.dvd_mul_left _ _) (by rw [n2]; exact Nat.dvd_mul_left _ _)
  have d2 : w.2.2.natAbs ∣ v.2.2.natAbs := dvd_of3 k2 (by rw [← n1]; exact Nat.dvd_mul_left _ _) (by rw [← n2]; exact Nat.dvd_mul_left _ _)
  have er : v.2.2 = w.2.2 := by have := Nat.dvd_antisymm d1 d2; omega
  rw [er] at e1 e2
  have p : w.2.2 ≠ 0 := by omega
  exact Prod.ext (Int.eq_of_mul_eq_mul_right p e1) (Prod.ext (Int.eq_of_mul_eq_mul_right p e2) er)
theorem low_of {x : QR} {w : T3} (hx : x.2 ≠ (0, 0)) (h : LT x w) : low x = w := LT.uniq hx (@Classical.epsilon_spec T3 (fun w => LT x w) ⟨w, h⟩) h
theorem low_lt {x : QR} {w : T3} (h : LT x w) : LT x (low x) := @Classical.epsilon_spec T3 (fun w => LT x w) ⟨w, h⟩
theorem low_eqf {x y : QR} {w : T3} (hx : x.2 ≠ (0, 0)) (hy : y.2 ≠ (0, 0)) (h : eqf x y) (k : LT y w) : low x = low y := by
  rw [low_of hy k]
  exact low_of hx (k.eqf hy h.sy)
/-- the state: how many boxes, their ports, their numbers by tone and entry, the acts (the latest first), where -/
abbrev BX : Type := Int → Int → T3
abbrev SP : Type := Int × (Int → Int) × (Int → BX) × List (Int × BX) × Int × Int
abbrev nbS (S : SP) : Int := S.1
abbrev ptS (S : SP) : Int → Int := S.2.1
abbrev vS (S : SP) : Int → BX := S.2.2.1
abbrev hS (S : SP) : List (Int × BX) := S.2.2.2.1
abbrev wtS (S : SP) : Int := S.2.2.2.2.1
abbrev wdS (S : SP) : Int := S.2.2.2.2.2
def upZ {α : Type} (f : Int → α) (i : Int) (v : α) : Int → α := fun j => if j = i then v else f j
theorem upZ_eq {α : Type} {f : Int → α} {i : Int} {v : α} : upZ f i v i = v := by simp [upZ]
theorem upZ_ne {α : Type} {f : Int → α} {i j : Int} {v : α} (h : j ≠ i) : upZ f i v j = f j := by simp [upZ, h]
abbrev isB (S : SP) (b : Int) : Prop := 0 ≤ b ∧ b < nbS S
abbrev hasB (S : SP) (b n : Int) : Prop := isB S b ∧ ptS S b = n
abbrev isE (S : SP) (b i j : Int) : Prop := isB S b ∧ (0 ≤ i ∧ i < ptS S b) ∧ (0 ≤ j ∧ j < ptS S b)
abbrev isT (t : Int) : Prop := 0 ≤ t ∧ t < 4
abbrev given (p q r : Int) : Prop := (-1000000 ≤ p ∧ p ≤ 1000000) ∧ (-1000000 ≤ q ∧ q ≤ 1000000) ∧ (1 ≤ r ∧ r ≤ 1000000)
def actS (S : SP) (c : Int) (w : BX) : SP := (nbS S, ptS S, upZ (vS S) c w, ((c, vS S c) :: hS S).take 16, wtS S, wdS S)
def noS (S : SP) (t d : Int) : SP := (nbS S, ptS S, vS S, hS S, t, d)
/-- in lowest terms and not too great -/
def ok3 (x : T3) : Prop := 0 < x.2.2 ∧ Nat.gcd (Nat.gcd x.2.2.natAbs x.1.natAbs) x.2.1.natAbs = 1 ∧ fit x
theorem ok3_z : ok3 z3 := ⟨by decide, by decide, by unfold fit fit3; decide⟩
def wfB (p : Int) (x : BX) : Prop := ∀ t e, isT t → isT e → ok3 (x t e) ∧ (p = 1 → e ≠ 0 → x t e = z3)
def invS (S : SP) : Prop := (0 ≤ nbS S ∧ nbS S ≤ 16) ∧ (∀ b, isB S b → (ptS S b = 1 ∨ ptS S b = 2) ∧ wfB (ptS S b) (vS S b)) ∧ (∀ q ∈ hS S, isB S q.1 ∧ wfB (ptS S q.1) q.2) ∧ (hS S).length ≤ 16
theorem invS.act {S : SP} (h : invS S) {c : Int} {w : BX} (hc : isB S c) (hw : wfB (ptS S c) w) : invS (actS S c w) := by
  obtain ⟨h1, h2, h3, h4⟩ := h
  refine ⟨h1, fun b hb => ⟨(h2 b hb).1, ?_⟩, fun q hq => ?_, ?_⟩
  · by_cases e : b = c
    · rw [e]; show wfB _ (upZ _ c w c); rw [upZ_eq]; exact hw
    · show wfB _ (upZ _ c w b); rw [upZ_ne e]; exact (h2 b hb).2
  · rcases List.mem_cons.mp (List.mem_of_mem_take hq) with rfl | hq
    · exact ⟨hc, (h2 c hc).2⟩
    · exact h3 q hq
  · show (((c, vS S c) :: hS S).take 16).length ≤ 16
    rw [List.length_take]; omega
theorem invS.no {S : SP} (h : invS S) (t d : Int) : invS (noS S t d) := h
/-- the number of a box' entry -/
abbrev nm (S : SP) (b t e : Int) : QR := q3 (vS S b t e)
theorem ok3_bd {x : T3} (h : ok3 x) : OKq 25 (q3 x) := by
  obtain ⟨h1, h2, h3, h4, h5⟩ := h
  refine ⟨⟨⟨?_, ?_⟩, ?_, bd_0⟩, fun q => ?_⟩
  · unfold bd; dsimp only; omega
  · unfold bd; dsimp only; omega
  · show x.2.2.natAbs < 10 ^ 25; omega
  · have : x.2.2 = 0 := congrArg Prod.fst q
    omega
/-- an act that divides: dv tells which divisor is 0 at a tone, bx what is drafted -/
def spAct (S : SP) (c : Int) (dv : Int → Int) (bx : Int → Int → QR) (z : Int) (S' : SP) : Prop :=
  (∃ t, isT t ∧ (∀ s, 0 ≤ s → s < t → dv s = 0) ∧ dv t ≠ 0 ∧ z = -2 ∧ S' = noS S t (dv t)) ∨
  ((∀ t, isT t → dv t = 0) ∧
    (((∃ t e, isT t ∧ isT e ∧ ¬ fit (low (bx t e))) ∧ z = -5 ∧ S' = S) ∨ ((∀ t e, isT t → isT e → LT (bx t e) (low (bx t e)) ∧ fit (low (bx t e))) ∧ z = 0 ∧ S' = actS S c (fun t e => low (bx t e)))))
theorem spAct.det {S S1 S2 : SP} {c z1 z2 : Int} {dv : Int → Int} {bx : Int → Int → QR} (h : spAct S c dv bx z1 S1) (k : spAct S c dv bx z2 S2) : z1 = z2 ∧ S1 = S2 := by
  rcases h with ⟨t, h1, h2, h3, rfl, rfl⟩ | ⟨h1, h3⟩
  · rcases k with ⟨u, k1, k2, k3, rfl, rfl⟩ | ⟨k1, -⟩
    · have : t = u := by
        by_cases q : t < u
        · exact absurd (k2 t h1.1 q) h3
        · by_cases q2 : u < t
          · exact absurd (h2 u k1.1 q2) k3
          · omega
      subst this
      exact ⟨rfl, rfl⟩
    · exact absurd (k1 t h1) h3
  · rcases k with ⟨u, k1, -, k3, -⟩ | ⟨-, k3⟩
    · exact absurd (h1 u k1) k3
    · rcases h3 with ⟨⟨t, e, a1, a2, a3⟩, rfl, rfl⟩ | ⟨a1, rfl, rfl⟩
      · rcases k3 with ⟨-, rfl, rfl⟩ | ⟨b1, -⟩
        · exact ⟨rfl, rfl⟩
        · exact absurd (b1 t e a1 a2).2 a3
      · rcases k3 with ⟨⟨t, e, b1, b2, b3⟩, -⟩ | ⟨-, rfl, rfl⟩
        · exact absurd (a1 t e b1 b2).2 b3
        · exact ⟨rfl, rfl⟩
theorem low_z : LT (cre 0, cre 1) z3 ∧ low (cre 0, cre 1) = z3 := by
  have h : LT (cre 0, cre 1) z3 := ⟨by decide, by decide, by decide⟩
  exact ⟨h, low_of (by decide) h⟩
theorem spAct.inv {S S' : SP} {c z : Int} {dv : Int → Int} {bx : Int → Int → QR} (h : spAct S c dv bx z S') (hi : invS S) (hc : isB S c) (h1 : ptS S c = 1 → ∀ t e, isT t → isT e → e ≠ 0 → bx t e = (cre 0, cre 1)) : invS S' := by
  rcases h with ⟨t, -, -, -, -, rfl⟩ | ⟨-, ⟨-, -, rfl⟩ | ⟨h3, -, rfl⟩⟩
  · exact hi.no _ _
  · exact hi
  · refine hi.act hc (fun t e ht he => ⟨⟨(h3 t e ht he).1.1, (h3 t e ht he).1.2.1, (h3 t e ht he).2⟩, fun p q => ?_⟩)
    show low (bx t e) = z3
    rw [h1 p t e ht he q]
    exact low_z.2
/-- one number given -/
noncomputable def g3 (p q r : Int) : T3 := low ((p, q), cre r)
