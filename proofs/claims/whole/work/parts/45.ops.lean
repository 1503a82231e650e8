/-! THE OPERATIONS on the state -/
noncomputable def itC (p : Prop) (a b : Int) : Int := @ite Int p (Classical.propDecidable p) a b
theorem itC_pos {p : Prop} {a b : Int} (h : p) : itC p a b = a := by unfold itC; rw [if_pos h]
theorem itC_neg {p : Prop} {a b : Int} (h : ¬ p) : itC p a b = b := by unfold itC; rw [if_neg h]
noncomputable def itO (p : Prop) (a b : Int × SP) : Int × SP := @ite (Int × SP) p (Classical.propDecidable p) a b
theorem itO_pos {p : Prop} {a b : Int × SP} (h : p) : itO p a b = a := by unfold itO; rw [if_pos h]
theorem itO_neg {p : Prop} {a b : Int × SP} (h : ¬ p) : itO p a b = b := by unfold itO; rw [if_neg h]
noncomputable def addS (S : SP) (p : Int) : SP := (nbS S + 1, upZ (ptS S) (nbS S) p, upZ (vS S) (nbS S) (fun _ _ => z3), hS S, wtS S, wdS S)
noncomputable def oBox (S : SP) (p : Int) : Int × SP := itO (p = 1 ∨ p = 2) (itO (nbS S = 16) (-3, S) (nbS S, addS S p)) (-1, S)
noncomputable def oSet (S : SP) (b t i j p q r : Int) : Int × SP := itO (isT t ∧ isE S b i j ∧ given p q r) (0, actS S b (fun t' e => if t' = t ∧ e = 2 * i + j then g3 p q r else vS S b t' e)) (-1, S)
noncomputable def oAll (S : SP) (b i j p q r : Int) : Int × SP := itO (isE S b i j ∧ given p q r) (0, actS S b (fun t' e => if e = 2 * i + j then g3 p q r else vS S b t' e)) (-1, S)
noncomputable def oCopy (S : SP) (c a : Int) : Int × SP := itO (isB S c ∧ isB S a ∧ ptS S c = ptS S a) (0, actS S c (vS S a)) (-1, S)
noncomputable def oTurn (S : SP) (c a : Int) : Int × SP := itO (hasB S c 2 ∧ hasB S a 2) (0, actS S c (fun t e => vS S a t (3 - e))) (-1, S)
noncomputable def stepW (n d e : Int) : T3 := if e = 0 then g3 (n - d) 0 (n + d) else if e = 1 then g3 (2 * d) 0 (n + d) else if e = 2 then g3 (2 * n) 0 (n + d) else g3 (d - n) 0 (n + d)
noncomputable def oStep (S : SP) (c n d : Int) : Int × SP := itO (hasB S c 2 ∧ (1 ≤ n ∧ n ≤ 10000) ∧ (1 ≤ d ∧ d ≤ 10000)) (0, actS S c (fun _ e => stepW n d e)) (-1, S)
noncomputable def oUndo (S : SP) : Int × SP := match hS S with
  | [] => (-2, S)
  | q :: t => (1, (nbS S, ptS S, upZ (vS S) q.1 q.2, t, wtS S, wdS S))
noncomputable def oWhere (S : SP) (w : Int) : Int := if w = 0 then wtS S else if w = 1 then wdS S else -1
def prt (x : T3) (w : Int) : Int := if w = 0 then x.1.tdiv 1000000000000 else if w = 1 then x.1.tmod 1000000000000 else if w = 2 then x.2.1.tdiv 1000000000000 else if w = 3 then x.2.1.tmod 1000000000000 else if w = 4 then x.2.2.tdiv 1000000000000 else x.2.2.tmod 1000000000000
noncomputable def oPart (S : SP) (b t i j w : Int) : Int := itC (isT t ∧ isE S b i j ∧ 0 ≤ w ∧ w ≤ 5) (prt (vS S b t (2 * i + j)) w) (-1000000000000000)
abbrev nmN (S : SP) (b t : Int) (k : Nat) : QR := nm S b t (k : Int)
def lk1 (S : SP) (b t : Int) : Int := lackI (nmN S b t 0) (nmN S b t 2)
def lk2 (S : SP) (b t : Int) : Int := if ptS S b = 2 then lackI (nmN S b t 1) (nmN S b t 3) else 0
def crS (S : SP) (b t : Int) : Int := if ptS S b = 2 then nrm (crsC (nmN S b t)) else 0
def pasP (S : SP) (b t w : Int) : Prop := (w = 1 ∧ (ptS S b = 1 ∨ vS S b t 1 = vS S b t 2)) ∨ (w = 2 ∧ 0 ≤ lk1 S b t ∧ 0 ≤ lk2 S b t ∧ crS S b t ≤ lk1 S b t * lk2 S b t) ∨ (w = 3 ∧ lk1 S b t = 0 ∧ lk2 S b t = 0 ∧ crS S b t = 0)
noncomputable def pasI (S : SP) (b t w : Int) : Int := itC (pasP S b t w) 1 0
noncomputable def oIs (S : SP) (b t w : Int) : Int := itC (isB S b ∧ isT t ∧ 1 ≤ w ∧ w ≤ 3) (pasI S b t w) (-1)
noncomputable def oAbout (S : SP) (b w : Int) : Int := itC (isB S b ∧ 0 ≤ w ∧ w ≤ 3) (itC (w = 0) (ptS S b) (pasI S b 0 w + pasI S b 1 w + pasI S b 2 w + pasI S b 3 w)) (-1)
def cmpS (x y : QR) : Int := sgc (nrm x.1 * (y.2.1 * y.2.1)) (nrm y.1 * (x.2.1 * x.2.1))
noncomputable def oAgainst (S : SP) (t a i j b k l : Int) : Int := itC (isT t ∧ isE S a i j ∧ isE S b k l) (cmpS (nm S a t (2 * i + j)) (nm S b t (2 * k + l))) (-9)
/-- the tone of the greatest among the first n + 1 -/
def wst (x : Int → QR) : Nat → Int
  | 0 => 0
  | n + 1 => if 0 < cmpS (x ((n : Int) + 1)) (x (wst x n)) then (n : Int) + 1 else wst x n
theorem wst_in (x : Int → QR) : ∀ n : Nat, 0 ≤ wst x n ∧ wst x n ≤ n
  | 0 => ⟨Int.le_refl _, Int.le_refl _⟩
  | n + 1 => by
    have := wst_in x n
    unfold wst
    split <;> omega
noncomputable def oWorst (S : SP) (b i j : Int) : Int := itC (isE S b i j) (wst (fun t => nm S b t (2 * i + j)) 3) (-1)
def samB (S : SP) (a b : Int) : Prop := ptS S a = ptS S b ∧ ∀ t e, isT t → isT e → vS S a t e = vS S b t e
noncomputable def oSame (S : SP) (a b : Int) : Int := itC (isB S a ∧ isB S b) (itC (samB S a b) 1 0) (-1)
noncomputable def oCount (S : SP) (w : Int) : Int := if w = 0 then nbS S else if w = 1 then ((hS S).length : Int) else -1
/-! the acts that divide -/
def actR (ok : Prop) (S : SP) (c : Int) (dv : Int → Int) (bx : Int → Int → QR) (z : Int) (S' : SP) : Prop := (¬ ok ∧ z = -1 ∧ S' = S) ∨ (ok ∧ spAct S c dv bx z S')
theorem actR.det {ok : Prop} {S S1 S2 : SP} {c z1 z2 : Int} {dv : Int → Int} {bx : Int → Int → QR} (h : actR ok S c dv bx z1 S1) (k : actR ok S c dv bx z2 S2) : z1 = z2 ∧ S1 = S2 := by
  rcases h with ⟨h, rfl, rfl⟩ | ⟨h, h2⟩
  · rcases k with ⟨-, rfl, rfl⟩ | ⟨k, -⟩
    · exact ⟨rfl, rfl⟩
    · exact absurd k h
  · rcases k with ⟨k, -⟩ | ⟨-, k2⟩
    · exact absurd h k
    · exact h2.det k2
abbrev zq : QR := (cre 0, cre 1)
def joinX (a b : Nat → QR) (e : Int) : QR := if e = 0 then rsum 1 (a 0) (rdiv (rmul (rmul (a 1) (a 2)) (b 0)) (joinE a b)) else if e = 1 then rdiv (rmul (a 1) (b 1)) (joinE a b) else if e = 2 then rdiv (rmul (a 2) (b 2)) (joinE a b) else rsum 1 (b 3) (rdiv (rmul (rmul (b 1) (b 2)) (a 3)) (joinE a b))
noncomputable def rJoin (S : SP) (c a b : Int) : Int → SP → Prop := actR (hasB S c 2 ∧ hasB S a 2 ∧ hasB S b 2) S c (fun t => itC ((joinE (nmN S a t) (nmN S b t)).1 = (0, 0)) 1 0) (fun t e => joinX (nmN S a t) (nmN S b t) e)
/-- a box as it is, or turned about -/
def nmT (S : SP) (b t s : Int) (k : Nat) : QR := nm S b t (if s = 0 then (k : Int) else 3 - k)
def takeX (a b : Nat → QR) (e : Int) : QR := if e = 0 then rdiv (takeG a b) (takeF a b) else if e = 1 then rdiv (rmul (b 1) (a 2)) (takeF a b) else if e = 2 then rdiv (rmul (b 2) (a 1)) (takeF a b) else rsum (-1) (b 3) (rdiv (rmul (rmul (b 1) (b 2)) (a 3)) (takeF a b))
noncomputable def takeD (a b : Nat → QR) : Int := itC ((a 1).1 = (0, 0)) 1 (itC ((a 2).1 = (0, 0)) 2 (itC ((takeF a b).1 = (0, 0)) 3 0))
noncomputable def rTake (S : SP) (c w a s : Int) : Int → SP → Prop := actR ((hasB S c 2 ∧ hasB S w 2 ∧ hasB S a 2) ∧ (s = 0 ∨ s = 1)) S c (fun t => takeD (nmT S a t s) (nmT S w t s)) (fun t e => takeX (nmT S a t s) (nmT S w t s) (if s = 0 then e else 3 - e))
def closeE (a : Nat → QR) (k : QR) : QR := rsum (-1) oneq (rmul (a 3) k)
def closeX (a : Nat → QR) (k : QR) (e : Int) : QR := if e = 0 then rsum 1 (a 0) (rdiv (rmul (rmul (a 1) (a 2)) k) (closeE a k)) else zq
noncomputable def rClose (S : SP) (c a k : Int) : Int → SP → Prop := actR (hasB S c 1 ∧ hasB S a 2 ∧ hasB S k 1) S c (fun t => itC ((closeE (nmN S a t) (nm S k t 0)).1 = (0, 0)) 1 0) (fun t e => closeX (nmN S a t) (nm S k t 0) e)
def undoX (a : Nat → QR) (k : QR) (e : Int) : QR := if e = 0 then rdiv (rsum (-1) k (a 0)) (undoF a k) else zq
noncomputable def rCorrect (S : SP) (c e m : Int) : Int → SP → Prop := actR (hasB S c 1 ∧ hasB S e 2 ∧ hasB S m 1) S c (fun t => itC ((undoF (nmN S e t) (nm S m t 0)).1 = (0, 0)) 1 0) (fun t x => undoX (nmN S e t) (nm S m t 0) x)
def lrnQ (K M : Nat → QR) (j : Nat) : CI := if j % 4 = 0 then cmul (K (j / 4)).2 (M (j / 4)).2 else if j % 4 = 1 then cmul (K (j / 4)).1 (M (j / 4)).2 else if j % 4 = 2 then cmul (K (j / 4)).1 (M (j / 4)).1 else cmul (M (j / 4)).1 (K (j / 4)).2
def lrnS (S : SP) (k m t : Int) : Nat → CI := lrnQ (fun i => nm S (k + (i : Int)) t 0) (fun i => nm S (m + (i : Int)) t 0)
def learnX (r : Nat → CI) (e : Int) : QR := if e = 0 then (det3 r 3 1 2, det3 r 0 1 2) else if e = 1 then (cre 1, cre 1) else if e = 2 then (csgn 1 (cmul (det3 r 0 3 2) (det3 r 0 1 2)) (cmul (det3 r 3 1 2) (det3 r 0 1 3)), cmul (det3 r 0 1 2) (det3 r 0 1 2)) else (det3 r 0 1 3, det3 r 0 1 2)
abbrev has3 (S : SP) (k : Int) : Prop := hasB S k 1 ∧ hasB S (k + 1) 1 ∧ hasB S (k + 2) 1
noncomputable def rLearn (S : SP) (c k m : Int) : Int → SP → Prop := actR (hasB S c 2 ∧ has3 S k ∧ has3 S m) S c (fun t => itC (det3 (lrnS S k m t) 0 1 2 = (0, 0)) 1 0) (fun t e => learnX (lrnS S k m t) e)
def timeQ (x : Int → QR) (n : Int) (k : Nat) : QR := (rot (x (k : Int)).1 ((k : Int) * n % 4).toNat, (x (k : Int)).2)
def timeX (x : Int → QR) (n e : Int) : QR := if e = 0 then rmul (rsum 1 (rsum 1 (timeQ x n 0) (timeQ x n 1)) (rsum 1 (timeQ x n 2) (timeQ x n 3))) quartq else zq
noncomputable def rTime (S : SP) (c a i j : Int) : Int → SP → Prop := actR (hasB S c 1 ∧ isE S a i j) S c (fun _ => 0) (fun n e => timeX (fun t => nm S a t (2 * i + j)) n e)
/-! what the formulas keep: no under is 0 -/
theorem un_mul {x y : QR} (hx : x.2 ≠ (0, 0)) (hy : y.2 ≠ (0, 0)) : (rmul x y).2 ≠ (0, 0) := cmul_ne hx hy
theorem un_sum {s : Int} {x y : QR} (hx : x.2 ≠ (0, 0)) (hy : y.2 ≠ (0, 0)) : (rsum s x y).2 ≠ (0, 0) := cmul_ne hx hy
theorem un_div {x y : QR} (hx : x.2 ≠ (0, 0)) (hy : y.1 ≠ (0, 0)) : (rdiv x y).2 ≠ (0, 0) := cmul_ne hx hy
theorem joinX_un {a b : Nat → QR} (ha : ∀ k < 4, (a k).2 ≠ (0, 0)) (hb : ∀ k < 4, (b k).2 ≠ (0, 0)) (he : (joinE a b).1 ≠ (0, 0)) (e : Int) : (joinX a b e).2 ≠ (0, 0) := by
  have a0 := ha 0 (by decide)
  have a1 := ha 1 (by decide)
  have a2 := ha 2 (by decide)
  have a3 := ha 3 (by decide)
  have b0 := hb 0 (by decide)
  have b1 := hb 1 (by decide)
  have b2 := hb 2 (by decide)
  have b3 := hb 3 (by decide)
  unfold joinX
  split
  · exact un_sum a0 (un_div (un_mul (un_mul a1 a2) b0) he)
  · split
    · exact un_div (un_mul a1 b1) he
    · split
      · exact un_div (un_mul a2 b2) he
      · exact un_sum b3 (un_div (un_mul (un_mul b1 b2) a3) he)
theorem takeX_un {a b : Nat → QR} (ha : ∀ k < 4, (a k).2 ≠ (0, 0)) (hb : ∀ k < 4, (b k).2 ≠ (0, 0)) (he : (takeF a b).1 ≠ (0, 0)) (e : Int) : (takeX a b e).2 ≠ (0, 0) := by
  have a0 := ha 0 (by decide)
  have a1 := ha 1 (by decide)
  have a2 := ha 2 (by decide)
  have a3 := ha 3 (by decide)
  have b0 := hb 0 (by decide)
  have b1 := hb 1 (by decide)
  have b2 := hb 2 (by decide)
  have b3 := hb 3 (by decide)
  unfold takeX
  split
  · exact un_div (un_sum b0 a0) he
  · split
    · exact un_div (un_mul b1 a2) he
    · split
      · exact un_div (un_mul b2 a1) he
      · exact un_sum b3 (un_div (un_mul (un_mul b1 b2) a3) he)
theorem closeX_un {a : Nat → QR} {k : QR} (ha : ∀ k < 4, (a k).2 ≠ (0, 0)) (hk : k.2 ≠ (0, 0)) (he : (closeE a k).1 ≠ (0, 0)) (e : Int) : (closeX a k e).2 ≠ (0, 0) := by
  unfold closeX
  split
  · exact un_sum (ha 0 (by decide)) (un_div (un_mul (un_mul (ha 1 (by decide)) (ha 2 (by decide))) hk) he)
  · exact (by decide : cre 1 ≠ (0, 0))
theorem undoX_un {a : Nat → QR} {k : QR} (ha : ∀ k < 4, (a k).2 ≠ (0, 0)) (hk : k.2 ≠ (0, 0)) (he : (undoF a k).1 ≠ (0, 0)) (e : Int) : (undoX a k e).2 ≠ (0, 0) := by
  unfold undoX
  split
  · exact un_div (un_sum hk (ha 0 (by decide))) he
  · exact (by decide : cre 1 ≠ (0, 0))
theorem learnX_un {r : Nat → CI} (he : det3 r 0 1 2 ≠ (0, 0)) (e : Int) : (learnX r e).2 ≠ (0, 0) := by
  unfold learnX
  split
  · exact he
  · split
    · exact (by decide : cre 1 ≠ (0, 0))
    · split
      · exact cmul_ne he he
      · exact he
theorem timeX_un {x : Int → QR} (hx : ∀ k : Nat, k < 4 → (x (k : Int)).2 ≠ (0, 0)) (n e : Int) : (timeX x n e).2 ≠ (0, 0) := by
  unfold timeX
  split
  · exact un_mul (un_sum (un_sum (hx 0 (by decide)) (hx 1 (by decide))) (un_sum (hx 2 (by decide)) (hx 3 (by decide)))) (by decide : cre 4 ≠ (0, 0))
  · exact (by decide : cre 1 ≠ (0, 0))
theorem g3_lt {p q r : Int} {g : Nat} (hr : 0 < r) (hg : g = Nat.gcd (Nat.gcd r.natAbs p.natAbs) q.natAbs) : g3 p q r = (p.tdiv g, q.tdiv g, r.tdiv g) ∧ LT ((p, q), cre r) (p.tdiv g, q.tdiv g, r.tdiv g) := by
  have g0 : 0 < g := by
    rw [hg]
    exact Nat.pos_of_ne_zero (fun h => by have := Nat.eq_zero_of_gcd_eq_zero_left h; have := Nat.eq_zero_of_gcd_eq_zero_left this; omega)
  have dr : g ∣ r.natAbs := by rw [hg]; exact Nat.dvd_trans (Nat.gcd_dvd_left _ _) (Nat.gcd_dvd_left _ _)
  have dp : g ∣ p.natAbs := by rw [hg]; exact Nat.dvd_trans (Nat.gcd_dvd_left _ _) (Nat.gcd_dvd_right _ _)
  have dq : g ∣ q.natAbs := by rw [hg]; exact Nat.gcd_dvd_right _ _
  have key : ∀ x : Int, g ∣ x.natAbs → x = x.tdiv g * g ∧ (x.tdiv g).natAbs = x.natAbs / g := fun x hx => by
    obtain ⟨y, rfl⟩ : (g : Int) ∣ x := Int.ofNat_dvd_left.mpr hx
    have e : ((g : Int) * y).tdiv g = y := by rw [Int.mul_tdiv_cancel_left]; omega
    rw [e, Int.natAbs_mul, Int.natAbs_natCast, Nat.mul_div_cancel_left _ g0]
    exact ⟨Int.mul_comm _ _, rfl⟩
  obtain ⟨r1, r2⟩ := key r dr
  obtain ⟨p1, p2⟩ := key p dp
  obtain ⟨q1, q2⟩ := key q dq
  have h : LT ((p, q), cre r) (p.tdiv g, q.tdiv g, r.tdiv g) := by
    refine ⟨?_, ?_, ?_⟩
    · show 0 < r.tdiv g
      by_cases h : 0 < r.tdiv g
      · exact h
      · exfalso
        have : r.tdiv g * g ≤ 0 := Int.mul_nonpos_of_nonpos_of_nonneg (by omega) (by omega)
        omega
    · show Nat.gcd (Nat.gcd (r.tdiv g).natAbs (p.tdiv g).natAbs) (q.tdiv g).natAbs = 1
      rw [r2, p2, q2, Nat.gcd_div dr dp, Nat.gcd_div (Nat.dvd_gcd dr dp) dq, ← hg]
      exact Nat.div_self g0
    · show cmul (p.tdiv g, q.tdiv g) (cre r) = (p * r.tdiv g, q * r.tdiv g)
      rw [cmul_re]
      refine Prod.ext ?_ ?_
      · show p.tdiv g * r = p * r.tdiv g
        calc p.tdiv g * r = p.tdiv g * (r.tdiv g * g) := by rw [← r1]
          _ = (p.tdiv g * g) * r.tdiv g := by rw [Int.mul_comm (r.tdiv g), ← Int.mul_assoc]
          _ = p * r.tdiv g := by rw [← p1]
      · show q.tdiv g * r = q * r.tdiv g
        calc q.tdiv g * r = q.tdiv g * (r.tdiv g * g) := by rw [← r1]
          _ = (q.tdiv g * g) * r.tdiv g := by rw [Int.mul_comm (r.tdiv g), ← Int.mul_assoc]
          _ = q * r.tdiv g := by rw [← q1]
  refine ⟨low_of (fun q => ?_) h, h⟩
  have : r = 0 := congrArg Prod.fst q
  omega
theorem tdiv_le {x : Int} {g : Nat} : (x.tdiv g).natAbs ≤ x.natAbs := by
  rw [Int.natAbs_tdiv]
  exact Nat.div_le_self _ _
theorem g3_ok {p q r : Int} (hr : 1 ≤ r ∧ r ≤ 999999999) (hp : -999999999 ≤ p ∧ p ≤ 999999999) (hq : -999999999 ≤ q ∧ q ≤ 999999999) : ok3 (g3 p q r) := by
  obtain ⟨h1, h2, h3, -⟩ := g3_lt (p := p) (q := q) (r := r) (by omega) rfl
  rw [h1]
  refine ⟨h2, h3, ?_, ?_, ?_⟩
  · have := @tdiv_le p (Nat.gcd (Nat.gcd r.natAbs p.natAbs) q.natAbs); dsimp only; omega
  · have := @tdiv_le q (Nat.gcd (Nat.gcd r.natAbs p.natAbs) q.natAbs); dsimp only; omega
  · have := @tdiv_le r (Nat.gcd (Nat.gcd r.natAbs p.natAbs) q.natAbs); dsimp only; omega
