/-! LOWEST.draft. Cells: 3 the draft row, 8 the spare Whole, 15 Lowest, 16 top, 21 bottom, 23 quotient, 25 rest, 27 and 29 greater and less -/
def LWd (sh : Nat → Nat × Nat) (R : Nat → Nat → Option Nat) (N : Nat) : Prop := isL sh R N 15 3 16 21 23 25 ∧ (3 < N ∧ sh 3 = (1, 144)) ∧ isG sh R N 16 8 ∧ isW sh R N 21 ∧ isW sh R N 23 ∧ isW sh R N 25 ∧ isW sh R N 27 ∧ isW sh R N 29 ∧ spG sh R N 8
/-- greater and less -/
def gl2 (F : Nat → Nat → Int) (g l : Nat) : Prop := ((g = 27 ∧ l = 29) ∨ (g = 29 ∧ l = 27)) ∧ F 15 5 = (g : Int) ∧ F 15 6 = (l : Int)
/-- p, q, r in lowest terms are X over Y -/
def LT3 (X Y : CI) (p q r : Int) : Prop := 0 < r ∧ Nat.gcd (Nat.gcd r.natAbs p.natAbs) q.natAbs = 1 ∧ cmul (p, q) Y = (X.1 * r, X.2 * r)
abbrev MX : Int := 1000000000000000000000000
def fit3 (p q r : Int) : Prop := p.natAbs ≤ 1000000000000000000000000 ∧ q.natAbs ≤ 1000000000000000000000000 ∧ r.natAbs ≤ 1000000000000000000000000
/-- three triples of cells hold p, q, r -/
def hold (f : Int → Int) (i p q r : Int) : Prop := (triOK f i ∧ tri f i = p) ∧ (triOK f (i + 3) ∧ tri f (i + 3) = q) ∧ (triOK f (i + 6) ∧ tri f (i + 6) = r)
theorem triOK_of {f f' : Int → Int} {i : Int} (h : ∀ k : Int, 0 ≤ k → k < 3 → f' (i + k) = f (i + k)) (q : triOK f i) : triOK f' i ∧ tri f' i = tri f i := by
  refine ⟨⟨fun k a b => by rw [h k a b]; exact q.1 k a b, q.2.imp (fun r k a b => by rw [h k a b]; exact r k a b) (fun r k a b => by rw [h k a b]; exact r k a b)⟩, ?_⟩
  have a0 := h 0 (by omega) (by omega)
  have a1 := h 1 (by omega) (by omega)
  have a2 := h 2 (by omega) (by omega)
  rw [Int.add_zero] at a0
  unfold tri
  rw [a0, a1, a2]
/-- what draft leaves: V but for Lowest's own Wholes and the spare; the draft row but for the nine cells; big -/
def drF (sh : Nat → Nat × Nat) (R : Nat → Nat → Option Nat) (N : Nat) (F : Nat → Nat → Int) (A : Nat → Int → Int) (V : Nat → Int) (i : Int) (F' : Nat → Nat → Int) (A' : Nat → Int → Int) (V' : Nat → Int) : Prop :=
  ST sh R N F' A' V' ∧ (∀ u, 30 < u ∨ u < 8 → V' u = V u) ∧ (∃ g l, gl2 F' g l) ∧ (∀ o, o ≠ 15 → sh o ≠ (0, 6) → F' o = F o) ∧ (∀ a, a ≠ 3 → sh a ≠ (1, 80) → A' a = A a) ∧ (∀ j, j < i ∨ i + 9 ≤ j → A' 3 j = A 3 j)
def Q_draft (sh : Nat → Nat × Nat) (R : Nat → Nat → Option Nat) (N : Nat) (F : Nat → Nat → Int) (A : Nat → Int → Int) (V : Nat → Int) (X Y : CI) (i : Int) : (Nat → Nat → Int) → (Nat → Int → Int) → Prop := fun F' A' =>
  ∃ V', drF sh R N F A V i F' A' V' ∧ ∃ p q r : Int, LT3 X Y p q r ∧ ((fit3 p q r ∧ F' 15 7 = F 15 7 ∧ hold (A' 3) i p q r) ∨ (¬ fit3 p q r ∧ F' 15 7 = 1))
theorem natAbs_dvd_tdiv {t : Int} {g : Nat} (hg : 0 < g) (h : g ∣ t.natAbs) : ∃ p : Int, t = p * g ∧ p.natAbs = t.natAbs / g := by
  obtain ⟨p, hp⟩ : (g : Int) ∣ t := Int.ofNat_dvd_left.mpr h
  refine ⟨p, by rw [hp, Int.mul_comm], ?_⟩
  rw [hp, Int.natAbs_mul, Int.natAbs_natCast, Nat.mul_div_cancel_left _ hg]
/-- lowest terms by the gcd of all three -/
theorem lt3_of {X Y T : CI} {B : Int} {g : Nat} (hB : 0 < B) (hT : cmul T Y = (X.1 * B, X.2 * B)) (hg : g = Nat.gcd (Nat.gcd B.natAbs T.1.natAbs) T.2.natAbs) : ∃ p q r : Int, LT3 X Y p q r ∧ T.1 = p * g ∧ T.2 = q * g ∧ B = r * g ∧ p.natAbs = T.1.natAbs / g ∧ q.natAbs = T.2.natAbs / g ∧ r.natAbs = B.natAbs / g ∧ 0 < g := by
  have b0 : 0 < B.natAbs := by omega
  have d1 : Nat.gcd B.natAbs T.1.natAbs ∣ B.natAbs := Nat.gcd_dvd_left ..
  have d2 : Nat.gcd B.natAbs T.1.natAbs ∣ T.1.natAbs := Nat.gcd_dvd_right ..
  have g0 : 0 < g := by rw [hg]; exact Nat.gcd_pos_of_pos_left _ (Nat.gcd_pos_of_pos_left _ b0)
  have e0 : g ∣ Nat.gcd B.natAbs T.1.natAbs := by rw [hg]; exact Nat.gcd_dvd_left ..
  have e2 : g ∣ T.2.natAbs := by rw [hg]; exact Nat.gcd_dvd_right ..
  obtain ⟨p, hp, hp2⟩ := natAbs_dvd_tdiv g0 (Nat.dvd_trans e0 d2)
  obtain ⟨q, hq, hq2⟩ := natAbs_dvd_tdiv g0 e2
  obtain ⟨r, hr, hr2⟩ := natAbs_dvd_tdiv g0 (Nat.dvd_trans e0 d1)
  refine ⟨p, q, r, ⟨?_, ?_, ?_⟩, hp, hq, hr, hp2, hq2, hr2, g0⟩
  · have gi : (0 : Int) < g := by omega
    apply Classical.byContradiction
    intro h
    have := Int.mul_le_mul_of_nonneg_right (show r ≤ 0 by omega) (Int.le_of_lt gi)
    omega
  · have h1 : Nat.gcd (Nat.gcd (r.natAbs * g) (p.natAbs * g)) (q.natAbs * g) = g := by
      have a1 : r.natAbs * g = B.natAbs := by rw [hr, Int.natAbs_mul, Int.natAbs_natCast]
      have a2 : p.natAbs * g = T.1.natAbs := by rw [hp, Int.natAbs_mul, Int.natAbs_natCast]
      have a3 : q.natAbs * g = T.2.natAbs := by rw [hq, Int.natAbs_mul, Int.natAbs_natCast]
      rw [a1, a2, a3, ← hg]
    rw [Nat.gcd_mul_right, Nat.gcd_mul_right] at h1
    exact Nat.eq_of_mul_eq_mul_right g0 (by rw [Nat.one_mul]; exact h1)
  · have gi : (g : Int) ≠ 0 := by omega
    unfold cmul at hT ⊢
    have h1 := congrArg Prod.fst hT
    have h2 := congrArg Prod.snd hT
    simp only at h1 h2
    rw [hp, hq, hr] at h1 h2
    refine Prod.ext (Int.eq_of_mul_eq_mul_right gi ?_) (Int.eq_of_mul_eq_mul_right gi ?_)
    · show (p * Y.1 - q * Y.2) * g = X.1 * r * g
      grind
    · show (q * Y.1 + p * Y.2) * g = X.2 * r * g
      grind
theorem small_gcd_big {B : Int} {g d : Nat} {sz : Int} (hB : 1000000000 ^ (sz.toNat - 1) ≤ B) (hsz : 2 ≤ sz - 3) (hgd : g ≤ d) (hd : (d : Int) < 1000000000 ^ (sz - 3 - 1).toNat) (g0 : 0 < g) (hdv : g ∣ B.natAbs) : 1000000000000000000000000 < B.natAbs / g := by
  have e : (1000000000 : Int) ^ (sz.toNat - 1) = 1000000000 ^ (sz - 3 - 1).toNat * 1000000000 ^ 3 := by rw [← Int.pow_add]; congr 1; omega
  have e3 : (1000000000 : Int) ^ 3 = 1000000000000000000000000000 := by decide
  rw [e, e3] at hB
  generalize (1000000000 : Int) ^ (sz - 3 - 1).toNat = P at *
  rw [Nat.lt_div_iff_mul_lt_of_dvd (by omega) hdv]
  omega
/-- V where Lowest's own Wholes have changed -/
def Vl (V : Nat → Int) (F' : Nat → Nat → Int) (A' : Nat → Int → Int) : Nat → Int := fun u => if u = 23 ∨ u = 25 ∨ u = 27 ∨ u = 29 then wv F' A' u else V u
theorem Vl_o {V : Nat → Int} {F' : Nat → Nat → Int} {A' : Nat → Int → Int} {u : Nat} (h : u ≠ 23 ∧ u ≠ 25 ∧ u ≠ 27 ∧ u ≠ 29) : Vl V F' A' u = V u := by unfold Vl; rw [if_neg (by omega)]
theorem Vl_i {V : Nat → Int} {F' : Nat → Nat → Int} {A' : Nat → Int → Int} {u : Nat} (h : u = 23 ∨ u = 25 ∨ u = 27 ∨ u = 29) : Vl V F' A' u = wv F' A' u := by unfold Vl; rw [if_pos h]
theorem ST_l {sh : Nat → Nat × Nat} {R : Nat → Nat → Option Nat} {N : Nat} {F F' : Nat → Nat → Int} {A A' : Nat → Int → Int} {V : Nat → Int} (hS : ST sh R N F A V) (h15 : sh 15 = (0, 3)) (hF : ∀ o, o ≠ 15 → o ≠ 23 → o ≠ 25 → o ≠ 27 → o ≠ 29 → F' o = F o) (hA : ∀ a, a ≠ 24 → a ≠ 26 → a ≠ 28 → a ≠ 30 → sh a ≠ (1, 144) → A' a = A a) (w1 : WOK F' A' 23) (w2 : WOK F' A' 25) (w3 : WOK F' A' 27) (w4 : WOK F' A' 29) : ST sh R N F' A' (Vl V F' A') := by
  intro u hu
  by_cases h : u = 23 ∨ u = 25 ∨ u = 27 ∨ u = 29
  · rw [Vl_i h]
    refine ⟨?_, rfl⟩
    rcases h with rfl | rfl | rfl | rfl <;> assumption
  · rw [Vl_o (by omega)]
    have n15 : u ≠ 15 := fun e => by have := hu.2.1; rw [e, h15] at this; cases this
    have e1 := hF u n15 (by omega) (by omega) (by omega) (by omega)
    have e2 := hA (u + 1) (by omega) (by omega) (by omega) (by omega) (by rw [hu.2.2.1]; decide)
    exact ⟨WOK_of e1 e2 (hS u hu).1, (wv_of e1 e2).trans (hS u hu).2⟩
def Q_sh (sh : Nat → Nat × Nat) (R : Nat → Nat → Option Nat) (N : Nat) (F : Nat → Nat → Int) (A : Nat → Int → Int) (V : Nat → Int) (few : Int) (d : Nat) : Int → (Nat → Nat → Int) → (Nat → Int → Int) → Prop := fun z F' A' =>
  ∃ V' g l, ST sh R N F' A' V' ∧ (∀ u, u ≠ 23 ∧ u ≠ 25 ∧ u ≠ 27 ∧ u ≠ 29 → V' u = V u) ∧ gl2 F' g l ∧ F' 15 7 = F 15 7 ∧ (∀ o, o ≠ 15 → sh o ≠ (0, 6) → F' o = F o) ∧ (∀ a, sh a ≠ (1, 80) → A' a = A a) ∧ ((z = 1 ∧ V' g = (d : Int)) ∨ (z = 0 ∧ 2 ≤ few ∧ (d : Int) < 1000000000 ^ (few - 1).toNat ∧ 0 < d))
theorem s_share (l : Launch) {D : va_G} {ids : Nat → ClassId} {β : Nat} {sh : Nat → Nat × Nat} {N : Nat} {R : Nat → Nat → Option Nat} {F : Nat → Nat → Int} {A : Nat → Int → Int} {V : Nat → Int} (hS : ST sh R N F A V) (hW : LWd sh R N) {g l2 x : Nat} (hgl : gl2 F g l2) (hx : x = 17 ∨ x = 19) {few : Int} {a0 x0 : Nat} (ha : V g = (a0 : Int)) (hx0 : (V x).natAbs = x0) (bg : bd 711 (V g)) (bx : bd 711 (V x)) (hfew : I32 few) : MetX l yX3_share cX3_share 4 (some .boolean) 4 114 D ids β sh N R F A [rf 15, rf x, pI few] (pIr (Q_sh sh R N F A V few (a0.gcd x0))) := by
  obtain ⟨hL, -, h16, h21, h23, h25, h27, h29, -⟩ := hW
  have wx : isW sh R N x := by
    rcases hx with rfl | rfl
    · exact h16.2.2.2.2.2.1
    · exact h16.2.2.2.2.2.2.1
  obtain ⟨hor, f5, f6⟩ := hgl
  have hwg : isW sh R N g ∧ isW sh R N l2 ∧ g ≠ l2 ∧ g ≠ 23 ∧ g ≠ 25 ∧ l2 ≠ 23 ∧ l2 ≠ 25 ∧ x ≠ g ∧ x ≠ l2 := by
    rcases hor with ⟨rfl, rfl⟩ | ⟨rfl, rfl⟩
    · exact ⟨h27, h29, by omega⟩
    · exact ⟨h29, h27, by omega⟩
  obtain ⟨wg, wl, n1, n2, n3, n4, n5, n6, n7⟩ := hwg
  refine (m_share l hL wg wl h23 h25 wx n1 n2 n3 n4 n5 (by decide) n6 n7 f5 f6 (hS _ wg).1 (hS _ wl).1 (hS _ h23).1 (hS _ h25).1 (hS _ wx).1 ((hS _ wg).2.trans ha) (by rw [wm_of_wv (hS _ wx).1 (hS _ wx).2, hx0]) ⟨bd_size (n := 711) (hS _ wg).1 (by rw [(hS _ wg).2]; exact bg) (by decide), bd_size (n := 711) (hS _ wx).1 (by rw [(hS _ wx).2]; exact bx) (by decide)⟩ hfew).mono ?_
  rintro r F' A' ⟨z, rfl, g', l', ⟨f0, f5', f6', f7, f8, f9, fg, fl, fq, fr⟩, hz⟩
  have hgl' : (g' = 27 ∧ l' = 29) ∨ (g' = 29 ∧ l' = 27) := by omega
  have w27 : WOK F' A' 27 ∧ WOK F' A' 29 := by
    rcases hgl' with ⟨e1, e2⟩ | ⟨e1, e2⟩ <;> rw [e1] at fg <;> rw [e2] at fl
    · exact ⟨fg, fl⟩
    · exact ⟨fl, fg⟩
  have gin : g' = 23 ∨ g' = 25 ∨ g' = 27 ∨ g' = 29 := by omega
  refine ⟨z, rfl, Vl V F' A', g', l', ST_l hS hL.2.1 (fun o o1 o2 o3 o4 o5 => f7 o o1 (by omega) (by omega) o2 o3) (fun a a1 a2 a3 a4 _ => f9 a (by omega) (by omega) a1 a2) fq fr w27.1 w27.2, fun u hu => Vl_o hu, ⟨hgl', f5', f6'⟩, f8 7 (by decide) (by decide), fun o o1 o2 => ?_, fun a ha => ?_, ?_⟩
  · have k : ∀ w, isW sh R N w → o ≠ w := fun w hw e => o2 (by rw [e]; exact hw.2.1)
    exact f7 o o1 (k _ wg) (k _ wl) (k _ h23) (k _ h25)
  · have k : ∀ w, isW sh R N w → a ≠ w + 1 := fun w hw e => ha (by rw [e]; exact hw.2.2.1)
    exact f9 a (k _ wg) (k _ wl) (k _ h23) (k _ h25)
  · rw [Vl_i gin]; exact hz
def Q_pt (sh : Nat → Nat × Nat) (R : Nat → Nat → Option Nat) (N : Nat) (F : Nat → Nat → Int) (A : Nat → Int → Int) (V : Nat → Int) (i x d : Int) : Int → (Nat → Nat → Int) → (Nat → Int → Int) → Prop := fun z F' A' =>
  ∃ V', ST sh R N F' A' V' ∧ (∀ u, u ≠ 23 ∧ u ≠ 25 → V' u = V u) ∧ (∀ o, sh o ≠ (0, 6) → F' o = F o) ∧ (∀ a, a ≠ 3 → sh a ≠ (1, 80) → A' a = A a) ∧ (∀ j, j < i ∨ i + 3 ≤ j → A' 3 j = A 3 j) ∧
    ((z = 1 ∧ (x.natAbs : Int) / d ≤ 1000000000000000000000000 ∧ triOK (A' 3) i ∧ tri (A' 3) i = x.sign * ((x.natAbs : Int) / d)) ∨ (z = 0 ∧ 1000000000000000000000000 < (x.natAbs : Int) / d))
theorem s_part (l : Launch) {D : va_G} {ids : Nat → ClassId} {β : Nat} {sh : Nat → Nat × Nat} {N : Nat} {R : Nat → Nat → Option Nat} {F : Nat → Nat → Int} {A : Nat → Int → Int} {V : Nat → Int} (hS : ST sh R N F A V) (hW : LWd sh R N) {g l2 x : Nat} (hgl : gl2 F g l2) (hx : x = 17 ∨ x = 19 ∨ x = 21) {i d : Int} (ha : V g = d) (d0 : 0 < d) (bx : bd 711 (V x)) (hi : 0 ≤ i ∧ i + 3 ≤ 144) : MetX l yX3_writePart cX3_writePart 5 (some .boolean) 4 114 D ids β sh N R F A [rf 15, rf x, pI i] (pIr (Q_pt sh R N F A V i (V x) d)) := by
  obtain ⟨hL, h3, h16, h21, h23, h25, h27, h29, -⟩ := hW
  have wx : isW sh R N x := by
    rcases hx with rfl | rfl | rfl
    · exact h16.2.2.2.2.2.1
    · exact h16.2.2.2.2.2.2.1
    · exact h21
  obtain ⟨hor, f5, f6⟩ := hgl
  have hwg : isW sh R N g ∧ isW sh R N l2 ∧ g ≠ 23 ∧ g ≠ 25 ∧ x ≠ g ∧ x ≠ 23 ∧ x ≠ 25 := by
    rcases hor with ⟨rfl, rfl⟩ | ⟨rfl, rfl⟩
    · exact ⟨h27, h29, by omega⟩
    · exact ⟨h29, h27, by omega⟩
  obtain ⟨wg, wl, n1, n2, n3, n4, n5⟩ := hwg
  refine (m_writePart l hL h3.1 h3.2 wg h23 h25 wx n1 n2 (by decide) n3 n4 n5 f5 (hS _ wg).1 (hS _ h23).1 (hS _ h25).1 (hS _ wx).1 ((hS _ wg).2.trans ha) d0 (bd_size (n := 711) (hS _ wx).1 (by rw [(hS _ wx).2]; exact bx) (by decide)) hi).mono ?_
  rintro r F' A' ⟨z, rfl, q1, q2, q3, q4, q5, q6, q7, q8⟩
  have sx : F x 0 = (V x).sign := by
    have := wv_pos_iff (hS _ wx).1
    rw [(hS _ wx).2] at this
    rcases this with ⟨u, v⟩ | ⟨u, v⟩ | ⟨u, v⟩
    · rw [u, Int.sign_eq_one_of_pos v]
    · rw [u, v]; rfl
    · rw [u, Int.sign_eq_neg_one_of_neg v]
  rw [wm_of_wv (hS _ wx).1 (hS _ wx).2, sx] at q8
  have k : ∀ w, isW sh R N w → ∀ o, sh o ≠ (0, 6) → o ≠ w := fun w hw o ho e => ho (by rw [e]; exact hw.2.1)
  have k2 : ∀ w, isW sh R N w → ∀ a, sh a ≠ (1, 80) → a ≠ w + 1 := fun w hw a ho e => ho (by rw [e]; exact hw.2.2.1)
  refine ⟨z, rfl, fun u => if u = 23 ∨ u = 25 then wv F' A' u else V u, fun u hu => ?_, fun u hu => if_neg (by omega), fun o ho => q1 o (k _ wg o ho) (k _ h23 o ho) (k _ h25 o ho), fun a a1 a2 => q2 a (k2 _ wg a a2) (k2 _ h23 a a2) (k2 _ h25 a a2) a1, q3, q8⟩
  by_cases h : u = 23 ∨ u = 25
  · show WOK F' A' u ∧ _ = (if u = 23 ∨ u = 25 then wv F' A' u else V u)
    rw [if_pos h]
    refine ⟨?_, rfl⟩
    rcases h with rfl | rfl <;> assumption
  · show WOK F' A' u ∧ _ = (if u = 23 ∨ u = 25 then wv F' A' u else V u)
    rw [if_neg h]
    by_cases hug : u = g
    · rw [hug]; exact ⟨q4, q7.trans (hS _ wg).2⟩
    · have e1 := q1 u hug (by omega) (by omega)
      have e3 : u + 1 ≠ 3 := fun e => by have := hu.2.2.1; rw [e, h3.2] at this; cases this
      have e2 := q2 (u + 1) (by omega) (by omega) (by omega) e3
      exact ⟨WOK_of e1 e2 (hS u hu).1, (wv_of e1 e2).trans (hS u hu).2⟩
