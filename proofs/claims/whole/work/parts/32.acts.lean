/-! The Acts at cell 7. Its Ratios are the registers of RatL: G tells over and under of each -/
abbrev QR := CI × CI
def rg (V : Nat → Int) (r : Nat) : QR := (cx V (r + 1), cx V (r + 6))
def rmul (x y : QR) : QR := (cmul x.1 y.1, cmul x.2 y.2)
def rdiv (x y : QR) : QR := (cmul x.1 y.2, cmul x.2 y.1)
def rsum (s : Int) (x y : QR) : QR := (csgn s (cmul x.1 y.2) (cmul y.1 x.2), cmul x.2 y.2)
def bdq (n : Nat) (x : QR) : Prop := bdc n x.1 ∧ bdc n x.2
theorem bdq_mul {a b c : Nat} {x y : QR} (hx : bdq a x) (hy : bdq b y) (hc : a + b + 1 ≤ c) : bdq c (rmul x y) := ⟨bdc_mul hx.1 hy.1 hc, bdc_mul hx.2 hy.2 hc⟩
theorem bdq_div {a b c : Nat} {x y : QR} (hx : bdq a x) (hy : bdq b y) (hc : a + b + 1 ≤ c) : bdq c (rdiv x y) := ⟨bdc_mul hx.1 hy.2 hc, bdc_mul hx.2 hy.1 hc⟩
theorem bdq_sum {a b c : Nat} {s : Int} {x y : QR} (hs : s = 1 ∨ s = -1) (hx : bdq a x) (hy : bdq b y) (hc : a + b + 2 ≤ c) : bdq c (rsum s x y) := ⟨bdc_sgn hs (bdc_mul hx.1 hy.2 (Nat.le_refl _)) (bdc_mul hy.1 hx.2 (Nat.le_refl _)) (by omega) (by omega), bdc_mono (bdc_mul hx.2 hy.2 (Nat.le_refl _)) (by omega)⟩
def RatL : List Nat := [32, 43, 54, 65, 77, 88, 99, 110, 121, 132, 143, 154, 165, 176, 187]
def RV (V : Nat → Int) (G : Nat → QR) : Prop := ∀ r ∈ RatL, rg V r = G r
def upG (G : Nat → QR) (r : Nat) (v : QR) : Nat → QR := fun x => if x = r then v else G x
theorem upG_eq {G : Nat → QR} {r : Nat} {v : QR} : upG G r v r = v := by simp [upG]
theorem upG_ne {G : Nat → QR} {r x : Nat} {v : QR} (h : x ≠ r) : upG G r v x = G x := by simp [upG, h]
def AcL (sh : Nat → Nat × Nat) (R : Nat → Nat → Option Nat) (N : Nat) : Prop := ShL sh R N ∧ LWd sh R N ∧ (7 < N ∧ sh 7 = (0, 0)) ∧ (R 7 0 = some 1 ∧ R 7 1 = some 15 ∧ R 7 2 = some 31 ∧ R 7 3 = some 76 ∧ R 7 4 = some 121 ∧ R 7 5 = some 132 ∧ R 7 6 = some 143 ∧ R 7 7 = some 154 ∧ R 7 8 = some 165 ∧ R 7 9 = some 176 ∧ R 7 10 = some 187) ∧ (R 7 11 = some 198 ∧ R 7 12 = some 259 ∧ R 7 13 = some 280 ∧ R 7 14 = some 285 ∧ R 7 15 = some 290) ∧ ((31 < N ∧ sh 31 = (3, 4)) ∧ (76 < N ∧ sh 76 = (3, 4)) ∧ (∀ k < 4, R 31 k = some (32 + 11 * k)) ∧ (∀ k < 4, R 76 k = some (77 + 11 * k))) ∧ (∀ r ∈ RatL, isRt sh R N r 10 8) ∧ sgR sh R N 10
theorem rat_sep : ∀ r ∈ RatL, ∀ x ∈ RatL, x ≠ r → ∀ y ∈ [x + 2, x + 4, x + 7, x + 9], y ≠ r + 2 ∧ y ≠ r + 4 ∧ y ≠ r + 7 ∧ y ≠ r + 9 ∧ y ≠ 8 ∧ y ≠ 11 ∧ y ≠ 13 := by decide
theorem rat_hi : ∀ r ∈ RatL, 30 < r ∧ r + 9 < 198 := by decide
/-- a step on the registers -/
def AQ (sh : Nat → Nat × Nat) (R : Nat → Nat → Option Nat) (N : Nat) (F : Nat → Nat → Int) (A : Nat → Int → Int) (V : Nat → Int) (G : Nat → QR) : (Nat → Nat → Int) → (Nat → Int → Int) → Prop := fun F' A' =>
  ∃ V', SQ sh R N F A V' F' A' ∧ RV V' G ∧ ∀ u, 197 < u → V' u = V u
theorem RQ.toA {sh : Nat → Nat × Nat} {R : Nat → Nat → Option Nat} {N : Nat} {F : Nat → Nat → Int} {A : Nat → Int → Int} {V : Nat → Int} {G : Nat → QR} {r : Nat} {ov un : CI} {F' : Nat → Nat → Int} {A' : Nat → Int → Int} (h : RQ sh R N F A V r 10 8 ov un F' A') (hG : RV V G) (hr : r ∈ RatL) : AQ sh R N F A V (upG G r (ov, un)) F' A' := by
  obtain ⟨V', h1, h2, h3, h4⟩ := h
  refine ⟨V', h1, fun x hx => ?_, fun u hu => ?_⟩
  · by_cases q : x = r
    · rw [q, upG_eq, rg, h2, h3]
    · rw [upG_ne q, ← hG x hx, rg, rg, cx, cx, cx, cx]
      have s := rat_sep r hr x hx q
      have k : ∀ y ∈ [x + 2, x + 4, x + 7, x + 9], V' y = V y := fun y hy => by
        obtain ⟨e1, e2, e3, e4, e5, e6, e7⟩ := s y hy
        exact h4 y e1 e2 e3 e4 e5 e6 e7
      rw [show V' (x + 1 + 1) = _ from k _ (by simp), show V' (x + 1 + 3) = _ from k _ (by simp), show V' (x + 6 + 1) = _ from k _ (by simp), show V' (x + 6 + 3) = _ from k _ (by simp)]
  · have := rat_hi r hr
    exact h4 u (by omega) (by omega) (by omega) (by omega) (by omega) (by omega) (by omega)
theorem w_product {l : Launch} {D : va_G} {ids : Nat → ClassId} {β : Nat} {sh : Nat → Nat × Nat} {N : Nat} {R : Nat → Nat → Option Nat} {F : Nat → Nat → Int} {A : Nat → Int → Int} {V : Nat → Int} {G : Nat → QR} (hA : AcL sh R N) (hS : ST sh R N F A V) (hG : RV V G) {r x y a b : Nat} (hr : r ∈ RatL) (hx : x ∈ RatL) (hy : y ∈ RatL) (nrx : r ≠ x) (nry : r ≠ y) (bx : bdq a (G x)) (bY : bdq b (G y)) (hab : (a + 8) / 9 + (b + 8) / 9 ≤ 80 ∧ a + b ≤ 711) : MetX l yX4_product cX4_product 3 none 4 109 D ids β sh N R F A [rf r, rf x, rf y] (pVr (AQ sh R N F A V (upG G r (rmul (G x) (G y))))) := by
  have ex := hG x hx
  have ey := hG y hy
  rw [← ex] at bx
  rw [← ey] at bY
  obtain ⟨-, hW, -, -, -, -, hR, hsg⟩ := id hA
  have hsp := hW.2.2.2.2.2.2.2.2
  refine (m_rproduct l hS (hR r hr) (hR x hx) (hR y hy) nrx nry hsp hsg bx.1 bx.2 bY.1 bY.2 hab).mono (fun rv F' A' h => ⟨h.1, ?_⟩)
  rw [← ex, ← ey]
  exact h.2.toA hG hr
theorem w_quotient {l : Launch} {D : va_G} {ids : Nat → ClassId} {β : Nat} {sh : Nat → Nat × Nat} {N : Nat} {R : Nat → Nat → Option Nat} {F : Nat → Nat → Int} {A : Nat → Int → Int} {V : Nat → Int} {G : Nat → QR} (hA : AcL sh R N) (hS : ST sh R N F A V) (hG : RV V G) {r x y a b : Nat} (hr : r ∈ RatL) (hx : x ∈ RatL) (hy : y ∈ RatL) (nrx : r ≠ x) (nry : r ≠ y) (bx : bdq a (G x)) (bY : bdq b (G y)) (hab : (a + 8) / 9 + (b + 8) / 9 ≤ 80 ∧ a + b ≤ 711) : MetX l yX4_quotient cX4_quotient 3 none 4 109 D ids β sh N R F A [rf r, rf x, rf y] (pVr (AQ sh R N F A V (upG G r (rdiv (G x) (G y))))) := by
  have ex := hG x hx
  have ey := hG y hy
  rw [← ex] at bx
  rw [← ey] at bY
  obtain ⟨-, hW, -, -, -, -, hR, hsg⟩ := id hA
  have hsp := hW.2.2.2.2.2.2.2.2
  refine (m_rquotient l hS (hR r hr) (hR x hx) (hR y hy) nrx nry hsp hsg bx.1 bx.2 bY.1 bY.2 hab).mono (fun rv F' A' h => ⟨h.1, ?_⟩)
  rw [← ex, ← ey]
  exact h.2.toA hG hr
theorem w_sum {l : Launch} {D : va_G} {ids : Nat → ClassId} {β : Nat} {sh : Nat → Nat × Nat} {N : Nat} {R : Nat → Nat → Option Nat} {F : Nat → Nat → Int} {A : Nat → Int → Int} {V : Nat → Int} {G : Nat → QR} {s0 : Int} (hA : AcL sh R N) (hS : ST sh R N F A V) (hG : RV V G) {r x y a b : Nat} (hr : r ∈ RatL) (hx : x ∈ RatL) (hy : y ∈ RatL) (nrx : r ≠ x) (nry : r ≠ y) (hs : s0 = 1 ∨ s0 = -1) (bx : bdq a (G x)) (bY : bdq b (G y)) (hab : (a + 8) / 9 + (b + 8) / 9 ≤ 80 ∧ a + b + 1 ≤ 711) : MetX l yX4_sum cX4_sum 4 none 4 109 D ids β sh N R F A [rf r, rf x, rf y, pI s0] (pVr (AQ sh R N F A V (upG G r (rsum s0 (G x) (G y))))) := by
  have ex := hG x hx
  have ey := hG y hy
  rw [← ex] at bx
  rw [← ey] at bY
  obtain ⟨-, hW, -, -, -, -, hR, hsg⟩ := id hA
  have hsp := hW.2.2.2.2.2.2.2.2
  refine (m_rsum l hS (hR r hr) (hR x hx) (hR y hy) nrx nry hsp hsg bx.1 bx.2 bY.1 bY.2 hs hab).mono (fun rv F' A' h => ⟨h.1, ?_⟩)
  rw [← ex, ← ey]
  exact h.2.toA hG hr
theorem w_zero {l : Launch} {D : va_G} {ids : Nat → ClassId} {β : Nat} {sh : Nat → Nat × Nat} {N : Nat} {R : Nat → Nat → Option Nat} {F : Nat → Nat → Int} {A : Nat → Int → Int} {V : Nat → Int} {G : Nat → QR} (hA : AcL sh R N) (hS : ST sh R N F A V) (hG : RV V G) {r : Nat} (hr : r ∈ RatL) : MetX l yX4_isZero cX4_isZero 1 (some (.boolean)) 1 20 D ids β sh N R F A [rf r] (pIr (sameI F A (if (G r).1 = (0, 0) then 1 else 0))) := by
  obtain ⟨-, hW, -, -, -, -, hR, hsg⟩ := id hA
  have e : ((G r).1 = (0, 0)) = (V (r + 2) = 0 ∧ V (r + 4) = 0) := by
    rw [← hG r hr]
    exact propext ⟨fun h => ⟨congrArg Prod.fst h, congrArg Prod.snd h⟩, fun h => Prod.ext h.1 h.2⟩
  refine (m_rzero l hS (hR r hr)).mono (fun rv F' A' h => ?_)
  obtain ⟨z, h1, h2, h3⟩ := h
  exact ⟨z, h1, h2.trans (by simp only [e]), h3⟩
/-- what drafts one after another leave: all that fit are held, or big is told -/
def DrL (f f0 : Int → Int) (b0 b : Int) (L : List (QR × Int)) : Prop :=
  ((b = b0 ∧ ∀ t ∈ L, ∃ p q r, LT3 t.1.1 t.1.2 p q r ∧ fit3 p q r ∧ hold f t.2 p q r) ∨ (b = 1 ∧ ∃ t ∈ L, ∃ p q r, LT3 t.1.1 t.1.2 p q r ∧ ¬ fit3 p q r)) ∧ ∀ j, (∀ t ∈ L, j < t.2 ∨ t.2 + 9 ≤ j) → f j = f0 j
theorem hold_of {f f' : Int → Int} {i p q r : Int} (h : ∀ k : Int, 0 ≤ k → k < 9 → f' (i + k) = f (i + k)) (hh : hold f i p q r) : hold f' i p q r := by
  obtain ⟨⟨a1, a2⟩, ⟨b1, b2⟩, ⟨c1, c2⟩⟩ := hh
  have x := triOK_of (f' := f') (fun k k0 k1 => h k k0 (by omega)) a1
  have y := triOK_of (f' := f') (i := i + 3) (fun k k0 k1 => by rw [show i + 3 + k = i + (3 + k) by omega]; exact h _ (by omega) (by omega)) b1
  have z := triOK_of (f' := f') (i := i + 6) (fun k k0 k1 => by rw [show i + 6 + k = i + (6 + k) by omega]; exact h _ (by omega) (by omega)) c1
  exact ⟨⟨x.1, x.2.trans a2⟩, ⟨y.1, y.2.trans b2⟩, ⟨z.1, z.2.trans c2⟩⟩
theorem DrL.nil {f : Int → Int} {b : Int} : DrL f f b b [] := ⟨Or.inl ⟨rfl, fun _ h => nomatch h⟩, fun _ _ => rfl⟩
theorem DrL.cons {f f0 f' : Int → Int} {b0 b b' : Int} {L : List (QR × Int)} {x : QR} {i : Int} (h : DrL f f0 b0 b L) (hd : ∀ t ∈ L, t.2 + 9 ≤ i ∨ i + 9 ≤ t.2) (hu : ∀ j, j < i ∨ i + 9 ≤ j → f' j = f j) (hq : ∃ p q r : Int, LT3 x.1 x.2 p q r ∧ ((fit3 p q r ∧ b' = b ∧ hold f' i p q r) ∨ (¬ fit3 p q r ∧ b' = 1))) : DrL f' f0 b0 b' ((x, i) :: L) := by
  obtain ⟨h1, h2⟩ := h
  obtain ⟨p, q, r, q1, q2⟩ := hq
  refine ⟨?_, fun j hj => ?_⟩
  · rcases q2 with ⟨q2, q3, q4⟩ | ⟨q2, q3⟩
    · rcases h1 with ⟨k1, k2⟩ | ⟨k1, t, k2, k3⟩
      · refine Or.inl ⟨q3.trans k1, fun t ht => ?_⟩
        rcases List.mem_cons.mp ht with rfl | ht
        · exact ⟨p, q, r, q1, q2, q4⟩
        · obtain ⟨p2, q2, r2, m1, m2, m3⟩ := k2 t ht
          refine ⟨p2, q2, r2, m1, m2, hold_of (fun k k0 k9 => hu _ ?_) m3⟩
          rcases hd t ht with w | w
          · left; omega
          · right; omega
      · exact Or.inr ⟨q3.trans k1, t, List.mem_cons_of_mem _ k2, k3⟩
    · exact Or.inr ⟨q3, (x, i), List.mem_cons_self, p, q, r, q1, q2⟩
  · have hi := hj (x, i) List.mem_cons_self
    rw [hu j hi]
    exact h2 j (fun t ht => hj t (List.mem_cons_of_mem _ ht))
/-- what an act of Acts leaves -/
def FRa (sh : Nat → Nat × Nat) (F : Nat → Nat → Int) (A : Nat → Int → Int) (F' : Nat → Nat → Int) (A' : Nat → Int → Int) : Prop := (∀ o, o ≠ 15 → sh o ≠ (0, 6) → F' o = F o) ∧ (∀ a, a ≠ 3 → sh a ≠ (1, 80) → A' a = A a)
theorem FRa.rf {sh : Nat → Nat × Nat} {F : Nat → Nat → Int} {A : Nat → Int → Int} : FRa sh F A F A := ⟨fun _ _ _ => rfl, fun _ _ _ => rfl⟩
theorem FRa.tr {sh : Nat → Nat × Nat} {F F1 F2 : Nat → Nat → Int} {A A1 A2 : Nat → Int → Int} (h : FRa sh F A F1 A1) (h2 : FRa sh F1 A1 F2 A2) : FRa sh F A F2 A2 := ⟨fun o ho hs => (h2.1 o ho hs).trans (h.1 o ho hs), fun a ha hs => (h2.2 a ha hs).trans (h.2 a ha hs)⟩
theorem FRm.toA {sh : Nat → Nat × Nat} {F F1 : Nat → Nat → Int} {A A1 : Nat → Int → Int} (h : FRm sh F A F1 A1) : FRa sh F A F1 A1 := ⟨fun o _ hs => h.1 o hs, fun a _ hs => h.2 a hs⟩
/-- Acts under way: the registers are G, the drafts so far are L -/
def AS (sh : Nat → Nat × Nat) (R : Nat → Nat → Option Nat) (N : Nat) (F0 : Nat → Nat → Int) (A0 : Nat → Int → Int) (G : Nat → QR) (L : List (QR × Int)) : (Nat → Nat → Int) → (Nat → Int → Int) → Prop := fun F A =>
  ∃ V, ST sh R N F A V ∧ RV V G ∧ (∃ g l, gl2 F g l) ∧ (F 15 7 = 0 ∨ F 15 7 = 1) ∧ FRa sh F0 A0 F A ∧ DrL (A 3) (A0 3) (F0 15 7) (F 15 7) L
theorem AS.step {sh : Nat → Nat × Nat} {R : Nat → Nat → Option Nat} {N : Nat} {F0 F F' : Nat → Nat → Int} {A0 A A' : Nat → Int → Int} {V : Nat → Int} {G' : Nat → QR} {L : List (QR × Int)} (hA : AcL sh R N) (hgl : ∃ g l, gl2 F g l) (hb : F 15 7 = 0 ∨ F 15 7 = 1) (hf : FRa sh F0 A0 F A) (hd : DrL (A 3) (A0 3) (F0 15 7) (F 15 7) L) (h : AQ sh R N F A V G' F' A') : AS sh R N F0 A0 G' L F' A' := by
  obtain ⟨V', ⟨h1, h2⟩, h3, h4⟩ := h
  obtain ⟨g, l, q1, q2, q3⟩ := hgl
  obtain ⟨-, hW, -⟩ := id hA
  have n15 : sh 15 ≠ (0, 6) := by rw [hW.1.2.1]; decide
  have n3 : sh 3 ≠ (1, 80) := by rw [hW.2.1.2]; decide
  have e := h2.1 15 n15
  refine ⟨V', h1, h3, ⟨g, l, q1, by rw [e]; exact q2, by rw [e]; exact q3⟩, by rw [e]; exact hb, hf.tr h2.toA, ?_⟩
  rw [e, h2.2 3 n3]
  exact hd
theorem w_draft {l : Launch} {D : va_G} {ids : Nat → ClassId} {β : Nat} {sh : Nat → Nat × Nat} {N : Nat} {R : Nat → Nat → Option Nat} {F : Nat → Nat → Int} {A : Nat → Int → Int} {V : Nat → Int} {G : Nat → QR} {F0 : Nat → Nat → Int} {A0 : Nat → Int → Int} {L : List (QR × Int)} {r a b : Nat} {tone entry : Int} (hA : AcL sh R N) (hS : ST sh R N F A V) (hG : RV V G) (hgl : ∃ g l, gl2 F g l) (hb : F 15 7 = 0 ∨ F 15 7 = 1) (hf : FRa sh F0 A0 F A) (hd : DrL (A 3) (A0 3) (F0 15 7) (F 15 7) L) (hr : r ∈ RatL) (bx : bdc a (G r).1) (bu : bdc b (G r).2) (hab : (a + 8) / 9 + (b + 8) / 9 ≤ 80 ∧ a + b + 1 ≤ 711) (hbb : 2 * ((b + 8) / 9) ≤ 80 ∧ 2 * b + 1 ≤ 711) (hu0 : (G r).2 ≠ (0, 0)) (ht : 0 ≤ tone ∧ tone < 4) (he : 0 ≤ entry ∧ entry < 4) (hdj : ∀ t ∈ L, t.2 + 9 ≤ tone * 36 + entry * 9 ∨ tone * 36 + entry * 9 + 9 ≤ t.2) : MetX l yX3_draft cX3_draft 8 none 5 138 D ids β sh N R F A [rf 15, rf (r + 1), rf (r + 6), pI tone, pI entry] (pVr (AS sh R N F0 A0 G ((G r, tone * 36 + entry * 9) :: L))) := by
  obtain ⟨-, hW, -, -, -, -, hR, hsg⟩ := id hA
  have er := hG r hr
  have e1 : cx V (r + 1) = (G r).1 := congrArg Prod.fst er
  have e2 : cx V (r + 6) = (G r).2 := congrArg Prod.snd er
  have hi := rat_hi r hr
  obtain ⟨-, -, -, -, -, go, gu, -⟩ := hR r hr
  refine (m_draft l hS hW hgl go gu (by omega) (by omega) (a := a) (b := b) (by rw [e1]; exact bx) (by rw [e2]; exact bu) hab hbb ?_ ht he hb).mono (fun rv F' A' h => ⟨h.1, ?_⟩)
  · by_cases q : V (r + 6 + 1) = 0
    · refine Or.inr (fun q2 => hu0 ?_)
      rw [← e2]
      exact Prod.ext q q2
    · exact Or.inl q
  · obtain ⟨V', ⟨d1, d2, d3, d4, d5, d6⟩, hp⟩ := h.2
    rw [e1, e2] at hp
    refine ⟨V', d1, fun x hx => ?_, d3, ?_, hf.tr ⟨d4, d5⟩, hd.cons hdj d6 hp⟩
    · have hi2 := rat_hi x hx
      rw [← hG x hx, rg, rg, cx, cx, cx, cx, d2 _ (by omega), d2 _ (by omega), d2 _ (by omega), d2 _ (by omega)]
    · obtain ⟨p, q, s, -, hq⟩ := hp
      rcases hq with ⟨-, e, -⟩ | ⟨-, e⟩
      · rw [e]; exact hb
      · exact Or.inr e
