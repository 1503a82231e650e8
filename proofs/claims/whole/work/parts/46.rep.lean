/-! THE CLASS HOLDS THE STATE -/
abbrev holdT (f : Int → Int) (i : Int) (x : T3) : Prop := hold f i x.1 x.2.1 x.2.2
theorem num_of {f : Int → Int} {i : Int} {x : T3} (h : holdT f i x) : num f i = q3 x := by
  obtain ⟨⟨-, a⟩, ⟨-, b⟩, -, c⟩ := h
  unfold num
  rw [a, b, c]
def PbL (sh : Nat → Nat × Nat) (R : Nat → Nat → Option Nat) (N : Nat) : Prop := AcL sh R N ∧ AcG sh R N ∧ JuL sh R N ∧ (0 < N ∧ sh 0 = (0, 7)) ∧ (R 0 0 = some 1 ∧ R 0 1 = some 7 ∧ R 0 2 = some 295)
def ShN (F : Nat → Nat → Int) (A : Nat → Int → Int) (S : SP) : Prop := F 1 6 = nbS S ∧ (0 ≤ F 1 5 ∧ F 1 5 < 16) ∧ F 1 7 = ((hS S).length : Int) ∧ (∀ b, isB S b → A 4 b = ptS S b) ∧ (∀ b : Int, 0 ≤ b → b < 16 → 0 ≤ A 4 b ∧ A 4 b ≤ 2) ∧ (∀ k : Int, 0 ≤ k → k < 16 → 0 ≤ A 6 k ∧ A 6 k < 16)
def CelC (f : Int → Int) (S : SP) : Prop := (∀ b t e, isB S b → isT t → isT e → holdT f (b * 144 + t * 36 + e * 9) (vS S b t e)) ∧ (∀ k : Int, nbS S * 144 ≤ k → k < 2304 → f k = 0)
def HisC (F : Nat → Nat → Int) (A : Nat → Int → Int) (S : SP) : Prop := ∀ (i : Nat) (q : Int × BX), (hS S)[i]? = some q → A 6 ((F 1 5 + 15 - (i : Int)) % 16) = q.1 ∧ ∀ t e, isT t → isT e → holdT (A 5) ((F 1 5 + 15 - (i : Int)) % 16 * 144 + t * 36 + e * 9) (q.2 t e)
def RepC (sh : Nat → Nat × Nat) (R : Nat → Nat → Option Nat) (N : Nat) (S : SP) : (Nat → Nat → Int) → (Nat → Int → Int) → Prop := fun F A =>
  AE sh R N F A [] F A ∧ invS S ∧ ShN F A S ∧ CelC (A 2) S ∧ HisC F A S ∧ (F 0 3 = wtS S ∧ F 0 4 = wdS S)
theorem RepC.shI {sh : Nat → Nat × Nat} {R : Nat → Nat → Option Nat} {N : Nat} {S : SP} {F : Nat → Nat → Int} {A : Nat → Int → Int} (h : RepC sh R N S F A) : ShI F A := by
  obtain ⟨-, h2, ⟨a, b, c, d, e, -⟩, -⟩ := h
  obtain ⟨h1, -, -, h4⟩ := h2
  exact ⟨b, by omega, by omega, e⟩
theorem CelC.ck {f : Int → Int} {S : SP} (h : CelC f S) (hi : invS S) : CK f := by
  intro n n0 n1
  obtain ⟨h1, h2⟩ := h
  by_cases q : n / 48 < nbS S
  · have hh := h1 (n / 48) (n % 48 / 12) (n % 12 / 3) ⟨by omega, q⟩ ⟨by omega, by omega⟩ ⟨by omega, by omega⟩
    obtain ⟨⟨a, -⟩, ⟨b, -⟩, c, -⟩ := hh
    have : n % 3 = 0 ∨ n % 3 = 1 ∨ n % 3 = 2 := by omega
    rcases this with k | k | k
    · rwa [show 3 * n = n / 48 * 144 + n % 48 / 12 * 36 + n % 12 / 3 * 9 by omega]
    · rwa [show 3 * n = n / 48 * 144 + n % 48 / 12 * 36 + n % 12 / 3 * 9 + 3 by omega]
    · rwa [show 3 * n = n / 48 * 144 + n % 48 / 12 * 36 + n % 12 / 3 * 9 + 6 by omega]
  · have z : ∀ k : Int, 0 ≤ k → k < 3 → f (3 * n + k) = 0 := fun k k0 k1 => h2 _ (by omega) (by omega)
    refine ⟨fun k k0 k1 => ?_, Or.inl (fun k k0 k1 => ?_)⟩
    · rw [z k k0 k1]; exact ⟨by decide, by decide⟩
    · rw [z k k0 k1]; exact Int.le_refl _
theorem RepC.ck {sh : Nat → Nat × Nat} {R : Nat → Nat → Option Nat} {N : Nat} {S : SP} {F : Nat → Nat → Int} {A : Nat → Int → Int} (h : RepC sh R N S F A) : CK (A 2) := h.2.2.2.1.ck h.2.1
theorem RepC.nb {sh : Nat → Nat × Nat} {R : Nat → Nat → Option Nat} {N : Nat} {S : SP} {F : Nat → Nat → Int} {A : Nat → Int → Int} (h : RepC sh R N S F A) : nbS S ≤ 16 := h.2.1.1.2
theorem RepC.nu {sh : Nat → Nat × Nat} {R : Nat → Nat → Option Nat} {N : Nat} {S : SP} {F : Nat → Nat → Int} {A : Nat → Int → Int} (h : RepC sh R N S F A) {b t e : Int} (hb : isB S b) (ht : isT t) (he : isT e) : num (A 2) (b * 144 + t * 36 + e * 9) = nm S b t e := num_of (h.2.2.2.1.1 b t e hb ht he)
theorem invS.ok {S : SP} (h : invS S) {b t e : Int} (hb : isB S b) (ht : isT t) (he : isT e) : OKq 25 (nm S b t e) := ok3_bd ((h.2.1 b hb).2 t e ht he).1
theorem RepC.hB {sh : Nat → Nat × Nat} {R : Nat → Nat → Option Nat} {N : Nat} {S : SP} {F : Nat → Nat → Int} {A : Nat → Int → Int} (h : RepC sh R N S F A) : ∀ b t e : Int, 0 ≤ b ∧ b < nbS S → 0 ≤ t ∧ t < 4 → 0 ≤ e ∧ e < 4 → OKq 25 (num (A 2) (b * 144 + t * 36 + e * 9)) := fun b t e hb ht he => by
  show OKq 25 (num (A 2) _)
  rw [h.nu hb ht he]; exact h.2.1.ok hb ht he
theorem ST.chg {sh : Nat → Nat × Nat} {R : Nat → Nat → Option Nat} {N : Nat} {F F' : Nat → Nat → Int} {A A' : Nat → Int → Int} {V : Nat → Int} (h : ST sh R N F A V) (hF : ∀ o, sh o = (0, 6) → F' o = F o) (hA : ∀ a, sh a = (1, 80) → A' a = A a) : ST sh R N F' A' V := by
  intro w hw
  obtain ⟨h1, h2⟩ := h w hw
  have e1 := hF w hw.2.1
  have e2 := hA (w + 1) hw.2.2.1
  refine ⟨?_, ?_⟩
  · unfold WOK; rw [e1, e2]; exact h1
  · rw [wv_of e1 e2]; exact h2
theorem AE.chg {sh : Nat → Nat × Nat} {R : Nat → Nat → Option Nat} {N : Nat} {F0 F F' : Nat → Nat → Int} {A0 A A' : Nat → Int → Int} {L : List (QR × Int)} (h : AE sh R N F0 A0 L F A) (hF : ∀ o, sh o = (0, 6) → F' o = F o) (hA : ∀ a, sh a = (1, 80) → A' a = A a) (h5 : F' 15 5 = F 15 5) (h6 : F' 15 6 = F 15 6) (h7 : F' 15 7 = 0 ∨ F' 15 7 = 1) : AE sh R N F' A' [] F' A' := by
  obtain ⟨G, g1, g2, V, h1, h2, ⟨g, l, q1, q2, q3⟩, h4, -, -⟩ := h
  exact ⟨G, g1, g2, V, h1.chg hF hA, h2, ⟨g, l, q1, h5.trans q2, h6.trans q3⟩, h7, FRa.rf, DrL.nil⟩
theorem AE.re {sh : Nat → Nat × Nat} {R : Nat → Nat → Option Nat} {N : Nat} {F0 F : Nat → Nat → Int} {A0 A : Nat → Int → Int} {L : List (QR × Int)} (h : AE sh R N F0 A0 L F A) : AE sh R N F A [] F A := by
  obtain ⟨G, g1, g2, V, h1, h2, h3, h4, -, -⟩ := h
  exact ⟨G, g1, g2, V, h1, h2, h3, h4, FRa.rf, DrL.nil⟩
theorem AE.fr {sh : Nat → Nat × Nat} {R : Nat → Nat → Option Nat} {N : Nat} {F0 F : Nat → Nat → Int} {A0 A : Nat → Int → Int} {L : List (QR × Int)} (h : AE sh R N F0 A0 L F A) : FRa sh F0 A0 F A ∧ DrL (A 3) (A0 3) (F0 15 7) (F 15 7) L ∧ (F 15 7 = 0 ∨ F 15 7 = 1) := by
  obtain ⟨G, g1, g2, V, h1, h2, h3, h4, h5, h6⟩ := h
  exact ⟨h5, h6, h4⟩
/-- the Judge's work leaves Acts as it was -/
theorem AE.ju {sh : Nat → Nat × Nat} {R : Nat → Nat → Option Nat} {N : Nat} {F F' : Nat → Nat → Int} {A A' : Nat → Int → Int} {V V' : Nat → Int} {G : Nat → QR} (hW : sh 15 = (0, 3)) (g1 : G 121 = oneq) (g2 : G 132 = quartq) (hG : RV V G) (hgl : ∃ g l, gl2 F g l) (hb : F 15 7 = 0 ∨ F 15 7 = 1) (hq : SQ sh R N F A V' F' A') (hv : ∀ u, u < 296 → V' u = V u) : AE sh R N F' A' [] F' A' := by
  obtain ⟨h1, h2⟩ := hq
  have e : F' 15 = F 15 := h2.1 15 (by rw [hW]; decide)
  obtain ⟨g, l, q1, q2, q3⟩ := hgl
  refine ⟨G, g1, g2, V', h1, fun r hr => ?_, ⟨g, l, q1, by rw [e]; exact q2, by rw [e]; exact q3⟩, by rw [e]; exact hb, FRa.rf, DrL.nil⟩
  have := rat_hi r hr
  rw [← hG r hr, rg, rg, cx, cx, cx, cx, hv _ (by omega), hv _ (by omega), hv _ (by omega), hv _ (by omega)]
/-- the cells that the state lies in stay as they are -/
theorem RepC.of {sh : Nat → Nat × Nat} {R : Nat → Nat → Option Nat} {N : Nat} {S : SP} {F F' : Nat → Nat → Int} {A A' : Nat → Int → Int} (h : RepC sh R N S F A) (hE : AE sh R N F' A' [] F' A') (f0 : F' 0 = F 0) (f1 : F' 1 = F 1) (a2 : A' 2 = A 2) (a4 : A' 4 = A 4) (a5 : A' 5 = A 5) (a6 : A' 6 = A 6) : RepC sh R N S F' A' := by
  obtain ⟨-, h2, h3, h4, h5, h6⟩ := h
  refine ⟨hE, h2, ?_, ?_, ?_, ?_⟩
  · unfold ShN; rw [f1, a4, a6]; exact h3
  · rw [a2]; exact h4
  · unfold HisC; rw [f1, a5, a6]; exact h5
  · rw [f0]; exact h6
theorem PbL.sh {sh : Nat → Nat × Nat} {R : Nat → Nat → Option Nat} {N : Nat} (h : PbL sh R N) : sh 0 = (0, 7) ∧ sh 1 = (0, 5) ∧ sh 2 = (1, 2304) ∧ sh 3 = (1, 144) ∧ sh 4 = (1, 16) ∧ sh 5 = (1, 2304) ∧ sh 6 = (1, 16) ∧ sh 15 = (0, 3) := by
  obtain ⟨⟨⟨⟨-, a1⟩, -, ⟨-, a2⟩, ⟨-, a3⟩, ⟨-, a4⟩, ⟨-, a5⟩, -, a6⟩, hW, -⟩, -, -, ⟨-, a0⟩, -⟩ := h
  exact ⟨a0, a1, a2, a3, a4, a5, a6, hW.1.2.1⟩
theorem RepC.fra {sh : Nat → Nat × Nat} {R : Nat → Nat → Option Nat} {N : Nat} {S : SP} {F F' : Nat → Nat → Int} {A A' : Nat → Int → Int} (hL : PbL sh R N) (h : RepC sh R N S F A) (hE : AE sh R N F' A' [] F' A') (hf : FRa sh F A F' A') : RepC sh R N S F' A' := by
  obtain ⟨s0, s1, s2, s3, s4, s5, s6, -⟩ := hL.sh
  exact h.of hE (hf.1 0 (by decide) (by rw [s0]; decide)) (hf.1 1 (by decide) (by rw [s1]; decide)) (hf.2 2 (by decide) (by rw [s2]; decide)) (hf.2 4 (by decide) (by rw [s4]; decide)) (hf.2 5 (by decide) (by rw [s5]; decide)) (hf.2 6 (by decide) (by rw [s6]; decide))
/-- only the draft and big change -/
theorem RepC.dr {sh : Nat → Nat × Nat} {R : Nat → Nat → Option Nat} {N : Nat} {S : SP} {F F' : Nat → Nat → Int} {A A' : Nat → Int → Int} (hL : PbL sh R N) (h : RepC sh R N S F A) (hF : ∀ o, o ≠ 15 → F' o = F o) (hA : ∀ a, a ≠ 3 → A' a = A a) (h5 : F' 15 5 = F 15 5) (h6 : F' 15 6 = F 15 6) (h7 : F' 15 7 = 0 ∨ F' 15 7 = 1) : RepC sh R N S F' A' := by
  obtain ⟨s0, s1, s2, s3, s4, s5, s6, s15⟩ := hL.sh
  exact h.of (h.1.chg (fun o ho => hF o (fun q => by rw [q, s15] at ho; exact absurd ho (by decide))) (fun a ha => hA a (fun q => by rw [q, s3] at ha; exact absurd ha (by decide))) h5 h6 h7) (hF 0 (by decide)) (hF 1 (by decide)) (hA 2 (by decide)) (hA 4 (by decide)) (hA 5 (by decide)) (hA 6 (by decide))
theorem holdT_of {f f' : Int → Int} {i j : Int} {x : T3} (h : ∀ k : Int, 0 ≤ k → k < 9 → f' (j + k) = f (i + k)) (hh : holdT f i x) : holdT f' j x := by
  have e : ∀ k : Int, 0 ≤ k → k < 9 → f' (j + k) = (fun m => f (m - j + i)) (j + k) := fun k a b => by rw [h k a b]; show f (i + k) = f (j + k - j + i); rw [show j + k - j + i = i + k by omega]
  have hs : holdT (fun m => f (m - j + i)) j x := by
    obtain ⟨⟨a1, a2⟩, ⟨b1, b2⟩, c1, c2⟩ := hh
    have g : ∀ d : Int, triOK f (i + d) → tri f (i + d) = tri (fun m => f (m - j + i)) (j + d) ∧ triOK (fun m => f (m - j + i)) (j + d) := fun d q => by
      have w : ∀ k : Int, (fun m => f (m - j + i)) (j + d + k) = f (i + d + k) := fun k => by
        show f (j + d + k - j + i) = _
        rw [show j + d + k - j + i = i + d + k by omega]
      refine ⟨?_, fun k a b => by rw [w k]; exact q.1 k a b, q.2.imp (fun r k a b => by rw [w k]; exact r k a b) (fun r k a b => by rw [w k]; exact r k a b)⟩
      unfold tri
      have w0 := w 0
      rw [Int.add_zero, Int.add_zero] at w0
      rw [w0, w 1, w 2]
    have g0 := g 0
    rw [Int.add_zero, Int.add_zero] at g0
    exact ⟨⟨(g0 a1).2, (g0 a1).1.symm.trans a2⟩, ⟨(g 3 b1).2, (g 3 b1).1.symm.trans b2⟩, (g 6 c1).2, (g 6 c1).1.symm.trans c2⟩
  exact hold_of e hs
theorem RepC.start {sh : Nat → Nat × Nat} {R : Nat → Nat → Option Nat} {N : Nat} {S : SP} {F : Nat → Nat → Int} {A : Nat → Int → Int} (hL : PbL sh R N) (h : RepC sh R N S F A) {c : Int} (hc : isB S c) : RepC sh R N S (uF F 15 7 0) (cpA A 2 (c * 144) 3 0 144) ∧ RepC sh R N S F (cpA A 2 (c * 144) 3 0 144) ∧ ∀ t e, isT t → isT e → holdT (cpA A 2 (c * 144) 3 0 144 3) (t * 36 + e * 9) (vS S c t e) := by
  refine ⟨h.dr hL (fun o ho => uF_ne ho) (fun a ha => cpA_ne ha) (uF_nj (by decide)) (uF_nj (by decide)) (Or.inl uF_eq), h.dr hL (fun o ho => rfl) (fun a ha => cpA_ne ha) rfl rfl h.1.fr.2.2, fun t e ht he => ?_⟩
  refine holdT_of (i := c * 144 + t * 36 + e * 9) (fun k k0 k1 => ?_) (h.2.2.2.1.1 c t e hc ht he)
  rw [cpA_in ⟨by omega, by omega⟩]
  congr 1
  omega
/-- an act is kept -/
theorem RepC.keep {sh : Nat → Nat × Nat} {R : Nat → Nat → Option Nat} {N : Nat} {S : SP} {F : Nat → Nat → Int} {A : Nat → Int → Int} (hL : PbL sh R N) (h : RepC sh R N S F A) {c : Int} {w : BX} (hc : isB S c) (hw : wfB (ptS S c) w) (hd : ∀ t e, isT t → isT e → holdT (A 3) (t * 36 + e * 9) (w t e)) : RepC sh R N (actS S c w) (uF (uF F 1 5 ((F 1 5 + 1) % 16)) 1 7 (min (F 1 7 + 1) 16)) (uA (cpA (cpA A 2 (c * 144) 5 (F 1 5 * 144) 144) 3 0 2 (c * 144) 144) 6 (F 1 5) c) := by
  obtain ⟨s0, s1, s2, s3, s4, s5, s6, s15⟩ := hL.sh
  obtain ⟨hE, hi, ⟨n1, n2, n3, n4, n5, n6⟩, ⟨c1, c2⟩, h5, h6⟩ := h
  have i1 := hi.1
  have i4 := hi.2.2.2
  have a2 : uA (cpA (cpA A 2 (c * 144) 5 (F 1 5 * 144) 144) 3 0 2 (c * 144) 144) 6 (F 1 5) c 2 = cpA A 3 0 2 (c * 144) 144 2 := by
    rw [uA_ne (by decide)]
    funext j
    by_cases q : c * 144 ≤ j ∧ j < c * 144 + 144
    · rw [cpA_in q, cpA_in q, cpA_ne (by decide)]
    · rw [cpA_out (by omega), cpA_out (by omega), cpA_ne (by decide)]
  have a5 : uA (cpA (cpA A 2 (c * 144) 5 (F 1 5 * 144) 144) 3 0 2 (c * 144) 144) 6 (F 1 5) c 5 = cpA A 2 (c * 144) 5 (F 1 5 * 144) 144 5 := by rw [uA_ne (by decide), cpA_ne (by decide)]
  have a6 : uA (cpA (cpA A 2 (c * 144) 5 (F 1 5 * 144) 144) 3 0 2 (c * 144) 144) 6 (F 1 5) c 6 = uA A 6 (F 1 5) c 6 := by
    funext j
    rw [uA_at, uA_at, cpA_ne (by decide), cpA_ne (by decide)]
  have a4 : uA (cpA (cpA A 2 (c * 144) 5 (F 1 5 * 144) 144) 3 0 2 (c * 144) 144) 6 (F 1 5) c 4 = A 4 := by rw [uA_ne (by decide), cpA_ne (by decide), cpA_ne (by decide)]
  have f5 : uF (uF F 1 5 ((F 1 5 + 1) % 16)) 1 7 (min (F 1 7 + 1) 16) 1 5 = (F 1 5 + 1) % 16 := by rw [uF_nj (by decide), uF_eq]
  have f6 : uF (uF F 1 5 ((F 1 5 + 1) % 16)) 1 7 (min (F 1 7 + 1) 16) 1 6 = F 1 6 := by rw [uF_nj (by decide), uF_nj (by decide)]
  have hin := hi.act hc hw
  refine ⟨hE.chg (fun o ho => ?_) (fun a ha => ?_) ?_ ?_ ?_, hin, ⟨?_, ?_, ?_, ?_, ?_, ?_⟩, ⟨?_, ?_⟩, ?_, ?_⟩
  · have : o ≠ 1 := fun q => by rw [q, s1] at ho; exact absurd ho (by decide)
    rw [uF_ne this, uF_ne this]
  · rw [uA_ne (fun q => by rw [q, s6] at ha; exact absurd ha (by decide)), cpA_ne (fun q => by rw [q, s2] at ha; exact absurd ha (by decide)), cpA_ne (fun q => by rw [q, s5] at ha; exact absurd ha (by decide))]
  · rw [uF_ne (by decide), uF_ne (by decide)]
  · rw [uF_ne (by decide), uF_ne (by decide)]
  · rw [uF_ne (by decide), uF_ne (by decide)]; exact hE.fr.2.2
  · rw [f6]; exact n1
  · rw [f5]; omega
  · rw [uF_eq, n3]
    show _ = (((((c, vS S c) :: hS S).take 16).length : Nat) : Int)
    rw [List.length_take, List.length_cons]
    omega
  · intro b hb
    rw [a4]; exact n4 b hb
  · intro b b0 b1
    rw [a4]; exact n5 b b0 b1
  · intro k k0 k1
    rw [a6, uA_at]
    split
    · exact ⟨hc.1, by have := hc.2; omega⟩
    · exact n6 k k0 k1
  · intro b t e hb ht he
    rw [a2]
    by_cases q : b = c
    · subst q
      show holdT _ _ (upZ (vS S) b w b t e)
      rw [upZ_eq]
      refine holdT_of (fun k k0 k1 => ?_) (hd t e ht he)
      rw [cpA_in ⟨by omega, by omega⟩]
      congr 1
      omega
    · show holdT _ _ (upZ (vS S) c w b t e)
      rw [upZ_ne q]
      refine holdT_of (fun k k0 k1 => ?_) (c1 b t e hb ht he)
      rw [cpA_out (by omega)]
  · intro k k0 k1
    rw [a2, cpA_out (by have := hc.2; have k2 : nbS S * 144 ≤ k := k0; omega)]
    exact c2 k k0 k1
  · intro i q hq
    rw [f5, a5, a6]
    replace hq : (((c, vS S c) :: hS S).take 16)[i]? = some q := hq
    have i16 : i < 16 := by
      have := (List.getElem?_eq_some_iff.mp hq).1
      rw [List.length_take] at this; omega
    rw [List.getElem?_take_of_lt i16] at hq
    cases i with
    | zero =>
      obtain rfl : (c, vS S c) = q := Option.some.inj hq
      rw [show ((F 1 5 + 1) % 16 + 15 - ((0 : Nat) : Int)) % 16 = F 1 5 by omega]
      refine ⟨uA_eq, fun t e ht he => ?_⟩
      refine holdT_of (fun k k0 k1 => ?_) (c1 c t e hc ht he)
      rw [cpA_in ⟨by omega, by omega⟩]
      congr 1
      omega
    | succ i =>
      replace hq : (hS S)[i]? = some q := hq
      obtain ⟨q1, q2⟩ := h5 i q hq
      have e : ((F 1 5 + 1) % 16 + 15 - ((i + 1 : Nat) : Int)) % 16 = (F 1 5 + 15 - (i : Int)) % 16 := by omega
      have ne : (F 1 5 + 15 - (i : Int)) % 16 ≠ F 1 5 := by omega
      rw [e, uA_ni ne]
      refine ⟨q1, fun t e ht he => ?_⟩
      refine holdT_of (fun k k0 k1 => ?_) (q2 t e ht he)
      rw [cpA_out (by omega)]
  · refine ⟨?_, ?_⟩
    · rw [uF_ne (by decide), uF_ne (by decide)]; exact h6.1
    · rw [uF_ne (by decide), uF_ne (by decide)]; exact h6.2
theorem RepC.no {sh : Nat → Nat × Nat} {R : Nat → Nat → Option Nat} {N : Nat} {S : SP} {F : Nat → Nat → Int} {A : Nat → Int → Int} (hL : PbL sh R N) (h : RepC sh R N S F A) (t d : Int) : RepC sh R N (noS S t d) (uF (uF F 0 3 t) 0 4 d) A := by
  obtain ⟨s0, s1, s2, s3, s4, s5, s6, s15⟩ := hL.sh
  obtain ⟨hE, hi, h3, h4, h5, h6⟩ := h
  have e1 : uF (uF F 0 3 t) 0 4 d 1 = F 1 := by rw [uF_ne (by decide), uF_ne (by decide)]
  have e15 : uF (uF F 0 3 t) 0 4 d 15 = F 15 := by rw [uF_ne (by decide), uF_ne (by decide)]
  refine ⟨hE.chg (fun o ho => ?_) (fun a _ => rfl) (by rw [e15]) (by rw [e15]) (by rw [e15]; exact hE.fr.2.2), hi, ?_, h4, ?_, ?_⟩
  · have : o ≠ 0 := fun q => by rw [q, s0] at ho; exact absurd ho (by decide)
    rw [uF_ne this, uF_ne this]
  · unfold ShN; rw [e1]; exact h3
  · unfold HisC; rw [e1]; exact h5
  · exact ⟨by rw [uF_nj (by decide), uF_eq]; rfl, by rw [uF_eq]; rfl⟩
