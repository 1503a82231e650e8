/-! THE STORE OF ALL WHOLES, by their values -/
theorem MetX.mono {l : Launch} {y : MethodName} {bytes : ByteArray} {maxL : Nat} {ret : Option FieldType} {fr lo : Nat} {D : va_G} {ids : Nat → ClassId} {β : Nat} {sh : Nat → Nat × Nat} {N : Nat} {R : Nat → Nat → Option Nat} {F : Nat → Nat → Int} {A : Nat → Int → Int} {av : List PV} {post post' : Option PV → (Nat → Nat → Int) → (Nat → Int → Int) → Prop}
    (h : MetX l y bytes maxL ret fr lo D ids β sh N R F A av post) (hp : ∀ r F' A', post r F' A' → post' r F' A') : MetX l y bytes maxL ret fr lo D ids β sh N R F A av post' := by
  intro p e ha hc hk s m args below hf happ hP hK
  obtain ⟨n, o, h1, h2, h3, ⟨⟨r, F', A', q1, q2, q3⟩, hF⟩, h5⟩ := h p e ha hc hk s m args below hf happ hP hK
  exact ⟨n, o, h1, h2, h3, ⟨⟨r, F', A', q1, hp r F' A' q2, q3⟩, hF⟩, h5⟩
def ST (sh : Nat → Nat × Nat) (R : Nat → Nat → Option Nat) (N : Nat) (F : Nat → Nat → Int) (A : Nat → Int → Int) (V : Nat → Int) : Prop := ∀ w, isW sh R N w → WOK F A w ∧ wv F A w = V w
/-- all but the Wholes and their limbs stays -/
def FRm (sh : Nat → Nat × Nat) (F : Nat → Nat → Int) (A : Nat → Int → Int) (F' : Nat → Nat → Int) (A' : Nat → Int → Int) : Prop := (∀ o, sh o ≠ (0, 6) → F' o = F o) ∧ (∀ a, sh a ≠ (1, 80) → A' a = A a)
def SQ (sh : Nat → Nat × Nat) (R : Nat → Nat → Option Nat) (N : Nat) (F : Nat → Nat → Int) (A : Nat → Int → Int) (V' : Nat → Int) : (Nat → Nat → Int) → (Nat → Int → Int) → Prop := fun F' A' => ST sh R N F' A' V' ∧ FRm sh F A F' A'
def upV (V : Nat → Int) (w : Nat) (v : Int) : Nat → Int := fun u => if u = w then v else V u
theorem upV_eq {V : Nat → Int} {w : Nat} {v : Int} : upV V w v w = v := by simp [upV]
theorem upV_ne {V : Nat → Int} {w u : Nat} {v : Int} (h : u ≠ w) : upV V w v u = V u := by simp [upV, h]
theorem FRm.rf {sh : Nat → Nat × Nat} {F : Nat → Nat → Int} {A : Nat → Int → Int} : FRm sh F A F A := ⟨fun _ _ => rfl, fun _ _ => rfl⟩
theorem FRm.tr {sh : Nat → Nat × Nat} {F F1 F2 : Nat → Nat → Int} {A A1 A2 : Nat → Int → Int} (h : FRm sh F A F1 A1) (h2 : FRm sh F1 A1 F2 A2) : FRm sh F A F2 A2 := ⟨fun o ho => (h2.1 o ho).trans (h.1 o ho), fun a ha => (h2.2 a ha).trans (h.2 a ha)⟩
section ST
variable {sh : Nat → Nat × Nat} {R : Nat → Nat → Option Nat} {N : Nat} {F : Nat → Nat → Int} {A : Nat → Int → Int} {V : Nat → Int}
theorem ST.set {w : Nat} {v : Int} (h : ST sh R N F A V) (hw : isW sh R N w) {F' : Nat → Nat → Int} {A' : Nat → Int → Int} (q : Q_set F A w v F' A') : SQ sh R N F A (upV V w v) F' A' := by
  obtain ⟨q1, q2, q3, q4⟩ := q
  refine ⟨fun u hu => ?_, fun o ho => q1 o (fun e => ho (by rw [e]; exact hw.2.1)), fun a ha => q2 a (fun e => ha (by rw [e]; exact hw.2.2.1))⟩
  by_cases e : u = w
  · rw [e, upV_eq]; exact ⟨q3, q4⟩
  · rw [upV_ne e]
    have h1 := q1 u e
    have h2 := q2 (u + 1) (by omega)
    exact ⟨WOK_of h1 h2 (h u hu).1, (wv_of h1 h2).trans (h u hu).2⟩
theorem isW_ne {w u : Nat} (hw : isW sh R N w) (hu : isW sh R N u) : w ≠ u + 1 := fun e => by
  have := hw.2.1
  rw [e, hu.2.2.1] at this
  cases this
end ST
/-- less than n decimal digits -/
def bd (n : Nat) (v : Int) : Prop := v.natAbs < 10 ^ n
theorem bd_mono {n m : Nat} {v : Int} (h : bd n v) (hnm : n ≤ m) : bd m v := Nat.lt_of_lt_of_le h (Nat.pow_le_pow_right (by decide) hnm)
theorem bd_mul {a b c : Nat} {x y : Int} (hx : bd a x) (hy : bd b y) (hc : a + b ≤ c) : bd c (x * y) := by
  refine bd_mono (n := a + b) ?_ hc
  unfold bd at *
  rw [Int.natAbs_mul, Nat.pow_add]
  exact Nat.mul_lt_mul'' hx hy
theorem bd_add {a b c : Nat} {x y : Int} (hx : bd a x) (hy : bd b y) (ha : a + 1 ≤ c) (hb : b + 1 ≤ c) : bd c (x + y) := by
  have h1 := bd_mono hx (show a ≤ c - 1 by omega)
  have h2 := bd_mono hy (show b ≤ c - 1 by omega)
  obtain ⟨d, rfl⟩ : ∃ d, c = d + 1 := ⟨c - 1, by omega⟩
  unfold bd at *
  rw [Nat.add_sub_cancel] at h1 h2
  rw [Nat.pow_succ]
  omega
theorem bd_neg {a : Nat} {x : Int} (h : bd a x) : bd a (-x) := by unfold bd at *; rwa [Int.natAbs_neg]
theorem bd_0 {a : Nat} : bd a 0 := by unfold bd; exact Nat.pow_pos (by decide)
theorem bd_size {F : Nat → Nat → Int} {A : Nat → Int → Int} {w n k : Nat} (h : WOK F A w) (hb : bd n (wv F A w)) (hk : n ≤ 9 * k) : F w 1 ≤ k := by
  refine size_le h ?_
  have h1 := bd_mono hb hk
  unfold bd at h1
  rw [wv_abs h, Nat.pow_mul] at h1
  have h2 := wm_nonneg h
  have e : ((1000000000 : Int)) ^ k = ((1000000000 ^ k : Nat) : Int) := by rw [Int.natCast_pow]; rfl
  rw [e]
  have : (10 : Nat) ^ 9 = 1000000000 := by decide
  rw [this] at h1
  omega
theorem s_clear (l : Launch) {D : va_G} {ids : Nat → ClassId} {β : Nat} {sh : Nat → Nat × Nat} {N : Nat} {R : Nat → Nat → Option Nat} {F : Nat → Nat → Int} {A : Nat → Int → Int} {V : Nat → Int} (hS : ST sh R N F A V) {w : Nat} (hw : isW sh R N w) : MetX l yX6_clear cX6_clear 1 none 0 0 D ids β sh N R F A [rf w] (pVr (SQ sh R N F A (upV V w 0))) :=
  (m_clear l hw).mono (fun r F' A' ⟨h1, h2, h3, h4, h5⟩ => ⟨h1, hS.set hw ⟨h3, fun a _ => by rw [h2], by rw [h2]; exact h4, by rw [h2]; exact h5⟩⟩)
theorem s_assign (l : Launch) {D : va_G} {ids : Nat → ClassId} {β : Nat} {sh : Nat → Nat × Nat} {N : Nat} {R : Nat → Nat → Option Nat} {F : Nat → Nat → Int} {A : Nat → Int → Int} {V : Nat → Int} (hS : ST sh R N F A V) {w x : Nat} (hw : isW sh R N w) (hx : isW sh R N x) : MetX l yX6_assign cX6_assign 2 none 1 26 D ids β sh N R F A [rf w, rf x] (pVr (SQ sh R N F A (upV V w (V x)))) :=
  (m_assign l hw hx (hS x hx).1).mono (fun r F' A' ⟨h1, h2⟩ => ⟨h1, by rw [(hS x hx).2] at h2; exact hS.set hw h2⟩)
theorem s_putSmall (l : Launch) {D : va_G} {ids : Nat → ClassId} {β : Nat} {sh : Nat → Nat × Nat} {N : Nat} {R : Nat → Nat → Option Nat} {F : Nat → Nat → Int} {A : Nat → Int → Int} {V : Nat → Int} (hS : ST sh R N F A V) {w : Nat} {v : Int} (hw : isW sh R N w) (hv : 0 ≤ v ∧ v < 1000000000000000000) : MetX l yX6_putSmall cX6_putSmall 3 none 1 23 D ids β sh N R F A [rf w, pL v] (pVr (SQ sh R N F A (upV V w v))) :=
  (m_putSmall l hw hv).mono (fun r F' A' ⟨h1, h2⟩ => ⟨h1, hS.set hw h2⟩)
theorem s_product (l : Launch) {D : va_G} {ids : Nat → ClassId} {β : Nat} {sh : Nat → Nat × Nat} {N : Nat} {R : Nat → Nat → Option Nat} {F : Nat → Nat → Int} {A : Nat → Int → Int} {V : Nat → Int} (hS : ST sh R N F A V) {w x y a b : Nat} (hw : isW sh R N w) (hx : isW sh R N x) (hy : isW sh R N y) (nx : x ≠ w) (ny : y ≠ w) (bx : bd a (V x)) (by0 : bd b (V y)) (hab : (a + 8) / 9 + (b + 8) / 9 ≤ 80) : MetX l yX6_product cX6_product 13 none 1 23 D ids β sh N R F A [rf w, rf x, rf y] (pVr (SQ sh R N F A (upV V w (V x * V y)))) :=
  (m_wproduct l hw hx hy (hS x hx).1 (hS y hy).1 nx ny (by have := bd_size (hS x hx).1 (by rw [(hS x hx).2]; exact bx) (show a ≤ 9 * ((a + 8) / 9) by omega); have := bd_size (hS y hy).1 (by rw [(hS y hy).2]; exact by0) (show b ≤ 9 * ((b + 8) / 9) by omega); omega)).mono (fun r F' A' ⟨h1, h2⟩ => ⟨h1, by rw [(hS x hx).2, (hS y hy).2] at h2; exact hS.set hw h2⟩)
theorem s_sum (l : Launch) {D : va_G} {ids : Nat → ClassId} {β : Nat} {sh : Nat → Nat × Nat} {N : Nat} {R : Nat → Nat → Option Nat} {F : Nat → Nat → Int} {A : Nat → Int → Int} {V : Nat → Int} (hS : ST sh R N F A V) {w x y a b : Nat} {s : Int} (hw : isW sh R N w) (hx : isW sh R N x) (hy : isW sh R N y) (hs : s = 1 ∨ s = -1) (bx : bd a (V x)) (by0 : bd b (V y)) (hab : a ≤ 711 ∧ b ≤ 711) : MetX l yX6_sum cX6_sum 7 none 2 60 D ids β sh N R F A [rf w, rf x, rf y, pI s] (pVr (SQ sh R N F A (upV V w (V x + s * V y)))) :=
  (m_sum l hw hx hy (hS x hx).1 (hS y hy).1 hs (by have := bd_size (hS x hx).1 (by rw [(hS x hx).2]; exact bx) (show a ≤ 9 * 79 by omega); have := bd_size (hS y hy).1 (by rw [(hS y hy).2]; exact by0) (show b ≤ 9 * 79 by omega); omega)).mono (fun r F' A' ⟨h1, h2⟩ => ⟨h1, by rw [(hS x hx).2, (hS y hy).2] at h2; exact hS.set hw h2⟩)
theorem s_load (l : Launch) {D : va_G} {ids : Nat → ClassId} {β : Nat} {sh : Nat → Nat × Nat} {N : Nat} {R : Nat → Nat → Option Nat} {F : Nat → Nat → Int} {A : Nat → Int → Int} {V : Nat → Int} (hS : ST sh R N F A V) {w ca cn : Nat} {i : Int} (hw : isW sh R N w) (hc : ca < N) (hcs : sh ca = (1, cn)) (hc8 : cn ≠ 80) (hi : 0 ≤ i ∧ i + 3 ≤ cn) (hcn : cn ≤ 2147483647) (h0 : triOK (A ca) i) : MetX l yX6_load cX6_load 6 none 1 23 D ids β sh N R F A [rf w, rf ca, pI i] (pVr (SQ sh R N F A (upV V w (tri (A ca) i)))) :=
  (m_load l hw hc hcs hi hcn (fun q => by have := hw.2.2.1; rw [← q, hcs] at this; cases this; omega) h0).mono (fun r F' A' ⟨h1, h2⟩ => ⟨h1, hS.set hw h2⟩)
theorem s_compareWith (l : Launch) {D : va_G} {ids : Nat → ClassId} {β : Nat} {sh : Nat → Nat × Nat} {N : Nat} {R : Nat → Nat → Option Nat} {F : Nat → Nat → Int} {A : Nat → Int → Int} {V : Nat → Int} (hS : ST sh R N F A V) {w x : Nat} (hw : isW sh R N w) (hx : isW sh R N x) : MetX l yX6_compareWith cX6_compareWith 2 (some (.int)) 1 22 D ids β sh N R F A [rf w, rf x] (pIr (sameI F A (sgc (V w) (V x)))) :=
  (m_compareWith l hw hx (hS w hw).1 (hS x hx).1).mono (fun r F' A' ⟨z, h1, h2, h3, h4⟩ => ⟨z, h1, by rw [h2, (hS w hw).2, (hS x hx).2], h3, h4⟩)
/-! GAUSS -/
def isG (sh : Nat → Nat × Nat) (R : Nat → Nat → Option Nat) (N g sp : Nat) : Prop := g < N ∧ sh g = (0, 1) ∧ R g 0 = some (g + 1) ∧ R g 1 = some (g + 3) ∧ R g 2 = some sp ∧ isW sh R N (g + 1) ∧ isW sh R N (g + 3) ∧ isW sh R N sp
/-- the spare Whole is no Gauss' part -/
def spG (sh : Nat → Nat × Nat) (R : Nat → Nat → Option Nat) (N sp : Nat) : Prop := ∀ x s, isG sh R N x s → sp ≠ x + 1 ∧ sp ≠ x + 3
theorem isG_ne {sh : Nat → Nat × Nat} {R : Nat → Nat → Option Nat} {N g x s t : Nat} (hg : isG sh R N g s) (hx : isG sh R N x t) (h : g ≠ x) : g + 1 ≠ x + 1 ∧ g + 1 ≠ x + 3 ∧ g + 3 ≠ x + 1 ∧ g + 3 ≠ x + 3 := by
  refine ⟨by omega, fun e => ?_, fun e => ?_, by omega⟩
  · have e2 : g = x + 1 + 1 := by omega
    have a := hg.2.1
    rw [e2, hx.2.2.2.2.2.1.2.2.1] at a
    cases a
  · have e2 : x = g + 1 + 1 := by omega
    have a := hx.2.1
    rw [e2, hg.2.2.2.2.2.1.2.2.1] at a
    cases a
/-- the numbers of a Gauss after an act on it: only it and the spare have changed -/
def GQ (sh : Nat → Nat × Nat) (R : Nat → Nat → Option Nat) (N : Nat) (F : Nat → Nat → Int) (A : Nat → Int → Int) (V : Nat → Int) (g sp : Nat) (re im : Int) : (Nat → Nat → Int) → (Nat → Int → Int) → Prop := fun F' A' =>
  ∃ V', SQ sh R N F A V' F' A' ∧ V' (g + 1) = re ∧ V' (g + 3) = im ∧ ∀ u, u ≠ g + 1 → u ≠ g + 3 → u ≠ sp → V' u = V u
theorem bd_sgn {n : Nat} {s v : Int} (hs : s = 1 ∨ s = -1) (h : bd n v) : bd n (s * v) := by
  rcases hs with rfl | rfl
  · rwa [Int.one_mul]
  · rw [show (-1 : Int) * v = -v by omega]; exact bd_neg h
theorem bd_add2 {a b c : Nat} {s x y : Int} (hs : s = 1 ∨ s = -1) (hx : bd a x) (hy : bd b y) (ha : a + 1 ≤ c) (hb : b + 1 ≤ c) : bd c (x + s * y) := bd_add hx (bd_sgn hs hy) ha hb
theorem dX1_product_0 : decode cX1_product 0 = .ok (.aload_n 0, 1) := by decide +kernel
theorem dX1_product_1 : decode cX1_product 1 = .ok (.getfield 10, 3) := by decide +kernel
theorem dX1_product_4 : decode cX1_product 4 = .ok (.aload_n 1, 1) := by decide +kernel
theorem dX1_product_5 : decode cX1_product 5 = .ok (.getfield 10, 3) := by decide +kernel
theorem dX1_product_8 : decode cX1_product 8 = .ok (.aload_n 2, 1) := by decide +kernel
theorem dX1_product_9 : decode cX1_product 9 = .ok (.getfield 10, 3) := by decide +kernel
theorem dX1_product_12 : decode cX1_product 12 = .ok (.invokevirtual 39, 3) := by decide +kernel
theorem dX1_product_15 : decode cX1_product 15 = .ok (.aload_n 0, 1) := by decide +kernel
theorem dX1_product_16 : decode cX1_product 16 = .ok (.getfield 19, 3) := by decide +kernel
theorem dX1_product_19 : decode cX1_product 19 = .ok (.aload_n 1, 1) := by decide +kernel
theorem dX1_product_20 : decode cX1_product 20 = .ok (.getfield 16, 3) := by decide +kernel
theorem dX1_product_23 : decode cX1_product 23 = .ok (.aload_n 2, 1) := by decide +kernel
theorem dX1_product_24 : decode cX1_product 24 = .ok (.getfield 16, 3) := by decide +kernel
theorem dX1_product_27 : decode cX1_product 27 = .ok (.invokevirtual 39, 3) := by decide +kernel
theorem dX1_product_30 : decode cX1_product 30 = .ok (.aload_n 0, 1) := by decide +kernel
theorem dX1_product_31 : decode cX1_product 31 = .ok (.getfield 10, 3) := by decide +kernel
theorem dX1_product_34 : decode cX1_product 34 = .ok (.aload_n 0, 1) := by decide +kernel
theorem dX1_product_35 : decode cX1_product 35 = .ok (.getfield 10, 3) := by decide +kernel
theorem dX1_product_38 : decode cX1_product 38 = .ok (.aload_n 0, 1) := by decide +kernel
theorem dX1_product_39 : decode cX1_product 39 = .ok (.getfield 19, 3) := by decide +kernel
theorem dX1_product_42 : decode cX1_product 42 = .ok (.iload_n 3, 1) := by decide +kernel
theorem dX1_product_43 : decode cX1_product 43 = .ok (.ineg, 1) := by decide +kernel
theorem dX1_product_44 : decode cX1_product 44 = .ok (.invokevirtual 43, 3) := by decide +kernel
theorem dX1_product_47 : decode cX1_product 47 = .ok (.aload_n 0, 1) := by decide +kernel
theorem dX1_product_48 : decode cX1_product 48 = .ok (.getfield 16, 3) := by decide +kernel
theorem dX1_product_51 : decode cX1_product 51 = .ok (.aload_n 1, 1) := by decide +kernel
theorem dX1_product_52 : decode cX1_product 52 = .ok (.getfield 16, 3) := by decide +kernel
theorem dX1_product_55 : decode cX1_product 55 = .ok (.aload_n 2, 1) := by decide +kernel
theorem dX1_product_56 : decode cX1_product 56 = .ok (.getfield 10, 3) := by decide +kernel
theorem dX1_product_59 : decode cX1_product 59 = .ok (.invokevirtual 39, 3) := by decide +kernel
theorem dX1_product_62 : decode cX1_product 62 = .ok (.aload_n 0, 1) := by decide +kernel
theorem dX1_product_63 : decode cX1_product 63 = .ok (.getfield 19, 3) := by decide +kernel
theorem dX1_product_66 : decode cX1_product 66 = .ok (.aload_n 1, 1) := by decide +kernel
theorem dX1_product_67 : decode cX1_product 67 = .ok (.getfield 10, 3) := by decide +kernel
theorem dX1_product_70 : decode cX1_product 70 = .ok (.aload_n 2, 1) := by decide +kernel
theorem dX1_product_71 : decode cX1_product 71 = .ok (.getfield 16, 3) := by decide +kernel
theorem dX1_product_74 : decode cX1_product 74 = .ok (.invokevirtual 39, 3) := by decide +kernel
theorem dX1_product_77 : decode cX1_product 77 = .ok (.aload_n 0, 1) := by decide +kernel
theorem dX1_product_78 : decode cX1_product 78 = .ok (.getfield 16, 3) := by decide +kernel
theorem dX1_product_81 : decode cX1_product 81 = .ok (.aload_n 0, 1) := by decide +kernel
theorem dX1_product_82 : decode cX1_product 82 = .ok (.getfield 16, 3) := by decide +kernel
theorem dX1_product_85 : decode cX1_product 85 = .ok (.aload_n 0, 1) := by decide +kernel
theorem dX1_product_86 : decode cX1_product 86 = .ok (.getfield 19, 3) := by decide +kernel
theorem dX1_product_89 : decode cX1_product 89 = .ok (.iload_n 3, 1) := by decide +kernel
theorem dX1_product_90 : decode cX1_product 90 = .ok (.invokevirtual 43, 3) := by decide +kernel
theorem dX1_product_93 : decode cX1_product 93 = .ok (.return_, 1) := by decide +kernel
set_option maxHeartbeats 4000000 in
theorem m_gproduct (l : Launch) {D : va_G} {ids : Nat → ClassId} {β : Nat} {sh : Nat → Nat × Nat} {N : Nat} {R : Nat → Nat → Option Nat} {F : Nat → Nat → Int} {A : Nat → Int → Int} {V : Nat → Int} (hS : ST sh R N F A V) {g x y sp tx ty a b : Nat} {s0 : Int} (hg : isG sh R N g sp) (hx : isG sh R N x tx) (hy : isG sh R N y ty) (ngx : g ≠ x) (ngy : g ≠ y) (hsp : spG sh R N sp) (hs : s0 = 1 ∨ s0 = -1) (bx : bd a (V (x + 1)) ∧ bd a (V (x + 3))) (by0 : bd b (V (y + 1)) ∧ bd b (V (y + 3))) (hab : (a + 8) / 9 + (b + 8) / 9 ≤ 80 ∧ a + b ≤ 711) : MetX l yX1_product cX1_product 4 none 3 86 D ids β sh N R F A [rf g, rf x, rf y, pI s0] (pVr (GQ sh R N F A V g sp (V (x + 1) * V (y + 1) - s0 * (V (x + 3) * V (y + 3))) (V (x + 3) * V (y + 1) + s0 * (V (x + 1) * V (y + 3))))) := by
  refine MetX.of (loc := [_, _, _, _]) (plainFor_of_name (by decide +kernel)) (Nat.le_of_ble_eq_true rfl) rfl ?_
  intro p e s m args below meth c hC hK hr hlk
  obtain ⟨g1, g2, g3, g4, g5, g6, g7, g8⟩ := id hg
  obtain ⟨x1, x2, x3, x4, x5, x6, x7, x8⟩ := id hx
  obtain ⟨y1, y2, y3, y4, y5, y6, y7, y8⟩ := id hy
  obtain ⟨-, n1, n2, -⟩ := isG_ne hg hx ngx
  obtain ⟨-, n3, n4, -⟩ := isG_ne hg hy ngy
  obtain ⟨p1, p2⟩ := hsp g _ hg
  obtain ⟨p3, p4⟩ := hsp x _ hx
  obtain ⟨p5, p6⟩ := hsp y _ hy
  have q0 : g6.1 = g6.1 := rfl
  have gr : g + 1 < N := by have := g6.1; omega
  have gi : g + 3 < N := by have := g7.1; omega
  have gs : sp < N := by have := g8.1; omega
  have gr2 := g6.2.1
  have gi2 := g7.2.1
  have gs2 := g8.2.1
  refine x_aload_n (pc2 := 1) hC rfl rfl dX1_product_0 rfl ?_
  refine g_158 (pc2 := 4) hC hK (by assumption) (by assumption) (by assumption) dX1_product_1 rfl ?_
  refine x_aload_n (pc2 := 5) hC rfl rfl dX1_product_4 rfl ?_
  refine g_158 (pc2 := 8) hC hK (by assumption) (by assumption) (by assumption) dX1_product_5 rfl ?_
  refine x_aload_n (pc2 := 9) hC rfl rfl dX1_product_8 rfl ?_
  refine g_158 (pc2 := 12) hC hK (by assumption) (by assumption) (by assumption) dX1_product_9 rfl ?_
  refine x_cVv (pc2 := 15) (ci := 6) hC hK (s_product l hS g6 x6 y6 (by omega) (by omega) bx.1 by0.1 hab.1) lk_496 rfl rfl (by decide) (by assumption) (by assumption) ⟨Nat.le_of_ble_eq_true rfl, Nat.le_of_ble_eq_true rfl⟩ ⟨Nat.le_refl _, Nat.le_refl _⟩ rfl (Nat.le_of_ble_eq_true rfl) dX1_product_12 rfl ?_
  rintro F1 A1 ⟨S1, f1⟩
  refine x_aload_n (pc2 := 16) hC rfl rfl dX1_product_15 rfl ?_
  refine g_167 (pc2 := 19) hC hK (by assumption) (by assumption) (by assumption) dX1_product_16 rfl ?_
  refine x_aload_n (pc2 := 20) hC rfl rfl dX1_product_19 rfl ?_
  refine g_163 (pc2 := 23) hC hK (by assumption) (by assumption) (by assumption) dX1_product_20 rfl ?_
  refine x_aload_n (pc2 := 24) hC rfl rfl dX1_product_23 rfl ?_
  refine g_163 (pc2 := 27) hC hK (by assumption) (by assumption) (by assumption) dX1_product_24 rfl ?_
  refine x_cVv (pc2 := 30) (ci := 6) hC hK (s_product l S1 g8 x7 y7 (by omega) (by omega) (a := a) (b := b) (by rw [upV_ne (by omega)]; exact bx.2) (by rw [upV_ne (by omega)]; exact by0.2) hab.1) lk_496 rfl rfl (by decide) (by assumption) (by assumption) ⟨Nat.le_of_ble_eq_true rfl, Nat.le_of_ble_eq_true rfl⟩ ⟨Nat.le_refl _, Nat.le_refl _⟩ rfl (Nat.le_of_ble_eq_true rfl) dX1_product_27 rfl ?_
  rintro F2 A2 ⟨S2, f2⟩
  refine x_aload_n (pc2 := 31) hC rfl rfl dX1_product_30 rfl ?_
  refine g_158 (pc2 := 34) hC hK (by assumption) (by assumption) (by assumption) dX1_product_31 rfl ?_
  refine x_aload_n (pc2 := 35) hC rfl rfl dX1_product_34 rfl ?_
  refine g_158 (pc2 := 38) hC hK (by assumption) (by assumption) (by assumption) dX1_product_35 rfl ?_
  refine x_aload_n (pc2 := 39) hC rfl rfl dX1_product_38 rfl ?_
  refine g_167 (pc2 := 42) hC hK (by assumption) (by assumption) (by assumption) dX1_product_39 rfl ?_
  refine x_iload_n (pc2 := 43) hC rfl rfl dX1_product_42 rfl ?_
  refine x_ineg (pc2 := 44) hC dX1_product_43 rfl ?_
  refine x_cVv (pc2 := 47) (ci := 6) hC hK (s_sum l S2 g6 g6 g8 (by omega) (a := a + b) (b := a + b) (by rw [upV_ne (by omega), upV_eq]; exact bd_mul bx.1 by0.1 (Nat.le_refl _)) (by rw [upV_eq, upV_ne (by omega), upV_ne (by omega)]; exact bd_mul bx.2 by0.2 (Nat.le_refl _)) ⟨hab.2, hab.2⟩) lk_507 rfl rfl (by decide) (by assumption) (by assumption) ⟨Nat.le_of_ble_eq_true rfl, Nat.le_of_ble_eq_true rfl⟩ ⟨Nat.le_refl _, Nat.le_refl _⟩ rfl (Nat.le_of_ble_eq_true rfl) dX1_product_44 rfl ?_
  rintro F3 A3 ⟨S3, f3⟩
  refine x_aload_n (pc2 := 48) hC rfl rfl dX1_product_47 rfl ?_
  refine g_163 (pc2 := 51) hC hK (by assumption) (by assumption) (by assumption) dX1_product_48 rfl ?_
  refine x_aload_n (pc2 := 52) hC rfl rfl dX1_product_51 rfl ?_
  refine g_163 (pc2 := 55) hC hK (by assumption) (by assumption) (by assumption) dX1_product_52 rfl ?_
  refine x_aload_n (pc2 := 56) hC rfl rfl dX1_product_55 rfl ?_
  refine g_158 (pc2 := 59) hC hK (by assumption) (by assumption) (by assumption) dX1_product_56 rfl ?_
  refine x_cVv (pc2 := 62) (ci := 6) hC hK (s_product l S3 g7 x7 y6 (by omega) (by omega) (a := a) (b := b) (by rw [upV_ne (by omega), upV_ne (by omega), upV_ne (by omega)]; exact bx.2) (by rw [upV_ne (by omega), upV_ne (by omega), upV_ne (by omega)]; exact by0.1) hab.1) lk_496 rfl rfl (by decide) (by assumption) (by assumption) ⟨Nat.le_of_ble_eq_true rfl, Nat.le_of_ble_eq_true rfl⟩ ⟨Nat.le_refl _, Nat.le_refl _⟩ rfl (Nat.le_of_ble_eq_true rfl) dX1_product_59 rfl ?_
  rintro F4 A4 ⟨S4, f4⟩
  refine x_aload_n (pc2 := 63) hC rfl rfl dX1_product_62 rfl ?_
  refine g_167 (pc2 := 66) hC hK (by assumption) (by assumption) (by assumption) dX1_product_63 rfl ?_
  refine x_aload_n (pc2 := 67) hC rfl rfl dX1_product_66 rfl ?_
  refine g_158 (pc2 := 70) hC hK (by assumption) (by assumption) (by assumption) dX1_product_67 rfl ?_
  refine x_aload_n (pc2 := 71) hC rfl rfl dX1_product_70 rfl ?_
  refine g_163 (pc2 := 74) hC hK (by assumption) (by assumption) (by assumption) dX1_product_71 rfl ?_
  refine x_cVv (pc2 := 77) (ci := 6) hC hK (s_product l S4 g8 x6 y7 (by omega) (by omega) (a := a) (b := b) (by rw [upV_ne (by omega), upV_ne (by omega), upV_ne (by omega), upV_ne (by omega)]; exact bx.1) (by rw [upV_ne (by omega), upV_ne (by omega), upV_ne (by omega), upV_ne (by omega)]; exact by0.2) hab.1) lk_496 rfl rfl (by decide) (by assumption) (by assumption) ⟨Nat.le_of_ble_eq_true rfl, Nat.le_of_ble_eq_true rfl⟩ ⟨Nat.le_refl _, Nat.le_refl _⟩ rfl (Nat.le_of_ble_eq_true rfl) dX1_product_74 rfl ?_
  rintro F5 A5 ⟨S5, f5⟩
  refine x_aload_n (pc2 := 78) hC rfl rfl dX1_product_77 rfl ?_
  refine g_163 (pc2 := 81) hC hK (by assumption) (by assumption) (by assumption) dX1_product_78 rfl ?_
  refine x_aload_n (pc2 := 82) hC rfl rfl dX1_product_81 rfl ?_
  refine g_163 (pc2 := 85) hC hK (by assumption) (by assumption) (by assumption) dX1_product_82 rfl ?_
  refine x_aload_n (pc2 := 86) hC rfl rfl dX1_product_85 rfl ?_
  refine g_167 (pc2 := 89) hC hK (by assumption) (by assumption) (by assumption) dX1_product_86 rfl ?_
  refine x_iload_n (pc2 := 90) hC rfl rfl dX1_product_89 rfl ?_
  refine x_cVv (pc2 := 93) (ci := 6) hC hK (s_sum l S5 g7 g7 g8 hs (a := a + b) (b := a + b) (by rw [upV_ne (by omega), upV_eq, upV_ne (by omega), upV_ne (by omega), upV_ne (by omega), upV_ne (by omega), upV_ne (by omega), upV_ne (by omega)]; exact bd_mul bx.2 by0.1 (Nat.le_refl _)) (by rw [upV_eq, upV_ne (by omega), upV_ne (by omega), upV_ne (by omega), upV_ne (by omega), upV_ne (by omega), upV_ne (by omega), upV_ne (by omega), upV_ne (by omega)]; exact bd_mul bx.1 by0.2 (Nat.le_refl _)) ⟨hab.2, hab.2⟩) lk_507 rfl rfl (by decide) (by assumption) (by assumption) ⟨Nat.le_of_ble_eq_true rfl, Nat.le_of_ble_eq_true rfl⟩ ⟨Nat.le_refl _, Nat.le_refl _⟩ rfl (Nat.le_of_ble_eq_true rfl) dX1_product_90 rfl ?_
  rintro F6 A6 ⟨S6, f6⟩
  refine x_vret hC hr hlk ⟨rfl, _, ⟨S6, ((((f1.tr f2).tr f3).tr f4).tr f5).tr f6⟩, ?_, ?_, fun u u1 u2 u3 => ?_⟩ dX1_product_93
  · simp [upV, n1, n2, n3, n4, p1, p2, p3, p4, p5, p6, Ne.symm n1, Ne.symm n2, Ne.symm n3, Ne.symm n4, Ne.symm p1, Ne.symm p2, Ne.symm p3, Ne.symm p4, Ne.symm p5, Ne.symm p6, show x ≠ g from Ne.symm ngx, show y ≠ g from Ne.symm ngy, show x ≠ g + 2 by omega, show y ≠ g + 2 by omega, show g ≠ x + 2 by omega, show g ≠ y + 2 by omega]; grind
  · simp [upV, n1, n2, n3, n4, p1, p2, p3, p4, p5, p6, Ne.symm n1, Ne.symm n2, Ne.symm n3, Ne.symm n4, Ne.symm p1, Ne.symm p2, Ne.symm p3, Ne.symm p4, Ne.symm p5, Ne.symm p6, show x ≠ g from Ne.symm ngx, show y ≠ g from Ne.symm ngy, show x ≠ g + 2 by omega, show y ≠ g + 2 by omega, show g ≠ x + 2 by omega, show g ≠ y + 2 by omega]
  · simp [upV, u1, u2, u3]
