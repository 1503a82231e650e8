/-! RATIOS -/
abbrev CI : Type := Int × Int
def cmul (a b : CI) : CI := (a.1 * b.1 - a.2 * b.2, a.2 * b.1 + a.1 * b.2)
def cadd (a b : CI) : CI := (a.1 + b.1, a.2 + b.2)
def csub (a b : CI) : CI := (a.1 - b.1, a.2 - b.2)
def cconj (a : CI) : CI := (a.1, -a.2)
def cre (x : Int) : CI := (x, 0)
def csgn (s : Int) (a b : CI) : CI := (a.1 + s * b.1, a.2 + s * b.2)
/-- the number of a Gauss -/
def cx (V : Nat → Int) (g : Nat) : CI := (V (g + 1), V (g + 3))
def bdc (n : Nat) (p : CI) : Prop := bd n p.1 ∧ bd n p.2
theorem bdc_mono {n m : Nat} {p : CI} (h : bdc n p) (hnm : n ≤ m) : bdc m p := ⟨bd_mono h.1 hnm, bd_mono h.2 hnm⟩
theorem bdc_mul {a b c : Nat} {x y : CI} (hx : bdc a x) (hy : bdc b y) (hc : a + b + 1 ≤ c) : bdc c (cmul x y) :=
  ⟨by unfold cmul; rw [show x.1 * y.1 - x.2 * y.2 = x.1 * y.1 + -(x.2 * y.2) by omega]; exact bd_add (bd_mul hx.1 hy.1 (Nat.le_refl _)) (bd_neg (bd_mul hx.2 hy.2 (Nat.le_refl _))) hc hc, bd_add (bd_mul hx.2 hy.1 (Nat.le_refl _)) (bd_mul hx.1 hy.2 (Nat.le_refl _)) hc hc⟩
theorem bdc_sgn {a b c : Nat} {s : Int} {x y : CI} (hs : s = 1 ∨ s = -1) (hx : bdc a x) (hy : bdc b y) (ha : a + 1 ≤ c) (hb : b + 1 ≤ c) : bdc c (csgn s x y) := ⟨bd_add2 hs hx.1 hy.1 ha hb, bd_add2 hs hx.2 hy.2 ha hb⟩
theorem GQ.c {sh : Nat → Nat × Nat} {R : Nat → Nat → Option Nat} {N : Nat} {F : Nat → Nat → Int} {A : Nat → Int → Int} {V : Nat → Int} {g sp : Nat} {re im : Int} {F' : Nat → Nat → Int} {A' : Nat → Int → Int} (h : GQ sh R N F A V g sp re im F' A') : ∃ V', SQ sh R N F A V' F' A' ∧ cx V' g = (re, im) ∧ ∀ u, u ≠ g + 1 → u ≠ g + 3 → u ≠ sp → V' u = V u := by
  obtain ⟨V', h1, h2, h3, h4⟩ := h
  exact ⟨V', h1, by rw [cx, h2, h3], h4⟩
def isRt (sh : Nat → Nat × Nat) (R : Nat → Nat → Option Nat) (N r sg sp : Nat) : Prop := r < N ∧ sh r = (0, 4) ∧ R r 0 = some (r + 1) ∧ R r 1 = some (r + 6) ∧ R r 2 = some sg ∧ isG sh R N (r + 1) sp ∧ isG sh R N (r + 6) sp ∧ isG sh R N sg sp
def sgR (sh : Nat → Nat × Nat) (R : Nat → Nat → Option Nat) (N sg : Nat) : Prop := ∀ x s t, isRt sh R N x s t → sg ≠ x + 1 ∧ sg ≠ x + 6
def RQ (sh : Nat → Nat × Nat) (R : Nat → Nat → Option Nat) (N : Nat) (F : Nat → Nat → Int) (A : Nat → Int → Int) (V : Nat → Int) (r sg sp : Nat) (ov un : CI) : (Nat → Nat → Int) → (Nat → Int → Int) → Prop := fun F' A' =>
  ∃ V', SQ sh R N F A V' F' A' ∧ cx V' (r + 1) = ov ∧ cx V' (r + 6) = un ∧ ∀ u, u ≠ r + 2 → u ≠ r + 4 → u ≠ r + 7 → u ≠ r + 9 → u ≠ sp → u ≠ sg + 1 → u ≠ sg + 3 → V' u = V u
theorem rt_ne {sh : Nat → Nat × Nat} {R : Nat → Nat → Option Nat} {N r x s t s2 t2 : Nat} (hr : isRt sh R N r s t) (hx : isRt sh R N x s2 t2) (h : r ≠ x) : (r ≠ x + 2 ∧ r ≠ x + 3 ∧ r ≠ x + 5 ∧ r ≠ x + 7) ∧ (x ≠ r + 2 ∧ x ≠ r + 3 ∧ x ≠ r + 5 ∧ x ≠ r + 7) := by
  have key : ∀ {r x s t s2 t2 : Nat}, isRt sh R N r s t → isRt sh R N x s2 t2 → r ≠ x → r ≠ x + 2 ∧ r ≠ x + 3 ∧ r ≠ x + 5 ∧ r ≠ x + 7 := fun {r x s t s2 t2} hr hx h => by
    have a := hr.2.1
    have g1 := hx.2.2.2.2.2.1
    have g2 := hx.2.2.2.2.2.2.1
    have w1 := g1.2.2.2.2.2.1.2.1
    have w2 := g1.2.2.2.2.2.1.2.2.1
    have w3 := g1.2.2.2.2.2.2.1.2.2.1
    have w4 := g2.2.2.2.2.2.1.2.1
    refine ⟨fun e => ?_, fun e => ?_, fun e => ?_, fun e => ?_⟩
    · rw [show r = x + 1 + 1 by omega, w1] at a; cases a
    · rw [show r = x + 1 + 1 + 1 by omega, w2] at a; cases a
    · rw [show r = x + 1 + 3 + 1 by omega, w3] at a; cases a
    · rw [show r = x + 6 + 1 by omega, w4] at a; cases a
  exact ⟨key hr hx h, key hx hr (Ne.symm h)⟩
theorem tr_g {sh : Nat → Nat × Nat} {R : Nat → Nat → Option Nat} {N g p sp tp : Nat} {V V' : Nat → Int} (hg : isG sh R N g sp) (hp : isG sh R N p tp) (h : g ≠ p) (hsp : spG sh R N sp) (v : ∀ u, u ≠ g + 1 → u ≠ g + 3 → u ≠ sp → V' u = V u) : cx V' p = cx V p := by
  obtain ⟨a, b, c, d⟩ := isG_ne hg hp h
  obtain ⟨e, f⟩ := hsp p _ hp
  rw [cx, cx, v _ (Ne.symm a) (Ne.symm c) (Ne.symm e), v _ (Ne.symm b) (Ne.symm d) (Ne.symm f)]
theorem rt_g {sh : Nat → Nat × Nat} {R : Nat → Nat → Option Nat} {N r x s t s2 t2 : Nat} (hr : isRt sh R N r s t) (hx : isRt sh R N x s2 t2) (h : r ≠ x) : (r + 1 ≠ x + 1 ∧ r + 1 ≠ x + 6) ∧ (r + 6 ≠ x + 1 ∧ r + 6 ≠ x + 6) := by
  obtain ⟨⟨-, -, c, -⟩, ⟨-, -, d, -⟩⟩ := rt_ne hr hx h
  exact ⟨⟨by omega, by omega⟩, ⟨by omega, by omega⟩⟩
theorem n16 (r : Nat) : r + 1 ≠ r + 6 := by omega
theorem dX4_load_0 : decode cX4_load 0 = .ok (.aload_n 0, 1) := by decide +kernel
theorem dX4_load_1 : decode cX4_load 1 = .ok (.getfield 14, 3) := by decide +kernel
theorem dX4_load_4 : decode cX4_load 4 = .ok (.getfield 33, 3) := by decide +kernel
theorem dX4_load_7 : decode cX4_load 7 = .ok (.aload_n 1, 1) := by decide +kernel
theorem dX4_load_8 : decode cX4_load 8 = .ok (.iload_n 2, 1) := by decide +kernel
theorem dX4_load_9 : decode cX4_load 9 = .ok (.invokevirtual 37, 3) := by decide +kernel
theorem dX4_load_12 : decode cX4_load 12 = .ok (.aload_n 0, 1) := by decide +kernel
theorem dX4_load_13 : decode cX4_load 13 = .ok (.getfield 14, 3) := by decide +kernel
theorem dX4_load_16 : decode cX4_load 16 = .ok (.getfield 43, 3) := by decide +kernel
theorem dX4_load_19 : decode cX4_load 19 = .ok (.aload_n 1, 1) := by decide +kernel
theorem dX4_load_20 : decode cX4_load 20 = .ok (.iload_n 2, 1) := by decide +kernel
theorem dX4_load_21 : decode cX4_load 21 = .ok (.iconst 3, 1) := by decide +kernel
theorem dX4_load_22 : decode cX4_load 22 = .ok (.iadd, 1) := by decide +kernel
theorem dX4_load_23 : decode cX4_load 23 = .ok (.invokevirtual 37, 3) := by decide +kernel
theorem dX4_load_26 : decode cX4_load 26 = .ok (.aload_n 0, 1) := by decide +kernel
theorem dX4_load_27 : decode cX4_load 27 = .ok (.getfield 20, 3) := by decide +kernel
theorem dX4_load_30 : decode cX4_load 30 = .ok (.getfield 33, 3) := by decide +kernel
theorem dX4_load_33 : decode cX4_load 33 = .ok (.aload_n 1, 1) := by decide +kernel
theorem dX4_load_34 : decode cX4_load 34 = .ok (.iload_n 2, 1) := by decide +kernel
theorem dX4_load_35 : decode cX4_load 35 = .ok (.bipush 6, 2) := by decide +kernel
theorem dX4_load_37 : decode cX4_load 37 = .ok (.iadd, 1) := by decide +kernel
theorem dX4_load_38 : decode cX4_load 38 = .ok (.invokevirtual 37, 3) := by decide +kernel
theorem dX4_load_41 : decode cX4_load 41 = .ok (.aload_n 0, 1) := by decide +kernel
theorem dX4_load_42 : decode cX4_load 42 = .ok (.getfield 20, 3) := by decide +kernel
theorem dX4_load_45 : decode cX4_load 45 = .ok (.getfield 43, 3) := by decide +kernel
theorem dX4_load_48 : decode cX4_load 48 = .ok (.invokevirtual 46, 3) := by decide +kernel
theorem dX4_load_51 : decode cX4_load 51 = .ok (.return_, 1) := by decide +kernel
set_option maxHeartbeats 4000000 in
theorem m_rload (l : Launch) {D : va_G} {ids : Nat → ClassId} {β : Nat} {sh : Nat → Nat × Nat} {N : Nat} {R : Nat → Nat → Option Nat} {F : Nat → Nat → Int} {A : Nat → Int → Int} {V : Nat → Int} (hS : ST sh R N F A V) {r sg sp ca cn : Nat} {i : Int} (hrt : isRt sh R N r sg sp) (hc : ca < N) (hcs : sh ca = (1, cn)) (hc8 : cn ≠ 80) (hi : 0 ≤ i ∧ i + 9 ≤ cn) (hcn : cn ≤ 1000000000) (h0 : triOK (A ca) i) (h1 : triOK (A ca) (i + 3)) (h2 : triOK (A ca) (i + 6)) : MetX l yX4_load cX4_load 3 none 2 48 D ids β sh N R F A [rf r, rf ca, pI i] (pVr (RQ sh R N F A V r sg sp (tri (A ca) i, tri (A ca) (i + 3)) (cre (tri (A ca) (i + 6))))) := by
  refine MetX.of (loc := [_, _, _]) (plainFor_of_name (by decide +kernel)) (Nat.le_of_ble_eq_true rfl) rfl ?_
  intro p e s m args below meth c hC hK hr hlk
  have ro := hrt.2.2.2.2.2.1
  have ru := hrt.2.2.2.2.2.2.1
  have roN := ro.1
  have ruN := ru.1
  have roS := ro.2.1
  have ruS := ru.2.1
  obtain ⟨r1, r2, r3, r4, r5, -⟩ := id hrt
  obtain ⟨-, -, o3, o4, -, o6, o7, -⟩ := id ro
  obtain ⟨-, -, u3, u4, -, u6, u7, -⟩ := id ru
  have oa2 := o6.2.1
  have ob2 := o7.2.1
  have ua2 := u6.2.1
  have ub2 := u7.2.1
  have oaN : r + 1 + 1 < N := Nat.lt_trans (Nat.lt_succ_self _) o6.1
  have obN : r + 1 + 3 < N := Nat.lt_trans (Nat.lt_succ_self _) o7.1
  have uaN : r + 6 + 1 < N := Nat.lt_trans (Nat.lt_succ_self _) u6.1
  have ubN : r + 6 + 3 < N := Nat.lt_trans (Nat.lt_succ_self _) u7.1
  have nc : sh ca ≠ (1, 80) := fun q => by rw [hcs] at q; cases q; omega
  refine x_aload_n (pc2 := 1) hC rfl rfl dX4_load_0 rfl ?_
  refine g_223 (pc2 := 4) hC hK (by assumption) (by assumption) (by assumption) dX4_load_1 rfl ?_
  refine g_161 (pc2 := 7) hC hK (by assumption) (by assumption) (by assumption) dX4_load_4 rfl ?_
  refine x_aload_n (pc2 := 8) hC rfl rfl dX4_load_7 rfl ?_
  refine x_iload_n (pc2 := 9) hC rfl rfl dX4_load_8 rfl ?_
  refine x_cVv (pc2 := 12) (ci := 6) hC hK (s_load l hS o6 hc hcs hc8 ⟨by omega, by omega⟩ (by omega) h0) lk_482 rfl rfl (by decide) (by assumption) (by assumption) ⟨Nat.le_of_ble_eq_true rfl, Nat.le_of_ble_eq_true rfl⟩ ⟨Nat.le_refl _, Nat.le_refl _⟩ rfl (Nat.le_of_ble_eq_true rfl) dX4_load_9 rfl ?_
  rintro F1 A1 ⟨S1, f1⟩
  have e1 : A1 ca = A ca := f1.2 ca nc
  refine x_aload_n (pc2 := 13) hC rfl rfl dX4_load_12 rfl ?_
  refine g_223 (pc2 := 16) hC hK (by assumption) (by assumption) (by assumption) dX4_load_13 rfl ?_
  refine g_165 (pc2 := 19) hC hK (by assumption) (by assumption) (by assumption) dX4_load_16 rfl ?_
  refine x_aload_n (pc2 := 20) hC rfl rfl dX4_load_19 rfl ?_
  refine x_iload_n (pc2 := 21) hC rfl rfl dX4_load_20 rfl ?_
  refine x_iconst (pc2 := 22) hC dX4_load_21 rfl ?_
  refine x_iadd (pc2 := 23) hC dX4_load_22 rfl ?_
  refine x_cVv (pc2 := 26) (ci := 6) hC hK (s_load l S1 o7 hc hcs hc8 ⟨by omega, by omega⟩ (by omega) (by rw [e1]; exact h1)) lk_482 rfl rfl (by decide) (by assumption) (by assumption) ⟨Nat.le_of_ble_eq_true rfl, Nat.le_of_ble_eq_true rfl⟩ ⟨Nat.le_refl _, Nat.le_refl _⟩ rfl (Nat.le_of_ble_eq_true rfl) dX4_load_23 rfl ?_
  rintro F2 A2 ⟨S2, f2⟩
  have e2 : A2 ca = A ca := (f2.2 ca nc).trans e1
  refine x_aload_n (pc2 := 27) hC rfl rfl dX4_load_26 rfl ?_
  refine g_226 (pc2 := 30) hC hK (by assumption) (by assumption) (by assumption) dX4_load_27 rfl ?_
  refine g_161 (pc2 := 33) hC hK (by assumption) (by assumption) (by assumption) dX4_load_30 rfl ?_
  refine x_aload_n (pc2 := 34) hC rfl rfl dX4_load_33 rfl ?_
  refine x_iload_n (pc2 := 35) hC rfl rfl dX4_load_34 rfl ?_
  refine x_bipush (pc2 := 37) hC rfl dX4_load_35 rfl ?_
  refine x_iadd (pc2 := 38) hC dX4_load_37 rfl ?_
  refine x_cVv (pc2 := 41) (ci := 6) hC hK (s_load l S2 u6 hc hcs hc8 ⟨by omega, by omega⟩ (by omega) (by rw [e2]; exact h2)) lk_482 rfl rfl (by decide) (by assumption) (by assumption) ⟨Nat.le_of_ble_eq_true rfl, Nat.le_of_ble_eq_true rfl⟩ ⟨Nat.le_refl _, Nat.le_refl _⟩ rfl (Nat.le_of_ble_eq_true rfl) dX4_load_38 rfl ?_
  rintro F3 A3 ⟨S3, f3⟩
  refine x_aload_n (pc2 := 42) hC rfl rfl dX4_load_41 rfl ?_
  refine g_226 (pc2 := 45) hC hK (by assumption) (by assumption) (by assumption) dX4_load_42 rfl ?_
  refine g_165 (pc2 := 48) hC hK (by assumption) (by assumption) (by assumption) dX4_load_45 rfl ?_
  refine x_cVv (pc2 := 51) (ci := 6) hC hK (s_clear l S3 u7) lk_487 rfl rfl (by decide) (by assumption) (by assumption) ⟨Nat.le_of_ble_eq_true rfl, Nat.le_of_ble_eq_true rfl⟩ ⟨Nat.le_refl _, Nat.le_refl _⟩ rfl (Nat.le_of_ble_eq_true rfl) dX4_load_48 rfl ?_
  rintro F4 A4 ⟨S4, f4⟩
  exact x_vret hC hr hlk ⟨rfl, _, ⟨S4, ((f1.tr f2).tr f3).tr f4⟩, by rw [cx, upV_ne (by omega), upV_ne (by omega), upV_ne (by omega), upV_eq, upV_ne (by omega), upV_ne (by omega), upV_eq, e1], by rw [cx, upV_ne (by omega), upV_eq, upV_eq, e2]; rfl, fun u q1 q2 q3 q4 _ _ _ => by rw [upV_ne q4, upV_ne q3, upV_ne q2, upV_ne q1]⟩ dX4_load_51
theorem dX4_product_0 : decode cX4_product 0 = .ok (.aload_n 0, 1) := by decide +kernel
theorem dX4_product_1 : decode cX4_product 1 = .ok (.getfield 14, 3) := by decide +kernel
theorem dX4_product_4 : decode cX4_product 4 = .ok (.aload_n 1, 1) := by decide +kernel
theorem dX4_product_5 : decode cX4_product 5 = .ok (.getfield 14, 3) := by decide +kernel
theorem dX4_product_8 : decode cX4_product 8 = .ok (.aload_n 2, 1) := by decide +kernel
theorem dX4_product_9 : decode cX4_product 9 = .ok (.getfield 14, 3) := by decide +kernel
theorem dX4_product_12 : decode cX4_product 12 = .ok (.iconst 1, 1) := by decide +kernel
theorem dX4_product_13 : decode cX4_product 13 = .ok (.invokevirtual 53, 3) := by decide +kernel
theorem dX4_product_16 : decode cX4_product 16 = .ok (.aload_n 0, 1) := by decide +kernel
theorem dX4_product_17 : decode cX4_product 17 = .ok (.getfield 20, 3) := by decide +kernel
theorem dX4_product_20 : decode cX4_product 20 = .ok (.aload_n 1, 1) := by decide +kernel
theorem dX4_product_21 : decode cX4_product 21 = .ok (.getfield 20, 3) := by decide +kernel
theorem dX4_product_24 : decode cX4_product 24 = .ok (.aload_n 2, 1) := by decide +kernel
theorem dX4_product_25 : decode cX4_product 25 = .ok (.getfield 20, 3) := by decide +kernel
theorem dX4_product_28 : decode cX4_product 28 = .ok (.iconst 1, 1) := by decide +kernel
theorem dX4_product_29 : decode cX4_product 29 = .ok (.invokevirtual 53, 3) := by decide +kernel
theorem dX4_product_32 : decode cX4_product 32 = .ok (.return_, 1) := by decide +kernel
set_option maxHeartbeats 4000000 in
theorem m_rproduct (l : Launch) {D : va_G} {ids : Nat → ClassId} {β : Nat} {sh : Nat → Nat × Nat} {N : Nat} {R : Nat → Nat → Option Nat} {F : Nat → Nat → Int} {A : Nat → Int → Int} {V : Nat → Int} (hS : ST sh R N F A V) {r x y sg sp sx sy tx ty a b : Nat} (hrt : isRt sh R N r sg sp) (hx : isRt sh R N x sx tx) (hy : isRt sh R N y sy ty) (nrx : r ≠ x) (nry : r ≠ y) (hsp : spG sh R N sp) (hsg : sgR sh R N sg) (box : bdc a (cx V (x + 1))) (bux : bdc a (cx V (x + 6))) (boy : bdc b (cx V (y + 1))) (buy : bdc b (cx V (y + 6))) (hab : (a + 8) / 9 + (b + 8) / 9 ≤ 80 ∧ a + b ≤ 711) : MetX l yX4_product cX4_product 3 none 4 109 D ids β sh N R F A [rf r, rf x, rf y] (pVr (RQ sh R N F A V r sg sp (cmul (cx V (x + 1)) (cx V (y + 1))) (cmul (cx V (x + 6)) (cx V (y + 6))))) := by
  refine MetX.of (loc := [_, _, _]) (plainFor_of_name (by decide +kernel)) (Nat.le_of_ble_eq_true rfl) rfl ?_
  intro p e s m args below meth c hC hK hr hlk
  have ro := hrt.2.2.2.2.2.1
  have ru := hrt.2.2.2.2.2.2.1
  have roN := ro.1
  have ruN := ru.1
  have roS := ro.2.1
  have ruS := ru.2.1
  obtain ⟨r1, r2, r3, r4, r5, -⟩ := id hrt
  have xo := hx.2.2.2.2.2.1
  have xu := hx.2.2.2.2.2.2.1
  have xoN := xo.1
  have xuN := xu.1
  have xoS := xo.2.1
  have xuS := xu.2.1
  obtain ⟨x1, x2, x3, x4, x5, -⟩ := id hx
  have yo := hy.2.2.2.2.2.1
  have yu := hy.2.2.2.2.2.2.1
  have yoN := yo.1
  have yuN := yu.1
  have yoS := yo.2.1
  have yuS := yu.2.1
  obtain ⟨y1, y2, y3, y4, y5, -⟩ := id hy
  have n1 := rt_g hrt hx nrx
  have n2 := rt_g hrt hy nry
  refine x_aload_n (pc2 := 1) hC rfl rfl dX4_product_0 rfl ?_
  refine g_223 (pc2 := 4) hC hK (by assumption) (by assumption) (by assumption) dX4_product_1 rfl ?_
  refine x_aload_n (pc2 := 5) hC rfl rfl dX4_product_4 rfl ?_
  refine g_223 (pc2 := 8) hC hK (by assumption) (by assumption) (by assumption) dX4_product_5 rfl ?_
  refine x_aload_n (pc2 := 9) hC rfl rfl dX4_product_8 rfl ?_
  refine g_223 (pc2 := 12) hC hK (by assumption) (by assumption) (by assumption) dX4_product_9 rfl ?_
  refine x_iconst (pc2 := 13) hC dX4_product_12 rfl ?_
  refine x_cVv (pc2 := 16) (ci := 1) hC hK (m_gproduct l hS ro xo yo n1.1.1 n2.1.1 hsp (Or.inl rfl) box boy hab) lk_492 rfl rfl (by decide) (by assumption) (by assumption) ⟨Nat.le_of_ble_eq_true rfl, Nat.le_of_ble_eq_true rfl⟩ ⟨Nat.le_refl _, Nat.le_refl _⟩ rfl (Nat.le_of_ble_eq_true rfl) dX4_product_13 rfl ?_
  rintro F1 A1 hG1
  obtain ⟨V1, ⟨S1, f1⟩, v1, v2⟩ := hG1.c
  rw [Int.one_mul, Int.one_mul] at v1
  have ex := tr_g ro xu n1.1.2 hsp v2
  have ey := tr_g ro yu n2.1.2 hsp v2
  refine x_aload_n (pc2 := 17) hC rfl rfl dX4_product_16 rfl ?_
  refine g_226 (pc2 := 20) hC hK (by assumption) (by assumption) (by assumption) dX4_product_17 rfl ?_
  refine x_aload_n (pc2 := 21) hC rfl rfl dX4_product_20 rfl ?_
  refine g_226 (pc2 := 24) hC hK (by assumption) (by assumption) (by assumption) dX4_product_21 rfl ?_
  refine x_aload_n (pc2 := 25) hC rfl rfl dX4_product_24 rfl ?_
  refine g_226 (pc2 := 28) hC hK (by assumption) (by assumption) (by assumption) dX4_product_25 rfl ?_
  refine x_iconst (pc2 := 29) hC dX4_product_28 rfl ?_
  refine x_cVv (pc2 := 32) (ci := 1) hC hK (m_gproduct l S1 ru xu yu n1.2.2 n2.2.2 hsp (Or.inl rfl) (a := a) (b := b) (show bdc a (cx V1 (x + 6)) by rw [ex]; exact bux) (show bdc b (cx V1 (y + 6)) by rw [ey]; exact buy) hab) lk_492 rfl rfl (by decide) (by assumption) (by assumption) ⟨Nat.le_of_ble_eq_true rfl, Nat.le_of_ble_eq_true rfl⟩ ⟨Nat.le_refl _, Nat.le_refl _⟩ rfl (Nat.le_of_ble_eq_true rfl) dX4_product_29 rfl ?_
  rintro F2 A2 hG2
  obtain ⟨V2, ⟨S2, f2⟩, v3, v4⟩ := hG2.c
  rw [Int.one_mul, Int.one_mul] at v3
  exact x_vret hC hr hlk ⟨rfl, V2, ⟨S2, f1.tr f2⟩, (tr_g ru ro (Ne.symm (n16 r)) hsp v4).trans v1, by rw [← ex, ← ey]; exact v3, fun u q1 q2 q3 q4 q5 _ _ => (v4 u q3 q4 q5).trans (v2 u q1 q2 q5)⟩ dX4_product_32
theorem dX4_quotient_0 : decode cX4_quotient 0 = .ok (.aload_n 0, 1) := by decide +kernel
theorem dX4_quotient_1 : decode cX4_quotient 1 = .ok (.getfield 14, 3) := by decide +kernel
theorem dX4_quotient_4 : decode cX4_quotient 4 = .ok (.aload_n 1, 1) := by decide +kernel
theorem dX4_quotient_5 : decode cX4_quotient 5 = .ok (.getfield 14, 3) := by decide +kernel
theorem dX4_quotient_8 : decode cX4_quotient 8 = .ok (.aload_n 2, 1) := by decide +kernel
theorem dX4_quotient_9 : decode cX4_quotient 9 = .ok (.getfield 20, 3) := by decide +kernel
theorem dX4_quotient_12 : decode cX4_quotient 12 = .ok (.iconst 1, 1) := by decide +kernel
theorem dX4_quotient_13 : decode cX4_quotient 13 = .ok (.invokevirtual 53, 3) := by decide +kernel
theorem dX4_quotient_16 : decode cX4_quotient 16 = .ok (.aload_n 0, 1) := by decide +kernel
theorem dX4_quotient_17 : decode cX4_quotient 17 = .ok (.getfield 20, 3) := by decide +kernel
theorem dX4_quotient_20 : decode cX4_quotient 20 = .ok (.aload_n 1, 1) := by decide +kernel
theorem dX4_quotient_21 : decode cX4_quotient 21 = .ok (.getfield 20, 3) := by decide +kernel
theorem dX4_quotient_24 : decode cX4_quotient 24 = .ok (.aload_n 2, 1) := by decide +kernel
theorem dX4_quotient_25 : decode cX4_quotient 25 = .ok (.getfield 14, 3) := by decide +kernel
theorem dX4_quotient_28 : decode cX4_quotient 28 = .ok (.iconst 1, 1) := by decide +kernel
theorem dX4_quotient_29 : decode cX4_quotient 29 = .ok (.invokevirtual 53, 3) := by decide +kernel
theorem dX4_quotient_32 : decode cX4_quotient 32 = .ok (.return_, 1) := by decide +kernel
set_option maxHeartbeats 4000000 in
theorem m_rquotient (l : Launch) {D : va_G} {ids : Nat → ClassId} {β : Nat} {sh : Nat → Nat × Nat} {N : Nat} {R : Nat → Nat → Option Nat} {F : Nat → Nat → Int} {A : Nat → Int → Int} {V : Nat → Int} (hS : ST sh R N F A V) {r x y sg sp sx sy tx ty a b : Nat} (hrt : isRt sh R N r sg sp) (hx : isRt sh R N x sx tx) (hy : isRt sh R N y sy ty) (nrx : r ≠ x) (nry : r ≠ y) (hsp : spG sh R N sp) (hsg : sgR sh R N sg) (box : bdc a (cx V (x + 1))) (bux : bdc a (cx V (x + 6))) (boy : bdc b (cx V (y + 1))) (buy : bdc b (cx V (y + 6))) (hab : (a + 8) / 9 + (b + 8) / 9 ≤ 80 ∧ a + b ≤ 711) : MetX l yX4_quotient cX4_quotient 3 none 4 109 D ids β sh N R F A [rf r, rf x, rf y] (pVr (RQ sh R N F A V r sg sp (cmul (cx V (x + 1)) (cx V (y + 6))) (cmul (cx V (x + 6)) (cx V (y + 1))))) := by
  refine MetX.of (loc := [_, _, _]) (plainFor_of_name (by decide +kernel)) (Nat.le_of_ble_eq_true rfl) rfl ?_
  intro p e s m args below meth c hC hK hr hlk
  have ro := hrt.2.2.2.2.2.1
  have ru := hrt.2.2.2.2.2.2.1
  have roN := ro.1
  have ruN := ru.1
  have roS := ro.2.1
  have ruS := ru.2.1
  obtain ⟨r1, r2, r3, r4, r5, -⟩ := id hrt
  have xo := hx.2.2.2.2.2.1
  have xu := hx.2.2.2.2.2.2.1
  have xoN := xo.1
  have xuN := xu.1
  have xoS := xo.2.1
  have xuS := xu.2.1
  obtain ⟨x1, x2, x3, x4, x5, -⟩ := id hx
  have yo := hy.2.2.2.2.2.1
  have yu := hy.2.2.2.2.2.2.1
  have yoN := yo.1
  have yuN := yu.1
  have yoS := yo.2.1
  have yuS := yu.2.1
  obtain ⟨y1, y2, y3, y4, y5, -⟩ := id hy
  have n1 := rt_g hrt hx nrx
  have n2 := rt_g hrt hy nry
  refine x_aload_n (pc2 := 1) hC rfl rfl dX4_quotient_0 rfl ?_
  refine g_223 (pc2 := 4) hC hK (by assumption) (by assumption) (by assumption) dX4_quotient_1 rfl ?_
  refine x_aload_n (pc2 := 5) hC rfl rfl dX4_quotient_4 rfl ?_
  refine g_223 (pc2 := 8) hC hK (by assumption) (by assumption) (by assumption) dX4_quotient_5 rfl ?_
  refine x_aload_n (pc2 := 9) hC rfl rfl dX4_quotient_8 rfl ?_
  refine g_226 (pc2 := 12) hC hK (by assumption) (by assumption) (by assumption) dX4_quotient_9 rfl ?_
  refine x_iconst (pc2 := 13) hC dX4_quotient_12 rfl ?_
  refine x_cVv (pc2 := 16) (ci := 1) hC hK (m_gproduct l hS ro xo yu n1.1.1 n2.1.2 hsp (Or.inl rfl) box buy hab) lk_492 rfl rfl (by decide) (by assumption) (by assumption) ⟨Nat.le_of_ble_eq_true rfl, Nat.le_of_ble_eq_true rfl⟩ ⟨Nat.le_refl _, Nat.le_refl _⟩ rfl (Nat.le_of_ble_eq_true rfl) dX4_quotient_13 rfl ?_
  rintro F1 A1 hG1
  obtain ⟨V1, ⟨S1, f1⟩, v1, v2⟩ := hG1.c
  rw [Int.one_mul, Int.one_mul] at v1
  have ex := tr_g ro xu n1.1.2 hsp v2
  have ey := tr_g ro yo n2.1.1 hsp v2
  refine x_aload_n (pc2 := 17) hC rfl rfl dX4_quotient_16 rfl ?_
  refine g_226 (pc2 := 20) hC hK (by assumption) (by assumption) (by assumption) dX4_quotient_17 rfl ?_
  refine x_aload_n (pc2 := 21) hC rfl rfl dX4_quotient_20 rfl ?_
  refine g_226 (pc2 := 24) hC hK (by assumption) (by assumption) (by assumption) dX4_quotient_21 rfl ?_
  refine x_aload_n (pc2 := 25) hC rfl rfl dX4_quotient_24 rfl ?_
  refine g_223 (pc2 := 28) hC hK (by assumption) (by assumption) (by assumption) dX4_quotient_25 rfl ?_
  refine x_iconst (pc2 := 29) hC dX4_quotient_28 rfl ?_
  refine x_cVv (pc2 := 32) (ci := 1) hC hK (m_gproduct l S1 ru xu yo n1.2.2 n2.2.1 hsp (Or.inl rfl) (a := a) (b := b) (show bdc a (cx V1 (x + 6)) by rw [ex]; exact bux) (show bdc b (cx V1 (y + 1)) by rw [ey]; exact boy) hab) lk_492 rfl rfl (by decide) (by assumption) (by assumption) ⟨Nat.le_of_ble_eq_true rfl, Nat.le_of_ble_eq_true rfl⟩ ⟨Nat.le_refl _, Nat.le_refl _⟩ rfl (Nat.le_of_ble_eq_true rfl) dX4_quotient_29 rfl ?_
  rintro F2 A2 hG2
  obtain ⟨V2, ⟨S2, f2⟩, v3, v4⟩ := hG2.c
  rw [Int.one_mul, Int.one_mul] at v3
  exact x_vret hC hr hlk ⟨rfl, V2, ⟨S2, f1.tr f2⟩, (tr_g ru ro (Ne.symm (n16 r)) hsp v4).trans v1, by rw [← ex, ← ey]; exact v3, fun u q1 q2 q3 q4 q5 _ _ => (v4 u q3 q4 q5).trans (v2 u q1 q2 q5)⟩ dX4_quotient_32
theorem dX4_sum_0 : decode cX4_sum 0 = .ok (.aload_n 0, 1) := by decide +kernel
theorem dX4_sum_1 : decode cX4_sum 1 = .ok (.getfield 14, 3) := by decide +kernel
theorem dX4_sum_4 : decode cX4_sum 4 = .ok (.aload_n 1, 1) := by decide +kernel
theorem dX4_sum_5 : decode cX4_sum 5 = .ok (.getfield 14, 3) := by decide +kernel
theorem dX4_sum_8 : decode cX4_sum 8 = .ok (.aload_n 2, 1) := by decide +kernel
theorem dX4_sum_9 : decode cX4_sum 9 = .ok (.getfield 20, 3) := by decide +kernel
theorem dX4_sum_12 : decode cX4_sum 12 = .ok (.iconst 1, 1) := by decide +kernel
theorem dX4_sum_13 : decode cX4_sum 13 = .ok (.invokevirtual 53, 3) := by decide +kernel
theorem dX4_sum_16 : decode cX4_sum 16 = .ok (.aload_n 0, 1) := by decide +kernel
theorem dX4_sum_17 : decode cX4_sum 17 = .ok (.getfield 23, 3) := by decide +kernel
theorem dX4_sum_20 : decode cX4_sum 20 = .ok (.aload_n 2, 1) := by decide +kernel
theorem dX4_sum_21 : decode cX4_sum 21 = .ok (.getfield 14, 3) := by decide +kernel
theorem dX4_sum_24 : decode cX4_sum 24 = .ok (.aload_n 1, 1) := by decide +kernel
theorem dX4_sum_25 : decode cX4_sum 25 = .ok (.getfield 20, 3) := by decide +kernel
theorem dX4_sum_28 : decode cX4_sum 28 = .ok (.iconst 1, 1) := by decide +kernel
theorem dX4_sum_29 : decode cX4_sum 29 = .ok (.invokevirtual 53, 3) := by decide +kernel
theorem dX4_sum_32 : decode cX4_sum 32 = .ok (.aload_n 0, 1) := by decide +kernel
theorem dX4_sum_33 : decode cX4_sum 33 = .ok (.getfield 14, 3) := by decide +kernel
theorem dX4_sum_36 : decode cX4_sum 36 = .ok (.aload_n 0, 1) := by decide +kernel
theorem dX4_sum_37 : decode cX4_sum 37 = .ok (.getfield 14, 3) := by decide +kernel
theorem dX4_sum_40 : decode cX4_sum 40 = .ok (.aload_n 0, 1) := by decide +kernel
theorem dX4_sum_41 : decode cX4_sum 41 = .ok (.getfield 23, 3) := by decide +kernel
theorem dX4_sum_44 : decode cX4_sum 44 = .ok (.iload_n 3, 1) := by decide +kernel
theorem dX4_sum_45 : decode cX4_sum 45 = .ok (.invokevirtual 57, 3) := by decide +kernel
theorem dX4_sum_48 : decode cX4_sum 48 = .ok (.aload_n 0, 1) := by decide +kernel
theorem dX4_sum_49 : decode cX4_sum 49 = .ok (.getfield 20, 3) := by decide +kernel
theorem dX4_sum_52 : decode cX4_sum 52 = .ok (.aload_n 1, 1) := by decide +kernel
theorem dX4_sum_53 : decode cX4_sum 53 = .ok (.getfield 20, 3) := by decide +kernel
theorem dX4_sum_56 : decode cX4_sum 56 = .ok (.aload_n 2, 1) := by decide +kernel
theorem dX4_sum_57 : decode cX4_sum 57 = .ok (.getfield 20, 3) := by decide +kernel
theorem dX4_sum_60 : decode cX4_sum 60 = .ok (.iconst 1, 1) := by decide +kernel
theorem dX4_sum_61 : decode cX4_sum 61 = .ok (.invokevirtual 53, 3) := by decide +kernel
theorem dX4_sum_64 : decode cX4_sum 64 = .ok (.return_, 1) := by decide +kernel
set_option maxHeartbeats 4000000 in
theorem m_rsum (l : Launch) {D : va_G} {ids : Nat → ClassId} {β : Nat} {sh : Nat → Nat × Nat} {N : Nat} {R : Nat → Nat → Option Nat} {F : Nat → Nat → Int} {A : Nat → Int → Int} {V : Nat → Int} (hS : ST sh R N F A V) {s0 : Int} {r x y sg sp sx sy tx ty a b : Nat} (hrt : isRt sh R N r sg sp) (hx : isRt sh R N x sx tx) (hy : isRt sh R N y sy ty) (nrx : r ≠ x) (nry : r ≠ y) (hsp : spG sh R N sp) (hsg : sgR sh R N sg) (box : bdc a (cx V (x + 1))) (bux : bdc a (cx V (x + 6))) (boy : bdc b (cx V (y + 1))) (buy : bdc b (cx V (y + 6))) (hs : s0 = 1 ∨ s0 = -1) (hab : (a + 8) / 9 + (b + 8) / 9 ≤ 80 ∧ a + b + 1 ≤ 711) : MetX l yX4_sum cX4_sum 4 none 4 109 D ids β sh N R F A [rf r, rf x, rf y, pI s0] (pVr (RQ sh R N F A V r sg sp (csgn s0 (cmul (cx V (x + 1)) (cx V (y + 6))) (cmul (cx V (y + 1)) (cx V (x + 6)))) (cmul (cx V (x + 6)) (cx V (y + 6))))) := by
  refine MetX.of (loc := [_, _, _, _]) (plainFor_of_name (by decide +kernel)) (Nat.le_of_ble_eq_true rfl) rfl ?_
  intro p e s m args below meth c hC hK hr hlk
  have ro := hrt.2.2.2.2.2.1
  have ru := hrt.2.2.2.2.2.2.1
  have roN := ro.1
  have ruN := ru.1
  have roS := ro.2.1
  have ruS := ru.2.1
  obtain ⟨r1, r2, r3, r4, r5, -⟩ := id hrt
  have xo := hx.2.2.2.2.2.1
  have xu := hx.2.2.2.2.2.2.1
  have xoN := xo.1
  have xuN := xu.1
  have xoS := xo.2.1
  have xuS := xu.2.1
  obtain ⟨x1, x2, x3, x4, x5, -⟩ := id hx
  have yo := hy.2.2.2.2.2.1
  have yu := hy.2.2.2.2.2.2.1
  have yoN := yo.1
  have yuN := yu.1
  have yoS := yo.2.1
  have yuS := yu.2.1
  obtain ⟨y1, y2, y3, y4, y5, -⟩ := id hy
  have n1 := rt_g hrt hx nrx
  have n2 := rt_g hrt hy nry
  have q6 := hrt.2.2.2.2.2.2.2
  have q6N := q6.1
  have q6S := q6.2.1
  have gr := hsg _ _ _ hrt
  have gx := hsg _ _ _ hx
  have gy := hsg _ _ _ hy
  have hgt : spG sh R N sp := hsp
  refine x_aload_n (pc2 := 1) hC rfl rfl dX4_sum_0 rfl ?_
  refine g_223 (pc2 := 4) hC hK (by assumption) (by assumption) (by assumption) dX4_sum_1 rfl ?_
  refine x_aload_n (pc2 := 5) hC rfl rfl dX4_sum_4 rfl ?_
  refine g_223 (pc2 := 8) hC hK (by assumption) (by assumption) (by assumption) dX4_sum_5 rfl ?_
  refine x_aload_n (pc2 := 9) hC rfl rfl dX4_sum_8 rfl ?_
  refine g_226 (pc2 := 12) hC hK (by assumption) (by assumption) (by assumption) dX4_sum_9 rfl ?_
  refine x_iconst (pc2 := 13) hC dX4_sum_12 rfl ?_
  refine x_cVv (pc2 := 16) (ci := 1) hC hK (m_gproduct l hS ro xo yu n1.1.1 n2.1.2 hsp (Or.inl rfl) box buy ⟨hab.1, by omega⟩) lk_492 rfl rfl (by decide) (by assumption) (by assumption) ⟨Nat.le_of_ble_eq_true rfl, Nat.le_of_ble_eq_true rfl⟩ ⟨Nat.le_refl _, Nat.le_refl _⟩ rfl (Nat.le_of_ble_eq_true rfl) dX4_sum_13 rfl ?_
  rintro F1 A1 hG1
  obtain ⟨V1, ⟨S1, f1⟩, v1, w1⟩ := hG1.c
  rw [Int.one_mul, Int.one_mul] at v1
  have ex6 := tr_g ro xu n1.1.2 hsp w1
  have ey1 := tr_g ro yo n2.1.1 hsp w1
  have ey6 := tr_g ro yu n2.1.2 hsp w1
  refine x_aload_n (pc2 := 17) hC rfl rfl dX4_sum_16 rfl ?_
  refine g_229 (pc2 := 20) hC hK (by assumption) (by assumption) (by assumption) dX4_sum_17 rfl ?_
  refine x_aload_n (pc2 := 21) hC rfl rfl dX4_sum_20 rfl ?_
  refine g_223 (pc2 := 24) hC hK (by assumption) (by assumption) (by assumption) dX4_sum_21 rfl ?_
  refine x_aload_n (pc2 := 25) hC rfl rfl dX4_sum_24 rfl ?_
  refine g_226 (pc2 := 28) hC hK (by assumption) (by assumption) (by assumption) dX4_sum_25 rfl ?_
  refine x_iconst (pc2 := 29) hC dX4_sum_28 rfl ?_
  refine x_cVv (pc2 := 32) (ci := 1) hC hK (m_gproduct l S1 q6 yo xu gy.1 gx.2 hsp (Or.inl rfl) (a := b) (b := a) (show bdc b (cx V1 (y + 1)) by rw [ey1]; exact boy) (show bdc a (cx V1 (x + 6)) by rw [ex6]; exact bux) ⟨by omega, by omega⟩) lk_492 rfl rfl (by decide) (by assumption) (by assumption) ⟨Nat.le_of_ble_eq_true rfl, Nat.le_of_ble_eq_true rfl⟩ ⟨Nat.le_refl _, Nat.le_refl _⟩ rfl (Nat.le_of_ble_eq_true rfl) dX4_sum_29 rfl ?_
  rintro F2 A2 hG2
  obtain ⟨V2, ⟨S2, f2⟩, v2, w2⟩ := hG2.c
  rw [Int.one_mul, Int.one_mul] at v2
  have er := tr_g q6 ro gr.1 hsp w2
  have ex6b := tr_g q6 xu gx.2 hsp w2
  have ey6b := tr_g q6 yu gy.2 hsp w2
  have c1 : bdc (a + b + 1) (cx V2 (r + 1)) := by rw [er, v1]; exact bdc_mul box buy (Nat.le_refl _)
  have c2 : bdc (a + b + 1) (cx V2 sg) := by rw [v2]; exact bdc_mul (show bdc b (cx V1 (y + 1)) by rw [ey1]; exact boy) (show bdc a (cx V1 (x + 6)) by rw [ex6]; exact bux) (by omega)
  refine x_aload_n (pc2 := 33) hC rfl rfl dX4_sum_32 rfl ?_
  refine g_223 (pc2 := 36) hC hK (by assumption) (by assumption) (by assumption) dX4_sum_33 rfl ?_
  refine x_aload_n (pc2 := 37) hC rfl rfl dX4_sum_36 rfl ?_
  refine g_223 (pc2 := 40) hC hK (by assumption) (by assumption) (by assumption) dX4_sum_37 rfl ?_
  refine x_aload_n (pc2 := 41) hC rfl rfl dX4_sum_40 rfl ?_
  refine g_229 (pc2 := 44) hC hK (by assumption) (by assumption) (by assumption) dX4_sum_41 rfl ?_
  refine x_iload_n (pc2 := 45) hC rfl rfl dX4_sum_44 rfl ?_
  refine x_cVv (pc2 := 48) (ci := 1) hC hK (m_gsum l S2 ro ro q6 hs c1 c2 ⟨by omega, by omega⟩) lk_532 rfl rfl (by decide) (by assumption) (by assumption) ⟨Nat.le_of_ble_eq_true rfl, Nat.le_of_ble_eq_true rfl⟩ ⟨Nat.le_refl _, Nat.le_refl _⟩ rfl (Nat.le_of_ble_eq_true rfl) dX4_sum_45 rfl ?_
  rintro F3 A3 hG3
  obtain ⟨V3, ⟨S3, f3⟩, v3, w3⟩ := hG3.c
  have ex6c := tr_g ro xu n1.1.2 hsp w3
  have ey6c := tr_g ro yu n2.1.2 hsp w3
  refine x_aload_n (pc2 := 49) hC rfl rfl dX4_sum_48 rfl ?_
  refine g_226 (pc2 := 52) hC hK (by assumption) (by assumption) (by assumption) dX4_sum_49 rfl ?_
  refine x_aload_n (pc2 := 53) hC rfl rfl dX4_sum_52 rfl ?_
  refine g_226 (pc2 := 56) hC hK (by assumption) (by assumption) (by assumption) dX4_sum_53 rfl ?_
  refine x_aload_n (pc2 := 57) hC rfl rfl dX4_sum_56 rfl ?_
  refine g_226 (pc2 := 60) hC hK (by assumption) (by assumption) (by assumption) dX4_sum_57 rfl ?_
  refine x_iconst (pc2 := 61) hC dX4_sum_60 rfl ?_
  refine x_cVv (pc2 := 64) (ci := 1) hC hK (m_gproduct l S3 ru xu yu n1.2.2 n2.2.2 hsp (Or.inl rfl) (a := a) (b := b) (show bdc a (cx V3 (x + 6)) by rw [ex6c, ex6b, ex6]; exact bux) (show bdc b (cx V3 (y + 6)) by rw [ey6c, ey6b, ey6]; exact buy) ⟨hab.1, by omega⟩) lk_492 rfl rfl (by decide) (by assumption) (by assumption) ⟨Nat.le_of_ble_eq_true rfl, Nat.le_of_ble_eq_true rfl⟩ ⟨Nat.le_refl _, Nat.le_refl _⟩ rfl (Nat.le_of_ble_eq_true rfl) dX4_sum_61 rfl ?_
  rintro F4 A4 hG4
  obtain ⟨V4, ⟨S4, f4⟩, v4, w4⟩ := hG4.c
  rw [Int.one_mul, Int.one_mul] at v4
  exact x_vret hC hr hlk ⟨rfl, V4, ⟨S4, ((f1.tr f2).tr f3).tr f4⟩, by
      rw [tr_g ru ro (Ne.symm (n16 r)) hsp w4, v3]
      have a1 : cx V2 (r + 1) = _ := er.trans v1
      have a2 : cx V2 sg = cmul (cx V1 (y + 1)) (cx V1 (x + 6)) := v2
      rw [ey1, ex6] at a2
      show csgn s0 (cx V2 (r + 1)) (cx V2 sg) = _
      rw [a1, a2]
      rfl, by
      rw [← ex6, ← ex6b, ← ex6c, ← ey6, ← ey6b, ← ey6c]; exact v4, fun u q1 q2 q3 q4 q5 q6 q7 => (w4 u q3 q4 q5).trans ((w3 u q1 q2 q5).trans ((w2 u q6 q7 q5).trans (w1 u q1 q2 q5)))⟩ dX4_sum_64
theorem dX4_isZero_0 : decode cX4_isZero 0 = .ok (.aload_n 0, 1) := by decide +kernel
theorem dX4_isZero_1 : decode cX4_isZero 1 = .ok (.getfield 14, 3) := by decide +kernel
theorem dX4_isZero_4 : decode cX4_isZero 4 = .ok (.invokevirtual 49, 3) := by decide +kernel
theorem dX4_isZero_7 : decode cX4_isZero 7 = .ok (.ireturn, 1) := by decide +kernel
set_option maxHeartbeats 4000000 in
theorem m_rzero (l : Launch) {D : va_G} {ids : Nat → ClassId} {β : Nat} {sh : Nat → Nat × Nat} {N : Nat} {R : Nat → Nat → Option Nat} {F : Nat → Nat → Int} {A : Nat → Int → Int} {V : Nat → Int} (hS : ST sh R N F A V) {r sg sp : Nat} (hrt : isRt sh R N r sg sp) : MetX l yX4_isZero cX4_isZero 1 (some (.boolean)) 1 20 D ids β sh N R F A [rf r] (pIr (sameI F A (if V (r + 2) = 0 ∧ V (r + 4) = 0 then 1 else 0))) := by
  refine MetX.of (loc := [_]) (plainFor_of_name (by decide +kernel)) (Nat.le_of_ble_eq_true rfl) rfl ?_
  intro p e s m args below meth c hC hK hr hlk
  have ro := hrt.2.2.2.2.2.1
  have ru := hrt.2.2.2.2.2.2.1
  have roN := ro.1
  have ruN := ru.1
  have roS := ro.2.1
  have ruS := ru.2.1
  obtain ⟨r1, r2, r3, r4, r5, -⟩ := id hrt
  refine x_aload_n (pc2 := 1) hC rfl rfl dX4_isZero_0 rfl ?_
  refine g_223 (pc2 := 4) hC hK (by assumption) (by assumption) (by assumption) dX4_isZero_1 rfl ?_
  refine x_cVi (pc2 := 7) (ci := 1) hC hK (m_gzero l hS ro) lk_540 rfl rfl (by decide) (by assumption) (by assumption) ⟨Nat.le_of_ble_eq_true rfl, Nat.le_of_ble_eq_true rfl⟩ ⟨Nat.le_refl _, Nat.le_refl _⟩ rfl (Nat.le_of_ble_eq_true rfl) dX4_isZero_4 rfl ?_
  rintro z4 F4 A4 ⟨rfl, e14, e24⟩
  obtain rfl := e14.symm
  obtain rfl := e24.symm
  exact x_zret hC (by by_cases q : V (r + 2) = 0 ∧ V (r + 4) = 0; right; exact if_pos q; left; exact if_neg q) hr hlk ⟨_, rfl, rfl, rfl, rfl⟩ dX4_isZero_7
theorem dX4_putSmall_0 : decode cX4_putSmall 0 = .ok (.aload_n 0, 1) := by decide +kernel
theorem dX4_putSmall_1 : decode cX4_putSmall 1 = .ok (.getfield 14, 3) := by decide +kernel
theorem dX4_putSmall_4 : decode cX4_putSmall 4 = .ok (.iload_n 1, 1) := by decide +kernel
theorem dX4_putSmall_5 : decode cX4_putSmall 5 = .ok (.invokevirtual 29, 3) := by decide +kernel
theorem dX4_putSmall_8 : decode cX4_putSmall 8 = .ok (.aload_n 0, 1) := by decide +kernel
theorem dX4_putSmall_9 : decode cX4_putSmall 9 = .ok (.getfield 20, 3) := by decide +kernel
theorem dX4_putSmall_12 : decode cX4_putSmall 12 = .ok (.iload_n 2, 1) := by decide +kernel
theorem dX4_putSmall_13 : decode cX4_putSmall 13 = .ok (.invokevirtual 29, 3) := by decide +kernel
theorem dX4_putSmall_16 : decode cX4_putSmall 16 = .ok (.return_, 1) := by decide +kernel
set_option maxHeartbeats 4000000 in
theorem m_rput (l : Launch) {D : va_G} {ids : Nat → ClassId} {β : Nat} {sh : Nat → Nat × Nat} {N : Nat} {R : Nat → Nat → Option Nat} {F : Nat → Nat → Int} {A : Nat → Int → Int} {V : Nat → Int} (hS : ST sh R N F A V) {r sg sp : Nat} {u v : Int} (hrt : isRt sh R N r sg sp) (hsp : spG sh R N sp) (hu : 0 ≤ u ∧ u ≤ 2147483647) (hv : 0 ≤ v ∧ v ≤ 2147483647) : MetX l yX4_putSmall cX4_putSmall 3 none 3 66 D ids β sh N R F A [rf r, pI u, pI v] (pVr (RQ sh R N F A V r sg sp (cre u) (cre v))) := by
  refine MetX.of (loc := [_, _, _]) (plainFor_of_name (by decide +kernel)) (Nat.le_of_ble_eq_true rfl) rfl ?_
  intro p e s m args below meth c hC hK hr hlk
  have ro := hrt.2.2.2.2.2.1
  have ru := hrt.2.2.2.2.2.2.1
  have roN := ro.1
  have ruN := ru.1
  have roS := ro.2.1
  have ruS := ru.2.1
  obtain ⟨r1, r2, r3, r4, r5, -⟩ := id hrt
  refine x_aload_n (pc2 := 1) hC rfl rfl dX4_putSmall_0 rfl ?_
  refine g_223 (pc2 := 4) hC hK (by assumption) (by assumption) (by assumption) dX4_putSmall_1 rfl ?_
  refine x_iload_n (pc2 := 5) hC rfl rfl dX4_putSmall_4 rfl ?_
  refine x_cVv (pc2 := 8) (ci := 1) hC hK (m_gput l hS ro hu) lk_249 rfl rfl (by decide) (by assumption) (by assumption) ⟨Nat.le_of_ble_eq_true rfl, Nat.le_of_ble_eq_true rfl⟩ ⟨Nat.le_refl _, Nat.le_refl _⟩ rfl (Nat.le_of_ble_eq_true rfl) dX4_putSmall_5 rfl ?_
  rintro F1 A1 hG1
  obtain ⟨V1, ⟨S1, f1⟩, v1, w1⟩ := hG1.c
  refine x_aload_n (pc2 := 9) hC rfl rfl dX4_putSmall_8 rfl ?_
  refine g_226 (pc2 := 12) hC hK (by assumption) (by assumption) (by assumption) dX4_putSmall_9 rfl ?_
  refine x_iload_n (pc2 := 13) hC rfl rfl dX4_putSmall_12 rfl ?_
  refine x_cVv (pc2 := 16) (ci := 1) hC hK (m_gput l S1 ru hv) lk_249 rfl rfl (by decide) (by assumption) (by assumption) ⟨Nat.le_of_ble_eq_true rfl, Nat.le_of_ble_eq_true rfl⟩ ⟨Nat.le_refl _, Nat.le_refl _⟩ rfl (Nat.le_of_ble_eq_true rfl) dX4_putSmall_13 rfl ?_
  rintro F2 A2 hG2
  obtain ⟨V2, ⟨S2, f2⟩, v2, w2⟩ := hG2.c
  exact x_vret hC hr hlk ⟨rfl, V2, ⟨S2, f1.tr f2⟩, (tr_g ru ro (Ne.symm (n16 r)) hsp w2).trans v1, v2, fun u q1 q2 q3 q4 q5 _ _ => (w2 u q3 q4 q5).trans (w1 u q1 q2 q5)⟩ dX4_putSmall_16
