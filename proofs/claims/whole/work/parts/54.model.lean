/-! THE MODEL: region 2 -/
def MoL (sh : Nat → Nat × Nat) (R : Nat → Nat → Option Nat) (N : Nat) : Prop := (0 < N ∧ sh 0 = (0, 8)) ∧ (R 0 0 = some 1 ∧ R 0 2 = some 2 ∧ R 0 3 = some 3 ∧ R 0 7 = some 4 ∧ R 0 8 = some 5 ∧ R 0 9 = some 6 ∧ R 0 11 = some 7 ∧ R 0 12 = some 8 ∧ R 0 13 = some 9 ∧ R 0 16 = some 10 ∧ R 0 18 = some 11) ∧ (1 < N ∧ sh 1 = (1, 16)) ∧ (2 < N ∧ sh 2 = (2, 1536)) ∧ (3 < N ∧ sh 3 = (2, 24576)) ∧ (4 < N ∧ sh 4 = (1, 360000)) ∧ (5 < N ∧ sh 5 = (1, 1500)) ∧ (6 < N ∧ sh 6 = (1, 1500)) ∧ (7 < N ∧ sh 7 = (1, 260)) ∧ (8 < N ∧ sh 8 = (1, 260)) ∧ (9 < N ∧ sh 9 = (1, 260)) ∧ (10 < N ∧ sh 10 = (2, 96)) ∧ (11 < N ∧ sh 11 = (1, 12))
/-- the limbs of a slot -/
def mlm (A : Nat → Int → Int) (x : Int) : Int → Int := fun k => A 4 (240 * x + k)
def MOK (A : Nat → Int → Int) (x : Int) : Prop := (0 ≤ A 5 x ∧ A 5 x ≤ 240) ∧ dig 32768 (mlm A x) (A 5 x) ∧ (0 < A 5 x → mlm A x (A 5 x - 1) ≠ 0) ∧ (A 6 x = 1 ∨ A 6 x = -1)
def mm (A : Nat → Int → Int) (x : Int) : Int := dv 32768 (mlm A x) (A 5 x).toNat
def mv (A : Nat → Int → Int) (x : Int) : Int := A 6 x * mm A x
/-- slots below T stay -/
def FrT (T : Int) (A A' : Nat → Int → Int) : Prop := (∀ x, x < T → A' 5 x = A 5 x ∧ A' 6 x = A 6 x) ∧ ∀ j, j < 240 * T → A' 4 j = A 4 j
def St (T : Int) (V : Int → Int) (F : Nat → Nat → Int) (A : Nat → Int → Int) : Prop := F 0 10 = T ∧ (0 ≤ T ∧ T ≤ 1500) ∧ ∀ x, 0 ≤ x → x < T → MOK A x ∧ mv A x = V x
/-- what reckoning leaves as it was -/
def FrM (F : Nat → Nat → Int) (A : Nat → Int → Int) (F' : Nat → Nat → Int) (A' : Nat → Int → Int) : Prop := (∀ o, o ≠ 0 → F' o = F o) ∧ (∀ j, j ≠ 10 → j ≠ 14 → j ≠ 15 → F' 0 j = F 0 j) ∧ ∀ a, a ≠ 4 → a ≠ 5 → a ≠ 6 → a ≠ 7 → a ≠ 8 → a ≠ 9 → A' a = A a
theorem FrM.rf {F : Nat → Nat → Int} {A : Nat → Int → Int} : FrM F A F A := ⟨fun _ _ => rfl, fun _ _ _ _ => rfl, fun _ _ _ _ _ _ _ => rfl⟩
theorem FrM.tr {F F1 F2 : Nat → Nat → Int} {A A1 A2 : Nat → Int → Int} (h : FrM F A F1 A1) (k : FrM F1 A1 F2 A2) : FrM F A F2 A2 := ⟨fun o ho => (k.1 o ho).trans (h.1 o ho), fun j a b c => (k.2.1 j a b c).trans (h.2.1 j a b c), fun a b c d e f g => (k.2.2 a b c d e f g).trans (h.2.2 a b c d e f g)⟩
theorem FrT.slot {T x : Int} {A A' : Nat → Int → Int} (h : FrT T A A') (hx : x < T) (hs : MOK A x) : MOK A' x ∧ mv A' x = mv A x := by
  obtain ⟨h1, h2⟩ := h
  obtain ⟨e5, e6⟩ := h1 x hx
  have ml : ∀ k : Int, k < 240 → mlm A' x k = mlm A x k := fun k hk => h2 _ (by omega)
  obtain ⟨a, b, c, d⟩ := hs
  refine ⟨⟨by rw [e5]; exact a, fun k k0 k1 => ?_, fun q => ?_, by rw [e6]; exact d⟩, ?_⟩
  · rw [e5] at k1
    rw [ml k (by omega)]; exact b k k0 k1
  · rw [e5] at q ⊢
    rw [ml _ (by omega)]; exact c q
  · unfold mv mm
    rw [e6, e5, dv_congr (fun k k0 k1 => ml k (by omega))]
/-- a push: the answer's slot is T, its value v -/
def Pq (F : Nat → Nat → Int) (A : Nat → Int → Int) (T : Int) (V : Int → Int) (v : Int) : Int → (Nat → Nat → Int) → (Nat → Int → Int) → Prop := fun z F' A' => z = T ∧ ∃ V', St (T + 1) V' F' A' ∧ V' T = v ∧ (∀ u, u < T → V' u = V u) ∧ FrM F A F' A'
theorem Pq.mk {F F' : Nat → Nat → Int} {A A' : Nat → Int → Int} {T v z : Int} {V : Int → Int} (hS : St T V F A) (hT : T < 1500) (hz : z = T) (hF : F' = uF F 0 10 (T + 1)) (hA : ∀ a, a ≠ 4 → a ≠ 5 → a ≠ 6 → a ≠ 7 → a ≠ 8 → a ≠ 9 → A' a = A a) (fr : FrT T A A') (ok : MOK A' T) (hv : mv A' T = v) : Pq F A T V v z F' A' := by
  obtain ⟨h1, h2, h3⟩ := hS
  subst hF
  refine ⟨hz, upZ V T v, ⟨uF_eq, by omega, fun x x0 x1 => ?_⟩, upZ_eq, fun u hu => upZ_ne (by omega), fun o ho => uF_ne ho, fun j a b c => uF_nj a, hA⟩
  by_cases q : x = T
  · subst q; rw [upZ_eq]; exact ⟨ok, hv⟩
  · obtain ⟨a, b⟩ := h3 x x0 (by omega)
    obtain ⟨c, d⟩ := fr.slot (by omega) a
    rw [upZ_ne q]
    exact ⟨c, d.trans b⟩
/-- the limb at k, 0 above -/
def mli (A : Nat → Int → Int) (x k : Int) : Int := if k < A 5 x then A 4 (240 * x + k) else 0
theorem mli_dig {A : Nat → Int → Int} {x k : Int} (h : MOK A x) (hk : 0 ≤ k) : 0 ≤ mli A x k ∧ mli A x k < 32768 := by
  unfold mli
  split
  · exact h.2.1 k hk (by assumption)
  · omega
theorem dv_mli {A : Nat → Int → Int} {x : Int} {n : Nat} (h : MOK A x) (hn : A 5 x ≤ n) : dv 32768 (mli A x) n = mm A x := by
  rw [dv_drop (n := (A 5 x).toNat) (by omega) (fun k h0 h1 => by unfold mli; exact if_neg (by omega))]
  exact dv_congr (fun k h0 h1 => by unfold mli; exact if_pos (by omega))
theorem mm_nonneg {A : Nat → Int → Int} {x : Int} (h : MOK A x) : 0 ≤ mm A x := dv_nonneg (by decide) (fun k h0 h1 => (h.2.1 k h0 (by have := h.1; omega)).1)
theorem mm_lt {A : Nat → Int → Int} {x : Int} (h : MOK A x) : mm A x < 32768 ^ (A 5 x).toNat := dv_lt (by decide) (fun k h0 h1 => h.2.1 k h0 (by have := h.1; omega))
theorem mm_ge {A : Nat → Int → Int} {x : Int} (h : MOK A x) (hs : 0 < A 5 x) : 32768 ^ ((A 5 x).toNat - 1) ≤ mm A x := by
  obtain ⟨n, hn⟩ : ∃ n, (A 5 x).toNat = n + 1 := ⟨(A 5 x).toNat - 1, by omega⟩
  unfold mm
  rw [hn, Nat.add_sub_cancel]
  refine dv_ge (by decide) (fun k h0 h1 => (h.2.1 k h0 (by omega)).1) ?_
  have := h.2.2.1 hs
  rwa [show A 5 x - 1 = (n : Int) by omega] at this
theorem mm_size {A : Nat → Int → Int} {x : Int} (h : MOK A x) {n : Nat} (hv : mm A x < 32768 ^ n) : A 5 x ≤ n := by
  by_cases q : 0 < A 5 x
  · have := pow_lt_of (B := 32768) (by decide) (Int.lt_of_le_of_lt (mm_ge h q) hv)
    omega
  · omega
theorem mm_slt {A : Nat → Int → Int} {x y : Int} (hx : MOK A x) (hy : MOK A y) (h : A 5 x < A 5 y) : mm A x < mm A y := by
  have a := mm_lt hx
  have b := mm_ge hy (by have := hx.1; omega)
  have c := pow_le' (B := 32768) (by decide) (show (A 5 x).toNat ≤ (A 5 y).toNat - 1 by have := hx.1; omega)
  omega
theorem mm_abs {A : Nat → Int → Int} {x : Int} (h : MOK A x) : (mv A x).natAbs = (mm A x).natAbs := by
  unfold mv
  rw [Int.natAbs_mul]
  rcases h.2.2.2 with q | q <;> rw [q] <;> simp
theorem mm_zero {A : Nat → Int → Int} {x : Int} (h : MOK A x) : A 5 x = 0 ↔ mv A x = 0 := by
  have ab := mm_abs h
  have nn := mm_nonneg h
  constructor
  · intro q
    have : mm A x = 0 := by unfold mm; rw [q]; rfl
    omega
  · intro q
    by_cases s : 0 < A 5 x
    · have a := mm_ge h s
      have b := pow_pos' (B := 32768) (by decide) ((A 5 x).toNat - 1)
      omega
    · have := h.1; omega
/-- size by decimal digits -/
theorem mo_size {A : Nat → Int → Int} {x : Int} (h : MOK A x) {n m : Nat} (hb : bd n (mv A x)) (hm : n ≤ 9 * m) : A 5 x ≤ 2 * m := by
  have h1 := bd_mono hb hm
  unfold bd at h1
  rw [mm_abs h, Nat.pow_mul] at h1
  have nn := mm_nonneg h
  have h2 : (10 ^ 9) ^ m ≤ 32768 ^ (2 * m) := by rw [Nat.pow_mul]; exact Nat.pow_le_pow_left (by decide) m
  have h3 := mm_size h (n := 2 * m) (by
    have e : ((32768 : Int)) ^ (2 * m) = ((32768 ^ (2 * m) : Nat) : Int) := by rw [Int.natCast_pow]; rfl
    rw [e]
    omega)
  omega
theorem sgc_mm {A : Nat → Int → Int} {x y k : Int} (hx : MOK A x) (hy : MOK A y) (hs : A 5 x = A 5 y) (hk : 0 ≤ k) (hk2 : k < A 5 x) (he : ∀ j, k < j → j < A 5 x → mlm A x j = mlm A y j) (hl : mlm A x k < mlm A y k) : mm A x < mm A y := by
  unfold mm
  rw [← hs]
  exact dv_lt_of (by decide) hk (by omega) (fun j a b => hx.2.1 j a (by omega)) (fun j a b => hy.2.1 j a (by omega)) (fun j a b => he j a (by omega)) hl
theorem dX8_fresh_0 : decode cX8_fresh 0 = .ok (.aload_n 0, 1) := by decide +kernel
theorem dX8_fresh_1 : decode cX8_fresh 1 = .ok (.dup, 1) := by decide +kernel
theorem dX8_fresh_2 : decode cX8_fresh 2 = .ok (.getfield 52, 3) := by decide +kernel
theorem dX8_fresh_5 : decode cX8_fresh 5 = .ok (.iconst 1, 1) := by decide +kernel
theorem dX8_fresh_6 : decode cX8_fresh 6 = .ok (.iadd, 1) := by decide +kernel
theorem dX8_fresh_7 : decode cX8_fresh 7 = .ok (.putfield 52, 3) := by decide +kernel
theorem dX8_fresh_10 : decode cX8_fresh 10 = .ok (.aload_n 0, 1) := by decide +kernel
theorem dX8_fresh_11 : decode cX8_fresh 11 = .ok (.getfield 31, 3) := by decide +kernel
theorem dX8_fresh_14 : decode cX8_fresh 14 = .ok (.aload_n 0, 1) := by decide +kernel
theorem dX8_fresh_15 : decode cX8_fresh 15 = .ok (.getfield 52, 3) := by decide +kernel
theorem dX8_fresh_18 : decode cX8_fresh 18 = .ok (.iconst 1, 1) := by decide +kernel
theorem dX8_fresh_19 : decode cX8_fresh 19 = .ok (.isub, 1) := by decide +kernel
theorem dX8_fresh_20 : decode cX8_fresh 20 = .ok (.iconst 0, 1) := by decide +kernel
theorem dX8_fresh_21 : decode cX8_fresh 21 = .ok (.iastore, 1) := by decide +kernel
theorem dX8_fresh_22 : decode cX8_fresh 22 = .ok (.aload_n 0, 1) := by decide +kernel
theorem dX8_fresh_23 : decode cX8_fresh 23 = .ok (.getfield 34, 3) := by decide +kernel
theorem dX8_fresh_26 : decode cX8_fresh 26 = .ok (.aload_n 0, 1) := by decide +kernel
theorem dX8_fresh_27 : decode cX8_fresh 27 = .ok (.getfield 52, 3) := by decide +kernel
theorem dX8_fresh_30 : decode cX8_fresh 30 = .ok (.iconst 1, 1) := by decide +kernel
theorem dX8_fresh_31 : decode cX8_fresh 31 = .ok (.isub, 1) := by decide +kernel
theorem dX8_fresh_32 : decode cX8_fresh 32 = .ok (.iconst 1, 1) := by decide +kernel
theorem dX8_fresh_33 : decode cX8_fresh 33 = .ok (.iastore, 1) := by decide +kernel
theorem dX8_fresh_34 : decode cX8_fresh 34 = .ok (.aload_n 0, 1) := by decide +kernel
theorem dX8_fresh_35 : decode cX8_fresh 35 = .ok (.getfield 52, 3) := by decide +kernel
theorem dX8_fresh_38 : decode cX8_fresh 38 = .ok (.iconst 1, 1) := by decide +kernel
theorem dX8_fresh_39 : decode cX8_fresh 39 = .ok (.isub, 1) := by decide +kernel
theorem dX8_fresh_40 : decode cX8_fresh 40 = .ok (.ireturn, 1) := by decide +kernel
set_option maxHeartbeats 4000000 in
theorem n_fresh (l : Launch) {D : va_G} {ids : Nat → ClassId} {β : Nat} {sh : Nat → Nat × Nat} {N : Nat} {R : Nat → Nat → Option Nat} {F : Nat → Nat → Int} {A : Nat → Int → Int} (hM : MoL sh R N) {T : Int} (hT : F 0 10 = T) (h0 : 0 ≤ T ∧ T < 1500) : MetX l yX8_fresh cX8_fresh 1 (some (.int)) 0 0 D ids β sh N R F A [rf 0] (pIr (fun z F2 A2 => z = T ∧ F2 = uF F 0 10 (T + 1) ∧ A2 = uA (uA A 5 T 0) 6 T 1)) := by
  refine MetX.of (loc := [_]) (plainFor_of_name (by decide +kernel)) (Nat.le_of_ble_eq_true rfl) rfl ?_
  intro p e s m args below meth c hC hK hr hlk
  obtain ⟨⟨m0, m1⟩, ⟨r0, r2, r3, r7, r8, r9, r11, r12, r13, r16, r18⟩, ⟨m2, m3⟩, ⟨m4, m5⟩, ⟨m6, m7⟩, ⟨m8, m9⟩, ⟨m10, m11⟩, ⟨m12, m13⟩, ⟨m14, m15⟩, ⟨m16, m17⟩, ⟨m18, m19⟩, ⟨m20, m21⟩, ⟨m22, m23⟩⟩ := id hM
  subst hT
  refine x_aload_n (pc2 := 1) hC rfl rfl dX8_fresh_0 rfl ?_
  refine x_dupR (pc2 := 2) hC dX8_fresh_1 rfl ?_
  refine g_819 (pc2 := 5) hC hK (by assumption) (by assumption) dX8_fresh_2 rfl ?_
  refine x_iconst (pc2 := 6) hC dX8_fresh_5 rfl ?_
  refine x_iadd (pc2 := 7) hC dX8_fresh_6 rfl ?_
  
  refine p_819 (pc2 := 10) hC hK (by assumption) (by assumption) dX8_fresh_7 rfl ?_
  refine x_aload_n (pc2 := 11) hC rfl rfl dX8_fresh_10 rfl ?_
  refine g_817 (pc2 := 14) hC hK (by assumption) (by assumption) (by assumption) dX8_fresh_11 rfl ?_
  refine x_aload_n (pc2 := 15) hC rfl rfl dX8_fresh_14 rfl ?_
  refine g_819 (pc2 := 18) hC hK (by assumption) (by assumption) dX8_fresh_15 rfl ?_
  refine x_iconst (pc2 := 19) hC dX8_fresh_18 rfl ?_
  refine x_isub (pc2 := 20) hC dX8_fresh_19 rfl ?_
  refine x_iconst (pc2 := 21) hC dX8_fresh_20 rfl ?_
  refine x_iast (pc2 := 22) hC hK (by assumption) (by assumption) (by rw [uF_eq]; omega) (by decide) dX8_fresh_21 rfl ?_
  refine x_aload_n (pc2 := 23) hC rfl rfl dX8_fresh_22 rfl ?_
  refine g_818 (pc2 := 26) hC hK (by assumption) (by assumption) (by assumption) dX8_fresh_23 rfl ?_
  refine x_aload_n (pc2 := 27) hC rfl rfl dX8_fresh_26 rfl ?_
  refine g_819 (pc2 := 30) hC hK (by assumption) (by assumption) dX8_fresh_27 rfl ?_
  refine x_iconst (pc2 := 31) hC dX8_fresh_30 rfl ?_
  refine x_isub (pc2 := 32) hC dX8_fresh_31 rfl ?_
  refine x_iconst (pc2 := 33) hC dX8_fresh_32 rfl ?_
  refine x_iast (pc2 := 34) hC hK (by assumption) (by assumption) (by rw [uF_eq]; omega) (by decide) dX8_fresh_33 rfl ?_
  refine x_aload_n (pc2 := 35) hC rfl rfl dX8_fresh_34 rfl ?_
  refine g_819 (pc2 := 38) hC hK (by assumption) (by assumption) dX8_fresh_35 rfl ?_
  refine x_iconst (pc2 := 39) hC dX8_fresh_38 rfl ?_
  refine x_isub (pc2 := 40) hC dX8_fresh_39 rfl ?_
  exact x_iret hC hr hlk ⟨_, rfl, by rw [uF_eq]; omega, rfl, by rw [uF_eq, show F 0 10 + 1 - 1 = F 0 10 by omega]⟩ dX8_fresh_40
theorem dX8_at_0 : decode cX8_at 0 = .ok (.iload_n 2, 1) := by decide +kernel
theorem dX8_at_1 : decode cX8_at 1 = .ok (.aload_n 0, 1) := by decide +kernel
theorem dX8_at_2 : decode cX8_at 2 = .ok (.getfield 31, 3) := by decide +kernel
theorem dX8_at_5 : decode cX8_at 5 = .ok (.iload_n 1, 1) := by decide +kernel
theorem dX8_at_6 : decode cX8_at 6 = .ok (.iaload, 1) := by decide +kernel
theorem dX8_at_7 : decode cX8_at 7 = .ok (.if_icmp .ge 18, 3) := by decide +kernel
theorem dX8_at_10 : decode cX8_at 10 = .ok (.aload_n 0, 1) := by decide +kernel
theorem dX8_at_11 : decode cX8_at 11 = .ok (.getfield 28, 3) := by decide +kernel
theorem dX8_at_14 : decode cX8_at 14 = .ok (.sipush 240, 3) := by decide +kernel
theorem dX8_at_17 : decode cX8_at 17 = .ok (.iload_n 1, 1) := by decide +kernel
theorem dX8_at_18 : decode cX8_at 18 = .ok (.imul, 1) := by decide +kernel
theorem dX8_at_19 : decode cX8_at 19 = .ok (.iload_n 2, 1) := by decide +kernel
theorem dX8_at_20 : decode cX8_at 20 = .ok (.iadd, 1) := by decide +kernel
theorem dX8_at_21 : decode cX8_at 21 = .ok (.iaload, 1) := by decide +kernel
theorem dX8_at_22 : decode cX8_at 22 = .ok (.goto 4, 3) := by decide +kernel
theorem dX8_at_25 : decode cX8_at 25 = .ok (.iconst 0, 1) := by decide +kernel
theorem dX8_at_26 : decode cX8_at 26 = .ok (.ireturn, 1) := by decide +kernel
set_option maxHeartbeats 4000000 in
theorem n_at (l : Launch) {D : va_G} {ids : Nat → ClassId} {β : Nat} {sh : Nat → Nat × Nat} {N : Nat} {R : Nat → Nat → Option Nat} {F : Nat → Nat → Int} {A : Nat → Int → Int} (hM : MoL sh R N) {x k : Int} (hx : 0 ≤ x ∧ x < 1500) (hk : 0 ≤ k ∧ k ≤ 240) (hs : 0 ≤ A 5 x ∧ A 5 x ≤ 240) : MetX l yX8_at cX8_at 3 (some (.int)) 0 0 D ids β sh N R F A [rf 0, pI x, pI k] (pIr (sameI F A (mli A x k))) := by
  refine MetX.of (loc := [_, _, _]) (plainFor_of_name (by decide +kernel)) (Nat.le_of_ble_eq_true rfl) rfl ?_
  intro p e s m args below meth c hC hK hr hlk
  obtain ⟨⟨m0, m1⟩, ⟨r0, r2, r3, r7, r8, r9, r11, r12, r13, r16, r18⟩, ⟨m2, m3⟩, ⟨m4, m5⟩, ⟨m6, m7⟩, ⟨m8, m9⟩, ⟨m10, m11⟩, ⟨m12, m13⟩, ⟨m14, m15⟩, ⟨m16, m17⟩, ⟨m18, m19⟩, ⟨m20, m21⟩, ⟨m22, m23⟩⟩ := id hM
  refine x_iload_n (pc2 := 1) hC rfl rfl dX8_at_0 rfl ?_
  refine x_aload_n (pc2 := 2) hC rfl rfl dX8_at_1 rfl ?_
  refine g_817 (pc2 := 5) hC hK (by assumption) (by assumption) (by assumption) dX8_at_2 rfl ?_
  refine x_iload_n (pc2 := 6) hC rfl rfl dX8_at_5 rfl ?_
  refine x_iald (pc2 := 7) hC hK (by assumption) (by assumption) (by omega) (by decide) dX8_at_6 rfl ?_
  refine x_icmp_ge (tgt := 25) (pc2 := 10) hC (by omega) (by omega) dX8_at_7 rfl rfl (fun h_7 => ?_) (fun h_7 => ?_)
  · refine x_iconst (pc2 := 26) hC dX8_at_25 rfl ?_
    exact x_iret hC hr hlk ⟨_, rfl, by unfold mli; first | rw [if_pos (by omega)] | rw [if_neg (by omega)], rfl, rfl⟩ dX8_at_26
  · refine x_aload_n (pc2 := 11) hC rfl rfl dX8_at_10 rfl ?_
    refine g_816 (pc2 := 14) hC hK (by assumption) (by assumption) (by assumption) dX8_at_11 rfl ?_
    refine x_sipush (pc2 := 17) hC rfl dX8_at_14 rfl ?_
    refine x_iload_n (pc2 := 18) hC rfl rfl dX8_at_17 rfl ?_
    refine x_imul (pc2 := 19) hC dX8_at_18 rfl ?_
    refine x_iload_n (pc2 := 20) hC rfl rfl dX8_at_19 rfl ?_
    refine x_iadd (pc2 := 21) hC dX8_at_20 rfl ?_
    refine x_iald (pc2 := 22) hC hK (by assumption) (by assumption) (by omega) (by decide) dX8_at_21 rfl ?_
    refine x_goto (pc2 := 26) hC dX8_at_22 rfl ?_
    exact x_iret hC hr hlk ⟨_, rfl, by unfold mli; first | rw [if_pos (by omega)] | rw [if_neg (by omega)], rfl, rfl⟩ dX8_at_26
theorem dX8_trims_0 : decode cX8_trims 0 = .ok (.aload_n 0, 1) := by decide +kernel
theorem dX8_trims_1 : decode cX8_trims 1 = .ok (.getfield 31, 3) := by decide +kernel
theorem dX8_trims_4 : decode cX8_trims 4 = .ok (.iload_n 1, 1) := by decide +kernel
theorem dX8_trims_5 : decode cX8_trims 5 = .ok (.iaload, 1) := by decide +kernel
theorem dX8_trims_6 : decode cX8_trims 6 = .ok (.ifCond .le 38, 3) := by decide +kernel
theorem dX8_trims_9 : decode cX8_trims 9 = .ok (.aload_n 0, 1) := by decide +kernel
theorem dX8_trims_10 : decode cX8_trims 10 = .ok (.getfield 28, 3) := by decide +kernel
theorem dX8_trims_13 : decode cX8_trims 13 = .ok (.sipush 240, 3) := by decide +kernel
theorem dX8_trims_16 : decode cX8_trims 16 = .ok (.iload_n 1, 1) := by decide +kernel
theorem dX8_trims_17 : decode cX8_trims 17 = .ok (.imul, 1) := by decide +kernel
theorem dX8_trims_18 : decode cX8_trims 18 = .ok (.aload_n 0, 1) := by decide +kernel
theorem dX8_trims_19 : decode cX8_trims 19 = .ok (.getfield 31, 3) := by decide +kernel
theorem dX8_trims_22 : decode cX8_trims 22 = .ok (.iload_n 1, 1) := by decide +kernel
theorem dX8_trims_23 : decode cX8_trims 23 = .ok (.iaload, 1) := by decide +kernel
theorem dX8_trims_24 : decode cX8_trims 24 = .ok (.iadd, 1) := by decide +kernel
theorem dX8_trims_25 : decode cX8_trims 25 = .ok (.iconst 1, 1) := by decide +kernel
theorem dX8_trims_26 : decode cX8_trims 26 = .ok (.isub, 1) := by decide +kernel
theorem dX8_trims_27 : decode cX8_trims 27 = .ok (.iaload, 1) := by decide +kernel
theorem dX8_trims_28 : decode cX8_trims 28 = .ok (.ifCond .ne 16, 3) := by decide +kernel
theorem dX8_trims_31 : decode cX8_trims 31 = .ok (.aload_n 0, 1) := by decide +kernel
theorem dX8_trims_32 : decode cX8_trims 32 = .ok (.getfield 31, 3) := by decide +kernel
theorem dX8_trims_35 : decode cX8_trims 35 = .ok (.iload_n 1, 1) := by decide +kernel
theorem dX8_trims_36 : decode cX8_trims 36 = .ok (.dup2, 1) := by decide +kernel
theorem dX8_trims_37 : decode cX8_trims 37 = .ok (.iaload, 1) := by decide +kernel
theorem dX8_trims_38 : decode cX8_trims 38 = .ok (.iconst 1, 1) := by decide +kernel
theorem dX8_trims_39 : decode cX8_trims 39 = .ok (.isub, 1) := by decide +kernel
theorem dX8_trims_40 : decode cX8_trims 40 = .ok (.iastore, 1) := by decide +kernel
theorem dX8_trims_41 : decode cX8_trims 41 = .ok (.goto (-41), 3) := by decide +kernel
theorem dX8_trims_44 : decode cX8_trims 44 = .ok (.return_, 1) := by decide +kernel
set_option maxHeartbeats 4000000 in
theorem n_trims (l : Launch) {D : va_G} {ids : Nat → ClassId} {β : Nat} {sh : Nat → Nat × Nat} {N : Nat} {R : Nat → Nat → Option Nat} {F : Nat → Nat → Int} {A : Nat → Int → Int} (hM : MoL sh R N) {x : Int} (hx : 0 ≤ x ∧ x < 1500) (hs : 0 ≤ A 5 x ∧ A 5 x ≤ 240) (hd : dig 32768 (mlm A x) (A 5 x)) : MetX l yX8_trims cX8_trims 2 none 0 0 D ids β sh N R F A [rf 0, pI x] (pVr (fun F2 A2 => F2 = F ∧ ∃ n : Int, (0 ≤ n ∧ n ≤ A 5 x) ∧ A2 = uA A 5 x n ∧ (0 < n → mlm A x (n - 1) ≠ 0) ∧ ∀ k : Int, n ≤ k → k < A 5 x → mlm A x k = 0)) := by
  refine MetX.of (loc := [_, _]) (plainFor_of_name (by decide +kernel)) (Nat.le_of_ble_eq_true rfl) rfl ?_
  intro p e s m args below meth c hC hK hr hlk
  obtain ⟨⟨m0, m1⟩, ⟨r0, r2, r3, r7, r8, r9, r11, r12, r13, r16, r18⟩, ⟨m2, m3⟩, ⟨m4, m5⟩, ⟨m6, m7⟩, ⟨m8, m9⟩, ⟨m10, m11⟩, ⟨m12, m13⟩, ⟨m14, m15⟩, ⟨m16, m17⟩, ⟨m18, m19⟩, ⟨m20, m21⟩, ⟨m22, m23⟩⟩ := id hM
  have e0 : uA A 5 x (A 5 x) = A := by funext a b; by_cases qa : a = 5 <;> by_cases qb : b = x <;> simp [uA, qa, qb]
  have loop : ∀ (d : Nat) (n : Int), n < d → 0 ≤ n → n ≤ A 5 x → (∀ k : Int, n ≤ k → k < A 5 x → mlm A x k = 0) → X p l e { frames := 0, cells := 0, slots := 0, locals := 0 } s m args below meth c (MQ below (QX D ids β sh N R (pVr (fun F2 A2 => F2 = F ∧ ∃ n : Int, (0 ≤ n ∧ n ≤ A 5 x) ∧ A2 = uA A 5 x n ∧ (0 < n → mlm A x (n - 1) ≠ 0) ∧ ∀ k : Int, n ≤ k → k < A 5 x → mlm A x k = 0))) args s 0 0 (inG β N)) (inG β N) D ids β sh 2 0 0 N R F (uA A 5 x n) [some (rf 0), some (pI x)] [] 0 := by
    intro d
    induction d with
    | zero => intro n hn; omega
    | succ d ih =>
      intro n hn n0 n1 hz
      have rd : uA A 5 x n 5 x = n := uA_eq
      have rl : ∀ j, uA A 5 x n 4 j = A 4 j := fun j => by rw [uA_ne (by decide)]
      refine x_aload_n (pc2 := 1) hC rfl rfl dX8_trims_0 rfl ?_
      refine g_817 (pc2 := 4) hC hK (by assumption) (by assumption) (by assumption) dX8_trims_1 rfl ?_
      refine x_iload_n (pc2 := 5) hC rfl rfl dX8_trims_4 rfl ?_
      refine x_iald (pc2 := 6) hC hK (by assumption) (by assumption) (by omega) (by decide) dX8_trims_5 rfl ?_
      rw [rd]
      refine x_if_le (tgt := 44) (pc2 := 9) hC (by omega) dX8_trims_6 rfl rfl (fun h_6 => ?_) (fun h_6 => ?_)
      · exact x_vret hC hr hlk ⟨rfl, rfl, n, ⟨n0, n1⟩, rfl, fun q => by first | omega | (rw [rl] at h_28; unfold mlm; rw [show 240 * x + (n - 1) = 240 * x + n - 1 by omega]; exact h_28), hz⟩ dX8_trims_44
      · refine x_aload_n (pc2 := 10) hC rfl rfl dX8_trims_9 rfl ?_
        refine g_816 (pc2 := 13) hC hK (by assumption) (by assumption) (by assumption) dX8_trims_10 rfl ?_
        refine x_sipush (pc2 := 16) hC rfl dX8_trims_13 rfl ?_
        refine x_iload_n (pc2 := 17) hC rfl rfl dX8_trims_16 rfl ?_
        refine x_imul (pc2 := 18) hC dX8_trims_17 rfl ?_
        refine x_aload_n (pc2 := 19) hC rfl rfl dX8_trims_18 rfl ?_
        refine g_817 (pc2 := 22) hC hK (by assumption) (by assumption) (by assumption) dX8_trims_19 rfl ?_
        refine x_iload_n (pc2 := 23) hC rfl rfl dX8_trims_22 rfl ?_
        refine x_iald (pc2 := 24) hC hK (by assumption) (by assumption) (by omega) (by decide) dX8_trims_23 rfl ?_
        refine x_iadd (pc2 := 25) hC dX8_trims_24 rfl ?_
        rw [rd]
        refine x_iconst (pc2 := 26) hC dX8_trims_25 rfl ?_
        refine x_isub (pc2 := 27) hC dX8_trims_26 rfl ?_
        refine x_iald (pc2 := 28) hC hK (by assumption) (by assumption) (by omega) (by decide) dX8_trims_27 rfl ?_
        refine x_if_ne (tgt := 44) (pc2 := 31) hC (by rw [rl]; have := hd (n - 1) (by omega) (by omega); unfold mlm at this; rw [show 240 * x + n - 1 = 240 * x + (n - 1) by omega]; omega) dX8_trims_28 rfl rfl (fun h_28 => ?_) (fun h_28 => ?_)
        · exact x_vret hC hr hlk ⟨rfl, rfl, n, ⟨n0, n1⟩, rfl, fun q => by first | omega | (rw [rl] at h_28; unfold mlm; rw [show 240 * x + (n - 1) = 240 * x + n - 1 by omega]; exact h_28), hz⟩ dX8_trims_44
        · refine x_aload_n (pc2 := 32) hC rfl rfl dX8_trims_31 rfl ?_
          refine g_817 (pc2 := 35) hC hK (by assumption) (by assumption) (by assumption) dX8_trims_32 rfl ?_
          refine x_iload_n (pc2 := 36) hC rfl rfl dX8_trims_35 rfl ?_
          refine x_dup2 (pc2 := 37) hC dX8_trims_36 rfl ?_
          refine x_iald (pc2 := 38) hC hK (by assumption) (by assumption) (by omega) (by decide) dX8_trims_37 rfl ?_
          refine x_iconst (pc2 := 39) hC dX8_trims_38 rfl ?_
          rw [rd]
          refine x_isub (pc2 := 40) hC dX8_trims_39 rfl ?_
          refine x_iast (pc2 := 41) hC hK (by assumption) (by assumption) (by omega) (by decide) dX8_trims_40 rfl ?_
          refine x_goto (pc2 := 0) hC dX8_trims_41 rfl ?_
          rw [rl] at h_28
          rw [show uA (uA A 5 x n) 5 x (n - 1) = uA A 5 x (n - 1) by funext a b; by_cases qa : a = 5 <;> by_cases qb : b = x <;> simp [uA, qa, qb]]
          refine ih (n - 1) (by omega) (by omega) (by omega) (fun k k0 k1 => ?_)
          by_cases q : k = n - 1
          · rw [q]; show A 4 (240 * x + (n - 1)) = 0; rw [← h_28]; congr 1; omega
          · exact hz k (by omega) k1
  have q := loop ((A 5 x).toNat + 1) (A 5 x) (by omega) hs.1 (Int.le_refl _) (fun k a b => by omega)
  rw [e0] at q
  exact q

theorem dX8_stand_0 : decode cX8_stand 0 = .ok (.aload_n 0, 1) := by decide +kernel
theorem dX8_stand_1 : decode cX8_stand 1 = .ok (.getfield 31, 3) := by decide +kernel
theorem dX8_stand_4 : decode cX8_stand 4 = .ok (.iload_n 1, 1) := by decide +kernel
theorem dX8_stand_5 : decode cX8_stand 5 = .ok (.iaload, 1) := by decide +kernel
theorem dX8_stand_6 : decode cX8_stand 6 = .ok (.aload_n 0, 1) := by decide +kernel
theorem dX8_stand_7 : decode cX8_stand 7 = .ok (.getfield 31, 3) := by decide +kernel
theorem dX8_stand_10 : decode cX8_stand 10 = .ok (.iload_n 2, 1) := by decide +kernel
theorem dX8_stand_11 : decode cX8_stand 11 = .ok (.iaload, 1) := by decide +kernel
theorem dX8_stand_12 : decode cX8_stand 12 = .ok (.if_icmp .eq 24, 3) := by decide +kernel
theorem dX8_stand_15 : decode cX8_stand 15 = .ok (.aload_n 0, 1) := by decide +kernel
theorem dX8_stand_16 : decode cX8_stand 16 = .ok (.getfield 31, 3) := by decide +kernel
theorem dX8_stand_19 : decode cX8_stand 19 = .ok (.iload_n 1, 1) := by decide +kernel
theorem dX8_stand_20 : decode cX8_stand 20 = .ok (.iaload, 1) := by decide +kernel
theorem dX8_stand_21 : decode cX8_stand 21 = .ok (.aload_n 0, 1) := by decide +kernel
theorem dX8_stand_22 : decode cX8_stand 22 = .ok (.getfield 31, 3) := by decide +kernel
theorem dX8_stand_25 : decode cX8_stand 25 = .ok (.iload_n 2, 1) := by decide +kernel
theorem dX8_stand_26 : decode cX8_stand 26 = .ok (.iaload, 1) := by decide +kernel
theorem dX8_stand_27 : decode cX8_stand 27 = .ok (.if_icmp .ge 7, 3) := by decide +kernel
theorem dX8_stand_30 : decode cX8_stand 30 = .ok (.iconst (-1), 1) := by decide +kernel
theorem dX8_stand_31 : decode cX8_stand 31 = .ok (.goto 4, 3) := by decide +kernel
theorem dX8_stand_34 : decode cX8_stand 34 = .ok (.iconst 1, 1) := by decide +kernel
theorem dX8_stand_35 : decode cX8_stand 35 = .ok (.ireturn, 1) := by decide +kernel
theorem dX8_stand_36 : decode cX8_stand 36 = .ok (.aload_n 0, 1) := by decide +kernel
theorem dX8_stand_37 : decode cX8_stand 37 = .ok (.getfield 31, 3) := by decide +kernel
theorem dX8_stand_40 : decode cX8_stand 40 = .ok (.iload_n 1, 1) := by decide +kernel
theorem dX8_stand_41 : decode cX8_stand 41 = .ok (.iaload, 1) := by decide +kernel
theorem dX8_stand_42 : decode cX8_stand 42 = .ok (.iconst 1, 1) := by decide +kernel
theorem dX8_stand_43 : decode cX8_stand 43 = .ok (.isub, 1) := by decide +kernel
theorem dX8_stand_44 : decode cX8_stand 44 = .ok (.istore_n 3, 1) := by decide +kernel
theorem dX8_stand_45 : decode cX8_stand 45 = .ok (.iload_n 3, 1) := by decide +kernel
theorem dX8_stand_46 : decode cX8_stand 46 = .ok (.ifCond .lt 36, 3) := by decide +kernel
theorem dX8_stand_49 : decode cX8_stand 49 = .ok (.aload_n 0, 1) := by decide +kernel
theorem dX8_stand_50 : decode cX8_stand 50 = .ok (.getfield 28, 3) := by decide +kernel
theorem dX8_stand_53 : decode cX8_stand 53 = .ok (.sipush 240, 3) := by decide +kernel
theorem dX8_stand_56 : decode cX8_stand 56 = .ok (.iload_n 1, 1) := by decide +kernel
theorem dX8_stand_57 : decode cX8_stand 57 = .ok (.imul, 1) := by decide +kernel
theorem dX8_stand_58 : decode cX8_stand 58 = .ok (.iload_n 3, 1) := by decide +kernel
theorem dX8_stand_59 : decode cX8_stand 59 = .ok (.iadd, 1) := by decide +kernel
theorem dX8_stand_60 : decode cX8_stand 60 = .ok (.iaload, 1) := by decide +kernel
theorem dX8_stand_61 : decode cX8_stand 61 = .ok (.aload_n 0, 1) := by decide +kernel
theorem dX8_stand_62 : decode cX8_stand 62 = .ok (.getfield 28, 3) := by decide +kernel
theorem dX8_stand_65 : decode cX8_stand 65 = .ok (.sipush 240, 3) := by decide +kernel
theorem dX8_stand_68 : decode cX8_stand 68 = .ok (.iload_n 2, 1) := by decide +kernel
theorem dX8_stand_69 : decode cX8_stand 69 = .ok (.imul, 1) := by decide +kernel
theorem dX8_stand_70 : decode cX8_stand 70 = .ok (.iload_n 3, 1) := by decide +kernel
theorem dX8_stand_71 : decode cX8_stand 71 = .ok (.iadd, 1) := by decide +kernel
theorem dX8_stand_72 : decode cX8_stand 72 = .ok (.iaload, 1) := by decide +kernel
theorem dX8_stand_73 : decode cX8_stand 73 = .ok (.if_icmp .ne 9, 3) := by decide +kernel
theorem dX8_stand_76 : decode cX8_stand 76 = .ok (.iinc 3 (-1), 3) := by decide +kernel
theorem dX8_stand_79 : decode cX8_stand 79 = .ok (.goto (-34), 3) := by decide +kernel
theorem dX8_stand_82 : decode cX8_stand 82 = .ok (.iload_n 3, 1) := by decide +kernel
theorem dX8_stand_83 : decode cX8_stand 83 = .ok (.ifCond .ge 7, 3) := by decide +kernel
theorem dX8_stand_86 : decode cX8_stand 86 = .ok (.iconst 0, 1) := by decide +kernel
theorem dX8_stand_87 : decode cX8_stand 87 = .ok (.goto 35, 3) := by decide +kernel
theorem dX8_stand_90 : decode cX8_stand 90 = .ok (.aload_n 0, 1) := by decide +kernel
theorem dX8_stand_91 : decode cX8_stand 91 = .ok (.getfield 28, 3) := by decide +kernel
theorem dX8_stand_94 : decode cX8_stand 94 = .ok (.sipush 240, 3) := by decide +kernel
theorem dX8_stand_97 : decode cX8_stand 97 = .ok (.iload_n 1, 1) := by decide +kernel
theorem dX8_stand_98 : decode cX8_stand 98 = .ok (.imul, 1) := by decide +kernel
theorem dX8_stand_99 : decode cX8_stand 99 = .ok (.iload_n 3, 1) := by decide +kernel
theorem dX8_stand_100 : decode cX8_stand 100 = .ok (.iadd, 1) := by decide +kernel
theorem dX8_stand_101 : decode cX8_stand 101 = .ok (.iaload, 1) := by decide +kernel
theorem dX8_stand_102 : decode cX8_stand 102 = .ok (.aload_n 0, 1) := by decide +kernel
theorem dX8_stand_103 : decode cX8_stand 103 = .ok (.getfield 28, 3) := by decide +kernel
theorem dX8_stand_106 : decode cX8_stand 106 = .ok (.sipush 240, 3) := by decide +kernel
theorem dX8_stand_109 : decode cX8_stand 109 = .ok (.iload_n 2, 1) := by decide +kernel
theorem dX8_stand_110 : decode cX8_stand 110 = .ok (.imul, 1) := by decide +kernel
theorem dX8_stand_111 : decode cX8_stand 111 = .ok (.iload_n 3, 1) := by decide +kernel
theorem dX8_stand_112 : decode cX8_stand 112 = .ok (.iadd, 1) := by decide +kernel
theorem dX8_stand_113 : decode cX8_stand 113 = .ok (.iaload, 1) := by decide +kernel
theorem dX8_stand_114 : decode cX8_stand 114 = .ok (.if_icmp .ge 7, 3) := by decide +kernel
theorem dX8_stand_117 : decode cX8_stand 117 = .ok (.iconst (-1), 1) := by decide +kernel
theorem dX8_stand_118 : decode cX8_stand 118 = .ok (.goto 4, 3) := by decide +kernel
theorem dX8_stand_121 : decode cX8_stand 121 = .ok (.iconst 1, 1) := by decide +kernel
theorem dX8_stand_122 : decode cX8_stand 122 = .ok (.ireturn, 1) := by decide +kernel
set_option maxHeartbeats 4000000 in
theorem n_stand (l : Launch) {D : va_G} {ids : Nat → ClassId} {β : Nat} {sh : Nat → Nat × Nat} {N : Nat} {R : Nat → Nat → Option Nat} {F : Nat → Nat → Int} {A : Nat → Int → Int} (hM : MoL sh R N) {x y : Int} (hx : 0 ≤ x ∧ x < 1500) (hy : 0 ≤ y ∧ y < 1500) (h0 : MOK A x) (h1 : MOK A y) : MetX l yX8_stand cX8_stand 4 (some (.int)) 0 0 D ids β sh N R F A [rf 0, pI x, pI y] (pIr (sameI F A (sgc (mm A x) (mm A y)))) := by
  refine MetX.of (loc := [_, _, _, _]) (plainFor_of_name (by decide +kernel)) (Nat.le_of_ble_eq_true rfl) rfl ?_
  intro p e s m args below meth c hC hK hr hlk
  obtain ⟨⟨m0, m1⟩, ⟨r0, r2, r3, r7, r8, r9, r11, r12, r13, r16, r18⟩, ⟨m2, m3⟩, ⟨m4, m5⟩, ⟨m6, m7⟩, ⟨m8, m9⟩, ⟨m10, m11⟩, ⟨m12, m13⟩, ⟨m14, m15⟩, ⟨m16, m17⟩, ⟨m18, m19⟩, ⟨m20, m21⟩, ⟨m22, m23⟩⟩ := id hM
  obtain ⟨s1, s3, s4, s5⟩ := id h0
  obtain ⟨t1, t3, t4, t5⟩ := id h1
  have loop : ∀ (n : Nat) (k : Int), (k + 1).toNat < n → -1 ≤ k → k < A 5 x → A 5 x = A 5 y → (∀ j, k < j → j < A 5 x → mlm A x j = mlm A y j) → X p l e { frames := 0, cells := 0, slots := 0, locals := 0 } s m args below meth c (MQ below (QX D ids β sh N R (pIr (sameI F A (sgc (mm A x) (mm A y))))) args s 0 0 (inG β N)) (inG β N) D ids β sh 4 0 0 N R F A [some (rf 0), some (pI x), some (pI y), some (pI k)] [] 45 := by
    intro n
    induction n with
    | zero => intro k hn; omega
    | succ n ih =>
      intro k hn hk1 hk2 he hz
      refine x_iload_n (pc2 := 46) hC rfl rfl dX8_stand_45 rfl ?_
      refine x_if_lt (tgt := 82) (pc2 := 49) hC (by omega) dX8_stand_46 rfl rfl (fun h_46 => ?_) (fun h_46 => ?_)
      · refine x_iload_n (pc2 := 83) hC rfl rfl dX8_stand_82 rfl ?_
        refine x_if_ge (tgt := 90) (pc2 := 86) hC (by omega) dX8_stand_83 rfl rfl (fun h_83 => ?_) (fun h_83 => ?_)
        · refine x_aload_n (pc2 := 91) hC rfl rfl dX8_stand_90 rfl ?_
          refine g_816 (pc2 := 94) hC hK (by assumption) (by assumption) (by assumption) dX8_stand_91 rfl ?_
          refine x_sipush (pc2 := 97) hC rfl dX8_stand_94 rfl ?_
          refine x_iload_n (pc2 := 98) hC rfl rfl dX8_stand_97 rfl ?_
          refine x_imul (pc2 := 99) hC dX8_stand_98 rfl ?_
          refine x_iload_n (pc2 := 100) hC rfl rfl dX8_stand_99 rfl ?_
          refine x_iadd (pc2 := 101) hC dX8_stand_100 rfl ?_
          refine x_iald (pc2 := 102) hC hK (by assumption) (by assumption) (by omega) (by decide) dX8_stand_101 rfl ?_
          refine x_aload_n (pc2 := 103) hC rfl rfl dX8_stand_102 rfl ?_
          refine g_816 (pc2 := 106) hC hK (by assumption) (by assumption) (by assumption) dX8_stand_103 rfl ?_
          refine x_sipush (pc2 := 109) hC rfl dX8_stand_106 rfl ?_
          refine x_iload_n (pc2 := 110) hC rfl rfl dX8_stand_109 rfl ?_
          refine x_imul (pc2 := 111) hC dX8_stand_110 rfl ?_
          refine x_iload_n (pc2 := 112) hC rfl rfl dX8_stand_111 rfl ?_
          refine x_iadd (pc2 := 113) hC dX8_stand_112 rfl ?_
          refine x_iald (pc2 := 114) hC hK (by assumption) (by assumption) (by omega) (by decide) dX8_stand_113 rfl ?_
          refine x_icmp_ge (tgt := 121) (pc2 := 117) hC (by have := s3 k (by omega) (by omega); unfold mlm at this; omega) (by have := t3 k (by omega) (by omega); unfold mlm at this; omega) dX8_stand_114 rfl rfl (fun h_114 => ?_) (fun h_114 => ?_)
          · have e0 : sgc (mm A x) (mm A y) = 1 := by
              have := sgc_mm h1 h0 he.symm (by omega) (by omega) (fun j a b => (hz j a (by omega)).symm) (show A 4 (240 * y + k) < A 4 (240 * x + k) by omega)
              unfold sgc
              rw [if_neg (by omega), if_neg (by omega)]
            refine x_iconst (pc2 := 122) hC dX8_stand_121 rfl ?_
            exact x_iret hC hr hlk ⟨_, rfl, e0.symm, rfl, rfl⟩ dX8_stand_122
          · have e0 : sgc (mm A x) (mm A y) = -1 := by
              have := sgc_mm h0 h1 he (by omega) hk2 hz (show A 4 (240 * x + k) < A 4 (240 * y + k) by omega)
              unfold sgc
              rw [if_pos this]
            refine x_iconst (pc2 := 118) hC dX8_stand_117 rfl ?_
            refine x_goto (pc2 := 122) hC dX8_stand_118 rfl ?_
            exact x_iret hC hr hlk ⟨_, rfl, e0.symm, rfl, rfl⟩ dX8_stand_122
        · have e0 : sgc (mm A x) (mm A y) = 0 := by
            have e : mm A x = mm A y := by
              unfold mm
              rw [← he]
              exact dv_congr (fun j a b => hz j (by omega) (by omega))
            unfold sgc
            rw [if_neg (by omega), if_pos e]
          refine x_iconst (pc2 := 87) hC dX8_stand_86 rfl ?_
          refine x_goto (pc2 := 122) hC dX8_stand_87 rfl ?_
          exact x_iret hC hr hlk ⟨_, rfl, e0.symm, rfl, rfl⟩ dX8_stand_122
      · refine x_aload_n (pc2 := 50) hC rfl rfl dX8_stand_49 rfl ?_
        refine g_816 (pc2 := 53) hC hK (by assumption) (by assumption) (by assumption) dX8_stand_50 rfl ?_
        refine x_sipush (pc2 := 56) hC rfl dX8_stand_53 rfl ?_
        refine x_iload_n (pc2 := 57) hC rfl rfl dX8_stand_56 rfl ?_
        refine x_imul (pc2 := 58) hC dX8_stand_57 rfl ?_
        refine x_iload_n (pc2 := 59) hC rfl rfl dX8_stand_58 rfl ?_
        refine x_iadd (pc2 := 60) hC dX8_stand_59 rfl ?_
        refine x_iald (pc2 := 61) hC hK (by assumption) (by assumption) (by omega) (by decide) dX8_stand_60 rfl ?_
        refine x_aload_n (pc2 := 62) hC rfl rfl dX8_stand_61 rfl ?_
        refine g_816 (pc2 := 65) hC hK (by assumption) (by assumption) (by assumption) dX8_stand_62 rfl ?_
        refine x_sipush (pc2 := 68) hC rfl dX8_stand_65 rfl ?_
        refine x_iload_n (pc2 := 69) hC rfl rfl dX8_stand_68 rfl ?_
        refine x_imul (pc2 := 70) hC dX8_stand_69 rfl ?_
        refine x_iload_n (pc2 := 71) hC rfl rfl dX8_stand_70 rfl ?_
        refine x_iadd (pc2 := 72) hC dX8_stand_71 rfl ?_
        refine x_iald (pc2 := 73) hC hK (by assumption) (by assumption) (by omega) (by decide) dX8_stand_72 rfl ?_
        refine x_icmp_ne (tgt := 82) (pc2 := 76) hC (by have := s3 k (by omega) (by omega); unfold mlm at this; omega) (by have := t3 k (by omega) (by omega); unfold mlm at this; omega) dX8_stand_73 rfl rfl (fun h_73 => ?_) (fun h_73 => ?_)
        · refine x_iload_n (pc2 := 83) hC rfl rfl dX8_stand_82 rfl ?_
          refine x_if_ge (tgt := 90) (pc2 := 86) hC (by omega) dX8_stand_83 rfl rfl (fun h_83 => ?_) (fun h_83 => ?_)
          · refine x_aload_n (pc2 := 91) hC rfl rfl dX8_stand_90 rfl ?_
            refine g_816 (pc2 := 94) hC hK (by assumption) (by assumption) (by assumption) dX8_stand_91 rfl ?_
            refine x_sipush (pc2 := 97) hC rfl dX8_stand_94 rfl ?_
            refine x_iload_n (pc2 := 98) hC rfl rfl dX8_stand_97 rfl ?_
            refine x_imul (pc2 := 99) hC dX8_stand_98 rfl ?_
            refine x_iload_n (pc2 := 100) hC rfl rfl dX8_stand_99 rfl ?_
            refine x_iadd (pc2 := 101) hC dX8_stand_100 rfl ?_
            refine x_iald (pc2 := 102) hC hK (by assumption) (by assumption) (by omega) (by decide) dX8_stand_101 rfl ?_
            refine x_aload_n (pc2 := 103) hC rfl rfl dX8_stand_102 rfl ?_
            refine g_816 (pc2 := 106) hC hK (by assumption) (by assumption) (by assumption) dX8_stand_103 rfl ?_
            refine x_sipush (pc2 := 109) hC rfl dX8_stand_106 rfl ?_
            refine x_iload_n (pc2 := 110) hC rfl rfl dX8_stand_109 rfl ?_
            refine x_imul (pc2 := 111) hC dX8_stand_110 rfl ?_
            refine x_iload_n (pc2 := 112) hC rfl rfl dX8_stand_111 rfl ?_
            refine x_iadd (pc2 := 113) hC dX8_stand_112 rfl ?_
            refine x_iald (pc2 := 114) hC hK (by assumption) (by assumption) (by omega) (by decide) dX8_stand_113 rfl ?_
            refine x_icmp_ge (tgt := 121) (pc2 := 117) hC (by have := s3 k (by omega) (by omega); unfold mlm at this; omega) (by have := t3 k (by omega) (by omega); unfold mlm at this; omega) dX8_stand_114 rfl rfl (fun h_114 => ?_) (fun h_114 => ?_)
            · have e0 : sgc (mm A x) (mm A y) = 1 := by
                have := sgc_mm h1 h0 he.symm (by omega) (by omega) (fun j a b => (hz j a (by omega)).symm) (show A 4 (240 * y + k) < A 4 (240 * x + k) by omega)
                unfold sgc
                rw [if_neg (by omega), if_neg (by omega)]
              refine x_iconst (pc2 := 122) hC dX8_stand_121 rfl ?_
              exact x_iret hC hr hlk ⟨_, rfl, e0.symm, rfl, rfl⟩ dX8_stand_122
            · have e0 : sgc (mm A x) (mm A y) = -1 := by
                have := sgc_mm h0 h1 he (by omega) hk2 hz (show A 4 (240 * x + k) < A 4 (240 * y + k) by omega)
                unfold sgc
                rw [if_pos this]
              refine x_iconst (pc2 := 118) hC dX8_stand_117 rfl ?_
              refine x_goto (pc2 := 122) hC dX8_stand_118 rfl ?_
              exact x_iret hC hr hlk ⟨_, rfl, e0.symm, rfl, rfl⟩ dX8_stand_122
          · have e0 : sgc (mm A x) (mm A y) = 0 := by
              have e : mm A x = mm A y := by
                unfold mm
                rw [← he]
                exact dv_congr (fun j a b => hz j (by omega) (by omega))
              unfold sgc
              rw [if_neg (by omega), if_pos e]
            refine x_iconst (pc2 := 87) hC dX8_stand_86 rfl ?_
            refine x_goto (pc2 := 122) hC dX8_stand_87 rfl ?_
            exact x_iret hC hr hlk ⟨_, rfl, e0.symm, rfl, rfl⟩ dX8_stand_122
        · refine x_iinc (pc2 := 79) (loc2 := [_, _, _, _]) hC (by decide) rfl rfl dX8_stand_76 rfl ?_
          refine x_goto (pc2 := 45) hC dX8_stand_79 rfl ?_
          exact ih (k - 1) (by omega) (by omega) (by omega) he (fun j h1 h2 => by by_cases e : j = k; rw [e]; exact h_73; exact hz j (by omega) h2)
  refine x_aload_n (pc2 := 1) hC rfl rfl dX8_stand_0 rfl ?_
  refine g_817 (pc2 := 4) hC hK (by assumption) (by assumption) (by assumption) dX8_stand_1 rfl ?_
  refine x_iload_n (pc2 := 5) hC rfl rfl dX8_stand_4 rfl ?_
  refine x_iald (pc2 := 6) hC hK (by assumption) (by assumption) (by omega) (by decide) dX8_stand_5 rfl ?_
  refine x_aload_n (pc2 := 7) hC rfl rfl dX8_stand_6 rfl ?_
  refine g_817 (pc2 := 10) hC hK (by assumption) (by assumption) (by assumption) dX8_stand_7 rfl ?_
  refine x_iload_n (pc2 := 11) hC rfl rfl dX8_stand_10 rfl ?_
  refine x_iald (pc2 := 12) hC hK (by assumption) (by assumption) (by omega) (by decide) dX8_stand_11 rfl ?_
  refine x_icmp_eq (tgt := 36) (pc2 := 15) hC (by omega) (by omega) dX8_stand_12 rfl rfl (fun h_12 => ?_) (fun h_12 => ?_)
  · refine x_aload_n (pc2 := 37) hC rfl rfl dX8_stand_36 rfl ?_
    refine g_817 (pc2 := 40) hC hK (by assumption) (by assumption) (by assumption) dX8_stand_37 rfl ?_
    refine x_iload_n (pc2 := 41) hC rfl rfl dX8_stand_40 rfl ?_
    refine x_iald (pc2 := 42) hC hK (by assumption) (by assumption) (by omega) (by decide) dX8_stand_41 rfl ?_
    refine x_iconst (pc2 := 43) hC dX8_stand_42 rfl ?_
    refine x_isub (pc2 := 44) hC dX8_stand_43 rfl ?_
    refine x_istore_n (pc2 := 45) (loc2 := [_, _, _, _]) hC rfl (by decide) rfl dX8_stand_44 rfl ?_
    exact loop ((A 5 x).toNat + 1) _ (by omega) (by omega) (by omega) h_12 (fun j a b => by omega)
  · refine x_aload_n (pc2 := 16) hC rfl rfl dX8_stand_15 rfl ?_
    refine g_817 (pc2 := 19) hC hK (by assumption) (by assumption) (by assumption) dX8_stand_16 rfl ?_
    refine x_iload_n (pc2 := 20) hC rfl rfl dX8_stand_19 rfl ?_
    refine x_iald (pc2 := 21) hC hK (by assumption) (by assumption) (by omega) (by decide) dX8_stand_20 rfl ?_
    refine x_aload_n (pc2 := 22) hC rfl rfl dX8_stand_21 rfl ?_
    refine g_817 (pc2 := 25) hC hK (by assumption) (by assumption) (by assumption) dX8_stand_22 rfl ?_
    refine x_iload_n (pc2 := 26) hC rfl rfl dX8_stand_25 rfl ?_
    refine x_iald (pc2 := 27) hC hK (by assumption) (by assumption) (by omega) (by decide) dX8_stand_26 rfl ?_
    refine x_icmp_ge (tgt := 34) (pc2 := 30) hC (by omega) (by omega) dX8_stand_27 rfl rfl (fun h_27 => ?_) (fun h_27 => ?_)
    · refine x_iconst (pc2 := 35) hC dX8_stand_34 rfl ?_
      exact x_iret hC hr hlk ⟨_, rfl, by unfold sgc; first | (have := mm_slt h0 h1 h_27; rw [if_pos this]) | (have := mm_slt h1 h0 (by omega); rw [if_neg (by omega), if_neg (by omega)]), rfl, rfl⟩ dX8_stand_35
    · refine x_iconst (pc2 := 31) hC dX8_stand_30 rfl ?_
      refine x_goto (pc2 := 35) hC dX8_stand_31 rfl ?_
      exact x_iret hC hr hlk ⟨_, rfl, by unfold sgc; first | (have := mm_slt h0 h1 h_27; rw [if_pos this]) | (have := mm_slt h1 h0 (by omega); rw [if_neg (by omega), if_neg (by omega)]), rfl, rfl⟩ dX8_stand_35
