/-- writes to the slot T alone -/
def Wr (T : Int) (A A1 : Nat → Int → Int) : Prop := FrT T A A1 ∧ ∀ a, a ≠ 4 → a ≠ 5 → a ≠ 6 → A1 a = A a
theorem Wr.rf {T : Int} {A : Nat → Int → Int} : Wr T A A := ⟨⟨fun _ _ => ⟨rfl, rfl⟩, fun _ _ => rfl⟩, fun _ _ _ _ => rfl⟩
theorem Wr.w4 {T i v : Int} {A A1 : Nat → Int → Int} (h : Wr T A A1) (hi : 240 * T ≤ i) : Wr T A (uA A1 4 i v) := ⟨⟨fun x hx => by rw [uA_ne (by decide), uA_ne (by decide)]; exact h.1.1 x hx, fun j hj => by rw [uA_ni (by omega)]; exact h.1.2 j hj⟩, fun a a4 a5 a6 => by rw [uA_ne a4]; exact h.2 a a4 a5 a6⟩
theorem Wr.w5 {T v : Int} {A A1 : Nat → Int → Int} (h : Wr T A A1) : Wr T A (uA A1 5 T v) := ⟨⟨fun x hx => by rw [uA_ni (by omega), uA_ne (by decide)]; exact h.1.1 x hx, fun j hj => by rw [uA_ne (by decide)]; exact h.1.2 j hj⟩, fun a a4 a5 a6 => by rw [uA_ne a5]; exact h.2 a a4 a5 a6⟩
theorem Wr.w6 {T v : Int} {A A1 : Nat → Int → Int} (h : Wr T A A1) : Wr T A (uA A1 6 T v) := ⟨⟨fun x hx => by rw [uA_ne (by decide), uA_ni (by omega)]; exact h.1.1 x hx, fun j hj => by rw [uA_ne (by decide)]; exact h.1.2 j hj⟩, fun a a4 a5 a6 => by rw [uA_ne a6]; exact h.2 a a4 a5 a6⟩
theorem Wr.fr {T : Int} {A : Nat → Int → Int} : Wr T A (uA (uA A 5 T 0) 6 T 1) := Wr.rf.w5.w6
theorem mlm_at {A : Nat → Int → Int} {T k v j : Int} : mlm (uA A 4 (240 * T + k) v) T j = if j = k then v else mlm A T j := by
  unfold mlm
  rw [uA_at]
  by_cases q : j = k
  · rw [if_pos q, if_pos (by omega)]
  · rw [if_neg q, if_neg (by omega)]
theorem mlm_5 {A : Nat → Int → Int} {T i v : Int} : mlm (uA A 5 i v) T = mlm A T := by unfold mlm; rw [uA_ne (by decide)]
theorem mlm_6 {A : Nat → Int → Int} {T i v : Int} : mlm (uA A 6 i v) T = mlm A T := by unfold mlm; rw [uA_ne (by decide)]
theorem dvm_uA {B : Int} {A : Nat → Int → Int} {T v : Int} {k : Nat} : dv B (mlm (uA A 4 (240 * T + (k : Int)) v) T) (k + 1) = dv B (mlm A T) k + v * B ^ k := by
  simp only [dv]
  rw [mlm_at, if_pos rfl, dv_congr (g := mlm A T) (fun j h0 h1 => by rw [mlm_at, if_neg (by omega)])]
theorem Wr.li {T x k : Int} {A A1 : Nat → Int → Int} (h : Wr T A A1) (hx : x < T) (hk : k < 240) : mli A1 x k = mli A x k := by
  unfold mli
  rw [(h.1.1 x hx).1, h.1.2 _ (by omega)]
theorem Wr.ok {T x : Int} {A A1 : Nat → Int → Int} (h : Wr T A A1) (hx : x < T) (hs : MOK A x) : MOK A1 x ∧ mv A1 x = mv A x := h.1.slot hx hs
/-- what is pushed, from the slot's cells -/
theorem Pq.wr {F : Nat → Nat → Int} {A A1 : Nat → Int → Int} {T v : Int} {V : Int → Int} (hS : St T V F A) (hT : T < 1500) (h : Wr T A A1) (ok : MOK A1 T) (hv : mv A1 T = v) : Pq F A T V v T (uF F 0 10 (T + 1)) A1 := Pq.mk hS hT rfl rfl (fun a a4 a5 a6 _ _ _ => h.2 a a4 a5 a6) h.1 ok hv
theorem Pq.tr {F : Nat → Nat → Int} {A A1 A2 : Nat → Int → Int} {T v n : Int} {V : Int → Int} (hS : St T V F A) (hT : T < 1500) (h : Wr T A A1) (hs : 0 ≤ A1 5 T ∧ A1 5 T ≤ 240) (hd : dig 32768 (mlm A1 T) (A1 5 T)) (h6 : A1 6 T = 1 ∨ A1 6 T = -1) (hv : A1 6 T * dv 32768 (mlm A1 T) (A1 5 T).toNat = v) (hn : 0 ≤ n ∧ n ≤ A1 5 T) (hA : A2 = uA A1 5 T n) (ht : 0 < n → mlm A1 T (n - 1) ≠ 0) (hz : ∀ k : Int, n ≤ k → k < A1 5 T → mlm A1 T k = 0) : Pq F A T V v T (uF F 0 10 (T + 1)) A2 := by
  subst hA
  have e5 : uA A1 5 T n 5 T = n := uA_eq
  have e6 : uA A1 5 T n 6 T = A1 6 T := by rw [uA_ne (by decide)]
  refine Pq.wr hS hT h.w5 ⟨by rw [e5]; omega, ?_, ?_, by rw [e6]; exact h6⟩ ?_
  · rw [e5, mlm_5]; exact fun k k0 k1 => hd k k0 (by omega)
  · rw [e5, mlm_5]; exact ht
  · unfold mv mm
    rw [e5, e6, mlm_5, ← hv, dv_drop (n := n.toNat) (m := (A1 5 T).toNat) (by omega) (fun k k0 k1 => hz k (by omega) (by omega))]
theorem step_p {B d c t P v : Int} (h : d + c * P = t) : d + v % B * P + v / B * (P * B) = t + (v - c) * P := by
  have := Int.mul_ediv_add_emod v B
  grind
theorem step_m {B d c t P v w : Int} (h : d + -c * P = t) : d + (v + w * B) * P + -w * (P * B) = t + (v + c) * P := by grind
theorem dX8_of_0 : decode cX8_of 0 = .ok (.aload_n 0, 1) := by decide +kernel
theorem dX8_of_1 : decode cX8_of 1 = .ok (.invokevirtual 55, 3) := by decide +kernel
theorem dX8_of_4 : decode cX8_of 4 = .ok (.istore_n 3, 1) := by decide +kernel
theorem dX8_of_5 : decode cX8_of 5 = .ok (.lload_n 1, 1) := by decide +kernel
theorem dX8_of_6 : decode cX8_of 6 = .ok (.lconst 0, 1) := by decide +kernel
theorem dX8_of_7 : decode cX8_of 7 = .ok (.lcmp, 1) := by decide +kernel
theorem dX8_of_8 : decode cX8_of 8 = .ok (.ifCond .ge 8, 3) := by decide +kernel
theorem dX8_of_11 : decode cX8_of 11 = .ok (.lload_n 1, 1) := by decide +kernel
theorem dX8_of_12 : decode cX8_of 12 = .ok (.lneg, 1) := by decide +kernel
theorem dX8_of_13 : decode cX8_of 13 = .ok (.goto 4, 3) := by decide +kernel
theorem dX8_of_16 : decode cX8_of 16 = .ok (.lload_n 1, 1) := by decide +kernel
theorem dX8_of_17 : decode cX8_of 17 = .ok (.lstore 4, 2) := by decide +kernel
theorem dX8_of_19 : decode cX8_of 19 = .ok (.aload_n 0, 1) := by decide +kernel
theorem dX8_of_20 : decode cX8_of 20 = .ok (.getfield 34, 3) := by decide +kernel
theorem dX8_of_23 : decode cX8_of 23 = .ok (.iload_n 3, 1) := by decide +kernel
theorem dX8_of_24 : decode cX8_of 24 = .ok (.lload_n 1, 1) := by decide +kernel
theorem dX8_of_25 : decode cX8_of 25 = .ok (.lconst 0, 1) := by decide +kernel
theorem dX8_of_26 : decode cX8_of 26 = .ok (.lcmp, 1) := by decide +kernel
theorem dX8_of_27 : decode cX8_of 27 = .ok (.ifCond .ge 7, 3) := by decide +kernel
theorem dX8_of_30 : decode cX8_of 30 = .ok (.iconst (-1), 1) := by decide +kernel
theorem dX8_of_31 : decode cX8_of 31 = .ok (.goto 4, 3) := by decide +kernel
theorem dX8_of_34 : decode cX8_of 34 = .ok (.iconst 1, 1) := by decide +kernel
theorem dX8_of_35 : decode cX8_of 35 = .ok (.iastore, 1) := by decide +kernel
theorem dX8_of_36 : decode cX8_of 36 = .ok (.lload 4, 2) := by decide +kernel
theorem dX8_of_38 : decode cX8_of 38 = .ok (.lconst 0, 1) := by decide +kernel
theorem dX8_of_39 : decode cX8_of 39 = .ok (.lcmp, 1) := by decide +kernel
theorem dX8_of_40 : decode cX8_of 40 = .ok (.ifCond .le 48, 3) := by decide +kernel
theorem dX8_of_43 : decode cX8_of 43 = .ok (.aload_n 0, 1) := by decide +kernel
theorem dX8_of_44 : decode cX8_of 44 = .ok (.getfield 28, 3) := by decide +kernel
theorem dX8_of_47 : decode cX8_of 47 = .ok (.sipush 240, 3) := by decide +kernel
theorem dX8_of_50 : decode cX8_of 50 = .ok (.iload_n 3, 1) := by decide +kernel
theorem dX8_of_51 : decode cX8_of 51 = .ok (.imul, 1) := by decide +kernel
theorem dX8_of_52 : decode cX8_of 52 = .ok (.aload_n 0, 1) := by decide +kernel
theorem dX8_of_53 : decode cX8_of 53 = .ok (.getfield 31, 3) := by decide +kernel
theorem dX8_of_56 : decode cX8_of 56 = .ok (.iload_n 3, 1) := by decide +kernel
theorem dX8_of_57 : decode cX8_of 57 = .ok (.iaload, 1) := by decide +kernel
theorem dX8_of_58 : decode cX8_of 58 = .ok (.iadd, 1) := by decide +kernel
theorem dX8_of_59 : decode cX8_of 59 = .ok (.lload 4, 2) := by decide +kernel
theorem dX8_of_61 : decode cX8_of 61 = .ok (.ldc2_w 59, 3) := by decide +kernel
theorem dX8_of_64 : decode cX8_of 64 = .ok (.lrem, 1) := by decide +kernel
theorem dX8_of_65 : decode cX8_of 65 = .ok (.l2i, 1) := by decide +kernel
theorem dX8_of_66 : decode cX8_of 66 = .ok (.iastore, 1) := by decide +kernel
theorem dX8_of_67 : decode cX8_of 67 = .ok (.aload_n 0, 1) := by decide +kernel
theorem dX8_of_68 : decode cX8_of 68 = .ok (.getfield 31, 3) := by decide +kernel
theorem dX8_of_71 : decode cX8_of 71 = .ok (.iload_n 3, 1) := by decide +kernel
theorem dX8_of_72 : decode cX8_of 72 = .ok (.dup2, 1) := by decide +kernel
theorem dX8_of_73 : decode cX8_of 73 = .ok (.iaload, 1) := by decide +kernel
theorem dX8_of_74 : decode cX8_of 74 = .ok (.iconst 1, 1) := by decide +kernel
theorem dX8_of_75 : decode cX8_of 75 = .ok (.iadd, 1) := by decide +kernel
theorem dX8_of_76 : decode cX8_of 76 = .ok (.iastore, 1) := by decide +kernel
theorem dX8_of_77 : decode cX8_of 77 = .ok (.lload 4, 2) := by decide +kernel
theorem dX8_of_79 : decode cX8_of 79 = .ok (.ldc2_w 59, 3) := by decide +kernel
theorem dX8_of_82 : decode cX8_of 82 = .ok (.ldiv, 1) := by decide +kernel
theorem dX8_of_83 : decode cX8_of 83 = .ok (.lstore 4, 2) := by decide +kernel
theorem dX8_of_85 : decode cX8_of 85 = .ok (.goto (-49), 3) := by decide +kernel
theorem dX8_of_88 : decode cX8_of 88 = .ok (.iload_n 3, 1) := by decide +kernel
theorem dX8_of_89 : decode cX8_of 89 = .ok (.ireturn, 1) := by decide +kernel
set_option maxHeartbeats 4000000 in
theorem n_of (l : Launch) {D : va_G} {ids : Nat → ClassId} {β : Nat} {sh : Nat → Nat × Nat} {N : Nat} {R : Nat → Nat → Option Nat} {F : Nat → Nat → Int} {A : Nat → Int → Int} (hM : MoL sh R N) {T v : Int} {V : Int → Int} (hS : St T V F A) (hT : T < 1500) (hv : -1000000000000000 ≤ v ∧ v ≤ 1000000000000000) : MetX l yX8_of cX8_of 6 (some (.int)) 1 20 D ids β sh N R F A [rf 0, pL v] (pIr (Pq F A T V v)) := by
  refine MetX.of (loc := [_, _, _, _, _, _]) (plainFor_of_name (by decide +kernel)) (Nat.le_of_ble_eq_true rfl) rfl ?_
  intro p e s m args below meth c hC hK hr hlk
  obtain ⟨⟨m0, m1⟩, ⟨r0, r2, r3, r7, r8, r9, r11, r12, r13, r16, r18⟩, ⟨m2, m3⟩, ⟨m4, m5⟩, ⟨m6, m7⟩, ⟨m8, m9⟩, ⟨m10, m11⟩, ⟨m12, m13⟩, ⟨m14, m15⟩, ⟨m16, m17⟩, ⟨m18, m19⟩, ⟨m20, m21⟩, ⟨m22, m23⟩⟩ := id hM
  have hT0 := hS.2.1.1
  have loop : ∀ (d k : Nat) (z : Int) (A1 : Nat → Int → Int), z < d → 0 ≤ z → z ≤ 1000000000000000 → k ≤ 4 → Wr T A A1 → A1 5 T = (k : Int) → A1 6 T = (if v < 0 then -1 else 1) → dig 32768 (mlm A1 T) k → (z = 0 → 0 < k → mlm A1 T ((k : Int) - 1) ≠ 0) → dv 32768 (mlm A1 T) k + z * 32768 ^ k = (v.natAbs : Int) → X p l e { frames := 1, cells := 0, slots := 0, locals := 20 } s m args below meth c (MQ below (QX D ids β sh N R (pIr (Pq F A T V v))) args s 0 0 (inG β N)) (inG β N) D ids β sh 6 0 0 N R (uF F 0 10 (T + 1)) A1 [some (rf 0), some (pL v), none, some (pI T), some (pL z), none] [] 36 := by
    intro d
    induction d with
    | zero => intro k z A1 hd; omega
    | succ d ih =>
      intro k z A1 hd z0 z1 hk hw e5 e6 hdg htop hval
      have n0 := dv_nonneg (B := 32768) (by decide) (fun j a b => (hdg j a b).1)
      have rd4 : ∀ i u, uA A1 4 i u 5 T = A1 5 T := fun i u => by rw [uA_ne (by decide)]
      refine x_lload (pc2 := 38) hC rfl dX8_of_36 rfl ?_
      refine x_lconst0 (pc2 := 39) hC dX8_of_38 rfl ?_
      refine x_lcmp_le (tgt := 88) (pc2 := 43) hC (by omega) (by omega) dX8_of_39 dX8_of_40 rfl rfl (fun h_39 => ?_) (fun h_39 => ?_)
      · refine x_iload_n (pc2 := 89) hC rfl rfl dX8_of_88 rfl ?_
        exact x_iret hC hr hlk ⟨_, rfl, Pq.wr hS hT hw ⟨by omega, by rw [e5]; exact hdg, by rw [e5]; exact fun q => htop (by omega) (by omega), by rw [e6]; split <;> omega⟩ (by
                obtain rfl : z = 0 := by omega
                unfold mv mm
                rw [e5, e6, Int.toNat_natCast]
                rw [Int.zero_mul, Int.add_zero] at hval
                rw [hval]
                split <;> omega)⟩ dX8_of_89
      · refine x_aload_n (pc2 := 44) hC rfl rfl dX8_of_43 rfl ?_
        refine g_816 (pc2 := 47) hC hK (by assumption) (by assumption) (by assumption) dX8_of_44 rfl ?_
        refine x_sipush (pc2 := 50) hC rfl dX8_of_47 rfl ?_
        refine x_iload_n (pc2 := 51) hC rfl rfl dX8_of_50 rfl ?_
        refine x_imul (pc2 := 52) hC dX8_of_51 rfl ?_
        refine x_aload_n (pc2 := 53) hC rfl rfl dX8_of_52 rfl ?_
        refine g_817 (pc2 := 56) hC hK (by assumption) (by assumption) (by assumption) dX8_of_53 rfl ?_
        refine x_iload_n (pc2 := 57) hC rfl rfl dX8_of_56 rfl ?_
        refine x_iald (pc2 := 58) hC hK (by assumption) (by assumption) (by omega) (by decide) dX8_of_57 rfl ?_
        rw [e5]
        refine x_iadd (pc2 := 59) hC dX8_of_58 rfl ?_
        refine x_lload (pc2 := 61) hC rfl dX8_of_59 rfl ?_
        refine x_ldc2 (pc2 := 64) (z := 32768) hC wt_910 rfl dX8_of_61 rfl ?_
        refine x_lremp (pc2 := 65) hC (by omega) (by omega) (by omega) (by omega) dX8_of_64 rfl ?_
        refine x_l2i (pc2 := 66) hC dX8_of_65 rfl ?_
        
        refine x_iast (pc2 := 67) hC hK (by assumption) (by assumption) (by omega) (by decide) dX8_of_66 rfl ?_
        refine x_aload_n (pc2 := 68) hC rfl rfl dX8_of_67 rfl ?_
        refine g_817 (pc2 := 71) hC hK (by assumption) (by assumption) (by assumption) dX8_of_68 rfl ?_
        refine x_iload_n (pc2 := 72) hC rfl rfl dX8_of_71 rfl ?_
        refine x_dup2 (pc2 := 73) hC dX8_of_72 rfl ?_
        refine x_iald (pc2 := 74) hC hK (by assumption) (by assumption) (by omega) (by decide) dX8_of_73 rfl ?_
        rw [rd4, e5]
        refine x_iconst (pc2 := 75) hC dX8_of_74 rfl ?_
        refine x_iadd (pc2 := 76) hC dX8_of_75 rfl ?_
        refine x_iast (pc2 := 77) hC hK (by assumption) (by assumption) (by omega) (by decide) dX8_of_76 rfl ?_
        refine x_lload (pc2 := 79) hC rfl dX8_of_77 rfl ?_
        refine x_ldc2 (pc2 := 82) (z := 32768) hC wt_910 rfl dX8_of_79 rfl ?_
        refine x_ldivp (pc2 := 83) hC (by omega) (by omega) (by omega) (by omega) dX8_of_82 rfl ?_
        refine x_lstore (pc2 := 85) (loc2 := [_, _, _, _, _, _]) hC (by decide) rfl dX8_of_83 rfl ?_
        refine x_goto (pc2 := 36) hC dX8_of_85 rfl ?_
        have k3 : k < 4 := by
          have a1 : 1 * (32768 : Int) ^ k ≤ z * 32768 ^ k := Int.mul_le_mul_of_nonneg_right (by omega) (Int.le_of_lt (pow_pos' (by decide) k))
          refine pow_lt_of (B := 32768) (by decide) (Int.lt_of_le_of_lt (b := 1000000000000000) (by omega) (by decide))
        refine ih (k + 1) _ _ (by omega) (by omega) (by omega) (by omega) ((hw.w4 (by omega)).w5) ?_ ?_ ?_ ?_ ?_
        · rw [uA_eq]; omega
        · rw [uA_ne (by decide), uA_ne (by decide)]; exact e6
        · rw [mlm_5]
          intro j j0 j1
          rw [mlm_at]
          split
          · omega
          · exact hdg j j0 (by omega)
        · intro q _
          rw [mlm_5, mlm_at, if_pos (by omega)]
          omega
        · rw [mlm_5, dvm_uA, Int.pow_succ, step_p (c := z) hval]
          omega
  refine x_aload_n (pc2 := 1) hC rfl rfl dX8_of_0 rfl ?_
  refine x_cVi (pc2 := 4) (ci := 8) hC hK (n_fresh l hM hS.1 ⟨hS.2.1.1, hT⟩) lk_906 rfl rfl (by decide) (by assumption) (by assumption) ⟨Nat.le_of_ble_eq_true rfl, Nat.le_of_ble_eq_true rfl⟩ ⟨Nat.le_refl _, Nat.le_refl _⟩ rfl (Nat.le_of_ble_eq_true rfl) dX8_of_1 rfl ?_
  rintro z1 F1 A1 ⟨e11, e21, e31⟩
  subst e11 e21 e31
  refine x_istore_n (pc2 := 5) (loc2 := [_, _, _, _, _, _]) hC rfl (by decide) rfl dX8_of_4 rfl ?_
  refine x_lload_n (pc2 := 6) hC rfl rfl dX8_of_5 rfl ?_
  refine x_lconst0 (pc2 := 7) hC dX8_of_6 rfl ?_
  refine x_lcmp_ge (tgt := 16) (pc2 := 11) hC (by omega) (by omega) dX8_of_7 dX8_of_8 rfl rfl (fun h_7 => ?_) (fun h_7 => ?_)
  · refine x_lload_n (pc2 := 17) hC rfl rfl dX8_of_16 rfl ?_
    refine x_lstore (pc2 := 19) (loc2 := [_, _, _, _, _, _]) hC (by decide) rfl dX8_of_17 rfl ?_
    refine x_aload_n (pc2 := 20) hC rfl rfl dX8_of_19 rfl ?_
    refine g_818 (pc2 := 23) hC hK (by assumption) (by assumption) (by assumption) dX8_of_20 rfl ?_
    refine x_iload_n (pc2 := 24) hC rfl rfl dX8_of_23 rfl ?_
    refine x_lload_n (pc2 := 25) hC rfl rfl dX8_of_24 rfl ?_
    refine x_lconst0 (pc2 := 26) hC dX8_of_25 rfl ?_
    refine x_lcmp_ge (tgt := 34) (pc2 := 30) hC (by omega) (by omega) dX8_of_26 dX8_of_27 rfl rfl (fun h_26 => ?_) (fun h_26 => ?_)
    · refine x_iconst (pc2 := 35) hC dX8_of_34 rfl ?_
      refine x_iast (pc2 := 36) hC hK (by assumption) (by assumption) (by omega) (by decide) dX8_of_35 rfl ?_
      exact loop (v.natAbs + 1) 0 _ _ (by omega) (by omega) (by omega) (by decide) Wr.fr.w6 (by rw [uA_ne (by decide), uA_ne (by decide), uA_eq]; rfl) (by rw [uA_eq]; split <;> omega) (fun j a b => by omega) (fun _ q => absurd q (by decide)) (by simp [dv]; omega)
    · refine x_iconst (pc2 := 31) hC dX8_of_30 rfl ?_
      refine x_goto (pc2 := 35) hC dX8_of_31 rfl ?_
      refine x_iast (pc2 := 36) hC hK (by assumption) (by assumption) (by omega) (by decide) dX8_of_35 rfl ?_
      exact loop (v.natAbs + 1) 0 _ _ (by omega) (by omega) (by omega) (by decide) Wr.fr.w6 (by rw [uA_ne (by decide), uA_ne (by decide), uA_eq]; rfl) (by rw [uA_eq]; split <;> omega) (fun j a b => by omega) (fun _ q => absurd q (by decide)) (by simp [dv]; omega)
  · refine x_lload_n (pc2 := 12) hC rfl rfl dX8_of_11 rfl ?_
    refine x_lneg (pc2 := 13) hC dX8_of_12 rfl ?_
    refine x_goto (pc2 := 17) hC dX8_of_13 rfl ?_
    refine x_lstore (pc2 := 19) (loc2 := [_, _, _, _, _, _]) hC (by decide) rfl dX8_of_17 rfl ?_
    refine x_aload_n (pc2 := 20) hC rfl rfl dX8_of_19 rfl ?_
    refine g_818 (pc2 := 23) hC hK (by assumption) (by assumption) (by assumption) dX8_of_20 rfl ?_
    refine x_iload_n (pc2 := 24) hC rfl rfl dX8_of_23 rfl ?_
    refine x_lload_n (pc2 := 25) hC rfl rfl dX8_of_24 rfl ?_
    refine x_lconst0 (pc2 := 26) hC dX8_of_25 rfl ?_
    refine x_lcmp_ge (tgt := 34) (pc2 := 30) hC (by omega) (by omega) dX8_of_26 dX8_of_27 rfl rfl (fun h_26 => ?_) (fun h_26 => ?_)
    · refine x_iconst (pc2 := 35) hC dX8_of_34 rfl ?_
      refine x_iast (pc2 := 36) hC hK (by assumption) (by assumption) (by omega) (by decide) dX8_of_35 rfl ?_
      exact loop (v.natAbs + 1) 0 _ _ (by omega) (by omega) (by omega) (by decide) Wr.fr.w6 (by rw [uA_ne (by decide), uA_ne (by decide), uA_eq]; rfl) (by rw [uA_eq]; split <;> omega) (fun j a b => by omega) (fun _ q => absurd q (by decide)) (by simp [dv]; omega)
    · refine x_iconst (pc2 := 31) hC dX8_of_30 rfl ?_
      refine x_goto (pc2 := 35) hC dX8_of_31 rfl ?_
      refine x_iast (pc2 := 36) hC hK (by assumption) (by assumption) (by omega) (by decide) dX8_of_35 rfl ?_
      exact loop (v.natAbs + 1) 0 _ _ (by omega) (by omega) (by omega) (by decide) Wr.fr.w6 (by rw [uA_ne (by decide), uA_ne (by decide), uA_eq]; rfl) (by rw [uA_eq]; split <;> omega) (fun j a b => by omega) (fun _ q => absurd q (by decide)) (by simp [dv]; omega)
theorem minus_fin {F : Nat → Nat → Int} {A A1 : Nat → Int → Int} {T x : Int} {V : Int → Int} {k : Nat} {s : Int} (hS : St T V F A) (hT : T < 1500) (hx : 0 ≤ x ∧ x < T) (hw : Wr T A A1) (hk : (k : Int) = A 5 x) (e5 : A1 5 x = A 5 x) (es : s = A 6 x) (hc : ∀ j : Int, 0 ≤ j → j < k → mlm A1 T j = mlm A x j) : Pq F A T V (-(V x)) T (uF F 0 10 (T + 1)) (uA (uA A1 5 T (A1 5 x)) 6 T (-s)) := by
  obtain ⟨s1, s3, s4, s5⟩ := (hS.2.2 x hx.1 hx.2).1
  refine Pq.wr hS hT hw.w5.w6 ⟨?_, ?_, ?_, ?_⟩ ?_
  · rw [uA_ne (by decide), uA_eq, e5]; exact s1
  · rw [uA_ne (by decide), uA_eq, mlm_6, mlm_5, e5]
    exact fun j a b => by rw [hc j a (by omega)]; exact s3 j a b
  · rw [uA_ne (by decide), uA_eq, mlm_6, mlm_5, e5]
    exact fun q => by rw [hc _ (by omega) (by omega)]; exact s4 q
  · rw [uA_eq]; omega
  · unfold mv mm
    rw [uA_eq, uA_ne (by decide), uA_eq, mlm_6, mlm_5, e5, ← (hS.2.2 x hx.1 hx.2).2, dv_congr (g := mlm A x) (fun j a b => hc j a (by omega)), es, Int.neg_mul]
    rfl
theorem dX8_minus_0 : decode cX8_minus 0 = .ok (.aload_n 0, 1) := by decide +kernel
theorem dX8_minus_1 : decode cX8_minus 1 = .ok (.invokevirtual 55, 3) := by decide +kernel
theorem dX8_minus_4 : decode cX8_minus 4 = .ok (.istore_n 2, 1) := by decide +kernel
theorem dX8_minus_5 : decode cX8_minus 5 = .ok (.iconst 0, 1) := by decide +kernel
theorem dX8_minus_6 : decode cX8_minus 6 = .ok (.istore_n 3, 1) := by decide +kernel
theorem dX8_minus_7 : decode cX8_minus 7 = .ok (.iload_n 3, 1) := by decide +kernel
theorem dX8_minus_8 : decode cX8_minus 8 = .ok (.aload_n 0, 1) := by decide +kernel
theorem dX8_minus_9 : decode cX8_minus 9 = .ok (.getfield 31, 3) := by decide +kernel
theorem dX8_minus_12 : decode cX8_minus 12 = .ok (.iload_n 1, 1) := by decide +kernel
theorem dX8_minus_13 : decode cX8_minus 13 = .ok (.iaload, 1) := by decide +kernel
theorem dX8_minus_14 : decode cX8_minus 14 = .ok (.if_icmp .ge 33, 3) := by decide +kernel
theorem dX8_minus_17 : decode cX8_minus 17 = .ok (.aload_n 0, 1) := by decide +kernel
theorem dX8_minus_18 : decode cX8_minus 18 = .ok (.getfield 28, 3) := by decide +kernel
theorem dX8_minus_21 : decode cX8_minus 21 = .ok (.sipush 240, 3) := by decide +kernel
theorem dX8_minus_24 : decode cX8_minus 24 = .ok (.iload_n 2, 1) := by decide +kernel
theorem dX8_minus_25 : decode cX8_minus 25 = .ok (.imul, 1) := by decide +kernel
theorem dX8_minus_26 : decode cX8_minus 26 = .ok (.iload_n 3, 1) := by decide +kernel
theorem dX8_minus_27 : decode cX8_minus 27 = .ok (.iadd, 1) := by decide +kernel
theorem dX8_minus_28 : decode cX8_minus 28 = .ok (.aload_n 0, 1) := by decide +kernel
theorem dX8_minus_29 : decode cX8_minus 29 = .ok (.getfield 28, 3) := by decide +kernel
theorem dX8_minus_32 : decode cX8_minus 32 = .ok (.sipush 240, 3) := by decide +kernel
theorem dX8_minus_35 : decode cX8_minus 35 = .ok (.iload_n 1, 1) := by decide +kernel
theorem dX8_minus_36 : decode cX8_minus 36 = .ok (.imul, 1) := by decide +kernel
theorem dX8_minus_37 : decode cX8_minus 37 = .ok (.iload_n 3, 1) := by decide +kernel
theorem dX8_minus_38 : decode cX8_minus 38 = .ok (.iadd, 1) := by decide +kernel
theorem dX8_minus_39 : decode cX8_minus 39 = .ok (.iaload, 1) := by decide +kernel
theorem dX8_minus_40 : decode cX8_minus 40 = .ok (.iastore, 1) := by decide +kernel
theorem dX8_minus_41 : decode cX8_minus 41 = .ok (.iinc 3 1, 3) := by decide +kernel
theorem dX8_minus_44 : decode cX8_minus 44 = .ok (.goto (-37), 3) := by decide +kernel
theorem dX8_minus_47 : decode cX8_minus 47 = .ok (.aload_n 0, 1) := by decide +kernel
theorem dX8_minus_48 : decode cX8_minus 48 = .ok (.getfield 31, 3) := by decide +kernel
theorem dX8_minus_51 : decode cX8_minus 51 = .ok (.iload_n 2, 1) := by decide +kernel
theorem dX8_minus_52 : decode cX8_minus 52 = .ok (.aload_n 0, 1) := by decide +kernel
theorem dX8_minus_53 : decode cX8_minus 53 = .ok (.getfield 31, 3) := by decide +kernel
theorem dX8_minus_56 : decode cX8_minus 56 = .ok (.iload_n 1, 1) := by decide +kernel
theorem dX8_minus_57 : decode cX8_minus 57 = .ok (.iaload, 1) := by decide +kernel
theorem dX8_minus_58 : decode cX8_minus 58 = .ok (.iastore, 1) := by decide +kernel
theorem dX8_minus_59 : decode cX8_minus 59 = .ok (.aload_n 0, 1) := by decide +kernel
theorem dX8_minus_60 : decode cX8_minus 60 = .ok (.getfield 34, 3) := by decide +kernel
theorem dX8_minus_63 : decode cX8_minus 63 = .ok (.iload_n 2, 1) := by decide +kernel
theorem dX8_minus_64 : decode cX8_minus 64 = .ok (.aload_n 0, 1) := by decide +kernel
theorem dX8_minus_65 : decode cX8_minus 65 = .ok (.getfield 34, 3) := by decide +kernel
theorem dX8_minus_68 : decode cX8_minus 68 = .ok (.iload_n 1, 1) := by decide +kernel
theorem dX8_minus_69 : decode cX8_minus 69 = .ok (.iaload, 1) := by decide +kernel
theorem dX8_minus_70 : decode cX8_minus 70 = .ok (.ineg, 1) := by decide +kernel
theorem dX8_minus_71 : decode cX8_minus 71 = .ok (.iastore, 1) := by decide +kernel
theorem dX8_minus_72 : decode cX8_minus 72 = .ok (.iload_n 2, 1) := by decide +kernel
theorem dX8_minus_73 : decode cX8_minus 73 = .ok (.ireturn, 1) := by decide +kernel
set_option maxHeartbeats 4000000 in
theorem n_minus (l : Launch) {D : va_G} {ids : Nat → ClassId} {β : Nat} {sh : Nat → Nat × Nat} {N : Nat} {R : Nat → Nat → Option Nat} {F : Nat → Nat → Int} {A : Nat → Int → Int} (hM : MoL sh R N) {T x : Int} {V : Int → Int} (hS : St T V F A) (hT : T < 1500) (hx : 0 ≤ x ∧ x < T) : MetX l yX8_minus cX8_minus 4 (some (.int)) 1 20 D ids β sh N R F A [rf 0, pI x] (pIr (Pq F A T V (-(V x)))) := by
  refine MetX.of (loc := [_, _, _, _]) (plainFor_of_name (by decide +kernel)) (Nat.le_of_ble_eq_true rfl) rfl ?_
  intro p e s m args below meth c hC hK hr hlk
  obtain ⟨⟨m0, m1⟩, ⟨r0, r2, r3, r7, r8, r9, r11, r12, r13, r16, r18⟩, ⟨m2, m3⟩, ⟨m4, m5⟩, ⟨m6, m7⟩, ⟨m8, m9⟩, ⟨m10, m11⟩, ⟨m12, m13⟩, ⟨m14, m15⟩, ⟨m16, m17⟩, ⟨m18, m19⟩, ⟨m20, m21⟩, ⟨m22, m23⟩⟩ := id hM
  obtain ⟨s1, s3, s4, s5⟩ := (hS.2.2 x hx.1 hx.2).1
  have hT0 := hS.2.1
  have loop : ∀ (d k : Nat) (A1 : Nat → Int → Int), A 5 x - k < d → (k : Int) ≤ A 5 x → Wr T A A1 → (∀ j : Int, 0 ≤ j → j < k → mlm A1 T j = mlm A x j) → X p l e { frames := 1, cells := 0, slots := 0, locals := 20 } s m args below meth c (MQ below (QX D ids β sh N R (pIr (Pq F A T V (-(V x))))) args s 0 0 (inG β N)) (inG β N) D ids β sh 4 0 0 N R (uF F 0 10 (T + 1)) A1 [some (rf 0), some (pI x), some (pI T), some (pI (k : Int))] [] 7 := by
    intro d
    induction d with
    | zero => intro k A1 hd; omega
    | succ d ih =>
      intro k A1 hd hk hw hc
      obtain ⟨e5, e6⟩ := hw.1.1 x hx.2
      have rd : uA A1 5 T (A1 5 x) 6 x = A 6 x := by rw [uA_ne (by decide)]; exact e6
      refine x_iload_n (pc2 := 8) hC rfl rfl dX8_minus_7 rfl ?_
      refine x_aload_n (pc2 := 9) hC rfl rfl dX8_minus_8 rfl ?_
      refine g_817 (pc2 := 12) hC hK (by assumption) (by assumption) (by assumption) dX8_minus_9 rfl ?_
      refine x_iload_n (pc2 := 13) hC rfl rfl dX8_minus_12 rfl ?_
      refine x_iald (pc2 := 14) hC hK (by assumption) (by assumption) (by omega) (by decide) dX8_minus_13 rfl ?_
      refine x_icmp_ge (tgt := 47) (pc2 := 17) hC (by omega) (by rw [e5]; omega) dX8_minus_14 rfl rfl (fun h_14 => ?_) (fun h_14 => ?_)
      · refine x_aload_n (pc2 := 48) hC rfl rfl dX8_minus_47 rfl ?_
        refine g_817 (pc2 := 51) hC hK (by assumption) (by assumption) (by assumption) dX8_minus_48 rfl ?_
        refine x_iload_n (pc2 := 52) hC rfl rfl dX8_minus_51 rfl ?_
        refine x_aload_n (pc2 := 53) hC rfl rfl dX8_minus_52 rfl ?_
        refine g_817 (pc2 := 56) hC hK (by assumption) (by assumption) (by assumption) dX8_minus_53 rfl ?_
        refine x_iload_n (pc2 := 57) hC rfl rfl dX8_minus_56 rfl ?_
        refine x_iald (pc2 := 58) hC hK (by assumption) (by assumption) (by omega) (by decide) dX8_minus_57 rfl ?_
        refine x_iast (pc2 := 59) hC hK (by assumption) (by assumption) (by omega) (by decide) dX8_minus_58 rfl ?_
        refine x_aload_n (pc2 := 60) hC rfl rfl dX8_minus_59 rfl ?_
        refine g_818 (pc2 := 63) hC hK (by assumption) (by assumption) (by assumption) dX8_minus_60 rfl ?_
        refine x_iload_n (pc2 := 64) hC rfl rfl dX8_minus_63 rfl ?_
        refine x_aload_n (pc2 := 65) hC rfl rfl dX8_minus_64 rfl ?_
        refine g_818 (pc2 := 68) hC hK (by assumption) (by assumption) (by assumption) dX8_minus_65 rfl ?_
        refine x_iload_n (pc2 := 69) hC rfl rfl dX8_minus_68 rfl ?_
        refine x_iald (pc2 := 70) hC hK (by assumption) (by assumption) (by omega) (by decide) dX8_minus_69 rfl ?_
        rw [rd]
        refine x_ineg (pc2 := 71) hC dX8_minus_70 rfl ?_
        refine x_iast (pc2 := 72) hC hK (by assumption) (by assumption) (by omega) (by decide) dX8_minus_71 rfl ?_
        refine x_iload_n (pc2 := 73) hC rfl rfl dX8_minus_72 rfl ?_
        exact x_iret hC hr hlk ⟨_, rfl, minus_fin hS hT hx hw (by omega) e5 rfl hc⟩ dX8_minus_73
      · refine x_aload_n (pc2 := 18) hC rfl rfl dX8_minus_17 rfl ?_
        refine g_816 (pc2 := 21) hC hK (by assumption) (by assumption) (by assumption) dX8_minus_18 rfl ?_
        refine x_sipush (pc2 := 24) hC rfl dX8_minus_21 rfl ?_
        refine x_iload_n (pc2 := 25) hC rfl rfl dX8_minus_24 rfl ?_
        refine x_imul (pc2 := 26) hC dX8_minus_25 rfl ?_
        refine x_iload_n (pc2 := 27) hC rfl rfl dX8_minus_26 rfl ?_
        refine x_iadd (pc2 := 28) hC dX8_minus_27 rfl ?_
        refine x_aload_n (pc2 := 29) hC rfl rfl dX8_minus_28 rfl ?_
        refine g_816 (pc2 := 32) hC hK (by assumption) (by assumption) (by assumption) dX8_minus_29 rfl ?_
        refine x_sipush (pc2 := 35) hC rfl dX8_minus_32 rfl ?_
        refine x_iload_n (pc2 := 36) hC rfl rfl dX8_minus_35 rfl ?_
        refine x_imul (pc2 := 37) hC dX8_minus_36 rfl ?_
        refine x_iload_n (pc2 := 38) hC rfl rfl dX8_minus_37 rfl ?_
        refine x_iadd (pc2 := 39) hC dX8_minus_38 rfl ?_
        refine x_iald (pc2 := 40) hC hK (by assumption) (by assumption) (by omega) (by decide) dX8_minus_39 rfl ?_
        refine x_iast (pc2 := 41) hC hK (by assumption) (by assumption) (by omega) (by decide) dX8_minus_40 rfl ?_
        refine x_iinc (pc2 := 44) (loc2 := [_, _, _, _]) hC (by decide) rfl rfl dX8_minus_41 rfl ?_
        refine x_goto (pc2 := 7) hC dX8_minus_44 rfl ?_
        refine ih (k + 1) _ (by omega) (by omega) (hw.w4 (by omega)) (fun j j0 j1 => ?_)
        rw [mlm_at]
        by_cases q : j = k
        · rw [if_pos q, hw.1.2 _ (by omega), q]; rfl
        · rw [if_neg q]; exact hc j j0 (by omega)
  refine x_aload_n (pc2 := 1) hC rfl rfl dX8_minus_0 rfl ?_
  refine x_cVi (pc2 := 4) (ci := 8) hC hK (n_fresh l hM hS.1 ⟨hS.2.1.1, hT⟩) lk_906 rfl rfl (by decide) (by assumption) (by assumption) ⟨Nat.le_of_ble_eq_true rfl, Nat.le_of_ble_eq_true rfl⟩ ⟨Nat.le_refl _, Nat.le_refl _⟩ rfl (Nat.le_of_ble_eq_true rfl) dX8_minus_1 rfl ?_
  rintro z1 F1 A1 ⟨e11, e21, e31⟩
  subst e11 e21 e31
  refine x_istore_n (pc2 := 5) (loc2 := [_, _, _, _]) hC rfl (by decide) rfl dX8_minus_4 rfl ?_
  refine x_iconst (pc2 := 6) hC dX8_minus_5 rfl ?_
  refine x_istore_n (pc2 := 7) (loc2 := [_, _, _, _]) hC rfl (by decide) rfl dX8_minus_6 rfl ?_
  exact loop ((A 5 x).toNat + 1) 0 _ (by omega) (by omega) Wr.fr (fun j a b => by omega)
