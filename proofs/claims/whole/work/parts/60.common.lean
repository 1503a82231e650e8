theorem mm_na {A : Nat → Int → Int} {x : Int} (h : MOK A x) : mm A x = ((mv A x).natAbs : Int) := by
  have := mm_abs h
  have := mm_nonneg h
  omega
theorem St.sg {T x s : Int} {V : Int → Int} {F : Nat → Nat → Int} {A : Nat → Int → Int} (h : St T V F A) (hx : 0 ≤ x ∧ x < T) (hs : s = 1 ∨ s = -1) : St T (upZ V x (s * ((V x).natAbs : Int))) F (uA A 6 x s) := by
  obtain ⟨h1, h2, h3⟩ := h
  refine ⟨h1, h2, fun u u0 u1 => ?_⟩
  obtain ⟨⟨a, b, c, d⟩, e⟩ := h3 u u0 u1
  have em : mlm (uA A 6 x s) u = mlm A u := mlm_6
  have e5 : uA A 6 x s 5 u = A 5 u := by rw [uA_ne (by decide)]
  have emm : mm (uA A 6 x s) u = mm A u := by unfold mm; rw [em, e5]
  by_cases q : u = x
  · subst q
    refine ⟨⟨by rw [e5]; exact a, by rw [em, e5]; exact b, by rw [em, e5]; exact c, by rw [uA_eq]; exact hs⟩, ?_⟩
    rw [upZ_eq, ← e, ← mm_na ⟨a, b, c, d⟩]
    unfold mv
    rw [uA_eq, emm]
  · refine ⟨⟨by rw [e5]; exact a, by rw [em, e5]; exact b, by rw [em, e5]; exact c, by rw [uA_ni q]; exact d⟩, ?_⟩
    rw [upZ_ne q, ← e]
    unfold mv
    rw [uA_ni q, emm]
theorem sgn_na {A : Nat → Int → Int} {x : Int} (h : MOK A x) : A 6 x * ((mv A x).natAbs : Int) = mv A x := by
  rw [← mm_na h]
  rfl
theorem FrM.w {F : Nat → Nat → Int} {A : Nat → Int → Int} {b : Nat} {i v : Int} (hb : b = 4 ∨ b = 5 ∨ b = 6 ∨ b = 7 ∨ b = 8 ∨ b = 9) : FrM F A F (uA A b i v) := ⟨fun _ _ => rfl, fun _ _ _ _ => rfl, fun a _ _ _ _ _ _ => uA_ne (by omega)⟩
theorem FrM.f {F : Nat → Nat → Int} {A : Nat → Int → Int} {j : Nat} {v : Int} (hj : j = 10 ∨ j = 14 ∨ j = 15) : FrM F A (uF F 0 j v) A := ⟨fun o ho => uF_ne ho, fun k _ _ _ => uF_nj (by omega), fun _ _ _ _ _ _ _ => rfl⟩
theorem Wx.frm {r : Int} {F : Nat → Nat → Int} {A A' : Nat → Int → Int} (h : Wx r A A') : FrM F A F A' := ⟨fun _ _ => rfl, fun _ _ _ _ => rfl, fun a a4 a5 a6 a7 a8 a9 => h.2.2.2 a a4 a5 a7 a8 a9⟩
/-- dividing, among the slots -/
theorem St.dv {T r : Int} {V : Int → Int} {F : Nat → Nat → Int} {A A2 : Nat → Int → Int} (h : St T V F A) (hr : 0 ≤ r ∧ r < T) (hw : Wx r A A2) (ok : MOK A2 r) : St T (upZ V r (mv A2 r)) F A2 := by
  obtain ⟨h1, h2, h3⟩ := h
  refine ⟨h1, h2, fun u u0 u1 => ?_⟩
  by_cases q : u = r
  · subst q; rw [upZ_eq]; exact ⟨ok, rfl⟩
  · obtain ⟨a, b⟩ := h3 u u0 u1
    obtain ⟨c, -, d⟩ := hw.ok q a
    rw [upZ_ne q]
    exact ⟨c, d.trans b⟩
theorem s_divides (l : Launch) {D : va_G} {ids : Nat → ClassId} {β : Nat} {sh : Nat → Nat × Nat} {N : Nat} {R : Nat → Nat → Option Nat} {F : Nat → Nat → Int} {A : Nat → Int → Int} (hM : MoL sh R N) {T x y r : Int} {V : Int → Int} (hS : St T V F A) (hx : 0 ≤ x ∧ x < T) (hy : 0 ≤ y ∧ y < T) (hr : 0 ≤ r ∧ r < T) (nx : x ≠ r) (ny : y ≠ r) (y0 : V y ≠ 0) : MetX l yX8_divides cX8_divides 13 (some (.int)) 1 30 D ids β sh N R F A [rf 0, pI x, pI y, pI r] (pIr (fun z F2 A2 => (0 ≤ z ∧ z ≤ 240) ∧ dig 32768 (A2 9) z ∧ dv 32768 (A2 9) z.toNat = (((V x).natAbs / (V y).natAbs : Nat) : Int) ∧ F2 = F ∧ ∃ V2, St T V2 F A2 ∧ (V2 r).natAbs = (V x).natAbs % (V y).natAbs ∧ (∀ u, u ≠ r → V2 u = V u) ∧ A2 6 = A 6 ∧ FrM F A F A2)) := by
  obtain ⟨okx, evx⟩ := hS.2.2 x hx.1 hx.2
  obtain ⟨oky, evy⟩ := hS.2.2 y hy.1 hy.2
  obtain ⟨okr, evr⟩ := hS.2.2 r hr.1 hr.2
  have t := hS.2.1
  have ys : A 5 y ≠ 0 := fun q => y0 (by rw [← evy]; exact (mm_zero oky).mp q)
  refine (n_divides l hM ⟨hx.1, by omega⟩ ⟨hy.1, by omega⟩ ⟨hr.1, by omega⟩ nx ny okx oky ys okr.2.2.2).mono (fun rv F2 A2 h => ?_)
  obtain ⟨z, h1, h2, h3, h4, h5, h6, h7, h8⟩ := h
  rw [mm_na okx, mm_na oky, evx, evy] at h5 h7
  refine ⟨z, h1, h3, h4, by rw [h5]; exact (Int.natCast_ediv _ _).symm, h2, _, hS.dv hr h8 h6, ?_, fun u hu => upZ_ne hu, h8.2.1, h8.frm⟩
  rw [upZ_eq]
  have := mm_na h6
  rw [h7] at this
  have e : ((((mv A2 r).natAbs : Nat)) : Int) = (((V x).natAbs % (V y).natAbs : Nat) : Int) := by rw [← this]; exact (Int.natCast_emod _ _).symm
  exact Int.ofNat.inj e
theorem s_fresh (l : Launch) {D : va_G} {ids : Nat → ClassId} {β : Nat} {sh : Nat → Nat × Nat} {N : Nat} {R : Nat → Nat → Option Nat} {F : Nat → Nat → Int} {A : Nat → Int → Int} (hM : MoL sh R N) {T : Int} {V : Int → Int} (hS : St T V F A) (hT : T < 1500) : MetX l yX8_fresh cX8_fresh 1 (some (.int)) 0 0 D ids β sh N R F A [rf 0] (pIr (Pq F A T V 0)) := by
  refine (n_fresh l hM hS.1 ⟨hS.2.1.1, hT⟩).mono (fun rv F2 A2 h => ?_)
  obtain ⟨z, h1, h2, h3, h4⟩ := h
  subst h2 h3 h4
  have e5 : uA (uA A 5 z 0) 6 z 1 5 z = 0 := by rw [uA_ne (by decide), uA_eq]
  refine ⟨z, h1, Pq.wr hS hT Wr.fr ⟨by rw [e5]; decide, by rw [e5]; exact fun k a b => by omega, by rw [e5]; exact fun q => absurd q (by decide), by rw [uA_eq]; decide⟩ ?_⟩
  unfold mv mm
  rw [e5]
  exact Int.mul_zero _
theorem dX8_common_0 : decode cX8_common 0 = .ok (.aload_n 0, 1) := by decide +kernel
theorem dX8_common_1 : decode cX8_common 1 = .ok (.iload_n 1, 1) := by decide +kernel
theorem dX8_common_2 : decode cX8_common 2 = .ok (.invokevirtual 73, 3) := by decide +kernel
theorem dX8_common_5 : decode cX8_common 5 = .ok (.istore_n 3, 1) := by decide +kernel
theorem dX8_common_6 : decode cX8_common 6 = .ok (.aload_n 0, 1) := by decide +kernel
theorem dX8_common_7 : decode cX8_common 7 = .ok (.iload_n 2, 1) := by decide +kernel
theorem dX8_common_8 : decode cX8_common 8 = .ok (.invokevirtual 73, 3) := by decide +kernel
theorem dX8_common_11 : decode cX8_common 11 = .ok (.istore 4, 2) := by decide +kernel
theorem dX8_common_13 : decode cX8_common 13 = .ok (.aload_n 0, 1) := by decide +kernel
theorem dX8_common_14 : decode cX8_common 14 = .ok (.invokevirtual 55, 3) := by decide +kernel
theorem dX8_common_17 : decode cX8_common 17 = .ok (.istore 5, 2) := by decide +kernel
theorem dX8_common_19 : decode cX8_common 19 = .ok (.aload_n 0, 1) := by decide +kernel
theorem dX8_common_20 : decode cX8_common 20 = .ok (.getfield 31, 3) := by decide +kernel
theorem dX8_common_23 : decode cX8_common 23 = .ok (.iload 4, 2) := by decide +kernel
theorem dX8_common_25 : decode cX8_common 25 = .ok (.iaload, 1) := by decide +kernel
theorem dX8_common_26 : decode cX8_common 26 = .ok (.ifCond .le 31, 3) := by decide +kernel
theorem dX8_common_29 : decode cX8_common 29 = .ok (.aload_n 0, 1) := by decide +kernel
theorem dX8_common_30 : decode cX8_common 30 = .ok (.iload_n 3, 1) := by decide +kernel
theorem dX8_common_31 : decode cX8_common 31 = .ok (.iload 4, 2) := by decide +kernel
theorem dX8_common_33 : decode cX8_common 33 = .ok (.iload 5, 2) := by decide +kernel
theorem dX8_common_35 : decode cX8_common 35 = .ok (.invokevirtual 83, 3) := by decide +kernel
theorem dX8_common_38 : decode cX8_common 38 = .ok (.istore 6, 2) := by decide +kernel
theorem dX8_common_40 : decode cX8_common 40 = .ok (.iload_n 3, 1) := by decide +kernel
theorem dX8_common_41 : decode cX8_common 41 = .ok (.istore 7, 2) := by decide +kernel
theorem dX8_common_43 : decode cX8_common 43 = .ok (.iload 4, 2) := by decide +kernel
theorem dX8_common_45 : decode cX8_common 45 = .ok (.istore_n 3, 1) := by decide +kernel
theorem dX8_common_46 : decode cX8_common 46 = .ok (.iload 5, 2) := by decide +kernel
theorem dX8_common_48 : decode cX8_common 48 = .ok (.istore 4, 2) := by decide +kernel
theorem dX8_common_50 : decode cX8_common 50 = .ok (.iload 7, 2) := by decide +kernel
theorem dX8_common_52 : decode cX8_common 52 = .ok (.istore 5, 2) := by decide +kernel
theorem dX8_common_54 : decode cX8_common 54 = .ok (.goto (-35), 3) := by decide +kernel
theorem dX8_common_57 : decode cX8_common 57 = .ok (.aload_n 0, 1) := by decide +kernel
theorem dX8_common_58 : decode cX8_common 58 = .ok (.getfield 34, 3) := by decide +kernel
theorem dX8_common_61 : decode cX8_common 61 = .ok (.iload_n 3, 1) := by decide +kernel
theorem dX8_common_62 : decode cX8_common 62 = .ok (.iconst 1, 1) := by decide +kernel
theorem dX8_common_63 : decode cX8_common 63 = .ok (.iastore, 1) := by decide +kernel
theorem dX8_common_64 : decode cX8_common 64 = .ok (.iload_n 3, 1) := by decide +kernel
theorem dX8_common_65 : decode cX8_common 65 = .ok (.ireturn, 1) := by decide +kernel
set_option maxHeartbeats 4000000 in
theorem n_common (l : Launch) {D : va_G} {ids : Nat → ClassId} {β : Nat} {sh : Nat → Nat × Nat} {N : Nat} {R : Nat → Nat → Option Nat} {F : Nat → Nat → Int} {A : Nat → Int → Int} (hM : MoL sh R N) {T x y : Int} {V : Int → Int} (hS : St T V F A) (hT : T < 1497) (hx : 0 ≤ x ∧ x < T) (hy : 0 ≤ y ∧ y < T) : MetX l yX8_common cX8_common 8 (some (.int)) 2 62 D ids β sh N R F A [rf 0, pI x, pI y] (pIr (fun z F2 A2 => (T ≤ z ∧ z < T + 3) ∧ ∃ V2, St (T + 3) V2 F2 A2 ∧ V2 z = ((Nat.gcd (V x).natAbs (V y).natAbs : Nat) : Int) ∧ (∀ u, u < T → V2 u = V u) ∧ FrM F A F2 A2)) := by
  refine MetX.of (loc := [_, _, _, _, _, _, _, _]) (plainFor_of_name (by decide +kernel)) (Nat.le_of_ble_eq_true rfl) rfl ?_
  intro p e s m args below meth c hC hK hr hlk
  obtain ⟨⟨m0, m1⟩, ⟨r0, r2, r3, r7, r8, r9, r11, r12, r13, r16, r18⟩, ⟨m2, m3⟩, ⟨m4, m5⟩, ⟨m6, m7⟩, ⟨m8, m9⟩, ⟨m10, m11⟩, ⟨m12, m13⟩, ⟨m14, m15⟩, ⟨m16, m17⟩, ⟨m18, m19⟩, ⟨m20, m21⟩, ⟨m22, m23⟩⟩ := id hM
  have hT0 := hS.2.1
  have loop : ∀ (d : Nat) (a0 b0 c0 : Int) (V1 : Int → Int) (F1 : Nat → Nat → Int) (A1 : Nat → Int → Int), (V1 b0).natAbs < d → (T ≤ a0 ∧ a0 < T + 3) → (T ≤ b0 ∧ b0 < T + 3) → (T ≤ c0 ∧ c0 < T + 3) → a0 ≠ b0 → a0 ≠ c0 → b0 ≠ c0 → St (T + 3) V1 F1 A1 → Nat.gcd (V1 a0).natAbs (V1 b0).natAbs = Nat.gcd (V x).natAbs (V y).natAbs → (∀ u, u < T → V1 u = V u) → FrM F A F1 A1 → X p l e { frames := 2, cells := 0, slots := 0, locals := 62 } s m args below meth c (MQ below (QX D ids β sh N R (pIr (fun z F2 A2 => (T ≤ z ∧ z < T + 3) ∧ ∃ V2, St (T + 3) V2 F2 A2 ∧ V2 z = ((Nat.gcd (V x).natAbs (V y).natAbs : Nat) : Int) ∧ (∀ u, u < T → V2 u = V u) ∧ FrM F A F2 A2))) args s 0 0 (inG β N)) (inG β N) D ids β sh 8 0 0 N R F1 A1 [some (rf 0), some (pI x), some (pI y), some (pI a0), some (pI b0), some (pI c0), none, none] [] 19 := by
    intro d
    induction d with
    | zero => intro a0 b0 c0 V1 F1 A1 hd; omega
    | succ d ih =>
      intro a0 b0 c0 V1 F1 A1 hd ha hb hc nab nac nbc hS1 hg hk hf
      obtain ⟨okb, evb⟩ := hS1.2.2 b0 (by omega) hb.2
      have t := hS1.2.1
      have sb := okb.1
      have zb := mm_zero okb
      rw [evb] at zb
      refine x_aload_n (pc2 := 20) hC rfl rfl dX8_common_19 rfl ?_
      refine g_817 (pc2 := 23) hC hK (by assumption) (by assumption) (by assumption) dX8_common_20 rfl ?_
      refine x_iload (pc2 := 25) hC rfl dX8_common_23 rfl ?_
      refine x_iald (pc2 := 26) hC hK (by assumption) (by assumption) (by omega) (by decide) dX8_common_25 rfl ?_
      refine x_if_le (tgt := 57) (pc2 := 29) hC (by omega) dX8_common_26 rfl rfl (fun h_26 => ?_) (fun h_26 => ?_)
      · have bz : V1 b0 = 0 := zb.mp (by omega)
        refine x_aload_n (pc2 := 58) hC rfl rfl dX8_common_57 rfl ?_
        refine g_818 (pc2 := 61) hC hK (by assumption) (by assumption) (by assumption) dX8_common_58 rfl ?_
        refine x_iload_n (pc2 := 62) hC rfl rfl dX8_common_61 rfl ?_
        refine x_iconst (pc2 := 63) hC dX8_common_62 rfl ?_
        refine x_iast (pc2 := 64) hC hK (by assumption) (by assumption) (by omega) (by decide) dX8_common_63 rfl ?_
        refine x_iload_n (pc2 := 65) hC rfl rfl dX8_common_64 rfl ?_
        exact x_iret hC hr hlk ⟨_, rfl, ha, _, hS1.sg ⟨by omega, ha.2⟩ (Or.inl rfl), by rw [upZ_eq, Int.one_mul, ← hg, bz]; simp, fun u hu => by rw [upZ_ne (by omega)]; exact hk u hu, hf.tr (FrM.w (by decide))⟩ dX8_common_65
      · have bn : V1 b0 ≠ 0 := fun q => by have := zb.mpr q; omega
        refine x_aload_n (pc2 := 30) hC rfl rfl dX8_common_29 rfl ?_
        refine x_iload_n (pc2 := 31) hC rfl rfl dX8_common_30 rfl ?_
        refine x_iload (pc2 := 33) hC rfl dX8_common_31 rfl ?_
        refine x_iload (pc2 := 35) hC rfl dX8_common_33 rfl ?_
        refine x_cVi (pc2 := 38) (ci := 8) hC hK (s_divides l hM hS1 ⟨by omega, ha.2⟩ ⟨by omega, hb.2⟩ ⟨by omega, hc.2⟩ nac nbc bn) lk_927 rfl rfl (by decide) (by assumption) (by assumption) ⟨Nat.le_of_ble_eq_true rfl, Nat.le_of_ble_eq_true rfl⟩ ⟨Nat.le_refl _, Nat.le_refl _⟩ rfl (Nat.le_of_ble_eq_true rfl) dX8_common_35 rfl ?_
        rintro z35 F35 A35 ⟨p1, p2, p3, e35, V2, hS2, p4, p5, -, p6⟩
        obtain rfl := e35.symm
        refine x_istore (pc2 := 40) (loc2 := [_, _, _, _, _, _, _, _]) hC (by decide) rfl dX8_common_38 rfl ?_
        refine x_iload_n (pc2 := 41) hC rfl rfl dX8_common_40 rfl ?_
        refine x_istore (pc2 := 43) (loc2 := [_, _, _, _, _, _, _, _]) hC (by decide) rfl dX8_common_41 rfl ?_
        refine x_iload (pc2 := 45) hC rfl dX8_common_43 rfl ?_
        refine x_istore_n (pc2 := 46) (loc2 := [_, _, _, _, _, _, _, _]) hC rfl (by decide) rfl dX8_common_45 rfl ?_
        refine x_iload (pc2 := 48) hC rfl dX8_common_46 rfl ?_
        refine x_istore (pc2 := 50) (loc2 := [_, _, _, _, _, _, _, _]) hC (by decide) rfl dX8_common_48 rfl ?_
        refine x_iload (pc2 := 52) hC rfl dX8_common_50 rfl ?_
        refine x_istore (pc2 := 54) (loc2 := [_, _, _, _, _, _, _, _]) hC (by decide) rfl dX8_common_52 rfl ?_
        refine x_goto (pc2 := 19) hC dX8_common_54 rfl ?_
        refine x_less (loc2 := [some (rf 0), some (pI x), some (pI y), some (pI b0), some (pI c0), some (pI a0), none, none]) hC ⟨rfl, rfl, rfl, rfl, rfl, rfl, trivial⟩ ?_
        refine ih b0 c0 a0 V2 _ _ ?_ hb hc ha nbc (Ne.symm nab) (Ne.symm nac) hS2 ?_ (fun u hu => (p5 u (by omega)).trans (hk u hu)) (hf.tr p6)
        · rw [p4]
          have := Nat.mod_lt (V1 a0).natAbs (show 0 < (V1 b0).natAbs by omega)
          omega
        · rw [p4, p5 b0 nbc, ← hg, Nat.gcd_comm (V1 b0).natAbs, ← Nat.gcd_rec (V1 b0).natAbs]
          exact Nat.gcd_comm _ _
  refine x_aload_n (pc2 := 1) hC rfl rfl dX8_common_0 rfl ?_
  refine x_iload_n (pc2 := 2) hC rfl rfl dX8_common_1 rfl ?_
  refine x_cVi (pc2 := 5) (ci := 8) hC hK (n_minus l hM hS (by omega) hx) lk_915 rfl rfl (by decide) (by assumption) (by assumption) ⟨Nat.le_of_ble_eq_true rfl, Nat.le_of_ble_eq_true rfl⟩ ⟨Nat.le_refl _, Nat.le_refl _⟩ rfl (Nat.le_of_ble_eq_true rfl) dX8_common_2 rfl ?_
  rintro z2 F2 A2 ⟨e2, V1, hS1, v1, k1, g1⟩
  obtain rfl := e2.symm
  refine x_istore_n (pc2 := 6) (loc2 := [_, _, _, _, _, _, _, _]) hC rfl (by decide) rfl dX8_common_5 rfl ?_
  refine x_aload_n (pc2 := 7) hC rfl rfl dX8_common_6 rfl ?_
  refine x_iload_n (pc2 := 8) hC rfl rfl dX8_common_7 rfl ?_
  refine x_cVi (pc2 := 11) (ci := 8) hC hK (n_minus l hM hS1 (by omega) (x := y) ⟨hy.1, by omega⟩) lk_915 rfl rfl (by decide) (by assumption) (by assumption) ⟨Nat.le_of_ble_eq_true rfl, Nat.le_of_ble_eq_true rfl⟩ ⟨Nat.le_refl _, Nat.le_refl _⟩ rfl (Nat.le_of_ble_eq_true rfl) dX8_common_8 rfl ?_
  rintro z8 F8 A8 ⟨e8, V2, hS2, v2, k2, g2⟩
  obtain rfl := e8.symm
  refine x_istore (pc2 := 13) (loc2 := [_, _, _, _, _, _, _, _]) hC (by decide) rfl dX8_common_11 rfl ?_
  refine x_aload_n (pc2 := 14) hC rfl rfl dX8_common_13 rfl ?_
  refine x_cVi (pc2 := 17) (ci := 8) hC hK (s_fresh l hM hS2 (by omega)) lk_906 rfl rfl (by decide) (by assumption) (by assumption) ⟨Nat.le_of_ble_eq_true rfl, Nat.le_of_ble_eq_true rfl⟩ ⟨Nat.le_refl _, Nat.le_refl _⟩ rfl (Nat.le_of_ble_eq_true rfl) dX8_common_14 rfl ?_
  rintro z14 F14 A14 ⟨e14, V3, hS3, v3, k3, g3⟩
  obtain rfl := e14.symm
  refine x_istore (pc2 := 19) (loc2 := [_, _, _, _, _, _, _, _]) hC (by decide) rfl dX8_common_17 rfl ?_
  refine loop ((V3 (T + 1)).natAbs + 1) T (T + 1) (T + 1 + 1) V3 _ _ (by omega) (by omega) (by omega) (by omega) (by omega) (by omega) (by omega) (by rw [show T + 3 = T + 1 + 1 + 1 by omega]; exact hS3) ?_ (fun u hu => (k3 u (by omega)).trans ((k2 u (by omega)).trans (k1 u hu))) ((g1.tr g2).tr g3)
  rw [k3 T (by omega), k3 (T + 1) (by omega), v2, k2 T (by omega), v1, k1 y hy.2, Int.natAbs_neg, Int.natAbs_neg]
