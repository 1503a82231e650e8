theorem tri_inj {f : Int → Int} {i j : Int} (h : triOK f i) (k : triOK f j) (e : tri f i = tri f j) : f i = f j ∧ f (i + 1) = f (j + 1) ∧ f (i + 2) = f (j + 2) := by
  have a0 := h.1 0 (by decide) (by decide)
  have a1 := h.1 1 (by decide) (by decide)
  have a2 := h.1 2 (by decide) (by decide)
  have b0 := k.1 0 (by decide) (by decide)
  have b1 := k.1 1 (by decide) (by decide)
  have b2 := k.1 2 (by decide) (by decide)
  rw [Int.add_zero] at a0 b0
  unfold tri at e
  have sg : ∀ x : Int, triOK f x → (0 ≤ f x ∧ 0 ≤ f (x + 1) ∧ 0 ≤ f (x + 2)) ∨ (f x ≤ 0 ∧ f (x + 1) ≤ 0 ∧ f (x + 2) ≤ 0) := fun x hx => by
    rcases hx.2 with q | q
    · have c0 := q 0 (by decide) (by decide)
      rw [Int.add_zero] at c0
      exact Or.inl ⟨c0, q 1 (by decide) (by decide), q 2 (by decide) (by decide)⟩
    · have c0 := q 0 (by decide) (by decide)
      rw [Int.add_zero] at c0
      exact Or.inr ⟨c0, q 1 (by decide) (by decide), q 2 (by decide) (by decide)⟩
  have s1 := sg i h
  have s2 := sg j k
  clear sg h k
  rcases s1 with s1 | s1 <;> rcases s2 with s2 | s2 <;> omega
theorem hold_eq {f : Int → Int} {i j : Int} {x y : T3} (h : holdT f i x) (k : holdT f j y) : (∀ n : Int, 0 ≤ n → n < 9 → f (i + n) = f (j + n)) ↔ x = y := by
  constructor
  · intro q
    have e : num f i = num f j := by
      unfold num tri
      have q0 := q 0 (by decide) (by decide)
      rw [Int.add_zero, Int.add_zero] at q0
      have w : ∀ a b : Int, 0 ≤ a → 0 ≤ b → a + b < 9 → f (i + a + b) = f (j + a + b) := fun a b h1 h2 h3 => by
        have := q (a + b) (by omega) h3
        rwa [← Int.add_assoc, ← Int.add_assoc] at this
      rw [q0, q 1 (by decide) (by decide), q 2 (by decide) (by decide), q 3 (by decide) (by decide), q 6 (by decide) (by decide), w 3 1 (by decide) (by decide) (by decide), w 3 2 (by decide) (by decide) (by decide), w 6 1 (by decide) (by decide) (by decide), w 6 2 (by decide) (by decide) (by decide)]
    rw [num_of h, num_of k] at e
    have e1 : x.1 = y.1 := congrArg (fun q => q.1.1) e
    have e2 : x.2.1 = y.2.1 := congrArg (fun q => q.1.2) e
    have e3 : x.2.2 = y.2.2 := congrArg (fun q => q.2.1) e
    exact Prod.ext e1 (Prod.ext e2 e3)
  · rintro rfl n n0 n9
    obtain ⟨⟨a1, a2⟩, ⟨b1, b2⟩, c1, c2⟩ := h
    obtain ⟨⟨a3, a4⟩, ⟨b3, b4⟩, c3, c4⟩ := k
    obtain ⟨p0, p1, p2⟩ := tri_inj a1 a3 (a2.trans a4.symm)
    obtain ⟨p3, p4, p5⟩ := tri_inj b1 b3 (b2.trans b4.symm)
    obtain ⟨p6, p7, p8⟩ := tri_inj c1 c3 (c2.trans c4.symm)
    rw [Int.add_assoc, Int.add_assoc] at p4 p5 p7 p8
    have : n = 0 ∨ n = 1 ∨ n = 2 ∨ n = 3 ∨ n = 4 ∨ n = 5 ∨ n = 6 ∨ n = 7 ∨ n = 8 := by omega
    rcases this with rfl | rfl | rfl | rfl | rfl | rfl | rfl | rfl | rfl
    · rw [Int.add_zero, Int.add_zero]; exact p0
    · exact p1
    · exact p2
    · exact p3
    · exact p4
    · exact p5
    · exact p6
    · exact p7
    · exact p8
theorem RepC.ju {sh : Nat → Nat × Nat} {R : Nat → Nat → Option Nat} {N : Nat} {S : SP} {F F' : Nat → Nat → Int} {A A' : Nat → Int → Int} {V V' : Nat → Int} {G : Nat → QR} (hL : PbL sh R N) (h : RepC sh R N S F A) (g1 : G 121 = oneq) (g2 : G 132 = quartq) (hG : RV V G) (hgl : ∃ g l, gl2 F g l) (hb : F 15 7 = 0 ∨ F 15 7 = 1) (hq : SQ sh R N F A V' F' A') (hv : ∀ u, u < 296 → V' u = V u) : RepC sh R N S F' A' :=
  h.fra hL (AE.ju hL.sh.2.2.2.2.2.2.2 g1 g2 hG hgl hb hq hv) hq.2.toA
theorem RepC.i32 {sh : Nat → Nat × Nat} {R : Nat → Nat → Option Nat} {N : Nat} {S : SP} {F : Nat → Nat → Int} {A : Nat → Int → Int} (h : RepC sh R N S F A) : ∀ k : Int, 0 ≤ k → k < 2304 → I32 (A 2 k) := fun k k0 k1 => by
  have := (h.ck (k / 3) (by omega) (by omega)).1 (k % 3) (by omega) (by omega)
  rw [show 3 * (k / 3) + k % 3 = k by omega] at this
  exact ⟨by omega, by omega⟩
theorem p_cmp (l : Launch) {D : va_G} {ids : Nat → ClassId} {β : Nat} {sh : Nat → Nat × Nat} {N : Nat} {R : Nat → Nat → Option Nat} {F : Nat → Nat → Int} {A : Nat → Int → Int} {S : SP} (hP : PbL sh R N) (hR0 : RepC sh R N S F A) {b t e b2 t2 e2 : Int} (hb : isB S b) (ht : isT t) (he : isT e) (hb2 : isB S b2) (ht2 : isT t2) (he2 : isT e2) : MetX l yX2_compareSizes cX2_compareSizes 4 (some (.int)) 5 129 D ids β sh N R F A [rf 295, rf 2, pI (b * 144 + t * 36 + e * 9), pI (b2 * 144 + t2 * 36 + e2 * 9)] (pIr (fun z F2 A2 => z = cmpS (nm S b t e) (nm S b2 t2 e2) ∧ RepC sh R N S F2 A2)) := by
  obtain ⟨G, g121, g132, V, hS, hG, hgl, hbg, -, -⟩ := id hR0.1
  have u1 := up16 hb hR0.nb
  have u2 := up16 hb2 hR0.nb
  have b1 := hR0.hB b t e hb ht he
  have b2 := hR0.hB b2 t2 e2 hb2 ht2 he2
  refine (m_compareSizes l hP.2.2.1 hS hP.1.1.2.2.1.1 hP.1.1.2.2.1.2 ⟨by omega, by omega⟩ ⟨by omega, by omega⟩ (hR0.ck.at u1 ht he) (hR0.ck.at u2 ht2 he2) b1.1 b2.1).mono (fun rv F2 A2 h => ?_)
  obtain ⟨z, h1, h2, V2, h3, h4⟩ := h
  refine ⟨z, h1, ?_, hR0.ju hP g121 g132 hG hgl hbg h3 h4⟩
  rw [h2, hR0.nu hb ht he, hR0.nu hb2 ht2 he2]
  rfl
theorem dX7_holds_0 : decode cX7_holds 0 = .ok (.aload_n 0, 1) := by decide +kernel
theorem dX7_holds_1 : decode cX7_holds 1 = .ok (.getfield 12, 3) := by decide +kernel
theorem dX7_holds_4 : decode cX7_holds 4 = .ok (.iload_n 1, 1) := by decide +kernel
theorem dX7_holds_5 : decode cX7_holds 5 = .ok (.invokevirtual 72, 3) := by decide +kernel
theorem dX7_holds_8 : decode cX7_holds 8 = .ok (.istore 4, 2) := by decide +kernel
theorem dX7_holds_10 : decode cX7_holds 10 = .ok (.iload_n 3, 1) := by decide +kernel
theorem dX7_holds_11 : decode cX7_holds 11 = .ok (.iconst 1, 1) := by decide +kernel
theorem dX7_holds_12 : decode cX7_holds 12 = .ok (.if_icmp .ne 47, 3) := by decide +kernel
theorem dX7_holds_15 : decode cX7_holds 15 = .ok (.iload 4, 2) := by decide +kernel
theorem dX7_holds_17 : decode cX7_holds 17 = .ok (.iconst 1, 1) := by decide +kernel
theorem dX7_holds_18 : decode cX7_holds 18 = .ok (.if_icmp .eq 35, 3) := by decide +kernel
theorem dX7_holds_21 : decode cX7_holds 21 = .ok (.aload_n 0, 1) := by decide +kernel
theorem dX7_holds_22 : decode cX7_holds 22 = .ok (.getfield 12, 3) := by decide +kernel
theorem dX7_holds_25 : decode cX7_holds 25 = .ok (.iload_n 1, 1) := by decide +kernel
theorem dX7_holds_26 : decode cX7_holds 26 = .ok (.iload_n 2, 1) := by decide +kernel
theorem dX7_holds_27 : decode cX7_holds 27 = .ok (.iconst 0, 1) := by decide +kernel
theorem dX7_holds_28 : decode cX7_holds 28 = .ok (.iconst 1, 1) := by decide +kernel
theorem dX7_holds_29 : decode cX7_holds 29 = .ok (.invokestatic 58, 3) := by decide +kernel
theorem dX7_holds_32 : decode cX7_holds 32 = .ok (.invokestatic 121, 3) := by decide +kernel
theorem dX7_holds_35 : decode cX7_holds 35 = .ok (.iload_n 1, 1) := by decide +kernel
theorem dX7_holds_36 : decode cX7_holds 36 = .ok (.iload_n 2, 1) := by decide +kernel
theorem dX7_holds_37 : decode cX7_holds 37 = .ok (.iconst 1, 1) := by decide +kernel
theorem dX7_holds_38 : decode cX7_holds 38 = .ok (.iconst 0, 1) := by decide +kernel
theorem dX7_holds_39 : decode cX7_holds 39 = .ok (.invokestatic 58, 3) := by decide +kernel
theorem dX7_holds_42 : decode cX7_holds 42 = .ok (.invokestatic 121, 3) := by decide +kernel
theorem dX7_holds_45 : decode cX7_holds 45 = .ok (.bipush 9, 2) := by decide +kernel
theorem dX7_holds_47 : decode cX7_holds 47 = .ok (.invokevirtual 141, 3) := by decide +kernel
theorem dX7_holds_50 : decode cX7_holds 50 = .ok (.ifCond .eq 7, 3) := by decide +kernel
theorem dX7_holds_53 : decode cX7_holds 53 = .ok (.iconst 1, 1) := by decide +kernel
theorem dX7_holds_54 : decode cX7_holds 54 = .ok (.goto 4, 3) := by decide +kernel
theorem dX7_holds_57 : decode cX7_holds 57 = .ok (.iconst 0, 1) := by decide +kernel
theorem dX7_holds_58 : decode cX7_holds 58 = .ok (.ireturn, 1) := by decide +kernel
theorem dX7_holds_59 : decode cX7_holds 59 = .ok (.aload_n 0, 1) := by decide +kernel
theorem dX7_holds_60 : decode cX7_holds 60 = .ok (.getfield 28, 3) := by decide +kernel
theorem dX7_holds_63 : decode cX7_holds 63 = .ok (.aload_n 0, 1) := by decide +kernel
theorem dX7_holds_64 : decode cX7_holds 64 = .ok (.getfield 12, 3) := by decide +kernel
theorem dX7_holds_67 : decode cX7_holds 67 = .ok (.getfield 124, 3) := by decide +kernel
theorem dX7_holds_70 : decode cX7_holds 70 = .ok (.iload_n 1, 1) := by decide +kernel
theorem dX7_holds_71 : decode cX7_holds 71 = .ok (.iload_n 2, 1) := by decide +kernel
theorem dX7_holds_72 : decode cX7_holds 72 = .ok (.iconst 0, 1) := by decide +kernel
theorem dX7_holds_73 : decode cX7_holds 73 = .ok (.invokestatic 121, 3) := by decide +kernel
theorem dX7_holds_76 : decode cX7_holds 76 = .ok (.iload 4, 2) := by decide +kernel
theorem dX7_holds_78 : decode cX7_holds 78 = .ok (.invokevirtual 152, 3) := by decide +kernel
theorem dX7_holds_81 : decode cX7_holds 81 = .ok (.iload_n 3, 1) := by decide +kernel
theorem dX7_holds_82 : decode cX7_holds 82 = .ok (.iconst 2, 1) := by decide +kernel
theorem dX7_holds_83 : decode cX7_holds 83 = .ok (.if_icmp .ne 13, 3) := by decide +kernel
theorem dX7_holds_86 : decode cX7_holds 86 = .ok (.aload_n 0, 1) := by decide +kernel
theorem dX7_holds_87 : decode cX7_holds 87 = .ok (.getfield 28, 3) := by decide +kernel
theorem dX7_holds_90 : decode cX7_holds 90 = .ok (.invokevirtual 156, 3) := by decide +kernel
theorem dX7_holds_93 : decode cX7_holds 93 = .ok (.goto 10, 3) := by decide +kernel
theorem dX7_holds_96 : decode cX7_holds 96 = .ok (.aload_n 0, 1) := by decide +kernel
theorem dX7_holds_97 : decode cX7_holds 97 = .ok (.getfield 28, 3) := by decide +kernel
theorem dX7_holds_100 : decode cX7_holds 100 = .ok (.invokevirtual 159, 3) := by decide +kernel
theorem dX7_holds_103 : decode cX7_holds 103 = .ok (.ireturn, 1) := by decide +kernel
set_option maxHeartbeats 8000000 in
theorem m_holds (l : Launch) {D : va_G} {ids : Nat → ClassId} {β : Nat} {sh : Nat → Nat × Nat} {N : Nat} {R : Nat → Nat → Option Nat} {F : Nat → Nat → Int} {A : Nat → Int → Int} {S : SP} (hP : PbL sh R N) (hR0 : RepC sh R N S F A) {b t w : Int} (hb : isB S b) (ht : isT t) (hw : 1 ≤ w ∧ w ≤ 3) : MetX l yX7_holds cX7_holds 5 (some (.boolean)) 6 153 D ids β sh N R F A [rf 0, pI b, pI t, pI w] (pIr (fun z F2 A2 => (0 ≤ z ∧ z ≤ 1) ∧ (Unit → (z ≠ 0 ↔ pasP S b t w)) ∧ RepC sh R N S F2 A2)) := by
  refine MetX.of (loc := [_, _, _, _, _]) (plainFor_of_name (by decide +kernel)) (Nat.le_of_ble_eq_true rfl) rfl ?_
  intro p e s m args below meth c hC hK hr hlk
  obtain ⟨hAc, hAg, hJu, ⟨z1, z2⟩, r00, r01, r02⟩ := id hP
  have hShL := hAc.1
  obtain ⟨⟨j1, j2⟩, ⟨s0, s1, s2, s3, s4⟩, ⟨j3, j4⟩, -⟩ := id hShL
  have hI := hR0.shI
  have hi := hR0.2.1
  have i1 := hi.1
  obtain ⟨⟨j295, j295s⟩, -⟩ := id hJu
  have u16 := up16 hb hR0.nb
  have ptc := (hi.2.1 b hb).1
  have hbI : I32 b := ⟨by omega, by omega⟩
  refine x_aload_n (pc2 := 1) hC rfl rfl dX7_holds_0 rfl ?_
  refine g_369 (pc2 := 4) hC hK (by assumption) (by assumption) (by assumption) dX7_holds_1 rfl ?_
  refine x_iload_n (pc2 := 5) hC rfl rfl dX7_holds_4 rfl ?_
  refine x_cVi (pc2 := 8) (ci := 5) hC hK (p_portsOf l hP hR0 hbI hb) lk_452 rfl rfl (by decide) (by assumption) (by assumption) ⟨Nat.le_of_ble_eq_true rfl, Nat.le_of_ble_eq_true rfl⟩ ⟨Nat.le_refl _, Nat.le_refl _⟩ rfl (Nat.le_of_ble_eq_true rfl) dX7_holds_5 rfl ?_
  rintro z5 F5 A5 ⟨rfl, e15, e25⟩
  obtain rfl := e15.symm
  obtain rfl := e25.symm
  refine x_istore (pc2 := 10) (loc2 := [_, _, _, _, _]) hC (by decide) rfl dX7_holds_8 rfl ?_
  refine x_iload_n (pc2 := 11) hC rfl rfl dX7_holds_10 rfl ?_
  refine x_iconst (pc2 := 12) hC dX7_holds_11 rfl ?_
  refine x_icmp_ne (tgt := 59) (pc2 := 15) hC (by omega) (by omega) dX7_holds_12 rfl rfl (fun h_12 => ?_) (fun h_12 => ?_)
  · obtain ⟨G, g121, g132, V, hS, hG, hgl, hbg, -, -⟩ := id hR0.1
    have hnum : ∀ k : Nat, k < 4 → numN (A 2) (b * 144 + t * 36 + 0 * 9) k = nmN S b t k := fun k hk => by
      have := hR0.nu hb ht (e := (k : Int)) ⟨by omega, by omega⟩
      unfold numN
      rw [show b * 144 + t * 36 + 0 * 9 + (k : Int) * 9 = b * 144 + t * 36 + (k : Int) * 9 by omega]
      exact this
    have hob : ∀ k : Nat, k < 4 → bdq 25 (nmN S b t k) := fun k hk => (hi.ok hb ht (e := (k : Int)) ⟨by omega, by omega⟩).1
    refine x_aload_n (pc2 := 60) hC rfl rfl dX7_holds_59 rfl ?_
    refine g_371 (pc2 := 63) hC hK (by assumption) (by assumption) (by assumption) dX7_holds_60 rfl ?_
    refine x_aload_n (pc2 := 64) hC rfl rfl dX7_holds_63 rfl ?_
    refine g_369 (pc2 := 67) hC hK (by assumption) (by assumption) (by assumption) dX7_holds_64 rfl ?_
    refine g_95 (pc2 := 70) hC hK (by assumption) (by assumption) (by assumption) dX7_holds_67 rfl ?_
    refine x_iload_n (pc2 := 71) hC rfl rfl dX7_holds_70 rfl ?_
    refine x_iload_n (pc2 := 72) hC rfl rfl dX7_holds_71 rfl ?_
    refine x_iconst (pc2 := 73) hC dX7_holds_72 rfl ?_
    refine x_cSi (pc2 := 76) hC hK (m_place l) lk_727 rfl ⟨Nat.le_of_ble_eq_true rfl, Nat.le_of_ble_eq_true rfl⟩ ⟨Nat.le_refl _, Nat.le_refl _⟩ rfl (Nat.le_of_ble_eq_true rfl) dX7_holds_73 rfl ?_
    rintro z73 F73 A73 ⟨rfl, e173, e273⟩
    obtain rfl := e173.symm
    obtain rfl := e273.symm
    refine x_iload (pc2 := 78) hC rfl dX7_holds_76 rfl ?_
    refine x_cVv (pc2 := 81) (ci := 2) hC hK (m_measure l hJu hS j3 j4 ⟨by omega, by omega⟩ (fun k hk => by
                  have := hR0.ck.at u16 ht (e := (k : Int)) ⟨by omega, by omega⟩
                  rwa [show b * 144 + t * 36 + 0 * 9 + (k : Int) * 9 = b * 144 + t * 36 + (k : Int) * 9 by omega]) (fun k hk => by rw [hnum k hk]; exact hob k hk) ptc) lk_743 rfl rfl (by decide) (by assumption) (by assumption) ⟨Nat.le_of_ble_eq_true rfl, Nat.le_of_ble_eq_true rfl⟩ ⟨Nat.le_refl _, Nat.le_refl _⟩ rfl (Nat.le_of_ble_eq_true rfl) dX7_holds_78 rfl ?_
    rintro F78 A78 ⟨V78, hq78, q378, q380, q384, q382, k78⟩
    have hR78 := hR0.ju hP g121 g132 hG hgl hbg hq78 k78
    rw [hnum 0 (by decide), hnum 2 (by decide)] at q378
    rw [hnum 1 (by decide), hnum 3 (by decide)] at q380
    rw [show crsC (numN (A 2) (b * 144 + t * 36 + 0 * 9)) = crsC (nmN S b t) by unfold crsC; rw [hnum 0 (by decide), hnum 1 (by decide), hnum 2 (by decide), hnum 3 (by decide)]] at q384
    replace q378 : V78 378 = lk1 S b t := q378
    replace q380 : V78 380 = lk2 S b t := q380
    replace q384 : V78 384 = crS S b t := q384
    rw [q378, q380] at q382
    refine x_iload_n (pc2 := 82) hC rfl rfl dX7_holds_81 rfl ?_
    refine x_iconst (pc2 := 83) hC dX7_holds_82 rfl ?_
    refine x_icmp_ne (tgt := 96) (pc2 := 86) hC (by omega) (by omega) dX7_holds_83 rfl rfl (fun h_83 => ?_) (fun h_83 => ?_)
    · refine x_aload_n (pc2 := 97) hC rfl rfl dX7_holds_96 rfl ?_
      refine g_371 (pc2 := 100) hC hK (by assumption) (by assumption) (by assumption) dX7_holds_97 rfl ?_
      refine x_cVi (pc2 := 103) (ci := 2) hC hK (m_foundLossless l hJu hq78.1) lk_774 rfl rfl (by decide) (by assumption) (by assumption) ⟨Nat.le_of_ble_eq_true rfl, Nat.le_of_ble_eq_true rfl⟩ ⟨Nat.le_refl _, Nat.le_refl _⟩ rfl (Nat.le_of_ble_eq_true rfl) dX7_holds_100 rfl ?_
      rintro z100 F100 A100 ⟨e0100, e1100, e2100⟩
      rw [q378, q380, q384] at e0100
      obtain rfl := e1100.symm
      obtain rfl := e2100.symm
      have zb100 : 0 ≤ z100 ∧ z100 ≤ 1 := by rw [e0100]; split <;> omega
      refine x_zret hC (by omega) hr hlk ⟨_, rfl, by omega, fun _ => ?_, hR78⟩ dX7_holds_103
      refine ⟨fun q => Or.inr (Or.inr ⟨by omega, ?_⟩), fun q => ?_⟩
      · by_cases x : lk1 S b t = 0 ∧ lk2 S b t = 0 ∧ crS S b t = 0
        · exact x
        · rw [e0100, if_neg x] at q; exact absurd rfl q
      · rcases q with ⟨q, -⟩ | ⟨q, -⟩ | ⟨-, q⟩
        · omega
        · omega
        · rw [e0100, if_pos q]; decide
    · refine x_aload_n (pc2 := 87) hC rfl rfl dX7_holds_86 rfl ?_
      refine g_371 (pc2 := 90) hC hK (by assumption) (by assumption) (by assumption) dX7_holds_87 rfl ?_
      refine x_cVi (pc2 := 93) (ci := 2) hC hK (m_foundPassive l hJu hq78.1) lk_766 rfl rfl (by decide) (by assumption) (by assumption) ⟨Nat.le_of_ble_eq_true rfl, Nat.le_of_ble_eq_true rfl⟩ ⟨Nat.le_refl _, Nat.le_refl _⟩ rfl (Nat.le_of_ble_eq_true rfl) dX7_holds_90 rfl ?_
      rintro z90 F90 A90 ⟨e090, e190, e290⟩
      rw [q378, q380, q384, q382] at e090
      obtain rfl := e190.symm
      obtain rfl := e290.symm
      have zb90 : 0 ≤ z90 ∧ z90 ≤ 1 := by rw [e090]; split <;> omega
      refine x_goto (pc2 := 103) hC dX7_holds_93 rfl ?_
      refine x_zret hC (by omega) hr hlk ⟨_, rfl, by omega, fun _ => ?_, hR78⟩ dX7_holds_103
      refine ⟨fun q => Or.inr (Or.inl ⟨by omega, ?_⟩), fun q => ?_⟩
      · by_cases x : 0 ≤ lk1 S b t ∧ 0 ≤ lk2 S b t ∧ crS S b t ≤ lk1 S b t * lk2 S b t
        · exact x
        · rw [e090, if_neg x] at q; exact absurd rfl q
      · rcases q with ⟨q, -⟩ | ⟨-, q⟩ | ⟨q, -⟩
        · omega
        · rw [e090, if_pos q]; decide
        · omega
  · refine x_iload (pc2 := 17) hC rfl dX7_holds_15 rfl ?_
    refine x_iconst (pc2 := 18) hC dX7_holds_17 rfl ?_
    refine x_icmp_eq (tgt := 53) (pc2 := 21) hC (by omega) (by omega) dX7_holds_18 rfl rfl (fun h_18 => ?_) (fun h_18 => ?_)
    · refine x_iconst (pc2 := 54) hC dX7_holds_53 rfl ?_
      refine x_goto (pc2 := 58) hC dX7_holds_54 rfl ?_
      refine x_zret hC (by omega) hr hlk ⟨_, rfl, by omega, fun _ => ?_, hR0⟩ dX7_holds_58
      exact ⟨fun _ => Or.inl ⟨by omega, Or.inl (by omega)⟩, fun _ => by omega⟩
    · refine x_aload_n (pc2 := 22) hC rfl rfl dX7_holds_21 rfl ?_
      refine g_369 (pc2 := 25) hC hK (by assumption) (by assumption) (by assumption) dX7_holds_22 rfl ?_
      refine x_iload_n (pc2 := 26) hC rfl rfl dX7_holds_25 rfl ?_
      refine x_iload_n (pc2 := 27) hC rfl rfl dX7_holds_26 rfl ?_
      refine x_iconst (pc2 := 28) hC dX7_holds_27 rfl ?_
      refine x_iconst (pc2 := 29) hC dX7_holds_28 rfl ?_
      refine x_cSi (pc2 := 32) hC hK (m_entry l) lk_423 rfl ⟨Nat.le_of_ble_eq_true rfl, Nat.le_of_ble_eq_true rfl⟩ ⟨Nat.le_refl _, Nat.le_refl _⟩ rfl (Nat.le_of_ble_eq_true rfl) dX7_holds_29 rfl ?_
      rintro z29 F29 A29 ⟨rfl, e129, e229⟩
      obtain rfl := e129.symm
      obtain rfl := e229.symm
      refine x_cSi (pc2 := 35) hC hK (m_place l) lk_727 rfl ⟨Nat.le_of_ble_eq_true rfl, Nat.le_of_ble_eq_true rfl⟩ ⟨Nat.le_refl _, Nat.le_refl _⟩ rfl (Nat.le_of_ble_eq_true rfl) dX7_holds_32 rfl ?_
      rintro z32 F32 A32 ⟨rfl, e132, e232⟩
      obtain rfl := e132.symm
      obtain rfl := e232.symm
      refine x_iload_n (pc2 := 36) hC rfl rfl dX7_holds_35 rfl ?_
      refine x_iload_n (pc2 := 37) hC rfl rfl dX7_holds_36 rfl ?_
      refine x_iconst (pc2 := 38) hC dX7_holds_37 rfl ?_
      refine x_iconst (pc2 := 39) hC dX7_holds_38 rfl ?_
      refine x_cSi (pc2 := 42) hC hK (m_entry l) lk_423 rfl ⟨Nat.le_of_ble_eq_true rfl, Nat.le_of_ble_eq_true rfl⟩ ⟨Nat.le_refl _, Nat.le_refl _⟩ rfl (Nat.le_of_ble_eq_true rfl) dX7_holds_39 rfl ?_
      rintro z39 F39 A39 ⟨rfl, e139, e239⟩
      obtain rfl := e139.symm
      obtain rfl := e239.symm
      refine x_cSi (pc2 := 45) hC hK (m_place l) lk_727 rfl ⟨Nat.le_of_ble_eq_true rfl, Nat.le_of_ble_eq_true rfl⟩ ⟨Nat.le_refl _, Nat.le_refl _⟩ rfl (Nat.le_of_ble_eq_true rfl) dX7_holds_42 rfl ?_
      rintro z42 F42 A42 ⟨rfl, e142, e242⟩
      obtain rfl := e142.symm
      obtain rfl := e242.symm
      refine x_bipush (pc2 := 47) hC rfl dX7_holds_45 rfl ?_
      refine x_cVi (pc2 := 50) (ci := 5) hC hK (m_alike l hShL hI hR0.i32 ⟨by omega, by omega⟩ ⟨by omega, by omega⟩ (by decide)) lk_739 rfl rfl (by decide) (by assumption) (by assumption) ⟨Nat.le_of_ble_eq_true rfl, Nat.le_of_ble_eq_true rfl⟩ ⟨Nat.le_refl _, Nat.le_refl _⟩ rfl (Nat.le_of_ble_eq_true rfl) dX7_holds_47 rfl ?_
      rintro z47 F47 A47 ⟨q47, e147, e247⟩
      obtain rfl := e147.symm
      obtain rfl := e247.symm
      have zb47 : 0 ≤ z47 ∧ z47 ≤ 1 := by rcases q47 with ⟨x, -⟩ | ⟨x, -⟩ <;> omega
      have q247 : Unit → (z47 ≠ 0 ↔ ∀ k : Int, 0 ≤ k → k < 9 → A 2 (b * 144 + t * 36 + (2 * 0 + 1) * 9 + k) = A 2 (b * 144 + t * 36 + (2 * 1 + 0) * 9 + k)) := fun _ => by
        rcases q47 with ⟨x, y⟩ | ⟨x, y⟩
        · exact ⟨fun _ => y, fun _ => by omega⟩
        · exact ⟨fun k => absurd x k, fun k => absurd k y⟩
      clear q47
      have q347 := (hold_eq (hR0.2.2.2.1.1 b t 1 hb ht ⟨by decide, by decide⟩) (hR0.2.2.2.1.1 b t 2 hb ht ⟨by decide, by decide⟩))
      refine x_if_eq (tgt := 57) (pc2 := 53) hC (by omega) dX7_holds_50 rfl rfl (fun h_50 => ?_) (fun h_50 => ?_)
      · refine x_iconst (pc2 := 58) hC dX7_holds_57 rfl ?_
        refine x_zret hC (by omega) hr hlk ⟨_, rfl, by omega, fun _ => ?_, hR0⟩ dX7_holds_58
        refine ⟨fun q => absurd rfl q, fun q => ?_⟩
        rcases q with ⟨-, q | q⟩ | ⟨q, -⟩ | ⟨q, -⟩
        · omega
        · exact absurd h_50 ((q247 ()).mpr (q347.mpr q))
        · omega
        · omega
      · refine x_iconst (pc2 := 54) hC dX7_holds_53 rfl ?_
        refine x_goto (pc2 := 58) hC dX7_holds_54 rfl ?_
        refine x_zret hC (by omega) hr hlk ⟨_, rfl, by omega, fun _ => ?_, hR0⟩ dX7_holds_58
        exact ⟨fun _ => Or.inl ⟨by omega, Or.inr (q347.mp ((q247 ()).mp h_50))⟩, fun _ => by omega⟩
theorem dX7_is_0 : decode cX7_is 0 = .ok (.aload_n 0, 1) := by decide +kernel
theorem dX7_is_1 : decode cX7_is 1 = .ok (.getfield 12, 3) := by decide +kernel
theorem dX7_is_4 : decode cX7_is 4 = .ok (.iload_n 1, 1) := by decide +kernel
theorem dX7_is_5 : decode cX7_is 5 = .ok (.invokevirtual 69, 3) := by decide +kernel
theorem dX7_is_8 : decode cX7_is 8 = .ok (.ifCond .eq 20, 3) := by decide +kernel
theorem dX7_is_11 : decode cX7_is 11 = .ok (.iload_n 2, 1) := by decide +kernel
theorem dX7_is_12 : decode cX7_is 12 = .ok (.invokestatic 43, 3) := by decide +kernel
theorem dX7_is_15 : decode cX7_is 15 = .ok (.ifCond .eq 13, 3) := by decide +kernel
theorem dX7_is_18 : decode cX7_is 18 = .ok (.iload_n 3, 1) := by decide +kernel
theorem dX7_is_19 : decode cX7_is 19 = .ok (.iconst 1, 1) := by decide +kernel
theorem dX7_is_20 : decode cX7_is 20 = .ok (.if_icmp .lt 8, 3) := by decide +kernel
theorem dX7_is_23 : decode cX7_is 23 = .ok (.iload_n 3, 1) := by decide +kernel
theorem dX7_is_24 : decode cX7_is 24 = .ok (.iconst 3, 1) := by decide +kernel
theorem dX7_is_25 : decode cX7_is 25 = .ok (.if_icmp .le 5, 3) := by decide +kernel
theorem dX7_is_28 : decode cX7_is 28 = .ok (.iconst (-1), 1) := by decide +kernel
theorem dX7_is_29 : decode cX7_is 29 = .ok (.ireturn, 1) := by decide +kernel
theorem dX7_is_30 : decode cX7_is 30 = .ok (.aload_n 0, 1) := by decide +kernel
theorem dX7_is_31 : decode cX7_is 31 = .ok (.iload_n 1, 1) := by decide +kernel
theorem dX7_is_32 : decode cX7_is 32 = .ok (.iload_n 2, 1) := by decide +kernel
theorem dX7_is_33 : decode cX7_is 33 = .ok (.iload_n 3, 1) := by decide +kernel
theorem dX7_is_34 : decode cX7_is 34 = .ok (.invokevirtual 134, 3) := by decide +kernel
theorem dX7_is_37 : decode cX7_is 37 = .ok (.ifCond .eq 7, 3) := by decide +kernel
theorem dX7_is_40 : decode cX7_is 40 = .ok (.iconst 1, 1) := by decide +kernel
theorem dX7_is_41 : decode cX7_is 41 = .ok (.goto 4, 3) := by decide +kernel
theorem dX7_is_44 : decode cX7_is 44 = .ok (.iconst 0, 1) := by decide +kernel
theorem dX7_is_45 : decode cX7_is 45 = .ok (.ireturn, 1) := by decide +kernel
set_option maxHeartbeats 4000000 in
theorem c_is (l : Launch) {D : va_G} {ids : Nat → ClassId} {β : Nat} {sh : Nat → Nat × Nat} {N : Nat} {R : Nat → Nat → Option Nat} {F : Nat → Nat → Int} {A : Nat → Int → Int} {S : SP} (hP : PbL sh R N) (hR0 : RepC sh R N S F A) {b t w : Int} (hb : I32 b) (ht : I32 t) (hw : I32 w) : MetX l yX7_is cX7_is 4 (some (.int)) 7 177 D ids β sh N R F A [rf 0, pI b, pI t, pI w] (pIr (fun z F2 A2 => z = oIs S b t w ∧ RepC sh R N S F2 A2)) := by
  refine MetX.of (loc := [_, _, _, _]) (plainFor_of_name (by decide +kernel)) (Nat.le_of_ble_eq_true rfl) rfl ?_
  intro p e s m args below meth c hC hK hr hlk
  obtain ⟨hAc, hAg, hJu, ⟨z1, z2⟩, r00, r01, r02⟩ := id hP
  have hShL := hAc.1
  obtain ⟨⟨j1, j2⟩, ⟨s0, s1, s2, s3, s4⟩, ⟨j3, j4⟩, -⟩ := id hShL
  have hI := hR0.shI
  have hi := hR0.2.1
  have i1 := hi.1
  refine x_aload_n (pc2 := 1) hC rfl rfl dX7_is_0 rfl ?_
  refine g_369 (pc2 := 4) hC hK (by assumption) (by assumption) (by assumption) dX7_is_1 rfl ?_
  refine x_iload_n (pc2 := 5) hC rfl rfl dX7_is_4 rfl ?_
  refine x_cVi (pc2 := 8) (ci := 5) hC hK (p_hasBox l hP hR0 hb) lk_451 rfl rfl (by decide) (by assumption) (by assumption) ⟨Nat.le_of_ble_eq_true rfl, Nat.le_of_ble_eq_true rfl⟩ ⟨Nat.le_refl _, Nat.le_refl _⟩ rfl (Nat.le_of_ble_eq_true rfl) dX7_is_5 rfl ?_
  rintro z5 F5 A5 ⟨w5, b5, e15, e25⟩
  obtain rfl := e15.symm
  obtain rfl := e25.symm
  refine x_if_eq (tgt := 28) (pc2 := 11) hC (by omega) dX7_is_8 rfl rfl (fun h_8 => ?_) (fun h_8 => ?_)
  · refine x_iconst (pc2 := 29) hC dX7_is_28 rfl ?_
    exact x_iret hC hr hlk ⟨_, rfl, by rw [oIs, itC_neg (fun ⟨q1, q2, q3⟩ => by first | exact absurd h_8 ((b5 ()).mpr q1) | exact absurd h_15 ((b12 ()).mpr q2) | omega)], hR0⟩ dX7_is_29
  · refine x_iload_n (pc2 := 12) hC rfl rfl dX7_is_11 rfl ?_
    refine x_cSi (pc2 := 15) hC hK (m_isTone l ht) lk_400 rfl ⟨Nat.le_of_ble_eq_true rfl, Nat.le_of_ble_eq_true rfl⟩ ⟨Nat.le_refl _, Nat.le_refl _⟩ rfl (Nat.le_of_ble_eq_true rfl) dX7_is_12 rfl ?_
    rintro z12 F12 A12 ⟨w12, b12, e112, e212⟩
    obtain rfl := e112.symm
    obtain rfl := e212.symm
    refine x_if_eq (tgt := 28) (pc2 := 18) hC (by omega) dX7_is_15 rfl rfl (fun h_15 => ?_) (fun h_15 => ?_)
    · refine x_iconst (pc2 := 29) hC dX7_is_28 rfl ?_
      exact x_iret hC hr hlk ⟨_, rfl, by rw [oIs, itC_neg (fun ⟨q1, q2, q3⟩ => by first | exact absurd h_8 ((b5 ()).mpr q1) | exact absurd h_15 ((b12 ()).mpr q2) | omega)], hR0⟩ dX7_is_29
    · refine x_iload_n (pc2 := 19) hC rfl rfl dX7_is_18 rfl ?_
      refine x_iconst (pc2 := 20) hC dX7_is_19 rfl ?_
      refine x_icmp_lt (tgt := 28) (pc2 := 23) hC (by omega) (by omega) dX7_is_20 rfl rfl (fun h_20 => ?_) (fun h_20 => ?_)
      · refine x_iconst (pc2 := 29) hC dX7_is_28 rfl ?_
        exact x_iret hC hr hlk ⟨_, rfl, by rw [oIs, itC_neg (fun ⟨q1, q2, q3⟩ => by first | exact absurd h_8 ((b5 ()).mpr q1) | exact absurd h_15 ((b12 ()).mpr q2) | omega)], hR0⟩ dX7_is_29
      · refine x_iload_n (pc2 := 24) hC rfl rfl dX7_is_23 rfl ?_
        refine x_iconst (pc2 := 25) hC dX7_is_24 rfl ?_
        refine x_icmp_le (tgt := 30) (pc2 := 28) hC (by omega) (by omega) dX7_is_25 rfl rfl (fun h_25 => ?_) (fun h_25 => ?_)
        · refine x_aload_n (pc2 := 31) hC rfl rfl dX7_is_30 rfl ?_
          refine x_iload_n (pc2 := 32) hC rfl rfl dX7_is_31 rfl ?_
          refine x_iload_n (pc2 := 33) hC rfl rfl dX7_is_32 rfl ?_
          refine x_iload_n (pc2 := 34) hC rfl rfl dX7_is_33 rfl ?_
          refine x_cVi (pc2 := 37) (ci := 7) hC hK (m_holds l hP hR0 ((b5 ()).mp h_8) ((b12 ()).mp h_15) ⟨by omega, by omega⟩) lk_735 rfl rfl (by decide) (by assumption) (by assumption) ⟨Nat.le_of_ble_eq_true rfl, Nat.le_of_ble_eq_true rfl⟩ ⟨Nat.le_refl _, Nat.le_refl _⟩ rfl (Nat.le_of_ble_eq_true rfl) dX7_is_34 rfl ?_
          rintro z34 F34 A34 ⟨w34, b34, hR34⟩
          refine x_if_eq (tgt := 44) (pc2 := 40) hC (by omega) dX7_is_37 rfl rfl (fun h_37 => ?_) (fun h_37 => ?_)
          · refine x_iconst (pc2 := 45) hC dX7_is_44 rfl ?_
            exact x_iret hC hr hlk ⟨_, rfl, by first | rw [oIs, itC_pos ⟨(b5 ()).mp h_8, (b12 ()).mp h_15, by omega, by omega⟩, pasI, itC_pos ((b34 ()).mp h_37)] | rw [oIs, itC_pos ⟨(b5 ()).mp h_8, (b12 ()).mp h_15, by omega, by omega⟩, pasI, itC_neg (fun q => absurd h_37 ((b34 ()).mpr q))], hR34⟩ dX7_is_45
          · refine x_iconst (pc2 := 41) hC dX7_is_40 rfl ?_
            refine x_goto (pc2 := 45) hC dX7_is_41 rfl ?_
            exact x_iret hC hr hlk ⟨_, rfl, by first | rw [oIs, itC_pos ⟨(b5 ()).mp h_8, (b12 ()).mp h_15, by omega, by omega⟩, pasI, itC_pos ((b34 ()).mp h_37)] | rw [oIs, itC_pos ⟨(b5 ()).mp h_8, (b12 ()).mp h_15, by omega, by omega⟩, pasI, itC_neg (fun q => absurd h_37 ((b34 ()).mpr q))], hR34⟩ dX7_is_45
        · refine x_iconst (pc2 := 29) hC dX7_is_28 rfl ?_
          exact x_iret hC hr hlk ⟨_, rfl, by rw [oIs, itC_neg (fun ⟨q1, q2, q3⟩ => by first | exact absurd h_8 ((b5 ()).mpr q1) | exact absurd h_15 ((b12 ()).mpr q2) | omega)], hR0⟩ dX7_is_29
noncomputable def psum (S : SP) (b w : Int) : Nat → Int
  | 0 => 0
  | k + 1 => psum S b w k + pasI S b (k : Int) w
theorem dX7_about_0 : decode cX7_about 0 = .ok (.aload_n 0, 1) := by decide +kernel
theorem dX7_about_1 : decode cX7_about 1 = .ok (.getfield 12, 3) := by decide +kernel
theorem dX7_about_4 : decode cX7_about 4 = .ok (.iload_n 1, 1) := by decide +kernel
theorem dX7_about_5 : decode cX7_about 5 = .ok (.invokevirtual 69, 3) := by decide +kernel
theorem dX7_about_8 : decode cX7_about 8 = .ok (.ifCond .eq 12, 3) := by decide +kernel
theorem dX7_about_11 : decode cX7_about 11 = .ok (.iload_n 2, 1) := by decide +kernel
theorem dX7_about_12 : decode cX7_about 12 = .ok (.ifCond .lt 8, 3) := by decide +kernel
theorem dX7_about_15 : decode cX7_about 15 = .ok (.iload_n 2, 1) := by decide +kernel
theorem dX7_about_16 : decode cX7_about 16 = .ok (.iconst 3, 1) := by decide +kernel
theorem dX7_about_17 : decode cX7_about 17 = .ok (.if_icmp .le 5, 3) := by decide +kernel
theorem dX7_about_20 : decode cX7_about 20 = .ok (.iconst (-1), 1) := by decide +kernel
theorem dX7_about_21 : decode cX7_about 21 = .ok (.ireturn, 1) := by decide +kernel
theorem dX7_about_22 : decode cX7_about 22 = .ok (.iload_n 2, 1) := by decide +kernel
theorem dX7_about_23 : decode cX7_about 23 = .ok (.ifCond .ne 12, 3) := by decide +kernel
theorem dX7_about_26 : decode cX7_about 26 = .ok (.aload_n 0, 1) := by decide +kernel
theorem dX7_about_27 : decode cX7_about 27 = .ok (.getfield 12, 3) := by decide +kernel
theorem dX7_about_30 : decode cX7_about 30 = .ok (.iload_n 1, 1) := by decide +kernel
theorem dX7_about_31 : decode cX7_about 31 = .ok (.invokevirtual 72, 3) := by decide +kernel
theorem dX7_about_34 : decode cX7_about 34 = .ok (.ireturn, 1) := by decide +kernel
theorem dX7_about_35 : decode cX7_about 35 = .ok (.iconst 0, 1) := by decide +kernel
theorem dX7_about_36 : decode cX7_about 36 = .ok (.istore_n 3, 1) := by decide +kernel
theorem dX7_about_37 : decode cX7_about 37 = .ok (.iconst 0, 1) := by decide +kernel
theorem dX7_about_38 : decode cX7_about 38 = .ok (.istore 4, 2) := by decide +kernel
theorem dX7_about_40 : decode cX7_about 40 = .ok (.iload 4, 2) := by decide +kernel
theorem dX7_about_42 : decode cX7_about 42 = .ok (.iconst 4, 1) := by decide +kernel
theorem dX7_about_43 : decode cX7_about 43 = .ok (.if_icmp .ge 23, 3) := by decide +kernel
theorem dX7_about_46 : decode cX7_about 46 = .ok (.aload_n 0, 1) := by decide +kernel
theorem dX7_about_47 : decode cX7_about 47 = .ok (.iload_n 1, 1) := by decide +kernel
theorem dX7_about_48 : decode cX7_about 48 = .ok (.iload 4, 2) := by decide +kernel
theorem dX7_about_50 : decode cX7_about 50 = .ok (.iload_n 2, 1) := by decide +kernel
theorem dX7_about_51 : decode cX7_about 51 = .ok (.invokevirtual 134, 3) := by decide +kernel
theorem dX7_about_54 : decode cX7_about 54 = .ok (.ifCond .eq 6, 3) := by decide +kernel
theorem dX7_about_57 : decode cX7_about 57 = .ok (.iinc 3 1, 3) := by decide +kernel
theorem dX7_about_60 : decode cX7_about 60 = .ok (.iinc 4 1, 3) := by decide +kernel
theorem dX7_about_63 : decode cX7_about 63 = .ok (.goto (-23), 3) := by decide +kernel
theorem dX7_about_66 : decode cX7_about 66 = .ok (.iload_n 3, 1) := by decide +kernel
theorem dX7_about_67 : decode cX7_about 67 = .ok (.ireturn, 1) := by decide +kernel
set_option maxHeartbeats 4000000 in
theorem c_about (l : Launch) {D : va_G} {ids : Nat → ClassId} {β : Nat} {sh : Nat → Nat × Nat} {N : Nat} {R : Nat → Nat → Option Nat} {F : Nat → Nat → Int} {A : Nat → Int → Int} {S : SP} (hP : PbL sh R N) (hR0 : RepC sh R N S F A) {b w : Int} (hb : I32 b) (hw : I32 w) : MetX l yX7_about cX7_about 5 (some (.int)) 7 177 D ids β sh N R F A [rf 0, pI b, pI w] (pIr (fun z F2 A2 => z = oAbout S b w ∧ RepC sh R N S F2 A2)) := by
  refine MetX.of (loc := [_, _, _, _, _]) (plainFor_of_name (by decide +kernel)) (Nat.le_of_ble_eq_true rfl) rfl ?_
  intro p e s m args below meth c hC hK hr hlk
  obtain ⟨hAc, hAg, hJu, ⟨z1, z2⟩, r00, r01, r02⟩ := id hP
  have hShL := hAc.1
  obtain ⟨⟨j1, j2⟩, ⟨s0, s1, s2, s3, s4⟩, ⟨j3, j4⟩, -⟩ := id hShL
  have hI := hR0.shI
  have hi := hR0.2.1
  have i1 := hi.1
  have loop : ∀ (d k : Nat) (n0 : Int) (F1 : Nat → Nat → Int) (A1 : Nat → Int → Int), 4 - k < d → k ≤ 4 → isB S b → (1 ≤ w ∧ w ≤ 3) → n0 = psum S b w k → RepC sh R N S F1 A1 → X p l e { frames := 7, cells := 0, slots := 0, locals := 177 } s m args below meth c (MQ below (QX D ids β sh N R (pIr (fun z F2 A2 => z = oAbout S b w ∧ RepC sh R N S F2 A2))) args s 0 0 (inG β N)) (inG β N) D ids β sh 5 0 0 N R F1 A1 [some (rf 0), some (pI b), some (pI w), some (pI n0), some (pI (k : Int))] [] 40 := by
    intro d
    induction d with
    | zero => intro k n0 F1 A1 hd; omega
    | succ d ih =>
      intro k n0 F1 A1 hd k4 hB hw3 hn hR1
      refine x_iload (pc2 := 42) hC rfl dX7_about_40 rfl ?_
      refine x_iconst (pc2 := 43) hC dX7_about_42 rfl ?_
      refine x_icmp_ge (tgt := 66) (pc2 := 46) hC (by omega) (by omega) dX7_about_43 rfl rfl (fun h_43 => ?_) (fun h_43 => ?_)
      · refine x_iload_n (pc2 := 67) hC rfl rfl dX7_about_66 rfl ?_
        exact x_iret hC hr hlk ⟨_, rfl, by rw [oAbout, itC_pos ⟨hB, by omega, by omega⟩, itC_neg (by omega), hn, show k = 4 by omega, show psum S b w 4 = 0 + pasI S b 0 w + pasI S b 1 w + pasI S b 2 w + pasI S b 3 w from rfl]; omega, hR1⟩ dX7_about_67
      · refine x_aload_n (pc2 := 47) hC rfl rfl dX7_about_46 rfl ?_
        refine x_iload_n (pc2 := 48) hC rfl rfl dX7_about_47 rfl ?_
        refine x_iload (pc2 := 50) hC rfl dX7_about_48 rfl ?_
        refine x_iload_n (pc2 := 51) hC rfl rfl dX7_about_50 rfl ?_
        refine x_cVi (pc2 := 54) (ci := 7) hC hK (m_holds l hP hR1 hB (show isT (k : Int) by omega) hw3) lk_735 rfl rfl (by decide) (by assumption) (by assumption) ⟨Nat.le_of_ble_eq_true rfl, Nat.le_of_ble_eq_true rfl⟩ ⟨Nat.le_refl _, Nat.le_refl _⟩ rfl (Nat.le_of_ble_eq_true rfl) dX7_about_51 rfl ?_
        rintro z51 F51 A51 ⟨w51, b51, hR51⟩
        refine x_if_eq (tgt := 60) (pc2 := 57) hC (by omega) dX7_about_54 rfl rfl (fun h_54 => ?_) (fun h_54 => ?_)
        · refine x_iinc (pc2 := 63) (loc2 := [_, _, _, _, _]) hC (by decide) rfl rfl dX7_about_60 rfl ?_
          refine x_goto (pc2 := 40) hC dX7_about_63 rfl ?_
          refine ih (k + 1) _ F51 A51 (by omega) (by omega) hB hw3 ?_ hR51
          rw [psum, ← hn, pasI, itC_neg (fun q => absurd h_54 ((b51 ()).mpr q))]; omega
        · refine x_iinc (pc2 := 60) (loc2 := [_, _, _, _, _]) hC (by decide) rfl rfl dX7_about_57 rfl ?_
          refine x_iinc (pc2 := 63) (loc2 := [_, _, _, _, _]) hC (by decide) rfl rfl dX7_about_60 rfl ?_
          refine x_goto (pc2 := 40) hC dX7_about_63 rfl ?_
          refine ih (k + 1) _ F51 A51 (by omega) (by omega) hB hw3 ?_ hR51
          rw [psum, ← hn, pasI, itC_pos ((b51 ()).mp h_54)]
  refine x_aload_n (pc2 := 1) hC rfl rfl dX7_about_0 rfl ?_
  refine g_369 (pc2 := 4) hC hK (by assumption) (by assumption) (by assumption) dX7_about_1 rfl ?_
  refine x_iload_n (pc2 := 5) hC rfl rfl dX7_about_4 rfl ?_
  refine x_cVi (pc2 := 8) (ci := 5) hC hK (p_hasBox l hP hR0 hb) lk_451 rfl rfl (by decide) (by assumption) (by assumption) ⟨Nat.le_of_ble_eq_true rfl, Nat.le_of_ble_eq_true rfl⟩ ⟨Nat.le_refl _, Nat.le_refl _⟩ rfl (Nat.le_of_ble_eq_true rfl) dX7_about_5 rfl ?_
  rintro z5 F5 A5 ⟨w5, b5, e15, e25⟩
  obtain rfl := e15.symm
  obtain rfl := e25.symm
  refine x_if_eq (tgt := 20) (pc2 := 11) hC (by omega) dX7_about_8 rfl rfl (fun h_8 => ?_) (fun h_8 => ?_)
  · refine x_iconst (pc2 := 21) hC dX7_about_20 rfl ?_
    exact x_iret hC hr hlk ⟨_, rfl, by rw [oAbout, itC_neg (fun ⟨q1, q2⟩ => by first | exact absurd h_8 ((b5 ()).mpr q1) | omega)], hR0⟩ dX7_about_21
  · refine x_iload_n (pc2 := 12) hC rfl rfl dX7_about_11 rfl ?_
    refine x_if_lt (tgt := 20) (pc2 := 15) hC (by omega) dX7_about_12 rfl rfl (fun h_12 => ?_) (fun h_12 => ?_)
    · refine x_iconst (pc2 := 21) hC dX7_about_20 rfl ?_
      exact x_iret hC hr hlk ⟨_, rfl, by rw [oAbout, itC_neg (fun ⟨q1, q2⟩ => by first | exact absurd h_8 ((b5 ()).mpr q1) | omega)], hR0⟩ dX7_about_21
    · refine x_iload_n (pc2 := 16) hC rfl rfl dX7_about_15 rfl ?_
      refine x_iconst (pc2 := 17) hC dX7_about_16 rfl ?_
      refine x_icmp_le (tgt := 22) (pc2 := 20) hC (by omega) (by omega) dX7_about_17 rfl rfl (fun h_17 => ?_) (fun h_17 => ?_)
      · refine x_iload_n (pc2 := 23) hC rfl rfl dX7_about_22 rfl ?_
        refine x_if_ne (tgt := 35) (pc2 := 26) hC (by omega) dX7_about_23 rfl rfl (fun h_23 => ?_) (fun h_23 => ?_)
        · refine x_iconst (pc2 := 36) hC dX7_about_35 rfl ?_
          refine x_istore_n (pc2 := 37) (loc2 := [_, _, _, _, _]) hC rfl (by decide) rfl dX7_about_36 rfl ?_
          refine x_iconst (pc2 := 38) hC dX7_about_37 rfl ?_
          refine x_istore (pc2 := 40) (loc2 := [_, _, _, _, _]) hC (by decide) rfl dX7_about_38 rfl ?_
          exact loop 5 0 0 F A (by omega) (by omega) ((b5 ()).mp h_8) ⟨by omega, by omega⟩ rfl hR0
        · refine x_aload_n (pc2 := 27) hC rfl rfl dX7_about_26 rfl ?_
          refine g_369 (pc2 := 30) hC hK (by assumption) (by assumption) (by assumption) dX7_about_27 rfl ?_
          refine x_iload_n (pc2 := 31) hC rfl rfl dX7_about_30 rfl ?_
          refine x_cVi (pc2 := 34) (ci := 5) hC hK (p_portsOf l hP hR0 hb ((b5 ()).mp h_8)) lk_452 rfl rfl (by decide) (by assumption) (by assumption) ⟨Nat.le_of_ble_eq_true rfl, Nat.le_of_ble_eq_true rfl⟩ ⟨Nat.le_refl _, Nat.le_refl _⟩ rfl (Nat.le_of_ble_eq_true rfl) dX7_about_31 rfl ?_
          rintro z31 F31 A31 ⟨rfl, e131, e231⟩
          obtain rfl := e131.symm
          obtain rfl := e231.symm
          exact x_iret hC hr hlk ⟨_, rfl, by rw [oAbout, itC_pos ⟨(b5 ()).mp h_8, by omega, by omega⟩, itC_pos (by omega)], hR0⟩ dX7_about_34
      · refine x_iconst (pc2 := 21) hC dX7_about_20 rfl ?_
        exact x_iret hC hr hlk ⟨_, rfl, by rw [oAbout, itC_neg (fun ⟨q1, q2⟩ => by first | exact absurd h_8 ((b5 ()).mpr q1) | omega)], hR0⟩ dX7_about_21
theorem dX7_against_0 : decode cX7_against 0 = .ok (.iload_n 1, 1) := by decide +kernel
theorem dX7_against_1 : decode cX7_against 1 = .ok (.invokestatic 43, 3) := by decide +kernel
theorem dX7_against_4 : decode cX7_against 4 = .ok (.ifCond .eq 33, 3) := by decide +kernel
theorem dX7_against_7 : decode cX7_against 7 = .ok (.aload_n 0, 1) := by decide +kernel
theorem dX7_against_8 : decode cX7_against 8 = .ok (.getfield 12, 3) := by decide +kernel
theorem dX7_against_11 : decode cX7_against 11 = .ok (.iload_n 2, 1) := by decide +kernel
theorem dX7_against_12 : decode cX7_against 12 = .ok (.iload_n 3, 1) := by decide +kernel
theorem dX7_against_13 : decode cX7_against 13 = .ok (.iload 4, 2) := by decide +kernel
theorem dX7_against_15 : decode cX7_against 15 = .ok (.invokevirtual 47, 3) := by decide +kernel
theorem dX7_against_18 : decode cX7_against 18 = .ok (.ifCond .eq 19, 3) := by decide +kernel
theorem dX7_against_21 : decode cX7_against 21 = .ok (.aload_n 0, 1) := by decide +kernel
theorem dX7_against_22 : decode cX7_against 22 = .ok (.getfield 12, 3) := by decide +kernel
theorem dX7_against_25 : decode cX7_against 25 = .ok (.iload 5, 2) := by decide +kernel
theorem dX7_against_27 : decode cX7_against 27 = .ok (.iload 6, 2) := by decide +kernel
theorem dX7_against_29 : decode cX7_against 29 = .ok (.iload 7, 2) := by decide +kernel
theorem dX7_against_31 : decode cX7_against 31 = .ok (.invokevirtual 47, 3) := by decide +kernel
theorem dX7_against_34 : decode cX7_against 34 = .ok (.ifCond .ne 6, 3) := by decide +kernel
theorem dX7_against_37 : decode cX7_against 37 = .ok (.bipush (-9), 2) := by decide +kernel
theorem dX7_against_39 : decode cX7_against 39 = .ok (.ireturn, 1) := by decide +kernel
theorem dX7_against_40 : decode cX7_against 40 = .ok (.aload_n 0, 1) := by decide +kernel
theorem dX7_against_41 : decode cX7_against 41 = .ok (.getfield 28, 3) := by decide +kernel
theorem dX7_against_44 : decode cX7_against 44 = .ok (.aload_n 0, 1) := by decide +kernel
theorem dX7_against_45 : decode cX7_against 45 = .ok (.getfield 12, 3) := by decide +kernel
theorem dX7_against_48 : decode cX7_against 48 = .ok (.getfield 124, 3) := by decide +kernel
theorem dX7_against_51 : decode cX7_against 51 = .ok (.iload_n 2, 1) := by decide +kernel
theorem dX7_against_52 : decode cX7_against 52 = .ok (.iload_n 1, 1) := by decide +kernel
theorem dX7_against_53 : decode cX7_against 53 = .ok (.iload_n 3, 1) := by decide +kernel
theorem dX7_against_54 : decode cX7_against 54 = .ok (.iload 4, 2) := by decide +kernel
theorem dX7_against_56 : decode cX7_against 56 = .ok (.invokestatic 58, 3) := by decide +kernel
theorem dX7_against_59 : decode cX7_against 59 = .ok (.invokestatic 121, 3) := by decide +kernel
theorem dX7_against_62 : decode cX7_against 62 = .ok (.iload 5, 2) := by decide +kernel
theorem dX7_against_64 : decode cX7_against 64 = .ok (.iload_n 1, 1) := by decide +kernel
theorem dX7_against_65 : decode cX7_against 65 = .ok (.iload 6, 2) := by decide +kernel
theorem dX7_against_67 : decode cX7_against 67 = .ok (.iload 7, 2) := by decide +kernel
theorem dX7_against_69 : decode cX7_against 69 = .ok (.invokestatic 58, 3) := by decide +kernel
theorem dX7_against_72 : decode cX7_against 72 = .ok (.invokestatic 121, 3) := by decide +kernel
theorem dX7_against_75 : decode cX7_against 75 = .ok (.invokevirtual 137, 3) := by decide +kernel
theorem dX7_against_78 : decode cX7_against 78 = .ok (.ireturn, 1) := by decide +kernel
set_option maxHeartbeats 4000000 in
theorem c_against (l : Launch) {D : va_G} {ids : Nat → ClassId} {β : Nat} {sh : Nat → Nat × Nat} {N : Nat} {R : Nat → Nat → Option Nat} {F : Nat → Nat → Int} {A : Nat → Int → Int} {S : SP} (hP : PbL sh R N) (hR0 : RepC sh R N S F A) {t a i j b k n : Int} (ht : I32 t) (ha : I32 a) (hi2 : I32 i) (hj : I32 j) (hb : I32 b) (hk : I32 k) (hn : I32 n) : MetX l yX7_against cX7_against 8 (some (.int)) 6 152 D ids β sh N R F A [rf 0, pI t, pI a, pI i, pI j, pI b, pI k, pI n] (pIr (fun z F2 A2 => z = oAgainst S t a i j b k n ∧ RepC sh R N S F2 A2)) := by
  refine MetX.of (loc := [_, _, _, _, _, _, _, _]) (plainFor_of_name (by decide +kernel)) (Nat.le_of_ble_eq_true rfl) rfl ?_
  intro p e s m args below meth c hC hK hr hlk
  obtain ⟨hAc, hAg, hJu, ⟨z1, z2⟩, r00, r01, r02⟩ := id hP
  have hShL := hAc.1
  obtain ⟨⟨j1, j2⟩, ⟨s0, s1, s2, s3, s4⟩, ⟨j3, j4⟩, -⟩ := id hShL
  have hI := hR0.shI
  have hi := hR0.2.1
  have i1 := hi.1
  obtain ⟨⟨j295, j295s⟩, -⟩ := id hJu
  refine x_iload_n (pc2 := 1) hC rfl rfl dX7_against_0 rfl ?_
  refine x_cSi (pc2 := 4) hC hK (m_isTone l ht) lk_400 rfl ⟨Nat.le_of_ble_eq_true rfl, Nat.le_of_ble_eq_true rfl⟩ ⟨Nat.le_refl _, Nat.le_refl _⟩ rfl (Nat.le_of_ble_eq_true rfl) dX7_against_1 rfl ?_
  rintro z1 F1 A1 ⟨w1, b1, e11, e21⟩
  obtain rfl := e11.symm
  obtain rfl := e21.symm
  refine x_if_eq (tgt := 37) (pc2 := 7) hC (by omega) dX7_against_4 rfl rfl (fun h_4 => ?_) (fun h_4 => ?_)
  · refine x_bipush (pc2 := 39) hC rfl dX7_against_37 rfl ?_
    exact x_iret hC hr hlk ⟨_, rfl, by rw [oAgainst, itC_neg (fun ⟨q1, q2, q3⟩ => by first | exact absurd h_4 ((b1 ()).mpr q1) | exact absurd h_18 ((b15 ()).mpr q2) | exact absurd h_34 ((b31 ()).mpr q3))], hR0⟩ dX7_against_39
  · refine x_aload_n (pc2 := 8) hC rfl rfl dX7_against_7 rfl ?_
    refine g_369 (pc2 := 11) hC hK (by assumption) (by assumption) (by assumption) dX7_against_8 rfl ?_
    refine x_iload_n (pc2 := 12) hC rfl rfl dX7_against_11 rfl ?_
    refine x_iload_n (pc2 := 13) hC rfl rfl dX7_against_12 rfl ?_
    refine x_iload (pc2 := 15) hC rfl dX7_against_13 rfl ?_
    refine x_cVi (pc2 := 18) (ci := 5) hC hK (p_hasEntry l hP hR0 ha hi2 hj) lk_403 rfl rfl (by decide) (by assumption) (by assumption) ⟨Nat.le_of_ble_eq_true rfl, Nat.le_of_ble_eq_true rfl⟩ ⟨Nat.le_refl _, Nat.le_refl _⟩ rfl (Nat.le_of_ble_eq_true rfl) dX7_against_15 rfl ?_
    rintro z15 F15 A15 ⟨w15, b15, e115, e215⟩
    obtain rfl := e115.symm
    obtain rfl := e215.symm
    refine x_if_eq (tgt := 37) (pc2 := 21) hC (by omega) dX7_against_18 rfl rfl (fun h_18 => ?_) (fun h_18 => ?_)
    · refine x_bipush (pc2 := 39) hC rfl dX7_against_37 rfl ?_
      exact x_iret hC hr hlk ⟨_, rfl, by rw [oAgainst, itC_neg (fun ⟨q1, q2, q3⟩ => by first | exact absurd h_4 ((b1 ()).mpr q1) | exact absurd h_18 ((b15 ()).mpr q2) | exact absurd h_34 ((b31 ()).mpr q3))], hR0⟩ dX7_against_39
    · refine x_aload_n (pc2 := 22) hC rfl rfl dX7_against_21 rfl ?_
      refine g_369 (pc2 := 25) hC hK (by assumption) (by assumption) (by assumption) dX7_against_22 rfl ?_
      refine x_iload (pc2 := 27) hC rfl dX7_against_25 rfl ?_
      refine x_iload (pc2 := 29) hC rfl dX7_against_27 rfl ?_
      refine x_iload (pc2 := 31) hC rfl dX7_against_29 rfl ?_
      refine x_cVi (pc2 := 34) (ci := 5) hC hK (p_hasEntry l hP hR0 hb hk hn) lk_403 rfl rfl (by decide) (by assumption) (by assumption) ⟨Nat.le_of_ble_eq_true rfl, Nat.le_of_ble_eq_true rfl⟩ ⟨Nat.le_refl _, Nat.le_refl _⟩ rfl (Nat.le_of_ble_eq_true rfl) dX7_against_31 rfl ?_
      rintro z31 F31 A31 ⟨w31, b31, e131, e231⟩
      obtain rfl := e131.symm
      obtain rfl := e231.symm
      refine x_if_ne (tgt := 40) (pc2 := 37) hC (by omega) dX7_against_34 rfl rfl (fun h_34 => ?_) (fun h_34 => ?_)
      · have hT := (b1 ()).mp h_4
        have hE1 := (b15 ()).mp h_18
        have hE2 := (b31 ()).mp h_34
        have pt1 := (hi.2.1 a hE1.1).1
        have he1 : isT (2 * i + j) := by have := hE1.2; omega
        have pt2 := (hi.2.1 b hE2.1).1
        have he2 : isT (2 * k + n) := by have := hE2.2; omega
        refine x_aload_n (pc2 := 41) hC rfl rfl dX7_against_40 rfl ?_
        refine g_371 (pc2 := 44) hC hK (by assumption) (by assumption) (by assumption) dX7_against_41 rfl ?_
        refine x_aload_n (pc2 := 45) hC rfl rfl dX7_against_44 rfl ?_
        refine g_369 (pc2 := 48) hC hK (by assumption) (by assumption) (by assumption) dX7_against_45 rfl ?_
        refine g_95 (pc2 := 51) hC hK (by assumption) (by assumption) (by assumption) dX7_against_48 rfl ?_
        refine x_iload_n (pc2 := 52) hC rfl rfl dX7_against_51 rfl ?_
        refine x_iload_n (pc2 := 53) hC rfl rfl dX7_against_52 rfl ?_
        refine x_iload_n (pc2 := 54) hC rfl rfl dX7_against_53 rfl ?_
        refine x_iload (pc2 := 56) hC rfl dX7_against_54 rfl ?_
        refine x_cSi (pc2 := 59) hC hK (m_entry l) lk_423 rfl ⟨Nat.le_of_ble_eq_true rfl, Nat.le_of_ble_eq_true rfl⟩ ⟨Nat.le_refl _, Nat.le_refl _⟩ rfl (Nat.le_of_ble_eq_true rfl) dX7_against_56 rfl ?_
        rintro z56 F56 A56 ⟨rfl, e156, e256⟩
        obtain rfl := e156.symm
        obtain rfl := e256.symm
        refine x_cSi (pc2 := 62) hC hK (m_place l) lk_727 rfl ⟨Nat.le_of_ble_eq_true rfl, Nat.le_of_ble_eq_true rfl⟩ ⟨Nat.le_refl _, Nat.le_refl _⟩ rfl (Nat.le_of_ble_eq_true rfl) dX7_against_59 rfl ?_
        rintro z59 F59 A59 ⟨rfl, e159, e259⟩
        obtain rfl := e159.symm
        obtain rfl := e259.symm
        refine x_iload (pc2 := 64) hC rfl dX7_against_62 rfl ?_
        refine x_iload_n (pc2 := 65) hC rfl rfl dX7_against_64 rfl ?_
        refine x_iload (pc2 := 67) hC rfl dX7_against_65 rfl ?_
        refine x_iload (pc2 := 69) hC rfl dX7_against_67 rfl ?_
        refine x_cSi (pc2 := 72) hC hK (m_entry l) lk_423 rfl ⟨Nat.le_of_ble_eq_true rfl, Nat.le_of_ble_eq_true rfl⟩ ⟨Nat.le_refl _, Nat.le_refl _⟩ rfl (Nat.le_of_ble_eq_true rfl) dX7_against_69 rfl ?_
        rintro z69 F69 A69 ⟨rfl, e169, e269⟩
        obtain rfl := e169.symm
        obtain rfl := e269.symm
        refine x_cSi (pc2 := 75) hC hK (m_place l) lk_727 rfl ⟨Nat.le_of_ble_eq_true rfl, Nat.le_of_ble_eq_true rfl⟩ ⟨Nat.le_refl _, Nat.le_refl _⟩ rfl (Nat.le_of_ble_eq_true rfl) dX7_against_72 rfl ?_
        rintro z72 F72 A72 ⟨rfl, e172, e272⟩
        obtain rfl := e172.symm
        obtain rfl := e272.symm
        refine x_cVi (pc2 := 78) (ci := 2) hC hK (p_cmp l hP hR0 hE1.1 hT he1 hE2.1 hT he2) lk_786 rfl rfl (by decide) (by assumption) (by assumption) ⟨Nat.le_of_ble_eq_true rfl, Nat.le_of_ble_eq_true rfl⟩ ⟨Nat.le_refl _, Nat.le_refl _⟩ rfl (Nat.le_of_ble_eq_true rfl) dX7_against_75 rfl ?_
        rintro z75 F75 A75 ⟨e75, hR75⟩
        exact x_iret hC hr hlk ⟨_, rfl, by rw [oAgainst, itC_pos ⟨hT, hE1, hE2⟩]; exact e75, hR75⟩ dX7_against_78
      · refine x_bipush (pc2 := 39) hC rfl dX7_against_37 rfl ?_
        exact x_iret hC hr hlk ⟨_, rfl, by rw [oAgainst, itC_neg (fun ⟨q1, q2, q3⟩ => by first | exact absurd h_4 ((b1 ()).mpr q1) | exact absurd h_18 ((b15 ()).mpr q2) | exact absurd h_34 ((b31 ()).mpr q3))], hR0⟩ dX7_against_39
theorem dX7_worst_0 : decode cX7_worst 0 = .ok (.aload_n 0, 1) := by decide +kernel
theorem dX7_worst_1 : decode cX7_worst 1 = .ok (.getfield 12, 3) := by decide +kernel
theorem dX7_worst_4 : decode cX7_worst 4 = .ok (.iload_n 1, 1) := by decide +kernel
theorem dX7_worst_5 : decode cX7_worst 5 = .ok (.iload_n 2, 1) := by decide +kernel
theorem dX7_worst_6 : decode cX7_worst 6 = .ok (.iload_n 3, 1) := by decide +kernel
theorem dX7_worst_7 : decode cX7_worst 7 = .ok (.invokevirtual 47, 3) := by decide +kernel
theorem dX7_worst_10 : decode cX7_worst 10 = .ok (.ifCond .ne 5, 3) := by decide +kernel
theorem dX7_worst_13 : decode cX7_worst 13 = .ok (.iconst (-1), 1) := by decide +kernel
theorem dX7_worst_14 : decode cX7_worst 14 = .ok (.ireturn, 1) := by decide +kernel
theorem dX7_worst_15 : decode cX7_worst 15 = .ok (.iconst 0, 1) := by decide +kernel
theorem dX7_worst_16 : decode cX7_worst 16 = .ok (.istore 4, 2) := by decide +kernel
theorem dX7_worst_18 : decode cX7_worst 18 = .ok (.iconst 1, 1) := by decide +kernel
theorem dX7_worst_19 : decode cX7_worst 19 = .ok (.istore 5, 2) := by decide +kernel
theorem dX7_worst_21 : decode cX7_worst 21 = .ok (.iload 5, 2) := by decide +kernel
theorem dX7_worst_23 : decode cX7_worst 23 = .ok (.iconst 4, 1) := by decide +kernel
theorem dX7_worst_24 : decode cX7_worst 24 = .ok (.if_icmp .ge 56, 3) := by decide +kernel
theorem dX7_worst_27 : decode cX7_worst 27 = .ok (.iload_n 1, 1) := by decide +kernel
theorem dX7_worst_28 : decode cX7_worst 28 = .ok (.iload 5, 2) := by decide +kernel
theorem dX7_worst_30 : decode cX7_worst 30 = .ok (.iload_n 2, 1) := by decide +kernel
theorem dX7_worst_31 : decode cX7_worst 31 = .ok (.iload_n 3, 1) := by decide +kernel
theorem dX7_worst_32 : decode cX7_worst 32 = .ok (.invokestatic 58, 3) := by decide +kernel
theorem dX7_worst_35 : decode cX7_worst 35 = .ok (.invokestatic 121, 3) := by decide +kernel
theorem dX7_worst_38 : decode cX7_worst 38 = .ok (.istore 6, 2) := by decide +kernel
theorem dX7_worst_40 : decode cX7_worst 40 = .ok (.aload_n 0, 1) := by decide +kernel
theorem dX7_worst_41 : decode cX7_worst 41 = .ok (.getfield 28, 3) := by decide +kernel
theorem dX7_worst_44 : decode cX7_worst 44 = .ok (.aload_n 0, 1) := by decide +kernel
theorem dX7_worst_45 : decode cX7_worst 45 = .ok (.getfield 12, 3) := by decide +kernel
theorem dX7_worst_48 : decode cX7_worst 48 = .ok (.getfield 124, 3) := by decide +kernel
theorem dX7_worst_51 : decode cX7_worst 51 = .ok (.iload 6, 2) := by decide +kernel
theorem dX7_worst_53 : decode cX7_worst 53 = .ok (.iload_n 1, 1) := by decide +kernel
theorem dX7_worst_54 : decode cX7_worst 54 = .ok (.iload 4, 2) := by decide +kernel
theorem dX7_worst_56 : decode cX7_worst 56 = .ok (.iload_n 2, 1) := by decide +kernel
theorem dX7_worst_57 : decode cX7_worst 57 = .ok (.iload_n 3, 1) := by decide +kernel
theorem dX7_worst_58 : decode cX7_worst 58 = .ok (.invokestatic 58, 3) := by decide +kernel
theorem dX7_worst_61 : decode cX7_worst 61 = .ok (.invokestatic 121, 3) := by decide +kernel
theorem dX7_worst_64 : decode cX7_worst 64 = .ok (.invokevirtual 137, 3) := by decide +kernel
theorem dX7_worst_67 : decode cX7_worst 67 = .ok (.ifCond .le 7, 3) := by decide +kernel
theorem dX7_worst_70 : decode cX7_worst 70 = .ok (.iload 5, 2) := by decide +kernel
theorem dX7_worst_72 : decode cX7_worst 72 = .ok (.istore 4, 2) := by decide +kernel
theorem dX7_worst_74 : decode cX7_worst 74 = .ok (.iinc 5 1, 3) := by decide +kernel
theorem dX7_worst_77 : decode cX7_worst 77 = .ok (.goto (-56), 3) := by decide +kernel
theorem dX7_worst_80 : decode cX7_worst 80 = .ok (.iload 4, 2) := by decide +kernel
theorem dX7_worst_82 : decode cX7_worst 82 = .ok (.ireturn, 1) := by decide +kernel
set_option maxHeartbeats 4000000 in
theorem c_worst (l : Launch) {D : va_G} {ids : Nat → ClassId} {β : Nat} {sh : Nat → Nat × Nat} {N : Nat} {R : Nat → Nat → Option Nat} {F : Nat → Nat → Int} {A : Nat → Int → Int} {S : SP} (hP : PbL sh R N) (hR0 : RepC sh R N S F A) {b i j : Int} (hb : I32 b) (hi2 : I32 i) (hj : I32 j) : MetX l yX7_worst cX7_worst 7 (some (.int)) 6 152 D ids β sh N R F A [rf 0, pI b, pI i, pI j] (pIr (fun z F2 A2 => z = oWorst S b i j ∧ RepC sh R N S F2 A2)) := by
  refine MetX.of (loc := [_, _, _, _, _, _, _]) (plainFor_of_name (by decide +kernel)) (Nat.le_of_ble_eq_true rfl) rfl ?_
  intro p e s m args below meth c hC hK hr hlk
  obtain ⟨hAc, hAg, hJu, ⟨z1, z2⟩, r00, r01, r02⟩ := id hP
  have hShL := hAc.1
  obtain ⟨⟨j1, j2⟩, ⟨s0, s1, s2, s3, s4⟩, ⟨j3, j4⟩, -⟩ := id hShL
  have hI := hR0.shI
  have hi := hR0.2.1
  have i1 := hi.1
  obtain ⟨⟨j295, j295s⟩, -⟩ := id hJu
  have loop : ∀ (d k : Nat) (n0 : Int) (F1 : Nat → Nat → Int) (A1 : Nat → Int → Int) {e6 : Option PV}, 3 - k < d → k ≤ 3 → isE S b i j → isT (2 * i + j) → n0 = wst (fun t => nm S b t (2 * i + j)) k → RepC sh R N S F1 A1 → X p l e { frames := 6, cells := 0, slots := 0, locals := 152 } s m args below meth c (MQ below (QX D ids β sh N R (pIr (fun z F2 A2 => z = oWorst S b i j ∧ RepC sh R N S F2 A2))) args s 0 0 (inG β N)) (inG β N) D ids β sh 7 0 0 N R F1 A1 [some (rf 0), some (pI b), some (pI i), some (pI j), some (pI n0), some (pI ((k : Int) + 1)), e6] [] 21 := by
    intro d
    induction d with
    | zero => intro k n0 F1 A1 e6 hd; omega
    | succ d ih =>
      intro k n0 F1 A1 e6 hd k4 hE he4 hn hR1
      have hwn := wst_in (fun t => nm S b t (2 * i + j)) k
      rw [← hn] at hwn
      refine x_iload (pc2 := 23) hC rfl dX7_worst_21 rfl ?_
      refine x_iconst (pc2 := 24) hC dX7_worst_23 rfl ?_
      refine x_icmp_ge (tgt := 80) (pc2 := 27) hC (by omega) (by omega) dX7_worst_24 rfl rfl (fun h_24 => ?_) (fun h_24 => ?_)
      · refine x_iload (pc2 := 82) hC rfl dX7_worst_80 rfl ?_
        exact x_iret hC hr hlk ⟨_, rfl, by rw [oWorst, itC_pos hE, hn, show k = 3 by omega], hR1⟩ dX7_worst_82
      · refine x_iload_n (pc2 := 28) hC rfl rfl dX7_worst_27 rfl ?_
        refine x_iload (pc2 := 30) hC rfl dX7_worst_28 rfl ?_
        refine x_iload_n (pc2 := 31) hC rfl rfl dX7_worst_30 rfl ?_
        refine x_iload_n (pc2 := 32) hC rfl rfl dX7_worst_31 rfl ?_
        refine x_cSi (pc2 := 35) hC hK (m_entry l) lk_423 rfl ⟨Nat.le_of_ble_eq_true rfl, Nat.le_of_ble_eq_true rfl⟩ ⟨Nat.le_refl _, Nat.le_refl _⟩ rfl (Nat.le_of_ble_eq_true rfl) dX7_worst_32 rfl ?_
        rintro z32 F32 A32 ⟨rfl, e132, e232⟩
        obtain rfl := e132.symm
        obtain rfl := e232.symm
        refine x_cSi (pc2 := 38) hC hK (m_place l) lk_727 rfl ⟨Nat.le_of_ble_eq_true rfl, Nat.le_of_ble_eq_true rfl⟩ ⟨Nat.le_refl _, Nat.le_refl _⟩ rfl (Nat.le_of_ble_eq_true rfl) dX7_worst_35 rfl ?_
        rintro z35 F35 A35 ⟨rfl, e135, e235⟩
        obtain rfl := e135.symm
        obtain rfl := e235.symm
        refine x_istore (pc2 := 40) (loc2 := [_, _, _, _, _, _, _]) hC (by decide) rfl dX7_worst_38 rfl ?_
        refine x_aload_n (pc2 := 41) hC rfl rfl dX7_worst_40 rfl ?_
        refine g_371 (pc2 := 44) hC hK (by assumption) (by assumption) (by assumption) dX7_worst_41 rfl ?_
        refine x_aload_n (pc2 := 45) hC rfl rfl dX7_worst_44 rfl ?_
        refine g_369 (pc2 := 48) hC hK (by assumption) (by assumption) (by assumption) dX7_worst_45 rfl ?_
        refine g_95 (pc2 := 51) hC hK (by assumption) (by assumption) (by assumption) dX7_worst_48 rfl ?_
        refine x_iload (pc2 := 53) hC rfl dX7_worst_51 rfl ?_
        refine x_iload_n (pc2 := 54) hC rfl rfl dX7_worst_53 rfl ?_
        refine x_iload (pc2 := 56) hC rfl dX7_worst_54 rfl ?_
        refine x_iload_n (pc2 := 57) hC rfl rfl dX7_worst_56 rfl ?_
        refine x_iload_n (pc2 := 58) hC rfl rfl dX7_worst_57 rfl ?_
        refine x_cSi (pc2 := 61) hC hK (m_entry l) lk_423 rfl ⟨Nat.le_of_ble_eq_true rfl, Nat.le_of_ble_eq_true rfl⟩ ⟨Nat.le_refl _, Nat.le_refl _⟩ rfl (Nat.le_of_ble_eq_true rfl) dX7_worst_58 rfl ?_
        rintro z58 F58 A58 ⟨rfl, e158, e258⟩
        obtain rfl := e158.symm
        obtain rfl := e258.symm
        refine x_cSi (pc2 := 64) hC hK (m_place l) lk_727 rfl ⟨Nat.le_of_ble_eq_true rfl, Nat.le_of_ble_eq_true rfl⟩ ⟨Nat.le_refl _, Nat.le_refl _⟩ rfl (Nat.le_of_ble_eq_true rfl) dX7_worst_61 rfl ?_
        rintro z61 F61 A61 ⟨rfl, e161, e261⟩
        obtain rfl := e161.symm
        obtain rfl := e261.symm
        refine x_cVi (pc2 := 67) (ci := 2) hC hK (p_cmp l hP hR1 hE.1 (show isT ((k : Int) + 1) by omega) he4 hE.1 (show isT n0 by omega) he4) lk_786 rfl rfl (by decide) (by assumption) (by assumption) ⟨Nat.le_of_ble_eq_true rfl, Nat.le_of_ble_eq_true rfl⟩ ⟨Nat.le_refl _, Nat.le_refl _⟩ rfl (Nat.le_of_ble_eq_true rfl) dX7_worst_64 rfl ?_
        rintro z64 F64 A64 ⟨e64, hR64⟩
        have zb64 : -1 ≤ z64 ∧ z64 ≤ 1 := by rw [e64]; exact sgc_I
        refine x_if_le (tgt := 74) (pc2 := 70) hC (by omega) dX7_worst_67 rfl rfl (fun h_67 => ?_) (fun h_67 => ?_)
        · refine x_iinc (pc2 := 77) (loc2 := [_, _, _, _, _, _, _]) hC (by decide) rfl rfl dX7_worst_74 rfl ?_
          refine x_goto (pc2 := 21) hC dX7_worst_77 rfl ?_
          refine ih (k + 1) n0 F64 A64 (by omega) (by omega) hE he4 ?_ hR64
          rw [wst, if_neg (by rw [← hn]; show ¬ (0 < cmpS (nm S b ((k : Int) + 1) (2 * i + j)) (nm S b n0 (2 * i + j))); rw [← e64]; omega)]; exact hn
        · refine x_iload (pc2 := 72) hC rfl dX7_worst_70 rfl ?_
          refine x_istore (pc2 := 74) (loc2 := [_, _, _, _, _, _, _]) hC (by decide) rfl dX7_worst_72 rfl ?_
          refine x_iinc (pc2 := 77) (loc2 := [_, _, _, _, _, _, _]) hC (by decide) rfl rfl dX7_worst_74 rfl ?_
          refine x_goto (pc2 := 21) hC dX7_worst_77 rfl ?_
          refine ih (k + 1) _ F64 A64 (by omega) (by omega) hE he4 ?_ hR64
          rw [wst, if_pos (by rw [← hn]; show 0 < cmpS (nm S b ((k : Int) + 1) (2 * i + j)) (nm S b n0 (2 * i + j)); rw [← e64]; omega)]
  refine x_aload_n (pc2 := 1) hC rfl rfl dX7_worst_0 rfl ?_
  refine g_369 (pc2 := 4) hC hK (by assumption) (by assumption) (by assumption) dX7_worst_1 rfl ?_
  refine x_iload_n (pc2 := 5) hC rfl rfl dX7_worst_4 rfl ?_
  refine x_iload_n (pc2 := 6) hC rfl rfl dX7_worst_5 rfl ?_
  refine x_iload_n (pc2 := 7) hC rfl rfl dX7_worst_6 rfl ?_
  refine x_cVi (pc2 := 10) (ci := 5) hC hK (p_hasEntry l hP hR0 hb hi2 hj) lk_403 rfl rfl (by decide) (by assumption) (by assumption) ⟨Nat.le_of_ble_eq_true rfl, Nat.le_of_ble_eq_true rfl⟩ ⟨Nat.le_refl _, Nat.le_refl _⟩ rfl (Nat.le_of_ble_eq_true rfl) dX7_worst_7 rfl ?_
  rintro z7 F7 A7 ⟨w7, b7, e17, e27⟩
  obtain rfl := e17.symm
  obtain rfl := e27.symm
  refine x_if_ne (tgt := 15) (pc2 := 13) hC (by omega) dX7_worst_10 rfl rfl (fun h_10 => ?_) (fun h_10 => ?_)
  · have hE := (b7 ()).mp h_10
    have pt1 := (hi.2.1 b hE.1).1
    have he1 : isT (2 * i + j) := by have := hE.2; omega
    refine x_iconst (pc2 := 16) hC dX7_worst_15 rfl ?_
    refine x_istore (pc2 := 18) (loc2 := [_, _, _, _, _, _, _]) hC (by decide) rfl dX7_worst_16 rfl ?_
    refine x_iconst (pc2 := 19) hC dX7_worst_18 rfl ?_
    refine x_istore (pc2 := 21) (loc2 := [_, _, _, _, _, _, _]) hC (by decide) rfl dX7_worst_19 rfl ?_
    exact loop 4 0 0 F A (by omega) (by omega) hE he1 rfl hR0
  · refine x_iconst (pc2 := 14) hC dX7_worst_13 rfl ?_
    exact x_iret hC hr hlk ⟨_, rfl, by rw [oWorst, itC_neg (fun q => absurd h_10 ((b7 ()).mpr q))], hR0⟩ dX7_worst_14
theorem dX7_same_0 : decode cX7_same 0 = .ok (.aload_n 0, 1) := by decide +kernel
theorem dX7_same_1 : decode cX7_same 1 = .ok (.getfield 12, 3) := by decide +kernel
theorem dX7_same_4 : decode cX7_same 4 = .ok (.iload_n 1, 1) := by decide +kernel
theorem dX7_same_5 : decode cX7_same 5 = .ok (.invokevirtual 69, 3) := by decide +kernel
theorem dX7_same_8 : decode cX7_same 8 = .ok (.ifCond .eq 14, 3) := by decide +kernel
theorem dX7_same_11 : decode cX7_same 11 = .ok (.aload_n 0, 1) := by decide +kernel
theorem dX7_same_12 : decode cX7_same 12 = .ok (.getfield 12, 3) := by decide +kernel
theorem dX7_same_15 : decode cX7_same 15 = .ok (.iload_n 2, 1) := by decide +kernel
theorem dX7_same_16 : decode cX7_same 16 = .ok (.invokevirtual 69, 3) := by decide +kernel
theorem dX7_same_19 : decode cX7_same 19 = .ok (.ifCond .ne 5, 3) := by decide +kernel
theorem dX7_same_22 : decode cX7_same 22 = .ok (.iconst (-1), 1) := by decide +kernel
theorem dX7_same_23 : decode cX7_same 23 = .ok (.ireturn, 1) := by decide +kernel
theorem dX7_same_24 : decode cX7_same 24 = .ok (.aload_n 0, 1) := by decide +kernel
theorem dX7_same_25 : decode cX7_same 25 = .ok (.getfield 12, 3) := by decide +kernel
theorem dX7_same_28 : decode cX7_same 28 = .ok (.iload_n 1, 1) := by decide +kernel
theorem dX7_same_29 : decode cX7_same 29 = .ok (.invokevirtual 72, 3) := by decide +kernel
theorem dX7_same_32 : decode cX7_same 32 = .ok (.aload_n 0, 1) := by decide +kernel
theorem dX7_same_33 : decode cX7_same 33 = .ok (.getfield 12, 3) := by decide +kernel
theorem dX7_same_36 : decode cX7_same 36 = .ok (.iload_n 2, 1) := by decide +kernel
theorem dX7_same_37 : decode cX7_same 37 = .ok (.invokevirtual 72, 3) := by decide +kernel
theorem dX7_same_40 : decode cX7_same 40 = .ok (.if_icmp .eq 5, 3) := by decide +kernel
theorem dX7_same_43 : decode cX7_same 43 = .ok (.iconst 0, 1) := by decide +kernel
theorem dX7_same_44 : decode cX7_same 44 = .ok (.ireturn, 1) := by decide +kernel
theorem dX7_same_45 : decode cX7_same 45 = .ok (.aload_n 0, 1) := by decide +kernel
theorem dX7_same_46 : decode cX7_same 46 = .ok (.getfield 12, 3) := by decide +kernel
theorem dX7_same_49 : decode cX7_same 49 = .ok (.iload_n 1, 1) := by decide +kernel
theorem dX7_same_50 : decode cX7_same 50 = .ok (.iconst 0, 1) := by decide +kernel
theorem dX7_same_51 : decode cX7_same 51 = .ok (.iconst 0, 1) := by decide +kernel
theorem dX7_same_52 : decode cX7_same 52 = .ok (.invokestatic 121, 3) := by decide +kernel
theorem dX7_same_55 : decode cX7_same 55 = .ok (.iload_n 2, 1) := by decide +kernel
theorem dX7_same_56 : decode cX7_same 56 = .ok (.iconst 0, 1) := by decide +kernel
theorem dX7_same_57 : decode cX7_same 57 = .ok (.iconst 0, 1) := by decide +kernel
theorem dX7_same_58 : decode cX7_same 58 = .ok (.invokestatic 121, 3) := by decide +kernel
theorem dX7_same_61 : decode cX7_same 61 = .ok (.sipush 144, 3) := by decide +kernel
theorem dX7_same_64 : decode cX7_same 64 = .ok (.invokevirtual 141, 3) := by decide +kernel
theorem dX7_same_67 : decode cX7_same 67 = .ok (.ifCond .eq 7, 3) := by decide +kernel
theorem dX7_same_70 : decode cX7_same 70 = .ok (.iconst 1, 1) := by decide +kernel
theorem dX7_same_71 : decode cX7_same 71 = .ok (.goto 4, 3) := by decide +kernel
theorem dX7_same_74 : decode cX7_same 74 = .ok (.iconst 0, 1) := by decide +kernel
theorem dX7_same_75 : decode cX7_same 75 = .ok (.ireturn, 1) := by decide +kernel
set_option maxHeartbeats 4000000 in
theorem c_same (l : Launch) {D : va_G} {ids : Nat → ClassId} {β : Nat} {sh : Nat → Nat × Nat} {N : Nat} {R : Nat → Nat → Option Nat} {F : Nat → Nat → Int} {A : Nat → Int → Int} {S : SP} (hP : PbL sh R N) (hR0 : RepC sh R N S F A) {a b : Int} (ha : I32 a) (hb : I32 b) : MetX l yX7_same cX7_same 3 (some (.int)) 2 42 D ids β sh N R F A [rf 0, pI a, pI b] (pIr (fun z F2 A2 => z = oSame S a b ∧ RepC sh R N S F2 A2)) := by
  refine MetX.of (loc := [_, _, _]) (plainFor_of_name (by decide +kernel)) (Nat.le_of_ble_eq_true rfl) rfl ?_
  intro p e s m args below meth c hC hK hr hlk
  obtain ⟨hAc, hAg, hJu, ⟨z1, z2⟩, r00, r01, r02⟩ := id hP
  have hShL := hAc.1
  obtain ⟨⟨j1, j2⟩, ⟨s0, s1, s2, s3, s4⟩, ⟨j3, j4⟩, -⟩ := id hShL
  have hI := hR0.shI
  have hi := hR0.2.1
  have i1 := hi.1
  refine x_aload_n (pc2 := 1) hC rfl rfl dX7_same_0 rfl ?_
  refine g_369 (pc2 := 4) hC hK (by assumption) (by assumption) (by assumption) dX7_same_1 rfl ?_
  refine x_iload_n (pc2 := 5) hC rfl rfl dX7_same_4 rfl ?_
  refine x_cVi (pc2 := 8) (ci := 5) hC hK (p_hasBox l hP hR0 ha) lk_451 rfl rfl (by decide) (by assumption) (by assumption) ⟨Nat.le_of_ble_eq_true rfl, Nat.le_of_ble_eq_true rfl⟩ ⟨Nat.le_refl _, Nat.le_refl _⟩ rfl (Nat.le_of_ble_eq_true rfl) dX7_same_5 rfl ?_
  rintro z5 F5 A5 ⟨w5, b5, e15, e25⟩
  obtain rfl := e15.symm
  obtain rfl := e25.symm
  refine x_if_eq (tgt := 22) (pc2 := 11) hC (by omega) dX7_same_8 rfl rfl (fun h_8 => ?_) (fun h_8 => ?_)
  · refine x_iconst (pc2 := 23) hC dX7_same_22 rfl ?_
    exact x_iret hC hr hlk ⟨_, rfl, by rw [oSame, itC_neg (fun ⟨q1, q2⟩ => by first | exact absurd h_8 ((b5 ()).mpr q1) | exact absurd h_19 ((b16 ()).mpr q2))], hR0⟩ dX7_same_23
  · refine x_aload_n (pc2 := 12) hC rfl rfl dX7_same_11 rfl ?_
    refine g_369 (pc2 := 15) hC hK (by assumption) (by assumption) (by assumption) dX7_same_12 rfl ?_
    refine x_iload_n (pc2 := 16) hC rfl rfl dX7_same_15 rfl ?_
    refine x_cVi (pc2 := 19) (ci := 5) hC hK (p_hasBox l hP hR0 hb) lk_451 rfl rfl (by decide) (by assumption) (by assumption) ⟨Nat.le_of_ble_eq_true rfl, Nat.le_of_ble_eq_true rfl⟩ ⟨Nat.le_refl _, Nat.le_refl _⟩ rfl (Nat.le_of_ble_eq_true rfl) dX7_same_16 rfl ?_
    rintro z16 F16 A16 ⟨w16, b16, e116, e216⟩
    obtain rfl := e116.symm
    obtain rfl := e216.symm
    refine x_if_ne (tgt := 24) (pc2 := 22) hC (by omega) dX7_same_19 rfl rfl (fun h_19 => ?_) (fun h_19 => ?_)
    · have hB1 := (b5 ()).mp h_8
      have hB2 := (b16 ()).mp h_19
      have pt1 := (hi.2.1 a hB1).1
      have pt2 := (hi.2.1 b hB2).1
      have u1 := up16 hB1 hR0.nb
      have u2 := up16 hB2 hR0.nb
      refine x_aload_n (pc2 := 25) hC rfl rfl dX7_same_24 rfl ?_
      refine g_369 (pc2 := 28) hC hK (by assumption) (by assumption) (by assumption) dX7_same_25 rfl ?_
      refine x_iload_n (pc2 := 29) hC rfl rfl dX7_same_28 rfl ?_
      refine x_cVi (pc2 := 32) (ci := 5) hC hK (p_portsOf l hP hR0 ha hB1) lk_452 rfl rfl (by decide) (by assumption) (by assumption) ⟨Nat.le_of_ble_eq_true rfl, Nat.le_of_ble_eq_true rfl⟩ ⟨Nat.le_refl _, Nat.le_refl _⟩ rfl (Nat.le_of_ble_eq_true rfl) dX7_same_29 rfl ?_
      rintro z29 F29 A29 ⟨rfl, e129, e229⟩
      obtain rfl := e129.symm
      obtain rfl := e229.symm
      refine x_aload_n (pc2 := 33) hC rfl rfl dX7_same_32 rfl ?_
      refine g_369 (pc2 := 36) hC hK (by assumption) (by assumption) (by assumption) dX7_same_33 rfl ?_
      refine x_iload_n (pc2 := 37) hC rfl rfl dX7_same_36 rfl ?_
      refine x_cVi (pc2 := 40) (ci := 5) hC hK (p_portsOf l hP hR0 hb hB2) lk_452 rfl rfl (by decide) (by assumption) (by assumption) ⟨Nat.le_of_ble_eq_true rfl, Nat.le_of_ble_eq_true rfl⟩ ⟨Nat.le_refl _, Nat.le_refl _⟩ rfl (Nat.le_of_ble_eq_true rfl) dX7_same_37 rfl ?_
      rintro z37 F37 A37 ⟨rfl, e137, e237⟩
      obtain rfl := e137.symm
      obtain rfl := e237.symm
      refine x_icmp_eq (tgt := 45) (pc2 := 43) hC (by omega) (by omega) dX7_same_40 rfl rfl (fun h_40 => ?_) (fun h_40 => ?_)
      · refine x_aload_n (pc2 := 46) hC rfl rfl dX7_same_45 rfl ?_
        refine g_369 (pc2 := 49) hC hK (by assumption) (by assumption) (by assumption) dX7_same_46 rfl ?_
        refine x_iload_n (pc2 := 50) hC rfl rfl dX7_same_49 rfl ?_
        refine x_iconst (pc2 := 51) hC dX7_same_50 rfl ?_
        refine x_iconst (pc2 := 52) hC dX7_same_51 rfl ?_
        refine x_cSi (pc2 := 55) hC hK (m_place l) lk_727 rfl ⟨Nat.le_of_ble_eq_true rfl, Nat.le_of_ble_eq_true rfl⟩ ⟨Nat.le_refl _, Nat.le_refl _⟩ rfl (Nat.le_of_ble_eq_true rfl) dX7_same_52 rfl ?_
        rintro z52 F52 A52 ⟨rfl, e152, e252⟩
        obtain rfl := e152.symm
        obtain rfl := e252.symm
        refine x_iload_n (pc2 := 56) hC rfl rfl dX7_same_55 rfl ?_
        refine x_iconst (pc2 := 57) hC dX7_same_56 rfl ?_
        refine x_iconst (pc2 := 58) hC dX7_same_57 rfl ?_
        refine x_cSi (pc2 := 61) hC hK (m_place l) lk_727 rfl ⟨Nat.le_of_ble_eq_true rfl, Nat.le_of_ble_eq_true rfl⟩ ⟨Nat.le_refl _, Nat.le_refl _⟩ rfl (Nat.le_of_ble_eq_true rfl) dX7_same_58 rfl ?_
        rintro z58 F58 A58 ⟨rfl, e158, e258⟩
        obtain rfl := e158.symm
        obtain rfl := e258.symm
        refine x_sipush (pc2 := 64) hC rfl dX7_same_61 rfl ?_
        refine x_cVi (pc2 := 67) (ci := 5) hC hK (m_alike l hShL hI hR0.i32 ⟨by omega, by omega⟩ ⟨by omega, by omega⟩ (by decide)) lk_739 rfl rfl (by decide) (by assumption) (by assumption) ⟨Nat.le_of_ble_eq_true rfl, Nat.le_of_ble_eq_true rfl⟩ ⟨Nat.le_refl _, Nat.le_refl _⟩ rfl (Nat.le_of_ble_eq_true rfl) dX7_same_64 rfl ?_
        rintro z64 F64 A64 ⟨q64, e164, e264⟩
        obtain rfl := e164.symm
        obtain rfl := e264.symm
        have zb64 : 0 ≤ z64 ∧ z64 ≤ 1 := by rcases q64 with ⟨x, -⟩ | ⟨x, -⟩ <;> omega
        have eqv : (∀ k : Int, 0 ≤ k → k < 144 → A 2 (a * 144 + 0 * 36 + 0 * 9 + k) = A 2 (b * 144 + 0 * 36 + 0 * 9 + k)) ↔ samB S a b := by
          constructor
          · intro h
            refine ⟨by omega, fun t e ht he => (hold_eq (hR0.2.2.2.1.1 a t e hB1 ht he) (hR0.2.2.2.1.1 b t e hB2 ht he)).mp (fun n n0 n9 => ?_)⟩
            have := h (t * 36 + e * 9 + n) (by omega) (by omega)
            rwa [show a * 144 + 0 * 36 + 0 * 9 + (t * 36 + e * 9 + n) = a * 144 + t * 36 + e * 9 + n by omega, show b * 144 + 0 * 36 + 0 * 9 + (t * 36 + e * 9 + n) = b * 144 + t * 36 + e * 9 + n by omega] at this
          · rintro ⟨-, h⟩ k k0 k1
            have := (hold_eq (hR0.2.2.2.1.1 a (k / 36) (k % 36 / 9) hB1 (by omega) (by omega)) (hR0.2.2.2.1.1 b (k / 36) (k % 36 / 9) hB2 (by omega) (by omega))).mpr (h (k / 36) (k % 36 / 9) (by omega) (by omega)) (k % 9) (by omega) (by omega)
            rwa [show a * 144 + k / 36 * 36 + k % 36 / 9 * 9 + k % 9 = a * 144 + 0 * 36 + 0 * 9 + k by omega, show b * 144 + k / 36 * 36 + k % 36 / 9 * 9 + k % 9 = b * 144 + 0 * 36 + 0 * 9 + k by omega] at this
        refine x_if_eq (tgt := 74) (pc2 := 70) hC (by omega) dX7_same_67 rfl rfl (fun h_67 => ?_) (fun h_67 => ?_)
        · refine x_iconst (pc2 := 75) hC dX7_same_74 rfl ?_
          exact x_iret hC hr hlk ⟨_, rfl, by rcases q64 with ⟨x, y⟩ | ⟨x, y⟩ <;> first | omega | rw [oSame, itC_pos ⟨hB1, hB2⟩, itC_pos (eqv.mp y)] | rw [oSame, itC_pos ⟨hB1, hB2⟩, itC_neg (fun q => y (eqv.mpr q))], hR0⟩ dX7_same_75
        · refine x_iconst (pc2 := 71) hC dX7_same_70 rfl ?_
          refine x_goto (pc2 := 75) hC dX7_same_71 rfl ?_
          exact x_iret hC hr hlk ⟨_, rfl, by rcases q64 with ⟨x, y⟩ | ⟨x, y⟩ <;> first | omega | rw [oSame, itC_pos ⟨hB1, hB2⟩, itC_pos (eqv.mp y)] | rw [oSame, itC_pos ⟨hB1, hB2⟩, itC_neg (fun q => y (eqv.mpr q))], hR0⟩ dX7_same_75
      · refine x_iconst (pc2 := 44) hC dX7_same_43 rfl ?_
        exact x_iret hC hr hlk ⟨_, rfl, by rw [oSame, itC_pos ⟨hB1, hB2⟩, itC_neg (fun q => by have := q.1; omega)], hR0⟩ dX7_same_44
    · refine x_iconst (pc2 := 23) hC dX7_same_22 rfl ?_
      exact x_iret hC hr hlk ⟨_, rfl, by rw [oSame, itC_neg (fun ⟨q1, q2⟩ => by first | exact absurd h_8 ((b5 ()).mpr q1) | exact absurd h_19 ((b16 ()).mpr q2))], hR0⟩ dX7_same_23
