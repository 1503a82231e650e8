theorem dX7_join_0 : decode cX7_join 0 = .ok (.aload_n 0, 1) := by decide +kernel
theorem dX7_join_1 : decode cX7_join 1 = .ok (.getfield 12, 3) := by decide +kernel
theorem dX7_join_4 : decode cX7_join 4 = .ok (.iload_n 1, 1) := by decide +kernel
theorem dX7_join_5 : decode cX7_join 5 = .ok (.iconst 2, 1) := by decide +kernel
theorem dX7_join_6 : decode cX7_join 6 = .ok (.invokevirtual 75, 3) := by decide +kernel
theorem dX7_join_9 : decode cX7_join 9 = .ok (.ifCond .eq 27, 3) := by decide +kernel
theorem dX7_join_12 : decode cX7_join 12 = .ok (.aload_n 0, 1) := by decide +kernel
theorem dX7_join_13 : decode cX7_join 13 = .ok (.getfield 12, 3) := by decide +kernel
theorem dX7_join_16 : decode cX7_join 16 = .ok (.iload_n 2, 1) := by decide +kernel
theorem dX7_join_17 : decode cX7_join 17 = .ok (.iconst 2, 1) := by decide +kernel
theorem dX7_join_18 : decode cX7_join 18 = .ok (.invokevirtual 75, 3) := by decide +kernel
theorem dX7_join_21 : decode cX7_join 21 = .ok (.ifCond .eq 15, 3) := by decide +kernel
theorem dX7_join_24 : decode cX7_join 24 = .ok (.aload_n 0, 1) := by decide +kernel
theorem dX7_join_25 : decode cX7_join 25 = .ok (.getfield 12, 3) := by decide +kernel
theorem dX7_join_28 : decode cX7_join 28 = .ok (.iload_n 3, 1) := by decide +kernel
theorem dX7_join_29 : decode cX7_join 29 = .ok (.iconst 2, 1) := by decide +kernel
theorem dX7_join_30 : decode cX7_join 30 = .ok (.invokevirtual 75, 3) := by decide +kernel
theorem dX7_join_33 : decode cX7_join 33 = .ok (.ifCond .ne 5, 3) := by decide +kernel
theorem dX7_join_36 : decode cX7_join 36 = .ok (.iconst (-1), 1) := by decide +kernel
theorem dX7_join_37 : decode cX7_join 37 = .ok (.ireturn, 1) := by decide +kernel
theorem dX7_join_38 : decode cX7_join 38 = .ok (.aload_n 0, 1) := by decide +kernel
theorem dX7_join_39 : decode cX7_join 39 = .ok (.getfield 21, 3) := by decide +kernel
theorem dX7_join_42 : decode cX7_join 42 = .ok (.iload_n 1, 1) := by decide +kernel
theorem dX7_join_43 : decode cX7_join 43 = .ok (.invokevirtual 79, 3) := by decide +kernel
theorem dX7_join_46 : decode cX7_join 46 = .ok (.iconst 0, 1) := by decide +kernel
theorem dX7_join_47 : decode cX7_join 47 = .ok (.istore 4, 2) := by decide +kernel
theorem dX7_join_49 : decode cX7_join 49 = .ok (.iload 4, 2) := by decide +kernel
theorem dX7_join_51 : decode cX7_join 51 = .ok (.iconst 4, 1) := by decide +kernel
theorem dX7_join_52 : decode cX7_join 52 = .ok (.if_icmp .ge 36, 3) := by decide +kernel
theorem dX7_join_55 : decode cX7_join 55 = .ok (.aload_n 0, 1) := by decide +kernel
theorem dX7_join_56 : decode cX7_join 56 = .ok (.getfield 21, 3) := by decide +kernel
theorem dX7_join_59 : decode cX7_join 59 = .ok (.iload 4, 2) := by decide +kernel
theorem dX7_join_61 : decode cX7_join 61 = .ok (.iload_n 2, 1) := by decide +kernel
theorem dX7_join_62 : decode cX7_join 62 = .ok (.iload_n 3, 1) := by decide +kernel
theorem dX7_join_63 : decode cX7_join 63 = .ok (.invokevirtual 82, 3) := by decide +kernel
theorem dX7_join_66 : decode cX7_join 66 = .ok (.istore 5, 2) := by decide +kernel
theorem dX7_join_68 : decode cX7_join 68 = .ok (.iload 5, 2) := by decide +kernel
theorem dX7_join_70 : decode cX7_join 70 = .ok (.ifCond .eq 12, 3) := by decide +kernel
theorem dX7_join_73 : decode cX7_join 73 = .ok (.aload_n 0, 1) := by decide +kernel
theorem dX7_join_74 : decode cX7_join 74 = .ok (.iload 4, 2) := by decide +kernel
theorem dX7_join_76 : decode cX7_join 76 = .ok (.iload 5, 2) := by decide +kernel
theorem dX7_join_78 : decode cX7_join 78 = .ok (.invokevirtual 86, 3) := by decide +kernel
theorem dX7_join_81 : decode cX7_join 81 = .ok (.ireturn, 1) := by decide +kernel
theorem dX7_join_82 : decode cX7_join 82 = .ok (.iinc 4 1, 3) := by decide +kernel
theorem dX7_join_85 : decode cX7_join 85 = .ok (.goto (-36), 3) := by decide +kernel
theorem dX7_join_88 : decode cX7_join 88 = .ok (.aload_n 0, 1) := by decide +kernel
theorem dX7_join_89 : decode cX7_join 89 = .ok (.iload_n 1, 1) := by decide +kernel
theorem dX7_join_90 : decode cX7_join 90 = .ok (.invokevirtual 89, 3) := by decide +kernel
theorem dX7_join_93 : decode cX7_join 93 = .ok (.ireturn, 1) := by decide +kernel
set_option maxHeartbeats 8000000 in
theorem c_join (l : Launch) {D : va_G} {ids : Nat → ClassId} {β : Nat} {sh : Nat → Nat × Nat} {N : Nat} {R : Nat → Nat → Option Nat} {F : Nat → Nat → Int} {A : Nat → Int → Int} {S : SP} (hP : PbL sh R N) (hR0 : RepC sh R N S F A) {c0 a b : Int} (hc : I32 c0) (ha : I32 a) (hb : I32 b) : MetX l yX7_join cX7_join 6 (some (.int)) 7 188 D ids β sh N R F A [rf 0, pI c0, pI a, pI b] (pIr (fun z F2 A2 => ∃ S2, rJoin S c0 a b z S2 ∧ RepC sh R N S2 F2 A2)) := by
  refine MetX.of (loc := [_, _, _, _, _, _]) (plainFor_of_name (by decide +kernel)) (Nat.le_of_ble_eq_true rfl) rfl ?_
  intro p e s m args below meth c hC hK hr hlk
  obtain ⟨hAc, hAg, hJu, ⟨z1, z2⟩, r00, r01, r02⟩ := id hP
  have hShL := hAc.1
  obtain ⟨⟨j1, j2⟩, ⟨rs0, rs1, rs2, rs3, rs4⟩, ⟨j3, j4⟩, -⟩ := id hShL
  have hI := hR0.shI
  have hi := hR0.2.1
  have i1 := hi.1
  obtain ⟨q71, q72⟩ := hAc.2.2.1
  have loop : ∀ (d : Nat) (k : Int) (F1 : Nat → Nat → Int) (A1 : Nat → Int → Int) {eZ : Option PV}, 4 - k < d → 0 ≤ k → k ≤ 4 → (hasB S c0 2 ∧ hasB S a 2 ∧ hasB S b 2) → RepC sh R N S F1 A1 → DrK S c0 (fun t e => joinX (nmN S a t) (nmN S b t) e) (A1 3) (F1 15 7) k → (∀ s, 0 ≤ s → s < k → (fun t => itC ((joinE (nmN S a t) (nmN S b t)).1 = (0, 0)) 1 0) s = 0) → X p l e { frames := 7, cells := 0, slots := 0, locals := 188 } s m args below meth c (MQ below (QX D ids β sh N R (pIr (fun z F2 A2 => ∃ S2, rJoin S c0 a b z S2 ∧ RepC sh R N S2 F2 A2))) args s 0 0 (inG β N)) (inG β N) D ids β sh 6 0 0 N R F1 A1 [some (rf 0), some (pI c0), some (pI a), some (pI b), some (pI k), eZ] [] 49 := by
    intro d
    induction d with
    | zero => intro k F1 A1 eZ hd; omega
    | succ d ih =>
      intro k F1 A1 eZ hd k0 k4 hok hR1 hD hdv
      obtain ⟨oA, oB, oC⟩ := id hok
      refine x_iload (pc2 := 51) hC rfl dX7_join_49 rfl ?_
      refine x_iconst (pc2 := 52) hC dX7_join_51 rfl ?_
      refine x_icmp_ge (tgt := 88) (pc2 := 55) hC (by omega) (by omega) dX7_join_52 rfl rfl (fun h_52 => ?_) (fun h_52 => ?_)
      · obtain rfl : k = 4 := by omega
        refine x_aload_n (pc2 := 89) hC rfl rfl dX7_join_88 rfl ?_
        refine x_iload_n (pc2 := 90) hC rfl rfl dX7_join_89 rfl ?_
        refine x_cVi (pc2 := 93) (ci := 7) hC hK (m_finish l hP hR1 oA.1 (bx := (fun t e => joinX (nmN S a t) (nmN S b t) e)) hD (fun p => absurd (oA.2.symm.trans p) (by decide))) lk_634 rfl rfl (by decide) (by assumption) (by assumption) ⟨Nat.le_of_ble_eq_true rfl, Nat.le_of_ble_eq_true rfl⟩ ⟨Nat.le_refl _, Nat.le_refl _⟩ rfl (Nat.le_of_ble_eq_true rfl) dX7_join_90 rfl ?_
        rintro z90 F90 A90 ⟨S2, f1, f2⟩
        exact x_iret hC hr hlk ⟨_, rfl, S2, Or.inr ⟨hok, Or.inr ⟨fun t ht => hdv t ht.1 ht.2, f1⟩⟩, f2⟩ dX7_join_93
      · have hk : isT k := by omega
        refine x_aload_n (pc2 := 56) hC rfl rfl dX7_join_55 rfl ?_
        refine g_370 (pc2 := 59) hC hK (by assumption) (by assumption) (by assumption) dX7_join_56 rfl ?_
        refine x_iload (pc2 := 61) hC rfl dX7_join_59 rfl ?_
        refine x_iload_n (pc2 := 62) hC rfl rfl dX7_join_61 rfl ?_
        refine x_iload_n (pc2 := 63) hC rfl rfl dX7_join_62 rfl ?_
        refine x_cVi (pc2 := 66) (ci := 0) hC hK (t_joined l hP hR1 hk oA.2 oB.1 oC.1) lk_469 rfl rfl (by decide) (by assumption) (by assumption) ⟨Nat.le_of_ble_eq_true rfl, Nat.le_of_ble_eq_true rfl⟩ ⟨Nat.le_refl _, Nat.le_refl _⟩ rfl (Nat.le_of_ble_eq_true rfl) dX7_join_63 rfl ?_
        rintro z63 F63 A63 ⟨w63, t63⟩
        refine x_istore (pc2 := 68) (loc2 := [_, _, _, _, _, _]) hC (by decide) rfl dX7_join_66 rfl ?_
        refine x_iload (pc2 := 70) hC rfl dX7_join_68 rfl ?_
        refine x_if_eq (tgt := 82) (pc2 := 73) hC (by omega) dX7_join_70 rfl rfl (fun h_70 => ?_) (fun h_70 => ?_)
        · obtain ⟨-, td, L, l1, l2, l3, tE⟩ := (t63 ()).resolve_left (fun q => q.1 h_70)
          have hR63 := hR1.fra hP tE.re tE.fr.1
          refine x_iinc (pc2 := 85) (loc2 := [_, _, _, _, _, _]) hC (by decide) rfl rfl dX7_join_82 rfl ?_
          refine x_goto (pc2 := 49) hC dX7_join_85 rfl ?_
          refine ih (k + 1) F63 A63 (by omega) (by omega) (by omega) hok hR63 (hD.step hk l1 l2 l3 tE.fr.2.1) (fun s sa sb => ?_)
          by_cases q : s = k
          · rw [q]; exact td
          · exact hdv s sa (by omega)
        · obtain ⟨-, td, tE⟩ := (t63 ()).resolve_right (fun q => h_70 q.1)
          have hR63 := hR1.fra hP tE.re tE.fr.1
          refine x_aload_n (pc2 := 74) hC rfl rfl dX7_join_73 rfl ?_
          refine x_iload (pc2 := 76) hC rfl dX7_join_74 rfl ?_
          refine x_iload (pc2 := 78) hC rfl dX7_join_76 rfl ?_
          refine x_cVi (pc2 := 81) (ci := 7) hC hK (m_refuse l hP hR63) lk_630 rfl rfl (by decide) (by assumption) (by assumption) ⟨Nat.le_of_ble_eq_true rfl, Nat.le_of_ble_eq_true rfl⟩ ⟨Nat.le_refl _, Nat.le_refl _⟩ rfl (Nat.le_of_ble_eq_true rfl) dX7_join_78 rfl ?_
          rintro z78 F78 A78 ⟨ez, hR78⟩
          exact x_iret hC hr hlk ⟨_, rfl, noS S k z63, Or.inr ⟨hok, Or.inl ⟨k, hk, hdv, fun q => h_70 (td.trans q), ez, congrArg (noS S k) td⟩⟩, hR78⟩ dX7_join_81
  refine x_aload_n (pc2 := 1) hC rfl rfl dX7_join_0 rfl ?_
  refine g_369 (pc2 := 4) hC hK (by assumption) (by assumption) (by assumption) dX7_join_1 rfl ?_
  refine x_iload_n (pc2 := 5) hC rfl rfl dX7_join_4 rfl ?_
  refine x_iconst (pc2 := 6) hC dX7_join_5 rfl ?_
  refine x_cVi (pc2 := 9) (ci := 5) hC hK (p_hasBoxWith l hP hR0 hc (by decide)) lk_460 rfl rfl (by decide) (by assumption) (by assumption) ⟨Nat.le_of_ble_eq_true rfl, Nat.le_of_ble_eq_true rfl⟩ ⟨Nat.le_refl _, Nat.le_refl _⟩ rfl (Nat.le_of_ble_eq_true rfl) dX7_join_6 rfl ?_
  rintro z6 F6 A6 ⟨w6, b6, e16, e26⟩
  obtain rfl := e16.symm
  obtain rfl := e26.symm
  refine x_if_eq (tgt := 36) (pc2 := 12) hC (by omega) dX7_join_9 rfl rfl (fun h_9 => ?_) (fun h_9 => ?_)
  · refine x_iconst (pc2 := 37) hC dX7_join_36 rfl ?_
    exact x_iret hC hr hlk ⟨_, rfl, S, Or.inl ⟨fun ⟨q1, q2, q3⟩ => by first | exact absurd h_9 ((b6 ()).mpr q1) | exact absurd h_21 ((b18 ()).mpr q2) | exact absurd h_33 ((b30 ()).mpr q3), rfl, rfl⟩, hR0⟩ dX7_join_37
  · refine x_aload_n (pc2 := 13) hC rfl rfl dX7_join_12 rfl ?_
    refine g_369 (pc2 := 16) hC hK (by assumption) (by assumption) (by assumption) dX7_join_13 rfl ?_
    refine x_iload_n (pc2 := 17) hC rfl rfl dX7_join_16 rfl ?_
    refine x_iconst (pc2 := 18) hC dX7_join_17 rfl ?_
    refine x_cVi (pc2 := 21) (ci := 5) hC hK (p_hasBoxWith l hP hR0 ha (by decide)) lk_460 rfl rfl (by decide) (by assumption) (by assumption) ⟨Nat.le_of_ble_eq_true rfl, Nat.le_of_ble_eq_true rfl⟩ ⟨Nat.le_refl _, Nat.le_refl _⟩ rfl (Nat.le_of_ble_eq_true rfl) dX7_join_18 rfl ?_
    rintro z18 F18 A18 ⟨w18, b18, e118, e218⟩
    obtain rfl := e118.symm
    obtain rfl := e218.symm
    refine x_if_eq (tgt := 36) (pc2 := 24) hC (by omega) dX7_join_21 rfl rfl (fun h_21 => ?_) (fun h_21 => ?_)
    · refine x_iconst (pc2 := 37) hC dX7_join_36 rfl ?_
      exact x_iret hC hr hlk ⟨_, rfl, S, Or.inl ⟨fun ⟨q1, q2, q3⟩ => by first | exact absurd h_9 ((b6 ()).mpr q1) | exact absurd h_21 ((b18 ()).mpr q2) | exact absurd h_33 ((b30 ()).mpr q3), rfl, rfl⟩, hR0⟩ dX7_join_37
    · refine x_aload_n (pc2 := 25) hC rfl rfl dX7_join_24 rfl ?_
      refine g_369 (pc2 := 28) hC hK (by assumption) (by assumption) (by assumption) dX7_join_25 rfl ?_
      refine x_iload_n (pc2 := 29) hC rfl rfl dX7_join_28 rfl ?_
      refine x_iconst (pc2 := 30) hC dX7_join_29 rfl ?_
      refine x_cVi (pc2 := 33) (ci := 5) hC hK (p_hasBoxWith l hP hR0 hb (by decide)) lk_460 rfl rfl (by decide) (by assumption) (by assumption) ⟨Nat.le_of_ble_eq_true rfl, Nat.le_of_ble_eq_true rfl⟩ ⟨Nat.le_refl _, Nat.le_refl _⟩ rfl (Nat.le_of_ble_eq_true rfl) dX7_join_30 rfl ?_
      rintro z30 F30 A30 ⟨w30, b30, e130, e230⟩
      obtain rfl := e130.symm
      obtain rfl := e230.symm
      refine x_if_ne (tgt := 38) (pc2 := 36) hC (by omega) dX7_join_33 rfl rfl (fun h_33 => ?_) (fun h_33 => ?_)
      · have hok := And.intro ((b6 ()).mp h_9) (And.intro ((b18 ()).mp h_21) ((b30 ()).mp h_33))
        obtain ⟨oA, oB, oC⟩ := id hok
        refine x_aload_n (pc2 := 39) hC rfl rfl dX7_join_38 rfl ?_
        refine g_370 (pc2 := 42) hC hK (by assumption) (by assumption) (by assumption) dX7_join_39 rfl ?_
        refine x_iload_n (pc2 := 43) hC rfl rfl dX7_join_42 rfl ?_
        refine x_cVv (pc2 := 46) (ci := 0) hC hK (p_start l hP hR0 oA.1) lk_464 rfl rfl (by decide) (by assumption) (by assumption) ⟨Nat.le_of_ble_eq_true rfl, Nat.le_of_ble_eq_true rfl⟩ ⟨Nat.le_refl _, Nat.le_refl _⟩ rfl (Nat.le_of_ble_eq_true rfl) dX7_join_43 rfl ?_
        rintro F43 A43 ⟨hR43, hD43⟩
        refine x_iconst (pc2 := 47) hC dX7_join_46 rfl ?_
        refine x_istore (pc2 := 49) (loc2 := [_, _, _, _, _, _]) hC (by decide) rfl dX7_join_47 rfl ?_
        exact loop 5 0 F43 A43 (by omega) (by omega) (by omega) hok hR43 (hD43 _) (fun s sa sb => by omega)
      · refine x_iconst (pc2 := 37) hC dX7_join_36 rfl ?_
        exact x_iret hC hr hlk ⟨_, rfl, S, Or.inl ⟨fun ⟨q1, q2, q3⟩ => by first | exact absurd h_9 ((b6 ()).mpr q1) | exact absurd h_21 ((b18 ()).mpr q2) | exact absurd h_33 ((b30 ()).mpr q3), rfl, rfl⟩, hR0⟩ dX7_join_37
theorem dX7_close_0 : decode cX7_close 0 = .ok (.aload_n 0, 1) := by decide +kernel
theorem dX7_close_1 : decode cX7_close 1 = .ok (.getfield 12, 3) := by decide +kernel
theorem dX7_close_4 : decode cX7_close 4 = .ok (.iload_n 1, 1) := by decide +kernel
theorem dX7_close_5 : decode cX7_close 5 = .ok (.iconst 1, 1) := by decide +kernel
theorem dX7_close_6 : decode cX7_close 6 = .ok (.invokevirtual 75, 3) := by decide +kernel
theorem dX7_close_9 : decode cX7_close 9 = .ok (.ifCond .eq 27, 3) := by decide +kernel
theorem dX7_close_12 : decode cX7_close 12 = .ok (.aload_n 0, 1) := by decide +kernel
theorem dX7_close_13 : decode cX7_close 13 = .ok (.getfield 12, 3) := by decide +kernel
theorem dX7_close_16 : decode cX7_close 16 = .ok (.iload_n 2, 1) := by decide +kernel
theorem dX7_close_17 : decode cX7_close 17 = .ok (.iconst 2, 1) := by decide +kernel
theorem dX7_close_18 : decode cX7_close 18 = .ok (.invokevirtual 75, 3) := by decide +kernel
theorem dX7_close_21 : decode cX7_close 21 = .ok (.ifCond .eq 15, 3) := by decide +kernel
theorem dX7_close_24 : decode cX7_close 24 = .ok (.aload_n 0, 1) := by decide +kernel
theorem dX7_close_25 : decode cX7_close 25 = .ok (.getfield 12, 3) := by decide +kernel
theorem dX7_close_28 : decode cX7_close 28 = .ok (.iload_n 3, 1) := by decide +kernel
theorem dX7_close_29 : decode cX7_close 29 = .ok (.iconst 1, 1) := by decide +kernel
theorem dX7_close_30 : decode cX7_close 30 = .ok (.invokevirtual 75, 3) := by decide +kernel
theorem dX7_close_33 : decode cX7_close 33 = .ok (.ifCond .ne 5, 3) := by decide +kernel
theorem dX7_close_36 : decode cX7_close 36 = .ok (.iconst (-1), 1) := by decide +kernel
theorem dX7_close_37 : decode cX7_close 37 = .ok (.ireturn, 1) := by decide +kernel
theorem dX7_close_38 : decode cX7_close 38 = .ok (.aload_n 0, 1) := by decide +kernel
theorem dX7_close_39 : decode cX7_close 39 = .ok (.getfield 21, 3) := by decide +kernel
theorem dX7_close_42 : decode cX7_close 42 = .ok (.iload_n 1, 1) := by decide +kernel
theorem dX7_close_43 : decode cX7_close 43 = .ok (.invokevirtual 79, 3) := by decide +kernel
theorem dX7_close_46 : decode cX7_close 46 = .ok (.iconst 0, 1) := by decide +kernel
theorem dX7_close_47 : decode cX7_close 47 = .ok (.istore 4, 2) := by decide +kernel
theorem dX7_close_49 : decode cX7_close 49 = .ok (.iload 4, 2) := by decide +kernel
theorem dX7_close_51 : decode cX7_close 51 = .ok (.iconst 4, 1) := by decide +kernel
theorem dX7_close_52 : decode cX7_close 52 = .ok (.if_icmp .ge 36, 3) := by decide +kernel
theorem dX7_close_55 : decode cX7_close 55 = .ok (.aload_n 0, 1) := by decide +kernel
theorem dX7_close_56 : decode cX7_close 56 = .ok (.getfield 21, 3) := by decide +kernel
theorem dX7_close_59 : decode cX7_close 59 = .ok (.iload 4, 2) := by decide +kernel
theorem dX7_close_61 : decode cX7_close 61 = .ok (.iload_n 2, 1) := by decide +kernel
theorem dX7_close_62 : decode cX7_close 62 = .ok (.iload_n 3, 1) := by decide +kernel
theorem dX7_close_63 : decode cX7_close 63 = .ok (.invokevirtual 99, 3) := by decide +kernel
theorem dX7_close_66 : decode cX7_close 66 = .ok (.istore 5, 2) := by decide +kernel
theorem dX7_close_68 : decode cX7_close 68 = .ok (.iload 5, 2) := by decide +kernel
theorem dX7_close_70 : decode cX7_close 70 = .ok (.ifCond .eq 12, 3) := by decide +kernel
theorem dX7_close_73 : decode cX7_close 73 = .ok (.aload_n 0, 1) := by decide +kernel
theorem dX7_close_74 : decode cX7_close 74 = .ok (.iload 4, 2) := by decide +kernel
theorem dX7_close_76 : decode cX7_close 76 = .ok (.iload 5, 2) := by decide +kernel
theorem dX7_close_78 : decode cX7_close 78 = .ok (.invokevirtual 86, 3) := by decide +kernel
theorem dX7_close_81 : decode cX7_close 81 = .ok (.ireturn, 1) := by decide +kernel
theorem dX7_close_82 : decode cX7_close 82 = .ok (.iinc 4 1, 3) := by decide +kernel
theorem dX7_close_85 : decode cX7_close 85 = .ok (.goto (-36), 3) := by decide +kernel
theorem dX7_close_88 : decode cX7_close 88 = .ok (.aload_n 0, 1) := by decide +kernel
theorem dX7_close_89 : decode cX7_close 89 = .ok (.iload_n 1, 1) := by decide +kernel
theorem dX7_close_90 : decode cX7_close 90 = .ok (.invokevirtual 89, 3) := by decide +kernel
theorem dX7_close_93 : decode cX7_close 93 = .ok (.ireturn, 1) := by decide +kernel
set_option maxHeartbeats 8000000 in
theorem c_close (l : Launch) {D : va_G} {ids : Nat → ClassId} {β : Nat} {sh : Nat → Nat × Nat} {N : Nat} {R : Nat → Nat → Option Nat} {F : Nat → Nat → Int} {A : Nat → Int → Int} {S : SP} (hP : PbL sh R N) (hR0 : RepC sh R N S F A) {c0 a b : Int} (hc : I32 c0) (ha : I32 a) (hb : I32 b) : MetX l yX7_close cX7_close 6 (some (.int)) 7 188 D ids β sh N R F A [rf 0, pI c0, pI a, pI b] (pIr (fun z F2 A2 => ∃ S2, rClose S c0 a b z S2 ∧ RepC sh R N S2 F2 A2)) := by
  refine MetX.of (loc := [_, _, _, _, _, _]) (plainFor_of_name (by decide +kernel)) (Nat.le_of_ble_eq_true rfl) rfl ?_
  intro p e s m args below meth c hC hK hr hlk
  obtain ⟨hAc, hAg, hJu, ⟨z1, z2⟩, r00, r01, r02⟩ := id hP
  have hShL := hAc.1
  obtain ⟨⟨j1, j2⟩, ⟨rs0, rs1, rs2, rs3, rs4⟩, ⟨j3, j4⟩, -⟩ := id hShL
  have hI := hR0.shI
  have hi := hR0.2.1
  have i1 := hi.1
  obtain ⟨q71, q72⟩ := hAc.2.2.1
  have loop : ∀ (d : Nat) (k : Int) (F1 : Nat → Nat → Int) (A1 : Nat → Int → Int) {eZ : Option PV}, 4 - k < d → 0 ≤ k → k ≤ 4 → (hasB S c0 1 ∧ hasB S a 2 ∧ hasB S b 1) → RepC sh R N S F1 A1 → DrK S c0 (fun t e => closeX (nmN S a t) (nm S b t 0) e) (A1 3) (F1 15 7) k → (∀ s, 0 ≤ s → s < k → (fun t => itC ((closeE (nmN S a t) (nm S b t 0)).1 = (0, 0)) 1 0) s = 0) → X p l e { frames := 7, cells := 0, slots := 0, locals := 188 } s m args below meth c (MQ below (QX D ids β sh N R (pIr (fun z F2 A2 => ∃ S2, rClose S c0 a b z S2 ∧ RepC sh R N S2 F2 A2))) args s 0 0 (inG β N)) (inG β N) D ids β sh 6 0 0 N R F1 A1 [some (rf 0), some (pI c0), some (pI a), some (pI b), some (pI k), eZ] [] 49 := by
    intro d
    induction d with
    | zero => intro k F1 A1 eZ hd; omega
    | succ d ih =>
      intro k F1 A1 eZ hd k0 k4 hok hR1 hD hdv
      obtain ⟨oA, oB, oC⟩ := id hok
      refine x_iload (pc2 := 51) hC rfl dX7_close_49 rfl ?_
      refine x_iconst (pc2 := 52) hC dX7_close_51 rfl ?_
      refine x_icmp_ge (tgt := 88) (pc2 := 55) hC (by omega) (by omega) dX7_close_52 rfl rfl (fun h_52 => ?_) (fun h_52 => ?_)
      · obtain rfl : k = 4 := by omega
        refine x_aload_n (pc2 := 89) hC rfl rfl dX7_close_88 rfl ?_
        refine x_iload_n (pc2 := 90) hC rfl rfl dX7_close_89 rfl ?_
        refine x_cVi (pc2 := 93) (ci := 7) hC hK (m_finish l hP hR1 oA.1 (bx := (fun t e => closeX (nmN S a t) (nm S b t 0) e)) hD (fun _ t e _ _ he => if_neg he)) lk_634 rfl rfl (by decide) (by assumption) (by assumption) ⟨Nat.le_of_ble_eq_true rfl, Nat.le_of_ble_eq_true rfl⟩ ⟨Nat.le_refl _, Nat.le_refl _⟩ rfl (Nat.le_of_ble_eq_true rfl) dX7_close_90 rfl ?_
        rintro z90 F90 A90 ⟨S2, f1, f2⟩
        exact x_iret hC hr hlk ⟨_, rfl, S2, Or.inr ⟨hok, Or.inr ⟨fun t ht => hdv t ht.1 ht.2, f1⟩⟩, f2⟩ dX7_close_93
      · have hk : isT k := by omega
        refine x_aload_n (pc2 := 56) hC rfl rfl dX7_close_55 rfl ?_
        refine g_370 (pc2 := 59) hC hK (by assumption) (by assumption) (by assumption) dX7_close_56 rfl ?_
        refine x_iload (pc2 := 61) hC rfl dX7_close_59 rfl ?_
        refine x_iload_n (pc2 := 62) hC rfl rfl dX7_close_61 rfl ?_
        refine x_iload_n (pc2 := 63) hC rfl rfl dX7_close_62 rfl ?_
        refine x_cVi (pc2 := 66) (ci := 0) hC hK (t_closed l hP hR1 hk oA.2 oB.1 oC.1) lk_662 rfl rfl (by decide) (by assumption) (by assumption) ⟨Nat.le_of_ble_eq_true rfl, Nat.le_of_ble_eq_true rfl⟩ ⟨Nat.le_refl _, Nat.le_refl _⟩ rfl (Nat.le_of_ble_eq_true rfl) dX7_close_63 rfl ?_
        rintro z63 F63 A63 ⟨w63, t63⟩
        refine x_istore (pc2 := 68) (loc2 := [_, _, _, _, _, _]) hC (by decide) rfl dX7_close_66 rfl ?_
        refine x_iload (pc2 := 70) hC rfl dX7_close_68 rfl ?_
        refine x_if_eq (tgt := 82) (pc2 := 73) hC (by omega) dX7_close_70 rfl rfl (fun h_70 => ?_) (fun h_70 => ?_)
        · obtain ⟨-, td, L, l1, l2, l3, tE⟩ := (t63 ()).resolve_left (fun q => q.1 h_70)
          have hR63 := hR1.fra hP tE.re tE.fr.1
          refine x_iinc (pc2 := 85) (loc2 := [_, _, _, _, _, _]) hC (by decide) rfl rfl dX7_close_82 rfl ?_
          refine x_goto (pc2 := 49) hC dX7_close_85 rfl ?_
          refine ih (k + 1) F63 A63 (by omega) (by omega) (by omega) hok hR63 (hD.step hk l1 l2 l3 tE.fr.2.1) (fun s sa sb => ?_)
          by_cases q : s = k
          · rw [q]; exact td
          · exact hdv s sa (by omega)
        · obtain ⟨-, td, tE⟩ := (t63 ()).resolve_right (fun q => h_70 q.1)
          have hR63 := hR1.fra hP tE.re tE.fr.1
          refine x_aload_n (pc2 := 74) hC rfl rfl dX7_close_73 rfl ?_
          refine x_iload (pc2 := 76) hC rfl dX7_close_74 rfl ?_
          refine x_iload (pc2 := 78) hC rfl dX7_close_76 rfl ?_
          refine x_cVi (pc2 := 81) (ci := 7) hC hK (m_refuse l hP hR63) lk_630 rfl rfl (by decide) (by assumption) (by assumption) ⟨Nat.le_of_ble_eq_true rfl, Nat.le_of_ble_eq_true rfl⟩ ⟨Nat.le_refl _, Nat.le_refl _⟩ rfl (Nat.le_of_ble_eq_true rfl) dX7_close_78 rfl ?_
          rintro z78 F78 A78 ⟨ez, hR78⟩
          exact x_iret hC hr hlk ⟨_, rfl, noS S k z63, Or.inr ⟨hok, Or.inl ⟨k, hk, hdv, fun q => h_70 (td.trans q), ez, congrArg (noS S k) td⟩⟩, hR78⟩ dX7_close_81
  refine x_aload_n (pc2 := 1) hC rfl rfl dX7_close_0 rfl ?_
  refine g_369 (pc2 := 4) hC hK (by assumption) (by assumption) (by assumption) dX7_close_1 rfl ?_
  refine x_iload_n (pc2 := 5) hC rfl rfl dX7_close_4 rfl ?_
  refine x_iconst (pc2 := 6) hC dX7_close_5 rfl ?_
  refine x_cVi (pc2 := 9) (ci := 5) hC hK (p_hasBoxWith l hP hR0 hc (by decide)) lk_460 rfl rfl (by decide) (by assumption) (by assumption) ⟨Nat.le_of_ble_eq_true rfl, Nat.le_of_ble_eq_true rfl⟩ ⟨Nat.le_refl _, Nat.le_refl _⟩ rfl (Nat.le_of_ble_eq_true rfl) dX7_close_6 rfl ?_
  rintro z6 F6 A6 ⟨w6, b6, e16, e26⟩
  obtain rfl := e16.symm
  obtain rfl := e26.symm
  refine x_if_eq (tgt := 36) (pc2 := 12) hC (by omega) dX7_close_9 rfl rfl (fun h_9 => ?_) (fun h_9 => ?_)
  · refine x_iconst (pc2 := 37) hC dX7_close_36 rfl ?_
    exact x_iret hC hr hlk ⟨_, rfl, S, Or.inl ⟨fun ⟨q1, q2, q3⟩ => by first | exact absurd h_9 ((b6 ()).mpr q1) | exact absurd h_21 ((b18 ()).mpr q2) | exact absurd h_33 ((b30 ()).mpr q3), rfl, rfl⟩, hR0⟩ dX7_close_37
  · refine x_aload_n (pc2 := 13) hC rfl rfl dX7_close_12 rfl ?_
    refine g_369 (pc2 := 16) hC hK (by assumption) (by assumption) (by assumption) dX7_close_13 rfl ?_
    refine x_iload_n (pc2 := 17) hC rfl rfl dX7_close_16 rfl ?_
    refine x_iconst (pc2 := 18) hC dX7_close_17 rfl ?_
    refine x_cVi (pc2 := 21) (ci := 5) hC hK (p_hasBoxWith l hP hR0 ha (by decide)) lk_460 rfl rfl (by decide) (by assumption) (by assumption) ⟨Nat.le_of_ble_eq_true rfl, Nat.le_of_ble_eq_true rfl⟩ ⟨Nat.le_refl _, Nat.le_refl _⟩ rfl (Nat.le_of_ble_eq_true rfl) dX7_close_18 rfl ?_
    rintro z18 F18 A18 ⟨w18, b18, e118, e218⟩
    obtain rfl := e118.symm
    obtain rfl := e218.symm
    refine x_if_eq (tgt := 36) (pc2 := 24) hC (by omega) dX7_close_21 rfl rfl (fun h_21 => ?_) (fun h_21 => ?_)
    · refine x_iconst (pc2 := 37) hC dX7_close_36 rfl ?_
      exact x_iret hC hr hlk ⟨_, rfl, S, Or.inl ⟨fun ⟨q1, q2, q3⟩ => by first | exact absurd h_9 ((b6 ()).mpr q1) | exact absurd h_21 ((b18 ()).mpr q2) | exact absurd h_33 ((b30 ()).mpr q3), rfl, rfl⟩, hR0⟩ dX7_close_37
    · refine x_aload_n (pc2 := 25) hC rfl rfl dX7_close_24 rfl ?_
      refine g_369 (pc2 := 28) hC hK (by assumption) (by assumption) (by assumption) dX7_close_25 rfl ?_
      refine x_iload_n (pc2 := 29) hC rfl rfl dX7_close_28 rfl ?_
      refine x_iconst (pc2 := 30) hC dX7_close_29 rfl ?_
      refine x_cVi (pc2 := 33) (ci := 5) hC hK (p_hasBoxWith l hP hR0 hb (by decide)) lk_460 rfl rfl (by decide) (by assumption) (by assumption) ⟨Nat.le_of_ble_eq_true rfl, Nat.le_of_ble_eq_true rfl⟩ ⟨Nat.le_refl _, Nat.le_refl _⟩ rfl (Nat.le_of_ble_eq_true rfl) dX7_close_30 rfl ?_
      rintro z30 F30 A30 ⟨w30, b30, e130, e230⟩
      obtain rfl := e130.symm
      obtain rfl := e230.symm
      refine x_if_ne (tgt := 38) (pc2 := 36) hC (by omega) dX7_close_33 rfl rfl (fun h_33 => ?_) (fun h_33 => ?_)
      · have hok := And.intro ((b6 ()).mp h_9) (And.intro ((b18 ()).mp h_21) ((b30 ()).mp h_33))
        obtain ⟨oA, oB, oC⟩ := id hok
        refine x_aload_n (pc2 := 39) hC rfl rfl dX7_close_38 rfl ?_
        refine g_370 (pc2 := 42) hC hK (by assumption) (by assumption) (by assumption) dX7_close_39 rfl ?_
        refine x_iload_n (pc2 := 43) hC rfl rfl dX7_close_42 rfl ?_
        refine x_cVv (pc2 := 46) (ci := 0) hC hK (p_start l hP hR0 oA.1) lk_464 rfl rfl (by decide) (by assumption) (by assumption) ⟨Nat.le_of_ble_eq_true rfl, Nat.le_of_ble_eq_true rfl⟩ ⟨Nat.le_refl _, Nat.le_refl _⟩ rfl (Nat.le_of_ble_eq_true rfl) dX7_close_43 rfl ?_
        rintro F43 A43 ⟨hR43, hD43⟩
        refine x_iconst (pc2 := 47) hC dX7_close_46 rfl ?_
        refine x_istore (pc2 := 49) (loc2 := [_, _, _, _, _, _]) hC (by decide) rfl dX7_close_47 rfl ?_
        exact loop 5 0 F43 A43 (by omega) (by omega) (by omega) hok hR43 (hD43 _) (fun s sa sb => by omega)
      · refine x_iconst (pc2 := 37) hC dX7_close_36 rfl ?_
        exact x_iret hC hr hlk ⟨_, rfl, S, Or.inl ⟨fun ⟨q1, q2, q3⟩ => by first | exact absurd h_9 ((b6 ()).mpr q1) | exact absurd h_21 ((b18 ()).mpr q2) | exact absurd h_33 ((b30 ()).mpr q3), rfl, rfl⟩, hR0⟩ dX7_close_37
theorem dX7_correct_0 : decode cX7_correct 0 = .ok (.aload_n 0, 1) := by decide +kernel
theorem dX7_correct_1 : decode cX7_correct 1 = .ok (.getfield 12, 3) := by decide +kernel
theorem dX7_correct_4 : decode cX7_correct 4 = .ok (.iload_n 1, 1) := by decide +kernel
theorem dX7_correct_5 : decode cX7_correct 5 = .ok (.iconst 1, 1) := by decide +kernel
theorem dX7_correct_6 : decode cX7_correct 6 = .ok (.invokevirtual 75, 3) := by decide +kernel
theorem dX7_correct_9 : decode cX7_correct 9 = .ok (.ifCond .eq 27, 3) := by decide +kernel
theorem dX7_correct_12 : decode cX7_correct 12 = .ok (.aload_n 0, 1) := by decide +kernel
theorem dX7_correct_13 : decode cX7_correct 13 = .ok (.getfield 12, 3) := by decide +kernel
theorem dX7_correct_16 : decode cX7_correct 16 = .ok (.iload_n 2, 1) := by decide +kernel
theorem dX7_correct_17 : decode cX7_correct 17 = .ok (.iconst 2, 1) := by decide +kernel
theorem dX7_correct_18 : decode cX7_correct 18 = .ok (.invokevirtual 75, 3) := by decide +kernel
theorem dX7_correct_21 : decode cX7_correct 21 = .ok (.ifCond .eq 15, 3) := by decide +kernel
theorem dX7_correct_24 : decode cX7_correct 24 = .ok (.aload_n 0, 1) := by decide +kernel
theorem dX7_correct_25 : decode cX7_correct 25 = .ok (.getfield 12, 3) := by decide +kernel
theorem dX7_correct_28 : decode cX7_correct 28 = .ok (.iload_n 3, 1) := by decide +kernel
theorem dX7_correct_29 : decode cX7_correct 29 = .ok (.iconst 1, 1) := by decide +kernel
theorem dX7_correct_30 : decode cX7_correct 30 = .ok (.invokevirtual 75, 3) := by decide +kernel
theorem dX7_correct_33 : decode cX7_correct 33 = .ok (.ifCond .ne 5, 3) := by decide +kernel
theorem dX7_correct_36 : decode cX7_correct 36 = .ok (.iconst (-1), 1) := by decide +kernel
theorem dX7_correct_37 : decode cX7_correct 37 = .ok (.ireturn, 1) := by decide +kernel
theorem dX7_correct_38 : decode cX7_correct 38 = .ok (.aload_n 0, 1) := by decide +kernel
theorem dX7_correct_39 : decode cX7_correct 39 = .ok (.getfield 21, 3) := by decide +kernel
theorem dX7_correct_42 : decode cX7_correct 42 = .ok (.iload_n 1, 1) := by decide +kernel
theorem dX7_correct_43 : decode cX7_correct 43 = .ok (.invokevirtual 79, 3) := by decide +kernel
theorem dX7_correct_46 : decode cX7_correct 46 = .ok (.iconst 0, 1) := by decide +kernel
theorem dX7_correct_47 : decode cX7_correct 47 = .ok (.istore 4, 2) := by decide +kernel
theorem dX7_correct_49 : decode cX7_correct 49 = .ok (.iload 4, 2) := by decide +kernel
theorem dX7_correct_51 : decode cX7_correct 51 = .ok (.iconst 4, 1) := by decide +kernel
theorem dX7_correct_52 : decode cX7_correct 52 = .ok (.if_icmp .ge 36, 3) := by decide +kernel
theorem dX7_correct_55 : decode cX7_correct 55 = .ok (.aload_n 0, 1) := by decide +kernel
theorem dX7_correct_56 : decode cX7_correct 56 = .ok (.getfield 21, 3) := by decide +kernel
theorem dX7_correct_59 : decode cX7_correct 59 = .ok (.iload 4, 2) := by decide +kernel
theorem dX7_correct_61 : decode cX7_correct 61 = .ok (.iload_n 2, 1) := by decide +kernel
theorem dX7_correct_62 : decode cX7_correct 62 = .ok (.iload_n 3, 1) := by decide +kernel
theorem dX7_correct_63 : decode cX7_correct 63 = .ok (.invokevirtual 108, 3) := by decide +kernel
theorem dX7_correct_66 : decode cX7_correct 66 = .ok (.istore 5, 2) := by decide +kernel
theorem dX7_correct_68 : decode cX7_correct 68 = .ok (.iload 5, 2) := by decide +kernel
theorem dX7_correct_70 : decode cX7_correct 70 = .ok (.ifCond .eq 12, 3) := by decide +kernel
theorem dX7_correct_73 : decode cX7_correct 73 = .ok (.aload_n 0, 1) := by decide +kernel
theorem dX7_correct_74 : decode cX7_correct 74 = .ok (.iload 4, 2) := by decide +kernel
theorem dX7_correct_76 : decode cX7_correct 76 = .ok (.iload 5, 2) := by decide +kernel
theorem dX7_correct_78 : decode cX7_correct 78 = .ok (.invokevirtual 86, 3) := by decide +kernel
theorem dX7_correct_81 : decode cX7_correct 81 = .ok (.ireturn, 1) := by decide +kernel
theorem dX7_correct_82 : decode cX7_correct 82 = .ok (.iinc 4 1, 3) := by decide +kernel
theorem dX7_correct_85 : decode cX7_correct 85 = .ok (.goto (-36), 3) := by decide +kernel
theorem dX7_correct_88 : decode cX7_correct 88 = .ok (.aload_n 0, 1) := by decide +kernel
theorem dX7_correct_89 : decode cX7_correct 89 = .ok (.iload_n 1, 1) := by decide +kernel
theorem dX7_correct_90 : decode cX7_correct 90 = .ok (.invokevirtual 89, 3) := by decide +kernel
theorem dX7_correct_93 : decode cX7_correct 93 = .ok (.ireturn, 1) := by decide +kernel
set_option maxHeartbeats 8000000 in
theorem c_correct (l : Launch) {D : va_G} {ids : Nat → ClassId} {β : Nat} {sh : Nat → Nat × Nat} {N : Nat} {R : Nat → Nat → Option Nat} {F : Nat → Nat → Int} {A : Nat → Int → Int} {S : SP} (hP : PbL sh R N) (hR0 : RepC sh R N S F A) {c0 a b : Int} (hc : I32 c0) (ha : I32 a) (hb : I32 b) : MetX l yX7_correct cX7_correct 6 (some (.int)) 7 188 D ids β sh N R F A [rf 0, pI c0, pI a, pI b] (pIr (fun z F2 A2 => ∃ S2, rCorrect S c0 a b z S2 ∧ RepC sh R N S2 F2 A2)) := by
  refine MetX.of (loc := [_, _, _, _, _, _]) (plainFor_of_name (by decide +kernel)) (Nat.le_of_ble_eq_true rfl) rfl ?_
  intro p e s m args below meth c hC hK hr hlk
  obtain ⟨hAc, hAg, hJu, ⟨z1, z2⟩, r00, r01, r02⟩ := id hP
  have hShL := hAc.1
  obtain ⟨⟨j1, j2⟩, ⟨rs0, rs1, rs2, rs3, rs4⟩, ⟨j3, j4⟩, -⟩ := id hShL
  have hI := hR0.shI
  have hi := hR0.2.1
  have i1 := hi.1
  obtain ⟨q71, q72⟩ := hAc.2.2.1
  have loop : ∀ (d : Nat) (k : Int) (F1 : Nat → Nat → Int) (A1 : Nat → Int → Int) {eZ : Option PV}, 4 - k < d → 0 ≤ k → k ≤ 4 → (hasB S c0 1 ∧ hasB S a 2 ∧ hasB S b 1) → RepC sh R N S F1 A1 → DrK S c0 (fun t e => undoX (nmN S a t) (nm S b t 0) e) (A1 3) (F1 15 7) k → (∀ s, 0 ≤ s → s < k → (fun t => itC ((undoF (nmN S a t) (nm S b t 0)).1 = (0, 0)) 1 0) s = 0) → X p l e { frames := 7, cells := 0, slots := 0, locals := 188 } s m args below meth c (MQ below (QX D ids β sh N R (pIr (fun z F2 A2 => ∃ S2, rCorrect S c0 a b z S2 ∧ RepC sh R N S2 F2 A2))) args s 0 0 (inG β N)) (inG β N) D ids β sh 6 0 0 N R F1 A1 [some (rf 0), some (pI c0), some (pI a), some (pI b), some (pI k), eZ] [] 49 := by
    intro d
    induction d with
    | zero => intro k F1 A1 eZ hd; omega
    | succ d ih =>
      intro k F1 A1 eZ hd k0 k4 hok hR1 hD hdv
      obtain ⟨oA, oB, oC⟩ := id hok
      refine x_iload (pc2 := 51) hC rfl dX7_correct_49 rfl ?_
      refine x_iconst (pc2 := 52) hC dX7_correct_51 rfl ?_
      refine x_icmp_ge (tgt := 88) (pc2 := 55) hC (by omega) (by omega) dX7_correct_52 rfl rfl (fun h_52 => ?_) (fun h_52 => ?_)
      · obtain rfl : k = 4 := by omega
        refine x_aload_n (pc2 := 89) hC rfl rfl dX7_correct_88 rfl ?_
        refine x_iload_n (pc2 := 90) hC rfl rfl dX7_correct_89 rfl ?_
        refine x_cVi (pc2 := 93) (ci := 7) hC hK (m_finish l hP hR1 oA.1 (bx := (fun t e => undoX (nmN S a t) (nm S b t 0) e)) hD (fun _ t e _ _ he => if_neg he)) lk_634 rfl rfl (by decide) (by assumption) (by assumption) ⟨Nat.le_of_ble_eq_true rfl, Nat.le_of_ble_eq_true rfl⟩ ⟨Nat.le_refl _, Nat.le_refl _⟩ rfl (Nat.le_of_ble_eq_true rfl) dX7_correct_90 rfl ?_
        rintro z90 F90 A90 ⟨S2, f1, f2⟩
        exact x_iret hC hr hlk ⟨_, rfl, S2, Or.inr ⟨hok, Or.inr ⟨fun t ht => hdv t ht.1 ht.2, f1⟩⟩, f2⟩ dX7_correct_93
      · have hk : isT k := by omega
        refine x_aload_n (pc2 := 56) hC rfl rfl dX7_correct_55 rfl ?_
        refine g_370 (pc2 := 59) hC hK (by assumption) (by assumption) (by assumption) dX7_correct_56 rfl ?_
        refine x_iload (pc2 := 61) hC rfl dX7_correct_59 rfl ?_
        refine x_iload_n (pc2 := 62) hC rfl rfl dX7_correct_61 rfl ?_
        refine x_iload_n (pc2 := 63) hC rfl rfl dX7_correct_62 rfl ?_
        refine x_cVi (pc2 := 66) (ci := 0) hC hK (t_undone l hP hR1 hk oA.2 oB.1 oC.1) lk_690 rfl rfl (by decide) (by assumption) (by assumption) ⟨Nat.le_of_ble_eq_true rfl, Nat.le_of_ble_eq_true rfl⟩ ⟨Nat.le_refl _, Nat.le_refl _⟩ rfl (Nat.le_of_ble_eq_true rfl) dX7_correct_63 rfl ?_
        rintro z63 F63 A63 ⟨w63, t63⟩
        refine x_istore (pc2 := 68) (loc2 := [_, _, _, _, _, _]) hC (by decide) rfl dX7_correct_66 rfl ?_
        refine x_iload (pc2 := 70) hC rfl dX7_correct_68 rfl ?_
        refine x_if_eq (tgt := 82) (pc2 := 73) hC (by omega) dX7_correct_70 rfl rfl (fun h_70 => ?_) (fun h_70 => ?_)
        · obtain ⟨-, td, L, l1, l2, l3, tE⟩ := (t63 ()).resolve_left (fun q => q.1 h_70)
          have hR63 := hR1.fra hP tE.re tE.fr.1
          refine x_iinc (pc2 := 85) (loc2 := [_, _, _, _, _, _]) hC (by decide) rfl rfl dX7_correct_82 rfl ?_
          refine x_goto (pc2 := 49) hC dX7_correct_85 rfl ?_
          refine ih (k + 1) F63 A63 (by omega) (by omega) (by omega) hok hR63 (hD.step hk l1 l2 l3 tE.fr.2.1) (fun s sa sb => ?_)
          by_cases q : s = k
          · rw [q]; exact td
          · exact hdv s sa (by omega)
        · obtain ⟨-, td, tE⟩ := (t63 ()).resolve_right (fun q => h_70 q.1)
          have hR63 := hR1.fra hP tE.re tE.fr.1
          refine x_aload_n (pc2 := 74) hC rfl rfl dX7_correct_73 rfl ?_
          refine x_iload (pc2 := 76) hC rfl dX7_correct_74 rfl ?_
          refine x_iload (pc2 := 78) hC rfl dX7_correct_76 rfl ?_
          refine x_cVi (pc2 := 81) (ci := 7) hC hK (m_refuse l hP hR63) lk_630 rfl rfl (by decide) (by assumption) (by assumption) ⟨Nat.le_of_ble_eq_true rfl, Nat.le_of_ble_eq_true rfl⟩ ⟨Nat.le_refl _, Nat.le_refl _⟩ rfl (Nat.le_of_ble_eq_true rfl) dX7_correct_78 rfl ?_
          rintro z78 F78 A78 ⟨ez, hR78⟩
          exact x_iret hC hr hlk ⟨_, rfl, noS S k z63, Or.inr ⟨hok, Or.inl ⟨k, hk, hdv, fun q => h_70 (td.trans q), ez, congrArg (noS S k) td⟩⟩, hR78⟩ dX7_correct_81
  refine x_aload_n (pc2 := 1) hC rfl rfl dX7_correct_0 rfl ?_
  refine g_369 (pc2 := 4) hC hK (by assumption) (by assumption) (by assumption) dX7_correct_1 rfl ?_
  refine x_iload_n (pc2 := 5) hC rfl rfl dX7_correct_4 rfl ?_
  refine x_iconst (pc2 := 6) hC dX7_correct_5 rfl ?_
  refine x_cVi (pc2 := 9) (ci := 5) hC hK (p_hasBoxWith l hP hR0 hc (by decide)) lk_460 rfl rfl (by decide) (by assumption) (by assumption) ⟨Nat.le_of_ble_eq_true rfl, Nat.le_of_ble_eq_true rfl⟩ ⟨Nat.le_refl _, Nat.le_refl _⟩ rfl (Nat.le_of_ble_eq_true rfl) dX7_correct_6 rfl ?_
  rintro z6 F6 A6 ⟨w6, b6, e16, e26⟩
  obtain rfl := e16.symm
  obtain rfl := e26.symm
  refine x_if_eq (tgt := 36) (pc2 := 12) hC (by omega) dX7_correct_9 rfl rfl (fun h_9 => ?_) (fun h_9 => ?_)
  · refine x_iconst (pc2 := 37) hC dX7_correct_36 rfl ?_
    exact x_iret hC hr hlk ⟨_, rfl, S, Or.inl ⟨fun ⟨q1, q2, q3⟩ => by first | exact absurd h_9 ((b6 ()).mpr q1) | exact absurd h_21 ((b18 ()).mpr q2) | exact absurd h_33 ((b30 ()).mpr q3), rfl, rfl⟩, hR0⟩ dX7_correct_37
  · refine x_aload_n (pc2 := 13) hC rfl rfl dX7_correct_12 rfl ?_
    refine g_369 (pc2 := 16) hC hK (by assumption) (by assumption) (by assumption) dX7_correct_13 rfl ?_
    refine x_iload_n (pc2 := 17) hC rfl rfl dX7_correct_16 rfl ?_
    refine x_iconst (pc2 := 18) hC dX7_correct_17 rfl ?_
    refine x_cVi (pc2 := 21) (ci := 5) hC hK (p_hasBoxWith l hP hR0 ha (by decide)) lk_460 rfl rfl (by decide) (by assumption) (by assumption) ⟨Nat.le_of_ble_eq_true rfl, Nat.le_of_ble_eq_true rfl⟩ ⟨Nat.le_refl _, Nat.le_refl _⟩ rfl (Nat.le_of_ble_eq_true rfl) dX7_correct_18 rfl ?_
    rintro z18 F18 A18 ⟨w18, b18, e118, e218⟩
    obtain rfl := e118.symm
    obtain rfl := e218.symm
    refine x_if_eq (tgt := 36) (pc2 := 24) hC (by omega) dX7_correct_21 rfl rfl (fun h_21 => ?_) (fun h_21 => ?_)
    · refine x_iconst (pc2 := 37) hC dX7_correct_36 rfl ?_
      exact x_iret hC hr hlk ⟨_, rfl, S, Or.inl ⟨fun ⟨q1, q2, q3⟩ => by first | exact absurd h_9 ((b6 ()).mpr q1) | exact absurd h_21 ((b18 ()).mpr q2) | exact absurd h_33 ((b30 ()).mpr q3), rfl, rfl⟩, hR0⟩ dX7_correct_37
    · refine x_aload_n (pc2 := 25) hC rfl rfl dX7_correct_24 rfl ?_
      refine g_369 (pc2 := 28) hC hK (by assumption) (by assumption) (by assumption) dX7_correct_25 rfl ?_
      refine x_iload_n (pc2 := 29) hC rfl rfl dX7_correct_28 rfl ?_
      refine x_iconst (pc2 := 30) hC dX7_correct_29 rfl ?_
      refine x_cVi (pc2 := 33) (ci := 5) hC hK (p_hasBoxWith l hP hR0 hb (by decide)) lk_460 rfl rfl (by decide) (by assumption) (by assumption) ⟨Nat.le_of_ble_eq_true rfl, Nat.le_of_ble_eq_true rfl⟩ ⟨Nat.le_refl _, Nat.le_refl _⟩ rfl (Nat.le_of_ble_eq_true rfl) dX7_correct_30 rfl ?_
      rintro z30 F30 A30 ⟨w30, b30, e130, e230⟩
      obtain rfl := e130.symm
      obtain rfl := e230.symm
      refine x_if_ne (tgt := 38) (pc2 := 36) hC (by omega) dX7_correct_33 rfl rfl (fun h_33 => ?_) (fun h_33 => ?_)
      · have hok := And.intro ((b6 ()).mp h_9) (And.intro ((b18 ()).mp h_21) ((b30 ()).mp h_33))
        obtain ⟨oA, oB, oC⟩ := id hok
        refine x_aload_n (pc2 := 39) hC rfl rfl dX7_correct_38 rfl ?_
        refine g_370 (pc2 := 42) hC hK (by assumption) (by assumption) (by assumption) dX7_correct_39 rfl ?_
        refine x_iload_n (pc2 := 43) hC rfl rfl dX7_correct_42 rfl ?_
        refine x_cVv (pc2 := 46) (ci := 0) hC hK (p_start l hP hR0 oA.1) lk_464 rfl rfl (by decide) (by assumption) (by assumption) ⟨Nat.le_of_ble_eq_true rfl, Nat.le_of_ble_eq_true rfl⟩ ⟨Nat.le_refl _, Nat.le_refl _⟩ rfl (Nat.le_of_ble_eq_true rfl) dX7_correct_43 rfl ?_
        rintro F43 A43 ⟨hR43, hD43⟩
        refine x_iconst (pc2 := 47) hC dX7_correct_46 rfl ?_
        refine x_istore (pc2 := 49) (loc2 := [_, _, _, _, _, _]) hC (by decide) rfl dX7_correct_47 rfl ?_
        exact loop 5 0 F43 A43 (by omega) (by omega) (by omega) hok hR43 (hD43 _) (fun s sa sb => by omega)
      · refine x_iconst (pc2 := 37) hC dX7_correct_36 rfl ?_
        exact x_iret hC hr hlk ⟨_, rfl, S, Or.inl ⟨fun ⟨q1, q2, q3⟩ => by first | exact absurd h_9 ((b6 ()).mpr q1) | exact absurd h_21 ((b18 ()).mpr q2) | exact absurd h_33 ((b30 ()).mpr q3), rfl, rfl⟩, hR0⟩ dX7_correct_37
theorem dX7_takeOff_0 : decode cX7_takeOff 0 = .ok (.aload_n 0, 1) := by decide +kernel
theorem dX7_takeOff_1 : decode cX7_takeOff 1 = .ok (.getfield 12, 3) := by decide +kernel
theorem dX7_takeOff_4 : decode cX7_takeOff 4 = .ok (.iload_n 1, 1) := by decide +kernel
theorem dX7_takeOff_5 : decode cX7_takeOff 5 = .ok (.iconst 2, 1) := by decide +kernel
theorem dX7_takeOff_6 : decode cX7_takeOff 6 = .ok (.invokevirtual 75, 3) := by decide +kernel
theorem dX7_takeOff_9 : decode cX7_takeOff 9 = .ok (.ifCond .eq 27, 3) := by decide +kernel
theorem dX7_takeOff_12 : decode cX7_takeOff 12 = .ok (.aload_n 0, 1) := by decide +kernel
theorem dX7_takeOff_13 : decode cX7_takeOff 13 = .ok (.getfield 12, 3) := by decide +kernel
theorem dX7_takeOff_16 : decode cX7_takeOff 16 = .ok (.iload_n 2, 1) := by decide +kernel
theorem dX7_takeOff_17 : decode cX7_takeOff 17 = .ok (.iconst 2, 1) := by decide +kernel
theorem dX7_takeOff_18 : decode cX7_takeOff 18 = .ok (.invokevirtual 75, 3) := by decide +kernel
theorem dX7_takeOff_21 : decode cX7_takeOff 21 = .ok (.ifCond .eq 15, 3) := by decide +kernel
theorem dX7_takeOff_24 : decode cX7_takeOff 24 = .ok (.aload_n 0, 1) := by decide +kernel
theorem dX7_takeOff_25 : decode cX7_takeOff 25 = .ok (.getfield 12, 3) := by decide +kernel
theorem dX7_takeOff_28 : decode cX7_takeOff 28 = .ok (.iload_n 3, 1) := by decide +kernel
theorem dX7_takeOff_29 : decode cX7_takeOff 29 = .ok (.iconst 2, 1) := by decide +kernel
theorem dX7_takeOff_30 : decode cX7_takeOff 30 = .ok (.invokevirtual 75, 3) := by decide +kernel
theorem dX7_takeOff_33 : decode cX7_takeOff 33 = .ok (.ifCond .ne 5, 3) := by decide +kernel
theorem dX7_takeOff_36 : decode cX7_takeOff 36 = .ok (.iconst (-1), 1) := by decide +kernel
theorem dX7_takeOff_37 : decode cX7_takeOff 37 = .ok (.ireturn, 1) := by decide +kernel
theorem dX7_takeOff_38 : decode cX7_takeOff 38 = .ok (.iload 4, 2) := by decide +kernel
theorem dX7_takeOff_40 : decode cX7_takeOff 40 = .ok (.ifCond .eq 11, 3) := by decide +kernel
theorem dX7_takeOff_43 : decode cX7_takeOff 43 = .ok (.iload 4, 2) := by decide +kernel
theorem dX7_takeOff_45 : decode cX7_takeOff 45 = .ok (.iconst 1, 1) := by decide +kernel
theorem dX7_takeOff_46 : decode cX7_takeOff 46 = .ok (.if_icmp .eq 5, 3) := by decide +kernel
theorem dX7_takeOff_49 : decode cX7_takeOff 49 = .ok (.iconst (-1), 1) := by decide +kernel
theorem dX7_takeOff_50 : decode cX7_takeOff 50 = .ok (.ireturn, 1) := by decide +kernel
theorem dX7_takeOff_51 : decode cX7_takeOff 51 = .ok (.aload_n 0, 1) := by decide +kernel
theorem dX7_takeOff_52 : decode cX7_takeOff 52 = .ok (.getfield 21, 3) := by decide +kernel
theorem dX7_takeOff_55 : decode cX7_takeOff 55 = .ok (.iload_n 1, 1) := by decide +kernel
theorem dX7_takeOff_56 : decode cX7_takeOff 56 = .ok (.invokevirtual 79, 3) := by decide +kernel
theorem dX7_takeOff_59 : decode cX7_takeOff 59 = .ok (.iconst 0, 1) := by decide +kernel
theorem dX7_takeOff_60 : decode cX7_takeOff 60 = .ok (.istore 5, 2) := by decide +kernel
theorem dX7_takeOff_62 : decode cX7_takeOff 62 = .ok (.iload 5, 2) := by decide +kernel
theorem dX7_takeOff_64 : decode cX7_takeOff 64 = .ok (.iconst 4, 1) := by decide +kernel
theorem dX7_takeOff_65 : decode cX7_takeOff 65 = .ok (.if_icmp .ge 47, 3) := by decide +kernel
theorem dX7_takeOff_68 : decode cX7_takeOff 68 = .ok (.aload_n 0, 1) := by decide +kernel
theorem dX7_takeOff_69 : decode cX7_takeOff 69 = .ok (.getfield 21, 3) := by decide +kernel
theorem dX7_takeOff_72 : decode cX7_takeOff 72 = .ok (.iload 5, 2) := by decide +kernel
theorem dX7_takeOff_74 : decode cX7_takeOff 74 = .ok (.iload_n 2, 1) := by decide +kernel
theorem dX7_takeOff_75 : decode cX7_takeOff 75 = .ok (.iload_n 3, 1) := by decide +kernel
theorem dX7_takeOff_76 : decode cX7_takeOff 76 = .ok (.iload 4, 2) := by decide +kernel
theorem dX7_takeOff_78 : decode cX7_takeOff 78 = .ok (.iconst 1, 1) := by decide +kernel
theorem dX7_takeOff_79 : decode cX7_takeOff 79 = .ok (.if_icmp .ne 7, 3) := by decide +kernel
theorem dX7_takeOff_82 : decode cX7_takeOff 82 = .ok (.iconst 1, 1) := by decide +kernel
theorem dX7_takeOff_83 : decode cX7_takeOff 83 = .ok (.goto 4, 3) := by decide +kernel
theorem dX7_takeOff_86 : decode cX7_takeOff 86 = .ok (.iconst 0, 1) := by decide +kernel
theorem dX7_takeOff_87 : decode cX7_takeOff 87 = .ok (.invokevirtual 92, 3) := by decide +kernel
theorem dX7_takeOff_90 : decode cX7_takeOff 90 = .ok (.istore 6, 2) := by decide +kernel
theorem dX7_takeOff_92 : decode cX7_takeOff 92 = .ok (.iload 6, 2) := by decide +kernel
theorem dX7_takeOff_94 : decode cX7_takeOff 94 = .ok (.ifCond .eq 12, 3) := by decide +kernel
theorem dX7_takeOff_97 : decode cX7_takeOff 97 = .ok (.aload_n 0, 1) := by decide +kernel
theorem dX7_takeOff_98 : decode cX7_takeOff 98 = .ok (.iload 5, 2) := by decide +kernel
theorem dX7_takeOff_100 : decode cX7_takeOff 100 = .ok (.iload 6, 2) := by decide +kernel
theorem dX7_takeOff_102 : decode cX7_takeOff 102 = .ok (.invokevirtual 86, 3) := by decide +kernel
theorem dX7_takeOff_105 : decode cX7_takeOff 105 = .ok (.ireturn, 1) := by decide +kernel
theorem dX7_takeOff_106 : decode cX7_takeOff 106 = .ok (.iinc 5 1, 3) := by decide +kernel
theorem dX7_takeOff_109 : decode cX7_takeOff 109 = .ok (.goto (-47), 3) := by decide +kernel
theorem dX7_takeOff_112 : decode cX7_takeOff 112 = .ok (.aload_n 0, 1) := by decide +kernel
theorem dX7_takeOff_113 : decode cX7_takeOff 113 = .ok (.iload_n 1, 1) := by decide +kernel
theorem dX7_takeOff_114 : decode cX7_takeOff 114 = .ok (.invokevirtual 89, 3) := by decide +kernel
theorem dX7_takeOff_117 : decode cX7_takeOff 117 = .ok (.ireturn, 1) := by decide +kernel
set_option maxHeartbeats 8000000 in
theorem c_takeOff (l : Launch) {D : va_G} {ids : Nat → ClassId} {β : Nat} {sh : Nat → Nat × Nat} {N : Nat} {R : Nat → Nat → Option Nat} {F : Nat → Nat → Int} {A : Nat → Int → Int} {S : SP} (hP : PbL sh R N) (hR0 : RepC sh R N S F A) {c0 w a s0 : Int} (hc : I32 c0) (hw : I32 w) (ha : I32 a) (hs : I32 s0) : MetX l yX7_takeOff cX7_takeOff 7 (some (.int)) 7 189 D ids β sh N R F A [rf 0, pI c0, pI w, pI a, pI s0] (pIr (fun z F2 A2 => ∃ S2, rTake S c0 w a s0 z S2 ∧ RepC sh R N S2 F2 A2)) := by
  refine MetX.of (loc := [_, _, _, _, _, _, _]) (plainFor_of_name (by decide +kernel)) (Nat.le_of_ble_eq_true rfl) rfl ?_
  intro p e s m args below meth c hC hK hr hlk
  obtain ⟨hAc, hAg, hJu, ⟨z1, z2⟩, r00, r01, r02⟩ := id hP
  have hShL := hAc.1
  obtain ⟨⟨j1, j2⟩, ⟨rs0, rs1, rs2, rs3, rs4⟩, ⟨j3, j4⟩, -⟩ := id hShL
  have hI := hR0.shI
  have hi := hR0.2.1
  have i1 := hi.1
  obtain ⟨q71, q72⟩ := hAc.2.2.1
  have loop : ∀ (d : Nat) (k : Int) (F1 : Nat → Nat → Int) (A1 : Nat → Int → Int) {eZ : Option PV}, 4 - k < d → 0 ≤ k → k ≤ 4 → ((hasB S c0 2 ∧ hasB S w 2 ∧ hasB S a 2) ∧ (s0 = 0 ∨ s0 = 1)) → RepC sh R N S F1 A1 → DrK S c0 (fun t e => takeX (nmT S a t s0) (nmT S w t s0) (if s0 = 0 then e else 3 - e)) (A1 3) (F1 15 7) k → (∀ s, 0 ≤ s → s < k → (fun t => takeD (nmT S a t s0) (nmT S w t s0)) s = 0) → X p l e { frames := 7, cells := 0, slots := 0, locals := 189 } s m args below meth c (MQ below (QX D ids β sh N R (pIr (fun z F2 A2 => ∃ S2, rTake S c0 w a s0 z S2 ∧ RepC sh R N S2 F2 A2))) args s 0 0 (inG β N)) (inG β N) D ids β sh 7 0 0 N R F1 A1 [some (rf 0), some (pI c0), some (pI w), some (pI a), some (pI s0), some (pI k), eZ] [] 62 := by
    intro d
    induction d with
    | zero => intro k F1 A1 eZ hd; omega
    | succ d ih =>
      intro k F1 A1 eZ hd k0 k4 hok hR1 hD hdv
      obtain ⟨⟨oA, oB, oC⟩, oS⟩ := id hok
      refine x_iload (pc2 := 64) hC rfl dX7_takeOff_62 rfl ?_
      refine x_iconst (pc2 := 65) hC dX7_takeOff_64 rfl ?_
      refine x_icmp_ge (tgt := 112) (pc2 := 68) hC (by omega) (by omega) dX7_takeOff_65 rfl rfl (fun h_65 => ?_) (fun h_65 => ?_)
      · obtain rfl : k = 4 := by omega
        refine x_aload_n (pc2 := 113) hC rfl rfl dX7_takeOff_112 rfl ?_
        refine x_iload_n (pc2 := 114) hC rfl rfl dX7_takeOff_113 rfl ?_
        refine x_cVi (pc2 := 117) (ci := 7) hC hK (m_finish l hP hR1 oA.1 (bx := (fun t e => takeX (nmT S a t s0) (nmT S w t s0) (if s0 = 0 then e else 3 - e))) hD (fun p => absurd (oA.2.symm.trans p) (by decide))) lk_634 rfl rfl (by decide) (by assumption) (by assumption) ⟨Nat.le_of_ble_eq_true rfl, Nat.le_of_ble_eq_true rfl⟩ ⟨Nat.le_refl _, Nat.le_refl _⟩ rfl (Nat.le_of_ble_eq_true rfl) dX7_takeOff_114 rfl ?_
        rintro z90 F90 A90 ⟨S2, f1, f2⟩
        exact x_iret hC hr hlk ⟨_, rfl, S2, Or.inr ⟨hok, Or.inr ⟨fun t ht => hdv t ht.1 ht.2, f1⟩⟩, f2⟩ dX7_takeOff_117
      · have hk : isT k := by omega
        refine x_aload_n (pc2 := 69) hC rfl rfl dX7_takeOff_68 rfl ?_
        refine g_370 (pc2 := 72) hC hK (by assumption) (by assumption) (by assumption) dX7_takeOff_69 rfl ?_
        refine x_iload (pc2 := 74) hC rfl dX7_takeOff_72 rfl ?_
        refine x_iload_n (pc2 := 75) hC rfl rfl dX7_takeOff_74 rfl ?_
        refine x_iload_n (pc2 := 76) hC rfl rfl dX7_takeOff_75 rfl ?_
        refine x_iload (pc2 := 78) hC rfl dX7_takeOff_76 rfl ?_
        refine x_iconst (pc2 := 79) hC dX7_takeOff_78 rfl ?_
        refine x_icmp_ne (tgt := 86) (pc2 := 82) hC (by omega) (by omega) dX7_takeOff_79 rfl rfl (fun h_79 => ?_) (fun h_79 => ?_)
        · obtain rfl : s0 = 0 := by omega
          refine x_iconst (pc2 := 87) hC dX7_takeOff_86 rfl ?_
          refine x_cVi (pc2 := 90) (ci := 0) hC hK (t_takenOff l hP hR1 hk oA.2 oC.1 oB.1 (by decide)) lk_646 rfl rfl (by decide) (by assumption) (by assumption) ⟨Nat.le_of_ble_eq_true rfl, Nat.le_of_ble_eq_true rfl⟩ ⟨Nat.le_refl _, Nat.le_refl _⟩ rfl (Nat.le_of_ble_eq_true rfl) dX7_takeOff_87 rfl ?_
          rintro z63 F63 A63 ⟨w63, t63⟩
          refine x_istore (pc2 := 92) (loc2 := [_, _, _, _, _, _, _]) hC (by decide) rfl dX7_takeOff_90 rfl ?_
          refine x_iload (pc2 := 94) hC rfl dX7_takeOff_92 rfl ?_
          refine x_if_eq (tgt := 106) (pc2 := 97) hC (by omega) dX7_takeOff_94 rfl rfl (fun h_94 => ?_) (fun h_94 => ?_)
          · obtain ⟨-, td, L, l1, l2, l3, tE⟩ := (t63 ()).resolve_left (fun q => q.1 h_94)
            have hR63 := hR1.fra hP tE.re tE.fr.1
            refine x_iinc (pc2 := 109) (loc2 := [_, _, _, _, _, _, _]) hC (by decide) rfl rfl dX7_takeOff_106 rfl ?_
            refine x_goto (pc2 := 62) hC dX7_takeOff_109 rfl ?_
            refine ih (k + 1) F63 A63 (by omega) (by omega) (by omega) hok hR63 (hD.step hk l1 l2 l3 tE.fr.2.1) (fun s sa sb => ?_)
            by_cases q : s = k
            · rw [q]; exact td
            · exact hdv s sa (by omega)
          · obtain ⟨-, td, tE⟩ := (t63 ()).resolve_right (fun q => h_94 q.1)
            have hR63 := hR1.fra hP tE.re tE.fr.1
            refine x_aload_n (pc2 := 98) hC rfl rfl dX7_takeOff_97 rfl ?_
            refine x_iload (pc2 := 100) hC rfl dX7_takeOff_98 rfl ?_
            refine x_iload (pc2 := 102) hC rfl dX7_takeOff_100 rfl ?_
            refine x_cVi (pc2 := 105) (ci := 7) hC hK (m_refuse l hP hR63) lk_630 rfl rfl (by decide) (by assumption) (by assumption) ⟨Nat.le_of_ble_eq_true rfl, Nat.le_of_ble_eq_true rfl⟩ ⟨Nat.le_refl _, Nat.le_refl _⟩ rfl (Nat.le_of_ble_eq_true rfl) dX7_takeOff_102 rfl ?_
            rintro z78 F78 A78 ⟨ez, hR78⟩
            exact x_iret hC hr hlk ⟨_, rfl, noS S k z63, Or.inr ⟨hok, Or.inl ⟨k, hk, hdv, fun q => h_94 (td.trans q), ez, congrArg (noS S k) td⟩⟩, hR78⟩ dX7_takeOff_105
        · obtain rfl : s0 = 1 := by omega
          refine x_iconst (pc2 := 83) hC dX7_takeOff_82 rfl ?_
          refine x_goto (pc2 := 87) hC dX7_takeOff_83 rfl ?_
          refine x_cVi (pc2 := 90) (ci := 0) hC hK (t_takenOff l hP hR1 hk oA.2 oC.1 oB.1 (by decide)) lk_646 rfl rfl (by decide) (by assumption) (by assumption) ⟨Nat.le_of_ble_eq_true rfl, Nat.le_of_ble_eq_true rfl⟩ ⟨Nat.le_refl _, Nat.le_refl _⟩ rfl (Nat.le_of_ble_eq_true rfl) dX7_takeOff_87 rfl ?_
          rintro z63 F63 A63 ⟨w63, t63⟩
          refine x_istore (pc2 := 92) (loc2 := [_, _, _, _, _, _, _]) hC (by decide) rfl dX7_takeOff_90 rfl ?_
          refine x_iload (pc2 := 94) hC rfl dX7_takeOff_92 rfl ?_
          refine x_if_eq (tgt := 106) (pc2 := 97) hC (by omega) dX7_takeOff_94 rfl rfl (fun h_94 => ?_) (fun h_94 => ?_)
          · obtain ⟨-, td, L, l1, l2, l3, tE⟩ := (t63 ()).resolve_left (fun q => q.1 h_94)
            have hR63 := hR1.fra hP tE.re tE.fr.1
            refine x_iinc (pc2 := 109) (loc2 := [_, _, _, _, _, _, _]) hC (by decide) rfl rfl dX7_takeOff_106 rfl ?_
            refine x_goto (pc2 := 62) hC dX7_takeOff_109 rfl ?_
            refine ih (k + 1) F63 A63 (by omega) (by omega) (by omega) hok hR63 (hD.step hk l1 l2 l3 tE.fr.2.1) (fun s sa sb => ?_)
            by_cases q : s = k
            · rw [q]; exact td
            · exact hdv s sa (by omega)
          · obtain ⟨-, td, tE⟩ := (t63 ()).resolve_right (fun q => h_94 q.1)
            have hR63 := hR1.fra hP tE.re tE.fr.1
            refine x_aload_n (pc2 := 98) hC rfl rfl dX7_takeOff_97 rfl ?_
            refine x_iload (pc2 := 100) hC rfl dX7_takeOff_98 rfl ?_
            refine x_iload (pc2 := 102) hC rfl dX7_takeOff_100 rfl ?_
            refine x_cVi (pc2 := 105) (ci := 7) hC hK (m_refuse l hP hR63) lk_630 rfl rfl (by decide) (by assumption) (by assumption) ⟨Nat.le_of_ble_eq_true rfl, Nat.le_of_ble_eq_true rfl⟩ ⟨Nat.le_refl _, Nat.le_refl _⟩ rfl (Nat.le_of_ble_eq_true rfl) dX7_takeOff_102 rfl ?_
            rintro z78 F78 A78 ⟨ez, hR78⟩
            exact x_iret hC hr hlk ⟨_, rfl, noS S k z63, Or.inr ⟨hok, Or.inl ⟨k, hk, hdv, fun q => h_94 (td.trans q), ez, congrArg (noS S k) td⟩⟩, hR78⟩ dX7_takeOff_105
  refine x_aload_n (pc2 := 1) hC rfl rfl dX7_takeOff_0 rfl ?_
  refine g_369 (pc2 := 4) hC hK (by assumption) (by assumption) (by assumption) dX7_takeOff_1 rfl ?_
  refine x_iload_n (pc2 := 5) hC rfl rfl dX7_takeOff_4 rfl ?_
  refine x_iconst (pc2 := 6) hC dX7_takeOff_5 rfl ?_
  refine x_cVi (pc2 := 9) (ci := 5) hC hK (p_hasBoxWith l hP hR0 hc (by decide)) lk_460 rfl rfl (by decide) (by assumption) (by assumption) ⟨Nat.le_of_ble_eq_true rfl, Nat.le_of_ble_eq_true rfl⟩ ⟨Nat.le_refl _, Nat.le_refl _⟩ rfl (Nat.le_of_ble_eq_true rfl) dX7_takeOff_6 rfl ?_
  rintro z6 F6 A6 ⟨w6, b6, e16, e26⟩
  obtain rfl := e16.symm
  obtain rfl := e26.symm
  refine x_if_eq (tgt := 36) (pc2 := 12) hC (by omega) dX7_takeOff_9 rfl rfl (fun h_9 => ?_) (fun h_9 => ?_)
  · refine x_iconst (pc2 := 37) hC dX7_takeOff_36 rfl ?_
    exact x_iret hC hr hlk ⟨_, rfl, S, Or.inl ⟨fun ⟨q1, q2⟩ => by first | exact absurd h_9 ((b6 ()).mpr q1.1) | exact absurd h_21 ((b18 ()).mpr q1.2.1) | exact absurd h_33 ((b30 ()).mpr q1.2.2) | omega, rfl, rfl⟩, hR0⟩ dX7_takeOff_37
  · refine x_aload_n (pc2 := 13) hC rfl rfl dX7_takeOff_12 rfl ?_
    refine g_369 (pc2 := 16) hC hK (by assumption) (by assumption) (by assumption) dX7_takeOff_13 rfl ?_
    refine x_iload_n (pc2 := 17) hC rfl rfl dX7_takeOff_16 rfl ?_
    refine x_iconst (pc2 := 18) hC dX7_takeOff_17 rfl ?_
    refine x_cVi (pc2 := 21) (ci := 5) hC hK (p_hasBoxWith l hP hR0 hw (by decide)) lk_460 rfl rfl (by decide) (by assumption) (by assumption) ⟨Nat.le_of_ble_eq_true rfl, Nat.le_of_ble_eq_true rfl⟩ ⟨Nat.le_refl _, Nat.le_refl _⟩ rfl (Nat.le_of_ble_eq_true rfl) dX7_takeOff_18 rfl ?_
    rintro z18 F18 A18 ⟨w18, b18, e118, e218⟩
    obtain rfl := e118.symm
    obtain rfl := e218.symm
    refine x_if_eq (tgt := 36) (pc2 := 24) hC (by omega) dX7_takeOff_21 rfl rfl (fun h_21 => ?_) (fun h_21 => ?_)
    · refine x_iconst (pc2 := 37) hC dX7_takeOff_36 rfl ?_
      exact x_iret hC hr hlk ⟨_, rfl, S, Or.inl ⟨fun ⟨q1, q2⟩ => by first | exact absurd h_9 ((b6 ()).mpr q1.1) | exact absurd h_21 ((b18 ()).mpr q1.2.1) | exact absurd h_33 ((b30 ()).mpr q1.2.2) | omega, rfl, rfl⟩, hR0⟩ dX7_takeOff_37
    · refine x_aload_n (pc2 := 25) hC rfl rfl dX7_takeOff_24 rfl ?_
      refine g_369 (pc2 := 28) hC hK (by assumption) (by assumption) (by assumption) dX7_takeOff_25 rfl ?_
      refine x_iload_n (pc2 := 29) hC rfl rfl dX7_takeOff_28 rfl ?_
      refine x_iconst (pc2 := 30) hC dX7_takeOff_29 rfl ?_
      refine x_cVi (pc2 := 33) (ci := 5) hC hK (p_hasBoxWith l hP hR0 ha (by decide)) lk_460 rfl rfl (by decide) (by assumption) (by assumption) ⟨Nat.le_of_ble_eq_true rfl, Nat.le_of_ble_eq_true rfl⟩ ⟨Nat.le_refl _, Nat.le_refl _⟩ rfl (Nat.le_of_ble_eq_true rfl) dX7_takeOff_30 rfl ?_
      rintro z30 F30 A30 ⟨w30, b30, e130, e230⟩
      obtain rfl := e130.symm
      obtain rfl := e230.symm
      refine x_if_ne (tgt := 38) (pc2 := 36) hC (by omega) dX7_takeOff_33 rfl rfl (fun h_33 => ?_) (fun h_33 => ?_)
      · refine x_iload (pc2 := 40) hC rfl dX7_takeOff_38 rfl ?_
        refine x_if_eq (tgt := 51) (pc2 := 43) hC (by omega) dX7_takeOff_40 rfl rfl (fun h_40 => ?_) (fun h_40 => ?_)
        · have hok := And.intro (And.intro ((b6 ()).mp h_9) (And.intro ((b18 ()).mp h_21) ((b30 ()).mp h_33))) (show s0 = 0 ∨ s0 = 1 by omega)
          obtain ⟨⟨oA, oB, oC⟩, oS⟩ := id hok
          refine x_aload_n (pc2 := 52) hC rfl rfl dX7_takeOff_51 rfl ?_
          refine g_370 (pc2 := 55) hC hK (by assumption) (by assumption) (by assumption) dX7_takeOff_52 rfl ?_
          refine x_iload_n (pc2 := 56) hC rfl rfl dX7_takeOff_55 rfl ?_
          refine x_cVv (pc2 := 59) (ci := 0) hC hK (p_start l hP hR0 oA.1) lk_464 rfl rfl (by decide) (by assumption) (by assumption) ⟨Nat.le_of_ble_eq_true rfl, Nat.le_of_ble_eq_true rfl⟩ ⟨Nat.le_refl _, Nat.le_refl _⟩ rfl (Nat.le_of_ble_eq_true rfl) dX7_takeOff_56 rfl ?_
          rintro F43 A43 ⟨hR43, hD43⟩
          refine x_iconst (pc2 := 60) hC dX7_takeOff_59 rfl ?_
          refine x_istore (pc2 := 62) (loc2 := [_, _, _, _, _, _, _]) hC (by decide) rfl dX7_takeOff_60 rfl ?_
          exact loop 5 0 F43 A43 (by omega) (by omega) (by omega) hok hR43 (hD43 _) (fun s sa sb => by omega)
        · refine x_iload (pc2 := 45) hC rfl dX7_takeOff_43 rfl ?_
          refine x_iconst (pc2 := 46) hC dX7_takeOff_45 rfl ?_
          refine x_icmp_eq (tgt := 51) (pc2 := 49) hC (by omega) (by omega) dX7_takeOff_46 rfl rfl (fun h_46 => ?_) (fun h_46 => ?_)
          · have hok := And.intro (And.intro ((b6 ()).mp h_9) (And.intro ((b18 ()).mp h_21) ((b30 ()).mp h_33))) (show s0 = 0 ∨ s0 = 1 by omega)
            obtain ⟨⟨oA, oB, oC⟩, oS⟩ := id hok
            refine x_aload_n (pc2 := 52) hC rfl rfl dX7_takeOff_51 rfl ?_
            refine g_370 (pc2 := 55) hC hK (by assumption) (by assumption) (by assumption) dX7_takeOff_52 rfl ?_
            refine x_iload_n (pc2 := 56) hC rfl rfl dX7_takeOff_55 rfl ?_
            refine x_cVv (pc2 := 59) (ci := 0) hC hK (p_start l hP hR0 oA.1) lk_464 rfl rfl (by decide) (by assumption) (by assumption) ⟨Nat.le_of_ble_eq_true rfl, Nat.le_of_ble_eq_true rfl⟩ ⟨Nat.le_refl _, Nat.le_refl _⟩ rfl (Nat.le_of_ble_eq_true rfl) dX7_takeOff_56 rfl ?_
            rintro F43 A43 ⟨hR43, hD43⟩
            refine x_iconst (pc2 := 60) hC dX7_takeOff_59 rfl ?_
            refine x_istore (pc2 := 62) (loc2 := [_, _, _, _, _, _, _]) hC (by decide) rfl dX7_takeOff_60 rfl ?_
            exact loop 5 0 F43 A43 (by omega) (by omega) (by omega) hok hR43 (hD43 _) (fun s sa sb => by omega)
          · refine x_iconst (pc2 := 50) hC dX7_takeOff_49 rfl ?_
            exact x_iret hC hr hlk ⟨_, rfl, S, Or.inl ⟨fun ⟨q1, q2⟩ => by first | exact absurd h_9 ((b6 ()).mpr q1.1) | exact absurd h_21 ((b18 ()).mpr q1.2.1) | exact absurd h_33 ((b30 ()).mpr q1.2.2) | omega, rfl, rfl⟩, hR0⟩ dX7_takeOff_50
      · refine x_iconst (pc2 := 37) hC dX7_takeOff_36 rfl ?_
        exact x_iret hC hr hlk ⟨_, rfl, S, Or.inl ⟨fun ⟨q1, q2⟩ => by first | exact absurd h_9 ((b6 ()).mpr q1.1) | exact absurd h_21 ((b18 ()).mpr q1.2.1) | exact absurd h_33 ((b30 ()).mpr q1.2.2) | omega, rfl, rfl⟩, hR0⟩ dX7_takeOff_37
theorem dX7_learn_0 : decode cX7_learn 0 = .ok (.aload_n 0, 1) := by decide +kernel
theorem dX7_learn_1 : decode cX7_learn 1 = .ok (.getfield 12, 3) := by decide +kernel
theorem dX7_learn_4 : decode cX7_learn 4 = .ok (.iload_n 1, 1) := by decide +kernel
theorem dX7_learn_5 : decode cX7_learn 5 = .ok (.iconst 2, 1) := by decide +kernel
theorem dX7_learn_6 : decode cX7_learn 6 = .ok (.invokevirtual 75, 3) := by decide +kernel
theorem dX7_learn_9 : decode cX7_learn 9 = .ok (.ifCond .eq 19, 3) := by decide +kernel
theorem dX7_learn_12 : decode cX7_learn 12 = .ok (.aload_n 0, 1) := by decide +kernel
theorem dX7_learn_13 : decode cX7_learn 13 = .ok (.iload_n 2, 1) := by decide +kernel
theorem dX7_learn_14 : decode cX7_learn 14 = .ok (.invokevirtual 102, 3) := by decide +kernel
theorem dX7_learn_17 : decode cX7_learn 17 = .ok (.ifCond .eq 11, 3) := by decide +kernel
theorem dX7_learn_20 : decode cX7_learn 20 = .ok (.aload_n 0, 1) := by decide +kernel
theorem dX7_learn_21 : decode cX7_learn 21 = .ok (.iload_n 3, 1) := by decide +kernel
theorem dX7_learn_22 : decode cX7_learn 22 = .ok (.invokevirtual 102, 3) := by decide +kernel
theorem dX7_learn_25 : decode cX7_learn 25 = .ok (.ifCond .ne 5, 3) := by decide +kernel
theorem dX7_learn_28 : decode cX7_learn 28 = .ok (.iconst (-1), 1) := by decide +kernel
theorem dX7_learn_29 : decode cX7_learn 29 = .ok (.ireturn, 1) := by decide +kernel
theorem dX7_learn_30 : decode cX7_learn 30 = .ok (.aload_n 0, 1) := by decide +kernel
theorem dX7_learn_31 : decode cX7_learn 31 = .ok (.getfield 21, 3) := by decide +kernel
theorem dX7_learn_34 : decode cX7_learn 34 = .ok (.iload_n 1, 1) := by decide +kernel
theorem dX7_learn_35 : decode cX7_learn 35 = .ok (.invokevirtual 79, 3) := by decide +kernel
theorem dX7_learn_38 : decode cX7_learn 38 = .ok (.iconst 0, 1) := by decide +kernel
theorem dX7_learn_39 : decode cX7_learn 39 = .ok (.istore 4, 2) := by decide +kernel
theorem dX7_learn_41 : decode cX7_learn 41 = .ok (.iload 4, 2) := by decide +kernel
theorem dX7_learn_43 : decode cX7_learn 43 = .ok (.iconst 4, 1) := by decide +kernel
theorem dX7_learn_44 : decode cX7_learn 44 = .ok (.if_icmp .ge 36, 3) := by decide +kernel
theorem dX7_learn_47 : decode cX7_learn 47 = .ok (.aload_n 0, 1) := by decide +kernel
theorem dX7_learn_48 : decode cX7_learn 48 = .ok (.getfield 21, 3) := by decide +kernel
theorem dX7_learn_51 : decode cX7_learn 51 = .ok (.iload 4, 2) := by decide +kernel
theorem dX7_learn_53 : decode cX7_learn 53 = .ok (.iload_n 2, 1) := by decide +kernel
theorem dX7_learn_54 : decode cX7_learn 54 = .ok (.iload_n 3, 1) := by decide +kernel
theorem dX7_learn_55 : decode cX7_learn 55 = .ok (.invokevirtual 105, 3) := by decide +kernel
theorem dX7_learn_58 : decode cX7_learn 58 = .ok (.istore 5, 2) := by decide +kernel
theorem dX7_learn_60 : decode cX7_learn 60 = .ok (.iload 5, 2) := by decide +kernel
theorem dX7_learn_62 : decode cX7_learn 62 = .ok (.ifCond .eq 12, 3) := by decide +kernel
theorem dX7_learn_65 : decode cX7_learn 65 = .ok (.aload_n 0, 1) := by decide +kernel
theorem dX7_learn_66 : decode cX7_learn 66 = .ok (.iload 4, 2) := by decide +kernel
theorem dX7_learn_68 : decode cX7_learn 68 = .ok (.iload 5, 2) := by decide +kernel
theorem dX7_learn_70 : decode cX7_learn 70 = .ok (.invokevirtual 86, 3) := by decide +kernel
theorem dX7_learn_73 : decode cX7_learn 73 = .ok (.ireturn, 1) := by decide +kernel
theorem dX7_learn_74 : decode cX7_learn 74 = .ok (.iinc 4 1, 3) := by decide +kernel
theorem dX7_learn_77 : decode cX7_learn 77 = .ok (.goto (-36), 3) := by decide +kernel
theorem dX7_learn_80 : decode cX7_learn 80 = .ok (.aload_n 0, 1) := by decide +kernel
theorem dX7_learn_81 : decode cX7_learn 81 = .ok (.iload_n 1, 1) := by decide +kernel
theorem dX7_learn_82 : decode cX7_learn 82 = .ok (.invokevirtual 89, 3) := by decide +kernel
theorem dX7_learn_85 : decode cX7_learn 85 = .ok (.ireturn, 1) := by decide +kernel
set_option maxHeartbeats 8000000 in
theorem c_learn (l : Launch) {D : va_G} {ids : Nat → ClassId} {β : Nat} {sh : Nat → Nat × Nat} {N : Nat} {R : Nat → Nat → Option Nat} {F : Nat → Nat → Int} {A : Nat → Int → Int} {S : SP} (hP : PbL sh R N) (hR0 : RepC sh R N S F A) {c0 a b : Int} (hc : I32 c0) (ha : I32 a) (hb : I32 b) : MetX l yX7_learn cX7_learn 6 (some (.int)) 7 192 D ids β sh N R F A [rf 0, pI c0, pI a, pI b] (pIr (fun z F2 A2 => ∃ S2, rLearn S c0 a b z S2 ∧ RepC sh R N S2 F2 A2)) := by
  refine MetX.of (loc := [_, _, _, _, _, _]) (plainFor_of_name (by decide +kernel)) (Nat.le_of_ble_eq_true rfl) rfl ?_
  intro p e s m args below meth c hC hK hr hlk
  obtain ⟨hAc, hAg, hJu, ⟨z1, z2⟩, r00, r01, r02⟩ := id hP
  have hShL := hAc.1
  obtain ⟨⟨j1, j2⟩, ⟨rs0, rs1, rs2, rs3, rs4⟩, ⟨j3, j4⟩, -⟩ := id hShL
  have hI := hR0.shI
  have hi := hR0.2.1
  have i1 := hi.1
  obtain ⟨q71, q72⟩ := hAc.2.2.1
  have loop : ∀ (d : Nat) (k : Int) (F1 : Nat → Nat → Int) (A1 : Nat → Int → Int) {eZ : Option PV}, 4 - k < d → 0 ≤ k → k ≤ 4 → (hasB S c0 2 ∧ has3 S a ∧ has3 S b) → RepC sh R N S F1 A1 → DrK S c0 (fun t e => learnX (lrnS S a b t) e) (A1 3) (F1 15 7) k → (∀ s, 0 ≤ s → s < k → (fun t => itC (det3 (lrnS S a b t) 0 1 2 = (0, 0)) 1 0) s = 0) → X p l e { frames := 7, cells := 0, slots := 0, locals := 192 } s m args below meth c (MQ below (QX D ids β sh N R (pIr (fun z F2 A2 => ∃ S2, rLearn S c0 a b z S2 ∧ RepC sh R N S2 F2 A2))) args s 0 0 (inG β N)) (inG β N) D ids β sh 6 0 0 N R F1 A1 [some (rf 0), some (pI c0), some (pI a), some (pI b), some (pI k), eZ] [] 41 := by
    intro d
    induction d with
    | zero => intro k F1 A1 eZ hd; omega
    | succ d ih =>
      intro k F1 A1 eZ hd k0 k4 hok hR1 hD hdv
      obtain ⟨oA, oB, oC⟩ := id hok
      refine x_iload (pc2 := 43) hC rfl dX7_learn_41 rfl ?_
      refine x_iconst (pc2 := 44) hC dX7_learn_43 rfl ?_
      refine x_icmp_ge (tgt := 80) (pc2 := 47) hC (by omega) (by omega) dX7_learn_44 rfl rfl (fun h_44 => ?_) (fun h_44 => ?_)
      · obtain rfl : k = 4 := by omega
        refine x_aload_n (pc2 := 81) hC rfl rfl dX7_learn_80 rfl ?_
        refine x_iload_n (pc2 := 82) hC rfl rfl dX7_learn_81 rfl ?_
        refine x_cVi (pc2 := 85) (ci := 7) hC hK (m_finish l hP hR1 oA.1 (bx := (fun t e => learnX (lrnS S a b t) e)) hD (fun p => absurd (oA.2.symm.trans p) (by decide))) lk_634 rfl rfl (by decide) (by assumption) (by assumption) ⟨Nat.le_of_ble_eq_true rfl, Nat.le_of_ble_eq_true rfl⟩ ⟨Nat.le_refl _, Nat.le_refl _⟩ rfl (Nat.le_of_ble_eq_true rfl) dX7_learn_82 rfl ?_
        rintro z90 F90 A90 ⟨S2, f1, f2⟩
        exact x_iret hC hr hlk ⟨_, rfl, S2, Or.inr ⟨hok, Or.inr ⟨fun t ht => hdv t ht.1 ht.2, f1⟩⟩, f2⟩ dX7_learn_85
      · have hk : isT k := by omega
        refine x_aload_n (pc2 := 48) hC rfl rfl dX7_learn_47 rfl ?_
        refine g_370 (pc2 := 51) hC hK (by assumption) (by assumption) (by assumption) dX7_learn_48 rfl ?_
        refine x_iload (pc2 := 53) hC rfl dX7_learn_51 rfl ?_
        refine x_iload_n (pc2 := 54) hC rfl rfl dX7_learn_53 rfl ?_
        refine x_iload_n (pc2 := 55) hC rfl rfl dX7_learn_54 rfl ?_
        refine x_cVi (pc2 := 58) (ci := 0) hC hK (t_learned l hP hR1 hk oA.2 ⟨oB.1.1.1, oB.2.2.1.2⟩ ⟨oC.1.1.1, oC.2.2.1.2⟩) lk_674 rfl rfl (by decide) (by assumption) (by assumption) ⟨Nat.le_of_ble_eq_true rfl, Nat.le_of_ble_eq_true rfl⟩ ⟨Nat.le_refl _, Nat.le_refl _⟩ rfl (Nat.le_of_ble_eq_true rfl) dX7_learn_55 rfl ?_
        rintro z63 F63 A63 ⟨w63, t63⟩
        refine x_istore (pc2 := 60) (loc2 := [_, _, _, _, _, _]) hC (by decide) rfl dX7_learn_58 rfl ?_
        refine x_iload (pc2 := 62) hC rfl dX7_learn_60 rfl ?_
        refine x_if_eq (tgt := 74) (pc2 := 65) hC (by omega) dX7_learn_62 rfl rfl (fun h_62 => ?_) (fun h_62 => ?_)
        · obtain ⟨-, td, L, l1, l2, l3, tE⟩ := (t63 ()).resolve_left (fun q => q.1 h_62)
          have hR63 := hR1.fra hP tE.re tE.fr.1
          refine x_iinc (pc2 := 77) (loc2 := [_, _, _, _, _, _]) hC (by decide) rfl rfl dX7_learn_74 rfl ?_
          refine x_goto (pc2 := 41) hC dX7_learn_77 rfl ?_
          refine ih (k + 1) F63 A63 (by omega) (by omega) (by omega) hok hR63 (hD.step hk l1 l2 l3 tE.fr.2.1) (fun s sa sb => ?_)
          by_cases q : s = k
          · rw [q]; exact td
          · exact hdv s sa (by omega)
        · obtain ⟨-, td, tE⟩ := (t63 ()).resolve_right (fun q => h_62 q.1)
          have hR63 := hR1.fra hP tE.re tE.fr.1
          refine x_aload_n (pc2 := 66) hC rfl rfl dX7_learn_65 rfl ?_
          refine x_iload (pc2 := 68) hC rfl dX7_learn_66 rfl ?_
          refine x_iload (pc2 := 70) hC rfl dX7_learn_68 rfl ?_
          refine x_cVi (pc2 := 73) (ci := 7) hC hK (m_refuse l hP hR63) lk_630 rfl rfl (by decide) (by assumption) (by assumption) ⟨Nat.le_of_ble_eq_true rfl, Nat.le_of_ble_eq_true rfl⟩ ⟨Nat.le_refl _, Nat.le_refl _⟩ rfl (Nat.le_of_ble_eq_true rfl) dX7_learn_70 rfl ?_
          rintro z78 F78 A78 ⟨ez, hR78⟩
          exact x_iret hC hr hlk ⟨_, rfl, noS S k z63, Or.inr ⟨hok, Or.inl ⟨k, hk, hdv, fun q => h_62 (td.trans q), ez, congrArg (noS S k) td⟩⟩, hR78⟩ dX7_learn_73
  refine x_aload_n (pc2 := 1) hC rfl rfl dX7_learn_0 rfl ?_
  refine g_369 (pc2 := 4) hC hK (by assumption) (by assumption) (by assumption) dX7_learn_1 rfl ?_
  refine x_iload_n (pc2 := 5) hC rfl rfl dX7_learn_4 rfl ?_
  refine x_iconst (pc2 := 6) hC dX7_learn_5 rfl ?_
  refine x_cVi (pc2 := 9) (ci := 5) hC hK (p_hasBoxWith l hP hR0 hc (by decide)) lk_460 rfl rfl (by decide) (by assumption) (by assumption) ⟨Nat.le_of_ble_eq_true rfl, Nat.le_of_ble_eq_true rfl⟩ ⟨Nat.le_refl _, Nat.le_refl _⟩ rfl (Nat.le_of_ble_eq_true rfl) dX7_learn_6 rfl ?_
  rintro z6 F6 A6 ⟨w6, b6, e16, e26⟩
  obtain rfl := e16.symm
  obtain rfl := e26.symm
  refine x_if_eq (tgt := 28) (pc2 := 12) hC (by omega) dX7_learn_9 rfl rfl (fun h_9 => ?_) (fun h_9 => ?_)
  · refine x_iconst (pc2 := 29) hC dX7_learn_28 rfl ?_
    exact x_iret hC hr hlk ⟨_, rfl, S, Or.inl ⟨fun ⟨q1, q2, q3⟩ => by first | exact absurd h_9 ((b6 ()).mpr q1) | exact absurd h_17 ((b14 ()).mpr q2) | exact absurd h_25 ((b22 ()).mpr q3), rfl, rfl⟩, hR0⟩ dX7_learn_29
  · refine x_aload_n (pc2 := 13) hC rfl rfl dX7_learn_12 rfl ?_
    refine x_iload_n (pc2 := 14) hC rfl rfl dX7_learn_13 rfl ?_
    refine x_cVi (pc2 := 17) (ci := 7) hC hK (m_has3 l hP hR0 ha) lk_670 rfl rfl (by decide) (by assumption) (by assumption) ⟨Nat.le_of_ble_eq_true rfl, Nat.le_of_ble_eq_true rfl⟩ ⟨Nat.le_refl _, Nat.le_refl _⟩ rfl (Nat.le_of_ble_eq_true rfl) dX7_learn_14 rfl ?_
    rintro z14 F14 A14 ⟨w14, b14, e114, e214⟩
    obtain rfl := e114.symm
    obtain rfl := e214.symm
    refine x_if_eq (tgt := 28) (pc2 := 20) hC (by omega) dX7_learn_17 rfl rfl (fun h_17 => ?_) (fun h_17 => ?_)
    · refine x_iconst (pc2 := 29) hC dX7_learn_28 rfl ?_
      exact x_iret hC hr hlk ⟨_, rfl, S, Or.inl ⟨fun ⟨q1, q2, q3⟩ => by first | exact absurd h_9 ((b6 ()).mpr q1) | exact absurd h_17 ((b14 ()).mpr q2) | exact absurd h_25 ((b22 ()).mpr q3), rfl, rfl⟩, hR0⟩ dX7_learn_29
    · refine x_aload_n (pc2 := 21) hC rfl rfl dX7_learn_20 rfl ?_
      refine x_iload_n (pc2 := 22) hC rfl rfl dX7_learn_21 rfl ?_
      refine x_cVi (pc2 := 25) (ci := 7) hC hK (m_has3 l hP hR0 hb) lk_670 rfl rfl (by decide) (by assumption) (by assumption) ⟨Nat.le_of_ble_eq_true rfl, Nat.le_of_ble_eq_true rfl⟩ ⟨Nat.le_refl _, Nat.le_refl _⟩ rfl (Nat.le_of_ble_eq_true rfl) dX7_learn_22 rfl ?_
      rintro z22 F22 A22 ⟨w22, b22, e122, e222⟩
      obtain rfl := e122.symm
      obtain rfl := e222.symm
      refine x_if_ne (tgt := 30) (pc2 := 28) hC (by omega) dX7_learn_25 rfl rfl (fun h_25 => ?_) (fun h_25 => ?_)
      · have hok := And.intro ((b6 ()).mp h_9) (And.intro ((b14 ()).mp h_17) ((b22 ()).mp h_25))
        obtain ⟨oA, oB, oC⟩ := id hok
        refine x_aload_n (pc2 := 31) hC rfl rfl dX7_learn_30 rfl ?_
        refine g_370 (pc2 := 34) hC hK (by assumption) (by assumption) (by assumption) dX7_learn_31 rfl ?_
        refine x_iload_n (pc2 := 35) hC rfl rfl dX7_learn_34 rfl ?_
        refine x_cVv (pc2 := 38) (ci := 0) hC hK (p_start l hP hR0 oA.1) lk_464 rfl rfl (by decide) (by assumption) (by assumption) ⟨Nat.le_of_ble_eq_true rfl, Nat.le_of_ble_eq_true rfl⟩ ⟨Nat.le_refl _, Nat.le_refl _⟩ rfl (Nat.le_of_ble_eq_true rfl) dX7_learn_35 rfl ?_
        rintro F43 A43 ⟨hR43, hD43⟩
        refine x_iconst (pc2 := 39) hC dX7_learn_38 rfl ?_
        refine x_istore (pc2 := 41) (loc2 := [_, _, _, _, _, _]) hC (by decide) rfl dX7_learn_39 rfl ?_
        exact loop 5 0 F43 A43 (by omega) (by omega) (by omega) hok hR43 (hD43 _) (fun s sa sb => by omega)
      · refine x_iconst (pc2 := 29) hC dX7_learn_28 rfl ?_
        exact x_iret hC hr hlk ⟨_, rfl, S, Or.inl ⟨fun ⟨q1, q2, q3⟩ => by first | exact absurd h_9 ((b6 ()).mpr q1) | exact absurd h_17 ((b14 ()).mpr q2) | exact absurd h_25 ((b22 ()).mpr q3), rfl, rfl⟩, hR0⟩ dX7_learn_29
theorem dX7_time_0 : decode cX7_time 0 = .ok (.aload_n 0, 1) := by decide +kernel
theorem dX7_time_1 : decode cX7_time 1 = .ok (.getfield 12, 3) := by decide +kernel
theorem dX7_time_4 : decode cX7_time 4 = .ok (.iload_n 1, 1) := by decide +kernel
theorem dX7_time_5 : decode cX7_time 5 = .ok (.iconst 1, 1) := by decide +kernel
theorem dX7_time_6 : decode cX7_time 6 = .ok (.invokevirtual 75, 3) := by decide +kernel
theorem dX7_time_9 : decode cX7_time 9 = .ok (.ifCond .eq 17, 3) := by decide +kernel
theorem dX7_time_12 : decode cX7_time 12 = .ok (.aload_n 0, 1) := by decide +kernel
theorem dX7_time_13 : decode cX7_time 13 = .ok (.getfield 12, 3) := by decide +kernel
theorem dX7_time_16 : decode cX7_time 16 = .ok (.iload_n 2, 1) := by decide +kernel
theorem dX7_time_17 : decode cX7_time 17 = .ok (.iload_n 3, 1) := by decide +kernel
theorem dX7_time_18 : decode cX7_time 18 = .ok (.iload 4, 2) := by decide +kernel
theorem dX7_time_20 : decode cX7_time 20 = .ok (.invokevirtual 47, 3) := by decide +kernel
theorem dX7_time_23 : decode cX7_time 23 = .ok (.ifCond .ne 5, 3) := by decide +kernel
theorem dX7_time_26 : decode cX7_time 26 = .ok (.iconst (-1), 1) := by decide +kernel
theorem dX7_time_27 : decode cX7_time 27 = .ok (.ireturn, 1) := by decide +kernel
theorem dX7_time_28 : decode cX7_time 28 = .ok (.aload_n 0, 1) := by decide +kernel
theorem dX7_time_29 : decode cX7_time 29 = .ok (.getfield 21, 3) := by decide +kernel
theorem dX7_time_32 : decode cX7_time 32 = .ok (.iload_n 1, 1) := by decide +kernel
theorem dX7_time_33 : decode cX7_time 33 = .ok (.invokevirtual 79, 3) := by decide +kernel
theorem dX7_time_36 : decode cX7_time 36 = .ok (.iconst 0, 1) := by decide +kernel
theorem dX7_time_37 : decode cX7_time 37 = .ok (.istore 5, 2) := by decide +kernel
theorem dX7_time_39 : decode cX7_time 39 = .ok (.iload 5, 2) := by decide +kernel
theorem dX7_time_41 : decode cX7_time 41 = .ok (.iconst 4, 1) := by decide +kernel
theorem dX7_time_42 : decode cX7_time 42 = .ok (.if_icmp .ge 25, 3) := by decide +kernel
theorem dX7_time_45 : decode cX7_time 45 = .ok (.aload_n 0, 1) := by decide +kernel
theorem dX7_time_46 : decode cX7_time 46 = .ok (.getfield 21, 3) := by decide +kernel
theorem dX7_time_49 : decode cX7_time 49 = .ok (.iload 5, 2) := by decide +kernel
theorem dX7_time_51 : decode cX7_time 51 = .ok (.iload_n 2, 1) := by decide +kernel
theorem dX7_time_52 : decode cX7_time 52 = .ok (.iload_n 3, 1) := by decide +kernel
theorem dX7_time_53 : decode cX7_time 53 = .ok (.iload 4, 2) := by decide +kernel
theorem dX7_time_55 : decode cX7_time 55 = .ok (.invokestatic 58, 3) := by decide +kernel
theorem dX7_time_58 : decode cX7_time 58 = .ok (.invokevirtual 111, 3) := by decide +kernel
theorem dX7_time_61 : decode cX7_time 61 = .ok (.iinc 5 1, 3) := by decide +kernel
theorem dX7_time_64 : decode cX7_time 64 = .ok (.goto (-25), 3) := by decide +kernel
theorem dX7_time_67 : decode cX7_time 67 = .ok (.aload_n 0, 1) := by decide +kernel
theorem dX7_time_68 : decode cX7_time 68 = .ok (.iload_n 1, 1) := by decide +kernel
theorem dX7_time_69 : decode cX7_time 69 = .ok (.invokevirtual 89, 3) := by decide +kernel
theorem dX7_time_72 : decode cX7_time 72 = .ok (.ireturn, 1) := by decide +kernel
set_option maxHeartbeats 8000000 in
theorem c_time (l : Launch) {D : va_G} {ids : Nat → ClassId} {β : Nat} {sh : Nat → Nat × Nat} {N : Nat} {R : Nat → Nat → Option Nat} {F : Nat → Nat → Int} {A : Nat → Int → Int} {S : SP} (hP : PbL sh R N) (hR0 : RepC sh R N S F A) {c0 a i j : Int} (hc : I32 c0) (ha : I32 a) (hi2 : I32 i) (hj : I32 j) : MetX l yX7_time cX7_time 6 (some (.int)) 7 189 D ids β sh N R F A [rf 0, pI c0, pI a, pI i, pI j] (pIr (fun z F2 A2 => ∃ S2, rTime S c0 a i j z S2 ∧ RepC sh R N S2 F2 A2)) := by
  refine MetX.of (loc := [_, _, _, _, _, _]) (plainFor_of_name (by decide +kernel)) (Nat.le_of_ble_eq_true rfl) rfl ?_
  intro p e s m args below meth c hC hK hr hlk
  obtain ⟨hAc, hAg, hJu, ⟨z1, z2⟩, r00, r01, r02⟩ := id hP
  have hShL := hAc.1
  obtain ⟨⟨j1, j2⟩, ⟨rs0, rs1, rs2, rs3, rs4⟩, ⟨j3, j4⟩, -⟩ := id hShL
  have hI := hR0.shI
  have hi := hR0.2.1
  have i1 := hi.1
  obtain ⟨q71, q72⟩ := hAc.2.2.1
  have loop : ∀ (d : Nat) (k : Int) (F1 : Nat → Nat → Int) (A1 : Nat → Int → Int), 4 - k < d → 0 ≤ k → k ≤ 4 → (hasB S c0 1 ∧ isE S a i j) → isT (2 * i + j) → RepC sh R N S F1 A1 → DrK S c0 (fun n e => timeX (fun t => nm S a t (2 * i + j)) n e) (A1 3) (F1 15 7) k → X p l e { frames := 7, cells := 0, slots := 0, locals := 189 } s m args below meth c (MQ below (QX D ids β sh N R (pIr (fun z F2 A2 => ∃ S2, rTime S c0 a i j z S2 ∧ RepC sh R N S2 F2 A2))) args s 0 0 (inG β N)) (inG β N) D ids β sh 6 0 0 N R F1 A1 [some (rf 0), some (pI c0), some (pI a), some (pI i), some (pI j), some (pI k)] [] 39 := by
    intro d
    induction d with
    | zero => intro k F1 A1 hd; omega
    | succ d ih =>
      intro k F1 A1 hd k0 k4 hok he4 hR1 hD
      obtain ⟨oA, oB⟩ := id hok
      refine x_iload (pc2 := 41) hC rfl dX7_time_39 rfl ?_
      refine x_iconst (pc2 := 42) hC dX7_time_41 rfl ?_
      refine x_icmp_ge (tgt := 67) (pc2 := 45) hC (by omega) (by omega) dX7_time_42 rfl rfl (fun h_42 => ?_) (fun h_42 => ?_)
      · obtain rfl : k = 4 := by omega
        refine x_aload_n (pc2 := 68) hC rfl rfl dX7_time_67 rfl ?_
        refine x_iload_n (pc2 := 69) hC rfl rfl dX7_time_68 rfl ?_
        refine x_cVi (pc2 := 72) (ci := 7) hC hK (m_finish l hP hR1 oA.1 (bx := (fun n e => timeX (fun t => nm S a t (2 * i + j)) n e)) hD (fun _ t e _ _ he => if_neg he)) lk_634 rfl rfl (by decide) (by assumption) (by assumption) ⟨Nat.le_of_ble_eq_true rfl, Nat.le_of_ble_eq_true rfl⟩ ⟨Nat.le_refl _, Nat.le_refl _⟩ rfl (Nat.le_of_ble_eq_true rfl) dX7_time_69 rfl ?_
        rintro z69 F69 A69 ⟨S2, f1, f2⟩
        exact x_iret hC hr hlk ⟨_, rfl, S2, Or.inr ⟨hok, Or.inr ⟨fun t ht => rfl, f1⟩⟩, f2⟩ dX7_time_72
      · have hk : isT k := by omega
        refine x_aload_n (pc2 := 46) hC rfl rfl dX7_time_45 rfl ?_
        refine g_370 (pc2 := 49) hC hK (by assumption) (by assumption) (by assumption) dX7_time_46 rfl ?_
        refine x_iload (pc2 := 51) hC rfl dX7_time_49 rfl ?_
        refine x_iload_n (pc2 := 52) hC rfl rfl dX7_time_51 rfl ?_
        refine x_iload_n (pc2 := 53) hC rfl rfl dX7_time_52 rfl ?_
        refine x_iload (pc2 := 55) hC rfl dX7_time_53 rfl ?_
        refine x_cSi (pc2 := 58) hC hK (m_entry l) lk_423 rfl ⟨Nat.le_of_ble_eq_true rfl, Nat.le_of_ble_eq_true rfl⟩ ⟨Nat.le_refl _, Nat.le_refl _⟩ rfl (Nat.le_of_ble_eq_true rfl) dX7_time_55 rfl ?_
        rintro z55 F55 A55 ⟨rfl, e155, e255⟩
        obtain rfl := e155.symm
        obtain rfl := e255.symm
        refine x_cVv (pc2 := 61) (ci := 0) hC hK (t_inTime l hP hR1 hk oA.2 oB.1 he4) lk_702 rfl rfl (by decide) (by assumption) (by assumption) ⟨Nat.le_of_ble_eq_true rfl, Nat.le_of_ble_eq_true rfl⟩ ⟨Nat.le_refl _, Nat.le_refl _⟩ rfl (Nat.le_of_ble_eq_true rfl) dX7_time_58 rfl ?_
        rintro F58 A58 ⟨L, l1, l2, l3, tE⟩
        have hR58 := hR1.fra hP tE.re tE.fr.1
        refine x_iinc (pc2 := 64) (loc2 := [_, _, _, _, _, _]) hC (by decide) rfl rfl dX7_time_61 rfl ?_
        refine x_goto (pc2 := 39) hC dX7_time_64 rfl ?_
        refine ih (k + 1) F58 A58 (by omega) (by omega) (by omega) hok he4 hR58 (hD.step hk l1 l2 l3 tE.fr.2.1)
  refine x_aload_n (pc2 := 1) hC rfl rfl dX7_time_0 rfl ?_
  refine g_369 (pc2 := 4) hC hK (by assumption) (by assumption) (by assumption) dX7_time_1 rfl ?_
  refine x_iload_n (pc2 := 5) hC rfl rfl dX7_time_4 rfl ?_
  refine x_iconst (pc2 := 6) hC dX7_time_5 rfl ?_
  refine x_cVi (pc2 := 9) (ci := 5) hC hK (p_hasBoxWith l hP hR0 hc (by decide)) lk_460 rfl rfl (by decide) (by assumption) (by assumption) ⟨Nat.le_of_ble_eq_true rfl, Nat.le_of_ble_eq_true rfl⟩ ⟨Nat.le_refl _, Nat.le_refl _⟩ rfl (Nat.le_of_ble_eq_true rfl) dX7_time_6 rfl ?_
  rintro z6 F6 A6 ⟨w6, b6, e16, e26⟩
  obtain rfl := e16.symm
  obtain rfl := e26.symm
  refine x_if_eq (tgt := 26) (pc2 := 12) hC (by omega) dX7_time_9 rfl rfl (fun h_9 => ?_) (fun h_9 => ?_)
  · refine x_iconst (pc2 := 27) hC dX7_time_26 rfl ?_
    exact x_iret hC hr hlk ⟨_, rfl, S, Or.inl ⟨fun ⟨q1, q2⟩ => by first | exact absurd h_9 ((b6 ()).mpr q1) | exact absurd h_23 ((b20 ()).mpr q2), rfl, rfl⟩, hR0⟩ dX7_time_27
  · refine x_aload_n (pc2 := 13) hC rfl rfl dX7_time_12 rfl ?_
    refine g_369 (pc2 := 16) hC hK (by assumption) (by assumption) (by assumption) dX7_time_13 rfl ?_
    refine x_iload_n (pc2 := 17) hC rfl rfl dX7_time_16 rfl ?_
    refine x_iload_n (pc2 := 18) hC rfl rfl dX7_time_17 rfl ?_
    refine x_iload (pc2 := 20) hC rfl dX7_time_18 rfl ?_
    refine x_cVi (pc2 := 23) (ci := 5) hC hK (p_hasEntry l hP hR0 ha hi2 hj) lk_403 rfl rfl (by decide) (by assumption) (by assumption) ⟨Nat.le_of_ble_eq_true rfl, Nat.le_of_ble_eq_true rfl⟩ ⟨Nat.le_refl _, Nat.le_refl _⟩ rfl (Nat.le_of_ble_eq_true rfl) dX7_time_20 rfl ?_
    rintro z20 F20 A20 ⟨w20, b20, e120, e220⟩
    obtain rfl := e120.symm
    obtain rfl := e220.symm
    refine x_if_ne (tgt := 28) (pc2 := 26) hC (by omega) dX7_time_23 rfl rfl (fun h_23 => ?_) (fun h_23 => ?_)
    · have hok := And.intro ((b6 ()).mp h_9) ((b20 ()).mp h_23)
      obtain ⟨oA, oB⟩ := id hok
      have ptc := (hi.2.1 a oB.1).1
      have he4 : isT (2 * i + j) := by have := oB.2; omega
      refine x_aload_n (pc2 := 29) hC rfl rfl dX7_time_28 rfl ?_
      refine g_370 (pc2 := 32) hC hK (by assumption) (by assumption) (by assumption) dX7_time_29 rfl ?_
      refine x_iload_n (pc2 := 33) hC rfl rfl dX7_time_32 rfl ?_
      refine x_cVv (pc2 := 36) (ci := 0) hC hK (p_start l hP hR0 oA.1) lk_464 rfl rfl (by decide) (by assumption) (by assumption) ⟨Nat.le_of_ble_eq_true rfl, Nat.le_of_ble_eq_true rfl⟩ ⟨Nat.le_refl _, Nat.le_refl _⟩ rfl (Nat.le_of_ble_eq_true rfl) dX7_time_33 rfl ?_
      rintro F33 A33 ⟨hR33, hD33⟩
      refine x_iconst (pc2 := 37) hC dX7_time_36 rfl ?_
      refine x_istore (pc2 := 39) (loc2 := [_, _, _, _, _, _]) hC (by decide) rfl dX7_time_37 rfl ?_
      exact loop 5 0 F33 A33 (by omega) (by omega) (by omega) hok he4 hR33 (hD33 _)
    · refine x_iconst (pc2 := 27) hC dX7_time_26 rfl ?_
      exact x_iret hC hr hlk ⟨_, rfl, S, Or.inl ⟨fun ⟨q1, q2⟩ => by first | exact absurd h_9 ((b6 ()).mpr q1) | exact absurd h_23 ((b20 ()).mpr q2), rfl, rfl⟩, hR0⟩ dX7_time_27
