theorem dX7_turn_0 : decode cX7_turn 0 = .ok (.aload_n 0, 1) := by decide +kernel
theorem dX7_turn_1 : decode cX7_turn 1 = .ok (.getfield 12, 3) := by decide +kernel
theorem dX7_turn_4 : decode cX7_turn 4 = .ok (.iload_n 1, 1) := by decide +kernel
theorem dX7_turn_5 : decode cX7_turn 5 = .ok (.iconst 2, 1) := by decide +kernel
theorem dX7_turn_6 : decode cX7_turn 6 = .ok (.invokevirtual 75, 3) := by decide +kernel
theorem dX7_turn_9 : decode cX7_turn 9 = .ok (.ifCond .eq 15, 3) := by decide +kernel
theorem dX7_turn_12 : decode cX7_turn 12 = .ok (.aload_n 0, 1) := by decide +kernel
theorem dX7_turn_13 : decode cX7_turn 13 = .ok (.getfield 12, 3) := by decide +kernel
theorem dX7_turn_16 : decode cX7_turn 16 = .ok (.iload_n 2, 1) := by decide +kernel
theorem dX7_turn_17 : decode cX7_turn 17 = .ok (.iconst 2, 1) := by decide +kernel
theorem dX7_turn_18 : decode cX7_turn 18 = .ok (.invokevirtual 75, 3) := by decide +kernel
theorem dX7_turn_21 : decode cX7_turn 21 = .ok (.ifCond .ne 5, 3) := by decide +kernel
theorem dX7_turn_24 : decode cX7_turn 24 = .ok (.iconst (-1), 1) := by decide +kernel
theorem dX7_turn_25 : decode cX7_turn 25 = .ok (.ireturn, 1) := by decide +kernel
theorem dX7_turn_26 : decode cX7_turn 26 = .ok (.aload_n 0, 1) := by decide +kernel
theorem dX7_turn_27 : decode cX7_turn 27 = .ok (.getfield 12, 3) := by decide +kernel
theorem dX7_turn_30 : decode cX7_turn 30 = .ok (.iload_n 2, 1) := by decide +kernel
theorem dX7_turn_31 : decode cX7_turn 31 = .ok (.invokevirtual 96, 3) := by decide +kernel
theorem dX7_turn_34 : decode cX7_turn 34 = .ok (.aload_n 0, 1) := by decide +kernel
theorem dX7_turn_35 : decode cX7_turn 35 = .ok (.getfield 12, 3) := by decide +kernel
theorem dX7_turn_38 : decode cX7_turn 38 = .ok (.iload_n 1, 1) := by decide +kernel
theorem dX7_turn_39 : decode cX7_turn 39 = .ok (.invokevirtual 66, 3) := by decide +kernel
theorem dX7_turn_42 : decode cX7_turn 42 = .ok (.iconst 0, 1) := by decide +kernel
theorem dX7_turn_43 : decode cX7_turn 43 = .ok (.ireturn, 1) := by decide +kernel
set_option maxHeartbeats 4000000 in
theorem c_turn (l : Launch) {D : va_G} {ids : Nat → ClassId} {β : Nat} {sh : Nat → Nat × Nat} {N : Nat} {R : Nat → Nat → Option Nat} {F : Nat → Nat → Int} {A : Nat → Int → Int} {S : SP} (hP : PbL sh R N) (hR0 : RepC sh R N S F A) {c0 a : Int} (hc : I32 c0) (ha : I32 a) : MetX l yX7_turn cX7_turn 3 (some (.int)) 2 50 D ids β sh N R F A [rf 0, pI c0, pI a] (pIr (RepO sh R N (oTurn S c0 a))) := by
  refine MetX.of (loc := [_, _, _]) (plainFor_of_name (by decide +kernel)) (Nat.le_of_ble_eq_true rfl) rfl ?_
  intro p e s m args below meth c hC hK hr hlk
  obtain ⟨hAc, hAg, hJu, ⟨z1, z2⟩, r00, r01, r02⟩ := id hP
  have hShL := hAc.1
  obtain ⟨⟨j1, j2⟩, ⟨s0, s1, s2, s3, s4⟩, ⟨j3, j4⟩, -⟩ := id hShL
  have hI := hR0.shI
  have hi := hR0.2.1
  have i1 := hi.1
  refine x_aload_n (pc2 := 1) hC rfl rfl dX7_turn_0 rfl ?_
  refine g_369 (pc2 := 4) hC hK (by assumption) (by assumption) (by assumption) dX7_turn_1 rfl ?_
  refine x_iload_n (pc2 := 5) hC rfl rfl dX7_turn_4 rfl ?_
  refine x_iconst (pc2 := 6) hC dX7_turn_5 rfl ?_
  refine x_cVi (pc2 := 9) (ci := 5) hC hK (p_hasBoxWith l hP hR0 hc (by decide)) lk_460 rfl rfl (by decide) (by assumption) (by assumption) ⟨Nat.le_of_ble_eq_true rfl, Nat.le_of_ble_eq_true rfl⟩ ⟨Nat.le_refl _, Nat.le_refl _⟩ rfl (Nat.le_of_ble_eq_true rfl) dX7_turn_6 rfl ?_
  rintro z6 F6 A6 ⟨w6, b6, e16, e26⟩
  obtain rfl := e16.symm
  obtain rfl := e26.symm
  refine x_if_eq (tgt := 24) (pc2 := 12) hC (by omega) dX7_turn_9 rfl rfl (fun h_9 => ?_) (fun h_9 => ?_)
  · refine x_iconst (pc2 := 25) hC dX7_turn_24 rfl ?_
    exact x_iret hC hr hlk ⟨_, rfl, RepO.of (by rw [oTurn, itO_neg (fun ⟨q1, q2⟩ => by first | exact absurd h_9 ((b6 ()).mpr q1) | exact absurd h_21 ((b18 ()).mpr q2))]) hR0⟩ dX7_turn_25
  · refine x_aload_n (pc2 := 13) hC rfl rfl dX7_turn_12 rfl ?_
    refine g_369 (pc2 := 16) hC hK (by assumption) (by assumption) (by assumption) dX7_turn_13 rfl ?_
    refine x_iload_n (pc2 := 17) hC rfl rfl dX7_turn_16 rfl ?_
    refine x_iconst (pc2 := 18) hC dX7_turn_17 rfl ?_
    refine x_cVi (pc2 := 21) (ci := 5) hC hK (p_hasBoxWith l hP hR0 ha (by decide)) lk_460 rfl rfl (by decide) (by assumption) (by assumption) ⟨Nat.le_of_ble_eq_true rfl, Nat.le_of_ble_eq_true rfl⟩ ⟨Nat.le_refl _, Nat.le_refl _⟩ rfl (Nat.le_of_ble_eq_true rfl) dX7_turn_18 rfl ?_
    rintro z18 F18 A18 ⟨w18, b18, e118, e218⟩
    obtain rfl := e118.symm
    obtain rfl := e218.symm
    refine x_if_ne (tgt := 26) (pc2 := 24) hC (by omega) dX7_turn_21 rfl rfl (fun h_21 => ?_) (fun h_21 => ?_)
    · have hB1 := (b6 ()).mp h_9
      have hB2 := (b18 ()).mp h_21
      refine x_aload_n (pc2 := 27) hC rfl rfl dX7_turn_26 rfl ?_
      refine g_369 (pc2 := 30) hC hK (by assumption) (by assumption) (by assumption) dX7_turn_27 rfl ?_
      refine x_iload_n (pc2 := 31) hC rfl rfl dX7_turn_30 rfl ?_
      refine x_cVv (pc2 := 34) (ci := 5) hC hK (m_draftTurned l hShL hI ⟨hB2.1.1, by have := hB2.1.2; omega⟩) lk_654 rfl rfl (by decide) (by assumption) (by assumption) ⟨Nat.le_of_ble_eq_true rfl, Nat.le_of_ble_eq_true rfl⟩ ⟨Nat.le_refl _, Nat.le_refl _⟩ rfl (Nat.le_of_ble_eq_true rfl) dX7_turn_31 rfl ?_
      rintro F31 A31 ⟨rfl, d1, d2⟩
      have hR1 := hR0.dr hP (fun _ _ => rfl) d1 rfl rfl hR0.1.fr.2.2
      have hdd : ∀ t0 e0, isT t0 → isT e0 → holdT (A31 3) (t0 * 36 + e0 * 9) ((fun t e => vS S a t (3 - e)) t0 e0) := by
        intro t0 e0 ht0 he0
        refine holdT_of (fun k k0 k1 => ?_) (hR0.2.2.2.1.1 a t0 (3 - e0) hB2.1 ht0 (by omega))
        have := d2 t0 (3 - e0) k ht0.1 ht0.2 (by omega) (by omega) k0 k1
        rwa [show 3 - (3 - e0) = e0 by omega] at this
      have hwf : wfB (ptS S c0) (fun t e => vS S a t (3 - e)) := by
        intro t0 e0 ht0 he0
        refine ⟨((hi.2.1 a hB2.1).2 t0 (3 - e0) ht0 (by omega)).1, fun p1 _ => ?_⟩
        rw [hB1.2] at p1
        exact absurd p1 (by decide)
      refine x_aload_n (pc2 := 35) hC rfl rfl dX7_turn_34 rfl ?_
      refine g_369 (pc2 := 38) hC hK (by assumption) (by assumption) (by assumption) dX7_turn_35 rfl ?_
      refine x_iload_n (pc2 := 39) hC rfl rfl dX7_turn_38 rfl ?_
      refine x_cVv (pc2 := 42) (ci := 5) hC hK (p_keepDraft l hP hR1 hB1.1 hwf hdd) lk_436 rfl rfl (by decide) (by assumption) (by assumption) ⟨Nat.le_of_ble_eq_true rfl, Nat.le_of_ble_eq_true rfl⟩ ⟨Nat.le_refl _, Nat.le_refl _⟩ rfl (Nat.le_of_ble_eq_true rfl) dX7_turn_39 rfl ?_
      rintro F39 A39 hR3
      refine x_iconst (pc2 := 43) hC dX7_turn_42 rfl ?_
      exact x_iret hC hr hlk ⟨_, rfl, RepO.of (by rw [oTurn, itO_pos ⟨hB1, hB2⟩]) hR3⟩ dX7_turn_43
    · refine x_iconst (pc2 := 25) hC dX7_turn_24 rfl ?_
      exact x_iret hC hr hlk ⟨_, rfl, RepO.of (by rw [oTurn, itO_neg (fun ⟨q1, q2⟩ => by first | exact absurd h_9 ((b6 ()).mpr q1) | exact absurd h_21 ((b18 ()).mpr q2))]) hR0⟩ dX7_turn_25
theorem dX7_step_0 : decode cX7_step 0 = .ok (.aload_n 0, 1) := by decide +kernel
theorem dX7_step_1 : decode cX7_step 1 = .ok (.getfield 12, 3) := by decide +kernel
theorem dX7_step_4 : decode cX7_step 4 = .ok (.iload_n 1, 1) := by decide +kernel
theorem dX7_step_5 : decode cX7_step 5 = .ok (.iconst 2, 1) := by decide +kernel
theorem dX7_step_6 : decode cX7_step 6 = .ok (.invokevirtual 75, 3) := by decide +kernel
theorem dX7_step_9 : decode cX7_step 9 = .ok (.ifCond .eq 27, 3) := by decide +kernel
theorem dX7_step_12 : decode cX7_step 12 = .ok (.iload_n 2, 1) := by decide +kernel
theorem dX7_step_13 : decode cX7_step 13 = .ok (.iconst 1, 1) := by decide +kernel
theorem dX7_step_14 : decode cX7_step 14 = .ok (.if_icmp .lt 22, 3) := by decide +kernel
theorem dX7_step_17 : decode cX7_step 17 = .ok (.iload_n 2, 1) := by decide +kernel
theorem dX7_step_18 : decode cX7_step 18 = .ok (.sipush 10000, 3) := by decide +kernel
theorem dX7_step_21 : decode cX7_step 21 = .ok (.if_icmp .gt 15, 3) := by decide +kernel
theorem dX7_step_24 : decode cX7_step 24 = .ok (.iload_n 3, 1) := by decide +kernel
theorem dX7_step_25 : decode cX7_step 25 = .ok (.iconst 1, 1) := by decide +kernel
theorem dX7_step_26 : decode cX7_step 26 = .ok (.if_icmp .lt 10, 3) := by decide +kernel
theorem dX7_step_29 : decode cX7_step 29 = .ok (.iload_n 3, 1) := by decide +kernel
theorem dX7_step_30 : decode cX7_step 30 = .ok (.sipush 10000, 3) := by decide +kernel
theorem dX7_step_33 : decode cX7_step 33 = .ok (.if_icmp .le 5, 3) := by decide +kernel
theorem dX7_step_36 : decode cX7_step 36 = .ok (.iconst (-1), 1) := by decide +kernel
theorem dX7_step_37 : decode cX7_step 37 = .ok (.ireturn, 1) := by decide +kernel
theorem dX7_step_38 : decode cX7_step 38 = .ok (.iconst 0, 1) := by decide +kernel
theorem dX7_step_39 : decode cX7_step 39 = .ok (.istore 4, 2) := by decide +kernel
theorem dX7_step_41 : decode cX7_step 41 = .ok (.iload 4, 2) := by decide +kernel
theorem dX7_step_43 : decode cX7_step 43 = .ok (.iconst 4, 1) := by decide +kernel
theorem dX7_step_44 : decode cX7_step 44 = .ok (.if_icmp .ge 93, 3) := by decide +kernel
theorem dX7_step_47 : decode cX7_step 47 = .ok (.aload_n 0, 1) := by decide +kernel
theorem dX7_step_48 : decode cX7_step 48 = .ok (.getfield 12, 3) := by decide +kernel
theorem dX7_step_51 : decode cX7_step 51 = .ok (.iload 4, 2) := by decide +kernel
theorem dX7_step_53 : decode cX7_step 53 = .ok (.iconst 0, 1) := by decide +kernel
theorem dX7_step_54 : decode cX7_step 54 = .ok (.iconst 0, 1) := by decide +kernel
theorem dX7_step_55 : decode cX7_step 55 = .ok (.invokestatic 58, 3) := by decide +kernel
theorem dX7_step_58 : decode cX7_step 58 = .ok (.iload_n 2, 1) := by decide +kernel
theorem dX7_step_59 : decode cX7_step 59 = .ok (.iload_n 3, 1) := by decide +kernel
theorem dX7_step_60 : decode cX7_step 60 = .ok (.isub, 1) := by decide +kernel
theorem dX7_step_61 : decode cX7_step 61 = .ok (.iconst 0, 1) := by decide +kernel
theorem dX7_step_62 : decode cX7_step 62 = .ok (.iload_n 2, 1) := by decide +kernel
theorem dX7_step_63 : decode cX7_step 63 = .ok (.iload_n 3, 1) := by decide +kernel
theorem dX7_step_64 : decode cX7_step 64 = .ok (.iadd, 1) := by decide +kernel
theorem dX7_step_65 : decode cX7_step 65 = .ok (.invokevirtual 62, 3) := by decide +kernel
theorem dX7_step_68 : decode cX7_step 68 = .ok (.aload_n 0, 1) := by decide +kernel
theorem dX7_step_69 : decode cX7_step 69 = .ok (.getfield 12, 3) := by decide +kernel
theorem dX7_step_72 : decode cX7_step 72 = .ok (.iload 4, 2) := by decide +kernel
theorem dX7_step_74 : decode cX7_step 74 = .ok (.iconst 1, 1) := by decide +kernel
theorem dX7_step_75 : decode cX7_step 75 = .ok (.iconst 1, 1) := by decide +kernel
theorem dX7_step_76 : decode cX7_step 76 = .ok (.invokestatic 58, 3) := by decide +kernel
theorem dX7_step_79 : decode cX7_step 79 = .ok (.iload_n 3, 1) := by decide +kernel
theorem dX7_step_80 : decode cX7_step 80 = .ok (.iload_n 2, 1) := by decide +kernel
theorem dX7_step_81 : decode cX7_step 81 = .ok (.isub, 1) := by decide +kernel
theorem dX7_step_82 : decode cX7_step 82 = .ok (.iconst 0, 1) := by decide +kernel
theorem dX7_step_83 : decode cX7_step 83 = .ok (.iload_n 2, 1) := by decide +kernel
theorem dX7_step_84 : decode cX7_step 84 = .ok (.iload_n 3, 1) := by decide +kernel
theorem dX7_step_85 : decode cX7_step 85 = .ok (.iadd, 1) := by decide +kernel
theorem dX7_step_86 : decode cX7_step 86 = .ok (.invokevirtual 62, 3) := by decide +kernel
theorem dX7_step_89 : decode cX7_step 89 = .ok (.aload_n 0, 1) := by decide +kernel
theorem dX7_step_90 : decode cX7_step 90 = .ok (.getfield 12, 3) := by decide +kernel
theorem dX7_step_93 : decode cX7_step 93 = .ok (.iload 4, 2) := by decide +kernel
theorem dX7_step_95 : decode cX7_step 95 = .ok (.iconst 1, 1) := by decide +kernel
theorem dX7_step_96 : decode cX7_step 96 = .ok (.iconst 0, 1) := by decide +kernel
theorem dX7_step_97 : decode cX7_step 97 = .ok (.invokestatic 58, 3) := by decide +kernel
theorem dX7_step_100 : decode cX7_step 100 = .ok (.iconst 2, 1) := by decide +kernel
theorem dX7_step_101 : decode cX7_step 101 = .ok (.iload_n 2, 1) := by decide +kernel
theorem dX7_step_102 : decode cX7_step 102 = .ok (.imul, 1) := by decide +kernel
theorem dX7_step_103 : decode cX7_step 103 = .ok (.iconst 0, 1) := by decide +kernel
theorem dX7_step_104 : decode cX7_step 104 = .ok (.iload_n 2, 1) := by decide +kernel
theorem dX7_step_105 : decode cX7_step 105 = .ok (.iload_n 3, 1) := by decide +kernel
theorem dX7_step_106 : decode cX7_step 106 = .ok (.iadd, 1) := by decide +kernel
theorem dX7_step_107 : decode cX7_step 107 = .ok (.invokevirtual 62, 3) := by decide +kernel
theorem dX7_step_110 : decode cX7_step 110 = .ok (.aload_n 0, 1) := by decide +kernel
theorem dX7_step_111 : decode cX7_step 111 = .ok (.getfield 12, 3) := by decide +kernel
theorem dX7_step_114 : decode cX7_step 114 = .ok (.iload 4, 2) := by decide +kernel
theorem dX7_step_116 : decode cX7_step 116 = .ok (.iconst 0, 1) := by decide +kernel
theorem dX7_step_117 : decode cX7_step 117 = .ok (.iconst 1, 1) := by decide +kernel
theorem dX7_step_118 : decode cX7_step 118 = .ok (.invokestatic 58, 3) := by decide +kernel
theorem dX7_step_121 : decode cX7_step 121 = .ok (.iconst 2, 1) := by decide +kernel
theorem dX7_step_122 : decode cX7_step 122 = .ok (.iload_n 3, 1) := by decide +kernel
theorem dX7_step_123 : decode cX7_step 123 = .ok (.imul, 1) := by decide +kernel
theorem dX7_step_124 : decode cX7_step 124 = .ok (.iconst 0, 1) := by decide +kernel
theorem dX7_step_125 : decode cX7_step 125 = .ok (.iload_n 2, 1) := by decide +kernel
theorem dX7_step_126 : decode cX7_step 126 = .ok (.iload_n 3, 1) := by decide +kernel
theorem dX7_step_127 : decode cX7_step 127 = .ok (.iadd, 1) := by decide +kernel
theorem dX7_step_128 : decode cX7_step 128 = .ok (.invokevirtual 62, 3) := by decide +kernel
theorem dX7_step_131 : decode cX7_step 131 = .ok (.iinc 4 1, 3) := by decide +kernel
theorem dX7_step_134 : decode cX7_step 134 = .ok (.goto (-93), 3) := by decide +kernel
theorem dX7_step_137 : decode cX7_step 137 = .ok (.aload_n 0, 1) := by decide +kernel
theorem dX7_step_138 : decode cX7_step 138 = .ok (.getfield 12, 3) := by decide +kernel
theorem dX7_step_141 : decode cX7_step 141 = .ok (.iload_n 1, 1) := by decide +kernel
theorem dX7_step_142 : decode cX7_step 142 = .ok (.invokevirtual 66, 3) := by decide +kernel
theorem dX7_step_145 : decode cX7_step 145 = .ok (.iconst 0, 1) := by decide +kernel
theorem dX7_step_146 : decode cX7_step 146 = .ok (.ireturn, 1) := by decide +kernel
set_option maxHeartbeats 4000000 in
theorem c_step (l : Launch) {D : va_G} {ids : Nat → ClassId} {β : Nat} {sh : Nat → Nat × Nat} {N : Nat} {R : Nat → Nat → Option Nat} {F : Nat → Nat → Int} {A : Nat → Int → Int} {S : SP} (hP : PbL sh R N) (hR0 : RepC sh R N S F A) {c0 n0 d0 : Int} (hc : I32 c0) (hn : I32 n0) (hd0 : I32 d0) : MetX l yX7_step cX7_step 5 (some (.int)) 2 59 D ids β sh N R F A [rf 0, pI c0, pI n0, pI d0] (pIr (RepO sh R N (oStep S c0 n0 d0))) := by
  refine MetX.of (loc := [_, _, _, _, _]) (plainFor_of_name (by decide +kernel)) (Nat.le_of_ble_eq_true rfl) rfl ?_
  intro p e s m args below meth c hC hK hr hlk
  obtain ⟨hAc, hAg, hJu, ⟨z1, z2⟩, r00, r01, r02⟩ := id hP
  have hShL := hAc.1
  obtain ⟨⟨j1, j2⟩, ⟨s0, s1, s2, s3, s4⟩, ⟨j3, j4⟩, -⟩ := id hShL
  have hI := hR0.shI
  have hi := hR0.2.1
  have i1 := hi.1
  have loop : ∀ (d : Nat) (k : Int) (A1 : Nat → Int → Int), 4 - k < d → 0 ≤ k → k ≤ 4 → hasB S c0 2 → (1 ≤ n0 ∧ n0 ≤ 10000) → (1 ≤ d0 ∧ d0 ≤ 10000) → RepC sh R N S F A1 → (∀ t0 e0, 0 ≤ t0 → t0 < k → isT e0 → holdT (A1 3) (t0 * 36 + e0 * 9) (stepW n0 d0 e0)) → X p l e { frames := 2, cells := 0, slots := 0, locals := 59 } s m args below meth c (MQ below (QX D ids β sh N R (pIr (RepO sh R N (oStep S c0 n0 d0)))) args s 0 0 (inG β N)) (inG β N) D ids β sh 5 0 0 N R F A1 [some (rf 0), some (pI c0), some (pI n0), some (pI d0), some (pI k)] [] 41 := by
    intro d
    induction d with
    | zero => intro k A1 hd; omega
    | succ d ih =>
      intro k A1 hd k0 k4 hB hN hD hR1 hd1
      refine x_iload (pc2 := 43) hC rfl dX7_step_41 rfl ?_
      refine x_iconst (pc2 := 44) hC dX7_step_43 rfl ?_
      refine x_icmp_ge (tgt := 137) (pc2 := 47) hC (by omega) (by omega) dX7_step_44 rfl rfl (fun h_44 => ?_) (fun h_44 => ?_)
      · have hwf : wfB (ptS S c0) (fun _ e => stepW n0 d0 e) := by
          intro t0 e0 ht0 he0
          refine ⟨?_, fun p1 _ => ?_⟩
          · dsimp only
            unfold stepW
            split
            · exact g3_ok (by omega) (by omega) (by decide)
            · split
              · exact g3_ok (by omega) (by omega) (by decide)
              · split
                · exact g3_ok (by omega) (by omega) (by decide)
                · exact g3_ok (by omega) (by omega) (by decide)
          · rw [hB.2] at p1
            exact absurd p1 (by decide)
        refine x_aload_n (pc2 := 138) hC rfl rfl dX7_step_137 rfl ?_
        refine g_369 (pc2 := 141) hC hK (by assumption) (by assumption) (by assumption) dX7_step_138 rfl ?_
        refine x_iload_n (pc2 := 142) hC rfl rfl dX7_step_141 rfl ?_
        refine x_cVv (pc2 := 145) (ci := 5) hC hK (p_keepDraft l hP hR1 (w := fun _ e => stepW n0 d0 e) hB.1 hwf (fun t0 e0 ht0 he0 => hd1 t0 e0 ht0.1 (by omega) he0)) lk_436 rfl rfl (by decide) (by assumption) (by assumption) ⟨Nat.le_of_ble_eq_true rfl, Nat.le_of_ble_eq_true rfl⟩ ⟨Nat.le_refl _, Nat.le_refl _⟩ rfl (Nat.le_of_ble_eq_true rfl) dX7_step_142 rfl ?_
        rintro F142 A142 hR3
        refine x_iconst (pc2 := 146) hC dX7_step_145 rfl ?_
        exact x_iret hC hr hlk ⟨_, rfl, RepO.of (by rw [oStep, itO_pos ⟨hB, hN, hD⟩]) hR3⟩ dX7_step_146
      · refine x_aload_n (pc2 := 48) hC rfl rfl dX7_step_47 rfl ?_
        refine g_369 (pc2 := 51) hC hK (by assumption) (by assumption) (by assumption) dX7_step_48 rfl ?_
        refine x_iload (pc2 := 53) hC rfl dX7_step_51 rfl ?_
        refine x_iconst (pc2 := 54) hC dX7_step_53 rfl ?_
        refine x_iconst (pc2 := 55) hC dX7_step_54 rfl ?_
        refine x_cSi (pc2 := 58) hC hK (m_entry l) lk_423 rfl ⟨Nat.le_of_ble_eq_true rfl, Nat.le_of_ble_eq_true rfl⟩ ⟨Nat.le_refl _, Nat.le_refl _⟩ rfl (Nat.le_of_ble_eq_true rfl) dX7_step_55 rfl ?_
        rintro z55 F55 A55 ⟨rfl, e155, e255⟩
        obtain rfl := e155.symm
        obtain rfl := e255.symm
        refine x_iload_n (pc2 := 59) hC rfl rfl dX7_step_58 rfl ?_
        refine x_iload_n (pc2 := 60) hC rfl rfl dX7_step_59 rfl ?_
        refine x_isub (pc2 := 61) hC dX7_step_60 rfl ?_
        refine x_iconst (pc2 := 62) hC dX7_step_61 rfl ?_
        refine x_iload_n (pc2 := 63) hC rfl rfl dX7_step_62 rfl ?_
        refine x_iload_n (pc2 := 64) hC rfl rfl dX7_step_63 rfl ?_
        refine x_iadd (pc2 := 65) hC dX7_step_64 rfl ?_
        refine x_cVv (pc2 := 68) (ci := 5) hC hK (p_draftSmall l hP hR1 (show isT k by omega) (en := 2 * 0 + 0) ⟨by decide, by decide⟩ (by omega) (by decide) (by omega)) lk_426 rfl rfl (by decide) (by assumption) (by assumption) ⟨Nat.le_of_ble_eq_true rfl, Nat.le_of_ble_eq_true rfl⟩ ⟨Nat.le_refl _, Nat.le_refl _⟩ rfl (Nat.le_of_ble_eq_true rfl) dX7_step_65 rfl ?_
        rintro F65 A65 ⟨rfl, hR65, hd65, hu65⟩
        replace hd65 : holdT (A65 3) (k * 36 + 0 * 9) (g3 (n0 - d0) 0 (n0 + d0)) := hd65
        replace hu65 : ∀ j, j < k * 36 + 0 * 9 ∨ k * 36 + 0 * 9 + 9 ≤ j → A65 3 j = A1 3 j := hu65
        refine x_aload_n (pc2 := 69) hC rfl rfl dX7_step_68 rfl ?_
        refine g_369 (pc2 := 72) hC hK (by assumption) (by assumption) (by assumption) dX7_step_69 rfl ?_
        refine x_iload (pc2 := 74) hC rfl dX7_step_72 rfl ?_
        refine x_iconst (pc2 := 75) hC dX7_step_74 rfl ?_
        refine x_iconst (pc2 := 76) hC dX7_step_75 rfl ?_
        refine x_cSi (pc2 := 79) hC hK (m_entry l) lk_423 rfl ⟨Nat.le_of_ble_eq_true rfl, Nat.le_of_ble_eq_true rfl⟩ ⟨Nat.le_refl _, Nat.le_refl _⟩ rfl (Nat.le_of_ble_eq_true rfl) dX7_step_76 rfl ?_
        rintro z76 F76 A76 ⟨rfl, e176, e276⟩
        obtain rfl := e176.symm
        obtain rfl := e276.symm
        refine x_iload_n (pc2 := 80) hC rfl rfl dX7_step_79 rfl ?_
        refine x_iload_n (pc2 := 81) hC rfl rfl dX7_step_80 rfl ?_
        refine x_isub (pc2 := 82) hC dX7_step_81 rfl ?_
        refine x_iconst (pc2 := 83) hC dX7_step_82 rfl ?_
        refine x_iload_n (pc2 := 84) hC rfl rfl dX7_step_83 rfl ?_
        refine x_iload_n (pc2 := 85) hC rfl rfl dX7_step_84 rfl ?_
        refine x_iadd (pc2 := 86) hC dX7_step_85 rfl ?_
        refine x_cVv (pc2 := 89) (ci := 5) hC hK (p_draftSmall l hP hR65 (show isT k by omega) (en := 2 * 1 + 1) ⟨by decide, by decide⟩ (by omega) (by decide) (by omega)) lk_426 rfl rfl (by decide) (by assumption) (by assumption) ⟨Nat.le_of_ble_eq_true rfl, Nat.le_of_ble_eq_true rfl⟩ ⟨Nat.le_refl _, Nat.le_refl _⟩ rfl (Nat.le_of_ble_eq_true rfl) dX7_step_86 rfl ?_
        rintro F86 A86 ⟨rfl, hR86, hd86, hu86⟩
        replace hd86 : holdT (A86 3) (k * 36 + 3 * 9) (g3 (d0 - n0) 0 (n0 + d0)) := hd86
        replace hu86 : ∀ j, j < k * 36 + 3 * 9 ∨ k * 36 + 3 * 9 + 9 ≤ j → A86 3 j = A65 3 j := hu86
        refine x_aload_n (pc2 := 90) hC rfl rfl dX7_step_89 rfl ?_
        refine g_369 (pc2 := 93) hC hK (by assumption) (by assumption) (by assumption) dX7_step_90 rfl ?_
        refine x_iload (pc2 := 95) hC rfl dX7_step_93 rfl ?_
        refine x_iconst (pc2 := 96) hC dX7_step_95 rfl ?_
        refine x_iconst (pc2 := 97) hC dX7_step_96 rfl ?_
        refine x_cSi (pc2 := 100) hC hK (m_entry l) lk_423 rfl ⟨Nat.le_of_ble_eq_true rfl, Nat.le_of_ble_eq_true rfl⟩ ⟨Nat.le_refl _, Nat.le_refl _⟩ rfl (Nat.le_of_ble_eq_true rfl) dX7_step_97 rfl ?_
        rintro z97 F97 A97 ⟨rfl, e197, e297⟩
        obtain rfl := e197.symm
        obtain rfl := e297.symm
        refine x_iconst (pc2 := 101) hC dX7_step_100 rfl ?_
        refine x_iload_n (pc2 := 102) hC rfl rfl dX7_step_101 rfl ?_
        refine x_imul (pc2 := 103) hC dX7_step_102 rfl ?_
        refine x_iconst (pc2 := 104) hC dX7_step_103 rfl ?_
        refine x_iload_n (pc2 := 105) hC rfl rfl dX7_step_104 rfl ?_
        refine x_iload_n (pc2 := 106) hC rfl rfl dX7_step_105 rfl ?_
        refine x_iadd (pc2 := 107) hC dX7_step_106 rfl ?_
        refine x_cVv (pc2 := 110) (ci := 5) hC hK (p_draftSmall l hP hR86 (show isT k by omega) (en := 2 * 1 + 0) ⟨by decide, by decide⟩ (by omega) (by decide) (by omega)) lk_426 rfl rfl (by decide) (by assumption) (by assumption) ⟨Nat.le_of_ble_eq_true rfl, Nat.le_of_ble_eq_true rfl⟩ ⟨Nat.le_refl _, Nat.le_refl _⟩ rfl (Nat.le_of_ble_eq_true rfl) dX7_step_107 rfl ?_
        rintro F107 A107 ⟨rfl, hR107, hd107, hu107⟩
        replace hd107 : holdT (A107 3) (k * 36 + 2 * 9) (g3 (2 * n0) 0 (n0 + d0)) := hd107
        replace hu107 : ∀ j, j < k * 36 + 2 * 9 ∨ k * 36 + 2 * 9 + 9 ≤ j → A107 3 j = A86 3 j := hu107
        refine x_aload_n (pc2 := 111) hC rfl rfl dX7_step_110 rfl ?_
        refine g_369 (pc2 := 114) hC hK (by assumption) (by assumption) (by assumption) dX7_step_111 rfl ?_
        refine x_iload (pc2 := 116) hC rfl dX7_step_114 rfl ?_
        refine x_iconst (pc2 := 117) hC dX7_step_116 rfl ?_
        refine x_iconst (pc2 := 118) hC dX7_step_117 rfl ?_
        refine x_cSi (pc2 := 121) hC hK (m_entry l) lk_423 rfl ⟨Nat.le_of_ble_eq_true rfl, Nat.le_of_ble_eq_true rfl⟩ ⟨Nat.le_refl _, Nat.le_refl _⟩ rfl (Nat.le_of_ble_eq_true rfl) dX7_step_118 rfl ?_
        rintro z118 F118 A118 ⟨rfl, e1118, e2118⟩
        obtain rfl := e1118.symm
        obtain rfl := e2118.symm
        refine x_iconst (pc2 := 122) hC dX7_step_121 rfl ?_
        refine x_iload_n (pc2 := 123) hC rfl rfl dX7_step_122 rfl ?_
        refine x_imul (pc2 := 124) hC dX7_step_123 rfl ?_
        refine x_iconst (pc2 := 125) hC dX7_step_124 rfl ?_
        refine x_iload_n (pc2 := 126) hC rfl rfl dX7_step_125 rfl ?_
        refine x_iload_n (pc2 := 127) hC rfl rfl dX7_step_126 rfl ?_
        refine x_iadd (pc2 := 128) hC dX7_step_127 rfl ?_
        refine x_cVv (pc2 := 131) (ci := 5) hC hK (p_draftSmall l hP hR107 (show isT k by omega) (en := 2 * 0 + 1) ⟨by decide, by decide⟩ (by omega) (by decide) (by omega)) lk_426 rfl rfl (by decide) (by assumption) (by assumption) ⟨Nat.le_of_ble_eq_true rfl, Nat.le_of_ble_eq_true rfl⟩ ⟨Nat.le_refl _, Nat.le_refl _⟩ rfl (Nat.le_of_ble_eq_true rfl) dX7_step_128 rfl ?_
        rintro F128 A128 ⟨rfl, hR128, hd128, hu128⟩
        replace hd128 : holdT (A128 3) (k * 36 + 1 * 9) (g3 (2 * d0) 0 (n0 + d0)) := hd128
        replace hu128 : ∀ j, j < k * 36 + 1 * 9 ∨ k * 36 + 1 * 9 + 9 ≤ j → A128 3 j = A107 3 j := hu128
        refine x_iinc (pc2 := 134) (loc2 := [_, _, _, _, _]) hC (by decide) rfl rfl dX7_step_131 rfl ?_
        refine x_goto (pc2 := 41) hC dX7_step_134 rfl ?_
        refine ih (k + 1) A128 (by omega) (by omega) (by omega) hB hN hD hR128 (fun t0 e0 t1 t2 he0 => ?_)
        by_cases qq : t0 = k
        · subst qq
          have : e0 = 0 ∨ e0 = 1 ∨ e0 = 2 ∨ e0 = 3 := by omega
          rcases this with rfl | rfl | rfl | rfl
          · refine holdT_of (fun j0 k0 k1 => ?_) hd65
            rw [hu128 _ (by omega), hu107 _ (by omega), hu86 _ (by omega)]
          · exact hd128
          · refine holdT_of (fun j0 k0 k1 => ?_) hd107
            rw [hu128 _ (by omega)]
          · refine holdT_of (fun j0 k0 k1 => ?_) hd86
            rw [hu128 _ (by omega), hu107 _ (by omega)]
        · refine holdT_of (fun j0 k0 k1 => ?_) (hd1 t0 e0 t1 (by omega) he0)
          rw [hu128 _ (by omega), hu107 _ (by omega), hu86 _ (by omega), hu65 _ (by omega)]
  refine x_aload_n (pc2 := 1) hC rfl rfl dX7_step_0 rfl ?_
  refine g_369 (pc2 := 4) hC hK (by assumption) (by assumption) (by assumption) dX7_step_1 rfl ?_
  refine x_iload_n (pc2 := 5) hC rfl rfl dX7_step_4 rfl ?_
  refine x_iconst (pc2 := 6) hC dX7_step_5 rfl ?_
  refine x_cVi (pc2 := 9) (ci := 5) hC hK (p_hasBoxWith l hP hR0 hc (by decide)) lk_460 rfl rfl (by decide) (by assumption) (by assumption) ⟨Nat.le_of_ble_eq_true rfl, Nat.le_of_ble_eq_true rfl⟩ ⟨Nat.le_refl _, Nat.le_refl _⟩ rfl (Nat.le_of_ble_eq_true rfl) dX7_step_6 rfl ?_
  rintro z6 F6 A6 ⟨w6, b6, e16, e26⟩
  obtain rfl := e16.symm
  obtain rfl := e26.symm
  refine x_if_eq (tgt := 36) (pc2 := 12) hC (by omega) dX7_step_9 rfl rfl (fun h_9 => ?_) (fun h_9 => ?_)
  · refine x_iconst (pc2 := 37) hC dX7_step_36 rfl ?_
    exact x_iret hC hr hlk ⟨_, rfl, RepO.of (by rw [oStep, itO_neg (fun ⟨q1, q2, q3⟩ => by first | omega | exact absurd h_9 ((b6 ()).mpr q1))]) hR0⟩ dX7_step_37
  · have hB := (b6 ()).mp h_9
    refine x_iload_n (pc2 := 13) hC rfl rfl dX7_step_12 rfl ?_
    refine x_iconst (pc2 := 14) hC dX7_step_13 rfl ?_
    refine x_icmp_lt (tgt := 36) (pc2 := 17) hC (by omega) (by omega) dX7_step_14 rfl rfl (fun h_14 => ?_) (fun h_14 => ?_)
    · refine x_iconst (pc2 := 37) hC dX7_step_36 rfl ?_
      exact x_iret hC hr hlk ⟨_, rfl, RepO.of (by rw [oStep, itO_neg (fun ⟨q1, q2, q3⟩ => by first | omega | exact absurd h_9 ((b6 ()).mpr q1))]) hR0⟩ dX7_step_37
    · refine x_iload_n (pc2 := 18) hC rfl rfl dX7_step_17 rfl ?_
      refine x_sipush (pc2 := 21) hC rfl dX7_step_18 rfl ?_
      refine x_icmp_gt (tgt := 36) (pc2 := 24) hC (by omega) (by omega) dX7_step_21 rfl rfl (fun h_21 => ?_) (fun h_21 => ?_)
      · refine x_iconst (pc2 := 37) hC dX7_step_36 rfl ?_
        exact x_iret hC hr hlk ⟨_, rfl, RepO.of (by rw [oStep, itO_neg (fun ⟨q1, q2, q3⟩ => by first | omega | exact absurd h_9 ((b6 ()).mpr q1))]) hR0⟩ dX7_step_37
      · refine x_iload_n (pc2 := 25) hC rfl rfl dX7_step_24 rfl ?_
        refine x_iconst (pc2 := 26) hC dX7_step_25 rfl ?_
        refine x_icmp_lt (tgt := 36) (pc2 := 29) hC (by omega) (by omega) dX7_step_26 rfl rfl (fun h_26 => ?_) (fun h_26 => ?_)
        · refine x_iconst (pc2 := 37) hC dX7_step_36 rfl ?_
          exact x_iret hC hr hlk ⟨_, rfl, RepO.of (by rw [oStep, itO_neg (fun ⟨q1, q2, q3⟩ => by first | omega | exact absurd h_9 ((b6 ()).mpr q1))]) hR0⟩ dX7_step_37
        · refine x_iload_n (pc2 := 30) hC rfl rfl dX7_step_29 rfl ?_
          refine x_sipush (pc2 := 33) hC rfl dX7_step_30 rfl ?_
          refine x_icmp_le (tgt := 38) (pc2 := 36) hC (by omega) (by omega) dX7_step_33 rfl rfl (fun h_33 => ?_) (fun h_33 => ?_)
          · refine x_iconst (pc2 := 39) hC dX7_step_38 rfl ?_
            refine x_istore (pc2 := 41) (loc2 := [_, _, _, _, _]) hC (by decide) rfl dX7_step_39 rfl ?_
            exact loop 5 0 A (by omega) (by omega) (by omega) hB ⟨by omega, by omega⟩ ⟨by omega, by omega⟩ hR0 (fun t0 e0 t1 t2 he0 => by omega)
          · refine x_iconst (pc2 := 37) hC dX7_step_36 rfl ?_
            exact x_iret hC hr hlk ⟨_, rfl, RepO.of (by rw [oStep, itO_neg (fun ⟨q1, q2, q3⟩ => by first | omega | exact absurd h_9 ((b6 ()).mpr q1))]) hR0⟩ dX7_step_37
theorem prt_tri {f : Int → Int} {i : Int} (h : triOK f i) : (tri f i).tdiv 1000000000000 = f (i + 2) * 1000000 + (f (i + 1)).tdiv 1000 ∧ (tri f i).tmod 1000000000000 = (f (i + 1)).tmod 1000 * 1000000000 + f i := by
  have b0 := h.1 0 (by decide) (by decide)
  have b1 := h.1 1 (by decide) (by decide)
  have b2 := h.1 2 (by decide) (by decide)
  rw [Int.add_zero] at b0
  unfold tri
  obtain ⟨a, ea⟩ : ∃ a, a = f i := ⟨_, rfl⟩
  obtain ⟨b, eb⟩ : ∃ a, a = f (i + 1) := ⟨_, rfl⟩
  obtain ⟨c, ec⟩ : ∃ a, a = f (i + 2) := ⟨_, rfl⟩
  have s : (0 ≤ a ∧ 0 ≤ b ∧ 0 ≤ c) ∨ (a ≤ 0 ∧ b ≤ 0 ∧ c ≤ 0) := by
    rcases h.2 with q | q
    · have c0 := q 0 (by decide) (by decide)
      rw [Int.add_zero] at c0
      exact Or.inl ⟨by omega, by rw [eb]; exact q 1 (by decide) (by decide), by rw [ec]; exact q 2 (by decide) (by decide)⟩
    · have c0 := q 0 (by decide) (by decide)
      rw [Int.add_zero] at c0
      exact Or.inr ⟨by omega, by rw [eb]; exact q 1 (by decide) (by decide), by rw [ec]; exact q 2 (by decide) (by decide)⟩
  rw [← ea] at b0
  rw [← eb] at b1
  rw [← ec] at b2
  rw [← ea, ← eb, ← ec]
  clear h ea eb ec
  have key : ∀ a b c : Int, 0 ≤ a → 0 ≤ b → 0 ≤ c → a < 1000000000 → b < 1000000000 → (a + b * 1000000000 + c * 1000000000000000000).tdiv 1000000000000 = c * 1000000 + b.tdiv 1000 ∧ (a + b * 1000000000 + c * 1000000000000000000).tmod 1000000000000 = b.tmod 1000 * 1000000000 + a := by
    intro a b c a0 b0 c0 a1 b1
    rw [Int.tdiv_eq_ediv_of_nonneg (by omega), Int.tmod_eq_emod_of_nonneg (by omega), Int.tdiv_eq_ediv_of_nonneg b0, Int.tmod_eq_emod_of_nonneg b0]
    omega
  rcases s with ⟨s1, s2, s3⟩ | ⟨s1, s2, s3⟩
  · exact key a b c s1 s2 s3 (by omega) (by omega)
  · obtain ⟨k1, k2⟩ := key (-a) (-b) (-c) (by omega) (by omega) (by omega) (by omega) (by omega)
    have e : -a + -b * 1000000000 + -c * 1000000000000000000 = -(a + b * 1000000000 + c * 1000000000000000000) := by omega
    rw [e, Int.neg_tdiv, Int.neg_tdiv] at k1
    rw [e, Int.neg_tmod, Int.neg_tmod] at k2
    omega
theorem dX7_part_0 : decode cX7_part 0 = .ok (.iload_n 2, 1) := by decide +kernel
theorem dX7_part_1 : decode cX7_part 1 = .ok (.invokestatic 43, 3) := by decide +kernel
theorem dX7_part_4 : decode cX7_part 4 = .ok (.ifCond .eq 28, 3) := by decide +kernel
theorem dX7_part_7 : decode cX7_part 7 = .ok (.aload_n 0, 1) := by decide +kernel
theorem dX7_part_8 : decode cX7_part 8 = .ok (.getfield 12, 3) := by decide +kernel
theorem dX7_part_11 : decode cX7_part 11 = .ok (.iload_n 1, 1) := by decide +kernel
theorem dX7_part_12 : decode cX7_part 12 = .ok (.iload_n 3, 1) := by decide +kernel
theorem dX7_part_13 : decode cX7_part 13 = .ok (.iload 4, 2) := by decide +kernel
theorem dX7_part_15 : decode cX7_part 15 = .ok (.invokevirtual 47, 3) := by decide +kernel
theorem dX7_part_18 : decode cX7_part 18 = .ok (.ifCond .eq 14, 3) := by decide +kernel
theorem dX7_part_21 : decode cX7_part 21 = .ok (.iload 5, 2) := by decide +kernel
theorem dX7_part_23 : decode cX7_part 23 = .ok (.ifCond .lt 9, 3) := by decide +kernel
theorem dX7_part_26 : decode cX7_part 26 = .ok (.iload 5, 2) := by decide +kernel
theorem dX7_part_28 : decode cX7_part 28 = .ok (.iconst 5, 1) := by decide +kernel
theorem dX7_part_29 : decode cX7_part 29 = .ok (.if_icmp .le 7, 3) := by decide +kernel
theorem dX7_part_32 : decode cX7_part 32 = .ok (.ldc2_w 119, 3) := by decide +kernel
theorem dX7_part_35 : decode cX7_part 35 = .ok (.lreturn, 1) := by decide +kernel
theorem dX7_part_36 : decode cX7_part 36 = .ok (.iload_n 1, 1) := by decide +kernel
theorem dX7_part_37 : decode cX7_part 37 = .ok (.iload_n 2, 1) := by decide +kernel
theorem dX7_part_38 : decode cX7_part 38 = .ok (.iload_n 3, 1) := by decide +kernel
theorem dX7_part_39 : decode cX7_part 39 = .ok (.iload 4, 2) := by decide +kernel
theorem dX7_part_41 : decode cX7_part 41 = .ok (.invokestatic 58, 3) := by decide +kernel
theorem dX7_part_44 : decode cX7_part 44 = .ok (.invokestatic 121, 3) := by decide +kernel
theorem dX7_part_47 : decode cX7_part 47 = .ok (.iload 5, 2) := by decide +kernel
theorem dX7_part_49 : decode cX7_part 49 = .ok (.iconst 2, 1) := by decide +kernel
theorem dX7_part_50 : decode cX7_part 50 = .ok (.idiv, 1) := by decide +kernel
theorem dX7_part_51 : decode cX7_part 51 = .ok (.iconst 3, 1) := by decide +kernel
theorem dX7_part_52 : decode cX7_part 52 = .ok (.imul, 1) := by decide +kernel
theorem dX7_part_53 : decode cX7_part 53 = .ok (.iadd, 1) := by decide +kernel
theorem dX7_part_54 : decode cX7_part 54 = .ok (.istore 6, 2) := by decide +kernel
theorem dX7_part_56 : decode cX7_part 56 = .ok (.aload_n 0, 1) := by decide +kernel
theorem dX7_part_57 : decode cX7_part 57 = .ok (.getfield 12, 3) := by decide +kernel
theorem dX7_part_60 : decode cX7_part 60 = .ok (.getfield 124, 3) := by decide +kernel
theorem dX7_part_63 : decode cX7_part 63 = .ok (.iload 6, 2) := by decide +kernel
theorem dX7_part_65 : decode cX7_part 65 = .ok (.iaload, 1) := by decide +kernel
theorem dX7_part_66 : decode cX7_part 66 = .ok (.i2l, 1) := by decide +kernel
theorem dX7_part_67 : decode cX7_part 67 = .ok (.lstore 7, 2) := by decide +kernel
theorem dX7_part_69 : decode cX7_part 69 = .ok (.aload_n 0, 1) := by decide +kernel
theorem dX7_part_70 : decode cX7_part 70 = .ok (.getfield 12, 3) := by decide +kernel
theorem dX7_part_73 : decode cX7_part 73 = .ok (.getfield 124, 3) := by decide +kernel
theorem dX7_part_76 : decode cX7_part 76 = .ok (.iload 6, 2) := by decide +kernel
theorem dX7_part_78 : decode cX7_part 78 = .ok (.iconst 1, 1) := by decide +kernel
theorem dX7_part_79 : decode cX7_part 79 = .ok (.iadd, 1) := by decide +kernel
theorem dX7_part_80 : decode cX7_part 80 = .ok (.iaload, 1) := by decide +kernel
theorem dX7_part_81 : decode cX7_part 81 = .ok (.i2l, 1) := by decide +kernel
theorem dX7_part_82 : decode cX7_part 82 = .ok (.lstore 9, 2) := by decide +kernel
theorem dX7_part_84 : decode cX7_part 84 = .ok (.aload_n 0, 1) := by decide +kernel
theorem dX7_part_85 : decode cX7_part 85 = .ok (.getfield 12, 3) := by decide +kernel
theorem dX7_part_88 : decode cX7_part 88 = .ok (.getfield 124, 3) := by decide +kernel
theorem dX7_part_91 : decode cX7_part 91 = .ok (.iload 6, 2) := by decide +kernel
theorem dX7_part_93 : decode cX7_part 93 = .ok (.iconst 2, 1) := by decide +kernel
theorem dX7_part_94 : decode cX7_part 94 = .ok (.iadd, 1) := by decide +kernel
theorem dX7_part_95 : decode cX7_part 95 = .ok (.iaload, 1) := by decide +kernel
theorem dX7_part_96 : decode cX7_part 96 = .ok (.i2l, 1) := by decide +kernel
theorem dX7_part_97 : decode cX7_part 97 = .ok (.lstore 11, 2) := by decide +kernel
theorem dX7_part_99 : decode cX7_part 99 = .ok (.iload 5, 2) := by decide +kernel
theorem dX7_part_101 : decode cX7_part 101 = .ok (.iconst 2, 1) := by decide +kernel
theorem dX7_part_102 : decode cX7_part 102 = .ok (.irem, 1) := by decide +kernel
theorem dX7_part_103 : decode cX7_part 103 = .ok (.ifCond .ne 19, 3) := by decide +kernel
theorem dX7_part_106 : decode cX7_part 106 = .ok (.lload 11, 2) := by decide +kernel
theorem dX7_part_108 : decode cX7_part 108 = .ok (.ldc2_w 128, 3) := by decide +kernel
theorem dX7_part_111 : decode cX7_part 111 = .ok (.lmul, 1) := by decide +kernel
theorem dX7_part_112 : decode cX7_part 112 = .ok (.lload 9, 2) := by decide +kernel
theorem dX7_part_114 : decode cX7_part 114 = .ok (.ldc2_w 130, 3) := by decide +kernel
theorem dX7_part_117 : decode cX7_part 117 = .ok (.ldiv, 1) := by decide +kernel
theorem dX7_part_118 : decode cX7_part 118 = .ok (.ladd, 1) := by decide +kernel
theorem dX7_part_119 : decode cX7_part 119 = .ok (.goto 16, 3) := by decide +kernel
theorem dX7_part_122 : decode cX7_part 122 = .ok (.lload 9, 2) := by decide +kernel
theorem dX7_part_124 : decode cX7_part 124 = .ok (.ldc2_w 130, 3) := by decide +kernel
theorem dX7_part_127 : decode cX7_part 127 = .ok (.lrem, 1) := by decide +kernel
theorem dX7_part_128 : decode cX7_part 128 = .ok (.ldc2_w 132, 3) := by decide +kernel
theorem dX7_part_131 : decode cX7_part 131 = .ok (.lmul, 1) := by decide +kernel
theorem dX7_part_132 : decode cX7_part 132 = .ok (.lload 7, 2) := by decide +kernel
theorem dX7_part_134 : decode cX7_part 134 = .ok (.ladd, 1) := by decide +kernel
theorem dX7_part_135 : decode cX7_part 135 = .ok (.lreturn, 1) := by decide +kernel
theorem prt_at {f : Int → Int} {i w : Int} {x : T3} (h : holdT f i x) (hw : 0 ≤ w ∧ w ≤ 5) : prt x w = if w % 2 = 0 then f (i + w / 2 * 3 + 2) * 1000000 + (f (i + w / 2 * 3 + 1)).tdiv 1000 else (f (i + w / 2 * 3 + 1)).tmod 1000 * 1000000000 + f (i + w / 2 * 3) := by
  obtain ⟨⟨a1, a2⟩, ⟨b1, b2⟩, c1, c2⟩ := h
  have ka := prt_tri a1
  have kb := prt_tri b1
  have kc := prt_tri c1
  rw [a2] at ka
  rw [b2] at kb
  rw [c2] at kc
  have : w = 0 ∨ w = 1 ∨ w = 2 ∨ w = 3 ∨ w = 4 ∨ w = 5 := by omega
  rcases this with rfl | rfl | rfl | rfl | rfl | rfl
  · show x.1.tdiv 1000000000000 = _
    rw [if_pos (by decide), ka.1, show i + 0 / 2 * 3 = i by omega]
  · show x.1.tmod 1000000000000 = _
    rw [if_neg (by decide), ka.2, show i + 1 / 2 * 3 = i by omega]
  · show x.2.1.tdiv 1000000000000 = _
    rw [if_pos (by decide), kb.1, show i + 2 / 2 * 3 = i + 3 by omega]
  · show x.2.1.tmod 1000000000000 = _
    rw [if_neg (by decide), kb.2, show i + 3 / 2 * 3 = i + 3 by omega]
  · show x.2.2.tdiv 1000000000000 = _
    rw [if_pos (by decide), kc.1, show i + 4 / 2 * 3 = i + 6 by omega]
  · show x.2.2.tmod 1000000000000 = _
    rw [if_neg (by decide), kc.2, show i + 5 / 2 * 3 = i + 6 by omega]
theorem holdT_bd {f : Int → Int} {i k : Int} {x : T3} (h : holdT f i x) (h0 : 0 ≤ k) (h1 : k < 9) : -1000000000 < f (i + k) ∧ f (i + k) < 1000000000 := by
  obtain ⟨⟨⟨a, -⟩, -⟩, ⟨⟨b, -⟩, -⟩, ⟨c, -⟩, -⟩ := h
  by_cases q : k < 3
  · exact a k h0 q
  · by_cases q2 : k < 6
    · have := b (k - 3) (by omega) (by omega)
      rwa [show i + 3 + (k - 3) = i + k by omega] at this
    · have := c (k - 6) (by omega) (by omega)
      rwa [show i + 6 + (k - 6) = i + k by omega] at this
set_option maxHeartbeats 8000000 in
theorem c_part (l : Launch) {D : va_G} {ids : Nat → ClassId} {β : Nat} {sh : Nat → Nat × Nat} {N : Nat} {R : Nat → Nat → Option Nat} {F : Nat → Nat → Int} {A : Nat → Int → Int} {S : SP} (hP : PbL sh R N) (hR0 : RepC sh R N S F A) {b t i j w : Int} (hb : I32 b) (ht : I32 t) (hi2 : I32 i) (hj : I32 j) (hw : I32 w) : MetX l yX7_part cX7_part 13 (some (.long)) 2 44 D ids β sh N R F A [rf 0, pI b, pI t, pI i, pI j, pI w] (pLr (fun z F2 A2 => z = oPart S b t i j w ∧ RepC sh R N S F2 A2)) := by
  refine MetX.of (loc := [_, _, _, _, _, _, _, _, _, _, _, _, _]) (plainFor_of_name (by decide +kernel)) (Nat.le_of_ble_eq_true rfl) rfl ?_
  intro p e s m args below meth c hC hK hr hlk
  obtain ⟨hAc, hAg, hJu, ⟨z1, z2⟩, r00, r01, r02⟩ := id hP
  have hShL := hAc.1
  obtain ⟨⟨j1, j2⟩, ⟨s0, s1, s2, s3, s4⟩, ⟨j3, j4⟩, -⟩ := id hShL
  have hI := hR0.shI
  have hi := hR0.2.1
  have i1 := hi.1
  refine x_iload_n (pc2 := 1) hC rfl rfl dX7_part_0 rfl ?_
  refine x_cSi (pc2 := 4) hC hK (m_isTone l ht) lk_400 rfl ⟨Nat.le_of_ble_eq_true rfl, Nat.le_of_ble_eq_true rfl⟩ ⟨Nat.le_refl _, Nat.le_refl _⟩ rfl (Nat.le_of_ble_eq_true rfl) dX7_part_1 rfl ?_
  rintro z1 F1 A1 ⟨w1, b1, e11, e21⟩
  obtain rfl := e11.symm
  obtain rfl := e21.symm
  refine x_if_eq (tgt := 32) (pc2 := 7) hC (by omega) dX7_part_4 rfl rfl (fun h_4 => ?_) (fun h_4 => ?_)
  · refine x_ldc2 (pc2 := 35) (z := -1000000000000000) hC wt_726 rfl dX7_part_32 rfl ?_
    exact x_lret hC hr hlk ⟨_, rfl, by rw [oPart, itC_neg (fun ⟨q1, q2, q3⟩ => by first | exact absurd h_4 ((b1 ()).mpr q1) | exact absurd h_18 ((b15 ()).mpr q2) | omega)], hR0⟩ dX7_part_35
  · refine x_aload_n (pc2 := 8) hC rfl rfl dX7_part_7 rfl ?_
    refine g_369 (pc2 := 11) hC hK (by assumption) (by assumption) (by assumption) dX7_part_8 rfl ?_
    refine x_iload_n (pc2 := 12) hC rfl rfl dX7_part_11 rfl ?_
    refine x_iload_n (pc2 := 13) hC rfl rfl dX7_part_12 rfl ?_
    refine x_iload (pc2 := 15) hC rfl dX7_part_13 rfl ?_
    refine x_cVi (pc2 := 18) (ci := 5) hC hK (p_hasEntry l hP hR0 hb hi2 hj) lk_403 rfl rfl (by decide) (by assumption) (by assumption) ⟨Nat.le_of_ble_eq_true rfl, Nat.le_of_ble_eq_true rfl⟩ ⟨Nat.le_refl _, Nat.le_refl _⟩ rfl (Nat.le_of_ble_eq_true rfl) dX7_part_15 rfl ?_
    rintro z15 F15 A15 ⟨w15, b15, e115, e215⟩
    obtain rfl := e115.symm
    obtain rfl := e215.symm
    refine x_if_eq (tgt := 32) (pc2 := 21) hC (by omega) dX7_part_18 rfl rfl (fun h_18 => ?_) (fun h_18 => ?_)
    · refine x_ldc2 (pc2 := 35) (z := -1000000000000000) hC wt_726 rfl dX7_part_32 rfl ?_
      exact x_lret hC hr hlk ⟨_, rfl, by rw [oPart, itC_neg (fun ⟨q1, q2, q3⟩ => by first | exact absurd h_4 ((b1 ()).mpr q1) | exact absurd h_18 ((b15 ()).mpr q2) | omega)], hR0⟩ dX7_part_35
    · refine x_iload (pc2 := 23) hC rfl dX7_part_21 rfl ?_
      refine x_if_lt (tgt := 32) (pc2 := 26) hC (by omega) dX7_part_23 rfl rfl (fun h_23 => ?_) (fun h_23 => ?_)
      · refine x_ldc2 (pc2 := 35) (z := -1000000000000000) hC wt_726 rfl dX7_part_32 rfl ?_
        exact x_lret hC hr hlk ⟨_, rfl, by rw [oPart, itC_neg (fun ⟨q1, q2, q3⟩ => by first | exact absurd h_4 ((b1 ()).mpr q1) | exact absurd h_18 ((b15 ()).mpr q2) | omega)], hR0⟩ dX7_part_35
      · refine x_iload (pc2 := 28) hC rfl dX7_part_26 rfl ?_
        refine x_iconst (pc2 := 29) hC dX7_part_28 rfl ?_
        refine x_icmp_le (tgt := 36) (pc2 := 32) hC (by omega) (by omega) dX7_part_29 rfl rfl (fun h_29 => ?_) (fun h_29 => ?_)
        · have hT := (b1 ()).mp h_4
          have hE := (b15 ()).mp h_18
          have hw5 : 0 ≤ w ∧ w ≤ 5 := by omega
          have pt2 := (hi.2.1 b hE.1).1
          have he4 : isT (2 * i + j) := by have := hE.2; omega
          have hb16 : b < 16 := by have := hE.1.2; omega
          have hh := hR0.2.2.2.1.1 b t (2 * i + j) hE.1 hT he4
          obtain ⟨at0, eat⟩ : ∃ x, x = b * 144 + t * 36 + (2 * i + j) * 9 := ⟨_, rfl⟩
          rw [← eat] at hh
          have at1 : 0 ≤ at0 ∧ at0 + 9 ≤ 2304 := by have := hE.1.1; omega
          have hbd := fun k a c => holdT_bd (k := k) hh a c
          obtain ⟨at2, eat2⟩ : ∃ x, x = at0 + w / 2 * 3 := ⟨_, rfl⟩
          have at3 : 0 ≤ at2 ∧ at2 + 3 ≤ 2304 := by omega
          have v0 : -1000000000 < A 2 at2 ∧ A 2 at2 < 1000000000 := by
            have := hbd (w / 2 * 3) (by omega) (by omega)
            rwa [← eat2] at this
          have v1 : -1000000000 < A 2 (at2 + 1) ∧ A 2 (at2 + 1) < 1000000000 := by
            have := hbd (w / 2 * 3 + 1) (by omega) (by omega)
            rwa [show at0 + (w / 2 * 3 + 1) = at2 + 1 by omega] at this
          have v2 : -1000000000 < A 2 (at2 + 2) ∧ A 2 (at2 + 2) < 1000000000 := by
            have := hbd (w / 2 * 3 + 2) (by omega) (by omega)
            rwa [show at0 + (w / 2 * 3 + 2) = at2 + 2 by omega] at this
          have hpr := prt_at hh hw5
          rw [← eat2] at hpr
          clear hbd hh
          refine x_iload_n (pc2 := 37) hC rfl rfl dX7_part_36 rfl ?_
          refine x_iload_n (pc2 := 38) hC rfl rfl dX7_part_37 rfl ?_
          refine x_iload_n (pc2 := 39) hC rfl rfl dX7_part_38 rfl ?_
          refine x_iload (pc2 := 41) hC rfl dX7_part_39 rfl ?_
          refine x_cSi (pc2 := 44) hC hK (m_entry l) lk_423 rfl ⟨Nat.le_of_ble_eq_true rfl, Nat.le_of_ble_eq_true rfl⟩ ⟨Nat.le_refl _, Nat.le_refl _⟩ rfl (Nat.le_of_ble_eq_true rfl) dX7_part_41 rfl ?_
          rintro z41 F41 A41 ⟨rfl, e141, e241⟩
          obtain rfl := e141.symm
          obtain rfl := e241.symm
          refine x_cSi (pc2 := 47) hC hK (m_place l) lk_727 rfl ⟨Nat.le_of_ble_eq_true rfl, Nat.le_of_ble_eq_true rfl⟩ ⟨Nat.le_refl _, Nat.le_refl _⟩ rfl (Nat.le_of_ble_eq_true rfl) dX7_part_44 rfl ?_
          rintro z44 F44 A44 ⟨rfl, e144, e244⟩
          obtain rfl := e144.symm
          obtain rfl := e244.symm
          rw [← eat]
          refine x_iload (pc2 := 49) hC rfl dX7_part_47 rfl ?_
          refine x_iconst (pc2 := 50) hC dX7_part_49 rfl ?_
          refine x_idivp (pc2 := 51) hC (by omega) (by omega) (by omega) (by omega) dX7_part_50 rfl ?_
          refine x_iconst (pc2 := 52) hC dX7_part_51 rfl ?_
          refine x_imul (pc2 := 53) hC dX7_part_52 rfl ?_
          refine x_iadd (pc2 := 54) hC dX7_part_53 rfl ?_
          rw [← eat2]
          refine x_istore (pc2 := 56) (loc2 := [_, _, _, _, _, _, _, _, _, _, _, _, _]) hC (by decide) rfl dX7_part_54 rfl ?_
          refine x_aload_n (pc2 := 57) hC rfl rfl dX7_part_56 rfl ?_
          refine g_369 (pc2 := 60) hC hK (by assumption) (by assumption) (by assumption) dX7_part_57 rfl ?_
          refine g_95 (pc2 := 63) hC hK (by assumption) (by assumption) (by assumption) dX7_part_60 rfl ?_
          refine x_iload (pc2 := 65) hC rfl dX7_part_63 rfl ?_
          refine x_iald (pc2 := 66) hC hK (by assumption) (by assumption) (by omega) (by decide) dX7_part_65 rfl ?_
          refine x_i2l (pc2 := 67) hC ⟨by omega, by omega⟩ dX7_part_66 rfl ?_
          refine x_lstore (pc2 := 69) (loc2 := [_, _, _, _, _, _, _, _, _, _, _, _, _]) hC (by decide) rfl dX7_part_67 rfl ?_
          refine x_aload_n (pc2 := 70) hC rfl rfl dX7_part_69 rfl ?_
          refine g_369 (pc2 := 73) hC hK (by assumption) (by assumption) (by assumption) dX7_part_70 rfl ?_
          refine g_95 (pc2 := 76) hC hK (by assumption) (by assumption) (by assumption) dX7_part_73 rfl ?_
          refine x_iload (pc2 := 78) hC rfl dX7_part_76 rfl ?_
          refine x_iconst (pc2 := 79) hC dX7_part_78 rfl ?_
          refine x_iadd (pc2 := 80) hC dX7_part_79 rfl ?_
          refine x_iald (pc2 := 81) hC hK (by assumption) (by assumption) (by omega) (by decide) dX7_part_80 rfl ?_
          refine x_i2l (pc2 := 82) hC ⟨by omega, by omega⟩ dX7_part_81 rfl ?_
          refine x_lstore (pc2 := 84) (loc2 := [_, _, _, _, _, _, _, _, _, _, _, _, _]) hC (by decide) rfl dX7_part_82 rfl ?_
          refine x_aload_n (pc2 := 85) hC rfl rfl dX7_part_84 rfl ?_
          refine g_369 (pc2 := 88) hC hK (by assumption) (by assumption) (by assumption) dX7_part_85 rfl ?_
          refine g_95 (pc2 := 91) hC hK (by assumption) (by assumption) (by assumption) dX7_part_88 rfl ?_
          refine x_iload (pc2 := 93) hC rfl dX7_part_91 rfl ?_
          refine x_iconst (pc2 := 94) hC dX7_part_93 rfl ?_
          refine x_iadd (pc2 := 95) hC dX7_part_94 rfl ?_
          refine x_iald (pc2 := 96) hC hK (by assumption) (by assumption) (by omega) (by decide) dX7_part_95 rfl ?_
          refine x_i2l (pc2 := 97) hC ⟨by omega, by omega⟩ dX7_part_96 rfl ?_
          refine x_lstore (pc2 := 99) (loc2 := [_, _, _, _, _, _, _, _, _, _, _, _, _]) hC (by decide) rfl dX7_part_97 rfl ?_
          refine x_iload (pc2 := 101) hC rfl dX7_part_99 rfl ?_
          refine x_iconst (pc2 := 102) hC dX7_part_101 rfl ?_
          refine x_iremp (pc2 := 103) hC (by omega) (by omega) (by omega) (by omega) dX7_part_102 rfl ?_
          refine x_if_ne (tgt := 122) (pc2 := 106) hC (by omega) dX7_part_103 rfl rfl (fun h_103 => ?_) (fun h_103 => ?_)
          · refine x_lload (pc2 := 124) hC rfl dX7_part_122 rfl ?_
            refine x_ldc2 (pc2 := 127) (z := 1000) hC wt_729 rfl dX7_part_124 rfl ?_
            refine x_lrem (pc2 := 128) hC ⟨by omega, by omega⟩ ⟨by decide, by decide⟩ (by decide) dX7_part_127 rfl ?_
            refine x_ldc2 (pc2 := 131) (z := 1000000000) hC wt_730 rfl dX7_part_128 rfl ?_
            refine x_lmul (pc2 := 132) hC dX7_part_131 rfl ?_
            refine x_lload (pc2 := 134) hC rfl dX7_part_132 rfl ?_
            refine x_ladd (pc2 := 135) hC dX7_part_134 rfl ?_
            exact x_lret hC hr hlk ⟨_, rfl, by first | (rw [oPart, itC_pos ⟨hT, hE, hw5⟩, hpr, if_pos (by omega)]) | (rw [oPart, itC_pos ⟨hT, hE, hw5⟩, hpr, if_neg (by omega)]), hR0⟩ dX7_part_135
          · refine x_lload (pc2 := 108) hC rfl dX7_part_106 rfl ?_
            refine x_ldc2 (pc2 := 111) (z := 1000000) hC wt_728 rfl dX7_part_108 rfl ?_
            refine x_lmul (pc2 := 112) hC dX7_part_111 rfl ?_
            refine x_lload (pc2 := 114) hC rfl dX7_part_112 rfl ?_
            refine x_ldc2 (pc2 := 117) (z := 1000) hC wt_729 rfl dX7_part_114 rfl ?_
            refine x_ldiv (pc2 := 118) hC ⟨by omega, by omega⟩ ⟨by decide, by decide⟩ (by decide) dX7_part_117 rfl ?_
            refine x_ladd (pc2 := 119) hC dX7_part_118 rfl ?_
            refine x_goto (pc2 := 135) hC dX7_part_119 rfl ?_
            exact x_lret hC hr hlk ⟨_, rfl, by first | (rw [oPart, itC_pos ⟨hT, hE, hw5⟩, hpr, if_pos (by omega)]) | (rw [oPart, itC_pos ⟨hT, hE, hw5⟩, hpr, if_neg (by omega)]), hR0⟩ dX7_part_135
        · refine x_ldc2 (pc2 := 35) (z := -1000000000000000) hC wt_726 rfl dX7_part_32 rfl ?_
          exact x_lret hC hr hlk ⟨_, rfl, by rw [oPart, itC_neg (fun ⟨q1, q2, q3⟩ => by first | exact absurd h_4 ((b1 ()).mpr q1) | exact absurd h_18 ((b15 ()).mpr q2) | omega)], hR0⟩ dX7_part_35
