theorem p_hasBox (l : Launch) {D : va_G} {ids : Nat → ClassId} {β : Nat} {sh : Nat → Nat × Nat} {N : Nat} {R : Nat → Nat → Option Nat} {F : Nat → Nat → Int} {A : Nat → Int → Int} {S : SP} (hP : PbL sh R N) (hR0 : RepC sh R N S F A) {b : Int} (hb : I32 b) : MetX l yX5_hasBox cX5_hasBox 2 (some (.boolean)) 0 0 D ids β sh N R F A [rf 1, pI b] (pIr (boolP F A (isB S b))) := by
  obtain ⟨n1, n2, n3, n4, -, -⟩ := id hR0.2.2.1
  exact (m_hasBox l hP.1.1 hR0.shI hb).mono (fun rv F2 A2 h => by
    obtain ⟨z, h1, h2⟩ := h
    exact ⟨z, h1, boolP.of _ h2 (by rw [n1])⟩)
theorem p_hasBoxWith (l : Launch) {D : va_G} {ids : Nat → ClassId} {β : Nat} {sh : Nat → Nat × Nat} {N : Nat} {R : Nat → Nat → Option Nat} {F : Nat → Nat → Int} {A : Nat → Int → Int} {S : SP} (hP : PbL sh R N) (hR0 : RepC sh R N S F A) {b n : Int} (hb : I32 b) (hn : I32 n) : MetX l yX5_hasBoxWith cX5_hasBoxWith 3 (some (.boolean)) 1 21 D ids β sh N R F A [rf 1, pI b, pI n] (pIr (boolP F A (hasB S b n))) := by
  obtain ⟨n1, n2, n3, n4, -, -⟩ := id hR0.2.2.1
  exact (m_hasBoxWith l hP.1.1 hR0.shI hb hn).mono (fun rv F2 A2 h => by
    obtain ⟨z, h1, h2⟩ := h
    refine ⟨z, h1, boolP.of _ h2 ?_⟩
    rw [n1]
    exact ⟨fun q => ⟨q.1, by rw [← n4 b q.1]; exact q.2⟩, fun q => ⟨q.1, by rw [n4 b q.1]; exact q.2⟩⟩)
theorem p_hasEntry (l : Launch) {D : va_G} {ids : Nat → ClassId} {β : Nat} {sh : Nat → Nat × Nat} {N : Nat} {R : Nat → Nat → Option Nat} {F : Nat → Nat → Int} {A : Nat → Int → Int} {S : SP} (hP : PbL sh R N) (hR0 : RepC sh R N S F A) {b i j : Int} (hb : I32 b) (hi2 : I32 i) (hj : I32 j) : MetX l yX5_hasEntry cX5_hasEntry 4 (some (.boolean)) 1 21 D ids β sh N R F A [rf 1, pI b, pI i, pI j] (pIr (boolP F A (isE S b i j))) := by
  obtain ⟨n1, n2, n3, n4, -, -⟩ := id hR0.2.2.1
  exact (m_hasEntry l hP.1.1 hR0.shI hb hi2 hj).mono (fun rv F2 A2 h => by
    obtain ⟨z, h1, h2⟩ := h
    refine ⟨z, h1, boolP.of _ h2 ?_⟩
    rw [n1]
    exact ⟨fun q => ⟨q.1, by rw [← n4 b q.1]; exact q.2⟩, fun q => ⟨q.1, by rw [n4 b q.1]; exact q.2⟩⟩)
theorem p_portsOf (l : Launch) {D : va_G} {ids : Nat → ClassId} {β : Nat} {sh : Nat → Nat × Nat} {N : Nat} {R : Nat → Nat → Option Nat} {F : Nat → Nat → Int} {A : Nat → Int → Int} {S : SP} (hP : PbL sh R N) (hR0 : RepC sh R N S F A) {b : Int} (hb : I32 b) (hbb : isB S b) : MetX l yX5_portsOf cX5_portsOf 2 (some (.int)) 1 21 D ids β sh N R F A [rf 1, pI b] (pIr (sameI F A (ptS S b))) := by
  obtain ⟨n1, n2, n3, n4, -, -⟩ := id hR0.2.2.1
  exact (m_portsOf l hP.1.1 hR0.shI hb).mono (fun rv F2 A2 h => by
    obtain ⟨z, h1, h2, h3⟩ := h
    refine ⟨z, h1, ?_, h3⟩
    rw [h2, n1, if_pos hbb, n4 b hbb])
theorem p_startDraft (l : Launch) {D : va_G} {ids : Nat → ClassId} {β : Nat} {sh : Nat → Nat × Nat} {N : Nat} {R : Nat → Nat → Option Nat} {F : Nat → Nat → Int} {A : Nat → Int → Int} {S : SP} (hP : PbL sh R N) (hR0 : RepC sh R N S F A) {b : Int} (hb : isB S b) : MetX l yX5_startDraft cX5_startDraft 2 none 1 26 D ids β sh N R F A [rf 1, pI b] (pVr (fun F2 A2 => F2 = F ∧ RepC sh R N S F A2 ∧ ∀ t e, isT t → isT e → holdT (A2 3) (t * 36 + e * 9) (vS S b t e))) := by
  refine (m_startDraft l hP.1.1 hR0.shI ⟨hb.1, by have := hb.2; have := hR0.nb; omega⟩).mono (fun rv F2 A2 h => ?_)
  obtain ⟨h1, rfl, rfl⟩ := h
  exact ⟨h1, rfl, (hR0.start hP hb).2.1, (hR0.start hP hb).2.2⟩
theorem p_keepDraft (l : Launch) {D : va_G} {ids : Nat → ClassId} {β : Nat} {sh : Nat → Nat × Nat} {N : Nat} {R : Nat → Nat → Option Nat} {F : Nat → Nat → Int} {A : Nat → Int → Int} {S : SP} (hP : PbL sh R N) (hR0 : RepC sh R N S F A) {b : Int} {w : BX} (hb : isB S b) (hw : wfB (ptS S b) w) (hd : ∀ t e, isT t → isT e → holdT (A 3) (t * 36 + e * 9) (w t e)) : MetX l yX5_keepDraft cX5_keepDraft 2 none 1 26 D ids β sh N R F A [rf 1, pI b] (pVr (RepC sh R N (actS S b w))) := by
  refine (m_keepDraft l hP.1.1 hR0.shI ⟨hb.1, by have := hb.2; have := hR0.nb; omega⟩).mono (fun rv F2 A2 h => ?_)
  obtain ⟨h1, rfl, rfl⟩ := h
  exact ⟨h1, hR0.keep hP hb hw hd⟩
theorem p_draftSmall (l : Launch) {D : va_G} {ids : Nat → ClassId} {β : Nat} {sh : Nat → Nat × Nat} {N : Nat} {R : Nat → Nat → Option Nat} {F : Nat → Nat → Int} {A : Nat → Int → Int} {S : SP} (hP : PbL sh R N) (hR0 : RepC sh R N S F A) {tone en cp cq cr : Int} (ht : isT tone) (he : isT en) (hp : -999999999 ≤ cp ∧ cp ≤ 999999999) (hq : -999999999 ≤ cq ∧ cq ≤ 999999999) (hrr : 1 ≤ cr ∧ cr ≤ 999999999) : MetX l yX5_draftSmall cX5_draftSmall 10 none 1 30 D ids β sh N R F A [rf 1, pI tone, pI en, pI cp, pI cq, pI cr] (pVr (fun F2 A2 => F2 = F ∧ RepC sh R N S F A2 ∧ holdT (A2 3) (tone * 36 + en * 9) (g3 cp cq cr) ∧ ∀ k, k < tone * 36 + en * 9 ∨ tone * 36 + en * 9 + 9 ≤ k → A2 3 k = A 3 k)) := by
  refine (m_draftSmall l hP.1.1 hR0.shI ht he hp hq hrr).mono (fun rv F2 A2 h => ?_)
  obtain ⟨h1, rfl, g, hg, ha, d1, d2, d3, d4, d5⟩ := h
  have e := (g3_lt (p := cp) (q := cq) (r := cr) (by omega) hg).1
  have dd : ∀ x : Int, -999999999 ≤ x ∧ x ≤ 999999999 → -1000000000 < x.tdiv g ∧ x.tdiv g < 1000000000 := fun x hx => by
    have := @tdiv_le x g
    omega
  refine ⟨h1, rfl, hR0.dr hP (fun _ _ => rfl) ha rfl rfl hR0.1.fr.2.2, ?_, d5⟩
  rw [e]
  refine ⟨hold_small d1 ?_ ?_ (dd _ hp), hold_small d2 ?_ ?_ (dd _ hq), hold_small d3 ?_ ?_ (dd _ (by omega))⟩
  · exact d4 1 (by decide) (by decide) (by decide) (by decide) (by decide)
  · exact d4 2 (by decide) (by decide) (by decide) (by decide) (by decide)
  · have := d4 4 (by decide) (by decide) (by decide) (by decide) (by decide); rwa [show tone * 36 + en * 9 + 3 + 1 = tone * 36 + en * 9 + 4 by omega]
  · have := d4 5 (by decide) (by decide) (by decide) (by decide) (by decide); rwa [show tone * 36 + en * 9 + 3 + 2 = tone * 36 + en * 9 + 5 by omega]
  · have := d4 7 (by decide) (by decide) (by decide) (by decide) (by decide); rwa [show tone * 36 + en * 9 + 6 + 1 = tone * 36 + en * 9 + 7 by omega]
  · have := d4 8 (by decide) (by decide) (by decide) (by decide) (by decide); rwa [show tone * 36 + en * 9 + 6 + 2 = tone * 36 + en * 9 + 8 by omega]
theorem dX7_isTone_0 : decode cX7_isTone 0 = .ok (.iload_n 0, 1) := by decide +kernel
theorem dX7_isTone_1 : decode cX7_isTone 1 = .ok (.ifCond .lt 12, 3) := by decide +kernel
theorem dX7_isTone_4 : decode cX7_isTone 4 = .ok (.iload_n 0, 1) := by decide +kernel
theorem dX7_isTone_5 : decode cX7_isTone 5 = .ok (.iconst 4, 1) := by decide +kernel
theorem dX7_isTone_6 : decode cX7_isTone 6 = .ok (.if_icmp .ge 7, 3) := by decide +kernel
theorem dX7_isTone_9 : decode cX7_isTone 9 = .ok (.iconst 1, 1) := by decide +kernel
theorem dX7_isTone_10 : decode cX7_isTone 10 = .ok (.goto 4, 3) := by decide +kernel
theorem dX7_isTone_13 : decode cX7_isTone 13 = .ok (.iconst 0, 1) := by decide +kernel
theorem dX7_isTone_14 : decode cX7_isTone 14 = .ok (.ireturn, 1) := by decide +kernel
set_option maxHeartbeats 4000000 in
theorem m_isTone (l : Launch) {D : va_G} {ids : Nat → ClassId} {β : Nat} {sh : Nat → Nat × Nat} {N : Nat} {R : Nat → Nat → Option Nat} {F : Nat → Nat → Int} {A : Nat → Int → Int} {t : Int} (ht : I32 t) : MetX l yX7_isTone cX7_isTone 1 (some (.boolean)) 0 0 D ids β sh N R F A [pI t] (pIr (boolP F A (isT t))) := by
  refine MetX.of (loc := [_]) (plainFor_of_name (by decide +kernel)) (Nat.le_of_ble_eq_true rfl) rfl ?_
  intro p e s m args below meth c hC hK hr hlk
  refine x_iload_n (pc2 := 1) hC rfl rfl dX7_isTone_0 rfl ?_
  refine x_if_lt (tgt := 13) (pc2 := 4) hC (by omega) dX7_isTone_1 rfl rfl (fun h_1 => ?_) (fun h_1 => ?_)
  · refine x_iconst (pc2 := 14) hC dX7_isTone_13 rfl ?_
    exact x_zret hC (by omega) hr hlk ⟨_, rfl, by omega, fun _ => by omega, rfl, rfl⟩ dX7_isTone_14
  · refine x_iload_n (pc2 := 5) hC rfl rfl dX7_isTone_4 rfl ?_
    refine x_iconst (pc2 := 6) hC dX7_isTone_5 rfl ?_
    refine x_icmp_ge (tgt := 13) (pc2 := 9) hC (by omega) (by omega) dX7_isTone_6 rfl rfl (fun h_6 => ?_) (fun h_6 => ?_)
    · refine x_iconst (pc2 := 14) hC dX7_isTone_13 rfl ?_
      exact x_zret hC (by omega) hr hlk ⟨_, rfl, by omega, fun _ => by omega, rfl, rfl⟩ dX7_isTone_14
    · refine x_iconst (pc2 := 10) hC dX7_isTone_9 rfl ?_
      refine x_goto (pc2 := 14) hC dX7_isTone_10 rfl ?_
      exact x_zret hC (by omega) hr hlk ⟨_, rfl, by omega, fun _ => by omega, rfl, rfl⟩ dX7_isTone_14
theorem dX7_mayBeGiven_0 : decode cX7_mayBeGiven 0 = .ok (.iload_n 0, 1) := by decide +kernel
theorem dX7_mayBeGiven_1 : decode cX7_mayBeGiven 1 = .ok (.ldc 162, 2) := by decide +kernel
theorem dX7_mayBeGiven_3 : decode cX7_mayBeGiven 3 = .ok (.if_icmp .lt 36, 3) := by decide +kernel
theorem dX7_mayBeGiven_6 : decode cX7_mayBeGiven 6 = .ok (.iload_n 0, 1) := by decide +kernel
theorem dX7_mayBeGiven_7 : decode cX7_mayBeGiven 7 = .ok (.ldc 163, 2) := by decide +kernel
theorem dX7_mayBeGiven_9 : decode cX7_mayBeGiven 9 = .ok (.if_icmp .gt 30, 3) := by decide +kernel
theorem dX7_mayBeGiven_12 : decode cX7_mayBeGiven 12 = .ok (.iload_n 1, 1) := by decide +kernel
theorem dX7_mayBeGiven_13 : decode cX7_mayBeGiven 13 = .ok (.ldc 162, 2) := by decide +kernel
theorem dX7_mayBeGiven_15 : decode cX7_mayBeGiven 15 = .ok (.if_icmp .lt 24, 3) := by decide +kernel
theorem dX7_mayBeGiven_18 : decode cX7_mayBeGiven 18 = .ok (.iload_n 1, 1) := by decide +kernel
theorem dX7_mayBeGiven_19 : decode cX7_mayBeGiven 19 = .ok (.ldc 163, 2) := by decide +kernel
theorem dX7_mayBeGiven_21 : decode cX7_mayBeGiven 21 = .ok (.if_icmp .gt 18, 3) := by decide +kernel
theorem dX7_mayBeGiven_24 : decode cX7_mayBeGiven 24 = .ok (.iload_n 2, 1) := by decide +kernel
theorem dX7_mayBeGiven_25 : decode cX7_mayBeGiven 25 = .ok (.iconst 1, 1) := by decide +kernel
theorem dX7_mayBeGiven_26 : decode cX7_mayBeGiven 26 = .ok (.if_icmp .lt 13, 3) := by decide +kernel
theorem dX7_mayBeGiven_29 : decode cX7_mayBeGiven 29 = .ok (.iload_n 2, 1) := by decide +kernel
theorem dX7_mayBeGiven_30 : decode cX7_mayBeGiven 30 = .ok (.ldc 163, 2) := by decide +kernel
theorem dX7_mayBeGiven_32 : decode cX7_mayBeGiven 32 = .ok (.if_icmp .gt 7, 3) := by decide +kernel
theorem dX7_mayBeGiven_35 : decode cX7_mayBeGiven 35 = .ok (.iconst 1, 1) := by decide +kernel
theorem dX7_mayBeGiven_36 : decode cX7_mayBeGiven 36 = .ok (.goto 4, 3) := by decide +kernel
theorem dX7_mayBeGiven_39 : decode cX7_mayBeGiven 39 = .ok (.iconst 0, 1) := by decide +kernel
theorem dX7_mayBeGiven_40 : decode cX7_mayBeGiven 40 = .ok (.ireturn, 1) := by decide +kernel
set_option maxHeartbeats 4000000 in
theorem m_given (l : Launch) {D : va_G} {ids : Nat → ClassId} {β : Nat} {sh : Nat → Nat × Nat} {N : Nat} {R : Nat → Nat → Option Nat} {F : Nat → Nat → Int} {A : Nat → Int → Int} {p0 q0 r0 : Int} (hp : I32 p0) (hq : I32 q0) (hr0 : I32 r0) : MetX l yX7_mayBeGiven cX7_mayBeGiven 3 (some (.boolean)) 0 0 D ids β sh N R F A [pI p0, pI q0, pI r0] (pIr (boolP F A (given p0 q0 r0))) := by
  refine MetX.of (loc := [_, _, _]) (plainFor_of_name (by decide +kernel)) (Nat.le_of_ble_eq_true rfl) rfl ?_
  intro p e s m args below meth c hC hK hr hlk
  refine x_iload_n (pc2 := 1) hC rfl rfl dX7_mayBeGiven_0 rfl ?_
  refine x_ldc (pc2 := 3) (z := -1000000) hC wt_414 rfl dX7_mayBeGiven_1 rfl ?_
  refine x_icmp_lt (tgt := 39) (pc2 := 6) hC (by omega) (by omega) dX7_mayBeGiven_3 rfl rfl (fun h_3 => ?_) (fun h_3 => ?_)
  · refine x_iconst (pc2 := 40) hC dX7_mayBeGiven_39 rfl ?_
    exact x_zret hC (by omega) hr hlk ⟨_, rfl, by omega, fun _ => by omega, rfl, rfl⟩ dX7_mayBeGiven_40
  · refine x_iload_n (pc2 := 7) hC rfl rfl dX7_mayBeGiven_6 rfl ?_
    refine x_ldc (pc2 := 9) (z := 1000000) hC wt_415 rfl dX7_mayBeGiven_7 rfl ?_
    refine x_icmp_gt (tgt := 39) (pc2 := 12) hC (by omega) (by omega) dX7_mayBeGiven_9 rfl rfl (fun h_9 => ?_) (fun h_9 => ?_)
    · refine x_iconst (pc2 := 40) hC dX7_mayBeGiven_39 rfl ?_
      exact x_zret hC (by omega) hr hlk ⟨_, rfl, by omega, fun _ => by omega, rfl, rfl⟩ dX7_mayBeGiven_40
    · refine x_iload_n (pc2 := 13) hC rfl rfl dX7_mayBeGiven_12 rfl ?_
      refine x_ldc (pc2 := 15) (z := -1000000) hC wt_414 rfl dX7_mayBeGiven_13 rfl ?_
      refine x_icmp_lt (tgt := 39) (pc2 := 18) hC (by omega) (by omega) dX7_mayBeGiven_15 rfl rfl (fun h_15 => ?_) (fun h_15 => ?_)
      · refine x_iconst (pc2 := 40) hC dX7_mayBeGiven_39 rfl ?_
        exact x_zret hC (by omega) hr hlk ⟨_, rfl, by omega, fun _ => by omega, rfl, rfl⟩ dX7_mayBeGiven_40
      · refine x_iload_n (pc2 := 19) hC rfl rfl dX7_mayBeGiven_18 rfl ?_
        refine x_ldc (pc2 := 21) (z := 1000000) hC wt_415 rfl dX7_mayBeGiven_19 rfl ?_
        refine x_icmp_gt (tgt := 39) (pc2 := 24) hC (by omega) (by omega) dX7_mayBeGiven_21 rfl rfl (fun h_21 => ?_) (fun h_21 => ?_)
        · refine x_iconst (pc2 := 40) hC dX7_mayBeGiven_39 rfl ?_
          exact x_zret hC (by omega) hr hlk ⟨_, rfl, by omega, fun _ => by omega, rfl, rfl⟩ dX7_mayBeGiven_40
        · refine x_iload_n (pc2 := 25) hC rfl rfl dX7_mayBeGiven_24 rfl ?_
          refine x_iconst (pc2 := 26) hC dX7_mayBeGiven_25 rfl ?_
          refine x_icmp_lt (tgt := 39) (pc2 := 29) hC (by omega) (by omega) dX7_mayBeGiven_26 rfl rfl (fun h_26 => ?_) (fun h_26 => ?_)
          · refine x_iconst (pc2 := 40) hC dX7_mayBeGiven_39 rfl ?_
            exact x_zret hC (by omega) hr hlk ⟨_, rfl, by omega, fun _ => by omega, rfl, rfl⟩ dX7_mayBeGiven_40
          · refine x_iload_n (pc2 := 30) hC rfl rfl dX7_mayBeGiven_29 rfl ?_
            refine x_ldc (pc2 := 32) (z := 1000000) hC wt_415 rfl dX7_mayBeGiven_30 rfl ?_
            refine x_icmp_gt (tgt := 39) (pc2 := 35) hC (by omega) (by omega) dX7_mayBeGiven_32 rfl rfl (fun h_32 => ?_) (fun h_32 => ?_)
            · refine x_iconst (pc2 := 40) hC dX7_mayBeGiven_39 rfl ?_
              exact x_zret hC (by omega) hr hlk ⟨_, rfl, by omega, fun _ => by omega, rfl, rfl⟩ dX7_mayBeGiven_40
            · refine x_iconst (pc2 := 36) hC dX7_mayBeGiven_35 rfl ?_
              refine x_goto (pc2 := 40) hC dX7_mayBeGiven_36 rfl ?_
              exact x_zret hC (by omega) hr hlk ⟨_, rfl, by omega, fun _ => by omega, rfl, rfl⟩ dX7_mayBeGiven_40
theorem dX7_refuse_0 : decode cX7_refuse 0 = .ok (.aload_n 0, 1) := by decide +kernel
theorem dX7_refuse_1 : decode cX7_refuse 1 = .ok (.iload_n 1, 1) := by decide +kernel
theorem dX7_refuse_2 : decode cX7_refuse 2 = .ok (.putfield 32, 3) := by decide +kernel
theorem dX7_refuse_5 : decode cX7_refuse 5 = .ok (.aload_n 0, 1) := by decide +kernel
theorem dX7_refuse_6 : decode cX7_refuse 6 = .ok (.iload_n 2, 1) := by decide +kernel
theorem dX7_refuse_7 : decode cX7_refuse 7 = .ok (.putfield 36, 3) := by decide +kernel
theorem dX7_refuse_10 : decode cX7_refuse 10 = .ok (.bipush (-2), 2) := by decide +kernel
theorem dX7_refuse_12 : decode cX7_refuse 12 = .ok (.ireturn, 1) := by decide +kernel
set_option maxHeartbeats 4000000 in
theorem m_refuse (l : Launch) {D : va_G} {ids : Nat → ClassId} {β : Nat} {sh : Nat → Nat × Nat} {N : Nat} {R : Nat → Nat → Option Nat} {F : Nat → Nat → Int} {A : Nat → Int → Int} {S : SP} (hP : PbL sh R N) (hR0 : RepC sh R N S F A) {t d : Int} : MetX l yX7_refuse cX7_refuse 3 (some (.int)) 0 0 D ids β sh N R F A [rf 0, pI t, pI d] (pIr (fun z F2 A2 => z = -2 ∧ RepC sh R N (noS S t d) F2 A2)) := by
  refine MetX.of (loc := [_, _, _]) (plainFor_of_name (by decide +kernel)) (Nat.le_of_ble_eq_true rfl) rfl ?_
  intro p e s m args below meth c hC hK hr hlk
  obtain ⟨hAc, hAg, hJu, ⟨z1, z2⟩, r00, r01, r02⟩ := id hP
  have hShL := hAc.1
  obtain ⟨⟨j1, j2⟩, ⟨s0, s1, s2, s3, s4⟩, ⟨j3, j4⟩, -⟩ := id hShL
  have hI := hR0.shI
  have hi := hR0.2.1
  have i1 := hi.1
  refine x_aload_n (pc2 := 1) hC rfl rfl dX7_refuse_0 rfl ?_
  refine x_iload_n (pc2 := 2) hC rfl rfl dX7_refuse_1 rfl ?_
  refine p_372 (pc2 := 5) hC hK (by assumption) (by assumption) dX7_refuse_2 rfl ?_
  refine x_aload_n (pc2 := 6) hC rfl rfl dX7_refuse_5 rfl ?_
  refine x_iload_n (pc2 := 7) hC rfl rfl dX7_refuse_6 rfl ?_
  refine p_373 (pc2 := 10) hC hK (by assumption) (by assumption) dX7_refuse_7 rfl ?_
  refine x_bipush (pc2 := 12) hC rfl dX7_refuse_10 rfl ?_
  exact x_iret hC hr hlk ⟨_, rfl, rfl, hR0.no hP _ _⟩ dX7_refuse_12
theorem dX7_hasThreeOfOnePort_0 : decode cX7_hasThreeOfOnePort 0 = .ok (.aload_n 0, 1) := by decide +kernel
theorem dX7_hasThreeOfOnePort_1 : decode cX7_hasThreeOfOnePort 1 = .ok (.getfield 12, 3) := by decide +kernel
theorem dX7_hasThreeOfOnePort_4 : decode cX7_hasThreeOfOnePort 4 = .ok (.iload_n 1, 1) := by decide +kernel
theorem dX7_hasThreeOfOnePort_5 : decode cX7_hasThreeOfOnePort 5 = .ok (.iconst 1, 1) := by decide +kernel
theorem dX7_hasThreeOfOnePort_6 : decode cX7_hasThreeOfOnePort 6 = .ok (.invokevirtual 75, 3) := by decide +kernel
theorem dX7_hasThreeOfOnePort_9 : decode cX7_hasThreeOfOnePort 9 = .ok (.ifCond .eq 35, 3) := by decide +kernel
theorem dX7_hasThreeOfOnePort_12 : decode cX7_hasThreeOfOnePort 12 = .ok (.aload_n 0, 1) := by decide +kernel
theorem dX7_hasThreeOfOnePort_13 : decode cX7_hasThreeOfOnePort 13 = .ok (.getfield 12, 3) := by decide +kernel
theorem dX7_hasThreeOfOnePort_16 : decode cX7_hasThreeOfOnePort 16 = .ok (.iload_n 1, 1) := by decide +kernel
theorem dX7_hasThreeOfOnePort_17 : decode cX7_hasThreeOfOnePort 17 = .ok (.iconst 1, 1) := by decide +kernel
theorem dX7_hasThreeOfOnePort_18 : decode cX7_hasThreeOfOnePort 18 = .ok (.iadd, 1) := by decide +kernel
theorem dX7_hasThreeOfOnePort_19 : decode cX7_hasThreeOfOnePort 19 = .ok (.iconst 1, 1) := by decide +kernel
theorem dX7_hasThreeOfOnePort_20 : decode cX7_hasThreeOfOnePort 20 = .ok (.invokevirtual 75, 3) := by decide +kernel
theorem dX7_hasThreeOfOnePort_23 : decode cX7_hasThreeOfOnePort 23 = .ok (.ifCond .eq 21, 3) := by decide +kernel
theorem dX7_hasThreeOfOnePort_26 : decode cX7_hasThreeOfOnePort 26 = .ok (.aload_n 0, 1) := by decide +kernel
theorem dX7_hasThreeOfOnePort_27 : decode cX7_hasThreeOfOnePort 27 = .ok (.getfield 12, 3) := by decide +kernel
theorem dX7_hasThreeOfOnePort_30 : decode cX7_hasThreeOfOnePort 30 = .ok (.iload_n 1, 1) := by decide +kernel
theorem dX7_hasThreeOfOnePort_31 : decode cX7_hasThreeOfOnePort 31 = .ok (.iconst 2, 1) := by decide +kernel
theorem dX7_hasThreeOfOnePort_32 : decode cX7_hasThreeOfOnePort 32 = .ok (.iadd, 1) := by decide +kernel
theorem dX7_hasThreeOfOnePort_33 : decode cX7_hasThreeOfOnePort 33 = .ok (.iconst 1, 1) := by decide +kernel
theorem dX7_hasThreeOfOnePort_34 : decode cX7_hasThreeOfOnePort 34 = .ok (.invokevirtual 75, 3) := by decide +kernel
theorem dX7_hasThreeOfOnePort_37 : decode cX7_hasThreeOfOnePort 37 = .ok (.ifCond .eq 7, 3) := by decide +kernel
theorem dX7_hasThreeOfOnePort_40 : decode cX7_hasThreeOfOnePort 40 = .ok (.iconst 1, 1) := by decide +kernel
theorem dX7_hasThreeOfOnePort_41 : decode cX7_hasThreeOfOnePort 41 = .ok (.goto 4, 3) := by decide +kernel
theorem dX7_hasThreeOfOnePort_44 : decode cX7_hasThreeOfOnePort 44 = .ok (.iconst 0, 1) := by decide +kernel
theorem dX7_hasThreeOfOnePort_45 : decode cX7_hasThreeOfOnePort 45 = .ok (.ireturn, 1) := by decide +kernel
set_option maxHeartbeats 4000000 in
theorem m_has3 (l : Launch) {D : va_G} {ids : Nat → ClassId} {β : Nat} {sh : Nat → Nat × Nat} {N : Nat} {R : Nat → Nat → Option Nat} {F : Nat → Nat → Int} {A : Nat → Int → Int} {S : SP} (hP : PbL sh R N) (hR0 : RepC sh R N S F A) {k : Int} (hk : I32 k) : MetX l yX7_hasThreeOfOnePort cX7_hasThreeOfOnePort 2 (some (.boolean)) 2 43 D ids β sh N R F A [rf 0, pI k] (pIr (boolP F A (has3 S k))) := by
  refine MetX.of (loc := [_, _]) (plainFor_of_name (by decide +kernel)) (Nat.le_of_ble_eq_true rfl) rfl ?_
  intro p e s m args below meth c hC hK hr hlk
  obtain ⟨hAc, hAg, hJu, ⟨z1, z2⟩, r00, r01, r02⟩ := id hP
  have hShL := hAc.1
  obtain ⟨⟨j1, j2⟩, ⟨s0, s1, s2, s3, s4⟩, ⟨j3, j4⟩, -⟩ := id hShL
  have hI := hR0.shI
  have hi := hR0.2.1
  have i1 := hi.1
  refine x_aload_n (pc2 := 1) hC rfl rfl dX7_hasThreeOfOnePort_0 rfl ?_
  refine g_369 (pc2 := 4) hC hK (by assumption) (by assumption) (by assumption) dX7_hasThreeOfOnePort_1 rfl ?_
  refine x_iload_n (pc2 := 5) hC rfl rfl dX7_hasThreeOfOnePort_4 rfl ?_
  refine x_iconst (pc2 := 6) hC dX7_hasThreeOfOnePort_5 rfl ?_
  refine x_cVi (pc2 := 9) (ci := 5) hC hK (p_hasBoxWith l hP hR0 hk (by decide)) lk_460 rfl rfl (by decide) (by assumption) (by assumption) ⟨Nat.le_of_ble_eq_true rfl, Nat.le_of_ble_eq_true rfl⟩ ⟨Nat.le_refl _, Nat.le_refl _⟩ rfl (Nat.le_of_ble_eq_true rfl) dX7_hasThreeOfOnePort_6 rfl ?_
  rintro z6 F6 A6 ⟨w6, b6, e16, e26⟩
  obtain rfl := e16.symm
  obtain rfl := e26.symm
  refine x_if_eq (tgt := 44) (pc2 := 12) hC (by omega) dX7_hasThreeOfOnePort_9 rfl rfl (fun h_9 => ?_) (fun h_9 => ?_)
  · refine x_iconst (pc2 := 45) hC dX7_hasThreeOfOnePort_44 rfl ?_
    exact x_zret hC (by omega) hr hlk ⟨_, rfl, by omega, fun _ => ⟨fun _ => by first | (exact ⟨(b6 ()).mp h_9, (b20 ()).mp h_23, (b34 ()).mp h_37⟩) | omega, fun ⟨q1, q2, q3⟩ => by first | omega | exact absurd h_9 ((b6 ()).mpr q1) | exact absurd h_23 ((b20 ()).mpr q2) | exact absurd h_37 ((b34 ()).mpr q3)⟩, rfl, rfl⟩ dX7_hasThreeOfOnePort_45
  · have kb := ((b6 ()).mp h_9).1
    refine x_aload_n (pc2 := 13) hC rfl rfl dX7_hasThreeOfOnePort_12 rfl ?_
    refine g_369 (pc2 := 16) hC hK (by assumption) (by assumption) (by assumption) dX7_hasThreeOfOnePort_13 rfl ?_
    refine x_iload_n (pc2 := 17) hC rfl rfl dX7_hasThreeOfOnePort_16 rfl ?_
    refine x_iconst (pc2 := 18) hC dX7_hasThreeOfOnePort_17 rfl ?_
    refine x_iadd (pc2 := 19) hC dX7_hasThreeOfOnePort_18 rfl ?_
    refine x_iconst (pc2 := 20) hC dX7_hasThreeOfOnePort_19 rfl ?_
    refine x_cVi (pc2 := 23) (ci := 5) hC hK (p_hasBoxWith l hP hR0 (by omega) (by decide)) lk_460 rfl rfl (by decide) (by assumption) (by assumption) ⟨Nat.le_of_ble_eq_true rfl, Nat.le_of_ble_eq_true rfl⟩ ⟨Nat.le_refl _, Nat.le_refl _⟩ rfl (Nat.le_of_ble_eq_true rfl) dX7_hasThreeOfOnePort_20 rfl ?_
    rintro z20 F20 A20 ⟨w20, b20, e120, e220⟩
    obtain rfl := e120.symm
    obtain rfl := e220.symm
    refine x_if_eq (tgt := 44) (pc2 := 26) hC (by omega) dX7_hasThreeOfOnePort_23 rfl rfl (fun h_23 => ?_) (fun h_23 => ?_)
    · refine x_iconst (pc2 := 45) hC dX7_hasThreeOfOnePort_44 rfl ?_
      exact x_zret hC (by omega) hr hlk ⟨_, rfl, by omega, fun _ => ⟨fun _ => by first | (exact ⟨(b6 ()).mp h_9, (b20 ()).mp h_23, (b34 ()).mp h_37⟩) | omega, fun ⟨q1, q2, q3⟩ => by first | omega | exact absurd h_9 ((b6 ()).mpr q1) | exact absurd h_23 ((b20 ()).mpr q2) | exact absurd h_37 ((b34 ()).mpr q3)⟩, rfl, rfl⟩ dX7_hasThreeOfOnePort_45
    · refine x_aload_n (pc2 := 27) hC rfl rfl dX7_hasThreeOfOnePort_26 rfl ?_
      refine g_369 (pc2 := 30) hC hK (by assumption) (by assumption) (by assumption) dX7_hasThreeOfOnePort_27 rfl ?_
      refine x_iload_n (pc2 := 31) hC rfl rfl dX7_hasThreeOfOnePort_30 rfl ?_
      refine x_iconst (pc2 := 32) hC dX7_hasThreeOfOnePort_31 rfl ?_
      refine x_iadd (pc2 := 33) hC dX7_hasThreeOfOnePort_32 rfl ?_
      refine x_iconst (pc2 := 34) hC dX7_hasThreeOfOnePort_33 rfl ?_
      refine x_cVi (pc2 := 37) (ci := 5) hC hK (p_hasBoxWith l hP hR0 (by omega) (by decide)) lk_460 rfl rfl (by decide) (by assumption) (by assumption) ⟨Nat.le_of_ble_eq_true rfl, Nat.le_of_ble_eq_true rfl⟩ ⟨Nat.le_refl _, Nat.le_refl _⟩ rfl (Nat.le_of_ble_eq_true rfl) dX7_hasThreeOfOnePort_34 rfl ?_
      rintro z34 F34 A34 ⟨w34, b34, e134, e234⟩
      obtain rfl := e134.symm
      obtain rfl := e234.symm
      refine x_if_eq (tgt := 44) (pc2 := 40) hC (by omega) dX7_hasThreeOfOnePort_37 rfl rfl (fun h_37 => ?_) (fun h_37 => ?_)
      · refine x_iconst (pc2 := 45) hC dX7_hasThreeOfOnePort_44 rfl ?_
        exact x_zret hC (by omega) hr hlk ⟨_, rfl, by omega, fun _ => ⟨fun _ => by first | (exact ⟨(b6 ()).mp h_9, (b20 ()).mp h_23, (b34 ()).mp h_37⟩) | omega, fun ⟨q1, q2, q3⟩ => by first | omega | exact absurd h_9 ((b6 ()).mpr q1) | exact absurd h_23 ((b20 ()).mpr q2) | exact absurd h_37 ((b34 ()).mpr q3)⟩, rfl, rfl⟩ dX7_hasThreeOfOnePort_45
      · refine x_iconst (pc2 := 41) hC dX7_hasThreeOfOnePort_40 rfl ?_
        refine x_goto (pc2 := 45) hC dX7_hasThreeOfOnePort_41 rfl ?_
        exact x_zret hC (by omega) hr hlk ⟨_, rfl, by omega, fun _ => ⟨fun _ => by first | (exact ⟨(b6 ()).mp h_9, (b20 ()).mp h_23, (b34 ()).mp h_37⟩) | omega, fun ⟨q1, q2, q3⟩ => by first | omega | exact absurd h_9 ((b6 ()).mpr q1) | exact absurd h_23 ((b20 ()).mpr q2) | exact absurd h_37 ((b34 ()).mpr q3)⟩, rfl, rfl⟩ dX7_hasThreeOfOnePort_45
theorem dX7_box_0 : decode cX7_box 0 = .ok (.iload_n 1, 1) := by decide +kernel
theorem dX7_box_1 : decode cX7_box 1 = .ok (.iconst 1, 1) := by decide +kernel
theorem dX7_box_2 : decode cX7_box 2 = .ok (.if_icmp .eq 10, 3) := by decide +kernel
theorem dX7_box_5 : decode cX7_box 5 = .ok (.iload_n 1, 1) := by decide +kernel
theorem dX7_box_6 : decode cX7_box 6 = .ok (.iconst 2, 1) := by decide +kernel
theorem dX7_box_7 : decode cX7_box 7 = .ok (.if_icmp .eq 5, 3) := by decide +kernel
theorem dX7_box_10 : decode cX7_box 10 = .ok (.iconst (-1), 1) := by decide +kernel
theorem dX7_box_11 : decode cX7_box 11 = .ok (.ireturn, 1) := by decide +kernel
theorem dX7_box_12 : decode cX7_box 12 = .ok (.aload_n 0, 1) := by decide +kernel
theorem dX7_box_13 : decode cX7_box 13 = .ok (.getfield 12, 3) := by decide +kernel
theorem dX7_box_16 : decode cX7_box 16 = .ok (.iload_n 1, 1) := by decide +kernel
theorem dX7_box_17 : decode cX7_box 17 = .ok (.invokevirtual 39, 3) := by decide +kernel
theorem dX7_box_20 : decode cX7_box 20 = .ok (.ireturn, 1) := by decide +kernel
set_option maxHeartbeats 4000000 in
theorem c_box (l : Launch) {D : va_G} {ids : Nat → ClassId} {β : Nat} {sh : Nat → Nat × Nat} {N : Nat} {R : Nat → Nat → Option Nat} {F : Nat → Nat → Int} {A : Nat → Int → Int} {S : SP} (hP : PbL sh R N) (hR0 : RepC sh R N S F A) {p0 : Int} (hp : I32 p0) : MetX l yX7_box cX7_box 2 (some (.int)) 2 45 D ids β sh N R F A [rf 0, pI p0] (pIr (RepO sh R N (oBox S p0))) := by
  refine MetX.of (loc := [_, _]) (plainFor_of_name (by decide +kernel)) (Nat.le_of_ble_eq_true rfl) rfl ?_
  intro p e s m args below meth c hC hK hr hlk
  obtain ⟨hAc, hAg, hJu, ⟨z1, z2⟩, r00, r01, r02⟩ := id hP
  have hShL := hAc.1
  obtain ⟨⟨j1, j2⟩, ⟨s0, s1, s2, s3, s4⟩, ⟨j3, j4⟩, -⟩ := id hShL
  have hI := hR0.shI
  have hi := hR0.2.1
  have i1 := hi.1
  refine x_iload_n (pc2 := 1) hC rfl rfl dX7_box_0 rfl ?_
  refine x_iconst (pc2 := 2) hC dX7_box_1 rfl ?_
  refine x_icmp_eq (tgt := 12) (pc2 := 5) hC (by omega) (by omega) dX7_box_2 rfl rfl (fun h_2 => ?_) (fun h_2 => ?_)
  · refine x_aload_n (pc2 := 13) hC rfl rfl dX7_box_12 rfl ?_
    refine g_369 (pc2 := 16) hC hK (by assumption) (by assumption) (by assumption) dX7_box_13 rfl ?_
    refine x_iload_n (pc2 := 17) hC rfl rfl dX7_box_16 rfl ?_
    refine x_cVi (pc2 := 20) (ci := 5) hC hK (m_addBox l hShL hI (n := p0)) lk_389 rfl rfl (by decide) (by assumption) (by assumption) ⟨Nat.le_of_ble_eq_true rfl, Nat.le_of_ble_eq_true rfl⟩ ⟨Nat.le_refl _, Nat.le_refl _⟩ rfl (Nat.le_of_ble_eq_true rfl) dX7_box_17 rfl ?_
    rintro z17 F17 A17 hq
    exact x_iret hC hr hlk ⟨_, rfl, RepC.add hP hR0 (by omega) hq⟩ dX7_box_20
  · refine x_iload_n (pc2 := 6) hC rfl rfl dX7_box_5 rfl ?_
    refine x_iconst (pc2 := 7) hC dX7_box_6 rfl ?_
    refine x_icmp_eq (tgt := 12) (pc2 := 10) hC (by omega) (by omega) dX7_box_7 rfl rfl (fun h_7 => ?_) (fun h_7 => ?_)
    · refine x_aload_n (pc2 := 13) hC rfl rfl dX7_box_12 rfl ?_
      refine g_369 (pc2 := 16) hC hK (by assumption) (by assumption) (by assumption) dX7_box_13 rfl ?_
      refine x_iload_n (pc2 := 17) hC rfl rfl dX7_box_16 rfl ?_
      refine x_cVi (pc2 := 20) (ci := 5) hC hK (m_addBox l hShL hI (n := p0)) lk_389 rfl rfl (by decide) (by assumption) (by assumption) ⟨Nat.le_of_ble_eq_true rfl, Nat.le_of_ble_eq_true rfl⟩ ⟨Nat.le_refl _, Nat.le_refl _⟩ rfl (Nat.le_of_ble_eq_true rfl) dX7_box_17 rfl ?_
      rintro z17 F17 A17 hq
      exact x_iret hC hr hlk ⟨_, rfl, RepC.add hP hR0 (by omega) hq⟩ dX7_box_20
    · refine x_iconst (pc2 := 11) hC dX7_box_10 rfl ?_
      exact x_iret hC hr hlk ⟨_, rfl, RepO.of (by rw [oBox, itO_neg (by omega)]) hR0⟩ dX7_box_11
theorem dX7_set_0 : decode cX7_set 0 = .ok (.iload_n 2, 1) := by decide +kernel
theorem dX7_set_1 : decode cX7_set 1 = .ok (.invokestatic 43, 3) := by decide +kernel
theorem dX7_set_4 : decode cX7_set 4 = .ok (.ifCond .eq 29, 3) := by decide +kernel
theorem dX7_set_7 : decode cX7_set 7 = .ok (.aload_n 0, 1) := by decide +kernel
theorem dX7_set_8 : decode cX7_set 8 = .ok (.getfield 12, 3) := by decide +kernel
theorem dX7_set_11 : decode cX7_set 11 = .ok (.iload_n 1, 1) := by decide +kernel
theorem dX7_set_12 : decode cX7_set 12 = .ok (.iload_n 3, 1) := by decide +kernel
theorem dX7_set_13 : decode cX7_set 13 = .ok (.iload 4, 2) := by decide +kernel
theorem dX7_set_15 : decode cX7_set 15 = .ok (.invokevirtual 47, 3) := by decide +kernel
theorem dX7_set_18 : decode cX7_set 18 = .ok (.ifCond .eq 15, 3) := by decide +kernel
theorem dX7_set_21 : decode cX7_set 21 = .ok (.iload 5, 2) := by decide +kernel
theorem dX7_set_23 : decode cX7_set 23 = .ok (.iload 6, 2) := by decide +kernel
theorem dX7_set_25 : decode cX7_set 25 = .ok (.iload 7, 2) := by decide +kernel
theorem dX7_set_27 : decode cX7_set 27 = .ok (.invokestatic 51, 3) := by decide +kernel
theorem dX7_set_30 : decode cX7_set 30 = .ok (.ifCond .ne 5, 3) := by decide +kernel
theorem dX7_set_33 : decode cX7_set 33 = .ok (.iconst (-1), 1) := by decide +kernel
theorem dX7_set_34 : decode cX7_set 34 = .ok (.ireturn, 1) := by decide +kernel
theorem dX7_set_35 : decode cX7_set 35 = .ok (.aload_n 0, 1) := by decide +kernel
theorem dX7_set_36 : decode cX7_set 36 = .ok (.getfield 12, 3) := by decide +kernel
theorem dX7_set_39 : decode cX7_set 39 = .ok (.iload_n 1, 1) := by decide +kernel
theorem dX7_set_40 : decode cX7_set 40 = .ok (.invokevirtual 54, 3) := by decide +kernel
theorem dX7_set_43 : decode cX7_set 43 = .ok (.aload_n 0, 1) := by decide +kernel
theorem dX7_set_44 : decode cX7_set 44 = .ok (.getfield 12, 3) := by decide +kernel
theorem dX7_set_47 : decode cX7_set 47 = .ok (.iload_n 2, 1) := by decide +kernel
theorem dX7_set_48 : decode cX7_set 48 = .ok (.iload_n 3, 1) := by decide +kernel
theorem dX7_set_49 : decode cX7_set 49 = .ok (.iload 4, 2) := by decide +kernel
theorem dX7_set_51 : decode cX7_set 51 = .ok (.invokestatic 58, 3) := by decide +kernel
theorem dX7_set_54 : decode cX7_set 54 = .ok (.iload 5, 2) := by decide +kernel
theorem dX7_set_56 : decode cX7_set 56 = .ok (.iload 6, 2) := by decide +kernel
theorem dX7_set_58 : decode cX7_set 58 = .ok (.iload 7, 2) := by decide +kernel
theorem dX7_set_60 : decode cX7_set 60 = .ok (.invokevirtual 62, 3) := by decide +kernel
theorem dX7_set_63 : decode cX7_set 63 = .ok (.aload_n 0, 1) := by decide +kernel
theorem dX7_set_64 : decode cX7_set 64 = .ok (.getfield 12, 3) := by decide +kernel
theorem dX7_set_67 : decode cX7_set 67 = .ok (.iload_n 1, 1) := by decide +kernel
theorem dX7_set_68 : decode cX7_set 68 = .ok (.invokevirtual 66, 3) := by decide +kernel
theorem dX7_set_71 : decode cX7_set 71 = .ok (.iconst 0, 1) := by decide +kernel
theorem dX7_set_72 : decode cX7_set 72 = .ok (.ireturn, 1) := by decide +kernel
set_option maxHeartbeats 4000000 in
theorem c_set (l : Launch) {D : va_G} {ids : Nat → ClassId} {β : Nat} {sh : Nat → Nat × Nat} {N : Nat} {R : Nat → Nat → Option Nat} {F : Nat → Nat → Int} {A : Nat → Int → Int} {S : SP} (hP : PbL sh R N) (hR0 : RepC sh R N S F A) {b t i j p0 q0 r0 : Int} (hb : I32 b) (ht : I32 t) (hi2 : I32 i) (hj : I32 j) (hp0 : I32 p0) (hq0 : I32 q0) (hr0 : I32 r0) : MetX l yX7_set cX7_set 8 (some (.int)) 2 59 D ids β sh N R F A [rf 0, pI b, pI t, pI i, pI j, pI p0, pI q0, pI r0] (pIr (RepO sh R N (oSet S b t i j p0 q0 r0))) := by
  refine MetX.of (loc := [_, _, _, _, _, _, _, _]) (plainFor_of_name (by decide +kernel)) (Nat.le_of_ble_eq_true rfl) rfl ?_
  intro p e s m args below meth c hC hK hr hlk
  obtain ⟨hAc, hAg, hJu, ⟨z1, z2⟩, r00, r01, r02⟩ := id hP
  have hShL := hAc.1
  obtain ⟨⟨j1, j2⟩, ⟨s0, s1, s2, s3, s4⟩, ⟨j3, j4⟩, -⟩ := id hShL
  have hI := hR0.shI
  have hi := hR0.2.1
  have i1 := hi.1
  refine x_iload_n (pc2 := 1) hC rfl rfl dX7_set_0 rfl ?_
  refine x_cSi (pc2 := 4) hC hK (m_isTone l ht) lk_400 rfl ⟨Nat.le_of_ble_eq_true rfl, Nat.le_of_ble_eq_true rfl⟩ ⟨Nat.le_refl _, Nat.le_refl _⟩ rfl (Nat.le_of_ble_eq_true rfl) dX7_set_1 rfl ?_
  rintro z1 F1 A1 ⟨w1, b1, e11, e21⟩
  obtain rfl := e11.symm
  obtain rfl := e21.symm
  refine x_if_eq (tgt := 33) (pc2 := 7) hC (by omega) dX7_set_4 rfl rfl (fun h_4 => ?_) (fun h_4 => ?_)
  · refine x_iconst (pc2 := 34) hC dX7_set_33 rfl ?_
    exact x_iret hC hr hlk ⟨_, rfl, RepO.of (by rw [oSet, itO_neg (fun ⟨q1, q2, q3⟩ => by first | exact absurd h_4 ((b1 ()).mpr q1) | exact absurd h_18 ((b15 ()).mpr q2) | exact absurd h_30 ((b27 ()).mpr q3))]) hR0⟩ dX7_set_34
  · refine x_aload_n (pc2 := 8) hC rfl rfl dX7_set_7 rfl ?_
    refine g_369 (pc2 := 11) hC hK (by assumption) (by assumption) (by assumption) dX7_set_8 rfl ?_
    refine x_iload_n (pc2 := 12) hC rfl rfl dX7_set_11 rfl ?_
    refine x_iload_n (pc2 := 13) hC rfl rfl dX7_set_12 rfl ?_
    refine x_iload (pc2 := 15) hC rfl dX7_set_13 rfl ?_
    refine x_cVi (pc2 := 18) (ci := 5) hC hK (p_hasEntry l hP hR0 hb hi2 hj) lk_403 rfl rfl (by decide) (by assumption) (by assumption) ⟨Nat.le_of_ble_eq_true rfl, Nat.le_of_ble_eq_true rfl⟩ ⟨Nat.le_refl _, Nat.le_refl _⟩ rfl (Nat.le_of_ble_eq_true rfl) dX7_set_15 rfl ?_
    rintro z15 F15 A15 ⟨w15, b15, e115, e215⟩
    obtain rfl := e115.symm
    obtain rfl := e215.symm
    refine x_if_eq (tgt := 33) (pc2 := 21) hC (by omega) dX7_set_18 rfl rfl (fun h_18 => ?_) (fun h_18 => ?_)
    · refine x_iconst (pc2 := 34) hC dX7_set_33 rfl ?_
      exact x_iret hC hr hlk ⟨_, rfl, RepO.of (by rw [oSet, itO_neg (fun ⟨q1, q2, q3⟩ => by first | exact absurd h_4 ((b1 ()).mpr q1) | exact absurd h_18 ((b15 ()).mpr q2) | exact absurd h_30 ((b27 ()).mpr q3))]) hR0⟩ dX7_set_34
    · refine x_iload (pc2 := 23) hC rfl dX7_set_21 rfl ?_
      refine x_iload (pc2 := 25) hC rfl dX7_set_23 rfl ?_
      refine x_iload (pc2 := 27) hC rfl dX7_set_25 rfl ?_
      refine x_cSi (pc2 := 30) hC hK (m_given l hp0 hq0 hr0) lk_411 rfl ⟨Nat.le_of_ble_eq_true rfl, Nat.le_of_ble_eq_true rfl⟩ ⟨Nat.le_refl _, Nat.le_refl _⟩ rfl (Nat.le_of_ble_eq_true rfl) dX7_set_27 rfl ?_
      rintro z27 F27 A27 ⟨w27, b27, e127, e227⟩
      obtain rfl := e127.symm
      obtain rfl := e227.symm
      refine x_if_ne (tgt := 35) (pc2 := 33) hC (by omega) dX7_set_30 rfl rfl (fun h_30 => ?_) (fun h_30 => ?_)
      · have hT := (b1 ()).mp h_4
        have hE := (b15 ()).mp h_18
        have hG := (b27 ()).mp h_30
        have pt2 := (hi.2.1 b hE.1).1
        have he4 : isT (2 * i + j) := by have := hE.2; omega
        refine x_aload_n (pc2 := 36) hC rfl rfl dX7_set_35 rfl ?_
        refine g_369 (pc2 := 39) hC hK (by assumption) (by assumption) (by assumption) dX7_set_36 rfl ?_
        refine x_iload_n (pc2 := 40) hC rfl rfl dX7_set_39 rfl ?_
        refine x_cVv (pc2 := 43) (ci := 5) hC hK (p_startDraft l hP hR0 hE.1) lk_416 rfl rfl (by decide) (by assumption) (by assumption) ⟨Nat.le_of_ble_eq_true rfl, Nat.le_of_ble_eq_true rfl⟩ ⟨Nat.le_refl _, Nat.le_refl _⟩ rfl (Nat.le_of_ble_eq_true rfl) dX7_set_40 rfl ?_
        rintro F40 A40 ⟨rfl, hR1, hd1⟩
        refine x_aload_n (pc2 := 44) hC rfl rfl dX7_set_43 rfl ?_
        refine g_369 (pc2 := 47) hC hK (by assumption) (by assumption) (by assumption) dX7_set_44 rfl ?_
        refine x_iload_n (pc2 := 48) hC rfl rfl dX7_set_47 rfl ?_
        refine x_iload_n (pc2 := 49) hC rfl rfl dX7_set_48 rfl ?_
        refine x_iload (pc2 := 51) hC rfl dX7_set_49 rfl ?_
        refine x_cSi (pc2 := 54) hC hK (m_entry l) lk_423 rfl ⟨Nat.le_of_ble_eq_true rfl, Nat.le_of_ble_eq_true rfl⟩ ⟨Nat.le_refl _, Nat.le_refl _⟩ rfl (Nat.le_of_ble_eq_true rfl) dX7_set_51 rfl ?_
        rintro z51 F51 A51 ⟨rfl, e151, e251⟩
        obtain rfl := e151.symm
        obtain rfl := e251.symm
        refine x_iload (pc2 := 56) hC rfl dX7_set_54 rfl ?_
        refine x_iload (pc2 := 58) hC rfl dX7_set_56 rfl ?_
        refine x_iload (pc2 := 60) hC rfl dX7_set_58 rfl ?_
        refine x_cVv (pc2 := 63) (ci := 5) hC hK (p_draftSmall l hP hR1 hT he4 (by omega) (by omega) (by omega)) lk_426 rfl rfl (by decide) (by assumption) (by assumption) ⟨Nat.le_of_ble_eq_true rfl, Nat.le_of_ble_eq_true rfl⟩ ⟨Nat.le_refl _, Nat.le_refl _⟩ rfl (Nat.le_of_ble_eq_true rfl) dX7_set_60 rfl ?_
        rintro F60 A60 ⟨rfl, hR2, hd2, hu2⟩
        have hwf : wfB (ptS S b) (fun t0 e0 => if t0 = t ∧ e0 = 2 * i + j then g3 p0 q0 r0 else vS S b t0 e0) := by
          intro t0 e0 ht0 he0
          have old := (hi.2.1 b hE.1).2 t0 e0 ht0 he0
          dsimp only
          split
          · rename_i qq
            refine ⟨g3_ok (by omega) (by omega) (by omega), fun p1 p2 => ?_⟩
            have := hE.2
            omega
          · exact old
        have hdd : ∀ t0 e0, isT t0 → isT e0 → holdT (A60 3) (t0 * 36 + e0 * 9) ((fun t0 e0 => if t0 = t ∧ e0 = 2 * i + j then g3 p0 q0 r0 else vS S b t0 e0) t0 e0) := by
          intro t0 e0 ht0 he0
          dsimp only
          split
          · rename_i qq
            rw [qq.1, qq.2]; exact hd2
          · refine holdT_of (fun k k0 k1 => hu2 _ ?_) (hd1 t0 e0 ht0 he0)
            omega
        refine x_aload_n (pc2 := 64) hC rfl rfl dX7_set_63 rfl ?_
        refine g_369 (pc2 := 67) hC hK (by assumption) (by assumption) (by assumption) dX7_set_64 rfl ?_
        refine x_iload_n (pc2 := 68) hC rfl rfl dX7_set_67 rfl ?_
        refine x_cVv (pc2 := 71) (ci := 5) hC hK (p_keepDraft l hP hR2 (w := (fun t0 e0 => if t0 = t ∧ e0 = 2 * i + j then g3 p0 q0 r0 else vS S b t0 e0)) hE.1 hwf hdd) lk_436 rfl rfl (by decide) (by assumption) (by assumption) ⟨Nat.le_of_ble_eq_true rfl, Nat.le_of_ble_eq_true rfl⟩ ⟨Nat.le_refl _, Nat.le_refl _⟩ rfl (Nat.le_of_ble_eq_true rfl) dX7_set_68 rfl ?_
        rintro F68 A68 hR3
        refine x_iconst (pc2 := 72) hC dX7_set_71 rfl ?_
        exact x_iret hC hr hlk ⟨_, rfl, RepO.of (by rw [oSet, itO_pos ⟨hT, hE, hG⟩]) hR3⟩ dX7_set_72
      · refine x_iconst (pc2 := 34) hC dX7_set_33 rfl ?_
        exact x_iret hC hr hlk ⟨_, rfl, RepO.of (by rw [oSet, itO_neg (fun ⟨q1, q2, q3⟩ => by first | exact absurd h_4 ((b1 ()).mpr q1) | exact absurd h_18 ((b15 ()).mpr q2) | exact absurd h_30 ((b27 ()).mpr q3))]) hR0⟩ dX7_set_34
theorem dX7_all_0 : decode cX7_all 0 = .ok (.aload_n 0, 1) := by decide +kernel
theorem dX7_all_1 : decode cX7_all 1 = .ok (.getfield 12, 3) := by decide +kernel
theorem dX7_all_4 : decode cX7_all 4 = .ok (.iload_n 1, 1) := by decide +kernel
theorem dX7_all_5 : decode cX7_all 5 = .ok (.iload_n 2, 1) := by decide +kernel
theorem dX7_all_6 : decode cX7_all 6 = .ok (.iload_n 3, 1) := by decide +kernel
theorem dX7_all_7 : decode cX7_all 7 = .ok (.invokevirtual 47, 3) := by decide +kernel
theorem dX7_all_10 : decode cX7_all 10 = .ok (.ifCond .eq 15, 3) := by decide +kernel
theorem dX7_all_13 : decode cX7_all 13 = .ok (.iload 4, 2) := by decide +kernel
theorem dX7_all_15 : decode cX7_all 15 = .ok (.iload 5, 2) := by decide +kernel
theorem dX7_all_17 : decode cX7_all 17 = .ok (.iload 6, 2) := by decide +kernel
theorem dX7_all_19 : decode cX7_all 19 = .ok (.invokestatic 51, 3) := by decide +kernel
theorem dX7_all_22 : decode cX7_all 22 = .ok (.ifCond .ne 5, 3) := by decide +kernel
theorem dX7_all_25 : decode cX7_all 25 = .ok (.iconst (-1), 1) := by decide +kernel
theorem dX7_all_26 : decode cX7_all 26 = .ok (.ireturn, 1) := by decide +kernel
theorem dX7_all_27 : decode cX7_all 27 = .ok (.aload_n 0, 1) := by decide +kernel
theorem dX7_all_28 : decode cX7_all 28 = .ok (.getfield 12, 3) := by decide +kernel
theorem dX7_all_31 : decode cX7_all 31 = .ok (.iload_n 1, 1) := by decide +kernel
theorem dX7_all_32 : decode cX7_all 32 = .ok (.invokevirtual 54, 3) := by decide +kernel
theorem dX7_all_35 : decode cX7_all 35 = .ok (.iconst 0, 1) := by decide +kernel
theorem dX7_all_36 : decode cX7_all 36 = .ok (.istore 7, 2) := by decide +kernel
theorem dX7_all_38 : decode cX7_all 38 = .ok (.iload 7, 2) := by decide +kernel
theorem dX7_all_40 : decode cX7_all 40 = .ok (.iconst 4, 1) := by decide +kernel
theorem dX7_all_41 : decode cX7_all 41 = .ok (.if_icmp .ge 29, 3) := by decide +kernel
theorem dX7_all_44 : decode cX7_all 44 = .ok (.aload_n 0, 1) := by decide +kernel
theorem dX7_all_45 : decode cX7_all 45 = .ok (.getfield 12, 3) := by decide +kernel
theorem dX7_all_48 : decode cX7_all 48 = .ok (.iload 7, 2) := by decide +kernel
theorem dX7_all_50 : decode cX7_all 50 = .ok (.iload_n 2, 1) := by decide +kernel
theorem dX7_all_51 : decode cX7_all 51 = .ok (.iload_n 3, 1) := by decide +kernel
theorem dX7_all_52 : decode cX7_all 52 = .ok (.invokestatic 58, 3) := by decide +kernel
theorem dX7_all_55 : decode cX7_all 55 = .ok (.iload 4, 2) := by decide +kernel
theorem dX7_all_57 : decode cX7_all 57 = .ok (.iload 5, 2) := by decide +kernel
theorem dX7_all_59 : decode cX7_all 59 = .ok (.iload 6, 2) := by decide +kernel
theorem dX7_all_61 : decode cX7_all 61 = .ok (.invokevirtual 62, 3) := by decide +kernel
theorem dX7_all_64 : decode cX7_all 64 = .ok (.iinc 7 1, 3) := by decide +kernel
theorem dX7_all_67 : decode cX7_all 67 = .ok (.goto (-29), 3) := by decide +kernel
theorem dX7_all_70 : decode cX7_all 70 = .ok (.aload_n 0, 1) := by decide +kernel
theorem dX7_all_71 : decode cX7_all 71 = .ok (.getfield 12, 3) := by decide +kernel
theorem dX7_all_74 : decode cX7_all 74 = .ok (.iload_n 1, 1) := by decide +kernel
theorem dX7_all_75 : decode cX7_all 75 = .ok (.invokevirtual 66, 3) := by decide +kernel
theorem dX7_all_78 : decode cX7_all 78 = .ok (.iconst 0, 1) := by decide +kernel
theorem dX7_all_79 : decode cX7_all 79 = .ok (.ireturn, 1) := by decide +kernel
set_option maxHeartbeats 4000000 in
theorem c_all (l : Launch) {D : va_G} {ids : Nat → ClassId} {β : Nat} {sh : Nat → Nat × Nat} {N : Nat} {R : Nat → Nat → Option Nat} {F : Nat → Nat → Int} {A : Nat → Int → Int} {S : SP} (hP : PbL sh R N) (hR0 : RepC sh R N S F A) {b i j p0 q0 r0 : Int} (hb : I32 b) (hi2 : I32 i) (hj : I32 j) (hp0 : I32 p0) (hq0 : I32 q0) (hr0 : I32 r0) : MetX l yX7_all cX7_all 8 (some (.int)) 2 59 D ids β sh N R F A [rf 0, pI b, pI i, pI j, pI p0, pI q0, pI r0] (pIr (RepO sh R N (oAll S b i j p0 q0 r0))) := by
  refine MetX.of (loc := [_, _, _, _, _, _, _, _]) (plainFor_of_name (by decide +kernel)) (Nat.le_of_ble_eq_true rfl) rfl ?_
  intro p e s m args below meth c hC hK hr hlk
  obtain ⟨hAc, hAg, hJu, ⟨z1, z2⟩, r00, r01, r02⟩ := id hP
  have hShL := hAc.1
  obtain ⟨⟨j1, j2⟩, ⟨s0, s1, s2, s3, s4⟩, ⟨j3, j4⟩, -⟩ := id hShL
  have hI := hR0.shI
  have hi := hR0.2.1
  have i1 := hi.1
  have loop : ∀ (d : Nat) (k : Int) (A1 : Nat → Int → Int), 4 - k < d → 0 ≤ k → k ≤ 4 → isE S b i j → given p0 q0 r0 → isT (2 * i + j) → RepC sh R N S F A1 → (∀ t0 e0, isT t0 → isT e0 → holdT (A1 3) (t0 * 36 + e0 * 9) (if t0 < k ∧ e0 = 2 * i + j then g3 p0 q0 r0 else vS S b t0 e0)) → X p l e { frames := 2, cells := 0, slots := 0, locals := 59 } s m args below meth c (MQ below (QX D ids β sh N R (pIr (RepO sh R N (oAll S b i j p0 q0 r0)))) args s 0 0 (inG β N)) (inG β N) D ids β sh 8 0 0 N R F A1 [some (rf 0), some (pI b), some (pI i), some (pI j), some (pI p0), some (pI q0), some (pI r0), some (pI k)] [] 38 := by
    intro d
    induction d with
    | zero => intro k A1 hd; omega
    | succ d ih =>
      intro k A1 hd k0 k4 hE hG he4 hR1 hd1
      refine x_iload (pc2 := 40) hC rfl dX7_all_38 rfl ?_
      refine x_iconst (pc2 := 41) hC dX7_all_40 rfl ?_
      refine x_icmp_ge (tgt := 70) (pc2 := 44) hC (by omega) (by omega) dX7_all_41 rfl rfl (fun h_41 => ?_) (fun h_41 => ?_)
      · have hwf : wfB (ptS S b) (fun t0 e0 => if e0 = 2 * i + j then g3 p0 q0 r0 else vS S b t0 e0) := by
          intro t0 e0 ht0 he0
          have old := (hi.2.1 b hE.1).2 t0 e0 ht0 he0
          dsimp only
          split
          · rename_i qq
            refine ⟨g3_ok (by omega) (by omega) (by omega), fun p1 p2 => ?_⟩
            have := hE.2
            omega
          · exact old
        have hdd : ∀ t0 e0, isT t0 → isT e0 → holdT (A1 3) (t0 * 36 + e0 * 9) ((fun t0 e0 => if e0 = 2 * i + j then g3 p0 q0 r0 else vS S b t0 e0) t0 e0) := by
          intro t0 e0 ht0 he0
          have old := hd1 t0 e0 ht0 he0
          have e : (t0 < k ∧ e0 = 2 * i + j) ↔ (e0 = 2 * i + j) := ⟨fun q => q.2, fun q => ⟨by omega, q⟩⟩
          simp only [e] at old
          exact old
        refine x_aload_n (pc2 := 71) hC rfl rfl dX7_all_70 rfl ?_
        refine g_369 (pc2 := 74) hC hK (by assumption) (by assumption) (by assumption) dX7_all_71 rfl ?_
        refine x_iload_n (pc2 := 75) hC rfl rfl dX7_all_74 rfl ?_
        refine x_cVv (pc2 := 78) (ci := 5) hC hK (p_keepDraft l hP hR1 (w := (fun t0 e0 => if e0 = 2 * i + j then g3 p0 q0 r0 else vS S b t0 e0)) hE.1 hwf hdd) lk_436 rfl rfl (by decide) (by assumption) (by assumption) ⟨Nat.le_of_ble_eq_true rfl, Nat.le_of_ble_eq_true rfl⟩ ⟨Nat.le_refl _, Nat.le_refl _⟩ rfl (Nat.le_of_ble_eq_true rfl) dX7_all_75 rfl ?_
        rintro F75 A75 hR3
        refine x_iconst (pc2 := 79) hC dX7_all_78 rfl ?_
        exact x_iret hC hr hlk ⟨_, rfl, RepO.of (by rw [oAll, itO_pos ⟨hE, hG⟩]) hR3⟩ dX7_all_79
      · refine x_aload_n (pc2 := 45) hC rfl rfl dX7_all_44 rfl ?_
        refine g_369 (pc2 := 48) hC hK (by assumption) (by assumption) (by assumption) dX7_all_45 rfl ?_
        refine x_iload (pc2 := 50) hC rfl dX7_all_48 rfl ?_
        refine x_iload_n (pc2 := 51) hC rfl rfl dX7_all_50 rfl ?_
        refine x_iload_n (pc2 := 52) hC rfl rfl dX7_all_51 rfl ?_
        refine x_cSi (pc2 := 55) hC hK (m_entry l) lk_423 rfl ⟨Nat.le_of_ble_eq_true rfl, Nat.le_of_ble_eq_true rfl⟩ ⟨Nat.le_refl _, Nat.le_refl _⟩ rfl (Nat.le_of_ble_eq_true rfl) dX7_all_52 rfl ?_
        rintro z52 F52 A52 ⟨rfl, e152, e252⟩
        obtain rfl := e152.symm
        obtain rfl := e252.symm
        refine x_iload (pc2 := 57) hC rfl dX7_all_55 rfl ?_
        refine x_iload (pc2 := 59) hC rfl dX7_all_57 rfl ?_
        refine x_iload (pc2 := 61) hC rfl dX7_all_59 rfl ?_
        refine x_cVv (pc2 := 64) (ci := 5) hC hK (p_draftSmall l hP hR1 (show isT k by omega) he4 (by omega) (by omega) (by omega)) lk_426 rfl rfl (by decide) (by assumption) (by assumption) ⟨Nat.le_of_ble_eq_true rfl, Nat.le_of_ble_eq_true rfl⟩ ⟨Nat.le_refl _, Nat.le_refl _⟩ rfl (Nat.le_of_ble_eq_true rfl) dX7_all_61 rfl ?_
        rintro F61 A61 ⟨rfl, hR2, hd2, hu2⟩
        refine x_iinc (pc2 := 67) (loc2 := [_, _, _, _, _, _, _, _]) hC (by decide) rfl rfl dX7_all_64 rfl ?_
        refine x_goto (pc2 := 38) hC dX7_all_67 rfl ?_
        refine ih (k + 1) A61 (by omega) (by omega) (by omega) hE hG he4 hR2 (fun t0 e0 ht0 he0 => ?_)
        by_cases qq : t0 = k ∧ e0 = 2 * i + j
        · rw [if_pos ⟨by omega, qq.2⟩, qq.1, qq.2]; exact hd2
        · have old := hd1 t0 e0 ht0 he0
          have e : (t0 < k ∧ e0 = 2 * i + j) ↔ (t0 < k + 1 ∧ e0 = 2 * i + j) := ⟨fun q => ⟨by omega, q.2⟩, fun q => ⟨by omega, q.2⟩⟩
          simp only [e] at old
          refine holdT_of (fun j0 k0 k1 => hu2 _ ?_) old
          omega
  refine x_aload_n (pc2 := 1) hC rfl rfl dX7_all_0 rfl ?_
  refine g_369 (pc2 := 4) hC hK (by assumption) (by assumption) (by assumption) dX7_all_1 rfl ?_
  refine x_iload_n (pc2 := 5) hC rfl rfl dX7_all_4 rfl ?_
  refine x_iload_n (pc2 := 6) hC rfl rfl dX7_all_5 rfl ?_
  refine x_iload_n (pc2 := 7) hC rfl rfl dX7_all_6 rfl ?_
  refine x_cVi (pc2 := 10) (ci := 5) hC hK (p_hasEntry l hP hR0 hb hi2 hj) lk_403 rfl rfl (by decide) (by assumption) (by assumption) ⟨Nat.le_of_ble_eq_true rfl, Nat.le_of_ble_eq_true rfl⟩ ⟨Nat.le_refl _, Nat.le_refl _⟩ rfl (Nat.le_of_ble_eq_true rfl) dX7_all_7 rfl ?_
  rintro z7 F7 A7 ⟨w7, b7, e17, e27⟩
  obtain rfl := e17.symm
  obtain rfl := e27.symm
  refine x_if_eq (tgt := 25) (pc2 := 13) hC (by omega) dX7_all_10 rfl rfl (fun h_10 => ?_) (fun h_10 => ?_)
  · refine x_iconst (pc2 := 26) hC dX7_all_25 rfl ?_
    exact x_iret hC hr hlk ⟨_, rfl, RepO.of (by rw [oAll, itO_neg (fun ⟨q1, q2⟩ => by first | exact absurd h_10 ((b7 ()).mpr q1) | exact absurd h_22 ((b19 ()).mpr q2))]) hR0⟩ dX7_all_26
  · refine x_iload (pc2 := 15) hC rfl dX7_all_13 rfl ?_
    refine x_iload (pc2 := 17) hC rfl dX7_all_15 rfl ?_
    refine x_iload (pc2 := 19) hC rfl dX7_all_17 rfl ?_
    refine x_cSi (pc2 := 22) hC hK (m_given l hp0 hq0 hr0) lk_411 rfl ⟨Nat.le_of_ble_eq_true rfl, Nat.le_of_ble_eq_true rfl⟩ ⟨Nat.le_refl _, Nat.le_refl _⟩ rfl (Nat.le_of_ble_eq_true rfl) dX7_all_19 rfl ?_
    rintro z19 F19 A19 ⟨w19, b19, e119, e219⟩
    obtain rfl := e119.symm
    obtain rfl := e219.symm
    refine x_if_ne (tgt := 27) (pc2 := 25) hC (by omega) dX7_all_22 rfl rfl (fun h_22 => ?_) (fun h_22 => ?_)
    · have hE := (b7 ()).mp h_10
      have hG := (b19 ()).mp h_22
      have pt2 := (hi.2.1 b hE.1).1
      have he4 : isT (2 * i + j) := by have := hE.2; omega
      refine x_aload_n (pc2 := 28) hC rfl rfl dX7_all_27 rfl ?_
      refine g_369 (pc2 := 31) hC hK (by assumption) (by assumption) (by assumption) dX7_all_28 rfl ?_
      refine x_iload_n (pc2 := 32) hC rfl rfl dX7_all_31 rfl ?_
      refine x_cVv (pc2 := 35) (ci := 5) hC hK (p_startDraft l hP hR0 hE.1) lk_416 rfl rfl (by decide) (by assumption) (by assumption) ⟨Nat.le_of_ble_eq_true rfl, Nat.le_of_ble_eq_true rfl⟩ ⟨Nat.le_refl _, Nat.le_refl _⟩ rfl (Nat.le_of_ble_eq_true rfl) dX7_all_32 rfl ?_
      rintro F32 A32 ⟨rfl, hR1, hd1⟩
      refine x_iconst (pc2 := 36) hC dX7_all_35 rfl ?_
      refine x_istore (pc2 := 38) (loc2 := [_, _, _, _, _, _, _, _]) hC (by decide) rfl dX7_all_36 rfl ?_
      refine loop 5 0 A32 (by omega) (by omega) (by omega) hE hG he4 hR1 (fun t0 e0 ht0 he0 => ?_)
      rw [if_neg (by omega)]; exact hd1 t0 e0 ht0 he0
    · refine x_iconst (pc2 := 26) hC dX7_all_25 rfl ?_
      exact x_iret hC hr hlk ⟨_, rfl, RepO.of (by rw [oAll, itO_neg (fun ⟨q1, q2⟩ => by first | exact absurd h_10 ((b7 ()).mpr q1) | exact absurd h_22 ((b19 ()).mpr q2))]) hR0⟩ dX7_all_26
theorem dX7_copy_0 : decode cX7_copy 0 = .ok (.aload_n 0, 1) := by decide +kernel
theorem dX7_copy_1 : decode cX7_copy 1 = .ok (.getfield 12, 3) := by decide +kernel
theorem dX7_copy_4 : decode cX7_copy 4 = .ok (.iload_n 1, 1) := by decide +kernel
theorem dX7_copy_5 : decode cX7_copy 5 = .ok (.invokevirtual 69, 3) := by decide +kernel
theorem dX7_copy_8 : decode cX7_copy 8 = .ok (.ifCond .eq 33, 3) := by decide +kernel
theorem dX7_copy_11 : decode cX7_copy 11 = .ok (.aload_n 0, 1) := by decide +kernel
theorem dX7_copy_12 : decode cX7_copy 12 = .ok (.getfield 12, 3) := by decide +kernel
theorem dX7_copy_15 : decode cX7_copy 15 = .ok (.iload_n 2, 1) := by decide +kernel
theorem dX7_copy_16 : decode cX7_copy 16 = .ok (.invokevirtual 69, 3) := by decide +kernel
theorem dX7_copy_19 : decode cX7_copy 19 = .ok (.ifCond .eq 22, 3) := by decide +kernel
theorem dX7_copy_22 : decode cX7_copy 22 = .ok (.aload_n 0, 1) := by decide +kernel
theorem dX7_copy_23 : decode cX7_copy 23 = .ok (.getfield 12, 3) := by decide +kernel
theorem dX7_copy_26 : decode cX7_copy 26 = .ok (.iload_n 1, 1) := by decide +kernel
theorem dX7_copy_27 : decode cX7_copy 27 = .ok (.invokevirtual 72, 3) := by decide +kernel
theorem dX7_copy_30 : decode cX7_copy 30 = .ok (.aload_n 0, 1) := by decide +kernel
theorem dX7_copy_31 : decode cX7_copy 31 = .ok (.getfield 12, 3) := by decide +kernel
theorem dX7_copy_34 : decode cX7_copy 34 = .ok (.iload_n 2, 1) := by decide +kernel
theorem dX7_copy_35 : decode cX7_copy 35 = .ok (.invokevirtual 72, 3) := by decide +kernel
theorem dX7_copy_38 : decode cX7_copy 38 = .ok (.if_icmp .eq 5, 3) := by decide +kernel
theorem dX7_copy_41 : decode cX7_copy 41 = .ok (.iconst (-1), 1) := by decide +kernel
theorem dX7_copy_42 : decode cX7_copy 42 = .ok (.ireturn, 1) := by decide +kernel
theorem dX7_copy_43 : decode cX7_copy 43 = .ok (.aload_n 0, 1) := by decide +kernel
theorem dX7_copy_44 : decode cX7_copy 44 = .ok (.getfield 12, 3) := by decide +kernel
theorem dX7_copy_47 : decode cX7_copy 47 = .ok (.iload_n 2, 1) := by decide +kernel
theorem dX7_copy_48 : decode cX7_copy 48 = .ok (.invokevirtual 54, 3) := by decide +kernel
theorem dX7_copy_51 : decode cX7_copy 51 = .ok (.aload_n 0, 1) := by decide +kernel
theorem dX7_copy_52 : decode cX7_copy 52 = .ok (.getfield 12, 3) := by decide +kernel
theorem dX7_copy_55 : decode cX7_copy 55 = .ok (.iload_n 1, 1) := by decide +kernel
theorem dX7_copy_56 : decode cX7_copy 56 = .ok (.invokevirtual 66, 3) := by decide +kernel
theorem dX7_copy_59 : decode cX7_copy 59 = .ok (.iconst 0, 1) := by decide +kernel
theorem dX7_copy_60 : decode cX7_copy 60 = .ok (.ireturn, 1) := by decide +kernel
set_option maxHeartbeats 4000000 in
theorem c_copy (l : Launch) {D : va_G} {ids : Nat → ClassId} {β : Nat} {sh : Nat → Nat × Nat} {N : Nat} {R : Nat → Nat → Option Nat} {F : Nat → Nat → Int} {A : Nat → Int → Int} {S : SP} (hP : PbL sh R N) (hR0 : RepC sh R N S F A) {c0 a : Int} (hc : I32 c0) (ha : I32 a) : MetX l yX7_copy cX7_copy 3 (some (.int)) 2 47 D ids β sh N R F A [rf 0, pI c0, pI a] (pIr (RepO sh R N (oCopy S c0 a))) := by
  refine MetX.of (loc := [_, _, _]) (plainFor_of_name (by decide +kernel)) (Nat.le_of_ble_eq_true rfl) rfl ?_
  intro p e s m args below meth c hC hK hr hlk
  obtain ⟨hAc, hAg, hJu, ⟨z1, z2⟩, r00, r01, r02⟩ := id hP
  have hShL := hAc.1
  obtain ⟨⟨j1, j2⟩, ⟨s0, s1, s2, s3, s4⟩, ⟨j3, j4⟩, -⟩ := id hShL
  have hI := hR0.shI
  have hi := hR0.2.1
  have i1 := hi.1
  refine x_aload_n (pc2 := 1) hC rfl rfl dX7_copy_0 rfl ?_
  refine g_369 (pc2 := 4) hC hK (by assumption) (by assumption) (by assumption) dX7_copy_1 rfl ?_
  refine x_iload_n (pc2 := 5) hC rfl rfl dX7_copy_4 rfl ?_
  refine x_cVi (pc2 := 8) (ci := 5) hC hK (p_hasBox l hP hR0 hc) lk_451 rfl rfl (by decide) (by assumption) (by assumption) ⟨Nat.le_of_ble_eq_true rfl, Nat.le_of_ble_eq_true rfl⟩ ⟨Nat.le_refl _, Nat.le_refl _⟩ rfl (Nat.le_of_ble_eq_true rfl) dX7_copy_5 rfl ?_
  rintro z5 F5 A5 ⟨w5, b5, e15, e25⟩
  obtain rfl := e15.symm
  obtain rfl := e25.symm
  refine x_if_eq (tgt := 41) (pc2 := 11) hC (by omega) dX7_copy_8 rfl rfl (fun h_8 => ?_) (fun h_8 => ?_)
  · refine x_iconst (pc2 := 42) hC dX7_copy_41 rfl ?_
    exact x_iret hC hr hlk ⟨_, rfl, RepO.of (by rw [oCopy, itO_neg (fun ⟨q1, q2, q3⟩ => by first | exact absurd h_8 ((b5 ()).mpr q1) | exact absurd h_19 ((b16 ()).mpr q2) | omega)]) hR0⟩ dX7_copy_42
  · have hB1 := (b5 ()).mp h_8
    refine x_aload_n (pc2 := 12) hC rfl rfl dX7_copy_11 rfl ?_
    refine g_369 (pc2 := 15) hC hK (by assumption) (by assumption) (by assumption) dX7_copy_12 rfl ?_
    refine x_iload_n (pc2 := 16) hC rfl rfl dX7_copy_15 rfl ?_
    refine x_cVi (pc2 := 19) (ci := 5) hC hK (p_hasBox l hP hR0 ha) lk_451 rfl rfl (by decide) (by assumption) (by assumption) ⟨Nat.le_of_ble_eq_true rfl, Nat.le_of_ble_eq_true rfl⟩ ⟨Nat.le_refl _, Nat.le_refl _⟩ rfl (Nat.le_of_ble_eq_true rfl) dX7_copy_16 rfl ?_
    rintro z16 F16 A16 ⟨w16, b16, e116, e216⟩
    obtain rfl := e116.symm
    obtain rfl := e216.symm
    refine x_if_eq (tgt := 41) (pc2 := 22) hC (by omega) dX7_copy_19 rfl rfl (fun h_19 => ?_) (fun h_19 => ?_)
    · refine x_iconst (pc2 := 42) hC dX7_copy_41 rfl ?_
      exact x_iret hC hr hlk ⟨_, rfl, RepO.of (by rw [oCopy, itO_neg (fun ⟨q1, q2, q3⟩ => by first | exact absurd h_8 ((b5 ()).mpr q1) | exact absurd h_19 ((b16 ()).mpr q2) | omega)]) hR0⟩ dX7_copy_42
    · have hB2 := (b16 ()).mp h_19
      have pt1 := (hi.2.1 c0 hB1).1
      have pt2 := (hi.2.1 a hB2).1
      refine x_aload_n (pc2 := 23) hC rfl rfl dX7_copy_22 rfl ?_
      refine g_369 (pc2 := 26) hC hK (by assumption) (by assumption) (by assumption) dX7_copy_23 rfl ?_
      refine x_iload_n (pc2 := 27) hC rfl rfl dX7_copy_26 rfl ?_
      refine x_cVi (pc2 := 30) (ci := 5) hC hK (p_portsOf l hP hR0 hc hB1) lk_452 rfl rfl (by decide) (by assumption) (by assumption) ⟨Nat.le_of_ble_eq_true rfl, Nat.le_of_ble_eq_true rfl⟩ ⟨Nat.le_refl _, Nat.le_refl _⟩ rfl (Nat.le_of_ble_eq_true rfl) dX7_copy_27 rfl ?_
      rintro z27 F27 A27 ⟨rfl, e127, e227⟩
      obtain rfl := e127.symm
      obtain rfl := e227.symm
      refine x_aload_n (pc2 := 31) hC rfl rfl dX7_copy_30 rfl ?_
      refine g_369 (pc2 := 34) hC hK (by assumption) (by assumption) (by assumption) dX7_copy_31 rfl ?_
      refine x_iload_n (pc2 := 35) hC rfl rfl dX7_copy_34 rfl ?_
      refine x_cVi (pc2 := 38) (ci := 5) hC hK (p_portsOf l hP hR0 ha hB2) lk_452 rfl rfl (by decide) (by assumption) (by assumption) ⟨Nat.le_of_ble_eq_true rfl, Nat.le_of_ble_eq_true rfl⟩ ⟨Nat.le_refl _, Nat.le_refl _⟩ rfl (Nat.le_of_ble_eq_true rfl) dX7_copy_35 rfl ?_
      rintro z35 F35 A35 ⟨rfl, e135, e235⟩
      obtain rfl := e135.symm
      obtain rfl := e235.symm
      refine x_icmp_eq (tgt := 43) (pc2 := 41) hC (by omega) (by omega) dX7_copy_38 rfl rfl (fun h_38 => ?_) (fun h_38 => ?_)
      · refine x_aload_n (pc2 := 44) hC rfl rfl dX7_copy_43 rfl ?_
        refine g_369 (pc2 := 47) hC hK (by assumption) (by assumption) (by assumption) dX7_copy_44 rfl ?_
        refine x_iload_n (pc2 := 48) hC rfl rfl dX7_copy_47 rfl ?_
        refine x_cVv (pc2 := 51) (ci := 5) hC hK (p_startDraft l hP hR0 hB2) lk_416 rfl rfl (by decide) (by assumption) (by assumption) ⟨Nat.le_of_ble_eq_true rfl, Nat.le_of_ble_eq_true rfl⟩ ⟨Nat.le_refl _, Nat.le_refl _⟩ rfl (Nat.le_of_ble_eq_true rfl) dX7_copy_48 rfl ?_
        rintro F48 A48 ⟨rfl, hR1, hd1⟩
        refine x_aload_n (pc2 := 52) hC rfl rfl dX7_copy_51 rfl ?_
        refine g_369 (pc2 := 55) hC hK (by assumption) (by assumption) (by assumption) dX7_copy_52 rfl ?_
        refine x_iload_n (pc2 := 56) hC rfl rfl dX7_copy_55 rfl ?_
        refine x_cVv (pc2 := 59) (ci := 5) hC hK (p_keepDraft l hP hR1 (w := vS S a) hB1 (by rw [show ptS S c0 = ptS S a by omega]; exact (hi.2.1 a hB2).2) hd1) lk_436 rfl rfl (by decide) (by assumption) (by assumption) ⟨Nat.le_of_ble_eq_true rfl, Nat.le_of_ble_eq_true rfl⟩ ⟨Nat.le_refl _, Nat.le_refl _⟩ rfl (Nat.le_of_ble_eq_true rfl) dX7_copy_56 rfl ?_
        rintro F56 A56 hR3
        refine x_iconst (pc2 := 60) hC dX7_copy_59 rfl ?_
        exact x_iret hC hr hlk ⟨_, rfl, RepO.of (by rw [oCopy, itO_pos ⟨hB1, hB2, by omega⟩]) hR3⟩ dX7_copy_60
      · refine x_iconst (pc2 := 42) hC dX7_copy_41 rfl ?_
        exact x_iret hC hr hlk ⟨_, rfl, RepO.of (by rw [oCopy, itO_neg (fun ⟨q1, q2, q3⟩ => by first | exact absurd h_8 ((b5 ()).mpr q1) | exact absurd h_19 ((b16 ()).mpr q2) | omega)]) hR0⟩ dX7_copy_42
theorem dX7_undo_0 : decode cX7_undo 0 = .ok (.aload_n 0, 1) := by decide +kernel
theorem dX7_undo_1 : decode cX7_undo 1 = .ok (.getfield 12, 3) := by decide +kernel
theorem dX7_undo_4 : decode cX7_undo 4 = .ok (.invokevirtual 115, 3) := by decide +kernel
theorem dX7_undo_7 : decode cX7_undo 7 = .ok (.ifCond .eq 7, 3) := by decide +kernel
theorem dX7_undo_10 : decode cX7_undo 10 = .ok (.iconst 1, 1) := by decide +kernel
theorem dX7_undo_11 : decode cX7_undo 11 = .ok (.goto 5, 3) := by decide +kernel
theorem dX7_undo_14 : decode cX7_undo 14 = .ok (.bipush (-2), 2) := by decide +kernel
theorem dX7_undo_16 : decode cX7_undo 16 = .ok (.ireturn, 1) := by decide +kernel
set_option maxHeartbeats 4000000 in
theorem c_undo (l : Launch) {D : va_G} {ids : Nat → ClassId} {β : Nat} {sh : Nat → Nat × Nat} {N : Nat} {R : Nat → Nat → Option Nat} {F : Nat → Nat → Int} {A : Nat → Int → Int} {S : SP} (hP : PbL sh R N) (hR0 : RepC sh R N S F A) : MetX l yX7_undo cX7_undo 1 (some (.int)) 2 46 D ids β sh N R F A [rf 0] (pIr (RepO sh R N (oUndo S ))) := by
  refine MetX.of (loc := [_]) (plainFor_of_name (by decide +kernel)) (Nat.le_of_ble_eq_true rfl) rfl ?_
  intro p e s m args below meth c hC hK hr hlk
  obtain ⟨hAc, hAg, hJu, ⟨z1, z2⟩, r00, r01, r02⟩ := id hP
  have hShL := hAc.1
  obtain ⟨⟨j1, j2⟩, ⟨s0, s1, s2, s3, s4⟩, ⟨j3, j4⟩, -⟩ := id hShL
  have hI := hR0.shI
  have hi := hR0.2.1
  have i1 := hi.1
  refine x_aload_n (pc2 := 1) hC rfl rfl dX7_undo_0 rfl ?_
  refine g_369 (pc2 := 4) hC hK (by assumption) (by assumption) (by assumption) dX7_undo_1 rfl ?_
  refine x_cVi (pc2 := 7) (ci := 5) hC hK (m_takeBack l hShL hI hR0.2.2.1.2.2.2.2.2) lk_714 rfl rfl (by decide) (by assumption) (by assumption) ⟨Nat.le_of_ble_eq_true rfl, Nat.le_of_ble_eq_true rfl⟩ ⟨Nat.le_refl _, Nat.le_refl _⟩ rfl (Nat.le_of_ble_eq_true rfl) dX7_undo_4 rfl ?_
  rintro z4 F4 A4 hq
  have hq2 := RepC.back hP hR0 hq
  have hz4 : 0 ≤ z4 ∧ z4 ≤ 1 := by rcases hq2 with ⟨q, -⟩ | ⟨q, -⟩ <;> omega
  clear hq
  refine x_if_eq (tgt := 14) (pc2 := 10) hC (by omega) dX7_undo_7 rfl rfl (fun h_7 => ?_) (fun h_7 => ?_)
  · refine x_bipush (pc2 := 16) hC rfl dX7_undo_14 rfl ?_
    exact x_iret hC hr hlk ⟨_, rfl, by rcases hq2 with ⟨q1, q2, q3⟩ | ⟨q1, q2, q3⟩ <;> first | omega | exact ⟨q2.symm, q3⟩⟩ dX7_undo_16
  · refine x_iconst (pc2 := 11) hC dX7_undo_10 rfl ?_
    refine x_goto (pc2 := 16) hC dX7_undo_11 rfl ?_
    exact x_iret hC hr hlk ⟨_, rfl, by rcases hq2 with ⟨q1, q2, q3⟩ | ⟨q1, q2, q3⟩ <;> first | omega | exact ⟨q2.symm, q3⟩⟩ dX7_undo_16
theorem dX7_where_0 : decode cX7_where 0 = .ok (.iload_n 1, 1) := by decide +kernel
theorem dX7_where_1 : decode cX7_where 1 = .ok (.ifCond .ne 8, 3) := by decide +kernel
theorem dX7_where_4 : decode cX7_where 4 = .ok (.aload_n 0, 1) := by decide +kernel
theorem dX7_where_5 : decode cX7_where 5 = .ok (.getfield 32, 3) := by decide +kernel
theorem dX7_where_8 : decode cX7_where 8 = .ok (.ireturn, 1) := by decide +kernel
theorem dX7_where_9 : decode cX7_where 9 = .ok (.iload_n 1, 1) := by decide +kernel
theorem dX7_where_10 : decode cX7_where 10 = .ok (.iconst 1, 1) := by decide +kernel
theorem dX7_where_11 : decode cX7_where 11 = .ok (.if_icmp .ne 10, 3) := by decide +kernel
theorem dX7_where_14 : decode cX7_where 14 = .ok (.aload_n 0, 1) := by decide +kernel
theorem dX7_where_15 : decode cX7_where 15 = .ok (.getfield 36, 3) := by decide +kernel
theorem dX7_where_18 : decode cX7_where 18 = .ok (.goto 4, 3) := by decide +kernel
theorem dX7_where_21 : decode cX7_where 21 = .ok (.iconst (-1), 1) := by decide +kernel
theorem dX7_where_22 : decode cX7_where 22 = .ok (.ireturn, 1) := by decide +kernel
set_option maxHeartbeats 4000000 in
theorem c_where (l : Launch) {D : va_G} {ids : Nat → ClassId} {β : Nat} {sh : Nat → Nat × Nat} {N : Nat} {R : Nat → Nat → Option Nat} {F : Nat → Nat → Int} {A : Nat → Int → Int} {S : SP} (hP : PbL sh R N) (hR0 : RepC sh R N S F A) {w : Int} (hw : I32 w) : MetX l yX7_where cX7_where 2 (some (.int)) 0 0 D ids β sh N R F A [rf 0, pI w] (pIr (fun z F2 A2 => z = oWhere S w ∧ RepC sh R N S F2 A2)) := by
  refine MetX.of (loc := [_, _]) (plainFor_of_name (by decide +kernel)) (Nat.le_of_ble_eq_true rfl) rfl ?_
  intro p e s m args below meth c hC hK hr hlk
  obtain ⟨hAc, hAg, hJu, ⟨z1, z2⟩, r00, r01, r02⟩ := id hP
  have hShL := hAc.1
  obtain ⟨⟨j1, j2⟩, ⟨s0, s1, s2, s3, s4⟩, ⟨j3, j4⟩, -⟩ := id hShL
  have hI := hR0.shI
  have hi := hR0.2.1
  have i1 := hi.1
  obtain ⟨w0, w1⟩ := hR0.2.2.2.2.2
  refine x_iload_n (pc2 := 1) hC rfl rfl dX7_where_0 rfl ?_
  refine x_if_ne (tgt := 9) (pc2 := 4) hC (by omega) dX7_where_1 rfl rfl (fun h_1 => ?_) (fun h_1 => ?_)
  · refine x_iload_n (pc2 := 10) hC rfl rfl dX7_where_9 rfl ?_
    refine x_iconst (pc2 := 11) hC dX7_where_10 rfl ?_
    refine x_icmp_ne (tgt := 21) (pc2 := 14) hC (by omega) (by omega) dX7_where_11 rfl rfl (fun h_11 => ?_) (fun h_11 => ?_)
    · refine x_iconst (pc2 := 22) hC dX7_where_21 rfl ?_
      exact x_iret hC hr hlk ⟨_, rfl, by first | (rw [oWhere, if_neg (by omega), if_pos (by omega)]; exact w1) | rw [oWhere, if_neg (by omega), if_neg (by omega)], hR0⟩ dX7_where_22
    · refine x_aload_n (pc2 := 15) hC rfl rfl dX7_where_14 rfl ?_
      refine g_373 (pc2 := 18) hC hK (by assumption) (by assumption) dX7_where_15 rfl ?_
      refine x_goto (pc2 := 22) hC dX7_where_18 rfl ?_
      exact x_iret hC hr hlk ⟨_, rfl, by first | (rw [oWhere, if_neg (by omega), if_pos (by omega)]; exact w1) | rw [oWhere, if_neg (by omega), if_neg (by omega)], hR0⟩ dX7_where_22
  · refine x_aload_n (pc2 := 5) hC rfl rfl dX7_where_4 rfl ?_
    refine g_372 (pc2 := 8) hC hK (by assumption) (by assumption) dX7_where_5 rfl ?_
    exact x_iret hC hr hlk ⟨_, rfl, by rw [oWhere, if_pos (by omega)]; exact w0, hR0⟩ dX7_where_8
theorem dX7_count_0 : decode cX7_count 0 = .ok (.iload_n 1, 1) := by decide +kernel
theorem dX7_count_1 : decode cX7_count 1 = .ok (.ifCond .ne 11, 3) := by decide +kernel
theorem dX7_count_4 : decode cX7_count 4 = .ok (.aload_n 0, 1) := by decide +kernel
theorem dX7_count_5 : decode cX7_count 5 = .ok (.getfield 12, 3) := by decide +kernel
theorem dX7_count_8 : decode cX7_count 8 = .ok (.getfield 144, 3) := by decide +kernel
theorem dX7_count_11 : decode cX7_count 11 = .ok (.ireturn, 1) := by decide +kernel
theorem dX7_count_12 : decode cX7_count 12 = .ok (.iload_n 1, 1) := by decide +kernel
theorem dX7_count_13 : decode cX7_count 13 = .ok (.iconst 1, 1) := by decide +kernel
theorem dX7_count_14 : decode cX7_count 14 = .ok (.if_icmp .ne 13, 3) := by decide +kernel
theorem dX7_count_17 : decode cX7_count 17 = .ok (.aload_n 0, 1) := by decide +kernel
theorem dX7_count_18 : decode cX7_count 18 = .ok (.getfield 12, 3) := by decide +kernel
theorem dX7_count_21 : decode cX7_count 21 = .ok (.getfield 147, 3) := by decide +kernel
theorem dX7_count_24 : decode cX7_count 24 = .ok (.goto 4, 3) := by decide +kernel
theorem dX7_count_27 : decode cX7_count 27 = .ok (.iconst (-1), 1) := by decide +kernel
theorem dX7_count_28 : decode cX7_count 28 = .ok (.ireturn, 1) := by decide +kernel
set_option maxHeartbeats 4000000 in
theorem c_count (l : Launch) {D : va_G} {ids : Nat → ClassId} {β : Nat} {sh : Nat → Nat × Nat} {N : Nat} {R : Nat → Nat → Option Nat} {F : Nat → Nat → Int} {A : Nat → Int → Int} {S : SP} (hP : PbL sh R N) (hR0 : RepC sh R N S F A) {w : Int} (hw : I32 w) : MetX l yX7_count cX7_count 2 (some (.int)) 0 0 D ids β sh N R F A [rf 0, pI w] (pIr (fun z F2 A2 => z = oCount S w ∧ RepC sh R N S F2 A2)) := by
  refine MetX.of (loc := [_, _]) (plainFor_of_name (by decide +kernel)) (Nat.le_of_ble_eq_true rfl) rfl ?_
  intro p e s m args below meth c hC hK hr hlk
  obtain ⟨hAc, hAg, hJu, ⟨z1, z2⟩, r00, r01, r02⟩ := id hP
  have hShL := hAc.1
  obtain ⟨⟨j1, j2⟩, ⟨s0, s1, s2, s3, s4⟩, ⟨j3, j4⟩, -⟩ := id hShL
  have hI := hR0.shI
  have hi := hR0.2.1
  have i1 := hi.1
  obtain ⟨n1, n2, n3, -⟩ := hR0.2.2.1
  refine x_iload_n (pc2 := 1) hC rfl rfl dX7_count_0 rfl ?_
  refine x_if_ne (tgt := 12) (pc2 := 4) hC (by omega) dX7_count_1 rfl rfl (fun h_1 => ?_) (fun h_1 => ?_)
  · refine x_iload_n (pc2 := 13) hC rfl rfl dX7_count_12 rfl ?_
    refine x_iconst (pc2 := 14) hC dX7_count_13 rfl ?_
    refine x_icmp_ne (tgt := 27) (pc2 := 17) hC (by omega) (by omega) dX7_count_14 rfl rfl (fun h_14 => ?_) (fun h_14 => ?_)
    · refine x_iconst (pc2 := 28) hC dX7_count_27 rfl ?_
      exact x_iret hC hr hlk ⟨_, rfl, by first | (rw [oCount, if_neg (by omega), if_pos (by omega)]; exact n3) | rw [oCount, if_neg (by omega), if_neg (by omega)], hR0⟩ dX7_count_28
    · refine x_aload_n (pc2 := 18) hC rfl rfl dX7_count_17 rfl ?_
      refine g_369 (pc2 := 21) hC hK (by assumption) (by assumption) (by assumption) dX7_count_18 rfl ?_
      refine g_105 (pc2 := 24) hC hK (by assumption) (by assumption) dX7_count_21 rfl ?_
      refine x_goto (pc2 := 28) hC dX7_count_24 rfl ?_
      exact x_iret hC hr hlk ⟨_, rfl, by first | (rw [oCount, if_neg (by omega), if_pos (by omega)]; exact n3) | rw [oCount, if_neg (by omega), if_neg (by omega)], hR0⟩ dX7_count_28
  · refine x_aload_n (pc2 := 5) hC rfl rfl dX7_count_4 rfl ?_
    refine g_369 (pc2 := 8) hC hK (by assumption) (by assumption) (by assumption) dX7_count_5 rfl ?_
    refine g_103 (pc2 := 11) hC hK (by assumption) (by assumption) dX7_count_8 rfl ?_
    exact x_iret hC hr hlk ⟨_, rfl, by rw [oCount, if_pos (by omega)]; exact n1, hR0⟩ dX7_count_11
