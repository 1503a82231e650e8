/-- the Shelf and its rows -/
def ShL (sh : Nat → Nat × Nat) (R : Nat → Nat → Option Nat) (N : Nat) : Prop := (1 < N ∧ sh 1 = (0, 5)) ∧ (R 1 0 = some 2 ∧ R 1 1 = some 3 ∧ R 1 2 = some 4 ∧ R 1 3 = some 5 ∧ R 1 4 = some 6) ∧ (2 < N ∧ sh 2 = (1, 2304)) ∧ (3 < N ∧ sh 3 = (1, 144)) ∧ (4 < N ∧ sh 4 = (1, 16)) ∧ (5 < N ∧ sh 5 = (1, 2304)) ∧ (6 < N ∧ sh 6 = (1, 16))
/-- what the Shelf's numbers keep to -/
def ShI (F : Nat → Nat → Int) (A : Nat → Int → Int) : Prop := (0 ≤ F 1 5 ∧ F 1 5 < 16) ∧ (0 ≤ F 1 6 ∧ F 1 6 ≤ 16) ∧ (0 ≤ F 1 7 ∧ F 1 7 ≤ 16) ∧ (∀ k : Int, 0 ≤ k → k < 16 → 0 ≤ A 4 k ∧ A 4 k ≤ 2)
theorem dX5_hasBox_0 : decode cX5_hasBox 0 = .ok (.iload_n 1, 1) := by decide +kernel
theorem dX5_hasBox_1 : decode cX5_hasBox 1 = .ok (.ifCond .lt 15, 3) := by decide +kernel
theorem dX5_hasBox_4 : decode cX5_hasBox 4 = .ok (.iload_n 1, 1) := by decide +kernel
theorem dX5_hasBox_5 : decode cX5_hasBox 5 = .ok (.aload_n 0, 1) := by decide +kernel
theorem dX5_hasBox_6 : decode cX5_hasBox 6 = .ok (.getfield 27, 3) := by decide +kernel
theorem dX5_hasBox_9 : decode cX5_hasBox 9 = .ok (.if_icmp .ge 7, 3) := by decide +kernel
theorem dX5_hasBox_12 : decode cX5_hasBox 12 = .ok (.iconst 1, 1) := by decide +kernel
theorem dX5_hasBox_13 : decode cX5_hasBox 13 = .ok (.goto 4, 3) := by decide +kernel
theorem dX5_hasBox_16 : decode cX5_hasBox 16 = .ok (.iconst 0, 1) := by decide +kernel
theorem dX5_hasBox_17 : decode cX5_hasBox 17 = .ok (.ireturn, 1) := by decide +kernel
set_option maxHeartbeats 4000000 in
theorem m_hasBox (l : Launch) {D : va_G} {ids : Nat → ClassId} {β : Nat} {sh : Nat → Nat × Nat} {N : Nat} {R : Nat → Nat → Option Nat} {F : Nat → Nat → Int} {A : Nat → Int → Int} (hL : ShL sh R N) (hI : ShI F A) {b : Int} (hb : I32 b) : MetX l yX5_hasBox cX5_hasBox 2 (some (.boolean)) 0 0 D ids β sh N R F A [rf 1, pI b] (pIr (sameI F A (if 0 ≤ b ∧ b < F 1 6 then 1 else 0))) := by
  refine MetX.of (loc := [_, _]) (plainFor_of_name (by decide +kernel)) (Nat.le_of_ble_eq_true rfl) rfl ?_
  intro p e s m args below meth c hC hK hr hlk
  obtain ⟨⟨j1, j2⟩, ⟨r0, r1, r2, r3, r4⟩, ⟨j3, j4⟩, ⟨j5, j6⟩, ⟨j7, j8⟩, ⟨j9, j10⟩, ⟨j11, j12⟩⟩ := id hL
  obtain ⟨i1, i2, i3, i4⟩ := id hI
  obtain ⟨hb1, hb2⟩ := hb
  refine x_iload_n (pc2 := 1) hC rfl rfl dX5_hasBox_0 rfl ?_
  refine x_if_lt (tgt := 16) (pc2 := 4) hC (by omega) dX5_hasBox_1 rfl rfl (fun h_1 => ?_) (fun h_1 => ?_)
  · refine x_iconst (pc2 := 17) hC dX5_hasBox_16 rfl ?_
    exact x_zret hC (by omega) hr hlk (by refine ⟨_, rfl, ?_, rfl, rfl⟩; split <;> omega) dX5_hasBox_17
  · refine x_iload_n (pc2 := 5) hC rfl rfl dX5_hasBox_4 rfl ?_
    refine x_aload_n (pc2 := 6) hC rfl rfl dX5_hasBox_5 rfl ?_
    refine g_102 (pc2 := 9) hC hK (by assumption) (by assumption) dX5_hasBox_6 rfl ?_
    refine x_icmp_ge (tgt := 16) (pc2 := 12) hC (by omega) (by omega) dX5_hasBox_9 rfl rfl (fun h_9 => ?_) (fun h_9 => ?_)
    · refine x_iconst (pc2 := 17) hC dX5_hasBox_16 rfl ?_
      exact x_zret hC (by omega) hr hlk (by refine ⟨_, rfl, ?_, rfl, rfl⟩; split <;> omega) dX5_hasBox_17
    · refine x_iconst (pc2 := 13) hC dX5_hasBox_12 rfl ?_
      refine x_goto (pc2 := 17) hC dX5_hasBox_13 rfl ?_
      exact x_zret hC (by omega) hr hlk (by refine ⟨_, rfl, ?_, rfl, rfl⟩; split <;> omega) dX5_hasBox_17
theorem dX5_hasBoxWith_0 : decode cX5_hasBoxWith 0 = .ok (.aload_n 0, 1) := by decide +kernel
theorem dX5_hasBoxWith_1 : decode cX5_hasBoxWith 1 = .ok (.iload_n 1, 1) := by decide +kernel
theorem dX5_hasBoxWith_2 : decode cX5_hasBoxWith 2 = .ok (.invokevirtual 35, 3) := by decide +kernel
theorem dX5_hasBoxWith_5 : decode cX5_hasBoxWith 5 = .ok (.ifCond .eq 17, 3) := by decide +kernel
theorem dX5_hasBoxWith_8 : decode cX5_hasBoxWith 8 = .ok (.aload_n 0, 1) := by decide +kernel
theorem dX5_hasBoxWith_9 : decode cX5_hasBoxWith 9 = .ok (.getfield 18, 3) := by decide +kernel
theorem dX5_hasBoxWith_12 : decode cX5_hasBoxWith 12 = .ok (.iload_n 1, 1) := by decide +kernel
theorem dX5_hasBoxWith_13 : decode cX5_hasBoxWith 13 = .ok (.iaload, 1) := by decide +kernel
theorem dX5_hasBoxWith_14 : decode cX5_hasBoxWith 14 = .ok (.iload_n 2, 1) := by decide +kernel
theorem dX5_hasBoxWith_15 : decode cX5_hasBoxWith 15 = .ok (.if_icmp .ne 7, 3) := by decide +kernel
theorem dX5_hasBoxWith_18 : decode cX5_hasBoxWith 18 = .ok (.iconst 1, 1) := by decide +kernel
theorem dX5_hasBoxWith_19 : decode cX5_hasBoxWith 19 = .ok (.goto 4, 3) := by decide +kernel
theorem dX5_hasBoxWith_22 : decode cX5_hasBoxWith 22 = .ok (.iconst 0, 1) := by decide +kernel
theorem dX5_hasBoxWith_23 : decode cX5_hasBoxWith 23 = .ok (.ireturn, 1) := by decide +kernel
set_option maxHeartbeats 4000000 in
theorem m_hasBoxWith (l : Launch) {D : va_G} {ids : Nat → ClassId} {β : Nat} {sh : Nat → Nat × Nat} {N : Nat} {R : Nat → Nat → Option Nat} {F : Nat → Nat → Int} {A : Nat → Int → Int} (hL : ShL sh R N) (hI : ShI F A) {b n : Int} (hb : I32 b) (hn : I32 n) : MetX l yX5_hasBoxWith cX5_hasBoxWith 3 (some (.boolean)) 1 21 D ids β sh N R F A [rf 1, pI b, pI n] (pIr (sameI F A (if (0 ≤ b ∧ b < F 1 6) ∧ A 4 b = n then 1 else 0))) := by
  refine MetX.of (loc := [_, _, _]) (plainFor_of_name (by decide +kernel)) (Nat.le_of_ble_eq_true rfl) rfl ?_
  intro p e s m args below meth c hC hK hr hlk
  obtain ⟨⟨j1, j2⟩, ⟨r0, r1, r2, r3, r4⟩, ⟨j3, j4⟩, ⟨j5, j6⟩, ⟨j7, j8⟩, ⟨j9, j10⟩, ⟨j11, j12⟩⟩ := id hL
  obtain ⟨i1, i2, i3, i4⟩ := id hI
  obtain ⟨hn1, hn2⟩ := hn
  refine x_aload_n (pc2 := 1) hC rfl rfl dX5_hasBoxWith_0 rfl ?_
  refine x_iload_n (pc2 := 2) hC rfl rfl dX5_hasBoxWith_1 rfl ?_
  refine x_cVi (pc2 := 5) (ci := 5) hC hK (m_hasBox l hL hI hb) lk_407 rfl rfl (by decide) (by assumption) (by assumption) ⟨Nat.le_of_ble_eq_true rfl, Nat.le_of_ble_eq_true rfl⟩ ⟨Nat.le_refl _, Nat.le_refl _⟩ rfl (Nat.le_of_ble_eq_true rfl) dX5_hasBoxWith_2 rfl ?_
  rintro z2 F2 A2 ⟨rfl, e12, e22⟩
  obtain rfl := e12.symm
  obtain rfl := e22.symm
  refine x_ifp_eq (tgt := 22) (pc2 := 8) hC dX5_hasBoxWith_5 rfl rfl (fun h_5 => ?_) (fun h_5 => ?_)
  · refine x_iconst (pc2 := 23) hC dX5_hasBoxWith_22 rfl ?_
    exact x_zret hC (by omega) hr hlk (by refine ⟨_, rfl, ?_, rfl, rfl⟩; split <;> omega) dX5_hasBoxWith_23
  · have q : 0 ≤ b ∧ b < F 1 6 := by first | assumption | (by_cases w : 0 ≤ b ∧ b < F 1 6; exact w; exfalso; simp_all)
    have q2 := i4 b q.1 (by omega)
    refine x_aload_n (pc2 := 9) hC rfl rfl dX5_hasBoxWith_8 rfl ?_
    refine g_98 (pc2 := 12) hC hK (by assumption) (by assumption) (by assumption) dX5_hasBoxWith_9 rfl ?_
    refine x_iload_n (pc2 := 13) hC rfl rfl dX5_hasBoxWith_12 rfl ?_
    refine x_iald (pc2 := 14) hC hK (by assumption) (by assumption) (by omega) (by decide) dX5_hasBoxWith_13 rfl ?_
    refine x_iload_n (pc2 := 15) hC rfl rfl dX5_hasBoxWith_14 rfl ?_
    refine x_icmp_ne (tgt := 22) (pc2 := 18) hC (by omega) (by omega) dX5_hasBoxWith_15 rfl rfl (fun h_15 => ?_) (fun h_15 => ?_)
    · refine x_iconst (pc2 := 23) hC dX5_hasBoxWith_22 rfl ?_
      exact x_zret hC (by omega) hr hlk (by refine ⟨_, rfl, ?_, rfl, rfl⟩; split <;> omega) dX5_hasBoxWith_23
    · refine x_iconst (pc2 := 19) hC dX5_hasBoxWith_18 rfl ?_
      refine x_goto (pc2 := 23) hC dX5_hasBoxWith_19 rfl ?_
      exact x_zret hC (by omega) hr hlk (by refine ⟨_, rfl, ?_, rfl, rfl⟩; split <;> omega) dX5_hasBoxWith_23
theorem dX5_hasEntry_0 : decode cX5_hasEntry 0 = .ok (.aload_n 0, 1) := by decide +kernel
theorem dX5_hasEntry_1 : decode cX5_hasEntry 1 = .ok (.iload_n 1, 1) := by decide +kernel
theorem dX5_hasEntry_2 : decode cX5_hasEntry 2 = .ok (.invokevirtual 35, 3) := by decide +kernel
theorem dX5_hasEntry_5 : decode cX5_hasEntry 5 = .ok (.ifCond .eq 35, 3) := by decide +kernel
theorem dX5_hasEntry_8 : decode cX5_hasEntry 8 = .ok (.iload_n 2, 1) := by decide +kernel
theorem dX5_hasEntry_9 : decode cX5_hasEntry 9 = .ok (.ifCond .lt 31, 3) := by decide +kernel
theorem dX5_hasEntry_12 : decode cX5_hasEntry 12 = .ok (.iload_n 2, 1) := by decide +kernel
theorem dX5_hasEntry_13 : decode cX5_hasEntry 13 = .ok (.aload_n 0, 1) := by decide +kernel
theorem dX5_hasEntry_14 : decode cX5_hasEntry 14 = .ok (.getfield 18, 3) := by decide +kernel
theorem dX5_hasEntry_17 : decode cX5_hasEntry 17 = .ok (.iload_n 1, 1) := by decide +kernel
theorem dX5_hasEntry_18 : decode cX5_hasEntry 18 = .ok (.iaload, 1) := by decide +kernel
theorem dX5_hasEntry_19 : decode cX5_hasEntry 19 = .ok (.if_icmp .ge 21, 3) := by decide +kernel
theorem dX5_hasEntry_22 : decode cX5_hasEntry 22 = .ok (.iload_n 3, 1) := by decide +kernel
theorem dX5_hasEntry_23 : decode cX5_hasEntry 23 = .ok (.ifCond .lt 17, 3) := by decide +kernel
theorem dX5_hasEntry_26 : decode cX5_hasEntry 26 = .ok (.iload_n 3, 1) := by decide +kernel
theorem dX5_hasEntry_27 : decode cX5_hasEntry 27 = .ok (.aload_n 0, 1) := by decide +kernel
theorem dX5_hasEntry_28 : decode cX5_hasEntry 28 = .ok (.getfield 18, 3) := by decide +kernel
theorem dX5_hasEntry_31 : decode cX5_hasEntry 31 = .ok (.iload_n 1, 1) := by decide +kernel
theorem dX5_hasEntry_32 : decode cX5_hasEntry 32 = .ok (.iaload, 1) := by decide +kernel
theorem dX5_hasEntry_33 : decode cX5_hasEntry 33 = .ok (.if_icmp .ge 7, 3) := by decide +kernel
theorem dX5_hasEntry_36 : decode cX5_hasEntry 36 = .ok (.iconst 1, 1) := by decide +kernel
theorem dX5_hasEntry_37 : decode cX5_hasEntry 37 = .ok (.goto 4, 3) := by decide +kernel
theorem dX5_hasEntry_40 : decode cX5_hasEntry 40 = .ok (.iconst 0, 1) := by decide +kernel
theorem dX5_hasEntry_41 : decode cX5_hasEntry 41 = .ok (.ireturn, 1) := by decide +kernel
set_option maxHeartbeats 4000000 in
theorem m_hasEntry (l : Launch) {D : va_G} {ids : Nat → ClassId} {β : Nat} {sh : Nat → Nat × Nat} {N : Nat} {R : Nat → Nat → Option Nat} {F : Nat → Nat → Int} {A : Nat → Int → Int} (hL : ShL sh R N) (hI : ShI F A) {b i j : Int} (hb : I32 b) (hi : I32 i) (hj : I32 j) : MetX l yX5_hasEntry cX5_hasEntry 4 (some (.boolean)) 1 21 D ids β sh N R F A [rf 1, pI b, pI i, pI j] (pIr (sameI F A (if (0 ≤ b ∧ b < F 1 6) ∧ (0 ≤ i ∧ i < A 4 b) ∧ (0 ≤ j ∧ j < A 4 b) then 1 else 0))) := by
  refine MetX.of (loc := [_, _, _, _]) (plainFor_of_name (by decide +kernel)) (Nat.le_of_ble_eq_true rfl) rfl ?_
  intro p e s m args below meth c hC hK hr hlk
  obtain ⟨⟨j1, j2⟩, ⟨r0, r1, r2, r3, r4⟩, ⟨j3, j4⟩, ⟨j5, j6⟩, ⟨j7, j8⟩, ⟨j9, j10⟩, ⟨j11, j12⟩⟩ := id hL
  obtain ⟨i1, i2, i3, i4⟩ := id hI
  obtain ⟨hi1, hi2⟩ := hi
  obtain ⟨hj1, hj2⟩ := hj
  refine x_aload_n (pc2 := 1) hC rfl rfl dX5_hasEntry_0 rfl ?_
  refine x_iload_n (pc2 := 2) hC rfl rfl dX5_hasEntry_1 rfl ?_
  refine x_cVi (pc2 := 5) (ci := 5) hC hK (m_hasBox l hL hI hb) lk_407 rfl rfl (by decide) (by assumption) (by assumption) ⟨Nat.le_of_ble_eq_true rfl, Nat.le_of_ble_eq_true rfl⟩ ⟨Nat.le_refl _, Nat.le_refl _⟩ rfl (Nat.le_of_ble_eq_true rfl) dX5_hasEntry_2 rfl ?_
  rintro z2 F2 A2 ⟨rfl, e12, e22⟩
  obtain rfl := e12.symm
  obtain rfl := e22.symm
  refine x_ifp_eq (tgt := 40) (pc2 := 8) hC dX5_hasEntry_5 rfl rfl (fun h_5 => ?_) (fun h_5 => ?_)
  · refine x_iconst (pc2 := 41) hC dX5_hasEntry_40 rfl ?_
    exact x_zret hC (by omega) hr hlk (by refine ⟨_, rfl, ?_, rfl, rfl⟩; split <;> omega) dX5_hasEntry_41
  · have q : 0 ≤ b ∧ b < F 1 6 := by first | assumption | (by_cases w : 0 ≤ b ∧ b < F 1 6; exact w; exfalso; simp_all)
    have q2 := i4 b q.1 (by omega)
    refine x_iload_n (pc2 := 9) hC rfl rfl dX5_hasEntry_8 rfl ?_
    refine x_if_lt (tgt := 40) (pc2 := 12) hC (by omega) dX5_hasEntry_9 rfl rfl (fun h_9 => ?_) (fun h_9 => ?_)
    · refine x_iconst (pc2 := 41) hC dX5_hasEntry_40 rfl ?_
      exact x_zret hC (by omega) hr hlk (by refine ⟨_, rfl, ?_, rfl, rfl⟩; split <;> omega) dX5_hasEntry_41
    · refine x_iload_n (pc2 := 13) hC rfl rfl dX5_hasEntry_12 rfl ?_
      refine x_aload_n (pc2 := 14) hC rfl rfl dX5_hasEntry_13 rfl ?_
      refine g_98 (pc2 := 17) hC hK (by assumption) (by assumption) (by assumption) dX5_hasEntry_14 rfl ?_
      refine x_iload_n (pc2 := 18) hC rfl rfl dX5_hasEntry_17 rfl ?_
      refine x_iald (pc2 := 19) hC hK (by assumption) (by assumption) (by omega) (by decide) dX5_hasEntry_18 rfl ?_
      refine x_icmp_ge (tgt := 40) (pc2 := 22) hC (by omega) (by omega) dX5_hasEntry_19 rfl rfl (fun h_19 => ?_) (fun h_19 => ?_)
      · refine x_iconst (pc2 := 41) hC dX5_hasEntry_40 rfl ?_
        exact x_zret hC (by omega) hr hlk (by refine ⟨_, rfl, ?_, rfl, rfl⟩; split <;> omega) dX5_hasEntry_41
      · refine x_iload_n (pc2 := 23) hC rfl rfl dX5_hasEntry_22 rfl ?_
        refine x_if_lt (tgt := 40) (pc2 := 26) hC (by omega) dX5_hasEntry_23 rfl rfl (fun h_23 => ?_) (fun h_23 => ?_)
        · refine x_iconst (pc2 := 41) hC dX5_hasEntry_40 rfl ?_
          exact x_zret hC (by omega) hr hlk (by refine ⟨_, rfl, ?_, rfl, rfl⟩; split <;> omega) dX5_hasEntry_41
        · refine x_iload_n (pc2 := 27) hC rfl rfl dX5_hasEntry_26 rfl ?_
          refine x_aload_n (pc2 := 28) hC rfl rfl dX5_hasEntry_27 rfl ?_
          refine g_98 (pc2 := 31) hC hK (by assumption) (by assumption) (by assumption) dX5_hasEntry_28 rfl ?_
          refine x_iload_n (pc2 := 32) hC rfl rfl dX5_hasEntry_31 rfl ?_
          refine x_iald (pc2 := 33) hC hK (by assumption) (by assumption) (by omega) (by decide) dX5_hasEntry_32 rfl ?_
          refine x_icmp_ge (tgt := 40) (pc2 := 36) hC (by omega) (by omega) dX5_hasEntry_33 rfl rfl (fun h_33 => ?_) (fun h_33 => ?_)
          · refine x_iconst (pc2 := 41) hC dX5_hasEntry_40 rfl ?_
            exact x_zret hC (by omega) hr hlk (by refine ⟨_, rfl, ?_, rfl, rfl⟩; split <;> omega) dX5_hasEntry_41
          · refine x_iconst (pc2 := 37) hC dX5_hasEntry_36 rfl ?_
            refine x_goto (pc2 := 41) hC dX5_hasEntry_37 rfl ?_
            exact x_zret hC (by omega) hr hlk (by refine ⟨_, rfl, ?_, rfl, rfl⟩; split <;> omega) dX5_hasEntry_41
theorem dX5_portsOf_0 : decode cX5_portsOf 0 = .ok (.aload_n 0, 1) := by decide +kernel
theorem dX5_portsOf_1 : decode cX5_portsOf 1 = .ok (.iload_n 1, 1) := by decide +kernel
theorem dX5_portsOf_2 : decode cX5_portsOf 2 = .ok (.invokevirtual 35, 3) := by decide +kernel
theorem dX5_portsOf_5 : decode cX5_portsOf 5 = .ok (.ifCond .eq 12, 3) := by decide +kernel
theorem dX5_portsOf_8 : decode cX5_portsOf 8 = .ok (.aload_n 0, 1) := by decide +kernel
theorem dX5_portsOf_9 : decode cX5_portsOf 9 = .ok (.getfield 18, 3) := by decide +kernel
theorem dX5_portsOf_12 : decode cX5_portsOf 12 = .ok (.iload_n 1, 1) := by decide +kernel
theorem dX5_portsOf_13 : decode cX5_portsOf 13 = .ok (.iaload, 1) := by decide +kernel
theorem dX5_portsOf_14 : decode cX5_portsOf 14 = .ok (.goto 4, 3) := by decide +kernel
theorem dX5_portsOf_17 : decode cX5_portsOf 17 = .ok (.iconst 0, 1) := by decide +kernel
theorem dX5_portsOf_18 : decode cX5_portsOf 18 = .ok (.ireturn, 1) := by decide +kernel
set_option maxHeartbeats 4000000 in
theorem m_portsOf (l : Launch) {D : va_G} {ids : Nat → ClassId} {β : Nat} {sh : Nat → Nat × Nat} {N : Nat} {R : Nat → Nat → Option Nat} {F : Nat → Nat → Int} {A : Nat → Int → Int} (hL : ShL sh R N) (hI : ShI F A) {b : Int} (hb : I32 b) : MetX l yX5_portsOf cX5_portsOf 2 (some (.int)) 1 21 D ids β sh N R F A [rf 1, pI b] (pIr (sameI F A (if 0 ≤ b ∧ b < F 1 6 then A 4 b else 0))) := by
  refine MetX.of (loc := [_, _]) (plainFor_of_name (by decide +kernel)) (Nat.le_of_ble_eq_true rfl) rfl ?_
  intro p e s m args below meth c hC hK hr hlk
  obtain ⟨⟨j1, j2⟩, ⟨r0, r1, r2, r3, r4⟩, ⟨j3, j4⟩, ⟨j5, j6⟩, ⟨j7, j8⟩, ⟨j9, j10⟩, ⟨j11, j12⟩⟩ := id hL
  obtain ⟨i1, i2, i3, i4⟩ := id hI
  refine x_aload_n (pc2 := 1) hC rfl rfl dX5_portsOf_0 rfl ?_
  refine x_iload_n (pc2 := 2) hC rfl rfl dX5_portsOf_1 rfl ?_
  refine x_cVi (pc2 := 5) (ci := 5) hC hK (m_hasBox l hL hI hb) lk_407 rfl rfl (by decide) (by assumption) (by assumption) ⟨Nat.le_of_ble_eq_true rfl, Nat.le_of_ble_eq_true rfl⟩ ⟨Nat.le_refl _, Nat.le_refl _⟩ rfl (Nat.le_of_ble_eq_true rfl) dX5_portsOf_2 rfl ?_
  rintro z2 F2 A2 ⟨rfl, e12, e22⟩
  obtain rfl := e12.symm
  obtain rfl := e22.symm
  refine x_ifp_eq (tgt := 17) (pc2 := 8) hC dX5_portsOf_5 rfl rfl (fun h_5 => ?_) (fun h_5 => ?_)
  · refine x_iconst (pc2 := 18) hC dX5_portsOf_17 rfl ?_
    exact x_iret hC hr hlk (by refine ⟨_, rfl, ?_, rfl, rfl⟩; split <;> omega) dX5_portsOf_18
  · have q : 0 ≤ b ∧ b < F 1 6 := by first | assumption | (by_cases w : 0 ≤ b ∧ b < F 1 6; exact w; exfalso; simp_all)
    have q2 := i4 b q.1 (by omega)
    refine x_aload_n (pc2 := 9) hC rfl rfl dX5_portsOf_8 rfl ?_
    refine g_98 (pc2 := 12) hC hK (by assumption) (by assumption) (by assumption) dX5_portsOf_9 rfl ?_
    refine x_iload_n (pc2 := 13) hC rfl rfl dX5_portsOf_12 rfl ?_
    refine x_iald (pc2 := 14) hC hK (by assumption) (by assumption) (by omega) (by decide) dX5_portsOf_13 rfl ?_
    refine x_goto (pc2 := 18) hC dX5_portsOf_14 rfl ?_
    exact x_iret hC hr hlk (by refine ⟨_, rfl, ?_, rfl, rfl⟩; split <;> omega) dX5_portsOf_18
theorem dX5_alike_0 : decode cX5_alike 0 = .ok (.iconst 0, 1) := by decide +kernel
theorem dX5_alike_1 : decode cX5_alike 1 = .ok (.istore 4, 2) := by decide +kernel
theorem dX5_alike_3 : decode cX5_alike 3 = .ok (.iload 4, 2) := by decide +kernel
theorem dX5_alike_5 : decode cX5_alike 5 = .ok (.iload_n 3, 1) := by decide +kernel
theorem dX5_alike_6 : decode cX5_alike 6 = .ok (.if_icmp .ge 32, 3) := by decide +kernel
theorem dX5_alike_9 : decode cX5_alike 9 = .ok (.aload_n 0, 1) := by decide +kernel
theorem dX5_alike_10 : decode cX5_alike 10 = .ok (.getfield 9, 3) := by decide +kernel
theorem dX5_alike_13 : decode cX5_alike 13 = .ok (.iload_n 1, 1) := by decide +kernel
theorem dX5_alike_14 : decode cX5_alike 14 = .ok (.iload 4, 2) := by decide +kernel
theorem dX5_alike_16 : decode cX5_alike 16 = .ok (.iadd, 1) := by decide +kernel
theorem dX5_alike_17 : decode cX5_alike 17 = .ok (.iaload, 1) := by decide +kernel
theorem dX5_alike_18 : decode cX5_alike 18 = .ok (.aload_n 0, 1) := by decide +kernel
theorem dX5_alike_19 : decode cX5_alike 19 = .ok (.getfield 9, 3) := by decide +kernel
theorem dX5_alike_22 : decode cX5_alike 22 = .ok (.iload_n 2, 1) := by decide +kernel
theorem dX5_alike_23 : decode cX5_alike 23 = .ok (.iload 4, 2) := by decide +kernel
theorem dX5_alike_25 : decode cX5_alike 25 = .ok (.iadd, 1) := by decide +kernel
theorem dX5_alike_26 : decode cX5_alike 26 = .ok (.iaload, 1) := by decide +kernel
theorem dX5_alike_27 : decode cX5_alike 27 = .ok (.if_icmp .eq 5, 3) := by decide +kernel
theorem dX5_alike_30 : decode cX5_alike 30 = .ok (.iconst 0, 1) := by decide +kernel
theorem dX5_alike_31 : decode cX5_alike 31 = .ok (.ireturn, 1) := by decide +kernel
theorem dX5_alike_32 : decode cX5_alike 32 = .ok (.iinc 4 1, 3) := by decide +kernel
theorem dX5_alike_35 : decode cX5_alike 35 = .ok (.goto (-32), 3) := by decide +kernel
theorem dX5_alike_38 : decode cX5_alike 38 = .ok (.iconst 1, 1) := by decide +kernel
theorem dX5_alike_39 : decode cX5_alike 39 = .ok (.ireturn, 1) := by decide +kernel
set_option maxHeartbeats 4000000 in
theorem m_alike (l : Launch) {D : va_G} {ids : Nat → ClassId} {β : Nat} {sh : Nat → Nat × Nat} {N : Nat} {R : Nat → Nat → Option Nat} {F : Nat → Nat → Int} {A : Nat → Int → Int} (hL : ShL sh R N) (hI : ShI F A) {x y n : Int} (hc : ∀ k : Int, 0 ≤ k → k < 2304 → I32 (A 2 k)) (hx : 0 ≤ x ∧ x + n ≤ 2304) (hy : 0 ≤ y ∧ y + n ≤ 2304) (hn : 0 ≤ n) : MetX l yX5_alike cX5_alike 5 (some (.boolean)) 0 0 D ids β sh N R F A [rf 1, pI x, pI y, pI n] (pIr (fun z F2 A2 => (z = 1 ∧ (∀ k : Int, 0 ≤ k → k < n → A 2 (x + k) = A 2 (y + k)) ∨ z = 0 ∧ ¬ (∀ k : Int, 0 ≤ k → k < n → A 2 (x + k) = A 2 (y + k))) ∧ F2 = F ∧ A2 = A)) := by
  refine MetX.of (loc := [_, _, _, _, _]) (plainFor_of_name (by decide +kernel)) (Nat.le_of_ble_eq_true rfl) rfl ?_
  intro p e s m args below meth c hC hK hr hlk
  obtain ⟨⟨j1, j2⟩, ⟨r0, r1, r2, r3, r4⟩, ⟨j3, j4⟩, ⟨j5, j6⟩, ⟨j7, j8⟩, ⟨j9, j10⟩, ⟨j11, j12⟩⟩ := id hL
  obtain ⟨i1, i2, i3, i4⟩ := id hI
  clear i4 hI
  have loop : ∀ (d : Nat) (k : Int), n - k ≤ d → 0 ≤ k → k ≤ n → (∀ i : Int, 0 ≤ i → i < k → A 2 (x + i) = A 2 (y + i)) → X p l e { frames := 0, cells := 0, slots := 0, locals := 0 } s m args below meth c (MQ below (QX D ids β sh N R (pIr (fun z F2 A2 => (z = 1 ∧ (∀ k : Int, 0 ≤ k → k < n → A 2 (x + k) = A 2 (y + k)) ∨ z = 0 ∧ ¬ (∀ k : Int, 0 ≤ k → k < n → A 2 (x + k) = A 2 (y + k))) ∧ F2 = F ∧ A2 = A))) args s 0 0 (inG β N)) (inG β N) D ids β sh 5 0 0 N R F A [some (rf 1), some (pI x), some (pI y), some (pI n), some (pI k)] [] 3 := by
    intro d
    induction d with
    | zero =>
      intro k hd h0 h1 hk
      refine x_iload (pc2 := 5) hC rfl dX5_alike_3 rfl ?_
      refine x_iload_n (pc2 := 6) hC rfl rfl dX5_alike_5 rfl ?_
      refine x_icmp_ge (tgt := 38) (pc2 := 9) hC (by omega) (by omega) dX5_alike_6 rfl rfl (fun h_6 => ?_) (fun h_6 => ?_)
      · refine x_iconst (pc2 := 39) hC dX5_alike_38 rfl ?_
        exact x_zret hC (by omega) hr hlk ⟨_, rfl, Or.inl ⟨rfl, fun i i0 i1 => hk i i0 (by omega)⟩, rfl, rfl⟩ dX5_alike_39
      · omega
    | succ d ih =>
      intro k hd h0 h1 hk
      refine x_iload (pc2 := 5) hC rfl dX5_alike_3 rfl ?_
      refine x_iload_n (pc2 := 6) hC rfl rfl dX5_alike_5 rfl ?_
      refine x_icmp_ge (tgt := 38) (pc2 := 9) hC (by omega) (by omega) dX5_alike_6 rfl rfl (fun h_6 => ?_) (fun h_6 => ?_)
      · refine x_iconst (pc2 := 39) hC dX5_alike_38 rfl ?_
        exact x_zret hC (by omega) hr hlk ⟨_, rfl, Or.inl ⟨rfl, fun i i0 i1 => hk i i0 (by omega)⟩, rfl, rfl⟩ dX5_alike_39
      · refine x_aload_n (pc2 := 10) hC rfl rfl dX5_alike_9 rfl ?_
        refine g_93 (pc2 := 13) hC hK (by assumption) (by assumption) (by assumption) dX5_alike_10 rfl ?_
        refine x_iload_n (pc2 := 14) hC rfl rfl dX5_alike_13 rfl ?_
        refine x_iload (pc2 := 16) hC rfl dX5_alike_14 rfl ?_
        refine x_iadd (pc2 := 17) hC dX5_alike_16 rfl ?_
        refine x_iald (pc2 := 18) hC hK (by assumption) (by assumption) (by omega) (by decide) dX5_alike_17 rfl ?_
        refine x_aload_n (pc2 := 19) hC rfl rfl dX5_alike_18 rfl ?_
        refine g_93 (pc2 := 22) hC hK (by assumption) (by assumption) (by assumption) dX5_alike_19 rfl ?_
        refine x_iload_n (pc2 := 23) hC rfl rfl dX5_alike_22 rfl ?_
        refine x_iload (pc2 := 25) hC rfl dX5_alike_23 rfl ?_
        refine x_iadd (pc2 := 26) hC dX5_alike_25 rfl ?_
        refine x_iald (pc2 := 27) hC hK (by assumption) (by assumption) (by omega) (by decide) dX5_alike_26 rfl ?_
        refine x_icmp_eq (tgt := 32) (pc2 := 30) hC (hc _ (by omega) (by omega)) (hc _ (by omega) (by omega)) dX5_alike_27 rfl rfl (fun h_27 => ?_) (fun h_27 => ?_)
        · refine x_iinc (pc2 := 35) (loc2 := [_, _, _, _, _]) hC (by decide) rfl rfl dX5_alike_32 rfl ?_
          refine x_goto (pc2 := 3) hC dX5_alike_35 rfl ?_
          refine ih (k + 1) (by omega) (by omega) (by omega) (fun i i0 i1 => ?_)
          by_cases q : i = k
          · rw [q]; assumption
          · exact hk i i0 (by omega)
        · refine x_iconst (pc2 := 31) hC dX5_alike_30 rfl ?_
          exact x_zret hC (by omega) hr hlk ⟨_, rfl, Or.inr ⟨rfl, fun h => absurd (h k (by omega) (by omega)) (by assumption)⟩, rfl, rfl⟩ dX5_alike_31
  refine x_iconst (pc2 := 1) hC dX5_alike_0 rfl ?_
  refine x_istore (pc2 := 3) (loc2 := [_, _, _, _, _]) hC (by decide) rfl dX5_alike_1 rfl ?_
  exact loop n.toNat 0 (by omega) (by omega) (by omega) (fun i i0 i1 => by omega)
theorem dX5_startDraft_0 : decode cX5_startDraft 0 = .ok (.aload_n 0, 1) := by decide +kernel
theorem dX5_startDraft_1 : decode cX5_startDraft 1 = .ok (.getfield 9, 3) := by decide +kernel
theorem dX5_startDraft_4 : decode cX5_startDraft 4 = .ok (.iload_n 1, 1) := by decide +kernel
theorem dX5_startDraft_5 : decode cX5_startDraft 5 = .ok (.iconst 0, 1) := by decide +kernel
theorem dX5_startDraft_6 : decode cX5_startDraft 6 = .ok (.iconst 0, 1) := by decide +kernel
theorem dX5_startDraft_7 : decode cX5_startDraft 7 = .ok (.invokestatic 31, 3) := by decide +kernel
theorem dX5_startDraft_10 : decode cX5_startDraft 10 = .ok (.aload_n 0, 1) := by decide +kernel
theorem dX5_startDraft_11 : decode cX5_startDraft 11 = .ok (.getfield 15, 3) := by decide +kernel
theorem dX5_startDraft_14 : decode cX5_startDraft 14 = .ok (.iconst 0, 1) := by decide +kernel
theorem dX5_startDraft_15 : decode cX5_startDraft 15 = .ok (.sipush 144, 3) := by decide +kernel
theorem dX5_startDraft_18 : decode cX5_startDraft 18 = .ok (.invokestatic 39, 3) := by decide +kernel
theorem dX5_startDraft_21 : decode cX5_startDraft 21 = .ok (.return_, 1) := by decide +kernel
set_option maxHeartbeats 4000000 in
theorem m_startDraft (l : Launch) {D : va_G} {ids : Nat → ClassId} {β : Nat} {sh : Nat → Nat × Nat} {N : Nat} {R : Nat → Nat → Option Nat} {F : Nat → Nat → Int} {A : Nat → Int → Int} (hL : ShL sh R N) (hI : ShI F A) {b : Int} (hb : 0 ≤ b ∧ b < 16) : MetX l yX5_startDraft cX5_startDraft 2 none 1 26 D ids β sh N R F A [rf 1, pI b] (pVr (fun F2 A2 => F2 = F ∧ A2 = cpA A 2 (b * 144) 3 0 144)) := by
  refine MetX.of (loc := [_, _]) (plainFor_of_name (by decide +kernel)) (Nat.le_of_ble_eq_true rfl) rfl ?_
  intro p e s m args below meth c hC hK hr hlk
  obtain ⟨⟨j1, j2⟩, ⟨r0, r1, r2, r3, r4⟩, ⟨j3, j4⟩, ⟨j5, j6⟩, ⟨j7, j8⟩, ⟨j9, j10⟩, ⟨j11, j12⟩⟩ := id hL
  refine x_aload_n (pc2 := 1) hC rfl rfl dX5_startDraft_0 rfl ?_
  refine g_93 (pc2 := 4) hC hK (by assumption) (by assumption) (by assumption) dX5_startDraft_1 rfl ?_
  refine x_iload_n (pc2 := 5) hC rfl rfl dX5_startDraft_4 rfl ?_
  refine x_iconst (pc2 := 6) hC dX5_startDraft_5 rfl ?_
  refine x_iconst (pc2 := 7) hC dX5_startDraft_6 rfl ?_
  refine x_cNi (pc2 := 10) hC hK (m_place l) lk_393 rfl ⟨Nat.le_of_ble_eq_true rfl, Nat.le_of_ble_eq_true rfl⟩ ⟨Nat.le_refl _, Nat.le_refl _⟩ rfl (Nat.le_of_ble_eq_true rfl) dX5_startDraft_7 rfl ?_
  rintro z7 F7 A7 ⟨rfl, e17, e27⟩
  obtain rfl := e17.symm
  obtain rfl := e27.symm
  rw [show b * 144 + 0 * 36 + 0 * 9 = b * 144 by omega]
  refine x_aload_n (pc2 := 11) hC rfl rfl dX5_startDraft_10 rfl ?_
  refine g_96 (pc2 := 14) hC hK (by assumption) (by assumption) (by assumption) dX5_startDraft_11 rfl ?_
  refine x_iconst (pc2 := 15) hC dX5_startDraft_14 rfl ?_
  refine x_sipush (pc2 := 18) hC rfl dX5_startDraft_15 rfl ?_
  refine x_copy (pc2 := 21) hC hK wt_420 j3 j5 j4 j6 (by omega) (by decide) ⟨Nat.le_of_ble_eq_true rfl, Nat.le_of_ble_eq_true rfl⟩ dX5_startDraft_18 rfl ?_
  exact x_vret hC hr hlk ⟨rfl, rfl, rfl⟩ dX5_startDraft_21
theorem dX5_draftTurned_0 : decode cX5_draftTurned 0 = .ok (.iconst 0, 1) := by decide +kernel
theorem dX5_draftTurned_1 : decode cX5_draftTurned 1 = .ok (.istore_n 2, 1) := by decide +kernel
theorem dX5_draftTurned_2 : decode cX5_draftTurned 2 = .ok (.iload_n 2, 1) := by decide +kernel
theorem dX5_draftTurned_3 : decode cX5_draftTurned 3 = .ok (.iconst 4, 1) := by decide +kernel
theorem dX5_draftTurned_4 : decode cX5_draftTurned 4 = .ok (.if_icmp .ge 53, 3) := by decide +kernel
theorem dX5_draftTurned_7 : decode cX5_draftTurned 7 = .ok (.iconst 0, 1) := by decide +kernel
theorem dX5_draftTurned_8 : decode cX5_draftTurned 8 = .ok (.istore_n 3, 1) := by decide +kernel
theorem dX5_draftTurned_9 : decode cX5_draftTurned 9 = .ok (.iload_n 3, 1) := by decide +kernel
theorem dX5_draftTurned_10 : decode cX5_draftTurned 10 = .ok (.iconst 4, 1) := by decide +kernel
theorem dX5_draftTurned_11 : decode cX5_draftTurned 11 = .ok (.if_icmp .ge 40, 3) := by decide +kernel
theorem dX5_draftTurned_14 : decode cX5_draftTurned 14 = .ok (.iconst 0, 1) := by decide +kernel
theorem dX5_draftTurned_15 : decode cX5_draftTurned 15 = .ok (.iload_n 2, 1) := by decide +kernel
theorem dX5_draftTurned_16 : decode cX5_draftTurned 16 = .ok (.iconst 3, 1) := by decide +kernel
theorem dX5_draftTurned_17 : decode cX5_draftTurned 17 = .ok (.iload_n 3, 1) := by decide +kernel
theorem dX5_draftTurned_18 : decode cX5_draftTurned 18 = .ok (.isub, 1) := by decide +kernel
theorem dX5_draftTurned_19 : decode cX5_draftTurned 19 = .ok (.invokestatic 31, 3) := by decide +kernel
theorem dX5_draftTurned_22 : decode cX5_draftTurned 22 = .ok (.istore 4, 2) := by decide +kernel
theorem dX5_draftTurned_24 : decode cX5_draftTurned 24 = .ok (.aload_n 0, 1) := by decide +kernel
theorem dX5_draftTurned_25 : decode cX5_draftTurned 25 = .ok (.getfield 9, 3) := by decide +kernel
theorem dX5_draftTurned_28 : decode cX5_draftTurned 28 = .ok (.iload_n 1, 1) := by decide +kernel
theorem dX5_draftTurned_29 : decode cX5_draftTurned 29 = .ok (.iload_n 2, 1) := by decide +kernel
theorem dX5_draftTurned_30 : decode cX5_draftTurned 30 = .ok (.iload_n 3, 1) := by decide +kernel
theorem dX5_draftTurned_31 : decode cX5_draftTurned 31 = .ok (.invokestatic 31, 3) := by decide +kernel
theorem dX5_draftTurned_34 : decode cX5_draftTurned 34 = .ok (.aload_n 0, 1) := by decide +kernel
theorem dX5_draftTurned_35 : decode cX5_draftTurned 35 = .ok (.getfield 15, 3) := by decide +kernel
theorem dX5_draftTurned_38 : decode cX5_draftTurned 38 = .ok (.iload 4, 2) := by decide +kernel
theorem dX5_draftTurned_40 : decode cX5_draftTurned 40 = .ok (.bipush 9, 2) := by decide +kernel
theorem dX5_draftTurned_42 : decode cX5_draftTurned 42 = .ok (.invokestatic 39, 3) := by decide +kernel
theorem dX5_draftTurned_45 : decode cX5_draftTurned 45 = .ok (.iinc 3 1, 3) := by decide +kernel
theorem dX5_draftTurned_48 : decode cX5_draftTurned 48 = .ok (.goto (-39), 3) := by decide +kernel
theorem dX5_draftTurned_51 : decode cX5_draftTurned 51 = .ok (.iinc 2 1, 3) := by decide +kernel
theorem dX5_draftTurned_54 : decode cX5_draftTurned 54 = .ok (.goto (-52), 3) := by decide +kernel
theorem dX5_draftTurned_57 : decode cX5_draftTurned 57 = .ok (.return_, 1) := by decide +kernel
set_option maxHeartbeats 4000000 in
theorem m_draftTurned (l : Launch) {D : va_G} {ids : Nat → ClassId} {β : Nat} {sh : Nat → Nat × Nat} {N : Nat} {R : Nat → Nat → Option Nat} {F : Nat → Nat → Int} {A : Nat → Int → Int} (hL : ShL sh R N) (hI : ShI F A) {b : Int} (hb : 0 ≤ b ∧ b < 16) : MetX l yX5_draftTurned cX5_draftTurned 5 none 1 26 D ids β sh N R F A [rf 1, pI b] (pVr (fun F2 A2 => F2 = F ∧ (∀ o, o ≠ 3 → A2 o = A o) ∧ ∀ t en k : Int, 0 ≤ t → t < 4 → 0 ≤ en → en < 4 → 0 ≤ k → k < 9 → A2 3 (t * 36 + (3 - en) * 9 + k) = A 2 (b * 144 + t * 36 + en * 9 + k))) := by
  refine MetX.of (loc := [_, _, _, _, _]) (plainFor_of_name (by decide +kernel)) (Nat.le_of_ble_eq_true rfl) rfl ?_
  intro p e s m args below meth c hC hK hr hlk
  obtain ⟨⟨j1, j2⟩, ⟨r0, r1, r2, r3, r4⟩, ⟨j3, j4⟩, ⟨j5, j6⟩, ⟨j7, j8⟩, ⟨j9, j10⟩, ⟨j11, j12⟩⟩ := id hL
  have inner : ∀ (d : Nat) (tn en : Int) (A1 : Nat → Int → Int) {e4 : Option PV}, 5 * (4 - tn) + (4 - en) ≤ d → 0 ≤ tn → tn < 4 → 0 ≤ en → en ≤ 4 → (∀ o, o ≠ 3 → A1 o = A o) → (∀ t e0 k : Int, 0 ≤ t → t < 4 → 0 ≤ e0 → e0 < 4 → 0 ≤ k → k < 9 → (t < tn ∨ t = tn ∧ e0 < en) → A1 3 (t * 36 + (3 - e0) * 9 + k) = A 2 (b * 144 + t * 36 + e0 * 9 + k)) → X p l e { frames := 1, cells := 0, slots := 0, locals := 26 } s m args below meth c (MQ below (QX D ids β sh N R (pVr (fun F2 A2 => F2 = F ∧ (∀ o, o ≠ 3 → A2 o = A o) ∧ ∀ t en k : Int, 0 ≤ t → t < 4 → 0 ≤ en → en < 4 → 0 ≤ k → k < 9 → A2 3 (t * 36 + (3 - en) * 9 + k) = A 2 (b * 144 + t * 36 + en * 9 + k)))) args s 0 0 (inG β N)) (inG β N) D ids β sh 5 0 0 N R F A1 [some (rf 1), some (pI b), some (pI tn), some (pI en), e4] [] 9 := by
    intro d
    induction d with
    | zero => intro tn en A1 e4 hd h0 h1 h2 h3 ho hk; omega
    | succ d ih =>
      intro tn en A1 e4 hd h0 h1 h2 h3 ho hk
      refine x_iload_n (pc2 := 10) hC rfl rfl dX5_draftTurned_9 rfl ?_
      refine x_iconst (pc2 := 11) hC dX5_draftTurned_10 rfl ?_
      refine x_icmp_ge (tgt := 51) (pc2 := 14) hC (by omega) (by omega) dX5_draftTurned_11 rfl rfl (fun h_11 => ?_) (fun h_11 => ?_)
      · refine x_iinc (pc2 := 54) (loc2 := [_, _, _, _, _]) hC (by decide) rfl rfl dX5_draftTurned_51 rfl ?_
        refine x_goto (pc2 := 2) hC dX5_draftTurned_54 rfl ?_
        refine x_iload_n (pc2 := 3) hC rfl rfl dX5_draftTurned_2 rfl ?_
        refine x_iconst (pc2 := 4) hC dX5_draftTurned_3 rfl ?_
        refine x_icmp_ge (tgt := 57) (pc2 := 7) hC (by omega) (by omega) dX5_draftTurned_4 rfl rfl (fun h_4 => ?_) (fun h_4 => ?_)
        · exact x_vret hC hr hlk ⟨rfl, rfl, ho, fun t e0 k t0 t1 e1 e2 k0 k1 => hk t e0 k t0 t1 e1 e2 k0 k1 (by omega)⟩ dX5_draftTurned_57
        · refine x_iconst (pc2 := 8) hC dX5_draftTurned_7 rfl ?_
          refine x_istore_n (pc2 := 9) (loc2 := [_, _, _, _, _]) hC rfl (by decide) rfl dX5_draftTurned_8 rfl ?_
          first
            | (refine ih tn (en + 1) _ (by omega) (by omega) (by omega) (by omega) (by omega) (fun o h => by rw [cpA_ne h]; exact ho o h) (fun t e0 k t0 t1 e1 e2 k0 k1 hh => ?_)
               by_cases q : t = tn ∧ e0 = en
               · rw [cpA_in (by omega), ho 2 (by decide)]
                 congr 1
                 omega
               · rw [cpA_out (by omega)]
                 exact hk t e0 k t0 t1 e1 e2 k0 k1 (by omega))
            | exact ih (tn + 1) 0 _ (by omega) (by omega) (by omega) (by omega) (by omega) ho (fun t e0 k t0 t1 e1 e2 k0 k1 hh => hk t e0 k t0 t1 e1 e2 k0 k1 (by omega))
      · refine x_iconst (pc2 := 15) hC dX5_draftTurned_14 rfl ?_
        refine x_iload_n (pc2 := 16) hC rfl rfl dX5_draftTurned_15 rfl ?_
        refine x_iconst (pc2 := 17) hC dX5_draftTurned_16 rfl ?_
        refine x_iload_n (pc2 := 18) hC rfl rfl dX5_draftTurned_17 rfl ?_
        refine x_isub (pc2 := 19) hC dX5_draftTurned_18 rfl ?_
        refine x_cNi (pc2 := 22) hC hK (m_place l) lk_393 rfl ⟨Nat.le_of_ble_eq_true rfl, Nat.le_of_ble_eq_true rfl⟩ ⟨Nat.le_refl _, Nat.le_refl _⟩ rfl (Nat.le_of_ble_eq_true rfl) dX5_draftTurned_19 rfl ?_
        rintro z19 F19 A19 ⟨rfl, e119, e219⟩
        obtain rfl := e119.symm
        obtain rfl := e219.symm
        rw [show (0 : Int) * 144 + tn * 36 + (3 - en) * 9 = tn * 36 + (3 - en) * 9 by omega]
        refine x_istore (pc2 := 24) (loc2 := [_, _, _, _, _]) hC (by decide) rfl dX5_draftTurned_22 rfl ?_
        refine x_aload_n (pc2 := 25) hC rfl rfl dX5_draftTurned_24 rfl ?_
        refine g_93 (pc2 := 28) hC hK (by assumption) (by assumption) (by assumption) dX5_draftTurned_25 rfl ?_
        refine x_iload_n (pc2 := 29) hC rfl rfl dX5_draftTurned_28 rfl ?_
        refine x_iload_n (pc2 := 30) hC rfl rfl dX5_draftTurned_29 rfl ?_
        refine x_iload_n (pc2 := 31) hC rfl rfl dX5_draftTurned_30 rfl ?_
        refine x_cNi (pc2 := 34) hC hK (m_place l) lk_393 rfl ⟨Nat.le_of_ble_eq_true rfl, Nat.le_of_ble_eq_true rfl⟩ ⟨Nat.le_refl _, Nat.le_refl _⟩ rfl (Nat.le_of_ble_eq_true rfl) dX5_draftTurned_31 rfl ?_
        rintro z31 F31 A31 ⟨rfl, e131, e231⟩
        obtain rfl := e131.symm
        obtain rfl := e231.symm
        refine x_aload_n (pc2 := 35) hC rfl rfl dX5_draftTurned_34 rfl ?_
        refine g_96 (pc2 := 38) hC hK (by assumption) (by assumption) (by assumption) dX5_draftTurned_35 rfl ?_
        refine x_iload (pc2 := 40) hC rfl dX5_draftTurned_38 rfl ?_
        refine x_bipush (pc2 := 42) hC rfl dX5_draftTurned_40 rfl ?_
        refine x_copy (pc2 := 45) hC hK wt_420 j3 j5 j4 j6 (by omega) (by decide) ⟨Nat.le_of_ble_eq_true rfl, Nat.le_of_ble_eq_true rfl⟩ dX5_draftTurned_42 rfl ?_
        refine x_iinc (pc2 := 48) (loc2 := [_, _, _, _, _]) hC (by decide) rfl rfl dX5_draftTurned_45 rfl ?_
        refine x_goto (pc2 := 9) hC dX5_draftTurned_48 rfl ?_
        first
          | (refine ih tn (en + 1) _ (by omega) (by omega) (by omega) (by omega) (by omega) (fun o h => by rw [cpA_ne h]; exact ho o h) (fun t e0 k t0 t1 e1 e2 k0 k1 hh => ?_)
             by_cases q : t = tn ∧ e0 = en
             · rw [cpA_in (by omega), ho 2 (by decide)]
               congr 1
               omega
             · rw [cpA_out (by omega)]
               exact hk t e0 k t0 t1 e1 e2 k0 k1 (by omega))
          | exact ih (tn + 1) 0 _ (by omega) (by omega) (by omega) (by omega) (by omega) ho (fun t e0 k t0 t1 e1 e2 k0 k1 hh => hk t e0 k t0 t1 e1 e2 k0 k1 (by omega))
  refine x_iconst (pc2 := 1) hC dX5_draftTurned_0 rfl ?_
  refine x_istore_n (pc2 := 2) (loc2 := [_, _, _, _, _]) hC rfl (by decide) rfl dX5_draftTurned_1 rfl ?_
  refine x_iload_n (pc2 := 3) hC rfl rfl dX5_draftTurned_2 rfl ?_
  refine x_iconst (pc2 := 4) hC dX5_draftTurned_3 rfl ?_
  refine x_icmp_ge (tgt := 57) (pc2 := 7) hC (by omega) (by omega) dX5_draftTurned_4 rfl rfl (fun h_4 => ?_) (fun h_4 => ?_)
  · omega
  · refine x_iconst (pc2 := 8) hC dX5_draftTurned_7 rfl ?_
    refine x_istore_n (pc2 := 9) (loc2 := [_, _, _, _, _]) hC rfl (by decide) rfl dX5_draftTurned_8 rfl ?_
    exact inner 40 0 0 A (by omega) (by omega) (by omega) (by omega) (by omega) (fun _ _ => rfl) (fun t e0 k t0 t1 e1 e2 k0 k1 hh => by omega)
theorem dX5_keepDraft_0 : decode cX5_keepDraft 0 = .ok (.aload_n 0, 1) := by decide +kernel
theorem dX5_keepDraft_1 : decode cX5_keepDraft 1 = .ok (.getfield 9, 3) := by decide +kernel
theorem dX5_keepDraft_4 : decode cX5_keepDraft 4 = .ok (.iload_n 1, 1) := by decide +kernel
theorem dX5_keepDraft_5 : decode cX5_keepDraft 5 = .ok (.iconst 0, 1) := by decide +kernel
theorem dX5_keepDraft_6 : decode cX5_keepDraft 6 = .ok (.iconst 0, 1) := by decide +kernel
theorem dX5_keepDraft_7 : decode cX5_keepDraft 7 = .ok (.invokestatic 31, 3) := by decide +kernel
theorem dX5_keepDraft_10 : decode cX5_keepDraft 10 = .ok (.aload_n 0, 1) := by decide +kernel
theorem dX5_keepDraft_11 : decode cX5_keepDraft 11 = .ok (.getfield 21, 3) := by decide +kernel
theorem dX5_keepDraft_14 : decode cX5_keepDraft 14 = .ok (.aload_n 0, 1) := by decide +kernel
theorem dX5_keepDraft_15 : decode cX5_keepDraft 15 = .ok (.getfield 57, 3) := by decide +kernel
theorem dX5_keepDraft_18 : decode cX5_keepDraft 18 = .ok (.sipush 144, 3) := by decide +kernel
theorem dX5_keepDraft_21 : decode cX5_keepDraft 21 = .ok (.imul, 1) := by decide +kernel
theorem dX5_keepDraft_22 : decode cX5_keepDraft 22 = .ok (.sipush 144, 3) := by decide +kernel
theorem dX5_keepDraft_25 : decode cX5_keepDraft 25 = .ok (.invokestatic 39, 3) := by decide +kernel
theorem dX5_keepDraft_28 : decode cX5_keepDraft 28 = .ok (.aload_n 0, 1) := by decide +kernel
theorem dX5_keepDraft_29 : decode cX5_keepDraft 29 = .ok (.getfield 15, 3) := by decide +kernel
theorem dX5_keepDraft_32 : decode cX5_keepDraft 32 = .ok (.iconst 0, 1) := by decide +kernel
theorem dX5_keepDraft_33 : decode cX5_keepDraft 33 = .ok (.aload_n 0, 1) := by decide +kernel
theorem dX5_keepDraft_34 : decode cX5_keepDraft 34 = .ok (.getfield 9, 3) := by decide +kernel
theorem dX5_keepDraft_37 : decode cX5_keepDraft 37 = .ok (.iload_n 1, 1) := by decide +kernel
theorem dX5_keepDraft_38 : decode cX5_keepDraft 38 = .ok (.iconst 0, 1) := by decide +kernel
theorem dX5_keepDraft_39 : decode cX5_keepDraft 39 = .ok (.iconst 0, 1) := by decide +kernel
theorem dX5_keepDraft_40 : decode cX5_keepDraft 40 = .ok (.invokestatic 31, 3) := by decide +kernel
theorem dX5_keepDraft_43 : decode cX5_keepDraft 43 = .ok (.sipush 144, 3) := by decide +kernel
theorem dX5_keepDraft_46 : decode cX5_keepDraft 46 = .ok (.invokestatic 39, 3) := by decide +kernel
theorem dX5_keepDraft_49 : decode cX5_keepDraft 49 = .ok (.aload_n 0, 1) := by decide +kernel
theorem dX5_keepDraft_50 : decode cX5_keepDraft 50 = .ok (.getfield 24, 3) := by decide +kernel
theorem dX5_keepDraft_53 : decode cX5_keepDraft 53 = .ok (.aload_n 0, 1) := by decide +kernel
theorem dX5_keepDraft_54 : decode cX5_keepDraft 54 = .ok (.getfield 57, 3) := by decide +kernel
theorem dX5_keepDraft_57 : decode cX5_keepDraft 57 = .ok (.iload_n 1, 1) := by decide +kernel
theorem dX5_keepDraft_58 : decode cX5_keepDraft 58 = .ok (.iastore, 1) := by decide +kernel
theorem dX5_keepDraft_59 : decode cX5_keepDraft 59 = .ok (.aload_n 0, 1) := by decide +kernel
theorem dX5_keepDraft_60 : decode cX5_keepDraft 60 = .ok (.aload_n 0, 1) := by decide +kernel
theorem dX5_keepDraft_61 : decode cX5_keepDraft 61 = .ok (.getfield 57, 3) := by decide +kernel
theorem dX5_keepDraft_64 : decode cX5_keepDraft 64 = .ok (.iconst 1, 1) := by decide +kernel
theorem dX5_keepDraft_65 : decode cX5_keepDraft 65 = .ok (.iadd, 1) := by decide +kernel
theorem dX5_keepDraft_66 : decode cX5_keepDraft 66 = .ok (.bipush 16, 2) := by decide +kernel
theorem dX5_keepDraft_68 : decode cX5_keepDraft 68 = .ok (.irem, 1) := by decide +kernel
theorem dX5_keepDraft_69 : decode cX5_keepDraft 69 = .ok (.putfield 57, 3) := by decide +kernel
theorem dX5_keepDraft_72 : decode cX5_keepDraft 72 = .ok (.aload_n 0, 1) := by decide +kernel
theorem dX5_keepDraft_73 : decode cX5_keepDraft 73 = .ok (.aload_n 0, 1) := by decide +kernel
theorem dX5_keepDraft_74 : decode cX5_keepDraft 74 = .ok (.getfield 60, 3) := by decide +kernel
theorem dX5_keepDraft_77 : decode cX5_keepDraft 77 = .ok (.iconst 1, 1) := by decide +kernel
theorem dX5_keepDraft_78 : decode cX5_keepDraft 78 = .ok (.iadd, 1) := by decide +kernel
theorem dX5_keepDraft_79 : decode cX5_keepDraft 79 = .ok (.bipush 16, 2) := by decide +kernel
theorem dX5_keepDraft_81 : decode cX5_keepDraft 81 = .ok (.invokestatic 63, 3) := by decide +kernel
theorem dX5_keepDraft_84 : decode cX5_keepDraft 84 = .ok (.putfield 60, 3) := by decide +kernel
theorem dX5_keepDraft_87 : decode cX5_keepDraft 87 = .ok (.return_, 1) := by decide +kernel
set_option maxHeartbeats 4000000 in
theorem m_keepDraft (l : Launch) {D : va_G} {ids : Nat → ClassId} {β : Nat} {sh : Nat → Nat × Nat} {N : Nat} {R : Nat → Nat → Option Nat} {F : Nat → Nat → Int} {A : Nat → Int → Int} (hL : ShL sh R N) (hI : ShI F A) {b : Int} (hb : 0 ≤ b ∧ b < 16) : MetX l yX5_keepDraft cX5_keepDraft 2 none 1 26 D ids β sh N R F A [rf 1, pI b] (pVr (fun F2 A2 => F2 = uF (uF F 1 5 ((F 1 5 + 1) % 16)) 1 7 (min (F 1 7 + 1) 16) ∧ A2 = uA (cpA (cpA A 2 (b * 144) 5 (F 1 5 * 144) 144) 3 0 2 (b * 144) 144) 6 (F 1 5) b)) := by
  refine MetX.of (loc := [_, _]) (plainFor_of_name (by decide +kernel)) (Nat.le_of_ble_eq_true rfl) rfl ?_
  intro p e s m args below meth c hC hK hr hlk
  obtain ⟨⟨j1, j2⟩, ⟨r0, r1, r2, r3, r4⟩, ⟨j3, j4⟩, ⟨j5, j6⟩, ⟨j7, j8⟩, ⟨j9, j10⟩, ⟨j11, j12⟩⟩ := id hL
  obtain ⟨i1, i2, i3, i4⟩ := id hI
  refine x_aload_n (pc2 := 1) hC rfl rfl dX5_keepDraft_0 rfl ?_
  refine g_93 (pc2 := 4) hC hK (by assumption) (by assumption) (by assumption) dX5_keepDraft_1 rfl ?_
  refine x_iload_n (pc2 := 5) hC rfl rfl dX5_keepDraft_4 rfl ?_
  refine x_iconst (pc2 := 6) hC dX5_keepDraft_5 rfl ?_
  refine x_iconst (pc2 := 7) hC dX5_keepDraft_6 rfl ?_
  refine x_cNi (pc2 := 10) hC hK (m_place l) lk_393 rfl ⟨Nat.le_of_ble_eq_true rfl, Nat.le_of_ble_eq_true rfl⟩ ⟨Nat.le_refl _, Nat.le_refl _⟩ rfl (Nat.le_of_ble_eq_true rfl) dX5_keepDraft_7 rfl ?_
  rintro z7 F7 A7 ⟨rfl, e17, e27⟩
  obtain rfl := e17.symm
  obtain rfl := e27.symm
  rw [show b * 144 + 0 * 36 + 0 * 9 = b * 144 by omega]
  refine x_aload_n (pc2 := 11) hC rfl rfl dX5_keepDraft_10 rfl ?_
  refine g_99 (pc2 := 14) hC hK (by assumption) (by assumption) (by assumption) dX5_keepDraft_11 rfl ?_
  refine x_aload_n (pc2 := 15) hC rfl rfl dX5_keepDraft_14 rfl ?_
  refine g_101 (pc2 := 18) hC hK (by assumption) (by assumption) dX5_keepDraft_15 rfl ?_
  refine x_sipush (pc2 := 21) hC rfl dX5_keepDraft_18 rfl ?_
  refine x_imul (pc2 := 22) hC dX5_keepDraft_21 rfl ?_
  refine x_sipush (pc2 := 25) hC rfl dX5_keepDraft_22 rfl ?_
  refine x_copy (pc2 := 28) hC hK wt_420 j3 j9 j4 j10 (by omega) (by decide) ⟨Nat.le_of_ble_eq_true rfl, Nat.le_of_ble_eq_true rfl⟩ dX5_keepDraft_25 rfl ?_
  refine x_aload_n (pc2 := 29) hC rfl rfl dX5_keepDraft_28 rfl ?_
  refine g_96 (pc2 := 32) hC hK (by assumption) (by assumption) (by assumption) dX5_keepDraft_29 rfl ?_
  refine x_iconst (pc2 := 33) hC dX5_keepDraft_32 rfl ?_
  refine x_aload_n (pc2 := 34) hC rfl rfl dX5_keepDraft_33 rfl ?_
  refine g_93 (pc2 := 37) hC hK (by assumption) (by assumption) (by assumption) dX5_keepDraft_34 rfl ?_
  refine x_iload_n (pc2 := 38) hC rfl rfl dX5_keepDraft_37 rfl ?_
  refine x_iconst (pc2 := 39) hC dX5_keepDraft_38 rfl ?_
  refine x_iconst (pc2 := 40) hC dX5_keepDraft_39 rfl ?_
  refine x_cNi (pc2 := 43) hC hK (m_place l) lk_393 rfl ⟨Nat.le_of_ble_eq_true rfl, Nat.le_of_ble_eq_true rfl⟩ ⟨Nat.le_refl _, Nat.le_refl _⟩ rfl (Nat.le_of_ble_eq_true rfl) dX5_keepDraft_40 rfl ?_
  rintro z40 F40 A40 ⟨rfl, e140, e240⟩
  obtain rfl := e140.symm
  obtain rfl := e240.symm
  rw [show b * 144 + 0 * 36 + 0 * 9 = b * 144 by omega]
  refine x_sipush (pc2 := 46) hC rfl dX5_keepDraft_43 rfl ?_
  refine x_copy (pc2 := 49) hC hK wt_420 j5 j3 j6 j4 (by omega) (by decide) ⟨Nat.le_of_ble_eq_true rfl, Nat.le_of_ble_eq_true rfl⟩ dX5_keepDraft_46 rfl ?_
  refine x_aload_n (pc2 := 50) hC rfl rfl dX5_keepDraft_49 rfl ?_
  refine g_100 (pc2 := 53) hC hK (by assumption) (by assumption) (by assumption) dX5_keepDraft_50 rfl ?_
  refine x_aload_n (pc2 := 54) hC rfl rfl dX5_keepDraft_53 rfl ?_
  refine g_101 (pc2 := 57) hC hK (by assumption) (by assumption) dX5_keepDraft_54 rfl ?_
  refine x_iload_n (pc2 := 58) hC rfl rfl dX5_keepDraft_57 rfl ?_
  refine x_iast (pc2 := 59) hC hK (by assumption) (by assumption) (by omega) (by decide) dX5_keepDraft_58 rfl ?_
  refine x_aload_n (pc2 := 60) hC rfl rfl dX5_keepDraft_59 rfl ?_
  refine x_aload_n (pc2 := 61) hC rfl rfl dX5_keepDraft_60 rfl ?_
  refine g_101 (pc2 := 64) hC hK (by assumption) (by assumption) dX5_keepDraft_61 rfl ?_
  refine x_iconst (pc2 := 65) hC dX5_keepDraft_64 rfl ?_
  refine x_iadd (pc2 := 66) hC dX5_keepDraft_65 rfl ?_
  refine x_bipush (pc2 := 68) hC rfl dX5_keepDraft_66 rfl ?_
  refine x_iremp (pc2 := 69) hC (by omega) (by omega) (by omega) (by omega) dX5_keepDraft_68 rfl ?_
  refine p_101 (pc2 := 72) hC hK (by assumption) (by assumption) dX5_keepDraft_69 rfl ?_
  refine x_aload_n (pc2 := 73) hC rfl rfl dX5_keepDraft_72 rfl ?_
  refine x_aload_n (pc2 := 74) hC rfl rfl dX5_keepDraft_73 rfl ?_
  refine g_104 (pc2 := 77) hC hK (by assumption) (by assumption) dX5_keepDraft_74 rfl ?_
  refine x_iconst (pc2 := 78) hC dX5_keepDraft_77 rfl ?_
  refine x_iadd (pc2 := 79) hC dX5_keepDraft_78 rfl ?_
  refine x_bipush (pc2 := 81) hC rfl dX5_keepDraft_79 rfl ?_
  refine x_cSi (pc2 := 84) hC hK (m_min l ⟨by rw [uF_nj (by decide)]; omega, by rw [uF_nj (by decide)]; omega⟩ ⟨by omega, by omega⟩) lk_440 rfl ⟨Nat.le_of_ble_eq_true rfl, Nat.le_of_ble_eq_true rfl⟩ ⟨Nat.le_refl _, Nat.le_refl _⟩ rfl (Nat.le_of_ble_eq_true rfl) dX5_keepDraft_81 rfl ?_
  rintro z81 F81 A81 ⟨e081, e181, e281⟩
  rw [e081, e181, e281, uF_nj (by decide)]
  refine p_104 (pc2 := 87) hC hK (by assumption) (by assumption) dX5_keepDraft_84 rfl ?_
  exact x_vret hC hr hlk ⟨rfl, rfl, rfl⟩ dX5_keepDraft_87
theorem dX5_takeBack_0 : decode cX5_takeBack 0 = .ok (.aload_n 0, 1) := by decide +kernel
theorem dX5_takeBack_1 : decode cX5_takeBack 1 = .ok (.getfield 60, 3) := by decide +kernel
theorem dX5_takeBack_4 : decode cX5_takeBack 4 = .ok (.ifCond .ne 5, 3) := by decide +kernel
theorem dX5_takeBack_7 : decode cX5_takeBack 7 = .ok (.iconst 0, 1) := by decide +kernel
theorem dX5_takeBack_8 : decode cX5_takeBack 8 = .ok (.ireturn, 1) := by decide +kernel
theorem dX5_takeBack_9 : decode cX5_takeBack 9 = .ok (.aload_n 0, 1) := by decide +kernel
theorem dX5_takeBack_10 : decode cX5_takeBack 10 = .ok (.aload_n 0, 1) := by decide +kernel
theorem dX5_takeBack_11 : decode cX5_takeBack 11 = .ok (.getfield 57, 3) := by decide +kernel
theorem dX5_takeBack_14 : decode cX5_takeBack 14 = .ok (.bipush 16, 2) := by decide +kernel
theorem dX5_takeBack_16 : decode cX5_takeBack 16 = .ok (.iadd, 1) := by decide +kernel
theorem dX5_takeBack_17 : decode cX5_takeBack 17 = .ok (.iconst 1, 1) := by decide +kernel
theorem dX5_takeBack_18 : decode cX5_takeBack 18 = .ok (.isub, 1) := by decide +kernel
theorem dX5_takeBack_19 : decode cX5_takeBack 19 = .ok (.bipush 16, 2) := by decide +kernel
theorem dX5_takeBack_21 : decode cX5_takeBack 21 = .ok (.irem, 1) := by decide +kernel
theorem dX5_takeBack_22 : decode cX5_takeBack 22 = .ok (.putfield 57, 3) := by decide +kernel
theorem dX5_takeBack_25 : decode cX5_takeBack 25 = .ok (.aload_n 0, 1) := by decide +kernel
theorem dX5_takeBack_26 : decode cX5_takeBack 26 = .ok (.dup, 1) := by decide +kernel
theorem dX5_takeBack_27 : decode cX5_takeBack 27 = .ok (.getfield 60, 3) := by decide +kernel
theorem dX5_takeBack_30 : decode cX5_takeBack 30 = .ok (.iconst 1, 1) := by decide +kernel
theorem dX5_takeBack_31 : decode cX5_takeBack 31 = .ok (.isub, 1) := by decide +kernel
theorem dX5_takeBack_32 : decode cX5_takeBack 32 = .ok (.putfield 60, 3) := by decide +kernel
theorem dX5_takeBack_35 : decode cX5_takeBack 35 = .ok (.aload_n 0, 1) := by decide +kernel
theorem dX5_takeBack_36 : decode cX5_takeBack 36 = .ok (.getfield 21, 3) := by decide +kernel
theorem dX5_takeBack_39 : decode cX5_takeBack 39 = .ok (.aload_n 0, 1) := by decide +kernel
theorem dX5_takeBack_40 : decode cX5_takeBack 40 = .ok (.getfield 57, 3) := by decide +kernel
theorem dX5_takeBack_43 : decode cX5_takeBack 43 = .ok (.sipush 144, 3) := by decide +kernel
theorem dX5_takeBack_46 : decode cX5_takeBack 46 = .ok (.imul, 1) := by decide +kernel
theorem dX5_takeBack_47 : decode cX5_takeBack 47 = .ok (.aload_n 0, 1) := by decide +kernel
theorem dX5_takeBack_48 : decode cX5_takeBack 48 = .ok (.getfield 9, 3) := by decide +kernel
theorem dX5_takeBack_51 : decode cX5_takeBack 51 = .ok (.aload_n 0, 1) := by decide +kernel
theorem dX5_takeBack_52 : decode cX5_takeBack 52 = .ok (.getfield 24, 3) := by decide +kernel
theorem dX5_takeBack_55 : decode cX5_takeBack 55 = .ok (.aload_n 0, 1) := by decide +kernel
theorem dX5_takeBack_56 : decode cX5_takeBack 56 = .ok (.getfield 57, 3) := by decide +kernel
theorem dX5_takeBack_59 : decode cX5_takeBack 59 = .ok (.iaload, 1) := by decide +kernel
theorem dX5_takeBack_60 : decode cX5_takeBack 60 = .ok (.iconst 0, 1) := by decide +kernel
theorem dX5_takeBack_61 : decode cX5_takeBack 61 = .ok (.iconst 0, 1) := by decide +kernel
theorem dX5_takeBack_62 : decode cX5_takeBack 62 = .ok (.invokestatic 31, 3) := by decide +kernel
theorem dX5_takeBack_65 : decode cX5_takeBack 65 = .ok (.sipush 144, 3) := by decide +kernel
theorem dX5_takeBack_68 : decode cX5_takeBack 68 = .ok (.invokestatic 39, 3) := by decide +kernel
theorem dX5_takeBack_71 : decode cX5_takeBack 71 = .ok (.iconst 1, 1) := by decide +kernel
theorem dX5_takeBack_72 : decode cX5_takeBack 72 = .ok (.ireturn, 1) := by decide +kernel
set_option maxHeartbeats 4000000 in
theorem m_takeBack (l : Launch) {D : va_G} {ids : Nat → ClassId} {β : Nat} {sh : Nat → Nat × Nat} {N : Nat} {R : Nat → Nat → Option Nat} {F : Nat → Nat → Int} {A : Nat → Int → Int} (hL : ShL sh R N) (hI : ShI F A) (hf : ∀ k : Int, 0 ≤ k → k < 16 → 0 ≤ A 6 k ∧ A 6 k < 16) : MetX l yX5_takeBack cX5_takeBack 1 (some (.boolean)) 1 26 D ids β sh N R F A [rf 1] (pIr (fun z F2 A2 => (F 1 7 = 0 ∧ z = 0 ∧ F2 = F ∧ A2 = A) ∨ (F 1 7 ≠ 0 ∧ z = 1 ∧ F2 = uF (uF F 1 5 ((F 1 5 + 15) % 16)) 1 7 (F 1 7 - 1) ∧ A2 = cpA A 5 ((F 1 5 + 15) % 16 * 144) 2 (A 6 ((F 1 5 + 15) % 16) * 144) 144))) := by
  refine MetX.of (loc := [_]) (plainFor_of_name (by decide +kernel)) (Nat.le_of_ble_eq_true rfl) rfl ?_
  intro p e s m args below meth c hC hK hr hlk
  obtain ⟨⟨j1, j2⟩, ⟨r0, r1, r2, r3, r4⟩, ⟨j3, j4⟩, ⟨j5, j6⟩, ⟨j7, j8⟩, ⟨j9, j10⟩, ⟨j11, j12⟩⟩ := id hL
  obtain ⟨i1, i2, i3, i4⟩ := id hI
  refine x_aload_n (pc2 := 1) hC rfl rfl dX5_takeBack_0 rfl ?_
  refine g_104 (pc2 := 4) hC hK (by assumption) (by assumption) dX5_takeBack_1 rfl ?_
  refine x_if_ne (tgt := 9) (pc2 := 7) hC (by omega) dX5_takeBack_4 rfl rfl (fun h_4 => ?_) (fun h_4 => ?_)
  · refine x_aload_n (pc2 := 10) hC rfl rfl dX5_takeBack_9 rfl ?_
    refine x_aload_n (pc2 := 11) hC rfl rfl dX5_takeBack_10 rfl ?_
    refine g_101 (pc2 := 14) hC hK (by assumption) (by assumption) dX5_takeBack_11 rfl ?_
    refine x_bipush (pc2 := 16) hC rfl dX5_takeBack_14 rfl ?_
    refine x_iadd (pc2 := 17) hC dX5_takeBack_16 rfl ?_
    refine x_iconst (pc2 := 18) hC dX5_takeBack_17 rfl ?_
    refine x_isub (pc2 := 19) hC dX5_takeBack_18 rfl ?_
    refine x_bipush (pc2 := 21) hC rfl dX5_takeBack_19 rfl ?_
    refine x_iremp (pc2 := 22) hC (by omega) (by omega) (by omega) (by omega) dX5_takeBack_21 rfl ?_
    rw [show F 1 5 + 16 - 1 = F 1 5 + 15 by omega]
    obtain ⟨nx, hnx⟩ : ∃ nx, nx = (F 1 5 + 15) % 16 := ⟨_, rfl⟩
    rw [← hnx]
    have nx0 : 0 ≤ nx ∧ nx < 16 := by omega
    have fx := hf nx nx0.1 nx0.2
    refine p_101 (pc2 := 25) hC hK (by assumption) (by assumption) dX5_takeBack_22 rfl ?_
    refine x_aload_n (pc2 := 26) hC rfl rfl dX5_takeBack_25 rfl ?_
    refine x_dupR (pc2 := 27) hC dX5_takeBack_26 rfl ?_
    refine g_104 (pc2 := 30) hC hK (by assumption) (by assumption) dX5_takeBack_27 rfl ?_
    refine x_iconst (pc2 := 31) hC dX5_takeBack_30 rfl ?_
    refine x_isub (pc2 := 32) hC dX5_takeBack_31 rfl ?_
    refine p_104 (pc2 := 35) hC hK (by assumption) (by assumption) dX5_takeBack_32 rfl ?_
    rw [show uF F 1 5 nx 1 7 = F 1 7 from uF_nj (by decide)]
    refine x_aload_n (pc2 := 36) hC rfl rfl dX5_takeBack_35 rfl ?_
    refine g_99 (pc2 := 39) hC hK (by assumption) (by assumption) (by assumption) dX5_takeBack_36 rfl ?_
    refine x_aload_n (pc2 := 40) hC rfl rfl dX5_takeBack_39 rfl ?_
    refine g_101 (pc2 := 43) hC hK (by assumption) (by assumption) dX5_takeBack_40 rfl ?_
    rw [show uF (uF F 1 5 nx) 1 7 (F 1 7 - 1) 1 5 = nx by rw [uF_nj (by decide), uF_eq]]
    refine x_sipush (pc2 := 46) hC rfl dX5_takeBack_43 rfl ?_
    refine x_imul (pc2 := 47) hC dX5_takeBack_46 rfl ?_
    refine x_aload_n (pc2 := 48) hC rfl rfl dX5_takeBack_47 rfl ?_
    refine g_93 (pc2 := 51) hC hK (by assumption) (by assumption) (by assumption) dX5_takeBack_48 rfl ?_
    refine x_aload_n (pc2 := 52) hC rfl rfl dX5_takeBack_51 rfl ?_
    refine g_100 (pc2 := 55) hC hK (by assumption) (by assumption) (by assumption) dX5_takeBack_52 rfl ?_
    refine x_aload_n (pc2 := 56) hC rfl rfl dX5_takeBack_55 rfl ?_
    refine g_101 (pc2 := 59) hC hK (by assumption) (by assumption) dX5_takeBack_56 rfl ?_
    rw [show uF (uF F 1 5 nx) 1 7 (F 1 7 - 1) 1 5 = nx by rw [uF_nj (by decide), uF_eq]]
    refine x_iald (pc2 := 60) hC hK (by assumption) (by assumption) (by omega) (by decide) dX5_takeBack_59 rfl ?_
    refine x_iconst (pc2 := 61) hC dX5_takeBack_60 rfl ?_
    refine x_iconst (pc2 := 62) hC dX5_takeBack_61 rfl ?_
    refine x_cNi (pc2 := 65) hC hK (m_place l) lk_393 rfl ⟨Nat.le_of_ble_eq_true rfl, Nat.le_of_ble_eq_true rfl⟩ ⟨Nat.le_refl _, Nat.le_refl _⟩ rfl (Nat.le_of_ble_eq_true rfl) dX5_takeBack_62 rfl ?_
    rintro z62 F62 A62 ⟨rfl, e162, e262⟩
    obtain rfl := e162.symm
    obtain rfl := e262.symm
    rw [show A 6 (nx) * 144 + 0 * 36 + 0 * 9 = A 6 nx * 144 by omega]
    refine x_sipush (pc2 := 68) hC rfl dX5_takeBack_65 rfl ?_
    refine x_copy (pc2 := 71) hC hK wt_420 j9 j3 j10 j4 (by omega) (by decide) ⟨Nat.le_of_ble_eq_true rfl, Nat.le_of_ble_eq_true rfl⟩ dX5_takeBack_68 rfl ?_
    refine x_iconst (pc2 := 72) hC dX5_takeBack_71 rfl ?_
    exact x_zret hC (by omega) hr hlk ⟨_, rfl, Or.inr ⟨by assumption, rfl, rfl, rfl⟩⟩ dX5_takeBack_72
  · refine x_iconst (pc2 := 8) hC dX5_takeBack_7 rfl ?_
    exact x_zret hC (by omega) hr hlk ⟨_, rfl, Or.inl ⟨by assumption, rfl, rfl, rfl⟩⟩ dX5_takeBack_8
theorem dX5_addBox_0 : decode cX5_addBox 0 = .ok (.aload_n 0, 1) := by decide +kernel
theorem dX5_addBox_1 : decode cX5_addBox 1 = .ok (.getfield 27, 3) := by decide +kernel
theorem dX5_addBox_4 : decode cX5_addBox 4 = .ok (.istore_n 2, 1) := by decide +kernel
theorem dX5_addBox_5 : decode cX5_addBox 5 = .ok (.iload_n 2, 1) := by decide +kernel
theorem dX5_addBox_6 : decode cX5_addBox 6 = .ok (.bipush 16, 2) := by decide +kernel
theorem dX5_addBox_8 : decode cX5_addBox 8 = .ok (.if_icmp .lt 6, 3) := by decide +kernel
theorem dX5_addBox_11 : decode cX5_addBox 11 = .ok (.bipush (-3), 2) := by decide +kernel
theorem dX5_addBox_13 : decode cX5_addBox 13 = .ok (.ireturn, 1) := by decide +kernel
theorem dX5_addBox_14 : decode cX5_addBox 14 = .ok (.aload_n 0, 1) := by decide +kernel
theorem dX5_addBox_15 : decode cX5_addBox 15 = .ok (.getfield 18, 3) := by decide +kernel
theorem dX5_addBox_18 : decode cX5_addBox 18 = .ok (.iload_n 2, 1) := by decide +kernel
theorem dX5_addBox_19 : decode cX5_addBox 19 = .ok (.iload_n 1, 1) := by decide +kernel
theorem dX5_addBox_20 : decode cX5_addBox 20 = .ok (.iastore, 1) := by decide +kernel
theorem dX5_addBox_21 : decode cX5_addBox 21 = .ok (.iconst 0, 1) := by decide +kernel
theorem dX5_addBox_22 : decode cX5_addBox 22 = .ok (.istore_n 3, 1) := by decide +kernel
theorem dX5_addBox_23 : decode cX5_addBox 23 = .ok (.iload_n 3, 1) := by decide +kernel
theorem dX5_addBox_24 : decode cX5_addBox 24 = .ok (.bipush 16, 2) := by decide +kernel
theorem dX5_addBox_26 : decode cX5_addBox 26 = .ok (.if_icmp .ge 24, 3) := by decide +kernel
theorem dX5_addBox_29 : decode cX5_addBox 29 = .ok (.aload_n 0, 1) := by decide +kernel
theorem dX5_addBox_30 : decode cX5_addBox 30 = .ok (.getfield 9, 3) := by decide +kernel
theorem dX5_addBox_33 : decode cX5_addBox 33 = .ok (.iload_n 2, 1) := by decide +kernel
theorem dX5_addBox_34 : decode cX5_addBox 34 = .ok (.iconst 0, 1) := by decide +kernel
theorem dX5_addBox_35 : decode cX5_addBox 35 = .ok (.iload_n 3, 1) := by decide +kernel
theorem dX5_addBox_36 : decode cX5_addBox 36 = .ok (.invokestatic 31, 3) := by decide +kernel
theorem dX5_addBox_39 : decode cX5_addBox 39 = .ok (.bipush 6, 2) := by decide +kernel
theorem dX5_addBox_41 : decode cX5_addBox 41 = .ok (.iadd, 1) := by decide +kernel
theorem dX5_addBox_42 : decode cX5_addBox 42 = .ok (.iconst 1, 1) := by decide +kernel
theorem dX5_addBox_43 : decode cX5_addBox 43 = .ok (.iastore, 1) := by decide +kernel
theorem dX5_addBox_44 : decode cX5_addBox 44 = .ok (.iinc 3 1, 3) := by decide +kernel
theorem dX5_addBox_47 : decode cX5_addBox 47 = .ok (.goto (-24), 3) := by decide +kernel
theorem dX5_addBox_50 : decode cX5_addBox 50 = .ok (.aload_n 0, 1) := by decide +kernel
theorem dX5_addBox_51 : decode cX5_addBox 51 = .ok (.dup, 1) := by decide +kernel
theorem dX5_addBox_52 : decode cX5_addBox 52 = .ok (.getfield 27, 3) := by decide +kernel
theorem dX5_addBox_55 : decode cX5_addBox 55 = .ok (.iconst 1, 1) := by decide +kernel
theorem dX5_addBox_56 : decode cX5_addBox 56 = .ok (.iadd, 1) := by decide +kernel
theorem dX5_addBox_57 : decode cX5_addBox 57 = .ok (.putfield 27, 3) := by decide +kernel
theorem dX5_addBox_60 : decode cX5_addBox 60 = .ok (.iload_n 2, 1) := by decide +kernel
theorem dX5_addBox_61 : decode cX5_addBox 61 = .ok (.ireturn, 1) := by decide +kernel
set_option maxHeartbeats 4000000 in
theorem m_addBox (l : Launch) {D : va_G} {ids : Nat → ClassId} {β : Nat} {sh : Nat → Nat × Nat} {N : Nat} {R : Nat → Nat → Option Nat} {F : Nat → Nat → Int} {A : Nat → Int → Int} (hL : ShL sh R N) (hI : ShI F A) {n : Int} : MetX l yX5_addBox cX5_addBox 4 (some (.int)) 1 22 D ids β sh N R F A [rf 1, pI n] (pIr (fun z F2 A2 => (F 1 6 = 16 ∧ z = -3 ∧ F2 = F ∧ A2 = A) ∨ (F 1 6 < 16 ∧ z = F 1 6 ∧ F2 = uF F 1 6 (F 1 6 + 1) ∧ (∀ o, o ≠ 2 → o ≠ 4 → A2 o = A o) ∧ A2 4 = uA A 4 (F 1 6) n 4 ∧ (∀ k, (∃ j : Int, 0 ≤ j ∧ j < 16 ∧ k = F 1 6 * 144 + j * 9 + 6) → A2 2 k = 1) ∧ (∀ k, (∀ j : Int, 0 ≤ j → j < 16 → k ≠ F 1 6 * 144 + j * 9 + 6) → A2 2 k = A 2 k)))) := by
  refine MetX.of (loc := [_, _, _, _]) (plainFor_of_name (by decide +kernel)) (Nat.le_of_ble_eq_true rfl) rfl ?_
  intro p e s m args below meth c hC hK hr hlk
  obtain ⟨⟨j1, j2⟩, ⟨r0, r1, r2, r3, r4⟩, ⟨j3, j4⟩, ⟨j5, j6⟩, ⟨j7, j8⟩, ⟨j9, j10⟩, ⟨j11, j12⟩⟩ := id hL
  obtain ⟨i1, i2, i3, i4⟩ := id hI
  clear i4 hI
  have loop : ∀ (d : Nat) (j : Int) (A1 : Nat → Int → Int), 16 - j ≤ d → 0 ≤ j → j ≤ 16 → F 1 6 < 16 → (∀ o, o ≠ 2 → o ≠ 4 → A1 o = A o) → A1 4 = uA A 4 (F 1 6) n 4 → (∀ k, (∃ i : Int, 0 ≤ i ∧ i < j ∧ k = F 1 6 * 144 + i * 9 + 6) → A1 2 k = 1) → (∀ k, (∀ i : Int, 0 ≤ i → i < j → k ≠ F 1 6 * 144 + i * 9 + 6) → A1 2 k = A 2 k) → X p l e { frames := 1, cells := 0, slots := 0, locals := 22 } s m args below meth c (MQ below (QX D ids β sh N R (pIr (fun z F2 A2 => (F 1 6 = 16 ∧ z = -3 ∧ F2 = F ∧ A2 = A) ∨ (F 1 6 < 16 ∧ z = F 1 6 ∧ F2 = uF F 1 6 (F 1 6 + 1) ∧ (∀ o, o ≠ 2 → o ≠ 4 → A2 o = A o) ∧ A2 4 = uA A 4 (F 1 6) n 4 ∧ (∀ k, (∃ j : Int, 0 ≤ j ∧ j < 16 ∧ k = F 1 6 * 144 + j * 9 + 6) → A2 2 k = 1) ∧ (∀ k, (∀ j : Int, 0 ≤ j → j < 16 → k ≠ F 1 6 * 144 + j * 9 + 6) → A2 2 k = A 2 k))))) args s 0 0 (inG β N)) (inG β N) D ids β sh 4 0 0 N R F A1 [some (rf 1), some (pI n), some (pI (F 1 6)), some (pI j)] [] 23 := by
    intro d
    induction d with
    | zero =>
      intro j A1 hd h0 h1 hb h2 h3 h4 h5
      refine x_iload_n (pc2 := 24) hC rfl rfl dX5_addBox_23 rfl ?_
      refine x_bipush (pc2 := 26) hC rfl dX5_addBox_24 rfl ?_
      refine x_icmp_ge (tgt := 50) (pc2 := 29) hC (by omega) (by omega) dX5_addBox_26 rfl rfl (fun h_26 => ?_) (fun h_26 => ?_)
      · refine x_aload_n (pc2 := 51) hC rfl rfl dX5_addBox_50 rfl ?_
        refine x_dupR (pc2 := 52) hC dX5_addBox_51 rfl ?_
        refine g_102 (pc2 := 55) hC hK (by assumption) (by assumption) dX5_addBox_52 rfl ?_
        refine x_iconst (pc2 := 56) hC dX5_addBox_55 rfl ?_
        refine x_iadd (pc2 := 57) hC dX5_addBox_56 rfl ?_
        refine p_102 (pc2 := 60) hC hK (by assumption) (by assumption) dX5_addBox_57 rfl ?_
        refine x_iload_n (pc2 := 61) hC rfl rfl dX5_addBox_60 rfl ?_
        exact x_iret hC hr hlk ⟨_, rfl, Or.inr ⟨hb, rfl, rfl, h2, h3, fun k ⟨i, i0, i1, i2⟩ => h4 k ⟨i, i0, by omega, i2⟩, fun k hk => h5 k (fun i i0 i1 => hk i i0 (by omega))⟩⟩ dX5_addBox_61
      · omega
    | succ d ih =>
      intro j A1 hd h0 h1 hb h2 h3 h4 h5
      refine x_iload_n (pc2 := 24) hC rfl rfl dX5_addBox_23 rfl ?_
      refine x_bipush (pc2 := 26) hC rfl dX5_addBox_24 rfl ?_
      refine x_icmp_ge (tgt := 50) (pc2 := 29) hC (by omega) (by omega) dX5_addBox_26 rfl rfl (fun h_26 => ?_) (fun h_26 => ?_)
      · refine x_aload_n (pc2 := 51) hC rfl rfl dX5_addBox_50 rfl ?_
        refine x_dupR (pc2 := 52) hC dX5_addBox_51 rfl ?_
        refine g_102 (pc2 := 55) hC hK (by assumption) (by assumption) dX5_addBox_52 rfl ?_
        refine x_iconst (pc2 := 56) hC dX5_addBox_55 rfl ?_
        refine x_iadd (pc2 := 57) hC dX5_addBox_56 rfl ?_
        refine p_102 (pc2 := 60) hC hK (by assumption) (by assumption) dX5_addBox_57 rfl ?_
        refine x_iload_n (pc2 := 61) hC rfl rfl dX5_addBox_60 rfl ?_
        exact x_iret hC hr hlk ⟨_, rfl, Or.inr ⟨hb, rfl, rfl, h2, h3, fun k ⟨i, i0, i1, i2⟩ => h4 k ⟨i, i0, by omega, i2⟩, fun k hk => h5 k (fun i i0 i1 => hk i i0 (by omega))⟩⟩ dX5_addBox_61
      · refine x_aload_n (pc2 := 30) hC rfl rfl dX5_addBox_29 rfl ?_
        refine g_93 (pc2 := 33) hC hK (by assumption) (by assumption) (by assumption) dX5_addBox_30 rfl ?_
        refine x_iload_n (pc2 := 34) hC rfl rfl dX5_addBox_33 rfl ?_
        refine x_iconst (pc2 := 35) hC dX5_addBox_34 rfl ?_
        refine x_iload_n (pc2 := 36) hC rfl rfl dX5_addBox_35 rfl ?_
        refine x_cNi (pc2 := 39) hC hK (m_place l) lk_393 rfl ⟨Nat.le_of_ble_eq_true rfl, Nat.le_of_ble_eq_true rfl⟩ ⟨Nat.le_refl _, Nat.le_refl _⟩ rfl (Nat.le_of_ble_eq_true rfl) dX5_addBox_36 rfl ?_
        rintro z36 F36 A36 ⟨rfl, e136, e236⟩
        obtain rfl := e136.symm
        obtain rfl := e236.symm
        rw [show F 1 6 * 144 + 0 * 36 + j * 9 = F 1 6 * 144 + j * 9 by omega]
        refine x_bipush (pc2 := 41) hC rfl dX5_addBox_39 rfl ?_
        refine x_iadd (pc2 := 42) hC dX5_addBox_41 rfl ?_
        refine x_iconst (pc2 := 43) hC dX5_addBox_42 rfl ?_
        refine x_iast (pc2 := 44) hC hK (by assumption) (by assumption) (by omega) (by decide) dX5_addBox_43 rfl ?_
        refine x_iinc (pc2 := 47) (loc2 := [_, _, _, _]) hC (by decide) rfl rfl dX5_addBox_44 rfl ?_
        refine x_goto (pc2 := 23) hC dX5_addBox_47 rfl ?_
        refine ih (j + 1) _ (by omega) (by omega) (by omega) hb (fun o o1 o2 => by rw [uA_ne o1]; exact h2 o o1 o2) (by rw [uA_ne (by decide)]; exact h3) (fun k hk => ?_) (fun k hk => ?_)
        · obtain ⟨i, i0, i1, i2⟩ := hk
          by_cases q : i = j
          · rw [i2, q, uA_eq]
          · rw [uA_ni (by omega)]; exact h4 k ⟨i, i0, by omega, i2⟩
        · rw [uA_ni (hk j (by omega) (by omega))]
          exact h5 k (fun i i0 i1 => hk i i0 (by omega))
  refine x_aload_n (pc2 := 1) hC rfl rfl dX5_addBox_0 rfl ?_
  refine g_102 (pc2 := 4) hC hK (by assumption) (by assumption) dX5_addBox_1 rfl ?_
  refine x_istore_n (pc2 := 5) (loc2 := [_, _, _, _]) hC rfl (by decide) rfl dX5_addBox_4 rfl ?_
  refine x_iload_n (pc2 := 6) hC rfl rfl dX5_addBox_5 rfl ?_
  refine x_bipush (pc2 := 8) hC rfl dX5_addBox_6 rfl ?_
  refine x_icmp_lt (tgt := 14) (pc2 := 11) hC (by omega) (by omega) dX5_addBox_8 rfl rfl (fun h_8 => ?_) (fun h_8 => ?_)
  · refine x_aload_n (pc2 := 15) hC rfl rfl dX5_addBox_14 rfl ?_
    refine g_98 (pc2 := 18) hC hK (by assumption) (by assumption) (by assumption) dX5_addBox_15 rfl ?_
    refine x_iload_n (pc2 := 19) hC rfl rfl dX5_addBox_18 rfl ?_
    refine x_iload_n (pc2 := 20) hC rfl rfl dX5_addBox_19 rfl ?_
    refine x_iast (pc2 := 21) hC hK (by assumption) (by assumption) (by omega) (by decide) dX5_addBox_20 rfl ?_
    refine x_iconst (pc2 := 22) hC dX5_addBox_21 rfl ?_
    refine x_istore_n (pc2 := 23) (loc2 := [_, _, _, _]) hC rfl (by decide) rfl dX5_addBox_22 rfl ?_
    exact loop 16 0 _ (by omega) (by omega) (by omega) (by omega) (fun o o1 o2 => uA_ne o2) rfl (fun k ⟨i, i0, i1, _⟩ => by omega) (fun k _ => by rw [uA_ne (by decide)])
  · refine x_bipush (pc2 := 13) hC rfl dX5_addBox_11 rfl ?_
    exact x_iret hC hr hlk ⟨_, rfl, Or.inl ⟨by omega, rfl, rfl, rfl⟩⟩ dX5_addBox_13
theorem dX5_draftSmall_0 : decode cX5_draftSmall 0 = .ok (.iload 5, 2) := by decide +kernel
theorem dX5_draftSmall_2 : decode cX5_draftSmall 2 = .ok (.i2l, 1) := by decide +kernel
theorem dX5_draftSmall_3 : decode cX5_draftSmall 3 = .ok (.iload_n 3, 1) := by decide +kernel
theorem dX5_draftSmall_4 : decode cX5_draftSmall 4 = .ok (.invokestatic 45, 3) := by decide +kernel
theorem dX5_draftSmall_7 : decode cX5_draftSmall 7 = .ok (.i2l, 1) := by decide +kernel
theorem dX5_draftSmall_8 : decode cX5_draftSmall 8 = .ok (.invokestatic 51, 3) := by decide +kernel
theorem dX5_draftSmall_11 : decode cX5_draftSmall 11 = .ok (.iload 4, 2) := by decide +kernel
theorem dX5_draftSmall_13 : decode cX5_draftSmall 13 = .ok (.invokestatic 45, 3) := by decide +kernel
theorem dX5_draftSmall_16 : decode cX5_draftSmall 16 = .ok (.i2l, 1) := by decide +kernel
theorem dX5_draftSmall_17 : decode cX5_draftSmall 17 = .ok (.invokestatic 51, 3) := by decide +kernel
theorem dX5_draftSmall_20 : decode cX5_draftSmall 20 = .ok (.lstore 6, 2) := by decide +kernel
theorem dX5_draftSmall_22 : decode cX5_draftSmall 22 = .ok (.iconst 0, 1) := by decide +kernel
theorem dX5_draftSmall_23 : decode cX5_draftSmall 23 = .ok (.iload_n 1, 1) := by decide +kernel
theorem dX5_draftSmall_24 : decode cX5_draftSmall 24 = .ok (.iload_n 2, 1) := by decide +kernel
theorem dX5_draftSmall_25 : decode cX5_draftSmall 25 = .ok (.invokestatic 31, 3) := by decide +kernel
theorem dX5_draftSmall_28 : decode cX5_draftSmall 28 = .ok (.istore 8, 2) := by decide +kernel
theorem dX5_draftSmall_30 : decode cX5_draftSmall 30 = .ok (.iconst 0, 1) := by decide +kernel
theorem dX5_draftSmall_31 : decode cX5_draftSmall 31 = .ok (.istore 9, 2) := by decide +kernel
theorem dX5_draftSmall_33 : decode cX5_draftSmall 33 = .ok (.iload 9, 2) := by decide +kernel
theorem dX5_draftSmall_35 : decode cX5_draftSmall 35 = .ok (.bipush 9, 2) := by decide +kernel
theorem dX5_draftSmall_37 : decode cX5_draftSmall 37 = .ok (.if_icmp .ge 20, 3) := by decide +kernel
theorem dX5_draftSmall_40 : decode cX5_draftSmall 40 = .ok (.aload_n 0, 1) := by decide +kernel
theorem dX5_draftSmall_41 : decode cX5_draftSmall 41 = .ok (.getfield 15, 3) := by decide +kernel
theorem dX5_draftSmall_44 : decode cX5_draftSmall 44 = .ok (.iload 8, 2) := by decide +kernel
theorem dX5_draftSmall_46 : decode cX5_draftSmall 46 = .ok (.iload 9, 2) := by decide +kernel
theorem dX5_draftSmall_48 : decode cX5_draftSmall 48 = .ok (.iadd, 1) := by decide +kernel
theorem dX5_draftSmall_49 : decode cX5_draftSmall 49 = .ok (.iconst 0, 1) := by decide +kernel
theorem dX5_draftSmall_50 : decode cX5_draftSmall 50 = .ok (.iastore, 1) := by decide +kernel
theorem dX5_draftSmall_51 : decode cX5_draftSmall 51 = .ok (.iinc 9 1, 3) := by decide +kernel
theorem dX5_draftSmall_54 : decode cX5_draftSmall 54 = .ok (.goto (-21), 3) := by decide +kernel
theorem dX5_draftSmall_57 : decode cX5_draftSmall 57 = .ok (.lload 6, 2) := by decide +kernel
theorem dX5_draftSmall_59 : decode cX5_draftSmall 59 = .ok (.lconst 0, 1) := by decide +kernel
theorem dX5_draftSmall_60 : decode cX5_draftSmall 60 = .ok (.lcmp, 1) := by decide +kernel
theorem dX5_draftSmall_61 : decode cX5_draftSmall 61 = .ok (.ifCond .le 49, 3) := by decide +kernel
theorem dX5_draftSmall_64 : decode cX5_draftSmall 64 = .ok (.aload_n 0, 1) := by decide +kernel
theorem dX5_draftSmall_65 : decode cX5_draftSmall 65 = .ok (.getfield 15, 3) := by decide +kernel
theorem dX5_draftSmall_68 : decode cX5_draftSmall 68 = .ok (.iload 8, 2) := by decide +kernel
theorem dX5_draftSmall_70 : decode cX5_draftSmall 70 = .ok (.iload_n 3, 1) := by decide +kernel
theorem dX5_draftSmall_71 : decode cX5_draftSmall 71 = .ok (.i2l, 1) := by decide +kernel
theorem dX5_draftSmall_72 : decode cX5_draftSmall 72 = .ok (.lload 6, 2) := by decide +kernel
theorem dX5_draftSmall_74 : decode cX5_draftSmall 74 = .ok (.ldiv, 1) := by decide +kernel
theorem dX5_draftSmall_75 : decode cX5_draftSmall 75 = .ok (.l2i, 1) := by decide +kernel
theorem dX5_draftSmall_76 : decode cX5_draftSmall 76 = .ok (.iastore, 1) := by decide +kernel
theorem dX5_draftSmall_77 : decode cX5_draftSmall 77 = .ok (.aload_n 0, 1) := by decide +kernel
theorem dX5_draftSmall_78 : decode cX5_draftSmall 78 = .ok (.getfield 15, 3) := by decide +kernel
theorem dX5_draftSmall_81 : decode cX5_draftSmall 81 = .ok (.iload 8, 2) := by decide +kernel
theorem dX5_draftSmall_83 : decode cX5_draftSmall 83 = .ok (.iconst 3, 1) := by decide +kernel
theorem dX5_draftSmall_84 : decode cX5_draftSmall 84 = .ok (.iadd, 1) := by decide +kernel
theorem dX5_draftSmall_85 : decode cX5_draftSmall 85 = .ok (.iload 4, 2) := by decide +kernel
theorem dX5_draftSmall_87 : decode cX5_draftSmall 87 = .ok (.i2l, 1) := by decide +kernel
theorem dX5_draftSmall_88 : decode cX5_draftSmall 88 = .ok (.lload 6, 2) := by decide +kernel
theorem dX5_draftSmall_90 : decode cX5_draftSmall 90 = .ok (.ldiv, 1) := by decide +kernel
theorem dX5_draftSmall_91 : decode cX5_draftSmall 91 = .ok (.l2i, 1) := by decide +kernel
theorem dX5_draftSmall_92 : decode cX5_draftSmall 92 = .ok (.iastore, 1) := by decide +kernel
theorem dX5_draftSmall_93 : decode cX5_draftSmall 93 = .ok (.aload_n 0, 1) := by decide +kernel
theorem dX5_draftSmall_94 : decode cX5_draftSmall 94 = .ok (.getfield 15, 3) := by decide +kernel
theorem dX5_draftSmall_97 : decode cX5_draftSmall 97 = .ok (.iload 8, 2) := by decide +kernel
theorem dX5_draftSmall_99 : decode cX5_draftSmall 99 = .ok (.bipush 6, 2) := by decide +kernel
theorem dX5_draftSmall_101 : decode cX5_draftSmall 101 = .ok (.iadd, 1) := by decide +kernel
theorem dX5_draftSmall_102 : decode cX5_draftSmall 102 = .ok (.iload 5, 2) := by decide +kernel
theorem dX5_draftSmall_104 : decode cX5_draftSmall 104 = .ok (.i2l, 1) := by decide +kernel
theorem dX5_draftSmall_105 : decode cX5_draftSmall 105 = .ok (.lload 6, 2) := by decide +kernel
theorem dX5_draftSmall_107 : decode cX5_draftSmall 107 = .ok (.ldiv, 1) := by decide +kernel
theorem dX5_draftSmall_108 : decode cX5_draftSmall 108 = .ok (.l2i, 1) := by decide +kernel
theorem dX5_draftSmall_109 : decode cX5_draftSmall 109 = .ok (.iastore, 1) := by decide +kernel
theorem dX5_draftSmall_110 : decode cX5_draftSmall 110 = .ok (.return_, 1) := by decide +kernel
set_option maxHeartbeats 4000000 in
theorem m_draftSmall (l : Launch) {D : va_G} {ids : Nat → ClassId} {β : Nat} {sh : Nat → Nat × Nat} {N : Nat} {R : Nat → Nat → Option Nat} {F : Nat → Nat → Int} {A : Nat → Int → Int} (hL : ShL sh R N) (hI : ShI F A) {tone en cp cq cr : Int} (ht : 0 ≤ tone ∧ tone < 4) (he : 0 ≤ en ∧ en < 4) (hp : -999999999 ≤ cp ∧ cp ≤ 999999999) (hq : -999999999 ≤ cq ∧ cq ≤ 999999999) (hrr : 1 ≤ cr ∧ cr ≤ 999999999) : MetX l yX5_draftSmall cX5_draftSmall 10 none 1 30 D ids β sh N R F A [rf 1, pI tone, pI en, pI cp, pI cq, pI cr] (pVr (fun F2 A2 => F2 = F ∧ ∃ g : Nat, g = Nat.gcd (Nat.gcd cr.natAbs cp.natAbs) cq.natAbs ∧ (∀ o, o ≠ 3 → A2 o = A o) ∧ A2 3 (tone * 36 + en * 9) = cp.tdiv g ∧ A2 3 (tone * 36 + en * 9 + 3) = cq.tdiv g ∧ A2 3 (tone * 36 + en * 9 + 6) = cr.tdiv g ∧ (∀ k, k ≠ 0 → k ≠ 3 → k ≠ 6 → 0 ≤ k → k < 9 → A2 3 (tone * 36 + en * 9 + k) = 0) ∧ (∀ k, k < tone * 36 + en * 9 ∨ tone * 36 + en * 9 + 9 ≤ k → A2 3 k = A 3 k))) := by
  refine MetX.of (loc := [_, _, _, _, _, _, _, _, _, _]) (plainFor_of_name (by decide +kernel)) (Nat.le_of_ble_eq_true rfl) rfl ?_
  intro p e s m args below meth c hC hK hr hlk
  obtain ⟨⟨j1, j2⟩, ⟨r0, r1, r2, r3, r4⟩, ⟨j3, j4⟩, ⟨j5, j6⟩, ⟨j7, j8⟩, ⟨j9, j10⟩, ⟨j11, j12⟩⟩ := id hL
  obtain ⟨rn, rfl⟩ : ∃ rn : Nat, cr = (rn : Int) := ⟨cr.natAbs, by omega⟩
  have g3 : Nat.gcd rn cp.natAbs ≤ rn := Nat.gcd_le_left _ (by omega)
  have g0 : 0 < Nat.gcd (Nat.gcd (rn : Int).natAbs cp.natAbs) cq.natAbs := Nat.gcd_pos_of_pos_left _ (Nat.gcd_pos_of_pos_left _ (by omega))
  have g2 : Nat.gcd (rn : Int).natAbs cp.natAbs ≤ (rn : Int).natAbs := Nat.gcd_le_left _ (by omega)
  have g1 : Nat.gcd (Nat.gcd (rn : Int).natAbs cp.natAbs) cq.natAbs ≤ Nat.gcd (rn : Int).natAbs cp.natAbs := Nat.gcd_le_left _ (Nat.gcd_pos_of_pos_left _ (by omega))
  have fin : ∀ (at0 k : Int) (g : Nat) (A1 : Nat → Int → Int), at0 = tone * 36 + en * 9 → g = Nat.gcd (Nat.gcd (rn : Int).natAbs cp.natAbs) cq.natAbs → 0 < g → g ≤ 999999999 → (∀ o, o ≠ 3 → A1 o = A o) → (∀ i, 0 ≤ i → i < 9 → A1 3 (at0 + i) = 0) → (∀ i, i < at0 ∨ at0 + 9 ≤ i → A1 3 i = A 3 i) → X p l e { frames := 1, cells := 0, slots := 0, locals := 30 } s m args below meth c (MQ below (QX D ids β sh N R (pVr (fun F2 A2 => F2 = F ∧ ∃ g : Nat, g = Nat.gcd (Nat.gcd (rn : Int).natAbs cp.natAbs) cq.natAbs ∧ (∀ o, o ≠ 3 → A2 o = A o) ∧ A2 3 (tone * 36 + en * 9) = cp.tdiv g ∧ A2 3 (tone * 36 + en * 9 + 3) = cq.tdiv g ∧ A2 3 (tone * 36 + en * 9 + 6) = (rn : Int).tdiv g ∧ (∀ k, k ≠ 0 → k ≠ 3 → k ≠ 6 → 0 ≤ k → k < 9 → A2 3 (tone * 36 + en * 9 + k) = 0) ∧ (∀ k, k < tone * 36 + en * 9 ∨ tone * 36 + en * 9 + 9 ≤ k → A2 3 k = A 3 k)))) args s 0 0 (inG β N)) (inG β N) D ids β sh 10 0 0 N R F A1 [some (rf 1), some (pI tone), some (pI en), some (pI cp), some (pI cq), some (pI (rn : Int)), some (pL (g : Int)), none, some (pI at0), some (pI k)] [] 57 := by
    intro at0 k g A1 ha hg g0 g1 ho hz hu
    refine x_lload (pc2 := 59) hC rfl dX5_draftSmall_57 rfl ?_
    refine x_lconst0 (pc2 := 60) hC dX5_draftSmall_59 rfl ?_
    refine x_lcmp_le (tgt := 110) (pc2 := 64) hC (by omega) (by omega) dX5_draftSmall_60 dX5_draftSmall_61 rfl rfl (fun h_60 => ?_) (fun h_60 => ?_)
    · exfalso; omega
    · refine x_aload_n (pc2 := 65) hC rfl rfl dX5_draftSmall_64 rfl ?_
      refine g_96 (pc2 := 68) hC hK (by assumption) (by assumption) (by assumption) dX5_draftSmall_65 rfl ?_
      refine x_iload (pc2 := 70) hC rfl dX5_draftSmall_68 rfl ?_
      refine x_iload_n (pc2 := 71) hC rfl rfl dX5_draftSmall_70 rfl ?_
      refine x_i2l (pc2 := 72) hC (by omega) dX5_draftSmall_71 rfl ?_
      refine x_lload (pc2 := 74) hC rfl dX5_draftSmall_72 rfl ?_
      refine x_ldiv (pc2 := 75) hC ⟨by omega, by omega⟩ ⟨by omega, by omega⟩ (by omega) dX5_draftSmall_74 rfl ?_
      refine x_l2i (pc2 := 76) hC dX5_draftSmall_75 rfl ?_
      refine x_iast (pc2 := 77) hC hK (by assumption) (by assumption) (by omega) (by decide) dX5_draftSmall_76 rfl ?_
      refine x_aload_n (pc2 := 78) hC rfl rfl dX5_draftSmall_77 rfl ?_
      refine g_96 (pc2 := 81) hC hK (by assumption) (by assumption) (by assumption) dX5_draftSmall_78 rfl ?_
      refine x_iload (pc2 := 83) hC rfl dX5_draftSmall_81 rfl ?_
      refine x_iconst (pc2 := 84) hC dX5_draftSmall_83 rfl ?_
      refine x_iadd (pc2 := 85) hC dX5_draftSmall_84 rfl ?_
      refine x_iload (pc2 := 87) hC rfl dX5_draftSmall_85 rfl ?_
      refine x_i2l (pc2 := 88) hC (by omega) dX5_draftSmall_87 rfl ?_
      refine x_lload (pc2 := 90) hC rfl dX5_draftSmall_88 rfl ?_
      refine x_ldiv (pc2 := 91) hC ⟨by omega, by omega⟩ ⟨by omega, by omega⟩ (by omega) dX5_draftSmall_90 rfl ?_
      refine x_l2i (pc2 := 92) hC dX5_draftSmall_91 rfl ?_
      refine x_iast (pc2 := 93) hC hK (by assumption) (by assumption) (by omega) (by decide) dX5_draftSmall_92 rfl ?_
      refine x_aload_n (pc2 := 94) hC rfl rfl dX5_draftSmall_93 rfl ?_
      refine g_96 (pc2 := 97) hC hK (by assumption) (by assumption) (by assumption) dX5_draftSmall_94 rfl ?_
      refine x_iload (pc2 := 99) hC rfl dX5_draftSmall_97 rfl ?_
      refine x_bipush (pc2 := 101) hC rfl dX5_draftSmall_99 rfl ?_
      refine x_iadd (pc2 := 102) hC dX5_draftSmall_101 rfl ?_
      refine x_iload (pc2 := 104) hC rfl dX5_draftSmall_102 rfl ?_
      refine x_i2l (pc2 := 105) hC (by omega) dX5_draftSmall_104 rfl ?_
      refine x_lload (pc2 := 107) hC rfl dX5_draftSmall_105 rfl ?_
      refine x_ldiv (pc2 := 108) hC ⟨by omega, by omega⟩ ⟨by omega, by omega⟩ (by omega) dX5_draftSmall_107 rfl ?_
      refine x_l2i (pc2 := 109) hC dX5_draftSmall_108 rfl ?_
      refine x_iast (pc2 := 110) hC hK (by assumption) (by assumption) (by omega) (by decide) dX5_draftSmall_109 rfl ?_
      refine x_vret hC hr hlk ⟨rfl, rfl, g, hg, fun o h => by rw [uA_ne h, uA_ne h, uA_ne h]; exact ho o h, ?_, ?_, ?_, fun k n0 n3 n6 k0 k9 => ?_, fun k hk => ?_⟩ dX5_draftSmall_110
      · rw [← ha, uA_ni (by omega), uA_ni (by omega), uA_eq]
      · rw [← ha, uA_ni (by omega), uA_eq]
      · rw [← ha, uA_eq]
      · rw [← ha, uA_ni (by omega), uA_ni (by omega), uA_ni (by omega)]
        exact hz k k0 (by omega)
      · rw [uA_ni (by omega), uA_ni (by omega), uA_ni (by omega)]
        exact hu k (by omega)
  have loop : ∀ (d : Nat) (k at0 : Int) (g : Nat) (A1 : Nat → Int → Int), 9 - k ≤ d → 0 ≤ k → k ≤ 9 → at0 = tone * 36 + en * 9 → g = Nat.gcd (Nat.gcd (rn : Int).natAbs cp.natAbs) cq.natAbs → 0 < g → g ≤ 999999999 → (∀ o, o ≠ 3 → A1 o = A o) → (∀ i, 0 ≤ i → i < k → A1 3 (at0 + i) = 0) → (∀ i, i < at0 ∨ at0 + 9 ≤ i → A1 3 i = A 3 i) → X p l e { frames := 1, cells := 0, slots := 0, locals := 30 } s m args below meth c (MQ below (QX D ids β sh N R (pVr (fun F2 A2 => F2 = F ∧ ∃ g : Nat, g = Nat.gcd (Nat.gcd (rn : Int).natAbs cp.natAbs) cq.natAbs ∧ (∀ o, o ≠ 3 → A2 o = A o) ∧ A2 3 (tone * 36 + en * 9) = cp.tdiv g ∧ A2 3 (tone * 36 + en * 9 + 3) = cq.tdiv g ∧ A2 3 (tone * 36 + en * 9 + 6) = (rn : Int).tdiv g ∧ (∀ k, k ≠ 0 → k ≠ 3 → k ≠ 6 → 0 ≤ k → k < 9 → A2 3 (tone * 36 + en * 9 + k) = 0) ∧ (∀ k, k < tone * 36 + en * 9 ∨ tone * 36 + en * 9 + 9 ≤ k → A2 3 k = A 3 k)))) args s 0 0 (inG β N)) (inG β N) D ids β sh 10 0 0 N R F A1 [some (rf 1), some (pI tone), some (pI en), some (pI cp), some (pI cq), some (pI (rn : Int)), some (pL (g : Int)), none, some (pI at0), some (pI k)] [] 33 := by
    intro d
    induction d with
    | zero =>
      intro k at0 g A1 hd h0 h1 ha hg g0 g1 ho hz hu
      refine x_iload (pc2 := 35) hC rfl dX5_draftSmall_33 rfl ?_
      refine x_bipush (pc2 := 37) hC rfl dX5_draftSmall_35 rfl ?_
      refine x_icmp_ge (tgt := 57) (pc2 := 40) hC (by omega) (by omega) dX5_draftSmall_37 rfl rfl (fun h_37 => ?_) (fun h_37 => ?_)
      · exact fin at0 k g A1 ha hg g0 g1 ho (fun i i0 i1 => hz i i0 (by omega)) hu
      · omega
    | succ d ih =>
      intro k at0 g A1 hd h0 h1 ha hg g0 g1 ho hz hu
      refine x_iload (pc2 := 35) hC rfl dX5_draftSmall_33 rfl ?_
      refine x_bipush (pc2 := 37) hC rfl dX5_draftSmall_35 rfl ?_
      refine x_icmp_ge (tgt := 57) (pc2 := 40) hC (by omega) (by omega) dX5_draftSmall_37 rfl rfl (fun h_37 => ?_) (fun h_37 => ?_)
      · exact fin at0 k g A1 ha hg g0 g1 ho (fun i i0 i1 => hz i i0 (by omega)) hu
      · refine x_aload_n (pc2 := 41) hC rfl rfl dX5_draftSmall_40 rfl ?_
        refine g_96 (pc2 := 44) hC hK (by assumption) (by assumption) (by assumption) dX5_draftSmall_41 rfl ?_
        refine x_iload (pc2 := 46) hC rfl dX5_draftSmall_44 rfl ?_
        refine x_iload (pc2 := 48) hC rfl dX5_draftSmall_46 rfl ?_
        refine x_iadd (pc2 := 49) hC dX5_draftSmall_48 rfl ?_
        refine x_iconst (pc2 := 50) hC dX5_draftSmall_49 rfl ?_
        refine x_iast (pc2 := 51) hC hK (by assumption) (by assumption) (by omega) (by decide) dX5_draftSmall_50 rfl ?_
        refine x_iinc (pc2 := 54) (loc2 := [_, _, _, _, _, _, _, _, _, _]) hC (by decide) rfl rfl dX5_draftSmall_51 rfl ?_
        refine x_goto (pc2 := 33) hC dX5_draftSmall_54 rfl ?_
        refine ih (k + 1) at0 g _ (by omega) (by omega) (by omega) ha hg g0 g1 (fun o h => by rw [uA_ne h]; exact ho o h) (fun i i0 i1 => ?_) (fun i hi => ?_)
        · by_cases q : i = k
          · rw [q, uA_eq]
          · rw [uA_ni (by omega)]; exact hz i i0 (by omega)
        · rw [uA_ni (by omega)]; exact hu i hi
  refine x_iload (pc2 := 2) hC rfl dX5_draftSmall_0 rfl ?_
  refine x_i2l (pc2 := 3) hC (by omega) dX5_draftSmall_2 rfl ?_
  refine x_iload_n (pc2 := 4) hC rfl rfl dX5_draftSmall_3 rfl ?_
  refine x_cSi (pc2 := 7) hC hK (m_abs l ⟨by omega, by omega⟩) lk_430 rfl ⟨Nat.le_of_ble_eq_true rfl, Nat.le_of_ble_eq_true rfl⟩ ⟨Nat.le_refl _, Nat.le_refl _⟩ rfl (Nat.le_of_ble_eq_true rfl) dX5_draftSmall_4 rfl ?_
  rintro z4 F4 A4 ⟨e04, e14, e24⟩
  obtain rfl := e14.symm
  obtain rfl := e24.symm
  obtain rfl := e04.symm
  refine x_i2l (pc2 := 8) hC (by omega) dX5_draftSmall_7 rfl ?_
  refine x_cSl (pc2 := 11) hC hK (m_shortGcd l (a := rn) (b := cp.natAbs) (by omega) (by omega)) lk_433 rfl ⟨Nat.le_of_ble_eq_true rfl, Nat.le_of_ble_eq_true rfl⟩ ⟨Nat.le_refl _, Nat.le_refl _⟩ rfl (Nat.le_of_ble_eq_true rfl) dX5_draftSmall_8 rfl ?_
  rintro z8 F8 A8 ⟨rfl, e18, e28⟩
  obtain rfl := e18.symm
  obtain rfl := e28.symm
  refine x_iload (pc2 := 13) hC rfl dX5_draftSmall_11 rfl ?_
  refine x_cSi (pc2 := 16) hC hK (m_abs l ⟨by omega, by omega⟩) lk_430 rfl ⟨Nat.le_of_ble_eq_true rfl, Nat.le_of_ble_eq_true rfl⟩ ⟨Nat.le_refl _, Nat.le_refl _⟩ rfl (Nat.le_of_ble_eq_true rfl) dX5_draftSmall_13 rfl ?_
  rintro z13 F13 A13 ⟨e013, e113, e213⟩
  obtain rfl := e113.symm
  obtain rfl := e213.symm
  obtain rfl := e013.symm
  refine x_i2l (pc2 := 17) hC (by omega) dX5_draftSmall_16 rfl ?_
  refine x_cSl (pc2 := 20) hC hK (m_shortGcd l (b := cq.natAbs) (by omega) (by omega)) lk_433 rfl ⟨Nat.le_of_ble_eq_true rfl, Nat.le_of_ble_eq_true rfl⟩ ⟨Nat.le_refl _, Nat.le_refl _⟩ rfl (Nat.le_of_ble_eq_true rfl) dX5_draftSmall_17 rfl ?_
  rintro z17 F17 A17 ⟨rfl, e117, e217⟩
  obtain rfl := e117.symm
  obtain rfl := e217.symm
  refine x_lstore (pc2 := 22) (loc2 := [_, _, _, _, _, _, _, _, _, _]) hC (by decide) rfl dX5_draftSmall_20 rfl ?_
  refine x_iconst (pc2 := 23) hC dX5_draftSmall_22 rfl ?_
  refine x_iload_n (pc2 := 24) hC rfl rfl dX5_draftSmall_23 rfl ?_
  refine x_iload_n (pc2 := 25) hC rfl rfl dX5_draftSmall_24 rfl ?_
  refine x_cNi (pc2 := 28) hC hK (m_place l) lk_393 rfl ⟨Nat.le_of_ble_eq_true rfl, Nat.le_of_ble_eq_true rfl⟩ ⟨Nat.le_refl _, Nat.le_refl _⟩ rfl (Nat.le_of_ble_eq_true rfl) dX5_draftSmall_25 rfl ?_
  rintro z25 F25 A25 ⟨rfl, e125, e225⟩
  obtain rfl := e125.symm
  obtain rfl := e225.symm
  refine x_istore (pc2 := 30) (loc2 := [_, _, _, _, _, _, _, _, _, _]) hC (by decide) rfl dX5_draftSmall_28 rfl ?_
  refine x_iconst (pc2 := 31) hC dX5_draftSmall_30 rfl ?_
  refine x_istore (pc2 := 33) (loc2 := [_, _, _, _, _, _, _, _, _, _]) hC (by decide) rfl dX5_draftSmall_31 rfl ?_
  exact loop 9 0 _ _ A (by omega) (by omega) (by omega) (by omega) rfl g0 (Nat.le_trans g1 (by omega)) (fun _ _ => rfl) (fun i i0 i1 => by omega) (fun _ _ => rfl)
