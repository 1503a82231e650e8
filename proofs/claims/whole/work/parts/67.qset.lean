def MO (o : Int × SP) : Int → (Nat → Nat → Int) → (Nat → Int → Int) → Prop := fun z F2 A2 => z = o.1 ∧ RepM o.2 F2 A2
theorem MO.of {o : Int × SP} {S : SP} {z : Int} {F2 : Nat → Nat → Int} {A2 : Nat → Int → Int} (e : o = (z, S)) (h : RepM S F2 A2) : MO o z F2 A2 := by subst e; exact ⟨rfl, h⟩
theorem upZ_comm {α : Type} {v : Int → α} {a b : Int} {x y : α} (h : a ≠ b) : upZ (upZ v a x) b y = upZ (upZ v b y) a x := by
  funext j
  unfold upZ
  by_cases p : j = a <;> by_cases q : j = b <;> simp [p, q] <;> omega
theorem unV_up {n : Int} {x : BX} : ∀ (l : List (Int × BX)) (v : Int → BX) (i : Nat), (∀ q ∈ l, q.1 ≠ n) → unV (upZ v n x) l i = upZ (unV v l i) n x
  | [], v, i, _ => by simp [unV]
  | q :: t, v, 0, h => by
    simp only [unV]
    exact upZ_comm (Ne.symm (h q List.mem_cons_self))
  | q :: t, v, i + 1, h => by
    simp only [unV]
    rw [upZ_comm (Ne.symm (h q List.mem_cons_self))]
    exact unV_up t _ i (fun u hu => h u (List.mem_cons_of_mem _ hu))
theorem prt_z3 : ∀ w : Int, 0 ≤ w → w < 6 → prt z3 w = if w = 5 then 1 else 0 := fun w w0 w1 => by
  rcases (show w = 0 ∨ w = 1 ∨ w = 2 ∨ w = 3 ∨ w = 4 ∨ w = 5 by omega) with rfl | rfl | rfl | rfl | rfl | rfl <;> decide
theorem RepM.add {S : SP} {F F2 : Nat → Nat → Int} {A A2 : Nat → Int → Int} {p : Int} (h : RepM S F A) (hp : p = 1 ∨ p = 2) (hn : nbS S < 16) (f1 : F2 0 1 = F 0 1 + 1) (f2 : ∀ j, j ≠ 1 → F2 0 j = F 0 j) (a1 : A2 1 = uA A 1 (F 0 1) p 1) (a3 : A2 3 = A 3) (a2 : ∀ k : Int, 0 ≤ k → k < 16 → A2 2 (96 * nbS S + 6 * k + 5) = 1) (a2o : ∀ j : Int, (∀ k : Int, 0 ≤ k → k < 16 → j ≠ 96 * nbS S + 6 * k + 5) → A2 2 j = A 2 j) : RepM (addS S p) F2 A2 := by
  obtain ⟨hi, b1, b2, b3, b4, b5, b6, b7, b8⟩ := h
  have i1 := hi.1
  refine ⟨⟨?_, ?_, ?_, hi.2.2.2⟩, by rw [f1, b1]; rfl, ?_, by rw [f2 4 (by decide)]; exact b3, by rw [f2 5 (by decide)]; exact b4, by rw [f2 6 (by decide)]; exact b5, ?_, ?_, ?_⟩
  · show 0 ≤ nbS S + 1 ∧ nbS S + 1 ≤ 16
    omega
  · intro b hb
    replace hb : 0 ≤ b ∧ b < nbS S + 1 := hb
    show (upZ (ptS S) (nbS S) p b = 1 ∨ upZ (ptS S) (nbS S) p b = 2) ∧ wfB (upZ (ptS S) (nbS S) p b) (upZ (vS S) (nbS S) (fun _ _ => z3) b)
    by_cases q : b = nbS S
    · rw [q, upZ_eq, upZ_eq]
      exact ⟨hp, fun t e _ _ => ⟨ok3_z, fun _ _ => rfl⟩⟩
    · rw [upZ_ne q, upZ_ne q]
      exact hi.2.1 b ⟨hb.1, by omega⟩
  · intro q hq
    obtain ⟨a, b⟩ := hi.2.2.1 q hq
    refine ⟨⟨a.1, ?_⟩, ?_⟩
    · show q.1 < nbS S + 1
      have := a.2
      omega
    · show wfB (upZ (ptS S) (nbS S) p q.1) q.2
      rw [upZ_ne (by have := a.2; omega)]; exact b
  · intro b hb
    replace hb : 0 ≤ b ∧ b < nbS S + 1 := hb
    show A2 1 b = upZ (ptS S) (nbS S) p b
    rw [a1, uA_at, b1]
    by_cases q : b = nbS S
    · rw [if_pos q, q, upZ_eq]
    · rw [if_neg q, upZ_ne q]; exact b2 b ⟨hb.1, by omega⟩
  · intro b t e hb ht he
    replace hb : 0 ≤ b ∧ b < nbS S + 1 := hb
    show held (A2 2) _ (upZ (vS S) (nbS S) (fun _ _ => z3) b t e)
    by_cases q : b = nbS S
    · rw [q, upZ_eq]
      intro w w0 w1
      rw [prt_z3 w w0 w1]
      split
      · rename_i w5
        have := a2 (4 * t + e) (by omega) (by omega)
        rw [← this]
        congr 1
        omega
      · rw [a2o _ (fun k k0 k1 => by omega)]
        exact b7 _ (by omega) (by omega)
    · rw [upZ_ne q]
      exact held_of (b6 b t e ⟨hb.1, by omega⟩ ht he) (fun u u0 u1 => a2o _ (fun k k0 k1 => by omega))
  · intro k k0 k1
    replace k0 : 96 * (nbS S + 1) ≤ k := k0
    rw [a2o _ (fun n n0 n1 => by omega)]
    exact b7 k (by omega) k1
  · intro i hil
    obtain ⟨h1, h2⟩ := b8 i hil
    rw [a3]
    have hne : ∀ q ∈ hS S, q.1 ≠ nbS S := fun q hq => by
      have := (hi.2.2.1 q hq).1.2
      omega
    refine ⟨fun b t e hb ht he => ?_, fun k k0 k1 => h2 k (by have k2 : 96 * (nbS S + 1) ≤ k := k0; omega) k1⟩
    replace hb : 0 ≤ b ∧ b < nbS S + 1 := hb
    show heldU (A 3) _ (unV (upZ (vS S) (nbS S) (fun _ _ => z3)) (hS S) i b t e)
    rw [unV_up _ _ _ hne]
    by_cases q : b = nbS S
    · rw [q, upZ_eq]
      refine Or.inr ⟨rfl, fun w w0 w1 => ?_⟩
      have := h2 (96 * nbS S + 24 * t + 6 * e + w) (by omega) (by omega)
      rw [← this]
      congr 1
      show 1536 * (((hS S).length : Int) - 1 - i) + 96 * nbS S + 24 * t + 6 * e + w = 1536 * (((hS S).length : Int) - 1 - i) + (96 * nbS S + 24 * t + 6 * e + w)
      omega
    · rw [upZ_ne q]
      exact h1 b t e ⟨hb.1, by omega⟩ ht he
theorem St.zero {F : Nat → Nat → Int} {A : Nat → Int → Int} : St 0 (fun _ => 0) (uF F 0 10 0) A := ⟨uF_eq, by decide, fun u u0 u1 => by omega⟩
theorem dX8_box_0 : decode cX8_box 0 = .ok (.iload_n 1, 1) := by decide +kernel
theorem dX8_box_1 : decode cX8_box 1 = .ok (.i2l, 1) := by decide +kernel
theorem dX8_box_2 : decode cX8_box 2 = .ok (.lconst 1, 1) := by decide +kernel
theorem dX8_box_3 : decode cX8_box 3 = .ok (.ldc2_w 164, 3) := by decide +kernel
theorem dX8_box_6 : decode cX8_box 6 = .ok (.invokestatic 157, 3) := by decide +kernel
theorem dX8_box_9 : decode cX8_box 9 = .ok (.ifCond .ne 5, 3) := by decide +kernel
theorem dX8_box_12 : decode cX8_box 12 = .ok (.iconst (-1), 1) := by decide +kernel
theorem dX8_box_13 : decode cX8_box 13 = .ok (.ireturn, 1) := by decide +kernel
theorem dX8_box_14 : decode cX8_box 14 = .ok (.aload_n 0, 1) := by decide +kernel
theorem dX8_box_15 : decode cX8_box 15 = .ok (.getfield 154, 3) := by decide +kernel
theorem dX8_box_18 : decode cX8_box 18 = .ok (.bipush 16, 2) := by decide +kernel
theorem dX8_box_20 : decode cX8_box 20 = .ok (.if_icmp .ne 6, 3) := by decide +kernel
theorem dX8_box_23 : decode cX8_box 23 = .ok (.bipush (-3), 2) := by decide +kernel
theorem dX8_box_25 : decode cX8_box 25 = .ok (.ireturn, 1) := by decide +kernel
theorem dX8_box_26 : decode cX8_box 26 = .ok (.aload_n 0, 1) := by decide +kernel
theorem dX8_box_27 : decode cX8_box 27 = .ok (.getfield 7, 3) := by decide +kernel
theorem dX8_box_30 : decode cX8_box 30 = .ok (.aload_n 0, 1) := by decide +kernel
theorem dX8_box_31 : decode cX8_box 31 = .ok (.getfield 154, 3) := by decide +kernel
theorem dX8_box_34 : decode cX8_box 34 = .ok (.iload_n 1, 1) := by decide +kernel
theorem dX8_box_35 : decode cX8_box 35 = .ok (.iastore, 1) := by decide +kernel
theorem dX8_box_36 : decode cX8_box 36 = .ok (.iconst 0, 1) := by decide +kernel
theorem dX8_box_37 : decode cX8_box 37 = .ok (.istore_n 2, 1) := by decide +kernel
theorem dX8_box_38 : decode cX8_box 38 = .ok (.iload_n 2, 1) := by decide +kernel
theorem dX8_box_39 : decode cX8_box 39 = .ok (.bipush 16, 2) := by decide +kernel
theorem dX8_box_41 : decode cX8_box 41 = .ok (.if_icmp .ge 29, 3) := by decide +kernel
theorem dX8_box_44 : decode cX8_box 44 = .ok (.aload_n 0, 1) := by decide +kernel
theorem dX8_box_45 : decode cX8_box 45 = .ok (.getfield 13, 3) := by decide +kernel
theorem dX8_box_48 : decode cX8_box 48 = .ok (.bipush 96, 2) := by decide +kernel
theorem dX8_box_50 : decode cX8_box 50 = .ok (.aload_n 0, 1) := by decide +kernel
theorem dX8_box_51 : decode cX8_box 51 = .ok (.getfield 154, 3) := by decide +kernel
theorem dX8_box_54 : decode cX8_box 54 = .ok (.imul, 1) := by decide +kernel
theorem dX8_box_55 : decode cX8_box 55 = .ok (.bipush 6, 2) := by decide +kernel
theorem dX8_box_57 : decode cX8_box 57 = .ok (.iload_n 2, 1) := by decide +kernel
theorem dX8_box_58 : decode cX8_box 58 = .ok (.imul, 1) := by decide +kernel
theorem dX8_box_59 : decode cX8_box 59 = .ok (.iadd, 1) := by decide +kernel
theorem dX8_box_60 : decode cX8_box 60 = .ok (.iconst 5, 1) := by decide +kernel
theorem dX8_box_61 : decode cX8_box 61 = .ok (.iadd, 1) := by decide +kernel
theorem dX8_box_62 : decode cX8_box 62 = .ok (.lconst 1, 1) := by decide +kernel
theorem dX8_box_63 : decode cX8_box 63 = .ok (.lastore, 1) := by decide +kernel
theorem dX8_box_64 : decode cX8_box 64 = .ok (.iinc 2 1, 3) := by decide +kernel
theorem dX8_box_67 : decode cX8_box 67 = .ok (.goto (-29), 3) := by decide +kernel
theorem dX8_box_70 : decode cX8_box 70 = .ok (.aload_n 0, 1) := by decide +kernel
theorem dX8_box_71 : decode cX8_box 71 = .ok (.dup, 1) := by decide +kernel
theorem dX8_box_72 : decode cX8_box 72 = .ok (.getfield 154, 3) := by decide +kernel
theorem dX8_box_75 : decode cX8_box 75 = .ok (.iconst 1, 1) := by decide +kernel
theorem dX8_box_76 : decode cX8_box 76 = .ok (.iadd, 1) := by decide +kernel
theorem dX8_box_77 : decode cX8_box 77 = .ok (.putfield 154, 3) := by decide +kernel
theorem dX8_box_80 : decode cX8_box 80 = .ok (.aload_n 0, 1) := by decide +kernel
theorem dX8_box_81 : decode cX8_box 81 = .ok (.getfield 154, 3) := by decide +kernel
theorem dX8_box_84 : decode cX8_box 84 = .ok (.iconst 1, 1) := by decide +kernel
theorem dX8_box_85 : decode cX8_box 85 = .ok (.isub, 1) := by decide +kernel
theorem dX8_box_86 : decode cX8_box 86 = .ok (.ireturn, 1) := by decide +kernel
set_option maxHeartbeats 4000000 in
theorem q_box (l : Launch) {D : va_G} {ids : Nat → ClassId} {β : Nat} {sh : Nat → Nat × Nat} {N : Nat} {R : Nat → Nat → Option Nat} {F : Nat → Nat → Int} {A : Nat → Int → Int} {S : SP} (hM : MoL sh R N) (hR0 : RepM S F A) {p0 : Int} (hp : I32 p0) : MetX l yX8_box cX8_box 3 (some (.int)) 1 25 D ids β sh N R F A [rf 0, pI p0] (pIr (MO (oBox S p0))) := by
  refine MetX.of (loc := [_, _, _]) (plainFor_of_name (by decide +kernel)) (Nat.le_of_ble_eq_true rfl) rfl ?_
  intro p e s m args below meth c hC hK hr hlk
  obtain ⟨⟨m0, m1⟩, ⟨rx0, r2, r3, r7, r8, r9, r11, r12, r13, r16, r18⟩, ⟨m2, m3⟩, ⟨m4, m5⟩, ⟨m6, m7⟩, ⟨m8, m9⟩, ⟨m10, m11⟩, ⟨m12, m13⟩, ⟨m14, m15⟩, ⟨m16, m17⟩, ⟨m18, m19⟩, ⟨m20, m21⟩, ⟨m22, m23⟩⟩ := id hM
  obtain ⟨hi, b1, b2, b3, b4, b5, b6, b7, b8⟩ := id hR0
  have i1 := hi.1
  have loop : nbS S < 16 → (p0 = 1 ∨ p0 = 2) → ∀ (d k : Nat) (A1 : Nat → Int → Int), 16 - (k : Int) < d → k ≤ 16 → A1 1 = uA A 1 (F 0 1) p0 1 → A1 3 = A 3 → (∀ n : Int, 0 ≤ n → n < k → A1 2 (96 * nbS S + 6 * n + 5) = 1) → (∀ j : Int, (∀ n : Int, 0 ≤ n → n < 16 → j ≠ 96 * nbS S + 6 * n + 5) → A1 2 j = A 2 j) → X p l e { frames := 1, cells := 0, slots := 0, locals := 25 } s m args below meth c (MQ below (QX D ids β sh N R (pIr (MO (oBox S p0)))) args s 0 0 (inG β N)) (inG β N) D ids β sh 3 0 0 N R F A1 [some (rf 0), some (pI p0), some (pI (k : Int))] [] 38 := by
    intro hn hp2 d
    induction d with
    | zero => intro k A1 hd; omega
    | succ d ih =>
      intro k A1 hd hk a1 a3 a2 ao
      refine x_iload_n (pc2 := 39) hC rfl rfl dX8_box_38 rfl ?_
      refine x_bipush (pc2 := 41) hC rfl dX8_box_39 rfl ?_
      refine x_icmp_ge (tgt := 70) (pc2 := 44) hC (by omega) (by omega) dX8_box_41 rfl rfl (fun h_41 => ?_) (fun h_41 => ?_)
      · refine x_aload_n (pc2 := 71) hC rfl rfl dX8_box_70 rfl ?_
        refine x_dupR (pc2 := 72) hC dX8_box_71 rfl ?_
        refine g_810 (pc2 := 75) hC hK (by assumption) (by assumption) dX8_box_72 rfl ?_
        refine x_iconst (pc2 := 76) hC dX8_box_75 rfl ?_
        refine x_iadd (pc2 := 77) hC dX8_box_76 rfl ?_
        refine p_810 (pc2 := 80) hC hK (by assumption) (by assumption) dX8_box_77 rfl ?_
        refine x_aload_n (pc2 := 81) hC rfl rfl dX8_box_80 rfl ?_
        refine g_810 (pc2 := 84) hC hK (by assumption) (by assumption) dX8_box_81 rfl ?_
        refine x_iconst (pc2 := 85) hC dX8_box_84 rfl ?_
        refine x_isub (pc2 := 86) hC dX8_box_85 rfl ?_
        exact x_iret hC hr hlk ⟨_, rfl, MO.of (by rw [oBox, itO_pos hp2, itO_neg (by omega)]; refine Prod.ext ?_ rfl; show nbS S = uF F 0 1 (F 0 1 + 1) 0 1 - 1; rw [uF_eq]; omega) (hR0.add hp2 hn uF_eq (fun j hj => uF_nj hj) a1 a3 (fun n n0 n1 => a2 n n0 (by omega)) ao)⟩ dX8_box_86
      · refine x_aload_n (pc2 := 45) hC rfl rfl dX8_box_44 rfl ?_
        refine g_811 (pc2 := 48) hC hK (by assumption) (by assumption) (by assumption) dX8_box_45 rfl ?_
        refine x_bipush (pc2 := 50) hC rfl dX8_box_48 rfl ?_
        refine x_aload_n (pc2 := 51) hC rfl rfl dX8_box_50 rfl ?_
        refine g_810 (pc2 := 54) hC hK (by assumption) (by assumption) dX8_box_51 rfl ?_
        refine x_imul (pc2 := 55) hC dX8_box_54 rfl ?_
        refine x_bipush (pc2 := 57) hC rfl dX8_box_55 rfl ?_
        refine x_iload_n (pc2 := 58) hC rfl rfl dX8_box_57 rfl ?_
        refine x_imul (pc2 := 59) hC dX8_box_58 rfl ?_
        refine x_iadd (pc2 := 60) hC dX8_box_59 rfl ?_
        refine x_iconst (pc2 := 61) hC dX8_box_60 rfl ?_
        refine x_iadd (pc2 := 62) hC dX8_box_61 rfl ?_
        refine x_lconst1 (pc2 := 63) hC dX8_box_62 rfl ?_
        refine x_last (pc2 := 64) hC hK (by assumption) (by assumption) (by omega) (by decide) dX8_box_63 rfl ?_
        refine x_iinc (pc2 := 67) (loc2 := [_, _, _]) hC (by decide) rfl rfl dX8_box_64 rfl ?_
        refine x_goto (pc2 := 38) hC dX8_box_67 rfl ?_
        refine ih (k + 1) _ (by omega) (by omega) (by rw [uA_ne (by decide)]; exact a1) (by rw [uA_ne (by decide)]; exact a3) (fun n n0 n1 => ?_) (fun j hj => ?_)
        · rw [uA_at]
          split
          · rfl
          · exact a2 n n0 (by omega)
        · rw [uA_ni (by rw [b1]; exact hj k (by omega) (by omega))]
          exact ao j hj
  refine x_iload_n (pc2 := 1) hC rfl rfl dX8_box_0 rfl ?_
  refine x_i2l (pc2 := 2) hC hp dX8_box_1 rfl ?_
  refine x_lconst1 (pc2 := 3) hC dX8_box_2 rfl ?_
  refine x_ldc2 (pc2 := 6) (z := 2) hC wt_872 rfl dX8_box_3 rfl ?_
  refine x_cSi (pc2 := 9) hC hK (n_in l ⟨by omega, by omega⟩ ⟨by omega, by omega⟩ ⟨by omega, by omega⟩) lk_873 rfl ⟨Nat.le_of_ble_eq_true rfl, Nat.le_of_ble_eq_true rfl⟩ ⟨Nat.le_refl _, Nat.le_refl _⟩ rfl (Nat.le_of_ble_eq_true rfl) dX8_box_6 rfl ?_
  rintro z6 F6 A6 ⟨w6, b6_, e16, e26⟩
  obtain rfl := e16.symm
  obtain rfl := e26.symm
  refine x_if_ne (tgt := 14) (pc2 := 12) hC (by omega) dX8_box_9 rfl rfl (fun h_9 => ?_) (fun h_9 => ?_)
  · refine x_aload_n (pc2 := 15) hC rfl rfl dX8_box_14 rfl ?_
    refine g_810 (pc2 := 18) hC hK (by assumption) (by assumption) dX8_box_15 rfl ?_
    refine x_bipush (pc2 := 20) hC rfl dX8_box_18 rfl ?_
    refine x_icmp_ne (tgt := 26) (pc2 := 23) hC (by omega) (by omega) dX8_box_20 rfl rfl (fun h_20 => ?_) (fun h_20 => ?_)
    · refine x_aload_n (pc2 := 27) hC rfl rfl dX8_box_26 rfl ?_
      refine g_809 (pc2 := 30) hC hK (by assumption) (by assumption) (by assumption) dX8_box_27 rfl ?_
      refine x_aload_n (pc2 := 31) hC rfl rfl dX8_box_30 rfl ?_
      refine g_810 (pc2 := 34) hC hK (by assumption) (by assumption) dX8_box_31 rfl ?_
      refine x_iload_n (pc2 := 35) hC rfl rfl dX8_box_34 rfl ?_
      refine x_iast (pc2 := 36) hC hK (by assumption) (by assumption) (by omega) (by decide) dX8_box_35 rfl ?_
      refine x_iconst (pc2 := 37) hC dX8_box_36 rfl ?_
      refine x_istore_n (pc2 := 38) (loc2 := [_, _, _]) hC rfl (by decide) rfl dX8_box_37 rfl ?_
      exact loop (by omega) (by have := (b6_ ()).mp h_9; omega) 17 0 _ (by decide) (by decide) rfl (by rw [uA_ne (by decide)]) (fun n a b => by omega) (fun j _ => by rw [uA_ne (by decide)])
    · refine x_bipush (pc2 := 25) hC rfl dX8_box_23 rfl ?_
      exact x_iret hC hr hlk ⟨_, rfl, MO.of (by rw [oBox, itO_pos (by have := (b6_ ()).mp h_9; omega), itO_pos (by omega)]) hR0⟩ dX8_box_25
  · refine x_iconst (pc2 := 13) hC dX8_box_12 rfl ?_
    exact x_iret hC hr hlk ⟨_, rfl, MO.of (by rw [oBox, itO_neg (fun q => absurd h_9 ((b6_ ()).mpr (by omega)))]) hR0⟩ dX8_box_13
theorem dX8_sets_0 : decode cX8_sets 0 = .ok (.aload_n 0, 1) := by decide +kernel
theorem dX8_sets_1 : decode cX8_sets 1 = .ok (.iload_n 1, 1) := by decide +kernel
theorem dX8_sets_2 : decode cX8_sets 2 = .ok (.invokevirtual 170, 3) := by decide +kernel
theorem dX8_sets_5 : decode cX8_sets 5 = .ok (.iload_n 2, 1) := by decide +kernel
theorem dX8_sets_6 : decode cX8_sets 6 = .ok (.istore 9, 2) := by decide +kernel
theorem dX8_sets_8 : decode cX8_sets 8 = .ok (.iload 9, 2) := by decide +kernel
theorem dX8_sets_10 : decode cX8_sets 10 = .ok (.iload_n 3, 1) := by decide +kernel
theorem dX8_sets_11 : decode cX8_sets 11 = .ok (.if_icmp .gt 49, 3) := by decide +kernel
theorem dX8_sets_14 : decode cX8_sets 14 = .ok (.aload_n 0, 1) := by decide +kernel
theorem dX8_sets_15 : decode cX8_sets 15 = .ok (.iconst 0, 1) := by decide +kernel
theorem dX8_sets_16 : decode cX8_sets 16 = .ok (.putfield 52, 3) := by decide +kernel
theorem dX8_sets_19 : decode cX8_sets 19 = .ok (.aload_n 0, 1) := by decide +kernel
theorem dX8_sets_20 : decode cX8_sets 20 = .ok (.iload 9, 2) := by decide +kernel
theorem dX8_sets_22 : decode cX8_sets 22 = .ok (.iload 4, 2) := by decide +kernel
theorem dX8_sets_24 : decode cX8_sets 24 = .ok (.iload 5, 2) := by decide +kernel
theorem dX8_sets_26 : decode cX8_sets 26 = .ok (.aload_n 0, 1) := by decide +kernel
theorem dX8_sets_27 : decode cX8_sets 27 = .ok (.aload_n 0, 1) := by decide +kernel
theorem dX8_sets_28 : decode cX8_sets 28 = .ok (.iload 6, 2) := by decide +kernel
theorem dX8_sets_30 : decode cX8_sets 30 = .ok (.i2l, 1) := by decide +kernel
theorem dX8_sets_31 : decode cX8_sets 31 = .ok (.invokevirtual 89, 3) := by decide +kernel
theorem dX8_sets_34 : decode cX8_sets 34 = .ok (.aload_n 0, 1) := by decide +kernel
theorem dX8_sets_35 : decode cX8_sets 35 = .ok (.iload 7, 2) := by decide +kernel
theorem dX8_sets_37 : decode cX8_sets 37 = .ok (.i2l, 1) := by decide +kernel
theorem dX8_sets_38 : decode cX8_sets 38 = .ok (.invokevirtual 89, 3) := by decide +kernel
theorem dX8_sets_41 : decode cX8_sets 41 = .ok (.aload_n 0, 1) := by decide +kernel
theorem dX8_sets_42 : decode cX8_sets 42 = .ok (.iload 8, 2) := by decide +kernel
theorem dX8_sets_44 : decode cX8_sets 44 = .ok (.i2l, 1) := by decide +kernel
theorem dX8_sets_45 : decode cX8_sets 45 = .ok (.invokevirtual 89, 3) := by decide +kernel
theorem dX8_sets_48 : decode cX8_sets 48 = .ok (.invokevirtual 103, 3) := by decide +kernel
theorem dX8_sets_51 : decode cX8_sets 51 = .ok (.invokevirtual 173, 3) := by decide +kernel
theorem dX8_sets_54 : decode cX8_sets 54 = .ok (.iinc 9 1, 3) := by decide +kernel
theorem dX8_sets_57 : decode cX8_sets 57 = .ok (.goto (-49), 3) := by decide +kernel
theorem dX8_sets_60 : decode cX8_sets 60 = .ok (.aload_n 0, 1) := by decide +kernel
theorem dX8_sets_61 : decode cX8_sets 61 = .ok (.iload_n 1, 1) := by decide +kernel
theorem dX8_sets_62 : decode cX8_sets 62 = .ok (.invokevirtual 177, 3) := by decide +kernel
theorem dX8_sets_65 : decode cX8_sets 65 = .ok (.ireturn, 1) := by decide +kernel
set_option maxHeartbeats 8000000 in
theorem q_sets (l : Launch) {D : va_G} {ids : Nat → ClassId} {β : Nat} {sh : Nat → Nat × Nat} {N : Nat} {R : Nat → Nat → Option Nat} {F : Nat → Nat → Int} {A : Nat → Int → Int} {S : SP} (hM : MoL sh R N) (hR0 : RepM S F A) {b fr to i j p0 q0 r0 : Int} {w : BX} (hE : isE S b i j) (hG : given p0 q0 r0) (hft : 0 ≤ fr ∧ to ≤ 3) (hft2 : fr ≤ to) (hwd : ∀ t e, isT t → isT e → w t e = if (fr ≤ t ∧ t ≤ to) ∧ e = 2 * i + j then g3 p0 q0 r0 else vS S b t e) : MetX l yX8_sets cX8_sets 10 (some (.int)) 4 118 D ids β sh N R F A [rf 0, pI b, pI fr, pI to, pI i, pI j, pI p0, pI q0, pI r0] (pIr (fun z F2 A2 => z = 0 ∧ RepM (actS S b w) F2 A2)) := by
  refine MetX.of (loc := [_, _, _, _, _, _, _, _, _, _]) (plainFor_of_name (by decide +kernel)) (Nat.le_of_ble_eq_true rfl) rfl ?_
  intro p e s m args below meth c hC hK hr hlk
  obtain ⟨⟨m0, m1⟩, ⟨rx0, r2, r3, r7, r8, r9, r11, r12, r13, r16, r18⟩, ⟨m2, m3⟩, ⟨m4, m5⟩, ⟨m6, m7⟩, ⟨m8, m9⟩, ⟨m10, m11⟩, ⟨m12, m13⟩, ⟨m14, m15⟩, ⟨m16, m17⟩, ⟨m18, m19⟩, ⟨m20, m21⟩, ⟨m22, m23⟩⟩ := id hM
  obtain ⟨hi, b1, b2, b3, b4, b5, b6, b7, b8⟩ := id hR0
  have i1 := hi.1
  have pt2 := (hi.2.1 b hE.1).1
  have he4 : isT (2 * i + j) := by have := hE.2; omega
  have gok : ok3 (g3 p0 q0 r0) := g3_ok (by omega) (by omega) (by omega)
  have hb16 := hE.1.2
  have loop : ∀ (d : Nat) (k : Int) (F1 : Nat → Nat → Int) (A1 : Nat → Int → Int), to + 1 - k < d → fr ≤ k → k ≤ to + 1 → RepM S F1 A1 → F1 0 17 = 0 → (∀ t e, isT t → isT e → held (A1 10) (24 * t + 6 * e) (if (fr ≤ t ∧ t < k) ∧ e = 2 * i + j then g3 p0 q0 r0 else vS S b t e)) → X p l e { frames := 4, cells := 0, slots := 0, locals := 118 } s m args below meth c (MQ below (QX D ids β sh N R (pIr (fun z F2 A2 => z = 0 ∧ RepM (actS S b w) F2 A2))) args s 0 0 (inG β N)) (inG β N) D ids β sh 10 0 0 N R F1 A1 [some (rf 0), some (pI b), some (pI fr), some (pI to), some (pI i), some (pI j), some (pI p0), some (pI q0), some (pI r0), some (pI k)] [] 8 := by
    intro d
    induction d with
    | zero => intro k F1 A1 hd; omega
    | succ d ih =>
      intro k F1 A1 hd k0 k1 hR1 h17 hmd
      refine x_iload (pc2 := 10) hC rfl dX8_sets_8 rfl ?_
      refine x_iload_n (pc2 := 11) hC rfl rfl dX8_sets_10 rfl ?_
      refine x_icmp_gt (tgt := 60) (pc2 := 14) hC (by omega) (by omega) dX8_sets_11 rfl rfl (fun h_11 => ?_) (fun h_11 => ?_)
      · have hwf : wfB (ptS S b) w := by
          intro t e ht he
          rw [hwd t e ht he]
          have old := (hi.2.1 b hE.1).2 t e ht he
          split
          · rename_i qq
            refine ⟨gok, fun p1 p2 => ?_⟩
            have := hE.2
            omega
          · exact old
        have hmw : ∀ t e, isT t → isT e → held (A1 10) (24 * t + 6 * e) (w t e) := fun t e ht he => by
          rw [hwd t e ht he]
          have old := hmd t e ht he
          have eq : ((fr ≤ t ∧ t < k) ∧ e = 2 * i + j) ↔ ((fr ≤ t ∧ t ≤ to) ∧ e = 2 * i + j) := ⟨fun z => ⟨by omega, z.2⟩, fun z => ⟨by omega, z.2⟩⟩
          simp only [eq] at old
          exact old
        refine x_aload_n (pc2 := 61) hC rfl rfl dX8_sets_60 rfl ?_
        refine x_iload_n (pc2 := 62) hC rfl rfl dX8_sets_61 rfl ?_
        refine x_cVi (pc2 := 65) (ci := 8) hC hK (q_ends l hM hR1 hE.1 hwf (Or.inl h17) (fun _ => hmw)) lk_957 rfl rfl (by decide) (by assumption) (by assumption) ⟨Nat.le_of_ble_eq_true rfl, Nat.le_of_ble_eq_true rfl⟩ ⟨Nat.le_refl _, Nat.le_refl _⟩ rfl (Nat.le_of_ble_eq_true rfl) dX8_sets_62 rfl ?_
        rintro z62 F62 A62 hq
        have hq2 := hq.resolve_left (fun q => by have := q.1; omega)
        exact x_iret hC hr hlk ⟨_, rfl, hq2.2.1, hq2.2.2⟩ dX8_sets_65
      · refine x_aload_n (pc2 := 15) hC rfl rfl dX8_sets_14 rfl ?_
        refine x_iconst (pc2 := 16) hC dX8_sets_15 rfl ?_
        refine p_819 (pc2 := 19) hC hK (by assumption) (by assumption) dX8_sets_16 rfl ?_
        refine x_aload_n (pc2 := 20) hC rfl rfl dX8_sets_19 rfl ?_
        refine x_iload (pc2 := 22) hC rfl dX8_sets_20 rfl ?_
        refine x_iload (pc2 := 24) hC rfl dX8_sets_22 rfl ?_
        refine x_iload (pc2 := 26) hC rfl dX8_sets_24 rfl ?_
        refine x_aload_n (pc2 := 27) hC rfl rfl dX8_sets_26 rfl ?_
        refine x_aload_n (pc2 := 28) hC rfl rfl dX8_sets_27 rfl ?_
        refine x_iload (pc2 := 30) hC rfl dX8_sets_28 rfl ?_
        refine x_i2l (pc2 := 31) hC (by omega) dX8_sets_30 rfl ?_
        refine x_cVi (pc2 := 34) (ci := 8) hC hK (n_of l hM (St.zero (F := F1) (A := A1)) (by decide) (v := p0) ⟨by omega, by omega⟩) lk_902 rfl rfl (by decide) (by assumption) (by assumption) ⟨Nat.le_of_ble_eq_true rfl, Nat.le_of_ble_eq_true rfl⟩ ⟨Nat.le_refl _, Nat.le_refl _⟩ rfl (Nat.le_of_ble_eq_true rfl) dX8_sets_31 rfl ?_
        rintro z31 F31 A31 ⟨e31, V1, hS1, v1, k1, g1⟩
        obtain rfl := e31.symm
        refine x_aload_n (pc2 := 35) hC rfl rfl dX8_sets_34 rfl ?_
        refine x_iload (pc2 := 37) hC rfl dX8_sets_35 rfl ?_
        refine x_i2l (pc2 := 38) hC (by omega) dX8_sets_37 rfl ?_
        refine x_cVi (pc2 := 41) (ci := 8) hC hK (n_of l hM hS1 (by decide) (v := q0) ⟨by omega, by omega⟩) lk_902 rfl rfl (by decide) (by assumption) (by assumption) ⟨Nat.le_of_ble_eq_true rfl, Nat.le_of_ble_eq_true rfl⟩ ⟨Nat.le_refl _, Nat.le_refl _⟩ rfl (Nat.le_of_ble_eq_true rfl) dX8_sets_38 rfl ?_
        rintro z38 F38 A38 ⟨e38, V2, hS2, v2, k2, g2⟩
        obtain rfl := e38.symm
        refine x_aload_n (pc2 := 42) hC rfl rfl dX8_sets_41 rfl ?_
        refine x_iload (pc2 := 44) hC rfl dX8_sets_42 rfl ?_
        refine x_i2l (pc2 := 45) hC (by omega) dX8_sets_44 rfl ?_
        refine x_cVi (pc2 := 48) (ci := 8) hC hK (n_of l hM hS2 (by decide) (v := r0) ⟨by omega, by omega⟩) lk_902 rfl rfl (by decide) (by assumption) (by assumption) ⟨Nat.le_of_ble_eq_true rfl, Nat.le_of_ble_eq_true rfl⟩ ⟨Nat.le_refl _, Nat.le_refl _⟩ rfl (Nat.le_of_ble_eq_true rfl) dX8_sets_45 rfl ?_
        rintro z45 F45 A45 ⟨e45, V3, hS3, v3, k3, g3x⟩
        obtain rfl := e45.symm
        refine x_cVi (pc2 := 51) (ci := 8) hC hK (n_triple l hM hS3 (by decide) (x := 0) (y := 0 + 1) (w := 0 + 1 + 1) ⟨by decide, by decide⟩ ⟨by decide, by decide⟩ ⟨by decide, by decide⟩) lk_911 rfl rfl (by decide) (by assumption) (by assumption) ⟨Nat.le_of_ble_eq_true rfl, Nat.le_of_ble_eq_true rfl⟩ ⟨Nat.le_refl _, Nat.le_refl _⟩ rfl (Nat.le_of_ble_eq_true rfl) dX8_sets_48 rfl ?_
        rintro z48 F48 A48 ⟨e48, V4, hS4, ⟨va, vb, vc⟩, k4, g4⟩
        obtain rfl := e48.symm
        have tv : tr V4 (0 + 1 + 1 + 1) = (p0, q0, r0) := by
          refine Prod.ext ?_ (Prod.ext ?_ ?_)
          · show V4 (0 + 1 + 1 + 1) = p0
            rw [va, k3 0 (by decide), k2 0 (by decide), v1]
          · show V4 (0 + 1 + 1 + 1 + 1) = q0
            rw [vb, k3 (0 + 1) (by decide), v2]
          · show V4 (0 + 1 + 1 + 1 + 2) = r0
            rw [vc, v3]
        have gg := ((g1.tr g2).tr g3x).tr g4
        have e17 : F48 0 17 = 0 := (gg.2.1 17 (by decide) (by decide) (by decide)).trans (by rw [uF_nj (by decide)]; exact h17)
        have e10 : A48 10 = A1 10 := gg.a (by decide)
        refine x_cVv (pc2 := 54) (ci := 8) hC hK (n_makes l hM hS4 (by decide) (show isT k by omega) he4 (by decide) tv (show 0 < r0 by omega) (Or.inl e17)) lk_919 rfl rfl (by decide) (by assumption) (by assumption) ⟨Nat.le_of_ble_eq_true rfl, Nat.le_of_ble_eq_true rfl⟩ ⟨Nat.le_refl _, Nat.le_refl _⟩ rfl (Nat.le_of_ble_eq_true rfl) dX8_sets_51 rfl ?_
        rintro F51 A51 ⟨-, m2, m3, m4, m5⟩
        have hlow : low (q3 (p0, q0, r0)) = g3 p0 q0 r0 := rfl
        rw [hlow] at m3
        have m3b := m3.resolve_right (fun q => q.1 gok.2.2)
        refine x_iinc (pc2 := 57) (loc2 := [_, _, _, _, _, _, _, _, _, _]) hC (by decide) rfl rfl dX8_sets_54 rfl ?_
        refine x_goto (pc2 := 8) hC dX8_sets_57 rfl ?_
        refine ih (k + 1) _ _ (by omega) (by omega) (by omega) (hR1.K ((((FrK.f (by decide)).tr gg.K)).tr m5)) (m3b.2.1.trans e17) (fun t e ht he => ?_)
        by_cases q : t = k ∧ e = 2 * i + j
        · rw [if_pos ⟨by omega, q.2⟩, q.1, q.2]; exact m3b.2.2
        · have old := hmd t e ht he
          have eq : ((fr ≤ t ∧ t < k) ∧ e = 2 * i + j) ↔ ((fr ≤ t ∧ t < k + 1) ∧ e = 2 * i + j) := ⟨fun z => ⟨by omega, z.2⟩, fun z => ⟨by omega, z.2⟩⟩
          simp only [eq] at old
          refine held_of old (fun u u0 u1 => ?_)
          rw [m4 _ (by omega), e10]
  refine x_aload_n (pc2 := 1) hC rfl rfl dX8_sets_0 rfl ?_
  refine x_iload_n (pc2 := 2) hC rfl rfl dX8_sets_1 rfl ?_
  refine x_cVv (pc2 := 5) (ci := 8) hC hK (n_takes l hM ⟨hE.1.1, by omega⟩) lk_898 rfl rfl (by decide) (by assumption) (by assumption) ⟨Nat.le_of_ble_eq_true rfl, Nat.le_of_ble_eq_true rfl⟩ ⟨Nat.le_refl _, Nat.le_refl _⟩ rfl (Nat.le_of_ble_eq_true rfl) dX8_sets_2 rfl ?_
  rintro F2 A2 ⟨e12, e22⟩
  have hRt : RepM S F2 A2 := by rw [e12, e22]; exact hR0.of (fun j hj => uF_nj (by omega)) (fun b hb => cpA_ne (by omega))
  have h17t : F2 0 17 = 0 := by rw [e12, uF_eq]
  have hmt : ∀ t e, isT t → isT e → held (A2 10) (24 * t + 6 * e) (vS S b t e) := fun t e ht he => by
    refine held_of (b6 b t e hE.1 ht he) (fun u u0 u1 => ?_)
    rw [e22, cpA_in (by omega)]
    congr 1
    omega
  refine x_iload_n (pc2 := 6) hC rfl rfl dX8_sets_5 rfl ?_
  refine x_istore (pc2 := 8) (loc2 := [_, _, _, _, _, _, _, _, _, _]) hC (by decide) rfl dX8_sets_6 rfl ?_
  refine loop 5 fr F2 A2 (by omega) (by omega) (by omega) hRt h17t (fun t e ht he => ?_)
  rw [if_neg (by omega)]; exact hmt t e ht he
theorem dX8_set_0 : decode cX8_set 0 = .ok (.aload_n 0, 1) := by decide +kernel
theorem dX8_set_1 : decode cX8_set 1 = .ok (.iload_n 1, 1) := by decide +kernel
theorem dX8_set_2 : decode cX8_set 2 = .ok (.iload_n 3, 1) := by decide +kernel
theorem dX8_set_3 : decode cX8_set 3 = .ok (.iload 4, 2) := by decide +kernel
theorem dX8_set_5 : decode cX8_set 5 = .ok (.invokevirtual 180, 3) := by decide +kernel
theorem dX8_set_8 : decode cX8_set 8 = .ok (.ifCond .eq 27, 3) := by decide +kernel
theorem dX8_set_11 : decode cX8_set 11 = .ok (.iload_n 2, 1) := by decide +kernel
theorem dX8_set_12 : decode cX8_set 12 = .ok (.i2l, 1) := by decide +kernel
theorem dX8_set_13 : decode cX8_set 13 = .ok (.lconst 0, 1) := by decide +kernel
theorem dX8_set_14 : decode cX8_set 14 = .ok (.ldc2_w 184, 3) := by decide +kernel
theorem dX8_set_17 : decode cX8_set 17 = .ok (.invokestatic 157, 3) := by decide +kernel
theorem dX8_set_20 : decode cX8_set 20 = .ok (.ifCond .eq 15, 3) := by decide +kernel
theorem dX8_set_23 : decode cX8_set 23 = .ok (.iload 5, 2) := by decide +kernel
theorem dX8_set_25 : decode cX8_set 25 = .ok (.iload 6, 2) := by decide +kernel
theorem dX8_set_27 : decode cX8_set 27 = .ok (.iload 7, 2) := by decide +kernel
theorem dX8_set_29 : decode cX8_set 29 = .ok (.invokestatic 186, 3) := by decide +kernel
theorem dX8_set_32 : decode cX8_set 32 = .ok (.ifCond .ne 5, 3) := by decide +kernel
theorem dX8_set_35 : decode cX8_set 35 = .ok (.iconst (-1), 1) := by decide +kernel
theorem dX8_set_36 : decode cX8_set 36 = .ok (.ireturn, 1) := by decide +kernel
theorem dX8_set_37 : decode cX8_set 37 = .ok (.aload_n 0, 1) := by decide +kernel
theorem dX8_set_38 : decode cX8_set 38 = .ok (.iload_n 1, 1) := by decide +kernel
theorem dX8_set_39 : decode cX8_set 39 = .ok (.iload_n 2, 1) := by decide +kernel
theorem dX8_set_40 : decode cX8_set 40 = .ok (.iload_n 2, 1) := by decide +kernel
theorem dX8_set_41 : decode cX8_set 41 = .ok (.iload_n 3, 1) := by decide +kernel
theorem dX8_set_42 : decode cX8_set 42 = .ok (.iload 4, 2) := by decide +kernel
theorem dX8_set_44 : decode cX8_set 44 = .ok (.iload 5, 2) := by decide +kernel
theorem dX8_set_46 : decode cX8_set 46 = .ok (.iload 6, 2) := by decide +kernel
theorem dX8_set_48 : decode cX8_set 48 = .ok (.iload 7, 2) := by decide +kernel
theorem dX8_set_50 : decode cX8_set 50 = .ok (.invokevirtual 189, 3) := by decide +kernel
theorem dX8_set_53 : decode cX8_set 53 = .ok (.ireturn, 1) := by decide +kernel
set_option maxHeartbeats 4000000 in
theorem q_set (l : Launch) {D : va_G} {ids : Nat → ClassId} {β : Nat} {sh : Nat → Nat × Nat} {N : Nat} {R : Nat → Nat → Option Nat} {F : Nat → Nat → Int} {A : Nat → Int → Int} {S : SP} (hM : MoL sh R N) (hR0 : RepM S F A) {b t i j p0 q0 r0 : Int} (hb : I32 b) (ht : I32 t) (hi2 : I32 i) (hj : I32 j) (hp0 : I32 p0) (hq0 : I32 q0) (hr0 : I32 r0) : MetX l yX8_set cX8_set 8 (some (.int)) 5 147 D ids β sh N R F A [rf 0, pI b, pI t, pI i, pI j, pI p0, pI q0, pI r0] (pIr (MO (oSet S b t i j p0 q0 r0))) := by
  refine MetX.of (loc := [_, _, _, _, _, _, _, _]) (plainFor_of_name (by decide +kernel)) (Nat.le_of_ble_eq_true rfl) rfl ?_
  intro p e s m args below meth c hC hK hr hlk
  obtain ⟨⟨m0, m1⟩, ⟨rx0, r2, r3, r7, r8, r9, r11, r12, r13, r16, r18⟩, ⟨m2, m3⟩, ⟨m4, m5⟩, ⟨m6, m7⟩, ⟨m8, m9⟩, ⟨m10, m11⟩, ⟨m12, m13⟩, ⟨m14, m15⟩, ⟨m16, m17⟩, ⟨m18, m19⟩, ⟨m20, m21⟩, ⟨m22, m23⟩⟩ := id hM
  obtain ⟨hi, b1, b2, b3, b4, b5, b6, b7, b8⟩ := id hR0
  have i1 := hi.1
  refine x_aload_n (pc2 := 1) hC rfl rfl dX8_set_0 rfl ?_
  refine x_iload_n (pc2 := 2) hC rfl rfl dX8_set_1 rfl ?_
  refine x_iload_n (pc2 := 3) hC rfl rfl dX8_set_2 rfl ?_
  refine x_iload (pc2 := 5) hC rfl dX8_set_3 rfl ?_
  refine x_cVi (pc2 := 8) (ci := 8) hC hK (q_isPlace l hM hR0 hb hi2 hj) lk_880 rfl rfl (by decide) (by assumption) (by assumption) ⟨Nat.le_of_ble_eq_true rfl, Nat.le_of_ble_eq_true rfl⟩ ⟨Nat.le_refl _, Nat.le_refl _⟩ rfl (Nat.le_of_ble_eq_true rfl) dX8_set_5 rfl ?_
  rintro z5 F5 A5 ⟨w5, b5_, e15, e25⟩
  obtain rfl := e15.symm
  obtain rfl := e25.symm
  refine x_if_eq (tgt := 35) (pc2 := 11) hC (by omega) dX8_set_8 rfl rfl (fun h_8 => ?_) (fun h_8 => ?_)
  · refine x_iconst (pc2 := 36) hC dX8_set_35 rfl ?_
    exact x_iret hC hr hlk ⟨_, rfl, MO.of (by rw [oSet, itO_neg (fun ⟨q1, q2, q3⟩ => by first | exact absurd h_8 ((b5_ ()).mpr q2) | exact absurd h_20 ((b17 ()).mpr (by omega)) | exact absurd h_32 ((b29 ()).mpr q3))]) hR0⟩ dX8_set_36
  · refine x_iload_n (pc2 := 12) hC rfl rfl dX8_set_11 rfl ?_
    refine x_i2l (pc2 := 13) hC ht dX8_set_12 rfl ?_
    refine x_lconst0 (pc2 := 14) hC dX8_set_13 rfl ?_
    refine x_ldc2 (pc2 := 17) (z := 3) hC wt_888 rfl dX8_set_14 rfl ?_
    refine x_cSi (pc2 := 20) hC hK (n_in l ⟨by omega, by omega⟩ ⟨by omega, by omega⟩ ⟨by omega, by omega⟩) lk_873 rfl ⟨Nat.le_of_ble_eq_true rfl, Nat.le_of_ble_eq_true rfl⟩ ⟨Nat.le_refl _, Nat.le_refl _⟩ rfl (Nat.le_of_ble_eq_true rfl) dX8_set_17 rfl ?_
    rintro z17 F17 A17 ⟨w17, b17, e117, e217⟩
    obtain rfl := e117.symm
    obtain rfl := e217.symm
    refine x_if_eq (tgt := 35) (pc2 := 23) hC (by omega) dX8_set_20 rfl rfl (fun h_20 => ?_) (fun h_20 => ?_)
    · refine x_iconst (pc2 := 36) hC dX8_set_35 rfl ?_
      exact x_iret hC hr hlk ⟨_, rfl, MO.of (by rw [oSet, itO_neg (fun ⟨q1, q2, q3⟩ => by first | exact absurd h_8 ((b5_ ()).mpr q2) | exact absurd h_20 ((b17 ()).mpr (by omega)) | exact absurd h_32 ((b29 ()).mpr q3))]) hR0⟩ dX8_set_36
    · refine x_iload (pc2 := 25) hC rfl dX8_set_23 rfl ?_
      refine x_iload (pc2 := 27) hC rfl dX8_set_25 rfl ?_
      refine x_iload (pc2 := 29) hC rfl dX8_set_27 rfl ?_
      refine x_cSi (pc2 := 32) hC hK (q_given l hp0 hq0 hr0) lk_889 rfl ⟨Nat.le_of_ble_eq_true rfl, Nat.le_of_ble_eq_true rfl⟩ ⟨Nat.le_refl _, Nat.le_refl _⟩ rfl (Nat.le_of_ble_eq_true rfl) dX8_set_29 rfl ?_
      rintro z29 F29 A29 ⟨w29, b29, e129, e229⟩
      obtain rfl := e129.symm
      obtain rfl := e229.symm
      refine x_if_ne (tgt := 37) (pc2 := 35) hC (by omega) dX8_set_32 rfl rfl (fun h_32 => ?_) (fun h_32 => ?_)
      · have hE := (b5_ ()).mp h_8
        have hT := (b17 ()).mp h_20
        have hG := (b29 ()).mp h_32
        have hT3 : 0 ≤ t ∧ t ≤ 3 := hT
        refine x_aload_n (pc2 := 38) hC rfl rfl dX8_set_37 rfl ?_
        refine x_iload_n (pc2 := 39) hC rfl rfl dX8_set_38 rfl ?_
        refine x_iload_n (pc2 := 40) hC rfl rfl dX8_set_39 rfl ?_
        refine x_iload_n (pc2 := 41) hC rfl rfl dX8_set_40 rfl ?_
        refine x_iload_n (pc2 := 42) hC rfl rfl dX8_set_41 rfl ?_
        refine x_iload (pc2 := 44) hC rfl dX8_set_42 rfl ?_
        refine x_iload (pc2 := 46) hC rfl dX8_set_44 rfl ?_
        refine x_iload (pc2 := 48) hC rfl dX8_set_46 rfl ?_
        refine x_iload (pc2 := 50) hC rfl dX8_set_48 rfl ?_
        refine x_cVi (pc2 := 53) (ci := 8) hC hK (q_sets l hM hR0 (fr := t) (to := t) (w := fun t0 e0 => if t0 = t ∧ e0 = 2 * i + j then g3 p0 q0 r0 else vS S b t0 e0) hE hG hT3 (Int.le_refl _) (fun t0 e0 _ _ => by
            by_cases z : t0 = t ∧ e0 = 2 * i + j
            · rw [if_pos z, if_pos ⟨by omega, z.2⟩]
            · rw [if_neg z, if_neg (fun y => z ⟨by omega, y.2⟩)])) lk_894 rfl rfl (by decide) (by assumption) (by assumption) ⟨Nat.le_of_ble_eq_true rfl, Nat.le_of_ble_eq_true rfl⟩ ⟨Nat.le_refl _, Nat.le_refl _⟩ rfl (Nat.le_of_ble_eq_true rfl) dX8_set_50 rfl ?_
        rintro z50 F50 A50 ⟨e50, hRS⟩
        exact x_iret hC hr hlk ⟨_, rfl, MO.of (by rw [oSet, itO_pos ⟨by omega, hE, hG⟩, e50]) hRS⟩ dX8_set_53
      · refine x_iconst (pc2 := 36) hC dX8_set_35 rfl ?_
        exact x_iret hC hr hlk ⟨_, rfl, MO.of (by rw [oSet, itO_neg (fun ⟨q1, q2, q3⟩ => by first | exact absurd h_8 ((b5_ ()).mpr q2) | exact absurd h_20 ((b17 ()).mpr (by omega)) | exact absurd h_32 ((b29 ()).mpr q3))]) hR0⟩ dX8_set_36
theorem dX8_all_0 : decode cX8_all 0 = .ok (.aload_n 0, 1) := by decide +kernel
theorem dX8_all_1 : decode cX8_all 1 = .ok (.iload_n 1, 1) := by decide +kernel
theorem dX8_all_2 : decode cX8_all 2 = .ok (.iload_n 2, 1) := by decide +kernel
theorem dX8_all_3 : decode cX8_all 3 = .ok (.iload_n 3, 1) := by decide +kernel
theorem dX8_all_4 : decode cX8_all 4 = .ok (.invokevirtual 180, 3) := by decide +kernel
theorem dX8_all_7 : decode cX8_all 7 = .ok (.ifCond .eq 15, 3) := by decide +kernel
theorem dX8_all_10 : decode cX8_all 10 = .ok (.iload 4, 2) := by decide +kernel
theorem dX8_all_12 : decode cX8_all 12 = .ok (.iload 5, 2) := by decide +kernel
theorem dX8_all_14 : decode cX8_all 14 = .ok (.iload 6, 2) := by decide +kernel
theorem dX8_all_16 : decode cX8_all 16 = .ok (.invokestatic 186, 3) := by decide +kernel
theorem dX8_all_19 : decode cX8_all 19 = .ok (.ifCond .ne 5, 3) := by decide +kernel
theorem dX8_all_22 : decode cX8_all 22 = .ok (.iconst (-1), 1) := by decide +kernel
theorem dX8_all_23 : decode cX8_all 23 = .ok (.ireturn, 1) := by decide +kernel
theorem dX8_all_24 : decode cX8_all 24 = .ok (.aload_n 0, 1) := by decide +kernel
theorem dX8_all_25 : decode cX8_all 25 = .ok (.iload_n 1, 1) := by decide +kernel
theorem dX8_all_26 : decode cX8_all 26 = .ok (.iconst 0, 1) := by decide +kernel
theorem dX8_all_27 : decode cX8_all 27 = .ok (.iconst 3, 1) := by decide +kernel
theorem dX8_all_28 : decode cX8_all 28 = .ok (.iload_n 2, 1) := by decide +kernel
theorem dX8_all_29 : decode cX8_all 29 = .ok (.iload_n 3, 1) := by decide +kernel
theorem dX8_all_30 : decode cX8_all 30 = .ok (.iload 4, 2) := by decide +kernel
theorem dX8_all_32 : decode cX8_all 32 = .ok (.iload 5, 2) := by decide +kernel
theorem dX8_all_34 : decode cX8_all 34 = .ok (.iload 6, 2) := by decide +kernel
theorem dX8_all_36 : decode cX8_all 36 = .ok (.invokevirtual 189, 3) := by decide +kernel
theorem dX8_all_39 : decode cX8_all 39 = .ok (.ireturn, 1) := by decide +kernel
set_option maxHeartbeats 4000000 in
theorem q_all (l : Launch) {D : va_G} {ids : Nat → ClassId} {β : Nat} {sh : Nat → Nat × Nat} {N : Nat} {R : Nat → Nat → Option Nat} {F : Nat → Nat → Int} {A : Nat → Int → Int} {S : SP} (hM : MoL sh R N) (hR0 : RepM S F A) {b i j p0 q0 r0 : Int} (hb : I32 b) (hi2 : I32 i) (hj : I32 j) (hp0 : I32 p0) (hq0 : I32 q0) (hr0 : I32 r0) : MetX l yX8_all cX8_all 7 (some (.int)) 5 147 D ids β sh N R F A [rf 0, pI b, pI i, pI j, pI p0, pI q0, pI r0] (pIr (MO (oAll S b i j p0 q0 r0))) := by
  refine MetX.of (loc := [_, _, _, _, _, _, _]) (plainFor_of_name (by decide +kernel)) (Nat.le_of_ble_eq_true rfl) rfl ?_
  intro p e s m args below meth c hC hK hr hlk
  obtain ⟨⟨m0, m1⟩, ⟨rx0, r2, r3, r7, r8, r9, r11, r12, r13, r16, r18⟩, ⟨m2, m3⟩, ⟨m4, m5⟩, ⟨m6, m7⟩, ⟨m8, m9⟩, ⟨m10, m11⟩, ⟨m12, m13⟩, ⟨m14, m15⟩, ⟨m16, m17⟩, ⟨m18, m19⟩, ⟨m20, m21⟩, ⟨m22, m23⟩⟩ := id hM
  obtain ⟨hi, b1, b2, b3, b4, b5, b6, b7, b8⟩ := id hR0
  have i1 := hi.1
  refine x_aload_n (pc2 := 1) hC rfl rfl dX8_all_0 rfl ?_
  refine x_iload_n (pc2 := 2) hC rfl rfl dX8_all_1 rfl ?_
  refine x_iload_n (pc2 := 3) hC rfl rfl dX8_all_2 rfl ?_
  refine x_iload_n (pc2 := 4) hC rfl rfl dX8_all_3 rfl ?_
  refine x_cVi (pc2 := 7) (ci := 8) hC hK (q_isPlace l hM hR0 hb hi2 hj) lk_880 rfl rfl (by decide) (by assumption) (by assumption) ⟨Nat.le_of_ble_eq_true rfl, Nat.le_of_ble_eq_true rfl⟩ ⟨Nat.le_refl _, Nat.le_refl _⟩ rfl (Nat.le_of_ble_eq_true rfl) dX8_all_4 rfl ?_
  rintro z4 F4 A4 ⟨w4, b4_, e14, e24⟩
  obtain rfl := e14.symm
  obtain rfl := e24.symm
  refine x_if_eq (tgt := 22) (pc2 := 10) hC (by omega) dX8_all_7 rfl rfl (fun h_7 => ?_) (fun h_7 => ?_)
  · refine x_iconst (pc2 := 23) hC dX8_all_22 rfl ?_
    exact x_iret hC hr hlk ⟨_, rfl, MO.of (by rw [oAll, itO_neg (fun ⟨q1, q2⟩ => by first | exact absurd h_7 ((b4_ ()).mpr q1) | exact absurd h_19 ((b16 ()).mpr q2))]) hR0⟩ dX8_all_23
  · refine x_iload (pc2 := 12) hC rfl dX8_all_10 rfl ?_
    refine x_iload (pc2 := 14) hC rfl dX8_all_12 rfl ?_
    refine x_iload (pc2 := 16) hC rfl dX8_all_14 rfl ?_
    refine x_cSi (pc2 := 19) hC hK (q_given l hp0 hq0 hr0) lk_889 rfl ⟨Nat.le_of_ble_eq_true rfl, Nat.le_of_ble_eq_true rfl⟩ ⟨Nat.le_refl _, Nat.le_refl _⟩ rfl (Nat.le_of_ble_eq_true rfl) dX8_all_16 rfl ?_
    rintro z16 F16 A16 ⟨w16, b16, e116, e216⟩
    obtain rfl := e116.symm
    obtain rfl := e216.symm
    refine x_if_ne (tgt := 24) (pc2 := 22) hC (by omega) dX8_all_19 rfl rfl (fun h_19 => ?_) (fun h_19 => ?_)
    · refine x_aload_n (pc2 := 25) hC rfl rfl dX8_all_24 rfl ?_
      refine x_iload_n (pc2 := 26) hC rfl rfl dX8_all_25 rfl ?_
      refine x_iconst (pc2 := 27) hC dX8_all_26 rfl ?_
      refine x_iconst (pc2 := 28) hC dX8_all_27 rfl ?_
      refine x_iload_n (pc2 := 29) hC rfl rfl dX8_all_28 rfl ?_
      refine x_iload_n (pc2 := 30) hC rfl rfl dX8_all_29 rfl ?_
      refine x_iload (pc2 := 32) hC rfl dX8_all_30 rfl ?_
      refine x_iload (pc2 := 34) hC rfl dX8_all_32 rfl ?_
      refine x_iload (pc2 := 36) hC rfl dX8_all_34 rfl ?_
      refine x_cVi (pc2 := 39) (ci := 8) hC hK (q_sets l hM hR0 (fr := 0) (to := 3) (w := fun t0 e0 => if e0 = 2 * i + j then g3 p0 q0 r0 else vS S b t0 e0) ((b4_ ()).mp h_7) ((b16 ()).mp h_19) (by decide) (by decide) (fun t0 e0 _ _ => by
          by_cases z : e0 = 2 * i + j
          · rw [if_pos z, if_pos ⟨by omega, z⟩]
          · rw [if_neg z, if_neg (fun y => z y.2)])) lk_894 rfl rfl (by decide) (by assumption) (by assumption) ⟨Nat.le_of_ble_eq_true rfl, Nat.le_of_ble_eq_true rfl⟩ ⟨Nat.le_refl _, Nat.le_refl _⟩ rfl (Nat.le_of_ble_eq_true rfl) dX8_all_36 rfl ?_
      rintro z36 F36 A36 ⟨e36, hRS⟩
      exact x_iret hC hr hlk ⟨_, rfl, MO.of (by rw [oAll, itO_pos ⟨(b4_ ()).mp h_7, (b16 ()).mp h_19⟩, e36]) hRS⟩ dX8_all_39
    · refine x_iconst (pc2 := 23) hC dX8_all_22 rfl ?_
      exact x_iret hC hr hlk ⟨_, rfl, MO.of (by rw [oAll, itO_neg (fun ⟨q1, q2⟩ => by first | exact absurd h_7 ((b4_ ()).mpr q1) | exact absurd h_19 ((b16 ()).mpr q2))]) hR0⟩ dX8_all_23
theorem dX8_copy_0 : decode cX8_copy 0 = .ok (.aload_n 0, 1) := by decide +kernel
theorem dX8_copy_1 : decode cX8_copy 1 = .ok (.iload_n 1, 1) := by decide +kernel
theorem dX8_copy_2 : decode cX8_copy 2 = .ok (.invokevirtual 161, 3) := by decide +kernel
theorem dX8_copy_5 : decode cX8_copy 5 = .ok (.ifCond .eq 26, 3) := by decide +kernel
theorem dX8_copy_8 : decode cX8_copy 8 = .ok (.aload_n 0, 1) := by decide +kernel
theorem dX8_copy_9 : decode cX8_copy 9 = .ok (.iload_n 2, 1) := by decide +kernel
theorem dX8_copy_10 : decode cX8_copy 10 = .ok (.invokevirtual 161, 3) := by decide +kernel
theorem dX8_copy_13 : decode cX8_copy 13 = .ok (.ifCond .eq 18, 3) := by decide +kernel
theorem dX8_copy_16 : decode cX8_copy 16 = .ok (.aload_n 0, 1) := by decide +kernel
theorem dX8_copy_17 : decode cX8_copy 17 = .ok (.getfield 7, 3) := by decide +kernel
theorem dX8_copy_20 : decode cX8_copy 20 = .ok (.iload_n 1, 1) := by decide +kernel
theorem dX8_copy_21 : decode cX8_copy 21 = .ok (.iaload, 1) := by decide +kernel
theorem dX8_copy_22 : decode cX8_copy 22 = .ok (.aload_n 0, 1) := by decide +kernel
theorem dX8_copy_23 : decode cX8_copy 23 = .ok (.getfield 7, 3) := by decide +kernel
theorem dX8_copy_26 : decode cX8_copy 26 = .ok (.iload_n 2, 1) := by decide +kernel
theorem dX8_copy_27 : decode cX8_copy 27 = .ok (.iaload, 1) := by decide +kernel
theorem dX8_copy_28 : decode cX8_copy 28 = .ok (.if_icmp .eq 5, 3) := by decide +kernel
theorem dX8_copy_31 : decode cX8_copy 31 = .ok (.iconst (-1), 1) := by decide +kernel
theorem dX8_copy_32 : decode cX8_copy 32 = .ok (.ireturn, 1) := by decide +kernel
theorem dX8_copy_33 : decode cX8_copy 33 = .ok (.aload_n 0, 1) := by decide +kernel
theorem dX8_copy_34 : decode cX8_copy 34 = .ok (.iload_n 2, 1) := by decide +kernel
theorem dX8_copy_35 : decode cX8_copy 35 = .ok (.invokevirtual 170, 3) := by decide +kernel
theorem dX8_copy_38 : decode cX8_copy 38 = .ok (.aload_n 0, 1) := by decide +kernel
theorem dX8_copy_39 : decode cX8_copy 39 = .ok (.iload_n 1, 1) := by decide +kernel
theorem dX8_copy_40 : decode cX8_copy 40 = .ok (.invokevirtual 177, 3) := by decide +kernel
theorem dX8_copy_43 : decode cX8_copy 43 = .ok (.ireturn, 1) := by decide +kernel
set_option maxHeartbeats 4000000 in
theorem q_copy (l : Launch) {D : va_G} {ids : Nat → ClassId} {β : Nat} {sh : Nat → Nat × Nat} {N : Nat} {R : Nat → Nat → Option Nat} {F : Nat → Nat → Int} {A : Nat → Int → Int} {S : SP} (hM : MoL sh R N) (hR0 : RepM S F A) {c0 a : Int} (hc : I32 c0) (ha : I32 a) : MetX l yX8_copy cX8_copy 3 (some (.int)) 2 46 D ids β sh N R F A [rf 0, pI c0, pI a] (pIr (MO (oCopy S c0 a))) := by
  refine MetX.of (loc := [_, _, _]) (plainFor_of_name (by decide +kernel)) (Nat.le_of_ble_eq_true rfl) rfl ?_
  intro p e s m args below meth c hC hK hr hlk
  obtain ⟨⟨m0, m1⟩, ⟨rx0, r2, r3, r7, r8, r9, r11, r12, r13, r16, r18⟩, ⟨m2, m3⟩, ⟨m4, m5⟩, ⟨m6, m7⟩, ⟨m8, m9⟩, ⟨m10, m11⟩, ⟨m12, m13⟩, ⟨m14, m15⟩, ⟨m16, m17⟩, ⟨m18, m19⟩, ⟨m20, m21⟩, ⟨m22, m23⟩⟩ := id hM
  obtain ⟨hi, b1, b2, b3, b4, b5, b6, b7, b8⟩ := id hR0
  have i1 := hi.1
  refine x_aload_n (pc2 := 1) hC rfl rfl dX8_copy_0 rfl ?_
  refine x_iload_n (pc2 := 2) hC rfl rfl dX8_copy_1 rfl ?_
  refine x_cVi (pc2 := 5) (ci := 8) hC hK (q_isBox l hM hR0 hc) lk_884 rfl rfl (by decide) (by assumption) (by assumption) ⟨Nat.le_of_ble_eq_true rfl, Nat.le_of_ble_eq_true rfl⟩ ⟨Nat.le_refl _, Nat.le_refl _⟩ rfl (Nat.le_of_ble_eq_true rfl) dX8_copy_2 rfl ?_
  rintro z2 F2 A2 ⟨w2, b2_, e12, e22⟩
  obtain rfl := e12.symm
  obtain rfl := e22.symm
  refine x_if_eq (tgt := 31) (pc2 := 8) hC (by omega) dX8_copy_5 rfl rfl (fun h_5 => ?_) (fun h_5 => ?_)
  · refine x_iconst (pc2 := 32) hC dX8_copy_31 rfl ?_
    exact x_iret hC hr hlk ⟨_, rfl, MO.of (by rw [oCopy, itO_neg (fun ⟨q1, q2, q3⟩ => by first | exact absurd h_5 ((b2_ ()).mpr q1) | exact absurd h_13 ((b10 ()).mpr q2) | omega)]) hR0⟩ dX8_copy_32
  · have hB1 := (b2_ ()).mp h_5
    have pt1 := b2 c0 hB1
    have pt1b := (hi.2.1 c0 hB1).1
    refine x_aload_n (pc2 := 9) hC rfl rfl dX8_copy_8 rfl ?_
    refine x_iload_n (pc2 := 10) hC rfl rfl dX8_copy_9 rfl ?_
    refine x_cVi (pc2 := 13) (ci := 8) hC hK (q_isBox l hM hR0 ha) lk_884 rfl rfl (by decide) (by assumption) (by assumption) ⟨Nat.le_of_ble_eq_true rfl, Nat.le_of_ble_eq_true rfl⟩ ⟨Nat.le_refl _, Nat.le_refl _⟩ rfl (Nat.le_of_ble_eq_true rfl) dX8_copy_10 rfl ?_
    rintro z10 F10 A10 ⟨w10, b10, e110, e210⟩
    obtain rfl := e110.symm
    obtain rfl := e210.symm
    refine x_if_eq (tgt := 31) (pc2 := 16) hC (by omega) dX8_copy_13 rfl rfl (fun h_13 => ?_) (fun h_13 => ?_)
    · refine x_iconst (pc2 := 32) hC dX8_copy_31 rfl ?_
      exact x_iret hC hr hlk ⟨_, rfl, MO.of (by rw [oCopy, itO_neg (fun ⟨q1, q2, q3⟩ => by first | exact absurd h_5 ((b2_ ()).mpr q1) | exact absurd h_13 ((b10 ()).mpr q2) | omega)]) hR0⟩ dX8_copy_32
    · have hB2 := (b10 ()).mp h_13
      have pt2 := b2 a hB2
      have pt2b := (hi.2.1 a hB2).1
      refine x_aload_n (pc2 := 17) hC rfl rfl dX8_copy_16 rfl ?_
      refine g_809 (pc2 := 20) hC hK (by assumption) (by assumption) (by assumption) dX8_copy_17 rfl ?_
      refine x_iload_n (pc2 := 21) hC rfl rfl dX8_copy_20 rfl ?_
      refine x_iald (pc2 := 22) hC hK (by assumption) (by assumption) (by omega) (by decide) dX8_copy_21 rfl ?_
      refine x_aload_n (pc2 := 23) hC rfl rfl dX8_copy_22 rfl ?_
      refine g_809 (pc2 := 26) hC hK (by assumption) (by assumption) (by assumption) dX8_copy_23 rfl ?_
      refine x_iload_n (pc2 := 27) hC rfl rfl dX8_copy_26 rfl ?_
      refine x_iald (pc2 := 28) hC hK (by assumption) (by assumption) (by omega) (by decide) dX8_copy_27 rfl ?_
      refine x_icmp_eq (tgt := 33) (pc2 := 31) hC (by omega) (by omega) dX8_copy_28 rfl rfl (fun h_28 => ?_) (fun h_28 => ?_)
      · refine x_aload_n (pc2 := 34) hC rfl rfl dX8_copy_33 rfl ?_
        refine x_iload_n (pc2 := 35) hC rfl rfl dX8_copy_34 rfl ?_
        refine x_cVv (pc2 := 38) (ci := 8) hC hK (n_takes l hM ⟨hB2.1, by have := hB2.2; omega⟩) lk_898 rfl rfl (by decide) (by assumption) (by assumption) ⟨Nat.le_of_ble_eq_true rfl, Nat.le_of_ble_eq_true rfl⟩ ⟨Nat.le_refl _, Nat.le_refl _⟩ rfl (Nat.le_of_ble_eq_true rfl) dX8_copy_35 rfl ?_
        rintro F35 A35 ⟨e135, e235⟩
        have hRt : RepM S F35 A35 := by rw [e135, e235]; exact hR0.of (fun j hj => uF_nj (by omega)) (fun b hb => cpA_ne (by omega))
        have h17t : F35 0 17 = 0 := by rw [e135, uF_eq]
        have hmt : ∀ t e, isT t → isT e → held (A35 10) (24 * t + 6 * e) (vS S a t e) := fun t e ht he => by
          refine held_of (b6 a t e hB2 ht he) (fun u u0 u1 => ?_)
          rw [e235, cpA_in (by omega)]
          congr 1
          omega
        refine x_aload_n (pc2 := 39) hC rfl rfl dX8_copy_38 rfl ?_
        refine x_iload_n (pc2 := 40) hC rfl rfl dX8_copy_39 rfl ?_
        refine x_cVi (pc2 := 43) (ci := 8) hC hK (q_ends l hM hRt hB1 (w := vS S a) (by rw [show ptS S c0 = ptS S a by omega]; exact (hi.2.1 a hB2).2) (Or.inl h17t) (fun _ => hmt)) lk_957 rfl rfl (by decide) (by assumption) (by assumption) ⟨Nat.le_of_ble_eq_true rfl, Nat.le_of_ble_eq_true rfl⟩ ⟨Nat.le_refl _, Nat.le_refl _⟩ rfl (Nat.le_of_ble_eq_true rfl) dX8_copy_40 rfl ?_
        rintro z40 F40 A40 hq
        have hq2 := hq.resolve_left (fun q => by have := q.1; omega)
        exact x_iret hC hr hlk ⟨_, rfl, MO.of (by rw [oCopy, itO_pos ⟨hB1, hB2, by omega⟩, hq2.2.1]) hq2.2.2⟩ dX8_copy_43
      · refine x_iconst (pc2 := 32) hC dX8_copy_31 rfl ?_
        exact x_iret hC hr hlk ⟨_, rfl, MO.of (by rw [oCopy, itO_neg (fun ⟨q1, q2, q3⟩ => by first | exact absurd h_5 ((b2_ ()).mpr q1) | exact absurd h_13 ((b10 ()).mpr q2) | omega)]) hR0⟩ dX8_copy_32
