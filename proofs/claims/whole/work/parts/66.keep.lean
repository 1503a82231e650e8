theorem dX8_begins_0 : decode cX8_begins 0 = .ok (.aload_n 0, 1) := by decide +kernel
theorem dX8_begins_1 : decode cX8_begins 1 = .ok (.iconst 0, 1) := by decide +kernel
theorem dX8_begins_2 : decode cX8_begins 2 = .ok (.putfield 144, 3) := by decide +kernel
theorem dX8_begins_5 : decode cX8_begins 5 = .ok (.iconst 0, 1) := by decide +kernel
theorem dX8_begins_6 : decode cX8_begins 6 = .ok (.istore_n 1, 1) := by decide +kernel
theorem dX8_begins_7 : decode cX8_begins 7 = .ok (.iload_n 1, 1) := by decide +kernel
theorem dX8_begins_8 : decode cX8_begins 8 = .ok (.bipush 16, 2) := by decide +kernel
theorem dX8_begins_10 : decode cX8_begins 10 = .ok (.if_icmp .ge 44, 3) := by decide +kernel
theorem dX8_begins_13 : decode cX8_begins 13 = .ok (.iconst 0, 1) := by decide +kernel
theorem dX8_begins_14 : decode cX8_begins 14 = .ok (.istore_n 2, 1) := by decide +kernel
theorem dX8_begins_15 : decode cX8_begins 15 = .ok (.iload_n 2, 1) := by decide +kernel
theorem dX8_begins_16 : decode cX8_begins 16 = .ok (.bipush 6, 2) := by decide +kernel
theorem dX8_begins_18 : decode cX8_begins 18 = .ok (.if_icmp .ge 30, 3) := by decide +kernel
theorem dX8_begins_21 : decode cX8_begins 21 = .ok (.aload_n 0, 1) := by decide +kernel
theorem dX8_begins_22 : decode cX8_begins 22 = .ok (.getfield 46, 3) := by decide +kernel
theorem dX8_begins_25 : decode cX8_begins 25 = .ok (.bipush 6, 2) := by decide +kernel
theorem dX8_begins_27 : decode cX8_begins 27 = .ok (.iload_n 1, 1) := by decide +kernel
theorem dX8_begins_28 : decode cX8_begins 28 = .ok (.imul, 1) := by decide +kernel
theorem dX8_begins_29 : decode cX8_begins 29 = .ok (.iload_n 2, 1) := by decide +kernel
theorem dX8_begins_30 : decode cX8_begins 30 = .ok (.iadd, 1) := by decide +kernel
theorem dX8_begins_31 : decode cX8_begins 31 = .ok (.iload_n 2, 1) := by decide +kernel
theorem dX8_begins_32 : decode cX8_begins 32 = .ok (.iconst 5, 1) := by decide +kernel
theorem dX8_begins_33 : decode cX8_begins 33 = .ok (.if_icmp .ne 7, 3) := by decide +kernel
theorem dX8_begins_36 : decode cX8_begins 36 = .ok (.lconst 1, 1) := by decide +kernel
theorem dX8_begins_37 : decode cX8_begins 37 = .ok (.goto 4, 3) := by decide +kernel
theorem dX8_begins_40 : decode cX8_begins 40 = .ok (.lconst 0, 1) := by decide +kernel
theorem dX8_begins_41 : decode cX8_begins 41 = .ok (.lastore, 1) := by decide +kernel
theorem dX8_begins_42 : decode cX8_begins 42 = .ok (.iinc 2 1, 3) := by decide +kernel
theorem dX8_begins_45 : decode cX8_begins 45 = .ok (.goto (-30), 3) := by decide +kernel
theorem dX8_begins_48 : decode cX8_begins 48 = .ok (.iinc 1 1, 3) := by decide +kernel
theorem dX8_begins_51 : decode cX8_begins 51 = .ok (.goto (-44), 3) := by decide +kernel
theorem dX8_begins_54 : decode cX8_begins 54 = .ok (.return_, 1) := by decide +kernel
set_option maxHeartbeats 4000000 in
theorem n_begins (l : Launch) {D : va_G} {ids : Nat → ClassId} {β : Nat} {sh : Nat → Nat × Nat} {N : Nat} {R : Nat → Nat → Option Nat} {F : Nat → Nat → Int} {A : Nat → Int → Int} (hM : MoL sh R N) : MetX l yX8_begins cX8_begins 3 none 0 0 D ids β sh N R F A [rf 0] (pVr (fun F2 A2 => F2 = uF F 0 17 0 ∧ (∀ a, a ≠ 10 → A2 a = A a) ∧ ∀ t e, isT t → isT e → held (A2 10) (24 * t + 6 * e) z3)) := by
  refine MetX.of (loc := [_, _, _]) (plainFor_of_name (by decide +kernel)) (Nat.le_of_ble_eq_true rfl) rfl ?_
  intro p e s m args below meth c hC hK hr hlk
  obtain ⟨⟨m0, m1⟩, ⟨r0, r2, r3, r7, r8, r9, r11, r12, r13, r16, r18⟩, ⟨m2, m3⟩, ⟨m4, m5⟩, ⟨m6, m7⟩, ⟨m8, m9⟩, ⟨m10, m11⟩, ⟨m12, m13⟩, ⟨m14, m15⟩, ⟨m16, m17⟩, ⟨m18, m19⟩, ⟨m20, m21⟩, ⟨m22, m23⟩⟩ := id hM
  have loop : ∀ (d k : Nat) (A1 : Nat → Int → Int) {e2 : Option PV}, 16 - (k : Int) < d → k ≤ 16 → (∀ a, a ≠ 10 → A1 a = A a) → (∀ j : Int, 0 ≤ j → j < 6 * (k : Int) → A1 10 j = if j % 6 = 5 then 1 else 0) → X p l e { frames := 0, cells := 0, slots := 0, locals := 0 } s m args below meth c (MQ below (QX D ids β sh N R (pVr (fun F2 A2 => F2 = uF F 0 17 0 ∧ (∀ a, a ≠ 10 → A2 a = A a) ∧ ∀ t e, isT t → isT e → held (A2 10) (24 * t + 6 * e) z3))) args s 0 0 (inG β N)) (inG β N) D ids β sh 3 0 0 N R (uF F 0 17 0) A1 [some (rf 0), some (pI (k : Int)), e2] [] 7 := by
    intro d
    induction d with
    | zero => intro k A1 e2 hd; omega
    | succ d ih =>
      intro k A1 e2 hd hk hA hz
      have inner : ∀ (d2 n : Nat) (A1 : Nat → Int → Int), 6 - (n : Int) < d2 → n ≤ 6 → (k : Int) < 16 → (∀ a, a ≠ 10 → A1 a = A a) → (∀ j : Int, 0 ≤ j → j < 6 * (k : Int) + n → A1 10 j = if j % 6 = 5 then 1 else 0) → X p l e { frames := 0, cells := 0, slots := 0, locals := 0 } s m args below meth c (MQ below (QX D ids β sh N R (pVr (fun F2 A2 => F2 = uF F 0 17 0 ∧ (∀ a, a ≠ 10 → A2 a = A a) ∧ ∀ t e, isT t → isT e → held (A2 10) (24 * t + 6 * e) z3))) args s 0 0 (inG β N)) (inG β N) D ids β sh 3 0 0 N R (uF F 0 17 0) A1 [some (rf 0), some (pI (k : Int)), some (pI (n : Int))] [] 15 := by
        intro d2
        induction d2 with
        | zero => intro n A1 hd2; omega
        | succ d2 ih2 =>
          intro n A1 hd2 hn hk16 hA hz
          refine x_iload_n (pc2 := 16) hC rfl rfl dX8_begins_15 rfl ?_
          refine x_bipush (pc2 := 18) hC rfl dX8_begins_16 rfl ?_
          refine x_icmp_ge (tgt := 48) (pc2 := 21) hC (by omega) (by omega) dX8_begins_18 rfl rfl (fun h_18 => ?_) (fun h_18 => ?_)
          · refine x_iinc (pc2 := 51) (loc2 := [_, _, _]) hC (by decide) rfl rfl dX8_begins_48 rfl ?_
            refine x_goto (pc2 := 7) hC dX8_begins_51 rfl ?_
            exact ih (k + 1) A1 (by omega) (by omega) hA (fun j j0 j1 => hz j j0 (by omega))
          · refine x_aload_n (pc2 := 22) hC rfl rfl dX8_begins_21 rfl ?_
            refine g_825 (pc2 := 25) hC hK (by assumption) (by assumption) (by assumption) dX8_begins_22 rfl ?_
            refine x_bipush (pc2 := 27) hC rfl dX8_begins_25 rfl ?_
            refine x_iload_n (pc2 := 28) hC rfl rfl dX8_begins_27 rfl ?_
            refine x_imul (pc2 := 29) hC dX8_begins_28 rfl ?_
            refine x_iload_n (pc2 := 30) hC rfl rfl dX8_begins_29 rfl ?_
            refine x_iadd (pc2 := 31) hC dX8_begins_30 rfl ?_
            refine x_iload_n (pc2 := 32) hC rfl rfl dX8_begins_31 rfl ?_
            refine x_iconst (pc2 := 33) hC dX8_begins_32 rfl ?_
            refine x_icmp_ne (tgt := 40) (pc2 := 36) hC (by omega) (by omega) dX8_begins_33 rfl rfl (fun h_33 => ?_) (fun h_33 => ?_)
            · refine x_lconst0 (pc2 := 41) hC dX8_begins_40 rfl ?_
              refine x_last (pc2 := 42) hC hK (by assumption) (by assumption) (by omega) (by decide) dX8_begins_41 rfl ?_
              refine x_iinc (pc2 := 45) (loc2 := [_, _, _]) hC (by decide) rfl rfl dX8_begins_42 rfl ?_
              refine x_goto (pc2 := 15) hC dX8_begins_45 rfl ?_
              refine ih2 (n + 1) _ (by omega) (by omega) hk16 (fun a ha => by rw [uA_ne ha]; exact hA a ha) (fun j j0 j1 => ?_)
              rw [uA_at]
              by_cases q : j = 6 * (k : Int) + n
              · rw [if_pos q]; rw [if_neg (by omega)]
              · rw [if_neg q]; exact hz j j0 (by omega)
            · refine x_lconst1 (pc2 := 37) hC dX8_begins_36 rfl ?_
              refine x_goto (pc2 := 41) hC dX8_begins_37 rfl ?_
              refine x_last (pc2 := 42) hC hK (by assumption) (by assumption) (by omega) (by decide) dX8_begins_41 rfl ?_
              refine x_iinc (pc2 := 45) (loc2 := [_, _, _]) hC (by decide) rfl rfl dX8_begins_42 rfl ?_
              refine x_goto (pc2 := 15) hC dX8_begins_45 rfl ?_
              refine ih2 (n + 1) _ (by omega) (by omega) hk16 (fun a ha => by rw [uA_ne ha]; exact hA a ha) (fun j j0 j1 => ?_)
              rw [uA_at]
              by_cases q : j = 6 * (k : Int) + n
              · rw [if_pos q]; rw [if_pos (by omega)]
              · rw [if_neg q]; exact hz j j0 (by omega)
      refine x_iload_n (pc2 := 8) hC rfl rfl dX8_begins_7 rfl ?_
      refine x_bipush (pc2 := 10) hC rfl dX8_begins_8 rfl ?_
      refine x_icmp_ge (tgt := 54) (pc2 := 13) hC (by omega) (by omega) dX8_begins_10 rfl rfl (fun h_10 => ?_) (fun h_10 => ?_)
      · exact x_vret hC hr hlk ⟨rfl, rfl, hA, fun t e ht he w w0 w1 => by
                rw [hz _ (by omega) (by omega)]
                rcases (show w = 0 ∨ w = 1 ∨ w = 2 ∨ w = 3 ∨ w = 4 ∨ w = 5 by omega) with rfl | rfl | rfl | rfl | rfl | rfl
                · rw [if_neg (by omega)]; rfl
                · rw [if_neg (by omega)]; rfl
                · rw [if_neg (by omega)]; rfl
                · rw [if_neg (by omega)]; rfl
                · rw [if_neg (by omega)]; rfl
                · rw [if_pos (by omega)]; rfl⟩ dX8_begins_54
      · refine x_iconst (pc2 := 14) hC dX8_begins_13 rfl ?_
        refine x_istore_n (pc2 := 15) (loc2 := [_, _, _]) hC rfl (by decide) rfl dX8_begins_14 rfl ?_
        exact inner 7 0 A1 (by decide) (by decide) (by omega) hA (fun j j0 j1 => hz j j0 (by omega))
  refine x_aload_n (pc2 := 1) hC rfl rfl dX8_begins_0 rfl ?_
  refine x_iconst (pc2 := 2) hC dX8_begins_1 rfl ?_
  refine p_826 (pc2 := 5) hC hK (by assumption) (by assumption) (by omega) dX8_begins_2 rfl ?_
  refine x_iconst (pc2 := 6) hC dX8_begins_5 rfl ?_
  refine x_istore_n (pc2 := 7) (loc2 := [_, _, _]) hC rfl (by decide) rfl dX8_begins_6 rfl ?_
  exact loop 17 0 A (by decide) (by decide) (fun _ _ => rfl) (fun j a b => by omega)
theorem dX8_keep_0 : decode cX8_keep 0 = .ok (.aload_n 0, 1) := by decide +kernel
theorem dX8_keep_1 : decode cX8_keep 1 = .ok (.getfield 148, 3) := by decide +kernel
theorem dX8_keep_4 : decode cX8_keep 4 = .ok (.bipush 16, 2) := by decide +kernel
theorem dX8_keep_6 : decode cX8_keep 6 = .ok (.if_icmp .ne 44, 3) := by decide +kernel
theorem dX8_keep_9 : decode cX8_keep 9 = .ok (.iconst 0, 1) := by decide +kernel
theorem dX8_keep_10 : decode cX8_keep 10 = .ok (.istore_n 1, 1) := by decide +kernel
theorem dX8_keep_11 : decode cX8_keep 11 = .ok (.iload_n 1, 1) := by decide +kernel
theorem dX8_keep_12 : decode cX8_keep 12 = .ok (.sipush 23040, 3) := by decide +kernel
theorem dX8_keep_15 : decode cX8_keep 15 = .ok (.if_icmp .ge 25, 3) := by decide +kernel
theorem dX8_keep_18 : decode cX8_keep 18 = .ok (.aload_n 0, 1) := by decide +kernel
theorem dX8_keep_19 : decode cX8_keep 19 = .ok (.getfield 17, 3) := by decide +kernel
theorem dX8_keep_22 : decode cX8_keep 22 = .ok (.iload_n 1, 1) := by decide +kernel
theorem dX8_keep_23 : decode cX8_keep 23 = .ok (.aload_n 0, 1) := by decide +kernel
theorem dX8_keep_24 : decode cX8_keep 24 = .ok (.getfield 17, 3) := by decide +kernel
theorem dX8_keep_27 : decode cX8_keep 27 = .ok (.iload_n 1, 1) := by decide +kernel
theorem dX8_keep_28 : decode cX8_keep 28 = .ok (.sipush 1536, 3) := by decide +kernel
theorem dX8_keep_31 : decode cX8_keep 31 = .ok (.iadd, 1) := by decide +kernel
theorem dX8_keep_32 : decode cX8_keep 32 = .ok (.laload, 1) := by decide +kernel
theorem dX8_keep_33 : decode cX8_keep 33 = .ok (.lastore, 1) := by decide +kernel
theorem dX8_keep_34 : decode cX8_keep 34 = .ok (.iinc 1 1, 3) := by decide +kernel
theorem dX8_keep_37 : decode cX8_keep 37 = .ok (.goto (-26), 3) := by decide +kernel
theorem dX8_keep_40 : decode cX8_keep 40 = .ok (.aload_n 0, 1) := by decide +kernel
theorem dX8_keep_41 : decode cX8_keep 41 = .ok (.dup, 1) := by decide +kernel
theorem dX8_keep_42 : decode cX8_keep 42 = .ok (.getfield 148, 3) := by decide +kernel
theorem dX8_keep_45 : decode cX8_keep 45 = .ok (.iconst 1, 1) := by decide +kernel
theorem dX8_keep_46 : decode cX8_keep 46 = .ok (.isub, 1) := by decide +kernel
theorem dX8_keep_47 : decode cX8_keep 47 = .ok (.putfield 148, 3) := by decide +kernel
theorem dX8_keep_50 : decode cX8_keep 50 = .ok (.iconst 0, 1) := by decide +kernel
theorem dX8_keep_51 : decode cX8_keep 51 = .ok (.istore_n 1, 1) := by decide +kernel
theorem dX8_keep_52 : decode cX8_keep 52 = .ok (.iload_n 1, 1) := by decide +kernel
theorem dX8_keep_53 : decode cX8_keep 53 = .ok (.sipush 1536, 3) := by decide +kernel
theorem dX8_keep_56 : decode cX8_keep 56 = .ok (.if_icmp .ge 30, 3) := by decide +kernel
theorem dX8_keep_59 : decode cX8_keep 59 = .ok (.aload_n 0, 1) := by decide +kernel
theorem dX8_keep_60 : decode cX8_keep 60 = .ok (.getfield 17, 3) := by decide +kernel
theorem dX8_keep_63 : decode cX8_keep 63 = .ok (.sipush 1536, 3) := by decide +kernel
theorem dX8_keep_66 : decode cX8_keep 66 = .ok (.aload_n 0, 1) := by decide +kernel
theorem dX8_keep_67 : decode cX8_keep 67 = .ok (.getfield 148, 3) := by decide +kernel
theorem dX8_keep_70 : decode cX8_keep 70 = .ok (.imul, 1) := by decide +kernel
theorem dX8_keep_71 : decode cX8_keep 71 = .ok (.iload_n 1, 1) := by decide +kernel
theorem dX8_keep_72 : decode cX8_keep 72 = .ok (.iadd, 1) := by decide +kernel
theorem dX8_keep_73 : decode cX8_keep 73 = .ok (.aload_n 0, 1) := by decide +kernel
theorem dX8_keep_74 : decode cX8_keep 74 = .ok (.getfield 13, 3) := by decide +kernel
theorem dX8_keep_77 : decode cX8_keep 77 = .ok (.iload_n 1, 1) := by decide +kernel
theorem dX8_keep_78 : decode cX8_keep 78 = .ok (.laload, 1) := by decide +kernel
theorem dX8_keep_79 : decode cX8_keep 79 = .ok (.lastore, 1) := by decide +kernel
theorem dX8_keep_80 : decode cX8_keep 80 = .ok (.iinc 1 1, 3) := by decide +kernel
theorem dX8_keep_83 : decode cX8_keep 83 = .ok (.goto (-31), 3) := by decide +kernel
theorem dX8_keep_86 : decode cX8_keep 86 = .ok (.aload_n 0, 1) := by decide +kernel
theorem dX8_keep_87 : decode cX8_keep 87 = .ok (.dup, 1) := by decide +kernel
theorem dX8_keep_88 : decode cX8_keep 88 = .ok (.getfield 148, 3) := by decide +kernel
theorem dX8_keep_91 : decode cX8_keep 91 = .ok (.iconst 1, 1) := by decide +kernel
theorem dX8_keep_92 : decode cX8_keep 92 = .ok (.iadd, 1) := by decide +kernel
theorem dX8_keep_93 : decode cX8_keep 93 = .ok (.putfield 148, 3) := by decide +kernel
theorem dX8_keep_96 : decode cX8_keep 96 = .ok (.return_, 1) := by decide +kernel
set_option maxHeartbeats 4000000 in
theorem n_keep (l : Launch) {D : va_G} {ids : Nat → ClassId} {β : Nat} {sh : Nat → Nat × Nat} {N : Nat} {R : Nat → Nat → Option Nat} {F : Nat → Nat → Int} {A : Nat → Int → Int} (hM : MoL sh R N) {n : Nat} (hn : F 0 4 = (n : Int)) (n16 : n ≤ 16) : MetX l yX8_keep cX8_keep 2 none 0 0 D ids β sh N R F A [rf 0] (pVr (fun F2 A2 => (∀ o, o ≠ 0 → F2 o = F o) ∧ (∀ j, j ≠ 4 → F2 0 j = F 0 j) ∧ F2 0 4 = ((min n 15 : Nat) : Int) + 1 ∧ (∀ a, a ≠ 3 → A2 a = A a) ∧ (∀ k : Int, 0 ≤ k → k < 1536 → A2 3 (1536 * ((min n 15 : Nat) : Int) + k) = A 2 k) ∧ ∀ (i : Nat) (k : Int), i < min n 15 → 0 ≤ k → k < 1536 → A2 3 (1536 * (((min n 15 : Nat) : Int) - 1 - i) + k) = A 3 (1536 * ((n : Int) - 1 - i) + k))) := by
  refine MetX.of (loc := [_, _]) (plainFor_of_name (by decide +kernel)) (Nat.le_of_ble_eq_true rfl) rfl ?_
  intro p e s m args below meth c hC hK hr hlk
  obtain ⟨⟨m0, m1⟩, ⟨r0, r2, r3, r7, r8, r9, r11, r12, r13, r16, r18⟩, ⟨m2, m3⟩, ⟨m4, m5⟩, ⟨m6, m7⟩, ⟨m8, m9⟩, ⟨m10, m11⟩, ⟨m12, m13⟩, ⟨m14, m15⟩, ⟨m16, m17⟩, ⟨m18, m19⟩, ⟨m20, m21⟩, ⟨m22, m23⟩⟩ := id hM
  have cp2 : ∀ (F1 : Nat → Nat → Int) (A1 : Nat → Int → Int), (∀ o, o ≠ 0 → F1 o = F o) → (∀ j, j ≠ 4 → F1 0 j = F 0 j) → F1 0 4 = ((min n 15 : Nat) : Int) → (∀ a, a ≠ 3 → A1 a = A a) → (∀ (i : Nat) (k : Int), i < min n 15 → 0 ≤ k → k < 1536 → A1 3 (1536 * (((min n 15 : Nat) : Int) - 1 - i) + k) = A 3 (1536 * ((n : Int) - 1 - i) + k)) → ∀ (d k : Nat), 1536 - (k : Int) < d → k ≤ 1536 → X p l e { frames := 0, cells := 0, slots := 0, locals := 0 } s m args below meth c (MQ below (QX D ids β sh N R (pVr (fun F2 A2 => (∀ o, o ≠ 0 → F2 o = F o) ∧ (∀ j, j ≠ 4 → F2 0 j = F 0 j) ∧ F2 0 4 = ((min n 15 : Nat) : Int) + 1 ∧ (∀ a, a ≠ 3 → A2 a = A a) ∧ (∀ k : Int, 0 ≤ k → k < 1536 → A2 3 (1536 * ((min n 15 : Nat) : Int) + k) = A 2 k) ∧ ∀ (i : Nat) (k : Int), i < min n 15 → 0 ≤ k → k < 1536 → A2 3 (1536 * (((min n 15 : Nat) : Int) - 1 - i) + k) = A 3 (1536 * ((n : Int) - 1 - i) + k)))) args s 0 0 (inG β N)) (inG β N) D ids β sh 2 0 0 N R F1 (cpA A1 2 0 3 (1536 * ((min n 15 : Nat) : Int)) k) [some (rf 0), some (pI (k : Int))] [] 52 := by
    intro F1 A1 f0 f1 f4 a0 a3 d
    induction d with
    | zero => intro k hd; omega
    | succ d ih =>
      intro k hd hk
      refine x_iload_n (pc2 := 53) hC rfl rfl dX8_keep_52 rfl ?_
      refine x_sipush (pc2 := 56) hC rfl dX8_keep_53 rfl ?_
      refine x_icmp_ge (tgt := 86) (pc2 := 59) hC (by omega) (by omega) dX8_keep_56 rfl rfl (fun h_56 => ?_) (fun h_56 => ?_)
      · refine x_aload_n (pc2 := 87) hC rfl rfl dX8_keep_86 rfl ?_
        refine x_dupR (pc2 := 88) hC dX8_keep_87 rfl ?_
        refine g_813 (pc2 := 91) hC hK (by assumption) (by assumption) dX8_keep_88 rfl ?_
        refine x_iconst (pc2 := 92) hC dX8_keep_91 rfl ?_
        refine x_iadd (pc2 := 93) hC dX8_keep_92 rfl ?_
        refine p_813 (pc2 := 96) hC hK (by assumption) (by assumption) dX8_keep_93 rfl ?_
        exact x_vret hC hr hlk ⟨rfl, fun o ho => by rw [uF_ne ho]; exact f0 o ho, fun j hj => by rw [uF_nj hj]; exact f1 j hj, by rw [uF_eq, f4], fun a ha => by rw [cpA_ne ha]; exact a0 a ha, fun k2 k20 k21 => by rw [cpA_in (by omega), a0 2 (by decide)]; congr 1; omega, fun i k2 hi k20 k21 => by rw [cpA_out (by omega)]; exact a3 i k2 hi k20 k21⟩ dX8_keep_96
      · refine x_aload_n (pc2 := 60) hC rfl rfl dX8_keep_59 rfl ?_
        refine g_812 (pc2 := 63) hC hK (by assumption) (by assumption) (by assumption) dX8_keep_60 rfl ?_
        refine x_sipush (pc2 := 66) hC rfl dX8_keep_63 rfl ?_
        refine x_aload_n (pc2 := 67) hC rfl rfl dX8_keep_66 rfl ?_
        refine g_813 (pc2 := 70) hC hK (by assumption) (by assumption) dX8_keep_67 rfl ?_
        rw [f4]
        refine x_imul (pc2 := 71) hC dX8_keep_70 rfl ?_
        refine x_iload_n (pc2 := 72) hC rfl rfl dX8_keep_71 rfl ?_
        refine x_iadd (pc2 := 73) hC dX8_keep_72 rfl ?_
        refine x_aload_n (pc2 := 74) hC rfl rfl dX8_keep_73 rfl ?_
        refine g_811 (pc2 := 77) hC hK (by assumption) (by assumption) (by assumption) dX8_keep_74 rfl ?_
        refine x_iload_n (pc2 := 78) hC rfl rfl dX8_keep_77 rfl ?_
        refine x_lald (pc2 := 79) hC hK (by assumption) (by assumption) (by omega) (by decide) dX8_keep_78 rfl ?_
        refine x_last (pc2 := 80) hC hK (by assumption) (by assumption) (by omega) (by decide) dX8_keep_79 rfl ?_
        refine x_iinc (pc2 := 83) (loc2 := [_, _]) hC (by decide) rfl rfl dX8_keep_80 rfl ?_
        refine x_goto (pc2 := 52) hC dX8_keep_83 rfl ?_
        have e := cpA_succ (A := A1) (s := 2) (d := 3) (so := 0) (dq := 1536 * ((min n 15 : Nat) : Int)) (k := (k : Int)) (by omega) (Or.inl (by decide))
        rw [Int.zero_add] at e
        rw [e]
        exact ih (k + 1) (by omega) (by omega)
  have cp1 : n = 16 → ∀ (d k : Nat), 23040 - (k : Int) < d → k ≤ 23040 → X p l e { frames := 0, cells := 0, slots := 0, locals := 0 } s m args below meth c (MQ below (QX D ids β sh N R (pVr (fun F2 A2 => (∀ o, o ≠ 0 → F2 o = F o) ∧ (∀ j, j ≠ 4 → F2 0 j = F 0 j) ∧ F2 0 4 = ((min n 15 : Nat) : Int) + 1 ∧ (∀ a, a ≠ 3 → A2 a = A a) ∧ (∀ k : Int, 0 ≤ k → k < 1536 → A2 3 (1536 * ((min n 15 : Nat) : Int) + k) = A 2 k) ∧ ∀ (i : Nat) (k : Int), i < min n 15 → 0 ≤ k → k < 1536 → A2 3 (1536 * (((min n 15 : Nat) : Int) - 1 - i) + k) = A 3 (1536 * ((n : Int) - 1 - i) + k)))) args s 0 0 (inG β N)) (inG β N) D ids β sh 2 0 0 N R F (cpA A 3 1536 3 0 k) [some (rf 0), some (pI (k : Int))] [] 11 := by
    intro hn16 d
    induction d with
    | zero => intro k hd; omega
    | succ d ih =>
      intro k hd hk
      refine x_iload_n (pc2 := 12) hC rfl rfl dX8_keep_11 rfl ?_
      refine x_sipush (pc2 := 15) hC rfl dX8_keep_12 rfl ?_
      refine x_icmp_ge (tgt := 40) (pc2 := 18) hC (by omega) (by omega) dX8_keep_15 rfl rfl (fun h_15 => ?_) (fun h_15 => ?_)
      · refine x_aload_n (pc2 := 41) hC rfl rfl dX8_keep_40 rfl ?_
        refine x_dupR (pc2 := 42) hC dX8_keep_41 rfl ?_
        refine g_813 (pc2 := 45) hC hK (by assumption) (by assumption) dX8_keep_42 rfl ?_
        refine x_iconst (pc2 := 46) hC dX8_keep_45 rfl ?_
        refine x_isub (pc2 := 47) hC dX8_keep_46 rfl ?_
        refine p_813 (pc2 := 50) hC hK (by assumption) (by assumption) dX8_keep_47 rfl ?_
        refine x_iconst (pc2 := 51) hC dX8_keep_50 rfl ?_
        refine x_istore_n (pc2 := 52) (loc2 := [_, _]) hC rfl (by decide) rfl dX8_keep_51 rfl ?_
        have hk2 : (k : Int) = 23040 := by omega
        rw [hk2]
        have m15 : min n 15 = 15 := by omega
        have g := cp2 (uF F 0 4 (F 0 4 - 1)) (cpA A 3 1536 3 0 23040) (fun o ho => uF_ne ho) (fun j hj => uF_nj hj) (by rw [uF_eq]; omega) (fun a ha => cpA_ne ha) (fun i k2 hi k20 k21 => by rw [cpA_in (by omega)]; congr 1; omega) 1537 0 (by decide) (by decide)
        rw [show (((0 : Nat) : Int)) = 0 from rfl, cpA_0] at g
        exact g
      · refine x_aload_n (pc2 := 19) hC rfl rfl dX8_keep_18 rfl ?_
        refine g_812 (pc2 := 22) hC hK (by assumption) (by assumption) (by assumption) dX8_keep_19 rfl ?_
        refine x_iload_n (pc2 := 23) hC rfl rfl dX8_keep_22 rfl ?_
        refine x_aload_n (pc2 := 24) hC rfl rfl dX8_keep_23 rfl ?_
        refine g_812 (pc2 := 27) hC hK (by assumption) (by assumption) (by assumption) dX8_keep_24 rfl ?_
        refine x_iload_n (pc2 := 28) hC rfl rfl dX8_keep_27 rfl ?_
        refine x_sipush (pc2 := 31) hC rfl dX8_keep_28 rfl ?_
        refine x_iadd (pc2 := 32) hC dX8_keep_31 rfl ?_
        refine x_lald (pc2 := 33) hC hK (by assumption) (by assumption) (by omega) (by decide) dX8_keep_32 rfl ?_
        refine x_last (pc2 := 34) hC hK (by assumption) (by assumption) (by omega) (by decide) dX8_keep_33 rfl ?_
        refine x_iinc (pc2 := 37) (loc2 := [_, _]) hC (by decide) rfl rfl dX8_keep_34 rfl ?_
        refine x_goto (pc2 := 11) hC dX8_keep_37 rfl ?_
        have e := cpA_succ (A := A) (s := 3) (d := 3) (so := 1536) (dq := 0) (k := (k : Int)) (by omega) (Or.inr (by omega))
        rw [Int.zero_add, Int.add_comm 1536] at e
        rw [e]
        exact ih (k + 1) (by omega) (by omega)
  refine x_aload_n (pc2 := 1) hC rfl rfl dX8_keep_0 rfl ?_
  refine g_813 (pc2 := 4) hC hK (by assumption) (by assumption) dX8_keep_1 rfl ?_
  refine x_bipush (pc2 := 6) hC rfl dX8_keep_4 rfl ?_
  refine x_icmp_ne (tgt := 50) (pc2 := 9) hC (by omega) (by omega) dX8_keep_6 rfl rfl (fun h_6 => ?_) (fun h_6 => ?_)
  · refine x_iconst (pc2 := 51) hC dX8_keep_50 rfl ?_
    refine x_istore_n (pc2 := 52) (loc2 := [_, _]) hC rfl (by decide) rfl dX8_keep_51 rfl ?_
    have g := cp2 F A (fun _ _ => rfl) (fun _ _ => rfl) (by omega) (fun _ _ => rfl) (fun i k2 hi k20 k21 => by rw [show ((min n 15 : Nat) : Int) = (n : Int) by omega]) 1537 0 (by decide) (by decide)
    rw [show (((0 : Nat) : Int)) = 0 from rfl, cpA_0] at g
    exact g
  · refine x_iconst (pc2 := 10) hC dX8_keep_9 rfl ?_
    refine x_istore_n (pc2 := 11) (loc2 := [_, _]) hC rfl (by decide) rfl dX8_keep_10 rfl ?_
    have g := cp1 (by omega) 23041 0 (by decide) (by decide)
    rw [show (((0 : Nat) : Int)) = 0 from rfl, cpA_0] at g
    exact g
theorem unV_take : ∀ (l : List (Int × BX)) (n i : Nat) (v : Int → BX), i < n → unV v (l.take n) i = unV v l i
  | [], n, i, v, h => by simp [unV]
  | q :: t, 0, i, v, h => by omega
  | q :: t, n + 1, 0, v, h => by simp [unV]
  | q :: t, n + 1, i + 1, v, h => by
    simp only [List.take_succ_cons, unV]
    exact unV_take t n i _ (by omega)
theorem upZ_back {v : Int → BX} {c : Int} {w : BX} : upZ (upZ v c w) c (v c) = v := by
  funext b
  by_cases q : b = c
  · rw [q, upZ_eq]
  · rw [upZ_ne q, upZ_ne q]
theorem RepM.keep {S : SP} {F F2 : Nat → Nat → Int} {A A2 : Nat → Int → Int} {c : Int} {w : BX} (h : RepM S F A) (hc : isB S c) (hw : wfB (ptS S c) w) (hm : ∀ t e, isT t → isT e → held (A 10) (24 * t + 6 * e) (w t e)) (f1 : ∀ j, j ≠ 4 → F2 0 j = F 0 j) (f4 : F2 0 4 = ((min (hS S).length 15 : Nat) : Int) + 1) (a0 : ∀ a, a ≠ 3 → A2 a = A a) (a2 : ∀ k : Int, 0 ≤ k → k < 1536 → A2 3 (1536 * ((min (hS S).length 15 : Nat) : Int) + k) = A 2 k) (a3 : ∀ (i : Nat) (k : Int), i < min (hS S).length 15 → 0 ≤ k → k < 1536 → A2 3 (1536 * (((min (hS S).length 15 : Nat) : Int) - 1 - i) + k) = A 3 (1536 * (((hS S).length : Int) - 1 - i) + k)) : RepM (actS S c w) F2 (cpA A2 10 0 2 (96 * c) 96) := by
  obtain ⟨hi, b1, b2, b3, b4, b5, b6, b7, b8⟩ := h
  have i1 := hi.1
  have i4 := hi.2.2.2
  have hlen : (hS (actS S c w)).length = min (hS S).length 15 + 1 := by
    show (((c, vS S c) :: hS S).take 16).length = _
    rw [List.length_take, List.length_cons]; omega
  refine ⟨hi.act hc hw, by rw [f1 1 (by decide)]; exact b1, by rw [cpA_ne (by decide), a0 1 (by decide)]; exact b2, by rw [f4, hlen]; omega, by rw [f1 5 (by decide)]; exact b4, by rw [f1 6 (by decide)]; exact b5, ?_, ?_, ?_⟩
  · intro b t e hb ht he
    show held _ _ (upZ (vS S) c w b t e)
    by_cases q : b = c
    · rw [q, upZ_eq]
      refine held_of (hm t e ht he) (fun u u0 u1 => ?_)
      rw [cpA_in (by omega), a0 10 (by decide)]
      congr 1
      omega
    · rw [upZ_ne q]
      refine held_of (b6 b t e hb ht he) (fun u u0 u1 => ?_)
      rw [cpA_out (by omega), a0 2 (by decide)]
  · intro k k0 k1
    have k2 : 96 * nbS S ≤ k := k0
    have := hc.2
    rw [cpA_out (by omega), a0 2 (by decide)]
    exact b7 k k2 k1
  · intro i hil
    rw [hlen] at hil ⊢
    rw [cpA_ne (show 3 ≠ 2 by decide)]
    cases i with
    | zero =>
      have ev : unV (vS (actS S c w)) (hS (actS S c w)) 0 = vS S := upZ_back
      rw [ev]
      have e0 : ((min (hS S).length 15 + 1 : Nat) : Int) - 1 - ((0 : Nat) : Int) = ((min (hS S).length 15 : Nat) : Int) := by omega
      rw [e0]
      refine ⟨fun b t e hb ht he => Or.inl (held_of (b6 b t e hb ht he) (fun u u0 u1 => ?_)), fun k k0 k1 => ?_⟩
      · have hb2 : b < nbS S := hb.2
        rw [← a2 _ (by omega) (by omega)]
        congr 1
        omega
      · have k2 : 96 * nbS S ≤ k := k0
        rw [a2 k (by omega) k1]
        exact b7 k k2 k1
    | succ i =>
      have ev : unV (vS (actS S c w)) (hS (actS S c w)) (i + 1) = unV (vS S) (hS S) i := by
        show unV (upZ (upZ (vS S) c w) c (vS S c)) ((hS S).take 15) i = _
        rw [upZ_back, unV_take _ _ _ _ (by omega)]
      rw [ev]
      have e0 : ((min (hS S).length 15 + 1 : Nat) : Int) - 1 - ((i + 1 : Nat) : Int) = ((min (hS S).length 15 : Nat) : Int) - 1 - i := by omega
      rw [e0]
      obtain ⟨h1, h2⟩ := b8 i (by omega)
      refine ⟨fun b t e hb ht he => heldU_of (h1 b t e hb ht he) (fun u u0 u1 => ?_), fun k k0 k1 => ?_⟩
      · have hb2 : b < nbS S := hb.2
        have := a3 i (96 * b + 24 * t + 6 * e + u) (by omega) (by omega) (by omega)
        rw [show 1536 * (((min (hS S).length 15 : Nat) : Int) - 1 - i) + 96 * b + 24 * t + 6 * e + u = 1536 * (((min (hS S).length 15 : Nat) : Int) - 1 - i) + (96 * b + 24 * t + 6 * e + u) by omega, this]
        congr 1
        omega
      · have k2 : 96 * nbS S ≤ k := k0
        rw [a3 i k (by omega) (by omega) k1]
        exact h2 k k2 k1
theorem dX8_ends_0 : decode cX8_ends 0 = .ok (.aload_n 0, 1) := by decide +kernel
theorem dX8_ends_1 : decode cX8_ends 1 = .ok (.getfield 144, 3) := by decide +kernel
theorem dX8_ends_4 : decode cX8_ends 4 = .ok (.ifCond .eq 6, 3) := by decide +kernel
theorem dX8_ends_7 : decode cX8_ends 7 = .ok (.bipush (-5), 2) := by decide +kernel
theorem dX8_ends_9 : decode cX8_ends 9 = .ok (.ireturn, 1) := by decide +kernel
theorem dX8_ends_10 : decode cX8_ends 10 = .ok (.aload_n 0, 1) := by decide +kernel
theorem dX8_ends_11 : decode cX8_ends 11 = .ok (.invokevirtual 151, 3) := by decide +kernel
theorem dX8_ends_14 : decode cX8_ends 14 = .ok (.iconst 0, 1) := by decide +kernel
theorem dX8_ends_15 : decode cX8_ends 15 = .ok (.istore_n 2, 1) := by decide +kernel
theorem dX8_ends_16 : decode cX8_ends 16 = .ok (.iload_n 2, 1) := by decide +kernel
theorem dX8_ends_17 : decode cX8_ends 17 = .ok (.bipush 96, 2) := by decide +kernel
theorem dX8_ends_19 : decode cX8_ends 19 = .ok (.if_icmp .ge 26, 3) := by decide +kernel
theorem dX8_ends_22 : decode cX8_ends 22 = .ok (.aload_n 0, 1) := by decide +kernel
theorem dX8_ends_23 : decode cX8_ends 23 = .ok (.getfield 13, 3) := by decide +kernel
theorem dX8_ends_26 : decode cX8_ends 26 = .ok (.bipush 96, 2) := by decide +kernel
theorem dX8_ends_28 : decode cX8_ends 28 = .ok (.iload_n 1, 1) := by decide +kernel
theorem dX8_ends_29 : decode cX8_ends 29 = .ok (.imul, 1) := by decide +kernel
theorem dX8_ends_30 : decode cX8_ends 30 = .ok (.iload_n 2, 1) := by decide +kernel
theorem dX8_ends_31 : decode cX8_ends 31 = .ok (.iadd, 1) := by decide +kernel
theorem dX8_ends_32 : decode cX8_ends 32 = .ok (.aload_n 0, 1) := by decide +kernel
theorem dX8_ends_33 : decode cX8_ends 33 = .ok (.getfield 46, 3) := by decide +kernel
theorem dX8_ends_36 : decode cX8_ends 36 = .ok (.iload_n 2, 1) := by decide +kernel
theorem dX8_ends_37 : decode cX8_ends 37 = .ok (.laload, 1) := by decide +kernel
theorem dX8_ends_38 : decode cX8_ends 38 = .ok (.lastore, 1) := by decide +kernel
theorem dX8_ends_39 : decode cX8_ends 39 = .ok (.iinc 2 1, 3) := by decide +kernel
theorem dX8_ends_42 : decode cX8_ends 42 = .ok (.goto (-26), 3) := by decide +kernel
theorem dX8_ends_45 : decode cX8_ends 45 = .ok (.iconst 0, 1) := by decide +kernel
theorem dX8_ends_46 : decode cX8_ends 46 = .ok (.ireturn, 1) := by decide +kernel
set_option maxHeartbeats 4000000 in
theorem q_ends (l : Launch) {D : va_G} {ids : Nat → ClassId} {β : Nat} {sh : Nat → Nat × Nat} {N : Nat} {R : Nat → Nat → Option Nat} {F : Nat → Nat → Int} {A : Nat → Int → Int} {S : SP} (hM : MoL sh R N) (hR0 : RepM S F A) {c0 : Int} {w : BX} (hc : isB S c0) (hw : wfB (ptS S c0) w) (hb : F 0 17 = 0 ∨ F 0 17 = 1) (hmd : F 0 17 = 0 → ∀ t e, isT t → isT e → held (A 10) (24 * t + 6 * e) (w t e)) : MetX l yX8_ends cX8_ends 3 (some (.int)) 1 21 D ids β sh N R F A [rf 0, pI c0] (pIr (fun z F2 A2 => (F 0 17 = 1 ∧ z = -5 ∧ RepM S F2 A2) ∨ (F 0 17 = 0 ∧ z = 0 ∧ RepM (actS S c0 w) F2 A2))) := by
  refine MetX.of (loc := [_, _, _]) (plainFor_of_name (by decide +kernel)) (Nat.le_of_ble_eq_true rfl) rfl ?_
  intro p e s m args below meth c hC hK hr hlk
  obtain ⟨⟨m0, m1⟩, ⟨r0, r2, r3, r7, r8, r9, r11, r12, r13, r16, r18⟩, ⟨m2, m3⟩, ⟨m4, m5⟩, ⟨m6, m7⟩, ⟨m8, m9⟩, ⟨m10, m11⟩, ⟨m12, m13⟩, ⟨m14, m15⟩, ⟨m16, m17⟩, ⟨m18, m19⟩, ⟨m20, m21⟩, ⟨m22, m23⟩⟩ := id hM
  obtain ⟨hi, b1, b2, b3, b4, b5, b6, b7, b8⟩ := id hR0
  have i1 := hi.1
  have cc := hc.2
  have loop : ∀ (F1 : Nat → Nat → Int) (A1 : Nat → Int → Int), F 0 17 = 0 → RepM (actS S c0 w) F1 (cpA A1 10 0 2 (96 * c0) 96) → ∀ (d k : Nat), 96 - (k : Int) < d → k ≤ 96 → X p l e { frames := 1, cells := 0, slots := 0, locals := 21 } s m args below meth c (MQ below (QX D ids β sh N R (pIr (fun z F2 A2 => (F 0 17 = 1 ∧ z = -5 ∧ RepM S F2 A2) ∨ (F 0 17 = 0 ∧ z = 0 ∧ RepM (actS S c0 w) F2 A2)))) args s 0 0 (inG β N)) (inG β N) D ids β sh 3 0 0 N R F1 (cpA A1 10 0 2 (96 * c0) k) [some (rf 0), some (pI c0), some (pI (k : Int))] [] 16 := by
    intro F1 A1 h17 hRR d
    induction d with
    | zero => intro k hd; omega
    | succ d ih =>
      intro k hd hk
      refine x_iload_n (pc2 := 17) hC rfl rfl dX8_ends_16 rfl ?_
      refine x_bipush (pc2 := 19) hC rfl dX8_ends_17 rfl ?_
      refine x_icmp_ge (tgt := 45) (pc2 := 22) hC (by omega) (by omega) dX8_ends_19 rfl rfl (fun h_19 => ?_) (fun h_19 => ?_)
      · refine x_iconst (pc2 := 46) hC dX8_ends_45 rfl ?_
        exact x_iret hC hr hlk ⟨_, rfl, Or.inr ⟨h17, rfl, by rw [show (k : Int) = 96 by omega]; exact hRR⟩⟩ dX8_ends_46
      · refine x_aload_n (pc2 := 23) hC rfl rfl dX8_ends_22 rfl ?_
        refine g_811 (pc2 := 26) hC hK (by assumption) (by assumption) (by assumption) dX8_ends_23 rfl ?_
        refine x_bipush (pc2 := 28) hC rfl dX8_ends_26 rfl ?_
        refine x_iload_n (pc2 := 29) hC rfl rfl dX8_ends_28 rfl ?_
        refine x_imul (pc2 := 30) hC dX8_ends_29 rfl ?_
        refine x_iload_n (pc2 := 31) hC rfl rfl dX8_ends_30 rfl ?_
        refine x_iadd (pc2 := 32) hC dX8_ends_31 rfl ?_
        refine x_aload_n (pc2 := 33) hC rfl rfl dX8_ends_32 rfl ?_
        refine g_825 (pc2 := 36) hC hK (by assumption) (by assumption) (by assumption) dX8_ends_33 rfl ?_
        refine x_iload_n (pc2 := 37) hC rfl rfl dX8_ends_36 rfl ?_
        refine x_lald (pc2 := 38) hC hK (by assumption) (by assumption) (by omega) (by decide) dX8_ends_37 rfl ?_
        refine x_last (pc2 := 39) hC hK (by assumption) (by assumption) (by omega) (by decide) dX8_ends_38 rfl ?_
        refine x_iinc (pc2 := 42) (loc2 := [_, _, _]) hC (by decide) rfl rfl dX8_ends_39 rfl ?_
        refine x_goto (pc2 := 16) hC dX8_ends_42 rfl ?_
        have e := cpA_succ (A := A1) (s := 10) (d := 2) (so := 0) (dq := 96 * c0) (k := (k : Int)) (by omega) (Or.inl (by decide))
        rw [Int.zero_add] at e
        rw [e]
        exact ih (k + 1) (by omega) (by omega)
  refine x_aload_n (pc2 := 1) hC rfl rfl dX8_ends_0 rfl ?_
  refine g_826 (pc2 := 4) hC hK (by assumption) (by assumption) dX8_ends_1 rfl ?_
  refine x_if_eq (tgt := 10) (pc2 := 7) hC (by rcases hb with q | q <;> rw [q] <;> exact ⟨by decide, by decide⟩) dX8_ends_4 rfl rfl (fun h_4 => ?_) (fun h_4 => ?_)
  · refine x_aload_n (pc2 := 11) hC rfl rfl dX8_ends_10 rfl ?_
    refine x_cVv (pc2 := 14) (ci := 8) hC hK (n_keep l hM (n := (hS S).length) b3 hi.2.2.2) lk_961 rfl rfl (by decide) (by assumption) (by assumption) ⟨Nat.le_of_ble_eq_true rfl, Nat.le_of_ble_eq_true rfl⟩ ⟨Nat.le_refl _, Nat.le_refl _⟩ rfl (Nat.le_of_ble_eq_true rfl) dX8_ends_11 rfl ?_
    rintro F11 A11 ⟨f0, f1, f4, a0, a2, a3⟩
    have h17 : F 0 17 = 0 := by assumption
    have hRR := hR0.keep hc hw (hmd h17) f1 f4 a0 a2 a3
    refine x_iconst (pc2 := 15) hC dX8_ends_14 rfl ?_
    refine x_istore_n (pc2 := 16) (loc2 := [_, _, _]) hC rfl (by decide) rfl dX8_ends_15 rfl ?_
    have g := loop F11 A11 h17 hRR 97 0 (by decide) (by decide)
    rw [show (((0 : Nat) : Int)) = 0 from rfl, cpA_0] at g
    exact g
  · refine x_bipush (pc2 := 9) hC rfl dX8_ends_7 rfl ?_
    exact x_iret hC hr hlk ⟨_, rfl, Or.inl ⟨by have := h_4; omega, rfl, hR0⟩⟩ dX8_ends_9
