/-- what is made so far, at the places of P -/
def MkD (bx : Int → Int → QR) (f : Int → Int) (b : Int) (P : Int → Int → Prop) : Prop := ((b = 0 ∧ ∀ t e, isT t → isT e → P t e → LT (bx t e) (low (bx t e)) ∧ fit (low (bx t e)) ∧ held f (24 * t + 6 * e) (low (bx t e))) ∨ (b = 1 ∧ ∃ t e, isT t ∧ isT e ∧ ¬ fit (low (bx t e)))) ∧ ∀ t e, isT t → isT e → ¬ P t e → held f (24 * t + 6 * e) z3
theorem MkD.step {bx : Int → Int → QR} {f f2 : Int → Int} {b b2 t e : Int} {P P2 : Int → Int → Prop} {r : T3} (h : MkD bx f b P) (ht : isT t) (he : isT e) (hP : ∀ t' e', P2 t' e' ↔ (P t' e' ∨ (t' = t ∧ e' = e))) (hlow : low (q3 r) = low (bx t e) ∧ LT (bx t e) (low (bx t e))) (m3 : (fit (low (q3 r)) ∧ b2 = b ∧ held f2 (24 * t + 6 * e) (low (q3 r))) ∨ (¬ fit (low (q3 r)) ∧ b2 = 1)) (m4 : ∀ k, k < 24 * t + 6 * e ∨ 24 * t + 6 * e + 6 ≤ k → f2 k = f k) : MkD bx f2 b2 P2 := by
  obtain ⟨h1, h2⟩ := h
  obtain ⟨l1, l2⟩ := hlow
  rw [l1] at m3
  have far : ∀ t' e' x, isT t' → isT e' → ¬ (t' = t ∧ e' = e) → held f (24 * t' + 6 * e') x → held f2 (24 * t' + 6 * e') x := fun t' e' x ht' he' q hh => held_of hh (fun u u0 u1 => m4 _ (by
    by_cases z : t' = t
    · have : e' ≠ e := fun y => q ⟨z, y⟩
      omega
    · omega))
  refine ⟨?_, fun t' e' ht' he' q => ?_⟩
  · rcases m3 with ⟨m1, rfl, m2⟩ | ⟨m1, rfl⟩
    · rcases h1 with ⟨rfl, h1⟩ | ⟨rfl, h1⟩
      · refine Or.inl ⟨rfl, fun t' e' ht' he' q => ?_⟩
        by_cases y : t' = t ∧ e' = e
        · rw [y.1, y.2]; exact ⟨l2, m1, m2⟩
        · obtain ⟨a1, a2, a3⟩ := h1 t' e' ht' he' (((hP t' e').mp q).resolve_right y)
          exact ⟨a1, a2, far t' e' _ ht' he' y a3⟩
      · exact Or.inr ⟨rfl, h1⟩
    · exact Or.inr ⟨rfl, t, e, ht, he, m1⟩
  · have y : ¬ (t' = t ∧ e' = e) := fun y => q ((hP t' e').mpr (Or.inr y))
    exact far t' e' _ ht' he' y (h2 t' e' ht' he' (fun z => q ((hP t' e').mpr (Or.inl z))))
theorem MkD.ends {S : SP} {c b : Int} {bx : Int → Int → QR} {f : Int → Int} {P : Int → Int → Prop} (h : MkD bx f b P) (hi : invS S) (hc : isB S c) (hz : ∀ t e, isT t → isT e → ¬ P t e → bx t e = zq) (h1 : ptS S c = 1 → ∀ t e, isT t → isT e → e ≠ 0 → bx t e = zq) : (b = 0 ∨ b = 1) ∧ ∃ w, wfB (ptS S c) w ∧ (b = 0 → ∀ t e, isT t → isT e → held f (24 * t + 6 * e) (w t e)) ∧ (b = 0 → w = (fun t e => low (bx t e)) ∧ ∀ t e, isT t → isT e → LT (bx t e) (low (bx t e)) ∧ fit (low (bx t e))) ∧ (b = 1 → ∃ t e, isT t ∧ isT e ∧ ¬ fit (low (bx t e))) := by
  obtain ⟨g1, g2⟩ := h
  rcases g1 with ⟨rfl, g1⟩ | ⟨rfl, g1⟩
  · have key : ∀ t e, isT t → isT e → LT (bx t e) (low (bx t e)) ∧ fit (low (bx t e)) ∧ held f (24 * t + 6 * e) (low (bx t e)) := fun t e ht he => by
      by_cases q : P t e
      · exact g1 t e ht he q
      · rw [hz t e ht he q, low_z.2]
        exact ⟨low_z.1, ok3_z.2.2, g2 t e ht he q⟩
    refine ⟨Or.inl rfl, fun t e => low (bx t e), fun t e ht he => ⟨⟨(key t e ht he).1.1, (key t e ht he).1.2.1, (key t e ht he).2.1⟩, fun p q => ?_⟩, fun _ t e ht he => (key t e ht he).2.2, fun _ => ⟨rfl, fun t e ht he => ⟨(key t e ht he).1, (key t e ht he).2.1⟩⟩, fun q => absurd q (by decide)⟩
    show low (bx t e) = z3
    rw [h1 p t e ht he q]
    exact low_z.2
  · exact ⟨Or.inr rfl, vS S c, (hi.2.1 c hc).2, fun q => absurd q (by decide), fun q => absurd q (by decide), fun _ => g1⟩
theorem spAct.ok {S S2 : SP} {c b z : Int} {dv : Int → Int} {bx : Int → Int → QR} {w : BX} (hdv : ∀ t, isT t → dv t = 0) (g1 : b = 0 → w = (fun t e => low (bx t e)) ∧ ∀ t e, isT t → isT e → LT (bx t e) (low (bx t e)) ∧ fit (low (bx t e))) (g2 : b = 1 → ∃ t e, isT t ∧ isT e ∧ ¬ fit (low (bx t e))) (h : (b = 1 ∧ z = -5 ∧ S2 = S) ∨ (b = 0 ∧ z = 0 ∧ S2 = actS S c w)) : spAct S c dv bx z S2 := by
  right
  refine ⟨hdv, ?_⟩
  rcases h with ⟨h1, h2, h3⟩ | ⟨h1, h2, h3⟩
  · exact Or.inl ⟨g2 h1, h2, h3⟩
  · obtain ⟨e, k⟩ := g1 h1
    exact Or.inr ⟨k, h2, by rw [h3, e]⟩
theorem rr {S : SP} (hi : invS S) {b t e : Int} (hb : isB S b) (ht : isT t) (he : isT e) : 0 < (vS S b t e).2.2 := ((hi.2.1 b hb).2 t e ht he).1.1
theorem MkD.nil {bx : Int → Int → QR} {f : Int → Int} {P : Int → Int → Prop} (hP : ∀ t e, isT t → isT e → ¬ P t e) (h : ∀ t e, isT t → isT e → held f (24 * t + 6 * e) z3) : MkD bx f 0 P := ⟨Or.inl ⟨rfl, fun t e ht he q => absurd q (hP t e ht he)⟩, fun t e ht he _ => h t e ht he⟩
theorem dX8_join_0 : decode cX8_join 0 = .ok (.aload_n 0, 1) := by decide +kernel
theorem dX8_join_1 : decode cX8_join 1 = .ok (.iload_n 1, 1) := by decide +kernel
theorem dX8_join_2 : decode cX8_join 2 = .ok (.iconst 2, 1) := by decide +kernel
theorem dX8_join_3 : decode cX8_join 3 = .ok (.invokevirtual 193, 3) := by decide +kernel
theorem dX8_join_6 : decode cX8_join 6 = .ok (.ifCond .eq 21, 3) := by decide +kernel
theorem dX8_join_9 : decode cX8_join 9 = .ok (.aload_n 0, 1) := by decide +kernel
theorem dX8_join_10 : decode cX8_join 10 = .ok (.iload_n 2, 1) := by decide +kernel
theorem dX8_join_11 : decode cX8_join 11 = .ok (.iconst 2, 1) := by decide +kernel
theorem dX8_join_12 : decode cX8_join 12 = .ok (.invokevirtual 193, 3) := by decide +kernel
theorem dX8_join_15 : decode cX8_join 15 = .ok (.ifCond .eq 12, 3) := by decide +kernel
theorem dX8_join_18 : decode cX8_join 18 = .ok (.aload_n 0, 1) := by decide +kernel
theorem dX8_join_19 : decode cX8_join 19 = .ok (.iload_n 3, 1) := by decide +kernel
theorem dX8_join_20 : decode cX8_join 20 = .ok (.iconst 2, 1) := by decide +kernel
theorem dX8_join_21 : decode cX8_join 21 = .ok (.invokevirtual 193, 3) := by decide +kernel
theorem dX8_join_24 : decode cX8_join 24 = .ok (.ifCond .ne 5, 3) := by decide +kernel
theorem dX8_join_27 : decode cX8_join 27 = .ok (.iconst (-1), 1) := by decide +kernel
theorem dX8_join_28 : decode cX8_join 28 = .ok (.ireturn, 1) := by decide +kernel
theorem dX8_join_29 : decode cX8_join 29 = .ok (.iconst 0, 1) := by decide +kernel
theorem dX8_join_30 : decode cX8_join 30 = .ok (.istore 4, 2) := by decide +kernel
theorem dX8_join_32 : decode cX8_join 32 = .ok (.iload 4, 2) := by decide +kernel
theorem dX8_join_34 : decode cX8_join 34 = .ok (.iconst 4, 1) := by decide +kernel
theorem dX8_join_35 : decode cX8_join 35 = .ok (.if_icmp .ge 60, 3) := by decide +kernel
theorem dX8_join_38 : decode cX8_join 38 = .ok (.aload_n 0, 1) := by decide +kernel
theorem dX8_join_39 : decode cX8_join 39 = .ok (.iconst 0, 1) := by decide +kernel
theorem dX8_join_40 : decode cX8_join 40 = .ok (.putfield 52, 3) := by decide +kernel
theorem dX8_join_43 : decode cX8_join 43 = .ok (.aload_n 0, 1) := by decide +kernel
theorem dX8_join_44 : decode cX8_join 44 = .ok (.aload_n 0, 1) := by decide +kernel
theorem dX8_join_45 : decode cX8_join 45 = .ok (.aload_n 0, 1) := by decide +kernel
theorem dX8_join_46 : decode cX8_join 46 = .ok (.lconst 1, 1) := by decide +kernel
theorem dX8_join_47 : decode cX8_join 47 = .ok (.invokevirtual 197, 3) := by decide +kernel
theorem dX8_join_50 : decode cX8_join 50 = .ok (.aload_n 0, 1) := by decide +kernel
theorem dX8_join_51 : decode cX8_join 51 = .ok (.aload_n 0, 1) := by decide +kernel
theorem dX8_join_52 : decode cX8_join 52 = .ok (.iload_n 2, 1) := by decide +kernel
theorem dX8_join_53 : decode cX8_join 53 = .ok (.iload 4, 2) := by decide +kernel
theorem dX8_join_55 : decode cX8_join 55 = .ok (.iconst 1, 1) := by decide +kernel
theorem dX8_join_56 : decode cX8_join 56 = .ok (.iconst 1, 1) := by decide +kernel
theorem dX8_join_57 : decode cX8_join 57 = .ok (.invokevirtual 200, 3) := by decide +kernel
theorem dX8_join_60 : decode cX8_join 60 = .ok (.aload_n 0, 1) := by decide +kernel
theorem dX8_join_61 : decode cX8_join 61 = .ok (.iload_n 3, 1) := by decide +kernel
theorem dX8_join_62 : decode cX8_join 62 = .ok (.iload 4, 2) := by decide +kernel
theorem dX8_join_64 : decode cX8_join 64 = .ok (.iconst 0, 1) := by decide +kernel
theorem dX8_join_65 : decode cX8_join 65 = .ok (.iconst 0, 1) := by decide +kernel
theorem dX8_join_66 : decode cX8_join 66 = .ok (.invokevirtual 200, 3) := by decide +kernel
theorem dX8_join_69 : decode cX8_join 69 = .ok (.invokevirtual 118, 3) := by decide +kernel
theorem dX8_join_72 : decode cX8_join 72 = .ok (.invokevirtual 203, 3) := by decide +kernel
theorem dX8_join_75 : decode cX8_join 75 = .ok (.invokevirtual 206, 3) := by decide +kernel
theorem dX8_join_78 : decode cX8_join 78 = .ok (.ifCond .eq 11, 3) := by decide +kernel
theorem dX8_join_81 : decode cX8_join 81 = .ok (.aload_n 0, 1) := by decide +kernel
theorem dX8_join_82 : decode cX8_join 82 = .ok (.iload 4, 2) := by decide +kernel
theorem dX8_join_84 : decode cX8_join 84 = .ok (.iconst 1, 1) := by decide +kernel
theorem dX8_join_85 : decode cX8_join 85 = .ok (.invokevirtual 209, 3) := by decide +kernel
theorem dX8_join_88 : decode cX8_join 88 = .ok (.ireturn, 1) := by decide +kernel
theorem dX8_join_89 : decode cX8_join 89 = .ok (.iinc 4 1, 3) := by decide +kernel
theorem dX8_join_92 : decode cX8_join 92 = .ok (.goto (-60), 3) := by decide +kernel
theorem dX8_join_95 : decode cX8_join 95 = .ok (.aload_n 0, 1) := by decide +kernel
theorem dX8_join_96 : decode cX8_join 96 = .ok (.invokevirtual 212, 3) := by decide +kernel
theorem dX8_join_99 : decode cX8_join 99 = .ok (.iconst 0, 1) := by decide +kernel
theorem dX8_join_100 : decode cX8_join 100 = .ok (.istore 4, 2) := by decide +kernel
theorem dX8_join_102 : decode cX8_join 102 = .ok (.iload 4, 2) := by decide +kernel
theorem dX8_join_104 : decode cX8_join 104 = .ok (.iconst 4, 1) := by decide +kernel
theorem dX8_join_105 : decode cX8_join 105 = .ok (.if_icmp .ge 88, 3) := by decide +kernel
theorem dX8_join_108 : decode cX8_join 108 = .ok (.iconst 0, 1) := by decide +kernel
theorem dX8_join_109 : decode cX8_join 109 = .ok (.istore 5, 2) := by decide +kernel
theorem dX8_join_111 : decode cX8_join 111 = .ok (.iload 5, 2) := by decide +kernel
theorem dX8_join_113 : decode cX8_join 113 = .ok (.iconst 4, 1) := by decide +kernel
theorem dX8_join_114 : decode cX8_join 114 = .ok (.if_icmp .ge 73, 3) := by decide +kernel
theorem dX8_join_117 : decode cX8_join 117 = .ok (.aload_n 0, 1) := by decide +kernel
theorem dX8_join_118 : decode cX8_join 118 = .ok (.iconst 0, 1) := by decide +kernel
theorem dX8_join_119 : decode cX8_join 119 = .ok (.putfield 52, 3) := by decide +kernel
theorem dX8_join_122 : decode cX8_join 122 = .ok (.aload_n 0, 1) := by decide +kernel
theorem dX8_join_123 : decode cX8_join 123 = .ok (.aload_n 0, 1) := by decide +kernel
theorem dX8_join_124 : decode cX8_join 124 = .ok (.lconst 1, 1) := by decide +kernel
theorem dX8_join_125 : decode cX8_join 125 = .ok (.invokevirtual 197, 3) := by decide +kernel
theorem dX8_join_128 : decode cX8_join 128 = .ok (.aload_n 0, 1) := by decide +kernel
theorem dX8_join_129 : decode cX8_join 129 = .ok (.aload_n 0, 1) := by decide +kernel
theorem dX8_join_130 : decode cX8_join 130 = .ok (.iload_n 2, 1) := by decide +kernel
theorem dX8_join_131 : decode cX8_join 131 = .ok (.iload 4, 2) := by decide +kernel
theorem dX8_join_133 : decode cX8_join 133 = .ok (.iconst 1, 1) := by decide +kernel
theorem dX8_join_134 : decode cX8_join 134 = .ok (.iconst 1, 1) := by decide +kernel
theorem dX8_join_135 : decode cX8_join 135 = .ok (.invokevirtual 200, 3) := by decide +kernel
theorem dX8_join_138 : decode cX8_join 138 = .ok (.aload_n 0, 1) := by decide +kernel
theorem dX8_join_139 : decode cX8_join 139 = .ok (.iload_n 3, 1) := by decide +kernel
theorem dX8_join_140 : decode cX8_join 140 = .ok (.iload 4, 2) := by decide +kernel
theorem dX8_join_142 : decode cX8_join 142 = .ok (.iconst 0, 1) := by decide +kernel
theorem dX8_join_143 : decode cX8_join 143 = .ok (.iconst 0, 1) := by decide +kernel
theorem dX8_join_144 : decode cX8_join 144 = .ok (.invokevirtual 200, 3) := by decide +kernel
theorem dX8_join_147 : decode cX8_join 147 = .ok (.invokevirtual 118, 3) := by decide +kernel
theorem dX8_join_150 : decode cX8_join 150 = .ok (.invokevirtual 203, 3) := by decide +kernel
theorem dX8_join_153 : decode cX8_join 153 = .ok (.istore 6, 2) := by decide +kernel
theorem dX8_join_155 : decode cX8_join 155 = .ok (.aload_n 0, 1) := by decide +kernel
theorem dX8_join_156 : decode cX8_join 156 = .ok (.iload 4, 2) := by decide +kernel
theorem dX8_join_158 : decode cX8_join 158 = .ok (.iload 5, 2) := by decide +kernel
theorem dX8_join_160 : decode cX8_join 160 = .ok (.iconst 2, 1) := by decide +kernel
theorem dX8_join_161 : decode cX8_join 161 = .ok (.idiv, 1) := by decide +kernel
theorem dX8_join_162 : decode cX8_join 162 = .ok (.iload 5, 2) := by decide +kernel
theorem dX8_join_164 : decode cX8_join 164 = .ok (.iconst 2, 1) := by decide +kernel
theorem dX8_join_165 : decode cX8_join 165 = .ok (.irem, 1) := by decide +kernel
theorem dX8_join_166 : decode cX8_join 166 = .ok (.aload_n 0, 1) := by decide +kernel
theorem dX8_join_167 : decode cX8_join 167 = .ok (.iload_n 2, 1) := by decide +kernel
theorem dX8_join_168 : decode cX8_join 168 = .ok (.iload_n 3, 1) := by decide +kernel
theorem dX8_join_169 : decode cX8_join 169 = .ok (.iload 4, 2) := by decide +kernel
theorem dX8_join_171 : decode cX8_join 171 = .ok (.iload 5, 2) := by decide +kernel
theorem dX8_join_173 : decode cX8_join 173 = .ok (.iload 6, 2) := by decide +kernel
theorem dX8_join_175 : decode cX8_join 175 = .ok (.invokevirtual 215, 3) := by decide +kernel
theorem dX8_join_178 : decode cX8_join 178 = .ok (.invokevirtual 173, 3) := by decide +kernel
theorem dX8_join_181 : decode cX8_join 181 = .ok (.iinc 5 1, 3) := by decide +kernel
theorem dX8_join_184 : decode cX8_join 184 = .ok (.goto (-73), 3) := by decide +kernel
theorem dX8_join_187 : decode cX8_join 187 = .ok (.iinc 4 1, 3) := by decide +kernel
theorem dX8_join_190 : decode cX8_join 190 = .ok (.goto (-88), 3) := by decide +kernel
theorem dX8_join_193 : decode cX8_join 193 = .ok (.aload_n 0, 1) := by decide +kernel
theorem dX8_join_194 : decode cX8_join 194 = .ok (.iload_n 1, 1) := by decide +kernel
theorem dX8_join_195 : decode cX8_join 195 = .ok (.invokevirtual 177, 3) := by decide +kernel
theorem dX8_join_198 : decode cX8_join 198 = .ok (.ireturn, 1) := by decide +kernel
set_option maxHeartbeats 16000000 in
theorem q_join (l : Launch) {D : va_G} {ids : Nat → ClassId} {β : Nat} {sh : Nat → Nat × Nat} {N : Nat} {R : Nat → Nat → Option Nat} {F : Nat → Nat → Int} {A : Nat → Int → Int} {S : SP} (hM : MoL sh R N) (hR0 : RepM S F A) {c0 a b : Int} (hc : I32 c0) (ha0 : I32 a) (hb0 : I32 b) : MetX l yX8_join cX8_join 7 (some (.int)) 6 144 D ids β sh N R F A [rf 0, pI c0, pI a, pI b] (pIr (fun z F2 A2 => ∃ S2, rJoin S c0 a b z S2 ∧ RepM S2 F2 A2)) := by
  refine MetX.of (loc := [_, _, _, _, _, _, _]) (plainFor_of_name (by decide +kernel)) (Nat.le_of_ble_eq_true rfl) rfl ?_
  intro p e s m args below meth c hC hK hr hlk
  obtain ⟨⟨m0, m1⟩, ⟨rx0, r2, r3, r7, r8, r9, r11, r12, r13, r16, r18⟩, ⟨m2, m3⟩, ⟨m4, m5⟩, ⟨m6, m7⟩, ⟨m8, m9⟩, ⟨m10, m11⟩, ⟨m12, m13⟩, ⟨m14, m15⟩, ⟨m16, m17⟩, ⟨m18, m19⟩, ⟨m20, m21⟩, ⟨m22, m23⟩⟩ := id hM
  obtain ⟨hi, b1, b2, b3, b4, b5, b6, b7, b8⟩ := id hR0
  have i1 := hi.1
  have n16 := hi.1.2
  have body0 : ∀ (t : Int) (F1 : Nat → Nat → Int) (A1 : Nat → Int → Int) {e6 : Option PV}, isT t → isB S c0 → isB S a → isB S b → RepM S F1 A1 → (F1 0 17 = 0 ∨ F1 0 17 = 1) → (joinE (nmN S a t) (nmN S b t)).1 ≠ (0, 0) → MkD (fun t e => joinX (nmN S a t) (nmN S b t) e) (A1 10) (F1 0 17) (fun t0 e0 => t0 < t ∨ (t0 = t ∧ e0 < 0)) → (∀ (F2 : Nat → Nat → Int) (A2 : Nat → Int → Int) (e7 : Option PV), RepM S F2 A2 → MkD (fun t e => joinX (nmN S a t) (nmN S b t) e) (A2 10) (F2 0 17) (fun t0 e0 => t0 < t ∨ (t0 = t ∧ e0 < 1)) → X p l e { frames := 6, cells := 0, slots := 0, locals := 144 } s m args below meth c (MQ below (QX D ids β sh N R (pIr (fun z F2 A2 => ∃ S2, rJoin S c0 a b z S2 ∧ RepM S2 F2 A2))) args s 0 0 (inG β N)) (inG β N) D ids β sh 7 0 0 N R F2 A2 [some (rf 0), some (pI c0), some (pI a), some (pI b), some (pI t), some (pI 1), e7] [] 111) → X p l e { frames := 6, cells := 0, slots := 0, locals := 144 } s m args below meth c (MQ below (QX D ids β sh N R (pIr (fun z F2 A2 => ∃ S2, rJoin S c0 a b z S2 ∧ RepM S2 F2 A2))) args s 0 0 (inG β N)) (inG β N) D ids β sh 7 0 0 N R F1 A1 [some (rf 0), some (pI c0), some (pI a), some (pI b), some (pI t), some (pI 0), e6] [] 117 := by
    intro t F1 A1 e6 ht hc2 ha hb hR1 h17 hdn hmk next
    have hb6 := hR1.2.2.2.2.2.2.1
    have a16 := ha.2
    have b16 := hb.2
    have a00 := ha.1
    have b00 := hb.1
    have qe : q3 (tadd (1, 0, 1) (tneg (tmul (vS S a t 3) (vS S b t 0)))) = joinE (nmN S a t) (nmN S b t) := by
      rw [q_sub, q_mul]; rfl
    refine x_aload_n (pc2 := 118) hC rfl rfl dX8_join_117 rfl ?_
    refine x_iconst (pc2 := 119) hC dX8_join_118 rfl ?_
    refine p_819 (pc2 := 122) hC hK (by assumption) (by assumption) dX8_join_119 rfl ?_
    refine x_aload_n (pc2 := 123) hC rfl rfl dX8_join_122 rfl ?_
    refine x_aload_n (pc2 := 124) hC rfl rfl dX8_join_123 rfl ?_
    refine x_lconst1 (pc2 := 125) hC dX8_join_124 rfl ?_
    refine x_cVi (pc2 := 128) (ci := 8) hC hK (t_whole l hM (St.zero (F := F1) (A := A1)) (by decide) (v := 1) (by decide)) lk_981 rfl rfl (by decide) (by assumption) (by assumption) ⟨Nat.le_of_ble_eq_true rfl, Nat.le_of_ble_eq_true rfl⟩ ⟨Nat.le_refl _, Nat.le_refl _⟩ rfl (Nat.le_of_ble_eq_true rfl) dX8_join_125 rfl ?_
    rintro z125 F125 A125 ⟨ez125, V125, hS125, v125, k125, g125⟩
    obtain rfl := ez125.symm
    replace hS125 : St 6 V125 F125 A125 := hS125
    rw [show (0 : Int) + 3 = 3 from rfl]
    obtain ⟨wk0_125, ewk0_125⟩ : ∃ w : T3, w = (1, 0, 1) := ⟨_, rfl⟩
    have uwk0_125 : tr V125 3 = wk0_125 := by rw [ewk0_125]; exact v125
    have bwk0_125 : bdt 1 1 wk0_125 := by rw [ewk0_125]; exact ⟨by unfold bd; decide, by unfold bd; decide, by unfold bd; decide⟩
    clear v125
    refine x_aload_n (pc2 := 129) hC rfl rfl dX8_join_128 rfl ?_
    refine x_aload_n (pc2 := 130) hC rfl rfl dX8_join_129 rfl ?_
    refine x_iload_n (pc2 := 131) hC rfl rfl dX8_join_130 rfl ?_
    refine x_iload (pc2 := 133) hC rfl dX8_join_131 rfl ?_
    refine x_iconst (pc2 := 134) hC dX8_join_133 rfl ?_
    refine x_iconst (pc2 := 135) hC dX8_join_134 rfl ?_
    refine x_cVi (pc2 := 138) (ci := 8) hC hK (t_entry l hM hS125 (by decide) ⟨by omega, by omega⟩ (x := vS S a t 3) (by rw [g125.a (by decide)]; exact (show held (A1 2) (96 * a + 24 * t + 6 * (2 * 1 + 1)) (vS S a t 3) from hb6 a t 3 ha ht ⟨by decide, by decide⟩)) ((hi.2.1 a ha).2 t 3 ht ⟨by decide, by decide⟩).1.2.2) lk_985 rfl rfl (by decide) (by assumption) (by assumption) ⟨Nat.le_of_ble_eq_true rfl, Nat.le_of_ble_eq_true rfl⟩ ⟨Nat.le_refl _, Nat.le_refl _⟩ rfl (Nat.le_of_ble_eq_true rfl) dX8_join_135 rfl ?_
    rintro z135 F135 A135 ⟨ez135, V135, hS135, v135, k135, g135⟩
    obtain rfl := ez135.symm
    replace hS135 : St 24 V135 F135 A135 := hS135
    have t135_wk0_125 : tr V135 3 = wk0_125 := (tr_keep (by decide) k135).trans uwk0_125
    rw [show (6 : Int) + 15 = 21 from rfl]
    obtain ⟨wk0_135, ewk0_135⟩ : ∃ w : T3, w = vS S a t 3 := ⟨_, rfl⟩
    have uwk0_135 : tr V135 21 = wk0_135 := by rw [ewk0_135]; exact v135
    have bwk0_135 : bdt 25 25 wk0_135 := by rw [ewk0_135]; exact (ok_bdt ((hi.2.1 a ha).2 t 3 ht ⟨by decide, by decide⟩).1)
    clear v135
    refine x_aload_n (pc2 := 139) hC rfl rfl dX8_join_138 rfl ?_
    refine x_iload_n (pc2 := 140) hC rfl rfl dX8_join_139 rfl ?_
    refine x_iload (pc2 := 142) hC rfl dX8_join_140 rfl ?_
    refine x_iconst (pc2 := 143) hC dX8_join_142 rfl ?_
    refine x_iconst (pc2 := 144) hC dX8_join_143 rfl ?_
    refine x_cVi (pc2 := 147) (ci := 8) hC hK (t_entry l hM hS135 (by decide) ⟨by omega, by omega⟩ (x := vS S b t 0) (by rw [(g125.tr g135).a (by decide)]; exact (show held (A1 2) (96 * b + 24 * t + 6 * (2 * 0 + 0)) (vS S b t 0) from hb6 b t 0 hb ht ⟨by decide, by decide⟩)) ((hi.2.1 b hb).2 t 0 ht ⟨by decide, by decide⟩).1.2.2) lk_985 rfl rfl (by decide) (by assumption) (by assumption) ⟨Nat.le_of_ble_eq_true rfl, Nat.le_of_ble_eq_true rfl⟩ ⟨Nat.le_refl _, Nat.le_refl _⟩ rfl (Nat.le_of_ble_eq_true rfl) dX8_join_144 rfl ?_
    rintro z144 F144 A144 ⟨ez144, V144, hS144, v144, k144, g144⟩
    obtain rfl := ez144.symm
    replace hS144 : St 42 V144 F144 A144 := hS144
    have t144_wk0_125 : tr V144 3 = wk0_125 := (tr_keep (by decide) k144).trans t135_wk0_125
    have t144_wk0_135 : tr V144 21 = wk0_135 := (tr_keep (by decide) k144).trans uwk0_135
    rw [show (24 : Int) + 15 = 39 from rfl]
    obtain ⟨wk0_144, ewk0_144⟩ : ∃ w : T3, w = vS S b t 0 := ⟨_, rfl⟩
    have uwk0_144 : tr V144 39 = wk0_144 := by rw [ewk0_144]; exact v144
    have bwk0_144 : bdt 25 25 wk0_144 := by rw [ewk0_144]; exact (ok_bdt ((hi.2.1 b hb).2 t 0 ht ⟨by decide, by decide⟩).1)
    clear v144
    refine x_cVi (pc2 := 150) (ci := 8) hC hK (t_product l hM hS144 (x := 21) (y := 39) ⟨by decide, by decide⟩ ⟨by decide, by decide⟩ t144_wk0_135 uwk0_144 bwk0_135 bwk0_144 (by decide) ⟨by decide, by decide⟩) lk_1004 rfl rfl (by decide) (by assumption) (by assumption) ⟨Nat.le_of_ble_eq_true rfl, Nat.le_of_ble_eq_true rfl⟩ ⟨Nat.le_refl _, Nat.le_refl _⟩ rfl (Nat.le_of_ble_eq_true rfl) dX8_join_147 rfl ?_
    rintro z147 F147 A147 ⟨ez147, V147, hS147, v147, k147, g147⟩
    obtain rfl := ez147.symm
    replace hS147 : St 53 V147 F147 A147 := hS147
    have t147_wk0_125 : tr V147 3 = wk0_125 := (tr_keep (by decide) k147).trans t144_wk0_125
    have t147_wk0_135 : tr V147 21 = wk0_135 := (tr_keep (by decide) k147).trans t144_wk0_135
    have t147_wk0_144 : tr V147 39 = wk0_144 := (tr_keep (by decide) k147).trans uwk0_144
    rw [show (42 : Int) + 8 = 50 from rfl]
    obtain ⟨wk0_147, ewk0_147⟩ : ∃ w : T3, w = tmul wk0_135 wk0_144 := ⟨_, rfl⟩
    have uwk0_147 : tr V147 50 = wk0_147 := by rw [ewk0_147]; exact v147
    have bwk0_147 : bdt 51 50 wk0_147 := by rw [ewk0_147]; exact (bdt_mul bwk0_135 bwk0_144 (by decide) (by decide))
    clear v147
    refine x_cVi (pc2 := 153) (ci := 8) hC hK (t_sub l hM hS147 (x := 3) (y := 50) ⟨by decide, by decide⟩ ⟨by decide, by decide⟩ t147_wk0_125 uwk0_147 bwk0_125 bwk0_147 (by decide) ⟨by decide, by decide, by decide⟩) lk_1012 rfl rfl (by decide) (by assumption) (by assumption) ⟨Nat.le_of_ble_eq_true rfl, Nat.le_of_ble_eq_true rfl⟩ ⟨Nat.le_refl _, Nat.le_refl _⟩ rfl (Nat.le_of_ble_eq_true rfl) dX8_join_150 rfl ?_
    rintro z150 F150 A150 ⟨ez150, V150, hS150, v150, k150, g150⟩
    obtain rfl := ez150.symm
    replace hS150 : St 68 V150 F150 A150 := hS150
    have t150_wk0_125 : tr V150 3 = wk0_125 := (tr_keep (by decide) k150).trans t147_wk0_125
    have t150_wk0_135 : tr V150 21 = wk0_135 := (tr_keep (by decide) k150).trans t147_wk0_135
    have t150_wk0_144 : tr V150 39 = wk0_144 := (tr_keep (by decide) k150).trans t147_wk0_144
    have t150_wk0_147 : tr V150 50 = wk0_147 := (tr_keep (by decide) k150).trans uwk0_147
    rw [show (53 : Int) + 12 = 65 from rfl]
    obtain ⟨wk0_150, ewk0_150⟩ : ∃ w : T3, w = tadd wk0_125 (tneg wk0_147) := ⟨_, rfl⟩
    have uwk0_150 : tr V150 65 = wk0_150 := by rw [ewk0_150]; exact v150
    have bwk0_150 : bdt 53 51 wk0_150 := by rw [ewk0_150]; exact (bdt_add bwk0_125 (bdt_neg bwk0_147) (by decide) (by decide) (by decide))
    clear v150
    have hRe : RepM S F150 A150 := hR1.K ((FrK.f (by decide)).tr ((((g125.tr g135).tr g144).tr g147).tr g150).K)
    refine x_istore (pc2 := 155) (loc2 := [_, _, _, _, _, _, _]) hC (by decide) rfl dX8_join_153 rfl ?_
    refine x_aload_n (pc2 := 156) hC rfl rfl dX8_join_155 rfl ?_
    refine x_iload (pc2 := 158) hC rfl dX8_join_156 rfl ?_
    refine x_iload (pc2 := 160) hC rfl dX8_join_158 rfl ?_
    refine x_iconst (pc2 := 161) hC dX8_join_160 rfl ?_
    refine x_idivp (pc2 := 162) hC (by omega) (by omega) (by omega) (by omega) dX8_join_161 rfl ?_
    refine x_iload (pc2 := 164) hC rfl dX8_join_162 rfl ?_
    refine x_iconst (pc2 := 165) hC dX8_join_164 rfl ?_
    refine x_iremp (pc2 := 166) hC (by omega) (by omega) (by omega) (by omega) dX8_join_165 rfl ?_
    refine x_aload_n (pc2 := 167) hC rfl rfl dX8_join_166 rfl ?_
    refine x_iload_n (pc2 := 168) hC rfl rfl dX8_join_167 rfl ?_
    refine x_iload_n (pc2 := 169) hC rfl rfl dX8_join_168 rfl ?_
    refine x_iload (pc2 := 171) hC rfl dX8_join_169 rfl ?_
    refine x_iload (pc2 := 173) hC rfl dX8_join_171 rfl ?_
    refine x_iload (pc2 := 175) hC rfl dX8_join_173 rfl ?_
    refine x_cVi (pc2 := 178) (ci := 8) hC hK (t_joined0 l hM hRe (by exact hS150) ha hb ht uwk0_150 bwk0_150) lk_1040 rfl rfl (by decide) (by assumption) (by assumption) ⟨Nat.le_of_ble_eq_true rfl, Nat.le_of_ble_eq_true rfl⟩ ⟨Nat.le_refl _, Nat.le_refl _⟩ rfl (Nat.le_of_ble_eq_true rfl) dX8_join_175 rfl ?_
    rintro z175 F175 A175 ⟨ez175, V175, hS175, v175, k175, g175⟩
    obtain rfl := ez175.symm
    replace hS175 : St 196 V175 F175 A175 := hS175
    replace v175 : tr V175 193 = tadd (vS S a t 0) (tquo (tmul (tmul (vS S a t 1) (vS S a t 2)) (vS S b t 0)) wk0_150) := v175
    rw [show (68 : Int) + 125 = 193 from rfl]
    have hz : ¬ (wk0_150.1 = 0 ∧ wk0_150.2.1 = 0) := fun y => hdn ((z3_iff (by rw [ewk0_150, ewk0_147, ewk0_125, ewk0_135, ewk0_144]; exact qe)).mp y)
    have hnz : (q3 wk0_150).1 ≠ (0, 0) := fun y => hz ⟨congrArg Prod.fst y, congrArg Prod.snd y⟩
    have hrp : 0 < (tadd (vS S a t 0) (tquo (tmul (tmul (vS S a t 1) (vS S a t 2)) (vS S b t 0)) wk0_150)).2.2 := r_add (rr hi ha ht ⟨by decide, by decide⟩) (r_quo (r_mul (r_mul (rr hi ha ht ⟨by decide, by decide⟩) (rr hi ha ht ⟨by decide, by decide⟩)) (rr hi hb ht ⟨by decide, by decide⟩)) hz)
    have gg := ((((g125.tr g135).tr g144).tr g147).tr g150).tr g175
    have e17 : F175 0 17 = F1 0 17 := (gg.2.1 17 (by decide) (by decide) (by decide)).trans (by rw [uF_nj (by decide)])
    have e10 : A175 10 = A1 10 := gg.a (by decide)
    have qe2 : q3 wk0_150 = joinE (nmN S a t) (nmN S b t) := by rw [ewk0_150, ewk0_147, ewk0_125, ewk0_135, ewk0_144]; exact qe
    refine x_cVv (pc2 := 181) (ci := 8) hC hK (n_makes l hM hS175 (by decide) ht (i := 0 / 2) (j := 0 % 2) ⟨by decide, by decide⟩ (x := 193) ⟨by decide, by decide⟩ v175 hrp (by rw [e17]; exact h17)) lk_919 rfl rfl (by decide) (by assumption) (by assumption) ⟨Nat.le_of_ble_eq_true rfl, Nat.le_of_ble_eq_true rfl⟩ ⟨Nat.le_refl _, Nat.le_refl _⟩ rfl (Nat.le_of_ble_eq_true rfl) dX8_join_178 rfl ?_
    rintro F178 A178 ⟨-, m2, m3, m4, m5⟩
    have ml := mk_low (x := joinX (nmN S a t) (nmN S b t) 0) hrp (joinX_un (hi.un (s := 0) ha ht) (hi.un (s := 0) hb ht) hdn 0) (by rw [q_add]; exact eqf.sum (eqf.rf _) ((q_quo _ _).tr (un_div (by rw [q_mul, q_mul]; exact un_mul (un_mul (un_q3 (rr hi ha ht ⟨by decide, by decide⟩)) (un_q3 (rr hi ha ht ⟨by decide, by decide⟩))) (un_q3 (rr hi hb ht ⟨by decide, by decide⟩))) hnz) (by rw [q_mul, q_mul, qe2]; exact eqf.rf _))) m2
    rw [e17] at m3
    refine x_iinc (pc2 := 184) (loc2 := [_, _, _, _, _, _, _]) hC (by decide) rfl rfl dX8_join_181 rfl ?_
    refine x_goto (pc2 := 111) hC dX8_join_184 rfl ?_
    exact next _ _ _ (hR1.K ((((FrK.f (by decide)).tr gg.K)).tr m5)) (hmk.step ht (e := 0) ⟨by decide, by decide⟩ (fun t0 e0 => ⟨fun y => by omega, fun y => by omega⟩) ml m3 (fun n hn => by rw [m4 n (by omega), e10]))
  have body1 : ∀ (t : Int) (F1 : Nat → Nat → Int) (A1 : Nat → Int → Int) {e6 : Option PV}, isT t → isB S c0 → isB S a → isB S b → RepM S F1 A1 → (F1 0 17 = 0 ∨ F1 0 17 = 1) → (joinE (nmN S a t) (nmN S b t)).1 ≠ (0, 0) → MkD (fun t e => joinX (nmN S a t) (nmN S b t) e) (A1 10) (F1 0 17) (fun t0 e0 => t0 < t ∨ (t0 = t ∧ e0 < 1)) → (∀ (F2 : Nat → Nat → Int) (A2 : Nat → Int → Int) (e7 : Option PV), RepM S F2 A2 → MkD (fun t e => joinX (nmN S a t) (nmN S b t) e) (A2 10) (F2 0 17) (fun t0 e0 => t0 < t ∨ (t0 = t ∧ e0 < 2)) → X p l e { frames := 6, cells := 0, slots := 0, locals := 144 } s m args below meth c (MQ below (QX D ids β sh N R (pIr (fun z F2 A2 => ∃ S2, rJoin S c0 a b z S2 ∧ RepM S2 F2 A2))) args s 0 0 (inG β N)) (inG β N) D ids β sh 7 0 0 N R F2 A2 [some (rf 0), some (pI c0), some (pI a), some (pI b), some (pI t), some (pI 2), e7] [] 111) → X p l e { frames := 6, cells := 0, slots := 0, locals := 144 } s m args below meth c (MQ below (QX D ids β sh N R (pIr (fun z F2 A2 => ∃ S2, rJoin S c0 a b z S2 ∧ RepM S2 F2 A2))) args s 0 0 (inG β N)) (inG β N) D ids β sh 7 0 0 N R F1 A1 [some (rf 0), some (pI c0), some (pI a), some (pI b), some (pI t), some (pI 1), e6] [] 117 := by
    intro t F1 A1 e6 ht hc2 ha hb hR1 h17 hdn hmk next
    have hb6 := hR1.2.2.2.2.2.2.1
    have a16 := ha.2
    have b16 := hb.2
    have a00 := ha.1
    have b00 := hb.1
    have qe : q3 (tadd (1, 0, 1) (tneg (tmul (vS S a t 3) (vS S b t 0)))) = joinE (nmN S a t) (nmN S b t) := by
      rw [q_sub, q_mul]; rfl
    refine x_aload_n (pc2 := 118) hC rfl rfl dX8_join_117 rfl ?_
    refine x_iconst (pc2 := 119) hC dX8_join_118 rfl ?_
    refine p_819 (pc2 := 122) hC hK (by assumption) (by assumption) dX8_join_119 rfl ?_
    refine x_aload_n (pc2 := 123) hC rfl rfl dX8_join_122 rfl ?_
    refine x_aload_n (pc2 := 124) hC rfl rfl dX8_join_123 rfl ?_
    refine x_lconst1 (pc2 := 125) hC dX8_join_124 rfl ?_
    refine x_cVi (pc2 := 128) (ci := 8) hC hK (t_whole l hM (St.zero (F := F1) (A := A1)) (by decide) (v := 1) (by decide)) lk_981 rfl rfl (by decide) (by assumption) (by assumption) ⟨Nat.le_of_ble_eq_true rfl, Nat.le_of_ble_eq_true rfl⟩ ⟨Nat.le_refl _, Nat.le_refl _⟩ rfl (Nat.le_of_ble_eq_true rfl) dX8_join_125 rfl ?_
    rintro z125 F125 A125 ⟨ez125, V125, hS125, v125, k125, g125⟩
    obtain rfl := ez125.symm
    replace hS125 : St 6 V125 F125 A125 := hS125
    rw [show (0 : Int) + 3 = 3 from rfl]
    obtain ⟨wk1_125, ewk1_125⟩ : ∃ w : T3, w = (1, 0, 1) := ⟨_, rfl⟩
    have uwk1_125 : tr V125 3 = wk1_125 := by rw [ewk1_125]; exact v125
    have bwk1_125 : bdt 1 1 wk1_125 := by rw [ewk1_125]; exact ⟨by unfold bd; decide, by unfold bd; decide, by unfold bd; decide⟩
    clear v125
    refine x_aload_n (pc2 := 129) hC rfl rfl dX8_join_128 rfl ?_
    refine x_aload_n (pc2 := 130) hC rfl rfl dX8_join_129 rfl ?_
    refine x_iload_n (pc2 := 131) hC rfl rfl dX8_join_130 rfl ?_
    refine x_iload (pc2 := 133) hC rfl dX8_join_131 rfl ?_
    refine x_iconst (pc2 := 134) hC dX8_join_133 rfl ?_
    refine x_iconst (pc2 := 135) hC dX8_join_134 rfl ?_
    refine x_cVi (pc2 := 138) (ci := 8) hC hK (t_entry l hM hS125 (by decide) ⟨by omega, by omega⟩ (x := vS S a t 3) (by rw [g125.a (by decide)]; exact (show held (A1 2) (96 * a + 24 * t + 6 * (2 * 1 + 1)) (vS S a t 3) from hb6 a t 3 ha ht ⟨by decide, by decide⟩)) ((hi.2.1 a ha).2 t 3 ht ⟨by decide, by decide⟩).1.2.2) lk_985 rfl rfl (by decide) (by assumption) (by assumption) ⟨Nat.le_of_ble_eq_true rfl, Nat.le_of_ble_eq_true rfl⟩ ⟨Nat.le_refl _, Nat.le_refl _⟩ rfl (Nat.le_of_ble_eq_true rfl) dX8_join_135 rfl ?_
    rintro z135 F135 A135 ⟨ez135, V135, hS135, v135, k135, g135⟩
    obtain rfl := ez135.symm
    replace hS135 : St 24 V135 F135 A135 := hS135
    have t135_wk1_125 : tr V135 3 = wk1_125 := (tr_keep (by decide) k135).trans uwk1_125
    rw [show (6 : Int) + 15 = 21 from rfl]
    obtain ⟨wk1_135, ewk1_135⟩ : ∃ w : T3, w = vS S a t 3 := ⟨_, rfl⟩
    have uwk1_135 : tr V135 21 = wk1_135 := by rw [ewk1_135]; exact v135
    have bwk1_135 : bdt 25 25 wk1_135 := by rw [ewk1_135]; exact (ok_bdt ((hi.2.1 a ha).2 t 3 ht ⟨by decide, by decide⟩).1)
    clear v135
    refine x_aload_n (pc2 := 139) hC rfl rfl dX8_join_138 rfl ?_
    refine x_iload_n (pc2 := 140) hC rfl rfl dX8_join_139 rfl ?_
    refine x_iload (pc2 := 142) hC rfl dX8_join_140 rfl ?_
    refine x_iconst (pc2 := 143) hC dX8_join_142 rfl ?_
    refine x_iconst (pc2 := 144) hC dX8_join_143 rfl ?_
    refine x_cVi (pc2 := 147) (ci := 8) hC hK (t_entry l hM hS135 (by decide) ⟨by omega, by omega⟩ (x := vS S b t 0) (by rw [(g125.tr g135).a (by decide)]; exact (show held (A1 2) (96 * b + 24 * t + 6 * (2 * 0 + 0)) (vS S b t 0) from hb6 b t 0 hb ht ⟨by decide, by decide⟩)) ((hi.2.1 b hb).2 t 0 ht ⟨by decide, by decide⟩).1.2.2) lk_985 rfl rfl (by decide) (by assumption) (by assumption) ⟨Nat.le_of_ble_eq_true rfl, Nat.le_of_ble_eq_true rfl⟩ ⟨Nat.le_refl _, Nat.le_refl _⟩ rfl (Nat.le_of_ble_eq_true rfl) dX8_join_144 rfl ?_
    rintro z144 F144 A144 ⟨ez144, V144, hS144, v144, k144, g144⟩
    obtain rfl := ez144.symm
    replace hS144 : St 42 V144 F144 A144 := hS144
    have t144_wk1_125 : tr V144 3 = wk1_125 := (tr_keep (by decide) k144).trans t135_wk1_125
    have t144_wk1_135 : tr V144 21 = wk1_135 := (tr_keep (by decide) k144).trans uwk1_135
    rw [show (24 : Int) + 15 = 39 from rfl]
    obtain ⟨wk1_144, ewk1_144⟩ : ∃ w : T3, w = vS S b t 0 := ⟨_, rfl⟩
    have uwk1_144 : tr V144 39 = wk1_144 := by rw [ewk1_144]; exact v144
    have bwk1_144 : bdt 25 25 wk1_144 := by rw [ewk1_144]; exact (ok_bdt ((hi.2.1 b hb).2 t 0 ht ⟨by decide, by decide⟩).1)
    clear v144
    refine x_cVi (pc2 := 150) (ci := 8) hC hK (t_product l hM hS144 (x := 21) (y := 39) ⟨by decide, by decide⟩ ⟨by decide, by decide⟩ t144_wk1_135 uwk1_144 bwk1_135 bwk1_144 (by decide) ⟨by decide, by decide⟩) lk_1004 rfl rfl (by decide) (by assumption) (by assumption) ⟨Nat.le_of_ble_eq_true rfl, Nat.le_of_ble_eq_true rfl⟩ ⟨Nat.le_refl _, Nat.le_refl _⟩ rfl (Nat.le_of_ble_eq_true rfl) dX8_join_147 rfl ?_
    rintro z147 F147 A147 ⟨ez147, V147, hS147, v147, k147, g147⟩
    obtain rfl := ez147.symm
    replace hS147 : St 53 V147 F147 A147 := hS147
    have t147_wk1_125 : tr V147 3 = wk1_125 := (tr_keep (by decide) k147).trans t144_wk1_125
    have t147_wk1_135 : tr V147 21 = wk1_135 := (tr_keep (by decide) k147).trans t144_wk1_135
    have t147_wk1_144 : tr V147 39 = wk1_144 := (tr_keep (by decide) k147).trans uwk1_144
    rw [show (42 : Int) + 8 = 50 from rfl]
    obtain ⟨wk1_147, ewk1_147⟩ : ∃ w : T3, w = tmul wk1_135 wk1_144 := ⟨_, rfl⟩
    have uwk1_147 : tr V147 50 = wk1_147 := by rw [ewk1_147]; exact v147
    have bwk1_147 : bdt 51 50 wk1_147 := by rw [ewk1_147]; exact (bdt_mul bwk1_135 bwk1_144 (by decide) (by decide))
    clear v147
    refine x_cVi (pc2 := 153) (ci := 8) hC hK (t_sub l hM hS147 (x := 3) (y := 50) ⟨by decide, by decide⟩ ⟨by decide, by decide⟩ t147_wk1_125 uwk1_147 bwk1_125 bwk1_147 (by decide) ⟨by decide, by decide, by decide⟩) lk_1012 rfl rfl (by decide) (by assumption) (by assumption) ⟨Nat.le_of_ble_eq_true rfl, Nat.le_of_ble_eq_true rfl⟩ ⟨Nat.le_refl _, Nat.le_refl _⟩ rfl (Nat.le_of_ble_eq_true rfl) dX8_join_150 rfl ?_
    rintro z150 F150 A150 ⟨ez150, V150, hS150, v150, k150, g150⟩
    obtain rfl := ez150.symm
    replace hS150 : St 68 V150 F150 A150 := hS150
    have t150_wk1_125 : tr V150 3 = wk1_125 := (tr_keep (by decide) k150).trans t147_wk1_125
    have t150_wk1_135 : tr V150 21 = wk1_135 := (tr_keep (by decide) k150).trans t147_wk1_135
    have t150_wk1_144 : tr V150 39 = wk1_144 := (tr_keep (by decide) k150).trans t147_wk1_144
    have t150_wk1_147 : tr V150 50 = wk1_147 := (tr_keep (by decide) k150).trans uwk1_147
    rw [show (53 : Int) + 12 = 65 from rfl]
    obtain ⟨wk1_150, ewk1_150⟩ : ∃ w : T3, w = tadd wk1_125 (tneg wk1_147) := ⟨_, rfl⟩
    have uwk1_150 : tr V150 65 = wk1_150 := by rw [ewk1_150]; exact v150
    have bwk1_150 : bdt 53 51 wk1_150 := by rw [ewk1_150]; exact (bdt_add bwk1_125 (bdt_neg bwk1_147) (by decide) (by decide) (by decide))
    clear v150
    have hRe : RepM S F150 A150 := hR1.K ((FrK.f (by decide)).tr ((((g125.tr g135).tr g144).tr g147).tr g150).K)
    refine x_istore (pc2 := 155) (loc2 := [_, _, _, _, _, _, _]) hC (by decide) rfl dX8_join_153 rfl ?_
    refine x_aload_n (pc2 := 156) hC rfl rfl dX8_join_155 rfl ?_
    refine x_iload (pc2 := 158) hC rfl dX8_join_156 rfl ?_
    refine x_iload (pc2 := 160) hC rfl dX8_join_158 rfl ?_
    refine x_iconst (pc2 := 161) hC dX8_join_160 rfl ?_
    refine x_idivp (pc2 := 162) hC (by omega) (by omega) (by omega) (by omega) dX8_join_161 rfl ?_
    refine x_iload (pc2 := 164) hC rfl dX8_join_162 rfl ?_
    refine x_iconst (pc2 := 165) hC dX8_join_164 rfl ?_
    refine x_iremp (pc2 := 166) hC (by omega) (by omega) (by omega) (by omega) dX8_join_165 rfl ?_
    refine x_aload_n (pc2 := 167) hC rfl rfl dX8_join_166 rfl ?_
    refine x_iload_n (pc2 := 168) hC rfl rfl dX8_join_167 rfl ?_
    refine x_iload_n (pc2 := 169) hC rfl rfl dX8_join_168 rfl ?_
    refine x_iload (pc2 := 171) hC rfl dX8_join_169 rfl ?_
    refine x_iload (pc2 := 173) hC rfl dX8_join_171 rfl ?_
    refine x_iload (pc2 := 175) hC rfl dX8_join_173 rfl ?_
    refine x_cVi (pc2 := 178) (ci := 8) hC hK (t_joined1 l hM hRe (by exact hS150) ha hb ht uwk1_150 bwk1_150) lk_1040 rfl rfl (by decide) (by assumption) (by assumption) ⟨Nat.le_of_ble_eq_true rfl, Nat.le_of_ble_eq_true rfl⟩ ⟨Nat.le_refl _, Nat.le_refl _⟩ rfl (Nat.le_of_ble_eq_true rfl) dX8_join_175 rfl ?_
    rintro z175 F175 A175 ⟨ez175, V175, hS175, v175, k175, g175⟩
    obtain rfl := ez175.symm
    replace hS175 : St 139 V175 F175 A175 := hS175
    replace v175 : tr V175 136 = tquo (tmul (vS S a t 1) (vS S b t 1)) wk1_150 := v175
    rw [show (68 : Int) + 68 = 136 from rfl]
    have hz : ¬ (wk1_150.1 = 0 ∧ wk1_150.2.1 = 0) := fun y => hdn ((z3_iff (by rw [ewk1_150, ewk1_147, ewk1_125, ewk1_135, ewk1_144]; exact qe)).mp y)
    have hnz : (q3 wk1_150).1 ≠ (0, 0) := fun y => hz ⟨congrArg Prod.fst y, congrArg Prod.snd y⟩
    have hrp : 0 < (tquo (tmul (vS S a t 1) (vS S b t 1)) wk1_150).2.2 := r_quo (r_mul (rr hi ha ht ⟨by decide, by decide⟩) (rr hi hb ht ⟨by decide, by decide⟩)) hz
    have gg := ((((g125.tr g135).tr g144).tr g147).tr g150).tr g175
    have e17 : F175 0 17 = F1 0 17 := (gg.2.1 17 (by decide) (by decide) (by decide)).trans (by rw [uF_nj (by decide)])
    have e10 : A175 10 = A1 10 := gg.a (by decide)
    have qe2 : q3 wk1_150 = joinE (nmN S a t) (nmN S b t) := by rw [ewk1_150, ewk1_147, ewk1_125, ewk1_135, ewk1_144]; exact qe
    refine x_cVv (pc2 := 181) (ci := 8) hC hK (n_makes l hM hS175 (by decide) ht (i := 1 / 2) (j := 1 % 2) ⟨by decide, by decide⟩ (x := 136) ⟨by decide, by decide⟩ v175 hrp (by rw [e17]; exact h17)) lk_919 rfl rfl (by decide) (by assumption) (by assumption) ⟨Nat.le_of_ble_eq_true rfl, Nat.le_of_ble_eq_true rfl⟩ ⟨Nat.le_refl _, Nat.le_refl _⟩ rfl (Nat.le_of_ble_eq_true rfl) dX8_join_178 rfl ?_
    rintro F178 A178 ⟨-, m2, m3, m4, m5⟩
    have ml := mk_low (x := joinX (nmN S a t) (nmN S b t) 1) hrp (joinX_un (hi.un (s := 0) ha ht) (hi.un (s := 0) hb ht) hdn 1) ((q_quo _ _).tr (un_div (by rw [q_mul]; exact un_mul (un_q3 (rr hi ha ht ⟨by decide, by decide⟩)) (un_q3 (rr hi hb ht ⟨by decide, by decide⟩))) hnz) (by rw [q_mul, qe2]; exact eqf.rf _)) m2
    rw [e17] at m3
    refine x_iinc (pc2 := 184) (loc2 := [_, _, _, _, _, _, _]) hC (by decide) rfl rfl dX8_join_181 rfl ?_
    refine x_goto (pc2 := 111) hC dX8_join_184 rfl ?_
    exact next _ _ _ (hR1.K ((((FrK.f (by decide)).tr gg.K)).tr m5)) (hmk.step ht (e := 1) ⟨by decide, by decide⟩ (fun t0 e0 => ⟨fun y => by omega, fun y => by omega⟩) ml m3 (fun n hn => by rw [m4 n (by omega), e10]))
  have body2 : ∀ (t : Int) (F1 : Nat → Nat → Int) (A1 : Nat → Int → Int) {e6 : Option PV}, isT t → isB S c0 → isB S a → isB S b → RepM S F1 A1 → (F1 0 17 = 0 ∨ F1 0 17 = 1) → (joinE (nmN S a t) (nmN S b t)).1 ≠ (0, 0) → MkD (fun t e => joinX (nmN S a t) (nmN S b t) e) (A1 10) (F1 0 17) (fun t0 e0 => t0 < t ∨ (t0 = t ∧ e0 < 2)) → (∀ (F2 : Nat → Nat → Int) (A2 : Nat → Int → Int) (e7 : Option PV), RepM S F2 A2 → MkD (fun t e => joinX (nmN S a t) (nmN S b t) e) (A2 10) (F2 0 17) (fun t0 e0 => t0 < t ∨ (t0 = t ∧ e0 < 3)) → X p l e { frames := 6, cells := 0, slots := 0, locals := 144 } s m args below meth c (MQ below (QX D ids β sh N R (pIr (fun z F2 A2 => ∃ S2, rJoin S c0 a b z S2 ∧ RepM S2 F2 A2))) args s 0 0 (inG β N)) (inG β N) D ids β sh 7 0 0 N R F2 A2 [some (rf 0), some (pI c0), some (pI a), some (pI b), some (pI t), some (pI 3), e7] [] 111) → X p l e { frames := 6, cells := 0, slots := 0, locals := 144 } s m args below meth c (MQ below (QX D ids β sh N R (pIr (fun z F2 A2 => ∃ S2, rJoin S c0 a b z S2 ∧ RepM S2 F2 A2))) args s 0 0 (inG β N)) (inG β N) D ids β sh 7 0 0 N R F1 A1 [some (rf 0), some (pI c0), some (pI a), some (pI b), some (pI t), some (pI 2), e6] [] 117 := by
    intro t F1 A1 e6 ht hc2 ha hb hR1 h17 hdn hmk next
    have hb6 := hR1.2.2.2.2.2.2.1
    have a16 := ha.2
    have b16 := hb.2
    have a00 := ha.1
    have b00 := hb.1
    have qe : q3 (tadd (1, 0, 1) (tneg (tmul (vS S a t 3) (vS S b t 0)))) = joinE (nmN S a t) (nmN S b t) := by
      rw [q_sub, q_mul]; rfl
    refine x_aload_n (pc2 := 118) hC rfl rfl dX8_join_117 rfl ?_
    refine x_iconst (pc2 := 119) hC dX8_join_118 rfl ?_
    refine p_819 (pc2 := 122) hC hK (by assumption) (by assumption) dX8_join_119 rfl ?_
    refine x_aload_n (pc2 := 123) hC rfl rfl dX8_join_122 rfl ?_
    refine x_aload_n (pc2 := 124) hC rfl rfl dX8_join_123 rfl ?_
    refine x_lconst1 (pc2 := 125) hC dX8_join_124 rfl ?_
    refine x_cVi (pc2 := 128) (ci := 8) hC hK (t_whole l hM (St.zero (F := F1) (A := A1)) (by decide) (v := 1) (by decide)) lk_981 rfl rfl (by decide) (by assumption) (by assumption) ⟨Nat.le_of_ble_eq_true rfl, Nat.le_of_ble_eq_true rfl⟩ ⟨Nat.le_refl _, Nat.le_refl _⟩ rfl (Nat.le_of_ble_eq_true rfl) dX8_join_125 rfl ?_
    rintro z125 F125 A125 ⟨ez125, V125, hS125, v125, k125, g125⟩
    obtain rfl := ez125.symm
    replace hS125 : St 6 V125 F125 A125 := hS125
    rw [show (0 : Int) + 3 = 3 from rfl]
    obtain ⟨wk2_125, ewk2_125⟩ : ∃ w : T3, w = (1, 0, 1) := ⟨_, rfl⟩
    have uwk2_125 : tr V125 3 = wk2_125 := by rw [ewk2_125]; exact v125
    have bwk2_125 : bdt 1 1 wk2_125 := by rw [ewk2_125]; exact ⟨by unfold bd; decide, by unfold bd; decide, by unfold bd; decide⟩
    clear v125
    refine x_aload_n (pc2 := 129) hC rfl rfl dX8_join_128 rfl ?_
    refine x_aload_n (pc2 := 130) hC rfl rfl dX8_join_129 rfl ?_
    refine x_iload_n (pc2 := 131) hC rfl rfl dX8_join_130 rfl ?_
    refine x_iload (pc2 := 133) hC rfl dX8_join_131 rfl ?_
    refine x_iconst (pc2 := 134) hC dX8_join_133 rfl ?_
    refine x_iconst (pc2 := 135) hC dX8_join_134 rfl ?_
    refine x_cVi (pc2 := 138) (ci := 8) hC hK (t_entry l hM hS125 (by decide) ⟨by omega, by omega⟩ (x := vS S a t 3) (by rw [g125.a (by decide)]; exact (show held (A1 2) (96 * a + 24 * t + 6 * (2 * 1 + 1)) (vS S a t 3) from hb6 a t 3 ha ht ⟨by decide, by decide⟩)) ((hi.2.1 a ha).2 t 3 ht ⟨by decide, by decide⟩).1.2.2) lk_985 rfl rfl (by decide) (by assumption) (by assumption) ⟨Nat.le_of_ble_eq_true rfl, Nat.le_of_ble_eq_true rfl⟩ ⟨Nat.le_refl _, Nat.le_refl _⟩ rfl (Nat.le_of_ble_eq_true rfl) dX8_join_135 rfl ?_
    rintro z135 F135 A135 ⟨ez135, V135, hS135, v135, k135, g135⟩
    obtain rfl := ez135.symm
    replace hS135 : St 24 V135 F135 A135 := hS135
    have t135_wk2_125 : tr V135 3 = wk2_125 := (tr_keep (by decide) k135).trans uwk2_125
    rw [show (6 : Int) + 15 = 21 from rfl]
    obtain ⟨wk2_135, ewk2_135⟩ : ∃ w : T3, w = vS S a t 3 := ⟨_, rfl⟩
    have uwk2_135 : tr V135 21 = wk2_135 := by rw [ewk2_135]; exact v135
    have bwk2_135 : bdt 25 25 wk2_135 := by rw [ewk2_135]; exact (ok_bdt ((hi.2.1 a ha).2 t 3 ht ⟨by decide, by decide⟩).1)
    clear v135
    refine x_aload_n (pc2 := 139) hC rfl rfl dX8_join_138 rfl ?_
    refine x_iload_n (pc2 := 140) hC rfl rfl dX8_join_139 rfl ?_
    refine x_iload (pc2 := 142) hC rfl dX8_join_140 rfl ?_
    refine x_iconst (pc2 := 143) hC dX8_join_142 rfl ?_
    refine x_iconst (pc2 := 144) hC dX8_join_143 rfl ?_
    refine x_cVi (pc2 := 147) (ci := 8) hC hK (t_entry l hM hS135 (by decide) ⟨by omega, by omega⟩ (x := vS S b t 0) (by rw [(g125.tr g135).a (by decide)]; exact (show held (A1 2) (96 * b + 24 * t + 6 * (2 * 0 + 0)) (vS S b t 0) from hb6 b t 0 hb ht ⟨by decide, by decide⟩)) ((hi.2.1 b hb).2 t 0 ht ⟨by decide, by decide⟩).1.2.2) lk_985 rfl rfl (by decide) (by assumption) (by assumption) ⟨Nat.le_of_ble_eq_true rfl, Nat.le_of_ble_eq_true rfl⟩ ⟨Nat.le_refl _, Nat.le_refl _⟩ rfl (Nat.le_of_ble_eq_true rfl) dX8_join_144 rfl ?_
    rintro z144 F144 A144 ⟨ez144, V144, hS144, v144, k144, g144⟩
    obtain rfl := ez144.symm
    replace hS144 : St 42 V144 F144 A144 := hS144
    have t144_wk2_125 : tr V144 3 = wk2_125 := (tr_keep (by decide) k144).trans t135_wk2_125
    have t144_wk2_135 : tr V144 21 = wk2_135 := (tr_keep (by decide) k144).trans uwk2_135
    rw [show (24 : Int) + 15 = 39 from rfl]
    obtain ⟨wk2_144, ewk2_144⟩ : ∃ w : T3, w = vS S b t 0 := ⟨_, rfl⟩
    have uwk2_144 : tr V144 39 = wk2_144 := by rw [ewk2_144]; exact v144
    have bwk2_144 : bdt 25 25 wk2_144 := by rw [ewk2_144]; exact (ok_bdt ((hi.2.1 b hb).2 t 0 ht ⟨by decide, by decide⟩).1)
    clear v144
    refine x_cVi (pc2 := 150) (ci := 8) hC hK (t_product l hM hS144 (x := 21) (y := 39) ⟨by decide, by decide⟩ ⟨by decide, by decide⟩ t144_wk2_135 uwk2_144 bwk2_135 bwk2_144 (by decide) ⟨by decide, by decide⟩) lk_1004 rfl rfl (by decide) (by assumption) (by assumption) ⟨Nat.le_of_ble_eq_true rfl, Nat.le_of_ble_eq_true rfl⟩ ⟨Nat.le_refl _, Nat.le_refl _⟩ rfl (Nat.le_of_ble_eq_true rfl) dX8_join_147 rfl ?_
    rintro z147 F147 A147 ⟨ez147, V147, hS147, v147, k147, g147⟩
    obtain rfl := ez147.symm
    replace hS147 : St 53 V147 F147 A147 := hS147
    have t147_wk2_125 : tr V147 3 = wk2_125 := (tr_keep (by decide) k147).trans t144_wk2_125
    have t147_wk2_135 : tr V147 21 = wk2_135 := (tr_keep (by decide) k147).trans t144_wk2_135
    have t147_wk2_144 : tr V147 39 = wk2_144 := (tr_keep (by decide) k147).trans uwk2_144
    rw [show (42 : Int) + 8 = 50 from rfl]
    obtain ⟨wk2_147, ewk2_147⟩ : ∃ w : T3, w = tmul wk2_135 wk2_144 := ⟨_, rfl⟩
    have uwk2_147 : tr V147 50 = wk2_147 := by rw [ewk2_147]; exact v147
    have bwk2_147 : bdt 51 50 wk2_147 := by rw [ewk2_147]; exact (bdt_mul bwk2_135 bwk2_144 (by decide) (by decide))
    clear v147
    refine x_cVi (pc2 := 153) (ci := 8) hC hK (t_sub l hM hS147 (x := 3) (y := 50) ⟨by decide, by decide⟩ ⟨by decide, by decide⟩ t147_wk2_125 uwk2_147 bwk2_125 bwk2_147 (by decide) ⟨by decide, by decide, by decide⟩) lk_1012 rfl rfl (by decide) (by assumption) (by assumption) ⟨Nat.le_of_ble_eq_true rfl, Nat.le_of_ble_eq_true rfl⟩ ⟨Nat.le_refl _, Nat.le_refl _⟩ rfl (Nat.le_of_ble_eq_true rfl) dX8_join_150 rfl ?_
    rintro z150 F150 A150 ⟨ez150, V150, hS150, v150, k150, g150⟩
    obtain rfl := ez150.symm
    replace hS150 : St 68 V150 F150 A150 := hS150
    have t150_wk2_125 : tr V150 3 = wk2_125 := (tr_keep (by decide) k150).trans t147_wk2_125
    have t150_wk2_135 : tr V150 21 = wk2_135 := (tr_keep (by decide) k150).trans t147_wk2_135
    have t150_wk2_144 : tr V150 39 = wk2_144 := (tr_keep (by decide) k150).trans t147_wk2_144
    have t150_wk2_147 : tr V150 50 = wk2_147 := (tr_keep (by decide) k150).trans uwk2_147
    rw [show (53 : Int) + 12 = 65 from rfl]
    obtain ⟨wk2_150, ewk2_150⟩ : ∃ w : T3, w = tadd wk2_125 (tneg wk2_147) := ⟨_, rfl⟩
    have uwk2_150 : tr V150 65 = wk2_150 := by rw [ewk2_150]; exact v150
    have bwk2_150 : bdt 53 51 wk2_150 := by rw [ewk2_150]; exact (bdt_add bwk2_125 (bdt_neg bwk2_147) (by decide) (by decide) (by decide))
    clear v150
    have hRe : RepM S F150 A150 := hR1.K ((FrK.f (by decide)).tr ((((g125.tr g135).tr g144).tr g147).tr g150).K)
    refine x_istore (pc2 := 155) (loc2 := [_, _, _, _, _, _, _]) hC (by decide) rfl dX8_join_153 rfl ?_
    refine x_aload_n (pc2 := 156) hC rfl rfl dX8_join_155 rfl ?_
    refine x_iload (pc2 := 158) hC rfl dX8_join_156 rfl ?_
    refine x_iload (pc2 := 160) hC rfl dX8_join_158 rfl ?_
    refine x_iconst (pc2 := 161) hC dX8_join_160 rfl ?_
    refine x_idivp (pc2 := 162) hC (by omega) (by omega) (by omega) (by omega) dX8_join_161 rfl ?_
    refine x_iload (pc2 := 164) hC rfl dX8_join_162 rfl ?_
    refine x_iconst (pc2 := 165) hC dX8_join_164 rfl ?_
    refine x_iremp (pc2 := 166) hC (by omega) (by omega) (by omega) (by omega) dX8_join_165 rfl ?_
    refine x_aload_n (pc2 := 167) hC rfl rfl dX8_join_166 rfl ?_
    refine x_iload_n (pc2 := 168) hC rfl rfl dX8_join_167 rfl ?_
    refine x_iload_n (pc2 := 169) hC rfl rfl dX8_join_168 rfl ?_
    refine x_iload (pc2 := 171) hC rfl dX8_join_169 rfl ?_
    refine x_iload (pc2 := 173) hC rfl dX8_join_171 rfl ?_
    refine x_iload (pc2 := 175) hC rfl dX8_join_173 rfl ?_
    refine x_cVi (pc2 := 178) (ci := 8) hC hK (t_joined2 l hM hRe (by exact hS150) ha hb ht uwk2_150 bwk2_150) lk_1040 rfl rfl (by decide) (by assumption) (by assumption) ⟨Nat.le_of_ble_eq_true rfl, Nat.le_of_ble_eq_true rfl⟩ ⟨Nat.le_refl _, Nat.le_refl _⟩ rfl (Nat.le_of_ble_eq_true rfl) dX8_join_175 rfl ?_
    rintro z175 F175 A175 ⟨ez175, V175, hS175, v175, k175, g175⟩
    obtain rfl := ez175.symm
    replace hS175 : St 139 V175 F175 A175 := hS175
    replace v175 : tr V175 136 = tquo (tmul (vS S a t 2) (vS S b t 2)) wk2_150 := v175
    rw [show (68 : Int) + 68 = 136 from rfl]
    have hz : ¬ (wk2_150.1 = 0 ∧ wk2_150.2.1 = 0) := fun y => hdn ((z3_iff (by rw [ewk2_150, ewk2_147, ewk2_125, ewk2_135, ewk2_144]; exact qe)).mp y)
    have hnz : (q3 wk2_150).1 ≠ (0, 0) := fun y => hz ⟨congrArg Prod.fst y, congrArg Prod.snd y⟩
    have hrp : 0 < (tquo (tmul (vS S a t 2) (vS S b t 2)) wk2_150).2.2 := r_quo (r_mul (rr hi ha ht ⟨by decide, by decide⟩) (rr hi hb ht ⟨by decide, by decide⟩)) hz
    have gg := ((((g125.tr g135).tr g144).tr g147).tr g150).tr g175
    have e17 : F175 0 17 = F1 0 17 := (gg.2.1 17 (by decide) (by decide) (by decide)).trans (by rw [uF_nj (by decide)])
    have e10 : A175 10 = A1 10 := gg.a (by decide)
    have qe2 : q3 wk2_150 = joinE (nmN S a t) (nmN S b t) := by rw [ewk2_150, ewk2_147, ewk2_125, ewk2_135, ewk2_144]; exact qe
    refine x_cVv (pc2 := 181) (ci := 8) hC hK (n_makes l hM hS175 (by decide) ht (i := 2 / 2) (j := 2 % 2) ⟨by decide, by decide⟩ (x := 136) ⟨by decide, by decide⟩ v175 hrp (by rw [e17]; exact h17)) lk_919 rfl rfl (by decide) (by assumption) (by assumption) ⟨Nat.le_of_ble_eq_true rfl, Nat.le_of_ble_eq_true rfl⟩ ⟨Nat.le_refl _, Nat.le_refl _⟩ rfl (Nat.le_of_ble_eq_true rfl) dX8_join_178 rfl ?_
    rintro F178 A178 ⟨-, m2, m3, m4, m5⟩
    have ml := mk_low (x := joinX (nmN S a t) (nmN S b t) 2) hrp (joinX_un (hi.un (s := 0) ha ht) (hi.un (s := 0) hb ht) hdn 2) ((q_quo _ _).tr (un_div (by rw [q_mul]; exact un_mul (un_q3 (rr hi ha ht ⟨by decide, by decide⟩)) (un_q3 (rr hi hb ht ⟨by decide, by decide⟩))) hnz) (by rw [q_mul, qe2]; exact eqf.rf _)) m2
    rw [e17] at m3
    refine x_iinc (pc2 := 184) (loc2 := [_, _, _, _, _, _, _]) hC (by decide) rfl rfl dX8_join_181 rfl ?_
    refine x_goto (pc2 := 111) hC dX8_join_184 rfl ?_
    exact next _ _ _ (hR1.K ((((FrK.f (by decide)).tr gg.K)).tr m5)) (hmk.step ht (e := 2) ⟨by decide, by decide⟩ (fun t0 e0 => ⟨fun y => by omega, fun y => by omega⟩) ml m3 (fun n hn => by rw [m4 n (by omega), e10]))
  have body3 : ∀ (t : Int) (F1 : Nat → Nat → Int) (A1 : Nat → Int → Int) {e6 : Option PV}, isT t → isB S c0 → isB S a → isB S b → RepM S F1 A1 → (F1 0 17 = 0 ∨ F1 0 17 = 1) → (joinE (nmN S a t) (nmN S b t)).1 ≠ (0, 0) → MkD (fun t e => joinX (nmN S a t) (nmN S b t) e) (A1 10) (F1 0 17) (fun t0 e0 => t0 < t ∨ (t0 = t ∧ e0 < 3)) → (∀ (F2 : Nat → Nat → Int) (A2 : Nat → Int → Int) (e7 : Option PV), RepM S F2 A2 → MkD (fun t e => joinX (nmN S a t) (nmN S b t) e) (A2 10) (F2 0 17) (fun t0 e0 => t0 < t ∨ (t0 = t ∧ e0 < 4)) → X p l e { frames := 6, cells := 0, slots := 0, locals := 144 } s m args below meth c (MQ below (QX D ids β sh N R (pIr (fun z F2 A2 => ∃ S2, rJoin S c0 a b z S2 ∧ RepM S2 F2 A2))) args s 0 0 (inG β N)) (inG β N) D ids β sh 7 0 0 N R F2 A2 [some (rf 0), some (pI c0), some (pI a), some (pI b), some (pI t), some (pI 4), e7] [] 111) → X p l e { frames := 6, cells := 0, slots := 0, locals := 144 } s m args below meth c (MQ below (QX D ids β sh N R (pIr (fun z F2 A2 => ∃ S2, rJoin S c0 a b z S2 ∧ RepM S2 F2 A2))) args s 0 0 (inG β N)) (inG β N) D ids β sh 7 0 0 N R F1 A1 [some (rf 0), some (pI c0), some (pI a), some (pI b), some (pI t), some (pI 3), e6] [] 117 := by
    intro t F1 A1 e6 ht hc2 ha hb hR1 h17 hdn hmk next
    have hb6 := hR1.2.2.2.2.2.2.1
    have a16 := ha.2
    have b16 := hb.2
    have a00 := ha.1
    have b00 := hb.1
    have qe : q3 (tadd (1, 0, 1) (tneg (tmul (vS S a t 3) (vS S b t 0)))) = joinE (nmN S a t) (nmN S b t) := by
      rw [q_sub, q_mul]; rfl
    refine x_aload_n (pc2 := 118) hC rfl rfl dX8_join_117 rfl ?_
    refine x_iconst (pc2 := 119) hC dX8_join_118 rfl ?_
    refine p_819 (pc2 := 122) hC hK (by assumption) (by assumption) dX8_join_119 rfl ?_
    refine x_aload_n (pc2 := 123) hC rfl rfl dX8_join_122 rfl ?_
    refine x_aload_n (pc2 := 124) hC rfl rfl dX8_join_123 rfl ?_
    refine x_lconst1 (pc2 := 125) hC dX8_join_124 rfl ?_
    refine x_cVi (pc2 := 128) (ci := 8) hC hK (t_whole l hM (St.zero (F := F1) (A := A1)) (by decide) (v := 1) (by decide)) lk_981 rfl rfl (by decide) (by assumption) (by assumption) ⟨Nat.le_of_ble_eq_true rfl, Nat.le_of_ble_eq_true rfl⟩ ⟨Nat.le_refl _, Nat.le_refl _⟩ rfl (Nat.le_of_ble_eq_true rfl) dX8_join_125 rfl ?_
    rintro z125 F125 A125 ⟨ez125, V125, hS125, v125, k125, g125⟩
    obtain rfl := ez125.symm
    replace hS125 : St 6 V125 F125 A125 := hS125
    rw [show (0 : Int) + 3 = 3 from rfl]
    obtain ⟨wk3_125, ewk3_125⟩ : ∃ w : T3, w = (1, 0, 1) := ⟨_, rfl⟩
    have uwk3_125 : tr V125 3 = wk3_125 := by rw [ewk3_125]; exact v125
    have bwk3_125 : bdt 1 1 wk3_125 := by rw [ewk3_125]; exact ⟨by unfold bd; decide, by unfold bd; decide, by unfold bd; decide⟩
    clear v125
    refine x_aload_n (pc2 := 129) hC rfl rfl dX8_join_128 rfl ?_
    refine x_aload_n (pc2 := 130) hC rfl rfl dX8_join_129 rfl ?_
    refine x_iload_n (pc2 := 131) hC rfl rfl dX8_join_130 rfl ?_
    refine x_iload (pc2 := 133) hC rfl dX8_join_131 rfl ?_
    refine x_iconst (pc2 := 134) hC dX8_join_133 rfl ?_
    refine x_iconst (pc2 := 135) hC dX8_join_134 rfl ?_
    refine x_cVi (pc2 := 138) (ci := 8) hC hK (t_entry l hM hS125 (by decide) ⟨by omega, by omega⟩ (x := vS S a t 3) (by rw [g125.a (by decide)]; exact (show held (A1 2) (96 * a + 24 * t + 6 * (2 * 1 + 1)) (vS S a t 3) from hb6 a t 3 ha ht ⟨by decide, by decide⟩)) ((hi.2.1 a ha).2 t 3 ht ⟨by decide, by decide⟩).1.2.2) lk_985 rfl rfl (by decide) (by assumption) (by assumption) ⟨Nat.le_of_ble_eq_true rfl, Nat.le_of_ble_eq_true rfl⟩ ⟨Nat.le_refl _, Nat.le_refl _⟩ rfl (Nat.le_of_ble_eq_true rfl) dX8_join_135 rfl ?_
    rintro z135 F135 A135 ⟨ez135, V135, hS135, v135, k135, g135⟩
    obtain rfl := ez135.symm
    replace hS135 : St 24 V135 F135 A135 := hS135
    have t135_wk3_125 : tr V135 3 = wk3_125 := (tr_keep (by decide) k135).trans uwk3_125
    rw [show (6 : Int) + 15 = 21 from rfl]
    obtain ⟨wk3_135, ewk3_135⟩ : ∃ w : T3, w = vS S a t 3 := ⟨_, rfl⟩
    have uwk3_135 : tr V135 21 = wk3_135 := by rw [ewk3_135]; exact v135
    have bwk3_135 : bdt 25 25 wk3_135 := by rw [ewk3_135]; exact (ok_bdt ((hi.2.1 a ha).2 t 3 ht ⟨by decide, by decide⟩).1)
    clear v135
    refine x_aload_n (pc2 := 139) hC rfl rfl dX8_join_138 rfl ?_
    refine x_iload_n (pc2 := 140) hC rfl rfl dX8_join_139 rfl ?_
    refine x_iload (pc2 := 142) hC rfl dX8_join_140 rfl ?_
    refine x_iconst (pc2 := 143) hC dX8_join_142 rfl ?_
    refine x_iconst (pc2 := 144) hC dX8_join_143 rfl ?_
    refine x_cVi (pc2 := 147) (ci := 8) hC hK (t_entry l hM hS135 (by decide) ⟨by omega, by omega⟩ (x := vS S b t 0) (by rw [(g125.tr g135).a (by decide)]; exact (show held (A1 2) (96 * b + 24 * t + 6 * (2 * 0 + 0)) (vS S b t 0) from hb6 b t 0 hb ht ⟨by decide, by decide⟩)) ((hi.2.1 b hb).2 t 0 ht ⟨by decide, by decide⟩).1.2.2) lk_985 rfl rfl (by decide) (by assumption) (by assumption) ⟨Nat.le_of_ble_eq_true rfl, Nat.le_of_ble_eq_true rfl⟩ ⟨Nat.le_refl _, Nat.le_refl _⟩ rfl (Nat.le_of_ble_eq_true rfl) dX8_join_144 rfl ?_
    rintro z144 F144 A144 ⟨ez144, V144, hS144, v144, k144, g144⟩
    obtain rfl := ez144.symm
    replace hS144 : St 42 V144 F144 A144 := hS144
    have t144_wk3_125 : tr V144 3 = wk3_125 := (tr_keep (by decide) k144).trans t135_wk3_125
    have t144_wk3_135 : tr V144 21 = wk3_135 := (tr_keep (by decide) k144).trans uwk3_135
    rw [show (24 : Int) + 15 = 39 from rfl]
    obtain ⟨wk3_144, ewk3_144⟩ : ∃ w : T3, w = vS S b t 0 := ⟨_, rfl⟩
    have uwk3_144 : tr V144 39 = wk3_144 := by rw [ewk3_144]; exact v144
    have bwk3_144 : bdt 25 25 wk3_144 := by rw [ewk3_144]; exact (ok_bdt ((hi.2.1 b hb).2 t 0 ht ⟨by decide, by decide⟩).1)
    clear v144
    refine x_cVi (pc2 := 150) (ci := 8) hC hK (t_product l hM hS144 (x := 21) (y := 39) ⟨by decide, by decide⟩ ⟨by decide, by decide⟩ t144_wk3_135 uwk3_144 bwk3_135 bwk3_144 (by decide) ⟨by decide, by decide⟩) lk_1004 rfl rfl (by decide) (by assumption) (by assumption) ⟨Nat.le_of_ble_eq_true rfl, Nat.le_of_ble_eq_true rfl⟩ ⟨Nat.le_refl _, Nat.le_refl _⟩ rfl (Nat.le_of_ble_eq_true rfl) dX8_join_147 rfl ?_
    rintro z147 F147 A147 ⟨ez147, V147, hS147, v147, k147, g147⟩
    obtain rfl := ez147.symm
    replace hS147 : St 53 V147 F147 A147 := hS147
    have t147_wk3_125 : tr V147 3 = wk3_125 := (tr_keep (by decide) k147).trans t144_wk3_125
    have t147_wk3_135 : tr V147 21 = wk3_135 := (tr_keep (by decide) k147).trans t144_wk3_135
    have t147_wk3_144 : tr V147 39 = wk3_144 := (tr_keep (by decide) k147).trans uwk3_144
    rw [show (42 : Int) + 8 = 50 from rfl]
    obtain ⟨wk3_147, ewk3_147⟩ : ∃ w : T3, w = tmul wk3_135 wk3_144 := ⟨_, rfl⟩
    have uwk3_147 : tr V147 50 = wk3_147 := by rw [ewk3_147]; exact v147
    have bwk3_147 : bdt 51 50 wk3_147 := by rw [ewk3_147]; exact (bdt_mul bwk3_135 bwk3_144 (by decide) (by decide))
    clear v147
    refine x_cVi (pc2 := 153) (ci := 8) hC hK (t_sub l hM hS147 (x := 3) (y := 50) ⟨by decide, by decide⟩ ⟨by decide, by decide⟩ t147_wk3_125 uwk3_147 bwk3_125 bwk3_147 (by decide) ⟨by decide, by decide, by decide⟩) lk_1012 rfl rfl (by decide) (by assumption) (by assumption) ⟨Nat.le_of_ble_eq_true rfl, Nat.le_of_ble_eq_true rfl⟩ ⟨Nat.le_refl _, Nat.le_refl _⟩ rfl (Nat.le_of_ble_eq_true rfl) dX8_join_150 rfl ?_
    rintro z150 F150 A150 ⟨ez150, V150, hS150, v150, k150, g150⟩
    obtain rfl := ez150.symm
    replace hS150 : St 68 V150 F150 A150 := hS150
    have t150_wk3_125 : tr V150 3 = wk3_125 := (tr_keep (by decide) k150).trans t147_wk3_125
    have t150_wk3_135 : tr V150 21 = wk3_135 := (tr_keep (by decide) k150).trans t147_wk3_135
    have t150_wk3_144 : tr V150 39 = wk3_144 := (tr_keep (by decide) k150).trans t147_wk3_144
    have t150_wk3_147 : tr V150 50 = wk3_147 := (tr_keep (by decide) k150).trans uwk3_147
    rw [show (53 : Int) + 12 = 65 from rfl]
    obtain ⟨wk3_150, ewk3_150⟩ : ∃ w : T3, w = tadd wk3_125 (tneg wk3_147) := ⟨_, rfl⟩
    have uwk3_150 : tr V150 65 = wk3_150 := by rw [ewk3_150]; exact v150
    have bwk3_150 : bdt 53 51 wk3_150 := by rw [ewk3_150]; exact (bdt_add bwk3_125 (bdt_neg bwk3_147) (by decide) (by decide) (by decide))
    clear v150
    have hRe : RepM S F150 A150 := hR1.K ((FrK.f (by decide)).tr ((((g125.tr g135).tr g144).tr g147).tr g150).K)
    refine x_istore (pc2 := 155) (loc2 := [_, _, _, _, _, _, _]) hC (by decide) rfl dX8_join_153 rfl ?_
    refine x_aload_n (pc2 := 156) hC rfl rfl dX8_join_155 rfl ?_
    refine x_iload (pc2 := 158) hC rfl dX8_join_156 rfl ?_
    refine x_iload (pc2 := 160) hC rfl dX8_join_158 rfl ?_
    refine x_iconst (pc2 := 161) hC dX8_join_160 rfl ?_
    refine x_idivp (pc2 := 162) hC (by omega) (by omega) (by omega) (by omega) dX8_join_161 rfl ?_
    refine x_iload (pc2 := 164) hC rfl dX8_join_162 rfl ?_
    refine x_iconst (pc2 := 165) hC dX8_join_164 rfl ?_
    refine x_iremp (pc2 := 166) hC (by omega) (by omega) (by omega) (by omega) dX8_join_165 rfl ?_
    refine x_aload_n (pc2 := 167) hC rfl rfl dX8_join_166 rfl ?_
    refine x_iload_n (pc2 := 168) hC rfl rfl dX8_join_167 rfl ?_
    refine x_iload_n (pc2 := 169) hC rfl rfl dX8_join_168 rfl ?_
    refine x_iload (pc2 := 171) hC rfl dX8_join_169 rfl ?_
    refine x_iload (pc2 := 173) hC rfl dX8_join_171 rfl ?_
    refine x_iload (pc2 := 175) hC rfl dX8_join_173 rfl ?_
    refine x_cVi (pc2 := 178) (ci := 8) hC hK (t_joined3 l hM hRe (by exact hS150) ha hb ht uwk3_150 bwk3_150) lk_1040 rfl rfl (by decide) (by assumption) (by assumption) ⟨Nat.le_of_ble_eq_true rfl, Nat.le_of_ble_eq_true rfl⟩ ⟨Nat.le_refl _, Nat.le_refl _⟩ rfl (Nat.le_of_ble_eq_true rfl) dX8_join_175 rfl ?_
    rintro z175 F175 A175 ⟨ez175, V175, hS175, v175, k175, g175⟩
    obtain rfl := ez175.symm
    replace hS175 : St 196 V175 F175 A175 := hS175
    replace v175 : tr V175 193 = tadd (vS S b t 3) (tquo (tmul (tmul (vS S b t 1) (vS S b t 2)) (vS S a t 3)) wk3_150) := v175
    rw [show (68 : Int) + 125 = 193 from rfl]
    have hz : ¬ (wk3_150.1 = 0 ∧ wk3_150.2.1 = 0) := fun y => hdn ((z3_iff (by rw [ewk3_150, ewk3_147, ewk3_125, ewk3_135, ewk3_144]; exact qe)).mp y)
    have hnz : (q3 wk3_150).1 ≠ (0, 0) := fun y => hz ⟨congrArg Prod.fst y, congrArg Prod.snd y⟩
    have hrp : 0 < (tadd (vS S b t 3) (tquo (tmul (tmul (vS S b t 1) (vS S b t 2)) (vS S a t 3)) wk3_150)).2.2 := r_add (rr hi hb ht ⟨by decide, by decide⟩) (r_quo (r_mul (r_mul (rr hi hb ht ⟨by decide, by decide⟩) (rr hi hb ht ⟨by decide, by decide⟩)) (rr hi ha ht ⟨by decide, by decide⟩)) hz)
    have gg := ((((g125.tr g135).tr g144).tr g147).tr g150).tr g175
    have e17 : F175 0 17 = F1 0 17 := (gg.2.1 17 (by decide) (by decide) (by decide)).trans (by rw [uF_nj (by decide)])
    have e10 : A175 10 = A1 10 := gg.a (by decide)
    have qe2 : q3 wk3_150 = joinE (nmN S a t) (nmN S b t) := by rw [ewk3_150, ewk3_147, ewk3_125, ewk3_135, ewk3_144]; exact qe
    refine x_cVv (pc2 := 181) (ci := 8) hC hK (n_makes l hM hS175 (by decide) ht (i := 3 / 2) (j := 3 % 2) ⟨by decide, by decide⟩ (x := 193) ⟨by decide, by decide⟩ v175 hrp (by rw [e17]; exact h17)) lk_919 rfl rfl (by decide) (by assumption) (by assumption) ⟨Nat.le_of_ble_eq_true rfl, Nat.le_of_ble_eq_true rfl⟩ ⟨Nat.le_refl _, Nat.le_refl _⟩ rfl (Nat.le_of_ble_eq_true rfl) dX8_join_178 rfl ?_
    rintro F178 A178 ⟨-, m2, m3, m4, m5⟩
    have ml := mk_low (x := joinX (nmN S a t) (nmN S b t) 3) hrp (joinX_un (hi.un (s := 0) ha ht) (hi.un (s := 0) hb ht) hdn 3) (by rw [q_add]; exact eqf.sum (eqf.rf _) ((q_quo _ _).tr (un_div (by rw [q_mul, q_mul]; exact un_mul (un_mul (un_q3 (rr hi hb ht ⟨by decide, by decide⟩)) (un_q3 (rr hi hb ht ⟨by decide, by decide⟩))) (un_q3 (rr hi ha ht ⟨by decide, by decide⟩))) hnz) (by rw [q_mul, q_mul, qe2]; exact eqf.rf _))) m2
    rw [e17] at m3
    refine x_iinc (pc2 := 184) (loc2 := [_, _, _, _, _, _, _]) hC (by decide) rfl rfl dX8_join_181 rfl ?_
    refine x_goto (pc2 := 111) hC dX8_join_184 rfl ?_
    exact next _ _ _ (hR1.K ((((FrK.f (by decide)).tr gg.K)).tr m5)) (hmk.step ht (e := 3) ⟨by decide, by decide⟩ (fun t0 e0 => ⟨fun y => by omega, fun y => by omega⟩) ml m3 (fun n hn => by rw [m4 n (by omega), e10]))
  have inner : ∀ (t : Int), isT t → (hasB S c0 2 ∧ hasB S a 2 ∧ hasB S b 2) → (joinE (nmN S a t) (nmN S b t)).1 ≠ (0, 0) → (∀ (F2 : Nat → Nat → Int) (A2 : Nat → Int → Int) (e5 e7 : Option PV), RepM S F2 A2 → MkD (fun t e => joinX (nmN S a t) (nmN S b t) e) (A2 10) (F2 0 17) (fun t0 e0 => t0 < t + 1) → X p l e { frames := 6, cells := 0, slots := 0, locals := 144 } s m args below meth c (MQ below (QX D ids β sh N R (pIr (fun z F2 A2 => ∃ S2, rJoin S c0 a b z S2 ∧ RepM S2 F2 A2))) args s 0 0 (inG β N)) (inG β N) D ids β sh 7 0 0 N R F2 A2 [some (rf 0), some (pI c0), some (pI a), some (pI b), some (pI (t + 1)), e5, e7] [] 102) → ∀ (d : Nat) (k : Int) (F1 : Nat → Nat → Int) (A1 : Nat → Int → Int) (e6 : Option PV), 4 - k < d → 0 ≤ k → k ≤ 4 → RepM S F1 A1 → MkD (fun t e => joinX (nmN S a t) (nmN S b t) e) (A1 10) (F1 0 17) (fun t0 e0 => t0 < t ∨ (t0 = t ∧ e0 < k)) → X p l e { frames := 6, cells := 0, slots := 0, locals := 144 } s m args below meth c (MQ below (QX D ids β sh N R (pIr (fun z F2 A2 => ∃ S2, rJoin S c0 a b z S2 ∧ RepM S2 F2 A2))) args s 0 0 (inG β N)) (inG β N) D ids β sh 7 0 0 N R F1 A1 [some (rf 0), some (pI c0), some (pI a), some (pI b), some (pI t), some (pI k), e6] [] 111 := by
    intro t ht hok hdn next d
    induction d with
    | zero => intro k F1 A1 e6 hd; omega
    | succ d ih =>
      intro k F1 A1 e6 hd k0 k4 hR1 hmk
      have h17 : F1 0 17 = 0 ∨ F1 0 17 = 1 := by rcases hmk.1 with ⟨q, -⟩ | ⟨q, -⟩ <;> omega
      refine x_iload (pc2 := 113) hC rfl dX8_join_111 rfl ?_
      refine x_iconst (pc2 := 114) hC dX8_join_113 rfl ?_
      refine x_icmp_ge (tgt := 187) (pc2 := 117) hC (by omega) (by omega) dX8_join_114 rfl rfl (fun h_114 => ?_) (fun h_114 => ?_)
      · refine x_iinc (pc2 := 190) (loc2 := [_, _, _, _, _, _, _]) hC (by decide) rfl rfl dX8_join_187 rfl ?_
        refine x_goto (pc2 := 102) hC dX8_join_190 rfl ?_
        refine next F1 A1 _ _ hR1 ?_
        obtain ⟨g1, g2⟩ := hmk
        refine ⟨?_, fun t0 e0 h1 h2 q => g2 t0 e0 h1 h2 (by omega)⟩
        rcases g1 with ⟨q1, q2⟩ | q
        · exact Or.inl ⟨q1, fun t0 e0 h1 h2 q => q2 t0 e0 h1 h2 (by omega)⟩
        · exact Or.inr q
      · rcases (show k = 0 ∨ k = 1 ∨ k = 2 ∨ k = 3 by omega) with rfl | rfl | rfl | rfl
        · exact body0 t F1 A1 ht hok.1.1 hok.2.1.1 hok.2.2.1 hR1 h17 hdn hmk (fun F2 A2 e7 g1 g2 => ih 1 F2 A2 e7 (by omega) (by decide) (by decide) g1 g2)
        · exact body1 t F1 A1 ht hok.1.1 hok.2.1.1 hok.2.2.1 hR1 h17 hdn hmk (fun F2 A2 e7 g1 g2 => ih 2 F2 A2 e7 (by omega) (by decide) (by decide) g1 g2)
        · exact body2 t F1 A1 ht hok.1.1 hok.2.1.1 hok.2.2.1 hR1 h17 hdn hmk (fun F2 A2 e7 g1 g2 => ih 3 F2 A2 e7 (by omega) (by decide) (by decide) g1 g2)
        · exact body3 t F1 A1 ht hok.1.1 hok.2.1.1 hok.2.2.1 hR1 h17 hdn hmk (fun F2 A2 e7 g1 g2 => ih 4 F2 A2 e7 (by omega) (by decide) (by decide) g1 g2)
  have outer : (hasB S c0 2 ∧ hasB S a 2 ∧ hasB S b 2) → (∀ t, isT t → (fun t => itC ((joinE (nmN S a t) (nmN S b t)).1 = (0, 0)) 1 0) t = 0) → ∀ (d : Nat) (t : Int) (F1 : Nat → Nat → Int) (A1 : Nat → Int → Int) (e5 e6 : Option PV), 4 - t < d → 0 ≤ t → t ≤ 4 → RepM S F1 A1 → MkD (fun t e => joinX (nmN S a t) (nmN S b t) e) (A1 10) (F1 0 17) (fun t0 e0 => t0 < t) → X p l e { frames := 6, cells := 0, slots := 0, locals := 144 } s m args below meth c (MQ below (QX D ids β sh N R (pIr (fun z F2 A2 => ∃ S2, rJoin S c0 a b z S2 ∧ RepM S2 F2 A2))) args s 0 0 (inG β N)) (inG β N) D ids β sh 7 0 0 N R F1 A1 [some (rf 0), some (pI c0), some (pI a), some (pI b), some (pI t), e5, e6] [] 102 := by
    intro hok hdv d
    induction d with
    | zero => intro t F1 A1 e5 e6 hd; omega
    | succ d ih =>
      intro t F1 A1 e5 e6 hd t0 t4 hR1 hmk
      have hdn : isT t → (joinE (nmN S a t) (nmN S b t)).1 ≠ (0, 0) := fun ht y => by
        have := hdv t ht
        dsimp only at this
        rw [itC_pos y] at this
        exact absurd this (by decide)
      refine x_iload (pc2 := 104) hC rfl dX8_join_102 rfl ?_
      refine x_iconst (pc2 := 105) hC dX8_join_104 rfl ?_
      refine x_icmp_ge (tgt := 193) (pc2 := 108) hC (by omega) (by omega) dX8_join_105 rfl rfl (fun h_105 => ?_) (fun h_105 => ?_)
      · obtain ⟨hb17, w, hwf, hm1, hm2, hm3⟩ := hmk.ends hi hok.1.1 (fun t0 e0 h1 h2 q => absurd (show t0 < t by omega) q) (fun y => absurd (hok.1.2.symm.trans y) (by decide))
        refine x_aload_n (pc2 := 194) hC rfl rfl dX8_join_193 rfl ?_
        refine x_iload_n (pc2 := 195) hC rfl rfl dX8_join_194 rfl ?_
        refine x_cVi (pc2 := 198) (ci := 8) hC hK (q_ends l hM hR1 hok.1.1 hwf hb17 hm1) lk_957 rfl rfl (by decide) (by assumption) (by assumption) ⟨Nat.le_of_ble_eq_true rfl, Nat.le_of_ble_eq_true rfl⟩ ⟨Nat.le_refl _, Nat.le_refl _⟩ rfl (Nat.le_of_ble_eq_true rfl) dX8_join_195 rfl ?_
        rintro z195 F195 A195 hq
        obtain ⟨S2, hs2, hR2⟩ : ∃ S2, ((F1 0 17 = 1 ∧ z195 = -5 ∧ S2 = S) ∨ (F1 0 17 = 0 ∧ z195 = 0 ∧ S2 = actS S c0 w)) ∧ RepM S2 F195 A195 := by
          rcases hq with ⟨q1, q2, q3⟩ | ⟨q1, q2, q3⟩
          · exact ⟨_, Or.inl ⟨q1, q2, rfl⟩, q3⟩
          · exact ⟨_, Or.inr ⟨q1, q2, rfl⟩, q3⟩
        exact x_iret hC hr hlk ⟨_, rfl, S2, Or.inr ⟨hok, spAct.ok hdv hm2 hm3 hs2⟩, hR2⟩ dX8_join_198
      · refine x_iconst (pc2 := 109) hC dX8_join_108 rfl ?_
        refine x_istore (pc2 := 111) (loc2 := [_, _, _, _, _, _, _]) hC (by decide) rfl dX8_join_109 rfl ?_
        have ht : isT t := by omega
        refine inner t ht hok (hdn ht) (fun F2 A2 e8 e9 g1 g2 => ih (t + 1) F2 A2 e8 e9 (by omega) (by omega) (by omega) g1 g2) 5 0 F1 A1 _ (by decide) (by decide) (by decide) hR1 ?_
        obtain ⟨g1, g2⟩ := hmk
        refine ⟨?_, fun t0 e0 h1 h2 q => g2 t0 e0 h1 h2 (by omega)⟩
        rcases g1 with ⟨q1, q2⟩ | q
        · exact Or.inl ⟨q1, fun t0 e0 h1 h2 q => q2 t0 e0 h1 h2 (by omega)⟩
        · exact Or.inr q
  have loop1 : (hasB S c0 2 ∧ hasB S a 2 ∧ hasB S b 2) → ∀ (d : Nat) (t : Int) (F1 : Nat → Nat → Int) (A1 : Nat → Int → Int), 4 - t < d → 0 ≤ t → t ≤ 4 → RepM S F1 A1 → (∀ s, 0 ≤ s → s < t → (fun t => itC ((joinE (nmN S a t) (nmN S b t)).1 = (0, 0)) 1 0) s = 0) → X p l e { frames := 6, cells := 0, slots := 0, locals := 144 } s m args below meth c (MQ below (QX D ids β sh N R (pIr (fun z F2 A2 => ∃ S2, rJoin S c0 a b z S2 ∧ RepM S2 F2 A2))) args s 0 0 (inG β N)) (inG β N) D ids β sh 7 0 0 N R F1 A1 [some (rf 0), some (pI c0), some (pI a), some (pI b), some (pI t), none, none] [] 32 := by
    intro hok d
    induction d with
    | zero => intro t F1 A1 hd; omega
    | succ d ih =>
      intro t F1 A1 hd t0 t4 hR1 hdv
      obtain ⟨⟨hc2, -⟩, ⟨ha, -⟩, hb, -⟩ := id hok
      have a16 := ha.2
      have b16 := hb.2
      have a00 := ha.1
      have b00 := hb.1
      have hb6 := hR1.2.2.2.2.2.2.1
      refine x_iload (pc2 := 34) hC rfl dX8_join_32 rfl ?_
      refine x_iconst (pc2 := 35) hC dX8_join_34 rfl ?_
      refine x_icmp_ge (tgt := 95) (pc2 := 38) hC (by omega) (by omega) dX8_join_35 rfl rfl (fun h_35 => ?_) (fun h_35 => ?_)
      · refine x_aload_n (pc2 := 96) hC rfl rfl dX8_join_95 rfl ?_
        refine x_cVv (pc2 := 99) (ci := 8) hC hK (n_begins l hM) lk_1036 rfl rfl (by decide) (by assumption) (by assumption) ⟨Nat.le_of_ble_eq_true rfl, Nat.le_of_ble_eq_true rfl⟩ ⟨Nat.le_refl _, Nat.le_refl _⟩ rfl (Nat.le_of_ble_eq_true rfl) dX8_join_96 rfl ?_
        rintro F96 A96 ⟨e196, e296, e396⟩
        have hRb : RepM S F96 A96 := by rw [e196]; exact hR1.of (fun j hj => uF_nj (by omega)) (fun b hb => e296 b (by omega))
        have h17b : F96 0 17 = 0 := by rw [e196, uF_eq]
        refine x_iconst (pc2 := 100) hC dX8_join_99 rfl ?_
        refine x_istore (pc2 := 102) (loc2 := [_, _, _, _, _, _, _]) hC (by decide) rfl dX8_join_100 rfl ?_
        exact outer hok (fun s hs => hdv s hs.1 (by omega)) 5 0 F96 A96 _ _ (by decide) (by decide) (by decide) hRb (by rw [h17b]; exact MkD.nil (fun t e ht _ => by omega) e396)
      · have ht : isT t := by omega
        refine x_aload_n (pc2 := 39) hC rfl rfl dX8_join_38 rfl ?_
        refine x_iconst (pc2 := 40) hC dX8_join_39 rfl ?_
        refine p_819 (pc2 := 43) hC hK (by assumption) (by assumption) dX8_join_40 rfl ?_
        refine x_aload_n (pc2 := 44) hC rfl rfl dX8_join_43 rfl ?_
        refine x_aload_n (pc2 := 45) hC rfl rfl dX8_join_44 rfl ?_
        refine x_aload_n (pc2 := 46) hC rfl rfl dX8_join_45 rfl ?_
        refine x_lconst1 (pc2 := 47) hC dX8_join_46 rfl ?_
        refine x_cVi (pc2 := 50) (ci := 8) hC hK (t_whole l hM (St.zero (F := F1) (A := A1)) (by decide) (v := 1) (by decide)) lk_981 rfl rfl (by decide) (by assumption) (by assumption) ⟨Nat.le_of_ble_eq_true rfl, Nat.le_of_ble_eq_true rfl⟩ ⟨Nat.le_refl _, Nat.le_refl _⟩ rfl (Nat.le_of_ble_eq_true rfl) dX8_join_47 rfl ?_
        rintro z47 F47 A47 ⟨ez47, V47, hS47, v47, k47, g47⟩
        obtain rfl := ez47.symm
        replace hS47 : St 6 V47 F47 A47 := hS47
        rw [show (0 : Int) + 3 = 3 from rfl]
        obtain ⟨wi47, ewi47⟩ : ∃ w : T3, w = (1, 0, 1) := ⟨_, rfl⟩
        have uwi47 : tr V47 3 = wi47 := by rw [ewi47]; exact v47
        have bwi47 : bdt 1 1 wi47 := by rw [ewi47]; exact ⟨by unfold bd; decide, by unfold bd; decide, by unfold bd; decide⟩
        clear v47
        refine x_aload_n (pc2 := 51) hC rfl rfl dX8_join_50 rfl ?_
        refine x_aload_n (pc2 := 52) hC rfl rfl dX8_join_51 rfl ?_
        refine x_iload_n (pc2 := 53) hC rfl rfl dX8_join_52 rfl ?_
        refine x_iload (pc2 := 55) hC rfl dX8_join_53 rfl ?_
        refine x_iconst (pc2 := 56) hC dX8_join_55 rfl ?_
        refine x_iconst (pc2 := 57) hC dX8_join_56 rfl ?_
        refine x_cVi (pc2 := 60) (ci := 8) hC hK (t_entry l hM hS47 (by decide) ⟨by omega, by omega⟩ (x := vS S a t 3) (by rw [g47.a (by decide)]; exact (show held (A1 2) (96 * a + 24 * t + 6 * (2 * 1 + 1)) (vS S a t 3) from hb6 a t 3 ha ht ⟨by decide, by decide⟩)) ((hi.2.1 a ha).2 t 3 ht ⟨by decide, by decide⟩).1.2.2) lk_985 rfl rfl (by decide) (by assumption) (by assumption) ⟨Nat.le_of_ble_eq_true rfl, Nat.le_of_ble_eq_true rfl⟩ ⟨Nat.le_refl _, Nat.le_refl _⟩ rfl (Nat.le_of_ble_eq_true rfl) dX8_join_57 rfl ?_
        rintro z57 F57 A57 ⟨ez57, V57, hS57, v57, k57, g57⟩
        obtain rfl := ez57.symm
        replace hS57 : St 24 V57 F57 A57 := hS57
        have t57_wi47 : tr V57 3 = wi47 := (tr_keep (by decide) k57).trans uwi47
        rw [show (6 : Int) + 15 = 21 from rfl]
        obtain ⟨wi57, ewi57⟩ : ∃ w : T3, w = vS S a t 3 := ⟨_, rfl⟩
        have uwi57 : tr V57 21 = wi57 := by rw [ewi57]; exact v57
        have bwi57 : bdt 25 25 wi57 := by rw [ewi57]; exact (ok_bdt ((hi.2.1 a ha).2 t 3 ht ⟨by decide, by decide⟩).1)
        clear v57
        refine x_aload_n (pc2 := 61) hC rfl rfl dX8_join_60 rfl ?_
        refine x_iload_n (pc2 := 62) hC rfl rfl dX8_join_61 rfl ?_
        refine x_iload (pc2 := 64) hC rfl dX8_join_62 rfl ?_
        refine x_iconst (pc2 := 65) hC dX8_join_64 rfl ?_
        refine x_iconst (pc2 := 66) hC dX8_join_65 rfl ?_
        refine x_cVi (pc2 := 69) (ci := 8) hC hK (t_entry l hM hS57 (by decide) ⟨by omega, by omega⟩ (x := vS S b t 0) (by rw [(g47.tr g57).a (by decide)]; exact (show held (A1 2) (96 * b + 24 * t + 6 * (2 * 0 + 0)) (vS S b t 0) from hb6 b t 0 hb ht ⟨by decide, by decide⟩)) ((hi.2.1 b hb).2 t 0 ht ⟨by decide, by decide⟩).1.2.2) lk_985 rfl rfl (by decide) (by assumption) (by assumption) ⟨Nat.le_of_ble_eq_true rfl, Nat.le_of_ble_eq_true rfl⟩ ⟨Nat.le_refl _, Nat.le_refl _⟩ rfl (Nat.le_of_ble_eq_true rfl) dX8_join_66 rfl ?_
        rintro z66 F66 A66 ⟨ez66, V66, hS66, v66, k66, g66⟩
        obtain rfl := ez66.symm
        replace hS66 : St 42 V66 F66 A66 := hS66
        have t66_wi47 : tr V66 3 = wi47 := (tr_keep (by decide) k66).trans t57_wi47
        have t66_wi57 : tr V66 21 = wi57 := (tr_keep (by decide) k66).trans uwi57
        rw [show (24 : Int) + 15 = 39 from rfl]
        obtain ⟨wi66, ewi66⟩ : ∃ w : T3, w = vS S b t 0 := ⟨_, rfl⟩
        have uwi66 : tr V66 39 = wi66 := by rw [ewi66]; exact v66
        have bwi66 : bdt 25 25 wi66 := by rw [ewi66]; exact (ok_bdt ((hi.2.1 b hb).2 t 0 ht ⟨by decide, by decide⟩).1)
        clear v66
        refine x_cVi (pc2 := 72) (ci := 8) hC hK (t_product l hM hS66 (x := 21) (y := 39) ⟨by decide, by decide⟩ ⟨by decide, by decide⟩ t66_wi57 uwi66 bwi57 bwi66 (by decide) ⟨by decide, by decide⟩) lk_1004 rfl rfl (by decide) (by assumption) (by assumption) ⟨Nat.le_of_ble_eq_true rfl, Nat.le_of_ble_eq_true rfl⟩ ⟨Nat.le_refl _, Nat.le_refl _⟩ rfl (Nat.le_of_ble_eq_true rfl) dX8_join_69 rfl ?_
        rintro z69 F69 A69 ⟨ez69, V69, hS69, v69, k69, g69⟩
        obtain rfl := ez69.symm
        replace hS69 : St 53 V69 F69 A69 := hS69
        have t69_wi47 : tr V69 3 = wi47 := (tr_keep (by decide) k69).trans t66_wi47
        have t69_wi57 : tr V69 21 = wi57 := (tr_keep (by decide) k69).trans t66_wi57
        have t69_wi66 : tr V69 39 = wi66 := (tr_keep (by decide) k69).trans uwi66
        rw [show (42 : Int) + 8 = 50 from rfl]
        obtain ⟨wi69, ewi69⟩ : ∃ w : T3, w = tmul wi57 wi66 := ⟨_, rfl⟩
        have uwi69 : tr V69 50 = wi69 := by rw [ewi69]; exact v69
        have bwi69 : bdt 51 50 wi69 := by rw [ewi69]; exact (bdt_mul bwi57 bwi66 (by decide) (by decide))
        clear v69
        refine x_cVi (pc2 := 75) (ci := 8) hC hK (t_sub l hM hS69 (x := 3) (y := 50) ⟨by decide, by decide⟩ ⟨by decide, by decide⟩ t69_wi47 uwi69 bwi47 bwi69 (by decide) ⟨by decide, by decide, by decide⟩) lk_1012 rfl rfl (by decide) (by assumption) (by assumption) ⟨Nat.le_of_ble_eq_true rfl, Nat.le_of_ble_eq_true rfl⟩ ⟨Nat.le_refl _, Nat.le_refl _⟩ rfl (Nat.le_of_ble_eq_true rfl) dX8_join_72 rfl ?_
        rintro z72 F72 A72 ⟨ez72, V72, hS72, v72, k72, g72⟩
        obtain rfl := ez72.symm
        replace hS72 : St 68 V72 F72 A72 := hS72
        have t72_wi47 : tr V72 3 = wi47 := (tr_keep (by decide) k72).trans t69_wi47
        have t72_wi57 : tr V72 21 = wi57 := (tr_keep (by decide) k72).trans t69_wi57
        have t72_wi66 : tr V72 39 = wi66 := (tr_keep (by decide) k72).trans t69_wi66
        have t72_wi69 : tr V72 50 = wi69 := (tr_keep (by decide) k72).trans uwi69
        rw [show (53 : Int) + 12 = 65 from rfl]
        obtain ⟨wi72, ewi72⟩ : ∃ w : T3, w = tadd wi47 (tneg wi69) := ⟨_, rfl⟩
        have uwi72 : tr V72 65 = wi72 := by rw [ewi72]; exact v72
        have bwi72 : bdt 53 51 wi72 := by rw [ewi72]; exact (bdt_add bwi47 (bdt_neg bwi69) (by decide) (by decide) (by decide))
        clear v72
        refine x_cVi (pc2 := 78) (ci := 8) hC hK (t_zero l hM hS72 (x := 65) ⟨by decide, by decide⟩ uwi72) lk_1024 rfl rfl (by decide) (by assumption) (by assumption) ⟨Nat.le_of_ble_eq_true rfl, Nat.le_of_ble_eq_true rfl⟩ ⟨Nat.le_refl _, Nat.le_refl _⟩ rfl (Nat.le_of_ble_eq_true rfl) dX8_join_75 rfl ?_
        rintro z75 F75 A75 ⟨w75, b75, e175, e275⟩
        obtain rfl := e175.symm
        obtain rfl := e275.symm
        have hRz : RepM S F72 A72 := hR1.K ((FrK.f (by decide)).tr ((((g47.tr g57).tr g66).tr g69).tr g72).K)
        have qe2 : q3 wi72 = joinE (nmN S a t) (nmN S b t) := by rw [ewi72, ewi69, ewi47, ewi57, ewi66, q_sub, q_mul]; rfl
        have hzz := (b75 ()).trans (z3_iff qe2)
        refine x_if_eq (tgt := 89) (pc2 := 81) hC (by omega) dX8_join_78 rfl rfl (fun h_78 => ?_) (fun h_78 => ?_)
        · refine x_iinc (pc2 := 92) (loc2 := [_, _, _, _, _, _, _]) hC (by decide) rfl rfl dX8_join_89 rfl ?_
          refine x_goto (pc2 := 32) hC dX8_join_92 rfl ?_
          refine ih (t + 1) _ _ (by omega) (by omega) (by omega) hRz (fun s s0 s1 => ?_)
          by_cases y : s = t
          · rw [y]
            exact itC_neg (fun z => absurd h_78 (hzz.mpr z))
          · exact hdv s s0 (by omega)
        · refine x_aload_n (pc2 := 82) hC rfl rfl dX8_join_81 rfl ?_
          refine x_iload (pc2 := 84) hC rfl dX8_join_82 rfl ?_
          refine x_iconst (pc2 := 85) hC dX8_join_84 rfl ?_
          refine x_cVi (pc2 := 88) (ci := 8) hC hK (q_refuses l hM hRz) lk_1032 rfl rfl (by decide) (by assumption) (by assumption) ⟨Nat.le_of_ble_eq_true rfl, Nat.le_of_ble_eq_true rfl⟩ ⟨Nat.le_refl _, Nat.le_refl _⟩ rfl (Nat.le_of_ble_eq_true rfl) dX8_join_85 rfl ?_
          rintro z85 F85 A85 ⟨ez, hRf⟩
          exact x_iret hC hr hlk ⟨_, rfl, _, Or.inr ⟨hok, Or.inl ⟨t, ht, hdv, fun y => by dsimp only at y; rw [itC_pos (hzz.mp h_78)] at y; exact absurd y (by decide), ez, by dsimp only; rw [itC_pos (hzz.mp h_78)]⟩⟩, hRf⟩ dX8_join_88
  refine x_aload_n (pc2 := 1) hC rfl rfl dX8_join_0 rfl ?_
  refine x_iload_n (pc2 := 2) hC rfl rfl dX8_join_1 rfl ?_
  refine x_iconst (pc2 := 3) hC dX8_join_2 rfl ?_
  refine x_cVi (pc2 := 6) (ci := 8) hC hK (q_has l hM hR0 hc (by decide)) lk_977 rfl rfl (by decide) (by assumption) (by assumption) ⟨Nat.le_of_ble_eq_true rfl, Nat.le_of_ble_eq_true rfl⟩ ⟨Nat.le_refl _, Nat.le_refl _⟩ rfl (Nat.le_of_ble_eq_true rfl) dX8_join_3 rfl ?_
  rintro z3 F3 A3 ⟨w3, b3_, e13, e23⟩
  obtain rfl := e13.symm
  obtain rfl := e23.symm
  refine x_if_eq (tgt := 27) (pc2 := 9) hC (by omega) dX8_join_6 rfl rfl (fun h_6 => ?_) (fun h_6 => ?_)
  · refine x_iconst (pc2 := 28) hC dX8_join_27 rfl ?_
    exact x_iret hC hr hlk ⟨_, rfl, S, Or.inl ⟨fun ⟨q1, q2, q3⟩ => by first | exact absurd h_6 ((b3_ ()).mpr q1) | exact absurd h_15 ((b12 ()).mpr q2) | exact absurd h_24 ((b21 ()).mpr q3), rfl, rfl⟩, hR0⟩ dX8_join_28
  · refine x_aload_n (pc2 := 10) hC rfl rfl dX8_join_9 rfl ?_
    refine x_iload_n (pc2 := 11) hC rfl rfl dX8_join_10 rfl ?_
    refine x_iconst (pc2 := 12) hC dX8_join_11 rfl ?_
    refine x_cVi (pc2 := 15) (ci := 8) hC hK (q_has l hM hR0 ha0 (by decide)) lk_977 rfl rfl (by decide) (by assumption) (by assumption) ⟨Nat.le_of_ble_eq_true rfl, Nat.le_of_ble_eq_true rfl⟩ ⟨Nat.le_refl _, Nat.le_refl _⟩ rfl (Nat.le_of_ble_eq_true rfl) dX8_join_12 rfl ?_
    rintro z12 F12 A12 ⟨w12, b12, e112, e212⟩
    obtain rfl := e112.symm
    obtain rfl := e212.symm
    refine x_if_eq (tgt := 27) (pc2 := 18) hC (by omega) dX8_join_15 rfl rfl (fun h_15 => ?_) (fun h_15 => ?_)
    · refine x_iconst (pc2 := 28) hC dX8_join_27 rfl ?_
      exact x_iret hC hr hlk ⟨_, rfl, S, Or.inl ⟨fun ⟨q1, q2, q3⟩ => by first | exact absurd h_6 ((b3_ ()).mpr q1) | exact absurd h_15 ((b12 ()).mpr q2) | exact absurd h_24 ((b21 ()).mpr q3), rfl, rfl⟩, hR0⟩ dX8_join_28
    · refine x_aload_n (pc2 := 19) hC rfl rfl dX8_join_18 rfl ?_
      refine x_iload_n (pc2 := 20) hC rfl rfl dX8_join_19 rfl ?_
      refine x_iconst (pc2 := 21) hC dX8_join_20 rfl ?_
      refine x_cVi (pc2 := 24) (ci := 8) hC hK (q_has l hM hR0 hb0 (by decide)) lk_977 rfl rfl (by decide) (by assumption) (by assumption) ⟨Nat.le_of_ble_eq_true rfl, Nat.le_of_ble_eq_true rfl⟩ ⟨Nat.le_refl _, Nat.le_refl _⟩ rfl (Nat.le_of_ble_eq_true rfl) dX8_join_21 rfl ?_
      rintro z21 F21 A21 ⟨w21, b21, e121, e221⟩
      obtain rfl := e121.symm
      obtain rfl := e221.symm
      refine x_if_ne (tgt := 29) (pc2 := 27) hC (by omega) dX8_join_24 rfl rfl (fun h_24 => ?_) (fun h_24 => ?_)
      · refine x_iconst (pc2 := 30) hC dX8_join_29 rfl ?_
        refine x_istore (pc2 := 32) (loc2 := [_, _, _, _, _, _, _]) hC (by decide) rfl dX8_join_30 rfl ?_
        exact loop1 ⟨(b3_ ()).mp h_6, (b12 ()).mp h_15, (b21 ()).mp h_24⟩ 5 0 F A (by decide) (by decide) (by decide) hR0 (fun s a b => by omega)
      · refine x_iconst (pc2 := 28) hC dX8_join_27 rfl ?_
        exact x_iret hC hr hlk ⟨_, rfl, S, Or.inl ⟨fun ⟨q1, q2, q3⟩ => by first | exact absurd h_6 ((b3_ ()).mpr q1) | exact absurd h_15 ((b12 ()).mpr q2) | exact absurd h_24 ((b21 ()).mpr q3), rfl, rfl⟩, hR0⟩ dX8_join_28
