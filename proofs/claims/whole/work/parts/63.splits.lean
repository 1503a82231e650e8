theorem St.cut {T m : Int} {V : Int → Int} {F : Nat → Nat → Int} {A : Nat → Int → Int} (h : St T V F A) (h0 : 0 ≤ m ∧ m ≤ T) : St m V (uF F 0 10 m) A := ⟨uF_eq, by have := h.2.1; omega, fun u u0 u1 => h.2.2 u u0 (by omega)⟩
theorem St.F {T : Int} {V : Int → Int} {F F' : Nat → Nat → Int} {A A' : Nat → Int → Int} (h : St T V F A) (hF : F' 0 10 = F 0 10) (hA : ∀ a, a = 4 ∨ a = 5 ∨ a = 6 → A' a = A a) : St T V F' A' := by
  have e4 := hA 4 (by decide)
  have e5 := hA 5 (by decide)
  have e6 := hA 6 (by decide)
  refine ⟨hF.trans h.1, h.2.1, fun u u0 u1 => ?_⟩
  obtain ⟨a, b⟩ := h.2.2 u u0 u1
  have em : mlm A' u = mlm A u := by unfold mlm; rw [e4]
  refine ⟨?_, ?_⟩
  · unfold MOK; rw [e5, e6, em]; exact a
  · unfold mv mm; rw [e5, e6, em]; exact b
theorem FrM.a {F F' : Nat → Nat → Int} {A A' : Nat → Int → Int} (h : FrM F A F' A') {a : Nat} (ha : a = 1 ∨ a = 2 ∨ a = 3 ∨ a = 10 ∨ a = 11) : A' a = A a := h.2.2 a (by omega) (by omega) (by omega) (by omega) (by omega) (by omega)
theorem ho_step {B q w d P r : Int} (h : w * (P * B) + (d + q * P) = r) : (w * B + q) * P + d = r := by grind
theorem td_sg {s X : Int} {M : Nat} (hs : s = 1 ∨ s = -1) (hX : s * (X.natAbs : Int) = X) : ((X.natAbs / M : Nat) : Int) * s = X.tdiv M ∧ ((X.natAbs % M : Nat) : Int) * s = X.tmod M := by
  have e : (X.natAbs : Int).tdiv (M : Int) = ((X.natAbs / M : Nat) : Int) := rfl
  have e2 : (X.natAbs : Int).tmod (M : Int) = ((X.natAbs % M : Nat) : Int) := rfl
  rcases hs with rfl | rfl
  · rw [← e, ← e2, show (X.natAbs : Int) = X by omega]; omega
  · rw [← e, ← e2, show (X.natAbs : Int) = -X by omega, Int.neg_tdiv, Int.neg_tmod]; omega
theorem dX8_splits_0 : decode cX8_splits 0 = .ok (.aload_n 0, 1) := by decide +kernel
theorem dX8_splits_1 : decode cX8_splits 1 = .ok (.getfield 52, 3) := by decide +kernel
theorem dX8_splits_4 : decode cX8_splits 4 = .ok (.istore_n 2, 1) := by decide +kernel
theorem dX8_splits_5 : decode cX8_splits 5 = .ok (.aload_n 0, 1) := by decide +kernel
theorem dX8_splits_6 : decode cX8_splits 6 = .ok (.aload_n 0, 1) := by decide +kernel
theorem dX8_splits_7 : decode cX8_splits 7 = .ok (.ldc2_w 87, 3) := by decide +kernel
theorem dX8_splits_10 : decode cX8_splits 10 = .ok (.invokevirtual 89, 3) := by decide +kernel
theorem dX8_splits_13 : decode cX8_splits 13 = .ok (.aload_n 0, 1) := by decide +kernel
theorem dX8_splits_14 : decode cX8_splits 14 = .ok (.ldc2_w 87, 3) := by decide +kernel
theorem dX8_splits_17 : decode cX8_splits 17 = .ok (.invokevirtual 89, 3) := by decide +kernel
theorem dX8_splits_20 : decode cX8_splits 20 = .ok (.invokevirtual 93, 3) := by decide +kernel
theorem dX8_splits_23 : decode cX8_splits 23 = .ok (.istore_n 3, 1) := by decide +kernel
theorem dX8_splits_24 : decode cX8_splits 24 = .ok (.aload_n 0, 1) := by decide +kernel
theorem dX8_splits_25 : decode cX8_splits 25 = .ok (.iload_n 1, 1) := by decide +kernel
theorem dX8_splits_26 : decode cX8_splits 26 = .ok (.iload_n 3, 1) := by decide +kernel
theorem dX8_splits_27 : decode cX8_splits 27 = .ok (.invokevirtual 66, 3) := by decide +kernel
theorem dX8_splits_30 : decode cX8_splits 30 = .ok (.istore 4, 2) := by decide +kernel
theorem dX8_splits_32 : decode cX8_splits 32 = .ok (.iload 4, 2) := by decide +kernel
theorem dX8_splits_34 : decode cX8_splits 34 = .ok (.ifCond .gt 7, 3) := by decide +kernel
theorem dX8_splits_37 : decode cX8_splits 37 = .ok (.iconst 1, 1) := by decide +kernel
theorem dX8_splits_38 : decode cX8_splits 38 = .ok (.goto 4, 3) := by decide +kernel
theorem dX8_splits_41 : decode cX8_splits 41 = .ok (.iconst 0, 1) := by decide +kernel
theorem dX8_splits_42 : decode cX8_splits 42 = .ok (.istore 5, 2) := by decide +kernel
theorem dX8_splits_44 : decode cX8_splits 44 = .ok (.iload 5, 2) := by decide +kernel
theorem dX8_splits_46 : decode cX8_splits 46 = .ok (.ifCond .eq 155, 3) := by decide +kernel
theorem dX8_splits_49 : decode cX8_splits 49 = .ok (.aload_n 0, 1) := by decide +kernel
theorem dX8_splits_50 : decode cX8_splits 50 = .ok (.invokevirtual 55, 3) := by decide +kernel
theorem dX8_splits_53 : decode cX8_splits 53 = .ok (.istore 6, 2) := by decide +kernel
theorem dX8_splits_55 : decode cX8_splits 55 = .ok (.aload_n 0, 1) := by decide +kernel
theorem dX8_splits_56 : decode cX8_splits 56 = .ok (.iload_n 1, 1) := by decide +kernel
theorem dX8_splits_57 : decode cX8_splits 57 = .ok (.aload_n 0, 1) := by decide +kernel
theorem dX8_splits_58 : decode cX8_splits 58 = .ok (.ldc2_w 87, 3) := by decide +kernel
theorem dX8_splits_61 : decode cX8_splits 61 = .ok (.invokevirtual 89, 3) := by decide +kernel
theorem dX8_splits_64 : decode cX8_splits 64 = .ok (.iload 6, 2) := by decide +kernel
theorem dX8_splits_66 : decode cX8_splits 66 = .ok (.invokevirtual 83, 3) := by decide +kernel
theorem dX8_splits_69 : decode cX8_splits 69 = .ok (.istore 7, 2) := by decide +kernel
theorem dX8_splits_71 : decode cX8_splits 71 = .ok (.aload_n 0, 1) := by decide +kernel
theorem dX8_splits_72 : decode cX8_splits 72 = .ok (.lconst 0, 1) := by decide +kernel
theorem dX8_splits_73 : decode cX8_splits 73 = .ok (.putfield 96, 3) := by decide +kernel
theorem dX8_splits_76 : decode cX8_splits 76 = .ok (.iload 7, 2) := by decide +kernel
theorem dX8_splits_78 : decode cX8_splits 78 = .ok (.iconst 1, 1) := by decide +kernel
theorem dX8_splits_79 : decode cX8_splits 79 = .ok (.isub, 1) := by decide +kernel
theorem dX8_splits_80 : decode cX8_splits 80 = .ok (.istore 8, 2) := by decide +kernel
theorem dX8_splits_82 : decode cX8_splits 82 = .ok (.iload 8, 2) := by decide +kernel
theorem dX8_splits_84 : decode cX8_splits 84 = .ok (.ifCond .lt 30, 3) := by decide +kernel
theorem dX8_splits_87 : decode cX8_splits 87 = .ok (.aload_n 0, 1) := by decide +kernel
theorem dX8_splits_88 : decode cX8_splits 88 = .ok (.aload_n 0, 1) := by decide +kernel
theorem dX8_splits_89 : decode cX8_splits 89 = .ok (.getfield 96, 3) := by decide +kernel
theorem dX8_splits_92 : decode cX8_splits 92 = .ok (.ldc2_w 59, 3) := by decide +kernel
theorem dX8_splits_95 : decode cX8_splits 95 = .ok (.lmul, 1) := by decide +kernel
theorem dX8_splits_96 : decode cX8_splits 96 = .ok (.aload_n 0, 1) := by decide +kernel
theorem dX8_splits_97 : decode cX8_splits 97 = .ok (.getfield 43, 3) := by decide +kernel
theorem dX8_splits_100 : decode cX8_splits 100 = .ok (.iload 8, 2) := by decide +kernel
theorem dX8_splits_102 : decode cX8_splits 102 = .ok (.iaload, 1) := by decide +kernel
theorem dX8_splits_103 : decode cX8_splits 103 = .ok (.i2l, 1) := by decide +kernel
theorem dX8_splits_104 : decode cX8_splits 104 = .ok (.ladd, 1) := by decide +kernel
theorem dX8_splits_105 : decode cX8_splits 105 = .ok (.putfield 96, 3) := by decide +kernel
theorem dX8_splits_108 : decode cX8_splits 108 = .ok (.iinc 8 (-1), 3) := by decide +kernel
theorem dX8_splits_111 : decode cX8_splits 111 = .ok (.goto (-29), 3) := by decide +kernel
theorem dX8_splits_114 : decode cX8_splits 114 = .ok (.aload_n 0, 1) := by decide +kernel
theorem dX8_splits_115 : decode cX8_splits 115 = .ok (.lconst 0, 1) := by decide +kernel
theorem dX8_splits_116 : decode cX8_splits 116 = .ok (.putfield 100, 3) := by decide +kernel
theorem dX8_splits_119 : decode cX8_splits 119 = .ok (.aload_n 0, 1) := by decide +kernel
theorem dX8_splits_120 : decode cX8_splits 120 = .ok (.getfield 31, 3) := by decide +kernel
theorem dX8_splits_123 : decode cX8_splits 123 = .ok (.iload 6, 2) := by decide +kernel
theorem dX8_splits_125 : decode cX8_splits 125 = .ok (.iaload, 1) := by decide +kernel
theorem dX8_splits_126 : decode cX8_splits 126 = .ok (.iconst 1, 1) := by decide +kernel
theorem dX8_splits_127 : decode cX8_splits 127 = .ok (.isub, 1) := by decide +kernel
theorem dX8_splits_128 : decode cX8_splits 128 = .ok (.istore 8, 2) := by decide +kernel
theorem dX8_splits_130 : decode cX8_splits 130 = .ok (.iload 8, 2) := by decide +kernel
theorem dX8_splits_132 : decode cX8_splits 132 = .ok (.ifCond .lt 37, 3) := by decide +kernel
theorem dX8_splits_135 : decode cX8_splits 135 = .ok (.aload_n 0, 1) := by decide +kernel
theorem dX8_splits_136 : decode cX8_splits 136 = .ok (.aload_n 0, 1) := by decide +kernel
theorem dX8_splits_137 : decode cX8_splits 137 = .ok (.getfield 100, 3) := by decide +kernel
theorem dX8_splits_140 : decode cX8_splits 140 = .ok (.ldc2_w 59, 3) := by decide +kernel
theorem dX8_splits_143 : decode cX8_splits 143 = .ok (.lmul, 1) := by decide +kernel
theorem dX8_splits_144 : decode cX8_splits 144 = .ok (.aload_n 0, 1) := by decide +kernel
theorem dX8_splits_145 : decode cX8_splits 145 = .ok (.getfield 28, 3) := by decide +kernel
theorem dX8_splits_148 : decode cX8_splits 148 = .ok (.sipush 240, 3) := by decide +kernel
theorem dX8_splits_151 : decode cX8_splits 151 = .ok (.iload 6, 2) := by decide +kernel
theorem dX8_splits_153 : decode cX8_splits 153 = .ok (.imul, 1) := by decide +kernel
theorem dX8_splits_154 : decode cX8_splits 154 = .ok (.iload 8, 2) := by decide +kernel
theorem dX8_splits_156 : decode cX8_splits 156 = .ok (.iadd, 1) := by decide +kernel
theorem dX8_splits_157 : decode cX8_splits 157 = .ok (.iaload, 1) := by decide +kernel
theorem dX8_splits_158 : decode cX8_splits 158 = .ok (.i2l, 1) := by decide +kernel
theorem dX8_splits_159 : decode cX8_splits 159 = .ok (.ladd, 1) := by decide +kernel
theorem dX8_splits_160 : decode cX8_splits 160 = .ok (.putfield 100, 3) := by decide +kernel
theorem dX8_splits_163 : decode cX8_splits 163 = .ok (.iinc 8 (-1), 3) := by decide +kernel
theorem dX8_splits_166 : decode cX8_splits 166 = .ok (.goto (-36), 3) := by decide +kernel
theorem dX8_splits_169 : decode cX8_splits 169 = .ok (.aload_n 0, 1) := by decide +kernel
theorem dX8_splits_170 : decode cX8_splits 170 = .ok (.dup, 1) := by decide +kernel
theorem dX8_splits_171 : decode cX8_splits 171 = .ok (.getfield 96, 3) := by decide +kernel
theorem dX8_splits_174 : decode cX8_splits 174 = .ok (.aload_n 0, 1) := by decide +kernel
theorem dX8_splits_175 : decode cX8_splits 175 = .ok (.getfield 34, 3) := by decide +kernel
theorem dX8_splits_178 : decode cX8_splits 178 = .ok (.iload_n 1, 1) := by decide +kernel
theorem dX8_splits_179 : decode cX8_splits 179 = .ok (.iaload, 1) := by decide +kernel
theorem dX8_splits_180 : decode cX8_splits 180 = .ok (.i2l, 1) := by decide +kernel
theorem dX8_splits_181 : decode cX8_splits 181 = .ok (.lmul, 1) := by decide +kernel
theorem dX8_splits_182 : decode cX8_splits 182 = .ok (.putfield 96, 3) := by decide +kernel
theorem dX8_splits_185 : decode cX8_splits 185 = .ok (.aload_n 0, 1) := by decide +kernel
theorem dX8_splits_186 : decode cX8_splits 186 = .ok (.dup, 1) := by decide +kernel
theorem dX8_splits_187 : decode cX8_splits 187 = .ok (.getfield 100, 3) := by decide +kernel
theorem dX8_splits_190 : decode cX8_splits 190 = .ok (.aload_n 0, 1) := by decide +kernel
theorem dX8_splits_191 : decode cX8_splits 191 = .ok (.getfield 34, 3) := by decide +kernel
theorem dX8_splits_194 : decode cX8_splits 194 = .ok (.iload_n 1, 1) := by decide +kernel
theorem dX8_splits_195 : decode cX8_splits 195 = .ok (.iaload, 1) := by decide +kernel
theorem dX8_splits_196 : decode cX8_splits 196 = .ok (.i2l, 1) := by decide +kernel
theorem dX8_splits_197 : decode cX8_splits 197 = .ok (.lmul, 1) := by decide +kernel
theorem dX8_splits_198 : decode cX8_splits 198 = .ok (.putfield 100, 3) := by decide +kernel
theorem dX8_splits_201 : decode cX8_splits 201 = .ok (.aload_n 0, 1) := by decide +kernel
theorem dX8_splits_202 : decode cX8_splits 202 = .ok (.iload_n 2, 1) := by decide +kernel
theorem dX8_splits_203 : decode cX8_splits 203 = .ok (.putfield 52, 3) := by decide +kernel
theorem dX8_splits_206 : decode cX8_splits 206 = .ok (.iload 5, 2) := by decide +kernel
theorem dX8_splits_208 : decode cX8_splits 208 = .ok (.ireturn, 1) := by decide +kernel
set_option maxHeartbeats 8000000 in
theorem n_splits (l : Launch) {D : va_G} {ids : Nat → ClassId} {β : Nat} {sh : Nat → Nat × Nat} {N : Nat} {R : Nat → Nat → Option Nat} {F : Nat → Nat → Int} {A : Nat → Int → Int} (hM : MoL sh R N) {T x : Int} {V : Int → Int} (hS : St T V F A) (hT : T < 1490) (hx : 0 ≤ x ∧ x < T) : MetX l yX8_splits cX8_splits 9 (some (.boolean)) 2 62 D ids β sh N R F A [rf 0, pI x] (pIr (fun z F2 A2 => (0 ≤ z ∧ z ≤ 1) ∧ (Unit → (z ≠ 0 ↔ (V x).natAbs ≤ 1000000000000000000000000)) ∧ (z ≠ 0 → F2 0 14 = (V x).tdiv 1000000000000 ∧ F2 0 15 = (V x).tmod 1000000000000) ∧ (∃ V2, St T V2 F2 A2 ∧ ∀ u, u < T → V2 u = V u) ∧ FrM F A F2 A2)) := by
  refine MetX.of (loc := [_, _, _, _, _, _, _, _, _]) (plainFor_of_name (by decide +kernel)) (Nat.le_of_ble_eq_true rfl) rfl ?_
  intro p e s m args below meth c hC hK hr hlk
  obtain ⟨⟨m0, m1⟩, ⟨r0, r2, r3, r7, r8, r9, r11, r12, r13, r16, r18⟩, ⟨m2, m3⟩, ⟨m4, m5⟩, ⟨m6, m7⟩, ⟨m8, m9⟩, ⟨m10, m11⟩, ⟨m12, m13⟩, ⟨m14, m15⟩, ⟨m16, m17⟩, ⟨m18, m19⟩, ⟨m20, m21⟩, ⟨m22, m23⟩⟩ := id hM
  have hT0 := hS.2.1
  obtain ⟨okx, evx⟩ := hS.2.2 x hx.1 hx.2
  have b13 : bd 13 1000000000000 := by unfold bd; decide
  have fin : ∀ (z w4 : Int) (F1 : Nat → Nat → Int) (A1 : Nat → Int → Int) (V1 : Int → Int) {e6 e7 e8 : Option PV}, (0 ≤ z ∧ z ≤ 1) → (Unit → (z ≠ 0 ↔ (V x).natAbs ≤ 1000000000000000000000000)) → (z ≠ 0 → F1 0 14 = (V x).tdiv 1000000000000 ∧ F1 0 15 = (V x).tmod 1000000000000) → ∀ (T1 : Int), T ≤ T1 → St T1 V1 F1 A1 → (∀ u, u < T → V1 u = V u) → FrM F A F1 A1 → X p l e { frames := 2, cells := 0, slots := 0, locals := 62 } s m args below meth c (MQ below (QX D ids β sh N R (pIr (fun z F2 A2 => (0 ≤ z ∧ z ≤ 1) ∧ (Unit → (z ≠ 0 ↔ (V x).natAbs ≤ 1000000000000000000000000)) ∧ (z ≠ 0 → F2 0 14 = (V x).tdiv 1000000000000 ∧ F2 0 15 = (V x).tmod 1000000000000) ∧ (∃ V2, St T V2 F2 A2 ∧ ∀ u, u < T → V2 u = V u) ∧ FrM F A F2 A2))) args s 0 0 (inG β N)) (inG β N) D ids β sh 9 0 0 N R F1 A1 [some (rf 0), some (pI x), some (pI T), some (pI (T + 2)), some (pI w4), some (pI z), e6, e7, e8] [] 201 := by
    intro z w4 F1 A1 V1 e6 e7 e8 hz hz2 hz3 T1 hT1 hS1 hk1 hf1
    refine x_aload_n (pc2 := 202) hC rfl rfl dX8_splits_201 rfl ?_
    refine x_iload_n (pc2 := 203) hC rfl rfl dX8_splits_202 rfl ?_
    refine p_819 (pc2 := 206) hC hK (by assumption) (by assumption) dX8_splits_203 rfl ?_
    refine x_iload (pc2 := 208) hC rfl dX8_splits_206 rfl ?_
    exact x_zret hC (by omega) hr hlk ⟨_, rfl, hz, hz2, fun q => ⟨by rw [uF_nj (by decide)]; exact (hz3 q).1, by rw [uF_nj (by decide)]; exact (hz3 q).2⟩, ⟨V1, hS1.cut ⟨hT0.1, hT1⟩, hk1⟩, hf1.tr (FrM.f (by decide))⟩ dX8_splits_208
  have lowl : ∀ (n w4 : Int) (F0 : Nat → Nat → Int) (A1 : Nat → Int → Int) (V1 : Int → Int), (V x).natAbs ≤ 1000000000000000000000000 → St (T + 5) V1 F0 A1 → (∀ u, u < T → V1 u = V u) → FrM F A F0 A1 → (V1 (T + 3)).natAbs = (V x).natAbs % 1000000000000 → ∀ (d s0 : Nat) (lo hi : Int), (s0 : Int) < d → (s0 : Int) ≤ A1 5 (T + 3) → hi = (((V x).natAbs / 1000000000000 : Nat) : Int) → lo * 32768 ^ s0 + dv 32768 (mlm A1 (T + 3)) s0 = mm A1 (T + 3) → X p l e { frames := 2, cells := 0, slots := 0, locals := 62 } s m args below meth c (MQ below (QX D ids β sh N R (pIr (fun z F2 A2 => (0 ≤ z ∧ z ≤ 1) ∧ (Unit → (z ≠ 0 ↔ (V x).natAbs ≤ 1000000000000000000000000)) ∧ (z ≠ 0 → F2 0 14 = (V x).tdiv 1000000000000 ∧ F2 0 15 = (V x).tmod 1000000000000) ∧ (∃ V2, St T V2 F2 A2 ∧ ∀ u, u < T → V2 u = V u) ∧ FrM F A F2 A2))) args s 0 0 (inG β N)) (inG β N) D ids β sh 9 0 0 N R (uF (uF F0 0 14 hi) 0 15 lo) A1 [some (rf 0), some (pI x), some (pI T), some (pI (T + 2)), some (pI w4), some (pI 1), some (pI (T + 3)), some (pI n), some (pI ((s0 : Int) - 1))] [] 130 := by
    intro n w4 F0 A1 V1 hle hS1 hk1 hf1 hr d
    induction d with
    | zero => intro s0 lo hi hd; omega
    | succ d ih =>
      intro s0 lo hi hd hs hhi hv
      obtain ⟨okr, evr⟩ := hS1.2.2 (T + 3) (by omega) (by omega)
      have sr := okr.1
      have rf14 : ∀ a : Int, uF (uF F0 0 14 hi) 0 15 a 0 14 = hi := fun a => by rw [uF_nj (by decide), uF_eq]
      cases s0 with
      | zero =>
        have hlo : lo = (((V x).natAbs % 1000000000000 : Nat) : Int) := by
          rw [← hr, ← evr, ← mm_na okr, ← hv]
          simp [dv]
        obtain ⟨okx1, evx1⟩ := hS1.2.2 x hx.1 (by omega)
        have sgx := td_sg (M := 1000000000000) okx1.2.2.2 (sgn_na okx1)
        rw [evx1, hk1 x hx.2] at sgx
        refine x_iload (pc2 := 132) hC rfl dX8_splits_130 rfl ?_
        refine x_if_lt (tgt := 169) (pc2 := 135) hC (by omega) dX8_splits_132 rfl rfl (fun h_132 => ?_) (fun h_132 => ?_)
        · refine x_aload_n (pc2 := 170) hC rfl rfl dX8_splits_169 rfl ?_
          refine x_dupR (pc2 := 171) hC dX8_splits_170 rfl ?_
          refine g_823 (pc2 := 174) hC hK (by assumption) (by assumption) dX8_splits_171 rfl ?_
          refine x_aload_n (pc2 := 175) hC rfl rfl dX8_splits_174 rfl ?_
          refine g_818 (pc2 := 178) hC hK (by assumption) (by assumption) (by assumption) dX8_splits_175 rfl ?_
          refine x_iload_n (pc2 := 179) hC rfl rfl dX8_splits_178 rfl ?_
          refine x_iald (pc2 := 180) hC hK (by assumption) (by assumption) (by omega) (by decide) dX8_splits_179 rfl ?_
          refine x_i2l (pc2 := 181) hC (by rcases okx1.2.2.2 with q | q <;> rw [q] <;> decide) dX8_splits_180 rfl ?_
          refine x_lmul (pc2 := 182) hC dX8_splits_181 rfl ?_
          refine p_823 (pc2 := 185) hC hK (by assumption) (by assumption) dX8_splits_182 rfl ?_
          refine x_aload_n (pc2 := 186) hC rfl rfl dX8_splits_185 rfl ?_
          refine x_dupR (pc2 := 187) hC dX8_splits_186 rfl ?_
          refine g_824 (pc2 := 190) hC hK (by assumption) (by assumption) dX8_splits_187 rfl ?_
          refine x_aload_n (pc2 := 191) hC rfl rfl dX8_splits_190 rfl ?_
          refine g_818 (pc2 := 194) hC hK (by assumption) (by assumption) (by assumption) dX8_splits_191 rfl ?_
          refine x_iload_n (pc2 := 195) hC rfl rfl dX8_splits_194 rfl ?_
          refine x_iald (pc2 := 196) hC hK (by assumption) (by assumption) (by omega) (by decide) dX8_splits_195 rfl ?_
          refine x_i2l (pc2 := 197) hC (by rcases okx1.2.2.2 with q | q <;> rw [q] <;> decide) dX8_splits_196 rfl ?_
          refine x_lmul (pc2 := 198) hC dX8_splits_197 rfl ?_
          refine p_824 (pc2 := 201) hC hK (by assumption) (by assumption) dX8_splits_198 rfl ?_
          refine fin 1 w4 _ A1 V1 (by decide) (fun _ => ⟨fun _ => hle, fun _ => by decide⟩) (fun _ => ⟨?_, ?_⟩) (T + 5) (by omega) (hS1.F ?_ (fun _ _ => rfl)) hk1 (hf1.tr (((FrM.f (by decide)).tr (FrM.f (by decide))).tr ((FrM.f (by decide)).tr (FrM.f (by decide)))))
          · rw [uF_nj (by decide), uF_eq, rf14, hhi]; exact sgx.1
          · rw [uF_eq, uF_nj (by decide), uF_eq, hlo]; exact sgx.2
          · rw [uF_nj (by decide), uF_nj (by decide), uF_nj (by decide), uF_nj (by decide)]
        · exfalso; omega
      | succ s1 =>
        have ea : ((s1 + 1 : Nat) : Int) - 1 = (s1 : Int) := by omega
        have dg := okr.2.1 s1 (by omega) (by omega)
        unfold mlm at dg
        have e15 : uF (uF (uF F0 0 14 hi) 0 15 lo) 0 15 (uF (uF F0 0 14 hi) 0 15 lo 0 15 * 32768 + A1 4 (240 * (T + 3) + (s1 : Int))) = uF (uF F0 0 14 hi) 0 15 (lo * 32768 + A1 4 (240 * (T + 3) + (s1 : Int))) := by
          funext a b
          by_cases qa : a = 0 <;> by_cases qb : b = 15 <;> simp [uF, qa, qb]
        rw [ea]
        refine x_iload (pc2 := 132) hC rfl dX8_splits_130 rfl ?_
        refine x_if_lt (tgt := 169) (pc2 := 135) hC (by omega) dX8_splits_132 rfl rfl (fun h_132 => ?_) (fun h_132 => ?_)
        · exfalso; omega
        · refine x_aload_n (pc2 := 136) hC rfl rfl dX8_splits_135 rfl ?_
          refine x_aload_n (pc2 := 137) hC rfl rfl dX8_splits_136 rfl ?_
          refine g_824 (pc2 := 140) hC hK (by assumption) (by assumption) dX8_splits_137 rfl ?_
          refine x_ldc2 (pc2 := 143) (z := 32768) hC wt_910 rfl dX8_splits_140 rfl ?_
          refine x_lmul (pc2 := 144) hC dX8_splits_143 rfl ?_
          refine x_aload_n (pc2 := 145) hC rfl rfl dX8_splits_144 rfl ?_
          refine g_816 (pc2 := 148) hC hK (by assumption) (by assumption) (by assumption) dX8_splits_145 rfl ?_
          refine x_sipush (pc2 := 151) hC rfl dX8_splits_148 rfl ?_
          refine x_iload (pc2 := 153) hC rfl dX8_splits_151 rfl ?_
          refine x_imul (pc2 := 154) hC dX8_splits_153 rfl ?_
          refine x_iload (pc2 := 156) hC rfl dX8_splits_154 rfl ?_
          refine x_iadd (pc2 := 157) hC dX8_splits_156 rfl ?_
          refine x_iald (pc2 := 158) hC hK (by assumption) (by assumption) (by omega) (by decide) dX8_splits_157 rfl ?_
          refine x_i2l (pc2 := 159) hC ⟨by omega, by omega⟩ dX8_splits_158 rfl ?_
          refine x_ladd (pc2 := 160) hC dX8_splits_159 rfl ?_
          refine p_824 (pc2 := 163) hC hK (by assumption) (by assumption) dX8_splits_160 rfl ?_
          refine x_iinc (pc2 := 166) (loc2 := [_, _, _, _, _, _, _, _, _]) hC (by decide) rfl rfl dX8_splits_163 rfl ?_
          refine x_goto (pc2 := 130) hC dX8_splits_166 rfl ?_
          rw [e15, show (s1 : Int) + -1 = (s1 : Int) - 1 by omega]
          refine ih s1 _ hi (by omega) (by omega) hhi ?_
          refine ho_step ?_
          rw [← hv]
          simp only [dv]
          rw [Int.pow_succ]
          rfl
  have highl : ∀ (n : Nat) (w4 : Int) (F0 : Nat → Nat → Int) (A1 : Nat → Int → Int) (V1 : Int → Int), n ≤ 240 → (V x).natAbs ≤ 1000000000000000000000000 → St (T + 5) V1 F0 A1 → (∀ u, u < T → V1 u = V u) → FrM F A F0 A1 → (V1 (T + 3)).natAbs = (V x).natAbs % 1000000000000 → dig 32768 (A1 9) n → dv 32768 (A1 9) n = (((V x).natAbs / 1000000000000 : Nat) : Int) → ∀ (d s0 : Nat) (hi : Int), (s0 : Int) < d → s0 ≤ n → hi * 32768 ^ s0 + dv 32768 (A1 9) s0 = dv 32768 (A1 9) n → X p l e { frames := 2, cells := 0, slots := 0, locals := 62 } s m args below meth c (MQ below (QX D ids β sh N R (pIr (fun z F2 A2 => (0 ≤ z ∧ z ≤ 1) ∧ (Unit → (z ≠ 0 ↔ (V x).natAbs ≤ 1000000000000000000000000)) ∧ (z ≠ 0 → F2 0 14 = (V x).tdiv 1000000000000 ∧ F2 0 15 = (V x).tmod 1000000000000) ∧ (∃ V2, St T V2 F2 A2 ∧ ∀ u, u < T → V2 u = V u) ∧ FrM F A F2 A2))) args s 0 0 (inG β N)) (inG β N) D ids β sh 9 0 0 N R (uF F0 0 14 hi) A1 [some (rf 0), some (pI x), some (pI T), some (pI (T + 2)), some (pI w4), some (pI 1), some (pI (T + 3)), some (pI (n : Int)), some (pI ((s0 : Int) - 1))] [] 82 := by
    intro n w4 F0 A1 V1 hn hle hS1 hk1 hf1 hr hdg hQ d
    induction d with
    | zero => intro s0 hi hd; omega
    | succ d ih =>
      intro s0 hi hd hs hv
      obtain ⟨okr, evr⟩ := hS1.2.2 (T + 3) (by omega) (by omega)
      have sr := okr.1
      cases s0 with
      | zero =>
        have hhi : hi = (((V x).natAbs / 1000000000000 : Nat) : Int) := by
          rw [← hQ, ← hv]; simp [dv]
        refine x_iload (pc2 := 84) hC rfl dX8_splits_82 rfl ?_
        refine x_if_lt (tgt := 114) (pc2 := 87) hC (by omega) dX8_splits_84 rfl rfl (fun h_84 => ?_) (fun h_84 => ?_)
        · refine x_aload_n (pc2 := 115) hC rfl rfl dX8_splits_114 rfl ?_
          refine x_lconst0 (pc2 := 116) hC dX8_splits_115 rfl ?_
          refine p_824 (pc2 := 119) hC hK (by assumption) (by assumption) dX8_splits_116 rfl ?_
          refine x_aload_n (pc2 := 120) hC rfl rfl dX8_splits_119 rfl ?_
          refine g_817 (pc2 := 123) hC hK (by assumption) (by assumption) (by assumption) dX8_splits_120 rfl ?_
          refine x_iload (pc2 := 125) hC rfl dX8_splits_123 rfl ?_
          refine x_iald (pc2 := 126) hC hK (by assumption) (by assumption) (by omega) (by decide) dX8_splits_125 rfl ?_
          refine x_iconst (pc2 := 127) hC dX8_splits_126 rfl ?_
          refine x_isub (pc2 := 128) hC dX8_splits_127 rfl ?_
          refine x_istore (pc2 := 130) (loc2 := [_, _, _, _, _, _, _, _, _]) hC (by decide) rfl dX8_splits_128 rfl ?_
          have g := lowl n w4 F0 A1 V1 hle hS1 hk1 hf1 hr ((A1 5 (T + 3)).toNat + 1) (A1 5 (T + 3)).toNat 0 hi (by omega) (by omega) hhi (by unfold mm; omega)
          rw [show (((A1 5 (T + 3)).toNat : Nat) : Int) - 1 = A1 5 (T + 3) - 1 by omega] at g
          exact g
        · exfalso; omega
      | succ s1 =>
        have ea : ((s1 + 1 : Nat) : Int) - 1 = (s1 : Int) := by omega
        have dg := hdg s1 (by omega) (by omega)
        have e14 : uF (uF F0 0 14 hi) 0 14 (uF F0 0 14 hi 0 14 * 32768 + A1 9 (s1 : Int)) = uF F0 0 14 (hi * 32768 + A1 9 (s1 : Int)) := by
          funext a b
          by_cases qa : a = 0 <;> by_cases qb : b = 14 <;> simp [uF, qa, qb]
        rw [ea]
        refine x_iload (pc2 := 84) hC rfl dX8_splits_82 rfl ?_
        refine x_if_lt (tgt := 114) (pc2 := 87) hC (by omega) dX8_splits_84 rfl rfl (fun h_84 => ?_) (fun h_84 => ?_)
        · exfalso; omega
        · refine x_aload_n (pc2 := 88) hC rfl rfl dX8_splits_87 rfl ?_
          refine x_aload_n (pc2 := 89) hC rfl rfl dX8_splits_88 rfl ?_
          refine g_823 (pc2 := 92) hC hK (by assumption) (by assumption) dX8_splits_89 rfl ?_
          refine x_ldc2 (pc2 := 95) (z := 32768) hC wt_910 rfl dX8_splits_92 rfl ?_
          refine x_lmul (pc2 := 96) hC dX8_splits_95 rfl ?_
          refine x_aload_n (pc2 := 97) hC rfl rfl dX8_splits_96 rfl ?_
          refine g_822 (pc2 := 100) hC hK (by assumption) (by assumption) (by assumption) dX8_splits_97 rfl ?_
          refine x_iload (pc2 := 102) hC rfl dX8_splits_100 rfl ?_
          refine x_iald (pc2 := 103) hC hK (by assumption) (by assumption) (by omega) (by decide) dX8_splits_102 rfl ?_
          refine x_i2l (pc2 := 104) hC ⟨by omega, by omega⟩ dX8_splits_103 rfl ?_
          refine x_ladd (pc2 := 105) hC dX8_splits_104 rfl ?_
          refine p_823 (pc2 := 108) hC hK (by assumption) (by assumption) dX8_splits_105 rfl ?_
          refine x_iinc (pc2 := 111) (loc2 := [_, _, _, _, _, _, _, _, _]) hC (by decide) rfl rfl dX8_splits_108 rfl ?_
          refine x_goto (pc2 := 82) hC dX8_splits_111 rfl ?_
          rw [e14, show (s1 : Int) + -1 = (s1 : Int) - 1 by omega]
          refine ih s1 _ (by omega) (by omega) ?_
          refine ho_step ?_
          rw [← hv]
          simp only [dv]
          rw [Int.pow_succ]
  refine x_aload_n (pc2 := 1) hC rfl rfl dX8_splits_0 rfl ?_
  refine g_819 (pc2 := 4) hC hK (by assumption) (by assumption) dX8_splits_1 rfl ?_
  rw [hS.1]
  refine x_istore_n (pc2 := 5) (loc2 := [_, _, _, _, _, _, _, _, _]) hC rfl (by decide) rfl dX8_splits_4 rfl ?_
  refine x_aload_n (pc2 := 6) hC rfl rfl dX8_splits_5 rfl ?_
  refine x_aload_n (pc2 := 7) hC rfl rfl dX8_splits_6 rfl ?_
  refine x_ldc2 (pc2 := 10) (z := 1000000000000) hC wt_952 rfl dX8_splits_7 rfl ?_
  refine x_cVi (pc2 := 13) (ci := 8) hC hK (n_of l hM hS (by omega) (by decide)) lk_902 rfl rfl (by decide) (by assumption) (by assumption) ⟨Nat.le_of_ble_eq_true rfl, Nat.le_of_ble_eq_true rfl⟩ ⟨Nat.le_refl _, Nat.le_refl _⟩ rfl (Nat.le_of_ble_eq_true rfl) dX8_splits_10 rfl ?_
  rintro z10 F10 A10 ⟨e10, V1, hS1, v1, k1, g1⟩
  obtain rfl := e10.symm
  refine x_aload_n (pc2 := 14) hC rfl rfl dX8_splits_13 rfl ?_
  refine x_ldc2 (pc2 := 17) (z := 1000000000000) hC wt_952 rfl dX8_splits_14 rfl ?_
  refine x_cVi (pc2 := 20) (ci := 8) hC hK (n_of l hM hS1 (by omega) (by decide)) lk_902 rfl rfl (by decide) (by assumption) (by assumption) ⟨Nat.le_of_ble_eq_true rfl, Nat.le_of_ble_eq_true rfl⟩ ⟨Nat.le_refl _, Nat.le_refl _⟩ rfl (Nat.le_of_ble_eq_true rfl) dX8_splits_17 rfl ?_
  rintro z17 F17 A17 ⟨e17, V2, hS2, v2, k2, g2⟩
  obtain rfl := e17.symm
  refine x_cVi (pc2 := 23) (ci := 8) hC hK (n_times l hM hS2 (by omega) (x := T) (y := T + 1) ⟨by omega, by omega⟩ ⟨by omega, by omega⟩ (a := 13) (b := 13) (by rw [k2 _ (by omega), v1]; exact b13) (by rw [v2]; exact b13) (by decide)) lk_953 rfl rfl (by decide) (by assumption) (by assumption) ⟨Nat.le_of_ble_eq_true rfl, Nat.le_of_ble_eq_true rfl⟩ ⟨Nat.le_refl _, Nat.le_refl _⟩ rfl (Nat.le_of_ble_eq_true rfl) dX8_splits_20 rfl ?_
  rintro z20 F20 A20 ⟨e20, V3, hS3, v3, k3, g3⟩
  obtain rfl := e20.symm
  rw [k2 T (by omega), v1, v2] at v3
  have hS3b : St (T + 3) V3 F20 A20 := by rw [show T + 3 = T + 1 + 1 + 1 by omega]; exact hS3
  have k3b : ∀ u, u < T → V3 u = V u := fun u hu => (k3 u (by omega)).trans ((k2 u (by omega)).trans (k1 u hu))
  rw [show T + 1 + 1 = T + 2 by omega]
  rw [show T + 1 + 1 = T + 2 by omega] at v3
  obtain ⟨ok3x, ev3x⟩ := hS3b.2.2 x hx.1 (by omega)
  obtain ⟨ok3b, ev3b⟩ := hS3b.2.2 (T + 2) (by omega) (by omega)
  refine x_istore_n (pc2 := 24) (loc2 := [_, _, _, _, _, _, _, _, _]) hC rfl (by decide) rfl dX8_splits_23 rfl ?_
  refine x_aload_n (pc2 := 25) hC rfl rfl dX8_splits_24 rfl ?_
  refine x_iload_n (pc2 := 26) hC rfl rfl dX8_splits_25 rfl ?_
  refine x_iload_n (pc2 := 27) hC rfl rfl dX8_splits_26 rfl ?_
  refine x_cVi (pc2 := 30) (ci := 8) hC hK (n_stand l hM ⟨hx.1, by omega⟩ ⟨by omega, by omega⟩ ok3x ok3b) lk_931 rfl rfl (by decide) (by assumption) (by assumption) ⟨Nat.le_of_ble_eq_true rfl, Nat.le_of_ble_eq_true rfl⟩ ⟨Nat.le_refl _, Nat.le_refl _⟩ rfl (Nat.le_of_ble_eq_true rfl) dX8_splits_27 rfl ?_
  rintro z27 F27 A27 ⟨rfl, e127, e227⟩
  obtain rfl := e127.symm
  obtain rfl := e227.symm
  have cs := sgc_cs (mm A20 (T + 2)) (mm A20 x)
  have cs2 := sgc_I (a := mm A20 x) (b := mm A20 (T + 2))
  have fitP : sgc (mm A20 x) (mm A20 (T + 2)) ≤ 0 ↔ (V x).natAbs ≤ 1000000000000000000000000 := by
    rw [mm_na ok3x, mm_na ok3b, ev3x, ev3b, k3b x hx.2, v3]
    unfold sgc
    split
    · constructor <;> intro _ <;> omega
    · split
      · constructor <;> intro _ <;> omega
      · constructor <;> intro _ <;> omega
  clear cs
  refine x_istore (pc2 := 32) (loc2 := [_, _, _, _, _, _, _, _, _]) hC (by decide) rfl dX8_splits_30 rfl ?_
  refine x_iload (pc2 := 34) hC rfl dX8_splits_32 rfl ?_
  refine x_if_gt (tgt := 41) (pc2 := 37) hC (by omega) dX8_splits_34 rfl rfl (fun h_34 => ?_) (fun h_34 => ?_)
  · refine x_iconst (pc2 := 42) hC dX8_splits_41 rfl ?_
    refine x_istore (pc2 := 44) (loc2 := [_, _, _, _, _, _, _, _, _]) hC (by decide) rfl dX8_splits_42 rfl ?_
    refine x_iload (pc2 := 46) hC rfl dX8_splits_44 rfl ?_
    refine x_if_eq (tgt := 201) (pc2 := 49) hC (by omega) dX8_splits_46 rfl rfl (fun h_46 => ?_) (fun h_46 => ?_)
    · first | (exfalso; omega) | exact fin 0 _ _ A20 V3 (by decide) (fun _ => ⟨fun q => absurd rfl q, fun q => absurd (fitP.mpr q) (by omega)⟩) (fun q => absurd rfl q) (T + 3) (by omega) hS3b k3b ((g1.tr g2).tr g3)
    · refine x_aload_n (pc2 := 50) hC rfl rfl dX8_splits_49 rfl ?_
      refine x_cVi (pc2 := 53) (ci := 8) hC hK (s_fresh l hM hS3b (by omega)) lk_906 rfl rfl (by decide) (by assumption) (by assumption) ⟨Nat.le_of_ble_eq_true rfl, Nat.le_of_ble_eq_true rfl⟩ ⟨Nat.le_refl _, Nat.le_refl _⟩ rfl (Nat.le_of_ble_eq_true rfl) dX8_splits_50 rfl ?_
      rintro z50 F50 A50 ⟨e50, V4, hS4, v4, k4, g4⟩
      obtain rfl := e50.symm
      refine x_istore (pc2 := 55) (loc2 := [_, _, _, _, _, _, _, _, _]) hC (by decide) rfl dX8_splits_53 rfl ?_
      refine x_aload_n (pc2 := 56) hC rfl rfl dX8_splits_55 rfl ?_
      refine x_iload_n (pc2 := 57) hC rfl rfl dX8_splits_56 rfl ?_
      refine x_aload_n (pc2 := 58) hC rfl rfl dX8_splits_57 rfl ?_
      refine x_ldc2 (pc2 := 61) (z := 1000000000000) hC wt_952 rfl dX8_splits_58 rfl ?_
      refine x_cVi (pc2 := 64) (ci := 8) hC hK (n_of l hM hS4 (by omega) (by decide)) lk_902 rfl rfl (by decide) (by assumption) (by assumption) ⟨Nat.le_of_ble_eq_true rfl, Nat.le_of_ble_eq_true rfl⟩ ⟨Nat.le_refl _, Nat.le_refl _⟩ rfl (Nat.le_of_ble_eq_true rfl) dX8_splits_61 rfl ?_
      rintro z61 F61 A61 ⟨e61, V5, hS5, v5, k5, g5⟩
      obtain rfl := e61.symm
      have hS5b : St (T + 5) V5 F61 A61 := by rw [show T + 5 = T + 3 + 1 + 1 by omega]; exact hS5
      have x5 : V5 x = V x := by rw [k5 x (by omega), k4 x (by omega), k3b x hx.2]
      refine x_iload (pc2 := 66) hC rfl dX8_splits_64 rfl ?_
      refine x_cVi (pc2 := 69) (ci := 8) hC hK (s_divides l hM hS5b (x := x) (y := T + 3 + 1) (r := T + 3) ⟨hx.1, by omega⟩ ⟨by omega, by omega⟩ ⟨by omega, by omega⟩ (by omega) (by omega) (by rw [v5]; decide)) lk_927 rfl rfl (by decide) (by assumption) (by assumption) ⟨Nat.le_of_ble_eq_true rfl, Nat.le_of_ble_eq_true rfl⟩ ⟨Nat.le_refl _, Nat.le_refl _⟩ rfl (Nat.le_of_ble_eq_true rfl) dX8_splits_66 rfl ?_
      rintro z66 F66 A66 ⟨p1, p2, p3, e66, V6, hS6, p4, p5, p6, p7⟩
      obtain rfl := e66.symm
      rw [x5, v5] at p3 p4
      obtain ⟨n, hn⟩ : ∃ n : Nat, z66 = (n : Int) := ⟨z66.toNat, by omega⟩
      subst hn
      refine x_istore (pc2 := 71) (loc2 := [_, _, _, _, _, _, _, _, _]) hC (by decide) rfl dX8_splits_69 rfl ?_
      refine x_aload_n (pc2 := 72) hC rfl rfl dX8_splits_71 rfl ?_
      refine x_lconst0 (pc2 := 73) hC dX8_splits_72 rfl ?_
      refine p_823 (pc2 := 76) hC hK (by assumption) (by assumption) dX8_splits_73 rfl ?_
      refine x_iload (pc2 := 78) hC rfl dX8_splits_76 rfl ?_
      refine x_iconst (pc2 := 79) hC dX8_splits_78 rfl ?_
      refine x_isub (pc2 := 80) hC dX8_splits_79 rfl ?_
      refine x_istore (pc2 := 82) (loc2 := [_, _, _, _, _, _, _, _, _]) hC (by decide) rfl dX8_splits_80 rfl ?_
      have g := highl n (sgc (mm A20 x) (mm A20 (T + 2))) F61 A66 V6 (by omega) (fitP.mp (by omega)) hS6 (fun u hu => (p5 u (by omega)).trans ((k5 u (by omega)).trans ((k4 u (by omega)).trans (k3b u hu)))) (((((g1.tr g2).tr g3).tr g4).tr g5).tr p7) p4 p2 p3 (n + 1) n 0 (by omega) (Nat.le_refl _) (by omega)
      first | (exfalso; omega) | exact g
  · refine x_iconst (pc2 := 38) hC dX8_splits_37 rfl ?_
    refine x_goto (pc2 := 42) hC dX8_splits_38 rfl ?_
    refine x_istore (pc2 := 44) (loc2 := [_, _, _, _, _, _, _, _, _]) hC (by decide) rfl dX8_splits_42 rfl ?_
    refine x_iload (pc2 := 46) hC rfl dX8_splits_44 rfl ?_
    refine x_if_eq (tgt := 201) (pc2 := 49) hC (by omega) dX8_splits_46 rfl rfl (fun h_46 => ?_) (fun h_46 => ?_)
    · first | (exfalso; omega) | exact fin 0 _ _ A20 V3 (by decide) (fun _ => ⟨fun q => absurd rfl q, fun q => absurd (fitP.mpr q) (by omega)⟩) (fun q => absurd rfl q) (T + 3) (by omega) hS3b k3b ((g1.tr g2).tr g3)
    · refine x_aload_n (pc2 := 50) hC rfl rfl dX8_splits_49 rfl ?_
      refine x_cVi (pc2 := 53) (ci := 8) hC hK (s_fresh l hM hS3b (by omega)) lk_906 rfl rfl (by decide) (by assumption) (by assumption) ⟨Nat.le_of_ble_eq_true rfl, Nat.le_of_ble_eq_true rfl⟩ ⟨Nat.le_refl _, Nat.le_refl _⟩ rfl (Nat.le_of_ble_eq_true rfl) dX8_splits_50 rfl ?_
      rintro z50 F50 A50 ⟨e50, V4, hS4, v4, k4, g4⟩
      obtain rfl := e50.symm
      refine x_istore (pc2 := 55) (loc2 := [_, _, _, _, _, _, _, _, _]) hC (by decide) rfl dX8_splits_53 rfl ?_
      refine x_aload_n (pc2 := 56) hC rfl rfl dX8_splits_55 rfl ?_
      refine x_iload_n (pc2 := 57) hC rfl rfl dX8_splits_56 rfl ?_
      refine x_aload_n (pc2 := 58) hC rfl rfl dX8_splits_57 rfl ?_
      refine x_ldc2 (pc2 := 61) (z := 1000000000000) hC wt_952 rfl dX8_splits_58 rfl ?_
      refine x_cVi (pc2 := 64) (ci := 8) hC hK (n_of l hM hS4 (by omega) (by decide)) lk_902 rfl rfl (by decide) (by assumption) (by assumption) ⟨Nat.le_of_ble_eq_true rfl, Nat.le_of_ble_eq_true rfl⟩ ⟨Nat.le_refl _, Nat.le_refl _⟩ rfl (Nat.le_of_ble_eq_true rfl) dX8_splits_61 rfl ?_
      rintro z61 F61 A61 ⟨e61, V5, hS5, v5, k5, g5⟩
      obtain rfl := e61.symm
      have hS5b : St (T + 5) V5 F61 A61 := by rw [show T + 5 = T + 3 + 1 + 1 by omega]; exact hS5
      have x5 : V5 x = V x := by rw [k5 x (by omega), k4 x (by omega), k3b x hx.2]
      refine x_iload (pc2 := 66) hC rfl dX8_splits_64 rfl ?_
      refine x_cVi (pc2 := 69) (ci := 8) hC hK (s_divides l hM hS5b (x := x) (y := T + 3 + 1) (r := T + 3) ⟨hx.1, by omega⟩ ⟨by omega, by omega⟩ ⟨by omega, by omega⟩ (by omega) (by omega) (by rw [v5]; decide)) lk_927 rfl rfl (by decide) (by assumption) (by assumption) ⟨Nat.le_of_ble_eq_true rfl, Nat.le_of_ble_eq_true rfl⟩ ⟨Nat.le_refl _, Nat.le_refl _⟩ rfl (Nat.le_of_ble_eq_true rfl) dX8_splits_66 rfl ?_
      rintro z66 F66 A66 ⟨p1, p2, p3, e66, V6, hS6, p4, p5, p6, p7⟩
      obtain rfl := e66.symm
      rw [x5, v5] at p3 p4
      obtain ⟨n, hn⟩ : ∃ n : Nat, z66 = (n : Int) := ⟨z66.toNat, by omega⟩
      subst hn
      refine x_istore (pc2 := 71) (loc2 := [_, _, _, _, _, _, _, _, _]) hC (by decide) rfl dX8_splits_69 rfl ?_
      refine x_aload_n (pc2 := 72) hC rfl rfl dX8_splits_71 rfl ?_
      refine x_lconst0 (pc2 := 73) hC dX8_splits_72 rfl ?_
      refine p_823 (pc2 := 76) hC hK (by assumption) (by assumption) dX8_splits_73 rfl ?_
      refine x_iload (pc2 := 78) hC rfl dX8_splits_76 rfl ?_
      refine x_iconst (pc2 := 79) hC dX8_splits_78 rfl ?_
      refine x_isub (pc2 := 80) hC dX8_splits_79 rfl ?_
      refine x_istore (pc2 := 82) (loc2 := [_, _, _, _, _, _, _, _, _]) hC (by decide) rfl dX8_splits_80 rfl ?_
      have g := highl n (sgc (mm A20 x) (mm A20 (T + 2))) F61 A66 V6 (by omega) (fitP.mp (by omega)) hS6 (fun u hu => (p5 u (by omega)).trans ((k5 u (by omega)).trans ((k4 u (by omega)).trans (k3b u hu)))) (((((g1.tr g2).tr g3).tr g4).tr g5).tr p7) p4 p2 p3 (n + 1) n 0 (by omega) (Nat.le_refl _) (by omega)
      first | (exfalso; omega) | exact g
