theorem dX0_setDeterminant_0 : decode cX0_setDeterminant 0 = .ok (.aload_n 1, 1) := by decide +kernel
theorem dX0_setDeterminant_1 : decode cX0_setDeterminant 1 = .ok (.getfield 158, 3) := by decide +kernel
theorem dX0_setDeterminant_4 : decode cX0_setDeterminant 4 = .ok (.invokevirtual 162, 3) := by decide +kernel
theorem dX0_setDeterminant_7 : decode cX0_setDeterminant 7 = .ok (.aload_n 1, 1) := by decide +kernel
theorem dX0_setDeterminant_8 : decode cX0_setDeterminant 8 = .ok (.getfield 165, 3) := by decide +kernel
theorem dX0_setDeterminant_11 : decode cX0_setDeterminant 11 = .ok (.invokevirtual 162, 3) := by decide +kernel
theorem dX0_setDeterminant_14 : decode cX0_setDeterminant 14 = .ok (.iconst 0, 1) := by decide +kernel
theorem dX0_setDeterminant_15 : decode cX0_setDeterminant 15 = .ok (.istore 5, 2) := by decide +kernel
theorem dX0_setDeterminant_17 : decode cX0_setDeterminant 17 = .ok (.iload 5, 2) := by decide +kernel
theorem dX0_setDeterminant_19 : decode cX0_setDeterminant 19 = .ok (.iconst 3, 1) := by decide +kernel
theorem dX0_setDeterminant_20 : decode cX0_setDeterminant 20 = .ok (.if_icmp .ge 177, 3) := by decide +kernel
theorem dX0_setDeterminant_23 : decode cX0_setDeterminant 23 = .ok (.iload 5, 2) := by decide +kernel
theorem dX0_setDeterminant_25 : decode cX0_setDeterminant 25 = .ok (.ifCond .ne 7, 3) := by decide +kernel
theorem dX0_setDeterminant_28 : decode cX0_setDeterminant 28 = .ok (.iload_n 2, 1) := by decide +kernel
theorem dX0_setDeterminant_29 : decode cX0_setDeterminant 29 = .ok (.goto 15, 3) := by decide +kernel
theorem dX0_setDeterminant_32 : decode cX0_setDeterminant 32 = .ok (.iload 5, 2) := by decide +kernel
theorem dX0_setDeterminant_34 : decode cX0_setDeterminant 34 = .ok (.iconst 1, 1) := by decide +kernel
theorem dX0_setDeterminant_35 : decode cX0_setDeterminant 35 = .ok (.if_icmp .ne 7, 3) := by decide +kernel
theorem dX0_setDeterminant_38 : decode cX0_setDeterminant 38 = .ok (.iload_n 3, 1) := by decide +kernel
theorem dX0_setDeterminant_39 : decode cX0_setDeterminant 39 = .ok (.goto 5, 3) := by decide +kernel
theorem dX0_setDeterminant_42 : decode cX0_setDeterminant 42 = .ok (.iload 4, 2) := by decide +kernel
theorem dX0_setDeterminant_44 : decode cX0_setDeterminant 44 = .ok (.istore 6, 2) := by decide +kernel
theorem dX0_setDeterminant_46 : decode cX0_setDeterminant 46 = .ok (.iload 5, 2) := by decide +kernel
theorem dX0_setDeterminant_48 : decode cX0_setDeterminant 48 = .ok (.ifCond .ne 7, 3) := by decide +kernel
theorem dX0_setDeterminant_51 : decode cX0_setDeterminant 51 = .ok (.iload_n 3, 1) := by decide +kernel
theorem dX0_setDeterminant_52 : decode cX0_setDeterminant 52 = .ok (.goto 15, 3) := by decide +kernel
theorem dX0_setDeterminant_55 : decode cX0_setDeterminant 55 = .ok (.iload 5, 2) := by decide +kernel
theorem dX0_setDeterminant_57 : decode cX0_setDeterminant 57 = .ok (.iconst 1, 1) := by decide +kernel
theorem dX0_setDeterminant_58 : decode cX0_setDeterminant 58 = .ok (.if_icmp .ne 8, 3) := by decide +kernel
theorem dX0_setDeterminant_61 : decode cX0_setDeterminant 61 = .ok (.iload 4, 2) := by decide +kernel
theorem dX0_setDeterminant_63 : decode cX0_setDeterminant 63 = .ok (.goto 4, 3) := by decide +kernel
theorem dX0_setDeterminant_66 : decode cX0_setDeterminant 66 = .ok (.iload_n 2, 1) := by decide +kernel
theorem dX0_setDeterminant_67 : decode cX0_setDeterminant 67 = .ok (.istore 7, 2) := by decide +kernel
theorem dX0_setDeterminant_69 : decode cX0_setDeterminant 69 = .ok (.iload 5, 2) := by decide +kernel
theorem dX0_setDeterminant_71 : decode cX0_setDeterminant 71 = .ok (.ifCond .ne 8, 3) := by decide +kernel
theorem dX0_setDeterminant_74 : decode cX0_setDeterminant 74 = .ok (.iload 4, 2) := by decide +kernel
theorem dX0_setDeterminant_76 : decode cX0_setDeterminant 76 = .ok (.goto 14, 3) := by decide +kernel
theorem dX0_setDeterminant_79 : decode cX0_setDeterminant 79 = .ok (.iload 5, 2) := by decide +kernel
theorem dX0_setDeterminant_81 : decode cX0_setDeterminant 81 = .ok (.iconst 1, 1) := by decide +kernel
theorem dX0_setDeterminant_82 : decode cX0_setDeterminant 82 = .ok (.if_icmp .ne 7, 3) := by decide +kernel
theorem dX0_setDeterminant_85 : decode cX0_setDeterminant 85 = .ok (.iload_n 2, 1) := by decide +kernel
theorem dX0_setDeterminant_86 : decode cX0_setDeterminant 86 = .ok (.goto 4, 3) := by decide +kernel
theorem dX0_setDeterminant_89 : decode cX0_setDeterminant 89 = .ok (.iload_n 3, 1) := by decide +kernel
theorem dX0_setDeterminant_90 : decode cX0_setDeterminant 90 = .ok (.istore 8, 2) := by decide +kernel
theorem dX0_setDeterminant_92 : decode cX0_setDeterminant 92 = .ok (.aload_n 0, 1) := by decide +kernel
theorem dX0_setDeterminant_93 : decode cX0_setDeterminant 93 = .ok (.getfield 87, 3) := by decide +kernel
theorem dX0_setDeterminant_96 : decode cX0_setDeterminant 96 = .ok (.aload_n 0, 1) := by decide +kernel
theorem dX0_setDeterminant_97 : decode cX0_setDeterminant 97 = .ok (.getfield 80, 3) := by decide +kernel
theorem dX0_setDeterminant_100 : decode cX0_setDeterminant 100 = .ok (.iconst 4, 1) := by decide +kernel
theorem dX0_setDeterminant_101 : decode cX0_setDeterminant 101 = .ok (.iload 7, 2) := by decide +kernel
theorem dX0_setDeterminant_103 : decode cX0_setDeterminant 103 = .ok (.iadd, 1) := by decide +kernel
theorem dX0_setDeterminant_104 : decode cX0_setDeterminant 104 = .ok (.aaload, 1) := by decide +kernel
theorem dX0_setDeterminant_105 : decode cX0_setDeterminant 105 = .ok (.aload_n 0, 1) := by decide +kernel
theorem dX0_setDeterminant_106 : decode cX0_setDeterminant 106 = .ok (.getfield 80, 3) := by decide +kernel
theorem dX0_setDeterminant_109 : decode cX0_setDeterminant 109 = .ok (.bipush 8, 2) := by decide +kernel
theorem dX0_setDeterminant_111 : decode cX0_setDeterminant 111 = .ok (.iload 8, 2) := by decide +kernel
theorem dX0_setDeterminant_113 : decode cX0_setDeterminant 113 = .ok (.iadd, 1) := by decide +kernel
theorem dX0_setDeterminant_114 : decode cX0_setDeterminant 114 = .ok (.aaload, 1) := by decide +kernel
theorem dX0_setDeterminant_115 : decode cX0_setDeterminant 115 = .ok (.iconst 1, 1) := by decide +kernel
theorem dX0_setDeterminant_116 : decode cX0_setDeterminant 116 = .ok (.invokevirtual 148, 3) := by decide +kernel
theorem dX0_setDeterminant_119 : decode cX0_setDeterminant 119 = .ok (.aload_n 0, 1) := by decide +kernel
theorem dX0_setDeterminant_120 : decode cX0_setDeterminant 120 = .ok (.getfield 91, 3) := by decide +kernel
theorem dX0_setDeterminant_123 : decode cX0_setDeterminant 123 = .ok (.aload_n 0, 1) := by decide +kernel
theorem dX0_setDeterminant_124 : decode cX0_setDeterminant 124 = .ok (.getfield 80, 3) := by decide +kernel
theorem dX0_setDeterminant_127 : decode cX0_setDeterminant 127 = .ok (.iconst 4, 1) := by decide +kernel
theorem dX0_setDeterminant_128 : decode cX0_setDeterminant 128 = .ok (.iload 8, 2) := by decide +kernel
theorem dX0_setDeterminant_130 : decode cX0_setDeterminant 130 = .ok (.iadd, 1) := by decide +kernel
theorem dX0_setDeterminant_131 : decode cX0_setDeterminant 131 = .ok (.aaload, 1) := by decide +kernel
theorem dX0_setDeterminant_132 : decode cX0_setDeterminant 132 = .ok (.aload_n 0, 1) := by decide +kernel
theorem dX0_setDeterminant_133 : decode cX0_setDeterminant 133 = .ok (.getfield 80, 3) := by decide +kernel
theorem dX0_setDeterminant_136 : decode cX0_setDeterminant 136 = .ok (.bipush 8, 2) := by decide +kernel
theorem dX0_setDeterminant_138 : decode cX0_setDeterminant 138 = .ok (.iload 7, 2) := by decide +kernel
theorem dX0_setDeterminant_140 : decode cX0_setDeterminant 140 = .ok (.iadd, 1) := by decide +kernel
theorem dX0_setDeterminant_141 : decode cX0_setDeterminant 141 = .ok (.aaload, 1) := by decide +kernel
theorem dX0_setDeterminant_142 : decode cX0_setDeterminant 142 = .ok (.iconst 1, 1) := by decide +kernel
theorem dX0_setDeterminant_143 : decode cX0_setDeterminant 143 = .ok (.invokevirtual 148, 3) := by decide +kernel
theorem dX0_setDeterminant_146 : decode cX0_setDeterminant 146 = .ok (.aload_n 0, 1) := by decide +kernel
theorem dX0_setDeterminant_147 : decode cX0_setDeterminant 147 = .ok (.getfield 87, 3) := by decide +kernel
theorem dX0_setDeterminant_150 : decode cX0_setDeterminant 150 = .ok (.aload_n 0, 1) := by decide +kernel
theorem dX0_setDeterminant_151 : decode cX0_setDeterminant 151 = .ok (.getfield 87, 3) := by decide +kernel
theorem dX0_setDeterminant_154 : decode cX0_setDeterminant 154 = .ok (.aload_n 0, 1) := by decide +kernel
theorem dX0_setDeterminant_155 : decode cX0_setDeterminant 155 = .ok (.getfield 91, 3) := by decide +kernel
theorem dX0_setDeterminant_158 : decode cX0_setDeterminant 158 = .ok (.iconst (-1), 1) := by decide +kernel
theorem dX0_setDeterminant_159 : decode cX0_setDeterminant 159 = .ok (.invokevirtual 156, 3) := by decide +kernel
theorem dX0_setDeterminant_162 : decode cX0_setDeterminant 162 = .ok (.aload_n 0, 1) := by decide +kernel
theorem dX0_setDeterminant_163 : decode cX0_setDeterminant 163 = .ok (.getfield 91, 3) := by decide +kernel
theorem dX0_setDeterminant_166 : decode cX0_setDeterminant 166 = .ok (.aload_n 0, 1) := by decide +kernel
theorem dX0_setDeterminant_167 : decode cX0_setDeterminant 167 = .ok (.getfield 80, 3) := by decide +kernel
theorem dX0_setDeterminant_170 : decode cX0_setDeterminant 170 = .ok (.iload 6, 2) := by decide +kernel
theorem dX0_setDeterminant_172 : decode cX0_setDeterminant 172 = .ok (.aaload, 1) := by decide +kernel
theorem dX0_setDeterminant_173 : decode cX0_setDeterminant 173 = .ok (.aload_n 0, 1) := by decide +kernel
theorem dX0_setDeterminant_174 : decode cX0_setDeterminant 174 = .ok (.getfield 87, 3) := by decide +kernel
theorem dX0_setDeterminant_177 : decode cX0_setDeterminant 177 = .ok (.iconst 1, 1) := by decide +kernel
theorem dX0_setDeterminant_178 : decode cX0_setDeterminant 178 = .ok (.invokevirtual 148, 3) := by decide +kernel
theorem dX0_setDeterminant_181 : decode cX0_setDeterminant 181 = .ok (.aload_n 1, 1) := by decide +kernel
theorem dX0_setDeterminant_182 : decode cX0_setDeterminant 182 = .ok (.aload_n 1, 1) := by decide +kernel
theorem dX0_setDeterminant_183 : decode cX0_setDeterminant 183 = .ok (.aload_n 0, 1) := by decide +kernel
theorem dX0_setDeterminant_184 : decode cX0_setDeterminant 184 = .ok (.getfield 91, 3) := by decide +kernel
theorem dX0_setDeterminant_187 : decode cX0_setDeterminant 187 = .ok (.iconst 1, 1) := by decide +kernel
theorem dX0_setDeterminant_188 : decode cX0_setDeterminant 188 = .ok (.invokevirtual 156, 3) := by decide +kernel
theorem dX0_setDeterminant_191 : decode cX0_setDeterminant 191 = .ok (.iinc 5 1, 3) := by decide +kernel
theorem dX0_setDeterminant_194 : decode cX0_setDeterminant 194 = .ok (.goto (-177), 3) := by decide +kernel
theorem dX0_setDeterminant_197 : decode cX0_setDeterminant 197 = .ok (.return_, 1) := by decide +kernel
set_option maxHeartbeats 16000000 in
theorem m_det (l : Launch) {D : va_G} {ids : Nat → ClassId} {β : Nat} {sh : Nat → Nat × Nat} {N : Nat} {R : Nat → Nat → Option Nat} {F : Nat → Nat → Int} {A : Nat → Int → Int} {V : Nat → Int} {H : Nat → CI} {r : Nat → CI} {into x y w : Nat} (hA : AcL sh R N) (hGG : AcG sh R N) (hS : ST sh R N F A V) (hH : HV V H) (hin : into ∈ GaL ∧ 259 < into ∧ into < 280) (hx : x < 4) (hy : y < 4) (hw : w < 4) (hrv : ∀ k < 12, H (199 + 5 * k) = r k ∧ bdc 51 (r k)) : MetX l yX0_setDeterminant cX0_setDeterminant 9 none 4 109 D ids β sh N R F A [rf 7, rf into, pI (x : Int), pI (y : Int), pI (w : Int)] (pVr (fun F2 A2 => ∃ V2 H2, SQ sh R N F A V2 F2 A2 ∧ HV V2 H2 ∧ H2 into = det3 r x y w ∧ bdc 159 (det3 r x y w) ∧ ∀ g ∈ GaL, g ≠ into → g ≠ 280 → g ≠ 285 → H2 g = H g)) := by
  refine MetX.of (loc := [_, _, _, _, _, _, _, _, _]) (plainFor_of_name (by decide +kernel)) (Nat.le_of_ble_eq_true rfl) rfl ?_
  intro p e s m args below meth c hC hK hr hlk
  obtain ⟨hL, hW, ⟨a1, a2⟩, ⟨f0, f1, f2, f3, f4, f5, f6, f7, f8, f9, f10⟩, ⟨f11, f12, f13, f14, f15⟩, ⟨⟨b1, b2⟩, ⟨b3, b4⟩, b5, b6⟩, hR, hsg⟩ := id hA
  obtain ⟨⟨j1, j2⟩, ⟨r0, r1, r2, r3, r4⟩, ⟨j3, j4⟩, ⟨j5, j6⟩, -⟩ := id hL
  have j15 := hW.1.1
  have j16 := hW.1.2.1
  obtain ⟨c1, c2, c3, c4, hGa⟩ := id hGG
  obtain ⟨c5, c6⟩ := c1
  obtain ⟨c7, c8⟩ := c3
  have hsp := hW.2.2.2.2.2.2.2.2
  have go := hGa into hin.1
  obtain ⟨o1, o2, o3, o4, -, o6, o7, -⟩ := id go
  have o61 : into + 1 < N := by have := o6.1; omega
  have o62 := o6.2.1
  have o71 : into + 3 < N := by have := o7.1; omega
  have o72 := o7.2.1
  have t80 := (hGa 280 (by decide)).1
  have t81 := (hGa 280 (by decide)).2.1
  have t85 := (hGa 285 (by decide)).1
  have t86 := (hGa 285 (by decide)).2.1
  have rest : ∀ (k : Int) (h a b dg : Nat) (F1 : Nat → Nat → Int) (A1 : Nat → Int → Int) (acc : CI), h < 4 → a < 4 → b < 4 → bdc dg acc → dg ≤ 300 → (∃ V1 H1, SQ sh R N F A V1 F1 A1 ∧ HV V1 H1 ∧ H1 into = acc ∧ ∀ g ∈ GaL, g ≠ into → g ≠ 280 → g ≠ 285 → H1 g = H g) → (∀ F2 A2, (∃ V1 H1, SQ sh R N F A V1 F2 A2 ∧ HV V1 H1 ∧ H1 into = csgn 1 acc (detT r h a b) ∧ ∀ g ∈ GaL, g ≠ into → g ≠ 280 → g ≠ 285 → H1 g = H g) → X p l e { frames := 4, cells := 0, slots := 0, locals := 109 } s m args below meth c (MQ below (QX D ids β sh N R (pVr (fun F2 A2 => ∃ V2 H2, SQ sh R N F A V2 F2 A2 ∧ HV V2 H2 ∧ H2 into = det3 r x y w ∧ bdc 159 (det3 r x y w) ∧ ∀ g ∈ GaL, g ≠ into → g ≠ 280 → g ≠ 285 → H2 g = H g))) args s 0 0 (inG β N)) (inG β N) D ids β sh 9 0 0 N R F2 A2 [some (rf 7), some (rf into), some (pI (x : Int)), some (pI (y : Int)), some (pI (w : Int)), some (pI (k + 1)), some (pI (h : Int)), some (pI (a : Int)), some (pI (b : Int))] [] 17) → X p l e { frames := 4, cells := 0, slots := 0, locals := 109 } s m args below meth c (MQ below (QX D ids β sh N R (pVr (fun F2 A2 => ∃ V2 H2, SQ sh R N F A V2 F2 A2 ∧ HV V2 H2 ∧ H2 into = det3 r x y w ∧ bdc 159 (det3 r x y w) ∧ ∀ g ∈ GaL, g ≠ into → g ≠ 280 → g ≠ 285 → H2 g = H g))) args s 0 0 (inG β N)) (inG β N) D ids β sh 9 0 0 N R F1 A1 [some (rf 7), some (rf into), some (pI (x : Int)), some (pI (y : Int)), some (pI (w : Int)), some (pI k), some (pI (h : Int)), some (pI (a : Int)), some (pI (b : Int))] [] 92 := by
    intro k h a b dg F1 A1 acc hh ha hb hdg hdg2 ⟨V1, H1, ⟨S1, g1⟩, HH1, e1, k1⟩ next
    have rw1 : ∀ j, j < 12 → H1 (199 + 5 * j) = r j := fun j hj => (k1 _ (row_mem j hj) (by omega) (by omega) (by omega)).trans (hrv j hj).1
    have dm : ∀ a b : Nat, a < 4 → b < 4 → bdc 103 (cmul (r (4 + a)) (r (8 + b))) := fun a b ha hb => bdc_mul (hrv _ (by omega)).2 (hrv _ (by omega)).2 (by omega)
    refine x_aload_n (pc2 := 93) hC rfl rfl dX0_setDeterminant_92 rfl ?_
    refine g_279 (pc2 := 96) hC hK (by assumption) (by assumption) (by assumption) dX0_setDeterminant_93 rfl ?_
    refine x_aload_n (pc2 := 97) hC rfl rfl dX0_setDeterminant_96 rfl ?_
    refine g_277 (pc2 := 100) hC hK (by assumption) (by assumption) (by assumption) dX0_setDeterminant_97 rfl ?_
    refine x_iconst (pc2 := 101) hC dX0_setDeterminant_100 rfl ?_
    refine x_iload (pc2 := 103) hC rfl dX0_setDeterminant_101 rfl ?_
    refine x_iadd (pc2 := 104) hC dX0_setDeterminant_103 rfl ?_
    refine x_aald (pc2 := 105) hC hK c5 c6 (by omega) (by decide) (by rw [show (4 + (a : Int)).toNat = 4 + a by omega]; exact c2 _ (by omega)) dX0_setDeterminant_104 rfl ?_
    refine x_aload_n (pc2 := 106) hC rfl rfl dX0_setDeterminant_105 rfl ?_
    refine g_277 (pc2 := 109) hC hK (by assumption) (by assumption) (by assumption) dX0_setDeterminant_106 rfl ?_
    refine x_bipush (pc2 := 111) hC rfl dX0_setDeterminant_109 rfl ?_
    refine x_iload (pc2 := 113) hC rfl dX0_setDeterminant_111 rfl ?_
    refine x_iadd (pc2 := 114) hC dX0_setDeterminant_113 rfl ?_
    refine x_aald (pc2 := 115) hC hK c5 c6 (by omega) (by decide) (by rw [show (8 + (b : Int)).toNat = 8 + b by omega]; exact c2 _ (by omega)) dX0_setDeterminant_114 rfl ?_
    refine x_iconst (pc2 := 116) hC dX0_setDeterminant_115 rfl ?_
    refine x_cVv (pc2 := 119) (ci := 1) hC hK (h_product l hGa hsp S1 HH1 (g := 280) (by decide) (row_mem (4 + a) (by omega)) (row_mem (8 + b) (by omega)) (by omega) (by omega) (rw1 _ (by omega)) (rw1 _ (by omega)) (hrv _ (by omega)).2 (hrv _ (by omega)).2 ⟨by decide, by decide⟩) lk_678 rfl rfl (by decide) (by assumption) (by assumption) ⟨Nat.le_of_ble_eq_true rfl, Nat.le_of_ble_eq_true rfl⟩ ⟨Nat.le_refl _, Nat.le_refl _⟩ rfl (Nat.le_of_ble_eq_true rfl) dX0_setDeterminant_116 rfl ?_
    rintro F116 A116 ⟨V116, ⟨S116, g116⟩, H116⟩
    refine x_aload_n (pc2 := 120) hC rfl rfl dX0_setDeterminant_119 rfl ?_
    refine g_280 (pc2 := 123) hC hK (by assumption) (by assumption) (by assumption) dX0_setDeterminant_120 rfl ?_
    refine x_aload_n (pc2 := 124) hC rfl rfl dX0_setDeterminant_123 rfl ?_
    refine g_277 (pc2 := 127) hC hK (by assumption) (by assumption) (by assumption) dX0_setDeterminant_124 rfl ?_
    refine x_iconst (pc2 := 128) hC dX0_setDeterminant_127 rfl ?_
    refine x_iload (pc2 := 130) hC rfl dX0_setDeterminant_128 rfl ?_
    refine x_iadd (pc2 := 131) hC dX0_setDeterminant_130 rfl ?_
    refine x_aald (pc2 := 132) hC hK c5 c6 (by omega) (by decide) (by rw [show (4 + (b : Int)).toNat = 4 + b by omega]; exact c2 _ (by omega)) dX0_setDeterminant_131 rfl ?_
    refine x_aload_n (pc2 := 133) hC rfl rfl dX0_setDeterminant_132 rfl ?_
    refine g_277 (pc2 := 136) hC hK (by assumption) (by assumption) (by assumption) dX0_setDeterminant_133 rfl ?_
    refine x_bipush (pc2 := 138) hC rfl dX0_setDeterminant_136 rfl ?_
    refine x_iload (pc2 := 140) hC rfl dX0_setDeterminant_138 rfl ?_
    refine x_iadd (pc2 := 141) hC dX0_setDeterminant_140 rfl ?_
    refine x_aald (pc2 := 142) hC hK c5 c6 (by omega) (by decide) (by rw [show (8 + (a : Int)).toNat = 8 + a by omega]; exact c2 _ (by omega)) dX0_setDeterminant_141 rfl ?_
    refine x_iconst (pc2 := 143) hC dX0_setDeterminant_142 rfl ?_
    refine x_cVv (pc2 := 146) (ci := 1) hC hK (h_product l hGa hsp S116 H116 (g := 285) (by decide) (row_mem (4 + b) (by omega)) (row_mem (8 + a) (by omega)) (by omega) (by omega) ((upH_ne (by omega)).trans (rw1 _ (by omega))) ((upH_ne (by omega)).trans (rw1 _ (by omega))) (hrv _ (by omega)).2 (hrv _ (by omega)).2 ⟨by decide, by decide⟩) lk_678 rfl rfl (by decide) (by assumption) (by assumption) ⟨Nat.le_of_ble_eq_true rfl, Nat.le_of_ble_eq_true rfl⟩ ⟨Nat.le_refl _, Nat.le_refl _⟩ rfl (Nat.le_of_ble_eq_true rfl) dX0_setDeterminant_143 rfl ?_
    rintro F143 A143 ⟨V143, ⟨S143, g143⟩, H143⟩
    refine x_aload_n (pc2 := 147) hC rfl rfl dX0_setDeterminant_146 rfl ?_
    refine g_279 (pc2 := 150) hC hK (by assumption) (by assumption) (by assumption) dX0_setDeterminant_147 rfl ?_
    refine x_aload_n (pc2 := 151) hC rfl rfl dX0_setDeterminant_150 rfl ?_
    refine g_279 (pc2 := 154) hC hK (by assumption) (by assumption) (by assumption) dX0_setDeterminant_151 rfl ?_
    refine x_aload_n (pc2 := 155) hC rfl rfl dX0_setDeterminant_154 rfl ?_
    refine g_280 (pc2 := 158) hC hK (by assumption) (by assumption) (by assumption) dX0_setDeterminant_155 rfl ?_
    refine x_iconst (pc2 := 159) hC dX0_setDeterminant_158 rfl ?_
    refine x_cVv (pc2 := 162) (ci := 1) hC hK (h_sum l hGa hsp S143 H143 (g := 280) (x := 280) (y := 285) (by decide) (by decide) (by decide) (Or.inr rfl) ((upH_ne (by decide)).trans upH_eq) upH_eq (dm a b ha hb) (dm b a hb ha) ⟨by decide, by decide⟩) lk_684 rfl rfl (by decide) (by assumption) (by assumption) ⟨Nat.le_of_ble_eq_true rfl, Nat.le_of_ble_eq_true rfl⟩ ⟨Nat.le_refl _, Nat.le_refl _⟩ rfl (Nat.le_of_ble_eq_true rfl) dX0_setDeterminant_159 rfl ?_
    rintro F159 A159 ⟨V159, ⟨S159, g159⟩, H159⟩
    refine x_aload_n (pc2 := 163) hC rfl rfl dX0_setDeterminant_162 rfl ?_
    refine g_280 (pc2 := 166) hC hK (by assumption) (by assumption) (by assumption) dX0_setDeterminant_163 rfl ?_
    refine x_aload_n (pc2 := 167) hC rfl rfl dX0_setDeterminant_166 rfl ?_
    refine g_277 (pc2 := 170) hC hK (by assumption) (by assumption) (by assumption) dX0_setDeterminant_167 rfl ?_
    refine x_iload (pc2 := 172) hC rfl dX0_setDeterminant_170 rfl ?_
    refine x_aald (pc2 := 173) hC hK c5 c6 (by omega) (by decide) (by rw [show ((h : Nat) : Int).toNat = h from rfl]; exact c2 _ (by omega)) dX0_setDeterminant_172 rfl ?_
    refine x_aload_n (pc2 := 174) hC rfl rfl dX0_setDeterminant_173 rfl ?_
    refine g_279 (pc2 := 177) hC hK (by assumption) (by assumption) (by assumption) dX0_setDeterminant_174 rfl ?_
    refine x_iconst (pc2 := 178) hC dX0_setDeterminant_177 rfl ?_
    refine x_cVv (pc2 := 181) (ci := 1) hC hK (h_product l hGa hsp S159 H159 (g := 285) (y := 280) (by decide) (row_mem h (by omega)) (by decide) (by omega) (by decide) ((upH_ne (by omega)).trans ((upH_ne (by omega)).trans ((upH_ne (by omega)).trans (rw1 h (by omega))))) upH_eq (hrv h (by omega)).2 (bdc_sgn (c := 104) (Or.inr rfl) (dm a b ha hb) (dm b a hb ha) (by decide) (by decide)) ⟨by decide, by decide⟩) lk_678 rfl rfl (by decide) (by assumption) (by assumption) ⟨Nat.le_of_ble_eq_true rfl, Nat.le_of_ble_eq_true rfl⟩ ⟨Nat.le_refl _, Nat.le_refl _⟩ rfl (Nat.le_of_ble_eq_true rfl) dX0_setDeterminant_178 rfl ?_
    rintro F178 A178 ⟨V178, ⟨S178, g178⟩, H178⟩
    refine x_aload_n (pc2 := 182) hC rfl rfl dX0_setDeterminant_181 rfl ?_
    refine x_aload_n (pc2 := 183) hC rfl rfl dX0_setDeterminant_182 rfl ?_
    refine x_aload_n (pc2 := 184) hC rfl rfl dX0_setDeterminant_183 rfl ?_
    refine g_280 (pc2 := 187) hC hK (by assumption) (by assumption) (by assumption) dX0_setDeterminant_184 rfl ?_
    refine x_iconst (pc2 := 188) hC dX0_setDeterminant_187 rfl ?_
    refine x_cVv (pc2 := 191) (ci := 1) hC hK (h_sum l hGa hsp S178 H178 (g := into) (x := into) (y := 285) hin.1 hin.1 (by decide) (Or.inl rfl) ((upH_ne (by omega)).trans ((upH_ne (by omega)).trans ((upH_ne (by omega)).trans ((upH_ne (by omega)).trans e1)))) upH_eq hdg (bdc_mul (c := 156) (hrv h (by omega)).2 (bdc_sgn (c := 104) (Or.inr rfl) (dm a b ha hb) (dm b a hb ha) (by decide) (by decide)) (by decide)) ⟨by omega, by decide⟩) lk_684 rfl rfl (by decide) (by assumption) (by assumption) ⟨Nat.le_of_ble_eq_true rfl, Nat.le_of_ble_eq_true rfl⟩ ⟨Nat.le_refl _, Nat.le_refl _⟩ rfl (Nat.le_of_ble_eq_true rfl) dX0_setDeterminant_188 rfl ?_
    rintro F188 A188 ⟨V188, ⟨S188, g188⟩, H188⟩
    refine x_iinc (pc2 := 194) (loc2 := [_, _, _, _, _, _, _, _, _]) hC (by decide) rfl rfl dX0_setDeterminant_191 rfl ?_
    refine x_goto (pc2 := 17) hC dX0_setDeterminant_194 rfl ?_
    refine next _ _ ⟨_, _, ⟨S188, (((((g1.tr g116).tr g143).tr g159).tr g178).tr g188)⟩, H188, ?_, fun g hg n1 n2 n3 => ?_⟩
    · rw [upH_eq, detT]
    · rw [upH_ne n1, upH_ne n3, upH_ne n2, upH_ne n3, upH_ne n2]
      exact k1 g hg n1 n2 n3
  have dt : ∀ h a b : Nat, h < 4 → a < 4 → b < 4 → bdc 156 (detT r h a b) := fun h a b hh ha hb => bdc_mul (hrv h (by omega)).2 (bdc_sgn (c := 104) (Or.inr rfl) (bdc_mul (c := 103) (hrv (4 + a) (by omega)).2 (hrv (8 + b) (by omega)).2 (by decide)) (bdc_mul (c := 103) (hrv (4 + b) (by omega)).2 (hrv (8 + a) (by omega)).2 (by decide)) (by decide) (by decide)) (by decide)
  have z0 : bdc 1 ((0, 0) : CI) := ⟨bd_0, bd_0⟩
  have z1 : bdc 157 (csgn 1 (0, 0) (detT r x y w)) := bdc_sgn (Or.inl rfl) z0 (dt x y w hx hy hw) (by decide) (by decide)
  have z2 : bdc 158 (csgn 1 (csgn 1 (0, 0) (detT r x y w)) (detT r y w x)) := bdc_sgn (Or.inl rfl) z1 (dt y w x hy hw hx) (by decide) (by decide)
  have z3 : bdc 159 (det3 r x y w) := bdc_sgn (Or.inl rfl) z2 (dt w x y hw hx hy) (by decide) (by decide)
  have at3 : ∀ (F1 : Nat → Nat → Int) (A1 : Nat → Int → Int) {e6 e7 e8 : Option PV}, (∃ V1 H1, SQ sh R N F A V1 F1 A1 ∧ HV V1 H1 ∧ H1 into = det3 r x y w ∧ ∀ g ∈ GaL, g ≠ into → g ≠ 280 → g ≠ 285 → H1 g = H g) → X p l e { frames := 4, cells := 0, slots := 0, locals := 109 } s m args below meth c (MQ below (QX D ids β sh N R (pVr (fun F2 A2 => ∃ V2 H2, SQ sh R N F A V2 F2 A2 ∧ HV V2 H2 ∧ H2 into = det3 r x y w ∧ bdc 159 (det3 r x y w) ∧ ∀ g ∈ GaL, g ≠ into → g ≠ 280 → g ≠ 285 → H2 g = H g))) args s 0 0 (inG β N)) (inG β N) D ids β sh 9 0 0 N R F1 A1 [some (rf 7), some (rf into), some (pI (x : Int)), some (pI (y : Int)), some (pI (w : Int)), some (pI (3 : Int)), e6, e7, e8] [] 17 := by
    intro F1 A1 e6 e7 e8 hd
    obtain ⟨V1, H1, q1, q2, q3, q4⟩ := hd
    refine x_iload (pc2 := 19) hC rfl dX0_setDeterminant_17 rfl ?_
    refine x_iconst (pc2 := 20) hC dX0_setDeterminant_19 rfl ?_
    refine x_icmp_ge (tgt := 197) (pc2 := 23) hC (by omega) (by omega) dX0_setDeterminant_20 rfl rfl (fun h_20 => ?_) (fun h_20 => ?_)
    · exact x_vret hC hr hlk ⟨rfl, _, _, q1, q2, q3, z3, q4⟩ dX0_setDeterminant_197
    · exfalso; omega
  have at2 : ∀ (F1 : Nat → Nat → Int) (A1 : Nat → Int → Int) {e6 e7 e8 : Option PV}, (∃ V1 H1, SQ sh R N F A V1 F1 A1 ∧ HV V1 H1 ∧ H1 into = csgn 1 (csgn 1 (0, 0) (detT r x y w)) (detT r y w x) ∧ ∀ g ∈ GaL, g ≠ into → g ≠ 280 → g ≠ 285 → H1 g = H g) → X p l e { frames := 4, cells := 0, slots := 0, locals := 109 } s m args below meth c (MQ below (QX D ids β sh N R (pVr (fun F2 A2 => ∃ V2 H2, SQ sh R N F A V2 F2 A2 ∧ HV V2 H2 ∧ H2 into = det3 r x y w ∧ bdc 159 (det3 r x y w) ∧ ∀ g ∈ GaL, g ≠ into → g ≠ 280 → g ≠ 285 → H2 g = H g))) args s 0 0 (inG β N)) (inG β N) D ids β sh 9 0 0 N R F1 A1 [some (rf 7), some (rf into), some (pI (x : Int)), some (pI (y : Int)), some (pI (w : Int)), some (pI (2 : Int)), e6, e7, e8] [] 17 := by
    intro F1 A1 e6 e7 e8 hd
    refine x_iload (pc2 := 19) hC rfl dX0_setDeterminant_17 rfl ?_
    refine x_iconst (pc2 := 20) hC dX0_setDeterminant_19 rfl ?_
    refine x_icmp_ge (tgt := 197) (pc2 := 23) hC (by omega) (by omega) dX0_setDeterminant_20 rfl rfl (fun h_20 => ?_) (fun h_20 => ?_)
    · exfalso; omega
    · refine x_iload (pc2 := 25) hC rfl dX0_setDeterminant_23 rfl ?_
      refine x_if_ne (tgt := 32) (pc2 := 28) hC (by omega) dX0_setDeterminant_25 rfl rfl (fun h_25 => ?_) (fun h_25 => ?_)
      · refine x_iload (pc2 := 34) hC rfl dX0_setDeterminant_32 rfl ?_
        refine x_iconst (pc2 := 35) hC dX0_setDeterminant_34 rfl ?_
        refine x_icmp_ne (tgt := 42) (pc2 := 38) hC (by omega) (by omega) dX0_setDeterminant_35 rfl rfl (fun h_35 => ?_) (fun h_35 => ?_)
        · refine x_iload (pc2 := 44) hC rfl dX0_setDeterminant_42 rfl ?_
          refine x_istore (pc2 := 46) (loc2 := [_, _, _, _, _, _, _, _, _]) hC (by decide) rfl dX0_setDeterminant_44 rfl ?_
          refine x_iload (pc2 := 48) hC rfl dX0_setDeterminant_46 rfl ?_
          refine x_if_ne (tgt := 55) (pc2 := 51) hC (by omega) dX0_setDeterminant_48 rfl rfl (fun h_48 => ?_) (fun h_48 => ?_)
          · refine x_iload (pc2 := 57) hC rfl dX0_setDeterminant_55 rfl ?_
            refine x_iconst (pc2 := 58) hC dX0_setDeterminant_57 rfl ?_
            refine x_icmp_ne (tgt := 66) (pc2 := 61) hC (by omega) (by omega) dX0_setDeterminant_58 rfl rfl (fun h_58 => ?_) (fun h_58 => ?_)
            · refine x_iload_n (pc2 := 67) hC rfl rfl dX0_setDeterminant_66 rfl ?_
              refine x_istore (pc2 := 69) (loc2 := [_, _, _, _, _, _, _, _, _]) hC (by decide) rfl dX0_setDeterminant_67 rfl ?_
              refine x_iload (pc2 := 71) hC rfl dX0_setDeterminant_69 rfl ?_
              refine x_if_ne (tgt := 79) (pc2 := 74) hC (by omega) dX0_setDeterminant_71 rfl rfl (fun h_71 => ?_) (fun h_71 => ?_)
              · refine x_iload (pc2 := 81) hC rfl dX0_setDeterminant_79 rfl ?_
                refine x_iconst (pc2 := 82) hC dX0_setDeterminant_81 rfl ?_
                refine x_icmp_ne (tgt := 89) (pc2 := 85) hC (by omega) (by omega) dX0_setDeterminant_82 rfl rfl (fun h_82 => ?_) (fun h_82 => ?_)
                · refine x_iload_n (pc2 := 90) hC rfl rfl dX0_setDeterminant_89 rfl ?_
                  refine x_istore (pc2 := 92) (loc2 := [_, _, _, _, _, _, _, _, _]) hC (by decide) rfl dX0_setDeterminant_90 rfl ?_
                  exact rest 2 w x y _ F1 A1 _ hw hx hy z2 (by decide) hd (fun F2 A2 h2 => at3 F2 A2 h2)
                · exfalso; omega
              · exfalso; omega
            · exfalso; omega
          · exfalso; omega
        · exfalso; omega
      · exfalso; omega
  have at1 : ∀ (F1 : Nat → Nat → Int) (A1 : Nat → Int → Int) {e6 e7 e8 : Option PV}, (∃ V1 H1, SQ sh R N F A V1 F1 A1 ∧ HV V1 H1 ∧ H1 into = csgn 1 (0, 0) (detT r x y w) ∧ ∀ g ∈ GaL, g ≠ into → g ≠ 280 → g ≠ 285 → H1 g = H g) → X p l e { frames := 4, cells := 0, slots := 0, locals := 109 } s m args below meth c (MQ below (QX D ids β sh N R (pVr (fun F2 A2 => ∃ V2 H2, SQ sh R N F A V2 F2 A2 ∧ HV V2 H2 ∧ H2 into = det3 r x y w ∧ bdc 159 (det3 r x y w) ∧ ∀ g ∈ GaL, g ≠ into → g ≠ 280 → g ≠ 285 → H2 g = H g))) args s 0 0 (inG β N)) (inG β N) D ids β sh 9 0 0 N R F1 A1 [some (rf 7), some (rf into), some (pI (x : Int)), some (pI (y : Int)), some (pI (w : Int)), some (pI (1 : Int)), e6, e7, e8] [] 17 := by
    intro F1 A1 e6 e7 e8 hd
    refine x_iload (pc2 := 19) hC rfl dX0_setDeterminant_17 rfl ?_
    refine x_iconst (pc2 := 20) hC dX0_setDeterminant_19 rfl ?_
    refine x_icmp_ge (tgt := 197) (pc2 := 23) hC (by omega) (by omega) dX0_setDeterminant_20 rfl rfl (fun h_20 => ?_) (fun h_20 => ?_)
    · exfalso; omega
    · refine x_iload (pc2 := 25) hC rfl dX0_setDeterminant_23 rfl ?_
      refine x_if_ne (tgt := 32) (pc2 := 28) hC (by omega) dX0_setDeterminant_25 rfl rfl (fun h_25 => ?_) (fun h_25 => ?_)
      · refine x_iload (pc2 := 34) hC rfl dX0_setDeterminant_32 rfl ?_
        refine x_iconst (pc2 := 35) hC dX0_setDeterminant_34 rfl ?_
        refine x_icmp_ne (tgt := 42) (pc2 := 38) hC (by omega) (by omega) dX0_setDeterminant_35 rfl rfl (fun h_35 => ?_) (fun h_35 => ?_)
        · exfalso; omega
        · refine x_iload_n (pc2 := 39) hC rfl rfl dX0_setDeterminant_38 rfl ?_
          refine x_goto (pc2 := 44) hC dX0_setDeterminant_39 rfl ?_
          refine x_istore (pc2 := 46) (loc2 := [_, _, _, _, _, _, _, _, _]) hC (by decide) rfl dX0_setDeterminant_44 rfl ?_
          refine x_iload (pc2 := 48) hC rfl dX0_setDeterminant_46 rfl ?_
          refine x_if_ne (tgt := 55) (pc2 := 51) hC (by omega) dX0_setDeterminant_48 rfl rfl (fun h_48 => ?_) (fun h_48 => ?_)
          · refine x_iload (pc2 := 57) hC rfl dX0_setDeterminant_55 rfl ?_
            refine x_iconst (pc2 := 58) hC dX0_setDeterminant_57 rfl ?_
            refine x_icmp_ne (tgt := 66) (pc2 := 61) hC (by omega) (by omega) dX0_setDeterminant_58 rfl rfl (fun h_58 => ?_) (fun h_58 => ?_)
            · exfalso; omega
            · refine x_iload (pc2 := 63) hC rfl dX0_setDeterminant_61 rfl ?_
              refine x_goto (pc2 := 67) hC dX0_setDeterminant_63 rfl ?_
              refine x_istore (pc2 := 69) (loc2 := [_, _, _, _, _, _, _, _, _]) hC (by decide) rfl dX0_setDeterminant_67 rfl ?_
              refine x_iload (pc2 := 71) hC rfl dX0_setDeterminant_69 rfl ?_
              refine x_if_ne (tgt := 79) (pc2 := 74) hC (by omega) dX0_setDeterminant_71 rfl rfl (fun h_71 => ?_) (fun h_71 => ?_)
              · refine x_iload (pc2 := 81) hC rfl dX0_setDeterminant_79 rfl ?_
                refine x_iconst (pc2 := 82) hC dX0_setDeterminant_81 rfl ?_
                refine x_icmp_ne (tgt := 89) (pc2 := 85) hC (by omega) (by omega) dX0_setDeterminant_82 rfl rfl (fun h_82 => ?_) (fun h_82 => ?_)
                · exfalso; omega
                · refine x_iload_n (pc2 := 86) hC rfl rfl dX0_setDeterminant_85 rfl ?_
                  refine x_goto (pc2 := 90) hC dX0_setDeterminant_86 rfl ?_
                  refine x_istore (pc2 := 92) (loc2 := [_, _, _, _, _, _, _, _, _]) hC (by decide) rfl dX0_setDeterminant_90 rfl ?_
                  exact rest 1 y w x _ F1 A1 _ hy hw hx z1 (by decide) hd (fun F2 A2 h2 => at2 F2 A2 h2)
              · exfalso; omega
          · exfalso; omega
      · exfalso; omega
  have at0 : ∀ (F1 : Nat → Nat → Int) (A1 : Nat → Int → Int) {e6 e7 e8 : Option PV}, (∃ V1 H1, SQ sh R N F A V1 F1 A1 ∧ HV V1 H1 ∧ H1 into = (0, 0) ∧ ∀ g ∈ GaL, g ≠ into → g ≠ 280 → g ≠ 285 → H1 g = H g) → X p l e { frames := 4, cells := 0, slots := 0, locals := 109 } s m args below meth c (MQ below (QX D ids β sh N R (pVr (fun F2 A2 => ∃ V2 H2, SQ sh R N F A V2 F2 A2 ∧ HV V2 H2 ∧ H2 into = det3 r x y w ∧ bdc 159 (det3 r x y w) ∧ ∀ g ∈ GaL, g ≠ into → g ≠ 280 → g ≠ 285 → H2 g = H g))) args s 0 0 (inG β N)) (inG β N) D ids β sh 9 0 0 N R F1 A1 [some (rf 7), some (rf into), some (pI (x : Int)), some (pI (y : Int)), some (pI (w : Int)), some (pI (0 : Int)), e6, e7, e8] [] 17 := by
    intro F1 A1 e6 e7 e8 hd
    refine x_iload (pc2 := 19) hC rfl dX0_setDeterminant_17 rfl ?_
    refine x_iconst (pc2 := 20) hC dX0_setDeterminant_19 rfl ?_
    refine x_icmp_ge (tgt := 197) (pc2 := 23) hC (by omega) (by omega) dX0_setDeterminant_20 rfl rfl (fun h_20 => ?_) (fun h_20 => ?_)
    · exfalso; omega
    · refine x_iload (pc2 := 25) hC rfl dX0_setDeterminant_23 rfl ?_
      refine x_if_ne (tgt := 32) (pc2 := 28) hC (by omega) dX0_setDeterminant_25 rfl rfl (fun h_25 => ?_) (fun h_25 => ?_)
      · exfalso; omega
      · refine x_iload_n (pc2 := 29) hC rfl rfl dX0_setDeterminant_28 rfl ?_
        refine x_goto (pc2 := 44) hC dX0_setDeterminant_29 rfl ?_
        refine x_istore (pc2 := 46) (loc2 := [_, _, _, _, _, _, _, _, _]) hC (by decide) rfl dX0_setDeterminant_44 rfl ?_
        refine x_iload (pc2 := 48) hC rfl dX0_setDeterminant_46 rfl ?_
        refine x_if_ne (tgt := 55) (pc2 := 51) hC (by omega) dX0_setDeterminant_48 rfl rfl (fun h_48 => ?_) (fun h_48 => ?_)
        · exfalso; omega
        · refine x_iload_n (pc2 := 52) hC rfl rfl dX0_setDeterminant_51 rfl ?_
          refine x_goto (pc2 := 67) hC dX0_setDeterminant_52 rfl ?_
          refine x_istore (pc2 := 69) (loc2 := [_, _, _, _, _, _, _, _, _]) hC (by decide) rfl dX0_setDeterminant_67 rfl ?_
          refine x_iload (pc2 := 71) hC rfl dX0_setDeterminant_69 rfl ?_
          refine x_if_ne (tgt := 79) (pc2 := 74) hC (by omega) dX0_setDeterminant_71 rfl rfl (fun h_71 => ?_) (fun h_71 => ?_)
          · exfalso; omega
          · refine x_iload (pc2 := 76) hC rfl dX0_setDeterminant_74 rfl ?_
            refine x_goto (pc2 := 90) hC dX0_setDeterminant_76 rfl ?_
            refine x_istore (pc2 := 92) (loc2 := [_, _, _, _, _, _, _, _, _]) hC (by decide) rfl dX0_setDeterminant_90 rfl ?_
            exact rest 0 x y w _ F1 A1 _ hx hy hw z0 (by decide) hd (fun F2 A2 h2 => at1 F2 A2 h2)
  refine x_aload_n (pc2 := 1) hC rfl rfl dX0_setDeterminant_0 rfl ?_
  refine g_162 (pc2 := 4) hC hK (by assumption) (by assumption) (by assumption) dX0_setDeterminant_1 rfl ?_
  refine x_cVv (pc2 := 7) (ci := 6) hC hK (s_clear l hS o6) lk_683 rfl rfl (by decide) (by assumption) (by assumption) ⟨Nat.le_of_ble_eq_true rfl, Nat.le_of_ble_eq_true rfl⟩ ⟨Nat.le_refl _, Nat.le_refl _⟩ rfl (Nat.le_of_ble_eq_true rfl) dX0_setDeterminant_4 rfl ?_
  rintro F1 A1 ⟨S1, g1⟩
  refine x_aload_n (pc2 := 8) hC rfl rfl dX0_setDeterminant_7 rfl ?_
  refine g_166 (pc2 := 11) hC hK (by assumption) (by assumption) (by assumption) dX0_setDeterminant_8 rfl ?_
  refine x_cVv (pc2 := 14) (ci := 6) hC hK (s_clear l S1 o7) lk_683 rfl rfl (by decide) (by assumption) (by assumption) ⟨Nat.le_of_ble_eq_true rfl, Nat.le_of_ble_eq_true rfl⟩ ⟨Nat.le_refl _, Nat.le_refl _⟩ rfl (Nat.le_of_ble_eq_true rfl) dX0_setDeterminant_11 rfl ?_
  rintro F2 A2 ⟨S2, g2⟩
  refine x_iconst (pc2 := 15) hC dX0_setDeterminant_14 rfl ?_
  refine x_istore (pc2 := 17) (loc2 := [_, _, _, _, _, _, _, _, _]) hC (by decide) rfl dX0_setDeterminant_15 rfl ?_
  refine at0 _ _ ?_
  obtain ⟨V3, h3, h4⟩ := GQ.toH (re := 0) (im := 0) ⟨_, ⟨S2, g1.tr g2⟩, by rw [upV_ne (by omega), upV_eq], upV_eq, fun u u1 u2 u3 => by rw [upV_ne u2, upV_ne u1]⟩ hH hin.1 hGa hsp
  exact ⟨V3, _, h3, h4, upH_eq, fun g hg n1 n2 n3 => upH_ne n1⟩
