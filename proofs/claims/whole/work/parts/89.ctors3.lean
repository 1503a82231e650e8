/-! CONSTRUCTORS: Acts, PortsBench -/
theorem ST0 {sh : Nat → Nat × Nat} {R : Nat → Nat → Option Nat} {N : Nat} {F : Nat → Nat → Int} {A : Nat → Int → Int} (hF : ∀ w, sh w = (0, 6) → ∀ j, F w j = 0) : ST sh R N F A (fun _ => 0) := fun w hw => by
  have h0 := hF w hw.2.1 0
  have h1 := hF w hw.2.1 1
  refine ⟨⟨by omega, by omega, fun k a b => by omega, fun h => by omega, Or.inl ⟨h1, h0⟩⟩, ?_⟩
  unfold wv
  rw [h0, Int.zero_mul]
def AcN (sh : Nat → Nat × Nat) (R : Nat → Nat → Option Nat) (F : Nat → Nat → Int) (A : Nat → Int → Int) : Prop := sh 7 = (0, 0) ∧ R 7 = rwL [some 1, some 15, some 31, some 76, some 121, some 132, some 143, some 154, some 165, some 176, some 187, some 198, some 259, some 280, some 285, some 290] ∧ (∀ j, F 7 j = 0) ∧ sh 1 = (0, 5) ∧ (R 1 1 = some 3) ∧ WhN sh R F A 8 ∧ GsN sh R F A 10 8 ∧ LoN sh R F A 15 3 8 ∧ (RfN sh R F A 31 4 10 8 ∧ RfN sh R F A 76 4 10 8) ∧ (RtN sh R F A 121 10 8 ∧ RtN sh R F A 132 10 8 ∧ RtN sh R F A 143 10 8 ∧ RtN sh R F A 154 10 8 ∧ RtN sh R F A 165 10 8 ∧ RtN sh R F A 176 10 8 ∧ RtN sh R F A 187 10 8) ∧ (GrN sh R F A 198 12 8 ∧ GrN sh R F A 259 4 8) ∧ GsN sh R F A 280 8 ∧ GsN sh R F A 285 8 ∧ GsN sh R F A 290 8
theorem AcN.eqv {sh : Nat → Nat × Nat} {R R' : Nat → Nat → Option Nat} {F F' : Nat → Nat → Int} {A A' : Nat → Int → Int} (h : AcN sh R F A) (k : Eqv R F A R' F' A' 1 295) : AcN sh R' F' A' := by
  obtain ⟨h1, h2, h3, q1, q2, h4, h5, h6, ⟨h7, h8⟩, ⟨r121, r132, r143, r154, r165, r176, r187⟩, ⟨h9, h10⟩, g280, g285, g290⟩ := h
  obtain ⟨a1, a2, -⟩ := k 7 (by omega) (by omega)
  obtain ⟨b1, -, -⟩ := k 1 (by omega) (by omega)
  exact ⟨h1, a1.trans h2, fun j => by rw [a2]; exact h3 j, q1, by rw [b1]; exact q2, h4.eqv (k.sub (by omega) (by omega)), h5.eqv (k.sub (by omega) (by omega)), h6.eqv (k.sub (by omega) (by omega)), ⟨h7.eqv (k.sub (by omega) (by omega)), h8.eqv (k.sub (by omega) (by omega))⟩, ⟨r121.eqv (k.sub (by omega) (by omega)), r132.eqv (k.sub (by omega) (by omega)), r143.eqv (k.sub (by omega) (by omega)), r154.eqv (k.sub (by omega) (by omega)), r165.eqv (k.sub (by omega) (by omega)), r176.eqv (k.sub (by omega) (by omega)), r187.eqv (k.sub (by omega) (by omega))⟩, ⟨h9.eqv (k.sub (by omega) (by omega)), h10.eqv (k.sub (by omega) (by omega))⟩, g280.eqv (k.sub (by omega) (by omega)), g285.eqv (k.sub (by omega) (by omega)), g290.eqv (k.sub (by omega) (by omega))⟩
/-- what is behind Acts' constructor -/
def ActsP (sh : Nat → Nat × Nat) (R : Nat → Nat → Option Nat) (F : Nat → Nat → Int) (A : Nat → Int → Int) (F' : Nat → Nat → Int) (A' : Nat → Int → Int) : Prop := (∃ V, ST sh R 295 F' A' V ∧ (cx V 122 = cre 1 ∧ cx V 127 = cre 1) ∧ (cx V 133 = cre 1 ∧ cx V 138 = cre 4)) ∧ (∀ o, sh o ≠ (0, 6) → F' o = LoF F 15 o) ∧ (∀ a, sh a ≠ (1, 80) → A' a = A a) ∧ ∀ k, 295 ≤ k → F' k = F k ∧ A' k = A k
theorem WhN.w {sh : Nat → Nat × Nat} {R : Nat → Nat → Option Nat} {F : Nat → Nat → Int} {A : Nat → Int → Int} {w N : Nat} (h : WhN sh R F A w) (hN : w + 1 < N) : isW sh R N w := ⟨hN, h.1, h.2.1, congrFun h.2.2.1 2⟩
theorem GsN.g {sh : Nat → Nat × Nat} {R : Nat → Nat → Option Nat} {F : Nat → Nat → Int} {A : Nat → Int → Int} {g sp N : Nat} (h : GsN sh R F A g sp) (hs : isW sh R N sp) (hN : g + 4 < N) : isG sh R N g sp := ⟨by omega, h.1, congrFun h.2.1 0, congrFun h.2.1 1, congrFun h.2.1 2, h.2.2.2.1.w (by omega), h.2.2.2.2.w (by omega), hs⟩
theorem RtN.r {sh : Nat → Nat × Nat} {R : Nat → Nat → Option Nat} {F : Nat → Nat → Int} {A : Nat → Int → Int} {r sg sw N : Nat} (h : RtN sh R F A r sg sw) (hw : isW sh R N sw) (hs : isG sh R N sg sw) (hN : r + 10 < N) : isRt sh R N r sg sw := ⟨by omega, h.1, congrFun h.2.1 0, congrFun h.2.1 1, congrFun h.2.1 2, h.2.2.2.1.g hw (by omega), h.2.2.2.2.g hw (by omega), hs⟩
theorem sp8 {sh : Nat → Nat × Nat} {R : Nat → Nat → Option Nat} {N : Nat} (h7 : sh 7 = (0, 0)) (h5 : sh 5 = (1, 2304)) : spG sh R N 8 := fun x s h => by
  have h2 := h.2.1
  refine ⟨fun q => ?_, fun q => ?_⟩
  · rw [show x = 7 by omega, h7] at h2
    cases h2
  · rw [show x = 5 by omega, h5] at h2
    cases h2
theorem dX0_init_0 : decode cX0_init 0 = .ok (.aload_n 0, 1) := by decide +kernel
theorem dX0_init_1 : decode cX0_init 1 = .ok (.invokespecial 3, 3) := by decide +kernel
theorem dX0_init_4 : decode cX0_init 4 = .ok (.new 9, 3) := by decide +kernel
theorem dX0_init_7 : decode cX0_init 7 = .ok (.dup, 1) := by decide +kernel
theorem dX0_init_8 : decode cX0_init 8 = .ok (.invokespecial 11, 3) := by decide +kernel
theorem dX0_init_11 : decode cX0_init 11 = .ok (.astore_n 2, 1) := by decide +kernel
theorem dX0_init_12 : decode cX0_init 12 = .ok (.new 12, 3) := by decide +kernel
theorem dX0_init_15 : decode cX0_init 15 = .ok (.dup, 1) := by decide +kernel
theorem dX0_init_16 : decode cX0_init 16 = .ok (.aload_n 2, 1) := by decide +kernel
theorem dX0_init_17 : decode cX0_init 17 = .ok (.invokespecial 14, 3) := by decide +kernel
theorem dX0_init_20 : decode cX0_init 20 = .ok (.astore_n 3, 1) := by decide +kernel
theorem dX0_init_21 : decode cX0_init 21 = .ok (.aload_n 0, 1) := by decide +kernel
theorem dX0_init_22 : decode cX0_init 22 = .ok (.aload_n 1, 1) := by decide +kernel
theorem dX0_init_23 : decode cX0_init 23 = .ok (.putfield 17, 3) := by decide +kernel
theorem dX0_init_26 : decode cX0_init 26 = .ok (.aload_n 0, 1) := by decide +kernel
theorem dX0_init_27 : decode cX0_init 27 = .ok (.new 23, 3) := by decide +kernel
theorem dX0_init_30 : decode cX0_init 30 = .ok (.dup, 1) := by decide +kernel
theorem dX0_init_31 : decode cX0_init 31 = .ok (.aload_n 0, 1) := by decide +kernel
theorem dX0_init_32 : decode cX0_init 32 = .ok (.getfield 17, 3) := by decide +kernel
theorem dX0_init_35 : decode cX0_init 35 = .ok (.getfield 25, 3) := by decide +kernel
theorem dX0_init_38 : decode cX0_init 38 = .ok (.aload_n 2, 1) := by decide +kernel
theorem dX0_init_39 : decode cX0_init 39 = .ok (.invokespecial 31, 3) := by decide +kernel
theorem dX0_init_42 : decode cX0_init 42 = .ok (.putfield 34, 3) := by decide +kernel
theorem dX0_init_45 : decode cX0_init 45 = .ok (.aload_n 0, 1) := by decide +kernel
theorem dX0_init_46 : decode cX0_init 46 = .ok (.aload_n 3, 1) := by decide +kernel
theorem dX0_init_47 : decode cX0_init 47 = .ok (.aload_n 2, 1) := by decide +kernel
theorem dX0_init_48 : decode cX0_init 48 = .ok (.invokestatic 38, 3) := by decide +kernel
theorem dX0_init_51 : decode cX0_init 51 = .ok (.putfield 44, 3) := by decide +kernel
theorem dX0_init_54 : decode cX0_init 54 = .ok (.aload_n 0, 1) := by decide +kernel
theorem dX0_init_55 : decode cX0_init 55 = .ok (.aload_n 3, 1) := by decide +kernel
theorem dX0_init_56 : decode cX0_init 56 = .ok (.aload_n 2, 1) := by decide +kernel
theorem dX0_init_57 : decode cX0_init 57 = .ok (.invokestatic 38, 3) := by decide +kernel
theorem dX0_init_60 : decode cX0_init 60 = .ok (.putfield 48, 3) := by decide +kernel
theorem dX0_init_63 : decode cX0_init 63 = .ok (.aload_n 0, 1) := by decide +kernel
theorem dX0_init_64 : decode cX0_init 64 = .ok (.new 39, 3) := by decide +kernel
theorem dX0_init_67 : decode cX0_init 67 = .ok (.dup, 1) := by decide +kernel
theorem dX0_init_68 : decode cX0_init 68 = .ok (.aload_n 3, 1) := by decide +kernel
theorem dX0_init_69 : decode cX0_init 69 = .ok (.aload_n 2, 1) := by decide +kernel
theorem dX0_init_70 : decode cX0_init 70 = .ok (.invokespecial 51, 3) := by decide +kernel
theorem dX0_init_73 : decode cX0_init 73 = .ok (.putfield 54, 3) := by decide +kernel
theorem dX0_init_76 : decode cX0_init 76 = .ok (.aload_n 0, 1) := by decide +kernel
theorem dX0_init_77 : decode cX0_init 77 = .ok (.new 39, 3) := by decide +kernel
theorem dX0_init_80 : decode cX0_init 80 = .ok (.dup, 1) := by decide +kernel
theorem dX0_init_81 : decode cX0_init 81 = .ok (.aload_n 3, 1) := by decide +kernel
theorem dX0_init_82 : decode cX0_init 82 = .ok (.aload_n 2, 1) := by decide +kernel
theorem dX0_init_83 : decode cX0_init 83 = .ok (.invokespecial 51, 3) := by decide +kernel
theorem dX0_init_86 : decode cX0_init 86 = .ok (.putfield 58, 3) := by decide +kernel
theorem dX0_init_89 : decode cX0_init 89 = .ok (.aload_n 0, 1) := by decide +kernel
theorem dX0_init_90 : decode cX0_init 90 = .ok (.new 39, 3) := by decide +kernel
theorem dX0_init_93 : decode cX0_init 93 = .ok (.dup, 1) := by decide +kernel
theorem dX0_init_94 : decode cX0_init 94 = .ok (.aload_n 3, 1) := by decide +kernel
theorem dX0_init_95 : decode cX0_init 95 = .ok (.aload_n 2, 1) := by decide +kernel
theorem dX0_init_96 : decode cX0_init 96 = .ok (.invokespecial 51, 3) := by decide +kernel
theorem dX0_init_99 : decode cX0_init 99 = .ok (.putfield 61, 3) := by decide +kernel
theorem dX0_init_102 : decode cX0_init 102 = .ok (.aload_n 0, 1) := by decide +kernel
theorem dX0_init_103 : decode cX0_init 103 = .ok (.new 39, 3) := by decide +kernel
theorem dX0_init_106 : decode cX0_init 106 = .ok (.dup, 1) := by decide +kernel
theorem dX0_init_107 : decode cX0_init 107 = .ok (.aload_n 3, 1) := by decide +kernel
theorem dX0_init_108 : decode cX0_init 108 = .ok (.aload_n 2, 1) := by decide +kernel
theorem dX0_init_109 : decode cX0_init 109 = .ok (.invokespecial 51, 3) := by decide +kernel
theorem dX0_init_112 : decode cX0_init 112 = .ok (.putfield 64, 3) := by decide +kernel
theorem dX0_init_115 : decode cX0_init 115 = .ok (.aload_n 0, 1) := by decide +kernel
theorem dX0_init_116 : decode cX0_init 116 = .ok (.new 39, 3) := by decide +kernel
theorem dX0_init_119 : decode cX0_init 119 = .ok (.dup, 1) := by decide +kernel
theorem dX0_init_120 : decode cX0_init 120 = .ok (.aload_n 3, 1) := by decide +kernel
theorem dX0_init_121 : decode cX0_init 121 = .ok (.aload_n 2, 1) := by decide +kernel
theorem dX0_init_122 : decode cX0_init 122 = .ok (.invokespecial 51, 3) := by decide +kernel
theorem dX0_init_125 : decode cX0_init 125 = .ok (.putfield 67, 3) := by decide +kernel
theorem dX0_init_128 : decode cX0_init 128 = .ok (.aload_n 0, 1) := by decide +kernel
theorem dX0_init_129 : decode cX0_init 129 = .ok (.new 39, 3) := by decide +kernel
theorem dX0_init_132 : decode cX0_init 132 = .ok (.dup, 1) := by decide +kernel
theorem dX0_init_133 : decode cX0_init 133 = .ok (.aload_n 3, 1) := by decide +kernel
theorem dX0_init_134 : decode cX0_init 134 = .ok (.aload_n 2, 1) := by decide +kernel
theorem dX0_init_135 : decode cX0_init 135 = .ok (.invokespecial 51, 3) := by decide +kernel
theorem dX0_init_138 : decode cX0_init 138 = .ok (.putfield 70, 3) := by decide +kernel
theorem dX0_init_141 : decode cX0_init 141 = .ok (.aload_n 0, 1) := by decide +kernel
theorem dX0_init_142 : decode cX0_init 142 = .ok (.new 39, 3) := by decide +kernel
theorem dX0_init_145 : decode cX0_init 145 = .ok (.dup, 1) := by decide +kernel
theorem dX0_init_146 : decode cX0_init 146 = .ok (.aload_n 3, 1) := by decide +kernel
theorem dX0_init_147 : decode cX0_init 147 = .ok (.aload_n 2, 1) := by decide +kernel
theorem dX0_init_148 : decode cX0_init 148 = .ok (.invokespecial 51, 3) := by decide +kernel
theorem dX0_init_151 : decode cX0_init 151 = .ok (.putfield 73, 3) := by decide +kernel
theorem dX0_init_154 : decode cX0_init 154 = .ok (.aload_n 0, 1) := by decide +kernel
theorem dX0_init_155 : decode cX0_init 155 = .ok (.bipush 12, 2) := by decide +kernel
theorem dX0_init_157 : decode cX0_init 157 = .ok (.aload_n 2, 1) := by decide +kernel
theorem dX0_init_158 : decode cX0_init 158 = .ok (.invokestatic 76, 3) := by decide +kernel
theorem dX0_init_161 : decode cX0_init 161 = .ok (.putfield 80, 3) := by decide +kernel
theorem dX0_init_164 : decode cX0_init 164 = .ok (.aload_n 0, 1) := by decide +kernel
theorem dX0_init_165 : decode cX0_init 165 = .ok (.iconst 4, 1) := by decide +kernel
theorem dX0_init_166 : decode cX0_init 166 = .ok (.aload_n 2, 1) := by decide +kernel
theorem dX0_init_167 : decode cX0_init 167 = .ok (.invokestatic 76, 3) := by decide +kernel
theorem dX0_init_170 : decode cX0_init 170 = .ok (.putfield 84, 3) := by decide +kernel
theorem dX0_init_173 : decode cX0_init 173 = .ok (.aload_n 0, 1) := by decide +kernel
theorem dX0_init_174 : decode cX0_init 174 = .ok (.new 12, 3) := by decide +kernel
theorem dX0_init_177 : decode cX0_init 177 = .ok (.dup, 1) := by decide +kernel
theorem dX0_init_178 : decode cX0_init 178 = .ok (.aload_n 2, 1) := by decide +kernel
theorem dX0_init_179 : decode cX0_init 179 = .ok (.invokespecial 14, 3) := by decide +kernel
theorem dX0_init_182 : decode cX0_init 182 = .ok (.putfield 87, 3) := by decide +kernel
theorem dX0_init_185 : decode cX0_init 185 = .ok (.aload_n 0, 1) := by decide +kernel
theorem dX0_init_186 : decode cX0_init 186 = .ok (.new 12, 3) := by decide +kernel
theorem dX0_init_189 : decode cX0_init 189 = .ok (.dup, 1) := by decide +kernel
theorem dX0_init_190 : decode cX0_init 190 = .ok (.aload_n 2, 1) := by decide +kernel
theorem dX0_init_191 : decode cX0_init 191 = .ok (.invokespecial 14, 3) := by decide +kernel
theorem dX0_init_194 : decode cX0_init 194 = .ok (.putfield 91, 3) := by decide +kernel
theorem dX0_init_197 : decode cX0_init 197 = .ok (.aload_n 0, 1) := by decide +kernel
theorem dX0_init_198 : decode cX0_init 198 = .ok (.new 12, 3) := by decide +kernel
theorem dX0_init_201 : decode cX0_init 201 = .ok (.dup, 1) := by decide +kernel
theorem dX0_init_202 : decode cX0_init 202 = .ok (.aload_n 2, 1) := by decide +kernel
theorem dX0_init_203 : decode cX0_init 203 = .ok (.invokespecial 14, 3) := by decide +kernel
theorem dX0_init_206 : decode cX0_init 206 = .ok (.putfield 94, 3) := by decide +kernel
theorem dX0_init_209 : decode cX0_init 209 = .ok (.aload_n 0, 1) := by decide +kernel
theorem dX0_init_210 : decode cX0_init 210 = .ok (.getfield 54, 3) := by decide +kernel
theorem dX0_init_213 : decode cX0_init 213 = .ok (.iconst 1, 1) := by decide +kernel
theorem dX0_init_214 : decode cX0_init 214 = .ok (.iconst 1, 1) := by decide +kernel
theorem dX0_init_215 : decode cX0_init 215 = .ok (.invokevirtual 97, 3) := by decide +kernel
theorem dX0_init_218 : decode cX0_init 218 = .ok (.aload_n 0, 1) := by decide +kernel
theorem dX0_init_219 : decode cX0_init 219 = .ok (.getfield 58, 3) := by decide +kernel
theorem dX0_init_222 : decode cX0_init 222 = .ok (.iconst 1, 1) := by decide +kernel
theorem dX0_init_223 : decode cX0_init 223 = .ok (.iconst 4, 1) := by decide +kernel
theorem dX0_init_224 : decode cX0_init 224 = .ok (.invokevirtual 97, 3) := by decide +kernel
theorem dX0_init_227 : decode cX0_init 227 = .ok (.return_, 1) := by decide +kernel
set_option maxHeartbeats 16000000 in
theorem k_acts (l : Launch) {D : va_G} {ids : Nat → ClassId} {β : Nat} {sh : Nat → Nat × Nat} {R : Nat → Nat → Option Nat} {F : Nat → Nat → Int} {A : Nat → Int → Int} (hb : AcN sh R F A) (hw0 : ∀ w, sh w = (0, 6) → ∀ j, F w j = 0) (s5 : sh 5 = (1, 2304)) : MetN l yX0_init cX0_init 4 none 5 106 287 9194 D ids β sh 8 295 (mR R 7 0) R F A [rf 7, rf 1] (pVr (ActsP sh R F A)) := by
  refine MetN.of (loc := [_, _, _, _]) (plainFor_of_name (by decide +kernel)) (Nat.le_of_ble_eq_true rfl) rfl ?_
  intro p e s m args below meth c hC hK hr hlk hnm hz
  obtain ⟨h1, h2, h3, q1, q2, h4, h5, h6, ⟨h7, h8⟩, ⟨r121, r132, r143, r154, r165, r176, r187⟩, ⟨h9, h10⟩, g280, g285, g290⟩ := hb
  refine x_aload_n (pc2 := 1) hC rfl rfl dX0_init_0 rfl ?_
  refine x_objInit (pc2 := 4) hC wt_129 (Nat.le_of_ble_eq_true rfl) (Nat.le_of_ble_eq_true rfl) (Nat.le_of_ble_eq_true rfl) dX0_init_1 rfl ?_
  refine x_new (pc2 := 7) (N2 := 9) (nc2 := 1) (ns2 := 3) (ci := 6) hC hK hz rfl (by decide) rfl wt_130 wt_131 wt_71 h4.1 (fun j _ => (h4.2.2.2.1 j).trans (dF0 (by decide)).symm) rfl rfl rfl (Nat.le_of_ble_eq_true rfl) (Nat.le_of_ble_eq_true rfl) dX0_init_4 rfl ?_
  refine x_dupR (pc2 := 8) hC dX0_init_7 rfl ?_
  refine x_cI (n := 0) (pc2 := 11) (N2 := 10) (nc2 := 2) (ns2 := 83) hC hK hz rfl (k_whole l (w := 8) (h4.eqv (Eqv.m (o := 7) (n := 0) (by omega)))) ⟨Or.inr (fun U h => h.2.1), wt_133, wt_71, wt_134, rfl, by decide +kernel, by decide +kernel, by decide +kernel⟩ rfl ⟨Nat.le_of_ble_eq_true rfl, Nat.le_of_ble_eq_true rfl⟩ rfl rfl rfl ⟨Nat.le_of_ble_eq_true rfl, Nat.le_of_ble_eq_true rfl⟩ rfl (Nat.le_of_ble_eq_true rfl) dX0_init_8 rfl ?_
  rintro F8 A8 ⟨e18, e28⟩
  obtain rfl := e18.symm
  obtain rfl := e28.symm
  refine x_astore_n (pc2 := 12) (loc2 := [_, _, _, _]) hC rfl (by decide) rfl dX0_init_11 rfl ?_
  refine x_new (pc2 := 15) (N2 := 11) (nc2 := 3) (ns2 := 86) (ci := 1) hC hK hz rfl (by decide) rfl wt_150 wt_151 wt_72 h5.1 (fun j _ => (h5.2.2.1 j).trans (dF0 (by decide)).symm) rfl rfl rfl (Nat.le_of_ble_eq_true rfl) (Nat.le_of_ble_eq_true rfl) dX0_init_12 rfl ?_
  refine x_dupR (pc2 := 16) hC dX0_init_15 rfl ?_
  refine x_aload_n (pc2 := 17) hC rfl rfl dX0_init_16 rfl ?_
  refine x_cI (n := 1) (pc2 := 20) (N2 := 15) (nc2 := 7) (ns2 := 252) hC hK hz rfl (k_gauss l (g := 10) (sp := 8) (h5.eqv (Eqv.m (o := 7) (n := 0) (by omega)))) ⟨Or.inl wt_152, wt_153, wt_72, wt_154, rfl, by decide +kernel, by decide +kernel, by decide +kernel⟩ rfl ⟨Nat.le_of_ble_eq_true rfl, Nat.le_of_ble_eq_true rfl⟩ rfl rfl rfl ⟨Nat.le_of_ble_eq_true rfl, Nat.le_of_ble_eq_true rfl⟩ rfl (Nat.le_of_ble_eq_true rfl) dX0_init_17 rfl ?_
  rintro F17 A17 ⟨e117, e217⟩
  obtain rfl := e117.symm
  obtain rfl := e217.symm
  refine x_astore_n (pc2 := 21) (loc2 := [_, _, _, _]) hC rfl (by decide) rfl dX0_init_20 rfl ?_
  refine x_aload_n (pc2 := 22) hC rfl rfl dX0_init_21 rfl ?_
  refine x_aload_n (pc2 := 23) hC rfl rfl dX0_init_22 rfl ?_
  refine xp_ref (pc2 := 26) (ci := 0) (j := 0) hC hK (by decide) (by decide) wt_266 rfl rfl rfl hnm rfl (by decide) h1 (Or.inl ⟨_, rfl⟩) dX0_init_23 rfl ?_
  refine x_toR (R2 := mR R 7 1) (mR_put (n := 0) (congrFun h2 0) (by decide) (fun i h1 h2 => by omega)) ?_
  refine x_aload_n (pc2 := 27) hC rfl rfl dX0_init_26 rfl ?_
  refine x_new (pc2 := 30) (N2 := 16) (nc2 := 8) (ns2 := 260) (ci := 3) hC hK hz rfl (by decide) rfl wt_175 wt_176 wt_73 h6.1 (fun j _ => h6.2.2.1 j) rfl rfl rfl (Nat.le_of_ble_eq_true rfl) (Nat.le_of_ble_eq_true rfl) dX0_init_27 rfl ?_
  refine x_dupR (pc2 := 31) hC dX0_init_30 rfl ?_
  refine x_aload_n (pc2 := 32) hC rfl rfl dX0_init_31 rfl ?_
  refine g_266 (pc2 := 35) hC hK (by decide) h1 (show mR R 7 1 7 0 = some 1 from congrFun h2 0) dX0_init_32 rfl ?_
  refine g_97 (pc2 := 38) hC hK (by decide) q1 (show mR R 7 1 1 1 = some 3 from q2) dX0_init_35 rfl ?_
  refine x_aload_n (pc2 := 39) hC rfl rfl dX0_init_38 rfl ?_
  refine x_cI (n := 2) (pc2 := 42) (N2 := 31) (nc2 := 23) (ns2 := 844) hC hK hz rfl (k_lowest l (o := 15) (dc := 3) (sw := 8) (h6.eqv (Eqv.m (o := 7) (n := 1) (by omega)))) ⟨Or.inl wt_177, wt_178, wt_73, wt_179, rfl, by decide +kernel, by decide +kernel, by decide +kernel⟩ rfl ⟨Nat.le_of_ble_eq_true rfl, Nat.le_of_ble_eq_true rfl⟩ rfl rfl rfl ⟨Nat.le_of_ble_eq_true rfl, Nat.le_of_ble_eq_true rfl⟩ rfl (Nat.le_of_ble_eq_true rfl) dX0_init_39 rfl ?_
  rintro F39 A39 ⟨e139, e239⟩
  obtain rfl := e139.symm
  obtain rfl := e239.symm
  refine xp_ref (pc2 := 45) (ci := 0) (j := 1) hC hK (by decide) (by decide) wt_267 rfl rfl rfl hnm rfl (by decide) h1 (Or.inl ⟨_, rfl⟩) dX0_init_42 rfl ?_
  refine x_toR (R2 := mR R 7 2) (mR_put (n := 1) (congrFun h2 1) (by decide) (fun i h1 h2 => by omega)) ?_
  refine x_aload_n (pc2 := 46) hC rfl rfl dX0_init_45 rfl ?_
  refine x_aload_n (pc2 := 47) hC rfl rfl dX0_init_46 rfl ?_
  refine x_aload_n (pc2 := 48) hC rfl rfl dX0_init_47 rfl ?_
  refine x_cSR (n := 2) (pc2 := 51) (N2 := 76) (nc2 := 68) (ns2 := 2212) hC hK hz rfl (k_four l (a := 31) (n := 4) (sg := 10) (sw := 8) rfl (h7.eqv (fun k x y => ⟨mR_ne (o := 7) (n := 2) (by omega), LoF_ne (by omega), rfl⟩))) lk_211 rfl ⟨Nat.le_of_ble_eq_true rfl, Nat.le_of_ble_eq_true rfl⟩ rfl rfl rfl ⟨Nat.le_of_ble_eq_true rfl, Nat.le_of_ble_eq_true rfl⟩ rfl (Nat.le_of_ble_eq_true rfl) dX0_init_48 rfl ?_
  rintro F48 A48 ⟨e148, e248⟩
  obtain rfl := e148.symm
  obtain rfl := e248.symm
  refine xp_ref (pc2 := 54) (ci := 0) (j := 2) hC hK (by decide) (by decide) wt_268 rfl rfl rfl hnm rfl (by decide) h1 (Or.inr ⟨_, rfl⟩) dX0_init_51 rfl ?_
  refine x_toR (R2 := mR R 7 3) (mR_put (n := 2) (congrFun h2 2) (by decide) (fun i h1 h2 => by omega)) ?_
  refine x_aload_n (pc2 := 55) hC rfl rfl dX0_init_54 rfl ?_
  refine x_aload_n (pc2 := 56) hC rfl rfl dX0_init_55 rfl ?_
  refine x_aload_n (pc2 := 57) hC rfl rfl dX0_init_56 rfl ?_
  refine x_cSR (n := 2) (pc2 := 60) (N2 := 121) (nc2 := 113) (ns2 := 3580) hC hK hz rfl (k_four l (a := 76) (n := 4) (sg := 10) (sw := 8) rfl (h8.eqv (fun k x y => ⟨mR_ne (o := 7) (n := 3) (by omega), LoF_ne (by omega), rfl⟩))) lk_211 rfl ⟨Nat.le_of_ble_eq_true rfl, Nat.le_of_ble_eq_true rfl⟩ rfl rfl rfl ⟨Nat.le_of_ble_eq_true rfl, Nat.le_of_ble_eq_true rfl⟩ rfl (Nat.le_of_ble_eq_true rfl) dX0_init_57 rfl ?_
  rintro F57 A57 ⟨e157, e257⟩
  obtain rfl := e157.symm
  obtain rfl := e257.symm
  refine xp_ref (pc2 := 63) (ci := 0) (j := 3) hC hK (by decide) (by decide) wt_269 rfl rfl rfl hnm rfl (by decide) h1 (Or.inr ⟨_, rfl⟩) dX0_init_60 rfl ?_
  refine x_toR (R2 := mR R 7 4) (mR_put (n := 3) (congrFun h2 3) (by decide) (fun i h1 h2 => by omega)) ?_
  refine x_aload_n (pc2 := 64) hC rfl rfl dX0_init_63 rfl ?_
  refine x_new (pc2 := 67) (N2 := 122) (nc2 := 114) (ns2 := 3583) (ci := 4) hC hK hz rfl (by decide) rfl wt_237 wt_216 wt_74 r121.1 (fun j _ => by rw [LoF_ne (by decide)]; exact (r121.2.2.1 j).trans (dF0 (by decide)).symm) rfl rfl rfl (Nat.le_of_ble_eq_true rfl) (Nat.le_of_ble_eq_true rfl) dX0_init_64 rfl ?_
  refine x_dupR (pc2 := 68) hC dX0_init_67 rfl ?_
  refine x_aload_n (pc2 := 69) hC rfl rfl dX0_init_68 rfl ?_
  refine x_aload_n (pc2 := 70) hC rfl rfl dX0_init_69 rfl ?_
  refine x_cI (n := 2) (pc2 := 73) (N2 := 132) (nc2 := 124) (ns2 := 3921) hC hK hz rfl (k_ratio l (r := 121) (sg := 10) (sw := 8) (r121.eqv (fun k x y => ⟨mR_ne (o := 7) (n := 4) (by omega), LoF_ne (by omega), rfl⟩))) ⟨Or.inl wt_238, wt_218, wt_74, wt_219, rfl, by decide +kernel, by decide +kernel, by decide +kernel⟩ rfl ⟨Nat.le_of_ble_eq_true rfl, Nat.le_of_ble_eq_true rfl⟩ rfl rfl rfl ⟨Nat.le_of_ble_eq_true rfl, Nat.le_of_ble_eq_true rfl⟩ rfl (Nat.le_of_ble_eq_true rfl) dX0_init_70 rfl ?_
  rintro F70 A70 ⟨e170, e270⟩
  obtain rfl := e170.symm
  obtain rfl := e270.symm
  refine xp_ref (pc2 := 76) (ci := 0) (j := 4) hC hK (by decide) (by decide) wt_270 rfl rfl rfl hnm rfl (by decide) h1 (Or.inl ⟨_, rfl⟩) dX0_init_73 rfl ?_
  refine x_toR (R2 := mR R 7 5) (mR_put (n := 4) (congrFun h2 4) (by decide) (fun i h1 h2 => by omega)) ?_
  refine x_aload_n (pc2 := 77) hC rfl rfl dX0_init_76 rfl ?_
  refine x_new (pc2 := 80) (N2 := 133) (nc2 := 125) (ns2 := 3924) (ci := 4) hC hK hz rfl (by decide) rfl wt_237 wt_216 wt_74 r132.1 (fun j _ => by rw [LoF_ne (by decide)]; exact (r132.2.2.1 j).trans (dF0 (by decide)).symm) rfl rfl rfl (Nat.le_of_ble_eq_true rfl) (Nat.le_of_ble_eq_true rfl) dX0_init_77 rfl ?_
  refine x_dupR (pc2 := 81) hC dX0_init_80 rfl ?_
  refine x_aload_n (pc2 := 82) hC rfl rfl dX0_init_81 rfl ?_
  refine x_aload_n (pc2 := 83) hC rfl rfl dX0_init_82 rfl ?_
  refine x_cI (n := 2) (pc2 := 86) (N2 := 143) (nc2 := 135) (ns2 := 4262) hC hK hz rfl (k_ratio l (r := 132) (sg := 10) (sw := 8) (r132.eqv (fun k x y => ⟨mR_ne (o := 7) (n := 5) (by omega), LoF_ne (by omega), rfl⟩))) ⟨Or.inl wt_238, wt_218, wt_74, wt_219, rfl, by decide +kernel, by decide +kernel, by decide +kernel⟩ rfl ⟨Nat.le_of_ble_eq_true rfl, Nat.le_of_ble_eq_true rfl⟩ rfl rfl rfl ⟨Nat.le_of_ble_eq_true rfl, Nat.le_of_ble_eq_true rfl⟩ rfl (Nat.le_of_ble_eq_true rfl) dX0_init_83 rfl ?_
  rintro F83 A83 ⟨e183, e283⟩
  obtain rfl := e183.symm
  obtain rfl := e283.symm
  refine xp_ref (pc2 := 89) (ci := 0) (j := 5) hC hK (by decide) (by decide) wt_271 rfl rfl rfl hnm rfl (by decide) h1 (Or.inl ⟨_, rfl⟩) dX0_init_86 rfl ?_
  refine x_toR (R2 := mR R 7 6) (mR_put (n := 5) (congrFun h2 5) (by decide) (fun i h1 h2 => by omega)) ?_
  refine x_aload_n (pc2 := 90) hC rfl rfl dX0_init_89 rfl ?_
  refine x_new (pc2 := 93) (N2 := 144) (nc2 := 136) (ns2 := 4265) (ci := 4) hC hK hz rfl (by decide) rfl wt_237 wt_216 wt_74 r143.1 (fun j _ => by rw [LoF_ne (by decide)]; exact (r143.2.2.1 j).trans (dF0 (by decide)).symm) rfl rfl rfl (Nat.le_of_ble_eq_true rfl) (Nat.le_of_ble_eq_true rfl) dX0_init_90 rfl ?_
  refine x_dupR (pc2 := 94) hC dX0_init_93 rfl ?_
  refine x_aload_n (pc2 := 95) hC rfl rfl dX0_init_94 rfl ?_
  refine x_aload_n (pc2 := 96) hC rfl rfl dX0_init_95 rfl ?_
  refine x_cI (n := 2) (pc2 := 99) (N2 := 154) (nc2 := 146) (ns2 := 4603) hC hK hz rfl (k_ratio l (r := 143) (sg := 10) (sw := 8) (r143.eqv (fun k x y => ⟨mR_ne (o := 7) (n := 6) (by omega), LoF_ne (by omega), rfl⟩))) ⟨Or.inl wt_238, wt_218, wt_74, wt_219, rfl, by decide +kernel, by decide +kernel, by decide +kernel⟩ rfl ⟨Nat.le_of_ble_eq_true rfl, Nat.le_of_ble_eq_true rfl⟩ rfl rfl rfl ⟨Nat.le_of_ble_eq_true rfl, Nat.le_of_ble_eq_true rfl⟩ rfl (Nat.le_of_ble_eq_true rfl) dX0_init_96 rfl ?_
  rintro F96 A96 ⟨e196, e296⟩
  obtain rfl := e196.symm
  obtain rfl := e296.symm
  refine xp_ref (pc2 := 102) (ci := 0) (j := 6) hC hK (by decide) (by decide) wt_272 rfl rfl rfl hnm rfl (by decide) h1 (Or.inl ⟨_, rfl⟩) dX0_init_99 rfl ?_
  refine x_toR (R2 := mR R 7 7) (mR_put (n := 6) (congrFun h2 6) (by decide) (fun i h1 h2 => by omega)) ?_
  refine x_aload_n (pc2 := 103) hC rfl rfl dX0_init_102 rfl ?_
  refine x_new (pc2 := 106) (N2 := 155) (nc2 := 147) (ns2 := 4606) (ci := 4) hC hK hz rfl (by decide) rfl wt_237 wt_216 wt_74 r154.1 (fun j _ => by rw [LoF_ne (by decide)]; exact (r154.2.2.1 j).trans (dF0 (by decide)).symm) rfl rfl rfl (Nat.le_of_ble_eq_true rfl) (Nat.le_of_ble_eq_true rfl) dX0_init_103 rfl ?_
  refine x_dupR (pc2 := 107) hC dX0_init_106 rfl ?_
  refine x_aload_n (pc2 := 108) hC rfl rfl dX0_init_107 rfl ?_
  refine x_aload_n (pc2 := 109) hC rfl rfl dX0_init_108 rfl ?_
  refine x_cI (n := 2) (pc2 := 112) (N2 := 165) (nc2 := 157) (ns2 := 4944) hC hK hz rfl (k_ratio l (r := 154) (sg := 10) (sw := 8) (r154.eqv (fun k x y => ⟨mR_ne (o := 7) (n := 7) (by omega), LoF_ne (by omega), rfl⟩))) ⟨Or.inl wt_238, wt_218, wt_74, wt_219, rfl, by decide +kernel, by decide +kernel, by decide +kernel⟩ rfl ⟨Nat.le_of_ble_eq_true rfl, Nat.le_of_ble_eq_true rfl⟩ rfl rfl rfl ⟨Nat.le_of_ble_eq_true rfl, Nat.le_of_ble_eq_true rfl⟩ rfl (Nat.le_of_ble_eq_true rfl) dX0_init_109 rfl ?_
  rintro F109 A109 ⟨e1109, e2109⟩
  obtain rfl := e1109.symm
  obtain rfl := e2109.symm
  refine xp_ref (pc2 := 115) (ci := 0) (j := 7) hC hK (by decide) (by decide) wt_273 rfl rfl rfl hnm rfl (by decide) h1 (Or.inl ⟨_, rfl⟩) dX0_init_112 rfl ?_
  refine x_toR (R2 := mR R 7 8) (mR_put (n := 7) (congrFun h2 7) (by decide) (fun i h1 h2 => by omega)) ?_
  refine x_aload_n (pc2 := 116) hC rfl rfl dX0_init_115 rfl ?_
  refine x_new (pc2 := 119) (N2 := 166) (nc2 := 158) (ns2 := 4947) (ci := 4) hC hK hz rfl (by decide) rfl wt_237 wt_216 wt_74 r165.1 (fun j _ => by rw [LoF_ne (by decide)]; exact (r165.2.2.1 j).trans (dF0 (by decide)).symm) rfl rfl rfl (Nat.le_of_ble_eq_true rfl) (Nat.le_of_ble_eq_true rfl) dX0_init_116 rfl ?_
  refine x_dupR (pc2 := 120) hC dX0_init_119 rfl ?_
  refine x_aload_n (pc2 := 121) hC rfl rfl dX0_init_120 rfl ?_
  refine x_aload_n (pc2 := 122) hC rfl rfl dX0_init_121 rfl ?_
  refine x_cI (n := 2) (pc2 := 125) (N2 := 176) (nc2 := 168) (ns2 := 5285) hC hK hz rfl (k_ratio l (r := 165) (sg := 10) (sw := 8) (r165.eqv (fun k x y => ⟨mR_ne (o := 7) (n := 8) (by omega), LoF_ne (by omega), rfl⟩))) ⟨Or.inl wt_238, wt_218, wt_74, wt_219, rfl, by decide +kernel, by decide +kernel, by decide +kernel⟩ rfl ⟨Nat.le_of_ble_eq_true rfl, Nat.le_of_ble_eq_true rfl⟩ rfl rfl rfl ⟨Nat.le_of_ble_eq_true rfl, Nat.le_of_ble_eq_true rfl⟩ rfl (Nat.le_of_ble_eq_true rfl) dX0_init_122 rfl ?_
  rintro F122 A122 ⟨e1122, e2122⟩
  obtain rfl := e1122.symm
  obtain rfl := e2122.symm
  refine xp_ref (pc2 := 128) (ci := 0) (j := 8) hC hK (by decide) (by decide) wt_274 rfl rfl rfl hnm rfl (by decide) h1 (Or.inl ⟨_, rfl⟩) dX0_init_125 rfl ?_
  refine x_toR (R2 := mR R 7 9) (mR_put (n := 8) (congrFun h2 8) (by decide) (fun i h1 h2 => by omega)) ?_
  refine x_aload_n (pc2 := 129) hC rfl rfl dX0_init_128 rfl ?_
  refine x_new (pc2 := 132) (N2 := 177) (nc2 := 169) (ns2 := 5288) (ci := 4) hC hK hz rfl (by decide) rfl wt_237 wt_216 wt_74 r176.1 (fun j _ => by rw [LoF_ne (by decide)]; exact (r176.2.2.1 j).trans (dF0 (by decide)).symm) rfl rfl rfl (Nat.le_of_ble_eq_true rfl) (Nat.le_of_ble_eq_true rfl) dX0_init_129 rfl ?_
  refine x_dupR (pc2 := 133) hC dX0_init_132 rfl ?_
  refine x_aload_n (pc2 := 134) hC rfl rfl dX0_init_133 rfl ?_
  refine x_aload_n (pc2 := 135) hC rfl rfl dX0_init_134 rfl ?_
  refine x_cI (n := 2) (pc2 := 138) (N2 := 187) (nc2 := 179) (ns2 := 5626) hC hK hz rfl (k_ratio l (r := 176) (sg := 10) (sw := 8) (r176.eqv (fun k x y => ⟨mR_ne (o := 7) (n := 9) (by omega), LoF_ne (by omega), rfl⟩))) ⟨Or.inl wt_238, wt_218, wt_74, wt_219, rfl, by decide +kernel, by decide +kernel, by decide +kernel⟩ rfl ⟨Nat.le_of_ble_eq_true rfl, Nat.le_of_ble_eq_true rfl⟩ rfl rfl rfl ⟨Nat.le_of_ble_eq_true rfl, Nat.le_of_ble_eq_true rfl⟩ rfl (Nat.le_of_ble_eq_true rfl) dX0_init_135 rfl ?_
  rintro F135 A135 ⟨e1135, e2135⟩
  obtain rfl := e1135.symm
  obtain rfl := e2135.symm
  refine xp_ref (pc2 := 141) (ci := 0) (j := 9) hC hK (by decide) (by decide) wt_275 rfl rfl rfl hnm rfl (by decide) h1 (Or.inl ⟨_, rfl⟩) dX0_init_138 rfl ?_
  refine x_toR (R2 := mR R 7 10) (mR_put (n := 9) (congrFun h2 9) (by decide) (fun i h1 h2 => by omega)) ?_
  refine x_aload_n (pc2 := 142) hC rfl rfl dX0_init_141 rfl ?_
  refine x_new (pc2 := 145) (N2 := 188) (nc2 := 180) (ns2 := 5629) (ci := 4) hC hK hz rfl (by decide) rfl wt_237 wt_216 wt_74 r187.1 (fun j _ => by rw [LoF_ne (by decide)]; exact (r187.2.2.1 j).trans (dF0 (by decide)).symm) rfl rfl rfl (Nat.le_of_ble_eq_true rfl) (Nat.le_of_ble_eq_true rfl) dX0_init_142 rfl ?_
  refine x_dupR (pc2 := 146) hC dX0_init_145 rfl ?_
  refine x_aload_n (pc2 := 147) hC rfl rfl dX0_init_146 rfl ?_
  refine x_aload_n (pc2 := 148) hC rfl rfl dX0_init_147 rfl ?_
  refine x_cI (n := 2) (pc2 := 151) (N2 := 198) (nc2 := 190) (ns2 := 5967) hC hK hz rfl (k_ratio l (r := 187) (sg := 10) (sw := 8) (r187.eqv (fun k x y => ⟨mR_ne (o := 7) (n := 10) (by omega), LoF_ne (by omega), rfl⟩))) ⟨Or.inl wt_238, wt_218, wt_74, wt_219, rfl, by decide +kernel, by decide +kernel, by decide +kernel⟩ rfl ⟨Nat.le_of_ble_eq_true rfl, Nat.le_of_ble_eq_true rfl⟩ rfl rfl rfl ⟨Nat.le_of_ble_eq_true rfl, Nat.le_of_ble_eq_true rfl⟩ rfl (Nat.le_of_ble_eq_true rfl) dX0_init_148 rfl ?_
  rintro F148 A148 ⟨e1148, e2148⟩
  obtain rfl := e1148.symm
  obtain rfl := e2148.symm
  refine xp_ref (pc2 := 154) (ci := 0) (j := 10) hC hK (by decide) (by decide) wt_276 rfl rfl rfl hnm rfl (by decide) h1 (Or.inl ⟨_, rfl⟩) dX0_init_151 rfl ?_
  refine x_toR (R2 := mR R 7 11) (mR_put (n := 10) (congrFun h2 10) (by decide) (fun i h1 h2 => by omega)) ?_
  refine x_aload_n (pc2 := 155) hC rfl rfl dX0_init_154 rfl ?_
  refine x_bipush (pc2 := 157) hC rfl dX0_init_155 rfl ?_
  refine x_aload_n (pc2 := 158) hC rfl rfl dX0_init_157 rfl ?_
  refine x_cSR (n := 2) (pc2 := 161) (N2 := 259) (nc2 := 251) (ns2 := 8007) hC hK hz rfl (k_row l (a := 198) (n := 12) (sw := 8) (by decide) (h9.eqv (fun k x y => ⟨mR_ne (o := 7) (n := 11) (by omega), LoF_ne (by omega), rfl⟩))) lk_239 rfl ⟨Nat.le_of_ble_eq_true rfl, Nat.le_of_ble_eq_true rfl⟩ rfl rfl rfl ⟨Nat.le_of_ble_eq_true rfl, Nat.le_of_ble_eq_true rfl⟩ rfl (Nat.le_of_ble_eq_true rfl) dX0_init_158 rfl ?_
  rintro F158 A158 ⟨e1158, e2158⟩
  obtain rfl := e1158.symm
  obtain rfl := e2158.symm
  refine xp_ref (pc2 := 164) (ci := 0) (j := 11) hC hK (by decide) (by decide) wt_277 rfl rfl rfl hnm rfl (by decide) h1 (Or.inr ⟨_, rfl⟩) dX0_init_161 rfl ?_
  refine x_toR (R2 := mR R 7 12) (mR_put (n := 11) (congrFun h2 11) (by decide) (fun i h1 h2 => by omega)) ?_
  refine x_aload_n (pc2 := 165) hC rfl rfl dX0_init_164 rfl ?_
  refine x_iconst (pc2 := 166) hC dX0_init_165 rfl ?_
  refine x_aload_n (pc2 := 167) hC rfl rfl dX0_init_166 rfl ?_
  refine x_cSR (n := 2) (pc2 := 170) (N2 := 280) (nc2 := 272) (ns2 := 8687) hC hK hz rfl (k_row l (a := 259) (n := 4) (sw := 8) (by decide) (h10.eqv (fun k x y => ⟨mR_ne (o := 7) (n := 12) (by omega), LoF_ne (by omega), rfl⟩))) lk_239 rfl ⟨Nat.le_of_ble_eq_true rfl, Nat.le_of_ble_eq_true rfl⟩ rfl rfl rfl ⟨Nat.le_of_ble_eq_true rfl, Nat.le_of_ble_eq_true rfl⟩ rfl (Nat.le_of_ble_eq_true rfl) dX0_init_167 rfl ?_
  rintro F167 A167 ⟨e1167, e2167⟩
  obtain rfl := e1167.symm
  obtain rfl := e2167.symm
  refine xp_ref (pc2 := 173) (ci := 0) (j := 12) hC hK (by decide) (by decide) wt_278 rfl rfl rfl hnm rfl (by decide) h1 (Or.inr ⟨_, rfl⟩) dX0_init_170 rfl ?_
  refine x_toR (R2 := mR R 7 13) (mR_put (n := 12) (congrFun h2 12) (by decide) (fun i h1 h2 => by omega)) ?_
  refine x_aload_n (pc2 := 174) hC rfl rfl dX0_init_173 rfl ?_
  refine x_new (pc2 := 177) (N2 := 281) (nc2 := 273) (ns2 := 8690) (ci := 1) hC hK hz rfl (by decide) rfl wt_150 wt_151 wt_72 g280.1 (fun j _ => by rw [LoF_ne (by decide)]; exact (g280.2.2.1 j).trans (dF0 (by decide)).symm) rfl rfl rfl (Nat.le_of_ble_eq_true rfl) (Nat.le_of_ble_eq_true rfl) dX0_init_174 rfl ?_
  refine x_dupR (pc2 := 178) hC dX0_init_177 rfl ?_
  refine x_aload_n (pc2 := 179) hC rfl rfl dX0_init_178 rfl ?_
  refine x_cI (n := 1) (pc2 := 182) (N2 := 285) (nc2 := 277) (ns2 := 8856) hC hK hz rfl (k_gauss l (g := 280) (sp := 8) (g280.eqv (fun k x y => ⟨mR_ne (o := 7) (n := 13) (by omega), LoF_ne (by omega), rfl⟩))) ⟨Or.inl wt_152, wt_153, wt_72, wt_154, rfl, by decide +kernel, by decide +kernel, by decide +kernel⟩ rfl ⟨Nat.le_of_ble_eq_true rfl, Nat.le_of_ble_eq_true rfl⟩ rfl rfl rfl ⟨Nat.le_of_ble_eq_true rfl, Nat.le_of_ble_eq_true rfl⟩ rfl (Nat.le_of_ble_eq_true rfl) dX0_init_179 rfl ?_
  rintro F179 A179 ⟨e1179, e2179⟩
  obtain rfl := e1179.symm
  obtain rfl := e2179.symm
  refine xp_ref (pc2 := 185) (ci := 0) (j := 13) hC hK (by decide) (by decide) wt_279 rfl rfl rfl hnm rfl (by decide) h1 (Or.inl ⟨_, rfl⟩) dX0_init_182 rfl ?_
  refine x_toR (R2 := mR R 7 14) (mR_put (n := 13) (congrFun h2 13) (by decide) (fun i h1 h2 => by omega)) ?_
  refine x_aload_n (pc2 := 186) hC rfl rfl dX0_init_185 rfl ?_
  refine x_new (pc2 := 189) (N2 := 286) (nc2 := 278) (ns2 := 8859) (ci := 1) hC hK hz rfl (by decide) rfl wt_150 wt_151 wt_72 g285.1 (fun j _ => by rw [LoF_ne (by decide)]; exact (g285.2.2.1 j).trans (dF0 (by decide)).symm) rfl rfl rfl (Nat.le_of_ble_eq_true rfl) (Nat.le_of_ble_eq_true rfl) dX0_init_186 rfl ?_
  refine x_dupR (pc2 := 190) hC dX0_init_189 rfl ?_
  refine x_aload_n (pc2 := 191) hC rfl rfl dX0_init_190 rfl ?_
  refine x_cI (n := 1) (pc2 := 194) (N2 := 290) (nc2 := 282) (ns2 := 9025) hC hK hz rfl (k_gauss l (g := 285) (sp := 8) (g285.eqv (fun k x y => ⟨mR_ne (o := 7) (n := 14) (by omega), LoF_ne (by omega), rfl⟩))) ⟨Or.inl wt_152, wt_153, wt_72, wt_154, rfl, by decide +kernel, by decide +kernel, by decide +kernel⟩ rfl ⟨Nat.le_of_ble_eq_true rfl, Nat.le_of_ble_eq_true rfl⟩ rfl rfl rfl ⟨Nat.le_of_ble_eq_true rfl, Nat.le_of_ble_eq_true rfl⟩ rfl (Nat.le_of_ble_eq_true rfl) dX0_init_191 rfl ?_
  rintro F191 A191 ⟨e1191, e2191⟩
  obtain rfl := e1191.symm
  obtain rfl := e2191.symm
  refine xp_ref (pc2 := 197) (ci := 0) (j := 14) hC hK (by decide) (by decide) wt_280 rfl rfl rfl hnm rfl (by decide) h1 (Or.inl ⟨_, rfl⟩) dX0_init_194 rfl ?_
  refine x_toR (R2 := mR R 7 15) (mR_put (n := 14) (congrFun h2 14) (by decide) (fun i h1 h2 => by omega)) ?_
  refine x_aload_n (pc2 := 198) hC rfl rfl dX0_init_197 rfl ?_
  refine x_new (pc2 := 201) (N2 := 291) (nc2 := 283) (ns2 := 9028) (ci := 1) hC hK hz rfl (by decide) rfl wt_150 wt_151 wt_72 g290.1 (fun j _ => by rw [LoF_ne (by decide)]; exact (g290.2.2.1 j).trans (dF0 (by decide)).symm) rfl rfl rfl (Nat.le_of_ble_eq_true rfl) (Nat.le_of_ble_eq_true rfl) dX0_init_198 rfl ?_
  refine x_dupR (pc2 := 202) hC dX0_init_201 rfl ?_
  refine x_aload_n (pc2 := 203) hC rfl rfl dX0_init_202 rfl ?_
  refine x_cI (n := 1) (pc2 := 206) (N2 := 295) (nc2 := 287) (ns2 := 9194) hC hK hz rfl (k_gauss l (g := 290) (sp := 8) (g290.eqv (fun k x y => ⟨mR_ne (o := 7) (n := 15) (by omega), LoF_ne (by omega), rfl⟩))) ⟨Or.inl wt_152, wt_153, wt_72, wt_154, rfl, by decide +kernel, by decide +kernel, by decide +kernel⟩ rfl ⟨Nat.le_of_ble_eq_true rfl, Nat.le_of_ble_eq_true rfl⟩ rfl rfl rfl ⟨Nat.le_of_ble_eq_true rfl, Nat.le_of_ble_eq_true rfl⟩ rfl (Nat.le_of_ble_eq_true rfl) dX0_init_203 rfl ?_
  rintro F203 A203 ⟨e1203, e2203⟩
  obtain rfl := e1203.symm
  obtain rfl := e2203.symm
  refine xp_ref (pc2 := 209) (ci := 0) (j := 15) hC hK (by decide) (by decide) wt_281 rfl rfl rfl hnm rfl (by decide) h1 (Or.inl ⟨_, rfl⟩) dX0_init_206 rfl ?_
  refine x_toR (R2 := mR R 7 16) (mR_put (n := 15) (congrFun h2 15) (by decide) (fun i h1 h2 => by omega)) ?_
  refine x_toR (mR_done (fun j hj => (congrFun h2 j).trans (rwL_none hj))) ?_
  have w8 : isW sh R 295 8 := h4.w (by decide)
  have g10 : isG sh R 295 10 8 := h5.g w8 (by decide)
  have r121t : isRt sh R 295 121 10 8 := r121.r w8 g10 (by decide)
  have r132t : isRt sh R 295 132 10 8 := r132.r w8 g10 (by decide)
  have hst0 : ST sh R 295 (LoF F 15) A (fun _ => 0) := ST0 (fun w hw j => by
    have n15 : w ≠ 15 := fun q => by rw [q, h6.1] at hw; cases hw
    rw [LoF_ne n15]
    exact hw0 w hw j)
  refine x_aload_n (pc2 := 210) hC rfl rfl dX0_init_209 rfl ?_
  refine g_270 (pc2 := 213) hC hK (by decide) h1 (congrFun h2 4) dX0_init_210 rfl ?_
  refine x_iconst (pc2 := 214) hC dX0_init_213 rfl ?_
  refine x_iconst (pc2 := 215) hC dX0_init_214 rfl ?_
  refine x_cVv (pc2 := 218) (ci := 4) hC hK (m_rput l (sg := 10) (sp := 8) (V := (fun _ => 0)) hst0 (r121t) (sp8 h1 s5) (u := 1) (v := 1) (by decide) (by decide)) lk_245 rfl rfl (by decide) (by decide) r121.1 ⟨Nat.le_of_ble_eq_true rfl, Nat.le_of_ble_eq_true rfl⟩ ⟨Nat.le_of_ble_eq_true rfl, Nat.le_of_ble_eq_true rfl⟩ rfl (Nat.le_of_ble_eq_true rfl) dX0_init_215 rfl ?_
  rintro F215 A215 ⟨V215, ⟨hst215, hfr215⟩, vo215, vu215, vk215⟩
  refine x_aload_n (pc2 := 219) hC rfl rfl dX0_init_218 rfl ?_
  refine g_271 (pc2 := 222) hC hK (by decide) h1 (congrFun h2 5) dX0_init_219 rfl ?_
  refine x_iconst (pc2 := 223) hC dX0_init_222 rfl ?_
  refine x_iconst (pc2 := 224) hC dX0_init_223 rfl ?_
  refine x_cVv (pc2 := 227) (ci := 4) hC hK (m_rput l (sg := 10) (sp := 8) (V := V215) hst215 (r132t) (sp8 h1 s5) (u := 1) (v := 4) (by decide) (by decide)) lk_245 rfl rfl (by decide) (by decide) r132.1 ⟨Nat.le_of_ble_eq_true rfl, Nat.le_of_ble_eq_true rfl⟩ ⟨Nat.le_of_ble_eq_true rfl, Nat.le_of_ble_eq_true rfl⟩ rfl (Nat.le_of_ble_eq_true rfl) dX0_init_224 rfl ?_
  rintro F224 A224 ⟨V224, ⟨hst224, hfr224⟩, vo224, vu224, vk224⟩
  have h1 := h1
  refine x_cells (R2 := R) (F2 := fun k => if k < 295 then F224 k else LoF F 15 k) (A2 := fun k => if k < 295 then A224 k else A k) (fun k hk => ((celE_F (if_pos hk)).trans (celE_A (if_pos hk))).symm) ?_
  refine x_vretN hC hr hlk ⟨rfl, ⟨V224, fun w hw => ?_, ⟨?_, ?_⟩, vo224, vu224⟩, fun x hx => ?_, fun a ha => ?_, fun k hk => ⟨(if_neg (by omega)).trans (LoF_ne (by omega)), if_neg (by omega)⟩⟩ dX0_init_227
  · have hw1 := hw.1
    have e1 : (fun k => if k < 295 then F224 k else LoF F 15 k) w = F224 w := if_pos (by omega)
    have e2 : (fun k => if k < 295 then A224 k else A k) (w + 1) = A224 (w + 1) := if_pos hw1
    exact ⟨WOK_of e1 e2 (hst224 w hw).1, (wv_of e1 e2).trans (hst224 w hw).2⟩
  · rw [← vo215]
    exact Prod.ext (vk224 _ (by decide) (by decide) (by decide) (by decide) (by decide) (by decide) (by decide)) (vk224 _ (by decide) (by decide) (by decide) (by decide) (by decide) (by decide) (by decide))
  · rw [← vu215]
    exact Prod.ext (vk224 _ (by decide) (by decide) (by decide) (by decide) (by decide) (by decide) (by decide)) (vk224 _ (by decide) (by decide) (by decide) (by decide) (by decide) (by decide) (by decide))
  · by_cases q : x < 295
    · exact (if_pos q).trans ((hfr224.1 x hx).trans (hfr215.1 x hx))
    · exact if_neg q
  · by_cases q : a < 295
    · exact (if_pos q).trans ((hfr224.2 a ha).trans (hfr215.2 a ha))
    · exact if_neg q
/-- the state of a new bench -/
noncomputable def S00 : SP := (0, fun _ => 0, fun _ _ _ => z3, [], -4, -4)
theorem S00_inv : invS S00 := ⟨⟨by decide, by decide⟩, fun b hb => absurd hb.2 (by have := hb.1; show ¬ b < 0; omega), fun q hq => (nomatch hq), by decide⟩
def PbN (sh : Nat → Nat × Nat) (R : Nat → Nat → Option Nat) (F : Nat → Nat → Int) (A : Nat → Int → Int) : Prop := (sh 0 = (0, 7) ∧ R 0 = rwL [some 1, some 7, some 295]) ∧ SfN sh R F A ∧ AcN sh R F A ∧ JdN sh R F A
theorem rep_new {sh : Nat → Nat × Nat} {R : Nat → Nat → Option Nat} {F : Nat → Nat → Int} {A : Nat → Int → Int} (hb : PbN sh R F A) (hA0 : ∀ a, ∀ j : Int, A a j = 0) (hw0 : ∀ w, sh w = (0, 6) → ∀ j, F w j = 0) (n294 : sh 294 = (1, 80)) {F' : Nat → Nat → Int} {A' : Nat → Int → Int} (h : ActsP sh (mR R 0 1) F A F' A') : RepC sh R 386 S00 (uF (uF F' 0 3 (-4)) 0 4 (-4)) A' := by
  obtain ⟨⟨V, hst, ⟨v1, v2⟩, v3, v4⟩, hF, hA, hk⟩ := h
  obtain ⟨⟨b1, b2⟩, ⟨s1, s2, s3, ⟨s4, s5, s6, s7, s8⟩, s9⟩, hac, hju⟩ := hb
  have a15 : sh 15 = (0, 3) := hac.2.2.2.2.2.2.2.1.1
  have n0 : ∀ k, k ≠ 0 → uF (uF F' 0 3 (-4)) 0 4 (-4) k = F' k := fun k h => by rw [uF_ne h, uF_ne h]
  have e1 : ∀ j, F' 1 j = 0 := fun j => by
    rw [hF 1 (by rw [s1]; decide), LoF_ne (by decide)]
    exact s3 j
  have e15 : F' 15 = LoF F 15 15 := hF 15 (by rw [a15]; decide)
  have zA : ∀ a, sh a ≠ (1, 80) → ∀ j, A' a j = 0 := fun a h j => by rw [hA a h]; exact hA0 a j
  have z2 := zA 2 (by rw [s4]; decide)
  have z4 := zA 4 (by rw [s6]; decide)
  have z6 := zA 6 (by rw [s8]; decide)
  have nb : ∀ b, ¬ isB S00 b := fun b hb => by have h1 := hb.1; have h2 : b < 0 := hb.2; omega
  have l5 : LoF F 15 15 5 = 27 := by unfold LoF; rw [uF_nj (by decide), uF_eq]; rfl
  have l6 : LoF F 15 15 6 = 29 := by unfold LoF; rw [uF_eq]; rfl
  have l7 : LoF F 15 15 7 = 0 := by
    unfold LoF
    rw [uF_nj (by decide), uF_nj (by decide), hac.2.2.2.2.2.2.2.1.2.2.1]
    decide
  refine ⟨⟨rg (fun w => wv (uF (uF F' 0 3 (-4)) 0 4 (-4)) A' w), ?_, ?_, fun w => wv (uF (uF F' 0 3 (-4)) 0 4 (-4)) A' w, fun w hw => ⟨?_, rfl⟩, fun r hr => rfl, ⟨27, 29, Or.inl ⟨rfl, rfl⟩, ?_, ?_⟩, Or.inl ?_, FRa.rf, DrL.nil⟩, S00_inv, ⟨?_, ?_, ?_, fun b hb => absurd hb (nb b), fun b b0 b1 => ?_, fun k k0 k1 => ?_⟩, ⟨fun b t e hb => absurd hb (nb b), fun k k0 k1 => z2 k⟩, fun i q hq => ?_, ?_, ?_⟩
  · have key : ∀ w, isW sh (mR R 0 1) 295 w → wv (uF (uF F' 0 3 (-4)) 0 4 (-4)) A' w = V w := fun w hw => (wv_of (n0 w (fun q => by have h0 := hw.2.1; rw [q, b1] at h0; exact absurd h0 (by decide))) rfl).trans (hst w hw).2
    have gg : ∀ g, isG sh (mR R 0 1) 295 g 8 → cx (fun w => wv (uF (uF F' 0 3 (-4)) 0 4 (-4)) A' w) g = cx V g := fun g hg => Prod.ext (key _ hg.2.2.2.2.2.1) (key _ hg.2.2.2.2.2.2.1)
    have hac2 : AcN sh (mR R 0 1) F A := hac.eqv (Eqv.m (by omega))
    obtain ⟨h1, h2, h3, q1, q2, h4, h5, h6, ⟨h7, h8⟩, ⟨r121, r132, r143, r154, r165, r176, r187⟩, ⟨h9, h10⟩, g280, g285, g290⟩ := hac2
    have w8 : isW sh (mR R 0 1) 295 8 := h4.w (by decide)
    have x1 := gg 122 (r121.2.2.2.1.g w8 (by decide))
    have x2 := gg 127 (r121.2.2.2.2.g w8 (by decide))
    show (cx _ 122, cx _ 127) = oneq
    rw [x1, x2, v1, v2]
    rfl
  · have key : ∀ w, isW sh (mR R 0 1) 295 w → wv (uF (uF F' 0 3 (-4)) 0 4 (-4)) A' w = V w := fun w hw => (wv_of (n0 w (fun q => by have h0 := hw.2.1; rw [q, b1] at h0; exact absurd h0 (by decide))) rfl).trans (hst w hw).2
    have gg : ∀ g, isG sh (mR R 0 1) 295 g 8 → cx (fun w => wv (uF (uF F' 0 3 (-4)) 0 4 (-4)) A' w) g = cx V g := fun g hg => Prod.ext (key _ hg.2.2.2.2.2.1) (key _ hg.2.2.2.2.2.2.1)
    have hac2 : AcN sh (mR R 0 1) F A := hac.eqv (Eqv.m (by omega))
    obtain ⟨h1, h2, h3, q1, q2, h4, h5, h6, ⟨h7, h8⟩, ⟨r121, r132, r143, r154, r165, r176, r187⟩, ⟨h9, h10⟩, g280, g285, g290⟩ := hac2
    have w8 : isW sh (mR R 0 1) 295 8 := h4.w (by decide)
    have x1 := gg 133 (r132.2.2.2.1.g w8 (by decide))
    have x2 := gg 138 (r132.2.2.2.2.g w8 (by decide))
    show (cx _ 133, cx _ 138) = quartq
    rw [x1, x2, v3, v4]
    rfl
  · have w0 : w ≠ 0 := fun q => by have h0 := hw.2.1; rw [q, b1] at h0; exact absurd h0 (by decide)
    by_cases q : w + 1 < 295
    · exact WOK_of (n0 w w0) rfl (hst w ⟨q, hw.2.1, hw.2.2.1, by rw [mR_ne w0]; exact hw.2.2.2⟩).1
    · have q2 : 295 ≤ w := by
        by_cases q3 : w = 294
        · have h0 := hw.2.1
          rw [q3, n294] at h0
          exact absurd h0 (by decide)
        · omega
      have z0 : ∀ j, uF (uF F' 0 3 (-4)) 0 4 (-4) w j = 0 := fun j => by rw [n0 w w0, (hk w q2).1]; exact hw0 w hw.2.1 j
      have y0 := z0 0
      have y1 := z0 1
      exact ⟨by omega, by omega, fun k a b => by omega, fun h => by omega, Or.inl ⟨y1, y0⟩⟩
  · rw [n0 15 (by decide), e15]; exact l5
  · rw [n0 15 (by decide), e15]; exact l6
  · rw [n0 15 (by decide), e15]; exact l7
  · rw [n0 1 (by decide)]; exact e1 6
  · rw [n0 1 (by decide), e1 5]; exact ⟨by decide, by decide⟩
  · rw [n0 1 (by decide)]; exact e1 7
  · rw [z4]; exact ⟨by decide, by decide⟩
  · rw [z6]; exact ⟨by decide, by decide⟩
  · exact nomatch hq
  · rw [uF_nj (by decide), uF_eq]; rfl
  · rw [uF_eq]; rfl
theorem dX7_init_0 : decode cX7_init 0 = .ok (.aload_n 0, 1) := by decide +kernel
theorem dX7_init_1 : decode cX7_init 1 = .ok (.invokespecial 3, 3) := by decide +kernel
theorem dX7_init_4 : decode cX7_init 4 = .ok (.aload_n 0, 1) := by decide +kernel
theorem dX7_init_5 : decode cX7_init 5 = .ok (.new 9, 3) := by decide +kernel
theorem dX7_init_8 : decode cX7_init 8 = .ok (.dup, 1) := by decide +kernel
theorem dX7_init_9 : decode cX7_init 9 = .ok (.invokespecial 11, 3) := by decide +kernel
theorem dX7_init_12 : decode cX7_init 12 = .ok (.putfield 12, 3) := by decide +kernel
theorem dX7_init_15 : decode cX7_init 15 = .ok (.aload_n 0, 1) := by decide +kernel
theorem dX7_init_16 : decode cX7_init 16 = .ok (.new 16, 3) := by decide +kernel
theorem dX7_init_19 : decode cX7_init 19 = .ok (.dup, 1) := by decide +kernel
theorem dX7_init_20 : decode cX7_init 20 = .ok (.aload_n 0, 1) := by decide +kernel
theorem dX7_init_21 : decode cX7_init 21 = .ok (.getfield 12, 3) := by decide +kernel
theorem dX7_init_24 : decode cX7_init 24 = .ok (.invokespecial 18, 3) := by decide +kernel
theorem dX7_init_27 : decode cX7_init 27 = .ok (.putfield 21, 3) := by decide +kernel
theorem dX7_init_30 : decode cX7_init 30 = .ok (.aload_n 0, 1) := by decide +kernel
theorem dX7_init_31 : decode cX7_init 31 = .ok (.new 25, 3) := by decide +kernel
theorem dX7_init_34 : decode cX7_init 34 = .ok (.dup, 1) := by decide +kernel
theorem dX7_init_35 : decode cX7_init 35 = .ok (.invokespecial 27, 3) := by decide +kernel
theorem dX7_init_38 : decode cX7_init 38 = .ok (.putfield 28, 3) := by decide +kernel
theorem dX7_init_41 : decode cX7_init 41 = .ok (.aload_n 0, 1) := by decide +kernel
theorem dX7_init_42 : decode cX7_init 42 = .ok (.bipush (-4), 2) := by decide +kernel
theorem dX7_init_44 : decode cX7_init 44 = .ok (.putfield 32, 3) := by decide +kernel
theorem dX7_init_47 : decode cX7_init 47 = .ok (.aload_n 0, 1) := by decide +kernel
theorem dX7_init_48 : decode cX7_init 48 = .ok (.bipush (-4), 2) := by decide +kernel
theorem dX7_init_50 : decode cX7_init 50 = .ok (.putfield 36, 3) := by decide +kernel
theorem dX7_init_53 : decode cX7_init 53 = .ok (.return_, 1) := by decide +kernel
set_option maxHeartbeats 16000000 in
theorem k_bench (l : Launch) {D : va_G} {ids : Nat → ClassId} {β : Nat} {sh : Nat → Nat × Nat} {R : Nat → Nat → Option Nat} {F : Nat → Nat → Int} {A : Nat → Int → Int} (hb : PbN sh R F A) (hA0 : ∀ a, ∀ j : Int, A a j = 0) (hw0 : ∀ w, sh w = (0, 6) → ∀ j, F w j = 0) (n294 : sh 294 = (1, 80)) : MetN l yX7_init cX7_init 1 none 6 129 385 17059 D ids β sh 1 386 (mR R 0 0) R F A [rf 0] (pVr (RepC sh R 386 S00)) := by
  refine MetN.of (loc := [_]) (plainFor_of_name (by decide +kernel)) (Nat.le_of_ble_eq_true rfl) rfl ?_
  intro p e s m args below meth c hC hK hr hlk hnm hz
  obtain ⟨⟨b1, b2⟩, b3, b4, b5⟩ := id hb
  refine x_aload_n (pc2 := 1) hC rfl rfl dX7_init_0 rfl ?_
  refine x_objInit (pc2 := 4) hC wt_84 (Nat.le_of_ble_eq_true rfl) (Nat.le_of_ble_eq_true rfl) (Nat.le_of_ble_eq_true rfl) dX7_init_1 rfl ?_
  refine x_aload_n (pc2 := 5) hC rfl rfl dX7_init_4 rfl ?_
  refine x_new (pc2 := 8) (N2 := 2) (nc2 := 1) (ns2 := 8) (ci := 5) hC hK hz rfl (by decide) rfl wt_87 wt_88 wt_69 b3.1 (fun j _ => (b3.2.2.1 j).trans (dF0 (by decide)).symm) rfl rfl rfl (Nat.le_of_ble_eq_true rfl) (Nat.le_of_ble_eq_true rfl) dX7_init_5 rfl ?_
  refine x_dupR (pc2 := 9) hC dX7_init_8 rfl ?_
  refine x_cI (n := 0) (pc2 := 12) (N2 := 7) (nc2 := 6) (ns2 := 4792) hC hK hz rfl (k_shelf l (b3.eqv (Eqv.m (o := 0) (n := 0) (by omega)))) ⟨Or.inr (fun U h => h.1), wt_90, wt_69, wt_91, rfl, by decide +kernel, by decide +kernel, by decide +kernel⟩ rfl ⟨Nat.le_of_ble_eq_true rfl, Nat.le_of_ble_eq_true rfl⟩ rfl rfl rfl ⟨Nat.le_of_ble_eq_true rfl, Nat.le_of_ble_eq_true rfl⟩ rfl (Nat.le_of_ble_eq_true rfl) dX7_init_9 rfl ?_
  rintro F9 A9 ⟨e19, e29⟩
  obtain rfl := e19.symm
  obtain rfl := e29.symm
  refine xp_ref (pc2 := 15) (ci := 7) (j := 0) hC hK (by decide) (by decide) wt_369 rfl rfl rfl hnm rfl (by decide) b1 (Or.inl ⟨_, rfl⟩) dX7_init_12 rfl ?_
  refine x_toR (R2 := mR R 0 1) (mR_put (n := 0) (congrFun b2 0) (by decide) (fun i h1 h2 => by omega)) ?_
  refine x_aload_n (pc2 := 16) hC rfl rfl dX7_init_15 rfl ?_
  refine x_new (pc2 := 19) (N2 := 8) (nc2 := 7) (ns2 := 4808) (ci := 0) hC hK hz rfl (by decide) rfl wt_124 wt_125 wt_70 b4.1 (fun j _ => (b4.2.2.1 j).trans (dF0 (by decide)).symm) rfl rfl rfl (Nat.le_of_ble_eq_true rfl) (Nat.le_of_ble_eq_true rfl) dX7_init_16 rfl ?_
  refine x_dupR (pc2 := 20) hC dX7_init_19 rfl ?_
  refine x_aload_n (pc2 := 21) hC rfl rfl dX7_init_20 rfl ?_
  refine g_369 (pc2 := 24) hC hK (by decide) b1 (show mR R 0 1 0 0 = some 1 from congrFun b2 0) dX7_init_21 rfl ?_
  refine x_cI (n := 1) (pc2 := 27) (N2 := 295) (nc2 := 294) (ns2 := 14002) hC hK hz rfl (k_acts l (b4.eqv (Eqv.m (o := 0) (n := 1) (by omega))) hw0 b3.2.2.2.1.2.2.2.1) ⟨Or.inl wt_126, wt_127, wt_70, wt_128, rfl, by decide +kernel, by decide +kernel, by decide +kernel⟩ rfl ⟨Nat.le_of_ble_eq_true rfl, Nat.le_of_ble_eq_true rfl⟩ rfl rfl rfl ⟨Nat.le_of_ble_eq_true rfl, Nat.le_of_ble_eq_true rfl⟩ rfl (Nat.le_of_ble_eq_true rfl) dX7_init_24 rfl ?_
  rintro F24 A24 hp24
  refine xp_ref (pc2 := 30) (ci := 7) (j := 1) hC hK (by decide) (by decide) wt_370 rfl rfl rfl hnm rfl (by decide) b1 (Or.inl ⟨_, rfl⟩) dX7_init_27 rfl ?_
  refine x_toR (R2 := mR R 0 2) (mR_put (n := 1) (congrFun b2 1) (by decide) (fun i h1 h2 => by omega)) ?_
  refine x_aload_n (pc2 := 31) hC rfl rfl dX7_init_30 rfl ?_
  refine x_new (pc2 := 34) (N2 := 296) (nc2 := 295) (ns2 := 14016) (ci := 2) hC hK hz rfl (by decide) rfl wt_315 wt_316 wt_75 b5.1 (fun j _ => by rw [(hp24.2.2.2 295 (by decide)).1]; exact (b5.2.2.1 j).trans (dF0 (by decide)).symm) rfl rfl rfl (Nat.le_of_ble_eq_true rfl) (Nat.le_of_ble_eq_true rfl) dX7_init_31 rfl ?_
  refine x_dupR (pc2 := 35) hC dX7_init_34 rfl ?_
  refine x_cI (n := 0) (pc2 := 38) (N2 := 386) (nc2 := 385) (ns2 := 17059) hC hK hz rfl (k_judge l (b5.eqv (fun k x y => ⟨mR_ne (o := 0) (n := 2) (by omega), (hp24.2.2.2 k x).1, (hp24.2.2.2 k x).2⟩))) ⟨Or.inl wt_317, wt_318, wt_75, wt_319, rfl, by decide +kernel, by decide +kernel, by decide +kernel⟩ rfl ⟨Nat.le_of_ble_eq_true rfl, Nat.le_of_ble_eq_true rfl⟩ rfl rfl rfl ⟨Nat.le_of_ble_eq_true rfl, Nat.le_of_ble_eq_true rfl⟩ rfl (Nat.le_of_ble_eq_true rfl) dX7_init_35 rfl ?_
  rintro F35 A35 ⟨e135, e235⟩
  obtain rfl := e135.symm
  obtain rfl := e235.symm
  refine xp_ref (pc2 := 41) (ci := 7) (j := 2) hC hK (by decide) (by decide) wt_371 rfl rfl rfl hnm rfl (by decide) b1 (Or.inl ⟨_, rfl⟩) dX7_init_38 rfl ?_
  refine x_toR (R2 := mR R 0 3) (mR_put (n := 2) (congrFun b2 2) (by decide) (fun i h1 h2 => by omega)) ?_
  refine x_aload_n (pc2 := 42) hC rfl rfl dX7_init_41 rfl ?_
  refine x_bipush (pc2 := 44) hC rfl dX7_init_42 rfl ?_
  refine p_372 (pc2 := 47) hC hK (by decide) b1 dX7_init_44 rfl ?_
  refine x_aload_n (pc2 := 48) hC rfl rfl dX7_init_47 rfl ?_
  refine x_bipush (pc2 := 50) hC rfl dX7_init_48 rfl ?_
  refine p_373 (pc2 := 53) hC hK (by decide) b1 dX7_init_50 rfl ?_
  refine x_toR (mR_done (fun j hj => (congrFun b2 j).trans (rwL_none hj))) ?_
  exact x_vretN hC hr hlk ⟨rfl, rep_new hb hA0 hw0 n294 hp24⟩ dX7_init_53
