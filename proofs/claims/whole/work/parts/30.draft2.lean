theorem dX7_place_0 : decode cX7_place 0 = .ok (.iload_n 0, 1) := by decide +kernel
theorem dX7_place_1 : decode cX7_place 1 = .ok (.sipush 144, 3) := by decide +kernel
theorem dX7_place_4 : decode cX7_place 4 = .ok (.imul, 1) := by decide +kernel
theorem dX7_place_5 : decode cX7_place 5 = .ok (.iload_n 1, 1) := by decide +kernel
theorem dX7_place_6 : decode cX7_place 6 = .ok (.bipush 36, 2) := by decide +kernel
theorem dX7_place_8 : decode cX7_place 8 = .ok (.imul, 1) := by decide +kernel
theorem dX7_place_9 : decode cX7_place 9 = .ok (.iadd, 1) := by decide +kernel
theorem dX7_place_10 : decode cX7_place 10 = .ok (.iload_n 2, 1) := by decide +kernel
theorem dX7_place_11 : decode cX7_place 11 = .ok (.bipush 9, 2) := by decide +kernel
theorem dX7_place_13 : decode cX7_place 13 = .ok (.imul, 1) := by decide +kernel
theorem dX7_place_14 : decode cX7_place 14 = .ok (.iadd, 1) := by decide +kernel
theorem dX7_place_15 : decode cX7_place 15 = .ok (.ireturn, 1) := by decide +kernel
set_option maxHeartbeats 4000000 in
theorem m_place (l : Launch) {D : va_G} {ids : Nat → ClassId} {β : Nat} {sh : Nat → Nat × Nat} {N : Nat} {R : Nat → Nat → Option Nat} {F : Nat → Nat → Int} {A : Nat → Int → Int} {x y z : Int} : MetX l yX7_place cX7_place 3 (some (.int)) 0 0 D ids β sh N R F A [pI x, pI y, pI z] (pIr (sameI F A (x * 144 + y * 36 + z * 9))) := by
  refine MetX.of (loc := [_, _, _]) (plainFor_of_name (by decide +kernel)) (Nat.le_of_ble_eq_true rfl) rfl ?_
  intro p e s m args below meth c hC hK hr hlk
  refine x_iload_n (pc2 := 1) hC rfl rfl dX7_place_0 rfl ?_
  refine x_sipush (pc2 := 4) hC rfl dX7_place_1 rfl ?_
  refine x_imul (pc2 := 5) hC dX7_place_4 rfl ?_
  refine x_iload_n (pc2 := 6) hC rfl rfl dX7_place_5 rfl ?_
  refine x_bipush (pc2 := 8) hC rfl dX7_place_6 rfl ?_
  refine x_imul (pc2 := 9) hC dX7_place_8 rfl ?_
  refine x_iadd (pc2 := 10) hC dX7_place_9 rfl ?_
  refine x_iload_n (pc2 := 11) hC rfl rfl dX7_place_10 rfl ?_
  refine x_bipush (pc2 := 13) hC rfl dX7_place_11 rfl ?_
  refine x_imul (pc2 := 14) hC dX7_place_13 rfl ?_
  refine x_iadd (pc2 := 15) hC dX7_place_14 rfl ?_
  exact x_iret hC hr hlk ⟨_, rfl, rfl, rfl, rfl⟩ dX7_place_15
theorem dX7_entry_0 : decode cX7_entry 0 = .ok (.iconst 2, 1) := by decide +kernel
theorem dX7_entry_1 : decode cX7_entry 1 = .ok (.iload_n 0, 1) := by decide +kernel
theorem dX7_entry_2 : decode cX7_entry 2 = .ok (.imul, 1) := by decide +kernel
theorem dX7_entry_3 : decode cX7_entry 3 = .ok (.iload_n 1, 1) := by decide +kernel
theorem dX7_entry_4 : decode cX7_entry 4 = .ok (.iadd, 1) := by decide +kernel
theorem dX7_entry_5 : decode cX7_entry 5 = .ok (.ireturn, 1) := by decide +kernel
set_option maxHeartbeats 4000000 in
theorem m_entry (l : Launch) {D : va_G} {ids : Nat → ClassId} {β : Nat} {sh : Nat → Nat × Nat} {N : Nat} {R : Nat → Nat → Option Nat} {F : Nat → Nat → Int} {A : Nat → Int → Int} {x y : Int} : MetX l yX7_entry cX7_entry 2 (some (.int)) 0 0 D ids β sh N R F A [pI x, pI y] (pIr (sameI F A (2 * x + y))) := by
  refine MetX.of (loc := [_, _]) (plainFor_of_name (by decide +kernel)) (Nat.le_of_ble_eq_true rfl) rfl ?_
  intro p e s m args below meth c hC hK hr hlk
  refine x_iconst (pc2 := 1) hC dX7_entry_0 rfl ?_
  refine x_iload_n (pc2 := 2) hC rfl rfl dX7_entry_1 rfl ?_
  refine x_imul (pc2 := 3) hC dX7_entry_2 rfl ?_
  refine x_iload_n (pc2 := 4) hC rfl rfl dX7_entry_3 rfl ?_
  refine x_iadd (pc2 := 5) hC dX7_entry_4 rfl ?_
  exact x_iret hC hr hlk ⟨_, rfl, rfl, rfl, rfl⟩ dX7_entry_5
theorem mul_sign {F : Nat → Nat → Int} {A : Nat → Int → Int} {w : Nat} {s : Int} (h : WOK F A w) (hs : s = 1 ∨ s = -1) : Q_set F A w (s * wv F A w) (uF F w 0 (F w 0 * s)) A := by
  have e0 : uF F w 0 (F w 0 * s) w 0 = F w 0 * s := uF_eq
  have e1 : uF F w 0 (F w 0 * s) w 1 = F w 1 := uF_nj (by decide)
  obtain ⟨s1, s2, s3, s4, s5⟩ := h
  refine ⟨fun o ho => uF_ne ho, fun _ _ => rfl, ?_, ?_⟩
  · unfold WOK
    rw [e0, e1]
    refine ⟨s1, s2, s3, s4, ?_⟩
    rcases hs with rfl | rfl <;> omega
  · unfold wv wm
    rw [e0, e1, Int.mul_comm (F w 0) s, Int.mul_assoc]
theorem pos_sign {F : Nat → Nat → Int} {A : Nat → Int → Int} {w : Nat} {s : Int} (h : WOK F A w) (hs : s = F w 0) (h0 : s ≠ 0) : Q_set F A w (s * wv F A w) (uF F w 0 (s * s)) A := by
  have hs2 : s = 1 ∨ s = -1 := by have := h.2.2.2.2; omega
  have := mul_sign h hs2
  rwa [← hs] at this
theorem sign_val {F : Nat → Nat → Int} {A : Nat → Int → Int} {w : Nat} (h : WOK F A w) : (F w 0 = 0 ↔ wv F A w = 0) ∧ (wv F A w ≠ 0 → (F w 0 = 1 ∨ F w 0 = -1) ∧ 0 < F w 0 * wv F A w) := by
  have := wv_pos_iff h
  refine ⟨by omega, fun q => ?_⟩
  rcases this with ⟨a, b⟩ | ⟨a, b⟩ | ⟨a, b⟩
  · rw [a]; omega
  · exact absurd b q
  · rw [a]; omega
theorem cj_real {X Y : CI} {s : Int} (h : Y.2 = 0) : cmul (s * X.1, s * X.2) Y = (X.1 * (s * Y.1), X.2 * (s * Y.1)) := by
  unfold cmul; rw [h]; refine Prod.ext ?_ ?_
  · show s * X.1 * Y.1 - s * X.2 * 0 = X.1 * (s * Y.1); grind
  · show s * X.2 * Y.1 + s * X.1 * 0 = X.2 * (s * Y.1); grind
theorem cj_mul {X Y : CI} : cmul (X.1 * Y.1 - -1 * (X.2 * Y.2), X.2 * Y.1 + -1 * (X.1 * Y.2)) Y = (X.1 * (Y.1 * Y.1 + Y.2 * Y.2), X.2 * (Y.1 * Y.1 + Y.2 * Y.2)) := by
  unfold cmul; refine Prod.ext ?_ ?_
  · show (X.1 * Y.1 - -1 * (X.2 * Y.2)) * Y.1 - (X.2 * Y.1 + -1 * (X.1 * Y.2)) * Y.2 = _; grind
  · show (X.2 * Y.1 + -1 * (X.1 * Y.2)) * Y.1 + (X.1 * Y.1 - -1 * (X.2 * Y.2)) * Y.2 = _; grind
theorem part_val {t p : Int} {g : Nat} (h : t = p * g) (hp : p.natAbs = t.natAbs / g) (g0 : 0 < g) : t.sign * ((t.natAbs : Int) / (g : Int)) = p ∧ ((t.natAbs : Int) / (g : Int)) = p.natAbs := by
  have e : ((t.natAbs : Int) / (g : Int)) = p.natAbs := by rw [hp]; rfl
  refine ⟨?_, e⟩
  rw [e, h, Int.sign_mul, Int.sign_eq_one_of_pos (show (0 : Int) < (g : Int) by omega), Int.mul_one, Int.sign_mul_natAbs]
theorem sq_pos {y z : Int} (h : z ≠ 0) : 0 < y * y + z * z := by
  have a : 0 ≤ y * y := by rcases Int.lt_or_le y 0 with q | q; exact Int.le_of_lt (Int.mul_pos_of_neg_of_neg q q); exact Int.mul_nonneg q q
  have b : 0 < z * z := by rcases Int.lt_or_lt_of_ne h with q | q; exact Int.mul_pos_of_neg_of_neg q q; exact Int.mul_pos q q
  omega
theorem dX3_draft_0 : decode cX3_draft 0 = .ok (.aload_n 2, 1) := by decide +kernel
theorem dX3_draft_1 : decode cX3_draft 1 = .ok (.getfield 43, 3) := by decide +kernel
theorem dX3_draft_4 : decode cX3_draft 4 = .ok (.getfield 46, 3) := by decide +kernel
theorem dX3_draft_7 : decode cX3_draft 7 = .ok (.ifCond .ne 80, 3) := by decide +kernel
theorem dX3_draft_10 : decode cX3_draft 10 = .ok (.aload_n 0, 1) := by decide +kernel
theorem dX3_draft_11 : decode cX3_draft 11 = .ok (.getfield 20, 3) := by decide +kernel
theorem dX3_draft_14 : decode cX3_draft 14 = .ok (.aload_n 1, 1) := by decide +kernel
theorem dX3_draft_15 : decode cX3_draft 15 = .ok (.invokevirtual 50, 3) := by decide +kernel
theorem dX3_draft_18 : decode cX3_draft 18 = .ok (.aload_n 0, 1) := by decide +kernel
theorem dX3_draft_19 : decode cX3_draft 19 = .ok (.getfield 27, 3) := by decide +kernel
theorem dX3_draft_22 : decode cX3_draft 22 = .ok (.aload_n 2, 1) := by decide +kernel
theorem dX3_draft_23 : decode cX3_draft 23 = .ok (.getfield 54, 3) := by decide +kernel
theorem dX3_draft_26 : decode cX3_draft 26 = .ok (.invokevirtual 57, 3) := by decide +kernel
theorem dX3_draft_29 : decode cX3_draft 29 = .ok (.aload_n 0, 1) := by decide +kernel
theorem dX3_draft_30 : decode cX3_draft 30 = .ok (.getfield 27, 3) := by decide +kernel
theorem dX3_draft_33 : decode cX3_draft 33 = .ok (.getfield 46, 3) := by decide +kernel
theorem dX3_draft_36 : decode cX3_draft 36 = .ok (.istore 5, 2) := by decide +kernel
theorem dX3_draft_38 : decode cX3_draft 38 = .ok (.aload_n 0, 1) := by decide +kernel
theorem dX3_draft_39 : decode cX3_draft 39 = .ok (.getfield 20, 3) := by decide +kernel
theorem dX3_draft_42 : decode cX3_draft 42 = .ok (.getfield 54, 3) := by decide +kernel
theorem dX3_draft_45 : decode cX3_draft 45 = .ok (.dup, 1) := by decide +kernel
theorem dX3_draft_46 : decode cX3_draft 46 = .ok (.getfield 46, 3) := by decide +kernel
theorem dX3_draft_49 : decode cX3_draft 49 = .ok (.iload 5, 2) := by decide +kernel
theorem dX3_draft_51 : decode cX3_draft 51 = .ok (.imul, 1) := by decide +kernel
theorem dX3_draft_52 : decode cX3_draft 52 = .ok (.putfield 46, 3) := by decide +kernel
theorem dX3_draft_55 : decode cX3_draft 55 = .ok (.aload_n 0, 1) := by decide +kernel
theorem dX3_draft_56 : decode cX3_draft 56 = .ok (.getfield 20, 3) := by decide +kernel
theorem dX3_draft_59 : decode cX3_draft 59 = .ok (.getfield 43, 3) := by decide +kernel
theorem dX3_draft_62 : decode cX3_draft 62 = .ok (.dup, 1) := by decide +kernel
theorem dX3_draft_63 : decode cX3_draft 63 = .ok (.getfield 46, 3) := by decide +kernel
theorem dX3_draft_66 : decode cX3_draft 66 = .ok (.iload 5, 2) := by decide +kernel
theorem dX3_draft_68 : decode cX3_draft 68 = .ok (.imul, 1) := by decide +kernel
theorem dX3_draft_69 : decode cX3_draft 69 = .ok (.putfield 46, 3) := by decide +kernel
theorem dX3_draft_72 : decode cX3_draft 72 = .ok (.aload_n 0, 1) := by decide +kernel
theorem dX3_draft_73 : decode cX3_draft 73 = .ok (.getfield 27, 3) := by decide +kernel
theorem dX3_draft_76 : decode cX3_draft 76 = .ok (.iload 5, 2) := by decide +kernel
theorem dX3_draft_78 : decode cX3_draft 78 = .ok (.iload 5, 2) := by decide +kernel
theorem dX3_draft_80 : decode cX3_draft 80 = .ok (.imul, 1) := by decide +kernel
theorem dX3_draft_81 : decode cX3_draft 81 = .ok (.putfield 46, 3) := by decide +kernel
theorem dX3_draft_84 : decode cX3_draft 84 = .ok (.goto 21, 3) := by decide +kernel
theorem dX3_draft_87 : decode cX3_draft 87 = .ok (.aload_n 0, 1) := by decide +kernel
theorem dX3_draft_88 : decode cX3_draft 88 = .ok (.getfield 20, 3) := by decide +kernel
theorem dX3_draft_91 : decode cX3_draft 91 = .ok (.aload_n 1, 1) := by decide +kernel
theorem dX3_draft_92 : decode cX3_draft 92 = .ok (.aload_n 2, 1) := by decide +kernel
theorem dX3_draft_93 : decode cX3_draft 93 = .ok (.iconst (-1), 1) := by decide +kernel
theorem dX3_draft_94 : decode cX3_draft 94 = .ok (.invokevirtual 59, 3) := by decide +kernel
theorem dX3_draft_97 : decode cX3_draft 97 = .ok (.aload_n 2, 1) := by decide +kernel
theorem dX3_draft_98 : decode cX3_draft 98 = .ok (.aload_n 0, 1) := by decide +kernel
theorem dX3_draft_99 : decode cX3_draft 99 = .ok (.getfield 27, 3) := by decide +kernel
theorem dX3_draft_102 : decode cX3_draft 102 = .ok (.invokevirtual 63, 3) := by decide +kernel
theorem dX3_draft_105 : decode cX3_draft 105 = .ok (.aload_n 0, 1) := by decide +kernel
theorem dX3_draft_106 : decode cX3_draft 106 = .ok (.getfield 27, 3) := by decide +kernel
theorem dX3_draft_109 : decode cX3_draft 109 = .ok (.getfield 66, 3) := by decide +kernel
theorem dX3_draft_112 : decode cX3_draft 112 = .ok (.iconst 3, 1) := by decide +kernel
theorem dX3_draft_113 : decode cX3_draft 113 = .ok (.isub, 1) := by decide +kernel
theorem dX3_draft_114 : decode cX3_draft 114 = .ok (.istore 5, 2) := by decide +kernel
theorem dX3_draft_116 : decode cX3_draft 116 = .ok (.iconst 0, 1) := by decide +kernel
theorem dX3_draft_117 : decode cX3_draft 117 = .ok (.iload_n 3, 1) := by decide +kernel
theorem dX3_draft_118 : decode cX3_draft 118 = .ok (.iload 4, 2) := by decide +kernel
theorem dX3_draft_120 : decode cX3_draft 120 = .ok (.invokestatic 69, 3) := by decide +kernel
theorem dX3_draft_123 : decode cX3_draft 123 = .ok (.istore 6, 2) := by decide +kernel
theorem dX3_draft_125 : decode cX3_draft 125 = .ok (.aload_n 0, 1) := by decide +kernel
theorem dX3_draft_126 : decode cX3_draft 126 = .ok (.getfield 37, 3) := by decide +kernel
theorem dX3_draft_129 : decode cX3_draft 129 = .ok (.aload_n 0, 1) := by decide +kernel
theorem dX3_draft_130 : decode cX3_draft 130 = .ok (.getfield 27, 3) := by decide +kernel
theorem dX3_draft_133 : decode cX3_draft 133 = .ok (.invokevirtual 57, 3) := by decide +kernel
theorem dX3_draft_136 : decode cX3_draft 136 = .ok (.aload_n 0, 1) := by decide +kernel
theorem dX3_draft_137 : decode cX3_draft 137 = .ok (.aload_n 0, 1) := by decide +kernel
theorem dX3_draft_138 : decode cX3_draft 138 = .ok (.getfield 20, 3) := by decide +kernel
theorem dX3_draft_141 : decode cX3_draft 141 = .ok (.getfield 54, 3) := by decide +kernel
theorem dX3_draft_144 : decode cX3_draft 144 = .ok (.iload 5, 2) := by decide +kernel
theorem dX3_draft_146 : decode cX3_draft 146 = .ok (.invokevirtual 73, 3) := by decide +kernel
theorem dX3_draft_149 : decode cX3_draft 149 = .ok (.ifCond .eq 73, 3) := by decide +kernel
theorem dX3_draft_152 : decode cX3_draft 152 = .ok (.aload_n 0, 1) := by decide +kernel
theorem dX3_draft_153 : decode cX3_draft 153 = .ok (.aload_n 0, 1) := by decide +kernel
theorem dX3_draft_154 : decode cX3_draft 154 = .ok (.getfield 20, 3) := by decide +kernel
theorem dX3_draft_157 : decode cX3_draft 157 = .ok (.getfield 43, 3) := by decide +kernel
theorem dX3_draft_160 : decode cX3_draft 160 = .ok (.iload 5, 2) := by decide +kernel
theorem dX3_draft_162 : decode cX3_draft 162 = .ok (.invokevirtual 73, 3) := by decide +kernel
theorem dX3_draft_165 : decode cX3_draft 165 = .ok (.ifCond .eq 57, 3) := by decide +kernel
theorem dX3_draft_168 : decode cX3_draft 168 = .ok (.aload_n 0, 1) := by decide +kernel
theorem dX3_draft_169 : decode cX3_draft 169 = .ok (.aload_n 0, 1) := by decide +kernel
theorem dX3_draft_170 : decode cX3_draft 170 = .ok (.getfield 20, 3) := by decide +kernel
theorem dX3_draft_173 : decode cX3_draft 173 = .ok (.getfield 54, 3) := by decide +kernel
theorem dX3_draft_176 : decode cX3_draft 176 = .ok (.iload 6, 2) := by decide +kernel
theorem dX3_draft_178 : decode cX3_draft 178 = .ok (.invokevirtual 77, 3) := by decide +kernel
theorem dX3_draft_181 : decode cX3_draft 181 = .ok (.ifCond .eq 41, 3) := by decide +kernel
theorem dX3_draft_184 : decode cX3_draft 184 = .ok (.aload_n 0, 1) := by decide +kernel
theorem dX3_draft_185 : decode cX3_draft 185 = .ok (.aload_n 0, 1) := by decide +kernel
theorem dX3_draft_186 : decode cX3_draft 186 = .ok (.getfield 20, 3) := by decide +kernel
theorem dX3_draft_189 : decode cX3_draft 189 = .ok (.getfield 43, 3) := by decide +kernel
theorem dX3_draft_192 : decode cX3_draft 192 = .ok (.iload 6, 2) := by decide +kernel
theorem dX3_draft_194 : decode cX3_draft 194 = .ok (.iconst 3, 1) := by decide +kernel
theorem dX3_draft_195 : decode cX3_draft 195 = .ok (.iadd, 1) := by decide +kernel
theorem dX3_draft_196 : decode cX3_draft 196 = .ok (.invokevirtual 77, 3) := by decide +kernel
theorem dX3_draft_199 : decode cX3_draft 199 = .ok (.ifCond .eq 23, 3) := by decide +kernel
theorem dX3_draft_202 : decode cX3_draft 202 = .ok (.aload_n 0, 1) := by decide +kernel
theorem dX3_draft_203 : decode cX3_draft 203 = .ok (.aload_n 0, 1) := by decide +kernel
theorem dX3_draft_204 : decode cX3_draft 204 = .ok (.getfield 27, 3) := by decide +kernel
theorem dX3_draft_207 : decode cX3_draft 207 = .ok (.iload 6, 2) := by decide +kernel
theorem dX3_draft_209 : decode cX3_draft 209 = .ok (.bipush 6, 2) := by decide +kernel
theorem dX3_draft_211 : decode cX3_draft 211 = .ok (.iadd, 1) := by decide +kernel
theorem dX3_draft_212 : decode cX3_draft 212 = .ok (.invokevirtual 77, 3) := by decide +kernel
theorem dX3_draft_215 : decode cX3_draft 215 = .ok (.ifCond .eq 7, 3) := by decide +kernel
theorem dX3_draft_218 : decode cX3_draft 218 = .ok (.iconst 1, 1) := by decide +kernel
theorem dX3_draft_219 : decode cX3_draft 219 = .ok (.goto 4, 3) := by decide +kernel
theorem dX3_draft_222 : decode cX3_draft 222 = .ok (.iconst 0, 1) := by decide +kernel
theorem dX3_draft_223 : decode cX3_draft 223 = .ok (.istore 7, 2) := by decide +kernel
theorem dX3_draft_225 : decode cX3_draft 225 = .ok (.aload_n 0, 1) := by decide +kernel
theorem dX3_draft_226 : decode cX3_draft 226 = .ok (.aload_n 0, 1) := by decide +kernel
theorem dX3_draft_227 : decode cX3_draft 227 = .ok (.getfield 80, 3) := by decide +kernel
theorem dX3_draft_230 : decode cX3_draft 230 = .ok (.ifCond .ne 8, 3) := by decide +kernel
theorem dX3_draft_233 : decode cX3_draft 233 = .ok (.iload 7, 2) := by decide +kernel
theorem dX3_draft_235 : decode cX3_draft 235 = .ok (.ifCond .ne 7, 3) := by decide +kernel
theorem dX3_draft_238 : decode cX3_draft 238 = .ok (.iconst 1, 1) := by decide +kernel
theorem dX3_draft_239 : decode cX3_draft 239 = .ok (.goto 4, 3) := by decide +kernel
theorem dX3_draft_242 : decode cX3_draft 242 = .ok (.iconst 0, 1) := by decide +kernel
theorem dX3_draft_243 : decode cX3_draft 243 = .ok (.putfield 80, 3) := by decide +kernel
theorem dX3_draft_246 : decode cX3_draft 246 = .ok (.return_, 1) := by decide +kernel
set_option maxHeartbeats 8000000 in
theorem m_draft (l : Launch) {D : va_G} {ids : Nat → ClassId} {β : Nat} {sh : Nat → Nat × Nat} {N : Nat} {R : Nat → Nat → Option Nat} {F : Nat → Nat → Int} {A : Nat → Int → Int} {V : Nat → Int} {x u sx a b : Nat} {tone entry : Int} (hS : ST sh R N F A V) (hW : LWd sh R N) (hgl : ∃ g l, gl2 F g l) (hx : isG sh R N x sx) (hu : isG sh R N u 8) (x30 : 30 < x) (u30 : 30 < u) (bx : bdc a (cx V x)) (bu : bdc b (cx V u)) (hab : (a + 8) / 9 + (b + 8) / 9 ≤ 80 ∧ a + b + 1 ≤ 711) (hbb : 2 * ((b + 8) / 9) ≤ 80 ∧ 2 * b + 1 ≤ 711) (hu0 : V (u + 1) ≠ 0 ∨ V (u + 3) ≠ 0) (ht : 0 ≤ tone ∧ tone < 4) (he : 0 ≤ entry ∧ entry < 4) (hbig : F 15 7 = 0 ∨ F 15 7 = 1) : MetX l yX3_draft cX3_draft 8 none 5 138 D ids β sh N R F A [rf 15, rf x, rf u, pI tone, pI entry] (pVr (Q_draft sh R N F A V (cx V x) (cx V u) (tone * 36 + entry * 9))) := by
  refine MetX.of (loc := [_, _, _, _, _, _, _, _]) (plainFor_of_name (by decide +kernel)) (Nat.le_of_ble_eq_true rfl) rfl ?_
  intro p e s m args below meth c hC hK hr hlk
  obtain ⟨hL, h3, h16, h21, h23, h25, h27, h29, hsp⟩ := id hW
  obtain ⟨k1, k2, k3, k4, k5, k6, k7⟩ := id hL
  obtain ⟨a1, a2, a3, a4, a5, a6, a7, a8⟩ := id h16
  obtain ⟨-, -, x3, x4, -, x6, x7, -⟩ := id hx
  obtain ⟨-, -, u3, u4, -, u6, u7, -⟩ := id hu
  have x0 := hx.1
  have xS := hx.2.1
  have u0 := hu.1
  have uS := hu.2.1
  have w17 : isW sh R N 17 := a6
  have w19 : isW sh R N 19 := a7
  have s17 := w17.2.1
  have s19 := w19.2.1
  have s21 := h21.2.1
  have s23 := h23.2.1
  have s25 := h25.2.1
  have b21 : 21 < N := by have := h21.1; omega
  have b17 : 17 < N := by have := h21.1; omega
  have b19 : 19 < N := by have := h21.1; omega
  have b23 : 23 < N := by have := h23.1; omega
  have b25 : 25 < N := by have := h25.1; omega
  have uN : u + 1 < N := by have := u6.1; omega
  have uN3 : u + 3 < N := by have := u7.1; omega
  have uS1 := u6.2.1
  have uS3 := u7.2.1
  have n15 : sh 15 ≠ (0, 6) := by rw [k2]; decide
  have n3 : sh 3 ≠ (1, 80) := by rw [h3.2]; decide
  have fin0 : ∀ (F5 : Nat → Nat → Int) (A5 : Nat → Int → Int) (V5 : Nat → Int) (cp cq cr : Int) {e5 e6 e7 : Option PV}, drF sh R N F A V (tone * 36 + entry * 9) F5 A5 V5 → F5 15 7 = F 15 7 → LT3 (cx V x) (cx V u) cp cq cr → ¬ fit3 cp cq cr → X p l e { frames := 5, cells := 0, slots := 0, locals := 138 } s m args below meth c (MQ below (QX D ids β sh N R (pVr (Q_draft sh R N F A V (cx V x) (cx V u) (tone * 36 + entry * 9)))) args s 0 0 (inG β N)) (inG β N) D ids β sh 8 0 0 N R F5 A5 [some (rf 15), some (rf x), some (rf u), some (pI tone), some (pI entry), e5, e6, e7] [] 222 := by
    intro F5 A5 V5 cp cq cr e5 e6 e7 hd hb hl hf
    obtain ⟨d1, d2, ⟨g, l2, d3⟩, d4, d5, d6⟩ := id hd
    have done : ∀ v : Int, v = 1 → Q_draft sh R N F A V (cx V x) (cx V u) (tone * 36 + entry * 9) (uF F5 15 7 v) A5 := fun v hv => ⟨V5, ⟨fun w hw => by
        have n : w ≠ 15 := fun e => by have := hw.2.1; rw [e, k2] at this; cases this
        exact ⟨WOK_of (uF_ne n) rfl (d1 w hw).1, (wv_of (uF_ne n) rfl).trans (d1 w hw).2⟩, d2, ⟨g, l2, d3.1, by rw [uF_nj (by decide)]; exact d3.2.1, by rw [uF_nj (by decide)]; exact d3.2.2⟩, fun o o1 o2 => by rw [uF_ne o1]; exact d4 o o1 o2, d5, d6⟩, cp, cq, cr, hl, Or.inr ⟨hf, by rw [uF_eq, hv]⟩⟩
    refine x_iconst (pc2 := 223) hC dX3_draft_222 rfl ?_
    refine x_istore (pc2 := 225) (loc2 := [_, _, _, _, _, _, _, _]) hC (by decide) rfl dX3_draft_223 rfl ?_
    refine x_aload_n (pc2 := 226) hC rfl rfl dX3_draft_225 rfl ?_
    refine x_aload_n (pc2 := 227) hC rfl rfl dX3_draft_226 rfl ?_
    refine g_193 (pc2 := 230) hC hK (by assumption) (by assumption) dX3_draft_227 rfl ?_
    refine x_if_ne (tgt := 238) (pc2 := 233) hC (by omega) dX3_draft_230 rfl rfl (fun h_230 => ?_) (fun h_230 => ?_)
    · refine x_iconst (pc2 := 239) hC dX3_draft_238 rfl ?_
      refine x_goto (pc2 := 243) hC dX3_draft_239 rfl ?_
      refine p_193 (pc2 := 246) hC hK (by assumption) (by assumption) (by omega) dX3_draft_243 rfl ?_
      exact x_vret hC hr hlk ⟨rfl, done 1 rfl⟩ dX3_draft_246
    · refine x_iload (pc2 := 235) hC rfl dX3_draft_233 rfl ?_
      refine x_if_ne (tgt := 242) (pc2 := 238) hC (by omega) dX3_draft_235 rfl rfl (fun h_235 => ?_) (fun h_235 => ?_)
      · exfalso; omega
      · refine x_iconst (pc2 := 239) hC dX3_draft_238 rfl ?_
        refine x_goto (pc2 := 243) hC dX3_draft_239 rfl ?_
        refine p_193 (pc2 := 246) hC hK (by assumption) (by assumption) (by omega) dX3_draft_243 rfl ?_
        exact x_vret hC hr hlk ⟨rfl, done 1 rfl⟩ dX3_draft_246
  have fin1 : ∀ (F5 : Nat → Nat → Int) (A5 : Nat → Int → Int) (V5 : Nat → Int) (cp cq cr : Int) {e5 e6 e7 : Option PV}, drF sh R N F A V (tone * 36 + entry * 9) F5 A5 V5 → F5 15 7 = F 15 7 → LT3 (cx V x) (cx V u) cp cq cr → fit3 cp cq cr → hold (A5 3) (tone * 36 + entry * 9) cp cq cr → X p l e { frames := 5, cells := 0, slots := 0, locals := 138 } s m args below meth c (MQ below (QX D ids β sh N R (pVr (Q_draft sh R N F A V (cx V x) (cx V u) (tone * 36 + entry * 9)))) args s 0 0 (inG β N)) (inG β N) D ids β sh 8 0 0 N R F5 A5 [some (rf 15), some (rf x), some (rf u), some (pI tone), some (pI entry), e5, e6, e7] [] 218 := by
    intro F5 A5 V5 cp cq cr e5 e6 e7 hd hb hl hf hh
    obtain ⟨d1, d2, ⟨g, l2, d3⟩, d4, d5, d6⟩ := id hd
    have done : ∀ v : Int, v = F 15 7 → Q_draft sh R N F A V (cx V x) (cx V u) (tone * 36 + entry * 9) (uF F5 15 7 v) A5 := fun v hv => ⟨V5, ⟨fun w hw => by
        have n : w ≠ 15 := fun e => by have := hw.2.1; rw [e, k2] at this; cases this
        exact ⟨WOK_of (uF_ne n) rfl (d1 w hw).1, (wv_of (uF_ne n) rfl).trans (d1 w hw).2⟩, d2, ⟨g, l2, d3.1, by rw [uF_nj (by decide)]; exact d3.2.1, by rw [uF_nj (by decide)]; exact d3.2.2⟩, fun o o1 o2 => by rw [uF_ne o1]; exact d4 o o1 o2, d5, d6⟩, cp, cq, cr, hl, Or.inl ⟨hf, by rw [uF_eq, hv], hh⟩⟩
    refine x_iconst (pc2 := 219) hC dX3_draft_218 rfl ?_
    refine x_goto (pc2 := 223) hC dX3_draft_219 rfl ?_
    refine x_istore (pc2 := 225) (loc2 := [_, _, _, _, _, _, _, _]) hC (by decide) rfl dX3_draft_223 rfl ?_
    refine x_aload_n (pc2 := 226) hC rfl rfl dX3_draft_225 rfl ?_
    refine x_aload_n (pc2 := 227) hC rfl rfl dX3_draft_226 rfl ?_
    refine g_193 (pc2 := 230) hC hK (by assumption) (by assumption) dX3_draft_227 rfl ?_
    refine x_if_ne (tgt := 238) (pc2 := 233) hC (by omega) dX3_draft_230 rfl rfl (fun h_230 => ?_) (fun h_230 => ?_)
    · refine x_iconst (pc2 := 239) hC dX3_draft_238 rfl ?_
      refine x_goto (pc2 := 243) hC dX3_draft_239 rfl ?_
      refine p_193 (pc2 := 246) hC hK (by assumption) (by assumption) (by omega) dX3_draft_243 rfl ?_
      exact x_vret hC hr hlk ⟨rfl, done _ (by omega)⟩ dX3_draft_246
    · refine x_iload (pc2 := 235) hC rfl dX3_draft_233 rfl ?_
      refine x_if_ne (tgt := 242) (pc2 := 238) hC (by omega) dX3_draft_235 rfl rfl (fun h_235 => ?_) (fun h_235 => ?_)
      · refine x_iconst (pc2 := 243) hC dX3_draft_242 rfl ?_
        refine p_193 (pc2 := 246) hC hK (by assumption) (by assumption) (by omega) dX3_draft_243 rfl ?_
        exact x_vret hC hr hlk ⟨rfl, done _ (by omega)⟩ dX3_draft_246
      · refine x_iconst (pc2 := 239) hC dX3_draft_238 rfl ?_
        refine x_goto (pc2 := 243) hC dX3_draft_239 rfl ?_
        refine p_193 (pc2 := 246) hC hK (by assumption) (by assumption) (by omega) dX3_draft_243 rfl ?_
        exact x_vret hC hr hlk ⟨rfl, done _ (by omega)⟩ dX3_draft_246
  have join : ∀ (F1 : Nat → Nat → Int) (A1 : Nat → Int → Int) (V1 : Nat → Int) (T : CI) (B : Int) {e5 e6 e7 : Option PV}, ST sh R N F1 A1 V1 → FRm sh F A F1 A1 → cx V1 16 = T → V1 21 = B → (∀ w, w ≠ 17 → w ≠ 19 → w ≠ 21 → w ≠ 8 → V1 w = V w) → 0 < B → bd 711 T.1 → bd 711 T.2 → bd 711 B → cmul T (cx V u) = ((cx V x).1 * B, (cx V x).2 * B) → X p l e { frames := 5, cells := 0, slots := 0, locals := 138 } s m args below meth c (MQ below (QX D ids β sh N R (pVr (Q_draft sh R N F A V (cx V x) (cx V u) (tone * 36 + entry * 9)))) args s 0 0 (inG β N)) (inG β N) D ids β sh 8 0 0 N R F1 A1 [some (rf 15), some (rf x), some (rf u), some (pI tone), some (pI entry), e5, e6, e7] [] 105 := by
    intro F1 A1 V1 T B e5 e6 e7 S1 f1 vT vB vo B0 bT1 bT2 bB hT
    have t1 : V1 17 = T.1 := congrArg Prod.fst vT
    have t2 : V1 19 = T.2 := congrArg Prod.snd vT
    obtain ⟨g, hgd⟩ : ∃ g, g = Nat.gcd (Nat.gcd B.natAbs T.1.natAbs) T.2.natAbs := ⟨_, rfl⟩
    obtain ⟨cp, cq, cr, hl, hp1, hq1, hr1, hp2, hq2, hr2, g0⟩ := lt3_of B0 hT hgd
    obtain ⟨g27, l29, hg⟩ := hgl
    have wB := (S1 _ h21).1
    have vB2 := (S1 _ h21).2
    have sz : 0 < F1 21 1 ∧ F1 21 1 ≤ 80 := by
      have p1 := wv_pos_iff wB
      have p2 := wB.2.2.2.2
      have p3 := wB.2.1
      rw [vB2, vB] at p1
      omega
    have Bge : 1000000000 ^ ((F1 21 1).toNat - 1) ≤ B := by
      have p1 := wm_ge wB sz.1
      rw [wm_of_wv wB vB2, vB] at p1
      omega
    have r15 : ∀ j, F1 15 j = F 15 j := fun j => congrFun (f1.1 15 n15) j
    have hg1 : gl2 F1 g27 l29 := ⟨hg.1, by rw [r15]; exact hg.2.1, by rw [r15]; exact hg.2.2⟩
    have e56 := hg1.2.1
    have wg27 : isW sh R N g27 ∧ g27 ≠ 17 ∧ g27 ≠ 19 ∧ g27 ≠ 21 := by
      rcases hg.1 with ⟨rfl, rfl⟩ | ⟨rfl, rfl⟩
      · exact ⟨h27, by omega⟩
      · exact ⟨h29, by omega⟩
    have gN := wg27.1.1
    have gN0 : g27 < N := by omega
    have gS := wg27.1.2.1
    -- a number too great is told by a small share
    have small : ∀ d : Nat, g ≤ d → 2 ≤ F1 21 1 - 3 → (d : Int) < 1000000000 ^ (F1 21 1 - 3 - 1).toNat → ¬ fit3 cp cq cr := fun d h1 h2 h3 hf => by
      have := small_gcd_big Bge h2 h1 h3 g0 (by rw [hgd]; exact Nat.dvd_trans (Nat.gcd_dvd_left ..) (Nat.gcd_dvd_left ..))
      rw [← hr2] at this
      have := hf.2.2
      omega
    have gd1 : g ≤ Nat.gcd B.natAbs T.1.natAbs := by rw [hgd]; exact Nat.gcd_le_left _ (Nat.gcd_pos_of_pos_left _ (by omega))
    obtain ⟨pv1, pv2⟩ := part_val hp1 hp2 g0
    obtain ⟨qv1, qv2⟩ := part_val hq1 hq2 g0
    obtain ⟨rv1, rv2⟩ := part_val hr1 hr2 g0
    have rsg : B.sign * ((B.natAbs : Int) / (g : Int)) = cr := rv1
    refine x_aload_n (pc2 := 106) hC rfl rfl dX3_draft_105 rfl ?_
    refine g_187 (pc2 := 109) hC hK (by assumption) (by assumption) (by assumption) dX3_draft_106 rfl ?_
    refine g_141 (pc2 := 112) hC hK (by assumption) (by assumption) dX3_draft_109 rfl ?_
    refine x_iconst (pc2 := 113) hC dX3_draft_112 rfl ?_
    refine x_isub (pc2 := 114) hC dX3_draft_113 rfl ?_
    refine x_istore (pc2 := 116) (loc2 := [_, _, _, _, _, _, _, _]) hC (by decide) rfl dX3_draft_114 rfl ?_
    refine x_iconst (pc2 := 117) hC dX3_draft_116 rfl ?_
    refine x_iload_n (pc2 := 118) hC rfl rfl dX3_draft_117 rfl ?_
    refine x_iload (pc2 := 120) hC rfl dX3_draft_118 rfl ?_
    refine x_cNi (pc2 := 123) hC hK (m_place l) lk_563 rfl ⟨Nat.le_of_ble_eq_true rfl, Nat.le_of_ble_eq_true rfl⟩ ⟨Nat.le_refl _, Nat.le_refl _⟩ rfl (Nat.le_of_ble_eq_true rfl) dX3_draft_120 rfl ?_
    rintro z120 F120 A120 ⟨rfl, e1120, e2120⟩
    obtain rfl := e1120.symm
    obtain rfl := e2120.symm
    rw [show (0 : Int) * 144 + tone * 36 + entry * 9 = tone * 36 + entry * 9 by omega]
    refine x_istore (pc2 := 125) (loc2 := [_, _, _, _, _, _, _, _]) hC (by decide) rfl dX3_draft_123 rfl ?_
    refine x_aload_n (pc2 := 126) hC rfl rfl dX3_draft_125 rfl ?_
    refine g_190 (pc2 := 129) hC hK (by assumption) (by assumption) (by assumption) dX3_draft_126 rfl ?_
    refine x_aload_n (pc2 := 130) hC rfl rfl dX3_draft_129 rfl ?_
    refine g_187 (pc2 := 133) hC hK (by assumption) (by assumption) (by assumption) dX3_draft_130 rfl ?_
    refine x_cVv (pc2 := 136) (ci := 6) hC hK (s_assign l S1 wg27.1 h21) lk_557 rfl rfl (by decide) (by assumption) (by assumption) ⟨Nat.le_of_ble_eq_true rfl, Nat.le_of_ble_eq_true rfl⟩ ⟨Nat.le_refl _, Nat.le_refl _⟩ rfl (Nat.le_of_ble_eq_true rfl) dX3_draft_133 rfl ?_
    rintro F2 A2 ⟨S2, f2⟩
    have q15 : ∀ j, F2 15 j = F1 15 j := fun j => congrFun (f2.1 15 n15) j
    have hg2 : gl2 F2 g27 l29 := ⟨hg1.1, by rw [q15]; exact hg1.2.1, by rw [q15]; exact hg1.2.2⟩
    refine x_aload_n (pc2 := 137) hC rfl rfl dX3_draft_136 rfl ?_
    refine x_aload_n (pc2 := 138) hC rfl rfl dX3_draft_137 rfl ?_
    refine g_186 (pc2 := 141) hC hK (by assumption) (by assumption) (by assumption) dX3_draft_138 rfl ?_
    refine g_159 (pc2 := 144) hC hK (by assumption) (by assumption) (by assumption) dX3_draft_141 rfl ?_
    refine x_iload (pc2 := 146) hC rfl dX3_draft_144 rfl ?_
    refine x_cVi (pc2 := 149) (ci := 3) hC hK (s_share l S2 hW hg2 (Or.inl rfl) (a0 := B.natAbs) (x0 := T.1.natAbs) (by rw [upV_eq, vB]; omega) (by rw [upV_ne (Ne.symm wg27.2.1), t1]) (by rw [upV_eq, vB]; exact bB) (by rw [upV_ne (Ne.symm wg27.2.1), t1]; exact bT1) ⟨by omega, by omega⟩) lk_564 rfl rfl (by decide) (by assumption) (by assumption) ⟨Nat.le_of_ble_eq_true rfl, Nat.le_of_ble_eq_true rfl⟩ ⟨Nat.le_refl _, Nat.le_refl _⟩ rfl (Nat.le_of_ble_eq_true rfl) dX3_draft_146 rfl ?_
    rintro z1 F3 A3 ⟨V3, g3, l3, S3, v3, hg3, b3, fr3, ar3, hz1⟩
    have o3 : ∀ w, w ≠ 23 ∧ w ≠ 25 ∧ w ≠ 27 ∧ w ≠ 29 → w ≠ 17 → w ≠ 19 → w ≠ 21 → w ≠ 8 → V3 w = V w := fun w h1 h2 h3 h4 h5 => by
      have n : w ≠ g27 := by rcases hg.1 with ⟨e, -⟩ | ⟨e, -⟩ <;> omega
      rw [v3 w h1, upV_ne n]; exact vo w h2 h3 h4 h5
    have t19 : V3 19 = T.2 := by rw [v3 19 (by omega), upV_ne (Ne.symm wg27.2.2.1)]; exact t2
    have t17 : V3 17 = T.1 := by rw [v3 17 (by omega), upV_ne (Ne.symm wg27.2.1)]; exact t1
    have t21 : V3 21 = B := by rw [v3 21 (by omega), upV_ne (Ne.symm wg27.2.2.2)]; exact vB
    have big3 : F3 15 7 = F 15 7 := by rw [b3, q15, r15]
    have dr3 : drF sh R N F A V (tone * 36 + entry * 9) F3 A3 V3 := ⟨S3, fun w hw => o3 w (by omega) (by omega) (by omega) (by omega) (by omega), ⟨g3, l3, hg3⟩, fun o o1 o2 => by rw [fr3 o o1 o2, f2.1 o o2, f1.1 o o2], fun a _ h2 => by rw [ar3 a h2, f2.2 a h2, f1.2 a h2], fun j _ => by rw [ar3 3 n3, f2.2 3 n3, f1.2 3 n3]⟩
    refine x_if_eq (tgt := 222) (pc2 := 152) hC (by omega) dX3_draft_149 rfl rfl (fun h_149 => ?_) (fun h_149 => ?_)
    · first
        | (refine fin0 F7 A7 V7 cp cq cr dr7 big7 hl (fun hf => ?_); have := hf.2.2; rcases hz5 with ⟨e, -⟩ | ⟨-, e⟩ <;> omega)
        | (refine fin0 F6 A6 V6 cp cq cr dr6 big6 hl (fun hf => ?_); have := hf.2.1; rcases hz4 with ⟨e, -⟩ | ⟨-, e⟩ <;> omega)
        | (refine fin0 F5 A5 V5 cp cq cr dr5 big5 hl (fun hf => ?_); have := hf.1; rcases hz3 with ⟨e, -⟩ | ⟨-, e⟩ <;> omega)
        | (refine fin0 F4 A4 V4 cp cq cr dr4 big4 hl ?_; rcases hz2 with ⟨e, -⟩ | ⟨-, h1, h2, h3⟩; (exfalso; omega); exact small g (Nat.le_refl g) h1 h2)
        | (refine fin0 F3 A3 V3 cp cq cr dr3 big3 hl ?_; rcases hz1 with ⟨e, -⟩ | ⟨-, h1, h2, h3⟩; (exfalso; omega); exact small _ gd1 h1 h2)
    · refine x_aload_n (pc2 := 153) hC rfl rfl dX3_draft_152 rfl ?_
      refine x_aload_n (pc2 := 154) hC rfl rfl dX3_draft_153 rfl ?_
      refine g_186 (pc2 := 157) hC hK (by assumption) (by assumption) (by assumption) dX3_draft_154 rfl ?_
      refine g_164 (pc2 := 160) hC hK (by assumption) (by assumption) (by assumption) dX3_draft_157 rfl ?_
      refine x_iload (pc2 := 162) hC rfl dX3_draft_160 rfl ?_
      refine x_cVi (pc2 := 165) (ci := 3) hC hK (s_share l S3 hW hg3 (Or.inr rfl) (a0 := B.natAbs.gcd T.1.natAbs) (x0 := T.2.natAbs) (by rcases hz1 with ⟨-, e⟩ | ⟨e, -⟩; exact e; exfalso; omega) (by rw [t19]) (by rcases hz1 with ⟨-, e⟩ | ⟨e, -⟩; (rw [e]; exact Nat.lt_of_le_of_lt (by rw [Int.natAbs_natCast]; exact Nat.gcd_le_left _ (by omega)) bB); exfalso; omega) (by rw [t19]; exact bT2) ⟨by omega, by omega⟩) lk_564 rfl rfl (by decide) (by assumption) (by assumption) ⟨Nat.le_of_ble_eq_true rfl, Nat.le_of_ble_eq_true rfl⟩ ⟨Nat.le_refl _, Nat.le_refl _⟩ rfl (Nat.le_of_ble_eq_true rfl) dX3_draft_162 rfl ?_
      rintro z2 F4 A4 ⟨V4, g4, l4, S4, v4, hg4, b4, fr4, ar4, hz2⟩
      rw [← hgd] at hz2
      have o4 : ∀ w, w ≠ 23 ∧ w ≠ 25 ∧ w ≠ 27 ∧ w ≠ 29 → w ≠ 17 → w ≠ 19 → w ≠ 21 → w ≠ 8 → V4 w = V w := fun w h1 h2 h3 h4 h5 => by
        rw [v4 w h1]; exact o3 w h1 h2 h3 h4 h5
      have t19b : V4 19 = T.2 := by rw [v4 19 (by omega)]; exact t19
      have t17b : V4 17 = T.1 := by rw [v4 17 (by omega)]; exact t17
      have t21b : V4 21 = B := by rw [v4 21 (by omega)]; exact t21
      have big4 : F4 15 7 = F 15 7 := by rw [b4, big3]
      have dr4 : drF sh R N F A V (tone * 36 + entry * 9) F4 A4 V4 := ⟨S4, fun w hw => o4 w (by omega) (by omega) (by omega) (by omega) (by omega), ⟨g4, l4, hg4⟩, fun o o1 o2 => by rw [fr4 o o1 o2]; exact dr3.2.2.2.1 o o1 o2, fun a h1 h2 => by rw [ar4 a h2]; exact dr3.2.2.2.2.1 a h1 h2, fun j hj => by rw [ar4 3 n3]; exact dr3.2.2.2.2.2 j hj⟩
      refine x_if_eq (tgt := 222) (pc2 := 168) hC (by omega) dX3_draft_165 rfl rfl (fun h_165 => ?_) (fun h_165 => ?_)
      · first
          | (refine fin0 F7 A7 V7 cp cq cr dr7 big7 hl (fun hf => ?_); have := hf.2.2; rcases hz5 with ⟨e, -⟩ | ⟨-, e⟩ <;> omega)
          | (refine fin0 F6 A6 V6 cp cq cr dr6 big6 hl (fun hf => ?_); have := hf.2.1; rcases hz4 with ⟨e, -⟩ | ⟨-, e⟩ <;> omega)
          | (refine fin0 F5 A5 V5 cp cq cr dr5 big5 hl (fun hf => ?_); have := hf.1; rcases hz3 with ⟨e, -⟩ | ⟨-, e⟩ <;> omega)
          | (refine fin0 F4 A4 V4 cp cq cr dr4 big4 hl ?_; rcases hz2 with ⟨e, -⟩ | ⟨-, h1, h2, h3⟩; (exfalso; omega); exact small g (Nat.le_refl g) h1 h2)
          | (refine fin0 F3 A3 V3 cp cq cr dr3 big3 hl ?_; rcases hz1 with ⟨e, -⟩ | ⟨-, h1, h2, h3⟩; (exfalso; omega); exact small _ gd1 h1 h2)
      · refine x_aload_n (pc2 := 169) hC rfl rfl dX3_draft_168 rfl ?_
        refine x_aload_n (pc2 := 170) hC rfl rfl dX3_draft_169 rfl ?_
        refine g_186 (pc2 := 173) hC hK (by assumption) (by assumption) (by assumption) dX3_draft_170 rfl ?_
        refine g_159 (pc2 := 176) hC hK (by assumption) (by assumption) (by assumption) dX3_draft_173 rfl ?_
        refine x_iload (pc2 := 178) hC rfl dX3_draft_176 rfl ?_
        refine x_cVi (pc2 := 181) (ci := 3) hC hK (s_part l S4 hW hg4 (Or.inl rfl) (d := (g : Int)) (by rcases hz2 with ⟨-, e⟩ | ⟨e, -⟩; exact e; exfalso; omega) (by omega) (by rw [t17b]; exact bT1) ⟨by omega, by omega⟩) lk_625 rfl rfl (by decide) (by assumption) (by assumption) ⟨Nat.le_of_ble_eq_true rfl, Nat.le_of_ble_eq_true rfl⟩ ⟨Nat.le_refl _, Nat.le_refl _⟩ rfl (Nat.le_of_ble_eq_true rfl) dX3_draft_178 rfl ?_
        rintro z3 F5 A5 ⟨V5, S5, v5, fr5, ar5, ac5, hz3⟩
        rw [t17b, pv1, pv2] at hz3
        have ok5 : gl2 F5 g4 l4 := ⟨hg4.1, by rw [fr5 15 n15]; exact hg4.2.1, by rw [fr5 15 n15]; exact hg4.2.2⟩
        have vg5 : V5 g4 = (g : Int) := by rw [v5 g4 (by rcases hg4.1 with ⟨e, -⟩ | ⟨e, -⟩ <;> omega)]; rcases hz2 with ⟨-, e⟩ | ⟨e, -⟩; exact e; exfalso; omega
        have big5 : F5 15 7 = F 15 7 := by rw [fr5 15 n15, big4]
        have dr5 : drF sh R N F A V (tone * 36 + entry * 9) F5 A5 V5 := ⟨S5, fun w hw => by rw [v5 w (by omega)]; exact o4 w (by omega) (by omega) (by omega) (by omega) (by omega), ⟨g4, l4, ok5⟩, fun o o1 o2 => by rw [fr5 o o2]; exact dr4.2.2.2.1 o o1 o2, fun a h1 h2 => by rw [ar5 a h1 h2]; exact dr4.2.2.2.2.1 a h1 h2, fun j hj => by rw [ac5 j (by omega)]; exact dr4.2.2.2.2.2 j hj⟩
        refine x_if_eq (tgt := 222) (pc2 := 184) hC (by omega) dX3_draft_181 rfl rfl (fun h_181 => ?_) (fun h_181 => ?_)
        · first
            | (refine fin0 F7 A7 V7 cp cq cr dr7 big7 hl (fun hf => ?_); have := hf.2.2; rcases hz5 with ⟨e, -⟩ | ⟨-, e⟩ <;> omega)
            | (refine fin0 F6 A6 V6 cp cq cr dr6 big6 hl (fun hf => ?_); have := hf.2.1; rcases hz4 with ⟨e, -⟩ | ⟨-, e⟩ <;> omega)
            | (refine fin0 F5 A5 V5 cp cq cr dr5 big5 hl (fun hf => ?_); have := hf.1; rcases hz3 with ⟨e, -⟩ | ⟨-, e⟩ <;> omega)
            | (refine fin0 F4 A4 V4 cp cq cr dr4 big4 hl ?_; rcases hz2 with ⟨e, -⟩ | ⟨-, h1, h2, h3⟩; (exfalso; omega); exact small g (Nat.le_refl g) h1 h2)
            | (refine fin0 F3 A3 V3 cp cq cr dr3 big3 hl ?_; rcases hz1 with ⟨e, -⟩ | ⟨-, h1, h2, h3⟩; (exfalso; omega); exact small _ gd1 h1 h2)
        · refine x_aload_n (pc2 := 185) hC rfl rfl dX3_draft_184 rfl ?_
          refine x_aload_n (pc2 := 186) hC rfl rfl dX3_draft_185 rfl ?_
          refine g_186 (pc2 := 189) hC hK (by assumption) (by assumption) (by assumption) dX3_draft_186 rfl ?_
          refine g_164 (pc2 := 192) hC hK (by assumption) (by assumption) (by assumption) dX3_draft_189 rfl ?_
          refine x_iload (pc2 := 194) hC rfl dX3_draft_192 rfl ?_
          refine x_iconst (pc2 := 195) hC dX3_draft_194 rfl ?_
          refine x_iadd (pc2 := 196) hC dX3_draft_195 rfl ?_
          refine x_cVi (pc2 := 199) (ci := 3) hC hK (s_part l S5 hW ok5 (Or.inr (Or.inl rfl)) (d := (g : Int)) vg5 (by omega) (by rw [v5 19 (by omega), t19b]; exact bT2) ⟨by omega, by omega⟩) lk_625 rfl rfl (by decide) (by assumption) (by assumption) ⟨Nat.le_of_ble_eq_true rfl, Nat.le_of_ble_eq_true rfl⟩ ⟨Nat.le_refl _, Nat.le_refl _⟩ rfl (Nat.le_of_ble_eq_true rfl) dX3_draft_196 rfl ?_
          rintro z4 F6 A6 ⟨V6, S6, v6, fr6, ar6, ac6, hz4⟩
          rw [v5 19 (by omega), t19b, qv1, qv2] at hz4
          have ok6 : gl2 F6 g4 l4 := ⟨hg4.1, by rw [fr6 15 n15]; exact ok5.2.1, by rw [fr6 15 n15]; exact ok5.2.2⟩
          have vg6 : V6 g4 = (g : Int) := by rw [v6 g4 (by rcases hg4.1 with ⟨e, -⟩ | ⟨e, -⟩ <;> omega)]; exact vg5
          have big6 : F6 15 7 = F 15 7 := by rw [fr6 15 n15, big5]
          have dr6 : drF sh R N F A V (tone * 36 + entry * 9) F6 A6 V6 := ⟨S6, fun w hw => by rw [v6 w (by omega)]; exact dr5.2.1 w hw, ⟨g4, l4, ok6⟩, fun o o1 o2 => by rw [fr6 o o2]; exact dr5.2.2.2.1 o o1 o2, fun a h1 h2 => by rw [ar6 a h1 h2]; exact dr5.2.2.2.2.1 a h1 h2, fun j hj => by rw [ac6 j (by omega)]; exact dr5.2.2.2.2.2 j hj⟩
          refine x_if_eq (tgt := 222) (pc2 := 202) hC (by omega) dX3_draft_199 rfl rfl (fun h_199 => ?_) (fun h_199 => ?_)
          · first
              | (refine fin0 F7 A7 V7 cp cq cr dr7 big7 hl (fun hf => ?_); have := hf.2.2; rcases hz5 with ⟨e, -⟩ | ⟨-, e⟩ <;> omega)
              | (refine fin0 F6 A6 V6 cp cq cr dr6 big6 hl (fun hf => ?_); have := hf.2.1; rcases hz4 with ⟨e, -⟩ | ⟨-, e⟩ <;> omega)
              | (refine fin0 F5 A5 V5 cp cq cr dr5 big5 hl (fun hf => ?_); have := hf.1; rcases hz3 with ⟨e, -⟩ | ⟨-, e⟩ <;> omega)
              | (refine fin0 F4 A4 V4 cp cq cr dr4 big4 hl ?_; rcases hz2 with ⟨e, -⟩ | ⟨-, h1, h2, h3⟩; (exfalso; omega); exact small g (Nat.le_refl g) h1 h2)
              | (refine fin0 F3 A3 V3 cp cq cr dr3 big3 hl ?_; rcases hz1 with ⟨e, -⟩ | ⟨-, h1, h2, h3⟩; (exfalso; omega); exact small _ gd1 h1 h2)
          · refine x_aload_n (pc2 := 203) hC rfl rfl dX3_draft_202 rfl ?_
            refine x_aload_n (pc2 := 204) hC rfl rfl dX3_draft_203 rfl ?_
            refine g_187 (pc2 := 207) hC hK (by assumption) (by assumption) (by assumption) dX3_draft_204 rfl ?_
            refine x_iload (pc2 := 209) hC rfl dX3_draft_207 rfl ?_
            refine x_bipush (pc2 := 211) hC rfl dX3_draft_209 rfl ?_
            refine x_iadd (pc2 := 212) hC dX3_draft_211 rfl ?_
            refine x_cVi (pc2 := 215) (ci := 3) hC hK (s_part l S6 hW ok6 (Or.inr (Or.inr rfl)) (d := (g : Int)) vg6 (by omega) (by rw [v6 21 (by omega), v5 21 (by omega), t21b]; exact bB) ⟨by omega, by omega⟩) lk_625 rfl rfl (by decide) (by assumption) (by assumption) ⟨Nat.le_of_ble_eq_true rfl, Nat.le_of_ble_eq_true rfl⟩ ⟨Nat.le_refl _, Nat.le_refl _⟩ rfl (Nat.le_of_ble_eq_true rfl) dX3_draft_212 rfl ?_
            rintro z5 F7 A7 ⟨V7, S7, v7, fr7, ar7, ac7, hz5⟩
            rw [v6 21 (by omega), v5 21 (by omega), t21b, rsg, rv2] at hz5
            have ok7 : gl2 F7 g4 l4 := ⟨hg4.1, by rw [fr7 15 n15]; exact ok6.2.1, by rw [fr7 15 n15]; exact ok6.2.2⟩
            have big7 : F7 15 7 = F 15 7 := by rw [fr7 15 n15, big6]
            have dr7 : drF sh R N F A V (tone * 36 + entry * 9) F7 A7 V7 := ⟨S7, fun w hw => by rw [v7 w (by omega)]; exact dr6.2.1 w hw, ⟨g4, l4, ok7⟩, fun o o1 o2 => by rw [fr7 o o2]; exact dr6.2.2.2.1 o o1 o2, fun a h1 h2 => by rw [ar7 a h1 h2]; exact dr6.2.2.2.2.1 a h1 h2, fun j hj => by rw [ac7 j (by omega)]; exact dr6.2.2.2.2.2 j hj⟩
            refine x_if_eq (tgt := 222) (pc2 := 218) hC (by omega) dX3_draft_215 rfl rfl (fun h_215 => ?_) (fun h_215 => ?_)
            · first
                | (refine fin0 F7 A7 V7 cp cq cr dr7 big7 hl (fun hf => ?_); have := hf.2.2; rcases hz5 with ⟨e, -⟩ | ⟨-, e⟩ <;> omega)
                | (refine fin0 F6 A6 V6 cp cq cr dr6 big6 hl (fun hf => ?_); have := hf.2.1; rcases hz4 with ⟨e, -⟩ | ⟨-, e⟩ <;> omega)
                | (refine fin0 F5 A5 V5 cp cq cr dr5 big5 hl (fun hf => ?_); have := hf.1; rcases hz3 with ⟨e, -⟩ | ⟨-, e⟩ <;> omega)
                | (refine fin0 F4 A4 V4 cp cq cr dr4 big4 hl ?_; rcases hz2 with ⟨e, -⟩ | ⟨-, h1, h2, h3⟩; (exfalso; omega); exact small g (Nat.le_refl g) h1 h2)
                | (refine fin0 F3 A3 V3 cp cq cr dr3 big3 hl ?_; rcases hz1 with ⟨e, -⟩ | ⟨-, h1, h2, h3⟩; (exfalso; omega); exact small _ gd1 h1 h2)
            · rcases hz3 with ⟨-, k3a, k3b, k3c⟩ | ⟨e, -⟩
              rotate_left
              · exfalso; omega
              rcases hz4 with ⟨-, k4a, k4b, k4c⟩ | ⟨e, -⟩
              rotate_left
              · exfalso; omega
              rcases hz5 with ⟨-, k5a, k5b, k5c⟩ | ⟨e, -⟩
              rotate_left
              · exfalso; omega
              have h1 := triOK_of (f' := A7 3) (fun k a b => by rw [ac7 _ (by omega), ac6 _ (by omega)]) k3b
              have h2 := triOK_of (f' := A7 3) (fun k a b => by rw [ac7 _ (by omega)]) k4b
              exact fin1 F7 A7 V7 cp cq cr dr7 big7 hl ⟨by omega, by omega, by omega⟩ ⟨⟨h1.1, h1.2.trans k3c⟩, ⟨h2.1, h2.2.trans k4c⟩, ⟨k5b, k5c⟩⟩
  refine x_aload_n (pc2 := 1) hC rfl rfl dX3_draft_0 rfl ?_
  refine g_164 (pc2 := 4) hC hK (by assumption) (by assumption) (by assumption) dX3_draft_1 rfl ?_
  refine g_137 (pc2 := 7) hC hK (by assumption) (by assumption) dX3_draft_4 rfl ?_
  refine x_if_ne (tgt := 87) (pc2 := 10) hC (by have := (hS _ u7).1.2.2.2.2; omega) dX3_draft_7 rfl rfl (fun h_7 => ?_) (fun h_7 => ?_)
  · refine x_aload_n (pc2 := 88) hC rfl rfl dX3_draft_87 rfl ?_
    refine g_186 (pc2 := 91) hC hK (by assumption) (by assumption) (by assumption) dX3_draft_88 rfl ?_
    refine x_aload_n (pc2 := 92) hC rfl rfl dX3_draft_91 rfl ?_
    refine x_aload_n (pc2 := 93) hC rfl rfl dX3_draft_92 rfl ?_
    refine x_iconst (pc2 := 94) hC dX3_draft_93 rfl ?_
    refine x_cVv (pc2 := 97) (ci := 1) hC hK (m_gproduct l hS h16 hx hu (by omega) (by omega) hsp (Or.inr rfl) bx bu ⟨hab.1, by omega⟩) lk_558 rfl rfl (by decide) (by assumption) (by assumption) ⟨Nat.le_of_ble_eq_true rfl, Nat.le_of_ble_eq_true rfl⟩ ⟨Nat.le_refl _, Nat.le_refl _⟩ rfl (Nat.le_of_ble_eq_true rfl) dX3_draft_94 rfl ?_
    rintro F1 A1 ⟨V1, ⟨S1, f1⟩, v1, v2, v3⟩
    have vu1 : V1 (u + 1) = V (u + 1) := v3 _ (by omega) (by omega) (by omega)
    have vu3 : V1 (u + 3) = V (u + 3) := v3 _ (by omega) (by omega) (by omega)
    refine x_aload_n (pc2 := 98) hC rfl rfl dX3_draft_97 rfl ?_
    refine x_aload_n (pc2 := 99) hC rfl rfl dX3_draft_98 rfl ?_
    refine g_187 (pc2 := 102) hC hK (by assumption) (by assumption) (by assumption) dX3_draft_99 rfl ?_
    refine x_cVv (pc2 := 105) (ci := 1) hC hK (m_gsize l S1 hu hsp h21 (by decide) (by omega) (by omega) (a := b) (by rw [vu1, vu3]; exact bu) ⟨hbb.1, by omega⟩) lk_559 rfl rfl (by decide) (by assumption) (by assumption) ⟨Nat.le_of_ble_eq_true rfl, Nat.le_of_ble_eq_true rfl⟩ ⟨Nat.le_refl _, Nat.le_refl _⟩ rfl (Nat.le_of_ble_eq_true rfl) dX3_draft_102 rfl ?_
    rintro F2 A2 ⟨V2, ⟨S2, f2⟩, z1, z2⟩
    have hz : V (u + 3) ≠ 0 := fun e => by
      have := (sign_val (hS _ u7).1).1.2 (by rw [(hS _ u7).2]; exact e)
      exact absurd this (by assumption)
    refine join _ _ _ (V (x + 1) * V (u + 1) - -1 * (V (x + 3) * V (u + 3)), V (x + 3) * V (u + 1) + -1 * (V (x + 1) * V (u + 3))) (V (u + 1) * V (u + 1) + V (u + 3) * V (u + 3)) S2 (f1.tr f2) ?_ ?_ ?_ (sq_pos hz) ?_ ?_ ?_ (cj_mul (X := cx V x) (Y := cx V u))
    · refine Prod.ext ?_ ?_
      · show V2 17 = _
        rw [z2 17 (by decide) (by decide)]; exact v1
      · show V2 19 = _
        rw [z2 19 (by decide) (by decide)]; exact v2
    · rw [z1, vu1, vu3]
    · intro w w1 w2 w3 w4
      rw [z2 w w3 w4]; exact v3 w w1 w2 w4
    · show bd 711 (V (x + 1) * V (u + 1) - -1 * (V (x + 3) * V (u + 3)))
      rw [Int.sub_eq_add_neg]
      exact bd_add (bd_mul bx.1 bu.1 (Nat.le_refl _)) (bd_neg (bd_sgn (Or.inr rfl) (bd_mul bx.2 bu.2 (Nat.le_refl _)))) (by omega) (by omega)
    · exact bd_add (bd_mul bx.2 bu.1 (Nat.le_refl _)) (bd_sgn (Or.inr rfl) (bd_mul bx.1 bu.2 (Nat.le_refl _))) (by omega) (by omega)
    · exact bd_add (bd_mul bu.1 bu.1 (Nat.le_refl _)) (bd_mul bu.2 bu.2 (Nat.le_refl _)) (by omega) (by omega)
  · refine x_aload_n (pc2 := 11) hC rfl rfl dX3_draft_10 rfl ?_
    refine g_186 (pc2 := 14) hC hK (by assumption) (by assumption) (by assumption) dX3_draft_11 rfl ?_
    refine x_aload_n (pc2 := 15) hC rfl rfl dX3_draft_14 rfl ?_
    refine x_cVv (pc2 := 18) (ci := 1) hC hK (m_gassign l hS h16 hx) lk_552 rfl rfl (by decide) (by assumption) (by assumption) ⟨Nat.le_of_ble_eq_true rfl, Nat.le_of_ble_eq_true rfl⟩ ⟨Nat.le_refl _, Nat.le_refl _⟩ rfl (Nat.le_of_ble_eq_true rfl) dX3_draft_15 rfl ?_
    rintro F1 A1 ⟨V1, ⟨S1, f1⟩, v1, v2, v3⟩
    refine x_aload_n (pc2 := 19) hC rfl rfl dX3_draft_18 rfl ?_
    refine g_187 (pc2 := 22) hC hK (by assumption) (by assumption) (by assumption) dX3_draft_19 rfl ?_
    refine x_aload_n (pc2 := 23) hC rfl rfl dX3_draft_22 rfl ?_
    refine g_159 (pc2 := 26) hC hK (by assumption) (by assumption) (by assumption) dX3_draft_23 rfl ?_
    refine x_cVv (pc2 := 29) (ci := 6) hC hK (s_assign l S1 h21 u6) lk_557 rfl rfl (by decide) (by assumption) (by assumption) ⟨Nat.le_of_ble_eq_true rfl, Nat.le_of_ble_eq_true rfl⟩ ⟨Nat.le_refl _, Nat.le_refl _⟩ rfl (Nat.le_of_ble_eq_true rfl) dX3_draft_26 rfl ?_
    rintro F2 A2 ⟨S2, f2⟩
    refine x_aload_n (pc2 := 30) hC rfl rfl dX3_draft_29 rfl ?_
    refine g_187 (pc2 := 33) hC hK (by assumption) (by assumption) (by assumption) dX3_draft_30 rfl ?_
    refine g_137 (pc2 := 36) hC hK (by assumption) (by assumption) dX3_draft_33 rfl ?_
    refine x_istore (pc2 := 38) (loc2 := [_, _, _, _, _, _, _, _]) hC (by decide) rfl dX3_draft_36 rfl ?_
    refine x_aload_n (pc2 := 39) hC rfl rfl dX3_draft_38 rfl ?_
    refine g_186 (pc2 := 42) hC hK (by assumption) (by assumption) (by assumption) dX3_draft_39 rfl ?_
    refine g_159 (pc2 := 45) hC hK (by assumption) (by assumption) (by assumption) dX3_draft_42 rfl ?_
    refine x_dupR (pc2 := 46) hC dX3_draft_45 rfl ?_
    refine g_137 (pc2 := 49) hC hK (by assumption) (by assumption) dX3_draft_46 rfl ?_
    refine x_iload (pc2 := 51) hC rfl dX3_draft_49 rfl ?_
    refine x_imul (pc2 := 52) hC dX3_draft_51 rfl ?_
    refine p_137 (pc2 := 55) hC hK (by assumption) (by assumption) dX3_draft_52 rfl ?_
    refine x_aload_n (pc2 := 56) hC rfl rfl dX3_draft_55 rfl ?_
    refine g_186 (pc2 := 59) hC hK (by assumption) (by assumption) (by assumption) dX3_draft_56 rfl ?_
    refine g_164 (pc2 := 62) hC hK (by assumption) (by assumption) (by assumption) dX3_draft_59 rfl ?_
    refine x_dupR (pc2 := 63) hC dX3_draft_62 rfl ?_
    refine g_137 (pc2 := 66) hC hK (by assumption) (by assumption) dX3_draft_63 rfl ?_
    refine x_iload (pc2 := 68) hC rfl dX3_draft_66 rfl ?_
    refine x_imul (pc2 := 69) hC dX3_draft_68 rfl ?_
    refine p_137 (pc2 := 72) hC hK (by assumption) (by assumption) dX3_draft_69 rfl ?_
    refine x_aload_n (pc2 := 73) hC rfl rfl dX3_draft_72 rfl ?_
    refine g_187 (pc2 := 76) hC hK (by assumption) (by assumption) (by assumption) dX3_draft_73 rfl ?_
    refine x_iload (pc2 := 78) hC rfl dX3_draft_76 rfl ?_
    refine x_iload (pc2 := 80) hC rfl dX3_draft_78 rfl ?_
    refine x_imul (pc2 := 81) hC dX3_draft_80 rfl ?_
    refine p_137 (pc2 := 84) hC hK (by assumption) (by assumption) dX3_draft_81 rfl ?_
    refine x_goto (pc2 := 105) hC dX3_draft_84 rfl ?_
    have hz : V (u + 3) = 0 := by have := (sign_val (hS _ u7).1).1.1 (by assumption); rwa [(hS _ u7).2] at this
    have hy0 : V (u + 1) ≠ 0 := by rcases hu0 with h | h; exact h; exact absurd hz h
    have vu1 : V1 (u + 1) = V (u + 1) := v3 _ (by omega) (by omega) (by omega)
    have e21 := (S2 _ h21).2
    rw [upV_eq, vu1] at e21
    have sv := (sign_val (S2 _ h21).1).2 (by rw [e21]; exact hy0)
    rw [e21] at sv
    have S3 := S2.set w17 (mul_sign (S2 _ w17).1 sv.1)
    have S4 := S3.1.set w19 (mul_sign (S3.1 _ w19).1 sv.1)
    have S5 := S4.1.set h21 (pos_sign (S4.1 _ h21).1 (s := F2 21 0) (by rw [uF_ne (by omega), uF_ne (by omega)]) (by have := sv.1; omega))
    rw [(S4.1 _ h21).2, (S3.1 _ w19).2, (S2 _ w17).2, upV_ne (show (21 : Nat) ≠ 19 by decide), upV_ne (show (21 : Nat) ≠ 17 by decide), upV_ne (show (19 : Nat) ≠ 17 by decide), upV_eq, upV_ne (show (19 : Nat) ≠ 21 by decide), upV_ne (show (17 : Nat) ≠ 21 by decide), show V1 17 = V (x + 1) from v1, show V1 19 = V (x + 3) from v2, vu1] at S5
    refine join _ _ _ (F2 21 0 * V (x + 1), F2 21 0 * V (x + 3)) (F2 21 0 * V (u + 1)) S5.1 ((((f1.tr f2).tr S3.2).tr S4.2).tr S5.2) ?_ ?_ ?_ sv.2 (bd_sgn sv.1 (bd_mono bx.1 (by omega))) (bd_sgn sv.1 (bd_mono bx.2 (by omega))) (bd_sgn sv.1 (bd_mono bu.1 (by omega))) (cj_real (X := cx V x) (Y := cx V u) hz)
    · have ec : ∀ V : Nat → Int, cx V 16 = (V 17, V 19) := fun _ => rfl
      rw [ec, upV_ne (show (17 : Nat) ≠ 21 by decide), upV_ne (show (17 : Nat) ≠ 19 by decide), upV_eq, upV_ne (show (19 : Nat) ≠ 21 by decide), upV_eq]
    · rw [upV_eq]
    · intro w w1 w2 w3 w4
      rw [upV_ne w3, upV_ne w2, upV_ne w1, upV_ne w3]
      exact v3 w w1 w2 w4
