theorem dX8_passes_0 : decode cX8_passes 0 = .ok (.aload_n 0, 1) := by decide +kernel
theorem dX8_passes_1 : decode cX8_passes 1 = .ok (.iconst 0, 1) := by decide +kernel
theorem dX8_passes_2 : decode cX8_passes 2 = .ok (.putfield 52, 3) := by decide +kernel
theorem dX8_passes_5 : decode cX8_passes 5 = .ok (.aload_n 0, 1) := by decide +kernel
theorem dX8_passes_6 : decode cX8_passes 6 = .ok (.getfield 7, 3) := by decide +kernel
theorem dX8_passes_9 : decode cX8_passes 9 = .ok (.iload_n 1, 1) := by decide +kernel
theorem dX8_passes_10 : decode cX8_passes 10 = .ok (.iaload, 1) := by decide +kernel
theorem dX8_passes_11 : decode cX8_passes 11 = .ok (.iconst 1, 1) := by decide +kernel
theorem dX8_passes_12 : decode cX8_passes 12 = .ok (.if_icmp .ne 46, 3) := by decide +kernel
theorem dX8_passes_15 : decode cX8_passes 15 = .ok (.aload_n 0, 1) := by decide +kernel
theorem dX8_passes_16 : decode cX8_passes 16 = .ok (.aload_n 0, 1) := by decide +kernel
theorem dX8_passes_17 : decode cX8_passes 17 = .ok (.iload_n 1, 1) := by decide +kernel
theorem dX8_passes_18 : decode cX8_passes 18 = .ok (.iload_n 2, 1) := by decide +kernel
theorem dX8_passes_19 : decode cX8_passes 19 = .ok (.iconst 0, 1) := by decide +kernel
theorem dX8_passes_20 : decode cX8_passes 20 = .ok (.iconst 0, 1) := by decide +kernel
theorem dX8_passes_21 : decode cX8_passes 21 = .ok (.invokevirtual 200, 3) := by decide +kernel
theorem dX8_passes_24 : decode cX8_passes 24 = .ok (.invokevirtual 252, 3) := by decide +kernel
theorem dX8_passes_27 : decode cX8_passes 27 = .ok (.istore_n 3, 1) := by decide +kernel
theorem dX8_passes_28 : decode cX8_passes 28 = .ok (.aload_n 0, 1) := by decide +kernel
theorem dX8_passes_29 : decode cX8_passes 29 = .ok (.iload_n 3, 1) := by decide +kernel
theorem dX8_passes_30 : decode cX8_passes 30 = .ok (.iload_n 3, 1) := by decide +kernel
theorem dX8_passes_31 : decode cX8_passes 31 = .ok (.iconst 1, 1) := by decide +kernel
theorem dX8_passes_32 : decode cX8_passes 32 = .ok (.iadd, 1) := by decide +kernel
theorem dX8_passes_33 : decode cX8_passes 33 = .ok (.invokevirtual 66, 3) := by decide +kernel
theorem dX8_passes_36 : decode cX8_passes 36 = .ok (.istore 4, 2) := by decide +kernel
theorem dX8_passes_38 : decode cX8_passes 38 = .ok (.iload 4, 2) := by decide +kernel
theorem dX8_passes_40 : decode cX8_passes 40 = .ok (.ifCond .ge 7, 3) := by decide +kernel
theorem dX8_passes_43 : decode cX8_passes 43 = .ok (.iconst 1, 1) := by decide +kernel
theorem dX8_passes_44 : decode cX8_passes 44 = .ok (.goto 13, 3) := by decide +kernel
theorem dX8_passes_47 : decode cX8_passes 47 = .ok (.iload 4, 2) := by decide +kernel
theorem dX8_passes_49 : decode cX8_passes 49 = .ok (.ifCond .ne 7, 3) := by decide +kernel
theorem dX8_passes_52 : decode cX8_passes 52 = .ok (.iconst 2, 1) := by decide +kernel
theorem dX8_passes_53 : decode cX8_passes 53 = .ok (.goto 4, 3) := by decide +kernel
theorem dX8_passes_56 : decode cX8_passes 56 = .ok (.iconst 0, 1) := by decide +kernel
theorem dX8_passes_57 : decode cX8_passes 57 = .ok (.ireturn, 1) := by decide +kernel
theorem dX8_passes_58 : decode cX8_passes 58 = .ok (.aload_n 0, 1) := by decide +kernel
theorem dX8_passes_59 : decode cX8_passes 59 = .ok (.aload_n 0, 1) := by decide +kernel
theorem dX8_passes_60 : decode cX8_passes 60 = .ok (.iload_n 1, 1) := by decide +kernel
theorem dX8_passes_61 : decode cX8_passes 61 = .ok (.iload_n 2, 1) := by decide +kernel
theorem dX8_passes_62 : decode cX8_passes 62 = .ok (.iconst 0, 1) := by decide +kernel
theorem dX8_passes_63 : decode cX8_passes 63 = .ok (.iconst 0, 1) := by decide +kernel
theorem dX8_passes_64 : decode cX8_passes 64 = .ok (.invokevirtual 200, 3) := by decide +kernel
theorem dX8_passes_67 : decode cX8_passes 67 = .ok (.aload_n 0, 1) := by decide +kernel
theorem dX8_passes_68 : decode cX8_passes 68 = .ok (.iload_n 1, 1) := by decide +kernel
theorem dX8_passes_69 : decode cX8_passes 69 = .ok (.iload_n 2, 1) := by decide +kernel
theorem dX8_passes_70 : decode cX8_passes 70 = .ok (.iconst 1, 1) := by decide +kernel
theorem dX8_passes_71 : decode cX8_passes 71 = .ok (.iconst 0, 1) := by decide +kernel
theorem dX8_passes_72 : decode cX8_passes 72 = .ok (.invokevirtual 200, 3) := by decide +kernel
theorem dX8_passes_75 : decode cX8_passes 75 = .ok (.invokevirtual 255, 3) := by decide +kernel
theorem dX8_passes_78 : decode cX8_passes 78 = .ok (.istore_n 3, 1) := by decide +kernel
theorem dX8_passes_79 : decode cX8_passes 79 = .ok (.aload_n 0, 1) := by decide +kernel
theorem dX8_passes_80 : decode cX8_passes 80 = .ok (.aload_n 0, 1) := by decide +kernel
theorem dX8_passes_81 : decode cX8_passes 81 = .ok (.iload_n 1, 1) := by decide +kernel
theorem dX8_passes_82 : decode cX8_passes 82 = .ok (.iload_n 2, 1) := by decide +kernel
theorem dX8_passes_83 : decode cX8_passes 83 = .ok (.iconst 0, 1) := by decide +kernel
theorem dX8_passes_84 : decode cX8_passes 84 = .ok (.iconst 1, 1) := by decide +kernel
theorem dX8_passes_85 : decode cX8_passes 85 = .ok (.invokevirtual 200, 3) := by decide +kernel
theorem dX8_passes_88 : decode cX8_passes 88 = .ok (.aload_n 0, 1) := by decide +kernel
theorem dX8_passes_89 : decode cX8_passes 89 = .ok (.iload_n 1, 1) := by decide +kernel
theorem dX8_passes_90 : decode cX8_passes 90 = .ok (.iload_n 2, 1) := by decide +kernel
theorem dX8_passes_91 : decode cX8_passes 91 = .ok (.iconst 1, 1) := by decide +kernel
theorem dX8_passes_92 : decode cX8_passes 92 = .ok (.iconst 1, 1) := by decide +kernel
theorem dX8_passes_93 : decode cX8_passes 93 = .ok (.invokevirtual 200, 3) := by decide +kernel
theorem dX8_passes_96 : decode cX8_passes 96 = .ok (.invokevirtual 255, 3) := by decide +kernel
theorem dX8_passes_99 : decode cX8_passes 99 = .ok (.istore 4, 2) := by decide +kernel
theorem dX8_passes_101 : decode cX8_passes 101 = .ok (.aload_n 0, 1) := by decide +kernel
theorem dX8_passes_102 : decode cX8_passes 102 = .ok (.aload_n 0, 1) := by decide +kernel
theorem dX8_passes_103 : decode cX8_passes 103 = .ok (.aload_n 0, 1) := by decide +kernel
theorem dX8_passes_104 : decode cX8_passes 104 = .ok (.aload_n 0, 1) := by decide +kernel
theorem dX8_passes_105 : decode cX8_passes 105 = .ok (.iload_n 1, 1) := by decide +kernel
theorem dX8_passes_106 : decode cX8_passes 106 = .ok (.iload_n 2, 1) := by decide +kernel
theorem dX8_passes_107 : decode cX8_passes 107 = .ok (.iconst 0, 1) := by decide +kernel
theorem dX8_passes_108 : decode cX8_passes 108 = .ok (.iconst 0, 1) := by decide +kernel
theorem dX8_passes_109 : decode cX8_passes 109 = .ok (.invokevirtual 200, 3) := by decide +kernel
theorem dX8_passes_112 : decode cX8_passes 112 = .ok (.invokevirtual 115, 3) := by decide +kernel
theorem dX8_passes_115 : decode cX8_passes 115 = .ok (.aload_n 0, 1) := by decide +kernel
theorem dX8_passes_116 : decode cX8_passes 116 = .ok (.iload_n 1, 1) := by decide +kernel
theorem dX8_passes_117 : decode cX8_passes 117 = .ok (.iload_n 2, 1) := by decide +kernel
theorem dX8_passes_118 : decode cX8_passes 118 = .ok (.iconst 0, 1) := by decide +kernel
theorem dX8_passes_119 : decode cX8_passes 119 = .ok (.iconst 1, 1) := by decide +kernel
theorem dX8_passes_120 : decode cX8_passes 120 = .ok (.invokevirtual 200, 3) := by decide +kernel
theorem dX8_passes_123 : decode cX8_passes 123 = .ok (.invokevirtual 118, 3) := by decide +kernel
theorem dX8_passes_126 : decode cX8_passes 126 = .ok (.aload_n 0, 1) := by decide +kernel
theorem dX8_passes_127 : decode cX8_passes 127 = .ok (.aload_n 0, 1) := by decide +kernel
theorem dX8_passes_128 : decode cX8_passes 128 = .ok (.aload_n 0, 1) := by decide +kernel
theorem dX8_passes_129 : decode cX8_passes 129 = .ok (.iload_n 1, 1) := by decide +kernel
theorem dX8_passes_130 : decode cX8_passes 130 = .ok (.iload_n 2, 1) := by decide +kernel
theorem dX8_passes_131 : decode cX8_passes 131 = .ok (.iconst 1, 1) := by decide +kernel
theorem dX8_passes_132 : decode cX8_passes 132 = .ok (.iconst 0, 1) := by decide +kernel
theorem dX8_passes_133 : decode cX8_passes 133 = .ok (.invokevirtual 200, 3) := by decide +kernel
theorem dX8_passes_136 : decode cX8_passes 136 = .ok (.invokevirtual 115, 3) := by decide +kernel
theorem dX8_passes_139 : decode cX8_passes 139 = .ok (.aload_n 0, 1) := by decide +kernel
theorem dX8_passes_140 : decode cX8_passes 140 = .ok (.iload_n 1, 1) := by decide +kernel
theorem dX8_passes_141 : decode cX8_passes 141 = .ok (.iload_n 2, 1) := by decide +kernel
theorem dX8_passes_142 : decode cX8_passes 142 = .ok (.iconst 1, 1) := by decide +kernel
theorem dX8_passes_143 : decode cX8_passes 143 = .ok (.iconst 1, 1) := by decide +kernel
theorem dX8_passes_144 : decode cX8_passes 144 = .ok (.invokevirtual 200, 3) := by decide +kernel
theorem dX8_passes_147 : decode cX8_passes 147 = .ok (.invokevirtual 118, 3) := by decide +kernel
theorem dX8_passes_150 : decode cX8_passes 150 = .ok (.invokevirtual 109, 3) := by decide +kernel
theorem dX8_passes_153 : decode cX8_passes 153 = .ok (.istore 5, 2) := by decide +kernel
theorem dX8_passes_155 : decode cX8_passes 155 = .ok (.aload_n 0, 1) := by decide +kernel
theorem dX8_passes_156 : decode cX8_passes 156 = .ok (.iload_n 3, 1) := by decide +kernel
theorem dX8_passes_157 : decode cX8_passes 157 = .ok (.invokevirtual 258, 3) := by decide +kernel
theorem dX8_passes_160 : decode cX8_passes 160 = .ok (.ifCond .lt 12, 3) := by decide +kernel
theorem dX8_passes_163 : decode cX8_passes 163 = .ok (.aload_n 0, 1) := by decide +kernel
theorem dX8_passes_164 : decode cX8_passes 164 = .ok (.iload 4, 2) := by decide +kernel
theorem dX8_passes_166 : decode cX8_passes 166 = .ok (.invokevirtual 258, 3) := by decide +kernel
theorem dX8_passes_169 : decode cX8_passes 169 = .ok (.ifCond .ge 5, 3) := by decide +kernel
theorem dX8_passes_172 : decode cX8_passes 172 = .ok (.iconst 0, 1) := by decide +kernel
theorem dX8_passes_173 : decode cX8_passes 173 = .ok (.ireturn, 1) := by decide +kernel
theorem dX8_passes_174 : decode cX8_passes 174 = .ok (.aload_n 0, 1) := by decide +kernel
theorem dX8_passes_175 : decode cX8_passes 175 = .ok (.iload 5, 2) := by decide +kernel
theorem dX8_passes_177 : decode cX8_passes 177 = .ok (.invokevirtual 252, 3) := by decide +kernel
theorem dX8_passes_180 : decode cX8_passes 180 = .ok (.istore 6, 2) := by decide +kernel
theorem dX8_passes_182 : decode cX8_passes 182 = .ok (.aload_n 0, 1) := by decide +kernel
theorem dX8_passes_183 : decode cX8_passes 183 = .ok (.iload_n 3, 1) := by decide +kernel
theorem dX8_passes_184 : decode cX8_passes 184 = .ok (.iload 4, 2) := by decide +kernel
theorem dX8_passes_186 : decode cX8_passes 186 = .ok (.invokevirtual 118, 3) := by decide +kernel
theorem dX8_passes_189 : decode cX8_passes 189 = .ok (.istore 7, 2) := by decide +kernel
theorem dX8_passes_191 : decode cX8_passes 191 = .ok (.aload_n 0, 1) := by decide +kernel
theorem dX8_passes_192 : decode cX8_passes 192 = .ok (.aload_n 0, 1) := by decide +kernel
theorem dX8_passes_193 : decode cX8_passes 193 = .ok (.aload_n 0, 1) := by decide +kernel
theorem dX8_passes_194 : decode cX8_passes 194 = .ok (.iload 7, 2) := by decide +kernel
theorem dX8_passes_196 : decode cX8_passes 196 = .ok (.iload 6, 2) := by decide +kernel
theorem dX8_passes_198 : decode cX8_passes 198 = .ok (.iconst 1, 1) := by decide +kernel
theorem dX8_passes_199 : decode cX8_passes 199 = .ok (.iadd, 1) := by decide +kernel
theorem dX8_passes_200 : decode cX8_passes 200 = .ok (.invokevirtual 93, 3) := by decide +kernel
theorem dX8_passes_203 : decode cX8_passes 203 = .ok (.aload_n 0, 1) := by decide +kernel
theorem dX8_passes_204 : decode cX8_passes 204 = .ok (.iload 6, 2) := by decide +kernel
theorem dX8_passes_206 : decode cX8_passes 206 = .ok (.iload 7, 2) := by decide +kernel
theorem dX8_passes_208 : decode cX8_passes 208 = .ok (.iconst 2, 1) := by decide +kernel
theorem dX8_passes_209 : decode cX8_passes 209 = .ok (.iadd, 1) := by decide +kernel
theorem dX8_passes_210 : decode cX8_passes 210 = .ok (.invokevirtual 93, 3) := by decide +kernel
theorem dX8_passes_213 : decode cX8_passes 213 = .ok (.invokevirtual 112, 3) := by decide +kernel
theorem dX8_passes_216 : decode cX8_passes 216 = .ok (.invokevirtual 258, 3) := by decide +kernel
theorem dX8_passes_219 : decode cX8_passes 219 = .ok (.istore 8, 2) := by decide +kernel
theorem dX8_passes_221 : decode cX8_passes 221 = .ok (.iload 8, 2) := by decide +kernel
theorem dX8_passes_223 : decode cX8_passes 223 = .ok (.ifCond .ge 5, 3) := by decide +kernel
theorem dX8_passes_226 : decode cX8_passes 226 = .ok (.iconst 0, 1) := by decide +kernel
theorem dX8_passes_227 : decode cX8_passes 227 = .ok (.ireturn, 1) := by decide +kernel
theorem dX8_passes_228 : decode cX8_passes 228 = .ok (.aload_n 0, 1) := by decide +kernel
theorem dX8_passes_229 : decode cX8_passes 229 = .ok (.iload_n 3, 1) := by decide +kernel
theorem dX8_passes_230 : decode cX8_passes 230 = .ok (.invokevirtual 124, 3) := by decide +kernel
theorem dX8_passes_233 : decode cX8_passes 233 = .ok (.ifCond .eq 25, 3) := by decide +kernel
theorem dX8_passes_236 : decode cX8_passes 236 = .ok (.aload_n 0, 1) := by decide +kernel
theorem dX8_passes_237 : decode cX8_passes 237 = .ok (.iload 4, 2) := by decide +kernel
theorem dX8_passes_239 : decode cX8_passes 239 = .ok (.invokevirtual 124, 3) := by decide +kernel
theorem dX8_passes_242 : decode cX8_passes 242 = .ok (.ifCond .eq 16, 3) := by decide +kernel
theorem dX8_passes_245 : decode cX8_passes 245 = .ok (.aload_n 0, 1) := by decide +kernel
theorem dX8_passes_246 : decode cX8_passes 246 = .ok (.iload 5, 2) := by decide +kernel
theorem dX8_passes_248 : decode cX8_passes 248 = .ok (.invokevirtual 206, 3) := by decide +kernel
theorem dX8_passes_251 : decode cX8_passes 251 = .ok (.ifCond .eq 7, 3) := by decide +kernel
theorem dX8_passes_254 : decode cX8_passes 254 = .ok (.iconst 2, 1) := by decide +kernel
theorem dX8_passes_255 : decode cX8_passes 255 = .ok (.goto 4, 3) := by decide +kernel
theorem dX8_passes_258 : decode cX8_passes 258 = .ok (.iconst 1, 1) := by decide +kernel
theorem dX8_passes_259 : decode cX8_passes 259 = .ok (.ireturn, 1) := by decide +kernel
theorem lack_eq (x y : T3) : lackT x y = (lackI (q3 x) (q3 y), 0, (x.2.2 * x.2.2) * (y.2.2 * y.2.2)) := by
  unfold lackT tadd tneg lackI nrm tsq q3 cre
  refine Prod.ext ?_ (Prod.ext ?_ ?_) <;> dsimp only <;> grind
theorem crs_eq {n : Nat → QR} {x0 x1 x2 x3 : T3} (h0 : n 0 = q3 x0) (h1 : n 1 = q3 x1) (h2 : n 2 = q3 x2) (h3 : n 3 = q3 x3) : tsq (tadd (tmul (tmir x0) x1) (tmul (tmir x2) x3)) = nrm (crsC n) ∧ ((tadd (tmul (tmir x0) x1) (tmul (tmir x2) x3)).1 = 0 ∧ (tadd (tmul (tmir x0) x1) (tmul (tmir x2) x3)).2.1 = 0 ↔ nrm (crsC n) = 0) := by
  have ec : crsC n = (((cmulc (q3 x1).1 (q3 x0).1).1 * (x2.2.2 * x3.2.2)) + 1 * ((cmulc (q3 x3).1 (q3 x2).1).1 * (x0.2.2 * x1.2.2)), ((cmulc (q3 x1).1 (q3 x0).1).2 * (x2.2.2 * x3.2.2)) + 1 * ((cmulc (q3 x3).1 (q3 x2).1).2 * (x0.2.2 * x1.2.2))) := by
    have r : ∀ a b : Int, cmul (cre a) (cre b) = cre (a * b) := fun a b => by unfold cmul cre; exact Prod.ext (by dsimp only; omega) (by dsimp only; omega)
    unfold crsC
    rw [h0, h1, h2, h3]
    show csgn 1 (cmul _ (cmul (cre _) (cre _))) (cmul _ (cmul (cre _) (cre _))) = _
    rw [r, r, cmul_re, cmul_re]
    rfl
  have k1 : ∀ x y : T3, (tmul (tmir x) y).1 = (cmulc (q3 y).1 (q3 x).1).1 := fun x y => by
    show x.1 * y.1 - -x.2.1 * y.2.1 = y.1 * x.1 + y.2.1 * x.2.1
    grind
  have k2 : ∀ x y : T3, (tmul (tmir x) y).2.1 = (cmulc (q3 y).1 (q3 x).1).2 := fun x y => by
    show x.1 * y.2.1 + -x.2.1 * y.1 = y.2.1 * x.1 - y.1 * x.2.1
    grind
  have e1 : (tadd (tmul (tmir x0) x1) (tmul (tmir x2) x3)).1 = (crsC n).1 := by
    rw [ec]
    show (tmul (tmir x0) x1).1 * (x2.2.2 * x3.2.2) + (tmul (tmir x2) x3).1 * (x0.2.2 * x1.2.2) = _
    rw [k1, k1, Int.one_mul]
  have e2 : (tadd (tmul (tmir x0) x1) (tmul (tmir x2) x3)).2.1 = (crsC n).2 := by
    rw [ec]
    show (tmul (tmir x0) x1).2.1 * (x2.2.2 * x3.2.2) + (tmul (tmir x2) x3).2.1 * (x0.2.2 * x1.2.2) = _
    rw [k2, k2]
    simp only [Int.one_mul]
  have e3 : tsq (tadd (tmul (tmir x0) x1) (tmul (tmir x2) x3)) = nrm (crsC n) := by unfold tsq nrm; rw [e1, e2]
  refine ⟨e3, ?_⟩
  rw [e1, e2]
  have a := sq_nn (crsC n).1
  have b := sq_nn (crsC n).2
  constructor
  · rintro ⟨p, q⟩
    unfold nrm
    rw [p, q]; rfl
  · intro h
    unfold nrm at h
    have p : (crsC n).1 * (crsC n).1 = 0 := by omega
    have q : (crsC n).2 * (crsC n).2 = 0 := by omega
    exact ⟨by rcases Int.mul_eq_zero.mp p with z | z <;> exact z, by rcases Int.mul_eq_zero.mp q with z | z <;> exact z⟩
theorem sgc_0 (a : Int) : (sgc a 0 < 0 ↔ a < 0) ∧ (sgc a 0 = 0 ↔ a = 0) := by
  unfold sgc
  split
  · omega
  · split <;> omega
theorem mulp {a b r : Int} (hr : 0 < r) : a * r - b * r < 0 ↔ a < b := by
  rw [← Int.sub_mul]
  constructor
  · intro h
    rcases Int.lt_or_le a b with q | q
    · exact q
    · have := Int.mul_nonneg (show 0 ≤ a - b by omega) (Int.le_of_lt hr); omega
  · intro h
    have := Int.mul_lt_mul_of_pos_right (show a - b < 0 by omega) hr
    omega
theorem pos2 {a b : Int} (h1 : 0 < a) (h2 : 0 < b) : 0 < a * b := Int.mul_pos h1 h2
set_option maxHeartbeats 16000000 in
theorem q_passes (l : Launch) {D : va_G} {ids : Nat → ClassId} {β : Nat} {sh : Nat → Nat × Nat} {N : Nat} {R : Nat → Nat → Option Nat} {F : Nat → Nat → Int} {A : Nat → Int → Int} {S : SP} (hM : MoL sh R N) (hR0 : RepM S F A) {b t : Int} (hb : isB S b) (ht : isT t) : MetX l yX8_passes cX8_passes 9 (some (.int)) 6 139 D ids β sh N R F A [rf 0, pI b, pI t] (pIr (fun z F2 A2 => (0 ≤ z ∧ z ≤ 2) ∧ (Unit → ((1 ≤ z ↔ pasP S b t 2) ∧ (2 ≤ z ↔ pasP S b t 3))) ∧ RepM S F2 A2)) := by
  refine MetX.of (loc := [_, _, _, _, _, _, _, _, _]) (plainFor_of_name (by decide +kernel)) (Nat.le_of_ble_eq_true rfl) rfl ?_
  intro p e s m args below meth c hC hK hr hlk
  obtain ⟨⟨m0, m1⟩, ⟨rx0, r2, r3, r7, r8, r9, r11, r12, r13, r16, r18⟩, ⟨m2, m3⟩, ⟨m4, m5⟩, ⟨m6, m7⟩, ⟨m8, m9⟩, ⟨m10, m11⟩, ⟨m12, m13⟩, ⟨m14, m15⟩, ⟨m16, m17⟩, ⟨m18, m19⟩, ⟨m20, m21⟩, ⟨m22, m23⟩⟩ := id hM
  obtain ⟨hi, b1, b2, b3, b4, b5, b6, b7, b8⟩ := id hR0
  have i1 := hi.1
  have n16 := hi.1.2
  have pt := b2 b hb
  have pt2 := (hi.2.1 b hb).1
  have h0 : held (A 2) (96 * b + 24 * t + 6 * (2 * 0 + 0)) (vS S b t 0) := b6 b t 0 hb ht ⟨by decide, by decide⟩
  have o0 := ((hi.2.1 b hb).2 t 0 ht ⟨by decide, by decide⟩).1
  have oz0 := ((hi.2.1 b hb).2 t 0 ht ⟨by decide, by decide⟩).2
  obtain ⟨x0, ex0⟩ : ∃ x, x = vS S b t 0 := ⟨_, rfl⟩
  rw [← ex0] at h0 o0 oz0
  have h1 : held (A 2) (96 * b + 24 * t + 6 * (2 * 0 + 1)) (vS S b t 1) := b6 b t 1 hb ht ⟨by decide, by decide⟩
  have o1 := ((hi.2.1 b hb).2 t 1 ht ⟨by decide, by decide⟩).1
  have oz1 := ((hi.2.1 b hb).2 t 1 ht ⟨by decide, by decide⟩).2
  obtain ⟨x1, ex1⟩ : ∃ x, x = vS S b t 1 := ⟨_, rfl⟩
  rw [← ex1] at h1 o1 oz1
  have h2 : held (A 2) (96 * b + 24 * t + 6 * (2 * 1 + 0)) (vS S b t 2) := b6 b t 2 hb ht ⟨by decide, by decide⟩
  have o2 := ((hi.2.1 b hb).2 t 2 ht ⟨by decide, by decide⟩).1
  have oz2 := ((hi.2.1 b hb).2 t 2 ht ⟨by decide, by decide⟩).2
  obtain ⟨x2, ex2⟩ : ∃ x, x = vS S b t 2 := ⟨_, rfl⟩
  rw [← ex2] at h2 o2 oz2
  have h3 : held (A 2) (96 * b + 24 * t + 6 * (2 * 1 + 1)) (vS S b t 3) := b6 b t 3 hb ht ⟨by decide, by decide⟩
  have o3 := ((hi.2.1 b hb).2 t 3 ht ⟨by decide, by decide⟩).1
  have oz3 := ((hi.2.1 b hb).2 t 3 ht ⟨by decide, by decide⟩).2
  obtain ⟨x3, ex3⟩ : ∃ x, x = vS S b t 3 := ⟨_, rfl⟩
  rw [← ex3] at h3 o3 oz3
  refine x_aload_n (pc2 := 1) hC rfl rfl dX8_passes_0 rfl ?_
  refine x_iconst (pc2 := 2) hC dX8_passes_1 rfl ?_
  refine p_819 (pc2 := 5) hC hK (by assumption) (by assumption) dX8_passes_2 rfl ?_
  refine x_aload_n (pc2 := 6) hC rfl rfl dX8_passes_5 rfl ?_
  refine g_809 (pc2 := 9) hC hK (by assumption) (by assumption) (by assumption) dX8_passes_6 rfl ?_
  refine x_iload_n (pc2 := 10) hC rfl rfl dX8_passes_9 rfl ?_
  refine x_iald (pc2 := 11) hC hK (by assumption) (by assumption) (by omega) (by decide) dX8_passes_10 rfl ?_
  refine x_iconst (pc2 := 12) hC dX8_passes_11 rfl ?_
  refine x_icmp_ne (tgt := 58) (pc2 := 15) hC (by omega) (by omega) dX8_passes_12 rfl rfl (fun h_12 => ?_) (fun h_12 => ?_)
  · refine x_aload_n (pc2 := 59) hC rfl rfl dX8_passes_58 rfl ?_
    refine x_aload_n (pc2 := 60) hC rfl rfl dX8_passes_59 rfl ?_
    refine x_iload_n (pc2 := 61) hC rfl rfl dX8_passes_60 rfl ?_
    refine x_iload_n (pc2 := 62) hC rfl rfl dX8_passes_61 rfl ?_
    refine x_iconst (pc2 := 63) hC dX8_passes_62 rfl ?_
    refine x_iconst (pc2 := 64) hC dX8_passes_63 rfl ?_
    refine x_cVi (pc2 := 67) (ci := 8) hC hK (t_entry l hM (St.zero (F := F) (A := A)) (by decide) ⟨by omega, by omega⟩ (x := x0) h0 o0.2.2) lk_985 rfl rfl (by decide) (by assumption) (by assumption) ⟨Nat.le_of_ble_eq_true rfl, Nat.le_of_ble_eq_true rfl⟩ ⟨Nat.le_refl _, Nat.le_refl _⟩ rfl (Nat.le_of_ble_eq_true rfl) dX8_passes_64 rfl ?_
    rintro z64 F64 A64 ⟨ez64, V64, hS64, v64, k64, g64⟩
    obtain rfl := ez64.symm
    replace hS64 : St 18 V64 F64 A64 := hS64
    rw [show (0 : Int) + 15 = 15 from rfl]
    obtain ⟨wq64, ewq64⟩ : ∃ w, w = x0 := ⟨_, rfl⟩
    have uwq64 : tr V64 15 = wq64 := by rw [ewq64]; exact v64
    have bwq64 : bdt 25 25 wq64 := by rw [ewq64]; exact (ok_bdt o0)
    clear v64
    refine x_aload_n (pc2 := 68) hC rfl rfl dX8_passes_67 rfl ?_
    refine x_iload_n (pc2 := 69) hC rfl rfl dX8_passes_68 rfl ?_
    refine x_iload_n (pc2 := 70) hC rfl rfl dX8_passes_69 rfl ?_
    refine x_iconst (pc2 := 71) hC dX8_passes_70 rfl ?_
    refine x_iconst (pc2 := 72) hC dX8_passes_71 rfl ?_
    refine x_cVi (pc2 := 75) (ci := 8) hC hK (t_entry l hM hS64 (by decide) ⟨by omega, by omega⟩ (x := x2) (by rw [g64.a (by decide)]; exact h2) o2.2.2) lk_985 rfl rfl (by decide) (by assumption) (by assumption) ⟨Nat.le_of_ble_eq_true rfl, Nat.le_of_ble_eq_true rfl⟩ ⟨Nat.le_refl _, Nat.le_refl _⟩ rfl (Nat.le_of_ble_eq_true rfl) dX8_passes_72 rfl ?_
    rintro z72 F72 A72 ⟨ez72, V72, hS72, v72, k72, g72⟩
    obtain rfl := ez72.symm
    replace hS72 : St 36 V72 F72 A72 := hS72
    have t72_wq64 : tr V72 15 = wq64 := (tr_keep (by decide) k72).trans uwq64
    rw [show (18 : Int) + 15 = 33 from rfl]
    obtain ⟨wq72, ewq72⟩ : ∃ w, w = x2 := ⟨_, rfl⟩
    have uwq72 : tr V72 33 = wq72 := by rw [ewq72]; exact v72
    have bwq72 : bdt 25 25 wq72 := by rw [ewq72]; exact (ok_bdt o2)
    clear v72
    refine x_cVi (pc2 := 78) (ci := 8) hC hK (t_spare l hM hS72 (x := 15) (y := 33) ⟨by decide, by decide⟩ ⟨by decide, by decide⟩ t72_wq64 uwq72 bwq64 bwq72 (by decide) ⟨by decide, by decide⟩) lk_1141 rfl rfl (by decide) (by assumption) (by assumption) ⟨Nat.le_of_ble_eq_true rfl, Nat.le_of_ble_eq_true rfl⟩ ⟨Nat.le_refl _, Nat.le_refl _⟩ rfl (Nat.le_of_ble_eq_true rfl) dX8_passes_75 rfl ?_
    rintro z75 F75 A75 ⟨ez75, V75, hS75, v75, k75, g75⟩
    obtain rfl := ez75.symm
    replace hS75 : St 92 V75 F75 A75 := hS75
    have t75_wq64 : tr V75 15 = wq64 := (tr_keep (by decide) k75).trans t72_wq64
    have t75_wq72 : tr V75 33 = wq72 := (tr_keep (by decide) k75).trans uwq72
    rw [show (36 : Int) + 53 = 89 from rfl]
    obtain ⟨wq75, ewq75⟩ : ∃ w, w = lackT wq64 wq72 := ⟨_, rfl⟩
    have uwq75 : tr V75 89 = wq75 := by rw [ewq75]; exact v75
    have bwq75 : bdt 104 102 wq75 := by rw [ewq75]; exact (bdt_lack bwq64 bwq72 (by decide) (by decide) (by decide))
    clear v75
    refine x_istore_n (pc2 := 79) (loc2 := [_, _, _, _, _, _, _, _, _]) hC rfl (by decide) rfl dX8_passes_78 rfl ?_
    refine x_aload_n (pc2 := 80) hC rfl rfl dX8_passes_79 rfl ?_
    refine x_aload_n (pc2 := 81) hC rfl rfl dX8_passes_80 rfl ?_
    refine x_iload_n (pc2 := 82) hC rfl rfl dX8_passes_81 rfl ?_
    refine x_iload_n (pc2 := 83) hC rfl rfl dX8_passes_82 rfl ?_
    refine x_iconst (pc2 := 84) hC dX8_passes_83 rfl ?_
    refine x_iconst (pc2 := 85) hC dX8_passes_84 rfl ?_
    refine x_cVi (pc2 := 88) (ci := 8) hC hK (t_entry l hM hS75 (by decide) ⟨by omega, by omega⟩ (x := x1) (by rw [((g64.tr g72).tr g75).a (by decide)]; exact h1) o1.2.2) lk_985 rfl rfl (by decide) (by assumption) (by assumption) ⟨Nat.le_of_ble_eq_true rfl, Nat.le_of_ble_eq_true rfl⟩ ⟨Nat.le_refl _, Nat.le_refl _⟩ rfl (Nat.le_of_ble_eq_true rfl) dX8_passes_85 rfl ?_
    rintro z85 F85 A85 ⟨ez85, V85, hS85, v85, k85, g85⟩
    obtain rfl := ez85.symm
    replace hS85 : St 110 V85 F85 A85 := hS85
    have t85_wq64 : tr V85 15 = wq64 := (tr_keep (by decide) k85).trans t75_wq64
    have t85_wq72 : tr V85 33 = wq72 := (tr_keep (by decide) k85).trans t75_wq72
    have t85_wq75 : tr V85 89 = wq75 := (tr_keep (by decide) k85).trans uwq75
    rw [show (92 : Int) + 15 = 107 from rfl]
    obtain ⟨wq85, ewq85⟩ : ∃ w, w = x1 := ⟨_, rfl⟩
    have uwq85 : tr V85 107 = wq85 := by rw [ewq85]; exact v85
    have bwq85 : bdt 25 25 wq85 := by rw [ewq85]; exact (ok_bdt o1)
    clear v85
    refine x_aload_n (pc2 := 89) hC rfl rfl dX8_passes_88 rfl ?_
    refine x_iload_n (pc2 := 90) hC rfl rfl dX8_passes_89 rfl ?_
    refine x_iload_n (pc2 := 91) hC rfl rfl dX8_passes_90 rfl ?_
    refine x_iconst (pc2 := 92) hC dX8_passes_91 rfl ?_
    refine x_iconst (pc2 := 93) hC dX8_passes_92 rfl ?_
    refine x_cVi (pc2 := 96) (ci := 8) hC hK (t_entry l hM hS85 (by decide) ⟨by omega, by omega⟩ (x := x3) (by rw [(((g64.tr g72).tr g75).tr g85).a (by decide)]; exact h3) o3.2.2) lk_985 rfl rfl (by decide) (by assumption) (by assumption) ⟨Nat.le_of_ble_eq_true rfl, Nat.le_of_ble_eq_true rfl⟩ ⟨Nat.le_refl _, Nat.le_refl _⟩ rfl (Nat.le_of_ble_eq_true rfl) dX8_passes_93 rfl ?_
    rintro z93 F93 A93 ⟨ez93, V93, hS93, v93, k93, g93⟩
    obtain rfl := ez93.symm
    replace hS93 : St 128 V93 F93 A93 := hS93
    have t93_wq64 : tr V93 15 = wq64 := (tr_keep (by decide) k93).trans t85_wq64
    have t93_wq72 : tr V93 33 = wq72 := (tr_keep (by decide) k93).trans t85_wq72
    have t93_wq75 : tr V93 89 = wq75 := (tr_keep (by decide) k93).trans t85_wq75
    have t93_wq85 : tr V93 107 = wq85 := (tr_keep (by decide) k93).trans uwq85
    rw [show (110 : Int) + 15 = 125 from rfl]
    obtain ⟨wq93, ewq93⟩ : ∃ w, w = x3 := ⟨_, rfl⟩
    have uwq93 : tr V93 125 = wq93 := by rw [ewq93]; exact v93
    have bwq93 : bdt 25 25 wq93 := by rw [ewq93]; exact (ok_bdt o3)
    clear v93
    refine x_cVi (pc2 := 99) (ci := 8) hC hK (t_spare l hM hS93 (x := 107) (y := 125) ⟨by decide, by decide⟩ ⟨by decide, by decide⟩ t93_wq85 uwq93 bwq85 bwq93 (by decide) ⟨by decide, by decide⟩) lk_1141 rfl rfl (by decide) (by assumption) (by assumption) ⟨Nat.le_of_ble_eq_true rfl, Nat.le_of_ble_eq_true rfl⟩ ⟨Nat.le_refl _, Nat.le_refl _⟩ rfl (Nat.le_of_ble_eq_true rfl) dX8_passes_96 rfl ?_
    rintro z96 F96 A96 ⟨ez96, V96, hS96, v96, k96, g96⟩
    obtain rfl := ez96.symm
    replace hS96 : St 184 V96 F96 A96 := hS96
    have t96_wq64 : tr V96 15 = wq64 := (tr_keep (by decide) k96).trans t93_wq64
    have t96_wq72 : tr V96 33 = wq72 := (tr_keep (by decide) k96).trans t93_wq72
    have t96_wq75 : tr V96 89 = wq75 := (tr_keep (by decide) k96).trans t93_wq75
    have t96_wq85 : tr V96 107 = wq85 := (tr_keep (by decide) k96).trans t93_wq85
    have t96_wq93 : tr V96 125 = wq93 := (tr_keep (by decide) k96).trans uwq93
    rw [show (128 : Int) + 53 = 181 from rfl]
    obtain ⟨wq96, ewq96⟩ : ∃ w, w = lackT wq85 wq93 := ⟨_, rfl⟩
    have uwq96 : tr V96 181 = wq96 := by rw [ewq96]; exact v96
    have bwq96 : bdt 104 102 wq96 := by rw [ewq96]; exact (bdt_lack bwq85 bwq93 (by decide) (by decide) (by decide))
    clear v96
    refine x_istore (pc2 := 101) (loc2 := [_, _, _, _, _, _, _, _, _]) hC (by decide) rfl dX8_passes_99 rfl ?_
    refine x_aload_n (pc2 := 102) hC rfl rfl dX8_passes_101 rfl ?_
    refine x_aload_n (pc2 := 103) hC rfl rfl dX8_passes_102 rfl ?_
    refine x_aload_n (pc2 := 104) hC rfl rfl dX8_passes_103 rfl ?_
    refine x_aload_n (pc2 := 105) hC rfl rfl dX8_passes_104 rfl ?_
    refine x_iload_n (pc2 := 106) hC rfl rfl dX8_passes_105 rfl ?_
    refine x_iload_n (pc2 := 107) hC rfl rfl dX8_passes_106 rfl ?_
    refine x_iconst (pc2 := 108) hC dX8_passes_107 rfl ?_
    refine x_iconst (pc2 := 109) hC dX8_passes_108 rfl ?_
    refine x_cVi (pc2 := 112) (ci := 8) hC hK (t_entry l hM hS96 (by decide) ⟨by omega, by omega⟩ (x := x0) (by rw [(((((g64.tr g72).tr g75).tr g85).tr g93).tr g96).a (by decide)]; exact h0) o0.2.2) lk_985 rfl rfl (by decide) (by assumption) (by assumption) ⟨Nat.le_of_ble_eq_true rfl, Nat.le_of_ble_eq_true rfl⟩ ⟨Nat.le_refl _, Nat.le_refl _⟩ rfl (Nat.le_of_ble_eq_true rfl) dX8_passes_109 rfl ?_
    rintro z109 F109 A109 ⟨ez109, V109, hS109, v109, k109, g109⟩
    obtain rfl := ez109.symm
    replace hS109 : St 202 V109 F109 A109 := hS109
    have t109_wq64 : tr V109 15 = wq64 := (tr_keep (by decide) k109).trans t96_wq64
    have t109_wq72 : tr V109 33 = wq72 := (tr_keep (by decide) k109).trans t96_wq72
    have t109_wq75 : tr V109 89 = wq75 := (tr_keep (by decide) k109).trans t96_wq75
    have t109_wq85 : tr V109 107 = wq85 := (tr_keep (by decide) k109).trans t96_wq85
    have t109_wq93 : tr V109 125 = wq93 := (tr_keep (by decide) k109).trans t96_wq93
    have t109_wq96 : tr V109 181 = wq96 := (tr_keep (by decide) k109).trans uwq96
    rw [show (184 : Int) + 15 = 199 from rfl]
    obtain ⟨wq109, ewq109⟩ : ∃ w, w = x0 := ⟨_, rfl⟩
    have uwq109 : tr V109 199 = wq109 := by rw [ewq109]; exact v109
    have bwq109 : bdt 25 25 wq109 := by rw [ewq109]; exact (ok_bdt o0)
    clear v109
    refine x_cVi (pc2 := 115) (ci := 8) hC hK (t_mir l hM hS109 (x := 199) ⟨by decide, by decide⟩ uwq109 bwq109 (by decide)) lk_1048 rfl rfl (by decide) (by assumption) (by assumption) ⟨Nat.le_of_ble_eq_true rfl, Nat.le_of_ble_eq_true rfl⟩ ⟨Nat.le_refl _, Nat.le_refl _⟩ rfl (Nat.le_of_ble_eq_true rfl) dX8_passes_112 rfl ?_
    rintro z112 F112 A112 ⟨ez112, V112, hS112, v112, k112, g112⟩
    obtain rfl := ez112.symm
    replace hS112 : St 206 V112 F112 A112 := hS112
    have t112_wq64 : tr V112 15 = wq64 := (tr_keep (by decide) k112).trans t109_wq64
    have t112_wq72 : tr V112 33 = wq72 := (tr_keep (by decide) k112).trans t109_wq72
    have t112_wq75 : tr V112 89 = wq75 := (tr_keep (by decide) k112).trans t109_wq75
    have t112_wq85 : tr V112 107 = wq85 := (tr_keep (by decide) k112).trans t109_wq85
    have t112_wq93 : tr V112 125 = wq93 := (tr_keep (by decide) k112).trans t109_wq93
    have t112_wq96 : tr V112 181 = wq96 := (tr_keep (by decide) k112).trans t109_wq96
    have t112_wq109 : tr V112 199 = wq109 := (tr_keep (by decide) k112).trans uwq109
    rw [show (202 : Int) + 1 = 203 from rfl]
    obtain ⟨wq112, ewq112⟩ : ∃ w, w = tmir wq109 := ⟨_, rfl⟩
    have uwq112 : tr V112 203 = wq112 := by rw [ewq112]; exact v112
    have bwq112 : bdt 25 25 wq112 := by rw [ewq112]; exact (bdt_mir bwq109)
    clear v112
    refine x_aload_n (pc2 := 116) hC rfl rfl dX8_passes_115 rfl ?_
    refine x_iload_n (pc2 := 117) hC rfl rfl dX8_passes_116 rfl ?_
    refine x_iload_n (pc2 := 118) hC rfl rfl dX8_passes_117 rfl ?_
    refine x_iconst (pc2 := 119) hC dX8_passes_118 rfl ?_
    refine x_iconst (pc2 := 120) hC dX8_passes_119 rfl ?_
    refine x_cVi (pc2 := 123) (ci := 8) hC hK (t_entry l hM hS112 (by decide) ⟨by omega, by omega⟩ (x := x1) (by rw [(((((((g64.tr g72).tr g75).tr g85).tr g93).tr g96).tr g109).tr g112).a (by decide)]; exact h1) o1.2.2) lk_985 rfl rfl (by decide) (by assumption) (by assumption) ⟨Nat.le_of_ble_eq_true rfl, Nat.le_of_ble_eq_true rfl⟩ ⟨Nat.le_refl _, Nat.le_refl _⟩ rfl (Nat.le_of_ble_eq_true rfl) dX8_passes_120 rfl ?_
    rintro z120 F120 A120 ⟨ez120, V120, hS120, v120, k120, g120⟩
    obtain rfl := ez120.symm
    replace hS120 : St 224 V120 F120 A120 := hS120
    have t120_wq64 : tr V120 15 = wq64 := (tr_keep (by decide) k120).trans t112_wq64
    have t120_wq72 : tr V120 33 = wq72 := (tr_keep (by decide) k120).trans t112_wq72
    have t120_wq75 : tr V120 89 = wq75 := (tr_keep (by decide) k120).trans t112_wq75
    have t120_wq85 : tr V120 107 = wq85 := (tr_keep (by decide) k120).trans t112_wq85
    have t120_wq93 : tr V120 125 = wq93 := (tr_keep (by decide) k120).trans t112_wq93
    have t120_wq96 : tr V120 181 = wq96 := (tr_keep (by decide) k120).trans t112_wq96
    have t120_wq109 : tr V120 199 = wq109 := (tr_keep (by decide) k120).trans t112_wq109
    have t120_wq112 : tr V120 203 = wq112 := (tr_keep (by decide) k120).trans uwq112
    rw [show (206 : Int) + 15 = 221 from rfl]
    obtain ⟨wq120, ewq120⟩ : ∃ w, w = x1 := ⟨_, rfl⟩
    have uwq120 : tr V120 221 = wq120 := by rw [ewq120]; exact v120
    have bwq120 : bdt 25 25 wq120 := by rw [ewq120]; exact (ok_bdt o1)
    clear v120
    refine x_cVi (pc2 := 126) (ci := 8) hC hK (t_product l hM hS120 (x := 203) (y := 221) ⟨by decide, by decide⟩ ⟨by decide, by decide⟩ t120_wq112 uwq120 bwq112 bwq120 (by decide) ⟨by decide, by decide⟩) lk_1004 rfl rfl (by decide) (by assumption) (by assumption) ⟨Nat.le_of_ble_eq_true rfl, Nat.le_of_ble_eq_true rfl⟩ ⟨Nat.le_refl _, Nat.le_refl _⟩ rfl (Nat.le_of_ble_eq_true rfl) dX8_passes_123 rfl ?_
    rintro z123 F123 A123 ⟨ez123, V123, hS123, v123, k123, g123⟩
    obtain rfl := ez123.symm
    replace hS123 : St 235 V123 F123 A123 := hS123
    have t123_wq64 : tr V123 15 = wq64 := (tr_keep (by decide) k123).trans t120_wq64
    have t123_wq72 : tr V123 33 = wq72 := (tr_keep (by decide) k123).trans t120_wq72
    have t123_wq75 : tr V123 89 = wq75 := (tr_keep (by decide) k123).trans t120_wq75
    have t123_wq85 : tr V123 107 = wq85 := (tr_keep (by decide) k123).trans t120_wq85
    have t123_wq93 : tr V123 125 = wq93 := (tr_keep (by decide) k123).trans t120_wq93
    have t123_wq96 : tr V123 181 = wq96 := (tr_keep (by decide) k123).trans t120_wq96
    have t123_wq109 : tr V123 199 = wq109 := (tr_keep (by decide) k123).trans t120_wq109
    have t123_wq112 : tr V123 203 = wq112 := (tr_keep (by decide) k123).trans t120_wq112
    have t123_wq120 : tr V123 221 = wq120 := (tr_keep (by decide) k123).trans uwq120
    rw [show (224 : Int) + 8 = 232 from rfl]
    obtain ⟨wq123, ewq123⟩ : ∃ w, w = tmul wq112 wq120 := ⟨_, rfl⟩
    have uwq123 : tr V123 232 = wq123 := by rw [ewq123]; exact v123
    have bwq123 : bdt 51 50 wq123 := by rw [ewq123]; exact (bdt_mul bwq112 bwq120 (by decide) (by decide))
    clear v123
    refine x_aload_n (pc2 := 127) hC rfl rfl dX8_passes_126 rfl ?_
    refine x_aload_n (pc2 := 128) hC rfl rfl dX8_passes_127 rfl ?_
    refine x_aload_n (pc2 := 129) hC rfl rfl dX8_passes_128 rfl ?_
    refine x_iload_n (pc2 := 130) hC rfl rfl dX8_passes_129 rfl ?_
    refine x_iload_n (pc2 := 131) hC rfl rfl dX8_passes_130 rfl ?_
    refine x_iconst (pc2 := 132) hC dX8_passes_131 rfl ?_
    refine x_iconst (pc2 := 133) hC dX8_passes_132 rfl ?_
    refine x_cVi (pc2 := 136) (ci := 8) hC hK (t_entry l hM hS123 (by decide) ⟨by omega, by omega⟩ (x := x2) (by rw [(((((((((g64.tr g72).tr g75).tr g85).tr g93).tr g96).tr g109).tr g112).tr g120).tr g123).a (by decide)]; exact h2) o2.2.2) lk_985 rfl rfl (by decide) (by assumption) (by assumption) ⟨Nat.le_of_ble_eq_true rfl, Nat.le_of_ble_eq_true rfl⟩ ⟨Nat.le_refl _, Nat.le_refl _⟩ rfl (Nat.le_of_ble_eq_true rfl) dX8_passes_133 rfl ?_
    rintro z133 F133 A133 ⟨ez133, V133, hS133, v133, k133, g133⟩
    obtain rfl := ez133.symm
    replace hS133 : St 253 V133 F133 A133 := hS133
    have t133_wq64 : tr V133 15 = wq64 := (tr_keep (by decide) k133).trans t123_wq64
    have t133_wq72 : tr V133 33 = wq72 := (tr_keep (by decide) k133).trans t123_wq72
    have t133_wq75 : tr V133 89 = wq75 := (tr_keep (by decide) k133).trans t123_wq75
    have t133_wq85 : tr V133 107 = wq85 := (tr_keep (by decide) k133).trans t123_wq85
    have t133_wq93 : tr V133 125 = wq93 := (tr_keep (by decide) k133).trans t123_wq93
    have t133_wq96 : tr V133 181 = wq96 := (tr_keep (by decide) k133).trans t123_wq96
    have t133_wq109 : tr V133 199 = wq109 := (tr_keep (by decide) k133).trans t123_wq109
    have t133_wq112 : tr V133 203 = wq112 := (tr_keep (by decide) k133).trans t123_wq112
    have t133_wq120 : tr V133 221 = wq120 := (tr_keep (by decide) k133).trans t123_wq120
    have t133_wq123 : tr V133 232 = wq123 := (tr_keep (by decide) k133).trans uwq123
    rw [show (235 : Int) + 15 = 250 from rfl]
    obtain ⟨wq133, ewq133⟩ : ∃ w, w = x2 := ⟨_, rfl⟩
    have uwq133 : tr V133 250 = wq133 := by rw [ewq133]; exact v133
    have bwq133 : bdt 25 25 wq133 := by rw [ewq133]; exact (ok_bdt o2)
    clear v133
    refine x_cVi (pc2 := 139) (ci := 8) hC hK (t_mir l hM hS133 (x := 250) ⟨by decide, by decide⟩ uwq133 bwq133 (by decide)) lk_1048 rfl rfl (by decide) (by assumption) (by assumption) ⟨Nat.le_of_ble_eq_true rfl, Nat.le_of_ble_eq_true rfl⟩ ⟨Nat.le_refl _, Nat.le_refl _⟩ rfl (Nat.le_of_ble_eq_true rfl) dX8_passes_136 rfl ?_
    rintro z136 F136 A136 ⟨ez136, V136, hS136, v136, k136, g136⟩
    obtain rfl := ez136.symm
    replace hS136 : St 257 V136 F136 A136 := hS136
    have t136_wq64 : tr V136 15 = wq64 := (tr_keep (by decide) k136).trans t133_wq64
    have t136_wq72 : tr V136 33 = wq72 := (tr_keep (by decide) k136).trans t133_wq72
    have t136_wq75 : tr V136 89 = wq75 := (tr_keep (by decide) k136).trans t133_wq75
    have t136_wq85 : tr V136 107 = wq85 := (tr_keep (by decide) k136).trans t133_wq85
    have t136_wq93 : tr V136 125 = wq93 := (tr_keep (by decide) k136).trans t133_wq93
    have t136_wq96 : tr V136 181 = wq96 := (tr_keep (by decide) k136).trans t133_wq96
    have t136_wq109 : tr V136 199 = wq109 := (tr_keep (by decide) k136).trans t133_wq109
    have t136_wq112 : tr V136 203 = wq112 := (tr_keep (by decide) k136).trans t133_wq112
    have t136_wq120 : tr V136 221 = wq120 := (tr_keep (by decide) k136).trans t133_wq120
    have t136_wq123 : tr V136 232 = wq123 := (tr_keep (by decide) k136).trans t133_wq123
    have t136_wq133 : tr V136 250 = wq133 := (tr_keep (by decide) k136).trans uwq133
    rw [show (253 : Int) + 1 = 254 from rfl]
    obtain ⟨wq136, ewq136⟩ : ∃ w, w = tmir wq133 := ⟨_, rfl⟩
    have uwq136 : tr V136 254 = wq136 := by rw [ewq136]; exact v136
    have bwq136 : bdt 25 25 wq136 := by rw [ewq136]; exact (bdt_mir bwq133)
    clear v136
    refine x_aload_n (pc2 := 140) hC rfl rfl dX8_passes_139 rfl ?_
    refine x_iload_n (pc2 := 141) hC rfl rfl dX8_passes_140 rfl ?_
    refine x_iload_n (pc2 := 142) hC rfl rfl dX8_passes_141 rfl ?_
    refine x_iconst (pc2 := 143) hC dX8_passes_142 rfl ?_
    refine x_iconst (pc2 := 144) hC dX8_passes_143 rfl ?_
    refine x_cVi (pc2 := 147) (ci := 8) hC hK (t_entry l hM hS136 (by decide) ⟨by omega, by omega⟩ (x := x3) (by rw [(((((((((((g64.tr g72).tr g75).tr g85).tr g93).tr g96).tr g109).tr g112).tr g120).tr g123).tr g133).tr g136).a (by decide)]; exact h3) o3.2.2) lk_985 rfl rfl (by decide) (by assumption) (by assumption) ⟨Nat.le_of_ble_eq_true rfl, Nat.le_of_ble_eq_true rfl⟩ ⟨Nat.le_refl _, Nat.le_refl _⟩ rfl (Nat.le_of_ble_eq_true rfl) dX8_passes_144 rfl ?_
    rintro z144 F144 A144 ⟨ez144, V144, hS144, v144, k144, g144⟩
    obtain rfl := ez144.symm
    replace hS144 : St 275 V144 F144 A144 := hS144
    have t144_wq64 : tr V144 15 = wq64 := (tr_keep (by decide) k144).trans t136_wq64
    have t144_wq72 : tr V144 33 = wq72 := (tr_keep (by decide) k144).trans t136_wq72
    have t144_wq75 : tr V144 89 = wq75 := (tr_keep (by decide) k144).trans t136_wq75
    have t144_wq85 : tr V144 107 = wq85 := (tr_keep (by decide) k144).trans t136_wq85
    have t144_wq93 : tr V144 125 = wq93 := (tr_keep (by decide) k144).trans t136_wq93
    have t144_wq96 : tr V144 181 = wq96 := (tr_keep (by decide) k144).trans t136_wq96
    have t144_wq109 : tr V144 199 = wq109 := (tr_keep (by decide) k144).trans t136_wq109
    have t144_wq112 : tr V144 203 = wq112 := (tr_keep (by decide) k144).trans t136_wq112
    have t144_wq120 : tr V144 221 = wq120 := (tr_keep (by decide) k144).trans t136_wq120
    have t144_wq123 : tr V144 232 = wq123 := (tr_keep (by decide) k144).trans t136_wq123
    have t144_wq133 : tr V144 250 = wq133 := (tr_keep (by decide) k144).trans t136_wq133
    have t144_wq136 : tr V144 254 = wq136 := (tr_keep (by decide) k144).trans uwq136
    rw [show (257 : Int) + 15 = 272 from rfl]
    obtain ⟨wq144, ewq144⟩ : ∃ w, w = x3 := ⟨_, rfl⟩
    have uwq144 : tr V144 272 = wq144 := by rw [ewq144]; exact v144
    have bwq144 : bdt 25 25 wq144 := by rw [ewq144]; exact (ok_bdt o3)
    clear v144
    refine x_cVi (pc2 := 150) (ci := 8) hC hK (t_product l hM hS144 (x := 254) (y := 272) ⟨by decide, by decide⟩ ⟨by decide, by decide⟩ t144_wq136 uwq144 bwq136 bwq144 (by decide) ⟨by decide, by decide⟩) lk_1004 rfl rfl (by decide) (by assumption) (by assumption) ⟨Nat.le_of_ble_eq_true rfl, Nat.le_of_ble_eq_true rfl⟩ ⟨Nat.le_refl _, Nat.le_refl _⟩ rfl (Nat.le_of_ble_eq_true rfl) dX8_passes_147 rfl ?_
    rintro z147 F147 A147 ⟨ez147, V147, hS147, v147, k147, g147⟩
    obtain rfl := ez147.symm
    replace hS147 : St 286 V147 F147 A147 := hS147
    have t147_wq64 : tr V147 15 = wq64 := (tr_keep (by decide) k147).trans t144_wq64
    have t147_wq72 : tr V147 33 = wq72 := (tr_keep (by decide) k147).trans t144_wq72
    have t147_wq75 : tr V147 89 = wq75 := (tr_keep (by decide) k147).trans t144_wq75
    have t147_wq85 : tr V147 107 = wq85 := (tr_keep (by decide) k147).trans t144_wq85
    have t147_wq93 : tr V147 125 = wq93 := (tr_keep (by decide) k147).trans t144_wq93
    have t147_wq96 : tr V147 181 = wq96 := (tr_keep (by decide) k147).trans t144_wq96
    have t147_wq109 : tr V147 199 = wq109 := (tr_keep (by decide) k147).trans t144_wq109
    have t147_wq112 : tr V147 203 = wq112 := (tr_keep (by decide) k147).trans t144_wq112
    have t147_wq120 : tr V147 221 = wq120 := (tr_keep (by decide) k147).trans t144_wq120
    have t147_wq123 : tr V147 232 = wq123 := (tr_keep (by decide) k147).trans t144_wq123
    have t147_wq133 : tr V147 250 = wq133 := (tr_keep (by decide) k147).trans t144_wq133
    have t147_wq136 : tr V147 254 = wq136 := (tr_keep (by decide) k147).trans t144_wq136
    have t147_wq144 : tr V147 272 = wq144 := (tr_keep (by decide) k147).trans uwq144
    rw [show (275 : Int) + 8 = 283 from rfl]
    obtain ⟨wq147, ewq147⟩ : ∃ w, w = tmul wq136 wq144 := ⟨_, rfl⟩
    have uwq147 : tr V147 283 = wq147 := by rw [ewq147]; exact v147
    have bwq147 : bdt 51 50 wq147 := by rw [ewq147]; exact (bdt_mul bwq136 bwq144 (by decide) (by decide))
    clear v147
    refine x_cVi (pc2 := 153) (ci := 8) hC hK (t_added l hM hS147 (x := 232) (y := 283) ⟨by decide, by decide⟩ ⟨by decide, by decide⟩ t147_wq123 uwq147 bwq123 bwq147 (by decide) ⟨by decide, by decide, by decide⟩) lk_1020 rfl rfl (by decide) (by assumption) (by assumption) ⟨Nat.le_of_ble_eq_true rfl, Nat.le_of_ble_eq_true rfl⟩ ⟨Nat.le_refl _, Nat.le_refl _⟩ rfl (Nat.le_of_ble_eq_true rfl) dX8_passes_150 rfl ?_
    rintro z150 F150 A150 ⟨ez150, V150, hS150, v150, k150, g150⟩
    obtain rfl := ez150.symm
    replace hS150 : St 296 V150 F150 A150 := hS150
    have t150_wq64 : tr V150 15 = wq64 := (tr_keep (by decide) k150).trans t147_wq64
    have t150_wq72 : tr V150 33 = wq72 := (tr_keep (by decide) k150).trans t147_wq72
    have t150_wq75 : tr V150 89 = wq75 := (tr_keep (by decide) k150).trans t147_wq75
    have t150_wq85 : tr V150 107 = wq85 := (tr_keep (by decide) k150).trans t147_wq85
    have t150_wq93 : tr V150 125 = wq93 := (tr_keep (by decide) k150).trans t147_wq93
    have t150_wq96 : tr V150 181 = wq96 := (tr_keep (by decide) k150).trans t147_wq96
    have t150_wq109 : tr V150 199 = wq109 := (tr_keep (by decide) k150).trans t147_wq109
    have t150_wq112 : tr V150 203 = wq112 := (tr_keep (by decide) k150).trans t147_wq112
    have t150_wq120 : tr V150 221 = wq120 := (tr_keep (by decide) k150).trans t147_wq120
    have t150_wq123 : tr V150 232 = wq123 := (tr_keep (by decide) k150).trans t147_wq123
    have t150_wq133 : tr V150 250 = wq133 := (tr_keep (by decide) k150).trans t147_wq133
    have t150_wq136 : tr V150 254 = wq136 := (tr_keep (by decide) k150).trans t147_wq136
    have t150_wq144 : tr V150 272 = wq144 := (tr_keep (by decide) k150).trans t147_wq144
    have t150_wq147 : tr V150 283 = wq147 := (tr_keep (by decide) k150).trans uwq147
    rw [show (286 : Int) + 7 = 293 from rfl]
    obtain ⟨wq150, ewq150⟩ : ∃ w, w = tadd wq123 wq147 := ⟨_, rfl⟩
    have uwq150 : tr V150 293 = wq150 := by rw [ewq150]; exact v150
    have bwq150 : bdt 102 100 wq150 := by rw [ewq150]; exact (bdt_add bwq123 bwq147 (by decide) (by decide) (by decide))
    clear v150
    refine x_istore (pc2 := 155) (loc2 := [_, _, _, _, _, _, _, _, _]) hC (by decide) rfl dX8_passes_153 rfl ?_
    have pt22 : ptS S b = 2 := by omega
    have vX : wq75.1 = lk1 S b t := by
      rw [ewq75, ewq64, ewq72, lack_eq, ex0, ex2]; rfl
    have vY : wq96.1 = lk2 S b t := by
      rw [ewq96, ewq85, ewq93, lack_eq, ex1, ex3]
      unfold lk2
      rw [if_pos pt22]; rfl
    have rX : wq75.2.2 = (x0.2.2 * x0.2.2) * (x2.2.2 * x2.2.2) := by rw [ewq75, ewq64, ewq72, lack_eq]
    have rY : wq96.2.2 = (x1.2.2 * x1.2.2) * (x3.2.2 * x3.2.2) := by rw [ewq96, ewq85, ewq93, lack_eq]
    have oX : wq75.2.1 = 0 := by rw [ewq75, ewq64, ewq72, lack_eq]
    have oY : wq96.2.1 = 0 := by rw [ewq96, ewq85, ewq93, lack_eq]
    have eZ : wq150 = tadd (tmul (tmir x0) x1) (tmul (tmir x2) x3) := by
      rw [ewq150, ewq123, ewq147, ewq112, ewq136, ewq109, ewq120, ewq133, ewq144]
    obtain ⟨cz1, cz2⟩ := crs_eq (n := nmN S b t) (x0 := x0) (x1 := x1) (x2 := x2) (x3 := x3) (by rw [ex0]; rfl) (by rw [ex1]; rfl) (by rw [ex2]; rfl) (by rw [ex3]; rfl)
    rw [← eZ] at cz1 cz2
    have crv : crS S b t = nrm (crsC (nmN S b t)) := by unfold crS; rw [if_pos pt22]
    rw [← crv] at cz1 cz2
    have rZ : wq150.2.2 = (x0.2.2 * x1.2.2) * (x2.2.2 * x3.2.2) := by rw [eZ]; rfl
    have rZp : 0 < wq150.2.2 * wq150.2.2 := by rw [rZ]; exact pos2 (pos2 (pos2 o0.1 o1.1) (pos2 o2.1 o3.1)) (pos2 (pos2 o0.1 o1.1) (pos2 o2.1 o3.1))
    refine x_aload_n (pc2 := 156) hC rfl rfl dX8_passes_155 rfl ?_
    refine x_iload_n (pc2 := 157) hC rfl rfl dX8_passes_156 rfl ?_
    refine x_cVi (pc2 := 160) (ci := 8) hC hK (n_signOf l hM hS150 (x := 89) ⟨by decide, by decide⟩) lk_1145 rfl rfl (by decide) (by assumption) (by assumption) ⟨Nat.le_of_ble_eq_true rfl, Nat.le_of_ble_eq_true rfl⟩ ⟨Nat.le_refl _, Nat.le_refl _⟩ rfl (Nat.le_of_ble_eq_true rfl) dX8_passes_157 rfl ?_
    rintro z157 F157 A157 ⟨rfl, e1157, e2157⟩
    obtain rfl := e1157.symm
    obtain rfl := e2157.symm
    rw [show V150 89 = wq75.1 from congrArg Prod.fst t150_wq75]
    have sx := sgc_0 wq75.1
    have sxI := sgc_I (a := wq75.1) (b := 0)
    refine x_if_lt (tgt := 172) (pc2 := 163) hC (by omega) dX8_passes_160 rfl rfl (fun h_160 => ?_) (fun h_160 => ?_)
    · have hRz : RepM S F150 A150 := hR0.K ((FrK.f (by decide)).tr ((((((((((((((g64.tr g72).tr g75).tr g85).tr g93).tr g96).tr g109).tr g112).tr g120).tr g123).tr g133).tr g136).tr g144).tr g147).tr g150).K)
      refine x_iconst (pc2 := 173) hC dX8_passes_172 rfl ?_
      exact x_iret hC hr hlk ⟨_, rfl, by decide, fun _ => ⟨⟨fun q => absurd q (by decide), fun q => by unfold pasP at q; rcases q with ⟨z, -⟩ | ⟨-, z1, z2, -⟩ | ⟨z, -⟩ <;> omega⟩, ⟨fun q => absurd q (by decide), fun q => by unfold pasP at q; rcases q with ⟨z, -⟩ | ⟨z, -⟩ | ⟨-, z1, z2, -⟩ <;> omega⟩⟩, hRz⟩ dX8_passes_173
    · refine x_aload_n (pc2 := 164) hC rfl rfl dX8_passes_163 rfl ?_
      refine x_iload (pc2 := 166) hC rfl dX8_passes_164 rfl ?_
      refine x_cVi (pc2 := 169) (ci := 8) hC hK (n_signOf l hM hS150 (x := 181) ⟨by decide, by decide⟩) lk_1145 rfl rfl (by decide) (by assumption) (by assumption) ⟨Nat.le_of_ble_eq_true rfl, Nat.le_of_ble_eq_true rfl⟩ ⟨Nat.le_refl _, Nat.le_refl _⟩ rfl (Nat.le_of_ble_eq_true rfl) dX8_passes_166 rfl ?_
      rintro z166 F166 A166 ⟨rfl, e1166, e2166⟩
      obtain rfl := e1166.symm
      obtain rfl := e2166.symm
      rw [show V150 181 = wq96.1 from congrArg Prod.fst t150_wq96]
      have sy := sgc_0 wq96.1
      have syI := sgc_I (a := wq96.1) (b := 0)
      refine x_if_ge (tgt := 174) (pc2 := 172) hC (by omega) dX8_passes_169 rfl rfl (fun h_169 => ?_) (fun h_169 => ?_)
      · have lx0 : 0 ≤ lk1 S b t := by omega
        have ly0 : 0 ≤ lk2 S b t := by omega
        refine x_aload_n (pc2 := 175) hC rfl rfl dX8_passes_174 rfl ?_
        refine x_iload (pc2 := 177) hC rfl dX8_passes_175 rfl ?_
        refine x_cVi (pc2 := 180) (ci := 8) hC hK (t_size l hM hS150 (x := 293) ⟨by decide, by decide⟩ uwq150 bwq150 (by decide) ⟨by decide, by decide⟩) lk_1137 rfl rfl (by decide) (by assumption) (by assumption) ⟨Nat.le_of_ble_eq_true rfl, Nat.le_of_ble_eq_true rfl⟩ ⟨Nat.le_refl _, Nat.le_refl _⟩ rfl (Nat.le_of_ble_eq_true rfl) dX8_passes_177 rfl ?_
        rintro z177 F177 A177 ⟨ez177, V177, hS177, va177, vb177, k177, g177⟩
        obtain rfl := ez177.symm
        replace hS177 : St 302 V177 F177 A177 := hS177
        have t177_wq75 : tr V177 89 = wq75 := (tr_keep (by decide) k177).trans t150_wq75
        have t177_wq96 : tr V177 181 = wq96 := (tr_keep (by decide) k177).trans t150_wq96
        have t177_wq150 : tr V177 293 = wq150 := (tr_keep (by decide) k177).trans uwq150
        rw [show (296 : Int) + 4 = 300 from rfl]
        have sa177 : V177 300 = tsq wq150 := va177
        have sb177 : V177 301 = wq150.2.2 * wq150.2.2 := vb177
        clear va177 vb177
        refine x_istore (pc2 := 182) (loc2 := [_, _, _, _, _, _, _, _, _]) hC (by decide) rfl dX8_passes_180 rfl ?_
        refine x_aload_n (pc2 := 183) hC rfl rfl dX8_passes_182 rfl ?_
        refine x_iload_n (pc2 := 184) hC rfl rfl dX8_passes_183 rfl ?_
        refine x_iload (pc2 := 186) hC rfl dX8_passes_184 rfl ?_
        refine x_cVi (pc2 := 189) (ci := 8) hC hK (t_product l hM hS177 (x := 89) (y := 181) ⟨by decide, by decide⟩ ⟨by decide, by decide⟩ t177_wq75 t177_wq96 bwq75 bwq96 (by decide) ⟨by decide, by decide⟩) lk_1004 rfl rfl (by decide) (by assumption) (by assumption) ⟨Nat.le_of_ble_eq_true rfl, Nat.le_of_ble_eq_true rfl⟩ ⟨Nat.le_refl _, Nat.le_refl _⟩ rfl (Nat.le_of_ble_eq_true rfl) dX8_passes_186 rfl ?_
        rintro z186 F186 A186 ⟨ez186, V186, hS186, v186, k186, g186⟩
        obtain rfl := ez186.symm
        replace hS186 : St 313 V186 F186 A186 := hS186
        have t186_wq75 : tr V186 89 = wq75 := (tr_keep (by decide) k186).trans t177_wq75
        have t186_wq96 : tr V186 181 = wq96 := (tr_keep (by decide) k186).trans t177_wq96
        have t186_wq150 : tr V186 293 = wq150 := (tr_keep (by decide) k186).trans t177_wq150
        have t186_a177 : V186 300 = tsq wq150 := (k186 300 (by decide)).trans sa177
        have t186_b177 : V186 301 = wq150.2.2 * wq150.2.2 := (k186 301 (by decide)).trans sb177
        rw [show (302 : Int) + 8 = 310 from rfl]
        obtain ⟨wq186, ewq186⟩ : ∃ w, w = tmul wq75 wq96 := ⟨_, rfl⟩
        have uwq186 : tr V186 310 = wq186 := by rw [ewq186]; exact v186
        have bwq186 : bdt 209 204 wq186 := by rw [ewq186]; exact (bdt_mul bwq75 bwq96 (by decide) (by decide))
        clear v186
        refine x_istore (pc2 := 191) (loc2 := [_, _, _, _, _, _, _, _, _]) hC (by decide) rfl dX8_passes_189 rfl ?_
        refine x_aload_n (pc2 := 192) hC rfl rfl dX8_passes_191 rfl ?_
        refine x_aload_n (pc2 := 193) hC rfl rfl dX8_passes_192 rfl ?_
        refine x_aload_n (pc2 := 194) hC rfl rfl dX8_passes_193 rfl ?_
        refine x_iload (pc2 := 196) hC rfl dX8_passes_194 rfl ?_
        refine x_iload (pc2 := 198) hC rfl dX8_passes_196 rfl ?_
        refine x_iconst (pc2 := 199) hC dX8_passes_198 rfl ?_
        refine x_iadd (pc2 := 200) hC dX8_passes_199 rfl ?_
        refine x_cVi (pc2 := 203) (ci := 8) hC hK (n_times l hM hS186 (by decide) (x := 310) (y := 301) ⟨by decide, by decide⟩ ⟨by decide, by decide⟩ (a := 209) (b := 200) (by rw [(show V186 310 = wq186.1 from congrArg (fun q => q.1) uwq186)]; exact bwq186.1) (by rw [t186_b177]; exact (bd_mul (c := 200) bwq150.2.2 bwq150.2.2 (by decide))) (by decide)) lk_953 rfl rfl (by decide) (by assumption) (by assumption) ⟨Nat.le_of_ble_eq_true rfl, Nat.le_of_ble_eq_true rfl⟩ ⟨Nat.le_refl _, Nat.le_refl _⟩ rfl (Nat.le_of_ble_eq_true rfl) dX8_passes_200 rfl ?_
        rintro z200 F200 A200 ⟨ez200, V200, hS200, v200, k200, g200⟩
        obtain rfl := ez200.symm
        replace hS200 : St 314 V200 F200 A200 := hS200
        have t200_wq75 : tr V200 89 = wq75 := (tr_keep (by decide) k200).trans t186_wq75
        have t200_wq96 : tr V200 181 = wq96 := (tr_keep (by decide) k200).trans t186_wq96
        have t200_wq150 : tr V200 293 = wq150 := (tr_keep (by decide) k200).trans t186_wq150
        have t200_wq186 : tr V200 310 = wq186 := (tr_keep (by decide) k200).trans uwq186
        have t200_a177 : V200 300 = tsq wq150 := (k200 300 (by decide)).trans t186_a177
        have t200_b177 : V200 301 = wq150.2.2 * wq150.2.2 := (k200 301 (by decide)).trans t186_b177
        have t200_Bo : V200 310 = wq186.1 := (k200 310 (by decide)).trans (show V186 310 = wq186.1 from congrArg (fun q => q.1) uwq186)
        have t200_Br : V200 312 = wq186.2.2 := (k200 312 (by decide)).trans (show V186 312 = wq186.2.2 from congrArg (fun q => q.2.2) uwq186)
        rw [(show V186 310 = wq186.1 from congrArg (fun q => q.1) uwq186), t186_b177] at v200
        have m200 : V200 313 = (wq186.1) * (wq150.2.2 * wq150.2.2) := v200
        clear v200
        refine x_aload_n (pc2 := 204) hC rfl rfl dX8_passes_203 rfl ?_
        refine x_iload (pc2 := 206) hC rfl dX8_passes_204 rfl ?_
        refine x_iload (pc2 := 208) hC rfl dX8_passes_206 rfl ?_
        refine x_iconst (pc2 := 209) hC dX8_passes_208 rfl ?_
        refine x_iadd (pc2 := 210) hC dX8_passes_209 rfl ?_
        refine x_cVi (pc2 := 213) (ci := 8) hC hK (n_times l hM hS200 (by decide) (x := 300) (y := 312) ⟨by decide, by decide⟩ ⟨by decide, by decide⟩ (a := 205) (b := 204) (by rw [t200_a177]; exact (bd_tsq (e := 205) bwq150 (by decide))) (by rw [t200_Br]; exact bwq186.2.2) (by decide)) lk_953 rfl rfl (by decide) (by assumption) (by assumption) ⟨Nat.le_of_ble_eq_true rfl, Nat.le_of_ble_eq_true rfl⟩ ⟨Nat.le_refl _, Nat.le_refl _⟩ rfl (Nat.le_of_ble_eq_true rfl) dX8_passes_210 rfl ?_
        rintro z210 F210 A210 ⟨ez210, V210, hS210, v210, k210, g210⟩
        obtain rfl := ez210.symm
        replace hS210 : St 315 V210 F210 A210 := hS210
        have t210_wq75 : tr V210 89 = wq75 := (tr_keep (by decide) k210).trans t200_wq75
        have t210_wq96 : tr V210 181 = wq96 := (tr_keep (by decide) k210).trans t200_wq96
        have t210_wq150 : tr V210 293 = wq150 := (tr_keep (by decide) k210).trans t200_wq150
        have t210_wq186 : tr V210 310 = wq186 := (tr_keep (by decide) k210).trans t200_wq186
        have t210_a177 : V210 300 = tsq wq150 := (k210 300 (by decide)).trans t200_a177
        have t210_b177 : V210 301 = wq150.2.2 * wq150.2.2 := (k210 301 (by decide)).trans t200_b177
        have t210_Bo : V210 310 = wq186.1 := (k210 310 (by decide)).trans t200_Bo
        have t210_Br : V210 312 = wq186.2.2 := (k210 312 (by decide)).trans t200_Br
        have t210_m200 : V210 313 = (wq186.1) * (wq150.2.2 * wq150.2.2) := (k210 313 (by decide)).trans m200
        rw [t200_a177, t200_Br] at v210
        have m210 : V210 314 = (tsq wq150) * (wq186.2.2) := v210
        clear v210
        refine x_cVi (pc2 := 216) (ci := 8) hC hK (n_less l hM hS210 (by decide) (x := 313) (y := 314) ⟨by decide, by decide⟩ ⟨by decide, by decide⟩ (a := 409) (b := 409) (by rw [t210_m200]; exact (bd_mul (c := 409) bwq186.1 (bd_mul (c := 200) bwq150.2.2 bwq150.2.2 (by decide)) (by decide))) (by rw [m210]; exact (bd_mul (c := 409) (bd_tsq (e := 205) bwq150 (by decide)) bwq186.2.2 (by decide))) ⟨by decide, by decide⟩) lk_1008 rfl rfl (by decide) (by assumption) (by assumption) ⟨Nat.le_of_ble_eq_true rfl, Nat.le_of_ble_eq_true rfl⟩ ⟨Nat.le_refl _, Nat.le_refl _⟩ rfl (Nat.le_of_ble_eq_true rfl) dX8_passes_213 rfl ?_
        rintro z213 F213 A213 ⟨ez213, V213, hS213, v213, k213, g213⟩
        obtain rfl := ez213.symm
        replace hS213 : St 317 V213 F213 A213 := hS213
        have t213_wq75 : tr V213 89 = wq75 := (tr_keep (by decide) k213).trans t210_wq75
        have t213_wq96 : tr V213 181 = wq96 := (tr_keep (by decide) k213).trans t210_wq96
        have t213_wq150 : tr V213 293 = wq150 := (tr_keep (by decide) k213).trans t210_wq150
        have t213_wq186 : tr V213 310 = wq186 := (tr_keep (by decide) k213).trans t210_wq186
        have t213_a177 : V213 300 = tsq wq150 := (k213 300 (by decide)).trans t210_a177
        have t213_b177 : V213 301 = wq150.2.2 * wq150.2.2 := (k213 301 (by decide)).trans t210_b177
        have t213_Bo : V213 310 = wq186.1 := (k213 310 (by decide)).trans t210_Bo
        have t213_Br : V213 312 = wq186.2.2 := (k213 312 (by decide)).trans t210_Br
        have t213_m200 : V213 313 = (wq186.1) * (wq150.2.2 * wq150.2.2) := (k213 313 (by decide)).trans t210_m200
        have t213_m210 : V213 314 = (tsq wq150) * (wq186.2.2) := (k213 314 (by decide)).trans m210
        rw [t210_m200, m210] at v213
        rw [show (315 : Int) + 1 = 316 from rfl]
        have m213 : V213 316 = ((wq186.1) * (wq150.2.2 * wq150.2.2)) - ((tsq wq150) * (wq186.2.2)) := v213
        clear v213
        refine x_cVi (pc2 := 219) (ci := 8) hC hK (n_signOf l hM hS213 (x := 316) ⟨by decide, by decide⟩) lk_1145 rfl rfl (by decide) (by assumption) (by assumption) ⟨Nat.le_of_ble_eq_true rfl, Nat.le_of_ble_eq_true rfl⟩ ⟨Nat.le_refl _, Nat.le_refl _⟩ rfl (Nat.le_of_ble_eq_true rfl) dX8_passes_216 rfl ?_
        rintro z216 F216 A216 ⟨rfl, e1216, e2216⟩
        obtain rfl := e1216.symm
        obtain rfl := e2216.symm
        rw [m213]
        have sl := sgc_0 (((wq186.1) * (wq150.2.2 * wq150.2.2)) - ((tsq wq150) * (wq186.2.2)))
        have slI := sgc_I (a := ((wq186.1) * (wq150.2.2 * wq150.2.2)) - ((tsq wq150) * (wq186.2.2))) (b := 0)
        have Bo : wq186.1 = lk1 S b t * lk2 S b t := by
          rw [ewq186, ← vX, ← vY]
          show wq75.1 * wq96.1 - wq75.2.1 * wq96.2.1 = _
          rw [oX, Int.zero_mul, Int.sub_zero]
        have Br : wq186.2.2 = wq150.2.2 * wq150.2.2 := by
          rw [ewq186]
          show wq75.2.2 * wq96.2.2 = _
          rw [rX, rY, rZ]
          grind
        have key : (((wq186.1) * (wq150.2.2 * wq150.2.2)) - ((tsq wq150) * (wq186.2.2)) < 0) ↔ lk1 S b t * lk2 S b t < crS S b t := by
          rw [Bo, Br, cz1]
          exact mulp rZp
        have hRz : RepM S F213 A213 := hR0.K ((FrK.f (by decide)).tr (((((((((((((((((((g64.tr g72).tr g75).tr g85).tr g93).tr g96).tr g109).tr g112).tr g120).tr g123).tr g133).tr g136).tr g144).tr g147).tr g150).tr g177).tr g186).tr g200).tr g210).tr g213).K)
        refine x_istore (pc2 := 221) (loc2 := [_, _, _, _, _, _, _, _, _]) hC (by decide) rfl dX8_passes_219 rfl ?_
        refine x_iload (pc2 := 223) hC rfl dX8_passes_221 rfl ?_
        refine x_if_ge (tgt := 228) (pc2 := 226) hC (by omega) dX8_passes_223 rfl rfl (fun h_223 => ?_) (fun h_223 => ?_)
        · refine x_aload_n (pc2 := 229) hC rfl rfl dX8_passes_228 rfl ?_
          refine x_iload_n (pc2 := 230) hC rfl rfl dX8_passes_229 rfl ?_
          refine x_cVi (pc2 := 233) (ci := 8) hC hK (n_isNought l hM hS213 (x := 89) ⟨by decide, by decide⟩) lk_1028 rfl rfl (by decide) (by assumption) (by assumption) ⟨Nat.le_of_ble_eq_true rfl, Nat.le_of_ble_eq_true rfl⟩ ⟨Nat.le_refl _, Nat.le_refl _⟩ rfl (Nat.le_of_ble_eq_true rfl) dX8_passes_230 rfl ?_
          rintro z230 F230 A230 ⟨w230, b230, e1230, e2230⟩
          obtain rfl := e1230.symm
          obtain rfl := e2230.symm
          rw [show V213 89 = wq75.1 from congrArg Prod.fst t213_wq75] at b230
          refine x_if_eq (tgt := 258) (pc2 := 236) hC (by omega) dX8_passes_233 rfl rfl (fun h_233 => ?_) (fun h_233 => ?_)
          · refine x_iconst (pc2 := 259) hC dX8_passes_258 rfl ?_
            refine x_iret hC hr hlk ⟨_, rfl, by decide, fun _ => ?_, hRz⟩ dX8_passes_259
            have kk : crS S b t ≤ lk1 S b t * lk2 S b t := by
              rcases Int.lt_or_le (lk1 S b t * lk2 S b t) (crS S b t) with z | z
              · have := sl.1.mpr (key.mpr z); omega
              · exact z
            have P2 : pasP S b t 2 := Or.inr (Or.inl ⟨rfl, lx0, ly0, kk⟩)
            have P3 : pasP S b t 3 ↔ (lk1 S b t = 0 ∧ lk2 S b t = 0 ∧ crS S b t = 0) := by
              unfold pasP
              constructor
              · rintro (⟨q, -⟩ | ⟨q, -⟩ | ⟨-, q⟩)
                · omega
                · omega
                · exact q
              · exact fun q => Or.inr (Or.inr ⟨rfl, q⟩)
            rw [vX] at b230
            first
              | (refine ⟨⟨fun _ => P2, fun _ => by decide⟩, ⟨fun _ => P3.mpr ⟨(b230 ()).mp h_233, ?_, ?_⟩, fun _ => by decide⟩⟩
                 · rw [← vY]; exact (b239 ()).mp h_242
                 · exact cz2.mp ((b248 ()).mp h_251))
              | (refine ⟨⟨fun _ => P2, fun _ => by decide⟩, ⟨fun q => absurd q (by decide), fun q => ?_⟩⟩
                 obtain ⟨z1, z2, z3⟩ := P3.mp q
                 first
                   | exact absurd h_251 ((b248 ()).mpr (cz2.mpr z3))
                   | exact absurd h_242 ((b239 ()).mpr (by rw [vY]; exact z2))
                   | exact absurd h_233 ((b230 ()).mpr z1))
          · refine x_aload_n (pc2 := 237) hC rfl rfl dX8_passes_236 rfl ?_
            refine x_iload (pc2 := 239) hC rfl dX8_passes_237 rfl ?_
            refine x_cVi (pc2 := 242) (ci := 8) hC hK (n_isNought l hM hS213 (x := 181) ⟨by decide, by decide⟩) lk_1028 rfl rfl (by decide) (by assumption) (by assumption) ⟨Nat.le_of_ble_eq_true rfl, Nat.le_of_ble_eq_true rfl⟩ ⟨Nat.le_refl _, Nat.le_refl _⟩ rfl (Nat.le_of_ble_eq_true rfl) dX8_passes_239 rfl ?_
            rintro z239 F239 A239 ⟨w239, b239, e1239, e2239⟩
            obtain rfl := e1239.symm
            obtain rfl := e2239.symm
            rw [show V213 181 = wq96.1 from congrArg Prod.fst t213_wq96] at b239
            refine x_if_eq (tgt := 258) (pc2 := 245) hC (by omega) dX8_passes_242 rfl rfl (fun h_242 => ?_) (fun h_242 => ?_)
            · refine x_iconst (pc2 := 259) hC dX8_passes_258 rfl ?_
              refine x_iret hC hr hlk ⟨_, rfl, by decide, fun _ => ?_, hRz⟩ dX8_passes_259
              have kk : crS S b t ≤ lk1 S b t * lk2 S b t := by
                rcases Int.lt_or_le (lk1 S b t * lk2 S b t) (crS S b t) with z | z
                · have := sl.1.mpr (key.mpr z); omega
                · exact z
              have P2 : pasP S b t 2 := Or.inr (Or.inl ⟨rfl, lx0, ly0, kk⟩)
              have P3 : pasP S b t 3 ↔ (lk1 S b t = 0 ∧ lk2 S b t = 0 ∧ crS S b t = 0) := by
                unfold pasP
                constructor
                · rintro (⟨q, -⟩ | ⟨q, -⟩ | ⟨-, q⟩)
                  · omega
                  · omega
                  · exact q
                · exact fun q => Or.inr (Or.inr ⟨rfl, q⟩)
              rw [vX] at b230
              first
                | (refine ⟨⟨fun _ => P2, fun _ => by decide⟩, ⟨fun _ => P3.mpr ⟨(b230 ()).mp h_233, ?_, ?_⟩, fun _ => by decide⟩⟩
                   · rw [← vY]; exact (b239 ()).mp h_242
                   · exact cz2.mp ((b248 ()).mp h_251))
                | (refine ⟨⟨fun _ => P2, fun _ => by decide⟩, ⟨fun q => absurd q (by decide), fun q => ?_⟩⟩
                   obtain ⟨z1, z2, z3⟩ := P3.mp q
                   first
                     | exact absurd h_251 ((b248 ()).mpr (cz2.mpr z3))
                     | exact absurd h_242 ((b239 ()).mpr (by rw [vY]; exact z2))
                     | exact absurd h_233 ((b230 ()).mpr z1))
            · refine x_aload_n (pc2 := 246) hC rfl rfl dX8_passes_245 rfl ?_
              refine x_iload (pc2 := 248) hC rfl dX8_passes_246 rfl ?_
              refine x_cVi (pc2 := 251) (ci := 8) hC hK (t_zero l hM hS213 (x := 293) ⟨by decide, by decide⟩ t213_wq150) lk_1024 rfl rfl (by decide) (by assumption) (by assumption) ⟨Nat.le_of_ble_eq_true rfl, Nat.le_of_ble_eq_true rfl⟩ ⟨Nat.le_refl _, Nat.le_refl _⟩ rfl (Nat.le_of_ble_eq_true rfl) dX8_passes_248 rfl ?_
              rintro z248 F248 A248 ⟨w248, b248, e1248, e2248⟩
              obtain rfl := e1248.symm
              obtain rfl := e2248.symm
              refine x_if_eq (tgt := 258) (pc2 := 254) hC (by omega) dX8_passes_251 rfl rfl (fun h_251 => ?_) (fun h_251 => ?_)
              · refine x_iconst (pc2 := 259) hC dX8_passes_258 rfl ?_
                refine x_iret hC hr hlk ⟨_, rfl, by decide, fun _ => ?_, hRz⟩ dX8_passes_259
                have kk : crS S b t ≤ lk1 S b t * lk2 S b t := by
                  rcases Int.lt_or_le (lk1 S b t * lk2 S b t) (crS S b t) with z | z
                  · have := sl.1.mpr (key.mpr z); omega
                  · exact z
                have P2 : pasP S b t 2 := Or.inr (Or.inl ⟨rfl, lx0, ly0, kk⟩)
                have P3 : pasP S b t 3 ↔ (lk1 S b t = 0 ∧ lk2 S b t = 0 ∧ crS S b t = 0) := by
                  unfold pasP
                  constructor
                  · rintro (⟨q, -⟩ | ⟨q, -⟩ | ⟨-, q⟩)
                    · omega
                    · omega
                    · exact q
                  · exact fun q => Or.inr (Or.inr ⟨rfl, q⟩)
                rw [vX] at b230
                first
                  | (refine ⟨⟨fun _ => P2, fun _ => by decide⟩, ⟨fun _ => P3.mpr ⟨(b230 ()).mp h_233, ?_, ?_⟩, fun _ => by decide⟩⟩
                     · rw [← vY]; exact (b239 ()).mp h_242
                     · exact cz2.mp ((b248 ()).mp h_251))
                  | (refine ⟨⟨fun _ => P2, fun _ => by decide⟩, ⟨fun q => absurd q (by decide), fun q => ?_⟩⟩
                     obtain ⟨z1, z2, z3⟩ := P3.mp q
                     first
                       | exact absurd h_251 ((b248 ()).mpr (cz2.mpr z3))
                       | exact absurd h_242 ((b239 ()).mpr (by rw [vY]; exact z2))
                       | exact absurd h_233 ((b230 ()).mpr z1))
              · refine x_iconst (pc2 := 255) hC dX8_passes_254 rfl ?_
                refine x_goto (pc2 := 259) hC dX8_passes_255 rfl ?_
                refine x_iret hC hr hlk ⟨_, rfl, by decide, fun _ => ?_, hRz⟩ dX8_passes_259
                have kk : crS S b t ≤ lk1 S b t * lk2 S b t := by
                  rcases Int.lt_or_le (lk1 S b t * lk2 S b t) (crS S b t) with z | z
                  · have := sl.1.mpr (key.mpr z); omega
                  · exact z
                have P2 : pasP S b t 2 := Or.inr (Or.inl ⟨rfl, lx0, ly0, kk⟩)
                have P3 : pasP S b t 3 ↔ (lk1 S b t = 0 ∧ lk2 S b t = 0 ∧ crS S b t = 0) := by
                  unfold pasP
                  constructor
                  · rintro (⟨q, -⟩ | ⟨q, -⟩ | ⟨-, q⟩)
                    · omega
                    · omega
                    · exact q
                  · exact fun q => Or.inr (Or.inr ⟨rfl, q⟩)
                rw [vX] at b230
                first
                  | (refine ⟨⟨fun _ => P2, fun _ => by decide⟩, ⟨fun _ => P3.mpr ⟨(b230 ()).mp h_233, ?_, ?_⟩, fun _ => by decide⟩⟩
                     · rw [← vY]; exact (b239 ()).mp h_242
                     · exact cz2.mp ((b248 ()).mp h_251))
                  | (refine ⟨⟨fun _ => P2, fun _ => by decide⟩, ⟨fun q => absurd q (by decide), fun q => ?_⟩⟩
                     obtain ⟨z1, z2, z3⟩ := P3.mp q
                     first
                       | exact absurd h_251 ((b248 ()).mpr (cz2.mpr z3))
                       | exact absurd h_242 ((b239 ()).mpr (by rw [vY]; exact z2))
                       | exact absurd h_233 ((b230 ()).mpr z1))
        · refine x_iconst (pc2 := 227) hC dX8_passes_226 rfl ?_
          exact x_iret hC hr hlk ⟨_, rfl, by decide, fun _ => ⟨⟨fun q => absurd q (by decide), fun q => by
            have kk := key.mp (sl.1.mp (by omega))
            unfold pasP at q
            rcases q with ⟨z, -⟩ | ⟨-, -, -, z⟩ | ⟨z, -⟩ <;> omega⟩, ⟨fun q => absurd q (by decide), fun q => by
            have kk := key.mp (sl.1.mp (by omega))
            unfold pasP at q
            rcases q with ⟨z, -⟩ | ⟨z, -⟩ | ⟨-, z1, z2, z3⟩
            · omega
            · omega
            · rw [z1, z2, z3] at kk
              omega⟩⟩, hRz⟩ dX8_passes_227
      · have hRz : RepM S F150 A150 := hR0.K ((FrK.f (by decide)).tr ((((((((((((((g64.tr g72).tr g75).tr g85).tr g93).tr g96).tr g109).tr g112).tr g120).tr g123).tr g133).tr g136).tr g144).tr g147).tr g150).K)
        refine x_iconst (pc2 := 173) hC dX8_passes_172 rfl ?_
        exact x_iret hC hr hlk ⟨_, rfl, by decide, fun _ => ⟨⟨fun q => absurd q (by decide), fun q => by unfold pasP at q; rcases q with ⟨z, -⟩ | ⟨-, z1, z2, -⟩ | ⟨z, -⟩ <;> omega⟩, ⟨fun q => absurd q (by decide), fun q => by unfold pasP at q; rcases q with ⟨z, -⟩ | ⟨z, -⟩ | ⟨-, z1, z2, -⟩ <;> omega⟩⟩, hRz⟩ dX8_passes_173
  · refine x_aload_n (pc2 := 16) hC rfl rfl dX8_passes_15 rfl ?_
    refine x_aload_n (pc2 := 17) hC rfl rfl dX8_passes_16 rfl ?_
    refine x_iload_n (pc2 := 18) hC rfl rfl dX8_passes_17 rfl ?_
    refine x_iload_n (pc2 := 19) hC rfl rfl dX8_passes_18 rfl ?_
    refine x_iconst (pc2 := 20) hC dX8_passes_19 rfl ?_
    refine x_iconst (pc2 := 21) hC dX8_passes_20 rfl ?_
    refine x_cVi (pc2 := 24) (ci := 8) hC hK (t_entry l hM (St.zero (F := F) (A := A)) (by decide) ⟨by omega, by omega⟩ (x := x0) h0 o0.2.2) lk_985 rfl rfl (by decide) (by assumption) (by assumption) ⟨Nat.le_of_ble_eq_true rfl, Nat.le_of_ble_eq_true rfl⟩ ⟨Nat.le_refl _, Nat.le_refl _⟩ rfl (Nat.le_of_ble_eq_true rfl) dX8_passes_21 rfl ?_
    rintro z21 F21 A21 ⟨ez21, V21, hS21, v21, k21, g21⟩
    obtain rfl := ez21.symm
    replace hS21 : St 18 V21 F21 A21 := hS21
    rw [show (0 : Int) + 15 = 15 from rfl]
    obtain ⟨wp21, ewp21⟩ : ∃ w, w = x0 := ⟨_, rfl⟩
    have uwp21 : tr V21 15 = wp21 := by rw [ewp21]; exact v21
    have bwp21 : bdt 25 25 wp21 := by rw [ewp21]; exact (ok_bdt o0)
    clear v21
    refine x_cVi (pc2 := 27) (ci := 8) hC hK (t_size l hM hS21 (x := 15) ⟨by decide, by decide⟩ uwp21 bwp21 (by decide) ⟨by decide, by decide⟩) lk_1137 rfl rfl (by decide) (by assumption) (by assumption) ⟨Nat.le_of_ble_eq_true rfl, Nat.le_of_ble_eq_true rfl⟩ ⟨Nat.le_refl _, Nat.le_refl _⟩ rfl (Nat.le_of_ble_eq_true rfl) dX8_passes_24 rfl ?_
    rintro z24 F24 A24 ⟨ez24, V24, hS24, va24, vb24, k24, g24⟩
    obtain rfl := ez24.symm
    replace hS24 : St 24 V24 F24 A24 := hS24
    have t24_wp21 : tr V24 15 = wp21 := (tr_keep (by decide) k24).trans uwp21
    rw [show (18 : Int) + 4 = 22 from rfl]
    have sa24 : V24 22 = tsq wp21 := va24
    have sb24 : V24 23 = wp21.2.2 * wp21.2.2 := vb24
    clear va24 vb24
    refine x_istore_n (pc2 := 28) (loc2 := [_, _, _, _, _, _, _, _, _]) hC rfl (by decide) rfl dX8_passes_27 rfl ?_
    refine x_aload_n (pc2 := 29) hC rfl rfl dX8_passes_28 rfl ?_
    refine x_iload_n (pc2 := 30) hC rfl rfl dX8_passes_29 rfl ?_
    refine x_iload_n (pc2 := 31) hC rfl rfl dX8_passes_30 rfl ?_
    refine x_iconst (pc2 := 32) hC dX8_passes_31 rfl ?_
    refine x_iadd (pc2 := 33) hC dX8_passes_32 rfl ?_
    refine x_cVi (pc2 := 36) (ci := 8) hC hK (n_stand l hM (x := 22) (y := 22 + 1) ⟨by decide, by decide⟩ ⟨by decide, by decide⟩ (hS24.2.2 22 (by decide) (by decide)).1 (hS24.2.2 (22 + 1) (by decide) (by decide)).1) lk_931 rfl rfl (by decide) (by assumption) (by assumption) ⟨Nat.le_of_ble_eq_true rfl, Nat.le_of_ble_eq_true rfl⟩ ⟨Nat.le_refl _, Nat.le_refl _⟩ rfl (Nat.le_of_ble_eq_true rfl) dX8_passes_33 rfl ?_
    rintro z33 F33 A33 ⟨rfl, e133, e233⟩
    obtain rfl := e133.symm
    obtain rfl := e233.symm
    obtain ⟨k1, l1⟩ := hS24.2.2 22 (by decide) (by decide)
    obtain ⟨k2, l2⟩ := hS24.2.2 (22 + 1) (by decide) (by decide)
    have y1 : mm A24 22 = tsq x0 := by
      rw [mm_na k1, l1, sa24, ewp21]
      exact Int.natAbs_of_nonneg (tsq_nn _)
    have y2 : mm A24 (22 + 1) = x0.2.2 * x0.2.2 := by
      rw [mm_na k2, l2, show (22 : Int) + 1 = 23 from rfl, sb24, ewp21]
      exact Int.natAbs_of_nonneg (sq_nn _)
    rw [y1, y2]
    have cs := sgc_cs (tsq x0) (x0.2.2 * x0.2.2)
    have cs2 := sgc_I (a := tsq x0) (b := x0.2.2 * x0.2.2)
    have cs3 := sgc_cs (x0.2.2 * x0.2.2) (tsq x0)
    have ceq : sgc (tsq x0) (x0.2.2 * x0.2.2) = 0 ↔ tsq x0 = x0.2.2 * x0.2.2 := by
      unfold sgc; split
      · omega
      · split <;> omega
    have pt1 : ptS S b = 1 := by omega
    have lkv : lk1 S b t = x0.2.2 * x0.2.2 - tsq x0 := by
      unfold lk1
      have z2 : vS S b t 2 = z3 := by rw [← ex2]; exact oz2 pt1 (by decide)
      show lackI (q3 (vS S b t 0)) (q3 (vS S b t 2)) = _
      rw [z2, ← ex0]
      unfold lackI nrm tsq q3 cre
      dsimp only
      omega
    have lk2v : lk2 S b t = 0 := by unfold lk2; rw [if_neg (by omega)]
    have crv : crS S b t = 0 := by unfold crS; rw [if_neg (by omega)]
    have P2 : pasP S b t 2 ↔ tsq x0 ≤ x0.2.2 * x0.2.2 := by
      unfold pasP
      rw [lkv, lk2v, crv, Int.mul_zero]
      constructor
      · rintro (⟨q, -⟩ | ⟨-, q, -⟩ | ⟨q, -⟩) <;> omega
      · intro q
        exact Or.inr (Or.inl ⟨rfl, by omega, by decide, by decide⟩)
    have P3 : pasP S b t 3 ↔ tsq x0 = x0.2.2 * x0.2.2 := by
      unfold pasP
      rw [lkv, lk2v, crv]
      constructor
      · rintro (⟨q, -⟩ | ⟨q, -⟩ | ⟨-, q, -⟩) <;> omega
      · intro q
        exact Or.inr (Or.inr ⟨rfl, by omega, rfl, rfl⟩)
    refine x_istore (pc2 := 38) (loc2 := [_, _, _, _, _, _, _, _, _]) hC (by decide) rfl dX8_passes_36 rfl ?_
    refine x_iload (pc2 := 40) hC rfl dX8_passes_38 rfl ?_
    refine x_if_ge (tgt := 47) (pc2 := 43) hC (by omega) dX8_passes_40 rfl rfl (fun h_40 => ?_) (fun h_40 => ?_)
    · refine x_iload (pc2 := 49) hC rfl dX8_passes_47 rfl ?_
      refine x_if_ne (tgt := 56) (pc2 := 52) hC (by omega) dX8_passes_49 rfl rfl (fun h_49 => ?_) (fun h_49 => ?_)
      · refine x_iconst (pc2 := 57) hC dX8_passes_56 rfl ?_
        exact x_iret hC hr hlk ⟨_, rfl, by decide, fun _ => ⟨⟨fun q => P2.mpr (by first | omega | (have := ceq.mp (by omega); omega)), fun q => by have := P2.mp q; first | omega | (have := ceq.mpr (by omega); omega)⟩, ⟨fun q => P3.mpr (by first | omega | (have := ceq.mp (by omega); omega)), fun q => by have := P3.mp q; first | omega | (have := ceq.mpr (by omega); omega)⟩⟩, hR0.K ((FrK.f (by decide)).tr (g21.tr g24).K)⟩ dX8_passes_57
      · refine x_iconst (pc2 := 53) hC dX8_passes_52 rfl ?_
        refine x_goto (pc2 := 57) hC dX8_passes_53 rfl ?_
        exact x_iret hC hr hlk ⟨_, rfl, by decide, fun _ => ⟨⟨fun q => P2.mpr (by first | omega | (have := ceq.mp (by omega); omega)), fun q => by have := P2.mp q; first | omega | (have := ceq.mpr (by omega); omega)⟩, ⟨fun q => P3.mpr (by first | omega | (have := ceq.mp (by omega); omega)), fun q => by have := P3.mp q; first | omega | (have := ceq.mpr (by omega); omega)⟩⟩, hR0.K ((FrK.f (by decide)).tr (g21.tr g24).K)⟩ dX8_passes_57
    · refine x_iconst (pc2 := 44) hC dX8_passes_43 rfl ?_
      refine x_goto (pc2 := 57) hC dX8_passes_44 rfl ?_
      exact x_iret hC hr hlk ⟨_, rfl, by decide, fun _ => ⟨⟨fun q => P2.mpr (by first | omega | (have := ceq.mp (by omega); omega)), fun q => by have := P2.mp q; first | omega | (have := ceq.mpr (by omega); omega)⟩, ⟨fun q => P3.mpr (by first | omega | (have := ceq.mp (by omega); omega)), fun q => by have := P3.mp q; first | omega | (have := ceq.mpr (by omega); omega)⟩⟩, hR0.K ((FrK.f (by decide)).tr (g21.tr g24).K)⟩ dX8_passes_57
