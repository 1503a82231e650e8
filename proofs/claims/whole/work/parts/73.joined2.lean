/-! THE MODEL: acts -/
section XT
variable {p : Program} {l : Launch} {e : Env} {Rm : Room} {s : State} {m : MethodId} {args : Array Value} {below : List Frame} {meth : Method} {c : Code} {Q : State → Prop} {G : Nat → Prop} {D : va_G} {ids : Nat → ClassId} {β : Nat} {sh : Nat → Nat × Nat} {nL nc ns N : Nat} {R : Nat → Nat → Option Nat} {F : Nat → Nat → Int} {A : Nat → Int → Int} {loc loc2 : List (Option PV)} {stk : List PV} {pc pc2 tgt : Nat} {cc : ByteArray} {own : String}
theorem x_tin (hC : CallFix p m c cc nL s args TT own) {x dflt lo hi off : Int} {offs : Array Int} {len : Nat} (hx : I32 x) (h1 : ¬ x < lo) (h2 : ¬ hi < x) (hd : decode cc pc = .ok (.tableswitch dflt lo hi offs, len)) (ho : offs[(x - lo).toNat]? = some off) (ht : (pc : Int) + off = (tgt : Int)) (k : X p l e Rm s m args below meth c Q G D ids β sh nL nc ns N R F A loc (stk) tgt) : X p l e Rm s m args below meth c Q G D ids β sh nL nc ns N R F A loc (pI x :: stk) pc := by
  intro H locs ls a1 a2 a3 a4
  exact lv_tableIn hC.1 hC.2.1 hd (by rw [i32_toInt hx]; exact h1) (by rw [i32_toInt hx]; exact h2) (by rw [i32_toInt hx]; exact ho) ht (k H locs ls a1 a2 a3 a4)
theorem x_tout (hC : CallFix p m c cc nL s args TT own) {x dflt lo hi : Int} {offs : Array Int} {len : Nat} (hx : I32 x) (h1 : x < lo ∨ hi < x) (hd : decode cc pc = .ok (.tableswitch dflt lo hi offs, len)) (ht : (pc : Int) + dflt = (tgt : Int)) (k : X p l e Rm s m args below meth c Q G D ids β sh nL nc ns N R F A loc (stk) tgt) : X p l e Rm s m args below meth c Q G D ids β sh nL nc ns N R F A loc (pI x :: stk) pc := by
  intro H locs ls a1 a2 a3 a4
  exact lv_tableOut hC.1 hC.2.1 hd (by rw [i32_toInt hx]; exact h1) ht (k H locs ls a1 a2 a3 a4)
end XT
/-! the model's fractions and the state's -/
theorem q_add (x y : T3) : q3 (tadd x y) = rsum 1 (q3 x) (q3 y) := by
  refine Prod.ext (Prod.ext ?_ ?_) (Prod.ext ?_ ?_)
  · show x.1 * y.2.2 + y.1 * x.2.2 = (x.1 * y.2.2 - x.2.1 * 0) + 1 * (y.1 * x.2.2 - y.2.1 * 0); grind
  · show x.2.1 * y.2.2 + y.2.1 * x.2.2 = (x.2.1 * y.2.2 + x.1 * 0) + 1 * (y.2.1 * x.2.2 + y.1 * 0); grind
  · show x.2.2 * y.2.2 = x.2.2 * y.2.2 - 0 * 0; grind
  · show 0 = 0 * y.2.2 + x.2.2 * 0; grind
theorem q_sub (x y : T3) : q3 (tadd x (tneg y)) = rsum (-1) (q3 x) (q3 y) := by
  refine Prod.ext (Prod.ext ?_ ?_) (Prod.ext ?_ ?_)
  · show x.1 * y.2.2 + -y.1 * x.2.2 = (x.1 * y.2.2 - x.2.1 * 0) + -1 * (y.1 * x.2.2 - y.2.1 * 0); grind
  · show x.2.1 * y.2.2 + -y.2.1 * x.2.2 = (x.2.1 * y.2.2 + x.1 * 0) + -1 * (y.2.1 * x.2.2 + y.1 * 0); grind
  · show x.2.2 * y.2.2 = x.2.2 * y.2.2 - 0 * 0; grind
  · show 0 = 0 * y.2.2 + x.2.2 * 0; grind
theorem q_mul (x y : T3) : q3 (tmul x y) = rmul (q3 x) (q3 y) := by
  refine Prod.ext (Prod.ext ?_ ?_) (Prod.ext ?_ ?_)
  · rfl
  · show x.1 * y.2.1 + x.2.1 * y.1 = x.2.1 * y.1 + x.1 * y.2.1; grind
  · show x.2.2 * y.2.2 = x.2.2 * y.2.2 - 0 * 0; grind
  · show 0 = 0 * y.2.2 + x.2.2 * 0; grind
theorem q_quo (x y : T3) : eqf (q3 (tquo x y)) (rdiv (q3 x) (q3 y)) := by
  obtain ⟨x1, x2, x3⟩ := x
  obtain ⟨y1, y2, y3⟩ := y
  show cmul ((x1 * y1 - x2 * -y2) * y3, (x1 * -y2 + x2 * y1) * y3) (cmul (x3, 0) (y1, y2)) = cmul (cmul (x1, x2) (y3, 0)) (x3 * (y1 * y1 + y2 * y2), 0)
  unfold cmul
  refine Prod.ext ?_ ?_ <;> dsimp only <;> grind
theorem r_add {x y : T3} (hx : 0 < x.2.2) (hy : 0 < y.2.2) : 0 < (tadd x y).2.2 := Int.mul_pos hx hy
theorem r_mul {x y : T3} (hx : 0 < x.2.2) (hy : 0 < y.2.2) : 0 < (tmul x y).2.2 := Int.mul_pos hx hy
theorem r_quo {x y : T3} (hx : 0 < x.2.2) (hy : ¬ (y.1 = 0 ∧ y.2.1 = 0)) : 0 < (tquo x y).2.2 := by
  refine Int.mul_pos hx ?_
  have a := sq_nn y.1
  have b := sq_nn y.2.1
  have c : tsq y ≠ 0 := fun h => by
    unfold tsq at h
    have p : y.1 * y.1 = 0 := by omega
    have q : y.2.1 * y.2.1 = 0 := by omega
    exact hy ⟨by rcases Int.mul_eq_zero.mp p with z | z <;> exact z, by rcases Int.mul_eq_zero.mp q with z | z <;> exact z⟩
  have d := tsq_nn y
  omega
theorem un_q3 {x : T3} (h : 0 < x.2.2) : (q3 x).2 ≠ (0, 0) := fun q => by
  have : x.2.2 = 0 := congrArg Prod.fst q
  omega
/-- what the model makes is what the state asks -/
theorem mk_low {r : T3} {x : QR} (hr : 0 < r.2.2) (hx : x.2 ≠ (0, 0)) (h : eqf (q3 r) x) (hl : LT (q3 r) (low (q3 r))) : low (q3 r) = low x ∧ LT x (low x) := by
  have a := LT.eqf (un_q3 hr) h hl
  have b := low_of hx a
  exact ⟨b.symm, by rw [b]; exact a⟩
theorem z3_iff {x : T3} {y : QR} (h : q3 x = y) : (x.1 = 0 ∧ x.2.1 = 0) ↔ y.1 = (0, 0) := by
  subst h
  exact ⟨fun q => Prod.ext q.1 q.2, fun q => ⟨congrArg Prod.fst q, congrArg Prod.snd q⟩⟩
theorem dX8_joined_0 : decode cX8_joined 0 = .ok (.iload 4, 2) := by decide +kernel
theorem dX8_joined_2 : decode cX8_joined 2 = .ok (.tableswitch 131 0 2 #[26, 77, 104], 26) := by decide +kernel
theorem dX8_joined_28 : decode cX8_joined 28 = .ok (.aload_n 0, 1) := by decide +kernel
theorem dX8_joined_29 : decode cX8_joined 29 = .ok (.aload_n 0, 1) := by decide +kernel
theorem dX8_joined_30 : decode cX8_joined 30 = .ok (.iload_n 1, 1) := by decide +kernel
theorem dX8_joined_31 : decode cX8_joined 31 = .ok (.iload_n 3, 1) := by decide +kernel
theorem dX8_joined_32 : decode cX8_joined 32 = .ok (.iconst 0, 1) := by decide +kernel
theorem dX8_joined_33 : decode cX8_joined 33 = .ok (.iconst 0, 1) := by decide +kernel
theorem dX8_joined_34 : decode cX8_joined 34 = .ok (.invokevirtual 200, 3) := by decide +kernel
theorem dX8_joined_37 : decode cX8_joined 37 = .ok (.aload_n 0, 1) := by decide +kernel
theorem dX8_joined_38 : decode cX8_joined 38 = .ok (.aload_n 0, 1) := by decide +kernel
theorem dX8_joined_39 : decode cX8_joined 39 = .ok (.aload_n 0, 1) := by decide +kernel
theorem dX8_joined_40 : decode cX8_joined 40 = .ok (.aload_n 0, 1) := by decide +kernel
theorem dX8_joined_41 : decode cX8_joined 41 = .ok (.iload_n 1, 1) := by decide +kernel
theorem dX8_joined_42 : decode cX8_joined 42 = .ok (.iload_n 3, 1) := by decide +kernel
theorem dX8_joined_43 : decode cX8_joined 43 = .ok (.iconst 0, 1) := by decide +kernel
theorem dX8_joined_44 : decode cX8_joined 44 = .ok (.iconst 1, 1) := by decide +kernel
theorem dX8_joined_45 : decode cX8_joined 45 = .ok (.invokevirtual 200, 3) := by decide +kernel
theorem dX8_joined_48 : decode cX8_joined 48 = .ok (.aload_n 0, 1) := by decide +kernel
theorem dX8_joined_49 : decode cX8_joined 49 = .ok (.iload_n 1, 1) := by decide +kernel
theorem dX8_joined_50 : decode cX8_joined 50 = .ok (.iload_n 3, 1) := by decide +kernel
theorem dX8_joined_51 : decode cX8_joined 51 = .ok (.iconst 1, 1) := by decide +kernel
theorem dX8_joined_52 : decode cX8_joined 52 = .ok (.iconst 0, 1) := by decide +kernel
theorem dX8_joined_53 : decode cX8_joined 53 = .ok (.invokevirtual 200, 3) := by decide +kernel
theorem dX8_joined_56 : decode cX8_joined 56 = .ok (.invokevirtual 118, 3) := by decide +kernel
theorem dX8_joined_59 : decode cX8_joined 59 = .ok (.aload_n 0, 1) := by decide +kernel
theorem dX8_joined_60 : decode cX8_joined 60 = .ok (.iload_n 2, 1) := by decide +kernel
theorem dX8_joined_61 : decode cX8_joined 61 = .ok (.iload_n 3, 1) := by decide +kernel
theorem dX8_joined_62 : decode cX8_joined 62 = .ok (.iconst 0, 1) := by decide +kernel
theorem dX8_joined_63 : decode cX8_joined 63 = .ok (.iconst 0, 1) := by decide +kernel
theorem dX8_joined_64 : decode cX8_joined 64 = .ok (.invokevirtual 200, 3) := by decide +kernel
theorem dX8_joined_67 : decode cX8_joined 67 = .ok (.invokevirtual 118, 3) := by decide +kernel
theorem dX8_joined_70 : decode cX8_joined 70 = .ok (.iload 5, 2) := by decide +kernel
theorem dX8_joined_72 : decode cX8_joined 72 = .ok (.invokevirtual 219, 3) := by decide +kernel
theorem dX8_joined_75 : decode cX8_joined 75 = .ok (.invokevirtual 109, 3) := by decide +kernel
theorem dX8_joined_78 : decode cX8_joined 78 = .ok (.ireturn, 1) := by decide +kernel
theorem dX8_joined_79 : decode cX8_joined 79 = .ok (.aload_n 0, 1) := by decide +kernel
theorem dX8_joined_80 : decode cX8_joined 80 = .ok (.aload_n 0, 1) := by decide +kernel
theorem dX8_joined_81 : decode cX8_joined 81 = .ok (.aload_n 0, 1) := by decide +kernel
theorem dX8_joined_82 : decode cX8_joined 82 = .ok (.iload_n 1, 1) := by decide +kernel
theorem dX8_joined_83 : decode cX8_joined 83 = .ok (.iload_n 3, 1) := by decide +kernel
theorem dX8_joined_84 : decode cX8_joined 84 = .ok (.iconst 0, 1) := by decide +kernel
theorem dX8_joined_85 : decode cX8_joined 85 = .ok (.iconst 1, 1) := by decide +kernel
theorem dX8_joined_86 : decode cX8_joined 86 = .ok (.invokevirtual 200, 3) := by decide +kernel
theorem dX8_joined_89 : decode cX8_joined 89 = .ok (.aload_n 0, 1) := by decide +kernel
theorem dX8_joined_90 : decode cX8_joined 90 = .ok (.iload_n 2, 1) := by decide +kernel
theorem dX8_joined_91 : decode cX8_joined 91 = .ok (.iload_n 3, 1) := by decide +kernel
theorem dX8_joined_92 : decode cX8_joined 92 = .ok (.iconst 0, 1) := by decide +kernel
theorem dX8_joined_93 : decode cX8_joined 93 = .ok (.iconst 1, 1) := by decide +kernel
theorem dX8_joined_94 : decode cX8_joined 94 = .ok (.invokevirtual 200, 3) := by decide +kernel
theorem dX8_joined_97 : decode cX8_joined 97 = .ok (.invokevirtual 118, 3) := by decide +kernel
theorem dX8_joined_100 : decode cX8_joined 100 = .ok (.iload 5, 2) := by decide +kernel
theorem dX8_joined_102 : decode cX8_joined 102 = .ok (.invokevirtual 219, 3) := by decide +kernel
theorem dX8_joined_105 : decode cX8_joined 105 = .ok (.ireturn, 1) := by decide +kernel
theorem dX8_joined_106 : decode cX8_joined 106 = .ok (.aload_n 0, 1) := by decide +kernel
theorem dX8_joined_107 : decode cX8_joined 107 = .ok (.aload_n 0, 1) := by decide +kernel
theorem dX8_joined_108 : decode cX8_joined 108 = .ok (.aload_n 0, 1) := by decide +kernel
theorem dX8_joined_109 : decode cX8_joined 109 = .ok (.iload_n 1, 1) := by decide +kernel
theorem dX8_joined_110 : decode cX8_joined 110 = .ok (.iload_n 3, 1) := by decide +kernel
theorem dX8_joined_111 : decode cX8_joined 111 = .ok (.iconst 1, 1) := by decide +kernel
theorem dX8_joined_112 : decode cX8_joined 112 = .ok (.iconst 0, 1) := by decide +kernel
theorem dX8_joined_113 : decode cX8_joined 113 = .ok (.invokevirtual 200, 3) := by decide +kernel
theorem dX8_joined_116 : decode cX8_joined 116 = .ok (.aload_n 0, 1) := by decide +kernel
theorem dX8_joined_117 : decode cX8_joined 117 = .ok (.iload_n 2, 1) := by decide +kernel
theorem dX8_joined_118 : decode cX8_joined 118 = .ok (.iload_n 3, 1) := by decide +kernel
theorem dX8_joined_119 : decode cX8_joined 119 = .ok (.iconst 1, 1) := by decide +kernel
theorem dX8_joined_120 : decode cX8_joined 120 = .ok (.iconst 0, 1) := by decide +kernel
theorem dX8_joined_121 : decode cX8_joined 121 = .ok (.invokevirtual 200, 3) := by decide +kernel
theorem dX8_joined_124 : decode cX8_joined 124 = .ok (.invokevirtual 118, 3) := by decide +kernel
theorem dX8_joined_127 : decode cX8_joined 127 = .ok (.iload 5, 2) := by decide +kernel
theorem dX8_joined_129 : decode cX8_joined 129 = .ok (.invokevirtual 219, 3) := by decide +kernel
theorem dX8_joined_132 : decode cX8_joined 132 = .ok (.ireturn, 1) := by decide +kernel
theorem dX8_joined_133 : decode cX8_joined 133 = .ok (.aload_n 0, 1) := by decide +kernel
theorem dX8_joined_134 : decode cX8_joined 134 = .ok (.aload_n 0, 1) := by decide +kernel
theorem dX8_joined_135 : decode cX8_joined 135 = .ok (.iload_n 2, 1) := by decide +kernel
theorem dX8_joined_136 : decode cX8_joined 136 = .ok (.iload_n 3, 1) := by decide +kernel
theorem dX8_joined_137 : decode cX8_joined 137 = .ok (.iconst 1, 1) := by decide +kernel
theorem dX8_joined_138 : decode cX8_joined 138 = .ok (.iconst 1, 1) := by decide +kernel
theorem dX8_joined_139 : decode cX8_joined 139 = .ok (.invokevirtual 200, 3) := by decide +kernel
theorem dX8_joined_142 : decode cX8_joined 142 = .ok (.aload_n 0, 1) := by decide +kernel
theorem dX8_joined_143 : decode cX8_joined 143 = .ok (.aload_n 0, 1) := by decide +kernel
theorem dX8_joined_144 : decode cX8_joined 144 = .ok (.aload_n 0, 1) := by decide +kernel
theorem dX8_joined_145 : decode cX8_joined 145 = .ok (.aload_n 0, 1) := by decide +kernel
theorem dX8_joined_146 : decode cX8_joined 146 = .ok (.iload_n 2, 1) := by decide +kernel
theorem dX8_joined_147 : decode cX8_joined 147 = .ok (.iload_n 3, 1) := by decide +kernel
theorem dX8_joined_148 : decode cX8_joined 148 = .ok (.iconst 0, 1) := by decide +kernel
theorem dX8_joined_149 : decode cX8_joined 149 = .ok (.iconst 1, 1) := by decide +kernel
theorem dX8_joined_150 : decode cX8_joined 150 = .ok (.invokevirtual 200, 3) := by decide +kernel
theorem dX8_joined_153 : decode cX8_joined 153 = .ok (.aload_n 0, 1) := by decide +kernel
theorem dX8_joined_154 : decode cX8_joined 154 = .ok (.iload_n 2, 1) := by decide +kernel
theorem dX8_joined_155 : decode cX8_joined 155 = .ok (.iload_n 3, 1) := by decide +kernel
theorem dX8_joined_156 : decode cX8_joined 156 = .ok (.iconst 1, 1) := by decide +kernel
theorem dX8_joined_157 : decode cX8_joined 157 = .ok (.iconst 0, 1) := by decide +kernel
theorem dX8_joined_158 : decode cX8_joined 158 = .ok (.invokevirtual 200, 3) := by decide +kernel
theorem dX8_joined_161 : decode cX8_joined 161 = .ok (.invokevirtual 118, 3) := by decide +kernel
theorem dX8_joined_164 : decode cX8_joined 164 = .ok (.aload_n 0, 1) := by decide +kernel
theorem dX8_joined_165 : decode cX8_joined 165 = .ok (.iload_n 1, 1) := by decide +kernel
theorem dX8_joined_166 : decode cX8_joined 166 = .ok (.iload_n 3, 1) := by decide +kernel
theorem dX8_joined_167 : decode cX8_joined 167 = .ok (.iconst 1, 1) := by decide +kernel
theorem dX8_joined_168 : decode cX8_joined 168 = .ok (.iconst 1, 1) := by decide +kernel
theorem dX8_joined_169 : decode cX8_joined 169 = .ok (.invokevirtual 200, 3) := by decide +kernel
theorem dX8_joined_172 : decode cX8_joined 172 = .ok (.invokevirtual 118, 3) := by decide +kernel
theorem dX8_joined_175 : decode cX8_joined 175 = .ok (.iload 5, 2) := by decide +kernel
theorem dX8_joined_177 : decode cX8_joined 177 = .ok (.invokevirtual 219, 3) := by decide +kernel
theorem dX8_joined_180 : decode cX8_joined 180 = .ok (.invokevirtual 109, 3) := by decide +kernel
theorem dX8_joined_183 : decode cX8_joined 183 = .ok (.ireturn, 1) := by decide +kernel
set_option maxHeartbeats 8000000 in
theorem t_joined0 (l : Launch) {D : va_G} {ids : Nat → ClassId} {β : Nat} {sh : Nat → Nat × Nat} {N : Nat} {R : Nat → Nat → Option Nat} {F : Nat → Nat → Int} {A : Nat → Int → Int} {S : SP} (hM : MoL sh R N) (hR0 : RepM S F A) {V : Int → Int} {a b t : Int} {ve : T3} (hS : St 68 V F A) (ha : isB S a) (hb : isB S b) (ht : isT t) (he : tr V 65 = ve) (bve : bdt 53 51 ve) : MetX l yX8_joined cX8_joined 6 (some (.int)) 5 119 D ids β sh N R F A [rf 0, pI a, pI b, pI t, pI 0, pI 65] (pIr (Tq 125 F A 68 V (tadd (vS S a t 0) (tquo (tmul (tmul (vS S a t 1) (vS S a t 2)) (vS S b t 0)) ve)))) := by
  refine MetX.of (loc := [_, _, _, _, _, _]) (plainFor_of_name (by decide +kernel)) (Nat.le_of_ble_eq_true rfl) rfl ?_
  intro p e s m args below meth c hC hK hr hlk
  obtain ⟨⟨m0, m1⟩, ⟨rx0, r2, r3, r7, r8, r9, r11, r12, r13, r16, r18⟩, ⟨m2, m3⟩, ⟨m4, m5⟩, ⟨m6, m7⟩, ⟨m8, m9⟩, ⟨m10, m11⟩, ⟨m12, m13⟩, ⟨m14, m15⟩, ⟨m16, m17⟩, ⟨m18, m19⟩, ⟨m20, m21⟩, ⟨m22, m23⟩⟩ := id hM
  obtain ⟨hi, b1, b2, b3, b4, b5, b6, b7, b8⟩ := id hR0
  have i1 := hi.1
  have n16 := hi.1.2
  have a16 := ha.2
  have b16 := hb.2
  have a00 := ha.1
  have b00 := hb.1
  refine x_iload (pc2 := 2) hC rfl dX8_joined_0 rfl ?_
  refine x_tin (tgt := 28) hC (by decide) (by decide) (by decide) dX8_joined_2 rfl rfl ?_
  refine x_aload_n (pc2 := 29) hC rfl rfl dX8_joined_28 rfl ?_
  refine x_aload_n (pc2 := 30) hC rfl rfl dX8_joined_29 rfl ?_
  refine x_iload_n (pc2 := 31) hC rfl rfl dX8_joined_30 rfl ?_
  refine x_iload_n (pc2 := 32) hC rfl rfl dX8_joined_31 rfl ?_
  refine x_iconst (pc2 := 33) hC dX8_joined_32 rfl ?_
  refine x_iconst (pc2 := 34) hC dX8_joined_33 rfl ?_
  refine x_cVi (pc2 := 37) (ci := 8) hC hK (t_entry l hM hS (by decide) ⟨by omega, by omega⟩ (x := vS S a t 0) (show held (A 2) (96 * a + 24 * t + 6 * (2 * 0 + 0)) (vS S a t 0) from b6 a t 0 ha ht ⟨by decide, by decide⟩) ((hi.2.1 a ha).2 t 0 ht ⟨by decide, by decide⟩).1.2.2) lk_985 rfl rfl (by decide) (by assumption) (by assumption) ⟨Nat.le_of_ble_eq_true rfl, Nat.le_of_ble_eq_true rfl⟩ ⟨Nat.le_refl _, Nat.le_refl _⟩ rfl (Nat.le_of_ble_eq_true rfl) dX8_joined_34 rfl ?_
  rintro z34 F34 A34 ⟨ez34, V34, hS34, v34, k34, g34⟩
  obtain rfl := ez34.symm
  replace hS34 : St 86 V34 F34 A34 := hS34
  have t34_ve : tr V34 65 = ve := (tr_keep (by decide) k34).trans he
  rw [show (68 : Int) + 15 = 83 from rfl]
  obtain ⟨wj34, ewj34⟩ : ∃ w, w = vS S a t 0 := ⟨_, rfl⟩
  have uwj34 : tr V34 83 = wj34 := by rw [ewj34]; exact v34
  have bwj34 : bdt 25 25 wj34 := by rw [ewj34]; exact (ok_bdt ((hi.2.1 a ha).2 t 0 ht ⟨by decide, by decide⟩).1)
  clear v34
  refine x_aload_n (pc2 := 38) hC rfl rfl dX8_joined_37 rfl ?_
  refine x_aload_n (pc2 := 39) hC rfl rfl dX8_joined_38 rfl ?_
  refine x_aload_n (pc2 := 40) hC rfl rfl dX8_joined_39 rfl ?_
  refine x_aload_n (pc2 := 41) hC rfl rfl dX8_joined_40 rfl ?_
  refine x_iload_n (pc2 := 42) hC rfl rfl dX8_joined_41 rfl ?_
  refine x_iload_n (pc2 := 43) hC rfl rfl dX8_joined_42 rfl ?_
  refine x_iconst (pc2 := 44) hC dX8_joined_43 rfl ?_
  refine x_iconst (pc2 := 45) hC dX8_joined_44 rfl ?_
  refine x_cVi (pc2 := 48) (ci := 8) hC hK (t_entry l hM hS34 (by decide) ⟨by omega, by omega⟩ (x := vS S a t 1) (by rw [g34.a (by decide)]; exact (show held (A 2) (96 * a + 24 * t + 6 * (2 * 0 + 1)) (vS S a t 1) from b6 a t 1 ha ht ⟨by decide, by decide⟩)) ((hi.2.1 a ha).2 t 1 ht ⟨by decide, by decide⟩).1.2.2) lk_985 rfl rfl (by decide) (by assumption) (by assumption) ⟨Nat.le_of_ble_eq_true rfl, Nat.le_of_ble_eq_true rfl⟩ ⟨Nat.le_refl _, Nat.le_refl _⟩ rfl (Nat.le_of_ble_eq_true rfl) dX8_joined_45 rfl ?_
  rintro z45 F45 A45 ⟨ez45, V45, hS45, v45, k45, g45⟩
  obtain rfl := ez45.symm
  replace hS45 : St 104 V45 F45 A45 := hS45
  have t45_ve : tr V45 65 = ve := (tr_keep (by decide) k45).trans t34_ve
  have t45_wj34 : tr V45 83 = wj34 := (tr_keep (by decide) k45).trans uwj34
  rw [show (86 : Int) + 15 = 101 from rfl]
  obtain ⟨wj45, ewj45⟩ : ∃ w, w = vS S a t 1 := ⟨_, rfl⟩
  have uwj45 : tr V45 101 = wj45 := by rw [ewj45]; exact v45
  have bwj45 : bdt 25 25 wj45 := by rw [ewj45]; exact (ok_bdt ((hi.2.1 a ha).2 t 1 ht ⟨by decide, by decide⟩).1)
  clear v45
  refine x_aload_n (pc2 := 49) hC rfl rfl dX8_joined_48 rfl ?_
  refine x_iload_n (pc2 := 50) hC rfl rfl dX8_joined_49 rfl ?_
  refine x_iload_n (pc2 := 51) hC rfl rfl dX8_joined_50 rfl ?_
  refine x_iconst (pc2 := 52) hC dX8_joined_51 rfl ?_
  refine x_iconst (pc2 := 53) hC dX8_joined_52 rfl ?_
  refine x_cVi (pc2 := 56) (ci := 8) hC hK (t_entry l hM hS45 (by decide) ⟨by omega, by omega⟩ (x := vS S a t 2) (by rw [(g34.tr g45).a (by decide)]; exact (show held (A 2) (96 * a + 24 * t + 6 * (2 * 1 + 0)) (vS S a t 2) from b6 a t 2 ha ht ⟨by decide, by decide⟩)) ((hi.2.1 a ha).2 t 2 ht ⟨by decide, by decide⟩).1.2.2) lk_985 rfl rfl (by decide) (by assumption) (by assumption) ⟨Nat.le_of_ble_eq_true rfl, Nat.le_of_ble_eq_true rfl⟩ ⟨Nat.le_refl _, Nat.le_refl _⟩ rfl (Nat.le_of_ble_eq_true rfl) dX8_joined_53 rfl ?_
  rintro z53 F53 A53 ⟨ez53, V53, hS53, v53, k53, g53⟩
  obtain rfl := ez53.symm
  replace hS53 : St 122 V53 F53 A53 := hS53
  have t53_ve : tr V53 65 = ve := (tr_keep (by decide) k53).trans t45_ve
  have t53_wj34 : tr V53 83 = wj34 := (tr_keep (by decide) k53).trans t45_wj34
  have t53_wj45 : tr V53 101 = wj45 := (tr_keep (by decide) k53).trans uwj45
  rw [show (104 : Int) + 15 = 119 from rfl]
  obtain ⟨wj53, ewj53⟩ : ∃ w, w = vS S a t 2 := ⟨_, rfl⟩
  have uwj53 : tr V53 119 = wj53 := by rw [ewj53]; exact v53
  have bwj53 : bdt 25 25 wj53 := by rw [ewj53]; exact (ok_bdt ((hi.2.1 a ha).2 t 2 ht ⟨by decide, by decide⟩).1)
  clear v53
  refine x_cVi (pc2 := 59) (ci := 8) hC hK (t_product l hM hS53 (x := 101) (y := 119) ⟨by decide, by decide⟩ ⟨by decide, by decide⟩ t53_wj45 uwj53 bwj45 bwj53 (by decide) ⟨by decide, by decide⟩) lk_1004 rfl rfl (by decide) (by assumption) (by assumption) ⟨Nat.le_of_ble_eq_true rfl, Nat.le_of_ble_eq_true rfl⟩ ⟨Nat.le_refl _, Nat.le_refl _⟩ rfl (Nat.le_of_ble_eq_true rfl) dX8_joined_56 rfl ?_
  rintro z56 F56 A56 ⟨ez56, V56, hS56, v56, k56, g56⟩
  obtain rfl := ez56.symm
  replace hS56 : St 133 V56 F56 A56 := hS56
  have t56_ve : tr V56 65 = ve := (tr_keep (by decide) k56).trans t53_ve
  have t56_wj34 : tr V56 83 = wj34 := (tr_keep (by decide) k56).trans t53_wj34
  have t56_wj45 : tr V56 101 = wj45 := (tr_keep (by decide) k56).trans t53_wj45
  have t56_wj53 : tr V56 119 = wj53 := (tr_keep (by decide) k56).trans uwj53
  rw [show (122 : Int) + 8 = 130 from rfl]
  obtain ⟨wj56, ewj56⟩ : ∃ w, w = tmul wj45 wj53 := ⟨_, rfl⟩
  have uwj56 : tr V56 130 = wj56 := by rw [ewj56]; exact v56
  have bwj56 : bdt 51 50 wj56 := by rw [ewj56]; exact (bdt_mul bwj45 bwj53 (by decide) (by decide))
  clear v56
  refine x_aload_n (pc2 := 60) hC rfl rfl dX8_joined_59 rfl ?_
  refine x_iload_n (pc2 := 61) hC rfl rfl dX8_joined_60 rfl ?_
  refine x_iload_n (pc2 := 62) hC rfl rfl dX8_joined_61 rfl ?_
  refine x_iconst (pc2 := 63) hC dX8_joined_62 rfl ?_
  refine x_iconst (pc2 := 64) hC dX8_joined_63 rfl ?_
  refine x_cVi (pc2 := 67) (ci := 8) hC hK (t_entry l hM hS56 (by decide) ⟨by omega, by omega⟩ (x := vS S b t 0) (by rw [(((g34.tr g45).tr g53).tr g56).a (by decide)]; exact (show held (A 2) (96 * b + 24 * t + 6 * (2 * 0 + 0)) (vS S b t 0) from b6 b t 0 hb ht ⟨by decide, by decide⟩)) ((hi.2.1 b hb).2 t 0 ht ⟨by decide, by decide⟩).1.2.2) lk_985 rfl rfl (by decide) (by assumption) (by assumption) ⟨Nat.le_of_ble_eq_true rfl, Nat.le_of_ble_eq_true rfl⟩ ⟨Nat.le_refl _, Nat.le_refl _⟩ rfl (Nat.le_of_ble_eq_true rfl) dX8_joined_64 rfl ?_
  rintro z64 F64 A64 ⟨ez64, V64, hS64, v64, k64, g64⟩
  obtain rfl := ez64.symm
  replace hS64 : St 151 V64 F64 A64 := hS64
  have t64_ve : tr V64 65 = ve := (tr_keep (by decide) k64).trans t56_ve
  have t64_wj34 : tr V64 83 = wj34 := (tr_keep (by decide) k64).trans t56_wj34
  have t64_wj45 : tr V64 101 = wj45 := (tr_keep (by decide) k64).trans t56_wj45
  have t64_wj53 : tr V64 119 = wj53 := (tr_keep (by decide) k64).trans t56_wj53
  have t64_wj56 : tr V64 130 = wj56 := (tr_keep (by decide) k64).trans uwj56
  rw [show (133 : Int) + 15 = 148 from rfl]
  obtain ⟨wj64, ewj64⟩ : ∃ w, w = vS S b t 0 := ⟨_, rfl⟩
  have uwj64 : tr V64 148 = wj64 := by rw [ewj64]; exact v64
  have bwj64 : bdt 25 25 wj64 := by rw [ewj64]; exact (ok_bdt ((hi.2.1 b hb).2 t 0 ht ⟨by decide, by decide⟩).1)
  clear v64
  refine x_cVi (pc2 := 70) (ci := 8) hC hK (t_product l hM hS64 (x := 130) (y := 148) ⟨by decide, by decide⟩ ⟨by decide, by decide⟩ t64_wj56 uwj64 bwj56 bwj64 (by decide) ⟨by decide, by decide⟩) lk_1004 rfl rfl (by decide) (by assumption) (by assumption) ⟨Nat.le_of_ble_eq_true rfl, Nat.le_of_ble_eq_true rfl⟩ ⟨Nat.le_refl _, Nat.le_refl _⟩ rfl (Nat.le_of_ble_eq_true rfl) dX8_joined_67 rfl ?_
  rintro z67 F67 A67 ⟨ez67, V67, hS67, v67, k67, g67⟩
  obtain rfl := ez67.symm
  replace hS67 : St 162 V67 F67 A67 := hS67
  have t67_ve : tr V67 65 = ve := (tr_keep (by decide) k67).trans t64_ve
  have t67_wj34 : tr V67 83 = wj34 := (tr_keep (by decide) k67).trans t64_wj34
  have t67_wj45 : tr V67 101 = wj45 := (tr_keep (by decide) k67).trans t64_wj45
  have t67_wj53 : tr V67 119 = wj53 := (tr_keep (by decide) k67).trans t64_wj53
  have t67_wj56 : tr V67 130 = wj56 := (tr_keep (by decide) k67).trans t64_wj56
  have t67_wj64 : tr V67 148 = wj64 := (tr_keep (by decide) k67).trans uwj64
  rw [show (151 : Int) + 8 = 159 from rfl]
  obtain ⟨wj67, ewj67⟩ : ∃ w, w = tmul wj56 wj64 := ⟨_, rfl⟩
  have uwj67 : tr V67 159 = wj67 := by rw [ewj67]; exact v67
  have bwj67 : bdt 77 75 wj67 := by rw [ewj67]; exact (bdt_mul bwj56 bwj64 (by decide) (by decide))
  clear v67
  refine x_iload (pc2 := 72) hC rfl dX8_joined_70 rfl ?_
  refine x_cVi (pc2 := 75) (ci := 8) hC hK (t_quo l hM hS67 (x := 159) (y := 65) ⟨by decide, by decide⟩ ⟨by decide, by decide⟩ uwj67 t67_ve bwj67 bve (by decide) ⟨by decide, by decide, by decide, by decide, by decide⟩) lk_1044 rfl rfl (by decide) (by assumption) (by assumption) ⟨Nat.le_of_ble_eq_true rfl, Nat.le_of_ble_eq_true rfl⟩ ⟨Nat.le_refl _, Nat.le_refl _⟩ rfl (Nat.le_of_ble_eq_true rfl) dX8_joined_72 rfl ?_
  rintro z72 F72 A72 ⟨ez72, V72, hS72, v72, k72, g72⟩
  obtain rfl := ez72.symm
  replace hS72 : St 186 V72 F72 A72 := hS72
  have t72_ve : tr V72 65 = ve := (tr_keep (by decide) k72).trans t67_ve
  have t72_wj34 : tr V72 83 = wj34 := (tr_keep (by decide) k72).trans t67_wj34
  have t72_wj45 : tr V72 101 = wj45 := (tr_keep (by decide) k72).trans t67_wj45
  have t72_wj53 : tr V72 119 = wj53 := (tr_keep (by decide) k72).trans t67_wj53
  have t72_wj56 : tr V72 130 = wj56 := (tr_keep (by decide) k72).trans t67_wj56
  have t72_wj64 : tr V72 148 = wj64 := (tr_keep (by decide) k72).trans t67_wj64
  have t72_wj67 : tr V72 159 = wj67 := (tr_keep (by decide) k72).trans uwj67
  rw [show (162 : Int) + 21 = 183 from rfl]
  obtain ⟨wj72, ewj72⟩ : ∃ w, w = tquo wj67 ve := ⟨_, rfl⟩
  have uwj72 : tr V72 183 = wj72 := by rw [ewj72]; exact v72
  have bwj72 : bdt 182 182 wj72 := by rw [ewj72]; exact (bdt_quo bwj67 bve (by decide) (by decide))
  clear v72
  refine x_cVi (pc2 := 78) (ci := 8) hC hK (t_added l hM hS72 (x := 83) (y := 183) ⟨by decide, by decide⟩ ⟨by decide, by decide⟩ t72_wj34 uwj72 bwj34 bwj72 (by decide) ⟨by decide, by decide, by decide⟩) lk_1020 rfl rfl (by decide) (by assumption) (by assumption) ⟨Nat.le_of_ble_eq_true rfl, Nat.le_of_ble_eq_true rfl⟩ ⟨Nat.le_refl _, Nat.le_refl _⟩ rfl (Nat.le_of_ble_eq_true rfl) dX8_joined_75 rfl ?_
  rintro z75 F75 A75 ⟨ez75, V75, hS75, v75, k75, g75⟩
  obtain rfl := ez75.symm
  replace hS75 : St 196 V75 F75 A75 := hS75
  have t75_ve : tr V75 65 = ve := (tr_keep (by decide) k75).trans t72_ve
  have t75_wj34 : tr V75 83 = wj34 := (tr_keep (by decide) k75).trans t72_wj34
  have t75_wj45 : tr V75 101 = wj45 := (tr_keep (by decide) k75).trans t72_wj45
  have t75_wj53 : tr V75 119 = wj53 := (tr_keep (by decide) k75).trans t72_wj53
  have t75_wj56 : tr V75 130 = wj56 := (tr_keep (by decide) k75).trans t72_wj56
  have t75_wj64 : tr V75 148 = wj64 := (tr_keep (by decide) k75).trans t72_wj64
  have t75_wj67 : tr V75 159 = wj67 := (tr_keep (by decide) k75).trans t72_wj67
  have t75_wj72 : tr V75 183 = wj72 := (tr_keep (by decide) k75).trans uwj72
  rw [show (186 : Int) + 7 = 193 from rfl]
  obtain ⟨wj75, ewj75⟩ : ∃ w, w = tadd wj34 wj72 := ⟨_, rfl⟩
  have uwj75 : tr V75 193 = wj75 := by rw [ewj75]; exact v75
  have bwj75 : bdt 208 207 wj75 := by rw [ewj75]; exact (bdt_add bwj34 bwj72 (by decide) (by decide) (by decide))
  clear v75
  exact x_iret hC hr hlk ⟨_, rfl, rfl, V75, hS75, (uwj75).trans (by rw [ewj75, ewj72, ewj67, ewj56, ewj34, ewj45, ewj53, ewj64]), fun u hu => (k75 u (by omega)).trans ((k72 u (by omega)).trans ((k67 u (by omega)).trans ((k64 u (by omega)).trans ((k56 u (by omega)).trans ((k53 u (by omega)).trans ((k45 u (by omega)).trans (k34 u hu))))))), (((((((g34.tr g45).tr g53).tr g56).tr g64).tr g67).tr g72).tr g75)⟩ dX8_joined_78
set_option maxHeartbeats 8000000 in
theorem t_joined1 (l : Launch) {D : va_G} {ids : Nat → ClassId} {β : Nat} {sh : Nat → Nat × Nat} {N : Nat} {R : Nat → Nat → Option Nat} {F : Nat → Nat → Int} {A : Nat → Int → Int} {S : SP} (hM : MoL sh R N) (hR0 : RepM S F A) {V : Int → Int} {a b t : Int} {ve : T3} (hS : St 68 V F A) (ha : isB S a) (hb : isB S b) (ht : isT t) (he : tr V 65 = ve) (bve : bdt 53 51 ve) : MetX l yX8_joined cX8_joined 6 (some (.int)) 5 119 D ids β sh N R F A [rf 0, pI a, pI b, pI t, pI 1, pI 65] (pIr (Tq 68 F A 68 V (tquo (tmul (vS S a t 1) (vS S b t 1)) ve))) := by
  refine MetX.of (loc := [_, _, _, _, _, _]) (plainFor_of_name (by decide +kernel)) (Nat.le_of_ble_eq_true rfl) rfl ?_
  intro p e s m args below meth c hC hK hr hlk
  obtain ⟨⟨m0, m1⟩, ⟨rx0, r2, r3, r7, r8, r9, r11, r12, r13, r16, r18⟩, ⟨m2, m3⟩, ⟨m4, m5⟩, ⟨m6, m7⟩, ⟨m8, m9⟩, ⟨m10, m11⟩, ⟨m12, m13⟩, ⟨m14, m15⟩, ⟨m16, m17⟩, ⟨m18, m19⟩, ⟨m20, m21⟩, ⟨m22, m23⟩⟩ := id hM
  obtain ⟨hi, b1, b2, b3, b4, b5, b6, b7, b8⟩ := id hR0
  have i1 := hi.1
  have n16 := hi.1.2
  have a16 := ha.2
  have b16 := hb.2
  have a00 := ha.1
  have b00 := hb.1
  refine x_iload (pc2 := 2) hC rfl dX8_joined_0 rfl ?_
  refine x_tin (tgt := 79) hC (by decide) (by decide) (by decide) dX8_joined_2 rfl rfl ?_
  refine x_aload_n (pc2 := 80) hC rfl rfl dX8_joined_79 rfl ?_
  refine x_aload_n (pc2 := 81) hC rfl rfl dX8_joined_80 rfl ?_
  refine x_aload_n (pc2 := 82) hC rfl rfl dX8_joined_81 rfl ?_
  refine x_iload_n (pc2 := 83) hC rfl rfl dX8_joined_82 rfl ?_
  refine x_iload_n (pc2 := 84) hC rfl rfl dX8_joined_83 rfl ?_
  refine x_iconst (pc2 := 85) hC dX8_joined_84 rfl ?_
  refine x_iconst (pc2 := 86) hC dX8_joined_85 rfl ?_
  refine x_cVi (pc2 := 89) (ci := 8) hC hK (t_entry l hM hS (by decide) ⟨by omega, by omega⟩ (x := vS S a t 1) (show held (A 2) (96 * a + 24 * t + 6 * (2 * 0 + 1)) (vS S a t 1) from b6 a t 1 ha ht ⟨by decide, by decide⟩) ((hi.2.1 a ha).2 t 1 ht ⟨by decide, by decide⟩).1.2.2) lk_985 rfl rfl (by decide) (by assumption) (by assumption) ⟨Nat.le_of_ble_eq_true rfl, Nat.le_of_ble_eq_true rfl⟩ ⟨Nat.le_refl _, Nat.le_refl _⟩ rfl (Nat.le_of_ble_eq_true rfl) dX8_joined_86 rfl ?_
  rintro z86 F86 A86 ⟨ez86, V86, hS86, v86, k86, g86⟩
  obtain rfl := ez86.symm
  replace hS86 : St 86 V86 F86 A86 := hS86
  have t86_ve : tr V86 65 = ve := (tr_keep (by decide) k86).trans he
  rw [show (68 : Int) + 15 = 83 from rfl]
  obtain ⟨wj86, ewj86⟩ : ∃ w, w = vS S a t 1 := ⟨_, rfl⟩
  have uwj86 : tr V86 83 = wj86 := by rw [ewj86]; exact v86
  have bwj86 : bdt 25 25 wj86 := by rw [ewj86]; exact (ok_bdt ((hi.2.1 a ha).2 t 1 ht ⟨by decide, by decide⟩).1)
  clear v86
  refine x_aload_n (pc2 := 90) hC rfl rfl dX8_joined_89 rfl ?_
  refine x_iload_n (pc2 := 91) hC rfl rfl dX8_joined_90 rfl ?_
  refine x_iload_n (pc2 := 92) hC rfl rfl dX8_joined_91 rfl ?_
  refine x_iconst (pc2 := 93) hC dX8_joined_92 rfl ?_
  refine x_iconst (pc2 := 94) hC dX8_joined_93 rfl ?_
  refine x_cVi (pc2 := 97) (ci := 8) hC hK (t_entry l hM hS86 (by decide) ⟨by omega, by omega⟩ (x := vS S b t 1) (by rw [g86.a (by decide)]; exact (show held (A 2) (96 * b + 24 * t + 6 * (2 * 0 + 1)) (vS S b t 1) from b6 b t 1 hb ht ⟨by decide, by decide⟩)) ((hi.2.1 b hb).2 t 1 ht ⟨by decide, by decide⟩).1.2.2) lk_985 rfl rfl (by decide) (by assumption) (by assumption) ⟨Nat.le_of_ble_eq_true rfl, Nat.le_of_ble_eq_true rfl⟩ ⟨Nat.le_refl _, Nat.le_refl _⟩ rfl (Nat.le_of_ble_eq_true rfl) dX8_joined_94 rfl ?_
  rintro z94 F94 A94 ⟨ez94, V94, hS94, v94, k94, g94⟩
  obtain rfl := ez94.symm
  replace hS94 : St 104 V94 F94 A94 := hS94
  have t94_ve : tr V94 65 = ve := (tr_keep (by decide) k94).trans t86_ve
  have t94_wj86 : tr V94 83 = wj86 := (tr_keep (by decide) k94).trans uwj86
  rw [show (86 : Int) + 15 = 101 from rfl]
  obtain ⟨wj94, ewj94⟩ : ∃ w, w = vS S b t 1 := ⟨_, rfl⟩
  have uwj94 : tr V94 101 = wj94 := by rw [ewj94]; exact v94
  have bwj94 : bdt 25 25 wj94 := by rw [ewj94]; exact (ok_bdt ((hi.2.1 b hb).2 t 1 ht ⟨by decide, by decide⟩).1)
  clear v94
  refine x_cVi (pc2 := 100) (ci := 8) hC hK (t_product l hM hS94 (x := 83) (y := 101) ⟨by decide, by decide⟩ ⟨by decide, by decide⟩ t94_wj86 uwj94 bwj86 bwj94 (by decide) ⟨by decide, by decide⟩) lk_1004 rfl rfl (by decide) (by assumption) (by assumption) ⟨Nat.le_of_ble_eq_true rfl, Nat.le_of_ble_eq_true rfl⟩ ⟨Nat.le_refl _, Nat.le_refl _⟩ rfl (Nat.le_of_ble_eq_true rfl) dX8_joined_97 rfl ?_
  rintro z97 F97 A97 ⟨ez97, V97, hS97, v97, k97, g97⟩
  obtain rfl := ez97.symm
  replace hS97 : St 115 V97 F97 A97 := hS97
  have t97_ve : tr V97 65 = ve := (tr_keep (by decide) k97).trans t94_ve
  have t97_wj86 : tr V97 83 = wj86 := (tr_keep (by decide) k97).trans t94_wj86
  have t97_wj94 : tr V97 101 = wj94 := (tr_keep (by decide) k97).trans uwj94
  rw [show (104 : Int) + 8 = 112 from rfl]
  obtain ⟨wj97, ewj97⟩ : ∃ w, w = tmul wj86 wj94 := ⟨_, rfl⟩
  have uwj97 : tr V97 112 = wj97 := by rw [ewj97]; exact v97
  have bwj97 : bdt 51 50 wj97 := by rw [ewj97]; exact (bdt_mul bwj86 bwj94 (by decide) (by decide))
  clear v97
  refine x_iload (pc2 := 102) hC rfl dX8_joined_100 rfl ?_
  refine x_cVi (pc2 := 105) (ci := 8) hC hK (t_quo l hM hS97 (x := 112) (y := 65) ⟨by decide, by decide⟩ ⟨by decide, by decide⟩ uwj97 t97_ve bwj97 bve (by decide) ⟨by decide, by decide, by decide, by decide, by decide⟩) lk_1044 rfl rfl (by decide) (by assumption) (by assumption) ⟨Nat.le_of_ble_eq_true rfl, Nat.le_of_ble_eq_true rfl⟩ ⟨Nat.le_refl _, Nat.le_refl _⟩ rfl (Nat.le_of_ble_eq_true rfl) dX8_joined_102 rfl ?_
  rintro z102 F102 A102 ⟨ez102, V102, hS102, v102, k102, g102⟩
  obtain rfl := ez102.symm
  replace hS102 : St 139 V102 F102 A102 := hS102
  have t102_ve : tr V102 65 = ve := (tr_keep (by decide) k102).trans t97_ve
  have t102_wj86 : tr V102 83 = wj86 := (tr_keep (by decide) k102).trans t97_wj86
  have t102_wj94 : tr V102 101 = wj94 := (tr_keep (by decide) k102).trans t97_wj94
  have t102_wj97 : tr V102 112 = wj97 := (tr_keep (by decide) k102).trans uwj97
  rw [show (115 : Int) + 21 = 136 from rfl]
  obtain ⟨wj102, ewj102⟩ : ∃ w, w = tquo wj97 ve := ⟨_, rfl⟩
  have uwj102 : tr V102 136 = wj102 := by rw [ewj102]; exact v102
  have bwj102 : bdt 156 157 wj102 := by rw [ewj102]; exact (bdt_quo bwj97 bve (by decide) (by decide))
  clear v102
  exact x_iret hC hr hlk ⟨_, rfl, rfl, V102, hS102, (uwj102).trans (by rw [ewj102, ewj97, ewj86, ewj94]), fun u hu => (k102 u (by omega)).trans ((k97 u (by omega)).trans ((k94 u (by omega)).trans (k86 u hu))), (((g86.tr g94).tr g97).tr g102)⟩ dX8_joined_105
set_option maxHeartbeats 8000000 in
theorem t_joined2 (l : Launch) {D : va_G} {ids : Nat → ClassId} {β : Nat} {sh : Nat → Nat × Nat} {N : Nat} {R : Nat → Nat → Option Nat} {F : Nat → Nat → Int} {A : Nat → Int → Int} {S : SP} (hM : MoL sh R N) (hR0 : RepM S F A) {V : Int → Int} {a b t : Int} {ve : T3} (hS : St 68 V F A) (ha : isB S a) (hb : isB S b) (ht : isT t) (he : tr V 65 = ve) (bve : bdt 53 51 ve) : MetX l yX8_joined cX8_joined 6 (some (.int)) 5 119 D ids β sh N R F A [rf 0, pI a, pI b, pI t, pI 2, pI 65] (pIr (Tq 68 F A 68 V (tquo (tmul (vS S a t 2) (vS S b t 2)) ve))) := by
  refine MetX.of (loc := [_, _, _, _, _, _]) (plainFor_of_name (by decide +kernel)) (Nat.le_of_ble_eq_true rfl) rfl ?_
  intro p e s m args below meth c hC hK hr hlk
  obtain ⟨⟨m0, m1⟩, ⟨rx0, r2, r3, r7, r8, r9, r11, r12, r13, r16, r18⟩, ⟨m2, m3⟩, ⟨m4, m5⟩, ⟨m6, m7⟩, ⟨m8, m9⟩, ⟨m10, m11⟩, ⟨m12, m13⟩, ⟨m14, m15⟩, ⟨m16, m17⟩, ⟨m18, m19⟩, ⟨m20, m21⟩, ⟨m22, m23⟩⟩ := id hM
  obtain ⟨hi, b1, b2, b3, b4, b5, b6, b7, b8⟩ := id hR0
  have i1 := hi.1
  have n16 := hi.1.2
  have a16 := ha.2
  have b16 := hb.2
  have a00 := ha.1
  have b00 := hb.1
  refine x_iload (pc2 := 2) hC rfl dX8_joined_0 rfl ?_
  refine x_tin (tgt := 106) hC (by decide) (by decide) (by decide) dX8_joined_2 rfl rfl ?_
  refine x_aload_n (pc2 := 107) hC rfl rfl dX8_joined_106 rfl ?_
  refine x_aload_n (pc2 := 108) hC rfl rfl dX8_joined_107 rfl ?_
  refine x_aload_n (pc2 := 109) hC rfl rfl dX8_joined_108 rfl ?_
  refine x_iload_n (pc2 := 110) hC rfl rfl dX8_joined_109 rfl ?_
  refine x_iload_n (pc2 := 111) hC rfl rfl dX8_joined_110 rfl ?_
  refine x_iconst (pc2 := 112) hC dX8_joined_111 rfl ?_
  refine x_iconst (pc2 := 113) hC dX8_joined_112 rfl ?_
  refine x_cVi (pc2 := 116) (ci := 8) hC hK (t_entry l hM hS (by decide) ⟨by omega, by omega⟩ (x := vS S a t 2) (show held (A 2) (96 * a + 24 * t + 6 * (2 * 1 + 0)) (vS S a t 2) from b6 a t 2 ha ht ⟨by decide, by decide⟩) ((hi.2.1 a ha).2 t 2 ht ⟨by decide, by decide⟩).1.2.2) lk_985 rfl rfl (by decide) (by assumption) (by assumption) ⟨Nat.le_of_ble_eq_true rfl, Nat.le_of_ble_eq_true rfl⟩ ⟨Nat.le_refl _, Nat.le_refl _⟩ rfl (Nat.le_of_ble_eq_true rfl) dX8_joined_113 rfl ?_
  rintro z113 F113 A113 ⟨ez113, V113, hS113, v113, k113, g113⟩
  obtain rfl := ez113.symm
  replace hS113 : St 86 V113 F113 A113 := hS113
  have t113_ve : tr V113 65 = ve := (tr_keep (by decide) k113).trans he
  rw [show (68 : Int) + 15 = 83 from rfl]
  obtain ⟨wj113, ewj113⟩ : ∃ w, w = vS S a t 2 := ⟨_, rfl⟩
  have uwj113 : tr V113 83 = wj113 := by rw [ewj113]; exact v113
  have bwj113 : bdt 25 25 wj113 := by rw [ewj113]; exact (ok_bdt ((hi.2.1 a ha).2 t 2 ht ⟨by decide, by decide⟩).1)
  clear v113
  refine x_aload_n (pc2 := 117) hC rfl rfl dX8_joined_116 rfl ?_
  refine x_iload_n (pc2 := 118) hC rfl rfl dX8_joined_117 rfl ?_
  refine x_iload_n (pc2 := 119) hC rfl rfl dX8_joined_118 rfl ?_
  refine x_iconst (pc2 := 120) hC dX8_joined_119 rfl ?_
  refine x_iconst (pc2 := 121) hC dX8_joined_120 rfl ?_
  refine x_cVi (pc2 := 124) (ci := 8) hC hK (t_entry l hM hS113 (by decide) ⟨by omega, by omega⟩ (x := vS S b t 2) (by rw [g113.a (by decide)]; exact (show held (A 2) (96 * b + 24 * t + 6 * (2 * 1 + 0)) (vS S b t 2) from b6 b t 2 hb ht ⟨by decide, by decide⟩)) ((hi.2.1 b hb).2 t 2 ht ⟨by decide, by decide⟩).1.2.2) lk_985 rfl rfl (by decide) (by assumption) (by assumption) ⟨Nat.le_of_ble_eq_true rfl, Nat.le_of_ble_eq_true rfl⟩ ⟨Nat.le_refl _, Nat.le_refl _⟩ rfl (Nat.le_of_ble_eq_true rfl) dX8_joined_121 rfl ?_
  rintro z121 F121 A121 ⟨ez121, V121, hS121, v121, k121, g121⟩
  obtain rfl := ez121.symm
  replace hS121 : St 104 V121 F121 A121 := hS121
  have t121_ve : tr V121 65 = ve := (tr_keep (by decide) k121).trans t113_ve
  have t121_wj113 : tr V121 83 = wj113 := (tr_keep (by decide) k121).trans uwj113
  rw [show (86 : Int) + 15 = 101 from rfl]
  obtain ⟨wj121, ewj121⟩ : ∃ w, w = vS S b t 2 := ⟨_, rfl⟩
  have uwj121 : tr V121 101 = wj121 := by rw [ewj121]; exact v121
  have bwj121 : bdt 25 25 wj121 := by rw [ewj121]; exact (ok_bdt ((hi.2.1 b hb).2 t 2 ht ⟨by decide, by decide⟩).1)
  clear v121
  refine x_cVi (pc2 := 127) (ci := 8) hC hK (t_product l hM hS121 (x := 83) (y := 101) ⟨by decide, by decide⟩ ⟨by decide, by decide⟩ t121_wj113 uwj121 bwj113 bwj121 (by decide) ⟨by decide, by decide⟩) lk_1004 rfl rfl (by decide) (by assumption) (by assumption) ⟨Nat.le_of_ble_eq_true rfl, Nat.le_of_ble_eq_true rfl⟩ ⟨Nat.le_refl _, Nat.le_refl _⟩ rfl (Nat.le_of_ble_eq_true rfl) dX8_joined_124 rfl ?_
  rintro z124 F124 A124 ⟨ez124, V124, hS124, v124, k124, g124⟩
  obtain rfl := ez124.symm
  replace hS124 : St 115 V124 F124 A124 := hS124
  have t124_ve : tr V124 65 = ve := (tr_keep (by decide) k124).trans t121_ve
  have t124_wj113 : tr V124 83 = wj113 := (tr_keep (by decide) k124).trans t121_wj113
  have t124_wj121 : tr V124 101 = wj121 := (tr_keep (by decide) k124).trans uwj121
  rw [show (104 : Int) + 8 = 112 from rfl]
  obtain ⟨wj124, ewj124⟩ : ∃ w, w = tmul wj113 wj121 := ⟨_, rfl⟩
  have uwj124 : tr V124 112 = wj124 := by rw [ewj124]; exact v124
  have bwj124 : bdt 51 50 wj124 := by rw [ewj124]; exact (bdt_mul bwj113 bwj121 (by decide) (by decide))
  clear v124
  refine x_iload (pc2 := 129) hC rfl dX8_joined_127 rfl ?_
  refine x_cVi (pc2 := 132) (ci := 8) hC hK (t_quo l hM hS124 (x := 112) (y := 65) ⟨by decide, by decide⟩ ⟨by decide, by decide⟩ uwj124 t124_ve bwj124 bve (by decide) ⟨by decide, by decide, by decide, by decide, by decide⟩) lk_1044 rfl rfl (by decide) (by assumption) (by assumption) ⟨Nat.le_of_ble_eq_true rfl, Nat.le_of_ble_eq_true rfl⟩ ⟨Nat.le_refl _, Nat.le_refl _⟩ rfl (Nat.le_of_ble_eq_true rfl) dX8_joined_129 rfl ?_
  rintro z129 F129 A129 ⟨ez129, V129, hS129, v129, k129, g129⟩
  obtain rfl := ez129.symm
  replace hS129 : St 139 V129 F129 A129 := hS129
  have t129_ve : tr V129 65 = ve := (tr_keep (by decide) k129).trans t124_ve
  have t129_wj113 : tr V129 83 = wj113 := (tr_keep (by decide) k129).trans t124_wj113
  have t129_wj121 : tr V129 101 = wj121 := (tr_keep (by decide) k129).trans t124_wj121
  have t129_wj124 : tr V129 112 = wj124 := (tr_keep (by decide) k129).trans uwj124
  rw [show (115 : Int) + 21 = 136 from rfl]
  obtain ⟨wj129, ewj129⟩ : ∃ w, w = tquo wj124 ve := ⟨_, rfl⟩
  have uwj129 : tr V129 136 = wj129 := by rw [ewj129]; exact v129
  have bwj129 : bdt 156 157 wj129 := by rw [ewj129]; exact (bdt_quo bwj124 bve (by decide) (by decide))
  clear v129
  exact x_iret hC hr hlk ⟨_, rfl, rfl, V129, hS129, (uwj129).trans (by rw [ewj129, ewj124, ewj113, ewj121]), fun u hu => (k129 u (by omega)).trans ((k124 u (by omega)).trans ((k121 u (by omega)).trans (k113 u hu))), (((g113.tr g121).tr g124).tr g129)⟩ dX8_joined_132
set_option maxHeartbeats 8000000 in
theorem t_joined3 (l : Launch) {D : va_G} {ids : Nat → ClassId} {β : Nat} {sh : Nat → Nat × Nat} {N : Nat} {R : Nat → Nat → Option Nat} {F : Nat → Nat → Int} {A : Nat → Int → Int} {S : SP} (hM : MoL sh R N) (hR0 : RepM S F A) {V : Int → Int} {a b t : Int} {ve : T3} (hS : St 68 V F A) (ha : isB S a) (hb : isB S b) (ht : isT t) (he : tr V 65 = ve) (bve : bdt 53 51 ve) : MetX l yX8_joined cX8_joined 6 (some (.int)) 5 119 D ids β sh N R F A [rf 0, pI a, pI b, pI t, pI 3, pI 65] (pIr (Tq 125 F A 68 V (tadd (vS S b t 3) (tquo (tmul (tmul (vS S b t 1) (vS S b t 2)) (vS S a t 3)) ve)))) := by
  refine MetX.of (loc := [_, _, _, _, _, _]) (plainFor_of_name (by decide +kernel)) (Nat.le_of_ble_eq_true rfl) rfl ?_
  intro p e s m args below meth c hC hK hr hlk
  obtain ⟨⟨m0, m1⟩, ⟨rx0, r2, r3, r7, r8, r9, r11, r12, r13, r16, r18⟩, ⟨m2, m3⟩, ⟨m4, m5⟩, ⟨m6, m7⟩, ⟨m8, m9⟩, ⟨m10, m11⟩, ⟨m12, m13⟩, ⟨m14, m15⟩, ⟨m16, m17⟩, ⟨m18, m19⟩, ⟨m20, m21⟩, ⟨m22, m23⟩⟩ := id hM
  obtain ⟨hi, b1, b2, b3, b4, b5, b6, b7, b8⟩ := id hR0
  have i1 := hi.1
  have n16 := hi.1.2
  have a16 := ha.2
  have b16 := hb.2
  have a00 := ha.1
  have b00 := hb.1
  refine x_iload (pc2 := 2) hC rfl dX8_joined_0 rfl ?_
  refine x_tout (tgt := 133) hC (by decide) (by decide) dX8_joined_2 rfl ?_
  refine x_aload_n (pc2 := 134) hC rfl rfl dX8_joined_133 rfl ?_
  refine x_aload_n (pc2 := 135) hC rfl rfl dX8_joined_134 rfl ?_
  refine x_iload_n (pc2 := 136) hC rfl rfl dX8_joined_135 rfl ?_
  refine x_iload_n (pc2 := 137) hC rfl rfl dX8_joined_136 rfl ?_
  refine x_iconst (pc2 := 138) hC dX8_joined_137 rfl ?_
  refine x_iconst (pc2 := 139) hC dX8_joined_138 rfl ?_
  refine x_cVi (pc2 := 142) (ci := 8) hC hK (t_entry l hM hS (by decide) ⟨by omega, by omega⟩ (x := vS S b t 3) (show held (A 2) (96 * b + 24 * t + 6 * (2 * 1 + 1)) (vS S b t 3) from b6 b t 3 hb ht ⟨by decide, by decide⟩) ((hi.2.1 b hb).2 t 3 ht ⟨by decide, by decide⟩).1.2.2) lk_985 rfl rfl (by decide) (by assumption) (by assumption) ⟨Nat.le_of_ble_eq_true rfl, Nat.le_of_ble_eq_true rfl⟩ ⟨Nat.le_refl _, Nat.le_refl _⟩ rfl (Nat.le_of_ble_eq_true rfl) dX8_joined_139 rfl ?_
  rintro z139 F139 A139 ⟨ez139, V139, hS139, v139, k139, g139⟩
  obtain rfl := ez139.symm
  replace hS139 : St 86 V139 F139 A139 := hS139
  have t139_ve : tr V139 65 = ve := (tr_keep (by decide) k139).trans he
  rw [show (68 : Int) + 15 = 83 from rfl]
  obtain ⟨wj139, ewj139⟩ : ∃ w, w = vS S b t 3 := ⟨_, rfl⟩
  have uwj139 : tr V139 83 = wj139 := by rw [ewj139]; exact v139
  have bwj139 : bdt 25 25 wj139 := by rw [ewj139]; exact (ok_bdt ((hi.2.1 b hb).2 t 3 ht ⟨by decide, by decide⟩).1)
  clear v139
  refine x_aload_n (pc2 := 143) hC rfl rfl dX8_joined_142 rfl ?_
  refine x_aload_n (pc2 := 144) hC rfl rfl dX8_joined_143 rfl ?_
  refine x_aload_n (pc2 := 145) hC rfl rfl dX8_joined_144 rfl ?_
  refine x_aload_n (pc2 := 146) hC rfl rfl dX8_joined_145 rfl ?_
  refine x_iload_n (pc2 := 147) hC rfl rfl dX8_joined_146 rfl ?_
  refine x_iload_n (pc2 := 148) hC rfl rfl dX8_joined_147 rfl ?_
  refine x_iconst (pc2 := 149) hC dX8_joined_148 rfl ?_
  refine x_iconst (pc2 := 150) hC dX8_joined_149 rfl ?_
  refine x_cVi (pc2 := 153) (ci := 8) hC hK (t_entry l hM hS139 (by decide) ⟨by omega, by omega⟩ (x := vS S b t 1) (by rw [g139.a (by decide)]; exact (show held (A 2) (96 * b + 24 * t + 6 * (2 * 0 + 1)) (vS S b t 1) from b6 b t 1 hb ht ⟨by decide, by decide⟩)) ((hi.2.1 b hb).2 t 1 ht ⟨by decide, by decide⟩).1.2.2) lk_985 rfl rfl (by decide) (by assumption) (by assumption) ⟨Nat.le_of_ble_eq_true rfl, Nat.le_of_ble_eq_true rfl⟩ ⟨Nat.le_refl _, Nat.le_refl _⟩ rfl (Nat.le_of_ble_eq_true rfl) dX8_joined_150 rfl ?_
  rintro z150 F150 A150 ⟨ez150, V150, hS150, v150, k150, g150⟩
  obtain rfl := ez150.symm
  replace hS150 : St 104 V150 F150 A150 := hS150
  have t150_ve : tr V150 65 = ve := (tr_keep (by decide) k150).trans t139_ve
  have t150_wj139 : tr V150 83 = wj139 := (tr_keep (by decide) k150).trans uwj139
  rw [show (86 : Int) + 15 = 101 from rfl]
  obtain ⟨wj150, ewj150⟩ : ∃ w, w = vS S b t 1 := ⟨_, rfl⟩
  have uwj150 : tr V150 101 = wj150 := by rw [ewj150]; exact v150
  have bwj150 : bdt 25 25 wj150 := by rw [ewj150]; exact (ok_bdt ((hi.2.1 b hb).2 t 1 ht ⟨by decide, by decide⟩).1)
  clear v150
  refine x_aload_n (pc2 := 154) hC rfl rfl dX8_joined_153 rfl ?_
  refine x_iload_n (pc2 := 155) hC rfl rfl dX8_joined_154 rfl ?_
  refine x_iload_n (pc2 := 156) hC rfl rfl dX8_joined_155 rfl ?_
  refine x_iconst (pc2 := 157) hC dX8_joined_156 rfl ?_
  refine x_iconst (pc2 := 158) hC dX8_joined_157 rfl ?_
  refine x_cVi (pc2 := 161) (ci := 8) hC hK (t_entry l hM hS150 (by decide) ⟨by omega, by omega⟩ (x := vS S b t 2) (by rw [(g139.tr g150).a (by decide)]; exact (show held (A 2) (96 * b + 24 * t + 6 * (2 * 1 + 0)) (vS S b t 2) from b6 b t 2 hb ht ⟨by decide, by decide⟩)) ((hi.2.1 b hb).2 t 2 ht ⟨by decide, by decide⟩).1.2.2) lk_985 rfl rfl (by decide) (by assumption) (by assumption) ⟨Nat.le_of_ble_eq_true rfl, Nat.le_of_ble_eq_true rfl⟩ ⟨Nat.le_refl _, Nat.le_refl _⟩ rfl (Nat.le_of_ble_eq_true rfl) dX8_joined_158 rfl ?_
  rintro z158 F158 A158 ⟨ez158, V158, hS158, v158, k158, g158⟩
  obtain rfl := ez158.symm
  replace hS158 : St 122 V158 F158 A158 := hS158
  have t158_ve : tr V158 65 = ve := (tr_keep (by decide) k158).trans t150_ve
  have t158_wj139 : tr V158 83 = wj139 := (tr_keep (by decide) k158).trans t150_wj139
  have t158_wj150 : tr V158 101 = wj150 := (tr_keep (by decide) k158).trans uwj150
  rw [show (104 : Int) + 15 = 119 from rfl]
  obtain ⟨wj158, ewj158⟩ : ∃ w, w = vS S b t 2 := ⟨_, rfl⟩
  have uwj158 : tr V158 119 = wj158 := by rw [ewj158]; exact v158
  have bwj158 : bdt 25 25 wj158 := by rw [ewj158]; exact (ok_bdt ((hi.2.1 b hb).2 t 2 ht ⟨by decide, by decide⟩).1)
  clear v158
  refine x_cVi (pc2 := 164) (ci := 8) hC hK (t_product l hM hS158 (x := 101) (y := 119) ⟨by decide, by decide⟩ ⟨by decide, by decide⟩ t158_wj150 uwj158 bwj150 bwj158 (by decide) ⟨by decide, by decide⟩) lk_1004 rfl rfl (by decide) (by assumption) (by assumption) ⟨Nat.le_of_ble_eq_true rfl, Nat.le_of_ble_eq_true rfl⟩ ⟨Nat.le_refl _, Nat.le_refl _⟩ rfl (Nat.le_of_ble_eq_true rfl) dX8_joined_161 rfl ?_
  rintro z161 F161 A161 ⟨ez161, V161, hS161, v161, k161, g161⟩
  obtain rfl := ez161.symm
  replace hS161 : St 133 V161 F161 A161 := hS161
  have t161_ve : tr V161 65 = ve := (tr_keep (by decide) k161).trans t158_ve
  have t161_wj139 : tr V161 83 = wj139 := (tr_keep (by decide) k161).trans t158_wj139
  have t161_wj150 : tr V161 101 = wj150 := (tr_keep (by decide) k161).trans t158_wj150
  have t161_wj158 : tr V161 119 = wj158 := (tr_keep (by decide) k161).trans uwj158
  rw [show (122 : Int) + 8 = 130 from rfl]
  obtain ⟨wj161, ewj161⟩ : ∃ w, w = tmul wj150 wj158 := ⟨_, rfl⟩
  have uwj161 : tr V161 130 = wj161 := by rw [ewj161]; exact v161
  have bwj161 : bdt 51 50 wj161 := by rw [ewj161]; exact (bdt_mul bwj150 bwj158 (by decide) (by decide))
  clear v161
  refine x_aload_n (pc2 := 165) hC rfl rfl dX8_joined_164 rfl ?_
  refine x_iload_n (pc2 := 166) hC rfl rfl dX8_joined_165 rfl ?_
  refine x_iload_n (pc2 := 167) hC rfl rfl dX8_joined_166 rfl ?_
  refine x_iconst (pc2 := 168) hC dX8_joined_167 rfl ?_
  refine x_iconst (pc2 := 169) hC dX8_joined_168 rfl ?_
  refine x_cVi (pc2 := 172) (ci := 8) hC hK (t_entry l hM hS161 (by decide) ⟨by omega, by omega⟩ (x := vS S a t 3) (by rw [(((g139.tr g150).tr g158).tr g161).a (by decide)]; exact (show held (A 2) (96 * a + 24 * t + 6 * (2 * 1 + 1)) (vS S a t 3) from b6 a t 3 ha ht ⟨by decide, by decide⟩)) ((hi.2.1 a ha).2 t 3 ht ⟨by decide, by decide⟩).1.2.2) lk_985 rfl rfl (by decide) (by assumption) (by assumption) ⟨Nat.le_of_ble_eq_true rfl, Nat.le_of_ble_eq_true rfl⟩ ⟨Nat.le_refl _, Nat.le_refl _⟩ rfl (Nat.le_of_ble_eq_true rfl) dX8_joined_169 rfl ?_
  rintro z169 F169 A169 ⟨ez169, V169, hS169, v169, k169, g169⟩
  obtain rfl := ez169.symm
  replace hS169 : St 151 V169 F169 A169 := hS169
  have t169_ve : tr V169 65 = ve := (tr_keep (by decide) k169).trans t161_ve
  have t169_wj139 : tr V169 83 = wj139 := (tr_keep (by decide) k169).trans t161_wj139
  have t169_wj150 : tr V169 101 = wj150 := (tr_keep (by decide) k169).trans t161_wj150
  have t169_wj158 : tr V169 119 = wj158 := (tr_keep (by decide) k169).trans t161_wj158
  have t169_wj161 : tr V169 130 = wj161 := (tr_keep (by decide) k169).trans uwj161
  rw [show (133 : Int) + 15 = 148 from rfl]
  obtain ⟨wj169, ewj169⟩ : ∃ w, w = vS S a t 3 := ⟨_, rfl⟩
  have uwj169 : tr V169 148 = wj169 := by rw [ewj169]; exact v169
  have bwj169 : bdt 25 25 wj169 := by rw [ewj169]; exact (ok_bdt ((hi.2.1 a ha).2 t 3 ht ⟨by decide, by decide⟩).1)
  clear v169
  refine x_cVi (pc2 := 175) (ci := 8) hC hK (t_product l hM hS169 (x := 130) (y := 148) ⟨by decide, by decide⟩ ⟨by decide, by decide⟩ t169_wj161 uwj169 bwj161 bwj169 (by decide) ⟨by decide, by decide⟩) lk_1004 rfl rfl (by decide) (by assumption) (by assumption) ⟨Nat.le_of_ble_eq_true rfl, Nat.le_of_ble_eq_true rfl⟩ ⟨Nat.le_refl _, Nat.le_refl _⟩ rfl (Nat.le_of_ble_eq_true rfl) dX8_joined_172 rfl ?_
  rintro z172 F172 A172 ⟨ez172, V172, hS172, v172, k172, g172⟩
  obtain rfl := ez172.symm
  replace hS172 : St 162 V172 F172 A172 := hS172
  have t172_ve : tr V172 65 = ve := (tr_keep (by decide) k172).trans t169_ve
  have t172_wj139 : tr V172 83 = wj139 := (tr_keep (by decide) k172).trans t169_wj139
  have t172_wj150 : tr V172 101 = wj150 := (tr_keep (by decide) k172).trans t169_wj150
  have t172_wj158 : tr V172 119 = wj158 := (tr_keep (by decide) k172).trans t169_wj158
  have t172_wj161 : tr V172 130 = wj161 := (tr_keep (by decide) k172).trans t169_wj161
  have t172_wj169 : tr V172 148 = wj169 := (tr_keep (by decide) k172).trans uwj169
  rw [show (151 : Int) + 8 = 159 from rfl]
  obtain ⟨wj172, ewj172⟩ : ∃ w, w = tmul wj161 wj169 := ⟨_, rfl⟩
  have uwj172 : tr V172 159 = wj172 := by rw [ewj172]; exact v172
  have bwj172 : bdt 77 75 wj172 := by rw [ewj172]; exact (bdt_mul bwj161 bwj169 (by decide) (by decide))
  clear v172
  refine x_iload (pc2 := 177) hC rfl dX8_joined_175 rfl ?_
  refine x_cVi (pc2 := 180) (ci := 8) hC hK (t_quo l hM hS172 (x := 159) (y := 65) ⟨by decide, by decide⟩ ⟨by decide, by decide⟩ uwj172 t172_ve bwj172 bve (by decide) ⟨by decide, by decide, by decide, by decide, by decide⟩) lk_1044 rfl rfl (by decide) (by assumption) (by assumption) ⟨Nat.le_of_ble_eq_true rfl, Nat.le_of_ble_eq_true rfl⟩ ⟨Nat.le_refl _, Nat.le_refl _⟩ rfl (Nat.le_of_ble_eq_true rfl) dX8_joined_177 rfl ?_
  rintro z177 F177 A177 ⟨ez177, V177, hS177, v177, k177, g177⟩
  obtain rfl := ez177.symm
  replace hS177 : St 186 V177 F177 A177 := hS177
  have t177_ve : tr V177 65 = ve := (tr_keep (by decide) k177).trans t172_ve
  have t177_wj139 : tr V177 83 = wj139 := (tr_keep (by decide) k177).trans t172_wj139
  have t177_wj150 : tr V177 101 = wj150 := (tr_keep (by decide) k177).trans t172_wj150
  have t177_wj158 : tr V177 119 = wj158 := (tr_keep (by decide) k177).trans t172_wj158
  have t177_wj161 : tr V177 130 = wj161 := (tr_keep (by decide) k177).trans t172_wj161
  have t177_wj169 : tr V177 148 = wj169 := (tr_keep (by decide) k177).trans t172_wj169
  have t177_wj172 : tr V177 159 = wj172 := (tr_keep (by decide) k177).trans uwj172
  rw [show (162 : Int) + 21 = 183 from rfl]
  obtain ⟨wj177, ewj177⟩ : ∃ w, w = tquo wj172 ve := ⟨_, rfl⟩
  have uwj177 : tr V177 183 = wj177 := by rw [ewj177]; exact v177
  have bwj177 : bdt 182 182 wj177 := by rw [ewj177]; exact (bdt_quo bwj172 bve (by decide) (by decide))
  clear v177
  refine x_cVi (pc2 := 183) (ci := 8) hC hK (t_added l hM hS177 (x := 83) (y := 183) ⟨by decide, by decide⟩ ⟨by decide, by decide⟩ t177_wj139 uwj177 bwj139 bwj177 (by decide) ⟨by decide, by decide, by decide⟩) lk_1020 rfl rfl (by decide) (by assumption) (by assumption) ⟨Nat.le_of_ble_eq_true rfl, Nat.le_of_ble_eq_true rfl⟩ ⟨Nat.le_refl _, Nat.le_refl _⟩ rfl (Nat.le_of_ble_eq_true rfl) dX8_joined_180 rfl ?_
  rintro z180 F180 A180 ⟨ez180, V180, hS180, v180, k180, g180⟩
  obtain rfl := ez180.symm
  replace hS180 : St 196 V180 F180 A180 := hS180
  have t180_ve : tr V180 65 = ve := (tr_keep (by decide) k180).trans t177_ve
  have t180_wj139 : tr V180 83 = wj139 := (tr_keep (by decide) k180).trans t177_wj139
  have t180_wj150 : tr V180 101 = wj150 := (tr_keep (by decide) k180).trans t177_wj150
  have t180_wj158 : tr V180 119 = wj158 := (tr_keep (by decide) k180).trans t177_wj158
  have t180_wj161 : tr V180 130 = wj161 := (tr_keep (by decide) k180).trans t177_wj161
  have t180_wj169 : tr V180 148 = wj169 := (tr_keep (by decide) k180).trans t177_wj169
  have t180_wj172 : tr V180 159 = wj172 := (tr_keep (by decide) k180).trans t177_wj172
  have t180_wj177 : tr V180 183 = wj177 := (tr_keep (by decide) k180).trans uwj177
  rw [show (186 : Int) + 7 = 193 from rfl]
  obtain ⟨wj180, ewj180⟩ : ∃ w, w = tadd wj139 wj177 := ⟨_, rfl⟩
  have uwj180 : tr V180 193 = wj180 := by rw [ewj180]; exact v180
  have bwj180 : bdt 208 207 wj180 := by rw [ewj180]; exact (bdt_add bwj139 bwj177 (by decide) (by decide) (by decide))
  clear v180
  exact x_iret hC hr hlk ⟨_, rfl, rfl, V180, hS180, (uwj180).trans (by rw [ewj180, ewj177, ewj172, ewj161, ewj169, ewj150, ewj158, ewj139]), fun u hu => (k180 u (by omega)).trans ((k177 u (by omega)).trans ((k172 u (by omega)).trans ((k169 u (by omega)).trans ((k161 u (by omega)).trans ((k158 u (by omega)).trans ((k150 u (by omega)).trans (k139 u hu))))))), (((((((g139.tr g150).tr g158).tr g161).tr g169).tr g172).tr g177).tr g180)⟩ dX8_joined_183
theorem dX8_underneath_0 : decode cX8_underneath 0 = .ok (.aload_n 0, 1) := by decide +kernel
theorem dX8_underneath_1 : decode cX8_underneath 1 = .ok (.aload_n 0, 1) := by decide +kernel
theorem dX8_underneath_2 : decode cX8_underneath 2 = .ok (.iload_n 2, 1) := by decide +kernel
theorem dX8_underneath_3 : decode cX8_underneath 3 = .ok (.iload_n 3, 1) := by decide +kernel
theorem dX8_underneath_4 : decode cX8_underneath 4 = .ok (.iconst 0, 1) := by decide +kernel
theorem dX8_underneath_5 : decode cX8_underneath 5 = .ok (.iconst 0, 1) := by decide +kernel
theorem dX8_underneath_6 : decode cX8_underneath 6 = .ok (.invokevirtual 200, 3) := by decide +kernel
theorem dX8_underneath_9 : decode cX8_underneath 9 = .ok (.aload_n 0, 1) := by decide +kernel
theorem dX8_underneath_10 : decode cX8_underneath 10 = .ok (.iload_n 1, 1) := by decide +kernel
theorem dX8_underneath_11 : decode cX8_underneath 11 = .ok (.iload_n 3, 1) := by decide +kernel
theorem dX8_underneath_12 : decode cX8_underneath 12 = .ok (.iconst 0, 1) := by decide +kernel
theorem dX8_underneath_13 : decode cX8_underneath 13 = .ok (.iconst 0, 1) := by decide +kernel
theorem dX8_underneath_14 : decode cX8_underneath 14 = .ok (.invokevirtual 200, 3) := by decide +kernel
theorem dX8_underneath_17 : decode cX8_underneath 17 = .ok (.invokevirtual 203, 3) := by decide +kernel
theorem dX8_underneath_20 : decode cX8_underneath 20 = .ok (.istore 4, 2) := by decide +kernel
theorem dX8_underneath_22 : decode cX8_underneath 22 = .ok (.aload_n 0, 1) := by decide +kernel
theorem dX8_underneath_23 : decode cX8_underneath 23 = .ok (.aload_n 0, 1) := by decide +kernel
theorem dX8_underneath_24 : decode cX8_underneath 24 = .ok (.aload_n 0, 1) := by decide +kernel
theorem dX8_underneath_25 : decode cX8_underneath 25 = .ok (.iload_n 1, 1) := by decide +kernel
theorem dX8_underneath_26 : decode cX8_underneath 26 = .ok (.iload_n 3, 1) := by decide +kernel
theorem dX8_underneath_27 : decode cX8_underneath 27 = .ok (.iconst 0, 1) := by decide +kernel
theorem dX8_underneath_28 : decode cX8_underneath 28 = .ok (.iconst 1, 1) := by decide +kernel
theorem dX8_underneath_29 : decode cX8_underneath 29 = .ok (.invokevirtual 200, 3) := by decide +kernel
theorem dX8_underneath_32 : decode cX8_underneath 32 = .ok (.aload_n 0, 1) := by decide +kernel
theorem dX8_underneath_33 : decode cX8_underneath 33 = .ok (.iload_n 1, 1) := by decide +kernel
theorem dX8_underneath_34 : decode cX8_underneath 34 = .ok (.iload_n 3, 1) := by decide +kernel
theorem dX8_underneath_35 : decode cX8_underneath 35 = .ok (.iconst 1, 1) := by decide +kernel
theorem dX8_underneath_36 : decode cX8_underneath 36 = .ok (.iconst 0, 1) := by decide +kernel
theorem dX8_underneath_37 : decode cX8_underneath 37 = .ok (.invokevirtual 200, 3) := by decide +kernel
theorem dX8_underneath_40 : decode cX8_underneath 40 = .ok (.invokevirtual 118, 3) := by decide +kernel
theorem dX8_underneath_43 : decode cX8_underneath 43 = .ok (.aload_n 0, 1) := by decide +kernel
theorem dX8_underneath_44 : decode cX8_underneath 44 = .ok (.aload_n 0, 1) := by decide +kernel
theorem dX8_underneath_45 : decode cX8_underneath 45 = .ok (.iload_n 1, 1) := by decide +kernel
theorem dX8_underneath_46 : decode cX8_underneath 46 = .ok (.iload_n 3, 1) := by decide +kernel
theorem dX8_underneath_47 : decode cX8_underneath 47 = .ok (.iconst 1, 1) := by decide +kernel
theorem dX8_underneath_48 : decode cX8_underneath 48 = .ok (.iconst 1, 1) := by decide +kernel
theorem dX8_underneath_49 : decode cX8_underneath 49 = .ok (.invokevirtual 200, 3) := by decide +kernel
theorem dX8_underneath_52 : decode cX8_underneath 52 = .ok (.iload 4, 2) := by decide +kernel
theorem dX8_underneath_54 : decode cX8_underneath 54 = .ok (.invokevirtual 118, 3) := by decide +kernel
theorem dX8_underneath_57 : decode cX8_underneath 57 = .ok (.invokevirtual 109, 3) := by decide +kernel
theorem dX8_underneath_60 : decode cX8_underneath 60 = .ok (.ireturn, 1) := by decide +kernel
set_option maxHeartbeats 8000000 in
theorem t_under0 (l : Launch) {D : va_G} {ids : Nat → ClassId} {β : Nat} {sh : Nat → Nat × Nat} {N : Nat} {R : Nat → Nat → Option Nat} {F : Nat → Nat → Int} {A : Nat → Int → Int} {S : SP} (hM : MoL sh R N) (hR0 : RepM S F A) {V : Int → Int} {a b t : Int} (hS : St 0 V F A) (ha : isB S a) (hb : isB S b) (ht : isT t) : MetX l yX8_underneath cX8_underneath 5 (some (.int)) 5 117 D ids β sh N R F A [rf 0, pI a, pI b, pI t] (pIr (Tq 134 F A 0 V (tadd (tmul (vS S a t 1) (vS S a t 2)) (tmul (vS S a t 3) (tadd (vS S b t 0) (tneg (vS S a t 0))))))) := by
  refine MetX.of (loc := [_, _, _, _, _]) (plainFor_of_name (by decide +kernel)) (Nat.le_of_ble_eq_true rfl) rfl ?_
  intro p e s m args below meth c hC hK hr hlk
  obtain ⟨⟨m0, m1⟩, ⟨rx0, r2, r3, r7, r8, r9, r11, r12, r13, r16, r18⟩, ⟨m2, m3⟩, ⟨m4, m5⟩, ⟨m6, m7⟩, ⟨m8, m9⟩, ⟨m10, m11⟩, ⟨m12, m13⟩, ⟨m14, m15⟩, ⟨m16, m17⟩, ⟨m18, m19⟩, ⟨m20, m21⟩, ⟨m22, m23⟩⟩ := id hM
  obtain ⟨hi, b1, b2, b3, b4, b5, b6, b7, b8⟩ := id hR0
  have i1 := hi.1
  have n16 := hi.1.2
  have a16 := ha.2
  have b16 := hb.2
  have a00 := ha.1
  have b00 := hb.1
  refine x_aload_n (pc2 := 1) hC rfl rfl dX8_underneath_0 rfl ?_
  refine x_aload_n (pc2 := 2) hC rfl rfl dX8_underneath_1 rfl ?_
  refine x_iload_n (pc2 := 3) hC rfl rfl dX8_underneath_2 rfl ?_
  refine x_iload_n (pc2 := 4) hC rfl rfl dX8_underneath_3 rfl ?_
  refine x_iconst (pc2 := 5) hC dX8_underneath_4 rfl ?_
  refine x_iconst (pc2 := 6) hC dX8_underneath_5 rfl ?_
  refine x_cVi (pc2 := 9) (ci := 8) hC hK (t_entry l hM hS (by decide) ⟨by omega, by omega⟩ (x := vS S b t 0) (show held (A 2) (96 * b + 24 * t + 6 * (2 * 0 + 0)) (vS S b t 0) from b6 b t 0 hb ht ⟨by decide, by decide⟩) ((hi.2.1 b hb).2 t 0 ht ⟨by decide, by decide⟩).1.2.2) lk_985 rfl rfl (by decide) (by assumption) (by assumption) ⟨Nat.le_of_ble_eq_true rfl, Nat.le_of_ble_eq_true rfl⟩ ⟨Nat.le_refl _, Nat.le_refl _⟩ rfl (Nat.le_of_ble_eq_true rfl) dX8_underneath_6 rfl ?_
  rintro z6 F6 A6 ⟨ez6, V6, hS6, v6, k6, g6⟩
  obtain rfl := ez6.symm
  replace hS6 : St 18 V6 F6 A6 := hS6
  rw [show (0 : Int) + 15 = 15 from rfl]
  obtain ⟨wj6, ewj6⟩ : ∃ w, w = vS S b t 0 := ⟨_, rfl⟩
  have uwj6 : tr V6 15 = wj6 := by rw [ewj6]; exact v6
  have bwj6 : bdt 25 25 wj6 := by rw [ewj6]; exact (ok_bdt ((hi.2.1 b hb).2 t 0 ht ⟨by decide, by decide⟩).1)
  clear v6
  refine x_aload_n (pc2 := 10) hC rfl rfl dX8_underneath_9 rfl ?_
  refine x_iload_n (pc2 := 11) hC rfl rfl dX8_underneath_10 rfl ?_
  refine x_iload_n (pc2 := 12) hC rfl rfl dX8_underneath_11 rfl ?_
  refine x_iconst (pc2 := 13) hC dX8_underneath_12 rfl ?_
  refine x_iconst (pc2 := 14) hC dX8_underneath_13 rfl ?_
  refine x_cVi (pc2 := 17) (ci := 8) hC hK (t_entry l hM hS6 (by decide) ⟨by omega, by omega⟩ (x := vS S a t 0) (by rw [g6.a (by decide)]; exact (show held (A 2) (96 * a + 24 * t + 6 * (2 * 0 + 0)) (vS S a t 0) from b6 a t 0 ha ht ⟨by decide, by decide⟩)) ((hi.2.1 a ha).2 t 0 ht ⟨by decide, by decide⟩).1.2.2) lk_985 rfl rfl (by decide) (by assumption) (by assumption) ⟨Nat.le_of_ble_eq_true rfl, Nat.le_of_ble_eq_true rfl⟩ ⟨Nat.le_refl _, Nat.le_refl _⟩ rfl (Nat.le_of_ble_eq_true rfl) dX8_underneath_14 rfl ?_
  rintro z14 F14 A14 ⟨ez14, V14, hS14, v14, k14, g14⟩
  obtain rfl := ez14.symm
  replace hS14 : St 36 V14 F14 A14 := hS14
  have t14_wj6 : tr V14 15 = wj6 := (tr_keep (by decide) k14).trans uwj6
  rw [show (18 : Int) + 15 = 33 from rfl]
  obtain ⟨wj14, ewj14⟩ : ∃ w, w = vS S a t 0 := ⟨_, rfl⟩
  have uwj14 : tr V14 33 = wj14 := by rw [ewj14]; exact v14
  have bwj14 : bdt 25 25 wj14 := by rw [ewj14]; exact (ok_bdt ((hi.2.1 a ha).2 t 0 ht ⟨by decide, by decide⟩).1)
  clear v14
  refine x_cVi (pc2 := 20) (ci := 8) hC hK (t_sub l hM hS14 (x := 15) (y := 33) ⟨by decide, by decide⟩ ⟨by decide, by decide⟩ t14_wj6 uwj14 bwj6 bwj14 (by decide) ⟨by decide, by decide, by decide⟩) lk_1012 rfl rfl (by decide) (by assumption) (by assumption) ⟨Nat.le_of_ble_eq_true rfl, Nat.le_of_ble_eq_true rfl⟩ ⟨Nat.le_refl _, Nat.le_refl _⟩ rfl (Nat.le_of_ble_eq_true rfl) dX8_underneath_17 rfl ?_
  rintro z17 F17 A17 ⟨ez17, V17, hS17, v17, k17, g17⟩
  obtain rfl := ez17.symm
  replace hS17 : St 51 V17 F17 A17 := hS17
  have t17_wj6 : tr V17 15 = wj6 := (tr_keep (by decide) k17).trans t14_wj6
  have t17_wj14 : tr V17 33 = wj14 := (tr_keep (by decide) k17).trans uwj14
  rw [show (36 : Int) + 12 = 48 from rfl]
  obtain ⟨wj17, ewj17⟩ : ∃ w, w = tadd wj6 (tneg wj14) := ⟨_, rfl⟩
  have uwj17 : tr V17 48 = wj17 := by rw [ewj17]; exact v17
  have bwj17 : bdt 51 50 wj17 := by rw [ewj17]; exact (bdt_add bwj6 (bdt_neg bwj14) (by decide) (by decide) (by decide))
  clear v17
  refine x_istore (pc2 := 22) (loc2 := [_, _, _, _, _]) hC (by decide) rfl dX8_underneath_20 rfl ?_
  refine x_aload_n (pc2 := 23) hC rfl rfl dX8_underneath_22 rfl ?_
  refine x_aload_n (pc2 := 24) hC rfl rfl dX8_underneath_23 rfl ?_
  refine x_aload_n (pc2 := 25) hC rfl rfl dX8_underneath_24 rfl ?_
  refine x_iload_n (pc2 := 26) hC rfl rfl dX8_underneath_25 rfl ?_
  refine x_iload_n (pc2 := 27) hC rfl rfl dX8_underneath_26 rfl ?_
  refine x_iconst (pc2 := 28) hC dX8_underneath_27 rfl ?_
  refine x_iconst (pc2 := 29) hC dX8_underneath_28 rfl ?_
  refine x_cVi (pc2 := 32) (ci := 8) hC hK (t_entry l hM hS17 (by decide) ⟨by omega, by omega⟩ (x := vS S a t 1) (by rw [((g6.tr g14).tr g17).a (by decide)]; exact (show held (A 2) (96 * a + 24 * t + 6 * (2 * 0 + 1)) (vS S a t 1) from b6 a t 1 ha ht ⟨by decide, by decide⟩)) ((hi.2.1 a ha).2 t 1 ht ⟨by decide, by decide⟩).1.2.2) lk_985 rfl rfl (by decide) (by assumption) (by assumption) ⟨Nat.le_of_ble_eq_true rfl, Nat.le_of_ble_eq_true rfl⟩ ⟨Nat.le_refl _, Nat.le_refl _⟩ rfl (Nat.le_of_ble_eq_true rfl) dX8_underneath_29 rfl ?_
  rintro z29 F29 A29 ⟨ez29, V29, hS29, v29, k29, g29⟩
  obtain rfl := ez29.symm
  replace hS29 : St 69 V29 F29 A29 := hS29
  have t29_wj6 : tr V29 15 = wj6 := (tr_keep (by decide) k29).trans t17_wj6
  have t29_wj14 : tr V29 33 = wj14 := (tr_keep (by decide) k29).trans t17_wj14
  have t29_wj17 : tr V29 48 = wj17 := (tr_keep (by decide) k29).trans uwj17
  rw [show (51 : Int) + 15 = 66 from rfl]
  obtain ⟨wj29, ewj29⟩ : ∃ w, w = vS S a t 1 := ⟨_, rfl⟩
  have uwj29 : tr V29 66 = wj29 := by rw [ewj29]; exact v29
  have bwj29 : bdt 25 25 wj29 := by rw [ewj29]; exact (ok_bdt ((hi.2.1 a ha).2 t 1 ht ⟨by decide, by decide⟩).1)
  clear v29
  refine x_aload_n (pc2 := 33) hC rfl rfl dX8_underneath_32 rfl ?_
  refine x_iload_n (pc2 := 34) hC rfl rfl dX8_underneath_33 rfl ?_
  refine x_iload_n (pc2 := 35) hC rfl rfl dX8_underneath_34 rfl ?_
  refine x_iconst (pc2 := 36) hC dX8_underneath_35 rfl ?_
  refine x_iconst (pc2 := 37) hC dX8_underneath_36 rfl ?_
  refine x_cVi (pc2 := 40) (ci := 8) hC hK (t_entry l hM hS29 (by decide) ⟨by omega, by omega⟩ (x := vS S a t 2) (by rw [(((g6.tr g14).tr g17).tr g29).a (by decide)]; exact (show held (A 2) (96 * a + 24 * t + 6 * (2 * 1 + 0)) (vS S a t 2) from b6 a t 2 ha ht ⟨by decide, by decide⟩)) ((hi.2.1 a ha).2 t 2 ht ⟨by decide, by decide⟩).1.2.2) lk_985 rfl rfl (by decide) (by assumption) (by assumption) ⟨Nat.le_of_ble_eq_true rfl, Nat.le_of_ble_eq_true rfl⟩ ⟨Nat.le_refl _, Nat.le_refl _⟩ rfl (Nat.le_of_ble_eq_true rfl) dX8_underneath_37 rfl ?_
  rintro z37 F37 A37 ⟨ez37, V37, hS37, v37, k37, g37⟩
  obtain rfl := ez37.symm
  replace hS37 : St 87 V37 F37 A37 := hS37
  have t37_wj6 : tr V37 15 = wj6 := (tr_keep (by decide) k37).trans t29_wj6
  have t37_wj14 : tr V37 33 = wj14 := (tr_keep (by decide) k37).trans t29_wj14
  have t37_wj17 : tr V37 48 = wj17 := (tr_keep (by decide) k37).trans t29_wj17
  have t37_wj29 : tr V37 66 = wj29 := (tr_keep (by decide) k37).trans uwj29
  rw [show (69 : Int) + 15 = 84 from rfl]
  obtain ⟨wj37, ewj37⟩ : ∃ w, w = vS S a t 2 := ⟨_, rfl⟩
  have uwj37 : tr V37 84 = wj37 := by rw [ewj37]; exact v37
  have bwj37 : bdt 25 25 wj37 := by rw [ewj37]; exact (ok_bdt ((hi.2.1 a ha).2 t 2 ht ⟨by decide, by decide⟩).1)
  clear v37
  refine x_cVi (pc2 := 43) (ci := 8) hC hK (t_product l hM hS37 (x := 66) (y := 84) ⟨by decide, by decide⟩ ⟨by decide, by decide⟩ t37_wj29 uwj37 bwj29 bwj37 (by decide) ⟨by decide, by decide⟩) lk_1004 rfl rfl (by decide) (by assumption) (by assumption) ⟨Nat.le_of_ble_eq_true rfl, Nat.le_of_ble_eq_true rfl⟩ ⟨Nat.le_refl _, Nat.le_refl _⟩ rfl (Nat.le_of_ble_eq_true rfl) dX8_underneath_40 rfl ?_
  rintro z40 F40 A40 ⟨ez40, V40, hS40, v40, k40, g40⟩
  obtain rfl := ez40.symm
  replace hS40 : St 98 V40 F40 A40 := hS40
  have t40_wj6 : tr V40 15 = wj6 := (tr_keep (by decide) k40).trans t37_wj6
  have t40_wj14 : tr V40 33 = wj14 := (tr_keep (by decide) k40).trans t37_wj14
  have t40_wj17 : tr V40 48 = wj17 := (tr_keep (by decide) k40).trans t37_wj17
  have t40_wj29 : tr V40 66 = wj29 := (tr_keep (by decide) k40).trans t37_wj29
  have t40_wj37 : tr V40 84 = wj37 := (tr_keep (by decide) k40).trans uwj37
  rw [show (87 : Int) + 8 = 95 from rfl]
  obtain ⟨wj40, ewj40⟩ : ∃ w, w = tmul wj29 wj37 := ⟨_, rfl⟩
  have uwj40 : tr V40 95 = wj40 := by rw [ewj40]; exact v40
  have bwj40 : bdt 51 50 wj40 := by rw [ewj40]; exact (bdt_mul bwj29 bwj37 (by decide) (by decide))
  clear v40
  refine x_aload_n (pc2 := 44) hC rfl rfl dX8_underneath_43 rfl ?_
  refine x_aload_n (pc2 := 45) hC rfl rfl dX8_underneath_44 rfl ?_
  refine x_iload_n (pc2 := 46) hC rfl rfl dX8_underneath_45 rfl ?_
  refine x_iload_n (pc2 := 47) hC rfl rfl dX8_underneath_46 rfl ?_
  refine x_iconst (pc2 := 48) hC dX8_underneath_47 rfl ?_
  refine x_iconst (pc2 := 49) hC dX8_underneath_48 rfl ?_
  refine x_cVi (pc2 := 52) (ci := 8) hC hK (t_entry l hM hS40 (by decide) ⟨by omega, by omega⟩ (x := vS S a t 3) (by rw [(((((g6.tr g14).tr g17).tr g29).tr g37).tr g40).a (by decide)]; exact (show held (A 2) (96 * a + 24 * t + 6 * (2 * 1 + 1)) (vS S a t 3) from b6 a t 3 ha ht ⟨by decide, by decide⟩)) ((hi.2.1 a ha).2 t 3 ht ⟨by decide, by decide⟩).1.2.2) lk_985 rfl rfl (by decide) (by assumption) (by assumption) ⟨Nat.le_of_ble_eq_true rfl, Nat.le_of_ble_eq_true rfl⟩ ⟨Nat.le_refl _, Nat.le_refl _⟩ rfl (Nat.le_of_ble_eq_true rfl) dX8_underneath_49 rfl ?_
  rintro z49 F49 A49 ⟨ez49, V49, hS49, v49, k49, g49⟩
  obtain rfl := ez49.symm
  replace hS49 : St 116 V49 F49 A49 := hS49
  have t49_wj6 : tr V49 15 = wj6 := (tr_keep (by decide) k49).trans t40_wj6
  have t49_wj14 : tr V49 33 = wj14 := (tr_keep (by decide) k49).trans t40_wj14
  have t49_wj17 : tr V49 48 = wj17 := (tr_keep (by decide) k49).trans t40_wj17
  have t49_wj29 : tr V49 66 = wj29 := (tr_keep (by decide) k49).trans t40_wj29
  have t49_wj37 : tr V49 84 = wj37 := (tr_keep (by decide) k49).trans t40_wj37
  have t49_wj40 : tr V49 95 = wj40 := (tr_keep (by decide) k49).trans uwj40
  rw [show (98 : Int) + 15 = 113 from rfl]
  obtain ⟨wj49, ewj49⟩ : ∃ w, w = vS S a t 3 := ⟨_, rfl⟩
  have uwj49 : tr V49 113 = wj49 := by rw [ewj49]; exact v49
  have bwj49 : bdt 25 25 wj49 := by rw [ewj49]; exact (ok_bdt ((hi.2.1 a ha).2 t 3 ht ⟨by decide, by decide⟩).1)
  clear v49
  refine x_iload (pc2 := 54) hC rfl dX8_underneath_52 rfl ?_
  refine x_cVi (pc2 := 57) (ci := 8) hC hK (t_product l hM hS49 (x := 113) (y := 48) ⟨by decide, by decide⟩ ⟨by decide, by decide⟩ uwj49 t49_wj17 bwj49 bwj17 (by decide) ⟨by decide, by decide⟩) lk_1004 rfl rfl (by decide) (by assumption) (by assumption) ⟨Nat.le_of_ble_eq_true rfl, Nat.le_of_ble_eq_true rfl⟩ ⟨Nat.le_refl _, Nat.le_refl _⟩ rfl (Nat.le_of_ble_eq_true rfl) dX8_underneath_54 rfl ?_
  rintro z54 F54 A54 ⟨ez54, V54, hS54, v54, k54, g54⟩
  obtain rfl := ez54.symm
  replace hS54 : St 127 V54 F54 A54 := hS54
  have t54_wj6 : tr V54 15 = wj6 := (tr_keep (by decide) k54).trans t49_wj6
  have t54_wj14 : tr V54 33 = wj14 := (tr_keep (by decide) k54).trans t49_wj14
  have t54_wj17 : tr V54 48 = wj17 := (tr_keep (by decide) k54).trans t49_wj17
  have t54_wj29 : tr V54 66 = wj29 := (tr_keep (by decide) k54).trans t49_wj29
  have t54_wj37 : tr V54 84 = wj37 := (tr_keep (by decide) k54).trans t49_wj37
  have t54_wj40 : tr V54 95 = wj40 := (tr_keep (by decide) k54).trans t49_wj40
  have t54_wj49 : tr V54 113 = wj49 := (tr_keep (by decide) k54).trans uwj49
  rw [show (116 : Int) + 8 = 124 from rfl]
  obtain ⟨wj54, ewj54⟩ : ∃ w, w = tmul wj49 wj17 := ⟨_, rfl⟩
  have uwj54 : tr V54 124 = wj54 := by rw [ewj54]; exact v54
  have bwj54 : bdt 77 75 wj54 := by rw [ewj54]; exact (bdt_mul bwj49 bwj17 (by decide) (by decide))
  clear v54
  refine x_cVi (pc2 := 60) (ci := 8) hC hK (t_added l hM hS54 (x := 95) (y := 124) ⟨by decide, by decide⟩ ⟨by decide, by decide⟩ t54_wj40 uwj54 bwj40 bwj54 (by decide) ⟨by decide, by decide, by decide⟩) lk_1020 rfl rfl (by decide) (by assumption) (by assumption) ⟨Nat.le_of_ble_eq_true rfl, Nat.le_of_ble_eq_true rfl⟩ ⟨Nat.le_refl _, Nat.le_refl _⟩ rfl (Nat.le_of_ble_eq_true rfl) dX8_underneath_57 rfl ?_
  rintro z57 F57 A57 ⟨ez57, V57, hS57, v57, k57, g57⟩
  obtain rfl := ez57.symm
  replace hS57 : St 137 V57 F57 A57 := hS57
  have t57_wj6 : tr V57 15 = wj6 := (tr_keep (by decide) k57).trans t54_wj6
  have t57_wj14 : tr V57 33 = wj14 := (tr_keep (by decide) k57).trans t54_wj14
  have t57_wj17 : tr V57 48 = wj17 := (tr_keep (by decide) k57).trans t54_wj17
  have t57_wj29 : tr V57 66 = wj29 := (tr_keep (by decide) k57).trans t54_wj29
  have t57_wj37 : tr V57 84 = wj37 := (tr_keep (by decide) k57).trans t54_wj37
  have t57_wj40 : tr V57 95 = wj40 := (tr_keep (by decide) k57).trans t54_wj40
  have t57_wj49 : tr V57 113 = wj49 := (tr_keep (by decide) k57).trans t54_wj49
  have t57_wj54 : tr V57 124 = wj54 := (tr_keep (by decide) k57).trans uwj54
  rw [show (127 : Int) + 7 = 134 from rfl]
  obtain ⟨wj57, ewj57⟩ : ∃ w, w = tadd wj40 wj54 := ⟨_, rfl⟩
  have uwj57 : tr V57 134 = wj57 := by rw [ewj57]; exact v57
  have bwj57 : bdt 128 125 wj57 := by rw [ewj57]; exact (bdt_add bwj40 bwj54 (by decide) (by decide) (by decide))
  clear v57
  exact x_iret hC hr hlk ⟨_, rfl, rfl, V57, hS57, (uwj57).trans (by rw [ewj57, ewj54, ewj40, ewj17, ewj6, ewj14, ewj29, ewj37, ewj49]), fun u hu => (k57 u (by omega)).trans ((k54 u (by omega)).trans ((k49 u (by omega)).trans ((k40 u (by omega)).trans ((k37 u (by omega)).trans ((k29 u (by omega)).trans ((k17 u (by omega)).trans ((k14 u (by omega)).trans (k6 u hu)))))))), ((((((((g6.tr g14).tr g17).tr g29).tr g37).tr g40).tr g49).tr g54).tr g57)⟩ dX8_underneath_60
set_option maxHeartbeats 8000000 in
theorem t_under51 (l : Launch) {D : va_G} {ids : Nat → ClassId} {β : Nat} {sh : Nat → Nat × Nat} {N : Nat} {R : Nat → Nat → Option Nat} {F : Nat → Nat → Int} {A : Nat → Int → Int} {S : SP} (hM : MoL sh R N) (hR0 : RepM S F A) {V : Int → Int} {a b t : Int} (hS : St 51 V F A) (ha : isB S a) (hb : isB S b) (ht : isT t) : MetX l yX8_underneath cX8_underneath 5 (some (.int)) 5 117 D ids β sh N R F A [rf 0, pI a, pI b, pI t] (pIr (Tq 134 F A 51 V (tadd (tmul (vS S a t 1) (vS S a t 2)) (tmul (vS S a t 3) (tadd (vS S b t 0) (tneg (vS S a t 0))))))) := by
  refine MetX.of (loc := [_, _, _, _, _]) (plainFor_of_name (by decide +kernel)) (Nat.le_of_ble_eq_true rfl) rfl ?_
  intro p e s m args below meth c hC hK hr hlk
  obtain ⟨⟨m0, m1⟩, ⟨rx0, r2, r3, r7, r8, r9, r11, r12, r13, r16, r18⟩, ⟨m2, m3⟩, ⟨m4, m5⟩, ⟨m6, m7⟩, ⟨m8, m9⟩, ⟨m10, m11⟩, ⟨m12, m13⟩, ⟨m14, m15⟩, ⟨m16, m17⟩, ⟨m18, m19⟩, ⟨m20, m21⟩, ⟨m22, m23⟩⟩ := id hM
  obtain ⟨hi, b1, b2, b3, b4, b5, b6, b7, b8⟩ := id hR0
  have i1 := hi.1
  have n16 := hi.1.2
  have a16 := ha.2
  have b16 := hb.2
  have a00 := ha.1
  have b00 := hb.1
  refine x_aload_n (pc2 := 1) hC rfl rfl dX8_underneath_0 rfl ?_
  refine x_aload_n (pc2 := 2) hC rfl rfl dX8_underneath_1 rfl ?_
  refine x_iload_n (pc2 := 3) hC rfl rfl dX8_underneath_2 rfl ?_
  refine x_iload_n (pc2 := 4) hC rfl rfl dX8_underneath_3 rfl ?_
  refine x_iconst (pc2 := 5) hC dX8_underneath_4 rfl ?_
  refine x_iconst (pc2 := 6) hC dX8_underneath_5 rfl ?_
  refine x_cVi (pc2 := 9) (ci := 8) hC hK (t_entry l hM hS (by decide) ⟨by omega, by omega⟩ (x := vS S b t 0) (show held (A 2) (96 * b + 24 * t + 6 * (2 * 0 + 0)) (vS S b t 0) from b6 b t 0 hb ht ⟨by decide, by decide⟩) ((hi.2.1 b hb).2 t 0 ht ⟨by decide, by decide⟩).1.2.2) lk_985 rfl rfl (by decide) (by assumption) (by assumption) ⟨Nat.le_of_ble_eq_true rfl, Nat.le_of_ble_eq_true rfl⟩ ⟨Nat.le_refl _, Nat.le_refl _⟩ rfl (Nat.le_of_ble_eq_true rfl) dX8_underneath_6 rfl ?_
  rintro z6 F6 A6 ⟨ez6, V6, hS6, v6, k6, g6⟩
  obtain rfl := ez6.symm
  replace hS6 : St 69 V6 F6 A6 := hS6
  rw [show (51 : Int) + 15 = 66 from rfl]
  obtain ⟨wj6, ewj6⟩ : ∃ w, w = vS S b t 0 := ⟨_, rfl⟩
  have uwj6 : tr V6 66 = wj6 := by rw [ewj6]; exact v6
  have bwj6 : bdt 25 25 wj6 := by rw [ewj6]; exact (ok_bdt ((hi.2.1 b hb).2 t 0 ht ⟨by decide, by decide⟩).1)
  clear v6
  refine x_aload_n (pc2 := 10) hC rfl rfl dX8_underneath_9 rfl ?_
  refine x_iload_n (pc2 := 11) hC rfl rfl dX8_underneath_10 rfl ?_
  refine x_iload_n (pc2 := 12) hC rfl rfl dX8_underneath_11 rfl ?_
  refine x_iconst (pc2 := 13) hC dX8_underneath_12 rfl ?_
  refine x_iconst (pc2 := 14) hC dX8_underneath_13 rfl ?_
  refine x_cVi (pc2 := 17) (ci := 8) hC hK (t_entry l hM hS6 (by decide) ⟨by omega, by omega⟩ (x := vS S a t 0) (by rw [g6.a (by decide)]; exact (show held (A 2) (96 * a + 24 * t + 6 * (2 * 0 + 0)) (vS S a t 0) from b6 a t 0 ha ht ⟨by decide, by decide⟩)) ((hi.2.1 a ha).2 t 0 ht ⟨by decide, by decide⟩).1.2.2) lk_985 rfl rfl (by decide) (by assumption) (by assumption) ⟨Nat.le_of_ble_eq_true rfl, Nat.le_of_ble_eq_true rfl⟩ ⟨Nat.le_refl _, Nat.le_refl _⟩ rfl (Nat.le_of_ble_eq_true rfl) dX8_underneath_14 rfl ?_
  rintro z14 F14 A14 ⟨ez14, V14, hS14, v14, k14, g14⟩
  obtain rfl := ez14.symm
  replace hS14 : St 87 V14 F14 A14 := hS14
  have t14_wj6 : tr V14 66 = wj6 := (tr_keep (by decide) k14).trans uwj6
  rw [show (69 : Int) + 15 = 84 from rfl]
  obtain ⟨wj14, ewj14⟩ : ∃ w, w = vS S a t 0 := ⟨_, rfl⟩
  have uwj14 : tr V14 84 = wj14 := by rw [ewj14]; exact v14
  have bwj14 : bdt 25 25 wj14 := by rw [ewj14]; exact (ok_bdt ((hi.2.1 a ha).2 t 0 ht ⟨by decide, by decide⟩).1)
  clear v14
  refine x_cVi (pc2 := 20) (ci := 8) hC hK (t_sub l hM hS14 (x := 66) (y := 84) ⟨by decide, by decide⟩ ⟨by decide, by decide⟩ t14_wj6 uwj14 bwj6 bwj14 (by decide) ⟨by decide, by decide, by decide⟩) lk_1012 rfl rfl (by decide) (by assumption) (by assumption) ⟨Nat.le_of_ble_eq_true rfl, Nat.le_of_ble_eq_true rfl⟩ ⟨Nat.le_refl _, Nat.le_refl _⟩ rfl (Nat.le_of_ble_eq_true rfl) dX8_underneath_17 rfl ?_
  rintro z17 F17 A17 ⟨ez17, V17, hS17, v17, k17, g17⟩
  obtain rfl := ez17.symm
  replace hS17 : St 102 V17 F17 A17 := hS17
  have t17_wj6 : tr V17 66 = wj6 := (tr_keep (by decide) k17).trans t14_wj6
  have t17_wj14 : tr V17 84 = wj14 := (tr_keep (by decide) k17).trans uwj14
  rw [show (87 : Int) + 12 = 99 from rfl]
  obtain ⟨wj17, ewj17⟩ : ∃ w, w = tadd wj6 (tneg wj14) := ⟨_, rfl⟩
  have uwj17 : tr V17 99 = wj17 := by rw [ewj17]; exact v17
  have bwj17 : bdt 51 50 wj17 := by rw [ewj17]; exact (bdt_add bwj6 (bdt_neg bwj14) (by decide) (by decide) (by decide))
  clear v17
  refine x_istore (pc2 := 22) (loc2 := [_, _, _, _, _]) hC (by decide) rfl dX8_underneath_20 rfl ?_
  refine x_aload_n (pc2 := 23) hC rfl rfl dX8_underneath_22 rfl ?_
  refine x_aload_n (pc2 := 24) hC rfl rfl dX8_underneath_23 rfl ?_
  refine x_aload_n (pc2 := 25) hC rfl rfl dX8_underneath_24 rfl ?_
  refine x_iload_n (pc2 := 26) hC rfl rfl dX8_underneath_25 rfl ?_
  refine x_iload_n (pc2 := 27) hC rfl rfl dX8_underneath_26 rfl ?_
  refine x_iconst (pc2 := 28) hC dX8_underneath_27 rfl ?_
  refine x_iconst (pc2 := 29) hC dX8_underneath_28 rfl ?_
  refine x_cVi (pc2 := 32) (ci := 8) hC hK (t_entry l hM hS17 (by decide) ⟨by omega, by omega⟩ (x := vS S a t 1) (by rw [((g6.tr g14).tr g17).a (by decide)]; exact (show held (A 2) (96 * a + 24 * t + 6 * (2 * 0 + 1)) (vS S a t 1) from b6 a t 1 ha ht ⟨by decide, by decide⟩)) ((hi.2.1 a ha).2 t 1 ht ⟨by decide, by decide⟩).1.2.2) lk_985 rfl rfl (by decide) (by assumption) (by assumption) ⟨Nat.le_of_ble_eq_true rfl, Nat.le_of_ble_eq_true rfl⟩ ⟨Nat.le_refl _, Nat.le_refl _⟩ rfl (Nat.le_of_ble_eq_true rfl) dX8_underneath_29 rfl ?_
  rintro z29 F29 A29 ⟨ez29, V29, hS29, v29, k29, g29⟩
  obtain rfl := ez29.symm
  replace hS29 : St 120 V29 F29 A29 := hS29
  have t29_wj6 : tr V29 66 = wj6 := (tr_keep (by decide) k29).trans t17_wj6
  have t29_wj14 : tr V29 84 = wj14 := (tr_keep (by decide) k29).trans t17_wj14
  have t29_wj17 : tr V29 99 = wj17 := (tr_keep (by decide) k29).trans uwj17
  rw [show (102 : Int) + 15 = 117 from rfl]
  obtain ⟨wj29, ewj29⟩ : ∃ w, w = vS S a t 1 := ⟨_, rfl⟩
  have uwj29 : tr V29 117 = wj29 := by rw [ewj29]; exact v29
  have bwj29 : bdt 25 25 wj29 := by rw [ewj29]; exact (ok_bdt ((hi.2.1 a ha).2 t 1 ht ⟨by decide, by decide⟩).1)
  clear v29
  refine x_aload_n (pc2 := 33) hC rfl rfl dX8_underneath_32 rfl ?_
  refine x_iload_n (pc2 := 34) hC rfl rfl dX8_underneath_33 rfl ?_
  refine x_iload_n (pc2 := 35) hC rfl rfl dX8_underneath_34 rfl ?_
  refine x_iconst (pc2 := 36) hC dX8_underneath_35 rfl ?_
  refine x_iconst (pc2 := 37) hC dX8_underneath_36 rfl ?_
  refine x_cVi (pc2 := 40) (ci := 8) hC hK (t_entry l hM hS29 (by decide) ⟨by omega, by omega⟩ (x := vS S a t 2) (by rw [(((g6.tr g14).tr g17).tr g29).a (by decide)]; exact (show held (A 2) (96 * a + 24 * t + 6 * (2 * 1 + 0)) (vS S a t 2) from b6 a t 2 ha ht ⟨by decide, by decide⟩)) ((hi.2.1 a ha).2 t 2 ht ⟨by decide, by decide⟩).1.2.2) lk_985 rfl rfl (by decide) (by assumption) (by assumption) ⟨Nat.le_of_ble_eq_true rfl, Nat.le_of_ble_eq_true rfl⟩ ⟨Nat.le_refl _, Nat.le_refl _⟩ rfl (Nat.le_of_ble_eq_true rfl) dX8_underneath_37 rfl ?_
  rintro z37 F37 A37 ⟨ez37, V37, hS37, v37, k37, g37⟩
  obtain rfl := ez37.symm
  replace hS37 : St 138 V37 F37 A37 := hS37
  have t37_wj6 : tr V37 66 = wj6 := (tr_keep (by decide) k37).trans t29_wj6
  have t37_wj14 : tr V37 84 = wj14 := (tr_keep (by decide) k37).trans t29_wj14
  have t37_wj17 : tr V37 99 = wj17 := (tr_keep (by decide) k37).trans t29_wj17
  have t37_wj29 : tr V37 117 = wj29 := (tr_keep (by decide) k37).trans uwj29
  rw [show (120 : Int) + 15 = 135 from rfl]
  obtain ⟨wj37, ewj37⟩ : ∃ w, w = vS S a t 2 := ⟨_, rfl⟩
  have uwj37 : tr V37 135 = wj37 := by rw [ewj37]; exact v37
  have bwj37 : bdt 25 25 wj37 := by rw [ewj37]; exact (ok_bdt ((hi.2.1 a ha).2 t 2 ht ⟨by decide, by decide⟩).1)
  clear v37
  refine x_cVi (pc2 := 43) (ci := 8) hC hK (t_product l hM hS37 (x := 117) (y := 135) ⟨by decide, by decide⟩ ⟨by decide, by decide⟩ t37_wj29 uwj37 bwj29 bwj37 (by decide) ⟨by decide, by decide⟩) lk_1004 rfl rfl (by decide) (by assumption) (by assumption) ⟨Nat.le_of_ble_eq_true rfl, Nat.le_of_ble_eq_true rfl⟩ ⟨Nat.le_refl _, Nat.le_refl _⟩ rfl (Nat.le_of_ble_eq_true rfl) dX8_underneath_40 rfl ?_
  rintro z40 F40 A40 ⟨ez40, V40, hS40, v40, k40, g40⟩
  obtain rfl := ez40.symm
  replace hS40 : St 149 V40 F40 A40 := hS40
  have t40_wj6 : tr V40 66 = wj6 := (tr_keep (by decide) k40).trans t37_wj6
  have t40_wj14 : tr V40 84 = wj14 := (tr_keep (by decide) k40).trans t37_wj14
  have t40_wj17 : tr V40 99 = wj17 := (tr_keep (by decide) k40).trans t37_wj17
  have t40_wj29 : tr V40 117 = wj29 := (tr_keep (by decide) k40).trans t37_wj29
  have t40_wj37 : tr V40 135 = wj37 := (tr_keep (by decide) k40).trans uwj37
  rw [show (138 : Int) + 8 = 146 from rfl]
  obtain ⟨wj40, ewj40⟩ : ∃ w, w = tmul wj29 wj37 := ⟨_, rfl⟩
  have uwj40 : tr V40 146 = wj40 := by rw [ewj40]; exact v40
  have bwj40 : bdt 51 50 wj40 := by rw [ewj40]; exact (bdt_mul bwj29 bwj37 (by decide) (by decide))
  clear v40
  refine x_aload_n (pc2 := 44) hC rfl rfl dX8_underneath_43 rfl ?_
  refine x_aload_n (pc2 := 45) hC rfl rfl dX8_underneath_44 rfl ?_
  refine x_iload_n (pc2 := 46) hC rfl rfl dX8_underneath_45 rfl ?_
  refine x_iload_n (pc2 := 47) hC rfl rfl dX8_underneath_46 rfl ?_
  refine x_iconst (pc2 := 48) hC dX8_underneath_47 rfl ?_
  refine x_iconst (pc2 := 49) hC dX8_underneath_48 rfl ?_
  refine x_cVi (pc2 := 52) (ci := 8) hC hK (t_entry l hM hS40 (by decide) ⟨by omega, by omega⟩ (x := vS S a t 3) (by rw [(((((g6.tr g14).tr g17).tr g29).tr g37).tr g40).a (by decide)]; exact (show held (A 2) (96 * a + 24 * t + 6 * (2 * 1 + 1)) (vS S a t 3) from b6 a t 3 ha ht ⟨by decide, by decide⟩)) ((hi.2.1 a ha).2 t 3 ht ⟨by decide, by decide⟩).1.2.2) lk_985 rfl rfl (by decide) (by assumption) (by assumption) ⟨Nat.le_of_ble_eq_true rfl, Nat.le_of_ble_eq_true rfl⟩ ⟨Nat.le_refl _, Nat.le_refl _⟩ rfl (Nat.le_of_ble_eq_true rfl) dX8_underneath_49 rfl ?_
  rintro z49 F49 A49 ⟨ez49, V49, hS49, v49, k49, g49⟩
  obtain rfl := ez49.symm
  replace hS49 : St 167 V49 F49 A49 := hS49
  have t49_wj6 : tr V49 66 = wj6 := (tr_keep (by decide) k49).trans t40_wj6
  have t49_wj14 : tr V49 84 = wj14 := (tr_keep (by decide) k49).trans t40_wj14
  have t49_wj17 : tr V49 99 = wj17 := (tr_keep (by decide) k49).trans t40_wj17
  have t49_wj29 : tr V49 117 = wj29 := (tr_keep (by decide) k49).trans t40_wj29
  have t49_wj37 : tr V49 135 = wj37 := (tr_keep (by decide) k49).trans t40_wj37
  have t49_wj40 : tr V49 146 = wj40 := (tr_keep (by decide) k49).trans uwj40
  rw [show (149 : Int) + 15 = 164 from rfl]
  obtain ⟨wj49, ewj49⟩ : ∃ w, w = vS S a t 3 := ⟨_, rfl⟩
  have uwj49 : tr V49 164 = wj49 := by rw [ewj49]; exact v49
  have bwj49 : bdt 25 25 wj49 := by rw [ewj49]; exact (ok_bdt ((hi.2.1 a ha).2 t 3 ht ⟨by decide, by decide⟩).1)
  clear v49
  refine x_iload (pc2 := 54) hC rfl dX8_underneath_52 rfl ?_
  refine x_cVi (pc2 := 57) (ci := 8) hC hK (t_product l hM hS49 (x := 164) (y := 99) ⟨by decide, by decide⟩ ⟨by decide, by decide⟩ uwj49 t49_wj17 bwj49 bwj17 (by decide) ⟨by decide, by decide⟩) lk_1004 rfl rfl (by decide) (by assumption) (by assumption) ⟨Nat.le_of_ble_eq_true rfl, Nat.le_of_ble_eq_true rfl⟩ ⟨Nat.le_refl _, Nat.le_refl _⟩ rfl (Nat.le_of_ble_eq_true rfl) dX8_underneath_54 rfl ?_
  rintro z54 F54 A54 ⟨ez54, V54, hS54, v54, k54, g54⟩
  obtain rfl := ez54.symm
  replace hS54 : St 178 V54 F54 A54 := hS54
  have t54_wj6 : tr V54 66 = wj6 := (tr_keep (by decide) k54).trans t49_wj6
  have t54_wj14 : tr V54 84 = wj14 := (tr_keep (by decide) k54).trans t49_wj14
  have t54_wj17 : tr V54 99 = wj17 := (tr_keep (by decide) k54).trans t49_wj17
  have t54_wj29 : tr V54 117 = wj29 := (tr_keep (by decide) k54).trans t49_wj29
  have t54_wj37 : tr V54 135 = wj37 := (tr_keep (by decide) k54).trans t49_wj37
  have t54_wj40 : tr V54 146 = wj40 := (tr_keep (by decide) k54).trans t49_wj40
  have t54_wj49 : tr V54 164 = wj49 := (tr_keep (by decide) k54).trans uwj49
  rw [show (167 : Int) + 8 = 175 from rfl]
  obtain ⟨wj54, ewj54⟩ : ∃ w, w = tmul wj49 wj17 := ⟨_, rfl⟩
  have uwj54 : tr V54 175 = wj54 := by rw [ewj54]; exact v54
  have bwj54 : bdt 77 75 wj54 := by rw [ewj54]; exact (bdt_mul bwj49 bwj17 (by decide) (by decide))
  clear v54
  refine x_cVi (pc2 := 60) (ci := 8) hC hK (t_added l hM hS54 (x := 146) (y := 175) ⟨by decide, by decide⟩ ⟨by decide, by decide⟩ t54_wj40 uwj54 bwj40 bwj54 (by decide) ⟨by decide, by decide, by decide⟩) lk_1020 rfl rfl (by decide) (by assumption) (by assumption) ⟨Nat.le_of_ble_eq_true rfl, Nat.le_of_ble_eq_true rfl⟩ ⟨Nat.le_refl _, Nat.le_refl _⟩ rfl (Nat.le_of_ble_eq_true rfl) dX8_underneath_57 rfl ?_
  rintro z57 F57 A57 ⟨ez57, V57, hS57, v57, k57, g57⟩
  obtain rfl := ez57.symm
  replace hS57 : St 188 V57 F57 A57 := hS57
  have t57_wj6 : tr V57 66 = wj6 := (tr_keep (by decide) k57).trans t54_wj6
  have t57_wj14 : tr V57 84 = wj14 := (tr_keep (by decide) k57).trans t54_wj14
  have t57_wj17 : tr V57 99 = wj17 := (tr_keep (by decide) k57).trans t54_wj17
  have t57_wj29 : tr V57 117 = wj29 := (tr_keep (by decide) k57).trans t54_wj29
  have t57_wj37 : tr V57 135 = wj37 := (tr_keep (by decide) k57).trans t54_wj37
  have t57_wj40 : tr V57 146 = wj40 := (tr_keep (by decide) k57).trans t54_wj40
  have t57_wj49 : tr V57 164 = wj49 := (tr_keep (by decide) k57).trans t54_wj49
  have t57_wj54 : tr V57 175 = wj54 := (tr_keep (by decide) k57).trans uwj54
  rw [show (178 : Int) + 7 = 185 from rfl]
  obtain ⟨wj57, ewj57⟩ : ∃ w, w = tadd wj40 wj54 := ⟨_, rfl⟩
  have uwj57 : tr V57 185 = wj57 := by rw [ewj57]; exact v57
  have bwj57 : bdt 128 125 wj57 := by rw [ewj57]; exact (bdt_add bwj40 bwj54 (by decide) (by decide) (by decide))
  clear v57
  exact x_iret hC hr hlk ⟨_, rfl, rfl, V57, hS57, (uwj57).trans (by rw [ewj57, ewj54, ewj40, ewj17, ewj6, ewj14, ewj29, ewj37, ewj49]), fun u hu => (k57 u (by omega)).trans ((k54 u (by omega)).trans ((k49 u (by omega)).trans ((k40 u (by omega)).trans ((k37 u (by omega)).trans ((k29 u (by omega)).trans ((k17 u (by omega)).trans ((k14 u (by omega)).trans (k6 u hu)))))))), ((((((((g6.tr g14).tr g17).tr g29).tr g37).tr g40).tr g49).tr g54).tr g57)⟩ dX8_underneath_60
