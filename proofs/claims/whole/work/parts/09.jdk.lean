section XM
variable {p : Program} {l : Launch} {e : Env} {Rm : Room} {s : State} {m : MethodId} {args : Array Value} {below : List Frame} {meth : Method} {c : Code} {Q : State → Prop} {G : Nat → Prop} {D : va_G} {ids : Nat → ClassId} {β : Nat} {sh : Nat → Nat × Nat} {nL nc ns N : Nat} {R : Nat → Nat → Option Nat} {F : Nat → Nat → Int} {A : Nat → Int → Int} {loc loc2 : List (Option PV)} {stk : List PV} {pc pc2 tgt : Nat} {cc : ByteArray} {own : String}
/-- n places of the row a0 from sp on into the row a from dp on -/
def cpA (A : Nat → Int → Int) (a0 : Nat) (sp : Int) (a : Nat) (dp n : Int) : Nat → Int → Int := fun k j => if k = a then (if dp ≤ j ∧ j < dp + n then A a0 (sp + (j - dp)) else A k j) else A k j
theorem cpA_ne {A : Nat → Int → Int} {a0 a : Nat} {sp dp n : Int} {k : Nat} (h : k ≠ a) : cpA A a0 sp a dp n k = A k := by funext j; simp [cpA, h]
theorem cpA_in {A : Nat → Int → Int} {a0 a : Nat} {sp dp n j : Int} (h : dp ≤ j ∧ j < dp + n) : cpA A a0 sp a dp n a j = A a0 (sp + (j - dp)) := by simp only [cpA, if_true, if_pos h]
theorem cpA_out {A : Nat → Int → Int} {a0 a : Nat} {sp dp n j : Int} (h : j < dp ∨ dp + n ≤ j) : cpA A a0 sp a dp n a j = A a j := by simp only [cpA, if_true]; rw [if_neg (by omega)]
theorem x_copy (hC : CallFix p m c cc nL s args TT own) {a0 a n0 n1 idx : Nat} {sp dp n : Int} (hK : KN D ids s) (hw : Cond.methodLink own idx arraycopyName ∈ TT) (ha0 : a0 < N) (ha : a < N) (hs0 : sh a0 = (1, n0)) (hs1 : sh a = (1, n1)) (hb : 0 ≤ sp ∧ 0 ≤ dp ∧ 0 ≤ n ∧ sp + n ≤ n0 ∧ dp + n ≤ n1) (hm : n0 ≤ 2147483647 ∧ n1 ≤ 2147483647) (hr : 1 ≤ Rm.frames ∧ (stk.map fun v => (tv β v).category).sum + (nativeFrameWords "java/lang/System" "arraycopy" 5 + 11) ≤ Rm.locals) (hd : decode cc pc = .ok (.invokestatic idx, 3)) (h2 : pc + 3 = pc2) (k : X p l e Rm s m args below meth c Q G D ids β sh nL nc ns N R F (cpA A a0 sp a dp n) loc (stk) pc2) : X p l e Rm s m args below meth c Q G D ids β sh nL nc ns N R F A loc (pI n :: pI dp :: rf a :: pI sp :: rf a0 :: stk) pc := by
  subst h2; intro H locs ls a1 a2 a3 a4
  obtain ⟨c1, c2, c3, c4, c5⟩ := hb
  have e1 := i32_clamp c1 (by omega)
  have e2 := i32_clamp c2 (by omega)
  have e3 := i32_clamp c3 (by omega)
  have nn : ∀ z : Int, 0 ≤ z → z ≤ 2147483647 → ¬ Int32.ofInt z < 0 := fun z h0 h1 q => by
    have q : Int32.ofInt z < Int32.ofInt 0 := q
    rw [i32_lt ⟨by omega, h1⟩ ⟨by omega, by omega⟩] at q
    omega
  refine va_copyi hC.1 hC.2.1 (hC.2.2.1.trans a4.1.symm) hC.2.2.2.1 (hC.2.2.2.2 _ hw) (hC.2.2.2.2 _ wt_422) (hC.2.2.2.2 _ wt_421) (hC.2.2.2.2 _ wt_77) hK.1 a1 (mkW_D a3) a2 a0 a 0 0 (n0 := n0) (n1 := n1) (by rw [mkW_get ha0, celE_int hs0]) (by rw [mkW_get ha, celE_int hs1]) rfl rfl rfl (nn _ c1 (by omega)) (nn _ c2 (by omega)) (nn _ c3 (by omega)) (by rw [e1, e3]; omega) (by rw [e2, e3]; omega) (fun _ _ => rfl) hr.1 (by rw [List.map_map]; exact hr.2) hd (fun H1 locs1 b1 b2 b3 => ?_)
  rw [e1, e2, e3] at b1
  have e : celE β ids sh R F (cpA A a0 sp a dp n) a = _ := celE_int hs1
  have e' : (fun j : Nat => Int32.ofInt (cpA A a0 sp a dp n a j)) = va_cpy (fun j : Nat => Int32.ofInt (A a0 j)) (fun j : Nat => Int32.ofInt (A a j)) sp.toNat dp.toNat n.toNat := by
    funext j
    simp only [cpA, if_true, va_cpy]
    by_cases hj : dp.toNat ≤ j ∧ j < dp.toNat + n.toNat
    · rw [if_pos hj, if_pos (by omega)]
      congr 2
      omega
    · rw [if_neg hj, if_neg (by omega)]
  rw [e'] at e
  rw [← e, mkW_set (fun j h => celE_A (cpA_ne h))] at b1
  exact k H1 locs1 ls b1 b3 a3 a4
theorem x_lxor (hC : CallFix p m c cc nL s args TT own) {x y : Int} (hd : decode cc pc = .ok (.lxor, 1)) (h2 : pc + 1 = pc2) (k : X p l e Rm s m args below meth c Q G D ids β sh nL nc ns N R F A loc (pL (Int64.ofInt x ^^^ Int64.ofInt y).toInt :: stk) pc2) : X p l e Rm s m args below meth c Q G D ids β sh nL nc ns N R F A loc (pL y :: pL x :: stk) pc := by
  subst h2; intro H locs ls a1 a2 a3 a4
  have k2 := k H locs ls a1 a2 a3 a4
  rw [show (pL (Int64.ofInt x ^^^ Int64.ofInt y).toInt :: stk).map (tv β) = .long (Int64.ofInt (Int64.ofInt x ^^^ Int64.ofInt y).toInt) :: stk.map (tv β) from rfl, Int64.ofInt_toInt] at k2
  exact lv_lxor hC.1 hC.2.1 hd k2
theorem lxor_sign {x y : Int} (hx : I64 x) (hy : I64 y) (h : 0 ≤ y) : 0 ≤ (Int64.ofInt x ^^^ Int64.ofInt y).toInt ↔ 0 ≤ x := by
  have e1 := i64_toInt hx
  have e2 := i64_toInt hy
  have n1 : (Int64.ofInt x).toBitVec.msb = decide (x < 0) := by rw [BitVec.msb_eq_toInt]; exact congrArg (fun z : Int => decide (z < 0)) e1
  have n2 : (Int64.ofInt y).toBitVec.msb = decide (y < 0) := by rw [BitVec.msb_eq_toInt]; exact congrArg (fun z : Int => decide (z < 0)) e2
  have n3 : (Int64.ofInt x ^^^ Int64.ofInt y).toBitVec.msb = decide ((Int64.ofInt x ^^^ Int64.ofInt y).toInt < 0) := by rw [BitVec.msb_eq_toInt]; rfl
  rw [Int64.toBitVec_xor, BitVec.msb_xor, n1, n2] at n3
  by_cases q : x < 0
  · simp [q, show ¬ y < 0 by omega] at n3; omega
  · simp [q, show ¬ y < 0 by omega] at n3; omega
theorem dv_uni {x y a : Int} (hy : 0 < y) (h1 : y * a ≤ x) (h2 : x < y * a + y) : x / y = a := by
  have e1 : a ≤ x / y := Int.le_ediv_of_mul_le hy (by rw [Int.mul_comm]; exact h1)
  have e2 : x / y < a + 1 := Int.ediv_lt_of_lt_mul hy (by rw [Int.add_mul, Int.mul_comm a y]; omega)
  omega
theorem fd_pos {x y : Int} (hx : I64 x) (hy : 1 < y ∧ y ≤ 9223372036854775807) (h : 0 ≤ (Int64.ofInt x ^^^ Int64.ofInt y).toInt) : x.tdiv y = x / y := by
  have h0 : 0 ≤ x := (lxor_sign hx ⟨by omega, by omega⟩ (by omega)).mp h
  exact Int.tdiv_eq_ediv_of_nonneg h0
theorem fd_eq {x y : Int} (hy : 1 < y ∧ y ≤ 9223372036854775807) (h : x.tdiv y * y = x) : x.tdiv y = x / y := by
  have hd : y ∣ x := ⟨x.tdiv y, by rw [Int.mul_comm]; exact h.symm⟩
  rw [Int.tdiv_eq_ediv, if_pos (Or.inr hd), Int.add_zero]
theorem fd_neg {x y : Int} (hx : I64 x) (hy : 1 < y ∧ y ≤ 9223372036854775807) (h : (Int64.ofInt x ^^^ Int64.ofInt y).toInt < 0) (h2 : x.tdiv y * y ≠ x) : x.tdiv y - 1 = x / y := by
  have h0 : x < 0 := by
    rcases Int.lt_or_le x 0 with q | q
    · exact q
    · have := (lxor_sign hx (y := y) ⟨by omega, by omega⟩ (by omega)).mpr q
      omega
  have hnd : ¬ y ∣ x := fun q => h2 (Int.tdiv_mul_cancel q)
  rw [Int.tdiv_eq_ediv, if_neg (by rintro (q | q); omega; exact hnd q), Int.sign_eq_one_of_pos (by omega)]
  omega
theorem fd_rng {x y : Int} (hx : I64 x) (hy : 1 < y ∧ y ≤ 9223372036854775807) : I64 (x.tdiv y * y) := by
  have e : x.tdiv y * y + x.tmod y = x := Int.tdiv_mul_add_tmod x y
  have h1 := Int.lt_tmod_of_pos x (show 0 < y by omega)
  have h2 := Int.tmod_lt_of_pos x (show 0 < y by omega)
  rcases Int.lt_or_le x 0 with q | q
  · have h3 : x.tmod y ≤ 0 := by
      have := Int.tmod_nonneg y (show 0 ≤ -x by omega)
      rw [Int.neg_tmod] at this
      omega
    have h4 : x.tdiv y * y ≤ 0 := by
      have : x.tdiv y ≤ 0 := by
        have := Int.tdiv_nonneg (a := -x) (b := y) (by omega) (by omega)
        rw [Int.neg_tdiv] at this
        omega
      exact Int.mul_nonpos_of_nonpos_of_nonneg this (by omega)
    exact ⟨by omega, by omega⟩
  · have h3 := Int.tmod_nonneg y q
    have h4 : 0 ≤ x.tdiv y * y := Int.mul_nonneg (Int.tdiv_nonneg q (by omega)) (by omega)
    exact ⟨by omega, by omega⟩
theorem i64_mem (z : Int64) : I64 z.toInt := ⟨Int64.le_toInt z, Int64.toInt_le z⟩
end XM
theorem dJ9_abs_0f7a4_0 : decode cJ9_abs_0f7a4 0 = .ok (.iload_n 0, 1) := by decide +kernel
theorem dJ9_abs_0f7a4_1 : decode cJ9_abs_0f7a4 1 = .ok (.ifCond .ge 8, 3) := by decide +kernel
theorem dJ9_abs_0f7a4_4 : decode cJ9_abs_0f7a4 4 = .ok (.iload_n 0, 1) := by decide +kernel
theorem dJ9_abs_0f7a4_5 : decode cJ9_abs_0f7a4 5 = .ok (.ineg, 1) := by decide +kernel
theorem dJ9_abs_0f7a4_6 : decode cJ9_abs_0f7a4 6 = .ok (.goto 4, 3) := by decide +kernel
theorem dJ9_abs_0f7a4_9 : decode cJ9_abs_0f7a4 9 = .ok (.iload_n 0, 1) := by decide +kernel
theorem dJ9_abs_0f7a4_10 : decode cJ9_abs_0f7a4 10 = .ok (.ireturn, 1) := by decide +kernel
set_option maxHeartbeats 4000000 in
theorem m_abs (l : Launch) {D : va_G} {ids : Nat → ClassId} {β : Nat} {sh : Nat → Nat × Nat} {N : Nat} {R : Nat → Nat → Option Nat} {F : Nat → Nat → Int} {A : Nat → Int → Int} {x : Int} (hx : I32 x) : MetX l yJ9_abs_0f7a4 cJ9_abs_0f7a4 1 (some (.int)) 0 0 D ids β sh N R F A [pI x] (pIr fun z F' A' => z = (x.natAbs : Int) ∧ F' = F ∧ A' = A) := by
  refine MetX.of (loc := [_]) (by decide +kernel) (Nat.le_of_ble_eq_true rfl) rfl ?_
  intro p e s m args below meth c hC hK hr hlk
  refine x_iload_n (pc2 := 1) hC rfl rfl dJ9_abs_0f7a4_0 rfl ?_
  refine x_if_ge (tgt := 9) (pc2 := 4) hC (by omega) dJ9_abs_0f7a4_1 rfl rfl (fun h_1 => ?_) (fun h_1 => ?_)
  · refine x_iload_n (pc2 := 10) hC rfl rfl dJ9_abs_0f7a4_9 rfl ?_
    exact x_iret hC hr hlk ⟨_, rfl, by omega, rfl, rfl⟩ dJ9_abs_0f7a4_10
  · refine x_iload_n (pc2 := 5) hC rfl rfl dJ9_abs_0f7a4_4 rfl ?_
    refine x_ineg (pc2 := 6) hC dJ9_abs_0f7a4_5 rfl ?_
    refine x_goto (pc2 := 10) hC dJ9_abs_0f7a4_6 rfl ?_
    exact x_iret hC hr hlk ⟨_, rfl, by omega, rfl, rfl⟩ dJ9_abs_0f7a4_10
theorem dJ9_max_7cf53_0 : decode cJ9_max_7cf53 0 = .ok (.iload_n 0, 1) := by decide +kernel
theorem dJ9_max_7cf53_1 : decode cJ9_max_7cf53 1 = .ok (.iload_n 1, 1) := by decide +kernel
theorem dJ9_max_7cf53_2 : decode cJ9_max_7cf53 2 = .ok (.if_icmp .lt 7, 3) := by decide +kernel
theorem dJ9_max_7cf53_5 : decode cJ9_max_7cf53 5 = .ok (.iload_n 0, 1) := by decide +kernel
theorem dJ9_max_7cf53_6 : decode cJ9_max_7cf53 6 = .ok (.goto 4, 3) := by decide +kernel
theorem dJ9_max_7cf53_9 : decode cJ9_max_7cf53 9 = .ok (.iload_n 1, 1) := by decide +kernel
theorem dJ9_max_7cf53_10 : decode cJ9_max_7cf53 10 = .ok (.ireturn, 1) := by decide +kernel
set_option maxHeartbeats 4000000 in
theorem m_max (l : Launch) {D : va_G} {ids : Nat → ClassId} {β : Nat} {sh : Nat → Nat × Nat} {N : Nat} {R : Nat → Nat → Option Nat} {F : Nat → Nat → Int} {A : Nat → Int → Int} {x y : Int} (hx : I32 x) (hy : I32 y) : MetX l yJ9_max_7cf53 cJ9_max_7cf53 2 (some (.int)) 0 0 D ids β sh N R F A [pI x, pI y] (pIr fun z F' A' => z = max x y ∧ F' = F ∧ A' = A) := by
  refine MetX.of (loc := [_, _]) (by decide +kernel) (Nat.le_of_ble_eq_true rfl) rfl ?_
  intro p e s m args below meth c hC hK hr hlk
  refine x_iload_n (pc2 := 1) hC rfl rfl dJ9_max_7cf53_0 rfl ?_
  refine x_iload_n (pc2 := 2) hC rfl rfl dJ9_max_7cf53_1 rfl ?_
  refine x_icmp_lt (tgt := 9) (pc2 := 5) hC (by omega) (by omega) dJ9_max_7cf53_2 rfl rfl (fun h_2 => ?_) (fun h_2 => ?_)
  · refine x_iload_n (pc2 := 10) hC rfl rfl dJ9_max_7cf53_9 rfl ?_
    exact x_iret hC hr hlk ⟨_, rfl, by omega, rfl, rfl⟩ dJ9_max_7cf53_10
  · refine x_iload_n (pc2 := 6) hC rfl rfl dJ9_max_7cf53_5 rfl ?_
    refine x_goto (pc2 := 10) hC dJ9_max_7cf53_6 rfl ?_
    exact x_iret hC hr hlk ⟨_, rfl, by omega, rfl, rfl⟩ dJ9_max_7cf53_10
theorem dJ9_min_7cf53_0 : decode cJ9_min_7cf53 0 = .ok (.iload_n 0, 1) := by decide +kernel
theorem dJ9_min_7cf53_1 : decode cJ9_min_7cf53 1 = .ok (.iload_n 1, 1) := by decide +kernel
theorem dJ9_min_7cf53_2 : decode cJ9_min_7cf53 2 = .ok (.if_icmp .gt 7, 3) := by decide +kernel
theorem dJ9_min_7cf53_5 : decode cJ9_min_7cf53 5 = .ok (.iload_n 0, 1) := by decide +kernel
theorem dJ9_min_7cf53_6 : decode cJ9_min_7cf53 6 = .ok (.goto 4, 3) := by decide +kernel
theorem dJ9_min_7cf53_9 : decode cJ9_min_7cf53 9 = .ok (.iload_n 1, 1) := by decide +kernel
theorem dJ9_min_7cf53_10 : decode cJ9_min_7cf53 10 = .ok (.ireturn, 1) := by decide +kernel
set_option maxHeartbeats 4000000 in
theorem m_min (l : Launch) {D : va_G} {ids : Nat → ClassId} {β : Nat} {sh : Nat → Nat × Nat} {N : Nat} {R : Nat → Nat → Option Nat} {F : Nat → Nat → Int} {A : Nat → Int → Int} {x y : Int} (hx : I32 x) (hy : I32 y) : MetX l yJ9_min_7cf53 cJ9_min_7cf53 2 (some (.int)) 0 0 D ids β sh N R F A [pI x, pI y] (pIr fun z F' A' => z = min x y ∧ F' = F ∧ A' = A) := by
  refine MetX.of (loc := [_, _]) (by decide +kernel) (Nat.le_of_ble_eq_true rfl) rfl ?_
  intro p e s m args below meth c hC hK hr hlk
  refine x_iload_n (pc2 := 1) hC rfl rfl dJ9_min_7cf53_0 rfl ?_
  refine x_iload_n (pc2 := 2) hC rfl rfl dJ9_min_7cf53_1 rfl ?_
  refine x_icmp_gt (tgt := 9) (pc2 := 5) hC (by omega) (by omega) dJ9_min_7cf53_2 rfl rfl (fun h_2 => ?_) (fun h_2 => ?_)
  · refine x_iload_n (pc2 := 10) hC rfl rfl dJ9_min_7cf53_9 rfl ?_
    exact x_iret hC hr hlk ⟨_, rfl, by omega, rfl, rfl⟩ dJ9_min_7cf53_10
  · refine x_iload_n (pc2 := 6) hC rfl rfl dJ9_min_7cf53_5 rfl ?_
    refine x_goto (pc2 := 10) hC dJ9_min_7cf53_6 rfl ?_
    exact x_iret hC hr hlk ⟨_, rfl, by omega, rfl, rfl⟩ dJ9_min_7cf53_10
theorem dJ9_abs_067f4_0 : decode cJ9_abs_067f4 0 = .ok (.lload_n 0, 1) := by decide +kernel
theorem dJ9_abs_067f4_1 : decode cJ9_abs_067f4 1 = .ok (.lconst 0, 1) := by decide +kernel
theorem dJ9_abs_067f4_2 : decode cJ9_abs_067f4 2 = .ok (.lcmp, 1) := by decide +kernel
theorem dJ9_abs_067f4_3 : decode cJ9_abs_067f4 3 = .ok (.ifCond .ge 8, 3) := by decide +kernel
theorem dJ9_abs_067f4_6 : decode cJ9_abs_067f4 6 = .ok (.lload_n 0, 1) := by decide +kernel
theorem dJ9_abs_067f4_7 : decode cJ9_abs_067f4 7 = .ok (.lneg, 1) := by decide +kernel
theorem dJ9_abs_067f4_8 : decode cJ9_abs_067f4 8 = .ok (.goto 4, 3) := by decide +kernel
theorem dJ9_abs_067f4_11 : decode cJ9_abs_067f4 11 = .ok (.lload_n 0, 1) := by decide +kernel
theorem dJ9_abs_067f4_12 : decode cJ9_abs_067f4 12 = .ok (.lreturn, 1) := by decide +kernel
set_option maxHeartbeats 4000000 in
theorem m_labs (l : Launch) {D : va_G} {ids : Nat → ClassId} {β : Nat} {sh : Nat → Nat × Nat} {N : Nat} {R : Nat → Nat → Option Nat} {F : Nat → Nat → Int} {A : Nat → Int → Int} {x : Int} (hx : I64 x) : MetX l yJ9_abs_067f4 cJ9_abs_067f4 2 (some (.long)) 0 0 D ids β sh N R F A [pL x] (pLr fun z F' A' => z = (x.natAbs : Int) ∧ F' = F ∧ A' = A) := by
  refine MetX.of (loc := [_, _]) (by decide +kernel) (Nat.le_of_ble_eq_true rfl) rfl ?_
  intro p e s m args below meth c hC hK hr hlk
  refine x_lload_n (pc2 := 1) hC rfl rfl dJ9_abs_067f4_0 rfl ?_
  refine x_lconst0 (pc2 := 2) hC dJ9_abs_067f4_1 rfl ?_
  refine x_lcmp_ge (tgt := 11) (pc2 := 6) hC (by omega) (by omega) dJ9_abs_067f4_2 dJ9_abs_067f4_3 rfl rfl (fun h_2 => ?_) (fun h_2 => ?_)
  · refine x_lload_n (pc2 := 12) hC rfl rfl dJ9_abs_067f4_11 rfl ?_
    exact x_lret hC hr hlk ⟨_, rfl, by omega, rfl, rfl⟩ dJ9_abs_067f4_12
  · refine x_lload_n (pc2 := 7) hC rfl rfl dJ9_abs_067f4_6 rfl ?_
    refine x_lneg (pc2 := 8) hC dJ9_abs_067f4_7 rfl ?_
    refine x_goto (pc2 := 12) hC dJ9_abs_067f4_8 rfl ?_
    exact x_lret hC hr hlk ⟨_, rfl, by omega, rfl, rfl⟩ dJ9_abs_067f4_12
theorem dJ9_floorDiv_f86c9_0 : decode cJ9_floorDiv_f86c9 0 = .ok (.lload_n 0, 1) := by decide +kernel
theorem dJ9_floorDiv_f86c9_1 : decode cJ9_floorDiv_f86c9 1 = .ok (.lload_n 2, 1) := by decide +kernel
theorem dJ9_floorDiv_f86c9_2 : decode cJ9_floorDiv_f86c9 2 = .ok (.ldiv, 1) := by decide +kernel
theorem dJ9_floorDiv_f86c9_3 : decode cJ9_floorDiv_f86c9 3 = .ok (.lstore 4, 2) := by decide +kernel
theorem dJ9_floorDiv_f86c9_5 : decode cJ9_floorDiv_f86c9 5 = .ok (.lload_n 0, 1) := by decide +kernel
theorem dJ9_floorDiv_f86c9_6 : decode cJ9_floorDiv_f86c9 6 = .ok (.lload_n 2, 1) := by decide +kernel
theorem dJ9_floorDiv_f86c9_7 : decode cJ9_floorDiv_f86c9 7 = .ok (.lxor, 1) := by decide +kernel
theorem dJ9_floorDiv_f86c9_8 : decode cJ9_floorDiv_f86c9 8 = .ok (.lconst 0, 1) := by decide +kernel
theorem dJ9_floorDiv_f86c9_9 : decode cJ9_floorDiv_f86c9 9 = .ok (.lcmp, 1) := by decide +kernel
theorem dJ9_floorDiv_f86c9_10 : decode cJ9_floorDiv_f86c9 10 = .ok (.ifCond .ge 17, 3) := by decide +kernel
theorem dJ9_floorDiv_f86c9_13 : decode cJ9_floorDiv_f86c9 13 = .ok (.lload 4, 2) := by decide +kernel
theorem dJ9_floorDiv_f86c9_15 : decode cJ9_floorDiv_f86c9 15 = .ok (.lload_n 2, 1) := by decide +kernel
theorem dJ9_floorDiv_f86c9_16 : decode cJ9_floorDiv_f86c9 16 = .ok (.lmul, 1) := by decide +kernel
theorem dJ9_floorDiv_f86c9_17 : decode cJ9_floorDiv_f86c9 17 = .ok (.lload_n 0, 1) := by decide +kernel
theorem dJ9_floorDiv_f86c9_18 : decode cJ9_floorDiv_f86c9 18 = .ok (.lcmp, 1) := by decide +kernel
theorem dJ9_floorDiv_f86c9_19 : decode cJ9_floorDiv_f86c9 19 = .ok (.ifCond .eq 8, 3) := by decide +kernel
theorem dJ9_floorDiv_f86c9_22 : decode cJ9_floorDiv_f86c9 22 = .ok (.lload 4, 2) := by decide +kernel
theorem dJ9_floorDiv_f86c9_24 : decode cJ9_floorDiv_f86c9 24 = .ok (.lconst 1, 1) := by decide +kernel
theorem dJ9_floorDiv_f86c9_25 : decode cJ9_floorDiv_f86c9 25 = .ok (.lsub, 1) := by decide +kernel
theorem dJ9_floorDiv_f86c9_26 : decode cJ9_floorDiv_f86c9 26 = .ok (.lreturn, 1) := by decide +kernel
theorem dJ9_floorDiv_f86c9_27 : decode cJ9_floorDiv_f86c9 27 = .ok (.lload 4, 2) := by decide +kernel
theorem dJ9_floorDiv_f86c9_29 : decode cJ9_floorDiv_f86c9 29 = .ok (.lreturn, 1) := by decide +kernel
set_option maxHeartbeats 4000000 in
theorem m_floorDiv (l : Launch) {D : va_G} {ids : Nat → ClassId} {β : Nat} {sh : Nat → Nat × Nat} {N : Nat} {R : Nat → Nat → Option Nat} {F : Nat → Nat → Int} {A : Nat → Int → Int} {x y : Int} (hx : I64 x) (hy : 1 < y ∧ y ≤ 9223372036854775807) : MetX l yJ9_floorDiv_f86c9 cJ9_floorDiv_f86c9 6 (some (.long)) 0 0 D ids β sh N R F A [pL x, pL y] (pLr fun z F' A' => z = x / y ∧ F' = F ∧ A' = A) := by
  refine MetX.of (loc := [_, _, _, _, _, _]) (by decide +kernel) (Nat.le_of_ble_eq_true rfl) rfl ?_
  intro p e s m args below meth c hC hK hr hlk
  refine x_lload_n (pc2 := 1) hC rfl rfl dJ9_floorDiv_f86c9_0 rfl ?_
  refine x_lload_n (pc2 := 2) hC rfl rfl dJ9_floorDiv_f86c9_1 rfl ?_
  refine x_ldiv (pc2 := 3) hC hx ⟨by omega, by omega⟩ (by omega) dJ9_floorDiv_f86c9_2 rfl ?_
  refine x_lstore (pc2 := 5) (loc2 := [_, _, _, _, _, _]) hC (by decide) rfl dJ9_floorDiv_f86c9_3 rfl ?_
  refine x_lload_n (pc2 := 6) hC rfl rfl dJ9_floorDiv_f86c9_5 rfl ?_
  refine x_lload_n (pc2 := 7) hC rfl rfl dJ9_floorDiv_f86c9_6 rfl ?_
  refine x_lxor (pc2 := 8) hC dJ9_floorDiv_f86c9_7 rfl ?_
  refine x_lconst0 (pc2 := 9) hC dJ9_floorDiv_f86c9_8 rfl ?_
  refine x_lcmp_ge (tgt := 27) (pc2 := 13) hC (i64_mem _) ⟨by omega, by omega⟩ dJ9_floorDiv_f86c9_9 dJ9_floorDiv_f86c9_10 rfl rfl (fun h_9 => ?_) (fun h_9 => ?_)
  · refine x_lload (pc2 := 29) hC rfl dJ9_floorDiv_f86c9_27 rfl ?_
    exact x_lret hC hr hlk ⟨_, rfl, (by first | exact fd_pos hx hy h_9 | exact fd_eq hy h_18), rfl, rfl⟩ dJ9_floorDiv_f86c9_29
  · refine x_lload (pc2 := 15) hC rfl dJ9_floorDiv_f86c9_13 rfl ?_
    refine x_lload_n (pc2 := 16) hC rfl rfl dJ9_floorDiv_f86c9_15 rfl ?_
    refine x_lmul (pc2 := 17) hC dJ9_floorDiv_f86c9_16 rfl ?_
    refine x_lload_n (pc2 := 18) hC rfl rfl dJ9_floorDiv_f86c9_17 rfl ?_
    refine x_lcmp_eq (tgt := 27) (pc2 := 22) hC (fd_rng hx hy) hx dJ9_floorDiv_f86c9_18 dJ9_floorDiv_f86c9_19 rfl rfl (fun h_18 => ?_) (fun h_18 => ?_)
    · refine x_lload (pc2 := 29) hC rfl dJ9_floorDiv_f86c9_27 rfl ?_
      exact x_lret hC hr hlk ⟨_, rfl, (by first | exact fd_pos hx hy h_9 | exact fd_eq hy h_18), rfl, rfl⟩ dJ9_floorDiv_f86c9_29
    · refine x_lload (pc2 := 24) hC rfl dJ9_floorDiv_f86c9_22 rfl ?_
      refine x_lconst1 (pc2 := 25) hC dJ9_floorDiv_f86c9_24 rfl ?_
      refine x_lsub (pc2 := 26) hC dJ9_floorDiv_f86c9_25 rfl ?_
      exact x_lret hC hr hlk ⟨_, rfl, fd_neg hx hy h_9 h_18, rfl, rfl⟩ dJ9_floorDiv_f86c9_26
