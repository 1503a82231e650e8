def X (p : Program) (l : Launch) (e : Env) (Rm : Room) (s : State) (m : MethodId) (args : Array Value) (below : List Frame) (meth : Method) (c : Code) (Q : State → Prop) (G : Nat → Prop) (D : va_G) (ids : Nat → ClassId) (β : Nat) (sh : Nat → Nat × Nat) (nL nc ns N : Nat) (R : Nat → Nat → Option Nat) (F : Nat → Nat → Int) (A : Nat → Int → Int) (loc : List (Option PV)) (stk : List PV) (pc : Nat) : Prop :=
  ∀ (H : Heap) (locs : List Loc) (ls : Array Slot), va_P D cl9 (mkW β N (celE β ids sh R F A)) H → va_S G s.heap H locs → (∀ k, k < N → G (β + k)) → lv_has ls nL (lcl β 0 loc) → W p l e Rm s m args below meth c H locs nc ns Q (F0 m pc ls (stk.map (tv β)))
abbrev I32 (x : Int) : Prop := -2147483648 ≤ x ∧ x ≤ 2147483647
abbrev I64 (x : Int) : Prop := -9223372036854775808 ≤ x ∧ x ≤ 9223372036854775807
theorem i32_toInt {x : Int} (h : I32 x) : (Int32.ofInt x).toInt = x := Int32.toInt_ofInt_of_le (by have := h.1; omega) (by have := h.2; omega)
theorem i64_toInt {x : Int} (h : I64 x) : (Int64.ofInt x).toInt = x := Int64.toInt_ofInt_of_le (by have := h.1; omega) (by have := h.2; omega)
theorem i32_eq {x y : Int} (hx : I32 x) (hy : I32 y) : Int32.ofInt x = Int32.ofInt y ↔ x = y := by
  constructor
  · intro h
    rw [← i32_toInt hx, ← i32_toInt hy, h]
  · rintro rfl; rfl
theorem i32_lt {x y : Int} (hx : I32 x) (hy : I32 y) : Int32.ofInt x < Int32.ofInt y ↔ x < y := by rw [Int32.lt_iff_toInt_lt, i32_toInt hx, i32_toInt hy]
theorem i32_le {x y : Int} (hx : I32 x) (hy : I32 y) : Int32.ofInt x ≤ Int32.ofInt y ↔ x ≤ y := by rw [Int32.le_iff_toInt_le, i32_toInt hx, i32_toInt hy]
theorem i64_eq {x y : Int} (hx : I64 x) (hy : I64 y) : Int64.ofInt x = Int64.ofInt y ↔ x = y := by
  constructor
  · intro h
    rw [← i64_toInt hx, ← i64_toInt hy, h]
  · rintro rfl; rfl
theorem i64_lt {x y : Int} (hx : I64 x) (hy : I64 y) : Int64.ofInt x < Int64.ofInt y ↔ x < y := by rw [Int64.lt_iff_toInt_lt, i64_toInt hx, i64_toInt hy]
theorem i64_le {x y : Int} (hx : I64 x) (hy : I64 y) : Int64.ofInt x ≤ Int64.ofInt y ↔ x ≤ y := by rw [Int64.le_iff_toInt_le, i64_toInt hx, i64_toInt hy]
theorem lgc_lt {x y : Int} (hx : I64 x) (hy : I64 y) : lg_cmp (Int64.ofInt x) (Int64.ofInt y) < 0 ↔ x < y := (lg_cmp_lt _ _).trans (i64_lt hx hy)
theorem lgc_ge {x y : Int} (hx : I64 x) (hy : I64 y) : 0 ≤ lg_cmp (Int64.ofInt x) (Int64.ofInt y) ↔ y ≤ x := (lg_cmp_ge _ _).trans (i64_le hy hx)
theorem lgc_gt {x y : Int} (hx : I64 x) (hy : I64 y) : 0 < lg_cmp (Int64.ofInt x) (Int64.ofInt y) ↔ y < x := (lg_cmp_gt _ _).trans (i64_lt hy hx)
theorem lgc_le {x y : Int} (hx : I64 x) (hy : I64 y) : lg_cmp (Int64.ofInt x) (Int64.ofInt y) ≤ 0 ↔ x ≤ y := (lg_cmp_le _ _).trans (i64_le hx hy)
theorem lgc_eq {x y : Int} (hx : I64 x) (hy : I64 y) : lg_cmp (Int64.ofInt x) (Int64.ofInt y) = 0 ↔ x = y := (lg_cmp_eq _ _).trans (i64_eq hx hy)
theorem lgc_ne {x y : Int} (hx : I64 x) (hy : I64 y) : ¬ lg_cmp (Int64.ofInt x) (Int64.ofInt y) = 0 ↔ x ≠ y := not_congr (lgc_eq hx hy)
theorem i32_clamp {x : Int} (h : 0 ≤ x) (h2 : x ≤ 2147483647) : (Int32.ofInt x).toNatClampNeg = x.toNat := by
  show (Int32.ofInt x).toInt.toNat = x.toNat
  rw [i32_toInt ⟨by omega, h2⟩]
theorem i32_inI {x : Int} {n : Nat} (h : 0 ≤ x) (h2 : x < n) (h3 : x ≤ 2147483647) : vp_in (Int32.ofInt x) n := by
  rw [vp_in_iff, i32_toInt ⟨by omega, h3⟩]
  exact ⟨h, h2⟩
theorem i32_div {x y : Int} (hx : I32 x) (hy : I32 y) : Int32.ofInt x / Int32.ofInt y = Int32.ofInt (x.tdiv y) := (Int32.ofInt_tdiv hx.1 hx.2 hy.1 hy.2).symm
theorem i64_div {x y : Int} (hx : I64 x) (hy : I64 y) : Int64.ofInt x / Int64.ofInt y = Int64.ofInt (x.tdiv y) := (Int64.ofInt_tdiv hx.1 hx.2 hy.1 hy.2).symm
theorem i32_rem {x y : Int} (hx : I32 x) (hy : I32 y) : Int32.ofInt x - Int32.ofInt x / Int32.ofInt y * Int32.ofInt y = Int32.ofInt (x.tmod y) := by
  rw [i32_div hx hy, ← Int32.ofInt_mul, ← Int32.ofInt_sub, Int.tmod_def, Int.mul_comm]
theorem i64_rem {x y : Int} (hx : I64 x) (hy : I64 y) : Int64.ofInt x - Int64.ofInt x / Int64.ofInt y * Int64.ofInt y = Int64.ofInt (x.tmod y) := by
  rw [i64_div hx hy, ← Int64.ofInt_mul, ← Int64.ofInt_sub, Int.tmod_def, Int.mul_comm]
theorem i32_ne0 {y : Int} (hy : I32 y) (h : y ≠ 0) : ¬ Int32.ofInt y = 0 := fun q => h ((i32_eq hy ⟨by omega, by omega⟩).mp (q.trans (by rfl)))
theorem i64_ne0 {y : Int} (hy : I64 y) (h : y ≠ 0) : ¬ Int64.ofInt y = 0 := fun q => h ((i64_eq hy ⟨by omega, by omega⟩).mp (q.trans (by rfl)))
theorem i32_nI {x : Int} (h : 0 ≤ x) : Int32.ofInt x = nI x.toNat := by
  obtain ⟨n, rfl⟩ := Int.eq_ofNat_of_zero_le h
  rfl
theorem i32_and {x : Int} (h : 0 ≤ x) (h2 : x ≤ 2147483647) : Int32.ofInt x &&& Int32.ofInt 32767 = Int32.ofInt (x % 32768) := by
  have e : Int32.ofInt 32767 = nI 32767 := rfl
  rw [i32_nI h, pk_andN (by omega) 15 (by rfl), i32_nI (by omega)]
  congr 1
  omega
theorem i32_shr {x : Int} (h : 0 ≤ x) (h2 : x ≤ 2147483647) : Int32.ofInt x >>> (Int32.ofInt 15 &&& 31) = Int32.ofInt (x / 32768) := by
  rw [i32_nI h, pk_shrN (by omega) _ 15 (by decide +kernel), i32_nI (by omega)]
  congr 1
  omega
theorem i32_i2l {x : Int} (h : I32 x) : (Int32.ofInt x).toInt64 = Int64.ofInt x := Int32.toInt64_ofInt h.1 h.2

section XR
variable {p : Program} {l : Launch} {e : Env} {Rm : Room} {s : State} {m : MethodId} {args : Array Value} {below : List Frame} {meth : Method} {c : Code} {Q : State → Prop} {G : Nat → Prop} {D : va_G} {ids : Nat → ClassId} {β : Nat} {sh : Nat → Nat × Nat} {nL nc ns N : Nat} {R : Nat → Nat → Option Nat} {F : Nat → Nat → Int} {A : Nat → Int → Int} {loc loc2 : List (Option PV)} {stk : List PV} {pc pc2 tgt : Nat} {cc : ByteArray} {own : String}
theorem x_iconst (hC : CallFix p m c cc nL s args TT own) {n : Int} (hd : decode cc pc = .ok (.iconst n, 1)) (h2 : pc + 1 = pc2) (k : X p l e Rm s m args below meth c Q G D ids β sh nL nc ns N R F A loc (pI n :: stk) pc2) : X p l e Rm s m args below meth c Q G D ids β sh nL nc ns N R F A loc (stk) pc := by
  subst h2; intro H locs ls a1 a2 a3 a4; exact lv_iconst hC.1 hC.2.1 hd rfl (k H locs ls a1 a2 a3 a4)
theorem x_bipush (hC : CallFix p m c cc nL s args TT own) {n : Int} (hn : (Int8.ofInt n).toInt32 = Int32.ofInt n) (hd : decode cc pc = .ok (.bipush n, 2)) (h2 : pc + 2 = pc2) (k : X p l e Rm s m args below meth c Q G D ids β sh nL nc ns N R F A loc (pI n :: stk) pc2) : X p l e Rm s m args below meth c Q G D ids β sh nL nc ns N R F A loc (stk) pc := by
  subst h2; intro H locs ls a1 a2 a3 a4; exact lv_bipush hC.1 hC.2.1 hd hn (k H locs ls a1 a2 a3 a4)
theorem x_sipush (hC : CallFix p m c cc nL s args TT own) {n : Int} (hn : (Int16.ofInt n).toInt32 = Int32.ofInt n) (hd : decode cc pc = .ok (.sipush n, 3)) (h2 : pc + 3 = pc2) (k : X p l e Rm s m args below meth c Q G D ids β sh nL nc ns N R F A loc (pI n :: stk) pc2) : X p l e Rm s m args below meth c Q G D ids β sh nL nc ns N R F A loc (stk) pc := by
  subst h2; intro H locs ls a1 a2 a3 a4; exact lv_sipush hC.1 hC.2.1 hd hn (k H locs ls a1 a2 a3 a4)
theorem x_lconst0 (hC : CallFix p m c cc nL s args TT own)  (hd : decode cc pc = .ok (.lconst 0, 1)) (h2 : pc + 1 = pc2) (k : X p l e Rm s m args below meth c Q G D ids β sh nL nc ns N R F A loc (pL 0 :: stk) pc2) : X p l e Rm s m args below meth c Q G D ids β sh nL nc ns N R F A loc (stk) pc := by
  subst h2; intro H locs ls a1 a2 a3 a4; exact lv_lconst (v := Int64.ofInt 0) hC.1 hC.2.1 hd rfl (k H locs ls a1 a2 a3 a4)
theorem x_lconst1 (hC : CallFix p m c cc nL s args TT own)  (hd : decode cc pc = .ok (.lconst 1, 1)) (h2 : pc + 1 = pc2) (k : X p l e Rm s m args below meth c Q G D ids β sh nL nc ns N R F A loc (pL 1 :: stk) pc2) : X p l e Rm s m args below meth c Q G D ids β sh nL nc ns N R F A loc (stk) pc := by
  subst h2; intro H locs ls a1 a2 a3 a4; exact lv_lconst (v := Int64.ofInt 1) hC.1 hC.2.1 hd rfl (k H locs ls a1 a2 a3 a4)
theorem x_ldc (hC : CallFix p m c cc nL s args TT own) {i : Nat} {v : Int32} {z : Int} (hw : Cond.constant own i v ∈ TT) (hz : Int32.ofInt z = v) (hd : decode cc pc = .ok (.ldc i, 2)) (h2 : pc + 2 = pc2) (k : X p l e Rm s m args below meth c Q G D ids β sh nL nc ns N R F A loc (pI z :: stk) pc2) : X p l e Rm s m args below meth c Q G D ids β sh nL nc ns N R F A loc (stk) pc := by
  subst h2; subst hz; intro H locs ls a1 a2 a3 a4; exact lv_ldc hC.1 hC.2.1 hC.2.2.2.1 (hC.2.2.2.2 _ hw) hd (k H locs ls a1 a2 a3 a4)
theorem x_ldc2 (hC : CallFix p m c cc nL s args TT own) {i : Nat} {v : Int64} {z : Int} (hw : Cond.constantLong own i v ∈ TT) (hz : Int64.ofInt z = v) (hd : decode cc pc = .ok (.ldc2_w i, 3)) (h2 : pc + 3 = pc2) (k : X p l e Rm s m args below meth c Q G D ids β sh nL nc ns N R F A loc (pL z :: stk) pc2) : X p l e Rm s m args below meth c Q G D ids β sh nL nc ns N R F A loc (stk) pc := by
  subst h2; subst hz; intro H locs ls a1 a2 a3 a4; exact lv_ldc2 hC.1 hC.2.1 hC.2.2.2.1 (hC.2.2.2.2 _ hw) hd (k H locs ls a1 a2 a3 a4)
theorem x_iload_n (hC : CallFix p m c cc nL s args TT own) {q : Fin 4} {i : Nat} {x : Int} (hi : (q : Nat) = i) (hv : loc[i]? = some (some (pI x))) (hd : decode cc pc = .ok (.iload_n q, 1)) (h2 : pc + 1 = pc2) (k : X p l e Rm s m args below meth c Q G D ids β sh nL nc ns N R F A loc (pI x :: stk) pc2) : X p l e Rm s m args below meth c Q G D ids β sh nL nc ns N R F A loc (stk) pc := by
  subst h2; intro H locs ls a1 a2 a3 a4; exact lv_iload_n hC.1 hC.2.1 hd hi (lv_get a4 hv) (k H locs ls a1 a2 a3 a4)
theorem x_iload (hC : CallFix p m c cc nL s args TT own) {i : Nat} {x : Int} (hv : loc[i]? = some (some (pI x))) (hd : decode cc pc = .ok (.iload i, 2)) (h2 : pc + 2 = pc2) (k : X p l e Rm s m args below meth c Q G D ids β sh nL nc ns N R F A loc (pI x :: stk) pc2) : X p l e Rm s m args below meth c Q G D ids β sh nL nc ns N R F A loc (stk) pc := by
  subst h2; intro H locs ls a1 a2 a3 a4; exact lv_iload hC.1 hC.2.1 hd (lv_get a4 hv) (k H locs ls a1 a2 a3 a4)
theorem x_lload_n (hC : CallFix p m c cc nL s args TT own) {q : Fin 4} {i : Nat} {x : Int} (hi : (q : Nat) = i) (hv : loc[i]? = some (some (pL x))) (hd : decode cc pc = .ok (.lload_n q, 1)) (h2 : pc + 1 = pc2) (k : X p l e Rm s m args below meth c Q G D ids β sh nL nc ns N R F A loc (pL x :: stk) pc2) : X p l e Rm s m args below meth c Q G D ids β sh nL nc ns N R F A loc (stk) pc := by
  subst h2; intro H locs ls a1 a2 a3 a4; exact lv_lload_n hC.1 hC.2.1 hd hi (lv_get a4 hv) (k H locs ls a1 a2 a3 a4)
theorem x_lload (hC : CallFix p m c cc nL s args TT own) {i : Nat} {x : Int} (hv : loc[i]? = some (some (pL x))) (hd : decode cc pc = .ok (.lload i, 2)) (h2 : pc + 2 = pc2) (k : X p l e Rm s m args below meth c Q G D ids β sh nL nc ns N R F A loc (pL x :: stk) pc2) : X p l e Rm s m args below meth c Q G D ids β sh nL nc ns N R F A loc (stk) pc := by
  subst h2; intro H locs ls a1 a2 a3 a4; exact lv_lload hC.1 hC.2.1 hd (lv_get a4 hv) (k H locs ls a1 a2 a3 a4)
theorem x_aload_n (hC : CallFix p m c cc nL s args TT own) {q : Fin 4} {i : Nat} {x : Nat} (hi : (q : Nat) = i) (hv : loc[i]? = some (some (rf x))) (hd : decode cc pc = .ok (.aload_n q, 1)) (h2 : pc + 1 = pc2) (k : X p l e Rm s m args below meth c Q G D ids β sh nL nc ns N R F A loc (rf x :: stk) pc2) : X p l e Rm s m args below meth c Q G D ids β sh nL nc ns N R F A loc (stk) pc := by
  subst h2; intro H locs ls a1 a2 a3 a4; exact lv_aload_n hC.1 hC.2.1 hd hi (lv_get a4 hv) (k H locs ls a1 a2 a3 a4)
theorem x_aload (hC : CallFix p m c cc nL s args TT own) {i : Nat} {x : Nat} (hv : loc[i]? = some (some (rf x))) (hd : decode cc pc = .ok (.aload i, 2)) (h2 : pc + 2 = pc2) (k : X p l e Rm s m args below meth c Q G D ids β sh nL nc ns N R F A loc (rf x :: stk) pc2) : X p l e Rm s m args below meth c Q G D ids β sh nL nc ns N R F A loc (stk) pc := by
  subst h2; intro H locs ls a1 a2 a3 a4; exact lv_aload hC.1 hC.2.1 hd (lv_get a4 hv) (k H locs ls a1 a2 a3 a4)
theorem x_istore_n (hC : CallFix p m c cc nL s args TT own) {q : Fin 4} {i : Nat} {x : Int} (hi : (q : Nat) = i) (hn : i < nL) (hl : st1 loc i (pI x) = loc2) (hd : decode cc pc = .ok (.istore_n q, 1)) (h2 : pc + 1 = pc2) (k : X p l e Rm s m args below meth c Q G D ids β sh nL nc ns N R F A loc2 (stk) pc2) : X p l e Rm s m args below meth c Q G D ids β sh nL nc ns N R F A loc (pI x :: stk) pc := by
  subst h2; subst hl; intro H locs ls a1 a2 a3 a4; exact lv_istore_n hC.1 hC.2.1 hd hi a4 hn rfl (fun ls2 h => k H locs ls2 a1 a2 a3 (lv_less h lcl_st1))
theorem x_istore (hC : CallFix p m c cc nL s args TT own) {i : Nat} {x : Int} (hn : i < nL) (hl : st1 loc i (pI x) = loc2) (hd : decode cc pc = .ok (.istore i, 2)) (h2 : pc + 2 = pc2) (k : X p l e Rm s m args below meth c Q G D ids β sh nL nc ns N R F A loc2 (stk) pc2) : X p l e Rm s m args below meth c Q G D ids β sh nL nc ns N R F A loc (pI x :: stk) pc := by
  subst h2; subst hl; intro H locs ls a1 a2 a3 a4; exact lv_istore hC.1 hC.2.1 hd a4 hn rfl (fun ls2 h => k H locs ls2 a1 a2 a3 (lv_less h lcl_st1))
theorem x_lstore_n (hC : CallFix p m c cc nL s args TT own) {q : Fin 4} {i : Nat} {x : Int} (hi : (q : Nat) = i) (hn : i + 1 < nL) (hl : st2 loc i (pL x) = loc2) (hd : decode cc pc = .ok (.lstore_n q, 1)) (h2 : pc + 1 = pc2) (k : X p l e Rm s m args below meth c Q G D ids β sh nL nc ns N R F A loc2 (stk) pc2) : X p l e Rm s m args below meth c Q G D ids β sh nL nc ns N R F A loc (pL x :: stk) pc := by
  subst h2; subst hl; intro H locs ls a1 a2 a3 a4; exact lv_lstore_n hC.1 hC.2.1 hd hi a4 hn rfl (fun ls2 h => k H locs ls2 a1 a2 a3 (lv_less h lcl_st2))
theorem x_lstore (hC : CallFix p m c cc nL s args TT own) {i : Nat} {x : Int} (hn : i + 1 < nL) (hl : st2 loc i (pL x) = loc2) (hd : decode cc pc = .ok (.lstore i, 2)) (h2 : pc + 2 = pc2) (k : X p l e Rm s m args below meth c Q G D ids β sh nL nc ns N R F A loc2 (stk) pc2) : X p l e Rm s m args below meth c Q G D ids β sh nL nc ns N R F A loc (pL x :: stk) pc := by
  subst h2; subst hl; intro H locs ls a1 a2 a3 a4; exact lv_lstore hC.1 hC.2.1 hd a4 hn rfl (fun ls2 h => k H locs ls2 a1 a2 a3 (lv_less h lcl_st2))
theorem x_astore_n (hC : CallFix p m c cc nL s args TT own) {q : Fin 4} {i : Nat} {x : Nat} (hi : (q : Nat) = i) (hn : i < nL) (hl : st1 loc i (rf x) = loc2) (hd : decode cc pc = .ok (.astore_n q, 1)) (h2 : pc + 1 = pc2) (k : X p l e Rm s m args below meth c Q G D ids β sh nL nc ns N R F A loc2 (stk) pc2) : X p l e Rm s m args below meth c Q G D ids β sh nL nc ns N R F A loc (rf x :: stk) pc := by
  subst h2; subst hl; intro H locs ls a1 a2 a3 a4; exact lv_astore_n hC.1 hC.2.1 hd hi a4 hn rfl (fun ls2 h => k H locs ls2 a1 a2 a3 (lv_less h lcl_st1))
theorem x_astore (hC : CallFix p m c cc nL s args TT own) {i : Nat} {x : Nat} (hn : i < nL) (hl : st1 loc i (rf x) = loc2) (hd : decode cc pc = .ok (.astore i, 2)) (h2 : pc + 2 = pc2) (k : X p l e Rm s m args below meth c Q G D ids β sh nL nc ns N R F A loc2 (stk) pc2) : X p l e Rm s m args below meth c Q G D ids β sh nL nc ns N R F A loc (rf x :: stk) pc := by
  subst h2; subst hl; intro H locs ls a1 a2 a3 a4; exact lv_astore hC.1 hC.2.1 hd a4 hn rfl (fun ls2 h => k H locs ls2 a1 a2 a3 (lv_less h lcl_st1))
theorem x_iinc (hC : CallFix p m c cc nL s args TT own) {i : Nat} {n x : Int} (hn : i < nL) (hv : loc[i]? = some (some (pI x))) (hl : st1 loc i (pI (x + n)) = loc2) (hd : decode cc pc = .ok (.iinc i n, 3)) (h2 : pc + 3 = pc2) (k : X p l e Rm s m args below meth c Q G D ids β sh nL nc ns N R F A loc2 (stk) pc2) : X p l e Rm s m args below meth c Q G D ids β sh nL nc ns N R F A loc (stk) pc := by
  subst h2; subst hl; intro H locs ls a1 a2 a3 a4
  have a5 : lv_has ls nL ((i, .int (Int32.ofInt x)) :: lcl β 0 loc) := lv_less a4 (fun q hq => by
    rcases List.mem_cons.mp hq with rfl | hq
    · exact (lcl_mem loc 0 _).mpr ⟨i, _, hv, (Nat.zero_add i).symm, rfl⟩
    · exact hq)
  refine lv_iinc (k := 0) (v := Int32.ofInt (x + n)) hC.1 hC.2.1 hd a5 rfl (Int32.ofInt_add ..).symm hn rfl (fun ls2 h => k H locs ls2 a1 a2 a3 (lv_less h (fun q hq => ?_)))
  rcases List.mem_cons.mp (lcl_st1 q hq) with h1 | h1
  · rw [h1]; exact List.mem_cons_self
  · obtain ⟨h3, h4⟩ := List.mem_filter.mp h1
    exact List.mem_cons_of_mem _ (List.mem_filter.mpr ⟨List.mem_cons_of_mem _ h3, h4⟩)
theorem x_iadd (hC : CallFix p m c cc nL s args TT own) {x y : Int}  (hd : decode cc pc = .ok (.iadd, 1)) (h2 : pc + 1 = pc2) (k : X p l e Rm s m args below meth c Q G D ids β sh nL nc ns N R F A loc (pI (x + y) :: stk) pc2) : X p l e Rm s m args below meth c Q G D ids β sh nL nc ns N R F A loc (pI y :: pI x :: stk) pc := by
  subst h2; intro H locs ls a1 a2 a3 a4
  have k2 := k H locs ls a1 a2 a3 a4
  rw [show (pI (x + y) :: stk).map (tv β) = .int (Int32.ofInt (x + y)) :: stk.map (tv β) from rfl, Int32.ofInt_add] at k2
  exact lv_iadd hC.1 hC.2.1 hd  k2
theorem x_isub (hC : CallFix p m c cc nL s args TT own) {x y : Int}  (hd : decode cc pc = .ok (.isub, 1)) (h2 : pc + 1 = pc2) (k : X p l e Rm s m args below meth c Q G D ids β sh nL nc ns N R F A loc (pI (x - y) :: stk) pc2) : X p l e Rm s m args below meth c Q G D ids β sh nL nc ns N R F A loc (pI y :: pI x :: stk) pc := by
  subst h2; intro H locs ls a1 a2 a3 a4
  have k2 := k H locs ls a1 a2 a3 a4
  rw [show (pI (x - y) :: stk).map (tv β) = .int (Int32.ofInt (x - y)) :: stk.map (tv β) from rfl, Int32.ofInt_sub] at k2
  exact lv_isub hC.1 hC.2.1 hd  k2
theorem x_imul (hC : CallFix p m c cc nL s args TT own) {x y : Int}  (hd : decode cc pc = .ok (.imul, 1)) (h2 : pc + 1 = pc2) (k : X p l e Rm s m args below meth c Q G D ids β sh nL nc ns N R F A loc (pI (x * y) :: stk) pc2) : X p l e Rm s m args below meth c Q G D ids β sh nL nc ns N R F A loc (pI y :: pI x :: stk) pc := by
  subst h2; intro H locs ls a1 a2 a3 a4
  have k2 := k H locs ls a1 a2 a3 a4
  rw [show (pI (x * y) :: stk).map (tv β) = .int (Int32.ofInt (x * y)) :: stk.map (tv β) from rfl, Int32.ofInt_mul] at k2
  exact lv_imul hC.1 hC.2.1 hd  k2
theorem x_ineg (hC : CallFix p m c cc nL s args TT own) {x : Int}  (hd : decode cc pc = .ok (.ineg, 1)) (h2 : pc + 1 = pc2) (k : X p l e Rm s m args below meth c Q G D ids β sh nL nc ns N R F A loc (pI (-x) :: stk) pc2) : X p l e Rm s m args below meth c Q G D ids β sh nL nc ns N R F A loc (pI x :: stk) pc := by
  subst h2; intro H locs ls a1 a2 a3 a4
  have k2 := k H locs ls a1 a2 a3 a4
  rw [show (pI (-x) :: stk).map (tv β) = .int (Int32.ofInt (-x)) :: stk.map (tv β) from rfl, Int32.ofInt_neg] at k2
  exact lv_ineg hC.1 hC.2.1 hd  k2
theorem x_ladd (hC : CallFix p m c cc nL s args TT own) {x y : Int}  (hd : decode cc pc = .ok (.ladd, 1)) (h2 : pc + 1 = pc2) (k : X p l e Rm s m args below meth c Q G D ids β sh nL nc ns N R F A loc (pL (x + y) :: stk) pc2) : X p l e Rm s m args below meth c Q G D ids β sh nL nc ns N R F A loc (pL y :: pL x :: stk) pc := by
  subst h2; intro H locs ls a1 a2 a3 a4
  have k2 := k H locs ls a1 a2 a3 a4
  rw [show (pL (x + y) :: stk).map (tv β) = .long (Int64.ofInt (x + y)) :: stk.map (tv β) from rfl, Int64.ofInt_add] at k2
  exact lv_ladd hC.1 hC.2.1 hd  k2
theorem x_lsub (hC : CallFix p m c cc nL s args TT own) {x y : Int}  (hd : decode cc pc = .ok (.lsub, 1)) (h2 : pc + 1 = pc2) (k : X p l e Rm s m args below meth c Q G D ids β sh nL nc ns N R F A loc (pL (x - y) :: stk) pc2) : X p l e Rm s m args below meth c Q G D ids β sh nL nc ns N R F A loc (pL y :: pL x :: stk) pc := by
  subst h2; intro H locs ls a1 a2 a3 a4
  have k2 := k H locs ls a1 a2 a3 a4
  rw [show (pL (x - y) :: stk).map (tv β) = .long (Int64.ofInt (x - y)) :: stk.map (tv β) from rfl, Int64.ofInt_sub] at k2
  exact lv_lsub hC.1 hC.2.1 hd  k2
theorem x_lmul (hC : CallFix p m c cc nL s args TT own) {x y : Int}  (hd : decode cc pc = .ok (.lmul, 1)) (h2 : pc + 1 = pc2) (k : X p l e Rm s m args below meth c Q G D ids β sh nL nc ns N R F A loc (pL (x * y) :: stk) pc2) : X p l e Rm s m args below meth c Q G D ids β sh nL nc ns N R F A loc (pL y :: pL x :: stk) pc := by
  subst h2; intro H locs ls a1 a2 a3 a4
  have k2 := k H locs ls a1 a2 a3 a4
  rw [show (pL (x * y) :: stk).map (tv β) = .long (Int64.ofInt (x * y)) :: stk.map (tv β) from rfl, Int64.ofInt_mul] at k2
  exact lv_lmul hC.1 hC.2.1 hd  k2
theorem x_lneg (hC : CallFix p m c cc nL s args TT own) {x : Int}  (hd : decode cc pc = .ok (.lneg, 1)) (h2 : pc + 1 = pc2) (k : X p l e Rm s m args below meth c Q G D ids β sh nL nc ns N R F A loc (pL (-x) :: stk) pc2) : X p l e Rm s m args below meth c Q G D ids β sh nL nc ns N R F A loc (pL x :: stk) pc := by
  subst h2; intro H locs ls a1 a2 a3 a4
  have k2 := k H locs ls a1 a2 a3 a4
  rw [show (pL (-x) :: stk).map (tv β) = .long (Int64.ofInt (-x)) :: stk.map (tv β) from rfl, Int64.ofInt_neg] at k2
  exact lv_lneg hC.1 hC.2.1 hd  k2
theorem x_idiv (hC : CallFix p m c cc nL s args TT own) {x y : Int} (hx : I32 x) (hy : I32 y) (hne : y ≠ 0) (hd : decode cc pc = .ok (.idiv, 1)) (h2 : pc + 1 = pc2) (k : X p l e Rm s m args below meth c Q G D ids β sh nL nc ns N R F A loc (pI (x.tdiv y) :: stk) pc2) : X p l e Rm s m args below meth c Q G D ids β sh nL nc ns N R F A loc (pI y :: pI x :: stk) pc := by
  subst h2; intro H locs ls a1 a2 a3 a4
  have k2 := k H locs ls a1 a2 a3 a4
  rw [show (pI (x.tdiv y) :: stk).map (tv β) = .int (Int32.ofInt (x.tdiv y)) :: stk.map (tv β) from rfl, show Int32.ofInt (x.tdiv y) = Int32.ofInt x / Int32.ofInt y from (i32_div hx hy).symm ▸ rfl] at k2
  exact lv_idiv hC.1 hC.2.1 hd (i32_ne0 hy hne) k2
theorem x_idivp (hC : CallFix p m c cc nL s args TT own) {x y : Int} (h0 : 0 ≤ x) (hx : x ≤ 2147483647) (h1 : 0 < y) (hy : y ≤ 2147483647) (hd : decode cc pc = .ok (.idiv, 1)) (h2 : pc + 1 = pc2) (k : X p l e Rm s m args below meth c Q G D ids β sh nL nc ns N R F A loc (pI (x / y) :: stk) pc2) : X p l e Rm s m args below meth c Q G D ids β sh nL nc ns N R F A loc (pI y :: pI x :: stk) pc := by
  subst h2; intro H locs ls a1 a2 a3 a4
  have k2 := k H locs ls a1 a2 a3 a4
  rw [show (pI (x / y) :: stk).map (tv β) = .int (Int32.ofInt (x / y)) :: stk.map (tv β) from rfl, show Int32.ofInt (x / y) = Int32.ofInt x / Int32.ofInt y from (i32_div ⟨by omega, hx⟩ ⟨by omega, hy⟩).symm ▸ congrArg Int32.ofInt (Int.tdiv_eq_ediv_of_nonneg h0).symm] at k2
  exact lv_idiv hC.1 hC.2.1 hd (i32_ne0 ⟨by omega, hy⟩ (by omega)) k2
theorem x_irem (hC : CallFix p m c cc nL s args TT own) {x y : Int} (hx : I32 x) (hy : I32 y) (hne : y ≠ 0) (hd : decode cc pc = .ok (.irem, 1)) (h2 : pc + 1 = pc2) (k : X p l e Rm s m args below meth c Q G D ids β sh nL nc ns N R F A loc (pI (x.tmod y) :: stk) pc2) : X p l e Rm s m args below meth c Q G D ids β sh nL nc ns N R F A loc (pI y :: pI x :: stk) pc := by
  subst h2; intro H locs ls a1 a2 a3 a4
  have k2 := k H locs ls a1 a2 a3 a4
  rw [show (pI (x.tmod y) :: stk).map (tv β) = .int (Int32.ofInt (x.tmod y)) :: stk.map (tv β) from rfl, show Int32.ofInt (x.tmod y) = Int32.ofInt x - Int32.ofInt x / Int32.ofInt y * Int32.ofInt y from (i32_rem hx hy).symm ▸ rfl] at k2
  exact lv_irem hC.1 hC.2.1 hd (i32_ne0 hy hne) k2
theorem x_iremp (hC : CallFix p m c cc nL s args TT own) {x y : Int} (h0 : 0 ≤ x) (hx : x ≤ 2147483647) (h1 : 0 < y) (hy : y ≤ 2147483647) (hd : decode cc pc = .ok (.irem, 1)) (h2 : pc + 1 = pc2) (k : X p l e Rm s m args below meth c Q G D ids β sh nL nc ns N R F A loc (pI (x % y) :: stk) pc2) : X p l e Rm s m args below meth c Q G D ids β sh nL nc ns N R F A loc (pI y :: pI x :: stk) pc := by
  subst h2; intro H locs ls a1 a2 a3 a4
  have k2 := k H locs ls a1 a2 a3 a4
  rw [show (pI (x % y) :: stk).map (tv β) = .int (Int32.ofInt (x % y)) :: stk.map (tv β) from rfl, show Int32.ofInt (x % y) = Int32.ofInt x - Int32.ofInt x / Int32.ofInt y * Int32.ofInt y from (i32_rem ⟨by omega, hx⟩ ⟨by omega, hy⟩).symm ▸ congrArg Int32.ofInt (Int.tmod_eq_emod_of_nonneg h0).symm] at k2
  exact lv_irem hC.1 hC.2.1 hd (i32_ne0 ⟨by omega, hy⟩ (by omega)) k2
theorem x_ldiv (hC : CallFix p m c cc nL s args TT own) {x y : Int} (hx : I64 x) (hy : I64 y) (hne : y ≠ 0) (hd : decode cc pc = .ok (.ldiv, 1)) (h2 : pc + 1 = pc2) (k : X p l e Rm s m args below meth c Q G D ids β sh nL nc ns N R F A loc (pL (x.tdiv y) :: stk) pc2) : X p l e Rm s m args below meth c Q G D ids β sh nL nc ns N R F A loc (pL y :: pL x :: stk) pc := by
  subst h2; intro H locs ls a1 a2 a3 a4
  have k2 := k H locs ls a1 a2 a3 a4
  rw [show (pL (x.tdiv y) :: stk).map (tv β) = .long (Int64.ofInt (x.tdiv y)) :: stk.map (tv β) from rfl, show Int64.ofInt (x.tdiv y) = Int64.ofInt x / Int64.ofInt y from (i64_div hx hy).symm ▸ rfl] at k2
  exact lv_ldiv hC.1 hC.2.1 hd (i64_ne0 hy hne) k2
theorem x_ldivp (hC : CallFix p m c cc nL s args TT own) {x y : Int} (h0 : 0 ≤ x) (hx : x ≤ 9223372036854775807) (h1 : 0 < y) (hy : y ≤ 9223372036854775807) (hd : decode cc pc = .ok (.ldiv, 1)) (h2 : pc + 1 = pc2) (k : X p l e Rm s m args below meth c Q G D ids β sh nL nc ns N R F A loc (pL (x / y) :: stk) pc2) : X p l e Rm s m args below meth c Q G D ids β sh nL nc ns N R F A loc (pL y :: pL x :: stk) pc := by
  subst h2; intro H locs ls a1 a2 a3 a4
  have k2 := k H locs ls a1 a2 a3 a4
  rw [show (pL (x / y) :: stk).map (tv β) = .long (Int64.ofInt (x / y)) :: stk.map (tv β) from rfl, show Int64.ofInt (x / y) = Int64.ofInt x / Int64.ofInt y from (i64_div ⟨by omega, hx⟩ ⟨by omega, hy⟩).symm ▸ congrArg Int64.ofInt (Int.tdiv_eq_ediv_of_nonneg h0).symm] at k2
  exact lv_ldiv hC.1 hC.2.1 hd (i64_ne0 ⟨by omega, hy⟩ (by omega)) k2
theorem x_lrem (hC : CallFix p m c cc nL s args TT own) {x y : Int} (hx : I64 x) (hy : I64 y) (hne : y ≠ 0) (hd : decode cc pc = .ok (.lrem, 1)) (h2 : pc + 1 = pc2) (k : X p l e Rm s m args below meth c Q G D ids β sh nL nc ns N R F A loc (pL (x.tmod y) :: stk) pc2) : X p l e Rm s m args below meth c Q G D ids β sh nL nc ns N R F A loc (pL y :: pL x :: stk) pc := by
  subst h2; intro H locs ls a1 a2 a3 a4
  have k2 := k H locs ls a1 a2 a3 a4
  rw [show (pL (x.tmod y) :: stk).map (tv β) = .long (Int64.ofInt (x.tmod y)) :: stk.map (tv β) from rfl, show Int64.ofInt (x.tmod y) = Int64.ofInt x - Int64.ofInt x / Int64.ofInt y * Int64.ofInt y from (i64_rem hx hy).symm ▸ rfl] at k2
  exact lv_lrem hC.1 hC.2.1 hd (i64_ne0 hy hne) k2
theorem x_lremp (hC : CallFix p m c cc nL s args TT own) {x y : Int} (h0 : 0 ≤ x) (hx : x ≤ 9223372036854775807) (h1 : 0 < y) (hy : y ≤ 9223372036854775807) (hd : decode cc pc = .ok (.lrem, 1)) (h2 : pc + 1 = pc2) (k : X p l e Rm s m args below meth c Q G D ids β sh nL nc ns N R F A loc (pL (x % y) :: stk) pc2) : X p l e Rm s m args below meth c Q G D ids β sh nL nc ns N R F A loc (pL y :: pL x :: stk) pc := by
  subst h2; intro H locs ls a1 a2 a3 a4
  have k2 := k H locs ls a1 a2 a3 a4
  rw [show (pL (x % y) :: stk).map (tv β) = .long (Int64.ofInt (x % y)) :: stk.map (tv β) from rfl, show Int64.ofInt (x % y) = Int64.ofInt x - Int64.ofInt x / Int64.ofInt y * Int64.ofInt y from (i64_rem ⟨by omega, hx⟩ ⟨by omega, hy⟩).symm ▸ congrArg Int64.ofInt (Int.tmod_eq_emod_of_nonneg h0).symm] at k2
  exact lv_lrem hC.1 hC.2.1 hd (i64_ne0 ⟨by omega, hy⟩ (by omega)) k2
theorem x_iand (hC : CallFix p m c cc nL s args TT own) {x : Int} (h0 : 0 ≤ x) (hx : x ≤ 2147483647) (hd : decode cc pc = .ok (.iand, 1)) (h2 : pc + 1 = pc2) (k : X p l e Rm s m args below meth c Q G D ids β sh nL nc ns N R F A loc (pI (x % 32768) :: stk) pc2) : X p l e Rm s m args below meth c Q G D ids β sh nL nc ns N R F A loc (pI 32767 :: pI x :: stk) pc := by
  subst h2; intro H locs ls a1 a2 a3 a4
  have k2 := k H locs ls a1 a2 a3 a4
  rw [show (pI (x % 32768) :: stk).map (tv β) = .int (Int32.ofInt (x % 32768)) :: stk.map (tv β) from rfl, ← i32_and h0 hx] at k2
  exact lv_iand hC.1 hC.2.1 hd k2
theorem x_ishr (hC : CallFix p m c cc nL s args TT own) {x : Int} (h0 : 0 ≤ x) (hx : x ≤ 2147483647) (hd : decode cc pc = .ok (.ishr, 1)) (h2 : pc + 1 = pc2) (k : X p l e Rm s m args below meth c Q G D ids β sh nL nc ns N R F A loc (pI (x / 32768) :: stk) pc2) : X p l e Rm s m args below meth c Q G D ids β sh nL nc ns N R F A loc (pI 15 :: pI x :: stk) pc := by
  subst h2; intro H locs ls a1 a2 a3 a4
  have k2 := k H locs ls a1 a2 a3 a4
  rw [show (pI (x / 32768) :: stk).map (tv β) = .int (Int32.ofInt (x / 32768)) :: stk.map (tv β) from rfl, ← i32_shr h0 hx] at k2
  exact lv_ishr hC.1 hC.2.1 hd k2
theorem x_i2l (hC : CallFix p m c cc nL s args TT own) {x : Int} (hx : I32 x) (hd : decode cc pc = .ok (.i2l, 1)) (h2 : pc + 1 = pc2) (k : X p l e Rm s m args below meth c Q G D ids β sh nL nc ns N R F A loc (pL x :: stk) pc2) : X p l e Rm s m args below meth c Q G D ids β sh nL nc ns N R F A loc (pI x :: stk) pc := by
  subst h2; intro H locs ls a1 a2 a3 a4
  exact lv_i2l hC.1 hC.2.1 hd (i32_i2l hx) (k H locs ls a1 a2 a3 a4)
theorem x_l2i (hC : CallFix p m c cc nL s args TT own) {x : Int} (hd : decode cc pc = .ok (.l2i, 1)) (h2 : pc + 1 = pc2) (k : X p l e Rm s m args below meth c Q G D ids β sh nL nc ns N R F A loc (pI x :: stk) pc2) : X p l e Rm s m args below meth c Q G D ids β sh nL nc ns N R F A loc (pL x :: stk) pc := by
  subst h2; intro H locs ls a1 a2 a3 a4
  exact lv_l2i hC.1 hC.2.1 hd Int64.toInt32_ofInt (k H locs ls a1 a2 a3 a4)
theorem tv_c1I {β : Nat} {z : Int} : (tv β (pI z)).category = 1 := rfl
theorem tv_c1R {β : Nat} {r : Option Nat} : (tv β (.inr (.inr r))).category = 1 := by cases r <;> rfl
theorem x_dupI (hC : CallFix p m c cc nL s args TT own) {x : Int} (hd : decode cc pc = .ok (.dup, 1)) (h2 : pc + 1 = pc2) (k : X p l e Rm s m args below meth c Q G D ids β sh nL nc ns N R F A loc (pI x :: pI x :: stk) pc2) : X p l e Rm s m args below meth c Q G D ids β sh nL nc ns N R F A loc (pI x :: stk) pc := by
  subst h2; intro H locs ls a1 a2 a3 a4
  exact lv_dup hC.1 hC.2.1 hd rfl (k H locs ls a1 a2 a3 a4)
theorem x_dupR (hC : CallFix p m c cc nL s args TT own) {r : Option Nat} (hd : decode cc pc = .ok (.dup, 1)) (h2 : pc + 1 = pc2) (k : X p l e Rm s m args below meth c Q G D ids β sh nL nc ns N R F A loc (.inr (.inr r) :: .inr (.inr r) :: stk) pc2) : X p l e Rm s m args below meth c Q G D ids β sh nL nc ns N R F A loc (.inr (.inr r) :: stk) pc := by
  subst h2; intro H locs ls a1 a2 a3 a4
  exact lv_dup hC.1 hC.2.1 hd tv_c1R (k H locs ls a1 a2 a3 a4)
theorem x_dup2 (hC : CallFix p m c cc nL s args TT own) {x : Int} {r : Option Nat} (hd : decode cc pc = .ok (.dup2, 1)) (h2 : pc + 1 = pc2) (k : X p l e Rm s m args below meth c Q G D ids β sh nL nc ns N R F A loc (pI x :: .inr (.inr r) :: pI x :: .inr (.inr r) :: stk) pc2) : X p l e Rm s m args below meth c Q G D ids β sh nL nc ns N R F A loc (pI x :: .inr (.inr r) :: stk) pc := by
  subst h2; intro H locs ls a1 a2 a3 a4
  exact lv_dup2_11 hC.1 hC.2.1 hd rfl tv_c1R (k H locs ls a1 a2 a3 a4)
theorem x_pop2L (hC : CallFix p m c cc nL s args TT own) {x : Int} (hd : decode cc pc = .ok (.pop2, 1)) (h2 : pc + 1 = pc2) (k : X p l e Rm s m args below meth c Q G D ids β sh nL nc ns N R F A loc (stk) pc2) : X p l e Rm s m args below meth c Q G D ids β sh nL nc ns N R F A loc (pL x :: stk) pc := by
  subst h2; intro H locs ls a1 a2 a3 a4
  exact lv_pop2_2 hC.1 hC.2.1 hd rfl (k H locs ls a1 a2 a3 a4)
theorem x_goto (hC : CallFix p m c cc nL s args TT own) {off : Int} (hd : decode cc pc = .ok (.goto off, 3)) (h2 : (pc : Int) + off = (pc2 : Int)) (k : X p l e Rm s m args below meth c Q G D ids β sh nL nc ns N R F A loc (stk) pc2) : X p l e Rm s m args below meth c Q G D ids β sh nL nc ns N R F A loc (stk) pc := by
  intro H locs ls a1 a2 a3 a4; exact lv_goto hC.1 hC.2.1 hd h2 (k H locs ls a1 a2 a3 a4)
theorem x_icmp_eq (hC : CallFix p m c cc nL s args TT own) {x y : Int} {off : Int} (hx : I32 x) (hy : I32 y) (hd : decode cc pc = .ok (.if_icmp .eq off, 3)) (ht : (pc : Int) + off = (tgt : Int)) (h2 : pc + 3 = pc2) (kt : x = y → X p l e Rm s m args below meth c Q G D ids β sh nL nc ns N R F A loc (stk) tgt) (kf : x ≠ y → X p l e Rm s m args below meth c Q G D ids β sh nL nc ns N R F A loc (stk) pc2) : X p l e Rm s m args below meth c Q G D ids β sh nL nc ns N R F A loc (pI y :: pI x :: stk) pc := by
  subst h2; intro H locs ls a1 a2 a3 a4; exact lv_icmp_eq hC.1 hC.2.1 hd ht (fun h => kt ((i32_eq hx hy).mp h) H locs ls a1 a2 a3 a4) (fun h => kf (fun q => h ((i32_eq hx hy).mpr q)) H locs ls a1 a2 a3 a4)
theorem x_if_eq (hC : CallFix p m c cc nL s args TT own) {x : Int} {off : Int} (hx : I32 x) (hd : decode cc pc = .ok (.ifCond .eq off, 3)) (ht : (pc : Int) + off = (tgt : Int)) (h2 : pc + 3 = pc2) (kt : x = 0 → X p l e Rm s m args below meth c Q G D ids β sh nL nc ns N R F A loc (stk) tgt) (kf : x ≠ 0 → X p l e Rm s m args below meth c Q G D ids β sh nL nc ns N R F A loc (stk) pc2) : X p l e Rm s m args below meth c Q G D ids β sh nL nc ns N R F A loc (pI x :: stk) pc := by
  subst h2; have hy : I32 0 := ⟨by omega, by omega⟩; have e0 : (0 : Int32) = Int32.ofInt 0 := rfl; intro H locs ls a1 a2 a3 a4; exact lv_if_eq hC.1 hC.2.1 hd ht (fun h => kt ((i32_eq hx hy).mp h) H locs ls a1 a2 a3 a4) (fun h => kf (fun q => h ((i32_eq hx hy).mpr q)) H locs ls a1 a2 a3 a4)
theorem x_lcmp_eq (hC : CallFix p m c cc nL s args TT own) {x y : Int} {off : Int} (hx : I64 x) (hy : I64 y) (hd : decode cc pc = .ok (.lcmp, 1)) (hd2 : decode cc (pc + 1) = .ok (.ifCond .eq off, 3)) (ht : ((pc + 1 : Nat) : Int) + off = (tgt : Int)) (h2 : pc + 4 = pc2) (kt : x = y → X p l e Rm s m args below meth c Q G D ids β sh nL nc ns N R F A loc (stk) tgt) (kf : x ≠ y → X p l e Rm s m args below meth c Q G D ids β sh nL nc ns N R F A loc (stk) pc2) : X p l e Rm s m args below meth c Q G D ids β sh nL nc ns N R F A loc (pL y :: pL x :: stk) pc := by
  subst h2; intro H locs ls a1 a2 a3 a4; exact W.lcmp hC.1 hC.2.1 hd (lv_if_eq hC.1 hC.2.1 hd2 ht (fun h => kt (by have h := (lgc_eq hx hy).mp h; exact h) H locs ls a1 a2 a3 a4) (fun h => kf (by have h := mt (lgc_eq hx hy).mpr h; omega) H locs ls a1 a2 a3 a4))
theorem x_icmp_ne (hC : CallFix p m c cc nL s args TT own) {x y : Int} {off : Int} (hx : I32 x) (hy : I32 y) (hd : decode cc pc = .ok (.if_icmp .ne off, 3)) (ht : (pc : Int) + off = (tgt : Int)) (h2 : pc + 3 = pc2) (kt : x ≠ y → X p l e Rm s m args below meth c Q G D ids β sh nL nc ns N R F A loc (stk) tgt) (kf : x = y → X p l e Rm s m args below meth c Q G D ids β sh nL nc ns N R F A loc (stk) pc2) : X p l e Rm s m args below meth c Q G D ids β sh nL nc ns N R F A loc (pI y :: pI x :: stk) pc := by
  subst h2; intro H locs ls a1 a2 a3 a4; exact lv_icmp_ne hC.1 hC.2.1 hd ht (fun h => kt (fun q => h ((i32_eq hx hy).mpr q)) H locs ls a1 a2 a3 a4) (fun h => kf ((i32_eq hx hy).mp h) H locs ls a1 a2 a3 a4)
theorem x_if_ne (hC : CallFix p m c cc nL s args TT own) {x : Int} {off : Int} (hx : I32 x) (hd : decode cc pc = .ok (.ifCond .ne off, 3)) (ht : (pc : Int) + off = (tgt : Int)) (h2 : pc + 3 = pc2) (kt : x ≠ 0 → X p l e Rm s m args below meth c Q G D ids β sh nL nc ns N R F A loc (stk) tgt) (kf : x = 0 → X p l e Rm s m args below meth c Q G D ids β sh nL nc ns N R F A loc (stk) pc2) : X p l e Rm s m args below meth c Q G D ids β sh nL nc ns N R F A loc (pI x :: stk) pc := by
  subst h2; have hy : I32 0 := ⟨by omega, by omega⟩; have e0 : (0 : Int32) = Int32.ofInt 0 := rfl; intro H locs ls a1 a2 a3 a4; exact lv_if_ne hC.1 hC.2.1 hd ht (fun h => kt (fun q => h ((i32_eq hx hy).mpr q)) H locs ls a1 a2 a3 a4) (fun h => kf ((i32_eq hx hy).mp h) H locs ls a1 a2 a3 a4)
theorem x_lcmp_ne (hC : CallFix p m c cc nL s args TT own) {x y : Int} {off : Int} (hx : I64 x) (hy : I64 y) (hd : decode cc pc = .ok (.lcmp, 1)) (hd2 : decode cc (pc + 1) = .ok (.ifCond .ne off, 3)) (ht : ((pc + 1 : Nat) : Int) + off = (tgt : Int)) (h2 : pc + 4 = pc2) (kt : x ≠ y → X p l e Rm s m args below meth c Q G D ids β sh nL nc ns N R F A loc (stk) tgt) (kf : x = y → X p l e Rm s m args below meth c Q G D ids β sh nL nc ns N R F A loc (stk) pc2) : X p l e Rm s m args below meth c Q G D ids β sh nL nc ns N R F A loc (pL y :: pL x :: stk) pc := by
  subst h2; intro H locs ls a1 a2 a3 a4; exact W.lcmp hC.1 hC.2.1 hd (lv_if_ne hC.1 hC.2.1 hd2 ht (fun h => kt (by have h := (lgc_ne hx hy).mp h; exact h) H locs ls a1 a2 a3 a4) (fun h => kf (by have h := (lgc_eq hx hy).mp h; omega) H locs ls a1 a2 a3 a4))
theorem x_icmp_lt (hC : CallFix p m c cc nL s args TT own) {x y : Int} {off : Int} (hx : I32 x) (hy : I32 y) (hd : decode cc pc = .ok (.if_icmp .lt off, 3)) (ht : (pc : Int) + off = (tgt : Int)) (h2 : pc + 3 = pc2) (kt : x < y → X p l e Rm s m args below meth c Q G D ids β sh nL nc ns N R F A loc (stk) tgt) (kf : y ≤ x → X p l e Rm s m args below meth c Q G D ids β sh nL nc ns N R F A loc (stk) pc2) : X p l e Rm s m args below meth c Q G D ids β sh nL nc ns N R F A loc (pI y :: pI x :: stk) pc := by
  subst h2; intro H locs ls a1 a2 a3 a4; exact lv_icmp_lt hC.1 hC.2.1 hd ht (fun h => kt ((i32_lt hx hy).mp h) H locs ls a1 a2 a3 a4) (fun h => kf (Int.not_lt.mp (fun q => h ((i32_lt hx hy).mpr q))) H locs ls a1 a2 a3 a4)
theorem x_if_lt (hC : CallFix p m c cc nL s args TT own) {x : Int} {off : Int} (hx : I32 x) (hd : decode cc pc = .ok (.ifCond .lt off, 3)) (ht : (pc : Int) + off = (tgt : Int)) (h2 : pc + 3 = pc2) (kt : x < 0 → X p l e Rm s m args below meth c Q G D ids β sh nL nc ns N R F A loc (stk) tgt) (kf : 0 ≤ x → X p l e Rm s m args below meth c Q G D ids β sh nL nc ns N R F A loc (stk) pc2) : X p l e Rm s m args below meth c Q G D ids β sh nL nc ns N R F A loc (pI x :: stk) pc := by
  subst h2; have hy : I32 0 := ⟨by omega, by omega⟩; have e0 : (0 : Int32) = Int32.ofInt 0 := rfl; intro H locs ls a1 a2 a3 a4; exact lv_if_lt hC.1 hC.2.1 hd ht (fun h => kt ((i32_lt hx hy).mp h) H locs ls a1 a2 a3 a4) (fun h => kf (Int.not_lt.mp (fun q => h ((i32_lt hx hy).mpr q))) H locs ls a1 a2 a3 a4)
theorem x_lcmp_lt (hC : CallFix p m c cc nL s args TT own) {x y : Int} {off : Int} (hx : I64 x) (hy : I64 y) (hd : decode cc pc = .ok (.lcmp, 1)) (hd2 : decode cc (pc + 1) = .ok (.ifCond .lt off, 3)) (ht : ((pc + 1 : Nat) : Int) + off = (tgt : Int)) (h2 : pc + 4 = pc2) (kt : x < y → X p l e Rm s m args below meth c Q G D ids β sh nL nc ns N R F A loc (stk) tgt) (kf : y ≤ x → X p l e Rm s m args below meth c Q G D ids β sh nL nc ns N R F A loc (stk) pc2) : X p l e Rm s m args below meth c Q G D ids β sh nL nc ns N R F A loc (pL y :: pL x :: stk) pc := by
  subst h2; intro H locs ls a1 a2 a3 a4; exact W.lcmp hC.1 hC.2.1 hd (lv_if_lt hC.1 hC.2.1 hd2 ht (fun h => kt (by have h := (lgc_lt hx hy).mp h; exact h) H locs ls a1 a2 a3 a4) (fun h => kf (by have h := mt (lgc_lt hx hy).mpr h; omega) H locs ls a1 a2 a3 a4))
theorem x_icmp_ge (hC : CallFix p m c cc nL s args TT own) {x y : Int} {off : Int} (hx : I32 x) (hy : I32 y) (hd : decode cc pc = .ok (.if_icmp .ge off, 3)) (ht : (pc : Int) + off = (tgt : Int)) (h2 : pc + 3 = pc2) (kt : y ≤ x → X p l e Rm s m args below meth c Q G D ids β sh nL nc ns N R F A loc (stk) tgt) (kf : x < y → X p l e Rm s m args below meth c Q G D ids β sh nL nc ns N R F A loc (stk) pc2) : X p l e Rm s m args below meth c Q G D ids β sh nL nc ns N R F A loc (pI y :: pI x :: stk) pc := by
  subst h2; intro H locs ls a1 a2 a3 a4; exact lv_icmp_ge hC.1 hC.2.1 hd ht (fun h => kt ((i32_le hy hx).mp h) H locs ls a1 a2 a3 a4) (fun h => kf (Int.not_le.mp (fun q => h ((i32_le hy hx).mpr q))) H locs ls a1 a2 a3 a4)
theorem x_if_ge (hC : CallFix p m c cc nL s args TT own) {x : Int} {off : Int} (hx : I32 x) (hd : decode cc pc = .ok (.ifCond .ge off, 3)) (ht : (pc : Int) + off = (tgt : Int)) (h2 : pc + 3 = pc2) (kt : 0 ≤ x → X p l e Rm s m args below meth c Q G D ids β sh nL nc ns N R F A loc (stk) tgt) (kf : x < 0 → X p l e Rm s m args below meth c Q G D ids β sh nL nc ns N R F A loc (stk) pc2) : X p l e Rm s m args below meth c Q G D ids β sh nL nc ns N R F A loc (pI x :: stk) pc := by
  subst h2; have hy : I32 0 := ⟨by omega, by omega⟩; have e0 : (0 : Int32) = Int32.ofInt 0 := rfl; intro H locs ls a1 a2 a3 a4; exact lv_if_ge hC.1 hC.2.1 hd ht (fun h => kt ((i32_le hy hx).mp h) H locs ls a1 a2 a3 a4) (fun h => kf (Int.not_le.mp (fun q => h ((i32_le hy hx).mpr q))) H locs ls a1 a2 a3 a4)
theorem x_lcmp_ge (hC : CallFix p m c cc nL s args TT own) {x y : Int} {off : Int} (hx : I64 x) (hy : I64 y) (hd : decode cc pc = .ok (.lcmp, 1)) (hd2 : decode cc (pc + 1) = .ok (.ifCond .ge off, 3)) (ht : ((pc + 1 : Nat) : Int) + off = (tgt : Int)) (h2 : pc + 4 = pc2) (kt : y ≤ x → X p l e Rm s m args below meth c Q G D ids β sh nL nc ns N R F A loc (stk) tgt) (kf : x < y → X p l e Rm s m args below meth c Q G D ids β sh nL nc ns N R F A loc (stk) pc2) : X p l e Rm s m args below meth c Q G D ids β sh nL nc ns N R F A loc (pL y :: pL x :: stk) pc := by
  subst h2; intro H locs ls a1 a2 a3 a4; exact W.lcmp hC.1 hC.2.1 hd (lv_if_ge hC.1 hC.2.1 hd2 ht (fun h => kt (by have h := (lgc_ge hx hy).mp h; exact h) H locs ls a1 a2 a3 a4) (fun h => kf (by have h := mt (lgc_ge hx hy).mpr h; omega) H locs ls a1 a2 a3 a4))
theorem x_icmp_gt (hC : CallFix p m c cc nL s args TT own) {x y : Int} {off : Int} (hx : I32 x) (hy : I32 y) (hd : decode cc pc = .ok (.if_icmp .gt off, 3)) (ht : (pc : Int) + off = (tgt : Int)) (h2 : pc + 3 = pc2) (kt : y < x → X p l e Rm s m args below meth c Q G D ids β sh nL nc ns N R F A loc (stk) tgt) (kf : x ≤ y → X p l e Rm s m args below meth c Q G D ids β sh nL nc ns N R F A loc (stk) pc2) : X p l e Rm s m args below meth c Q G D ids β sh nL nc ns N R F A loc (pI y :: pI x :: stk) pc := by
  subst h2; intro H locs ls a1 a2 a3 a4; exact lv_icmp_gt hC.1 hC.2.1 hd ht (fun h => kt ((i32_lt hy hx).mp h) H locs ls a1 a2 a3 a4) (fun h => kf (Int.not_lt.mp (fun q => h ((i32_lt hy hx).mpr q))) H locs ls a1 a2 a3 a4)
theorem x_if_gt (hC : CallFix p m c cc nL s args TT own) {x : Int} {off : Int} (hx : I32 x) (hd : decode cc pc = .ok (.ifCond .gt off, 3)) (ht : (pc : Int) + off = (tgt : Int)) (h2 : pc + 3 = pc2) (kt : 0 < x → X p l e Rm s m args below meth c Q G D ids β sh nL nc ns N R F A loc (stk) tgt) (kf : x ≤ 0 → X p l e Rm s m args below meth c Q G D ids β sh nL nc ns N R F A loc (stk) pc2) : X p l e Rm s m args below meth c Q G D ids β sh nL nc ns N R F A loc (pI x :: stk) pc := by
  subst h2; have hy : I32 0 := ⟨by omega, by omega⟩; have e0 : (0 : Int32) = Int32.ofInt 0 := rfl; intro H locs ls a1 a2 a3 a4; exact lv_if_gt hC.1 hC.2.1 hd ht (fun h => kt ((i32_lt hy hx).mp h) H locs ls a1 a2 a3 a4) (fun h => kf (Int.not_lt.mp (fun q => h ((i32_lt hy hx).mpr q))) H locs ls a1 a2 a3 a4)
theorem x_lcmp_gt (hC : CallFix p m c cc nL s args TT own) {x y : Int} {off : Int} (hx : I64 x) (hy : I64 y) (hd : decode cc pc = .ok (.lcmp, 1)) (hd2 : decode cc (pc + 1) = .ok (.ifCond .gt off, 3)) (ht : ((pc + 1 : Nat) : Int) + off = (tgt : Int)) (h2 : pc + 4 = pc2) (kt : y < x → X p l e Rm s m args below meth c Q G D ids β sh nL nc ns N R F A loc (stk) tgt) (kf : x ≤ y → X p l e Rm s m args below meth c Q G D ids β sh nL nc ns N R F A loc (stk) pc2) : X p l e Rm s m args below meth c Q G D ids β sh nL nc ns N R F A loc (pL y :: pL x :: stk) pc := by
  subst h2; intro H locs ls a1 a2 a3 a4; exact W.lcmp hC.1 hC.2.1 hd (lv_if_gt hC.1 hC.2.1 hd2 ht (fun h => kt (by have h := (lgc_gt hx hy).mp h; exact h) H locs ls a1 a2 a3 a4) (fun h => kf (by have h := mt (lgc_gt hx hy).mpr h; omega) H locs ls a1 a2 a3 a4))
theorem x_icmp_le (hC : CallFix p m c cc nL s args TT own) {x y : Int} {off : Int} (hx : I32 x) (hy : I32 y) (hd : decode cc pc = .ok (.if_icmp .le off, 3)) (ht : (pc : Int) + off = (tgt : Int)) (h2 : pc + 3 = pc2) (kt : x ≤ y → X p l e Rm s m args below meth c Q G D ids β sh nL nc ns N R F A loc (stk) tgt) (kf : y < x → X p l e Rm s m args below meth c Q G D ids β sh nL nc ns N R F A loc (stk) pc2) : X p l e Rm s m args below meth c Q G D ids β sh nL nc ns N R F A loc (pI y :: pI x :: stk) pc := by
  subst h2; intro H locs ls a1 a2 a3 a4; exact lv_icmp_le hC.1 hC.2.1 hd ht (fun h => kt ((i32_le hx hy).mp h) H locs ls a1 a2 a3 a4) (fun h => kf (Int.not_le.mp (fun q => h ((i32_le hx hy).mpr q))) H locs ls a1 a2 a3 a4)
theorem x_if_le (hC : CallFix p m c cc nL s args TT own) {x : Int} {off : Int} (hx : I32 x) (hd : decode cc pc = .ok (.ifCond .le off, 3)) (ht : (pc : Int) + off = (tgt : Int)) (h2 : pc + 3 = pc2) (kt : x ≤ 0 → X p l e Rm s m args below meth c Q G D ids β sh nL nc ns N R F A loc (stk) tgt) (kf : 0 < x → X p l e Rm s m args below meth c Q G D ids β sh nL nc ns N R F A loc (stk) pc2) : X p l e Rm s m args below meth c Q G D ids β sh nL nc ns N R F A loc (pI x :: stk) pc := by
  subst h2; have hy : I32 0 := ⟨by omega, by omega⟩; have e0 : (0 : Int32) = Int32.ofInt 0 := rfl; intro H locs ls a1 a2 a3 a4; exact lv_if_le hC.1 hC.2.1 hd ht (fun h => kt ((i32_le hx hy).mp h) H locs ls a1 a2 a3 a4) (fun h => kf (Int.not_le.mp (fun q => h ((i32_le hx hy).mpr q))) H locs ls a1 a2 a3 a4)
theorem x_lcmp_le (hC : CallFix p m c cc nL s args TT own) {x y : Int} {off : Int} (hx : I64 x) (hy : I64 y) (hd : decode cc pc = .ok (.lcmp, 1)) (hd2 : decode cc (pc + 1) = .ok (.ifCond .le off, 3)) (ht : ((pc + 1 : Nat) : Int) + off = (tgt : Int)) (h2 : pc + 4 = pc2) (kt : x ≤ y → X p l e Rm s m args below meth c Q G D ids β sh nL nc ns N R F A loc (stk) tgt) (kf : y < x → X p l e Rm s m args below meth c Q G D ids β sh nL nc ns N R F A loc (stk) pc2) : X p l e Rm s m args below meth c Q G D ids β sh nL nc ns N R F A loc (pL y :: pL x :: stk) pc := by
  subst h2; intro H locs ls a1 a2 a3 a4; exact W.lcmp hC.1 hC.2.1 hd (lv_if_le hC.1 hC.2.1 hd2 ht (fun h => kt (by have h := (lgc_le hx hy).mp h; exact h) H locs ls a1 a2 a3 a4) (fun h => kf (by have h := mt (lgc_le hx hy).mpr h; omega) H locs ls a1 a2 a3 a4))
theorem x_ifp_eq (hC : CallFix p m c cc nL s args TT own) {P : Prop} [Decidable P] {off : Int} (hd : decode cc pc = .ok (.ifCond .eq off, 3)) (ht : (pc : Int) + off = (tgt : Int)) (h2 : pc + 3 = pc2) (kt : ¬ P → X p l e Rm s m args below meth c Q G D ids β sh nL nc ns N R F A loc (stk) tgt) (kf : P → X p l e Rm s m args below meth c Q G D ids β sh nL nc ns N R F A loc (stk) pc2) : X p l e Rm s m args below meth c Q G D ids β sh nL nc ns N R F A loc (pI (if P then 1 else 0) :: stk) pc := by
  refine x_if_eq hC (by split <;> exact ⟨by omega, by omega⟩) hd ht h2 (fun h => kt ?_) (fun h => kf ?_)
  · intro hp; rw [if_pos hp] at h; omega
  · apply Classical.byContradiction; intro hp; rw [if_neg hp] at h; omega
theorem x_ifp_ne (hC : CallFix p m c cc nL s args TT own) {P : Prop} [Decidable P] {off : Int} (hd : decode cc pc = .ok (.ifCond .ne off, 3)) (ht : (pc : Int) + off = (tgt : Int)) (h2 : pc + 3 = pc2) (kt : P → X p l e Rm s m args below meth c Q G D ids β sh nL nc ns N R F A loc (stk) tgt) (kf : ¬ P → X p l e Rm s m args below meth c Q G D ids β sh nL nc ns N R F A loc (stk) pc2) : X p l e Rm s m args below meth c Q G D ids β sh nL nc ns N R F A loc (pI (if P then 1 else 0) :: stk) pc := by
  refine x_if_ne hC (by split <;> exact ⟨by omega, by omega⟩) hd ht h2 (fun h => kt ?_) (fun h => kf ?_)
  · apply Classical.byContradiction; intro hp; rw [if_neg hp] at h; omega
  · intro hp; rw [if_pos hp] at h; omega
theorem x_acmp_eq (hC : CallFix p m c cc nL s args TT own) {rx ry : Option Nat} {off : Int} (hd : decode cc pc = .ok (.if_acmp .eq off, 3)) (ht : (pc : Int) + off = (tgt : Int)) (h2 : pc + 3 = pc2) (kt : rx = ry → X p l e Rm s m args below meth c Q G D ids β sh nL nc ns N R F A loc (stk) tgt) (kf : rx ≠ ry → X p l e Rm s m args below meth c Q G D ids β sh nL nc ns N R F A loc (stk) pc2) : X p l e Rm s m args below meth c Q G D ids β sh nL nc ns N R F A loc (.inr (.inr ry) :: .inr (.inr rx) :: stk) pc := by
  subst h2; intro H locs ls a1 a2 a3 a4
  have inj : rx.map (fun a => β + a) = ry.map (fun a => β + a) ↔ rx = ry := by
    constructor
    · intro h
      cases rx <;> cases ry <;> simp at h ⊢
      exact h
    · rintro rfl; rfl
  exact lv_acmp_eq (rx := rx.map (fun a => β + a)) (ry := ry.map (fun a => β + a)) hC.1 hC.2.1 hd ht (fun h => kt (inj.mp h) H locs ls a1 a2 a3 a4) (fun h => kf (fun q => h (inj.mpr q)) H locs ls a1 a2 a3 a4)
theorem x_less (hC : CallFix p m c cc nL s args TT own) (hl : lle loc loc2) (k : X p l e Rm s m args below meth c Q G D ids β sh nL nc ns N R F A loc2 (stk) pc) : X p l e Rm s m args below meth c Q G D ids β sh nL nc ns N R F A loc (stk) pc := by
  intro H locs ls a1 a2 a3 a4; exact k H locs ls a1 a2 a3 (lv_less a4 (lcl_lle hl))
end XR
