/-- narrowing keeps what fits -/
theorem nar_int (v : Int32) : narrow .int (.int v) = .int v := rfl
theorem nar_bool {v : Int} (h : v = 0 ∨ v = 1) : narrow .boolean (.int (Int32.ofInt v)) = .int (Int32.ofInt v) := by rcases h with rfl | rfl <;> rfl
theorem fk_int {ci j : Nat} (h : fk ci j = 0) : cty ci j = .int := by
  unfold fk at h
  split at h <;> first | assumption | (exact absurd h (by decide)) | (exfalso; split at h <;> cases h)
theorem fk_long {ci j : Nat} (h : fk ci j = 1) : cty ci j = .long := by
  unfold fk at h
  split at h <;> first | assumption | (exact absurd h (by decide)) | (exfalso; split at h <;> cases h)
theorem fk_bool {ci j : Nat} (h : fk ci j = 3) : cty ci j = .boolean := by
  unfold fk at h
  split at h <;> first | assumption | (exact absurd h (by decide)) | (exfalso; split at h <;> cases h)
section XF
variable {p : Program} {l : Launch} {e : Env} {Rm : Room} {s : State} {m : MethodId} {args : Array Value} {below : List Frame} {meth : Method} {c : Code} {Q : State → Prop} {G : Nat → Prop} {D : va_G} {ids : Nat → ClassId} {β : Nat} {sh : Nat → Nat × Nat} {nL nc ns N : Nat} {R : Nat → Nat → Option Nat} {F : Nat → Nat → Int} {A : Nat → Int → Int} {loc loc2 : List (Option PV)} {stk : List PV} {pc pc2 tgt : Nat} {cc : ByteArray} {own : String}
theorem xg_int (hC : CallFix p m c cc nL s args TT own) {ci j idx a : Nat} {ref : String} (hK : KN D ids s) (hci : ci < 9) (hj : j < cN ci) (hlink : Cond.fieldLink own idx ref (cT ci j).2.1 (cT ci j).2.2.1 ∈ TT) (href : (cT ci j).1 = ref) (hkd : fk ci j = 0) (ha : a < N) (hsh : sh a = (0, ci))  (hd : decode cc pc = .ok (.getfield idx, 3)) (h2 : pc + 3 = pc2) (k : X p l e Rm s m args below meth c Q G D ids β sh nL nc ns N R F A loc (pI (F a j) :: stk) pc2) : X p l e Rm s m args below meth c Q G D ids β sh nL nc ns N R F A loc (rf a :: stk) pc := by
  subst h2; subst href; intro H locs ls a1 a2 a3 a4
  refine va_get (tys := tys4 ids) hC.1 hC.2.1 hC.2.2.2.2 (cin_ok hci) hC.2.2.2.1 hK.1 a1 a (by rw [mkW_get ha, celE_obj hsh]) (cl9_get hci) j hj (hC.2.2.2.2 _ hlink) (fun _ h => h) (fvs_get hj) hd ?_
  rw [hkd]
  exact k H locs ls a1 a2 a3 a4
theorem xg_long (hC : CallFix p m c cc nL s args TT own) {ci j idx a : Nat} {ref : String} (hK : KN D ids s) (hci : ci < 9) (hj : j < cN ci) (hlink : Cond.fieldLink own idx ref (cT ci j).2.1 (cT ci j).2.2.1 ∈ TT) (href : (cT ci j).1 = ref) (hkd : fk ci j = 1) (ha : a < N) (hsh : sh a = (0, ci))  (hd : decode cc pc = .ok (.getfield idx, 3)) (h2 : pc + 3 = pc2) (k : X p l e Rm s m args below meth c Q G D ids β sh nL nc ns N R F A loc (pL (F a j) :: stk) pc2) : X p l e Rm s m args below meth c Q G D ids β sh nL nc ns N R F A loc (rf a :: stk) pc := by
  subst h2; subst href; intro H locs ls a1 a2 a3 a4
  refine va_get (tys := tys4 ids) hC.1 hC.2.1 hC.2.2.2.2 (cin_ok hci) hC.2.2.2.1 hK.1 a1 a (by rw [mkW_get ha, celE_obj hsh]) (cl9_get hci) j hj (hC.2.2.2.2 _ hlink) (fun _ h => h) (fvs_get hj) hd ?_
  rw [hkd]
  exact k H locs ls a1 a2 a3 a4
theorem xg_bool (hC : CallFix p m c cc nL s args TT own) {ci j idx a : Nat} {ref : String} (hK : KN D ids s) (hci : ci < 9) (hj : j < cN ci) (hlink : Cond.fieldLink own idx ref (cT ci j).2.1 (cT ci j).2.2.1 ∈ TT) (href : (cT ci j).1 = ref) (hkd : fk ci j = 3) (ha : a < N) (hsh : sh a = (0, ci))  (hd : decode cc pc = .ok (.getfield idx, 3)) (h2 : pc + 3 = pc2) (k : X p l e Rm s m args below meth c Q G D ids β sh nL nc ns N R F A loc (pI (F a j) :: stk) pc2) : X p l e Rm s m args below meth c Q G D ids β sh nL nc ns N R F A loc (rf a :: stk) pc := by
  subst h2; subst href; intro H locs ls a1 a2 a3 a4
  refine va_get (tys := tys4 ids) hC.1 hC.2.1 hC.2.2.2.2 (cin_ok hci) hC.2.2.2.1 hK.1 a1 a (by rw [mkW_get ha, celE_obj hsh]) (cl9_get hci) j hj (hC.2.2.2.2 _ hlink) (fun _ h => h) (fvs_get hj) hd ?_
  rw [hkd]
  exact k H locs ls a1 a2 a3 a4
theorem xg_ref (hC : CallFix p m c cc nL s args TT own) {ci j idx a : Nat} {ref : String} (hK : KN D ids s) (hci : ci < 9) (hj : j < cN ci) (hlink : Cond.fieldLink own idx ref (cT ci j).2.1 (cT ci j).2.2.1 ∈ TT) (href : (cT ci j).1 = ref) (hkd : fk ci j = 2) (ha : a < N) (hsh : sh a = (0, ci)) {b : Nat} (hv : R a j = some b) (hd : decode cc pc = .ok (.getfield idx, 3)) (h2 : pc + 3 = pc2) (k : X p l e Rm s m args below meth c Q G D ids β sh nL nc ns N R F A loc (rf b :: stk) pc2) : X p l e Rm s m args below meth c Q G D ids β sh nL nc ns N R F A loc (rf a :: stk) pc := by
  subst h2; subst href; intro H locs ls a1 a2 a3 a4
  refine va_get (tys := tys4 ids) hC.1 hC.2.1 hC.2.2.2.2 (cin_ok hci) hC.2.2.2.1 hK.1 a1 a (by rw [mkW_get ha, celE_obj hsh]) (cl9_get hci) j hj (hC.2.2.2.2 _ hlink) (fun _ h => h) (fvs_get hj) hd ?_
  rw [hkd]
  rw [show fv β R F a 2 j = va_rf ((R a j).map (fun a => β + a)) from rfl, hv]
  exact k H locs ls a1 a2 a3 a4
theorem xg_mut (hC : CallFix p m c cc nL s args TT own) {ci j idx a : Nat} {ref : String} (hK : KN D ids s) (hci : ci < 9) (hj : j < cN ci) (hlink : Cond.fieldLink own idx ref (cT ci j).2.1 (cT ci j).2.2.1 ∈ TT) (href : (cT ci j).1 = ref) (hkd : fk ci j = 4) (ha : a < N) (hsh : sh a = (0, ci)) {b : Nat} (hv : F a j = (b : Int)) (hd : decode cc pc = .ok (.getfield idx, 3)) (h2 : pc + 3 = pc2) (k : X p l e Rm s m args below meth c Q G D ids β sh nL nc ns N R F A loc (rf b :: stk) pc2) : X p l e Rm s m args below meth c Q G D ids β sh nL nc ns N R F A loc (rf a :: stk) pc := by
  subst h2; subst href; intro H locs ls a1 a2 a3 a4
  refine va_get (tys := tys4 ids) hC.1 hC.2.1 hC.2.2.2.2 (cin_ok hci) hC.2.2.2.1 hK.1 a1 a (by rw [mkW_get ha, celE_obj hsh]) (cl9_get hci) j hj (hC.2.2.2.2 _ hlink) (fun _ h => h) (fvs_get hj) hd ?_
  rw [hkd]
  rw [show fv β R F a 4 j = (if F a j < 0 then .null else .ref (β + (F a j).toNat)) from rfl, hv, if_neg (by omega)]
  exact k H locs ls a1 a2 a3 a4
theorem xp_int (hC : CallFix p m c cc nL s args TT own) {ci j idx a : Nat} {ref : String} (hK : KN D ids s) (hci : ci < 9) (hj : j < cN ci) (hlink : Cond.fieldLink own idx ref (cT ci j).2.1 (cT ci j).2.2.1 ∈ TT) (href : (cT ci j).1 = ref) (hkd : fk ci j = 0) (hfin : (cT ci j).2.2.2 = false) (ha : a < N) (hsh : sh a = (0, ci)) {x : Int} (hd : decode cc pc = .ok (.putfield idx, 3)) (h2 : pc + 3 = pc2) (k : X p l e Rm s m args below meth c Q G D ids β sh nL nc ns N R (uF F a j x) A loc (stk) pc2) : X p l e Rm s m args below meth c Q G D ids β sh nL nc ns N R F A loc (pI x :: rf a :: stk) pc := by
  subst h2; subst href; intro H locs ls a1 a2 a3 a4
  refine va_put (tys := tys4 ids) (ty := cty ci j) (v := Value.int (Int32.ofInt x)) hC.1 hC.2.1 hC.2.2.2.2 (cin_ok hci) (cty ci) (cty_ok hci) (cnm_ok hci) hC.2.2.2.1 hK.1 a1 (mkW_D a3) a2 a (by rw [mkW_get ha, celE_obj hsh]) (cl9_get hci) j hj (hC.2.2.2.2 _ hlink) (fun _ h => h) hfin (cty_ok hci j hj) (by rw [fk_int hkd]; rfl) (by rw [fk_int hkd]; rfl) (by rw [fvs_len]; exact hj) hd (fun H1 locs1 b1 b2 b3 => ?_)
  have e : (mkW β N (celE β ids sh R F A)).set a (β + a, .inr (ci, (fvs β R F a ci).set j (Value.int (Int32.ofInt x)))) = mkW β N (celE β ids sh R (uF F a j x) A) := by
    rw [fvs_set (R' := R) (F' := (uF F a j x)) hj (by rw [hkd]; simp only [fv, uF_eq]) (fun i kd h => fv_uF h), ← celE_obj (ids := ids) (sh := sh) (A := A) hsh]
    exact mkW_set (fun j h => celE_F (uF_ne h))
  exact k H1 locs1 ls (e ▸ b1) b3 a3 a4
theorem xp_bool (hC : CallFix p m c cc nL s args TT own) {ci j idx a : Nat} {ref : String} (hK : KN D ids s) (hci : ci < 9) (hj : j < cN ci) (hlink : Cond.fieldLink own idx ref (cT ci j).2.1 (cT ci j).2.2.1 ∈ TT) (href : (cT ci j).1 = ref) (hkd : fk ci j = 3) (hfin : (cT ci j).2.2.2 = false) (ha : a < N) (hsh : sh a = (0, ci)) {x : Int} (hx : x = 0 ∨ x = 1) (hd : decode cc pc = .ok (.putfield idx, 3)) (h2 : pc + 3 = pc2) (k : X p l e Rm s m args below meth c Q G D ids β sh nL nc ns N R (uF F a j x) A loc (stk) pc2) : X p l e Rm s m args below meth c Q G D ids β sh nL nc ns N R F A loc (pI x :: rf a :: stk) pc := by
  subst h2; subst href; intro H locs ls a1 a2 a3 a4
  refine va_put (tys := tys4 ids) (ty := cty ci j) (v := Value.int (Int32.ofInt x)) hC.1 hC.2.1 hC.2.2.2.2 (cin_ok hci) (cty ci) (cty_ok hci) (cnm_ok hci) hC.2.2.2.1 hK.1 a1 (mkW_D a3) a2 a (by rw [mkW_get ha, celE_obj hsh]) (cl9_get hci) j hj (hC.2.2.2.2 _ hlink) (fun _ h => h) hfin (cty_ok hci j hj) (by rw [fk_bool hkd]; exact nar_bool hx) (by rw [fk_bool hkd]; rcases hx with rfl | rfl <;> rfl) (by rw [fvs_len]; exact hj) hd (fun H1 locs1 b1 b2 b3 => ?_)
  have e : (mkW β N (celE β ids sh R F A)).set a (β + a, .inr (ci, (fvs β R F a ci).set j (Value.int (Int32.ofInt x)))) = mkW β N (celE β ids sh R (uF F a j x) A) := by
    rw [fvs_set (R' := R) (F' := (uF F a j x)) hj (by rw [hkd]; simp only [fv, uF_eq]) (fun i kd h => fv_uF h), ← celE_obj (ids := ids) (sh := sh) (A := A) hsh]
    exact mkW_set (fun j h => celE_F (uF_ne h))
  exact k H1 locs1 ls (e ▸ b1) b3 a3 a4
theorem xp_long (hC : CallFix p m c cc nL s args TT own) {ci j idx a : Nat} {ref : String} (hK : KN D ids s) (hci : ci < 9) (hj : j < cN ci) (hlink : Cond.fieldLink own idx ref (cT ci j).2.1 (cT ci j).2.2.1 ∈ TT) (href : (cT ci j).1 = ref) (hkd : fk ci j = 1) (hfin : (cT ci j).2.2.2 = false) (ha : a < N) (hsh : sh a = (0, ci)) {x : Int} (hd : decode cc pc = .ok (.putfield idx, 3)) (h2 : pc + 3 = pc2) (k : X p l e Rm s m args below meth c Q G D ids β sh nL nc ns N R (uF F a j x) A loc (stk) pc2) : X p l e Rm s m args below meth c Q G D ids β sh nL nc ns N R F A loc (pL x :: rf a :: stk) pc := by
  subst h2; subst href; intro H locs ls a1 a2 a3 a4
  refine va_put (tys := tys4 ids) (ty := cty ci j) (v := Value.long (Int64.ofInt x)) hC.1 hC.2.1 hC.2.2.2.2 (cin_ok hci) (cty ci) (cty_ok hci) (cnm_ok hci) hC.2.2.2.1 hK.1 a1 (mkW_D a3) a2 a (by rw [mkW_get ha, celE_obj hsh]) (cl9_get hci) j hj (hC.2.2.2.2 _ hlink) (fun _ h => h) hfin (cty_ok hci j hj) (by rw [fk_long hkd]; rfl) (by rw [fk_long hkd]; rfl) (by rw [fvs_len]; exact hj) hd (fun H1 locs1 b1 b2 b3 => ?_)
  have e : (mkW β N (celE β ids sh R F A)).set a (β + a, .inr (ci, (fvs β R F a ci).set j (Value.long (Int64.ofInt x)))) = mkW β N (celE β ids sh R (uF F a j x) A) := by
    rw [fvs_set (R' := R) (F' := (uF F a j x)) hj (by rw [hkd]; simp only [fv, uF_eq]) (fun i kd h => fv_uF h), ← celE_obj (ids := ids) (sh := sh) (A := A) hsh]
    exact mkW_set (fun j h => celE_F (uF_ne h))
  exact k H1 locs1 ls (e ▸ b1) b3 a3 a4
theorem xp_mut (hC : CallFix p m c cc nL s args TT own) {ci j idx a : Nat} {ref : String} (hK : KN D ids s) (hci : ci < 9) (hj : j < cN ci) (hlink : Cond.fieldLink own idx ref (cT ci j).2.1 (cT ci j).2.2.1 ∈ TT) (href : (cT ci j).1 = ref) (hkd : fk ci j = 4) (hfin : (cT ci j).2.2.2 = false) (ha : a < N) (hsh : sh a = (0, ci)) {b : Nat} (hty : ∃ n, cty ci j = .object n) (hd : decode cc pc = .ok (.putfield idx, 3)) (h2 : pc + 3 = pc2) (k : X p l e Rm s m args below meth c Q G D ids β sh nL nc ns N R (uF F a j (b : Int)) A loc (stk) pc2) : X p l e Rm s m args below meth c Q G D ids β sh nL nc ns N R F A loc (rf b :: rf a :: stk) pc := by
  subst h2; subst href; intro H locs ls a1 a2 a3 a4
  refine va_put (tys := tys4 ids) (ty := cty ci j) (v := Value.ref (β + b)) hC.1 hC.2.1 hC.2.2.2.2 (cin_ok hci) (cty ci) (cty_ok hci) (cnm_ok hci) hC.2.2.2.1 hK.1 a1 (mkW_D a3) a2 a (by rw [mkW_get ha, celE_obj hsh]) (cl9_get hci) j hj (hC.2.2.2.2 _ hlink) (fun _ h => h) hfin (cty_ok hci j hj) (by obtain ⟨n, e⟩ := hty; rw [e]; rfl) (by obtain ⟨n, e⟩ := hty; rw [e]; rfl) (by rw [fvs_len]; exact hj) hd (fun H1 locs1 b1 b2 b3 => ?_)
  have e : (mkW β N (celE β ids sh R F A)).set a (β + a, .inr (ci, (fvs β R F a ci).set j (Value.ref (β + b)))) = mkW β N (celE β ids sh R (uF F a j (b : Int)) A) := by
    rw [fvs_set (R' := R) (F' := (uF F a j (b : Int))) hj (by rw [hkd]; simp only [fv, uF_eq]; rw [if_neg (by omega), Int.toNat_natCast]) (fun i kd h => fv_uF h), ← celE_obj (ids := ids) (sh := sh) (A := A) hsh]
    exact mkW_set (fun j h => celE_F (uF_ne h))
  exact k H1 locs1 ls (e ▸ b1) b3 a3 a4
theorem xp_ref (hC : CallFix p m c cc nL s args TT own) {ci j idx a : Nat} {ref : String} (hK : KN D ids s) (hci : ci < 9) (hj : j < cN ci) (hlink : Cond.fieldLink own idx ref (cT ci j).2.1 (cT ci j).2.2.1 ∈ TT) (href : (cT ci j).1 = ref) (hkd : fk ci j = 2) (hfin : (cT ci j).2.2.2 = true) (hin : meth.name = "<init>") (hdecl : (cT ci j).1 = own) (ha : a < N) (hsh : sh a = (0, ci)) {b : Nat} (hty : (∃ n, cty ci j = .object n) ∨ ∃ t, cty ci j = .array t) (hd : decode cc pc = .ok (.putfield idx, 3)) (h2 : pc + 3 = pc2) (k : X p l e Rm s m args below meth c Q G D ids β sh nL nc ns N (uR R a j (some b)) F A loc (stk) pc2) : X p l e Rm s m args below meth c Q G D ids β sh nL nc ns N R F A loc (rf b :: rf a :: stk) pc := by
  subst h2; subst href; intro H locs ls a1 a2 a3 a4
  refine va_putF (tys := tys4 ids) (ty := cty ci j) (v := Value.ref (β + b)) hC.1 hC.2.1 hC.2.2.2.2 (cin_ok hci) (cty ci) (cty_ok hci) (cnm_ok hci) hC.2.2.2.1 hK.1 a1 (mkW_D a3) a2 a (by rw [mkW_get ha, celE_obj hsh]) (cl9_get hci) j hj (hC.2.2.2.2 _ hlink) (fun _ h => h) hfin hin hdecl (cty_ok hci j hj) (by rcases hty with ⟨n, e⟩ | ⟨n, e⟩ <;> rw [e] <;> rfl) (by rcases hty with ⟨n, e⟩ | ⟨n, e⟩ <;> rw [e] <;> rfl) (by rw [fvs_len]; exact hj) hd (fun H1 locs1 b1 b2 b3 => ?_)
  have e : (mkW β N (celE β ids sh R F A)).set a (β + a, .inr (ci, (fvs β R F a ci).set j (Value.ref (β + b)))) = mkW β N (celE β ids sh (uR R a j (some b)) F A) := by
    rw [fvs_set (R' := (uR R a j (some b))) (F' := F) hj (by rw [hkd]; simp only [fv, uR_eq]; rfl) (fun i kd h => fv_uR h), ← celE_obj (ids := ids) (sh := sh) (A := A) hsh]
    exact mkW_set (fun j h => celE_R (uR_ne h))
  exact k H1 locs1 ls (e ▸ b1) b3 a3 a4
theorem updI_eq {f : Int → Int} {i x : Int} (h : 0 ≤ i) (h2 : i ≤ 2147483647) : upd (fun j : Nat => Int32.ofInt (f j)) (Int32.ofInt i).toNatClampNeg (Int32.ofInt x) = fun j : Nat => Int32.ofInt (if (j : Int) = i then x else f j) := by
  funext j
  rw [i32_clamp h h2]
  simp only [upd]
  by_cases e : j = i.toNat
  · rw [if_pos e, if_pos (by omega)]
  · rw [if_neg e, if_neg (by omega)]
theorem updL_eq {f : Int → Int} {i x : Int} (h : 0 ≤ i) (h2 : i ≤ 2147483647) : vp_updL (fun j : Nat => Int64.ofInt (f j)) (Int32.ofInt i).toNatClampNeg (Int64.ofInt x) = fun j : Nat => Int64.ofInt (if (j : Int) = i then x else f j) := by
  funext j
  rw [i32_clamp h h2]
  simp only [vp_updL]
  by_cases e : j = i.toNat
  · rw [if_pos e, if_pos (by omega)]
  · rw [if_neg e, if_neg (by omega)]
theorem x_iald (hC : CallFix p m c cc nL s args TT own) {a n : Nat} {i : Int} (hK : KN D ids s) (ha : a < N) (hsh : sh a = (1, n)) (hi : 0 ≤ i ∧ i < n) (hn : n ≤ 2147483647) (hd : decode cc pc = .ok (.iaload, 1)) (h2 : pc + 1 = pc2) (k : X p l e Rm s m args below meth c Q G D ids β sh nL nc ns N R F A loc (pI (A a i) :: stk) pc2) : X p l e Rm s m args below meth c Q G D ids β sh nL nc ns N R F A loc (pI i :: rf a :: stk) pc := by
  subst h2; intro H locs ls a1 a2 a3 a4
  refine va_iald (n := n) hC.1 hC.2.1 hK.1 a1 a 0 (by rw [mkW_get ha, celE_int hsh]) rfl (i32_inI hi.1 hi.2 (by omega)) hd ?_
  rw [i32_clamp hi.1 (by omega), Int.toNat_of_nonneg hi.1]
  exact k H locs ls a1 a2 a3 a4
theorem x_lald (hC : CallFix p m c cc nL s args TT own) {a n : Nat} {i : Int} (hK : KN D ids s) (ha : a < N) (hsh : sh a = (2, n)) (hi : 0 ≤ i ∧ i < n) (hn : n ≤ 2147483647) (hd : decode cc pc = .ok (.laload, 1)) (h2 : pc + 1 = pc2) (k : X p l e Rm s m args below meth c Q G D ids β sh nL nc ns N R F A loc (pL (A a i) :: stk) pc2) : X p l e Rm s m args below meth c Q G D ids β sh nL nc ns N R F A loc (pI i :: rf a :: stk) pc := by
  subst h2; intro H locs ls a1 a2 a3 a4
  refine va_lald (n := n) hC.1 hC.2.1 hK.1 a1 a 1 (by rw [mkW_get ha, celE_long hsh]) rfl (i32_inI hi.1 hi.2 (by omega)) hd ?_
  rw [i32_clamp hi.1 (by omega), Int.toNat_of_nonneg hi.1]
  exact k H locs ls a1 a2 a3 a4
theorem x_iast (hC : CallFix p m c cc nL s args TT own) {a n : Nat} {i : Int} (hK : KN D ids s) (ha : a < N) (hsh : sh a = (1, n)) (hi : 0 ≤ i ∧ i < n) (hn : n ≤ 2147483647) {x : Int} (hd : decode cc pc = .ok (.iastore, 1)) (h2 : pc + 1 = pc2) (k : X p l e Rm s m args below meth c Q G D ids β sh nL nc ns N R F (uA A a i x) loc (stk) pc2) : X p l e Rm s m args below meth c Q G D ids β sh nL nc ns N R F A loc (pI x :: pI i :: rf a :: stk) pc := by
  subst h2; intro H locs ls a1 a2 a3 a4
  refine va_iast hC.1 hC.2.1 hK.1 a1 (mkW_D a3) a2 a 0 (n := n) (by rw [mkW_get ha, celE_int hsh]) rfl (i32_inI hi.1 hi.2 (by omega)) hd (fun H1 locs1 b1 b2 b3 => ?_)
  rw [updI_eq hi.1 (by omega)] at b1
  have e : celE β ids sh R F (uA A a i x) a = _ := celE_int hsh
  simp only [uA_at] at e
  rw [← e, mkW_set (fun j h => celE_A (uA_ne h))] at b1
  exact k H1 locs1 ls b1 b3 a3 a4
theorem x_last (hC : CallFix p m c cc nL s args TT own) {a n : Nat} {i : Int} (hK : KN D ids s) (ha : a < N) (hsh : sh a = (2, n)) (hi : 0 ≤ i ∧ i < n) (hn : n ≤ 2147483647) {x : Int} (hd : decode cc pc = .ok (.lastore, 1)) (h2 : pc + 1 = pc2) (k : X p l e Rm s m args below meth c Q G D ids β sh nL nc ns N R F (uA A a i x) loc (stk) pc2) : X p l e Rm s m args below meth c Q G D ids β sh nL nc ns N R F A loc (pL x :: pI i :: rf a :: stk) pc := by
  subst h2; intro H locs ls a1 a2 a3 a4
  refine va_last hC.1 hC.2.1 hK.1 a1 (mkW_D a3) a2 a 1 (n := n) (by rw [mkW_get ha, celE_long hsh]) rfl (i32_inI hi.1 hi.2 (by omega)) hd (fun H1 locs1 b1 b2 b3 => ?_)
  rw [updL_eq hi.1 (by omega)] at b1
  have e : celE β ids sh R F (uA A a i x) a = _ := celE_long hsh
  simp only [uA_at] at e
  rw [← e, mkW_set (fun j h => celE_A (uA_ne h))] at b1
  exact k H1 locs1 ls b1 b3 a3 a4
theorem x_aald (hC : CallFix p m c cc nL s args TT own) {a n b t : Nat} {i : Int} (hK : KN D ids s) (ha : a < N) (hsh : sh a = (t + 3, n)) (hi : 0 ≤ i ∧ i < n) (hn : n ≤ 2147483647) (hv : R a i.toNat = some b) (hd : decode cc pc = .ok (.aaload, 1)) (h2 : pc + 1 = pc2) (k : X p l e Rm s m args below meth c Q G D ids β sh nL nc ns N R F A loc (rf b :: stk) pc2) : X p l e Rm s m args below meth c Q G D ids β sh nL nc ns N R F A loc (pI i :: rf a :: stk) pc := by
  subst h2; intro H locs ls a1 a2 a3 a4
  obtain ⟨w, hw, e⟩ := celE_ref (β := β) (ids := ids) (R := R) (F := F) (A := A) hsh
  rcases hw with rfl | rfl
  · refine va_aldq (n := n) hC.1 hC.2.1 hK.1 a1 a 2 (by rw [mkW_get ha, e]) rfl (i32_inI hi.1 hi.2 (by omega)) hd ?_
    rw [i32_clamp hi.1 (by omega), hv]
    exact k H locs ls a1 a2 a3 a4
  · refine va_aldq (n := n) hC.1 hC.2.1 hK.1 a1 a 3 (by rw [mkW_get ha, e]) rfl (i32_inI hi.1 hi.2 (by omega)) hd ?_
    rw [i32_clamp hi.1 (by omega), hv]
    exact k H locs ls a1 a2 a3 a4
theorem x_alenR (hC : CallFix p m c cc nL s args TT own) {a n t : Nat} (hK : KN D ids s) (ha : a < N) (hsh : sh a = (t + 3, n)) (hd : decode cc pc = .ok (.arraylength, 1)) (h2 : pc + 1 = pc2) (k : X p l e Rm s m args below meth c Q G D ids β sh nL nc ns N R F A loc (pI n :: stk) pc2) : X p l e Rm s m args below meth c Q G D ids β sh nL nc ns N R F A loc (rf a :: stk) pc := by
  subst h2; intro H locs ls a1 a2 a3 a4
  obtain ⟨w, hw, e⟩ := celE_ref (β := β) (ids := ids) (R := R) (F := F) (A := A) hsh
  rcases hw with rfl | rfl
  · exact va_alen (v := Int32.ofInt n) (x := (n, .inr (.inr (.inr (.inr (fun j => (R a j).map (fun a => β + a))))))) hC.1 hC.2.1 hK.1 a1 a 2 (by rw [mkW_get ha, e]) rfl rfl hd (k H locs ls a1 a2 a3 a4)
  · exact va_alen (v := Int32.ofInt n) (x := (n, .inr (.inr (.inr (.inr (fun j => (R a j).map (fun a => β + a))))))) hC.1 hC.2.1 hK.1 a1 a 3 (by rw [mkW_get ha, e]) rfl rfl hd (k H locs ls a1 a2 a3 a4)
end XF
