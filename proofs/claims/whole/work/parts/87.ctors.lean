/-! CONSTRUCTORS: Whole, Gauss, Ratio, and rows of them -/
theorem rwL_none {L : List (Option Nat)} {j : Nat} (h : L.length ≤ j) : rwL L j = none := by
  unfold rwL
  rw [List.getD_eq_getElem?_getD, List.getElem?_eq_none h]
  rfl
theorem dF0 {ci j : Nat} (h : ci ≠ 3) : dF ci j = 0 := by simp [dF, h]
section XQ
variable {p : Program} {l : Launch} {e : Env} {Rm : Room} {s : State} {m : MethodId} {args : Array Value} {below : List Frame} {meth : Method} {c : Code} {Q : State → Prop} {G : Nat → Prop} {D : va_G} {ids : Nat → ClassId} {β : Nat} {sh : Nat → Nat × Nat} {nL nc ns N nc2 ns2 N2 N0 : Nat} {R R2 : Nat → Nat → Option Nat} {F : Nat → Nat → Int} {A : Nat → Int → Int} {loc loc2 : List (Option PV)} {stk : List PV} {pc pc2 tgt : Nat} {cc : ByteArray} {own : String}
/-- an answer that is the reference a -/
def pRr (a : Nat) (P : (Nat → Nat → Int) → (Nat → Int → Int) → Prop) : Option PV → (Nat → Nat → Int) → (Nat → Int → Int) → Prop := fun r F A => r = some (rf a) ∧ P F A
theorem x_cI (hC : CallFix p m c cc nL s args TT own) {y : MethodName} {bytes : ByteArray} {maxL fr lo idx n mc ms N3 : Nat} {av : List PV} {stk2 : List PV} {P : (Nat → Nat → Int) → (Nat → Int → Int) → Prop} {b : Nat} (hK : KN D ids s) (hz : s.heap.size = β + N0) (hN : N = N0 + nc) (hM : MetN l y bytes maxL none fr lo mc ms D ids β sh N N3 R R2 F A (rf b :: av) (pVr P)) (hL : LinkI own idx y bytes maxL n) (hn : av.length = n) (hR : fr + 1 ≤ Rm.frames ∧ 8 + (maxL + 11) + lo ≤ Rm.locals) (e1 : nc + mc = nc2) (e2 : ns + ms = ns2) (e3 : N3 = N2) (hcs : nc2 ≤ Rm.cells ∧ ns2 ≤ Rm.slots)
    (hs : av.reverse ++ rf b :: stk = stk2) (hsm : (stk.map fun v => (tv β v).category).sum ≤ 8) (hd : decode cc pc = .ok (.invokespecial idx, 3)) (h2 : pc + 3 = pc2)
    (kk : ∀ (F' : Nat → Nat → Int) (A' : Nat → Int → Int), P F' A' → X p l e Rm s m args below meth c Q (inH β) D ids β sh nL nc2 ns2 N2 R2 F' A' loc stk pc2) : X p l e Rm s m args below meth c Q (inH β) D ids β sh nL nc ns N R F A loc (stk2) pc := by
  refine x_callI hC hK hz hN hM hL hn hR e1 e2 e3 hcs hs hsm hd h2 ?_
  rintro r F1 A1 ⟨rfl, hp⟩
  exact kk F1 A1 hp
theorem x_cSR (hC : CallFix p m c cc nL s args TT own) {y : MethodName} {bytes : ByteArray} {maxL fr lo idx n mc ms N3 a : Nat} {ret : Option FieldType} {av : List PV} {stk2 : List PV} {P : (Nat → Nat → Int) → (Nat → Int → Int) → Prop} (hK : KN D ids s) (hz : s.heap.size = β + N0) (hN : N = N0 + nc) (hM : MetN l y bytes maxL ret fr lo mc ms D ids β sh N N3 R R2 F A av (pRr a P)) (hL : LinkS own idx y bytes maxL ret n) (hn : av.length = n) (hR : fr + 1 ≤ Rm.frames ∧ 8 + (maxL + 11) + lo ≤ Rm.locals) (e1 : nc + mc = nc2) (e2 : ns + ms = ns2) (e3 : N3 = N2) (hcs : nc2 ≤ Rm.cells ∧ ns2 ≤ Rm.slots)
    (hs : av.reverse ++ stk = stk2) (hsm : (stk.map fun v => (tv β v).category).sum ≤ 8) (hd : decode cc pc = .ok (.invokestatic idx, 3)) (h2 : pc + 3 = pc2)
    (kk : ∀ (F' : Nat → Nat → Int) (A' : Nat → Int → Int), P F' A' → X p l e Rm s m args below meth c Q (inH β) D ids β sh nL nc2 ns2 N2 R2 F' A' loc (rf a :: stk) pc2) : X p l e Rm s m args below meth c Q (inH β) D ids β sh nL nc ns N R F A loc (stk2) pc := by
  refine x_callSN hC hK hz hN hM hL hn hR e1 e2 e3 hcs hs hsm hd h2 ?_
  rintro r F1 A1 ⟨rfl, hp⟩
  exact kk F1 A1 hp
end XQ
/-- two worlds are alike in the cells from a to below b -/
def Eqv (R : Nat → Nat → Option Nat) (F : Nat → Nat → Int) (A : Nat → Int → Int) (R' : Nat → Nat → Option Nat) (F' : Nat → Nat → Int) (A' : Nat → Int → Int) (a b : Nat) : Prop := ∀ k, a ≤ k → k < b → R' k = R k ∧ F' k = F k ∧ A' k = A k
theorem Eqv.sub {R R' : Nat → Nat → Option Nat} {F F' : Nat → Nat → Int} {A A' : Nat → Int → Int} {a b c d : Nat} (h : Eqv R F A R' F' A' a b) (h1 : a ≤ c) (h2 : d ≤ b) : Eqv R F A R' F' A' c d := fun k x y => h k (by omega) (by omega)
theorem Eqv.m {R : Nat → Nat → Option Nat} {F : Nat → Nat → Int} {A : Nat → Int → Int} {o n a b : Nat} (h : o < a ∨ b ≤ o) : Eqv R F A (mR R o n) F A a b := fun k x y => ⟨mR_ne (by omega), rfl, rfl⟩
/-- a Whole's cells, as they are made -/
def WhN (sh : Nat → Nat × Nat) (R : Nat → Nat → Option Nat) (F : Nat → Nat → Int) (A : Nat → Int → Int) (w : Nat) : Prop := sh w = (0, 6) ∧ sh (w + 1) = (1, 80) ∧ R w = rwL [none, none, some (w + 1)] ∧ (∀ j, F w j = 0) ∧ (∀ j : Nat, A (w + 1) (j : Int) = 0)
theorem WhN.eqv {sh : Nat → Nat × Nat} {R R' : Nat → Nat → Option Nat} {F F' : Nat → Nat → Int} {A A' : Nat → Int → Int} {w : Nat} (h : WhN sh R F A w) (k : Eqv R F A R' F' A' w (w + 2)) : WhN sh R' F' A' w := by
  obtain ⟨h1, h2, h3, h4, h5⟩ := h
  obtain ⟨a1, a2, -⟩ := k w (by omega) (by omega)
  obtain ⟨-, -, b3⟩ := k (w + 1) (by omega) (by omega)
  exact ⟨h1, h2, a1.trans h3, fun j => by rw [a2]; exact h4 j, fun j => by rw [b3]; exact h5 j⟩
/-- a Gauss' cells -/
def GsN (sh : Nat → Nat × Nat) (R : Nat → Nat → Option Nat) (F : Nat → Nat → Int) (A : Nat → Int → Int) (g sp : Nat) : Prop := sh g = (0, 1) ∧ R g = rwL [some (g + 1), some (g + 3), some sp] ∧ (∀ j, F g j = 0) ∧ WhN sh R F A (g + 1) ∧ WhN sh R F A (g + 3)
theorem GsN.eqv {sh : Nat → Nat × Nat} {R R' : Nat → Nat → Option Nat} {F F' : Nat → Nat → Int} {A A' : Nat → Int → Int} {g sp : Nat} (h : GsN sh R F A g sp) (k : Eqv R F A R' F' A' g (g + 5)) : GsN sh R' F' A' g sp := by
  obtain ⟨h1, h2, h3, h4, h5⟩ := h
  obtain ⟨a1, a2, -⟩ := k g (by omega) (by omega)
  exact ⟨h1, a1.trans h2, fun j => by rw [a2]; exact h3 j, h4.eqv (k.sub (by omega) (by omega)), h5.eqv (k.sub (by omega) (by omega))⟩
/-- a Ratio's cells -/
def RtN (sh : Nat → Nat × Nat) (R : Nat → Nat → Option Nat) (F : Nat → Nat → Int) (A : Nat → Int → Int) (r sg sw : Nat) : Prop := sh r = (0, 4) ∧ R r = rwL [some (r + 1), some (r + 6), some sg] ∧ (∀ j, F r j = 0) ∧ GsN sh R F A (r + 1) sw ∧ GsN sh R F A (r + 6) sw
theorem RtN.eqv {sh : Nat → Nat × Nat} {R R' : Nat → Nat → Option Nat} {F F' : Nat → Nat → Int} {A A' : Nat → Int → Int} {r sg sw : Nat} (h : RtN sh R F A r sg sw) (k : Eqv R F A R' F' A' r (r + 11)) : RtN sh R' F' A' r sg sw := by
  obtain ⟨h1, h2, h3, h4, h5⟩ := h
  obtain ⟨a1, a2, -⟩ := k r (by omega) (by omega)
  exact ⟨h1, a1.trans h2, fun j => by rw [a2]; exact h3 j, h4.eqv (k.sub (by omega) (by omega)), h5.eqv (k.sub (by omega) (by omega))⟩
/-- a row of n Gausses, of n Ratios -/
def GrN (sh : Nat → Nat × Nat) (R : Nat → Nat → Option Nat) (F : Nat → Nat → Int) (A : Nat → Int → Int) (a n sw : Nat) : Prop := sh a = (4, n) ∧ (∀ k, k < n → R a k = some (a + 1 + 5 * k)) ∧ (∀ k, n ≤ k → R a k = none) ∧ ∀ k, k < n → GsN sh R F A (a + 1 + 5 * k) sw
theorem GrN.eqv {sh : Nat → Nat × Nat} {R R' : Nat → Nat → Option Nat} {F F' : Nat → Nat → Int} {A A' : Nat → Int → Int} {a n sw : Nat} (h : GrN sh R F A a n sw) (k : Eqv R F A R' F' A' a (a + 1 + 5 * n)) : GrN sh R' F' A' a n sw := by
  obtain ⟨h1, h2, h3, h4⟩ := h
  obtain ⟨a1, -, -⟩ := k a (by omega) (by omega)
  exact ⟨h1, fun j hj => by rw [a1]; exact h2 j hj, fun j hj => by rw [a1]; exact h3 j hj, fun j hj => (h4 j hj).eqv (k.sub (by omega) (by omega))⟩
def RfN (sh : Nat → Nat × Nat) (R : Nat → Nat → Option Nat) (F : Nat → Nat → Int) (A : Nat → Int → Int) (a n sg sw : Nat) : Prop := sh a = (3, n) ∧ (∀ k, k < n → R a k = some (a + 1 + 11 * k)) ∧ (∀ k, n ≤ k → R a k = none) ∧ ∀ k, k < n → RtN sh R F A (a + 1 + 11 * k) sg sw
theorem RfN.eqv {sh : Nat → Nat × Nat} {R R' : Nat → Nat → Option Nat} {F F' : Nat → Nat → Int} {A A' : Nat → Int → Int} {a n sg sw : Nat} (h : RfN sh R F A a n sg sw) (k : Eqv R F A R' F' A' a (a + 1 + 11 * n)) : RfN sh R' F' A' a n sg sw := by
  obtain ⟨h1, h2, h3, h4⟩ := h
  obtain ⟨a1, -, -⟩ := k a (by omega) (by omega)
  exact ⟨h1, fun j hj => by rw [a1]; exact h2 j hj, fun j hj => by rw [a1]; exact h3 j hj, fun j hj => (h4 j hj).eqv (k.sub (by omega) (by omega))⟩
theorem dX6_init_0 : decode cX6_init 0 = .ok (.aload_n 0, 1) := by decide +kernel
theorem dX6_init_1 : decode cX6_init 1 = .ok (.invokespecial 3, 3) := by decide +kernel
theorem dX6_init_4 : decode cX6_init 4 = .ok (.aload_n 0, 1) := by decide +kernel
theorem dX6_init_5 : decode cX6_init 5 = .ok (.bipush 80, 2) := by decide +kernel
theorem dX6_init_7 : decode cX6_init 7 = .ok (.newarray .int, 2) := by decide +kernel
theorem dX6_init_9 : decode cX6_init 9 = .ok (.putfield 9, 3) := by decide +kernel
theorem dX6_init_12 : decode cX6_init 12 = .ok (.return_, 1) := by decide +kernel
set_option maxHeartbeats 4000000 in
theorem k_whole (l : Launch) {D : va_G} {ids : Nat → ClassId} {β : Nat} {sh : Nat → Nat × Nat} {R : Nat → Nat → Option Nat} {F : Nat → Nat → Int} {A : Nat → Int → Int} {w : Nat} (hw : WhN sh R F A w) : MetN l yX6_init cX6_init 1 none 1 20 1 80 D ids β sh (w + 1) (w + 2) (mR R w 0) R F A [rf w] (pVr (fun F2 A2 => F2 = F ∧ A2 = A)) := by
  refine MetN.of (loc := [_]) (plainFor_of_name (by decide +kernel)) (Nat.le_of_ble_eq_true rfl) rfl ?_
  intro p e s m args below meth c hC hK hr hlk hnm hz
  obtain ⟨h1, h2, h3, h4, h5⟩ := hw
  refine x_aload_n (pc2 := 1) hC rfl rfl dX6_init_0 rfl ?_
  refine x_objInit (pc2 := 4) hC wt_135 (Nat.le_of_ble_eq_true rfl) (Nat.le_of_ble_eq_true rfl) (Nat.le_of_ble_eq_true rfl) dX6_init_1 rfl ?_
  refine x_aload_n (pc2 := 5) hC rfl rfl dX6_init_4 rfl ?_
  refine x_bipush (pc2 := 7) hC rfl dX6_init_5 rfl ?_
  refine x_newi (pc2 := 9) (N2 := w + 2) (nc2 := 1) (ns2 := 80) (n := 80) hC hK hz rfl rfl (Nat.le_of_ble_eq_true rfl) (Nat.le_of_ble_eq_true rfl) wt_123 h2 h5 rfl rfl rfl (Nat.le_of_ble_eq_true rfl) (Nat.le_of_ble_eq_true rfl) dX6_init_7 rfl ?_
  refine xp_ref (pc2 := 12) (ci := 6) (j := 2) hC hK (by decide) (by decide) wt_142 rfl rfl rfl hnm rfl (by omega) h1 (Or.inr ⟨_, rfl⟩) dX6_init_9 rfl ?_
  refine x_toR (R2 := mR R w 3) (mR_put (n := 0) (congrFun h3 2) (by decide) (fun i h1 h2 => by rcases (show i = 0 ∨ i = 1 by omega) with rfl | rfl <;> exact congrFun h3 _)) ?_
  refine x_toR (mR_done (fun j hj => (congrFun h3 j).trans (rwL_none hj))) ?_
  exact x_vretN hC hr hlk ⟨rfl, rfl, rfl⟩ dX6_init_12
theorem dX1_init_0 : decode cX1_init 0 = .ok (.aload_n 0, 1) := by decide +kernel
theorem dX1_init_1 : decode cX1_init 1 = .ok (.invokespecial 1, 3) := by decide +kernel
theorem dX1_init_4 : decode cX1_init 4 = .ok (.aload_n 0, 1) := by decide +kernel
theorem dX1_init_5 : decode cX1_init 5 = .ok (.new 7, 3) := by decide +kernel
theorem dX1_init_8 : decode cX1_init 8 = .ok (.dup, 1) := by decide +kernel
theorem dX1_init_9 : decode cX1_init 9 = .ok (.invokespecial 9, 3) := by decide +kernel
theorem dX1_init_12 : decode cX1_init 12 = .ok (.putfield 10, 3) := by decide +kernel
theorem dX1_init_15 : decode cX1_init 15 = .ok (.aload_n 0, 1) := by decide +kernel
theorem dX1_init_16 : decode cX1_init 16 = .ok (.new 7, 3) := by decide +kernel
theorem dX1_init_19 : decode cX1_init 19 = .ok (.dup, 1) := by decide +kernel
theorem dX1_init_20 : decode cX1_init 20 = .ok (.invokespecial 9, 3) := by decide +kernel
theorem dX1_init_23 : decode cX1_init 23 = .ok (.putfield 16, 3) := by decide +kernel
theorem dX1_init_26 : decode cX1_init 26 = .ok (.aload_n 0, 1) := by decide +kernel
theorem dX1_init_27 : decode cX1_init 27 = .ok (.aload_n 1, 1) := by decide +kernel
theorem dX1_init_28 : decode cX1_init 28 = .ok (.putfield 19, 3) := by decide +kernel
theorem dX1_init_31 : decode cX1_init 31 = .ok (.return_, 1) := by decide +kernel
set_option maxHeartbeats 4000000 in
theorem k_gauss (l : Launch) {D : va_G} {ids : Nat → ClassId} {β : Nat} {sh : Nat → Nat × Nat} {R : Nat → Nat → Option Nat} {F : Nat → Nat → Int} {A : Nat → Int → Int} {g sp : Nat} (hg : GsN sh R F A g sp) : MetN l yX1_init cX1_init 2 none 2 40 4 166 D ids β sh (g + 1) (g + 5) (mR R g 0) R F A [rf g, rf sp] (pVr (fun F2 A2 => F2 = F ∧ A2 = A)) := by
  refine MetN.of (loc := [_, _]) (plainFor_of_name (by decide +kernel)) (Nat.le_of_ble_eq_true rfl) rfl ?_
  intro p e s m args below meth c hC hK hr hlk hnm hz
  obtain ⟨h1, h2, h3, h4, h5⟩ := hg
  refine x_aload_n (pc2 := 1) hC rfl rfl dX1_init_0 rfl ?_
  refine x_objInit (pc2 := 4) hC wt_155 (Nat.le_of_ble_eq_true rfl) (Nat.le_of_ble_eq_true rfl) (Nat.le_of_ble_eq_true rfl) dX1_init_1 rfl ?_
  refine x_aload_n (pc2 := 5) hC rfl rfl dX1_init_4 rfl ?_
  refine x_new (pc2 := 8) (N2 := g + 2) (nc2 := 1) (ns2 := 3) (ci := 6) hC hK hz rfl (by decide) rfl wt_156 wt_131 wt_71 h4.1 (fun j _ => (h4.2.2.2.1 j).trans (dF0 (by decide)).symm) rfl rfl rfl (Nat.le_of_ble_eq_true rfl) (Nat.le_of_ble_eq_true rfl) dX1_init_5 rfl ?_
  refine x_dupR (pc2 := 9) hC dX1_init_8 rfl ?_
  refine x_cI (n := 0) (pc2 := 12) (N2 := g + 3) (nc2 := 2) (ns2 := 83) hC hK hz rfl (k_whole l (w := g + 1) (h4.eqv (Eqv.m (o := g) (n := 0) (by omega)))) ⟨Or.inr (fun U h => h.2.2.1), wt_133, wt_71, wt_134, rfl, by decide +kernel, by decide +kernel, by decide +kernel⟩ rfl ⟨Nat.le_of_ble_eq_true rfl, Nat.le_of_ble_eq_true rfl⟩ rfl rfl rfl ⟨Nat.le_of_ble_eq_true rfl, Nat.le_of_ble_eq_true rfl⟩ rfl (Nat.le_of_ble_eq_true rfl) dX1_init_9 rfl ?_
  rintro F9 A9 ⟨e19, e29⟩
  obtain rfl := e19.symm
  obtain rfl := e29.symm
  refine xp_ref (pc2 := 15) (ci := 1) (j := 0) hC hK (by decide) (by decide) wt_158 rfl rfl rfl hnm rfl (by omega) h1 (Or.inl ⟨_, rfl⟩) dX1_init_12 rfl ?_
  refine x_toR (R2 := mR R g 1) (mR_put (n := 0) (congrFun h2 0) (by decide) (fun i h1 h2 => by omega)) ?_
  refine x_aload_n (pc2 := 16) hC rfl rfl dX1_init_15 rfl ?_
  refine x_new (pc2 := 19) (N2 := g + 4) (nc2 := 3) (ns2 := 86) (ci := 6) hC hK hz rfl (by decide) rfl wt_156 wt_131 wt_71 h5.1 (fun j _ => (h5.2.2.2.1 j).trans (dF0 (by decide)).symm) rfl rfl rfl (Nat.le_of_ble_eq_true rfl) (Nat.le_of_ble_eq_true rfl) dX1_init_16 rfl ?_
  refine x_dupR (pc2 := 20) hC dX1_init_19 rfl ?_
  refine x_cI (n := 0) (pc2 := 23) (N2 := g + 5) (nc2 := 4) (ns2 := 166) hC hK hz rfl (k_whole l (w := g + 3) (h5.eqv (Eqv.m (o := g) (n := 1) (by omega)))) ⟨Or.inr (fun U h => h.2.2.1), wt_133, wt_71, wt_134, rfl, by decide +kernel, by decide +kernel, by decide +kernel⟩ rfl ⟨Nat.le_of_ble_eq_true rfl, Nat.le_of_ble_eq_true rfl⟩ rfl rfl rfl ⟨Nat.le_of_ble_eq_true rfl, Nat.le_of_ble_eq_true rfl⟩ rfl (Nat.le_of_ble_eq_true rfl) dX1_init_20 rfl ?_
  rintro F20 A20 ⟨e120, e220⟩
  obtain rfl := e120.symm
  obtain rfl := e220.symm
  refine xp_ref (pc2 := 26) (ci := 1) (j := 1) hC hK (by decide) (by decide) wt_163 rfl rfl rfl hnm rfl (by omega) h1 (Or.inl ⟨_, rfl⟩) dX1_init_23 rfl ?_
  refine x_toR (R2 := mR R g 2) (mR_put (n := 1) (congrFun h2 1) (by decide) (fun i h1 h2 => by omega)) ?_
  refine x_aload_n (pc2 := 27) hC rfl rfl dX1_init_26 rfl ?_
  refine x_aload_n (pc2 := 28) hC rfl rfl dX1_init_27 rfl ?_
  refine xp_ref (pc2 := 31) (ci := 1) (j := 2) hC hK (by decide) (by decide) wt_167 rfl rfl rfl hnm rfl (by omega) h1 (Or.inl ⟨_, rfl⟩) dX1_init_28 rfl ?_
  refine x_toR (R2 := mR R g 3) (mR_put (n := 2) (congrFun h2 2) (by decide) (fun i h1 h2 => by omega)) ?_
  refine x_toR (mR_done (fun j hj => (congrFun h2 j).trans (rwL_none hj))) ?_
  exact x_vretN hC hr hlk ⟨rfl, rfl, rfl⟩ dX1_init_31
theorem dX4_init_0 : decode cX4_init 0 = .ok (.aload_n 0, 1) := by decide +kernel
theorem dX4_init_1 : decode cX4_init 1 = .ok (.invokespecial 3, 3) := by decide +kernel
theorem dX4_init_4 : decode cX4_init 4 = .ok (.aload_n 0, 1) := by decide +kernel
theorem dX4_init_5 : decode cX4_init 5 = .ok (.new 9, 3) := by decide +kernel
theorem dX4_init_8 : decode cX4_init 8 = .ok (.dup, 1) := by decide +kernel
theorem dX4_init_9 : decode cX4_init 9 = .ok (.aload_n 2, 1) := by decide +kernel
theorem dX4_init_10 : decode cX4_init 10 = .ok (.invokespecial 11, 3) := by decide +kernel
theorem dX4_init_13 : decode cX4_init 13 = .ok (.putfield 14, 3) := by decide +kernel
theorem dX4_init_16 : decode cX4_init 16 = .ok (.aload_n 0, 1) := by decide +kernel
theorem dX4_init_17 : decode cX4_init 17 = .ok (.new 9, 3) := by decide +kernel
theorem dX4_init_20 : decode cX4_init 20 = .ok (.dup, 1) := by decide +kernel
theorem dX4_init_21 : decode cX4_init 21 = .ok (.aload_n 2, 1) := by decide +kernel
theorem dX4_init_22 : decode cX4_init 22 = .ok (.invokespecial 11, 3) := by decide +kernel
theorem dX4_init_25 : decode cX4_init 25 = .ok (.putfield 20, 3) := by decide +kernel
theorem dX4_init_28 : decode cX4_init 28 = .ok (.aload_n 0, 1) := by decide +kernel
theorem dX4_init_29 : decode cX4_init 29 = .ok (.aload_n 1, 1) := by decide +kernel
theorem dX4_init_30 : decode cX4_init 30 = .ok (.putfield 23, 3) := by decide +kernel
theorem dX4_init_33 : decode cX4_init 33 = .ok (.return_, 1) := by decide +kernel
set_option maxHeartbeats 4000000 in
theorem k_ratio (l : Launch) {D : va_G} {ids : Nat → ClassId} {β : Nat} {sh : Nat → Nat × Nat} {R : Nat → Nat → Option Nat} {F : Nat → Nat → Int} {A : Nat → Int → Int} {r sg sw : Nat} (hr0 : RtN sh R F A r sg sw) : MetN l yX4_init cX4_init 3 none 3 61 10 338 D ids β sh (r + 1) (r + 11) (mR R r 0) R F A [rf r, rf sg, rf sw] (pVr (fun F2 A2 => F2 = F ∧ A2 = A)) := by
  refine MetN.of (loc := [_, _, _]) (plainFor_of_name (by decide +kernel)) (Nat.le_of_ble_eq_true rfl) rfl ?_
  intro p e s m args below meth c hC hK hr hlk hnm hz
  obtain ⟨h1, h2, h3, h4, h5⟩ := hr0
  refine x_aload_n (pc2 := 1) hC rfl rfl dX4_init_0 rfl ?_
  refine x_objInit (pc2 := 4) hC wt_220 (Nat.le_of_ble_eq_true rfl) (Nat.le_of_ble_eq_true rfl) (Nat.le_of_ble_eq_true rfl) dX4_init_1 rfl ?_
  refine x_aload_n (pc2 := 5) hC rfl rfl dX4_init_4 rfl ?_
  refine x_new (pc2 := 8) (N2 := r + 2) (nc2 := 1) (ns2 := 3) (ci := 1) hC hK hz rfl (by decide) rfl wt_221 wt_151 wt_72 h4.1 (fun j _ => (h4.2.2.1 j).trans (dF0 (by decide)).symm) rfl rfl rfl (Nat.le_of_ble_eq_true rfl) (Nat.le_of_ble_eq_true rfl) dX4_init_5 rfl ?_
  refine x_dupR (pc2 := 9) hC dX4_init_8 rfl ?_
  refine x_aload_n (pc2 := 10) hC rfl rfl dX4_init_9 rfl ?_
  refine x_cI (n := 1) (pc2 := 13) (N2 := r + 6) (nc2 := 5) (ns2 := 169) hC hK hz rfl (k_gauss l (g := r + 1) (sp := sw) (h4.eqv (Eqv.m (o := r) (n := 0) (by omega)))) ⟨Or.inl wt_222, wt_153, wt_72, wt_154, rfl, by decide +kernel, by decide +kernel, by decide +kernel⟩ rfl ⟨Nat.le_of_ble_eq_true rfl, Nat.le_of_ble_eq_true rfl⟩ rfl rfl rfl ⟨Nat.le_of_ble_eq_true rfl, Nat.le_of_ble_eq_true rfl⟩ rfl (Nat.le_of_ble_eq_true rfl) dX4_init_10 rfl ?_
  rintro F10 A10 ⟨e110, e210⟩
  obtain rfl := e110.symm
  obtain rfl := e210.symm
  refine xp_ref (pc2 := 16) (ci := 4) (j := 0) hC hK (by decide) (by decide) wt_223 rfl rfl rfl hnm rfl (by omega) h1 (Or.inl ⟨_, rfl⟩) dX4_init_13 rfl ?_
  refine x_toR (R2 := mR R r 1) (mR_put (n := 0) (congrFun h2 0) (by decide) (fun i h1 h2 => by omega)) ?_
  refine x_aload_n (pc2 := 17) hC rfl rfl dX4_init_16 rfl ?_
  refine x_new (pc2 := 20) (N2 := r + 7) (nc2 := 6) (ns2 := 172) (ci := 1) hC hK hz rfl (by decide) rfl wt_221 wt_151 wt_72 h5.1 (fun j _ => (h5.2.2.1 j).trans (dF0 (by decide)).symm) rfl rfl rfl (Nat.le_of_ble_eq_true rfl) (Nat.le_of_ble_eq_true rfl) dX4_init_17 rfl ?_
  refine x_dupR (pc2 := 21) hC dX4_init_20 rfl ?_
  refine x_aload_n (pc2 := 22) hC rfl rfl dX4_init_21 rfl ?_
  refine x_cI (n := 1) (pc2 := 25) (N2 := r + 11) (nc2 := 10) (ns2 := 338) hC hK hz rfl (k_gauss l (g := r + 6) (sp := sw) (h5.eqv (Eqv.m (o := r) (n := 1) (by omega)))) ⟨Or.inl wt_222, wt_153, wt_72, wt_154, rfl, by decide +kernel, by decide +kernel, by decide +kernel⟩ rfl ⟨Nat.le_of_ble_eq_true rfl, Nat.le_of_ble_eq_true rfl⟩ rfl rfl rfl ⟨Nat.le_of_ble_eq_true rfl, Nat.le_of_ble_eq_true rfl⟩ rfl (Nat.le_of_ble_eq_true rfl) dX4_init_22 rfl ?_
  rintro F22 A22 ⟨e122, e222⟩
  obtain rfl := e122.symm
  obtain rfl := e222.symm
  refine xp_ref (pc2 := 28) (ci := 4) (j := 1) hC hK (by decide) (by decide) wt_226 rfl rfl rfl hnm rfl (by omega) h1 (Or.inl ⟨_, rfl⟩) dX4_init_25 rfl ?_
  refine x_toR (R2 := mR R r 2) (mR_put (n := 1) (congrFun h2 1) (by decide) (fun i h1 h2 => by omega)) ?_
  refine x_aload_n (pc2 := 29) hC rfl rfl dX4_init_28 rfl ?_
  refine x_aload_n (pc2 := 30) hC rfl rfl dX4_init_29 rfl ?_
  refine xp_ref (pc2 := 33) (ci := 4) (j := 2) hC hK (by decide) (by decide) wt_229 rfl rfl rfl hnm rfl (by omega) h1 (Or.inl ⟨_, rfl⟩) dX4_init_30 rfl ?_
  refine x_toR (R2 := mR R r 3) (mR_put (n := 2) (congrFun h2 2) (by decide) (fun i h1 h2 => by omega)) ?_
  refine x_toR (mR_done (fun j hj => (congrFun h2 j).trans (rwL_none hj))) ?_
  exact x_vretN hC hr hlk ⟨rfl, rfl, rfl⟩ dX4_init_33
theorem dX1_row_0 : decode cX1_row 0 = .ok (.iload_n 0, 1) := by decide +kernel
theorem dX1_row_1 : decode cX1_row 1 = .ok (.anewarray 11, 3) := by decide +kernel
theorem dX1_row_4 : decode cX1_row 4 = .ok (.astore_n 2, 1) := by decide +kernel
theorem dX1_row_5 : decode cX1_row 5 = .ok (.iconst 0, 1) := by decide +kernel
theorem dX1_row_6 : decode cX1_row 6 = .ok (.istore_n 3, 1) := by decide +kernel
theorem dX1_row_7 : decode cX1_row 7 = .ok (.iload_n 3, 1) := by decide +kernel
theorem dX1_row_8 : decode cX1_row 8 = .ok (.aload_n 2, 1) := by decide +kernel
theorem dX1_row_9 : decode cX1_row 9 = .ok (.arraylength, 1) := by decide +kernel
theorem dX1_row_10 : decode cX1_row 10 = .ok (.if_icmp .ge 20, 3) := by decide +kernel
theorem dX1_row_13 : decode cX1_row 13 = .ok (.aload_n 2, 1) := by decide +kernel
theorem dX1_row_14 : decode cX1_row 14 = .ok (.iload_n 3, 1) := by decide +kernel
theorem dX1_row_15 : decode cX1_row 15 = .ok (.new 11, 3) := by decide +kernel
theorem dX1_row_18 : decode cX1_row 18 = .ok (.dup, 1) := by decide +kernel
theorem dX1_row_19 : decode cX1_row 19 = .ok (.aload_n 1, 1) := by decide +kernel
theorem dX1_row_20 : decode cX1_row 20 = .ok (.invokespecial 22, 3) := by decide +kernel
theorem dX1_row_23 : decode cX1_row 23 = .ok (.aastore, 1) := by decide +kernel
theorem dX1_row_24 : decode cX1_row 24 = .ok (.iinc 3 1, 3) := by decide +kernel
theorem dX1_row_27 : decode cX1_row 27 = .ok (.goto (-20), 3) := by decide +kernel
theorem dX1_row_30 : decode cX1_row 30 = .ok (.aload_n 2, 1) := by decide +kernel
theorem dX1_row_31 : decode cX1_row 31 = .ok (.areturn, 1) := by decide +kernel
set_option maxHeartbeats 8000000 in
theorem k_row (l : Launch) {D : va_G} {ids : Nat → ClassId} {β : Nat} {sh : Nat → Nat × Nat} {R : Nat → Nat → Option Nat} {F : Nat → Nat → Int} {A : Nat → Int → Int} {a n sw : Nat} (hn : n ≤ 100) (hb : GrN sh R F A a n sw) : MetN l yX1_row cX1_row 4 (some ((.array (.object "PortsBench$Gauss")))) 3 61 (1 + 5 * n) (n + 169 * n) D ids β sh a (a + (1 + 5 * n)) R R F A [pI (n : Int), rf sw] (pRr a (fun F2 A2 => F2 = F ∧ A2 = A)) := by
  refine MetN.of (loc := [_, _, _, _]) (plainFor_of_name (by decide +kernel)) (Nat.le_of_ble_eq_true rfl) rfl ?_
  intro p e s m args below meth c hC hK hr hlk hnm hz
  obtain ⟨h1, h2, h3, h4⟩ := hb
  have loop : ∀ (d k : Nat) (i : Int), n - k < d → k ≤ n → i = (k : Int) → X p l e { frames := 3, cells := 1 + 5 * n, slots := n + 169 * n, locals := 61 } s m args below meth c (MQ below (QN D ids β sh (a + (1 + 5 * n)) R (pRr a (fun F2 A2 => F2 = F ∧ A2 = A))) args s (1 + 5 * n) (n + 169 * n) (inH β)) (inH β) D ids β sh 4 (1 + 5 * k) (n + 169 * k) (a + (1 + 5 * k)) (mR R a k) F A [some (pI (n : Int)), some (rf sw), some (rf a), some (pI i)] [] 7 := by
    intro d
    induction d with
    | zero => intro k i hd; omega
    | succ d ih =>
      intro k i hd hk hi
      refine x_iload_n (pc2 := 8) hC rfl rfl dX1_row_7 rfl ?_
      refine x_aload_n (pc2 := 9) hC rfl rfl dX1_row_8 rfl ?_
      refine x_alenqG (n := n) (pc2 := 10) hC hK (by omega) h1 dX1_row_9 rfl ?_
      refine x_icmp_ge (tgt := 30) (pc2 := 13) hC (by omega) (by omega) dX1_row_10 rfl rfl (fun hge => ?_) (fun hlt => ?_)
      · obtain rfl : k = n := by omega
        refine x_toR (mR_done h3) ?_
        refine x_aload_n (pc2 := 31) hC rfl rfl dX1_row_30 rfl ?_
        exact x_aretN hC hr hlk ⟨rfl, rfl, rfl⟩ dX1_row_31
      · have hg := h4 k (by omega)
        have e0 : a + (1 + 5 * k) = a + 1 + 5 * k := by omega
        refine x_aload_n (pc2 := 14) hC rfl rfl dX1_row_13 rfl ?_
        refine x_iload_n (pc2 := 15) hC rfl rfl dX1_row_14 rfl ?_
        refine x_new (pc2 := 18) (N2 := a + (1 + 5 * k) + 1) (nc2 := 1 + 5 * k + 1) (ns2 := n + 169 * k + 3) (ci := 1) hC hK hz rfl (by decide) rfl wt_242 wt_151 wt_72 (by rw [e0]; exact hg.1) (fun j _ => by rw [e0]; exact (hg.2.2.1 j).trans (dF0 (by decide)).symm) rfl rfl rfl (by show _ ≤ 1 + 5 * n; omega) (by show _ ≤ n + 169 * n; omega) dX1_row_15 rfl ?_
        refine x_dupR (pc2 := 19) hC dX1_row_18 rfl ?_
        refine x_aload_n (pc2 := 20) hC rfl rfl dX1_row_19 rfl ?_
        rw [e0]
        have hge := hg.eqv (Eqv.m (o := a) (n := k) (by omega))
        refine x_cI (n := 1) (pc2 := 23) (N2 := a + 1 + 5 * k + 5) (nc2 := 1 + 5 * k + 5) (ns2 := n + 169 * k + 169) hC hK hz (by omega) (k_gauss l hge) ⟨Or.inl wt_244, wt_153, wt_72, wt_154, rfl, by decide +kernel, by decide +kernel, by decide +kernel⟩ rfl ⟨Nat.le_of_ble_eq_true rfl, Nat.le_of_ble_eq_true rfl⟩ (by omega) (by omega) rfl ⟨by show _ ≤ 1 + 5 * n; omega, by show _ ≤ n + 169 * n; omega⟩ rfl (Nat.le_of_ble_eq_true rfl) dX1_row_20 rfl ?_
        rintro F1 A1 ⟨e1, e2⟩
        obtain rfl := e1.symm
        obtain rfl := e2.symm
        refine x_aastG (n := n) (pc2 := 24) (R2 := mR R a (k + 1)) hC hK (by omega) h1 (by omega) hg.1 (by omega) (by omega) (by rw [show i.toNat = k by omega]; exact mR_put (h2 k (by omega)) (Nat.le_refl _) (fun i h1 h2 => by omega)) dX1_row_23 rfl ?_
        refine x_iinc (pc2 := 27) (loc2 := [_, _, _, _]) hC (by decide) rfl rfl dX1_row_24 rfl ?_
        refine x_goto (pc2 := 7) hC dX1_row_27 rfl ?_
        have h := ih (k + 1) (i + 1) (by omega) (by omega) (by omega)
        rw [show a + (1 + 5 * (k + 1)) = a + 1 + 5 * k + 5 by omega, show 1 + 5 * (k + 1) = 1 + 5 * k + 5 by omega, show n + 169 * (k + 1) = n + 169 * k + 169 by omega] at h
        exact h
  refine x_iload_n (pc2 := 1) hC rfl rfl dX1_row_0 rfl ?_
  refine x_newqG (n := n) (pc2 := 4) (N2 := a + 1) (nc2 := 1) (ns2 := n) hC hK hz rfl rfl (by omega) wt_242 h1 rfl (by omega) rfl (by show _ ≤ 1 + 5 * n; omega) (by show _ ≤ n + 169 * n; omega) dX1_row_1 rfl ?_
  refine x_astore_n (pc2 := 5) (loc2 := [_, _, _, _]) hC rfl (by decide) rfl dX1_row_4 rfl ?_
  refine x_iconst (pc2 := 6) hC dX1_row_5 rfl ?_
  refine x_istore_n (pc2 := 7) (loc2 := [_, _, _, _]) hC rfl (by decide) rfl dX1_row_6 rfl ?_
  have h := loop (n + 1) 0 0 (by omega) (by omega) rfl
  rw [show a + (1 + 5 * 0) = a + 1 by omega, show 1 + 5 * 0 = 1 by omega, show n + 169 * 0 = n by omega] at h
  exact h
theorem dX4_four_0 : decode cX4_four 0 = .ok (.iconst 4, 1) := by decide +kernel
theorem dX4_four_1 : decode cX4_four 1 = .ok (.anewarray 15, 3) := by decide +kernel
theorem dX4_four_4 : decode cX4_four 4 = .ok (.astore_n 2, 1) := by decide +kernel
theorem dX4_four_5 : decode cX4_four 5 = .ok (.iconst 0, 1) := by decide +kernel
theorem dX4_four_6 : decode cX4_four 6 = .ok (.istore_n 3, 1) := by decide +kernel
theorem dX4_four_7 : decode cX4_four 7 = .ok (.iload_n 3, 1) := by decide +kernel
theorem dX4_four_8 : decode cX4_four 8 = .ok (.aload_n 2, 1) := by decide +kernel
theorem dX4_four_9 : decode cX4_four 9 = .ok (.arraylength, 1) := by decide +kernel
theorem dX4_four_10 : decode cX4_four 10 = .ok (.if_icmp .ge 21, 3) := by decide +kernel
theorem dX4_four_13 : decode cX4_four 13 = .ok (.aload_n 2, 1) := by decide +kernel
theorem dX4_four_14 : decode cX4_four 14 = .ok (.iload_n 3, 1) := by decide +kernel
theorem dX4_four_15 : decode cX4_four 15 = .ok (.new 15, 3) := by decide +kernel
theorem dX4_four_18 : decode cX4_four 18 = .ok (.dup, 1) := by decide +kernel
theorem dX4_four_19 : decode cX4_four 19 = .ok (.aload_n 0, 1) := by decide +kernel
theorem dX4_four_20 : decode cX4_four 20 = .ok (.aload_n 1, 1) := by decide +kernel
theorem dX4_four_21 : decode cX4_four 21 = .ok (.invokespecial 26, 3) := by decide +kernel
theorem dX4_four_24 : decode cX4_four 24 = .ok (.aastore, 1) := by decide +kernel
theorem dX4_four_25 : decode cX4_four 25 = .ok (.iinc 3 1, 3) := by decide +kernel
theorem dX4_four_28 : decode cX4_four 28 = .ok (.goto (-21), 3) := by decide +kernel
theorem dX4_four_31 : decode cX4_four 31 = .ok (.aload_n 2, 1) := by decide +kernel
theorem dX4_four_32 : decode cX4_four 32 = .ok (.areturn, 1) := by decide +kernel
set_option maxHeartbeats 8000000 in
theorem k_four (l : Launch) {D : va_G} {ids : Nat → ClassId} {β : Nat} {sh : Nat → Nat × Nat} {R : Nat → Nat → Option Nat} {F : Nat → Nat → Int} {A : Nat → Int → Int} {a n sg sw : Nat} (hn : n = 4) (hb : RfN sh R F A a n sg sw) : MetN l yX4_four cX4_four 4 (some ((.array (.object "PortsBench$Ratio")))) 4 83 (1 + 11 * n) (n + 341 * n) D ids β sh a (a + (1 + 11 * n)) R R F A [rf sg, rf sw] (pRr a (fun F2 A2 => F2 = F ∧ A2 = A)) := by
  refine MetN.of (loc := [_, _, _, _]) (plainFor_of_name (by decide +kernel)) (Nat.le_of_ble_eq_true rfl) rfl ?_
  intro p e s m args below meth c hC hK hr hlk hnm hz
  obtain ⟨h1, h2, h3, h4⟩ := hb
  have loop : ∀ (d k : Nat) (i : Int), n - k < d → k ≤ n → i = (k : Int) → X p l e { frames := 4, cells := 1 + 11 * n, slots := n + 341 * n, locals := 83 } s m args below meth c (MQ below (QN D ids β sh (a + (1 + 11 * n)) R (pRr a (fun F2 A2 => F2 = F ∧ A2 = A))) args s (1 + 11 * n) (n + 341 * n) (inH β)) (inH β) D ids β sh 4 (1 + 11 * k) (n + 341 * k) (a + (1 + 11 * k)) (mR R a k) F A [some (rf sg), some (rf sw), some (rf a), some (pI i)] [] 7 := by
    intro d
    induction d with
    | zero => intro k i hd; omega
    | succ d ih =>
      intro k i hd hk hi
      refine x_iload_n (pc2 := 8) hC rfl rfl dX4_four_7 rfl ?_
      refine x_aload_n (pc2 := 9) hC rfl rfl dX4_four_8 rfl ?_
      refine x_alenqR (n := n) (pc2 := 10) hC hK (by omega) h1 dX4_four_9 rfl ?_
      refine x_icmp_ge (tgt := 31) (pc2 := 13) hC (by omega) (by omega) dX4_four_10 rfl rfl (fun hge => ?_) (fun hlt => ?_)
      · obtain rfl : k = n := by omega
        refine x_toR (mR_done h3) ?_
        refine x_aload_n (pc2 := 32) hC rfl rfl dX4_four_31 rfl ?_
        exact x_aretN hC hr hlk ⟨rfl, rfl, rfl⟩ dX4_four_32
      · have hg := h4 k (by omega)
        have e0 : a + (1 + 11 * k) = a + 1 + 11 * k := by omega
        refine x_aload_n (pc2 := 14) hC rfl rfl dX4_four_13 rfl ?_
        refine x_iload_n (pc2 := 15) hC rfl rfl dX4_four_14 rfl ?_
        refine x_new (pc2 := 18) (N2 := a + (1 + 11 * k) + 1) (nc2 := 1 + 11 * k + 1) (ns2 := n + 341 * k + 3) (ci := 4) hC hK hz rfl (by decide) rfl wt_214 wt_216 wt_74 (by rw [e0]; exact hg.1) (fun j _ => by rw [e0]; exact (hg.2.2.1 j).trans (dF0 (by decide)).symm) rfl rfl rfl (by show _ ≤ 1 + 11 * n; omega) (by show _ ≤ n + 341 * n; omega) dX4_four_15 rfl ?_
        refine x_dupR (pc2 := 19) hC dX4_four_18 rfl ?_
        refine x_aload_n (pc2 := 20) hC rfl rfl dX4_four_19 rfl ?_
        refine x_aload_n (pc2 := 21) hC rfl rfl dX4_four_20 rfl ?_
        rw [e0]
        have hge := hg.eqv (Eqv.m (o := a) (n := k) (by omega))
        refine x_cI (n := 2) (pc2 := 24) (N2 := a + 1 + 11 * k + 11) (nc2 := 1 + 11 * k + 11) (ns2 := n + 341 * k + 341) hC hK hz (by omega) (k_ratio l hge) ⟨Or.inl wt_217, wt_218, wt_74, wt_219, rfl, by decide +kernel, by decide +kernel, by decide +kernel⟩ rfl ⟨Nat.le_of_ble_eq_true rfl, Nat.le_of_ble_eq_true rfl⟩ (by omega) (by omega) rfl ⟨by show _ ≤ 1 + 11 * n; omega, by show _ ≤ n + 341 * n; omega⟩ rfl (Nat.le_of_ble_eq_true rfl) dX4_four_21 rfl ?_
        rintro F1 A1 ⟨e1, e2⟩
        obtain rfl := e1.symm
        obtain rfl := e2.symm
        refine x_aastR (n := n) (pc2 := 25) (R2 := mR R a (k + 1)) hC hK (by omega) h1 (by omega) hg.1 (by omega) (by omega) (by rw [show i.toNat = k by omega]; exact mR_put (h2 k (by omega)) (Nat.le_refl _) (fun i h1 h2 => by omega)) dX4_four_24 rfl ?_
        refine x_iinc (pc2 := 28) (loc2 := [_, _, _, _]) hC (by decide) rfl rfl dX4_four_25 rfl ?_
        refine x_goto (pc2 := 7) hC dX4_four_28 rfl ?_
        have h := ih (k + 1) (i + 1) (by omega) (by omega) (by omega)
        rw [show a + (1 + 11 * (k + 1)) = a + 1 + 11 * k + 11 by omega, show 1 + 11 * (k + 1) = 1 + 11 * k + 11 by omega, show n + 341 * (k + 1) = n + 341 * k + 341 by omega] at h
        exact h
  refine x_iconst (pc2 := 1) hC dX4_four_0 rfl ?_
  refine x_newqR (n := n) (pc2 := 4) (N2 := a + 1) (nc2 := 1) (ns2 := n) hC hK hz rfl (by omega) (by omega) wt_214 h1 rfl (by omega) rfl (by show _ ≤ 1 + 11 * n; omega) (by show _ ≤ n + 341 * n; omega) dX4_four_1 rfl ?_
  refine x_astore_n (pc2 := 5) (loc2 := [_, _, _, _]) hC rfl (by decide) rfl dX4_four_4 rfl ?_
  refine x_iconst (pc2 := 6) hC dX4_four_5 rfl ?_
  refine x_istore_n (pc2 := 7) (loc2 := [_, _, _, _]) hC rfl (by decide) rfl dX4_four_6 rfl ?_
  have h := loop (n + 1) 0 0 (by omega) (by omega) rfl
  rw [show a + (1 + 11 * 0) = a + 1 by omega, show 1 + 11 * 0 = 1 by omega, show n + 341 * 0 = n by omega] at h
  exact h
