/-! MAKING: a constructor's world grows -/
def inH (β : Nat) : Nat → Prop := fun q => β ≤ q
def rwL (L : List (Option Nat)) : Nat → Option Nat := fun j => L.getD j none
/-- the row of o as far as the place n -/
def mR (R : Nat → Nat → Option Nat) (o n : Nat) : Nat → Nat → Option Nat := fun k j => if k = o ∧ n ≤ j then none else R k j
theorem mR_ne {R : Nat → Nat → Option Nat} {o n k : Nat} (h : k ≠ o) : mR R o n k = R k := by funext j; simp [mR, h]
theorem mR_o {R : Nat → Nat → Option Nat} {o n j : Nat} : mR R o n o j = if n ≤ j then none else R o j := by simp [mR]
theorem mR_done {R : Nat → Nat → Option Nat} {o n : Nat} (h : ∀ j, n ≤ j → R o j = none) : mR R o n = R := by
  funext k j
  unfold mR
  split
  · rename_i hh
    rw [hh.1, h j hh.2]
  · rfl
theorem mR_put {R : Nat → Nat → Option Nat} {o n j : Nat} {v : Option Nat} (hb : R o j = v) (hn : n ≤ j) (gap : ∀ i, n ≤ i → i < j → R o i = none) : uR (mR R o n) o j v = mR R o (j + 1) := by
  funext k i
  unfold uR mR
  by_cases h : k = o
  · subst h
    by_cases h1 : i = j
    · subst h1
      have h4 : ¬ i + 1 ≤ i := by omega
      simp [hb, h4]
    · by_cases h2 : n ≤ i
      · by_cases h3 : j + 1 ≤ i
        · simp [h1, h2, h3]
        · simp [h1, h2, h3, gap i h2 (by omega)]
      · have h4 : ¬ j + 1 ≤ i := by omega
        simp [h1, h2, h4]
  · simp [h]
def dF (ci j : Nat) : Int := if ci = 3 ∧ (j = 5 ∨ j = 6) then -1 else 0
theorem dk0 {β N j : Nat} {R : Nat → Nat → Option Nat} {F : Nat → Nat → Int} (h : F N j = 0) : fv β R F N 0 j = .int 0 := by show Value.int (Int32.ofInt (F N j)) = _; rw [h]; rfl
theorem dk1 {β N j : Nat} {R : Nat → Nat → Option Nat} {F : Nat → Nat → Int} (h : F N j = 0) : fv β R F N 1 j = .long 0 := by show Value.long (Int64.ofInt (F N j)) = _; rw [h]; rfl
theorem dk3 {β N j : Nat} {R : Nat → Nat → Option Nat} {F : Nat → Nat → Int} (h : F N j = 0) : fv β R F N 3 j = .int 0 := by show Value.int (Int32.ofInt (F N j)) = _; rw [h]; rfl
theorem dk2 {β N j : Nat} {R : Nat → Nat → Option Nat} {F : Nat → Nat → Int} (h : R N j = none) : fv β R F N 2 j = .null := by show va_rf ((R N j).map _) = _; rw [h]; rfl
theorem dk4 {β N j : Nat} {R : Nat → Nat → Option Nat} {F : Nat → Nat → Int} (h : F N j = -1) : fv β R F N 4 j = .null := by show (if F N j < 0 then Value.null else _) = _; rw [h]; rfl
theorem dfl0 {β N j : Nat} {R : Nat → Nat → Option Nat} {F : Nat → Nat → Int} (hj : j < 16) (hR : R N j = none) (hF : F N j = dF 0 j) : fv β R F N (fk 0 j) j = defaultValue (cty 0 j) := by
  match j, hj with
  | 0, _ => exact dk2 hR
  | 1, _ => exact dk2 hR
  | 2, _ => exact dk2 hR
  | 3, _ => exact dk2 hR
  | 4, _ => exact dk2 hR
  | 5, _ => exact dk2 hR
  | 6, _ => exact dk2 hR
  | 7, _ => exact dk2 hR
  | 8, _ => exact dk2 hR
  | 9, _ => exact dk2 hR
  | 10, _ => exact dk2 hR
  | 11, _ => exact dk2 hR
  | 12, _ => exact dk2 hR
  | 13, _ => exact dk2 hR
  | 14, _ => exact dk2 hR
  | 15, _ => exact dk2 hR
  | j + 16, hj => exact absurd hj (by omega)
theorem dfl1 {β N j : Nat} {R : Nat → Nat → Option Nat} {F : Nat → Nat → Int} (hj : j < 3) (hR : R N j = none) (hF : F N j = dF 1 j) : fv β R F N (fk 1 j) j = defaultValue (cty 1 j) := by
  match j, hj with
  | 0, _ => exact dk2 hR
  | 1, _ => exact dk2 hR
  | 2, _ => exact dk2 hR
  | j + 3, hj => exact absurd hj (by omega)
theorem dfl2 {β N j : Nat} {R : Nat → Nat → Option Nat} {F : Nat → Nat → Int} (hj : j < 14) (hR : R N j = none) (hF : F N j = dF 2 j) : fv β R F N (fk 2 j) j = defaultValue (cty 2 j) := by
  match j, hj with
  | 0, _ => exact dk2 hR
  | 1, _ => exact dk2 hR
  | 2, _ => exact dk2 hR
  | 3, _ => exact dk2 hR
  | 4, _ => exact dk2 hR
  | 5, _ => exact dk2 hR
  | 6, _ => exact dk2 hR
  | 7, _ => exact dk2 hR
  | 8, _ => exact dk2 hR
  | 9, _ => exact dk2 hR
  | 10, _ => exact dk2 hR
  | 11, _ => exact dk2 hR
  | 12, _ => exact dk2 hR
  | 13, _ => exact dk2 hR
  | j + 14, hj => exact absurd hj (by omega)
theorem dfl3 {β N j : Nat} {R : Nat → Nat → Option Nat} {F : Nat → Nat → Int} (hj : j < 8) (hR : R N j = none) (hF : F N j = dF 3 j) : fv β R F N (fk 3 j) j = defaultValue (cty 3 j) := by
  match j, hj with
  | 0, _ => exact dk2 hR
  | 1, _ => exact dk2 hR
  | 2, _ => exact dk2 hR
  | 3, _ => exact dk2 hR
  | 4, _ => exact dk2 hR
  | 5, _ => exact dk4 hF
  | 6, _ => exact dk4 hF
  | 7, _ => exact dk3 hF
  | j + 8, hj => exact absurd hj (by omega)
theorem dfl4 {β N j : Nat} {R : Nat → Nat → Option Nat} {F : Nat → Nat → Int} (hj : j < 3) (hR : R N j = none) (hF : F N j = dF 4 j) : fv β R F N (fk 4 j) j = defaultValue (cty 4 j) := by
  match j, hj with
  | 0, _ => exact dk2 hR
  | 1, _ => exact dk2 hR
  | 2, _ => exact dk2 hR
  | j + 3, hj => exact absurd hj (by omega)
theorem dfl5 {β N j : Nat} {R : Nat → Nat → Option Nat} {F : Nat → Nat → Int} (hj : j < 8) (hR : R N j = none) (hF : F N j = dF 5 j) : fv β R F N (fk 5 j) j = defaultValue (cty 5 j) := by
  match j, hj with
  | 0, _ => exact dk2 hR
  | 1, _ => exact dk2 hR
  | 2, _ => exact dk2 hR
  | 3, _ => exact dk2 hR
  | 4, _ => exact dk2 hR
  | 5, _ => exact dk0 hF
  | 6, _ => exact dk0 hF
  | 7, _ => exact dk0 hF
  | j + 8, hj => exact absurd hj (by omega)
theorem dfl6 {β N j : Nat} {R : Nat → Nat → Option Nat} {F : Nat → Nat → Int} (hj : j < 3) (hR : R N j = none) (hF : F N j = dF 6 j) : fv β R F N (fk 6 j) j = defaultValue (cty 6 j) := by
  match j, hj with
  | 0, _ => exact dk0 hF
  | 1, _ => exact dk0 hF
  | 2, _ => exact dk2 hR
  | j + 3, hj => exact absurd hj (by omega)
theorem dfl7 {β N j : Nat} {R : Nat → Nat → Option Nat} {F : Nat → Nat → Int} (hj : j < 5) (hR : R N j = none) (hF : F N j = dF 7 j) : fv β R F N (fk 7 j) j = defaultValue (cty 7 j) := by
  match j, hj with
  | 0, _ => exact dk2 hR
  | 1, _ => exact dk2 hR
  | 2, _ => exact dk2 hR
  | 3, _ => exact dk0 hF
  | 4, _ => exact dk0 hF
  | j + 5, hj => exact absurd hj (by omega)
theorem dfl8 {β N j : Nat} {R : Nat → Nat → Option Nat} {F : Nat → Nat → Int} (hj : j < 19) (hR : R N j = none) (hF : F N j = dF 8 j) : fv β R F N (fk 8 j) j = defaultValue (cty 8 j) := by
  match j, hj with
  | 0, _ => exact dk2 hR
  | 1, _ => exact dk0 hF
  | 2, _ => exact dk2 hR
  | 3, _ => exact dk2 hR
  | 4, _ => exact dk0 hF
  | 5, _ => exact dk0 hF
  | 6, _ => exact dk0 hF
  | 7, _ => exact dk2 hR
  | 8, _ => exact dk2 hR
  | 9, _ => exact dk2 hR
  | 10, _ => exact dk0 hF
  | 11, _ => exact dk2 hR
  | 12, _ => exact dk2 hR
  | 13, _ => exact dk2 hR
  | 14, _ => exact dk1 hF
  | 15, _ => exact dk1 hF
  | 16, _ => exact dk2 hR
  | 17, _ => exact dk3 hF
  | 18, _ => exact dk2 hR
  | j + 19, hj => exact absurd hj (by omega)
theorem dfl {β N ci j : Nat} {R : Nat → Nat → Option Nat} {F : Nat → Nat → Int} (hci : ci < 9) (hj : j < cN ci) (hR : R N j = none) (hF : F N j = dF ci j) : fv β R F N (fk ci j) j = defaultValue (cty ci j) := by
  match ci, hci with
  | 0, _ => exact dfl0 hj hR hF
  | 1, _ => exact dfl1 hj hR hF
  | 2, _ => exact dfl2 hj hR hF
  | 3, _ => exact dfl3 hj hR hF
  | 4, _ => exact dfl4 hj hR hF
  | 5, _ => exact dfl5 hj hR hF
  | 6, _ => exact dfl6 hj hR hF
  | 7, _ => exact dfl7 hj hR hF
  | 8, _ => exact dfl8 hj hR hF
  | ci + 9, hci => exact absurd hci (by omega)
theorem fvs_V {β k ci j : Nat} {R : Nat → Nat → Option Nat} {F : Nat → Nat → Int} (h : j < cN ci) : vp_V (fvs β R F k ci) j = fv β R F k (fk ci j) j := by
  unfold vp_V
  rw [List.getD_eq_getElem?_getD, fvs_get h]
  rfl
theorem new_at {D : va_G} {β N q : Nat} {E : Nat → va_E} {x : va_E} {H1 : Heap} (hP : va_P D cl9 (mkW β N E ++ [(q, x)]) H1) (hD : va_D (inH β) (mkW β N E ++ [(q, x)])) (hz : H1.size ≤ β + N + 1) : q = β + N := by
  have hl : (mkW β N E).length = N := by simp [mkW]
  have hi : (mkW β N E ++ [(q, x)])[N]? = some (q, x) := by
    rw [List.getElem?_append_right (by omega), hl, Nat.sub_self]
    rfl
  have h1 : q < H1.size := (hP N _ hi).lt
  have h2 : β ≤ q := hD.2 N _ hi
  by_cases h : q = β + N
  · exact h
  · exfalso
    have hk : q - β < N := by omega
    have hj : (mkW β N E ++ [(q, x)])[q - β]? = some (β + (q - β), E (q - β)) := by
      rw [List.getElem?_append_left (by omega)]
      exact mkW_get hk
    have := hD.1 N (q - β) _ _ hi hj (by show q = β + (q - β); omega)
    omega
theorem inH_k {β k : Nat} : inH β (β + k) := Nat.le_add_right _ _
def PN (D : va_G) (ids : Nat → ClassId) (β : Nat) (sh : Nat → Nat × Nat) (N : Nat) (R : Nat → Nat → Option Nat) (F : Nat → Nat → Int) (A : Nat → Int → Int) (av : List PV) : Array Value → State → Prop :=
  va_Pc (av.map (tv β)) (fun U => (KN D ids U ∧ U.heap.size = β + N) ∧ va_P D cl9 (mkW β N (celE β ids sh R F A)) U.heap)
def QN (D : va_G) (ids : Nat → ClassId) (β : Nat) (sh : Nat → Nat × Nat) (N : Nat) (R : Nat → Nat → Option Nat) (post : Option PV → (Nat → Nat → Int) → (Nat → Int → Int) → Prop) : Array Value → State → Outcome → State → Prop := fun _ st oc t =>
  (∃ (r : Option PV) (F' : Nat → Nat → Int) (A' : Nat → Int → Int), oc = .returned (r.map (tv β)) ∧ post r F' A' ∧ va_P D cl9 (mkW β N (celE β ids sh R F' A')) t.heap) ∧ va_F (inH β) st t
/-- a method that makes mc cells: from N0 cells with R0 to N cells with R -/
def MetN (l : Launch) (y : MethodName) (bytes : ByteArray) (maxL : Nat) (ret : Option FieldType) (fr lo mc ms : Nat) (D : va_G) (ids : Nat → ClassId) (β : Nat) (sh : Nat → Nat × Nat) (N0 N : Nat) (R0 R : Nat → Nat → Option Nat) (F : Nat → Nat → Int) (A : Nat → Int → Int) (av : List PV) (post : Option PV → (Nat → Nat → Int) → (Nat → Int → Int) → Prop) : Prop :=
  Met l y (.code y bytes maxL ret :: TT) { frames := fr, cells := mc, slots := ms, locals := lo } (PN D ids β sh N0 R0 F A av) (QN D ids β sh N R post) mc ms (inH β)
theorem PN_blind {D : va_G} {ids : Nat → ClassId} {β : Nat} {sh : Nat → Nat × Nat} {N : Nat} {R : Nat → Nat → Option Nat} {F : Nat → Nat → Int} {A : Nat → Int → Int} {av : List PV} : FrameBlind (PN D ids β sh N R F A av) :=
  fun a U g mk q => ⟨q.1, ⟨KN.same rfl q.2.1.1, q.2.1.2⟩, q.2.2⟩
theorem MetN.of {l : Launch} {y : MethodName} {bytes : ByteArray} {maxL : Nat} {ret : Option FieldType} {fr lo mc ms : Nat} {D : va_G} {ids : Nat → ClassId} {β : Nat} {sh : Nat → Nat × Nat} {N0 N : Nat} {R0 R : Nat → Nat → Option Nat} {F : Nat → Nat → Int} {A : Nat → Int → Int} {av : List PV} {post : Option PV → (Nat → Nat → Int) → (Nat → Int → Int) → Prop} {loc : List (Option PV)}
    (hy : plainFor y = true) (hlen : (ent av).length ≤ maxL) (hloc : ent av ++ List.replicate (maxL - (ent av).length) none = loc)
    (body : ∀ (p : Program) (e : Env) (s : State) (m : MethodId) (args : Array Value) (below : List Frame) (meth : Method) (c : Code), CallFix p m c bytes maxL s args TT y.cls → KN D ids s → meth.sig.returnType = ret → meth.locks = false → meth.name = y.name → s.heap.size = β + N0 →
      X p l e { frames := fr, cells := mc, slots := ms, locals := lo } s m args below meth c (MQ below (QN D ids β sh N R post) args s mc ms (inH β)) (inH β) D ids β sh maxL 0 0 N0 R0 F A loc [] 0) : MetN l y bytes maxL ret fr lo mc ms D ids β sh N0 N R0 R F A av post := by
  refine Met_ofWF (cc := bytes) (maxL := maxL) (ret := ret) hy rfl ?_
  intro p e s m args below meth c s₁ B hml hv
  obtain ⟨rfl, ⟨hK, hz⟩, hP⟩ := hv
  have hts := atoms_spec (ws := .code y bytes maxL ret :: TT) B.pre
  have hown : s.vm.findClass y.cls = some m.cls := findClass_of_methodNamed B.named
  have hl := lv_entry (av.map (tv β)) (n := maxL) (by rw [lg_len]; exact hlen)
  rw [lg_entry_eq]
  refine body p e s m _ below meth c ⟨B.exec, B.bytes, hml, hown, fun w hw => hts w (List.mem_cons_of_mem _ hw)⟩ hK B.returns B.notSynchronized (name_of_methodNamed B.named B.method).1 hz s.heap [] _ hP va_S.rf (fun k hk => inH_k) (lv_less hl (fun q hq => ?_))
  rw [← hloc] at hq
  exact ent_mem av 0 _ q hq
def LinkI (own : String) (idx : Nat) (y : MethodName) (bytes : ByteArray) (maxL : Nat) (n : Nat) : Prop :=
  (Cond.methodLink own idx y ∈ TT ∨ ∀ U, NW U → va_Nw (.methodLinkNest own idx y "PortsBench") U) ∧ Cond.instanceMethod y ∈ TT ∧ Cond.initialized y.cls ∈ TT ∧ Cond.code y bytes maxL none ∈ TT ∧ y.name = "<init>" ∧ y.cls ≠ "java/lang/invoke/MethodHandle" ∧ y.cls ≠ "java/lang/invoke/VarHandle" ∧ (parseMethodDescriptor y.desc).map (fun d => d.parameters.length) = some n
section XN
variable {p : Program} {l : Launch} {e : Env} {Rm : Room} {s : State} {m : MethodId} {args : Array Value} {below : List Frame} {meth : Method} {c : Code} {Q : State → Prop} {G : Nat → Prop} {D : va_G} {ids : Nat → ClassId} {β : Nat} {sh : Nat → Nat × Nat} {nL nc ns N nc2 ns2 N2 N0 : Nat} {R R2 : Nat → Nat → Option Nat} {F : Nat → Nat → Int} {A : Nat → Int → Int} {loc loc2 : List (Option PV)} {stk : List PV} {pc pc2 tgt : Nat} {cc : ByteArray} {own : String}
theorem size_of {T : State} {H : Heap} {locs : List Loc} (hz : s.heap.size = β + N0) (hN : N = N0 + nc) (a1 : va_P D cl9 (mkW β N (celE β ids sh R F A)) H) (hS : s.heap.size ≤ H.size) (hT : T.heap = H) (X0 : Stand p l e Rm s m args below meth c T locs nc ns) : H.size = β + N := by
  have h1 := X0.heapSize
  rw [hT] at h1
  by_cases h : N = 0
  · omega
  · have h2 : β + (N - 1) < H.size := (a1 (N - 1) _ (mkW_get (by omega))).lt
    omega
/-- a field's or an element's world, if R, F and A are others but the same in the cells that stand -/
theorem x_cells {F2 : Nat → Nat → Int} {A2 : Nat → Int → Int} (h : ∀ k, k < N → celE β ids sh R F A k = celE β ids sh R2 F2 A2 k) (k : X p l e Rm s m args below meth c Q G D ids β sh nL nc ns N R2 F2 A2 loc stk pc) : X p l e Rm s m args below meth c Q G D ids β sh nL nc ns N R F A loc stk pc := by
  intro H locs ls a1 a2 a3 a4
  exact k H locs ls (by rw [← mkW_ext h]; exact a1) a2 a3 a4
theorem x_toR (h : R = R2) (k : X p l e Rm s m args below meth c Q G D ids β sh nL nc ns N R2 F A loc stk pc) : X p l e Rm s m args below meth c Q G D ids β sh nL nc ns N R F A loc stk pc := h ▸ k
theorem x_objInit (hC : CallFix p m c cc nL s args TT own) {idx a : Nat} (hl : Cond.methodLink own idx Lib.objectInit ∈ TT) (hf : 1 ≤ Rm.frames) (hlo : 20 ≤ Rm.locals) (hsm : (stk.map fun v => (tv β v).category).sum ≤ 8) (hd : decode cc pc = .ok (.invokespecial idx, 3)) (h2 : pc + 3 = pc2) (k : X p l e Rm s m args below meth c Q G D ids β sh nL nc ns N R F A loc stk pc2) : X p l e Rm s m args below meth c Q G D ids β sh nL nc ns N R F A loc (rf a :: stk) pc := by
  subst h2
  intro H locs ls a1 a2 a3 a4
  refine W.objInit (g := F0 m pc ls (.ref (β + a) :: stk.map (tv β))) hC.1 hC.2.1 hC.2.2.2.1 (hC.2.2.2.2 _ hl) (hC.2.2.2.2 _ wt_85) (hC.2.2.2.2 _ wt_86) rfl (by rw [hC.2.2.1]; exact a4.1) rfl hd hf ?_ (k H locs ls a1 a2 a3 a4)
  have : ((stk.map (tv β)).map fun v => v.category).sum ≤ 8 := by rw [List.map_map]; exact hsm
  show 2 * 0 + _ + 12 ≤ _
  omega
theorem x_new (hC : CallFix p m c cc nL s args TT own) {ci idx : Nat} {nm : String} (hK : KN D ids s) (hz : s.heap.size = β + N0) (hN : N = N0 + nc) (hci : ci < 9) (hnm : cR ci = nm) (hcl : Cond.classLink own idx nm ∈ TT) (hin : Cond.instantiable nm (cN ci) ∈ TT) (hini : Cond.initialized nm ∈ TT) (hsh : sh N = (0, ci)) (hF : ∀ j, j < cN ci → F N j = dF ci j) (e1 : nc + 1 = nc2) (e2 : ns + cN ci = ns2) (e3 : N + 1 = N2) (hcells : nc2 ≤ Rm.cells) (hslots : ns2 ≤ Rm.slots) (hd : decode cc pc = .ok (.new idx, 3)) (h2 : pc + 3 = pc2) (k : X p l e Rm s m args below meth c Q (inH β) D ids β sh nL nc2 ns2 N2 (mR R N 0) F A loc (rf N :: stk) pc2) : X p l e Rm s m args below meth c Q (inH β) D ids β sh nL nc ns N R F A loc stk pc := by
  subst h2; subst hnm; subst e1; subst e2; subst e3
  intro H locs ls a1 a2 a3 a4
  refine va_new (cl := cl9) (tys := tys4 ids) (ci := ci) (fs := fvs β (mR R N 0) F N ci) hC.1 hC.2.1 hC.2.2.2.2 (cin_ok hci) (cty ci) (cty_ok hci) hC.2.2.2.1 (hC.2.2.2.2 _ hcl) (hC.2.2.2.2 _ hin) (hC.2.2.2.2 _ hini) hK.1 a1 (mkW_D a3) a2 (fun q hq => by show β ≤ q; omega) (cl9_get hci) (fun j hj => by rw [fvs_V hj]; exact (dfl hci hj (by rw [mR_o]; rfl) (hF j hj)).symm) hcells hslots hd (fun q H1 hP hD hS => ?_)
  intro T hT X0
  have hq := new_at hP hD (by have := X0.heapSize; rw [hT] at this; omega)
  subst hq
  have e : mkW β N (celE β ids sh R F A) ++ [(β + N, .inr (ci, fvs β (mR R N 0) F N ci))] = mkW β (N + 1) (celE β ids sh (mR R N 0) F A) := by
    rw [mkW_succ, celE_obj hsh, mkW_ext (E' := celE β ids sh (mR R N 0) F A) (fun k hk => (celE_R (mR_ne (by omega))).symm)]
  exact k H1 locs ls (e ▸ hP) hS (fun k hk => inH_k) a4 T hT X0
theorem x_newi (hC : CallFix p m c cc nL s args TT own) {n : Nat} {z : Int} (hK : KN D ids s) (hz : s.heap.size = β + N0) (hN : N = N0 + nc) (hzn : z = (n : Int)) (hn : n ≤ 2147483647) (hb : n * componentBytes .int ≤ 536870912) (harr : Cond.arrayClass .int ∈ TT) (hsh : sh N = (1, n)) (hA : ∀ j : Nat, A N (j : Int) = 0) (e1 : nc + 1 = nc2) (e2 : ns + n = ns2) (e3 : N + 1 = N2) (hcells : nc2 ≤ Rm.cells) (hslots : ns2 ≤ Rm.slots) (hd : decode cc pc = .ok (.newarray .int, 2)) (h2 : pc + 2 = pc2) (k : X p l e Rm s m args below meth c Q (inH β) D ids β sh nL nc2 ns2 N2 R F A loc (rf N :: stk) pc2) : X p l e Rm s m args below meth c Q (inH β) D ids β sh nL nc ns N R F A loc (pI z :: stk) pc := by
  subst h2; subst e1; subst e2; subst e3; subst hzn
  intro H locs ls a1 a2 a3 a4
  refine va_newa (cl := cl9) (tys := tys4 ids) (atype := .int) (ty := .int) (n := Int32.ofInt (n : Int)) (N' := n) (a0 := (n, .inl (fun j => Int32.ofInt (A N j)))) hC.1 hC.2.1 (hC.2.2.2.2 _ harr) rfl hK.1 a1 (mkW_D a3) a2 (fun q hq => by show β ≤ q; omega) (fun cA => ?_) ?_ ?_ hb hcells hslots hd (fun q cA H1 hK1 hP hD hS => ?_)
  · show arrV cA n (fun j => .int (Int32.ofInt (A N j))) = _
    congr 1
    funext j
    rw [hA]
    rfl
  · rw [show (0 : Int32) = Int32.ofInt 0 from rfl, i32_lt ⟨by omega, by omega⟩ ⟨by omega, by omega⟩]; omega
  · rw [i32_clamp (by omega) (by omega)]; omega
  intro T hT X0
  have hq := new_at hP hD (by have := X0.heapSize; rw [hT] at this; omega)
  subst hq
  have hc : cA = ids 0 := Option.some.inj ((show s.vm.findClass ("[" ++ (FieldType.int).toString) = some cA from (hK1.2 4 (cA, .int) rfl).2).symm.trans (hK.1.2 0 (ids 0, .int) rfl).2)
  subst hc
  have e : mkW β N (celE β ids sh R F A) ++ [(β + N, .inl (ids 0, n, .inl (fun j => Int32.ofInt (A N j))))] = mkW β (N + 1) (celE β ids sh R F A) := by
    rw [mkW_succ, celE_int hsh]
  exact k H1 locs ls (e ▸ hP) hS (fun k hk => inH_k) a4 T hT X0
theorem x_newl (hC : CallFix p m c cc nL s args TT own) {n : Nat} {z : Int} (hK : KN D ids s) (hz : s.heap.size = β + N0) (hN : N = N0 + nc) (hzn : z = (n : Int)) (hn : n ≤ 2147483647) (hb : n * componentBytes .long ≤ 536870912) (harr : Cond.arrayClass .long ∈ TT) (hsh : sh N = (2, n)) (hA : ∀ j : Nat, A N (j : Int) = 0) (e1 : nc + 1 = nc2) (e2 : ns + n = ns2) (e3 : N + 1 = N2) (hcells : nc2 ≤ Rm.cells) (hslots : ns2 ≤ Rm.slots) (hd : decode cc pc = .ok (.newarray .long, 2)) (h2 : pc + 2 = pc2) (k : X p l e Rm s m args below meth c Q (inH β) D ids β sh nL nc2 ns2 N2 R F A loc (rf N :: stk) pc2) : X p l e Rm s m args below meth c Q (inH β) D ids β sh nL nc ns N R F A loc (pI z :: stk) pc := by
  subst h2; subst e1; subst e2; subst e3; subst hzn
  intro H locs ls a1 a2 a3 a4
  refine va_newa (cl := cl9) (tys := tys4 ids) (atype := .long) (ty := .long) (n := Int32.ofInt (n : Int)) (N' := n) (a0 := (n, .inr (.inl (fun j => Int64.ofInt (A N j))))) hC.1 hC.2.1 (hC.2.2.2.2 _ harr) rfl hK.1 a1 (mkW_D a3) a2 (fun q hq => by show β ≤ q; omega) (fun cA => ?_) ?_ ?_ hb hcells hslots hd (fun q cA H1 hK1 hP hD hS => ?_)
  · show arrV cA n (fun j => .long (Int64.ofInt (A N j))) = _
    congr 1
    funext j
    rw [hA]
    rfl
  · rw [show (0 : Int32) = Int32.ofInt 0 from rfl, i32_lt ⟨by omega, by omega⟩ ⟨by omega, by omega⟩]; omega
  · rw [i32_clamp (by omega) (by omega)]; omega
  intro T hT X0
  have hq := new_at hP hD (by have := X0.heapSize; rw [hT] at this; omega)
  subst hq
  have hc : cA = ids 1 := Option.some.inj ((show s.vm.findClass ("[" ++ (FieldType.long).toString) = some cA from (hK1.2 4 (cA, .long) rfl).2).symm.trans (hK.1.2 1 (ids 1, .long) rfl).2)
  subst hc
  have e : mkW β N (celE β ids sh R F A) ++ [(β + N, .inl (ids 1, n, .inr (.inl (fun j => Int64.ofInt (A N j)))))] = mkW β (N + 1) (celE β ids sh R F A) := by
    rw [mkW_succ, celE_long hsh]
  exact k H1 locs ls (e ▸ hP) hS (fun k hk => inH_k) a4 T hT X0
theorem celE_qR {n k : Nat} (h : sh k = (3, n)) : celE β ids sh R F A k = .inl (ids 2, n, .inr (.inr (.inr (.inr (fun j => (R k j).map (fun a => β + a)))))) := by
  unfold celE; rw [h]; try rfl
theorem x_newqR (hC : CallFix p m c cc nL s args TT own) {n idx : Nat} {z : Int} (hK : KN D ids s) (hz : s.heap.size = β + N0) (hN : N = N0 + nc) (hzn : z = (n : Int)) (hn : n ≤ 100000000) (hcl : Cond.classLink own idx "PortsBench$Ratio" ∈ TT) (hsh : sh N = (3, n)) (e1 : nc + 1 = nc2) (e2 : ns + n = ns2) (e3 : N + 1 = N2) (hcells : nc2 ≤ Rm.cells) (hslots : ns2 ≤ Rm.slots) (hd : decode cc pc = .ok (.anewarray idx, 3)) (h2 : pc + 3 = pc2) (k : X p l e Rm s m args below meth c Q (inH β) D ids β sh nL nc2 ns2 N2 (mR R N 0) F A loc (rf N :: stk) pc2) : X p l e Rm s m args below meth c Q (inH β) D ids β sh nL nc ns N R F A loc (pI z :: stk) pc := by
  subst h2; subst e1; subst e2; subst e3; subst hzn
  obtain ⟨a1w, a2w, a3w, a4w, a5w, a6w, a7w, a8w, a9, a10⟩ := hK.2
  intro H locs ls a1 a2 a3 a4
  refine va_newq (cl := cl9) (tys := tys4 ids) (C := "PortsBench$Ratio") (n := Int32.ofInt (n : Int)) (N' := n) hC.1 hC.2.1 hC.2.2.2.1 (hC.2.2.2.2 _ hcl) a9 hK.1 a1 (mkW_D a3) a2 (fun q hq => by show β ≤ q; omega) ?_ ?_ (by omega) hcells hslots hd (fun q cA H1 hK1 hP hD hS => ?_)
  · rw [show (0 : Int32) = Int32.ofInt 0 from rfl, i32_lt ⟨by omega, by omega⟩ ⟨by omega, by omega⟩]; omega
  · rw [i32_clamp (by omega) (by omega)]; omega
  intro T hT X0
  have hq := new_at hP hD (by have := X0.heapSize; rw [hT] at this; omega)
  subst hq
  have hc : cA = ids 2 := by
    obtain ⟨_, _, _, _, _, h4⟩ := (hK1.2 4 (cA, .object "PortsBench$Ratio") rfl).2
    obtain ⟨_, _, _, _, _, h5⟩ := (hK.1.2 2 (ids 2, .object "PortsBench$Ratio") rfl).2
    exact Option.some.inj (h4.symm.trans h5)
  subst hc
  have e : mkW β N (celE β ids sh R F A) ++ [(β + N, .inl (ids 2, n, .inr (.inr (.inr (.inr (fun _ => none))))))] = mkW β (N + 1) (celE β ids sh (mR R N 0) F A) := by
    rw [mkW_succ, celE_qR hsh, mkW_ext (E' := celE β ids sh (mR R N 0) F A) (fun k hk => (celE_R (mR_ne (by omega))).symm)]
    rw [show (fun j => (mR R N 0 N j).map (fun a => β + a)) = fun _ => none from funext fun j => by rw [mR_o]; rfl]
  exact k H1 locs ls (e ▸ hP) hS (fun k hk => inH_k) a4 T hT X0
theorem x_alenqR (hC : CallFix p m c cc nL s args TT own) {n a : Nat} (hK : KN D ids s) (ha : a < N) (hsh : sh a = (3, n)) (hd : decode cc pc = .ok (.arraylength, 1)) (h2 : pc + 1 = pc2) (k : X p l e Rm s m args below meth c Q G D ids β sh nL nc ns N R F A loc (pI (n : Int) :: stk) pc2) : X p l e Rm s m args below meth c Q G D ids β sh nL nc ns N R F A loc (rf a :: stk) pc := by
  subst h2
  intro H locs ls a1 a2 a3 a4
  exact va_alen (x := (n, .inr (.inr (.inr (.inr (fun j => (R a j).map (fun a => β + a))))))) (tys := tys4 ids) hC.1 hC.2.1 hK.1 a1 a 2 (by rw [mkW_get ha, celE_qR hsh]) rfl rfl hd (k H locs ls a1 a2 a3 a4)
theorem x_aastR (hC : CallFix p m c cc nL s args TT own) {n a v : Nat} {i : Int} (hK : KN D ids s) (ha : a < N) (hsh : sh a = (3, n)) (hv : v < N) (hshv : sh v = (0, 4)) (hi : 0 ≤ i ∧ i < (n : Int)) (hn : n ≤ 2147483647) (hR : uR R a i.toNat (some v) = R2) (hd : decode cc pc = .ok (.aastore, 1)) (h2 : pc + 1 = pc2) (k : X p l e Rm s m args below meth c Q G D ids β sh nL nc ns N R2 F A loc stk pc2) : X p l e Rm s m args below meth c Q G D ids β sh nL nc ns N R F A loc (rf v :: pI i :: rf a :: stk) pc := by
  subst h2; subst hR
  intro H locs ls a1 a2 a3 a4
  refine va_astq (tys := tys4 ids) (i := Int32.ofInt i) hC.1 hC.2.1 hK.1 a1 (mkW_D a3) a2 a 2 v 4 (by rw [mkW_get ha, celE_qR hsh]) rfl (by rw [mkW_get hv, celE_obj hshv]) rfl (i32_inI hi.1 hi.2 (by omega)) hd (fun H1 locs1 b1 b2 b3 => ?_)
  have e : (mkW β N (celE β ids sh R F A)).set a (β + a, .inl (ids 2, n, .inr (.inr (.inr (.inr (va_up (fun j => (R a j).map (fun a => β + a)) (Int32.ofInt i).toNatClampNeg (some (β + v)))))))) = mkW β N (celE β ids sh (uR R a i.toNat (some v)) F A) := by
    rw [show va_up (fun j => (R a j).map (fun a => β + a)) (Int32.ofInt i).toNatClampNeg (some (β + v)) = fun j => (uR R a i.toNat (some v) a j).map (fun a => β + a) from by
      funext j
      rw [i32_clamp hi.1 (by omega)]
      by_cases q : j = i.toNat
      · rw [q, va_up_self, uR_eq]; rfl
      · rw [va_up_ne _ _ q, uR_nj q], ← celE_qR (ids := ids) (sh := sh) (R := uR R a i.toNat (some v)) (F := F) (A := A) hsh]
    exact mkW_set (fun j h => celE_R (uR_ne h))
  exact k H1 locs1 ls (e ▸ b1) b3 a3 a4
theorem celE_qG {n k : Nat} (h : sh k = (4, n)) : celE β ids sh R F A k = .inl (ids 3, n, .inr (.inr (.inr (.inr (fun j => (R k j).map (fun a => β + a)))))) := by
  unfold celE; rw [h]; try rfl
theorem x_newqG (hC : CallFix p m c cc nL s args TT own) {n idx : Nat} {z : Int} (hK : KN D ids s) (hz : s.heap.size = β + N0) (hN : N = N0 + nc) (hzn : z = (n : Int)) (hn : n ≤ 100000000) (hcl : Cond.classLink own idx "PortsBench$Gauss" ∈ TT) (hsh : sh N = (4, n)) (e1 : nc + 1 = nc2) (e2 : ns + n = ns2) (e3 : N + 1 = N2) (hcells : nc2 ≤ Rm.cells) (hslots : ns2 ≤ Rm.slots) (hd : decode cc pc = .ok (.anewarray idx, 3)) (h2 : pc + 3 = pc2) (k : X p l e Rm s m args below meth c Q (inH β) D ids β sh nL nc2 ns2 N2 (mR R N 0) F A loc (rf N :: stk) pc2) : X p l e Rm s m args below meth c Q (inH β) D ids β sh nL nc ns N R F A loc (pI z :: stk) pc := by
  subst h2; subst e1; subst e2; subst e3; subst hzn
  obtain ⟨a1w, a2w, a3w, a4w, a5w, a6w, a7w, a8w, a9, a10⟩ := hK.2
  intro H locs ls a1 a2 a3 a4
  refine va_newq (cl := cl9) (tys := tys4 ids) (C := "PortsBench$Gauss") (n := Int32.ofInt (n : Int)) (N' := n) hC.1 hC.2.1 hC.2.2.2.1 (hC.2.2.2.2 _ hcl) a10 hK.1 a1 (mkW_D a3) a2 (fun q hq => by show β ≤ q; omega) ?_ ?_ (by omega) hcells hslots hd (fun q cA H1 hK1 hP hD hS => ?_)
  · rw [show (0 : Int32) = Int32.ofInt 0 from rfl, i32_lt ⟨by omega, by omega⟩ ⟨by omega, by omega⟩]; omega
  · rw [i32_clamp (by omega) (by omega)]; omega
  intro T hT X0
  have hq := new_at hP hD (by have := X0.heapSize; rw [hT] at this; omega)
  subst hq
  have hc : cA = ids 3 := by
    obtain ⟨_, _, _, _, _, h4⟩ := (hK1.2 4 (cA, .object "PortsBench$Gauss") rfl).2
    obtain ⟨_, _, _, _, _, h5⟩ := (hK.1.2 3 (ids 3, .object "PortsBench$Gauss") rfl).2
    exact Option.some.inj (h4.symm.trans h5)
  subst hc
  have e : mkW β N (celE β ids sh R F A) ++ [(β + N, .inl (ids 3, n, .inr (.inr (.inr (.inr (fun _ => none))))))] = mkW β (N + 1) (celE β ids sh (mR R N 0) F A) := by
    rw [mkW_succ, celE_qG hsh, mkW_ext (E' := celE β ids sh (mR R N 0) F A) (fun k hk => (celE_R (mR_ne (by omega))).symm)]
    rw [show (fun j => (mR R N 0 N j).map (fun a => β + a)) = fun _ => none from funext fun j => by rw [mR_o]; rfl]
  exact k H1 locs ls (e ▸ hP) hS (fun k hk => inH_k) a4 T hT X0
theorem x_alenqG (hC : CallFix p m c cc nL s args TT own) {n a : Nat} (hK : KN D ids s) (ha : a < N) (hsh : sh a = (4, n)) (hd : decode cc pc = .ok (.arraylength, 1)) (h2 : pc + 1 = pc2) (k : X p l e Rm s m args below meth c Q G D ids β sh nL nc ns N R F A loc (pI (n : Int) :: stk) pc2) : X p l e Rm s m args below meth c Q G D ids β sh nL nc ns N R F A loc (rf a :: stk) pc := by
  subst h2
  intro H locs ls a1 a2 a3 a4
  exact va_alen (x := (n, .inr (.inr (.inr (.inr (fun j => (R a j).map (fun a => β + a))))))) (tys := tys4 ids) hC.1 hC.2.1 hK.1 a1 a 3 (by rw [mkW_get ha, celE_qG hsh]) rfl rfl hd (k H locs ls a1 a2 a3 a4)
theorem x_aastG (hC : CallFix p m c cc nL s args TT own) {n a v : Nat} {i : Int} (hK : KN D ids s) (ha : a < N) (hsh : sh a = (4, n)) (hv : v < N) (hshv : sh v = (0, 1)) (hi : 0 ≤ i ∧ i < (n : Int)) (hn : n ≤ 2147483647) (hR : uR R a i.toNat (some v) = R2) (hd : decode cc pc = .ok (.aastore, 1)) (h2 : pc + 1 = pc2) (k : X p l e Rm s m args below meth c Q G D ids β sh nL nc ns N R2 F A loc stk pc2) : X p l e Rm s m args below meth c Q G D ids β sh nL nc ns N R F A loc (rf v :: pI i :: rf a :: stk) pc := by
  subst h2; subst hR
  intro H locs ls a1 a2 a3 a4
  refine va_astq (tys := tys4 ids) (i := Int32.ofInt i) hC.1 hC.2.1 hK.1 a1 (mkW_D a3) a2 a 3 v 1 (by rw [mkW_get ha, celE_qG hsh]) rfl (by rw [mkW_get hv, celE_obj hshv]) rfl (i32_inI hi.1 hi.2 (by omega)) hd (fun H1 locs1 b1 b2 b3 => ?_)
  have e : (mkW β N (celE β ids sh R F A)).set a (β + a, .inl (ids 3, n, .inr (.inr (.inr (.inr (va_up (fun j => (R a j).map (fun a => β + a)) (Int32.ofInt i).toNatClampNeg (some (β + v)))))))) = mkW β N (celE β ids sh (uR R a i.toNat (some v)) F A) := by
    rw [show va_up (fun j => (R a j).map (fun a => β + a)) (Int32.ofInt i).toNatClampNeg (some (β + v)) = fun j => (uR R a i.toNat (some v) a j).map (fun a => β + a) from by
      funext j
      rw [i32_clamp hi.1 (by omega)]
      by_cases q : j = i.toNat
      · rw [q, va_up_self, uR_eq]; rfl
      · rw [va_up_ne _ _ q, uR_nj q], ← celE_qG (ids := ids) (sh := sh) (R := uR R a i.toNat (some v)) (F := F) (A := A) hsh]
    exact mkW_set (fun j h => celE_R (uR_ne h))
  exact k H1 locs1 ls (e ▸ b1) b3 a3 a4
theorem x_callI (hC : CallFix p m c cc nL s args TT own) {y : MethodName} {bytes : ByteArray} {maxL fr lo idx n mc ms N3 : Nat} {av : List PV} {stk2 : List PV} {post : Option PV → (Nat → Nat → Int) → (Nat → Int → Int) → Prop} {b : Nat} (hK : KN D ids s) (hz : s.heap.size = β + N0) (hN : N = N0 + nc) (hM : MetN l y bytes maxL none fr lo mc ms D ids β sh N N3 R R2 F A (rf b :: av) post) (hL : LinkI own idx y bytes maxL n) (hn : av.length = n) (hR : fr + 1 ≤ Rm.frames ∧ 8 + (maxL + 11) + lo ≤ Rm.locals) (e1 : nc + mc = nc2) (e2 : ns + ms = ns2) (e3 : N3 = N2) (hcs : nc2 ≤ Rm.cells ∧ ns2 ≤ Rm.slots)
    (hs : av.reverse ++ rf b :: stk = stk2) (hsm : (stk.map fun v => (tv β v).category).sum ≤ 8) (hd : decode cc pc = .ok (.invokespecial idx, 3)) (h2 : pc + 3 = pc2)
    (kk : ∀ (r : Option PV) (F' : Nat → Nat → Int) (A' : Nat → Int → Int), post r F' A' → X p l e Rm s m args below meth c Q (inH β) D ids β sh nL nc2 ns2 N2 R2 F' A' loc (r.toList ++ stk) pc2) : X p l e Rm s m args below meth c Q (inH β) D ids β sh nL nc ns N R F A loc (stk2) pc := by
  subst h2; subst hs; subst e1; subst e2; subst e3
  obtain ⟨hx, hb0, hml, hown, hts⟩ := id hC
  obtain ⟨l1, l2, l4, l5, l6, l7⟩ := hL
  intro H locs ls a1 a2 a3 a4
  have hst : (av.reverse ++ rf b :: stk).map (tv β) = (av.map (tv β)).reverse ++ .ref (β + b) :: stk.map (tv β) := by simp [List.map_append, List.map_reverse, tv, va_rf]
  rw [hst]
  intro T hT X0
  have hH := size_of hz hN a1 a2.1 hT X0
  have pre : PreS s H (PN D ids β sh N R F A (rf b :: av)) (.ref (β + b) :: av.map (tv β)) := ⟨PN_blind, fun U hU hW => ⟨rfl, ⟨KN.warm hW hK, by rw [hU]; exact hH⟩, by rw [hU]; exact a1⟩⟩
  have run : va_Run p l e Rm s m args below meth c H locs nc ns mc ms (F0 m pc ls ((av.map (tv β)).reverse ++ .ref (β + b) :: stk.map (tv β))) (stk.map (tv β)) (QN D ids β sh N3 R2 post (Value.ref (β + b) :: av.map (tv β)).toArray) (inH β) := by
    rcases l1 with l1 | l1
    · exact va_runI ⟨hx, hb0, hml, hown, hts⟩ hM ⟨callB_of n hts (TT_cons l5) rfl rfl rfl (hts _ l4) (hts _ l1) l7 hR, l6, hts _ l2⟩ pre rfl (by rw [List.length_map]; exact hn) a4.1 rfl (lv_room (by rw [List.map_map]; exact hsm)) hd hcs
    · exact va_runIN (host := "PortsBench") ⟨hx, hb0, hml, hown, hts⟩ hM ⟨va_cnB n hts (TT_cons l5) rfl rfl rfl (l1 s hK.2) (hts _ l4) l7 hR, l6, hts _ l2⟩ pre rfl (by rw [List.length_map]; exact hn) a4.1 rfl (lv_room (by rw [List.map_map]; exact hsm)) hd hcs
  obtain ⟨v, st₀, t, T', L, h0, X', hL, e1, e2, ⟨⟨r, F', A', hv, hp, hP⟩, hz2, hk⟩, st⟩ := run T hT X0
  have hv : v = r.map (tv β) := Outcome.returned.inj hv
  subst hv
  rw [h0] at hz2 hk
  obtain ⟨t2, b1, b2⟩ := kk r F' A' hp T'.heap (locs ++ L) ls (by rw [e1]; exact hP) ⟨Nat.le_trans a2.1 (by rw [e1]; exact hz2), fun q h1 h2 => by rw [e1, hk q (Nat.lt_of_lt_of_le h1 a2.1) h2]; exact a2.2.1 q h1 h2, fun q hq => by
      rcases List.mem_append.mp hq with h | h
      · exact a2.2.2 q h
      · exact hL q h⟩ (fun k hk => inH_k) a4 T' rfl X'
  refine ⟨t2, st t2 ?_, b2⟩
  rw [show (r.map (tv β)).toList ++ stk.map (tv β) = (r.toList ++ stk).map (tv β) by cases r <;> rfl]
  exact b1
theorem x_callSN (hC : CallFix p m c cc nL s args TT own) {y : MethodName} {bytes : ByteArray} {maxL fr lo idx n mc ms N3 : Nat} {ret : Option FieldType} {av : List PV} {stk2 : List PV} {post : Option PV → (Nat → Nat → Int) → (Nat → Int → Int) → Prop} (hK : KN D ids s) (hz : s.heap.size = β + N0) (hN : N = N0 + nc) (hM : MetN l y bytes maxL ret fr lo mc ms D ids β sh N N3 R R2 F A av post) (hL : LinkS own idx y bytes maxL ret n) (hn : av.length = n) (hR : fr + 1 ≤ Rm.frames ∧ 8 + (maxL + 11) + lo ≤ Rm.locals) (e1 : nc + mc = nc2) (e2 : ns + ms = ns2) (e3 : N3 = N2) (hcs : nc2 ≤ Rm.cells ∧ ns2 ≤ Rm.slots)
    (hs : av.reverse ++ stk = stk2) (hsm : (stk.map fun v => (tv β v).category).sum ≤ 8) (hd : decode cc pc = .ok (.invokestatic idx, 3)) (h2 : pc + 3 = pc2)
    (kk : ∀ (r : Option PV) (F' : Nat → Nat → Int) (A' : Nat → Int → Int), post r F' A' → X p l e Rm s m args below meth c Q (inH β) D ids β sh nL nc2 ns2 N2 R2 F' A' loc (r.toList ++ stk) pc2) : X p l e Rm s m args below meth c Q (inH β) D ids β sh nL nc ns N R F A loc (stk2) pc := by
  subst h2; subst hs; subst e1; subst e2; subst e3
  obtain ⟨hx, hb0, hml, hown, hts⟩ := id hC
  obtain ⟨l1, l2, l4, l5, l6⟩ := hL
  intro H locs ls a1 a2 a3 a4
  have hst : (av.reverse ++ stk).map (tv β) = (av.map (tv β)).reverse ++ stk.map (tv β) := by simp [List.map_append, List.map_reverse]
  rw [hst]
  intro T hT X0
  have hH := size_of hz hN a1 a2.1 hT X0
  have hcw : CallB Rm s args own idx y bytes maxL ret (.code y bytes maxL ret :: TT) { frames := fr, cells := mc, slots := ms, locals := lo } mc ms n ∧ (Cond.static y).before args s = true := ⟨callB_of n hts (TT_cons l5) rfl rfl rfl (hts _ l4) (hts _ l1) l6 hR, hts _ l2⟩
  have run := va_runS (meth := meth) (below := below) (e := e) (locs := locs) (cells := nc) (slots := ns) (As := av.map (tv β)) (rest := stk.map (tv β)) (g := F0 m pc ls ((av.map (tv β)).reverse ++ stk.map (tv β))) ⟨hx, hb0, hml, hown, hts⟩ hM hcw
    ⟨PN_blind, fun U hU hW => ⟨rfl, ⟨KN.warm hW hK, by rw [hU]; exact hH⟩, by rw [hU]; exact a1⟩⟩ rfl (by rw [List.length_map]; exact hn) a4.1 rfl (lv_room (by rw [List.map_map]; exact hsm)) hd hcs
  obtain ⟨v, st₀, t, T', L, h0, X', hL, e1, e2, ⟨⟨r, F', A', hv, hp, hP⟩, hz2, hk⟩, st⟩ := run T hT X0
  have hv : v = r.map (tv β) := Outcome.returned.inj hv
  subst hv
  rw [h0] at hz2 hk
  obtain ⟨t2, b1, b2⟩ := kk r F' A' hp T'.heap (locs ++ L) ls (by rw [e1]; exact hP) ⟨Nat.le_trans a2.1 (by rw [e1]; exact hz2), fun q h1 h2 => by rw [e1, hk q (Nat.lt_of_lt_of_le h1 a2.1) h2]; exact a2.2.1 q h1 h2, fun q hq => by
      rcases List.mem_append.mp hq with h | h
      · exact a2.2.2 q h
      · exact hL q h⟩ (fun k hk => inH_k) a4 T' rfl X'
  refine ⟨t2, st t2 ?_, b2⟩
  rw [show (r.map (tv β)).toList ++ stk.map (tv β) = (r.toList ++ stk).map (tv β) by cases r <;> rfl]
  exact b1
theorem x_vretN (hC : CallFix p m c cc nL s args TT own) {post : Option PV → (Nat → Nat → Int) → (Nat → Int → Int) → Prop} {mc ms : Nat} (hr : meth.sig.returnType = none) (hlk : meth.locks = false) (hp : post none F A) (hd : decode cc pc = .ok (.return_, 1)) : X p l e Rm s m args below meth c (MQ below (QN D ids β sh N R post) args s mc ms (inH β)) (inH β) D ids β sh nL mc ms N R F A loc ([]) pc := by
  intro H locs ls a1 a2 a3 a4; exact W.vret hC.1 hC.2.1 hr (fun t ht hW => ⟨⟨none, F, A, rfl, hp, by rw [ht]; exact a1⟩, a2.F ht⟩) a2.2.2 hd hlk
theorem x_aretN (hC : CallFix p m c cc nL s args TT own) {post : Option PV → (Nat → Nat → Int) → (Nat → Int → Int) → Prop} {mc ms a : Nat} {t : FieldType} (hr : meth.sig.returnType = some (.array t)) (hlk : meth.locks = false) (hp : post (some (rf a)) F A) (hd : decode cc pc = .ok (.areturn, 1)) : X p l e Rm s m args below meth c (MQ below (QN D ids β sh N R post) args s mc ms (inH β)) (inH β) D ids β sh nL mc ms N R F A loc ([rf a]) pc := by
  intro H locs ls a1 a2 a3 a4; exact W.aret hC.1 hC.2.1 hr (Or.inr ⟨_, rfl⟩) (Or.inr ⟨_, rfl⟩) (fun t ht hW => ⟨⟨some (rf a), F, A, rfl, hp, by rw [ht]; exact a1⟩, a2.F ht⟩) a2.2.2 hd hlk
end XN
