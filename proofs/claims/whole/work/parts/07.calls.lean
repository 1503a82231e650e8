def inG (β N : Nat) : Nat → Prop := fun q => β ≤ q ∧ q < β + N
theorem inG_of {β N k : Nat} (h : k < N) : inG β N (β + k) := ⟨by omega, by omega⟩
/-- a method's start: its arguments, what is known of the classes, the world -/
def PX (D : va_G) (ids : Nat → ClassId) (β : Nat) (sh : Nat → Nat × Nat) (N : Nat) (R : Nat → Nat → Option Nat) (F : Nat → Nat → Int) (A : Nat → Int → Int) (av : List PV) : Array Value → State → Prop :=
  va_Pc (av.map (tv β)) (fun U => KN D ids U ∧ va_P D cl9 (mkW β N (celE β ids sh R F A)) U.heap)
/-- a method's end: its answer and the new world's F and A -/
def QX (D : va_G) (ids : Nat → ClassId) (β : Nat) (sh : Nat → Nat × Nat) (N : Nat) (R : Nat → Nat → Option Nat) (post : Option PV → (Nat → Nat → Int) → (Nat → Int → Int) → Prop) : Array Value → State → Outcome → State → Prop := fun _ st oc t =>
  (∃ (r : Option PV) (F' : Nat → Nat → Int) (A' : Nat → Int → Int), oc = .returned (r.map (tv β)) ∧ post r F' A' ∧ va_P D cl9 (mkW β N (celE β ids sh R F' A')) t.heap) ∧ va_F (inG β N) st t
def MetX (l : Launch) (y : MethodName) (bytes : ByteArray) (maxL : Nat) (ret : Option FieldType) (fr lo : Nat) (D : va_G) (ids : Nat → ClassId) (β : Nat) (sh : Nat → Nat × Nat) (N : Nat) (R : Nat → Nat → Option Nat) (F : Nat → Nat → Int) (A : Nat → Int → Int) (av : List PV) (post : Option PV → (Nat → Nat → Int) → (Nat → Int → Int) → Prop) : Prop :=
  Met l y (.code y bytes maxL ret :: TT) { frames := fr, cells := 0, slots := 0, locals := lo } (PX D ids β sh N R F A av) (QX D ids β sh N R post) 0 0 (inG β N)
theorem PX_blind {D : va_G} {ids : Nat → ClassId} {β : Nat} {sh : Nat → Nat × Nat} {N : Nat} {R : Nat → Nat → Option Nat} {F : Nat → Nat → Int} {A : Nat → Int → Int} {av : List PV} : FrameBlind (PX D ids β sh N R F A av) :=
  fun a U g mk q => ⟨q.1, KN.same rfl q.2.1, q.2.2⟩
theorem lg_len {β : Nat} : ∀ av : List PV, (lg_sl (av.map (tv β))).length = (ent av).length
  | [] => rfl
  | .inl z :: t => by
    have h := lg_len (β := β) t
    simp only [lg_sl, List.map_cons, List.flatMap_cons, List.length_append, ent, List.length_cons] at h ⊢
    rw [h]; simp [tv, Value.category, Nat.add_comm]
  | .inr (.inl z) :: t => by
    have h := lg_len (β := β) t
    simp only [lg_sl, List.map_cons, List.flatMap_cons, List.length_append, ent, List.length_cons] at h ⊢
    rw [h]; simp [tv, Value.category]; omega
  | .inr (.inr r) :: t => by
    have h := lg_len (β := β) t
    simp only [lg_sl, List.map_cons, List.flatMap_cons, List.length_append, ent, List.length_cons] at h ⊢
    rw [h]; cases r <;> simp [tv, va_rf, Value.category, Nat.add_comm]
theorem Met_ofWF {l : Launch} {y : MethodName} {ws ws' : List Cond} {rm : Room} {Pc : Array Value → State → Prop} {Qc : Array Value → State → Outcome → State → Prop} {mc ms : Nat} {free : Addr → Prop} {cc : ByteArray} {maxL : Nat} {ret : Option FieldType}
    (hy : plainFor y = true) (hw : ws = Cond.code y cc maxL ret :: ws')
    (body : ∀ p e s m args below meth c s₁, BodyLoose p l y (headSpec ws rm) cc maxL ret e s m args below meth c s₁ → c.maxLocals = maxL → Pc args s →
      W p l e (headSpec ws rm).room s m args below meth c s.heap [] 0 0 (MQ below Qc args s mc ms free) (entryFrame m args maxL)) : Met l y ws rm Pc Qc mc ms free := by
  refine MetFree.of_bodySF (code := cc) (maxLocals := maxL) (ret := ret) hy ?_ ?_
  · intro args s m h hn
    obtain ⟨meth, c, h1, h2, h3, h4, h5, h6, -, -⟩ := Cond.code_spec hn (atoms_spec (ws := ws) h _ (by rw [hw]; exact List.mem_cons_self))
    exact ⟨meth, c, h1, h2, h3, h4, h5, h6⟩
  · intro p e s m args below meth c s₁ B hml hP _
    have hh0 : s₁.heap = s.heap := by rw [B.state]; rfl
    obtain ⟨t, a1, o, b1, b2, b3⟩ := body p e s m args below meth c s₁ B hml hP s₁ hh0 (Stand.of_body B)
    exact ⟨t, o, a1, b1, b2, ⟨b3.1, b3.2⟩⟩
theorem MetX.of {l : Launch} {y : MethodName} {bytes : ByteArray} {maxL : Nat} {ret : Option FieldType} {fr lo : Nat} {D : va_G} {ids : Nat → ClassId} {β : Nat} {sh : Nat → Nat × Nat} {N : Nat} {R : Nat → Nat → Option Nat} {F : Nat → Nat → Int} {A : Nat → Int → Int} {av : List PV} {post : Option PV → (Nat → Nat → Int) → (Nat → Int → Int) → Prop} {loc : List (Option PV)}
    (hy : plainFor y = true) (hlen : (ent av).length ≤ maxL) (hloc : ent av ++ List.replicate (maxL - (ent av).length) none = loc)
    (body : ∀ (p : Program) (e : Env) (s : State) (m : MethodId) (args : Array Value) (below : List Frame) (meth : Method) (c : Code), CallFix p m c bytes maxL s args TT y.cls → KN D ids s → meth.sig.returnType = ret → meth.locks = false →
      X p l e { frames := fr, cells := 0, slots := 0, locals := lo } s m args below meth c (MQ below (QX D ids β sh N R post) args s 0 0 (inG β N)) (inG β N) D ids β sh maxL 0 0 N R F A loc [] 0) : MetX l y bytes maxL ret fr lo D ids β sh N R F A av post := by
  refine Met_ofWF (cc := bytes) (maxL := maxL) (ret := ret) hy rfl ?_
  intro p e s m args below meth c s₁ B hml hv
  obtain ⟨rfl, hK, hP⟩ := hv
  have hts := atoms_spec (ws := .code y bytes maxL ret :: TT) B.pre
  have hown : s.vm.findClass y.cls = some m.cls := findClass_of_methodNamed B.named
  have hl := lv_entry (av.map (tv β)) (n := maxL) (by rw [lg_len]; exact hlen)
  rw [lg_entry_eq]
  refine body p e s m _ below meth c ⟨B.exec, B.bytes, hml, hown, fun w hw => hts w (List.mem_cons_of_mem _ hw)⟩ hK B.returns B.notSynchronized s.heap [] _ hP va_S.rf (fun k hk => inG_of hk) (lv_less hl (fun q hq => ?_))
  rw [← hloc] at hq
  exact ent_mem av 0 _ q hq
/-- what a call's link needs of the tables -/
def LinkV (own : String) (idx : Nat) (y : MethodName) (bytes : ByteArray) (maxL : Nat) (ret : Option FieldType) (n : Nat) : Prop :=
  Cond.methodLink own idx y ∈ TT ∧ Cond.instanceMethod y ∈ TT ∧ Cond.selects y.cls y y ∈ TT ∧ Cond.initialized y.cls ∈ TT ∧ Cond.code y bytes maxL ret ∈ TT ∧ y.cls ≠ "java/lang/invoke/MethodHandle" ∧ y.cls ≠ "java/lang/invoke/VarHandle" ∧ (parseMethodDescriptor y.desc).map (fun d => d.parameters.length) = some n
def LinkS (own : String) (idx : Nat) (y : MethodName) (bytes : ByteArray) (maxL : Nat) (ret : Option FieldType) (n : Nat) : Prop :=
  Cond.methodLink own idx y ∈ TT ∧ Cond.static y ∈ TT ∧ Cond.initialized y.cls ∈ TT ∧ Cond.code y bytes maxL ret ∈ TT ∧ y.cls ≠ "java/lang/invoke/MethodHandle" ∧ y.cls ≠ "java/lang/invoke/VarHandle" ∧ (parseMethodDescriptor y.desc).map (fun d => d.parameters.length) = some n
def LinkN (own : String) (idx : Nat) (y : MethodName) (bytes : ByteArray) (maxL : Nat) (ret : Option FieldType) (n : Nat) : Prop :=
  (∀ U, NW U → va_Nw (.methodLinkNest own idx y "PortsBench") U) ∧ Cond.static y ∈ TT ∧ Cond.initialized y.cls ∈ TT ∧ Cond.code y bytes maxL ret ∈ TT ∧ y.cls ≠ "java/lang/invoke/MethodHandle" ∧ y.cls ≠ "java/lang/invoke/VarHandle" ∧ (parseMethodDescriptor y.desc).map (fun d => d.parameters.length) = some n
section XC
variable {p : Program} {l : Launch} {e : Env} {Rm : Room} {s : State} {m : MethodId} {args : Array Value} {below : List Frame} {meth : Method} {c : Code} {Q : State → Prop} {G : Nat → Prop} {D : va_G} {ids : Nat → ClassId} {β : Nat} {sh : Nat → Nat × Nat} {nL nc ns N : Nat} {R : Nat → Nat → Option Nat} {F : Nat → Nat → Int} {A : Nat → Int → Int} {loc loc2 : List (Option PV)} {stk : List PV} {pc pc2 tgt : Nat} {cc : ByteArray} {own : String}
theorem x_callV (hC : CallFix p m c cc nL s args TT own) {y : MethodName} {bytes : ByteArray} {maxL fr lo idx n : Nat} {ret : Option FieldType} {av : List PV} {stk2 : List PV} {post : Option PV → (Nat → Nat → Int) → (Nat → Int → Int) → Prop} {b ci : Nat} (hK : KN D ids s) (hM : MetX l y bytes maxL ret fr lo D ids β sh N R F A (rf b :: av) post) (hL : LinkV own idx y bytes maxL ret n) (hn : av.length = n) (hcl : cR ci = y.cls) (hci : ci < 9) (hb : b < N) (hsh : sh b = (0, ci)) (hR : fr + 1 ≤ Rm.frames ∧ 8 + (maxL + 11) + lo ≤ Rm.locals) (hcs : nc ≤ Rm.cells ∧ ns ≤ Rm.slots)
    (hs : av.reverse ++ rf b :: stk = stk2) (hsm : (stk.map fun v => (tv β v).category).sum ≤ 8) (hd : decode cc pc = .ok (.invokevirtual idx, 3)) (h2 : pc + 3 = pc2)
    (kk : ∀ (r : Option PV) (F' : Nat → Nat → Int) (A' : Nat → Int → Int), post r F' A' → X p l e Rm s m args below meth c Q G D ids β sh nL nc ns N R F' A' loc (r.toList ++ stk) pc2) : X p l e Rm s m args below meth c Q G D ids β sh nL nc ns N R F A loc (stk2) pc := by
  subst h2; subst hs
  obtain ⟨hx, hb0, hml, hown, hts⟩ := id hC
  obtain ⟨l1, l2, l3, l4, l5, l6⟩ := hL
  intro H locs ls a1 a2 a3 a4
  have hst : (av.reverse ++ rf b :: stk).map (tv β) = (av.map (tv β)).reverse ++ .ref (β + b) :: stk.map (tv β) := by simp [List.map_append, List.map_reverse, tv, va_rf]
  rw [hst]
  have hG : GoodIn TT (wsV own idx y.cls y (.code y bytes maxL ret :: TT)) := fun w hw => by
    rcases List.mem_append.mp hw with hw | hw
    · exact TT_good w (by simp only [List.mem_cons, List.not_mem_nil, or_false] at hw; rcases hw with rfl | rfl | rfl | rfl <;> assumption)
    · exact TT_cons l5 w hw
  have run := va_runV (meth := meth) (below := below) (e := e) (locs := locs) (cells := nc) (slots := ns) (As := av.map (tv β)) (rest := stk.map (tv β)) (g := F0 m pc ls ((av.map (tv β)).reverse ++ .ref (β + b) :: stk.map (tv β))) ⟨hx, hb0, hml, hown, hts⟩ hM (cwV n hts hG rfl rfl rfl ⟨rfl, l6⟩ hR)
    ⟨PX_blind, by have h := va_recv hK.1 a1 (cl9_get hci) (q0 := b) (by rw [mkW_get hb, celE_obj hsh]); rwa [hcl] at h, fun U hU hW => ⟨rfl, KN.warm hW hK, by rw [hU]; exact a1⟩⟩ rfl (by rw [List.length_map]; exact hn) a4.1 rfl (lv_room (by rw [List.map_map]; exact hsm)) hd ⟨by simpa using hcs.1, by simpa using hcs.2⟩
  intro T hT X0
  obtain ⟨v, st₀, t, T', L, h0, X', hL, e1, e2, ⟨⟨r, F', A', hv, hp, hP⟩, hz, hk⟩, st⟩ := run T hT X0
  have hv : v = r.map (tv β) := Outcome.returned.inj hv
  subst hv
  rw [h0] at hz hk
  have inc : ∀ q, inG β N q → G q := fun q hq => by
    have h := a3 (q - β) (by have := hq.1; have := hq.2; omega)
    rwa [Nat.add_sub_cancel' hq.1] at h
  obtain ⟨t2, b1, b2⟩ := kk r F' A' hp T'.heap (locs ++ L) ls (by rw [e1]; exact hP) ⟨Nat.le_trans a2.1 (by rw [e1]; exact hz), fun q h1 h2 => by rw [e1, hk q (Nat.lt_of_lt_of_le h1 a2.1) (fun z => h2 (inc q z))]; exact a2.2.1 q h1 h2, fun q hq => by
      rcases List.mem_append.mp hq with h | h
      · exact a2.2.2 q h
      · exact inc _ (hL q h)⟩ a3 a4 T' rfl X'
  refine ⟨t2, st t2 ?_, b2⟩
  rw [show (r.map (tv β)).toList ++ stk.map (tv β) = (r.toList ++ stk).map (tv β) by cases r <;> rfl]
  exact b1
theorem x_callS (hC : CallFix p m c cc nL s args TT own) {y : MethodName} {bytes : ByteArray} {maxL fr lo idx n : Nat} {ret : Option FieldType} {av : List PV} {stk2 : List PV} {post : Option PV → (Nat → Nat → Int) → (Nat → Int → Int) → Prop} (hK : KN D ids s) (hM : MetX l y bytes maxL ret fr lo D ids β sh N R F A av post) (hL : LinkS own idx y bytes maxL ret n) (hn : av.length = n) (hR : fr + 1 ≤ Rm.frames ∧ 8 + (maxL + 11) + lo ≤ Rm.locals) (hcs : nc ≤ Rm.cells ∧ ns ≤ Rm.slots)
    (hs : av.reverse ++ stk = stk2) (hsm : (stk.map fun v => (tv β v).category).sum ≤ 8) (hd : decode cc pc = .ok (.invokestatic idx, 3)) (h2 : pc + 3 = pc2)
    (kk : ∀ (r : Option PV) (F' : Nat → Nat → Int) (A' : Nat → Int → Int), post r F' A' → X p l e Rm s m args below meth c Q G D ids β sh nL nc ns N R F' A' loc (r.toList ++ stk) pc2) : X p l e Rm s m args below meth c Q G D ids β sh nL nc ns N R F A loc (stk2) pc := by
  subst h2; subst hs
  obtain ⟨hx, hb0, hml, hown, hts⟩ := id hC
  obtain ⟨l1, l2, l4, l5, l6⟩ := hL
  intro H locs ls a1 a2 a3 a4
  have hst : (av.reverse ++ stk).map (tv β) = (av.map (tv β)).reverse ++ stk.map (tv β) := by simp [List.map_append, List.map_reverse]
  rw [hst]
  have hcw : CallB Rm s args own idx y bytes maxL ret (.code y bytes maxL ret :: TT) { frames := fr, cells := 0, slots := 0, locals := lo } 0 0 n ∧ (Cond.static y).before args s = true := ⟨callB_of n hts (TT_cons l5) rfl rfl rfl (hts _ l4) (hts _ l1) l6 hR, hts _ l2⟩
  have run := va_runS (meth := meth) (below := below) (e := e) (locs := locs) (cells := nc) (slots := ns) (As := av.map (tv β)) (rest := stk.map (tv β)) (g := F0 m pc ls ((av.map (tv β)).reverse ++ stk.map (tv β))) ⟨hx, hb0, hml, hown, hts⟩ hM hcw
    ⟨PX_blind, fun U hU hW => ⟨rfl, KN.warm hW hK, by rw [hU]; exact a1⟩⟩ rfl (by rw [List.length_map]; exact hn) a4.1 rfl (lv_room (by rw [List.map_map]; exact hsm)) hd ⟨by simpa using hcs.1, by simpa using hcs.2⟩
  intro T hT X0
  obtain ⟨v, st₀, t, T', L, h0, X', hL, e1, e2, ⟨⟨r, F', A', hv, hp, hP⟩, hz, hk⟩, st⟩ := run T hT X0
  have hv : v = r.map (tv β) := Outcome.returned.inj hv
  subst hv
  rw [h0] at hz hk
  have inc : ∀ q, inG β N q → G q := fun q hq => by
    have h := a3 (q - β) (by have := hq.1; have := hq.2; omega)
    rwa [Nat.add_sub_cancel' hq.1] at h
  obtain ⟨t2, b1, b2⟩ := kk r F' A' hp T'.heap (locs ++ L) ls (by rw [e1]; exact hP) ⟨Nat.le_trans a2.1 (by rw [e1]; exact hz), fun q h1 h2 => by rw [e1, hk q (Nat.lt_of_lt_of_le h1 a2.1) (fun z => h2 (inc q z))]; exact a2.2.1 q h1 h2, fun q hq => by
      rcases List.mem_append.mp hq with h | h
      · exact a2.2.2 q h
      · exact inc _ (hL q h)⟩ a3 a4 T' rfl X'
  refine ⟨t2, st t2 ?_, b2⟩
  rw [show (r.map (tv β)).toList ++ stk.map (tv β) = (r.toList ++ stk).map (tv β) by cases r <;> rfl]
  exact b1
theorem x_callN (hC : CallFix p m c cc nL s args TT own) {y : MethodName} {bytes : ByteArray} {maxL fr lo idx n : Nat} {ret : Option FieldType} {av : List PV} {stk2 : List PV} {post : Option PV → (Nat → Nat → Int) → (Nat → Int → Int) → Prop} (hK : KN D ids s) (hM : MetX l y bytes maxL ret fr lo D ids β sh N R F A av post) (hL : LinkN own idx y bytes maxL ret n) (hn : av.length = n) (hR : fr + 1 ≤ Rm.frames ∧ 8 + (maxL + 11) + lo ≤ Rm.locals) (hcs : nc ≤ Rm.cells ∧ ns ≤ Rm.slots)
    (hs : av.reverse ++ stk = stk2) (hsm : (stk.map fun v => (tv β v).category).sum ≤ 8) (hd : decode cc pc = .ok (.invokestatic idx, 3)) (h2 : pc + 3 = pc2)
    (kk : ∀ (r : Option PV) (F' : Nat → Nat → Int) (A' : Nat → Int → Int), post r F' A' → X p l e Rm s m args below meth c Q G D ids β sh nL nc ns N R F' A' loc (r.toList ++ stk) pc2) : X p l e Rm s m args below meth c Q G D ids β sh nL nc ns N R F A loc (stk2) pc := by
  subst h2; subst hs
  obtain ⟨hx, hb0, hml, hown, hts⟩ := id hC
  obtain ⟨l1, l2, l4, l5, l6⟩ := hL
  intro H locs ls a1 a2 a3 a4
  have hst : (av.reverse ++ stk).map (tv β) = (av.map (tv β)).reverse ++ stk.map (tv β) := by simp [List.map_append, List.map_reverse]
  rw [hst]
  have hcw : va_CN Rm s args own idx y "PortsBench" bytes maxL ret (.code y bytes maxL ret :: TT) { frames := fr, cells := 0, slots := 0, locals := lo } 0 0 n ∧ (Cond.static y).before args s = true ∧ True := ⟨va_cnB n hts (TT_cons l5) rfl rfl rfl (l1 s hK.2) (hts _ l4) l6 hR, hts _ l2, trivial⟩
  have run := va_runSN (meth := meth) (below := below) (e := e) (locs := locs) (cells := nc) (slots := ns) (As := av.map (tv β)) (rest := stk.map (tv β)) (g := F0 m pc ls ((av.map (tv β)).reverse ++ stk.map (tv β))) ⟨hx, hb0, hml, hown, hts⟩ hM hcw
    ⟨PX_blind, fun U hU hW => ⟨rfl, KN.warm hW hK, by rw [hU]; exact a1⟩⟩ rfl (by rw [List.length_map]; exact hn) a4.1 rfl (lv_room (by rw [List.map_map]; exact hsm)) hd ⟨by simpa using hcs.1, by simpa using hcs.2⟩
  intro T hT X0
  obtain ⟨v, st₀, t, T', L, h0, X', hL, e1, e2, ⟨⟨r, F', A', hv, hp, hP⟩, hz, hk⟩, st⟩ := run T hT X0
  have hv : v = r.map (tv β) := Outcome.returned.inj hv
  subst hv
  rw [h0] at hz hk
  have inc : ∀ q, inG β N q → G q := fun q hq => by
    have h := a3 (q - β) (by have := hq.1; have := hq.2; omega)
    rwa [Nat.add_sub_cancel' hq.1] at h
  obtain ⟨t2, b1, b2⟩ := kk r F' A' hp T'.heap (locs ++ L) ls (by rw [e1]; exact hP) ⟨Nat.le_trans a2.1 (by rw [e1]; exact hz), fun q h1 h2 => by rw [e1, hk q (Nat.lt_of_lt_of_le h1 a2.1) (fun z => h2 (inc q z))]; exact a2.2.1 q h1 h2, fun q hq => by
      rcases List.mem_append.mp hq with h | h
      · exact a2.2.2 q h
      · exact inc _ (hL q h)⟩ a3 a4 T' rfl X'
  refine ⟨t2, st t2 ?_, b2⟩
  rw [show (r.map (tv β)).toList ++ stk.map (tv β) = (r.toList ++ stk).map (tv β) by cases r <;> rfl]
  exact b1
theorem x_iret (hC : CallFix p m c cc nL s args TT own) {post : Option PV → (Nat → Nat → Int) → (Nat → Int → Int) → Prop} {x : Int} (hr : meth.sig.returnType = some .int) (hlk : meth.locks = false) (hp : post (some (pI x)) F A) (hd : decode cc pc = .ok (.ireturn, 1)) : X p l e Rm s m args below meth c (MQ below (QX D ids β sh N R post) args s 0 0 (inG β N)) (inG β N) D ids β sh nL 0 0 N R F A loc ([pI x]) pc := by
  intro H locs ls a1 a2 a3 a4; exact W.iret hC.1 hC.2.1 hr (fun t ht hW => ⟨⟨some (pI x), F, A, rfl, hp, by rw [ht]; exact a1⟩, a2.F ht⟩) a2.2.2 hd hlk
theorem x_zret (hC : CallFix p m c cc nL s args TT own) {post : Option PV → (Nat → Nat → Int) → (Nat → Int → Int) → Prop} {x : Int} (hx : x = 0 ∨ x = 1) (hr : meth.sig.returnType = some .boolean) (hlk : meth.locks = false) (hp : post (some (pI x)) F A) (hd : decode cc pc = .ok (.ireturn, 1)) : X p l e Rm s m args below meth c (MQ below (QX D ids β sh N R post) args s 0 0 (inG β N)) (inG β N) D ids β sh nL 0 0 N R F A loc ([pI x]) pc := by
  intro H locs ls a1 a2 a3 a4; exact W.zret (ty := .boolean) hC.1 hC.2.1 hr (nar_bool hx) (fun t ht hW => ⟨⟨some (pI x), F, A, rfl, hp, by rw [ht]; exact a1⟩, a2.F ht⟩) a2.2.2 hd hlk
theorem x_lret (hC : CallFix p m c cc nL s args TT own) {post : Option PV → (Nat → Nat → Int) → (Nat → Int → Int) → Prop} {x : Int} (hr : meth.sig.returnType = some .long) (hlk : meth.locks = false) (hp : post (some (pL x)) F A) (hd : decode cc pc = .ok (.lreturn, 1)) : X p l e Rm s m args below meth c (MQ below (QX D ids β sh N R post) args s 0 0 (inG β N)) (inG β N) D ids β sh nL 0 0 N R F A loc ([pL x]) pc := by
  intro H locs ls a1 a2 a3 a4; exact W.lret hC.1 hC.2.1 hr (fun t ht hW => ⟨⟨some (pL x), F, A, rfl, hp, by rw [ht]; exact a1⟩, a2.F ht⟩) a2.2.2 hd hlk
theorem x_vret (hC : CallFix p m c cc nL s args TT own) {post : Option PV → (Nat → Nat → Int) → (Nat → Int → Int) → Prop} (hr : meth.sig.returnType = none) (hlk : meth.locks = false) (hp : post none F A) (hd : decode cc pc = .ok (.return_, 1)) : X p l e Rm s m args below meth c (MQ below (QX D ids β sh N R post) args s 0 0 (inG β N)) (inG β N) D ids β sh nL 0 0 N R F A loc ([]) pc := by
  intro H locs ls a1 a2 a3 a4; exact W.vret hC.1 hC.2.1 hr (fun t ht hW => ⟨⟨none, F, A, rfl, hp, by rw [ht]; exact a1⟩, a2.F ht⟩) a2.2.2 hd hlk
end XC
