/-! THE CLAIM OUT OF ONE WALK OF THE LAW'S BODY. Your part is whole_start (and what it stands on); all else here is the same for every law, but numbers. -/
def R_law : String := "PortsBenchLaw"
def lw_P (b : Addr) (xs : List Int32) (args : Array Value) (s : State) : Prop := args = #[.ref b] ∧ s.IntsAt b xs ∧ xs.length ≤ 4096 ∧ (Jvm.Cond.and given_1 narrow_1).before args s = true
def lw_Q (_ : Array Value) (s : State) (o : Outcome) (t : State) : Prop := o = .returned (some (.int 1)) ∧ Framed s o t [] 600000 7302250
def lw_Z (below : List Frame) (a : Array Value) (s : State) : State → Prop := fun t => ∃ o, t.status = .running ∧ Ended t below o ∧ lw_Q a s o t
/-- the law's own end, with 1 on the stack, nothing written that was there before, its room as the claim has it -/
theorem lw_ret {p : Program} {l : Launch} {e : Env} {s : State} {m : MethodId} {below : List Frame} {meth : Method} {c : Code} {b : Nat} (hx : p.tables.exec = Jvm.exec) (hb : c.code = code) (hr : meth.sig.returnType = ret) (hlocks : meth.locks = false) {pc : Nat} {H : Heap} {ls : Array Slot} (hdg : decode code pc = .ok (.ireturn, 1)) : W p l e room_1 s m #[Value.ref b] below meth c H [] 600000 7302250 (lw_Z below #[Value.ref b] s) (F0 m pc ls [.int 1]) := by
  intro T hT X
  obtain ⟨fs, hret, hrun, hended, hW, hframe⟩ := X.leave (v := some (.int 1)) (hlocks := hlocks) (fun h => by rw [hr] at h; cases h)
  have hmeth' : T.vm.method? m = some meth := X.method'
  refine ⟨T.setFrames fs, ?_, .returned (some (.int 1)), hrun, hended, rfl, ⟨_, rfl⟩, hW, hframe⟩
  jvm_step X.here [X.here.top, hx, hb, hdg, hmeth', hr, ret, narrow_b1]
  (try refine ⟨rfl, ?_⟩); (try refine ⟨rfl, ?_⟩)
  first | (intro acts; rw [hret _ acts rfl rfl rfl]) | rw [hret _ _ rfl rfl rfl]
  exact Steps.refl _
/-- what holds at the law's entry: the machine, the code, the tables' words (any of lw_tbl by 'hts w (by decide +kernel)'), the script of L ints xs at the cell b, what the Statement gives of the start (any of its parts by flat_of_before) -/
def lw_At (p : Program) (s : State) (m : MethodId) (meth : Method) (c : Code) (b L : Nat) (xs : Nat → Int32) : Prop :=
  p.tables.exec = Jvm.exec ∧ c.code = code ∧ meth.sig.returnType = ret ∧ c.maxLocals = 4 ∧ s.vm.findClass R_law = some m.cls ∧ (∀ w ∈ lw_tbl, w.before #[Value.ref b] s = true) ∧ va_X b L xs s s.heap ∧ b < s.heap.size ∧ meth.locks = false ∧ (Jvm.Cond.and given_1 narrow_1).before #[Value.ref b] s = true
theorem tb_1 {w : Cond} (i : Nat) (h : tables_1_1[i]? = some w) : w ∈ lw_tbl := List.mem_append_right _ (List.mem_append_left _ (List.mem_of_getElem? h))
theorem tb_2 {w : Cond} (i : Nat) (h : tables_1_2[i]? = some w) : w ∈ lw_tbl := List.mem_append_right _ (List.mem_append_right _ (List.mem_append_left _ (List.mem_of_getElem? h)))
theorem tb_3 {w : Cond} (i : Nat) (h : tables_1_3[i]? = some w) : w ∈ lw_tbl := List.mem_append_right _ (List.mem_append_right _ (List.mem_append_right _ (List.mem_append_left _ (List.mem_of_getElem? h))))
theorem law_NW {s : State} {b : Addr} (hts : ∀ w ∈ lw_tbl, w.before #[Value.ref b] s = true) : NW s :=
  ⟨va_Nw.of rfl (hts _ (tb_1 22 rfl)), va_Nw.of rfl (hts _ (tb_1 65 rfl)), va_Nw.of rfl (hts _ (tb_1 90 rfl)), va_Nw.of rfl (hts _ (tb_1 117 rfl)), va_Nw.of rfl (hts _ (tb_2 15 rfl)), va_Nw.of rfl (hts _ (tb_2 86 rfl)), va_Nw.of rfl (hts _ (tb_2 170 rfl)), va_Nw.of rfl (hts _ (tb_3 16 rfl)), va_AO.of (hts _ (tb_1 148 rfl)), va_AO.of (hts _ (tb_1 176 rfl))⟩
theorem cls_inst {s : State} {b : Addr} (hts : ∀ w ∈ TT, w.before #[Value.ref b] s = true) {ci : Nat} (h : ci < 9) : ∃ n, (Cond.instantiable (cR ci) n).before #[Value.ref b] s = true := by
  match ci, h with
  | 0, _ => exact ⟨_, hts _ wt_125⟩
  | 1, _ => exact ⟨_, hts _ wt_151⟩
  | 2, _ => exact ⟨_, hts _ wt_316⟩
  | 3, _ => exact ⟨_, hts _ wt_176⟩
  | 4, _ => exact ⟨_, hts _ wt_216⟩
  | 5, _ => exact ⟨_, hts _ wt_88⟩
  | 6, _ => exact ⟨_, hts _ wt_131⟩
  | 7, _ => exact ⟨_, hts _ wt_80⟩
  | 8, _ => exact ⟨_, hts _ wt_803⟩
  | ci + 9, h => exact absurd h (by omega)
theorem law_KN {s : State} {b : Addr} (hts : ∀ w ∈ lw_tbl, w.before #[Value.ref b] s = true) : ∃ (D : va_G) (ids : Nat → ClassId), KN D ids s := by
  have htt : ∀ w ∈ TT, w.before #[Value.ref b] s = true := fun w hw => hts w (TT_in w hw)
  have hk : ∀ ci, ∃ (q : ClassId × (Nat → Nat)), ci < 9 → u_Kn s (cR ci) (cT ci) (cN ci) q.1 q.2 := fun ci => by
    by_cases h : ci < 9
    · obtain ⟨n, hn⟩ := cls_inst htt h
      obtain ⟨c, iS, hK⟩ := u_known htt (cin_ok h) hn
      exact ⟨(c, iS), fun _ => hK⟩
    · exact ⟨(0, fun _ => 0), fun q => absurd q h⟩
  obtain ⟨c0, k0, p0, a1, a2, a3⟩ := Cond.arrayClass_spec (htt _ wt_123)
  obtain ⟨c1, k1, p1, b1, b2, b3⟩ := Cond.arrayClass_spec (htt _ wt_867)
  obtain ⟨p2, c2, k2, d1, -, d2, d3, d4⟩ := Cond.arrayOver_spec (hts _ (tb_1 148 rfl))
  obtain ⟨p3, c3, k3, e1, -, e2, e3, e4⟩ := Cond.arrayOver_spec (hts _ (tb_1 176 rfl))
  refine ⟨(fun ci => (Classical.choose (hk ci)).1, fun ci => (Classical.choose (hk ci)).2), fun j => if j = 0 then c0 else if j = 1 then c1 else if j = 2 then c2 else c3, ⟨fun c q hq => ?_, fun k q hq => ?_⟩, law_NW hts⟩
  · have hc : c < 9 := (List.getElem?_eq_some_iff.mp hq).1
    rw [cl9_get hc] at hq
    cases hq
    exact Classical.choose_spec (hk c) hc
  · match k, hq with
    | 0, hq => cases hq; exact ⟨fun n z => ⟨fun k h => (by cases h), k0, a2, p0, a3⟩, a1⟩
    | 1, hq => cases hq; exact ⟨fun n z => ⟨fun k h => (by cases h), k1, b2, p1, b3⟩, b1⟩
    | 2, hq => cases hq; exact ⟨fun n z => ⟨fun k h => (by cases h), k2, d2, p2, d3⟩, k2, p2, d2, d3, d1, d4⟩
    | 3, hq => cases hq; exact ⟨fun n z => ⟨fun k h => (by cases h), k3, e2, p3, e3⟩, k3, p3, e2, e3, e1, e4⟩
    | k + 4, hq => simp [tys4] at hq
section WL
variable {p : Program} {l : Launch} {e : Env} {Rm : Room} {s : State} {m : MethodId} {args : Array Value} {below : List Frame} {meth : Method} {c : Code} {Q : State → Prop} {D : va_G} {ids : Nat → ClassId} {β : Nat} {sh : Nat → Nat × Nat} {nL nc ns N : Nat} {R : Nat → Nat → Option Nat} {F : Nat → Nat → Int} {A : Nat → Int → Int} {pc : Nat} {cc : ByteArray} {own : String} {H : Heap} {locs : List Loc} {ls : Array Slot} {st stk : List Value}
/-- the heap's size, by what stands in it and the cells that were made -/
theorem hsize {T : State} {E : Nat → va_E} (hz : s.heap.size + nc = β + N) (hb : s.heap.size ≤ β) (hN : N = 0 → nc = 0) (a1 : va_P D cl9 (mkW β N E) H) (hS : s.heap.size ≤ H.size) (hT : T.heap = H) (X0 : Stand p l e Rm s m args below meth c T locs nc ns) : H.size = β + N := by
  have h1 := X0.heapSize
  rw [hT] at h1
  by_cases h : N = 0
  · have := hN h
    omega
  · have h2 : β + (N - 1) < H.size := (a1 (N - 1) _ (mkW_get (by omega))).lt
    omega
theorem w_new (hC : CallFix p m c cc nL s args TT own) {ci idx nc2 ns2 : Nat} {nm : String} {E : Nat → va_E} {R2 : Nat → Nat → Option Nat} {F2 : Nat → Nat → Int} (hK : KN D ids s) (hz : s.heap.size + nc = β + N) (hb : s.heap.size = β) (hci : ci < 9) (hnm : cR ci = nm) (hcl : Cond.classLink own idx nm ∈ TT) (hin : Cond.instantiable nm (cN ci) ∈ TT) (hini : Cond.initialized nm ∈ TT) (hP : va_P D cl9 (mkW β N E) H) (hS : va_S (inH s.heap.size) s.heap H locs) (hR2 : ∀ j, R2 0 j = none) (hF2 : ∀ j, j < cN ci → F2 0 j = dF ci j) (e1 : nc + 1 = nc2) (e2 : ns + cN ci = ns2) (hcells : nc2 ≤ Rm.cells) (hslots : ns2 ≤ Rm.slots) (hd : decode cc pc = .ok (.new idx, 3))
    (kk : ∀ H1 : Heap, va_P D cl9 (mkW β N E) H1 → va_P D cl9 [(β + N, .inr (ci, fvs (β + N) R2 F2 0 ci))] H1 → va_S (inH s.heap.size) s.heap H1 locs → W p l e Rm s m args below meth c H1 locs nc2 ns2 Q (F0 m (pc + 3) ls (.ref (β + N) :: stk))) : W p l e Rm s m args below meth c H locs nc ns Q (F0 m pc ls stk) := by
  subst hnm; subst e1; subst e2
  have hD : va_D (inH s.heap.size) (mkW β N E) := mkW_D (fun k hk => by show s.heap.size ≤ β + k; omega)
  refine va_new (cl := cl9) (tys := tys4 ids) (ci := ci) (fs := fvs (β + N) R2 F2 0 ci) hC.1 hC.2.1 hC.2.2.2.2 (cin_ok hci) (cty ci) (cty_ok hci) hC.2.2.2.1 (hC.2.2.2.2 _ hcl) (hC.2.2.2.2 _ hin) (hC.2.2.2.2 _ hini) hK.1 hP hD hS (fun q hq => hq) (cl9_get hci) (fun j hj => by rw [fvs_V hj]; exact (dfl hci hj (hR2 j) (hF2 j hj)).symm) hcells hslots hd (fun q H1 hP1 hD1 hS1 => ?_)
  intro T hT X0
  have hl : (mkW β N E).length = N := by simp [mkW]
  have hi : (mkW β N E ++ [(q, .inr (ci, fvs (β + N) R2 F2 0 ci))])[N]? = some (q, .inr (ci, fvs (β + N) R2 F2 0 ci)) := by
    rw [List.getElem?_append_right (by omega), hl, Nat.sub_self]
    rfl
  have hq : q = β + N := by
    have h0 := X0.heapSize
    rw [hT] at h0
    have h1 : q < H1.size := (hP1 N _ hi).lt
    have h2 : s.heap.size ≤ q := hD1.2 N _ hi
    by_cases h : q = β + N
    · exact h
    · exfalso
      have hk : q - β < N := by omega
      have hj : (mkW β N E ++ [(q, .inr (ci, fvs (β + N) R2 F2 0 ci))])[q - β]? = some (β + (q - β), E (q - β)) := by
        rw [List.getElem?_append_left (by omega)]
        exact mkW_get hk
      have := hD1.1 N (q - β) _ _ hi hj (by show q = β + (q - β); omega)
      omega
  subst hq
  exact kk H1 (fun k x hx => hP1 k x (by rw [List.getElem?_append_left (List.getElem?_eq_some_iff.mp hx).1]; exact hx)) (fun k x hx => hP1 (N + k) x (by rw [List.getElem?_append_right (by omega), hl, Nat.add_sub_cancel_left]; exact hx)) hS1 T hT X0
theorem w_cI (hC : CallFix p m c cc nL s args TT own) {y : MethodName} {bytes : ByteArray} {maxL fr lo idx n mc ms N3 nc2 ns2 : Nat} {av : List PV} {R2 : Nat → Nat → Option Nat} {P : (Nat → Nat → Int) → (Nat → Int → Int) → Prop} {b : Nat} (hK : KN D ids s) (hM : MetN l y bytes maxL none fr lo mc ms D ids β sh N N3 R R2 F A (rf b :: av) (pVr P)) (hL : LinkI own idx y bytes maxL n) (hn : av.length = n) (hR : fr + 1 ≤ Rm.frames ∧ 8 + (maxL + 11) + lo ≤ Rm.locals) (e1 : nc + mc = nc2) (e2 : ns + ms = ns2) (hcs : nc2 ≤ Rm.cells ∧ ns2 ≤ Rm.slots) (hH : ∀ T, T.heap = H → Stand p l e Rm s m args below meth c T locs nc ns → H.size = β + N) (hP : va_P D cl9 (mkW β N (celE β ids sh R F A)) H) (hS : va_S (inH s.heap.size) s.heap H locs) (hb : s.heap.size ≤ β) (hls : ls.size = nL)
    (hs : (av.map (tv β)).reverse ++ .ref (β + b) :: stk = st) (hsm : (stk.map fun v => v.category).sum ≤ 8) (hd : decode cc pc = .ok (.invokespecial idx, 3))
    (kk : ∀ (F' : Nat → Nat → Int) (A' : Nat → Int → Int) (H1 : Heap) (locs1 : List Loc), P F' A' → va_P D cl9 (mkW β N3 (celE β ids sh R2 F' A')) H1 → va_S (inH s.heap.size) s.heap H1 locs1 → (∀ q, q < H.size → ¬ inH β q → H1[q]? = H[q]?) → W p l e Rm s m args below meth c H1 locs1 nc2 ns2 Q (F0 m (pc + 3) ls stk)) : W p l e Rm s m args below meth c H locs nc ns Q (F0 m pc ls st) := by
  subst hs; subst e1; subst e2
  obtain ⟨hx, hb0, hml, hown, hts⟩ := id hC
  obtain ⟨l1, l2, l4, l5, l6, l7⟩ := hL
  intro T hT X0
  have hH := hH T hT X0
  have pre : PreS s H (PN D ids β sh N R F A (rf b :: av)) (.ref (β + b) :: av.map (tv β)) := ⟨PN_blind, fun U hU hW => ⟨rfl, ⟨KN.warm hW hK, by rw [hU]; exact hH⟩, by rw [hU]; exact hP⟩⟩
  have run : va_Run p l e Rm s m args below meth c H locs nc ns mc ms (F0 m pc ls ((av.map (tv β)).reverse ++ .ref (β + b) :: stk)) stk (QN D ids β sh N3 R2 (pVr P) (Value.ref (β + b) :: av.map (tv β)).toArray) (inH β) := by
    rcases l1 with l1 | l1
    · exact va_runI ⟨hx, hb0, hml, hown, hts⟩ hM ⟨callB_of n hts (TT_cons l5) rfl rfl rfl (hts _ l4) (hts _ l1) l7 hR, l6, hts _ l2⟩ pre rfl (by rw [List.length_map]; exact hn) hls rfl (lv_room hsm) hd hcs
    · exact va_runIN (host := "PortsBench") ⟨hx, hb0, hml, hown, hts⟩ hM ⟨va_cnB n hts (TT_cons l5) rfl rfl rfl (l1 s hK.2) (hts _ l4) l7 hR, l6, hts _ l2⟩ pre rfl (by rw [List.length_map]; exact hn) hls rfl (lv_room hsm) hd hcs
  obtain ⟨v, st₀, t, T', L, h0, X', hL, e1, e2, ⟨⟨r, F', A', hv, ⟨rfl, hp⟩, hP'⟩, hz2, hk⟩, st⟩ := run T hT X0
  have hv : v = none := Outcome.returned.inj hv
  subst hv
  rw [h0] at hz2 hk
  have up : ∀ q, inH β q → inH s.heap.size q := fun q hq => Nat.le_trans hb hq
  obtain ⟨t2, b1, b2⟩ := kk F' A' T'.heap (locs ++ L) hp (by rw [e1]; exact hP') ⟨Nat.le_trans hS.1 (by rw [e1]; exact hz2), fun q h1 h2 => by rw [e1, hk q (Nat.lt_of_lt_of_le h1 hS.1) (fun z => h2 (up q z))]; exact hS.2.1 q h1 h2, fun q hq => by
      rcases List.mem_append.mp hq with h | h
      · exact hS.2.2 q h
      · exact up _ (hL q h)⟩ (fun q h1 h2 => by rw [e1]; exact hk q h1 h2) T' rfl X'
  exact ⟨t2, st t2 b1, b2⟩
theorem w_cVi (hC : CallFix p m c cc nL s args TT own) {y : MethodName} {bytes : ByteArray} {maxL fr lo idx n : Nat} {ret : Option FieldType} {av : List PV} {P : Int → (Nat → Nat → Int) → (Nat → Int → Int) → Prop} {b ci : Nat} (hK : KN D ids s) (hM : MetX l y bytes maxL ret fr lo D ids β sh N R F A (rf b :: av) (pIr P)) (hL : LinkV own idx y bytes maxL ret n) (hn : av.length = n) (hcl : cR ci = y.cls) (hci : ci < 9) (hb : b < N) (hsh : sh b = (0, ci)) (hR : fr + 1 ≤ Rm.frames ∧ 8 + (maxL + 11) + lo ≤ Rm.locals) (hcs : nc ≤ Rm.cells ∧ ns ≤ Rm.slots) (hP : va_P D cl9 (mkW β N (celE β ids sh R F A)) H) (hS : va_S (inH s.heap.size) s.heap H locs) (hbb : s.heap.size ≤ β) (hls : ls.size = nL)
    (hs : (av.map (tv β)).reverse ++ .ref (β + b) :: stk = st) (hsm : (stk.map fun v => v.category).sum ≤ 8) (hd : decode cc pc = .ok (.invokevirtual idx, 3))
    (kk : ∀ (z : Int) (F' : Nat → Nat → Int) (A' : Nat → Int → Int) (H1 : Heap) (locs1 : List Loc), P z F' A' → va_P D cl9 (mkW β N (celE β ids sh R F' A')) H1 → va_S (inH s.heap.size) s.heap H1 locs1 → (∀ q, q < H.size → ¬ inG β N q → H1[q]? = H[q]?) → W p l e Rm s m args below meth c H1 locs1 nc ns Q (F0 m (pc + 3) ls (.int (Int32.ofInt z) :: stk))) : W p l e Rm s m args below meth c H locs nc ns Q (F0 m pc ls st) := by
  subst hs
  obtain ⟨hx, hb0, hml, hown, hts⟩ := id hC
  obtain ⟨l1, l2, l3, l4, l5, l6⟩ := hL
  have hG : GoodIn TT (wsV own idx y.cls y (.code y bytes maxL ret :: TT)) := fun w hw => by
    rcases List.mem_append.mp hw with hw | hw
    · exact TT_good w (by simp only [List.mem_cons, List.not_mem_nil, or_false] at hw; rcases hw with rfl | rfl | rfl | rfl <;> assumption)
    · exact TT_cons l5 w hw
  have run := va_runV (meth := meth) (below := below) (e := e) (locs := locs) (cells := nc) (slots := ns) (As := av.map (tv β)) (rest := stk) (g := F0 m pc ls ((av.map (tv β)).reverse ++ .ref (β + b) :: stk)) ⟨hx, hb0, hml, hown, hts⟩ hM (cwV n hts hG rfl rfl rfl ⟨rfl, l6⟩ hR)
    ⟨PX_blind, by have h := va_recv hK.1 hP (cl9_get hci) (q0 := b) (by rw [mkW_get hb, celE_obj hsh]); rwa [hcl] at h, fun U hU hW => ⟨rfl, KN.warm hW hK, by rw [hU]; exact hP⟩⟩ rfl (by rw [List.length_map]; exact hn) hls rfl (lv_room hsm) hd ⟨by simpa using hcs.1, by simpa using hcs.2⟩
  intro T hT X0
  obtain ⟨v, st₀, t, T', L, h0, X', hL, e1, e2, ⟨⟨r, F', A', hv, ⟨z, rfl, hp⟩, hP'⟩, hz, hk⟩, st⟩ := run T hT X0
  have hv : v = some (tv β (pI z)) := Outcome.returned.inj hv
  subst hv
  rw [h0] at hz hk
  have inc : ∀ q, inG β N q → inH s.heap.size q := fun q hq => Nat.le_trans hbb hq.1
  obtain ⟨t2, b1, b2⟩ := kk z F' A' T'.heap (locs ++ L) hp (by rw [e1]; exact hP') ⟨Nat.le_trans hS.1 (by rw [e1]; exact hz), fun q h1 h2 => by rw [e1, hk q (Nat.lt_of_lt_of_le h1 hS.1) (fun z => h2 (inc q z))]; exact hS.2.1 q h1 h2, fun q hq => by
      rcases List.mem_append.mp hq with h | h
      · exact hS.2.2 q h
      · exact inc _ (hL q h)⟩ (fun q h1 h2 => by rw [e1]; exact hk q h1 h2) T' rfl X'
  exact ⟨t2, st t2 b1, b2⟩
theorem w_cVl (hC : CallFix p m c cc nL s args TT own) {y : MethodName} {bytes : ByteArray} {maxL fr lo idx n : Nat} {ret : Option FieldType} {av : List PV} {P : Int → (Nat → Nat → Int) → (Nat → Int → Int) → Prop} {b ci : Nat} (hK : KN D ids s) (hM : MetX l y bytes maxL ret fr lo D ids β sh N R F A (rf b :: av) (pLr P)) (hL : LinkV own idx y bytes maxL ret n) (hn : av.length = n) (hcl : cR ci = y.cls) (hci : ci < 9) (hb : b < N) (hsh : sh b = (0, ci)) (hR : fr + 1 ≤ Rm.frames ∧ 8 + (maxL + 11) + lo ≤ Rm.locals) (hcs : nc ≤ Rm.cells ∧ ns ≤ Rm.slots) (hP : va_P D cl9 (mkW β N (celE β ids sh R F A)) H) (hS : va_S (inH s.heap.size) s.heap H locs) (hbb : s.heap.size ≤ β) (hls : ls.size = nL)
    (hs : (av.map (tv β)).reverse ++ .ref (β + b) :: stk = st) (hsm : (stk.map fun v => v.category).sum ≤ 8) (hd : decode cc pc = .ok (.invokevirtual idx, 3))
    (kk : ∀ (z : Int) (F' : Nat → Nat → Int) (A' : Nat → Int → Int) (H1 : Heap) (locs1 : List Loc), P z F' A' → va_P D cl9 (mkW β N (celE β ids sh R F' A')) H1 → va_S (inH s.heap.size) s.heap H1 locs1 → (∀ q, q < H.size → ¬ inG β N q → H1[q]? = H[q]?) → W p l e Rm s m args below meth c H1 locs1 nc ns Q (F0 m (pc + 3) ls (.long (Int64.ofInt z) :: stk))) : W p l e Rm s m args below meth c H locs nc ns Q (F0 m pc ls st) := by
  subst hs
  obtain ⟨hx, hb0, hml, hown, hts⟩ := id hC
  obtain ⟨l1, l2, l3, l4, l5, l6⟩ := hL
  have hG : GoodIn TT (wsV own idx y.cls y (.code y bytes maxL ret :: TT)) := fun w hw => by
    rcases List.mem_append.mp hw with hw | hw
    · exact TT_good w (by simp only [List.mem_cons, List.not_mem_nil, or_false] at hw; rcases hw with rfl | rfl | rfl | rfl <;> assumption)
    · exact TT_cons l5 w hw
  have run := va_runV (meth := meth) (below := below) (e := e) (locs := locs) (cells := nc) (slots := ns) (As := av.map (tv β)) (rest := stk) (g := F0 m pc ls ((av.map (tv β)).reverse ++ .ref (β + b) :: stk)) ⟨hx, hb0, hml, hown, hts⟩ hM (cwV n hts hG rfl rfl rfl ⟨rfl, l6⟩ hR)
    ⟨PX_blind, by have h := va_recv hK.1 hP (cl9_get hci) (q0 := b) (by rw [mkW_get hb, celE_obj hsh]); rwa [hcl] at h, fun U hU hW => ⟨rfl, KN.warm hW hK, by rw [hU]; exact hP⟩⟩ rfl (by rw [List.length_map]; exact hn) hls rfl (lv_room hsm) hd ⟨by simpa using hcs.1, by simpa using hcs.2⟩
  intro T hT X0
  obtain ⟨v, st₀, t, T', L, h0, X', hL, e1, e2, ⟨⟨r, F', A', hv, ⟨z, rfl, hp⟩, hP'⟩, hz, hk⟩, st⟩ := run T hT X0
  have hv : v = some (tv β (pL z)) := Outcome.returned.inj hv
  subst hv
  rw [h0] at hz hk
  have inc : ∀ q, inG β N q → inH s.heap.size q := fun q hq => Nat.le_trans hbb hq.1
  obtain ⟨t2, b1, b2⟩ := kk z F' A' T'.heap (locs ++ L) hp (by rw [e1]; exact hP') ⟨Nat.le_trans hS.1 (by rw [e1]; exact hz), fun q h1 h2 => by rw [e1, hk q (Nat.lt_of_lt_of_le h1 hS.1) (fun z => h2 (inc q z))]; exact hS.2.1 q h1 h2, fun q hq => by
      rcases List.mem_append.mp hq with h | h
      · exact hS.2.2 q h
      · exact inc _ (hL q h)⟩ (fun q h1 h2 => by rw [e1]; exact hk q h1 h2) T' rfl X'
  exact ⟨t2, st t2 b1, b2⟩
/-- the script's number at a place -/
def xi (xs : Nat → Int32) (j : Nat) : Int := (xs j).toInt
theorem xi_i (xs : Nat → Int32) (j : Nat) : I32 (xi xs j) := by
  have h1 := Int32.le_toInt (xs j)
  have h2 := Int32.toInt_lt (xs j)
  exact ⟨by unfold xi; omega, by unfold xi; omega⟩
theorem xi_v (xs : Nat → Int32) (j : Nat) : Int32.ofInt (xi xs j) = xs j := Int32.ofInt_toInt (xs j)
/-- the law's locals: the script, the bench, the model, the place -/
def lL (b β : Nat) (i : Nat) : List (Nat × Value) := [(0, .ref b), (1, .ref β), (2, .ref (β + 386)), (3, .int (Int32.ofInt (i : Int)))]
theorem w_arg {b L : Nat} {xs : Nat → Int32} (hx : p.tables.exec = Jvm.exec) (hb : c.code = cc) (hX : va_X b L xs s s.heap) (hbl : b < s.heap.size) (hS : va_S (inH s.heap.size) s.heap H locs) (hL : L ≤ 4096) {i k : Nat} (hl : lv_has ls 4 (lL b s.heap.size i)) (hi : i + k < L) {n2 : Nat} (hd0 : decode cc pc = .ok (.aload_n 0, 1)) (hd1 : decode cc (pc + 1) = .ok (.iload_n 3, 1)) (hd2 : (n2 = 1 ∧ decode cc (pc + 2) = .ok (.iconst (k : Int), 1)) ∨ (n2 = 2 ∧ (Int8.ofInt (k : Int)).toInt32 = Int32.ofInt (k : Int) ∧ decode cc (pc + 2) = .ok (.bipush (k : Int), 2))) (hd3 : decode cc (pc + 2 + n2) = .ok (.iadd, 1)) (hd4 : decode cc (pc + 3 + n2) = .ok (.iaload, 1))
    (kk : W p l e Rm s m args below meth c H locs nc ns Q (F0 m (pc + 4 + n2) ls (.int (Int32.ofInt (xi xs (i + k))) :: stk))) : W p l e Rm s m args below meth c H locs nc ns Q (F0 m pc ls stk) := by
  have hbA : ¬ inH s.heap.size b := Nat.not_le.mpr hbl
  have fin : W p l e Rm s m args below meth c H locs nc ns Q (F0 m (pc + 2 + n2) ls (.int (Int32.ofInt (k : Int)) :: .int (Int32.ofInt (i : Int)) :: .ref b :: stk)) := by
    refine lv_iadd hx hb hd3 ?_
    rw [← Int32.ofInt_add, show pc + 2 + n2 + 1 = pc + 3 + n2 by omega]
    refine va_sld hx hb hX hbl hbA hS (i32_inI (x := (i : Int) + k) (by omega) (by omega) (by omega)) hd4 ?_
    rw [i32_clamp (x := (i : Int) + k) (by omega) (by omega), show ((i : Int) + k).toNat = i + k by omega, ← xi_v xs (i + k), show pc + 3 + n2 + 1 = pc + 4 + n2 by omega]
    exact kk
  refine lv_aload_n hx hb hd0 rfl (lv_at hl 0 rfl) ?_
  refine lv_iload_n hx hb hd1 rfl (lv_at hl 3 rfl) ?_
  rcases hd2 with ⟨rfl, hd2⟩ | ⟨rfl, h8, hd2⟩
  · exact lv_iconst hx hb hd2 rfl fin
  · exact lv_bipush hx hb hd2 h8 fin
theorem kept_of {E : Nat → va_E} {H1 : Heap} (hP : va_P D cl9 (mkW β N E) H) (h : ∀ k, k < N → H1[β + k]? = H[β + k]?) : va_P D cl9 (mkW β N E) H1 := hP.kept (fun k x hx => by
  obtain ⟨hk, rfl⟩ := mkW_lt hx
  exact h k hk)
end WL
