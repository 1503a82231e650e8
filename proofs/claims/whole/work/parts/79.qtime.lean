section XC12
variable {p : Program} {l : Launch} {e : Env} {Rm : Room} {s : State} {m : MethodId} {args : Array Value} {below : List Frame} {meth : Method} {c : Code} {Q : State → Prop} {G : Nat → Prop} {D : va_G} {ids : Nat → ClassId} {β : Nat} {sh : Nat → Nat × Nat} {nL nc ns N : Nat} {R : Nat → Nat → Option Nat} {F : Nat → Nat → Int} {A : Nat → Int → Int} {loc loc2 : List (Option PV)} {stk : List PV} {pc pc2 tgt : Nat} {cc : ByteArray} {own : String}
theorem x_callV12 (hC : CallFix p m c cc nL s args TT own) {y : MethodName} {bytes : ByteArray} {maxL fr lo idx n : Nat} {ret : Option FieldType} {av : List PV} {stk2 : List PV} {post : Option PV → (Nat → Nat → Int) → (Nat → Int → Int) → Prop} {b ci : Nat} (hK : KN D ids s) (hM : MetX l y bytes maxL ret fr lo D ids β sh N R F A (rf b :: av) post) (hL : LinkV own idx y bytes maxL ret n) (hn : av.length = n) (hcl : cR ci = y.cls) (hci : ci < 9) (hb : b < N) (hsh : sh b = (0, ci)) (hR : fr + 1 ≤ Rm.frames ∧ 12 + (maxL + 11) + lo ≤ Rm.locals) (hcs : nc ≤ Rm.cells ∧ ns ≤ Rm.slots)
    (hs : av.reverse ++ rf b :: stk = stk2) (hsm : (stk.map fun v => (tv β v).category).sum ≤ 12) (hd : decode cc pc = .ok (.invokevirtual idx, 3)) (h2 : pc + 3 = pc2)
    (kk : ∀ (r : Option PV) (F' : Nat → Nat → Int) (A' : Nat → Int → Int), post r F' A' → X p l e Rm s m args below meth c Q G D ids β sh nL nc ns N R F' A' loc (r.toList ++ stk) pc2) : X p l e Rm s m args below meth c Q G D ids β sh nL nc ns N R F A loc (stk2) pc := by
  subst h2; subst hs
  obtain ⟨hx, hb0, hml, hown, hts⟩ := id hC
  obtain ⟨l1, l2, l3, l4, l5, l6⟩ := hL
  intro H locs ls a1 a2 a3 a4
  have hst : (av.reverse ++ rf b :: stk).map (tv β) = (av.map (tv β)).reverse ++ .ref (β + b) :: stk.map (tv β) := by simp [List.map_append, List.map_reverse, tv, va_rf]
  rw [hst]
  have hG : GoodIn TT (wsV own idx y.cls y (.code y bytes maxL ret :: TT)) := fun w hw => by
    rcases List.mem_append.mp hw with hw | hw
    · exact TT_good w (by simp only [List.mem_cons, List.not_mem_nil, or_false] at hw; rcases hw with rfl | rfl | rfl | rfl <;> assumption)
    · exact TT_cons l5 w hw
  obtain ⟨⟨hrc, hrs, hfr, -, hws, hcw, hcode, hini, hy, hlen, hlk⟩, hin, hse⟩ := (cwV n hts hG rfl rfl rfl ⟨rfl, l6⟩ ⟨hR.1, Nat.le_trans (Nat.add_le_add_right (Nat.add_le_add_right (show 8 ≤ 12 by decide) _) _) hR.2⟩ : CallW Rm s args own y.cls idx y bytes maxL ret (Cond.code y bytes maxL ret :: TT) { frames := fr, cells := 0, slots := 0, locals := lo } 0 0 n)
  have hP0 : PreV s H y.cls (β + b) (PX D ids β sh N R F A (rf b :: av)) (av.map (tv β)) := ⟨PX_blind, by have h := va_recv hK.1 a1 (cl9_get hci) (q0 := b) (by rw [mkW_get hb, celE_obj hsh]); rwa [hcl] at h, fun U hU hW => ⟨rfl, KN.warm hW hK, by rw [hU]; exact a1⟩⟩
  obtain ⟨hbl, ⟨cellB, hcB, hoB, hclB⟩, hPc⟩ := hP0
  have hBk := back_of (W := 12) (R := Rm) (p := p) (e := e) (below := below) (s := s) (sargs := args) (len := 3) (bytes := bytes) (maxL := maxL) (ret := ret) hM hbl hrc hrs hfr hR.2 hws hcw (fun a' U hW => word_at hW (Or.inl (by first | rfl | simp [Cond.onTables, Cond.keeps, Cond.steady])) hini)
  intro T hT X0
  obtain ⟨v, vm₁, ⟨T', l2, c2, s2⟩, -, X', ⟨g', mk, t, L, e1, e2, hq, g1, hL, g2, g3⟩, st⟩ := callV X0 hx (C := y.cls) (bytes := bytes) (maxL := maxL) (ret := ret) hown hlk hin hse hcode hy hBk (by rw [hT]; exact hcB) hoB hclB (g := F0 m pc ls ((av.map (tv β)).reverse ++ .ref (β + b) :: stk.map (tv β))) rfl (a4.1.trans hml.symm) (argsL := av.map (tv β)) (rest := stk.map (tv β)) (fun sig h => (by rw [List.length_map]; exact hn : (av.map (tv β)).length = n).trans (hlen sig h)) rfl (by rw [List.map_map]; show 2 * 0 + _ ≤ 12; rw [Nat.mul_zero, Nat.zero_add]; exact hsm) (by rw [hb0]; exact hd) (fun vm₁ hW₁ => ⟨by simpa using hcs.1, by simpa using hcs.2, hPc (T.setVm vm₁) hT hW₁⟩)
  dsimp only [Pt.U, Pt.locs, Pt.cells, Pt.slots] at X' e1 e2 g1 g2 g3 st hq
  subst g1; subst g2; subst g3
  generalize hst0 : (T.setVm vm₁).calling g' mk _ = st₀ at hq
  have h0 : st₀.heap = H := by rw [← hst0]; exact hT
  obtain ⟨⟨r, F', A', hv, hp, hP⟩, hz, hk⟩ := hq
  have hv : v = r.map (tv β) := Outcome.returned.inj hv
  subst hv
  rw [h0] at hz hk
  have inc : ∀ q, inG β N q → G q := fun q hq => by
    have h := a3 (q - β) (by have := hq.1; have := hq.2; omega)
    rwa [Nat.add_sub_cancel' hq.1] at h
  obtain ⟨t2, b1, b2⟩ := kk r F' A' hp T'.heap (locs ++ L) ls (by rw [e1]; exact hP) ⟨Nat.le_trans a2.1 (by rw [e1]; exact hz), fun q h1 h2 => by rw [e1, hk q (Nat.lt_of_lt_of_le h1 a2.1) (fun z => h2 (inc q z))]; exact a2.2.1 q h1 h2, fun q hq => by
      rcases List.mem_append.mp hq with h | h
      · exact a2.2.2 q h
      · exact inc _ (hL q h)⟩ a3 a4 T' rfl X'
  refine ⟨t2, st t2 ?_, b2⟩
  rw [show (r.map (tv β)).toList ++ stk.map (tv β) = (r.toList ++ stk).map (tv β) by cases r <;> rfl]
  exact b1
theorem x_cVi12 (hC : CallFix p m c cc nL s args TT own) {y : MethodName} {bytes : ByteArray} {maxL fr lo idx n : Nat} {ret : Option FieldType} {av : List PV} {stk2 : List PV} {b ci : Nat} {P : Int → (Nat → Nat → Int) → (Nat → Int → Int) → Prop} (hK : KN D ids s) (hM : MetX l y bytes maxL ret fr lo D ids β sh N R F A (rf b :: av) (pIr P)) (hL : LinkV own idx y bytes maxL ret n) (hn : av.length = n) (hcl : cR ci = y.cls) (hci : ci < 9) (hb : b < N) (hsh : sh b = (0, ci)) (hR : fr + 1 ≤ Rm.frames ∧ 12 + (maxL + 11) + lo ≤ Rm.locals) (hcs : nc ≤ Rm.cells ∧ ns ≤ Rm.slots)
    (hs : av.reverse ++ rf b :: stk = stk2) (hsm : (stk.map fun v => (tv β v).category).sum ≤ 12) (hd : decode cc pc = .ok (.invokevirtual idx, 3)) (h2 : pc + 3 = pc2)
    (kk : ∀ (z : Int) (F' : Nat → Nat → Int) (A' : Nat → Int → Int), P z F' A' → X p l e Rm s m args below meth c Q G D ids β sh nL nc ns N R F' A' loc (pI z :: stk) pc2) : X p l e Rm s m args below meth c Q G D ids β sh nL nc ns N R F A loc (stk2) pc := by
  refine x_callV12 hC hK hM hL hn hcl hci hb hsh hR hcs hs hsm hd h2 ?_
  rintro r F1 A1 ⟨z, rfl, hp⟩; exact kk z F1 A1 hp
end XC12

theorem dX8_time_0 : decode cX8_time 0 = .ok (.aload_n 0, 1) := by decide +kernel
theorem dX8_time_1 : decode cX8_time 1 = .ok (.iload_n 1, 1) := by decide +kernel
theorem dX8_time_2 : decode cX8_time 2 = .ok (.iconst 1, 1) := by decide +kernel
theorem dX8_time_3 : decode cX8_time 3 = .ok (.invokevirtual 193, 3) := by decide +kernel
theorem dX8_time_6 : decode cX8_time 6 = .ok (.ifCond .eq 14, 3) := by decide +kernel
theorem dX8_time_9 : decode cX8_time 9 = .ok (.aload_n 0, 1) := by decide +kernel
theorem dX8_time_10 : decode cX8_time 10 = .ok (.iload_n 2, 1) := by decide +kernel
theorem dX8_time_11 : decode cX8_time 11 = .ok (.iload_n 3, 1) := by decide +kernel
theorem dX8_time_12 : decode cX8_time 12 = .ok (.iload 4, 2) := by decide +kernel
theorem dX8_time_14 : decode cX8_time 14 = .ok (.invokevirtual 180, 3) := by decide +kernel
theorem dX8_time_17 : decode cX8_time 17 = .ok (.ifCond .ne 5, 3) := by decide +kernel
theorem dX8_time_20 : decode cX8_time 20 = .ok (.iconst (-1), 1) := by decide +kernel
theorem dX8_time_21 : decode cX8_time 21 = .ok (.ireturn, 1) := by decide +kernel
theorem dX8_time_22 : decode cX8_time 22 = .ok (.aload_n 0, 1) := by decide +kernel
theorem dX8_time_23 : decode cX8_time 23 = .ok (.invokevirtual 212, 3) := by decide +kernel
theorem dX8_time_26 : decode cX8_time 26 = .ok (.iconst 0, 1) := by decide +kernel
theorem dX8_time_27 : decode cX8_time 27 = .ok (.istore 5, 2) := by decide +kernel
theorem dX8_time_29 : decode cX8_time 29 = .ok (.iload 5, 2) := by decide +kernel
theorem dX8_time_31 : decode cX8_time 31 = .ok (.iconst 4, 1) := by decide +kernel
theorem dX8_time_32 : decode cX8_time 32 = .ok (.if_icmp .ge 96, 3) := by decide +kernel
theorem dX8_time_35 : decode cX8_time 35 = .ok (.aload_n 0, 1) := by decide +kernel
theorem dX8_time_36 : decode cX8_time 36 = .ok (.iconst 0, 1) := by decide +kernel
theorem dX8_time_37 : decode cX8_time 37 = .ok (.putfield 52, 3) := by decide +kernel
theorem dX8_time_40 : decode cX8_time 40 = .ok (.aload_n 0, 1) := by decide +kernel
theorem dX8_time_41 : decode cX8_time 41 = .ok (.lconst 0, 1) := by decide +kernel
theorem dX8_time_42 : decode cX8_time 42 = .ok (.invokevirtual 197, 3) := by decide +kernel
theorem dX8_time_45 : decode cX8_time 45 = .ok (.istore 6, 2) := by decide +kernel
theorem dX8_time_47 : decode cX8_time 47 = .ok (.iconst 0, 1) := by decide +kernel
theorem dX8_time_48 : decode cX8_time 48 = .ok (.istore 7, 2) := by decide +kernel
theorem dX8_time_50 : decode cX8_time 50 = .ok (.iload 7, 2) := by decide +kernel
theorem dX8_time_52 : decode cX8_time 52 = .ok (.iconst 4, 1) := by decide +kernel
theorem dX8_time_53 : decode cX8_time 53 = .ok (.if_icmp .ge 36, 3) := by decide +kernel
theorem dX8_time_56 : decode cX8_time 56 = .ok (.aload_n 0, 1) := by decide +kernel
theorem dX8_time_57 : decode cX8_time 57 = .ok (.iload 6, 2) := by decide +kernel
theorem dX8_time_59 : decode cX8_time 59 = .ok (.aload_n 0, 1) := by decide +kernel
theorem dX8_time_60 : decode cX8_time 60 = .ok (.aload_n 0, 1) := by decide +kernel
theorem dX8_time_61 : decode cX8_time 61 = .ok (.iload_n 2, 1) := by decide +kernel
theorem dX8_time_62 : decode cX8_time 62 = .ok (.iload 7, 2) := by decide +kernel
theorem dX8_time_64 : decode cX8_time 64 = .ok (.iload_n 3, 1) := by decide +kernel
theorem dX8_time_65 : decode cX8_time 65 = .ok (.iload 4, 2) := by decide +kernel
theorem dX8_time_67 : decode cX8_time 67 = .ok (.invokevirtual 200, 3) := by decide +kernel
theorem dX8_time_70 : decode cX8_time 70 = .ok (.iload 5, 2) := by decide +kernel
theorem dX8_time_72 : decode cX8_time 72 = .ok (.iload 7, 2) := by decide +kernel
theorem dX8_time_74 : decode cX8_time 74 = .ok (.imul, 1) := by decide +kernel
theorem dX8_time_75 : decode cX8_time 75 = .ok (.invokevirtual 243, 3) := by decide +kernel
theorem dX8_time_78 : decode cX8_time 78 = .ok (.invokevirtual 109, 3) := by decide +kernel
theorem dX8_time_81 : decode cX8_time 81 = .ok (.istore 6, 2) := by decide +kernel
theorem dX8_time_83 : decode cX8_time 83 = .ok (.iinc 7 1, 3) := by decide +kernel
theorem dX8_time_86 : decode cX8_time 86 = .ok (.goto (-36), 3) := by decide +kernel
theorem dX8_time_89 : decode cX8_time 89 = .ok (.aload_n 0, 1) := by decide +kernel
theorem dX8_time_90 : decode cX8_time 90 = .ok (.iload 5, 2) := by decide +kernel
theorem dX8_time_92 : decode cX8_time 92 = .ok (.iconst 0, 1) := by decide +kernel
theorem dX8_time_93 : decode cX8_time 93 = .ok (.iconst 0, 1) := by decide +kernel
theorem dX8_time_94 : decode cX8_time 94 = .ok (.aload_n 0, 1) := by decide +kernel
theorem dX8_time_95 : decode cX8_time 95 = .ok (.iload 6, 2) := by decide +kernel
theorem dX8_time_97 : decode cX8_time 97 = .ok (.iload 6, 2) := by decide +kernel
theorem dX8_time_99 : decode cX8_time 99 = .ok (.iconst 1, 1) := by decide +kernel
theorem dX8_time_100 : decode cX8_time 100 = .ok (.iadd, 1) := by decide +kernel
theorem dX8_time_101 : decode cX8_time 101 = .ok (.aload_n 0, 1) := by decide +kernel
theorem dX8_time_102 : decode cX8_time 102 = .ok (.iload 6, 2) := by decide +kernel
theorem dX8_time_104 : decode cX8_time 104 = .ok (.iconst 2, 1) := by decide +kernel
theorem dX8_time_105 : decode cX8_time 105 = .ok (.iadd, 1) := by decide +kernel
theorem dX8_time_106 : decode cX8_time 106 = .ok (.aload_n 0, 1) := by decide +kernel
theorem dX8_time_107 : decode cX8_time 107 = .ok (.ldc2_w 246, 3) := by decide +kernel
theorem dX8_time_110 : decode cX8_time 110 = .ok (.invokevirtual 89, 3) := by decide +kernel
theorem dX8_time_113 : decode cX8_time 113 = .ok (.invokevirtual 93, 3) := by decide +kernel
theorem dX8_time_116 : decode cX8_time 116 = .ok (.invokevirtual 103, 3) := by decide +kernel
theorem dX8_time_119 : decode cX8_time 119 = .ok (.invokevirtual 173, 3) := by decide +kernel
theorem dX8_time_122 : decode cX8_time 122 = .ok (.iinc 5 1, 3) := by decide +kernel
theorem dX8_time_125 : decode cX8_time 125 = .ok (.goto (-96), 3) := by decide +kernel
theorem dX8_time_128 : decode cX8_time 128 = .ok (.aload_n 0, 1) := by decide +kernel
theorem dX8_time_129 : decode cX8_time 129 = .ok (.iload_n 1, 1) := by decide +kernel
theorem dX8_time_130 : decode cX8_time 130 = .ok (.invokevirtual 177, 3) := by decide +kernel
theorem dX8_time_133 : decode cX8_time 133 = .ok (.ireturn, 1) := by decide +kernel
set_option maxHeartbeats 32000000 in
theorem q_time_ (l : Launch) {D : va_G} {ids : Nat → ClassId} {β : Nat} {sh : Nat → Nat × Nat} {N : Nat} {R : Nat → Nat → Option Nat} {F : Nat → Nat → Int} {A : Nat → Int → Int} {S : SP} (hM : MoL sh R N) (hR0 : RepM S F A) {c0 a i j : Int} (hc : I32 c0) (ha0 : I32 a) (hi2 : I32 i) (hj : I32 j) : MetX l yX8_time cX8_time 8 (some (.int)) 5 118 D ids β sh N R F A [rf 0, pI c0, pI a, pI i, pI j] (pIr (fun z F2 A2 => ∃ S2, rTime S c0 a i j z S2 ∧ RepM S2 F2 A2)) := by
  refine MetX.of (loc := [_, _, _, _, _, _, _, _]) (plainFor_of_name (by decide +kernel)) (Nat.le_of_ble_eq_true rfl) rfl ?_
  intro p e s m args below meth c hC hK hr hlk
  obtain ⟨⟨m0, m1⟩, ⟨rx0, r2, r3, r7, r8, r9, r11, r12, r13, r16, r18⟩, ⟨m2, m3⟩, ⟨m4, m5⟩, ⟨m6, m7⟩, ⟨m8, m9⟩, ⟨m10, m11⟩, ⟨m12, m13⟩, ⟨m14, m15⟩, ⟨m16, m17⟩, ⟨m18, m19⟩, ⟨m20, m21⟩, ⟨m22, m23⟩⟩ := id hM
  obtain ⟨hi, b1, b2, b3, b4, b5, b6, b7, b8⟩ := id hR0
  have i1 := hi.1
  have n16 := hi.1.2
  have body0 : ∀ (F1 : Nat → Nat → Int) (A1 : Nat → Int → Int) (e6 e7 : Option PV), isB S c0 → isB S a → isT (2 * i + j) → RepM S F1 A1 → (F1 0 17 = 0 ∨ F1 0 17 = 1) → MkD (fun n e => timeX (fun t => nm S a t (2 * i + j)) n e) (A1 10) (F1 0 17) (fun t0 e0 => t0 < 0 ∧ e0 = 0) → (∀ (F2 : Nat → Nat → Int) (A2 : Nat → Int → Int) (f6 f7 : Option PV), RepM S F2 A2 → MkD (fun n e => timeX (fun t => nm S a t (2 * i + j)) n e) (A2 10) (F2 0 17) (fun t0 e0 => t0 < 1 ∧ e0 = 0) → X p l e { frames := 5, cells := 0, slots := 0, locals := 118 } s m args below meth c (MQ below (QX D ids β sh N R (pIr (fun z F2 A2 => ∃ S2, rTime S c0 a i j z S2 ∧ RepM S2 F2 A2))) args s 0 0 (inG β N)) (inG β N) D ids β sh 8 0 0 N R F2 A2 [some (rf 0), some (pI c0), some (pI a), some (pI i), some (pI j), some (pI 1), f6, f7] [] 29) → X p l e { frames := 5, cells := 0, slots := 0, locals := 118 } s m args below meth c (MQ below (QX D ids β sh N R (pIr (fun z F2 A2 => ∃ S2, rTime S c0 a i j z S2 ∧ RepM S2 F2 A2))) args s 0 0 (inG β N)) (inG β N) D ids β sh 8 0 0 N R F1 A1 [some (rf 0), some (pI c0), some (pI a), some (pI i), some (pI j), some (pI 0), e6, e7] [] 35 := by
    intro F1 A1 e6 e7 hc2 ha he hR1 h17 hmk next
    have hb6 := hR1.2.2.2.2.2.2.1
    have a16 := ha.2
    have a00 := ha.1
    refine x_aload_n (pc2 := 36) hC rfl rfl dX8_time_35 rfl ?_
    refine x_iconst (pc2 := 37) hC dX8_time_36 rfl ?_
    refine p_819 (pc2 := 40) hC hK (by assumption) (by assumption) dX8_time_37 rfl ?_
    refine x_aload_n (pc2 := 41) hC rfl rfl dX8_time_40 rfl ?_
    refine x_lconst0 (pc2 := 42) hC dX8_time_41 rfl ?_
    refine x_cVi (pc2 := 45) (ci := 8) hC hK (t_whole l hM (St.zero (F := F1) (A := A1)) (by decide) (v := 0) (by decide)) lk_981 rfl rfl (by decide) (by assumption) (by assumption) ⟨Nat.le_of_ble_eq_true rfl, Nat.le_of_ble_eq_true rfl⟩ ⟨Nat.le_refl _, Nat.le_refl _⟩ rfl (Nat.le_of_ble_eq_true rfl) dX8_time_42 rfl ?_
    rintro z42 F42 A42 ⟨ez42, V42, hS42, v42, k42, g42⟩
    obtain rfl := ez42.symm
    replace hS42 : St 6 V42 F42 A42 := hS42
    rw [show (0 : Int) + 3 = 3 from rfl]
    obtain ⟨wn0_42, ewn0_42⟩ : ∃ w : T3, w = (0, 0, 1) := ⟨_, rfl⟩
    have uwn0_42 : tr V42 3 = wn0_42 := by rw [ewn0_42]; exact v42
    have bwn0_42 : bdt 1 1 wn0_42 := by rw [ewn0_42]; exact ⟨by unfold bd; decide, by unfold bd; decide, by unfold bd; decide⟩
    clear v42
    refine x_istore (pc2 := 47) (loc2 := [_, _, _, _, _, _, _, _]) hC (by decide) rfl dX8_time_45 rfl ?_
    refine x_iconst (pc2 := 48) hC dX8_time_47 rfl ?_
    refine x_istore (pc2 := 50) (loc2 := [_, _, _, _, _, _, _, _]) hC (by decide) rfl dX8_time_48 rfl ?_
    refine x_iload (pc2 := 52) hC rfl dX8_time_50 rfl ?_
    refine x_iconst (pc2 := 53) hC dX8_time_52 rfl ?_
    refine x_icmp_ge (tgt := 89) (pc2 := 56) hC (by omega) (by omega) dX8_time_53 rfl rfl (fun h_53 => ?_) (fun h_53 => ?_)
    · exact absurd h_53 (by decide)
    · refine x_aload_n (pc2 := 57) hC rfl rfl dX8_time_56 rfl ?_
      refine x_iload (pc2 := 59) hC rfl dX8_time_57 rfl ?_
      refine x_aload_n (pc2 := 60) hC rfl rfl dX8_time_59 rfl ?_
      refine x_aload_n (pc2 := 61) hC rfl rfl dX8_time_60 rfl ?_
      refine x_iload_n (pc2 := 62) hC rfl rfl dX8_time_61 rfl ?_
      refine x_iload (pc2 := 64) hC rfl dX8_time_62 rfl ?_
      refine x_iload_n (pc2 := 65) hC rfl rfl dX8_time_64 rfl ?_
      refine x_iload (pc2 := 67) hC rfl dX8_time_65 rfl ?_
      refine x_cVi (pc2 := 70) (ci := 8) hC hK (t_entry l hM hS42 (by decide) ⟨by omega, by omega⟩ (x := vS S a 0 (2 * i + j)) (by rw [g42.a (by decide)]; exact (show held (A1 2) (96 * a + 24 * (0) + 6 * (2 * i + j)) (vS S a 0 (2 * i + j)) from hb6 a 0 (2 * i + j) ha ⟨by decide, by decide⟩ he)) ((hi.2.1 a ha).2 0 (2 * i + j) ⟨by decide, by decide⟩ he).1.2.2) lk_985 rfl rfl (by decide) (by assumption) (by assumption) ⟨Nat.le_of_ble_eq_true rfl, Nat.le_of_ble_eq_true rfl⟩ ⟨Nat.le_refl _, Nat.le_refl _⟩ rfl (Nat.le_of_ble_eq_true rfl) dX8_time_67 rfl ?_
      rintro z1067 F1067 A1067 ⟨ez1067, V1067, hS1067, v1067, k1067, g1067⟩
      obtain rfl := ez1067.symm
      replace hS1067 : St 24 V1067 F1067 A1067 := hS1067
      have t1067_wn0_42 : tr V1067 3 = wn0_42 := (tr_keep (by decide) k1067).trans uwn0_42
      rw [show (6 : Int) + 15 = 21 from rfl]
      obtain ⟨wn0_1067, ewn0_1067⟩ : ∃ w : T3, w = vS S a 0 (2 * i + j) := ⟨_, rfl⟩
      have uwn0_1067 : tr V1067 21 = wn0_1067 := by rw [ewn0_1067]; exact v1067
      have bwn0_1067 : bdt 25 25 wn0_1067 := by rw [ewn0_1067]; exact (ok_bdt ((hi.2.1 a ha).2 0 (2 * i + j) ⟨by decide, by decide⟩ he).1)
      clear v1067
      refine x_iload (pc2 := 72) hC rfl dX8_time_70 rfl ?_
      refine x_iload (pc2 := 74) hC rfl dX8_time_72 rfl ?_
      refine x_imul (pc2 := 75) hC dX8_time_74 rfl ?_
      refine x_cVi (pc2 := 78) (ci := 8) hC hK (t_quarter0 l hM (hR1.K ((FrK.f (by decide)).tr (g42.tr g1067).K)) hS1067 (x := 21) (n := 0 * (0)) ⟨by decide, by decide⟩ uwn0_1067 bwn0_1067 (by decide) ⟨by decide, by decide⟩ (by decide)) lk_1106 rfl rfl (by decide) (by assumption) (by assumption) ⟨Nat.le_of_ble_eq_true rfl, Nat.le_of_ble_eq_true rfl⟩ ⟨Nat.le_refl _, Nat.le_refl _⟩ rfl (Nat.le_of_ble_eq_true rfl) dX8_time_75 rfl ?_
      rintro z1075 F1075 A1075 ⟨ez1075, V1075, hS1075, v1075, k1075, g1075⟩
      obtain rfl := ez1075.symm
      replace hS1075 : St 24 V1075 F1075 A1075 := hS1075
      have t1075_wn0_42 : tr V1075 3 = wn0_42 := (tr_keep (by decide) k1075).trans t1067_wn0_42
      have t1075_wn0_1067 : tr V1075 21 = wn0_1067 := (tr_keep (by decide) k1075).trans uwn0_1067
      obtain ⟨wn0_1075, ewn0_1075⟩ : ∃ w : T3, w = trot 0 wn0_1067 := ⟨_, rfl⟩
      have uwn0_1075 : tr V1075 21 = wn0_1075 := by rw [ewn0_1075]; exact v1075
      have bwn0_1075 : bdt 25 25 wn0_1075 := by rw [ewn0_1075]; exact (bdt_rot 0 bwn0_1067)
      clear v1075
      refine x_cVi (pc2 := 81) (ci := 8) hC hK (t_added l hM hS1075 (x := 3) (y := 21) ⟨by decide, by decide⟩ ⟨by decide, by decide⟩ t1075_wn0_42 uwn0_1075 bwn0_42 bwn0_1075 (by decide) ⟨by decide, by decide, by decide⟩) lk_1020 rfl rfl (by decide) (by assumption) (by assumption) ⟨Nat.le_of_ble_eq_true rfl, Nat.le_of_ble_eq_true rfl⟩ ⟨Nat.le_refl _, Nat.le_refl _⟩ rfl (Nat.le_of_ble_eq_true rfl) dX8_time_78 rfl ?_
      rintro z1078 F1078 A1078 ⟨ez1078, V1078, hS1078, v1078, k1078, g1078⟩
      obtain rfl := ez1078.symm
      replace hS1078 : St 34 V1078 F1078 A1078 := hS1078
      have t1078_wn0_42 : tr V1078 3 = wn0_42 := (tr_keep (by decide) k1078).trans t1075_wn0_42
      have t1078_wn0_1067 : tr V1078 21 = wn0_1067 := (tr_keep (by decide) k1078).trans t1075_wn0_1067
      have t1078_wn0_1075 : tr V1078 21 = wn0_1075 := (tr_keep (by decide) k1078).trans uwn0_1075
      rw [show (24 : Int) + 7 = 31 from rfl]
      obtain ⟨wn0_1078, ewn0_1078⟩ : ∃ w : T3, w = tadd wn0_42 wn0_1075 := ⟨_, rfl⟩
      have uwn0_1078 : tr V1078 31 = wn0_1078 := by rw [ewn0_1078]; exact v1078
      have bwn0_1078 : bdt 27 26 wn0_1078 := by rw [ewn0_1078]; exact (bdt_add bwn0_42 bwn0_1075 (by decide) (by decide) (by decide))
      clear v1078
      refine x_istore (pc2 := 83) (loc2 := [_, _, _, _, _, _, _, _]) hC (by decide) rfl dX8_time_81 rfl ?_
      refine x_iinc (pc2 := 86) (loc2 := [_, _, _, _, _, _, _, _]) hC (by decide) rfl rfl dX8_time_83 rfl ?_
      refine x_goto (pc2 := 50) hC dX8_time_86 rfl ?_
      refine x_iload (pc2 := 52) hC rfl dX8_time_50 rfl ?_
      refine x_iconst (pc2 := 53) hC dX8_time_52 rfl ?_
      refine x_icmp_ge (tgt := 89) (pc2 := 56) hC (by omega) (by omega) dX8_time_53 rfl rfl (fun h_53 => ?_) (fun h_53 => ?_)
      · exact absurd h_53 (by decide)
      · refine x_aload_n (pc2 := 57) hC rfl rfl dX8_time_56 rfl ?_
        refine x_iload (pc2 := 59) hC rfl dX8_time_57 rfl ?_
        refine x_aload_n (pc2 := 60) hC rfl rfl dX8_time_59 rfl ?_
        refine x_aload_n (pc2 := 61) hC rfl rfl dX8_time_60 rfl ?_
        refine x_iload_n (pc2 := 62) hC rfl rfl dX8_time_61 rfl ?_
        refine x_iload (pc2 := 64) hC rfl dX8_time_62 rfl ?_
        refine x_iload_n (pc2 := 65) hC rfl rfl dX8_time_64 rfl ?_
        refine x_iload (pc2 := 67) hC rfl dX8_time_65 rfl ?_
        refine x_cVi (pc2 := 70) (ci := 8) hC hK (t_entry l hM hS1078 (by decide) ⟨by omega, by omega⟩ (x := vS S a 1 (2 * i + j)) (by rw [(((g42.tr g1067).tr g1075).tr g1078).a (by decide)]; exact (show held (A1 2) (96 * a + 24 * (1) + 6 * (2 * i + j)) (vS S a 1 (2 * i + j)) from hb6 a 1 (2 * i + j) ha ⟨by decide, by decide⟩ he)) ((hi.2.1 a ha).2 1 (2 * i + j) ⟨by decide, by decide⟩ he).1.2.2) lk_985 rfl rfl (by decide) (by assumption) (by assumption) ⟨Nat.le_of_ble_eq_true rfl, Nat.le_of_ble_eq_true rfl⟩ ⟨Nat.le_refl _, Nat.le_refl _⟩ rfl (Nat.le_of_ble_eq_true rfl) dX8_time_67 rfl ?_
        rintro z2067 F2067 A2067 ⟨ez2067, V2067, hS2067, v2067, k2067, g2067⟩
        obtain rfl := ez2067.symm
        replace hS2067 : St 52 V2067 F2067 A2067 := hS2067
        have t2067_wn0_1078 : tr V2067 31 = wn0_1078 := (tr_keep (by decide) k2067).trans uwn0_1078
        rw [show (34 : Int) + 15 = 49 from rfl]
        obtain ⟨wn0_2067, ewn0_2067⟩ : ∃ w : T3, w = vS S a 1 (2 * i + j) := ⟨_, rfl⟩
        have uwn0_2067 : tr V2067 49 = wn0_2067 := by rw [ewn0_2067]; exact v2067
        have bwn0_2067 : bdt 25 25 wn0_2067 := by rw [ewn0_2067]; exact (ok_bdt ((hi.2.1 a ha).2 1 (2 * i + j) ⟨by decide, by decide⟩ he).1)
        clear v2067
        refine x_iload (pc2 := 72) hC rfl dX8_time_70 rfl ?_
        refine x_iload (pc2 := 74) hC rfl dX8_time_72 rfl ?_
        refine x_imul (pc2 := 75) hC dX8_time_74 rfl ?_
        refine x_cVi (pc2 := 78) (ci := 8) hC hK (t_quarter0 l hM (hR1.K ((FrK.f (by decide)).tr ((((g42.tr g1067).tr g1075).tr g1078).tr g2067).K)) hS2067 (x := 49) (n := 0 * (0 + 1)) ⟨by decide, by decide⟩ uwn0_2067 bwn0_2067 (by decide) ⟨by decide, by decide⟩ (by decide)) lk_1106 rfl rfl (by decide) (by assumption) (by assumption) ⟨Nat.le_of_ble_eq_true rfl, Nat.le_of_ble_eq_true rfl⟩ ⟨Nat.le_refl _, Nat.le_refl _⟩ rfl (Nat.le_of_ble_eq_true rfl) dX8_time_75 rfl ?_
        rintro z2075 F2075 A2075 ⟨ez2075, V2075, hS2075, v2075, k2075, g2075⟩
        obtain rfl := ez2075.symm
        replace hS2075 : St 52 V2075 F2075 A2075 := hS2075
        have t2075_wn0_1078 : tr V2075 31 = wn0_1078 := (tr_keep (by decide) k2075).trans t2067_wn0_1078
        have t2075_wn0_2067 : tr V2075 49 = wn0_2067 := (tr_keep (by decide) k2075).trans uwn0_2067
        obtain ⟨wn0_2075, ewn0_2075⟩ : ∃ w : T3, w = trot 0 wn0_2067 := ⟨_, rfl⟩
        have uwn0_2075 : tr V2075 49 = wn0_2075 := by rw [ewn0_2075]; exact v2075
        have bwn0_2075 : bdt 25 25 wn0_2075 := by rw [ewn0_2075]; exact (bdt_rot 0 bwn0_2067)
        clear v2075
        refine x_cVi (pc2 := 81) (ci := 8) hC hK (t_added l hM hS2075 (x := 31) (y := 49) ⟨by decide, by decide⟩ ⟨by decide, by decide⟩ t2075_wn0_1078 uwn0_2075 bwn0_1078 bwn0_2075 (by decide) ⟨by decide, by decide, by decide⟩) lk_1020 rfl rfl (by decide) (by assumption) (by assumption) ⟨Nat.le_of_ble_eq_true rfl, Nat.le_of_ble_eq_true rfl⟩ ⟨Nat.le_refl _, Nat.le_refl _⟩ rfl (Nat.le_of_ble_eq_true rfl) dX8_time_78 rfl ?_
        rintro z2078 F2078 A2078 ⟨ez2078, V2078, hS2078, v2078, k2078, g2078⟩
        obtain rfl := ez2078.symm
        replace hS2078 : St 62 V2078 F2078 A2078 := hS2078
        have t2078_wn0_1078 : tr V2078 31 = wn0_1078 := (tr_keep (by decide) k2078).trans t2075_wn0_1078
        have t2078_wn0_2067 : tr V2078 49 = wn0_2067 := (tr_keep (by decide) k2078).trans t2075_wn0_2067
        have t2078_wn0_2075 : tr V2078 49 = wn0_2075 := (tr_keep (by decide) k2078).trans uwn0_2075
        rw [show (52 : Int) + 7 = 59 from rfl]
        obtain ⟨wn0_2078, ewn0_2078⟩ : ∃ w : T3, w = tadd wn0_1078 wn0_2075 := ⟨_, rfl⟩
        have uwn0_2078 : tr V2078 59 = wn0_2078 := by rw [ewn0_2078]; exact v2078
        have bwn0_2078 : bdt 53 51 wn0_2078 := by rw [ewn0_2078]; exact (bdt_add bwn0_1078 bwn0_2075 (by decide) (by decide) (by decide))
        clear v2078
        refine x_istore (pc2 := 83) (loc2 := [_, _, _, _, _, _, _, _]) hC (by decide) rfl dX8_time_81 rfl ?_
        refine x_iinc (pc2 := 86) (loc2 := [_, _, _, _, _, _, _, _]) hC (by decide) rfl rfl dX8_time_83 rfl ?_
        refine x_goto (pc2 := 50) hC dX8_time_86 rfl ?_
        refine x_iload (pc2 := 52) hC rfl dX8_time_50 rfl ?_
        refine x_iconst (pc2 := 53) hC dX8_time_52 rfl ?_
        refine x_icmp_ge (tgt := 89) (pc2 := 56) hC (by omega) (by omega) dX8_time_53 rfl rfl (fun h_53 => ?_) (fun h_53 => ?_)
        · exact absurd h_53 (by decide)
        · refine x_aload_n (pc2 := 57) hC rfl rfl dX8_time_56 rfl ?_
          refine x_iload (pc2 := 59) hC rfl dX8_time_57 rfl ?_
          refine x_aload_n (pc2 := 60) hC rfl rfl dX8_time_59 rfl ?_
          refine x_aload_n (pc2 := 61) hC rfl rfl dX8_time_60 rfl ?_
          refine x_iload_n (pc2 := 62) hC rfl rfl dX8_time_61 rfl ?_
          refine x_iload (pc2 := 64) hC rfl dX8_time_62 rfl ?_
          refine x_iload_n (pc2 := 65) hC rfl rfl dX8_time_64 rfl ?_
          refine x_iload (pc2 := 67) hC rfl dX8_time_65 rfl ?_
          refine x_cVi (pc2 := 70) (ci := 8) hC hK (t_entry l hM hS2078 (by decide) ⟨by omega, by omega⟩ (x := vS S a 2 (2 * i + j)) (by rw [((((((g42.tr g1067).tr g1075).tr g1078).tr g2067).tr g2075).tr g2078).a (by decide)]; exact (show held (A1 2) (96 * a + 24 * (2) + 6 * (2 * i + j)) (vS S a 2 (2 * i + j)) from hb6 a 2 (2 * i + j) ha ⟨by decide, by decide⟩ he)) ((hi.2.1 a ha).2 2 (2 * i + j) ⟨by decide, by decide⟩ he).1.2.2) lk_985 rfl rfl (by decide) (by assumption) (by assumption) ⟨Nat.le_of_ble_eq_true rfl, Nat.le_of_ble_eq_true rfl⟩ ⟨Nat.le_refl _, Nat.le_refl _⟩ rfl (Nat.le_of_ble_eq_true rfl) dX8_time_67 rfl ?_
          rintro z3067 F3067 A3067 ⟨ez3067, V3067, hS3067, v3067, k3067, g3067⟩
          obtain rfl := ez3067.symm
          replace hS3067 : St 80 V3067 F3067 A3067 := hS3067
          have t3067_wn0_2078 : tr V3067 59 = wn0_2078 := (tr_keep (by decide) k3067).trans uwn0_2078
          rw [show (62 : Int) + 15 = 77 from rfl]
          obtain ⟨wn0_3067, ewn0_3067⟩ : ∃ w : T3, w = vS S a 2 (2 * i + j) := ⟨_, rfl⟩
          have uwn0_3067 : tr V3067 77 = wn0_3067 := by rw [ewn0_3067]; exact v3067
          have bwn0_3067 : bdt 25 25 wn0_3067 := by rw [ewn0_3067]; exact (ok_bdt ((hi.2.1 a ha).2 2 (2 * i + j) ⟨by decide, by decide⟩ he).1)
          clear v3067
          refine x_iload (pc2 := 72) hC rfl dX8_time_70 rfl ?_
          refine x_iload (pc2 := 74) hC rfl dX8_time_72 rfl ?_
          refine x_imul (pc2 := 75) hC dX8_time_74 rfl ?_
          refine x_cVi (pc2 := 78) (ci := 8) hC hK (t_quarter0 l hM (hR1.K ((FrK.f (by decide)).tr (((((((g42.tr g1067).tr g1075).tr g1078).tr g2067).tr g2075).tr g2078).tr g3067).K)) hS3067 (x := 77) (n := 0 * (0 + 1 + 1)) ⟨by decide, by decide⟩ uwn0_3067 bwn0_3067 (by decide) ⟨by decide, by decide⟩ (by decide)) lk_1106 rfl rfl (by decide) (by assumption) (by assumption) ⟨Nat.le_of_ble_eq_true rfl, Nat.le_of_ble_eq_true rfl⟩ ⟨Nat.le_refl _, Nat.le_refl _⟩ rfl (Nat.le_of_ble_eq_true rfl) dX8_time_75 rfl ?_
          rintro z3075 F3075 A3075 ⟨ez3075, V3075, hS3075, v3075, k3075, g3075⟩
          obtain rfl := ez3075.symm
          replace hS3075 : St 80 V3075 F3075 A3075 := hS3075
          have t3075_wn0_2078 : tr V3075 59 = wn0_2078 := (tr_keep (by decide) k3075).trans t3067_wn0_2078
          have t3075_wn0_3067 : tr V3075 77 = wn0_3067 := (tr_keep (by decide) k3075).trans uwn0_3067
          obtain ⟨wn0_3075, ewn0_3075⟩ : ∃ w : T3, w = trot 0 wn0_3067 := ⟨_, rfl⟩
          have uwn0_3075 : tr V3075 77 = wn0_3075 := by rw [ewn0_3075]; exact v3075
          have bwn0_3075 : bdt 25 25 wn0_3075 := by rw [ewn0_3075]; exact (bdt_rot 0 bwn0_3067)
          clear v3075
          refine x_cVi (pc2 := 81) (ci := 8) hC hK (t_added l hM hS3075 (x := 59) (y := 77) ⟨by decide, by decide⟩ ⟨by decide, by decide⟩ t3075_wn0_2078 uwn0_3075 bwn0_2078 bwn0_3075 (by decide) ⟨by decide, by decide, by decide⟩) lk_1020 rfl rfl (by decide) (by assumption) (by assumption) ⟨Nat.le_of_ble_eq_true rfl, Nat.le_of_ble_eq_true rfl⟩ ⟨Nat.le_refl _, Nat.le_refl _⟩ rfl (Nat.le_of_ble_eq_true rfl) dX8_time_78 rfl ?_
          rintro z3078 F3078 A3078 ⟨ez3078, V3078, hS3078, v3078, k3078, g3078⟩
          obtain rfl := ez3078.symm
          replace hS3078 : St 90 V3078 F3078 A3078 := hS3078
          have t3078_wn0_2078 : tr V3078 59 = wn0_2078 := (tr_keep (by decide) k3078).trans t3075_wn0_2078
          have t3078_wn0_3067 : tr V3078 77 = wn0_3067 := (tr_keep (by decide) k3078).trans t3075_wn0_3067
          have t3078_wn0_3075 : tr V3078 77 = wn0_3075 := (tr_keep (by decide) k3078).trans uwn0_3075
          rw [show (80 : Int) + 7 = 87 from rfl]
          obtain ⟨wn0_3078, ewn0_3078⟩ : ∃ w : T3, w = tadd wn0_2078 wn0_3075 := ⟨_, rfl⟩
          have uwn0_3078 : tr V3078 87 = wn0_3078 := by rw [ewn0_3078]; exact v3078
          have bwn0_3078 : bdt 79 76 wn0_3078 := by rw [ewn0_3078]; exact (bdt_add bwn0_2078 bwn0_3075 (by decide) (by decide) (by decide))
          clear v3078
          refine x_istore (pc2 := 83) (loc2 := [_, _, _, _, _, _, _, _]) hC (by decide) rfl dX8_time_81 rfl ?_
          refine x_iinc (pc2 := 86) (loc2 := [_, _, _, _, _, _, _, _]) hC (by decide) rfl rfl dX8_time_83 rfl ?_
          refine x_goto (pc2 := 50) hC dX8_time_86 rfl ?_
          refine x_iload (pc2 := 52) hC rfl dX8_time_50 rfl ?_
          refine x_iconst (pc2 := 53) hC dX8_time_52 rfl ?_
          refine x_icmp_ge (tgt := 89) (pc2 := 56) hC (by omega) (by omega) dX8_time_53 rfl rfl (fun h_53 => ?_) (fun h_53 => ?_)
          · exact absurd h_53 (by decide)
          · refine x_aload_n (pc2 := 57) hC rfl rfl dX8_time_56 rfl ?_
            refine x_iload (pc2 := 59) hC rfl dX8_time_57 rfl ?_
            refine x_aload_n (pc2 := 60) hC rfl rfl dX8_time_59 rfl ?_
            refine x_aload_n (pc2 := 61) hC rfl rfl dX8_time_60 rfl ?_
            refine x_iload_n (pc2 := 62) hC rfl rfl dX8_time_61 rfl ?_
            refine x_iload (pc2 := 64) hC rfl dX8_time_62 rfl ?_
            refine x_iload_n (pc2 := 65) hC rfl rfl dX8_time_64 rfl ?_
            refine x_iload (pc2 := 67) hC rfl dX8_time_65 rfl ?_
            refine x_cVi (pc2 := 70) (ci := 8) hC hK (t_entry l hM hS3078 (by decide) ⟨by omega, by omega⟩ (x := vS S a 3 (2 * i + j)) (by rw [(((((((((g42.tr g1067).tr g1075).tr g1078).tr g2067).tr g2075).tr g2078).tr g3067).tr g3075).tr g3078).a (by decide)]; exact (show held (A1 2) (96 * a + 24 * (3) + 6 * (2 * i + j)) (vS S a 3 (2 * i + j)) from hb6 a 3 (2 * i + j) ha ⟨by decide, by decide⟩ he)) ((hi.2.1 a ha).2 3 (2 * i + j) ⟨by decide, by decide⟩ he).1.2.2) lk_985 rfl rfl (by decide) (by assumption) (by assumption) ⟨Nat.le_of_ble_eq_true rfl, Nat.le_of_ble_eq_true rfl⟩ ⟨Nat.le_refl _, Nat.le_refl _⟩ rfl (Nat.le_of_ble_eq_true rfl) dX8_time_67 rfl ?_
            rintro z4067 F4067 A4067 ⟨ez4067, V4067, hS4067, v4067, k4067, g4067⟩
            obtain rfl := ez4067.symm
            replace hS4067 : St 108 V4067 F4067 A4067 := hS4067
            have t4067_wn0_3078 : tr V4067 87 = wn0_3078 := (tr_keep (by decide) k4067).trans uwn0_3078
            rw [show (90 : Int) + 15 = 105 from rfl]
            obtain ⟨wn0_4067, ewn0_4067⟩ : ∃ w : T3, w = vS S a 3 (2 * i + j) := ⟨_, rfl⟩
            have uwn0_4067 : tr V4067 105 = wn0_4067 := by rw [ewn0_4067]; exact v4067
            have bwn0_4067 : bdt 25 25 wn0_4067 := by rw [ewn0_4067]; exact (ok_bdt ((hi.2.1 a ha).2 3 (2 * i + j) ⟨by decide, by decide⟩ he).1)
            clear v4067
            refine x_iload (pc2 := 72) hC rfl dX8_time_70 rfl ?_
            refine x_iload (pc2 := 74) hC rfl dX8_time_72 rfl ?_
            refine x_imul (pc2 := 75) hC dX8_time_74 rfl ?_
            refine x_cVi (pc2 := 78) (ci := 8) hC hK (t_quarter0 l hM (hR1.K ((FrK.f (by decide)).tr ((((((((((g42.tr g1067).tr g1075).tr g1078).tr g2067).tr g2075).tr g2078).tr g3067).tr g3075).tr g3078).tr g4067).K)) hS4067 (x := 105) (n := 0 * (0 + 1 + 1 + 1)) ⟨by decide, by decide⟩ uwn0_4067 bwn0_4067 (by decide) ⟨by decide, by decide⟩ (by decide)) lk_1106 rfl rfl (by decide) (by assumption) (by assumption) ⟨Nat.le_of_ble_eq_true rfl, Nat.le_of_ble_eq_true rfl⟩ ⟨Nat.le_refl _, Nat.le_refl _⟩ rfl (Nat.le_of_ble_eq_true rfl) dX8_time_75 rfl ?_
            rintro z4075 F4075 A4075 ⟨ez4075, V4075, hS4075, v4075, k4075, g4075⟩
            obtain rfl := ez4075.symm
            replace hS4075 : St 108 V4075 F4075 A4075 := hS4075
            have t4075_wn0_3078 : tr V4075 87 = wn0_3078 := (tr_keep (by decide) k4075).trans t4067_wn0_3078
            have t4075_wn0_4067 : tr V4075 105 = wn0_4067 := (tr_keep (by decide) k4075).trans uwn0_4067
            obtain ⟨wn0_4075, ewn0_4075⟩ : ∃ w : T3, w = trot 0 wn0_4067 := ⟨_, rfl⟩
            have uwn0_4075 : tr V4075 105 = wn0_4075 := by rw [ewn0_4075]; exact v4075
            have bwn0_4075 : bdt 25 25 wn0_4075 := by rw [ewn0_4075]; exact (bdt_rot 0 bwn0_4067)
            clear v4075
            refine x_cVi (pc2 := 81) (ci := 8) hC hK (t_added l hM hS4075 (x := 87) (y := 105) ⟨by decide, by decide⟩ ⟨by decide, by decide⟩ t4075_wn0_3078 uwn0_4075 bwn0_3078 bwn0_4075 (by decide) ⟨by decide, by decide, by decide⟩) lk_1020 rfl rfl (by decide) (by assumption) (by assumption) ⟨Nat.le_of_ble_eq_true rfl, Nat.le_of_ble_eq_true rfl⟩ ⟨Nat.le_refl _, Nat.le_refl _⟩ rfl (Nat.le_of_ble_eq_true rfl) dX8_time_78 rfl ?_
            rintro z4078 F4078 A4078 ⟨ez4078, V4078, hS4078, v4078, k4078, g4078⟩
            obtain rfl := ez4078.symm
            replace hS4078 : St 118 V4078 F4078 A4078 := hS4078
            have t4078_wn0_3078 : tr V4078 87 = wn0_3078 := (tr_keep (by decide) k4078).trans t4075_wn0_3078
            have t4078_wn0_4067 : tr V4078 105 = wn0_4067 := (tr_keep (by decide) k4078).trans t4075_wn0_4067
            have t4078_wn0_4075 : tr V4078 105 = wn0_4075 := (tr_keep (by decide) k4078).trans uwn0_4075
            rw [show (108 : Int) + 7 = 115 from rfl]
            obtain ⟨wn0_4078, ewn0_4078⟩ : ∃ w : T3, w = tadd wn0_3078 wn0_4075 := ⟨_, rfl⟩
            have uwn0_4078 : tr V4078 115 = wn0_4078 := by rw [ewn0_4078]; exact v4078
            have bwn0_4078 : bdt 105 101 wn0_4078 := by rw [ewn0_4078]; exact (bdt_add bwn0_3078 bwn0_4075 (by decide) (by decide) (by decide))
            clear v4078
            refine x_istore (pc2 := 83) (loc2 := [_, _, _, _, _, _, _, _]) hC (by decide) rfl dX8_time_81 rfl ?_
            refine x_iinc (pc2 := 86) (loc2 := [_, _, _, _, _, _, _, _]) hC (by decide) rfl rfl dX8_time_83 rfl ?_
            refine x_goto (pc2 := 50) hC dX8_time_86 rfl ?_
            refine x_iload (pc2 := 52) hC rfl dX8_time_50 rfl ?_
            refine x_iconst (pc2 := 53) hC dX8_time_52 rfl ?_
            refine x_icmp_ge (tgt := 89) (pc2 := 56) hC (by omega) (by omega) dX8_time_53 rfl rfl (fun h_53 => ?_) (fun h_53 => ?_)
            · refine x_aload_n (pc2 := 90) hC rfl rfl dX8_time_89 rfl ?_
              refine x_iload (pc2 := 92) hC rfl dX8_time_90 rfl ?_
              refine x_iconst (pc2 := 93) hC dX8_time_92 rfl ?_
              refine x_iconst (pc2 := 94) hC dX8_time_93 rfl ?_
              refine x_aload_n (pc2 := 95) hC rfl rfl dX8_time_94 rfl ?_
              refine x_iload (pc2 := 97) hC rfl dX8_time_95 rfl ?_
              refine x_iload (pc2 := 99) hC rfl dX8_time_97 rfl ?_
              refine x_iconst (pc2 := 100) hC dX8_time_99 rfl ?_
              refine x_iadd (pc2 := 101) hC dX8_time_100 rfl ?_
              refine x_aload_n (pc2 := 102) hC rfl rfl dX8_time_101 rfl ?_
              refine x_iload (pc2 := 104) hC rfl dX8_time_102 rfl ?_
              refine x_iconst (pc2 := 105) hC dX8_time_104 rfl ?_
              refine x_iadd (pc2 := 106) hC dX8_time_105 rfl ?_
              refine x_aload_n (pc2 := 107) hC rfl rfl dX8_time_106 rfl ?_
              refine x_ldc2 (pc2 := 110) (z := 4) hC wt_1110 rfl dX8_time_107 rfl ?_
              refine x_cVi12 (pc2 := 113) (ci := 8) hC hK (n_of l hM hS4078 (by decide) (v := 4) (by decide)) lk_902 rfl rfl (by decide) (by assumption) (by assumption) ⟨Nat.le_of_ble_eq_true rfl, Nat.le_of_ble_eq_true rfl⟩ ⟨Nat.le_refl _, Nat.le_refl _⟩ rfl (Nat.le_of_ble_eq_true rfl) dX8_time_110 rfl ?_
              rintro z110 F110 A110 ⟨ez110, V110, hS110, v110, k110, g110⟩
              obtain rfl := ez110.symm
              replace hS110 : St 119 V110 F110 A110 := hS110
              have f110 : tr V110 115 = wn0_4078 := (tr_keep (by decide) k110).trans uwn0_4078
              have c110 : V110 117 = wn0_4078.2.2 := congrArg (fun q => q.2.2) f110
              refine x_cVi (pc2 := 116) (ci := 8) hC hK (n_times l hM hS110 (by decide) (x := 115 + 2) (y := 118) ⟨by decide, by decide⟩ ⟨by decide, by decide⟩ (a := 101) (b := 1) (by rw [show V110 (115 + 2) = _ from c110]; exact bwn0_4078.2.2) (by rw [v110]; unfold bd; decide) (by decide)) lk_953 rfl rfl (by decide) (by assumption) (by assumption) ⟨Nat.le_of_ble_eq_true rfl, Nat.le_of_ble_eq_true rfl⟩ ⟨Nat.le_refl _, Nat.le_refl _⟩ rfl (Nat.le_of_ble_eq_true rfl) dX8_time_113 rfl ?_
              rintro z113 F113 A113 ⟨ez113, V113, hS113, v113, k113, g113⟩
              obtain rfl := ez113.symm
              replace hS113 : St 120 V113 F113 A113 := hS113
              rw [show V110 (115 + 2) = _ from c110, v110] at v113
              have f113 : tr V113 115 = wn0_4078 := (tr_keep (by decide) k113).trans f110
              refine x_cVi (pc2 := 119) (ci := 8) hC hK (n_triple l hM hS113 (by decide) (x := 115) (y := 115 + 1) (w := 118 + 1) ⟨by decide, by decide⟩ ⟨by decide, by decide⟩ ⟨by decide, by decide⟩) lk_911 rfl rfl (by decide) (by assumption) (by assumption) ⟨Nat.le_of_ble_eq_true rfl, Nat.le_of_ble_eq_true rfl⟩ ⟨Nat.le_refl _, Nat.le_refl _⟩ rfl (Nat.le_of_ble_eq_true rfl) dX8_time_116 rfl ?_
              rintro z116 F116 A116 ⟨ez116, V116, hS116, ⟨va, vb, vc⟩, k116, g116⟩
              obtain rfl := ez116.symm
              replace hS116 : St 123 V116 F116 A116 := hS116
              have f116 : tr V116 120 = (wn0_4078.1, wn0_4078.2.1, wn0_4078.2.2 * 4) := Prod.ext (va.trans (congrArg (fun q => q.1) f113)) (Prod.ext (vb.trans (congrArg (fun q => q.2.1) f113)) (vc.trans v113))
              have gg := ((((((((((((((g42.tr g1067).tr g1075).tr g1078).tr g2067).tr g2075).tr g2078).tr g3067).tr g3075).tr g3078).tr g4067).tr g4075).tr g4078).tr g110).tr g113).tr g116
              have e17 : F116 0 17 = F1 0 17 := (gg.2.1 17 (by decide) (by decide) (by decide)).trans (by rw [uF_nj (by decide)])
              have e10 : A116 10 = A1 10 := gg.a (by decide)
              have hrp : 0 < ((wn0_4078.1, wn0_4078.2.1, wn0_4078.2.2 * 4) : T3).2.2 := Int.mul_pos (show 0 < wn0_4078.2.2 from by rw [ewn0_4078, ewn0_3078, ewn0_2078, ewn0_1078]; exact r_add (r_add (r_add (r_add (by rw [ewn0_42]; decide) (by rw [ewn0_1075, ewn0_1067]; exact r_rot 0 (rr hi ha (t := 0) (e := 2 * i + j) ⟨by decide, by decide⟩ he))) (by rw [ewn0_2075, ewn0_2067]; exact r_rot 0 (rr hi ha (t := 1) (e := 2 * i + j) ⟨by decide, by decide⟩ he))) (by rw [ewn0_3075, ewn0_3067]; exact r_rot 0 (rr hi ha (t := 2) (e := 2 * i + j) ⟨by decide, by decide⟩ he))) (by rw [ewn0_4075, ewn0_4067]; exact r_rot 0 (rr hi ha (t := 3) (e := 2 * i + j) ⟨by decide, by decide⟩ he))) (by decide)
              refine x_cVv (pc2 := 122) (ci := 8) hC hK (n_makes l hM hS116 (by decide) (t := 0) ⟨by decide, by decide⟩ (i := 0) (j := 0) ⟨by decide, by decide⟩ (x := 120) ⟨by decide, by decide⟩ f116 hrp (by rw [e17]; exact h17)) lk_919 rfl rfl (by decide) (by assumption) (by assumption) ⟨Nat.le_of_ble_eq_true rfl, Nat.le_of_ble_eq_true rfl⟩ ⟨Nat.le_refl _, Nat.le_refl _⟩ rfl (Nat.le_of_ble_eq_true rfl) dX8_time_119 rfl ?_
              rintro F119 A119 ⟨-, m2, m3, m4, m5⟩
              have qq : q3 (wn0_4078.1, wn0_4078.2.1, wn0_4078.2.2 * 4) = timeX (fun t => nm S a t (2 * i + j)) 0 0 := q_time (z := wn0_42) (q0 := wn0_1075) (q1 := wn0_2075) (q2 := wn0_3075) (q3' := wn0_4075) ewn0_42 (by rw [ewn0_4078, ewn0_3078, ewn0_2078, ewn0_1078]) (by rw [ewn0_1075, ewn0_1067]; exact q_rot 0 (by decide) _) (by rw [ewn0_2075, ewn0_2067]; exact q_rot 0 (by decide) _) (by rw [ewn0_3075, ewn0_3067]; exact q_rot 0 (by decide) _) (by rw [ewn0_4075, ewn0_4067]; exact q_rot 0 (by decide) _)
              have ml := mk_low (x := timeX (fun t => nm S a t (2 * i + j)) 0 0) hrp (timeX_un (fun k hk => un_q3 (rr hi ha ⟨by omega, by omega⟩ he)) 0 0) (by rw [qq]; exact eqf.rf _) m2
              rw [e17] at m3
              refine x_iinc (pc2 := 125) (loc2 := [_, _, _, _, _, _, _, _]) hC (by decide) rfl rfl dX8_time_122 rfl ?_
              refine x_goto (pc2 := 29) hC dX8_time_125 rfl ?_
              exact next _ _ _ _ (hR1.K (((FrK.f (by decide)).tr gg.K).tr m5)) (hmk.step (t := 0) (e := 0) ⟨by decide, by decide⟩ ⟨by decide, by decide⟩ (fun t0 e0 => ⟨fun y => by omega, fun y => by omega⟩) ml m3 (fun n hn => by rw [m4 n (by omega), e10]))
            · exact absurd h_53 (by decide)
  have body1 : ∀ (F1 : Nat → Nat → Int) (A1 : Nat → Int → Int) (e6 e7 : Option PV), isB S c0 → isB S a → isT (2 * i + j) → RepM S F1 A1 → (F1 0 17 = 0 ∨ F1 0 17 = 1) → MkD (fun n e => timeX (fun t => nm S a t (2 * i + j)) n e) (A1 10) (F1 0 17) (fun t0 e0 => t0 < 1 ∧ e0 = 0) → (∀ (F2 : Nat → Nat → Int) (A2 : Nat → Int → Int) (f6 f7 : Option PV), RepM S F2 A2 → MkD (fun n e => timeX (fun t => nm S a t (2 * i + j)) n e) (A2 10) (F2 0 17) (fun t0 e0 => t0 < 2 ∧ e0 = 0) → X p l e { frames := 5, cells := 0, slots := 0, locals := 118 } s m args below meth c (MQ below (QX D ids β sh N R (pIr (fun z F2 A2 => ∃ S2, rTime S c0 a i j z S2 ∧ RepM S2 F2 A2))) args s 0 0 (inG β N)) (inG β N) D ids β sh 8 0 0 N R F2 A2 [some (rf 0), some (pI c0), some (pI a), some (pI i), some (pI j), some (pI 2), f6, f7] [] 29) → X p l e { frames := 5, cells := 0, slots := 0, locals := 118 } s m args below meth c (MQ below (QX D ids β sh N R (pIr (fun z F2 A2 => ∃ S2, rTime S c0 a i j z S2 ∧ RepM S2 F2 A2))) args s 0 0 (inG β N)) (inG β N) D ids β sh 8 0 0 N R F1 A1 [some (rf 0), some (pI c0), some (pI a), some (pI i), some (pI j), some (pI 1), e6, e7] [] 35 := by
    intro F1 A1 e6 e7 hc2 ha he hR1 h17 hmk next
    have hb6 := hR1.2.2.2.2.2.2.1
    have a16 := ha.2
    have a00 := ha.1
    refine x_aload_n (pc2 := 36) hC rfl rfl dX8_time_35 rfl ?_
    refine x_iconst (pc2 := 37) hC dX8_time_36 rfl ?_
    refine p_819 (pc2 := 40) hC hK (by assumption) (by assumption) dX8_time_37 rfl ?_
    refine x_aload_n (pc2 := 41) hC rfl rfl dX8_time_40 rfl ?_
    refine x_lconst0 (pc2 := 42) hC dX8_time_41 rfl ?_
    refine x_cVi (pc2 := 45) (ci := 8) hC hK (t_whole l hM (St.zero (F := F1) (A := A1)) (by decide) (v := 0) (by decide)) lk_981 rfl rfl (by decide) (by assumption) (by assumption) ⟨Nat.le_of_ble_eq_true rfl, Nat.le_of_ble_eq_true rfl⟩ ⟨Nat.le_refl _, Nat.le_refl _⟩ rfl (Nat.le_of_ble_eq_true rfl) dX8_time_42 rfl ?_
    rintro z42 F42 A42 ⟨ez42, V42, hS42, v42, k42, g42⟩
    obtain rfl := ez42.symm
    replace hS42 : St 6 V42 F42 A42 := hS42
    rw [show (0 : Int) + 3 = 3 from rfl]
    obtain ⟨wn1_42, ewn1_42⟩ : ∃ w : T3, w = (0, 0, 1) := ⟨_, rfl⟩
    have uwn1_42 : tr V42 3 = wn1_42 := by rw [ewn1_42]; exact v42
    have bwn1_42 : bdt 1 1 wn1_42 := by rw [ewn1_42]; exact ⟨by unfold bd; decide, by unfold bd; decide, by unfold bd; decide⟩
    clear v42
    refine x_istore (pc2 := 47) (loc2 := [_, _, _, _, _, _, _, _]) hC (by decide) rfl dX8_time_45 rfl ?_
    refine x_iconst (pc2 := 48) hC dX8_time_47 rfl ?_
    refine x_istore (pc2 := 50) (loc2 := [_, _, _, _, _, _, _, _]) hC (by decide) rfl dX8_time_48 rfl ?_
    refine x_iload (pc2 := 52) hC rfl dX8_time_50 rfl ?_
    refine x_iconst (pc2 := 53) hC dX8_time_52 rfl ?_
    refine x_icmp_ge (tgt := 89) (pc2 := 56) hC (by omega) (by omega) dX8_time_53 rfl rfl (fun h_53 => ?_) (fun h_53 => ?_)
    · exact absurd h_53 (by decide)
    · refine x_aload_n (pc2 := 57) hC rfl rfl dX8_time_56 rfl ?_
      refine x_iload (pc2 := 59) hC rfl dX8_time_57 rfl ?_
      refine x_aload_n (pc2 := 60) hC rfl rfl dX8_time_59 rfl ?_
      refine x_aload_n (pc2 := 61) hC rfl rfl dX8_time_60 rfl ?_
      refine x_iload_n (pc2 := 62) hC rfl rfl dX8_time_61 rfl ?_
      refine x_iload (pc2 := 64) hC rfl dX8_time_62 rfl ?_
      refine x_iload_n (pc2 := 65) hC rfl rfl dX8_time_64 rfl ?_
      refine x_iload (pc2 := 67) hC rfl dX8_time_65 rfl ?_
      refine x_cVi (pc2 := 70) (ci := 8) hC hK (t_entry l hM hS42 (by decide) ⟨by omega, by omega⟩ (x := vS S a 0 (2 * i + j)) (by rw [g42.a (by decide)]; exact (show held (A1 2) (96 * a + 24 * (0) + 6 * (2 * i + j)) (vS S a 0 (2 * i + j)) from hb6 a 0 (2 * i + j) ha ⟨by decide, by decide⟩ he)) ((hi.2.1 a ha).2 0 (2 * i + j) ⟨by decide, by decide⟩ he).1.2.2) lk_985 rfl rfl (by decide) (by assumption) (by assumption) ⟨Nat.le_of_ble_eq_true rfl, Nat.le_of_ble_eq_true rfl⟩ ⟨Nat.le_refl _, Nat.le_refl _⟩ rfl (Nat.le_of_ble_eq_true rfl) dX8_time_67 rfl ?_
      rintro z1067 F1067 A1067 ⟨ez1067, V1067, hS1067, v1067, k1067, g1067⟩
      obtain rfl := ez1067.symm
      replace hS1067 : St 24 V1067 F1067 A1067 := hS1067
      have t1067_wn1_42 : tr V1067 3 = wn1_42 := (tr_keep (by decide) k1067).trans uwn1_42
      rw [show (6 : Int) + 15 = 21 from rfl]
      obtain ⟨wn1_1067, ewn1_1067⟩ : ∃ w : T3, w = vS S a 0 (2 * i + j) := ⟨_, rfl⟩
      have uwn1_1067 : tr V1067 21 = wn1_1067 := by rw [ewn1_1067]; exact v1067
      have bwn1_1067 : bdt 25 25 wn1_1067 := by rw [ewn1_1067]; exact (ok_bdt ((hi.2.1 a ha).2 0 (2 * i + j) ⟨by decide, by decide⟩ he).1)
      clear v1067
      refine x_iload (pc2 := 72) hC rfl dX8_time_70 rfl ?_
      refine x_iload (pc2 := 74) hC rfl dX8_time_72 rfl ?_
      refine x_imul (pc2 := 75) hC dX8_time_74 rfl ?_
      refine x_cVi (pc2 := 78) (ci := 8) hC hK (t_quarter0 l hM (hR1.K ((FrK.f (by decide)).tr (g42.tr g1067).K)) hS1067 (x := 21) (n := 1 * (0)) ⟨by decide, by decide⟩ uwn1_1067 bwn1_1067 (by decide) ⟨by decide, by decide⟩ (by decide)) lk_1106 rfl rfl (by decide) (by assumption) (by assumption) ⟨Nat.le_of_ble_eq_true rfl, Nat.le_of_ble_eq_true rfl⟩ ⟨Nat.le_refl _, Nat.le_refl _⟩ rfl (Nat.le_of_ble_eq_true rfl) dX8_time_75 rfl ?_
      rintro z1075 F1075 A1075 ⟨ez1075, V1075, hS1075, v1075, k1075, g1075⟩
      obtain rfl := ez1075.symm
      replace hS1075 : St 24 V1075 F1075 A1075 := hS1075
      have t1075_wn1_42 : tr V1075 3 = wn1_42 := (tr_keep (by decide) k1075).trans t1067_wn1_42
      have t1075_wn1_1067 : tr V1075 21 = wn1_1067 := (tr_keep (by decide) k1075).trans uwn1_1067
      obtain ⟨wn1_1075, ewn1_1075⟩ : ∃ w : T3, w = trot 0 wn1_1067 := ⟨_, rfl⟩
      have uwn1_1075 : tr V1075 21 = wn1_1075 := by rw [ewn1_1075]; exact v1075
      have bwn1_1075 : bdt 25 25 wn1_1075 := by rw [ewn1_1075]; exact (bdt_rot 0 bwn1_1067)
      clear v1075
      refine x_cVi (pc2 := 81) (ci := 8) hC hK (t_added l hM hS1075 (x := 3) (y := 21) ⟨by decide, by decide⟩ ⟨by decide, by decide⟩ t1075_wn1_42 uwn1_1075 bwn1_42 bwn1_1075 (by decide) ⟨by decide, by decide, by decide⟩) lk_1020 rfl rfl (by decide) (by assumption) (by assumption) ⟨Nat.le_of_ble_eq_true rfl, Nat.le_of_ble_eq_true rfl⟩ ⟨Nat.le_refl _, Nat.le_refl _⟩ rfl (Nat.le_of_ble_eq_true rfl) dX8_time_78 rfl ?_
      rintro z1078 F1078 A1078 ⟨ez1078, V1078, hS1078, v1078, k1078, g1078⟩
      obtain rfl := ez1078.symm
      replace hS1078 : St 34 V1078 F1078 A1078 := hS1078
      have t1078_wn1_42 : tr V1078 3 = wn1_42 := (tr_keep (by decide) k1078).trans t1075_wn1_42
      have t1078_wn1_1067 : tr V1078 21 = wn1_1067 := (tr_keep (by decide) k1078).trans t1075_wn1_1067
      have t1078_wn1_1075 : tr V1078 21 = wn1_1075 := (tr_keep (by decide) k1078).trans uwn1_1075
      rw [show (24 : Int) + 7 = 31 from rfl]
      obtain ⟨wn1_1078, ewn1_1078⟩ : ∃ w : T3, w = tadd wn1_42 wn1_1075 := ⟨_, rfl⟩
      have uwn1_1078 : tr V1078 31 = wn1_1078 := by rw [ewn1_1078]; exact v1078
      have bwn1_1078 : bdt 27 26 wn1_1078 := by rw [ewn1_1078]; exact (bdt_add bwn1_42 bwn1_1075 (by decide) (by decide) (by decide))
      clear v1078
      refine x_istore (pc2 := 83) (loc2 := [_, _, _, _, _, _, _, _]) hC (by decide) rfl dX8_time_81 rfl ?_
      refine x_iinc (pc2 := 86) (loc2 := [_, _, _, _, _, _, _, _]) hC (by decide) rfl rfl dX8_time_83 rfl ?_
      refine x_goto (pc2 := 50) hC dX8_time_86 rfl ?_
      refine x_iload (pc2 := 52) hC rfl dX8_time_50 rfl ?_
      refine x_iconst (pc2 := 53) hC dX8_time_52 rfl ?_
      refine x_icmp_ge (tgt := 89) (pc2 := 56) hC (by omega) (by omega) dX8_time_53 rfl rfl (fun h_53 => ?_) (fun h_53 => ?_)
      · exact absurd h_53 (by decide)
      · refine x_aload_n (pc2 := 57) hC rfl rfl dX8_time_56 rfl ?_
        refine x_iload (pc2 := 59) hC rfl dX8_time_57 rfl ?_
        refine x_aload_n (pc2 := 60) hC rfl rfl dX8_time_59 rfl ?_
        refine x_aload_n (pc2 := 61) hC rfl rfl dX8_time_60 rfl ?_
        refine x_iload_n (pc2 := 62) hC rfl rfl dX8_time_61 rfl ?_
        refine x_iload (pc2 := 64) hC rfl dX8_time_62 rfl ?_
        refine x_iload_n (pc2 := 65) hC rfl rfl dX8_time_64 rfl ?_
        refine x_iload (pc2 := 67) hC rfl dX8_time_65 rfl ?_
        refine x_cVi (pc2 := 70) (ci := 8) hC hK (t_entry l hM hS1078 (by decide) ⟨by omega, by omega⟩ (x := vS S a 1 (2 * i + j)) (by rw [(((g42.tr g1067).tr g1075).tr g1078).a (by decide)]; exact (show held (A1 2) (96 * a + 24 * (1) + 6 * (2 * i + j)) (vS S a 1 (2 * i + j)) from hb6 a 1 (2 * i + j) ha ⟨by decide, by decide⟩ he)) ((hi.2.1 a ha).2 1 (2 * i + j) ⟨by decide, by decide⟩ he).1.2.2) lk_985 rfl rfl (by decide) (by assumption) (by assumption) ⟨Nat.le_of_ble_eq_true rfl, Nat.le_of_ble_eq_true rfl⟩ ⟨Nat.le_refl _, Nat.le_refl _⟩ rfl (Nat.le_of_ble_eq_true rfl) dX8_time_67 rfl ?_
        rintro z2067 F2067 A2067 ⟨ez2067, V2067, hS2067, v2067, k2067, g2067⟩
        obtain rfl := ez2067.symm
        replace hS2067 : St 52 V2067 F2067 A2067 := hS2067
        have t2067_wn1_1078 : tr V2067 31 = wn1_1078 := (tr_keep (by decide) k2067).trans uwn1_1078
        rw [show (34 : Int) + 15 = 49 from rfl]
        obtain ⟨wn1_2067, ewn1_2067⟩ : ∃ w : T3, w = vS S a 1 (2 * i + j) := ⟨_, rfl⟩
        have uwn1_2067 : tr V2067 49 = wn1_2067 := by rw [ewn1_2067]; exact v2067
        have bwn1_2067 : bdt 25 25 wn1_2067 := by rw [ewn1_2067]; exact (ok_bdt ((hi.2.1 a ha).2 1 (2 * i + j) ⟨by decide, by decide⟩ he).1)
        clear v2067
        refine x_iload (pc2 := 72) hC rfl dX8_time_70 rfl ?_
        refine x_iload (pc2 := 74) hC rfl dX8_time_72 rfl ?_
        refine x_imul (pc2 := 75) hC dX8_time_74 rfl ?_
        refine x_cVi (pc2 := 78) (ci := 8) hC hK (t_quarter1 l hM (hR1.K ((FrK.f (by decide)).tr ((((g42.tr g1067).tr g1075).tr g1078).tr g2067).K)) hS2067 (x := 49) (n := 1 * (0 + 1)) ⟨by decide, by decide⟩ uwn1_2067 bwn1_2067 (by decide) ⟨by decide, by decide⟩ (by decide)) lk_1106 rfl rfl (by decide) (by assumption) (by assumption) ⟨Nat.le_of_ble_eq_true rfl, Nat.le_of_ble_eq_true rfl⟩ ⟨Nat.le_refl _, Nat.le_refl _⟩ rfl (Nat.le_of_ble_eq_true rfl) dX8_time_75 rfl ?_
        rintro z2075 F2075 A2075 ⟨ez2075, V2075, hS2075, v2075, k2075, g2075⟩
        obtain rfl := ez2075.symm
        replace hS2075 : St 56 V2075 F2075 A2075 := hS2075
        have t2075_wn1_1078 : tr V2075 31 = wn1_1078 := (tr_keep (by decide) k2075).trans t2067_wn1_1078
        have t2075_wn1_2067 : tr V2075 49 = wn1_2067 := (tr_keep (by decide) k2075).trans uwn1_2067
        rw [show (52 : Int) + 1 = 53 from rfl]
        obtain ⟨wn1_2075, ewn1_2075⟩ : ∃ w : T3, w = trot 1 wn1_2067 := ⟨_, rfl⟩
        have uwn1_2075 : tr V2075 53 = wn1_2075 := by rw [ewn1_2075]; exact v2075
        have bwn1_2075 : bdt 25 25 wn1_2075 := by rw [ewn1_2075]; exact (bdt_rot 1 bwn1_2067)
        clear v2075
        refine x_cVi (pc2 := 81) (ci := 8) hC hK (t_added l hM hS2075 (x := 31) (y := 53) ⟨by decide, by decide⟩ ⟨by decide, by decide⟩ t2075_wn1_1078 uwn1_2075 bwn1_1078 bwn1_2075 (by decide) ⟨by decide, by decide, by decide⟩) lk_1020 rfl rfl (by decide) (by assumption) (by assumption) ⟨Nat.le_of_ble_eq_true rfl, Nat.le_of_ble_eq_true rfl⟩ ⟨Nat.le_refl _, Nat.le_refl _⟩ rfl (Nat.le_of_ble_eq_true rfl) dX8_time_78 rfl ?_
        rintro z2078 F2078 A2078 ⟨ez2078, V2078, hS2078, v2078, k2078, g2078⟩
        obtain rfl := ez2078.symm
        replace hS2078 : St 66 V2078 F2078 A2078 := hS2078
        have t2078_wn1_1078 : tr V2078 31 = wn1_1078 := (tr_keep (by decide) k2078).trans t2075_wn1_1078
        have t2078_wn1_2067 : tr V2078 49 = wn1_2067 := (tr_keep (by decide) k2078).trans t2075_wn1_2067
        have t2078_wn1_2075 : tr V2078 53 = wn1_2075 := (tr_keep (by decide) k2078).trans uwn1_2075
        rw [show (56 : Int) + 7 = 63 from rfl]
        obtain ⟨wn1_2078, ewn1_2078⟩ : ∃ w : T3, w = tadd wn1_1078 wn1_2075 := ⟨_, rfl⟩
        have uwn1_2078 : tr V2078 63 = wn1_2078 := by rw [ewn1_2078]; exact v2078
        have bwn1_2078 : bdt 53 51 wn1_2078 := by rw [ewn1_2078]; exact (bdt_add bwn1_1078 bwn1_2075 (by decide) (by decide) (by decide))
        clear v2078
        refine x_istore (pc2 := 83) (loc2 := [_, _, _, _, _, _, _, _]) hC (by decide) rfl dX8_time_81 rfl ?_
        refine x_iinc (pc2 := 86) (loc2 := [_, _, _, _, _, _, _, _]) hC (by decide) rfl rfl dX8_time_83 rfl ?_
        refine x_goto (pc2 := 50) hC dX8_time_86 rfl ?_
        refine x_iload (pc2 := 52) hC rfl dX8_time_50 rfl ?_
        refine x_iconst (pc2 := 53) hC dX8_time_52 rfl ?_
        refine x_icmp_ge (tgt := 89) (pc2 := 56) hC (by omega) (by omega) dX8_time_53 rfl rfl (fun h_53 => ?_) (fun h_53 => ?_)
        · exact absurd h_53 (by decide)
        · refine x_aload_n (pc2 := 57) hC rfl rfl dX8_time_56 rfl ?_
          refine x_iload (pc2 := 59) hC rfl dX8_time_57 rfl ?_
          refine x_aload_n (pc2 := 60) hC rfl rfl dX8_time_59 rfl ?_
          refine x_aload_n (pc2 := 61) hC rfl rfl dX8_time_60 rfl ?_
          refine x_iload_n (pc2 := 62) hC rfl rfl dX8_time_61 rfl ?_
          refine x_iload (pc2 := 64) hC rfl dX8_time_62 rfl ?_
          refine x_iload_n (pc2 := 65) hC rfl rfl dX8_time_64 rfl ?_
          refine x_iload (pc2 := 67) hC rfl dX8_time_65 rfl ?_
          refine x_cVi (pc2 := 70) (ci := 8) hC hK (t_entry l hM hS2078 (by decide) ⟨by omega, by omega⟩ (x := vS S a 2 (2 * i + j)) (by rw [((((((g42.tr g1067).tr g1075).tr g1078).tr g2067).tr g2075).tr g2078).a (by decide)]; exact (show held (A1 2) (96 * a + 24 * (2) + 6 * (2 * i + j)) (vS S a 2 (2 * i + j)) from hb6 a 2 (2 * i + j) ha ⟨by decide, by decide⟩ he)) ((hi.2.1 a ha).2 2 (2 * i + j) ⟨by decide, by decide⟩ he).1.2.2) lk_985 rfl rfl (by decide) (by assumption) (by assumption) ⟨Nat.le_of_ble_eq_true rfl, Nat.le_of_ble_eq_true rfl⟩ ⟨Nat.le_refl _, Nat.le_refl _⟩ rfl (Nat.le_of_ble_eq_true rfl) dX8_time_67 rfl ?_
          rintro z3067 F3067 A3067 ⟨ez3067, V3067, hS3067, v3067, k3067, g3067⟩
          obtain rfl := ez3067.symm
          replace hS3067 : St 84 V3067 F3067 A3067 := hS3067
          have t3067_wn1_2078 : tr V3067 63 = wn1_2078 := (tr_keep (by decide) k3067).trans uwn1_2078
          rw [show (66 : Int) + 15 = 81 from rfl]
          obtain ⟨wn1_3067, ewn1_3067⟩ : ∃ w : T3, w = vS S a 2 (2 * i + j) := ⟨_, rfl⟩
          have uwn1_3067 : tr V3067 81 = wn1_3067 := by rw [ewn1_3067]; exact v3067
          have bwn1_3067 : bdt 25 25 wn1_3067 := by rw [ewn1_3067]; exact (ok_bdt ((hi.2.1 a ha).2 2 (2 * i + j) ⟨by decide, by decide⟩ he).1)
          clear v3067
          refine x_iload (pc2 := 72) hC rfl dX8_time_70 rfl ?_
          refine x_iload (pc2 := 74) hC rfl dX8_time_72 rfl ?_
          refine x_imul (pc2 := 75) hC dX8_time_74 rfl ?_
          refine x_cVi (pc2 := 78) (ci := 8) hC hK (t_quarter2 l hM (hR1.K ((FrK.f (by decide)).tr (((((((g42.tr g1067).tr g1075).tr g1078).tr g2067).tr g2075).tr g2078).tr g3067).K)) hS3067 (x := 81) (n := 1 * (0 + 1 + 1)) ⟨by decide, by decide⟩ uwn1_3067 bwn1_3067 (by decide) ⟨by decide, by decide⟩ (by decide)) lk_1106 rfl rfl (by decide) (by assumption) (by assumption) ⟨Nat.le_of_ble_eq_true rfl, Nat.le_of_ble_eq_true rfl⟩ ⟨Nat.le_refl _, Nat.le_refl _⟩ rfl (Nat.le_of_ble_eq_true rfl) dX8_time_75 rfl ?_
          rintro z3075 F3075 A3075 ⟨ez3075, V3075, hS3075, v3075, k3075, g3075⟩
          obtain rfl := ez3075.symm
          replace hS3075 : St 89 V3075 F3075 A3075 := hS3075
          have t3075_wn1_2078 : tr V3075 63 = wn1_2078 := (tr_keep (by decide) k3075).trans t3067_wn1_2078
          have t3075_wn1_3067 : tr V3075 81 = wn1_3067 := (tr_keep (by decide) k3075).trans uwn1_3067
          rw [show (84 : Int) + 2 = 86 from rfl]
          obtain ⟨wn1_3075, ewn1_3075⟩ : ∃ w : T3, w = trot 2 wn1_3067 := ⟨_, rfl⟩
          have uwn1_3075 : tr V3075 86 = wn1_3075 := by rw [ewn1_3075]; exact v3075
          have bwn1_3075 : bdt 25 25 wn1_3075 := by rw [ewn1_3075]; exact (bdt_rot 2 bwn1_3067)
          clear v3075
          refine x_cVi (pc2 := 81) (ci := 8) hC hK (t_added l hM hS3075 (x := 63) (y := 86) ⟨by decide, by decide⟩ ⟨by decide, by decide⟩ t3075_wn1_2078 uwn1_3075 bwn1_2078 bwn1_3075 (by decide) ⟨by decide, by decide, by decide⟩) lk_1020 rfl rfl (by decide) (by assumption) (by assumption) ⟨Nat.le_of_ble_eq_true rfl, Nat.le_of_ble_eq_true rfl⟩ ⟨Nat.le_refl _, Nat.le_refl _⟩ rfl (Nat.le_of_ble_eq_true rfl) dX8_time_78 rfl ?_
          rintro z3078 F3078 A3078 ⟨ez3078, V3078, hS3078, v3078, k3078, g3078⟩
          obtain rfl := ez3078.symm
          replace hS3078 : St 99 V3078 F3078 A3078 := hS3078
          have t3078_wn1_2078 : tr V3078 63 = wn1_2078 := (tr_keep (by decide) k3078).trans t3075_wn1_2078
          have t3078_wn1_3067 : tr V3078 81 = wn1_3067 := (tr_keep (by decide) k3078).trans t3075_wn1_3067
          have t3078_wn1_3075 : tr V3078 86 = wn1_3075 := (tr_keep (by decide) k3078).trans uwn1_3075
          rw [show (89 : Int) + 7 = 96 from rfl]
          obtain ⟨wn1_3078, ewn1_3078⟩ : ∃ w : T3, w = tadd wn1_2078 wn1_3075 := ⟨_, rfl⟩
          have uwn1_3078 : tr V3078 96 = wn1_3078 := by rw [ewn1_3078]; exact v3078
          have bwn1_3078 : bdt 79 76 wn1_3078 := by rw [ewn1_3078]; exact (bdt_add bwn1_2078 bwn1_3075 (by decide) (by decide) (by decide))
          clear v3078
          refine x_istore (pc2 := 83) (loc2 := [_, _, _, _, _, _, _, _]) hC (by decide) rfl dX8_time_81 rfl ?_
          refine x_iinc (pc2 := 86) (loc2 := [_, _, _, _, _, _, _, _]) hC (by decide) rfl rfl dX8_time_83 rfl ?_
          refine x_goto (pc2 := 50) hC dX8_time_86 rfl ?_
          refine x_iload (pc2 := 52) hC rfl dX8_time_50 rfl ?_
          refine x_iconst (pc2 := 53) hC dX8_time_52 rfl ?_
          refine x_icmp_ge (tgt := 89) (pc2 := 56) hC (by omega) (by omega) dX8_time_53 rfl rfl (fun h_53 => ?_) (fun h_53 => ?_)
          · exact absurd h_53 (by decide)
          · refine x_aload_n (pc2 := 57) hC rfl rfl dX8_time_56 rfl ?_
            refine x_iload (pc2 := 59) hC rfl dX8_time_57 rfl ?_
            refine x_aload_n (pc2 := 60) hC rfl rfl dX8_time_59 rfl ?_
            refine x_aload_n (pc2 := 61) hC rfl rfl dX8_time_60 rfl ?_
            refine x_iload_n (pc2 := 62) hC rfl rfl dX8_time_61 rfl ?_
            refine x_iload (pc2 := 64) hC rfl dX8_time_62 rfl ?_
            refine x_iload_n (pc2 := 65) hC rfl rfl dX8_time_64 rfl ?_
            refine x_iload (pc2 := 67) hC rfl dX8_time_65 rfl ?_
            refine x_cVi (pc2 := 70) (ci := 8) hC hK (t_entry l hM hS3078 (by decide) ⟨by omega, by omega⟩ (x := vS S a 3 (2 * i + j)) (by rw [(((((((((g42.tr g1067).tr g1075).tr g1078).tr g2067).tr g2075).tr g2078).tr g3067).tr g3075).tr g3078).a (by decide)]; exact (show held (A1 2) (96 * a + 24 * (3) + 6 * (2 * i + j)) (vS S a 3 (2 * i + j)) from hb6 a 3 (2 * i + j) ha ⟨by decide, by decide⟩ he)) ((hi.2.1 a ha).2 3 (2 * i + j) ⟨by decide, by decide⟩ he).1.2.2) lk_985 rfl rfl (by decide) (by assumption) (by assumption) ⟨Nat.le_of_ble_eq_true rfl, Nat.le_of_ble_eq_true rfl⟩ ⟨Nat.le_refl _, Nat.le_refl _⟩ rfl (Nat.le_of_ble_eq_true rfl) dX8_time_67 rfl ?_
            rintro z4067 F4067 A4067 ⟨ez4067, V4067, hS4067, v4067, k4067, g4067⟩
            obtain rfl := ez4067.symm
            replace hS4067 : St 117 V4067 F4067 A4067 := hS4067
            have t4067_wn1_3078 : tr V4067 96 = wn1_3078 := (tr_keep (by decide) k4067).trans uwn1_3078
            rw [show (99 : Int) + 15 = 114 from rfl]
            obtain ⟨wn1_4067, ewn1_4067⟩ : ∃ w : T3, w = vS S a 3 (2 * i + j) := ⟨_, rfl⟩
            have uwn1_4067 : tr V4067 114 = wn1_4067 := by rw [ewn1_4067]; exact v4067
            have bwn1_4067 : bdt 25 25 wn1_4067 := by rw [ewn1_4067]; exact (ok_bdt ((hi.2.1 a ha).2 3 (2 * i + j) ⟨by decide, by decide⟩ he).1)
            clear v4067
            refine x_iload (pc2 := 72) hC rfl dX8_time_70 rfl ?_
            refine x_iload (pc2 := 74) hC rfl dX8_time_72 rfl ?_
            refine x_imul (pc2 := 75) hC dX8_time_74 rfl ?_
            refine x_cVi (pc2 := 78) (ci := 8) hC hK (t_quarter3 l hM (hR1.K ((FrK.f (by decide)).tr ((((((((((g42.tr g1067).tr g1075).tr g1078).tr g2067).tr g2075).tr g2078).tr g3067).tr g3075).tr g3078).tr g4067).K)) hS4067 (x := 114) (n := 1 * (0 + 1 + 1 + 1)) ⟨by decide, by decide⟩ uwn1_4067 bwn1_4067 (by decide) ⟨by decide, by decide⟩ (by decide)) lk_1106 rfl rfl (by decide) (by assumption) (by assumption) ⟨Nat.le_of_ble_eq_true rfl, Nat.le_of_ble_eq_true rfl⟩ ⟨Nat.le_refl _, Nat.le_refl _⟩ rfl (Nat.le_of_ble_eq_true rfl) dX8_time_75 rfl ?_
            rintro z4075 F4075 A4075 ⟨ez4075, V4075, hS4075, v4075, k4075, g4075⟩
            obtain rfl := ez4075.symm
            replace hS4075 : St 121 V4075 F4075 A4075 := hS4075
            have t4075_wn1_3078 : tr V4075 96 = wn1_3078 := (tr_keep (by decide) k4075).trans t4067_wn1_3078
            have t4075_wn1_4067 : tr V4075 114 = wn1_4067 := (tr_keep (by decide) k4075).trans uwn1_4067
            rw [show (117 : Int) + 1 = 118 from rfl]
            obtain ⟨wn1_4075, ewn1_4075⟩ : ∃ w : T3, w = trot 3 wn1_4067 := ⟨_, rfl⟩
            have uwn1_4075 : tr V4075 118 = wn1_4075 := by rw [ewn1_4075]; exact v4075
            have bwn1_4075 : bdt 25 25 wn1_4075 := by rw [ewn1_4075]; exact (bdt_rot 3 bwn1_4067)
            clear v4075
            refine x_cVi (pc2 := 81) (ci := 8) hC hK (t_added l hM hS4075 (x := 96) (y := 118) ⟨by decide, by decide⟩ ⟨by decide, by decide⟩ t4075_wn1_3078 uwn1_4075 bwn1_3078 bwn1_4075 (by decide) ⟨by decide, by decide, by decide⟩) lk_1020 rfl rfl (by decide) (by assumption) (by assumption) ⟨Nat.le_of_ble_eq_true rfl, Nat.le_of_ble_eq_true rfl⟩ ⟨Nat.le_refl _, Nat.le_refl _⟩ rfl (Nat.le_of_ble_eq_true rfl) dX8_time_78 rfl ?_
            rintro z4078 F4078 A4078 ⟨ez4078, V4078, hS4078, v4078, k4078, g4078⟩
            obtain rfl := ez4078.symm
            replace hS4078 : St 131 V4078 F4078 A4078 := hS4078
            have t4078_wn1_3078 : tr V4078 96 = wn1_3078 := (tr_keep (by decide) k4078).trans t4075_wn1_3078
            have t4078_wn1_4067 : tr V4078 114 = wn1_4067 := (tr_keep (by decide) k4078).trans t4075_wn1_4067
            have t4078_wn1_4075 : tr V4078 118 = wn1_4075 := (tr_keep (by decide) k4078).trans uwn1_4075
            rw [show (121 : Int) + 7 = 128 from rfl]
            obtain ⟨wn1_4078, ewn1_4078⟩ : ∃ w : T3, w = tadd wn1_3078 wn1_4075 := ⟨_, rfl⟩
            have uwn1_4078 : tr V4078 128 = wn1_4078 := by rw [ewn1_4078]; exact v4078
            have bwn1_4078 : bdt 105 101 wn1_4078 := by rw [ewn1_4078]; exact (bdt_add bwn1_3078 bwn1_4075 (by decide) (by decide) (by decide))
            clear v4078
            refine x_istore (pc2 := 83) (loc2 := [_, _, _, _, _, _, _, _]) hC (by decide) rfl dX8_time_81 rfl ?_
            refine x_iinc (pc2 := 86) (loc2 := [_, _, _, _, _, _, _, _]) hC (by decide) rfl rfl dX8_time_83 rfl ?_
            refine x_goto (pc2 := 50) hC dX8_time_86 rfl ?_
            refine x_iload (pc2 := 52) hC rfl dX8_time_50 rfl ?_
            refine x_iconst (pc2 := 53) hC dX8_time_52 rfl ?_
            refine x_icmp_ge (tgt := 89) (pc2 := 56) hC (by omega) (by omega) dX8_time_53 rfl rfl (fun h_53 => ?_) (fun h_53 => ?_)
            · refine x_aload_n (pc2 := 90) hC rfl rfl dX8_time_89 rfl ?_
              refine x_iload (pc2 := 92) hC rfl dX8_time_90 rfl ?_
              refine x_iconst (pc2 := 93) hC dX8_time_92 rfl ?_
              refine x_iconst (pc2 := 94) hC dX8_time_93 rfl ?_
              refine x_aload_n (pc2 := 95) hC rfl rfl dX8_time_94 rfl ?_
              refine x_iload (pc2 := 97) hC rfl dX8_time_95 rfl ?_
              refine x_iload (pc2 := 99) hC rfl dX8_time_97 rfl ?_
              refine x_iconst (pc2 := 100) hC dX8_time_99 rfl ?_
              refine x_iadd (pc2 := 101) hC dX8_time_100 rfl ?_
              refine x_aload_n (pc2 := 102) hC rfl rfl dX8_time_101 rfl ?_
              refine x_iload (pc2 := 104) hC rfl dX8_time_102 rfl ?_
              refine x_iconst (pc2 := 105) hC dX8_time_104 rfl ?_
              refine x_iadd (pc2 := 106) hC dX8_time_105 rfl ?_
              refine x_aload_n (pc2 := 107) hC rfl rfl dX8_time_106 rfl ?_
              refine x_ldc2 (pc2 := 110) (z := 4) hC wt_1110 rfl dX8_time_107 rfl ?_
              refine x_cVi12 (pc2 := 113) (ci := 8) hC hK (n_of l hM hS4078 (by decide) (v := 4) (by decide)) lk_902 rfl rfl (by decide) (by assumption) (by assumption) ⟨Nat.le_of_ble_eq_true rfl, Nat.le_of_ble_eq_true rfl⟩ ⟨Nat.le_refl _, Nat.le_refl _⟩ rfl (Nat.le_of_ble_eq_true rfl) dX8_time_110 rfl ?_
              rintro z110 F110 A110 ⟨ez110, V110, hS110, v110, k110, g110⟩
              obtain rfl := ez110.symm
              replace hS110 : St 132 V110 F110 A110 := hS110
              have f110 : tr V110 128 = wn1_4078 := (tr_keep (by decide) k110).trans uwn1_4078
              have c110 : V110 130 = wn1_4078.2.2 := congrArg (fun q => q.2.2) f110
              refine x_cVi (pc2 := 116) (ci := 8) hC hK (n_times l hM hS110 (by decide) (x := 128 + 2) (y := 131) ⟨by decide, by decide⟩ ⟨by decide, by decide⟩ (a := 101) (b := 1) (by rw [show V110 (128 + 2) = _ from c110]; exact bwn1_4078.2.2) (by rw [v110]; unfold bd; decide) (by decide)) lk_953 rfl rfl (by decide) (by assumption) (by assumption) ⟨Nat.le_of_ble_eq_true rfl, Nat.le_of_ble_eq_true rfl⟩ ⟨Nat.le_refl _, Nat.le_refl _⟩ rfl (Nat.le_of_ble_eq_true rfl) dX8_time_113 rfl ?_
              rintro z113 F113 A113 ⟨ez113, V113, hS113, v113, k113, g113⟩
              obtain rfl := ez113.symm
              replace hS113 : St 133 V113 F113 A113 := hS113
              rw [show V110 (128 + 2) = _ from c110, v110] at v113
              have f113 : tr V113 128 = wn1_4078 := (tr_keep (by decide) k113).trans f110
              refine x_cVi (pc2 := 119) (ci := 8) hC hK (n_triple l hM hS113 (by decide) (x := 128) (y := 128 + 1) (w := 131 + 1) ⟨by decide, by decide⟩ ⟨by decide, by decide⟩ ⟨by decide, by decide⟩) lk_911 rfl rfl (by decide) (by assumption) (by assumption) ⟨Nat.le_of_ble_eq_true rfl, Nat.le_of_ble_eq_true rfl⟩ ⟨Nat.le_refl _, Nat.le_refl _⟩ rfl (Nat.le_of_ble_eq_true rfl) dX8_time_116 rfl ?_
              rintro z116 F116 A116 ⟨ez116, V116, hS116, ⟨va, vb, vc⟩, k116, g116⟩
              obtain rfl := ez116.symm
              replace hS116 : St 136 V116 F116 A116 := hS116
              have f116 : tr V116 133 = (wn1_4078.1, wn1_4078.2.1, wn1_4078.2.2 * 4) := Prod.ext (va.trans (congrArg (fun q => q.1) f113)) (Prod.ext (vb.trans (congrArg (fun q => q.2.1) f113)) (vc.trans v113))
              have gg := ((((((((((((((g42.tr g1067).tr g1075).tr g1078).tr g2067).tr g2075).tr g2078).tr g3067).tr g3075).tr g3078).tr g4067).tr g4075).tr g4078).tr g110).tr g113).tr g116
              have e17 : F116 0 17 = F1 0 17 := (gg.2.1 17 (by decide) (by decide) (by decide)).trans (by rw [uF_nj (by decide)])
              have e10 : A116 10 = A1 10 := gg.a (by decide)
              have hrp : 0 < ((wn1_4078.1, wn1_4078.2.1, wn1_4078.2.2 * 4) : T3).2.2 := Int.mul_pos (show 0 < wn1_4078.2.2 from by rw [ewn1_4078, ewn1_3078, ewn1_2078, ewn1_1078]; exact r_add (r_add (r_add (r_add (by rw [ewn1_42]; decide) (by rw [ewn1_1075, ewn1_1067]; exact r_rot 0 (rr hi ha (t := 0) (e := 2 * i + j) ⟨by decide, by decide⟩ he))) (by rw [ewn1_2075, ewn1_2067]; exact r_rot 1 (rr hi ha (t := 1) (e := 2 * i + j) ⟨by decide, by decide⟩ he))) (by rw [ewn1_3075, ewn1_3067]; exact r_rot 2 (rr hi ha (t := 2) (e := 2 * i + j) ⟨by decide, by decide⟩ he))) (by rw [ewn1_4075, ewn1_4067]; exact r_rot 3 (rr hi ha (t := 3) (e := 2 * i + j) ⟨by decide, by decide⟩ he))) (by decide)
              refine x_cVv (pc2 := 122) (ci := 8) hC hK (n_makes l hM hS116 (by decide) (t := 1) ⟨by decide, by decide⟩ (i := 0) (j := 0) ⟨by decide, by decide⟩ (x := 133) ⟨by decide, by decide⟩ f116 hrp (by rw [e17]; exact h17)) lk_919 rfl rfl (by decide) (by assumption) (by assumption) ⟨Nat.le_of_ble_eq_true rfl, Nat.le_of_ble_eq_true rfl⟩ ⟨Nat.le_refl _, Nat.le_refl _⟩ rfl (Nat.le_of_ble_eq_true rfl) dX8_time_119 rfl ?_
              rintro F119 A119 ⟨-, m2, m3, m4, m5⟩
              have qq : q3 (wn1_4078.1, wn1_4078.2.1, wn1_4078.2.2 * 4) = timeX (fun t => nm S a t (2 * i + j)) 1 0 := q_time (z := wn1_42) (q0 := wn1_1075) (q1 := wn1_2075) (q2 := wn1_3075) (q3' := wn1_4075) ewn1_42 (by rw [ewn1_4078, ewn1_3078, ewn1_2078, ewn1_1078]) (by rw [ewn1_1075, ewn1_1067]; exact q_rot 0 (by decide) _) (by rw [ewn1_2075, ewn1_2067]; exact q_rot 1 (by decide) _) (by rw [ewn1_3075, ewn1_3067]; exact q_rot 2 (by decide) _) (by rw [ewn1_4075, ewn1_4067]; exact q_rot 3 (by decide) _)
              have ml := mk_low (x := timeX (fun t => nm S a t (2 * i + j)) 1 0) hrp (timeX_un (fun k hk => un_q3 (rr hi ha ⟨by omega, by omega⟩ he)) 1 0) (by rw [qq]; exact eqf.rf _) m2
              rw [e17] at m3
              refine x_iinc (pc2 := 125) (loc2 := [_, _, _, _, _, _, _, _]) hC (by decide) rfl rfl dX8_time_122 rfl ?_
              refine x_goto (pc2 := 29) hC dX8_time_125 rfl ?_
              exact next _ _ _ _ (hR1.K (((FrK.f (by decide)).tr gg.K).tr m5)) (hmk.step (t := 1) (e := 0) ⟨by decide, by decide⟩ ⟨by decide, by decide⟩ (fun t0 e0 => ⟨fun y => by omega, fun y => by omega⟩) ml m3 (fun n hn => by rw [m4 n (by omega), e10]))
            · exact absurd h_53 (by decide)
  have body2 : ∀ (F1 : Nat → Nat → Int) (A1 : Nat → Int → Int) (e6 e7 : Option PV), isB S c0 → isB S a → isT (2 * i + j) → RepM S F1 A1 → (F1 0 17 = 0 ∨ F1 0 17 = 1) → MkD (fun n e => timeX (fun t => nm S a t (2 * i + j)) n e) (A1 10) (F1 0 17) (fun t0 e0 => t0 < 2 ∧ e0 = 0) → (∀ (F2 : Nat → Nat → Int) (A2 : Nat → Int → Int) (f6 f7 : Option PV), RepM S F2 A2 → MkD (fun n e => timeX (fun t => nm S a t (2 * i + j)) n e) (A2 10) (F2 0 17) (fun t0 e0 => t0 < 3 ∧ e0 = 0) → X p l e { frames := 5, cells := 0, slots := 0, locals := 118 } s m args below meth c (MQ below (QX D ids β sh N R (pIr (fun z F2 A2 => ∃ S2, rTime S c0 a i j z S2 ∧ RepM S2 F2 A2))) args s 0 0 (inG β N)) (inG β N) D ids β sh 8 0 0 N R F2 A2 [some (rf 0), some (pI c0), some (pI a), some (pI i), some (pI j), some (pI 3), f6, f7] [] 29) → X p l e { frames := 5, cells := 0, slots := 0, locals := 118 } s m args below meth c (MQ below (QX D ids β sh N R (pIr (fun z F2 A2 => ∃ S2, rTime S c0 a i j z S2 ∧ RepM S2 F2 A2))) args s 0 0 (inG β N)) (inG β N) D ids β sh 8 0 0 N R F1 A1 [some (rf 0), some (pI c0), some (pI a), some (pI i), some (pI j), some (pI 2), e6, e7] [] 35 := by
    intro F1 A1 e6 e7 hc2 ha he hR1 h17 hmk next
    have hb6 := hR1.2.2.2.2.2.2.1
    have a16 := ha.2
    have a00 := ha.1
    refine x_aload_n (pc2 := 36) hC rfl rfl dX8_time_35 rfl ?_
    refine x_iconst (pc2 := 37) hC dX8_time_36 rfl ?_
    refine p_819 (pc2 := 40) hC hK (by assumption) (by assumption) dX8_time_37 rfl ?_
    refine x_aload_n (pc2 := 41) hC rfl rfl dX8_time_40 rfl ?_
    refine x_lconst0 (pc2 := 42) hC dX8_time_41 rfl ?_
    refine x_cVi (pc2 := 45) (ci := 8) hC hK (t_whole l hM (St.zero (F := F1) (A := A1)) (by decide) (v := 0) (by decide)) lk_981 rfl rfl (by decide) (by assumption) (by assumption) ⟨Nat.le_of_ble_eq_true rfl, Nat.le_of_ble_eq_true rfl⟩ ⟨Nat.le_refl _, Nat.le_refl _⟩ rfl (Nat.le_of_ble_eq_true rfl) dX8_time_42 rfl ?_
    rintro z42 F42 A42 ⟨ez42, V42, hS42, v42, k42, g42⟩
    obtain rfl := ez42.symm
    replace hS42 : St 6 V42 F42 A42 := hS42
    rw [show (0 : Int) + 3 = 3 from rfl]
    obtain ⟨wn2_42, ewn2_42⟩ : ∃ w : T3, w = (0, 0, 1) := ⟨_, rfl⟩
    have uwn2_42 : tr V42 3 = wn2_42 := by rw [ewn2_42]; exact v42
    have bwn2_42 : bdt 1 1 wn2_42 := by rw [ewn2_42]; exact ⟨by unfold bd; decide, by unfold bd; decide, by unfold bd; decide⟩
    clear v42
    refine x_istore (pc2 := 47) (loc2 := [_, _, _, _, _, _, _, _]) hC (by decide) rfl dX8_time_45 rfl ?_
    refine x_iconst (pc2 := 48) hC dX8_time_47 rfl ?_
    refine x_istore (pc2 := 50) (loc2 := [_, _, _, _, _, _, _, _]) hC (by decide) rfl dX8_time_48 rfl ?_
    refine x_iload (pc2 := 52) hC rfl dX8_time_50 rfl ?_
    refine x_iconst (pc2 := 53) hC dX8_time_52 rfl ?_
    refine x_icmp_ge (tgt := 89) (pc2 := 56) hC (by omega) (by omega) dX8_time_53 rfl rfl (fun h_53 => ?_) (fun h_53 => ?_)
    · exact absurd h_53 (by decide)
    · refine x_aload_n (pc2 := 57) hC rfl rfl dX8_time_56 rfl ?_
      refine x_iload (pc2 := 59) hC rfl dX8_time_57 rfl ?_
      refine x_aload_n (pc2 := 60) hC rfl rfl dX8_time_59 rfl ?_
      refine x_aload_n (pc2 := 61) hC rfl rfl dX8_time_60 rfl ?_
      refine x_iload_n (pc2 := 62) hC rfl rfl dX8_time_61 rfl ?_
      refine x_iload (pc2 := 64) hC rfl dX8_time_62 rfl ?_
      refine x_iload_n (pc2 := 65) hC rfl rfl dX8_time_64 rfl ?_
      refine x_iload (pc2 := 67) hC rfl dX8_time_65 rfl ?_
      refine x_cVi (pc2 := 70) (ci := 8) hC hK (t_entry l hM hS42 (by decide) ⟨by omega, by omega⟩ (x := vS S a 0 (2 * i + j)) (by rw [g42.a (by decide)]; exact (show held (A1 2) (96 * a + 24 * (0) + 6 * (2 * i + j)) (vS S a 0 (2 * i + j)) from hb6 a 0 (2 * i + j) ha ⟨by decide, by decide⟩ he)) ((hi.2.1 a ha).2 0 (2 * i + j) ⟨by decide, by decide⟩ he).1.2.2) lk_985 rfl rfl (by decide) (by assumption) (by assumption) ⟨Nat.le_of_ble_eq_true rfl, Nat.le_of_ble_eq_true rfl⟩ ⟨Nat.le_refl _, Nat.le_refl _⟩ rfl (Nat.le_of_ble_eq_true rfl) dX8_time_67 rfl ?_
      rintro z1067 F1067 A1067 ⟨ez1067, V1067, hS1067, v1067, k1067, g1067⟩
      obtain rfl := ez1067.symm
      replace hS1067 : St 24 V1067 F1067 A1067 := hS1067
      have t1067_wn2_42 : tr V1067 3 = wn2_42 := (tr_keep (by decide) k1067).trans uwn2_42
      rw [show (6 : Int) + 15 = 21 from rfl]
      obtain ⟨wn2_1067, ewn2_1067⟩ : ∃ w : T3, w = vS S a 0 (2 * i + j) := ⟨_, rfl⟩
      have uwn2_1067 : tr V1067 21 = wn2_1067 := by rw [ewn2_1067]; exact v1067
      have bwn2_1067 : bdt 25 25 wn2_1067 := by rw [ewn2_1067]; exact (ok_bdt ((hi.2.1 a ha).2 0 (2 * i + j) ⟨by decide, by decide⟩ he).1)
      clear v1067
      refine x_iload (pc2 := 72) hC rfl dX8_time_70 rfl ?_
      refine x_iload (pc2 := 74) hC rfl dX8_time_72 rfl ?_
      refine x_imul (pc2 := 75) hC dX8_time_74 rfl ?_
      refine x_cVi (pc2 := 78) (ci := 8) hC hK (t_quarter0 l hM (hR1.K ((FrK.f (by decide)).tr (g42.tr g1067).K)) hS1067 (x := 21) (n := 2 * (0)) ⟨by decide, by decide⟩ uwn2_1067 bwn2_1067 (by decide) ⟨by decide, by decide⟩ (by decide)) lk_1106 rfl rfl (by decide) (by assumption) (by assumption) ⟨Nat.le_of_ble_eq_true rfl, Nat.le_of_ble_eq_true rfl⟩ ⟨Nat.le_refl _, Nat.le_refl _⟩ rfl (Nat.le_of_ble_eq_true rfl) dX8_time_75 rfl ?_
      rintro z1075 F1075 A1075 ⟨ez1075, V1075, hS1075, v1075, k1075, g1075⟩
      obtain rfl := ez1075.symm
      replace hS1075 : St 24 V1075 F1075 A1075 := hS1075
      have t1075_wn2_42 : tr V1075 3 = wn2_42 := (tr_keep (by decide) k1075).trans t1067_wn2_42
      have t1075_wn2_1067 : tr V1075 21 = wn2_1067 := (tr_keep (by decide) k1075).trans uwn2_1067
      obtain ⟨wn2_1075, ewn2_1075⟩ : ∃ w : T3, w = trot 0 wn2_1067 := ⟨_, rfl⟩
      have uwn2_1075 : tr V1075 21 = wn2_1075 := by rw [ewn2_1075]; exact v1075
      have bwn2_1075 : bdt 25 25 wn2_1075 := by rw [ewn2_1075]; exact (bdt_rot 0 bwn2_1067)
      clear v1075
      refine x_cVi (pc2 := 81) (ci := 8) hC hK (t_added l hM hS1075 (x := 3) (y := 21) ⟨by decide, by decide⟩ ⟨by decide, by decide⟩ t1075_wn2_42 uwn2_1075 bwn2_42 bwn2_1075 (by decide) ⟨by decide, by decide, by decide⟩) lk_1020 rfl rfl (by decide) (by assumption) (by assumption) ⟨Nat.le_of_ble_eq_true rfl, Nat.le_of_ble_eq_true rfl⟩ ⟨Nat.le_refl _, Nat.le_refl _⟩ rfl (Nat.le_of_ble_eq_true rfl) dX8_time_78 rfl ?_
      rintro z1078 F1078 A1078 ⟨ez1078, V1078, hS1078, v1078, k1078, g1078⟩
      obtain rfl := ez1078.symm
      replace hS1078 : St 34 V1078 F1078 A1078 := hS1078
      have t1078_wn2_42 : tr V1078 3 = wn2_42 := (tr_keep (by decide) k1078).trans t1075_wn2_42
      have t1078_wn2_1067 : tr V1078 21 = wn2_1067 := (tr_keep (by decide) k1078).trans t1075_wn2_1067
      have t1078_wn2_1075 : tr V1078 21 = wn2_1075 := (tr_keep (by decide) k1078).trans uwn2_1075
      rw [show (24 : Int) + 7 = 31 from rfl]
      obtain ⟨wn2_1078, ewn2_1078⟩ : ∃ w : T3, w = tadd wn2_42 wn2_1075 := ⟨_, rfl⟩
      have uwn2_1078 : tr V1078 31 = wn2_1078 := by rw [ewn2_1078]; exact v1078
      have bwn2_1078 : bdt 27 26 wn2_1078 := by rw [ewn2_1078]; exact (bdt_add bwn2_42 bwn2_1075 (by decide) (by decide) (by decide))
      clear v1078
      refine x_istore (pc2 := 83) (loc2 := [_, _, _, _, _, _, _, _]) hC (by decide) rfl dX8_time_81 rfl ?_
      refine x_iinc (pc2 := 86) (loc2 := [_, _, _, _, _, _, _, _]) hC (by decide) rfl rfl dX8_time_83 rfl ?_
      refine x_goto (pc2 := 50) hC dX8_time_86 rfl ?_
      refine x_iload (pc2 := 52) hC rfl dX8_time_50 rfl ?_
      refine x_iconst (pc2 := 53) hC dX8_time_52 rfl ?_
      refine x_icmp_ge (tgt := 89) (pc2 := 56) hC (by omega) (by omega) dX8_time_53 rfl rfl (fun h_53 => ?_) (fun h_53 => ?_)
      · exact absurd h_53 (by decide)
      · refine x_aload_n (pc2 := 57) hC rfl rfl dX8_time_56 rfl ?_
        refine x_iload (pc2 := 59) hC rfl dX8_time_57 rfl ?_
        refine x_aload_n (pc2 := 60) hC rfl rfl dX8_time_59 rfl ?_
        refine x_aload_n (pc2 := 61) hC rfl rfl dX8_time_60 rfl ?_
        refine x_iload_n (pc2 := 62) hC rfl rfl dX8_time_61 rfl ?_
        refine x_iload (pc2 := 64) hC rfl dX8_time_62 rfl ?_
        refine x_iload_n (pc2 := 65) hC rfl rfl dX8_time_64 rfl ?_
        refine x_iload (pc2 := 67) hC rfl dX8_time_65 rfl ?_
        refine x_cVi (pc2 := 70) (ci := 8) hC hK (t_entry l hM hS1078 (by decide) ⟨by omega, by omega⟩ (x := vS S a 1 (2 * i + j)) (by rw [(((g42.tr g1067).tr g1075).tr g1078).a (by decide)]; exact (show held (A1 2) (96 * a + 24 * (1) + 6 * (2 * i + j)) (vS S a 1 (2 * i + j)) from hb6 a 1 (2 * i + j) ha ⟨by decide, by decide⟩ he)) ((hi.2.1 a ha).2 1 (2 * i + j) ⟨by decide, by decide⟩ he).1.2.2) lk_985 rfl rfl (by decide) (by assumption) (by assumption) ⟨Nat.le_of_ble_eq_true rfl, Nat.le_of_ble_eq_true rfl⟩ ⟨Nat.le_refl _, Nat.le_refl _⟩ rfl (Nat.le_of_ble_eq_true rfl) dX8_time_67 rfl ?_
        rintro z2067 F2067 A2067 ⟨ez2067, V2067, hS2067, v2067, k2067, g2067⟩
        obtain rfl := ez2067.symm
        replace hS2067 : St 52 V2067 F2067 A2067 := hS2067
        have t2067_wn2_1078 : tr V2067 31 = wn2_1078 := (tr_keep (by decide) k2067).trans uwn2_1078
        rw [show (34 : Int) + 15 = 49 from rfl]
        obtain ⟨wn2_2067, ewn2_2067⟩ : ∃ w : T3, w = vS S a 1 (2 * i + j) := ⟨_, rfl⟩
        have uwn2_2067 : tr V2067 49 = wn2_2067 := by rw [ewn2_2067]; exact v2067
        have bwn2_2067 : bdt 25 25 wn2_2067 := by rw [ewn2_2067]; exact (ok_bdt ((hi.2.1 a ha).2 1 (2 * i + j) ⟨by decide, by decide⟩ he).1)
        clear v2067
        refine x_iload (pc2 := 72) hC rfl dX8_time_70 rfl ?_
        refine x_iload (pc2 := 74) hC rfl dX8_time_72 rfl ?_
        refine x_imul (pc2 := 75) hC dX8_time_74 rfl ?_
        refine x_cVi (pc2 := 78) (ci := 8) hC hK (t_quarter2 l hM (hR1.K ((FrK.f (by decide)).tr ((((g42.tr g1067).tr g1075).tr g1078).tr g2067).K)) hS2067 (x := 49) (n := 2 * (0 + 1)) ⟨by decide, by decide⟩ uwn2_2067 bwn2_2067 (by decide) ⟨by decide, by decide⟩ (by decide)) lk_1106 rfl rfl (by decide) (by assumption) (by assumption) ⟨Nat.le_of_ble_eq_true rfl, Nat.le_of_ble_eq_true rfl⟩ ⟨Nat.le_refl _, Nat.le_refl _⟩ rfl (Nat.le_of_ble_eq_true rfl) dX8_time_75 rfl ?_
        rintro z2075 F2075 A2075 ⟨ez2075, V2075, hS2075, v2075, k2075, g2075⟩
        obtain rfl := ez2075.symm
        replace hS2075 : St 57 V2075 F2075 A2075 := hS2075
        have t2075_wn2_1078 : tr V2075 31 = wn2_1078 := (tr_keep (by decide) k2075).trans t2067_wn2_1078
        have t2075_wn2_2067 : tr V2075 49 = wn2_2067 := (tr_keep (by decide) k2075).trans uwn2_2067
        rw [show (52 : Int) + 2 = 54 from rfl]
        obtain ⟨wn2_2075, ewn2_2075⟩ : ∃ w : T3, w = trot 2 wn2_2067 := ⟨_, rfl⟩
        have uwn2_2075 : tr V2075 54 = wn2_2075 := by rw [ewn2_2075]; exact v2075
        have bwn2_2075 : bdt 25 25 wn2_2075 := by rw [ewn2_2075]; exact (bdt_rot 2 bwn2_2067)
        clear v2075
        refine x_cVi (pc2 := 81) (ci := 8) hC hK (t_added l hM hS2075 (x := 31) (y := 54) ⟨by decide, by decide⟩ ⟨by decide, by decide⟩ t2075_wn2_1078 uwn2_2075 bwn2_1078 bwn2_2075 (by decide) ⟨by decide, by decide, by decide⟩) lk_1020 rfl rfl (by decide) (by assumption) (by assumption) ⟨Nat.le_of_ble_eq_true rfl, Nat.le_of_ble_eq_true rfl⟩ ⟨Nat.le_refl _, Nat.le_refl _⟩ rfl (Nat.le_of_ble_eq_true rfl) dX8_time_78 rfl ?_
        rintro z2078 F2078 A2078 ⟨ez2078, V2078, hS2078, v2078, k2078, g2078⟩
        obtain rfl := ez2078.symm
        replace hS2078 : St 67 V2078 F2078 A2078 := hS2078
        have t2078_wn2_1078 : tr V2078 31 = wn2_1078 := (tr_keep (by decide) k2078).trans t2075_wn2_1078
        have t2078_wn2_2067 : tr V2078 49 = wn2_2067 := (tr_keep (by decide) k2078).trans t2075_wn2_2067
        have t2078_wn2_2075 : tr V2078 54 = wn2_2075 := (tr_keep (by decide) k2078).trans uwn2_2075
        rw [show (57 : Int) + 7 = 64 from rfl]
        obtain ⟨wn2_2078, ewn2_2078⟩ : ∃ w : T3, w = tadd wn2_1078 wn2_2075 := ⟨_, rfl⟩
        have uwn2_2078 : tr V2078 64 = wn2_2078 := by rw [ewn2_2078]; exact v2078
        have bwn2_2078 : bdt 53 51 wn2_2078 := by rw [ewn2_2078]; exact (bdt_add bwn2_1078 bwn2_2075 (by decide) (by decide) (by decide))
        clear v2078
        refine x_istore (pc2 := 83) (loc2 := [_, _, _, _, _, _, _, _]) hC (by decide) rfl dX8_time_81 rfl ?_
        refine x_iinc (pc2 := 86) (loc2 := [_, _, _, _, _, _, _, _]) hC (by decide) rfl rfl dX8_time_83 rfl ?_
        refine x_goto (pc2 := 50) hC dX8_time_86 rfl ?_
        refine x_iload (pc2 := 52) hC rfl dX8_time_50 rfl ?_
        refine x_iconst (pc2 := 53) hC dX8_time_52 rfl ?_
        refine x_icmp_ge (tgt := 89) (pc2 := 56) hC (by omega) (by omega) dX8_time_53 rfl rfl (fun h_53 => ?_) (fun h_53 => ?_)
        · exact absurd h_53 (by decide)
        · refine x_aload_n (pc2 := 57) hC rfl rfl dX8_time_56 rfl ?_
          refine x_iload (pc2 := 59) hC rfl dX8_time_57 rfl ?_
          refine x_aload_n (pc2 := 60) hC rfl rfl dX8_time_59 rfl ?_
          refine x_aload_n (pc2 := 61) hC rfl rfl dX8_time_60 rfl ?_
          refine x_iload_n (pc2 := 62) hC rfl rfl dX8_time_61 rfl ?_
          refine x_iload (pc2 := 64) hC rfl dX8_time_62 rfl ?_
          refine x_iload_n (pc2 := 65) hC rfl rfl dX8_time_64 rfl ?_
          refine x_iload (pc2 := 67) hC rfl dX8_time_65 rfl ?_
          refine x_cVi (pc2 := 70) (ci := 8) hC hK (t_entry l hM hS2078 (by decide) ⟨by omega, by omega⟩ (x := vS S a 2 (2 * i + j)) (by rw [((((((g42.tr g1067).tr g1075).tr g1078).tr g2067).tr g2075).tr g2078).a (by decide)]; exact (show held (A1 2) (96 * a + 24 * (2) + 6 * (2 * i + j)) (vS S a 2 (2 * i + j)) from hb6 a 2 (2 * i + j) ha ⟨by decide, by decide⟩ he)) ((hi.2.1 a ha).2 2 (2 * i + j) ⟨by decide, by decide⟩ he).1.2.2) lk_985 rfl rfl (by decide) (by assumption) (by assumption) ⟨Nat.le_of_ble_eq_true rfl, Nat.le_of_ble_eq_true rfl⟩ ⟨Nat.le_refl _, Nat.le_refl _⟩ rfl (Nat.le_of_ble_eq_true rfl) dX8_time_67 rfl ?_
          rintro z3067 F3067 A3067 ⟨ez3067, V3067, hS3067, v3067, k3067, g3067⟩
          obtain rfl := ez3067.symm
          replace hS3067 : St 85 V3067 F3067 A3067 := hS3067
          have t3067_wn2_2078 : tr V3067 64 = wn2_2078 := (tr_keep (by decide) k3067).trans uwn2_2078
          rw [show (67 : Int) + 15 = 82 from rfl]
          obtain ⟨wn2_3067, ewn2_3067⟩ : ∃ w : T3, w = vS S a 2 (2 * i + j) := ⟨_, rfl⟩
          have uwn2_3067 : tr V3067 82 = wn2_3067 := by rw [ewn2_3067]; exact v3067
          have bwn2_3067 : bdt 25 25 wn2_3067 := by rw [ewn2_3067]; exact (ok_bdt ((hi.2.1 a ha).2 2 (2 * i + j) ⟨by decide, by decide⟩ he).1)
          clear v3067
          refine x_iload (pc2 := 72) hC rfl dX8_time_70 rfl ?_
          refine x_iload (pc2 := 74) hC rfl dX8_time_72 rfl ?_
          refine x_imul (pc2 := 75) hC dX8_time_74 rfl ?_
          refine x_cVi (pc2 := 78) (ci := 8) hC hK (t_quarter0 l hM (hR1.K ((FrK.f (by decide)).tr (((((((g42.tr g1067).tr g1075).tr g1078).tr g2067).tr g2075).tr g2078).tr g3067).K)) hS3067 (x := 82) (n := 2 * (0 + 1 + 1)) ⟨by decide, by decide⟩ uwn2_3067 bwn2_3067 (by decide) ⟨by decide, by decide⟩ (by decide)) lk_1106 rfl rfl (by decide) (by assumption) (by assumption) ⟨Nat.le_of_ble_eq_true rfl, Nat.le_of_ble_eq_true rfl⟩ ⟨Nat.le_refl _, Nat.le_refl _⟩ rfl (Nat.le_of_ble_eq_true rfl) dX8_time_75 rfl ?_
          rintro z3075 F3075 A3075 ⟨ez3075, V3075, hS3075, v3075, k3075, g3075⟩
          obtain rfl := ez3075.symm
          replace hS3075 : St 85 V3075 F3075 A3075 := hS3075
          have t3075_wn2_2078 : tr V3075 64 = wn2_2078 := (tr_keep (by decide) k3075).trans t3067_wn2_2078
          have t3075_wn2_3067 : tr V3075 82 = wn2_3067 := (tr_keep (by decide) k3075).trans uwn2_3067
          obtain ⟨wn2_3075, ewn2_3075⟩ : ∃ w : T3, w = trot 0 wn2_3067 := ⟨_, rfl⟩
          have uwn2_3075 : tr V3075 82 = wn2_3075 := by rw [ewn2_3075]; exact v3075
          have bwn2_3075 : bdt 25 25 wn2_3075 := by rw [ewn2_3075]; exact (bdt_rot 0 bwn2_3067)
          clear v3075
          refine x_cVi (pc2 := 81) (ci := 8) hC hK (t_added l hM hS3075 (x := 64) (y := 82) ⟨by decide, by decide⟩ ⟨by decide, by decide⟩ t3075_wn2_2078 uwn2_3075 bwn2_2078 bwn2_3075 (by decide) ⟨by decide, by decide, by decide⟩) lk_1020 rfl rfl (by decide) (by assumption) (by assumption) ⟨Nat.le_of_ble_eq_true rfl, Nat.le_of_ble_eq_true rfl⟩ ⟨Nat.le_refl _, Nat.le_refl _⟩ rfl (Nat.le_of_ble_eq_true rfl) dX8_time_78 rfl ?_
          rintro z3078 F3078 A3078 ⟨ez3078, V3078, hS3078, v3078, k3078, g3078⟩
          obtain rfl := ez3078.symm
          replace hS3078 : St 95 V3078 F3078 A3078 := hS3078
          have t3078_wn2_2078 : tr V3078 64 = wn2_2078 := (tr_keep (by decide) k3078).trans t3075_wn2_2078
          have t3078_wn2_3067 : tr V3078 82 = wn2_3067 := (tr_keep (by decide) k3078).trans t3075_wn2_3067
          have t3078_wn2_3075 : tr V3078 82 = wn2_3075 := (tr_keep (by decide) k3078).trans uwn2_3075
          rw [show (85 : Int) + 7 = 92 from rfl]
          obtain ⟨wn2_3078, ewn2_3078⟩ : ∃ w : T3, w = tadd wn2_2078 wn2_3075 := ⟨_, rfl⟩
          have uwn2_3078 : tr V3078 92 = wn2_3078 := by rw [ewn2_3078]; exact v3078
          have bwn2_3078 : bdt 79 76 wn2_3078 := by rw [ewn2_3078]; exact (bdt_add bwn2_2078 bwn2_3075 (by decide) (by decide) (by decide))
          clear v3078
          refine x_istore (pc2 := 83) (loc2 := [_, _, _, _, _, _, _, _]) hC (by decide) rfl dX8_time_81 rfl ?_
          refine x_iinc (pc2 := 86) (loc2 := [_, _, _, _, _, _, _, _]) hC (by decide) rfl rfl dX8_time_83 rfl ?_
          refine x_goto (pc2 := 50) hC dX8_time_86 rfl ?_
          refine x_iload (pc2 := 52) hC rfl dX8_time_50 rfl ?_
          refine x_iconst (pc2 := 53) hC dX8_time_52 rfl ?_
          refine x_icmp_ge (tgt := 89) (pc2 := 56) hC (by omega) (by omega) dX8_time_53 rfl rfl (fun h_53 => ?_) (fun h_53 => ?_)
          · exact absurd h_53 (by decide)
          · refine x_aload_n (pc2 := 57) hC rfl rfl dX8_time_56 rfl ?_
            refine x_iload (pc2 := 59) hC rfl dX8_time_57 rfl ?_
            refine x_aload_n (pc2 := 60) hC rfl rfl dX8_time_59 rfl ?_
            refine x_aload_n (pc2 := 61) hC rfl rfl dX8_time_60 rfl ?_
            refine x_iload_n (pc2 := 62) hC rfl rfl dX8_time_61 rfl ?_
            refine x_iload (pc2 := 64) hC rfl dX8_time_62 rfl ?_
            refine x_iload_n (pc2 := 65) hC rfl rfl dX8_time_64 rfl ?_
            refine x_iload (pc2 := 67) hC rfl dX8_time_65 rfl ?_
            refine x_cVi (pc2 := 70) (ci := 8) hC hK (t_entry l hM hS3078 (by decide) ⟨by omega, by omega⟩ (x := vS S a 3 (2 * i + j)) (by rw [(((((((((g42.tr g1067).tr g1075).tr g1078).tr g2067).tr g2075).tr g2078).tr g3067).tr g3075).tr g3078).a (by decide)]; exact (show held (A1 2) (96 * a + 24 * (3) + 6 * (2 * i + j)) (vS S a 3 (2 * i + j)) from hb6 a 3 (2 * i + j) ha ⟨by decide, by decide⟩ he)) ((hi.2.1 a ha).2 3 (2 * i + j) ⟨by decide, by decide⟩ he).1.2.2) lk_985 rfl rfl (by decide) (by assumption) (by assumption) ⟨Nat.le_of_ble_eq_true rfl, Nat.le_of_ble_eq_true rfl⟩ ⟨Nat.le_refl _, Nat.le_refl _⟩ rfl (Nat.le_of_ble_eq_true rfl) dX8_time_67 rfl ?_
            rintro z4067 F4067 A4067 ⟨ez4067, V4067, hS4067, v4067, k4067, g4067⟩
            obtain rfl := ez4067.symm
            replace hS4067 : St 113 V4067 F4067 A4067 := hS4067
            have t4067_wn2_3078 : tr V4067 92 = wn2_3078 := (tr_keep (by decide) k4067).trans uwn2_3078
            rw [show (95 : Int) + 15 = 110 from rfl]
            obtain ⟨wn2_4067, ewn2_4067⟩ : ∃ w : T3, w = vS S a 3 (2 * i + j) := ⟨_, rfl⟩
            have uwn2_4067 : tr V4067 110 = wn2_4067 := by rw [ewn2_4067]; exact v4067
            have bwn2_4067 : bdt 25 25 wn2_4067 := by rw [ewn2_4067]; exact (ok_bdt ((hi.2.1 a ha).2 3 (2 * i + j) ⟨by decide, by decide⟩ he).1)
            clear v4067
            refine x_iload (pc2 := 72) hC rfl dX8_time_70 rfl ?_
            refine x_iload (pc2 := 74) hC rfl dX8_time_72 rfl ?_
            refine x_imul (pc2 := 75) hC dX8_time_74 rfl ?_
            refine x_cVi (pc2 := 78) (ci := 8) hC hK (t_quarter2 l hM (hR1.K ((FrK.f (by decide)).tr ((((((((((g42.tr g1067).tr g1075).tr g1078).tr g2067).tr g2075).tr g2078).tr g3067).tr g3075).tr g3078).tr g4067).K)) hS4067 (x := 110) (n := 2 * (0 + 1 + 1 + 1)) ⟨by decide, by decide⟩ uwn2_4067 bwn2_4067 (by decide) ⟨by decide, by decide⟩ (by decide)) lk_1106 rfl rfl (by decide) (by assumption) (by assumption) ⟨Nat.le_of_ble_eq_true rfl, Nat.le_of_ble_eq_true rfl⟩ ⟨Nat.le_refl _, Nat.le_refl _⟩ rfl (Nat.le_of_ble_eq_true rfl) dX8_time_75 rfl ?_
            rintro z4075 F4075 A4075 ⟨ez4075, V4075, hS4075, v4075, k4075, g4075⟩
            obtain rfl := ez4075.symm
            replace hS4075 : St 118 V4075 F4075 A4075 := hS4075
            have t4075_wn2_3078 : tr V4075 92 = wn2_3078 := (tr_keep (by decide) k4075).trans t4067_wn2_3078
            have t4075_wn2_4067 : tr V4075 110 = wn2_4067 := (tr_keep (by decide) k4075).trans uwn2_4067
            rw [show (113 : Int) + 2 = 115 from rfl]
            obtain ⟨wn2_4075, ewn2_4075⟩ : ∃ w : T3, w = trot 2 wn2_4067 := ⟨_, rfl⟩
            have uwn2_4075 : tr V4075 115 = wn2_4075 := by rw [ewn2_4075]; exact v4075
            have bwn2_4075 : bdt 25 25 wn2_4075 := by rw [ewn2_4075]; exact (bdt_rot 2 bwn2_4067)
            clear v4075
            refine x_cVi (pc2 := 81) (ci := 8) hC hK (t_added l hM hS4075 (x := 92) (y := 115) ⟨by decide, by decide⟩ ⟨by decide, by decide⟩ t4075_wn2_3078 uwn2_4075 bwn2_3078 bwn2_4075 (by decide) ⟨by decide, by decide, by decide⟩) lk_1020 rfl rfl (by decide) (by assumption) (by assumption) ⟨Nat.le_of_ble_eq_true rfl, Nat.le_of_ble_eq_true rfl⟩ ⟨Nat.le_refl _, Nat.le_refl _⟩ rfl (Nat.le_of_ble_eq_true rfl) dX8_time_78 rfl ?_
            rintro z4078 F4078 A4078 ⟨ez4078, V4078, hS4078, v4078, k4078, g4078⟩
            obtain rfl := ez4078.symm
            replace hS4078 : St 128 V4078 F4078 A4078 := hS4078
            have t4078_wn2_3078 : tr V4078 92 = wn2_3078 := (tr_keep (by decide) k4078).trans t4075_wn2_3078
            have t4078_wn2_4067 : tr V4078 110 = wn2_4067 := (tr_keep (by decide) k4078).trans t4075_wn2_4067
            have t4078_wn2_4075 : tr V4078 115 = wn2_4075 := (tr_keep (by decide) k4078).trans uwn2_4075
            rw [show (118 : Int) + 7 = 125 from rfl]
            obtain ⟨wn2_4078, ewn2_4078⟩ : ∃ w : T3, w = tadd wn2_3078 wn2_4075 := ⟨_, rfl⟩
            have uwn2_4078 : tr V4078 125 = wn2_4078 := by rw [ewn2_4078]; exact v4078
            have bwn2_4078 : bdt 105 101 wn2_4078 := by rw [ewn2_4078]; exact (bdt_add bwn2_3078 bwn2_4075 (by decide) (by decide) (by decide))
            clear v4078
            refine x_istore (pc2 := 83) (loc2 := [_, _, _, _, _, _, _, _]) hC (by decide) rfl dX8_time_81 rfl ?_
            refine x_iinc (pc2 := 86) (loc2 := [_, _, _, _, _, _, _, _]) hC (by decide) rfl rfl dX8_time_83 rfl ?_
            refine x_goto (pc2 := 50) hC dX8_time_86 rfl ?_
            refine x_iload (pc2 := 52) hC rfl dX8_time_50 rfl ?_
            refine x_iconst (pc2 := 53) hC dX8_time_52 rfl ?_
            refine x_icmp_ge (tgt := 89) (pc2 := 56) hC (by omega) (by omega) dX8_time_53 rfl rfl (fun h_53 => ?_) (fun h_53 => ?_)
            · refine x_aload_n (pc2 := 90) hC rfl rfl dX8_time_89 rfl ?_
              refine x_iload (pc2 := 92) hC rfl dX8_time_90 rfl ?_
              refine x_iconst (pc2 := 93) hC dX8_time_92 rfl ?_
              refine x_iconst (pc2 := 94) hC dX8_time_93 rfl ?_
              refine x_aload_n (pc2 := 95) hC rfl rfl dX8_time_94 rfl ?_
              refine x_iload (pc2 := 97) hC rfl dX8_time_95 rfl ?_
              refine x_iload (pc2 := 99) hC rfl dX8_time_97 rfl ?_
              refine x_iconst (pc2 := 100) hC dX8_time_99 rfl ?_
              refine x_iadd (pc2 := 101) hC dX8_time_100 rfl ?_
              refine x_aload_n (pc2 := 102) hC rfl rfl dX8_time_101 rfl ?_
              refine x_iload (pc2 := 104) hC rfl dX8_time_102 rfl ?_
              refine x_iconst (pc2 := 105) hC dX8_time_104 rfl ?_
              refine x_iadd (pc2 := 106) hC dX8_time_105 rfl ?_
              refine x_aload_n (pc2 := 107) hC rfl rfl dX8_time_106 rfl ?_
              refine x_ldc2 (pc2 := 110) (z := 4) hC wt_1110 rfl dX8_time_107 rfl ?_
              refine x_cVi12 (pc2 := 113) (ci := 8) hC hK (n_of l hM hS4078 (by decide) (v := 4) (by decide)) lk_902 rfl rfl (by decide) (by assumption) (by assumption) ⟨Nat.le_of_ble_eq_true rfl, Nat.le_of_ble_eq_true rfl⟩ ⟨Nat.le_refl _, Nat.le_refl _⟩ rfl (Nat.le_of_ble_eq_true rfl) dX8_time_110 rfl ?_
              rintro z110 F110 A110 ⟨ez110, V110, hS110, v110, k110, g110⟩
              obtain rfl := ez110.symm
              replace hS110 : St 129 V110 F110 A110 := hS110
              have f110 : tr V110 125 = wn2_4078 := (tr_keep (by decide) k110).trans uwn2_4078
              have c110 : V110 127 = wn2_4078.2.2 := congrArg (fun q => q.2.2) f110
              refine x_cVi (pc2 := 116) (ci := 8) hC hK (n_times l hM hS110 (by decide) (x := 125 + 2) (y := 128) ⟨by decide, by decide⟩ ⟨by decide, by decide⟩ (a := 101) (b := 1) (by rw [show V110 (125 + 2) = _ from c110]; exact bwn2_4078.2.2) (by rw [v110]; unfold bd; decide) (by decide)) lk_953 rfl rfl (by decide) (by assumption) (by assumption) ⟨Nat.le_of_ble_eq_true rfl, Nat.le_of_ble_eq_true rfl⟩ ⟨Nat.le_refl _, Nat.le_refl _⟩ rfl (Nat.le_of_ble_eq_true rfl) dX8_time_113 rfl ?_
              rintro z113 F113 A113 ⟨ez113, V113, hS113, v113, k113, g113⟩
              obtain rfl := ez113.symm
              replace hS113 : St 130 V113 F113 A113 := hS113
              rw [show V110 (125 + 2) = _ from c110, v110] at v113
              have f113 : tr V113 125 = wn2_4078 := (tr_keep (by decide) k113).trans f110
              refine x_cVi (pc2 := 119) (ci := 8) hC hK (n_triple l hM hS113 (by decide) (x := 125) (y := 125 + 1) (w := 128 + 1) ⟨by decide, by decide⟩ ⟨by decide, by decide⟩ ⟨by decide, by decide⟩) lk_911 rfl rfl (by decide) (by assumption) (by assumption) ⟨Nat.le_of_ble_eq_true rfl, Nat.le_of_ble_eq_true rfl⟩ ⟨Nat.le_refl _, Nat.le_refl _⟩ rfl (Nat.le_of_ble_eq_true rfl) dX8_time_116 rfl ?_
              rintro z116 F116 A116 ⟨ez116, V116, hS116, ⟨va, vb, vc⟩, k116, g116⟩
              obtain rfl := ez116.symm
              replace hS116 : St 133 V116 F116 A116 := hS116
              have f116 : tr V116 130 = (wn2_4078.1, wn2_4078.2.1, wn2_4078.2.2 * 4) := Prod.ext (va.trans (congrArg (fun q => q.1) f113)) (Prod.ext (vb.trans (congrArg (fun q => q.2.1) f113)) (vc.trans v113))
              have gg := ((((((((((((((g42.tr g1067).tr g1075).tr g1078).tr g2067).tr g2075).tr g2078).tr g3067).tr g3075).tr g3078).tr g4067).tr g4075).tr g4078).tr g110).tr g113).tr g116
              have e17 : F116 0 17 = F1 0 17 := (gg.2.1 17 (by decide) (by decide) (by decide)).trans (by rw [uF_nj (by decide)])
              have e10 : A116 10 = A1 10 := gg.a (by decide)
              have hrp : 0 < ((wn2_4078.1, wn2_4078.2.1, wn2_4078.2.2 * 4) : T3).2.2 := Int.mul_pos (show 0 < wn2_4078.2.2 from by rw [ewn2_4078, ewn2_3078, ewn2_2078, ewn2_1078]; exact r_add (r_add (r_add (r_add (by rw [ewn2_42]; decide) (by rw [ewn2_1075, ewn2_1067]; exact r_rot 0 (rr hi ha (t := 0) (e := 2 * i + j) ⟨by decide, by decide⟩ he))) (by rw [ewn2_2075, ewn2_2067]; exact r_rot 2 (rr hi ha (t := 1) (e := 2 * i + j) ⟨by decide, by decide⟩ he))) (by rw [ewn2_3075, ewn2_3067]; exact r_rot 0 (rr hi ha (t := 2) (e := 2 * i + j) ⟨by decide, by decide⟩ he))) (by rw [ewn2_4075, ewn2_4067]; exact r_rot 2 (rr hi ha (t := 3) (e := 2 * i + j) ⟨by decide, by decide⟩ he))) (by decide)
              refine x_cVv (pc2 := 122) (ci := 8) hC hK (n_makes l hM hS116 (by decide) (t := 2) ⟨by decide, by decide⟩ (i := 0) (j := 0) ⟨by decide, by decide⟩ (x := 130) ⟨by decide, by decide⟩ f116 hrp (by rw [e17]; exact h17)) lk_919 rfl rfl (by decide) (by assumption) (by assumption) ⟨Nat.le_of_ble_eq_true rfl, Nat.le_of_ble_eq_true rfl⟩ ⟨Nat.le_refl _, Nat.le_refl _⟩ rfl (Nat.le_of_ble_eq_true rfl) dX8_time_119 rfl ?_
              rintro F119 A119 ⟨-, m2, m3, m4, m5⟩
              have qq : q3 (wn2_4078.1, wn2_4078.2.1, wn2_4078.2.2 * 4) = timeX (fun t => nm S a t (2 * i + j)) 2 0 := q_time (z := wn2_42) (q0 := wn2_1075) (q1 := wn2_2075) (q2 := wn2_3075) (q3' := wn2_4075) ewn2_42 (by rw [ewn2_4078, ewn2_3078, ewn2_2078, ewn2_1078]) (by rw [ewn2_1075, ewn2_1067]; exact q_rot 0 (by decide) _) (by rw [ewn2_2075, ewn2_2067]; exact q_rot 2 (by decide) _) (by rw [ewn2_3075, ewn2_3067]; exact q_rot 0 (by decide) _) (by rw [ewn2_4075, ewn2_4067]; exact q_rot 2 (by decide) _)
              have ml := mk_low (x := timeX (fun t => nm S a t (2 * i + j)) 2 0) hrp (timeX_un (fun k hk => un_q3 (rr hi ha ⟨by omega, by omega⟩ he)) 2 0) (by rw [qq]; exact eqf.rf _) m2
              rw [e17] at m3
              refine x_iinc (pc2 := 125) (loc2 := [_, _, _, _, _, _, _, _]) hC (by decide) rfl rfl dX8_time_122 rfl ?_
              refine x_goto (pc2 := 29) hC dX8_time_125 rfl ?_
              exact next _ _ _ _ (hR1.K (((FrK.f (by decide)).tr gg.K).tr m5)) (hmk.step (t := 2) (e := 0) ⟨by decide, by decide⟩ ⟨by decide, by decide⟩ (fun t0 e0 => ⟨fun y => by omega, fun y => by omega⟩) ml m3 (fun n hn => by rw [m4 n (by omega), e10]))
            · exact absurd h_53 (by decide)
  have body3 : ∀ (F1 : Nat → Nat → Int) (A1 : Nat → Int → Int) (e6 e7 : Option PV), isB S c0 → isB S a → isT (2 * i + j) → RepM S F1 A1 → (F1 0 17 = 0 ∨ F1 0 17 = 1) → MkD (fun n e => timeX (fun t => nm S a t (2 * i + j)) n e) (A1 10) (F1 0 17) (fun t0 e0 => t0 < 3 ∧ e0 = 0) → (∀ (F2 : Nat → Nat → Int) (A2 : Nat → Int → Int) (f6 f7 : Option PV), RepM S F2 A2 → MkD (fun n e => timeX (fun t => nm S a t (2 * i + j)) n e) (A2 10) (F2 0 17) (fun t0 e0 => t0 < 4 ∧ e0 = 0) → X p l e { frames := 5, cells := 0, slots := 0, locals := 118 } s m args below meth c (MQ below (QX D ids β sh N R (pIr (fun z F2 A2 => ∃ S2, rTime S c0 a i j z S2 ∧ RepM S2 F2 A2))) args s 0 0 (inG β N)) (inG β N) D ids β sh 8 0 0 N R F2 A2 [some (rf 0), some (pI c0), some (pI a), some (pI i), some (pI j), some (pI 4), f6, f7] [] 29) → X p l e { frames := 5, cells := 0, slots := 0, locals := 118 } s m args below meth c (MQ below (QX D ids β sh N R (pIr (fun z F2 A2 => ∃ S2, rTime S c0 a i j z S2 ∧ RepM S2 F2 A2))) args s 0 0 (inG β N)) (inG β N) D ids β sh 8 0 0 N R F1 A1 [some (rf 0), some (pI c0), some (pI a), some (pI i), some (pI j), some (pI 3), e6, e7] [] 35 := by
    intro F1 A1 e6 e7 hc2 ha he hR1 h17 hmk next
    have hb6 := hR1.2.2.2.2.2.2.1
    have a16 := ha.2
    have a00 := ha.1
    refine x_aload_n (pc2 := 36) hC rfl rfl dX8_time_35 rfl ?_
    refine x_iconst (pc2 := 37) hC dX8_time_36 rfl ?_
    refine p_819 (pc2 := 40) hC hK (by assumption) (by assumption) dX8_time_37 rfl ?_
    refine x_aload_n (pc2 := 41) hC rfl rfl dX8_time_40 rfl ?_
    refine x_lconst0 (pc2 := 42) hC dX8_time_41 rfl ?_
    refine x_cVi (pc2 := 45) (ci := 8) hC hK (t_whole l hM (St.zero (F := F1) (A := A1)) (by decide) (v := 0) (by decide)) lk_981 rfl rfl (by decide) (by assumption) (by assumption) ⟨Nat.le_of_ble_eq_true rfl, Nat.le_of_ble_eq_true rfl⟩ ⟨Nat.le_refl _, Nat.le_refl _⟩ rfl (Nat.le_of_ble_eq_true rfl) dX8_time_42 rfl ?_
    rintro z42 F42 A42 ⟨ez42, V42, hS42, v42, k42, g42⟩
    obtain rfl := ez42.symm
    replace hS42 : St 6 V42 F42 A42 := hS42
    rw [show (0 : Int) + 3 = 3 from rfl]
    obtain ⟨wn3_42, ewn3_42⟩ : ∃ w : T3, w = (0, 0, 1) := ⟨_, rfl⟩
    have uwn3_42 : tr V42 3 = wn3_42 := by rw [ewn3_42]; exact v42
    have bwn3_42 : bdt 1 1 wn3_42 := by rw [ewn3_42]; exact ⟨by unfold bd; decide, by unfold bd; decide, by unfold bd; decide⟩
    clear v42
    refine x_istore (pc2 := 47) (loc2 := [_, _, _, _, _, _, _, _]) hC (by decide) rfl dX8_time_45 rfl ?_
    refine x_iconst (pc2 := 48) hC dX8_time_47 rfl ?_
    refine x_istore (pc2 := 50) (loc2 := [_, _, _, _, _, _, _, _]) hC (by decide) rfl dX8_time_48 rfl ?_
    refine x_iload (pc2 := 52) hC rfl dX8_time_50 rfl ?_
    refine x_iconst (pc2 := 53) hC dX8_time_52 rfl ?_
    refine x_icmp_ge (tgt := 89) (pc2 := 56) hC (by omega) (by omega) dX8_time_53 rfl rfl (fun h_53 => ?_) (fun h_53 => ?_)
    · exact absurd h_53 (by decide)
    · refine x_aload_n (pc2 := 57) hC rfl rfl dX8_time_56 rfl ?_
      refine x_iload (pc2 := 59) hC rfl dX8_time_57 rfl ?_
      refine x_aload_n (pc2 := 60) hC rfl rfl dX8_time_59 rfl ?_
      refine x_aload_n (pc2 := 61) hC rfl rfl dX8_time_60 rfl ?_
      refine x_iload_n (pc2 := 62) hC rfl rfl dX8_time_61 rfl ?_
      refine x_iload (pc2 := 64) hC rfl dX8_time_62 rfl ?_
      refine x_iload_n (pc2 := 65) hC rfl rfl dX8_time_64 rfl ?_
      refine x_iload (pc2 := 67) hC rfl dX8_time_65 rfl ?_
      refine x_cVi (pc2 := 70) (ci := 8) hC hK (t_entry l hM hS42 (by decide) ⟨by omega, by omega⟩ (x := vS S a 0 (2 * i + j)) (by rw [g42.a (by decide)]; exact (show held (A1 2) (96 * a + 24 * (0) + 6 * (2 * i + j)) (vS S a 0 (2 * i + j)) from hb6 a 0 (2 * i + j) ha ⟨by decide, by decide⟩ he)) ((hi.2.1 a ha).2 0 (2 * i + j) ⟨by decide, by decide⟩ he).1.2.2) lk_985 rfl rfl (by decide) (by assumption) (by assumption) ⟨Nat.le_of_ble_eq_true rfl, Nat.le_of_ble_eq_true rfl⟩ ⟨Nat.le_refl _, Nat.le_refl _⟩ rfl (Nat.le_of_ble_eq_true rfl) dX8_time_67 rfl ?_
      rintro z1067 F1067 A1067 ⟨ez1067, V1067, hS1067, v1067, k1067, g1067⟩
      obtain rfl := ez1067.symm
      replace hS1067 : St 24 V1067 F1067 A1067 := hS1067
      have t1067_wn3_42 : tr V1067 3 = wn3_42 := (tr_keep (by decide) k1067).trans uwn3_42
      rw [show (6 : Int) + 15 = 21 from rfl]
      obtain ⟨wn3_1067, ewn3_1067⟩ : ∃ w : T3, w = vS S a 0 (2 * i + j) := ⟨_, rfl⟩
      have uwn3_1067 : tr V1067 21 = wn3_1067 := by rw [ewn3_1067]; exact v1067
      have bwn3_1067 : bdt 25 25 wn3_1067 := by rw [ewn3_1067]; exact (ok_bdt ((hi.2.1 a ha).2 0 (2 * i + j) ⟨by decide, by decide⟩ he).1)
      clear v1067
      refine x_iload (pc2 := 72) hC rfl dX8_time_70 rfl ?_
      refine x_iload (pc2 := 74) hC rfl dX8_time_72 rfl ?_
      refine x_imul (pc2 := 75) hC dX8_time_74 rfl ?_
      refine x_cVi (pc2 := 78) (ci := 8) hC hK (t_quarter0 l hM (hR1.K ((FrK.f (by decide)).tr (g42.tr g1067).K)) hS1067 (x := 21) (n := 3 * (0)) ⟨by decide, by decide⟩ uwn3_1067 bwn3_1067 (by decide) ⟨by decide, by decide⟩ (by decide)) lk_1106 rfl rfl (by decide) (by assumption) (by assumption) ⟨Nat.le_of_ble_eq_true rfl, Nat.le_of_ble_eq_true rfl⟩ ⟨Nat.le_refl _, Nat.le_refl _⟩ rfl (Nat.le_of_ble_eq_true rfl) dX8_time_75 rfl ?_
      rintro z1075 F1075 A1075 ⟨ez1075, V1075, hS1075, v1075, k1075, g1075⟩
      obtain rfl := ez1075.symm
      replace hS1075 : St 24 V1075 F1075 A1075 := hS1075
      have t1075_wn3_42 : tr V1075 3 = wn3_42 := (tr_keep (by decide) k1075).trans t1067_wn3_42
      have t1075_wn3_1067 : tr V1075 21 = wn3_1067 := (tr_keep (by decide) k1075).trans uwn3_1067
      obtain ⟨wn3_1075, ewn3_1075⟩ : ∃ w : T3, w = trot 0 wn3_1067 := ⟨_, rfl⟩
      have uwn3_1075 : tr V1075 21 = wn3_1075 := by rw [ewn3_1075]; exact v1075
      have bwn3_1075 : bdt 25 25 wn3_1075 := by rw [ewn3_1075]; exact (bdt_rot 0 bwn3_1067)
      clear v1075
      refine x_cVi (pc2 := 81) (ci := 8) hC hK (t_added l hM hS1075 (x := 3) (y := 21) ⟨by decide, by decide⟩ ⟨by decide, by decide⟩ t1075_wn3_42 uwn3_1075 bwn3_42 bwn3_1075 (by decide) ⟨by decide, by decide, by decide⟩) lk_1020 rfl rfl (by decide) (by assumption) (by assumption) ⟨Nat.le_of_ble_eq_true rfl, Nat.le_of_ble_eq_true rfl⟩ ⟨Nat.le_refl _, Nat.le_refl _⟩ rfl (Nat.le_of_ble_eq_true rfl) dX8_time_78 rfl ?_
      rintro z1078 F1078 A1078 ⟨ez1078, V1078, hS1078, v1078, k1078, g1078⟩
      obtain rfl := ez1078.symm
      replace hS1078 : St 34 V1078 F1078 A1078 := hS1078
      have t1078_wn3_42 : tr V1078 3 = wn3_42 := (tr_keep (by decide) k1078).trans t1075_wn3_42
      have t1078_wn3_1067 : tr V1078 21 = wn3_1067 := (tr_keep (by decide) k1078).trans t1075_wn3_1067
      have t1078_wn3_1075 : tr V1078 21 = wn3_1075 := (tr_keep (by decide) k1078).trans uwn3_1075
      rw [show (24 : Int) + 7 = 31 from rfl]
      obtain ⟨wn3_1078, ewn3_1078⟩ : ∃ w : T3, w = tadd wn3_42 wn3_1075 := ⟨_, rfl⟩
      have uwn3_1078 : tr V1078 31 = wn3_1078 := by rw [ewn3_1078]; exact v1078
      have bwn3_1078 : bdt 27 26 wn3_1078 := by rw [ewn3_1078]; exact (bdt_add bwn3_42 bwn3_1075 (by decide) (by decide) (by decide))
      clear v1078
      refine x_istore (pc2 := 83) (loc2 := [_, _, _, _, _, _, _, _]) hC (by decide) rfl dX8_time_81 rfl ?_
      refine x_iinc (pc2 := 86) (loc2 := [_, _, _, _, _, _, _, _]) hC (by decide) rfl rfl dX8_time_83 rfl ?_
      refine x_goto (pc2 := 50) hC dX8_time_86 rfl ?_
      refine x_iload (pc2 := 52) hC rfl dX8_time_50 rfl ?_
      refine x_iconst (pc2 := 53) hC dX8_time_52 rfl ?_
      refine x_icmp_ge (tgt := 89) (pc2 := 56) hC (by omega) (by omega) dX8_time_53 rfl rfl (fun h_53 => ?_) (fun h_53 => ?_)
      · exact absurd h_53 (by decide)
      · refine x_aload_n (pc2 := 57) hC rfl rfl dX8_time_56 rfl ?_
        refine x_iload (pc2 := 59) hC rfl dX8_time_57 rfl ?_
        refine x_aload_n (pc2 := 60) hC rfl rfl dX8_time_59 rfl ?_
        refine x_aload_n (pc2 := 61) hC rfl rfl dX8_time_60 rfl ?_
        refine x_iload_n (pc2 := 62) hC rfl rfl dX8_time_61 rfl ?_
        refine x_iload (pc2 := 64) hC rfl dX8_time_62 rfl ?_
        refine x_iload_n (pc2 := 65) hC rfl rfl dX8_time_64 rfl ?_
        refine x_iload (pc2 := 67) hC rfl dX8_time_65 rfl ?_
        refine x_cVi (pc2 := 70) (ci := 8) hC hK (t_entry l hM hS1078 (by decide) ⟨by omega, by omega⟩ (x := vS S a 1 (2 * i + j)) (by rw [(((g42.tr g1067).tr g1075).tr g1078).a (by decide)]; exact (show held (A1 2) (96 * a + 24 * (1) + 6 * (2 * i + j)) (vS S a 1 (2 * i + j)) from hb6 a 1 (2 * i + j) ha ⟨by decide, by decide⟩ he)) ((hi.2.1 a ha).2 1 (2 * i + j) ⟨by decide, by decide⟩ he).1.2.2) lk_985 rfl rfl (by decide) (by assumption) (by assumption) ⟨Nat.le_of_ble_eq_true rfl, Nat.le_of_ble_eq_true rfl⟩ ⟨Nat.le_refl _, Nat.le_refl _⟩ rfl (Nat.le_of_ble_eq_true rfl) dX8_time_67 rfl ?_
        rintro z2067 F2067 A2067 ⟨ez2067, V2067, hS2067, v2067, k2067, g2067⟩
        obtain rfl := ez2067.symm
        replace hS2067 : St 52 V2067 F2067 A2067 := hS2067
        have t2067_wn3_1078 : tr V2067 31 = wn3_1078 := (tr_keep (by decide) k2067).trans uwn3_1078
        rw [show (34 : Int) + 15 = 49 from rfl]
        obtain ⟨wn3_2067, ewn3_2067⟩ : ∃ w : T3, w = vS S a 1 (2 * i + j) := ⟨_, rfl⟩
        have uwn3_2067 : tr V2067 49 = wn3_2067 := by rw [ewn3_2067]; exact v2067
        have bwn3_2067 : bdt 25 25 wn3_2067 := by rw [ewn3_2067]; exact (ok_bdt ((hi.2.1 a ha).2 1 (2 * i + j) ⟨by decide, by decide⟩ he).1)
        clear v2067
        refine x_iload (pc2 := 72) hC rfl dX8_time_70 rfl ?_
        refine x_iload (pc2 := 74) hC rfl dX8_time_72 rfl ?_
        refine x_imul (pc2 := 75) hC dX8_time_74 rfl ?_
        refine x_cVi (pc2 := 78) (ci := 8) hC hK (t_quarter3 l hM (hR1.K ((FrK.f (by decide)).tr ((((g42.tr g1067).tr g1075).tr g1078).tr g2067).K)) hS2067 (x := 49) (n := 3 * (0 + 1)) ⟨by decide, by decide⟩ uwn3_2067 bwn3_2067 (by decide) ⟨by decide, by decide⟩ (by decide)) lk_1106 rfl rfl (by decide) (by assumption) (by assumption) ⟨Nat.le_of_ble_eq_true rfl, Nat.le_of_ble_eq_true rfl⟩ ⟨Nat.le_refl _, Nat.le_refl _⟩ rfl (Nat.le_of_ble_eq_true rfl) dX8_time_75 rfl ?_
        rintro z2075 F2075 A2075 ⟨ez2075, V2075, hS2075, v2075, k2075, g2075⟩
        obtain rfl := ez2075.symm
        replace hS2075 : St 56 V2075 F2075 A2075 := hS2075
        have t2075_wn3_1078 : tr V2075 31 = wn3_1078 := (tr_keep (by decide) k2075).trans t2067_wn3_1078
        have t2075_wn3_2067 : tr V2075 49 = wn3_2067 := (tr_keep (by decide) k2075).trans uwn3_2067
        rw [show (52 : Int) + 1 = 53 from rfl]
        obtain ⟨wn3_2075, ewn3_2075⟩ : ∃ w : T3, w = trot 3 wn3_2067 := ⟨_, rfl⟩
        have uwn3_2075 : tr V2075 53 = wn3_2075 := by rw [ewn3_2075]; exact v2075
        have bwn3_2075 : bdt 25 25 wn3_2075 := by rw [ewn3_2075]; exact (bdt_rot 3 bwn3_2067)
        clear v2075
        refine x_cVi (pc2 := 81) (ci := 8) hC hK (t_added l hM hS2075 (x := 31) (y := 53) ⟨by decide, by decide⟩ ⟨by decide, by decide⟩ t2075_wn3_1078 uwn3_2075 bwn3_1078 bwn3_2075 (by decide) ⟨by decide, by decide, by decide⟩) lk_1020 rfl rfl (by decide) (by assumption) (by assumption) ⟨Nat.le_of_ble_eq_true rfl, Nat.le_of_ble_eq_true rfl⟩ ⟨Nat.le_refl _, Nat.le_refl _⟩ rfl (Nat.le_of_ble_eq_true rfl) dX8_time_78 rfl ?_
        rintro z2078 F2078 A2078 ⟨ez2078, V2078, hS2078, v2078, k2078, g2078⟩
        obtain rfl := ez2078.symm
        replace hS2078 : St 66 V2078 F2078 A2078 := hS2078
        have t2078_wn3_1078 : tr V2078 31 = wn3_1078 := (tr_keep (by decide) k2078).trans t2075_wn3_1078
        have t2078_wn3_2067 : tr V2078 49 = wn3_2067 := (tr_keep (by decide) k2078).trans t2075_wn3_2067
        have t2078_wn3_2075 : tr V2078 53 = wn3_2075 := (tr_keep (by decide) k2078).trans uwn3_2075
        rw [show (56 : Int) + 7 = 63 from rfl]
        obtain ⟨wn3_2078, ewn3_2078⟩ : ∃ w : T3, w = tadd wn3_1078 wn3_2075 := ⟨_, rfl⟩
        have uwn3_2078 : tr V2078 63 = wn3_2078 := by rw [ewn3_2078]; exact v2078
        have bwn3_2078 : bdt 53 51 wn3_2078 := by rw [ewn3_2078]; exact (bdt_add bwn3_1078 bwn3_2075 (by decide) (by decide) (by decide))
        clear v2078
        refine x_istore (pc2 := 83) (loc2 := [_, _, _, _, _, _, _, _]) hC (by decide) rfl dX8_time_81 rfl ?_
        refine x_iinc (pc2 := 86) (loc2 := [_, _, _, _, _, _, _, _]) hC (by decide) rfl rfl dX8_time_83 rfl ?_
        refine x_goto (pc2 := 50) hC dX8_time_86 rfl ?_
        refine x_iload (pc2 := 52) hC rfl dX8_time_50 rfl ?_
        refine x_iconst (pc2 := 53) hC dX8_time_52 rfl ?_
        refine x_icmp_ge (tgt := 89) (pc2 := 56) hC (by omega) (by omega) dX8_time_53 rfl rfl (fun h_53 => ?_) (fun h_53 => ?_)
        · exact absurd h_53 (by decide)
        · refine x_aload_n (pc2 := 57) hC rfl rfl dX8_time_56 rfl ?_
          refine x_iload (pc2 := 59) hC rfl dX8_time_57 rfl ?_
          refine x_aload_n (pc2 := 60) hC rfl rfl dX8_time_59 rfl ?_
          refine x_aload_n (pc2 := 61) hC rfl rfl dX8_time_60 rfl ?_
          refine x_iload_n (pc2 := 62) hC rfl rfl dX8_time_61 rfl ?_
          refine x_iload (pc2 := 64) hC rfl dX8_time_62 rfl ?_
          refine x_iload_n (pc2 := 65) hC rfl rfl dX8_time_64 rfl ?_
          refine x_iload (pc2 := 67) hC rfl dX8_time_65 rfl ?_
          refine x_cVi (pc2 := 70) (ci := 8) hC hK (t_entry l hM hS2078 (by decide) ⟨by omega, by omega⟩ (x := vS S a 2 (2 * i + j)) (by rw [((((((g42.tr g1067).tr g1075).tr g1078).tr g2067).tr g2075).tr g2078).a (by decide)]; exact (show held (A1 2) (96 * a + 24 * (2) + 6 * (2 * i + j)) (vS S a 2 (2 * i + j)) from hb6 a 2 (2 * i + j) ha ⟨by decide, by decide⟩ he)) ((hi.2.1 a ha).2 2 (2 * i + j) ⟨by decide, by decide⟩ he).1.2.2) lk_985 rfl rfl (by decide) (by assumption) (by assumption) ⟨Nat.le_of_ble_eq_true rfl, Nat.le_of_ble_eq_true rfl⟩ ⟨Nat.le_refl _, Nat.le_refl _⟩ rfl (Nat.le_of_ble_eq_true rfl) dX8_time_67 rfl ?_
          rintro z3067 F3067 A3067 ⟨ez3067, V3067, hS3067, v3067, k3067, g3067⟩
          obtain rfl := ez3067.symm
          replace hS3067 : St 84 V3067 F3067 A3067 := hS3067
          have t3067_wn3_2078 : tr V3067 63 = wn3_2078 := (tr_keep (by decide) k3067).trans uwn3_2078
          rw [show (66 : Int) + 15 = 81 from rfl]
          obtain ⟨wn3_3067, ewn3_3067⟩ : ∃ w : T3, w = vS S a 2 (2 * i + j) := ⟨_, rfl⟩
          have uwn3_3067 : tr V3067 81 = wn3_3067 := by rw [ewn3_3067]; exact v3067
          have bwn3_3067 : bdt 25 25 wn3_3067 := by rw [ewn3_3067]; exact (ok_bdt ((hi.2.1 a ha).2 2 (2 * i + j) ⟨by decide, by decide⟩ he).1)
          clear v3067
          refine x_iload (pc2 := 72) hC rfl dX8_time_70 rfl ?_
          refine x_iload (pc2 := 74) hC rfl dX8_time_72 rfl ?_
          refine x_imul (pc2 := 75) hC dX8_time_74 rfl ?_
          refine x_cVi (pc2 := 78) (ci := 8) hC hK (t_quarter2 l hM (hR1.K ((FrK.f (by decide)).tr (((((((g42.tr g1067).tr g1075).tr g1078).tr g2067).tr g2075).tr g2078).tr g3067).K)) hS3067 (x := 81) (n := 3 * (0 + 1 + 1)) ⟨by decide, by decide⟩ uwn3_3067 bwn3_3067 (by decide) ⟨by decide, by decide⟩ (by decide)) lk_1106 rfl rfl (by decide) (by assumption) (by assumption) ⟨Nat.le_of_ble_eq_true rfl, Nat.le_of_ble_eq_true rfl⟩ ⟨Nat.le_refl _, Nat.le_refl _⟩ rfl (Nat.le_of_ble_eq_true rfl) dX8_time_75 rfl ?_
          rintro z3075 F3075 A3075 ⟨ez3075, V3075, hS3075, v3075, k3075, g3075⟩
          obtain rfl := ez3075.symm
          replace hS3075 : St 89 V3075 F3075 A3075 := hS3075
          have t3075_wn3_2078 : tr V3075 63 = wn3_2078 := (tr_keep (by decide) k3075).trans t3067_wn3_2078
          have t3075_wn3_3067 : tr V3075 81 = wn3_3067 := (tr_keep (by decide) k3075).trans uwn3_3067
          rw [show (84 : Int) + 2 = 86 from rfl]
          obtain ⟨wn3_3075, ewn3_3075⟩ : ∃ w : T3, w = trot 2 wn3_3067 := ⟨_, rfl⟩
          have uwn3_3075 : tr V3075 86 = wn3_3075 := by rw [ewn3_3075]; exact v3075
          have bwn3_3075 : bdt 25 25 wn3_3075 := by rw [ewn3_3075]; exact (bdt_rot 2 bwn3_3067)
          clear v3075
          refine x_cVi (pc2 := 81) (ci := 8) hC hK (t_added l hM hS3075 (x := 63) (y := 86) ⟨by decide, by decide⟩ ⟨by decide, by decide⟩ t3075_wn3_2078 uwn3_3075 bwn3_2078 bwn3_3075 (by decide) ⟨by decide, by decide, by decide⟩) lk_1020 rfl rfl (by decide) (by assumption) (by assumption) ⟨Nat.le_of_ble_eq_true rfl, Nat.le_of_ble_eq_true rfl⟩ ⟨Nat.le_refl _, Nat.le_refl _⟩ rfl (Nat.le_of_ble_eq_true rfl) dX8_time_78 rfl ?_
          rintro z3078 F3078 A3078 ⟨ez3078, V3078, hS3078, v3078, k3078, g3078⟩
          obtain rfl := ez3078.symm
          replace hS3078 : St 99 V3078 F3078 A3078 := hS3078
          have t3078_wn3_2078 : tr V3078 63 = wn3_2078 := (tr_keep (by decide) k3078).trans t3075_wn3_2078
          have t3078_wn3_3067 : tr V3078 81 = wn3_3067 := (tr_keep (by decide) k3078).trans t3075_wn3_3067
          have t3078_wn3_3075 : tr V3078 86 = wn3_3075 := (tr_keep (by decide) k3078).trans uwn3_3075
          rw [show (89 : Int) + 7 = 96 from rfl]
          obtain ⟨wn3_3078, ewn3_3078⟩ : ∃ w : T3, w = tadd wn3_2078 wn3_3075 := ⟨_, rfl⟩
          have uwn3_3078 : tr V3078 96 = wn3_3078 := by rw [ewn3_3078]; exact v3078
          have bwn3_3078 : bdt 79 76 wn3_3078 := by rw [ewn3_3078]; exact (bdt_add bwn3_2078 bwn3_3075 (by decide) (by decide) (by decide))
          clear v3078
          refine x_istore (pc2 := 83) (loc2 := [_, _, _, _, _, _, _, _]) hC (by decide) rfl dX8_time_81 rfl ?_
          refine x_iinc (pc2 := 86) (loc2 := [_, _, _, _, _, _, _, _]) hC (by decide) rfl rfl dX8_time_83 rfl ?_
          refine x_goto (pc2 := 50) hC dX8_time_86 rfl ?_
          refine x_iload (pc2 := 52) hC rfl dX8_time_50 rfl ?_
          refine x_iconst (pc2 := 53) hC dX8_time_52 rfl ?_
          refine x_icmp_ge (tgt := 89) (pc2 := 56) hC (by omega) (by omega) dX8_time_53 rfl rfl (fun h_53 => ?_) (fun h_53 => ?_)
          · exact absurd h_53 (by decide)
          · refine x_aload_n (pc2 := 57) hC rfl rfl dX8_time_56 rfl ?_
            refine x_iload (pc2 := 59) hC rfl dX8_time_57 rfl ?_
            refine x_aload_n (pc2 := 60) hC rfl rfl dX8_time_59 rfl ?_
            refine x_aload_n (pc2 := 61) hC rfl rfl dX8_time_60 rfl ?_
            refine x_iload_n (pc2 := 62) hC rfl rfl dX8_time_61 rfl ?_
            refine x_iload (pc2 := 64) hC rfl dX8_time_62 rfl ?_
            refine x_iload_n (pc2 := 65) hC rfl rfl dX8_time_64 rfl ?_
            refine x_iload (pc2 := 67) hC rfl dX8_time_65 rfl ?_
            refine x_cVi (pc2 := 70) (ci := 8) hC hK (t_entry l hM hS3078 (by decide) ⟨by omega, by omega⟩ (x := vS S a 3 (2 * i + j)) (by rw [(((((((((g42.tr g1067).tr g1075).tr g1078).tr g2067).tr g2075).tr g2078).tr g3067).tr g3075).tr g3078).a (by decide)]; exact (show held (A1 2) (96 * a + 24 * (3) + 6 * (2 * i + j)) (vS S a 3 (2 * i + j)) from hb6 a 3 (2 * i + j) ha ⟨by decide, by decide⟩ he)) ((hi.2.1 a ha).2 3 (2 * i + j) ⟨by decide, by decide⟩ he).1.2.2) lk_985 rfl rfl (by decide) (by assumption) (by assumption) ⟨Nat.le_of_ble_eq_true rfl, Nat.le_of_ble_eq_true rfl⟩ ⟨Nat.le_refl _, Nat.le_refl _⟩ rfl (Nat.le_of_ble_eq_true rfl) dX8_time_67 rfl ?_
            rintro z4067 F4067 A4067 ⟨ez4067, V4067, hS4067, v4067, k4067, g4067⟩
            obtain rfl := ez4067.symm
            replace hS4067 : St 117 V4067 F4067 A4067 := hS4067
            have t4067_wn3_3078 : tr V4067 96 = wn3_3078 := (tr_keep (by decide) k4067).trans uwn3_3078
            rw [show (99 : Int) + 15 = 114 from rfl]
            obtain ⟨wn3_4067, ewn3_4067⟩ : ∃ w : T3, w = vS S a 3 (2 * i + j) := ⟨_, rfl⟩
            have uwn3_4067 : tr V4067 114 = wn3_4067 := by rw [ewn3_4067]; exact v4067
            have bwn3_4067 : bdt 25 25 wn3_4067 := by rw [ewn3_4067]; exact (ok_bdt ((hi.2.1 a ha).2 3 (2 * i + j) ⟨by decide, by decide⟩ he).1)
            clear v4067
            refine x_iload (pc2 := 72) hC rfl dX8_time_70 rfl ?_
            refine x_iload (pc2 := 74) hC rfl dX8_time_72 rfl ?_
            refine x_imul (pc2 := 75) hC dX8_time_74 rfl ?_
            refine x_cVi (pc2 := 78) (ci := 8) hC hK (t_quarter1 l hM (hR1.K ((FrK.f (by decide)).tr ((((((((((g42.tr g1067).tr g1075).tr g1078).tr g2067).tr g2075).tr g2078).tr g3067).tr g3075).tr g3078).tr g4067).K)) hS4067 (x := 114) (n := 3 * (0 + 1 + 1 + 1)) ⟨by decide, by decide⟩ uwn3_4067 bwn3_4067 (by decide) ⟨by decide, by decide⟩ (by decide)) lk_1106 rfl rfl (by decide) (by assumption) (by assumption) ⟨Nat.le_of_ble_eq_true rfl, Nat.le_of_ble_eq_true rfl⟩ ⟨Nat.le_refl _, Nat.le_refl _⟩ rfl (Nat.le_of_ble_eq_true rfl) dX8_time_75 rfl ?_
            rintro z4075 F4075 A4075 ⟨ez4075, V4075, hS4075, v4075, k4075, g4075⟩
            obtain rfl := ez4075.symm
            replace hS4075 : St 121 V4075 F4075 A4075 := hS4075
            have t4075_wn3_3078 : tr V4075 96 = wn3_3078 := (tr_keep (by decide) k4075).trans t4067_wn3_3078
            have t4075_wn3_4067 : tr V4075 114 = wn3_4067 := (tr_keep (by decide) k4075).trans uwn3_4067
            rw [show (117 : Int) + 1 = 118 from rfl]
            obtain ⟨wn3_4075, ewn3_4075⟩ : ∃ w : T3, w = trot 1 wn3_4067 := ⟨_, rfl⟩
            have uwn3_4075 : tr V4075 118 = wn3_4075 := by rw [ewn3_4075]; exact v4075
            have bwn3_4075 : bdt 25 25 wn3_4075 := by rw [ewn3_4075]; exact (bdt_rot 1 bwn3_4067)
            clear v4075
            refine x_cVi (pc2 := 81) (ci := 8) hC hK (t_added l hM hS4075 (x := 96) (y := 118) ⟨by decide, by decide⟩ ⟨by decide, by decide⟩ t4075_wn3_3078 uwn3_4075 bwn3_3078 bwn3_4075 (by decide) ⟨by decide, by decide, by decide⟩) lk_1020 rfl rfl (by decide) (by assumption) (by assumption) ⟨Nat.le_of_ble_eq_true rfl, Nat.le_of_ble_eq_true rfl⟩ ⟨Nat.le_refl _, Nat.le_refl _⟩ rfl (Nat.le_of_ble_eq_true rfl) dX8_time_78 rfl ?_
            rintro z4078 F4078 A4078 ⟨ez4078, V4078, hS4078, v4078, k4078, g4078⟩
            obtain rfl := ez4078.symm
            replace hS4078 : St 131 V4078 F4078 A4078 := hS4078
            have t4078_wn3_3078 : tr V4078 96 = wn3_3078 := (tr_keep (by decide) k4078).trans t4075_wn3_3078
            have t4078_wn3_4067 : tr V4078 114 = wn3_4067 := (tr_keep (by decide) k4078).trans t4075_wn3_4067
            have t4078_wn3_4075 : tr V4078 118 = wn3_4075 := (tr_keep (by decide) k4078).trans uwn3_4075
            rw [show (121 : Int) + 7 = 128 from rfl]
            obtain ⟨wn3_4078, ewn3_4078⟩ : ∃ w : T3, w = tadd wn3_3078 wn3_4075 := ⟨_, rfl⟩
            have uwn3_4078 : tr V4078 128 = wn3_4078 := by rw [ewn3_4078]; exact v4078
            have bwn3_4078 : bdt 105 101 wn3_4078 := by rw [ewn3_4078]; exact (bdt_add bwn3_3078 bwn3_4075 (by decide) (by decide) (by decide))
            clear v4078
            refine x_istore (pc2 := 83) (loc2 := [_, _, _, _, _, _, _, _]) hC (by decide) rfl dX8_time_81 rfl ?_
            refine x_iinc (pc2 := 86) (loc2 := [_, _, _, _, _, _, _, _]) hC (by decide) rfl rfl dX8_time_83 rfl ?_
            refine x_goto (pc2 := 50) hC dX8_time_86 rfl ?_
            refine x_iload (pc2 := 52) hC rfl dX8_time_50 rfl ?_
            refine x_iconst (pc2 := 53) hC dX8_time_52 rfl ?_
            refine x_icmp_ge (tgt := 89) (pc2 := 56) hC (by omega) (by omega) dX8_time_53 rfl rfl (fun h_53 => ?_) (fun h_53 => ?_)
            · refine x_aload_n (pc2 := 90) hC rfl rfl dX8_time_89 rfl ?_
              refine x_iload (pc2 := 92) hC rfl dX8_time_90 rfl ?_
              refine x_iconst (pc2 := 93) hC dX8_time_92 rfl ?_
              refine x_iconst (pc2 := 94) hC dX8_time_93 rfl ?_
              refine x_aload_n (pc2 := 95) hC rfl rfl dX8_time_94 rfl ?_
              refine x_iload (pc2 := 97) hC rfl dX8_time_95 rfl ?_
              refine x_iload (pc2 := 99) hC rfl dX8_time_97 rfl ?_
              refine x_iconst (pc2 := 100) hC dX8_time_99 rfl ?_
              refine x_iadd (pc2 := 101) hC dX8_time_100 rfl ?_
              refine x_aload_n (pc2 := 102) hC rfl rfl dX8_time_101 rfl ?_
              refine x_iload (pc2 := 104) hC rfl dX8_time_102 rfl ?_
              refine x_iconst (pc2 := 105) hC dX8_time_104 rfl ?_
              refine x_iadd (pc2 := 106) hC dX8_time_105 rfl ?_
              refine x_aload_n (pc2 := 107) hC rfl rfl dX8_time_106 rfl ?_
              refine x_ldc2 (pc2 := 110) (z := 4) hC wt_1110 rfl dX8_time_107 rfl ?_
              refine x_cVi12 (pc2 := 113) (ci := 8) hC hK (n_of l hM hS4078 (by decide) (v := 4) (by decide)) lk_902 rfl rfl (by decide) (by assumption) (by assumption) ⟨Nat.le_of_ble_eq_true rfl, Nat.le_of_ble_eq_true rfl⟩ ⟨Nat.le_refl _, Nat.le_refl _⟩ rfl (Nat.le_of_ble_eq_true rfl) dX8_time_110 rfl ?_
              rintro z110 F110 A110 ⟨ez110, V110, hS110, v110, k110, g110⟩
              obtain rfl := ez110.symm
              replace hS110 : St 132 V110 F110 A110 := hS110
              have f110 : tr V110 128 = wn3_4078 := (tr_keep (by decide) k110).trans uwn3_4078
              have c110 : V110 130 = wn3_4078.2.2 := congrArg (fun q => q.2.2) f110
              refine x_cVi (pc2 := 116) (ci := 8) hC hK (n_times l hM hS110 (by decide) (x := 128 + 2) (y := 131) ⟨by decide, by decide⟩ ⟨by decide, by decide⟩ (a := 101) (b := 1) (by rw [show V110 (128 + 2) = _ from c110]; exact bwn3_4078.2.2) (by rw [v110]; unfold bd; decide) (by decide)) lk_953 rfl rfl (by decide) (by assumption) (by assumption) ⟨Nat.le_of_ble_eq_true rfl, Nat.le_of_ble_eq_true rfl⟩ ⟨Nat.le_refl _, Nat.le_refl _⟩ rfl (Nat.le_of_ble_eq_true rfl) dX8_time_113 rfl ?_
              rintro z113 F113 A113 ⟨ez113, V113, hS113, v113, k113, g113⟩
              obtain rfl := ez113.symm
              replace hS113 : St 133 V113 F113 A113 := hS113
              rw [show V110 (128 + 2) = _ from c110, v110] at v113
              have f113 : tr V113 128 = wn3_4078 := (tr_keep (by decide) k113).trans f110
              refine x_cVi (pc2 := 119) (ci := 8) hC hK (n_triple l hM hS113 (by decide) (x := 128) (y := 128 + 1) (w := 131 + 1) ⟨by decide, by decide⟩ ⟨by decide, by decide⟩ ⟨by decide, by decide⟩) lk_911 rfl rfl (by decide) (by assumption) (by assumption) ⟨Nat.le_of_ble_eq_true rfl, Nat.le_of_ble_eq_true rfl⟩ ⟨Nat.le_refl _, Nat.le_refl _⟩ rfl (Nat.le_of_ble_eq_true rfl) dX8_time_116 rfl ?_
              rintro z116 F116 A116 ⟨ez116, V116, hS116, ⟨va, vb, vc⟩, k116, g116⟩
              obtain rfl := ez116.symm
              replace hS116 : St 136 V116 F116 A116 := hS116
              have f116 : tr V116 133 = (wn3_4078.1, wn3_4078.2.1, wn3_4078.2.2 * 4) := Prod.ext (va.trans (congrArg (fun q => q.1) f113)) (Prod.ext (vb.trans (congrArg (fun q => q.2.1) f113)) (vc.trans v113))
              have gg := ((((((((((((((g42.tr g1067).tr g1075).tr g1078).tr g2067).tr g2075).tr g2078).tr g3067).tr g3075).tr g3078).tr g4067).tr g4075).tr g4078).tr g110).tr g113).tr g116
              have e17 : F116 0 17 = F1 0 17 := (gg.2.1 17 (by decide) (by decide) (by decide)).trans (by rw [uF_nj (by decide)])
              have e10 : A116 10 = A1 10 := gg.a (by decide)
              have hrp : 0 < ((wn3_4078.1, wn3_4078.2.1, wn3_4078.2.2 * 4) : T3).2.2 := Int.mul_pos (show 0 < wn3_4078.2.2 from by rw [ewn3_4078, ewn3_3078, ewn3_2078, ewn3_1078]; exact r_add (r_add (r_add (r_add (by rw [ewn3_42]; decide) (by rw [ewn3_1075, ewn3_1067]; exact r_rot 0 (rr hi ha (t := 0) (e := 2 * i + j) ⟨by decide, by decide⟩ he))) (by rw [ewn3_2075, ewn3_2067]; exact r_rot 3 (rr hi ha (t := 1) (e := 2 * i + j) ⟨by decide, by decide⟩ he))) (by rw [ewn3_3075, ewn3_3067]; exact r_rot 2 (rr hi ha (t := 2) (e := 2 * i + j) ⟨by decide, by decide⟩ he))) (by rw [ewn3_4075, ewn3_4067]; exact r_rot 1 (rr hi ha (t := 3) (e := 2 * i + j) ⟨by decide, by decide⟩ he))) (by decide)
              refine x_cVv (pc2 := 122) (ci := 8) hC hK (n_makes l hM hS116 (by decide) (t := 3) ⟨by decide, by decide⟩ (i := 0) (j := 0) ⟨by decide, by decide⟩ (x := 133) ⟨by decide, by decide⟩ f116 hrp (by rw [e17]; exact h17)) lk_919 rfl rfl (by decide) (by assumption) (by assumption) ⟨Nat.le_of_ble_eq_true rfl, Nat.le_of_ble_eq_true rfl⟩ ⟨Nat.le_refl _, Nat.le_refl _⟩ rfl (Nat.le_of_ble_eq_true rfl) dX8_time_119 rfl ?_
              rintro F119 A119 ⟨-, m2, m3, m4, m5⟩
              have qq : q3 (wn3_4078.1, wn3_4078.2.1, wn3_4078.2.2 * 4) = timeX (fun t => nm S a t (2 * i + j)) 3 0 := q_time (z := wn3_42) (q0 := wn3_1075) (q1 := wn3_2075) (q2 := wn3_3075) (q3' := wn3_4075) ewn3_42 (by rw [ewn3_4078, ewn3_3078, ewn3_2078, ewn3_1078]) (by rw [ewn3_1075, ewn3_1067]; exact q_rot 0 (by decide) _) (by rw [ewn3_2075, ewn3_2067]; exact q_rot 3 (by decide) _) (by rw [ewn3_3075, ewn3_3067]; exact q_rot 2 (by decide) _) (by rw [ewn3_4075, ewn3_4067]; exact q_rot 1 (by decide) _)
              have ml := mk_low (x := timeX (fun t => nm S a t (2 * i + j)) 3 0) hrp (timeX_un (fun k hk => un_q3 (rr hi ha ⟨by omega, by omega⟩ he)) 3 0) (by rw [qq]; exact eqf.rf _) m2
              rw [e17] at m3
              refine x_iinc (pc2 := 125) (loc2 := [_, _, _, _, _, _, _, _]) hC (by decide) rfl rfl dX8_time_122 rfl ?_
              refine x_goto (pc2 := 29) hC dX8_time_125 rfl ?_
              exact next _ _ _ _ (hR1.K (((FrK.f (by decide)).tr gg.K).tr m5)) (hmk.step (t := 3) (e := 0) ⟨by decide, by decide⟩ ⟨by decide, by decide⟩ (fun t0 e0 => ⟨fun y => by omega, fun y => by omega⟩) ml m3 (fun n hn => by rw [m4 n (by omega), e10]))
            · exact absurd h_53 (by decide)
  have outer : (hasB S c0 1 ∧ isE S a i j) → ∀ (d : Nat) (t : Int) (F1 : Nat → Nat → Int) (A1 : Nat → Int → Int) (e6 e7 : Option PV), 4 - t < d → 0 ≤ t → t ≤ 4 → RepM S F1 A1 → MkD (fun n e => timeX (fun t => nm S a t (2 * i + j)) n e) (A1 10) (F1 0 17) (fun t0 e0 => t0 < t ∧ e0 = 0) → X p l e { frames := 5, cells := 0, slots := 0, locals := 118 } s m args below meth c (MQ below (QX D ids β sh N R (pIr (fun z F2 A2 => ∃ S2, rTime S c0 a i j z S2 ∧ RepM S2 F2 A2))) args s 0 0 (inG β N)) (inG β N) D ids β sh 8 0 0 N R F1 A1 [some (rf 0), some (pI c0), some (pI a), some (pI i), some (pI j), some (pI t), e6, e7] [] 29 := by
    intro hok d
    induction d with
    | zero => intro t F1 A1 e6 e7 hd; omega
    | succ d ih =>
      intro t F1 A1 e6 e7 hd t0 t4 hR1 hmk
      have h17 : F1 0 17 = 0 ∨ F1 0 17 = 1 := by rcases hmk.1 with ⟨q, -⟩ | ⟨q, -⟩ <;> omega
      have he : isT (2 * i + j) := by
        have := (hi.2.1 a hok.2.1).1
        have := hok.2.2
        exact ⟨by omega, by omega⟩
      refine x_iload (pc2 := 31) hC rfl dX8_time_29 rfl ?_
      refine x_iconst (pc2 := 32) hC dX8_time_31 rfl ?_
      refine x_icmp_ge (tgt := 128) (pc2 := 35) hC (by omega) (by omega) dX8_time_32 rfl rfl (fun h_32 => ?_) (fun h_32 => ?_)
      · obtain ⟨hb17, w, hwf, hm1, hm2, hm3⟩ := hmk.ends hi hok.1.1 (fun t0 e0 h1 h2 q => if_neg (fun y => q ⟨by omega, y⟩)) (fun y t0 e0 h1 h2 h3 => if_neg h3)
        refine x_aload_n (pc2 := 129) hC rfl rfl dX8_time_128 rfl ?_
        refine x_iload_n (pc2 := 130) hC rfl rfl dX8_time_129 rfl ?_
        refine x_cVi (pc2 := 133) (ci := 8) hC hK (q_ends l hM hR1 hok.1.1 hwf hb17 hm1) lk_957 rfl rfl (by decide) (by assumption) (by assumption) ⟨Nat.le_of_ble_eq_true rfl, Nat.le_of_ble_eq_true rfl⟩ ⟨Nat.le_refl _, Nat.le_refl _⟩ rfl (Nat.le_of_ble_eq_true rfl) dX8_time_130 rfl ?_
        rintro z130 F130 A130 hq
        obtain ⟨S2, hs2, hR2⟩ : ∃ S2, ((F1 0 17 = 1 ∧ z130 = -5 ∧ S2 = S) ∨ (F1 0 17 = 0 ∧ z130 = 0 ∧ S2 = actS S c0 w)) ∧ RepM S2 F130 A130 := by
          rcases hq with ⟨q1, q2, q3⟩ | ⟨q1, q2, q3⟩
          · exact ⟨_, Or.inl ⟨q1, q2, rfl⟩, q3⟩
          · exact ⟨_, Or.inr ⟨q1, q2, rfl⟩, q3⟩
        exact x_iret hC hr hlk ⟨_, rfl, S2, Or.inr ⟨hok, spAct.ok (fun _ _ => rfl) hm2 hm3 hs2⟩, hR2⟩ dX8_time_133
      · rcases (show t = 0 ∨ t = 1 ∨ t = 2 ∨ t = 3 by omega) with rfl | rfl | rfl | rfl
        · exact body0 F1 A1 _ _ hok.1.1 hok.2.1 he hR1 h17 hmk (fun F2 A2 f6 f7 g1 g2 => ih 1 F2 A2 f6 f7 (by omega) (by decide) (by decide) g1 g2)
        · exact body1 F1 A1 _ _ hok.1.1 hok.2.1 he hR1 h17 hmk (fun F2 A2 f6 f7 g1 g2 => ih 2 F2 A2 f6 f7 (by omega) (by decide) (by decide) g1 g2)
        · exact body2 F1 A1 _ _ hok.1.1 hok.2.1 he hR1 h17 hmk (fun F2 A2 f6 f7 g1 g2 => ih 3 F2 A2 f6 f7 (by omega) (by decide) (by decide) g1 g2)
        · exact body3 F1 A1 _ _ hok.1.1 hok.2.1 he hR1 h17 hmk (fun F2 A2 f6 f7 g1 g2 => ih 4 F2 A2 f6 f7 (by omega) (by decide) (by decide) g1 g2)
  refine x_aload_n (pc2 := 1) hC rfl rfl dX8_time_0 rfl ?_
  refine x_iload_n (pc2 := 2) hC rfl rfl dX8_time_1 rfl ?_
  refine x_iconst (pc2 := 3) hC dX8_time_2 rfl ?_
  refine x_cVi (pc2 := 6) (ci := 8) hC hK (q_has l hM hR0 hc (by decide)) lk_977 rfl rfl (by decide) (by assumption) (by assumption) ⟨Nat.le_of_ble_eq_true rfl, Nat.le_of_ble_eq_true rfl⟩ ⟨Nat.le_refl _, Nat.le_refl _⟩ rfl (Nat.le_of_ble_eq_true rfl) dX8_time_3 rfl ?_
  rintro z3 F3 A3 ⟨w3, b3_, e13, e23⟩
  obtain rfl := e13.symm
  obtain rfl := e23.symm
  refine x_if_eq (tgt := 20) (pc2 := 9) hC (by omega) dX8_time_6 rfl rfl (fun h_6 => ?_) (fun h_6 => ?_)
  · refine x_iconst (pc2 := 21) hC dX8_time_20 rfl ?_
    exact x_iret hC hr hlk ⟨_, rfl, S, Or.inl ⟨fun ⟨q1, q2⟩ => by first | exact absurd h_6 ((b3_ ()).mpr q1) | exact absurd h_17 ((b14 ()).mpr q2), rfl, rfl⟩, hR0⟩ dX8_time_21
  · refine x_aload_n (pc2 := 10) hC rfl rfl dX8_time_9 rfl ?_
    refine x_iload_n (pc2 := 11) hC rfl rfl dX8_time_10 rfl ?_
    refine x_iload_n (pc2 := 12) hC rfl rfl dX8_time_11 rfl ?_
    refine x_iload (pc2 := 14) hC rfl dX8_time_12 rfl ?_
    refine x_cVi (pc2 := 17) (ci := 8) hC hK (q_isPlace l hM hR0 ha0 hi2 hj) lk_880 rfl rfl (by decide) (by assumption) (by assumption) ⟨Nat.le_of_ble_eq_true rfl, Nat.le_of_ble_eq_true rfl⟩ ⟨Nat.le_refl _, Nat.le_refl _⟩ rfl (Nat.le_of_ble_eq_true rfl) dX8_time_14 rfl ?_
    rintro z14 F14 A14 ⟨w14, b14, e114, e214⟩
    obtain rfl := e114.symm
    obtain rfl := e214.symm
    refine x_if_ne (tgt := 22) (pc2 := 20) hC (by omega) dX8_time_17 rfl rfl (fun h_17 => ?_) (fun h_17 => ?_)
    · refine x_aload_n (pc2 := 23) hC rfl rfl dX8_time_22 rfl ?_
      refine x_cVv (pc2 := 26) (ci := 8) hC hK (n_begins l hM) lk_1036 rfl rfl (by decide) (by assumption) (by assumption) ⟨Nat.le_of_ble_eq_true rfl, Nat.le_of_ble_eq_true rfl⟩ ⟨Nat.le_refl _, Nat.le_refl _⟩ rfl (Nat.le_of_ble_eq_true rfl) dX8_time_23 rfl ?_
      rintro F23 A23 ⟨e123, e223, e323⟩
      have hRb : RepM S F23 A23 := by rw [e123]; exact hR0.of (fun j hj => uF_nj (by omega)) (fun b hb => e223 b (by omega))
      have h17b : F23 0 17 = 0 := by rw [e123, uF_eq]
      refine x_iconst (pc2 := 27) hC dX8_time_26 rfl ?_
      refine x_istore (pc2 := 29) (loc2 := [_, _, _, _, _, _, _, _]) hC (by decide) rfl dX8_time_27 rfl ?_
      exact outer ⟨(b3_ ()).mp h_6, (b14 ()).mp h_17⟩ 5 0 F23 A23 _ _ (by decide) (by decide) (by decide) hRb (by rw [h17b]; exact MkD.nil (fun t e ht _ q => by have := q.1; omega) e323)
    · refine x_iconst (pc2 := 21) hC dX8_time_20 rfl ?_
      exact x_iret hC hr hlk ⟨_, rfl, S, Or.inl ⟨fun ⟨q1, q2⟩ => by first | exact absurd h_6 ((b3_ ()).mpr q1) | exact absurd h_17 ((b14 ()).mpr q2), rfl, rfl⟩, hR0⟩ dX8_time_21
