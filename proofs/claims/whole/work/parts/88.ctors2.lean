/-! CONSTRUCTORS: Lowest, Shelf, Judge -/
def LoN (sh : Nat → Nat × Nat) (R : Nat → Nat → Option Nat) (F : Nat → Nat → Int) (A : Nat → Int → Int) (o dc sw : Nat) : Prop := sh o = (0, 3) ∧ R o = rwL [some dc, some (o + 1), some (o + 6), some (o + 8), some (o + 10)] ∧ (∀ j, F o j = dF 3 j) ∧ GsN sh R F A (o + 1) sw ∧ WhN sh R F A (o + 6) ∧ WhN sh R F A (o + 8) ∧ WhN sh R F A (o + 10) ∧ WhN sh R F A (o + 12) ∧ WhN sh R F A (o + 14)
theorem LoN.eqv {sh : Nat → Nat × Nat} {R R' : Nat → Nat → Option Nat} {F F' : Nat → Nat → Int} {A A' : Nat → Int → Int} {o dc sw : Nat} (h : LoN sh R F A o dc sw) (k : Eqv R F A R' F' A' o (o + 16)) : LoN sh R' F' A' o dc sw := by
  obtain ⟨h1, h2, h3, h4, h5, h6, h7, h8, h9⟩ := h
  obtain ⟨a1, a2, -⟩ := k o (by omega) (by omega)
  exact ⟨h1, a1.trans h2, fun j => by rw [a2]; exact h3 j, h4.eqv (k.sub (by omega) (by omega)), h5.eqv (k.sub (by omega) (by omega)), h6.eqv (k.sub (by omega) (by omega)), h7.eqv (k.sub (by omega) (by omega)), h8.eqv (k.sub (by omega) (by omega)), h9.eqv (k.sub (by omega) (by omega))⟩
def LoF (F : Nat → Nat → Int) (o : Nat) : Nat → Nat → Int := uF (uF F o 5 ((o + 12 : Nat) : Int)) o 6 ((o + 14 : Nat) : Int)
theorem LoF_ne {F : Nat → Nat → Int} {o k : Nat} (h : k ≠ o) : LoF F o k = F k := by unfold LoF; rw [uF_ne h, uF_ne h]
theorem dX3_init_0 : decode cX3_init 0 = .ok (.aload_n 0, 1) := by decide +kernel
theorem dX3_init_1 : decode cX3_init 1 = .ok (.invokespecial 3, 3) := by decide +kernel
theorem dX3_init_4 : decode cX3_init 4 = .ok (.aload_n 0, 1) := by decide +kernel
theorem dX3_init_5 : decode cX3_init 5 = .ok (.aload_n 1, 1) := by decide +kernel
theorem dX3_init_6 : decode cX3_init 6 = .ok (.putfield 9, 3) := by decide +kernel
theorem dX3_init_9 : decode cX3_init 9 = .ok (.aload_n 0, 1) := by decide +kernel
theorem dX3_init_10 : decode cX3_init 10 = .ok (.new 15, 3) := by decide +kernel
theorem dX3_init_13 : decode cX3_init 13 = .ok (.dup, 1) := by decide +kernel
theorem dX3_init_14 : decode cX3_init 14 = .ok (.aload_n 2, 1) := by decide +kernel
theorem dX3_init_15 : decode cX3_init 15 = .ok (.invokespecial 17, 3) := by decide +kernel
theorem dX3_init_18 : decode cX3_init 18 = .ok (.putfield 20, 3) := by decide +kernel
theorem dX3_init_21 : decode cX3_init 21 = .ok (.aload_n 0, 1) := by decide +kernel
theorem dX3_init_22 : decode cX3_init 22 = .ok (.new 24, 3) := by decide +kernel
theorem dX3_init_25 : decode cX3_init 25 = .ok (.dup, 1) := by decide +kernel
theorem dX3_init_26 : decode cX3_init 26 = .ok (.invokespecial 26, 3) := by decide +kernel
theorem dX3_init_29 : decode cX3_init 29 = .ok (.putfield 27, 3) := by decide +kernel
theorem dX3_init_32 : decode cX3_init 32 = .ok (.aload_n 0, 1) := by decide +kernel
theorem dX3_init_33 : decode cX3_init 33 = .ok (.new 24, 3) := by decide +kernel
theorem dX3_init_36 : decode cX3_init 36 = .ok (.dup, 1) := by decide +kernel
theorem dX3_init_37 : decode cX3_init 37 = .ok (.invokespecial 26, 3) := by decide +kernel
theorem dX3_init_40 : decode cX3_init 40 = .ok (.putfield 31, 3) := by decide +kernel
theorem dX3_init_43 : decode cX3_init 43 = .ok (.aload_n 0, 1) := by decide +kernel
theorem dX3_init_44 : decode cX3_init 44 = .ok (.new 24, 3) := by decide +kernel
theorem dX3_init_47 : decode cX3_init 47 = .ok (.dup, 1) := by decide +kernel
theorem dX3_init_48 : decode cX3_init 48 = .ok (.invokespecial 26, 3) := by decide +kernel
theorem dX3_init_51 : decode cX3_init 51 = .ok (.putfield 34, 3) := by decide +kernel
theorem dX3_init_54 : decode cX3_init 54 = .ok (.aload_n 0, 1) := by decide +kernel
theorem dX3_init_55 : decode cX3_init 55 = .ok (.new 24, 3) := by decide +kernel
theorem dX3_init_58 : decode cX3_init 58 = .ok (.dup, 1) := by decide +kernel
theorem dX3_init_59 : decode cX3_init 59 = .ok (.invokespecial 26, 3) := by decide +kernel
theorem dX3_init_62 : decode cX3_init 62 = .ok (.putfield 37, 3) := by decide +kernel
theorem dX3_init_65 : decode cX3_init 65 = .ok (.aload_n 0, 1) := by decide +kernel
theorem dX3_init_66 : decode cX3_init 66 = .ok (.new 24, 3) := by decide +kernel
theorem dX3_init_69 : decode cX3_init 69 = .ok (.dup, 1) := by decide +kernel
theorem dX3_init_70 : decode cX3_init 70 = .ok (.invokespecial 26, 3) := by decide +kernel
theorem dX3_init_73 : decode cX3_init 73 = .ok (.putfield 40, 3) := by decide +kernel
theorem dX3_init_76 : decode cX3_init 76 = .ok (.return_, 1) := by decide +kernel
set_option maxHeartbeats 4000000 in
theorem k_lowest (l : Launch) {D : va_G} {ids : Nat → ClassId} {β : Nat} {sh : Nat → Nat × Nat} {R : Nat → Nat → Option Nat} {F : Nat → Nat → Int} {A : Nat → Int → Int} {o dc sw : Nat} (hb : LoN sh R F A o dc sw) : MetN l yX3_init cX3_init 3 none 3 61 15 584 D ids β sh (o + 1) (o + 16) (mR R o 0) R F A [rf o, rf dc, rf sw] (pVr (fun F2 A2 => F2 = LoF F o ∧ A2 = A)) := by
  refine MetN.of (loc := [_, _, _]) (plainFor_of_name (by decide +kernel)) (Nat.le_of_ble_eq_true rfl) rfl ?_
  intro p e s m args below meth c hC hK hr hlk hnm hz
  obtain ⟨h1, h2, h3, h4, h5, h6, h7, h8, h9⟩ := hb
  refine x_aload_n (pc2 := 1) hC rfl rfl dX3_init_0 rfl ?_
  refine x_objInit (pc2 := 4) hC wt_180 (Nat.le_of_ble_eq_true rfl) (Nat.le_of_ble_eq_true rfl) (Nat.le_of_ble_eq_true rfl) dX3_init_1 rfl ?_
  refine x_aload_n (pc2 := 5) hC rfl rfl dX3_init_4 rfl ?_
  refine x_aload_n (pc2 := 6) hC rfl rfl dX3_init_5 rfl ?_
  refine xp_ref (pc2 := 9) (ci := 3) (j := 0) hC hK (by decide) (by decide) wt_185 rfl rfl rfl hnm rfl (by omega) h1 (Or.inr ⟨_, rfl⟩) dX3_init_6 rfl ?_
  refine x_toR (R2 := mR R o 1) (mR_put (n := 0) (congrFun h2 0) (by decide) (fun i h1 h2 => by omega)) ?_
  refine x_aload_n (pc2 := 10) hC rfl rfl dX3_init_9 rfl ?_
  refine x_new (pc2 := 13) (N2 := o + 2) (nc2 := 1) (ns2 := 3) (ci := 1) hC hK hz rfl (by decide) rfl wt_181 wt_151 wt_72 h4.1 (fun j _ => (h4.2.2.1 j).trans (dF0 (by decide)).symm) rfl rfl rfl (Nat.le_of_ble_eq_true rfl) (Nat.le_of_ble_eq_true rfl) dX3_init_10 rfl ?_
  refine x_dupR (pc2 := 14) hC dX3_init_13 rfl ?_
  refine x_aload_n (pc2 := 15) hC rfl rfl dX3_init_14 rfl ?_
  refine x_cI (n := 1) (pc2 := 18) (N2 := o + 6) (nc2 := 5) (ns2 := 169) hC hK hz rfl (k_gauss l (g := o + 1) (sp := sw) (h4.eqv (Eqv.m (o := o) (n := 1) (by omega)))) ⟨Or.inl wt_182, wt_153, wt_72, wt_154, rfl, by decide +kernel, by decide +kernel, by decide +kernel⟩ rfl ⟨Nat.le_of_ble_eq_true rfl, Nat.le_of_ble_eq_true rfl⟩ rfl rfl rfl ⟨Nat.le_of_ble_eq_true rfl, Nat.le_of_ble_eq_true rfl⟩ rfl (Nat.le_of_ble_eq_true rfl) dX3_init_15 rfl ?_
  rintro F15 A15 ⟨e115, e215⟩
  obtain rfl := e115.symm
  obtain rfl := e215.symm
  refine xp_ref (pc2 := 21) (ci := 3) (j := 1) hC hK (by decide) (by decide) wt_186 rfl rfl rfl hnm rfl (by omega) h1 (Or.inl ⟨_, rfl⟩) dX3_init_18 rfl ?_
  refine x_toR (R2 := mR R o 2) (mR_put (n := 1) (congrFun h2 1) (by decide) (fun i h1 h2 => by omega)) ?_
  refine x_aload_n (pc2 := 22) hC rfl rfl dX3_init_21 rfl ?_
  refine x_new (pc2 := 25) (N2 := o + 7) (nc2 := 6) (ns2 := 172) (ci := 6) hC hK hz rfl (by decide) rfl wt_183 wt_131 wt_71 h5.1 (fun j _ => (h5.2.2.2.1 j).trans (dF0 (by decide)).symm) rfl rfl rfl (Nat.le_of_ble_eq_true rfl) (Nat.le_of_ble_eq_true rfl) dX3_init_22 rfl ?_
  refine x_dupR (pc2 := 26) hC dX3_init_25 rfl ?_
  refine x_cI (n := 0) (pc2 := 29) (N2 := o + 8) (nc2 := 7) (ns2 := 252) hC hK hz rfl (k_whole l (w := o + 6) (h5.eqv (Eqv.m (o := o) (n := 2) (by omega)))) ⟨Or.inr (fun U h => h.2.2.2.1), wt_133, wt_71, wt_134, rfl, by decide +kernel, by decide +kernel, by decide +kernel⟩ rfl ⟨Nat.le_of_ble_eq_true rfl, Nat.le_of_ble_eq_true rfl⟩ rfl rfl rfl ⟨Nat.le_of_ble_eq_true rfl, Nat.le_of_ble_eq_true rfl⟩ rfl (Nat.le_of_ble_eq_true rfl) dX3_init_26 rfl ?_
  rintro F26 A26 ⟨e126, e226⟩
  obtain rfl := e126.symm
  obtain rfl := e226.symm
  refine xp_ref (pc2 := 32) (ci := 3) (j := 2) hC hK (by decide) (by decide) wt_187 rfl rfl rfl hnm rfl (by omega) h1 (Or.inl ⟨_, rfl⟩) dX3_init_29 rfl ?_
  refine x_toR (R2 := mR R o 3) (mR_put (n := 2) (congrFun h2 2) (by decide) (fun i h1 h2 => by omega)) ?_
  refine x_aload_n (pc2 := 33) hC rfl rfl dX3_init_32 rfl ?_
  refine x_new (pc2 := 36) (N2 := o + 9) (nc2 := 8) (ns2 := 255) (ci := 6) hC hK hz rfl (by decide) rfl wt_183 wt_131 wt_71 h6.1 (fun j _ => (h6.2.2.2.1 j).trans (dF0 (by decide)).symm) rfl rfl rfl (Nat.le_of_ble_eq_true rfl) (Nat.le_of_ble_eq_true rfl) dX3_init_33 rfl ?_
  refine x_dupR (pc2 := 37) hC dX3_init_36 rfl ?_
  refine x_cI (n := 0) (pc2 := 40) (N2 := o + 10) (nc2 := 9) (ns2 := 335) hC hK hz rfl (k_whole l (w := o + 8) (h6.eqv (Eqv.m (o := o) (n := 3) (by omega)))) ⟨Or.inr (fun U h => h.2.2.2.1), wt_133, wt_71, wt_134, rfl, by decide +kernel, by decide +kernel, by decide +kernel⟩ rfl ⟨Nat.le_of_ble_eq_true rfl, Nat.le_of_ble_eq_true rfl⟩ rfl rfl rfl ⟨Nat.le_of_ble_eq_true rfl, Nat.le_of_ble_eq_true rfl⟩ rfl (Nat.le_of_ble_eq_true rfl) dX3_init_37 rfl ?_
  rintro F37 A37 ⟨e137, e237⟩
  obtain rfl := e137.symm
  obtain rfl := e237.symm
  refine xp_ref (pc2 := 43) (ci := 3) (j := 3) hC hK (by decide) (by decide) wt_188 rfl rfl rfl hnm rfl (by omega) h1 (Or.inl ⟨_, rfl⟩) dX3_init_40 rfl ?_
  refine x_toR (R2 := mR R o 4) (mR_put (n := 3) (congrFun h2 3) (by decide) (fun i h1 h2 => by omega)) ?_
  refine x_aload_n (pc2 := 44) hC rfl rfl dX3_init_43 rfl ?_
  refine x_new (pc2 := 47) (N2 := o + 11) (nc2 := 10) (ns2 := 338) (ci := 6) hC hK hz rfl (by decide) rfl wt_183 wt_131 wt_71 h7.1 (fun j _ => (h7.2.2.2.1 j).trans (dF0 (by decide)).symm) rfl rfl rfl (Nat.le_of_ble_eq_true rfl) (Nat.le_of_ble_eq_true rfl) dX3_init_44 rfl ?_
  refine x_dupR (pc2 := 48) hC dX3_init_47 rfl ?_
  refine x_cI (n := 0) (pc2 := 51) (N2 := o + 12) (nc2 := 11) (ns2 := 418) hC hK hz rfl (k_whole l (w := o + 10) (h7.eqv (Eqv.m (o := o) (n := 4) (by omega)))) ⟨Or.inr (fun U h => h.2.2.2.1), wt_133, wt_71, wt_134, rfl, by decide +kernel, by decide +kernel, by decide +kernel⟩ rfl ⟨Nat.le_of_ble_eq_true rfl, Nat.le_of_ble_eq_true rfl⟩ rfl rfl rfl ⟨Nat.le_of_ble_eq_true rfl, Nat.le_of_ble_eq_true rfl⟩ rfl (Nat.le_of_ble_eq_true rfl) dX3_init_48 rfl ?_
  rintro F48 A48 ⟨e148, e248⟩
  obtain rfl := e148.symm
  obtain rfl := e248.symm
  refine xp_ref (pc2 := 54) (ci := 3) (j := 4) hC hK (by decide) (by decide) wt_189 rfl rfl rfl hnm rfl (by omega) h1 (Or.inl ⟨_, rfl⟩) dX3_init_51 rfl ?_
  refine x_toR (R2 := mR R o 5) (mR_put (n := 4) (congrFun h2 4) (by decide) (fun i h1 h2 => by omega)) ?_
  refine x_aload_n (pc2 := 55) hC rfl rfl dX3_init_54 rfl ?_
  refine x_new (pc2 := 58) (N2 := o + 13) (nc2 := 12) (ns2 := 421) (ci := 6) hC hK hz rfl (by decide) rfl wt_183 wt_131 wt_71 h8.1 (fun j _ => (h8.2.2.2.1 j).trans (dF0 (by decide)).symm) rfl rfl rfl (Nat.le_of_ble_eq_true rfl) (Nat.le_of_ble_eq_true rfl) dX3_init_55 rfl ?_
  refine x_dupR (pc2 := 59) hC dX3_init_58 rfl ?_
  refine x_cI (n := 0) (pc2 := 62) (N2 := o + 14) (nc2 := 13) (ns2 := 501) hC hK hz rfl (k_whole l (w := o + 12) (h8.eqv (Eqv.m (o := o) (n := 5) (by omega)))) ⟨Or.inr (fun U h => h.2.2.2.1), wt_133, wt_71, wt_134, rfl, by decide +kernel, by decide +kernel, by decide +kernel⟩ rfl ⟨Nat.le_of_ble_eq_true rfl, Nat.le_of_ble_eq_true rfl⟩ rfl rfl rfl ⟨Nat.le_of_ble_eq_true rfl, Nat.le_of_ble_eq_true rfl⟩ rfl (Nat.le_of_ble_eq_true rfl) dX3_init_59 rfl ?_
  rintro F59 A59 ⟨e159, e259⟩
  obtain rfl := e159.symm
  obtain rfl := e259.symm
  refine p_190 (pc2 := 65) hC hK (by omega) h1 dX3_init_62 rfl ?_
  refine x_aload_n (pc2 := 66) hC rfl rfl dX3_init_65 rfl ?_
  refine x_new (pc2 := 69) (N2 := o + 15) (nc2 := 14) (ns2 := 504) (ci := 6) hC hK hz rfl (by decide) rfl wt_183 wt_131 wt_71 h9.1 (fun j _ => by rw [uF_ne (by omega)]; exact (h9.2.2.2.1 j).trans (dF0 (by decide)).symm) rfl rfl rfl (Nat.le_of_ble_eq_true rfl) (Nat.le_of_ble_eq_true rfl) dX3_init_66 rfl ?_
  refine x_dupR (pc2 := 70) hC dX3_init_69 rfl ?_
  refine x_cI (n := 0) (pc2 := 73) (N2 := o + 16) (nc2 := 15) (ns2 := 584) hC hK hz rfl (k_whole l (w := o + 14) (h9.eqv (fun k x y => ⟨mR_ne (o := o) (n := 5) (by omega), uF_ne (by omega), rfl⟩))) ⟨Or.inr (fun U h => h.2.2.2.1), wt_133, wt_71, wt_134, rfl, by decide +kernel, by decide +kernel, by decide +kernel⟩ rfl ⟨Nat.le_of_ble_eq_true rfl, Nat.le_of_ble_eq_true rfl⟩ rfl rfl rfl ⟨Nat.le_of_ble_eq_true rfl, Nat.le_of_ble_eq_true rfl⟩ rfl (Nat.le_of_ble_eq_true rfl) dX3_init_70 rfl ?_
  rintro F70 A70 ⟨e170, e270⟩
  obtain rfl := e170.symm
  obtain rfl := e270.symm
  refine p_191 (pc2 := 76) hC hK (by omega) h1 dX3_init_73 rfl ?_
  refine x_toR (mR_done (fun j hj => (congrFun h2 j).trans (rwL_none hj))) ?_
  exact x_vretN hC hr hlk ⟨rfl, rfl, rfl⟩ dX3_init_76
def SfN (sh : Nat → Nat × Nat) (R : Nat → Nat → Option Nat) (F : Nat → Nat → Int) (A : Nat → Int → Int) : Prop := sh 1 = (0, 5) ∧ R 1 = rwL [some 2, some 3, some 4, some 5, some 6] ∧ (∀ j, F 1 j = 0) ∧ (sh 2 = (1, 2304) ∧ sh 3 = (1, 144) ∧ sh 4 = (1, 16) ∧ sh 5 = (1, 2304) ∧ sh 6 = (1, 16)) ∧ ∀ k, 2 ≤ k → k < 7 → ∀ j : Nat, A k (j : Int) = 0
theorem SfN.eqv {sh : Nat → Nat × Nat} {R R' : Nat → Nat → Option Nat} {F F' : Nat → Nat → Int} {A A' : Nat → Int → Int} (h : SfN sh R F A) (k : Eqv R F A R' F' A' 1 7) : SfN sh R' F' A' := by
  obtain ⟨h1, h2, h3, h4, h5⟩ := h
  obtain ⟨a1, a2, -⟩ := k 1 (by omega) (by omega)
  exact ⟨h1, a1.trans h2, fun j => by rw [a2]; exact h3 j, h4, fun i x y j => by rw [(k i (by omega) y).2.2]; exact h5 i x y j⟩
theorem dX5_init_0 : decode cX5_init 0 = .ok (.aload_n 0, 1) := by decide +kernel
theorem dX5_init_1 : decode cX5_init 1 = .ok (.invokespecial 3, 3) := by decide +kernel
theorem dX5_init_4 : decode cX5_init 4 = .ok (.aload_n 0, 1) := by decide +kernel
theorem dX5_init_5 : decode cX5_init 5 = .ok (.sipush 2304, 3) := by decide +kernel
theorem dX5_init_8 : decode cX5_init 8 = .ok (.newarray .int, 2) := by decide +kernel
theorem dX5_init_10 : decode cX5_init 10 = .ok (.putfield 9, 3) := by decide +kernel
theorem dX5_init_13 : decode cX5_init 13 = .ok (.aload_n 0, 1) := by decide +kernel
theorem dX5_init_14 : decode cX5_init 14 = .ok (.sipush 144, 3) := by decide +kernel
theorem dX5_init_17 : decode cX5_init 17 = .ok (.newarray .int, 2) := by decide +kernel
theorem dX5_init_19 : decode cX5_init 19 = .ok (.putfield 15, 3) := by decide +kernel
theorem dX5_init_22 : decode cX5_init 22 = .ok (.aload_n 0, 1) := by decide +kernel
theorem dX5_init_23 : decode cX5_init 23 = .ok (.bipush 16, 2) := by decide +kernel
theorem dX5_init_25 : decode cX5_init 25 = .ok (.newarray .int, 2) := by decide +kernel
theorem dX5_init_27 : decode cX5_init 27 = .ok (.putfield 18, 3) := by decide +kernel
theorem dX5_init_30 : decode cX5_init 30 = .ok (.aload_n 0, 1) := by decide +kernel
theorem dX5_init_31 : decode cX5_init 31 = .ok (.sipush 2304, 3) := by decide +kernel
theorem dX5_init_34 : decode cX5_init 34 = .ok (.newarray .int, 2) := by decide +kernel
theorem dX5_init_36 : decode cX5_init 36 = .ok (.putfield 21, 3) := by decide +kernel
theorem dX5_init_39 : decode cX5_init 39 = .ok (.aload_n 0, 1) := by decide +kernel
theorem dX5_init_40 : decode cX5_init 40 = .ok (.bipush 16, 2) := by decide +kernel
theorem dX5_init_42 : decode cX5_init 42 = .ok (.newarray .int, 2) := by decide +kernel
theorem dX5_init_44 : decode cX5_init 44 = .ok (.putfield 24, 3) := by decide +kernel
theorem dX5_init_47 : decode cX5_init 47 = .ok (.return_, 1) := by decide +kernel
set_option maxHeartbeats 4000000 in
theorem k_shelf (l : Launch) {D : va_G} {ids : Nat → ClassId} {β : Nat} {sh : Nat → Nat × Nat} {R : Nat → Nat → Option Nat} {F : Nat → Nat → Int} {A : Nat → Int → Int} (hb : SfN sh R F A) : MetN l yX5_init cX5_init 1 none 1 20 5 4784 D ids β sh 2 7 (mR R 1 0) R F A [rf 1] (pVr (fun F2 A2 => F2 = F ∧ A2 = A)) := by
  refine MetN.of (loc := [_]) (plainFor_of_name (by decide +kernel)) (Nat.le_of_ble_eq_true rfl) rfl ?_
  intro p e s m args below meth c hC hK hr hlk hnm hz
  obtain ⟨h1, h2, h3, h4, h5⟩ := hb
  refine x_aload_n (pc2 := 1) hC rfl rfl dX5_init_0 rfl ?_
  refine x_objInit (pc2 := 4) hC wt_92 (Nat.le_of_ble_eq_true rfl) (Nat.le_of_ble_eq_true rfl) (Nat.le_of_ble_eq_true rfl) dX5_init_1 rfl ?_
  refine x_aload_n (pc2 := 5) hC rfl rfl dX5_init_4 rfl ?_
  refine x_sipush (pc2 := 8) hC rfl dX5_init_5 rfl ?_
  refine x_newi (pc2 := 10) (N2 := 3) (nc2 := 1) (ns2 := 2304) (n := 2304) hC hK hz rfl rfl (Nat.le_of_ble_eq_true rfl) (Nat.le_of_ble_eq_true rfl) wt_123 h4.1 (h5 2 (by decide) (by decide)) rfl rfl rfl (Nat.le_of_ble_eq_true rfl) (Nat.le_of_ble_eq_true rfl) dX5_init_8 rfl ?_
  refine xp_ref (pc2 := 13) (ci := 5) (j := 0) hC hK (by decide) (by decide) wt_93 rfl rfl rfl hnm rfl (by omega) h1 (Or.inr ⟨_, rfl⟩) dX5_init_10 rfl ?_
  refine x_toR (R2 := mR R 1 1) (mR_put (n := 0) (congrFun h2 0) (by decide) (fun i h1 h2 => by omega)) ?_
  refine x_aload_n (pc2 := 14) hC rfl rfl dX5_init_13 rfl ?_
  refine x_sipush (pc2 := 17) hC rfl dX5_init_14 rfl ?_
  refine x_newi (pc2 := 19) (N2 := 4) (nc2 := 2) (ns2 := 2448) (n := 144) hC hK hz rfl rfl (Nat.le_of_ble_eq_true rfl) (Nat.le_of_ble_eq_true rfl) wt_123 h4.2.1 (h5 3 (by decide) (by decide)) rfl rfl rfl (Nat.le_of_ble_eq_true rfl) (Nat.le_of_ble_eq_true rfl) dX5_init_17 rfl ?_
  refine xp_ref (pc2 := 22) (ci := 5) (j := 1) hC hK (by decide) (by decide) wt_96 rfl rfl rfl hnm rfl (by omega) h1 (Or.inr ⟨_, rfl⟩) dX5_init_19 rfl ?_
  refine x_toR (R2 := mR R 1 2) (mR_put (n := 1) (congrFun h2 1) (by decide) (fun i h1 h2 => by omega)) ?_
  refine x_aload_n (pc2 := 23) hC rfl rfl dX5_init_22 rfl ?_
  refine x_bipush (pc2 := 25) hC rfl dX5_init_23 rfl ?_
  refine x_newi (pc2 := 27) (N2 := 5) (nc2 := 3) (ns2 := 2464) (n := 16) hC hK hz rfl rfl (Nat.le_of_ble_eq_true rfl) (Nat.le_of_ble_eq_true rfl) wt_123 h4.2.2.1 (h5 4 (by decide) (by decide)) rfl rfl rfl (Nat.le_of_ble_eq_true rfl) (Nat.le_of_ble_eq_true rfl) dX5_init_25 rfl ?_
  refine xp_ref (pc2 := 30) (ci := 5) (j := 2) hC hK (by decide) (by decide) wt_98 rfl rfl rfl hnm rfl (by omega) h1 (Or.inr ⟨_, rfl⟩) dX5_init_27 rfl ?_
  refine x_toR (R2 := mR R 1 3) (mR_put (n := 2) (congrFun h2 2) (by decide) (fun i h1 h2 => by omega)) ?_
  refine x_aload_n (pc2 := 31) hC rfl rfl dX5_init_30 rfl ?_
  refine x_sipush (pc2 := 34) hC rfl dX5_init_31 rfl ?_
  refine x_newi (pc2 := 36) (N2 := 6) (nc2 := 4) (ns2 := 4768) (n := 2304) hC hK hz rfl rfl (Nat.le_of_ble_eq_true rfl) (Nat.le_of_ble_eq_true rfl) wt_123 h4.2.2.2.1 (h5 5 (by decide) (by decide)) rfl rfl rfl (Nat.le_of_ble_eq_true rfl) (Nat.le_of_ble_eq_true rfl) dX5_init_34 rfl ?_
  refine xp_ref (pc2 := 39) (ci := 5) (j := 3) hC hK (by decide) (by decide) wt_99 rfl rfl rfl hnm rfl (by omega) h1 (Or.inr ⟨_, rfl⟩) dX5_init_36 rfl ?_
  refine x_toR (R2 := mR R 1 4) (mR_put (n := 3) (congrFun h2 3) (by decide) (fun i h1 h2 => by omega)) ?_
  refine x_aload_n (pc2 := 40) hC rfl rfl dX5_init_39 rfl ?_
  refine x_bipush (pc2 := 42) hC rfl dX5_init_40 rfl ?_
  refine x_newi (pc2 := 44) (N2 := 7) (nc2 := 5) (ns2 := 4784) (n := 16) hC hK hz rfl rfl (Nat.le_of_ble_eq_true rfl) (Nat.le_of_ble_eq_true rfl) wt_123 h4.2.2.2.2 (h5 6 (by decide) (by decide)) rfl rfl rfl (Nat.le_of_ble_eq_true rfl) (Nat.le_of_ble_eq_true rfl) dX5_init_42 rfl ?_
  refine xp_ref (pc2 := 47) (ci := 5) (j := 4) hC hK (by decide) (by decide) wt_100 rfl rfl rfl hnm rfl (by omega) h1 (Or.inr ⟨_, rfl⟩) dX5_init_44 rfl ?_
  refine x_toR (R2 := mR R 1 5) (mR_put (n := 4) (congrFun h2 4) (by decide) (fun i h1 h2 => by omega)) ?_
  refine x_toR (mR_done (fun j hj => (congrFun h2 j).trans (rwL_none hj))) ?_
  exact x_vretN hC hr hlk ⟨rfl, rfl, rfl⟩ dX5_init_47
def JdN (sh : Nat → Nat × Nat) (R : Nat → Nat → Option Nat) (F : Nat → Nat → Int) (A : Nat → Int → Int) : Prop := sh 295 = (0, 2) ∧ R 295 = rwL [some 303, some 348, some 353, some 358, some 363, some 368, some 370, some 372, some 374, some 376, some 378, some 380, some 382, some 384] ∧ (∀ j, F 295 j = 0) ∧ WhN sh R F A 296 ∧ GsN sh R F A 298 296 ∧ RfN sh R F A 303 4 298 296 ∧ (GsN sh R F A 348 296 ∧ GsN sh R F A 353 296 ∧ GsN sh R F A 358 296 ∧ GsN sh R F A 363 296) ∧ WhN sh R F A 368 ∧ WhN sh R F A 370 ∧ WhN sh R F A 372 ∧ WhN sh R F A 374 ∧ WhN sh R F A 376 ∧ WhN sh R F A 378 ∧ WhN sh R F A 380 ∧ WhN sh R F A 382 ∧ WhN sh R F A 384
theorem JdN.eqv {sh : Nat → Nat × Nat} {R R' : Nat → Nat → Option Nat} {F F' : Nat → Nat → Int} {A A' : Nat → Int → Int} (h : JdN sh R F A) (k : Eqv R F A R' F' A' 295 386) : JdN sh R' F' A' := by
  obtain ⟨h1, h2, h3, h4, h5, h6, ⟨g348, g353, g358, g363⟩, w368, w370, w372, w374, w376, w378, w380, w382, w384⟩ := h
  obtain ⟨a1, a2, -⟩ := k 295 (by omega) (by omega)
  exact ⟨h1, a1.trans h2, fun j => by rw [a2]; exact h3 j, h4.eqv (k.sub (by omega) (by omega)), h5.eqv (k.sub (by omega) (by omega)), h6.eqv (k.sub (by omega) (by omega)), ⟨g348.eqv (k.sub (by omega) (by omega)), g353.eqv (k.sub (by omega) (by omega)), g358.eqv (k.sub (by omega) (by omega)), g363.eqv (k.sub (by omega) (by omega))⟩, w368.eqv (k.sub (by omega) (by omega)), w370.eqv (k.sub (by omega) (by omega)), w372.eqv (k.sub (by omega) (by omega)), w374.eqv (k.sub (by omega) (by omega)), w376.eqv (k.sub (by omega) (by omega)), w378.eqv (k.sub (by omega) (by omega)), w380.eqv (k.sub (by omega) (by omega)), w382.eqv (k.sub (by omega) (by omega)), w384.eqv (k.sub (by omega) (by omega))⟩
theorem dX2_init_0 : decode cX2_init 0 = .ok (.aload_n 0, 1) := by decide +kernel
theorem dX2_init_1 : decode cX2_init 1 = .ok (.invokespecial 3, 3) := by decide +kernel
theorem dX2_init_4 : decode cX2_init 4 = .ok (.new 9, 3) := by decide +kernel
theorem dX2_init_7 : decode cX2_init 7 = .ok (.dup, 1) := by decide +kernel
theorem dX2_init_8 : decode cX2_init 8 = .ok (.invokespecial 11, 3) := by decide +kernel
theorem dX2_init_11 : decode cX2_init 11 = .ok (.astore_n 1, 1) := by decide +kernel
theorem dX2_init_12 : decode cX2_init 12 = .ok (.aload_n 0, 1) := by decide +kernel
theorem dX2_init_13 : decode cX2_init 13 = .ok (.new 12, 3) := by decide +kernel
theorem dX2_init_16 : decode cX2_init 16 = .ok (.dup, 1) := by decide +kernel
theorem dX2_init_17 : decode cX2_init 17 = .ok (.aload_n 1, 1) := by decide +kernel
theorem dX2_init_18 : decode cX2_init 18 = .ok (.invokespecial 14, 3) := by decide +kernel
theorem dX2_init_21 : decode cX2_init 21 = .ok (.aload_n 1, 1) := by decide +kernel
theorem dX2_init_22 : decode cX2_init 22 = .ok (.invokestatic 17, 3) := by decide +kernel
theorem dX2_init_25 : decode cX2_init 25 = .ok (.putfield 23, 3) := by decide +kernel
theorem dX2_init_28 : decode cX2_init 28 = .ok (.aload_n 0, 1) := by decide +kernel
theorem dX2_init_29 : decode cX2_init 29 = .ok (.new 12, 3) := by decide +kernel
theorem dX2_init_32 : decode cX2_init 32 = .ok (.dup, 1) := by decide +kernel
theorem dX2_init_33 : decode cX2_init 33 = .ok (.aload_n 1, 1) := by decide +kernel
theorem dX2_init_34 : decode cX2_init 34 = .ok (.invokespecial 14, 3) := by decide +kernel
theorem dX2_init_37 : decode cX2_init 37 = .ok (.putfield 29, 3) := by decide +kernel
theorem dX2_init_40 : decode cX2_init 40 = .ok (.aload_n 0, 1) := by decide +kernel
theorem dX2_init_41 : decode cX2_init 41 = .ok (.new 12, 3) := by decide +kernel
theorem dX2_init_44 : decode cX2_init 44 = .ok (.dup, 1) := by decide +kernel
theorem dX2_init_45 : decode cX2_init 45 = .ok (.aload_n 1, 1) := by decide +kernel
theorem dX2_init_46 : decode cX2_init 46 = .ok (.invokespecial 14, 3) := by decide +kernel
theorem dX2_init_49 : decode cX2_init 49 = .ok (.putfield 33, 3) := by decide +kernel
theorem dX2_init_52 : decode cX2_init 52 = .ok (.aload_n 0, 1) := by decide +kernel
theorem dX2_init_53 : decode cX2_init 53 = .ok (.new 12, 3) := by decide +kernel
theorem dX2_init_56 : decode cX2_init 56 = .ok (.dup, 1) := by decide +kernel
theorem dX2_init_57 : decode cX2_init 57 = .ok (.aload_n 1, 1) := by decide +kernel
theorem dX2_init_58 : decode cX2_init 58 = .ok (.invokespecial 14, 3) := by decide +kernel
theorem dX2_init_61 : decode cX2_init 61 = .ok (.putfield 36, 3) := by decide +kernel
theorem dX2_init_64 : decode cX2_init 64 = .ok (.aload_n 0, 1) := by decide +kernel
theorem dX2_init_65 : decode cX2_init 65 = .ok (.new 12, 3) := by decide +kernel
theorem dX2_init_68 : decode cX2_init 68 = .ok (.dup, 1) := by decide +kernel
theorem dX2_init_69 : decode cX2_init 69 = .ok (.aload_n 1, 1) := by decide +kernel
theorem dX2_init_70 : decode cX2_init 70 = .ok (.invokespecial 14, 3) := by decide +kernel
theorem dX2_init_73 : decode cX2_init 73 = .ok (.putfield 39, 3) := by decide +kernel
theorem dX2_init_76 : decode cX2_init 76 = .ok (.aload_n 0, 1) := by decide +kernel
theorem dX2_init_77 : decode cX2_init 77 = .ok (.new 9, 3) := by decide +kernel
theorem dX2_init_80 : decode cX2_init 80 = .ok (.dup, 1) := by decide +kernel
theorem dX2_init_81 : decode cX2_init 81 = .ok (.invokespecial 11, 3) := by decide +kernel
theorem dX2_init_84 : decode cX2_init 84 = .ok (.putfield 42, 3) := by decide +kernel
theorem dX2_init_87 : decode cX2_init 87 = .ok (.aload_n 0, 1) := by decide +kernel
theorem dX2_init_88 : decode cX2_init 88 = .ok (.new 9, 3) := by decide +kernel
theorem dX2_init_91 : decode cX2_init 91 = .ok (.dup, 1) := by decide +kernel
theorem dX2_init_92 : decode cX2_init 92 = .ok (.invokespecial 11, 3) := by decide +kernel
theorem dX2_init_95 : decode cX2_init 95 = .ok (.putfield 46, 3) := by decide +kernel
theorem dX2_init_98 : decode cX2_init 98 = .ok (.aload_n 0, 1) := by decide +kernel
theorem dX2_init_99 : decode cX2_init 99 = .ok (.new 9, 3) := by decide +kernel
theorem dX2_init_102 : decode cX2_init 102 = .ok (.dup, 1) := by decide +kernel
theorem dX2_init_103 : decode cX2_init 103 = .ok (.invokespecial 11, 3) := by decide +kernel
theorem dX2_init_106 : decode cX2_init 106 = .ok (.putfield 49, 3) := by decide +kernel
theorem dX2_init_109 : decode cX2_init 109 = .ok (.aload_n 0, 1) := by decide +kernel
theorem dX2_init_110 : decode cX2_init 110 = .ok (.new 9, 3) := by decide +kernel
theorem dX2_init_113 : decode cX2_init 113 = .ok (.dup, 1) := by decide +kernel
theorem dX2_init_114 : decode cX2_init 114 = .ok (.invokespecial 11, 3) := by decide +kernel
theorem dX2_init_117 : decode cX2_init 117 = .ok (.putfield 52, 3) := by decide +kernel
theorem dX2_init_120 : decode cX2_init 120 = .ok (.aload_n 0, 1) := by decide +kernel
theorem dX2_init_121 : decode cX2_init 121 = .ok (.new 9, 3) := by decide +kernel
theorem dX2_init_124 : decode cX2_init 124 = .ok (.dup, 1) := by decide +kernel
theorem dX2_init_125 : decode cX2_init 125 = .ok (.invokespecial 11, 3) := by decide +kernel
theorem dX2_init_128 : decode cX2_init 128 = .ok (.putfield 55, 3) := by decide +kernel
theorem dX2_init_131 : decode cX2_init 131 = .ok (.aload_n 0, 1) := by decide +kernel
theorem dX2_init_132 : decode cX2_init 132 = .ok (.new 9, 3) := by decide +kernel
theorem dX2_init_135 : decode cX2_init 135 = .ok (.dup, 1) := by decide +kernel
theorem dX2_init_136 : decode cX2_init 136 = .ok (.invokespecial 11, 3) := by decide +kernel
theorem dX2_init_139 : decode cX2_init 139 = .ok (.putfield 58, 3) := by decide +kernel
theorem dX2_init_142 : decode cX2_init 142 = .ok (.aload_n 0, 1) := by decide +kernel
theorem dX2_init_143 : decode cX2_init 143 = .ok (.new 9, 3) := by decide +kernel
theorem dX2_init_146 : decode cX2_init 146 = .ok (.dup, 1) := by decide +kernel
theorem dX2_init_147 : decode cX2_init 147 = .ok (.invokespecial 11, 3) := by decide +kernel
theorem dX2_init_150 : decode cX2_init 150 = .ok (.putfield 61, 3) := by decide +kernel
theorem dX2_init_153 : decode cX2_init 153 = .ok (.aload_n 0, 1) := by decide +kernel
theorem dX2_init_154 : decode cX2_init 154 = .ok (.new 9, 3) := by decide +kernel
theorem dX2_init_157 : decode cX2_init 157 = .ok (.dup, 1) := by decide +kernel
theorem dX2_init_158 : decode cX2_init 158 = .ok (.invokespecial 11, 3) := by decide +kernel
theorem dX2_init_161 : decode cX2_init 161 = .ok (.putfield 64, 3) := by decide +kernel
theorem dX2_init_164 : decode cX2_init 164 = .ok (.aload_n 0, 1) := by decide +kernel
theorem dX2_init_165 : decode cX2_init 165 = .ok (.new 9, 3) := by decide +kernel
theorem dX2_init_168 : decode cX2_init 168 = .ok (.dup, 1) := by decide +kernel
theorem dX2_init_169 : decode cX2_init 169 = .ok (.invokespecial 11, 3) := by decide +kernel
theorem dX2_init_172 : decode cX2_init 172 = .ok (.putfield 67, 3) := by decide +kernel
theorem dX2_init_175 : decode cX2_init 175 = .ok (.return_, 1) := by decide +kernel
set_option maxHeartbeats 8000000 in
theorem k_judge (l : Launch) {D : va_G} {ids : Nat → ClassId} {β : Nat} {sh : Nat → Nat × Nat} {R : Nat → Nat → Option Nat} {F : Nat → Nat → Int} {A : Nat → Int → Int} (hb : JdN sh R F A) : MetN l yX2_init cX2_init 2 none 5 106 90 3043 D ids β sh 296 386 (mR R 295 0) R F A [rf 295] (pVr (fun F2 A2 => F2 = F ∧ A2 = A)) := by
  refine MetN.of (loc := [_, _]) (plainFor_of_name (by decide +kernel)) (Nat.le_of_ble_eq_true rfl) rfl ?_
  intro p e s m args below meth c hC hK hr hlk hnm hz
  obtain ⟨h1, h2, h3, h4, h5, h6, ⟨g348, g353, g358, g363⟩, w368, w370, w372, w374, w376, w378, w380, w382, w384⟩ := hb
  refine x_aload_n (pc2 := 1) hC rfl rfl dX2_init_0 rfl ?_
  refine x_objInit (pc2 := 4) hC wt_320 (Nat.le_of_ble_eq_true rfl) (Nat.le_of_ble_eq_true rfl) (Nat.le_of_ble_eq_true rfl) dX2_init_1 rfl ?_
  refine x_new (pc2 := 7) (N2 := 297) (nc2 := 1) (ns2 := 3) (ci := 6) hC hK hz rfl (by decide) rfl wt_321 wt_131 wt_71 h4.1 (fun j _ => (h4.2.2.2.1 j).trans (dF0 (by decide)).symm) rfl rfl rfl (Nat.le_of_ble_eq_true rfl) (Nat.le_of_ble_eq_true rfl) dX2_init_4 rfl ?_
  refine x_dupR (pc2 := 8) hC dX2_init_7 rfl ?_
  refine x_cI (n := 0) (pc2 := 11) (N2 := 298) (nc2 := 2) (ns2 := 83) hC hK hz rfl (k_whole l (w := 296) (h4.eqv (Eqv.m (o := 295) (n := 0) (by omega)))) ⟨Or.inr (fun U h => h.2.2.2.2.1), wt_133, wt_71, wt_134, rfl, by decide +kernel, by decide +kernel, by decide +kernel⟩ rfl ⟨Nat.le_of_ble_eq_true rfl, Nat.le_of_ble_eq_true rfl⟩ rfl rfl rfl ⟨Nat.le_of_ble_eq_true rfl, Nat.le_of_ble_eq_true rfl⟩ rfl (Nat.le_of_ble_eq_true rfl) dX2_init_8 rfl ?_
  rintro F8 A8 ⟨e18, e28⟩
  obtain rfl := e18.symm
  obtain rfl := e28.symm
  refine x_astore_n (pc2 := 12) (loc2 := [_, _]) hC rfl (by decide) rfl dX2_init_11 rfl ?_
  refine x_aload_n (pc2 := 13) hC rfl rfl dX2_init_12 rfl ?_
  refine x_new (pc2 := 16) (N2 := 299) (nc2 := 3) (ns2 := 86) (ci := 1) hC hK hz rfl (by decide) rfl wt_323 wt_151 wt_72 h5.1 (fun j _ => (h5.2.2.1 j).trans (dF0 (by decide)).symm) rfl rfl rfl (Nat.le_of_ble_eq_true rfl) (Nat.le_of_ble_eq_true rfl) dX2_init_13 rfl ?_
  refine x_dupR (pc2 := 17) hC dX2_init_16 rfl ?_
  refine x_aload_n (pc2 := 18) hC rfl rfl dX2_init_17 rfl ?_
  refine x_cI (n := 1) (pc2 := 21) (N2 := 303) (nc2 := 7) (ns2 := 252) hC hK hz rfl (k_gauss l (g := 298) (sp := 296) (h5.eqv (Eqv.m (o := 295) (n := 0) (by omega)))) ⟨Or.inl wt_324, wt_153, wt_72, wt_154, rfl, by decide +kernel, by decide +kernel, by decide +kernel⟩ rfl ⟨Nat.le_of_ble_eq_true rfl, Nat.le_of_ble_eq_true rfl⟩ rfl rfl rfl ⟨Nat.le_of_ble_eq_true rfl, Nat.le_of_ble_eq_true rfl⟩ rfl (Nat.le_of_ble_eq_true rfl) dX2_init_18 rfl ?_
  rintro F18 A18 ⟨e118, e218⟩
  obtain rfl := e118.symm
  obtain rfl := e218.symm
  refine x_aload_n (pc2 := 22) hC rfl rfl dX2_init_21 rfl ?_
  refine x_cSR (n := 2) (pc2 := 25) (N2 := 348) (nc2 := 52) (ns2 := 1620) hC hK hz rfl (k_four l (a := 303) (n := 4) (sg := 298) (sw := 296) rfl (h6.eqv (Eqv.m (o := 295) (n := 0) (by omega)))) lk_325 rfl ⟨Nat.le_of_ble_eq_true rfl, Nat.le_of_ble_eq_true rfl⟩ rfl rfl rfl ⟨Nat.le_of_ble_eq_true rfl, Nat.le_of_ble_eq_true rfl⟩ rfl (Nat.le_of_ble_eq_true rfl) dX2_init_22 rfl ?_
  rintro F22 A22 ⟨e122, e222⟩
  obtain rfl := e122.symm
  obtain rfl := e222.symm
  refine xp_ref (pc2 := 28) (ci := 2) (j := 0) hC hK (by decide) (by decide) wt_326 rfl rfl rfl hnm rfl (by decide) h1 (Or.inr ⟨_, rfl⟩) dX2_init_25 rfl ?_
  refine x_toR (R2 := mR R 295 1) (mR_put (n := 0) (congrFun h2 0) (by decide) (fun i h1 h2 => by omega)) ?_
  refine x_aload_n (pc2 := 29) hC rfl rfl dX2_init_28 rfl ?_
  refine x_new (pc2 := 32) (N2 := 349) (nc2 := 53) (ns2 := 1623) (ci := 1) hC hK hz rfl (by decide) rfl wt_323 wt_151 wt_72 g348.1 (fun j _ => (g348.2.2.1 j).trans (dF0 (by decide)).symm) rfl rfl rfl (Nat.le_of_ble_eq_true rfl) (Nat.le_of_ble_eq_true rfl) dX2_init_29 rfl ?_
  refine x_dupR (pc2 := 33) hC dX2_init_32 rfl ?_
  refine x_aload_n (pc2 := 34) hC rfl rfl dX2_init_33 rfl ?_
  refine x_cI (n := 1) (pc2 := 37) (N2 := 353) (nc2 := 57) (ns2 := 1789) hC hK hz rfl (k_gauss l (g := 348) (sp := 296) (g348.eqv (Eqv.m (o := 295) (n := 1) (by omega)))) ⟨Or.inl wt_324, wt_153, wt_72, wt_154, rfl, by decide +kernel, by decide +kernel, by decide +kernel⟩ rfl ⟨Nat.le_of_ble_eq_true rfl, Nat.le_of_ble_eq_true rfl⟩ rfl rfl rfl ⟨Nat.le_of_ble_eq_true rfl, Nat.le_of_ble_eq_true rfl⟩ rfl (Nat.le_of_ble_eq_true rfl) dX2_init_34 rfl ?_
  rintro F34 A34 ⟨e134, e234⟩
  obtain rfl := e134.symm
  obtain rfl := e234.symm
  refine xp_ref (pc2 := 40) (ci := 2) (j := 1) hC hK (by decide) (by decide) wt_327 rfl rfl rfl hnm rfl (by decide) h1 (Or.inl ⟨_, rfl⟩) dX2_init_37 rfl ?_
  refine x_toR (R2 := mR R 295 2) (mR_put (n := 1) (congrFun h2 1) (by decide) (fun i h1 h2 => by omega)) ?_
  refine x_aload_n (pc2 := 41) hC rfl rfl dX2_init_40 rfl ?_
  refine x_new (pc2 := 44) (N2 := 354) (nc2 := 58) (ns2 := 1792) (ci := 1) hC hK hz rfl (by decide) rfl wt_323 wt_151 wt_72 g353.1 (fun j _ => (g353.2.2.1 j).trans (dF0 (by decide)).symm) rfl rfl rfl (Nat.le_of_ble_eq_true rfl) (Nat.le_of_ble_eq_true rfl) dX2_init_41 rfl ?_
  refine x_dupR (pc2 := 45) hC dX2_init_44 rfl ?_
  refine x_aload_n (pc2 := 46) hC rfl rfl dX2_init_45 rfl ?_
  refine x_cI (n := 1) (pc2 := 49) (N2 := 358) (nc2 := 62) (ns2 := 1958) hC hK hz rfl (k_gauss l (g := 353) (sp := 296) (g353.eqv (Eqv.m (o := 295) (n := 2) (by omega)))) ⟨Or.inl wt_324, wt_153, wt_72, wt_154, rfl, by decide +kernel, by decide +kernel, by decide +kernel⟩ rfl ⟨Nat.le_of_ble_eq_true rfl, Nat.le_of_ble_eq_true rfl⟩ rfl rfl rfl ⟨Nat.le_of_ble_eq_true rfl, Nat.le_of_ble_eq_true rfl⟩ rfl (Nat.le_of_ble_eq_true rfl) dX2_init_46 rfl ?_
  rintro F46 A46 ⟨e146, e246⟩
  obtain rfl := e146.symm
  obtain rfl := e246.symm
  refine xp_ref (pc2 := 52) (ci := 2) (j := 2) hC hK (by decide) (by decide) wt_328 rfl rfl rfl hnm rfl (by decide) h1 (Or.inl ⟨_, rfl⟩) dX2_init_49 rfl ?_
  refine x_toR (R2 := mR R 295 3) (mR_put (n := 2) (congrFun h2 2) (by decide) (fun i h1 h2 => by omega)) ?_
  refine x_aload_n (pc2 := 53) hC rfl rfl dX2_init_52 rfl ?_
  refine x_new (pc2 := 56) (N2 := 359) (nc2 := 63) (ns2 := 1961) (ci := 1) hC hK hz rfl (by decide) rfl wt_323 wt_151 wt_72 g358.1 (fun j _ => (g358.2.2.1 j).trans (dF0 (by decide)).symm) rfl rfl rfl (Nat.le_of_ble_eq_true rfl) (Nat.le_of_ble_eq_true rfl) dX2_init_53 rfl ?_
  refine x_dupR (pc2 := 57) hC dX2_init_56 rfl ?_
  refine x_aload_n (pc2 := 58) hC rfl rfl dX2_init_57 rfl ?_
  refine x_cI (n := 1) (pc2 := 61) (N2 := 363) (nc2 := 67) (ns2 := 2127) hC hK hz rfl (k_gauss l (g := 358) (sp := 296) (g358.eqv (Eqv.m (o := 295) (n := 3) (by omega)))) ⟨Or.inl wt_324, wt_153, wt_72, wt_154, rfl, by decide +kernel, by decide +kernel, by decide +kernel⟩ rfl ⟨Nat.le_of_ble_eq_true rfl, Nat.le_of_ble_eq_true rfl⟩ rfl rfl rfl ⟨Nat.le_of_ble_eq_true rfl, Nat.le_of_ble_eq_true rfl⟩ rfl (Nat.le_of_ble_eq_true rfl) dX2_init_58 rfl ?_
  rintro F58 A58 ⟨e158, e258⟩
  obtain rfl := e158.symm
  obtain rfl := e258.symm
  refine xp_ref (pc2 := 64) (ci := 2) (j := 3) hC hK (by decide) (by decide) wt_329 rfl rfl rfl hnm rfl (by decide) h1 (Or.inl ⟨_, rfl⟩) dX2_init_61 rfl ?_
  refine x_toR (R2 := mR R 295 4) (mR_put (n := 3) (congrFun h2 3) (by decide) (fun i h1 h2 => by omega)) ?_
  refine x_aload_n (pc2 := 65) hC rfl rfl dX2_init_64 rfl ?_
  refine x_new (pc2 := 68) (N2 := 364) (nc2 := 68) (ns2 := 2130) (ci := 1) hC hK hz rfl (by decide) rfl wt_323 wt_151 wt_72 g363.1 (fun j _ => (g363.2.2.1 j).trans (dF0 (by decide)).symm) rfl rfl rfl (Nat.le_of_ble_eq_true rfl) (Nat.le_of_ble_eq_true rfl) dX2_init_65 rfl ?_
  refine x_dupR (pc2 := 69) hC dX2_init_68 rfl ?_
  refine x_aload_n (pc2 := 70) hC rfl rfl dX2_init_69 rfl ?_
  refine x_cI (n := 1) (pc2 := 73) (N2 := 368) (nc2 := 72) (ns2 := 2296) hC hK hz rfl (k_gauss l (g := 363) (sp := 296) (g363.eqv (Eqv.m (o := 295) (n := 4) (by omega)))) ⟨Or.inl wt_324, wt_153, wt_72, wt_154, rfl, by decide +kernel, by decide +kernel, by decide +kernel⟩ rfl ⟨Nat.le_of_ble_eq_true rfl, Nat.le_of_ble_eq_true rfl⟩ rfl rfl rfl ⟨Nat.le_of_ble_eq_true rfl, Nat.le_of_ble_eq_true rfl⟩ rfl (Nat.le_of_ble_eq_true rfl) dX2_init_70 rfl ?_
  rintro F70 A70 ⟨e170, e270⟩
  obtain rfl := e170.symm
  obtain rfl := e270.symm
  refine xp_ref (pc2 := 76) (ci := 2) (j := 4) hC hK (by decide) (by decide) wt_330 rfl rfl rfl hnm rfl (by decide) h1 (Or.inl ⟨_, rfl⟩) dX2_init_73 rfl ?_
  refine x_toR (R2 := mR R 295 5) (mR_put (n := 4) (congrFun h2 4) (by decide) (fun i h1 h2 => by omega)) ?_
  refine x_aload_n (pc2 := 77) hC rfl rfl dX2_init_76 rfl ?_
  refine x_new (pc2 := 80) (N2 := 369) (nc2 := 73) (ns2 := 2299) (ci := 6) hC hK hz rfl (by decide) rfl wt_321 wt_131 wt_71 w368.1 (fun j _ => (w368.2.2.2.1 j).trans (dF0 (by decide)).symm) rfl rfl rfl (Nat.le_of_ble_eq_true rfl) (Nat.le_of_ble_eq_true rfl) dX2_init_77 rfl ?_
  refine x_dupR (pc2 := 81) hC dX2_init_80 rfl ?_
  refine x_cI (n := 0) (pc2 := 84) (N2 := 370) (nc2 := 74) (ns2 := 2379) hC hK hz rfl (k_whole l (w := 368) (w368.eqv (Eqv.m (o := 295) (n := 5) (by omega)))) ⟨Or.inr (fun U h => h.2.2.2.2.1), wt_133, wt_71, wt_134, rfl, by decide +kernel, by decide +kernel, by decide +kernel⟩ rfl ⟨Nat.le_of_ble_eq_true rfl, Nat.le_of_ble_eq_true rfl⟩ rfl rfl rfl ⟨Nat.le_of_ble_eq_true rfl, Nat.le_of_ble_eq_true rfl⟩ rfl (Nat.le_of_ble_eq_true rfl) dX2_init_81 rfl ?_
  rintro F81 A81 ⟨e181, e281⟩
  obtain rfl := e181.symm
  obtain rfl := e281.symm
  refine xp_ref (pc2 := 87) (ci := 2) (j := 5) hC hK (by decide) (by decide) wt_331 rfl rfl rfl hnm rfl (by decide) h1 (Or.inl ⟨_, rfl⟩) dX2_init_84 rfl ?_
  refine x_toR (R2 := mR R 295 6) (mR_put (n := 5) (congrFun h2 5) (by decide) (fun i h1 h2 => by omega)) ?_
  refine x_aload_n (pc2 := 88) hC rfl rfl dX2_init_87 rfl ?_
  refine x_new (pc2 := 91) (N2 := 371) (nc2 := 75) (ns2 := 2382) (ci := 6) hC hK hz rfl (by decide) rfl wt_321 wt_131 wt_71 w370.1 (fun j _ => (w370.2.2.2.1 j).trans (dF0 (by decide)).symm) rfl rfl rfl (Nat.le_of_ble_eq_true rfl) (Nat.le_of_ble_eq_true rfl) dX2_init_88 rfl ?_
  refine x_dupR (pc2 := 92) hC dX2_init_91 rfl ?_
  refine x_cI (n := 0) (pc2 := 95) (N2 := 372) (nc2 := 76) (ns2 := 2462) hC hK hz rfl (k_whole l (w := 370) (w370.eqv (Eqv.m (o := 295) (n := 6) (by omega)))) ⟨Or.inr (fun U h => h.2.2.2.2.1), wt_133, wt_71, wt_134, rfl, by decide +kernel, by decide +kernel, by decide +kernel⟩ rfl ⟨Nat.le_of_ble_eq_true rfl, Nat.le_of_ble_eq_true rfl⟩ rfl rfl rfl ⟨Nat.le_of_ble_eq_true rfl, Nat.le_of_ble_eq_true rfl⟩ rfl (Nat.le_of_ble_eq_true rfl) dX2_init_92 rfl ?_
  rintro F92 A92 ⟨e192, e292⟩
  obtain rfl := e192.symm
  obtain rfl := e292.symm
  refine xp_ref (pc2 := 98) (ci := 2) (j := 6) hC hK (by decide) (by decide) wt_332 rfl rfl rfl hnm rfl (by decide) h1 (Or.inl ⟨_, rfl⟩) dX2_init_95 rfl ?_
  refine x_toR (R2 := mR R 295 7) (mR_put (n := 6) (congrFun h2 6) (by decide) (fun i h1 h2 => by omega)) ?_
  refine x_aload_n (pc2 := 99) hC rfl rfl dX2_init_98 rfl ?_
  refine x_new (pc2 := 102) (N2 := 373) (nc2 := 77) (ns2 := 2465) (ci := 6) hC hK hz rfl (by decide) rfl wt_321 wt_131 wt_71 w372.1 (fun j _ => (w372.2.2.2.1 j).trans (dF0 (by decide)).symm) rfl rfl rfl (Nat.le_of_ble_eq_true rfl) (Nat.le_of_ble_eq_true rfl) dX2_init_99 rfl ?_
  refine x_dupR (pc2 := 103) hC dX2_init_102 rfl ?_
  refine x_cI (n := 0) (pc2 := 106) (N2 := 374) (nc2 := 78) (ns2 := 2545) hC hK hz rfl (k_whole l (w := 372) (w372.eqv (Eqv.m (o := 295) (n := 7) (by omega)))) ⟨Or.inr (fun U h => h.2.2.2.2.1), wt_133, wt_71, wt_134, rfl, by decide +kernel, by decide +kernel, by decide +kernel⟩ rfl ⟨Nat.le_of_ble_eq_true rfl, Nat.le_of_ble_eq_true rfl⟩ rfl rfl rfl ⟨Nat.le_of_ble_eq_true rfl, Nat.le_of_ble_eq_true rfl⟩ rfl (Nat.le_of_ble_eq_true rfl) dX2_init_103 rfl ?_
  rintro F103 A103 ⟨e1103, e2103⟩
  obtain rfl := e1103.symm
  obtain rfl := e2103.symm
  refine xp_ref (pc2 := 109) (ci := 2) (j := 7) hC hK (by decide) (by decide) wt_333 rfl rfl rfl hnm rfl (by decide) h1 (Or.inl ⟨_, rfl⟩) dX2_init_106 rfl ?_
  refine x_toR (R2 := mR R 295 8) (mR_put (n := 7) (congrFun h2 7) (by decide) (fun i h1 h2 => by omega)) ?_
  refine x_aload_n (pc2 := 110) hC rfl rfl dX2_init_109 rfl ?_
  refine x_new (pc2 := 113) (N2 := 375) (nc2 := 79) (ns2 := 2548) (ci := 6) hC hK hz rfl (by decide) rfl wt_321 wt_131 wt_71 w374.1 (fun j _ => (w374.2.2.2.1 j).trans (dF0 (by decide)).symm) rfl rfl rfl (Nat.le_of_ble_eq_true rfl) (Nat.le_of_ble_eq_true rfl) dX2_init_110 rfl ?_
  refine x_dupR (pc2 := 114) hC dX2_init_113 rfl ?_
  refine x_cI (n := 0) (pc2 := 117) (N2 := 376) (nc2 := 80) (ns2 := 2628) hC hK hz rfl (k_whole l (w := 374) (w374.eqv (Eqv.m (o := 295) (n := 8) (by omega)))) ⟨Or.inr (fun U h => h.2.2.2.2.1), wt_133, wt_71, wt_134, rfl, by decide +kernel, by decide +kernel, by decide +kernel⟩ rfl ⟨Nat.le_of_ble_eq_true rfl, Nat.le_of_ble_eq_true rfl⟩ rfl rfl rfl ⟨Nat.le_of_ble_eq_true rfl, Nat.le_of_ble_eq_true rfl⟩ rfl (Nat.le_of_ble_eq_true rfl) dX2_init_114 rfl ?_
  rintro F114 A114 ⟨e1114, e2114⟩
  obtain rfl := e1114.symm
  obtain rfl := e2114.symm
  refine xp_ref (pc2 := 120) (ci := 2) (j := 8) hC hK (by decide) (by decide) wt_334 rfl rfl rfl hnm rfl (by decide) h1 (Or.inl ⟨_, rfl⟩) dX2_init_117 rfl ?_
  refine x_toR (R2 := mR R 295 9) (mR_put (n := 8) (congrFun h2 8) (by decide) (fun i h1 h2 => by omega)) ?_
  refine x_aload_n (pc2 := 121) hC rfl rfl dX2_init_120 rfl ?_
  refine x_new (pc2 := 124) (N2 := 377) (nc2 := 81) (ns2 := 2631) (ci := 6) hC hK hz rfl (by decide) rfl wt_321 wt_131 wt_71 w376.1 (fun j _ => (w376.2.2.2.1 j).trans (dF0 (by decide)).symm) rfl rfl rfl (Nat.le_of_ble_eq_true rfl) (Nat.le_of_ble_eq_true rfl) dX2_init_121 rfl ?_
  refine x_dupR (pc2 := 125) hC dX2_init_124 rfl ?_
  refine x_cI (n := 0) (pc2 := 128) (N2 := 378) (nc2 := 82) (ns2 := 2711) hC hK hz rfl (k_whole l (w := 376) (w376.eqv (Eqv.m (o := 295) (n := 9) (by omega)))) ⟨Or.inr (fun U h => h.2.2.2.2.1), wt_133, wt_71, wt_134, rfl, by decide +kernel, by decide +kernel, by decide +kernel⟩ rfl ⟨Nat.le_of_ble_eq_true rfl, Nat.le_of_ble_eq_true rfl⟩ rfl rfl rfl ⟨Nat.le_of_ble_eq_true rfl, Nat.le_of_ble_eq_true rfl⟩ rfl (Nat.le_of_ble_eq_true rfl) dX2_init_125 rfl ?_
  rintro F125 A125 ⟨e1125, e2125⟩
  obtain rfl := e1125.symm
  obtain rfl := e2125.symm
  refine xp_ref (pc2 := 131) (ci := 2) (j := 9) hC hK (by decide) (by decide) wt_335 rfl rfl rfl hnm rfl (by decide) h1 (Or.inl ⟨_, rfl⟩) dX2_init_128 rfl ?_
  refine x_toR (R2 := mR R 295 10) (mR_put (n := 9) (congrFun h2 9) (by decide) (fun i h1 h2 => by omega)) ?_
  refine x_aload_n (pc2 := 132) hC rfl rfl dX2_init_131 rfl ?_
  refine x_new (pc2 := 135) (N2 := 379) (nc2 := 83) (ns2 := 2714) (ci := 6) hC hK hz rfl (by decide) rfl wt_321 wt_131 wt_71 w378.1 (fun j _ => (w378.2.2.2.1 j).trans (dF0 (by decide)).symm) rfl rfl rfl (Nat.le_of_ble_eq_true rfl) (Nat.le_of_ble_eq_true rfl) dX2_init_132 rfl ?_
  refine x_dupR (pc2 := 136) hC dX2_init_135 rfl ?_
  refine x_cI (n := 0) (pc2 := 139) (N2 := 380) (nc2 := 84) (ns2 := 2794) hC hK hz rfl (k_whole l (w := 378) (w378.eqv (Eqv.m (o := 295) (n := 10) (by omega)))) ⟨Or.inr (fun U h => h.2.2.2.2.1), wt_133, wt_71, wt_134, rfl, by decide +kernel, by decide +kernel, by decide +kernel⟩ rfl ⟨Nat.le_of_ble_eq_true rfl, Nat.le_of_ble_eq_true rfl⟩ rfl rfl rfl ⟨Nat.le_of_ble_eq_true rfl, Nat.le_of_ble_eq_true rfl⟩ rfl (Nat.le_of_ble_eq_true rfl) dX2_init_136 rfl ?_
  rintro F136 A136 ⟨e1136, e2136⟩
  obtain rfl := e1136.symm
  obtain rfl := e2136.symm
  refine xp_ref (pc2 := 142) (ci := 2) (j := 10) hC hK (by decide) (by decide) wt_336 rfl rfl rfl hnm rfl (by decide) h1 (Or.inl ⟨_, rfl⟩) dX2_init_139 rfl ?_
  refine x_toR (R2 := mR R 295 11) (mR_put (n := 10) (congrFun h2 10) (by decide) (fun i h1 h2 => by omega)) ?_
  refine x_aload_n (pc2 := 143) hC rfl rfl dX2_init_142 rfl ?_
  refine x_new (pc2 := 146) (N2 := 381) (nc2 := 85) (ns2 := 2797) (ci := 6) hC hK hz rfl (by decide) rfl wt_321 wt_131 wt_71 w380.1 (fun j _ => (w380.2.2.2.1 j).trans (dF0 (by decide)).symm) rfl rfl rfl (Nat.le_of_ble_eq_true rfl) (Nat.le_of_ble_eq_true rfl) dX2_init_143 rfl ?_
  refine x_dupR (pc2 := 147) hC dX2_init_146 rfl ?_
  refine x_cI (n := 0) (pc2 := 150) (N2 := 382) (nc2 := 86) (ns2 := 2877) hC hK hz rfl (k_whole l (w := 380) (w380.eqv (Eqv.m (o := 295) (n := 11) (by omega)))) ⟨Or.inr (fun U h => h.2.2.2.2.1), wt_133, wt_71, wt_134, rfl, by decide +kernel, by decide +kernel, by decide +kernel⟩ rfl ⟨Nat.le_of_ble_eq_true rfl, Nat.le_of_ble_eq_true rfl⟩ rfl rfl rfl ⟨Nat.le_of_ble_eq_true rfl, Nat.le_of_ble_eq_true rfl⟩ rfl (Nat.le_of_ble_eq_true rfl) dX2_init_147 rfl ?_
  rintro F147 A147 ⟨e1147, e2147⟩
  obtain rfl := e1147.symm
  obtain rfl := e2147.symm
  refine xp_ref (pc2 := 153) (ci := 2) (j := 11) hC hK (by decide) (by decide) wt_337 rfl rfl rfl hnm rfl (by decide) h1 (Or.inl ⟨_, rfl⟩) dX2_init_150 rfl ?_
  refine x_toR (R2 := mR R 295 12) (mR_put (n := 11) (congrFun h2 11) (by decide) (fun i h1 h2 => by omega)) ?_
  refine x_aload_n (pc2 := 154) hC rfl rfl dX2_init_153 rfl ?_
  refine x_new (pc2 := 157) (N2 := 383) (nc2 := 87) (ns2 := 2880) (ci := 6) hC hK hz rfl (by decide) rfl wt_321 wt_131 wt_71 w382.1 (fun j _ => (w382.2.2.2.1 j).trans (dF0 (by decide)).symm) rfl rfl rfl (Nat.le_of_ble_eq_true rfl) (Nat.le_of_ble_eq_true rfl) dX2_init_154 rfl ?_
  refine x_dupR (pc2 := 158) hC dX2_init_157 rfl ?_
  refine x_cI (n := 0) (pc2 := 161) (N2 := 384) (nc2 := 88) (ns2 := 2960) hC hK hz rfl (k_whole l (w := 382) (w382.eqv (Eqv.m (o := 295) (n := 12) (by omega)))) ⟨Or.inr (fun U h => h.2.2.2.2.1), wt_133, wt_71, wt_134, rfl, by decide +kernel, by decide +kernel, by decide +kernel⟩ rfl ⟨Nat.le_of_ble_eq_true rfl, Nat.le_of_ble_eq_true rfl⟩ rfl rfl rfl ⟨Nat.le_of_ble_eq_true rfl, Nat.le_of_ble_eq_true rfl⟩ rfl (Nat.le_of_ble_eq_true rfl) dX2_init_158 rfl ?_
  rintro F158 A158 ⟨e1158, e2158⟩
  obtain rfl := e1158.symm
  obtain rfl := e2158.symm
  refine xp_ref (pc2 := 164) (ci := 2) (j := 12) hC hK (by decide) (by decide) wt_338 rfl rfl rfl hnm rfl (by decide) h1 (Or.inl ⟨_, rfl⟩) dX2_init_161 rfl ?_
  refine x_toR (R2 := mR R 295 13) (mR_put (n := 12) (congrFun h2 12) (by decide) (fun i h1 h2 => by omega)) ?_
  refine x_aload_n (pc2 := 165) hC rfl rfl dX2_init_164 rfl ?_
  refine x_new (pc2 := 168) (N2 := 385) (nc2 := 89) (ns2 := 2963) (ci := 6) hC hK hz rfl (by decide) rfl wt_321 wt_131 wt_71 w384.1 (fun j _ => (w384.2.2.2.1 j).trans (dF0 (by decide)).symm) rfl rfl rfl (Nat.le_of_ble_eq_true rfl) (Nat.le_of_ble_eq_true rfl) dX2_init_165 rfl ?_
  refine x_dupR (pc2 := 169) hC dX2_init_168 rfl ?_
  refine x_cI (n := 0) (pc2 := 172) (N2 := 386) (nc2 := 90) (ns2 := 3043) hC hK hz rfl (k_whole l (w := 384) (w384.eqv (Eqv.m (o := 295) (n := 13) (by omega)))) ⟨Or.inr (fun U h => h.2.2.2.2.1), wt_133, wt_71, wt_134, rfl, by decide +kernel, by decide +kernel, by decide +kernel⟩ rfl ⟨Nat.le_of_ble_eq_true rfl, Nat.le_of_ble_eq_true rfl⟩ rfl rfl rfl ⟨Nat.le_of_ble_eq_true rfl, Nat.le_of_ble_eq_true rfl⟩ rfl (Nat.le_of_ble_eq_true rfl) dX2_init_169 rfl ?_
  rintro F169 A169 ⟨e1169, e2169⟩
  obtain rfl := e1169.symm
  obtain rfl := e2169.symm
  refine xp_ref (pc2 := 175) (ci := 2) (j := 13) hC hK (by decide) (by decide) wt_339 rfl rfl rfl hnm rfl (by decide) h1 (Or.inl ⟨_, rfl⟩) dX2_init_172 rfl ?_
  refine x_toR (R2 := mR R 295 14) (mR_put (n := 13) (congrFun h2 13) (by decide) (fun i h1 h2 => by omega)) ?_
  refine x_toR (mR_done (fun j hj => (congrFun h2 j).trans (rwL_none hj))) ?_
  exact x_vretN hC hr hlk ⟨rfl, rfl, rfl⟩ dX2_init_175
