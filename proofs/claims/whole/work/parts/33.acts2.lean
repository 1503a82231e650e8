/-- the number at a place of the cells -/
def num (f : Int → Int) (i : Int) : QR := ((tri f i, tri f (i + 3)), cre (tri f (i + 6)))
def ldG (G : Nat → QR) (base : Nat) (n : Nat → QR) : Nat → Nat → QR
  | 0 => G
  | k + 1 => upG (ldG G base n k) (base + 11 * k) (n k)
/-- where an entry lies that is loaded, turned or not -/
def ldn (f : Int → Int) (box tone tn : Int) (k : Nat) : QR := num f (box * 144 + tone * 36 + (if tn = 0 then (k : Int) else 3 - k) * 9)
def CK (f : Int → Int) : Prop := ∀ n : Int, 0 ≤ n → n < 768 → triOK f (3 * n)
theorem CK.at {f : Int → Int} (h : CK f) {b t e : Int} (hb : 0 ≤ b ∧ b < 16) (ht : 0 ≤ t ∧ t < 4) (he : 0 ≤ e ∧ e < 4) : triOK f (b * 144 + t * 36 + e * 9) ∧ triOK f (b * 144 + t * 36 + e * 9 + 3) ∧ triOK f (b * 144 + t * 36 + e * 9 + 6) := by
  have h0 := h (b * 48 + t * 12 + e * 3) (by omega) (by omega)
  have h1 := h (b * 48 + t * 12 + e * 3 + 1) (by omega) (by omega)
  have h2 := h (b * 48 + t * 12 + e * 3 + 2) (by omega) (by omega)
  rw [show 3 * (b * 48 + t * 12 + e * 3) = b * 144 + t * 36 + e * 9 by omega] at h0
  rw [show 3 * (b * 48 + t * 12 + e * 3 + 1) = b * 144 + t * 36 + e * 9 + 3 by omega] at h1
  rw [show 3 * (b * 48 + t * 12 + e * 3 + 2) = b * 144 + t * 36 + e * 9 + 6 by omega] at h2
  exact ⟨h0, h1, h2⟩
theorem dX0_foundBig_0 : decode cX0_foundBig 0 = .ok (.aload_n 0, 1) := by decide +kernel
theorem dX0_foundBig_1 : decode cX0_foundBig 1 = .ok (.getfield 34, 3) := by decide +kernel
theorem dX0_foundBig_4 : decode cX0_foundBig 4 = .ok (.getfield 101, 3) := by decide +kernel
theorem dX0_foundBig_7 : decode cX0_foundBig 7 = .ok (.ireturn, 1) := by decide +kernel
set_option maxHeartbeats 4000000 in
theorem m_foundBig (l : Launch) {D : va_G} {ids : Nat → ClassId} {β : Nat} {sh : Nat → Nat × Nat} {N : Nat} {R : Nat → Nat → Option Nat} {F : Nat → Nat → Int} {A : Nat → Int → Int} (hA : AcL sh R N) (hb : F 15 7 = 0 ∨ F 15 7 = 1) : MetX l yX0_foundBig cX0_foundBig 1 (some (.boolean)) 0 0 D ids β sh N R F A [rf 7] (pIr (sameI F A (F 15 7))) := by
  refine MetX.of (loc := [_]) (plainFor_of_name (by decide +kernel)) (Nat.le_of_ble_eq_true rfl) rfl ?_
  intro p e s m args below meth c hC hK hr hlk
  obtain ⟨hL, hW, ⟨a1, a2⟩, ⟨f0, f1, f2, f3, f4, f5, f6, f7, f8, f9, f10⟩, ⟨f11, f12, f13, f14, f15⟩, ⟨⟨b1, b2⟩, ⟨b3, b4⟩, b5, b6⟩, hR, hsg⟩ := id hA
  obtain ⟨⟨j1, j2⟩, ⟨r0, r1, r2, r3, r4⟩, ⟨j3, j4⟩, ⟨j5, j6⟩, -⟩ := id hL
  have j15 := hW.1.1
  have j16 := hW.1.2.1
  refine x_aload_n (pc2 := 1) hC rfl rfl dX0_foundBig_0 rfl ?_
  refine g_267 (pc2 := 4) hC hK (by assumption) (by assumption) (by assumption) dX0_foundBig_1 rfl ?_
  refine g_192 (pc2 := 7) hC hK (by assumption) (by assumption) dX0_foundBig_4 rfl ?_
  exact x_zret hC hb hr hlk ⟨_, rfl, rfl, rfl, rfl⟩ dX0_foundBig_7
theorem dX0_start_0 : decode cX0_start 0 = .ok (.aload_n 0, 1) := by decide +kernel
theorem dX0_start_1 : decode cX0_start 1 = .ok (.getfield 34, 3) := by decide +kernel
theorem dX0_start_4 : decode cX0_start 4 = .ok (.iconst 0, 1) := by decide +kernel
theorem dX0_start_5 : decode cX0_start 5 = .ok (.putfield 101, 3) := by decide +kernel
theorem dX0_start_8 : decode cX0_start 8 = .ok (.aload_n 0, 1) := by decide +kernel
theorem dX0_start_9 : decode cX0_start 9 = .ok (.getfield 17, 3) := by decide +kernel
theorem dX0_start_12 : decode cX0_start 12 = .ok (.iload_n 1, 1) := by decide +kernel
theorem dX0_start_13 : decode cX0_start 13 = .ok (.invokevirtual 105, 3) := by decide +kernel
theorem dX0_start_16 : decode cX0_start 16 = .ok (.return_, 1) := by decide +kernel
set_option maxHeartbeats 4000000 in
theorem m_start (l : Launch) {D : va_G} {ids : Nat → ClassId} {β : Nat} {sh : Nat → Nat × Nat} {N : Nat} {R : Nat → Nat → Option Nat} {F : Nat → Nat → Int} {A : Nat → Int → Int} (hA : AcL sh R N) (hI : ShI F A) {b : Int} (hb : 0 ≤ b ∧ b < 16) : MetX l yX0_start cX0_start 2 none 2 47 D ids β sh N R F A [rf 7, pI b] (pVr (fun F2 A2 => F2 = uF F 15 7 0 ∧ A2 = cpA A 2 (b * 144) 3 0 144)) := by
  refine MetX.of (loc := [_, _]) (plainFor_of_name (by decide +kernel)) (Nat.le_of_ble_eq_true rfl) rfl ?_
  intro p e s m args below meth c hC hK hr hlk
  obtain ⟨hL, hW, ⟨a1, a2⟩, ⟨f0, f1, f2, f3, f4, f5, f6, f7, f8, f9, f10⟩, ⟨f11, f12, f13, f14, f15⟩, ⟨⟨b1, b2⟩, ⟨b3, b4⟩, b5, b6⟩, hR, hsg⟩ := id hA
  obtain ⟨⟨j1, j2⟩, ⟨r0, r1, r2, r3, r4⟩, ⟨j3, j4⟩, ⟨j5, j6⟩, -⟩ := id hL
  have j15 := hW.1.1
  have j16 := hW.1.2.1
  refine x_aload_n (pc2 := 1) hC rfl rfl dX0_start_0 rfl ?_
  refine g_267 (pc2 := 4) hC hK (by assumption) (by assumption) (by assumption) dX0_start_1 rfl ?_
  refine x_iconst (pc2 := 5) hC dX0_start_4 rfl ?_
  refine p_192 (pc2 := 8) hC hK (by assumption) (by assumption) (by omega) dX0_start_5 rfl ?_
  refine x_aload_n (pc2 := 9) hC rfl rfl dX0_start_8 rfl ?_
  refine g_266 (pc2 := 12) hC hK (by assumption) (by assumption) (by assumption) dX0_start_9 rfl ?_
  refine x_iload_n (pc2 := 13) hC rfl rfl dX0_start_12 rfl ?_
  refine x_cVv (pc2 := 16) (ci := 5) hC hK (m_startDraft l hL (show ShI (uF F 15 7 0) A from ⟨by rw [uF_ne (by decide)]; exact hI.1, by rw [uF_ne (by decide)]; exact hI.2.1, by rw [uF_ne (by decide)]; exact hI.2.2.1, hI.2.2.2⟩) hb) lk_468 rfl rfl (by decide) (by assumption) (by assumption) ⟨Nat.le_of_ble_eq_true rfl, Nat.le_of_ble_eq_true rfl⟩ ⟨Nat.le_refl _, Nat.le_refl _⟩ rfl (Nat.le_of_ble_eq_true rfl) dX0_start_13 rfl ?_
  rintro F1 A1 ⟨rfl, rfl⟩
  exact x_vret hC hr hlk ⟨rfl, rfl, rfl⟩ dX0_start_16
theorem dX0_loadBox_0 : decode cX0_loadBox 0 = .ok (.iconst 0, 1) := by decide +kernel
theorem dX0_loadBox_1 : decode cX0_loadBox 1 = .ok (.istore 5, 2) := by decide +kernel
theorem dX0_loadBox_3 : decode cX0_loadBox 3 = .ok (.iload 5, 2) := by decide +kernel
theorem dX0_loadBox_5 : decode cX0_loadBox 5 = .ok (.iconst 4, 1) := by decide +kernel
theorem dX0_loadBox_6 : decode cX0_loadBox 6 = .ok (.if_icmp .ge 46, 3) := by decide +kernel
theorem dX0_loadBox_9 : decode cX0_loadBox 9 = .ok (.iload 4, 2) := by decide +kernel
theorem dX0_loadBox_11 : decode cX0_loadBox 11 = .ok (.ifCond .eq 10, 3) := by decide +kernel
theorem dX0_loadBox_14 : decode cX0_loadBox 14 = .ok (.iconst 3, 1) := by decide +kernel
theorem dX0_loadBox_15 : decode cX0_loadBox 15 = .ok (.iload 5, 2) := by decide +kernel
theorem dX0_loadBox_17 : decode cX0_loadBox 17 = .ok (.isub, 1) := by decide +kernel
theorem dX0_loadBox_18 : decode cX0_loadBox 18 = .ok (.goto 5, 3) := by decide +kernel
theorem dX0_loadBox_21 : decode cX0_loadBox 21 = .ok (.iload 5, 2) := by decide +kernel
theorem dX0_loadBox_23 : decode cX0_loadBox 23 = .ok (.istore 6, 2) := by decide +kernel
theorem dX0_loadBox_25 : decode cX0_loadBox 25 = .ok (.aload_n 1, 1) := by decide +kernel
theorem dX0_loadBox_26 : decode cX0_loadBox 26 = .ok (.iload 5, 2) := by decide +kernel
theorem dX0_loadBox_28 : decode cX0_loadBox 28 = .ok (.aaload, 1) := by decide +kernel
theorem dX0_loadBox_29 : decode cX0_loadBox 29 = .ok (.aload_n 0, 1) := by decide +kernel
theorem dX0_loadBox_30 : decode cX0_loadBox 30 = .ok (.getfield 17, 3) := by decide +kernel
theorem dX0_loadBox_33 : decode cX0_loadBox 33 = .ok (.getfield 109, 3) := by decide +kernel
theorem dX0_loadBox_36 : decode cX0_loadBox 36 = .ok (.iload_n 2, 1) := by decide +kernel
theorem dX0_loadBox_37 : decode cX0_loadBox 37 = .ok (.iload_n 3, 1) := by decide +kernel
theorem dX0_loadBox_38 : decode cX0_loadBox 38 = .ok (.iload 6, 2) := by decide +kernel
theorem dX0_loadBox_40 : decode cX0_loadBox 40 = .ok (.invokestatic 112, 3) := by decide +kernel
theorem dX0_loadBox_43 : decode cX0_loadBox 43 = .ok (.invokevirtual 116, 3) := by decide +kernel
theorem dX0_loadBox_46 : decode cX0_loadBox 46 = .ok (.iinc 5 1, 3) := by decide +kernel
theorem dX0_loadBox_49 : decode cX0_loadBox 49 = .ok (.goto (-46), 3) := by decide +kernel
theorem dX0_loadBox_52 : decode cX0_loadBox 52 = .ok (.return_, 1) := by decide +kernel
set_option maxHeartbeats 4000000 in
theorem m_loadBox (l : Launch) {D : va_G} {ids : Nat → ClassId} {β : Nat} {sh : Nat → Nat × Nat} {N : Nat} {R : Nat → Nat → Option Nat} {F : Nat → Nat → Int} {A : Nat → Int → Int} {V : Nat → Int} {G : Nat → QR} {into base : Nat} {box tone tn : Int} (hA : AcL sh R N) (hS : ST sh R N F A V) (hG : RV V G) (hin : (into = 31 ∧ base = 32) ∨ (into = 76 ∧ base = 77)) (hT : CK (A 2)) (hbx : 0 ≤ box ∧ box < 16) (ht : 0 ≤ tone ∧ tone < 4) (htn : tn = 0 ∨ tn = 1) : MetX l yX0_loadBox cX0_loadBox 7 none 3 70 D ids β sh N R F A [rf 7, rf into, pI box, pI tone, pI tn] (pVr (AQ sh R N F A V (ldG G base (ldn (A 2) box tone tn) 4))) := by
  refine MetX.of (loc := [_, _, _, _, _, _, _]) (plainFor_of_name (by decide +kernel)) (Nat.le_of_ble_eq_true rfl) rfl ?_
  intro p e s m args below meth c hC hK hr hlk
  obtain ⟨hL, hW, ⟨a1, a2⟩, ⟨f0, f1, f2, f3, f4, f5, f6, f7, f8, f9, f10⟩, ⟨f11, f12, f13, f14, f15⟩, ⟨⟨b1, b2⟩, ⟨b3, b4⟩, b5, b6⟩, hR, hsg⟩ := id hA
  obtain ⟨⟨j1, j2⟩, ⟨r0, r1, r2, r3, r4⟩, ⟨j3, j4⟩, ⟨j5, j6⟩, -⟩ := id hL
  have j15 := hW.1.1
  have j16 := hW.1.2.1
  have hm : ∀ k, k < 4 → base + 11 * k ∈ RatL := by
    intro k hk
    have : k = 0 ∨ k = 1 ∨ k = 2 ∨ k = 3 := by omega
    rcases hin with ⟨-, rfl⟩ | ⟨-, rfl⟩ <;> rcases this with rfl | rfl | rfl | rfl <;> decide
  have hRi : ∀ k, k < 4 → R into k = some (base + 11 * k) := by
    rcases hin with ⟨rfl, rfl⟩ | ⟨rfl, rfl⟩
    · exact b5
    · exact b6
  have hi2 : into < N ∧ sh into = (0 + 3, 4) := by
    rcases hin with ⟨rfl, rfl⟩ | ⟨rfl, rfl⟩
    · exact ⟨b1, b2⟩
    · exact ⟨b3, b4⟩
  obtain ⟨hi3, hi4⟩ := hi2
  have hrN : ∀ k, k < 4 → base + 11 * k < N ∧ sh (base + 11 * k) = (0, 4) := fun k hk => ⟨(hR _ (hm k hk)).1, (hR _ (hm k hk)).2.1⟩
  have n2 : sh 2 ≠ (1, 80) := by rw [j4]; decide
  have loop : ∀ (d k : Nat) (F1 : Nat → Nat → Int) (A1 : Nat → Int → Int) {e6 : Option PV}, 4 - k < d → k ≤ 4 → AQ sh R N F A V (ldG G base (ldn (A 2) box tone tn) k) F1 A1 → X p l e { frames := 3, cells := 0, slots := 0, locals := 70 } s m args below meth c (MQ below (QX D ids β sh N R (pVr (AQ sh R N F A V (ldG G base (ldn (A 2) box tone tn) 4)))) args s 0 0 (inG β N)) (inG β N) D ids β sh 7 0 0 N R F1 A1 [some (rf 7), some (rf into), some (pI box), some (pI tone), some (pI tn), some (pI (k : Int)), e6] [] 3 := by
    intro d
    induction d with
    | zero => intro k F1 A1 e6 hd; omega
    | succ d ih =>
      intro k F1 A1 e6 hd hk4 hq1
      obtain ⟨V1, ⟨S1, g1⟩, G1, w1⟩ := id hq1
      have eA : A1 2 = A 2 := g1.2 2 n2
      refine x_iload (pc2 := 5) hC rfl dX0_loadBox_3 rfl ?_
      refine x_iconst (pc2 := 6) hC dX0_loadBox_5 rfl ?_
      refine x_icmp_ge (tgt := 52) (pc2 := 9) hC (by omega) (by omega) dX0_loadBox_6 rfl rfl (fun h_6 => ?_) (fun h_6 => ?_)
      · exact x_vret hC hr hlk ⟨rfl, (show k = 4 by omega) ▸ hq1⟩ dX0_loadBox_52
      · have hk : k < 4 := by omega
        obtain ⟨rn1, rn2⟩ := hrN k hk
        refine x_iload (pc2 := 11) hC rfl dX0_loadBox_9 rfl ?_
        refine x_if_eq (tgt := 21) (pc2 := 14) hC (by omega) dX0_loadBox_11 rfl rfl (fun h_11 => ?_) (fun h_11 => ?_)
        · refine x_iload (pc2 := 23) hC rfl dX0_loadBox_21 rfl ?_
          refine x_istore (pc2 := 25) (loc2 := [_, _, _, _, _, _, _]) hC (by decide) rfl dX0_loadBox_23 rfl ?_
          refine x_aload_n (pc2 := 26) hC rfl rfl dX0_loadBox_25 rfl ?_
          refine x_iload (pc2 := 28) hC rfl dX0_loadBox_26 rfl ?_
          refine x_aald (pc2 := 29) hC hK hi3 hi4 (by omega) (by decide) (hRi k hk) dX0_loadBox_28 rfl ?_
          refine x_aload_n (pc2 := 30) hC rfl rfl dX0_loadBox_29 rfl ?_
          refine g_266 (pc2 := 33) hC hK (by assumption) (by assumption) (by assumption) dX0_loadBox_30 rfl ?_
          refine g_94 (pc2 := 36) hC hK (by assumption) (by assumption) (by assumption) dX0_loadBox_33 rfl ?_
          refine x_iload_n (pc2 := 37) hC rfl rfl dX0_loadBox_36 rfl ?_
          refine x_iload_n (pc2 := 38) hC rfl rfl dX0_loadBox_37 rfl ?_
          refine x_iload (pc2 := 40) hC rfl dX0_loadBox_38 rfl ?_
          refine x_cNi (pc2 := 43) hC hK (m_place l) lk_477 rfl ⟨Nat.le_of_ble_eq_true rfl, Nat.le_of_ble_eq_true rfl⟩ ⟨Nat.le_refl _, Nat.le_refl _⟩ rfl (Nat.le_of_ble_eq_true rfl) dX0_loadBox_40 rfl ?_
          rintro z40 F40 A40 ⟨rfl, e140, e240⟩
          obtain rfl := e140.symm
          obtain rfl := e240.symm
          refine x_cVv (pc2 := 46) (ci := 4) hC hK (m_rload l S1 (hR _ (hm k hk)) j3 j4 (by decide) (i := box * 144 + tone * 36 + ((k : Int)) * 9) ⟨by omega, by omega⟩ (by decide) (by rw [eA]; exact (hT.at hbx ht (e := (k : Int)) ⟨by omega, by omega⟩).1) (by rw [eA]; exact (hT.at hbx ht (e := (k : Int)) ⟨by omega, by omega⟩).2.1) (by rw [eA]; exact (hT.at hbx ht (e := (k : Int)) ⟨by omega, by omega⟩).2.2)) lk_478 rfl rfl (by decide) (by assumption) (by assumption) ⟨Nat.le_of_ble_eq_true rfl, Nat.le_of_ble_eq_true rfl⟩ ⟨Nat.le_refl _, Nat.le_refl _⟩ rfl (Nat.le_of_ble_eq_true rfl) dX0_loadBox_43 rfl ?_
          rintro F2 A2 hq
          refine x_iinc (pc2 := 49) (loc2 := [_, _, _, _, _, _, _]) hC (by decide) rfl rfl dX0_loadBox_46 rfl ?_
          refine x_goto (pc2 := 3) hC dX0_loadBox_49 rfl ?_
          obtain ⟨V2, ⟨S2, g2⟩, w2, w3⟩ := RQ.toA hq G1 (hm k hk)
          refine ih (k + 1) F2 A2 (by omega) (by omega) ⟨V2, ⟨S2, g1.tr g2⟩, ?_, fun u hu => (w3 u hu).trans (w1 u hu)⟩
          intro x hx
          rw [w2 x hx]
          show upG _ _ _ x = upG _ _ _ x
          rw [eA, ldn, if_pos (by assumption)]
          rfl
        · refine x_iconst (pc2 := 15) hC dX0_loadBox_14 rfl ?_
          refine x_iload (pc2 := 17) hC rfl dX0_loadBox_15 rfl ?_
          refine x_isub (pc2 := 18) hC dX0_loadBox_17 rfl ?_
          refine x_goto (pc2 := 23) hC dX0_loadBox_18 rfl ?_
          refine x_istore (pc2 := 25) (loc2 := [_, _, _, _, _, _, _]) hC (by decide) rfl dX0_loadBox_23 rfl ?_
          refine x_aload_n (pc2 := 26) hC rfl rfl dX0_loadBox_25 rfl ?_
          refine x_iload (pc2 := 28) hC rfl dX0_loadBox_26 rfl ?_
          refine x_aald (pc2 := 29) hC hK hi3 hi4 (by omega) (by decide) (hRi k hk) dX0_loadBox_28 rfl ?_
          refine x_aload_n (pc2 := 30) hC rfl rfl dX0_loadBox_29 rfl ?_
          refine g_266 (pc2 := 33) hC hK (by assumption) (by assumption) (by assumption) dX0_loadBox_30 rfl ?_
          refine g_94 (pc2 := 36) hC hK (by assumption) (by assumption) (by assumption) dX0_loadBox_33 rfl ?_
          refine x_iload_n (pc2 := 37) hC rfl rfl dX0_loadBox_36 rfl ?_
          refine x_iload_n (pc2 := 38) hC rfl rfl dX0_loadBox_37 rfl ?_
          refine x_iload (pc2 := 40) hC rfl dX0_loadBox_38 rfl ?_
          refine x_cNi (pc2 := 43) hC hK (m_place l) lk_477 rfl ⟨Nat.le_of_ble_eq_true rfl, Nat.le_of_ble_eq_true rfl⟩ ⟨Nat.le_refl _, Nat.le_refl _⟩ rfl (Nat.le_of_ble_eq_true rfl) dX0_loadBox_40 rfl ?_
          rintro z40 F40 A40 ⟨rfl, e140, e240⟩
          obtain rfl := e140.symm
          obtain rfl := e240.symm
          refine x_cVv (pc2 := 46) (ci := 4) hC hK (m_rload l S1 (hR _ (hm k hk)) j3 j4 (by decide) (i := box * 144 + tone * 36 + (3 - (k : Int)) * 9) ⟨by omega, by omega⟩ (by decide) (by rw [eA]; exact (hT.at hbx ht (e := 3 - (k : Int)) ⟨by omega, by omega⟩).1) (by rw [eA]; exact (hT.at hbx ht (e := 3 - (k : Int)) ⟨by omega, by omega⟩).2.1) (by rw [eA]; exact (hT.at hbx ht (e := 3 - (k : Int)) ⟨by omega, by omega⟩).2.2)) lk_478 rfl rfl (by decide) (by assumption) (by assumption) ⟨Nat.le_of_ble_eq_true rfl, Nat.le_of_ble_eq_true rfl⟩ ⟨Nat.le_refl _, Nat.le_refl _⟩ rfl (Nat.le_of_ble_eq_true rfl) dX0_loadBox_43 rfl ?_
          rintro F2 A2 hq
          refine x_iinc (pc2 := 49) (loc2 := [_, _, _, _, _, _, _]) hC (by decide) rfl rfl dX0_loadBox_46 rfl ?_
          refine x_goto (pc2 := 3) hC dX0_loadBox_49 rfl ?_
          obtain ⟨V2, ⟨S2, g2⟩, w2, w3⟩ := RQ.toA hq G1 (hm k hk)
          refine ih (k + 1) F2 A2 (by omega) (by omega) ⟨V2, ⟨S2, g1.tr g2⟩, ?_, fun u hu => (w3 u hu).trans (w1 u hu)⟩
          intro x hx
          rw [w2 x hx]
          show upG _ _ _ x = upG _ _ _ x
          rw [eA, ldn, if_neg (by assumption)]
          rfl
  refine x_iconst (pc2 := 1) hC dX0_loadBox_0 rfl ?_
  refine x_istore (pc2 := 3) (loc2 := [_, _, _, _, _, _, _]) hC (by decide) rfl dX0_loadBox_1 rfl ?_
  exact loop 5 0 F A (by omega) (by omega) ⟨V, ⟨hS, FRm.rf⟩, hG, fun _ _ => rfl⟩
