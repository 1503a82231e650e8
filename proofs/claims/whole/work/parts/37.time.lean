/-- inTime: a tone's number turned by i as often as tone times n -/
def timeN (f : Int → Int) (b en n : Int) (k : Nat) : QR := (rot (num f (b * 144 + (k : Int) * 36 + en * 9)).1 ((k : Int) * n % 4).toNat, (num f (b * 144 + (k : Int) * 36 + en * 9)).2)
def timeL (a : Nat → QR) (n : Int) : List (QR × Int) := [(rmul (rsum 1 (rsum 1 (a 0) (a 1)) (rsum 1 (a 2) (a 3))) quartq, n * 36 + 0 * 9)]
theorem upG_upG {G : Nat → QR} {r : Nat} {v w : QR} : upG (upG G r v) r w = upG G r w := by
  funext x
  simp only [upG]
  split <;> rfl
theorem bd_rot {n : Nat} {x : CI} (h : bdc n x) (k : Nat) : bdc n (rot x k) := by
  induction k with
  | zero => exact h
  | succ k ih => exact ⟨bd_neg ih.2, ih.1⟩
theorem GQ.toA {sh : Nat → Nat × Nat} {R : Nat → Nat → Option Nat} {N : Nat} {F : Nat → Nat → Int} {A : Nat → Int → Int} {V : Nat → Int} {G : Nat → QR} {r : Nat} {re im : Int} {F' : Nat → Nat → Int} {A' : Nat → Int → Int} (h : GQ sh R N F A V (r + 1) 8 re im F' A') (hG : RV V G) (hr : r ∈ RatL) : AQ sh R N F A V (upG G r ((re, im), (G r).2)) F' A' := by
  obtain ⟨V', h1, h2, h3, h4⟩ := h
  have hi := rat_hi r hr
  refine RQ.toA ⟨V', h1, ?_, ?_, fun u u1 u2 u3 u4 u5 u6 u7 => h4 u u1 u2 u5⟩ hG hr
  · exact Prod.ext h2 h3
  · rw [← hG r hr]
    exact Prod.ext (h4 _ (by omega) (by omega) (by omega)) (h4 _ (by omega) (by omega) (by omega))
theorem dX0_inTime_0 : decode cX0_inTime 0 = .ok (.iconst 0, 1) := by decide +kernel
theorem dX0_inTime_1 : decode cX0_inTime 1 = .ok (.istore 4, 2) := by decide +kernel
theorem dX0_inTime_3 : decode cX0_inTime 3 = .ok (.iload 4, 2) := by decide +kernel
theorem dX0_inTime_5 : decode cX0_inTime 5 = .ok (.iconst 4, 1) := by decide +kernel
theorem dX0_inTime_6 : decode cX0_inTime 6 = .ok (.if_icmp .ge 52, 3) := by decide +kernel
theorem dX0_inTime_9 : decode cX0_inTime 9 = .ok (.aload_n 0, 1) := by decide +kernel
theorem dX0_inTime_10 : decode cX0_inTime 10 = .ok (.getfield 44, 3) := by decide +kernel
theorem dX0_inTime_13 : decode cX0_inTime 13 = .ok (.iload 4, 2) := by decide +kernel
theorem dX0_inTime_15 : decode cX0_inTime 15 = .ok (.aaload, 1) := by decide +kernel
theorem dX0_inTime_16 : decode cX0_inTime 16 = .ok (.aload_n 0, 1) := by decide +kernel
theorem dX0_inTime_17 : decode cX0_inTime 17 = .ok (.getfield 17, 3) := by decide +kernel
theorem dX0_inTime_20 : decode cX0_inTime 20 = .ok (.getfield 109, 3) := by decide +kernel
theorem dX0_inTime_23 : decode cX0_inTime 23 = .ok (.iload_n 2, 1) := by decide +kernel
theorem dX0_inTime_24 : decode cX0_inTime 24 = .ok (.iload 4, 2) := by decide +kernel
theorem dX0_inTime_26 : decode cX0_inTime 26 = .ok (.iload_n 3, 1) := by decide +kernel
theorem dX0_inTime_27 : decode cX0_inTime 27 = .ok (.invokestatic 112, 3) := by decide +kernel
theorem dX0_inTime_30 : decode cX0_inTime 30 = .ok (.invokevirtual 116, 3) := by decide +kernel
theorem dX0_inTime_33 : decode cX0_inTime 33 = .ok (.aload_n 0, 1) := by decide +kernel
theorem dX0_inTime_34 : decode cX0_inTime 34 = .ok (.getfield 44, 3) := by decide +kernel
theorem dX0_inTime_37 : decode cX0_inTime 37 = .ok (.iload 4, 2) := by decide +kernel
theorem dX0_inTime_39 : decode cX0_inTime 39 = .ok (.aaload, 1) := by decide +kernel
theorem dX0_inTime_40 : decode cX0_inTime 40 = .ok (.getfield 139, 3) := by decide +kernel
theorem dX0_inTime_43 : decode cX0_inTime 43 = .ok (.iload 4, 2) := by decide +kernel
theorem dX0_inTime_45 : decode cX0_inTime 45 = .ok (.iload_n 1, 1) := by decide +kernel
theorem dX0_inTime_46 : decode cX0_inTime 46 = .ok (.imul, 1) := by decide +kernel
theorem dX0_inTime_47 : decode cX0_inTime 47 = .ok (.iconst 4, 1) := by decide +kernel
theorem dX0_inTime_48 : decode cX0_inTime 48 = .ok (.irem, 1) := by decide +kernel
theorem dX0_inTime_49 : decode cX0_inTime 49 = .ok (.invokevirtual 168, 3) := by decide +kernel
theorem dX0_inTime_52 : decode cX0_inTime 52 = .ok (.iinc 4 1, 3) := by decide +kernel
theorem dX0_inTime_55 : decode cX0_inTime 55 = .ok (.goto (-52), 3) := by decide +kernel
theorem dX0_inTime_58 : decode cX0_inTime 58 = .ok (.aload_n 0, 1) := by decide +kernel
theorem dX0_inTime_59 : decode cX0_inTime 59 = .ok (.getfield 61, 3) := by decide +kernel
theorem dX0_inTime_62 : decode cX0_inTime 62 = .ok (.aload_n 0, 1) := by decide +kernel
theorem dX0_inTime_63 : decode cX0_inTime 63 = .ok (.getfield 44, 3) := by decide +kernel
theorem dX0_inTime_66 : decode cX0_inTime 66 = .ok (.iconst 0, 1) := by decide +kernel
theorem dX0_inTime_67 : decode cX0_inTime 67 = .ok (.aaload, 1) := by decide +kernel
theorem dX0_inTime_68 : decode cX0_inTime 68 = .ok (.aload_n 0, 1) := by decide +kernel
theorem dX0_inTime_69 : decode cX0_inTime 69 = .ok (.getfield 44, 3) := by decide +kernel
theorem dX0_inTime_72 : decode cX0_inTime 72 = .ok (.iconst 1, 1) := by decide +kernel
theorem dX0_inTime_73 : decode cX0_inTime 73 = .ok (.aaload, 1) := by decide +kernel
theorem dX0_inTime_74 : decode cX0_inTime 74 = .ok (.iconst 1, 1) := by decide +kernel
theorem dX0_inTime_75 : decode cX0_inTime 75 = .ok (.invokevirtual 128, 3) := by decide +kernel
theorem dX0_inTime_78 : decode cX0_inTime 78 = .ok (.aload_n 0, 1) := by decide +kernel
theorem dX0_inTime_79 : decode cX0_inTime 79 = .ok (.getfield 64, 3) := by decide +kernel
theorem dX0_inTime_82 : decode cX0_inTime 82 = .ok (.aload_n 0, 1) := by decide +kernel
theorem dX0_inTime_83 : decode cX0_inTime 83 = .ok (.getfield 44, 3) := by decide +kernel
theorem dX0_inTime_86 : decode cX0_inTime 86 = .ok (.iconst 2, 1) := by decide +kernel
theorem dX0_inTime_87 : decode cX0_inTime 87 = .ok (.aaload, 1) := by decide +kernel
theorem dX0_inTime_88 : decode cX0_inTime 88 = .ok (.aload_n 0, 1) := by decide +kernel
theorem dX0_inTime_89 : decode cX0_inTime 89 = .ok (.getfield 44, 3) := by decide +kernel
theorem dX0_inTime_92 : decode cX0_inTime 92 = .ok (.iconst 3, 1) := by decide +kernel
theorem dX0_inTime_93 : decode cX0_inTime 93 = .ok (.aaload, 1) := by decide +kernel
theorem dX0_inTime_94 : decode cX0_inTime 94 = .ok (.iconst 1, 1) := by decide +kernel
theorem dX0_inTime_95 : decode cX0_inTime 95 = .ok (.invokevirtual 128, 3) := by decide +kernel
theorem dX0_inTime_98 : decode cX0_inTime 98 = .ok (.aload_n 0, 1) := by decide +kernel
theorem dX0_inTime_99 : decode cX0_inTime 99 = .ok (.getfield 67, 3) := by decide +kernel
theorem dX0_inTime_102 : decode cX0_inTime 102 = .ok (.aload_n 0, 1) := by decide +kernel
theorem dX0_inTime_103 : decode cX0_inTime 103 = .ok (.getfield 61, 3) := by decide +kernel
theorem dX0_inTime_106 : decode cX0_inTime 106 = .ok (.aload_n 0, 1) := by decide +kernel
theorem dX0_inTime_107 : decode cX0_inTime 107 = .ok (.getfield 64, 3) := by decide +kernel
theorem dX0_inTime_110 : decode cX0_inTime 110 = .ok (.iconst 1, 1) := by decide +kernel
theorem dX0_inTime_111 : decode cX0_inTime 111 = .ok (.invokevirtual 128, 3) := by decide +kernel
theorem dX0_inTime_114 : decode cX0_inTime 114 = .ok (.aload_n 0, 1) := by decide +kernel
theorem dX0_inTime_115 : decode cX0_inTime 115 = .ok (.getfield 73, 3) := by decide +kernel
theorem dX0_inTime_118 : decode cX0_inTime 118 = .ok (.aload_n 0, 1) := by decide +kernel
theorem dX0_inTime_119 : decode cX0_inTime 119 = .ok (.getfield 67, 3) := by decide +kernel
theorem dX0_inTime_122 : decode cX0_inTime 122 = .ok (.aload_n 0, 1) := by decide +kernel
theorem dX0_inTime_123 : decode cX0_inTime 123 = .ok (.getfield 58, 3) := by decide +kernel
theorem dX0_inTime_126 : decode cX0_inTime 126 = .ok (.invokevirtual 124, 3) := by decide +kernel
theorem dX0_inTime_129 : decode cX0_inTime 129 = .ok (.aload_n 0, 1) := by decide +kernel
theorem dX0_inTime_130 : decode cX0_inTime 130 = .ok (.getfield 34, 3) := by decide +kernel
theorem dX0_inTime_133 : decode cX0_inTime 133 = .ok (.aload_n 0, 1) := by decide +kernel
theorem dX0_inTime_134 : decode cX0_inTime 134 = .ok (.getfield 73, 3) := by decide +kernel
theorem dX0_inTime_137 : decode cX0_inTime 137 = .ok (.getfield 139, 3) := by decide +kernel
theorem dX0_inTime_140 : decode cX0_inTime 140 = .ok (.aload_n 0, 1) := by decide +kernel
theorem dX0_inTime_141 : decode cX0_inTime 141 = .ok (.getfield 73, 3) := by decide +kernel
theorem dX0_inTime_144 : decode cX0_inTime 144 = .ok (.getfield 142, 3) := by decide +kernel
theorem dX0_inTime_147 : decode cX0_inTime 147 = .ok (.iload_n 1, 1) := by decide +kernel
theorem dX0_inTime_148 : decode cX0_inTime 148 = .ok (.iconst 0, 1) := by decide +kernel
theorem dX0_inTime_149 : decode cX0_inTime 149 = .ok (.invokevirtual 145, 3) := by decide +kernel
theorem dX0_inTime_152 : decode cX0_inTime 152 = .ok (.return_, 1) := by decide +kernel
set_option maxHeartbeats 16000000 in
theorem m_inTime (l : Launch) {D : va_G} {ids : Nat → ClassId} {β : Nat} {sh : Nat → Nat × Nat} {N : Nat} {R : Nat → Nat → Option Nat} {F : Nat → Nat → Int} {A : Nat → Int → Int} {nb : Int} (hA : AcL sh R N) (hAE : AE sh R N F A [] F A) (hT : CK (A 2)) (hnb : nb ≤ 16) (hB : ∀ b t e : Int, 0 ≤ b ∧ b < nb → 0 ≤ t ∧ t < 4 → 0 ≤ e ∧ e < 4 → OKq 25 (num (A 2) (b * 144 + t * 36 + e * 9))) {n bA en : Int} (hn : 0 ≤ n ∧ n < 4) (hba0 : 0 ≤ bA ∧ bA < nb) (hen : 0 ≤ en ∧ en < 4) : MetX l yX0_inTime cX0_inTime 5 none 6 165 D ids β sh N R F A [rf 7, pI n, pI bA, pI en] (pVr (AE sh R N F A (timeL (timeN (A 2) bA en n) n))) := by
  refine MetX.of (loc := [_, _, _, _, _]) (plainFor_of_name (by decide +kernel)) (Nat.le_of_ble_eq_true rfl) rfl ?_
  intro p e s m args below meth c hC hK hr hlk
  obtain ⟨hL, hW, ⟨a1, a2⟩, ⟨f0, f1, f2, f3, f4, f5, f6, f7, f8, f9, f10⟩, ⟨f11, f12, f13, f14, f15⟩, ⟨⟨b1, b2⟩, ⟨b3, b4⟩, b5, b6⟩, hR, hsg⟩ := id hA
  obtain ⟨⟨j1, j2⟩, ⟨r0, r1, r2, r3, r4⟩, ⟨j3, j4⟩, ⟨j5, j6⟩, -⟩ := id hL
  have j15 := hW.1.1
  have j16 := hW.1.2.1
  obtain ⟨G, g121, g132, VI, hSI, hGI, hglI, hbI, hfI, hdI⟩ := id hAE
  have n2 : sh 2 ≠ (1, 80) := by rw [j4]; decide
  have o_oneq := ok_one
  have o_quartq := ok_quart
  have rt32 : 32 < N ∧ sh 32 = (0, 4) := ⟨(hR 32 (by decide)).1, (hR 32 (by decide)).2.1⟩
  have rt43 : 43 < N ∧ sh 43 = (0, 4) := ⟨(hR 43 (by decide)).1, (hR 43 (by decide)).2.1⟩
  have rt54 : 54 < N ∧ sh 54 = (0, 4) := ⟨(hR 54 (by decide)).1, (hR 54 (by decide)).2.1⟩
  have rt65 : 65 < N ∧ sh 65 = (0, 4) := ⟨(hR 65 (by decide)).1, (hR 65 (by decide)).2.1⟩
  have rt77 : 77 < N ∧ sh 77 = (0, 4) := ⟨(hR 77 (by decide)).1, (hR 77 (by decide)).2.1⟩
  have rt88 : 88 < N ∧ sh 88 = (0, 4) := ⟨(hR 88 (by decide)).1, (hR 88 (by decide)).2.1⟩
  have rt99 : 99 < N ∧ sh 99 = (0, 4) := ⟨(hR 99 (by decide)).1, (hR 99 (by decide)).2.1⟩
  have rt110 : 110 < N ∧ sh 110 = (0, 4) := ⟨(hR 110 (by decide)).1, (hR 110 (by decide)).2.1⟩
  have rt121 : 121 < N ∧ sh 121 = (0, 4) := ⟨(hR 121 (by decide)).1, (hR 121 (by decide)).2.1⟩
  have rt132 : 132 < N ∧ sh 132 = (0, 4) := ⟨(hR 132 (by decide)).1, (hR 132 (by decide)).2.1⟩
  have rt143 : 143 < N ∧ sh 143 = (0, 4) := ⟨(hR 143 (by decide)).1, (hR 143 (by decide)).2.1⟩
  have rt154 : 154 < N ∧ sh 154 = (0, 4) := ⟨(hR 154 (by decide)).1, (hR 154 (by decide)).2.1⟩
  have rt165 : 165 < N ∧ sh 165 = (0, 4) := ⟨(hR 165 (by decide)).1, (hR 165 (by decide)).2.1⟩
  have rt176 : 176 < N ∧ sh 176 = (0, 4) := ⟨(hR 176 (by decide)).1, (hR 176 (by decide)).2.1⟩
  have rt187 : 187 < N ∧ sh 187 = (0, 4) := ⟨(hR 187 (by decide)).1, (hR 187 (by decide)).2.1⟩
  obtain ⟨rn32, rs32⟩ := rt32
  have ro32 := (hR 32 (by decide)).2.2.1
  have ru32 := (hR 32 (by decide)).2.2.2.1
  obtain ⟨rn43, rs43⟩ := rt43
  have ro43 := (hR 43 (by decide)).2.2.1
  have ru43 := (hR 43 (by decide)).2.2.2.1
  obtain ⟨rn54, rs54⟩ := rt54
  have ro54 := (hR 54 (by decide)).2.2.1
  have ru54 := (hR 54 (by decide)).2.2.2.1
  obtain ⟨rn65, rs65⟩ := rt65
  have ro65 := (hR 65 (by decide)).2.2.1
  have ru65 := (hR 65 (by decide)).2.2.2.1
  obtain ⟨rn77, rs77⟩ := rt77
  have ro77 := (hR 77 (by decide)).2.2.1
  have ru77 := (hR 77 (by decide)).2.2.2.1
  obtain ⟨rn88, rs88⟩ := rt88
  have ro88 := (hR 88 (by decide)).2.2.1
  have ru88 := (hR 88 (by decide)).2.2.2.1
  obtain ⟨rn99, rs99⟩ := rt99
  have ro99 := (hR 99 (by decide)).2.2.1
  have ru99 := (hR 99 (by decide)).2.2.2.1
  obtain ⟨rn110, rs110⟩ := rt110
  have ro110 := (hR 110 (by decide)).2.2.1
  have ru110 := (hR 110 (by decide)).2.2.2.1
  obtain ⟨rn121, rs121⟩ := rt121
  have ro121 := (hR 121 (by decide)).2.2.1
  have ru121 := (hR 121 (by decide)).2.2.2.1
  obtain ⟨rn132, rs132⟩ := rt132
  have ro132 := (hR 132 (by decide)).2.2.1
  have ru132 := (hR 132 (by decide)).2.2.2.1
  obtain ⟨rn143, rs143⟩ := rt143
  have ro143 := (hR 143 (by decide)).2.2.1
  have ru143 := (hR 143 (by decide)).2.2.2.1
  obtain ⟨rn154, rs154⟩ := rt154
  have ro154 := (hR 154 (by decide)).2.2.1
  have ru154 := (hR 154 (by decide)).2.2.2.1
  obtain ⟨rn165, rs165⟩ := rt165
  have ro165 := (hR 165 (by decide)).2.2.1
  have ru165 := (hR 165 (by decide)).2.2.2.1
  obtain ⟨rn176, rs176⟩ := rt176
  have ro176 := (hR 176 (by decide)).2.2.1
  have ru176 := (hR 176 (by decide)).2.2.2.1
  obtain ⟨rn187, rs187⟩ := rt187
  have ro187 := (hR 187 (by decide)).2.2.1
  have ru187 := (hR 187 (by decide)).2.2.2.1
  have hmm : ∀ k, k < 4 → 32 + 11 * k ∈ RatL := by
    intro k hk
    have : k = 0 ∨ k = 1 ∨ k = 2 ∨ k = 3 := by omega
    rcases this with rfl | rfl | rfl | rfl <;> decide
  have hba := up16 hba0 hnb
  have fin : ∀ (F1 : Nat → Nat → Int) (A1 : Nat → Int → Int) {e4 : Option PV}, AS sh R N F A (ldG G 32 (timeN (A 2) bA en n) 4) [] F1 A1 → X p l e { frames := 6, cells := 0, slots := 0, locals := 165 } s m args below meth c (MQ below (QX D ids β sh N R (pVr (AE sh R N F A (timeL (timeN (A 2) bA en n) n)))) args s 0 0 (inG β N)) (inG β N) D ids β sh 5 0 0 N R F1 A1 [some (rf 7), some (pI n), some (pI bA), some (pI en), e4] [] 58 := by
    intro F1 A1 e4 hq1
    obtain ⟨VL, hSL, hGL, hglL, hbL, hfL, hdL⟩ := id hq1
    obtain ⟨na, ena⟩ : ∃ x, x = timeN (A 2) bA en n := ⟨_, rfl⟩
    rw [← ena] at hGL
    have oa : ∀ k : Nat, k < 4 → OKq 25 (na k) := fun k hk => by
      rw [ena]
      have := hB bA k en hba0 ⟨by omega, by omega⟩ hen
      exact ⟨⟨bd_rot this.1.1 _, this.1.2⟩, this.2⟩
    obtain ⟨GL, eG⟩ : ∃ g, g = ldG G 32 na 4 := ⟨_, rfl⟩
    rw [← eG] at hGL
    have qL_121 : GL 121 = oneq := by rw [eG]; exact g121
    have qL_132 : GL 132 = quartq := by rw [eG]; exact g132
    obtain ⟨xa0, ea0⟩ : ∃ v, v = na 0 := ⟨_, rfl⟩
    have o_xa0 := oa 0 (by decide)
    rw [← ea0] at o_xa0
    have qL_32 : GL 32 = xa0 := by rw [eG, ea0]; rfl
    obtain ⟨xa1, ea1⟩ : ∃ v, v = na 1 := ⟨_, rfl⟩
    have o_xa1 := oa 1 (by decide)
    rw [← ea1] at o_xa1
    have qL_43 : GL 43 = xa1 := by rw [eG, ea1]; rfl
    obtain ⟨xa2, ea2⟩ : ∃ v, v = na 2 := ⟨_, rfl⟩
    have o_xa2 := oa 2 (by decide)
    rw [← ea2] at o_xa2
    have qL_54 : GL 54 = xa2 := by rw [eG, ea2]; rfl
    obtain ⟨xa3, ea3⟩ : ∃ v, v = na 3 := ⟨_, rfl⟩
    have o_xa3 := oa 3 (by decide)
    rw [← ea3] at o_xa3
    have qL_65 : GL 65 = xa3 := by rw [eG, ea3]; rfl
    clear eG
    refine x_aload_n (pc2 := 59) hC rfl rfl dX0_inTime_58 rfl ?_
    refine g_272 (pc2 := 62) hC hK (by assumption) (by assumption) (by assumption) dX0_inTime_59 rfl ?_
    refine x_aload_n (pc2 := 63) hC rfl rfl dX0_inTime_62 rfl ?_
    refine g_268 (pc2 := 66) hC hK (by assumption) (by assumption) (by assumption) dX0_inTime_63 rfl ?_
    refine x_iconst (pc2 := 67) hC dX0_inTime_66 rfl ?_
    refine x_aald (pc2 := 68) hC hK b1 b2 (by omega) (by decide) (b5 0 (by decide)) dX0_inTime_67 rfl ?_
    refine x_aload_n (pc2 := 69) hC rfl rfl dX0_inTime_68 rfl ?_
    refine g_268 (pc2 := 72) hC hK (by assumption) (by assumption) (by assumption) dX0_inTime_69 rfl ?_
    refine x_iconst (pc2 := 73) hC dX0_inTime_72 rfl ?_
    refine x_aald (pc2 := 74) hC hK b1 b2 (by omega) (by decide) (b5 1 (by decide)) dX0_inTime_73 rfl ?_
    refine x_iconst (pc2 := 75) hC dX0_inTime_74 rfl ?_
    refine x_cVv (pc2 := 78) (ci := 4) hC hK (y_sum l hA hSL hGL (r := 143) (x := 32) (y := 43) (by decide) (by decide) (by decide) (by decide) (by decide) (Or.inl rfl) qL_32 qL_43 o_xa0 o_xa1 ⟨Nat.le_of_ble_eq_true rfl, Nat.le_of_ble_eq_true rfl⟩) lk_528 rfl rfl (by decide) (by assumption) (by assumption) ⟨Nat.le_of_ble_eq_true rfl, Nat.le_of_ble_eq_true rfl⟩ ⟨Nat.le_refl _, Nat.le_refl _⟩ rfl (Nat.le_of_ble_eq_true rfl) dX0_inTime_75 rfl ?_
    rintro F75 A75 hq
    obtain ⟨V75, hS75, hG75, hgl75, hb75, hf75, hd75⟩ := AS.step hA hglL hbL hfL hdL hq
    clear hq
    obtain ⟨v75, e_v75⟩ : ∃ v, v = rsum (1) xa0 xa1 := ⟨_, rfl⟩
    have o_v75 : OKq 52 v75 := by rw [e_v75]; exact ok_sum  (Or.inl rfl) o_xa0 o_xa1 (Nat.le_of_ble_eq_true rfl)
    rw [← e_v75] at hG75
    obtain ⟨G75, eG⟩ : ∃ g, g = upG GL 143 v75 := ⟨_, rfl⟩
    rw [← eG] at hG75
    have q75_54 : G75 54 = xa2 := by rw [eG]; exact (upG_ne (by decide)).trans qL_54
    have q75_65 : G75 65 = xa3 := by rw [eG]; exact (upG_ne (by decide)).trans qL_65
    have q75_121 : G75 121 = oneq := by rw [eG]; exact (upG_ne (by decide)).trans qL_121
    have q75_132 : G75 132 = quartq := by rw [eG]; exact (upG_ne (by decide)).trans qL_132
    have q75_143 : G75 143 = v75 := by rw [eG]; exact upG_eq
    clear eG
    refine x_aload_n (pc2 := 79) hC rfl rfl dX0_inTime_78 rfl ?_
    refine g_273 (pc2 := 82) hC hK (by assumption) (by assumption) (by assumption) dX0_inTime_79 rfl ?_
    refine x_aload_n (pc2 := 83) hC rfl rfl dX0_inTime_82 rfl ?_
    refine g_268 (pc2 := 86) hC hK (by assumption) (by assumption) (by assumption) dX0_inTime_83 rfl ?_
    refine x_iconst (pc2 := 87) hC dX0_inTime_86 rfl ?_
    refine x_aald (pc2 := 88) hC hK b1 b2 (by omega) (by decide) (b5 2 (by decide)) dX0_inTime_87 rfl ?_
    refine x_aload_n (pc2 := 89) hC rfl rfl dX0_inTime_88 rfl ?_
    refine g_268 (pc2 := 92) hC hK (by assumption) (by assumption) (by assumption) dX0_inTime_89 rfl ?_
    refine x_iconst (pc2 := 93) hC dX0_inTime_92 rfl ?_
    refine x_aald (pc2 := 94) hC hK b1 b2 (by omega) (by decide) (b5 3 (by decide)) dX0_inTime_93 rfl ?_
    refine x_iconst (pc2 := 95) hC dX0_inTime_94 rfl ?_
    refine x_cVv (pc2 := 98) (ci := 4) hC hK (y_sum l hA hS75 hG75 (r := 154) (x := 54) (y := 65) (by decide) (by decide) (by decide) (by decide) (by decide) (Or.inl rfl) q75_54 q75_65 o_xa2 o_xa3 ⟨Nat.le_of_ble_eq_true rfl, Nat.le_of_ble_eq_true rfl⟩) lk_528 rfl rfl (by decide) (by assumption) (by assumption) ⟨Nat.le_of_ble_eq_true rfl, Nat.le_of_ble_eq_true rfl⟩ ⟨Nat.le_refl _, Nat.le_refl _⟩ rfl (Nat.le_of_ble_eq_true rfl) dX0_inTime_95 rfl ?_
    rintro F95 A95 hq
    obtain ⟨V95, hS95, hG95, hgl95, hb95, hf95, hd95⟩ := AS.step hA hgl75 hb75 hf75 hd75 hq
    clear hq
    obtain ⟨v95, e_v95⟩ : ∃ v, v = rsum (1) xa2 xa3 := ⟨_, rfl⟩
    have o_v95 : OKq 52 v95 := by rw [e_v95]; exact ok_sum  (Or.inl rfl) o_xa2 o_xa3 (Nat.le_of_ble_eq_true rfl)
    rw [← e_v95] at hG95
    obtain ⟨G95, eG⟩ : ∃ g, g = upG G75 154 v95 := ⟨_, rfl⟩
    rw [← eG] at hG95
    have q95_121 : G95 121 = oneq := by rw [eG]; exact (upG_ne (by decide)).trans q75_121
    have q95_132 : G95 132 = quartq := by rw [eG]; exact (upG_ne (by decide)).trans q75_132
    have q95_143 : G95 143 = v75 := by rw [eG]; exact (upG_ne (by decide)).trans q75_143
    have q95_154 : G95 154 = v95 := by rw [eG]; exact upG_eq
    clear eG
    refine x_aload_n (pc2 := 99) hC rfl rfl dX0_inTime_98 rfl ?_
    refine g_274 (pc2 := 102) hC hK (by assumption) (by assumption) (by assumption) dX0_inTime_99 rfl ?_
    refine x_aload_n (pc2 := 103) hC rfl rfl dX0_inTime_102 rfl ?_
    refine g_272 (pc2 := 106) hC hK (by assumption) (by assumption) (by assumption) dX0_inTime_103 rfl ?_
    refine x_aload_n (pc2 := 107) hC rfl rfl dX0_inTime_106 rfl ?_
    refine g_273 (pc2 := 110) hC hK (by assumption) (by assumption) (by assumption) dX0_inTime_107 rfl ?_
    refine x_iconst (pc2 := 111) hC dX0_inTime_110 rfl ?_
    refine x_cVv (pc2 := 114) (ci := 4) hC hK (y_sum l hA hS95 hG95 (r := 165) (x := 143) (y := 154) (by decide) (by decide) (by decide) (by decide) (by decide) (Or.inl rfl) q95_143 q95_154 o_v75 o_v95 ⟨Nat.le_of_ble_eq_true rfl, Nat.le_of_ble_eq_true rfl⟩) lk_528 rfl rfl (by decide) (by assumption) (by assumption) ⟨Nat.le_of_ble_eq_true rfl, Nat.le_of_ble_eq_true rfl⟩ ⟨Nat.le_refl _, Nat.le_refl _⟩ rfl (Nat.le_of_ble_eq_true rfl) dX0_inTime_111 rfl ?_
    rintro F111 A111 hq
    obtain ⟨V111, hS111, hG111, hgl111, hb111, hf111, hd111⟩ := AS.step hA hgl95 hb95 hf95 hd95 hq
    clear hq
    obtain ⟨v111, e_v111⟩ : ∃ v, v = rsum (1) v75 v95 := ⟨_, rfl⟩
    have o_v111 : OKq 106 v111 := by rw [e_v111]; exact ok_sum  (Or.inl rfl) o_v75 o_v95 (Nat.le_of_ble_eq_true rfl)
    rw [← e_v111] at hG111
    obtain ⟨G111, eG⟩ : ∃ g, g = upG G95 165 v111 := ⟨_, rfl⟩
    rw [← eG] at hG111
    have q111_121 : G111 121 = oneq := by rw [eG]; exact (upG_ne (by decide)).trans q95_121
    have q111_132 : G111 132 = quartq := by rw [eG]; exact (upG_ne (by decide)).trans q95_132
    have q111_165 : G111 165 = v111 := by rw [eG]; exact upG_eq
    clear eG
    refine x_aload_n (pc2 := 115) hC rfl rfl dX0_inTime_114 rfl ?_
    refine g_276 (pc2 := 118) hC hK (by assumption) (by assumption) (by assumption) dX0_inTime_115 rfl ?_
    refine x_aload_n (pc2 := 119) hC rfl rfl dX0_inTime_118 rfl ?_
    refine g_274 (pc2 := 122) hC hK (by assumption) (by assumption) (by assumption) dX0_inTime_119 rfl ?_
    refine x_aload_n (pc2 := 123) hC rfl rfl dX0_inTime_122 rfl ?_
    refine g_271 (pc2 := 126) hC hK (by assumption) (by assumption) (by assumption) dX0_inTime_123 rfl ?_
    refine x_cVv (pc2 := 129) (ci := 4) hC hK (y_product l hA hS111 hG111 (r := 187) (x := 165) (y := 132) (by decide) (by decide) (by decide) (by decide) (by decide) q111_165 q111_132 o_v111 o_quartq ⟨Nat.le_of_ble_eq_true rfl, Nat.le_of_ble_eq_true rfl⟩) lk_488 rfl rfl (by decide) (by assumption) (by assumption) ⟨Nat.le_of_ble_eq_true rfl, Nat.le_of_ble_eq_true rfl⟩ ⟨Nat.le_refl _, Nat.le_refl _⟩ rfl (Nat.le_of_ble_eq_true rfl) dX0_inTime_126 rfl ?_
    rintro F126 A126 hq
    obtain ⟨V126, hS126, hG126, hgl126, hb126, hf126, hd126⟩ := AS.step hA hgl111 hb111 hf111 hd111 hq
    clear hq
    obtain ⟨v126, e_v126⟩ : ∃ v, v = rmul v111 quartq := ⟨_, rfl⟩
    have o_v126 : OKq 108 v126 := by rw [e_v126]; exact ok_mul o_v111 o_quartq (Nat.le_of_ble_eq_true rfl)
    rw [← e_v126] at hG126
    obtain ⟨G126, eG⟩ : ∃ g, g = upG G111 187 v126 := ⟨_, rfl⟩
    rw [← eG] at hG126
    have q126_121 : G126 121 = oneq := by rw [eG]; exact (upG_ne (by decide)).trans q111_121
    have q126_132 : G126 132 = quartq := by rw [eG]; exact (upG_ne (by decide)).trans q111_132
    have q126_187 : G126 187 = v126 := by rw [eG]; exact upG_eq
    clear eG
    refine x_aload_n (pc2 := 130) hC rfl rfl dX0_inTime_129 rfl ?_
    refine g_267 (pc2 := 133) hC hK (by assumption) (by assumption) (by assumption) dX0_inTime_130 rfl ?_
    refine x_aload_n (pc2 := 134) hC rfl rfl dX0_inTime_133 rfl ?_
    refine g_276 (pc2 := 137) hC hK (by assumption) (by assumption) (by assumption) dX0_inTime_134 rfl ?_
    refine g_225 (pc2 := 140) hC hK (by assumption) (by assumption) (by assumption) dX0_inTime_137 rfl ?_
    refine x_aload_n (pc2 := 141) hC rfl rfl dX0_inTime_140 rfl ?_
    refine g_276 (pc2 := 144) hC hK (by assumption) (by assumption) (by assumption) dX0_inTime_141 rfl ?_
    refine g_228 (pc2 := 147) hC hK (by assumption) (by assumption) (by assumption) dX0_inTime_144 rfl ?_
    refine x_iload_n (pc2 := 148) hC rfl rfl dX0_inTime_147 rfl ?_
    refine x_iconst (pc2 := 149) hC dX0_inTime_148 rfl ?_
    refine x_cVv (pc2 := 152) (ci := 3) hC hK (y_draft hA hS126 hG126 hgl126 hb126 hf126 hd126 (r := 187) (by decide) q126_187 o_v126 ⟨Nat.le_of_ble_eq_true rfl, Nat.le_of_ble_eq_true rfl⟩ ⟨Nat.le_of_ble_eq_true rfl, Nat.le_of_ble_eq_true rfl⟩ hn ⟨by decide, by decide⟩ (by simp only [List.mem_cons, List.not_mem_nil, or_false, forall_eq_or_imp, forall_eq, false_imp_iff, implies_true] <;> omega)) lk_548 rfl rfl (by decide) (by assumption) (by assumption) ⟨Nat.le_of_ble_eq_true rfl, Nat.le_of_ble_eq_true rfl⟩ ⟨Nat.le_refl _, Nat.le_refl _⟩ rfl (Nat.le_of_ble_eq_true rfl) dX0_inTime_149 rfl ?_
    rintro F149 A149 hq
    obtain ⟨V149, hS149, hG149, hgl149, hb149, hf149, hd149⟩ := id hq
    clear hq
    have q149_121 := q126_121
    have q149_132 := q126_132
    exact x_vret hC hr hlk ⟨rfl, ⟨_, q149_121, q149_132, V149, hS149, hG149, hgl149, hb149, hf149, by
      have e : timeL (timeN (A 2) bA en n) n = [(v126, n * 36 + 0 * 9)] := by
        rw [timeL, ← ena, ← ea0, ← ea1, ← ea2, ← ea3, e_v126, e_v111, e_v95, e_v75]
      rw [e]; exact hd149⟩⟩ dX0_inTime_152
  have loop : ∀ (d k : Nat) (F1 : Nat → Nat → Int) (A1 : Nat → Int → Int), 4 - k < d → k ≤ 4 → AS sh R N F A (ldG G 32 (timeN (A 2) bA en n) k) [] F1 A1 → X p l e { frames := 6, cells := 0, slots := 0, locals := 165 } s m args below meth c (MQ below (QX D ids β sh N R (pVr (AE sh R N F A (timeL (timeN (A 2) bA en n) n)))) args s 0 0 (inG β N)) (inG β N) D ids β sh 5 0 0 N R F1 A1 [some (rf 7), some (pI n), some (pI bA), some (pI en), some (pI (k : Int))] [] 3 := by
    intro d
    induction d with
    | zero => intro k F1 A1 hd; omega
    | succ d ih =>
      intro k F1 A1 hd hk4 hq1
      obtain ⟨VA, hSA, hGA, hglA, hbA, hfA, hdA⟩ := id hq1
      have eA : A1 2 = A 2 := hfA.2 2 (by decide) n2
      refine x_iload (pc2 := 5) hC rfl dX0_inTime_3 rfl ?_
      refine x_iconst (pc2 := 6) hC dX0_inTime_5 rfl ?_
      refine x_icmp_ge (tgt := 58) (pc2 := 9) hC (by omega) (by omega) dX0_inTime_6 rfl rfl (fun h_6 => ?_) (fun h_6 => ?_)
      · exact fin F1 A1 ((show k = 4 by omega) ▸ hq1)
      · have hk : k < 4 := by omega
        have hm := hmm k hk
        have rnk := (hR _ hm).1
        have rsk := (hR _ hm).2.1
        have rok := (hR _ hm).2.2.1
        have rgN := (hR _ hm).2.2.2.2.2.1.1
        have rgS := (hR _ hm).2.2.2.2.2.1.2.1
        have hT3 := hT.at (t := (k : Int)) hba ⟨by omega, by omega⟩ hen
        have kn0 : 0 ≤ (k : Int) * n := Int.mul_nonneg (by omega) hn.1
        have kn1 : (k : Int) * n ≤ 3 * 3 := Int.mul_le_mul (by omega) (by omega) hn.1 (by omega)
        refine x_aload_n (pc2 := 10) hC rfl rfl dX0_inTime_9 rfl ?_
        refine g_268 (pc2 := 13) hC hK (by assumption) (by assumption) (by assumption) dX0_inTime_10 rfl ?_
        refine x_iload (pc2 := 15) hC rfl dX0_inTime_13 rfl ?_
        refine x_aald (pc2 := 16) hC hK b1 b2 (by omega) (by decide) (b5 k hk) dX0_inTime_15 rfl ?_
        refine x_aload_n (pc2 := 17) hC rfl rfl dX0_inTime_16 rfl ?_
        refine g_266 (pc2 := 20) hC hK (by assumption) (by assumption) (by assumption) dX0_inTime_17 rfl ?_
        refine g_94 (pc2 := 23) hC hK (by assumption) (by assumption) (by assumption) dX0_inTime_20 rfl ?_
        refine x_iload_n (pc2 := 24) hC rfl rfl dX0_inTime_23 rfl ?_
        refine x_iload (pc2 := 26) hC rfl dX0_inTime_24 rfl ?_
        refine x_iload_n (pc2 := 27) hC rfl rfl dX0_inTime_26 rfl ?_
        refine x_cNi (pc2 := 30) hC hK (m_place l) lk_477 rfl ⟨Nat.le_of_ble_eq_true rfl, Nat.le_of_ble_eq_true rfl⟩ ⟨Nat.le_refl _, Nat.le_refl _⟩ rfl (Nat.le_of_ble_eq_true rfl) dX0_inTime_27 rfl ?_
        rintro z27 F27 A27 ⟨rfl, e127, e227⟩
        obtain rfl := e127.symm
        obtain rfl := e227.symm
        refine x_cVv (pc2 := 33) (ci := 4) hC hK (m_rload l hSA (hR _ hm) j3 j4 (by decide) (i := bA * 144 + (k : Int) * 36 + en * 9) ⟨by omega, by omega⟩ (by decide) (by rw [eA]; exact hT3.1) (by rw [eA]; exact hT3.2.1) (by rw [eA]; exact hT3.2.2)) lk_478 rfl rfl (by decide) (by assumption) (by assumption) ⟨Nat.le_of_ble_eq_true rfl, Nat.le_of_ble_eq_true rfl⟩ ⟨Nat.le_refl _, Nat.le_refl _⟩ rfl (Nat.le_of_ble_eq_true rfl) dX0_inTime_30 rfl ?_
        rintro F4 A4 hq0
        have hq4 := AS.step hA hglA hbA hfA hdA (RQ.toA hq0 hGA hm)
        rw [eA] at hq4
        obtain ⟨V4, hS4, hG4, hgl4, hb4, hf4, hd4⟩ := id hq4
        obtain ⟨q, hq⟩ : ∃ q : Nat, q = ((k : Int) * n % 4).toNat := ⟨_, rfl⟩
        refine x_aload_n (pc2 := 34) hC rfl rfl dX0_inTime_33 rfl ?_
        refine g_268 (pc2 := 37) hC hK (by assumption) (by assumption) (by assumption) dX0_inTime_34 rfl ?_
        refine x_iload (pc2 := 39) hC rfl dX0_inTime_37 rfl ?_
        refine x_aald (pc2 := 40) hC hK b1 b2 (by omega) (by decide) (b5 k hk) dX0_inTime_39 rfl ?_
        refine g_225 (pc2 := 43) hC hK (by assumption) (by assumption) (by assumption) dX0_inTime_40 rfl ?_
        refine x_iload (pc2 := 45) hC rfl dX0_inTime_43 rfl ?_
        refine x_iload_n (pc2 := 46) hC rfl rfl dX0_inTime_45 rfl ?_
        refine x_imul (pc2 := 47) hC dX0_inTime_46 rfl ?_
        refine x_iconst (pc2 := 48) hC dX0_inTime_47 rfl ?_
        refine x_iremp (pc2 := 49) hC kn0 (by omega) (by omega) (by omega) dX0_inTime_48 rfl ?_
        rw [show (k : Int) * n % 4 = (q : Int) by omega]
        refine x_cVv (pc2 := 52) (ci := 1) hC hK (m_grot l hS4 (hR _ hm).2.2.2.2.2.1 hW.2.2.2.2.2.2.2.2 (q := q) (by omega)) lk_706 rfl rfl (by decide) (by assumption) (by assumption) ⟨Nat.le_of_ble_eq_true rfl, Nat.le_of_ble_eq_true rfl⟩ ⟨Nat.le_refl _, Nat.le_refl _⟩ rfl (Nat.le_of_ble_eq_true rfl) dX0_inTime_49 rfl ?_
        rintro F5 A5 hq0b
        have hq5 := AS.step hA hgl4 hb4 hf4 hd4 (GQ.toA hq0b hG4 hm)
        have hGe : upG (upG (ldG G 32 (timeN (A 2) bA en n) k) (32 + 11 * k) (num (A 2) (bA * 144 + (k : Int) * 36 + en * 9))) (32 + 11 * k) (((rot (V4 (32 + 11 * k + 1 + 1), V4 (32 + 11 * k + 1 + 3)) q).1, (rot (V4 (32 + 11 * k + 1 + 1), V4 (32 + 11 * k + 1 + 3)) q).2), (upG (ldG G 32 (timeN (A 2) bA en n) k) (32 + 11 * k) (num (A 2) (bA * 144 + (k : Int) * 36 + en * 9)) (32 + 11 * k)).2) = ldG G 32 (timeN (A 2) bA en n) (k + 1) := by
          have e1 : (V4 (32 + 11 * k + 1 + 1), V4 (32 + 11 * k + 1 + 3)) = (num (A 2) (bA * 144 + (k : Int) * 36 + en * 9)).1 := by
            have := congrArg Prod.fst (hG4 _ hm)
            rw [upG_eq] at this
            exact this
          rw [upG_upG, upG_eq, e1, hq]
          rfl
        refine x_iinc (pc2 := 55) (loc2 := [_, _, _, _, _]) hC (by decide) rfl rfl dX0_inTime_52 rfl ?_
        refine x_goto (pc2 := 3) hC dX0_inTime_55 rfl ?_
        refine ih (k + 1) F5 A5 (by omega) (by omega) ?_
        rw [← hGe]
        exact hq5
  refine x_iconst (pc2 := 1) hC dX0_inTime_0 rfl ?_
  refine x_istore (pc2 := 3) (loc2 := [_, _, _, _, _]) hC (by decide) rfl dX0_inTime_1 rfl ?_
  exact loop 5 0 F A (by omega) (by omega) ⟨VI, hSI, hGI, hglI, hbI, hfI, hdI⟩
