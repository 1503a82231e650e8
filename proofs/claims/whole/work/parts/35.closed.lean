/-- the first box and one number: closed, undone -/
def num0 (f : Int → Int) (b tone : Int) : QR := num f (b * 144 + tone * 36 + 0 * 9)
def closedL (a : Nat → QR) (k : QR) (tone : Int) : List (QR × Int) := [(rsum 1 (a 0) (rdiv (rmul (rmul (a 1) (a 2)) k) (rsum (-1) oneq (rmul (a 3) k))), tone * 36 + 0 * 9)]
def undoF (a : Nat → QR) (k : QR) : QR := rsum 1 (rmul (a 1) (a 2)) (rmul (a 3) (rsum (-1) k (a 0)))
def undoL (a : Nat → QR) (k : QR) (tone : Int) : List (QR × Int) := [(rdiv (rsum (-1) k (a 0)) (undoF a k), tone * 36 + 0 * 9)]
theorem dX0_closed_0 : decode cX0_closed 0 = .ok (.aload_n 0, 1) := by decide +kernel
theorem dX0_closed_1 : decode cX0_closed 1 = .ok (.aload_n 0, 1) := by decide +kernel
theorem dX0_closed_2 : decode cX0_closed 2 = .ok (.getfield 44, 3) := by decide +kernel
theorem dX0_closed_5 : decode cX0_closed 5 = .ok (.iload_n 2, 1) := by decide +kernel
theorem dX0_closed_6 : decode cX0_closed 6 = .ok (.iload_n 1, 1) := by decide +kernel
theorem dX0_closed_7 : decode cX0_closed 7 = .ok (.iconst 0, 1) := by decide +kernel
theorem dX0_closed_8 : decode cX0_closed 8 = .ok (.invokevirtual 120, 3) := by decide +kernel
theorem dX0_closed_11 : decode cX0_closed 11 = .ok (.aload_n 0, 1) := by decide +kernel
theorem dX0_closed_12 : decode cX0_closed 12 = .ok (.getfield 48, 3) := by decide +kernel
theorem dX0_closed_15 : decode cX0_closed 15 = .ok (.iconst 0, 1) := by decide +kernel
theorem dX0_closed_16 : decode cX0_closed 16 = .ok (.aaload, 1) := by decide +kernel
theorem dX0_closed_17 : decode cX0_closed 17 = .ok (.aload_n 0, 1) := by decide +kernel
theorem dX0_closed_18 : decode cX0_closed 18 = .ok (.getfield 17, 3) := by decide +kernel
theorem dX0_closed_21 : decode cX0_closed 21 = .ok (.getfield 109, 3) := by decide +kernel
theorem dX0_closed_24 : decode cX0_closed 24 = .ok (.iload_n 3, 1) := by decide +kernel
theorem dX0_closed_25 : decode cX0_closed 25 = .ok (.iload_n 1, 1) := by decide +kernel
theorem dX0_closed_26 : decode cX0_closed 26 = .ok (.iconst 0, 1) := by decide +kernel
theorem dX0_closed_27 : decode cX0_closed 27 = .ok (.invokestatic 112, 3) := by decide +kernel
theorem dX0_closed_30 : decode cX0_closed 30 = .ok (.invokevirtual 116, 3) := by decide +kernel
theorem dX0_closed_33 : decode cX0_closed 33 = .ok (.aload_n 0, 1) := by decide +kernel
theorem dX0_closed_34 : decode cX0_closed 34 = .ok (.getfield 70, 3) := by decide +kernel
theorem dX0_closed_37 : decode cX0_closed 37 = .ok (.aload_n 0, 1) := by decide +kernel
theorem dX0_closed_38 : decode cX0_closed 38 = .ok (.getfield 44, 3) := by decide +kernel
theorem dX0_closed_41 : decode cX0_closed 41 = .ok (.iconst 3, 1) := by decide +kernel
theorem dX0_closed_42 : decode cX0_closed 42 = .ok (.aaload, 1) := by decide +kernel
theorem dX0_closed_43 : decode cX0_closed 43 = .ok (.aload_n 0, 1) := by decide +kernel
theorem dX0_closed_44 : decode cX0_closed 44 = .ok (.getfield 48, 3) := by decide +kernel
theorem dX0_closed_47 : decode cX0_closed 47 = .ok (.iconst 0, 1) := by decide +kernel
theorem dX0_closed_48 : decode cX0_closed 48 = .ok (.aaload, 1) := by decide +kernel
theorem dX0_closed_49 : decode cX0_closed 49 = .ok (.invokevirtual 124, 3) := by decide +kernel
theorem dX0_closed_52 : decode cX0_closed 52 = .ok (.aload_n 0, 1) := by decide +kernel
theorem dX0_closed_53 : decode cX0_closed 53 = .ok (.getfield 61, 3) := by decide +kernel
theorem dX0_closed_56 : decode cX0_closed 56 = .ok (.aload_n 0, 1) := by decide +kernel
theorem dX0_closed_57 : decode cX0_closed 57 = .ok (.getfield 54, 3) := by decide +kernel
theorem dX0_closed_60 : decode cX0_closed 60 = .ok (.aload_n 0, 1) := by decide +kernel
theorem dX0_closed_61 : decode cX0_closed 61 = .ok (.getfield 70, 3) := by decide +kernel
theorem dX0_closed_64 : decode cX0_closed 64 = .ok (.iconst (-1), 1) := by decide +kernel
theorem dX0_closed_65 : decode cX0_closed 65 = .ok (.invokevirtual 128, 3) := by decide +kernel
theorem dX0_closed_68 : decode cX0_closed 68 = .ok (.aload_n 0, 1) := by decide +kernel
theorem dX0_closed_69 : decode cX0_closed 69 = .ok (.getfield 61, 3) := by decide +kernel
theorem dX0_closed_72 : decode cX0_closed 72 = .ok (.invokevirtual 132, 3) := by decide +kernel
theorem dX0_closed_75 : decode cX0_closed 75 = .ok (.ifCond .eq 5, 3) := by decide +kernel
theorem dX0_closed_78 : decode cX0_closed 78 = .ok (.iconst 1, 1) := by decide +kernel
theorem dX0_closed_79 : decode cX0_closed 79 = .ok (.ireturn, 1) := by decide +kernel
theorem dX0_closed_80 : decode cX0_closed 80 = .ok (.aload_n 0, 1) := by decide +kernel
theorem dX0_closed_81 : decode cX0_closed 81 = .ok (.getfield 70, 3) := by decide +kernel
theorem dX0_closed_84 : decode cX0_closed 84 = .ok (.aload_n 0, 1) := by decide +kernel
theorem dX0_closed_85 : decode cX0_closed 85 = .ok (.getfield 44, 3) := by decide +kernel
theorem dX0_closed_88 : decode cX0_closed 88 = .ok (.iconst 1, 1) := by decide +kernel
theorem dX0_closed_89 : decode cX0_closed 89 = .ok (.aaload, 1) := by decide +kernel
theorem dX0_closed_90 : decode cX0_closed 90 = .ok (.aload_n 0, 1) := by decide +kernel
theorem dX0_closed_91 : decode cX0_closed 91 = .ok (.getfield 44, 3) := by decide +kernel
theorem dX0_closed_94 : decode cX0_closed 94 = .ok (.iconst 2, 1) := by decide +kernel
theorem dX0_closed_95 : decode cX0_closed 95 = .ok (.aaload, 1) := by decide +kernel
theorem dX0_closed_96 : decode cX0_closed 96 = .ok (.invokevirtual 124, 3) := by decide +kernel
theorem dX0_closed_99 : decode cX0_closed 99 = .ok (.aload_n 0, 1) := by decide +kernel
theorem dX0_closed_100 : decode cX0_closed 100 = .ok (.getfield 73, 3) := by decide +kernel
theorem dX0_closed_103 : decode cX0_closed 103 = .ok (.aload_n 0, 1) := by decide +kernel
theorem dX0_closed_104 : decode cX0_closed 104 = .ok (.getfield 70, 3) := by decide +kernel
theorem dX0_closed_107 : decode cX0_closed 107 = .ok (.aload_n 0, 1) := by decide +kernel
theorem dX0_closed_108 : decode cX0_closed 108 = .ok (.getfield 48, 3) := by decide +kernel
theorem dX0_closed_111 : decode cX0_closed 111 = .ok (.iconst 0, 1) := by decide +kernel
theorem dX0_closed_112 : decode cX0_closed 112 = .ok (.aaload, 1) := by decide +kernel
theorem dX0_closed_113 : decode cX0_closed 113 = .ok (.invokevirtual 124, 3) := by decide +kernel
theorem dX0_closed_116 : decode cX0_closed 116 = .ok (.aload_n 0, 1) := by decide +kernel
theorem dX0_closed_117 : decode cX0_closed 117 = .ok (.getfield 70, 3) := by decide +kernel
theorem dX0_closed_120 : decode cX0_closed 120 = .ok (.aload_n 0, 1) := by decide +kernel
theorem dX0_closed_121 : decode cX0_closed 121 = .ok (.getfield 73, 3) := by decide +kernel
theorem dX0_closed_124 : decode cX0_closed 124 = .ok (.aload_n 0, 1) := by decide +kernel
theorem dX0_closed_125 : decode cX0_closed 125 = .ok (.getfield 61, 3) := by decide +kernel
theorem dX0_closed_128 : decode cX0_closed 128 = .ok (.invokevirtual 136, 3) := by decide +kernel
theorem dX0_closed_131 : decode cX0_closed 131 = .ok (.aload_n 0, 1) := by decide +kernel
theorem dX0_closed_132 : decode cX0_closed 132 = .ok (.getfield 73, 3) := by decide +kernel
theorem dX0_closed_135 : decode cX0_closed 135 = .ok (.aload_n 0, 1) := by decide +kernel
theorem dX0_closed_136 : decode cX0_closed 136 = .ok (.getfield 44, 3) := by decide +kernel
theorem dX0_closed_139 : decode cX0_closed 139 = .ok (.iconst 0, 1) := by decide +kernel
theorem dX0_closed_140 : decode cX0_closed 140 = .ok (.aaload, 1) := by decide +kernel
theorem dX0_closed_141 : decode cX0_closed 141 = .ok (.aload_n 0, 1) := by decide +kernel
theorem dX0_closed_142 : decode cX0_closed 142 = .ok (.getfield 70, 3) := by decide +kernel
theorem dX0_closed_145 : decode cX0_closed 145 = .ok (.iconst 1, 1) := by decide +kernel
theorem dX0_closed_146 : decode cX0_closed 146 = .ok (.invokevirtual 128, 3) := by decide +kernel
theorem dX0_closed_149 : decode cX0_closed 149 = .ok (.aload_n 0, 1) := by decide +kernel
theorem dX0_closed_150 : decode cX0_closed 150 = .ok (.getfield 34, 3) := by decide +kernel
theorem dX0_closed_153 : decode cX0_closed 153 = .ok (.aload_n 0, 1) := by decide +kernel
theorem dX0_closed_154 : decode cX0_closed 154 = .ok (.getfield 73, 3) := by decide +kernel
theorem dX0_closed_157 : decode cX0_closed 157 = .ok (.getfield 139, 3) := by decide +kernel
theorem dX0_closed_160 : decode cX0_closed 160 = .ok (.aload_n 0, 1) := by decide +kernel
theorem dX0_closed_161 : decode cX0_closed 161 = .ok (.getfield 73, 3) := by decide +kernel
theorem dX0_closed_164 : decode cX0_closed 164 = .ok (.getfield 142, 3) := by decide +kernel
theorem dX0_closed_167 : decode cX0_closed 167 = .ok (.iload_n 1, 1) := by decide +kernel
theorem dX0_closed_168 : decode cX0_closed 168 = .ok (.iconst 0, 1) := by decide +kernel
theorem dX0_closed_169 : decode cX0_closed 169 = .ok (.invokevirtual 145, 3) := by decide +kernel
theorem dX0_closed_172 : decode cX0_closed 172 = .ok (.iconst 0, 1) := by decide +kernel
theorem dX0_closed_173 : decode cX0_closed 173 = .ok (.ireturn, 1) := by decide +kernel
set_option maxHeartbeats 16000000 in
theorem m_closed (l : Launch) {D : va_G} {ids : Nat → ClassId} {β : Nat} {sh : Nat → Nat × Nat} {N : Nat} {R : Nat → Nat → Option Nat} {F : Nat → Nat → Int} {A : Nat → Int → Int} {tone nb : Int} (hA : AcL sh R N) (hAE : AE sh R N F A [] F A) (hT : CK (A 2)) (hnb : nb ≤ 16) (hB : ∀ b t e : Int, 0 ≤ b ∧ b < nb → 0 ≤ t ∧ t < 4 → 0 ≤ e ∧ e < 4 → OKq 25 (num (A 2) (b * 144 + t * 36 + e * 9))) (ht : 0 ≤ tone ∧ tone < 4) {bA bK : Int} (hba0 : 0 ≤ bA ∧ bA < nb) (hbk0 : 0 ≤ bK ∧ bK < nb) : MetX l yX0_closed cX0_closed 4 (some (.int)) 6 165 D ids β sh N R F A [rf 7, pI tone, pI bA, pI bK] (pIr (fun z F2 A2 => (z = 1 ∧ (rsum (-1) oneq (rmul ((ldn (A 2) bA tone 0) 3) (num0 (A 2) bK tone))).1 = (0, 0) ∧ AE sh R N F A [] F2 A2) ∨ (z = 0 ∧ (rsum (-1) oneq (rmul ((ldn (A 2) bA tone 0) 3) (num0 (A 2) bK tone))).1 ≠ (0, 0) ∧ AE sh R N F A (closedL (ldn (A 2) bA tone 0) (num0 (A 2) bK tone) tone) F2 A2))) := by
  refine MetX.of (loc := [_, _, _, _]) (plainFor_of_name (by decide +kernel)) (Nat.le_of_ble_eq_true rfl) rfl ?_
  intro p e s m args below meth c hC hK hr hlk
  obtain ⟨hL, hW, ⟨a1, a2⟩, ⟨f0, f1, f2, f3, f4, f5, f6, f7, f8, f9, f10⟩, ⟨f11, f12, f13, f14, f15⟩, ⟨⟨b1, b2⟩, ⟨b3, b4⟩, b5, b6⟩, hR, hsg⟩ := id hA
  obtain ⟨⟨j1, j2⟩, ⟨r0, r1, r2, r3, r4⟩, ⟨j3, j4⟩, ⟨j5, j6⟩, -⟩ := id hL
  have j15 := hW.1.1
  have j16 := hW.1.2.1
  obtain ⟨G, g121, g132, VI, hSI, hGI, hglI, hbI, hfI, hdI⟩ := id hAE
  have n2 : sh 2 ≠ (1, 80) := by rw [j4]; decide
  have o_oneq := ok_one
  have o_quartq := ok_quart
  have rt32 : 32 < N ∧ sh 32 = (0, 4) := ⟨(hR 32 (by decide)).1, (hR 32 (by decide)).2.1⟩
  have rt43 : 43 < N ∧ sh 43 = (0, 4) := ⟨(hR 43 (by decide)).1, (hR 43 (by decide)).2.1⟩
  have rt54 : 54 < N ∧ sh 54 = (0, 4) := ⟨(hR 54 (by decide)).1, (hR 54 (by decide)).2.1⟩
  have rt65 : 65 < N ∧ sh 65 = (0, 4) := ⟨(hR 65 (by decide)).1, (hR 65 (by decide)).2.1⟩
  have rt77 : 77 < N ∧ sh 77 = (0, 4) := ⟨(hR 77 (by decide)).1, (hR 77 (by decide)).2.1⟩
  have rt88 : 88 < N ∧ sh 88 = (0, 4) := ⟨(hR 88 (by decide)).1, (hR 88 (by decide)).2.1⟩
  have rt99 : 99 < N ∧ sh 99 = (0, 4) := ⟨(hR 99 (by decide)).1, (hR 99 (by decide)).2.1⟩
  have rt110 : 110 < N ∧ sh 110 = (0, 4) := ⟨(hR 110 (by decide)).1, (hR 110 (by decide)).2.1⟩
  have rt121 : 121 < N ∧ sh 121 = (0, 4) := ⟨(hR 121 (by decide)).1, (hR 121 (by decide)).2.1⟩
  have rt132 : 132 < N ∧ sh 132 = (0, 4) := ⟨(hR 132 (by decide)).1, (hR 132 (by decide)).2.1⟩
  have rt143 : 143 < N ∧ sh 143 = (0, 4) := ⟨(hR 143 (by decide)).1, (hR 143 (by decide)).2.1⟩
  have rt154 : 154 < N ∧ sh 154 = (0, 4) := ⟨(hR 154 (by decide)).1, (hR 154 (by decide)).2.1⟩
  have rt165 : 165 < N ∧ sh 165 = (0, 4) := ⟨(hR 165 (by decide)).1, (hR 165 (by decide)).2.1⟩
  have rt176 : 176 < N ∧ sh 176 = (0, 4) := ⟨(hR 176 (by decide)).1, (hR 176 (by decide)).2.1⟩
  have rt187 : 187 < N ∧ sh 187 = (0, 4) := ⟨(hR 187 (by decide)).1, (hR 187 (by decide)).2.1⟩
  obtain ⟨rn32, rs32⟩ := rt32
  have ro32 := (hR 32 (by decide)).2.2.1
  have ru32 := (hR 32 (by decide)).2.2.2.1
  obtain ⟨rn43, rs43⟩ := rt43
  have ro43 := (hR 43 (by decide)).2.2.1
  have ru43 := (hR 43 (by decide)).2.2.2.1
  obtain ⟨rn54, rs54⟩ := rt54
  have ro54 := (hR 54 (by decide)).2.2.1
  have ru54 := (hR 54 (by decide)).2.2.2.1
  obtain ⟨rn65, rs65⟩ := rt65
  have ro65 := (hR 65 (by decide)).2.2.1
  have ru65 := (hR 65 (by decide)).2.2.2.1
  obtain ⟨rn77, rs77⟩ := rt77
  have ro77 := (hR 77 (by decide)).2.2.1
  have ru77 := (hR 77 (by decide)).2.2.2.1
  obtain ⟨rn88, rs88⟩ := rt88
  have ro88 := (hR 88 (by decide)).2.2.1
  have ru88 := (hR 88 (by decide)).2.2.2.1
  obtain ⟨rn99, rs99⟩ := rt99
  have ro99 := (hR 99 (by decide)).2.2.1
  have ru99 := (hR 99 (by decide)).2.2.2.1
  obtain ⟨rn110, rs110⟩ := rt110
  have ro110 := (hR 110 (by decide)).2.2.1
  have ru110 := (hR 110 (by decide)).2.2.2.1
  obtain ⟨rn121, rs121⟩ := rt121
  have ro121 := (hR 121 (by decide)).2.2.1
  have ru121 := (hR 121 (by decide)).2.2.2.1
  obtain ⟨rn132, rs132⟩ := rt132
  have ro132 := (hR 132 (by decide)).2.2.1
  have ru132 := (hR 132 (by decide)).2.2.2.1
  obtain ⟨rn143, rs143⟩ := rt143
  have ro143 := (hR 143 (by decide)).2.2.1
  have ru143 := (hR 143 (by decide)).2.2.2.1
  obtain ⟨rn154, rs154⟩ := rt154
  have ro154 := (hR 154 (by decide)).2.2.1
  have ru154 := (hR 154 (by decide)).2.2.2.1
  obtain ⟨rn165, rs165⟩ := rt165
  have ro165 := (hR 165 (by decide)).2.2.1
  have ru165 := (hR 165 (by decide)).2.2.2.1
  obtain ⟨rn176, rs176⟩ := rt176
  have ro176 := (hR 176 (by decide)).2.2.1
  have ru176 := (hR 176 (by decide)).2.2.2.1
  obtain ⟨rn187, rs187⟩ := rt187
  have ro187 := (hR 187 (by decide)).2.2.1
  have ru187 := (hR 187 (by decide)).2.2.2.1
  have hba := up16 hba0 hnb
  have hbk := up16 hbk0 hnb
  refine x_aload_n (pc2 := 1) hC rfl rfl dX0_closed_0 rfl ?_
  refine x_aload_n (pc2 := 2) hC rfl rfl dX0_closed_1 rfl ?_
  refine g_268 (pc2 := 5) hC hK (by assumption) (by assumption) (by assumption) dX0_closed_2 rfl ?_
  refine x_iload_n (pc2 := 6) hC rfl rfl dX0_closed_5 rfl ?_
  refine x_iload_n (pc2 := 7) hC rfl rfl dX0_closed_6 rfl ?_
  refine x_iconst (pc2 := 8) hC dX0_closed_7 rfl ?_
  refine x_cVv (pc2 := 11) (ci := 0) hC hK (m_loadBox l hA hSI hGI (base := 32) (Or.inl ⟨rfl, rfl⟩) hT hba ht (Or.inl rfl)) lk_473 rfl rfl (by decide) (by assumption) (by assumption) ⟨Nat.le_of_ble_eq_true rfl, Nat.le_of_ble_eq_true rfl⟩ ⟨Nat.le_refl _, Nat.le_refl _⟩ rfl (Nat.le_of_ble_eq_true rfl) dX0_closed_8 rfl ?_
  rintro F8 A8 hq
  obtain ⟨V8, hS8, hG8, hgl8, hb8, hf8, hd8⟩ := AS.step hA hglI hbI hfI hdI hq
  clear hq
  have eA8 : A8 2 = A 2 := hf8.2 2 (by decide) n2
  refine x_aload_n (pc2 := 12) hC rfl rfl dX0_closed_11 rfl ?_
  refine g_269 (pc2 := 15) hC hK (by assumption) (by assumption) (by assumption) dX0_closed_12 rfl ?_
  refine x_iconst (pc2 := 16) hC dX0_closed_15 rfl ?_
  refine x_aald (pc2 := 17) hC hK b3 b4 (by omega) (by decide) (b6 0 (by decide)) dX0_closed_16 rfl ?_
  refine x_aload_n (pc2 := 18) hC rfl rfl dX0_closed_17 rfl ?_
  refine g_266 (pc2 := 21) hC hK (by assumption) (by assumption) (by assumption) dX0_closed_18 rfl ?_
  refine g_94 (pc2 := 24) hC hK (by assumption) (by assumption) (by assumption) dX0_closed_21 rfl ?_
  refine x_iload_n (pc2 := 25) hC rfl rfl dX0_closed_24 rfl ?_
  refine x_iload_n (pc2 := 26) hC rfl rfl dX0_closed_25 rfl ?_
  refine x_iconst (pc2 := 27) hC dX0_closed_26 rfl ?_
  refine x_cNi (pc2 := 30) hC hK (m_place l) lk_477 rfl ⟨Nat.le_of_ble_eq_true rfl, Nat.le_of_ble_eq_true rfl⟩ ⟨Nat.le_refl _, Nat.le_refl _⟩ rfl (Nat.le_of_ble_eq_true rfl) dX0_closed_27 rfl ?_
  rintro z27 F27 A27 ⟨rfl, e127, e227⟩
  obtain rfl := e127.symm
  obtain rfl := e227.symm
  refine x_cVv (pc2 := 33) (ci := 4) hC hK (m_rload l hS8 (hR 77 (by decide)) j3 j4 (by decide) (i := bK * 144 + tone * 36 + 0 * 9) ⟨by omega, by omega⟩ (by decide) (by rw [eA8]; exact (hT.at hbk ht (e := 0) ⟨by decide, by decide⟩).1) (by rw [eA8]; exact (hT.at hbk ht (e := 0) ⟨by decide, by decide⟩).2.1) (by rw [eA8]; exact (hT.at hbk ht (e := 0) ⟨by decide, by decide⟩).2.2)) lk_478 rfl rfl (by decide) (by assumption) (by assumption) ⟨Nat.le_of_ble_eq_true rfl, Nat.le_of_ble_eq_true rfl⟩ ⟨Nat.le_refl _, Nat.le_refl _⟩ rfl (Nat.le_of_ble_eq_true rfl) dX0_closed_30 rfl ?_
  rintro F30 A30 hq0
  have hq := RQ.toA hq0 hG8 (by decide)
  obtain ⟨V30, hS30, hG30, hgl30, hb30, hf30, hd30⟩ := AS.step hA hgl8 hb8 hf8 hd8 hq
  clear hq hq0
  rw [eA8] at hG30
  obtain ⟨na, ena⟩ : ∃ n, n = ldn (A 2) bA tone 0 := ⟨_, rfl⟩
  rw [← ena] at hG30
  have oa := ldn_ok hB (tn := 0) hba0 ht
  rw [← ena] at oa
  have o_xb0 : OKq 25 (num0 (A 2) bK tone) := hB bK tone 0 hbk0 ht ⟨by decide, by decide⟩
  obtain ⟨xb0, eb0⟩ : ∃ v, v = num0 (A 2) bK tone := ⟨_, rfl⟩
  rw [← eb0] at o_xb0
  obtain ⟨G30, eG⟩ : ∃ g, g = upG (ldG G 32 na 4) 77 xb0 := ⟨_, rfl⟩
  replace hG30 : RV V30 G30 := by rw [eG, eb0]; exact hG30
  obtain ⟨xa0, ea0⟩ : ∃ v, v = na 0 := ⟨_, rfl⟩
  have o_xa0 := oa 0 (by decide)
  rw [← ea0] at o_xa0
  have q30_32 : G30 32 = xa0 := by rw [eG, ea0]; rfl
  obtain ⟨xa1, ea1⟩ : ∃ v, v = na 1 := ⟨_, rfl⟩
  have o_xa1 := oa 1 (by decide)
  rw [← ea1] at o_xa1
  have q30_43 : G30 43 = xa1 := by rw [eG, ea1]; rfl
  obtain ⟨xa2, ea2⟩ : ∃ v, v = na 2 := ⟨_, rfl⟩
  have o_xa2 := oa 2 (by decide)
  rw [← ea2] at o_xa2
  have q30_54 : G30 54 = xa2 := by rw [eG, ea2]; rfl
  obtain ⟨xa3, ea3⟩ : ∃ v, v = na 3 := ⟨_, rfl⟩
  have o_xa3 := oa 3 (by decide)
  rw [← ea3] at o_xa3
  have q30_65 : G30 65 = xa3 := by rw [eG, ea3]; rfl
  have q30_77 : G30 77 = xb0 := by rw [eG]; rfl
  have q30_121 : G30 121 = oneq := by rw [eG]; exact g121
  have q30_132 : G30 132 = quartq := by rw [eG]; exact g132
  clear eG
  refine x_aload_n (pc2 := 34) hC rfl rfl dX0_closed_33 rfl ?_
  refine g_275 (pc2 := 37) hC hK (by assumption) (by assumption) (by assumption) dX0_closed_34 rfl ?_
  refine x_aload_n (pc2 := 38) hC rfl rfl dX0_closed_37 rfl ?_
  refine g_268 (pc2 := 41) hC hK (by assumption) (by assumption) (by assumption) dX0_closed_38 rfl ?_
  refine x_iconst (pc2 := 42) hC dX0_closed_41 rfl ?_
  refine x_aald (pc2 := 43) hC hK b1 b2 (by omega) (by decide) (b5 3 (by decide)) dX0_closed_42 rfl ?_
  refine x_aload_n (pc2 := 44) hC rfl rfl dX0_closed_43 rfl ?_
  refine g_269 (pc2 := 47) hC hK (by assumption) (by assumption) (by assumption) dX0_closed_44 rfl ?_
  refine x_iconst (pc2 := 48) hC dX0_closed_47 rfl ?_
  refine x_aald (pc2 := 49) hC hK b3 b4 (by omega) (by decide) (b6 0 (by decide)) dX0_closed_48 rfl ?_
  refine x_cVv (pc2 := 52) (ci := 4) hC hK (y_product l hA hS30 hG30 (r := 176) (x := 65) (y := 77) (by decide) (by decide) (by decide) (by decide) (by decide) q30_65 q30_77 o_xa3 o_xb0 ⟨Nat.le_of_ble_eq_true rfl, Nat.le_of_ble_eq_true rfl⟩) lk_488 rfl rfl (by decide) (by assumption) (by assumption) ⟨Nat.le_of_ble_eq_true rfl, Nat.le_of_ble_eq_true rfl⟩ ⟨Nat.le_refl _, Nat.le_refl _⟩ rfl (Nat.le_of_ble_eq_true rfl) dX0_closed_49 rfl ?_
  rintro F49 A49 hq
  obtain ⟨V49, hS49, hG49, hgl49, hb49, hf49, hd49⟩ := AS.step hA hgl30 hb30 hf30 hd30 hq
  clear hq
  obtain ⟨v49, e_v49⟩ : ∃ v, v = rmul xa3 xb0 := ⟨_, rfl⟩
  have o_v49 : OKq 51 v49 := by rw [e_v49]; exact ok_mul o_xa3 o_xb0 (Nat.le_of_ble_eq_true rfl)
  rw [← e_v49] at hG49
  obtain ⟨G49, eG⟩ : ∃ g, g = upG G30 176 v49 := ⟨_, rfl⟩
  rw [← eG] at hG49
  have q49_32 : G49 32 = xa0 := by rw [eG]; exact (upG_ne (by decide)).trans q30_32
  have q49_43 : G49 43 = xa1 := by rw [eG]; exact (upG_ne (by decide)).trans q30_43
  have q49_54 : G49 54 = xa2 := by rw [eG]; exact (upG_ne (by decide)).trans q30_54
  have q49_77 : G49 77 = xb0 := by rw [eG]; exact (upG_ne (by decide)).trans q30_77
  have q49_121 : G49 121 = oneq := by rw [eG]; exact (upG_ne (by decide)).trans q30_121
  have q49_132 : G49 132 = quartq := by rw [eG]; exact (upG_ne (by decide)).trans q30_132
  have q49_176 : G49 176 = v49 := by rw [eG]; exact upG_eq
  clear eG
  refine x_aload_n (pc2 := 53) hC rfl rfl dX0_closed_52 rfl ?_
  refine g_272 (pc2 := 56) hC hK (by assumption) (by assumption) (by assumption) dX0_closed_53 rfl ?_
  refine x_aload_n (pc2 := 57) hC rfl rfl dX0_closed_56 rfl ?_
  refine g_270 (pc2 := 60) hC hK (by assumption) (by assumption) (by assumption) dX0_closed_57 rfl ?_
  refine x_aload_n (pc2 := 61) hC rfl rfl dX0_closed_60 rfl ?_
  refine g_275 (pc2 := 64) hC hK (by assumption) (by assumption) (by assumption) dX0_closed_61 rfl ?_
  refine x_iconst (pc2 := 65) hC dX0_closed_64 rfl ?_
  refine x_cVv (pc2 := 68) (ci := 4) hC hK (y_sum l hA hS49 hG49 (r := 143) (x := 121) (y := 176) (by decide) (by decide) (by decide) (by decide) (by decide) (Or.inr rfl) q49_121 q49_176 o_oneq o_v49 ⟨Nat.le_of_ble_eq_true rfl, Nat.le_of_ble_eq_true rfl⟩) lk_528 rfl rfl (by decide) (by assumption) (by assumption) ⟨Nat.le_of_ble_eq_true rfl, Nat.le_of_ble_eq_true rfl⟩ ⟨Nat.le_refl _, Nat.le_refl _⟩ rfl (Nat.le_of_ble_eq_true rfl) dX0_closed_65 rfl ?_
  rintro F65 A65 hq
  obtain ⟨V65, hS65, hG65, hgl65, hb65, hf65, hd65⟩ := AS.step hA hgl49 hb49 hf49 hd49 hq
  clear hq
  obtain ⟨v65, e_v65⟩ : ∃ v, v = rsum (-1) oneq v49 := ⟨_, rfl⟩
  have o_v65 : OKq 54 v65 := by rw [e_v65]; exact ok_sum  (Or.inr rfl) o_oneq o_v49 (Nat.le_of_ble_eq_true rfl)
  rw [← e_v65] at hG65
  obtain ⟨G65, eG⟩ : ∃ g, g = upG G49 143 v65 := ⟨_, rfl⟩
  rw [← eG] at hG65
  have q65_32 : G65 32 = xa0 := by rw [eG]; exact (upG_ne (by decide)).trans q49_32
  have q65_43 : G65 43 = xa1 := by rw [eG]; exact (upG_ne (by decide)).trans q49_43
  have q65_54 : G65 54 = xa2 := by rw [eG]; exact (upG_ne (by decide)).trans q49_54
  have q65_77 : G65 77 = xb0 := by rw [eG]; exact (upG_ne (by decide)).trans q49_77
  have q65_121 : G65 121 = oneq := by rw [eG]; exact (upG_ne (by decide)).trans q49_121
  have q65_132 : G65 132 = quartq := by rw [eG]; exact (upG_ne (by decide)).trans q49_132
  have q65_143 : G65 143 = v65 := by rw [eG]; exact upG_eq
  clear eG
  refine x_aload_n (pc2 := 69) hC rfl rfl dX0_closed_68 rfl ?_
  refine g_272 (pc2 := 72) hC hK (by assumption) (by assumption) (by assumption) dX0_closed_69 rfl ?_
  refine x_cVi (pc2 := 75) (ci := 4) hC hK (w_zero hA hS65 hG65 (r := 143) (by decide)) lk_536 rfl rfl (by decide) (by assumption) (by assumption) ⟨Nat.le_of_ble_eq_true rfl, Nat.le_of_ble_eq_true rfl⟩ ⟨Nat.le_refl _, Nat.le_refl _⟩ rfl (Nat.le_of_ble_eq_true rfl) dX0_closed_72 rfl ?_
  rintro z72 F72 A72 ⟨rfl, e172, e272⟩
  obtain rfl := e172.symm
  obtain rfl := e272.symm
  refine x_ifp_eq (tgt := 80) (pc2 := 78) hC dX0_closed_75 rfl rfl (fun h_75 => ?_) (fun h_75 => ?_)
  · have nz_v65 : v65.1 ≠ (0, 0) := by rw [← q65_143]; assumption
    have nz2 : (rsum (-1) oneq (rmul ((ldn (A 2) bA tone 0) 3) (num0 (A 2) bK tone))).1 ≠ (0, 0) := by
      rw [← ena, ← eb0, ← ea3, ← e_v49, ← e_v65]; exact nz_v65
    refine x_aload_n (pc2 := 81) hC rfl rfl dX0_closed_80 rfl ?_
    refine g_275 (pc2 := 84) hC hK (by assumption) (by assumption) (by assumption) dX0_closed_81 rfl ?_
    refine x_aload_n (pc2 := 85) hC rfl rfl dX0_closed_84 rfl ?_
    refine g_268 (pc2 := 88) hC hK (by assumption) (by assumption) (by assumption) dX0_closed_85 rfl ?_
    refine x_iconst (pc2 := 89) hC dX0_closed_88 rfl ?_
    refine x_aald (pc2 := 90) hC hK b1 b2 (by omega) (by decide) (b5 1 (by decide)) dX0_closed_89 rfl ?_
    refine x_aload_n (pc2 := 91) hC rfl rfl dX0_closed_90 rfl ?_
    refine g_268 (pc2 := 94) hC hK (by assumption) (by assumption) (by assumption) dX0_closed_91 rfl ?_
    refine x_iconst (pc2 := 95) hC dX0_closed_94 rfl ?_
    refine x_aald (pc2 := 96) hC hK b1 b2 (by omega) (by decide) (b5 2 (by decide)) dX0_closed_95 rfl ?_
    refine x_cVv (pc2 := 99) (ci := 4) hC hK (y_product l hA hS65 hG65 (r := 176) (x := 43) (y := 54) (by decide) (by decide) (by decide) (by decide) (by decide) q65_43 q65_54 o_xa1 o_xa2 ⟨Nat.le_of_ble_eq_true rfl, Nat.le_of_ble_eq_true rfl⟩) lk_488 rfl rfl (by decide) (by assumption) (by assumption) ⟨Nat.le_of_ble_eq_true rfl, Nat.le_of_ble_eq_true rfl⟩ ⟨Nat.le_refl _, Nat.le_refl _⟩ rfl (Nat.le_of_ble_eq_true rfl) dX0_closed_96 rfl ?_
    rintro F96 A96 hq
    obtain ⟨V96, hS96, hG96, hgl96, hb96, hf96, hd96⟩ := AS.step hA hgl65 hb65 hf65 hd65 hq
    clear hq
    obtain ⟨v96, e_v96⟩ : ∃ v, v = rmul xa1 xa2 := ⟨_, rfl⟩
    have o_v96 : OKq 51 v96 := by rw [e_v96]; exact ok_mul o_xa1 o_xa2 (Nat.le_of_ble_eq_true rfl)
    rw [← e_v96] at hG96
    obtain ⟨G96, eG⟩ : ∃ g, g = upG G65 176 v96 := ⟨_, rfl⟩
    rw [← eG] at hG96
    have q96_32 : G96 32 = xa0 := by rw [eG]; exact (upG_ne (by decide)).trans q65_32
    have q96_77 : G96 77 = xb0 := by rw [eG]; exact (upG_ne (by decide)).trans q65_77
    have q96_121 : G96 121 = oneq := by rw [eG]; exact (upG_ne (by decide)).trans q65_121
    have q96_132 : G96 132 = quartq := by rw [eG]; exact (upG_ne (by decide)).trans q65_132
    have q96_143 : G96 143 = v65 := by rw [eG]; exact (upG_ne (by decide)).trans q65_143
    have q96_176 : G96 176 = v96 := by rw [eG]; exact upG_eq
    clear eG
    refine x_aload_n (pc2 := 100) hC rfl rfl dX0_closed_99 rfl ?_
    refine g_276 (pc2 := 103) hC hK (by assumption) (by assumption) (by assumption) dX0_closed_100 rfl ?_
    refine x_aload_n (pc2 := 104) hC rfl rfl dX0_closed_103 rfl ?_
    refine g_275 (pc2 := 107) hC hK (by assumption) (by assumption) (by assumption) dX0_closed_104 rfl ?_
    refine x_aload_n (pc2 := 108) hC rfl rfl dX0_closed_107 rfl ?_
    refine g_269 (pc2 := 111) hC hK (by assumption) (by assumption) (by assumption) dX0_closed_108 rfl ?_
    refine x_iconst (pc2 := 112) hC dX0_closed_111 rfl ?_
    refine x_aald (pc2 := 113) hC hK b3 b4 (by omega) (by decide) (b6 0 (by decide)) dX0_closed_112 rfl ?_
    refine x_cVv (pc2 := 116) (ci := 4) hC hK (y_product l hA hS96 hG96 (r := 187) (x := 176) (y := 77) (by decide) (by decide) (by decide) (by decide) (by decide) q96_176 q96_77 o_v96 o_xb0 ⟨Nat.le_of_ble_eq_true rfl, Nat.le_of_ble_eq_true rfl⟩) lk_488 rfl rfl (by decide) (by assumption) (by assumption) ⟨Nat.le_of_ble_eq_true rfl, Nat.le_of_ble_eq_true rfl⟩ ⟨Nat.le_refl _, Nat.le_refl _⟩ rfl (Nat.le_of_ble_eq_true rfl) dX0_closed_113 rfl ?_
    rintro F113 A113 hq
    obtain ⟨V113, hS113, hG113, hgl113, hb113, hf113, hd113⟩ := AS.step hA hgl96 hb96 hf96 hd96 hq
    clear hq
    obtain ⟨v113, e_v113⟩ : ∃ v, v = rmul v96 xb0 := ⟨_, rfl⟩
    have o_v113 : OKq 77 v113 := by rw [e_v113]; exact ok_mul o_v96 o_xb0 (Nat.le_of_ble_eq_true rfl)
    rw [← e_v113] at hG113
    obtain ⟨G113, eG⟩ : ∃ g, g = upG G96 187 v113 := ⟨_, rfl⟩
    rw [← eG] at hG113
    have q113_32 : G113 32 = xa0 := by rw [eG]; exact (upG_ne (by decide)).trans q96_32
    have q113_121 : G113 121 = oneq := by rw [eG]; exact (upG_ne (by decide)).trans q96_121
    have q113_132 : G113 132 = quartq := by rw [eG]; exact (upG_ne (by decide)).trans q96_132
    have q113_143 : G113 143 = v65 := by rw [eG]; exact (upG_ne (by decide)).trans q96_143
    have q113_187 : G113 187 = v113 := by rw [eG]; exact upG_eq
    clear eG
    refine x_aload_n (pc2 := 117) hC rfl rfl dX0_closed_116 rfl ?_
    refine g_275 (pc2 := 120) hC hK (by assumption) (by assumption) (by assumption) dX0_closed_117 rfl ?_
    refine x_aload_n (pc2 := 121) hC rfl rfl dX0_closed_120 rfl ?_
    refine g_276 (pc2 := 124) hC hK (by assumption) (by assumption) (by assumption) dX0_closed_121 rfl ?_
    refine x_aload_n (pc2 := 125) hC rfl rfl dX0_closed_124 rfl ?_
    refine g_272 (pc2 := 128) hC hK (by assumption) (by assumption) (by assumption) dX0_closed_125 rfl ?_
    refine x_cVv (pc2 := 131) (ci := 4) hC hK (y_quotient l hA hS113 hG113 (r := 176) (x := 187) (y := 143) (by decide) (by decide) (by decide) (by decide) (by decide) q113_187 q113_143 o_v113 o_v65 ⟨Nat.le_of_ble_eq_true rfl, Nat.le_of_ble_eq_true rfl⟩) lk_544 rfl rfl (by decide) (by assumption) (by assumption) ⟨Nat.le_of_ble_eq_true rfl, Nat.le_of_ble_eq_true rfl⟩ ⟨Nat.le_refl _, Nat.le_refl _⟩ rfl (Nat.le_of_ble_eq_true rfl) dX0_closed_128 rfl ?_
    rintro F128 A128 hq
    obtain ⟨V128, hS128, hG128, hgl128, hb128, hf128, hd128⟩ := AS.step hA hgl113 hb113 hf113 hd113 hq
    clear hq
    obtain ⟨v128, e_v128⟩ : ∃ v, v = rdiv v113 v65 := ⟨_, rfl⟩
    have o_v128 : OKq 132 v128 := by rw [e_v128]; exact ok_div o_v113 o_v65 nz_v65 (Nat.le_of_ble_eq_true rfl)
    rw [← e_v128] at hG128
    obtain ⟨G128, eG⟩ : ∃ g, g = upG G113 176 v128 := ⟨_, rfl⟩
    rw [← eG] at hG128
    have q128_32 : G128 32 = xa0 := by rw [eG]; exact (upG_ne (by decide)).trans q113_32
    have q128_121 : G128 121 = oneq := by rw [eG]; exact (upG_ne (by decide)).trans q113_121
    have q128_132 : G128 132 = quartq := by rw [eG]; exact (upG_ne (by decide)).trans q113_132
    have q128_176 : G128 176 = v128 := by rw [eG]; exact upG_eq
    clear eG
    refine x_aload_n (pc2 := 132) hC rfl rfl dX0_closed_131 rfl ?_
    refine g_276 (pc2 := 135) hC hK (by assumption) (by assumption) (by assumption) dX0_closed_132 rfl ?_
    refine x_aload_n (pc2 := 136) hC rfl rfl dX0_closed_135 rfl ?_
    refine g_268 (pc2 := 139) hC hK (by assumption) (by assumption) (by assumption) dX0_closed_136 rfl ?_
    refine x_iconst (pc2 := 140) hC dX0_closed_139 rfl ?_
    refine x_aald (pc2 := 141) hC hK b1 b2 (by omega) (by decide) (b5 0 (by decide)) dX0_closed_140 rfl ?_
    refine x_aload_n (pc2 := 142) hC rfl rfl dX0_closed_141 rfl ?_
    refine g_275 (pc2 := 145) hC hK (by assumption) (by assumption) (by assumption) dX0_closed_142 rfl ?_
    refine x_iconst (pc2 := 146) hC dX0_closed_145 rfl ?_
    refine x_cVv (pc2 := 149) (ci := 4) hC hK (y_sum l hA hS128 hG128 (r := 187) (x := 32) (y := 176) (by decide) (by decide) (by decide) (by decide) (by decide) (Or.inl rfl) q128_32 q128_176 o_xa0 o_v128 ⟨Nat.le_of_ble_eq_true rfl, Nat.le_of_ble_eq_true rfl⟩) lk_528 rfl rfl (by decide) (by assumption) (by assumption) ⟨Nat.le_of_ble_eq_true rfl, Nat.le_of_ble_eq_true rfl⟩ ⟨Nat.le_refl _, Nat.le_refl _⟩ rfl (Nat.le_of_ble_eq_true rfl) dX0_closed_146 rfl ?_
    rintro F146 A146 hq
    obtain ⟨V146, hS146, hG146, hgl146, hb146, hf146, hd146⟩ := AS.step hA hgl128 hb128 hf128 hd128 hq
    clear hq
    obtain ⟨v146, e_v146⟩ : ∃ v, v = rsum (1) xa0 v128 := ⟨_, rfl⟩
    have o_v146 : OKq 159 v146 := by rw [e_v146]; exact ok_sum  (Or.inl rfl) o_xa0 o_v128 (Nat.le_of_ble_eq_true rfl)
    rw [← e_v146] at hG146
    obtain ⟨G146, eG⟩ : ∃ g, g = upG G128 187 v146 := ⟨_, rfl⟩
    rw [← eG] at hG146
    have q146_121 : G146 121 = oneq := by rw [eG]; exact (upG_ne (by decide)).trans q128_121
    have q146_132 : G146 132 = quartq := by rw [eG]; exact (upG_ne (by decide)).trans q128_132
    have q146_187 : G146 187 = v146 := by rw [eG]; exact upG_eq
    clear eG
    refine x_aload_n (pc2 := 150) hC rfl rfl dX0_closed_149 rfl ?_
    refine g_267 (pc2 := 153) hC hK (by assumption) (by assumption) (by assumption) dX0_closed_150 rfl ?_
    refine x_aload_n (pc2 := 154) hC rfl rfl dX0_closed_153 rfl ?_
    refine g_276 (pc2 := 157) hC hK (by assumption) (by assumption) (by assumption) dX0_closed_154 rfl ?_
    refine g_225 (pc2 := 160) hC hK (by assumption) (by assumption) (by assumption) dX0_closed_157 rfl ?_
    refine x_aload_n (pc2 := 161) hC rfl rfl dX0_closed_160 rfl ?_
    refine g_276 (pc2 := 164) hC hK (by assumption) (by assumption) (by assumption) dX0_closed_161 rfl ?_
    refine g_228 (pc2 := 167) hC hK (by assumption) (by assumption) (by assumption) dX0_closed_164 rfl ?_
    refine x_iload_n (pc2 := 168) hC rfl rfl dX0_closed_167 rfl ?_
    refine x_iconst (pc2 := 169) hC dX0_closed_168 rfl ?_
    refine x_cVv (pc2 := 172) (ci := 3) hC hK (y_draft hA hS146 hG146 hgl146 hb146 hf146 hd146 (r := 187) (by decide) q146_187 o_v146 ⟨Nat.le_of_ble_eq_true rfl, Nat.le_of_ble_eq_true rfl⟩ ⟨Nat.le_of_ble_eq_true rfl, Nat.le_of_ble_eq_true rfl⟩ ht ⟨by decide, by decide⟩ (by simp only [List.mem_cons, List.not_mem_nil, or_false, forall_eq_or_imp, forall_eq, false_imp_iff, implies_true] <;> omega)) lk_548 rfl rfl (by decide) (by assumption) (by assumption) ⟨Nat.le_of_ble_eq_true rfl, Nat.le_of_ble_eq_true rfl⟩ ⟨Nat.le_refl _, Nat.le_refl _⟩ rfl (Nat.le_of_ble_eq_true rfl) dX0_closed_169 rfl ?_
    rintro F169 A169 hq
    obtain ⟨V169, hS169, hG169, hgl169, hb169, hf169, hd169⟩ := id hq
    clear hq
    have q169_121 := q146_121
    have q169_132 := q146_132
    refine x_iconst (pc2 := 173) hC dX0_closed_172 rfl ?_
    exact x_iret hC hr hlk ⟨_, rfl, Or.inr ⟨rfl, nz2, ⟨_, q169_121, q169_132, V169, hS169, hG169, hgl169, hb169, hf169, by
      have e : closedL (ldn (A 2) bA tone 0) (num0 (A 2) bK tone) tone = [(v146, tone * 36 + 0 * 9)] := by
        rw [closedL, ← ena, ← eb0, ← ea0, ← ea1, ← ea2, ← ea3, e_v146, e_v128, e_v113, e_v96, e_v65, e_v49]
      rw [e]; exact hd169⟩⟩⟩ dX0_closed_173
  · have z1 : (rsum (-1) oneq (rmul ((ldn (A 2) bA tone 0) 3) (num0 (A 2) bK tone))).1 = (0, 0) := by
      rw [← ena, ← eb0, ← ea3, ← e_v49, ← e_v65]; rw [← q65_143]; assumption
    refine x_iconst (pc2 := 79) hC dX0_closed_78 rfl ?_
    exact x_iret hC hr hlk ⟨_, rfl, Or.inl ⟨rfl, z1, ⟨_, q65_121, q65_132, V65, hS65, hG65, hgl65, hb65, hf65, hd65⟩⟩⟩ dX0_closed_79
theorem dX0_undone_0 : decode cX0_undone 0 = .ok (.aload_n 0, 1) := by decide +kernel
theorem dX0_undone_1 : decode cX0_undone 1 = .ok (.aload_n 0, 1) := by decide +kernel
theorem dX0_undone_2 : decode cX0_undone 2 = .ok (.getfield 44, 3) := by decide +kernel
theorem dX0_undone_5 : decode cX0_undone 5 = .ok (.iload_n 2, 1) := by decide +kernel
theorem dX0_undone_6 : decode cX0_undone 6 = .ok (.iload_n 1, 1) := by decide +kernel
theorem dX0_undone_7 : decode cX0_undone 7 = .ok (.iconst 0, 1) := by decide +kernel
theorem dX0_undone_8 : decode cX0_undone 8 = .ok (.invokevirtual 120, 3) := by decide +kernel
theorem dX0_undone_11 : decode cX0_undone 11 = .ok (.aload_n 0, 1) := by decide +kernel
theorem dX0_undone_12 : decode cX0_undone 12 = .ok (.getfield 48, 3) := by decide +kernel
theorem dX0_undone_15 : decode cX0_undone 15 = .ok (.iconst 0, 1) := by decide +kernel
theorem dX0_undone_16 : decode cX0_undone 16 = .ok (.aaload, 1) := by decide +kernel
theorem dX0_undone_17 : decode cX0_undone 17 = .ok (.aload_n 0, 1) := by decide +kernel
theorem dX0_undone_18 : decode cX0_undone 18 = .ok (.getfield 17, 3) := by decide +kernel
theorem dX0_undone_21 : decode cX0_undone 21 = .ok (.getfield 109, 3) := by decide +kernel
theorem dX0_undone_24 : decode cX0_undone 24 = .ok (.iload_n 3, 1) := by decide +kernel
theorem dX0_undone_25 : decode cX0_undone 25 = .ok (.iload_n 1, 1) := by decide +kernel
theorem dX0_undone_26 : decode cX0_undone 26 = .ok (.iconst 0, 1) := by decide +kernel
theorem dX0_undone_27 : decode cX0_undone 27 = .ok (.invokestatic 112, 3) := by decide +kernel
theorem dX0_undone_30 : decode cX0_undone 30 = .ok (.invokevirtual 116, 3) := by decide +kernel
theorem dX0_undone_33 : decode cX0_undone 33 = .ok (.aload_n 0, 1) := by decide +kernel
theorem dX0_undone_34 : decode cX0_undone 34 = .ok (.getfield 67, 3) := by decide +kernel
theorem dX0_undone_37 : decode cX0_undone 37 = .ok (.aload_n 0, 1) := by decide +kernel
theorem dX0_undone_38 : decode cX0_undone 38 = .ok (.getfield 48, 3) := by decide +kernel
theorem dX0_undone_41 : decode cX0_undone 41 = .ok (.iconst 0, 1) := by decide +kernel
theorem dX0_undone_42 : decode cX0_undone 42 = .ok (.aaload, 1) := by decide +kernel
theorem dX0_undone_43 : decode cX0_undone 43 = .ok (.aload_n 0, 1) := by decide +kernel
theorem dX0_undone_44 : decode cX0_undone 44 = .ok (.getfield 44, 3) := by decide +kernel
theorem dX0_undone_47 : decode cX0_undone 47 = .ok (.iconst 0, 1) := by decide +kernel
theorem dX0_undone_48 : decode cX0_undone 48 = .ok (.aaload, 1) := by decide +kernel
theorem dX0_undone_49 : decode cX0_undone 49 = .ok (.iconst (-1), 1) := by decide +kernel
theorem dX0_undone_50 : decode cX0_undone 50 = .ok (.invokevirtual 128, 3) := by decide +kernel
theorem dX0_undone_53 : decode cX0_undone 53 = .ok (.aload_n 0, 1) := by decide +kernel
theorem dX0_undone_54 : decode cX0_undone 54 = .ok (.getfield 70, 3) := by decide +kernel
theorem dX0_undone_57 : decode cX0_undone 57 = .ok (.aload_n 0, 1) := by decide +kernel
theorem dX0_undone_58 : decode cX0_undone 58 = .ok (.getfield 44, 3) := by decide +kernel
theorem dX0_undone_61 : decode cX0_undone 61 = .ok (.iconst 1, 1) := by decide +kernel
theorem dX0_undone_62 : decode cX0_undone 62 = .ok (.aaload, 1) := by decide +kernel
theorem dX0_undone_63 : decode cX0_undone 63 = .ok (.aload_n 0, 1) := by decide +kernel
theorem dX0_undone_64 : decode cX0_undone 64 = .ok (.getfield 44, 3) := by decide +kernel
theorem dX0_undone_67 : decode cX0_undone 67 = .ok (.iconst 2, 1) := by decide +kernel
theorem dX0_undone_68 : decode cX0_undone 68 = .ok (.aaload, 1) := by decide +kernel
theorem dX0_undone_69 : decode cX0_undone 69 = .ok (.invokevirtual 124, 3) := by decide +kernel
theorem dX0_undone_72 : decode cX0_undone 72 = .ok (.aload_n 0, 1) := by decide +kernel
theorem dX0_undone_73 : decode cX0_undone 73 = .ok (.getfield 73, 3) := by decide +kernel
theorem dX0_undone_76 : decode cX0_undone 76 = .ok (.aload_n 0, 1) := by decide +kernel
theorem dX0_undone_77 : decode cX0_undone 77 = .ok (.getfield 44, 3) := by decide +kernel
theorem dX0_undone_80 : decode cX0_undone 80 = .ok (.iconst 3, 1) := by decide +kernel
theorem dX0_undone_81 : decode cX0_undone 81 = .ok (.aaload, 1) := by decide +kernel
theorem dX0_undone_82 : decode cX0_undone 82 = .ok (.aload_n 0, 1) := by decide +kernel
theorem dX0_undone_83 : decode cX0_undone 83 = .ok (.getfield 67, 3) := by decide +kernel
theorem dX0_undone_86 : decode cX0_undone 86 = .ok (.invokevirtual 124, 3) := by decide +kernel
theorem dX0_undone_89 : decode cX0_undone 89 = .ok (.aload_n 0, 1) := by decide +kernel
theorem dX0_undone_90 : decode cX0_undone 90 = .ok (.getfield 64, 3) := by decide +kernel
theorem dX0_undone_93 : decode cX0_undone 93 = .ok (.aload_n 0, 1) := by decide +kernel
theorem dX0_undone_94 : decode cX0_undone 94 = .ok (.getfield 70, 3) := by decide +kernel
theorem dX0_undone_97 : decode cX0_undone 97 = .ok (.aload_n 0, 1) := by decide +kernel
theorem dX0_undone_98 : decode cX0_undone 98 = .ok (.getfield 73, 3) := by decide +kernel
theorem dX0_undone_101 : decode cX0_undone 101 = .ok (.iconst 1, 1) := by decide +kernel
theorem dX0_undone_102 : decode cX0_undone 102 = .ok (.invokevirtual 128, 3) := by decide +kernel
theorem dX0_undone_105 : decode cX0_undone 105 = .ok (.aload_n 0, 1) := by decide +kernel
theorem dX0_undone_106 : decode cX0_undone 106 = .ok (.getfield 64, 3) := by decide +kernel
theorem dX0_undone_109 : decode cX0_undone 109 = .ok (.invokevirtual 132, 3) := by decide +kernel
theorem dX0_undone_112 : decode cX0_undone 112 = .ok (.ifCond .eq 5, 3) := by decide +kernel
theorem dX0_undone_115 : decode cX0_undone 115 = .ok (.iconst 1, 1) := by decide +kernel
theorem dX0_undone_116 : decode cX0_undone 116 = .ok (.ireturn, 1) := by decide +kernel
theorem dX0_undone_117 : decode cX0_undone 117 = .ok (.aload_n 0, 1) := by decide +kernel
theorem dX0_undone_118 : decode cX0_undone 118 = .ok (.getfield 73, 3) := by decide +kernel
theorem dX0_undone_121 : decode cX0_undone 121 = .ok (.aload_n 0, 1) := by decide +kernel
theorem dX0_undone_122 : decode cX0_undone 122 = .ok (.getfield 67, 3) := by decide +kernel
theorem dX0_undone_125 : decode cX0_undone 125 = .ok (.aload_n 0, 1) := by decide +kernel
theorem dX0_undone_126 : decode cX0_undone 126 = .ok (.getfield 64, 3) := by decide +kernel
theorem dX0_undone_129 : decode cX0_undone 129 = .ok (.invokevirtual 136, 3) := by decide +kernel
theorem dX0_undone_132 : decode cX0_undone 132 = .ok (.aload_n 0, 1) := by decide +kernel
theorem dX0_undone_133 : decode cX0_undone 133 = .ok (.getfield 34, 3) := by decide +kernel
theorem dX0_undone_136 : decode cX0_undone 136 = .ok (.aload_n 0, 1) := by decide +kernel
theorem dX0_undone_137 : decode cX0_undone 137 = .ok (.getfield 73, 3) := by decide +kernel
theorem dX0_undone_140 : decode cX0_undone 140 = .ok (.getfield 139, 3) := by decide +kernel
theorem dX0_undone_143 : decode cX0_undone 143 = .ok (.aload_n 0, 1) := by decide +kernel
theorem dX0_undone_144 : decode cX0_undone 144 = .ok (.getfield 73, 3) := by decide +kernel
theorem dX0_undone_147 : decode cX0_undone 147 = .ok (.getfield 142, 3) := by decide +kernel
theorem dX0_undone_150 : decode cX0_undone 150 = .ok (.iload_n 1, 1) := by decide +kernel
theorem dX0_undone_151 : decode cX0_undone 151 = .ok (.iconst 0, 1) := by decide +kernel
theorem dX0_undone_152 : decode cX0_undone 152 = .ok (.invokevirtual 145, 3) := by decide +kernel
theorem dX0_undone_155 : decode cX0_undone 155 = .ok (.iconst 0, 1) := by decide +kernel
theorem dX0_undone_156 : decode cX0_undone 156 = .ok (.ireturn, 1) := by decide +kernel
set_option maxHeartbeats 16000000 in
theorem m_undone (l : Launch) {D : va_G} {ids : Nat → ClassId} {β : Nat} {sh : Nat → Nat × Nat} {N : Nat} {R : Nat → Nat → Option Nat} {F : Nat → Nat → Int} {A : Nat → Int → Int} {tone nb : Int} (hA : AcL sh R N) (hAE : AE sh R N F A [] F A) (hT : CK (A 2)) (hnb : nb ≤ 16) (hB : ∀ b t e : Int, 0 ≤ b ∧ b < nb → 0 ≤ t ∧ t < 4 → 0 ≤ e ∧ e < 4 → OKq 25 (num (A 2) (b * 144 + t * 36 + e * 9))) (ht : 0 ≤ tone ∧ tone < 4) {bA bK : Int} (hba0 : 0 ≤ bA ∧ bA < nb) (hbk0 : 0 ≤ bK ∧ bK < nb) : MetX l yX0_undone cX0_undone 4 (some (.int)) 6 165 D ids β sh N R F A [rf 7, pI tone, pI bA, pI bK] (pIr (fun z F2 A2 => (z = 1 ∧ (undoF (ldn (A 2) bA tone 0) (num0 (A 2) bK tone)).1 = (0, 0) ∧ AE sh R N F A [] F2 A2) ∨ (z = 0 ∧ (undoF (ldn (A 2) bA tone 0) (num0 (A 2) bK tone)).1 ≠ (0, 0) ∧ AE sh R N F A (undoL (ldn (A 2) bA tone 0) (num0 (A 2) bK tone) tone) F2 A2))) := by
  refine MetX.of (loc := [_, _, _, _]) (plainFor_of_name (by decide +kernel)) (Nat.le_of_ble_eq_true rfl) rfl ?_
  intro p e s m args below meth c hC hK hr hlk
  obtain ⟨hL, hW, ⟨a1, a2⟩, ⟨f0, f1, f2, f3, f4, f5, f6, f7, f8, f9, f10⟩, ⟨f11, f12, f13, f14, f15⟩, ⟨⟨b1, b2⟩, ⟨b3, b4⟩, b5, b6⟩, hR, hsg⟩ := id hA
  obtain ⟨⟨j1, j2⟩, ⟨r0, r1, r2, r3, r4⟩, ⟨j3, j4⟩, ⟨j5, j6⟩, -⟩ := id hL
  have j15 := hW.1.1
  have j16 := hW.1.2.1
  obtain ⟨G, g121, g132, VI, hSI, hGI, hglI, hbI, hfI, hdI⟩ := id hAE
  have n2 : sh 2 ≠ (1, 80) := by rw [j4]; decide
  have o_oneq := ok_one
  have o_quartq := ok_quart
  have rt32 : 32 < N ∧ sh 32 = (0, 4) := ⟨(hR 32 (by decide)).1, (hR 32 (by decide)).2.1⟩
  have rt43 : 43 < N ∧ sh 43 = (0, 4) := ⟨(hR 43 (by decide)).1, (hR 43 (by decide)).2.1⟩
  have rt54 : 54 < N ∧ sh 54 = (0, 4) := ⟨(hR 54 (by decide)).1, (hR 54 (by decide)).2.1⟩
  have rt65 : 65 < N ∧ sh 65 = (0, 4) := ⟨(hR 65 (by decide)).1, (hR 65 (by decide)).2.1⟩
  have rt77 : 77 < N ∧ sh 77 = (0, 4) := ⟨(hR 77 (by decide)).1, (hR 77 (by decide)).2.1⟩
  have rt88 : 88 < N ∧ sh 88 = (0, 4) := ⟨(hR 88 (by decide)).1, (hR 88 (by decide)).2.1⟩
  have rt99 : 99 < N ∧ sh 99 = (0, 4) := ⟨(hR 99 (by decide)).1, (hR 99 (by decide)).2.1⟩
  have rt110 : 110 < N ∧ sh 110 = (0, 4) := ⟨(hR 110 (by decide)).1, (hR 110 (by decide)).2.1⟩
  have rt121 : 121 < N ∧ sh 121 = (0, 4) := ⟨(hR 121 (by decide)).1, (hR 121 (by decide)).2.1⟩
  have rt132 : 132 < N ∧ sh 132 = (0, 4) := ⟨(hR 132 (by decide)).1, (hR 132 (by decide)).2.1⟩
  have rt143 : 143 < N ∧ sh 143 = (0, 4) := ⟨(hR 143 (by decide)).1, (hR 143 (by decide)).2.1⟩
  have rt154 : 154 < N ∧ sh 154 = (0, 4) := ⟨(hR 154 (by decide)).1, (hR 154 (by decide)).2.1⟩
  have rt165 : 165 < N ∧ sh 165 = (0, 4) := ⟨(hR 165 (by decide)).1, (hR 165 (by decide)).2.1⟩
  have rt176 : 176 < N ∧ sh 176 = (0, 4) := ⟨(hR 176 (by decide)).1, (hR 176 (by decide)).2.1⟩
  have rt187 : 187 < N ∧ sh 187 = (0, 4) := ⟨(hR 187 (by decide)).1, (hR 187 (by decide)).2.1⟩
  obtain ⟨rn32, rs32⟩ := rt32
  have ro32 := (hR 32 (by decide)).2.2.1
  have ru32 := (hR 32 (by decide)).2.2.2.1
  obtain ⟨rn43, rs43⟩ := rt43
  have ro43 := (hR 43 (by decide)).2.2.1
  have ru43 := (hR 43 (by decide)).2.2.2.1
  obtain ⟨rn54, rs54⟩ := rt54
  have ro54 := (hR 54 (by decide)).2.2.1
  have ru54 := (hR 54 (by decide)).2.2.2.1
  obtain ⟨rn65, rs65⟩ := rt65
  have ro65 := (hR 65 (by decide)).2.2.1
  have ru65 := (hR 65 (by decide)).2.2.2.1
  obtain ⟨rn77, rs77⟩ := rt77
  have ro77 := (hR 77 (by decide)).2.2.1
  have ru77 := (hR 77 (by decide)).2.2.2.1
  obtain ⟨rn88, rs88⟩ := rt88
  have ro88 := (hR 88 (by decide)).2.2.1
  have ru88 := (hR 88 (by decide)).2.2.2.1
  obtain ⟨rn99, rs99⟩ := rt99
  have ro99 := (hR 99 (by decide)).2.2.1
  have ru99 := (hR 99 (by decide)).2.2.2.1
  obtain ⟨rn110, rs110⟩ := rt110
  have ro110 := (hR 110 (by decide)).2.2.1
  have ru110 := (hR 110 (by decide)).2.2.2.1
  obtain ⟨rn121, rs121⟩ := rt121
  have ro121 := (hR 121 (by decide)).2.2.1
  have ru121 := (hR 121 (by decide)).2.2.2.1
  obtain ⟨rn132, rs132⟩ := rt132
  have ro132 := (hR 132 (by decide)).2.2.1
  have ru132 := (hR 132 (by decide)).2.2.2.1
  obtain ⟨rn143, rs143⟩ := rt143
  have ro143 := (hR 143 (by decide)).2.2.1
  have ru143 := (hR 143 (by decide)).2.2.2.1
  obtain ⟨rn154, rs154⟩ := rt154
  have ro154 := (hR 154 (by decide)).2.2.1
  have ru154 := (hR 154 (by decide)).2.2.2.1
  obtain ⟨rn165, rs165⟩ := rt165
  have ro165 := (hR 165 (by decide)).2.2.1
  have ru165 := (hR 165 (by decide)).2.2.2.1
  obtain ⟨rn176, rs176⟩ := rt176
  have ro176 := (hR 176 (by decide)).2.2.1
  have ru176 := (hR 176 (by decide)).2.2.2.1
  obtain ⟨rn187, rs187⟩ := rt187
  have ro187 := (hR 187 (by decide)).2.2.1
  have ru187 := (hR 187 (by decide)).2.2.2.1
  have hba := up16 hba0 hnb
  have hbk := up16 hbk0 hnb
  refine x_aload_n (pc2 := 1) hC rfl rfl dX0_undone_0 rfl ?_
  refine x_aload_n (pc2 := 2) hC rfl rfl dX0_undone_1 rfl ?_
  refine g_268 (pc2 := 5) hC hK (by assumption) (by assumption) (by assumption) dX0_undone_2 rfl ?_
  refine x_iload_n (pc2 := 6) hC rfl rfl dX0_undone_5 rfl ?_
  refine x_iload_n (pc2 := 7) hC rfl rfl dX0_undone_6 rfl ?_
  refine x_iconst (pc2 := 8) hC dX0_undone_7 rfl ?_
  refine x_cVv (pc2 := 11) (ci := 0) hC hK (m_loadBox l hA hSI hGI (base := 32) (Or.inl ⟨rfl, rfl⟩) hT hba ht (Or.inl rfl)) lk_473 rfl rfl (by decide) (by assumption) (by assumption) ⟨Nat.le_of_ble_eq_true rfl, Nat.le_of_ble_eq_true rfl⟩ ⟨Nat.le_refl _, Nat.le_refl _⟩ rfl (Nat.le_of_ble_eq_true rfl) dX0_undone_8 rfl ?_
  rintro F8 A8 hq
  obtain ⟨V8, hS8, hG8, hgl8, hb8, hf8, hd8⟩ := AS.step hA hglI hbI hfI hdI hq
  clear hq
  have eA8 : A8 2 = A 2 := hf8.2 2 (by decide) n2
  refine x_aload_n (pc2 := 12) hC rfl rfl dX0_undone_11 rfl ?_
  refine g_269 (pc2 := 15) hC hK (by assumption) (by assumption) (by assumption) dX0_undone_12 rfl ?_
  refine x_iconst (pc2 := 16) hC dX0_undone_15 rfl ?_
  refine x_aald (pc2 := 17) hC hK b3 b4 (by omega) (by decide) (b6 0 (by decide)) dX0_undone_16 rfl ?_
  refine x_aload_n (pc2 := 18) hC rfl rfl dX0_undone_17 rfl ?_
  refine g_266 (pc2 := 21) hC hK (by assumption) (by assumption) (by assumption) dX0_undone_18 rfl ?_
  refine g_94 (pc2 := 24) hC hK (by assumption) (by assumption) (by assumption) dX0_undone_21 rfl ?_
  refine x_iload_n (pc2 := 25) hC rfl rfl dX0_undone_24 rfl ?_
  refine x_iload_n (pc2 := 26) hC rfl rfl dX0_undone_25 rfl ?_
  refine x_iconst (pc2 := 27) hC dX0_undone_26 rfl ?_
  refine x_cNi (pc2 := 30) hC hK (m_place l) lk_477 rfl ⟨Nat.le_of_ble_eq_true rfl, Nat.le_of_ble_eq_true rfl⟩ ⟨Nat.le_refl _, Nat.le_refl _⟩ rfl (Nat.le_of_ble_eq_true rfl) dX0_undone_27 rfl ?_
  rintro z27 F27 A27 ⟨rfl, e127, e227⟩
  obtain rfl := e127.symm
  obtain rfl := e227.symm
  refine x_cVv (pc2 := 33) (ci := 4) hC hK (m_rload l hS8 (hR 77 (by decide)) j3 j4 (by decide) (i := bK * 144 + tone * 36 + 0 * 9) ⟨by omega, by omega⟩ (by decide) (by rw [eA8]; exact (hT.at hbk ht (e := 0) ⟨by decide, by decide⟩).1) (by rw [eA8]; exact (hT.at hbk ht (e := 0) ⟨by decide, by decide⟩).2.1) (by rw [eA8]; exact (hT.at hbk ht (e := 0) ⟨by decide, by decide⟩).2.2)) lk_478 rfl rfl (by decide) (by assumption) (by assumption) ⟨Nat.le_of_ble_eq_true rfl, Nat.le_of_ble_eq_true rfl⟩ ⟨Nat.le_refl _, Nat.le_refl _⟩ rfl (Nat.le_of_ble_eq_true rfl) dX0_undone_30 rfl ?_
  rintro F30 A30 hq0
  have hq := RQ.toA hq0 hG8 (by decide)
  obtain ⟨V30, hS30, hG30, hgl30, hb30, hf30, hd30⟩ := AS.step hA hgl8 hb8 hf8 hd8 hq
  clear hq hq0
  rw [eA8] at hG30
  obtain ⟨na, ena⟩ : ∃ n, n = ldn (A 2) bA tone 0 := ⟨_, rfl⟩
  rw [← ena] at hG30
  have oa := ldn_ok hB (tn := 0) hba0 ht
  rw [← ena] at oa
  have o_xb0 : OKq 25 (num0 (A 2) bK tone) := hB bK tone 0 hbk0 ht ⟨by decide, by decide⟩
  obtain ⟨xb0, eb0⟩ : ∃ v, v = num0 (A 2) bK tone := ⟨_, rfl⟩
  rw [← eb0] at o_xb0
  obtain ⟨G30, eG⟩ : ∃ g, g = upG (ldG G 32 na 4) 77 xb0 := ⟨_, rfl⟩
  replace hG30 : RV V30 G30 := by rw [eG, eb0]; exact hG30
  obtain ⟨xa0, ea0⟩ : ∃ v, v = na 0 := ⟨_, rfl⟩
  have o_xa0 := oa 0 (by decide)
  rw [← ea0] at o_xa0
  have q30_32 : G30 32 = xa0 := by rw [eG, ea0]; rfl
  obtain ⟨xa1, ea1⟩ : ∃ v, v = na 1 := ⟨_, rfl⟩
  have o_xa1 := oa 1 (by decide)
  rw [← ea1] at o_xa1
  have q30_43 : G30 43 = xa1 := by rw [eG, ea1]; rfl
  obtain ⟨xa2, ea2⟩ : ∃ v, v = na 2 := ⟨_, rfl⟩
  have o_xa2 := oa 2 (by decide)
  rw [← ea2] at o_xa2
  have q30_54 : G30 54 = xa2 := by rw [eG, ea2]; rfl
  obtain ⟨xa3, ea3⟩ : ∃ v, v = na 3 := ⟨_, rfl⟩
  have o_xa3 := oa 3 (by decide)
  rw [← ea3] at o_xa3
  have q30_65 : G30 65 = xa3 := by rw [eG, ea3]; rfl
  have q30_77 : G30 77 = xb0 := by rw [eG]; rfl
  have q30_121 : G30 121 = oneq := by rw [eG]; exact g121
  have q30_132 : G30 132 = quartq := by rw [eG]; exact g132
  clear eG
  refine x_aload_n (pc2 := 34) hC rfl rfl dX0_undone_33 rfl ?_
  refine g_274 (pc2 := 37) hC hK (by assumption) (by assumption) (by assumption) dX0_undone_34 rfl ?_
  refine x_aload_n (pc2 := 38) hC rfl rfl dX0_undone_37 rfl ?_
  refine g_269 (pc2 := 41) hC hK (by assumption) (by assumption) (by assumption) dX0_undone_38 rfl ?_
  refine x_iconst (pc2 := 42) hC dX0_undone_41 rfl ?_
  refine x_aald (pc2 := 43) hC hK b3 b4 (by omega) (by decide) (b6 0 (by decide)) dX0_undone_42 rfl ?_
  refine x_aload_n (pc2 := 44) hC rfl rfl dX0_undone_43 rfl ?_
  refine g_268 (pc2 := 47) hC hK (by assumption) (by assumption) (by assumption) dX0_undone_44 rfl ?_
  refine x_iconst (pc2 := 48) hC dX0_undone_47 rfl ?_
  refine x_aald (pc2 := 49) hC hK b1 b2 (by omega) (by decide) (b5 0 (by decide)) dX0_undone_48 rfl ?_
  refine x_iconst (pc2 := 50) hC dX0_undone_49 rfl ?_
  refine x_cVv (pc2 := 53) (ci := 4) hC hK (y_sum l hA hS30 hG30 (r := 165) (x := 77) (y := 32) (by decide) (by decide) (by decide) (by decide) (by decide) (Or.inr rfl) q30_77 q30_32 o_xb0 o_xa0 ⟨Nat.le_of_ble_eq_true rfl, Nat.le_of_ble_eq_true rfl⟩) lk_528 rfl rfl (by decide) (by assumption) (by assumption) ⟨Nat.le_of_ble_eq_true rfl, Nat.le_of_ble_eq_true rfl⟩ ⟨Nat.le_refl _, Nat.le_refl _⟩ rfl (Nat.le_of_ble_eq_true rfl) dX0_undone_50 rfl ?_
  rintro F50 A50 hq
  obtain ⟨V50, hS50, hG50, hgl50, hb50, hf50, hd50⟩ := AS.step hA hgl30 hb30 hf30 hd30 hq
  clear hq
  obtain ⟨v50, e_v50⟩ : ∃ v, v = rsum (-1) xb0 xa0 := ⟨_, rfl⟩
  have o_v50 : OKq 52 v50 := by rw [e_v50]; exact ok_sum  (Or.inr rfl) o_xb0 o_xa0 (Nat.le_of_ble_eq_true rfl)
  rw [← e_v50] at hG50
  obtain ⟨G50, eG⟩ : ∃ g, g = upG G30 165 v50 := ⟨_, rfl⟩
  rw [← eG] at hG50
  have q50_43 : G50 43 = xa1 := by rw [eG]; exact (upG_ne (by decide)).trans q30_43
  have q50_54 : G50 54 = xa2 := by rw [eG]; exact (upG_ne (by decide)).trans q30_54
  have q50_65 : G50 65 = xa3 := by rw [eG]; exact (upG_ne (by decide)).trans q30_65
  have q50_121 : G50 121 = oneq := by rw [eG]; exact (upG_ne (by decide)).trans q30_121
  have q50_132 : G50 132 = quartq := by rw [eG]; exact (upG_ne (by decide)).trans q30_132
  have q50_165 : G50 165 = v50 := by rw [eG]; exact upG_eq
  clear eG
  refine x_aload_n (pc2 := 54) hC rfl rfl dX0_undone_53 rfl ?_
  refine g_275 (pc2 := 57) hC hK (by assumption) (by assumption) (by assumption) dX0_undone_54 rfl ?_
  refine x_aload_n (pc2 := 58) hC rfl rfl dX0_undone_57 rfl ?_
  refine g_268 (pc2 := 61) hC hK (by assumption) (by assumption) (by assumption) dX0_undone_58 rfl ?_
  refine x_iconst (pc2 := 62) hC dX0_undone_61 rfl ?_
  refine x_aald (pc2 := 63) hC hK b1 b2 (by omega) (by decide) (b5 1 (by decide)) dX0_undone_62 rfl ?_
  refine x_aload_n (pc2 := 64) hC rfl rfl dX0_undone_63 rfl ?_
  refine g_268 (pc2 := 67) hC hK (by assumption) (by assumption) (by assumption) dX0_undone_64 rfl ?_
  refine x_iconst (pc2 := 68) hC dX0_undone_67 rfl ?_
  refine x_aald (pc2 := 69) hC hK b1 b2 (by omega) (by decide) (b5 2 (by decide)) dX0_undone_68 rfl ?_
  refine x_cVv (pc2 := 72) (ci := 4) hC hK (y_product l hA hS50 hG50 (r := 176) (x := 43) (y := 54) (by decide) (by decide) (by decide) (by decide) (by decide) q50_43 q50_54 o_xa1 o_xa2 ⟨Nat.le_of_ble_eq_true rfl, Nat.le_of_ble_eq_true rfl⟩) lk_488 rfl rfl (by decide) (by assumption) (by assumption) ⟨Nat.le_of_ble_eq_true rfl, Nat.le_of_ble_eq_true rfl⟩ ⟨Nat.le_refl _, Nat.le_refl _⟩ rfl (Nat.le_of_ble_eq_true rfl) dX0_undone_69 rfl ?_
  rintro F69 A69 hq
  obtain ⟨V69, hS69, hG69, hgl69, hb69, hf69, hd69⟩ := AS.step hA hgl50 hb50 hf50 hd50 hq
  clear hq
  obtain ⟨v69, e_v69⟩ : ∃ v, v = rmul xa1 xa2 := ⟨_, rfl⟩
  have o_v69 : OKq 51 v69 := by rw [e_v69]; exact ok_mul o_xa1 o_xa2 (Nat.le_of_ble_eq_true rfl)
  rw [← e_v69] at hG69
  obtain ⟨G69, eG⟩ : ∃ g, g = upG G50 176 v69 := ⟨_, rfl⟩
  rw [← eG] at hG69
  have q69_65 : G69 65 = xa3 := by rw [eG]; exact (upG_ne (by decide)).trans q50_65
  have q69_121 : G69 121 = oneq := by rw [eG]; exact (upG_ne (by decide)).trans q50_121
  have q69_132 : G69 132 = quartq := by rw [eG]; exact (upG_ne (by decide)).trans q50_132
  have q69_165 : G69 165 = v50 := by rw [eG]; exact (upG_ne (by decide)).trans q50_165
  have q69_176 : G69 176 = v69 := by rw [eG]; exact upG_eq
  clear eG
  refine x_aload_n (pc2 := 73) hC rfl rfl dX0_undone_72 rfl ?_
  refine g_276 (pc2 := 76) hC hK (by assumption) (by assumption) (by assumption) dX0_undone_73 rfl ?_
  refine x_aload_n (pc2 := 77) hC rfl rfl dX0_undone_76 rfl ?_
  refine g_268 (pc2 := 80) hC hK (by assumption) (by assumption) (by assumption) dX0_undone_77 rfl ?_
  refine x_iconst (pc2 := 81) hC dX0_undone_80 rfl ?_
  refine x_aald (pc2 := 82) hC hK b1 b2 (by omega) (by decide) (b5 3 (by decide)) dX0_undone_81 rfl ?_
  refine x_aload_n (pc2 := 83) hC rfl rfl dX0_undone_82 rfl ?_
  refine g_274 (pc2 := 86) hC hK (by assumption) (by assumption) (by assumption) dX0_undone_83 rfl ?_
  refine x_cVv (pc2 := 89) (ci := 4) hC hK (y_product l hA hS69 hG69 (r := 187) (x := 65) (y := 165) (by decide) (by decide) (by decide) (by decide) (by decide) q69_65 q69_165 o_xa3 o_v50 ⟨Nat.le_of_ble_eq_true rfl, Nat.le_of_ble_eq_true rfl⟩) lk_488 rfl rfl (by decide) (by assumption) (by assumption) ⟨Nat.le_of_ble_eq_true rfl, Nat.le_of_ble_eq_true rfl⟩ ⟨Nat.le_refl _, Nat.le_refl _⟩ rfl (Nat.le_of_ble_eq_true rfl) dX0_undone_86 rfl ?_
  rintro F86 A86 hq
  obtain ⟨V86, hS86, hG86, hgl86, hb86, hf86, hd86⟩ := AS.step hA hgl69 hb69 hf69 hd69 hq
  clear hq
  obtain ⟨v86, e_v86⟩ : ∃ v, v = rmul xa3 v50 := ⟨_, rfl⟩
  have o_v86 : OKq 78 v86 := by rw [e_v86]; exact ok_mul o_xa3 o_v50 (Nat.le_of_ble_eq_true rfl)
  rw [← e_v86] at hG86
  obtain ⟨G86, eG⟩ : ∃ g, g = upG G69 187 v86 := ⟨_, rfl⟩
  rw [← eG] at hG86
  have q86_121 : G86 121 = oneq := by rw [eG]; exact (upG_ne (by decide)).trans q69_121
  have q86_132 : G86 132 = quartq := by rw [eG]; exact (upG_ne (by decide)).trans q69_132
  have q86_165 : G86 165 = v50 := by rw [eG]; exact (upG_ne (by decide)).trans q69_165
  have q86_176 : G86 176 = v69 := by rw [eG]; exact (upG_ne (by decide)).trans q69_176
  have q86_187 : G86 187 = v86 := by rw [eG]; exact upG_eq
  clear eG
  refine x_aload_n (pc2 := 90) hC rfl rfl dX0_undone_89 rfl ?_
  refine g_273 (pc2 := 93) hC hK (by assumption) (by assumption) (by assumption) dX0_undone_90 rfl ?_
  refine x_aload_n (pc2 := 94) hC rfl rfl dX0_undone_93 rfl ?_
  refine g_275 (pc2 := 97) hC hK (by assumption) (by assumption) (by assumption) dX0_undone_94 rfl ?_
  refine x_aload_n (pc2 := 98) hC rfl rfl dX0_undone_97 rfl ?_
  refine g_276 (pc2 := 101) hC hK (by assumption) (by assumption) (by assumption) dX0_undone_98 rfl ?_
  refine x_iconst (pc2 := 102) hC dX0_undone_101 rfl ?_
  refine x_cVv (pc2 := 105) (ci := 4) hC hK (y_sum l hA hS86 hG86 (r := 154) (x := 176) (y := 187) (by decide) (by decide) (by decide) (by decide) (by decide) (Or.inl rfl) q86_176 q86_187 o_v69 o_v86 ⟨Nat.le_of_ble_eq_true rfl, Nat.le_of_ble_eq_true rfl⟩) lk_528 rfl rfl (by decide) (by assumption) (by assumption) ⟨Nat.le_of_ble_eq_true rfl, Nat.le_of_ble_eq_true rfl⟩ ⟨Nat.le_refl _, Nat.le_refl _⟩ rfl (Nat.le_of_ble_eq_true rfl) dX0_undone_102 rfl ?_
  rintro F102 A102 hq
  obtain ⟨V102, hS102, hG102, hgl102, hb102, hf102, hd102⟩ := AS.step hA hgl86 hb86 hf86 hd86 hq
  clear hq
  obtain ⟨v102, e_v102⟩ : ∃ v, v = rsum (1) v69 v86 := ⟨_, rfl⟩
  have o_v102 : OKq 131 v102 := by rw [e_v102]; exact ok_sum  (Or.inl rfl) o_v69 o_v86 (Nat.le_of_ble_eq_true rfl)
  rw [← e_v102] at hG102
  obtain ⟨G102, eG⟩ : ∃ g, g = upG G86 154 v102 := ⟨_, rfl⟩
  rw [← eG] at hG102
  have q102_121 : G102 121 = oneq := by rw [eG]; exact (upG_ne (by decide)).trans q86_121
  have q102_132 : G102 132 = quartq := by rw [eG]; exact (upG_ne (by decide)).trans q86_132
  have q102_154 : G102 154 = v102 := by rw [eG]; exact upG_eq
  have q102_165 : G102 165 = v50 := by rw [eG]; exact (upG_ne (by decide)).trans q86_165
  clear eG
  refine x_aload_n (pc2 := 106) hC rfl rfl dX0_undone_105 rfl ?_
  refine g_273 (pc2 := 109) hC hK (by assumption) (by assumption) (by assumption) dX0_undone_106 rfl ?_
  refine x_cVi (pc2 := 112) (ci := 4) hC hK (w_zero hA hS102 hG102 (r := 154) (by decide)) lk_536 rfl rfl (by decide) (by assumption) (by assumption) ⟨Nat.le_of_ble_eq_true rfl, Nat.le_of_ble_eq_true rfl⟩ ⟨Nat.le_refl _, Nat.le_refl _⟩ rfl (Nat.le_of_ble_eq_true rfl) dX0_undone_109 rfl ?_
  rintro z109 F109 A109 ⟨rfl, e1109, e2109⟩
  obtain rfl := e1109.symm
  obtain rfl := e2109.symm
  refine x_ifp_eq (tgt := 117) (pc2 := 115) hC dX0_undone_112 rfl rfl (fun h_112 => ?_) (fun h_112 => ?_)
  · have nz_v102 : v102.1 ≠ (0, 0) := by rw [← q102_154]; assumption
    have nz2 : (undoF (ldn (A 2) bA tone 0) (num0 (A 2) bK tone)).1 ≠ (0, 0) := by
      rw [undoF, ← ena, ← eb0, ← ea0, ← ea1, ← ea2, ← ea3, ← e_v50, ← e_v69, ← e_v86, ← e_v102]; exact nz_v102
    refine x_aload_n (pc2 := 118) hC rfl rfl dX0_undone_117 rfl ?_
    refine g_276 (pc2 := 121) hC hK (by assumption) (by assumption) (by assumption) dX0_undone_118 rfl ?_
    refine x_aload_n (pc2 := 122) hC rfl rfl dX0_undone_121 rfl ?_
    refine g_274 (pc2 := 125) hC hK (by assumption) (by assumption) (by assumption) dX0_undone_122 rfl ?_
    refine x_aload_n (pc2 := 126) hC rfl rfl dX0_undone_125 rfl ?_
    refine g_273 (pc2 := 129) hC hK (by assumption) (by assumption) (by assumption) dX0_undone_126 rfl ?_
    refine x_cVv (pc2 := 132) (ci := 4) hC hK (y_quotient l hA hS102 hG102 (r := 187) (x := 165) (y := 154) (by decide) (by decide) (by decide) (by decide) (by decide) q102_165 q102_154 o_v50 o_v102 ⟨Nat.le_of_ble_eq_true rfl, Nat.le_of_ble_eq_true rfl⟩) lk_544 rfl rfl (by decide) (by assumption) (by assumption) ⟨Nat.le_of_ble_eq_true rfl, Nat.le_of_ble_eq_true rfl⟩ ⟨Nat.le_refl _, Nat.le_refl _⟩ rfl (Nat.le_of_ble_eq_true rfl) dX0_undone_129 rfl ?_
    rintro F129 A129 hq
    obtain ⟨V129, hS129, hG129, hgl129, hb129, hf129, hd129⟩ := AS.step hA hgl102 hb102 hf102 hd102 hq
    clear hq
    obtain ⟨v129, e_v129⟩ : ∃ v, v = rdiv v50 v102 := ⟨_, rfl⟩
    have o_v129 : OKq 184 v129 := by rw [e_v129]; exact ok_div o_v50 o_v102 nz_v102 (Nat.le_of_ble_eq_true rfl)
    rw [← e_v129] at hG129
    obtain ⟨G129, eG⟩ : ∃ g, g = upG G102 187 v129 := ⟨_, rfl⟩
    rw [← eG] at hG129
    have q129_121 : G129 121 = oneq := by rw [eG]; exact (upG_ne (by decide)).trans q102_121
    have q129_132 : G129 132 = quartq := by rw [eG]; exact (upG_ne (by decide)).trans q102_132
    have q129_187 : G129 187 = v129 := by rw [eG]; exact upG_eq
    clear eG
    refine x_aload_n (pc2 := 133) hC rfl rfl dX0_undone_132 rfl ?_
    refine g_267 (pc2 := 136) hC hK (by assumption) (by assumption) (by assumption) dX0_undone_133 rfl ?_
    refine x_aload_n (pc2 := 137) hC rfl rfl dX0_undone_136 rfl ?_
    refine g_276 (pc2 := 140) hC hK (by assumption) (by assumption) (by assumption) dX0_undone_137 rfl ?_
    refine g_225 (pc2 := 143) hC hK (by assumption) (by assumption) (by assumption) dX0_undone_140 rfl ?_
    refine x_aload_n (pc2 := 144) hC rfl rfl dX0_undone_143 rfl ?_
    refine g_276 (pc2 := 147) hC hK (by assumption) (by assumption) (by assumption) dX0_undone_144 rfl ?_
    refine g_228 (pc2 := 150) hC hK (by assumption) (by assumption) (by assumption) dX0_undone_147 rfl ?_
    refine x_iload_n (pc2 := 151) hC rfl rfl dX0_undone_150 rfl ?_
    refine x_iconst (pc2 := 152) hC dX0_undone_151 rfl ?_
    refine x_cVv (pc2 := 155) (ci := 3) hC hK (y_draft hA hS129 hG129 hgl129 hb129 hf129 hd129 (r := 187) (by decide) q129_187 o_v129 ⟨Nat.le_of_ble_eq_true rfl, Nat.le_of_ble_eq_true rfl⟩ ⟨Nat.le_of_ble_eq_true rfl, Nat.le_of_ble_eq_true rfl⟩ ht ⟨by decide, by decide⟩ (by simp only [List.mem_cons, List.not_mem_nil, or_false, forall_eq_or_imp, forall_eq, false_imp_iff, implies_true] <;> omega)) lk_548 rfl rfl (by decide) (by assumption) (by assumption) ⟨Nat.le_of_ble_eq_true rfl, Nat.le_of_ble_eq_true rfl⟩ ⟨Nat.le_refl _, Nat.le_refl _⟩ rfl (Nat.le_of_ble_eq_true rfl) dX0_undone_152 rfl ?_
    rintro F152 A152 hq
    obtain ⟨V152, hS152, hG152, hgl152, hb152, hf152, hd152⟩ := id hq
    clear hq
    have q152_121 := q129_121
    have q152_132 := q129_132
    refine x_iconst (pc2 := 156) hC dX0_undone_155 rfl ?_
    exact x_iret hC hr hlk ⟨_, rfl, Or.inr ⟨rfl, nz2, ⟨_, q152_121, q152_132, V152, hS152, hG152, hgl152, hb152, hf152, by
      have e : undoL (ldn (A 2) bA tone 0) (num0 (A 2) bK tone) tone = [(v129, tone * 36 + 0 * 9)] := by
        rw [undoL, undoF, ← ena, ← eb0, ← ea0, ← ea1, ← ea2, ← ea3, e_v129, e_v102, e_v86, e_v69, e_v50]
      rw [e]; exact hd152⟩⟩⟩ dX0_undone_156
  · have z1 : (undoF (ldn (A 2) bA tone 0) (num0 (A 2) bK tone)).1 = (0, 0) := by
      rw [undoF, ← ena, ← eb0, ← ea0, ← ea1, ← ea2, ← ea3, ← e_v50, ← e_v69, ← e_v86, ← e_v102]; rw [← q102_154]; assumption
    refine x_iconst (pc2 := 116) hC dX0_undone_115 rfl ?_
    exact x_iret hC hr hlk ⟨_, rfl, Or.inl ⟨rfl, z1, ⟨_, q102_121, q102_132, V102, hS102, hG102, hgl102, hb102, hf102, hd102⟩⟩⟩ dX0_undone_116
