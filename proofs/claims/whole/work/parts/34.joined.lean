/-- a number of so many digits whose under is not 0 -/
def OKq (n : Nat) (x : QR) : Prop := bdq n x ∧ x.2 ≠ (0, 0)
theorem cmul_ne {x y : CI} (hx : x ≠ (0, 0)) (hy : y ≠ (0, 0)) : cmul x y ≠ (0, 0) := by
  intro h
  have h1 : x.1 * y.1 - x.2 * y.2 = 0 := congrArg Prod.fst h
  have h2 : x.2 * y.1 + x.1 * y.2 = 0 := congrArg Prod.snd h
  have e : (x.1 * x.1 + x.2 * x.2) * (y.1 * y.1 + y.2 * y.2) = 0 := by
    have : (x.1 * x.1 + x.2 * x.2) * (y.1 * y.1 + y.2 * y.2) = (x.1 * y.1 - x.2 * y.2) * (x.1 * y.1 - x.2 * y.2) + (x.2 * y.1 + x.1 * y.2) * (x.2 * y.1 + x.1 * y.2) := by grind
    rw [this, h1, h2]; rfl
  have sq : ∀ z : CI, z ≠ (0, 0) → z.1 * z.1 + z.2 * z.2 ≠ 0 := fun z hz q => by
    by_cases k : z.2 = 0
    · by_cases k2 : z.1 = 0
      · exact hz (Prod.ext k2 k)
      · have := sq_pos (y := z.2) k2
        omega
    · have := sq_pos (y := z.1) k
      omega
  rcases Int.mul_eq_zero.mp e with q | q
  · exact sq x hx q
  · exact sq y hy q
theorem ok_mul {a b c : Nat} {x y : QR} (hx : OKq a x) (hy : OKq b y) (hc : a + b + 1 ≤ c) : OKq c (rmul x y) := ⟨bdq_mul hx.1 hy.1 hc, cmul_ne hx.2 hy.2⟩
theorem ok_div {a b c : Nat} {x y : QR} (hx : OKq a x) (hy : OKq b y) (hn : y.1 ≠ (0, 0)) (hc : a + b + 1 ≤ c) : OKq c (rdiv x y) := ⟨bdq_div hx.1 hy.1 hc, cmul_ne hx.2 hn⟩
theorem ok_sum {a b c : Nat} {s : Int} {x y : QR} (hs : s = 1 ∨ s = -1) (hx : OKq a x) (hy : OKq b y) (hc : a + b + 2 ≤ c) : OKq c (rsum s x y) := ⟨bdq_sum hs hx.1 hy.1 hc, cmul_ne hx.2 hy.2⟩
def oneq : QR := (cre 1, cre 1)
def quartq : QR := (cre 1, cre 4)
theorem ok_one : OKq 1 oneq := ⟨⟨⟨by unfold bd; decide, by unfold bd; decide⟩, ⟨by unfold bd; decide, by unfold bd; decide⟩⟩, by decide⟩
theorem ok_quart : OKq 1 quartq := ⟨⟨⟨by unfold bd; decide, by unfold bd; decide⟩, ⟨by unfold bd; decide, by unfold bd; decide⟩⟩, by decide⟩
/-- what holds of Acts between acts, with the drafts made since F0 A0 -/
def AE (sh : Nat → Nat × Nat) (R : Nat → Nat → Option Nat) (N : Nat) (F0 : Nat → Nat → Int) (A0 : Nat → Int → Int) (L : List (QR × Int)) : (Nat → Nat → Int) → (Nat → Int → Int) → Prop := fun F A => ∃ G, G 121 = oneq ∧ G 132 = quartq ∧ AS sh R N F0 A0 G L F A
theorem y_product (l : Launch) {D : va_G} {ids : Nat → ClassId} {β : Nat} {sh : Nat → Nat × Nat} {N : Nat} {R : Nat → Nat → Option Nat} {F : Nat → Nat → Int} {A : Nat → Int → Int} {V : Nat → Int} {G : Nat → QR} (hA : AcL sh R N) (hS : ST sh R N F A V) (hG : RV V G) {r x y a b : Nat} {vx vy : QR} (hr : r ∈ RatL) (hx : x ∈ RatL) (hy : y ∈ RatL) (nrx : r ≠ x) (nry : r ≠ y) (ex : G x = vx) (ey : G y = vy) (bx : OKq a vx) (bY : OKq b vy) (hab : (a + 8) / 9 + (b + 8) / 9 ≤ 80 ∧ a + b ≤ 711) : MetX l yX4_product cX4_product 3 none 4 109 D ids β sh N R F A [rf r, rf x, rf y] (pVr (AQ sh R N F A V (upG G r (rmul vx vy)))) := by
  subst ex; subst ey
  exact w_product hA hS hG hr hx hy nrx nry bx.1 bY.1 hab
theorem y_quotient (l : Launch) {D : va_G} {ids : Nat → ClassId} {β : Nat} {sh : Nat → Nat × Nat} {N : Nat} {R : Nat → Nat → Option Nat} {F : Nat → Nat → Int} {A : Nat → Int → Int} {V : Nat → Int} {G : Nat → QR} (hA : AcL sh R N) (hS : ST sh R N F A V) (hG : RV V G) {r x y a b : Nat} {vx vy : QR} (hr : r ∈ RatL) (hx : x ∈ RatL) (hy : y ∈ RatL) (nrx : r ≠ x) (nry : r ≠ y) (ex : G x = vx) (ey : G y = vy) (bx : OKq a vx) (bY : OKq b vy) (hab : (a + 8) / 9 + (b + 8) / 9 ≤ 80 ∧ a + b ≤ 711) : MetX l yX4_quotient cX4_quotient 3 none 4 109 D ids β sh N R F A [rf r, rf x, rf y] (pVr (AQ sh R N F A V (upG G r (rdiv vx vy)))) := by
  subst ex; subst ey
  exact w_quotient hA hS hG hr hx hy nrx nry bx.1 bY.1 hab
theorem y_sum (l : Launch) {D : va_G} {ids : Nat → ClassId} {β : Nat} {sh : Nat → Nat × Nat} {N : Nat} {R : Nat → Nat → Option Nat} {F : Nat → Nat → Int} {A : Nat → Int → Int} {V : Nat → Int} {G : Nat → QR} {s0 : Int} (hA : AcL sh R N) (hS : ST sh R N F A V) (hG : RV V G) {r x y a b : Nat} {vx vy : QR} (hr : r ∈ RatL) (hx : x ∈ RatL) (hy : y ∈ RatL) (nrx : r ≠ x) (nry : r ≠ y) (hs : s0 = 1 ∨ s0 = -1) (ex : G x = vx) (ey : G y = vy) (bx : OKq a vx) (bY : OKq b vy) (hab : (a + 8) / 9 + (b + 8) / 9 ≤ 80 ∧ a + b + 1 ≤ 711) : MetX l yX4_sum cX4_sum 4 none 4 109 D ids β sh N R F A [rf r, rf x, rf y, pI s0] (pVr (AQ sh R N F A V (upG G r (rsum s0 vx vy)))) := by
  subst ex; subst ey
  exact w_sum hA hS hG hr hx hy nrx nry hs bx.1 bY.1 hab
theorem y_draft {l : Launch} {D : va_G} {ids : Nat → ClassId} {β : Nat} {sh : Nat → Nat × Nat} {N : Nat} {R : Nat → Nat → Option Nat} {F : Nat → Nat → Int} {A : Nat → Int → Int} {V : Nat → Int} {G : Nat → QR} {F0 : Nat → Nat → Int} {A0 : Nat → Int → Int} {L : List (QR × Int)} {r a : Nat} {tone entry : Int} {v : QR} (hA : AcL sh R N) (hS : ST sh R N F A V) (hG : RV V G) (hgl : ∃ g l, gl2 F g l) (hb : F 15 7 = 0 ∨ F 15 7 = 1) (hf : FRa sh F0 A0 F A) (hd : DrL (A 3) (A0 3) (F0 15 7) (F 15 7) L) (hr : r ∈ RatL) (ev : G r = v) (bx : OKq a v) (hab : (a + 8) / 9 + (a + 8) / 9 ≤ 80 ∧ a + a + 1 ≤ 711) (hbb : 2 * ((a + 8) / 9) ≤ 80 ∧ 2 * a + 1 ≤ 711) (ht : 0 ≤ tone ∧ tone < 4) (he : 0 ≤ entry ∧ entry < 4) (hdj : ∀ t ∈ L, t.2 + 9 ≤ tone * 36 + entry * 9 ∨ tone * 36 + entry * 9 + 9 ≤ t.2) : MetX l yX3_draft cX3_draft 8 none 5 138 D ids β sh N R F A [rf 15, rf (r + 1), rf (r + 6), pI tone, pI entry] (pVr (AS sh R N F0 A0 G ((v, tone * 36 + entry * 9) :: L))) := by
  subst ev
  exact w_draft hA hS hG hgl hb hf hd hr bx.1.1 bx.1.2 hab hbb bx.2 ht he hdj
theorem up16 {b nb : Int} (h : 0 ≤ b ∧ b < nb) (hn : nb ≤ 16) : 0 ≤ b ∧ b < 16 := ⟨h.1, by omega⟩
theorem ldn_ok {f : Int → Int} {nb : Int} (hB : ∀ b t e : Int, 0 ≤ b ∧ b < nb → 0 ≤ t ∧ t < 4 → 0 ≤ e ∧ e < 4 → OKq 25 (num f (b * 144 + t * 36 + e * 9))) {b t tn : Int} (hb : 0 ≤ b ∧ b < nb) (ht : 0 ≤ t ∧ t < 4) (k : Nat) (hk : k < 4) : OKq 25 (ldn f b t tn k) := by
  unfold ldn
  split
  · exact hB b t k hb ht ⟨by omega, by omega⟩
  · exact hB b t (3 - k) hb ht ⟨by omega, by omega⟩
/-- the four of joined -/
def joinE (a b : Nat → QR) : QR := rsum (-1) oneq (rmul (a 3) (b 0))
def joinL (a b : Nat → QR) (tone : Int) : List (QR × Int) :=
  [(rsum 1 (b 3) (rdiv (rmul (rmul (b 1) (b 2)) (a 3)) (joinE a b)), tone * 36 + 3 * 9), (rdiv (rmul (a 2) (b 2)) (joinE a b), tone * 36 + 2 * 9), (rdiv (rmul (a 1) (b 1)) (joinE a b), tone * 36 + 1 * 9), (rsum 1 (a 0) (rdiv (rmul (rmul (a 1) (a 2)) (b 0)) (joinE a b)), tone * 36 + 0 * 9)]
theorem dX0_joined_0 : decode cX0_joined 0 = .ok (.aload_n 0, 1) := by decide +kernel
theorem dX0_joined_1 : decode cX0_joined 1 = .ok (.aload_n 0, 1) := by decide +kernel
theorem dX0_joined_2 : decode cX0_joined 2 = .ok (.getfield 44, 3) := by decide +kernel
theorem dX0_joined_5 : decode cX0_joined 5 = .ok (.iload_n 2, 1) := by decide +kernel
theorem dX0_joined_6 : decode cX0_joined 6 = .ok (.iload_n 1, 1) := by decide +kernel
theorem dX0_joined_7 : decode cX0_joined 7 = .ok (.iconst 0, 1) := by decide +kernel
theorem dX0_joined_8 : decode cX0_joined 8 = .ok (.invokevirtual 120, 3) := by decide +kernel
theorem dX0_joined_11 : decode cX0_joined 11 = .ok (.aload_n 0, 1) := by decide +kernel
theorem dX0_joined_12 : decode cX0_joined 12 = .ok (.aload_n 0, 1) := by decide +kernel
theorem dX0_joined_13 : decode cX0_joined 13 = .ok (.getfield 48, 3) := by decide +kernel
theorem dX0_joined_16 : decode cX0_joined 16 = .ok (.iload_n 3, 1) := by decide +kernel
theorem dX0_joined_17 : decode cX0_joined 17 = .ok (.iload_n 1, 1) := by decide +kernel
theorem dX0_joined_18 : decode cX0_joined 18 = .ok (.iconst 0, 1) := by decide +kernel
theorem dX0_joined_19 : decode cX0_joined 19 = .ok (.invokevirtual 120, 3) := by decide +kernel
theorem dX0_joined_22 : decode cX0_joined 22 = .ok (.aload_n 0, 1) := by decide +kernel
theorem dX0_joined_23 : decode cX0_joined 23 = .ok (.getfield 70, 3) := by decide +kernel
theorem dX0_joined_26 : decode cX0_joined 26 = .ok (.aload_n 0, 1) := by decide +kernel
theorem dX0_joined_27 : decode cX0_joined 27 = .ok (.getfield 44, 3) := by decide +kernel
theorem dX0_joined_30 : decode cX0_joined 30 = .ok (.iconst 3, 1) := by decide +kernel
theorem dX0_joined_31 : decode cX0_joined 31 = .ok (.aaload, 1) := by decide +kernel
theorem dX0_joined_32 : decode cX0_joined 32 = .ok (.aload_n 0, 1) := by decide +kernel
theorem dX0_joined_33 : decode cX0_joined 33 = .ok (.getfield 48, 3) := by decide +kernel
theorem dX0_joined_36 : decode cX0_joined 36 = .ok (.iconst 0, 1) := by decide +kernel
theorem dX0_joined_37 : decode cX0_joined 37 = .ok (.aaload, 1) := by decide +kernel
theorem dX0_joined_38 : decode cX0_joined 38 = .ok (.invokevirtual 124, 3) := by decide +kernel
theorem dX0_joined_41 : decode cX0_joined 41 = .ok (.aload_n 0, 1) := by decide +kernel
theorem dX0_joined_42 : decode cX0_joined 42 = .ok (.getfield 61, 3) := by decide +kernel
theorem dX0_joined_45 : decode cX0_joined 45 = .ok (.aload_n 0, 1) := by decide +kernel
theorem dX0_joined_46 : decode cX0_joined 46 = .ok (.getfield 54, 3) := by decide +kernel
theorem dX0_joined_49 : decode cX0_joined 49 = .ok (.aload_n 0, 1) := by decide +kernel
theorem dX0_joined_50 : decode cX0_joined 50 = .ok (.getfield 70, 3) := by decide +kernel
theorem dX0_joined_53 : decode cX0_joined 53 = .ok (.iconst (-1), 1) := by decide +kernel
theorem dX0_joined_54 : decode cX0_joined 54 = .ok (.invokevirtual 128, 3) := by decide +kernel
theorem dX0_joined_57 : decode cX0_joined 57 = .ok (.aload_n 0, 1) := by decide +kernel
theorem dX0_joined_58 : decode cX0_joined 58 = .ok (.getfield 61, 3) := by decide +kernel
theorem dX0_joined_61 : decode cX0_joined 61 = .ok (.invokevirtual 132, 3) := by decide +kernel
theorem dX0_joined_64 : decode cX0_joined 64 = .ok (.ifCond .eq 5, 3) := by decide +kernel
theorem dX0_joined_67 : decode cX0_joined 67 = .ok (.iconst 1, 1) := by decide +kernel
theorem dX0_joined_68 : decode cX0_joined 68 = .ok (.ireturn, 1) := by decide +kernel
theorem dX0_joined_69 : decode cX0_joined 69 = .ok (.aload_n 0, 1) := by decide +kernel
theorem dX0_joined_70 : decode cX0_joined 70 = .ok (.getfield 70, 3) := by decide +kernel
theorem dX0_joined_73 : decode cX0_joined 73 = .ok (.aload_n 0, 1) := by decide +kernel
theorem dX0_joined_74 : decode cX0_joined 74 = .ok (.getfield 44, 3) := by decide +kernel
theorem dX0_joined_77 : decode cX0_joined 77 = .ok (.iconst 1, 1) := by decide +kernel
theorem dX0_joined_78 : decode cX0_joined 78 = .ok (.aaload, 1) := by decide +kernel
theorem dX0_joined_79 : decode cX0_joined 79 = .ok (.aload_n 0, 1) := by decide +kernel
theorem dX0_joined_80 : decode cX0_joined 80 = .ok (.getfield 44, 3) := by decide +kernel
theorem dX0_joined_83 : decode cX0_joined 83 = .ok (.iconst 2, 1) := by decide +kernel
theorem dX0_joined_84 : decode cX0_joined 84 = .ok (.aaload, 1) := by decide +kernel
theorem dX0_joined_85 : decode cX0_joined 85 = .ok (.invokevirtual 124, 3) := by decide +kernel
theorem dX0_joined_88 : decode cX0_joined 88 = .ok (.aload_n 0, 1) := by decide +kernel
theorem dX0_joined_89 : decode cX0_joined 89 = .ok (.getfield 73, 3) := by decide +kernel
theorem dX0_joined_92 : decode cX0_joined 92 = .ok (.aload_n 0, 1) := by decide +kernel
theorem dX0_joined_93 : decode cX0_joined 93 = .ok (.getfield 70, 3) := by decide +kernel
theorem dX0_joined_96 : decode cX0_joined 96 = .ok (.aload_n 0, 1) := by decide +kernel
theorem dX0_joined_97 : decode cX0_joined 97 = .ok (.getfield 48, 3) := by decide +kernel
theorem dX0_joined_100 : decode cX0_joined 100 = .ok (.iconst 0, 1) := by decide +kernel
theorem dX0_joined_101 : decode cX0_joined 101 = .ok (.aaload, 1) := by decide +kernel
theorem dX0_joined_102 : decode cX0_joined 102 = .ok (.invokevirtual 124, 3) := by decide +kernel
theorem dX0_joined_105 : decode cX0_joined 105 = .ok (.aload_n 0, 1) := by decide +kernel
theorem dX0_joined_106 : decode cX0_joined 106 = .ok (.getfield 70, 3) := by decide +kernel
theorem dX0_joined_109 : decode cX0_joined 109 = .ok (.aload_n 0, 1) := by decide +kernel
theorem dX0_joined_110 : decode cX0_joined 110 = .ok (.getfield 73, 3) := by decide +kernel
theorem dX0_joined_113 : decode cX0_joined 113 = .ok (.aload_n 0, 1) := by decide +kernel
theorem dX0_joined_114 : decode cX0_joined 114 = .ok (.getfield 61, 3) := by decide +kernel
theorem dX0_joined_117 : decode cX0_joined 117 = .ok (.invokevirtual 136, 3) := by decide +kernel
theorem dX0_joined_120 : decode cX0_joined 120 = .ok (.aload_n 0, 1) := by decide +kernel
theorem dX0_joined_121 : decode cX0_joined 121 = .ok (.getfield 73, 3) := by decide +kernel
theorem dX0_joined_124 : decode cX0_joined 124 = .ok (.aload_n 0, 1) := by decide +kernel
theorem dX0_joined_125 : decode cX0_joined 125 = .ok (.getfield 44, 3) := by decide +kernel
theorem dX0_joined_128 : decode cX0_joined 128 = .ok (.iconst 0, 1) := by decide +kernel
theorem dX0_joined_129 : decode cX0_joined 129 = .ok (.aaload, 1) := by decide +kernel
theorem dX0_joined_130 : decode cX0_joined 130 = .ok (.aload_n 0, 1) := by decide +kernel
theorem dX0_joined_131 : decode cX0_joined 131 = .ok (.getfield 70, 3) := by decide +kernel
theorem dX0_joined_134 : decode cX0_joined 134 = .ok (.iconst 1, 1) := by decide +kernel
theorem dX0_joined_135 : decode cX0_joined 135 = .ok (.invokevirtual 128, 3) := by decide +kernel
theorem dX0_joined_138 : decode cX0_joined 138 = .ok (.aload_n 0, 1) := by decide +kernel
theorem dX0_joined_139 : decode cX0_joined 139 = .ok (.getfield 34, 3) := by decide +kernel
theorem dX0_joined_142 : decode cX0_joined 142 = .ok (.aload_n 0, 1) := by decide +kernel
theorem dX0_joined_143 : decode cX0_joined 143 = .ok (.getfield 73, 3) := by decide +kernel
theorem dX0_joined_146 : decode cX0_joined 146 = .ok (.getfield 139, 3) := by decide +kernel
theorem dX0_joined_149 : decode cX0_joined 149 = .ok (.aload_n 0, 1) := by decide +kernel
theorem dX0_joined_150 : decode cX0_joined 150 = .ok (.getfield 73, 3) := by decide +kernel
theorem dX0_joined_153 : decode cX0_joined 153 = .ok (.getfield 142, 3) := by decide +kernel
theorem dX0_joined_156 : decode cX0_joined 156 = .ok (.iload_n 1, 1) := by decide +kernel
theorem dX0_joined_157 : decode cX0_joined 157 = .ok (.iconst 0, 1) := by decide +kernel
theorem dX0_joined_158 : decode cX0_joined 158 = .ok (.invokevirtual 145, 3) := by decide +kernel
theorem dX0_joined_161 : decode cX0_joined 161 = .ok (.aload_n 0, 1) := by decide +kernel
theorem dX0_joined_162 : decode cX0_joined 162 = .ok (.getfield 70, 3) := by decide +kernel
theorem dX0_joined_165 : decode cX0_joined 165 = .ok (.aload_n 0, 1) := by decide +kernel
theorem dX0_joined_166 : decode cX0_joined 166 = .ok (.getfield 44, 3) := by decide +kernel
theorem dX0_joined_169 : decode cX0_joined 169 = .ok (.iconst 1, 1) := by decide +kernel
theorem dX0_joined_170 : decode cX0_joined 170 = .ok (.aaload, 1) := by decide +kernel
theorem dX0_joined_171 : decode cX0_joined 171 = .ok (.aload_n 0, 1) := by decide +kernel
theorem dX0_joined_172 : decode cX0_joined 172 = .ok (.getfield 48, 3) := by decide +kernel
theorem dX0_joined_175 : decode cX0_joined 175 = .ok (.iconst 1, 1) := by decide +kernel
theorem dX0_joined_176 : decode cX0_joined 176 = .ok (.aaload, 1) := by decide +kernel
theorem dX0_joined_177 : decode cX0_joined 177 = .ok (.invokevirtual 124, 3) := by decide +kernel
theorem dX0_joined_180 : decode cX0_joined 180 = .ok (.aload_n 0, 1) := by decide +kernel
theorem dX0_joined_181 : decode cX0_joined 181 = .ok (.getfield 73, 3) := by decide +kernel
theorem dX0_joined_184 : decode cX0_joined 184 = .ok (.aload_n 0, 1) := by decide +kernel
theorem dX0_joined_185 : decode cX0_joined 185 = .ok (.getfield 70, 3) := by decide +kernel
theorem dX0_joined_188 : decode cX0_joined 188 = .ok (.aload_n 0, 1) := by decide +kernel
theorem dX0_joined_189 : decode cX0_joined 189 = .ok (.getfield 61, 3) := by decide +kernel
theorem dX0_joined_192 : decode cX0_joined 192 = .ok (.invokevirtual 136, 3) := by decide +kernel
theorem dX0_joined_195 : decode cX0_joined 195 = .ok (.aload_n 0, 1) := by decide +kernel
theorem dX0_joined_196 : decode cX0_joined 196 = .ok (.getfield 34, 3) := by decide +kernel
theorem dX0_joined_199 : decode cX0_joined 199 = .ok (.aload_n 0, 1) := by decide +kernel
theorem dX0_joined_200 : decode cX0_joined 200 = .ok (.getfield 73, 3) := by decide +kernel
theorem dX0_joined_203 : decode cX0_joined 203 = .ok (.getfield 139, 3) := by decide +kernel
theorem dX0_joined_206 : decode cX0_joined 206 = .ok (.aload_n 0, 1) := by decide +kernel
theorem dX0_joined_207 : decode cX0_joined 207 = .ok (.getfield 73, 3) := by decide +kernel
theorem dX0_joined_210 : decode cX0_joined 210 = .ok (.getfield 142, 3) := by decide +kernel
theorem dX0_joined_213 : decode cX0_joined 213 = .ok (.iload_n 1, 1) := by decide +kernel
theorem dX0_joined_214 : decode cX0_joined 214 = .ok (.iconst 1, 1) := by decide +kernel
theorem dX0_joined_215 : decode cX0_joined 215 = .ok (.invokevirtual 145, 3) := by decide +kernel
theorem dX0_joined_218 : decode cX0_joined 218 = .ok (.aload_n 0, 1) := by decide +kernel
theorem dX0_joined_219 : decode cX0_joined 219 = .ok (.getfield 70, 3) := by decide +kernel
theorem dX0_joined_222 : decode cX0_joined 222 = .ok (.aload_n 0, 1) := by decide +kernel
theorem dX0_joined_223 : decode cX0_joined 223 = .ok (.getfield 44, 3) := by decide +kernel
theorem dX0_joined_226 : decode cX0_joined 226 = .ok (.iconst 2, 1) := by decide +kernel
theorem dX0_joined_227 : decode cX0_joined 227 = .ok (.aaload, 1) := by decide +kernel
theorem dX0_joined_228 : decode cX0_joined 228 = .ok (.aload_n 0, 1) := by decide +kernel
theorem dX0_joined_229 : decode cX0_joined 229 = .ok (.getfield 48, 3) := by decide +kernel
theorem dX0_joined_232 : decode cX0_joined 232 = .ok (.iconst 2, 1) := by decide +kernel
theorem dX0_joined_233 : decode cX0_joined 233 = .ok (.aaload, 1) := by decide +kernel
theorem dX0_joined_234 : decode cX0_joined 234 = .ok (.invokevirtual 124, 3) := by decide +kernel
theorem dX0_joined_237 : decode cX0_joined 237 = .ok (.aload_n 0, 1) := by decide +kernel
theorem dX0_joined_238 : decode cX0_joined 238 = .ok (.getfield 73, 3) := by decide +kernel
theorem dX0_joined_241 : decode cX0_joined 241 = .ok (.aload_n 0, 1) := by decide +kernel
theorem dX0_joined_242 : decode cX0_joined 242 = .ok (.getfield 70, 3) := by decide +kernel
theorem dX0_joined_245 : decode cX0_joined 245 = .ok (.aload_n 0, 1) := by decide +kernel
theorem dX0_joined_246 : decode cX0_joined 246 = .ok (.getfield 61, 3) := by decide +kernel
theorem dX0_joined_249 : decode cX0_joined 249 = .ok (.invokevirtual 136, 3) := by decide +kernel
theorem dX0_joined_252 : decode cX0_joined 252 = .ok (.aload_n 0, 1) := by decide +kernel
theorem dX0_joined_253 : decode cX0_joined 253 = .ok (.getfield 34, 3) := by decide +kernel
theorem dX0_joined_256 : decode cX0_joined 256 = .ok (.aload_n 0, 1) := by decide +kernel
theorem dX0_joined_257 : decode cX0_joined 257 = .ok (.getfield 73, 3) := by decide +kernel
theorem dX0_joined_260 : decode cX0_joined 260 = .ok (.getfield 139, 3) := by decide +kernel
theorem dX0_joined_263 : decode cX0_joined 263 = .ok (.aload_n 0, 1) := by decide +kernel
theorem dX0_joined_264 : decode cX0_joined 264 = .ok (.getfield 73, 3) := by decide +kernel
theorem dX0_joined_267 : decode cX0_joined 267 = .ok (.getfield 142, 3) := by decide +kernel
theorem dX0_joined_270 : decode cX0_joined 270 = .ok (.iload_n 1, 1) := by decide +kernel
theorem dX0_joined_271 : decode cX0_joined 271 = .ok (.iconst 2, 1) := by decide +kernel
theorem dX0_joined_272 : decode cX0_joined 272 = .ok (.invokevirtual 145, 3) := by decide +kernel
theorem dX0_joined_275 : decode cX0_joined 275 = .ok (.aload_n 0, 1) := by decide +kernel
theorem dX0_joined_276 : decode cX0_joined 276 = .ok (.getfield 70, 3) := by decide +kernel
theorem dX0_joined_279 : decode cX0_joined 279 = .ok (.aload_n 0, 1) := by decide +kernel
theorem dX0_joined_280 : decode cX0_joined 280 = .ok (.getfield 48, 3) := by decide +kernel
theorem dX0_joined_283 : decode cX0_joined 283 = .ok (.iconst 1, 1) := by decide +kernel
theorem dX0_joined_284 : decode cX0_joined 284 = .ok (.aaload, 1) := by decide +kernel
theorem dX0_joined_285 : decode cX0_joined 285 = .ok (.aload_n 0, 1) := by decide +kernel
theorem dX0_joined_286 : decode cX0_joined 286 = .ok (.getfield 48, 3) := by decide +kernel
theorem dX0_joined_289 : decode cX0_joined 289 = .ok (.iconst 2, 1) := by decide +kernel
theorem dX0_joined_290 : decode cX0_joined 290 = .ok (.aaload, 1) := by decide +kernel
theorem dX0_joined_291 : decode cX0_joined 291 = .ok (.invokevirtual 124, 3) := by decide +kernel
theorem dX0_joined_294 : decode cX0_joined 294 = .ok (.aload_n 0, 1) := by decide +kernel
theorem dX0_joined_295 : decode cX0_joined 295 = .ok (.getfield 73, 3) := by decide +kernel
theorem dX0_joined_298 : decode cX0_joined 298 = .ok (.aload_n 0, 1) := by decide +kernel
theorem dX0_joined_299 : decode cX0_joined 299 = .ok (.getfield 70, 3) := by decide +kernel
theorem dX0_joined_302 : decode cX0_joined 302 = .ok (.aload_n 0, 1) := by decide +kernel
theorem dX0_joined_303 : decode cX0_joined 303 = .ok (.getfield 44, 3) := by decide +kernel
theorem dX0_joined_306 : decode cX0_joined 306 = .ok (.iconst 3, 1) := by decide +kernel
theorem dX0_joined_307 : decode cX0_joined 307 = .ok (.aaload, 1) := by decide +kernel
theorem dX0_joined_308 : decode cX0_joined 308 = .ok (.invokevirtual 124, 3) := by decide +kernel
theorem dX0_joined_311 : decode cX0_joined 311 = .ok (.aload_n 0, 1) := by decide +kernel
theorem dX0_joined_312 : decode cX0_joined 312 = .ok (.getfield 70, 3) := by decide +kernel
theorem dX0_joined_315 : decode cX0_joined 315 = .ok (.aload_n 0, 1) := by decide +kernel
theorem dX0_joined_316 : decode cX0_joined 316 = .ok (.getfield 73, 3) := by decide +kernel
theorem dX0_joined_319 : decode cX0_joined 319 = .ok (.aload_n 0, 1) := by decide +kernel
theorem dX0_joined_320 : decode cX0_joined 320 = .ok (.getfield 61, 3) := by decide +kernel
theorem dX0_joined_323 : decode cX0_joined 323 = .ok (.invokevirtual 136, 3) := by decide +kernel
theorem dX0_joined_326 : decode cX0_joined 326 = .ok (.aload_n 0, 1) := by decide +kernel
theorem dX0_joined_327 : decode cX0_joined 327 = .ok (.getfield 73, 3) := by decide +kernel
theorem dX0_joined_330 : decode cX0_joined 330 = .ok (.aload_n 0, 1) := by decide +kernel
theorem dX0_joined_331 : decode cX0_joined 331 = .ok (.getfield 48, 3) := by decide +kernel
theorem dX0_joined_334 : decode cX0_joined 334 = .ok (.iconst 3, 1) := by decide +kernel
theorem dX0_joined_335 : decode cX0_joined 335 = .ok (.aaload, 1) := by decide +kernel
theorem dX0_joined_336 : decode cX0_joined 336 = .ok (.aload_n 0, 1) := by decide +kernel
theorem dX0_joined_337 : decode cX0_joined 337 = .ok (.getfield 70, 3) := by decide +kernel
theorem dX0_joined_340 : decode cX0_joined 340 = .ok (.iconst 1, 1) := by decide +kernel
theorem dX0_joined_341 : decode cX0_joined 341 = .ok (.invokevirtual 128, 3) := by decide +kernel
theorem dX0_joined_344 : decode cX0_joined 344 = .ok (.aload_n 0, 1) := by decide +kernel
theorem dX0_joined_345 : decode cX0_joined 345 = .ok (.getfield 34, 3) := by decide +kernel
theorem dX0_joined_348 : decode cX0_joined 348 = .ok (.aload_n 0, 1) := by decide +kernel
theorem dX0_joined_349 : decode cX0_joined 349 = .ok (.getfield 73, 3) := by decide +kernel
theorem dX0_joined_352 : decode cX0_joined 352 = .ok (.getfield 139, 3) := by decide +kernel
theorem dX0_joined_355 : decode cX0_joined 355 = .ok (.aload_n 0, 1) := by decide +kernel
theorem dX0_joined_356 : decode cX0_joined 356 = .ok (.getfield 73, 3) := by decide +kernel
theorem dX0_joined_359 : decode cX0_joined 359 = .ok (.getfield 142, 3) := by decide +kernel
theorem dX0_joined_362 : decode cX0_joined 362 = .ok (.iload_n 1, 1) := by decide +kernel
theorem dX0_joined_363 : decode cX0_joined 363 = .ok (.iconst 3, 1) := by decide +kernel
theorem dX0_joined_364 : decode cX0_joined 364 = .ok (.invokevirtual 145, 3) := by decide +kernel
theorem dX0_joined_367 : decode cX0_joined 367 = .ok (.iconst 0, 1) := by decide +kernel
theorem dX0_joined_368 : decode cX0_joined 368 = .ok (.ireturn, 1) := by decide +kernel
set_option maxHeartbeats 16000000 in
theorem m_joined (l : Launch) {D : va_G} {ids : Nat → ClassId} {β : Nat} {sh : Nat → Nat × Nat} {N : Nat} {R : Nat → Nat → Option Nat} {F : Nat → Nat → Int} {A : Nat → Int → Int} {tone nb : Int} (hA : AcL sh R N) (hAE : AE sh R N F A [] F A) (hT : CK (A 2)) (hnb : nb ≤ 16) (hB : ∀ b t e : Int, 0 ≤ b ∧ b < nb → 0 ≤ t ∧ t < 4 → 0 ≤ e ∧ e < 4 → OKq 25 (num (A 2) (b * 144 + t * 36 + e * 9))) (ht : 0 ≤ tone ∧ tone < 4) {bA bB : Int} (hba0 : 0 ≤ bA ∧ bA < nb) (hbb0 : 0 ≤ bB ∧ bB < nb) : MetX l yX0_joined cX0_joined 4 (some (.int)) 6 165 D ids β sh N R F A [rf 7, pI tone, pI bA, pI bB] (pIr (fun z F2 A2 => (z = 1 ∧ (joinE (ldn (A 2) bA tone 0) (ldn (A 2) bB tone 0)).1 = (0, 0) ∧ AE sh R N F A [] F2 A2) ∨ (z = 0 ∧ (joinE (ldn (A 2) bA tone 0) (ldn (A 2) bB tone 0)).1 ≠ (0, 0) ∧ AE sh R N F A (joinL (ldn (A 2) bA tone 0) (ldn (A 2) bB tone 0) tone) F2 A2))) := by
  refine MetX.of (loc := [_, _, _, _]) (plainFor_of_name (by decide +kernel)) (Nat.le_of_ble_eq_true rfl) rfl ?_
  intro p e s m args below meth c hC hK hr hlk
  obtain ⟨hL, hW, ⟨a1, a2⟩, ⟨f0, f1, f2, f3, f4, f5, f6, f7, f8, f9, f10⟩, ⟨f11, f12, f13, f14, f15⟩, ⟨⟨b1, b2⟩, ⟨b3, b4⟩, b5, b6⟩, hR, hsg⟩ := id hA
  obtain ⟨⟨j1, j2⟩, ⟨r0, r1, r2, r3, r4⟩, ⟨j3, j4⟩, ⟨j5, j6⟩, -⟩ := id hL
  have j15 := hW.1.1
  have j16 := hW.1.2.1
  obtain ⟨G, g121, g132, VI, hSI, hGI, hglI, hbI, hfI, hdI⟩ := id hAE
  have n2 : sh 2 ≠ (1, 80) := by rw [j4]; decide
  have o_oneq := ok_one
  have o_quartq := ok_quart
  have rt32 : 32 < N ∧ sh 32 = (0, 4) := ⟨(hR 32 (by decide)).1, (hR 32 (by decide)).2.1⟩
  have rt43 : 43 < N ∧ sh 43 = (0, 4) := ⟨(hR 43 (by decide)).1, (hR 43 (by decide)).2.1⟩
  have rt54 : 54 < N ∧ sh 54 = (0, 4) := ⟨(hR 54 (by decide)).1, (hR 54 (by decide)).2.1⟩
  have rt65 : 65 < N ∧ sh 65 = (0, 4) := ⟨(hR 65 (by decide)).1, (hR 65 (by decide)).2.1⟩
  have rt77 : 77 < N ∧ sh 77 = (0, 4) := ⟨(hR 77 (by decide)).1, (hR 77 (by decide)).2.1⟩
  have rt88 : 88 < N ∧ sh 88 = (0, 4) := ⟨(hR 88 (by decide)).1, (hR 88 (by decide)).2.1⟩
  have rt99 : 99 < N ∧ sh 99 = (0, 4) := ⟨(hR 99 (by decide)).1, (hR 99 (by decide)).2.1⟩
  have rt110 : 110 < N ∧ sh 110 = (0, 4) := ⟨(hR 110 (by decide)).1, (hR 110 (by decide)).2.1⟩
  have rt121 : 121 < N ∧ sh 121 = (0, 4) := ⟨(hR 121 (by decide)).1, (hR 121 (by decide)).2.1⟩
  have rt132 : 132 < N ∧ sh 132 = (0, 4) := ⟨(hR 132 (by decide)).1, (hR 132 (by decide)).2.1⟩
  have rt143 : 143 < N ∧ sh 143 = (0, 4) := ⟨(hR 143 (by decide)).1, (hR 143 (by decide)).2.1⟩
  have rt154 : 154 < N ∧ sh 154 = (0, 4) := ⟨(hR 154 (by decide)).1, (hR 154 (by decide)).2.1⟩
  have rt165 : 165 < N ∧ sh 165 = (0, 4) := ⟨(hR 165 (by decide)).1, (hR 165 (by decide)).2.1⟩
  have rt176 : 176 < N ∧ sh 176 = (0, 4) := ⟨(hR 176 (by decide)).1, (hR 176 (by decide)).2.1⟩
  have rt187 : 187 < N ∧ sh 187 = (0, 4) := ⟨(hR 187 (by decide)).1, (hR 187 (by decide)).2.1⟩
  obtain ⟨rn32, rs32⟩ := rt32
  have ro32 := (hR 32 (by decide)).2.2.1
  have ru32 := (hR 32 (by decide)).2.2.2.1
  obtain ⟨rn43, rs43⟩ := rt43
  have ro43 := (hR 43 (by decide)).2.2.1
  have ru43 := (hR 43 (by decide)).2.2.2.1
  obtain ⟨rn54, rs54⟩ := rt54
  have ro54 := (hR 54 (by decide)).2.2.1
  have ru54 := (hR 54 (by decide)).2.2.2.1
  obtain ⟨rn65, rs65⟩ := rt65
  have ro65 := (hR 65 (by decide)).2.2.1
  have ru65 := (hR 65 (by decide)).2.2.2.1
  obtain ⟨rn77, rs77⟩ := rt77
  have ro77 := (hR 77 (by decide)).2.2.1
  have ru77 := (hR 77 (by decide)).2.2.2.1
  obtain ⟨rn88, rs88⟩ := rt88
  have ro88 := (hR 88 (by decide)).2.2.1
  have ru88 := (hR 88 (by decide)).2.2.2.1
  obtain ⟨rn99, rs99⟩ := rt99
  have ro99 := (hR 99 (by decide)).2.2.1
  have ru99 := (hR 99 (by decide)).2.2.2.1
  obtain ⟨rn110, rs110⟩ := rt110
  have ro110 := (hR 110 (by decide)).2.2.1
  have ru110 := (hR 110 (by decide)).2.2.2.1
  obtain ⟨rn121, rs121⟩ := rt121
  have ro121 := (hR 121 (by decide)).2.2.1
  have ru121 := (hR 121 (by decide)).2.2.2.1
  obtain ⟨rn132, rs132⟩ := rt132
  have ro132 := (hR 132 (by decide)).2.2.1
  have ru132 := (hR 132 (by decide)).2.2.2.1
  obtain ⟨rn143, rs143⟩ := rt143
  have ro143 := (hR 143 (by decide)).2.2.1
  have ru143 := (hR 143 (by decide)).2.2.2.1
  obtain ⟨rn154, rs154⟩ := rt154
  have ro154 := (hR 154 (by decide)).2.2.1
  have ru154 := (hR 154 (by decide)).2.2.2.1
  obtain ⟨rn165, rs165⟩ := rt165
  have ro165 := (hR 165 (by decide)).2.2.1
  have ru165 := (hR 165 (by decide)).2.2.2.1
  obtain ⟨rn176, rs176⟩ := rt176
  have ro176 := (hR 176 (by decide)).2.2.1
  have ru176 := (hR 176 (by decide)).2.2.2.1
  obtain ⟨rn187, rs187⟩ := rt187
  have ro187 := (hR 187 (by decide)).2.2.1
  have ru187 := (hR 187 (by decide)).2.2.2.1
  have hba := up16 hba0 hnb
  have hbb := up16 hbb0 hnb
  refine x_aload_n (pc2 := 1) hC rfl rfl dX0_joined_0 rfl ?_
  refine x_aload_n (pc2 := 2) hC rfl rfl dX0_joined_1 rfl ?_
  refine g_268 (pc2 := 5) hC hK (by assumption) (by assumption) (by assumption) dX0_joined_2 rfl ?_
  refine x_iload_n (pc2 := 6) hC rfl rfl dX0_joined_5 rfl ?_
  refine x_iload_n (pc2 := 7) hC rfl rfl dX0_joined_6 rfl ?_
  refine x_iconst (pc2 := 8) hC dX0_joined_7 rfl ?_
  refine x_cVv (pc2 := 11) (ci := 0) hC hK (m_loadBox l hA hSI hGI (base := 32) (Or.inl ⟨rfl, rfl⟩) hT hba ht (Or.inl rfl)) lk_473 rfl rfl (by decide) (by assumption) (by assumption) ⟨Nat.le_of_ble_eq_true rfl, Nat.le_of_ble_eq_true rfl⟩ ⟨Nat.le_refl _, Nat.le_refl _⟩ rfl (Nat.le_of_ble_eq_true rfl) dX0_joined_8 rfl ?_
  rintro F8 A8 hq
  obtain ⟨V8, hS8, hG8, hgl8, hb8, hf8, hd8⟩ := AS.step hA hglI hbI hfI hdI hq
  clear hq
  have eA8 : A8 2 = A 2 := hf8.2 2 (by decide) n2
  refine x_aload_n (pc2 := 12) hC rfl rfl dX0_joined_11 rfl ?_
  refine x_aload_n (pc2 := 13) hC rfl rfl dX0_joined_12 rfl ?_
  refine g_269 (pc2 := 16) hC hK (by assumption) (by assumption) (by assumption) dX0_joined_13 rfl ?_
  refine x_iload_n (pc2 := 17) hC rfl rfl dX0_joined_16 rfl ?_
  refine x_iload_n (pc2 := 18) hC rfl rfl dX0_joined_17 rfl ?_
  refine x_iconst (pc2 := 19) hC dX0_joined_18 rfl ?_
  refine x_cVv (pc2 := 22) (ci := 0) hC hK (m_loadBox l hA hS8 hG8 (base := 77) (Or.inr ⟨rfl, rfl⟩) (by rw [eA8]; exact hT) hbb ht (Or.inl rfl)) lk_473 rfl rfl (by decide) (by assumption) (by assumption) ⟨Nat.le_of_ble_eq_true rfl, Nat.le_of_ble_eq_true rfl⟩ ⟨Nat.le_refl _, Nat.le_refl _⟩ rfl (Nat.le_of_ble_eq_true rfl) dX0_joined_19 rfl ?_
  rintro F19 A19 hq
  obtain ⟨V19, hS19, hG19, hgl19, hb19, hf19, hd19⟩ := AS.step hA hgl8 hb8 hf8 hd8 hq
  clear hq
  have eA19 : A19 2 = A 2 := hf19.2 2 (by decide) n2
  rw [eA8] at hG19
  obtain ⟨na, ena⟩ : ∃ n, n = ldn (A 2) bA tone 0 := ⟨_, rfl⟩
  obtain ⟨nb, enb⟩ : ∃ n, n = ldn (A 2) bB tone 0 := ⟨_, rfl⟩
  rw [← ena, ← enb] at hG19
  have oa := ldn_ok hB (tn := 0) hba0 ht
  have ob := ldn_ok hB (tn := 0) hbb0 ht
  rw [← ena] at oa
  rw [← enb] at ob
  obtain ⟨xa0, ea0⟩ : ∃ v, v = na 0 := ⟨_, rfl⟩
  obtain ⟨xb0, eb0⟩ : ∃ v, v = nb 0 := ⟨_, rfl⟩
  have o_xa0 := oa 0 (by decide)
  have o_xb0 := ob 0 (by decide)
  rw [← ea0] at o_xa0
  rw [← eb0] at o_xb0
  obtain ⟨xa1, ea1⟩ : ∃ v, v = na 1 := ⟨_, rfl⟩
  obtain ⟨xb1, eb1⟩ : ∃ v, v = nb 1 := ⟨_, rfl⟩
  have o_xa1 := oa 1 (by decide)
  have o_xb1 := ob 1 (by decide)
  rw [← ea1] at o_xa1
  rw [← eb1] at o_xb1
  obtain ⟨xa2, ea2⟩ : ∃ v, v = na 2 := ⟨_, rfl⟩
  obtain ⟨xb2, eb2⟩ : ∃ v, v = nb 2 := ⟨_, rfl⟩
  have o_xa2 := oa 2 (by decide)
  have o_xb2 := ob 2 (by decide)
  rw [← ea2] at o_xa2
  rw [← eb2] at o_xb2
  obtain ⟨xa3, ea3⟩ : ∃ v, v = na 3 := ⟨_, rfl⟩
  obtain ⟨xb3, eb3⟩ : ∃ v, v = nb 3 := ⟨_, rfl⟩
  have o_xa3 := oa 3 (by decide)
  have o_xb3 := ob 3 (by decide)
  rw [← ea3] at o_xa3
  rw [← eb3] at o_xb3
  obtain ⟨G19, eG⟩ : ∃ g, g = ldG (ldG G 32 na 4) 77 nb 4 := ⟨_, rfl⟩
  rw [← eG] at hG19
  have q19_32 : G19 32 = xa0 := by rw [eG, ea0]; rfl
  have q19_77 : G19 77 = xb0 := by rw [eG, eb0]; rfl
  have q19_43 : G19 43 = xa1 := by rw [eG, ea1]; rfl
  have q19_88 : G19 88 = xb1 := by rw [eG, eb1]; rfl
  have q19_54 : G19 54 = xa2 := by rw [eG, ea2]; rfl
  have q19_99 : G19 99 = xb2 := by rw [eG, eb2]; rfl
  have q19_65 : G19 65 = xa3 := by rw [eG, ea3]; rfl
  have q19_110 : G19 110 = xb3 := by rw [eG, eb3]; rfl
  have q19_121 : G19 121 = oneq := by rw [eG]; exact g121
  have q19_132 : G19 132 = quartq := by rw [eG]; exact g132
  clear eG
  refine x_aload_n (pc2 := 23) hC rfl rfl dX0_joined_22 rfl ?_
  refine g_275 (pc2 := 26) hC hK (by assumption) (by assumption) (by assumption) dX0_joined_23 rfl ?_
  refine x_aload_n (pc2 := 27) hC rfl rfl dX0_joined_26 rfl ?_
  refine g_268 (pc2 := 30) hC hK (by assumption) (by assumption) (by assumption) dX0_joined_27 rfl ?_
  refine x_iconst (pc2 := 31) hC dX0_joined_30 rfl ?_
  refine x_aald (pc2 := 32) hC hK b1 b2 (by omega) (by decide) (b5 3 (by decide)) dX0_joined_31 rfl ?_
  refine x_aload_n (pc2 := 33) hC rfl rfl dX0_joined_32 rfl ?_
  refine g_269 (pc2 := 36) hC hK (by assumption) (by assumption) (by assumption) dX0_joined_33 rfl ?_
  refine x_iconst (pc2 := 37) hC dX0_joined_36 rfl ?_
  refine x_aald (pc2 := 38) hC hK b3 b4 (by omega) (by decide) (b6 0 (by decide)) dX0_joined_37 rfl ?_
  refine x_cVv (pc2 := 41) (ci := 4) hC hK (y_product l hA hS19 hG19 (r := 176) (x := 65) (y := 77) (by decide) (by decide) (by decide) (by decide) (by decide) q19_65 q19_77 o_xa3 o_xb0 ⟨Nat.le_of_ble_eq_true rfl, Nat.le_of_ble_eq_true rfl⟩) lk_488 rfl rfl (by decide) (by assumption) (by assumption) ⟨Nat.le_of_ble_eq_true rfl, Nat.le_of_ble_eq_true rfl⟩ ⟨Nat.le_refl _, Nat.le_refl _⟩ rfl (Nat.le_of_ble_eq_true rfl) dX0_joined_38 rfl ?_
  rintro F38 A38 hq
  obtain ⟨V38, hS38, hG38, hgl38, hb38, hf38, hd38⟩ := AS.step hA hgl19 hb19 hf19 hd19 hq
  clear hq
  obtain ⟨v38, e_v38⟩ : ∃ v, v = rmul xa3 xb0 := ⟨_, rfl⟩
  have o_v38 : OKq 51 v38 := by rw [e_v38]; exact ok_mul o_xa3 o_xb0 (Nat.le_of_ble_eq_true rfl)
  rw [← e_v38] at hG38
  obtain ⟨G38, eG⟩ : ∃ g, g = upG G19 176 v38 := ⟨_, rfl⟩
  rw [← eG] at hG38
  have q38_32 : G38 32 = xa0 := by rw [eG]; exact (upG_ne (by decide)).trans q19_32
  have q38_43 : G38 43 = xa1 := by rw [eG]; exact (upG_ne (by decide)).trans q19_43
  have q38_54 : G38 54 = xa2 := by rw [eG]; exact (upG_ne (by decide)).trans q19_54
  have q38_65 : G38 65 = xa3 := by rw [eG]; exact (upG_ne (by decide)).trans q19_65
  have q38_77 : G38 77 = xb0 := by rw [eG]; exact (upG_ne (by decide)).trans q19_77
  have q38_88 : G38 88 = xb1 := by rw [eG]; exact (upG_ne (by decide)).trans q19_88
  have q38_99 : G38 99 = xb2 := by rw [eG]; exact (upG_ne (by decide)).trans q19_99
  have q38_110 : G38 110 = xb3 := by rw [eG]; exact (upG_ne (by decide)).trans q19_110
  have q38_121 : G38 121 = oneq := by rw [eG]; exact (upG_ne (by decide)).trans q19_121
  have q38_132 : G38 132 = quartq := by rw [eG]; exact (upG_ne (by decide)).trans q19_132
  have q38_176 : G38 176 = v38 := by rw [eG]; exact upG_eq
  clear eG
  refine x_aload_n (pc2 := 42) hC rfl rfl dX0_joined_41 rfl ?_
  refine g_272 (pc2 := 45) hC hK (by assumption) (by assumption) (by assumption) dX0_joined_42 rfl ?_
  refine x_aload_n (pc2 := 46) hC rfl rfl dX0_joined_45 rfl ?_
  refine g_270 (pc2 := 49) hC hK (by assumption) (by assumption) (by assumption) dX0_joined_46 rfl ?_
  refine x_aload_n (pc2 := 50) hC rfl rfl dX0_joined_49 rfl ?_
  refine g_275 (pc2 := 53) hC hK (by assumption) (by assumption) (by assumption) dX0_joined_50 rfl ?_
  refine x_iconst (pc2 := 54) hC dX0_joined_53 rfl ?_
  refine x_cVv (pc2 := 57) (ci := 4) hC hK (y_sum l hA hS38 hG38 (r := 143) (x := 121) (y := 176) (by decide) (by decide) (by decide) (by decide) (by decide) (Or.inr rfl) q38_121 q38_176 o_oneq o_v38 ⟨Nat.le_of_ble_eq_true rfl, Nat.le_of_ble_eq_true rfl⟩) lk_528 rfl rfl (by decide) (by assumption) (by assumption) ⟨Nat.le_of_ble_eq_true rfl, Nat.le_of_ble_eq_true rfl⟩ ⟨Nat.le_refl _, Nat.le_refl _⟩ rfl (Nat.le_of_ble_eq_true rfl) dX0_joined_54 rfl ?_
  rintro F54 A54 hq
  obtain ⟨V54, hS54, hG54, hgl54, hb54, hf54, hd54⟩ := AS.step hA hgl38 hb38 hf38 hd38 hq
  clear hq
  obtain ⟨v54, e_v54⟩ : ∃ v, v = rsum (-1) oneq v38 := ⟨_, rfl⟩
  have o_v54 : OKq 54 v54 := by rw [e_v54]; exact ok_sum  (Or.inr rfl) o_oneq o_v38 (Nat.le_of_ble_eq_true rfl)
  rw [← e_v54] at hG54
  obtain ⟨G54, eG⟩ : ∃ g, g = upG G38 143 v54 := ⟨_, rfl⟩
  rw [← eG] at hG54
  have q54_32 : G54 32 = xa0 := by rw [eG]; exact (upG_ne (by decide)).trans q38_32
  have q54_43 : G54 43 = xa1 := by rw [eG]; exact (upG_ne (by decide)).trans q38_43
  have q54_54 : G54 54 = xa2 := by rw [eG]; exact (upG_ne (by decide)).trans q38_54
  have q54_65 : G54 65 = xa3 := by rw [eG]; exact (upG_ne (by decide)).trans q38_65
  have q54_77 : G54 77 = xb0 := by rw [eG]; exact (upG_ne (by decide)).trans q38_77
  have q54_88 : G54 88 = xb1 := by rw [eG]; exact (upG_ne (by decide)).trans q38_88
  have q54_99 : G54 99 = xb2 := by rw [eG]; exact (upG_ne (by decide)).trans q38_99
  have q54_110 : G54 110 = xb3 := by rw [eG]; exact (upG_ne (by decide)).trans q38_110
  have q54_121 : G54 121 = oneq := by rw [eG]; exact (upG_ne (by decide)).trans q38_121
  have q54_132 : G54 132 = quartq := by rw [eG]; exact (upG_ne (by decide)).trans q38_132
  have q54_143 : G54 143 = v54 := by rw [eG]; exact upG_eq
  clear eG
  refine x_aload_n (pc2 := 58) hC rfl rfl dX0_joined_57 rfl ?_
  refine g_272 (pc2 := 61) hC hK (by assumption) (by assumption) (by assumption) dX0_joined_58 rfl ?_
  refine x_cVi (pc2 := 64) (ci := 4) hC hK (w_zero hA hS54 hG54 (r := 143) (by decide)) lk_536 rfl rfl (by decide) (by assumption) (by assumption) ⟨Nat.le_of_ble_eq_true rfl, Nat.le_of_ble_eq_true rfl⟩ ⟨Nat.le_refl _, Nat.le_refl _⟩ rfl (Nat.le_of_ble_eq_true rfl) dX0_joined_61 rfl ?_
  rintro z61 F61 A61 ⟨rfl, e161, e261⟩
  obtain rfl := e161.symm
  obtain rfl := e261.symm
  refine x_ifp_eq (tgt := 69) (pc2 := 67) hC dX0_joined_64 rfl rfl (fun h_64 => ?_) (fun h_64 => ?_)
  · have nz_v54 : v54.1 ≠ (0, 0) := by rw [← q54_143]; assumption
    have nz2 : (joinE (ldn (A 2) bA tone 0) (ldn (A 2) bB tone 0)).1 ≠ (0, 0) := by
      rw [joinE, ← ena, ← enb, ← ea3, ← eb0, ← e_v38, ← e_v54]; exact nz_v54
    refine x_aload_n (pc2 := 70) hC rfl rfl dX0_joined_69 rfl ?_
    refine g_275 (pc2 := 73) hC hK (by assumption) (by assumption) (by assumption) dX0_joined_70 rfl ?_
    refine x_aload_n (pc2 := 74) hC rfl rfl dX0_joined_73 rfl ?_
    refine g_268 (pc2 := 77) hC hK (by assumption) (by assumption) (by assumption) dX0_joined_74 rfl ?_
    refine x_iconst (pc2 := 78) hC dX0_joined_77 rfl ?_
    refine x_aald (pc2 := 79) hC hK b1 b2 (by omega) (by decide) (b5 1 (by decide)) dX0_joined_78 rfl ?_
    refine x_aload_n (pc2 := 80) hC rfl rfl dX0_joined_79 rfl ?_
    refine g_268 (pc2 := 83) hC hK (by assumption) (by assumption) (by assumption) dX0_joined_80 rfl ?_
    refine x_iconst (pc2 := 84) hC dX0_joined_83 rfl ?_
    refine x_aald (pc2 := 85) hC hK b1 b2 (by omega) (by decide) (b5 2 (by decide)) dX0_joined_84 rfl ?_
    refine x_cVv (pc2 := 88) (ci := 4) hC hK (y_product l hA hS54 hG54 (r := 176) (x := 43) (y := 54) (by decide) (by decide) (by decide) (by decide) (by decide) q54_43 q54_54 o_xa1 o_xa2 ⟨Nat.le_of_ble_eq_true rfl, Nat.le_of_ble_eq_true rfl⟩) lk_488 rfl rfl (by decide) (by assumption) (by assumption) ⟨Nat.le_of_ble_eq_true rfl, Nat.le_of_ble_eq_true rfl⟩ ⟨Nat.le_refl _, Nat.le_refl _⟩ rfl (Nat.le_of_ble_eq_true rfl) dX0_joined_85 rfl ?_
    rintro F85 A85 hq
    obtain ⟨V85, hS85, hG85, hgl85, hb85, hf85, hd85⟩ := AS.step hA hgl54 hb54 hf54 hd54 hq
    clear hq
    obtain ⟨v85, e_v85⟩ : ∃ v, v = rmul xa1 xa2 := ⟨_, rfl⟩
    have o_v85 : OKq 51 v85 := by rw [e_v85]; exact ok_mul o_xa1 o_xa2 (Nat.le_of_ble_eq_true rfl)
    rw [← e_v85] at hG85
    obtain ⟨G85, eG⟩ : ∃ g, g = upG G54 176 v85 := ⟨_, rfl⟩
    rw [← eG] at hG85
    have q85_32 : G85 32 = xa0 := by rw [eG]; exact (upG_ne (by decide)).trans q54_32
    have q85_43 : G85 43 = xa1 := by rw [eG]; exact (upG_ne (by decide)).trans q54_43
    have q85_54 : G85 54 = xa2 := by rw [eG]; exact (upG_ne (by decide)).trans q54_54
    have q85_65 : G85 65 = xa3 := by rw [eG]; exact (upG_ne (by decide)).trans q54_65
    have q85_77 : G85 77 = xb0 := by rw [eG]; exact (upG_ne (by decide)).trans q54_77
    have q85_88 : G85 88 = xb1 := by rw [eG]; exact (upG_ne (by decide)).trans q54_88
    have q85_99 : G85 99 = xb2 := by rw [eG]; exact (upG_ne (by decide)).trans q54_99
    have q85_110 : G85 110 = xb3 := by rw [eG]; exact (upG_ne (by decide)).trans q54_110
    have q85_121 : G85 121 = oneq := by rw [eG]; exact (upG_ne (by decide)).trans q54_121
    have q85_132 : G85 132 = quartq := by rw [eG]; exact (upG_ne (by decide)).trans q54_132
    have q85_143 : G85 143 = v54 := by rw [eG]; exact (upG_ne (by decide)).trans q54_143
    have q85_176 : G85 176 = v85 := by rw [eG]; exact upG_eq
    clear eG
    refine x_aload_n (pc2 := 89) hC rfl rfl dX0_joined_88 rfl ?_
    refine g_276 (pc2 := 92) hC hK (by assumption) (by assumption) (by assumption) dX0_joined_89 rfl ?_
    refine x_aload_n (pc2 := 93) hC rfl rfl dX0_joined_92 rfl ?_
    refine g_275 (pc2 := 96) hC hK (by assumption) (by assumption) (by assumption) dX0_joined_93 rfl ?_
    refine x_aload_n (pc2 := 97) hC rfl rfl dX0_joined_96 rfl ?_
    refine g_269 (pc2 := 100) hC hK (by assumption) (by assumption) (by assumption) dX0_joined_97 rfl ?_
    refine x_iconst (pc2 := 101) hC dX0_joined_100 rfl ?_
    refine x_aald (pc2 := 102) hC hK b3 b4 (by omega) (by decide) (b6 0 (by decide)) dX0_joined_101 rfl ?_
    refine x_cVv (pc2 := 105) (ci := 4) hC hK (y_product l hA hS85 hG85 (r := 187) (x := 176) (y := 77) (by decide) (by decide) (by decide) (by decide) (by decide) q85_176 q85_77 o_v85 o_xb0 ⟨Nat.le_of_ble_eq_true rfl, Nat.le_of_ble_eq_true rfl⟩) lk_488 rfl rfl (by decide) (by assumption) (by assumption) ⟨Nat.le_of_ble_eq_true rfl, Nat.le_of_ble_eq_true rfl⟩ ⟨Nat.le_refl _, Nat.le_refl _⟩ rfl (Nat.le_of_ble_eq_true rfl) dX0_joined_102 rfl ?_
    rintro F102 A102 hq
    obtain ⟨V102, hS102, hG102, hgl102, hb102, hf102, hd102⟩ := AS.step hA hgl85 hb85 hf85 hd85 hq
    clear hq
    obtain ⟨v102, e_v102⟩ : ∃ v, v = rmul v85 xb0 := ⟨_, rfl⟩
    have o_v102 : OKq 77 v102 := by rw [e_v102]; exact ok_mul o_v85 o_xb0 (Nat.le_of_ble_eq_true rfl)
    rw [← e_v102] at hG102
    obtain ⟨G102, eG⟩ : ∃ g, g = upG G85 187 v102 := ⟨_, rfl⟩
    rw [← eG] at hG102
    have q102_32 : G102 32 = xa0 := by rw [eG]; exact (upG_ne (by decide)).trans q85_32
    have q102_43 : G102 43 = xa1 := by rw [eG]; exact (upG_ne (by decide)).trans q85_43
    have q102_54 : G102 54 = xa2 := by rw [eG]; exact (upG_ne (by decide)).trans q85_54
    have q102_65 : G102 65 = xa3 := by rw [eG]; exact (upG_ne (by decide)).trans q85_65
    have q102_88 : G102 88 = xb1 := by rw [eG]; exact (upG_ne (by decide)).trans q85_88
    have q102_99 : G102 99 = xb2 := by rw [eG]; exact (upG_ne (by decide)).trans q85_99
    have q102_110 : G102 110 = xb3 := by rw [eG]; exact (upG_ne (by decide)).trans q85_110
    have q102_121 : G102 121 = oneq := by rw [eG]; exact (upG_ne (by decide)).trans q85_121
    have q102_132 : G102 132 = quartq := by rw [eG]; exact (upG_ne (by decide)).trans q85_132
    have q102_143 : G102 143 = v54 := by rw [eG]; exact (upG_ne (by decide)).trans q85_143
    have q102_187 : G102 187 = v102 := by rw [eG]; exact upG_eq
    clear eG
    refine x_aload_n (pc2 := 106) hC rfl rfl dX0_joined_105 rfl ?_
    refine g_275 (pc2 := 109) hC hK (by assumption) (by assumption) (by assumption) dX0_joined_106 rfl ?_
    refine x_aload_n (pc2 := 110) hC rfl rfl dX0_joined_109 rfl ?_
    refine g_276 (pc2 := 113) hC hK (by assumption) (by assumption) (by assumption) dX0_joined_110 rfl ?_
    refine x_aload_n (pc2 := 114) hC rfl rfl dX0_joined_113 rfl ?_
    refine g_272 (pc2 := 117) hC hK (by assumption) (by assumption) (by assumption) dX0_joined_114 rfl ?_
    refine x_cVv (pc2 := 120) (ci := 4) hC hK (y_quotient l hA hS102 hG102 (r := 176) (x := 187) (y := 143) (by decide) (by decide) (by decide) (by decide) (by decide) q102_187 q102_143 o_v102 o_v54 ⟨Nat.le_of_ble_eq_true rfl, Nat.le_of_ble_eq_true rfl⟩) lk_544 rfl rfl (by decide) (by assumption) (by assumption) ⟨Nat.le_of_ble_eq_true rfl, Nat.le_of_ble_eq_true rfl⟩ ⟨Nat.le_refl _, Nat.le_refl _⟩ rfl (Nat.le_of_ble_eq_true rfl) dX0_joined_117 rfl ?_
    rintro F117 A117 hq
    obtain ⟨V117, hS117, hG117, hgl117, hb117, hf117, hd117⟩ := AS.step hA hgl102 hb102 hf102 hd102 hq
    clear hq
    obtain ⟨v117, e_v117⟩ : ∃ v, v = rdiv v102 v54 := ⟨_, rfl⟩
    have o_v117 : OKq 132 v117 := by rw [e_v117]; exact ok_div o_v102 o_v54 nz_v54 (Nat.le_of_ble_eq_true rfl)
    rw [← e_v117] at hG117
    obtain ⟨G117, eG⟩ : ∃ g, g = upG G102 176 v117 := ⟨_, rfl⟩
    rw [← eG] at hG117
    have q117_32 : G117 32 = xa0 := by rw [eG]; exact (upG_ne (by decide)).trans q102_32
    have q117_43 : G117 43 = xa1 := by rw [eG]; exact (upG_ne (by decide)).trans q102_43
    have q117_54 : G117 54 = xa2 := by rw [eG]; exact (upG_ne (by decide)).trans q102_54
    have q117_65 : G117 65 = xa3 := by rw [eG]; exact (upG_ne (by decide)).trans q102_65
    have q117_88 : G117 88 = xb1 := by rw [eG]; exact (upG_ne (by decide)).trans q102_88
    have q117_99 : G117 99 = xb2 := by rw [eG]; exact (upG_ne (by decide)).trans q102_99
    have q117_110 : G117 110 = xb3 := by rw [eG]; exact (upG_ne (by decide)).trans q102_110
    have q117_121 : G117 121 = oneq := by rw [eG]; exact (upG_ne (by decide)).trans q102_121
    have q117_132 : G117 132 = quartq := by rw [eG]; exact (upG_ne (by decide)).trans q102_132
    have q117_143 : G117 143 = v54 := by rw [eG]; exact (upG_ne (by decide)).trans q102_143
    have q117_176 : G117 176 = v117 := by rw [eG]; exact upG_eq
    clear eG
    refine x_aload_n (pc2 := 121) hC rfl rfl dX0_joined_120 rfl ?_
    refine g_276 (pc2 := 124) hC hK (by assumption) (by assumption) (by assumption) dX0_joined_121 rfl ?_
    refine x_aload_n (pc2 := 125) hC rfl rfl dX0_joined_124 rfl ?_
    refine g_268 (pc2 := 128) hC hK (by assumption) (by assumption) (by assumption) dX0_joined_125 rfl ?_
    refine x_iconst (pc2 := 129) hC dX0_joined_128 rfl ?_
    refine x_aald (pc2 := 130) hC hK b1 b2 (by omega) (by decide) (b5 0 (by decide)) dX0_joined_129 rfl ?_
    refine x_aload_n (pc2 := 131) hC rfl rfl dX0_joined_130 rfl ?_
    refine g_275 (pc2 := 134) hC hK (by assumption) (by assumption) (by assumption) dX0_joined_131 rfl ?_
    refine x_iconst (pc2 := 135) hC dX0_joined_134 rfl ?_
    refine x_cVv (pc2 := 138) (ci := 4) hC hK (y_sum l hA hS117 hG117 (r := 187) (x := 32) (y := 176) (by decide) (by decide) (by decide) (by decide) (by decide) (Or.inl rfl) q117_32 q117_176 o_xa0 o_v117 ⟨Nat.le_of_ble_eq_true rfl, Nat.le_of_ble_eq_true rfl⟩) lk_528 rfl rfl (by decide) (by assumption) (by assumption) ⟨Nat.le_of_ble_eq_true rfl, Nat.le_of_ble_eq_true rfl⟩ ⟨Nat.le_refl _, Nat.le_refl _⟩ rfl (Nat.le_of_ble_eq_true rfl) dX0_joined_135 rfl ?_
    rintro F135 A135 hq
    obtain ⟨V135, hS135, hG135, hgl135, hb135, hf135, hd135⟩ := AS.step hA hgl117 hb117 hf117 hd117 hq
    clear hq
    obtain ⟨v135, e_v135⟩ : ∃ v, v = rsum (1) xa0 v117 := ⟨_, rfl⟩
    have o_v135 : OKq 159 v135 := by rw [e_v135]; exact ok_sum  (Or.inl rfl) o_xa0 o_v117 (Nat.le_of_ble_eq_true rfl)
    rw [← e_v135] at hG135
    obtain ⟨G135, eG⟩ : ∃ g, g = upG G117 187 v135 := ⟨_, rfl⟩
    rw [← eG] at hG135
    have q135_43 : G135 43 = xa1 := by rw [eG]; exact (upG_ne (by decide)).trans q117_43
    have q135_54 : G135 54 = xa2 := by rw [eG]; exact (upG_ne (by decide)).trans q117_54
    have q135_65 : G135 65 = xa3 := by rw [eG]; exact (upG_ne (by decide)).trans q117_65
    have q135_88 : G135 88 = xb1 := by rw [eG]; exact (upG_ne (by decide)).trans q117_88
    have q135_99 : G135 99 = xb2 := by rw [eG]; exact (upG_ne (by decide)).trans q117_99
    have q135_110 : G135 110 = xb3 := by rw [eG]; exact (upG_ne (by decide)).trans q117_110
    have q135_121 : G135 121 = oneq := by rw [eG]; exact (upG_ne (by decide)).trans q117_121
    have q135_132 : G135 132 = quartq := by rw [eG]; exact (upG_ne (by decide)).trans q117_132
    have q135_143 : G135 143 = v54 := by rw [eG]; exact (upG_ne (by decide)).trans q117_143
    have q135_187 : G135 187 = v135 := by rw [eG]; exact upG_eq
    clear eG
    refine x_aload_n (pc2 := 139) hC rfl rfl dX0_joined_138 rfl ?_
    refine g_267 (pc2 := 142) hC hK (by assumption) (by assumption) (by assumption) dX0_joined_139 rfl ?_
    refine x_aload_n (pc2 := 143) hC rfl rfl dX0_joined_142 rfl ?_
    refine g_276 (pc2 := 146) hC hK (by assumption) (by assumption) (by assumption) dX0_joined_143 rfl ?_
    refine g_225 (pc2 := 149) hC hK (by assumption) (by assumption) (by assumption) dX0_joined_146 rfl ?_
    refine x_aload_n (pc2 := 150) hC rfl rfl dX0_joined_149 rfl ?_
    refine g_276 (pc2 := 153) hC hK (by assumption) (by assumption) (by assumption) dX0_joined_150 rfl ?_
    refine g_228 (pc2 := 156) hC hK (by assumption) (by assumption) (by assumption) dX0_joined_153 rfl ?_
    refine x_iload_n (pc2 := 157) hC rfl rfl dX0_joined_156 rfl ?_
    refine x_iconst (pc2 := 158) hC dX0_joined_157 rfl ?_
    refine x_cVv (pc2 := 161) (ci := 3) hC hK (y_draft hA hS135 hG135 hgl135 hb135 hf135 hd135 (r := 187) (by decide) q135_187 o_v135 ⟨Nat.le_of_ble_eq_true rfl, Nat.le_of_ble_eq_true rfl⟩ ⟨Nat.le_of_ble_eq_true rfl, Nat.le_of_ble_eq_true rfl⟩ ht ⟨by decide, by decide⟩ (by simp only [List.mem_cons, List.not_mem_nil, or_false, forall_eq_or_imp, forall_eq, false_imp_iff, implies_true] <;> omega)) lk_548 rfl rfl (by decide) (by assumption) (by assumption) ⟨Nat.le_of_ble_eq_true rfl, Nat.le_of_ble_eq_true rfl⟩ ⟨Nat.le_refl _, Nat.le_refl _⟩ rfl (Nat.le_of_ble_eq_true rfl) dX0_joined_158 rfl ?_
    rintro F158 A158 hq
    obtain ⟨V158, hS158, hG158, hgl158, hb158, hf158, hd158⟩ := id hq
    clear hq
    have q158_43 := q135_43
    have q158_54 := q135_54
    have q158_65 := q135_65
    have q158_88 := q135_88
    have q158_99 := q135_99
    have q158_110 := q135_110
    have q158_121 := q135_121
    have q158_132 := q135_132
    have q158_143 := q135_143
    refine x_aload_n (pc2 := 162) hC rfl rfl dX0_joined_161 rfl ?_
    refine g_275 (pc2 := 165) hC hK (by assumption) (by assumption) (by assumption) dX0_joined_162 rfl ?_
    refine x_aload_n (pc2 := 166) hC rfl rfl dX0_joined_165 rfl ?_
    refine g_268 (pc2 := 169) hC hK (by assumption) (by assumption) (by assumption) dX0_joined_166 rfl ?_
    refine x_iconst (pc2 := 170) hC dX0_joined_169 rfl ?_
    refine x_aald (pc2 := 171) hC hK b1 b2 (by omega) (by decide) (b5 1 (by decide)) dX0_joined_170 rfl ?_
    refine x_aload_n (pc2 := 172) hC rfl rfl dX0_joined_171 rfl ?_
    refine g_269 (pc2 := 175) hC hK (by assumption) (by assumption) (by assumption) dX0_joined_172 rfl ?_
    refine x_iconst (pc2 := 176) hC dX0_joined_175 rfl ?_
    refine x_aald (pc2 := 177) hC hK b3 b4 (by omega) (by decide) (b6 1 (by decide)) dX0_joined_176 rfl ?_
    refine x_cVv (pc2 := 180) (ci := 4) hC hK (y_product l hA hS158 hG158 (r := 176) (x := 43) (y := 88) (by decide) (by decide) (by decide) (by decide) (by decide) q158_43 q158_88 o_xa1 o_xb1 ⟨Nat.le_of_ble_eq_true rfl, Nat.le_of_ble_eq_true rfl⟩) lk_488 rfl rfl (by decide) (by assumption) (by assumption) ⟨Nat.le_of_ble_eq_true rfl, Nat.le_of_ble_eq_true rfl⟩ ⟨Nat.le_refl _, Nat.le_refl _⟩ rfl (Nat.le_of_ble_eq_true rfl) dX0_joined_177 rfl ?_
    rintro F177 A177 hq
    obtain ⟨V177, hS177, hG177, hgl177, hb177, hf177, hd177⟩ := AS.step hA hgl158 hb158 hf158 hd158 hq
    clear hq
    obtain ⟨v177, e_v177⟩ : ∃ v, v = rmul xa1 xb1 := ⟨_, rfl⟩
    have o_v177 : OKq 51 v177 := by rw [e_v177]; exact ok_mul o_xa1 o_xb1 (Nat.le_of_ble_eq_true rfl)
    rw [← e_v177] at hG177
    obtain ⟨G177, eG⟩ : ∃ g, g = upG G135 176 v177 := ⟨_, rfl⟩
    rw [← eG] at hG177
    have q177_54 : G177 54 = xa2 := by rw [eG]; exact (upG_ne (by decide)).trans q158_54
    have q177_65 : G177 65 = xa3 := by rw [eG]; exact (upG_ne (by decide)).trans q158_65
    have q177_88 : G177 88 = xb1 := by rw [eG]; exact (upG_ne (by decide)).trans q158_88
    have q177_99 : G177 99 = xb2 := by rw [eG]; exact (upG_ne (by decide)).trans q158_99
    have q177_110 : G177 110 = xb3 := by rw [eG]; exact (upG_ne (by decide)).trans q158_110
    have q177_121 : G177 121 = oneq := by rw [eG]; exact (upG_ne (by decide)).trans q158_121
    have q177_132 : G177 132 = quartq := by rw [eG]; exact (upG_ne (by decide)).trans q158_132
    have q177_143 : G177 143 = v54 := by rw [eG]; exact (upG_ne (by decide)).trans q158_143
    have q177_176 : G177 176 = v177 := by rw [eG]; exact upG_eq
    clear eG
    refine x_aload_n (pc2 := 181) hC rfl rfl dX0_joined_180 rfl ?_
    refine g_276 (pc2 := 184) hC hK (by assumption) (by assumption) (by assumption) dX0_joined_181 rfl ?_
    refine x_aload_n (pc2 := 185) hC rfl rfl dX0_joined_184 rfl ?_
    refine g_275 (pc2 := 188) hC hK (by assumption) (by assumption) (by assumption) dX0_joined_185 rfl ?_
    refine x_aload_n (pc2 := 189) hC rfl rfl dX0_joined_188 rfl ?_
    refine g_272 (pc2 := 192) hC hK (by assumption) (by assumption) (by assumption) dX0_joined_189 rfl ?_
    refine x_cVv (pc2 := 195) (ci := 4) hC hK (y_quotient l hA hS177 hG177 (r := 187) (x := 176) (y := 143) (by decide) (by decide) (by decide) (by decide) (by decide) q177_176 q177_143 o_v177 o_v54 ⟨Nat.le_of_ble_eq_true rfl, Nat.le_of_ble_eq_true rfl⟩) lk_544 rfl rfl (by decide) (by assumption) (by assumption) ⟨Nat.le_of_ble_eq_true rfl, Nat.le_of_ble_eq_true rfl⟩ ⟨Nat.le_refl _, Nat.le_refl _⟩ rfl (Nat.le_of_ble_eq_true rfl) dX0_joined_192 rfl ?_
    rintro F192 A192 hq
    obtain ⟨V192, hS192, hG192, hgl192, hb192, hf192, hd192⟩ := AS.step hA hgl177 hb177 hf177 hd177 hq
    clear hq
    obtain ⟨v192, e_v192⟩ : ∃ v, v = rdiv v177 v54 := ⟨_, rfl⟩
    have o_v192 : OKq 106 v192 := by rw [e_v192]; exact ok_div o_v177 o_v54 nz_v54 (Nat.le_of_ble_eq_true rfl)
    rw [← e_v192] at hG192
    obtain ⟨G192, eG⟩ : ∃ g, g = upG G177 187 v192 := ⟨_, rfl⟩
    rw [← eG] at hG192
    have q192_54 : G192 54 = xa2 := by rw [eG]; exact (upG_ne (by decide)).trans q177_54
    have q192_65 : G192 65 = xa3 := by rw [eG]; exact (upG_ne (by decide)).trans q177_65
    have q192_88 : G192 88 = xb1 := by rw [eG]; exact (upG_ne (by decide)).trans q177_88
    have q192_99 : G192 99 = xb2 := by rw [eG]; exact (upG_ne (by decide)).trans q177_99
    have q192_110 : G192 110 = xb3 := by rw [eG]; exact (upG_ne (by decide)).trans q177_110
    have q192_121 : G192 121 = oneq := by rw [eG]; exact (upG_ne (by decide)).trans q177_121
    have q192_132 : G192 132 = quartq := by rw [eG]; exact (upG_ne (by decide)).trans q177_132
    have q192_143 : G192 143 = v54 := by rw [eG]; exact (upG_ne (by decide)).trans q177_143
    have q192_187 : G192 187 = v192 := by rw [eG]; exact upG_eq
    clear eG
    refine x_aload_n (pc2 := 196) hC rfl rfl dX0_joined_195 rfl ?_
    refine g_267 (pc2 := 199) hC hK (by assumption) (by assumption) (by assumption) dX0_joined_196 rfl ?_
    refine x_aload_n (pc2 := 200) hC rfl rfl dX0_joined_199 rfl ?_
    refine g_276 (pc2 := 203) hC hK (by assumption) (by assumption) (by assumption) dX0_joined_200 rfl ?_
    refine g_225 (pc2 := 206) hC hK (by assumption) (by assumption) (by assumption) dX0_joined_203 rfl ?_
    refine x_aload_n (pc2 := 207) hC rfl rfl dX0_joined_206 rfl ?_
    refine g_276 (pc2 := 210) hC hK (by assumption) (by assumption) (by assumption) dX0_joined_207 rfl ?_
    refine g_228 (pc2 := 213) hC hK (by assumption) (by assumption) (by assumption) dX0_joined_210 rfl ?_
    refine x_iload_n (pc2 := 214) hC rfl rfl dX0_joined_213 rfl ?_
    refine x_iconst (pc2 := 215) hC dX0_joined_214 rfl ?_
    refine x_cVv (pc2 := 218) (ci := 3) hC hK (y_draft hA hS192 hG192 hgl192 hb192 hf192 hd192 (r := 187) (by decide) q192_187 o_v192 ⟨Nat.le_of_ble_eq_true rfl, Nat.le_of_ble_eq_true rfl⟩ ⟨Nat.le_of_ble_eq_true rfl, Nat.le_of_ble_eq_true rfl⟩ ht ⟨by decide, by decide⟩ (by simp only [List.mem_cons, List.not_mem_nil, or_false, forall_eq_or_imp, forall_eq, false_imp_iff, implies_true] <;> omega)) lk_548 rfl rfl (by decide) (by assumption) (by assumption) ⟨Nat.le_of_ble_eq_true rfl, Nat.le_of_ble_eq_true rfl⟩ ⟨Nat.le_refl _, Nat.le_refl _⟩ rfl (Nat.le_of_ble_eq_true rfl) dX0_joined_215 rfl ?_
    rintro F215 A215 hq
    obtain ⟨V215, hS215, hG215, hgl215, hb215, hf215, hd215⟩ := id hq
    clear hq
    have q215_54 := q192_54
    have q215_65 := q192_65
    have q215_88 := q192_88
    have q215_99 := q192_99
    have q215_110 := q192_110
    have q215_121 := q192_121
    have q215_132 := q192_132
    have q215_143 := q192_143
    refine x_aload_n (pc2 := 219) hC rfl rfl dX0_joined_218 rfl ?_
    refine g_275 (pc2 := 222) hC hK (by assumption) (by assumption) (by assumption) dX0_joined_219 rfl ?_
    refine x_aload_n (pc2 := 223) hC rfl rfl dX0_joined_222 rfl ?_
    refine g_268 (pc2 := 226) hC hK (by assumption) (by assumption) (by assumption) dX0_joined_223 rfl ?_
    refine x_iconst (pc2 := 227) hC dX0_joined_226 rfl ?_
    refine x_aald (pc2 := 228) hC hK b1 b2 (by omega) (by decide) (b5 2 (by decide)) dX0_joined_227 rfl ?_
    refine x_aload_n (pc2 := 229) hC rfl rfl dX0_joined_228 rfl ?_
    refine g_269 (pc2 := 232) hC hK (by assumption) (by assumption) (by assumption) dX0_joined_229 rfl ?_
    refine x_iconst (pc2 := 233) hC dX0_joined_232 rfl ?_
    refine x_aald (pc2 := 234) hC hK b3 b4 (by omega) (by decide) (b6 2 (by decide)) dX0_joined_233 rfl ?_
    refine x_cVv (pc2 := 237) (ci := 4) hC hK (y_product l hA hS215 hG215 (r := 176) (x := 54) (y := 99) (by decide) (by decide) (by decide) (by decide) (by decide) q215_54 q215_99 o_xa2 o_xb2 ⟨Nat.le_of_ble_eq_true rfl, Nat.le_of_ble_eq_true rfl⟩) lk_488 rfl rfl (by decide) (by assumption) (by assumption) ⟨Nat.le_of_ble_eq_true rfl, Nat.le_of_ble_eq_true rfl⟩ ⟨Nat.le_refl _, Nat.le_refl _⟩ rfl (Nat.le_of_ble_eq_true rfl) dX0_joined_234 rfl ?_
    rintro F234 A234 hq
    obtain ⟨V234, hS234, hG234, hgl234, hb234, hf234, hd234⟩ := AS.step hA hgl215 hb215 hf215 hd215 hq
    clear hq
    obtain ⟨v234, e_v234⟩ : ∃ v, v = rmul xa2 xb2 := ⟨_, rfl⟩
    have o_v234 : OKq 51 v234 := by rw [e_v234]; exact ok_mul o_xa2 o_xb2 (Nat.le_of_ble_eq_true rfl)
    rw [← e_v234] at hG234
    obtain ⟨G234, eG⟩ : ∃ g, g = upG G192 176 v234 := ⟨_, rfl⟩
    rw [← eG] at hG234
    have q234_65 : G234 65 = xa3 := by rw [eG]; exact (upG_ne (by decide)).trans q215_65
    have q234_88 : G234 88 = xb1 := by rw [eG]; exact (upG_ne (by decide)).trans q215_88
    have q234_99 : G234 99 = xb2 := by rw [eG]; exact (upG_ne (by decide)).trans q215_99
    have q234_110 : G234 110 = xb3 := by rw [eG]; exact (upG_ne (by decide)).trans q215_110
    have q234_121 : G234 121 = oneq := by rw [eG]; exact (upG_ne (by decide)).trans q215_121
    have q234_132 : G234 132 = quartq := by rw [eG]; exact (upG_ne (by decide)).trans q215_132
    have q234_143 : G234 143 = v54 := by rw [eG]; exact (upG_ne (by decide)).trans q215_143
    have q234_176 : G234 176 = v234 := by rw [eG]; exact upG_eq
    clear eG
    refine x_aload_n (pc2 := 238) hC rfl rfl dX0_joined_237 rfl ?_
    refine g_276 (pc2 := 241) hC hK (by assumption) (by assumption) (by assumption) dX0_joined_238 rfl ?_
    refine x_aload_n (pc2 := 242) hC rfl rfl dX0_joined_241 rfl ?_
    refine g_275 (pc2 := 245) hC hK (by assumption) (by assumption) (by assumption) dX0_joined_242 rfl ?_
    refine x_aload_n (pc2 := 246) hC rfl rfl dX0_joined_245 rfl ?_
    refine g_272 (pc2 := 249) hC hK (by assumption) (by assumption) (by assumption) dX0_joined_246 rfl ?_
    refine x_cVv (pc2 := 252) (ci := 4) hC hK (y_quotient l hA hS234 hG234 (r := 187) (x := 176) (y := 143) (by decide) (by decide) (by decide) (by decide) (by decide) q234_176 q234_143 o_v234 o_v54 ⟨Nat.le_of_ble_eq_true rfl, Nat.le_of_ble_eq_true rfl⟩) lk_544 rfl rfl (by decide) (by assumption) (by assumption) ⟨Nat.le_of_ble_eq_true rfl, Nat.le_of_ble_eq_true rfl⟩ ⟨Nat.le_refl _, Nat.le_refl _⟩ rfl (Nat.le_of_ble_eq_true rfl) dX0_joined_249 rfl ?_
    rintro F249 A249 hq
    obtain ⟨V249, hS249, hG249, hgl249, hb249, hf249, hd249⟩ := AS.step hA hgl234 hb234 hf234 hd234 hq
    clear hq
    obtain ⟨v249, e_v249⟩ : ∃ v, v = rdiv v234 v54 := ⟨_, rfl⟩
    have o_v249 : OKq 106 v249 := by rw [e_v249]; exact ok_div o_v234 o_v54 nz_v54 (Nat.le_of_ble_eq_true rfl)
    rw [← e_v249] at hG249
    obtain ⟨G249, eG⟩ : ∃ g, g = upG G234 187 v249 := ⟨_, rfl⟩
    rw [← eG] at hG249
    have q249_65 : G249 65 = xa3 := by rw [eG]; exact (upG_ne (by decide)).trans q234_65
    have q249_88 : G249 88 = xb1 := by rw [eG]; exact (upG_ne (by decide)).trans q234_88
    have q249_99 : G249 99 = xb2 := by rw [eG]; exact (upG_ne (by decide)).trans q234_99
    have q249_110 : G249 110 = xb3 := by rw [eG]; exact (upG_ne (by decide)).trans q234_110
    have q249_121 : G249 121 = oneq := by rw [eG]; exact (upG_ne (by decide)).trans q234_121
    have q249_132 : G249 132 = quartq := by rw [eG]; exact (upG_ne (by decide)).trans q234_132
    have q249_143 : G249 143 = v54 := by rw [eG]; exact (upG_ne (by decide)).trans q234_143
    have q249_187 : G249 187 = v249 := by rw [eG]; exact upG_eq
    clear eG
    refine x_aload_n (pc2 := 253) hC rfl rfl dX0_joined_252 rfl ?_
    refine g_267 (pc2 := 256) hC hK (by assumption) (by assumption) (by assumption) dX0_joined_253 rfl ?_
    refine x_aload_n (pc2 := 257) hC rfl rfl dX0_joined_256 rfl ?_
    refine g_276 (pc2 := 260) hC hK (by assumption) (by assumption) (by assumption) dX0_joined_257 rfl ?_
    refine g_225 (pc2 := 263) hC hK (by assumption) (by assumption) (by assumption) dX0_joined_260 rfl ?_
    refine x_aload_n (pc2 := 264) hC rfl rfl dX0_joined_263 rfl ?_
    refine g_276 (pc2 := 267) hC hK (by assumption) (by assumption) (by assumption) dX0_joined_264 rfl ?_
    refine g_228 (pc2 := 270) hC hK (by assumption) (by assumption) (by assumption) dX0_joined_267 rfl ?_
    refine x_iload_n (pc2 := 271) hC rfl rfl dX0_joined_270 rfl ?_
    refine x_iconst (pc2 := 272) hC dX0_joined_271 rfl ?_
    refine x_cVv (pc2 := 275) (ci := 3) hC hK (y_draft hA hS249 hG249 hgl249 hb249 hf249 hd249 (r := 187) (by decide) q249_187 o_v249 ⟨Nat.le_of_ble_eq_true rfl, Nat.le_of_ble_eq_true rfl⟩ ⟨Nat.le_of_ble_eq_true rfl, Nat.le_of_ble_eq_true rfl⟩ ht ⟨by decide, by decide⟩ (by simp only [List.mem_cons, List.not_mem_nil, or_false, forall_eq_or_imp, forall_eq, false_imp_iff, implies_true] <;> omega)) lk_548 rfl rfl (by decide) (by assumption) (by assumption) ⟨Nat.le_of_ble_eq_true rfl, Nat.le_of_ble_eq_true rfl⟩ ⟨Nat.le_refl _, Nat.le_refl _⟩ rfl (Nat.le_of_ble_eq_true rfl) dX0_joined_272 rfl ?_
    rintro F272 A272 hq
    obtain ⟨V272, hS272, hG272, hgl272, hb272, hf272, hd272⟩ := id hq
    clear hq
    have q272_65 := q249_65
    have q272_88 := q249_88
    have q272_99 := q249_99
    have q272_110 := q249_110
    have q272_121 := q249_121
    have q272_132 := q249_132
    have q272_143 := q249_143
    refine x_aload_n (pc2 := 276) hC rfl rfl dX0_joined_275 rfl ?_
    refine g_275 (pc2 := 279) hC hK (by assumption) (by assumption) (by assumption) dX0_joined_276 rfl ?_
    refine x_aload_n (pc2 := 280) hC rfl rfl dX0_joined_279 rfl ?_
    refine g_269 (pc2 := 283) hC hK (by assumption) (by assumption) (by assumption) dX0_joined_280 rfl ?_
    refine x_iconst (pc2 := 284) hC dX0_joined_283 rfl ?_
    refine x_aald (pc2 := 285) hC hK b3 b4 (by omega) (by decide) (b6 1 (by decide)) dX0_joined_284 rfl ?_
    refine x_aload_n (pc2 := 286) hC rfl rfl dX0_joined_285 rfl ?_
    refine g_269 (pc2 := 289) hC hK (by assumption) (by assumption) (by assumption) dX0_joined_286 rfl ?_
    refine x_iconst (pc2 := 290) hC dX0_joined_289 rfl ?_
    refine x_aald (pc2 := 291) hC hK b3 b4 (by omega) (by decide) (b6 2 (by decide)) dX0_joined_290 rfl ?_
    refine x_cVv (pc2 := 294) (ci := 4) hC hK (y_product l hA hS272 hG272 (r := 176) (x := 88) (y := 99) (by decide) (by decide) (by decide) (by decide) (by decide) q272_88 q272_99 o_xb1 o_xb2 ⟨Nat.le_of_ble_eq_true rfl, Nat.le_of_ble_eq_true rfl⟩) lk_488 rfl rfl (by decide) (by assumption) (by assumption) ⟨Nat.le_of_ble_eq_true rfl, Nat.le_of_ble_eq_true rfl⟩ ⟨Nat.le_refl _, Nat.le_refl _⟩ rfl (Nat.le_of_ble_eq_true rfl) dX0_joined_291 rfl ?_
    rintro F291 A291 hq
    obtain ⟨V291, hS291, hG291, hgl291, hb291, hf291, hd291⟩ := AS.step hA hgl272 hb272 hf272 hd272 hq
    clear hq
    obtain ⟨v291, e_v291⟩ : ∃ v, v = rmul xb1 xb2 := ⟨_, rfl⟩
    have o_v291 : OKq 51 v291 := by rw [e_v291]; exact ok_mul o_xb1 o_xb2 (Nat.le_of_ble_eq_true rfl)
    rw [← e_v291] at hG291
    obtain ⟨G291, eG⟩ : ∃ g, g = upG G249 176 v291 := ⟨_, rfl⟩
    rw [← eG] at hG291
    have q291_65 : G291 65 = xa3 := by rw [eG]; exact (upG_ne (by decide)).trans q272_65
    have q291_110 : G291 110 = xb3 := by rw [eG]; exact (upG_ne (by decide)).trans q272_110
    have q291_121 : G291 121 = oneq := by rw [eG]; exact (upG_ne (by decide)).trans q272_121
    have q291_132 : G291 132 = quartq := by rw [eG]; exact (upG_ne (by decide)).trans q272_132
    have q291_143 : G291 143 = v54 := by rw [eG]; exact (upG_ne (by decide)).trans q272_143
    have q291_176 : G291 176 = v291 := by rw [eG]; exact upG_eq
    clear eG
    refine x_aload_n (pc2 := 295) hC rfl rfl dX0_joined_294 rfl ?_
    refine g_276 (pc2 := 298) hC hK (by assumption) (by assumption) (by assumption) dX0_joined_295 rfl ?_
    refine x_aload_n (pc2 := 299) hC rfl rfl dX0_joined_298 rfl ?_
    refine g_275 (pc2 := 302) hC hK (by assumption) (by assumption) (by assumption) dX0_joined_299 rfl ?_
    refine x_aload_n (pc2 := 303) hC rfl rfl dX0_joined_302 rfl ?_
    refine g_268 (pc2 := 306) hC hK (by assumption) (by assumption) (by assumption) dX0_joined_303 rfl ?_
    refine x_iconst (pc2 := 307) hC dX0_joined_306 rfl ?_
    refine x_aald (pc2 := 308) hC hK b1 b2 (by omega) (by decide) (b5 3 (by decide)) dX0_joined_307 rfl ?_
    refine x_cVv (pc2 := 311) (ci := 4) hC hK (y_product l hA hS291 hG291 (r := 187) (x := 176) (y := 65) (by decide) (by decide) (by decide) (by decide) (by decide) q291_176 q291_65 o_v291 o_xa3 ⟨Nat.le_of_ble_eq_true rfl, Nat.le_of_ble_eq_true rfl⟩) lk_488 rfl rfl (by decide) (by assumption) (by assumption) ⟨Nat.le_of_ble_eq_true rfl, Nat.le_of_ble_eq_true rfl⟩ ⟨Nat.le_refl _, Nat.le_refl _⟩ rfl (Nat.le_of_ble_eq_true rfl) dX0_joined_308 rfl ?_
    rintro F308 A308 hq
    obtain ⟨V308, hS308, hG308, hgl308, hb308, hf308, hd308⟩ := AS.step hA hgl291 hb291 hf291 hd291 hq
    clear hq
    obtain ⟨v308, e_v308⟩ : ∃ v, v = rmul v291 xa3 := ⟨_, rfl⟩
    have o_v308 : OKq 77 v308 := by rw [e_v308]; exact ok_mul o_v291 o_xa3 (Nat.le_of_ble_eq_true rfl)
    rw [← e_v308] at hG308
    obtain ⟨G308, eG⟩ : ∃ g, g = upG G291 187 v308 := ⟨_, rfl⟩
    rw [← eG] at hG308
    have q308_110 : G308 110 = xb3 := by rw [eG]; exact (upG_ne (by decide)).trans q291_110
    have q308_121 : G308 121 = oneq := by rw [eG]; exact (upG_ne (by decide)).trans q291_121
    have q308_132 : G308 132 = quartq := by rw [eG]; exact (upG_ne (by decide)).trans q291_132
    have q308_143 : G308 143 = v54 := by rw [eG]; exact (upG_ne (by decide)).trans q291_143
    have q308_187 : G308 187 = v308 := by rw [eG]; exact upG_eq
    clear eG
    refine x_aload_n (pc2 := 312) hC rfl rfl dX0_joined_311 rfl ?_
    refine g_275 (pc2 := 315) hC hK (by assumption) (by assumption) (by assumption) dX0_joined_312 rfl ?_
    refine x_aload_n (pc2 := 316) hC rfl rfl dX0_joined_315 rfl ?_
    refine g_276 (pc2 := 319) hC hK (by assumption) (by assumption) (by assumption) dX0_joined_316 rfl ?_
    refine x_aload_n (pc2 := 320) hC rfl rfl dX0_joined_319 rfl ?_
    refine g_272 (pc2 := 323) hC hK (by assumption) (by assumption) (by assumption) dX0_joined_320 rfl ?_
    refine x_cVv (pc2 := 326) (ci := 4) hC hK (y_quotient l hA hS308 hG308 (r := 176) (x := 187) (y := 143) (by decide) (by decide) (by decide) (by decide) (by decide) q308_187 q308_143 o_v308 o_v54 ⟨Nat.le_of_ble_eq_true rfl, Nat.le_of_ble_eq_true rfl⟩) lk_544 rfl rfl (by decide) (by assumption) (by assumption) ⟨Nat.le_of_ble_eq_true rfl, Nat.le_of_ble_eq_true rfl⟩ ⟨Nat.le_refl _, Nat.le_refl _⟩ rfl (Nat.le_of_ble_eq_true rfl) dX0_joined_323 rfl ?_
    rintro F323 A323 hq
    obtain ⟨V323, hS323, hG323, hgl323, hb323, hf323, hd323⟩ := AS.step hA hgl308 hb308 hf308 hd308 hq
    clear hq
    obtain ⟨v323, e_v323⟩ : ∃ v, v = rdiv v308 v54 := ⟨_, rfl⟩
    have o_v323 : OKq 132 v323 := by rw [e_v323]; exact ok_div o_v308 o_v54 nz_v54 (Nat.le_of_ble_eq_true rfl)
    rw [← e_v323] at hG323
    obtain ⟨G323, eG⟩ : ∃ g, g = upG G308 176 v323 := ⟨_, rfl⟩
    rw [← eG] at hG323
    have q323_110 : G323 110 = xb3 := by rw [eG]; exact (upG_ne (by decide)).trans q308_110
    have q323_121 : G323 121 = oneq := by rw [eG]; exact (upG_ne (by decide)).trans q308_121
    have q323_132 : G323 132 = quartq := by rw [eG]; exact (upG_ne (by decide)).trans q308_132
    have q323_176 : G323 176 = v323 := by rw [eG]; exact upG_eq
    clear eG
    refine x_aload_n (pc2 := 327) hC rfl rfl dX0_joined_326 rfl ?_
    refine g_276 (pc2 := 330) hC hK (by assumption) (by assumption) (by assumption) dX0_joined_327 rfl ?_
    refine x_aload_n (pc2 := 331) hC rfl rfl dX0_joined_330 rfl ?_
    refine g_269 (pc2 := 334) hC hK (by assumption) (by assumption) (by assumption) dX0_joined_331 rfl ?_
    refine x_iconst (pc2 := 335) hC dX0_joined_334 rfl ?_
    refine x_aald (pc2 := 336) hC hK b3 b4 (by omega) (by decide) (b6 3 (by decide)) dX0_joined_335 rfl ?_
    refine x_aload_n (pc2 := 337) hC rfl rfl dX0_joined_336 rfl ?_
    refine g_275 (pc2 := 340) hC hK (by assumption) (by assumption) (by assumption) dX0_joined_337 rfl ?_
    refine x_iconst (pc2 := 341) hC dX0_joined_340 rfl ?_
    refine x_cVv (pc2 := 344) (ci := 4) hC hK (y_sum l hA hS323 hG323 (r := 187) (x := 110) (y := 176) (by decide) (by decide) (by decide) (by decide) (by decide) (Or.inl rfl) q323_110 q323_176 o_xb3 o_v323 ⟨Nat.le_of_ble_eq_true rfl, Nat.le_of_ble_eq_true rfl⟩) lk_528 rfl rfl (by decide) (by assumption) (by assumption) ⟨Nat.le_of_ble_eq_true rfl, Nat.le_of_ble_eq_true rfl⟩ ⟨Nat.le_refl _, Nat.le_refl _⟩ rfl (Nat.le_of_ble_eq_true rfl) dX0_joined_341 rfl ?_
    rintro F341 A341 hq
    obtain ⟨V341, hS341, hG341, hgl341, hb341, hf341, hd341⟩ := AS.step hA hgl323 hb323 hf323 hd323 hq
    clear hq
    obtain ⟨v341, e_v341⟩ : ∃ v, v = rsum (1) xb3 v323 := ⟨_, rfl⟩
    have o_v341 : OKq 159 v341 := by rw [e_v341]; exact ok_sum  (Or.inl rfl) o_xb3 o_v323 (Nat.le_of_ble_eq_true rfl)
    rw [← e_v341] at hG341
    obtain ⟨G341, eG⟩ : ∃ g, g = upG G323 187 v341 := ⟨_, rfl⟩
    rw [← eG] at hG341
    have q341_121 : G341 121 = oneq := by rw [eG]; exact (upG_ne (by decide)).trans q323_121
    have q341_132 : G341 132 = quartq := by rw [eG]; exact (upG_ne (by decide)).trans q323_132
    have q341_187 : G341 187 = v341 := by rw [eG]; exact upG_eq
    clear eG
    refine x_aload_n (pc2 := 345) hC rfl rfl dX0_joined_344 rfl ?_
    refine g_267 (pc2 := 348) hC hK (by assumption) (by assumption) (by assumption) dX0_joined_345 rfl ?_
    refine x_aload_n (pc2 := 349) hC rfl rfl dX0_joined_348 rfl ?_
    refine g_276 (pc2 := 352) hC hK (by assumption) (by assumption) (by assumption) dX0_joined_349 rfl ?_
    refine g_225 (pc2 := 355) hC hK (by assumption) (by assumption) (by assumption) dX0_joined_352 rfl ?_
    refine x_aload_n (pc2 := 356) hC rfl rfl dX0_joined_355 rfl ?_
    refine g_276 (pc2 := 359) hC hK (by assumption) (by assumption) (by assumption) dX0_joined_356 rfl ?_
    refine g_228 (pc2 := 362) hC hK (by assumption) (by assumption) (by assumption) dX0_joined_359 rfl ?_
    refine x_iload_n (pc2 := 363) hC rfl rfl dX0_joined_362 rfl ?_
    refine x_iconst (pc2 := 364) hC dX0_joined_363 rfl ?_
    refine x_cVv (pc2 := 367) (ci := 3) hC hK (y_draft hA hS341 hG341 hgl341 hb341 hf341 hd341 (r := 187) (by decide) q341_187 o_v341 ⟨Nat.le_of_ble_eq_true rfl, Nat.le_of_ble_eq_true rfl⟩ ⟨Nat.le_of_ble_eq_true rfl, Nat.le_of_ble_eq_true rfl⟩ ht ⟨by decide, by decide⟩ (by simp only [List.mem_cons, List.not_mem_nil, or_false, forall_eq_or_imp, forall_eq, false_imp_iff, implies_true] <;> omega)) lk_548 rfl rfl (by decide) (by assumption) (by assumption) ⟨Nat.le_of_ble_eq_true rfl, Nat.le_of_ble_eq_true rfl⟩ ⟨Nat.le_refl _, Nat.le_refl _⟩ rfl (Nat.le_of_ble_eq_true rfl) dX0_joined_364 rfl ?_
    rintro F364 A364 hq
    obtain ⟨V364, hS364, hG364, hgl364, hb364, hf364, hd364⟩ := id hq
    clear hq
    have q364_121 := q341_121
    have q364_132 := q341_132
    refine x_iconst (pc2 := 368) hC dX0_joined_367 rfl ?_
    exact x_iret hC hr hlk ⟨_, rfl, Or.inr ⟨rfl, nz2, ⟨_, q364_121, q364_132, V364, hS364, hG364, hgl364, hb364, hf364, by
      have e : joinL (ldn (A 2) bA tone 0) (ldn (A 2) bB tone 0) tone = [(v341, tone * 36 + 3 * 9), (v249, tone * 36 + 2 * 9), (v192, tone * 36 + 1 * 9), (v135, tone * 36 + 0 * 9)] := by
        rw [joinL, joinE, ← ena, ← enb, ← ea0, ← ea1, ← ea2, ← ea3, ← eb0, ← eb1, ← eb2, ← eb3, e_v341, e_v323, e_v308, e_v291, e_v249, e_v234, e_v192, e_v177, e_v135, e_v117, e_v102, e_v85, e_v54, e_v38]
      rw [e]; exact hd364⟩⟩⟩ dX0_joined_368
  · have z1 : (joinE (ldn (A 2) bA tone 0) (ldn (A 2) bB tone 0)).1 = (0, 0) := by
      rw [joinE, ← ena, ← enb, ← ea3, ← eb0, ← e_v38, ← e_v54, ← q54_143]; assumption
    refine x_iconst (pc2 := 68) hC dX0_joined_67 rfl ?_
    exact x_iret hC hr hlk ⟨_, rfl, Or.inl ⟨rfl, z1, ⟨_, q54_121, q54_132, V54, hS54, hG54, hgl54, hb54, hf54, hd54⟩⟩⟩ dX0_joined_68
