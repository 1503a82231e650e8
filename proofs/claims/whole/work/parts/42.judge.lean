/-! JUDGE at cell 295 -/
def JuR : List Nat := [304, 315, 326, 337]
def JuW : List Nat := [368, 370, 372, 374, 376, 378, 380, 382, 384]
def JuL (sh : Nat → Nat × Nat) (R : Nat → Nat → Option Nat) (N : Nat) : Prop := (295 < N ∧ sh 295 = (0, 2)) ∧ (R 295 0 = some 303 ∧ R 295 1 = some 348 ∧ R 295 2 = some 353 ∧ R 295 3 = some 358 ∧ R 295 4 = some 363 ∧ R 295 5 = some 368 ∧ R 295 6 = some 370 ∧ R 295 7 = some 372 ∧ R 295 8 = some 374 ∧ R 295 9 = some 376 ∧ R 295 10 = some 378 ∧ R 295 11 = some 380 ∧ R 295 12 = some 382 ∧ R 295 13 = some 384) ∧ (303 < N ∧ sh 303 = (3, 4)) ∧ (∀ k < 4, R 303 k = some (304 + 11 * k)) ∧ (∀ r ∈ JuR, isRt sh R N r 298 296) ∧ (∀ g ∈ [348, 353, 358, 363], isG sh R N g 296) ∧ (∀ w ∈ JuW, isW sh R N w) ∧ spG sh R N 296 ∧ sgR sh R N 298
theorem jur_lo : ∀ r ∈ JuR, 304 ≤ r ∧ r + 9 < 348 := by decide
def nrm (p : CI) : Int := p.1 * p.1 + p.2 * p.2
theorem nrm_bd {a c : Nat} {p : CI} (h : bdc a p) (hc : a + a + 1 ≤ c) : bd c (nrm p) := bd_add (bd_mul h.1 h.1 (Nat.le_refl _)) (bd_mul h.2 h.2 (Nat.le_refl _)) hc hc
def cmulc (a b : CI) : CI := (a.1 * b.1 + a.2 * b.2, a.2 * b.1 - a.1 * b.2)
theorem cmulc_bd {a b c : Nat} {x y : CI} (hx : bdc a x) (hy : bdc b y) (hc : a + b + 1 ≤ c) : bdc c (cmulc x y) :=
  ⟨bd_add (bd_mul hx.1 hy.1 (Nat.le_refl _)) (bd_mul hx.2 hy.2 (Nat.le_refl _)) hc hc, by
    have h : x.2 * y.1 - x.1 * y.2 = x.2 * y.1 + -(x.1 * y.2) := by omega
    unfold cmulc; rw [h]; exact bd_add (bd_mul hx.2 hy.1 (Nat.le_refl _)) (bd_neg (bd_mul hx.1 hy.2 (Nat.le_refl _))) hc hc⟩
/-- how much two sizes lack to 1, times the squares of both r -/
def lackI (x y : QR) : Int := (x.2.1 * x.2.1) * (y.2.1 * y.2.1) - nrm x.1 * (y.2.1 * y.2.1) - nrm y.1 * (x.2.1 * x.2.1)
def crsC (n : Nat → QR) : CI := csgn 1 (cmul (cmulc (n 1).1 (n 0).1) (cmul (n 2).2 (n 3).2)) (cmul (cmulc (n 3).1 (n 2).1) (cmul (n 0).2 (n 1).2))
theorem dX2_setSizes_0 : decode cX2_setSizes 0 = .ok (.aload_n 0, 1) := by decide +kernel
theorem dX2_setSizes_1 : decode cX2_setSizes 1 = .ok (.getfield 52, 3) := by decide +kernel
theorem dX2_setSizes_4 : decode cX2_setSizes 4 = .ok (.aload_n 1, 1) := by decide +kernel
theorem dX2_setSizes_5 : decode cX2_setSizes 5 = .ok (.getfield 82, 3) := by decide +kernel
theorem dX2_setSizes_8 : decode cX2_setSizes 8 = .ok (.getfield 83, 3) := by decide +kernel
theorem dX2_setSizes_11 : decode cX2_setSizes 11 = .ok (.aload_n 1, 1) := by decide +kernel
theorem dX2_setSizes_12 : decode cX2_setSizes 12 = .ok (.getfield 82, 3) := by decide +kernel
theorem dX2_setSizes_15 : decode cX2_setSizes 15 = .ok (.getfield 83, 3) := by decide +kernel
theorem dX2_setSizes_18 : decode cX2_setSizes 18 = .ok (.invokevirtual 86, 3) := by decide +kernel
theorem dX2_setSizes_21 : decode cX2_setSizes 21 = .ok (.aload_n 0, 1) := by decide +kernel
theorem dX2_setSizes_22 : decode cX2_setSizes 22 = .ok (.getfield 55, 3) := by decide +kernel
theorem dX2_setSizes_25 : decode cX2_setSizes 25 = .ok (.aload_n 2, 1) := by decide +kernel
theorem dX2_setSizes_26 : decode cX2_setSizes 26 = .ok (.getfield 82, 3) := by decide +kernel
theorem dX2_setSizes_29 : decode cX2_setSizes 29 = .ok (.getfield 83, 3) := by decide +kernel
theorem dX2_setSizes_32 : decode cX2_setSizes 32 = .ok (.aload_n 2, 1) := by decide +kernel
theorem dX2_setSizes_33 : decode cX2_setSizes 33 = .ok (.getfield 82, 3) := by decide +kernel
theorem dX2_setSizes_36 : decode cX2_setSizes 36 = .ok (.getfield 83, 3) := by decide +kernel
theorem dX2_setSizes_39 : decode cX2_setSizes 39 = .ok (.invokevirtual 86, 3) := by decide +kernel
theorem dX2_setSizes_42 : decode cX2_setSizes 42 = .ok (.aload_n 1, 1) := by decide +kernel
theorem dX2_setSizes_43 : decode cX2_setSizes 43 = .ok (.getfield 90, 3) := by decide +kernel
theorem dX2_setSizes_46 : decode cX2_setSizes 46 = .ok (.aload_n 0, 1) := by decide +kernel
theorem dX2_setSizes_47 : decode cX2_setSizes 47 = .ok (.getfield 42, 3) := by decide +kernel
theorem dX2_setSizes_50 : decode cX2_setSizes 50 = .ok (.invokevirtual 93, 3) := by decide +kernel
theorem dX2_setSizes_53 : decode cX2_setSizes 53 = .ok (.aload_n 0, 1) := by decide +kernel
theorem dX2_setSizes_54 : decode cX2_setSizes 54 = .ok (.getfield 46, 3) := by decide +kernel
theorem dX2_setSizes_57 : decode cX2_setSizes 57 = .ok (.aload_n 0, 1) := by decide +kernel
theorem dX2_setSizes_58 : decode cX2_setSizes 58 = .ok (.getfield 42, 3) := by decide +kernel
theorem dX2_setSizes_61 : decode cX2_setSizes 61 = .ok (.aload_n 0, 1) := by decide +kernel
theorem dX2_setSizes_62 : decode cX2_setSizes 62 = .ok (.getfield 55, 3) := by decide +kernel
theorem dX2_setSizes_65 : decode cX2_setSizes 65 = .ok (.invokevirtual 86, 3) := by decide +kernel
theorem dX2_setSizes_68 : decode cX2_setSizes 68 = .ok (.aload_n 2, 1) := by decide +kernel
theorem dX2_setSizes_69 : decode cX2_setSizes 69 = .ok (.getfield 90, 3) := by decide +kernel
theorem dX2_setSizes_72 : decode cX2_setSizes 72 = .ok (.aload_n 0, 1) := by decide +kernel
theorem dX2_setSizes_73 : decode cX2_setSizes 73 = .ok (.getfield 42, 3) := by decide +kernel
theorem dX2_setSizes_76 : decode cX2_setSizes 76 = .ok (.invokevirtual 93, 3) := by decide +kernel
theorem dX2_setSizes_79 : decode cX2_setSizes 79 = .ok (.aload_n 0, 1) := by decide +kernel
theorem dX2_setSizes_80 : decode cX2_setSizes 80 = .ok (.getfield 49, 3) := by decide +kernel
theorem dX2_setSizes_83 : decode cX2_setSizes 83 = .ok (.aload_n 0, 1) := by decide +kernel
theorem dX2_setSizes_84 : decode cX2_setSizes 84 = .ok (.getfield 42, 3) := by decide +kernel
theorem dX2_setSizes_87 : decode cX2_setSizes 87 = .ok (.aload_n 0, 1) := by decide +kernel
theorem dX2_setSizes_88 : decode cX2_setSizes 88 = .ok (.getfield 52, 3) := by decide +kernel
theorem dX2_setSizes_91 : decode cX2_setSizes 91 = .ok (.invokevirtual 86, 3) := by decide +kernel
theorem dX2_setSizes_94 : decode cX2_setSizes 94 = .ok (.return_, 1) := by decide +kernel
set_option maxHeartbeats 4000000 in
theorem m_setSizes (l : Launch) {D : va_G} {ids : Nat → ClassId} {β : Nat} {sh : Nat → Nat × Nat} {N : Nat} {R : Nat → Nat → Option Nat} {F : Nat → Nat → Int} {A : Nat → Int → Int} {V : Nat → Int} {x y : Nat} (hJ : JuL sh R N) (hS : ST sh R N F A V) (hx : x ∈ JuR) (hy : y ∈ JuR) (bx : bdq 25 (rg V x)) (bY : bdq 25 (rg V y)) : MetX l yX2_setSizes cX2_setSizes 3 none 4 107 D ids β sh N R F A [rf 295, rf x, rf y] (pVr (fun F2 A2 => ∃ V2, SQ sh R N F A V2 F2 A2 ∧ V2 374 = V (x + 6 + 1) * V (x + 6 + 1) ∧ V2 376 = V (y + 6 + 1) * V (y + 6 + 1) ∧ V2 370 = nrm (cx V (x + 1)) * (V (y + 6 + 1) * V (y + 6 + 1)) ∧ V2 372 = nrm (cx V (y + 1)) * (V (x + 6 + 1) * V (x + 6 + 1)) ∧ ∀ u, u ≠ 296 → u ≠ 368 → u ≠ 370 → u ≠ 372 → u ≠ 374 → u ≠ 376 → V2 u = V u)) := by
  refine MetX.of (loc := [_, _, _]) (plainFor_of_name (by decide +kernel)) (Nat.le_of_ble_eq_true rfl) rfl ?_
  intro p e s m args below meth c hC hK hr hlk
  obtain ⟨⟨j1, j2⟩, ⟨f0, f1, f2, f3, f4, f5, f6, f7, f8, f9, f10, f11, f12, f13⟩, ⟨j3, j4⟩, j5, hJR, hJG, hJW, hsp, hsg⟩ := id hJ
  have w368 := hJW 368 (by decide)
  have wN368 : 368 < N := by have := w368.1; omega
  have wS368 := w368.2.1
  have w370 := hJW 370 (by decide)
  have wN370 : 370 < N := by have := w370.1; omega
  have wS370 := w370.2.1
  have w372 := hJW 372 (by decide)
  have wN372 : 372 < N := by have := w372.1; omega
  have wS372 := w372.2.1
  have w374 := hJW 374 (by decide)
  have wN374 : 374 < N := by have := w374.1; omega
  have wS374 := w374.2.1
  have w376 := hJW 376 (by decide)
  have wN376 : 376 < N := by have := w376.1; omega
  have wS376 := w376.2.1
  obtain ⟨xlo, xhi⟩ := jur_lo x hx
  obtain ⟨x1, x2, x3, x4, -, xo, xu, -⟩ := id (hJR x hx)
  obtain ⟨xo1, xo2, xo3, xo4, -, xo6, xo7, xo8⟩ := id xo
  obtain ⟨xu1, xu2, xu3, xu4, -, xu6, xu7, xu8⟩ := id xu
  obtain ⟨ylo, yhi⟩ := jur_lo y hy
  obtain ⟨y1, y2, y3, y4, -, yo, yu, -⟩ := id (hJR y hy)
  obtain ⟨yo1, yo2, yo3, yo4, -, yo6, yo7, yo8⟩ := id yo
  obtain ⟨yu1, yu2, yu3, yu4, -, yu6, yu7, yu8⟩ := id yu
  obtain ⟨bx1, bx2⟩ := bx
  obtain ⟨bY1, bY2⟩ := bY
  refine x_aload_n (pc2 := 1) hC rfl rfl dX2_setSizes_0 rfl ?_
  refine g_334 (pc2 := 4) hC hK (by assumption) (by assumption) (by assumption) dX2_setSizes_1 rfl ?_
  refine x_aload_n (pc2 := 5) hC rfl rfl dX2_setSizes_4 rfl ?_
  refine g_227 (pc2 := 8) hC hK (by assumption) (by assumption) (by assumption) dX2_setSizes_5 rfl ?_
  refine g_160 (pc2 := 11) hC hK (by assumption) (by assumption) (by assumption) dX2_setSizes_8 rfl ?_
  refine x_aload_n (pc2 := 12) hC rfl rfl dX2_setSizes_11 rfl ?_
  refine g_227 (pc2 := 15) hC hK (by assumption) (by assumption) (by assumption) dX2_setSizes_12 rfl ?_
  refine g_160 (pc2 := 18) hC hK (by assumption) (by assumption) (by assumption) dX2_setSizes_15 rfl ?_
  refine x_cVv (pc2 := 21) (ci := 6) hC hK (s_product l hS w374 xu6 xu6 (by omega) (by omega) bx2.1 bx2.1 (by decide)) lk_752 rfl rfl (by decide) (by assumption) (by assumption) ⟨Nat.le_of_ble_eq_true rfl, Nat.le_of_ble_eq_true rfl⟩ ⟨Nat.le_refl _, Nat.le_refl _⟩ rfl (Nat.le_of_ble_eq_true rfl) dX2_setSizes_18 rfl ?_
  rintro F1 A1 ⟨S1, g1⟩
  refine x_aload_n (pc2 := 22) hC rfl rfl dX2_setSizes_21 rfl ?_
  refine g_335 (pc2 := 25) hC hK (by assumption) (by assumption) (by assumption) dX2_setSizes_22 rfl ?_
  refine x_aload_n (pc2 := 26) hC rfl rfl dX2_setSizes_25 rfl ?_
  refine g_227 (pc2 := 29) hC hK (by assumption) (by assumption) (by assumption) dX2_setSizes_26 rfl ?_
  refine g_160 (pc2 := 32) hC hK (by assumption) (by assumption) (by assumption) dX2_setSizes_29 rfl ?_
  refine x_aload_n (pc2 := 33) hC rfl rfl dX2_setSizes_32 rfl ?_
  refine g_227 (pc2 := 36) hC hK (by assumption) (by assumption) (by assumption) dX2_setSizes_33 rfl ?_
  refine g_160 (pc2 := 39) hC hK (by assumption) (by assumption) (by assumption) dX2_setSizes_36 rfl ?_
  refine x_cVv (pc2 := 42) (ci := 6) hC hK (s_product l S1 w376 yu6 yu6 (by omega) (by omega) (a := 25) (b := 25) (by rw [upV_ne (by omega)]; exact bY2.1) (by rw [upV_ne (by omega)]; exact bY2.1) (by decide)) lk_752 rfl rfl (by decide) (by assumption) (by assumption) ⟨Nat.le_of_ble_eq_true rfl, Nat.le_of_ble_eq_true rfl⟩ ⟨Nat.le_refl _, Nat.le_refl _⟩ rfl (Nat.le_of_ble_eq_true rfl) dX2_setSizes_39 rfl ?_
  rintro F2 A2 ⟨S2, g2⟩
  rw [upV_ne (show y + 6 + 1 ≠ 374 by omega)] at S2
  refine x_aload_n (pc2 := 43) hC rfl rfl dX2_setSizes_42 rfl ?_
  refine g_224 (pc2 := 46) hC hK (by assumption) (by assumption) (by assumption) dX2_setSizes_43 rfl ?_
  refine x_aload_n (pc2 := 47) hC rfl rfl dX2_setSizes_46 rfl ?_
  refine g_331 (pc2 := 50) hC hK (by assumption) (by assumption) (by assumption) dX2_setSizes_47 rfl ?_
  refine x_cVv (pc2 := 53) (ci := 1) hC hK (m_gsize l S2 (a := 25) (sp := 296) xo hsp w368 (by decide) (by omega) (by omega) (by rw [upV_ne (by omega), upV_ne (by omega), upV_ne (by omega), upV_ne (by omega)]; exact bx1) ⟨by decide, by decide⟩) lk_753 rfl rfl (by decide) (by assumption) (by assumption) ⟨Nat.le_of_ble_eq_true rfl, Nat.le_of_ble_eq_true rfl⟩ ⟨Nat.le_refl _, Nat.le_refl _⟩ rfl (Nat.le_of_ble_eq_true rfl) dX2_setSizes_50 rfl ?_
  rintro F3 A3 ⟨V3, ⟨S3, g3⟩, v3, k3⟩
  rw [upV_ne (by omega), upV_ne (by omega), upV_ne (by omega), upV_ne (by omega)] at v3
  replace v3 : V3 368 = nrm (cx V (x + 1)) := v3
  have s3 : V3 376 = V (y + 6 + 1) * V (y + 6 + 1) := by rw [k3 _ (by decide) (by decide), upV_eq]
  have t3 : V3 374 = V (x + 6 + 1) * V (x + 6 + 1) := by rw [k3 _ (by decide) (by decide), upV_ne (by decide), upV_eq]
  refine x_aload_n (pc2 := 54) hC rfl rfl dX2_setSizes_53 rfl ?_
  refine g_332 (pc2 := 57) hC hK (by assumption) (by assumption) (by assumption) dX2_setSizes_54 rfl ?_
  refine x_aload_n (pc2 := 58) hC rfl rfl dX2_setSizes_57 rfl ?_
  refine g_331 (pc2 := 61) hC hK (by assumption) (by assumption) (by assumption) dX2_setSizes_58 rfl ?_
  refine x_aload_n (pc2 := 62) hC rfl rfl dX2_setSizes_61 rfl ?_
  refine g_335 (pc2 := 65) hC hK (by assumption) (by assumption) (by assumption) dX2_setSizes_62 rfl ?_
  refine x_cVv (pc2 := 68) (ci := 6) hC hK (s_product l S3 w370 w368 w376 (by decide) (by decide) (a := 51) (b := 50) (by rw [v3]; exact nrm_bd bx1 (by decide)) (by rw [s3]; exact bd_mul bY2.1 bY2.1 (by decide)) (by decide)) lk_752 rfl rfl (by decide) (by assumption) (by assumption) ⟨Nat.le_of_ble_eq_true rfl, Nat.le_of_ble_eq_true rfl⟩ ⟨Nat.le_refl _, Nat.le_refl _⟩ rfl (Nat.le_of_ble_eq_true rfl) dX2_setSizes_65 rfl ?_
  rintro F4 A4 ⟨S4, g4⟩
  rw [v3, s3] at S4
  refine x_aload_n (pc2 := 69) hC rfl rfl dX2_setSizes_68 rfl ?_
  refine g_224 (pc2 := 72) hC hK (by assumption) (by assumption) (by assumption) dX2_setSizes_69 rfl ?_
  refine x_aload_n (pc2 := 73) hC rfl rfl dX2_setSizes_72 rfl ?_
  refine g_331 (pc2 := 76) hC hK (by assumption) (by assumption) (by assumption) dX2_setSizes_73 rfl ?_
  refine x_cVv (pc2 := 79) (ci := 1) hC hK (m_gsize l S4 (a := 25) (sp := 296) yo hsp w368 (by decide) (by omega) (by omega) (by rw [upV_ne (by omega), k3 _ (by omega) (by omega), upV_ne (by omega), upV_ne (by omega), upV_ne (by omega), k3 _ (by omega) (by omega), upV_ne (by omega), upV_ne (by omega)]; exact bY1) ⟨by decide, by decide⟩) lk_753 rfl rfl (by decide) (by assumption) (by assumption) ⟨Nat.le_of_ble_eq_true rfl, Nat.le_of_ble_eq_true rfl⟩ ⟨Nat.le_refl _, Nat.le_refl _⟩ rfl (Nat.le_of_ble_eq_true rfl) dX2_setSizes_76 rfl ?_
  rintro F5 A5 ⟨V5, ⟨S5, g5⟩, v5, k5⟩
  rw [upV_ne (by omega), k3 _ (by omega) (by omega), upV_ne (by omega), upV_ne (by omega), upV_ne (by omega), k3 _ (by omega) (by omega), upV_ne (by omega), upV_ne (by omega)] at v5
  replace v5 : V5 368 = nrm (cx V (y + 1)) := v5
  have t5 : V5 374 = V (x + 6 + 1) * V (x + 6 + 1) := by rw [k5 _ (by decide) (by decide), upV_ne (by decide), t3]
  refine x_aload_n (pc2 := 80) hC rfl rfl dX2_setSizes_79 rfl ?_
  refine g_333 (pc2 := 83) hC hK (by assumption) (by assumption) (by assumption) dX2_setSizes_80 rfl ?_
  refine x_aload_n (pc2 := 84) hC rfl rfl dX2_setSizes_83 rfl ?_
  refine g_331 (pc2 := 87) hC hK (by assumption) (by assumption) (by assumption) dX2_setSizes_84 rfl ?_
  refine x_aload_n (pc2 := 88) hC rfl rfl dX2_setSizes_87 rfl ?_
  refine g_334 (pc2 := 91) hC hK (by assumption) (by assumption) (by assumption) dX2_setSizes_88 rfl ?_
  refine x_cVv (pc2 := 94) (ci := 6) hC hK (s_product l S5 w372 w368 w374 (by decide) (by decide) (a := 51) (b := 50) (by rw [v5]; exact nrm_bd bY1 (by decide)) (by rw [t5]; exact bd_mul bx2.1 bx2.1 (by decide)) (by decide)) lk_752 rfl rfl (by decide) (by assumption) (by assumption) ⟨Nat.le_of_ble_eq_true rfl, Nat.le_of_ble_eq_true rfl⟩ ⟨Nat.le_refl _, Nat.le_refl _⟩ rfl (Nat.le_of_ble_eq_true rfl) dX2_setSizes_91 rfl ?_
  rintro F6 A6 ⟨S6, g6⟩
  rw [v5, t5] at S6
  exact x_vret hC hr hlk ⟨rfl, _, ⟨S6, ((((g1.tr g2).tr g3).tr g4).tr g5).tr g6⟩, by rw [upV_ne (by decide), t5], by rw [upV_ne (by decide), k5 _ (by decide) (by decide), upV_ne (by decide), s3], by rw [upV_ne (by decide), k5 _ (by decide) (by decide), upV_eq], by rw [upV_eq], fun u u1 u2 u3 u4 u5 u6 => by rw [upV_ne u4, k5 u u2 u1, upV_ne u3, k3 u u2 u1, upV_ne u6, upV_ne u5]⟩ dX2_setSizes_94
theorem dX2_setLack_0 : decode cX2_setLack 0 = .ok (.aload_n 1, 1) := by decide +kernel
theorem dX2_setLack_1 : decode cX2_setLack 1 = .ok (.aload_n 0, 1) := by decide +kernel
theorem dX2_setLack_2 : decode cX2_setLack 2 = .ok (.getfield 52, 3) := by decide +kernel
theorem dX2_setLack_5 : decode cX2_setLack 5 = .ok (.aload_n 0, 1) := by decide +kernel
theorem dX2_setLack_6 : decode cX2_setLack 6 = .ok (.getfield 55, 3) := by decide +kernel
theorem dX2_setLack_9 : decode cX2_setLack 9 = .ok (.invokevirtual 86, 3) := by decide +kernel
theorem dX2_setLack_12 : decode cX2_setLack 12 = .ok (.aload_n 1, 1) := by decide +kernel
theorem dX2_setLack_13 : decode cX2_setLack 13 = .ok (.aload_n 1, 1) := by decide +kernel
theorem dX2_setLack_14 : decode cX2_setLack 14 = .ok (.aload_n 0, 1) := by decide +kernel
theorem dX2_setLack_15 : decode cX2_setLack 15 = .ok (.getfield 46, 3) := by decide +kernel
theorem dX2_setLack_18 : decode cX2_setLack 18 = .ok (.iconst (-1), 1) := by decide +kernel
theorem dX2_setLack_19 : decode cX2_setLack 19 = .ok (.invokevirtual 105, 3) := by decide +kernel
theorem dX2_setLack_22 : decode cX2_setLack 22 = .ok (.aload_n 1, 1) := by decide +kernel
theorem dX2_setLack_23 : decode cX2_setLack 23 = .ok (.aload_n 1, 1) := by decide +kernel
theorem dX2_setLack_24 : decode cX2_setLack 24 = .ok (.aload_n 0, 1) := by decide +kernel
theorem dX2_setLack_25 : decode cX2_setLack 25 = .ok (.getfield 49, 3) := by decide +kernel
theorem dX2_setLack_28 : decode cX2_setLack 28 = .ok (.iconst (-1), 1) := by decide +kernel
theorem dX2_setLack_29 : decode cX2_setLack 29 = .ok (.invokevirtual 105, 3) := by decide +kernel
theorem dX2_setLack_32 : decode cX2_setLack 32 = .ok (.return_, 1) := by decide +kernel
set_option maxHeartbeats 4000000 in
theorem m_setLack (l : Launch) {D : va_G} {ids : Nat → ClassId} {β : Nat} {sh : Nat → Nat × Nat} {N : Nat} {R : Nat → Nat → Option Nat} {F : Nat → Nat → Int} {A : Nat → Int → Int} {V : Nat → Int} {into : Nat} (hJ : JuL sh R N) (hS : ST sh R N F A V) (hin : into = 378 ∨ into = 380) (b1 : bd 50 (V 374)) (b2 : bd 50 (V 376)) (b3 : bd 101 (V 370)) (b4 : bd 101 (V 372)) : MetX l yX2_setLack cX2_setLack 2 none 3 86 D ids β sh N R F A [rf 295, rf into] (pVr (SQ sh R N F A (upV V into (V 374 * V 376 - V 370 - V 372)))) := by
  refine MetX.of (loc := [_, _]) (plainFor_of_name (by decide +kernel)) (Nat.le_of_ble_eq_true rfl) rfl ?_
  intro p e s m args below meth c hC hK hr hlk
  obtain ⟨⟨j1, j2⟩, ⟨f0, f1, f2, f3, f4, f5, f6, f7, f8, f9, f10, f11, f12, f13⟩, ⟨j3, j4⟩, j5, hJR, hJG, hJW, hsp, hsg⟩ := id hJ
  have w370 := hJW 370 (by decide)
  have wN370 : 370 < N := by have := w370.1; omega
  have wS370 := w370.2.1
  have w372 := hJW 372 (by decide)
  have wN372 : 372 < N := by have := w372.1; omega
  have wS372 := w372.2.1
  have w374 := hJW 374 (by decide)
  have wN374 : 374 < N := by have := w374.1; omega
  have wS374 := w374.2.1
  have w376 := hJW 376 (by decide)
  have wN376 : 376 < N := by have := w376.1; omega
  have wS376 := w376.2.1
  have win : isW sh R N into := by rcases hin with rfl | rfl <;> exact hJW _ (by decide)
  have winN : into < N := by have := win.1; omega
  have winS := win.2.1
  refine x_aload_n (pc2 := 1) hC rfl rfl dX2_setLack_0 rfl ?_
  refine x_aload_n (pc2 := 2) hC rfl rfl dX2_setLack_1 rfl ?_
  refine g_334 (pc2 := 5) hC hK (by assumption) (by assumption) (by assumption) dX2_setLack_2 rfl ?_
  refine x_aload_n (pc2 := 6) hC rfl rfl dX2_setLack_5 rfl ?_
  refine g_335 (pc2 := 9) hC hK (by assumption) (by assumption) (by assumption) dX2_setLack_6 rfl ?_
  refine x_cVv (pc2 := 12) (ci := 6) hC hK (s_product l hS win w374 w376 (by omega) (by omega) b1 b2 (by decide)) lk_752 rfl rfl (by decide) (by assumption) (by assumption) ⟨Nat.le_of_ble_eq_true rfl, Nat.le_of_ble_eq_true rfl⟩ ⟨Nat.le_refl _, Nat.le_refl _⟩ rfl (Nat.le_of_ble_eq_true rfl) dX2_setLack_9 rfl ?_
  rintro F1 A1 ⟨S1, g1⟩
  refine x_aload_n (pc2 := 13) hC rfl rfl dX2_setLack_12 rfl ?_
  refine x_aload_n (pc2 := 14) hC rfl rfl dX2_setLack_13 rfl ?_
  refine x_aload_n (pc2 := 15) hC rfl rfl dX2_setLack_14 rfl ?_
  refine g_332 (pc2 := 18) hC hK (by assumption) (by assumption) (by assumption) dX2_setLack_15 rfl ?_
  refine x_iconst (pc2 := 19) hC dX2_setLack_18 rfl ?_
  refine x_cVv (pc2 := 22) (ci := 6) hC hK (s_sum l S1 win win w370 (Or.inr rfl) (a := 100) (b := 101) (by rw [upV_eq]; exact bd_mul b1 b2 (by decide)) (by rw [upV_ne (by omega)]; exact b3) ⟨by decide, by decide⟩) lk_758 rfl rfl (by decide) (by assumption) (by assumption) ⟨Nat.le_of_ble_eq_true rfl, Nat.le_of_ble_eq_true rfl⟩ ⟨Nat.le_refl _, Nat.le_refl _⟩ rfl (Nat.le_of_ble_eq_true rfl) dX2_setLack_19 rfl ?_
  rintro F2 A2 ⟨S2, g2⟩
  rw [upV_eq, upV_ne (show 370 ≠ into by omega)] at S2
  refine x_aload_n (pc2 := 23) hC rfl rfl dX2_setLack_22 rfl ?_
  refine x_aload_n (pc2 := 24) hC rfl rfl dX2_setLack_23 rfl ?_
  refine x_aload_n (pc2 := 25) hC rfl rfl dX2_setLack_24 rfl ?_
  refine g_333 (pc2 := 28) hC hK (by assumption) (by assumption) (by assumption) dX2_setLack_25 rfl ?_
  refine x_iconst (pc2 := 29) hC dX2_setLack_28 rfl ?_
  refine x_cVv (pc2 := 32) (ci := 6) hC hK (s_sum l S2 win win w372 (Or.inr rfl) (a := 102) (b := 101) (by rw [upV_eq]; exact bd_add2 (a := 100) (Or.inr rfl) (bd_mul b1 b2 (by decide)) b3 (by decide) (by decide)) (by rw [upV_ne (by omega), upV_ne (by omega)]; exact b4) ⟨by decide, by decide⟩) lk_758 rfl rfl (by decide) (by assumption) (by assumption) ⟨Nat.le_of_ble_eq_true rfl, Nat.le_of_ble_eq_true rfl⟩ ⟨Nat.le_refl _, Nat.le_refl _⟩ rfl (Nat.le_of_ble_eq_true rfl) dX2_setLack_29 rfl ?_
  rintro F3 A3 ⟨S3, g3⟩
  rw [upV_eq, upV_ne (show 372 ≠ into by omega), upV_ne (show 372 ≠ into by omega)] at S3
  exact x_vret hC hr hlk ⟨rfl, by
    have e : upV (upV (upV V into (V 374 * V 376)) into (V 374 * V 376 + -1 * V 370)) into (V 374 * V 376 + -1 * V 370 + -1 * V 372) = upV V into (V 374 * V 376 - V 370 - V 372) := by
      funext u
      by_cases q : u = into
      · rw [q, upV_eq, upV_eq]; omega
      · rw [upV_ne q, upV_ne q, upV_ne q, upV_ne q]
    rw [← e]; exact S3, (g1.tr g2).tr g3⟩ dX2_setLack_32
theorem dX2_setCrossing_0 : decode cX2_setCrossing 0 = .ok (.aload_n 0, 1) := by decide +kernel
theorem dX2_setCrossing_1 : decode cX2_setCrossing 1 = .ok (.getfield 29, 3) := by decide +kernel
theorem dX2_setCrossing_4 : decode cX2_setCrossing 4 = .ok (.aload_n 0, 1) := by decide +kernel
theorem dX2_setCrossing_5 : decode cX2_setCrossing 5 = .ok (.getfield 23, 3) := by decide +kernel
theorem dX2_setCrossing_8 : decode cX2_setCrossing 8 = .ok (.iconst 1, 1) := by decide +kernel
theorem dX2_setCrossing_9 : decode cX2_setCrossing 9 = .ok (.aaload, 1) := by decide +kernel
theorem dX2_setCrossing_10 : decode cX2_setCrossing 10 = .ok (.getfield 90, 3) := by decide +kernel
theorem dX2_setCrossing_13 : decode cX2_setCrossing 13 = .ok (.aload_n 0, 1) := by decide +kernel
theorem dX2_setCrossing_14 : decode cX2_setCrossing 14 = .ok (.getfield 23, 3) := by decide +kernel
theorem dX2_setCrossing_17 : decode cX2_setCrossing 17 = .ok (.iconst 0, 1) := by decide +kernel
theorem dX2_setCrossing_18 : decode cX2_setCrossing 18 = .ok (.aaload, 1) := by decide +kernel
theorem dX2_setCrossing_19 : decode cX2_setCrossing 19 = .ok (.getfield 90, 3) := by decide +kernel
theorem dX2_setCrossing_22 : decode cX2_setCrossing 22 = .ok (.iconst (-1), 1) := by decide +kernel
theorem dX2_setCrossing_23 : decode cX2_setCrossing 23 = .ok (.invokevirtual 109, 3) := by decide +kernel
theorem dX2_setCrossing_26 : decode cX2_setCrossing 26 = .ok (.aload_n 0, 1) := by decide +kernel
theorem dX2_setCrossing_27 : decode cX2_setCrossing 27 = .ok (.getfield 33, 3) := by decide +kernel
theorem dX2_setCrossing_30 : decode cX2_setCrossing 30 = .ok (.aload_n 0, 1) := by decide +kernel
theorem dX2_setCrossing_31 : decode cX2_setCrossing 31 = .ok (.getfield 23, 3) := by decide +kernel
theorem dX2_setCrossing_34 : decode cX2_setCrossing 34 = .ok (.iconst 2, 1) := by decide +kernel
theorem dX2_setCrossing_35 : decode cX2_setCrossing 35 = .ok (.aaload, 1) := by decide +kernel
theorem dX2_setCrossing_36 : decode cX2_setCrossing 36 = .ok (.getfield 82, 3) := by decide +kernel
theorem dX2_setCrossing_39 : decode cX2_setCrossing 39 = .ok (.aload_n 0, 1) := by decide +kernel
theorem dX2_setCrossing_40 : decode cX2_setCrossing 40 = .ok (.getfield 23, 3) := by decide +kernel
theorem dX2_setCrossing_43 : decode cX2_setCrossing 43 = .ok (.iconst 3, 1) := by decide +kernel
theorem dX2_setCrossing_44 : decode cX2_setCrossing 44 = .ok (.aaload, 1) := by decide +kernel
theorem dX2_setCrossing_45 : decode cX2_setCrossing 45 = .ok (.getfield 82, 3) := by decide +kernel
theorem dX2_setCrossing_48 : decode cX2_setCrossing 48 = .ok (.iconst 1, 1) := by decide +kernel
theorem dX2_setCrossing_49 : decode cX2_setCrossing 49 = .ok (.invokevirtual 109, 3) := by decide +kernel
theorem dX2_setCrossing_52 : decode cX2_setCrossing 52 = .ok (.aload_n 0, 1) := by decide +kernel
theorem dX2_setCrossing_53 : decode cX2_setCrossing 53 = .ok (.getfield 36, 3) := by decide +kernel
theorem dX2_setCrossing_56 : decode cX2_setCrossing 56 = .ok (.aload_n 0, 1) := by decide +kernel
theorem dX2_setCrossing_57 : decode cX2_setCrossing 57 = .ok (.getfield 29, 3) := by decide +kernel
theorem dX2_setCrossing_60 : decode cX2_setCrossing 60 = .ok (.aload_n 0, 1) := by decide +kernel
theorem dX2_setCrossing_61 : decode cX2_setCrossing 61 = .ok (.getfield 33, 3) := by decide +kernel
theorem dX2_setCrossing_64 : decode cX2_setCrossing 64 = .ok (.iconst 1, 1) := by decide +kernel
theorem dX2_setCrossing_65 : decode cX2_setCrossing 65 = .ok (.invokevirtual 109, 3) := by decide +kernel
theorem dX2_setCrossing_68 : decode cX2_setCrossing 68 = .ok (.aload_n 0, 1) := by decide +kernel
theorem dX2_setCrossing_69 : decode cX2_setCrossing 69 = .ok (.getfield 29, 3) := by decide +kernel
theorem dX2_setCrossing_72 : decode cX2_setCrossing 72 = .ok (.aload_n 0, 1) := by decide +kernel
theorem dX2_setCrossing_73 : decode cX2_setCrossing 73 = .ok (.getfield 23, 3) := by decide +kernel
theorem dX2_setCrossing_76 : decode cX2_setCrossing 76 = .ok (.iconst 3, 1) := by decide +kernel
theorem dX2_setCrossing_77 : decode cX2_setCrossing 77 = .ok (.aaload, 1) := by decide +kernel
theorem dX2_setCrossing_78 : decode cX2_setCrossing 78 = .ok (.getfield 90, 3) := by decide +kernel
theorem dX2_setCrossing_81 : decode cX2_setCrossing 81 = .ok (.aload_n 0, 1) := by decide +kernel
theorem dX2_setCrossing_82 : decode cX2_setCrossing 82 = .ok (.getfield 23, 3) := by decide +kernel
theorem dX2_setCrossing_85 : decode cX2_setCrossing 85 = .ok (.iconst 2, 1) := by decide +kernel
theorem dX2_setCrossing_86 : decode cX2_setCrossing 86 = .ok (.aaload, 1) := by decide +kernel
theorem dX2_setCrossing_87 : decode cX2_setCrossing 87 = .ok (.getfield 90, 3) := by decide +kernel
theorem dX2_setCrossing_90 : decode cX2_setCrossing 90 = .ok (.iconst (-1), 1) := by decide +kernel
theorem dX2_setCrossing_91 : decode cX2_setCrossing 91 = .ok (.invokevirtual 109, 3) := by decide +kernel
theorem dX2_setCrossing_94 : decode cX2_setCrossing 94 = .ok (.aload_n 0, 1) := by decide +kernel
theorem dX2_setCrossing_95 : decode cX2_setCrossing 95 = .ok (.getfield 33, 3) := by decide +kernel
theorem dX2_setCrossing_98 : decode cX2_setCrossing 98 = .ok (.aload_n 0, 1) := by decide +kernel
theorem dX2_setCrossing_99 : decode cX2_setCrossing 99 = .ok (.getfield 23, 3) := by decide +kernel
theorem dX2_setCrossing_102 : decode cX2_setCrossing 102 = .ok (.iconst 0, 1) := by decide +kernel
theorem dX2_setCrossing_103 : decode cX2_setCrossing 103 = .ok (.aaload, 1) := by decide +kernel
theorem dX2_setCrossing_104 : decode cX2_setCrossing 104 = .ok (.getfield 82, 3) := by decide +kernel
theorem dX2_setCrossing_107 : decode cX2_setCrossing 107 = .ok (.aload_n 0, 1) := by decide +kernel
theorem dX2_setCrossing_108 : decode cX2_setCrossing 108 = .ok (.getfield 23, 3) := by decide +kernel
theorem dX2_setCrossing_111 : decode cX2_setCrossing 111 = .ok (.iconst 1, 1) := by decide +kernel
theorem dX2_setCrossing_112 : decode cX2_setCrossing 112 = .ok (.aaload, 1) := by decide +kernel
theorem dX2_setCrossing_113 : decode cX2_setCrossing 113 = .ok (.getfield 82, 3) := by decide +kernel
theorem dX2_setCrossing_116 : decode cX2_setCrossing 116 = .ok (.iconst 1, 1) := by decide +kernel
theorem dX2_setCrossing_117 : decode cX2_setCrossing 117 = .ok (.invokevirtual 109, 3) := by decide +kernel
theorem dX2_setCrossing_120 : decode cX2_setCrossing 120 = .ok (.aload_n 0, 1) := by decide +kernel
theorem dX2_setCrossing_121 : decode cX2_setCrossing 121 = .ok (.getfield 39, 3) := by decide +kernel
theorem dX2_setCrossing_124 : decode cX2_setCrossing 124 = .ok (.aload_n 0, 1) := by decide +kernel
theorem dX2_setCrossing_125 : decode cX2_setCrossing 125 = .ok (.getfield 29, 3) := by decide +kernel
theorem dX2_setCrossing_128 : decode cX2_setCrossing 128 = .ok (.aload_n 0, 1) := by decide +kernel
theorem dX2_setCrossing_129 : decode cX2_setCrossing 129 = .ok (.getfield 33, 3) := by decide +kernel
theorem dX2_setCrossing_132 : decode cX2_setCrossing 132 = .ok (.iconst 1, 1) := by decide +kernel
theorem dX2_setCrossing_133 : decode cX2_setCrossing 133 = .ok (.invokevirtual 109, 3) := by decide +kernel
theorem dX2_setCrossing_136 : decode cX2_setCrossing 136 = .ok (.aload_n 0, 1) := by decide +kernel
theorem dX2_setCrossing_137 : decode cX2_setCrossing 137 = .ok (.getfield 29, 3) := by decide +kernel
theorem dX2_setCrossing_140 : decode cX2_setCrossing 140 = .ok (.aload_n 0, 1) := by decide +kernel
theorem dX2_setCrossing_141 : decode cX2_setCrossing 141 = .ok (.getfield 36, 3) := by decide +kernel
theorem dX2_setCrossing_144 : decode cX2_setCrossing 144 = .ok (.aload_n 0, 1) := by decide +kernel
theorem dX2_setCrossing_145 : decode cX2_setCrossing 145 = .ok (.getfield 39, 3) := by decide +kernel
theorem dX2_setCrossing_148 : decode cX2_setCrossing 148 = .ok (.iconst 1, 1) := by decide +kernel
theorem dX2_setCrossing_149 : decode cX2_setCrossing 149 = .ok (.invokevirtual 112, 3) := by decide +kernel
theorem dX2_setCrossing_152 : decode cX2_setCrossing 152 = .ok (.aload_n 0, 1) := by decide +kernel
theorem dX2_setCrossing_153 : decode cX2_setCrossing 153 = .ok (.getfield 29, 3) := by decide +kernel
theorem dX2_setCrossing_156 : decode cX2_setCrossing 156 = .ok (.aload_n 0, 1) := by decide +kernel
theorem dX2_setCrossing_157 : decode cX2_setCrossing 157 = .ok (.getfield 67, 3) := by decide +kernel
theorem dX2_setCrossing_160 : decode cX2_setCrossing 160 = .ok (.invokevirtual 93, 3) := by decide +kernel
theorem dX2_setCrossing_163 : decode cX2_setCrossing 163 = .ok (.return_, 1) := by decide +kernel
set_option maxHeartbeats 8000000 in
theorem m_setCrossing (l : Launch) {D : va_G} {ids : Nat → ClassId} {β : Nat} {sh : Nat → Nat × Nat} {N : Nat} {R : Nat → Nat → Option Nat} {F : Nat → Nat → Int} {A : Nat → Int → Int} {V : Nat → Int} {n : Nat → QR} (hJ : JuL sh R N) (hS : ST sh R N F A V) (hn : ∀ k < 4, rg V (304 + 11 * k) = n k ∧ bdq 25 (n k)) : MetX l yX2_setCrossing cX2_setCrossing 1 none 4 109 D ids β sh N R F A [rf 295] (pVr (fun F2 A2 => ∃ V2, SQ sh R N F A V2 F2 A2 ∧ V2 384 = nrm (crsC n) ∧ ∀ u, u < 296 ∨ u = 378 ∨ u = 380 → V2 u = V u)) := by
  refine MetX.of (loc := [_]) (plainFor_of_name (by decide +kernel)) (Nat.le_of_ble_eq_true rfl) rfl ?_
  intro p e s m args below meth c hC hK hr hlk
  obtain ⟨⟨j1, j2⟩, ⟨f0, f1, f2, f3, f4, f5, f6, f7, f8, f9, f10, f11, f12, f13⟩, ⟨j3, j4⟩, j5, hJR, hJG, hJW, hsp, hsg⟩ := id hJ
  have w384 := hJW 384 (by decide)
  have wN384 : 384 < N := by have := w384.1; omega
  have wS384 := w384.2.1
  have rt304 := hJR 304 (by decide)
  obtain ⟨r3041, r3042, r3043, r3044, -, o304, u304, -⟩ := id rt304
  have e304 := (hn 0 (by decide)).1
  obtain ⟨bo304, bu304⟩ := (hn 0 (by decide)).2
  have eo304 : cx V 305 = (n 0).1 := congrArg Prod.fst e304
  have eu304 : cx V 310 = (n 0).2 := congrArg Prod.snd e304
  have rt315 := hJR 315 (by decide)
  obtain ⟨r3151, r3152, r3153, r3154, -, o315, u315, -⟩ := id rt315
  have e315 := (hn 1 (by decide)).1
  obtain ⟨bo315, bu315⟩ := (hn 1 (by decide)).2
  have eo315 : cx V 316 = (n 1).1 := congrArg Prod.fst e315
  have eu315 : cx V 321 = (n 1).2 := congrArg Prod.snd e315
  have rt326 := hJR 326 (by decide)
  obtain ⟨r3261, r3262, r3263, r3264, -, o326, u326, -⟩ := id rt326
  have e326 := (hn 2 (by decide)).1
  obtain ⟨bo326, bu326⟩ := (hn 2 (by decide)).2
  have eo326 : cx V 327 = (n 2).1 := congrArg Prod.fst e326
  have eu326 : cx V 332 = (n 2).2 := congrArg Prod.snd e326
  have rt337 := hJR 337 (by decide)
  obtain ⟨r3371, r3372, r3373, r3374, -, o337, u337, -⟩ := id rt337
  have e337 := (hn 3 (by decide)).1
  obtain ⟨bo337, bu337⟩ := (hn 3 (by decide)).2
  have eo337 : cx V 338 = (n 3).1 := congrArg Prod.fst e337
  have eu337 : cx V 343 = (n 3).2 := congrArg Prod.snd e337
  have t348 := hJG 348 (by decide)
  have tN348 := t348.1
  have tS348 := t348.2.1
  have t353 := hJG 353 (by decide)
  have tN353 := t353.1
  have tS353 := t353.2.1
  have t358 := hJG 358 (by decide)
  have tN358 := t358.1
  have tS358 := t358.2.1
  have t363 := hJG 363 (by decide)
  have tN363 := t363.1
  have tS363 := t363.2.1
  refine x_aload_n (pc2 := 1) hC rfl rfl dX2_setCrossing_0 rfl ?_
  refine g_327 (pc2 := 4) hC hK (by assumption) (by assumption) (by assumption) dX2_setCrossing_1 rfl ?_
  refine x_aload_n (pc2 := 5) hC rfl rfl dX2_setCrossing_4 rfl ?_
  refine g_326 (pc2 := 8) hC hK (by assumption) (by assumption) (by assumption) dX2_setCrossing_5 rfl ?_
  refine x_iconst (pc2 := 9) hC dX2_setCrossing_8 rfl ?_
  refine x_aald (pc2 := 10) hC hK j3 j4 (by omega) (by decide) (j5 1 (by decide)) dX2_setCrossing_9 rfl ?_
  refine g_224 (pc2 := 13) hC hK (by assumption) (by assumption) (by assumption) dX2_setCrossing_10 rfl ?_
  refine x_aload_n (pc2 := 14) hC rfl rfl dX2_setCrossing_13 rfl ?_
  refine g_326 (pc2 := 17) hC hK (by assumption) (by assumption) (by assumption) dX2_setCrossing_14 rfl ?_
  refine x_iconst (pc2 := 18) hC dX2_setCrossing_17 rfl ?_
  refine x_aald (pc2 := 19) hC hK j3 j4 (by omega) (by decide) (j5 0 (by decide)) dX2_setCrossing_18 rfl ?_
  refine g_224 (pc2 := 22) hC hK (by assumption) (by assumption) (by assumption) dX2_setCrossing_19 rfl ?_
  refine x_iconst (pc2 := 23) hC dX2_setCrossing_22 rfl ?_
  refine x_cVv (pc2 := 26) (ci := 1) hC hK (m_gproduct l hS (g := 348) (x := 316) (y := 305) t348 o315 o304 (by decide) (by decide) hsp (Or.inr rfl) (a := 25) (b := 25) (show bdc 25 (cx V 316) by rw [eo315]; exact bo315) (show bdc 25 (cx V 305) by rw [eo304]; exact bo304) ⟨by decide, by decide⟩) lk_764 rfl rfl (by decide) (by assumption) (by assumption) ⟨Nat.le_of_ble_eq_true rfl, Nat.le_of_ble_eq_true rfl⟩ ⟨Nat.le_refl _, Nat.le_refl _⟩ rfl (Nat.le_of_ble_eq_true rfl) dX2_setCrossing_23 rfl ?_
  rintro F23 A23 hG
  obtain ⟨V23, ⟨S23, g23⟩, v23, k23⟩ := hG.c
  replace v23 : cx V23 348 = cmulc (cx V 316) (cx V 305) := by rw [v23]; unfold cmulc cx; refine Prod.ext ?_ ?_ <;> dsimp only <;> omega
  rw [eo315, eo304] at v23
  have k23_332 : cx V23 332 = (n 2).2 := by rw [cx, k23 _ (by decide) (by decide) (by decide), k23 _ (by decide) (by decide) (by decide)]; exact eu326
  have k23_343 : cx V23 343 = (n 3).2 := by rw [cx, k23 _ (by decide) (by decide) (by decide), k23 _ (by decide) (by decide) (by decide)]; exact eu337
  have k23_338 : cx V23 338 = (n 3).1 := by rw [cx, k23 _ (by decide) (by decide) (by decide), k23 _ (by decide) (by decide) (by decide)]; exact eo337
  have k23_327 : cx V23 327 = (n 2).1 := by rw [cx, k23 _ (by decide) (by decide) (by decide), k23 _ (by decide) (by decide) (by decide)]; exact eo326
  have k23_310 : cx V23 310 = (n 0).2 := by rw [cx, k23 _ (by decide) (by decide) (by decide), k23 _ (by decide) (by decide) (by decide)]; exact eu304
  have k23_321 : cx V23 321 = (n 1).2 := by rw [cx, k23 _ (by decide) (by decide) (by decide), k23 _ (by decide) (by decide) (by decide)]; exact eu315
  have fr23 : ∀ u, u < 296 ∨ u = 378 ∨ u = 380 → V23 u = V u := fun u hu => (k23 u (by omega) (by omega) (by omega)).trans ((fun _ _ => rfl) u hu)
  refine x_aload_n (pc2 := 27) hC rfl rfl dX2_setCrossing_26 rfl ?_
  refine g_328 (pc2 := 30) hC hK (by assumption) (by assumption) (by assumption) dX2_setCrossing_27 rfl ?_
  refine x_aload_n (pc2 := 31) hC rfl rfl dX2_setCrossing_30 rfl ?_
  refine g_326 (pc2 := 34) hC hK (by assumption) (by assumption) (by assumption) dX2_setCrossing_31 rfl ?_
  refine x_iconst (pc2 := 35) hC dX2_setCrossing_34 rfl ?_
  refine x_aald (pc2 := 36) hC hK j3 j4 (by omega) (by decide) (j5 2 (by decide)) dX2_setCrossing_35 rfl ?_
  refine g_227 (pc2 := 39) hC hK (by assumption) (by assumption) (by assumption) dX2_setCrossing_36 rfl ?_
  refine x_aload_n (pc2 := 40) hC rfl rfl dX2_setCrossing_39 rfl ?_
  refine g_326 (pc2 := 43) hC hK (by assumption) (by assumption) (by assumption) dX2_setCrossing_40 rfl ?_
  refine x_iconst (pc2 := 44) hC dX2_setCrossing_43 rfl ?_
  refine x_aald (pc2 := 45) hC hK j3 j4 (by omega) (by decide) (j5 3 (by decide)) dX2_setCrossing_44 rfl ?_
  refine g_227 (pc2 := 48) hC hK (by assumption) (by assumption) (by assumption) dX2_setCrossing_45 rfl ?_
  refine x_iconst (pc2 := 49) hC dX2_setCrossing_48 rfl ?_
  refine x_cVv (pc2 := 52) (ci := 1) hC hK (m_gproduct l S23 (g := 353) (x := 332) (y := 343) t353 u326 u337 (by decide) (by decide) hsp (Or.inl rfl) (a := 25) (b := 25) (show bdc 25 (cx V23 332) by rw [k23_332]; exact bu326) (show bdc 25 (cx V23 343) by rw [k23_343]; exact bu337) ⟨by decide, by decide⟩) lk_764 rfl rfl (by decide) (by assumption) (by assumption) ⟨Nat.le_of_ble_eq_true rfl, Nat.le_of_ble_eq_true rfl⟩ ⟨Nat.le_refl _, Nat.le_refl _⟩ rfl (Nat.le_of_ble_eq_true rfl) dX2_setCrossing_49 rfl ?_
  rintro F49 A49 hG
  obtain ⟨V49, ⟨S49, g49⟩, v49, k49⟩ := hG.c
  replace v49 : cx V49 353 = cmul (cx V23 332) (cx V23 343) := by rw [v49]; show (_ - 1 * _, _ + 1 * _) = _; rw [Int.one_mul, Int.one_mul]; rfl
  rw [k23_332, k23_343] at v49
  have k49_348 : cx V49 348 = cmulc ((n 1).1) ((n 0).1) := by rw [cx, k49 _ (by decide) (by decide) (by decide), k49 _ (by decide) (by decide) (by decide)]; exact v23
  have k49_338 : cx V49 338 = (n 3).1 := by rw [cx, k49 _ (by decide) (by decide) (by decide), k49 _ (by decide) (by decide) (by decide)]; exact k23_338
  have k49_327 : cx V49 327 = (n 2).1 := by rw [cx, k49 _ (by decide) (by decide) (by decide), k49 _ (by decide) (by decide) (by decide)]; exact k23_327
  have k49_310 : cx V49 310 = (n 0).2 := by rw [cx, k49 _ (by decide) (by decide) (by decide), k49 _ (by decide) (by decide) (by decide)]; exact k23_310
  have k49_321 : cx V49 321 = (n 1).2 := by rw [cx, k49 _ (by decide) (by decide) (by decide), k49 _ (by decide) (by decide) (by decide)]; exact k23_321
  have fr49 : ∀ u, u < 296 ∨ u = 378 ∨ u = 380 → V49 u = V u := fun u hu => (k49 u (by omega) (by omega) (by omega)).trans (fr23 u hu)
  refine x_aload_n (pc2 := 53) hC rfl rfl dX2_setCrossing_52 rfl ?_
  refine g_329 (pc2 := 56) hC hK (by assumption) (by assumption) (by assumption) dX2_setCrossing_53 rfl ?_
  refine x_aload_n (pc2 := 57) hC rfl rfl dX2_setCrossing_56 rfl ?_
  refine g_327 (pc2 := 60) hC hK (by assumption) (by assumption) (by assumption) dX2_setCrossing_57 rfl ?_
  refine x_aload_n (pc2 := 61) hC rfl rfl dX2_setCrossing_60 rfl ?_
  refine g_328 (pc2 := 64) hC hK (by assumption) (by assumption) (by assumption) dX2_setCrossing_61 rfl ?_
  refine x_iconst (pc2 := 65) hC dX2_setCrossing_64 rfl ?_
  refine x_cVv (pc2 := 68) (ci := 1) hC hK (m_gproduct l S49 (g := 358) (x := 348) (y := 353) t358 t348 t353 (by decide) (by decide) hsp (Or.inl rfl) (a := 51) (b := 51) (show bdc 51 (cx V49 348) by rw [k49_348]; exact (cmulc_bd (c := 51) bo315 bo304 (by decide))) (show bdc 51 (cx V49 353) by rw [v49]; exact (bdc_mul (c := 51) bu326 bu337 (by decide))) ⟨by decide, by decide⟩) lk_764 rfl rfl (by decide) (by assumption) (by assumption) ⟨Nat.le_of_ble_eq_true rfl, Nat.le_of_ble_eq_true rfl⟩ ⟨Nat.le_refl _, Nat.le_refl _⟩ rfl (Nat.le_of_ble_eq_true rfl) dX2_setCrossing_65 rfl ?_
  rintro F65 A65 hG
  obtain ⟨V65, ⟨S65, g65⟩, v65, k65⟩ := hG.c
  replace v65 : cx V65 358 = cmul (cx V49 348) (cx V49 353) := by rw [v65]; show (_ - 1 * _, _ + 1 * _) = _; rw [Int.one_mul, Int.one_mul]; rfl
  rw [k49_348, v49] at v65
  have k65_338 : cx V65 338 = (n 3).1 := by rw [cx, k65 _ (by decide) (by decide) (by decide), k65 _ (by decide) (by decide) (by decide)]; exact k49_338
  have k65_327 : cx V65 327 = (n 2).1 := by rw [cx, k65 _ (by decide) (by decide) (by decide), k65 _ (by decide) (by decide) (by decide)]; exact k49_327
  have k65_310 : cx V65 310 = (n 0).2 := by rw [cx, k65 _ (by decide) (by decide) (by decide), k65 _ (by decide) (by decide) (by decide)]; exact k49_310
  have k65_321 : cx V65 321 = (n 1).2 := by rw [cx, k65 _ (by decide) (by decide) (by decide), k65 _ (by decide) (by decide) (by decide)]; exact k49_321
  have fr65 : ∀ u, u < 296 ∨ u = 378 ∨ u = 380 → V65 u = V u := fun u hu => (k65 u (by omega) (by omega) (by omega)).trans (fr49 u hu)
  refine x_aload_n (pc2 := 69) hC rfl rfl dX2_setCrossing_68 rfl ?_
  refine g_327 (pc2 := 72) hC hK (by assumption) (by assumption) (by assumption) dX2_setCrossing_69 rfl ?_
  refine x_aload_n (pc2 := 73) hC rfl rfl dX2_setCrossing_72 rfl ?_
  refine g_326 (pc2 := 76) hC hK (by assumption) (by assumption) (by assumption) dX2_setCrossing_73 rfl ?_
  refine x_iconst (pc2 := 77) hC dX2_setCrossing_76 rfl ?_
  refine x_aald (pc2 := 78) hC hK j3 j4 (by omega) (by decide) (j5 3 (by decide)) dX2_setCrossing_77 rfl ?_
  refine g_224 (pc2 := 81) hC hK (by assumption) (by assumption) (by assumption) dX2_setCrossing_78 rfl ?_
  refine x_aload_n (pc2 := 82) hC rfl rfl dX2_setCrossing_81 rfl ?_
  refine g_326 (pc2 := 85) hC hK (by assumption) (by assumption) (by assumption) dX2_setCrossing_82 rfl ?_
  refine x_iconst (pc2 := 86) hC dX2_setCrossing_85 rfl ?_
  refine x_aald (pc2 := 87) hC hK j3 j4 (by omega) (by decide) (j5 2 (by decide)) dX2_setCrossing_86 rfl ?_
  refine g_224 (pc2 := 90) hC hK (by assumption) (by assumption) (by assumption) dX2_setCrossing_87 rfl ?_
  refine x_iconst (pc2 := 91) hC dX2_setCrossing_90 rfl ?_
  refine x_cVv (pc2 := 94) (ci := 1) hC hK (m_gproduct l S65 (g := 348) (x := 338) (y := 327) t348 o337 o326 (by decide) (by decide) hsp (Or.inr rfl) (a := 25) (b := 25) (show bdc 25 (cx V65 338) by rw [k65_338]; exact bo337) (show bdc 25 (cx V65 327) by rw [k65_327]; exact bo326) ⟨by decide, by decide⟩) lk_764 rfl rfl (by decide) (by assumption) (by assumption) ⟨Nat.le_of_ble_eq_true rfl, Nat.le_of_ble_eq_true rfl⟩ ⟨Nat.le_refl _, Nat.le_refl _⟩ rfl (Nat.le_of_ble_eq_true rfl) dX2_setCrossing_91 rfl ?_
  rintro F91 A91 hG
  obtain ⟨V91, ⟨S91, g91⟩, v91, k91⟩ := hG.c
  replace v91 : cx V91 348 = cmulc (cx V65 338) (cx V65 327) := by rw [v91]; unfold cmulc cx; refine Prod.ext ?_ ?_ <;> dsimp only <;> omega
  rw [k65_338, k65_327] at v91
  have k91_358 : cx V91 358 = cmul (cmulc ((n 1).1) ((n 0).1)) (cmul ((n 2).2) ((n 3).2)) := by rw [cx, k91 _ (by decide) (by decide) (by decide), k91 _ (by decide) (by decide) (by decide)]; exact v65
  have k91_310 : cx V91 310 = (n 0).2 := by rw [cx, k91 _ (by decide) (by decide) (by decide), k91 _ (by decide) (by decide) (by decide)]; exact k65_310
  have k91_321 : cx V91 321 = (n 1).2 := by rw [cx, k91 _ (by decide) (by decide) (by decide), k91 _ (by decide) (by decide) (by decide)]; exact k65_321
  have fr91 : ∀ u, u < 296 ∨ u = 378 ∨ u = 380 → V91 u = V u := fun u hu => (k91 u (by omega) (by omega) (by omega)).trans (fr65 u hu)
  refine x_aload_n (pc2 := 95) hC rfl rfl dX2_setCrossing_94 rfl ?_
  refine g_328 (pc2 := 98) hC hK (by assumption) (by assumption) (by assumption) dX2_setCrossing_95 rfl ?_
  refine x_aload_n (pc2 := 99) hC rfl rfl dX2_setCrossing_98 rfl ?_
  refine g_326 (pc2 := 102) hC hK (by assumption) (by assumption) (by assumption) dX2_setCrossing_99 rfl ?_
  refine x_iconst (pc2 := 103) hC dX2_setCrossing_102 rfl ?_
  refine x_aald (pc2 := 104) hC hK j3 j4 (by omega) (by decide) (j5 0 (by decide)) dX2_setCrossing_103 rfl ?_
  refine g_227 (pc2 := 107) hC hK (by assumption) (by assumption) (by assumption) dX2_setCrossing_104 rfl ?_
  refine x_aload_n (pc2 := 108) hC rfl rfl dX2_setCrossing_107 rfl ?_
  refine g_326 (pc2 := 111) hC hK (by assumption) (by assumption) (by assumption) dX2_setCrossing_108 rfl ?_
  refine x_iconst (pc2 := 112) hC dX2_setCrossing_111 rfl ?_
  refine x_aald (pc2 := 113) hC hK j3 j4 (by omega) (by decide) (j5 1 (by decide)) dX2_setCrossing_112 rfl ?_
  refine g_227 (pc2 := 116) hC hK (by assumption) (by assumption) (by assumption) dX2_setCrossing_113 rfl ?_
  refine x_iconst (pc2 := 117) hC dX2_setCrossing_116 rfl ?_
  refine x_cVv (pc2 := 120) (ci := 1) hC hK (m_gproduct l S91 (g := 353) (x := 310) (y := 321) t353 u304 u315 (by decide) (by decide) hsp (Or.inl rfl) (a := 25) (b := 25) (show bdc 25 (cx V91 310) by rw [k91_310]; exact bu304) (show bdc 25 (cx V91 321) by rw [k91_321]; exact bu315) ⟨by decide, by decide⟩) lk_764 rfl rfl (by decide) (by assumption) (by assumption) ⟨Nat.le_of_ble_eq_true rfl, Nat.le_of_ble_eq_true rfl⟩ ⟨Nat.le_refl _, Nat.le_refl _⟩ rfl (Nat.le_of_ble_eq_true rfl) dX2_setCrossing_117 rfl ?_
  rintro F117 A117 hG
  obtain ⟨V117, ⟨S117, g117⟩, v117, k117⟩ := hG.c
  replace v117 : cx V117 353 = cmul (cx V91 310) (cx V91 321) := by rw [v117]; show (_ - 1 * _, _ + 1 * _) = _; rw [Int.one_mul, Int.one_mul]; rfl
  rw [k91_310, k91_321] at v117
  have k117_358 : cx V117 358 = cmul (cmulc ((n 1).1) ((n 0).1)) (cmul ((n 2).2) ((n 3).2)) := by rw [cx, k117 _ (by decide) (by decide) (by decide), k117 _ (by decide) (by decide) (by decide)]; exact k91_358
  have k117_348 : cx V117 348 = cmulc ((n 3).1) ((n 2).1) := by rw [cx, k117 _ (by decide) (by decide) (by decide), k117 _ (by decide) (by decide) (by decide)]; exact v91
  have fr117 : ∀ u, u < 296 ∨ u = 378 ∨ u = 380 → V117 u = V u := fun u hu => (k117 u (by omega) (by omega) (by omega)).trans (fr91 u hu)
  refine x_aload_n (pc2 := 121) hC rfl rfl dX2_setCrossing_120 rfl ?_
  refine g_330 (pc2 := 124) hC hK (by assumption) (by assumption) (by assumption) dX2_setCrossing_121 rfl ?_
  refine x_aload_n (pc2 := 125) hC rfl rfl dX2_setCrossing_124 rfl ?_
  refine g_327 (pc2 := 128) hC hK (by assumption) (by assumption) (by assumption) dX2_setCrossing_125 rfl ?_
  refine x_aload_n (pc2 := 129) hC rfl rfl dX2_setCrossing_128 rfl ?_
  refine g_328 (pc2 := 132) hC hK (by assumption) (by assumption) (by assumption) dX2_setCrossing_129 rfl ?_
  refine x_iconst (pc2 := 133) hC dX2_setCrossing_132 rfl ?_
  refine x_cVv (pc2 := 136) (ci := 1) hC hK (m_gproduct l S117 (g := 363) (x := 348) (y := 353) t363 t348 t353 (by decide) (by decide) hsp (Or.inl rfl) (a := 51) (b := 51) (show bdc 51 (cx V117 348) by rw [k117_348]; exact (cmulc_bd (c := 51) bo337 bo326 (by decide))) (show bdc 51 (cx V117 353) by rw [v117]; exact (bdc_mul (c := 51) bu304 bu315 (by decide))) ⟨by decide, by decide⟩) lk_764 rfl rfl (by decide) (by assumption) (by assumption) ⟨Nat.le_of_ble_eq_true rfl, Nat.le_of_ble_eq_true rfl⟩ ⟨Nat.le_refl _, Nat.le_refl _⟩ rfl (Nat.le_of_ble_eq_true rfl) dX2_setCrossing_133 rfl ?_
  rintro F133 A133 hG
  obtain ⟨V133, ⟨S133, g133⟩, v133, k133⟩ := hG.c
  replace v133 : cx V133 363 = cmul (cx V117 348) (cx V117 353) := by rw [v133]; show (_ - 1 * _, _ + 1 * _) = _; rw [Int.one_mul, Int.one_mul]; rfl
  rw [k117_348, v117] at v133
  have k133_358 : cx V133 358 = cmul (cmulc ((n 1).1) ((n 0).1)) (cmul ((n 2).2) ((n 3).2)) := by rw [cx, k133 _ (by decide) (by decide) (by decide), k133 _ (by decide) (by decide) (by decide)]; exact k117_358
  have fr133 : ∀ u, u < 296 ∨ u = 378 ∨ u = 380 → V133 u = V u := fun u hu => (k133 u (by omega) (by omega) (by omega)).trans (fr117 u hu)
  refine x_aload_n (pc2 := 137) hC rfl rfl dX2_setCrossing_136 rfl ?_
  refine g_327 (pc2 := 140) hC hK (by assumption) (by assumption) (by assumption) dX2_setCrossing_137 rfl ?_
  refine x_aload_n (pc2 := 141) hC rfl rfl dX2_setCrossing_140 rfl ?_
  refine g_329 (pc2 := 144) hC hK (by assumption) (by assumption) (by assumption) dX2_setCrossing_141 rfl ?_
  refine x_aload_n (pc2 := 145) hC rfl rfl dX2_setCrossing_144 rfl ?_
  refine g_330 (pc2 := 148) hC hK (by assumption) (by assumption) (by assumption) dX2_setCrossing_145 rfl ?_
  refine x_iconst (pc2 := 149) hC dX2_setCrossing_148 rfl ?_
  refine x_cVv (pc2 := 152) (ci := 1) hC hK (m_gsum l S133 (g := 348) (x := 358) (y := 363) t348 t358 t363 (Or.inl rfl) (a := 103) (b := 103) (show bdc 103 (cx V133 358) by rw [k133_358]; exact bdc_mono (bdc_mul (c := 103) (cmulc_bd (c := 51) bo315 bo304 (by decide)) (bdc_mul (c := 51) bu326 bu337 (by decide)) (by decide)) (by decide)) (show bdc 103 (cx V133 363) by rw [v133]; exact bdc_mono (bdc_mul (c := 103) (cmulc_bd (c := 51) bo337 bo326 (by decide)) (bdc_mul (c := 51) bu304 bu315 (by decide)) (by decide)) (by decide)) ⟨by decide, by decide⟩) lk_765 rfl rfl (by decide) (by assumption) (by assumption) ⟨Nat.le_of_ble_eq_true rfl, Nat.le_of_ble_eq_true rfl⟩ ⟨Nat.le_refl _, Nat.le_refl _⟩ rfl (Nat.le_of_ble_eq_true rfl) dX2_setCrossing_149 rfl ?_
  rintro F149 A149 hG
  obtain ⟨V149, ⟨S149, g149⟩, v149, k149⟩ := hG.c
  replace v149 : cx V149 348 = csgn 1 (cx V133 358) (cx V133 363) := v149
  rw [k133_358, v133] at v149
  have fr149 : ∀ u, u < 296 ∨ u = 378 ∨ u = 380 → V149 u = V u := fun u hu => (k149 u (by omega) (by omega) (by omega)).trans (fr133 u hu)
  refine x_aload_n (pc2 := 153) hC rfl rfl dX2_setCrossing_152 rfl ?_
  refine g_327 (pc2 := 156) hC hK (by assumption) (by assumption) (by assumption) dX2_setCrossing_153 rfl ?_
  refine x_aload_n (pc2 := 157) hC rfl rfl dX2_setCrossing_156 rfl ?_
  refine g_339 (pc2 := 160) hC hK (by assumption) (by assumption) (by assumption) dX2_setCrossing_157 rfl ?_
  refine x_cVv (pc2 := 163) (ci := 1) hC hK (m_gsize l S149 (a := 104) (sp := 296) t348 hsp w384 (by decide) (by decide) (by decide) (show bdc 104 (cx V149 348) by rw [v149]; exact (bdc_sgn (c := 104) (Or.inl rfl) (bdc_mul (c := 103) (cmulc_bd (c := 51) bo315 bo304 (by decide)) (bdc_mul (c := 51) bu326 bu337 (by decide)) (by decide)) (bdc_mul (c := 103) (cmulc_bd (c := 51) bo337 bo326 (by decide)) (bdc_mul (c := 51) bu304 bu315 (by decide)) (by decide)) (by decide) (by decide))) ⟨by decide, by decide⟩) lk_753 rfl rfl (by decide) (by assumption) (by assumption) ⟨Nat.le_of_ble_eq_true rfl, Nat.le_of_ble_eq_true rfl⟩ ⟨Nat.le_refl _, Nat.le_refl _⟩ rfl (Nat.le_of_ble_eq_true rfl) dX2_setCrossing_160 rfl ?_
  rintro F160 A160 ⟨V160, ⟨S160, g160⟩, v160, k160⟩
  exact x_vret hC hr hlk ⟨rfl, V160, ⟨S160, (((((((g23.tr g49).tr g65).tr g91).tr g117).tr g133).tr g149).tr g160)⟩, by
    rw [v160]
    show nrm (cx V149 348) = _
    rw [v149]; rfl, fun u hu => (k160 u (by omega) (by omega)).trans (fr149 u hu)⟩ dX2_setCrossing_163
theorem dX2_compareSizes_0 : decode cX2_compareSizes 0 = .ok (.aload_n 0, 1) := by decide +kernel
theorem dX2_compareSizes_1 : decode cX2_compareSizes 1 = .ok (.getfield 23, 3) := by decide +kernel
theorem dX2_compareSizes_4 : decode cX2_compareSizes 4 = .ok (.iconst 0, 1) := by decide +kernel
theorem dX2_compareSizes_5 : decode cX2_compareSizes 5 = .ok (.aaload, 1) := by decide +kernel
theorem dX2_compareSizes_6 : decode cX2_compareSizes 6 = .ok (.aload_n 1, 1) := by decide +kernel
theorem dX2_compareSizes_7 : decode cX2_compareSizes 7 = .ok (.iload_n 2, 1) := by decide +kernel
theorem dX2_compareSizes_8 : decode cX2_compareSizes 8 = .ok (.invokevirtual 70, 3) := by decide +kernel
theorem dX2_compareSizes_11 : decode cX2_compareSizes 11 = .ok (.aload_n 0, 1) := by decide +kernel
theorem dX2_compareSizes_12 : decode cX2_compareSizes 12 = .ok (.getfield 23, 3) := by decide +kernel
theorem dX2_compareSizes_15 : decode cX2_compareSizes 15 = .ok (.iconst 1, 1) := by decide +kernel
theorem dX2_compareSizes_16 : decode cX2_compareSizes 16 = .ok (.aaload, 1) := by decide +kernel
theorem dX2_compareSizes_17 : decode cX2_compareSizes 17 = .ok (.aload_n 1, 1) := by decide +kernel
theorem dX2_compareSizes_18 : decode cX2_compareSizes 18 = .ok (.iload_n 3, 1) := by decide +kernel
theorem dX2_compareSizes_19 : decode cX2_compareSizes 19 = .ok (.invokevirtual 70, 3) := by decide +kernel
theorem dX2_compareSizes_22 : decode cX2_compareSizes 22 = .ok (.aload_n 0, 1) := by decide +kernel
theorem dX2_compareSizes_23 : decode cX2_compareSizes 23 = .ok (.aload_n 0, 1) := by decide +kernel
theorem dX2_compareSizes_24 : decode cX2_compareSizes 24 = .ok (.getfield 23, 3) := by decide +kernel
theorem dX2_compareSizes_27 : decode cX2_compareSizes 27 = .ok (.iconst 0, 1) := by decide +kernel
theorem dX2_compareSizes_28 : decode cX2_compareSizes 28 = .ok (.aaload, 1) := by decide +kernel
theorem dX2_compareSizes_29 : decode cX2_compareSizes 29 = .ok (.aload_n 0, 1) := by decide +kernel
theorem dX2_compareSizes_30 : decode cX2_compareSizes 30 = .ok (.getfield 23, 3) := by decide +kernel
theorem dX2_compareSizes_33 : decode cX2_compareSizes 33 = .ok (.iconst 1, 1) := by decide +kernel
theorem dX2_compareSizes_34 : decode cX2_compareSizes 34 = .ok (.aaload, 1) := by decide +kernel
theorem dX2_compareSizes_35 : decode cX2_compareSizes 35 = .ok (.invokevirtual 74, 3) := by decide +kernel
theorem dX2_compareSizes_38 : decode cX2_compareSizes 38 = .ok (.aload_n 0, 1) := by decide +kernel
theorem dX2_compareSizes_39 : decode cX2_compareSizes 39 = .ok (.getfield 46, 3) := by decide +kernel
theorem dX2_compareSizes_42 : decode cX2_compareSizes 42 = .ok (.aload_n 0, 1) := by decide +kernel
theorem dX2_compareSizes_43 : decode cX2_compareSizes 43 = .ok (.getfield 49, 3) := by decide +kernel
theorem dX2_compareSizes_46 : decode cX2_compareSizes 46 = .ok (.invokevirtual 78, 3) := by decide +kernel
theorem dX2_compareSizes_49 : decode cX2_compareSizes 49 = .ok (.ireturn, 1) := by decide +kernel
set_option maxHeartbeats 4000000 in
theorem m_compareSizes (l : Launch) {D : va_G} {ids : Nat → ClassId} {β : Nat} {sh : Nat → Nat × Nat} {N : Nat} {R : Nat → Nat → Option Nat} {F : Nat → Nat → Int} {A : Nat → Int → Int} {V : Nat → Int} {i j : Int} (hJ : JuL sh R N) (hS : ST sh R N F A V) (hc : 2 < N) (hcs : sh 2 = (1, 2304)) (hi : 0 ≤ i ∧ i + 9 ≤ 2304) (hj : 0 ≤ j ∧ j + 9 ≤ 2304) (ti : triOK (A 2) i ∧ triOK (A 2) (i + 3) ∧ triOK (A 2) (i + 6)) (tj : triOK (A 2) j ∧ triOK (A 2) (j + 3) ∧ triOK (A 2) (j + 6)) (bi : bdq 25 (num (A 2) i)) (bj : bdq 25 (num (A 2) j)) : MetX l yX2_compareSizes cX2_compareSizes 4 (some (.int)) 5 129 D ids β sh N R F A [rf 295, rf 2, pI i, pI j] (pIr (fun z F2 A2 => z = sgc (nrm (num (A 2) i).1 * ((num (A 2) j).2.1 * (num (A 2) j).2.1)) (nrm (num (A 2) j).1 * ((num (A 2) i).2.1 * (num (A 2) i).2.1)) ∧ ∃ V2, SQ sh R N F A V2 F2 A2 ∧ ∀ u, u < 296 → V2 u = V u)) := by
  refine MetX.of (loc := [_, _, _, _]) (plainFor_of_name (by decide +kernel)) (Nat.le_of_ble_eq_true rfl) rfl ?_
  intro p e s m args below meth c hC hK hr hlk
  obtain ⟨⟨j1, j2⟩, ⟨f0, f1, f2, f3, f4, f5, f6, f7, f8, f9, f10, f11, f12, f13⟩, ⟨j3, j4⟩, j5, hJR, hJG, hJW, hsp, hsg⟩ := id hJ
  have w370 := hJW 370 (by decide)
  have wN370 : 370 < N := by have := w370.1; omega
  have wS370 := w370.2.1
  have w372 := hJW 372 (by decide)
  have wN372 : 372 < N := by have := w372.1; omega
  have wS372 := w372.2.1
  have n2 : sh 2 ≠ (1, 80) := by rw [hcs]; decide
  have q304 := hJR 304 (by decide)
  have q304N := q304.1
  have q304S := q304.2.1
  have q315 := hJR 315 (by decide)
  have q315N := q315.1
  have q315S := q315.2.1
  refine x_aload_n (pc2 := 1) hC rfl rfl dX2_compareSizes_0 rfl ?_
  refine g_326 (pc2 := 4) hC hK (by assumption) (by assumption) (by assumption) dX2_compareSizes_1 rfl ?_
  refine x_iconst (pc2 := 5) hC dX2_compareSizes_4 rfl ?_
  refine x_aald (pc2 := 6) hC hK j3 j4 (by omega) (by decide) (j5 0 (by decide)) dX2_compareSizes_5 rfl ?_
  refine x_aload_n (pc2 := 7) hC rfl rfl dX2_compareSizes_6 rfl ?_
  refine x_iload_n (pc2 := 8) hC rfl rfl dX2_compareSizes_7 rfl ?_
  refine x_cVv (pc2 := 11) (ci := 4) hC hK (m_rload l hS q304 hc hcs (by decide) hi (by decide) ti.1 ti.2.1 ti.2.2) lk_747 rfl rfl (by decide) (by assumption) (by assumption) ⟨Nat.le_of_ble_eq_true rfl, Nat.le_of_ble_eq_true rfl⟩ ⟨Nat.le_refl _, Nat.le_refl _⟩ rfl (Nat.le_of_ble_eq_true rfl) dX2_compareSizes_8 rfl ?_
  rintro F1 A1 ⟨V1, ⟨S1, g1⟩, v1, v2, k1⟩
  have e1 : A1 2 = A 2 := g1.2 2 n2
  refine x_aload_n (pc2 := 12) hC rfl rfl dX2_compareSizes_11 rfl ?_
  refine g_326 (pc2 := 15) hC hK (by assumption) (by assumption) (by assumption) dX2_compareSizes_12 rfl ?_
  refine x_iconst (pc2 := 16) hC dX2_compareSizes_15 rfl ?_
  refine x_aald (pc2 := 17) hC hK j3 j4 (by omega) (by decide) (j5 1 (by decide)) dX2_compareSizes_16 rfl ?_
  refine x_aload_n (pc2 := 18) hC rfl rfl dX2_compareSizes_17 rfl ?_
  refine x_iload_n (pc2 := 19) hC rfl rfl dX2_compareSizes_18 rfl ?_
  refine x_cVv (pc2 := 22) (ci := 4) hC hK (m_rload l S1 q315 hc hcs (by decide) hj (by decide) (by rw [e1]; exact tj.1) (by rw [e1]; exact tj.2.1) (by rw [e1]; exact tj.2.2)) lk_747 rfl rfl (by decide) (by assumption) (by assumption) ⟨Nat.le_of_ble_eq_true rfl, Nat.le_of_ble_eq_true rfl⟩ ⟨Nat.le_refl _, Nat.le_refl _⟩ rfl (Nat.le_of_ble_eq_true rfl) dX2_compareSizes_19 rfl ?_
  rintro F2 A2 ⟨V2, ⟨S2, g2⟩, v3, v4, k2⟩
  rw [e1] at v3 v4
  have x1 : rg V2 304 = num (A 2) i := Prod.ext (by show cx V2 (304 + 1) = _; rw [cx, k2 _ (by decide) (by decide) (by decide) (by decide) (by decide) (by decide) (by decide), k2 _ (by decide) (by decide) (by decide) (by decide) (by decide) (by decide) (by decide)]; exact v1) (by show cx V2 (304 + 6) = _; rw [cx, k2 _ (by decide) (by decide) (by decide) (by decide) (by decide) (by decide) (by decide), k2 _ (by decide) (by decide) (by decide) (by decide) (by decide) (by decide) (by decide)]; exact v2)
  have x2 : rg V2 315 = num (A 2) j := Prod.ext v3 v4
  refine x_aload_n (pc2 := 23) hC rfl rfl dX2_compareSizes_22 rfl ?_
  refine x_aload_n (pc2 := 24) hC rfl rfl dX2_compareSizes_23 rfl ?_
  refine g_326 (pc2 := 27) hC hK (by assumption) (by assumption) (by assumption) dX2_compareSizes_24 rfl ?_
  refine x_iconst (pc2 := 28) hC dX2_compareSizes_27 rfl ?_
  refine x_aald (pc2 := 29) hC hK j3 j4 (by omega) (by decide) (j5 0 (by decide)) dX2_compareSizes_28 rfl ?_
  refine x_aload_n (pc2 := 30) hC rfl rfl dX2_compareSizes_29 rfl ?_
  refine g_326 (pc2 := 33) hC hK (by assumption) (by assumption) (by assumption) dX2_compareSizes_30 rfl ?_
  refine x_iconst (pc2 := 34) hC dX2_compareSizes_33 rfl ?_
  refine x_aald (pc2 := 35) hC hK j3 j4 (by omega) (by decide) (j5 1 (by decide)) dX2_compareSizes_34 rfl ?_
  refine x_cVv (pc2 := 38) (ci := 2) hC hK (m_setSizes l hJ S2 (by decide) (by decide) (by rw [x1]; exact bi) (by rw [x2]; exact bj)) lk_748 rfl rfl (by decide) (by assumption) (by assumption) ⟨Nat.le_of_ble_eq_true rfl, Nat.le_of_ble_eq_true rfl⟩ ⟨Nat.le_refl _, Nat.le_refl _⟩ rfl (Nat.le_of_ble_eq_true rfl) dX2_compareSizes_35 rfl ?_
  rintro F3 A3 ⟨V3, ⟨S3, g3⟩, -, -, v7, v8, k3⟩
  refine x_aload_n (pc2 := 39) hC rfl rfl dX2_compareSizes_38 rfl ?_
  refine g_332 (pc2 := 42) hC hK (by assumption) (by assumption) (by assumption) dX2_compareSizes_39 rfl ?_
  refine x_aload_n (pc2 := 43) hC rfl rfl dX2_compareSizes_42 rfl ?_
  refine g_333 (pc2 := 46) hC hK (by assumption) (by assumption) (by assumption) dX2_compareSizes_43 rfl ?_
  refine x_cVi (pc2 := 49) (ci := 6) hC hK (s_compareWith l S3 w370 w372) lk_770 rfl rfl (by decide) (by assumption) (by assumption) ⟨Nat.le_of_ble_eq_true rfl, Nat.le_of_ble_eq_true rfl⟩ ⟨Nat.le_refl _, Nat.le_refl _⟩ rfl (Nat.le_of_ble_eq_true rfl) dX2_compareSizes_46 rfl ?_
  rintro z46 F46 A46 ⟨rfl, e146, e246⟩
  obtain rfl := e146.symm
  obtain rfl := e246.symm
  exact x_iret hC hr hlk ⟨_, rfl, by rw [v7, v8, ← x1, ← x2]; rfl, V3, ⟨S3, (g1.tr g2).tr g3⟩, fun u hu => (k3 u (by omega) (by omega) (by omega) (by omega) (by omega) (by omega)).trans ((k2 u (by omega) (by omega) (by omega) (by omega) (by omega) (by omega) (by omega)).trans (k1 u (by omega) (by omega) (by omega) (by omega) (by omega) (by omega) (by omega)))⟩ dX2_compareSizes_49
