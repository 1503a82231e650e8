/-! Gauss registers: all Gauss of Acts -/
def GaL : List Nat := [199, 204, 209, 214, 219, 224, 229, 234, 239, 244, 249, 254, 260, 265, 270, 275, 280, 285, 290, 33, 38, 78, 83, 122, 127, 133, 138]
def HV (V : Nat → Int) (H : Nat → CI) : Prop := ∀ g ∈ GaL, cx V g = H g
def upH (H : Nat → CI) (g : Nat) (v : CI) : Nat → CI := fun x => if x = g then v else H x
theorem upH_eq {H : Nat → CI} {r : Nat} {v : CI} : upH H r v r = v := by simp [upH]
theorem upH_ne {H : Nat → CI} {r x : Nat} {v : CI} (h : x ≠ r) : upH H r v x = H x := by simp [upH, h]
def AcG (sh : Nat → Nat × Nat) (R : Nat → Nat → Option Nat) (N : Nat) : Prop := (198 < N ∧ sh 198 = (4, 12)) ∧ (∀ k < 12, R 198 k = some (199 + 5 * k)) ∧ (259 < N ∧ sh 259 = (4, 4)) ∧ (∀ k < 4, R 259 k = some (260 + 5 * k)) ∧ ∀ g ∈ GaL, isG sh R N g 8
theorem row_mem : ∀ k < 12, 199 + 5 * k ∈ GaL := by decide
theorem ga_hi : ∀ g ∈ GaL, 30 < g := by decide
/-- a step on the Gauss registers -/
def HQ (sh : Nat → Nat × Nat) (R : Nat → Nat → Option Nat) (N : Nat) (F : Nat → Nat → Int) (A : Nat → Int → Int) (H : Nat → CI) : (Nat → Nat → Int) → (Nat → Int → Int) → Prop := fun F' A' => ∃ V', SQ sh R N F A V' F' A' ∧ HV V' H
theorem GQ.toH {sh : Nat → Nat × Nat} {R : Nat → Nat → Option Nat} {N : Nat} {F : Nat → Nat → Int} {A : Nat → Int → Int} {V : Nat → Int} {H : Nat → CI} {g : Nat} {re im : Int} {F' : Nat → Nat → Int} {A' : Nat → Int → Int} (h : GQ sh R N F A V g 8 re im F' A') (hH : HV V H) (hg : g ∈ GaL) (hGa : ∀ g ∈ GaL, isG sh R N g 8) (hsp : spG sh R N 8) : HQ sh R N F A (upH H g (re, im)) F' A' := by
  obtain ⟨V', h1, h2, h3, h4⟩ := h
  refine ⟨V', h1, fun x hx => ?_⟩
  by_cases q : x = g
  · rw [q, upH_eq, cx, h2, h3]
  · rw [upH_ne q, ← hH x hx]
    exact tr_g (hGa g hg) (hGa x hx) (Ne.symm q) hsp h4
theorem h_product (l : Launch) {D : va_G} {ids : Nat → ClassId} {β : Nat} {sh : Nat → Nat × Nat} {N : Nat} {R : Nat → Nat → Option Nat} {F : Nat → Nat → Int} {A : Nat → Int → Int} {V : Nat → Int} {H : Nat → CI} (hGa : ∀ g ∈ GaL, isG sh R N g 8) (hsp : spG sh R N 8) (hS : ST sh R N F A V) (hH : HV V H) {g x y a b : Nat} {vx vy : CI} (hg : g ∈ GaL) (hx : x ∈ GaL) (hy : y ∈ GaL) (ngx : g ≠ x) (ngy : g ≠ y) (ex : H x = vx) (ey : H y = vy) (bx : bdc a vx) (bY : bdc b vy) (hab : (a + 8) / 9 + (b + 8) / 9 ≤ 80 ∧ a + b ≤ 711) : MetX l yX1_product cX1_product 4 none 3 86 D ids β sh N R F A [rf g, rf x, rf y, pI 1] (pVr (HQ sh R N F A (upH H g (cmul vx vy)))) := by
  subst ex; subst ey
  rw [← hH x hx] at bx
  rw [← hH y hy] at bY
  refine (m_gproduct l hS (hGa g hg) (hGa x hx) (hGa y hy) ngx ngy hsp (Or.inl rfl) bx bY hab).mono (fun rv F' A' h => ⟨h.1, ?_⟩)
  have := GQ.toH h.2 hH hg hGa hsp
  rw [Int.one_mul, Int.one_mul] at this
  rw [← hH x hx, ← hH y hy]
  exact this
theorem h_sum (l : Launch) {D : va_G} {ids : Nat → ClassId} {β : Nat} {sh : Nat → Nat × Nat} {N : Nat} {R : Nat → Nat → Option Nat} {F : Nat → Nat → Int} {A : Nat → Int → Int} {V : Nat → Int} {H : Nat → CI} {s0 : Int} (hGa : ∀ g ∈ GaL, isG sh R N g 8) (hsp : spG sh R N 8) (hS : ST sh R N F A V) (hH : HV V H) {g x y a b : Nat} {vx vy : CI} (hg : g ∈ GaL) (hx : x ∈ GaL) (hy : y ∈ GaL) (hs : s0 = 1 ∨ s0 = -1) (ex : H x = vx) (ey : H y = vy) (bx : bdc a vx) (bY : bdc b vy) (hab : a ≤ 711 ∧ b ≤ 711) : MetX l yX1_sum cX1_sum 4 none 3 86 D ids β sh N R F A [rf g, rf x, rf y, pI s0] (pVr (HQ sh R N F A (upH H g (csgn s0 vx vy)))) := by
  subst ex; subst ey
  rw [← hH x hx] at bx
  rw [← hH y hy] at bY
  refine (m_gsum l hS (hGa g hg) (hGa x hx) (hGa y hy) hs bx bY hab).mono (fun rv F' A' h => ⟨h.1, ?_⟩)
  have := GQ.toH h.2 hH hg hGa hsp
  rw [← hH x hx, ← hH y hy]
  exact this
/-- one term of a determinant by its first row -/
def detT (r : Nat → CI) (h a b : Nat) : CI := cmul (r h) (csgn (-1) (cmul (r (4 + a)) (r (8 + b))) (cmul (r (4 + b)) (r (8 + a))))
def det3 (r : Nat → CI) (x y w : Nat) : CI := csgn 1 (csgn 1 (csgn 1 (0, 0) (detT r x y w)) (detT r y w x)) (detT r w x y)
