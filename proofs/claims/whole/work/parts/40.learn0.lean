theorem ga_sep : ∀ r ∈ [32, 77], ∀ x ∈ GaL, x ≠ r + 1 → x ≠ r + 6 → ∀ y ∈ [x + 1, x + 3], y ≠ r + 2 ∧ y ≠ r + 4 ∧ y ≠ r + 7 ∧ y ≠ r + 9 ∧ y ≠ 8 ∧ y ≠ 11 ∧ y ≠ 13 := by decide
theorem RQ.toH {sh : Nat → Nat × Nat} {R : Nat → Nat → Option Nat} {N : Nat} {F : Nat → Nat → Int} {A : Nat → Int → Int} {V : Nat → Int} {H : Nat → CI} {r : Nat} {ov un : CI} {F' : Nat → Nat → Int} {A' : Nat → Int → Int} (h : RQ sh R N F A V r 10 8 ov un F' A') (hH : HV V H) (hr : r ∈ [32, 77]) : HQ sh R N F A (upH (upH H (r + 1) ov) (r + 6) un) F' A' := by
  obtain ⟨V', h1, h2, h3, h4⟩ := h
  refine ⟨V', h1, fun x hx => ?_⟩
  by_cases q : x = r + 6
  · rw [q, upH_eq, h3]
  · by_cases q2 : x = r + 1
    · rw [upH_ne q, q2, upH_eq, h2]
    · rw [upH_ne q, upH_ne q2, ← hH x hx]
      have s := ga_sep r hr x hx q2 q
      have k : ∀ y ∈ [x + 1, x + 3], V' y = V y := fun y hy => by
        obtain ⟨e1, e2, e3, e4, e5, e6, e7⟩ := s y hy
        exact h4 y e1 e2 e3 e4 e5 e6 e7
      rw [cx, cx, k _ (by simp), k _ (by simp)]
/-- Acts under way, by Gauss registers -/
def ASH (sh : Nat → Nat × Nat) (R : Nat → Nat → Option Nat) (N : Nat) (F0 : Nat → Nat → Int) (A0 : Nat → Int → Int) (H : Nat → CI) (L : List (QR × Int)) : (Nat → Nat → Int) → (Nat → Int → Int) → Prop := fun F A =>
  ∃ V, ST sh R N F A V ∧ HV V H ∧ (∃ g l, gl2 F g l) ∧ (F 15 7 = 0 ∨ F 15 7 = 1) ∧ FRa sh F0 A0 F A ∧ DrL (A 3) (A0 3) (F0 15 7) (F 15 7) L
theorem ASH.step {sh : Nat → Nat × Nat} {R : Nat → Nat → Option Nat} {N : Nat} {F0 F F' : Nat → Nat → Int} {A0 A A' : Nat → Int → Int} {H' : Nat → CI} {L : List (QR × Int)} (hA : AcL sh R N) (hgl : ∃ g l, gl2 F g l) (hb : F 15 7 = 0 ∨ F 15 7 = 1) (hf : FRa sh F0 A0 F A) (hd : DrL (A 3) (A0 3) (F0 15 7) (F 15 7) L) (h : HQ sh R N F A H' F' A') : ASH sh R N F0 A0 H' L F' A' := by
  obtain ⟨V', ⟨h1, h2⟩, h3⟩ := h
  obtain ⟨g, l, q1, q2, q3⟩ := hgl
  obtain ⟨-, hW, -⟩ := id hA
  have n15 : sh 15 ≠ (0, 6) := by rw [hW.1.2.1]; decide
  have n3 : sh 3 ≠ (1, 80) := by rw [hW.2.1.2]; decide
  have e := h2.1 15 n15
  refine ⟨V', h1, h3, ⟨g, l, q1, by rw [e]; exact q2, by rw [e]; exact q3⟩, by rw [e]; exact hb, hf.tr h2.toA, ?_⟩
  rw [e, h2.2 3 n3]
  exact hd
theorem ASH.ae {sh : Nat → Nat × Nat} {R : Nat → Nat → Option Nat} {N : Nat} {F0 F : Nat → Nat → Int} {A0 A : Nat → Int → Int} {H : Nat → CI} {L : List (QR × Int)} (h : ASH sh R N F0 A0 H L F A) (q : (H 122 = cre 1 ∧ H 127 = cre 1) ∧ H 133 = cre 1 ∧ H 138 = cre 4) : AE sh R N F0 A0 L F A := by
  obtain ⟨V, h1, h2, h3⟩ := h
  refine ⟨fun r => rg V r, ?_, ?_, V, h1, fun _ _ => rfl, h3⟩
  · exact Prod.ext ((h2 122 (by decide)).trans q.1.1) ((h2 127 (by decide)).trans q.1.2)
  · exact Prod.ext ((h2 133 (by decide)).trans q.2.1) ((h2 138 (by decide)).trans q.2.2)
theorem h_zero (l : Launch) {D : va_G} {ids : Nat → ClassId} {β : Nat} {sh : Nat → Nat × Nat} {N : Nat} {R : Nat → Nat → Option Nat} {F : Nat → Nat → Int} {A : Nat → Int → Int} {V : Nat → Int} {H : Nat → CI} (hGa : ∀ g ∈ GaL, isG sh R N g 8) (hS : ST sh R N F A V) (hH : HV V H) {g : Nat} {v : CI} (hg : g ∈ GaL) (ev : H g = v) : MetX l yX1_isZero cX1_isZero 1 (some (.boolean)) 0 0 D ids β sh N R F A [rf g] (pIr (sameI F A (if v = (0, 0) then 1 else 0))) := by
  subst ev
  have e : (H g = (0, 0)) = (V (g + 1) = 0 ∧ V (g + 3) = 0) := by
    rw [← hH g hg]
    exact propext ⟨fun h => ⟨congrArg Prod.fst h, congrArg Prod.snd h⟩, fun h => Prod.ext h.1 h.2⟩
  refine (m_gzero l hS (hGa g hg)).mono (fun rv F' A' h => ?_)
  obtain ⟨z, h1, h2, h3⟩ := h
  exact ⟨z, h1, h2.trans (by simp only [e]), h3⟩
theorem y_draftH {l : Launch} {D : va_G} {ids : Nat → ClassId} {β : Nat} {sh : Nat → Nat × Nat} {N : Nat} {R : Nat → Nat → Option Nat} {F : Nat → Nat → Int} {A : Nat → Int → Int} {V : Nat → Int} {H : Nat → CI} {F0 : Nat → Nat → Int} {A0 : Nat → Int → Int} {L : List (QR × Int)} {x u a b : Nat} {tone entry : Int} {vx vu : CI} (hA : AcL sh R N) (hGa : ∀ g ∈ GaL, isG sh R N g 8) (hS : ST sh R N F A V) (hH : HV V H) (hgl : ∃ g l, gl2 F g l) (hb : F 15 7 = 0 ∨ F 15 7 = 1) (hf : FRa sh F0 A0 F A) (hd : DrL (A 3) (A0 3) (F0 15 7) (F 15 7) L) (hx : x ∈ GaL) (hu : u ∈ GaL) (ex : H x = vx) (eu : H u = vu) (bx : bdc a vx) (bu : bdc b vu) (hab : (a + 8) / 9 + (b + 8) / 9 ≤ 80 ∧ a + b + 1 ≤ 711) (hbb : 2 * ((b + 8) / 9) ≤ 80 ∧ 2 * b + 1 ≤ 711) (hu0 : vu ≠ (0, 0)) (ht : 0 ≤ tone ∧ tone < 4) (he : 0 ≤ entry ∧ entry < 4) (hdj : ∀ t ∈ L, t.2 + 9 ≤ tone * 36 + entry * 9 ∨ tone * 36 + entry * 9 + 9 ≤ t.2) : MetX l yX3_draft cX3_draft 8 none 5 138 D ids β sh N R F A [rf 15, rf x, rf u, pI tone, pI entry] (pVr (ASH sh R N F0 A0 H (((vx, vu), tone * 36 + entry * 9) :: L))) := by
  obtain ⟨-, hW, -⟩ := id hA
  have e1 : cx V x = vx := (hH x hx).trans ex
  have e2 : cx V u = vu := (hH u hu).trans eu
  refine (m_draft l hS hW hgl (hGa x hx) (hGa u hu) (ga_hi x hx) (ga_hi u hu) (a := a) (b := b) (by rw [e1]; exact bx) (by rw [e2]; exact bu) hab hbb ?_ ht he hb).mono (fun rv F' A' h => ⟨h.1, ?_⟩)
  · by_cases q : V (u + 1) = 0
    · refine Or.inr (fun q2 => hu0 ?_)
      rw [← e2]
      exact Prod.ext q q2
    · exact Or.inl q
  · obtain ⟨V', ⟨d1, d2, d3, d4, d5, d6⟩, hp⟩ := h.2
    rw [e1, e2] at hp
    refine ⟨V', d1, fun y hy => ?_, d3, ?_, hf.tr ⟨d4, d5⟩, hd.cons hdj d6 hp⟩
    · have hi2 := ga_hi y hy
      rw [← hH y hy, cx, cx, d2 _ (by omega), d2 _ (by omega)]
    · obtain ⟨p, q, s, -, hq⟩ := hp
      rcases hq with ⟨-, e, -⟩ | ⟨-, e⟩
      · rw [e]; exact hb
      · exact Or.inr e
/-- the rows of learned and what is drafted -/
def lrn (f : Int → Int) (bK bM tone : Int) (j : Nat) : CI :=
  let K := num f ((bK + (j / 4 : Nat)) * 144 + tone * 36 + 0 * 9)
  let M := num f ((bM + (j / 4 : Nat)) * 144 + tone * 36 + 0 * 9)
  if j % 4 = 0 then cmul K.2 M.2 else if j % 4 = 1 then cmul K.1 M.2 else if j % 4 = 2 then cmul K.1 M.1 else cmul M.1 K.2
def learnL (r : Nat → CI) (tone : Int) : List (QR × Int) := [((det3 r 0 1 3, det3 r 0 1 2), tone * 36 + 3 * 9), ((csgn 1 (cmul (det3 r 0 3 2) (det3 r 0 1 2)) (cmul (det3 r 3 1 2) (det3 r 0 1 3)), cmul (det3 r 0 1 2) (det3 r 0 1 2)), tone * 36 + 2 * 9), ((cre 1, cre 1), tone * 36 + 1 * 9), ((det3 r 3 1 2, det3 r 0 1 2), tone * 36 + 0 * 9)]
