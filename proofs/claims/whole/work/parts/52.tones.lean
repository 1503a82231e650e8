theorem joinE_congr {a b a' b' : Nat → QR} (ha : ∀ k < 4, a k = a' k) (hb : ∀ k < 4, b k = b' k) : joinE a b = joinE a' b' := by
  unfold joinE; rw [ha 3 (by decide), hb 0 (by decide)]
theorem joinL_congr {a b a' b' : Nat → QR} {t : Int} (ha : ∀ k < 4, a k = a' k) (hb : ∀ k < 4, b k = b' k) : joinL a b t = joinL a' b' t := by
  unfold joinL; rw [joinE_congr ha hb, ha 0 (by decide), ha 1 (by decide), ha 2 (by decide), ha 3 (by decide), hb 0 (by decide), hb 1 (by decide), hb 2 (by decide), hb 3 (by decide)]
theorem takeF_congr {a b a' b' : Nat → QR} (ha : ∀ k < 4, a k = a' k) (hb : ∀ k < 4, b k = b' k) : takeF a b = takeF a' b' := by
  unfold takeF takeG; rw [ha 0 (by decide), ha 1 (by decide), ha 2 (by decide), ha 3 (by decide), hb 0 (by decide)]
theorem takeL_congr {a b a' b' : Nat → QR} {t e0 e1 e2 e3 : Int} (ha : ∀ k < 4, a k = a' k) (hb : ∀ k < 4, b k = b' k) : takeL a b t e0 e1 e2 e3 = takeL a' b' t e0 e1 e2 e3 := by
  unfold takeL; rw [takeF_congr ha hb]; unfold takeG; rw [ha 0 (by decide), ha 1 (by decide), ha 2 (by decide), ha 3 (by decide), hb 0 (by decide), hb 1 (by decide), hb 2 (by decide), hb 3 (by decide)]
theorem closedL_congr {a a' : Nat → QR} {k : QR} {t : Int} (ha : ∀ k < 4, a k = a' k) : closedL a k t = closedL a' k t := by
  unfold closedL; rw [ha 0 (by decide), ha 1 (by decide), ha 2 (by decide), ha 3 (by decide)]
theorem undoF_congr {a a' : Nat → QR} {k : QR} (ha : ∀ k < 4, a k = a' k) : undoF a k = undoF a' k := by
  unfold undoF; rw [ha 0 (by decide), ha 1 (by decide), ha 2 (by decide), ha 3 (by decide)]
theorem undoL_congr {a a' : Nat → QR} {k : QR} {t : Int} (ha : ∀ k < 4, a k = a' k) : undoL a k t = undoL a' k t := by
  unfold undoL; rw [undoF_congr ha, ha 0 (by decide)]
theorem detT_congr {r r' : Nat → CI} {x y w : Nat} (h : ∀ j < 12, r j = r' j) (hx : x < 4) (hy : y < 4) (hw : w < 4) : detT r x y w = detT r' x y w := by
  unfold detT; rw [h x (by omega), h (4 + y) (by omega), h (8 + w) (by omega), h (4 + w) (by omega), h (8 + y) (by omega)]
theorem det3_congr {r r' : Nat → CI} {x y w : Nat} (h : ∀ j < 12, r j = r' j) (hx : x < 4) (hy : y < 4) (hw : w < 4) : det3 r x y w = det3 r' x y w := by
  unfold det3; rw [detT_congr h hx hy hw, detT_congr h hy hw hx, detT_congr h hw hx hy]
theorem learnL_congr {r r' : Nat → CI} {t : Int} (h : ∀ j < 12, r j = r' j) : learnL r t = learnL r' t := by
  unfold learnL; rw [det3_congr (x := 0) (y := 1) (w := 3) h (by decide) (by decide) (by decide), det3_congr (x := 0) (y := 1) (w := 2) h (by decide) (by decide) (by decide), det3_congr (x := 0) (y := 3) (w := 2) h (by decide) (by decide) (by decide), det3_congr (x := 3) (y := 1) (w := 2) h (by decide) (by decide) (by decide)]
theorem timeL_congr {a a' : Nat → QR} {n : Int} (h : ∀ k < 4, a k = a' k) : timeL a n = timeL a' n := by
  unfold timeL; rw [h 0 (by decide), h 1 (by decide), h 2 (by decide), h 3 (by decide)]
theorem RepC.ldn {sh : Nat → Nat × Nat} {R : Nat → Nat → Option Nat} {N : Nat} {S : SP} {F : Nat → Nat → Int} {A : Nat → Int → Int} (h : RepC sh R N S F A) {b t s : Int} (hb : isB S b) (ht : isT t) : ∀ k < 4, ldn (A 2) b t s k = nmT S b t s k := fun k hk => by
  show num (A 2) (b * 144 + t * 36 + (if s = 0 then (k : Int) else 3 - k) * 9) = nm S b t (if s = 0 then (k : Int) else 3 - k)
  split
  · exact h.nu hb ht ⟨by omega, by omega⟩
  · exact h.nu hb ht ⟨by omega, by omega⟩
theorem invS.un {S : SP} (h : invS S) {b t s : Int} (hb : isB S b) (ht : isT t) : ∀ k < 4, (nmT S b t s k).2 ≠ (0, 0) := fun k hk => by
  unfold nmT
  split
  · exact (h.ok hb ht ⟨by omega, by omega⟩).2
  · exact (h.ok hb ht ⟨by omega, by omega⟩).2
theorem t_joined (l : Launch) {D : va_G} {ids : Nat → ClassId} {β : Nat} {sh : Nat → Nat × Nat} {N : Nat} {R : Nat → Nat → Option Nat} {F : Nat → Nat → Int} {A : Nat → Int → Int} {S : SP} (hP : PbL sh R N) (hR0 : RepC sh R N S F A) {c0 a b k : Int} (hk : isT k) (hc2 : ptS S c0 = 2) (ha : isB S a) (hb : isB S b) : MetX l yX0_joined cX0_joined 4 (some (.int)) 6 165 D ids β sh N R F A [rf 7, pI k, pI a, pI b] (pIr (TS sh R N S c0 (fun t => itC ((joinE (nmN S a t) (nmN S b t)).1 = (0, 0)) 1 0) (fun t e => joinX (nmN S a t) (nmN S b t) e) F A k)) := by
  refine (m_joined l hP.1 hR0.1 hR0.ck hR0.nb hR0.hB hk ha hb).mono (fun rv F2 A2 h => ?_)
  obtain ⟨z, h1, h2⟩ := h
  have ea : ∀ j < 4, ldn (A 2) a k 0 j = nmN S a k j := hR0.ldn (s := 0) ha hk
  have eb : ∀ j < 4, ldn (A 2) b k 0 j = nmN S b k j := hR0.ldn (s := 0) hb hk
  rw [joinE_congr ea eb, joinL_congr ea eb] at h2
  refine ⟨z, h1, by rcases h2 with ⟨h2, -⟩ | ⟨h2, -⟩ <;> omega, fun _ => ?_⟩
  rcases h2 with ⟨h2, h3, h4⟩ | ⟨h2, h3, h4⟩
  · exact Or.inl ⟨by omega, by dsimp only; rw [itC_pos h3]; exact h2, h4⟩
  · exact Or.inr ⟨h2, itC_neg h3, _, (fun x hx => by
      unfold joinL at hx
      simp only [List.mem_cons, List.not_mem_nil, or_false] at hx
      rcases hx with rfl | rfl | rfl | rfl
      · exact ⟨3, ⟨by decide, by decide⟩, Or.inl hc2, rfl⟩
      · exact ⟨2, ⟨by decide, by decide⟩, Or.inl hc2, rfl⟩
      · exact ⟨1, ⟨by decide, by decide⟩, Or.inl hc2, rfl⟩
      · exact ⟨0, ⟨by decide, by decide⟩, Or.inl hc2, rfl⟩), (fun e he _ => by
      unfold joinL
      simp only [List.mem_cons, List.not_mem_nil, or_false]
      rcases (show e = 0 ∨ e = 1 ∨ e = 2 ∨ e = 3 by omega) with rfl | rfl | rfl | rfl
      · exact Or.inr (Or.inr (Or.inr rfl))
      · exact Or.inr (Or.inr (Or.inl rfl))
      · exact Or.inr (Or.inl rfl)
      · exact Or.inl rfl), joinX_un (hR0.2.1.un (s := 0) ha hk) (hR0.2.1.un (s := 0) hb hk) h3, h4⟩
theorem t_takenOff (l : Launch) {D : va_G} {ids : Nat → ClassId} {β : Nat} {sh : Nat → Nat × Nat} {N : Nat} {R : Nat → Nat → Option Nat} {F : Nat → Nat → Int} {A : Nat → Int → Int} {S : SP} (hP : PbL sh R N) (hR0 : RepC sh R N S F A) {c0 a w s0 k : Int} (hk : isT k) (hc2 : ptS S c0 = 2) (ha : isB S a) (hw : isB S w) (hs : s0 = 0 ∨ s0 = 1) : MetX l yX0_takenOff cX0_takenOff 5 (some (.int)) 6 165 D ids β sh N R F A [rf 7, pI k, pI w, pI a, pI s0] (pIr (TS sh R N S c0 (fun t => takeD (nmT S a t s0) (nmT S w t s0)) (fun t e => takeX (nmT S a t s0) (nmT S w t s0) (if s0 = 0 then e else 3 - e)) F A k)) := by
  refine (m_takenOff l hP.1 hR0.1 hR0.ck hR0.nb hR0.hB hk ha hw hs).mono (fun rv F2 A2 h => ?_)
  obtain ⟨z, h1, h2⟩ := h
  have ea := hR0.ldn (s := s0) ha hk
  have eb := hR0.ldn (s := s0) hw hk
  rw [ea 1 (by decide), ea 2 (by decide), takeF_congr ea eb, takeL_congr ea eb] at h2
  refine ⟨z, h1, by rcases h2 with ⟨h2, -⟩ | ⟨h2, -⟩ | ⟨h2, -⟩ | ⟨h2, -⟩ <;> omega, fun _ => ?_⟩
  unfold takeD
  rcases h2 with ⟨h2, h3, h4⟩ | ⟨h2, h3, h5, h4⟩ | ⟨h2, h3, h5, h6, h4⟩ | ⟨h2, h3, h5, h6, h4⟩
  · exact Or.inl ⟨by omega, by dsimp only; rw [itC_pos h3]; exact h2, h4⟩
  · exact Or.inl ⟨by omega, by dsimp only; rw [itC_neg h3, itC_pos h5]; exact h2, h4⟩
  · exact Or.inl ⟨by omega, by dsimp only; rw [itC_neg h3, itC_neg h5, itC_pos h6]; exact h2, h4⟩
  · refine Or.inr ⟨h2, by dsimp only; rw [itC_neg h3, itC_neg h5, itC_neg h6], ?_⟩
    have un := takeX_un (hR0.2.1.un (s := s0) ha hk) (hR0.2.1.un (s := s0) hw hk) h6
    rcases hs with rfl | rfl
    · exact ⟨_, (fun x hx => by
      unfold takeL at hx
      simp only [List.mem_cons, List.not_mem_nil, or_false] at hx
      rcases hx with rfl | rfl | rfl | rfl
      · exact ⟨3, ⟨by decide, by decide⟩, Or.inl hc2, rfl⟩
      · exact ⟨2, ⟨by decide, by decide⟩, Or.inl hc2, rfl⟩
      · exact ⟨1, ⟨by decide, by decide⟩, Or.inl hc2, rfl⟩
      · exact ⟨0, ⟨by decide, by decide⟩, Or.inl hc2, rfl⟩), (fun e he _ => by
      unfold takeL
      simp only [List.mem_cons, List.not_mem_nil, or_false]
      rcases (show e = 0 ∨ e = 1 ∨ e = 2 ∨ e = 3 by omega) with rfl | rfl | rfl | rfl
      · exact Or.inr (Or.inr (Or.inr rfl))
      · exact Or.inr (Or.inr (Or.inl rfl))
      · exact Or.inr (Or.inl rfl)
      · exact Or.inl rfl), fun e => un _, h4⟩
    · exact ⟨_, (fun x hx => by
      unfold takeL at hx
      simp only [List.mem_cons, List.not_mem_nil, or_false] at hx
      rcases hx with rfl | rfl | rfl | rfl
      · exact ⟨0, ⟨by decide, by decide⟩, Or.inl hc2, rfl⟩
      · exact ⟨1, ⟨by decide, by decide⟩, Or.inl hc2, rfl⟩
      · exact ⟨2, ⟨by decide, by decide⟩, Or.inl hc2, rfl⟩
      · exact ⟨3, ⟨by decide, by decide⟩, Or.inl hc2, rfl⟩), (fun e he _ => by
      unfold takeL
      simp only [List.mem_cons, List.not_mem_nil, or_false]
      rcases (show e = 0 ∨ e = 1 ∨ e = 2 ∨ e = 3 by omega) with rfl | rfl | rfl | rfl
      · exact Or.inl rfl
      · exact Or.inr (Or.inl rfl)
      · exact Or.inr (Or.inr (Or.inl rfl))
      · exact Or.inr (Or.inr (Or.inr rfl))), fun e => un _, h4⟩
theorem t_closed (l : Launch) {D : va_G} {ids : Nat → ClassId} {β : Nat} {sh : Nat → Nat × Nat} {N : Nat} {R : Nat → Nat → Option Nat} {F : Nat → Nat → Int} {A : Nat → Int → Int} {S : SP} (hP : PbL sh R N) (hR0 : RepC sh R N S F A) {c0 a b k : Int} (hk : isT k) (hc1 : ptS S c0 = 1) (ha : isB S a) (hb : isB S b) : MetX l yX0_closed cX0_closed 4 (some (.int)) 6 165 D ids β sh N R F A [rf 7, pI k, pI a, pI b] (pIr (TS sh R N S c0 (fun t => itC ((closeE (nmN S a t) (nm S b t 0)).1 = (0, 0)) 1 0) (fun t e => closeX (nmN S a t) (nm S b t 0) e) F A k)) := by
  refine (m_closed l hP.1 hR0.1 hR0.ck hR0.nb hR0.hB hk ha hb).mono (fun rv F2 A2 h => ?_)
  obtain ⟨z, h1, h2⟩ := h
  have ea : ∀ j < 4, ldn (A 2) a k 0 j = nmN S a k j := hR0.ldn (s := 0) ha hk
  have eb : num0 (A 2) b k = nm S b k 0 := hR0.nu hb hk (e := 0) ⟨by decide, by decide⟩
  rw [eb, closedL_congr ea, ea 3 (by decide)] at h2
  refine ⟨z, h1, by rcases h2 with ⟨h2, -⟩ | ⟨h2, -⟩ <;> omega, fun _ => ?_⟩
  rcases h2 with ⟨h2, h3, h4⟩ | ⟨h2, h3, h4⟩
  · exact Or.inl ⟨by omega, by dsimp only; rw [itC_pos (show (closeE (nmN S a k) (nm S b k 0)).1 = (0, 0) from h3)]; exact h2, h4⟩
  · exact Or.inr ⟨h2, itC_neg (show ¬ (closeE (nmN S a k) (nm S b k 0)).1 = (0, 0) from h3), _, (fun x hx => by
      unfold closedL at hx
      simp only [List.mem_cons, List.not_mem_nil, or_false] at hx
      subst hx
      exact ⟨0, ⟨by decide, by decide⟩, Or.inr rfl, rfl⟩), (fun e he hE => by
      unfold closedL
      simp only [List.mem_cons, List.not_mem_nil, or_false]
      obtain rfl : e = 0 := by rcases hE with q | q; exact absurd (hc1.symm.trans q) (by decide); exact q
      rfl), closeX_un (hR0.2.1.un (s := 0) ha hk) (hR0.2.1.ok hb hk ⟨by decide, by decide⟩).2 h3, h4⟩
theorem t_undone (l : Launch) {D : va_G} {ids : Nat → ClassId} {β : Nat} {sh : Nat → Nat × Nat} {N : Nat} {R : Nat → Nat → Option Nat} {F : Nat → Nat → Int} {A : Nat → Int → Int} {S : SP} (hP : PbL sh R N) (hR0 : RepC sh R N S F A) {c0 a b k : Int} (hk : isT k) (hc1 : ptS S c0 = 1) (ha : isB S a) (hb : isB S b) : MetX l yX0_undone cX0_undone 4 (some (.int)) 6 165 D ids β sh N R F A [rf 7, pI k, pI a, pI b] (pIr (TS sh R N S c0 (fun t => itC ((undoF (nmN S a t) (nm S b t 0)).1 = (0, 0)) 1 0) (fun t e => undoX (nmN S a t) (nm S b t 0) e) F A k)) := by
  refine (m_undone l hP.1 hR0.1 hR0.ck hR0.nb hR0.hB hk ha hb).mono (fun rv F2 A2 h => ?_)
  obtain ⟨z, h1, h2⟩ := h
  have ea : ∀ j < 4, ldn (A 2) a k 0 j = nmN S a k j := hR0.ldn (s := 0) ha hk
  have eb : num0 (A 2) b k = nm S b k 0 := hR0.nu hb hk (e := 0) ⟨by decide, by decide⟩
  rw [eb, undoL_congr ea, undoF_congr ea] at h2
  refine ⟨z, h1, by rcases h2 with ⟨h2, -⟩ | ⟨h2, -⟩ <;> omega, fun _ => ?_⟩
  rcases h2 with ⟨h2, h3, h4⟩ | ⟨h2, h3, h4⟩
  · exact Or.inl ⟨by omega, by dsimp only; rw [itC_pos h3]; exact h2, h4⟩
  · exact Or.inr ⟨h2, itC_neg h3, _, (fun x hx => by
      unfold undoL at hx
      simp only [List.mem_cons, List.not_mem_nil, or_false] at hx
      subst hx
      exact ⟨0, ⟨by decide, by decide⟩, Or.inr rfl, rfl⟩), (fun e he hE => by
      unfold undoL
      simp only [List.mem_cons, List.not_mem_nil, or_false]
      obtain rfl : e = 0 := by rcases hE with q | q; exact absurd (hc1.symm.trans q) (by decide); exact q
      rfl), undoX_un (hR0.2.1.un (s := 0) ha hk) (hR0.2.1.ok hb hk ⟨by decide, by decide⟩).2 h3, h4⟩
theorem t_learned (l : Launch) {D : va_G} {ids : Nat → ClassId} {β : Nat} {sh : Nat → Nat × Nat} {N : Nat} {R : Nat → Nat → Option Nat} {F : Nat → Nat → Int} {A : Nat → Int → Int} {S : SP} (hP : PbL sh R N) (hR0 : RepC sh R N S F A) {c0 a b k : Int} (hk : isT k) (hc2 : ptS S c0 = 2) (ha : 0 ≤ a ∧ a + 2 < nbS S) (hb : 0 ≤ b ∧ b + 2 < nbS S) : MetX l yX0_learned cX0_learned 8 (some (.int)) 6 165 D ids β sh N R F A [rf 7, pI k, pI a, pI b] (pIr (TS sh R N S c0 (fun t => itC (det3 (lrnS S a b t) 0 1 2 = (0, 0)) 1 0) (fun t e => learnX (lrnS S a b t) e) F A k)) := by
  refine (m_learned l hP.1 hR0.1 hR0.ck hR0.nb hR0.hB hk hP.2.1 ha hb).mono (fun rv F2 A2 h => ?_)
  obtain ⟨z, h1, h2⟩ := h
  have ee : ∀ j < 12, lrn (A 2) a b k j = lrnS S a b k j := fun j hj => by
    unfold lrn lrnS lrnQ
    rw [hR0.nu (b := a + ((j / 4 : Nat) : Int)) ⟨by omega, by omega⟩ hk (e := 0) ⟨by decide, by decide⟩, hR0.nu (b := b + ((j / 4 : Nat) : Int)) ⟨by omega, by omega⟩ hk (e := 0) ⟨by decide, by decide⟩]
  rw [det3_congr ee (by decide) (by decide) (by decide), learnL_congr ee] at h2
  refine ⟨z, h1, by rcases h2 with ⟨h2, -⟩ | ⟨h2, -⟩ <;> omega, fun _ => ?_⟩
  rcases h2 with ⟨h2, h3, h4⟩ | ⟨h2, h3, h4⟩
  · exact Or.inl ⟨by omega, by dsimp only; rw [itC_pos h3]; exact h2, h4⟩
  · exact Or.inr ⟨h2, itC_neg h3, _, (fun x hx => by
      unfold learnL at hx
      simp only [List.mem_cons, List.not_mem_nil, or_false] at hx
      rcases hx with rfl | rfl | rfl | rfl
      · exact ⟨3, ⟨by decide, by decide⟩, Or.inl hc2, rfl⟩
      · exact ⟨2, ⟨by decide, by decide⟩, Or.inl hc2, rfl⟩
      · exact ⟨1, ⟨by decide, by decide⟩, Or.inl hc2, rfl⟩
      · exact ⟨0, ⟨by decide, by decide⟩, Or.inl hc2, rfl⟩), (fun e he _ => by
      unfold learnL
      simp only [List.mem_cons, List.not_mem_nil, or_false]
      rcases (show e = 0 ∨ e = 1 ∨ e = 2 ∨ e = 3 by omega) with rfl | rfl | rfl | rfl
      · exact Or.inr (Or.inr (Or.inr rfl))
      · exact Or.inr (Or.inr (Or.inl rfl))
      · exact Or.inr (Or.inl rfl)
      · exact Or.inl rfl), learnX_un h3, h4⟩
theorem t_inTime (l : Launch) {D : va_G} {ids : Nat → ClassId} {β : Nat} {sh : Nat → Nat × Nat} {N : Nat} {R : Nat → Nat → Option Nat} {F : Nat → Nat → Int} {A : Nat → Int → Int} {S : SP} (hP : PbL sh R N) (hR0 : RepC sh R N S F A) {c0 a en k : Int} (hk : isT k) (hc1 : ptS S c0 = 1) (ha : isB S a) (hen : isT en) : MetX l yX0_inTime cX0_inTime 5 none 6 165 D ids β sh N R F A [rf 7, pI k, pI a, pI en] (pVr (fun F2 A2 => ∃ L, (∀ x ∈ L, ∃ e, isT e ∧ dE S c0 e ∧ x = ((fun n e => timeX (fun t => nm S a t en) n e) k e, k * 36 + e * 9)) ∧ (∀ e, isT e → dE S c0 e → ((fun n e => timeX (fun t => nm S a t en) n e) k e, k * 36 + e * 9) ∈ L) ∧ (∀ e, ((fun n e => timeX (fun t => nm S a t en) n e) k e).2 ≠ (0, 0)) ∧ AE sh R N F A L F2 A2)) := by
  refine (m_inTime l hP.1 hR0.1 hR0.ck hR0.nb hR0.hB hk ha hen).mono (fun rv F2 A2 h => ?_)
  obtain ⟨h1, h4⟩ := h
  have ee : ∀ j < 4, timeN (A 2) a en k j = timeQ (fun t => nm S a t en) k j := fun j hj => by
    unfold timeN timeQ
    rw [hR0.nu ha (t := (j : Int)) ⟨by omega, by omega⟩ hen]
  rw [timeL_congr ee] at h4
  exact ⟨h1, _, (fun x hx => by
      unfold timeL at hx
      simp only [List.mem_cons, List.not_mem_nil, or_false] at hx
      subst hx
      exact ⟨0, ⟨by decide, by decide⟩, Or.inr rfl, rfl⟩), (fun e he hE => by
      unfold timeL
      simp only [List.mem_cons, List.not_mem_nil, or_false]
      obtain rfl : e = 0 := by rcases hE with q | q; exact absurd (hc1.symm.trans q) (by decide); exact q
      rfl), timeX_un (fun j hj => (hR0.2.1.ok ha ⟨by omega, by omega⟩ hen).2) k, h4⟩
