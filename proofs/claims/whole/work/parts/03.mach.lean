/-! THE PURE MACHINE: a method's walk told by whole numbers: fields F, array places A, references R, all by the cell's number -/
abbrev PV : Type := Int ⊕ Int ⊕ Option Nat
abbrev pI (z : Int) : PV := .inl z
abbrev pL (z : Int) : PV := .inr (.inl z)
abbrev rf (a : Nat) : PV := .inr (.inr (some a))
abbrev pN : PV := .inr (.inr none)
def tv (β : Nat) : PV → Value
  | .inl z => .int (Int32.ofInt z)
  | .inr (.inl z) => .long (Int64.ofInt z)
  | .inr (.inr r) => va_rf (r.map (fun a => β + a))
/-- a value's place behind a store of one slot: a long just ahead of it is lost -/
def kil : Option PV → Option PV
  | some (.inr (.inl _)) => none
  | x => x
def st1 : List (Option PV) → Nat → PV → List (Option PV)
  | [], _, _ => []
  | _ :: t, 0, v => some v :: t
  | a :: t, 1, v => kil a :: st1 t 0 v
  | a :: t, n + 2, v => a :: st1 t (n + 1) v
def st2 : List (Option PV) → Nat → PV → List (Option PV)
  | [], _, _ => []
  | _ :: [], 0, _ => []
  | _ :: _ :: t, 0, v => some v :: none :: t
  | a :: t, 1, v => kil a :: st2 t 0 v
  | a :: t, n + 2, v => a :: st2 t (n + 1) v
def lcl (β : Nat) : Nat → List (Option PV) → List (Nat × Value)
  | _, [] => []
  | i, none :: t => lcl β (i + 1) t
  | i, some v :: t => (i, tv β v) :: lcl β (i + 1) t
theorem lcl_mem {β : Nat} : ∀ (loc : List (Option PV)) (n : Nat) (q : Nat × Value), q ∈ lcl β n loc ↔ ∃ (j : Nat) (u : PV), loc[j]? = some (some u) ∧ q.1 = n + j ∧ q.2 = tv β u
  | [], n, q => by simp [lcl]
  | none :: t, n, q => by
    rw [lcl, lcl_mem t (n + 1) q]
    constructor
    · rintro ⟨j, u, h1, h2, h3⟩
      exact ⟨j + 1, u, by simpa using h1, by omega, h3⟩
    · rintro ⟨j, u, h1, h2, h3⟩
      cases j with
      | zero => simp at h1
      | succ j => exact ⟨j, u, by simpa using h1, by omega, h3⟩
  | some v :: t, n, q => by
    rw [lcl, List.mem_cons, lcl_mem t (n + 1) q]
    constructor
    · rintro (rfl | ⟨j, u, h1, h2, h3⟩)
      · exact ⟨0, v, rfl, rfl, rfl⟩
      · exact ⟨j + 1, u, by simpa using h1, by omega, h3⟩
    · rintro ⟨j, u, h1, h2, h3⟩
      cases j with
      | zero =>
        simp at h1
        subst h1
        exact Or.inl (Prod.ext h2 h3)
      | succ j => exact Or.inr ⟨j, u, by simpa using h1, by omega, h3⟩
theorem lv_less {ls : Array Slot} {nL : Nat} {l l' : List (Nat × Value)} (h : lv_has ls nL l) (hs : ∀ q ∈ l', q ∈ l) : lv_has ls nL l' := ⟨h.1, h.2.1, fun q hq => h.2.2 q (hs q hq)⟩
theorem lv_get {β : Nat} {ls : Array Slot} {nL : Nat} {loc : List (Option PV)} (h : lv_has ls nL (lcl β 0 loc)) {i : Nat} {v : PV} (hv : loc[i]? = some (some v)) : ls[i]? = some (.val (tv β v)) :=
  h.2.2 (i, tv β v) ((lcl_mem loc 0 _).mpr ⟨i, v, hv, (Nat.zero_add i).symm, rfl⟩)
theorem st1_spec : ∀ (loc : List (Option PV)) (i : Nat) (v : PV) (j : Nat) (u : PV), (st1 loc i v)[j]? = some (some u) → (j = i ∧ u = v) ∨ (j ≠ i ∧ loc[j]? = some (some u) ∧ ¬ (j + 1 = i ∧ ∃ z, u = .inr (.inl z)))
  | [], _, _, j, u, h => by simp [st1] at h
  | a :: t, 0, v, j, u, h => by
    cases j with
    | zero => simp [st1] at h; exact Or.inl ⟨rfl, h.symm⟩
    | succ j => simp [st1] at h; exact Or.inr ⟨by omega, by simpa using h, by omega⟩
  | a :: t, 1, v, j, u, h => by
    cases j with
    | zero =>
      simp [st1] at h
      refine Or.inr ⟨by omega, ?_, ?_⟩
      · unfold kil at h
        split at h
        · cases h
        · simp [h]
      · rintro ⟨-, z, rfl⟩
        unfold kil at h
        split at h
        · cases h
        · rename_i hx
          exact hx z h
    | succ j =>
      simp only [st1, List.getElem?_cons_succ] at h
      rcases st1_spec t 0 v j u h with ⟨h1, h2⟩ | ⟨h1, h2, h3⟩
      · exact Or.inl ⟨by omega, h2⟩
      · exact Or.inr ⟨by omega, by simpa using h2, by omega⟩
  | a :: t, n + 2, v, j, u, h => by
    cases j with
    | zero => simp [st1] at h; exact Or.inr ⟨by omega, by simpa using h, by omega⟩
    | succ j =>
      simp only [st1, List.getElem?_cons_succ] at h
      rcases st1_spec t (n + 1) v j u h with ⟨h1, h2⟩ | ⟨h1, h2, h3⟩
      · exact Or.inl ⟨by omega, h2⟩
      · exact Or.inr ⟨by omega, by simpa using h2, fun ⟨q1, q2⟩ => h3 ⟨by omega, q2⟩⟩
theorem st2_spec : ∀ (loc : List (Option PV)) (i : Nat) (v : PV) (j : Nat) (u : PV), (st2 loc i v)[j]? = some (some u) → (j = i ∧ u = v) ∨ (j ≠ i ∧ j ≠ i + 1 ∧ loc[j]? = some (some u) ∧ ¬ (j + 1 = i ∧ ∃ z, u = .inr (.inl z)))
  | [], _, _, j, u, h => by simp [st2] at h
  | [a], 0, v, j, u, h => by simp [st2] at h
  | a :: b :: t, 0, v, j, u, h => by
    cases j with
    | zero => simp [st2] at h; exact Or.inl ⟨rfl, h.symm⟩
    | succ j =>
      cases j with
      | zero => simp [st2] at h
      | succ j => simp [st2] at h; exact Or.inr ⟨by omega, by omega, by simpa using h, by omega⟩
  | a :: t, 1, v, j, u, h => by
    cases j with
    | zero =>
      simp [st2] at h
      refine Or.inr ⟨by omega, by omega, ?_, ?_⟩
      · unfold kil at h
        split at h
        · cases h
        · simp [h]
      · rintro ⟨-, z, rfl⟩
        unfold kil at h
        split at h
        · cases h
        · rename_i hx
          exact hx z h
    | succ j =>
      simp only [st2, List.getElem?_cons_succ] at h
      rcases st2_spec t 0 v j u h with ⟨h1, h2⟩ | ⟨h1, h4, h2, h3⟩
      · exact Or.inl ⟨by omega, h2⟩
      · exact Or.inr ⟨by omega, by omega, by simpa using h2, by omega⟩
  | a :: t, n + 2, v, j, u, h => by
    cases j with
    | zero => simp [st2] at h; exact Or.inr ⟨by omega, by omega, by simpa using h, by omega⟩
    | succ j =>
      simp only [st2, List.getElem?_cons_succ] at h
      rcases st2_spec t (n + 1) v j u h with ⟨h1, h2⟩ | ⟨h1, h4, h2, h3⟩
      · exact Or.inl ⟨by omega, h2⟩
      · exact Or.inr ⟨by omega, by omega, by simpa using h2, fun ⟨q1, q2⟩ => h3 ⟨by omega, q2⟩⟩
theorem tv_long {β : Nat} {u : PV} (h : (tv β u).category = 2) : ∃ z, u = .inr (.inl z) := by
  rcases u with z | z | r
  · simp [tv, Value.category] at h
  · exact ⟨z, rfl⟩
  · cases r <;> simp [tv, va_rf, Value.category] at h
theorem lcl_st1 {β i : Nat} {loc : List (Option PV)} {v : PV} : ∀ q ∈ lcl β 0 (st1 loc i v), q ∈ (i, tv β v) :: (lcl β 0 loc).filter (fun q => !(q.1 == i) && !(q.1 + 1 == i && q.2.category == 2)) := by
  intro q hq
  obtain ⟨j, u, h1, h2, h3⟩ := (lcl_mem _ _ _).mp hq
  rcases st1_spec loc i v j u h1 with ⟨e1, e2⟩ | ⟨e1, e2, e3⟩
  · subst e1 e2
    rw [show q = (j, tv β u) from Prod.ext (by omega) h3]
    exact List.mem_cons_self
  · refine List.mem_cons_of_mem _ (List.mem_filter.mpr ⟨(lcl_mem _ _ _).mpr ⟨j, u, e2, h2, h3⟩, ?_⟩)
    simp only [Bool.and_eq_true, Bool.not_eq_true', beq_eq_false_iff_ne, Bool.and_eq_false_iff]
    refine ⟨by omega, ?_⟩
    by_cases hc : q.2.category = 2
    · rw [h3] at hc
      obtain ⟨z, rfl⟩ := tv_long hc
      left
      intro h
      exact e3 ⟨by omega, z, rfl⟩
    · right
      exact hc
theorem lcl_st2 {β i : Nat} {loc : List (Option PV)} {v : PV} : ∀ q ∈ lcl β 0 (st2 loc i v), q ∈ (i, tv β v) :: (lcl β 0 loc).filter (fun q => !(q.1 == i) && (!(q.1 == i + 1) && !(q.1 + 1 == i && q.2.category == 2))) := by
  intro q hq
  obtain ⟨j, u, h1, h2, h3⟩ := (lcl_mem _ _ _).mp hq
  rcases st2_spec loc i v j u h1 with ⟨e1, e2⟩ | ⟨e1, e4, e2, e3⟩
  · subst e1 e2
    rw [show q = (j, tv β u) from Prod.ext (by omega) h3]
    exact List.mem_cons_self
  · refine List.mem_cons_of_mem _ (List.mem_filter.mpr ⟨(lcl_mem _ _ _).mpr ⟨j, u, e2, h2, h3⟩, ?_⟩)
    simp only [Bool.and_eq_true, Bool.not_eq_true', beq_eq_false_iff_ne, Bool.and_eq_false_iff]
    refine ⟨by omega, by omega, ?_⟩
    by_cases hc : q.2.category = 2
    · rw [h3] at hc
      obtain ⟨z, rfl⟩ := tv_long hc
      left
      intro h
      exact e3 ⟨by omega, z, rfl⟩
    · right
      exact hc
/-- a list of locals that says less -/
def lle : List (Option PV) → List (Option PV) → Prop
  | [], [] => True
  | _ :: t, none :: t' => lle t t'
  | some a :: t, some b :: t' => a = b ∧ lle t t'
  | _, _ => False
theorem lle_get : ∀ (l l' : List (Option PV)) (j : Nat) (u : PV), lle l l' → l'[j]? = some (some u) → l[j]? = some (some u)
  | [], [], j, u, _, h => by simp at h
  | a :: t, none :: t', j, u, hl, h => by
    cases j with
    | zero => simp at h
    | succ j =>
      simp only [List.getElem?_cons_succ] at h ⊢
      exact lle_get t t' j u (by unfold lle at hl; exact hl) h
  | some a :: t, some b :: t', j, u, hl, h => by
    obtain ⟨rfl, hl⟩ := hl
    cases j with
    | zero => simpa using h
    | succ j =>
      simp only [List.getElem?_cons_succ] at h ⊢
      exact lle_get t t' j u hl h
  | [], _ :: _, j, u, hl, h => by simp [lle] at hl
  | none :: t, some b :: t', j, u, hl, h => by simp [lle] at hl
  | _ :: _, [], j, u, hl, h => by simp at h
theorem lcl_lle {β : Nat} {l l' : List (Option PV)} (h : lle l l') : ∀ q ∈ lcl β 0 l', q ∈ lcl β 0 l := by
  intro q hq
  obtain ⟨j, u, h1, h2, h3⟩ := (lcl_mem _ _ _).mp hq
  exact (lcl_mem _ _ _).mpr ⟨j, u, lle_get _ _ _ _ h h1, h2, h3⟩
/-- the locals at a method's entry -/
def ent : List PV → List (Option PV)
  | [] => []
  | .inr (.inl z) :: t => some (pL z) :: none :: ent t
  | v :: t => some v :: ent t
theorem ent_mem {β : Nat} : ∀ (av : List PV) (n k : Nat) (q : Nat × Value), q ∈ lcl β n (ent av ++ List.replicate k none) → q ∈ lv_args n (av.map (tv β))
  | [], n, k, q, h => by
    obtain ⟨j, u, h1, -⟩ := (lcl_mem _ _ _).mp h
    simp only [ent, List.nil_append, List.getElem?_replicate] at h1
    split at h1 <;> cases h1
  | .inl z :: t, n, k, q, h => by
    simp only [ent, List.cons_append, lcl, List.mem_cons] at h
    simp only [List.map_cons, lv_args, tv, Value.category, List.mem_cons]
    exact h.imp id (fun h => ent_mem t _ k q h)
  | .inr (.inl z) :: t, n, k, q, h => by
    simp only [ent, List.cons_append, lcl, List.mem_cons] at h
    simp only [List.map_cons, lv_args, tv, Value.category, List.mem_cons]
    exact h.imp id (fun h => ent_mem t _ k q h)
  | .inr (.inr r) :: t, n, k, q, h => by
    simp only [ent, List.cons_append, lcl, List.mem_cons] at h
    have hc : (tv β (.inr (.inr r))).category = 1 := by cases r <;> rfl
    simp only [List.map_cons, lv_args, List.mem_cons, hc]
    exact h.imp id (fun h => ent_mem t _ k q h)
