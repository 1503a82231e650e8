/-- what the rows leave as it was -/
def FrL (F : Nat → Nat → Int) (A : Nat → Int → Int) (F' : Nat → Nat → Int) (A' : Nat → Int → Int) : Prop := (∀ o, o ≠ 0 → F' o = F o) ∧ (∀ j, j ≠ 10 → j ≠ 14 → j ≠ 15 → F' 0 j = F 0 j) ∧ ∀ a, a ≠ 4 → a ≠ 5 → a ≠ 6 → a ≠ 7 → a ≠ 8 → a ≠ 9 → a ≠ 11 → A' a = A a
theorem FrL.rf {F : Nat → Nat → Int} {A : Nat → Int → Int} : FrL F A F A := ⟨fun _ _ => rfl, fun _ _ _ _ => rfl, fun _ _ _ _ _ _ _ _ => rfl⟩
theorem FrL.tr {F F1 F2 : Nat → Nat → Int} {A A1 A2 : Nat → Int → Int} (h : FrL F A F1 A1) (k : FrL F1 A1 F2 A2) : FrL F A F2 A2 := ⟨fun o ho => (k.1 o ho).trans (h.1 o ho), fun j a b c => (k.2.1 j a b c).trans (h.2.1 j a b c), fun a b c d e f g i => (k.2.2 a b c d e f g i).trans (h.2.2 a b c d e f g i)⟩
theorem FrM.L {F F' : Nat → Nat → Int} {A A' : Nat → Int → Int} (h : FrM F A F' A') : FrL F A F' A' := ⟨h.1, h.2.1, fun a a4 a5 a6 a7 a8 a9 _ => h.2.2 a a4 a5 a6 a7 a8 a9⟩
theorem FrL.w {F F' : Nat → Nat → Int} {A A' : Nat → Int → Int} {i v : Int} (h : FrL F A F' A') : FrL F A F' (uA A' 11 i v) := ⟨h.1, h.2.1, fun a a4 a5 a6 a7 a8 a9 b => (uA_ne b).trans (h.2.2 a a4 a5 a6 a7 a8 a9 b)⟩
theorem RepM.L {S : SP} {F F' : Nat → Nat → Int} {A A' : Nat → Int → Int} (h : RepM S F A) (k : FrL F A F' A') : RepM S F' A' := h.of (fun j hj => k.2.1 j (by omega) (by omega) (by omega)) (fun b hb => k.2.2 b (by omega) (by omega) (by omega) (by omega) (by omega) (by omega) (by omega))
theorem St.w11 {T : Int} {V : Int → Int} {F : Nat → Nat → Int} {A : Nat → Int → Int} {i v : Int} (h : St T V F A) : St T V F (uA A 11 i v) := by
  refine ⟨h.1, h.2.1, fun x a b => ?_⟩
  have q := h.2.2 x a b
  unfold MOK mv mm mlm at *
  rw [uA_ne (show 4 ≠ 11 by decide), uA_ne (show 5 ≠ 11 by decide), uA_ne (show 6 ≠ 11 by decide)]
  exact q
def RowsN (n : Nat) (A : Nat → Int → Int) (V : Int → Int) (r : Nat → T3) : Prop := ∀ j : Nat, j < n → A 11 (j : Int) = slT (j : Int) ∧ tr V (slT (j : Int)) = r j ∧ bdt 51 2 (r j)
/-- the four numbers of row i -/
def rowT (K M : T3) (j : Nat) : T3 := if j = 0 then tmul (K.2.2, 0, 1) (M.2.2, 0, 1) else if j = 1 then tmul (K.1, K.2.1, 1) (M.2.2, 0, 1) else if j = 2 then tmul (M.1, M.2.1, 1) (K.1, K.2.1, 1) else tmul (M.1, M.2.1, 1) (K.2.2, 0, 1)
def lrnR (S : SP) (k m t : Int) (j : Nat) : T3 := rowT (vS S (k + ((j / 4 : Nat) : Int)) t 0) (vS S (m + ((j / 4 : Nat) : Int)) t 0) (j % 4)
theorem RowsN.add {i : Nat} {A A2 : Nat → Int → Int} {V V2 : Int → Int} {r : Nat → T3} (h : RowsN (4 * i) A V r) (hA : ∀ j : Nat, j < 4 * i → A2 11 (j : Int) = A 11 (j : Int)) (hV : ∀ u : Int, u < 95 * i → V2 u = V u) (h0 : ∀ j : Nat, j < 4 → A2 11 ((4 * i + j : Nat) : Int) = slT ((4 * i + j : Nat) : Int) ∧ tr V2 (slT ((4 * i + j : Nat) : Int)) = r (4 * i + j) ∧ bdt 51 2 (r (4 * i + j))) : RowsN (4 * (i + 1)) A2 V2 r := fun j hj => by
  by_cases q : j < 4 * i
  · obtain ⟨a, b, c⟩ := h j q
    refine ⟨(hA j q).trans a, ?_, c⟩
    rw [← b]
    have z : slT (j : Int) + 2 < 95 * i := by unfold slT; omega
    unfold tr
    rw [hV _ (by omega), hV _ (by omega), hV _ (by omega)]
  · obtain ⟨d, rfl⟩ : ∃ d, j = 4 * i + d := ⟨j - 4 * i, by omega⟩
    exact h0 d (by omega)
