/-! WHOLES -/
abbrev BB : Int := 1000000000
def isW (sh : Nat → Nat × Nat) (R : Nat → Nat → Option Nat) (N w : Nat) : Prop := w + 1 < N ∧ sh w = (0, 6) ∧ sh (w + 1) = (1, 80) ∧ R w 2 = some (w + 1)
/-- limbs from 0 to below n are digits -/
def dig (B : Int) (f : Int → Int) (n : Int) : Prop := ∀ k : Int, 0 ≤ k → k < n → 0 ≤ f k ∧ f k < B
def WOK (F : Nat → Nat → Int) (A : Nat → Int → Int) (w : Nat) : Prop :=
  0 ≤ F w 1 ∧ F w 1 ≤ 80 ∧ dig 1000000000 (A (w + 1)) (F w 1) ∧ (0 < F w 1 → A (w + 1) (F w 1 - 1) ≠ 0) ∧ ((F w 1 = 0 ∧ F w 0 = 0) ∨ (0 < F w 1 ∧ (F w 0 = 1 ∨ F w 0 = -1)))
def wm (F : Nat → Nat → Int) (A : Nat → Int → Int) (w : Nat) : Int := dv 1000000000 (A (w + 1)) (F w 1).toNat
def wv (F : Nat → Nat → Int) (A : Nat → Int → Int) (w : Nat) : Int := F w 0 * wm F A w
theorem dv_drop {B : Int} {f : Int → Int} {n : Nat} : ∀ {m : Nat}, n ≤ m → (∀ k : Int, n ≤ k → k < m → f k = 0) → dv B f m = dv B f n
  | 0, h, _ => by rw [show n = 0 by omega]
  | m + 1, h, hz => by
    by_cases e : n = m + 1
    · rw [e]
    · rw [dv_top (hz m (by omega) (by omega)), dv_drop (m := m) (by omega) (fun k h0 h1 => hz k h0 (by omega))]
def Q_clear (F : Nat → Nat → Int) (A : Nat → Int → Int) (w : Nat) : (Nat → Nat → Int) → (Nat → Int → Int) → Prop := fun F' A' => A' = A ∧ (∀ o, o ≠ w → F' o = F o) ∧ WOK F' A w ∧ wv F' A w = 0
def Q_trim (F : Nat → Nat → Int) (A : Nat → Int → Int) (w : Nat) (most side : Int) : (Nat → Nat → Int) → (Nat → Int → Int) → Prop := fun F' A' => A' = A ∧ (∀ o, o ≠ w → F' o = F o) ∧ WOK F' A w ∧ wv F' A w = side * dv 1000000000 (A (w + 1)) most.toNat
theorem trim_fin {F : Nat → Nat → Int} {A : Nat → Int → Int} {w : Nat} {k most side s : Int} (h0 : 0 ≤ k) (hk : k ≤ most) (hm : most ≤ 80) (hr : dig 1000000000 (A (w + 1)) most) (hz : ∀ j, k ≤ j → j < most → A (w + 1) j = 0) (ht : k ≤ 0 ∨ A (w + 1) (k - 1) ≠ 0)
    (hs : side = 1 ∨ side = -1 ∨ (side = 0 ∧ ∀ j, 0 ≤ j → j < most → A (w + 1) j = 0)) (hsk : (k = 0 ∧ s = 0) ∨ (k ≠ 0 ∧ s = side)) : Q_trim F A w most side (uF (uF F w 1 k) w 0 s) A := by
  have e1 : uF (uF F w 1 k) w 0 s w 1 = k := by rw [uF_nj (by decide), uF_eq]
  have e0 : uF (uF F w 1 k) w 0 s w 0 = s := uF_eq
  have hd : dv 1000000000 (A (w + 1)) most.toNat = dv 1000000000 (A (w + 1)) k.toNat := dv_drop (by omega) (fun j h1 h2 => hz j (by omega) (by omega))
  refine ⟨rfl, fun o ho => by rw [uF_ne ho, uF_ne ho], ?_, ?_⟩
  · unfold WOK
    rw [e1, e0]
    refine ⟨h0, by omega, fun j h1 h2 => hr j h1 (by omega), fun h => by rcases ht with q | q; omega; exact q, ?_⟩
    rcases hsk with ⟨q1, q2⟩ | ⟨q1, q2⟩
    · exact Or.inl ⟨q1, q2⟩
    · refine Or.inr ⟨by omega, ?_⟩
      rcases hs with h | h | ⟨h, hh⟩
      · left; omega
      · right; omega
      · exfalso
        rcases ht with q | q
        · omega
        · exact q (hh _ (by omega) (by omega))
  · unfold wv wm
    rw [e1, e0, hd]
    rcases hsk with ⟨q1, q2⟩ | ⟨q1, q2⟩
    · subst q1 q2; simp [dv]
    · rw [q2]
theorem dX6_clear_0 : decode cX6_clear 0 = .ok (.aload_n 0, 1) := by decide +kernel
theorem dX6_clear_1 : decode cX6_clear 1 = .ok (.iconst 0, 1) := by decide +kernel
theorem dX6_clear_2 : decode cX6_clear 2 = .ok (.putfield 15, 3) := by decide +kernel
theorem dX6_clear_5 : decode cX6_clear 5 = .ok (.aload_n 0, 1) := by decide +kernel
theorem dX6_clear_6 : decode cX6_clear 6 = .ok (.iconst 0, 1) := by decide +kernel
theorem dX6_clear_7 : decode cX6_clear 7 = .ok (.putfield 19, 3) := by decide +kernel
theorem dX6_clear_10 : decode cX6_clear 10 = .ok (.return_, 1) := by decide +kernel
set_option maxHeartbeats 4000000 in
theorem m_clear (l : Launch) {D : va_G} {ids : Nat → ClassId} {β : Nat} {sh : Nat → Nat × Nat} {N : Nat} {R : Nat → Nat → Option Nat} {F : Nat → Nat → Int} {A : Nat → Int → Int} {w : Nat} (hw : isW sh R N w) : MetX l yX6_clear cX6_clear 1 none 0 0 D ids β sh N R F A [rf w] (pVr (Q_clear F A w)) := by
  refine MetX.of (loc := [_]) (plainFor_of_name (by decide +kernel)) (Nat.le_of_ble_eq_true rfl) rfl ?_
  intro p e s m args below meth c hC hK hr hlk
  obtain ⟨hw1, hw2, hw3, hw4⟩ := id hw
  have hw0 : w < N := by omega
  refine x_aload_n (pc2 := 1) hC rfl rfl dX6_clear_0 rfl ?_
  refine x_iconst (pc2 := 2) hC dX6_clear_1 rfl ?_
  refine p_136 (pc2 := 5) hC hK (by assumption) (by assumption) dX6_clear_2 rfl ?_
  refine x_aload_n (pc2 := 6) hC rfl rfl dX6_clear_5 rfl ?_
  refine x_iconst (pc2 := 7) hC dX6_clear_6 rfl ?_
  refine p_140 (pc2 := 10) hC hK (by assumption) (by assumption) dX6_clear_7 rfl ?_
  exact x_vret hC hr hlk ⟨rfl, rfl, fun o ho => by rw [uF_ne ho, uF_ne ho], by
      have e1 : uF (uF F w 0 0) w 1 0 w 1 = 0 := uF_eq
      have e0 : uF (uF F w 0 0) w 1 0 w 0 = 0 := by rw [uF_nj (by decide), uF_eq]
      unfold WOK
      rw [e1, e0]
      exact ⟨by omega, by omega, fun j h1 h2 => by omega, fun h => by omega, Or.inl ⟨rfl, rfl⟩⟩, by
      have e0 : uF (uF F w 0 0) w 1 0 w 0 = 0 := by rw [uF_nj (by decide), uF_eq]
      unfold wv; rw [e0, Int.zero_mul]⟩ dX6_clear_10
theorem dX6_trim_0 : decode cX6_trim 0 = .ok (.iload_n 1, 1) := by decide +kernel
theorem dX6_trim_1 : decode cX6_trim 1 = .ok (.bipush 80, 2) := by decide +kernel
theorem dX6_trim_3 : decode cX6_trim 3 = .ok (.if_icmp .ge 7, 3) := by decide +kernel
theorem dX6_trim_6 : decode cX6_trim 6 = .ok (.iload_n 1, 1) := by decide +kernel
theorem dX6_trim_7 : decode cX6_trim 7 = .ok (.goto 5, 3) := by decide +kernel
theorem dX6_trim_10 : decode cX6_trim 10 = .ok (.bipush 80, 2) := by decide +kernel
theorem dX6_trim_12 : decode cX6_trim 12 = .ok (.istore_n 3, 1) := by decide +kernel
theorem dX6_trim_13 : decode cX6_trim 13 = .ok (.iload_n 3, 1) := by decide +kernel
theorem dX6_trim_14 : decode cX6_trim 14 = .ok (.ifCond .le 20, 3) := by decide +kernel
theorem dX6_trim_17 : decode cX6_trim 17 = .ok (.aload_n 0, 1) := by decide +kernel
theorem dX6_trim_18 : decode cX6_trim 18 = .ok (.getfield 9, 3) := by decide +kernel
theorem dX6_trim_21 : decode cX6_trim 21 = .ok (.iload_n 3, 1) := by decide +kernel
theorem dX6_trim_22 : decode cX6_trim 22 = .ok (.iconst 1, 1) := by decide +kernel
theorem dX6_trim_23 : decode cX6_trim 23 = .ok (.isub, 1) := by decide +kernel
theorem dX6_trim_24 : decode cX6_trim 24 = .ok (.iaload, 1) := by decide +kernel
theorem dX6_trim_25 : decode cX6_trim 25 = .ok (.ifCond .ne 9, 3) := by decide +kernel
theorem dX6_trim_28 : decode cX6_trim 28 = .ok (.iinc 3 (-1), 3) := by decide +kernel
theorem dX6_trim_31 : decode cX6_trim 31 = .ok (.goto (-18), 3) := by decide +kernel
theorem dX6_trim_34 : decode cX6_trim 34 = .ok (.aload_n 0, 1) := by decide +kernel
theorem dX6_trim_35 : decode cX6_trim 35 = .ok (.iload_n 3, 1) := by decide +kernel
theorem dX6_trim_36 : decode cX6_trim 36 = .ok (.putfield 19, 3) := by decide +kernel
theorem dX6_trim_39 : decode cX6_trim 39 = .ok (.aload_n 0, 1) := by decide +kernel
theorem dX6_trim_40 : decode cX6_trim 40 = .ok (.iload_n 3, 1) := by decide +kernel
theorem dX6_trim_41 : decode cX6_trim 41 = .ok (.ifCond .ne 7, 3) := by decide +kernel
theorem dX6_trim_44 : decode cX6_trim 44 = .ok (.iconst 0, 1) := by decide +kernel
theorem dX6_trim_45 : decode cX6_trim 45 = .ok (.goto 4, 3) := by decide +kernel
theorem dX6_trim_48 : decode cX6_trim 48 = .ok (.iload_n 2, 1) := by decide +kernel
theorem dX6_trim_49 : decode cX6_trim 49 = .ok (.putfield 15, 3) := by decide +kernel
theorem dX6_trim_52 : decode cX6_trim 52 = .ok (.return_, 1) := by decide +kernel
set_option maxHeartbeats 4000000 in
theorem m_trim (l : Launch) {D : va_G} {ids : Nat → ClassId} {β : Nat} {sh : Nat → Nat × Nat} {N : Nat} {R : Nat → Nat → Option Nat} {F : Nat → Nat → Int} {A : Nat → Int → Int} {w : Nat} {most side : Int} (hw : isW sh R N w) (hm : 0 ≤ most ∧ most ≤ 80) (hr0 : dig 1000000000 (A (w + 1)) most) (hs : side = 1 ∨ side = -1 ∨ (side = 0 ∧ ∀ j, 0 ≤ j → j < most → A (w + 1) j = 0)) : MetX l yX6_trim cX6_trim 4 none 0 0 D ids β sh N R F A [rf w, pI most, pI side] (pVr (Q_trim F A w most side)) := by
  refine MetX.of (loc := [_, _, _, _]) (plainFor_of_name (by decide +kernel)) (Nat.le_of_ble_eq_true rfl) rfl ?_
  intro p e s m args below meth c hC hK hr hlk
  obtain ⟨hw1, hw2, hw3, hw4⟩ := id hw
  have hw0 : w < N := by omega
  have loop : ∀ (n : Nat) (k : Int), k.toNat < n → 0 ≤ k → k ≤ most → (∀ j, k ≤ j → j < most → A (w + 1) j = 0) → X p l e { frames := 0, cells := 0, slots := 0, locals := 0 } s m args below meth c (MQ below (QX D ids β sh N R (pVr (Q_trim F A w most side))) args s 0 0 (inG β N)) (inG β N) D ids β sh 4 0 0 N R F A [some (rf w), some (pI most), some (pI side), some (pI k)] [] 13 := by
    intro n
    induction n with
    | zero => intro k hn; omega
    | succ n ih =>
      intro k hn h0 hk hz
      refine x_iload_n (pc2 := 14) hC rfl rfl dX6_trim_13 rfl ?_
      refine x_if_le (tgt := 34) (pc2 := 17) hC (by omega) dX6_trim_14 rfl rfl (fun h_14 => ?_) (fun h_14 => ?_)
      · refine x_aload_n (pc2 := 35) hC rfl rfl dX6_trim_34 rfl ?_
        refine x_iload_n (pc2 := 36) hC rfl rfl dX6_trim_35 rfl ?_
        refine p_140 (pc2 := 39) hC hK (by assumption) (by assumption) dX6_trim_36 rfl ?_
        refine x_aload_n (pc2 := 40) hC rfl rfl dX6_trim_39 rfl ?_
        refine x_iload_n (pc2 := 41) hC rfl rfl dX6_trim_40 rfl ?_
        refine x_if_ne (tgt := 48) (pc2 := 44) hC (by omega) dX6_trim_41 rfl rfl (fun h_41 => ?_) (fun h_41 => ?_)
        · refine x_iload_n (pc2 := 49) hC rfl rfl dX6_trim_48 rfl ?_
          refine p_136 (pc2 := 52) hC hK (by assumption) (by assumption) dX6_trim_49 rfl ?_
          exact x_vret hC hr hlk ⟨rfl, trim_fin h0 hk hm.2 hr0 hz (by first | exact Or.inl h_14 | exact Or.inr h_25) hs (by first | exact Or.inr ⟨h_41, rfl⟩ | exact Or.inl ⟨h_41, rfl⟩)⟩ dX6_trim_52
        · refine x_iconst (pc2 := 45) hC dX6_trim_44 rfl ?_
          refine x_goto (pc2 := 49) hC dX6_trim_45 rfl ?_
          refine p_136 (pc2 := 52) hC hK (by assumption) (by assumption) dX6_trim_49 rfl ?_
          exact x_vret hC hr hlk ⟨rfl, trim_fin h0 hk hm.2 hr0 hz (by first | exact Or.inl h_14 | exact Or.inr h_25) hs (by first | exact Or.inr ⟨h_41, rfl⟩ | exact Or.inl ⟨h_41, rfl⟩)⟩ dX6_trim_52
      · refine x_aload_n (pc2 := 18) hC rfl rfl dX6_trim_17 rfl ?_
        refine g_142 (pc2 := 21) hC hK (by assumption) (by assumption) (by assumption) dX6_trim_18 rfl ?_
        refine x_iload_n (pc2 := 22) hC rfl rfl dX6_trim_21 rfl ?_
        refine x_iconst (pc2 := 23) hC dX6_trim_22 rfl ?_
        refine x_isub (pc2 := 24) hC dX6_trim_23 rfl ?_
        refine x_iald (pc2 := 25) hC hK (by assumption) (by assumption) ⟨by omega, by omega⟩ (by decide) dX6_trim_24 rfl ?_
        refine x_if_ne (tgt := 34) (pc2 := 28) hC (by have := hr0 (k - 1) (by omega) (by omega); omega) dX6_trim_25 rfl rfl (fun h_25 => ?_) (fun h_25 => ?_)
        · refine x_aload_n (pc2 := 35) hC rfl rfl dX6_trim_34 rfl ?_
          refine x_iload_n (pc2 := 36) hC rfl rfl dX6_trim_35 rfl ?_
          refine p_140 (pc2 := 39) hC hK (by assumption) (by assumption) dX6_trim_36 rfl ?_
          refine x_aload_n (pc2 := 40) hC rfl rfl dX6_trim_39 rfl ?_
          refine x_iload_n (pc2 := 41) hC rfl rfl dX6_trim_40 rfl ?_
          refine x_if_ne (tgt := 48) (pc2 := 44) hC (by omega) dX6_trim_41 rfl rfl (fun h_41 => ?_) (fun h_41 => ?_)
          · refine x_iload_n (pc2 := 49) hC rfl rfl dX6_trim_48 rfl ?_
            refine p_136 (pc2 := 52) hC hK (by assumption) (by assumption) dX6_trim_49 rfl ?_
            exact x_vret hC hr hlk ⟨rfl, trim_fin h0 hk hm.2 hr0 hz (by first | exact Or.inl h_14 | exact Or.inr h_25) hs (by first | exact Or.inr ⟨h_41, rfl⟩ | exact Or.inl ⟨h_41, rfl⟩)⟩ dX6_trim_52
          · refine x_iconst (pc2 := 45) hC dX6_trim_44 rfl ?_
            refine x_goto (pc2 := 49) hC dX6_trim_45 rfl ?_
            refine p_136 (pc2 := 52) hC hK (by assumption) (by assumption) dX6_trim_49 rfl ?_
            exact x_vret hC hr hlk ⟨rfl, trim_fin h0 hk hm.2 hr0 hz (by first | exact Or.inl h_14 | exact Or.inr h_25) hs (by first | exact Or.inr ⟨h_41, rfl⟩ | exact Or.inl ⟨h_41, rfl⟩)⟩ dX6_trim_52
        · refine x_iinc (pc2 := 31) (loc2 := [_, _, _, _]) hC (by decide) rfl rfl dX6_trim_28 rfl ?_
          refine x_goto (pc2 := 13) hC dX6_trim_31 rfl ?_
          exact ih (k - 1) (by omega) (by omega) (by omega) (fun j h1 h2 => by by_cases e : j = k - 1; rw [e]; exact h_25; exact hz j (by omega) h2)
  refine x_iload_n (pc2 := 1) hC rfl rfl dX6_trim_0 rfl ?_
  refine x_bipush (pc2 := 3) hC rfl dX6_trim_1 rfl ?_
  refine x_icmp_ge (tgt := 10) (pc2 := 6) hC (by omega) (by omega) dX6_trim_3 rfl rfl (fun h_3 => ?_) (fun h_3 => ?_)
  · refine x_bipush (pc2 := 12) hC rfl dX6_trim_10 rfl ?_
    refine x_istore_n (pc2 := 13) (loc2 := [_, _, _, _]) hC rfl (by decide) rfl dX6_trim_12 rfl ?_
    exact loop (most.toNat + 1) _ (by omega) (by omega) (by omega) (fun j h1 h2 => by omega)
  · refine x_iload_n (pc2 := 7) hC rfl rfl dX6_trim_6 rfl ?_
    refine x_goto (pc2 := 12) hC dX6_trim_7 rfl ?_
    refine x_istore_n (pc2 := 13) (loc2 := [_, _, _, _]) hC rfl (by decide) rfl dX6_trim_12 rfl ?_
    exact loop (most.toNat + 1) _ (by omega) (by omega) (by omega) (fun j h1 h2 => by omega)
