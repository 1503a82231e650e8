/-! THE WORLD: every cell by its number k (its address is β + k), its shape sh k, and what it holds by R, F, A -/
def cR : Nat → String
  | 0 => RX0 | 1 => RX1 | 2 => RX2 | 3 => RX3 | 4 => RX4 | 5 => RX5 | 6 => RX6 | 7 => RX7 | _ => RX8
def cT : Nat → u_T
  | 0 => TX0 | 1 => TX1 | 2 => TX2 | 3 => TX3 | 4 => TX4 | 5 => TX5 | 6 => TX6 | 7 => TX7 | _ => TX8
def cN : Nat → Nat
  | 0 => 16 | 1 => 3 | 2 => 14 | 3 => 8 | 4 => 3 | 5 => 8 | 6 => 3 | 7 => 5 | _ => 19
def cty : Nat → Nat → FieldType
  | 0 => tyX0 | 1 => tyX1 | 2 => tyX2 | 3 => tyX3 | 4 => tyX4 | 5 => tyX5 | 6 => tyX6 | 7 => tyX7 | _ => tyX8
/-- a field's kind: 0 int, 1 long, 2 a reference that stays, 3 boolean, 4 a reference that changes -/
def fk (ci j : Nat) : Nat := match cty ci j with
  | .int => 0
  | .long => 1
  | .boolean => 3
  | _ => if ci = 3 ∧ (j = 5 ∨ j = 6) then 4 else 2
def cl9 : List vw_C := [(RX0, TX0, 16), (RX1, TX1, 3), (RX2, TX2, 14), (RX3, TX3, 8), (RX4, TX4, 3), (RX5, TX5, 8), (RX6, TX6, 3), (RX7, TX7, 5), (RX8, TX8, 19)]
theorem cl9_get {ci : Nat} (h : ci < 9) : cl9[ci]? = some (cR ci, cT ci, cN ci) := by
  rcases (show ci = 0 ∨ ci = 1 ∨ ci = 2 ∨ ci = 3 ∨ ci = 4 ∨ ci = 5 ∨ ci = 6 ∨ ci = 7 ∨ ci = 8 by omega) with rfl | rfl | rfl | rfl | rfl | rfl | rfl | rfl | rfl <;> rfl
theorem cty_ok {ci : Nat} (h : ci < 9) : ∀ k, k < cN ci → parseFieldDescriptor (cT ci k).2.2.1 = some (cty ci k) := by
  rcases (show ci = 0 ∨ ci = 1 ∨ ci = 2 ∨ ci = 3 ∨ ci = 4 ∨ ci = 5 ∨ ci = 6 ∨ ci = 7 ∨ ci = 8 by omega) with rfl | rfl | rfl | rfl | rfl | rfl | rfl | rfl | rfl
  · exact tyX0_ok
  · exact tyX1_ok
  · exact tyX2_ok
  · exact tyX3_ok
  · exact tyX4_ok
  · exact tyX5_ok
  · exact tyX6_ok
  · exact tyX7_ok
  · exact tyX8_ok
theorem cnm_ok {ci : Nat} (h : ci < 9) : ∀ a, a < cN ci → ∀ b, b < cN ci → a ≠ b → (cT ci a).2.1 ≠ (cT ci b).2.1 := by
  rcases (show ci = 0 ∨ ci = 1 ∨ ci = 2 ∨ ci = 3 ∨ ci = 4 ∨ ci = 5 ∨ ci = 6 ∨ ci = 7 ∨ ci = 8 by omega) with rfl | rfl | rfl | rfl | rfl | rfl | rfl | rfl | rfl
  · exact nmX0
  · exact nmX1
  · exact nmX2
  · exact nmX3
  · exact nmX4
  · exact nmX5
  · exact nmX6
  · exact nmX7
  · exact nmX8
theorem inX0 : ∀ w ∈ u_ws RX0 TX0 16, w ∈ TT := by
  intro w hw
  obtain ⟨k, hk, rfl⟩ := List.mem_map.mp hw
  have hk := List.mem_range.mp hk
  match k, hk with
  | 0, _ => exact wt_282
  | 1, _ => exact wt_284
  | 2, _ => exact wt_286
  | 3, _ => exact wt_288
  | 4, _ => exact wt_290
  | 5, _ => exact wt_292
  | 6, _ => exact wt_294
  | 7, _ => exact wt_296
  | 8, _ => exact wt_298
  | 9, _ => exact wt_300
  | 10, _ => exact wt_302
  | 11, _ => exact wt_304
  | 12, _ => exact wt_306
  | 13, _ => exact wt_308
  | 14, _ => exact wt_310
  | 15, _ => exact wt_312
  | k + 16, hk => exact absurd hk (by omega)
theorem inX1 : ∀ w ∈ u_ws RX1 TX1 3, w ∈ TT := by
  intro w hw
  obtain ⟨k, hk, rfl⟩ := List.mem_map.mp hw
  have hk := List.mem_range.mp hk
  match k, hk with
  | 0, _ => exact wt_168
  | 1, _ => exact wt_170
  | 2, _ => exact wt_172
  | k + 3, hk => exact absurd hk (by omega)
theorem inX2 : ∀ w ∈ u_ws RX2 TX2 14, w ∈ TT := by
  intro w hw
  obtain ⟨k, hk, rfl⟩ := List.mem_map.mp hw
  have hk := List.mem_range.mp hk
  match k, hk with
  | 0, _ => exact wt_340
  | 1, _ => exact wt_342
  | 2, _ => exact wt_344
  | 3, _ => exact wt_346
  | 4, _ => exact wt_348
  | 5, _ => exact wt_350
  | 6, _ => exact wt_352
  | 7, _ => exact wt_354
  | 8, _ => exact wt_356
  | 9, _ => exact wt_358
  | 10, _ => exact wt_360
  | 11, _ => exact wt_362
  | 12, _ => exact wt_364
  | 13, _ => exact wt_366
  | k + 14, hk => exact absurd hk (by omega)
theorem inX3 : ∀ w ∈ u_ws RX3 TX3 8, w ∈ TT := by
  intro w hw
  obtain ⟨k, hk, rfl⟩ := List.mem_map.mp hw
  have hk := List.mem_range.mp hk
  match k, hk with
  | 0, _ => exact wt_194
  | 1, _ => exact wt_196
  | 2, _ => exact wt_198
  | 3, _ => exact wt_200
  | 4, _ => exact wt_202
  | 5, _ => exact wt_204
  | 6, _ => exact wt_206
  | 7, _ => exact wt_208
  | k + 8, hk => exact absurd hk (by omega)
theorem inX4 : ∀ w ∈ u_ws RX4 TX4 3, w ∈ TT := by
  intro w hw
  obtain ⟨k, hk, rfl⟩ := List.mem_map.mp hw
  have hk := List.mem_range.mp hk
  match k, hk with
  | 0, _ => exact wt_230
  | 1, _ => exact wt_232
  | 2, _ => exact wt_234
  | k + 3, hk => exact absurd hk (by omega)
theorem inX5 : ∀ w ∈ u_ws RX5 TX5 8, w ∈ TT := by
  intro w hw
  obtain ⟨k, hk, rfl⟩ := List.mem_map.mp hw
  have hk := List.mem_range.mp hk
  match k, hk with
  | 0, _ => exact wt_106
  | 1, _ => exact wt_108
  | 2, _ => exact wt_110
  | 3, _ => exact wt_112
  | 4, _ => exact wt_114
  | 5, _ => exact wt_116
  | 6, _ => exact wt_118
  | 7, _ => exact wt_120
  | k + 8, hk => exact absurd hk (by omega)
theorem inX6 : ∀ w ∈ u_ws RX6 TX6 3, w ∈ TT := by
  intro w hw
  obtain ⟨k, hk, rfl⟩ := List.mem_map.mp hw
  have hk := List.mem_range.mp hk
  match k, hk with
  | 0, _ => exact wt_143
  | 1, _ => exact wt_145
  | 2, _ => exact wt_147
  | k + 3, hk => exact absurd hk (by omega)
theorem inX7 : ∀ w ∈ u_ws RX7 TX7 5, w ∈ TT := by
  intro w hw
  obtain ⟨k, hk, rfl⟩ := List.mem_map.mp hw
  have hk := List.mem_range.mp hk
  match k, hk with
  | 0, _ => exact wt_374
  | 1, _ => exact wt_376
  | 2, _ => exact wt_378
  | 3, _ => exact wt_380
  | 4, _ => exact wt_382
  | k + 5, hk => exact absurd hk (by omega)
theorem inX8 : ∀ w ∈ u_ws RX8 TX8 19, w ∈ TT := by
  intro w hw
  obtain ⟨k, hk, rfl⟩ := List.mem_map.mp hw
  have hk := List.mem_range.mp hk
  match k, hk with
  | 0, _ => exact wt_828
  | 1, _ => exact wt_830
  | 2, _ => exact wt_832
  | 3, _ => exact wt_834
  | 4, _ => exact wt_836
  | 5, _ => exact wt_838
  | 6, _ => exact wt_840
  | 7, _ => exact wt_842
  | 8, _ => exact wt_844
  | 9, _ => exact wt_846
  | 10, _ => exact wt_848
  | 11, _ => exact wt_850
  | 12, _ => exact wt_852
  | 13, _ => exact wt_854
  | 14, _ => exact wt_856
  | 15, _ => exact wt_858
  | 16, _ => exact wt_860
  | 17, _ => exact wt_862
  | 18, _ => exact wt_864
  | k + 19, hk => exact absurd hk (by omega)
theorem cin_ok {ci : Nat} (h : ci < 9) : ∀ w ∈ u_ws (cR ci) (cT ci) (cN ci), w ∈ TT := by
  rcases (show ci = 0 ∨ ci = 1 ∨ ci = 2 ∨ ci = 3 ∨ ci = 4 ∨ ci = 5 ∨ ci = 6 ∨ ci = 7 ∨ ci = 8 by omega) with rfl | rfl | rfl | rfl | rfl | rfl | rfl | rfl | rfl
  · exact inX0
  · exact inX1
  · exact inX2
  · exact inX3
  · exact inX4
  · exact inX5
  · exact inX6
  · exact inX7
  · exact inX8
/-- what a field holds -/
def fv (β : Nat) (R : Nat → Nat → Option Nat) (F : Nat → Nat → Int) (k kd j : Nat) : Value := match kd with
  | 0 => .int (Int32.ofInt (F k j))
  | 1 => .long (Int64.ofInt (F k j))
  | 2 => va_rf ((R k j).map (fun a => β + a))
  | 3 => .int (Int32.ofInt (F k j))
  | _ => if F k j < 0 then .null else .ref (β + (F k j).toNat)
def fvs (β : Nat) (R : Nat → Nat → Option Nat) (F : Nat → Nat → Int) (k ci : Nat) : List Value := (List.range (cN ci)).map (fun j => fv β R F k (fk ci j) j)
/-- shapes: (0, class), (1, length) ints, (2, length) longs, (3, length) Ratios, (4, length) Gausses -/
def celE (β : Nat) (ids : Nat → ClassId) (sh : Nat → Nat × Nat) (R : Nat → Nat → Option Nat) (F : Nat → Nat → Int) (A : Nat → Int → Int) (k : Nat) : va_E := match sh k with
  | (0, ci) => .inr (ci, fvs β R F k ci)
  | (1, n) => .inl (ids 0, n, .inl (fun j => Int32.ofInt (A k j)))
  | (2, n) => .inl (ids 1, n, .inr (.inl (fun j => Int64.ofInt (A k j))))
  | (3, n) => .inl (ids 2, n, .inr (.inr (.inr (.inr (fun j => (R k j).map (fun a => β + a))))))
  | (_, n) => .inl (ids 3, n, .inr (.inr (.inr (.inr (fun j => (R k j).map (fun a => β + a))))))
def mkW (β N : Nat) (E : Nat → va_E) : va_W := (List.range N).map (fun k => (β + k, E k))
theorem mkW_get {β N : Nat} {E : Nat → va_E} {k : Nat} (h : k < N) : (mkW β N E)[k]? = some (β + k, E k) := by
  simp [mkW, h]
theorem mkW_lt {β N : Nat} {E : Nat → va_E} {k : Nat} {q : Nat × va_E} (h : (mkW β N E)[k]? = some q) : k < N ∧ q = (β + k, E k) := by
  have hk : k < N := by
    have := (List.getElem?_eq_some_iff.mp h).1
    simpa [mkW] using this
  rw [mkW_get hk] at h
  exact ⟨hk, (Option.some.inj h).symm⟩
theorem mkW_set {β N : Nat} {E E' : Nat → va_E} {k : Nat} (hE : ∀ j, j ≠ k → E' j = E j) : (mkW β N E).set k (β + k, E' k) = mkW β N E' := by
  apply List.ext_getElem?
  intro j
  by_cases hj : j < N
  · by_cases hk : k = j
    · subst hk
      rw [List.getElem?_set_self (by simpa [mkW] using hj), mkW_get hj]
    · rw [List.getElem?_set_ne hk, mkW_get hj, mkW_get hj, hE j (fun q => hk q.symm)]
  · have h1 : (mkW β N E').length ≤ j := by simp [mkW]; omega
    have h2 : ((mkW β N E).set k (β + k, E' k)).length ≤ j := by simp [mkW]; omega
    rw [List.getElem?_eq_none h1, List.getElem?_eq_none h2]
theorem mkW_D {β N : Nat} {E : Nat → va_E} {G : Nat → Prop} (hG : ∀ k, k < N → G (β + k)) : va_D G (mkW β N E) := by
  refine ⟨fun i j p q hi hj h => ?_, fun k q h => ?_⟩
  · obtain ⟨-, rfl⟩ := mkW_lt hi
    obtain ⟨-, rfl⟩ := mkW_lt hj
    exact Nat.add_left_cancel h
  · obtain ⟨h1, rfl⟩ := mkW_lt h
    exact hG k h1
theorem mkW_ext {β N : Nat} {E E' : Nat → va_E} (h : ∀ k, k < N → E k = E' k) : mkW β N E = mkW β N E' := List.map_congr_left (fun k hk => by rw [h k (List.mem_range.mp hk)])
theorem mkW_succ {β N : Nat} {E : Nat → va_E} : mkW β (N + 1) E = mkW β N E ++ [(β + N, E N)] := by simp [mkW, List.range_succ]
def uF (F : Nat → Nat → Int) (k j : Nat) (v : Int) : Nat → Nat → Int := fun k' j' => if k' = k then (if j' = j then v else F k' j') else F k' j'
def uA (A : Nat → Int → Int) (k : Nat) (i v : Int) : Nat → Int → Int := fun k' i' => if k' = k then (if i' = i then v else A k' i') else A k' i'
def uR (R : Nat → Nat → Option Nat) (k j : Nat) (v : Option Nat) : Nat → Nat → Option Nat := fun k' j' => if k' = k then (if j' = j then v else R k' j') else R k' j'
theorem uF_ne {F : Nat → Nat → Int} {k j : Nat} {v : Int} {k' : Nat} (h : k' ≠ k) : uF F k j v k' = F k' := by funext j'; simp [uF, h]
theorem uF_eq {F : Nat → Nat → Int} {k j : Nat} {v : Int} : uF F k j v k j = v := by simp [uF]
theorem uF_nj {F : Nat → Nat → Int} {k j : Nat} {v : Int} {k' j' : Nat} (h : j' ≠ j) : uF F k j v k' j' = F k' j' := by simp [uF, h]
theorem uA_ne {A : Nat → Int → Int} {k : Nat} {i v : Int} {k' : Nat} (h : k' ≠ k) : uA A k i v k' = A k' := by funext j'; simp [uA, h]
theorem uA_eq {A : Nat → Int → Int} {k : Nat} {i v : Int} : uA A k i v k i = v := by simp [uA]
theorem uA_ni {A : Nat → Int → Int} {k : Nat} {i v : Int} {k' : Nat} {i' : Int} (h : i' ≠ i) : uA A k i v k' i' = A k' i' := by simp [uA, h]
theorem uA_at {A : Nat → Int → Int} {k : Nat} {i v i' : Int} : uA A k i v k i' = if i' = i then v else A k i' := by simp [uA]
theorem uR_ne {R : Nat → Nat → Option Nat} {k j : Nat} {v : Option Nat} {k' : Nat} (h : k' ≠ k) : uR R k j v k' = R k' := by funext j'; simp [uR, h]
theorem uR_eq {R : Nat → Nat → Option Nat} {k j : Nat} {v : Option Nat} : uR R k j v k j = v := by simp [uR]
theorem uR_nj {R : Nat → Nat → Option Nat} {k j : Nat} {v : Option Nat} {k' j' : Nat} (h : j' ≠ j) : uR R k j v k' j' = R k' j' := by simp [uR, h]
theorem fvs_get {β : Nat} {R : Nat → Nat → Option Nat} {F : Nat → Nat → Int} {k ci j : Nat} (h : j < cN ci) : (fvs β R F k ci)[j]? = some (fv β R F k (fk ci j) j) := by simp [fvs, h]
theorem fvs_len {β : Nat} {R : Nat → Nat → Option Nat} {F : Nat → Nat → Int} {k ci : Nat} : (fvs β R F k ci).length = cN ci := by simp [fvs]
theorem fv_uF {β : Nat} {R : Nat → Nat → Option Nat} {F : Nat → Nat → Int} {k j : Nat} {v : Int} {kd i : Nat} (h : i ≠ j) : fv β R (uF F k j v) k kd i = fv β R F k kd i := by
  simp [fv, uF_nj h]
theorem fv_uR {β : Nat} {R : Nat → Nat → Option Nat} {F : Nat → Nat → Int} {k j : Nat} {v : Option Nat} {kd i : Nat} (h : i ≠ j) : fv β (uR R k j v) F k kd i = fv β R F k kd i := by
  simp [fv, uR_nj h]
theorem fvs_set {β : Nat} {R R' : Nat → Nat → Option Nat} {F F' : Nat → Nat → Int} {k ci j : Nat} {v : Value} (hj : j < cN ci) (hv : fv β R' F' k (fk ci j) j = v) (ho : ∀ i kd, i ≠ j → fv β R' F' k kd i = fv β R F k kd i) : (fvs β R F k ci).set j v = fvs β R' F' k ci := by
  apply List.ext_getElem?
  intro i
  by_cases hi : i < cN ci
  · by_cases hk : j = i
    · subst hk
      rw [List.getElem?_set_self (by rw [fvs_len]; exact hi), fvs_get hi, hv]
    · rw [List.getElem?_set_ne hk, fvs_get hi, fvs_get hi, ho i _ (fun q => hk q.symm)]
  · rw [List.getElem?_eq_none (by rw [List.length_set, fvs_len]; omega), List.getElem?_eq_none (by rw [fvs_len]; omega)]
theorem celE_F {β : Nat} {ids : Nat → ClassId} {sh : Nat → Nat × Nat} {R : Nat → Nat → Option Nat} {F F' : Nat → Nat → Int} {A : Nat → Int → Int} {k : Nat} (h : F' k = F k) : celE β ids sh R F' A k = celE β ids sh R F A k := by
  unfold celE
  split <;> first | rfl | (simp only [fvs, fv, h])
theorem celE_A {β : Nat} {ids : Nat → ClassId} {sh : Nat → Nat × Nat} {R : Nat → Nat → Option Nat} {F : Nat → Nat → Int} {A A' : Nat → Int → Int} {k : Nat} (h : A' k = A k) : celE β ids sh R F A' k = celE β ids sh R F A k := by
  unfold celE
  split <;> first | rfl | (simp only [h])
theorem celE_R {β : Nat} {ids : Nat → ClassId} {sh : Nat → Nat × Nat} {R R' : Nat → Nat → Option Nat} {F : Nat → Nat → Int} {A : Nat → Int → Int} {k : Nat} (h : R' k = R k) : celE β ids sh R' F A k = celE β ids sh R F A k := by
  unfold celE
  split <;> first | rfl | (simp only [fvs, fv, h])
theorem celE_obj {β : Nat} {ids : Nat → ClassId} {sh : Nat → Nat × Nat} {R : Nat → Nat → Option Nat} {F : Nat → Nat → Int} {A : Nat → Int → Int} {k ci : Nat} (h : sh k = (0, ci)) : celE β ids sh R F A k = .inr (ci, fvs β R F k ci) := by
  unfold celE; rw [h]; try rfl
theorem celE_int {β : Nat} {ids : Nat → ClassId} {sh : Nat → Nat × Nat} {R : Nat → Nat → Option Nat} {F : Nat → Nat → Int} {A : Nat → Int → Int} {k n : Nat} (h : sh k = (1, n)) : celE β ids sh R F A k = .inl (ids 0, n, .inl (fun j => Int32.ofInt (A k j))) := by
  unfold celE; rw [h]; try rfl
theorem celE_long {β : Nat} {ids : Nat → ClassId} {sh : Nat → Nat × Nat} {R : Nat → Nat → Option Nat} {F : Nat → Nat → Int} {A : Nat → Int → Int} {k n : Nat} (h : sh k = (2, n)) : celE β ids sh R F A k = .inl (ids 1, n, .inr (.inl (fun j => Int64.ofInt (A k j)))) := by
  unfold celE; rw [h]; try rfl
theorem celE_ref {β : Nat} {ids : Nat → ClassId} {sh : Nat → Nat × Nat} {R : Nat → Nat → Option Nat} {F : Nat → Nat → Int} {A : Nat → Int → Int} {k n t : Nat} (h : sh k = (t + 3, n)) : ∃ i, (i = 2 ∨ i = 3) ∧ celE β ids sh R F A k = .inl (ids i, n, .inr (.inr (.inr (.inr (fun j => (R k j).map (fun a => β + a)))))) := by
  unfold celE; rw [h]; try rfl
  cases t with
  | zero => exact ⟨2, Or.inl rfl, rfl⟩
  | succ t => exact ⟨3, Or.inr rfl, rfl⟩
/-- the array classes -/
def tys4 (ids : Nat → ClassId) : List (ClassId × FieldType) := [(ids 0, .int), (ids 1, .long), (ids 2, .object "PortsBench$Ratio"), (ids 3, .object "PortsBench$Gauss")]
/-- the words of nest mates and of arrays of references, which are not handed on by the tables -/
def NW (U : State) : Prop := va_Nw (.methodLinkNest "PortsBench" 11 ⟨"PortsBench$Shelf", "<init>", "()V"⟩ "PortsBench") U ∧ va_Nw (.methodLinkNest "PortsBench$Acts" 11 ⟨"PortsBench$Whole", "<init>", "()V"⟩ "PortsBench") U ∧ va_Nw (.methodLinkNest "PortsBench$Gauss" 9 ⟨"PortsBench$Whole", "<init>", "()V"⟩ "PortsBench") U ∧ va_Nw (.methodLinkNest "PortsBench$Lowest" 26 ⟨"PortsBench$Whole", "<init>", "()V"⟩ "PortsBench") U ∧ va_Nw (.methodLinkNest "PortsBench$Judge" 11 ⟨"PortsBench$Whole", "<init>", "()V"⟩ "PortsBench") U ∧ va_Nw (.methodLinkNest "PortsBench$Shelf" 31 ⟨"PortsBench", "place", "(III)I"⟩ "PortsBench") U ∧ va_Nw (.methodLinkNest "PortsBench$Acts" 112 ⟨"PortsBench", "place", "(III)I"⟩ "PortsBench") U ∧ va_Nw (.methodLinkNest "PortsBench$Lowest" 69 ⟨"PortsBench", "place", "(III)I"⟩ "PortsBench") U ∧ va_AO "PortsBench$Ratio" U ∧ va_AO "PortsBench$Gauss" U
theorem NW.warm {s U : State} (hW : s.WarmedH U.vm) (h : NW s) : NW U := by
  obtain ⟨a1, a2, a3, a4, a5, a6, a7, a8, a9, a10⟩ := h
  exact ⟨va_Nw.warmM hW a1, va_Nw.warmM hW a2, va_Nw.warmM hW a3, va_Nw.warmM hW a4, va_Nw.warmM hW a5, va_Nw.warmM hW a6, va_Nw.warmM hW a7, va_Nw.warmM hW a8, va_AO.moved hW.alike a9, va_AO.moved hW.alike a10⟩
theorem NW.same {u U : State} (h : u.vm = U.vm) (q : NW u) : NW U := by
  obtain ⟨a1, a2, a3, a4, a5, a6, a7, a8, a9, a10⟩ := q
  exact ⟨va_Nw.same rfl h a1, va_Nw.same rfl h a2, va_Nw.same rfl h a3, va_Nw.same rfl h a4, va_Nw.same rfl h a5, va_Nw.same rfl h a6, va_Nw.same rfl h a7, va_Nw.same rfl h a8, va_AO.moved (h ▸ Vm.Alike.refl _) a9, va_AO.moved (h ▸ Vm.Alike.refl _) a10⟩
/-- what is known of the classes -/
def KN (D : va_G) (ids : Nat → ClassId) (U : State) : Prop := va_K D cl9 (tys4 ids) U ∧ NW U
theorem KN.warm {D : va_G} {ids : Nat → ClassId} {s U : State} (hW : s.WarmedH U.vm) (h : KN D ids s) : KN D ids U := ⟨va_K.moved hW.alike h.1, h.2.warm hW⟩
theorem KN.same {D : va_G} {ids : Nat → ClassId} {u U : State} (h : u.vm = U.vm) (q : KN D ids u) : KN D ids U := ⟨va_K.moved (h ▸ Vm.Alike.refl _) q.1, q.2.same h⟩
