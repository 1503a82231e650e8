/-! THE LAW'S LOOP -/
section LL
variable {p : Program} {e : Env} {s : State} {m : MethodId} {below : List Frame} {meth : Method} {c : Code} {b L : Nat} {xs : Nat → Int32} {D : va_G} {ids : Nat → ClassId}
set_option maxHeartbeats 4000000 in
theorem law_loop (l : Launch) (C0 : lw_At p s m meth c b L xs) (hK : KN D ids s) (hL : L ≤ 4096) : ∀ (d i : Nat) (S : SP) (F1 : Nat → Nat → Int) (A1 : Nat → Int → Int) (F2 : Nat → Nat → Int) (A2 : Nat → Int → Int) (H : Heap) (locs : List Loc) (ls : Array Slot), L - i < d → i ≤ 4096 → lv_has ls 4 (lL b s.heap.size i) → Jn D ids s S F1 A1 F2 A2 H locs → W p l e room_1 s m #[Value.ref b] below meth c H locs 398 407099 (lw_Z below #[Value.ref b] s) (F0 m 18 ls []) := by
  intro d
  induction d with
  | zero => intro i S F1 A1 F2 A2 H locs ls hd; omega
  | succ d ih =>
    intro i S F1 A1 F2 A2 H locs ls hd hi hl J
    obtain ⟨hx, hb, hr, hml, hown, hts, hX, hbl, hlocks, hgv⟩ := id C0
    have hS := J.2.2.2.2
    have hbA : ¬ inH s.heap.size b := Nat.not_le.mpr hbl
    refine lv_iload_n hx hb dL_18 rfl (lv_at hl 3 rfl) ?_
    refine lv_aload_n hx hb dL_19 rfl (lv_at hl 0 rfl) ?_
    refine va_slen hx hb hX hbl hbA hS dL_20 ?_
    refine lv_bipush (v := Int32.ofInt 8) hx hb dL_21 rfl ?_
    refine lv_isub hx hb dL_23 ?_
    rw [show Int32.ofNat L - Int32.ofInt 8 = Int32.ofInt ((L : Int) - 8) from (Int32.ofInt_sub (L : Int) 8).symm]
    refine lv_icmp_gt (tgt := 1072) hx hb dL_24 rfl (fun hgt => ?_) (fun hgt => ?_)
    · refine lv_iconst (v := 1) hx hb dL_1072 rfl ?_
      refine va_forget (fun q hq => hS.2.2 q hq) ?_
      refine W.widen (k := 600000) (n := 7302250) (Nat.le_of_ble_eq_true rfl) (Nat.le_of_ble_eq_true rfl) ?_
      exact lw_ret hx hb hr hlocks dL_1073
    · have hi8 : i + 8 ≤ L := by
        rw [i32_lt ⟨by omega, by omega⟩ ⟨by omega, by omega⟩] at hgt
        omega
      have next : ∀ (S : SP) (F1 : Nat → Nat → Int) (A1 : Nat → Int → Int) (F2 : Nat → Nat → Int) (A2 : Nat → Int → Int) (H : Heap) (locs : List Loc), Jn D ids s S F1 A1 F2 A2 H locs → W p l e room_1 s m #[Value.ref b] below meth c H locs 398 407099 (lw_Z below #[Value.ref b] s) (F0 m 1066 ls []) := by
        intro S F1 A1 F2 A2 H locs J
        refine lv_iinc (k := 3) (v := Int32.ofInt ((i + 8 : Nat) : Int)) hx hb dL_1066 hl rfl (by rw [← Int32.ofInt_add]; rfl) (by decide) rfl (fun ls2 hl2 => ?_)
        refine lv_goto (tgt := 18) hx hb dL_1069 rfl ?_
        exact ih (i + 8) S F1 A1 F2 A2 H locs ls2 (by omega) (by omega) (lv_sub hl2 [1, 2, 3, 0] rfl) J
      refine lv_aload_n hx hb dL_27 rfl (lv_at hl 0 rfl) ?_
      refine lv_iload_n hx hb dL_28 rfl (lv_at hl 3 rfl) ?_
      refine va_sld hx hb hX hbl hbA hS (i32_inI (x := (i : Int)) (by omega) (by omega) (by omega)) dL_29 ?_
      refine lv_bipush (v := Int32.ofInt 31) hx hb dL_30 rfl ?_
      refine lv_iand hx hb dL_32 ?_
      generalize xs (Int32.ofInt (i : Int)).toNatClampNeg &&& Int32.ofInt 31 = v
      by_cases hv : v.toInt < 0 ∨ 20 < v.toInt
      · exact lv_tableOut (tgt := 1066) hx hb dL_33 hv rfl (next S F1 A1 F2 A2 H locs J)
      · have hv2 : v.toInt = 0 ∨ v.toInt = 1 ∨ v.toInt = 2 ∨ v.toInt = 3 ∨ v.toInt = 4 ∨ v.toInt = 5 ∨ v.toInt = 6 ∨ v.toInt = 7 ∨ v.toInt = 8 ∨ v.toInt = 9 ∨ v.toInt = 10 ∨ v.toInt = 11 ∨ v.toInt = 12 ∨ v.toInt = 13 ∨ v.toInt = 14 ∨ v.toInt = 15 ∨ v.toInt = 16 ∨ v.toInt = 17 ∨ v.toInt = 18 ∨ v.toInt = 19 ∨ v.toInt = 20 := by omega
        rcases hv2 with h | h | h | h | h | h | h | h | h | h | h | h | h | h | h | h | h | h | h | h | h
        · refine lv_tableIn (off := 99) (tgt := 132) hx hb dL_33 (by omega) (by omega) (by rw [h]; rfl) rfl ?_
          exact lc_0 l C0 hK hL hi8 hl J next
        · refine lv_tableIn (off := 122) (tgt := 155) hx hb dL_33 (by omega) (by omega) (by rw [h]; rfl) rfl ?_
          exact lc_1 l C0 hK hL hi8 hl J next
        · refine lv_tableIn (off := 209) (tgt := 242) hx hb dL_33 (by omega) (by omega) (by rw [h]; rfl) rfl ?_
          exact lc_2 l C0 hK hL hi8 hl J next
        · refine lv_tableIn (off := 284) (tgt := 317) hx hb dL_33 (by omega) (by omega) (by rw [h]; rfl) rfl ?_
          exact lc_3 l C0 hK hL hi8 hl J next
        · refine lv_tableIn (off := 317) (tgt := 350) hx hb dL_33 (by omega) (by omega) (by rw [h]; rfl) rfl ?_
          exact lc_4 l C0 hK hL hi8 hl J next
        · refine lv_tableIn (off := 360) (tgt := 393) hx hb dL_33 (by omega) (by omega) (by rw [h]; rfl) rfl ?_
          exact lc_5 l C0 hK hL hi8 hl J next
        · refine lv_tableIn (off := 413) (tgt := 446) hx hb dL_33 (by omega) (by omega) (by rw [h]; rfl) rfl ?_
          exact lc_6 l C0 hK hL hi8 hl J next
        · refine lv_tableIn (off := 446) (tgt := 479) hx hb dL_33 (by omega) (by omega) (by rw [h]; rfl) rfl ?_
          exact lc_7 l C0 hK hL hi8 hl J next
        · refine lv_tableIn (off := 489) (tgt := 522) hx hb dL_33 (by omega) (by omega) (by rw [h]; rfl) rfl ?_
          exact lc_8 l C0 hK hL hi8 hl J next
        · refine lv_tableIn (off := 532) (tgt := 565) hx hb dL_33 (by omega) (by omega) (by rw [h]; rfl) rfl ?_
          exact lc_9 l C0 hK hL hi8 hl J next
        · refine lv_tableIn (off := 575) (tgt := 608) hx hb dL_33 (by omega) (by omega) (by rw [h]; rfl) rfl ?_
          exact lc_10 l C0 hK hL hi8 hl J next
        · refine lv_tableIn (off := 618) (tgt := 651) hx hb dL_33 (by omega) (by omega) (by rw [h]; rfl) rfl ?_
          exact lc_11 l C0 hK hL hi8 hl J next
        · refine lv_tableIn (off := 671) (tgt := 704) hx hb dL_33 (by omega) (by omega) (by rw [h]; rfl) rfl ?_
          exact lc_12 l C0 hK hL hi8 hl J next
        · refine lv_tableIn (off := 684) (tgt := 717) hx hb dL_33 (by omega) (by omega) (by rw [h]; rfl) rfl ?_
          exact lc_13 l C0 hK hL hi8 hl J next
        · refine lv_tableIn (off := 707) (tgt := 740) hx hb dL_33 (by omega) (by omega) (by rw [h]; rfl) rfl ?_
          exact lc_14 l C0 hK hL hi8 hl J next
        · refine lv_tableIn (off := 771) (tgt := 804) hx hb dL_33 (by omega) (by omega) (by rw [h]; rfl) rfl ?_
          exact lc_15 l C0 hK hL hi8 hl J next
        · refine lv_tableIn (off := 804) (tgt := 837) hx hb dL_33 (by omega) (by omega) (by rw [h]; rfl) rfl ?_
          exact lc_16 l C0 hK hL hi8 hl J next
        · refine lv_tableIn (off := 847) (tgt := 880) hx hb dL_33 (by omega) (by omega) (by rw [h]; rfl) rfl ?_
          exact lc_17 l C0 hK hL hi8 hl J next
        · refine lv_tableIn (off := 934) (tgt := 967) hx hb dL_33 (by omega) (by omega) (by rw [h]; rfl) rfl ?_
          exact lc_18 l C0 hK hL hi8 hl J next
        · refine lv_tableIn (off := 977) (tgt := 1010) hx hb dL_33 (by omega) (by omega) (by rw [h]; rfl) rfl ?_
          exact lc_19 l C0 hK hL hi8 hl J next
        · refine lv_tableIn (off := 1010) (tgt := 1043) hx hb dL_33 (by omega) (by omega) (by rw [h]; rfl) rfl ?_
          exact lc_20 l C0 hK hL hi8 hl J next
end LL
set_option maxHeartbeats 4000000 in
/-- from the entry, for every script of at most 4096 ints, the law comes to its end with true ('hflags': the launch's flags, for a law that throws: no stack traces) -/
theorem whole_start {p : Program} {e : Env} {s : State} {m : MethodId} {below : List Frame} {meth : Method} {c : Code} (l : Launch) (hflags : l.flags = flags0) {b L : Nat} {xs : Nat → Int32} (hL : L ≤ 4096) (C0 : lw_At p s m meth c b L xs) : W p l e room_1 s m #[Value.ref b] below meth c s.heap [] 0 0 (lw_Z below #[Value.ref b] s) (entryFrame m ([Value.ref b] : List Value).toArray 4) := by
  obtain ⟨hx, hb, hr, hml, hown, hts, hX, hbl, hlocks, hgv⟩ := id C0
  obtain ⟨D, ids, hK⟩ := law_KN hts
  have hl := lv_entry ([.ref b]) (n := 4) (Nat.le_of_ble_eq_true rfl)
  rw [lg_entry_eq]
  generalize (lg_sl ([.ref b]) ++ List.replicate (4 - (lg_sl ([.ref b])).length) Slot.unset).toArray = ls at hl ⊢
  have hl : lv_has ls 4 [(0, .ref b)] := hl
  have hC := law_C C0
  refine w_new (ci := 7) (β := s.heap.size) (N := 0) (E := fun _ => .inr (0, [])) (R2 := mR RC 0 0) (F2 := F00) (nc2 := 1) (ns2 := 5) hC hK rfl rfl (by decide) rfl wt_79 wt_80 wt_68 (fun k x hx => by simp [mkW] at hx) va_S.rf (fun j => by rw [mR_o]; rfl) (fun j hj => rfl) rfl rfl (Nat.le_of_ble_eq_true rfl) (Nat.le_of_ble_eq_true rfl) dL_0 (fun H1 _ hP hS => ?_)
  have hP1 : va_P D cl9 (mkW s.heap.size 1 (celE s.heap.size ids shC (mR RC 0 0) F00 A00)) H1 := by
    have e : mkW s.heap.size 1 (celE s.heap.size ids shC (mR RC 0 0) F00 A00) = [(s.heap.size + 0, celE s.heap.size ids shC (mR RC 0 0) F00 A00 0)] := rfl
    rw [e, celE_obj (show shC 0 = (0, 7) from rfl)]
    exact hP
  refine lv_dup hx hb dL_3 rfl ?_
  refine w_cI (β := s.heap.size) (N := 1) (N3 := 386) (b := 0) (av := []) (stk := [.ref (s.heap.size + 0)]) (nc2 := 386) (ns2 := 17064) hC hK (k_bench l PbN_C (fun _ _ => rfl) hw00 rfl) ⟨Or.inl wt_81, wt_82, wt_68, wt_83, rfl, by decide +kernel, by decide +kernel, by decide +kernel⟩ rfl ⟨Nat.le_of_ble_eq_true rfl, Nat.le_of_ble_eq_true rfl⟩ rfl rfl ⟨Nat.le_of_ble_eq_true rfl, Nat.le_of_ble_eq_true rfl⟩ (fun T hT X0 => hsize rfl (Nat.le_refl _) (fun h => absurd h (by decide)) hP1 hS.1 hT X0) hP1 hS (Nat.le_refl _) hl.1 rfl (Nat.le_of_ble_eq_true rfl) dL_4 ?_
  intro F1 A1 H2 locs2 hR1 hPb hS2 _
  refine lv_astore_n (lv' := [(1, .ref s.heap.size), (0, .ref b)]) hx hb dL_7 rfl hl (by decide) rfl (fun ls hl => ?_)
  refine w_new (ci := 8) (β := s.heap.size) (N := 386) (E := celE s.heap.size ids shC RC F1 A1) (R2 := mR RM 0 0) (F2 := fun _ _ => 0) (nc2 := 387) (ns2 := 17083) hC hK rfl rfl (by decide) rfl wt_802 wt_803 wt_76 hPb hS2 (fun j => by rw [mR_o]; rfl) (fun j hj => (dF0 (by decide)).symm) rfl rfl (Nat.le_of_ble_eq_true rfl) (Nat.le_of_ble_eq_true rfl) dL_8 (fun H3 hPb3 hPm hS3 => ?_)
  have hPm1 : va_P D cl9 (mkW (s.heap.size + 386) 1 (celE (s.heap.size + 386) ids shM (mR RM 0 0) (fun _ _ => 0) A00)) H3 := by
    have e : mkW (s.heap.size + 386) 1 (celE (s.heap.size + 386) ids shM (mR RM 0 0) (fun _ _ => 0) A00) = [(s.heap.size + 386 + 0, celE (s.heap.size + 386) ids shM (mR RM 0 0) (fun _ _ => 0) A00 0)] := rfl
    rw [e, celE_obj (show shM 0 = (0, 8) from rfl)]
    exact hPm
  refine lv_dup hx hb dL_11 rfl ?_
  refine w_cI (β := s.heap.size + 386) (N := 1) (N3 := 12) (b := 0) (av := []) (stk := [.ref (s.heap.size + 386)]) (nc2 := 398) (ns2 := 407099) hC hK (k_model l MdN_M (fun _ => rfl) (fun _ _ => rfl)) ⟨Or.inl wt_804, wt_805, wt_76, wt_806, rfl, by decide +kernel, by decide +kernel, by decide +kernel⟩ rfl ⟨Nat.le_of_ble_eq_true rfl, Nat.le_of_ble_eq_true rfl⟩ rfl rfl ⟨Nat.le_of_ble_eq_true rfl, Nat.le_of_ble_eq_true rfl⟩ (fun T hT X0 => hsize rfl (Nat.le_add_right _ _) (fun h => absurd h (by decide)) hPm1 hS3.1 hT X0) hPm1 hS3 (Nat.le_add_right _ _) hl.1 rfl (Nat.le_of_ble_eq_true rfl) dL_12 ?_
  intro F2 A2 H4 locs4 hR2 hPm4 hS4 same4
  have hPb4 := kept_of hPb3 (fun k hk => same4 _ (hPb3 k _ (mkW_get hk)).lt (fun q => by have : s.heap.size + 386 ≤ s.heap.size + k := q; omega))
  refine lv_astore_n (lv' := [(2, .ref (s.heap.size + 386)), (1, .ref s.heap.size), (0, .ref b)]) hx hb dL_15 rfl hl (by decide) rfl (fun ls hl => ?_)
  refine lv_iconst (v := Int32.ofInt ((0 : Nat) : Int)) hx hb dL_16 rfl ?_
  refine lv_istore_n (lv' := [(3, .int (Int32.ofInt ((0 : Nat) : Int))), (2, .ref (s.heap.size + 386)), (1, .ref s.heap.size), (0, .ref b)]) hx hb dL_17 rfl hl (by decide) rfl (fun ls hl => ?_)
  exact law_loop l C0 hK hL (L + 1) 0 S00 F1 A1 F2 A2 H4 locs4 ls (by omega) (by omega) (lv_sub hl [3, 2, 1, 0] rfl) ⟨hR1, hR2, hPb4, hPm4, hS4⟩
set_option maxHeartbeats 4000000 in
theorem lw_walk (l : Launch) (hflags : l.flags = flags0) (b : Addr) (xs : List Int32) : MetFree l x (headSpec (Jvm.Cond.code x code maxLocals ret :: tables_1) room_1) (lw_P b xs) (fun _ _ _ _ _ => True) lw_Q := by
  refine MetFree.of_bodyS (code := code) (maxLocals := maxLocals) (ret := ret) (by decide) ?_ ?_
  · intro args s m h hn
    obtain ⟨meth, c, h1, h2, h3, h4, h5, h6, -, -⟩ := Cond.code_spec hn (atoms_spec (ws := Jvm.Cond.code x code maxLocals ret :: tables_1) h _ List.mem_cons_self)
    exact ⟨meth, c, h1, h2, h3, h4, h5, h6⟩
  · intro p e s m args below meth c s₁ B hml0 hP _
    obtain ⟨rfl, hx, hbd, hgv⟩ := hP
    obtain ⟨scr, harrAt, hlist, hof, hsmall⟩ := hx
    obtain ⟨hcb, hkn, -, -⟩ := State.arrayAt?_spec harrAt
    have hown : s.vm.findClass R_law = some m.cls := findClass_of_methodNamed B.named
    have hts0 : ∀ c ∈ (Jvm.Cond.code x code maxLocals ret :: tables_1), c.before #[Value.ref b] s = true := atoms_spec (ws := Jvm.Cond.code x code maxLocals ret :: tables_1) B.pre
    have hts : ∀ w ∈ lw_tbl, w.before #[Value.ref b] s = true := k2_hts_sels lw_privs (fun w hw => hts0 w (List.mem_cons_of_mem _ hw)) lw_privs_ok
    have hml : c.maxLocals = 4 := B.maxLocals_eq (hts0 _ List.mem_cons_self)
    have X₀ : Stand p l e room_1 s m #[Value.ref b] below meth c s₁ [] 0 0 := Stand.of_body B
    have hh0 : s₁.heap = s.heap := by rw [B.state]; rfl
    have hsz : scr.slots.size = xs.length := by rw [← Array.length_toList, hlist, List.length_map]
    have hval : ∀ j : Nat, j < xs.length → scr.slots[j]? = some (.int (xs.getD j 0)) := fun j hj => by
      rw [← Array.getElem?_toList, hlist]
      simp [hj]
    have hbl : b < s.heap.size := (Array.getElem?_eq_some_iff.mp hcb).1
    have hX : va_X b xs.length (fun j => xs.getD j 0) s s.heap := ⟨scr, hcb, hof, hkn, hsz, hval⟩
    have K : W p l e room_1 s m #[Value.ref b] below meth c s₁.heap [] 0 0 (lw_Z below #[Value.ref b] s) (entryFrame m ([Value.ref b] : List Value).toArray 4) := by
      rw [hh0]
      exact whole_start l hflags hbd ⟨B.exec, B.bytes, B.returns, hml, hown, hts, hX, hbl, B.notSynchronized, hgv⟩
    obtain ⟨t, a1, o, b1, b2, b3⟩ := K s₁ rfl X₀
    exact ⟨t, o, a1, b1, b2, b3⟩
theorem lw_pre_spec {args : Array Value} {s : State} (h : (Jvm.Cond.and given_1 narrow_1).before args s = true) (hr : rest_1_c.before args s = true) : ∃ (b : Addr) (xs : List Int32), lw_P b xs args s := by
  have hs := flat_of_before _ h
  have hq := flat_of_before _ hr
  have hc : (Cond.count 1).before args s = true := hs _ (by decide +kernel)
  have harr : (Cond.arrayOf (.arg 0) .int).before args s = true := hs _ (by decide +kernel)
  have hle : (Cond.le (.length (.arg 0)) (.int 4096)).before args s = true := hs _ (by decide +kernel)
  have hlen : (Cond.isInt (.length (.arg 0))).before args s = true := hq _ (by decide +kernel)
  have hall : (Cond.all (.arg 0) (.isInt (.elem (.arg 0) (.index 0)))).before args s = true := hq _ (by decide +kernel)
  obtain ⟨b, xs, hb, hx⟩ := State.ints_of_pre rfl harr hlen hall
  have hsm : xs.length < 2 ^ 31 := hx.choose_spec.2.2.2
  have hev : (Term.length (.arg 0)).eval args s none [] s = some (.int xs.length.toInt32) := hx.length_eval hb
  have hv := Cond.le_ints hev (show (Term.int 4096).eval args s none [] s = some (.int 4096) from rfl)
  have hd : xs.length.toInt32 ≤ 4096 := by
    simpa [Cond.before, Cond.holds, hv] using hle
  have hN : xs.length ≤ 4096 := (Int32.ofNat_le_ofNat hsm (by decide)).mp (show Int32.ofNat xs.length ≤ Int32.ofNat 4096 from hd)
  exact ⟨b, xs, Cond.one_arg hc (show args[0]? = some (.ref b) from hb), hx, hN, h⟩
theorem lw_comes (l : Launch) (hflags : l.flags = flags0) : Comes l x (Jvm.Cond.code x code maxLocals ret :: tables_1) room_1 (fun tb e args s => Calls_1 tb e args s ∧ rest_1 tb e args s ∧ Pre_1 tb e args s)
    (fun _ _ args s o t => lw_Q args s o t) := by
  intro p e ha hc hk s m args below hf hfit hheap happ hpre
  obtain ⟨b, xs, hP⟩ := lw_pre_spec hpre.2.2 hpre.2.1
  obtain ⟨k, o, h1, h2, h3, hQ⟩ := lw_walk l hflags b xs p e ha hc hk s m args below hf ((Spec.applies_iff_loose hf).mp happ).1 hP trivial
  exact ⟨k, o, h1, h2, h3, hQ⟩
theorem lw_frame {s t : State} {o : Outcome} {args : Array Value} (h : Framed s o t [] 600000 7302250) :
    Framed s o t (fieldLocs frame_1_writes args s ++ arrayLocs frame_1_arrays args s ++ staticLocs frame_1_statics s) 600000 7302250 := h
theorem lw_limb (L : Cond) (hL : ∀ (args : Array Value) (s t : State), L.after args s (.returned (some (.int 1))) t = true) :
    ArmFor flags0 classFile x code maxLocals ret World_1 tables_1 room_1 Calls_1 rest_1 Pre_1
      (fun tb e a s o t => postC L tb e a s o t ∧ Framed s o t (fieldLocs frame_1_writes a s ++ arrayLocs frame_1_arrays a s ++ staticLocs frame_1_statics s) 600000 7302250) := by
  intro l hflags _ _ p e ha hc hk s m args below hf hfit hheap happ hpre
  obtain ⟨k, o, h1, h2, h3, rfl, hF⟩ := lw_comes l hflags p e ha hc hk s m args below hf hfit hheap happ hpre
  exact ⟨k, _, h1, h2, h3, hL args s _, lw_frame hF⟩
theorem i_vc : Claimed_1_1 ∧ Claimed_1_2 := ⟨lw_limb limb_1_1 (fun args s t => by simp [limb_1_1, Cond.after, Cond.holds, Cond.value]), lw_limb limb_1_2 (fun args s t => Cond.after_iff.mpr (by
  first | (rw [show limb_1_2 = Cond.eq .result (.int 1) from rfl, Cond.eq_ints (x := 1) (y := 1) rfl rfl]; simp; done) | (simp [limb_1_2, Cond.value, Term.eval]; done)))⟩
