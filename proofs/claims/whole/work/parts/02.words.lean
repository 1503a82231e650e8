
/-- the words that may be handed on to a callee -/
def TT : List Cond := lw_tbl.filter goodWord
theorem TT_mem {w : Cond} (i : Nat) (h : lw_tbl[i]? = some w) (hg : goodWord w = true) : w ∈ TT := List.mem_filter.mpr ⟨List.mem_of_getElem? h, hg⟩
theorem TT_m0 {w : Cond} (i : Nat) (h : (k2_sels lw_privs)[i]? = some w) (hg : goodWord w = true) : w ∈ TT := List.mem_filter.mpr ⟨List.mem_append_left _ (List.mem_of_getElem? h), hg⟩
theorem TT_m1 {w : Cond} (i : Nat) (h : tables_1_1[i]? = some w) (hg : goodWord w = true) : w ∈ TT := List.mem_filter.mpr ⟨List.mem_append_right _ (List.mem_append_left _ (List.mem_of_getElem? h)), hg⟩
theorem TT_m2 {w : Cond} (i : Nat) (h : tables_1_2[i]? = some w) (hg : goodWord w = true) : w ∈ TT := List.mem_filter.mpr ⟨List.mem_append_right _ (List.mem_append_right _ (List.mem_append_left _ (List.mem_of_getElem? h))), hg⟩
theorem TT_m3 {w : Cond} (i : Nat) (h : tables_1_3[i]? = some w) (hg : goodWord w = true) : w ∈ TT := List.mem_filter.mpr ⟨List.mem_append_right _ (List.mem_append_right _ (List.mem_append_right _ (List.mem_append_left _ (List.mem_of_getElem? h)))), hg⟩
theorem TT_m4 {w : Cond} (i : Nat) (h : tables_1_4[i]? = some w) (hg : goodWord w = true) : w ∈ TT := List.mem_filter.mpr ⟨List.mem_append_right _ (List.mem_append_right _ (List.mem_append_right _ (List.mem_append_right _ (List.mem_append_left _ (List.mem_of_getElem? h))))), hg⟩
theorem TT_m5 {w : Cond} (i : Nat) (h : tables_1_5[i]? = some w) (hg : goodWord w = true) : w ∈ TT := List.mem_filter.mpr ⟨List.mem_append_right _ (List.mem_append_right _ (List.mem_append_right _ (List.mem_append_right _ (List.mem_append_right _ (List.mem_of_getElem? h))))), hg⟩
theorem TT_good : GoodIn TT TT := fun w h => ⟨h, good_of_word (List.mem_filter.mp h).2⟩
theorem TT_cons {w : Cond} (h : w ∈ TT) : GoodIn TT (w :: TT) := fun v hv => by
  rcases List.mem_cons.mp hv with rfl | hv
  · exact TT_good _ h
  · exact TT_good _ hv
theorem TT_in : ∀ w ∈ TT, w ∈ lw_tbl := fun w h => (List.mem_filter.mp h).1
theorem wt_0 : Cond.selects "PortsBench$Acts" (⟨"PortsBench$Acts", "loadBox", "([LPortsBench$Ratio;IIZ)V"⟩ : Jvm.MethodName) (⟨"PortsBench$Acts", "loadBox", "([LPortsBench$Ratio;IIZ)V"⟩ : Jvm.MethodName) ∈ TT := TT_m0 0 rfl rfl
theorem wt_1 : Cond.selects "PortsBench$Lowest" (⟨"PortsBench$Lowest", "share", "(LPortsBench$Whole;I)Z"⟩ : Jvm.MethodName) (⟨"PortsBench$Lowest", "share", "(LPortsBench$Whole;I)Z"⟩ : Jvm.MethodName) ∈ TT := TT_m0 1 rfl rfl
theorem wt_2 : Cond.selects "PortsBench$Lowest" (⟨"PortsBench$Lowest", "swap", "()V"⟩ : Jvm.MethodName) (⟨"PortsBench$Lowest", "swap", "()V"⟩ : Jvm.MethodName) ∈ TT := TT_m0 2 rfl rfl
theorem wt_3 : Cond.selects "PortsBench$Lowest" (⟨"PortsBench$Lowest", "shareByHeads", "()Z"⟩ : Jvm.MethodName) (⟨"PortsBench$Lowest", "shareByHeads", "()Z"⟩ : Jvm.MethodName) ∈ TT := TT_m0 3 rfl rfl
theorem wt_4 : Cond.selects "PortsBench$Whole" (⟨"PortsBench$Whole", "divideShort", "(I)J"⟩ : Jvm.MethodName) (⟨"PortsBench$Whole", "divideShort", "(I)J"⟩ : Jvm.MethodName) ∈ TT := TT_m0 4 rfl rfl
theorem wt_5 : Cond.selects "PortsBench$Whole" (⟨"PortsBench$Whole", "multiplyShort", "(II)V"⟩ : Jvm.MethodName) (⟨"PortsBench$Whole", "multiplyShort", "(II)V"⟩ : Jvm.MethodName) ∈ TT := TT_m0 5 rfl rfl
theorem wt_6 : Cond.selects "PortsBench$Whole" (⟨"PortsBench$Whole", "divideLimb", "(LPortsBench$Whole;II)I"⟩ : Jvm.MethodName) (⟨"PortsBench$Whole", "divideLimb", "(LPortsBench$Whole;II)I"⟩ : Jvm.MethodName) ∈ TT := TT_m0 6 rfl rfl
theorem wt_7 : Cond.selects "PortsBench$Whole" (⟨"PortsBench$Whole", "addShifted", "(LPortsBench$Whole;IIJ)J"⟩ : Jvm.MethodName) (⟨"PortsBench$Whole", "addShifted", "(LPortsBench$Whole;IIJ)J"⟩ : Jvm.MethodName) ∈ TT := TT_m0 7 rfl rfl
theorem wt_8 : Cond.selects "PortsBench$Lowest" (⟨"PortsBench$Lowest", "writePart", "(LPortsBench$Whole;I)Z"⟩ : Jvm.MethodName) (⟨"PortsBench$Lowest", "writePart", "(LPortsBench$Whole;I)Z"⟩ : Jvm.MethodName) ∈ TT := TT_m0 8 rfl rfl
theorem wt_9 : Cond.selects "PortsBench" (⟨"PortsBench", "refuse", "(II)I"⟩ : Jvm.MethodName) (⟨"PortsBench", "refuse", "(II)I"⟩ : Jvm.MethodName) ∈ TT := TT_m0 9 rfl rfl
theorem wt_10 : Cond.selects "PortsBench" (⟨"PortsBench", "finish", "(I)I"⟩ : Jvm.MethodName) (⟨"PortsBench", "finish", "(I)I"⟩ : Jvm.MethodName) ∈ TT := TT_m0 10 rfl rfl
theorem wt_11 : Cond.selects "PortsBench" (⟨"PortsBench", "hasThreeOfOnePort", "(I)Z"⟩ : Jvm.MethodName) (⟨"PortsBench", "hasThreeOfOnePort", "(I)Z"⟩ : Jvm.MethodName) ∈ TT := TT_m0 11 rfl rfl
theorem wt_12 : Cond.selects "PortsBench$Acts" (⟨"PortsBench$Acts", "setDeterminant", "(LPortsBench$Gauss;III)V"⟩ : Jvm.MethodName) (⟨"PortsBench$Acts", "setDeterminant", "(LPortsBench$Gauss;III)V"⟩ : Jvm.MethodName) ∈ TT := TT_m0 12 rfl rfl
theorem wt_13 : Cond.selects "PortsBench" (⟨"PortsBench", "holds", "(III)Z"⟩ : Jvm.MethodName) (⟨"PortsBench", "holds", "(III)Z"⟩ : Jvm.MethodName) ∈ TT := TT_m0 13 rfl rfl
theorem wt_14 : Cond.selects "PortsBench$Judge" (⟨"PortsBench$Judge", "setSizes", "(LPortsBench$Ratio;LPortsBench$Ratio;)V"⟩ : Jvm.MethodName) (⟨"PortsBench$Judge", "setSizes", "(LPortsBench$Ratio;LPortsBench$Ratio;)V"⟩ : Jvm.MethodName) ∈ TT := TT_m0 14 rfl rfl
theorem wt_15 : Cond.selects "PortsBench$Judge" (⟨"PortsBench$Judge", "setLack", "(LPortsBench$Whole;)V"⟩ : Jvm.MethodName) (⟨"PortsBench$Judge", "setLack", "(LPortsBench$Whole;)V"⟩ : Jvm.MethodName) ∈ TT := TT_m0 15 rfl rfl
theorem wt_16 : Cond.selects "PortsBench$Judge" (⟨"PortsBench$Judge", "setCrossing", "()V"⟩ : Jvm.MethodName) (⟨"PortsBench$Judge", "setCrossing", "()V"⟩ : Jvm.MethodName) ∈ TT := TT_m0 16 rfl rfl
theorem wt_17 : Cond.selects "PortsBenchModel" (⟨"PortsBenchModel", "isPlace", "(III)Z"⟩ : Jvm.MethodName) (⟨"PortsBenchModel", "isPlace", "(III)Z"⟩ : Jvm.MethodName) ∈ TT := TT_m0 17 rfl rfl
theorem wt_18 : Cond.selects "PortsBenchModel" (⟨"PortsBenchModel", "isBox", "(I)Z"⟩ : Jvm.MethodName) (⟨"PortsBenchModel", "isBox", "(I)Z"⟩ : Jvm.MethodName) ∈ TT := TT_m0 18 rfl rfl
theorem wt_19 : Cond.selects "PortsBenchModel" (⟨"PortsBenchModel", "sets", "(IIIIIIII)I"⟩ : Jvm.MethodName) (⟨"PortsBenchModel", "sets", "(IIIIIIII)I"⟩ : Jvm.MethodName) ∈ TT := TT_m0 19 rfl rfl
theorem wt_20 : Cond.selects "PortsBenchModel" (⟨"PortsBenchModel", "takes", "(I)V"⟩ : Jvm.MethodName) (⟨"PortsBenchModel", "takes", "(I)V"⟩ : Jvm.MethodName) ∈ TT := TT_m0 20 rfl rfl
theorem wt_21 : Cond.selects "PortsBenchModel" (⟨"PortsBenchModel", "of", "(J)I"⟩ : Jvm.MethodName) (⟨"PortsBenchModel", "of", "(J)I"⟩ : Jvm.MethodName) ∈ TT := TT_m0 21 rfl rfl
theorem wt_22 : Cond.selects "PortsBenchModel" (⟨"PortsBenchModel", "fresh", "()I"⟩ : Jvm.MethodName) (⟨"PortsBenchModel", "fresh", "()I"⟩ : Jvm.MethodName) ∈ TT := TT_m0 22 rfl rfl
theorem wt_23 : Cond.selects "PortsBenchModel" (⟨"PortsBenchModel", "triple", "(III)I"⟩ : Jvm.MethodName) (⟨"PortsBenchModel", "triple", "(III)I"⟩ : Jvm.MethodName) ∈ TT := TT_m0 23 rfl rfl
theorem wt_24 : Cond.selects "PortsBenchModel" (⟨"PortsBenchModel", "minus", "(I)I"⟩ : Jvm.MethodName) (⟨"PortsBenchModel", "minus", "(I)I"⟩ : Jvm.MethodName) ∈ TT := TT_m0 24 rfl rfl
theorem wt_25 : Cond.selects "PortsBenchModel" (⟨"PortsBenchModel", "makes", "(IIII)V"⟩ : Jvm.MethodName) (⟨"PortsBenchModel", "makes", "(IIII)V"⟩ : Jvm.MethodName) ∈ TT := TT_m0 25 rfl rfl
theorem wt_26 : Cond.selects "PortsBenchModel" (⟨"PortsBenchModel", "common", "(II)I"⟩ : Jvm.MethodName) (⟨"PortsBenchModel", "common", "(II)I"⟩ : Jvm.MethodName) ∈ TT := TT_m0 26 rfl rfl
theorem wt_27 : Cond.selects "PortsBenchModel" (⟨"PortsBenchModel", "divides", "(III)I"⟩ : Jvm.MethodName) (⟨"PortsBenchModel", "divides", "(III)I"⟩ : Jvm.MethodName) ∈ TT := TT_m0 27 rfl rfl
theorem wt_28 : Cond.selects "PortsBenchModel" (⟨"PortsBenchModel", "stand", "(II)I"⟩ : Jvm.MethodName) (⟨"PortsBenchModel", "stand", "(II)I"⟩ : Jvm.MethodName) ∈ TT := TT_m0 28 rfl rfl
theorem wt_29 : Cond.selects "PortsBenchModel" (⟨"PortsBenchModel", "one", "(II)I"⟩ : Jvm.MethodName) (⟨"PortsBenchModel", "one", "(II)I"⟩ : Jvm.MethodName) ∈ TT := TT_m0 29 rfl rfl
theorem wt_30 : Cond.selects "PortsBenchModel" (⟨"PortsBenchModel", "trims", "(I)V"⟩ : Jvm.MethodName) (⟨"PortsBenchModel", "trims", "(I)V"⟩ : Jvm.MethodName) ∈ TT := TT_m0 30 rfl rfl
theorem wt_31 : Cond.selects "PortsBenchModel" (⟨"PortsBenchModel", "by", "(II)I"⟩ : Jvm.MethodName) (⟨"PortsBenchModel", "by", "(II)I"⟩ : Jvm.MethodName) ∈ TT := TT_m0 31 rfl rfl
theorem wt_32 : Cond.selects "PortsBenchModel" (⟨"PortsBenchModel", "splits", "(I)Z"⟩ : Jvm.MethodName) (⟨"PortsBenchModel", "splits", "(I)Z"⟩ : Jvm.MethodName) ∈ TT := TT_m0 32 rfl rfl
theorem wt_33 : Cond.selects "PortsBenchModel" (⟨"PortsBenchModel", "times", "(II)I"⟩ : Jvm.MethodName) (⟨"PortsBenchModel", "times", "(II)I"⟩ : Jvm.MethodName) ∈ TT := TT_m0 33 rfl rfl
theorem wt_34 : Cond.selects "PortsBenchModel" (⟨"PortsBenchModel", "ends", "(I)I"⟩ : Jvm.MethodName) (⟨"PortsBenchModel", "ends", "(I)I"⟩ : Jvm.MethodName) ∈ TT := TT_m0 34 rfl rfl
theorem wt_35 : Cond.selects "PortsBenchModel" (⟨"PortsBenchModel", "keep", "()V"⟩ : Jvm.MethodName) (⟨"PortsBenchModel", "keep", "()V"⟩ : Jvm.MethodName) ∈ TT := TT_m0 35 rfl rfl
theorem wt_36 : Cond.selects "PortsBenchModel" (⟨"PortsBenchModel", "has", "(II)Z"⟩ : Jvm.MethodName) (⟨"PortsBenchModel", "has", "(II)Z"⟩ : Jvm.MethodName) ∈ TT := TT_m0 36 rfl rfl
theorem wt_37 : Cond.selects "PortsBenchModel" (⟨"PortsBenchModel", "whole", "(J)I"⟩ : Jvm.MethodName) (⟨"PortsBenchModel", "whole", "(J)I"⟩ : Jvm.MethodName) ∈ TT := TT_m0 37 rfl rfl
theorem wt_38 : Cond.selects "PortsBenchModel" (⟨"PortsBenchModel", "entry", "(IIII)I"⟩ : Jvm.MethodName) (⟨"PortsBenchModel", "entry", "(IIII)I"⟩ : Jvm.MethodName) ∈ TT := TT_m0 38 rfl rfl
theorem wt_39 : Cond.selects "PortsBenchModel" (⟨"PortsBenchModel", "loaded", "(I)I"⟩ : Jvm.MethodName) (⟨"PortsBenchModel", "loaded", "(I)I"⟩ : Jvm.MethodName) ∈ TT := TT_m0 39 rfl rfl
theorem wt_40 : Cond.selects "PortsBenchModel" (⟨"PortsBenchModel", "plus", "(II)I"⟩ : Jvm.MethodName) (⟨"PortsBenchModel", "plus", "(II)I"⟩ : Jvm.MethodName) ∈ TT := TT_m0 40 rfl rfl
theorem wt_41 : Cond.selects "PortsBenchModel" (⟨"PortsBenchModel", "at", "(II)I"⟩ : Jvm.MethodName) (⟨"PortsBenchModel", "at", "(II)I"⟩ : Jvm.MethodName) ∈ TT := TT_m0 41 rfl rfl
theorem wt_42 : Cond.selects "PortsBenchModel" (⟨"PortsBenchModel", "product", "(II)I"⟩ : Jvm.MethodName) (⟨"PortsBenchModel", "product", "(II)I"⟩ : Jvm.MethodName) ∈ TT := TT_m0 42 rfl rfl
theorem wt_43 : Cond.selects "PortsBenchModel" (⟨"PortsBenchModel", "less", "(II)I"⟩ : Jvm.MethodName) (⟨"PortsBenchModel", "less", "(II)I"⟩ : Jvm.MethodName) ∈ TT := TT_m0 43 rfl rfl
theorem wt_44 : Cond.selects "PortsBenchModel" (⟨"PortsBenchModel", "lessen", "(II)I"⟩ : Jvm.MethodName) (⟨"PortsBenchModel", "lessen", "(II)I"⟩ : Jvm.MethodName) ∈ TT := TT_m0 44 rfl rfl
theorem wt_45 : Cond.selects "PortsBenchModel" (⟨"PortsBenchModel", "turnedSign", "(I)I"⟩ : Jvm.MethodName) (⟨"PortsBenchModel", "turnedSign", "(I)I"⟩ : Jvm.MethodName) ∈ TT := TT_m0 45 rfl rfl
theorem wt_46 : Cond.selects "PortsBenchModel" (⟨"PortsBenchModel", "added", "(II)I"⟩ : Jvm.MethodName) (⟨"PortsBenchModel", "added", "(II)I"⟩ : Jvm.MethodName) ∈ TT := TT_m0 46 rfl rfl
theorem wt_47 : Cond.selects "PortsBenchModel" (⟨"PortsBenchModel", "isZero", "(I)Z"⟩ : Jvm.MethodName) (⟨"PortsBenchModel", "isZero", "(I)Z"⟩ : Jvm.MethodName) ∈ TT := TT_m0 47 rfl rfl
theorem wt_48 : Cond.selects "PortsBenchModel" (⟨"PortsBenchModel", "isNought", "(I)Z"⟩ : Jvm.MethodName) (⟨"PortsBenchModel", "isNought", "(I)Z"⟩ : Jvm.MethodName) ∈ TT := TT_m0 48 rfl rfl
theorem wt_49 : Cond.selects "PortsBenchModel" (⟨"PortsBenchModel", "refuses", "(II)I"⟩ : Jvm.MethodName) (⟨"PortsBenchModel", "refuses", "(II)I"⟩ : Jvm.MethodName) ∈ TT := TT_m0 49 rfl rfl
theorem wt_50 : Cond.selects "PortsBenchModel" (⟨"PortsBenchModel", "begins", "()V"⟩ : Jvm.MethodName) (⟨"PortsBenchModel", "begins", "()V"⟩ : Jvm.MethodName) ∈ TT := TT_m0 50 rfl rfl
theorem wt_51 : Cond.selects "PortsBenchModel" (⟨"PortsBenchModel", "joined", "(IIIII)I"⟩ : Jvm.MethodName) (⟨"PortsBenchModel", "joined", "(IIIII)I"⟩ : Jvm.MethodName) ∈ TT := TT_m0 51 rfl rfl
theorem wt_52 : Cond.selects "PortsBenchModel" (⟨"PortsBenchModel", "quotientOf", "(II)I"⟩ : Jvm.MethodName) (⟨"PortsBenchModel", "quotientOf", "(II)I"⟩ : Jvm.MethodName) ∈ TT := TT_m0 52 rfl rfl
theorem wt_53 : Cond.selects "PortsBenchModel" (⟨"PortsBenchModel", "mirrored", "(I)I"⟩ : Jvm.MethodName) (⟨"PortsBenchModel", "mirrored", "(I)I"⟩ : Jvm.MethodName) ∈ TT := TT_m0 53 rfl rfl
theorem wt_54 : Cond.selects "PortsBenchModel" (⟨"PortsBenchModel", "square", "(I)I"⟩ : Jvm.MethodName) (⟨"PortsBenchModel", "square", "(I)I"⟩ : Jvm.MethodName) ∈ TT := TT_m0 54 rfl rfl
theorem wt_55 : Cond.selects "PortsBenchModel" (⟨"PortsBenchModel", "leftOver", "(IIII)I"⟩ : Jvm.MethodName) (⟨"PortsBenchModel", "leftOver", "(IIII)I"⟩ : Jvm.MethodName) ∈ TT := TT_m0 55 rfl rfl
theorem wt_56 : Cond.selects "PortsBenchModel" (⟨"PortsBenchModel", "without", "(IIIIII)I"⟩ : Jvm.MethodName) (⟨"PortsBenchModel", "without", "(IIIIII)I"⟩ : Jvm.MethodName) ∈ TT := TT_m0 56 rfl rfl
theorem wt_57 : Cond.selects "PortsBenchModel" (⟨"PortsBenchModel", "rows", "(III)V"⟩ : Jvm.MethodName) (⟨"PortsBenchModel", "rows", "(III)V"⟩ : Jvm.MethodName) ∈ TT := TT_m0 57 rfl rfl
theorem wt_58 : Cond.selects "PortsBenchModel" (⟨"PortsBenchModel", "worth", "(III)I"⟩ : Jvm.MethodName) (⟨"PortsBenchModel", "worth", "(III)I"⟩ : Jvm.MethodName) ∈ TT := TT_m0 58 rfl rfl
theorem wt_59 : Cond.selects "PortsBenchModel" (⟨"PortsBenchModel", "underneath", "(III)I"⟩ : Jvm.MethodName) (⟨"PortsBenchModel", "underneath", "(III)I"⟩ : Jvm.MethodName) ∈ TT := TT_m0 59 rfl rfl
theorem wt_60 : Cond.selects "PortsBenchModel" (⟨"PortsBenchModel", "quarter", "(II)I"⟩ : Jvm.MethodName) (⟨"PortsBenchModel", "quarter", "(II)I"⟩ : Jvm.MethodName) ∈ TT := TT_m0 60 rfl rfl
theorem wt_61 : Cond.selects "PortsBenchModel" (⟨"PortsBenchModel", "isLike", "(II)Z"⟩ : Jvm.MethodName) (⟨"PortsBenchModel", "isLike", "(II)Z"⟩ : Jvm.MethodName) ∈ TT := TT_m0 61 rfl rfl
theorem wt_62 : Cond.selects "PortsBenchModel" (⟨"PortsBenchModel", "passes", "(II)I"⟩ : Jvm.MethodName) (⟨"PortsBenchModel", "passes", "(II)I"⟩ : Jvm.MethodName) ∈ TT := TT_m0 62 rfl rfl
theorem wt_63 : Cond.selects "PortsBenchModel" (⟨"PortsBenchModel", "sizeOf", "(I)I"⟩ : Jvm.MethodName) (⟨"PortsBenchModel", "sizeOf", "(I)I"⟩ : Jvm.MethodName) ∈ TT := TT_m0 63 rfl rfl
theorem wt_64 : Cond.selects "PortsBenchModel" (⟨"PortsBenchModel", "spare", "(II)I"⟩ : Jvm.MethodName) (⟨"PortsBenchModel", "spare", "(II)I"⟩ : Jvm.MethodName) ∈ TT := TT_m0 64 rfl rfl
theorem wt_65 : Cond.selects "PortsBenchModel" (⟨"PortsBenchModel", "signOf", "(I)I"⟩ : Jvm.MethodName) (⟨"PortsBenchModel", "signOf", "(I)I"⟩ : Jvm.MethodName) ∈ TT := TT_m0 65 rfl rfl
theorem wt_66 : Cond.selects "PortsBenchModel" (⟨"PortsBenchModel", "stands", "(II)I"⟩ : Jvm.MethodName) (⟨"PortsBenchModel", "stands", "(II)I"⟩ : Jvm.MethodName) ∈ TT := TT_m0 66 rfl rfl
set_option maxRecDepth 4000 in
theorem wt_67 : (Jvm.Cond.initialized "PortsBenchLaw") ∈ TT := TT_m1 0 rfl rfl
set_option maxRecDepth 4000 in
theorem wt_68 : (Jvm.Cond.initialized "PortsBench") ∈ TT := TT_m1 1 rfl rfl
set_option maxRecDepth 4000 in
theorem wt_69 : (Jvm.Cond.initialized "PortsBench$Shelf") ∈ TT := TT_m1 2 rfl rfl
set_option maxRecDepth 4000 in
theorem wt_70 : (Jvm.Cond.initialized "PortsBench$Acts") ∈ TT := TT_m1 3 rfl rfl
set_option maxRecDepth 4000 in
theorem wt_71 : (Jvm.Cond.initialized "PortsBench$Whole") ∈ TT := TT_m1 4 rfl rfl
set_option maxRecDepth 4000 in
theorem wt_72 : (Jvm.Cond.initialized "PortsBench$Gauss") ∈ TT := TT_m1 5 rfl rfl
set_option maxRecDepth 4000 in
theorem wt_73 : (Jvm.Cond.initialized "PortsBench$Lowest") ∈ TT := TT_m1 6 rfl rfl
set_option maxRecDepth 4000 in
theorem wt_74 : (Jvm.Cond.initialized "PortsBench$Ratio") ∈ TT := TT_m1 7 rfl rfl
set_option maxRecDepth 4000 in
theorem wt_75 : (Jvm.Cond.initialized "PortsBench$Judge") ∈ TT := TT_m1 8 rfl rfl
set_option maxRecDepth 4000 in
theorem wt_76 : (Jvm.Cond.initialized "PortsBenchModel") ∈ TT := TT_m1 9 rfl rfl
set_option maxRecDepth 4000 in
theorem wt_77 : (Jvm.Cond.initialized "java/lang/System") ∈ TT := TT_m1 10 rfl rfl
set_option maxRecDepth 4000 in
theorem wt_78 : (Jvm.Cond.initialized "java/lang/Math") ∈ TT := TT_m1 11 rfl rfl
set_option maxRecDepth 4000 in
theorem wt_79 : (Jvm.Cond.classLink "PortsBenchLaw" (7 : Nat) "PortsBench") ∈ TT := TT_m1 12 rfl rfl
set_option maxRecDepth 4000 in
theorem wt_80 : (Jvm.Cond.instantiable "PortsBench" (5 : Nat)) ∈ TT := TT_m1 13 rfl rfl
set_option maxRecDepth 4000 in
theorem wt_81 : (Jvm.Cond.methodLink "PortsBenchLaw" (9 : Nat) (⟨"PortsBench", "<init>", "()V"⟩ : Jvm.MethodName)) ∈ TT := TT_m1 14 rfl rfl
set_option maxRecDepth 4000 in
theorem wt_82 : (Jvm.Cond.instanceMethod (⟨"PortsBench", "<init>", "()V"⟩ : Jvm.MethodName)) ∈ TT := TT_m1 15 rfl rfl
set_option maxRecDepth 4000 in
theorem wt_83 : (Jvm.Cond.code (⟨"PortsBench", "<init>", "()V"⟩ : Jvm.MethodName) prog_1_method_1_code (1 : Nat) (Option.none : Option Jvm.ClassFile.FieldType)) ∈ TT := TT_m1 16 rfl rfl
set_option maxRecDepth 4000 in
theorem wt_84 : (Jvm.Cond.methodLink "PortsBench" (3 : Nat) (⟨"java/lang/Object", "<init>", "()V"⟩ : Jvm.MethodName)) ∈ TT := TT_m1 17 rfl rfl
set_option maxRecDepth 4000 in
theorem wt_85 : (Jvm.Cond.instanceMethod (⟨"java/lang/Object", "<init>", "()V"⟩ : Jvm.MethodName)) ∈ TT := TT_m1 18 rfl rfl
set_option maxRecDepth 4000 in
theorem wt_86 : (Jvm.Cond.code (⟨"java/lang/Object", "<init>", "()V"⟩ : Jvm.MethodName) object_method_1_code (1 : Nat) (Option.none : Option Jvm.ClassFile.FieldType)) ∈ TT := TT_m1 19 rfl rfl
set_option maxRecDepth 4000 in
theorem wt_87 : (Jvm.Cond.classLink "PortsBench" (9 : Nat) "PortsBench$Shelf") ∈ TT := TT_m1 20 rfl rfl
set_option maxRecDepth 4000 in
theorem wt_88 : (Jvm.Cond.instantiable "PortsBench$Shelf" (8 : Nat)) ∈ TT := TT_m1 21 rfl rfl
set_option maxRecDepth 4000 in
theorem wt_90 : (Jvm.Cond.instanceMethod (⟨"PortsBench$Shelf", "<init>", "()V"⟩ : Jvm.MethodName)) ∈ TT := TT_m1 23 rfl rfl
set_option maxRecDepth 4000 in
theorem wt_91 : (Jvm.Cond.code (⟨"PortsBench$Shelf", "<init>", "()V"⟩ : Jvm.MethodName) prog_7_method_1_code (1 : Nat) (Option.none : Option Jvm.ClassFile.FieldType)) ∈ TT := TT_m1 24 rfl rfl
set_option maxRecDepth 4000 in
theorem wt_92 : (Jvm.Cond.methodLink "PortsBench$Shelf" (3 : Nat) (⟨"java/lang/Object", "<init>", "()V"⟩ : Jvm.MethodName)) ∈ TT := TT_m1 25 rfl rfl
set_option maxRecDepth 4000 in
theorem wt_93 : (Jvm.Cond.fieldLink "PortsBench$Shelf" (9 : Nat) "PortsBench$Shelf" "cells" "[I") ∈ TT := TT_m1 26 rfl rfl
set_option maxRecDepth 4000 in
theorem wt_94 : (Jvm.Cond.fieldLink "PortsBench$Acts" (109 : Nat) "PortsBench$Shelf" "cells" "[I") ∈ TT := TT_m1 27 rfl rfl
set_option maxRecDepth 4000 in
theorem wt_95 : (Jvm.Cond.fieldLink "PortsBench" (124 : Nat) "PortsBench$Shelf" "cells" "[I") ∈ TT := TT_m1 28 rfl rfl
set_option maxRecDepth 4000 in
theorem wt_96 : (Jvm.Cond.fieldLink "PortsBench$Shelf" (15 : Nat) "PortsBench$Shelf" "draft" "[I") ∈ TT := TT_m1 29 rfl rfl
set_option maxRecDepth 4000 in
theorem wt_97 : (Jvm.Cond.fieldLink "PortsBench$Acts" (25 : Nat) "PortsBench$Shelf" "draft" "[I") ∈ TT := TT_m1 30 rfl rfl
set_option maxRecDepth 4000 in
theorem wt_98 : (Jvm.Cond.fieldLink "PortsBench$Shelf" (18 : Nat) "PortsBench$Shelf" "ports" "[I") ∈ TT := TT_m1 31 rfl rfl
set_option maxRecDepth 4000 in
theorem wt_99 : (Jvm.Cond.fieldLink "PortsBench$Shelf" (21 : Nat) "PortsBench$Shelf" "former" "[I") ∈ TT := TT_m1 32 rfl rfl
set_option maxRecDepth 4000 in
theorem wt_100 : (Jvm.Cond.fieldLink "PortsBench$Shelf" (24 : Nat) "PortsBench$Shelf" "formerBox" "[I") ∈ TT := TT_m1 33 rfl rfl
set_option maxRecDepth 4000 in
theorem wt_101 : (Jvm.Cond.fieldLink "PortsBench$Shelf" (57 : Nat) "PortsBench$Shelf" "next" "I") ∈ TT := TT_m1 34 rfl rfl
set_option maxRecDepth 4000 in
theorem wt_102 : (Jvm.Cond.fieldLink "PortsBench$Shelf" (27 : Nat) "PortsBench$Shelf" "boxes" "I") ∈ TT := TT_m1 35 rfl rfl
set_option maxRecDepth 4000 in
theorem wt_103 : (Jvm.Cond.fieldLink "PortsBench" (144 : Nat) "PortsBench$Shelf" "boxes" "I") ∈ TT := TT_m1 36 rfl rfl
set_option maxRecDepth 4000 in
theorem wt_104 : (Jvm.Cond.fieldLink "PortsBench$Shelf" (60 : Nat) "PortsBench$Shelf" "acts" "I") ∈ TT := TT_m1 37 rfl rfl
set_option maxRecDepth 4000 in
theorem wt_105 : (Jvm.Cond.fieldLink "PortsBench" (147 : Nat) "PortsBench$Shelf" "acts" "I") ∈ TT := TT_m1 38 rfl rfl
set_option maxRecDepth 4000 in
theorem wt_106 : (Jvm.Cond.laysFinal "PortsBench$Shelf" "PortsBench$Shelf" "cells" "[I") ∈ TT := TT_m1 39 rfl rfl
set_option maxRecDepth 4000 in
theorem wt_108 : (Jvm.Cond.laysFinal "PortsBench$Shelf" "PortsBench$Shelf" "draft" "[I") ∈ TT := TT_m1 41 rfl rfl
set_option maxRecDepth 4000 in
theorem wt_110 : (Jvm.Cond.laysFinal "PortsBench$Shelf" "PortsBench$Shelf" "ports" "[I") ∈ TT := TT_m1 43 rfl rfl
set_option maxRecDepth 4000 in
theorem wt_112 : (Jvm.Cond.laysFinal "PortsBench$Shelf" "PortsBench$Shelf" "former" "[I") ∈ TT := TT_m1 45 rfl rfl
set_option maxRecDepth 4000 in
theorem wt_114 : (Jvm.Cond.laysFinal "PortsBench$Shelf" "PortsBench$Shelf" "formerBox" "[I") ∈ TT := TT_m1 47 rfl rfl
set_option maxRecDepth 4000 in
theorem wt_116 : (Jvm.Cond.lays "PortsBench$Shelf" "PortsBench$Shelf" "next" "I") ∈ TT := TT_m1 49 rfl rfl
set_option maxRecDepth 4000 in
theorem wt_118 : (Jvm.Cond.lays "PortsBench$Shelf" "PortsBench$Shelf" "boxes" "I") ∈ TT := TT_m1 51 rfl rfl
set_option maxRecDepth 4000 in
theorem wt_120 : (Jvm.Cond.lays "PortsBench$Shelf" "PortsBench$Shelf" "acts" "I") ∈ TT := TT_m1 53 rfl rfl
set_option maxRecDepth 4000 in
theorem wt_123 : (Jvm.Cond.arrayClass Jvm.ClassFile.FieldType.int) ∈ TT := TT_m1 56 rfl rfl
set_option maxRecDepth 4000 in
theorem wt_124 : (Jvm.Cond.classLink "PortsBench" (16 : Nat) "PortsBench$Acts") ∈ TT := TT_m1 57 rfl rfl
set_option maxRecDepth 4000 in
theorem wt_125 : (Jvm.Cond.instantiable "PortsBench$Acts" (16 : Nat)) ∈ TT := TT_m1 58 rfl rfl
set_option maxRecDepth 4000 in
theorem wt_126 : (Jvm.Cond.methodLink "PortsBench" (18 : Nat) (⟨"PortsBench$Acts", "<init>", "(LPortsBench$Shelf;)V"⟩ : Jvm.MethodName)) ∈ TT := TT_m1 59 rfl rfl
set_option maxRecDepth 4000 in
theorem wt_127 : (Jvm.Cond.instanceMethod (⟨"PortsBench$Acts", "<init>", "(LPortsBench$Shelf;)V"⟩ : Jvm.MethodName)) ∈ TT := TT_m1 60 rfl rfl
set_option maxRecDepth 4000 in
theorem wt_128 : (Jvm.Cond.code (⟨"PortsBench$Acts", "<init>", "(LPortsBench$Shelf;)V"⟩ : Jvm.MethodName) prog_2_method_1_code (4 : Nat) (Option.none : Option Jvm.ClassFile.FieldType)) ∈ TT := TT_m1 61 rfl rfl
set_option maxRecDepth 4000 in
theorem wt_129 : (Jvm.Cond.methodLink "PortsBench$Acts" (3 : Nat) (⟨"java/lang/Object", "<init>", "()V"⟩ : Jvm.MethodName)) ∈ TT := TT_m1 62 rfl rfl
set_option maxRecDepth 4000 in
theorem wt_130 : (Jvm.Cond.classLink "PortsBench$Acts" (9 : Nat) "PortsBench$Whole") ∈ TT := TT_m1 63 rfl rfl
set_option maxRecDepth 4000 in
theorem wt_131 : (Jvm.Cond.instantiable "PortsBench$Whole" (3 : Nat)) ∈ TT := TT_m1 64 rfl rfl
set_option maxRecDepth 4000 in
theorem wt_133 : (Jvm.Cond.instanceMethod (⟨"PortsBench$Whole", "<init>", "()V"⟩ : Jvm.MethodName)) ∈ TT := TT_m1 66 rfl rfl
set_option maxRecDepth 4000 in
theorem wt_134 : (Jvm.Cond.code (⟨"PortsBench$Whole", "<init>", "()V"⟩ : Jvm.MethodName) prog_8_method_1_code (1 : Nat) (Option.none : Option Jvm.ClassFile.FieldType)) ∈ TT := TT_m1 67 rfl rfl
set_option maxRecDepth 4000 in
theorem wt_135 : (Jvm.Cond.methodLink "PortsBench$Whole" (3 : Nat) (⟨"java/lang/Object", "<init>", "()V"⟩ : Jvm.MethodName)) ∈ TT := TT_m1 68 rfl rfl
set_option maxRecDepth 4000 in
theorem wt_136 : (Jvm.Cond.fieldLink "PortsBench$Whole" (15 : Nat) "PortsBench$Whole" "sign" "I") ∈ TT := TT_m1 69 rfl rfl
set_option maxRecDepth 4000 in
theorem wt_137 : (Jvm.Cond.fieldLink "PortsBench$Lowest" (46 : Nat) "PortsBench$Whole" "sign" "I") ∈ TT := TT_m1 70 rfl rfl
set_option maxRecDepth 4000 in
theorem wt_138 : (Jvm.Cond.fieldLink "PortsBench$Gauss" (35 : Nat) "PortsBench$Whole" "sign" "I") ∈ TT := TT_m1 71 rfl rfl
set_option maxRecDepth 4000 in
theorem wt_139 : (Jvm.Cond.fieldLink "PortsBench$Judge" (114 : Nat) "PortsBench$Whole" "sign" "I") ∈ TT := TT_m1 72 rfl rfl
set_option maxRecDepth 4000 in
theorem wt_140 : (Jvm.Cond.fieldLink "PortsBench$Whole" (19 : Nat) "PortsBench$Whole" "size" "I") ∈ TT := TT_m1 73 rfl rfl
set_option maxRecDepth 4000 in
theorem wt_141 : (Jvm.Cond.fieldLink "PortsBench$Lowest" (66 : Nat) "PortsBench$Whole" "size" "I") ∈ TT := TT_m1 74 rfl rfl
set_option maxRecDepth 4000 in
theorem wt_142 : (Jvm.Cond.fieldLink "PortsBench$Whole" (9 : Nat) "PortsBench$Whole" "limbs" "[I") ∈ TT := TT_m1 75 rfl rfl
set_option maxRecDepth 4000 in
theorem wt_143 : (Jvm.Cond.lays "PortsBench$Whole" "PortsBench$Whole" "sign" "I") ∈ TT := TT_m1 76 rfl rfl
set_option maxRecDepth 4000 in
theorem wt_145 : (Jvm.Cond.lays "PortsBench$Whole" "PortsBench$Whole" "size" "I") ∈ TT := TT_m1 78 rfl rfl
set_option maxRecDepth 4000 in
theorem wt_147 : (Jvm.Cond.laysFinal "PortsBench$Whole" "PortsBench$Whole" "limbs" "[I") ∈ TT := TT_m1 80 rfl rfl
set_option maxRecDepth 4000 in
theorem wt_150 : (Jvm.Cond.classLink "PortsBench$Acts" (12 : Nat) "PortsBench$Gauss") ∈ TT := TT_m1 83 rfl rfl
set_option maxRecDepth 4000 in
theorem wt_151 : (Jvm.Cond.instantiable "PortsBench$Gauss" (3 : Nat)) ∈ TT := TT_m1 84 rfl rfl
set_option maxRecDepth 4000 in
theorem wt_152 : (Jvm.Cond.methodLink "PortsBench$Acts" (14 : Nat) (⟨"PortsBench$Gauss", "<init>", "(LPortsBench$Whole;)V"⟩ : Jvm.MethodName)) ∈ TT := TT_m1 85 rfl rfl
set_option maxRecDepth 4000 in
theorem wt_153 : (Jvm.Cond.instanceMethod (⟨"PortsBench$Gauss", "<init>", "(LPortsBench$Whole;)V"⟩ : Jvm.MethodName)) ∈ TT := TT_m1 86 rfl rfl
set_option maxRecDepth 4000 in
theorem wt_154 : (Jvm.Cond.code (⟨"PortsBench$Gauss", "<init>", "(LPortsBench$Whole;)V"⟩ : Jvm.MethodName) prog_3_method_1_code (2 : Nat) (Option.none : Option Jvm.ClassFile.FieldType)) ∈ TT := TT_m1 87 rfl rfl
set_option maxRecDepth 4000 in
theorem wt_155 : (Jvm.Cond.methodLink "PortsBench$Gauss" (1 : Nat) (⟨"java/lang/Object", "<init>", "()V"⟩ : Jvm.MethodName)) ∈ TT := TT_m1 88 rfl rfl
set_option maxRecDepth 4000 in
theorem wt_156 : (Jvm.Cond.classLink "PortsBench$Gauss" (7 : Nat) "PortsBench$Whole") ∈ TT := TT_m1 89 rfl rfl
set_option maxRecDepth 4000 in
theorem wt_158 : (Jvm.Cond.fieldLink "PortsBench$Gauss" (10 : Nat) "PortsBench$Gauss" "re" "LPortsBench$Whole;") ∈ TT := TT_m1 91 rfl rfl
set_option maxRecDepth 4000 in
theorem wt_159 : (Jvm.Cond.fieldLink "PortsBench$Lowest" (54 : Nat) "PortsBench$Gauss" "re" "LPortsBench$Whole;") ∈ TT := TT_m1 92 rfl rfl
set_option maxRecDepth 4000 in
theorem wt_160 : (Jvm.Cond.fieldLink "PortsBench$Judge" (83 : Nat) "PortsBench$Gauss" "re" "LPortsBench$Whole;") ∈ TT := TT_m1 93 rfl rfl
set_option maxRecDepth 4000 in
theorem wt_161 : (Jvm.Cond.fieldLink "PortsBench$Ratio" (33 : Nat) "PortsBench$Gauss" "re" "LPortsBench$Whole;") ∈ TT := TT_m1 94 rfl rfl
set_option maxRecDepth 4000 in
theorem wt_162 : (Jvm.Cond.fieldLink "PortsBench$Acts" (158 : Nat) "PortsBench$Gauss" "re" "LPortsBench$Whole;") ∈ TT := TT_m1 95 rfl rfl
set_option maxRecDepth 4000 in
theorem wt_163 : (Jvm.Cond.fieldLink "PortsBench$Gauss" (16 : Nat) "PortsBench$Gauss" "im" "LPortsBench$Whole;") ∈ TT := TT_m1 96 rfl rfl
set_option maxRecDepth 4000 in
theorem wt_164 : (Jvm.Cond.fieldLink "PortsBench$Lowest" (43 : Nat) "PortsBench$Gauss" "im" "LPortsBench$Whole;") ∈ TT := TT_m1 97 rfl rfl
set_option maxRecDepth 4000 in
theorem wt_165 : (Jvm.Cond.fieldLink "PortsBench$Ratio" (43 : Nat) "PortsBench$Gauss" "im" "LPortsBench$Whole;") ∈ TT := TT_m1 98 rfl rfl
set_option maxRecDepth 4000 in
theorem wt_166 : (Jvm.Cond.fieldLink "PortsBench$Acts" (165 : Nat) "PortsBench$Gauss" "im" "LPortsBench$Whole;") ∈ TT := TT_m1 99 rfl rfl
set_option maxRecDepth 4000 in
theorem wt_167 : (Jvm.Cond.fieldLink "PortsBench$Gauss" (19 : Nat) "PortsBench$Gauss" "spare" "LPortsBench$Whole;") ∈ TT := TT_m1 100 rfl rfl
set_option maxRecDepth 4000 in
theorem wt_168 : (Jvm.Cond.laysFinal "PortsBench$Gauss" "PortsBench$Gauss" "re" "LPortsBench$Whole;") ∈ TT := TT_m1 101 rfl rfl
set_option maxRecDepth 4000 in
theorem wt_170 : (Jvm.Cond.laysFinal "PortsBench$Gauss" "PortsBench$Gauss" "im" "LPortsBench$Whole;") ∈ TT := TT_m1 103 rfl rfl
set_option maxRecDepth 4000 in
theorem wt_172 : (Jvm.Cond.laysFinal "PortsBench$Gauss" "PortsBench$Gauss" "spare" "LPortsBench$Whole;") ∈ TT := TT_m1 105 rfl rfl
set_option maxRecDepth 4000 in
theorem wt_175 : (Jvm.Cond.classLink "PortsBench$Acts" (23 : Nat) "PortsBench$Lowest") ∈ TT := TT_m1 108 rfl rfl
set_option maxRecDepth 4000 in
theorem wt_176 : (Jvm.Cond.instantiable "PortsBench$Lowest" (8 : Nat)) ∈ TT := TT_m1 109 rfl rfl
set_option maxRecDepth 4000 in
theorem wt_177 : (Jvm.Cond.methodLink "PortsBench$Acts" (31 : Nat) (⟨"PortsBench$Lowest", "<init>", "([ILPortsBench$Whole;)V"⟩ : Jvm.MethodName)) ∈ TT := TT_m1 110 rfl rfl
set_option maxRecDepth 4000 in
theorem wt_178 : (Jvm.Cond.instanceMethod (⟨"PortsBench$Lowest", "<init>", "([ILPortsBench$Whole;)V"⟩ : Jvm.MethodName)) ∈ TT := TT_m1 111 rfl rfl
set_option maxRecDepth 4000 in
theorem wt_179 : (Jvm.Cond.code (⟨"PortsBench$Lowest", "<init>", "([ILPortsBench$Whole;)V"⟩ : Jvm.MethodName) prog_5_method_1_code (3 : Nat) (Option.none : Option Jvm.ClassFile.FieldType)) ∈ TT := TT_m1 112 rfl rfl
set_option maxRecDepth 4000 in
theorem wt_180 : (Jvm.Cond.methodLink "PortsBench$Lowest" (3 : Nat) (⟨"java/lang/Object", "<init>", "()V"⟩ : Jvm.MethodName)) ∈ TT := TT_m1 113 rfl rfl
set_option maxRecDepth 4000 in
theorem wt_181 : (Jvm.Cond.classLink "PortsBench$Lowest" (15 : Nat) "PortsBench$Gauss") ∈ TT := TT_m1 114 rfl rfl
set_option maxRecDepth 4000 in
theorem wt_182 : (Jvm.Cond.methodLink "PortsBench$Lowest" (17 : Nat) (⟨"PortsBench$Gauss", "<init>", "(LPortsBench$Whole;)V"⟩ : Jvm.MethodName)) ∈ TT := TT_m1 115 rfl rfl
set_option maxRecDepth 4000 in
theorem wt_183 : (Jvm.Cond.classLink "PortsBench$Lowest" (24 : Nat) "PortsBench$Whole") ∈ TT := TT_m1 116 rfl rfl
set_option maxRecDepth 4000 in
theorem wt_185 : (Jvm.Cond.fieldLink "PortsBench$Lowest" (9 : Nat) "PortsBench$Lowest" "cells" "[I") ∈ TT := TT_m1 118 rfl rfl
set_option maxRecDepth 4000 in
theorem wt_186 : (Jvm.Cond.fieldLink "PortsBench$Lowest" (20 : Nat) "PortsBench$Lowest" "top" "LPortsBench$Gauss;") ∈ TT := TT_m1 119 rfl rfl
set_option maxRecDepth 4000 in
theorem wt_187 : (Jvm.Cond.fieldLink "PortsBench$Lowest" (27 : Nat) "PortsBench$Lowest" "bottom" "LPortsBench$Whole;") ∈ TT := TT_m1 120 rfl rfl
set_option maxRecDepth 4000 in
theorem wt_188 : (Jvm.Cond.fieldLink "PortsBench$Lowest" (31 : Nat) "PortsBench$Lowest" "quotient" "LPortsBench$Whole;") ∈ TT := TT_m1 121 rfl rfl
set_option maxRecDepth 4000 in
theorem wt_189 : (Jvm.Cond.fieldLink "PortsBench$Lowest" (34 : Nat) "PortsBench$Lowest" "rest" "LPortsBench$Whole;") ∈ TT := TT_m1 122 rfl rfl
set_option maxRecDepth 4000 in
theorem wt_190 : (Jvm.Cond.fieldLink "PortsBench$Lowest" (37 : Nat) "PortsBench$Lowest" "greater" "LPortsBench$Whole;") ∈ TT := TT_m1 123 rfl rfl
set_option maxRecDepth 4000 in
theorem wt_191 : (Jvm.Cond.fieldLink "PortsBench$Lowest" (40 : Nat) "PortsBench$Lowest" "less" "LPortsBench$Whole;") ∈ TT := TT_m1 124 rfl rfl
set_option maxRecDepth 4000 in
theorem wt_192 : (Jvm.Cond.fieldLink "PortsBench$Acts" (101 : Nat) "PortsBench$Lowest" "big" "Z") ∈ TT := TT_m1 125 rfl rfl
set_option maxRecDepth 4000 in
theorem wt_193 : (Jvm.Cond.fieldLink "PortsBench$Lowest" (80 : Nat) "PortsBench$Lowest" "big" "Z") ∈ TT := TT_m1 126 rfl rfl
set_option maxRecDepth 4000 in
theorem wt_194 : (Jvm.Cond.laysFinal "PortsBench$Lowest" "PortsBench$Lowest" "cells" "[I") ∈ TT := TT_m1 127 rfl rfl
set_option maxRecDepth 4000 in
theorem wt_196 : (Jvm.Cond.laysFinal "PortsBench$Lowest" "PortsBench$Lowest" "top" "LPortsBench$Gauss;") ∈ TT := TT_m1 129 rfl rfl
set_option maxRecDepth 4000 in
theorem wt_198 : (Jvm.Cond.laysFinal "PortsBench$Lowest" "PortsBench$Lowest" "bottom" "LPortsBench$Whole;") ∈ TT := TT_m1 131 rfl rfl
set_option maxRecDepth 4000 in
theorem wt_200 : (Jvm.Cond.laysFinal "PortsBench$Lowest" "PortsBench$Lowest" "quotient" "LPortsBench$Whole;") ∈ TT := TT_m1 133 rfl rfl
set_option maxRecDepth 4000 in
theorem wt_202 : (Jvm.Cond.laysFinal "PortsBench$Lowest" "PortsBench$Lowest" "rest" "LPortsBench$Whole;") ∈ TT := TT_m1 135 rfl rfl
set_option maxRecDepth 4000 in
theorem wt_204 : (Jvm.Cond.lays "PortsBench$Lowest" "PortsBench$Lowest" "greater" "LPortsBench$Whole;") ∈ TT := TT_m1 137 rfl rfl
set_option maxRecDepth 4000 in
theorem wt_206 : (Jvm.Cond.lays "PortsBench$Lowest" "PortsBench$Lowest" "less" "LPortsBench$Whole;") ∈ TT := TT_m1 139 rfl rfl
set_option maxRecDepth 4000 in
theorem wt_208 : (Jvm.Cond.lays "PortsBench$Lowest" "PortsBench$Lowest" "big" "Z") ∈ TT := TT_m1 141 rfl rfl
set_option maxRecDepth 4000 in
theorem wt_211 : (Jvm.Cond.methodLink "PortsBench$Acts" (38 : Nat) (⟨"PortsBench$Ratio", "four", "(LPortsBench$Gauss;LPortsBench$Whole;)[LPortsBench$Ratio;"⟩ : Jvm.MethodName)) ∈ TT := TT_m1 144 rfl rfl
set_option maxRecDepth 4000 in
theorem wt_212 : (Jvm.Cond.static (⟨"PortsBench$Ratio", "four", "(LPortsBench$Gauss;LPortsBench$Whole;)[LPortsBench$Ratio;"⟩ : Jvm.MethodName)) ∈ TT := TT_m1 145 rfl rfl
set_option maxRecDepth 4000 in
theorem wt_213 : (Jvm.Cond.code (⟨"PortsBench$Ratio", "four", "(LPortsBench$Gauss;LPortsBench$Whole;)[LPortsBench$Ratio;"⟩ : Jvm.MethodName) prog_6_method_2_code (4 : Nat) (Option.some (Jvm.ClassFile.FieldType.array (Jvm.ClassFile.FieldType.object "PortsBench$Ratio")))) ∈ TT := TT_m1 146 rfl rfl
set_option maxRecDepth 4000 in
theorem wt_214 : (Jvm.Cond.classLink "PortsBench$Ratio" (15 : Nat) "PortsBench$Ratio") ∈ TT := TT_m1 147 rfl rfl
set_option maxRecDepth 4000 in
theorem wt_216 : (Jvm.Cond.instantiable "PortsBench$Ratio" (3 : Nat)) ∈ TT := TT_m1 149 rfl rfl
set_option maxRecDepth 4000 in
theorem wt_217 : (Jvm.Cond.methodLink "PortsBench$Ratio" (26 : Nat) (⟨"PortsBench$Ratio", "<init>", "(LPortsBench$Gauss;LPortsBench$Whole;)V"⟩ : Jvm.MethodName)) ∈ TT := TT_m1 150 rfl rfl
set_option maxRecDepth 4000 in
theorem wt_218 : (Jvm.Cond.instanceMethod (⟨"PortsBench$Ratio", "<init>", "(LPortsBench$Gauss;LPortsBench$Whole;)V"⟩ : Jvm.MethodName)) ∈ TT := TT_m1 151 rfl rfl
set_option maxRecDepth 4000 in
theorem wt_219 : (Jvm.Cond.code (⟨"PortsBench$Ratio", "<init>", "(LPortsBench$Gauss;LPortsBench$Whole;)V"⟩ : Jvm.MethodName) prog_6_method_1_code (3 : Nat) (Option.none : Option Jvm.ClassFile.FieldType)) ∈ TT := TT_m1 152 rfl rfl
set_option maxRecDepth 4000 in
theorem wt_220 : (Jvm.Cond.methodLink "PortsBench$Ratio" (3 : Nat) (⟨"java/lang/Object", "<init>", "()V"⟩ : Jvm.MethodName)) ∈ TT := TT_m1 153 rfl rfl
set_option maxRecDepth 4000 in
theorem wt_221 : (Jvm.Cond.classLink "PortsBench$Ratio" (9 : Nat) "PortsBench$Gauss") ∈ TT := TT_m1 154 rfl rfl
set_option maxRecDepth 4000 in
theorem wt_222 : (Jvm.Cond.methodLink "PortsBench$Ratio" (11 : Nat) (⟨"PortsBench$Gauss", "<init>", "(LPortsBench$Whole;)V"⟩ : Jvm.MethodName)) ∈ TT := TT_m1 155 rfl rfl
set_option maxRecDepth 4000 in
theorem wt_223 : (Jvm.Cond.fieldLink "PortsBench$Ratio" (14 : Nat) "PortsBench$Ratio" "over" "LPortsBench$Gauss;") ∈ TT := TT_m1 156 rfl rfl
set_option maxRecDepth 4000 in
theorem wt_224 : (Jvm.Cond.fieldLink "PortsBench$Judge" (90 : Nat) "PortsBench$Ratio" "over" "LPortsBench$Gauss;") ∈ TT := TT_m1 157 rfl rfl
set_option maxRecDepth 4000 in
theorem wt_225 : (Jvm.Cond.fieldLink "PortsBench$Acts" (139 : Nat) "PortsBench$Ratio" "over" "LPortsBench$Gauss;") ∈ TT := TT_m1 158 rfl rfl
set_option maxRecDepth 4000 in
theorem wt_226 : (Jvm.Cond.fieldLink "PortsBench$Ratio" (20 : Nat) "PortsBench$Ratio" "under" "LPortsBench$Gauss;") ∈ TT := TT_m1 159 rfl rfl
set_option maxRecDepth 4000 in
theorem wt_227 : (Jvm.Cond.fieldLink "PortsBench$Judge" (82 : Nat) "PortsBench$Ratio" "under" "LPortsBench$Gauss;") ∈ TT := TT_m1 160 rfl rfl
set_option maxRecDepth 4000 in
theorem wt_228 : (Jvm.Cond.fieldLink "PortsBench$Acts" (142 : Nat) "PortsBench$Ratio" "under" "LPortsBench$Gauss;") ∈ TT := TT_m1 161 rfl rfl
set_option maxRecDepth 4000 in
theorem wt_229 : (Jvm.Cond.fieldLink "PortsBench$Ratio" (23 : Nat) "PortsBench$Ratio" "spare" "LPortsBench$Gauss;") ∈ TT := TT_m1 162 rfl rfl
set_option maxRecDepth 4000 in
theorem wt_230 : (Jvm.Cond.laysFinal "PortsBench$Ratio" "PortsBench$Ratio" "over" "LPortsBench$Gauss;") ∈ TT := TT_m1 163 rfl rfl
set_option maxRecDepth 4000 in
theorem wt_232 : (Jvm.Cond.laysFinal "PortsBench$Ratio" "PortsBench$Ratio" "under" "LPortsBench$Gauss;") ∈ TT := TT_m1 165 rfl rfl
set_option maxRecDepth 4000 in
theorem wt_234 : (Jvm.Cond.laysFinal "PortsBench$Ratio" "PortsBench$Ratio" "spare" "LPortsBench$Gauss;") ∈ TT := TT_m1 167 rfl rfl
set_option maxRecDepth 4000 in
theorem wt_237 : (Jvm.Cond.classLink "PortsBench$Acts" (39 : Nat) "PortsBench$Ratio") ∈ TT := TT_m1 170 rfl rfl
set_option maxRecDepth 4000 in
theorem wt_238 : (Jvm.Cond.methodLink "PortsBench$Acts" (51 : Nat) (⟨"PortsBench$Ratio", "<init>", "(LPortsBench$Gauss;LPortsBench$Whole;)V"⟩ : Jvm.MethodName)) ∈ TT := TT_m1 171 rfl rfl
set_option maxRecDepth 4000 in
theorem wt_239 : (Jvm.Cond.methodLink "PortsBench$Acts" (76 : Nat) (⟨"PortsBench$Gauss", "row", "(ILPortsBench$Whole;)[LPortsBench$Gauss;"⟩ : Jvm.MethodName)) ∈ TT := TT_m1 172 rfl rfl
set_option maxRecDepth 4000 in
theorem wt_240 : (Jvm.Cond.static (⟨"PortsBench$Gauss", "row", "(ILPortsBench$Whole;)[LPortsBench$Gauss;"⟩ : Jvm.MethodName)) ∈ TT := TT_m1 173 rfl rfl
set_option maxRecDepth 4000 in
theorem wt_241 : (Jvm.Cond.code (⟨"PortsBench$Gauss", "row", "(ILPortsBench$Whole;)[LPortsBench$Gauss;"⟩ : Jvm.MethodName) prog_3_method_2_code (4 : Nat) (Option.some (Jvm.ClassFile.FieldType.array (Jvm.ClassFile.FieldType.object "PortsBench$Gauss")))) ∈ TT := TT_m1 174 rfl rfl
set_option maxRecDepth 4000 in
theorem wt_242 : (Jvm.Cond.classLink "PortsBench$Gauss" (11 : Nat) "PortsBench$Gauss") ∈ TT := TT_m1 175 rfl rfl
set_option maxRecDepth 4000 in
theorem wt_244 : (Jvm.Cond.methodLink "PortsBench$Gauss" (22 : Nat) (⟨"PortsBench$Gauss", "<init>", "(LPortsBench$Whole;)V"⟩ : Jvm.MethodName)) ∈ TT := TT_m1 177 rfl rfl
set_option maxRecDepth 4000 in
theorem wt_245 : (Jvm.Cond.methodLink "PortsBench$Acts" (97 : Nat) (⟨"PortsBench$Ratio", "putSmall", "(II)V"⟩ : Jvm.MethodName)) ∈ TT := TT_m1 178 rfl rfl
set_option maxRecDepth 4000 in
theorem wt_246 : (Jvm.Cond.instanceMethod (⟨"PortsBench$Ratio", "putSmall", "(II)V"⟩ : Jvm.MethodName)) ∈ TT := TT_m1 179 rfl rfl
set_option maxRecDepth 4000 in
theorem wt_247 : (Jvm.Cond.selects "PortsBench$Ratio" (⟨"PortsBench$Ratio", "putSmall", "(II)V"⟩ : Jvm.MethodName) (⟨"PortsBench$Ratio", "putSmall", "(II)V"⟩ : Jvm.MethodName)) ∈ TT := TT_m1 180 rfl rfl
set_option maxRecDepth 4000 in
theorem wt_248 : (Jvm.Cond.code (⟨"PortsBench$Ratio", "putSmall", "(II)V"⟩ : Jvm.MethodName) prog_6_method_3_code (3 : Nat) (Option.none : Option Jvm.ClassFile.FieldType)) ∈ TT := TT_m1 181 rfl rfl
set_option maxRecDepth 4000 in
theorem wt_249 : (Jvm.Cond.methodLink "PortsBench$Ratio" (29 : Nat) (⟨"PortsBench$Gauss", "putSmall", "(I)V"⟩ : Jvm.MethodName)) ∈ TT := TT_m1 182 rfl rfl
set_option maxRecDepth 4000 in
theorem wt_250 : (Jvm.Cond.instanceMethod (⟨"PortsBench$Gauss", "putSmall", "(I)V"⟩ : Jvm.MethodName)) ∈ TT := TT_m1 183 rfl rfl
set_option maxRecDepth 4000 in
theorem wt_251 : (Jvm.Cond.selects "PortsBench$Gauss" (⟨"PortsBench$Gauss", "putSmall", "(I)V"⟩ : Jvm.MethodName) (⟨"PortsBench$Gauss", "putSmall", "(I)V"⟩ : Jvm.MethodName)) ∈ TT := TT_m1 184 rfl rfl
set_option maxRecDepth 4000 in
theorem wt_252 : (Jvm.Cond.code (⟨"PortsBench$Gauss", "putSmall", "(I)V"⟩ : Jvm.MethodName) prog_3_method_3_code (2 : Nat) (Option.none : Option Jvm.ClassFile.FieldType)) ∈ TT := TT_m1 185 rfl rfl
set_option maxRecDepth 4000 in
theorem wt_253 : (Jvm.Cond.methodLink "PortsBench$Gauss" (25 : Nat) (⟨"PortsBench$Whole", "putSmall", "(J)V"⟩ : Jvm.MethodName)) ∈ TT := TT_m1 186 rfl rfl
set_option maxRecDepth 4000 in
theorem wt_254 : (Jvm.Cond.instanceMethod (⟨"PortsBench$Whole", "putSmall", "(J)V"⟩ : Jvm.MethodName)) ∈ TT := TT_m1 187 rfl rfl
set_option maxRecDepth 4000 in
theorem wt_255 : (Jvm.Cond.selects "PortsBench$Whole" (⟨"PortsBench$Whole", "putSmall", "(J)V"⟩ : Jvm.MethodName) (⟨"PortsBench$Whole", "putSmall", "(J)V"⟩ : Jvm.MethodName)) ∈ TT := TT_m1 188 rfl rfl
set_option maxRecDepth 4000 in
theorem wt_256 : (Jvm.Cond.code (⟨"PortsBench$Whole", "putSmall", "(J)V"⟩ : Jvm.MethodName) prog_8_method_4_code (3 : Nat) (Option.none : Option Jvm.ClassFile.FieldType)) ∈ TT := TT_m1 189 rfl rfl
set_option maxRecDepth 4000 in
theorem wt_257 : (Jvm.Cond.constantLong "PortsBench$Whole" (22 : Nat) (1000000000 : Int64)) ∈ TT := TT_m1 190 rfl rfl
set_option maxRecDepth 4000 in
theorem wt_258 : (Jvm.Cond.methodLink "PortsBench$Whole" (24 : Nat) (⟨"PortsBench$Whole", "trim", "(II)V"⟩ : Jvm.MethodName)) ∈ TT := TT_m1 191 rfl rfl
set_option maxRecDepth 4000 in
theorem wt_259 : (Jvm.Cond.instanceMethod (⟨"PortsBench$Whole", "trim", "(II)V"⟩ : Jvm.MethodName)) ∈ TT := TT_m1 192 rfl rfl
set_option maxRecDepth 4000 in
theorem wt_260 : (Jvm.Cond.selects "PortsBench$Whole" (⟨"PortsBench$Whole", "trim", "(II)V"⟩ : Jvm.MethodName) (⟨"PortsBench$Whole", "trim", "(II)V"⟩ : Jvm.MethodName)) ∈ TT := TT_m1 193 rfl rfl
set_option maxRecDepth 4000 in
theorem wt_261 : (Jvm.Cond.code (⟨"PortsBench$Whole", "trim", "(II)V"⟩ : Jvm.MethodName) prog_8_method_10_code (4 : Nat) (Option.none : Option Jvm.ClassFile.FieldType)) ∈ TT := TT_m1 194 rfl rfl
set_option maxRecDepth 4000 in
theorem wt_262 : (Jvm.Cond.methodLink "PortsBench$Gauss" (29 : Nat) (⟨"PortsBench$Whole", "clear", "()V"⟩ : Jvm.MethodName)) ∈ TT := TT_m1 195 rfl rfl
set_option maxRecDepth 4000 in
theorem wt_263 : (Jvm.Cond.instanceMethod (⟨"PortsBench$Whole", "clear", "()V"⟩ : Jvm.MethodName)) ∈ TT := TT_m1 196 rfl rfl
set_option maxRecDepth 4000 in
theorem wt_264 : (Jvm.Cond.selects "PortsBench$Whole" (⟨"PortsBench$Whole", "clear", "()V"⟩ : Jvm.MethodName) (⟨"PortsBench$Whole", "clear", "()V"⟩ : Jvm.MethodName)) ∈ TT := TT_m1 197 rfl rfl
set_option maxRecDepth 4000 in
theorem wt_265 : (Jvm.Cond.code (⟨"PortsBench$Whole", "clear", "()V"⟩ : Jvm.MethodName) prog_8_method_2_code (1 : Nat) (Option.none : Option Jvm.ClassFile.FieldType)) ∈ TT := TT_m1 198 rfl rfl
set_option maxRecDepth 4000 in
theorem wt_266 : (Jvm.Cond.fieldLink "PortsBench$Acts" (17 : Nat) "PortsBench$Acts" "shelf" "LPortsBench$Shelf;") ∈ TT := TT_m1 199 rfl rfl
set_option maxRecDepth 4000 in
theorem wt_267 : (Jvm.Cond.fieldLink "PortsBench$Acts" (34 : Nat) "PortsBench$Acts" "lowest" "LPortsBench$Lowest;") ∈ TT := TT_m1 200 rfl rfl
set_option maxRecDepth 4000 in
theorem wt_268 : (Jvm.Cond.fieldLink "PortsBench$Acts" (44 : Nat) "PortsBench$Acts" "a" "[LPortsBench$Ratio;") ∈ TT := TT_m1 201 rfl rfl
set_option maxRecDepth 4000 in
theorem wt_269 : (Jvm.Cond.fieldLink "PortsBench$Acts" (48 : Nat) "PortsBench$Acts" "b" "[LPortsBench$Ratio;") ∈ TT := TT_m1 202 rfl rfl
set_option maxRecDepth 4000 in
theorem wt_270 : (Jvm.Cond.fieldLink "PortsBench$Acts" (54 : Nat) "PortsBench$Acts" "one" "LPortsBench$Ratio;") ∈ TT := TT_m1 203 rfl rfl
set_option maxRecDepth 4000 in
theorem wt_271 : (Jvm.Cond.fieldLink "PortsBench$Acts" (58 : Nat) "PortsBench$Acts" "quarter" "LPortsBench$Ratio;") ∈ TT := TT_m1 204 rfl rfl
set_option maxRecDepth 4000 in
theorem wt_272 : (Jvm.Cond.fieldLink "PortsBench$Acts" (61 : Nat) "PortsBench$Acts" "e" "LPortsBench$Ratio;") ∈ TT := TT_m1 205 rfl rfl
set_option maxRecDepth 4000 in
theorem wt_273 : (Jvm.Cond.fieldLink "PortsBench$Acts" (64 : Nat) "PortsBench$Acts" "f" "LPortsBench$Ratio;") ∈ TT := TT_m1 206 rfl rfl
set_option maxRecDepth 4000 in
theorem wt_274 : (Jvm.Cond.fieldLink "PortsBench$Acts" (67 : Nat) "PortsBench$Acts" "g" "LPortsBench$Ratio;") ∈ TT := TT_m1 207 rfl rfl
set_option maxRecDepth 4000 in
theorem wt_275 : (Jvm.Cond.fieldLink "PortsBench$Acts" (70 : Nat) "PortsBench$Acts" "t" "LPortsBench$Ratio;") ∈ TT := TT_m1 208 rfl rfl
set_option maxRecDepth 4000 in
theorem wt_276 : (Jvm.Cond.fieldLink "PortsBench$Acts" (73 : Nat) "PortsBench$Acts" "z" "LPortsBench$Ratio;") ∈ TT := TT_m1 209 rfl rfl
set_option maxRecDepth 4000 in
theorem wt_277 : (Jvm.Cond.fieldLink "PortsBench$Acts" (80 : Nat) "PortsBench$Acts" "rows" "[LPortsBench$Gauss;") ∈ TT := TT_m1 210 rfl rfl
set_option maxRecDepth 4000 in
theorem wt_278 : (Jvm.Cond.fieldLink "PortsBench$Acts" (84 : Nat) "PortsBench$Acts" "answers" "[LPortsBench$Gauss;") ∈ TT := TT_m1 211 rfl rfl
set_option maxRecDepth 4000 in
theorem wt_279 : (Jvm.Cond.fieldLink "PortsBench$Acts" (87 : Nat) "PortsBench$Acts" "minor" "LPortsBench$Gauss;") ∈ TT := TT_m1 212 rfl rfl
set_option maxRecDepth 4000 in
theorem wt_280 : (Jvm.Cond.fieldLink "PortsBench$Acts" (91 : Nat) "PortsBench$Acts" "term" "LPortsBench$Gauss;") ∈ TT := TT_m1 213 rfl rfl
set_option maxRecDepth 4000 in
theorem wt_281 : (Jvm.Cond.fieldLink "PortsBench$Acts" (94 : Nat) "PortsBench$Acts" "square" "LPortsBench$Gauss;") ∈ TT := TT_m1 214 rfl rfl
set_option maxRecDepth 4000 in
theorem wt_282 : (Jvm.Cond.laysFinal "PortsBench$Acts" "PortsBench$Acts" "shelf" "LPortsBench$Shelf;") ∈ TT := TT_m1 215 rfl rfl
set_option maxRecDepth 4000 in
theorem wt_284 : (Jvm.Cond.laysFinal "PortsBench$Acts" "PortsBench$Acts" "lowest" "LPortsBench$Lowest;") ∈ TT := TT_m1 217 rfl rfl
set_option maxRecDepth 4000 in
theorem wt_286 : (Jvm.Cond.laysFinal "PortsBench$Acts" "PortsBench$Acts" "a" "[LPortsBench$Ratio;") ∈ TT := TT_m1 219 rfl rfl
set_option maxRecDepth 4000 in
theorem wt_288 : (Jvm.Cond.laysFinal "PortsBench$Acts" "PortsBench$Acts" "b" "[LPortsBench$Ratio;") ∈ TT := TT_m1 221 rfl rfl
set_option maxRecDepth 4000 in
theorem wt_290 : (Jvm.Cond.laysFinal "PortsBench$Acts" "PortsBench$Acts" "one" "LPortsBench$Ratio;") ∈ TT := TT_m1 223 rfl rfl
set_option maxRecDepth 4000 in
theorem wt_292 : (Jvm.Cond.laysFinal "PortsBench$Acts" "PortsBench$Acts" "quarter" "LPortsBench$Ratio;") ∈ TT := TT_m1 225 rfl rfl
set_option maxRecDepth 4000 in
theorem wt_294 : (Jvm.Cond.laysFinal "PortsBench$Acts" "PortsBench$Acts" "e" "LPortsBench$Ratio;") ∈ TT := TT_m1 227 rfl rfl
set_option maxRecDepth 4000 in
theorem wt_296 : (Jvm.Cond.laysFinal "PortsBench$Acts" "PortsBench$Acts" "f" "LPortsBench$Ratio;") ∈ TT := TT_m1 229 rfl rfl
set_option maxRecDepth 4000 in
theorem wt_298 : (Jvm.Cond.laysFinal "PortsBench$Acts" "PortsBench$Acts" "g" "LPortsBench$Ratio;") ∈ TT := TT_m1 231 rfl rfl
set_option maxRecDepth 4000 in
theorem wt_300 : (Jvm.Cond.laysFinal "PortsBench$Acts" "PortsBench$Acts" "t" "LPortsBench$Ratio;") ∈ TT := TT_m1 233 rfl rfl
set_option maxRecDepth 4000 in
theorem wt_302 : (Jvm.Cond.laysFinal "PortsBench$Acts" "PortsBench$Acts" "z" "LPortsBench$Ratio;") ∈ TT := TT_m1 235 rfl rfl
set_option maxRecDepth 4000 in
theorem wt_304 : (Jvm.Cond.laysFinal "PortsBench$Acts" "PortsBench$Acts" "rows" "[LPortsBench$Gauss;") ∈ TT := TT_m1 237 rfl rfl
set_option maxRecDepth 4000 in
theorem wt_306 : (Jvm.Cond.laysFinal "PortsBench$Acts" "PortsBench$Acts" "answers" "[LPortsBench$Gauss;") ∈ TT := TT_m1 239 rfl rfl
set_option maxRecDepth 4000 in
theorem wt_308 : (Jvm.Cond.laysFinal "PortsBench$Acts" "PortsBench$Acts" "minor" "LPortsBench$Gauss;") ∈ TT := TT_m2 1 rfl rfl
set_option maxRecDepth 4000 in
theorem wt_310 : (Jvm.Cond.laysFinal "PortsBench$Acts" "PortsBench$Acts" "term" "LPortsBench$Gauss;") ∈ TT := TT_m2 3 rfl rfl
set_option maxRecDepth 4000 in
theorem wt_312 : (Jvm.Cond.laysFinal "PortsBench$Acts" "PortsBench$Acts" "square" "LPortsBench$Gauss;") ∈ TT := TT_m2 5 rfl rfl
set_option maxRecDepth 4000 in
theorem wt_315 : (Jvm.Cond.classLink "PortsBench" (25 : Nat) "PortsBench$Judge") ∈ TT := TT_m2 8 rfl rfl
set_option maxRecDepth 4000 in
theorem wt_316 : (Jvm.Cond.instantiable "PortsBench$Judge" (14 : Nat)) ∈ TT := TT_m2 9 rfl rfl
set_option maxRecDepth 4000 in
theorem wt_317 : (Jvm.Cond.methodLink "PortsBench" (27 : Nat) (⟨"PortsBench$Judge", "<init>", "()V"⟩ : Jvm.MethodName)) ∈ TT := TT_m2 10 rfl rfl
set_option maxRecDepth 4000 in
theorem wt_318 : (Jvm.Cond.instanceMethod (⟨"PortsBench$Judge", "<init>", "()V"⟩ : Jvm.MethodName)) ∈ TT := TT_m2 11 rfl rfl
set_option maxRecDepth 4000 in
theorem wt_319 : (Jvm.Cond.code (⟨"PortsBench$Judge", "<init>", "()V"⟩ : Jvm.MethodName) prog_4_method_1_code (2 : Nat) (Option.none : Option Jvm.ClassFile.FieldType)) ∈ TT := TT_m2 12 rfl rfl
set_option maxRecDepth 4000 in
theorem wt_320 : (Jvm.Cond.methodLink "PortsBench$Judge" (3 : Nat) (⟨"java/lang/Object", "<init>", "()V"⟩ : Jvm.MethodName)) ∈ TT := TT_m2 13 rfl rfl
set_option maxRecDepth 4000 in
theorem wt_321 : (Jvm.Cond.classLink "PortsBench$Judge" (9 : Nat) "PortsBench$Whole") ∈ TT := TT_m2 14 rfl rfl
set_option maxRecDepth 4000 in
theorem wt_323 : (Jvm.Cond.classLink "PortsBench$Judge" (12 : Nat) "PortsBench$Gauss") ∈ TT := TT_m2 16 rfl rfl
set_option maxRecDepth 4000 in
theorem wt_324 : (Jvm.Cond.methodLink "PortsBench$Judge" (14 : Nat) (⟨"PortsBench$Gauss", "<init>", "(LPortsBench$Whole;)V"⟩ : Jvm.MethodName)) ∈ TT := TT_m2 17 rfl rfl
set_option maxRecDepth 4000 in
theorem wt_325 : (Jvm.Cond.methodLink "PortsBench$Judge" (17 : Nat) (⟨"PortsBench$Ratio", "four", "(LPortsBench$Gauss;LPortsBench$Whole;)[LPortsBench$Ratio;"⟩ : Jvm.MethodName)) ∈ TT := TT_m2 18 rfl rfl
set_option maxRecDepth 4000 in
theorem wt_326 : (Jvm.Cond.fieldLink "PortsBench$Judge" (23 : Nat) "PortsBench$Judge" "s" "[LPortsBench$Ratio;") ∈ TT := TT_m2 19 rfl rfl
set_option maxRecDepth 4000 in
theorem wt_327 : (Jvm.Cond.fieldLink "PortsBench$Judge" (29 : Nat) "PortsBench$Judge" "mirrored" "LPortsBench$Gauss;") ∈ TT := TT_m2 20 rfl rfl
set_option maxRecDepth 4000 in
theorem wt_328 : (Jvm.Cond.fieldLink "PortsBench$Judge" (33 : Nat) "PortsBench$Judge" "under" "LPortsBench$Gauss;") ∈ TT := TT_m2 21 rfl rfl
set_option maxRecDepth 4000 in
theorem wt_329 : (Jvm.Cond.fieldLink "PortsBench$Judge" (36 : Nat) "PortsBench$Judge" "ofFirst" "LPortsBench$Gauss;") ∈ TT := TT_m2 22 rfl rfl
set_option maxRecDepth 4000 in
theorem wt_330 : (Jvm.Cond.fieldLink "PortsBench$Judge" (39 : Nat) "PortsBench$Judge" "ofSecond" "LPortsBench$Gauss;") ∈ TT := TT_m2 23 rfl rfl
set_option maxRecDepth 4000 in
theorem wt_331 : (Jvm.Cond.fieldLink "PortsBench$Judge" (42 : Nat) "PortsBench$Judge" "size" "LPortsBench$Whole;") ∈ TT := TT_m2 24 rfl rfl
set_option maxRecDepth 4000 in
theorem wt_332 : (Jvm.Cond.fieldLink "PortsBench$Judge" (46 : Nat) "PortsBench$Judge" "left" "LPortsBench$Whole;") ∈ TT := TT_m2 25 rfl rfl
set_option maxRecDepth 4000 in
theorem wt_333 : (Jvm.Cond.fieldLink "PortsBench$Judge" (49 : Nat) "PortsBench$Judge" "right" "LPortsBench$Whole;") ∈ TT := TT_m2 26 rfl rfl
set_option maxRecDepth 4000 in
theorem wt_334 : (Jvm.Cond.fieldLink "PortsBench$Judge" (52 : Nat) "PortsBench$Judge" "leftUnder" "LPortsBench$Whole;") ∈ TT := TT_m2 27 rfl rfl
set_option maxRecDepth 4000 in
theorem wt_335 : (Jvm.Cond.fieldLink "PortsBench$Judge" (55 : Nat) "PortsBench$Judge" "rightUnder" "LPortsBench$Whole;") ∈ TT := TT_m2 28 rfl rfl
set_option maxRecDepth 4000 in
theorem wt_336 : (Jvm.Cond.fieldLink "PortsBench$Judge" (58 : Nat) "PortsBench$Judge" "lackOfFirst" "LPortsBench$Whole;") ∈ TT := TT_m2 29 rfl rfl
set_option maxRecDepth 4000 in
theorem wt_337 : (Jvm.Cond.fieldLink "PortsBench$Judge" (61 : Nat) "PortsBench$Judge" "lackOfSecond" "LPortsBench$Whole;") ∈ TT := TT_m2 30 rfl rfl
set_option maxRecDepth 4000 in
theorem wt_338 : (Jvm.Cond.fieldLink "PortsBench$Judge" (64 : Nat) "PortsBench$Judge" "lacks" "LPortsBench$Whole;") ∈ TT := TT_m2 31 rfl rfl
set_option maxRecDepth 4000 in
theorem wt_339 : (Jvm.Cond.fieldLink "PortsBench$Judge" (67 : Nat) "PortsBench$Judge" "crossing" "LPortsBench$Whole;") ∈ TT := TT_m2 32 rfl rfl
set_option maxRecDepth 4000 in
theorem wt_340 : (Jvm.Cond.laysFinal "PortsBench$Judge" "PortsBench$Judge" "s" "[LPortsBench$Ratio;") ∈ TT := TT_m2 33 rfl rfl
set_option maxRecDepth 4000 in
theorem wt_342 : (Jvm.Cond.laysFinal "PortsBench$Judge" "PortsBench$Judge" "mirrored" "LPortsBench$Gauss;") ∈ TT := TT_m2 35 rfl rfl
set_option maxRecDepth 4000 in
theorem wt_344 : (Jvm.Cond.laysFinal "PortsBench$Judge" "PortsBench$Judge" "under" "LPortsBench$Gauss;") ∈ TT := TT_m2 37 rfl rfl
set_option maxRecDepth 4000 in
theorem wt_346 : (Jvm.Cond.laysFinal "PortsBench$Judge" "PortsBench$Judge" "ofFirst" "LPortsBench$Gauss;") ∈ TT := TT_m2 39 rfl rfl
set_option maxRecDepth 4000 in
theorem wt_348 : (Jvm.Cond.laysFinal "PortsBench$Judge" "PortsBench$Judge" "ofSecond" "LPortsBench$Gauss;") ∈ TT := TT_m2 41 rfl rfl
set_option maxRecDepth 4000 in
theorem wt_350 : (Jvm.Cond.laysFinal "PortsBench$Judge" "PortsBench$Judge" "size" "LPortsBench$Whole;") ∈ TT := TT_m2 43 rfl rfl
set_option maxRecDepth 4000 in
theorem wt_352 : (Jvm.Cond.laysFinal "PortsBench$Judge" "PortsBench$Judge" "left" "LPortsBench$Whole;") ∈ TT := TT_m2 45 rfl rfl
set_option maxRecDepth 4000 in
theorem wt_354 : (Jvm.Cond.laysFinal "PortsBench$Judge" "PortsBench$Judge" "right" "LPortsBench$Whole;") ∈ TT := TT_m2 47 rfl rfl
set_option maxRecDepth 4000 in
theorem wt_356 : (Jvm.Cond.laysFinal "PortsBench$Judge" "PortsBench$Judge" "leftUnder" "LPortsBench$Whole;") ∈ TT := TT_m2 49 rfl rfl
set_option maxRecDepth 4000 in
theorem wt_358 : (Jvm.Cond.laysFinal "PortsBench$Judge" "PortsBench$Judge" "rightUnder" "LPortsBench$Whole;") ∈ TT := TT_m2 51 rfl rfl
set_option maxRecDepth 4000 in
theorem wt_360 : (Jvm.Cond.laysFinal "PortsBench$Judge" "PortsBench$Judge" "lackOfFirst" "LPortsBench$Whole;") ∈ TT := TT_m2 53 rfl rfl
set_option maxRecDepth 4000 in
theorem wt_362 : (Jvm.Cond.laysFinal "PortsBench$Judge" "PortsBench$Judge" "lackOfSecond" "LPortsBench$Whole;") ∈ TT := TT_m2 55 rfl rfl
set_option maxRecDepth 4000 in
theorem wt_364 : (Jvm.Cond.laysFinal "PortsBench$Judge" "PortsBench$Judge" "lacks" "LPortsBench$Whole;") ∈ TT := TT_m2 57 rfl rfl
set_option maxRecDepth 4000 in
theorem wt_366 : (Jvm.Cond.laysFinal "PortsBench$Judge" "PortsBench$Judge" "crossing" "LPortsBench$Whole;") ∈ TT := TT_m2 59 rfl rfl
set_option maxRecDepth 4000 in
theorem wt_369 : (Jvm.Cond.fieldLink "PortsBench" (12 : Nat) "PortsBench" "shelf" "LPortsBench$Shelf;") ∈ TT := TT_m2 62 rfl rfl
set_option maxRecDepth 4000 in
theorem wt_370 : (Jvm.Cond.fieldLink "PortsBench" (21 : Nat) "PortsBench" "acts" "LPortsBench$Acts;") ∈ TT := TT_m2 63 rfl rfl
set_option maxRecDepth 4000 in
theorem wt_371 : (Jvm.Cond.fieldLink "PortsBench" (28 : Nat) "PortsBench" "judge" "LPortsBench$Judge;") ∈ TT := TT_m2 64 rfl rfl
set_option maxRecDepth 4000 in
theorem wt_372 : (Jvm.Cond.fieldLink "PortsBench" (32 : Nat) "PortsBench" "noTone" "I") ∈ TT := TT_m2 65 rfl rfl
set_option maxRecDepth 4000 in
theorem wt_373 : (Jvm.Cond.fieldLink "PortsBench" (36 : Nat) "PortsBench" "noDivisor" "I") ∈ TT := TT_m2 66 rfl rfl
set_option maxRecDepth 4000 in
theorem wt_374 : (Jvm.Cond.laysFinal "PortsBench" "PortsBench" "shelf" "LPortsBench$Shelf;") ∈ TT := TT_m2 67 rfl rfl
set_option maxRecDepth 4000 in
theorem wt_376 : (Jvm.Cond.laysFinal "PortsBench" "PortsBench" "acts" "LPortsBench$Acts;") ∈ TT := TT_m2 69 rfl rfl
set_option maxRecDepth 4000 in
theorem wt_378 : (Jvm.Cond.laysFinal "PortsBench" "PortsBench" "judge" "LPortsBench$Judge;") ∈ TT := TT_m2 71 rfl rfl
set_option maxRecDepth 4000 in
theorem wt_380 : (Jvm.Cond.lays "PortsBench" "PortsBench" "noTone" "I") ∈ TT := TT_m2 73 rfl rfl
set_option maxRecDepth 4000 in
theorem wt_382 : (Jvm.Cond.lays "PortsBench" "PortsBench" "noDivisor" "I") ∈ TT := TT_m2 75 rfl rfl
set_option maxRecDepth 4000 in
theorem wt_385 : (Jvm.Cond.methodLink "PortsBenchLaw" (13 : Nat) (⟨"PortsBench", "box", "(I)I"⟩ : Jvm.MethodName)) ∈ TT := TT_m2 78 rfl rfl
set_option maxRecDepth 4000 in
theorem wt_386 : (Jvm.Cond.instanceMethod (⟨"PortsBench", "box", "(I)I"⟩ : Jvm.MethodName)) ∈ TT := TT_m2 79 rfl rfl
set_option maxRecDepth 4000 in
theorem wt_387 : (Jvm.Cond.selects "PortsBench" (⟨"PortsBench", "box", "(I)I"⟩ : Jvm.MethodName) (⟨"PortsBench", "box", "(I)I"⟩ : Jvm.MethodName)) ∈ TT := TT_m2 80 rfl rfl
set_option maxRecDepth 4000 in
theorem wt_388 : (Jvm.Cond.code (⟨"PortsBench", "box", "(I)I"⟩ : Jvm.MethodName) prog_1_method_2_code (2 : Nat) (Option.some Jvm.ClassFile.FieldType.int)) ∈ TT := TT_m2 81 rfl rfl
set_option maxRecDepth 4000 in
theorem wt_389 : (Jvm.Cond.methodLink "PortsBench" (39 : Nat) (⟨"PortsBench$Shelf", "addBox", "(I)I"⟩ : Jvm.MethodName)) ∈ TT := TT_m2 82 rfl rfl
set_option maxRecDepth 4000 in
theorem wt_390 : (Jvm.Cond.instanceMethod (⟨"PortsBench$Shelf", "addBox", "(I)I"⟩ : Jvm.MethodName)) ∈ TT := TT_m2 83 rfl rfl
set_option maxRecDepth 4000 in
theorem wt_391 : (Jvm.Cond.selects "PortsBench$Shelf" (⟨"PortsBench$Shelf", "addBox", "(I)I"⟩ : Jvm.MethodName) (⟨"PortsBench$Shelf", "addBox", "(I)I"⟩ : Jvm.MethodName)) ∈ TT := TT_m2 84 rfl rfl
set_option maxRecDepth 4000 in
theorem wt_392 : (Jvm.Cond.code (⟨"PortsBench$Shelf", "addBox", "(I)I"⟩ : Jvm.MethodName) prog_7_method_2_code (4 : Nat) (Option.some Jvm.ClassFile.FieldType.int)) ∈ TT := TT_m2 85 rfl rfl
set_option maxRecDepth 4000 in
theorem wt_394 : (Jvm.Cond.static (⟨"PortsBench", "place", "(III)I"⟩ : Jvm.MethodName)) ∈ TT := TT_m2 87 rfl rfl
set_option maxRecDepth 4000 in
theorem wt_395 : (Jvm.Cond.code (⟨"PortsBench", "place", "(III)I"⟩ : Jvm.MethodName) prog_1_method_30_code (3 : Nat) (Option.some Jvm.ClassFile.FieldType.int)) ∈ TT := TT_m2 88 rfl rfl
set_option maxRecDepth 4000 in
theorem wt_396 : (Jvm.Cond.methodLink "PortsBenchLaw" (18 : Nat) (⟨"PortsBench", "set", "(IIIIIII)I"⟩ : Jvm.MethodName)) ∈ TT := TT_m2 89 rfl rfl
set_option maxRecDepth 4000 in
theorem wt_397 : (Jvm.Cond.instanceMethod (⟨"PortsBench", "set", "(IIIIIII)I"⟩ : Jvm.MethodName)) ∈ TT := TT_m2 90 rfl rfl
set_option maxRecDepth 4000 in
theorem wt_398 : (Jvm.Cond.selects "PortsBench" (⟨"PortsBench", "set", "(IIIIIII)I"⟩ : Jvm.MethodName) (⟨"PortsBench", "set", "(IIIIIII)I"⟩ : Jvm.MethodName)) ∈ TT := TT_m2 91 rfl rfl
set_option maxRecDepth 4000 in
theorem wt_399 : (Jvm.Cond.code (⟨"PortsBench", "set", "(IIIIIII)I"⟩ : Jvm.MethodName) prog_1_method_3_code (8 : Nat) (Option.some Jvm.ClassFile.FieldType.int)) ∈ TT := TT_m2 92 rfl rfl
set_option maxRecDepth 4000 in
theorem wt_400 : (Jvm.Cond.methodLink "PortsBench" (43 : Nat) (⟨"PortsBench", "isTone", "(I)Z"⟩ : Jvm.MethodName)) ∈ TT := TT_m2 93 rfl rfl
set_option maxRecDepth 4000 in
theorem wt_401 : (Jvm.Cond.static (⟨"PortsBench", "isTone", "(I)Z"⟩ : Jvm.MethodName)) ∈ TT := TT_m2 94 rfl rfl
set_option maxRecDepth 4000 in
theorem wt_402 : (Jvm.Cond.code (⟨"PortsBench", "isTone", "(I)Z"⟩ : Jvm.MethodName) prog_1_method_27_code (1 : Nat) (Option.some Jvm.ClassFile.FieldType.boolean)) ∈ TT := TT_m2 95 rfl rfl
set_option maxRecDepth 4000 in
theorem wt_403 : (Jvm.Cond.methodLink "PortsBench" (47 : Nat) (⟨"PortsBench$Shelf", "hasEntry", "(III)Z"⟩ : Jvm.MethodName)) ∈ TT := TT_m2 96 rfl rfl
set_option maxRecDepth 4000 in
theorem wt_404 : (Jvm.Cond.instanceMethod (⟨"PortsBench$Shelf", "hasEntry", "(III)Z"⟩ : Jvm.MethodName)) ∈ TT := TT_m2 97 rfl rfl
set_option maxRecDepth 4000 in
theorem wt_405 : (Jvm.Cond.selects "PortsBench$Shelf" (⟨"PortsBench$Shelf", "hasEntry", "(III)Z"⟩ : Jvm.MethodName) (⟨"PortsBench$Shelf", "hasEntry", "(III)Z"⟩ : Jvm.MethodName)) ∈ TT := TT_m2 98 rfl rfl
set_option maxRecDepth 4000 in
theorem wt_406 : (Jvm.Cond.code (⟨"PortsBench$Shelf", "hasEntry", "(III)Z"⟩ : Jvm.MethodName) prog_7_method_5_code (4 : Nat) (Option.some Jvm.ClassFile.FieldType.boolean)) ∈ TT := TT_m2 99 rfl rfl
set_option maxRecDepth 4000 in
theorem wt_407 : (Jvm.Cond.methodLink "PortsBench$Shelf" (35 : Nat) (⟨"PortsBench$Shelf", "hasBox", "(I)Z"⟩ : Jvm.MethodName)) ∈ TT := TT_m2 100 rfl rfl
set_option maxRecDepth 4000 in
theorem wt_408 : (Jvm.Cond.instanceMethod (⟨"PortsBench$Shelf", "hasBox", "(I)Z"⟩ : Jvm.MethodName)) ∈ TT := TT_m2 101 rfl rfl
set_option maxRecDepth 4000 in
theorem wt_409 : (Jvm.Cond.selects "PortsBench$Shelf" (⟨"PortsBench$Shelf", "hasBox", "(I)Z"⟩ : Jvm.MethodName) (⟨"PortsBench$Shelf", "hasBox", "(I)Z"⟩ : Jvm.MethodName)) ∈ TT := TT_m2 102 rfl rfl
set_option maxRecDepth 4000 in
theorem wt_410 : (Jvm.Cond.code (⟨"PortsBench$Shelf", "hasBox", "(I)Z"⟩ : Jvm.MethodName) prog_7_method_3_code (2 : Nat) (Option.some Jvm.ClassFile.FieldType.boolean)) ∈ TT := TT_m2 103 rfl rfl
set_option maxRecDepth 4000 in
theorem wt_411 : (Jvm.Cond.methodLink "PortsBench" (51 : Nat) (⟨"PortsBench", "mayBeGiven", "(III)Z"⟩ : Jvm.MethodName)) ∈ TT := TT_m2 104 rfl rfl
set_option maxRecDepth 4000 in
theorem wt_412 : (Jvm.Cond.static (⟨"PortsBench", "mayBeGiven", "(III)Z"⟩ : Jvm.MethodName)) ∈ TT := TT_m2 105 rfl rfl
set_option maxRecDepth 4000 in
theorem wt_413 : (Jvm.Cond.code (⟨"PortsBench", "mayBeGiven", "(III)Z"⟩ : Jvm.MethodName) prog_1_method_28_code (3 : Nat) (Option.some Jvm.ClassFile.FieldType.boolean)) ∈ TT := TT_m2 106 rfl rfl
set_option maxRecDepth 4000 in
theorem wt_414 : (Jvm.Cond.constant "PortsBench" (162 : Nat) (-1000000 : Int32)) ∈ TT := TT_m2 107 rfl rfl
set_option maxRecDepth 4000 in
theorem wt_415 : (Jvm.Cond.constant "PortsBench" (163 : Nat) (1000000 : Int32)) ∈ TT := TT_m2 108 rfl rfl
set_option maxRecDepth 4000 in
theorem wt_416 : (Jvm.Cond.methodLink "PortsBench" (54 : Nat) (⟨"PortsBench$Shelf", "startDraft", "(I)V"⟩ : Jvm.MethodName)) ∈ TT := TT_m2 109 rfl rfl
set_option maxRecDepth 4000 in
theorem wt_417 : (Jvm.Cond.instanceMethod (⟨"PortsBench$Shelf", "startDraft", "(I)V"⟩ : Jvm.MethodName)) ∈ TT := TT_m2 110 rfl rfl
set_option maxRecDepth 4000 in
theorem wt_418 : (Jvm.Cond.selects "PortsBench$Shelf" (⟨"PortsBench$Shelf", "startDraft", "(I)V"⟩ : Jvm.MethodName) (⟨"PortsBench$Shelf", "startDraft", "(I)V"⟩ : Jvm.MethodName)) ∈ TT := TT_m2 111 rfl rfl
set_option maxRecDepth 4000 in
theorem wt_419 : (Jvm.Cond.code (⟨"PortsBench$Shelf", "startDraft", "(I)V"⟩ : Jvm.MethodName) prog_7_method_8_code (2 : Nat) (Option.none : Option Jvm.ClassFile.FieldType)) ∈ TT := TT_m2 112 rfl rfl
set_option maxRecDepth 4000 in
theorem wt_420 : (Jvm.Cond.methodLink "PortsBench$Shelf" (39 : Nat) (⟨"java/lang/System", "arraycopy", "(Ljava/lang/Object;ILjava/lang/Object;II)V"⟩ : Jvm.MethodName)) ∈ TT := TT_m2 113 rfl rfl
set_option maxRecDepth 4000 in
theorem wt_421 : (Jvm.Cond.static (⟨"java/lang/System", "arraycopy", "(Ljava/lang/Object;ILjava/lang/Object;II)V"⟩ : Jvm.MethodName)) ∈ TT := TT_m2 114 rfl rfl
set_option maxRecDepth 4000 in
theorem wt_422 : (Jvm.Cond.native (⟨"java/lang/System", "arraycopy", "(Ljava/lang/Object;ILjava/lang/Object;II)V"⟩ : Jvm.MethodName)) ∈ TT := TT_m2 115 rfl rfl
set_option maxRecDepth 4000 in
theorem wt_423 : (Jvm.Cond.methodLink "PortsBench" (58 : Nat) (⟨"PortsBench", "entry", "(II)I"⟩ : Jvm.MethodName)) ∈ TT := TT_m2 116 rfl rfl
set_option maxRecDepth 4000 in
theorem wt_424 : (Jvm.Cond.static (⟨"PortsBench", "entry", "(II)I"⟩ : Jvm.MethodName)) ∈ TT := TT_m2 117 rfl rfl
set_option maxRecDepth 4000 in
theorem wt_425 : (Jvm.Cond.code (⟨"PortsBench", "entry", "(II)I"⟩ : Jvm.MethodName) prog_1_method_29_code (2 : Nat) (Option.some Jvm.ClassFile.FieldType.int)) ∈ TT := TT_m2 118 rfl rfl
set_option maxRecDepth 4000 in
theorem wt_426 : (Jvm.Cond.methodLink "PortsBench" (62 : Nat) (⟨"PortsBench$Shelf", "draftSmall", "(IIIII)V"⟩ : Jvm.MethodName)) ∈ TT := TT_m2 119 rfl rfl
set_option maxRecDepth 4000 in
theorem wt_427 : (Jvm.Cond.instanceMethod (⟨"PortsBench$Shelf", "draftSmall", "(IIIII)V"⟩ : Jvm.MethodName)) ∈ TT := TT_m2 120 rfl rfl
set_option maxRecDepth 4000 in
theorem wt_428 : (Jvm.Cond.selects "PortsBench$Shelf" (⟨"PortsBench$Shelf", "draftSmall", "(IIIII)V"⟩ : Jvm.MethodName) (⟨"PortsBench$Shelf", "draftSmall", "(IIIII)V"⟩ : Jvm.MethodName)) ∈ TT := TT_m2 121 rfl rfl
set_option maxRecDepth 4000 in
theorem wt_429 : (Jvm.Cond.code (⟨"PortsBench$Shelf", "draftSmall", "(IIIII)V"⟩ : Jvm.MethodName) prog_7_method_10_code (10 : Nat) (Option.none : Option Jvm.ClassFile.FieldType)) ∈ TT := TT_m2 122 rfl rfl
set_option maxRecDepth 4000 in
theorem wt_430 : (Jvm.Cond.methodLink "PortsBench$Shelf" (45 : Nat) (⟨"java/lang/Math", "abs", "(I)I"⟩ : Jvm.MethodName)) ∈ TT := TT_m2 123 rfl rfl
set_option maxRecDepth 4000 in
theorem wt_431 : (Jvm.Cond.static (⟨"java/lang/Math", "abs", "(I)I"⟩ : Jvm.MethodName)) ∈ TT := TT_m2 124 rfl rfl
set_option maxRecDepth 4000 in
theorem wt_432 : (Jvm.Cond.code (⟨"java/lang/Math", "abs", "(I)I"⟩ : Jvm.MethodName) prog_11_method_59_code (1 : Nat) (Option.some Jvm.ClassFile.FieldType.int)) ∈ TT := TT_m2 125 rfl rfl
set_option maxRecDepth 4000 in
theorem wt_433 : (Jvm.Cond.methodLink "PortsBench$Shelf" (51 : Nat) (⟨"PortsBench$Whole", "shortGcd", "(JJ)J"⟩ : Jvm.MethodName)) ∈ TT := TT_m2 126 rfl rfl
set_option maxRecDepth 4000 in
theorem wt_434 : (Jvm.Cond.static (⟨"PortsBench$Whole", "shortGcd", "(JJ)J"⟩ : Jvm.MethodName)) ∈ TT := TT_m2 127 rfl rfl
set_option maxRecDepth 4000 in
theorem wt_435 : (Jvm.Cond.code (⟨"PortsBench$Whole", "shortGcd", "(JJ)J"⟩ : Jvm.MethodName) prog_8_method_3_code (11 : Nat) (Option.some Jvm.ClassFile.FieldType.long)) ∈ TT := TT_m2 128 rfl rfl
set_option maxRecDepth 4000 in
theorem wt_436 : (Jvm.Cond.methodLink "PortsBench" (66 : Nat) (⟨"PortsBench$Shelf", "keepDraft", "(I)V"⟩ : Jvm.MethodName)) ∈ TT := TT_m2 129 rfl rfl
set_option maxRecDepth 4000 in
theorem wt_437 : (Jvm.Cond.instanceMethod (⟨"PortsBench$Shelf", "keepDraft", "(I)V"⟩ : Jvm.MethodName)) ∈ TT := TT_m2 130 rfl rfl
set_option maxRecDepth 4000 in
theorem wt_438 : (Jvm.Cond.selects "PortsBench$Shelf" (⟨"PortsBench$Shelf", "keepDraft", "(I)V"⟩ : Jvm.MethodName) (⟨"PortsBench$Shelf", "keepDraft", "(I)V"⟩ : Jvm.MethodName)) ∈ TT := TT_m2 131 rfl rfl
set_option maxRecDepth 4000 in
theorem wt_439 : (Jvm.Cond.code (⟨"PortsBench$Shelf", "keepDraft", "(I)V"⟩ : Jvm.MethodName) prog_7_method_11_code (2 : Nat) (Option.none : Option Jvm.ClassFile.FieldType)) ∈ TT := TT_m2 132 rfl rfl
set_option maxRecDepth 4000 in
theorem wt_440 : (Jvm.Cond.methodLink "PortsBench$Shelf" (63 : Nat) (⟨"java/lang/Math", "min", "(II)I"⟩ : Jvm.MethodName)) ∈ TT := TT_m2 133 rfl rfl
set_option maxRecDepth 4000 in
theorem wt_441 : (Jvm.Cond.static (⟨"java/lang/Math", "min", "(II)I"⟩ : Jvm.MethodName)) ∈ TT := TT_m2 134 rfl rfl
set_option maxRecDepth 4000 in
theorem wt_442 : (Jvm.Cond.code (⟨"java/lang/Math", "min", "(II)I"⟩ : Jvm.MethodName) prog_11_method_69_code (2 : Nat) (Option.some Jvm.ClassFile.FieldType.int)) ∈ TT := TT_m2 135 rfl rfl
set_option maxRecDepth 4000 in
theorem wt_443 : (Jvm.Cond.methodLink "PortsBenchLaw" (23 : Nat) (⟨"PortsBench", "all", "(IIIIII)I"⟩ : Jvm.MethodName)) ∈ TT := TT_m2 136 rfl rfl
set_option maxRecDepth 4000 in
theorem wt_444 : (Jvm.Cond.instanceMethod (⟨"PortsBench", "all", "(IIIIII)I"⟩ : Jvm.MethodName)) ∈ TT := TT_m2 137 rfl rfl
set_option maxRecDepth 4000 in
theorem wt_445 : (Jvm.Cond.selects "PortsBench" (⟨"PortsBench", "all", "(IIIIII)I"⟩ : Jvm.MethodName) (⟨"PortsBench", "all", "(IIIIII)I"⟩ : Jvm.MethodName)) ∈ TT := TT_m2 138 rfl rfl
set_option maxRecDepth 4000 in
theorem wt_446 : (Jvm.Cond.code (⟨"PortsBench", "all", "(IIIIII)I"⟩ : Jvm.MethodName) prog_1_method_4_code (8 : Nat) (Option.some Jvm.ClassFile.FieldType.int)) ∈ TT := TT_m2 139 rfl rfl
set_option maxRecDepth 4000 in
theorem wt_447 : (Jvm.Cond.methodLink "PortsBenchLaw" (28 : Nat) (⟨"PortsBench", "copy", "(II)I"⟩ : Jvm.MethodName)) ∈ TT := TT_m2 140 rfl rfl
set_option maxRecDepth 4000 in
theorem wt_448 : (Jvm.Cond.instanceMethod (⟨"PortsBench", "copy", "(II)I"⟩ : Jvm.MethodName)) ∈ TT := TT_m2 141 rfl rfl
set_option maxRecDepth 4000 in
theorem wt_449 : (Jvm.Cond.selects "PortsBench" (⟨"PortsBench", "copy", "(II)I"⟩ : Jvm.MethodName) (⟨"PortsBench", "copy", "(II)I"⟩ : Jvm.MethodName)) ∈ TT := TT_m2 142 rfl rfl
set_option maxRecDepth 4000 in
theorem wt_450 : (Jvm.Cond.code (⟨"PortsBench", "copy", "(II)I"⟩ : Jvm.MethodName) prog_1_method_5_code (3 : Nat) (Option.some Jvm.ClassFile.FieldType.int)) ∈ TT := TT_m2 143 rfl rfl
set_option maxRecDepth 4000 in
theorem wt_451 : (Jvm.Cond.methodLink "PortsBench" (69 : Nat) (⟨"PortsBench$Shelf", "hasBox", "(I)Z"⟩ : Jvm.MethodName)) ∈ TT := TT_m2 144 rfl rfl
set_option maxRecDepth 4000 in
theorem wt_452 : (Jvm.Cond.methodLink "PortsBench" (72 : Nat) (⟨"PortsBench$Shelf", "portsOf", "(I)I"⟩ : Jvm.MethodName)) ∈ TT := TT_m2 145 rfl rfl
set_option maxRecDepth 4000 in
theorem wt_453 : (Jvm.Cond.instanceMethod (⟨"PortsBench$Shelf", "portsOf", "(I)I"⟩ : Jvm.MethodName)) ∈ TT := TT_m2 146 rfl rfl
set_option maxRecDepth 4000 in
theorem wt_454 : (Jvm.Cond.selects "PortsBench$Shelf" (⟨"PortsBench$Shelf", "portsOf", "(I)I"⟩ : Jvm.MethodName) (⟨"PortsBench$Shelf", "portsOf", "(I)I"⟩ : Jvm.MethodName)) ∈ TT := TT_m2 147 rfl rfl
set_option maxRecDepth 4000 in
theorem wt_455 : (Jvm.Cond.code (⟨"PortsBench$Shelf", "portsOf", "(I)I"⟩ : Jvm.MethodName) prog_7_method_6_code (2 : Nat) (Option.some Jvm.ClassFile.FieldType.int)) ∈ TT := TT_m2 148 rfl rfl
set_option maxRecDepth 4000 in
theorem wt_456 : (Jvm.Cond.methodLink "PortsBenchLaw" (33 : Nat) (⟨"PortsBench", "join", "(III)I"⟩ : Jvm.MethodName)) ∈ TT := TT_m2 149 rfl rfl
set_option maxRecDepth 4000 in
theorem wt_457 : (Jvm.Cond.instanceMethod (⟨"PortsBench", "join", "(III)I"⟩ : Jvm.MethodName)) ∈ TT := TT_m2 150 rfl rfl
set_option maxRecDepth 4000 in
theorem wt_458 : (Jvm.Cond.selects "PortsBench" (⟨"PortsBench", "join", "(III)I"⟩ : Jvm.MethodName) (⟨"PortsBench", "join", "(III)I"⟩ : Jvm.MethodName)) ∈ TT := TT_m2 151 rfl rfl
set_option maxRecDepth 4000 in
theorem wt_459 : (Jvm.Cond.code (⟨"PortsBench", "join", "(III)I"⟩ : Jvm.MethodName) prog_1_method_6_code (6 : Nat) (Option.some Jvm.ClassFile.FieldType.int)) ∈ TT := TT_m2 152 rfl rfl
set_option maxRecDepth 4000 in
theorem wt_460 : (Jvm.Cond.methodLink "PortsBench" (75 : Nat) (⟨"PortsBench$Shelf", "hasBoxWith", "(II)Z"⟩ : Jvm.MethodName)) ∈ TT := TT_m2 153 rfl rfl
set_option maxRecDepth 4000 in
theorem wt_461 : (Jvm.Cond.instanceMethod (⟨"PortsBench$Shelf", "hasBoxWith", "(II)Z"⟩ : Jvm.MethodName)) ∈ TT := TT_m2 154 rfl rfl
set_option maxRecDepth 4000 in
theorem wt_462 : (Jvm.Cond.selects "PortsBench$Shelf" (⟨"PortsBench$Shelf", "hasBoxWith", "(II)Z"⟩ : Jvm.MethodName) (⟨"PortsBench$Shelf", "hasBoxWith", "(II)Z"⟩ : Jvm.MethodName)) ∈ TT := TT_m2 155 rfl rfl
set_option maxRecDepth 4000 in
theorem wt_463 : (Jvm.Cond.code (⟨"PortsBench$Shelf", "hasBoxWith", "(II)Z"⟩ : Jvm.MethodName) prog_7_method_4_code (3 : Nat) (Option.some Jvm.ClassFile.FieldType.boolean)) ∈ TT := TT_m2 156 rfl rfl
set_option maxRecDepth 4000 in
theorem wt_464 : (Jvm.Cond.methodLink "PortsBench" (79 : Nat) (⟨"PortsBench$Acts", "start", "(I)V"⟩ : Jvm.MethodName)) ∈ TT := TT_m2 157 rfl rfl
set_option maxRecDepth 4000 in
theorem wt_465 : (Jvm.Cond.instanceMethod (⟨"PortsBench$Acts", "start", "(I)V"⟩ : Jvm.MethodName)) ∈ TT := TT_m2 158 rfl rfl
set_option maxRecDepth 4000 in
theorem wt_466 : (Jvm.Cond.selects "PortsBench$Acts" (⟨"PortsBench$Acts", "start", "(I)V"⟩ : Jvm.MethodName) (⟨"PortsBench$Acts", "start", "(I)V"⟩ : Jvm.MethodName)) ∈ TT := TT_m2 159 rfl rfl
set_option maxRecDepth 4000 in
theorem wt_467 : (Jvm.Cond.code (⟨"PortsBench$Acts", "start", "(I)V"⟩ : Jvm.MethodName) prog_2_method_2_code (2 : Nat) (Option.none : Option Jvm.ClassFile.FieldType)) ∈ TT := TT_m2 160 rfl rfl
set_option maxRecDepth 4000 in
theorem wt_468 : (Jvm.Cond.methodLink "PortsBench$Acts" (105 : Nat) (⟨"PortsBench$Shelf", "startDraft", "(I)V"⟩ : Jvm.MethodName)) ∈ TT := TT_m2 161 rfl rfl
set_option maxRecDepth 4000 in
theorem wt_469 : (Jvm.Cond.methodLink "PortsBench" (82 : Nat) (⟨"PortsBench$Acts", "joined", "(III)I"⟩ : Jvm.MethodName)) ∈ TT := TT_m2 162 rfl rfl
set_option maxRecDepth 4000 in
theorem wt_470 : (Jvm.Cond.instanceMethod (⟨"PortsBench$Acts", "joined", "(III)I"⟩ : Jvm.MethodName)) ∈ TT := TT_m2 163 rfl rfl
set_option maxRecDepth 4000 in
theorem wt_471 : (Jvm.Cond.selects "PortsBench$Acts" (⟨"PortsBench$Acts", "joined", "(III)I"⟩ : Jvm.MethodName) (⟨"PortsBench$Acts", "joined", "(III)I"⟩ : Jvm.MethodName)) ∈ TT := TT_m2 164 rfl rfl
set_option maxRecDepth 4000 in
theorem wt_472 : (Jvm.Cond.code (⟨"PortsBench$Acts", "joined", "(III)I"⟩ : Jvm.MethodName) prog_2_method_5_code (4 : Nat) (Option.some Jvm.ClassFile.FieldType.int)) ∈ TT := TT_m2 165 rfl rfl
set_option maxRecDepth 4000 in
theorem wt_473 : (Jvm.Cond.methodLink "PortsBench$Acts" (120 : Nat) (⟨"PortsBench$Acts", "loadBox", "([LPortsBench$Ratio;IIZ)V"⟩ : Jvm.MethodName)) ∈ TT := TT_m2 166 rfl rfl
set_option maxRecDepth 4000 in
theorem wt_475 : (Jvm.Cond.instanceMethod (⟨"PortsBench$Acts", "loadBox", "([LPortsBench$Ratio;IIZ)V"⟩ : Jvm.MethodName)) ∈ TT := TT_m2 168 rfl rfl
set_option maxRecDepth 4000 in
theorem wt_476 : (Jvm.Cond.code (⟨"PortsBench$Acts", "loadBox", "([LPortsBench$Ratio;IIZ)V"⟩ : Jvm.MethodName) prog_2_method_4_code (7 : Nat) (Option.none : Option Jvm.ClassFile.FieldType)) ∈ TT := TT_m2 169 rfl rfl
set_option maxRecDepth 4000 in
theorem wt_478 : (Jvm.Cond.methodLink "PortsBench$Acts" (116 : Nat) (⟨"PortsBench$Ratio", "load", "([II)V"⟩ : Jvm.MethodName)) ∈ TT := TT_m2 171 rfl rfl
set_option maxRecDepth 4000 in
theorem wt_479 : (Jvm.Cond.instanceMethod (⟨"PortsBench$Ratio", "load", "([II)V"⟩ : Jvm.MethodName)) ∈ TT := TT_m2 172 rfl rfl
set_option maxRecDepth 4000 in
theorem wt_480 : (Jvm.Cond.selects "PortsBench$Ratio" (⟨"PortsBench$Ratio", "load", "([II)V"⟩ : Jvm.MethodName) (⟨"PortsBench$Ratio", "load", "([II)V"⟩ : Jvm.MethodName)) ∈ TT := TT_m2 173 rfl rfl
set_option maxRecDepth 4000 in
theorem wt_481 : (Jvm.Cond.code (⟨"PortsBench$Ratio", "load", "([II)V"⟩ : Jvm.MethodName) prog_6_method_4_code (3 : Nat) (Option.none : Option Jvm.ClassFile.FieldType)) ∈ TT := TT_m2 174 rfl rfl
set_option maxRecDepth 4000 in
theorem wt_482 : (Jvm.Cond.methodLink "PortsBench$Ratio" (37 : Nat) (⟨"PortsBench$Whole", "load", "([II)V"⟩ : Jvm.MethodName)) ∈ TT := TT_m2 175 rfl rfl
set_option maxRecDepth 4000 in
theorem wt_483 : (Jvm.Cond.instanceMethod (⟨"PortsBench$Whole", "load", "([II)V"⟩ : Jvm.MethodName)) ∈ TT := TT_m2 176 rfl rfl
set_option maxRecDepth 4000 in
theorem wt_484 : (Jvm.Cond.selects "PortsBench$Whole" (⟨"PortsBench$Whole", "load", "([II)V"⟩ : Jvm.MethodName) (⟨"PortsBench$Whole", "load", "([II)V"⟩ : Jvm.MethodName)) ∈ TT := TT_m2 177 rfl rfl
set_option maxRecDepth 4000 in
theorem wt_485 : (Jvm.Cond.code (⟨"PortsBench$Whole", "load", "([II)V"⟩ : Jvm.MethodName) prog_8_method_5_code (6 : Nat) (Option.none : Option Jvm.ClassFile.FieldType)) ∈ TT := TT_m2 178 rfl rfl
set_option maxRecDepth 4000 in
theorem wt_486 : (Jvm.Cond.methodLink "PortsBench$Whole" (28 : Nat) (⟨"java/lang/Math", "abs", "(I)I"⟩ : Jvm.MethodName)) ∈ TT := TT_m2 179 rfl rfl
set_option maxRecDepth 4000 in
theorem wt_487 : (Jvm.Cond.methodLink "PortsBench$Ratio" (46 : Nat) (⟨"PortsBench$Whole", "clear", "()V"⟩ : Jvm.MethodName)) ∈ TT := TT_m2 180 rfl rfl
set_option maxRecDepth 4000 in
theorem wt_488 : (Jvm.Cond.methodLink "PortsBench$Acts" (124 : Nat) (⟨"PortsBench$Ratio", "product", "(LPortsBench$Ratio;LPortsBench$Ratio;)V"⟩ : Jvm.MethodName)) ∈ TT := TT_m2 181 rfl rfl
set_option maxRecDepth 4000 in
theorem wt_489 : (Jvm.Cond.instanceMethod (⟨"PortsBench$Ratio", "product", "(LPortsBench$Ratio;LPortsBench$Ratio;)V"⟩ : Jvm.MethodName)) ∈ TT := TT_m2 182 rfl rfl
set_option maxRecDepth 4000 in
theorem wt_490 : (Jvm.Cond.selects "PortsBench$Ratio" (⟨"PortsBench$Ratio", "product", "(LPortsBench$Ratio;LPortsBench$Ratio;)V"⟩ : Jvm.MethodName) (⟨"PortsBench$Ratio", "product", "(LPortsBench$Ratio;LPortsBench$Ratio;)V"⟩ : Jvm.MethodName)) ∈ TT := TT_m2 183 rfl rfl
set_option maxRecDepth 4000 in
theorem wt_491 : (Jvm.Cond.code (⟨"PortsBench$Ratio", "product", "(LPortsBench$Ratio;LPortsBench$Ratio;)V"⟩ : Jvm.MethodName) prog_6_method_6_code (3 : Nat) (Option.none : Option Jvm.ClassFile.FieldType)) ∈ TT := TT_m2 184 rfl rfl
set_option maxRecDepth 4000 in
theorem wt_492 : (Jvm.Cond.methodLink "PortsBench$Ratio" (53 : Nat) (⟨"PortsBench$Gauss", "product", "(LPortsBench$Gauss;LPortsBench$Gauss;I)V"⟩ : Jvm.MethodName)) ∈ TT := TT_m2 185 rfl rfl
set_option maxRecDepth 4000 in
theorem wt_493 : (Jvm.Cond.instanceMethod (⟨"PortsBench$Gauss", "product", "(LPortsBench$Gauss;LPortsBench$Gauss;I)V"⟩ : Jvm.MethodName)) ∈ TT := TT_m2 186 rfl rfl
set_option maxRecDepth 4000 in
theorem wt_494 : (Jvm.Cond.selects "PortsBench$Gauss" (⟨"PortsBench$Gauss", "product", "(LPortsBench$Gauss;LPortsBench$Gauss;I)V"⟩ : Jvm.MethodName) (⟨"PortsBench$Gauss", "product", "(LPortsBench$Gauss;LPortsBench$Gauss;I)V"⟩ : Jvm.MethodName)) ∈ TT := TT_m2 187 rfl rfl
set_option maxRecDepth 4000 in
theorem wt_495 : (Jvm.Cond.code (⟨"PortsBench$Gauss", "product", "(LPortsBench$Gauss;LPortsBench$Gauss;I)V"⟩ : Jvm.MethodName) prog_3_method_6_code (4 : Nat) (Option.none : Option Jvm.ClassFile.FieldType)) ∈ TT := TT_m2 188 rfl rfl
set_option maxRecDepth 4000 in
theorem wt_496 : (Jvm.Cond.methodLink "PortsBench$Gauss" (39 : Nat) (⟨"PortsBench$Whole", "product", "(LPortsBench$Whole;LPortsBench$Whole;)V"⟩ : Jvm.MethodName)) ∈ TT := TT_m2 189 rfl rfl
set_option maxRecDepth 4000 in
theorem wt_497 : (Jvm.Cond.instanceMethod (⟨"PortsBench$Whole", "product", "(LPortsBench$Whole;LPortsBench$Whole;)V"⟩ : Jvm.MethodName)) ∈ TT := TT_m2 190 rfl rfl
set_option maxRecDepth 4000 in
theorem wt_498 : (Jvm.Cond.selects "PortsBench$Whole" (⟨"PortsBench$Whole", "product", "(LPortsBench$Whole;LPortsBench$Whole;)V"⟩ : Jvm.MethodName) (⟨"PortsBench$Whole", "product", "(LPortsBench$Whole;LPortsBench$Whole;)V"⟩ : Jvm.MethodName)) ∈ TT := TT_m2 191 rfl rfl
set_option maxRecDepth 4000 in
theorem wt_499 : (Jvm.Cond.code (⟨"PortsBench$Whole", "product", "(LPortsBench$Whole;LPortsBench$Whole;)V"⟩ : Jvm.MethodName) prog_8_method_13_code (13 : Nat) (Option.none : Option Jvm.ClassFile.FieldType)) ∈ TT := TT_m2 192 rfl rfl
set_option maxRecDepth 4000 in
theorem wt_500 : (Jvm.Cond.methodLink "PortsBench$Whole" (47 : Nat) (⟨"PortsBench$Whole", "clear", "()V"⟩ : Jvm.MethodName)) ∈ TT := TT_m2 193 rfl rfl
set_option maxRecDepth 4000 in
theorem wt_501 : (Jvm.Cond.methodLink "PortsBench$Whole" (50 : Nat) (⟨"java/lang/Math", "min", "(II)I"⟩ : Jvm.MethodName)) ∈ TT := TT_m2 194 rfl rfl
set_option maxRecDepth 4000 in
theorem wt_502 : (Jvm.Cond.methodLink "PortsBench$Whole" (54 : Nat) (⟨"java/lang/Math", "max", "(II)I"⟩ : Jvm.MethodName)) ∈ TT := TT_m2 195 rfl rfl
set_option maxRecDepth 4000 in
theorem wt_503 : (Jvm.Cond.static (⟨"java/lang/Math", "max", "(II)I"⟩ : Jvm.MethodName)) ∈ TT := TT_m2 196 rfl rfl
set_option maxRecDepth 4000 in
theorem wt_504 : (Jvm.Cond.code (⟨"java/lang/Math", "max", "(II)I"⟩ : Jvm.MethodName) prog_11_method_65_code (2 : Nat) (Option.some Jvm.ClassFile.FieldType.int)) ∈ TT := TT_m2 197 rfl rfl
set_option maxRecDepth 4000 in
theorem wt_505 : (Jvm.Cond.constantLong "PortsBench$Whole" (57 : Nat) (8000000000000000000 : Int64)) ∈ TT := TT_m2 198 rfl rfl
set_option maxRecDepth 4000 in
theorem wt_506 : (Jvm.Cond.constantLong "PortsBench$Whole" (59 : Nat) (8000000000 : Int64)) ∈ TT := TT_m2 199 rfl rfl
set_option maxRecDepth 4000 in
theorem wt_507 : (Jvm.Cond.methodLink "PortsBench$Gauss" (43 : Nat) (⟨"PortsBench$Whole", "sum", "(LPortsBench$Whole;LPortsBench$Whole;I)V"⟩ : Jvm.MethodName)) ∈ TT := TT_m2 200 rfl rfl
set_option maxRecDepth 4000 in
theorem wt_508 : (Jvm.Cond.instanceMethod (⟨"PortsBench$Whole", "sum", "(LPortsBench$Whole;LPortsBench$Whole;I)V"⟩ : Jvm.MethodName)) ∈ TT := TT_m2 201 rfl rfl
set_option maxRecDepth 4000 in
theorem wt_509 : (Jvm.Cond.selects "PortsBench$Whole" (⟨"PortsBench$Whole", "sum", "(LPortsBench$Whole;LPortsBench$Whole;I)V"⟩ : Jvm.MethodName) (⟨"PortsBench$Whole", "sum", "(LPortsBench$Whole;LPortsBench$Whole;I)V"⟩ : Jvm.MethodName)) ∈ TT := TT_m2 202 rfl rfl
set_option maxRecDepth 4000 in
theorem wt_510 : (Jvm.Cond.code (⟨"PortsBench$Whole", "sum", "(LPortsBench$Whole;LPortsBench$Whole;I)V"⟩ : Jvm.MethodName) prog_8_method_14_code (7 : Nat) (Option.none : Option Jvm.ClassFile.FieldType)) ∈ TT := TT_m2 203 rfl rfl
set_option maxRecDepth 4000 in
theorem wt_511 : (Jvm.Cond.methodLink "PortsBench$Whole" (61 : Nat) (⟨"PortsBench$Whole", "assign", "(LPortsBench$Whole;)V"⟩ : Jvm.MethodName)) ∈ TT := TT_m2 204 rfl rfl
set_option maxRecDepth 4000 in
theorem wt_512 : (Jvm.Cond.instanceMethod (⟨"PortsBench$Whole", "assign", "(LPortsBench$Whole;)V"⟩ : Jvm.MethodName)) ∈ TT := TT_m2 205 rfl rfl
set_option maxRecDepth 4000 in
theorem wt_513 : (Jvm.Cond.selects "PortsBench$Whole" (⟨"PortsBench$Whole", "assign", "(LPortsBench$Whole;)V"⟩ : Jvm.MethodName) (⟨"PortsBench$Whole", "assign", "(LPortsBench$Whole;)V"⟩ : Jvm.MethodName)) ∈ TT := TT_m2 206 rfl rfl
set_option maxRecDepth 4000 in
theorem wt_514 : (Jvm.Cond.code (⟨"PortsBench$Whole", "assign", "(LPortsBench$Whole;)V"⟩ : Jvm.MethodName) prog_8_method_6_code (2 : Nat) (Option.none : Option Jvm.ClassFile.FieldType)) ∈ TT := TT_m2 207 rfl rfl
set_option maxRecDepth 4000 in
theorem wt_515 : (Jvm.Cond.methodLink "PortsBench$Whole" (34 : Nat) (⟨"java/lang/System", "arraycopy", "(Ljava/lang/Object;ILjava/lang/Object;II)V"⟩ : Jvm.MethodName)) ∈ TT := TT_m2 208 rfl rfl
set_option maxRecDepth 4000 in
theorem wt_516 : (Jvm.Cond.methodLink "PortsBench$Whole" (65 : Nat) (⟨"PortsBench$Whole", "mix", "(LPortsBench$Whole;JLPortsBench$Whole;JI)V"⟩ : Jvm.MethodName)) ∈ TT := TT_m2 209 rfl rfl
set_option maxRecDepth 4000 in
theorem wt_517 : (Jvm.Cond.instanceMethod (⟨"PortsBench$Whole", "mix", "(LPortsBench$Whole;JLPortsBench$Whole;JI)V"⟩ : Jvm.MethodName)) ∈ TT := TT_m2 210 rfl rfl
set_option maxRecDepth 4000 in
theorem wt_518 : (Jvm.Cond.selects "PortsBench$Whole" (⟨"PortsBench$Whole", "mix", "(LPortsBench$Whole;JLPortsBench$Whole;JI)V"⟩ : Jvm.MethodName) (⟨"PortsBench$Whole", "mix", "(LPortsBench$Whole;JLPortsBench$Whole;JI)V"⟩ : Jvm.MethodName)) ∈ TT := TT_m2 211 rfl rfl
set_option maxRecDepth 4000 in
theorem wt_519 : (Jvm.Cond.code (⟨"PortsBench$Whole", "mix", "(LPortsBench$Whole;JLPortsBench$Whole;JI)V"⟩ : Jvm.MethodName) prog_8_method_15_code (16 : Nat) (Option.none : Option Jvm.ClassFile.FieldType)) ∈ TT := TT_m2 212 rfl rfl
set_option maxRecDepth 4000 in
theorem wt_520 : (Jvm.Cond.methodLink "PortsBench$Whole" (71 : Nat) (⟨"java/lang/Math", "floorDiv", "(JJ)J"⟩ : Jvm.MethodName)) ∈ TT := TT_m2 213 rfl rfl
set_option maxRecDepth 4000 in
theorem wt_521 : (Jvm.Cond.static (⟨"java/lang/Math", "floorDiv", "(JJ)J"⟩ : Jvm.MethodName)) ∈ TT := TT_m2 214 rfl rfl
set_option maxRecDepth 4000 in
theorem wt_522 : (Jvm.Cond.code (⟨"java/lang/Math", "floorDiv", "(JJ)J"⟩ : Jvm.MethodName) prog_11_method_49_code (6 : Nat) (Option.some Jvm.ClassFile.FieldType.long)) ∈ TT := TT_m2 215 rfl rfl
set_option maxRecDepth 4000 in
theorem wt_523 : (Jvm.Cond.methodLink "PortsBench$Whole" (43 : Nat) (⟨"PortsBench$Whole", "compareLimbs", "(LPortsBench$Whole;)I"⟩ : Jvm.MethodName)) ∈ TT := TT_m2 216 rfl rfl
set_option maxRecDepth 4000 in
theorem wt_524 : (Jvm.Cond.instanceMethod (⟨"PortsBench$Whole", "compareLimbs", "(LPortsBench$Whole;)I"⟩ : Jvm.MethodName)) ∈ TT := TT_m2 217 rfl rfl
set_option maxRecDepth 4000 in
theorem wt_525 : (Jvm.Cond.selects "PortsBench$Whole" (⟨"PortsBench$Whole", "compareLimbs", "(LPortsBench$Whole;)I"⟩ : Jvm.MethodName) (⟨"PortsBench$Whole", "compareLimbs", "(LPortsBench$Whole;)I"⟩ : Jvm.MethodName)) ∈ TT := TT_m2 218 rfl rfl
set_option maxRecDepth 4000 in
theorem wt_526 : (Jvm.Cond.code (⟨"PortsBench$Whole", "compareLimbs", "(LPortsBench$Whole;)I"⟩ : Jvm.MethodName) prog_8_method_12_code (3 : Nat) (Option.some Jvm.ClassFile.FieldType.int)) ∈ TT := TT_m2 219 rfl rfl
set_option maxRecDepth 4000 in
theorem wt_527 : (Jvm.Cond.constantLong "PortsBench$Whole" (69 : Nat) (-1 : Int64)) ∈ TT := TT_m2 220 rfl rfl
set_option maxRecDepth 4000 in
theorem wt_528 : (Jvm.Cond.methodLink "PortsBench$Acts" (128 : Nat) (⟨"PortsBench$Ratio", "sum", "(LPortsBench$Ratio;LPortsBench$Ratio;I)V"⟩ : Jvm.MethodName)) ∈ TT := TT_m2 221 rfl rfl
set_option maxRecDepth 4000 in
theorem wt_529 : (Jvm.Cond.instanceMethod (⟨"PortsBench$Ratio", "sum", "(LPortsBench$Ratio;LPortsBench$Ratio;I)V"⟩ : Jvm.MethodName)) ∈ TT := TT_m2 222 rfl rfl
set_option maxRecDepth 4000 in
theorem wt_530 : (Jvm.Cond.selects "PortsBench$Ratio" (⟨"PortsBench$Ratio", "sum", "(LPortsBench$Ratio;LPortsBench$Ratio;I)V"⟩ : Jvm.MethodName) (⟨"PortsBench$Ratio", "sum", "(LPortsBench$Ratio;LPortsBench$Ratio;I)V"⟩ : Jvm.MethodName)) ∈ TT := TT_m2 223 rfl rfl
set_option maxRecDepth 4000 in
theorem wt_531 : (Jvm.Cond.code (⟨"PortsBench$Ratio", "sum", "(LPortsBench$Ratio;LPortsBench$Ratio;I)V"⟩ : Jvm.MethodName) prog_6_method_8_code (4 : Nat) (Option.none : Option Jvm.ClassFile.FieldType)) ∈ TT := TT_m2 224 rfl rfl
set_option maxRecDepth 4000 in
theorem wt_532 : (Jvm.Cond.methodLink "PortsBench$Ratio" (57 : Nat) (⟨"PortsBench$Gauss", "sum", "(LPortsBench$Gauss;LPortsBench$Gauss;I)V"⟩ : Jvm.MethodName)) ∈ TT := TT_m2 225 rfl rfl
set_option maxRecDepth 4000 in
theorem wt_533 : (Jvm.Cond.instanceMethod (⟨"PortsBench$Gauss", "sum", "(LPortsBench$Gauss;LPortsBench$Gauss;I)V"⟩ : Jvm.MethodName)) ∈ TT := TT_m2 226 rfl rfl
set_option maxRecDepth 4000 in
theorem wt_534 : (Jvm.Cond.selects "PortsBench$Gauss" (⟨"PortsBench$Gauss", "sum", "(LPortsBench$Gauss;LPortsBench$Gauss;I)V"⟩ : Jvm.MethodName) (⟨"PortsBench$Gauss", "sum", "(LPortsBench$Gauss;LPortsBench$Gauss;I)V"⟩ : Jvm.MethodName)) ∈ TT := TT_m2 227 rfl rfl
set_option maxRecDepth 4000 in
theorem wt_535 : (Jvm.Cond.code (⟨"PortsBench$Gauss", "sum", "(LPortsBench$Gauss;LPortsBench$Gauss;I)V"⟩ : Jvm.MethodName) prog_3_method_7_code (4 : Nat) (Option.none : Option Jvm.ClassFile.FieldType)) ∈ TT := TT_m2 228 rfl rfl
set_option maxRecDepth 4000 in
theorem wt_536 : (Jvm.Cond.methodLink "PortsBench$Acts" (132 : Nat) (⟨"PortsBench$Ratio", "isZero", "()Z"⟩ : Jvm.MethodName)) ∈ TT := TT_m2 229 rfl rfl
set_option maxRecDepth 4000 in
theorem wt_537 : (Jvm.Cond.instanceMethod (⟨"PortsBench$Ratio", "isZero", "()Z"⟩ : Jvm.MethodName)) ∈ TT := TT_m2 230 rfl rfl
set_option maxRecDepth 4000 in
theorem wt_538 : (Jvm.Cond.selects "PortsBench$Ratio" (⟨"PortsBench$Ratio", "isZero", "()Z"⟩ : Jvm.MethodName) (⟨"PortsBench$Ratio", "isZero", "()Z"⟩ : Jvm.MethodName)) ∈ TT := TT_m2 231 rfl rfl
set_option maxRecDepth 4000 in
theorem wt_539 : (Jvm.Cond.code (⟨"PortsBench$Ratio", "isZero", "()Z"⟩ : Jvm.MethodName) prog_6_method_5_code (1 : Nat) (Option.some Jvm.ClassFile.FieldType.boolean)) ∈ TT := TT_m2 232 rfl rfl
set_option maxRecDepth 4000 in
theorem wt_540 : (Jvm.Cond.methodLink "PortsBench$Ratio" (49 : Nat) (⟨"PortsBench$Gauss", "isZero", "()Z"⟩ : Jvm.MethodName)) ∈ TT := TT_m2 233 rfl rfl
set_option maxRecDepth 4000 in
theorem wt_541 : (Jvm.Cond.instanceMethod (⟨"PortsBench$Gauss", "isZero", "()Z"⟩ : Jvm.MethodName)) ∈ TT := TT_m2 234 rfl rfl
set_option maxRecDepth 4000 in
theorem wt_542 : (Jvm.Cond.selects "PortsBench$Gauss" (⟨"PortsBench$Gauss", "isZero", "()Z"⟩ : Jvm.MethodName) (⟨"PortsBench$Gauss", "isZero", "()Z"⟩ : Jvm.MethodName)) ∈ TT := TT_m2 235 rfl rfl
set_option maxRecDepth 4000 in
theorem wt_543 : (Jvm.Cond.code (⟨"PortsBench$Gauss", "isZero", "()Z"⟩ : Jvm.MethodName) prog_3_method_5_code (1 : Nat) (Option.some Jvm.ClassFile.FieldType.boolean)) ∈ TT := TT_m2 236 rfl rfl
set_option maxRecDepth 4000 in
theorem wt_544 : (Jvm.Cond.methodLink "PortsBench$Acts" (136 : Nat) (⟨"PortsBench$Ratio", "quotient", "(LPortsBench$Ratio;LPortsBench$Ratio;)V"⟩ : Jvm.MethodName)) ∈ TT := TT_m2 237 rfl rfl
set_option maxRecDepth 4000 in
theorem wt_545 : (Jvm.Cond.instanceMethod (⟨"PortsBench$Ratio", "quotient", "(LPortsBench$Ratio;LPortsBench$Ratio;)V"⟩ : Jvm.MethodName)) ∈ TT := TT_m2 238 rfl rfl
set_option maxRecDepth 4000 in
theorem wt_546 : (Jvm.Cond.selects "PortsBench$Ratio" (⟨"PortsBench$Ratio", "quotient", "(LPortsBench$Ratio;LPortsBench$Ratio;)V"⟩ : Jvm.MethodName) (⟨"PortsBench$Ratio", "quotient", "(LPortsBench$Ratio;LPortsBench$Ratio;)V"⟩ : Jvm.MethodName)) ∈ TT := TT_m2 239 rfl rfl
set_option maxRecDepth 4000 in
theorem wt_547 : (Jvm.Cond.code (⟨"PortsBench$Ratio", "quotient", "(LPortsBench$Ratio;LPortsBench$Ratio;)V"⟩ : Jvm.MethodName) prog_6_method_7_code (3 : Nat) (Option.none : Option Jvm.ClassFile.FieldType)) ∈ TT := TT_m3 0 rfl rfl
set_option maxRecDepth 4000 in
theorem wt_548 : (Jvm.Cond.methodLink "PortsBench$Acts" (145 : Nat) (⟨"PortsBench$Lowest", "draft", "(LPortsBench$Gauss;LPortsBench$Gauss;II)V"⟩ : Jvm.MethodName)) ∈ TT := TT_m3 1 rfl rfl
set_option maxRecDepth 4000 in
theorem wt_549 : (Jvm.Cond.instanceMethod (⟨"PortsBench$Lowest", "draft", "(LPortsBench$Gauss;LPortsBench$Gauss;II)V"⟩ : Jvm.MethodName)) ∈ TT := TT_m3 2 rfl rfl
set_option maxRecDepth 4000 in
theorem wt_550 : (Jvm.Cond.selects "PortsBench$Lowest" (⟨"PortsBench$Lowest", "draft", "(LPortsBench$Gauss;LPortsBench$Gauss;II)V"⟩ : Jvm.MethodName) (⟨"PortsBench$Lowest", "draft", "(LPortsBench$Gauss;LPortsBench$Gauss;II)V"⟩ : Jvm.MethodName)) ∈ TT := TT_m3 3 rfl rfl
set_option maxRecDepth 4000 in
theorem wt_551 : (Jvm.Cond.code (⟨"PortsBench$Lowest", "draft", "(LPortsBench$Gauss;LPortsBench$Gauss;II)V"⟩ : Jvm.MethodName) prog_5_method_2_code (8 : Nat) (Option.none : Option Jvm.ClassFile.FieldType)) ∈ TT := TT_m3 4 rfl rfl
set_option maxRecDepth 4000 in
theorem wt_552 : (Jvm.Cond.methodLink "PortsBench$Lowest" (50 : Nat) (⟨"PortsBench$Gauss", "assign", "(LPortsBench$Gauss;)V"⟩ : Jvm.MethodName)) ∈ TT := TT_m3 5 rfl rfl
set_option maxRecDepth 4000 in
theorem wt_553 : (Jvm.Cond.instanceMethod (⟨"PortsBench$Gauss", "assign", "(LPortsBench$Gauss;)V"⟩ : Jvm.MethodName)) ∈ TT := TT_m3 6 rfl rfl
set_option maxRecDepth 4000 in
theorem wt_554 : (Jvm.Cond.selects "PortsBench$Gauss" (⟨"PortsBench$Gauss", "assign", "(LPortsBench$Gauss;)V"⟩ : Jvm.MethodName) (⟨"PortsBench$Gauss", "assign", "(LPortsBench$Gauss;)V"⟩ : Jvm.MethodName)) ∈ TT := TT_m3 7 rfl rfl
set_option maxRecDepth 4000 in
theorem wt_555 : (Jvm.Cond.code (⟨"PortsBench$Gauss", "assign", "(LPortsBench$Gauss;)V"⟩ : Jvm.MethodName) prog_3_method_4_code (2 : Nat) (Option.none : Option Jvm.ClassFile.FieldType)) ∈ TT := TT_m3 8 rfl rfl
set_option maxRecDepth 4000 in
theorem wt_556 : (Jvm.Cond.methodLink "PortsBench$Gauss" (32 : Nat) (⟨"PortsBench$Whole", "assign", "(LPortsBench$Whole;)V"⟩ : Jvm.MethodName)) ∈ TT := TT_m3 9 rfl rfl
set_option maxRecDepth 4000 in
theorem wt_557 : (Jvm.Cond.methodLink "PortsBench$Lowest" (57 : Nat) (⟨"PortsBench$Whole", "assign", "(LPortsBench$Whole;)V"⟩ : Jvm.MethodName)) ∈ TT := TT_m3 10 rfl rfl
set_option maxRecDepth 4000 in
theorem wt_558 : (Jvm.Cond.methodLink "PortsBench$Lowest" (59 : Nat) (⟨"PortsBench$Gauss", "product", "(LPortsBench$Gauss;LPortsBench$Gauss;I)V"⟩ : Jvm.MethodName)) ∈ TT := TT_m3 11 rfl rfl
set_option maxRecDepth 4000 in
theorem wt_559 : (Jvm.Cond.methodLink "PortsBench$Lowest" (63 : Nat) (⟨"PortsBench$Gauss", "setSize", "(LPortsBench$Whole;)V"⟩ : Jvm.MethodName)) ∈ TT := TT_m3 12 rfl rfl
set_option maxRecDepth 4000 in
theorem wt_560 : (Jvm.Cond.instanceMethod (⟨"PortsBench$Gauss", "setSize", "(LPortsBench$Whole;)V"⟩ : Jvm.MethodName)) ∈ TT := TT_m3 13 rfl rfl
set_option maxRecDepth 4000 in
theorem wt_561 : (Jvm.Cond.selects "PortsBench$Gauss" (⟨"PortsBench$Gauss", "setSize", "(LPortsBench$Whole;)V"⟩ : Jvm.MethodName) (⟨"PortsBench$Gauss", "setSize", "(LPortsBench$Whole;)V"⟩ : Jvm.MethodName)) ∈ TT := TT_m3 14 rfl rfl
set_option maxRecDepth 4000 in
theorem wt_562 : (Jvm.Cond.code (⟨"PortsBench$Gauss", "setSize", "(LPortsBench$Whole;)V"⟩ : Jvm.MethodName) prog_3_method_9_code (2 : Nat) (Option.none : Option Jvm.ClassFile.FieldType)) ∈ TT := TT_m3 15 rfl rfl
set_option maxRecDepth 4000 in
theorem wt_564 : (Jvm.Cond.methodLink "PortsBench$Lowest" (73 : Nat) (⟨"PortsBench$Lowest", "share", "(LPortsBench$Whole;I)Z"⟩ : Jvm.MethodName)) ∈ TT := TT_m3 17 rfl rfl
set_option maxRecDepth 4000 in
theorem wt_566 : (Jvm.Cond.instanceMethod (⟨"PortsBench$Lowest", "share", "(LPortsBench$Whole;I)Z"⟩ : Jvm.MethodName)) ∈ TT := TT_m3 19 rfl rfl
set_option maxRecDepth 4000 in
theorem wt_567 : (Jvm.Cond.code (⟨"PortsBench$Lowest", "share", "(LPortsBench$Whole;I)Z"⟩ : Jvm.MethodName) prog_5_method_3_code (4 : Nat) (Option.some Jvm.ClassFile.FieldType.boolean)) ∈ TT := TT_m3 20 rfl rfl
set_option maxRecDepth 4000 in
theorem wt_568 : (Jvm.Cond.methodLink "PortsBench$Lowest" (84 : Nat) (⟨"PortsBench$Whole", "compareLimbs", "(LPortsBench$Whole;)I"⟩ : Jvm.MethodName)) ∈ TT := TT_m3 21 rfl rfl
set_option maxRecDepth 4000 in
theorem wt_569 : (Jvm.Cond.methodLink "PortsBench$Lowest" (88 : Nat) (⟨"PortsBench$Lowest", "swap", "()V"⟩ : Jvm.MethodName)) ∈ TT := TT_m3 22 rfl rfl
set_option maxRecDepth 4000 in
theorem wt_571 : (Jvm.Cond.instanceMethod (⟨"PortsBench$Lowest", "swap", "()V"⟩ : Jvm.MethodName)) ∈ TT := TT_m3 24 rfl rfl
set_option maxRecDepth 4000 in
theorem wt_572 : (Jvm.Cond.code (⟨"PortsBench$Lowest", "swap", "()V"⟩ : Jvm.MethodName) prog_5_method_4_code (2 : Nat) (Option.none : Option Jvm.ClassFile.FieldType)) ∈ TT := TT_m3 25 rfl rfl
set_option maxRecDepth 4000 in
theorem wt_573 : (Jvm.Cond.methodLink "PortsBench$Lowest" (91 : Nat) (⟨"PortsBench$Whole", "head", "()J"⟩ : Jvm.MethodName)) ∈ TT := TT_m3 26 rfl rfl
set_option maxRecDepth 4000 in
theorem wt_574 : (Jvm.Cond.instanceMethod (⟨"PortsBench$Whole", "head", "()J"⟩ : Jvm.MethodName)) ∈ TT := TT_m3 27 rfl rfl
set_option maxRecDepth 4000 in
theorem wt_575 : (Jvm.Cond.selects "PortsBench$Whole" (⟨"PortsBench$Whole", "head", "()J"⟩ : Jvm.MethodName) (⟨"PortsBench$Whole", "head", "()J"⟩ : Jvm.MethodName)) ∈ TT := TT_m3 28 rfl rfl
set_option maxRecDepth 4000 in
theorem wt_576 : (Jvm.Cond.code (⟨"PortsBench$Whole", "head", "()J"⟩ : Jvm.MethodName) prog_8_method_8_code (1 : Nat) (Option.some Jvm.ClassFile.FieldType.long)) ∈ TT := TT_m3 29 rfl rfl
set_option maxRecDepth 4000 in
theorem wt_577 : (Jvm.Cond.methodLink "PortsBench$Whole" (40 : Nat) (⟨"PortsBench$Whole", "limbAt", "(I)I"⟩ : Jvm.MethodName)) ∈ TT := TT_m3 30 rfl rfl
set_option maxRecDepth 4000 in
theorem wt_578 : (Jvm.Cond.instanceMethod (⟨"PortsBench$Whole", "limbAt", "(I)I"⟩ : Jvm.MethodName)) ∈ TT := TT_m3 31 rfl rfl
set_option maxRecDepth 4000 in
theorem wt_579 : (Jvm.Cond.selects "PortsBench$Whole" (⟨"PortsBench$Whole", "limbAt", "(I)I"⟩ : Jvm.MethodName) (⟨"PortsBench$Whole", "limbAt", "(I)I"⟩ : Jvm.MethodName)) ∈ TT := TT_m3 32 rfl rfl
set_option maxRecDepth 4000 in
theorem wt_580 : (Jvm.Cond.code (⟨"PortsBench$Whole", "limbAt", "(I)I"⟩ : Jvm.MethodName) prog_8_method_7_code (2 : Nat) (Option.some Jvm.ClassFile.FieldType.int)) ∈ TT := TT_m3 33 rfl rfl
set_option maxRecDepth 4000 in
theorem wt_581 : (Jvm.Cond.methodLink "PortsBench$Lowest" (95 : Nat) (⟨"PortsBench$Whole", "shortGcd", "(JJ)J"⟩ : Jvm.MethodName)) ∈ TT := TT_m3 34 rfl rfl
set_option maxRecDepth 4000 in
theorem wt_582 : (Jvm.Cond.methodLink "PortsBench$Lowest" (99 : Nat) (⟨"PortsBench$Whole", "putSmall", "(J)V"⟩ : Jvm.MethodName)) ∈ TT := TT_m3 35 rfl rfl
set_option maxRecDepth 4000 in
theorem wt_583 : (Jvm.Cond.methodLink "PortsBench$Lowest" (103 : Nat) (⟨"PortsBench$Lowest", "shareByHeads", "()Z"⟩ : Jvm.MethodName)) ∈ TT := TT_m3 36 rfl rfl
set_option maxRecDepth 4000 in
theorem wt_585 : (Jvm.Cond.instanceMethod (⟨"PortsBench$Lowest", "shareByHeads", "()Z"⟩ : Jvm.MethodName)) ∈ TT := TT_m3 38 rfl rfl
set_option maxRecDepth 4000 in
theorem wt_586 : (Jvm.Cond.code (⟨"PortsBench$Lowest", "shareByHeads", "()Z"⟩ : Jvm.MethodName) prog_5_method_5_code (25 : Nat) (Option.some Jvm.ClassFile.FieldType.boolean)) ∈ TT := TT_m3 39 rfl rfl
set_option maxRecDepth 4000 in
theorem wt_587 : (Jvm.Cond.methodLink "PortsBench$Lowest" (111 : Nat) (⟨"PortsBench$Whole", "limbAt", "(I)I"⟩ : Jvm.MethodName)) ∈ TT := TT_m3 40 rfl rfl
set_option maxRecDepth 4000 in
theorem wt_588 : (Jvm.Cond.methodLink "PortsBench$Lowest" (115 : Nat) (⟨"PortsBench$Lowest", "scaleOf", "(I)J"⟩ : Jvm.MethodName)) ∈ TT := TT_m3 41 rfl rfl
set_option maxRecDepth 4000 in
theorem wt_589 : (Jvm.Cond.static (⟨"PortsBench$Lowest", "scaleOf", "(I)J"⟩ : Jvm.MethodName)) ∈ TT := TT_m3 42 rfl rfl
set_option maxRecDepth 4000 in
theorem wt_590 : (Jvm.Cond.code (⟨"PortsBench$Lowest", "scaleOf", "(I)J"⟩ : Jvm.MethodName) prog_5_method_6_code (4 : Nat) (Option.some Jvm.ClassFile.FieldType.long)) ∈ TT := TT_m3 43 rfl rfl
set_option maxRecDepth 4000 in
theorem wt_591 : (Jvm.Cond.constantLong "PortsBench$Lowest" (139 : Nat) (100000000 : Int64)) ∈ TT := TT_m3 44 rfl rfl
set_option maxRecDepth 4000 in
theorem wt_592 : (Jvm.Cond.constantLong "PortsBench$Lowest" (141 : Nat) (10 : Int64)) ∈ TT := TT_m3 45 rfl rfl
set_option maxRecDepth 4000 in
theorem wt_593 : (Jvm.Cond.methodLink "PortsBench$Lowest" (119 : Nat) (⟨"PortsBench$Whole", "scaledHead", "(IJ)J"⟩ : Jvm.MethodName)) ∈ TT := TT_m3 46 rfl rfl
set_option maxRecDepth 4000 in
theorem wt_594 : (Jvm.Cond.instanceMethod (⟨"PortsBench$Whole", "scaledHead", "(IJ)J"⟩ : Jvm.MethodName)) ∈ TT := TT_m3 47 rfl rfl
set_option maxRecDepth 4000 in
theorem wt_595 : (Jvm.Cond.selects "PortsBench$Whole" (⟨"PortsBench$Whole", "scaledHead", "(IJ)J"⟩ : Jvm.MethodName) (⟨"PortsBench$Whole", "scaledHead", "(IJ)J"⟩ : Jvm.MethodName)) ∈ TT := TT_m3 48 rfl rfl
set_option maxRecDepth 4000 in
theorem wt_596 : (Jvm.Cond.code (⟨"PortsBench$Whole", "scaledHead", "(IJ)J"⟩ : Jvm.MethodName) prog_8_method_9_code (10 : Nat) (Option.some Jvm.ClassFile.FieldType.long)) ∈ TT := TT_m3 49 rfl rfl
set_option maxRecDepth 4000 in
theorem wt_597 : (Jvm.Cond.constantLong "PortsBench$Lowest" (123 : Nat) (1000000000 : Int64)) ∈ TT := TT_m3 50 rfl rfl
set_option maxRecDepth 4000 in
theorem wt_598 : (Jvm.Cond.methodLink "PortsBench$Lowest" (125 : Nat) (⟨"java/lang/Math", "abs", "(J)J"⟩ : Jvm.MethodName)) ∈ TT := TT_m3 51 rfl rfl
set_option maxRecDepth 4000 in
theorem wt_599 : (Jvm.Cond.static (⟨"java/lang/Math", "abs", "(J)J"⟩ : Jvm.MethodName)) ∈ TT := TT_m3 52 rfl rfl
set_option maxRecDepth 4000 in
theorem wt_600 : (Jvm.Cond.code (⟨"java/lang/Math", "abs", "(J)J"⟩ : Jvm.MethodName) prog_11_method_61_code (2 : Nat) (Option.some Jvm.ClassFile.FieldType.long)) ∈ TT := TT_m3 53 rfl rfl
set_option maxRecDepth 4000 in
theorem wt_601 : (Jvm.Cond.methodLink "PortsBench$Lowest" (131 : Nat) (⟨"PortsBench$Whole", "mix", "(LPortsBench$Whole;JLPortsBench$Whole;JI)V"⟩ : Jvm.MethodName)) ∈ TT := TT_m3 54 rfl rfl
set_option maxRecDepth 4000 in
theorem wt_602 : (Jvm.Cond.methodLink "PortsBench$Lowest" (135 : Nat) (⟨"PortsBench$Whole", "trim", "(II)V"⟩ : Jvm.MethodName)) ∈ TT := TT_m3 55 rfl rfl
set_option maxRecDepth 4000 in
theorem wt_603 : (Jvm.Cond.methodLink "PortsBench$Lowest" (107 : Nat) (⟨"PortsBench$Whole", "divide", "(LPortsBench$Whole;LPortsBench$Whole;)V"⟩ : Jvm.MethodName)) ∈ TT := TT_m3 56 rfl rfl
set_option maxRecDepth 4000 in
theorem wt_604 : (Jvm.Cond.instanceMethod (⟨"PortsBench$Whole", "divide", "(LPortsBench$Whole;LPortsBench$Whole;)V"⟩ : Jvm.MethodName)) ∈ TT := TT_m3 57 rfl rfl
set_option maxRecDepth 4000 in
theorem wt_605 : (Jvm.Cond.selects "PortsBench$Whole" (⟨"PortsBench$Whole", "divide", "(LPortsBench$Whole;LPortsBench$Whole;)V"⟩ : Jvm.MethodName) (⟨"PortsBench$Whole", "divide", "(LPortsBench$Whole;LPortsBench$Whole;)V"⟩ : Jvm.MethodName)) ∈ TT := TT_m3 58 rfl rfl
set_option maxRecDepth 4000 in
theorem wt_606 : (Jvm.Cond.code (⟨"PortsBench$Whole", "divide", "(LPortsBench$Whole;LPortsBench$Whole;)V"⟩ : Jvm.MethodName) prog_8_method_16_code (7 : Nat) (Option.none : Option Jvm.ClassFile.FieldType)) ∈ TT := TT_m3 59 rfl rfl
set_option maxRecDepth 4000 in
theorem wt_607 : (Jvm.Cond.methodLink "PortsBench$Whole" (75 : Nat) (⟨"PortsBench$Whole", "divideShort", "(I)J"⟩ : Jvm.MethodName)) ∈ TT := TT_m3 60 rfl rfl
set_option maxRecDepth 4000 in
theorem wt_609 : (Jvm.Cond.instanceMethod (⟨"PortsBench$Whole", "divideShort", "(I)J"⟩ : Jvm.MethodName)) ∈ TT := TT_m3 62 rfl rfl
set_option maxRecDepth 4000 in
theorem wt_610 : (Jvm.Cond.code (⟨"PortsBench$Whole", "divideShort", "(I)J"⟩ : Jvm.MethodName) prog_8_method_20_code (7 : Nat) (Option.some Jvm.ClassFile.FieldType.long)) ∈ TT := TT_m3 63 rfl rfl
set_option maxRecDepth 4000 in
theorem wt_611 : (Jvm.Cond.methodLink "PortsBench$Whole" (79 : Nat) (⟨"PortsBench$Whole", "putSmall", "(J)V"⟩ : Jvm.MethodName)) ∈ TT := TT_m3 64 rfl rfl
set_option maxRecDepth 4000 in
theorem wt_612 : (Jvm.Cond.constant "PortsBench$Whole" (83 : Nat) (1000000000 : Int32)) ∈ TT := TT_m3 65 rfl rfl
set_option maxRecDepth 4000 in
theorem wt_613 : (Jvm.Cond.methodLink "PortsBench$Whole" (84 : Nat) (⟨"PortsBench$Whole", "multiplyShort", "(II)V"⟩ : Jvm.MethodName)) ∈ TT := TT_m3 66 rfl rfl
set_option maxRecDepth 4000 in
theorem wt_615 : (Jvm.Cond.instanceMethod (⟨"PortsBench$Whole", "multiplyShort", "(II)V"⟩ : Jvm.MethodName)) ∈ TT := TT_m3 68 rfl rfl
set_option maxRecDepth 4000 in
theorem wt_616 : (Jvm.Cond.code (⟨"PortsBench$Whole", "multiplyShort", "(II)V"⟩ : Jvm.MethodName) prog_8_method_19_code (8 : Nat) (Option.none : Option Jvm.ClassFile.FieldType)) ∈ TT := TT_m3 69 rfl rfl
set_option maxRecDepth 4000 in
theorem wt_617 : (Jvm.Cond.methodLink "PortsBench$Whole" (87 : Nat) (⟨"PortsBench$Whole", "divideLimb", "(LPortsBench$Whole;II)I"⟩ : Jvm.MethodName)) ∈ TT := TT_m3 70 rfl rfl
set_option maxRecDepth 4000 in
theorem wt_619 : (Jvm.Cond.instanceMethod (⟨"PortsBench$Whole", "divideLimb", "(LPortsBench$Whole;II)I"⟩ : Jvm.MethodName)) ∈ TT := TT_m3 72 rfl rfl
set_option maxRecDepth 4000 in
theorem wt_620 : (Jvm.Cond.code (⟨"PortsBench$Whole", "divideLimb", "(LPortsBench$Whole;II)I"⟩ : Jvm.MethodName) prog_8_method_17_code (14 : Nat) (Option.some Jvm.ClassFile.FieldType.int)) ∈ TT := TT_m3 73 rfl rfl
set_option maxRecDepth 4000 in
theorem wt_621 : (Jvm.Cond.methodLink "PortsBench$Whole" (91 : Nat) (⟨"PortsBench$Whole", "addShifted", "(LPortsBench$Whole;IIJ)J"⟩ : Jvm.MethodName)) ∈ TT := TT_m3 74 rfl rfl
set_option maxRecDepth 4000 in
theorem wt_623 : (Jvm.Cond.instanceMethod (⟨"PortsBench$Whole", "addShifted", "(LPortsBench$Whole;IIJ)J"⟩ : Jvm.MethodName)) ∈ TT := TT_m3 76 rfl rfl
set_option maxRecDepth 4000 in
theorem wt_624 : (Jvm.Cond.code (⟨"PortsBench$Whole", "addShifted", "(LPortsBench$Whole;IIJ)J"⟩ : Jvm.MethodName) prog_8_method_18_code (11 : Nat) (Option.some Jvm.ClassFile.FieldType.long)) ∈ TT := TT_m3 77 rfl rfl
set_option maxRecDepth 4000 in
theorem wt_625 : (Jvm.Cond.methodLink "PortsBench$Lowest" (77 : Nat) (⟨"PortsBench$Lowest", "writePart", "(LPortsBench$Whole;I)Z"⟩ : Jvm.MethodName)) ∈ TT := TT_m3 78 rfl rfl
set_option maxRecDepth 4000 in
theorem wt_627 : (Jvm.Cond.instanceMethod (⟨"PortsBench$Lowest", "writePart", "(LPortsBench$Whole;I)Z"⟩ : Jvm.MethodName)) ∈ TT := TT_m3 80 rfl rfl
set_option maxRecDepth 4000 in
theorem wt_628 : (Jvm.Cond.code (⟨"PortsBench$Lowest", "writePart", "(LPortsBench$Whole;I)Z"⟩ : Jvm.MethodName) prog_5_method_7_code (5 : Nat) (Option.some Jvm.ClassFile.FieldType.boolean)) ∈ TT := TT_m3 81 rfl rfl
set_option maxRecDepth 4000 in
theorem wt_629 : (Jvm.Cond.constant "PortsBench$Lowest" (143 : Nat) (1000000 : Int32)) ∈ TT := TT_m3 82 rfl rfl
set_option maxRecDepth 4000 in
theorem wt_630 : (Jvm.Cond.methodLink "PortsBench" (86 : Nat) (⟨"PortsBench", "refuse", "(II)I"⟩ : Jvm.MethodName)) ∈ TT := TT_m3 83 rfl rfl
set_option maxRecDepth 4000 in
theorem wt_632 : (Jvm.Cond.instanceMethod (⟨"PortsBench", "refuse", "(II)I"⟩ : Jvm.MethodName)) ∈ TT := TT_m3 85 rfl rfl
set_option maxRecDepth 4000 in
theorem wt_633 : (Jvm.Cond.code (⟨"PortsBench", "refuse", "(II)I"⟩ : Jvm.MethodName) prog_1_method_24_code (3 : Nat) (Option.some Jvm.ClassFile.FieldType.int)) ∈ TT := TT_m3 86 rfl rfl
set_option maxRecDepth 4000 in
theorem wt_634 : (Jvm.Cond.methodLink "PortsBench" (89 : Nat) (⟨"PortsBench", "finish", "(I)I"⟩ : Jvm.MethodName)) ∈ TT := TT_m3 87 rfl rfl
set_option maxRecDepth 4000 in
theorem wt_636 : (Jvm.Cond.instanceMethod (⟨"PortsBench", "finish", "(I)I"⟩ : Jvm.MethodName)) ∈ TT := TT_m3 89 rfl rfl
set_option maxRecDepth 4000 in
theorem wt_637 : (Jvm.Cond.code (⟨"PortsBench", "finish", "(I)I"⟩ : Jvm.MethodName) prog_1_method_25_code (2 : Nat) (Option.some Jvm.ClassFile.FieldType.int)) ∈ TT := TT_m3 90 rfl rfl
set_option maxRecDepth 4000 in
theorem wt_638 : (Jvm.Cond.methodLink "PortsBench" (149 : Nat) (⟨"PortsBench$Acts", "foundBig", "()Z"⟩ : Jvm.MethodName)) ∈ TT := TT_m3 91 rfl rfl
set_option maxRecDepth 4000 in
theorem wt_639 : (Jvm.Cond.instanceMethod (⟨"PortsBench$Acts", "foundBig", "()Z"⟩ : Jvm.MethodName)) ∈ TT := TT_m3 92 rfl rfl
set_option maxRecDepth 4000 in
theorem wt_640 : (Jvm.Cond.selects "PortsBench$Acts" (⟨"PortsBench$Acts", "foundBig", "()Z"⟩ : Jvm.MethodName) (⟨"PortsBench$Acts", "foundBig", "()Z"⟩ : Jvm.MethodName)) ∈ TT := TT_m3 93 rfl rfl
set_option maxRecDepth 4000 in
theorem wt_641 : (Jvm.Cond.code (⟨"PortsBench$Acts", "foundBig", "()Z"⟩ : Jvm.MethodName) prog_2_method_3_code (1 : Nat) (Option.some Jvm.ClassFile.FieldType.boolean)) ∈ TT := TT_m3 94 rfl rfl
set_option maxRecDepth 4000 in
theorem wt_642 : (Jvm.Cond.methodLink "PortsBenchLaw" (38 : Nat) (⟨"PortsBench", "takeOff", "(IIII)I"⟩ : Jvm.MethodName)) ∈ TT := TT_m3 95 rfl rfl
set_option maxRecDepth 4000 in
theorem wt_643 : (Jvm.Cond.instanceMethod (⟨"PortsBench", "takeOff", "(IIII)I"⟩ : Jvm.MethodName)) ∈ TT := TT_m3 96 rfl rfl
set_option maxRecDepth 4000 in
theorem wt_644 : (Jvm.Cond.selects "PortsBench" (⟨"PortsBench", "takeOff", "(IIII)I"⟩ : Jvm.MethodName) (⟨"PortsBench", "takeOff", "(IIII)I"⟩ : Jvm.MethodName)) ∈ TT := TT_m3 97 rfl rfl
set_option maxRecDepth 4000 in
theorem wt_645 : (Jvm.Cond.code (⟨"PortsBench", "takeOff", "(IIII)I"⟩ : Jvm.MethodName) prog_1_method_7_code (7 : Nat) (Option.some Jvm.ClassFile.FieldType.int)) ∈ TT := TT_m3 98 rfl rfl
set_option maxRecDepth 4000 in
theorem wt_646 : (Jvm.Cond.methodLink "PortsBench" (92 : Nat) (⟨"PortsBench$Acts", "takenOff", "(IIIZ)I"⟩ : Jvm.MethodName)) ∈ TT := TT_m3 99 rfl rfl
set_option maxRecDepth 4000 in
theorem wt_647 : (Jvm.Cond.instanceMethod (⟨"PortsBench$Acts", "takenOff", "(IIIZ)I"⟩ : Jvm.MethodName)) ∈ TT := TT_m3 100 rfl rfl
set_option maxRecDepth 4000 in
theorem wt_648 : (Jvm.Cond.selects "PortsBench$Acts" (⟨"PortsBench$Acts", "takenOff", "(IIIZ)I"⟩ : Jvm.MethodName) (⟨"PortsBench$Acts", "takenOff", "(IIIZ)I"⟩ : Jvm.MethodName)) ∈ TT := TT_m3 101 rfl rfl
set_option maxRecDepth 4000 in
theorem wt_649 : (Jvm.Cond.code (⟨"PortsBench$Acts", "takenOff", "(IIIZ)I"⟩ : Jvm.MethodName) prog_2_method_6_code (5 : Nat) (Option.some Jvm.ClassFile.FieldType.int)) ∈ TT := TT_m3 102 rfl rfl
set_option maxRecDepth 4000 in
theorem wt_650 : (Jvm.Cond.methodLink "PortsBenchLaw" (43 : Nat) (⟨"PortsBench", "turn", "(II)I"⟩ : Jvm.MethodName)) ∈ TT := TT_m3 103 rfl rfl
set_option maxRecDepth 4000 in
theorem wt_651 : (Jvm.Cond.instanceMethod (⟨"PortsBench", "turn", "(II)I"⟩ : Jvm.MethodName)) ∈ TT := TT_m3 104 rfl rfl
set_option maxRecDepth 4000 in
theorem wt_652 : (Jvm.Cond.selects "PortsBench" (⟨"PortsBench", "turn", "(II)I"⟩ : Jvm.MethodName) (⟨"PortsBench", "turn", "(II)I"⟩ : Jvm.MethodName)) ∈ TT := TT_m3 105 rfl rfl
set_option maxRecDepth 4000 in
theorem wt_653 : (Jvm.Cond.code (⟨"PortsBench", "turn", "(II)I"⟩ : Jvm.MethodName) prog_1_method_8_code (3 : Nat) (Option.some Jvm.ClassFile.FieldType.int)) ∈ TT := TT_m3 106 rfl rfl
set_option maxRecDepth 4000 in
theorem wt_654 : (Jvm.Cond.methodLink "PortsBench" (96 : Nat) (⟨"PortsBench$Shelf", "draftTurned", "(I)V"⟩ : Jvm.MethodName)) ∈ TT := TT_m3 107 rfl rfl
set_option maxRecDepth 4000 in
theorem wt_655 : (Jvm.Cond.instanceMethod (⟨"PortsBench$Shelf", "draftTurned", "(I)V"⟩ : Jvm.MethodName)) ∈ TT := TT_m3 108 rfl rfl
set_option maxRecDepth 4000 in
theorem wt_656 : (Jvm.Cond.selects "PortsBench$Shelf" (⟨"PortsBench$Shelf", "draftTurned", "(I)V"⟩ : Jvm.MethodName) (⟨"PortsBench$Shelf", "draftTurned", "(I)V"⟩ : Jvm.MethodName)) ∈ TT := TT_m3 109 rfl rfl
set_option maxRecDepth 4000 in
theorem wt_657 : (Jvm.Cond.code (⟨"PortsBench$Shelf", "draftTurned", "(I)V"⟩ : Jvm.MethodName) prog_7_method_9_code (5 : Nat) (Option.none : Option Jvm.ClassFile.FieldType)) ∈ TT := TT_m3 110 rfl rfl
set_option maxRecDepth 4000 in
theorem wt_658 : (Jvm.Cond.methodLink "PortsBenchLaw" (47 : Nat) (⟨"PortsBench", "close", "(III)I"⟩ : Jvm.MethodName)) ∈ TT := TT_m3 111 rfl rfl
set_option maxRecDepth 4000 in
theorem wt_659 : (Jvm.Cond.instanceMethod (⟨"PortsBench", "close", "(III)I"⟩ : Jvm.MethodName)) ∈ TT := TT_m3 112 rfl rfl
set_option maxRecDepth 4000 in
theorem wt_660 : (Jvm.Cond.selects "PortsBench" (⟨"PortsBench", "close", "(III)I"⟩ : Jvm.MethodName) (⟨"PortsBench", "close", "(III)I"⟩ : Jvm.MethodName)) ∈ TT := TT_m3 113 rfl rfl
set_option maxRecDepth 4000 in
theorem wt_661 : (Jvm.Cond.code (⟨"PortsBench", "close", "(III)I"⟩ : Jvm.MethodName) prog_1_method_9_code (6 : Nat) (Option.some Jvm.ClassFile.FieldType.int)) ∈ TT := TT_m3 114 rfl rfl
set_option maxRecDepth 4000 in
theorem wt_662 : (Jvm.Cond.methodLink "PortsBench" (99 : Nat) (⟨"PortsBench$Acts", "closed", "(III)I"⟩ : Jvm.MethodName)) ∈ TT := TT_m3 115 rfl rfl
set_option maxRecDepth 4000 in
theorem wt_663 : (Jvm.Cond.instanceMethod (⟨"PortsBench$Acts", "closed", "(III)I"⟩ : Jvm.MethodName)) ∈ TT := TT_m3 116 rfl rfl
set_option maxRecDepth 4000 in
theorem wt_664 : (Jvm.Cond.selects "PortsBench$Acts" (⟨"PortsBench$Acts", "closed", "(III)I"⟩ : Jvm.MethodName) (⟨"PortsBench$Acts", "closed", "(III)I"⟩ : Jvm.MethodName)) ∈ TT := TT_m3 117 rfl rfl
set_option maxRecDepth 4000 in
theorem wt_665 : (Jvm.Cond.code (⟨"PortsBench$Acts", "closed", "(III)I"⟩ : Jvm.MethodName) prog_2_method_7_code (4 : Nat) (Option.some Jvm.ClassFile.FieldType.int)) ∈ TT := TT_m3 118 rfl rfl
set_option maxRecDepth 4000 in
theorem wt_666 : (Jvm.Cond.methodLink "PortsBenchLaw" (51 : Nat) (⟨"PortsBench", "learn", "(III)I"⟩ : Jvm.MethodName)) ∈ TT := TT_m3 119 rfl rfl
set_option maxRecDepth 4000 in
theorem wt_667 : (Jvm.Cond.instanceMethod (⟨"PortsBench", "learn", "(III)I"⟩ : Jvm.MethodName)) ∈ TT := TT_m3 120 rfl rfl
set_option maxRecDepth 4000 in
theorem wt_668 : (Jvm.Cond.selects "PortsBench" (⟨"PortsBench", "learn", "(III)I"⟩ : Jvm.MethodName) (⟨"PortsBench", "learn", "(III)I"⟩ : Jvm.MethodName)) ∈ TT := TT_m3 121 rfl rfl
set_option maxRecDepth 4000 in
theorem wt_669 : (Jvm.Cond.code (⟨"PortsBench", "learn", "(III)I"⟩ : Jvm.MethodName) prog_1_method_10_code (6 : Nat) (Option.some Jvm.ClassFile.FieldType.int)) ∈ TT := TT_m3 122 rfl rfl
set_option maxRecDepth 4000 in
theorem wt_670 : (Jvm.Cond.methodLink "PortsBench" (102 : Nat) (⟨"PortsBench", "hasThreeOfOnePort", "(I)Z"⟩ : Jvm.MethodName)) ∈ TT := TT_m3 123 rfl rfl
set_option maxRecDepth 4000 in
theorem wt_672 : (Jvm.Cond.instanceMethod (⟨"PortsBench", "hasThreeOfOnePort", "(I)Z"⟩ : Jvm.MethodName)) ∈ TT := TT_m3 125 rfl rfl
set_option maxRecDepth 4000 in
theorem wt_673 : (Jvm.Cond.code (⟨"PortsBench", "hasThreeOfOnePort", "(I)Z"⟩ : Jvm.MethodName) prog_1_method_23_code (2 : Nat) (Option.some Jvm.ClassFile.FieldType.boolean)) ∈ TT := TT_m3 126 rfl rfl
set_option maxRecDepth 4000 in
theorem wt_674 : (Jvm.Cond.methodLink "PortsBench" (105 : Nat) (⟨"PortsBench$Acts", "learned", "(III)I"⟩ : Jvm.MethodName)) ∈ TT := TT_m3 127 rfl rfl
set_option maxRecDepth 4000 in
theorem wt_675 : (Jvm.Cond.instanceMethod (⟨"PortsBench$Acts", "learned", "(III)I"⟩ : Jvm.MethodName)) ∈ TT := TT_m3 128 rfl rfl
set_option maxRecDepth 4000 in
theorem wt_676 : (Jvm.Cond.selects "PortsBench$Acts" (⟨"PortsBench$Acts", "learned", "(III)I"⟩ : Jvm.MethodName) (⟨"PortsBench$Acts", "learned", "(III)I"⟩ : Jvm.MethodName)) ∈ TT := TT_m3 129 rfl rfl
set_option maxRecDepth 4000 in
theorem wt_677 : (Jvm.Cond.code (⟨"PortsBench$Acts", "learned", "(III)I"⟩ : Jvm.MethodName) prog_2_method_9_code (8 : Nat) (Option.some Jvm.ClassFile.FieldType.int)) ∈ TT := TT_m3 130 rfl rfl
set_option maxRecDepth 4000 in
theorem wt_678 : (Jvm.Cond.methodLink "PortsBench$Acts" (148 : Nat) (⟨"PortsBench$Gauss", "product", "(LPortsBench$Gauss;LPortsBench$Gauss;I)V"⟩ : Jvm.MethodName)) ∈ TT := TT_m3 131 rfl rfl
set_option maxRecDepth 4000 in
theorem wt_679 : (Jvm.Cond.methodLink "PortsBench$Acts" (151 : Nat) (⟨"PortsBench$Acts", "setDeterminant", "(LPortsBench$Gauss;III)V"⟩ : Jvm.MethodName)) ∈ TT := TT_m3 132 rfl rfl
set_option maxRecDepth 4000 in
theorem wt_681 : (Jvm.Cond.instanceMethod (⟨"PortsBench$Acts", "setDeterminant", "(LPortsBench$Gauss;III)V"⟩ : Jvm.MethodName)) ∈ TT := TT_m3 134 rfl rfl
set_option maxRecDepth 4000 in
theorem wt_682 : (Jvm.Cond.code (⟨"PortsBench$Acts", "setDeterminant", "(LPortsBench$Gauss;III)V"⟩ : Jvm.MethodName) prog_2_method_10_code (9 : Nat) (Option.none : Option Jvm.ClassFile.FieldType)) ∈ TT := TT_m3 135 rfl rfl
set_option maxRecDepth 4000 in
theorem wt_683 : (Jvm.Cond.methodLink "PortsBench$Acts" (162 : Nat) (⟨"PortsBench$Whole", "clear", "()V"⟩ : Jvm.MethodName)) ∈ TT := TT_m3 136 rfl rfl
set_option maxRecDepth 4000 in
theorem wt_684 : (Jvm.Cond.methodLink "PortsBench$Acts" (156 : Nat) (⟨"PortsBench$Gauss", "sum", "(LPortsBench$Gauss;LPortsBench$Gauss;I)V"⟩ : Jvm.MethodName)) ∈ TT := TT_m3 137 rfl rfl
set_option maxRecDepth 4000 in
theorem wt_685 : (Jvm.Cond.methodLink "PortsBench$Acts" (155 : Nat) (⟨"PortsBench$Gauss", "isZero", "()Z"⟩ : Jvm.MethodName)) ∈ TT := TT_m3 138 rfl rfl
set_option maxRecDepth 4000 in
theorem wt_686 : (Jvm.Cond.methodLink "PortsBenchLaw" (55 : Nat) (⟨"PortsBench", "correct", "(III)I"⟩ : Jvm.MethodName)) ∈ TT := TT_m3 139 rfl rfl
set_option maxRecDepth 4000 in
theorem wt_687 : (Jvm.Cond.instanceMethod (⟨"PortsBench", "correct", "(III)I"⟩ : Jvm.MethodName)) ∈ TT := TT_m3 140 rfl rfl
set_option maxRecDepth 4000 in
theorem wt_688 : (Jvm.Cond.selects "PortsBench" (⟨"PortsBench", "correct", "(III)I"⟩ : Jvm.MethodName) (⟨"PortsBench", "correct", "(III)I"⟩ : Jvm.MethodName)) ∈ TT := TT_m3 141 rfl rfl
set_option maxRecDepth 4000 in
theorem wt_689 : (Jvm.Cond.code (⟨"PortsBench", "correct", "(III)I"⟩ : Jvm.MethodName) prog_1_method_11_code (6 : Nat) (Option.some Jvm.ClassFile.FieldType.int)) ∈ TT := TT_m3 142 rfl rfl
set_option maxRecDepth 4000 in
theorem wt_690 : (Jvm.Cond.methodLink "PortsBench" (108 : Nat) (⟨"PortsBench$Acts", "undone", "(III)I"⟩ : Jvm.MethodName)) ∈ TT := TT_m3 143 rfl rfl
set_option maxRecDepth 4000 in
theorem wt_691 : (Jvm.Cond.instanceMethod (⟨"PortsBench$Acts", "undone", "(III)I"⟩ : Jvm.MethodName)) ∈ TT := TT_m3 144 rfl rfl
set_option maxRecDepth 4000 in
theorem wt_692 : (Jvm.Cond.selects "PortsBench$Acts" (⟨"PortsBench$Acts", "undone", "(III)I"⟩ : Jvm.MethodName) (⟨"PortsBench$Acts", "undone", "(III)I"⟩ : Jvm.MethodName)) ∈ TT := TT_m3 145 rfl rfl
set_option maxRecDepth 4000 in
theorem wt_693 : (Jvm.Cond.code (⟨"PortsBench$Acts", "undone", "(III)I"⟩ : Jvm.MethodName) prog_2_method_8_code (4 : Nat) (Option.some Jvm.ClassFile.FieldType.int)) ∈ TT := TT_m3 146 rfl rfl
set_option maxRecDepth 4000 in
theorem wt_694 : (Jvm.Cond.methodLink "PortsBenchLaw" (59 : Nat) (⟨"PortsBench", "step", "(III)I"⟩ : Jvm.MethodName)) ∈ TT := TT_m3 147 rfl rfl
set_option maxRecDepth 4000 in
theorem wt_695 : (Jvm.Cond.instanceMethod (⟨"PortsBench", "step", "(III)I"⟩ : Jvm.MethodName)) ∈ TT := TT_m3 148 rfl rfl
set_option maxRecDepth 4000 in
theorem wt_696 : (Jvm.Cond.selects "PortsBench" (⟨"PortsBench", "step", "(III)I"⟩ : Jvm.MethodName) (⟨"PortsBench", "step", "(III)I"⟩ : Jvm.MethodName)) ∈ TT := TT_m3 149 rfl rfl
set_option maxRecDepth 4000 in
theorem wt_697 : (Jvm.Cond.code (⟨"PortsBench", "step", "(III)I"⟩ : Jvm.MethodName) prog_1_method_12_code (5 : Nat) (Option.some Jvm.ClassFile.FieldType.int)) ∈ TT := TT_m3 150 rfl rfl
set_option maxRecDepth 4000 in
theorem wt_698 : (Jvm.Cond.methodLink "PortsBenchLaw" (63 : Nat) (⟨"PortsBench", "time", "(IIII)I"⟩ : Jvm.MethodName)) ∈ TT := TT_m3 151 rfl rfl
set_option maxRecDepth 4000 in
theorem wt_699 : (Jvm.Cond.instanceMethod (⟨"PortsBench", "time", "(IIII)I"⟩ : Jvm.MethodName)) ∈ TT := TT_m3 152 rfl rfl
set_option maxRecDepth 4000 in
theorem wt_700 : (Jvm.Cond.selects "PortsBench" (⟨"PortsBench", "time", "(IIII)I"⟩ : Jvm.MethodName) (⟨"PortsBench", "time", "(IIII)I"⟩ : Jvm.MethodName)) ∈ TT := TT_m3 153 rfl rfl
set_option maxRecDepth 4000 in
theorem wt_701 : (Jvm.Cond.code (⟨"PortsBench", "time", "(IIII)I"⟩ : Jvm.MethodName) prog_1_method_13_code (6 : Nat) (Option.some Jvm.ClassFile.FieldType.int)) ∈ TT := TT_m3 154 rfl rfl
set_option maxRecDepth 4000 in
theorem wt_702 : (Jvm.Cond.methodLink "PortsBench" (111 : Nat) (⟨"PortsBench$Acts", "inTime", "(III)V"⟩ : Jvm.MethodName)) ∈ TT := TT_m3 155 rfl rfl
set_option maxRecDepth 4000 in
theorem wt_703 : (Jvm.Cond.instanceMethod (⟨"PortsBench$Acts", "inTime", "(III)V"⟩ : Jvm.MethodName)) ∈ TT := TT_m3 156 rfl rfl
set_option maxRecDepth 4000 in
theorem wt_704 : (Jvm.Cond.selects "PortsBench$Acts" (⟨"PortsBench$Acts", "inTime", "(III)V"⟩ : Jvm.MethodName) (⟨"PortsBench$Acts", "inTime", "(III)V"⟩ : Jvm.MethodName)) ∈ TT := TT_m3 157 rfl rfl
set_option maxRecDepth 4000 in
theorem wt_705 : (Jvm.Cond.code (⟨"PortsBench$Acts", "inTime", "(III)V"⟩ : Jvm.MethodName) prog_2_method_11_code (5 : Nat) (Option.none : Option Jvm.ClassFile.FieldType)) ∈ TT := TT_m3 158 rfl rfl
set_option maxRecDepth 4000 in
theorem wt_706 : (Jvm.Cond.methodLink "PortsBench$Acts" (168 : Nat) (⟨"PortsBench$Gauss", "rotate", "(I)V"⟩ : Jvm.MethodName)) ∈ TT := TT_m3 159 rfl rfl
set_option maxRecDepth 4000 in
theorem wt_707 : (Jvm.Cond.instanceMethod (⟨"PortsBench$Gauss", "rotate", "(I)V"⟩ : Jvm.MethodName)) ∈ TT := TT_m3 160 rfl rfl
set_option maxRecDepth 4000 in
theorem wt_708 : (Jvm.Cond.selects "PortsBench$Gauss" (⟨"PortsBench$Gauss", "rotate", "(I)V"⟩ : Jvm.MethodName) (⟨"PortsBench$Gauss", "rotate", "(I)V"⟩ : Jvm.MethodName)) ∈ TT := TT_m3 161 rfl rfl
set_option maxRecDepth 4000 in
theorem wt_709 : (Jvm.Cond.code (⟨"PortsBench$Gauss", "rotate", "(I)V"⟩ : Jvm.MethodName) prog_3_method_8_code (3 : Nat) (Option.none : Option Jvm.ClassFile.FieldType)) ∈ TT := TT_m3 162 rfl rfl
set_option maxRecDepth 4000 in
theorem wt_710 : (Jvm.Cond.methodLink "PortsBenchLaw" (67 : Nat) (⟨"PortsBench", "undo", "()I"⟩ : Jvm.MethodName)) ∈ TT := TT_m3 163 rfl rfl
set_option maxRecDepth 4000 in
theorem wt_711 : (Jvm.Cond.instanceMethod (⟨"PortsBench", "undo", "()I"⟩ : Jvm.MethodName)) ∈ TT := TT_m3 164 rfl rfl
set_option maxRecDepth 4000 in
theorem wt_712 : (Jvm.Cond.selects "PortsBench" (⟨"PortsBench", "undo", "()I"⟩ : Jvm.MethodName) (⟨"PortsBench", "undo", "()I"⟩ : Jvm.MethodName)) ∈ TT := TT_m3 165 rfl rfl
set_option maxRecDepth 4000 in
theorem wt_713 : (Jvm.Cond.code (⟨"PortsBench", "undo", "()I"⟩ : Jvm.MethodName) prog_1_method_14_code (1 : Nat) (Option.some Jvm.ClassFile.FieldType.int)) ∈ TT := TT_m3 166 rfl rfl
set_option maxRecDepth 4000 in
theorem wt_714 : (Jvm.Cond.methodLink "PortsBench" (115 : Nat) (⟨"PortsBench$Shelf", "takeBack", "()Z"⟩ : Jvm.MethodName)) ∈ TT := TT_m3 167 rfl rfl
set_option maxRecDepth 4000 in
theorem wt_715 : (Jvm.Cond.instanceMethod (⟨"PortsBench$Shelf", "takeBack", "()Z"⟩ : Jvm.MethodName)) ∈ TT := TT_m3 168 rfl rfl
set_option maxRecDepth 4000 in
theorem wt_716 : (Jvm.Cond.selects "PortsBench$Shelf" (⟨"PortsBench$Shelf", "takeBack", "()Z"⟩ : Jvm.MethodName) (⟨"PortsBench$Shelf", "takeBack", "()Z"⟩ : Jvm.MethodName)) ∈ TT := TT_m3 169 rfl rfl
set_option maxRecDepth 4000 in
theorem wt_717 : (Jvm.Cond.code (⟨"PortsBench$Shelf", "takeBack", "()Z"⟩ : Jvm.MethodName) prog_7_method_12_code (1 : Nat) (Option.some Jvm.ClassFile.FieldType.boolean)) ∈ TT := TT_m3 170 rfl rfl
set_option maxRecDepth 4000 in
theorem wt_718 : (Jvm.Cond.methodLink "PortsBenchLaw" (72 : Nat) (⟨"PortsBench", "where", "(I)I"⟩ : Jvm.MethodName)) ∈ TT := TT_m3 171 rfl rfl
set_option maxRecDepth 4000 in
theorem wt_719 : (Jvm.Cond.instanceMethod (⟨"PortsBench", "where", "(I)I"⟩ : Jvm.MethodName)) ∈ TT := TT_m3 172 rfl rfl
set_option maxRecDepth 4000 in
theorem wt_720 : (Jvm.Cond.selects "PortsBench" (⟨"PortsBench", "where", "(I)I"⟩ : Jvm.MethodName) (⟨"PortsBench", "where", "(I)I"⟩ : Jvm.MethodName)) ∈ TT := TT_m3 173 rfl rfl
set_option maxRecDepth 4000 in
theorem wt_721 : (Jvm.Cond.code (⟨"PortsBench", "where", "(I)I"⟩ : Jvm.MethodName) prog_1_method_15_code (2 : Nat) (Option.some Jvm.ClassFile.FieldType.int)) ∈ TT := TT_m3 174 rfl rfl
set_option maxRecDepth 4000 in
theorem wt_722 : (Jvm.Cond.methodLink "PortsBenchLaw" (76 : Nat) (⟨"PortsBench", "part", "(IIIII)J"⟩ : Jvm.MethodName)) ∈ TT := TT_m3 175 rfl rfl
set_option maxRecDepth 4000 in
theorem wt_723 : (Jvm.Cond.instanceMethod (⟨"PortsBench", "part", "(IIIII)J"⟩ : Jvm.MethodName)) ∈ TT := TT_m3 176 rfl rfl
set_option maxRecDepth 4000 in
theorem wt_724 : (Jvm.Cond.selects "PortsBench" (⟨"PortsBench", "part", "(IIIII)J"⟩ : Jvm.MethodName) (⟨"PortsBench", "part", "(IIIII)J"⟩ : Jvm.MethodName)) ∈ TT := TT_m3 177 rfl rfl
set_option maxRecDepth 4000 in
theorem wt_725 : (Jvm.Cond.code (⟨"PortsBench", "part", "(IIIII)J"⟩ : Jvm.MethodName) prog_1_method_16_code (13 : Nat) (Option.some Jvm.ClassFile.FieldType.long)) ∈ TT := TT_m3 178 rfl rfl
set_option maxRecDepth 4000 in
theorem wt_726 : (Jvm.Cond.constantLong "PortsBench" (119 : Nat) (-1000000000000000 : Int64)) ∈ TT := TT_m3 179 rfl rfl
set_option maxRecDepth 4000 in
theorem wt_727 : (Jvm.Cond.methodLink "PortsBench" (121 : Nat) (⟨"PortsBench", "place", "(III)I"⟩ : Jvm.MethodName)) ∈ TT := TT_m3 180 rfl rfl
set_option maxRecDepth 4000 in
theorem wt_728 : (Jvm.Cond.constantLong "PortsBench" (128 : Nat) (1000000 : Int64)) ∈ TT := TT_m3 181 rfl rfl
set_option maxRecDepth 4000 in
theorem wt_729 : (Jvm.Cond.constantLong "PortsBench" (130 : Nat) (1000 : Int64)) ∈ TT := TT_m3 182 rfl rfl
set_option maxRecDepth 4000 in
theorem wt_730 : (Jvm.Cond.constantLong "PortsBench" (132 : Nat) (1000000000 : Int64)) ∈ TT := TT_m3 183 rfl rfl
set_option maxRecDepth 4000 in
theorem wt_731 : (Jvm.Cond.methodLink "PortsBenchLaw" (81 : Nat) (⟨"PortsBench", "about", "(II)I"⟩ : Jvm.MethodName)) ∈ TT := TT_m3 184 rfl rfl
set_option maxRecDepth 4000 in
theorem wt_732 : (Jvm.Cond.instanceMethod (⟨"PortsBench", "about", "(II)I"⟩ : Jvm.MethodName)) ∈ TT := TT_m3 185 rfl rfl
set_option maxRecDepth 4000 in
theorem wt_733 : (Jvm.Cond.selects "PortsBench" (⟨"PortsBench", "about", "(II)I"⟩ : Jvm.MethodName) (⟨"PortsBench", "about", "(II)I"⟩ : Jvm.MethodName)) ∈ TT := TT_m3 186 rfl rfl
set_option maxRecDepth 4000 in
theorem wt_734 : (Jvm.Cond.code (⟨"PortsBench", "about", "(II)I"⟩ : Jvm.MethodName) prog_1_method_17_code (5 : Nat) (Option.some Jvm.ClassFile.FieldType.int)) ∈ TT := TT_m3 187 rfl rfl
set_option maxRecDepth 4000 in
theorem wt_735 : (Jvm.Cond.methodLink "PortsBench" (134 : Nat) (⟨"PortsBench", "holds", "(III)Z"⟩ : Jvm.MethodName)) ∈ TT := TT_m3 188 rfl rfl
set_option maxRecDepth 4000 in
theorem wt_737 : (Jvm.Cond.instanceMethod (⟨"PortsBench", "holds", "(III)Z"⟩ : Jvm.MethodName)) ∈ TT := TT_m3 190 rfl rfl
set_option maxRecDepth 4000 in
theorem wt_738 : (Jvm.Cond.code (⟨"PortsBench", "holds", "(III)Z"⟩ : Jvm.MethodName) prog_1_method_26_code (5 : Nat) (Option.some Jvm.ClassFile.FieldType.boolean)) ∈ TT := TT_m3 191 rfl rfl
set_option maxRecDepth 4000 in
theorem wt_739 : (Jvm.Cond.methodLink "PortsBench" (141 : Nat) (⟨"PortsBench$Shelf", "alike", "(III)Z"⟩ : Jvm.MethodName)) ∈ TT := TT_m3 192 rfl rfl
set_option maxRecDepth 4000 in
theorem wt_740 : (Jvm.Cond.instanceMethod (⟨"PortsBench$Shelf", "alike", "(III)Z"⟩ : Jvm.MethodName)) ∈ TT := TT_m3 193 rfl rfl
set_option maxRecDepth 4000 in
theorem wt_741 : (Jvm.Cond.selects "PortsBench$Shelf" (⟨"PortsBench$Shelf", "alike", "(III)Z"⟩ : Jvm.MethodName) (⟨"PortsBench$Shelf", "alike", "(III)Z"⟩ : Jvm.MethodName)) ∈ TT := TT_m3 194 rfl rfl
set_option maxRecDepth 4000 in
theorem wt_742 : (Jvm.Cond.code (⟨"PortsBench$Shelf", "alike", "(III)Z"⟩ : Jvm.MethodName) prog_7_method_7_code (5 : Nat) (Option.some Jvm.ClassFile.FieldType.boolean)) ∈ TT := TT_m3 195 rfl rfl
set_option maxRecDepth 4000 in
theorem wt_743 : (Jvm.Cond.methodLink "PortsBench" (152 : Nat) (⟨"PortsBench$Judge", "measure", "([III)V"⟩ : Jvm.MethodName)) ∈ TT := TT_m3 196 rfl rfl
set_option maxRecDepth 4000 in
theorem wt_744 : (Jvm.Cond.instanceMethod (⟨"PortsBench$Judge", "measure", "([III)V"⟩ : Jvm.MethodName)) ∈ TT := TT_m3 197 rfl rfl
set_option maxRecDepth 4000 in
theorem wt_745 : (Jvm.Cond.selects "PortsBench$Judge" (⟨"PortsBench$Judge", "measure", "([III)V"⟩ : Jvm.MethodName) (⟨"PortsBench$Judge", "measure", "([III)V"⟩ : Jvm.MethodName)) ∈ TT := TT_m3 198 rfl rfl
set_option maxRecDepth 4000 in
theorem wt_746 : (Jvm.Cond.code (⟨"PortsBench$Judge", "measure", "([III)V"⟩ : Jvm.MethodName) prog_4_method_4_code (5 : Nat) (Option.none : Option Jvm.ClassFile.FieldType)) ∈ TT := TT_m3 199 rfl rfl
set_option maxRecDepth 4000 in
theorem wt_747 : (Jvm.Cond.methodLink "PortsBench$Judge" (70 : Nat) (⟨"PortsBench$Ratio", "load", "([II)V"⟩ : Jvm.MethodName)) ∈ TT := TT_m3 200 rfl rfl
set_option maxRecDepth 4000 in
theorem wt_748 : (Jvm.Cond.methodLink "PortsBench$Judge" (74 : Nat) (⟨"PortsBench$Judge", "setSizes", "(LPortsBench$Ratio;LPortsBench$Ratio;)V"⟩ : Jvm.MethodName)) ∈ TT := TT_m3 201 rfl rfl
set_option maxRecDepth 4000 in
theorem wt_750 : (Jvm.Cond.instanceMethod (⟨"PortsBench$Judge", "setSizes", "(LPortsBench$Ratio;LPortsBench$Ratio;)V"⟩ : Jvm.MethodName)) ∈ TT := TT_m3 203 rfl rfl
set_option maxRecDepth 4000 in
theorem wt_751 : (Jvm.Cond.code (⟨"PortsBench$Judge", "setSizes", "(LPortsBench$Ratio;LPortsBench$Ratio;)V"⟩ : Jvm.MethodName) prog_4_method_3_code (3 : Nat) (Option.none : Option Jvm.ClassFile.FieldType)) ∈ TT := TT_m3 204 rfl rfl
set_option maxRecDepth 4000 in
theorem wt_752 : (Jvm.Cond.methodLink "PortsBench$Judge" (86 : Nat) (⟨"PortsBench$Whole", "product", "(LPortsBench$Whole;LPortsBench$Whole;)V"⟩ : Jvm.MethodName)) ∈ TT := TT_m3 205 rfl rfl
set_option maxRecDepth 4000 in
theorem wt_753 : (Jvm.Cond.methodLink "PortsBench$Judge" (93 : Nat) (⟨"PortsBench$Gauss", "setSize", "(LPortsBench$Whole;)V"⟩ : Jvm.MethodName)) ∈ TT := TT_m3 206 rfl rfl
set_option maxRecDepth 4000 in
theorem wt_754 : (Jvm.Cond.methodLink "PortsBench$Judge" (96 : Nat) (⟨"PortsBench$Judge", "setLack", "(LPortsBench$Whole;)V"⟩ : Jvm.MethodName)) ∈ TT := TT_m3 207 rfl rfl
set_option maxRecDepth 4000 in
theorem wt_756 : (Jvm.Cond.instanceMethod (⟨"PortsBench$Judge", "setLack", "(LPortsBench$Whole;)V"⟩ : Jvm.MethodName)) ∈ TT := TT_m3 209 rfl rfl
set_option maxRecDepth 4000 in
theorem wt_757 : (Jvm.Cond.code (⟨"PortsBench$Judge", "setLack", "(LPortsBench$Whole;)V"⟩ : Jvm.MethodName) prog_4_method_5_code (2 : Nat) (Option.none : Option Jvm.ClassFile.FieldType)) ∈ TT := TT_m3 210 rfl rfl
set_option maxRecDepth 4000 in
theorem wt_758 : (Jvm.Cond.methodLink "PortsBench$Judge" (105 : Nat) (⟨"PortsBench$Whole", "sum", "(LPortsBench$Whole;LPortsBench$Whole;I)V"⟩ : Jvm.MethodName)) ∈ TT := TT_m3 211 rfl rfl
set_option maxRecDepth 4000 in
theorem wt_759 : (Jvm.Cond.methodLink "PortsBench$Judge" (99 : Nat) (⟨"PortsBench$Whole", "clear", "()V"⟩ : Jvm.MethodName)) ∈ TT := TT_m3 212 rfl rfl
set_option maxRecDepth 4000 in
theorem wt_760 : (Jvm.Cond.methodLink "PortsBench$Judge" (102 : Nat) (⟨"PortsBench$Judge", "setCrossing", "()V"⟩ : Jvm.MethodName)) ∈ TT := TT_m3 213 rfl rfl
set_option maxRecDepth 4000 in
theorem wt_762 : (Jvm.Cond.instanceMethod (⟨"PortsBench$Judge", "setCrossing", "()V"⟩ : Jvm.MethodName)) ∈ TT := TT_m3 215 rfl rfl
set_option maxRecDepth 4000 in
theorem wt_763 : (Jvm.Cond.code (⟨"PortsBench$Judge", "setCrossing", "()V"⟩ : Jvm.MethodName) prog_4_method_6_code (1 : Nat) (Option.none : Option Jvm.ClassFile.FieldType)) ∈ TT := TT_m3 216 rfl rfl
set_option maxRecDepth 4000 in
theorem wt_764 : (Jvm.Cond.methodLink "PortsBench$Judge" (109 : Nat) (⟨"PortsBench$Gauss", "product", "(LPortsBench$Gauss;LPortsBench$Gauss;I)V"⟩ : Jvm.MethodName)) ∈ TT := TT_m3 217 rfl rfl
set_option maxRecDepth 4000 in
theorem wt_765 : (Jvm.Cond.methodLink "PortsBench$Judge" (112 : Nat) (⟨"PortsBench$Gauss", "sum", "(LPortsBench$Gauss;LPortsBench$Gauss;I)V"⟩ : Jvm.MethodName)) ∈ TT := TT_m3 218 rfl rfl
set_option maxRecDepth 4000 in
theorem wt_766 : (Jvm.Cond.methodLink "PortsBench" (156 : Nat) (⟨"PortsBench$Judge", "foundPassive", "()Z"⟩ : Jvm.MethodName)) ∈ TT := TT_m3 219 rfl rfl
set_option maxRecDepth 4000 in
theorem wt_767 : (Jvm.Cond.instanceMethod (⟨"PortsBench$Judge", "foundPassive", "()Z"⟩ : Jvm.MethodName)) ∈ TT := TT_m3 220 rfl rfl
set_option maxRecDepth 4000 in
theorem wt_768 : (Jvm.Cond.selects "PortsBench$Judge" (⟨"PortsBench$Judge", "foundPassive", "()Z"⟩ : Jvm.MethodName) (⟨"PortsBench$Judge", "foundPassive", "()Z"⟩ : Jvm.MethodName)) ∈ TT := TT_m3 221 rfl rfl
set_option maxRecDepth 4000 in
theorem wt_769 : (Jvm.Cond.code (⟨"PortsBench$Judge", "foundPassive", "()Z"⟩ : Jvm.MethodName) prog_4_method_7_code (1 : Nat) (Option.some Jvm.ClassFile.FieldType.boolean)) ∈ TT := TT_m3 222 rfl rfl
set_option maxRecDepth 4000 in
theorem wt_770 : (Jvm.Cond.methodLink "PortsBench$Judge" (78 : Nat) (⟨"PortsBench$Whole", "compareWith", "(LPortsBench$Whole;)I"⟩ : Jvm.MethodName)) ∈ TT := TT_m3 223 rfl rfl
set_option maxRecDepth 4000 in
theorem wt_771 : (Jvm.Cond.instanceMethod (⟨"PortsBench$Whole", "compareWith", "(LPortsBench$Whole;)I"⟩ : Jvm.MethodName)) ∈ TT := TT_m3 224 rfl rfl
set_option maxRecDepth 4000 in
theorem wt_772 : (Jvm.Cond.selects "PortsBench$Whole" (⟨"PortsBench$Whole", "compareWith", "(LPortsBench$Whole;)I"⟩ : Jvm.MethodName) (⟨"PortsBench$Whole", "compareWith", "(LPortsBench$Whole;)I"⟩ : Jvm.MethodName)) ∈ TT := TT_m3 225 rfl rfl
set_option maxRecDepth 4000 in
theorem wt_773 : (Jvm.Cond.code (⟨"PortsBench$Whole", "compareWith", "(LPortsBench$Whole;)I"⟩ : Jvm.MethodName) prog_8_method_11_code (2 : Nat) (Option.some Jvm.ClassFile.FieldType.int)) ∈ TT := TT_m3 226 rfl rfl
set_option maxRecDepth 4000 in
theorem wt_774 : (Jvm.Cond.methodLink "PortsBench" (159 : Nat) (⟨"PortsBench$Judge", "foundLossless", "()Z"⟩ : Jvm.MethodName)) ∈ TT := TT_m3 227 rfl rfl
set_option maxRecDepth 4000 in
theorem wt_775 : (Jvm.Cond.instanceMethod (⟨"PortsBench$Judge", "foundLossless", "()Z"⟩ : Jvm.MethodName)) ∈ TT := TT_m3 228 rfl rfl
set_option maxRecDepth 4000 in
theorem wt_776 : (Jvm.Cond.selects "PortsBench$Judge" (⟨"PortsBench$Judge", "foundLossless", "()Z"⟩ : Jvm.MethodName) (⟨"PortsBench$Judge", "foundLossless", "()Z"⟩ : Jvm.MethodName)) ∈ TT := TT_m3 229 rfl rfl
set_option maxRecDepth 4000 in
theorem wt_777 : (Jvm.Cond.code (⟨"PortsBench$Judge", "foundLossless", "()Z"⟩ : Jvm.MethodName) prog_4_method_8_code (1 : Nat) (Option.some Jvm.ClassFile.FieldType.boolean)) ∈ TT := TT_m3 230 rfl rfl
set_option maxRecDepth 4000 in
theorem wt_778 : (Jvm.Cond.methodLink "PortsBenchLaw" (85 : Nat) (⟨"PortsBench", "is", "(III)I"⟩ : Jvm.MethodName)) ∈ TT := TT_m3 231 rfl rfl
set_option maxRecDepth 4000 in
theorem wt_779 : (Jvm.Cond.instanceMethod (⟨"PortsBench", "is", "(III)I"⟩ : Jvm.MethodName)) ∈ TT := TT_m3 232 rfl rfl
set_option maxRecDepth 4000 in
theorem wt_780 : (Jvm.Cond.selects "PortsBench" (⟨"PortsBench", "is", "(III)I"⟩ : Jvm.MethodName) (⟨"PortsBench", "is", "(III)I"⟩ : Jvm.MethodName)) ∈ TT := TT_m3 233 rfl rfl
set_option maxRecDepth 4000 in
theorem wt_781 : (Jvm.Cond.code (⟨"PortsBench", "is", "(III)I"⟩ : Jvm.MethodName) prog_1_method_18_code (4 : Nat) (Option.some Jvm.ClassFile.FieldType.int)) ∈ TT := TT_m3 234 rfl rfl
set_option maxRecDepth 4000 in
theorem wt_782 : (Jvm.Cond.methodLink "PortsBenchLaw" (89 : Nat) (⟨"PortsBench", "against", "(IIIIIII)I"⟩ : Jvm.MethodName)) ∈ TT := TT_m3 235 rfl rfl
set_option maxRecDepth 4000 in
theorem wt_783 : (Jvm.Cond.instanceMethod (⟨"PortsBench", "against", "(IIIIIII)I"⟩ : Jvm.MethodName)) ∈ TT := TT_m3 236 rfl rfl
set_option maxRecDepth 4000 in
theorem wt_784 : (Jvm.Cond.selects "PortsBench" (⟨"PortsBench", "against", "(IIIIIII)I"⟩ : Jvm.MethodName) (⟨"PortsBench", "against", "(IIIIIII)I"⟩ : Jvm.MethodName)) ∈ TT := TT_m3 237 rfl rfl
set_option maxRecDepth 4000 in
theorem wt_785 : (Jvm.Cond.code (⟨"PortsBench", "against", "(IIIIIII)I"⟩ : Jvm.MethodName) prog_1_method_19_code (8 : Nat) (Option.some Jvm.ClassFile.FieldType.int)) ∈ TT := TT_m3 238 rfl rfl
set_option maxRecDepth 4000 in
theorem wt_786 : (Jvm.Cond.methodLink "PortsBench" (137 : Nat) (⟨"PortsBench$Judge", "compareSizes", "([III)I"⟩ : Jvm.MethodName)) ∈ TT := TT_m3 239 rfl rfl
set_option maxRecDepth 4000 in
theorem wt_787 : (Jvm.Cond.instanceMethod (⟨"PortsBench$Judge", "compareSizes", "([III)I"⟩ : Jvm.MethodName)) ∈ TT := TT_m4 0 rfl rfl
set_option maxRecDepth 4000 in
theorem wt_788 : (Jvm.Cond.selects "PortsBench$Judge" (⟨"PortsBench$Judge", "compareSizes", "([III)I"⟩ : Jvm.MethodName) (⟨"PortsBench$Judge", "compareSizes", "([III)I"⟩ : Jvm.MethodName)) ∈ TT := TT_m4 1 rfl rfl
set_option maxRecDepth 4000 in
theorem wt_789 : (Jvm.Cond.code (⟨"PortsBench$Judge", "compareSizes", "([III)I"⟩ : Jvm.MethodName) prog_4_method_2_code (4 : Nat) (Option.some Jvm.ClassFile.FieldType.int)) ∈ TT := TT_m4 2 rfl rfl
set_option maxRecDepth 4000 in
theorem wt_790 : (Jvm.Cond.methodLink "PortsBenchLaw" (93 : Nat) (⟨"PortsBench", "worst", "(III)I"⟩ : Jvm.MethodName)) ∈ TT := TT_m4 3 rfl rfl
set_option maxRecDepth 4000 in
theorem wt_791 : (Jvm.Cond.instanceMethod (⟨"PortsBench", "worst", "(III)I"⟩ : Jvm.MethodName)) ∈ TT := TT_m4 4 rfl rfl
set_option maxRecDepth 4000 in
theorem wt_792 : (Jvm.Cond.selects "PortsBench" (⟨"PortsBench", "worst", "(III)I"⟩ : Jvm.MethodName) (⟨"PortsBench", "worst", "(III)I"⟩ : Jvm.MethodName)) ∈ TT := TT_m4 5 rfl rfl
set_option maxRecDepth 4000 in
theorem wt_793 : (Jvm.Cond.code (⟨"PortsBench", "worst", "(III)I"⟩ : Jvm.MethodName) prog_1_method_20_code (7 : Nat) (Option.some Jvm.ClassFile.FieldType.int)) ∈ TT := TT_m4 6 rfl rfl
set_option maxRecDepth 4000 in
theorem wt_794 : (Jvm.Cond.methodLink "PortsBenchLaw" (97 : Nat) (⟨"PortsBench", "same", "(II)I"⟩ : Jvm.MethodName)) ∈ TT := TT_m4 7 rfl rfl
set_option maxRecDepth 4000 in
theorem wt_795 : (Jvm.Cond.instanceMethod (⟨"PortsBench", "same", "(II)I"⟩ : Jvm.MethodName)) ∈ TT := TT_m4 8 rfl rfl
set_option maxRecDepth 4000 in
theorem wt_796 : (Jvm.Cond.selects "PortsBench" (⟨"PortsBench", "same", "(II)I"⟩ : Jvm.MethodName) (⟨"PortsBench", "same", "(II)I"⟩ : Jvm.MethodName)) ∈ TT := TT_m4 9 rfl rfl
set_option maxRecDepth 4000 in
theorem wt_797 : (Jvm.Cond.code (⟨"PortsBench", "same", "(II)I"⟩ : Jvm.MethodName) prog_1_method_21_code (3 : Nat) (Option.some Jvm.ClassFile.FieldType.int)) ∈ TT := TT_m4 10 rfl rfl
set_option maxRecDepth 4000 in
theorem wt_798 : (Jvm.Cond.methodLink "PortsBenchLaw" (101 : Nat) (⟨"PortsBench", "count", "(I)I"⟩ : Jvm.MethodName)) ∈ TT := TT_m4 11 rfl rfl
set_option maxRecDepth 4000 in
theorem wt_799 : (Jvm.Cond.instanceMethod (⟨"PortsBench", "count", "(I)I"⟩ : Jvm.MethodName)) ∈ TT := TT_m4 12 rfl rfl
set_option maxRecDepth 4000 in
theorem wt_800 : (Jvm.Cond.selects "PortsBench" (⟨"PortsBench", "count", "(I)I"⟩ : Jvm.MethodName) (⟨"PortsBench", "count", "(I)I"⟩ : Jvm.MethodName)) ∈ TT := TT_m4 13 rfl rfl
set_option maxRecDepth 4000 in
theorem wt_801 : (Jvm.Cond.code (⟨"PortsBench", "count", "(I)I"⟩ : Jvm.MethodName) prog_1_method_22_code (2 : Nat) (Option.some Jvm.ClassFile.FieldType.int)) ∈ TT := TT_m4 14 rfl rfl
set_option maxRecDepth 4000 in
theorem wt_802 : (Jvm.Cond.classLink "PortsBenchLaw" (10 : Nat) "PortsBenchModel") ∈ TT := TT_m4 15 rfl rfl
set_option maxRecDepth 4000 in
theorem wt_803 : (Jvm.Cond.instantiable "PortsBenchModel" (19 : Nat)) ∈ TT := TT_m4 16 rfl rfl
set_option maxRecDepth 4000 in
theorem wt_804 : (Jvm.Cond.methodLink "PortsBenchLaw" (12 : Nat) (⟨"PortsBenchModel", "<init>", "()V"⟩ : Jvm.MethodName)) ∈ TT := TT_m4 17 rfl rfl
set_option maxRecDepth 4000 in
theorem wt_805 : (Jvm.Cond.instanceMethod (⟨"PortsBenchModel", "<init>", "()V"⟩ : Jvm.MethodName)) ∈ TT := TT_m4 18 rfl rfl
set_option maxRecDepth 4000 in
theorem wt_806 : (Jvm.Cond.code (⟨"PortsBenchModel", "<init>", "()V"⟩ : Jvm.MethodName) prog_10_method_1_code (1 : Nat) (Option.none : Option Jvm.ClassFile.FieldType)) ∈ TT := TT_m4 19 rfl rfl
set_option maxRecDepth 4000 in
theorem wt_807 : (Jvm.Cond.methodLink "PortsBenchModel" (1 : Nat) (⟨"java/lang/Object", "<init>", "()V"⟩ : Jvm.MethodName)) ∈ TT := TT_m4 20 rfl rfl
set_option maxRecDepth 4000 in
theorem wt_808 : (Jvm.Cond.constant "PortsBenchModel" (27 : Nat) (360000 : Int32)) ∈ TT := TT_m4 21 rfl rfl
set_option maxRecDepth 4000 in
theorem wt_809 : (Jvm.Cond.fieldLink "PortsBenchModel" (7 : Nat) "PortsBenchModel" "ports" "[I") ∈ TT := TT_m4 22 rfl rfl
set_option maxRecDepth 4000 in
theorem wt_810 : (Jvm.Cond.fieldLink "PortsBenchModel" (154 : Nat) "PortsBenchModel" "boxes" "I") ∈ TT := TT_m4 23 rfl rfl
set_option maxRecDepth 4000 in
theorem wt_811 : (Jvm.Cond.fieldLink "PortsBenchModel" (13 : Nat) "PortsBenchModel" "st" "[J") ∈ TT := TT_m4 24 rfl rfl
set_option maxRecDepth 4000 in
theorem wt_812 : (Jvm.Cond.fieldLink "PortsBenchModel" (17 : Nat) "PortsBenchModel" "kept" "[J") ∈ TT := TT_m4 25 rfl rfl
set_option maxRecDepth 4000 in
theorem wt_813 : (Jvm.Cond.fieldLink "PortsBenchModel" (148 : Nat) "PortsBenchModel" "keptMany" "I") ∈ TT := TT_m4 26 rfl rfl
set_option maxRecDepth 4000 in
theorem wt_814 : (Jvm.Cond.fieldLink "PortsBenchModel" (20 : Nat) "PortsBenchModel" "whereTone" "I") ∈ TT := TT_m4 27 rfl rfl
set_option maxRecDepth 4000 in
theorem wt_815 : (Jvm.Cond.fieldLink "PortsBenchModel" (24 : Nat) "PortsBenchModel" "whereDivisor" "I") ∈ TT := TT_m4 28 rfl rfl
set_option maxRecDepth 4000 in
theorem wt_816 : (Jvm.Cond.fieldLink "PortsBenchModel" (28 : Nat) "PortsBenchModel" "limb" "[I") ∈ TT := TT_m4 29 rfl rfl
set_option maxRecDepth 4000 in
theorem wt_817 : (Jvm.Cond.fieldLink "PortsBenchModel" (31 : Nat) "PortsBenchModel" "size" "[I") ∈ TT := TT_m4 30 rfl rfl
set_option maxRecDepth 4000 in
theorem wt_818 : (Jvm.Cond.fieldLink "PortsBenchModel" (34 : Nat) "PortsBenchModel" "sign" "[I") ∈ TT := TT_m4 31 rfl rfl
set_option maxRecDepth 4000 in
theorem wt_819 : (Jvm.Cond.fieldLink "PortsBenchModel" (52 : Nat) "PortsBenchModel" "top" "I") ∈ TT := TT_m4 32 rfl rfl
set_option maxRecDepth 4000 in
theorem wt_820 : (Jvm.Cond.fieldLink "PortsBenchModel" (37 : Nat) "PortsBenchModel" "above" "[I") ∈ TT := TT_m4 33 rfl rfl
set_option maxRecDepth 4000 in
theorem wt_821 : (Jvm.Cond.fieldLink "PortsBenchModel" (40 : Nat) "PortsBenchModel" "below" "[I") ∈ TT := TT_m4 34 rfl rfl
set_option maxRecDepth 4000 in
theorem wt_822 : (Jvm.Cond.fieldLink "PortsBenchModel" (43 : Nat) "PortsBenchModel" "quotient" "[I") ∈ TT := TT_m4 35 rfl rfl
set_option maxRecDepth 4000 in
theorem wt_823 : (Jvm.Cond.fieldLink "PortsBenchModel" (96 : Nat) "PortsBenchModel" "high" "J") ∈ TT := TT_m4 36 rfl rfl
set_option maxRecDepth 4000 in
theorem wt_824 : (Jvm.Cond.fieldLink "PortsBenchModel" (100 : Nat) "PortsBenchModel" "low" "J") ∈ TT := TT_m4 37 rfl rfl
set_option maxRecDepth 4000 in
theorem wt_825 : (Jvm.Cond.fieldLink "PortsBenchModel" (46 : Nat) "PortsBenchModel" "made" "[J") ∈ TT := TT_m4 38 rfl rfl
set_option maxRecDepth 4000 in
theorem wt_826 : (Jvm.Cond.fieldLink "PortsBenchModel" (144 : Nat) "PortsBenchModel" "isBig" "Z") ∈ TT := TT_m4 39 rfl rfl
set_option maxRecDepth 4000 in
theorem wt_827 : (Jvm.Cond.fieldLink "PortsBenchModel" (49 : Nat) "PortsBenchModel" "table" "[I") ∈ TT := TT_m4 40 rfl rfl
set_option maxRecDepth 4000 in
theorem wt_828 : (Jvm.Cond.laysFinal "PortsBenchModel" "PortsBenchModel" "ports" "[I") ∈ TT := TT_m4 41 rfl rfl
set_option maxRecDepth 4000 in
theorem wt_830 : (Jvm.Cond.lays "PortsBenchModel" "PortsBenchModel" "boxes" "I") ∈ TT := TT_m4 43 rfl rfl
set_option maxRecDepth 4000 in
theorem wt_832 : (Jvm.Cond.laysFinal "PortsBenchModel" "PortsBenchModel" "st" "[J") ∈ TT := TT_m4 45 rfl rfl
set_option maxRecDepth 4000 in
theorem wt_834 : (Jvm.Cond.laysFinal "PortsBenchModel" "PortsBenchModel" "kept" "[J") ∈ TT := TT_m4 47 rfl rfl
set_option maxRecDepth 4000 in
theorem wt_836 : (Jvm.Cond.lays "PortsBenchModel" "PortsBenchModel" "keptMany" "I") ∈ TT := TT_m4 49 rfl rfl
set_option maxRecDepth 4000 in
theorem wt_838 : (Jvm.Cond.lays "PortsBenchModel" "PortsBenchModel" "whereTone" "I") ∈ TT := TT_m4 51 rfl rfl
set_option maxRecDepth 4000 in
theorem wt_840 : (Jvm.Cond.lays "PortsBenchModel" "PortsBenchModel" "whereDivisor" "I") ∈ TT := TT_m4 53 rfl rfl
set_option maxRecDepth 4000 in
theorem wt_842 : (Jvm.Cond.laysFinal "PortsBenchModel" "PortsBenchModel" "limb" "[I") ∈ TT := TT_m4 55 rfl rfl
set_option maxRecDepth 4000 in
theorem wt_844 : (Jvm.Cond.laysFinal "PortsBenchModel" "PortsBenchModel" "size" "[I") ∈ TT := TT_m4 57 rfl rfl
set_option maxRecDepth 4000 in
theorem wt_846 : (Jvm.Cond.laysFinal "PortsBenchModel" "PortsBenchModel" "sign" "[I") ∈ TT := TT_m4 59 rfl rfl
set_option maxRecDepth 4000 in
theorem wt_848 : (Jvm.Cond.lays "PortsBenchModel" "PortsBenchModel" "top" "I") ∈ TT := TT_m4 61 rfl rfl
set_option maxRecDepth 4000 in
theorem wt_850 : (Jvm.Cond.laysFinal "PortsBenchModel" "PortsBenchModel" "above" "[I") ∈ TT := TT_m4 63 rfl rfl
set_option maxRecDepth 4000 in
theorem wt_852 : (Jvm.Cond.laysFinal "PortsBenchModel" "PortsBenchModel" "below" "[I") ∈ TT := TT_m4 65 rfl rfl
set_option maxRecDepth 4000 in
theorem wt_854 : (Jvm.Cond.laysFinal "PortsBenchModel" "PortsBenchModel" "quotient" "[I") ∈ TT := TT_m4 67 rfl rfl
set_option maxRecDepth 4000 in
theorem wt_856 : (Jvm.Cond.lays "PortsBenchModel" "PortsBenchModel" "high" "J") ∈ TT := TT_m4 69 rfl rfl
set_option maxRecDepth 4000 in
theorem wt_858 : (Jvm.Cond.lays "PortsBenchModel" "PortsBenchModel" "low" "J") ∈ TT := TT_m4 71 rfl rfl
set_option maxRecDepth 4000 in
theorem wt_860 : (Jvm.Cond.laysFinal "PortsBenchModel" "PortsBenchModel" "made" "[J") ∈ TT := TT_m4 73 rfl rfl
set_option maxRecDepth 4000 in
theorem wt_862 : (Jvm.Cond.lays "PortsBenchModel" "PortsBenchModel" "isBig" "Z") ∈ TT := TT_m4 75 rfl rfl
set_option maxRecDepth 4000 in
theorem wt_864 : (Jvm.Cond.laysFinal "PortsBenchModel" "PortsBenchModel" "table" "[I") ∈ TT := TT_m4 77 rfl rfl
set_option maxRecDepth 4000 in
theorem wt_867 : (Jvm.Cond.arrayClass Jvm.ClassFile.FieldType.long) ∈ TT := TT_m4 80 rfl rfl
set_option maxRecDepth 4000 in
theorem wt_868 : (Jvm.Cond.methodLink "PortsBenchLaw" (17 : Nat) (⟨"PortsBenchModel", "box", "(I)I"⟩ : Jvm.MethodName)) ∈ TT := TT_m4 81 rfl rfl
set_option maxRecDepth 4000 in
theorem wt_869 : (Jvm.Cond.instanceMethod (⟨"PortsBenchModel", "box", "(I)I"⟩ : Jvm.MethodName)) ∈ TT := TT_m4 82 rfl rfl
set_option maxRecDepth 4000 in
theorem wt_870 : (Jvm.Cond.selects "PortsBenchModel" (⟨"PortsBenchModel", "box", "(I)I"⟩ : Jvm.MethodName) (⟨"PortsBenchModel", "box", "(I)I"⟩ : Jvm.MethodName)) ∈ TT := TT_m4 83 rfl rfl
set_option maxRecDepth 4000 in
theorem wt_871 : (Jvm.Cond.code (⟨"PortsBenchModel", "box", "(I)I"⟩ : Jvm.MethodName) prog_10_method_40_code (3 : Nat) (Option.some Jvm.ClassFile.FieldType.int)) ∈ TT := TT_m4 84 rfl rfl
set_option maxRecDepth 4000 in
theorem wt_872 : (Jvm.Cond.constantLong "PortsBenchModel" (164 : Nat) (2 : Int64)) ∈ TT := TT_m4 85 rfl rfl
set_option maxRecDepth 4000 in
theorem wt_873 : (Jvm.Cond.methodLink "PortsBenchModel" (157 : Nat) (⟨"PortsBenchModel", "in", "(JJJ)Z"⟩ : Jvm.MethodName)) ∈ TT := TT_m4 86 rfl rfl
set_option maxRecDepth 4000 in
theorem wt_874 : (Jvm.Cond.static (⟨"PortsBenchModel", "in", "(JJJ)Z"⟩ : Jvm.MethodName)) ∈ TT := TT_m4 87 rfl rfl
set_option maxRecDepth 4000 in
theorem wt_875 : (Jvm.Cond.code (⟨"PortsBenchModel", "in", "(JJJ)Z"⟩ : Jvm.MethodName) prog_10_method_2_code (6 : Nat) (Option.some Jvm.ClassFile.FieldType.boolean)) ∈ TT := TT_m4 88 rfl rfl
set_option maxRecDepth 4000 in
theorem wt_876 : (Jvm.Cond.methodLink "PortsBenchLaw" (22 : Nat) (⟨"PortsBenchModel", "set", "(IIIIIII)I"⟩ : Jvm.MethodName)) ∈ TT := TT_m4 89 rfl rfl
set_option maxRecDepth 4000 in
theorem wt_877 : (Jvm.Cond.instanceMethod (⟨"PortsBenchModel", "set", "(IIIIIII)I"⟩ : Jvm.MethodName)) ∈ TT := TT_m4 90 rfl rfl
set_option maxRecDepth 4000 in
theorem wt_878 : (Jvm.Cond.selects "PortsBenchModel" (⟨"PortsBenchModel", "set", "(IIIIIII)I"⟩ : Jvm.MethodName) (⟨"PortsBenchModel", "set", "(IIIIIII)I"⟩ : Jvm.MethodName)) ∈ TT := TT_m4 91 rfl rfl
set_option maxRecDepth 4000 in
theorem wt_879 : (Jvm.Cond.code (⟨"PortsBenchModel", "set", "(IIIIIII)I"⟩ : Jvm.MethodName) prog_10_method_44_code (8 : Nat) (Option.some Jvm.ClassFile.FieldType.int)) ∈ TT := TT_m4 92 rfl rfl
set_option maxRecDepth 4000 in
theorem wt_880 : (Jvm.Cond.methodLink "PortsBenchModel" (180 : Nat) (⟨"PortsBenchModel", "isPlace", "(III)Z"⟩ : Jvm.MethodName)) ∈ TT := TT_m4 93 rfl rfl
set_option maxRecDepth 4000 in
theorem wt_882 : (Jvm.Cond.instanceMethod (⟨"PortsBenchModel", "isPlace", "(III)Z"⟩ : Jvm.MethodName)) ∈ TT := TT_m4 95 rfl rfl
set_option maxRecDepth 4000 in
theorem wt_883 : (Jvm.Cond.code (⟨"PortsBenchModel", "isPlace", "(III)Z"⟩ : Jvm.MethodName) prog_10_method_39_code (4 : Nat) (Option.some Jvm.ClassFile.FieldType.boolean)) ∈ TT := TT_m4 96 rfl rfl
set_option maxRecDepth 4000 in
theorem wt_884 : (Jvm.Cond.methodLink "PortsBenchModel" (161 : Nat) (⟨"PortsBenchModel", "isBox", "(I)Z"⟩ : Jvm.MethodName)) ∈ TT := TT_m4 97 rfl rfl
set_option maxRecDepth 4000 in
theorem wt_886 : (Jvm.Cond.instanceMethod (⟨"PortsBenchModel", "isBox", "(I)Z"⟩ : Jvm.MethodName)) ∈ TT := TT_m4 99 rfl rfl
set_option maxRecDepth 4000 in
theorem wt_887 : (Jvm.Cond.code (⟨"PortsBenchModel", "isBox", "(I)Z"⟩ : Jvm.MethodName) prog_10_method_37_code (2 : Nat) (Option.some Jvm.ClassFile.FieldType.boolean)) ∈ TT := TT_m4 100 rfl rfl
set_option maxRecDepth 4000 in
theorem wt_888 : (Jvm.Cond.constantLong "PortsBenchModel" (184 : Nat) (3 : Int64)) ∈ TT := TT_m4 101 rfl rfl
set_option maxRecDepth 4000 in
theorem wt_889 : (Jvm.Cond.methodLink "PortsBenchModel" (186 : Nat) (⟨"PortsBenchModel", "areParts", "(III)Z"⟩ : Jvm.MethodName)) ∈ TT := TT_m4 102 rfl rfl
set_option maxRecDepth 4000 in
theorem wt_890 : (Jvm.Cond.static (⟨"PortsBenchModel", "areParts", "(III)Z"⟩ : Jvm.MethodName)) ∈ TT := TT_m4 103 rfl rfl
set_option maxRecDepth 4000 in
theorem wt_891 : (Jvm.Cond.code (⟨"PortsBenchModel", "areParts", "(III)Z"⟩ : Jvm.MethodName) prog_10_method_41_code (3 : Nat) (Option.some Jvm.ClassFile.FieldType.boolean)) ∈ TT := TT_m4 104 rfl rfl
set_option maxRecDepth 4000 in
theorem wt_892 : (Jvm.Cond.constantLong "PortsBenchModel" (166 : Nat) (-1000000 : Int64)) ∈ TT := TT_m4 105 rfl rfl
set_option maxRecDepth 4000 in
theorem wt_893 : (Jvm.Cond.constantLong "PortsBenchModel" (168 : Nat) (1000000 : Int64)) ∈ TT := TT_m4 106 rfl rfl
set_option maxRecDepth 4000 in
theorem wt_894 : (Jvm.Cond.methodLink "PortsBenchModel" (189 : Nat) (⟨"PortsBenchModel", "sets", "(IIIIIIII)I"⟩ : Jvm.MethodName)) ∈ TT := TT_m4 107 rfl rfl
set_option maxRecDepth 4000 in
theorem wt_896 : (Jvm.Cond.instanceMethod (⟨"PortsBenchModel", "sets", "(IIIIIIII)I"⟩ : Jvm.MethodName)) ∈ TT := TT_m4 109 rfl rfl
set_option maxRecDepth 4000 in
theorem wt_897 : (Jvm.Cond.code (⟨"PortsBenchModel", "sets", "(IIIIIIII)I"⟩ : Jvm.MethodName) prog_10_method_43_code (10 : Nat) (Option.some Jvm.ClassFile.FieldType.int)) ∈ TT := TT_m4 110 rfl rfl
set_option maxRecDepth 4000 in
theorem wt_898 : (Jvm.Cond.methodLink "PortsBenchModel" (170 : Nat) (⟨"PortsBenchModel", "takes", "(I)V"⟩ : Jvm.MethodName)) ∈ TT := TT_m4 111 rfl rfl
set_option maxRecDepth 4000 in
theorem wt_900 : (Jvm.Cond.instanceMethod (⟨"PortsBenchModel", "takes", "(I)V"⟩ : Jvm.MethodName)) ∈ TT := TT_m4 113 rfl rfl
set_option maxRecDepth 4000 in
theorem wt_901 : (Jvm.Cond.code (⟨"PortsBenchModel", "takes", "(I)V"⟩ : Jvm.MethodName) prog_10_method_42_code (3 : Nat) (Option.none : Option Jvm.ClassFile.FieldType)) ∈ TT := TT_m4 114 rfl rfl
set_option maxRecDepth 4000 in
theorem wt_902 : (Jvm.Cond.methodLink "PortsBenchModel" (89 : Nat) (⟨"PortsBenchModel", "of", "(J)I"⟩ : Jvm.MethodName)) ∈ TT := TT_m4 115 rfl rfl
set_option maxRecDepth 4000 in
theorem wt_904 : (Jvm.Cond.instanceMethod (⟨"PortsBenchModel", "of", "(J)I"⟩ : Jvm.MethodName)) ∈ TT := TT_m4 117 rfl rfl
set_option maxRecDepth 4000 in
theorem wt_905 : (Jvm.Cond.code (⟨"PortsBenchModel", "of", "(J)I"⟩ : Jvm.MethodName) prog_10_method_4_code (6 : Nat) (Option.some Jvm.ClassFile.FieldType.int)) ∈ TT := TT_m4 118 rfl rfl
set_option maxRecDepth 4000 in
theorem wt_906 : (Jvm.Cond.methodLink "PortsBenchModel" (55 : Nat) (⟨"PortsBenchModel", "fresh", "()I"⟩ : Jvm.MethodName)) ∈ TT := TT_m4 119 rfl rfl
set_option maxRecDepth 4000 in
theorem wt_908 : (Jvm.Cond.instanceMethod (⟨"PortsBenchModel", "fresh", "()I"⟩ : Jvm.MethodName)) ∈ TT := TT_m4 121 rfl rfl
set_option maxRecDepth 4000 in
theorem wt_909 : (Jvm.Cond.code (⟨"PortsBenchModel", "fresh", "()I"⟩ : Jvm.MethodName) prog_10_method_3_code (1 : Nat) (Option.some Jvm.ClassFile.FieldType.int)) ∈ TT := TT_m4 122 rfl rfl
set_option maxRecDepth 4000 in
theorem wt_910 : (Jvm.Cond.constantLong "PortsBenchModel" (59 : Nat) (32768 : Int64)) ∈ TT := TT_m4 123 rfl rfl
set_option maxRecDepth 4000 in
theorem wt_911 : (Jvm.Cond.methodLink "PortsBenchModel" (103 : Nat) (⟨"PortsBenchModel", "triple", "(III)I"⟩ : Jvm.MethodName)) ∈ TT := TT_m4 124 rfl rfl
set_option maxRecDepth 4000 in
theorem wt_913 : (Jvm.Cond.instanceMethod (⟨"PortsBenchModel", "triple", "(III)I"⟩ : Jvm.MethodName)) ∈ TT := TT_m4 126 rfl rfl
set_option maxRecDepth 4000 in
theorem wt_914 : (Jvm.Cond.code (⟨"PortsBenchModel", "triple", "(III)I"⟩ : Jvm.MethodName) prog_10_method_19_code (7 : Nat) (Option.some Jvm.ClassFile.FieldType.int)) ∈ TT := TT_m4 127 rfl rfl
set_option maxRecDepth 4000 in
theorem wt_915 : (Jvm.Cond.methodLink "PortsBenchModel" (73 : Nat) (⟨"PortsBenchModel", "minus", "(I)I"⟩ : Jvm.MethodName)) ∈ TT := TT_m4 128 rfl rfl
set_option maxRecDepth 4000 in
theorem wt_917 : (Jvm.Cond.instanceMethod (⟨"PortsBenchModel", "minus", "(I)I"⟩ : Jvm.MethodName)) ∈ TT := TT_m4 130 rfl rfl
set_option maxRecDepth 4000 in
theorem wt_918 : (Jvm.Cond.code (⟨"PortsBenchModel", "minus", "(I)I"⟩ : Jvm.MethodName) prog_10_method_9_code (4 : Nat) (Option.some Jvm.ClassFile.FieldType.int)) ∈ TT := TT_m4 131 rfl rfl
set_option maxRecDepth 4000 in
theorem wt_919 : (Jvm.Cond.methodLink "PortsBenchModel" (173 : Nat) (⟨"PortsBenchModel", "makes", "(IIII)V"⟩ : Jvm.MethodName)) ∈ TT := TT_m4 132 rfl rfl
set_option maxRecDepth 4000 in
theorem wt_921 : (Jvm.Cond.instanceMethod (⟨"PortsBenchModel", "makes", "(IIII)V"⟩ : Jvm.MethodName)) ∈ TT := TT_m4 134 rfl rfl
set_option maxRecDepth 4000 in
theorem wt_922 : (Jvm.Cond.code (⟨"PortsBenchModel", "makes", "(IIII)V"⟩ : Jvm.MethodName) prog_10_method_32_code (9 : Nat) (Option.none : Option Jvm.ClassFile.FieldType)) ∈ TT := TT_m4 135 rfl rfl
set_option maxRecDepth 4000 in
theorem wt_923 : (Jvm.Cond.methodLink "PortsBenchModel" (135 : Nat) (⟨"PortsBenchModel", "common", "(II)I"⟩ : Jvm.MethodName)) ∈ TT := TT_m4 136 rfl rfl
set_option maxRecDepth 4000 in
theorem wt_925 : (Jvm.Cond.instanceMethod (⟨"PortsBenchModel", "common", "(II)I"⟩ : Jvm.MethodName)) ∈ TT := TT_m4 138 rfl rfl
set_option maxRecDepth 4000 in
theorem wt_926 : (Jvm.Cond.code (⟨"PortsBenchModel", "common", "(II)I"⟩ : Jvm.MethodName) prog_10_method_16_code (8 : Nat) (Option.some Jvm.ClassFile.FieldType.int)) ∈ TT := TT_m4 139 rfl rfl
set_option maxRecDepth 4000 in
theorem wt_927 : (Jvm.Cond.methodLink "PortsBenchModel" (83 : Nat) (⟨"PortsBenchModel", "divides", "(III)I"⟩ : Jvm.MethodName)) ∈ TT := TT_m4 140 rfl rfl
set_option maxRecDepth 4000 in
theorem wt_929 : (Jvm.Cond.instanceMethod (⟨"PortsBenchModel", "divides", "(III)I"⟩ : Jvm.MethodName)) ∈ TT := TT_m4 142 rfl rfl
set_option maxRecDepth 4000 in
theorem wt_930 : (Jvm.Cond.code (⟨"PortsBenchModel", "divides", "(III)I"⟩ : Jvm.MethodName) prog_10_method_14_code (13 : Nat) (Option.some Jvm.ClassFile.FieldType.int)) ∈ TT := TT_m4 143 rfl rfl
set_option maxRecDepth 4000 in
theorem wt_931 : (Jvm.Cond.methodLink "PortsBenchModel" (66 : Nat) (⟨"PortsBenchModel", "stand", "(II)I"⟩ : Jvm.MethodName)) ∈ TT := TT_m4 144 rfl rfl
set_option maxRecDepth 4000 in
theorem wt_933 : (Jvm.Cond.instanceMethod (⟨"PortsBenchModel", "stand", "(II)I"⟩ : Jvm.MethodName)) ∈ TT := TT_m4 146 rfl rfl
set_option maxRecDepth 4000 in
theorem wt_934 : (Jvm.Cond.code (⟨"PortsBenchModel", "stand", "(II)I"⟩ : Jvm.MethodName) prog_10_method_6_code (4 : Nat) (Option.some Jvm.ClassFile.FieldType.int)) ∈ TT := TT_m4 147 rfl rfl
set_option maxRecDepth 4000 in
theorem wt_935 : (Jvm.Cond.constant "PortsBenchModel" (65 : Nat) (32768 : Int32)) ∈ TT := TT_m4 148 rfl rfl
set_option maxRecDepth 4000 in
theorem wt_936 : (Jvm.Cond.methodLink "PortsBenchModel" (80 : Nat) (⟨"PortsBenchModel", "one", "(II)I"⟩ : Jvm.MethodName)) ∈ TT := TT_m4 149 rfl rfl
set_option maxRecDepth 4000 in
theorem wt_938 : (Jvm.Cond.instanceMethod (⟨"PortsBenchModel", "one", "(II)I"⟩ : Jvm.MethodName)) ∈ TT := TT_m4 151 rfl rfl
set_option maxRecDepth 4000 in
theorem wt_939 : (Jvm.Cond.code (⟨"PortsBenchModel", "one", "(II)I"⟩ : Jvm.MethodName) prog_10_method_15_code (11 : Nat) (Option.some Jvm.ClassFile.FieldType.int)) ∈ TT := TT_m4 152 rfl rfl
set_option maxRecDepth 4000 in
theorem wt_940 : (Jvm.Cond.methodLink "PortsBenchModel" (69 : Nat) (⟨"PortsBenchModel", "trims", "(I)V"⟩ : Jvm.MethodName)) ∈ TT := TT_m4 153 rfl rfl
set_option maxRecDepth 4000 in
theorem wt_942 : (Jvm.Cond.instanceMethod (⟨"PortsBenchModel", "trims", "(I)V"⟩ : Jvm.MethodName)) ∈ TT := TT_m4 155 rfl rfl
set_option maxRecDepth 4000 in
theorem wt_943 : (Jvm.Cond.code (⟨"PortsBenchModel", "trims", "(I)V"⟩ : Jvm.MethodName) prog_10_method_5_code (2 : Nat) (Option.none : Option Jvm.ClassFile.FieldType)) ∈ TT := TT_m4 156 rfl rfl
set_option maxRecDepth 4000 in
theorem wt_944 : (Jvm.Cond.methodLink "PortsBenchModel" (138 : Nat) (⟨"PortsBenchModel", "by", "(II)I"⟩ : Jvm.MethodName)) ∈ TT := TT_m4 157 rfl rfl
set_option maxRecDepth 4000 in
theorem wt_946 : (Jvm.Cond.instanceMethod (⟨"PortsBenchModel", "by", "(II)I"⟩ : Jvm.MethodName)) ∈ TT := TT_m4 159 rfl rfl
set_option maxRecDepth 4000 in
theorem wt_947 : (Jvm.Cond.code (⟨"PortsBenchModel", "by", "(II)I"⟩ : Jvm.MethodName) prog_10_method_17_code (7 : Nat) (Option.some Jvm.ClassFile.FieldType.int)) ∈ TT := TT_m4 160 rfl rfl
set_option maxRecDepth 4000 in
theorem wt_948 : (Jvm.Cond.methodLink "PortsBenchModel" (141 : Nat) (⟨"PortsBenchModel", "splits", "(I)Z"⟩ : Jvm.MethodName)) ∈ TT := TT_m4 161 rfl rfl
set_option maxRecDepth 4000 in
theorem wt_950 : (Jvm.Cond.instanceMethod (⟨"PortsBenchModel", "splits", "(I)Z"⟩ : Jvm.MethodName)) ∈ TT := TT_m4 163 rfl rfl
set_option maxRecDepth 4000 in
theorem wt_951 : (Jvm.Cond.code (⟨"PortsBenchModel", "splits", "(I)Z"⟩ : Jvm.MethodName) prog_10_method_18_code (9 : Nat) (Option.some Jvm.ClassFile.FieldType.boolean)) ∈ TT := TT_m4 164 rfl rfl
set_option maxRecDepth 4000 in
theorem wt_952 : (Jvm.Cond.constantLong "PortsBenchModel" (87 : Nat) (1000000000000 : Int64)) ∈ TT := TT_m4 165 rfl rfl
set_option maxRecDepth 4000 in
theorem wt_953 : (Jvm.Cond.methodLink "PortsBenchModel" (93 : Nat) (⟨"PortsBenchModel", "times", "(II)I"⟩ : Jvm.MethodName)) ∈ TT := TT_m4 166 rfl rfl
set_option maxRecDepth 4000 in
theorem wt_955 : (Jvm.Cond.instanceMethod (⟨"PortsBenchModel", "times", "(II)I"⟩ : Jvm.MethodName)) ∈ TT := TT_m4 168 rfl rfl
set_option maxRecDepth 4000 in
theorem wt_956 : (Jvm.Cond.code (⟨"PortsBenchModel", "times", "(II)I"⟩ : Jvm.MethodName) prog_10_method_11_code (10 : Nat) (Option.some Jvm.ClassFile.FieldType.int)) ∈ TT := TT_m4 169 rfl rfl
set_option maxRecDepth 4000 in
theorem wt_957 : (Jvm.Cond.methodLink "PortsBenchModel" (177 : Nat) (⟨"PortsBenchModel", "ends", "(I)I"⟩ : Jvm.MethodName)) ∈ TT := TT_m4 170 rfl rfl
set_option maxRecDepth 4000 in
theorem wt_959 : (Jvm.Cond.instanceMethod (⟨"PortsBenchModel", "ends", "(I)I"⟩ : Jvm.MethodName)) ∈ TT := TT_m4 172 rfl rfl
set_option maxRecDepth 4000 in
theorem wt_960 : (Jvm.Cond.code (⟨"PortsBenchModel", "ends", "(I)I"⟩ : Jvm.MethodName) prog_10_method_35_code (3 : Nat) (Option.some Jvm.ClassFile.FieldType.int)) ∈ TT := TT_m4 173 rfl rfl
set_option maxRecDepth 4000 in
theorem wt_961 : (Jvm.Cond.methodLink "PortsBenchModel" (151 : Nat) (⟨"PortsBenchModel", "keep", "()V"⟩ : Jvm.MethodName)) ∈ TT := TT_m4 174 rfl rfl
set_option maxRecDepth 4000 in
theorem wt_963 : (Jvm.Cond.instanceMethod (⟨"PortsBenchModel", "keep", "()V"⟩ : Jvm.MethodName)) ∈ TT := TT_m4 176 rfl rfl
set_option maxRecDepth 4000 in
theorem wt_964 : (Jvm.Cond.code (⟨"PortsBenchModel", "keep", "()V"⟩ : Jvm.MethodName) prog_10_method_34_code (2 : Nat) (Option.none : Option Jvm.ClassFile.FieldType)) ∈ TT := TT_m4 177 rfl rfl
set_option maxRecDepth 4000 in
theorem wt_965 : (Jvm.Cond.methodLink "PortsBenchLaw" (27 : Nat) (⟨"PortsBenchModel", "all", "(IIIIII)I"⟩ : Jvm.MethodName)) ∈ TT := TT_m4 178 rfl rfl
set_option maxRecDepth 4000 in
theorem wt_966 : (Jvm.Cond.instanceMethod (⟨"PortsBenchModel", "all", "(IIIIII)I"⟩ : Jvm.MethodName)) ∈ TT := TT_m4 179 rfl rfl
set_option maxRecDepth 4000 in
theorem wt_967 : (Jvm.Cond.selects "PortsBenchModel" (⟨"PortsBenchModel", "all", "(IIIIII)I"⟩ : Jvm.MethodName) (⟨"PortsBenchModel", "all", "(IIIIII)I"⟩ : Jvm.MethodName)) ∈ TT := TT_m4 180 rfl rfl
set_option maxRecDepth 4000 in
theorem wt_968 : (Jvm.Cond.code (⟨"PortsBenchModel", "all", "(IIIIII)I"⟩ : Jvm.MethodName) prog_10_method_45_code (7 : Nat) (Option.some Jvm.ClassFile.FieldType.int)) ∈ TT := TT_m4 181 rfl rfl
set_option maxRecDepth 4000 in
theorem wt_969 : (Jvm.Cond.methodLink "PortsBenchLaw" (32 : Nat) (⟨"PortsBenchModel", "copy", "(II)I"⟩ : Jvm.MethodName)) ∈ TT := TT_m4 182 rfl rfl
set_option maxRecDepth 4000 in
theorem wt_970 : (Jvm.Cond.instanceMethod (⟨"PortsBenchModel", "copy", "(II)I"⟩ : Jvm.MethodName)) ∈ TT := TT_m4 183 rfl rfl
set_option maxRecDepth 4000 in
theorem wt_971 : (Jvm.Cond.selects "PortsBenchModel" (⟨"PortsBenchModel", "copy", "(II)I"⟩ : Jvm.MethodName) (⟨"PortsBenchModel", "copy", "(II)I"⟩ : Jvm.MethodName)) ∈ TT := TT_m4 184 rfl rfl
set_option maxRecDepth 4000 in
theorem wt_972 : (Jvm.Cond.code (⟨"PortsBenchModel", "copy", "(II)I"⟩ : Jvm.MethodName) prog_10_method_46_code (3 : Nat) (Option.some Jvm.ClassFile.FieldType.int)) ∈ TT := TT_m4 185 rfl rfl
set_option maxRecDepth 4000 in
theorem wt_973 : (Jvm.Cond.methodLink "PortsBenchLaw" (37 : Nat) (⟨"PortsBenchModel", "join", "(III)I"⟩ : Jvm.MethodName)) ∈ TT := TT_m4 186 rfl rfl
set_option maxRecDepth 4000 in
theorem wt_974 : (Jvm.Cond.instanceMethod (⟨"PortsBenchModel", "join", "(III)I"⟩ : Jvm.MethodName)) ∈ TT := TT_m4 187 rfl rfl
set_option maxRecDepth 4000 in
theorem wt_975 : (Jvm.Cond.selects "PortsBenchModel" (⟨"PortsBenchModel", "join", "(III)I"⟩ : Jvm.MethodName) (⟨"PortsBenchModel", "join", "(III)I"⟩ : Jvm.MethodName)) ∈ TT := TT_m4 188 rfl rfl
set_option maxRecDepth 4000 in
theorem wt_976 : (Jvm.Cond.code (⟨"PortsBenchModel", "join", "(III)I"⟩ : Jvm.MethodName) prog_10_method_47_code (7 : Nat) (Option.some Jvm.ClassFile.FieldType.int)) ∈ TT := TT_m4 189 rfl rfl
set_option maxRecDepth 4000 in
theorem wt_977 : (Jvm.Cond.methodLink "PortsBenchModel" (193 : Nat) (⟨"PortsBenchModel", "has", "(II)Z"⟩ : Jvm.MethodName)) ∈ TT := TT_m4 190 rfl rfl
set_option maxRecDepth 4000 in
theorem wt_979 : (Jvm.Cond.instanceMethod (⟨"PortsBenchModel", "has", "(II)Z"⟩ : Jvm.MethodName)) ∈ TT := TT_m4 192 rfl rfl
set_option maxRecDepth 4000 in
theorem wt_980 : (Jvm.Cond.code (⟨"PortsBenchModel", "has", "(II)Z"⟩ : Jvm.MethodName) prog_10_method_38_code (3 : Nat) (Option.some Jvm.ClassFile.FieldType.boolean)) ∈ TT := TT_m4 193 rfl rfl
set_option maxRecDepth 4000 in
theorem wt_981 : (Jvm.Cond.methodLink "PortsBenchModel" (197 : Nat) (⟨"PortsBenchModel", "whole", "(J)I"⟩ : Jvm.MethodName)) ∈ TT := TT_m4 194 rfl rfl
set_option maxRecDepth 4000 in
theorem wt_983 : (Jvm.Cond.instanceMethod (⟨"PortsBenchModel", "whole", "(J)I"⟩ : Jvm.MethodName)) ∈ TT := TT_m4 196 rfl rfl
set_option maxRecDepth 4000 in
theorem wt_984 : (Jvm.Cond.code (⟨"PortsBenchModel", "whole", "(J)I"⟩ : Jvm.MethodName) prog_10_method_20_code (3 : Nat) (Option.some Jvm.ClassFile.FieldType.int)) ∈ TT := TT_m4 197 rfl rfl
set_option maxRecDepth 4000 in
theorem wt_985 : (Jvm.Cond.methodLink "PortsBenchModel" (200 : Nat) (⟨"PortsBenchModel", "entry", "(IIII)I"⟩ : Jvm.MethodName)) ∈ TT := TT_m4 198 rfl rfl
set_option maxRecDepth 4000 in
theorem wt_987 : (Jvm.Cond.instanceMethod (⟨"PortsBenchModel", "entry", "(IIII)I"⟩ : Jvm.MethodName)) ∈ TT := TT_m4 200 rfl rfl
set_option maxRecDepth 4000 in
theorem wt_988 : (Jvm.Cond.code (⟨"PortsBenchModel", "entry", "(IIII)I"⟩ : Jvm.MethodName) prog_10_method_31_code (5 : Nat) (Option.some Jvm.ClassFile.FieldType.int)) ∈ TT := TT_m4 201 rfl rfl
set_option maxRecDepth 4000 in
theorem wt_989 : (Jvm.Cond.methodLink "PortsBenchModel" (128 : Nat) (⟨"PortsBenchModel", "place", "(IIII)I"⟩ : Jvm.MethodName)) ∈ TT := TT_m4 202 rfl rfl
set_option maxRecDepth 4000 in
theorem wt_990 : (Jvm.Cond.static (⟨"PortsBenchModel", "place", "(IIII)I"⟩ : Jvm.MethodName)) ∈ TT := TT_m4 203 rfl rfl
set_option maxRecDepth 4000 in
theorem wt_991 : (Jvm.Cond.code (⟨"PortsBenchModel", "place", "(IIII)I"⟩ : Jvm.MethodName) prog_10_method_29_code (4 : Nat) (Option.some Jvm.ClassFile.FieldType.int)) ∈ TT := TT_m4 204 rfl rfl
set_option maxRecDepth 4000 in
theorem wt_992 : (Jvm.Cond.methodLink "PortsBenchModel" (132 : Nat) (⟨"PortsBenchModel", "loaded", "(I)I"⟩ : Jvm.MethodName)) ∈ TT := TT_m4 205 rfl rfl
set_option maxRecDepth 4000 in
theorem wt_994 : (Jvm.Cond.instanceMethod (⟨"PortsBenchModel", "loaded", "(I)I"⟩ : Jvm.MethodName)) ∈ TT := TT_m4 207 rfl rfl
set_option maxRecDepth 4000 in
theorem wt_995 : (Jvm.Cond.code (⟨"PortsBenchModel", "loaded", "(I)I"⟩ : Jvm.MethodName) prog_10_method_30_code (5 : Nat) (Option.some Jvm.ClassFile.FieldType.int)) ∈ TT := TT_m4 208 rfl rfl
set_option maxRecDepth 4000 in
theorem wt_996 : (Jvm.Cond.methodLink "PortsBenchModel" (77 : Nat) (⟨"PortsBenchModel", "plus", "(II)I"⟩ : Jvm.MethodName)) ∈ TT := TT_m4 209 rfl rfl
set_option maxRecDepth 4000 in
theorem wt_998 : (Jvm.Cond.instanceMethod (⟨"PortsBenchModel", "plus", "(II)I"⟩ : Jvm.MethodName)) ∈ TT := TT_m4 211 rfl rfl
set_option maxRecDepth 4000 in
theorem wt_999 : (Jvm.Cond.code (⟨"PortsBenchModel", "plus", "(II)I"⟩ : Jvm.MethodName) prog_10_method_8_code (10 : Nat) (Option.some Jvm.ClassFile.FieldType.int)) ∈ TT := TT_m4 212 rfl rfl
set_option maxRecDepth 4000 in
theorem wt_1000 : (Jvm.Cond.methodLink "PortsBenchModel" (61 : Nat) (⟨"PortsBenchModel", "at", "(II)I"⟩ : Jvm.MethodName)) ∈ TT := TT_m4 213 rfl rfl
set_option maxRecDepth 4000 in
theorem wt_1002 : (Jvm.Cond.instanceMethod (⟨"PortsBenchModel", "at", "(II)I"⟩ : Jvm.MethodName)) ∈ TT := TT_m4 215 rfl rfl
set_option maxRecDepth 4000 in
theorem wt_1003 : (Jvm.Cond.code (⟨"PortsBenchModel", "at", "(II)I"⟩ : Jvm.MethodName) prog_10_method_7_code (3 : Nat) (Option.some Jvm.ClassFile.FieldType.int)) ∈ TT := TT_m4 216 rfl rfl
set_option maxRecDepth 4000 in
theorem wt_1004 : (Jvm.Cond.methodLink "PortsBenchModel" (118 : Nat) (⟨"PortsBenchModel", "product", "(II)I"⟩ : Jvm.MethodName)) ∈ TT := TT_m4 217 rfl rfl
set_option maxRecDepth 4000 in
theorem wt_1006 : (Jvm.Cond.instanceMethod (⟨"PortsBenchModel", "product", "(II)I"⟩ : Jvm.MethodName)) ∈ TT := TT_m4 219 rfl rfl
set_option maxRecDepth 4000 in
theorem wt_1007 : (Jvm.Cond.code (⟨"PortsBenchModel", "product", "(II)I"⟩ : Jvm.MethodName) prog_10_method_24_code (3 : Nat) (Option.some Jvm.ClassFile.FieldType.int)) ∈ TT := TT_m4 220 rfl rfl
set_option maxRecDepth 4000 in
theorem wt_1008 : (Jvm.Cond.methodLink "PortsBenchModel" (112 : Nat) (⟨"PortsBenchModel", "less", "(II)I"⟩ : Jvm.MethodName)) ∈ TT := TT_m4 221 rfl rfl
set_option maxRecDepth 4000 in
theorem wt_1010 : (Jvm.Cond.instanceMethod (⟨"PortsBenchModel", "less", "(II)I"⟩ : Jvm.MethodName)) ∈ TT := TT_m4 223 rfl rfl
set_option maxRecDepth 4000 in
theorem wt_1011 : (Jvm.Cond.code (⟨"PortsBenchModel", "less", "(II)I"⟩ : Jvm.MethodName) prog_10_method_10_code (3 : Nat) (Option.some Jvm.ClassFile.FieldType.int)) ∈ TT := TT_m4 224 rfl rfl
set_option maxRecDepth 4000 in
theorem wt_1012 : (Jvm.Cond.methodLink "PortsBenchModel" (203 : Nat) (⟨"PortsBenchModel", "lessen", "(II)I"⟩ : Jvm.MethodName)) ∈ TT := TT_m4 225 rfl rfl
set_option maxRecDepth 4000 in
theorem wt_1014 : (Jvm.Cond.instanceMethod (⟨"PortsBenchModel", "lessen", "(II)I"⟩ : Jvm.MethodName)) ∈ TT := TT_m4 227 rfl rfl
set_option maxRecDepth 4000 in
theorem wt_1015 : (Jvm.Cond.code (⟨"PortsBenchModel", "lessen", "(II)I"⟩ : Jvm.MethodName) prog_10_method_23_code (3 : Nat) (Option.some Jvm.ClassFile.FieldType.int)) ∈ TT := TT_m4 228 rfl rfl
set_option maxRecDepth 4000 in
theorem wt_1016 : (Jvm.Cond.methodLink "PortsBenchModel" (106 : Nat) (⟨"PortsBenchModel", "turnedSign", "(I)I"⟩ : Jvm.MethodName)) ∈ TT := TT_m4 229 rfl rfl
set_option maxRecDepth 4000 in
theorem wt_1018 : (Jvm.Cond.instanceMethod (⟨"PortsBenchModel", "turnedSign", "(I)I"⟩ : Jvm.MethodName)) ∈ TT := TT_m4 231 rfl rfl
set_option maxRecDepth 4000 in
theorem wt_1019 : (Jvm.Cond.code (⟨"PortsBenchModel", "turnedSign", "(I)I"⟩ : Jvm.MethodName) prog_10_method_22_code (2 : Nat) (Option.some Jvm.ClassFile.FieldType.int)) ∈ TT := TT_m4 232 rfl rfl
set_option maxRecDepth 4000 in
theorem wt_1020 : (Jvm.Cond.methodLink "PortsBenchModel" (109 : Nat) (⟨"PortsBenchModel", "added", "(II)I"⟩ : Jvm.MethodName)) ∈ TT := TT_m4 233 rfl rfl
set_option maxRecDepth 4000 in
theorem wt_1022 : (Jvm.Cond.instanceMethod (⟨"PortsBenchModel", "added", "(II)I"⟩ : Jvm.MethodName)) ∈ TT := TT_m4 235 rfl rfl
set_option maxRecDepth 4000 in
theorem wt_1023 : (Jvm.Cond.code (⟨"PortsBenchModel", "added", "(II)I"⟩ : Jvm.MethodName) prog_10_method_21_code (3 : Nat) (Option.some Jvm.ClassFile.FieldType.int)) ∈ TT := TT_m4 236 rfl rfl
set_option maxRecDepth 4000 in
theorem wt_1024 : (Jvm.Cond.methodLink "PortsBenchModel" (206 : Nat) (⟨"PortsBenchModel", "isZero", "(I)Z"⟩ : Jvm.MethodName)) ∈ TT := TT_m4 237 rfl rfl
set_option maxRecDepth 4000 in
theorem wt_1026 : (Jvm.Cond.instanceMethod (⟨"PortsBenchModel", "isZero", "(I)Z"⟩ : Jvm.MethodName)) ∈ TT := TT_m4 239 rfl rfl
set_option maxRecDepth 4000 in
theorem wt_1027 : (Jvm.Cond.code (⟨"PortsBenchModel", "isZero", "(I)Z"⟩ : Jvm.MethodName) prog_10_method_28_code (2 : Nat) (Option.some Jvm.ClassFile.FieldType.boolean)) ∈ TT := TT_m5 0 rfl rfl
set_option maxRecDepth 4000 in
theorem wt_1028 : (Jvm.Cond.methodLink "PortsBenchModel" (124 : Nat) (⟨"PortsBenchModel", "isNought", "(I)Z"⟩ : Jvm.MethodName)) ∈ TT := TT_m5 1 rfl rfl
set_option maxRecDepth 4000 in
theorem wt_1030 : (Jvm.Cond.instanceMethod (⟨"PortsBenchModel", "isNought", "(I)Z"⟩ : Jvm.MethodName)) ∈ TT := TT_m5 3 rfl rfl
set_option maxRecDepth 4000 in
theorem wt_1031 : (Jvm.Cond.code (⟨"PortsBenchModel", "isNought", "(I)Z"⟩ : Jvm.MethodName) prog_10_method_12_code (2 : Nat) (Option.some Jvm.ClassFile.FieldType.boolean)) ∈ TT := TT_m5 4 rfl rfl
set_option maxRecDepth 4000 in
theorem wt_1032 : (Jvm.Cond.methodLink "PortsBenchModel" (209 : Nat) (⟨"PortsBenchModel", "refuses", "(II)I"⟩ : Jvm.MethodName)) ∈ TT := TT_m5 5 rfl rfl
set_option maxRecDepth 4000 in
theorem wt_1034 : (Jvm.Cond.instanceMethod (⟨"PortsBenchModel", "refuses", "(II)I"⟩ : Jvm.MethodName)) ∈ TT := TT_m5 7 rfl rfl
set_option maxRecDepth 4000 in
theorem wt_1035 : (Jvm.Cond.code (⟨"PortsBenchModel", "refuses", "(II)I"⟩ : Jvm.MethodName) prog_10_method_36_code (3 : Nat) (Option.some Jvm.ClassFile.FieldType.int)) ∈ TT := TT_m5 8 rfl rfl
set_option maxRecDepth 4000 in
theorem wt_1036 : (Jvm.Cond.methodLink "PortsBenchModel" (212 : Nat) (⟨"PortsBenchModel", "begins", "()V"⟩ : Jvm.MethodName)) ∈ TT := TT_m5 9 rfl rfl
set_option maxRecDepth 4000 in
theorem wt_1038 : (Jvm.Cond.instanceMethod (⟨"PortsBenchModel", "begins", "()V"⟩ : Jvm.MethodName)) ∈ TT := TT_m5 11 rfl rfl
set_option maxRecDepth 4000 in
theorem wt_1039 : (Jvm.Cond.code (⟨"PortsBenchModel", "begins", "()V"⟩ : Jvm.MethodName) prog_10_method_33_code (3 : Nat) (Option.none : Option Jvm.ClassFile.FieldType)) ∈ TT := TT_m5 12 rfl rfl
set_option maxRecDepth 4000 in
theorem wt_1040 : (Jvm.Cond.methodLink "PortsBenchModel" (215 : Nat) (⟨"PortsBenchModel", "joined", "(IIIII)I"⟩ : Jvm.MethodName)) ∈ TT := TT_m5 13 rfl rfl
set_option maxRecDepth 4000 in
theorem wt_1042 : (Jvm.Cond.instanceMethod (⟨"PortsBenchModel", "joined", "(IIIII)I"⟩ : Jvm.MethodName)) ∈ TT := TT_m5 15 rfl rfl
set_option maxRecDepth 4000 in
theorem wt_1043 : (Jvm.Cond.code (⟨"PortsBenchModel", "joined", "(IIIII)I"⟩ : Jvm.MethodName) prog_10_method_48_code (6 : Nat) (Option.some Jvm.ClassFile.FieldType.int)) ∈ TT := TT_m5 16 rfl rfl
set_option maxRecDepth 4000 in
theorem wt_1044 : (Jvm.Cond.methodLink "PortsBenchModel" (219 : Nat) (⟨"PortsBenchModel", "quotientOf", "(II)I"⟩ : Jvm.MethodName)) ∈ TT := TT_m5 17 rfl rfl
set_option maxRecDepth 4000 in
theorem wt_1046 : (Jvm.Cond.instanceMethod (⟨"PortsBenchModel", "quotientOf", "(II)I"⟩ : Jvm.MethodName)) ∈ TT := TT_m5 19 rfl rfl
set_option maxRecDepth 4000 in
theorem wt_1047 : (Jvm.Cond.code (⟨"PortsBenchModel", "quotientOf", "(II)I"⟩ : Jvm.MethodName) prog_10_method_27_code (4 : Nat) (Option.some Jvm.ClassFile.FieldType.int)) ∈ TT := TT_m5 20 rfl rfl
set_option maxRecDepth 4000 in
theorem wt_1048 : (Jvm.Cond.methodLink "PortsBenchModel" (115 : Nat) (⟨"PortsBenchModel", "mirrored", "(I)I"⟩ : Jvm.MethodName)) ∈ TT := TT_m5 21 rfl rfl
set_option maxRecDepth 4000 in
theorem wt_1050 : (Jvm.Cond.instanceMethod (⟨"PortsBenchModel", "mirrored", "(I)I"⟩ : Jvm.MethodName)) ∈ TT := TT_m5 23 rfl rfl
set_option maxRecDepth 4000 in
theorem wt_1051 : (Jvm.Cond.code (⟨"PortsBenchModel", "mirrored", "(I)I"⟩ : Jvm.MethodName) prog_10_method_26_code (2 : Nat) (Option.some Jvm.ClassFile.FieldType.int)) ∈ TT := TT_m5 24 rfl rfl
set_option maxRecDepth 4000 in
theorem wt_1052 : (Jvm.Cond.methodLink "PortsBenchModel" (121 : Nat) (⟨"PortsBenchModel", "square", "(I)I"⟩ : Jvm.MethodName)) ∈ TT := TT_m5 25 rfl rfl
set_option maxRecDepth 4000 in
theorem wt_1054 : (Jvm.Cond.instanceMethod (⟨"PortsBenchModel", "square", "(I)I"⟩ : Jvm.MethodName)) ∈ TT := TT_m5 27 rfl rfl
set_option maxRecDepth 4000 in
theorem wt_1055 : (Jvm.Cond.code (⟨"PortsBenchModel", "square", "(I)I"⟩ : Jvm.MethodName) prog_10_method_25_code (2 : Nat) (Option.some Jvm.ClassFile.FieldType.int)) ∈ TT := TT_m5 28 rfl rfl
set_option maxRecDepth 4000 in
theorem wt_1056 : (Jvm.Cond.methodLink "PortsBenchLaw" (42 : Nat) (⟨"PortsBenchModel", "takeOff", "(IIII)I"⟩ : Jvm.MethodName)) ∈ TT := TT_m5 29 rfl rfl
set_option maxRecDepth 4000 in
theorem wt_1057 : (Jvm.Cond.instanceMethod (⟨"PortsBenchModel", "takeOff", "(IIII)I"⟩ : Jvm.MethodName)) ∈ TT := TT_m5 30 rfl rfl
set_option maxRecDepth 4000 in
theorem wt_1058 : (Jvm.Cond.selects "PortsBenchModel" (⟨"PortsBenchModel", "takeOff", "(IIII)I"⟩ : Jvm.MethodName) (⟨"PortsBenchModel", "takeOff", "(IIII)I"⟩ : Jvm.MethodName)) ∈ TT := TT_m5 31 rfl rfl
set_option maxRecDepth 4000 in
theorem wt_1059 : (Jvm.Cond.code (⟨"PortsBenchModel", "takeOff", "(IIII)I"⟩ : Jvm.MethodName) prog_10_method_50_code (10 : Nat) (Option.some Jvm.ClassFile.FieldType.int)) ∈ TT := TT_m5 32 rfl rfl
set_option maxRecDepth 4000 in
theorem wt_1060 : (Jvm.Cond.methodLink "PortsBenchModel" (222 : Nat) (⟨"PortsBenchModel", "leftOver", "(IIII)I"⟩ : Jvm.MethodName)) ∈ TT := TT_m5 33 rfl rfl
set_option maxRecDepth 4000 in
theorem wt_1062 : (Jvm.Cond.instanceMethod (⟨"PortsBenchModel", "leftOver", "(IIII)I"⟩ : Jvm.MethodName)) ∈ TT := TT_m5 35 rfl rfl
set_option maxRecDepth 4000 in
theorem wt_1063 : (Jvm.Cond.code (⟨"PortsBenchModel", "leftOver", "(IIII)I"⟩ : Jvm.MethodName) prog_10_method_49_code (6 : Nat) (Option.some Jvm.ClassFile.FieldType.int)) ∈ TT := TT_m5 36 rfl rfl
set_option maxRecDepth 4000 in
theorem wt_1064 : (Jvm.Cond.methodLink "PortsBenchModel" (225 : Nat) (⟨"PortsBenchModel", "without", "(IIIIII)I"⟩ : Jvm.MethodName)) ∈ TT := TT_m5 37 rfl rfl
set_option maxRecDepth 4000 in
theorem wt_1066 : (Jvm.Cond.instanceMethod (⟨"PortsBenchModel", "without", "(IIIIII)I"⟩ : Jvm.MethodName)) ∈ TT := TT_m5 39 rfl rfl
set_option maxRecDepth 4000 in
theorem wt_1067 : (Jvm.Cond.code (⟨"PortsBenchModel", "without", "(IIIIII)I"⟩ : Jvm.MethodName) prog_10_method_51_code (7 : Nat) (Option.some Jvm.ClassFile.FieldType.int)) ∈ TT := TT_m5 40 rfl rfl
set_option maxRecDepth 4000 in
theorem wt_1068 : (Jvm.Cond.methodLink "PortsBenchLaw" (46 : Nat) (⟨"PortsBenchModel", "turn", "(II)I"⟩ : Jvm.MethodName)) ∈ TT := TT_m5 41 rfl rfl
set_option maxRecDepth 4000 in
theorem wt_1069 : (Jvm.Cond.instanceMethod (⟨"PortsBenchModel", "turn", "(II)I"⟩ : Jvm.MethodName)) ∈ TT := TT_m5 42 rfl rfl
set_option maxRecDepth 4000 in
theorem wt_1070 : (Jvm.Cond.selects "PortsBenchModel" (⟨"PortsBenchModel", "turn", "(II)I"⟩ : Jvm.MethodName) (⟨"PortsBenchModel", "turn", "(II)I"⟩ : Jvm.MethodName)) ∈ TT := TT_m5 43 rfl rfl
set_option maxRecDepth 4000 in
theorem wt_1071 : (Jvm.Cond.code (⟨"PortsBenchModel", "turn", "(II)I"⟩ : Jvm.MethodName) prog_10_method_52_code (6 : Nat) (Option.some Jvm.ClassFile.FieldType.int)) ∈ TT := TT_m5 44 rfl rfl
set_option maxRecDepth 4000 in
theorem wt_1072 : (Jvm.Cond.methodLink "PortsBenchLaw" (50 : Nat) (⟨"PortsBenchModel", "close", "(III)I"⟩ : Jvm.MethodName)) ∈ TT := TT_m5 45 rfl rfl
set_option maxRecDepth 4000 in
theorem wt_1073 : (Jvm.Cond.instanceMethod (⟨"PortsBenchModel", "close", "(III)I"⟩ : Jvm.MethodName)) ∈ TT := TT_m5 46 rfl rfl
set_option maxRecDepth 4000 in
theorem wt_1074 : (Jvm.Cond.selects "PortsBenchModel" (⟨"PortsBenchModel", "close", "(III)I"⟩ : Jvm.MethodName) (⟨"PortsBenchModel", "close", "(III)I"⟩ : Jvm.MethodName)) ∈ TT := TT_m5 47 rfl rfl
set_option maxRecDepth 4000 in
theorem wt_1075 : (Jvm.Cond.code (⟨"PortsBenchModel", "close", "(III)I"⟩ : Jvm.MethodName) prog_10_method_53_code (7 : Nat) (Option.some Jvm.ClassFile.FieldType.int)) ∈ TT := TT_m5 48 rfl rfl
set_option maxRecDepth 4000 in
theorem wt_1076 : (Jvm.Cond.methodLink "PortsBenchLaw" (54 : Nat) (⟨"PortsBenchModel", "learn", "(III)I"⟩ : Jvm.MethodName)) ∈ TT := TT_m5 49 rfl rfl
set_option maxRecDepth 4000 in
theorem wt_1077 : (Jvm.Cond.instanceMethod (⟨"PortsBenchModel", "learn", "(III)I"⟩ : Jvm.MethodName)) ∈ TT := TT_m5 50 rfl rfl
set_option maxRecDepth 4000 in
theorem wt_1078 : (Jvm.Cond.selects "PortsBenchModel" (⟨"PortsBenchModel", "learn", "(III)I"⟩ : Jvm.MethodName) (⟨"PortsBenchModel", "learn", "(III)I"⟩ : Jvm.MethodName)) ∈ TT := TT_m5 51 rfl rfl
set_option maxRecDepth 4000 in
theorem wt_1079 : (Jvm.Cond.code (⟨"PortsBenchModel", "learn", "(III)I"⟩ : Jvm.MethodName) prog_10_method_56_code (11 : Nat) (Option.some Jvm.ClassFile.FieldType.int)) ∈ TT := TT_m5 52 rfl rfl
set_option maxRecDepth 4000 in
theorem wt_1080 : (Jvm.Cond.constantLong "PortsBenchModel" (229 : Nat) (16 : Int64)) ∈ TT := TT_m5 53 rfl rfl
set_option maxRecDepth 4000 in
theorem wt_1081 : (Jvm.Cond.methodLink "PortsBenchModel" (231 : Nat) (⟨"PortsBenchModel", "rows", "(III)V"⟩ : Jvm.MethodName)) ∈ TT := TT_m5 54 rfl rfl
set_option maxRecDepth 4000 in
theorem wt_1083 : (Jvm.Cond.instanceMethod (⟨"PortsBenchModel", "rows", "(III)V"⟩ : Jvm.MethodName)) ∈ TT := TT_m5 56 rfl rfl
set_option maxRecDepth 4000 in
theorem wt_1084 : (Jvm.Cond.code (⟨"PortsBenchModel", "rows", "(III)V"⟩ : Jvm.MethodName) prog_10_method_54_code (12 : Nat) (Option.none : Option Jvm.ClassFile.FieldType)) ∈ TT := TT_m5 57 rfl rfl
set_option maxRecDepth 4000 in
theorem wt_1085 : (Jvm.Cond.methodLink "PortsBenchModel" (235 : Nat) (⟨"PortsBenchModel", "worth", "(III)I"⟩ : Jvm.MethodName)) ∈ TT := TT_m5 58 rfl rfl
set_option maxRecDepth 4000 in
theorem wt_1087 : (Jvm.Cond.instanceMethod (⟨"PortsBenchModel", "worth", "(III)I"⟩ : Jvm.MethodName)) ∈ TT := TT_m5 60 rfl rfl
set_option maxRecDepth 4000 in
theorem wt_1088 : (Jvm.Cond.code (⟨"PortsBenchModel", "worth", "(III)I"⟩ : Jvm.MethodName) prog_10_method_55_code (7 : Nat) (Option.some Jvm.ClassFile.FieldType.int)) ∈ TT := TT_m5 61 rfl rfl
set_option maxRecDepth 4000 in
theorem wt_1089 : (Jvm.Cond.methodLink "PortsBenchLaw" (58 : Nat) (⟨"PortsBenchModel", "correct", "(III)I"⟩ : Jvm.MethodName)) ∈ TT := TT_m5 62 rfl rfl
set_option maxRecDepth 4000 in
theorem wt_1090 : (Jvm.Cond.instanceMethod (⟨"PortsBenchModel", "correct", "(III)I"⟩ : Jvm.MethodName)) ∈ TT := TT_m5 63 rfl rfl
set_option maxRecDepth 4000 in
theorem wt_1091 : (Jvm.Cond.selects "PortsBenchModel" (⟨"PortsBenchModel", "correct", "(III)I"⟩ : Jvm.MethodName) (⟨"PortsBenchModel", "correct", "(III)I"⟩ : Jvm.MethodName)) ∈ TT := TT_m5 64 rfl rfl
set_option maxRecDepth 4000 in
theorem wt_1092 : (Jvm.Cond.code (⟨"PortsBenchModel", "correct", "(III)I"⟩ : Jvm.MethodName) prog_10_method_57_code (5 : Nat) (Option.some Jvm.ClassFile.FieldType.int)) ∈ TT := TT_m5 65 rfl rfl
set_option maxRecDepth 4000 in
theorem wt_1093 : (Jvm.Cond.methodLink "PortsBenchModel" (238 : Nat) (⟨"PortsBenchModel", "underneath", "(III)I"⟩ : Jvm.MethodName)) ∈ TT := TT_m5 66 rfl rfl
set_option maxRecDepth 4000 in
theorem wt_1095 : (Jvm.Cond.instanceMethod (⟨"PortsBenchModel", "underneath", "(III)I"⟩ : Jvm.MethodName)) ∈ TT := TT_m5 68 rfl rfl
set_option maxRecDepth 4000 in
theorem wt_1096 : (Jvm.Cond.code (⟨"PortsBenchModel", "underneath", "(III)I"⟩ : Jvm.MethodName) prog_10_method_58_code (5 : Nat) (Option.some Jvm.ClassFile.FieldType.int)) ∈ TT := TT_m5 69 rfl rfl
set_option maxRecDepth 4000 in
theorem wt_1097 : (Jvm.Cond.methodLink "PortsBenchLaw" (62 : Nat) (⟨"PortsBenchModel", "step", "(III)I"⟩ : Jvm.MethodName)) ∈ TT := TT_m5 70 rfl rfl
set_option maxRecDepth 4000 in
theorem wt_1098 : (Jvm.Cond.instanceMethod (⟨"PortsBenchModel", "step", "(III)I"⟩ : Jvm.MethodName)) ∈ TT := TT_m5 71 rfl rfl
set_option maxRecDepth 4000 in
theorem wt_1099 : (Jvm.Cond.selects "PortsBenchModel" (⟨"PortsBenchModel", "step", "(III)I"⟩ : Jvm.MethodName) (⟨"PortsBenchModel", "step", "(III)I"⟩ : Jvm.MethodName)) ∈ TT := TT_m5 72 rfl rfl
set_option maxRecDepth 4000 in
theorem wt_1100 : (Jvm.Cond.code (⟨"PortsBenchModel", "step", "(III)I"⟩ : Jvm.MethodName) prog_10_method_59_code (5 : Nat) (Option.some Jvm.ClassFile.FieldType.int)) ∈ TT := TT_m5 73 rfl rfl
set_option maxRecDepth 4000 in
theorem wt_1101 : (Jvm.Cond.constantLong "PortsBenchModel" (241 : Nat) (10000 : Int64)) ∈ TT := TT_m5 74 rfl rfl
set_option maxRecDepth 4000 in
theorem wt_1102 : (Jvm.Cond.methodLink "PortsBenchLaw" (66 : Nat) (⟨"PortsBenchModel", "time", "(IIII)I"⟩ : Jvm.MethodName)) ∈ TT := TT_m5 75 rfl rfl
set_option maxRecDepth 4000 in
theorem wt_1103 : (Jvm.Cond.instanceMethod (⟨"PortsBenchModel", "time", "(IIII)I"⟩ : Jvm.MethodName)) ∈ TT := TT_m5 76 rfl rfl
set_option maxRecDepth 4000 in
theorem wt_1104 : (Jvm.Cond.selects "PortsBenchModel" (⟨"PortsBenchModel", "time", "(IIII)I"⟩ : Jvm.MethodName) (⟨"PortsBenchModel", "time", "(IIII)I"⟩ : Jvm.MethodName)) ∈ TT := TT_m5 77 rfl rfl
set_option maxRecDepth 4000 in
theorem wt_1105 : (Jvm.Cond.code (⟨"PortsBenchModel", "time", "(IIII)I"⟩ : Jvm.MethodName) prog_10_method_61_code (8 : Nat) (Option.some Jvm.ClassFile.FieldType.int)) ∈ TT := TT_m5 78 rfl rfl
set_option maxRecDepth 4000 in
theorem wt_1106 : (Jvm.Cond.methodLink "PortsBenchModel" (243 : Nat) (⟨"PortsBenchModel", "quarter", "(II)I"⟩ : Jvm.MethodName)) ∈ TT := TT_m5 79 rfl rfl
set_option maxRecDepth 4000 in
theorem wt_1108 : (Jvm.Cond.instanceMethod (⟨"PortsBenchModel", "quarter", "(II)I"⟩ : Jvm.MethodName)) ∈ TT := TT_m5 81 rfl rfl
set_option maxRecDepth 4000 in
theorem wt_1109 : (Jvm.Cond.code (⟨"PortsBenchModel", "quarter", "(II)I"⟩ : Jvm.MethodName) prog_10_method_60_code (3 : Nat) (Option.some Jvm.ClassFile.FieldType.int)) ∈ TT := TT_m5 82 rfl rfl
set_option maxRecDepth 4000 in
theorem wt_1110 : (Jvm.Cond.constantLong "PortsBenchModel" (246 : Nat) (4 : Int64)) ∈ TT := TT_m5 83 rfl rfl
set_option maxRecDepth 4000 in
theorem wt_1111 : (Jvm.Cond.methodLink "PortsBenchLaw" (71 : Nat) (⟨"PortsBenchModel", "undo", "()I"⟩ : Jvm.MethodName)) ∈ TT := TT_m5 84 rfl rfl
set_option maxRecDepth 4000 in
theorem wt_1112 : (Jvm.Cond.instanceMethod (⟨"PortsBenchModel", "undo", "()I"⟩ : Jvm.MethodName)) ∈ TT := TT_m5 85 rfl rfl
set_option maxRecDepth 4000 in
theorem wt_1113 : (Jvm.Cond.selects "PortsBenchModel" (⟨"PortsBenchModel", "undo", "()I"⟩ : Jvm.MethodName) (⟨"PortsBenchModel", "undo", "()I"⟩ : Jvm.MethodName)) ∈ TT := TT_m5 86 rfl rfl
set_option maxRecDepth 4000 in
theorem wt_1114 : (Jvm.Cond.code (⟨"PortsBenchModel", "undo", "()I"⟩ : Jvm.MethodName) prog_10_method_62_code (3 : Nat) (Option.some Jvm.ClassFile.FieldType.int)) ∈ TT := TT_m5 87 rfl rfl
set_option maxRecDepth 4000 in
theorem wt_1115 : (Jvm.Cond.methodLink "PortsBenchLaw" (75 : Nat) (⟨"PortsBenchModel", "where", "(I)I"⟩ : Jvm.MethodName)) ∈ TT := TT_m5 88 rfl rfl
set_option maxRecDepth 4000 in
theorem wt_1116 : (Jvm.Cond.instanceMethod (⟨"PortsBenchModel", "where", "(I)I"⟩ : Jvm.MethodName)) ∈ TT := TT_m5 89 rfl rfl
set_option maxRecDepth 4000 in
theorem wt_1117 : (Jvm.Cond.selects "PortsBenchModel" (⟨"PortsBenchModel", "where", "(I)I"⟩ : Jvm.MethodName) (⟨"PortsBenchModel", "where", "(I)I"⟩ : Jvm.MethodName)) ∈ TT := TT_m5 90 rfl rfl
set_option maxRecDepth 4000 in
theorem wt_1118 : (Jvm.Cond.code (⟨"PortsBenchModel", "where", "(I)I"⟩ : Jvm.MethodName) prog_10_method_63_code (2 : Nat) (Option.some Jvm.ClassFile.FieldType.int)) ∈ TT := TT_m5 91 rfl rfl
set_option maxRecDepth 4000 in
theorem wt_1119 : (Jvm.Cond.methodLink "PortsBenchLaw" (80 : Nat) (⟨"PortsBenchModel", "part", "(IIIII)J"⟩ : Jvm.MethodName)) ∈ TT := TT_m5 92 rfl rfl
set_option maxRecDepth 4000 in
theorem wt_1120 : (Jvm.Cond.instanceMethod (⟨"PortsBenchModel", "part", "(IIIII)J"⟩ : Jvm.MethodName)) ∈ TT := TT_m5 93 rfl rfl
set_option maxRecDepth 4000 in
theorem wt_1121 : (Jvm.Cond.selects "PortsBenchModel" (⟨"PortsBenchModel", "part", "(IIIII)J"⟩ : Jvm.MethodName) (⟨"PortsBenchModel", "part", "(IIIII)J"⟩ : Jvm.MethodName)) ∈ TT := TT_m5 94 rfl rfl
set_option maxRecDepth 4000 in
theorem wt_1122 : (Jvm.Cond.code (⟨"PortsBenchModel", "part", "(IIIII)J"⟩ : Jvm.MethodName) prog_10_method_64_code (6 : Nat) (Option.some Jvm.ClassFile.FieldType.long)) ∈ TT := TT_m5 95 rfl rfl
set_option maxRecDepth 4000 in
theorem wt_1123 : (Jvm.Cond.constantLong "PortsBenchModel" (248 : Nat) (5 : Int64)) ∈ TT := TT_m5 96 rfl rfl
set_option maxRecDepth 4000 in
theorem wt_1124 : (Jvm.Cond.constantLong "PortsBenchModel" (250 : Nat) (-1000000000000000 : Int64)) ∈ TT := TT_m5 97 rfl rfl
set_option maxRecDepth 4000 in
theorem wt_1125 : (Jvm.Cond.methodLink "PortsBenchLaw" (88 : Nat) (⟨"PortsBenchModel", "is", "(III)I"⟩ : Jvm.MethodName)) ∈ TT := TT_m5 98 rfl rfl
set_option maxRecDepth 4000 in
theorem wt_1126 : (Jvm.Cond.instanceMethod (⟨"PortsBenchModel", "is", "(III)I"⟩ : Jvm.MethodName)) ∈ TT := TT_m5 99 rfl rfl
set_option maxRecDepth 4000 in
theorem wt_1127 : (Jvm.Cond.selects "PortsBenchModel" (⟨"PortsBenchModel", "is", "(III)I"⟩ : Jvm.MethodName) (⟨"PortsBenchModel", "is", "(III)I"⟩ : Jvm.MethodName)) ∈ TT := TT_m5 100 rfl rfl
set_option maxRecDepth 4000 in
theorem wt_1128 : (Jvm.Cond.code (⟨"PortsBenchModel", "is", "(III)I"⟩ : Jvm.MethodName) prog_10_method_69_code (5 : Nat) (Option.some Jvm.ClassFile.FieldType.int)) ∈ TT := TT_m5 101 rfl rfl
set_option maxRecDepth 4000 in
theorem wt_1129 : (Jvm.Cond.methodLink "PortsBenchModel" (261 : Nat) (⟨"PortsBenchModel", "isLike", "(II)Z"⟩ : Jvm.MethodName)) ∈ TT := TT_m5 102 rfl rfl
set_option maxRecDepth 4000 in
theorem wt_1131 : (Jvm.Cond.instanceMethod (⟨"PortsBenchModel", "isLike", "(II)Z"⟩ : Jvm.MethodName)) ∈ TT := TT_m5 104 rfl rfl
set_option maxRecDepth 4000 in
theorem wt_1132 : (Jvm.Cond.code (⟨"PortsBenchModel", "isLike", "(II)Z"⟩ : Jvm.MethodName) prog_10_method_68_code (5 : Nat) (Option.some Jvm.ClassFile.FieldType.boolean)) ∈ TT := TT_m5 105 rfl rfl
set_option maxRecDepth 4000 in
theorem wt_1133 : (Jvm.Cond.methodLink "PortsBenchModel" (264 : Nat) (⟨"PortsBenchModel", "passes", "(II)I"⟩ : Jvm.MethodName)) ∈ TT := TT_m5 106 rfl rfl
set_option maxRecDepth 4000 in
theorem wt_1135 : (Jvm.Cond.instanceMethod (⟨"PortsBenchModel", "passes", "(II)I"⟩ : Jvm.MethodName)) ∈ TT := TT_m5 108 rfl rfl
set_option maxRecDepth 4000 in
theorem wt_1136 : (Jvm.Cond.code (⟨"PortsBenchModel", "passes", "(II)I"⟩ : Jvm.MethodName) prog_10_method_67_code (9 : Nat) (Option.some Jvm.ClassFile.FieldType.int)) ∈ TT := TT_m5 109 rfl rfl
set_option maxRecDepth 4000 in
theorem wt_1137 : (Jvm.Cond.methodLink "PortsBenchModel" (252 : Nat) (⟨"PortsBenchModel", "sizeOf", "(I)I"⟩ : Jvm.MethodName)) ∈ TT := TT_m5 110 rfl rfl
set_option maxRecDepth 4000 in
theorem wt_1139 : (Jvm.Cond.instanceMethod (⟨"PortsBenchModel", "sizeOf", "(I)I"⟩ : Jvm.MethodName)) ∈ TT := TT_m5 112 rfl rfl
set_option maxRecDepth 4000 in
theorem wt_1140 : (Jvm.Cond.code (⟨"PortsBenchModel", "sizeOf", "(I)I"⟩ : Jvm.MethodName) prog_10_method_65_code (6 : Nat) (Option.some Jvm.ClassFile.FieldType.int)) ∈ TT := TT_m5 113 rfl rfl
set_option maxRecDepth 4000 in
theorem wt_1141 : (Jvm.Cond.methodLink "PortsBenchModel" (255 : Nat) (⟨"PortsBenchModel", "spare", "(II)I"⟩ : Jvm.MethodName)) ∈ TT := TT_m5 114 rfl rfl
set_option maxRecDepth 4000 in
theorem wt_1143 : (Jvm.Cond.instanceMethod (⟨"PortsBenchModel", "spare", "(II)I"⟩ : Jvm.MethodName)) ∈ TT := TT_m5 116 rfl rfl
set_option maxRecDepth 4000 in
theorem wt_1144 : (Jvm.Cond.code (⟨"PortsBenchModel", "spare", "(II)I"⟩ : Jvm.MethodName) prog_10_method_66_code (7 : Nat) (Option.some Jvm.ClassFile.FieldType.int)) ∈ TT := TT_m5 117 rfl rfl
set_option maxRecDepth 4000 in
theorem wt_1145 : (Jvm.Cond.methodLink "PortsBenchModel" (258 : Nat) (⟨"PortsBenchModel", "signOf", "(I)I"⟩ : Jvm.MethodName)) ∈ TT := TT_m5 118 rfl rfl
set_option maxRecDepth 4000 in
theorem wt_1147 : (Jvm.Cond.instanceMethod (⟨"PortsBenchModel", "signOf", "(I)I"⟩ : Jvm.MethodName)) ∈ TT := TT_m5 120 rfl rfl
set_option maxRecDepth 4000 in
theorem wt_1148 : (Jvm.Cond.code (⟨"PortsBenchModel", "signOf", "(I)I"⟩ : Jvm.MethodName) prog_10_method_13_code (2 : Nat) (Option.some Jvm.ClassFile.FieldType.int)) ∈ TT := TT_m5 121 rfl rfl
set_option maxRecDepth 4000 in
theorem wt_1149 : (Jvm.Cond.methodLink "PortsBenchLaw" (84 : Nat) (⟨"PortsBenchModel", "about", "(II)I"⟩ : Jvm.MethodName)) ∈ TT := TT_m5 122 rfl rfl
set_option maxRecDepth 4000 in
theorem wt_1150 : (Jvm.Cond.instanceMethod (⟨"PortsBenchModel", "about", "(II)I"⟩ : Jvm.MethodName)) ∈ TT := TT_m5 123 rfl rfl
set_option maxRecDepth 4000 in
theorem wt_1151 : (Jvm.Cond.selects "PortsBenchModel" (⟨"PortsBenchModel", "about", "(II)I"⟩ : Jvm.MethodName) (⟨"PortsBenchModel", "about", "(II)I"⟩ : Jvm.MethodName)) ∈ TT := TT_m5 124 rfl rfl
set_option maxRecDepth 4000 in
theorem wt_1152 : (Jvm.Cond.code (⟨"PortsBenchModel", "about", "(II)I"⟩ : Jvm.MethodName) prog_10_method_70_code (5 : Nat) (Option.some Jvm.ClassFile.FieldType.int)) ∈ TT := TT_m5 125 rfl rfl
set_option maxRecDepth 4000 in
theorem wt_1153 : (Jvm.Cond.methodLink "PortsBenchModel" (267 : Nat) (⟨"PortsBenchModel", "is", "(III)I"⟩ : Jvm.MethodName)) ∈ TT := TT_m5 126 rfl rfl
set_option maxRecDepth 4000 in
theorem wt_1154 : (Jvm.Cond.methodLink "PortsBenchLaw" (92 : Nat) (⟨"PortsBenchModel", "against", "(IIIIIII)I"⟩ : Jvm.MethodName)) ∈ TT := TT_m5 127 rfl rfl
set_option maxRecDepth 4000 in
theorem wt_1155 : (Jvm.Cond.instanceMethod (⟨"PortsBenchModel", "against", "(IIIIIII)I"⟩ : Jvm.MethodName)) ∈ TT := TT_m5 128 rfl rfl
set_option maxRecDepth 4000 in
theorem wt_1156 : (Jvm.Cond.selects "PortsBenchModel" (⟨"PortsBenchModel", "against", "(IIIIIII)I"⟩ : Jvm.MethodName) (⟨"PortsBenchModel", "against", "(IIIIIII)I"⟩ : Jvm.MethodName)) ∈ TT := TT_m5 129 rfl rfl
set_option maxRecDepth 4000 in
theorem wt_1157 : (Jvm.Cond.code (⟨"PortsBenchModel", "against", "(IIIIIII)I"⟩ : Jvm.MethodName) prog_10_method_72_code (8 : Nat) (Option.some Jvm.ClassFile.FieldType.int)) ∈ TT := TT_m5 130 rfl rfl
set_option maxRecDepth 4000 in
theorem wt_1158 : (Jvm.Cond.methodLink "PortsBenchModel" (270 : Nat) (⟨"PortsBenchModel", "stands", "(II)I"⟩ : Jvm.MethodName)) ∈ TT := TT_m5 131 rfl rfl
set_option maxRecDepth 4000 in
theorem wt_1160 : (Jvm.Cond.instanceMethod (⟨"PortsBenchModel", "stands", "(II)I"⟩ : Jvm.MethodName)) ∈ TT := TT_m5 133 rfl rfl
set_option maxRecDepth 4000 in
theorem wt_1161 : (Jvm.Cond.code (⟨"PortsBenchModel", "stands", "(II)I"⟩ : Jvm.MethodName) prog_10_method_71_code (5 : Nat) (Option.some Jvm.ClassFile.FieldType.int)) ∈ TT := TT_m5 134 rfl rfl
set_option maxRecDepth 4000 in
theorem wt_1162 : (Jvm.Cond.methodLink "PortsBenchLaw" (96 : Nat) (⟨"PortsBenchModel", "worst", "(III)I"⟩ : Jvm.MethodName)) ∈ TT := TT_m5 135 rfl rfl
set_option maxRecDepth 4000 in
theorem wt_1163 : (Jvm.Cond.instanceMethod (⟨"PortsBenchModel", "worst", "(III)I"⟩ : Jvm.MethodName)) ∈ TT := TT_m5 136 rfl rfl
set_option maxRecDepth 4000 in
theorem wt_1164 : (Jvm.Cond.selects "PortsBenchModel" (⟨"PortsBenchModel", "worst", "(III)I"⟩ : Jvm.MethodName) (⟨"PortsBenchModel", "worst", "(III)I"⟩ : Jvm.MethodName)) ∈ TT := TT_m5 137 rfl rfl
set_option maxRecDepth 4000 in
theorem wt_1165 : (Jvm.Cond.code (⟨"PortsBenchModel", "worst", "(III)I"⟩ : Jvm.MethodName) prog_10_method_73_code (6 : Nat) (Option.some Jvm.ClassFile.FieldType.int)) ∈ TT := TT_m5 138 rfl rfl
set_option maxRecDepth 4000 in
theorem wt_1166 : (Jvm.Cond.methodLink "PortsBenchLaw" (100 : Nat) (⟨"PortsBenchModel", "same", "(II)I"⟩ : Jvm.MethodName)) ∈ TT := TT_m5 139 rfl rfl
set_option maxRecDepth 4000 in
theorem wt_1167 : (Jvm.Cond.instanceMethod (⟨"PortsBenchModel", "same", "(II)I"⟩ : Jvm.MethodName)) ∈ TT := TT_m5 140 rfl rfl
set_option maxRecDepth 4000 in
theorem wt_1168 : (Jvm.Cond.selects "PortsBenchModel" (⟨"PortsBenchModel", "same", "(II)I"⟩ : Jvm.MethodName) (⟨"PortsBenchModel", "same", "(II)I"⟩ : Jvm.MethodName)) ∈ TT := TT_m5 141 rfl rfl
set_option maxRecDepth 4000 in
theorem wt_1169 : (Jvm.Cond.code (⟨"PortsBenchModel", "same", "(II)I"⟩ : Jvm.MethodName) prog_10_method_74_code (5 : Nat) (Option.some Jvm.ClassFile.FieldType.int)) ∈ TT := TT_m5 142 rfl rfl
set_option maxRecDepth 4000 in
theorem wt_1170 : (Jvm.Cond.methodLink "PortsBenchLaw" (104 : Nat) (⟨"PortsBenchModel", "count", "(I)I"⟩ : Jvm.MethodName)) ∈ TT := TT_m5 143 rfl rfl
set_option maxRecDepth 4000 in
theorem wt_1171 : (Jvm.Cond.instanceMethod (⟨"PortsBenchModel", "count", "(I)I"⟩ : Jvm.MethodName)) ∈ TT := TT_m5 144 rfl rfl
set_option maxRecDepth 4000 in
theorem wt_1172 : (Jvm.Cond.selects "PortsBenchModel" (⟨"PortsBenchModel", "count", "(I)I"⟩ : Jvm.MethodName) (⟨"PortsBenchModel", "count", "(I)I"⟩ : Jvm.MethodName)) ∈ TT := TT_m5 145 rfl rfl
set_option maxRecDepth 4000 in
theorem wt_1173 : (Jvm.Cond.code (⟨"PortsBenchModel", "count", "(I)I"⟩ : Jvm.MethodName) prog_10_method_75_code (2 : Nat) (Option.some Jvm.ClassFile.FieldType.int)) ∈ TT := TT_m5 146 rfl rfl
