/-! THE TWO WORLDS, as the law makes them -/
def tabS : List (Nat × Nat) := [(0, 7), (0, 5), (1, 2304), (1, 144), (1, 16), (1, 2304), (1, 16), (0, 0), (0, 6), (1, 80), (0, 1), (0, 6), (1, 80), (0, 6), (1, 80), (0, 3), (0, 1), (0, 6), (1, 80), (0, 6), (1, 80), (0, 6), (1, 80), (0, 6), (1, 80), (0, 6), (1, 80), (0, 6), (1, 80), (0, 6), (1, 80), (3, 4), (0, 4), (0, 1), (0, 6), (1, 80), (0, 6), (1, 80), (0, 1), (0, 6), (1, 80), (0, 6), (1, 80), (0, 4), (0, 1), (0, 6), (1, 80), (0, 6), (1, 80), (0, 1), (0, 6), (1, 80), (0, 6), (1, 80), (0, 4), (0, 1), (0, 6), (1, 80), (0, 6), (1, 80), (0, 1), (0, 6), (1, 80), (0, 6), (1, 80), (0, 4), (0, 1), (0, 6), (1, 80), (0, 6), (1, 80), (0, 1), (0, 6), (1, 80), (0, 6), (1, 80), (3, 4), (0, 4), (0, 1), (0, 6), (1, 80), (0, 6), (1, 80), (0, 1), (0, 6), (1, 80), (0, 6), (1, 80), (0, 4), (0, 1), (0, 6), (1, 80), (0, 6), (1, 80), (0, 1), (0, 6), (1, 80), (0, 6), (1, 80), (0, 4), (0, 1), (0, 6), (1, 80), (0, 6), (1, 80), (0, 1), (0, 6), (1, 80), (0, 6), (1, 80), (0, 4), (0, 1), (0, 6), (1, 80), (0, 6), (1, 80), (0, 1), (0, 6), (1, 80), (0, 6), (1, 80), (0, 4), (0, 1), (0, 6), (1, 80), (0, 6), (1, 80), (0, 1), (0, 6), (1, 80), (0, 6), (1, 80), (0, 4), (0, 1), (0, 6), (1, 80), (0, 6), (1, 80), (0, 1), (0, 6), (1, 80), (0, 6), (1, 80), (0, 4), (0, 1), (0, 6), (1, 80), (0, 6), (1, 80), (0, 1), (0, 6), (1, 80), (0, 6), (1, 80), (0, 4), (0, 1), (0, 6), (1, 80), (0, 6), (1, 80), (0, 1), (0, 6), (1, 80), (0, 6), (1, 80), (0, 4), (0, 1), (0, 6), (1, 80), (0, 6), (1, 80), (0, 1), (0, 6), (1, 80), (0, 6), (1, 80), (0, 4), (0, 1), (0, 6), (1, 80), (0, 6), (1, 80), (0, 1), (0, 6), (1, 80), (0, 6), (1, 80), (0, 4), (0, 1), (0, 6), (1, 80), (0, 6), (1, 80), (0, 1), (0, 6), (1, 80), (0, 6), (1, 80), (4, 12), (0, 1), (0, 6), (1, 80), (0, 6), (1, 80), (0, 1), (0, 6), (1, 80), (0, 6), (1, 80), (0, 1), (0, 6), (1, 80), (0, 6), (1, 80), (0, 1), (0, 6), (1, 80), (0, 6), (1, 80), (0, 1), (0, 6), (1, 80), (0, 6), (1, 80), (0, 1), (0, 6), (1, 80), (0, 6), (1, 80), (0, 1), (0, 6), (1, 80), (0, 6), (1, 80), (0, 1), (0, 6), (1, 80), (0, 6), (1, 80), (0, 1), (0, 6), (1, 80), (0, 6), (1, 80), (0, 1), (0, 6), (1, 80), (0, 6), (1, 80), (0, 1), (0, 6), (1, 80), (0, 6), (1, 80), (0, 1), (0, 6), (1, 80), (0, 6), (1, 80), (4, 4), (0, 1), (0, 6), (1, 80), (0, 6), (1, 80), (0, 1), (0, 6), (1, 80), (0, 6), (1, 80), (0, 1), (0, 6), (1, 80), (0, 6), (1, 80), (0, 1), (0, 6), (1, 80), (0, 6), (1, 80), (0, 1), (0, 6), (1, 80), (0, 6), (1, 80), (0, 1), (0, 6), (1, 80), (0, 6), (1, 80), (0, 1), (0, 6), (1, 80), (0, 6), (1, 80), (0, 2), (0, 6), (1, 80), (0, 1), (0, 6), (1, 80), (0, 6), (1, 80), (3, 4), (0, 4), (0, 1), (0, 6), (1, 80), (0, 6), (1, 80), (0, 1), (0, 6), (1, 80), (0, 6), (1, 80), (0, 4), (0, 1), (0, 6), (1, 80), (0, 6), (1, 80), (0, 1), (0, 6), (1, 80), (0, 6), (1, 80), (0, 4), (0, 1), (0, 6), (1, 80), (0, 6), (1, 80), (0, 1), (0, 6), (1, 80), (0, 6), (1, 80), (0, 4), (0, 1), (0, 6), (1, 80), (0, 6), (1, 80), (0, 1), (0, 6), (1, 80), (0, 6), (1, 80), (0, 1), (0, 6), (1, 80), (0, 6), (1, 80), (0, 1), (0, 6), (1, 80), (0, 6), (1, 80), (0, 1), (0, 6), (1, 80), (0, 6), (1, 80), (0, 1), (0, 6), (1, 80), (0, 6), (1, 80), (0, 6), (1, 80), (0, 6), (1, 80), (0, 6), (1, 80), (0, 6), (1, 80), (0, 6), (1, 80), (0, 6), (1, 80), (0, 6), (1, 80), (0, 6), (1, 80), (0, 6), (1, 80)]
def tabR : List (List (Option Nat)) := [[some 1, some 7, some 295], [some 2, some 3, some 4, some 5, some 6], [], [], [], [], [], [some 1, some 15, some 31, some 76, some 121, some 132, some 143, some 154, some 165, some 176, some 187, some 198, some 259, some 280, some 285, some 290], [none, none, some 9], [], [some 11, some 13, some 8], [none, none, some 12], [], [none, none, some 14], [], [some 3, some 16, some 21, some 23, some 25], [some 17, some 19, some 8], [none, none, some 18], [], [none, none, some 20], [], [none, none, some 22], [], [none, none, some 24], [], [none, none, some 26], [], [none, none, some 28], [], [none, none, some 30], [], [some 32, some 43, some 54, some 65], [some 33, some 38, some 10], [some 34, some 36, some 8], [none, none, some 35], [], [none, none, some 37], [], [some 39, some 41, some 8], [none, none, some 40], [], [none, none, some 42], [], [some 44, some 49, some 10], [some 45, some 47, some 8], [none, none, some 46], [], [none, none, some 48], [], [some 50, some 52, some 8], [none, none, some 51], [], [none, none, some 53], [], [some 55, some 60, some 10], [some 56, some 58, some 8], [none, none, some 57], [], [none, none, some 59], [], [some 61, some 63, some 8], [none, none, some 62], [], [none, none, some 64], [], [some 66, some 71, some 10], [some 67, some 69, some 8], [none, none, some 68], [], [none, none, some 70], [], [some 72, some 74, some 8], [none, none, some 73], [], [none, none, some 75], [], [some 77, some 88, some 99, some 110], [some 78, some 83, some 10], [some 79, some 81, some 8], [none, none, some 80], [], [none, none, some 82], [], [some 84, some 86, some 8], [none, none, some 85], [], [none, none, some 87], [], [some 89, some 94, some 10], [some 90, some 92, some 8], [none, none, some 91], [], [none, none, some 93], [], [some 95, some 97, some 8], [none, none, some 96], [], [none, none, some 98], [], [some 100, some 105, some 10], [some 101, some 103, some 8], [none, none, some 102], [], [none, none, some 104], [], [some 106, some 108, some 8], [none, none, some 107], [], [none, none, some 109], [], [some 111, some 116, some 10], [some 112, some 114, some 8], [none, none, some 113], [], [none, none, some 115], [], [some 117, some 119, some 8], [none, none, some 118], [], [none, none, some 120], [], [some 122, some 127, some 10], [some 123, some 125, some 8], [none, none, some 124], [], [none, none, some 126], [], [some 128, some 130, some 8], [none, none, some 129], [], [none, none, some 131], [], [some 133, some 138, some 10], [some 134, some 136, some 8], [none, none, some 135], [], [none, none, some 137], [], [some 139, some 141, some 8], [none, none, some 140], [], [none, none, some 142], [], [some 144, some 149, some 10], [some 145, some 147, some 8], [none, none, some 146], [], [none, none, some 148], [], [some 150, some 152, some 8], [none, none, some 151], [], [none, none, some 153], [], [some 155, some 160, some 10], [some 156, some 158, some 8], [none, none, some 157], [], [none, none, some 159], [], [some 161, some 163, some 8], [none, none, some 162], [], [none, none, some 164], [], [some 166, some 171, some 10], [some 167, some 169, some 8], [none, none, some 168], [], [none, none, some 170], [], [some 172, some 174, some 8], [none, none, some 173], [], [none, none, some 175], [], [some 177, some 182, some 10], [some 178, some 180, some 8], [none, none, some 179], [], [none, none, some 181], [], [some 183, some 185, some 8], [none, none, some 184], [], [none, none, some 186], [], [some 188, some 193, some 10], [some 189, some 191, some 8], [none, none, some 190], [], [none, none, some 192], [], [some 194, some 196, some 8], [none, none, some 195], [], [none, none, some 197], [], [some 199, some 204, some 209, some 214, some 219, some 224, some 229, some 234, some 239, some 244, some 249, some 254], [some 200, some 202, some 8], [none, none, some 201], [], [none, none, some 203], [], [some 205, some 207, some 8], [none, none, some 206], [], [none, none, some 208], [], [some 210, some 212, some 8], [none, none, some 211], [], [none, none, some 213], [], [some 215, some 217, some 8], [none, none, some 216], [], [none, none, some 218], [], [some 220, some 222, some 8], [none, none, some 221], [], [none, none, some 223], [], [some 225, some 227, some 8], [none, none, some 226], [], [none, none, some 228], [], [some 230, some 232, some 8], [none, none, some 231], [], [none, none, some 233], [], [some 235, some 237, some 8], [none, none, some 236], [], [none, none, some 238], [], [some 240, some 242, some 8], [none, none, some 241], [], [none, none, some 243], [], [some 245, some 247, some 8], [none, none, some 246], [], [none, none, some 248], [], [some 250, some 252, some 8], [none, none, some 251], [], [none, none, some 253], [], [some 255, some 257, some 8], [none, none, some 256], [], [none, none, some 258], [], [some 260, some 265, some 270, some 275], [some 261, some 263, some 8], [none, none, some 262], [], [none, none, some 264], [], [some 266, some 268, some 8], [none, none, some 267], [], [none, none, some 269], [], [some 271, some 273, some 8], [none, none, some 272], [], [none, none, some 274], [], [some 276, some 278, some 8], [none, none, some 277], [], [none, none, some 279], [], [some 281, some 283, some 8], [none, none, some 282], [], [none, none, some 284], [], [some 286, some 288, some 8], [none, none, some 287], [], [none, none, some 289], [], [some 291, some 293, some 8], [none, none, some 292], [], [none, none, some 294], [], [some 303, some 348, some 353, some 358, some 363, some 368, some 370, some 372, some 374, some 376, some 378, some 380, some 382, some 384], [none, none, some 297], [], [some 299, some 301, some 296], [none, none, some 300], [], [none, none, some 302], [], [some 304, some 315, some 326, some 337], [some 305, some 310, some 298], [some 306, some 308, some 296], [none, none, some 307], [], [none, none, some 309], [], [some 311, some 313, some 296], [none, none, some 312], [], [none, none, some 314], [], [some 316, some 321, some 298], [some 317, some 319, some 296], [none, none, some 318], [], [none, none, some 320], [], [some 322, some 324, some 296], [none, none, some 323], [], [none, none, some 325], [], [some 327, some 332, some 298], [some 328, some 330, some 296], [none, none, some 329], [], [none, none, some 331], [], [some 333, some 335, some 296], [none, none, some 334], [], [none, none, some 336], [], [some 338, some 343, some 298], [some 339, some 341, some 296], [none, none, some 340], [], [none, none, some 342], [], [some 344, some 346, some 296], [none, none, some 345], [], [none, none, some 347], [], [some 349, some 351, some 296], [none, none, some 350], [], [none, none, some 352], [], [some 354, some 356, some 296], [none, none, some 355], [], [none, none, some 357], [], [some 359, some 361, some 296], [none, none, some 360], [], [none, none, some 362], [], [some 364, some 366, some 296], [none, none, some 365], [], [none, none, some 367], [], [none, none, some 369], [], [none, none, some 371], [], [none, none, some 373], [], [none, none, some 375], [], [none, none, some 377], [], [none, none, some 379], [], [none, none, some 381], [], [none, none, some 383], [], [none, none, some 385], []]
def shC : Nat → Nat × Nat := fun k => tabS.getD k (9, 0)
def RC : Nat → Nat → Option Nat := fun k => rwL (tabR.getD k [])
def F00 : Nat → Nat → Int := fun k j => if k = 15 then dF 3 j else 0
def A00 : Nat → Int → Int := fun _ _ => 0
def tabSM : List (Nat × Nat) := [(0, 8), (1, 16), (2, 1536), (2, 24576), (1, 360000), (1, 1500), (1, 1500), (1, 260), (1, 260), (1, 260), (2, 96), (1, 12)]
def rowM0 : List (Option Nat) := [some 1, none, some 2, some 3, none, none, none, some 4, some 5, some 6, none, some 7, some 8, some 9, none, none, some 10, none, some 11]
def shM : Nat → Nat × Nat := fun k => tabSM.getD k (9, 0)
def RM : Nat → Nat → Option Nat := fun k => rwL (if k = 0 then rowM0 else [])
theorem MdN_M : MdN shM RM := ⟨rfl, rfl, rfl, rfl, rfl, rfl, rfl, rfl, rfl, rfl, rfl, rfl, rfl⟩
theorem hw00 : ∀ w, shC w = (0, 6) → ∀ j, F00 w j = 0 := fun w hw j => by
  by_cases q : w = 15
  · rw [q] at hw
    exact absurd hw (by decide)
  · exact if_neg q
theorem wn_8 : WhN shC RC F00 A00 8 := ⟨rfl, rfl, rfl, fun _ => rfl, fun _ => rfl⟩
theorem wn_11 : WhN shC RC F00 A00 11 := ⟨rfl, rfl, rfl, fun _ => rfl, fun _ => rfl⟩
theorem wn_13 : WhN shC RC F00 A00 13 := ⟨rfl, rfl, rfl, fun _ => rfl, fun _ => rfl⟩
theorem wn_17 : WhN shC RC F00 A00 17 := ⟨rfl, rfl, rfl, fun _ => rfl, fun _ => rfl⟩
theorem wn_19 : WhN shC RC F00 A00 19 := ⟨rfl, rfl, rfl, fun _ => rfl, fun _ => rfl⟩
theorem wn_21 : WhN shC RC F00 A00 21 := ⟨rfl, rfl, rfl, fun _ => rfl, fun _ => rfl⟩
theorem wn_23 : WhN shC RC F00 A00 23 := ⟨rfl, rfl, rfl, fun _ => rfl, fun _ => rfl⟩
theorem wn_25 : WhN shC RC F00 A00 25 := ⟨rfl, rfl, rfl, fun _ => rfl, fun _ => rfl⟩
theorem wn_27 : WhN shC RC F00 A00 27 := ⟨rfl, rfl, rfl, fun _ => rfl, fun _ => rfl⟩
theorem wn_29 : WhN shC RC F00 A00 29 := ⟨rfl, rfl, rfl, fun _ => rfl, fun _ => rfl⟩
theorem wn_34 : WhN shC RC F00 A00 34 := ⟨rfl, rfl, rfl, fun _ => rfl, fun _ => rfl⟩
theorem wn_36 : WhN shC RC F00 A00 36 := ⟨rfl, rfl, rfl, fun _ => rfl, fun _ => rfl⟩
theorem wn_39 : WhN shC RC F00 A00 39 := ⟨rfl, rfl, rfl, fun _ => rfl, fun _ => rfl⟩
theorem wn_41 : WhN shC RC F00 A00 41 := ⟨rfl, rfl, rfl, fun _ => rfl, fun _ => rfl⟩
theorem wn_45 : WhN shC RC F00 A00 45 := ⟨rfl, rfl, rfl, fun _ => rfl, fun _ => rfl⟩
theorem wn_47 : WhN shC RC F00 A00 47 := ⟨rfl, rfl, rfl, fun _ => rfl, fun _ => rfl⟩
theorem wn_50 : WhN shC RC F00 A00 50 := ⟨rfl, rfl, rfl, fun _ => rfl, fun _ => rfl⟩
theorem wn_52 : WhN shC RC F00 A00 52 := ⟨rfl, rfl, rfl, fun _ => rfl, fun _ => rfl⟩
theorem wn_56 : WhN shC RC F00 A00 56 := ⟨rfl, rfl, rfl, fun _ => rfl, fun _ => rfl⟩
theorem wn_58 : WhN shC RC F00 A00 58 := ⟨rfl, rfl, rfl, fun _ => rfl, fun _ => rfl⟩
theorem wn_61 : WhN shC RC F00 A00 61 := ⟨rfl, rfl, rfl, fun _ => rfl, fun _ => rfl⟩
theorem wn_63 : WhN shC RC F00 A00 63 := ⟨rfl, rfl, rfl, fun _ => rfl, fun _ => rfl⟩
theorem wn_67 : WhN shC RC F00 A00 67 := ⟨rfl, rfl, rfl, fun _ => rfl, fun _ => rfl⟩
theorem wn_69 : WhN shC RC F00 A00 69 := ⟨rfl, rfl, rfl, fun _ => rfl, fun _ => rfl⟩
theorem wn_72 : WhN shC RC F00 A00 72 := ⟨rfl, rfl, rfl, fun _ => rfl, fun _ => rfl⟩
theorem wn_74 : WhN shC RC F00 A00 74 := ⟨rfl, rfl, rfl, fun _ => rfl, fun _ => rfl⟩
theorem wn_79 : WhN shC RC F00 A00 79 := ⟨rfl, rfl, rfl, fun _ => rfl, fun _ => rfl⟩
theorem wn_81 : WhN shC RC F00 A00 81 := ⟨rfl, rfl, rfl, fun _ => rfl, fun _ => rfl⟩
theorem wn_84 : WhN shC RC F00 A00 84 := ⟨rfl, rfl, rfl, fun _ => rfl, fun _ => rfl⟩
theorem wn_86 : WhN shC RC F00 A00 86 := ⟨rfl, rfl, rfl, fun _ => rfl, fun _ => rfl⟩
theorem wn_90 : WhN shC RC F00 A00 90 := ⟨rfl, rfl, rfl, fun _ => rfl, fun _ => rfl⟩
theorem wn_92 : WhN shC RC F00 A00 92 := ⟨rfl, rfl, rfl, fun _ => rfl, fun _ => rfl⟩
theorem wn_95 : WhN shC RC F00 A00 95 := ⟨rfl, rfl, rfl, fun _ => rfl, fun _ => rfl⟩
theorem wn_97 : WhN shC RC F00 A00 97 := ⟨rfl, rfl, rfl, fun _ => rfl, fun _ => rfl⟩
theorem wn_101 : WhN shC RC F00 A00 101 := ⟨rfl, rfl, rfl, fun _ => rfl, fun _ => rfl⟩
theorem wn_103 : WhN shC RC F00 A00 103 := ⟨rfl, rfl, rfl, fun _ => rfl, fun _ => rfl⟩
theorem wn_106 : WhN shC RC F00 A00 106 := ⟨rfl, rfl, rfl, fun _ => rfl, fun _ => rfl⟩
theorem wn_108 : WhN shC RC F00 A00 108 := ⟨rfl, rfl, rfl, fun _ => rfl, fun _ => rfl⟩
theorem wn_112 : WhN shC RC F00 A00 112 := ⟨rfl, rfl, rfl, fun _ => rfl, fun _ => rfl⟩
theorem wn_114 : WhN shC RC F00 A00 114 := ⟨rfl, rfl, rfl, fun _ => rfl, fun _ => rfl⟩
theorem wn_117 : WhN shC RC F00 A00 117 := ⟨rfl, rfl, rfl, fun _ => rfl, fun _ => rfl⟩
theorem wn_119 : WhN shC RC F00 A00 119 := ⟨rfl, rfl, rfl, fun _ => rfl, fun _ => rfl⟩
theorem wn_123 : WhN shC RC F00 A00 123 := ⟨rfl, rfl, rfl, fun _ => rfl, fun _ => rfl⟩
theorem wn_125 : WhN shC RC F00 A00 125 := ⟨rfl, rfl, rfl, fun _ => rfl, fun _ => rfl⟩
theorem wn_128 : WhN shC RC F00 A00 128 := ⟨rfl, rfl, rfl, fun _ => rfl, fun _ => rfl⟩
theorem wn_130 : WhN shC RC F00 A00 130 := ⟨rfl, rfl, rfl, fun _ => rfl, fun _ => rfl⟩
theorem wn_134 : WhN shC RC F00 A00 134 := ⟨rfl, rfl, rfl, fun _ => rfl, fun _ => rfl⟩
theorem wn_136 : WhN shC RC F00 A00 136 := ⟨rfl, rfl, rfl, fun _ => rfl, fun _ => rfl⟩
theorem wn_139 : WhN shC RC F00 A00 139 := ⟨rfl, rfl, rfl, fun _ => rfl, fun _ => rfl⟩
theorem wn_141 : WhN shC RC F00 A00 141 := ⟨rfl, rfl, rfl, fun _ => rfl, fun _ => rfl⟩
theorem wn_145 : WhN shC RC F00 A00 145 := ⟨rfl, rfl, rfl, fun _ => rfl, fun _ => rfl⟩
theorem wn_147 : WhN shC RC F00 A00 147 := ⟨rfl, rfl, rfl, fun _ => rfl, fun _ => rfl⟩
theorem wn_150 : WhN shC RC F00 A00 150 := ⟨rfl, rfl, rfl, fun _ => rfl, fun _ => rfl⟩
theorem wn_152 : WhN shC RC F00 A00 152 := ⟨rfl, rfl, rfl, fun _ => rfl, fun _ => rfl⟩
theorem wn_156 : WhN shC RC F00 A00 156 := ⟨rfl, rfl, rfl, fun _ => rfl, fun _ => rfl⟩
theorem wn_158 : WhN shC RC F00 A00 158 := ⟨rfl, rfl, rfl, fun _ => rfl, fun _ => rfl⟩
theorem wn_161 : WhN shC RC F00 A00 161 := ⟨rfl, rfl, rfl, fun _ => rfl, fun _ => rfl⟩
theorem wn_163 : WhN shC RC F00 A00 163 := ⟨rfl, rfl, rfl, fun _ => rfl, fun _ => rfl⟩
theorem wn_167 : WhN shC RC F00 A00 167 := ⟨rfl, rfl, rfl, fun _ => rfl, fun _ => rfl⟩
theorem wn_169 : WhN shC RC F00 A00 169 := ⟨rfl, rfl, rfl, fun _ => rfl, fun _ => rfl⟩
theorem wn_172 : WhN shC RC F00 A00 172 := ⟨rfl, rfl, rfl, fun _ => rfl, fun _ => rfl⟩
theorem wn_174 : WhN shC RC F00 A00 174 := ⟨rfl, rfl, rfl, fun _ => rfl, fun _ => rfl⟩
theorem wn_178 : WhN shC RC F00 A00 178 := ⟨rfl, rfl, rfl, fun _ => rfl, fun _ => rfl⟩
theorem wn_180 : WhN shC RC F00 A00 180 := ⟨rfl, rfl, rfl, fun _ => rfl, fun _ => rfl⟩
theorem wn_183 : WhN shC RC F00 A00 183 := ⟨rfl, rfl, rfl, fun _ => rfl, fun _ => rfl⟩
theorem wn_185 : WhN shC RC F00 A00 185 := ⟨rfl, rfl, rfl, fun _ => rfl, fun _ => rfl⟩
theorem wn_189 : WhN shC RC F00 A00 189 := ⟨rfl, rfl, rfl, fun _ => rfl, fun _ => rfl⟩
theorem wn_191 : WhN shC RC F00 A00 191 := ⟨rfl, rfl, rfl, fun _ => rfl, fun _ => rfl⟩
theorem wn_194 : WhN shC RC F00 A00 194 := ⟨rfl, rfl, rfl, fun _ => rfl, fun _ => rfl⟩
theorem wn_196 : WhN shC RC F00 A00 196 := ⟨rfl, rfl, rfl, fun _ => rfl, fun _ => rfl⟩
theorem wn_200 : WhN shC RC F00 A00 200 := ⟨rfl, rfl, rfl, fun _ => rfl, fun _ => rfl⟩
theorem wn_202 : WhN shC RC F00 A00 202 := ⟨rfl, rfl, rfl, fun _ => rfl, fun _ => rfl⟩
theorem wn_205 : WhN shC RC F00 A00 205 := ⟨rfl, rfl, rfl, fun _ => rfl, fun _ => rfl⟩
theorem wn_207 : WhN shC RC F00 A00 207 := ⟨rfl, rfl, rfl, fun _ => rfl, fun _ => rfl⟩
theorem wn_210 : WhN shC RC F00 A00 210 := ⟨rfl, rfl, rfl, fun _ => rfl, fun _ => rfl⟩
theorem wn_212 : WhN shC RC F00 A00 212 := ⟨rfl, rfl, rfl, fun _ => rfl, fun _ => rfl⟩
theorem wn_215 : WhN shC RC F00 A00 215 := ⟨rfl, rfl, rfl, fun _ => rfl, fun _ => rfl⟩
theorem wn_217 : WhN shC RC F00 A00 217 := ⟨rfl, rfl, rfl, fun _ => rfl, fun _ => rfl⟩
theorem wn_220 : WhN shC RC F00 A00 220 := ⟨rfl, rfl, rfl, fun _ => rfl, fun _ => rfl⟩
theorem wn_222 : WhN shC RC F00 A00 222 := ⟨rfl, rfl, rfl, fun _ => rfl, fun _ => rfl⟩
theorem wn_225 : WhN shC RC F00 A00 225 := ⟨rfl, rfl, rfl, fun _ => rfl, fun _ => rfl⟩
theorem wn_227 : WhN shC RC F00 A00 227 := ⟨rfl, rfl, rfl, fun _ => rfl, fun _ => rfl⟩
theorem wn_230 : WhN shC RC F00 A00 230 := ⟨rfl, rfl, rfl, fun _ => rfl, fun _ => rfl⟩
theorem wn_232 : WhN shC RC F00 A00 232 := ⟨rfl, rfl, rfl, fun _ => rfl, fun _ => rfl⟩
theorem wn_235 : WhN shC RC F00 A00 235 := ⟨rfl, rfl, rfl, fun _ => rfl, fun _ => rfl⟩
theorem wn_237 : WhN shC RC F00 A00 237 := ⟨rfl, rfl, rfl, fun _ => rfl, fun _ => rfl⟩
theorem wn_240 : WhN shC RC F00 A00 240 := ⟨rfl, rfl, rfl, fun _ => rfl, fun _ => rfl⟩
theorem wn_242 : WhN shC RC F00 A00 242 := ⟨rfl, rfl, rfl, fun _ => rfl, fun _ => rfl⟩
theorem wn_245 : WhN shC RC F00 A00 245 := ⟨rfl, rfl, rfl, fun _ => rfl, fun _ => rfl⟩
theorem wn_247 : WhN shC RC F00 A00 247 := ⟨rfl, rfl, rfl, fun _ => rfl, fun _ => rfl⟩
theorem wn_250 : WhN shC RC F00 A00 250 := ⟨rfl, rfl, rfl, fun _ => rfl, fun _ => rfl⟩
theorem wn_252 : WhN shC RC F00 A00 252 := ⟨rfl, rfl, rfl, fun _ => rfl, fun _ => rfl⟩
theorem wn_255 : WhN shC RC F00 A00 255 := ⟨rfl, rfl, rfl, fun _ => rfl, fun _ => rfl⟩
theorem wn_257 : WhN shC RC F00 A00 257 := ⟨rfl, rfl, rfl, fun _ => rfl, fun _ => rfl⟩
theorem wn_261 : WhN shC RC F00 A00 261 := ⟨rfl, rfl, rfl, fun _ => rfl, fun _ => rfl⟩
theorem wn_263 : WhN shC RC F00 A00 263 := ⟨rfl, rfl, rfl, fun _ => rfl, fun _ => rfl⟩
theorem wn_266 : WhN shC RC F00 A00 266 := ⟨rfl, rfl, rfl, fun _ => rfl, fun _ => rfl⟩
theorem wn_268 : WhN shC RC F00 A00 268 := ⟨rfl, rfl, rfl, fun _ => rfl, fun _ => rfl⟩
theorem wn_271 : WhN shC RC F00 A00 271 := ⟨rfl, rfl, rfl, fun _ => rfl, fun _ => rfl⟩
theorem wn_273 : WhN shC RC F00 A00 273 := ⟨rfl, rfl, rfl, fun _ => rfl, fun _ => rfl⟩
theorem wn_276 : WhN shC RC F00 A00 276 := ⟨rfl, rfl, rfl, fun _ => rfl, fun _ => rfl⟩
theorem wn_278 : WhN shC RC F00 A00 278 := ⟨rfl, rfl, rfl, fun _ => rfl, fun _ => rfl⟩
theorem wn_281 : WhN shC RC F00 A00 281 := ⟨rfl, rfl, rfl, fun _ => rfl, fun _ => rfl⟩
theorem wn_283 : WhN shC RC F00 A00 283 := ⟨rfl, rfl, rfl, fun _ => rfl, fun _ => rfl⟩
theorem wn_286 : WhN shC RC F00 A00 286 := ⟨rfl, rfl, rfl, fun _ => rfl, fun _ => rfl⟩
theorem wn_288 : WhN shC RC F00 A00 288 := ⟨rfl, rfl, rfl, fun _ => rfl, fun _ => rfl⟩
theorem wn_291 : WhN shC RC F00 A00 291 := ⟨rfl, rfl, rfl, fun _ => rfl, fun _ => rfl⟩
theorem wn_293 : WhN shC RC F00 A00 293 := ⟨rfl, rfl, rfl, fun _ => rfl, fun _ => rfl⟩
theorem wn_296 : WhN shC RC F00 A00 296 := ⟨rfl, rfl, rfl, fun _ => rfl, fun _ => rfl⟩
theorem wn_299 : WhN shC RC F00 A00 299 := ⟨rfl, rfl, rfl, fun _ => rfl, fun _ => rfl⟩
theorem wn_301 : WhN shC RC F00 A00 301 := ⟨rfl, rfl, rfl, fun _ => rfl, fun _ => rfl⟩
theorem wn_306 : WhN shC RC F00 A00 306 := ⟨rfl, rfl, rfl, fun _ => rfl, fun _ => rfl⟩
theorem wn_308 : WhN shC RC F00 A00 308 := ⟨rfl, rfl, rfl, fun _ => rfl, fun _ => rfl⟩
theorem wn_311 : WhN shC RC F00 A00 311 := ⟨rfl, rfl, rfl, fun _ => rfl, fun _ => rfl⟩
theorem wn_313 : WhN shC RC F00 A00 313 := ⟨rfl, rfl, rfl, fun _ => rfl, fun _ => rfl⟩
theorem wn_317 : WhN shC RC F00 A00 317 := ⟨rfl, rfl, rfl, fun _ => rfl, fun _ => rfl⟩
theorem wn_319 : WhN shC RC F00 A00 319 := ⟨rfl, rfl, rfl, fun _ => rfl, fun _ => rfl⟩
theorem wn_322 : WhN shC RC F00 A00 322 := ⟨rfl, rfl, rfl, fun _ => rfl, fun _ => rfl⟩
theorem wn_324 : WhN shC RC F00 A00 324 := ⟨rfl, rfl, rfl, fun _ => rfl, fun _ => rfl⟩
theorem wn_328 : WhN shC RC F00 A00 328 := ⟨rfl, rfl, rfl, fun _ => rfl, fun _ => rfl⟩
theorem wn_330 : WhN shC RC F00 A00 330 := ⟨rfl, rfl, rfl, fun _ => rfl, fun _ => rfl⟩
theorem wn_333 : WhN shC RC F00 A00 333 := ⟨rfl, rfl, rfl, fun _ => rfl, fun _ => rfl⟩
theorem wn_335 : WhN shC RC F00 A00 335 := ⟨rfl, rfl, rfl, fun _ => rfl, fun _ => rfl⟩
theorem wn_339 : WhN shC RC F00 A00 339 := ⟨rfl, rfl, rfl, fun _ => rfl, fun _ => rfl⟩
theorem wn_341 : WhN shC RC F00 A00 341 := ⟨rfl, rfl, rfl, fun _ => rfl, fun _ => rfl⟩
theorem wn_344 : WhN shC RC F00 A00 344 := ⟨rfl, rfl, rfl, fun _ => rfl, fun _ => rfl⟩
theorem wn_346 : WhN shC RC F00 A00 346 := ⟨rfl, rfl, rfl, fun _ => rfl, fun _ => rfl⟩
theorem wn_349 : WhN shC RC F00 A00 349 := ⟨rfl, rfl, rfl, fun _ => rfl, fun _ => rfl⟩
theorem wn_351 : WhN shC RC F00 A00 351 := ⟨rfl, rfl, rfl, fun _ => rfl, fun _ => rfl⟩
theorem wn_354 : WhN shC RC F00 A00 354 := ⟨rfl, rfl, rfl, fun _ => rfl, fun _ => rfl⟩
theorem wn_356 : WhN shC RC F00 A00 356 := ⟨rfl, rfl, rfl, fun _ => rfl, fun _ => rfl⟩
theorem wn_359 : WhN shC RC F00 A00 359 := ⟨rfl, rfl, rfl, fun _ => rfl, fun _ => rfl⟩
theorem wn_361 : WhN shC RC F00 A00 361 := ⟨rfl, rfl, rfl, fun _ => rfl, fun _ => rfl⟩
theorem wn_364 : WhN shC RC F00 A00 364 := ⟨rfl, rfl, rfl, fun _ => rfl, fun _ => rfl⟩
theorem wn_366 : WhN shC RC F00 A00 366 := ⟨rfl, rfl, rfl, fun _ => rfl, fun _ => rfl⟩
theorem wn_368 : WhN shC RC F00 A00 368 := ⟨rfl, rfl, rfl, fun _ => rfl, fun _ => rfl⟩
theorem wn_370 : WhN shC RC F00 A00 370 := ⟨rfl, rfl, rfl, fun _ => rfl, fun _ => rfl⟩
theorem wn_372 : WhN shC RC F00 A00 372 := ⟨rfl, rfl, rfl, fun _ => rfl, fun _ => rfl⟩
theorem wn_374 : WhN shC RC F00 A00 374 := ⟨rfl, rfl, rfl, fun _ => rfl, fun _ => rfl⟩
theorem wn_376 : WhN shC RC F00 A00 376 := ⟨rfl, rfl, rfl, fun _ => rfl, fun _ => rfl⟩
theorem wn_378 : WhN shC RC F00 A00 378 := ⟨rfl, rfl, rfl, fun _ => rfl, fun _ => rfl⟩
theorem wn_380 : WhN shC RC F00 A00 380 := ⟨rfl, rfl, rfl, fun _ => rfl, fun _ => rfl⟩
theorem wn_382 : WhN shC RC F00 A00 382 := ⟨rfl, rfl, rfl, fun _ => rfl, fun _ => rfl⟩
theorem wn_384 : WhN shC RC F00 A00 384 := ⟨rfl, rfl, rfl, fun _ => rfl, fun _ => rfl⟩
theorem gn_10 : GsN shC RC F00 A00 10 8 := ⟨rfl, rfl, fun _ => rfl, wn_11, wn_13⟩
theorem gn_16 : GsN shC RC F00 A00 16 8 := ⟨rfl, rfl, fun _ => rfl, wn_17, wn_19⟩
theorem gn_33 : GsN shC RC F00 A00 33 8 := ⟨rfl, rfl, fun _ => rfl, wn_34, wn_36⟩
theorem gn_38 : GsN shC RC F00 A00 38 8 := ⟨rfl, rfl, fun _ => rfl, wn_39, wn_41⟩
theorem gn_44 : GsN shC RC F00 A00 44 8 := ⟨rfl, rfl, fun _ => rfl, wn_45, wn_47⟩
theorem gn_49 : GsN shC RC F00 A00 49 8 := ⟨rfl, rfl, fun _ => rfl, wn_50, wn_52⟩
theorem gn_55 : GsN shC RC F00 A00 55 8 := ⟨rfl, rfl, fun _ => rfl, wn_56, wn_58⟩
theorem gn_60 : GsN shC RC F00 A00 60 8 := ⟨rfl, rfl, fun _ => rfl, wn_61, wn_63⟩
theorem gn_66 : GsN shC RC F00 A00 66 8 := ⟨rfl, rfl, fun _ => rfl, wn_67, wn_69⟩
theorem gn_71 : GsN shC RC F00 A00 71 8 := ⟨rfl, rfl, fun _ => rfl, wn_72, wn_74⟩
theorem gn_78 : GsN shC RC F00 A00 78 8 := ⟨rfl, rfl, fun _ => rfl, wn_79, wn_81⟩
theorem gn_83 : GsN shC RC F00 A00 83 8 := ⟨rfl, rfl, fun _ => rfl, wn_84, wn_86⟩
theorem gn_89 : GsN shC RC F00 A00 89 8 := ⟨rfl, rfl, fun _ => rfl, wn_90, wn_92⟩
theorem gn_94 : GsN shC RC F00 A00 94 8 := ⟨rfl, rfl, fun _ => rfl, wn_95, wn_97⟩
theorem gn_100 : GsN shC RC F00 A00 100 8 := ⟨rfl, rfl, fun _ => rfl, wn_101, wn_103⟩
theorem gn_105 : GsN shC RC F00 A00 105 8 := ⟨rfl, rfl, fun _ => rfl, wn_106, wn_108⟩
theorem gn_111 : GsN shC RC F00 A00 111 8 := ⟨rfl, rfl, fun _ => rfl, wn_112, wn_114⟩
theorem gn_116 : GsN shC RC F00 A00 116 8 := ⟨rfl, rfl, fun _ => rfl, wn_117, wn_119⟩
theorem gn_122 : GsN shC RC F00 A00 122 8 := ⟨rfl, rfl, fun _ => rfl, wn_123, wn_125⟩
theorem gn_127 : GsN shC RC F00 A00 127 8 := ⟨rfl, rfl, fun _ => rfl, wn_128, wn_130⟩
theorem gn_133 : GsN shC RC F00 A00 133 8 := ⟨rfl, rfl, fun _ => rfl, wn_134, wn_136⟩
theorem gn_138 : GsN shC RC F00 A00 138 8 := ⟨rfl, rfl, fun _ => rfl, wn_139, wn_141⟩
theorem gn_144 : GsN shC RC F00 A00 144 8 := ⟨rfl, rfl, fun _ => rfl, wn_145, wn_147⟩
theorem gn_149 : GsN shC RC F00 A00 149 8 := ⟨rfl, rfl, fun _ => rfl, wn_150, wn_152⟩
theorem gn_155 : GsN shC RC F00 A00 155 8 := ⟨rfl, rfl, fun _ => rfl, wn_156, wn_158⟩
theorem gn_160 : GsN shC RC F00 A00 160 8 := ⟨rfl, rfl, fun _ => rfl, wn_161, wn_163⟩
theorem gn_166 : GsN shC RC F00 A00 166 8 := ⟨rfl, rfl, fun _ => rfl, wn_167, wn_169⟩
theorem gn_171 : GsN shC RC F00 A00 171 8 := ⟨rfl, rfl, fun _ => rfl, wn_172, wn_174⟩
theorem gn_177 : GsN shC RC F00 A00 177 8 := ⟨rfl, rfl, fun _ => rfl, wn_178, wn_180⟩
theorem gn_182 : GsN shC RC F00 A00 182 8 := ⟨rfl, rfl, fun _ => rfl, wn_183, wn_185⟩
theorem gn_188 : GsN shC RC F00 A00 188 8 := ⟨rfl, rfl, fun _ => rfl, wn_189, wn_191⟩
theorem gn_193 : GsN shC RC F00 A00 193 8 := ⟨rfl, rfl, fun _ => rfl, wn_194, wn_196⟩
theorem gn_199 : GsN shC RC F00 A00 199 8 := ⟨rfl, rfl, fun _ => rfl, wn_200, wn_202⟩
theorem gn_204 : GsN shC RC F00 A00 204 8 := ⟨rfl, rfl, fun _ => rfl, wn_205, wn_207⟩
theorem gn_209 : GsN shC RC F00 A00 209 8 := ⟨rfl, rfl, fun _ => rfl, wn_210, wn_212⟩
theorem gn_214 : GsN shC RC F00 A00 214 8 := ⟨rfl, rfl, fun _ => rfl, wn_215, wn_217⟩
theorem gn_219 : GsN shC RC F00 A00 219 8 := ⟨rfl, rfl, fun _ => rfl, wn_220, wn_222⟩
theorem gn_224 : GsN shC RC F00 A00 224 8 := ⟨rfl, rfl, fun _ => rfl, wn_225, wn_227⟩
theorem gn_229 : GsN shC RC F00 A00 229 8 := ⟨rfl, rfl, fun _ => rfl, wn_230, wn_232⟩
theorem gn_234 : GsN shC RC F00 A00 234 8 := ⟨rfl, rfl, fun _ => rfl, wn_235, wn_237⟩
theorem gn_239 : GsN shC RC F00 A00 239 8 := ⟨rfl, rfl, fun _ => rfl, wn_240, wn_242⟩
theorem gn_244 : GsN shC RC F00 A00 244 8 := ⟨rfl, rfl, fun _ => rfl, wn_245, wn_247⟩
theorem gn_249 : GsN shC RC F00 A00 249 8 := ⟨rfl, rfl, fun _ => rfl, wn_250, wn_252⟩
theorem gn_254 : GsN shC RC F00 A00 254 8 := ⟨rfl, rfl, fun _ => rfl, wn_255, wn_257⟩
theorem gn_260 : GsN shC RC F00 A00 260 8 := ⟨rfl, rfl, fun _ => rfl, wn_261, wn_263⟩
theorem gn_265 : GsN shC RC F00 A00 265 8 := ⟨rfl, rfl, fun _ => rfl, wn_266, wn_268⟩
theorem gn_270 : GsN shC RC F00 A00 270 8 := ⟨rfl, rfl, fun _ => rfl, wn_271, wn_273⟩
theorem gn_275 : GsN shC RC F00 A00 275 8 := ⟨rfl, rfl, fun _ => rfl, wn_276, wn_278⟩
theorem gn_280 : GsN shC RC F00 A00 280 8 := ⟨rfl, rfl, fun _ => rfl, wn_281, wn_283⟩
theorem gn_285 : GsN shC RC F00 A00 285 8 := ⟨rfl, rfl, fun _ => rfl, wn_286, wn_288⟩
theorem gn_290 : GsN shC RC F00 A00 290 8 := ⟨rfl, rfl, fun _ => rfl, wn_291, wn_293⟩
theorem gn_298 : GsN shC RC F00 A00 298 296 := ⟨rfl, rfl, fun _ => rfl, wn_299, wn_301⟩
theorem gn_305 : GsN shC RC F00 A00 305 296 := ⟨rfl, rfl, fun _ => rfl, wn_306, wn_308⟩
theorem gn_310 : GsN shC RC F00 A00 310 296 := ⟨rfl, rfl, fun _ => rfl, wn_311, wn_313⟩
theorem gn_316 : GsN shC RC F00 A00 316 296 := ⟨rfl, rfl, fun _ => rfl, wn_317, wn_319⟩
theorem gn_321 : GsN shC RC F00 A00 321 296 := ⟨rfl, rfl, fun _ => rfl, wn_322, wn_324⟩
theorem gn_327 : GsN shC RC F00 A00 327 296 := ⟨rfl, rfl, fun _ => rfl, wn_328, wn_330⟩
theorem gn_332 : GsN shC RC F00 A00 332 296 := ⟨rfl, rfl, fun _ => rfl, wn_333, wn_335⟩
theorem gn_338 : GsN shC RC F00 A00 338 296 := ⟨rfl, rfl, fun _ => rfl, wn_339, wn_341⟩
theorem gn_343 : GsN shC RC F00 A00 343 296 := ⟨rfl, rfl, fun _ => rfl, wn_344, wn_346⟩
theorem gn_348 : GsN shC RC F00 A00 348 296 := ⟨rfl, rfl, fun _ => rfl, wn_349, wn_351⟩
theorem gn_353 : GsN shC RC F00 A00 353 296 := ⟨rfl, rfl, fun _ => rfl, wn_354, wn_356⟩
theorem gn_358 : GsN shC RC F00 A00 358 296 := ⟨rfl, rfl, fun _ => rfl, wn_359, wn_361⟩
theorem gn_363 : GsN shC RC F00 A00 363 296 := ⟨rfl, rfl, fun _ => rfl, wn_364, wn_366⟩
theorem tn_32 : RtN shC RC F00 A00 32 10 8 := ⟨rfl, rfl, fun _ => rfl, gn_33, gn_38⟩
theorem tn_43 : RtN shC RC F00 A00 43 10 8 := ⟨rfl, rfl, fun _ => rfl, gn_44, gn_49⟩
theorem tn_54 : RtN shC RC F00 A00 54 10 8 := ⟨rfl, rfl, fun _ => rfl, gn_55, gn_60⟩
theorem tn_65 : RtN shC RC F00 A00 65 10 8 := ⟨rfl, rfl, fun _ => rfl, gn_66, gn_71⟩
theorem tn_77 : RtN shC RC F00 A00 77 10 8 := ⟨rfl, rfl, fun _ => rfl, gn_78, gn_83⟩
theorem tn_88 : RtN shC RC F00 A00 88 10 8 := ⟨rfl, rfl, fun _ => rfl, gn_89, gn_94⟩
theorem tn_99 : RtN shC RC F00 A00 99 10 8 := ⟨rfl, rfl, fun _ => rfl, gn_100, gn_105⟩
theorem tn_110 : RtN shC RC F00 A00 110 10 8 := ⟨rfl, rfl, fun _ => rfl, gn_111, gn_116⟩
theorem tn_121 : RtN shC RC F00 A00 121 10 8 := ⟨rfl, rfl, fun _ => rfl, gn_122, gn_127⟩
theorem tn_132 : RtN shC RC F00 A00 132 10 8 := ⟨rfl, rfl, fun _ => rfl, gn_133, gn_138⟩
theorem tn_143 : RtN shC RC F00 A00 143 10 8 := ⟨rfl, rfl, fun _ => rfl, gn_144, gn_149⟩
theorem tn_154 : RtN shC RC F00 A00 154 10 8 := ⟨rfl, rfl, fun _ => rfl, gn_155, gn_160⟩
theorem tn_165 : RtN shC RC F00 A00 165 10 8 := ⟨rfl, rfl, fun _ => rfl, gn_166, gn_171⟩
theorem tn_176 : RtN shC RC F00 A00 176 10 8 := ⟨rfl, rfl, fun _ => rfl, gn_177, gn_182⟩
theorem tn_187 : RtN shC RC F00 A00 187 10 8 := ⟨rfl, rfl, fun _ => rfl, gn_188, gn_193⟩
theorem tn_304 : RtN shC RC F00 A00 304 298 296 := ⟨rfl, rfl, fun _ => rfl, gn_305, gn_310⟩
theorem tn_315 : RtN shC RC F00 A00 315 298 296 := ⟨rfl, rfl, fun _ => rfl, gn_316, gn_321⟩
theorem tn_326 : RtN shC RC F00 A00 326 298 296 := ⟨rfl, rfl, fun _ => rfl, gn_327, gn_332⟩
theorem tn_337 : RtN shC RC F00 A00 337 298 296 := ⟨rfl, rfl, fun _ => rfl, gn_338, gn_343⟩
theorem rn_31 : RfN shC RC F00 A00 31 4 10 8 := by
  refine ⟨rfl, fun k hk => ?_, fun k hk => rwL_none hk, fun k hk => ?_⟩
  · rcases (show k = 0 ∨ k = 1 ∨ k = 2 ∨ k = 3 by omega) with rfl | rfl | rfl | rfl <;> rfl
  · rcases (show k = 0 ∨ k = 1 ∨ k = 2 ∨ k = 3 by omega) with rfl | rfl | rfl | rfl
    · exact tn_32
    · exact tn_43
    · exact tn_54
    · exact tn_65
theorem rn_76 : RfN shC RC F00 A00 76 4 10 8 := by
  refine ⟨rfl, fun k hk => ?_, fun k hk => rwL_none hk, fun k hk => ?_⟩
  · rcases (show k = 0 ∨ k = 1 ∨ k = 2 ∨ k = 3 by omega) with rfl | rfl | rfl | rfl <;> rfl
  · rcases (show k = 0 ∨ k = 1 ∨ k = 2 ∨ k = 3 by omega) with rfl | rfl | rfl | rfl
    · exact tn_77
    · exact tn_88
    · exact tn_99
    · exact tn_110
theorem rn_303 : RfN shC RC F00 A00 303 4 298 296 := by
  refine ⟨rfl, fun k hk => ?_, fun k hk => rwL_none hk, fun k hk => ?_⟩
  · rcases (show k = 0 ∨ k = 1 ∨ k = 2 ∨ k = 3 by omega) with rfl | rfl | rfl | rfl <;> rfl
  · rcases (show k = 0 ∨ k = 1 ∨ k = 2 ∨ k = 3 by omega) with rfl | rfl | rfl | rfl
    · exact tn_304
    · exact tn_315
    · exact tn_326
    · exact tn_337
theorem rn_198 : GrN shC RC F00 A00 198 12 8 := by
  refine ⟨rfl, fun k hk => ?_, fun k hk => rwL_none hk, fun k hk => ?_⟩
  · rcases (show k = 0 ∨ k = 1 ∨ k = 2 ∨ k = 3 ∨ k = 4 ∨ k = 5 ∨ k = 6 ∨ k = 7 ∨ k = 8 ∨ k = 9 ∨ k = 10 ∨ k = 11 by omega) with rfl | rfl | rfl | rfl | rfl | rfl | rfl | rfl | rfl | rfl | rfl | rfl <;> rfl
  · rcases (show k = 0 ∨ k = 1 ∨ k = 2 ∨ k = 3 ∨ k = 4 ∨ k = 5 ∨ k = 6 ∨ k = 7 ∨ k = 8 ∨ k = 9 ∨ k = 10 ∨ k = 11 by omega) with rfl | rfl | rfl | rfl | rfl | rfl | rfl | rfl | rfl | rfl | rfl | rfl
    · exact gn_199
    · exact gn_204
    · exact gn_209
    · exact gn_214
    · exact gn_219
    · exact gn_224
    · exact gn_229
    · exact gn_234
    · exact gn_239
    · exact gn_244
    · exact gn_249
    · exact gn_254
theorem rn_259 : GrN shC RC F00 A00 259 4 8 := by
  refine ⟨rfl, fun k hk => ?_, fun k hk => rwL_none hk, fun k hk => ?_⟩
  · rcases (show k = 0 ∨ k = 1 ∨ k = 2 ∨ k = 3 by omega) with rfl | rfl | rfl | rfl <;> rfl
  · rcases (show k = 0 ∨ k = 1 ∨ k = 2 ∨ k = 3 by omega) with rfl | rfl | rfl | rfl
    · exact gn_260
    · exact gn_265
    · exact gn_270
    · exact gn_275
theorem ln_15 : LoN shC RC F00 A00 15 3 8 := ⟨rfl, rfl, fun _ => rfl, gn_16, wn_21, wn_23, wn_25, wn_27, wn_29⟩
theorem SfN_C : SfN shC RC F00 A00 := ⟨rfl, rfl, fun _ => rfl, ⟨rfl, rfl, rfl, rfl, rfl⟩, fun _ _ _ _ => rfl⟩
theorem AcN_C : AcN shC RC F00 A00 := ⟨rfl, rfl, fun _ => rfl, rfl, rfl, wn_8, gn_10, ln_15, ⟨rn_31, rn_76⟩, ⟨tn_121, tn_132, tn_143, tn_154, tn_165, tn_176, tn_187⟩, ⟨rn_198, rn_259⟩, gn_280, gn_285, gn_290⟩
theorem JdN_C : JdN shC RC F00 A00 := ⟨rfl, rfl, fun _ => rfl, wn_296, gn_298, rn_303, ⟨gn_348, gn_353, gn_358, gn_363⟩, wn_368, wn_370, wn_372, wn_374, wn_376, wn_378, wn_380, wn_382, wn_384⟩
theorem PbN_C : PbN shC RC F00 A00 := ⟨⟨rfl, rfl⟩, SfN_C, AcN_C, JdN_C⟩
theorem w_8 : isW shC RC 386 8 := wn_8.w (by decide)
theorem w_296 : isW shC RC 386 296 := wn_296.w (by decide)
theorem g_10 : isG shC RC 386 10 8 := gn_10.g w_8 (by decide)
theorem g_298 : isG shC RC 386 298 296 := gn_298.g w_296 (by decide)
theorem rat_all : ∀ r ∈ RatL, isRt shC RC 386 r 10 8 := List.forall_mem_cons.mpr ⟨tn_32.r w_8 g_10 (by decide), List.forall_mem_cons.mpr ⟨tn_43.r w_8 g_10 (by decide), List.forall_mem_cons.mpr ⟨tn_54.r w_8 g_10 (by decide), List.forall_mem_cons.mpr ⟨tn_65.r w_8 g_10 (by decide), List.forall_mem_cons.mpr ⟨tn_77.r w_8 g_10 (by decide), List.forall_mem_cons.mpr ⟨tn_88.r w_8 g_10 (by decide), List.forall_mem_cons.mpr ⟨tn_99.r w_8 g_10 (by decide), List.forall_mem_cons.mpr ⟨tn_110.r w_8 g_10 (by decide), List.forall_mem_cons.mpr ⟨tn_121.r w_8 g_10 (by decide), List.forall_mem_cons.mpr ⟨tn_132.r w_8 g_10 (by decide), List.forall_mem_cons.mpr ⟨tn_143.r w_8 g_10 (by decide), List.forall_mem_cons.mpr ⟨tn_154.r w_8 g_10 (by decide), List.forall_mem_cons.mpr ⟨tn_165.r w_8 g_10 (by decide), List.forall_mem_cons.mpr ⟨tn_176.r w_8 g_10 (by decide), List.forall_mem_cons.mpr ⟨tn_187.r w_8 g_10 (by decide), fun _ h => nomatch h⟩⟩⟩⟩⟩⟩⟩⟩⟩⟩⟩⟩⟩⟩⟩
theorem ga_all : ∀ g ∈ GaL, isG shC RC 386 g 8 := List.forall_mem_cons.mpr ⟨gn_199.g w_8 (by decide), List.forall_mem_cons.mpr ⟨gn_204.g w_8 (by decide), List.forall_mem_cons.mpr ⟨gn_209.g w_8 (by decide), List.forall_mem_cons.mpr ⟨gn_214.g w_8 (by decide), List.forall_mem_cons.mpr ⟨gn_219.g w_8 (by decide), List.forall_mem_cons.mpr ⟨gn_224.g w_8 (by decide), List.forall_mem_cons.mpr ⟨gn_229.g w_8 (by decide), List.forall_mem_cons.mpr ⟨gn_234.g w_8 (by decide), List.forall_mem_cons.mpr ⟨gn_239.g w_8 (by decide), List.forall_mem_cons.mpr ⟨gn_244.g w_8 (by decide), List.forall_mem_cons.mpr ⟨gn_249.g w_8 (by decide), List.forall_mem_cons.mpr ⟨gn_254.g w_8 (by decide), List.forall_mem_cons.mpr ⟨gn_260.g w_8 (by decide), List.forall_mem_cons.mpr ⟨gn_265.g w_8 (by decide), List.forall_mem_cons.mpr ⟨gn_270.g w_8 (by decide), List.forall_mem_cons.mpr ⟨gn_275.g w_8 (by decide), List.forall_mem_cons.mpr ⟨gn_280.g w_8 (by decide), List.forall_mem_cons.mpr ⟨gn_285.g w_8 (by decide), List.forall_mem_cons.mpr ⟨gn_290.g w_8 (by decide), List.forall_mem_cons.mpr ⟨gn_33.g w_8 (by decide), List.forall_mem_cons.mpr ⟨gn_38.g w_8 (by decide), List.forall_mem_cons.mpr ⟨gn_78.g w_8 (by decide), List.forall_mem_cons.mpr ⟨gn_83.g w_8 (by decide), List.forall_mem_cons.mpr ⟨gn_122.g w_8 (by decide), List.forall_mem_cons.mpr ⟨gn_127.g w_8 (by decide), List.forall_mem_cons.mpr ⟨gn_133.g w_8 (by decide), List.forall_mem_cons.mpr ⟨gn_138.g w_8 (by decide), fun _ h => nomatch h⟩⟩⟩⟩⟩⟩⟩⟩⟩⟩⟩⟩⟩⟩⟩⟩⟩⟩⟩⟩⟩⟩⟩⟩⟩⟩⟩
theorem jr_all : ∀ r ∈ JuR, isRt shC RC 386 r 298 296 := List.forall_mem_cons.mpr ⟨tn_304.r w_296 g_298 (by decide), List.forall_mem_cons.mpr ⟨tn_315.r w_296 g_298 (by decide), List.forall_mem_cons.mpr ⟨tn_326.r w_296 g_298 (by decide), List.forall_mem_cons.mpr ⟨tn_337.r w_296 g_298 (by decide), fun _ h => nomatch h⟩⟩⟩⟩
theorem jg_all : ∀ g ∈ [348, 353, 358, 363], isG shC RC 386 g 296 := List.forall_mem_cons.mpr ⟨gn_348.g w_296 (by decide), List.forall_mem_cons.mpr ⟨gn_353.g w_296 (by decide), List.forall_mem_cons.mpr ⟨gn_358.g w_296 (by decide), List.forall_mem_cons.mpr ⟨gn_363.g w_296 (by decide), fun _ h => nomatch h⟩⟩⟩⟩
theorem jw_all : ∀ w ∈ JuW, isW shC RC 386 w := List.forall_mem_cons.mpr ⟨wn_368.w (by decide), List.forall_mem_cons.mpr ⟨wn_370.w (by decide), List.forall_mem_cons.mpr ⟨wn_372.w (by decide), List.forall_mem_cons.mpr ⟨wn_374.w (by decide), List.forall_mem_cons.mpr ⟨wn_376.w (by decide), List.forall_mem_cons.mpr ⟨wn_378.w (by decide), List.forall_mem_cons.mpr ⟨wn_380.w (by decide), List.forall_mem_cons.mpr ⟨wn_382.w (by decide), List.forall_mem_cons.mpr ⟨wn_384.w (by decide), fun _ h => nomatch h⟩⟩⟩⟩⟩⟩⟩⟩⟩
theorem spG_8 : spG shC RC 386 8 := fun x s h => by
  have h2 := h.2.1
  refine ⟨fun q => ?_, fun q => ?_⟩
  · rw [show x = 7 by omega] at h2
    exact absurd h2 (by decide)
  · rw [show x = 5 by omega] at h2
    exact absurd h2 (by decide)
theorem spG_296 : spG shC RC 386 296 := fun x s h => by
  have h2 := h.2.1
  refine ⟨fun q => ?_, fun q => ?_⟩
  · rw [show x = 295 by omega] at h2
    exact absurd h2 (by decide)
  · rw [show x = 293 by omega] at h2
    exact absurd h2 (by decide)
theorem sgR_10 : sgR shC RC 386 10 := fun x s t h => by
  have h2 := h.2.1
  refine ⟨fun q => ?_, fun q => ?_⟩
  · rw [show x = 9 by omega] at h2
    exact absurd h2 (by decide)
  · rw [show x = 4 by omega] at h2
    exact absurd h2 (by decide)
theorem sgR_298 : sgR shC RC 386 298 := fun x s t h => by
  have h2 := h.2.1
  refine ⟨fun q => ?_, fun q => ?_⟩
  · rw [show x = 297 by omega] at h2
    exact absurd h2 (by decide)
  · rw [show x = 292 by omega] at h2
    exact absurd h2 (by decide)
theorem ShL_C : ShL shC RC 386 := ⟨⟨by decide, rfl⟩, ⟨rfl, rfl, rfl, rfl, rfl⟩, ⟨by decide, rfl⟩, ⟨by decide, rfl⟩, ⟨by decide, rfl⟩, ⟨by decide, rfl⟩, ⟨by decide, rfl⟩⟩
theorem LWd_C : LWd shC RC 386 := ⟨⟨by decide, rfl, rfl, rfl, rfl, rfl, rfl⟩, ⟨by decide, rfl⟩, gn_16.g w_8 (by decide), wn_21.w (by decide), wn_23.w (by decide), wn_25.w (by decide), wn_27.w (by decide), wn_29.w (by decide), spG_8⟩
theorem AcL_C : AcL shC RC 386 := ⟨ShL_C, LWd_C, ⟨by decide, rfl⟩, ⟨rfl, rfl, rfl, rfl, rfl, rfl, rfl, rfl, rfl, rfl, rfl⟩, ⟨rfl, rfl, rfl, rfl, rfl⟩, ⟨⟨by decide, rfl⟩, ⟨by decide, rfl⟩, (fun k hk => by rcases (show k = 0 ∨ k = 1 ∨ k = 2 ∨ k = 3 by omega) with rfl | rfl | rfl | rfl <;> rfl), (fun k hk => by rcases (show k = 0 ∨ k = 1 ∨ k = 2 ∨ k = 3 by omega) with rfl | rfl | rfl | rfl <;> rfl)⟩, rat_all, sgR_10⟩
theorem AcG_C : AcG shC RC 386 := ⟨⟨by decide, rfl⟩, (fun k hk => by rcases (show k = 0 ∨ k = 1 ∨ k = 2 ∨ k = 3 ∨ k = 4 ∨ k = 5 ∨ k = 6 ∨ k = 7 ∨ k = 8 ∨ k = 9 ∨ k = 10 ∨ k = 11 by omega) with rfl | rfl | rfl | rfl | rfl | rfl | rfl | rfl | rfl | rfl | rfl | rfl <;> rfl), ⟨by decide, rfl⟩, (fun k hk => by rcases (show k = 0 ∨ k = 1 ∨ k = 2 ∨ k = 3 by omega) with rfl | rfl | rfl | rfl <;> rfl), ga_all⟩
theorem JuL_C : JuL shC RC 386 := ⟨⟨by decide, rfl⟩, ⟨rfl, rfl, rfl, rfl, rfl, rfl, rfl, rfl, rfl, rfl, rfl, rfl, rfl, rfl⟩, ⟨by decide, rfl⟩, (fun k hk => by rcases (show k = 0 ∨ k = 1 ∨ k = 2 ∨ k = 3 by omega) with rfl | rfl | rfl | rfl <;> rfl), jr_all, jg_all, jw_all, spG_296, sgR_298⟩
theorem PbL_C : PbL shC RC 386 := ⟨AcL_C, AcG_C, JuL_C, ⟨by decide, rfl⟩, rfl, rfl, rfl⟩
theorem MoL_M : MoL shM RM 12 := MdN_M.mo
