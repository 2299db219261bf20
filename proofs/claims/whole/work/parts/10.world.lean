/-! THE WORLD BEHIND THE CONSTRUCTORS (written by gen/gworld.py) -/
def GS (L : Int) : List zv_S := [.inr (.int, L), .inl 11, .inl 9, .inr (.int, 1600), .inl 10, .inr (.int, 7), .inr (.int, 7), .inr (.int, 7), .inr (.int, 7), .inr (.int, 6), .inr (.int, 6), .inr (.int, 6), .inl 1, .inr (.int, 1600), .inl 1, .inr (.int, 1600), .inr (.int, 49), .inl 10, .inr (.int, 7), .inr (.int, 7), .inr (.int, 7), .inr (.int, 7), .inr (.int, 6), .inr (.int, 6), .inr (.int, 6), .inl 1, .inr (.int, 1600), .inl 1, .inr (.int, 1600), .inr (.int, 49), .inl 8, .inr (.int, 7), .inr (.int, 7), .inr (.int, 7), .inr (.int, 6), .inr (.int, 6), .inr (.int, 6), .inr (.int, 6), .inr (.int, 6), .inr (.int, 42), .inr (.int, 60), .inl 8, .inr (.int, 7), .inr (.int, 7), .inr (.int, 7), .inr (.int, 6), .inr (.int, 6), .inr (.int, 6), .inr (.int, 6), .inr (.int, 6), .inr (.int, 42), .inr (.int, 60), .inl 4, .inl 7, .inr (.int, 24), .inl 3, .inl 5, .inr (.long, 64), .inl 6, .inr (.int, 4), .inr (.int, 4), .inr (.int, 4), .inl 0, .inr ((.object "NineTimes$State"), 20), .inl 8, .inr (.int, 7), .inr (.int, 7), .inr (.int, 7), .inr (.int, 6), .inr (.int, 6), .inr (.int, 6), .inr (.int, 6), .inr (.int, 6), .inr (.int, 42), .inr (.int, 60), .inl 8, .inr (.int, 7), .inr (.int, 7), .inr (.int, 7), .inr (.int, 6), .inr (.int, 6), .inr (.int, 6), .inr (.int, 6), .inr (.int, 6), .inr (.int, 42), .inr (.int, 60), .inl 8, .inr (.int, 7), .inr (.int, 7), .inr (.int, 7), .inr (.int, 6), .inr (.int, 6), .inr (.int, 6), .inr (.int, 6), .inr (.int, 6), .inr (.int, 42), .inr (.int, 60), .inl 8, .inr (.int, 7), .inr (.int, 7), .inr (.int, 7), .inr (.int, 6), .inr (.int, 6), .inr (.int, 6), .inr (.int, 6), .inr (.int, 6), .inr (.int, 42), .inr (.int, 60), .inl 8, .inr (.int, 7), .inr (.int, 7), .inr (.int, 7), .inr (.int, 6), .inr (.int, 6), .inr (.int, 6), .inr (.int, 6), .inr (.int, 6), .inr (.int, 42), .inr (.int, 60), .inl 8, .inr (.int, 7), .inr (.int, 7), .inr (.int, 7), .inr (.int, 6), .inr (.int, 6), .inr (.int, 6), .inr (.int, 6), .inr (.int, 6), .inr (.int, 42), .inr (.int, 60), .inl 8, .inr (.int, 7), .inr (.int, 7), .inr (.int, 7), .inr (.int, 6), .inr (.int, 6), .inr (.int, 6), .inr (.int, 6), .inr (.int, 6), .inr (.int, 42), .inr (.int, 60), .inl 8, .inr (.int, 7), .inr (.int, 7), .inr (.int, 7), .inr (.int, 6), .inr (.int, 6), .inr (.int, 6), .inr (.int, 6), .inr (.int, 6), .inr (.int, 42), .inr (.int, 60), .inl 8, .inr (.int, 7), .inr (.int, 7), .inr (.int, 7), .inr (.int, 6), .inr (.int, 6), .inr (.int, 6), .inr (.int, 6), .inr (.int, 6), .inr (.int, 42), .inr (.int, 60), .inl 8, .inr (.int, 7), .inr (.int, 7), .inr (.int, 7), .inr (.int, 6), .inr (.int, 6), .inr (.int, 6), .inr (.int, 6), .inr (.int, 6), .inr (.int, 42), .inr (.int, 60), .inl 8, .inr (.int, 7), .inr (.int, 7), .inr (.int, 7), .inr (.int, 6), .inr (.int, 6), .inr (.int, 6), .inr (.int, 6), .inr (.int, 6), .inr (.int, 42), .inr (.int, 60), .inl 8, .inr (.int, 7), .inr (.int, 7), .inr (.int, 7), .inr (.int, 6), .inr (.int, 6), .inr (.int, 6), .inr (.int, 6), .inr (.int, 6), .inr (.int, 42), .inr (.int, 60), .inl 8, .inr (.int, 7), .inr (.int, 7), .inr (.int, 7), .inr (.int, 6), .inr (.int, 6), .inr (.int, 6), .inr (.int, 6), .inr (.int, 6), .inr (.int, 42), .inr (.int, 60), .inl 8, .inr (.int, 7), .inr (.int, 7), .inr (.int, 7), .inr (.int, 6), .inr (.int, 6), .inr (.int, 6), .inr (.int, 6), .inr (.int, 6), .inr (.int, 42), .inr (.int, 60), .inl 8, .inr (.int, 7), .inr (.int, 7), .inr (.int, 7), .inr (.int, 6), .inr (.int, 6), .inr (.int, 6), .inr (.int, 6), .inr (.int, 6), .inr (.int, 42), .inr (.int, 60), .inl 8, .inr (.int, 7), .inr (.int, 7), .inr (.int, 7), .inr (.int, 6), .inr (.int, 6), .inr (.int, 6), .inr (.int, 6), .inr (.int, 6), .inr (.int, 42), .inr (.int, 60), .inl 8, .inr (.int, 7), .inr (.int, 7), .inr (.int, 7), .inr (.int, 6), .inr (.int, 6), .inr (.int, 6), .inr (.int, 6), .inr (.int, 6), .inr (.int, 42), .inr (.int, 60), .inl 8, .inr (.int, 7), .inr (.int, 7), .inr (.int, 7), .inr (.int, 6), .inr (.int, 6), .inr (.int, 6), .inr (.int, 6), .inr (.int, 6), .inr (.int, 42), .inr (.int, 60), .inl 8, .inr (.int, 7), .inr (.int, 7), .inr (.int, 7), .inr (.int, 6), .inr (.int, 6), .inr (.int, 6), .inr (.int, 6), .inr (.int, 6), .inr (.int, 42), .inr (.int, 60), .inl 8, .inr (.int, 7), .inr (.int, 7), .inr (.int, 7), .inr (.int, 6), .inr (.int, 6), .inr (.int, 6), .inr (.int, 6), .inr (.int, 6), .inr (.int, 42), .inr (.int, 60), .inl 2, .inr (.int, 109), .inr (.int, 16), .inr (.int, 16), .inr (.int, 6), .inl 12, .inr (.int, 1800), .inr (.int, 2), .inr (.int, 14), .inr (.int, 14), .inr (.int, 14), .inr (.int, 2), .inr (.int, 98), .inr (.int, 98), .inr (.int, 2), .inr (.int, 12), .inr (.int, 12), .inr (.int, 2), .inr (.int, 4), .inr (.int, 4), .inr (.int, 3200), .inr (.int, 3200), .inr (.long, 14), .inr (.long, 12), .inr (.int, 20), .inr (.int, 20), .inr (.boolean, 20), .inr (.int, 20), .inr (.int, 20), .inr (.int, 500), .inr (.int, 6), .inr (.int, 22), .inr (.int, 154), .inr (.int, 154), .inr (.int, 154), .inr (.int, 132), .inr (.int, 132), .inr (.int, 132), .inr (.int, 132), .inr (.int, 132), .inr (.int, 924), .inr (.int, 22), .inr (.int, 5280), .inr (.long, 500), .inr (.int, 12), .inr (.int, 4), .inr (.int, 4), .inr (.int, 6), .inr (.int, 16), .inr (.int, 16), .inr (.int, 120)]
def FXL : List (List (Option Int)) := [[], [some 2, some 52, some 55, some 58, some 62, some 284, some 30, some 41, none, none, none, none, none, some 286, some 287, none, some 288], [some 3], [], [none, none, none, none, none, some 5, some 6, some 7, some 8, some 9, some 10, some 11, some 12, some 14, some 16], [], [], [], [], [], [], [], [some 13], [], [some 15], [], [], [none, none, none, none, none, some 18, some 19, some 20, some 21, some 22, some 23, some 24, some 25, some 27, some 29], [], [], [], [], [], [], [], [some 26], [], [some 28], [], [], [none, some 31, some 32, some 33, some 34, some 35, some 36, some 37, some 38, some 39, some 40], [], [], [], [], [], [], [], [], [], [], [none, some 42, some 43, some 44, some 45, some 46, some 47, some 48, some 49, some 50, some 51], [], [], [], [], [], [], [], [], [], [], [some 53], [some 2, some 54], [], [some 56], [some 57], [], [some 59, none, none, none, some 60, some 61], [], [], [], [some 63], [some 64, some 75, some 86, some 97, some 108, some 119, some 130, some 141, some 152, some 163, some 174, some 185, some 196, some 207, some 218, some 229, some 240, some 251, some 262, some 273], [none, some 65, some 66, some 67, some 68, some 69, some 70, some 71, some 72, some 73, some 74], [], [], [], [], [], [], [], [], [], [], [none, some 76, some 77, some 78, some 79, some 80, some 81, some 82, some 83, some 84, some 85], [], [], [], [], [], [], [], [], [], [], [none, some 87, some 88, some 89, some 90, some 91, some 92, some 93, some 94, some 95, some 96], [], [], [], [], [], [], [], [], [], [], [none, some 98, some 99, some 100, some 101, some 102, some 103, some 104, some 105, some 106, some 107], [], [], [], [], [], [], [], [], [], [], [none, some 109, some 110, some 111, some 112, some 113, some 114, some 115, some 116, some 117, some 118], [], [], [], [], [], [], [], [], [], [], [none, some 120, some 121, some 122, some 123, some 124, some 125, some 126, some 127, some 128, some 129], [], [], [], [], [], [], [], [], [], [], [none, some 131, some 132, some 133, some 134, some 135, some 136, some 137, some 138, some 139, some 140], [], [], [], [], [], [], [], [], [], [], [none, some 142, some 143, some 144, some 145, some 146, some 147, some 148, some 149, some 150, some 151], [], [], [], [], [], [], [], [], [], [], [none, some 153, some 154, some 155, some 156, some 157, some 158, some 159, some 160, some 161, some 162], [], [], [], [], [], [], [], [], [], [], [none, some 164, some 165, some 166, some 167, some 168, some 169, some 170, some 171, some 172, some 173], [], [], [], [], [], [], [], [], [], [], [none, some 175, some 176, some 177, some 178, some 179, some 180, some 181, some 182, some 183, some 184], [], [], [], [], [], [], [], [], [], [], [none, some 186, some 187, some 188, some 189, some 190, some 191, some 192, some 193, some 194, some 195], [], [], [], [], [], [], [], [], [], [], [none, some 197, some 198, some 199, some 200, some 201, some 202, some 203, some 204, some 205, some 206], [], [], [], [], [], [], [], [], [], [], [none, some 208, some 209, some 210, some 211, some 212, some 213, some 214, some 215, some 216, some 217], [], [], [], [], [], [], [], [], [], [], [none, some 219, some 220, some 221, some 222, some 223, some 224, some 225, some 226, some 227, some 228], [], [], [], [], [], [], [], [], [], [], [none, some 230, some 231, some 232, some 233, some 234, some 235, some 236, some 237, some 238, some 239], [], [], [], [], [], [], [], [], [], [], [none, some 241, some 242, some 243, some 244, some 245, some 246, some 247, some 248, some 249, some 250], [], [], [], [], [], [], [], [], [], [], [none, some 252, some 253, some 254, some 255, some 256, some 257, some 258, some 259, some 260, some 261], [], [], [], [], [], [], [], [], [], [], [none, some 263, some 264, some 265, some 266, some 267, some 268, some 269, some 270, some 271, some 272], [], [], [], [], [], [], [], [], [], [], [none, some 274, some 275, some 276, some 277, some 278, some 279, some 280, some 281, some 282, some 283], [], [], [], [], [], [], [], [], [], [], [some 285, none, some 2], [], [], [], [], [some 290, none, none, none, none, none, none, none, none, none, none, none, none, none, some 291, some 292, some 293, some 294, some 295, some 296, some 297, some 298, some 299, some 300, some 301, some 302, some 303, some 304, some 305, some 306, some 307, none, none, none, some 308, some 309, some 310, some 311, some 312, none, none, some 313, none, none, some 314, some 315, some 316, some 317, some 318, some 319, some 320, some 321, some 322, some 323, some 324, some 325, some 326, none, none, none, some 327, some 328, none, some 329, some 330, some 331, none, none, some 332, some 333, some 334], [], [], [], [], [], [], [], [], [], [], [], [], [], [], [], [], [], [], [], [], [], [], [], [], [], [], [], [], [], [], [], [], [], [], [], [], [], [], [], [], [], [], [], [], []]
def FX (a k : Int) : Option Int := match a with
  | .ofNat n => match FXL[n]? with
    | some [] => none
    | some r => match k with
      | .ofNat j => match r[j]? with
        | some v => v
        | none => none
      | .negSucc _ => none
    | none => none
  | .negSucc _ => none
def GM (L : Int) : zv_W := (GS L, FX)
theorem gm_ar (L : Int) (n : Nat) (ty : FieldType) (m : Int) (h1 : (GS L)[n]? = some (.inr (ty, m))) (h2 : FXL[n]? = some []) : zv_ar (GM L) (n : Int) ty m := by
  refine ⟨h1, fun k => ?_⟩
  show FX (Int.ofNat n) k = none
  unfold FX
  simp only [h2]
set_option maxRecDepth 20000 in
theorem ar_0 {L : Int} : zv_ar (GM L) 0 .int L := gm_ar L 0 .int L rfl rfl
set_option maxRecDepth 20000 in
theorem ob_1 {L : Int} : zv_ob (GM L) 1 11 := rfl
set_option maxRecDepth 20000 in
theorem fx_1_0 {L : Int} : (GM L).2 1 0 = some 2 := rfl
set_option maxRecDepth 20000 in
theorem fx_1_1 {L : Int} : (GM L).2 1 1 = some 52 := rfl
set_option maxRecDepth 20000 in
theorem fx_1_2 {L : Int} : (GM L).2 1 2 = some 55 := rfl
set_option maxRecDepth 20000 in
theorem fx_1_3 {L : Int} : (GM L).2 1 3 = some 58 := rfl
set_option maxRecDepth 20000 in
theorem fx_1_4 {L : Int} : (GM L).2 1 4 = some 62 := rfl
set_option maxRecDepth 20000 in
theorem fx_1_5 {L : Int} : (GM L).2 1 5 = some 284 := rfl
set_option maxRecDepth 20000 in
theorem fx_1_6 {L : Int} : (GM L).2 1 6 = some 30 := rfl
set_option maxRecDepth 20000 in
theorem fx_1_7 {L : Int} : (GM L).2 1 7 = some 41 := rfl
set_option maxRecDepth 20000 in
theorem fx_1_8 {L : Int} : (GM L).2 1 8 = none := rfl
set_option maxRecDepth 20000 in
theorem fx_1_9 {L : Int} : (GM L).2 1 9 = none := rfl
set_option maxRecDepth 20000 in
theorem fx_1_10 {L : Int} : (GM L).2 1 10 = none := rfl
set_option maxRecDepth 20000 in
theorem fx_1_11 {L : Int} : (GM L).2 1 11 = none := rfl
set_option maxRecDepth 20000 in
theorem fx_1_12 {L : Int} : (GM L).2 1 12 = none := rfl
set_option maxRecDepth 20000 in
theorem fx_1_13 {L : Int} : (GM L).2 1 13 = some 286 := rfl
set_option maxRecDepth 20000 in
theorem fx_1_14 {L : Int} : (GM L).2 1 14 = some 287 := rfl
set_option maxRecDepth 20000 in
theorem fx_1_15 {L : Int} : (GM L).2 1 15 = none := rfl
set_option maxRecDepth 20000 in
theorem fx_1_16 {L : Int} : (GM L).2 1 16 = some 288 := rfl
set_option maxRecDepth 20000 in
theorem ob_2 {L : Int} : zv_ob (GM L) 2 9 := rfl
set_option maxRecDepth 20000 in
theorem fx_2_0 {L : Int} : (GM L).2 2 0 = some 3 := rfl
set_option maxRecDepth 20000 in
theorem fx_2_1 {L : Int} : (GM L).2 2 1 = none := rfl
set_option maxRecDepth 20000 in
theorem ar_3 {L : Int} : zv_ar (GM L) 3 .int 1600 := gm_ar L 3 .int 1600 rfl rfl
set_option maxRecDepth 20000 in
theorem ob_4 {L : Int} : zv_ob (GM L) 4 10 := rfl
set_option maxRecDepth 20000 in
theorem fx_4_0 {L : Int} : (GM L).2 4 0 = none := rfl
set_option maxRecDepth 20000 in
theorem fx_4_1 {L : Int} : (GM L).2 4 1 = none := rfl
set_option maxRecDepth 20000 in
theorem fx_4_2 {L : Int} : (GM L).2 4 2 = none := rfl
set_option maxRecDepth 20000 in
theorem fx_4_3 {L : Int} : (GM L).2 4 3 = none := rfl
set_option maxRecDepth 20000 in
theorem fx_4_4 {L : Int} : (GM L).2 4 4 = none := rfl
set_option maxRecDepth 20000 in
theorem fx_4_5 {L : Int} : (GM L).2 4 5 = some 5 := rfl
set_option maxRecDepth 20000 in
theorem fx_4_6 {L : Int} : (GM L).2 4 6 = some 6 := rfl
set_option maxRecDepth 20000 in
theorem fx_4_7 {L : Int} : (GM L).2 4 7 = some 7 := rfl
set_option maxRecDepth 20000 in
theorem fx_4_8 {L : Int} : (GM L).2 4 8 = some 8 := rfl
set_option maxRecDepth 20000 in
theorem fx_4_9 {L : Int} : (GM L).2 4 9 = some 9 := rfl
set_option maxRecDepth 20000 in
theorem fx_4_10 {L : Int} : (GM L).2 4 10 = some 10 := rfl
set_option maxRecDepth 20000 in
theorem fx_4_11 {L : Int} : (GM L).2 4 11 = some 11 := rfl
set_option maxRecDepth 20000 in
theorem fx_4_12 {L : Int} : (GM L).2 4 12 = some 12 := rfl
set_option maxRecDepth 20000 in
theorem fx_4_13 {L : Int} : (GM L).2 4 13 = some 14 := rfl
set_option maxRecDepth 20000 in
theorem fx_4_14 {L : Int} : (GM L).2 4 14 = some 16 := rfl
set_option maxRecDepth 20000 in
theorem ar_5 {L : Int} : zv_ar (GM L) 5 .int 7 := gm_ar L 5 .int 7 rfl rfl
set_option maxRecDepth 20000 in
theorem ar_6 {L : Int} : zv_ar (GM L) 6 .int 7 := gm_ar L 6 .int 7 rfl rfl
set_option maxRecDepth 20000 in
theorem ar_7 {L : Int} : zv_ar (GM L) 7 .int 7 := gm_ar L 7 .int 7 rfl rfl
set_option maxRecDepth 20000 in
theorem ar_8 {L : Int} : zv_ar (GM L) 8 .int 7 := gm_ar L 8 .int 7 rfl rfl
set_option maxRecDepth 20000 in
theorem ar_9 {L : Int} : zv_ar (GM L) 9 .int 6 := gm_ar L 9 .int 6 rfl rfl
set_option maxRecDepth 20000 in
theorem ar_10 {L : Int} : zv_ar (GM L) 10 .int 6 := gm_ar L 10 .int 6 rfl rfl
set_option maxRecDepth 20000 in
theorem ar_11 {L : Int} : zv_ar (GM L) 11 .int 6 := gm_ar L 11 .int 6 rfl rfl
set_option maxRecDepth 20000 in
theorem ob_12 {L : Int} : zv_ob (GM L) 12 1 := rfl
set_option maxRecDepth 20000 in
theorem fx_12_0 {L : Int} : (GM L).2 12 0 = some 13 := rfl
set_option maxRecDepth 20000 in
theorem fx_12_1 {L : Int} : (GM L).2 12 1 = none := rfl
set_option maxRecDepth 20000 in
theorem ar_13 {L : Int} : zv_ar (GM L) 13 .int 1600 := gm_ar L 13 .int 1600 rfl rfl
set_option maxRecDepth 20000 in
theorem ob_14 {L : Int} : zv_ob (GM L) 14 1 := rfl
set_option maxRecDepth 20000 in
theorem fx_14_0 {L : Int} : (GM L).2 14 0 = some 15 := rfl
set_option maxRecDepth 20000 in
theorem fx_14_1 {L : Int} : (GM L).2 14 1 = none := rfl
set_option maxRecDepth 20000 in
theorem ar_15 {L : Int} : zv_ar (GM L) 15 .int 1600 := gm_ar L 15 .int 1600 rfl rfl
set_option maxRecDepth 20000 in
theorem ar_16 {L : Int} : zv_ar (GM L) 16 .int 49 := gm_ar L 16 .int 49 rfl rfl
set_option maxRecDepth 20000 in
theorem ob_17 {L : Int} : zv_ob (GM L) 17 10 := rfl
set_option maxRecDepth 20000 in
theorem fx_17_0 {L : Int} : (GM L).2 17 0 = none := rfl
set_option maxRecDepth 20000 in
theorem fx_17_1 {L : Int} : (GM L).2 17 1 = none := rfl
set_option maxRecDepth 20000 in
theorem fx_17_2 {L : Int} : (GM L).2 17 2 = none := rfl
set_option maxRecDepth 20000 in
theorem fx_17_3 {L : Int} : (GM L).2 17 3 = none := rfl
set_option maxRecDepth 20000 in
theorem fx_17_4 {L : Int} : (GM L).2 17 4 = none := rfl
set_option maxRecDepth 20000 in
theorem fx_17_5 {L : Int} : (GM L).2 17 5 = some 18 := rfl
set_option maxRecDepth 20000 in
theorem fx_17_6 {L : Int} : (GM L).2 17 6 = some 19 := rfl
set_option maxRecDepth 20000 in
theorem fx_17_7 {L : Int} : (GM L).2 17 7 = some 20 := rfl
set_option maxRecDepth 20000 in
theorem fx_17_8 {L : Int} : (GM L).2 17 8 = some 21 := rfl
set_option maxRecDepth 20000 in
theorem fx_17_9 {L : Int} : (GM L).2 17 9 = some 22 := rfl
set_option maxRecDepth 20000 in
theorem fx_17_10 {L : Int} : (GM L).2 17 10 = some 23 := rfl
set_option maxRecDepth 20000 in
theorem fx_17_11 {L : Int} : (GM L).2 17 11 = some 24 := rfl
set_option maxRecDepth 20000 in
theorem fx_17_12 {L : Int} : (GM L).2 17 12 = some 25 := rfl
set_option maxRecDepth 20000 in
theorem fx_17_13 {L : Int} : (GM L).2 17 13 = some 27 := rfl
set_option maxRecDepth 20000 in
theorem fx_17_14 {L : Int} : (GM L).2 17 14 = some 29 := rfl
set_option maxRecDepth 20000 in
theorem ar_18 {L : Int} : zv_ar (GM L) 18 .int 7 := gm_ar L 18 .int 7 rfl rfl
set_option maxRecDepth 20000 in
theorem ar_19 {L : Int} : zv_ar (GM L) 19 .int 7 := gm_ar L 19 .int 7 rfl rfl
set_option maxRecDepth 20000 in
theorem ar_20 {L : Int} : zv_ar (GM L) 20 .int 7 := gm_ar L 20 .int 7 rfl rfl
set_option maxRecDepth 20000 in
theorem ar_21 {L : Int} : zv_ar (GM L) 21 .int 7 := gm_ar L 21 .int 7 rfl rfl
set_option maxRecDepth 20000 in
theorem ar_22 {L : Int} : zv_ar (GM L) 22 .int 6 := gm_ar L 22 .int 6 rfl rfl
set_option maxRecDepth 20000 in
theorem ar_23 {L : Int} : zv_ar (GM L) 23 .int 6 := gm_ar L 23 .int 6 rfl rfl
set_option maxRecDepth 20000 in
theorem ar_24 {L : Int} : zv_ar (GM L) 24 .int 6 := gm_ar L 24 .int 6 rfl rfl
set_option maxRecDepth 20000 in
theorem ob_25 {L : Int} : zv_ob (GM L) 25 1 := rfl
set_option maxRecDepth 20000 in
theorem fx_25_0 {L : Int} : (GM L).2 25 0 = some 26 := rfl
set_option maxRecDepth 20000 in
theorem fx_25_1 {L : Int} : (GM L).2 25 1 = none := rfl
set_option maxRecDepth 20000 in
theorem ar_26 {L : Int} : zv_ar (GM L) 26 .int 1600 := gm_ar L 26 .int 1600 rfl rfl
set_option maxRecDepth 20000 in
theorem ob_27 {L : Int} : zv_ob (GM L) 27 1 := rfl
set_option maxRecDepth 20000 in
theorem fx_27_0 {L : Int} : (GM L).2 27 0 = some 28 := rfl
set_option maxRecDepth 20000 in
theorem fx_27_1 {L : Int} : (GM L).2 27 1 = none := rfl
set_option maxRecDepth 20000 in
theorem ar_28 {L : Int} : zv_ar (GM L) 28 .int 1600 := gm_ar L 28 .int 1600 rfl rfl
set_option maxRecDepth 20000 in
theorem ar_29 {L : Int} : zv_ar (GM L) 29 .int 49 := gm_ar L 29 .int 49 rfl rfl
set_option maxRecDepth 20000 in
theorem ob_30 {L : Int} : zv_ob (GM L) 30 8 := rfl
set_option maxRecDepth 20000 in
theorem fx_30_0 {L : Int} : (GM L).2 30 0 = none := rfl
set_option maxRecDepth 20000 in
theorem fx_30_1 {L : Int} : (GM L).2 30 1 = some 31 := rfl
set_option maxRecDepth 20000 in
theorem fx_30_2 {L : Int} : (GM L).2 30 2 = some 32 := rfl
set_option maxRecDepth 20000 in
theorem fx_30_3 {L : Int} : (GM L).2 30 3 = some 33 := rfl
set_option maxRecDepth 20000 in
theorem fx_30_4 {L : Int} : (GM L).2 30 4 = some 34 := rfl
set_option maxRecDepth 20000 in
theorem fx_30_5 {L : Int} : (GM L).2 30 5 = some 35 := rfl
set_option maxRecDepth 20000 in
theorem fx_30_6 {L : Int} : (GM L).2 30 6 = some 36 := rfl
set_option maxRecDepth 20000 in
theorem fx_30_7 {L : Int} : (GM L).2 30 7 = some 37 := rfl
set_option maxRecDepth 20000 in
theorem fx_30_8 {L : Int} : (GM L).2 30 8 = some 38 := rfl
set_option maxRecDepth 20000 in
theorem fx_30_9 {L : Int} : (GM L).2 30 9 = some 39 := rfl
set_option maxRecDepth 20000 in
theorem fx_30_10 {L : Int} : (GM L).2 30 10 = some 40 := rfl
set_option maxRecDepth 20000 in
theorem fx_30_11 {L : Int} : (GM L).2 30 11 = none := rfl
set_option maxRecDepth 20000 in
theorem fx_30_12 {L : Int} : (GM L).2 30 12 = none := rfl
set_option maxRecDepth 20000 in
theorem ar_31 {L : Int} : zv_ar (GM L) 31 .int 7 := gm_ar L 31 .int 7 rfl rfl
set_option maxRecDepth 20000 in
theorem ar_32 {L : Int} : zv_ar (GM L) 32 .int 7 := gm_ar L 32 .int 7 rfl rfl
set_option maxRecDepth 20000 in
theorem ar_33 {L : Int} : zv_ar (GM L) 33 .int 7 := gm_ar L 33 .int 7 rfl rfl
set_option maxRecDepth 20000 in
theorem ar_34 {L : Int} : zv_ar (GM L) 34 .int 6 := gm_ar L 34 .int 6 rfl rfl
set_option maxRecDepth 20000 in
theorem ar_35 {L : Int} : zv_ar (GM L) 35 .int 6 := gm_ar L 35 .int 6 rfl rfl
set_option maxRecDepth 20000 in
theorem ar_36 {L : Int} : zv_ar (GM L) 36 .int 6 := gm_ar L 36 .int 6 rfl rfl
set_option maxRecDepth 20000 in
theorem ar_37 {L : Int} : zv_ar (GM L) 37 .int 6 := gm_ar L 37 .int 6 rfl rfl
set_option maxRecDepth 20000 in
theorem ar_38 {L : Int} : zv_ar (GM L) 38 .int 6 := gm_ar L 38 .int 6 rfl rfl
set_option maxRecDepth 20000 in
theorem ar_39 {L : Int} : zv_ar (GM L) 39 .int 42 := gm_ar L 39 .int 42 rfl rfl
set_option maxRecDepth 20000 in
theorem ar_40 {L : Int} : zv_ar (GM L) 40 .int 60 := gm_ar L 40 .int 60 rfl rfl
set_option maxRecDepth 20000 in
theorem ob_41 {L : Int} : zv_ob (GM L) 41 8 := rfl
set_option maxRecDepth 20000 in
theorem fx_41_0 {L : Int} : (GM L).2 41 0 = none := rfl
set_option maxRecDepth 20000 in
theorem fx_41_1 {L : Int} : (GM L).2 41 1 = some 42 := rfl
set_option maxRecDepth 20000 in
theorem fx_41_2 {L : Int} : (GM L).2 41 2 = some 43 := rfl
set_option maxRecDepth 20000 in
theorem fx_41_3 {L : Int} : (GM L).2 41 3 = some 44 := rfl
set_option maxRecDepth 20000 in
theorem fx_41_4 {L : Int} : (GM L).2 41 4 = some 45 := rfl
set_option maxRecDepth 20000 in
theorem fx_41_5 {L : Int} : (GM L).2 41 5 = some 46 := rfl
set_option maxRecDepth 20000 in
theorem fx_41_6 {L : Int} : (GM L).2 41 6 = some 47 := rfl
set_option maxRecDepth 20000 in
theorem fx_41_7 {L : Int} : (GM L).2 41 7 = some 48 := rfl
set_option maxRecDepth 20000 in
theorem fx_41_8 {L : Int} : (GM L).2 41 8 = some 49 := rfl
set_option maxRecDepth 20000 in
theorem fx_41_9 {L : Int} : (GM L).2 41 9 = some 50 := rfl
set_option maxRecDepth 20000 in
theorem fx_41_10 {L : Int} : (GM L).2 41 10 = some 51 := rfl
set_option maxRecDepth 20000 in
theorem fx_41_11 {L : Int} : (GM L).2 41 11 = none := rfl
set_option maxRecDepth 20000 in
theorem fx_41_12 {L : Int} : (GM L).2 41 12 = none := rfl
set_option maxRecDepth 20000 in
theorem ar_42 {L : Int} : zv_ar (GM L) 42 .int 7 := gm_ar L 42 .int 7 rfl rfl
set_option maxRecDepth 20000 in
theorem ar_43 {L : Int} : zv_ar (GM L) 43 .int 7 := gm_ar L 43 .int 7 rfl rfl
set_option maxRecDepth 20000 in
theorem ar_44 {L : Int} : zv_ar (GM L) 44 .int 7 := gm_ar L 44 .int 7 rfl rfl
set_option maxRecDepth 20000 in
theorem ar_45 {L : Int} : zv_ar (GM L) 45 .int 6 := gm_ar L 45 .int 6 rfl rfl
set_option maxRecDepth 20000 in
theorem ar_46 {L : Int} : zv_ar (GM L) 46 .int 6 := gm_ar L 46 .int 6 rfl rfl
set_option maxRecDepth 20000 in
theorem ar_47 {L : Int} : zv_ar (GM L) 47 .int 6 := gm_ar L 47 .int 6 rfl rfl
set_option maxRecDepth 20000 in
theorem ar_48 {L : Int} : zv_ar (GM L) 48 .int 6 := gm_ar L 48 .int 6 rfl rfl
set_option maxRecDepth 20000 in
theorem ar_49 {L : Int} : zv_ar (GM L) 49 .int 6 := gm_ar L 49 .int 6 rfl rfl
set_option maxRecDepth 20000 in
theorem ar_50 {L : Int} : zv_ar (GM L) 50 .int 42 := gm_ar L 50 .int 42 rfl rfl
set_option maxRecDepth 20000 in
theorem ar_51 {L : Int} : zv_ar (GM L) 51 .int 60 := gm_ar L 51 .int 60 rfl rfl
set_option maxRecDepth 20000 in
theorem ob_52 {L : Int} : zv_ob (GM L) 52 4 := rfl
set_option maxRecDepth 20000 in
theorem fx_52_0 {L : Int} : (GM L).2 52 0 = some 53 := rfl
set_option maxRecDepth 20000 in
theorem fx_52_1 {L : Int} : (GM L).2 52 1 = none := rfl
set_option maxRecDepth 20000 in
theorem fx_52_2 {L : Int} : (GM L).2 52 2 = none := rfl
set_option maxRecDepth 20000 in
theorem fx_52_3 {L : Int} : (GM L).2 52 3 = none := rfl
set_option maxRecDepth 20000 in
theorem fx_52_4 {L : Int} : (GM L).2 52 4 = none := rfl
set_option maxRecDepth 20000 in
theorem fx_52_5 {L : Int} : (GM L).2 52 5 = none := rfl
set_option maxRecDepth 20000 in
theorem fx_52_6 {L : Int} : (GM L).2 52 6 = none := rfl
set_option maxRecDepth 20000 in
theorem fx_52_7 {L : Int} : (GM L).2 52 7 = none := rfl
set_option maxRecDepth 20000 in
theorem fx_52_8 {L : Int} : (GM L).2 52 8 = none := rfl
set_option maxRecDepth 20000 in
theorem ob_53 {L : Int} : zv_ob (GM L) 53 7 := rfl
set_option maxRecDepth 20000 in
theorem fx_53_0 {L : Int} : (GM L).2 53 0 = some 2 := rfl
set_option maxRecDepth 20000 in
theorem fx_53_1 {L : Int} : (GM L).2 53 1 = some 54 := rfl
set_option maxRecDepth 20000 in
theorem fx_53_2 {L : Int} : (GM L).2 53 2 = none := rfl
set_option maxRecDepth 20000 in
theorem fx_53_3 {L : Int} : (GM L).2 53 3 = none := rfl
set_option maxRecDepth 20000 in
theorem fx_53_4 {L : Int} : (GM L).2 53 4 = none := rfl
set_option maxRecDepth 20000 in
theorem fx_53_5 {L : Int} : (GM L).2 53 5 = none := rfl
set_option maxRecDepth 20000 in
theorem fx_53_6 {L : Int} : (GM L).2 53 6 = none := rfl
set_option maxRecDepth 20000 in
theorem fx_53_7 {L : Int} : (GM L).2 53 7 = none := rfl
set_option maxRecDepth 20000 in
theorem fx_53_8 {L : Int} : (GM L).2 53 8 = none := rfl
set_option maxRecDepth 20000 in
theorem ar_54 {L : Int} : zv_ar (GM L) 54 .int 24 := gm_ar L 54 .int 24 rfl rfl
set_option maxRecDepth 20000 in
theorem ob_55 {L : Int} : zv_ob (GM L) 55 3 := rfl
set_option maxRecDepth 20000 in
theorem fx_55_0 {L : Int} : (GM L).2 55 0 = some 56 := rfl
set_option maxRecDepth 20000 in
theorem ob_56 {L : Int} : zv_ob (GM L) 56 5 := rfl
set_option maxRecDepth 20000 in
theorem fx_56_0 {L : Int} : (GM L).2 56 0 = some 57 := rfl
set_option maxRecDepth 20000 in
theorem fx_56_1 {L : Int} : (GM L).2 56 1 = none := rfl
set_option maxRecDepth 20000 in
theorem fx_56_2 {L : Int} : (GM L).2 56 2 = none := rfl
set_option maxRecDepth 20000 in
theorem fx_56_3 {L : Int} : (GM L).2 56 3 = none := rfl
set_option maxRecDepth 20000 in
theorem fx_56_4 {L : Int} : (GM L).2 56 4 = none := rfl
set_option maxRecDepth 20000 in
theorem fx_56_5 {L : Int} : (GM L).2 56 5 = none := rfl
set_option maxRecDepth 20000 in
theorem fx_56_6 {L : Int} : (GM L).2 56 6 = none := rfl
set_option maxRecDepth 20000 in
theorem fx_56_7 {L : Int} : (GM L).2 56 7 = none := rfl
set_option maxRecDepth 20000 in
theorem fx_56_8 {L : Int} : (GM L).2 56 8 = none := rfl
set_option maxRecDepth 20000 in
theorem ar_57 {L : Int} : zv_ar (GM L) 57 .long 64 := gm_ar L 57 .long 64 rfl rfl
set_option maxRecDepth 20000 in
theorem ob_58 {L : Int} : zv_ob (GM L) 58 6 := rfl
set_option maxRecDepth 20000 in
theorem fx_58_0 {L : Int} : (GM L).2 58 0 = some 59 := rfl
set_option maxRecDepth 20000 in
theorem fx_58_1 {L : Int} : (GM L).2 58 1 = none := rfl
set_option maxRecDepth 20000 in
theorem fx_58_2 {L : Int} : (GM L).2 58 2 = none := rfl
set_option maxRecDepth 20000 in
theorem fx_58_3 {L : Int} : (GM L).2 58 3 = none := rfl
set_option maxRecDepth 20000 in
theorem fx_58_4 {L : Int} : (GM L).2 58 4 = some 60 := rfl
set_option maxRecDepth 20000 in
theorem fx_58_5 {L : Int} : (GM L).2 58 5 = some 61 := rfl
set_option maxRecDepth 20000 in
theorem fx_58_6 {L : Int} : (GM L).2 58 6 = none := rfl
set_option maxRecDepth 20000 in
theorem fx_58_7 {L : Int} : (GM L).2 58 7 = none := rfl
set_option maxRecDepth 20000 in
theorem fx_58_8 {L : Int} : (GM L).2 58 8 = none := rfl
set_option maxRecDepth 20000 in
theorem ar_59 {L : Int} : zv_ar (GM L) 59 .int 4 := gm_ar L 59 .int 4 rfl rfl
set_option maxRecDepth 20000 in
theorem ar_60 {L : Int} : zv_ar (GM L) 60 .int 4 := gm_ar L 60 .int 4 rfl rfl
set_option maxRecDepth 20000 in
theorem ar_61 {L : Int} : zv_ar (GM L) 61 .int 4 := gm_ar L 61 .int 4 rfl rfl
set_option maxRecDepth 20000 in
theorem ob_62 {L : Int} : zv_ob (GM L) 62 0 := rfl
set_option maxRecDepth 20000 in
theorem fx_62_0 {L : Int} : (GM L).2 62 0 = some 63 := rfl
set_option maxRecDepth 20000 in
theorem fx_62_1 {L : Int} : (GM L).2 62 1 = none := rfl
set_option maxRecDepth 20000 in
theorem fx_62_2 {L : Int} : (GM L).2 62 2 = none := rfl
set_option maxRecDepth 20000 in
theorem sh_63 {L : Int} : zv_sh (GM L) 63 = some (.inr (.object "NineTimes$State", 20)) := rfl
set_option maxRecDepth 20000 in
theorem ob_64 {L : Int} : zv_ob (GM L) 64 8 := rfl
set_option maxRecDepth 20000 in
theorem fx_64_0 {L : Int} : (GM L).2 64 0 = none := rfl
set_option maxRecDepth 20000 in
theorem fx_64_1 {L : Int} : (GM L).2 64 1 = some 65 := rfl
set_option maxRecDepth 20000 in
theorem fx_64_2 {L : Int} : (GM L).2 64 2 = some 66 := rfl
set_option maxRecDepth 20000 in
theorem fx_64_3 {L : Int} : (GM L).2 64 3 = some 67 := rfl
set_option maxRecDepth 20000 in
theorem fx_64_4 {L : Int} : (GM L).2 64 4 = some 68 := rfl
set_option maxRecDepth 20000 in
theorem fx_64_5 {L : Int} : (GM L).2 64 5 = some 69 := rfl
set_option maxRecDepth 20000 in
theorem fx_64_6 {L : Int} : (GM L).2 64 6 = some 70 := rfl
set_option maxRecDepth 20000 in
theorem fx_64_7 {L : Int} : (GM L).2 64 7 = some 71 := rfl
set_option maxRecDepth 20000 in
theorem fx_64_8 {L : Int} : (GM L).2 64 8 = some 72 := rfl
set_option maxRecDepth 20000 in
theorem fx_64_9 {L : Int} : (GM L).2 64 9 = some 73 := rfl
set_option maxRecDepth 20000 in
theorem fx_64_10 {L : Int} : (GM L).2 64 10 = some 74 := rfl
set_option maxRecDepth 20000 in
theorem fx_64_11 {L : Int} : (GM L).2 64 11 = none := rfl
set_option maxRecDepth 20000 in
theorem fx_64_12 {L : Int} : (GM L).2 64 12 = none := rfl
set_option maxRecDepth 20000 in
theorem ar_65 {L : Int} : zv_ar (GM L) 65 .int 7 := gm_ar L 65 .int 7 rfl rfl
set_option maxRecDepth 20000 in
theorem ar_66 {L : Int} : zv_ar (GM L) 66 .int 7 := gm_ar L 66 .int 7 rfl rfl
set_option maxRecDepth 20000 in
theorem ar_67 {L : Int} : zv_ar (GM L) 67 .int 7 := gm_ar L 67 .int 7 rfl rfl
set_option maxRecDepth 20000 in
theorem ar_68 {L : Int} : zv_ar (GM L) 68 .int 6 := gm_ar L 68 .int 6 rfl rfl
set_option maxRecDepth 20000 in
theorem ar_69 {L : Int} : zv_ar (GM L) 69 .int 6 := gm_ar L 69 .int 6 rfl rfl
set_option maxRecDepth 20000 in
theorem ar_70 {L : Int} : zv_ar (GM L) 70 .int 6 := gm_ar L 70 .int 6 rfl rfl
set_option maxRecDepth 20000 in
theorem ar_71 {L : Int} : zv_ar (GM L) 71 .int 6 := gm_ar L 71 .int 6 rfl rfl
set_option maxRecDepth 20000 in
theorem ar_72 {L : Int} : zv_ar (GM L) 72 .int 6 := gm_ar L 72 .int 6 rfl rfl
set_option maxRecDepth 20000 in
theorem ar_73 {L : Int} : zv_ar (GM L) 73 .int 42 := gm_ar L 73 .int 42 rfl rfl
set_option maxRecDepth 20000 in
theorem ar_74 {L : Int} : zv_ar (GM L) 74 .int 60 := gm_ar L 74 .int 60 rfl rfl
set_option maxRecDepth 20000 in
theorem ob_75 {L : Int} : zv_ob (GM L) 75 8 := rfl
set_option maxRecDepth 20000 in
theorem fx_75_0 {L : Int} : (GM L).2 75 0 = none := rfl
set_option maxRecDepth 20000 in
theorem fx_75_1 {L : Int} : (GM L).2 75 1 = some 76 := rfl
set_option maxRecDepth 20000 in
theorem fx_75_2 {L : Int} : (GM L).2 75 2 = some 77 := rfl
set_option maxRecDepth 20000 in
theorem fx_75_3 {L : Int} : (GM L).2 75 3 = some 78 := rfl
set_option maxRecDepth 20000 in
theorem fx_75_4 {L : Int} : (GM L).2 75 4 = some 79 := rfl
set_option maxRecDepth 20000 in
theorem fx_75_5 {L : Int} : (GM L).2 75 5 = some 80 := rfl
set_option maxRecDepth 20000 in
theorem fx_75_6 {L : Int} : (GM L).2 75 6 = some 81 := rfl
set_option maxRecDepth 20000 in
theorem fx_75_7 {L : Int} : (GM L).2 75 7 = some 82 := rfl
set_option maxRecDepth 20000 in
theorem fx_75_8 {L : Int} : (GM L).2 75 8 = some 83 := rfl
set_option maxRecDepth 20000 in
theorem fx_75_9 {L : Int} : (GM L).2 75 9 = some 84 := rfl
set_option maxRecDepth 20000 in
theorem fx_75_10 {L : Int} : (GM L).2 75 10 = some 85 := rfl
set_option maxRecDepth 20000 in
theorem fx_75_11 {L : Int} : (GM L).2 75 11 = none := rfl
set_option maxRecDepth 20000 in
theorem fx_75_12 {L : Int} : (GM L).2 75 12 = none := rfl
set_option maxRecDepth 20000 in
theorem ar_76 {L : Int} : zv_ar (GM L) 76 .int 7 := gm_ar L 76 .int 7 rfl rfl
set_option maxRecDepth 20000 in
theorem ar_77 {L : Int} : zv_ar (GM L) 77 .int 7 := gm_ar L 77 .int 7 rfl rfl
set_option maxRecDepth 20000 in
theorem ar_78 {L : Int} : zv_ar (GM L) 78 .int 7 := gm_ar L 78 .int 7 rfl rfl
set_option maxRecDepth 20000 in
theorem ar_79 {L : Int} : zv_ar (GM L) 79 .int 6 := gm_ar L 79 .int 6 rfl rfl
set_option maxRecDepth 20000 in
theorem ar_80 {L : Int} : zv_ar (GM L) 80 .int 6 := gm_ar L 80 .int 6 rfl rfl
set_option maxRecDepth 20000 in
theorem ar_81 {L : Int} : zv_ar (GM L) 81 .int 6 := gm_ar L 81 .int 6 rfl rfl
set_option maxRecDepth 20000 in
theorem ar_82 {L : Int} : zv_ar (GM L) 82 .int 6 := gm_ar L 82 .int 6 rfl rfl
set_option maxRecDepth 20000 in
theorem ar_83 {L : Int} : zv_ar (GM L) 83 .int 6 := gm_ar L 83 .int 6 rfl rfl
set_option maxRecDepth 20000 in
theorem ar_84 {L : Int} : zv_ar (GM L) 84 .int 42 := gm_ar L 84 .int 42 rfl rfl
set_option maxRecDepth 20000 in
theorem ar_85 {L : Int} : zv_ar (GM L) 85 .int 60 := gm_ar L 85 .int 60 rfl rfl
set_option maxRecDepth 20000 in
theorem ob_86 {L : Int} : zv_ob (GM L) 86 8 := rfl
set_option maxRecDepth 20000 in
theorem fx_86_0 {L : Int} : (GM L).2 86 0 = none := rfl
set_option maxRecDepth 20000 in
theorem fx_86_1 {L : Int} : (GM L).2 86 1 = some 87 := rfl
set_option maxRecDepth 20000 in
theorem fx_86_2 {L : Int} : (GM L).2 86 2 = some 88 := rfl
set_option maxRecDepth 20000 in
theorem fx_86_3 {L : Int} : (GM L).2 86 3 = some 89 := rfl
set_option maxRecDepth 20000 in
theorem fx_86_4 {L : Int} : (GM L).2 86 4 = some 90 := rfl
set_option maxRecDepth 20000 in
theorem fx_86_5 {L : Int} : (GM L).2 86 5 = some 91 := rfl
set_option maxRecDepth 20000 in
theorem fx_86_6 {L : Int} : (GM L).2 86 6 = some 92 := rfl
set_option maxRecDepth 20000 in
theorem fx_86_7 {L : Int} : (GM L).2 86 7 = some 93 := rfl
set_option maxRecDepth 20000 in
theorem fx_86_8 {L : Int} : (GM L).2 86 8 = some 94 := rfl
set_option maxRecDepth 20000 in
theorem fx_86_9 {L : Int} : (GM L).2 86 9 = some 95 := rfl
set_option maxRecDepth 20000 in
theorem fx_86_10 {L : Int} : (GM L).2 86 10 = some 96 := rfl
set_option maxRecDepth 20000 in
theorem fx_86_11 {L : Int} : (GM L).2 86 11 = none := rfl
set_option maxRecDepth 20000 in
theorem fx_86_12 {L : Int} : (GM L).2 86 12 = none := rfl
set_option maxRecDepth 20000 in
theorem ar_87 {L : Int} : zv_ar (GM L) 87 .int 7 := gm_ar L 87 .int 7 rfl rfl
set_option maxRecDepth 20000 in
theorem ar_88 {L : Int} : zv_ar (GM L) 88 .int 7 := gm_ar L 88 .int 7 rfl rfl
set_option maxRecDepth 20000 in
theorem ar_89 {L : Int} : zv_ar (GM L) 89 .int 7 := gm_ar L 89 .int 7 rfl rfl
set_option maxRecDepth 20000 in
theorem ar_90 {L : Int} : zv_ar (GM L) 90 .int 6 := gm_ar L 90 .int 6 rfl rfl
set_option maxRecDepth 20000 in
theorem ar_91 {L : Int} : zv_ar (GM L) 91 .int 6 := gm_ar L 91 .int 6 rfl rfl
set_option maxRecDepth 20000 in
theorem ar_92 {L : Int} : zv_ar (GM L) 92 .int 6 := gm_ar L 92 .int 6 rfl rfl
set_option maxRecDepth 20000 in
theorem ar_93 {L : Int} : zv_ar (GM L) 93 .int 6 := gm_ar L 93 .int 6 rfl rfl
set_option maxRecDepth 20000 in
theorem ar_94 {L : Int} : zv_ar (GM L) 94 .int 6 := gm_ar L 94 .int 6 rfl rfl
set_option maxRecDepth 20000 in
theorem ar_95 {L : Int} : zv_ar (GM L) 95 .int 42 := gm_ar L 95 .int 42 rfl rfl
set_option maxRecDepth 20000 in
theorem ar_96 {L : Int} : zv_ar (GM L) 96 .int 60 := gm_ar L 96 .int 60 rfl rfl
set_option maxRecDepth 20000 in
theorem ob_97 {L : Int} : zv_ob (GM L) 97 8 := rfl
set_option maxRecDepth 20000 in
theorem fx_97_0 {L : Int} : (GM L).2 97 0 = none := rfl
set_option maxRecDepth 20000 in
theorem fx_97_1 {L : Int} : (GM L).2 97 1 = some 98 := rfl
set_option maxRecDepth 20000 in
theorem fx_97_2 {L : Int} : (GM L).2 97 2 = some 99 := rfl
set_option maxRecDepth 20000 in
theorem fx_97_3 {L : Int} : (GM L).2 97 3 = some 100 := rfl
set_option maxRecDepth 20000 in
theorem fx_97_4 {L : Int} : (GM L).2 97 4 = some 101 := rfl
set_option maxRecDepth 20000 in
theorem fx_97_5 {L : Int} : (GM L).2 97 5 = some 102 := rfl
set_option maxRecDepth 20000 in
theorem fx_97_6 {L : Int} : (GM L).2 97 6 = some 103 := rfl
set_option maxRecDepth 20000 in
theorem fx_97_7 {L : Int} : (GM L).2 97 7 = some 104 := rfl
set_option maxRecDepth 20000 in
theorem fx_97_8 {L : Int} : (GM L).2 97 8 = some 105 := rfl
set_option maxRecDepth 20000 in
theorem fx_97_9 {L : Int} : (GM L).2 97 9 = some 106 := rfl
set_option maxRecDepth 20000 in
theorem fx_97_10 {L : Int} : (GM L).2 97 10 = some 107 := rfl
set_option maxRecDepth 20000 in
theorem fx_97_11 {L : Int} : (GM L).2 97 11 = none := rfl
set_option maxRecDepth 20000 in
theorem fx_97_12 {L : Int} : (GM L).2 97 12 = none := rfl
set_option maxRecDepth 20000 in
theorem ar_98 {L : Int} : zv_ar (GM L) 98 .int 7 := gm_ar L 98 .int 7 rfl rfl
set_option maxRecDepth 20000 in
theorem ar_99 {L : Int} : zv_ar (GM L) 99 .int 7 := gm_ar L 99 .int 7 rfl rfl
set_option maxRecDepth 20000 in
theorem ar_100 {L : Int} : zv_ar (GM L) 100 .int 7 := gm_ar L 100 .int 7 rfl rfl
set_option maxRecDepth 20000 in
theorem ar_101 {L : Int} : zv_ar (GM L) 101 .int 6 := gm_ar L 101 .int 6 rfl rfl
set_option maxRecDepth 20000 in
theorem ar_102 {L : Int} : zv_ar (GM L) 102 .int 6 := gm_ar L 102 .int 6 rfl rfl
set_option maxRecDepth 20000 in
theorem ar_103 {L : Int} : zv_ar (GM L) 103 .int 6 := gm_ar L 103 .int 6 rfl rfl
set_option maxRecDepth 20000 in
theorem ar_104 {L : Int} : zv_ar (GM L) 104 .int 6 := gm_ar L 104 .int 6 rfl rfl
set_option maxRecDepth 20000 in
theorem ar_105 {L : Int} : zv_ar (GM L) 105 .int 6 := gm_ar L 105 .int 6 rfl rfl
set_option maxRecDepth 20000 in
theorem ar_106 {L : Int} : zv_ar (GM L) 106 .int 42 := gm_ar L 106 .int 42 rfl rfl
set_option maxRecDepth 20000 in
theorem ar_107 {L : Int} : zv_ar (GM L) 107 .int 60 := gm_ar L 107 .int 60 rfl rfl
set_option maxRecDepth 20000 in
theorem ob_108 {L : Int} : zv_ob (GM L) 108 8 := rfl
set_option maxRecDepth 20000 in
theorem fx_108_0 {L : Int} : (GM L).2 108 0 = none := rfl
set_option maxRecDepth 20000 in
theorem fx_108_1 {L : Int} : (GM L).2 108 1 = some 109 := rfl
set_option maxRecDepth 20000 in
theorem fx_108_2 {L : Int} : (GM L).2 108 2 = some 110 := rfl
set_option maxRecDepth 20000 in
theorem fx_108_3 {L : Int} : (GM L).2 108 3 = some 111 := rfl
set_option maxRecDepth 20000 in
theorem fx_108_4 {L : Int} : (GM L).2 108 4 = some 112 := rfl
set_option maxRecDepth 20000 in
theorem fx_108_5 {L : Int} : (GM L).2 108 5 = some 113 := rfl
set_option maxRecDepth 20000 in
theorem fx_108_6 {L : Int} : (GM L).2 108 6 = some 114 := rfl
set_option maxRecDepth 20000 in
theorem fx_108_7 {L : Int} : (GM L).2 108 7 = some 115 := rfl
set_option maxRecDepth 20000 in
theorem fx_108_8 {L : Int} : (GM L).2 108 8 = some 116 := rfl
set_option maxRecDepth 20000 in
theorem fx_108_9 {L : Int} : (GM L).2 108 9 = some 117 := rfl
set_option maxRecDepth 20000 in
theorem fx_108_10 {L : Int} : (GM L).2 108 10 = some 118 := rfl
set_option maxRecDepth 20000 in
theorem fx_108_11 {L : Int} : (GM L).2 108 11 = none := rfl
set_option maxRecDepth 20000 in
theorem fx_108_12 {L : Int} : (GM L).2 108 12 = none := rfl
set_option maxRecDepth 20000 in
theorem ar_109 {L : Int} : zv_ar (GM L) 109 .int 7 := gm_ar L 109 .int 7 rfl rfl
set_option maxRecDepth 20000 in
theorem ar_110 {L : Int} : zv_ar (GM L) 110 .int 7 := gm_ar L 110 .int 7 rfl rfl
set_option maxRecDepth 20000 in
theorem ar_111 {L : Int} : zv_ar (GM L) 111 .int 7 := gm_ar L 111 .int 7 rfl rfl
set_option maxRecDepth 20000 in
theorem ar_112 {L : Int} : zv_ar (GM L) 112 .int 6 := gm_ar L 112 .int 6 rfl rfl
set_option maxRecDepth 20000 in
theorem ar_113 {L : Int} : zv_ar (GM L) 113 .int 6 := gm_ar L 113 .int 6 rfl rfl
set_option maxRecDepth 20000 in
theorem ar_114 {L : Int} : zv_ar (GM L) 114 .int 6 := gm_ar L 114 .int 6 rfl rfl
set_option maxRecDepth 20000 in
theorem ar_115 {L : Int} : zv_ar (GM L) 115 .int 6 := gm_ar L 115 .int 6 rfl rfl
set_option maxRecDepth 20000 in
theorem ar_116 {L : Int} : zv_ar (GM L) 116 .int 6 := gm_ar L 116 .int 6 rfl rfl
set_option maxRecDepth 20000 in
theorem ar_117 {L : Int} : zv_ar (GM L) 117 .int 42 := gm_ar L 117 .int 42 rfl rfl
set_option maxRecDepth 20000 in
theorem ar_118 {L : Int} : zv_ar (GM L) 118 .int 60 := gm_ar L 118 .int 60 rfl rfl
set_option maxRecDepth 20000 in
theorem ob_119 {L : Int} : zv_ob (GM L) 119 8 := rfl
set_option maxRecDepth 20000 in
theorem fx_119_0 {L : Int} : (GM L).2 119 0 = none := rfl
set_option maxRecDepth 20000 in
theorem fx_119_1 {L : Int} : (GM L).2 119 1 = some 120 := rfl
set_option maxRecDepth 20000 in
theorem fx_119_2 {L : Int} : (GM L).2 119 2 = some 121 := rfl
set_option maxRecDepth 20000 in
theorem fx_119_3 {L : Int} : (GM L).2 119 3 = some 122 := rfl
set_option maxRecDepth 20000 in
theorem fx_119_4 {L : Int} : (GM L).2 119 4 = some 123 := rfl
set_option maxRecDepth 20000 in
theorem fx_119_5 {L : Int} : (GM L).2 119 5 = some 124 := rfl
set_option maxRecDepth 20000 in
theorem fx_119_6 {L : Int} : (GM L).2 119 6 = some 125 := rfl
set_option maxRecDepth 20000 in
theorem fx_119_7 {L : Int} : (GM L).2 119 7 = some 126 := rfl
set_option maxRecDepth 20000 in
theorem fx_119_8 {L : Int} : (GM L).2 119 8 = some 127 := rfl
set_option maxRecDepth 20000 in
theorem fx_119_9 {L : Int} : (GM L).2 119 9 = some 128 := rfl
set_option maxRecDepth 20000 in
theorem fx_119_10 {L : Int} : (GM L).2 119 10 = some 129 := rfl
set_option maxRecDepth 20000 in
theorem fx_119_11 {L : Int} : (GM L).2 119 11 = none := rfl
set_option maxRecDepth 20000 in
theorem fx_119_12 {L : Int} : (GM L).2 119 12 = none := rfl
set_option maxRecDepth 20000 in
theorem ar_120 {L : Int} : zv_ar (GM L) 120 .int 7 := gm_ar L 120 .int 7 rfl rfl
set_option maxRecDepth 20000 in
theorem ar_121 {L : Int} : zv_ar (GM L) 121 .int 7 := gm_ar L 121 .int 7 rfl rfl
set_option maxRecDepth 20000 in
theorem ar_122 {L : Int} : zv_ar (GM L) 122 .int 7 := gm_ar L 122 .int 7 rfl rfl
set_option maxRecDepth 20000 in
theorem ar_123 {L : Int} : zv_ar (GM L) 123 .int 6 := gm_ar L 123 .int 6 rfl rfl
set_option maxRecDepth 20000 in
theorem ar_124 {L : Int} : zv_ar (GM L) 124 .int 6 := gm_ar L 124 .int 6 rfl rfl
set_option maxRecDepth 20000 in
theorem ar_125 {L : Int} : zv_ar (GM L) 125 .int 6 := gm_ar L 125 .int 6 rfl rfl
set_option maxRecDepth 20000 in
theorem ar_126 {L : Int} : zv_ar (GM L) 126 .int 6 := gm_ar L 126 .int 6 rfl rfl
set_option maxRecDepth 20000 in
theorem ar_127 {L : Int} : zv_ar (GM L) 127 .int 6 := gm_ar L 127 .int 6 rfl rfl
set_option maxRecDepth 20000 in
theorem ar_128 {L : Int} : zv_ar (GM L) 128 .int 42 := gm_ar L 128 .int 42 rfl rfl
set_option maxRecDepth 20000 in
theorem ar_129 {L : Int} : zv_ar (GM L) 129 .int 60 := gm_ar L 129 .int 60 rfl rfl
set_option maxRecDepth 20000 in
theorem ob_130 {L : Int} : zv_ob (GM L) 130 8 := rfl
set_option maxRecDepth 20000 in
theorem fx_130_0 {L : Int} : (GM L).2 130 0 = none := rfl
set_option maxRecDepth 20000 in
theorem fx_130_1 {L : Int} : (GM L).2 130 1 = some 131 := rfl
set_option maxRecDepth 20000 in
theorem fx_130_2 {L : Int} : (GM L).2 130 2 = some 132 := rfl
set_option maxRecDepth 20000 in
theorem fx_130_3 {L : Int} : (GM L).2 130 3 = some 133 := rfl
set_option maxRecDepth 20000 in
theorem fx_130_4 {L : Int} : (GM L).2 130 4 = some 134 := rfl
set_option maxRecDepth 20000 in
theorem fx_130_5 {L : Int} : (GM L).2 130 5 = some 135 := rfl
set_option maxRecDepth 20000 in
theorem fx_130_6 {L : Int} : (GM L).2 130 6 = some 136 := rfl
set_option maxRecDepth 20000 in
theorem fx_130_7 {L : Int} : (GM L).2 130 7 = some 137 := rfl
set_option maxRecDepth 20000 in
theorem fx_130_8 {L : Int} : (GM L).2 130 8 = some 138 := rfl
set_option maxRecDepth 20000 in
theorem fx_130_9 {L : Int} : (GM L).2 130 9 = some 139 := rfl
set_option maxRecDepth 20000 in
theorem fx_130_10 {L : Int} : (GM L).2 130 10 = some 140 := rfl
set_option maxRecDepth 20000 in
theorem fx_130_11 {L : Int} : (GM L).2 130 11 = none := rfl
set_option maxRecDepth 20000 in
theorem fx_130_12 {L : Int} : (GM L).2 130 12 = none := rfl
set_option maxRecDepth 20000 in
theorem ar_131 {L : Int} : zv_ar (GM L) 131 .int 7 := gm_ar L 131 .int 7 rfl rfl
set_option maxRecDepth 20000 in
theorem ar_132 {L : Int} : zv_ar (GM L) 132 .int 7 := gm_ar L 132 .int 7 rfl rfl
set_option maxRecDepth 20000 in
theorem ar_133 {L : Int} : zv_ar (GM L) 133 .int 7 := gm_ar L 133 .int 7 rfl rfl
set_option maxRecDepth 20000 in
theorem ar_134 {L : Int} : zv_ar (GM L) 134 .int 6 := gm_ar L 134 .int 6 rfl rfl
set_option maxRecDepth 20000 in
theorem ar_135 {L : Int} : zv_ar (GM L) 135 .int 6 := gm_ar L 135 .int 6 rfl rfl
set_option maxRecDepth 20000 in
theorem ar_136 {L : Int} : zv_ar (GM L) 136 .int 6 := gm_ar L 136 .int 6 rfl rfl
set_option maxRecDepth 20000 in
theorem ar_137 {L : Int} : zv_ar (GM L) 137 .int 6 := gm_ar L 137 .int 6 rfl rfl
set_option maxRecDepth 20000 in
theorem ar_138 {L : Int} : zv_ar (GM L) 138 .int 6 := gm_ar L 138 .int 6 rfl rfl
set_option maxRecDepth 20000 in
theorem ar_139 {L : Int} : zv_ar (GM L) 139 .int 42 := gm_ar L 139 .int 42 rfl rfl
set_option maxRecDepth 20000 in
theorem ar_140 {L : Int} : zv_ar (GM L) 140 .int 60 := gm_ar L 140 .int 60 rfl rfl
set_option maxRecDepth 20000 in
theorem ob_141 {L : Int} : zv_ob (GM L) 141 8 := rfl
set_option maxRecDepth 20000 in
theorem fx_141_0 {L : Int} : (GM L).2 141 0 = none := rfl
set_option maxRecDepth 20000 in
theorem fx_141_1 {L : Int} : (GM L).2 141 1 = some 142 := rfl
set_option maxRecDepth 20000 in
theorem fx_141_2 {L : Int} : (GM L).2 141 2 = some 143 := rfl
set_option maxRecDepth 20000 in
theorem fx_141_3 {L : Int} : (GM L).2 141 3 = some 144 := rfl
set_option maxRecDepth 20000 in
theorem fx_141_4 {L : Int} : (GM L).2 141 4 = some 145 := rfl
set_option maxRecDepth 20000 in
theorem fx_141_5 {L : Int} : (GM L).2 141 5 = some 146 := rfl
set_option maxRecDepth 20000 in
theorem fx_141_6 {L : Int} : (GM L).2 141 6 = some 147 := rfl
set_option maxRecDepth 20000 in
theorem fx_141_7 {L : Int} : (GM L).2 141 7 = some 148 := rfl
set_option maxRecDepth 20000 in
theorem fx_141_8 {L : Int} : (GM L).2 141 8 = some 149 := rfl
set_option maxRecDepth 20000 in
theorem fx_141_9 {L : Int} : (GM L).2 141 9 = some 150 := rfl
set_option maxRecDepth 20000 in
theorem fx_141_10 {L : Int} : (GM L).2 141 10 = some 151 := rfl
set_option maxRecDepth 20000 in
theorem fx_141_11 {L : Int} : (GM L).2 141 11 = none := rfl
set_option maxRecDepth 20000 in
theorem fx_141_12 {L : Int} : (GM L).2 141 12 = none := rfl
set_option maxRecDepth 20000 in
theorem ar_142 {L : Int} : zv_ar (GM L) 142 .int 7 := gm_ar L 142 .int 7 rfl rfl
set_option maxRecDepth 20000 in
theorem ar_143 {L : Int} : zv_ar (GM L) 143 .int 7 := gm_ar L 143 .int 7 rfl rfl
set_option maxRecDepth 20000 in
theorem ar_144 {L : Int} : zv_ar (GM L) 144 .int 7 := gm_ar L 144 .int 7 rfl rfl
set_option maxRecDepth 20000 in
theorem ar_145 {L : Int} : zv_ar (GM L) 145 .int 6 := gm_ar L 145 .int 6 rfl rfl
set_option maxRecDepth 20000 in
theorem ar_146 {L : Int} : zv_ar (GM L) 146 .int 6 := gm_ar L 146 .int 6 rfl rfl
set_option maxRecDepth 20000 in
theorem ar_147 {L : Int} : zv_ar (GM L) 147 .int 6 := gm_ar L 147 .int 6 rfl rfl
set_option maxRecDepth 20000 in
theorem ar_148 {L : Int} : zv_ar (GM L) 148 .int 6 := gm_ar L 148 .int 6 rfl rfl
set_option maxRecDepth 20000 in
theorem ar_149 {L : Int} : zv_ar (GM L) 149 .int 6 := gm_ar L 149 .int 6 rfl rfl
set_option maxRecDepth 20000 in
theorem ar_150 {L : Int} : zv_ar (GM L) 150 .int 42 := gm_ar L 150 .int 42 rfl rfl
set_option maxRecDepth 20000 in
theorem ar_151 {L : Int} : zv_ar (GM L) 151 .int 60 := gm_ar L 151 .int 60 rfl rfl
set_option maxRecDepth 20000 in
theorem ob_152 {L : Int} : zv_ob (GM L) 152 8 := rfl
set_option maxRecDepth 20000 in
theorem fx_152_0 {L : Int} : (GM L).2 152 0 = none := rfl
set_option maxRecDepth 20000 in
theorem fx_152_1 {L : Int} : (GM L).2 152 1 = some 153 := rfl
set_option maxRecDepth 20000 in
theorem fx_152_2 {L : Int} : (GM L).2 152 2 = some 154 := rfl
set_option maxRecDepth 20000 in
theorem fx_152_3 {L : Int} : (GM L).2 152 3 = some 155 := rfl
set_option maxRecDepth 20000 in
theorem fx_152_4 {L : Int} : (GM L).2 152 4 = some 156 := rfl
set_option maxRecDepth 20000 in
theorem fx_152_5 {L : Int} : (GM L).2 152 5 = some 157 := rfl
set_option maxRecDepth 20000 in
theorem fx_152_6 {L : Int} : (GM L).2 152 6 = some 158 := rfl
set_option maxRecDepth 20000 in
theorem fx_152_7 {L : Int} : (GM L).2 152 7 = some 159 := rfl
set_option maxRecDepth 20000 in
theorem fx_152_8 {L : Int} : (GM L).2 152 8 = some 160 := rfl
set_option maxRecDepth 20000 in
theorem fx_152_9 {L : Int} : (GM L).2 152 9 = some 161 := rfl
set_option maxRecDepth 20000 in
theorem fx_152_10 {L : Int} : (GM L).2 152 10 = some 162 := rfl
set_option maxRecDepth 20000 in
theorem fx_152_11 {L : Int} : (GM L).2 152 11 = none := rfl
set_option maxRecDepth 20000 in
theorem fx_152_12 {L : Int} : (GM L).2 152 12 = none := rfl
set_option maxRecDepth 20000 in
theorem ar_153 {L : Int} : zv_ar (GM L) 153 .int 7 := gm_ar L 153 .int 7 rfl rfl
set_option maxRecDepth 20000 in
theorem ar_154 {L : Int} : zv_ar (GM L) 154 .int 7 := gm_ar L 154 .int 7 rfl rfl
set_option maxRecDepth 20000 in
theorem ar_155 {L : Int} : zv_ar (GM L) 155 .int 7 := gm_ar L 155 .int 7 rfl rfl
set_option maxRecDepth 20000 in
theorem ar_156 {L : Int} : zv_ar (GM L) 156 .int 6 := gm_ar L 156 .int 6 rfl rfl
set_option maxRecDepth 20000 in
theorem ar_157 {L : Int} : zv_ar (GM L) 157 .int 6 := gm_ar L 157 .int 6 rfl rfl
set_option maxRecDepth 20000 in
theorem ar_158 {L : Int} : zv_ar (GM L) 158 .int 6 := gm_ar L 158 .int 6 rfl rfl
set_option maxRecDepth 20000 in
theorem ar_159 {L : Int} : zv_ar (GM L) 159 .int 6 := gm_ar L 159 .int 6 rfl rfl
set_option maxRecDepth 20000 in
theorem ar_160 {L : Int} : zv_ar (GM L) 160 .int 6 := gm_ar L 160 .int 6 rfl rfl
set_option maxRecDepth 20000 in
theorem ar_161 {L : Int} : zv_ar (GM L) 161 .int 42 := gm_ar L 161 .int 42 rfl rfl
set_option maxRecDepth 20000 in
theorem ar_162 {L : Int} : zv_ar (GM L) 162 .int 60 := gm_ar L 162 .int 60 rfl rfl
set_option maxRecDepth 20000 in
theorem ob_163 {L : Int} : zv_ob (GM L) 163 8 := rfl
set_option maxRecDepth 20000 in
theorem fx_163_0 {L : Int} : (GM L).2 163 0 = none := rfl
set_option maxRecDepth 20000 in
theorem fx_163_1 {L : Int} : (GM L).2 163 1 = some 164 := rfl
set_option maxRecDepth 20000 in
theorem fx_163_2 {L : Int} : (GM L).2 163 2 = some 165 := rfl
set_option maxRecDepth 20000 in
theorem fx_163_3 {L : Int} : (GM L).2 163 3 = some 166 := rfl
set_option maxRecDepth 20000 in
theorem fx_163_4 {L : Int} : (GM L).2 163 4 = some 167 := rfl
set_option maxRecDepth 20000 in
theorem fx_163_5 {L : Int} : (GM L).2 163 5 = some 168 := rfl
set_option maxRecDepth 20000 in
theorem fx_163_6 {L : Int} : (GM L).2 163 6 = some 169 := rfl
set_option maxRecDepth 20000 in
theorem fx_163_7 {L : Int} : (GM L).2 163 7 = some 170 := rfl
set_option maxRecDepth 20000 in
theorem fx_163_8 {L : Int} : (GM L).2 163 8 = some 171 := rfl
set_option maxRecDepth 20000 in
theorem fx_163_9 {L : Int} : (GM L).2 163 9 = some 172 := rfl
set_option maxRecDepth 20000 in
theorem fx_163_10 {L : Int} : (GM L).2 163 10 = some 173 := rfl
set_option maxRecDepth 20000 in
theorem fx_163_11 {L : Int} : (GM L).2 163 11 = none := rfl
set_option maxRecDepth 20000 in
theorem fx_163_12 {L : Int} : (GM L).2 163 12 = none := rfl
set_option maxRecDepth 20000 in
theorem ar_164 {L : Int} : zv_ar (GM L) 164 .int 7 := gm_ar L 164 .int 7 rfl rfl
set_option maxRecDepth 20000 in
theorem ar_165 {L : Int} : zv_ar (GM L) 165 .int 7 := gm_ar L 165 .int 7 rfl rfl
set_option maxRecDepth 20000 in
theorem ar_166 {L : Int} : zv_ar (GM L) 166 .int 7 := gm_ar L 166 .int 7 rfl rfl
set_option maxRecDepth 20000 in
theorem ar_167 {L : Int} : zv_ar (GM L) 167 .int 6 := gm_ar L 167 .int 6 rfl rfl
set_option maxRecDepth 20000 in
theorem ar_168 {L : Int} : zv_ar (GM L) 168 .int 6 := gm_ar L 168 .int 6 rfl rfl
set_option maxRecDepth 20000 in
theorem ar_169 {L : Int} : zv_ar (GM L) 169 .int 6 := gm_ar L 169 .int 6 rfl rfl
set_option maxRecDepth 20000 in
theorem ar_170 {L : Int} : zv_ar (GM L) 170 .int 6 := gm_ar L 170 .int 6 rfl rfl
set_option maxRecDepth 20000 in
theorem ar_171 {L : Int} : zv_ar (GM L) 171 .int 6 := gm_ar L 171 .int 6 rfl rfl
set_option maxRecDepth 20000 in
theorem ar_172 {L : Int} : zv_ar (GM L) 172 .int 42 := gm_ar L 172 .int 42 rfl rfl
set_option maxRecDepth 20000 in
theorem ar_173 {L : Int} : zv_ar (GM L) 173 .int 60 := gm_ar L 173 .int 60 rfl rfl
set_option maxRecDepth 20000 in
theorem ob_174 {L : Int} : zv_ob (GM L) 174 8 := rfl
set_option maxRecDepth 20000 in
theorem fx_174_0 {L : Int} : (GM L).2 174 0 = none := rfl
set_option maxRecDepth 20000 in
theorem fx_174_1 {L : Int} : (GM L).2 174 1 = some 175 := rfl
set_option maxRecDepth 20000 in
theorem fx_174_2 {L : Int} : (GM L).2 174 2 = some 176 := rfl
set_option maxRecDepth 20000 in
theorem fx_174_3 {L : Int} : (GM L).2 174 3 = some 177 := rfl
set_option maxRecDepth 20000 in
theorem fx_174_4 {L : Int} : (GM L).2 174 4 = some 178 := rfl
set_option maxRecDepth 20000 in
theorem fx_174_5 {L : Int} : (GM L).2 174 5 = some 179 := rfl
set_option maxRecDepth 20000 in
theorem fx_174_6 {L : Int} : (GM L).2 174 6 = some 180 := rfl
set_option maxRecDepth 20000 in
theorem fx_174_7 {L : Int} : (GM L).2 174 7 = some 181 := rfl
set_option maxRecDepth 20000 in
theorem fx_174_8 {L : Int} : (GM L).2 174 8 = some 182 := rfl
set_option maxRecDepth 20000 in
theorem fx_174_9 {L : Int} : (GM L).2 174 9 = some 183 := rfl
set_option maxRecDepth 20000 in
theorem fx_174_10 {L : Int} : (GM L).2 174 10 = some 184 := rfl
set_option maxRecDepth 20000 in
theorem fx_174_11 {L : Int} : (GM L).2 174 11 = none := rfl
set_option maxRecDepth 20000 in
theorem fx_174_12 {L : Int} : (GM L).2 174 12 = none := rfl
set_option maxRecDepth 20000 in
theorem ar_175 {L : Int} : zv_ar (GM L) 175 .int 7 := gm_ar L 175 .int 7 rfl rfl
set_option maxRecDepth 20000 in
theorem ar_176 {L : Int} : zv_ar (GM L) 176 .int 7 := gm_ar L 176 .int 7 rfl rfl
set_option maxRecDepth 20000 in
theorem ar_177 {L : Int} : zv_ar (GM L) 177 .int 7 := gm_ar L 177 .int 7 rfl rfl
set_option maxRecDepth 20000 in
theorem ar_178 {L : Int} : zv_ar (GM L) 178 .int 6 := gm_ar L 178 .int 6 rfl rfl
set_option maxRecDepth 20000 in
theorem ar_179 {L : Int} : zv_ar (GM L) 179 .int 6 := gm_ar L 179 .int 6 rfl rfl
set_option maxRecDepth 20000 in
theorem ar_180 {L : Int} : zv_ar (GM L) 180 .int 6 := gm_ar L 180 .int 6 rfl rfl
set_option maxRecDepth 20000 in
theorem ar_181 {L : Int} : zv_ar (GM L) 181 .int 6 := gm_ar L 181 .int 6 rfl rfl
set_option maxRecDepth 20000 in
theorem ar_182 {L : Int} : zv_ar (GM L) 182 .int 6 := gm_ar L 182 .int 6 rfl rfl
set_option maxRecDepth 20000 in
theorem ar_183 {L : Int} : zv_ar (GM L) 183 .int 42 := gm_ar L 183 .int 42 rfl rfl
set_option maxRecDepth 20000 in
theorem ar_184 {L : Int} : zv_ar (GM L) 184 .int 60 := gm_ar L 184 .int 60 rfl rfl
set_option maxRecDepth 20000 in
theorem ob_185 {L : Int} : zv_ob (GM L) 185 8 := rfl
set_option maxRecDepth 20000 in
theorem fx_185_0 {L : Int} : (GM L).2 185 0 = none := rfl
set_option maxRecDepth 20000 in
theorem fx_185_1 {L : Int} : (GM L).2 185 1 = some 186 := rfl
set_option maxRecDepth 20000 in
theorem fx_185_2 {L : Int} : (GM L).2 185 2 = some 187 := rfl
set_option maxRecDepth 20000 in
theorem fx_185_3 {L : Int} : (GM L).2 185 3 = some 188 := rfl
set_option maxRecDepth 20000 in
theorem fx_185_4 {L : Int} : (GM L).2 185 4 = some 189 := rfl
set_option maxRecDepth 20000 in
theorem fx_185_5 {L : Int} : (GM L).2 185 5 = some 190 := rfl
set_option maxRecDepth 20000 in
theorem fx_185_6 {L : Int} : (GM L).2 185 6 = some 191 := rfl
set_option maxRecDepth 20000 in
theorem fx_185_7 {L : Int} : (GM L).2 185 7 = some 192 := rfl
set_option maxRecDepth 20000 in
theorem fx_185_8 {L : Int} : (GM L).2 185 8 = some 193 := rfl
set_option maxRecDepth 20000 in
theorem fx_185_9 {L : Int} : (GM L).2 185 9 = some 194 := rfl
set_option maxRecDepth 20000 in
theorem fx_185_10 {L : Int} : (GM L).2 185 10 = some 195 := rfl
set_option maxRecDepth 20000 in
theorem fx_185_11 {L : Int} : (GM L).2 185 11 = none := rfl
set_option maxRecDepth 20000 in
theorem fx_185_12 {L : Int} : (GM L).2 185 12 = none := rfl
set_option maxRecDepth 20000 in
theorem ar_186 {L : Int} : zv_ar (GM L) 186 .int 7 := gm_ar L 186 .int 7 rfl rfl
set_option maxRecDepth 20000 in
theorem ar_187 {L : Int} : zv_ar (GM L) 187 .int 7 := gm_ar L 187 .int 7 rfl rfl
set_option maxRecDepth 20000 in
theorem ar_188 {L : Int} : zv_ar (GM L) 188 .int 7 := gm_ar L 188 .int 7 rfl rfl
set_option maxRecDepth 20000 in
theorem ar_189 {L : Int} : zv_ar (GM L) 189 .int 6 := gm_ar L 189 .int 6 rfl rfl
set_option maxRecDepth 20000 in
theorem ar_190 {L : Int} : zv_ar (GM L) 190 .int 6 := gm_ar L 190 .int 6 rfl rfl
set_option maxRecDepth 20000 in
theorem ar_191 {L : Int} : zv_ar (GM L) 191 .int 6 := gm_ar L 191 .int 6 rfl rfl
set_option maxRecDepth 20000 in
theorem ar_192 {L : Int} : zv_ar (GM L) 192 .int 6 := gm_ar L 192 .int 6 rfl rfl
set_option maxRecDepth 20000 in
theorem ar_193 {L : Int} : zv_ar (GM L) 193 .int 6 := gm_ar L 193 .int 6 rfl rfl
set_option maxRecDepth 20000 in
theorem ar_194 {L : Int} : zv_ar (GM L) 194 .int 42 := gm_ar L 194 .int 42 rfl rfl
set_option maxRecDepth 20000 in
theorem ar_195 {L : Int} : zv_ar (GM L) 195 .int 60 := gm_ar L 195 .int 60 rfl rfl
set_option maxRecDepth 20000 in
theorem ob_196 {L : Int} : zv_ob (GM L) 196 8 := rfl
set_option maxRecDepth 20000 in
theorem fx_196_0 {L : Int} : (GM L).2 196 0 = none := rfl
set_option maxRecDepth 20000 in
theorem fx_196_1 {L : Int} : (GM L).2 196 1 = some 197 := rfl
set_option maxRecDepth 20000 in
theorem fx_196_2 {L : Int} : (GM L).2 196 2 = some 198 := rfl
set_option maxRecDepth 20000 in
theorem fx_196_3 {L : Int} : (GM L).2 196 3 = some 199 := rfl
set_option maxRecDepth 20000 in
theorem fx_196_4 {L : Int} : (GM L).2 196 4 = some 200 := rfl
set_option maxRecDepth 20000 in
theorem fx_196_5 {L : Int} : (GM L).2 196 5 = some 201 := rfl
set_option maxRecDepth 20000 in
theorem fx_196_6 {L : Int} : (GM L).2 196 6 = some 202 := rfl
set_option maxRecDepth 20000 in
theorem fx_196_7 {L : Int} : (GM L).2 196 7 = some 203 := rfl
set_option maxRecDepth 20000 in
theorem fx_196_8 {L : Int} : (GM L).2 196 8 = some 204 := rfl
set_option maxRecDepth 20000 in
theorem fx_196_9 {L : Int} : (GM L).2 196 9 = some 205 := rfl
set_option maxRecDepth 20000 in
theorem fx_196_10 {L : Int} : (GM L).2 196 10 = some 206 := rfl
set_option maxRecDepth 20000 in
theorem fx_196_11 {L : Int} : (GM L).2 196 11 = none := rfl
set_option maxRecDepth 20000 in
theorem fx_196_12 {L : Int} : (GM L).2 196 12 = none := rfl
set_option maxRecDepth 20000 in
theorem ar_197 {L : Int} : zv_ar (GM L) 197 .int 7 := gm_ar L 197 .int 7 rfl rfl
set_option maxRecDepth 20000 in
theorem ar_198 {L : Int} : zv_ar (GM L) 198 .int 7 := gm_ar L 198 .int 7 rfl rfl
set_option maxRecDepth 20000 in
theorem ar_199 {L : Int} : zv_ar (GM L) 199 .int 7 := gm_ar L 199 .int 7 rfl rfl
set_option maxRecDepth 20000 in
theorem ar_200 {L : Int} : zv_ar (GM L) 200 .int 6 := gm_ar L 200 .int 6 rfl rfl
set_option maxRecDepth 20000 in
theorem ar_201 {L : Int} : zv_ar (GM L) 201 .int 6 := gm_ar L 201 .int 6 rfl rfl
set_option maxRecDepth 20000 in
theorem ar_202 {L : Int} : zv_ar (GM L) 202 .int 6 := gm_ar L 202 .int 6 rfl rfl
set_option maxRecDepth 20000 in
theorem ar_203 {L : Int} : zv_ar (GM L) 203 .int 6 := gm_ar L 203 .int 6 rfl rfl
set_option maxRecDepth 20000 in
theorem ar_204 {L : Int} : zv_ar (GM L) 204 .int 6 := gm_ar L 204 .int 6 rfl rfl
set_option maxRecDepth 20000 in
theorem ar_205 {L : Int} : zv_ar (GM L) 205 .int 42 := gm_ar L 205 .int 42 rfl rfl
set_option maxRecDepth 20000 in
theorem ar_206 {L : Int} : zv_ar (GM L) 206 .int 60 := gm_ar L 206 .int 60 rfl rfl
set_option maxRecDepth 20000 in
theorem ob_207 {L : Int} : zv_ob (GM L) 207 8 := rfl
set_option maxRecDepth 20000 in
theorem fx_207_0 {L : Int} : (GM L).2 207 0 = none := rfl
set_option maxRecDepth 20000 in
theorem fx_207_1 {L : Int} : (GM L).2 207 1 = some 208 := rfl
set_option maxRecDepth 20000 in
theorem fx_207_2 {L : Int} : (GM L).2 207 2 = some 209 := rfl
set_option maxRecDepth 20000 in
theorem fx_207_3 {L : Int} : (GM L).2 207 3 = some 210 := rfl
set_option maxRecDepth 20000 in
theorem fx_207_4 {L : Int} : (GM L).2 207 4 = some 211 := rfl
set_option maxRecDepth 20000 in
theorem fx_207_5 {L : Int} : (GM L).2 207 5 = some 212 := rfl
set_option maxRecDepth 20000 in
theorem fx_207_6 {L : Int} : (GM L).2 207 6 = some 213 := rfl
set_option maxRecDepth 20000 in
theorem fx_207_7 {L : Int} : (GM L).2 207 7 = some 214 := rfl
set_option maxRecDepth 20000 in
theorem fx_207_8 {L : Int} : (GM L).2 207 8 = some 215 := rfl
set_option maxRecDepth 20000 in
theorem fx_207_9 {L : Int} : (GM L).2 207 9 = some 216 := rfl
set_option maxRecDepth 20000 in
theorem fx_207_10 {L : Int} : (GM L).2 207 10 = some 217 := rfl
set_option maxRecDepth 20000 in
theorem fx_207_11 {L : Int} : (GM L).2 207 11 = none := rfl
set_option maxRecDepth 20000 in
theorem fx_207_12 {L : Int} : (GM L).2 207 12 = none := rfl
set_option maxRecDepth 20000 in
theorem ar_208 {L : Int} : zv_ar (GM L) 208 .int 7 := gm_ar L 208 .int 7 rfl rfl
set_option maxRecDepth 20000 in
theorem ar_209 {L : Int} : zv_ar (GM L) 209 .int 7 := gm_ar L 209 .int 7 rfl rfl
set_option maxRecDepth 20000 in
theorem ar_210 {L : Int} : zv_ar (GM L) 210 .int 7 := gm_ar L 210 .int 7 rfl rfl
set_option maxRecDepth 20000 in
theorem ar_211 {L : Int} : zv_ar (GM L) 211 .int 6 := gm_ar L 211 .int 6 rfl rfl
set_option maxRecDepth 20000 in
theorem ar_212 {L : Int} : zv_ar (GM L) 212 .int 6 := gm_ar L 212 .int 6 rfl rfl
set_option maxRecDepth 20000 in
theorem ar_213 {L : Int} : zv_ar (GM L) 213 .int 6 := gm_ar L 213 .int 6 rfl rfl
set_option maxRecDepth 20000 in
theorem ar_214 {L : Int} : zv_ar (GM L) 214 .int 6 := gm_ar L 214 .int 6 rfl rfl
set_option maxRecDepth 20000 in
theorem ar_215 {L : Int} : zv_ar (GM L) 215 .int 6 := gm_ar L 215 .int 6 rfl rfl
set_option maxRecDepth 20000 in
theorem ar_216 {L : Int} : zv_ar (GM L) 216 .int 42 := gm_ar L 216 .int 42 rfl rfl
set_option maxRecDepth 20000 in
theorem ar_217 {L : Int} : zv_ar (GM L) 217 .int 60 := gm_ar L 217 .int 60 rfl rfl
set_option maxRecDepth 20000 in
theorem ob_218 {L : Int} : zv_ob (GM L) 218 8 := rfl
set_option maxRecDepth 20000 in
theorem fx_218_0 {L : Int} : (GM L).2 218 0 = none := rfl
set_option maxRecDepth 20000 in
theorem fx_218_1 {L : Int} : (GM L).2 218 1 = some 219 := rfl
set_option maxRecDepth 20000 in
theorem fx_218_2 {L : Int} : (GM L).2 218 2 = some 220 := rfl
set_option maxRecDepth 20000 in
theorem fx_218_3 {L : Int} : (GM L).2 218 3 = some 221 := rfl
set_option maxRecDepth 20000 in
theorem fx_218_4 {L : Int} : (GM L).2 218 4 = some 222 := rfl
set_option maxRecDepth 20000 in
theorem fx_218_5 {L : Int} : (GM L).2 218 5 = some 223 := rfl
set_option maxRecDepth 20000 in
theorem fx_218_6 {L : Int} : (GM L).2 218 6 = some 224 := rfl
set_option maxRecDepth 20000 in
theorem fx_218_7 {L : Int} : (GM L).2 218 7 = some 225 := rfl
set_option maxRecDepth 20000 in
theorem fx_218_8 {L : Int} : (GM L).2 218 8 = some 226 := rfl
set_option maxRecDepth 20000 in
theorem fx_218_9 {L : Int} : (GM L).2 218 9 = some 227 := rfl
set_option maxRecDepth 20000 in
theorem fx_218_10 {L : Int} : (GM L).2 218 10 = some 228 := rfl
set_option maxRecDepth 20000 in
theorem fx_218_11 {L : Int} : (GM L).2 218 11 = none := rfl
set_option maxRecDepth 20000 in
theorem fx_218_12 {L : Int} : (GM L).2 218 12 = none := rfl
set_option maxRecDepth 20000 in
theorem ar_219 {L : Int} : zv_ar (GM L) 219 .int 7 := gm_ar L 219 .int 7 rfl rfl
set_option maxRecDepth 20000 in
theorem ar_220 {L : Int} : zv_ar (GM L) 220 .int 7 := gm_ar L 220 .int 7 rfl rfl
set_option maxRecDepth 20000 in
theorem ar_221 {L : Int} : zv_ar (GM L) 221 .int 7 := gm_ar L 221 .int 7 rfl rfl
set_option maxRecDepth 20000 in
theorem ar_222 {L : Int} : zv_ar (GM L) 222 .int 6 := gm_ar L 222 .int 6 rfl rfl
set_option maxRecDepth 20000 in
theorem ar_223 {L : Int} : zv_ar (GM L) 223 .int 6 := gm_ar L 223 .int 6 rfl rfl
set_option maxRecDepth 20000 in
theorem ar_224 {L : Int} : zv_ar (GM L) 224 .int 6 := gm_ar L 224 .int 6 rfl rfl
set_option maxRecDepth 20000 in
theorem ar_225 {L : Int} : zv_ar (GM L) 225 .int 6 := gm_ar L 225 .int 6 rfl rfl
set_option maxRecDepth 20000 in
theorem ar_226 {L : Int} : zv_ar (GM L) 226 .int 6 := gm_ar L 226 .int 6 rfl rfl
set_option maxRecDepth 20000 in
theorem ar_227 {L : Int} : zv_ar (GM L) 227 .int 42 := gm_ar L 227 .int 42 rfl rfl
set_option maxRecDepth 20000 in
theorem ar_228 {L : Int} : zv_ar (GM L) 228 .int 60 := gm_ar L 228 .int 60 rfl rfl
set_option maxRecDepth 20000 in
theorem ob_229 {L : Int} : zv_ob (GM L) 229 8 := rfl
set_option maxRecDepth 20000 in
theorem fx_229_0 {L : Int} : (GM L).2 229 0 = none := rfl
set_option maxRecDepth 20000 in
theorem fx_229_1 {L : Int} : (GM L).2 229 1 = some 230 := rfl
set_option maxRecDepth 20000 in
theorem fx_229_2 {L : Int} : (GM L).2 229 2 = some 231 := rfl
set_option maxRecDepth 20000 in
theorem fx_229_3 {L : Int} : (GM L).2 229 3 = some 232 := rfl
set_option maxRecDepth 20000 in
theorem fx_229_4 {L : Int} : (GM L).2 229 4 = some 233 := rfl
set_option maxRecDepth 20000 in
theorem fx_229_5 {L : Int} : (GM L).2 229 5 = some 234 := rfl
set_option maxRecDepth 20000 in
theorem fx_229_6 {L : Int} : (GM L).2 229 6 = some 235 := rfl
set_option maxRecDepth 20000 in
theorem fx_229_7 {L : Int} : (GM L).2 229 7 = some 236 := rfl
set_option maxRecDepth 20000 in
theorem fx_229_8 {L : Int} : (GM L).2 229 8 = some 237 := rfl
set_option maxRecDepth 20000 in
theorem fx_229_9 {L : Int} : (GM L).2 229 9 = some 238 := rfl
set_option maxRecDepth 20000 in
theorem fx_229_10 {L : Int} : (GM L).2 229 10 = some 239 := rfl
set_option maxRecDepth 20000 in
theorem fx_229_11 {L : Int} : (GM L).2 229 11 = none := rfl
set_option maxRecDepth 20000 in
theorem fx_229_12 {L : Int} : (GM L).2 229 12 = none := rfl
set_option maxRecDepth 20000 in
theorem ar_230 {L : Int} : zv_ar (GM L) 230 .int 7 := gm_ar L 230 .int 7 rfl rfl
set_option maxRecDepth 20000 in
theorem ar_231 {L : Int} : zv_ar (GM L) 231 .int 7 := gm_ar L 231 .int 7 rfl rfl
set_option maxRecDepth 20000 in
theorem ar_232 {L : Int} : zv_ar (GM L) 232 .int 7 := gm_ar L 232 .int 7 rfl rfl
set_option maxRecDepth 20000 in
theorem ar_233 {L : Int} : zv_ar (GM L) 233 .int 6 := gm_ar L 233 .int 6 rfl rfl
set_option maxRecDepth 20000 in
theorem ar_234 {L : Int} : zv_ar (GM L) 234 .int 6 := gm_ar L 234 .int 6 rfl rfl
set_option maxRecDepth 20000 in
theorem ar_235 {L : Int} : zv_ar (GM L) 235 .int 6 := gm_ar L 235 .int 6 rfl rfl
set_option maxRecDepth 20000 in
theorem ar_236 {L : Int} : zv_ar (GM L) 236 .int 6 := gm_ar L 236 .int 6 rfl rfl
set_option maxRecDepth 20000 in
theorem ar_237 {L : Int} : zv_ar (GM L) 237 .int 6 := gm_ar L 237 .int 6 rfl rfl
set_option maxRecDepth 20000 in
theorem ar_238 {L : Int} : zv_ar (GM L) 238 .int 42 := gm_ar L 238 .int 42 rfl rfl
set_option maxRecDepth 20000 in
theorem ar_239 {L : Int} : zv_ar (GM L) 239 .int 60 := gm_ar L 239 .int 60 rfl rfl
set_option maxRecDepth 20000 in
theorem ob_240 {L : Int} : zv_ob (GM L) 240 8 := rfl
set_option maxRecDepth 20000 in
theorem fx_240_0 {L : Int} : (GM L).2 240 0 = none := rfl
set_option maxRecDepth 20000 in
theorem fx_240_1 {L : Int} : (GM L).2 240 1 = some 241 := rfl
set_option maxRecDepth 20000 in
theorem fx_240_2 {L : Int} : (GM L).2 240 2 = some 242 := rfl
set_option maxRecDepth 20000 in
theorem fx_240_3 {L : Int} : (GM L).2 240 3 = some 243 := rfl
set_option maxRecDepth 20000 in
theorem fx_240_4 {L : Int} : (GM L).2 240 4 = some 244 := rfl
set_option maxRecDepth 20000 in
theorem fx_240_5 {L : Int} : (GM L).2 240 5 = some 245 := rfl
set_option maxRecDepth 20000 in
theorem fx_240_6 {L : Int} : (GM L).2 240 6 = some 246 := rfl
set_option maxRecDepth 20000 in
theorem fx_240_7 {L : Int} : (GM L).2 240 7 = some 247 := rfl
set_option maxRecDepth 20000 in
theorem fx_240_8 {L : Int} : (GM L).2 240 8 = some 248 := rfl
set_option maxRecDepth 20000 in
theorem fx_240_9 {L : Int} : (GM L).2 240 9 = some 249 := rfl
set_option maxRecDepth 20000 in
theorem fx_240_10 {L : Int} : (GM L).2 240 10 = some 250 := rfl
set_option maxRecDepth 20000 in
theorem fx_240_11 {L : Int} : (GM L).2 240 11 = none := rfl
set_option maxRecDepth 20000 in
theorem fx_240_12 {L : Int} : (GM L).2 240 12 = none := rfl
set_option maxRecDepth 20000 in
theorem ar_241 {L : Int} : zv_ar (GM L) 241 .int 7 := gm_ar L 241 .int 7 rfl rfl
set_option maxRecDepth 20000 in
theorem ar_242 {L : Int} : zv_ar (GM L) 242 .int 7 := gm_ar L 242 .int 7 rfl rfl
set_option maxRecDepth 20000 in
theorem ar_243 {L : Int} : zv_ar (GM L) 243 .int 7 := gm_ar L 243 .int 7 rfl rfl
set_option maxRecDepth 20000 in
theorem ar_244 {L : Int} : zv_ar (GM L) 244 .int 6 := gm_ar L 244 .int 6 rfl rfl
set_option maxRecDepth 20000 in
theorem ar_245 {L : Int} : zv_ar (GM L) 245 .int 6 := gm_ar L 245 .int 6 rfl rfl
set_option maxRecDepth 20000 in
theorem ar_246 {L : Int} : zv_ar (GM L) 246 .int 6 := gm_ar L 246 .int 6 rfl rfl
set_option maxRecDepth 20000 in
theorem ar_247 {L : Int} : zv_ar (GM L) 247 .int 6 := gm_ar L 247 .int 6 rfl rfl
set_option maxRecDepth 20000 in
theorem ar_248 {L : Int} : zv_ar (GM L) 248 .int 6 := gm_ar L 248 .int 6 rfl rfl
set_option maxRecDepth 20000 in
theorem ar_249 {L : Int} : zv_ar (GM L) 249 .int 42 := gm_ar L 249 .int 42 rfl rfl
set_option maxRecDepth 20000 in
theorem ar_250 {L : Int} : zv_ar (GM L) 250 .int 60 := gm_ar L 250 .int 60 rfl rfl
set_option maxRecDepth 20000 in
theorem ob_251 {L : Int} : zv_ob (GM L) 251 8 := rfl
set_option maxRecDepth 20000 in
theorem fx_251_0 {L : Int} : (GM L).2 251 0 = none := rfl
set_option maxRecDepth 20000 in
theorem fx_251_1 {L : Int} : (GM L).2 251 1 = some 252 := rfl
set_option maxRecDepth 20000 in
theorem fx_251_2 {L : Int} : (GM L).2 251 2 = some 253 := rfl
set_option maxRecDepth 20000 in
theorem fx_251_3 {L : Int} : (GM L).2 251 3 = some 254 := rfl
set_option maxRecDepth 20000 in
theorem fx_251_4 {L : Int} : (GM L).2 251 4 = some 255 := rfl
set_option maxRecDepth 20000 in
theorem fx_251_5 {L : Int} : (GM L).2 251 5 = some 256 := rfl
set_option maxRecDepth 20000 in
theorem fx_251_6 {L : Int} : (GM L).2 251 6 = some 257 := rfl
set_option maxRecDepth 20000 in
theorem fx_251_7 {L : Int} : (GM L).2 251 7 = some 258 := rfl
set_option maxRecDepth 20000 in
theorem fx_251_8 {L : Int} : (GM L).2 251 8 = some 259 := rfl
set_option maxRecDepth 20000 in
theorem fx_251_9 {L : Int} : (GM L).2 251 9 = some 260 := rfl
set_option maxRecDepth 20000 in
theorem fx_251_10 {L : Int} : (GM L).2 251 10 = some 261 := rfl
set_option maxRecDepth 20000 in
theorem fx_251_11 {L : Int} : (GM L).2 251 11 = none := rfl
set_option maxRecDepth 20000 in
theorem fx_251_12 {L : Int} : (GM L).2 251 12 = none := rfl
set_option maxRecDepth 20000 in
theorem ar_252 {L : Int} : zv_ar (GM L) 252 .int 7 := gm_ar L 252 .int 7 rfl rfl
set_option maxRecDepth 20000 in
theorem ar_253 {L : Int} : zv_ar (GM L) 253 .int 7 := gm_ar L 253 .int 7 rfl rfl
set_option maxRecDepth 20000 in
theorem ar_254 {L : Int} : zv_ar (GM L) 254 .int 7 := gm_ar L 254 .int 7 rfl rfl
set_option maxRecDepth 20000 in
theorem ar_255 {L : Int} : zv_ar (GM L) 255 .int 6 := gm_ar L 255 .int 6 rfl rfl
set_option maxRecDepth 20000 in
theorem ar_256 {L : Int} : zv_ar (GM L) 256 .int 6 := gm_ar L 256 .int 6 rfl rfl
set_option maxRecDepth 20000 in
theorem ar_257 {L : Int} : zv_ar (GM L) 257 .int 6 := gm_ar L 257 .int 6 rfl rfl
set_option maxRecDepth 20000 in
theorem ar_258 {L : Int} : zv_ar (GM L) 258 .int 6 := gm_ar L 258 .int 6 rfl rfl
set_option maxRecDepth 20000 in
theorem ar_259 {L : Int} : zv_ar (GM L) 259 .int 6 := gm_ar L 259 .int 6 rfl rfl
set_option maxRecDepth 20000 in
theorem ar_260 {L : Int} : zv_ar (GM L) 260 .int 42 := gm_ar L 260 .int 42 rfl rfl
set_option maxRecDepth 20000 in
theorem ar_261 {L : Int} : zv_ar (GM L) 261 .int 60 := gm_ar L 261 .int 60 rfl rfl
set_option maxRecDepth 20000 in
theorem ob_262 {L : Int} : zv_ob (GM L) 262 8 := rfl
set_option maxRecDepth 20000 in
theorem fx_262_0 {L : Int} : (GM L).2 262 0 = none := rfl
set_option maxRecDepth 20000 in
theorem fx_262_1 {L : Int} : (GM L).2 262 1 = some 263 := rfl
set_option maxRecDepth 20000 in
theorem fx_262_2 {L : Int} : (GM L).2 262 2 = some 264 := rfl
set_option maxRecDepth 20000 in
theorem fx_262_3 {L : Int} : (GM L).2 262 3 = some 265 := rfl
set_option maxRecDepth 20000 in
theorem fx_262_4 {L : Int} : (GM L).2 262 4 = some 266 := rfl
set_option maxRecDepth 20000 in
theorem fx_262_5 {L : Int} : (GM L).2 262 5 = some 267 := rfl
set_option maxRecDepth 20000 in
theorem fx_262_6 {L : Int} : (GM L).2 262 6 = some 268 := rfl
set_option maxRecDepth 20000 in
theorem fx_262_7 {L : Int} : (GM L).2 262 7 = some 269 := rfl
set_option maxRecDepth 20000 in
theorem fx_262_8 {L : Int} : (GM L).2 262 8 = some 270 := rfl
set_option maxRecDepth 20000 in
theorem fx_262_9 {L : Int} : (GM L).2 262 9 = some 271 := rfl
set_option maxRecDepth 20000 in
theorem fx_262_10 {L : Int} : (GM L).2 262 10 = some 272 := rfl
set_option maxRecDepth 20000 in
theorem fx_262_11 {L : Int} : (GM L).2 262 11 = none := rfl
set_option maxRecDepth 20000 in
theorem fx_262_12 {L : Int} : (GM L).2 262 12 = none := rfl
set_option maxRecDepth 20000 in
theorem ar_263 {L : Int} : zv_ar (GM L) 263 .int 7 := gm_ar L 263 .int 7 rfl rfl
set_option maxRecDepth 20000 in
theorem ar_264 {L : Int} : zv_ar (GM L) 264 .int 7 := gm_ar L 264 .int 7 rfl rfl
set_option maxRecDepth 20000 in
theorem ar_265 {L : Int} : zv_ar (GM L) 265 .int 7 := gm_ar L 265 .int 7 rfl rfl
set_option maxRecDepth 20000 in
theorem ar_266 {L : Int} : zv_ar (GM L) 266 .int 6 := gm_ar L 266 .int 6 rfl rfl
set_option maxRecDepth 20000 in
theorem ar_267 {L : Int} : zv_ar (GM L) 267 .int 6 := gm_ar L 267 .int 6 rfl rfl
set_option maxRecDepth 20000 in
theorem ar_268 {L : Int} : zv_ar (GM L) 268 .int 6 := gm_ar L 268 .int 6 rfl rfl
set_option maxRecDepth 20000 in
theorem ar_269 {L : Int} : zv_ar (GM L) 269 .int 6 := gm_ar L 269 .int 6 rfl rfl
set_option maxRecDepth 20000 in
theorem ar_270 {L : Int} : zv_ar (GM L) 270 .int 6 := gm_ar L 270 .int 6 rfl rfl
set_option maxRecDepth 20000 in
theorem ar_271 {L : Int} : zv_ar (GM L) 271 .int 42 := gm_ar L 271 .int 42 rfl rfl
set_option maxRecDepth 20000 in
theorem ar_272 {L : Int} : zv_ar (GM L) 272 .int 60 := gm_ar L 272 .int 60 rfl rfl
set_option maxRecDepth 20000 in
theorem ob_273 {L : Int} : zv_ob (GM L) 273 8 := rfl
set_option maxRecDepth 20000 in
theorem fx_273_0 {L : Int} : (GM L).2 273 0 = none := rfl
set_option maxRecDepth 20000 in
theorem fx_273_1 {L : Int} : (GM L).2 273 1 = some 274 := rfl
set_option maxRecDepth 20000 in
theorem fx_273_2 {L : Int} : (GM L).2 273 2 = some 275 := rfl
set_option maxRecDepth 20000 in
theorem fx_273_3 {L : Int} : (GM L).2 273 3 = some 276 := rfl
set_option maxRecDepth 20000 in
theorem fx_273_4 {L : Int} : (GM L).2 273 4 = some 277 := rfl
set_option maxRecDepth 20000 in
theorem fx_273_5 {L : Int} : (GM L).2 273 5 = some 278 := rfl
set_option maxRecDepth 20000 in
theorem fx_273_6 {L : Int} : (GM L).2 273 6 = some 279 := rfl
set_option maxRecDepth 20000 in
theorem fx_273_7 {L : Int} : (GM L).2 273 7 = some 280 := rfl
set_option maxRecDepth 20000 in
theorem fx_273_8 {L : Int} : (GM L).2 273 8 = some 281 := rfl
set_option maxRecDepth 20000 in
theorem fx_273_9 {L : Int} : (GM L).2 273 9 = some 282 := rfl
set_option maxRecDepth 20000 in
theorem fx_273_10 {L : Int} : (GM L).2 273 10 = some 283 := rfl
set_option maxRecDepth 20000 in
theorem fx_273_11 {L : Int} : (GM L).2 273 11 = none := rfl
set_option maxRecDepth 20000 in
theorem fx_273_12 {L : Int} : (GM L).2 273 12 = none := rfl
set_option maxRecDepth 20000 in
theorem ar_274 {L : Int} : zv_ar (GM L) 274 .int 7 := gm_ar L 274 .int 7 rfl rfl
set_option maxRecDepth 20000 in
theorem ar_275 {L : Int} : zv_ar (GM L) 275 .int 7 := gm_ar L 275 .int 7 rfl rfl
set_option maxRecDepth 20000 in
theorem ar_276 {L : Int} : zv_ar (GM L) 276 .int 7 := gm_ar L 276 .int 7 rfl rfl
set_option maxRecDepth 20000 in
theorem ar_277 {L : Int} : zv_ar (GM L) 277 .int 6 := gm_ar L 277 .int 6 rfl rfl
set_option maxRecDepth 20000 in
theorem ar_278 {L : Int} : zv_ar (GM L) 278 .int 6 := gm_ar L 278 .int 6 rfl rfl
set_option maxRecDepth 20000 in
theorem ar_279 {L : Int} : zv_ar (GM L) 279 .int 6 := gm_ar L 279 .int 6 rfl rfl
set_option maxRecDepth 20000 in
theorem ar_280 {L : Int} : zv_ar (GM L) 280 .int 6 := gm_ar L 280 .int 6 rfl rfl
set_option maxRecDepth 20000 in
theorem ar_281 {L : Int} : zv_ar (GM L) 281 .int 6 := gm_ar L 281 .int 6 rfl rfl
set_option maxRecDepth 20000 in
theorem ar_282 {L : Int} : zv_ar (GM L) 282 .int 42 := gm_ar L 282 .int 42 rfl rfl
set_option maxRecDepth 20000 in
theorem ar_283 {L : Int} : zv_ar (GM L) 283 .int 60 := gm_ar L 283 .int 60 rfl rfl
set_option maxRecDepth 20000 in
theorem ob_284 {L : Int} : zv_ob (GM L) 284 2 := rfl
set_option maxRecDepth 20000 in
theorem fx_284_0 {L : Int} : (GM L).2 284 0 = some 285 := rfl
set_option maxRecDepth 20000 in
theorem fx_284_1 {L : Int} : (GM L).2 284 1 = none := rfl
set_option maxRecDepth 20000 in
theorem fx_284_2 {L : Int} : (GM L).2 284 2 = some 2 := rfl
set_option maxRecDepth 20000 in
theorem fx_284_3 {L : Int} : (GM L).2 284 3 = none := rfl
set_option maxRecDepth 20000 in
theorem fx_284_4 {L : Int} : (GM L).2 284 4 = none := rfl
set_option maxRecDepth 20000 in
theorem ar_285 {L : Int} : zv_ar (GM L) 285 .int 109 := gm_ar L 285 .int 109 rfl rfl
set_option maxRecDepth 20000 in
theorem ar_286 {L : Int} : zv_ar (GM L) 286 .int 16 := gm_ar L 286 .int 16 rfl rfl
set_option maxRecDepth 20000 in
theorem ar_287 {L : Int} : zv_ar (GM L) 287 .int 16 := gm_ar L 287 .int 16 rfl rfl
set_option maxRecDepth 20000 in
theorem ar_288 {L : Int} : zv_ar (GM L) 288 .int 6 := gm_ar L 288 .int 6 rfl rfl
set_option maxRecDepth 20000 in
theorem ob_289 {L : Int} : zv_ob (GM L) 289 12 := rfl
set_option maxRecDepth 20000 in
theorem fx_289_0 {L : Int} : (GM L).2 289 0 = some 290 := rfl
set_option maxRecDepth 20000 in
theorem fx_289_1 {L : Int} : (GM L).2 289 1 = none := rfl
set_option maxRecDepth 20000 in
theorem fx_289_2 {L : Int} : (GM L).2 289 2 = none := rfl
set_option maxRecDepth 20000 in
theorem fx_289_3 {L : Int} : (GM L).2 289 3 = none := rfl
set_option maxRecDepth 20000 in
theorem fx_289_4 {L : Int} : (GM L).2 289 4 = none := rfl
set_option maxRecDepth 20000 in
theorem fx_289_5 {L : Int} : (GM L).2 289 5 = none := rfl
set_option maxRecDepth 20000 in
theorem fx_289_6 {L : Int} : (GM L).2 289 6 = none := rfl
set_option maxRecDepth 20000 in
theorem fx_289_7 {L : Int} : (GM L).2 289 7 = none := rfl
set_option maxRecDepth 20000 in
theorem fx_289_8 {L : Int} : (GM L).2 289 8 = none := rfl
set_option maxRecDepth 20000 in
theorem fx_289_9 {L : Int} : (GM L).2 289 9 = none := rfl
set_option maxRecDepth 20000 in
theorem fx_289_10 {L : Int} : (GM L).2 289 10 = none := rfl
set_option maxRecDepth 20000 in
theorem fx_289_11 {L : Int} : (GM L).2 289 11 = none := rfl
set_option maxRecDepth 20000 in
theorem fx_289_12 {L : Int} : (GM L).2 289 12 = none := rfl
set_option maxRecDepth 20000 in
theorem fx_289_13 {L : Int} : (GM L).2 289 13 = none := rfl
set_option maxRecDepth 20000 in
theorem fx_289_14 {L : Int} : (GM L).2 289 14 = some 291 := rfl
set_option maxRecDepth 20000 in
theorem fx_289_15 {L : Int} : (GM L).2 289 15 = some 292 := rfl
set_option maxRecDepth 20000 in
theorem fx_289_16 {L : Int} : (GM L).2 289 16 = some 293 := rfl
set_option maxRecDepth 20000 in
theorem fx_289_17 {L : Int} : (GM L).2 289 17 = some 294 := rfl
set_option maxRecDepth 20000 in
theorem fx_289_18 {L : Int} : (GM L).2 289 18 = some 295 := rfl
set_option maxRecDepth 20000 in
theorem fx_289_19 {L : Int} : (GM L).2 289 19 = some 296 := rfl
set_option maxRecDepth 20000 in
theorem fx_289_20 {L : Int} : (GM L).2 289 20 = some 297 := rfl
set_option maxRecDepth 20000 in
theorem fx_289_21 {L : Int} : (GM L).2 289 21 = some 298 := rfl
set_option maxRecDepth 20000 in
theorem fx_289_22 {L : Int} : (GM L).2 289 22 = some 299 := rfl
set_option maxRecDepth 20000 in
theorem fx_289_23 {L : Int} : (GM L).2 289 23 = some 300 := rfl
set_option maxRecDepth 20000 in
theorem fx_289_24 {L : Int} : (GM L).2 289 24 = some 301 := rfl
set_option maxRecDepth 20000 in
theorem fx_289_25 {L : Int} : (GM L).2 289 25 = some 302 := rfl
set_option maxRecDepth 20000 in
theorem fx_289_26 {L : Int} : (GM L).2 289 26 = some 303 := rfl
set_option maxRecDepth 20000 in
theorem fx_289_27 {L : Int} : (GM L).2 289 27 = some 304 := rfl
set_option maxRecDepth 20000 in
theorem fx_289_28 {L : Int} : (GM L).2 289 28 = some 305 := rfl
set_option maxRecDepth 20000 in
theorem fx_289_29 {L : Int} : (GM L).2 289 29 = some 306 := rfl
set_option maxRecDepth 20000 in
theorem fx_289_30 {L : Int} : (GM L).2 289 30 = some 307 := rfl
set_option maxRecDepth 20000 in
theorem fx_289_31 {L : Int} : (GM L).2 289 31 = none := rfl
set_option maxRecDepth 20000 in
theorem fx_289_32 {L : Int} : (GM L).2 289 32 = none := rfl
set_option maxRecDepth 20000 in
theorem fx_289_33 {L : Int} : (GM L).2 289 33 = none := rfl
set_option maxRecDepth 20000 in
theorem fx_289_34 {L : Int} : (GM L).2 289 34 = some 308 := rfl
set_option maxRecDepth 20000 in
theorem fx_289_35 {L : Int} : (GM L).2 289 35 = some 309 := rfl
set_option maxRecDepth 20000 in
theorem fx_289_36 {L : Int} : (GM L).2 289 36 = some 310 := rfl
set_option maxRecDepth 20000 in
theorem fx_289_37 {L : Int} : (GM L).2 289 37 = some 311 := rfl
set_option maxRecDepth 20000 in
theorem fx_289_38 {L : Int} : (GM L).2 289 38 = some 312 := rfl
set_option maxRecDepth 20000 in
theorem fx_289_39 {L : Int} : (GM L).2 289 39 = none := rfl
set_option maxRecDepth 20000 in
theorem fx_289_40 {L : Int} : (GM L).2 289 40 = none := rfl
set_option maxRecDepth 20000 in
theorem fx_289_41 {L : Int} : (GM L).2 289 41 = some 313 := rfl
set_option maxRecDepth 20000 in
theorem fx_289_42 {L : Int} : (GM L).2 289 42 = none := rfl
set_option maxRecDepth 20000 in
theorem fx_289_43 {L : Int} : (GM L).2 289 43 = none := rfl
set_option maxRecDepth 20000 in
theorem fx_289_44 {L : Int} : (GM L).2 289 44 = some 314 := rfl
set_option maxRecDepth 20000 in
theorem fx_289_45 {L : Int} : (GM L).2 289 45 = some 315 := rfl
set_option maxRecDepth 20000 in
theorem fx_289_46 {L : Int} : (GM L).2 289 46 = some 316 := rfl
set_option maxRecDepth 20000 in
theorem fx_289_47 {L : Int} : (GM L).2 289 47 = some 317 := rfl
set_option maxRecDepth 20000 in
theorem fx_289_48 {L : Int} : (GM L).2 289 48 = some 318 := rfl
set_option maxRecDepth 20000 in
theorem fx_289_49 {L : Int} : (GM L).2 289 49 = some 319 := rfl
set_option maxRecDepth 20000 in
theorem fx_289_50 {L : Int} : (GM L).2 289 50 = some 320 := rfl
set_option maxRecDepth 20000 in
theorem fx_289_51 {L : Int} : (GM L).2 289 51 = some 321 := rfl
set_option maxRecDepth 20000 in
theorem fx_289_52 {L : Int} : (GM L).2 289 52 = some 322 := rfl
set_option maxRecDepth 20000 in
theorem fx_289_53 {L : Int} : (GM L).2 289 53 = some 323 := rfl
set_option maxRecDepth 20000 in
theorem fx_289_54 {L : Int} : (GM L).2 289 54 = some 324 := rfl
set_option maxRecDepth 20000 in
theorem fx_289_55 {L : Int} : (GM L).2 289 55 = some 325 := rfl
set_option maxRecDepth 20000 in
theorem fx_289_56 {L : Int} : (GM L).2 289 56 = some 326 := rfl
set_option maxRecDepth 20000 in
theorem fx_289_57 {L : Int} : (GM L).2 289 57 = none := rfl
set_option maxRecDepth 20000 in
theorem fx_289_58 {L : Int} : (GM L).2 289 58 = none := rfl
set_option maxRecDepth 20000 in
theorem fx_289_59 {L : Int} : (GM L).2 289 59 = none := rfl
set_option maxRecDepth 20000 in
theorem fx_289_60 {L : Int} : (GM L).2 289 60 = some 327 := rfl
set_option maxRecDepth 20000 in
theorem fx_289_61 {L : Int} : (GM L).2 289 61 = some 328 := rfl
set_option maxRecDepth 20000 in
theorem fx_289_62 {L : Int} : (GM L).2 289 62 = none := rfl
set_option maxRecDepth 20000 in
theorem fx_289_63 {L : Int} : (GM L).2 289 63 = some 329 := rfl
set_option maxRecDepth 20000 in
theorem fx_289_64 {L : Int} : (GM L).2 289 64 = some 330 := rfl
set_option maxRecDepth 20000 in
theorem fx_289_65 {L : Int} : (GM L).2 289 65 = some 331 := rfl
set_option maxRecDepth 20000 in
theorem fx_289_66 {L : Int} : (GM L).2 289 66 = none := rfl
set_option maxRecDepth 20000 in
theorem fx_289_67 {L : Int} : (GM L).2 289 67 = none := rfl
set_option maxRecDepth 20000 in
theorem fx_289_68 {L : Int} : (GM L).2 289 68 = some 332 := rfl
set_option maxRecDepth 20000 in
theorem fx_289_69 {L : Int} : (GM L).2 289 69 = some 333 := rfl
set_option maxRecDepth 20000 in
theorem fx_289_70 {L : Int} : (GM L).2 289 70 = some 334 := rfl
set_option maxRecDepth 20000 in
theorem fx_289_71 {L : Int} : (GM L).2 289 71 = none := rfl
set_option maxRecDepth 20000 in
theorem ar_290 {L : Int} : zv_ar (GM L) 290 .int 1800 := gm_ar L 290 .int 1800 rfl rfl
set_option maxRecDepth 20000 in
theorem ar_291 {L : Int} : zv_ar (GM L) 291 .int 2 := gm_ar L 291 .int 2 rfl rfl
set_option maxRecDepth 20000 in
theorem ar_292 {L : Int} : zv_ar (GM L) 292 .int 14 := gm_ar L 292 .int 14 rfl rfl
set_option maxRecDepth 20000 in
theorem ar_293 {L : Int} : zv_ar (GM L) 293 .int 14 := gm_ar L 293 .int 14 rfl rfl
set_option maxRecDepth 20000 in
theorem ar_294 {L : Int} : zv_ar (GM L) 294 .int 14 := gm_ar L 294 .int 14 rfl rfl
set_option maxRecDepth 20000 in
theorem ar_295 {L : Int} : zv_ar (GM L) 295 .int 2 := gm_ar L 295 .int 2 rfl rfl
set_option maxRecDepth 20000 in
theorem ar_296 {L : Int} : zv_ar (GM L) 296 .int 98 := gm_ar L 296 .int 98 rfl rfl
set_option maxRecDepth 20000 in
theorem ar_297 {L : Int} : zv_ar (GM L) 297 .int 98 := gm_ar L 297 .int 98 rfl rfl
set_option maxRecDepth 20000 in
theorem ar_298 {L : Int} : zv_ar (GM L) 298 .int 2 := gm_ar L 298 .int 2 rfl rfl
set_option maxRecDepth 20000 in
theorem ar_299 {L : Int} : zv_ar (GM L) 299 .int 12 := gm_ar L 299 .int 12 rfl rfl
set_option maxRecDepth 20000 in
theorem ar_300 {L : Int} : zv_ar (GM L) 300 .int 12 := gm_ar L 300 .int 12 rfl rfl
set_option maxRecDepth 20000 in
theorem ar_301 {L : Int} : zv_ar (GM L) 301 .int 2 := gm_ar L 301 .int 2 rfl rfl
set_option maxRecDepth 20000 in
theorem ar_302 {L : Int} : zv_ar (GM L) 302 .int 4 := gm_ar L 302 .int 4 rfl rfl
set_option maxRecDepth 20000 in
theorem ar_303 {L : Int} : zv_ar (GM L) 303 .int 4 := gm_ar L 303 .int 4 rfl rfl
set_option maxRecDepth 20000 in
theorem ar_304 {L : Int} : zv_ar (GM L) 304 .int 3200 := gm_ar L 304 .int 3200 rfl rfl
set_option maxRecDepth 20000 in
theorem ar_305 {L : Int} : zv_ar (GM L) 305 .int 3200 := gm_ar L 305 .int 3200 rfl rfl
set_option maxRecDepth 20000 in
theorem ar_306 {L : Int} : zv_ar (GM L) 306 .long 14 := gm_ar L 306 .long 14 rfl rfl
set_option maxRecDepth 20000 in
theorem ar_307 {L : Int} : zv_ar (GM L) 307 .long 12 := gm_ar L 307 .long 12 rfl rfl
set_option maxRecDepth 20000 in
theorem ar_308 {L : Int} : zv_ar (GM L) 308 .int 20 := gm_ar L 308 .int 20 rfl rfl
set_option maxRecDepth 20000 in
theorem ar_309 {L : Int} : zv_ar (GM L) 309 .int 20 := gm_ar L 309 .int 20 rfl rfl
set_option maxRecDepth 20000 in
theorem ar_310 {L : Int} : zv_ar (GM L) 310 .boolean 20 := gm_ar L 310 .boolean 20 rfl rfl
set_option maxRecDepth 20000 in
theorem ar_311 {L : Int} : zv_ar (GM L) 311 .int 20 := gm_ar L 311 .int 20 rfl rfl
set_option maxRecDepth 20000 in
theorem ar_312 {L : Int} : zv_ar (GM L) 312 .int 20 := gm_ar L 312 .int 20 rfl rfl
set_option maxRecDepth 20000 in
theorem ar_313 {L : Int} : zv_ar (GM L) 313 .int 500 := gm_ar L 313 .int 500 rfl rfl
set_option maxRecDepth 20000 in
theorem ar_314 {L : Int} : zv_ar (GM L) 314 .int 6 := gm_ar L 314 .int 6 rfl rfl
set_option maxRecDepth 20000 in
theorem ar_315 {L : Int} : zv_ar (GM L) 315 .int 22 := gm_ar L 315 .int 22 rfl rfl
set_option maxRecDepth 20000 in
theorem ar_316 {L : Int} : zv_ar (GM L) 316 .int 154 := gm_ar L 316 .int 154 rfl rfl
set_option maxRecDepth 20000 in
theorem ar_317 {L : Int} : zv_ar (GM L) 317 .int 154 := gm_ar L 317 .int 154 rfl rfl
set_option maxRecDepth 20000 in
theorem ar_318 {L : Int} : zv_ar (GM L) 318 .int 154 := gm_ar L 318 .int 154 rfl rfl
set_option maxRecDepth 20000 in
theorem ar_319 {L : Int} : zv_ar (GM L) 319 .int 132 := gm_ar L 319 .int 132 rfl rfl
set_option maxRecDepth 20000 in
theorem ar_320 {L : Int} : zv_ar (GM L) 320 .int 132 := gm_ar L 320 .int 132 rfl rfl
set_option maxRecDepth 20000 in
theorem ar_321 {L : Int} : zv_ar (GM L) 321 .int 132 := gm_ar L 321 .int 132 rfl rfl
set_option maxRecDepth 20000 in
theorem ar_322 {L : Int} : zv_ar (GM L) 322 .int 132 := gm_ar L 322 .int 132 rfl rfl
set_option maxRecDepth 20000 in
theorem ar_323 {L : Int} : zv_ar (GM L) 323 .int 132 := gm_ar L 323 .int 132 rfl rfl
set_option maxRecDepth 20000 in
theorem ar_324 {L : Int} : zv_ar (GM L) 324 .int 924 := gm_ar L 324 .int 924 rfl rfl
set_option maxRecDepth 20000 in
theorem ar_325 {L : Int} : zv_ar (GM L) 325 .int 22 := gm_ar L 325 .int 22 rfl rfl
set_option maxRecDepth 20000 in
theorem ar_326 {L : Int} : zv_ar (GM L) 326 .int 5280 := gm_ar L 326 .int 5280 rfl rfl
set_option maxRecDepth 20000 in
theorem ar_327 {L : Int} : zv_ar (GM L) 327 .long 500 := gm_ar L 327 .long 500 rfl rfl
set_option maxRecDepth 20000 in
theorem ar_328 {L : Int} : zv_ar (GM L) 328 .int 12 := gm_ar L 328 .int 12 rfl rfl
set_option maxRecDepth 20000 in
theorem ar_329 {L : Int} : zv_ar (GM L) 329 .int 4 := gm_ar L 329 .int 4 rfl rfl
set_option maxRecDepth 20000 in
theorem ar_330 {L : Int} : zv_ar (GM L) 330 .int 4 := gm_ar L 330 .int 4 rfl rfl
set_option maxRecDepth 20000 in
theorem ar_331 {L : Int} : zv_ar (GM L) 331 .int 6 := gm_ar L 331 .int 6 rfl rfl
set_option maxRecDepth 20000 in
theorem ar_332 {L : Int} : zv_ar (GM L) 332 .int 16 := gm_ar L 332 .int 16 rfl rfl
set_option maxRecDepth 20000 in
theorem ar_333 {L : Int} : zv_ar (GM L) 333 .int 16 := gm_ar L 333 .int 16 rfl rfl
set_option maxRecDepth 20000 in
theorem ar_334 {L : Int} : zv_ar (GM L) 334 .int 120 := gm_ar L 334 .int 120 rfl rfl
abbrev stL : List Int := [30, 41, 64, 75, 86, 97, 108, 119, 130, 141, 152, 163, 174, 185, 196, 207, 218, 229, 240, 251, 262, 273]
set_option maxRecDepth 20000 in
theorem st_ob {L a : Int} (h : a ∈ stL) : zv_ob (GM L) a 8 := by
  simp only [stL, List.mem_cons, List.not_mem_nil, or_false] at h
  rcases h with rfl | rfl | rfl | rfl | rfl | rfl | rfl | rfl | rfl | rfl | rfl | rfl | rfl | rfl | rfl | rfl | rfl | rfl | rfl | rfl | rfl | rfl
  · exact ob_30
  · exact ob_41
  · exact ob_64
  · exact ob_75
  · exact ob_86
  · exact ob_97
  · exact ob_108
  · exact ob_119
  · exact ob_130
  · exact ob_141
  · exact ob_152
  · exact ob_163
  · exact ob_174
  · exact ob_185
  · exact ob_196
  · exact ob_207
  · exact ob_218
  · exact ob_229
  · exact ob_240
  · exact ob_251
  · exact ob_262
  · exact ob_273
set_option maxRecDepth 20000 in
theorem st_pos {a : Int} (h : a ∈ stL) : 0 < a := by
  simp only [stL, List.mem_cons, List.not_mem_nil, or_false] at h
  rcases h with rfl | rfl | rfl | rfl | rfl | rfl | rfl | rfl | rfl | rfl | rfl | rfl | rfl | rfl | rfl | rfl | rfl | rfl | rfl | rfl | rfl | rfl
  · exact by omega
  · exact by omega
  · exact by omega
  · exact by omega
  · exact by omega
  · exact by omega
  · exact by omega
  · exact by omega
  · exact by omega
  · exact by omega
  · exact by omega
  · exact by omega
  · exact by omega
  · exact by omega
  · exact by omega
  · exact by omega
  · exact by omega
  · exact by omega
  · exact by omega
  · exact by omega
  · exact by omega
  · exact by omega
set_option maxRecDepth 20000 in
theorem st_fx_0 {L a : Int} (h : a ∈ stL) : (GM L).2 a 0 = none := by
  simp only [stL, List.mem_cons, List.not_mem_nil, or_false] at h
  rcases h with rfl | rfl | rfl | rfl | rfl | rfl | rfl | rfl | rfl | rfl | rfl | rfl | rfl | rfl | rfl | rfl | rfl | rfl | rfl | rfl | rfl | rfl
  · exact fx_30_0
  · exact fx_41_0
  · exact fx_64_0
  · exact fx_75_0
  · exact fx_86_0
  · exact fx_97_0
  · exact fx_108_0
  · exact fx_119_0
  · exact fx_130_0
  · exact fx_141_0
  · exact fx_152_0
  · exact fx_163_0
  · exact fx_174_0
  · exact fx_185_0
  · exact fx_196_0
  · exact fx_207_0
  · exact fx_218_0
  · exact fx_229_0
  · exact fx_240_0
  · exact fx_251_0
  · exact fx_262_0
  · exact fx_273_0
set_option maxRecDepth 20000 in
theorem st_fx_1 {L a : Int} (h : a ∈ stL) : (GM L).2 a 1 = some (a + 1) := by
  simp only [stL, List.mem_cons, List.not_mem_nil, or_false] at h
  rcases h with rfl | rfl | rfl | rfl | rfl | rfl | rfl | rfl | rfl | rfl | rfl | rfl | rfl | rfl | rfl | rfl | rfl | rfl | rfl | rfl | rfl | rfl
  · exact fx_30_1
  · exact fx_41_1
  · exact fx_64_1
  · exact fx_75_1
  · exact fx_86_1
  · exact fx_97_1
  · exact fx_108_1
  · exact fx_119_1
  · exact fx_130_1
  · exact fx_141_1
  · exact fx_152_1
  · exact fx_163_1
  · exact fx_174_1
  · exact fx_185_1
  · exact fx_196_1
  · exact fx_207_1
  · exact fx_218_1
  · exact fx_229_1
  · exact fx_240_1
  · exact fx_251_1
  · exact fx_262_1
  · exact fx_273_1
set_option maxRecDepth 20000 in
theorem st_ar_1 {L a : Int} (h : a ∈ stL) : zv_ar (GM L) (a + 1) .int 7 := by
  simp only [stL, List.mem_cons, List.not_mem_nil, or_false] at h
  rcases h with rfl | rfl | rfl | rfl | rfl | rfl | rfl | rfl | rfl | rfl | rfl | rfl | rfl | rfl | rfl | rfl | rfl | rfl | rfl | rfl | rfl | rfl
  · exact ar_31
  · exact ar_42
  · exact ar_65
  · exact ar_76
  · exact ar_87
  · exact ar_98
  · exact ar_109
  · exact ar_120
  · exact ar_131
  · exact ar_142
  · exact ar_153
  · exact ar_164
  · exact ar_175
  · exact ar_186
  · exact ar_197
  · exact ar_208
  · exact ar_219
  · exact ar_230
  · exact ar_241
  · exact ar_252
  · exact ar_263
  · exact ar_274
set_option maxRecDepth 20000 in
theorem st_fx_2 {L a : Int} (h : a ∈ stL) : (GM L).2 a 2 = some (a + 2) := by
  simp only [stL, List.mem_cons, List.not_mem_nil, or_false] at h
  rcases h with rfl | rfl | rfl | rfl | rfl | rfl | rfl | rfl | rfl | rfl | rfl | rfl | rfl | rfl | rfl | rfl | rfl | rfl | rfl | rfl | rfl | rfl
  · exact fx_30_2
  · exact fx_41_2
  · exact fx_64_2
  · exact fx_75_2
  · exact fx_86_2
  · exact fx_97_2
  · exact fx_108_2
  · exact fx_119_2
  · exact fx_130_2
  · exact fx_141_2
  · exact fx_152_2
  · exact fx_163_2
  · exact fx_174_2
  · exact fx_185_2
  · exact fx_196_2
  · exact fx_207_2
  · exact fx_218_2
  · exact fx_229_2
  · exact fx_240_2
  · exact fx_251_2
  · exact fx_262_2
  · exact fx_273_2
set_option maxRecDepth 20000 in
theorem st_ar_2 {L a : Int} (h : a ∈ stL) : zv_ar (GM L) (a + 2) .int 7 := by
  simp only [stL, List.mem_cons, List.not_mem_nil, or_false] at h
  rcases h with rfl | rfl | rfl | rfl | rfl | rfl | rfl | rfl | rfl | rfl | rfl | rfl | rfl | rfl | rfl | rfl | rfl | rfl | rfl | rfl | rfl | rfl
  · exact ar_32
  · exact ar_43
  · exact ar_66
  · exact ar_77
  · exact ar_88
  · exact ar_99
  · exact ar_110
  · exact ar_121
  · exact ar_132
  · exact ar_143
  · exact ar_154
  · exact ar_165
  · exact ar_176
  · exact ar_187
  · exact ar_198
  · exact ar_209
  · exact ar_220
  · exact ar_231
  · exact ar_242
  · exact ar_253
  · exact ar_264
  · exact ar_275
set_option maxRecDepth 20000 in
theorem st_fx_3 {L a : Int} (h : a ∈ stL) : (GM L).2 a 3 = some (a + 3) := by
  simp only [stL, List.mem_cons, List.not_mem_nil, or_false] at h
  rcases h with rfl | rfl | rfl | rfl | rfl | rfl | rfl | rfl | rfl | rfl | rfl | rfl | rfl | rfl | rfl | rfl | rfl | rfl | rfl | rfl | rfl | rfl
  · exact fx_30_3
  · exact fx_41_3
  · exact fx_64_3
  · exact fx_75_3
  · exact fx_86_3
  · exact fx_97_3
  · exact fx_108_3
  · exact fx_119_3
  · exact fx_130_3
  · exact fx_141_3
  · exact fx_152_3
  · exact fx_163_3
  · exact fx_174_3
  · exact fx_185_3
  · exact fx_196_3
  · exact fx_207_3
  · exact fx_218_3
  · exact fx_229_3
  · exact fx_240_3
  · exact fx_251_3
  · exact fx_262_3
  · exact fx_273_3
set_option maxRecDepth 20000 in
theorem st_ar_3 {L a : Int} (h : a ∈ stL) : zv_ar (GM L) (a + 3) .int 7 := by
  simp only [stL, List.mem_cons, List.not_mem_nil, or_false] at h
  rcases h with rfl | rfl | rfl | rfl | rfl | rfl | rfl | rfl | rfl | rfl | rfl | rfl | rfl | rfl | rfl | rfl | rfl | rfl | rfl | rfl | rfl | rfl
  · exact ar_33
  · exact ar_44
  · exact ar_67
  · exact ar_78
  · exact ar_89
  · exact ar_100
  · exact ar_111
  · exact ar_122
  · exact ar_133
  · exact ar_144
  · exact ar_155
  · exact ar_166
  · exact ar_177
  · exact ar_188
  · exact ar_199
  · exact ar_210
  · exact ar_221
  · exact ar_232
  · exact ar_243
  · exact ar_254
  · exact ar_265
  · exact ar_276
set_option maxRecDepth 20000 in
theorem st_fx_4 {L a : Int} (h : a ∈ stL) : (GM L).2 a 4 = some (a + 4) := by
  simp only [stL, List.mem_cons, List.not_mem_nil, or_false] at h
  rcases h with rfl | rfl | rfl | rfl | rfl | rfl | rfl | rfl | rfl | rfl | rfl | rfl | rfl | rfl | rfl | rfl | rfl | rfl | rfl | rfl | rfl | rfl
  · exact fx_30_4
  · exact fx_41_4
  · exact fx_64_4
  · exact fx_75_4
  · exact fx_86_4
  · exact fx_97_4
  · exact fx_108_4
  · exact fx_119_4
  · exact fx_130_4
  · exact fx_141_4
  · exact fx_152_4
  · exact fx_163_4
  · exact fx_174_4
  · exact fx_185_4
  · exact fx_196_4
  · exact fx_207_4
  · exact fx_218_4
  · exact fx_229_4
  · exact fx_240_4
  · exact fx_251_4
  · exact fx_262_4
  · exact fx_273_4
set_option maxRecDepth 20000 in
theorem st_ar_4 {L a : Int} (h : a ∈ stL) : zv_ar (GM L) (a + 4) .int 6 := by
  simp only [stL, List.mem_cons, List.not_mem_nil, or_false] at h
  rcases h with rfl | rfl | rfl | rfl | rfl | rfl | rfl | rfl | rfl | rfl | rfl | rfl | rfl | rfl | rfl | rfl | rfl | rfl | rfl | rfl | rfl | rfl
  · exact ar_34
  · exact ar_45
  · exact ar_68
  · exact ar_79
  · exact ar_90
  · exact ar_101
  · exact ar_112
  · exact ar_123
  · exact ar_134
  · exact ar_145
  · exact ar_156
  · exact ar_167
  · exact ar_178
  · exact ar_189
  · exact ar_200
  · exact ar_211
  · exact ar_222
  · exact ar_233
  · exact ar_244
  · exact ar_255
  · exact ar_266
  · exact ar_277
set_option maxRecDepth 20000 in
theorem st_fx_5 {L a : Int} (h : a ∈ stL) : (GM L).2 a 5 = some (a + 5) := by
  simp only [stL, List.mem_cons, List.not_mem_nil, or_false] at h
  rcases h with rfl | rfl | rfl | rfl | rfl | rfl | rfl | rfl | rfl | rfl | rfl | rfl | rfl | rfl | rfl | rfl | rfl | rfl | rfl | rfl | rfl | rfl
  · exact fx_30_5
  · exact fx_41_5
  · exact fx_64_5
  · exact fx_75_5
  · exact fx_86_5
  · exact fx_97_5
  · exact fx_108_5
  · exact fx_119_5
  · exact fx_130_5
  · exact fx_141_5
  · exact fx_152_5
  · exact fx_163_5
  · exact fx_174_5
  · exact fx_185_5
  · exact fx_196_5
  · exact fx_207_5
  · exact fx_218_5
  · exact fx_229_5
  · exact fx_240_5
  · exact fx_251_5
  · exact fx_262_5
  · exact fx_273_5
set_option maxRecDepth 20000 in
theorem st_ar_5 {L a : Int} (h : a ∈ stL) : zv_ar (GM L) (a + 5) .int 6 := by
  simp only [stL, List.mem_cons, List.not_mem_nil, or_false] at h
  rcases h with rfl | rfl | rfl | rfl | rfl | rfl | rfl | rfl | rfl | rfl | rfl | rfl | rfl | rfl | rfl | rfl | rfl | rfl | rfl | rfl | rfl | rfl
  · exact ar_35
  · exact ar_46
  · exact ar_69
  · exact ar_80
  · exact ar_91
  · exact ar_102
  · exact ar_113
  · exact ar_124
  · exact ar_135
  · exact ar_146
  · exact ar_157
  · exact ar_168
  · exact ar_179
  · exact ar_190
  · exact ar_201
  · exact ar_212
  · exact ar_223
  · exact ar_234
  · exact ar_245
  · exact ar_256
  · exact ar_267
  · exact ar_278
set_option maxRecDepth 20000 in
theorem st_fx_6 {L a : Int} (h : a ∈ stL) : (GM L).2 a 6 = some (a + 6) := by
  simp only [stL, List.mem_cons, List.not_mem_nil, or_false] at h
  rcases h with rfl | rfl | rfl | rfl | rfl | rfl | rfl | rfl | rfl | rfl | rfl | rfl | rfl | rfl | rfl | rfl | rfl | rfl | rfl | rfl | rfl | rfl
  · exact fx_30_6
  · exact fx_41_6
  · exact fx_64_6
  · exact fx_75_6
  · exact fx_86_6
  · exact fx_97_6
  · exact fx_108_6
  · exact fx_119_6
  · exact fx_130_6
  · exact fx_141_6
  · exact fx_152_6
  · exact fx_163_6
  · exact fx_174_6
  · exact fx_185_6
  · exact fx_196_6
  · exact fx_207_6
  · exact fx_218_6
  · exact fx_229_6
  · exact fx_240_6
  · exact fx_251_6
  · exact fx_262_6
  · exact fx_273_6
set_option maxRecDepth 20000 in
theorem st_ar_6 {L a : Int} (h : a ∈ stL) : zv_ar (GM L) (a + 6) .int 6 := by
  simp only [stL, List.mem_cons, List.not_mem_nil, or_false] at h
  rcases h with rfl | rfl | rfl | rfl | rfl | rfl | rfl | rfl | rfl | rfl | rfl | rfl | rfl | rfl | rfl | rfl | rfl | rfl | rfl | rfl | rfl | rfl
  · exact ar_36
  · exact ar_47
  · exact ar_70
  · exact ar_81
  · exact ar_92
  · exact ar_103
  · exact ar_114
  · exact ar_125
  · exact ar_136
  · exact ar_147
  · exact ar_158
  · exact ar_169
  · exact ar_180
  · exact ar_191
  · exact ar_202
  · exact ar_213
  · exact ar_224
  · exact ar_235
  · exact ar_246
  · exact ar_257
  · exact ar_268
  · exact ar_279
set_option maxRecDepth 20000 in
theorem st_fx_7 {L a : Int} (h : a ∈ stL) : (GM L).2 a 7 = some (a + 7) := by
  simp only [stL, List.mem_cons, List.not_mem_nil, or_false] at h
  rcases h with rfl | rfl | rfl | rfl | rfl | rfl | rfl | rfl | rfl | rfl | rfl | rfl | rfl | rfl | rfl | rfl | rfl | rfl | rfl | rfl | rfl | rfl
  · exact fx_30_7
  · exact fx_41_7
  · exact fx_64_7
  · exact fx_75_7
  · exact fx_86_7
  · exact fx_97_7
  · exact fx_108_7
  · exact fx_119_7
  · exact fx_130_7
  · exact fx_141_7
  · exact fx_152_7
  · exact fx_163_7
  · exact fx_174_7
  · exact fx_185_7
  · exact fx_196_7
  · exact fx_207_7
  · exact fx_218_7
  · exact fx_229_7
  · exact fx_240_7
  · exact fx_251_7
  · exact fx_262_7
  · exact fx_273_7
set_option maxRecDepth 20000 in
theorem st_ar_7 {L a : Int} (h : a ∈ stL) : zv_ar (GM L) (a + 7) .int 6 := by
  simp only [stL, List.mem_cons, List.not_mem_nil, or_false] at h
  rcases h with rfl | rfl | rfl | rfl | rfl | rfl | rfl | rfl | rfl | rfl | rfl | rfl | rfl | rfl | rfl | rfl | rfl | rfl | rfl | rfl | rfl | rfl
  · exact ar_37
  · exact ar_48
  · exact ar_71
  · exact ar_82
  · exact ar_93
  · exact ar_104
  · exact ar_115
  · exact ar_126
  · exact ar_137
  · exact ar_148
  · exact ar_159
  · exact ar_170
  · exact ar_181
  · exact ar_192
  · exact ar_203
  · exact ar_214
  · exact ar_225
  · exact ar_236
  · exact ar_247
  · exact ar_258
  · exact ar_269
  · exact ar_280
set_option maxRecDepth 20000 in
theorem st_fx_8 {L a : Int} (h : a ∈ stL) : (GM L).2 a 8 = some (a + 8) := by
  simp only [stL, List.mem_cons, List.not_mem_nil, or_false] at h
  rcases h with rfl | rfl | rfl | rfl | rfl | rfl | rfl | rfl | rfl | rfl | rfl | rfl | rfl | rfl | rfl | rfl | rfl | rfl | rfl | rfl | rfl | rfl
  · exact fx_30_8
  · exact fx_41_8
  · exact fx_64_8
  · exact fx_75_8
  · exact fx_86_8
  · exact fx_97_8
  · exact fx_108_8
  · exact fx_119_8
  · exact fx_130_8
  · exact fx_141_8
  · exact fx_152_8
  · exact fx_163_8
  · exact fx_174_8
  · exact fx_185_8
  · exact fx_196_8
  · exact fx_207_8
  · exact fx_218_8
  · exact fx_229_8
  · exact fx_240_8
  · exact fx_251_8
  · exact fx_262_8
  · exact fx_273_8
set_option maxRecDepth 20000 in
theorem st_ar_8 {L a : Int} (h : a ∈ stL) : zv_ar (GM L) (a + 8) .int 6 := by
  simp only [stL, List.mem_cons, List.not_mem_nil, or_false] at h
  rcases h with rfl | rfl | rfl | rfl | rfl | rfl | rfl | rfl | rfl | rfl | rfl | rfl | rfl | rfl | rfl | rfl | rfl | rfl | rfl | rfl | rfl | rfl
  · exact ar_38
  · exact ar_49
  · exact ar_72
  · exact ar_83
  · exact ar_94
  · exact ar_105
  · exact ar_116
  · exact ar_127
  · exact ar_138
  · exact ar_149
  · exact ar_160
  · exact ar_171
  · exact ar_182
  · exact ar_193
  · exact ar_204
  · exact ar_215
  · exact ar_226
  · exact ar_237
  · exact ar_248
  · exact ar_259
  · exact ar_270
  · exact ar_281
set_option maxRecDepth 20000 in
theorem st_fx_9 {L a : Int} (h : a ∈ stL) : (GM L).2 a 9 = some (a + 9) := by
  simp only [stL, List.mem_cons, List.not_mem_nil, or_false] at h
  rcases h with rfl | rfl | rfl | rfl | rfl | rfl | rfl | rfl | rfl | rfl | rfl | rfl | rfl | rfl | rfl | rfl | rfl | rfl | rfl | rfl | rfl | rfl
  · exact fx_30_9
  · exact fx_41_9
  · exact fx_64_9
  · exact fx_75_9
  · exact fx_86_9
  · exact fx_97_9
  · exact fx_108_9
  · exact fx_119_9
  · exact fx_130_9
  · exact fx_141_9
  · exact fx_152_9
  · exact fx_163_9
  · exact fx_174_9
  · exact fx_185_9
  · exact fx_196_9
  · exact fx_207_9
  · exact fx_218_9
  · exact fx_229_9
  · exact fx_240_9
  · exact fx_251_9
  · exact fx_262_9
  · exact fx_273_9
set_option maxRecDepth 20000 in
theorem st_ar_9 {L a : Int} (h : a ∈ stL) : zv_ar (GM L) (a + 9) .int 42 := by
  simp only [stL, List.mem_cons, List.not_mem_nil, or_false] at h
  rcases h with rfl | rfl | rfl | rfl | rfl | rfl | rfl | rfl | rfl | rfl | rfl | rfl | rfl | rfl | rfl | rfl | rfl | rfl | rfl | rfl | rfl | rfl
  · exact ar_39
  · exact ar_50
  · exact ar_73
  · exact ar_84
  · exact ar_95
  · exact ar_106
  · exact ar_117
  · exact ar_128
  · exact ar_139
  · exact ar_150
  · exact ar_161
  · exact ar_172
  · exact ar_183
  · exact ar_194
  · exact ar_205
  · exact ar_216
  · exact ar_227
  · exact ar_238
  · exact ar_249
  · exact ar_260
  · exact ar_271
  · exact ar_282
set_option maxRecDepth 20000 in
theorem st_fx_10 {L a : Int} (h : a ∈ stL) : (GM L).2 a 10 = some (a + 10) := by
  simp only [stL, List.mem_cons, List.not_mem_nil, or_false] at h
  rcases h with rfl | rfl | rfl | rfl | rfl | rfl | rfl | rfl | rfl | rfl | rfl | rfl | rfl | rfl | rfl | rfl | rfl | rfl | rfl | rfl | rfl | rfl
  · exact fx_30_10
  · exact fx_41_10
  · exact fx_64_10
  · exact fx_75_10
  · exact fx_86_10
  · exact fx_97_10
  · exact fx_108_10
  · exact fx_119_10
  · exact fx_130_10
  · exact fx_141_10
  · exact fx_152_10
  · exact fx_163_10
  · exact fx_174_10
  · exact fx_185_10
  · exact fx_196_10
  · exact fx_207_10
  · exact fx_218_10
  · exact fx_229_10
  · exact fx_240_10
  · exact fx_251_10
  · exact fx_262_10
  · exact fx_273_10
set_option maxRecDepth 20000 in
theorem st_ar_10 {L a : Int} (h : a ∈ stL) : zv_ar (GM L) (a + 10) .int 60 := by
  simp only [stL, List.mem_cons, List.not_mem_nil, or_false] at h
  rcases h with rfl | rfl | rfl | rfl | rfl | rfl | rfl | rfl | rfl | rfl | rfl | rfl | rfl | rfl | rfl | rfl | rfl | rfl | rfl | rfl | rfl | rfl
  · exact ar_40
  · exact ar_51
  · exact ar_74
  · exact ar_85
  · exact ar_96
  · exact ar_107
  · exact ar_118
  · exact ar_129
  · exact ar_140
  · exact ar_151
  · exact ar_162
  · exact ar_173
  · exact ar_184
  · exact ar_195
  · exact ar_206
  · exact ar_217
  · exact ar_228
  · exact ar_239
  · exact ar_250
  · exact ar_261
  · exact ar_272
  · exact ar_283
set_option maxRecDepth 20000 in
theorem st_fx_11 {L a : Int} (h : a ∈ stL) : (GM L).2 a 11 = none := by
  simp only [stL, List.mem_cons, List.not_mem_nil, or_false] at h
  rcases h with rfl | rfl | rfl | rfl | rfl | rfl | rfl | rfl | rfl | rfl | rfl | rfl | rfl | rfl | rfl | rfl | rfl | rfl | rfl | rfl | rfl | rfl
  · exact fx_30_11
  · exact fx_41_11
  · exact fx_64_11
  · exact fx_75_11
  · exact fx_86_11
  · exact fx_97_11
  · exact fx_108_11
  · exact fx_119_11
  · exact fx_130_11
  · exact fx_141_11
  · exact fx_152_11
  · exact fx_163_11
  · exact fx_174_11
  · exact fx_185_11
  · exact fx_196_11
  · exact fx_207_11
  · exact fx_218_11
  · exact fx_229_11
  · exact fx_240_11
  · exact fx_251_11
  · exact fx_262_11
  · exact fx_273_11
set_option maxRecDepth 20000 in
theorem st_fx_12 {L a : Int} (h : a ∈ stL) : (GM L).2 a 12 = none := by
  simp only [stL, List.mem_cons, List.not_mem_nil, or_false] at h
  rcases h with rfl | rfl | rfl | rfl | rfl | rfl | rfl | rfl | rfl | rfl | rfl | rfl | rfl | rfl | rfl | rfl | rfl | rfl | rfl | rfl | rfl | rfl
  · exact fx_30_12
  · exact fx_41_12
  · exact fx_64_12
  · exact fx_75_12
  · exact fx_86_12
  · exact fx_97_12
  · exact fx_108_12
  · exact fx_119_12
  · exact fx_130_12
  · exact fx_141_12
  · exact fx_152_12
  · exact fx_163_12
  · exact fx_174_12
  · exact fx_185_12
  · exact fx_196_12
  · exact fx_207_12
  · exact fx_218_12
  · exact fx_229_12
  · exact fx_240_12
  · exact fx_251_12
  · exact fx_262_12
  · exact fx_273_12
abbrev wrL : List Int := [4, 17]
set_option maxRecDepth 20000 in
theorem wr_ob {L a : Int} (h : a ∈ wrL) : zv_ob (GM L) a 10 := by
  simp only [wrL, List.mem_cons, List.not_mem_nil, or_false] at h
  rcases h with rfl | rfl
  · exact ob_4
  · exact ob_17
set_option maxRecDepth 20000 in
theorem wr_pos {a : Int} (h : a ∈ wrL) : 0 < a := by
  simp only [wrL, List.mem_cons, List.not_mem_nil, or_false] at h
  rcases h with rfl | rfl
  · exact by omega
  · exact by omega
set_option maxRecDepth 20000 in
theorem wr_fx_0 {L a : Int} (h : a ∈ wrL) : (GM L).2 a 0 = none := by
  simp only [wrL, List.mem_cons, List.not_mem_nil, or_false] at h
  rcases h with rfl | rfl
  · exact fx_4_0
  · exact fx_17_0
set_option maxRecDepth 20000 in
theorem wr_fx_1 {L a : Int} (h : a ∈ wrL) : (GM L).2 a 1 = none := by
  simp only [wrL, List.mem_cons, List.not_mem_nil, or_false] at h
  rcases h with rfl | rfl
  · exact fx_4_1
  · exact fx_17_1
set_option maxRecDepth 20000 in
theorem wr_fx_2 {L a : Int} (h : a ∈ wrL) : (GM L).2 a 2 = none := by
  simp only [wrL, List.mem_cons, List.not_mem_nil, or_false] at h
  rcases h with rfl | rfl
  · exact fx_4_2
  · exact fx_17_2
set_option maxRecDepth 20000 in
theorem wr_fx_3 {L a : Int} (h : a ∈ wrL) : (GM L).2 a 3 = none := by
  simp only [wrL, List.mem_cons, List.not_mem_nil, or_false] at h
  rcases h with rfl | rfl
  · exact fx_4_3
  · exact fx_17_3
set_option maxRecDepth 20000 in
theorem wr_fx_4 {L a : Int} (h : a ∈ wrL) : (GM L).2 a 4 = none := by
  simp only [wrL, List.mem_cons, List.not_mem_nil, or_false] at h
  rcases h with rfl | rfl
  · exact fx_4_4
  · exact fx_17_4
set_option maxRecDepth 20000 in
theorem wr_fx_5 {L a : Int} (h : a ∈ wrL) : (GM L).2 a 5 = some (a + 1) := by
  simp only [wrL, List.mem_cons, List.not_mem_nil, or_false] at h
  rcases h with rfl | rfl
  · exact fx_4_5
  · exact fx_17_5
set_option maxRecDepth 20000 in
theorem wr_ar_1 {L a : Int} (h : a ∈ wrL) : zv_ar (GM L) (a + 1) .int 7 := by
  simp only [wrL, List.mem_cons, List.not_mem_nil, or_false] at h
  rcases h with rfl | rfl
  · exact ar_5
  · exact ar_18
set_option maxRecDepth 20000 in
theorem wr_fx_6 {L a : Int} (h : a ∈ wrL) : (GM L).2 a 6 = some (a + 2) := by
  simp only [wrL, List.mem_cons, List.not_mem_nil, or_false] at h
  rcases h with rfl | rfl
  · exact fx_4_6
  · exact fx_17_6
set_option maxRecDepth 20000 in
theorem wr_ar_2 {L a : Int} (h : a ∈ wrL) : zv_ar (GM L) (a + 2) .int 7 := by
  simp only [wrL, List.mem_cons, List.not_mem_nil, or_false] at h
  rcases h with rfl | rfl
  · exact ar_6
  · exact ar_19
set_option maxRecDepth 20000 in
theorem wr_fx_7 {L a : Int} (h : a ∈ wrL) : (GM L).2 a 7 = some (a + 3) := by
  simp only [wrL, List.mem_cons, List.not_mem_nil, or_false] at h
  rcases h with rfl | rfl
  · exact fx_4_7
  · exact fx_17_7
set_option maxRecDepth 20000 in
theorem wr_ar_3 {L a : Int} (h : a ∈ wrL) : zv_ar (GM L) (a + 3) .int 7 := by
  simp only [wrL, List.mem_cons, List.not_mem_nil, or_false] at h
  rcases h with rfl | rfl
  · exact ar_7
  · exact ar_20
set_option maxRecDepth 20000 in
theorem wr_fx_8 {L a : Int} (h : a ∈ wrL) : (GM L).2 a 8 = some (a + 4) := by
  simp only [wrL, List.mem_cons, List.not_mem_nil, or_false] at h
  rcases h with rfl | rfl
  · exact fx_4_8
  · exact fx_17_8
set_option maxRecDepth 20000 in
theorem wr_ar_4 {L a : Int} (h : a ∈ wrL) : zv_ar (GM L) (a + 4) .int 7 := by
  simp only [wrL, List.mem_cons, List.not_mem_nil, or_false] at h
  rcases h with rfl | rfl
  · exact ar_8
  · exact ar_21
set_option maxRecDepth 20000 in
theorem wr_fx_9 {L a : Int} (h : a ∈ wrL) : (GM L).2 a 9 = some (a + 5) := by
  simp only [wrL, List.mem_cons, List.not_mem_nil, or_false] at h
  rcases h with rfl | rfl
  · exact fx_4_9
  · exact fx_17_9
set_option maxRecDepth 20000 in
theorem wr_ar_5 {L a : Int} (h : a ∈ wrL) : zv_ar (GM L) (a + 5) .int 6 := by
  simp only [wrL, List.mem_cons, List.not_mem_nil, or_false] at h
  rcases h with rfl | rfl
  · exact ar_9
  · exact ar_22
set_option maxRecDepth 20000 in
theorem wr_fx_10 {L a : Int} (h : a ∈ wrL) : (GM L).2 a 10 = some (a + 6) := by
  simp only [wrL, List.mem_cons, List.not_mem_nil, or_false] at h
  rcases h with rfl | rfl
  · exact fx_4_10
  · exact fx_17_10
set_option maxRecDepth 20000 in
theorem wr_ar_6 {L a : Int} (h : a ∈ wrL) : zv_ar (GM L) (a + 6) .int 6 := by
  simp only [wrL, List.mem_cons, List.not_mem_nil, or_false] at h
  rcases h with rfl | rfl
  · exact ar_10
  · exact ar_23
set_option maxRecDepth 20000 in
theorem wr_fx_11 {L a : Int} (h : a ∈ wrL) : (GM L).2 a 11 = some (a + 7) := by
  simp only [wrL, List.mem_cons, List.not_mem_nil, or_false] at h
  rcases h with rfl | rfl
  · exact fx_4_11
  · exact fx_17_11
set_option maxRecDepth 20000 in
theorem wr_ar_7 {L a : Int} (h : a ∈ wrL) : zv_ar (GM L) (a + 7) .int 6 := by
  simp only [wrL, List.mem_cons, List.not_mem_nil, or_false] at h
  rcases h with rfl | rfl
  · exact ar_11
  · exact ar_24
set_option maxRecDepth 20000 in
theorem wr_fx_12 {L a : Int} (h : a ∈ wrL) : (GM L).2 a 12 = some (a + 8) := by
  simp only [wrL, List.mem_cons, List.not_mem_nil, or_false] at h
  rcases h with rfl | rfl
  · exact fx_4_12
  · exact fx_17_12
set_option maxRecDepth 20000 in
theorem wr_ob_8 {L a : Int} (h : a ∈ wrL) : zv_ob (GM L) (a + 8) 1 := by
  simp only [wrL, List.mem_cons, List.not_mem_nil, or_false] at h
  rcases h with rfl | rfl
  · exact ob_12
  · exact ob_25
set_option maxRecDepth 20000 in
theorem wr_fx_8_0 {L a : Int} (h : a ∈ wrL) : (GM L).2 (a + 8) 0 = some (a + 9) := by
  simp only [wrL, List.mem_cons, List.not_mem_nil, or_false] at h
  rcases h with rfl | rfl
  · exact fx_12_0
  · exact fx_25_0
set_option maxRecDepth 20000 in
theorem wr_ar_9 {L a : Int} (h : a ∈ wrL) : zv_ar (GM L) (a + 9) .int 1600 := by
  simp only [wrL, List.mem_cons, List.not_mem_nil, or_false] at h
  rcases h with rfl | rfl
  · exact ar_13
  · exact ar_26
set_option maxRecDepth 20000 in
theorem wr_fx_8_1 {L a : Int} (h : a ∈ wrL) : (GM L).2 (a + 8) 1 = none := by
  simp only [wrL, List.mem_cons, List.not_mem_nil, or_false] at h
  rcases h with rfl | rfl
  · exact fx_12_1
  · exact fx_25_1
set_option maxRecDepth 20000 in
theorem wr_fx_13 {L a : Int} (h : a ∈ wrL) : (GM L).2 a 13 = some (a + 10) := by
  simp only [wrL, List.mem_cons, List.not_mem_nil, or_false] at h
  rcases h with rfl | rfl
  · exact fx_4_13
  · exact fx_17_13
set_option maxRecDepth 20000 in
theorem wr_ob_10 {L a : Int} (h : a ∈ wrL) : zv_ob (GM L) (a + 10) 1 := by
  simp only [wrL, List.mem_cons, List.not_mem_nil, or_false] at h
  rcases h with rfl | rfl
  · exact ob_14
  · exact ob_27
set_option maxRecDepth 20000 in
theorem wr_fx_10_0 {L a : Int} (h : a ∈ wrL) : (GM L).2 (a + 10) 0 = some (a + 11) := by
  simp only [wrL, List.mem_cons, List.not_mem_nil, or_false] at h
  rcases h with rfl | rfl
  · exact fx_14_0
  · exact fx_27_0
set_option maxRecDepth 20000 in
theorem wr_ar_11 {L a : Int} (h : a ∈ wrL) : zv_ar (GM L) (a + 11) .int 1600 := by
  simp only [wrL, List.mem_cons, List.not_mem_nil, or_false] at h
  rcases h with rfl | rfl
  · exact ar_15
  · exact ar_28
set_option maxRecDepth 20000 in
theorem wr_fx_10_1 {L a : Int} (h : a ∈ wrL) : (GM L).2 (a + 10) 1 = none := by
  simp only [wrL, List.mem_cons, List.not_mem_nil, or_false] at h
  rcases h with rfl | rfl
  · exact fx_14_1
  · exact fx_27_1
set_option maxRecDepth 20000 in
theorem wr_fx_14 {L a : Int} (h : a ∈ wrL) : (GM L).2 a 14 = some (a + 12) := by
  simp only [wrL, List.mem_cons, List.not_mem_nil, or_false] at h
  rcases h with rfl | rfl
  · exact fx_4_14
  · exact fx_17_14
set_option maxRecDepth 20000 in
theorem wr_ar_12 {L a : Int} (h : a ∈ wrL) : zv_ar (GM L) (a + 12) .int 49 := by
  simp only [wrL, List.mem_cons, List.not_mem_nil, or_false] at h
  rcases h with rfl | rfl
  · exact ar_16
  · exact ar_29
abbrev fmL : List Int := [12, 14, 25, 27]
set_option maxRecDepth 20000 in
theorem fm_ob {L a : Int} (h : a ∈ fmL) : zv_ob (GM L) a 1 := by
  simp only [fmL, List.mem_cons, List.not_mem_nil, or_false] at h
  rcases h with rfl | rfl | rfl | rfl
  · exact ob_12
  · exact ob_14
  · exact ob_25
  · exact ob_27
set_option maxRecDepth 20000 in
theorem fm_pos {a : Int} (h : a ∈ fmL) : 0 < a := by
  simp only [fmL, List.mem_cons, List.not_mem_nil, or_false] at h
  rcases h with rfl | rfl | rfl | rfl
  · exact by omega
  · exact by omega
  · exact by omega
  · exact by omega
set_option maxRecDepth 20000 in
theorem fm_fx_0 {L a : Int} (h : a ∈ fmL) : (GM L).2 a 0 = some (a + 1) := by
  simp only [fmL, List.mem_cons, List.not_mem_nil, or_false] at h
  rcases h with rfl | rfl | rfl | rfl
  · exact fx_12_0
  · exact fx_14_0
  · exact fx_25_0
  · exact fx_27_0
set_option maxRecDepth 20000 in
theorem fm_ar_1 {L a : Int} (h : a ∈ fmL) : zv_ar (GM L) (a + 1) .int 1600 := by
  simp only [fmL, List.mem_cons, List.not_mem_nil, or_false] at h
  rcases h with rfl | rfl | rfl | rfl
  · exact ar_13
  · exact ar_15
  · exact ar_26
  · exact ar_28
set_option maxRecDepth 20000 in
theorem fm_fx_1 {L a : Int} (h : a ∈ fmL) : (GM L).2 a 1 = none := by
  simp only [fmL, List.mem_cons, List.not_mem_nil, or_false] at h
  rcases h with rfl | rfl | rfl | rfl
  · exact fx_12_1
  · exact fx_14_1
  · exact fx_25_1
  · exact fx_27_1
set_option maxRecDepth 20000 in
theorem st_acts {L k : Int} (h0 : 0 ≤ k) (h1 : k < 20) : (GM L).2 63 k = some (64 + 11 * k) ∧ 64 + 11 * k ∈ stL := by
  have h : k = 0 ∨ k = 1 ∨ k = 2 ∨ k = 3 ∨ k = 4 ∨ k = 5 ∨ k = 6 ∨ k = 7 ∨ k = 8 ∨ k = 9 ∨ k = 10 ∨ k = 11 ∨ k = 12 ∨ k = 13 ∨ k = 14 ∨ k = 15 ∨ k = 16 ∨ k = 17 ∨ k = 18 ∨ k = 19 := by omega
  rcases h with rfl | rfl | rfl | rfl | rfl | rfl | rfl | rfl | rfl | rfl | rfl | rfl | rfl | rfl | rfl | rfl | rfl | rfl | rfl | rfl <;> exact ⟨rfl, by decide⟩
/-! FORMS OF CONTRACTS -/
def zFn (r0 : Option zv_A) (G : zv_W) (σ0 : zv_H) : zv_P := fun r G' σ' => r = r0 ∧ G' = G ∧ σ' = σ0
def zPI (G : zv_W) (post : Int → zv_H → Prop) : zv_P := fun r G' σ' => G' = G ∧ ∃ z, r = some (zI z) ∧ post z σ'
def zPL (G : zv_W) (post : Int → zv_H → Prop) : zv_P := fun r G' σ' => G' = G ∧ ∃ z, r = some (zL z) ∧ post z σ'
def zP0 (G : zv_W) (post : zv_H → Prop) : zv_P := fun r G' σ' => G' = G ∧ r = none ∧ post σ'
section ZF
variable {Γ : zv_M} {y : zv_Y} {f mc ms : Nat} {Q : zv_P} {G : zv_W} {u : Nat × Nat} {pc pc' k : Nat} {ls : List (Option zv_A)} {st : List zv_A} {σ : zv_H}
variable {y' : zv_Y} {f' idx n ci : Nat} {b : Int} {as rest : List zv_A}
theorem zu0 : ((u.1 + 0, u.2 + 0) : Nat × Nat) = u := rfl
theorem zfV1 {q : zv_A} {σ1 : zv_H} (hd : y.2.2.2.2[k]? = some (pc, .invokevirtual idx, 3, pc')) (hC : zC Γ y' f' 0 0 G (zR b :: as) σ (zFn (some q) G σ1)) (hM : zv_mV y' n) (hk : zv_lk y.1.cls idx y') (hst : st = as.reverse ++ zR b :: rest) (hn : as.length = n) (hb : zv_ob G b ci) (hbc : ∃ r : vw_C, vwCl[ci]? = some r ∧ r.1 = y'.1.cls) (hz : zcat rest ≤ 8) (hf : f' + 1 ≤ f) (hu : u.1 ≤ mc ∧ u.2 ≤ ms) (kk : zV Γ y f mc ms Q G u pc' ls (q :: rest) σ1) : zV Γ y f mc ms Q G u pc ls st σ :=
  zcallV hd hC hM hk hst hn hb hbc hz hf hu.1 hu.2 (fun r G' σ' h => by obtain ⟨rfl, rfl, rfl⟩ := h; exact kk)
theorem zfV0 {σ1 : zv_H} (hd : y.2.2.2.2[k]? = some (pc, .invokevirtual idx, 3, pc')) (hC : zC Γ y' f' 0 0 G (zR b :: as) σ (zFn none G σ1)) (hM : zv_mV y' n) (hk : zv_lk y.1.cls idx y') (hst : st = as.reverse ++ zR b :: rest) (hn : as.length = n) (hb : zv_ob G b ci) (hbc : ∃ r : vw_C, vwCl[ci]? = some r ∧ r.1 = y'.1.cls) (hz : zcat rest ≤ 8) (hf : f' + 1 ≤ f) (hu : u.1 ≤ mc ∧ u.2 ≤ ms) (kk : zV Γ y f mc ms Q G u pc' ls rest σ1) : zV Γ y f mc ms Q G u pc ls st σ :=
  zcallV hd hC hM hk hst hn hb hbc hz hf hu.1 hu.2 (fun r G' σ' h => by obtain ⟨rfl, rfl, rfl⟩ := h; exact kk)
theorem zpVI {post : Int → zv_H → Prop} (hd : y.2.2.2.2[k]? = some (pc, .invokevirtual idx, 3, pc')) (hC : zC Γ y' f' 0 0 G (zR b :: as) σ (zPI G post)) (hM : zv_mV y' n) (hk : zv_lk y.1.cls idx y') (hst : st = as.reverse ++ zR b :: rest) (hn : as.length = n) (hb : zv_ob G b ci) (hbc : ∃ r : vw_C, vwCl[ci]? = some r ∧ r.1 = y'.1.cls) (hz : zcat rest ≤ 8) (hf : f' + 1 ≤ f) (hu : u.1 ≤ mc ∧ u.2 ≤ ms) (kk : ∀ (z : Int) (σ' : zv_H), post z σ' → zV Γ y f mc ms Q G u pc' ls (zI z :: rest) σ') : zV Γ y f mc ms Q G u pc ls st σ :=
  zcallV hd hC hM hk hst hn hb hbc hz hf hu.1 hu.2 (fun r G' σ' h => by obtain ⟨rfl, z, rfl, h⟩ := h; exact kk z σ' h)
theorem zpVL {post : Int → zv_H → Prop} (hd : y.2.2.2.2[k]? = some (pc, .invokevirtual idx, 3, pc')) (hC : zC Γ y' f' 0 0 G (zR b :: as) σ (zPL G post)) (hM : zv_mV y' n) (hk : zv_lk y.1.cls idx y') (hst : st = as.reverse ++ zR b :: rest) (hn : as.length = n) (hb : zv_ob G b ci) (hbc : ∃ r : vw_C, vwCl[ci]? = some r ∧ r.1 = y'.1.cls) (hz : zcat rest ≤ 8) (hf : f' + 1 ≤ f) (hu : u.1 ≤ mc ∧ u.2 ≤ ms) (kk : ∀ (z : Int) (σ' : zv_H), post z σ' → zV Γ y f mc ms Q G u pc' ls (zL z :: rest) σ') : zV Γ y f mc ms Q G u pc ls st σ :=
  zcallV hd hC hM hk hst hn hb hbc hz hf hu.1 hu.2 (fun r G' σ' h => by obtain ⟨rfl, z, rfl, h⟩ := h; exact kk z σ' h)
theorem zpV0 {post : zv_H → Prop} (hd : y.2.2.2.2[k]? = some (pc, .invokevirtual idx, 3, pc')) (hC : zC Γ y' f' 0 0 G (zR b :: as) σ (zP0 G post)) (hM : zv_mV y' n) (hk : zv_lk y.1.cls idx y') (hst : st = as.reverse ++ zR b :: rest) (hn : as.length = n) (hb : zv_ob G b ci) (hbc : ∃ r : vw_C, vwCl[ci]? = some r ∧ r.1 = y'.1.cls) (hz : zcat rest ≤ 8) (hf : f' + 1 ≤ f) (hu : u.1 ≤ mc ∧ u.2 ≤ ms) (kk : ∀ (σ' : zv_H), post σ' → zV Γ y f mc ms Q G u pc' ls rest σ') : zV Γ y f mc ms Q G u pc ls st σ :=
  zcallV hd hC hM hk hst hn hb hbc hz hf hu.1 hu.2 (fun r G' σ' h => by obtain ⟨rfl, rfl, h⟩ := h; exact kk σ' h)
theorem zfS1 {q : zv_A} {σ1 : zv_H} (hd : y.2.2.2.2[k]? = some (pc, .invokestatic idx, 3, pc')) (hC : zC Γ y' f' 0 0 G as σ (zFn (some q) G σ1)) (hM : zv_mS y' n) (hk : zv_lk y.1.cls idx y') (hst : st = as.reverse ++ rest) (hn : as.length = n) (hz : zcat rest ≤ 8) (hf : f' + 1 ≤ f) (hu : u.1 ≤ mc ∧ u.2 ≤ ms) (kk : zV Γ y f mc ms Q G u pc' ls (q :: rest) σ1) : zV Γ y f mc ms Q G u pc ls st σ :=
  zcallS hd hC hM hk hst hn hz hf hu.1 hu.2 (fun r G' σ' h => by obtain ⟨rfl, rfl, rfl⟩ := h; exact kk)
theorem zfS0 {σ1 : zv_H} (hd : y.2.2.2.2[k]? = some (pc, .invokestatic idx, 3, pc')) (hC : zC Γ y' f' 0 0 G as σ (zFn none G σ1)) (hM : zv_mS y' n) (hk : zv_lk y.1.cls idx y') (hst : st = as.reverse ++ rest) (hn : as.length = n) (hz : zcat rest ≤ 8) (hf : f' + 1 ≤ f) (hu : u.1 ≤ mc ∧ u.2 ≤ ms) (kk : zV Γ y f mc ms Q G u pc' ls rest σ1) : zV Γ y f mc ms Q G u pc ls st σ :=
  zcallS hd hC hM hk hst hn hz hf hu.1 hu.2 (fun r G' σ' h => by obtain ⟨rfl, rfl, rfl⟩ := h; exact kk)
theorem zpSI {post : Int → zv_H → Prop} (hd : y.2.2.2.2[k]? = some (pc, .invokestatic idx, 3, pc')) (hC : zC Γ y' f' 0 0 G as σ (zPI G post)) (hM : zv_mS y' n) (hk : zv_lk y.1.cls idx y') (hst : st = as.reverse ++ rest) (hn : as.length = n) (hz : zcat rest ≤ 8) (hf : f' + 1 ≤ f) (hu : u.1 ≤ mc ∧ u.2 ≤ ms) (kk : ∀ (z : Int) (σ' : zv_H), post z σ' → zV Γ y f mc ms Q G u pc' ls (zI z :: rest) σ') : zV Γ y f mc ms Q G u pc ls st σ :=
  zcallS hd hC hM hk hst hn hz hf hu.1 hu.2 (fun r G' σ' h => by obtain ⟨rfl, z, rfl, h⟩ := h; exact kk z σ' h)
theorem zpSL {post : Int → zv_H → Prop} (hd : y.2.2.2.2[k]? = some (pc, .invokestatic idx, 3, pc')) (hC : zC Γ y' f' 0 0 G as σ (zPL G post)) (hM : zv_mS y' n) (hk : zv_lk y.1.cls idx y') (hst : st = as.reverse ++ rest) (hn : as.length = n) (hz : zcat rest ≤ 8) (hf : f' + 1 ≤ f) (hu : u.1 ≤ mc ∧ u.2 ≤ ms) (kk : ∀ (z : Int) (σ' : zv_H), post z σ' → zV Γ y f mc ms Q G u pc' ls (zL z :: rest) σ') : zV Γ y f mc ms Q G u pc ls st σ :=
  zcallS hd hC hM hk hst hn hz hf hu.1 hu.2 (fun r G' σ' h => by obtain ⟨rfl, z, rfl, h⟩ := h; exact kk z σ' h)
theorem zpS0 {post : zv_H → Prop} (hd : y.2.2.2.2[k]? = some (pc, .invokestatic idx, 3, pc')) (hC : zC Γ y' f' 0 0 G as σ (zP0 G post)) (hM : zv_mS y' n) (hk : zv_lk y.1.cls idx y') (hst : st = as.reverse ++ rest) (hn : as.length = n) (hz : zcat rest ≤ 8) (hf : f' + 1 ≤ f) (hu : u.1 ≤ mc ∧ u.2 ≤ ms) (kk : ∀ (σ' : zv_H), post σ' → zV Γ y f mc ms Q G u pc' ls rest σ') : zV Γ y f mc ms Q G u pc ls st σ :=
  zcallS hd hC hM hk hst hn hz hf hu.1 hu.2 (fun r G' σ' h => by obtain ⟨rfl, rfl, h⟩ := h; exact kk σ' h)
end ZF
