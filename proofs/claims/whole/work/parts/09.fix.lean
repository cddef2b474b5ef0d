/-! THE FIXED OBJECTS: where they lie, of what shape, to whom they point -/
def S0 : List (Nat × Nat) := [(11, 0), (10, 0), (15, 6), (1, 0), (13, 12), (13, 12), (1, 0), (13, 12), (13, 12), (1, 0), (13, 12), (13, 12), (1, 0), (13, 12), (13, 12), (1, 0), (13, 12), (13, 12), (1, 0), (13, 12), (13, 12), (5, 0), (13, 4), (5, 0), (13, 4), (6, 0), (5, 0), (13, 420), (8, 0), (5, 0), (13, 20), (5, 0), (13, 6), (5, 0), (13, 8), (5, 0), (13, 8), (17, 3), (10, 0), (15, 6), (1, 0), (13, 12), (13, 12), (1, 0), (13, 12), (13, 12), (1, 0), (13, 12), (13, 12), (1, 0), (13, 12), (13, 12), (1, 0), (13, 12), (13, 12), (1, 0), (13, 12), (13, 12), (5, 0), (13, 4), (5, 0), (13, 4), (6, 0), (5, 0), (13, 420), (8, 0), (5, 0), (13, 20), (5, 0), (13, 6), (5, 0), (13, 8), (5, 0), (13, 8), (10, 0), (15, 6), (1, 0), (13, 12), (13, 12), (1, 0), (13, 12), (13, 12), (1, 0), (13, 12), (13, 12), (1, 0), (13, 12), (13, 12), (1, 0), (13, 12), (13, 12), (1, 0), (13, 12), (13, 12), (5, 0), (13, 4), (5, 0), (13, 4), (6, 0), (5, 0), (13, 420), (8, 0), (5, 0), (13, 20), (5, 0), (13, 6), (5, 0), (13, 8), (5, 0), (13, 8), (10, 0), (15, 6), (1, 0), (13, 12), (13, 12), (1, 0), (13, 12), (13, 12), (1, 0), (13, 12), (13, 12), (1, 0), (13, 12), (13, 12), (1, 0), (13, 12), (13, 12), (1, 0), (13, 12), (13, 12), (5, 0), (13, 4), (5, 0), (13, 4), (6, 0), (5, 0), (13, 420), (8, 0), (5, 0), (13, 20), (5, 0), (13, 6), (5, 0), (13, 8), (5, 0), (13, 8), (5, 0), (13, 400), (4, 0), (13, 400), (13, 400), (7, 0), (16, 4), (7, 0), (16, 3), (0, 0), (9, 0), (14, 10), (14, 8), (14, 64), (2, 0), (6, 0), (6, 0), (12, 0), (13, 400), (18, 7), (13, 400), (13, 400), (13, 400), (13, 400), (13, 400), (13, 400), (13, 400), (13, 7), (14, 10), (14, 8), (13, 6), (13, 6), (18, 6), (13, 12), (13, 12), (13, 12), (13, 12), (13, 12), (13, 12), (18, 6), (13, 12), (13, 12), (13, 12), (13, 12), (13, 12), (13, 12), (13, 4), (13, 4), (13, 6), (18, 60), (13, 7), (13, 7), (13, 7), (13, 7), (13, 7), (13, 7), (13, 7), (13, 7), (13, 7), (13, 7), (13, 7), (13, 7), (13, 7), (13, 7), (13, 7), (13, 7), (13, 7), (13, 7), (13, 7), (13, 7), (13, 7), (13, 7), (13, 7), (13, 7), (13, 7), (13, 7), (13, 7), (13, 7), (13, 7), (13, 7), (13, 7), (13, 7), (13, 7), (13, 7), (13, 7), (13, 7), (13, 7), (13, 7), (13, 7), (13, 7), (13, 7), (13, 7), (13, 7), (13, 7), (13, 7), (13, 7), (13, 7), (13, 7), (13, 7), (13, 7), (13, 7), (13, 7), (13, 7), (13, 7), (13, 7), (13, 7), (13, 7), (13, 7), (13, 7), (13, 7), (13, 20), (13, 20), (13, 20), (18, 6), (13, 2), (13, 2), (13, 2), (13, 2), (13, 2), (13, 2), (18, 8), (13, 2), (13, 2), (13, 2), (13, 2), (13, 2), (13, 2), (13, 2), (13, 2), (18, 3), (13, 800), (13, 800), (13, 800), (14, 1)]
def RT : List (List Nat) := [[5, 41, 150, 152, 155, 157, 159, 0, 0], [6, 0, 25, 27, 29, 30, 32, 35, 37, 39, 0], [7, 10, 13, 16, 19, 22], [0, 0, 8, 9], [], [], [0, 0, 11, 12], [], [], [0, 0, 14, 15], [], [], [0, 0, 17, 18], [], [], [0, 0, 20, 21], [], [], [0, 0, 23, 24], [], [], [26, 0], [], [28, 0], [], [0, 0, 0, 0, 0, 0], [31, 0], [], [33], [34, 0], [], [36, 0], [], [38, 0], [], [40, 0], [], [42, 78, 114], [43, 0, 62, 64, 66, 67, 69, 72, 74, 76, 0], [44, 47, 50, 53, 56, 59], [0, 0, 45, 46], [], [], [0, 0, 48, 49], [], [], [0, 0, 51, 52], [], [], [0, 0, 54, 55], [], [], [0, 0, 57, 58], [], [], [0, 0, 60, 61], [], [], [63, 0], [], [65, 0], [], [0, 0, 0, 0, 0, 0], [68, 0], [], [70], [71, 0], [], [73, 0], [], [75, 0], [], [77, 0], [], [79, 0, 98, 100, 102, 103, 105, 108, 110, 112, 0], [80, 83, 86, 89, 92, 95], [0, 0, 81, 82], [], [], [0, 0, 84, 85], [], [], [0, 0, 87, 88], [], [], [0, 0, 90, 91], [], [], [0, 0, 93, 94], [], [], [0, 0, 96, 97], [], [], [99, 0], [], [101, 0], [], [0, 0, 0, 0, 0, 0], [104, 0], [], [106], [107, 0], [], [109, 0], [], [111, 0], [], [113, 0], [], [115, 0, 134, 136, 138, 139, 141, 144, 146, 148, 0], [116, 119, 122, 125, 128, 131], [0, 0, 117, 118], [], [], [0, 0, 120, 121], [], [], [0, 0, 123, 124], [], [], [0, 0, 126, 127], [], [], [0, 0, 129, 130], [], [], [0, 0, 132, 133], [], [], [135, 0], [], [137, 0], [], [0, 0, 0, 0, 0, 0], [140, 0], [], [142], [143, 0], [], [145, 0], [], [147, 0], [], [149, 0], [], [151, 0], [], [153, 0, 154, 0, 0, 0, 0, 0, 0, 0, 0], [], [], [156, 0], [], [158, 0], [], [5, 160, 164, 165, 166, 0, 0, 0, 0], [161, 162, 163, 0, 0, 0], [], [], [], [0, 0, 0, 0, 0, 0], [0, 0, 0, 0, 0, 0], [0, 0, 0, 0, 0, 0], [0, 0, 0, 0, 0, 0, 0, 0, 0, 0, 168, 169, 177, 0, 0, 0, 178, 179, 0, 0, 180, 181, 182, 189, 196, 197, 198, 0, 0, 0, 0, 0, 199, 260, 261, 262, 263, 270, 0, 0, 0, 0, 0, 279, 0], [], [170, 171, 172, 173, 174, 175, 176], [], [], [], [], [], [], [], [], [], [], [], [], [183, 184, 185, 186, 187, 188], [], [], [], [], [], [], [190, 191, 192, 193, 194, 195], [], [], [], [], [], [], [], [], [], [200, 201, 202, 203, 204, 205, 206, 207, 208, 209, 210, 211, 212, 213, 214, 215, 216, 217, 218, 219, 220, 221, 222, 223, 224, 225, 226, 227, 228, 229, 230, 231, 232, 233, 234, 235, 236, 237, 238, 239, 240, 241, 242, 243, 244, 245, 246, 247, 248, 249, 250, 251, 252, 253, 254, 255, 256, 257, 258, 259], [], [], [], [], [], [], [], [], [], [], [], [], [], [], [], [], [], [], [], [], [], [], [], [], [], [], [], [], [], [], [], [], [], [], [], [], [], [], [], [], [], [], [], [], [], [], [], [], [], [], [], [], [], [], [], [], [], [], [], [], [], [], [], [264, 265, 266, 267, 268, 269], [], [], [], [], [], [], [271, 272, 273, 274, 275, 276, 277, 278], [], [], [], [], [], [], [], [], [280, 281, 282], [], [], [], []]
def R0 (a k : Nat) : Nat := (RT.getD (a - 4) []).getD k 0
def FxR (a : Nat) : Prop := a < 284 ∧ a ≠ 156 ∧ a ≠ 158
def Fx (m : MM) : Prop := (∃ ext, shp m = S0 ++ ext) ∧ ∀ a k, FxR a → ldR m a k = R0 a k
theorem fk {m : MM} (h : Fx m) (i : Nat) {q : Nat × Nat} (hi : S0[i]? = some q) : kdl m (i + 4) = some q := by
  obtain ⟨ext, he⟩ := h.1
  show (shp m)[i]? = some q
  rw [he, List.getElem?_append_left (List.getElem?_eq_some_iff.mp hi).1]; exact hi
theorem fr {m : MM} (h : Fx m) {a k b : Nat} (h1 : FxR a) (h2 : R0 a k = b) : ldR m a k = b := (h.2 a k h1).trans h2
theorem k_4 {m : MM} (h : Fx m) : kdl m 4 = some (11, 0) := fk h 0 rfl
theorem r_4_0 {m : MM} (h : Fx m) : ldR m 4 0 = 5 := fr h ⟨by decide, by decide, by decide⟩ rfl
theorem r_4_1 {m : MM} (h : Fx m) : ldR m 4 1 = 41 := fr h ⟨by decide, by decide, by decide⟩ rfl
theorem r_4_2 {m : MM} (h : Fx m) : ldR m 4 2 = 150 := fr h ⟨by decide, by decide, by decide⟩ rfl
theorem r_4_3 {m : MM} (h : Fx m) : ldR m 4 3 = 152 := fr h ⟨by decide, by decide, by decide⟩ rfl
theorem r_4_4 {m : MM} (h : Fx m) : ldR m 4 4 = 155 := fr h ⟨by decide, by decide, by decide⟩ rfl
theorem r_4_5 {m : MM} (h : Fx m) : ldR m 4 5 = 157 := fr h ⟨by decide, by decide, by decide⟩ rfl
theorem r_4_6 {m : MM} (h : Fx m) : ldR m 4 6 = 159 := fr h ⟨by decide, by decide, by decide⟩ rfl
theorem k_5 {m : MM} (h : Fx m) : kdl m 5 = some (10, 0) := fk h 1 rfl
theorem r_5_0 {m : MM} (h : Fx m) : ldR m 5 0 = 6 := fr h ⟨by decide, by decide, by decide⟩ rfl
theorem r_5_2 {m : MM} (h : Fx m) : ldR m 5 2 = 25 := fr h ⟨by decide, by decide, by decide⟩ rfl
theorem r_5_3 {m : MM} (h : Fx m) : ldR m 5 3 = 27 := fr h ⟨by decide, by decide, by decide⟩ rfl
theorem r_5_4 {m : MM} (h : Fx m) : ldR m 5 4 = 29 := fr h ⟨by decide, by decide, by decide⟩ rfl
theorem r_5_5 {m : MM} (h : Fx m) : ldR m 5 5 = 30 := fr h ⟨by decide, by decide, by decide⟩ rfl
theorem r_5_6 {m : MM} (h : Fx m) : ldR m 5 6 = 32 := fr h ⟨by decide, by decide, by decide⟩ rfl
theorem r_5_7 {m : MM} (h : Fx m) : ldR m 5 7 = 35 := fr h ⟨by decide, by decide, by decide⟩ rfl
theorem r_5_8 {m : MM} (h : Fx m) : ldR m 5 8 = 37 := fr h ⟨by decide, by decide, by decide⟩ rfl
theorem r_5_9 {m : MM} (h : Fx m) : ldR m 5 9 = 39 := fr h ⟨by decide, by decide, by decide⟩ rfl
theorem k_6 {m : MM} (h : Fx m) : kdl m 6 = some (15, 6) := fk h 2 rfl
theorem k_7 {m : MM} (h : Fx m) : kdl m 7 = some (1, 0) := fk h 3 rfl
theorem r_7_2 {m : MM} (h : Fx m) : ldR m 7 2 = 8 := fr h ⟨by decide, by decide, by decide⟩ rfl
theorem r_7_3 {m : MM} (h : Fx m) : ldR m 7 3 = 9 := fr h ⟨by decide, by decide, by decide⟩ rfl
theorem k_8 {m : MM} (h : Fx m) : kdl m 8 = some (13, 12) := fk h 4 rfl
theorem k_9 {m : MM} (h : Fx m) : kdl m 9 = some (13, 12) := fk h 5 rfl
theorem k_10 {m : MM} (h : Fx m) : kdl m 10 = some (1, 0) := fk h 6 rfl
theorem r_10_2 {m : MM} (h : Fx m) : ldR m 10 2 = 11 := fr h ⟨by decide, by decide, by decide⟩ rfl
theorem r_10_3 {m : MM} (h : Fx m) : ldR m 10 3 = 12 := fr h ⟨by decide, by decide, by decide⟩ rfl
theorem k_11 {m : MM} (h : Fx m) : kdl m 11 = some (13, 12) := fk h 7 rfl
theorem k_12 {m : MM} (h : Fx m) : kdl m 12 = some (13, 12) := fk h 8 rfl
theorem k_13 {m : MM} (h : Fx m) : kdl m 13 = some (1, 0) := fk h 9 rfl
theorem r_13_2 {m : MM} (h : Fx m) : ldR m 13 2 = 14 := fr h ⟨by decide, by decide, by decide⟩ rfl
theorem r_13_3 {m : MM} (h : Fx m) : ldR m 13 3 = 15 := fr h ⟨by decide, by decide, by decide⟩ rfl
theorem k_14 {m : MM} (h : Fx m) : kdl m 14 = some (13, 12) := fk h 10 rfl
theorem k_15 {m : MM} (h : Fx m) : kdl m 15 = some (13, 12) := fk h 11 rfl
theorem k_16 {m : MM} (h : Fx m) : kdl m 16 = some (1, 0) := fk h 12 rfl
theorem r_16_2 {m : MM} (h : Fx m) : ldR m 16 2 = 17 := fr h ⟨by decide, by decide, by decide⟩ rfl
theorem r_16_3 {m : MM} (h : Fx m) : ldR m 16 3 = 18 := fr h ⟨by decide, by decide, by decide⟩ rfl
theorem k_17 {m : MM} (h : Fx m) : kdl m 17 = some (13, 12) := fk h 13 rfl
theorem k_18 {m : MM} (h : Fx m) : kdl m 18 = some (13, 12) := fk h 14 rfl
theorem k_19 {m : MM} (h : Fx m) : kdl m 19 = some (1, 0) := fk h 15 rfl
theorem r_19_2 {m : MM} (h : Fx m) : ldR m 19 2 = 20 := fr h ⟨by decide, by decide, by decide⟩ rfl
theorem r_19_3 {m : MM} (h : Fx m) : ldR m 19 3 = 21 := fr h ⟨by decide, by decide, by decide⟩ rfl
theorem k_20 {m : MM} (h : Fx m) : kdl m 20 = some (13, 12) := fk h 16 rfl
theorem k_21 {m : MM} (h : Fx m) : kdl m 21 = some (13, 12) := fk h 17 rfl
theorem k_22 {m : MM} (h : Fx m) : kdl m 22 = some (1, 0) := fk h 18 rfl
theorem r_22_2 {m : MM} (h : Fx m) : ldR m 22 2 = 23 := fr h ⟨by decide, by decide, by decide⟩ rfl
theorem r_22_3 {m : MM} (h : Fx m) : ldR m 22 3 = 24 := fr h ⟨by decide, by decide, by decide⟩ rfl
theorem k_23 {m : MM} (h : Fx m) : kdl m 23 = some (13, 12) := fk h 19 rfl
theorem k_24 {m : MM} (h : Fx m) : kdl m 24 = some (13, 12) := fk h 20 rfl
theorem k_25 {m : MM} (h : Fx m) : kdl m 25 = some (5, 0) := fk h 21 rfl
theorem r_25_0 {m : MM} (h : Fx m) : ldR m 25 0 = 26 := fr h ⟨by decide, by decide, by decide⟩ rfl
theorem k_26 {m : MM} (h : Fx m) : kdl m 26 = some (13, 4) := fk h 22 rfl
theorem k_27 {m : MM} (h : Fx m) : kdl m 27 = some (5, 0) := fk h 23 rfl
theorem r_27_0 {m : MM} (h : Fx m) : ldR m 27 0 = 28 := fr h ⟨by decide, by decide, by decide⟩ rfl
theorem k_28 {m : MM} (h : Fx m) : kdl m 28 = some (13, 4) := fk h 24 rfl
theorem k_29 {m : MM} (h : Fx m) : kdl m 29 = some (6, 0) := fk h 25 rfl
theorem k_30 {m : MM} (h : Fx m) : kdl m 30 = some (5, 0) := fk h 26 rfl
theorem r_30_0 {m : MM} (h : Fx m) : ldR m 30 0 = 31 := fr h ⟨by decide, by decide, by decide⟩ rfl
theorem k_31 {m : MM} (h : Fx m) : kdl m 31 = some (13, 420) := fk h 27 rfl
theorem k_32 {m : MM} (h : Fx m) : kdl m 32 = some (8, 0) := fk h 28 rfl
theorem r_32_0 {m : MM} (h : Fx m) : ldR m 32 0 = 33 := fr h ⟨by decide, by decide, by decide⟩ rfl
theorem k_33 {m : MM} (h : Fx m) : kdl m 33 = some (5, 0) := fk h 29 rfl
theorem r_33_0 {m : MM} (h : Fx m) : ldR m 33 0 = 34 := fr h ⟨by decide, by decide, by decide⟩ rfl
theorem k_34 {m : MM} (h : Fx m) : kdl m 34 = some (13, 20) := fk h 30 rfl
theorem k_35 {m : MM} (h : Fx m) : kdl m 35 = some (5, 0) := fk h 31 rfl
theorem r_35_0 {m : MM} (h : Fx m) : ldR m 35 0 = 36 := fr h ⟨by decide, by decide, by decide⟩ rfl
theorem k_36 {m : MM} (h : Fx m) : kdl m 36 = some (13, 6) := fk h 32 rfl
theorem k_37 {m : MM} (h : Fx m) : kdl m 37 = some (5, 0) := fk h 33 rfl
theorem r_37_0 {m : MM} (h : Fx m) : ldR m 37 0 = 38 := fr h ⟨by decide, by decide, by decide⟩ rfl
theorem k_38 {m : MM} (h : Fx m) : kdl m 38 = some (13, 8) := fk h 34 rfl
theorem k_39 {m : MM} (h : Fx m) : kdl m 39 = some (5, 0) := fk h 35 rfl
theorem r_39_0 {m : MM} (h : Fx m) : ldR m 39 0 = 40 := fr h ⟨by decide, by decide, by decide⟩ rfl
theorem k_40 {m : MM} (h : Fx m) : kdl m 40 = some (13, 8) := fk h 36 rfl
theorem k_41 {m : MM} (h : Fx m) : kdl m 41 = some (17, 3) := fk h 37 rfl
theorem k_42 {m : MM} (h : Fx m) : kdl m 42 = some (10, 0) := fk h 38 rfl
theorem r_42_0 {m : MM} (h : Fx m) : ldR m 42 0 = 43 := fr h ⟨by decide, by decide, by decide⟩ rfl
theorem r_42_2 {m : MM} (h : Fx m) : ldR m 42 2 = 62 := fr h ⟨by decide, by decide, by decide⟩ rfl
theorem r_42_3 {m : MM} (h : Fx m) : ldR m 42 3 = 64 := fr h ⟨by decide, by decide, by decide⟩ rfl
theorem r_42_4 {m : MM} (h : Fx m) : ldR m 42 4 = 66 := fr h ⟨by decide, by decide, by decide⟩ rfl
theorem r_42_5 {m : MM} (h : Fx m) : ldR m 42 5 = 67 := fr h ⟨by decide, by decide, by decide⟩ rfl
theorem r_42_6 {m : MM} (h : Fx m) : ldR m 42 6 = 69 := fr h ⟨by decide, by decide, by decide⟩ rfl
theorem r_42_7 {m : MM} (h : Fx m) : ldR m 42 7 = 72 := fr h ⟨by decide, by decide, by decide⟩ rfl
theorem r_42_8 {m : MM} (h : Fx m) : ldR m 42 8 = 74 := fr h ⟨by decide, by decide, by decide⟩ rfl
theorem r_42_9 {m : MM} (h : Fx m) : ldR m 42 9 = 76 := fr h ⟨by decide, by decide, by decide⟩ rfl
theorem k_43 {m : MM} (h : Fx m) : kdl m 43 = some (15, 6) := fk h 39 rfl
theorem k_44 {m : MM} (h : Fx m) : kdl m 44 = some (1, 0) := fk h 40 rfl
theorem r_44_2 {m : MM} (h : Fx m) : ldR m 44 2 = 45 := fr h ⟨by decide, by decide, by decide⟩ rfl
theorem r_44_3 {m : MM} (h : Fx m) : ldR m 44 3 = 46 := fr h ⟨by decide, by decide, by decide⟩ rfl
theorem k_45 {m : MM} (h : Fx m) : kdl m 45 = some (13, 12) := fk h 41 rfl
theorem k_46 {m : MM} (h : Fx m) : kdl m 46 = some (13, 12) := fk h 42 rfl
theorem k_47 {m : MM} (h : Fx m) : kdl m 47 = some (1, 0) := fk h 43 rfl
theorem r_47_2 {m : MM} (h : Fx m) : ldR m 47 2 = 48 := fr h ⟨by decide, by decide, by decide⟩ rfl
theorem r_47_3 {m : MM} (h : Fx m) : ldR m 47 3 = 49 := fr h ⟨by decide, by decide, by decide⟩ rfl
theorem k_48 {m : MM} (h : Fx m) : kdl m 48 = some (13, 12) := fk h 44 rfl
theorem k_49 {m : MM} (h : Fx m) : kdl m 49 = some (13, 12) := fk h 45 rfl
theorem k_50 {m : MM} (h : Fx m) : kdl m 50 = some (1, 0) := fk h 46 rfl
theorem r_50_2 {m : MM} (h : Fx m) : ldR m 50 2 = 51 := fr h ⟨by decide, by decide, by decide⟩ rfl
theorem r_50_3 {m : MM} (h : Fx m) : ldR m 50 3 = 52 := fr h ⟨by decide, by decide, by decide⟩ rfl
theorem k_51 {m : MM} (h : Fx m) : kdl m 51 = some (13, 12) := fk h 47 rfl
theorem k_52 {m : MM} (h : Fx m) : kdl m 52 = some (13, 12) := fk h 48 rfl
theorem k_53 {m : MM} (h : Fx m) : kdl m 53 = some (1, 0) := fk h 49 rfl
theorem r_53_2 {m : MM} (h : Fx m) : ldR m 53 2 = 54 := fr h ⟨by decide, by decide, by decide⟩ rfl
theorem r_53_3 {m : MM} (h : Fx m) : ldR m 53 3 = 55 := fr h ⟨by decide, by decide, by decide⟩ rfl
theorem k_54 {m : MM} (h : Fx m) : kdl m 54 = some (13, 12) := fk h 50 rfl
theorem k_55 {m : MM} (h : Fx m) : kdl m 55 = some (13, 12) := fk h 51 rfl
theorem k_56 {m : MM} (h : Fx m) : kdl m 56 = some (1, 0) := fk h 52 rfl
theorem r_56_2 {m : MM} (h : Fx m) : ldR m 56 2 = 57 := fr h ⟨by decide, by decide, by decide⟩ rfl
theorem r_56_3 {m : MM} (h : Fx m) : ldR m 56 3 = 58 := fr h ⟨by decide, by decide, by decide⟩ rfl
theorem k_57 {m : MM} (h : Fx m) : kdl m 57 = some (13, 12) := fk h 53 rfl
theorem k_58 {m : MM} (h : Fx m) : kdl m 58 = some (13, 12) := fk h 54 rfl
theorem k_59 {m : MM} (h : Fx m) : kdl m 59 = some (1, 0) := fk h 55 rfl
theorem r_59_2 {m : MM} (h : Fx m) : ldR m 59 2 = 60 := fr h ⟨by decide, by decide, by decide⟩ rfl
theorem r_59_3 {m : MM} (h : Fx m) : ldR m 59 3 = 61 := fr h ⟨by decide, by decide, by decide⟩ rfl
theorem k_60 {m : MM} (h : Fx m) : kdl m 60 = some (13, 12) := fk h 56 rfl
theorem k_61 {m : MM} (h : Fx m) : kdl m 61 = some (13, 12) := fk h 57 rfl
theorem k_62 {m : MM} (h : Fx m) : kdl m 62 = some (5, 0) := fk h 58 rfl
theorem r_62_0 {m : MM} (h : Fx m) : ldR m 62 0 = 63 := fr h ⟨by decide, by decide, by decide⟩ rfl
theorem k_63 {m : MM} (h : Fx m) : kdl m 63 = some (13, 4) := fk h 59 rfl
theorem k_64 {m : MM} (h : Fx m) : kdl m 64 = some (5, 0) := fk h 60 rfl
theorem r_64_0 {m : MM} (h : Fx m) : ldR m 64 0 = 65 := fr h ⟨by decide, by decide, by decide⟩ rfl
theorem k_65 {m : MM} (h : Fx m) : kdl m 65 = some (13, 4) := fk h 61 rfl
theorem k_66 {m : MM} (h : Fx m) : kdl m 66 = some (6, 0) := fk h 62 rfl
theorem k_67 {m : MM} (h : Fx m) : kdl m 67 = some (5, 0) := fk h 63 rfl
theorem r_67_0 {m : MM} (h : Fx m) : ldR m 67 0 = 68 := fr h ⟨by decide, by decide, by decide⟩ rfl
theorem k_68 {m : MM} (h : Fx m) : kdl m 68 = some (13, 420) := fk h 64 rfl
theorem k_69 {m : MM} (h : Fx m) : kdl m 69 = some (8, 0) := fk h 65 rfl
theorem r_69_0 {m : MM} (h : Fx m) : ldR m 69 0 = 70 := fr h ⟨by decide, by decide, by decide⟩ rfl
theorem k_70 {m : MM} (h : Fx m) : kdl m 70 = some (5, 0) := fk h 66 rfl
theorem r_70_0 {m : MM} (h : Fx m) : ldR m 70 0 = 71 := fr h ⟨by decide, by decide, by decide⟩ rfl
theorem k_71 {m : MM} (h : Fx m) : kdl m 71 = some (13, 20) := fk h 67 rfl
theorem k_72 {m : MM} (h : Fx m) : kdl m 72 = some (5, 0) := fk h 68 rfl
theorem r_72_0 {m : MM} (h : Fx m) : ldR m 72 0 = 73 := fr h ⟨by decide, by decide, by decide⟩ rfl
theorem k_73 {m : MM} (h : Fx m) : kdl m 73 = some (13, 6) := fk h 69 rfl
theorem k_74 {m : MM} (h : Fx m) : kdl m 74 = some (5, 0) := fk h 70 rfl
theorem r_74_0 {m : MM} (h : Fx m) : ldR m 74 0 = 75 := fr h ⟨by decide, by decide, by decide⟩ rfl
theorem k_75 {m : MM} (h : Fx m) : kdl m 75 = some (13, 8) := fk h 71 rfl
theorem k_76 {m : MM} (h : Fx m) : kdl m 76 = some (5, 0) := fk h 72 rfl
theorem r_76_0 {m : MM} (h : Fx m) : ldR m 76 0 = 77 := fr h ⟨by decide, by decide, by decide⟩ rfl
theorem k_77 {m : MM} (h : Fx m) : kdl m 77 = some (13, 8) := fk h 73 rfl
theorem k_78 {m : MM} (h : Fx m) : kdl m 78 = some (10, 0) := fk h 74 rfl
theorem r_78_0 {m : MM} (h : Fx m) : ldR m 78 0 = 79 := fr h ⟨by decide, by decide, by decide⟩ rfl
theorem r_78_2 {m : MM} (h : Fx m) : ldR m 78 2 = 98 := fr h ⟨by decide, by decide, by decide⟩ rfl
theorem r_78_3 {m : MM} (h : Fx m) : ldR m 78 3 = 100 := fr h ⟨by decide, by decide, by decide⟩ rfl
theorem r_78_4 {m : MM} (h : Fx m) : ldR m 78 4 = 102 := fr h ⟨by decide, by decide, by decide⟩ rfl
theorem r_78_5 {m : MM} (h : Fx m) : ldR m 78 5 = 103 := fr h ⟨by decide, by decide, by decide⟩ rfl
theorem r_78_6 {m : MM} (h : Fx m) : ldR m 78 6 = 105 := fr h ⟨by decide, by decide, by decide⟩ rfl
theorem r_78_7 {m : MM} (h : Fx m) : ldR m 78 7 = 108 := fr h ⟨by decide, by decide, by decide⟩ rfl
theorem r_78_8 {m : MM} (h : Fx m) : ldR m 78 8 = 110 := fr h ⟨by decide, by decide, by decide⟩ rfl
theorem r_78_9 {m : MM} (h : Fx m) : ldR m 78 9 = 112 := fr h ⟨by decide, by decide, by decide⟩ rfl
theorem k_79 {m : MM} (h : Fx m) : kdl m 79 = some (15, 6) := fk h 75 rfl
theorem k_80 {m : MM} (h : Fx m) : kdl m 80 = some (1, 0) := fk h 76 rfl
theorem r_80_2 {m : MM} (h : Fx m) : ldR m 80 2 = 81 := fr h ⟨by decide, by decide, by decide⟩ rfl
theorem r_80_3 {m : MM} (h : Fx m) : ldR m 80 3 = 82 := fr h ⟨by decide, by decide, by decide⟩ rfl
theorem k_81 {m : MM} (h : Fx m) : kdl m 81 = some (13, 12) := fk h 77 rfl
theorem k_82 {m : MM} (h : Fx m) : kdl m 82 = some (13, 12) := fk h 78 rfl
theorem k_83 {m : MM} (h : Fx m) : kdl m 83 = some (1, 0) := fk h 79 rfl
theorem r_83_2 {m : MM} (h : Fx m) : ldR m 83 2 = 84 := fr h ⟨by decide, by decide, by decide⟩ rfl
theorem r_83_3 {m : MM} (h : Fx m) : ldR m 83 3 = 85 := fr h ⟨by decide, by decide, by decide⟩ rfl
theorem k_84 {m : MM} (h : Fx m) : kdl m 84 = some (13, 12) := fk h 80 rfl
theorem k_85 {m : MM} (h : Fx m) : kdl m 85 = some (13, 12) := fk h 81 rfl
theorem k_86 {m : MM} (h : Fx m) : kdl m 86 = some (1, 0) := fk h 82 rfl
theorem r_86_2 {m : MM} (h : Fx m) : ldR m 86 2 = 87 := fr h ⟨by decide, by decide, by decide⟩ rfl
theorem r_86_3 {m : MM} (h : Fx m) : ldR m 86 3 = 88 := fr h ⟨by decide, by decide, by decide⟩ rfl
theorem k_87 {m : MM} (h : Fx m) : kdl m 87 = some (13, 12) := fk h 83 rfl
theorem k_88 {m : MM} (h : Fx m) : kdl m 88 = some (13, 12) := fk h 84 rfl
theorem k_89 {m : MM} (h : Fx m) : kdl m 89 = some (1, 0) := fk h 85 rfl
theorem r_89_2 {m : MM} (h : Fx m) : ldR m 89 2 = 90 := fr h ⟨by decide, by decide, by decide⟩ rfl
theorem r_89_3 {m : MM} (h : Fx m) : ldR m 89 3 = 91 := fr h ⟨by decide, by decide, by decide⟩ rfl
theorem k_90 {m : MM} (h : Fx m) : kdl m 90 = some (13, 12) := fk h 86 rfl
theorem k_91 {m : MM} (h : Fx m) : kdl m 91 = some (13, 12) := fk h 87 rfl
theorem k_92 {m : MM} (h : Fx m) : kdl m 92 = some (1, 0) := fk h 88 rfl
theorem r_92_2 {m : MM} (h : Fx m) : ldR m 92 2 = 93 := fr h ⟨by decide, by decide, by decide⟩ rfl
theorem r_92_3 {m : MM} (h : Fx m) : ldR m 92 3 = 94 := fr h ⟨by decide, by decide, by decide⟩ rfl
theorem k_93 {m : MM} (h : Fx m) : kdl m 93 = some (13, 12) := fk h 89 rfl
theorem k_94 {m : MM} (h : Fx m) : kdl m 94 = some (13, 12) := fk h 90 rfl
theorem k_95 {m : MM} (h : Fx m) : kdl m 95 = some (1, 0) := fk h 91 rfl
theorem r_95_2 {m : MM} (h : Fx m) : ldR m 95 2 = 96 := fr h ⟨by decide, by decide, by decide⟩ rfl
theorem r_95_3 {m : MM} (h : Fx m) : ldR m 95 3 = 97 := fr h ⟨by decide, by decide, by decide⟩ rfl
theorem k_96 {m : MM} (h : Fx m) : kdl m 96 = some (13, 12) := fk h 92 rfl
theorem k_97 {m : MM} (h : Fx m) : kdl m 97 = some (13, 12) := fk h 93 rfl
theorem k_98 {m : MM} (h : Fx m) : kdl m 98 = some (5, 0) := fk h 94 rfl
theorem r_98_0 {m : MM} (h : Fx m) : ldR m 98 0 = 99 := fr h ⟨by decide, by decide, by decide⟩ rfl
theorem k_99 {m : MM} (h : Fx m) : kdl m 99 = some (13, 4) := fk h 95 rfl
theorem k_100 {m : MM} (h : Fx m) : kdl m 100 = some (5, 0) := fk h 96 rfl
theorem r_100_0 {m : MM} (h : Fx m) : ldR m 100 0 = 101 := fr h ⟨by decide, by decide, by decide⟩ rfl
theorem k_101 {m : MM} (h : Fx m) : kdl m 101 = some (13, 4) := fk h 97 rfl
theorem k_102 {m : MM} (h : Fx m) : kdl m 102 = some (6, 0) := fk h 98 rfl
theorem k_103 {m : MM} (h : Fx m) : kdl m 103 = some (5, 0) := fk h 99 rfl
theorem r_103_0 {m : MM} (h : Fx m) : ldR m 103 0 = 104 := fr h ⟨by decide, by decide, by decide⟩ rfl
theorem k_104 {m : MM} (h : Fx m) : kdl m 104 = some (13, 420) := fk h 100 rfl
theorem k_105 {m : MM} (h : Fx m) : kdl m 105 = some (8, 0) := fk h 101 rfl
theorem r_105_0 {m : MM} (h : Fx m) : ldR m 105 0 = 106 := fr h ⟨by decide, by decide, by decide⟩ rfl
theorem k_106 {m : MM} (h : Fx m) : kdl m 106 = some (5, 0) := fk h 102 rfl
theorem r_106_0 {m : MM} (h : Fx m) : ldR m 106 0 = 107 := fr h ⟨by decide, by decide, by decide⟩ rfl
theorem k_107 {m : MM} (h : Fx m) : kdl m 107 = some (13, 20) := fk h 103 rfl
theorem k_108 {m : MM} (h : Fx m) : kdl m 108 = some (5, 0) := fk h 104 rfl
theorem r_108_0 {m : MM} (h : Fx m) : ldR m 108 0 = 109 := fr h ⟨by decide, by decide, by decide⟩ rfl
theorem k_109 {m : MM} (h : Fx m) : kdl m 109 = some (13, 6) := fk h 105 rfl
theorem k_110 {m : MM} (h : Fx m) : kdl m 110 = some (5, 0) := fk h 106 rfl
theorem r_110_0 {m : MM} (h : Fx m) : ldR m 110 0 = 111 := fr h ⟨by decide, by decide, by decide⟩ rfl
theorem k_111 {m : MM} (h : Fx m) : kdl m 111 = some (13, 8) := fk h 107 rfl
theorem k_112 {m : MM} (h : Fx m) : kdl m 112 = some (5, 0) := fk h 108 rfl
theorem r_112_0 {m : MM} (h : Fx m) : ldR m 112 0 = 113 := fr h ⟨by decide, by decide, by decide⟩ rfl
theorem k_113 {m : MM} (h : Fx m) : kdl m 113 = some (13, 8) := fk h 109 rfl
theorem k_114 {m : MM} (h : Fx m) : kdl m 114 = some (10, 0) := fk h 110 rfl
theorem r_114_0 {m : MM} (h : Fx m) : ldR m 114 0 = 115 := fr h ⟨by decide, by decide, by decide⟩ rfl
theorem r_114_2 {m : MM} (h : Fx m) : ldR m 114 2 = 134 := fr h ⟨by decide, by decide, by decide⟩ rfl
theorem r_114_3 {m : MM} (h : Fx m) : ldR m 114 3 = 136 := fr h ⟨by decide, by decide, by decide⟩ rfl
theorem r_114_4 {m : MM} (h : Fx m) : ldR m 114 4 = 138 := fr h ⟨by decide, by decide, by decide⟩ rfl
theorem r_114_5 {m : MM} (h : Fx m) : ldR m 114 5 = 139 := fr h ⟨by decide, by decide, by decide⟩ rfl
theorem r_114_6 {m : MM} (h : Fx m) : ldR m 114 6 = 141 := fr h ⟨by decide, by decide, by decide⟩ rfl
theorem r_114_7 {m : MM} (h : Fx m) : ldR m 114 7 = 144 := fr h ⟨by decide, by decide, by decide⟩ rfl
theorem r_114_8 {m : MM} (h : Fx m) : ldR m 114 8 = 146 := fr h ⟨by decide, by decide, by decide⟩ rfl
theorem r_114_9 {m : MM} (h : Fx m) : ldR m 114 9 = 148 := fr h ⟨by decide, by decide, by decide⟩ rfl
theorem k_115 {m : MM} (h : Fx m) : kdl m 115 = some (15, 6) := fk h 111 rfl
theorem k_116 {m : MM} (h : Fx m) : kdl m 116 = some (1, 0) := fk h 112 rfl
theorem r_116_2 {m : MM} (h : Fx m) : ldR m 116 2 = 117 := fr h ⟨by decide, by decide, by decide⟩ rfl
theorem r_116_3 {m : MM} (h : Fx m) : ldR m 116 3 = 118 := fr h ⟨by decide, by decide, by decide⟩ rfl
theorem k_117 {m : MM} (h : Fx m) : kdl m 117 = some (13, 12) := fk h 113 rfl
theorem k_118 {m : MM} (h : Fx m) : kdl m 118 = some (13, 12) := fk h 114 rfl
theorem k_119 {m : MM} (h : Fx m) : kdl m 119 = some (1, 0) := fk h 115 rfl
theorem r_119_2 {m : MM} (h : Fx m) : ldR m 119 2 = 120 := fr h ⟨by decide, by decide, by decide⟩ rfl
theorem r_119_3 {m : MM} (h : Fx m) : ldR m 119 3 = 121 := fr h ⟨by decide, by decide, by decide⟩ rfl
theorem k_120 {m : MM} (h : Fx m) : kdl m 120 = some (13, 12) := fk h 116 rfl
theorem k_121 {m : MM} (h : Fx m) : kdl m 121 = some (13, 12) := fk h 117 rfl
theorem k_122 {m : MM} (h : Fx m) : kdl m 122 = some (1, 0) := fk h 118 rfl
theorem r_122_2 {m : MM} (h : Fx m) : ldR m 122 2 = 123 := fr h ⟨by decide, by decide, by decide⟩ rfl
theorem r_122_3 {m : MM} (h : Fx m) : ldR m 122 3 = 124 := fr h ⟨by decide, by decide, by decide⟩ rfl
theorem k_123 {m : MM} (h : Fx m) : kdl m 123 = some (13, 12) := fk h 119 rfl
theorem k_124 {m : MM} (h : Fx m) : kdl m 124 = some (13, 12) := fk h 120 rfl
theorem k_125 {m : MM} (h : Fx m) : kdl m 125 = some (1, 0) := fk h 121 rfl
theorem r_125_2 {m : MM} (h : Fx m) : ldR m 125 2 = 126 := fr h ⟨by decide, by decide, by decide⟩ rfl
theorem r_125_3 {m : MM} (h : Fx m) : ldR m 125 3 = 127 := fr h ⟨by decide, by decide, by decide⟩ rfl
theorem k_126 {m : MM} (h : Fx m) : kdl m 126 = some (13, 12) := fk h 122 rfl
theorem k_127 {m : MM} (h : Fx m) : kdl m 127 = some (13, 12) := fk h 123 rfl
theorem k_128 {m : MM} (h : Fx m) : kdl m 128 = some (1, 0) := fk h 124 rfl
theorem r_128_2 {m : MM} (h : Fx m) : ldR m 128 2 = 129 := fr h ⟨by decide, by decide, by decide⟩ rfl
theorem r_128_3 {m : MM} (h : Fx m) : ldR m 128 3 = 130 := fr h ⟨by decide, by decide, by decide⟩ rfl
theorem k_129 {m : MM} (h : Fx m) : kdl m 129 = some (13, 12) := fk h 125 rfl
theorem k_130 {m : MM} (h : Fx m) : kdl m 130 = some (13, 12) := fk h 126 rfl
theorem k_131 {m : MM} (h : Fx m) : kdl m 131 = some (1, 0) := fk h 127 rfl
theorem r_131_2 {m : MM} (h : Fx m) : ldR m 131 2 = 132 := fr h ⟨by decide, by decide, by decide⟩ rfl
theorem r_131_3 {m : MM} (h : Fx m) : ldR m 131 3 = 133 := fr h ⟨by decide, by decide, by decide⟩ rfl
theorem k_132 {m : MM} (h : Fx m) : kdl m 132 = some (13, 12) := fk h 128 rfl
theorem k_133 {m : MM} (h : Fx m) : kdl m 133 = some (13, 12) := fk h 129 rfl
theorem k_134 {m : MM} (h : Fx m) : kdl m 134 = some (5, 0) := fk h 130 rfl
theorem r_134_0 {m : MM} (h : Fx m) : ldR m 134 0 = 135 := fr h ⟨by decide, by decide, by decide⟩ rfl
theorem k_135 {m : MM} (h : Fx m) : kdl m 135 = some (13, 4) := fk h 131 rfl
theorem k_136 {m : MM} (h : Fx m) : kdl m 136 = some (5, 0) := fk h 132 rfl
theorem r_136_0 {m : MM} (h : Fx m) : ldR m 136 0 = 137 := fr h ⟨by decide, by decide, by decide⟩ rfl
theorem k_137 {m : MM} (h : Fx m) : kdl m 137 = some (13, 4) := fk h 133 rfl
theorem k_138 {m : MM} (h : Fx m) : kdl m 138 = some (6, 0) := fk h 134 rfl
theorem k_139 {m : MM} (h : Fx m) : kdl m 139 = some (5, 0) := fk h 135 rfl
theorem r_139_0 {m : MM} (h : Fx m) : ldR m 139 0 = 140 := fr h ⟨by decide, by decide, by decide⟩ rfl
theorem k_140 {m : MM} (h : Fx m) : kdl m 140 = some (13, 420) := fk h 136 rfl
theorem k_141 {m : MM} (h : Fx m) : kdl m 141 = some (8, 0) := fk h 137 rfl
theorem r_141_0 {m : MM} (h : Fx m) : ldR m 141 0 = 142 := fr h ⟨by decide, by decide, by decide⟩ rfl
theorem k_142 {m : MM} (h : Fx m) : kdl m 142 = some (5, 0) := fk h 138 rfl
theorem r_142_0 {m : MM} (h : Fx m) : ldR m 142 0 = 143 := fr h ⟨by decide, by decide, by decide⟩ rfl
theorem k_143 {m : MM} (h : Fx m) : kdl m 143 = some (13, 20) := fk h 139 rfl
theorem k_144 {m : MM} (h : Fx m) : kdl m 144 = some (5, 0) := fk h 140 rfl
theorem r_144_0 {m : MM} (h : Fx m) : ldR m 144 0 = 145 := fr h ⟨by decide, by decide, by decide⟩ rfl
theorem k_145 {m : MM} (h : Fx m) : kdl m 145 = some (13, 6) := fk h 141 rfl
theorem k_146 {m : MM} (h : Fx m) : kdl m 146 = some (5, 0) := fk h 142 rfl
theorem r_146_0 {m : MM} (h : Fx m) : ldR m 146 0 = 147 := fr h ⟨by decide, by decide, by decide⟩ rfl
theorem k_147 {m : MM} (h : Fx m) : kdl m 147 = some (13, 8) := fk h 143 rfl
theorem k_148 {m : MM} (h : Fx m) : kdl m 148 = some (5, 0) := fk h 144 rfl
theorem r_148_0 {m : MM} (h : Fx m) : ldR m 148 0 = 149 := fr h ⟨by decide, by decide, by decide⟩ rfl
theorem k_149 {m : MM} (h : Fx m) : kdl m 149 = some (13, 8) := fk h 145 rfl
theorem k_150 {m : MM} (h : Fx m) : kdl m 150 = some (5, 0) := fk h 146 rfl
theorem r_150_0 {m : MM} (h : Fx m) : ldR m 150 0 = 151 := fr h ⟨by decide, by decide, by decide⟩ rfl
theorem k_151 {m : MM} (h : Fx m) : kdl m 151 = some (13, 400) := fk h 147 rfl
theorem k_152 {m : MM} (h : Fx m) : kdl m 152 = some (4, 0) := fk h 148 rfl
theorem r_152_0 {m : MM} (h : Fx m) : ldR m 152 0 = 153 := fr h ⟨by decide, by decide, by decide⟩ rfl
theorem r_152_2 {m : MM} (h : Fx m) : ldR m 152 2 = 154 := fr h ⟨by decide, by decide, by decide⟩ rfl
theorem k_153 {m : MM} (h : Fx m) : kdl m 153 = some (13, 400) := fk h 149 rfl
theorem k_154 {m : MM} (h : Fx m) : kdl m 154 = some (13, 400) := fk h 150 rfl
theorem k_155 {m : MM} (h : Fx m) : kdl m 155 = some (7, 0) := fk h 151 rfl
theorem r_155_0 {m : MM} (h : Fx m) : ldR m 155 0 = 156 := fr h ⟨by decide, by decide, by decide⟩ rfl
theorem k_156 {m : MM} (h : Fx m) : kdl m 156 = some (16, 4) := fk h 152 rfl
theorem k_157 {m : MM} (h : Fx m) : kdl m 157 = some (7, 0) := fk h 153 rfl
theorem r_157_0 {m : MM} (h : Fx m) : ldR m 157 0 = 158 := fr h ⟨by decide, by decide, by decide⟩ rfl
theorem k_158 {m : MM} (h : Fx m) : kdl m 158 = some (16, 3) := fk h 154 rfl
theorem k_159 {m : MM} (h : Fx m) : kdl m 159 = some (0, 0) := fk h 155 rfl
theorem r_159_0 {m : MM} (h : Fx m) : ldR m 159 0 = 5 := fr h ⟨by decide, by decide, by decide⟩ rfl
theorem r_159_1 {m : MM} (h : Fx m) : ldR m 159 1 = 160 := fr h ⟨by decide, by decide, by decide⟩ rfl
theorem r_159_2 {m : MM} (h : Fx m) : ldR m 159 2 = 164 := fr h ⟨by decide, by decide, by decide⟩ rfl
theorem r_159_3 {m : MM} (h : Fx m) : ldR m 159 3 = 165 := fr h ⟨by decide, by decide, by decide⟩ rfl
theorem r_159_4 {m : MM} (h : Fx m) : ldR m 159 4 = 166 := fr h ⟨by decide, by decide, by decide⟩ rfl
theorem k_160 {m : MM} (h : Fx m) : kdl m 160 = some (9, 0) := fk h 156 rfl
theorem r_160_0 {m : MM} (h : Fx m) : ldR m 160 0 = 161 := fr h ⟨by decide, by decide, by decide⟩ rfl
theorem r_160_1 {m : MM} (h : Fx m) : ldR m 160 1 = 162 := fr h ⟨by decide, by decide, by decide⟩ rfl
theorem r_160_2 {m : MM} (h : Fx m) : ldR m 160 2 = 163 := fr h ⟨by decide, by decide, by decide⟩ rfl
theorem k_161 {m : MM} (h : Fx m) : kdl m 161 = some (14, 10) := fk h 157 rfl
theorem k_162 {m : MM} (h : Fx m) : kdl m 162 = some (14, 8) := fk h 158 rfl
theorem k_163 {m : MM} (h : Fx m) : kdl m 163 = some (14, 64) := fk h 159 rfl
theorem k_164 {m : MM} (h : Fx m) : kdl m 164 = some (2, 0) := fk h 160 rfl
theorem k_165 {m : MM} (h : Fx m) : kdl m 165 = some (6, 0) := fk h 161 rfl
theorem k_166 {m : MM} (h : Fx m) : kdl m 166 = some (6, 0) := fk h 162 rfl
theorem k_167 {m : MM} (h : Fx m) : kdl m 167 = some (12, 0) := fk h 163 rfl
theorem r_167_10 {m : MM} (h : Fx m) : ldR m 167 10 = 168 := fr h ⟨by decide, by decide, by decide⟩ rfl
theorem r_167_11 {m : MM} (h : Fx m) : ldR m 167 11 = 169 := fr h ⟨by decide, by decide, by decide⟩ rfl
theorem r_167_12 {m : MM} (h : Fx m) : ldR m 167 12 = 177 := fr h ⟨by decide, by decide, by decide⟩ rfl
theorem r_167_16 {m : MM} (h : Fx m) : ldR m 167 16 = 178 := fr h ⟨by decide, by decide, by decide⟩ rfl
theorem r_167_17 {m : MM} (h : Fx m) : ldR m 167 17 = 179 := fr h ⟨by decide, by decide, by decide⟩ rfl
theorem r_167_20 {m : MM} (h : Fx m) : ldR m 167 20 = 180 := fr h ⟨by decide, by decide, by decide⟩ rfl
theorem r_167_21 {m : MM} (h : Fx m) : ldR m 167 21 = 181 := fr h ⟨by decide, by decide, by decide⟩ rfl
theorem r_167_22 {m : MM} (h : Fx m) : ldR m 167 22 = 182 := fr h ⟨by decide, by decide, by decide⟩ rfl
theorem r_167_23 {m : MM} (h : Fx m) : ldR m 167 23 = 189 := fr h ⟨by decide, by decide, by decide⟩ rfl
theorem r_167_24 {m : MM} (h : Fx m) : ldR m 167 24 = 196 := fr h ⟨by decide, by decide, by decide⟩ rfl
theorem r_167_25 {m : MM} (h : Fx m) : ldR m 167 25 = 197 := fr h ⟨by decide, by decide, by decide⟩ rfl
theorem r_167_26 {m : MM} (h : Fx m) : ldR m 167 26 = 198 := fr h ⟨by decide, by decide, by decide⟩ rfl
theorem r_167_32 {m : MM} (h : Fx m) : ldR m 167 32 = 199 := fr h ⟨by decide, by decide, by decide⟩ rfl
theorem r_167_33 {m : MM} (h : Fx m) : ldR m 167 33 = 260 := fr h ⟨by decide, by decide, by decide⟩ rfl
theorem r_167_34 {m : MM} (h : Fx m) : ldR m 167 34 = 261 := fr h ⟨by decide, by decide, by decide⟩ rfl
theorem r_167_35 {m : MM} (h : Fx m) : ldR m 167 35 = 262 := fr h ⟨by decide, by decide, by decide⟩ rfl
theorem r_167_36 {m : MM} (h : Fx m) : ldR m 167 36 = 263 := fr h ⟨by decide, by decide, by decide⟩ rfl
theorem r_167_37 {m : MM} (h : Fx m) : ldR m 167 37 = 270 := fr h ⟨by decide, by decide, by decide⟩ rfl
theorem r_167_43 {m : MM} (h : Fx m) : ldR m 167 43 = 279 := fr h ⟨by decide, by decide, by decide⟩ rfl
theorem k_168 {m : MM} (h : Fx m) : kdl m 168 = some (13, 400) := fk h 164 rfl
theorem k_169 {m : MM} (h : Fx m) : kdl m 169 = some (18, 7) := fk h 165 rfl
theorem k_170 {m : MM} (h : Fx m) : kdl m 170 = some (13, 400) := fk h 166 rfl
theorem k_171 {m : MM} (h : Fx m) : kdl m 171 = some (13, 400) := fk h 167 rfl
theorem k_172 {m : MM} (h : Fx m) : kdl m 172 = some (13, 400) := fk h 168 rfl
theorem k_173 {m : MM} (h : Fx m) : kdl m 173 = some (13, 400) := fk h 169 rfl
theorem k_174 {m : MM} (h : Fx m) : kdl m 174 = some (13, 400) := fk h 170 rfl
theorem k_175 {m : MM} (h : Fx m) : kdl m 175 = some (13, 400) := fk h 171 rfl
theorem k_176 {m : MM} (h : Fx m) : kdl m 176 = some (13, 400) := fk h 172 rfl
theorem k_177 {m : MM} (h : Fx m) : kdl m 177 = some (13, 7) := fk h 173 rfl
theorem k_178 {m : MM} (h : Fx m) : kdl m 178 = some (14, 10) := fk h 174 rfl
theorem k_179 {m : MM} (h : Fx m) : kdl m 179 = some (14, 8) := fk h 175 rfl
theorem k_180 {m : MM} (h : Fx m) : kdl m 180 = some (13, 6) := fk h 176 rfl
theorem k_181 {m : MM} (h : Fx m) : kdl m 181 = some (13, 6) := fk h 177 rfl
theorem k_182 {m : MM} (h : Fx m) : kdl m 182 = some (18, 6) := fk h 178 rfl
theorem k_183 {m : MM} (h : Fx m) : kdl m 183 = some (13, 12) := fk h 179 rfl
theorem k_184 {m : MM} (h : Fx m) : kdl m 184 = some (13, 12) := fk h 180 rfl
theorem k_185 {m : MM} (h : Fx m) : kdl m 185 = some (13, 12) := fk h 181 rfl
theorem k_186 {m : MM} (h : Fx m) : kdl m 186 = some (13, 12) := fk h 182 rfl
theorem k_187 {m : MM} (h : Fx m) : kdl m 187 = some (13, 12) := fk h 183 rfl
theorem k_188 {m : MM} (h : Fx m) : kdl m 188 = some (13, 12) := fk h 184 rfl
theorem k_189 {m : MM} (h : Fx m) : kdl m 189 = some (18, 6) := fk h 185 rfl
theorem k_190 {m : MM} (h : Fx m) : kdl m 190 = some (13, 12) := fk h 186 rfl
theorem k_191 {m : MM} (h : Fx m) : kdl m 191 = some (13, 12) := fk h 187 rfl
theorem k_192 {m : MM} (h : Fx m) : kdl m 192 = some (13, 12) := fk h 188 rfl
theorem k_193 {m : MM} (h : Fx m) : kdl m 193 = some (13, 12) := fk h 189 rfl
theorem k_194 {m : MM} (h : Fx m) : kdl m 194 = some (13, 12) := fk h 190 rfl
theorem k_195 {m : MM} (h : Fx m) : kdl m 195 = some (13, 12) := fk h 191 rfl
theorem k_196 {m : MM} (h : Fx m) : kdl m 196 = some (13, 4) := fk h 192 rfl
theorem k_197 {m : MM} (h : Fx m) : kdl m 197 = some (13, 4) := fk h 193 rfl
theorem k_198 {m : MM} (h : Fx m) : kdl m 198 = some (13, 6) := fk h 194 rfl
theorem k_199 {m : MM} (h : Fx m) : kdl m 199 = some (18, 60) := fk h 195 rfl
theorem k_200 {m : MM} (h : Fx m) : kdl m 200 = some (13, 7) := fk h 196 rfl
theorem k_201 {m : MM} (h : Fx m) : kdl m 201 = some (13, 7) := fk h 197 rfl
theorem k_202 {m : MM} (h : Fx m) : kdl m 202 = some (13, 7) := fk h 198 rfl
theorem k_203 {m : MM} (h : Fx m) : kdl m 203 = some (13, 7) := fk h 199 rfl
theorem k_204 {m : MM} (h : Fx m) : kdl m 204 = some (13, 7) := fk h 200 rfl
theorem k_205 {m : MM} (h : Fx m) : kdl m 205 = some (13, 7) := fk h 201 rfl
theorem k_206 {m : MM} (h : Fx m) : kdl m 206 = some (13, 7) := fk h 202 rfl
theorem k_207 {m : MM} (h : Fx m) : kdl m 207 = some (13, 7) := fk h 203 rfl
theorem k_208 {m : MM} (h : Fx m) : kdl m 208 = some (13, 7) := fk h 204 rfl
theorem k_209 {m : MM} (h : Fx m) : kdl m 209 = some (13, 7) := fk h 205 rfl
theorem k_210 {m : MM} (h : Fx m) : kdl m 210 = some (13, 7) := fk h 206 rfl
theorem k_211 {m : MM} (h : Fx m) : kdl m 211 = some (13, 7) := fk h 207 rfl
theorem k_212 {m : MM} (h : Fx m) : kdl m 212 = some (13, 7) := fk h 208 rfl
theorem k_213 {m : MM} (h : Fx m) : kdl m 213 = some (13, 7) := fk h 209 rfl
theorem k_214 {m : MM} (h : Fx m) : kdl m 214 = some (13, 7) := fk h 210 rfl
theorem k_215 {m : MM} (h : Fx m) : kdl m 215 = some (13, 7) := fk h 211 rfl
theorem k_216 {m : MM} (h : Fx m) : kdl m 216 = some (13, 7) := fk h 212 rfl
theorem k_217 {m : MM} (h : Fx m) : kdl m 217 = some (13, 7) := fk h 213 rfl
theorem k_218 {m : MM} (h : Fx m) : kdl m 218 = some (13, 7) := fk h 214 rfl
theorem k_219 {m : MM} (h : Fx m) : kdl m 219 = some (13, 7) := fk h 215 rfl
theorem k_220 {m : MM} (h : Fx m) : kdl m 220 = some (13, 7) := fk h 216 rfl
theorem k_221 {m : MM} (h : Fx m) : kdl m 221 = some (13, 7) := fk h 217 rfl
theorem k_222 {m : MM} (h : Fx m) : kdl m 222 = some (13, 7) := fk h 218 rfl
theorem k_223 {m : MM} (h : Fx m) : kdl m 223 = some (13, 7) := fk h 219 rfl
theorem k_224 {m : MM} (h : Fx m) : kdl m 224 = some (13, 7) := fk h 220 rfl
theorem k_225 {m : MM} (h : Fx m) : kdl m 225 = some (13, 7) := fk h 221 rfl
theorem k_226 {m : MM} (h : Fx m) : kdl m 226 = some (13, 7) := fk h 222 rfl
theorem k_227 {m : MM} (h : Fx m) : kdl m 227 = some (13, 7) := fk h 223 rfl
theorem k_228 {m : MM} (h : Fx m) : kdl m 228 = some (13, 7) := fk h 224 rfl
theorem k_229 {m : MM} (h : Fx m) : kdl m 229 = some (13, 7) := fk h 225 rfl
theorem k_230 {m : MM} (h : Fx m) : kdl m 230 = some (13, 7) := fk h 226 rfl
theorem k_231 {m : MM} (h : Fx m) : kdl m 231 = some (13, 7) := fk h 227 rfl
theorem k_232 {m : MM} (h : Fx m) : kdl m 232 = some (13, 7) := fk h 228 rfl
theorem k_233 {m : MM} (h : Fx m) : kdl m 233 = some (13, 7) := fk h 229 rfl
theorem k_234 {m : MM} (h : Fx m) : kdl m 234 = some (13, 7) := fk h 230 rfl
theorem k_235 {m : MM} (h : Fx m) : kdl m 235 = some (13, 7) := fk h 231 rfl
theorem k_236 {m : MM} (h : Fx m) : kdl m 236 = some (13, 7) := fk h 232 rfl
theorem k_237 {m : MM} (h : Fx m) : kdl m 237 = some (13, 7) := fk h 233 rfl
theorem k_238 {m : MM} (h : Fx m) : kdl m 238 = some (13, 7) := fk h 234 rfl
theorem k_239 {m : MM} (h : Fx m) : kdl m 239 = some (13, 7) := fk h 235 rfl
theorem k_240 {m : MM} (h : Fx m) : kdl m 240 = some (13, 7) := fk h 236 rfl
theorem k_241 {m : MM} (h : Fx m) : kdl m 241 = some (13, 7) := fk h 237 rfl
theorem k_242 {m : MM} (h : Fx m) : kdl m 242 = some (13, 7) := fk h 238 rfl
theorem k_243 {m : MM} (h : Fx m) : kdl m 243 = some (13, 7) := fk h 239 rfl
theorem k_244 {m : MM} (h : Fx m) : kdl m 244 = some (13, 7) := fk h 240 rfl
theorem k_245 {m : MM} (h : Fx m) : kdl m 245 = some (13, 7) := fk h 241 rfl
theorem k_246 {m : MM} (h : Fx m) : kdl m 246 = some (13, 7) := fk h 242 rfl
theorem k_247 {m : MM} (h : Fx m) : kdl m 247 = some (13, 7) := fk h 243 rfl
theorem k_248 {m : MM} (h : Fx m) : kdl m 248 = some (13, 7) := fk h 244 rfl
theorem k_249 {m : MM} (h : Fx m) : kdl m 249 = some (13, 7) := fk h 245 rfl
theorem k_250 {m : MM} (h : Fx m) : kdl m 250 = some (13, 7) := fk h 246 rfl
theorem k_251 {m : MM} (h : Fx m) : kdl m 251 = some (13, 7) := fk h 247 rfl
theorem k_252 {m : MM} (h : Fx m) : kdl m 252 = some (13, 7) := fk h 248 rfl
theorem k_253 {m : MM} (h : Fx m) : kdl m 253 = some (13, 7) := fk h 249 rfl
theorem k_254 {m : MM} (h : Fx m) : kdl m 254 = some (13, 7) := fk h 250 rfl
theorem k_255 {m : MM} (h : Fx m) : kdl m 255 = some (13, 7) := fk h 251 rfl
theorem k_256 {m : MM} (h : Fx m) : kdl m 256 = some (13, 7) := fk h 252 rfl
theorem k_257 {m : MM} (h : Fx m) : kdl m 257 = some (13, 7) := fk h 253 rfl
theorem k_258 {m : MM} (h : Fx m) : kdl m 258 = some (13, 7) := fk h 254 rfl
theorem k_259 {m : MM} (h : Fx m) : kdl m 259 = some (13, 7) := fk h 255 rfl
theorem k_260 {m : MM} (h : Fx m) : kdl m 260 = some (13, 20) := fk h 256 rfl
theorem k_261 {m : MM} (h : Fx m) : kdl m 261 = some (13, 20) := fk h 257 rfl
theorem k_262 {m : MM} (h : Fx m) : kdl m 262 = some (13, 20) := fk h 258 rfl
theorem k_263 {m : MM} (h : Fx m) : kdl m 263 = some (18, 6) := fk h 259 rfl
theorem k_264 {m : MM} (h : Fx m) : kdl m 264 = some (13, 2) := fk h 260 rfl
theorem k_265 {m : MM} (h : Fx m) : kdl m 265 = some (13, 2) := fk h 261 rfl
theorem k_266 {m : MM} (h : Fx m) : kdl m 266 = some (13, 2) := fk h 262 rfl
theorem k_267 {m : MM} (h : Fx m) : kdl m 267 = some (13, 2) := fk h 263 rfl
theorem k_268 {m : MM} (h : Fx m) : kdl m 268 = some (13, 2) := fk h 264 rfl
theorem k_269 {m : MM} (h : Fx m) : kdl m 269 = some (13, 2) := fk h 265 rfl
theorem k_270 {m : MM} (h : Fx m) : kdl m 270 = some (18, 8) := fk h 266 rfl
theorem k_271 {m : MM} (h : Fx m) : kdl m 271 = some (13, 2) := fk h 267 rfl
theorem k_272 {m : MM} (h : Fx m) : kdl m 272 = some (13, 2) := fk h 268 rfl
theorem k_273 {m : MM} (h : Fx m) : kdl m 273 = some (13, 2) := fk h 269 rfl
theorem k_274 {m : MM} (h : Fx m) : kdl m 274 = some (13, 2) := fk h 270 rfl
theorem k_275 {m : MM} (h : Fx m) : kdl m 275 = some (13, 2) := fk h 271 rfl
theorem k_276 {m : MM} (h : Fx m) : kdl m 276 = some (13, 2) := fk h 272 rfl
theorem k_277 {m : MM} (h : Fx m) : kdl m 277 = some (13, 2) := fk h 273 rfl
theorem k_278 {m : MM} (h : Fx m) : kdl m 278 = some (13, 2) := fk h 274 rfl
theorem k_279 {m : MM} (h : Fx m) : kdl m 279 = some (18, 3) := fk h 275 rfl
theorem k_280 {m : MM} (h : Fx m) : kdl m 280 = some (13, 800) := fk h 276 rfl
theorem k_281 {m : MM} (h : Fx m) : kdl m 281 = some (13, 800) := fk h 277 rfl
theorem k_282 {m : MM} (h : Fx m) : kdl m 282 = some (13, 800) := fk h 278 rfl
theorem k_283 {m : MM} (h : Fx m) : kdl m 283 = some (14, 1) := fk h 279 rfl
theorem hu0 : ∀ i, i < 6 → R0 6 i = 7 + 3 * i := by decide +kernel
theorem hu0_r {m : MM} (h : Fx m) {i : Nat} (hi : i < 6) : ldR m 6 i = 7 + 3 * i := fr h ⟨by decide, by decide, by decide⟩ (hu0 i hi)
theorem hu0_k {m : MM} (h : Fx m) {i : Nat} (hi : i < 6) : kdl m (7 + 3 * i) = some (1, 0) := by
  have h1 : ∀ i, i < 6 → S0[7 - 4 + 3 * i]? = some (1, 0) := by decide +kernel
  have e : 7 + 3 * i = (7 - 4 + 3 * i) + 4 := by omega
  rw [e]; exact fk h _ (h1 i hi)
theorem hb0_k {m : MM} (h : Fx m) {i : Nat} (hi : i < 6) : kdl m (8 + 3 * i) = some (13, 12) := by
  have h1 : ∀ i, i < 6 → S0[8 - 4 + 3 * i]? = some (13, 12) := by decide +kernel
  have e : 8 + 3 * i = (8 - 4 + 3 * i) + 4 := by omega
  rw [e]; exact fk h _ (h1 i hi)
theorem hd0_k {m : MM} (h : Fx m) {i : Nat} (hi : i < 6) : kdl m (9 + 3 * i) = some (13, 12) := by
  have h1 : ∀ i, i < 6 → S0[9 - 4 + 3 * i]? = some (13, 12) := by decide +kernel
  have e : 9 + 3 * i = (9 - 4 + 3 * i) + 4 := by omega
  rw [e]; exact fk h _ (h1 i hi)
theorem hb0_r {m : MM} (h : Fx m) {i : Nat} (hi : i < 6) : ldR m (7 + 3 * i) 2 = 8 + 3 * i := by
  have h1 : ∀ i, i < 6 → R0 (7 + 3 * i) 2 = 8 + 3 * i := by decide +kernel
  exact fr h ⟨by omega, by omega, by omega⟩ (h1 i hi)
theorem hd0_r {m : MM} (h : Fx m) {i : Nat} (hi : i < 6) : ldR m (7 + 3 * i) 3 = 9 + 3 * i := by
  have h1 : ∀ i, i < 6 → R0 (7 + 3 * i) 3 = 9 + 3 * i := by decide +kernel
  exact fr h ⟨by omega, by omega, by omega⟩ (h1 i hi)
theorem hu1 : ∀ i, i < 6 → R0 43 i = 44 + 3 * i := by decide +kernel
theorem hu1_r {m : MM} (h : Fx m) {i : Nat} (hi : i < 6) : ldR m 43 i = 44 + 3 * i := fr h ⟨by decide, by decide, by decide⟩ (hu1 i hi)
theorem hu1_k {m : MM} (h : Fx m) {i : Nat} (hi : i < 6) : kdl m (44 + 3 * i) = some (1, 0) := by
  have h1 : ∀ i, i < 6 → S0[44 - 4 + 3 * i]? = some (1, 0) := by decide +kernel
  have e : 44 + 3 * i = (44 - 4 + 3 * i) + 4 := by omega
  rw [e]; exact fk h _ (h1 i hi)
theorem hb1_k {m : MM} (h : Fx m) {i : Nat} (hi : i < 6) : kdl m (45 + 3 * i) = some (13, 12) := by
  have h1 : ∀ i, i < 6 → S0[45 - 4 + 3 * i]? = some (13, 12) := by decide +kernel
  have e : 45 + 3 * i = (45 - 4 + 3 * i) + 4 := by omega
  rw [e]; exact fk h _ (h1 i hi)
theorem hd1_k {m : MM} (h : Fx m) {i : Nat} (hi : i < 6) : kdl m (46 + 3 * i) = some (13, 12) := by
  have h1 : ∀ i, i < 6 → S0[46 - 4 + 3 * i]? = some (13, 12) := by decide +kernel
  have e : 46 + 3 * i = (46 - 4 + 3 * i) + 4 := by omega
  rw [e]; exact fk h _ (h1 i hi)
theorem hb1_r {m : MM} (h : Fx m) {i : Nat} (hi : i < 6) : ldR m (44 + 3 * i) 2 = 45 + 3 * i := by
  have h1 : ∀ i, i < 6 → R0 (44 + 3 * i) 2 = 45 + 3 * i := by decide +kernel
  exact fr h ⟨by omega, by omega, by omega⟩ (h1 i hi)
theorem hd1_r {m : MM} (h : Fx m) {i : Nat} (hi : i < 6) : ldR m (44 + 3 * i) 3 = 46 + 3 * i := by
  have h1 : ∀ i, i < 6 → R0 (44 + 3 * i) 3 = 46 + 3 * i := by decide +kernel
  exact fr h ⟨by omega, by omega, by omega⟩ (h1 i hi)
theorem hu2 : ∀ i, i < 6 → R0 79 i = 80 + 3 * i := by decide +kernel
theorem hu2_r {m : MM} (h : Fx m) {i : Nat} (hi : i < 6) : ldR m 79 i = 80 + 3 * i := fr h ⟨by decide, by decide, by decide⟩ (hu2 i hi)
theorem hu2_k {m : MM} (h : Fx m) {i : Nat} (hi : i < 6) : kdl m (80 + 3 * i) = some (1, 0) := by
  have h1 : ∀ i, i < 6 → S0[80 - 4 + 3 * i]? = some (1, 0) := by decide +kernel
  have e : 80 + 3 * i = (80 - 4 + 3 * i) + 4 := by omega
  rw [e]; exact fk h _ (h1 i hi)
theorem hb2_k {m : MM} (h : Fx m) {i : Nat} (hi : i < 6) : kdl m (81 + 3 * i) = some (13, 12) := by
  have h1 : ∀ i, i < 6 → S0[81 - 4 + 3 * i]? = some (13, 12) := by decide +kernel
  have e : 81 + 3 * i = (81 - 4 + 3 * i) + 4 := by omega
  rw [e]; exact fk h _ (h1 i hi)
theorem hd2_k {m : MM} (h : Fx m) {i : Nat} (hi : i < 6) : kdl m (82 + 3 * i) = some (13, 12) := by
  have h1 : ∀ i, i < 6 → S0[82 - 4 + 3 * i]? = some (13, 12) := by decide +kernel
  have e : 82 + 3 * i = (82 - 4 + 3 * i) + 4 := by omega
  rw [e]; exact fk h _ (h1 i hi)
theorem hb2_r {m : MM} (h : Fx m) {i : Nat} (hi : i < 6) : ldR m (80 + 3 * i) 2 = 81 + 3 * i := by
  have h1 : ∀ i, i < 6 → R0 (80 + 3 * i) 2 = 81 + 3 * i := by decide +kernel
  exact fr h ⟨by omega, by omega, by omega⟩ (h1 i hi)
theorem hd2_r {m : MM} (h : Fx m) {i : Nat} (hi : i < 6) : ldR m (80 + 3 * i) 3 = 82 + 3 * i := by
  have h1 : ∀ i, i < 6 → R0 (80 + 3 * i) 3 = 82 + 3 * i := by decide +kernel
  exact fr h ⟨by omega, by omega, by omega⟩ (h1 i hi)
theorem hu3 : ∀ i, i < 6 → R0 115 i = 116 + 3 * i := by decide +kernel
theorem hu3_r {m : MM} (h : Fx m) {i : Nat} (hi : i < 6) : ldR m 115 i = 116 + 3 * i := fr h ⟨by decide, by decide, by decide⟩ (hu3 i hi)
theorem hu3_k {m : MM} (h : Fx m) {i : Nat} (hi : i < 6) : kdl m (116 + 3 * i) = some (1, 0) := by
  have h1 : ∀ i, i < 6 → S0[116 - 4 + 3 * i]? = some (1, 0) := by decide +kernel
  have e : 116 + 3 * i = (116 - 4 + 3 * i) + 4 := by omega
  rw [e]; exact fk h _ (h1 i hi)
theorem hb3_k {m : MM} (h : Fx m) {i : Nat} (hi : i < 6) : kdl m (117 + 3 * i) = some (13, 12) := by
  have h1 : ∀ i, i < 6 → S0[117 - 4 + 3 * i]? = some (13, 12) := by decide +kernel
  have e : 117 + 3 * i = (117 - 4 + 3 * i) + 4 := by omega
  rw [e]; exact fk h _ (h1 i hi)
theorem hd3_k {m : MM} (h : Fx m) {i : Nat} (hi : i < 6) : kdl m (118 + 3 * i) = some (13, 12) := by
  have h1 : ∀ i, i < 6 → S0[118 - 4 + 3 * i]? = some (13, 12) := by decide +kernel
  have e : 118 + 3 * i = (118 - 4 + 3 * i) + 4 := by omega
  rw [e]; exact fk h _ (h1 i hi)
theorem hb3_r {m : MM} (h : Fx m) {i : Nat} (hi : i < 6) : ldR m (116 + 3 * i) 2 = 117 + 3 * i := by
  have h1 : ∀ i, i < 6 → R0 (116 + 3 * i) 2 = 117 + 3 * i := by decide +kernel
  exact fr h ⟨by omega, by omega, by omega⟩ (h1 i hi)
theorem hd3_r {m : MM} (h : Fx m) {i : Nat} (hi : i < 6) : ldR m (116 + 3 * i) 3 = 118 + 3 * i := by
  have h1 : ∀ i, i < 6 → R0 (116 + 3 * i) 3 = 118 + 3 * i := by decide +kernel
  exact fr h ⟨by omega, by omega, by omega⟩ (h1 i hi)
theorem im : ∀ i, i < 3 → R0 41 i = 42 + 36 * i := by decide +kernel
theorem im_r {m : MM} (h : Fx m) {i : Nat} (hi : i < 3) : ldR m 41 i = 42 + 36 * i := fr h ⟨by decide, by decide, by decide⟩ (im i hi)
theorem tx : ∀ i, i < 7 → R0 169 i = 170 + 1 * i := by decide +kernel
theorem tx_r {m : MM} (h : Fx m) {i : Nat} (hi : i < 7) : ldR m 169 i = 170 + 1 * i := fr h ⟨by decide, by decide, by decide⟩ (tx i hi)
theorem tx_k {m : MM} (h : Fx m) {i : Nat} (hi : i < 7) : kdl m (170 + 1 * i) = some (13, 400) := by
  have h1 : ∀ i, i < 7 → S0[170 - 4 + 1 * i]? = some (13, 400) := by decide +kernel
  have e : 170 + 1 * i = (170 - 4 + 1 * i) + 4 := by omega
  rw [e]; exact fk h _ (h1 i hi)
theorem be : ∀ i, i < 6 → R0 182 i = 183 + 1 * i := by decide +kernel
theorem be_r {m : MM} (h : Fx m) {i : Nat} (hi : i < 6) : ldR m 182 i = 183 + 1 * i := fr h ⟨by decide, by decide, by decide⟩ (be i hi)
theorem be_k {m : MM} (h : Fx m) {i : Nat} (hi : i < 6) : kdl m (183 + 1 * i) = some (13, 12) := by
  have h1 : ∀ i, i < 6 → S0[183 - 4 + 1 * i]? = some (13, 12) := by decide +kernel
  have e : 183 + 1 * i = (183 - 4 + 1 * i) + 4 := by omega
  rw [e]; exact fk h _ (h1 i hi)
theorem dr : ∀ i, i < 6 → R0 189 i = 190 + 1 * i := by decide +kernel
theorem dr_r {m : MM} (h : Fx m) {i : Nat} (hi : i < 6) : ldR m 189 i = 190 + 1 * i := fr h ⟨by decide, by decide, by decide⟩ (dr i hi)
theorem dr_k {m : MM} (h : Fx m) {i : Nat} (hi : i < 6) : kdl m (190 + 1 * i) = some (13, 12) := by
  have h1 : ∀ i, i < 6 → S0[190 - 4 + 1 * i]? = some (13, 12) := by decide +kernel
  have e : 190 + 1 * i = (190 - 4 + 1 * i) + 4 := by omega
  rw [e]; exact fk h _ (h1 i hi)
theorem ru : ∀ i, i < 60 → R0 199 i = 200 + 1 * i := by decide +kernel
theorem ru_r {m : MM} (h : Fx m) {i : Nat} (hi : i < 60) : ldR m 199 i = 200 + 1 * i := fr h ⟨by decide, by decide, by decide⟩ (ru i hi)
theorem ru_k {m : MM} (h : Fx m) {i : Nat} (hi : i < 60) : kdl m (200 + 1 * i) = some (13, 7) := by
  have h1 : ∀ i, i < 60 → S0[200 - 4 + 1 * i]? = some (13, 7) := by decide +kernel
  have e : 200 + 1 * i = (200 - 4 + 1 * i) + 4 := by omega
  rw [e]; exact fk h _ (h1 i hi)
theorem mi : ∀ i, i < 6 → R0 263 i = 264 + 1 * i := by decide +kernel
theorem mi_r {m : MM} (h : Fx m) {i : Nat} (hi : i < 6) : ldR m 263 i = 264 + 1 * i := fr h ⟨by decide, by decide, by decide⟩ (mi i hi)
theorem mi_k {m : MM} (h : Fx m) {i : Nat} (hi : i < 6) : kdl m (264 + 1 * i) = some (13, 2) := by
  have h1 : ∀ i, i < 6 → S0[264 - 4 + 1 * i]? = some (13, 2) := by decide +kernel
  have e : 264 + 1 * i = (264 - 4 + 1 * i) + 4 := by omega
  rw [e]; exact fk h _ (h1 i hi)
theorem fo : ∀ i, i < 8 → R0 270 i = 271 + 1 * i := by decide +kernel
theorem fo_r {m : MM} (h : Fx m) {i : Nat} (hi : i < 8) : ldR m 270 i = 271 + 1 * i := fr h ⟨by decide, by decide, by decide⟩ (fo i hi)
theorem fo_k {m : MM} (h : Fx m) {i : Nat} (hi : i < 8) : kdl m (271 + 1 * i) = some (13, 2) := by
  have h1 : ∀ i, i < 8 → S0[271 - 4 + 1 * i]? = some (13, 2) := by decide +kernel
  have e : 271 + 1 * i = (271 - 4 + 1 * i) + 4 := by omega
  rw [e]; exact fk h _ (h1 i hi)
theorem ke : ∀ i, i < 3 → R0 279 i = 280 + 1 * i := by decide +kernel
theorem ke_r {m : MM} (h : Fx m) {i : Nat} (hi : i < 3) : ldR m 279 i = 280 + 1 * i := fr h ⟨by decide, by decide, by decide⟩ (ke i hi)
theorem ke_k {m : MM} (h : Fx m) {i : Nat} (hi : i < 3) : kdl m (280 + 1 * i) = some (13, 800) := by
  have h1 : ∀ i, i < 3 → S0[280 - 4 + 1 * i]? = some (13, 800) := by decide +kernel
  have e : 280 + 1 * i = (280 - 4 + 1 * i) + 4 := by omega
  rw [e]; exact fk h _ (h1 i hi)
