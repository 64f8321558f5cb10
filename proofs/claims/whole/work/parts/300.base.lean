/-- the reference slots that never change (0: none) -/
def rf_t : List (List Nat) := [[], [2, 0, 3, 0, 67, 73, 74, 93, 101, 0, 102], [], [], [0, 0, 0, 0, 0, 0, 0, 5, 6, 7, 8, 9, 10, 11, 12, 13, 14, 15, 20], [], [], [], [], [], [], [], [], [], [], [16, 17, 18, 19], [], [], [], [], [21, 22, 23, 24], [], [], [], [], [0, 0, 0, 0, 0, 0, 0, 26, 27, 28, 29, 30, 31, 32, 33, 34, 35, 36, 41], [], [], [], [], [], [], [], [], [], [], [37, 38, 39, 40], [], [], [], [], [42, 43, 44, 45], [], [], [], [], [0, 0, 0, 0, 0, 0, 0, 47, 48, 49, 50, 51, 52, 53, 54, 55, 56, 57, 62], [], [], [], [], [], [], [], [], [], [], [58, 59, 60, 61], [], [], [], [], [63, 64, 65, 66], [], [], [], [], [68, 0, 0, 0, 0, 0, 0, 0, 0, 0, 0, 0, 70, 71, 72], [], [], [], [], [], [], [0, 0, 75, 82, 83, 0, 90, 91, 92], [0, 76, 77, 78, 79, 80, 81], [], [], [], [], [], [], [], [0, 84, 85, 86, 87, 88, 89], [], [], [], [], [], [], [], [], [], [0, 0, 94], [0, 95, 96, 97, 98, 99, 100], [], [], [], [], [], [], [], [], [0, 0, 0, 0, 104, 0, 125, 126, 127, 128, 129, 0, 0, 0, 0, 0, 0, 0, 0, 0, 0, 130, 131, 132, 0, 0, 133, 134, 135, 136, 137, 138, 139, 140, 141, 142, 0, 143, 144, 145, 0, 0, 0, 0, 146, 147, 148, 149, 150, 151, 0, 0, 0, 0, 152, 153], [], [0, 0, 0, 106, 107, 108, 109, 110, 111, 112, 113, 114, 115, 116, 117, 118, 119, 120, 121, 122, 123, 124], [], [], [], [], [], [], [], [], [], [], [], [], [], [], [], [], [], [], [], [], [], [], [], [], [], [], [], [], [], [], [], [], [], [], [], [], [], [], [], [], [], [], [], [], [], [], [], [], [0, 0, 0, 155, 156, 157, 158, 159, 160, 161, 162, 163, 164, 165, 166, 167, 168, 169, 170, 171, 172, 173], [], [], [], [], [], [], [], [], [], [], [], [], [], [], [], [], [], [], [], [0, 0, 0, 175, 176, 177, 178, 179, 180, 181, 182, 183, 184, 185, 186, 187, 188, 189, 190, 191, 192, 193]]
def rf (c p : Nat) : Nat := (rf_t.getD c []).getD p 0
def Refs (h : AH) : Prop := ∀ c p, rf c p ≠ 0 → h.2.2 c p = rf c p
theorem gI_I (h : AH) (i k : Nat) (v : Int32) (a b : Nat) : (ax_setI h i k v).1 a b = if a = i ∧ b = k then v else h.1 a b := by
  unfold ax_setI upd
  by_cases e : a = i
  · subst e
    by_cases f : b = k
    · simp [f]
    · simp [f]
  · simp [e]
theorem gI_L (h : AH) (i k : Nat) (v : Int32) : (ax_setI h i k v).2.1 = h.2.1 := rfl
theorem gI_R (h : AH) (i k : Nat) (v : Int32) : (ax_setI h i k v).2.2 = h.2.2 := rfl
theorem gL_I (h : AH) (i k : Nat) (v : Int64) : (ax_setL h i k v).1 = h.1 := rfl
theorem gL_R (h : AH) (i k : Nat) (v : Int64) : (ax_setL h i k v).2.2 = h.2.2 := rfl
theorem gL_L (h : AH) (i k : Nat) (v : Int64) (a b : Nat) : (ax_setL h i k v).2.1 a b = if a = i ∧ b = k then v else h.2.1 a b := by
  unfold ax_setL vp_updL
  by_cases e : a = i
  · subst e
    by_cases f : b = k
    · simp [f]
    · simp [f]
  · simp [e]
theorem gR_I (h : AH) (i k : Nat) (v : Nat) : (ax_setR h i k v).1 = h.1 := rfl
theorem gR_L (h : AH) (i k : Nat) (v : Nat) : (ax_setR h i k v).2.1 = h.2.1 := rfl
theorem gR_R (h : AH) (i k : Nat) (v : Nat) (a b : Nat) : (ax_setR h i k v).2.2 a b = if a = i ∧ b = k then v else h.2.2 a b := by
  unfold ax_setR va_up
  by_cases e : a = i
  · subst e
    by_cases f : b = k
    · simp [f]
    · simp [f]
  · simp [e]
theorem Refs.setI {h : AH} {i k : Nat} {v : Int32} (hr : Refs h) : Refs (ax_setI h i k v) := hr
theorem Refs.setL {h : AH} {i k : Nat} {v : Int64} (hr : Refs h) : Refs (ax_setL h i k v) := hr
theorem Refs.setR {h : AH} {i k v : Nat} (hr : Refs h) (e : rf i k = 0) : Refs (ax_setR h i k v) := by
  intro c p hn
  rw [gR_R]
  by_cases q : c = i ∧ p = k
  · rw [q.1, q.2] at hn
    exact absurd e hn
  · rw [if_neg q]
    exact hr c p hn
theorem rf_1_0 {h : AH} (hr : Refs h) : h.2.2 1 0 = 2 := hr 1 0 (by decide)
theorem rf_1_2 {h : AH} (hr : Refs h) : h.2.2 1 2 = 3 := hr 1 2 (by decide)
theorem rf_1_4 {h : AH} (hr : Refs h) : h.2.2 1 4 = 67 := hr 1 4 (by decide)
theorem rf_1_5 {h : AH} (hr : Refs h) : h.2.2 1 5 = 73 := hr 1 5 (by decide)
theorem rf_1_6 {h : AH} (hr : Refs h) : h.2.2 1 6 = 74 := hr 1 6 (by decide)
theorem rf_1_7 {h : AH} (hr : Refs h) : h.2.2 1 7 = 93 := hr 1 7 (by decide)
theorem rf_1_8 {h : AH} (hr : Refs h) : h.2.2 1 8 = 101 := hr 1 8 (by decide)
theorem rf_1_10 {h : AH} (hr : Refs h) : h.2.2 1 10 = 102 := hr 1 10 (by decide)
theorem rf_4_7 {h : AH} (hr : Refs h) : h.2.2 4 7 = 5 := hr 4 7 (by decide)
theorem rf_4_8 {h : AH} (hr : Refs h) : h.2.2 4 8 = 6 := hr 4 8 (by decide)
theorem rf_4_9 {h : AH} (hr : Refs h) : h.2.2 4 9 = 7 := hr 4 9 (by decide)
theorem rf_4_10 {h : AH} (hr : Refs h) : h.2.2 4 10 = 8 := hr 4 10 (by decide)
theorem rf_4_11 {h : AH} (hr : Refs h) : h.2.2 4 11 = 9 := hr 4 11 (by decide)
theorem rf_4_12 {h : AH} (hr : Refs h) : h.2.2 4 12 = 10 := hr 4 12 (by decide)
theorem rf_4_13 {h : AH} (hr : Refs h) : h.2.2 4 13 = 11 := hr 4 13 (by decide)
theorem rf_4_14 {h : AH} (hr : Refs h) : h.2.2 4 14 = 12 := hr 4 14 (by decide)
theorem rf_4_15 {h : AH} (hr : Refs h) : h.2.2 4 15 = 13 := hr 4 15 (by decide)
theorem rf_4_16 {h : AH} (hr : Refs h) : h.2.2 4 16 = 14 := hr 4 16 (by decide)
theorem rf_4_17 {h : AH} (hr : Refs h) : h.2.2 4 17 = 15 := hr 4 17 (by decide)
theorem rf_4_18 {h : AH} (hr : Refs h) : h.2.2 4 18 = 20 := hr 4 18 (by decide)
theorem rf_15_0 {h : AH} (hr : Refs h) : h.2.2 15 0 = 16 := hr 15 0 (by decide)
theorem rf_15_1 {h : AH} (hr : Refs h) : h.2.2 15 1 = 17 := hr 15 1 (by decide)
theorem rf_15_2 {h : AH} (hr : Refs h) : h.2.2 15 2 = 18 := hr 15 2 (by decide)
theorem rf_15_3 {h : AH} (hr : Refs h) : h.2.2 15 3 = 19 := hr 15 3 (by decide)
theorem rf_20_0 {h : AH} (hr : Refs h) : h.2.2 20 0 = 21 := hr 20 0 (by decide)
theorem rf_20_1 {h : AH} (hr : Refs h) : h.2.2 20 1 = 22 := hr 20 1 (by decide)
theorem rf_20_2 {h : AH} (hr : Refs h) : h.2.2 20 2 = 23 := hr 20 2 (by decide)
theorem rf_20_3 {h : AH} (hr : Refs h) : h.2.2 20 3 = 24 := hr 20 3 (by decide)
theorem rf_25_7 {h : AH} (hr : Refs h) : h.2.2 25 7 = 26 := hr 25 7 (by decide)
theorem rf_25_8 {h : AH} (hr : Refs h) : h.2.2 25 8 = 27 := hr 25 8 (by decide)
theorem rf_25_9 {h : AH} (hr : Refs h) : h.2.2 25 9 = 28 := hr 25 9 (by decide)
theorem rf_25_10 {h : AH} (hr : Refs h) : h.2.2 25 10 = 29 := hr 25 10 (by decide)
theorem rf_25_11 {h : AH} (hr : Refs h) : h.2.2 25 11 = 30 := hr 25 11 (by decide)
theorem rf_25_12 {h : AH} (hr : Refs h) : h.2.2 25 12 = 31 := hr 25 12 (by decide)
theorem rf_25_13 {h : AH} (hr : Refs h) : h.2.2 25 13 = 32 := hr 25 13 (by decide)
theorem rf_25_14 {h : AH} (hr : Refs h) : h.2.2 25 14 = 33 := hr 25 14 (by decide)
theorem rf_25_15 {h : AH} (hr : Refs h) : h.2.2 25 15 = 34 := hr 25 15 (by decide)
theorem rf_25_16 {h : AH} (hr : Refs h) : h.2.2 25 16 = 35 := hr 25 16 (by decide)
theorem rf_25_17 {h : AH} (hr : Refs h) : h.2.2 25 17 = 36 := hr 25 17 (by decide)
theorem rf_25_18 {h : AH} (hr : Refs h) : h.2.2 25 18 = 41 := hr 25 18 (by decide)
theorem rf_36_0 {h : AH} (hr : Refs h) : h.2.2 36 0 = 37 := hr 36 0 (by decide)
theorem rf_36_1 {h : AH} (hr : Refs h) : h.2.2 36 1 = 38 := hr 36 1 (by decide)
theorem rf_36_2 {h : AH} (hr : Refs h) : h.2.2 36 2 = 39 := hr 36 2 (by decide)
theorem rf_36_3 {h : AH} (hr : Refs h) : h.2.2 36 3 = 40 := hr 36 3 (by decide)
theorem rf_41_0 {h : AH} (hr : Refs h) : h.2.2 41 0 = 42 := hr 41 0 (by decide)
theorem rf_41_1 {h : AH} (hr : Refs h) : h.2.2 41 1 = 43 := hr 41 1 (by decide)
theorem rf_41_2 {h : AH} (hr : Refs h) : h.2.2 41 2 = 44 := hr 41 2 (by decide)
theorem rf_41_3 {h : AH} (hr : Refs h) : h.2.2 41 3 = 45 := hr 41 3 (by decide)
theorem rf_46_7 {h : AH} (hr : Refs h) : h.2.2 46 7 = 47 := hr 46 7 (by decide)
theorem rf_46_8 {h : AH} (hr : Refs h) : h.2.2 46 8 = 48 := hr 46 8 (by decide)
theorem rf_46_9 {h : AH} (hr : Refs h) : h.2.2 46 9 = 49 := hr 46 9 (by decide)
theorem rf_46_10 {h : AH} (hr : Refs h) : h.2.2 46 10 = 50 := hr 46 10 (by decide)
theorem rf_46_11 {h : AH} (hr : Refs h) : h.2.2 46 11 = 51 := hr 46 11 (by decide)
theorem rf_46_12 {h : AH} (hr : Refs h) : h.2.2 46 12 = 52 := hr 46 12 (by decide)
theorem rf_46_13 {h : AH} (hr : Refs h) : h.2.2 46 13 = 53 := hr 46 13 (by decide)
theorem rf_46_14 {h : AH} (hr : Refs h) : h.2.2 46 14 = 54 := hr 46 14 (by decide)
theorem rf_46_15 {h : AH} (hr : Refs h) : h.2.2 46 15 = 55 := hr 46 15 (by decide)
theorem rf_46_16 {h : AH} (hr : Refs h) : h.2.2 46 16 = 56 := hr 46 16 (by decide)
theorem rf_46_17 {h : AH} (hr : Refs h) : h.2.2 46 17 = 57 := hr 46 17 (by decide)
theorem rf_46_18 {h : AH} (hr : Refs h) : h.2.2 46 18 = 62 := hr 46 18 (by decide)
theorem rf_57_0 {h : AH} (hr : Refs h) : h.2.2 57 0 = 58 := hr 57 0 (by decide)
theorem rf_57_1 {h : AH} (hr : Refs h) : h.2.2 57 1 = 59 := hr 57 1 (by decide)
theorem rf_57_2 {h : AH} (hr : Refs h) : h.2.2 57 2 = 60 := hr 57 2 (by decide)
theorem rf_57_3 {h : AH} (hr : Refs h) : h.2.2 57 3 = 61 := hr 57 3 (by decide)
theorem rf_62_0 {h : AH} (hr : Refs h) : h.2.2 62 0 = 63 := hr 62 0 (by decide)
theorem rf_62_1 {h : AH} (hr : Refs h) : h.2.2 62 1 = 64 := hr 62 1 (by decide)
theorem rf_62_2 {h : AH} (hr : Refs h) : h.2.2 62 2 = 65 := hr 62 2 (by decide)
theorem rf_62_3 {h : AH} (hr : Refs h) : h.2.2 62 3 = 66 := hr 62 3 (by decide)
theorem rf_67_0 {h : AH} (hr : Refs h) : h.2.2 67 0 = 68 := hr 67 0 (by decide)
theorem rf_67_12 {h : AH} (hr : Refs h) : h.2.2 67 12 = 70 := hr 67 12 (by decide)
theorem rf_67_13 {h : AH} (hr : Refs h) : h.2.2 67 13 = 71 := hr 67 13 (by decide)
theorem rf_67_14 {h : AH} (hr : Refs h) : h.2.2 67 14 = 72 := hr 67 14 (by decide)
theorem rf_74_2 {h : AH} (hr : Refs h) : h.2.2 74 2 = 75 := hr 74 2 (by decide)
theorem rf_74_3 {h : AH} (hr : Refs h) : h.2.2 74 3 = 82 := hr 74 3 (by decide)
theorem rf_74_4 {h : AH} (hr : Refs h) : h.2.2 74 4 = 83 := hr 74 4 (by decide)
theorem rf_74_6 {h : AH} (hr : Refs h) : h.2.2 74 6 = 90 := hr 74 6 (by decide)
theorem rf_74_7 {h : AH} (hr : Refs h) : h.2.2 74 7 = 91 := hr 74 7 (by decide)
theorem rf_74_8 {h : AH} (hr : Refs h) : h.2.2 74 8 = 92 := hr 74 8 (by decide)
theorem rf_75_1 {h : AH} (hr : Refs h) : h.2.2 75 1 = 76 := hr 75 1 (by decide)
theorem rf_75_2 {h : AH} (hr : Refs h) : h.2.2 75 2 = 77 := hr 75 2 (by decide)
theorem rf_75_3 {h : AH} (hr : Refs h) : h.2.2 75 3 = 78 := hr 75 3 (by decide)
theorem rf_75_4 {h : AH} (hr : Refs h) : h.2.2 75 4 = 79 := hr 75 4 (by decide)
theorem rf_75_5 {h : AH} (hr : Refs h) : h.2.2 75 5 = 80 := hr 75 5 (by decide)
theorem rf_75_6 {h : AH} (hr : Refs h) : h.2.2 75 6 = 81 := hr 75 6 (by decide)
theorem rf_83_1 {h : AH} (hr : Refs h) : h.2.2 83 1 = 84 := hr 83 1 (by decide)
theorem rf_83_2 {h : AH} (hr : Refs h) : h.2.2 83 2 = 85 := hr 83 2 (by decide)
theorem rf_83_3 {h : AH} (hr : Refs h) : h.2.2 83 3 = 86 := hr 83 3 (by decide)
theorem rf_83_4 {h : AH} (hr : Refs h) : h.2.2 83 4 = 87 := hr 83 4 (by decide)
theorem rf_83_5 {h : AH} (hr : Refs h) : h.2.2 83 5 = 88 := hr 83 5 (by decide)
theorem rf_83_6 {h : AH} (hr : Refs h) : h.2.2 83 6 = 89 := hr 83 6 (by decide)
theorem rf_93_2 {h : AH} (hr : Refs h) : h.2.2 93 2 = 94 := hr 93 2 (by decide)
theorem rf_94_1 {h : AH} (hr : Refs h) : h.2.2 94 1 = 95 := hr 94 1 (by decide)
theorem rf_94_2 {h : AH} (hr : Refs h) : h.2.2 94 2 = 96 := hr 94 2 (by decide)
theorem rf_94_3 {h : AH} (hr : Refs h) : h.2.2 94 3 = 97 := hr 94 3 (by decide)
theorem rf_94_4 {h : AH} (hr : Refs h) : h.2.2 94 4 = 98 := hr 94 4 (by decide)
theorem rf_94_5 {h : AH} (hr : Refs h) : h.2.2 94 5 = 99 := hr 94 5 (by decide)
theorem rf_94_6 {h : AH} (hr : Refs h) : h.2.2 94 6 = 100 := hr 94 6 (by decide)
theorem rf_103_4 {h : AH} (hr : Refs h) : h.2.2 103 4 = 104 := hr 103 4 (by decide)
theorem rf_103_6 {h : AH} (hr : Refs h) : h.2.2 103 6 = 125 := hr 103 6 (by decide)
theorem rf_103_7 {h : AH} (hr : Refs h) : h.2.2 103 7 = 126 := hr 103 7 (by decide)
theorem rf_103_8 {h : AH} (hr : Refs h) : h.2.2 103 8 = 127 := hr 103 8 (by decide)
theorem rf_103_9 {h : AH} (hr : Refs h) : h.2.2 103 9 = 128 := hr 103 9 (by decide)
theorem rf_103_10 {h : AH} (hr : Refs h) : h.2.2 103 10 = 129 := hr 103 10 (by decide)
theorem rf_103_21 {h : AH} (hr : Refs h) : h.2.2 103 21 = 130 := hr 103 21 (by decide)
theorem rf_103_22 {h : AH} (hr : Refs h) : h.2.2 103 22 = 131 := hr 103 22 (by decide)
theorem rf_103_23 {h : AH} (hr : Refs h) : h.2.2 103 23 = 132 := hr 103 23 (by decide)
theorem rf_103_26 {h : AH} (hr : Refs h) : h.2.2 103 26 = 133 := hr 103 26 (by decide)
theorem rf_103_27 {h : AH} (hr : Refs h) : h.2.2 103 27 = 134 := hr 103 27 (by decide)
theorem rf_103_28 {h : AH} (hr : Refs h) : h.2.2 103 28 = 135 := hr 103 28 (by decide)
theorem rf_103_29 {h : AH} (hr : Refs h) : h.2.2 103 29 = 136 := hr 103 29 (by decide)
theorem rf_103_30 {h : AH} (hr : Refs h) : h.2.2 103 30 = 137 := hr 103 30 (by decide)
theorem rf_103_31 {h : AH} (hr : Refs h) : h.2.2 103 31 = 138 := hr 103 31 (by decide)
theorem rf_103_32 {h : AH} (hr : Refs h) : h.2.2 103 32 = 139 := hr 103 32 (by decide)
theorem rf_103_33 {h : AH} (hr : Refs h) : h.2.2 103 33 = 140 := hr 103 33 (by decide)
theorem rf_103_34 {h : AH} (hr : Refs h) : h.2.2 103 34 = 141 := hr 103 34 (by decide)
theorem rf_103_35 {h : AH} (hr : Refs h) : h.2.2 103 35 = 142 := hr 103 35 (by decide)
theorem rf_103_37 {h : AH} (hr : Refs h) : h.2.2 103 37 = 143 := hr 103 37 (by decide)
theorem rf_103_38 {h : AH} (hr : Refs h) : h.2.2 103 38 = 144 := hr 103 38 (by decide)
theorem rf_103_39 {h : AH} (hr : Refs h) : h.2.2 103 39 = 145 := hr 103 39 (by decide)
theorem rf_103_44 {h : AH} (hr : Refs h) : h.2.2 103 44 = 146 := hr 103 44 (by decide)
theorem rf_103_45 {h : AH} (hr : Refs h) : h.2.2 103 45 = 147 := hr 103 45 (by decide)
theorem rf_103_46 {h : AH} (hr : Refs h) : h.2.2 103 46 = 148 := hr 103 46 (by decide)
theorem rf_103_47 {h : AH} (hr : Refs h) : h.2.2 103 47 = 149 := hr 103 47 (by decide)
theorem rf_103_48 {h : AH} (hr : Refs h) : h.2.2 103 48 = 150 := hr 103 48 (by decide)
theorem rf_103_49 {h : AH} (hr : Refs h) : h.2.2 103 49 = 151 := hr 103 49 (by decide)
theorem rf_103_54 {h : AH} (hr : Refs h) : h.2.2 103 54 = 152 := hr 103 54 (by decide)
theorem rf_103_55 {h : AH} (hr : Refs h) : h.2.2 103 55 = 153 := hr 103 55 (by decide)
theorem rf_105_3 {h : AH} (hr : Refs h) : h.2.2 105 3 = 106 := hr 105 3 (by decide)
theorem rf_105_4 {h : AH} (hr : Refs h) : h.2.2 105 4 = 107 := hr 105 4 (by decide)
theorem rf_105_5 {h : AH} (hr : Refs h) : h.2.2 105 5 = 108 := hr 105 5 (by decide)
theorem rf_105_6 {h : AH} (hr : Refs h) : h.2.2 105 6 = 109 := hr 105 6 (by decide)
theorem rf_105_7 {h : AH} (hr : Refs h) : h.2.2 105 7 = 110 := hr 105 7 (by decide)
theorem rf_105_8 {h : AH} (hr : Refs h) : h.2.2 105 8 = 111 := hr 105 8 (by decide)
theorem rf_105_9 {h : AH} (hr : Refs h) : h.2.2 105 9 = 112 := hr 105 9 (by decide)
theorem rf_105_10 {h : AH} (hr : Refs h) : h.2.2 105 10 = 113 := hr 105 10 (by decide)
theorem rf_105_11 {h : AH} (hr : Refs h) : h.2.2 105 11 = 114 := hr 105 11 (by decide)
theorem rf_105_12 {h : AH} (hr : Refs h) : h.2.2 105 12 = 115 := hr 105 12 (by decide)
theorem rf_105_13 {h : AH} (hr : Refs h) : h.2.2 105 13 = 116 := hr 105 13 (by decide)
theorem rf_105_14 {h : AH} (hr : Refs h) : h.2.2 105 14 = 117 := hr 105 14 (by decide)
theorem rf_105_15 {h : AH} (hr : Refs h) : h.2.2 105 15 = 118 := hr 105 15 (by decide)
theorem rf_105_16 {h : AH} (hr : Refs h) : h.2.2 105 16 = 119 := hr 105 16 (by decide)
theorem rf_105_17 {h : AH} (hr : Refs h) : h.2.2 105 17 = 120 := hr 105 17 (by decide)
theorem rf_105_18 {h : AH} (hr : Refs h) : h.2.2 105 18 = 121 := hr 105 18 (by decide)
theorem rf_105_19 {h : AH} (hr : Refs h) : h.2.2 105 19 = 122 := hr 105 19 (by decide)
theorem rf_105_20 {h : AH} (hr : Refs h) : h.2.2 105 20 = 123 := hr 105 20 (by decide)
theorem rf_105_21 {h : AH} (hr : Refs h) : h.2.2 105 21 = 124 := hr 105 21 (by decide)
theorem rf_154_3 {h : AH} (hr : Refs h) : h.2.2 154 3 = 155 := hr 154 3 (by decide)
theorem rf_154_4 {h : AH} (hr : Refs h) : h.2.2 154 4 = 156 := hr 154 4 (by decide)
theorem rf_154_5 {h : AH} (hr : Refs h) : h.2.2 154 5 = 157 := hr 154 5 (by decide)
theorem rf_154_6 {h : AH} (hr : Refs h) : h.2.2 154 6 = 158 := hr 154 6 (by decide)
theorem rf_154_7 {h : AH} (hr : Refs h) : h.2.2 154 7 = 159 := hr 154 7 (by decide)
theorem rf_154_8 {h : AH} (hr : Refs h) : h.2.2 154 8 = 160 := hr 154 8 (by decide)
theorem rf_154_9 {h : AH} (hr : Refs h) : h.2.2 154 9 = 161 := hr 154 9 (by decide)
theorem rf_154_10 {h : AH} (hr : Refs h) : h.2.2 154 10 = 162 := hr 154 10 (by decide)
theorem rf_154_11 {h : AH} (hr : Refs h) : h.2.2 154 11 = 163 := hr 154 11 (by decide)
theorem rf_154_12 {h : AH} (hr : Refs h) : h.2.2 154 12 = 164 := hr 154 12 (by decide)
theorem rf_154_13 {h : AH} (hr : Refs h) : h.2.2 154 13 = 165 := hr 154 13 (by decide)
theorem rf_154_14 {h : AH} (hr : Refs h) : h.2.2 154 14 = 166 := hr 154 14 (by decide)
theorem rf_154_15 {h : AH} (hr : Refs h) : h.2.2 154 15 = 167 := hr 154 15 (by decide)
theorem rf_154_16 {h : AH} (hr : Refs h) : h.2.2 154 16 = 168 := hr 154 16 (by decide)
theorem rf_154_17 {h : AH} (hr : Refs h) : h.2.2 154 17 = 169 := hr 154 17 (by decide)
theorem rf_154_18 {h : AH} (hr : Refs h) : h.2.2 154 18 = 170 := hr 154 18 (by decide)
theorem rf_154_19 {h : AH} (hr : Refs h) : h.2.2 154 19 = 171 := hr 154 19 (by decide)
theorem rf_154_20 {h : AH} (hr : Refs h) : h.2.2 154 20 = 172 := hr 154 20 (by decide)
theorem rf_154_21 {h : AH} (hr : Refs h) : h.2.2 154 21 = 173 := hr 154 21 (by decide)
theorem rf_174_3 {h : AH} (hr : Refs h) : h.2.2 174 3 = 175 := hr 174 3 (by decide)
theorem rf_174_4 {h : AH} (hr : Refs h) : h.2.2 174 4 = 176 := hr 174 4 (by decide)
theorem rf_174_5 {h : AH} (hr : Refs h) : h.2.2 174 5 = 177 := hr 174 5 (by decide)
theorem rf_174_6 {h : AH} (hr : Refs h) : h.2.2 174 6 = 178 := hr 174 6 (by decide)
theorem rf_174_7 {h : AH} (hr : Refs h) : h.2.2 174 7 = 179 := hr 174 7 (by decide)
theorem rf_174_8 {h : AH} (hr : Refs h) : h.2.2 174 8 = 180 := hr 174 8 (by decide)
theorem rf_174_9 {h : AH} (hr : Refs h) : h.2.2 174 9 = 181 := hr 174 9 (by decide)
theorem rf_174_10 {h : AH} (hr : Refs h) : h.2.2 174 10 = 182 := hr 174 10 (by decide)
theorem rf_174_11 {h : AH} (hr : Refs h) : h.2.2 174 11 = 183 := hr 174 11 (by decide)
theorem rf_174_12 {h : AH} (hr : Refs h) : h.2.2 174 12 = 184 := hr 174 12 (by decide)
theorem rf_174_13 {h : AH} (hr : Refs h) : h.2.2 174 13 = 185 := hr 174 13 (by decide)
theorem rf_174_14 {h : AH} (hr : Refs h) : h.2.2 174 14 = 186 := hr 174 14 (by decide)
theorem rf_174_15 {h : AH} (hr : Refs h) : h.2.2 174 15 = 187 := hr 174 15 (by decide)
theorem rf_174_16 {h : AH} (hr : Refs h) : h.2.2 174 16 = 188 := hr 174 16 (by decide)
theorem rf_174_17 {h : AH} (hr : Refs h) : h.2.2 174 17 = 189 := hr 174 17 (by decide)
theorem rf_174_18 {h : AH} (hr : Refs h) : h.2.2 174 18 = 190 := hr 174 18 (by decide)
theorem rf_174_19 {h : AH} (hr : Refs h) : h.2.2 174 19 = 191 := hr 174 19 (by decide)
theorem rf_174_20 {h : AH} (hr : Refs h) : h.2.2 174 20 = 192 := hr 174 20 (by decide)
theorem rf_174_21 {h : AH} (hr : Refs h) : h.2.2 174 21 = 193 := hr 174 21 (by decide)
def isA (x : Nat) : Prop := x = 4 ∨ x = 25 ∨ x = 46
def isB (x : Nat) : Prop := x = 105 ∨ x = 154 ∨ x = 174
theorem rfA_7 {h : AH} {x : Nat} (hr : Refs h) (hx : isA x) : h.2.2 x 7 = x + 1 := by
  rcases hx with rfl | rfl | rfl
  · exact rf_4_7 hr
  · exact rf_25_7 hr
  · exact rf_46_7 hr
theorem rfA_8 {h : AH} {x : Nat} (hr : Refs h) (hx : isA x) : h.2.2 x 8 = x + 2 := by
  rcases hx with rfl | rfl | rfl
  · exact rf_4_8 hr
  · exact rf_25_8 hr
  · exact rf_46_8 hr
theorem rfA_9 {h : AH} {x : Nat} (hr : Refs h) (hx : isA x) : h.2.2 x 9 = x + 3 := by
  rcases hx with rfl | rfl | rfl
  · exact rf_4_9 hr
  · exact rf_25_9 hr
  · exact rf_46_9 hr
theorem rfA_10 {h : AH} {x : Nat} (hr : Refs h) (hx : isA x) : h.2.2 x 10 = x + 4 := by
  rcases hx with rfl | rfl | rfl
  · exact rf_4_10 hr
  · exact rf_25_10 hr
  · exact rf_46_10 hr
theorem rfA_11 {h : AH} {x : Nat} (hr : Refs h) (hx : isA x) : h.2.2 x 11 = x + 5 := by
  rcases hx with rfl | rfl | rfl
  · exact rf_4_11 hr
  · exact rf_25_11 hr
  · exact rf_46_11 hr
theorem rfA_12 {h : AH} {x : Nat} (hr : Refs h) (hx : isA x) : h.2.2 x 12 = x + 6 := by
  rcases hx with rfl | rfl | rfl
  · exact rf_4_12 hr
  · exact rf_25_12 hr
  · exact rf_46_12 hr
theorem rfA_13 {h : AH} {x : Nat} (hr : Refs h) (hx : isA x) : h.2.2 x 13 = x + 7 := by
  rcases hx with rfl | rfl | rfl
  · exact rf_4_13 hr
  · exact rf_25_13 hr
  · exact rf_46_13 hr
theorem rfA_14 {h : AH} {x : Nat} (hr : Refs h) (hx : isA x) : h.2.2 x 14 = x + 8 := by
  rcases hx with rfl | rfl | rfl
  · exact rf_4_14 hr
  · exact rf_25_14 hr
  · exact rf_46_14 hr
theorem rfA_15 {h : AH} {x : Nat} (hr : Refs h) (hx : isA x) : h.2.2 x 15 = x + 9 := by
  rcases hx with rfl | rfl | rfl
  · exact rf_4_15 hr
  · exact rf_25_15 hr
  · exact rf_46_15 hr
theorem rfA_16 {h : AH} {x : Nat} (hr : Refs h) (hx : isA x) : h.2.2 x 16 = x + 10 := by
  rcases hx with rfl | rfl | rfl
  · exact rf_4_16 hr
  · exact rf_25_16 hr
  · exact rf_46_16 hr
theorem rfA_17 {h : AH} {x : Nat} (hr : Refs h) (hx : isA x) : h.2.2 x 17 = x + 11 := by
  rcases hx with rfl | rfl | rfl
  · exact rf_4_17 hr
  · exact rf_25_17 hr
  · exact rf_46_17 hr
theorem rfA_18 {h : AH} {x : Nat} (hr : Refs h) (hx : isA x) : h.2.2 x 18 = x + 16 := by
  rcases hx with rfl | rfl | rfl
  · exact rf_4_18 hr
  · exact rf_25_18 hr
  · exact rf_46_18 hr
theorem rfC_0 {h : AH} {x : Nat} (hr : Refs h) (hx : isA x) : h.2.2 (x + 11) 0 = x + 12 := by
  rcases hx with rfl | rfl | rfl
  · exact rf_15_0 hr
  · exact rf_36_0 hr
  · exact rf_57_0 hr
theorem rfC_1 {h : AH} {x : Nat} (hr : Refs h) (hx : isA x) : h.2.2 (x + 11) 1 = x + 13 := by
  rcases hx with rfl | rfl | rfl
  · exact rf_15_1 hr
  · exact rf_36_1 hr
  · exact rf_57_1 hr
theorem rfC_2 {h : AH} {x : Nat} (hr : Refs h) (hx : isA x) : h.2.2 (x + 11) 2 = x + 14 := by
  rcases hx with rfl | rfl | rfl
  · exact rf_15_2 hr
  · exact rf_36_2 hr
  · exact rf_57_2 hr
theorem rfC_3 {h : AH} {x : Nat} (hr : Refs h) (hx : isA x) : h.2.2 (x + 11) 3 = x + 15 := by
  rcases hx with rfl | rfl | rfl
  · exact rf_15_3 hr
  · exact rf_36_3 hr
  · exact rf_57_3 hr
theorem rfD_0 {h : AH} {x : Nat} (hr : Refs h) (hx : isA x) : h.2.2 (x + 16) 0 = x + 17 := by
  rcases hx with rfl | rfl | rfl
  · exact rf_20_0 hr
  · exact rf_41_0 hr
  · exact rf_62_0 hr
theorem rfD_1 {h : AH} {x : Nat} (hr : Refs h) (hx : isA x) : h.2.2 (x + 16) 1 = x + 18 := by
  rcases hx with rfl | rfl | rfl
  · exact rf_20_1 hr
  · exact rf_41_1 hr
  · exact rf_62_1 hr
theorem rfD_2 {h : AH} {x : Nat} (hr : Refs h) (hx : isA x) : h.2.2 (x + 16) 2 = x + 19 := by
  rcases hx with rfl | rfl | rfl
  · exact rf_20_2 hr
  · exact rf_41_2 hr
  · exact rf_62_2 hr
theorem rfD_3 {h : AH} {x : Nat} (hr : Refs h) (hx : isA x) : h.2.2 (x + 16) 3 = x + 20 := by
  rcases hx with rfl | rfl | rfl
  · exact rf_20_3 hr
  · exact rf_41_3 hr
  · exact rf_62_3 hr
theorem rfB_3 {h : AH} {x : Nat} (hr : Refs h) (hx : isB x) : h.2.2 x 3 = x + 1 := by
  rcases hx with rfl | rfl | rfl
  · exact rf_105_3 hr
  · exact rf_154_3 hr
  · exact rf_174_3 hr
theorem rfB_4 {h : AH} {x : Nat} (hr : Refs h) (hx : isB x) : h.2.2 x 4 = x + 2 := by
  rcases hx with rfl | rfl | rfl
  · exact rf_105_4 hr
  · exact rf_154_4 hr
  · exact rf_174_4 hr
theorem rfB_5 {h : AH} {x : Nat} (hr : Refs h) (hx : isB x) : h.2.2 x 5 = x + 3 := by
  rcases hx with rfl | rfl | rfl
  · exact rf_105_5 hr
  · exact rf_154_5 hr
  · exact rf_174_5 hr
theorem rfB_6 {h : AH} {x : Nat} (hr : Refs h) (hx : isB x) : h.2.2 x 6 = x + 4 := by
  rcases hx with rfl | rfl | rfl
  · exact rf_105_6 hr
  · exact rf_154_6 hr
  · exact rf_174_6 hr
theorem rfB_7 {h : AH} {x : Nat} (hr : Refs h) (hx : isB x) : h.2.2 x 7 = x + 5 := by
  rcases hx with rfl | rfl | rfl
  · exact rf_105_7 hr
  · exact rf_154_7 hr
  · exact rf_174_7 hr
theorem rfB_8 {h : AH} {x : Nat} (hr : Refs h) (hx : isB x) : h.2.2 x 8 = x + 6 := by
  rcases hx with rfl | rfl | rfl
  · exact rf_105_8 hr
  · exact rf_154_8 hr
  · exact rf_174_8 hr
theorem rfB_9 {h : AH} {x : Nat} (hr : Refs h) (hx : isB x) : h.2.2 x 9 = x + 7 := by
  rcases hx with rfl | rfl | rfl
  · exact rf_105_9 hr
  · exact rf_154_9 hr
  · exact rf_174_9 hr
theorem rfB_10 {h : AH} {x : Nat} (hr : Refs h) (hx : isB x) : h.2.2 x 10 = x + 8 := by
  rcases hx with rfl | rfl | rfl
  · exact rf_105_10 hr
  · exact rf_154_10 hr
  · exact rf_174_10 hr
theorem rfB_11 {h : AH} {x : Nat} (hr : Refs h) (hx : isB x) : h.2.2 x 11 = x + 9 := by
  rcases hx with rfl | rfl | rfl
  · exact rf_105_11 hr
  · exact rf_154_11 hr
  · exact rf_174_11 hr
theorem rfB_12 {h : AH} {x : Nat} (hr : Refs h) (hx : isB x) : h.2.2 x 12 = x + 10 := by
  rcases hx with rfl | rfl | rfl
  · exact rf_105_12 hr
  · exact rf_154_12 hr
  · exact rf_174_12 hr
theorem rfB_13 {h : AH} {x : Nat} (hr : Refs h) (hx : isB x) : h.2.2 x 13 = x + 11 := by
  rcases hx with rfl | rfl | rfl
  · exact rf_105_13 hr
  · exact rf_154_13 hr
  · exact rf_174_13 hr
theorem rfB_14 {h : AH} {x : Nat} (hr : Refs h) (hx : isB x) : h.2.2 x 14 = x + 12 := by
  rcases hx with rfl | rfl | rfl
  · exact rf_105_14 hr
  · exact rf_154_14 hr
  · exact rf_174_14 hr
theorem rfB_15 {h : AH} {x : Nat} (hr : Refs h) (hx : isB x) : h.2.2 x 15 = x + 13 := by
  rcases hx with rfl | rfl | rfl
  · exact rf_105_15 hr
  · exact rf_154_15 hr
  · exact rf_174_15 hr
theorem rfB_16 {h : AH} {x : Nat} (hr : Refs h) (hx : isB x) : h.2.2 x 16 = x + 14 := by
  rcases hx with rfl | rfl | rfl
  · exact rf_105_16 hr
  · exact rf_154_16 hr
  · exact rf_174_16 hr
theorem rfB_17 {h : AH} {x : Nat} (hr : Refs h) (hx : isB x) : h.2.2 x 17 = x + 15 := by
  rcases hx with rfl | rfl | rfl
  · exact rf_105_17 hr
  · exact rf_154_17 hr
  · exact rf_174_17 hr
theorem rfB_18 {h : AH} {x : Nat} (hr : Refs h) (hx : isB x) : h.2.2 x 18 = x + 16 := by
  rcases hx with rfl | rfl | rfl
  · exact rf_105_18 hr
  · exact rf_154_18 hr
  · exact rf_174_18 hr
theorem rfB_19 {h : AH} {x : Nat} (hr : Refs h) (hx : isB x) : h.2.2 x 19 = x + 17 := by
  rcases hx with rfl | rfl | rfl
  · exact rf_105_19 hr
  · exact rf_154_19 hr
  · exact rf_174_19 hr
theorem rfB_20 {h : AH} {x : Nat} (hr : Refs h) (hx : isB x) : h.2.2 x 20 = x + 18 := by
  rcases hx with rfl | rfl | rfl
  · exact rf_105_20 hr
  · exact rf_154_20 hr
  · exact rf_174_20 hr
theorem rfB_21 {h : AH} {x : Nat} (hr : Refs h) (hx : isB x) : h.2.2 x 21 = x + 19 := by
  rcases hx with rfl | rfl | rfl
  · exact rf_105_21 hr
  · exact rf_154_21 hr
  · exact rf_174_21 hr
theorem shA_0 {x : Nat} (hx : isA x) : Is 194 (x + 0) 0 ∧ (ax_s (x + 0)).2 = 19 := by
  rcases hx with rfl | rfl | rfl <;> exact ⟨⟨by decide, rfl⟩, rfl⟩
theorem shA_1 {x : Nat} (hx : isA x) : Is 194 (x + 1) 21 ∧ (ax_s (x + 1)).2 = 6 := by
  rcases hx with rfl | rfl | rfl <;> exact ⟨⟨by decide, rfl⟩, rfl⟩
theorem shA_2 {x : Nat} (hx : isA x) : Is 194 (x + 2) 21 ∧ (ax_s (x + 2)).2 = 8 := by
  rcases hx with rfl | rfl | rfl <;> exact ⟨⟨by decide, rfl⟩, rfl⟩
theorem shA_3 {x : Nat} (hx : isA x) : Is 194 (x + 3) 21 ∧ (ax_s (x + 3)).2 = 24 := by
  rcases hx with rfl | rfl | rfl <;> exact ⟨⟨by decide, rfl⟩, rfl⟩
theorem shA_4 {x : Nat} (hx : isA x) : Is 194 (x + 4) 20 ∧ (ax_s (x + 4)).2 = 6 := by
  rcases hx with rfl | rfl | rfl <;> exact ⟨⟨by decide, rfl⟩, rfl⟩
theorem shA_5 {x : Nat} (hx : isA x) : Is 194 (x + 5) 20 ∧ (ax_s (x + 5)).2 = 8 := by
  rcases hx with rfl | rfl | rfl <;> exact ⟨⟨by decide, rfl⟩, rfl⟩
theorem shA_6 {x : Nat} (hx : isA x) : Is 194 (x + 6) 20 ∧ (ax_s (x + 6)).2 = 48 := by
  rcases hx with rfl | rfl | rfl <;> exact ⟨⟨by decide, rfl⟩, rfl⟩
theorem shA_7 {x : Nat} (hx : isA x) : Is 194 (x + 7) 20 ∧ (ax_s (x + 7)).2 = 8 := by
  rcases hx with rfl | rfl | rfl <;> exact ⟨⟨by decide, rfl⟩, rfl⟩
theorem shA_8 {x : Nat} (hx : isA x) : Is 194 (x + 8) 20 ∧ (ax_s (x + 8)).2 = 8 := by
  rcases hx with rfl | rfl | rfl <;> exact ⟨⟨by decide, rfl⟩, rfl⟩
theorem shA_9 {x : Nat} (hx : isA x) : Is 194 (x + 9) 20 ∧ (ax_s (x + 9)).2 = 8 := by
  rcases hx with rfl | rfl | rfl <;> exact ⟨⟨by decide, rfl⟩, rfl⟩
theorem shA_10 {x : Nat} (hx : isA x) : Is 194 (x + 10) 20 ∧ (ax_s (x + 10)).2 = 24 := by
  rcases hx with rfl | rfl | rfl <;> exact ⟨⟨by decide, rfl⟩, rfl⟩
theorem shA_11 {x : Nat} (hx : isA x) : Is 194 (x + 11) 3 ∧ (ax_s (x + 11)).2 = 4 := by
  rcases hx with rfl | rfl | rfl <;> exact ⟨⟨by decide, rfl⟩, rfl⟩
theorem shA_12 {x : Nat} (hx : isA x) : Is 194 (x + 12) 20 ∧ (ax_s (x + 12)).2 = 24 := by
  rcases hx with rfl | rfl | rfl <;> exact ⟨⟨by decide, rfl⟩, rfl⟩
theorem shA_13 {x : Nat} (hx : isA x) : Is 194 (x + 13) 20 ∧ (ax_s (x + 13)).2 = 72 := by
  rcases hx with rfl | rfl | rfl <;> exact ⟨⟨by decide, rfl⟩, rfl⟩
theorem shA_14 {x : Nat} (hx : isA x) : Is 194 (x + 14) 20 ∧ (ax_s (x + 14)).2 = 72 := by
  rcases hx with rfl | rfl | rfl <;> exact ⟨⟨by decide, rfl⟩, rfl⟩
theorem shA_15 {x : Nat} (hx : isA x) : Is 194 (x + 15) 20 ∧ (ax_s (x + 15)).2 = 72 := by
  rcases hx with rfl | rfl | rfl <;> exact ⟨⟨by decide, rfl⟩, rfl⟩
theorem shA_16 {x : Nat} (hx : isA x) : Is 194 (x + 16) 4 ∧ (ax_s (x + 16)).2 = 4 := by
  rcases hx with rfl | rfl | rfl <;> exact ⟨⟨by decide, rfl⟩, rfl⟩
theorem shA_17 {x : Nat} (hx : isA x) : Is 194 (x + 17) 20 ∧ (ax_s (x + 17)).2 = 32 := by
  rcases hx with rfl | rfl | rfl <;> exact ⟨⟨by decide, rfl⟩, rfl⟩
theorem shA_18 {x : Nat} (hx : isA x) : Is 194 (x + 18) 20 ∧ (ax_s (x + 18)).2 = 128 := by
  rcases hx with rfl | rfl | rfl <;> exact ⟨⟨by decide, rfl⟩, rfl⟩
theorem shA_19 {x : Nat} (hx : isA x) : Is 194 (x + 19) 20 ∧ (ax_s (x + 19)).2 = 128 := by
  rcases hx with rfl | rfl | rfl <;> exact ⟨⟨by decide, rfl⟩, rfl⟩
theorem shA_20 {x : Nat} (hx : isA x) : Is 194 (x + 20) 20 ∧ (ax_s (x + 20)).2 = 128 := by
  rcases hx with rfl | rfl | rfl <;> exact ⟨⟨by decide, rfl⟩, rfl⟩
theorem shB_0 {x : Nat} (hx : isB x) : Is 194 (x + 0) 9 ∧ (ax_s (x + 0)).2 = 22 := by
  rcases hx with rfl | rfl | rfl <;> exact ⟨⟨by decide, rfl⟩, rfl⟩
theorem shB_1 {x : Nat} (hx : isB x) : Is 194 (x + 1) 21 ∧ (ax_s (x + 1)).2 = 8 := by
  rcases hx with rfl | rfl | rfl <;> exact ⟨⟨by decide, rfl⟩, rfl⟩
theorem shB_2 {x : Nat} (hx : isB x) : Is 194 (x + 2) 21 ∧ (ax_s (x + 2)).2 = 24 := by
  rcases hx with rfl | rfl | rfl <;> exact ⟨⟨by decide, rfl⟩, rfl⟩
theorem shB_3 {x : Nat} (hx : isB x) : Is 194 (x + 3) 21 ∧ (ax_s (x + 3)).2 = 6 := by
  rcases hx with rfl | rfl | rfl <;> exact ⟨⟨by decide, rfl⟩, rfl⟩
theorem shB_4 {x : Nat} (hx : isB x) : Is 194 (x + 4) 20 ∧ (ax_s (x + 4)).2 = 6 := by
  rcases hx with rfl | rfl | rfl <;> exact ⟨⟨by decide, rfl⟩, rfl⟩
theorem shB_5 {x : Nat} (hx : isB x) : Is 194 (x + 5) 20 ∧ (ax_s (x + 5)).2 = 8 := by
  rcases hx with rfl | rfl | rfl <;> exact ⟨⟨by decide, rfl⟩, rfl⟩
theorem shB_6 {x : Nat} (hx : isB x) : Is 194 (x + 6) 20 ∧ (ax_s (x + 6)).2 = 48 := by
  rcases hx with rfl | rfl | rfl <;> exact ⟨⟨by decide, rfl⟩, rfl⟩
theorem shB_7 {x : Nat} (hx : isB x) : Is 194 (x + 7) 20 ∧ (ax_s (x + 7)).2 = 8 := by
  rcases hx with rfl | rfl | rfl <;> exact ⟨⟨by decide, rfl⟩, rfl⟩
theorem shB_8 {x : Nat} (hx : isB x) : Is 194 (x + 8) 23 ∧ (ax_s (x + 8)).2 = 6 := by
  rcases hx with rfl | rfl | rfl <;> exact ⟨⟨by decide, rfl⟩, rfl⟩
theorem shB_9 {x : Nat} (hx : isB x) : Is 194 (x + 9) 20 ∧ (ax_s (x + 9)).2 = 32 := by
  rcases hx with rfl | rfl | rfl <;> exact ⟨⟨by decide, rfl⟩, rfl⟩
theorem shB_10 {x : Nat} (hx : isB x) : Is 194 (x + 10) 20 ∧ (ax_s (x + 10)).2 = 128 := by
  rcases hx with rfl | rfl | rfl <;> exact ⟨⟨by decide, rfl⟩, rfl⟩
theorem shB_11 {x : Nat} (hx : isB x) : Is 194 (x + 11) 20 ∧ (ax_s (x + 11)).2 = 128 := by
  rcases hx with rfl | rfl | rfl <;> exact ⟨⟨by decide, rfl⟩, rfl⟩
theorem shB_12 {x : Nat} (hx : isB x) : Is 194 (x + 12) 20 ∧ (ax_s (x + 12)).2 = 128 := by
  rcases hx with rfl | rfl | rfl <;> exact ⟨⟨by decide, rfl⟩, rfl⟩
theorem shB_13 {x : Nat} (hx : isB x) : Is 194 (x + 13) 21 ∧ (ax_s (x + 13)).2 = 128 := by
  rcases hx with rfl | rfl | rfl <;> exact ⟨⟨by decide, rfl⟩, rfl⟩
theorem shB_14 {x : Nat} (hx : isB x) : Is 194 (x + 14) 20 ∧ (ax_s (x + 14)).2 = 128 := by
  rcases hx with rfl | rfl | rfl <;> exact ⟨⟨by decide, rfl⟩, rfl⟩
theorem shB_15 {x : Nat} (hx : isB x) : Is 194 (x + 15) 20 ∧ (ax_s (x + 15)).2 = 24 := by
  rcases hx with rfl | rfl | rfl <;> exact ⟨⟨by decide, rfl⟩, rfl⟩
theorem shB_16 {x : Nat} (hx : isB x) : Is 194 (x + 16) 20 ∧ (ax_s (x + 16)).2 = 24 := by
  rcases hx with rfl | rfl | rfl <;> exact ⟨⟨by decide, rfl⟩, rfl⟩
theorem shB_17 {x : Nat} (hx : isB x) : Is 194 (x + 17) 20 ∧ (ax_s (x + 17)).2 = 72 := by
  rcases hx with rfl | rfl | rfl <;> exact ⟨⟨by decide, rfl⟩, rfl⟩
theorem shB_18 {x : Nat} (hx : isB x) : Is 194 (x + 18) 20 ∧ (ax_s (x + 18)).2 = 72 := by
  rcases hx with rfl | rfl | rfl <;> exact ⟨⟨by decide, rfl⟩, rfl⟩
theorem shB_19 {x : Nat} (hx : isB x) : Is 194 (x + 19) 20 ∧ (ax_s (x + 19)).2 = 72 := by
  rcases hx with rfl | rfl | rfl <;> exact ⟨⟨by decide, rfl⟩, rfl⟩
