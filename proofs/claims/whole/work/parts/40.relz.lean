/-! act -/
theorem same_of {x K M : Int32} (hK : M.toInt = K.toInt + 1) : (if x < 0 then (0 : Int32) else (if M ≤ x then (0 : Int32) else (1 : Int32))) = f_X6_within x 0 K := by
  unfold f_X6_within
  by_cases c1 : x < 0
  · rw [if_pos c1, if_pos c1]
  · rw [if_neg c1, if_neg c1]
    by_cases c2 : M ≤ x
    · rw [if_pos c2, if_pos (show K < x by rw [i32_le] at c2; rw [i32_lt]; omega)]
    · rw [if_neg c2, if_neg (show ¬ K < x by rw [i32_le] at c2; rw [i32_lt]; omega)]
theorem reg_same (x : Int32) : f_X5_isRegister x = f_X6_isRegister x := same_of (K := 3) (M := 4) (by decide)
theorem cell_same (x : Int32) : f_X5_isCell x = f_X6_isCell x := same_of (K := 7) (M := 8) (by decide)
theorem row_same (x : Int32) : f_X5_isRow x = f_X6_within x 0 3 := same_of (K := 3) (M := 4) (by decide)
theorem place_same (x : Int32) : f_X5_isPlace x = f_X6_isPlaceIn x := rfl
theorem reg_w (x : Int32) : f_X6_isRegister x = f_X6_within x 0 3 := rfl
theorem mayBe_eq (k x y z : Int32) : f_X5_mayBe k x y z = f_X6_fits k x y z := by
  unfold f_X5_mayBe f_X6_fits
  simp only [reg_same, cell_same, row_same, place_same, reg_w]
  by_cases e0 : k = (0 : Int32)
  · rw [if_pos e0, if_pos e0]; try (first | rfl | congr)
  rw [if_neg e0, if_neg e0]
  by_cases e1 : k = (1 : Int32)
  · rw [if_pos e1, if_pos e1]; try (first | rfl | congr)
  rw [if_neg e1, if_neg e1]
  by_cases e2 : k = (2 : Int32)
  · rw [if_pos e2, if_pos e2]; try (first | rfl | congr)
  rw [if_neg e2, if_neg e2]
  by_cases e3 : k = (3 : Int32)
  · rw [if_pos e3, if_pos e3]; try (first | rfl | congr)
  rw [if_neg e3, if_neg e3]
  by_cases e4 : k = (4 : Int32)
  · rw [if_pos e4, if_pos e4]; try (first | rfl | congr)
  rw [if_neg e4, if_neg e4]
  by_cases e5 : k = (5 : Int32)
  · rw [if_pos e5, if_pos e5]; try (first | rfl | congr)
  rw [if_neg e5, if_neg e5]
  by_cases e6 : k = (6 : Int32)
  · rw [if_pos e6, if_pos e6]; try (first | rfl | congr)
  rw [if_neg e6, if_neg e6]
  by_cases e7 : k = (7 : Int32)
  · rw [if_pos e7, if_pos e7]; try (first | rfl | congr)
  rw [if_neg e7, if_neg e7]
  by_cases e8 : k = (8 : Int32)
  · rw [if_pos e8, if_pos e8]; try (first | rfl | congr)
  rw [if_neg e8, if_neg e8]
  by_cases e9 : k = (9 : Int32)
  · rw [if_pos e9, if_pos e9]; try (first | rfl | congr)
  rw [if_neg e9, if_neg e9]
  by_cases e10 : k = (10 : Int32)
  · rw [if_pos e10, if_pos e10]; try (first | rfl | congr)
  rw [if_neg e10, if_neg e10]
  by_cases e11 : k = (11 : Int32)
  · rw [if_pos e11, if_pos e11]; try (first | rfl | congr)
  rw [if_neg e11, if_neg e11]
  by_cases e12 : k = (12 : Int32)
  · subst e12; rfl
  rw [if_neg e12]
  by_cases e13 : k = (13 : Int32)
  · subst e13; rfl
  rw [if_neg e13]
  by_cases e14 : k = (14 : Int32)
  · rw [if_pos e14, if_pos e14]; try (first | rfl | congr)
  rw [if_neg e14, if_neg e14]
  by_cases e15 : k = (15 : Int32)
  · subst e15; rfl
  rw [if_neg e15]
  by_cases e16 : k = (16 : Int32)
  · rw [if_pos e16, if_pos e16]; try (first | rfl | congr)
  rw [if_neg e16, if_neg e16]
  by_cases e17 : k = (17 : Int32)
  · rw [if_pos e17, if_pos e17]; try (first | rfl | congr)
  rw [if_neg e17, if_neg e17]
  by_cases e18 : k = (18 : Int32)
  · rw [if_pos e18, if_pos e18]; try (first | rfl | congr)
  rw [if_neg e18, if_neg e18]
  by_cases e19 : k = (19 : Int32)
  · rw [if_pos e19, if_pos e19]; try (first | rfl | congr)
  rw [if_neg e19, if_neg e19]
  symm
  by_cases z : f_X6_within k 12 15 = 0
  · exact z
  · exfalso
    have hv : vp_in k 16 := by
      obtain ⟨a, b⟩ := within_iff.mp z
      rw [i32_le, show (12 : Int32).toInt = 12 by decide] at a
      rw [i32_le, show (15 : Int32).toInt = 15 by decide] at b
      exact vp_in_iff.mpr ⟨by omega, by omega⟩
    obtain ⟨n, hn, rfl⟩ := vp_in_of hv (by decide)
    have h20 : n = 0 ∨ n = 1 ∨ n = 2 ∨ n = 3 ∨ n = 4 ∨ n = 5 ∨ n = 6 ∨ n = 7 ∨ n = 8 ∨ n = 9 ∨ n = 10 ∨ n = 11 ∨ n = 12 ∨ n = 13 ∨ n = 14 ∨ n = 15 := by omega
    rcases h20 with rfl | rfl | rfl | rfl | rfl | rfl | rfl | rfl | rfl | rfl | rfl | rfl | rfl | rfl | rfl | rfl
    · exact e0 rfl
    · exact e1 rfl
    · exact e2 rfl
    · exact e3 rfl
    · exact e4 rfl
    · exact e5 rfl
    · exact e6 rfl
    · exact e7 rfl
    · exact e8 rfl
    · exact e9 rfl
    · exact e10 rfl
    · exact e11 rfl
    · exact e12 rfl
    · exact e13 rfl
    · exact e14 rfl
    · exact e15 rfl
