theorem P_item {σ τ : mS} (h : Rel σ τ) (hS : ∀ r, r < 4 → τ 57 r = -1 ∨ vp_in (τ 57 r) 9) (x v : Int32) : f_X5_item σ x v = f_X6_item τ x v := by
  unfold f_X5_item f_X6_item f_X3_itemOf
  by_cases c : f_X6_within x 0 3 = 0
  · rw [if_pos c, if_pos (row_out c)]
  · rw [if_neg c]
    obtain ⟨i, hi, rfl⟩ := row_n c
    rw [isRow_1 i hi, if_neg (show ¬ (1 : Int32) = 0 by decide), cl4 i hi]
    rcases item_k h.2.2.2.1 hi (hS i hi) v with a | ⟨a, b, d⟩ | ⟨a, b, d, j, hj, rfl, e⟩
    · have e1 : f_X6_within v 0 (τ 57 i - 1) = 0 := by
        by_cases z : f_X6_within v 0 (τ 57 i - 1) = 0
        · exact z
        · obtain ⟨z1, z2⟩ := within_iff.mp z
          rw [a, i32_le, show ((-1 : Int32) - 1).toInt = -2 by decide] at z2
          rw [i32_le, Int32.toInt_zero] at z1
          omega
      have e2 : f_X3_hasItem σ (nI i) v = 0 := by
        unfold f_X3_hasItem
        rw [isRow_1 i hi, if_neg (show ¬ (1 : Int32) = 0 by decide), cl4 i hi, (h.2.2.2.1 i hi).1, a]
        by_cases z : v < 0
        · rw [if_pos z]
        · rw [if_neg z, if_pos (show (-1 : Int32) ≤ v by rw [i32_lt, Int32.toInt_zero] at z; rw [i32_le, show (-1 : Int32).toInt = -1 by decide]; omega)]
      rw [if_pos e1, if_pos e2]
    · rw [if_pos b, if_pos d]
    · rw [if_neg b, if_neg d, (ix8r hi hj).1, (ix8r hi hj).2, (h.2.2.2.1 i hi).2.2.2 j hj e]
