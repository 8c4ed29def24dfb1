/-! the readers -/
theorem out_of {x K M : Int32} (hK : M.toInt = K.toInt + 1) (c : f_X6_within x 0 K = 0) : (if x < 0 then (0 : Int32) else (if M ≤ x then (0 : Int32) else (1 : Int32))) = 0 := by
  by_cases c1 : x < 0
  · rw [if_pos c1]
  · rw [if_neg c1]
    by_cases c2 : M ≤ x
    · rw [if_pos c2]
    · exfalso
      refine (within_iff.mpr ⟨?_, ?_⟩) c
      · rw [i32_lt, Int32.toInt_zero] at c1
        rw [i32_le, Int32.toInt_zero]; omega
      · rw [i32_le] at c2 ⊢
        omega
theorem reg_out {x : Int32} (c : f_X6_isRegister x = 0) : f_X5_isRegister x = 0 := out_of (K := 3) (M := 4) (by decide) c
theorem cell_out {x : Int32} (c : f_X6_isCell x = 0) : f_X5_isCell x = 0 := out_of (K := 7) (M := 8) (by decide) c
theorem row_out {x : Int32} (c : f_X6_within x 0 3 = 0) : f_X5_isRow x = 0 := out_of (K := 3) (M := 4) (by decide) c
theorem P_told {σ τ : mS} (h : Rel σ τ) (x y : Int32) : f_X5_told σ x y = f_X6_told τ x y := by
  unfold f_X5_told f_X6_told
  rcases strand_of x with ⟨c, e⟩ | ⟨t, ht, e, e1, e2, c, e3⟩
  · rw [if_pos c, if_pos e]
  · rw [if_neg c, e1, if_neg e2, e3, e, state_eq h ht, h.r_place ht, h.r_fail ht, h.r_trys ht, h.r_open ht, h.r_turns ht, h.r_anew ht, cl3 t ht]
theorem P_register {σ τ : mS} (h : Rel σ τ) (x y : Int32) : f_X5_register σ x y = f_X6_register τ x y := by
  unfold f_X5_register f_X6_register
  rcases strand_of x with ⟨c, e⟩ | ⟨t, ht, e, e1, e2, c, e3⟩
  · rw [if_pos c, if_pos e]
  · rw [if_neg c, e1, if_neg e2, e3, e]
    by_cases c1 : f_X6_isRegister y = 0
    · rw [if_pos c1, if_pos (reg_out c1)]
    · rw [if_neg c1]
      obtain ⟨i, hi, rfl⟩ := reg_n c1
      rw [isReg_1 i hi, if_neg (show ¬ (1 : Int32) = 0 by decide)]
      exact held_r h ht hi
theorem P_writes {σ τ : mS} (h : Rel σ τ) : f_X5_writes σ = f_X6_writes τ := by
  obtain ⟨w, L, hw, e1, e2, _⟩ := h.2.2.1
  unfold f_X5_writes f_X6_writes
  rw [e1, e2]
theorem P_cell {σ τ : mS} (h : Rel σ τ) (x : Int32) : f_X5_cell σ x = f_X6_cell τ x := by
  unfold f_X5_cell f_X6_cell f_X1_shown
  by_cases c : f_X6_isCell x = 0
  · rw [if_pos c, if_pos (cell_out c)]
  · rw [if_neg c]
    obtain ⟨i, hi, rfl⟩ := cell_n c
    rw [isCell_1 i hi, if_neg (show ¬ (1 : Int32) = 0 by decide), if_neg (show ¬ (1 : Int32) = 0 by decide), cl8 i hi]
    rcases h.2.1 i hi with ⟨a, b, d⟩ | ⟨a, b, d⟩
    · rw [if_pos a, d]
    · rw [if_neg a, d]
theorem P_lazy {σ τ : mS} (h : Rel σ τ) (x : Int32) : f_X5_lazy σ x = f_X6_lazy τ x := by
  unfold f_X5_lazy f_X6_lazy f_X1_isLazy
  by_cases c : f_X6_isCell x = 0
  · rw [if_pos c, if_pos (cell_out c)]
  · rw [if_neg c]
    obtain ⟨i, hi, rfl⟩ := cell_n c
    rw [isCell_1 i hi, if_neg (show ¬ (1 : Int32) = 0 by decide), if_neg (show ¬ (1 : Int32) = 0 by decide), cl8 i hi]
    rcases h.2.1 i hi with ⟨a, b, d⟩ | ⟨a, b, d⟩
    · rw [if_pos a, if_pos rfl, if_pos b]
    · rw [if_neg a, if_neg (show ¬ (1 : Int32) = 0 by decide), if_neg b]
theorem P_size {σ τ : mS} (h : Rel σ τ) (x : Int32) : f_X5_size σ x = f_X6_size τ x := by
  unfold f_X5_size f_X6_size f_X3_length
  by_cases c : f_X6_within x 0 3 = 0
  · rw [if_pos c, if_pos (row_out c)]
  · rw [if_neg c]
    obtain ⟨i, hi, rfl⟩ := row_n c
    rw [isRow_1 i hi, if_neg (show ¬ (1 : Int32) = 0 by decide), if_neg (show ¬ (1 : Int32) = 0 by decide), cl4 i hi, (h.2.2.2.1 i hi).1]
theorem P_frozen {σ τ : mS} (h : Rel σ τ) (x : Int32) : f_X5_frozen σ x = f_X6_frozen τ x := by
  unfold f_X5_frozen f_X6_frozen f_X3_isFrozen
  by_cases c : f_X6_within x 0 3 = 0
  · rw [if_pos c, if_pos (row_out c)]
  · rw [if_neg c]
    obtain ⟨i, hi, rfl⟩ := row_n c
    rw [isRow_1 i hi, if_neg (show ¬ (1 : Int32) = 0 by decide), if_neg (show ¬ (1 : Int32) = 0 by decide), cl4 i hi, (h.2.2.2.1 i hi).2.1]
    by_cases d : τ 59 i = 0
    · rw [if_pos d, if_pos rfl]
    · rw [if_neg d, if_neg (show ¬ (1 : Int32) = 0 by decide)]
theorem P_put {σ τ : mS} (h : Rel σ τ) (x v : Int32) : (f_X5_put σ x v).1 = (f_X6_put τ x v).1 ∧ Rel (f_X5_put σ x v).2 (f_X6_put τ x v).2 := by
  have hc := P_cell h x
  unfold f_X5_cell f_X6_cell at hc
  unfold f_X5_put f_X6_put f_X1_hold
  by_cases c : f_X6_isCell x = 0
  · rw [if_pos c, if_pos (cell_out c)]
    exact ⟨rfl, h⟩
  · rw [if_neg c] at hc ⊢
    obtain ⟨i, hi, rfl⟩ := cell_n c
    rw [isCell_1 i hi, if_neg (show ¬ (1 : Int32) = 0 by decide)] at hc ⊢
    have h8 : (8 : Int32).toInt = 8 := by decide
    rw [if_neg (show ¬ nI i < 0 by rw [i32_lt, nI_toInt (by omega), Int32.toInt_zero]; omega), if_neg (show ¬ (8 : Int32) ≤ nI i by rw [i32_le, nI_toInt (by omega), h8]; omega)]
    rw [cl8 i hi] at hc ⊢
    exact ⟨hc, h.cell i v⟩
