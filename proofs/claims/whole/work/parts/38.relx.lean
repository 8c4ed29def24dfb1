/-! the readers -/
theorem P_told {σ τ : mS} (h : Rel σ τ) (x y : Int32) : f_X5_told σ x y = f_X6_told τ x y := by
  unfold f_X5_told f_X6_told
  rcases strand_of x with ⟨c, e⟩ | ⟨t, ht, e, e1, e2, c, e3⟩
  · rw [if_pos c, if_pos e]
  · rw [if_neg c, e1, if_neg e2, e3, e, state_eq h ht, h.r_place ht, h.r_fail ht, h.r_trys ht, h.r_open ht, h.r_turns ht, h.r_anew ht, cl3 t ht]
theorem P_register {σ τ : mS} (h : Rel σ τ) (x y : Int32) : f_X5_register σ x y = f_X6_register τ x y := by
  unfold f_X5_register f_X6_register
  rcases strand_of x with ⟨c, e⟩ | ⟨t, ht, e, e1, e2, c, e3⟩
  · rw [if_pos c, if_pos e]
  · rw [if_neg c, e1, if_neg e2, e3, e]
    by_cases c1 : f_X6_isRegister y = 0
    · rw [if_pos c1, if_pos ((isReg_1 y).mp c1)]
    · rw [if_neg c1, if_neg (fun z => c1 ((isReg_1 y).mpr z))]
      obtain ⟨i, hi, rfl⟩ := reg_n c1
      exact held_r h ht hi
theorem P_writes {σ τ : mS} (h : Rel σ τ) : f_X5_writes σ = f_X6_writes τ := by
  obtain ⟨w, L, hw, e1, e2, _⟩ := h.2.2.1
  unfold f_X5_writes f_X6_writes
  rw [e1, e2]
