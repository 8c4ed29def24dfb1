/-! write -/
theorem nI_sub {a b : Nat} (h : b ≤ a) : nI a - nI b = nI (a - b) := by
  have e : nI (a - b) + nI b = nI a := by rw [nI_add]; congr 1; omega
  rw [← e, Int32.add_sub_cancel]
theorem ring_at {n : Nat} (h : n < 2 ^ 31) : (nI n - nI n / 30 * 30).toNatClampNeg = n % 30 := by
  rw [show (30 : Int32) = nI 30 from rfl, pk_rem h (by decide) (by decide), nI_clamp (by omega)]
theorem within_nI {i : Nat} {K : Int32} (hi : i < 2 ^ 31) : ¬ f_X6_within (nI i) 0 K = 0 ↔ (i : Int) ≤ K.toInt := by
  rw [within_iff, i32_le, i32_le, Int32.toInt_zero, nI_toInt hi]
  omega
theorem within_neg {x K : Int32} (h : x < 0) : f_X6_within x 0 K = 0 := by
  unfold f_X6_within
  rw [if_pos h]
theorem P_write {σ τ : mS} (h : Rel σ τ) (x y : Int32) : f_X5_write σ x y = f_X6_write_ τ x y := by
  obtain ⟨w, L, h0, h1, h2, h3, h4, h5⟩ := h.2.2.1
  have k29 : ((30 : Int32) - 1).toInt = 29 := by decide
  have k30 : (30 : Int32).toInt = 30 := by decide
  unfold f_X5_write f_X6_write_ f_X2_tell
  rw [h1, h2, h3]
  by_cases y0 : y < 0
  · rw [if_pos y0, if_pos (within_neg y0)]
  rw [if_neg y0]
  have y1 := y0
  rw [i32_lt, Int32.toInt_zero] at y1
  by_cases y2 : y ≤ (2 : Int32)
  · have yi : ¬ f_X6_within y 0 2 = 0 := within_iff.mpr ⟨by rw [i32_le, Int32.toInt_zero]; omega, y2⟩
    rw [if_pos y2, if_neg yi]
    have wm : (nI w - 1).toInt = (w : Int) - 1 := by
      cases w with
      | zero => decide
      | succ w => rw [← nI_1, Int32.add_sub_cancel, nI_toInt (by omega)]; omega
    by_cases x0 : x < 0
    · rw [if_pos x0, if_pos (within_neg x0), if_pos (within_neg x0)]
      split <;> rfl
    · rw [if_neg x0]
      have x1 := x0
      rw [i32_lt, Int32.toInt_zero] at x1
      obtain ⟨i, hi, rfl⟩ : ∃ i : Nat, i < 2 ^ 31 ∧ x = nI i := by
        refine ⟨x.toInt.toNat, ?_, ?_⟩
        · have := Int32.toInt_lt x; omega
        · apply Int32.toInt_inj.mp
          rw [nI_toInt (by have := Int32.toInt_lt x; omega)]
          omega
      by_cases c2 : w ≤ i
      · rw [if_pos (show nI w ≤ nI i by rw [i32_le, nI_toInt h0, nI_toInt hi]; omega)]
        by_cases c3 : (30 : Int32) ≤ nI w
        · have c4 := c3
          rw [i32_le, k30, nI_toInt h0] at c4
          rw [if_pos c3, if_pos (Decidable.byContradiction fun z => by have := (within_nI hi).mp z; rw [k29] at this; omega)]
        · rw [if_neg c3, if_pos (Decidable.byContradiction fun z => by have := (within_nI hi).mp z; rw [wm] at this; omega)]
      · rw [if_neg (show ¬ nI w ≤ nI i by rw [i32_le, nI_toInt h0, nI_toInt hi]; omega)]
        by_cases c5 : i < 30
        · obtain ⟨a1, a2, a3⟩ := h5 i c5 (by omega)
          rw [if_pos (show nI i < (30 : Int32) by rw [i32_lt, nI_toInt hi, k30]; omega)]
          have e9 : (nI w - 1 - nI i - (nI w - 1 - nI i) / 30 * 30).toNatClampNeg = (w - 1 - i) % 30 := by
            have e8 : nI w - 1 - nI i = nI (w - 1 - i) := by
              rw [show (1 : Int32) = nI 1 from rfl, nI_sub (by omega), nI_sub (by omega)]
            rw [e8, ring_at (by omega)]
          rw [e9, ← a1, ← a2, ← a3, if_neg (show ¬ f_X6_within (nI i) 0 (30 - 1) = 0 from (within_nI hi).mpr (by rw [k29]; omega)), if_neg (show ¬ f_X6_within (nI i) 0 (nI w - 1) = 0 from (within_nI hi).mpr (by rw [wm]; omega))]
          have e10 : ∀ A B : Int32, (if (30 : Int32) ≤ nI w then (if y = 0 then A else B) else (if y = 0 then A else B)) = (if y = 0 then A else B) := by
            intro A B; split <;> rfl
          by_cases c6 : L < i
          · have e7 : nI L - nI i + 30 = nI (L + 30 - i) := by
              have e6 : nI (L + 30 - i) + nI i = nI L + nI 30 := by rw [nI_add, nI_add]; congr 1; omega
              have e5 : nI (L + 30 - i) = nI L + nI 30 - nI i := by rw [← e6, Int32.add_sub_cancel]
              rw [e5, show (30 : Int32) = nI 30 from rfl, Int32.sub_eq_add_neg, Int32.sub_eq_add_neg]
              ac_rfl
            rw [if_pos (show nI L < nI i by rw [i32_lt, nI_toInt (by omega), nI_toInt hi]; omega), e7, if_neg (show ¬ nI (L + 30 - i) < 0 by rw [i32_lt, nI_toInt (by omega), Int32.toInt_zero]; omega), if_pos (show nI (L + 30 - i) < (30 : Int32) by rw [i32_lt, nI_toInt (by omega), k30]; omega), nI_clamp (by omega), Nat.mod_eq_of_lt (show L + 30 - i < 30 by omega), e10]
          · have e7 : (L + 30 - i) % 30 = L - i := by omega
            rw [if_neg (show ¬ nI L < nI i by rw [i32_lt, nI_toInt (by omega), nI_toInt hi]; omega), nI_sub (by omega), if_neg (show ¬ nI (L - i) < 0 by rw [i32_lt, nI_toInt (by omega), Int32.toInt_zero]; omega), if_pos (show nI (L - i) < (30 : Int32) by rw [i32_lt, nI_toInt (by omega), k30]; omega), nI_clamp (by omega), e7, e10]
        · rw [if_neg (show ¬ nI i < (30 : Int32) by rw [i32_lt, nI_toInt hi, k30]; omega), if_pos (show (30 : Int32) ≤ nI w by rw [i32_le, nI_toInt h0, k30]; omega), if_pos (Decidable.byContradiction fun z => by have := (within_nI hi).mp z; rw [k29] at this; omega)]
  · rw [if_neg y2, if_pos (Decidable.byContradiction fun z => y2 (within_iff.mp z).2)]
