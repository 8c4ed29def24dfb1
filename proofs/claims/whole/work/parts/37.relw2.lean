/-! turn -/
theorem strand_of (x : Int32) : (f_X6_within x 0 2 = 0 ∧ f_X5_strandOf x = -1) ∨ ∃ t, t < 3 ∧ x = nI t ∧ f_X5_strandOf x = nI t ∧ ¬ nI t = -1 ∧ ¬ f_X6_within x 0 2 = 0 ∧ sI (nI t) = 14 + 13 * t := by
  have h3 : (3 : Int32).toInt = 3 := by decide
  by_cases c : f_X6_within x 0 2 = 0
  · left
    refine ⟨c, ?_⟩
    unfold f_X5_strandOf
    by_cases c1 : x < 0
    · rw [if_pos c1]
    · rw [if_neg c1]
      by_cases c2 : (3 : Int32) ≤ x
      · rw [if_pos c2]
      · exfalso
        refine (within_iff.mpr ⟨?_, ?_⟩) c
        · rw [i32_lt, Int32.toInt_zero] at c1
          rw [i32_le, Int32.toInt_zero]; omega
        · rw [i32_le, h3] at c2
          rw [i32_le]; show x.toInt ≤ 2; omega
  · right
    obtain ⟨t, ht, e⟩ := vp_in_of (vin_w (n := 3) c (by decide)) (by decide)
    refine ⟨t, ht, e, ?_, ?_, c, ?_⟩
    · unfold f_X5_strandOf
      rw [e, if_neg (show ¬ nI t < 0 by rw [i32_lt, nI_toInt (by omega), Int32.toInt_zero]; omega), if_neg (show ¬ (3 : Int32) ≤ nI t by rw [i32_le, nI_toInt (by omega), h3]; omega)]
    · intro z
      have z1 := congrArg Int32.toInt z
      rw [nI_toInt (by omega), show (-1 : Int32).toInt = -1 by decide] at z1
      omega
    · unfold sI; rw [cl3 t ht]
theorem fails_eq {σ τ : mS} (h : Rel σ τ) : σ 0 4 < (5000 : Int32) ↔ ¬ τ 53 0 = (5000 : Int32) := by
  obtain ⟨hE1, f, hf, hE2⟩ := h.2.2.2.2.1
  have h5 : (5000 : Int32).toInt = 5000 := by decide
  rw [hE1, hE2, i32_lt, nI_toInt (by omega), h5]
  constructor
  · intro a z
    have z1 := congrArg Int32.toInt z
    rw [nI_toInt (by omega), h5] at z1
    omega
  · intro a
    by_cases c : f = 5000
    · subst c; exact absurd rfl a
    · omega
theorem P_turn {σ τ : mS} (h : Rel σ τ) {b : Nat} (hI : RI b τ) (hb : b < 2 ^ 28) (x : Int32) : (f_X5_turn σ x).1 = (f_X6_turn τ x).1 ∧ Rel (f_X5_turn σ x).2 (f_X6_turn τ x).2 := by
  unfold f_X5_turn f_X6_turn
  simp only [ap]
  rcases strand_of x with ⟨c, e⟩ | ⟨t, ht, e, e1, e2, c, e3⟩
  · rw [if_pos c, if_pos e]
    exact ⟨rfl, h⟩
  · rw [if_neg c, e1, if_neg e2, e3, e, state_eq h ht]
    by_cases c1 : f_X6_stateOf τ (nI t) = 0
    · rw [if_pos c1, if_pos c1]
      by_cases c2 : τ 53 0 = (5000 : Int32)
      · rw [if_pos c2, if_neg (fun z => (fails_eq h).mp z c2)]
        exact ⟨rfl, h⟩
      · rw [if_neg c2, if_pos ((fails_eq h).mpr c2)]
        have r := h.turn hI hb c2 ht (fun τ' => k0_doAct τ' (nI t))
        exact ⟨state_eq r ht, r⟩
    · rw [if_neg c1, if_neg c1]
      exact ⟨rfl, h⟩
