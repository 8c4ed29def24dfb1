theorem P_act {σ τ : mS} (h : Rel σ τ) (hN : ∀ t, t < 3 → vp_in (τ 60 t) 25) (x k a b c : Int32) : (f_X5_act σ x k a b c).1 = (f_X6_act τ x k a b c).1 ∧ Rel (f_X5_act σ x k a b c).2 (f_X6_act τ x k a b c).2 := by
  unfold f_X5_act f_X6_act
  rcases strand_of x with ⟨d, e⟩ | ⟨t, ht, e, e1, e2, d, e3⟩
  · rw [if_pos d, if_pos e]
    exact ⟨rfl, h⟩
  rw [if_neg d, e1, if_neg e2, e3, e, mayBe_eq, cl3 t ht]
  by_cases c1 : f_X6_fits k a b c = 0
  · rw [if_pos c1, if_pos c1]
    exact ⟨rfl, h⟩
  rw [if_neg c1, if_neg c1, h.r_turns ht]
  by_cases c2 : τ 69 t ≤ 0
  · rw [if_pos c2, if_pos c2]
    obtain ⟨m, hm, em⟩ := vp_in_of (hN t ht) (by decide)
    unfold f_X4_append
    simp only [ap]
    rw [h.r_acts ht, em, if_neg (show ¬ nI m < 0 by rw [i32_lt, nI_toInt (by omega), Int32.toInt_zero]; omega)]
    have h24 : (24 : Int32).toInt = 24 := by decide
    by_cases c3 : m = 24
    · subst c3
      rw [if_neg (show ¬ nI 24 < (24 : Int32) by decide), if_pos (show nI 24 = (24 : Int32) from rfl)]
      exact ⟨rfl, h⟩
    · have m24 : m < 24 := by omega
      rw [if_pos (show nI m < (24 : Int32) by rw [i32_lt, nI_toInt (by omega), h24]; omega), if_neg (show ¬ nI m = (24 : Int32) by intro z; have z1 := congrArg Int32.toInt z; rw [nI_toInt (by omega), h24] at z1; omega), ix24 ht m24, nI_clamp (by omega)]
      have q60 : ∀ v1 v2 v3 v4 : Int32, st2 (st2 (st2 (st2 τ 61 (24 * t + m) v1) 62 (24 * t + m) v2) 63 (24 * t + m) v3) 64 (24 * t + m) v4 60 t = nI m := by
        intro v1 v2 v3 v4
        rw [st2_nq (by decide), st2_nq (by decide), st2_nq (by decide), st2_nq (by decide), em]
      rw [q60]
      exact ⟨by simp [st2], ((((h.s_kinds ht m24 k).s_xs ht m24 a).s_ys ht m24 b).s_zs ht m24 c).s_acts ht (nI m + 1)⟩
  · rw [if_neg c2, if_neg c2]
    exact ⟨rfl, h⟩
