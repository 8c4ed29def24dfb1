/-! a turn, on both sides; hk: an act leaves the count of failures (proved in the next part) -/
theorem state_eq {σ τ : mS} (h : Rel σ τ) {t : Nat} (ht : t < 3) : f_X4_state σ (14 + 13 * t) = f_X6_stateOf τ (nI t) := by
  obtain ⟨g1, g2, g3, g4⟩ := h.2.2.2.2.2.2 t ht
  unfold f_X4_state f_X6_stateOf
  rw [cl3 t ht, h.r_fail ht, h.r_place ht, h.r_acts ht, h.r_trys ht, h.r_open ht]
  by_cases c : τ 67 t = 0
  · rw [if_pos c, if_pos (g2.mp c)]
  · rw [if_neg c, if_neg (fun z => c (g2.mpr z))]
theorem Rel.tick {σ τ : mS} (h : Rel σ τ) {t : Nat} (ht : t < 3) (v : Int32) : Rel (st2 (st2 (st2 σ 0 3 (σ 0 3 + 1)) (14 + 13 * t) 13 (σ (14 + 13 * t) 13 + 1)) (14 + 13 * t) 11 v) (st2 (st2 τ 53 32 0) 69 t (st2 τ 53 32 0 69 t + 1)) :=
  ((h.f32 0).s_turn ht).n11 ht v
theorem Rel.turn {σ τ : mS} (h : Rel σ τ) {b : Nat} (hI : RI b τ) (hb : b < 2 ^ 28) (h5 : ¬ τ 53 0 = 5000) {t : Nat} (ht : t < 3)
    (hk : ∀ τ' : mS, (f_X6_doAct τ' (nI t)).2 53 0 = τ' 53 0) : Rel (f_X5_takeTurn σ (14 + 13 * t)).2 (f_X6_doTurn τ (nI t)).2 := by
  have hti : vp_in (nI t) 3 := vp_in_iff.mpr ⟨by rw [nI_toInt (by omega)]; omega, by rw [nI_toInt (by omega)]; omega⟩
  have rI := hI.tick (0 : Int32) t (st2 τ 53 32 0 69 t + 1)
  have e13 : st2 σ 0 3 (σ 0 3 + 1) (14 + 13 * t) 13 = σ (14 + 13 * t) 13 := by rw [st2_nq (by omega)]
  have e10 : st2 σ 0 3 (σ 0 3 + 1) (14 + 13 * t) 10 = τ 66 t := by rw [st2_nq (by omega), h.r_place ht]
  have r1 := h.tick ht (τ 66 t + 1)
  unfold f_X5_takeTurn f_X6_doTurn
  rw [e13, e10, cl3 t ht]
  simp only [ap]
  have h53 : st2 (st2 τ 53 32 0) 69 t (st2 τ 53 32 0 69 t + 1) 53 0 = τ 53 0 := by rw [st2_nq (by decide)]; simp [st2]
  have h32 : st2 (st2 τ 53 32 0) 69 t (st2 τ 53 32 0 69 t + 1) 53 32 = 0 := by rw [st2_nq (by decide)]; simp [st2]
  have h66 : st2 (st2 τ 53 32 0) 69 t (st2 τ 53 32 0 69 t + 1) 66 t = τ 66 t := by rw [st2_nq (by decide), st2_nq (by decide)]
  have h60 : st2 (st2 τ 53 32 0) 69 t (st2 τ 53 32 0 69 t + 1) 60 t = τ 60 t := by rw [st2_nq (by decide), st2_nq (by decide)]
  have n11 : st2 (st2 (st2 σ 0 3 (σ 0 3 + 1)) (14 + 13 * t) 13 (σ (14 + 13 * t) 13 + 1)) (14 + 13 * t) 11 (τ 66 t + 1) (14 + 13 * t) 11 = τ 66 t + 1 := by simp [st2]
  rw [← h66] at n11
  rw [h66] at n11 ⊢
  rw [h60]
  generalize hs : st2 (st2 (st2 σ 0 3 (σ 0 3 + 1)) (14 + 13 * t) 13 (σ (14 + 13 * t) 13 + 1)) (14 + 13 * t) 11 (τ 66 t + 1) = S at *
  generalize hu : st2 (st2 τ 53 32 0) 69 t (st2 τ 53 32 0 69 t + 1) = U at *
  by_cases c : τ 66 t < τ 60 t
  · rw [if_pos c]
    have p := PA_act r1 rI hb h32 ht (by rw [h66]; exact n11) (by rw [h66, h60]; exact c)
    have q := RI_doAct rI hti (by rw [cl3 t ht, h66, h60]; exact c)
    have k := hk U
    obtain ⟨p1, p2, p3⟩ := p
    by_cases d : (f_X5_perform S (14 + 13 * t)).1 = 0
    · rw [if_pos d, if_pos (by rw [← p2]; exact d), p3 d]
      exact p1.s_place ht _
    · rw [if_neg d, if_neg (by rw [← p2]; exact d)]
      exact p1.fail q.1.1.2.2.1 (by rw [k, h53]; exact h5) ht p2 d
  · rw [if_neg c]
    have a1 : S (14 + 13 * t) 10 = τ 66 t := by rw [r1.r_place ht, h66]
    have a2 : S (14 + 13 * t) 5 = τ 60 t := by rw [r1.r_acts ht, h60]
    have e5 : f_X5_perform S (14 + 13 * t) = (5, S) := by
      rw [f_X5_perform, a1, a2]
      by_cases c0 : τ 66 t < 0
      · rw [if_pos c0]
      · rw [if_neg c0, if_pos (show τ 60 t ≤ τ 66 t by rw [i32_lt] at c; rw [i32_le]; omega)]
    rw [e5]
    dsimp only
    rw [if_neg (show ¬ (5 : Int32) = 0 by decide)]
    have r2 : Rel S (st2 U 53 32 5) := r1.f32 5
    exact r2.fail (by rw [st2_nq (by decide)]; exact rI.1.2.2.1) (by rw [show st2 U 53 32 5 53 0 = U 53 0 by simp [st2], h53]; exact h5) ht (by simp [st2]) (by decide)
