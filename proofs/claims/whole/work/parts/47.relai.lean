/-! the reference's invariants behind act, put, again, clear -/
theorem RI_act {b : Nat} {τ : mS} (h : RI b τ) (x k a c d : Int32) : RI b (f_X6_act τ x k a c d).2 := by
  unfold f_X6_act
  rcases strand_of x with ⟨e1, e⟩ | ⟨t, ht, e, e1, e2, e3, e4⟩
  · rw [if_pos e1]; exact h
  rw [if_neg e3, e, cl3 t ht]
  by_cases c1 : f_X6_fits k a c d = 0
  · rw [if_pos c1]; exact h
  rw [if_neg c1]
  by_cases c2 : τ 69 t ≤ 0
  · rw [if_pos c2]
    obtain ⟨m, hm, em⟩ := vp_in_of (h.1.1 t ht) (by decide)
    rw [em]
    by_cases c3 : nI m = (24 : Int32)
    · rw [if_pos c3]; exact h
    · have m24 : m < 24 := by
        have : m ≠ 24 := fun z => c3 (by rw [z]; rfl)
        omega
      rw [if_neg c3, ix24 ht m24]
      have q60 : st2 (st2 (st2 (st2 τ 61 (24 * t + m) k) 62 (24 * t + m) a) 63 (24 * t + m) c) 64 (24 * t + m) d 60 t = nI m := by
        rw [st2_nq (by decide), st2_nq (by decide), st2_nq (by decide), st2_nq (by decide), em]
      rw [q60, nI_1]
      obtain ⟨⟨a1, a2, a3, a4, a5, a6, a7⟩, hL, hw⟩ := h
      refine ⟨⟨?_, a2, a3, a4, a5, a6, ?_⟩, hL, hw⟩
      · exact st2_all (P := fun x => vp_in x 25) a1 (vp_in_nI (by omega) (by decide))
      · intro t' j ht' hj hl
        by_cases ett : t' = t
        · subst ett
          have e60 : ∀ S : mS, st2 S 60 t' (nI (m + 1)) 60 t' = nI (m + 1) := fun S => by simp [st2]
          have hl2 : (j : Int) < (st2 (st2 (st2 (st2 (st2 τ 61 (24 * t' + m) k) 62 (24 * t' + m) a) 63 (24 * t' + m) c) 64 (24 * t' + m) d) 60 t' (nI (m + 1)) 60 t').toInt := hl
          rw [e60, nI_toInt (by omega)] at hl2
          by_cases ej : j = m
          · subst ej
            simpa [st2] using c1
          · have ne : ¬ (24 * t' + j = 24 * t' + m) := by omega
            have old := a7 t' j ht' hj (by rw [em, nI_toInt (by omega)]; omega)
            simpa [st2, ej] using old
        · have ne : ¬ (24 * t' + j = 24 * t + m) := by omega
          have hl2 : (j : Int) < (τ 60 t').toInt := by simpa [st2, ett] using hl
          have old := a7 t' j ht' hj hl2
          simpa [st2, ne] using old
  · rw [if_neg c2]; exact h
theorem RI_put {b : Nat} {τ : mS} (h : RI b τ) (x v : Int32) : RI b (f_X6_put τ x v).2 := by
  unfold f_X6_put
  split
  · exact h
  · exact RI_set h _ _
theorem RI_bg {b : Nat} {τ : mS} (h : RI b τ) : RI b (bgF τ) := by
  obtain ⟨⟨a1, a2, a3, a4, a5, a6, a7⟩, hL, hw⟩ := h
  have z25 : vp_in (0 : Int32) 25 := vp_in_iff.mpr (by decide)
  have z5 : vp_in (0 : Int32) 5 := vp_in_iff.mpr (by decide)
  refine ⟨⟨?_, ?_, ?_, ?_, ?_, ?_, ?_⟩, ?_, 0, Nat.zero_le _, ?_⟩
  · intro t ht; simpa [bgF] using a1 t ht
  · intro t ht; simpa [bgF, ht] using z25
  · intro t ht; simpa [bgF, ht] using z5
  · intro t ht; simpa [bgF] using a4 t ht
  · intro t ht; simpa [bgF] using a5 t ht
  · intro r hr; left; simp [bgF, hr]
  · intro t j ht hj hl
    have hl2 : (j : Int) < (τ 60 t).toInt := by simpa [bgF] using hl
    simpa [bgF] using a7 t j ht hj hl2
  · intro c hc hn
    exact absurd (by simp [bgF, hc]) hn
  · simp [bgF, nI_0]
theorem RI_cl {b : Nat} {τ : mS} (h : RI b τ) : RI b (clF τ) := by
  obtain ⟨⟨a1, a2, a3, a4, a5, a6, a7⟩, hL, hw⟩ := RI_bg h
  have z25 : vp_in (0 : Int32) 25 := vp_in_iff.mpr (by decide)
  have er : ∀ q, q ≠ 60 → clF τ q = bgF τ q := by
    intro q hq
    funext k
    unfold clF
    rw [if_neg (fun z => hq z.1)]
  refine ⟨⟨?_, ?_, ?_, ?_, ?_, ?_, ?_⟩, hL.o (er 54 (by decide)) (er 55 (by decide)), hw.o (by rw [er 53 (by decide)])⟩
  · intro t ht; simpa [clF, ht] using z25
  · rw [er 66 (by decide)]; exact a2
  · rw [er 71 (by decide)]; exact a3
  · rw [er 72 (by decide)]; exact a4
  · rw [er 75 (by decide)]; exact a5
  · rw [er 57 (by decide)]; exact a6
  · intro t j ht hj hl
    have e : clF τ 60 t = 0 := by simp [clF, ht]
    rw [e, Int32.toInt_zero] at hl
    exact absurd hl (by omega)
theorem RI_again {b : Nat} {τ : mS} (h : RI b τ) : RI b (f_X6_again τ).2 := by rw [ag_e]; exact RI_bg h
theorem RI_clear {b : Nat} {τ : mS} (h : RI b τ) : RI b (f_X6_clear τ).2 := by rw [clr_e]; exact RI_cl h
