/-! an act, on both sides -/
theorem PA_kinds {σ τ : mS} (h : Rel σ τ) {b : Nat} (hI : RI b τ) (hb : b < 2 ^ 28) (h0 : τ 53 32 = 0) {t : Nat} (ht : t < 3) (hn : σ (14 + 13 * t) 11 = τ 66 t + 1) {k x y z : Int32} (hR : ¬ f_X6_fits k x y z = 0) (ho : k = 7 ∨ k = 8 ∨ k = 17 ∨ k = 18 ∨ k = 19 → τ 73 t = 0) : PA t (cAct σ (14 + 13 * t) k x y z) (rAct τ (nI t) k x y z) := by
  by_cases e0 : k = 0
  · exact A_0 h hI hb h0 ht hn hR e0
  by_cases e1 : k = 1
  · exact A_1 h hI hb h0 ht hn hR e1
  by_cases e2 : k = 2
  · exact A_2 h hI hb h0 ht hn hR e2
  by_cases e3 : k = 3
  · exact A_3 h hI hb h0 ht hn hR e3
  by_cases e4 : k = 4
  · exact A_4 h hI hb h0 ht hn hR e4
  by_cases e5 : k = 5
  · exact A_5 h hI hb h0 ht hn hR e5
  by_cases e6 : k = 6
  · exact A_6 h hI hb h0 ht hn hR e6
  by_cases e9 : k = 9
  · exact A_9 h hI hb h0 ht hn hR e9
  by_cases e10 : k = 10
  · exact A_10 h hI hb h0 ht hn hR e10
  by_cases e11 : k = 11
  · exact A_11 h hI hb h0 ht hn hR e11
  by_cases e12 : k = 12
  · exact A_12 h hI hb h0 ht hn hR e12
  by_cases e13 : k = 13
  · exact A_13 h hI hb h0 ht hn hR e13
  by_cases e14 : k = 14
  · exact A_14 h hI hb h0 ht hn hR e14
  by_cases e15 : k = 15
  · exact A_15 h hI hb h0 ht hn hR e15
  by_cases e16 : k = 16
  · exact A_16 h hI hb h0 ht hn hR e16
  have ek := fitsK hR e0 e1 e2 e3 e4 e5 e6 e9 e10 e11 e12 e13 e14 e15 e16
  have hq := ho ek
  rcases ek with e | e | e | e | e
  · exact A_7 h hI hb h0 ht hn hR e hq
  · exact A_8 h hI hb h0 ht hn hR e hq
  · exact A_17 h hI hb h0 ht hn hR e hq
  · exact A_18 h hI hb h0 ht hn hR e hq
  · exact A_19 h hI hb h0 ht hn hR e hq
theorem barred_in {k : Int32} (h : ¬ f_X5_isBarredFromAtoms k = 0) : k = 7 ∨ k = 8 ∨ k = 17 ∨ k = 18 ∨ k = 19 := by
  by_cases c1 : k = 7
  · exact Or.inl c1
  by_cases c2 : k = 8
  · exact Or.inr (Or.inl c2)
  by_cases c3 : k = 17
  · exact Or.inr (Or.inr (Or.inl c3))
  by_cases c4 : k = 18
  · exact Or.inr (Or.inr (Or.inr (Or.inl c4)))
  by_cases c5 : k = 19
  · exact Or.inr (Or.inr (Or.inr (Or.inr c5)))
  rw [f_X5_isBarredFromAtoms, if_neg c1, if_neg c2, if_neg c3, if_neg c4, if_neg c5] at h
  exact absurd rfl h
theorem barred_no {k : Int32} (h : f_X5_isBarredFromAtoms k = 0) : ¬ (k = 7 ∨ k = 8 ∨ k = 17 ∨ k = 18 ∨ k = 19) := by
  intro z
  revert h
  rcases z with e | e | e | e | e <;> (subst e; decide)
theorem rAct_no {τ : mS} {t : Nat} (ht : t < 3) {k x y z : Int32} (hk : k = 7 ∨ k = 8 ∨ k = 17 ∨ k = 18 ∨ k = 19) (c : ¬ τ 73 t = 0) : rAct τ (nI t) k x y z = (τ 66 t + 1, st2 τ 53 32 5) := by
  rw [rAct, if_neg (show ¬ k = (0 : Int32) by rcases hk with e | e | e | e | e <;> (rw [e]; decide)), if_neg (show ¬ k = (1 : Int32) by rcases hk with e | e | e | e | e <;> (rw [e]; decide)), if_neg (show ¬ k = (2 : Int32) by rcases hk with e | e | e | e | e <;> (rw [e]; decide)), if_neg (show ¬ k = (3 : Int32) by rcases hk with e | e | e | e | e <;> (rw [e]; decide)), if_neg (show ¬ k = (4 : Int32) by rcases hk with e | e | e | e | e <;> (rw [e]; decide)), if_neg (show ¬ k = (5 : Int32) by rcases hk with e | e | e | e | e <;> (rw [e]; decide)), if_neg (show ¬ k = (6 : Int32) by rcases hk with e | e | e | e | e <;> (rw [e]; decide)), if_neg (show ¬ k = (9 : Int32) by rcases hk with e | e | e | e | e <;> (rw [e]; decide)), if_neg (show ¬ k = (10 : Int32) by rcases hk with e | e | e | e | e <;> (rw [e]; decide)), if_neg (show ¬ k = (11 : Int32) by rcases hk with e | e | e | e | e <;> (rw [e]; decide)), if_neg (show ¬ k = (12 : Int32) by rcases hk with e | e | e | e | e <;> (rw [e]; decide)), if_neg (show ¬ k = (13 : Int32) by rcases hk with e | e | e | e | e <;> (rw [e]; decide)), if_neg (show ¬ k = (14 : Int32) by rcases hk with e | e | e | e | e <;> (rw [e]; decide)), if_neg (show ¬ k = (15 : Int32) by rcases hk with e | e | e | e | e <;> (rw [e]; decide)), if_neg (show ¬ k = (16 : Int32) by rcases hk with e | e | e | e | e <;> (rw [e]; decide)), cl3 t ht, if_neg c]
theorem PA_act {σ τ : mS} (h : Rel σ τ) {b : Nat} (hI : RI b τ) (hb : b < 2 ^ 28) (h0 : τ 53 32 = 0) {t : Nat} (ht : t < 3) (hn : σ (14 + 13 * t) 11 = τ 66 t + 1) (hl : τ 66 t < τ 60 t) : PA t (f_X5_perform σ (14 + 13 * t)) (f_X6_doAct τ (nI t)) := by
  have hl' : τ 66 (nI t).toNatClampNeg < τ 60 (nI t).toNatClampNeg := by rw [cl3 t ht]; exact hl
  have hti : vp_in (nI t) 3 := vp_in_iff.mpr ⟨by rw [nI_toInt (by omega)]; omega, by rw [nI_toInt (by omega)]; omega⟩
  have hp := act_p hI hti hl'
  have hR := act_f hI hti hl'
  rw [cl3 t ht] at hp
  obtain ⟨j, hj, ej⟩ := vp_in_of hp (by decide)
  have e1 : aK τ (nI t) = σ (14 + 13 * t + 1) j := by unfold aK; rw [cl3 t ht, ej, ix24 ht hj, h.r_kinds ht hj]
  have e2 : aX τ (nI t) = σ (14 + 13 * t + 2) j := by unfold aX; rw [cl3 t ht, ej, ix24 ht hj, h.r_xs ht hj]
  have e3 : aY τ (nI t) = σ (14 + 13 * t + 3) j := by unfold aY; rw [cl3 t ht, ej, ix24 ht hj, h.r_ys ht hj]
  have e4 : aZ τ (nI t) = σ (14 + 13 * t + 4) j := by unfold aZ; rw [cl3 t ht, ej, ix24 ht hj, h.r_zs ht hj]
  have ez : σ (14 + 13 * t) 10 = nI j := by rw [h.r_place ht, ej]
  have ea : σ (14 + 13 * t) 5 = τ 60 t := h.r_acts ht
  rw [i32_lt, ej, nI_toInt (by omega)] at hl
  rw [rAct_e, e1, e2, e3, e4]
  rw [e1, e2, e3, e4] at hR
  rw [perform_e (by rw [ez, i32_lt, nI_toInt (by omega), Int32.toInt_zero]; omega) (by rw [ez, ea, i32_le, nI_toInt (by omega)]; omega) (by rw [ez, i32_lt, nI_toInt (by omega)]; show (j : Int) < 24; omega), ez, nI_clamp (by omega), h.r_open ht]
  by_cases c : τ 73 t = 0
  · rw [if_pos c]
    exact PA_kinds h hI hb h0 ht hn hR (fun _ => c)
  · rw [if_neg c]
    by_cases c2 : f_X5_isBarredFromAtoms (σ (14 + 13 * t + 1) j) = 0
    · rw [if_pos c2]
      exact PA_kinds h hI hb h0 ht hn hR (fun z => absurd z (barred_no c2))
    · rw [if_neg c2, rAct_no ht (barred_in c2) c]
      exact PA_no h _ (by decide)
