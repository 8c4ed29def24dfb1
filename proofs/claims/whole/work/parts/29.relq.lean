/-! MAKE, on both sides -/
def zeroF (σ : mS) (q a b : Nat) : mS := fun q' k => if q' = q ∧ a ≤ k ∧ k < b then 0 else σ q' k
theorem zeroF_e (σ : mS) (q a : Nat) {b : Nat} (h : b ≤ a) : zeroF σ q a b = σ := by
  funext q' k
  unfold zeroF
  rw [if_neg (by omega)]
theorem zeroF_s {σ : mS} {q a b : Nat} (h : a < b) : zeroF (st2 σ q a 0) q (a + 1) b = zeroF σ q a b := by
  funext q' k
  unfold zeroF
  by_cases h1 : q' = q
  · subst h1
    by_cases h2 : k = a
    · subst h2
      rw [if_neg (by omega), if_pos ⟨rfl, by omega, h⟩]
      simp [st2]
    · by_cases h3 : a + 1 ≤ k ∧ k < b
      · rw [if_pos ⟨rfl, h3⟩, if_pos ⟨rfl, by omega, h3.2⟩]
      · rw [if_neg (fun z => h3 z.2), if_neg (fun z => h3 ⟨by omega, z.2.2⟩)]
        simp [st2, h2]
  · rw [if_neg (fun z => h1 z.1), if_neg (fun z => h1 z.1), st2_nq h1]
theorem l200_eq {x m : Nat} (hx : x < 4) (hm : m ≤ 8) : ∀ (n i : Nat) (τ : mS), i ≤ m → 9 ≤ n + i → (l_X6_rows_200 n (nI i) τ (nI x) (nI m)).2 = zeroF τ 58 (8 * x + i) (8 * x + m) := by
  intro n
  induction n with
  | zero => intro i τ h1 h2; omega
  | succ n ih =>
    intro i τ h1 h2
    rw [l_X6_rows_200.eq_2]
    by_cases h8 : i = m
    · subst h8
      rw [if_pos (nI_le (Nat.le_refl i) (by omega)), zeroF_e _ _ _ (Nat.le_refl _)]
    · rw [if_neg (nI_ge (by omega) (by omega)), nI_1, (ix8r hx (by omega)).1, ih (i + 1) _ (by omega) (by omega), ← Nat.add_assoc, zeroF_s (by omega)]
