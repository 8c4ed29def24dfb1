/-! again and clear: what a filling leaves -/
theorem fill_e (v : Int32) (q len : Nat) (h31 : len < 2 ^ 31) : ∀ (n i : Nat) (σ : mS), i ≤ len → n + i = len + 1 → (l_J7_fill_53178_5 n (nI i) σ q len v).2 = fun q' k => if q' = q ∧ i ≤ k ∧ k < len then v else σ q' k := by
  intro n
  induction n with
  | zero => intro i σ hi hn; exact absurd hn (by omega)
  | succ n ih =>
    intro i σ hi hn
    rw [l_J7_fill_53178_5.eq_2]
    by_cases c : i = len
    · subst c
      rw [if_pos (Int32.le_refl _)]
      funext q' k
      rw [if_neg (by omega)]
    · rw [if_neg (show ¬ nI len ≤ nI i by rw [i32_le, nI_toInt (by omega), nI_toInt (by omega)]; omega), nI_1, ih (i + 1) _ (by omega) (by omega), nI_clamp (by omega)]
      funext q' k
      simp only [st2]
      (repeat' split) <;> first | rfl | omega
theorem fill_f (σ : mS) (q len : Nat) (v : Int32) (h31 : len < 2 ^ 31) : (f_J7_fill_53178 σ q len v).2 = fun q' k => if q' = q ∧ k < len then v else σ q' k := by
  unfold f_J7_fill_53178
  have e := fill_e v q len h31 (len + 1) 0 σ (Nat.zero_le _) rfl
  rw [nI_0] at e
  rw [e]
  funext q' k
  (repeat' split) <;> first | rfl | omega
theorem x3r_e : ∀ (n i : Nat) (σ : mS), i ≤ 4 → n + i = 5 → (l_X3_reset_2 n (nI i) σ).2 = fun q k => if q = 10 ∧ i ≤ k ∧ k < 4 then -1 else if q = 11 ∧ i ≤ k ∧ k < 4 then 0 else σ q k := by
  intro n
  induction n with
  | zero => intro i σ hi hn; exact absurd hn (by omega)
  | succ n ih =>
    intro i σ hi hn
    have h4 : (4 : Int32).toInt = 4 := by decide
    rw [l_X3_reset_2.eq_2]
    by_cases c : i = 4
    · subst c
      rw [if_pos (show (4 : Int32) ≤ nI 4 by decide)]
      funext q k
      rw [if_neg (by omega), if_neg (by omega)]
    · rw [if_neg (show ¬ (4 : Int32) ≤ nI i by rw [i32_le, nI_toInt (by omega), h4]; omega), nI_1, ih (i + 1) _ (by omega) (by omega), nI_clamp (by omega)]
      funext q k
      simp only [st2]
      (repeat' split) <;> first | rfl | omega
theorem x4r_e (σ : mS) (q : Nat) (x : Int32) : (f_X4_reset σ q x).2 = fun q' k => if q' = q ∧ (k = 8 ∨ k = 10 ∨ k = 12 ∨ k = 13 ∨ k = 14 ∨ (k = 5 ∧ x = 0)) then 0 else if q' = q + 5 ∧ k < 4 then 0 else if q' = q + 7 ∧ k = 0 then 0 else σ q' k := by
  unfold f_X4_reset
  simp only [ap]
  by_cases c : x = 0
  · rw [if_pos c, fill_f _ _ _ _ (by decide)]
    subst c
    funext q' k
    simp only [st2, and_true, eq_self]
    (repeat' split) <;> first | rfl | omega
  · rw [if_neg c, fill_f _ _ _ _ (by decide)]
    funext q' k
    simp only [st2, c, and_false, or_false]
    (repeat' split) <;> first | rfl | omega
/-- what restart leaves in the class -/
def rsF (σ : mS) (x : Int32) : mS := fun q k => if (q = 14 ∨ q = 27 ∨ q = 40) ∧ (k = 8 ∨ k = 10 ∨ k = 12 ∨ k = 13 ∨ k = 14 ∨ (k = 5 ∧ x = 0)) then 0 else if (q = 19 ∨ q = 32 ∨ q = 45) ∧ k < 4 then 0 else if (q = 21 ∨ q = 34 ∨ q = 47) ∧ k = 0 then 0 else if q = 10 ∧ k < 4 then -1 else if q = 11 ∧ k < 4 then 0 else if q = 2 ∧ k < 8 then 0 else if q = 3 ∧ k < 8 then -1 else if q = 5 ∧ k = 4 then 0 else if q = 0 ∧ k = 3 then 0 else σ q k
theorem so3 : ∀ t, t < 3 → f_X5_strandOf (nI t) = nI t ∧ ¬ nI t = -1 ∧ sI (nI t) = 14 + 13 * t := by decide +kernel
theorem rst_l (σ : mS) (x p : Int32) : (l_X5_restart_26 4 (0 : Int32) σ x p) = (p, (f_X4_reset (f_X4_reset (f_X4_reset σ 14 x).2 27 x).2 40 x).2) := by
  have h0 := so3 0 (by decide)
  have h1 := so3 1 (by decide)
  have h2 := so3 2 (by decide)
  rw [← nI_0]
  rw [l_X5_restart_26.eq_2, if_neg (show ¬ (3 : Int32) ≤ nI 0 by decide), h0.1, if_neg h0.2.1, h0.2.2, nI_1]
  simp only [ap]
  rw [l_X5_restart_26.eq_2, if_neg (show ¬ (3 : Int32) ≤ nI (0 + 1) by decide), h1.1, if_neg h1.2.1, h1.2.2, nI_1]
  simp only [ap]
  rw [l_X5_restart_26.eq_2, if_neg (show ¬ (3 : Int32) ≤ nI (0 + 1 + 1) by decide), h2.1, if_neg h2.2.1, h2.2.2, nI_1]
  simp only [ap]
  rw [l_X5_restart_26.eq_2, if_pos (show (3 : Int32) ≤ nI (0 + 1 + 1 + 1) by decide)]
set_option maxRecDepth 100000 in
set_option maxHeartbeats 4000000 in
theorem rst_e (σ : mS) (x : Int32) : f_X5_restart σ x = (σ 0 3, rsF σ x) := by
  unfold f_X5_restart
  simp only [ap]
  rw [rst_l]
  congr 1
  rw [x4r_e, x4r_e, x4r_e]
  unfold f_X3_reset f_X1_reset
  simp only [ap]
  rw [fill_f _ 3 8 _ (by decide), fill_f _ 2 8 _ (by decide)]
  have e := x3r_e 5 0
  rw [nI_0] at e
  rw [e _ (by decide) rfl]
  funext q k
  unfold rsF
  simp only [st2]
  by_cases h0 : q = 0
  · subst h0; simp
  by_cases h2 : q = 2
  · subst h2; simp
  by_cases h3 : q = 3
  · subst h3; simp
  by_cases h5 : q = 5
  · subst h5; simp
  by_cases h10 : q = 10
  · subst h10; simp
  by_cases h11 : q = 11
  · subst h11; simp
  by_cases h14 : q = 14
  · subst h14; simp
  by_cases h27 : q = 27
  · subst h27; simp
  by_cases h40 : q = 40
  · subst h40; simp
  by_cases h19 : q = 19
  · subst h19; simp
  by_cases h32 : q = 32
  · subst h32; simp
  by_cases h45 : q = 45
  · subst h45; simp
  by_cases h21 : q = 21
  · subst h21; simp
  by_cases h34 : q = 34
  · subst h34; simp
  by_cases h47 : q = 47
  · subst h47; simp
  simp [h0, h2, h3, h5, h10, h11, h14, h27, h40, h19, h32, h45, h21, h34, h47]
