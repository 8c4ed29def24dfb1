/-! again and clear: what begin leaves in the reference -/
theorem bg2_e : ∀ (n i : Nat) (σ : mS), i ≤ 8 → n + i = 9 → (l_X6_begin_2 n (nI i) σ).2 = fun q k => if (q = 54 ∨ q = 55 ∨ q = 56) ∧ i ≤ k ∧ k < 8 then 0 else σ q k := by
  intro n
  induction n with
  | zero => intro i σ hi hn; exact absurd hn (by omega)
  | succ n ih =>
    intro i σ hi hn
    have h8 : (8 : Int32).toInt = 8 := by decide
    rw [l_X6_begin_2.eq_2]
    by_cases c : i = 8
    · subst c
      rw [if_pos (show (8 : Int32) ≤ nI 8 by decide)]
      funext q k
      rw [if_neg (by omega)]
    · rw [if_neg (show ¬ (8 : Int32) ≤ nI i by rw [i32_le, nI_toInt (by omega), h8]; omega), nI_1, ih (i + 1) _ (by omega) (by omega), nI_clamp (by omega)]
      funext q k
      simp only [st2]
      (repeat' split) <;> first | rfl | omega
theorem bg37_e : ∀ (n i : Nat) (σ : mS), i ≤ 4 → n + i = 5 → (l_X6_begin_37 n (nI i) σ).2 = fun q k => if q = 57 ∧ i ≤ k ∧ k < 4 then -1 else if q = 59 ∧ i ≤ k ∧ k < 4 then 0 else σ q k := by
  intro n
  induction n with
  | zero => intro i σ hi hn; exact absurd hn (by omega)
  | succ n ih =>
    intro i σ hi hn
    have h4 : (4 : Int32).toInt = 4 := by decide
    rw [l_X6_begin_37.eq_2]
    by_cases c : i = 4
    · subst c
      rw [if_pos (show (4 : Int32) ≤ nI 4 by decide)]
      funext q k
      rw [if_neg (by omega), if_neg (by omega)]
    · rw [if_neg (show ¬ (4 : Int32) ≤ nI i by rw [i32_le, nI_toInt (by omega), h4]; omega), nI_1, ih (i + 1) _ (by omega) (by omega), nI_clamp (by omega)]
      funext q k
      simp only [st2]
      (repeat' split) <;> first | rfl | omega
theorem bg120_e (t : Nat) (ht : t < 3) : ∀ (n i : Nat) (σ : mS), i ≤ 4 → n + i = 5 → (l_X6_begin_120 n (nI i) σ (nI t)).2 = fun q k => if q = 65 ∧ 4 * t + i ≤ k ∧ k < 4 * t + 4 then 0 else σ q k := by
  intro n
  induction n with
  | zero => intro i σ hi hn; exact absurd hn (by omega)
  | succ n ih =>
    intro i σ hi hn
    have h4 : (4 : Int32).toInt = 4 := by decide
    rw [l_X6_begin_120.eq_2]
    by_cases c : i = 4
    · subst c
      rw [if_pos (show (4 : Int32) ≤ nI 4 by decide)]
      funext q k
      rw [if_neg (by omega)]
    · rw [if_neg (show ¬ (4 : Int32) ≤ nI i by rw [i32_le, nI_toInt (by omega), h4]; omega), nI_1, ih (i + 1) _ (by omega) (by omega), ix4 ht (by omega)]
      funext q k
      simp only [st2]
      (repeat' split) <;> first | rfl | omega
theorem bg64_e : ∀ (n i : Nat) (σ : mS), i ≤ 3 → n + i = 4 → (l_X6_begin_64 n (nI i) σ).2 = fun q k => if (q = 66 ∨ q = 67 ∨ q = 68 ∨ q = 69 ∨ q = 70 ∨ q = 71 ∨ q = 73) ∧ i ≤ k ∧ k < 3 then 0 else if q = 65 ∧ 4 * i ≤ k ∧ k < 12 then 0 else σ q k := by
  intro n
  induction n with
  | zero => intro i σ hi hn; exact absurd hn (by omega)
  | succ n ih =>
    intro i σ hi hn
    have h3 : (3 : Int32).toInt = 3 := by decide
    rw [l_X6_begin_64.eq_2]
    by_cases c : i = 3
    · subst c
      rw [if_pos (show (3 : Int32) ≤ nI 3 by decide)]
      funext q k
      rw [if_neg (by omega), if_neg (by omega)]
    · have e := bg120_e i (by omega) 5 0
      rw [nI_0] at e
      rw [if_neg (show ¬ (3 : Int32) ≤ nI i by rw [i32_le, nI_toInt (by omega), h3]; omega)]
      simp only [ap]
      rw [nI_1, ih (i + 1) _ (by omega) (by omega), nI_clamp (by omega), e _ (by decide) rfl]
      funext q k
      simp only [st2]
      (repeat' split) <;> first | rfl | omega
/-- what begin leaves in the reference -/
def bgF (τ : mS) : mS := fun q k => if (q = 66 ∨ q = 67 ∨ q = 68 ∨ q = 69 ∨ q = 70 ∨ q = 71 ∨ q = 73) ∧ k < 3 then 0 else if q = 65 ∧ k < 12 then 0 else if q = 57 ∧ k < 4 then -1 else if q = 59 ∧ k < 4 then 0 else if (q = 54 ∨ q = 55 ∨ q = 56) ∧ k < 8 then 0 else if q = 53 ∧ k = 28 then 0 else τ q k
theorem bg_e (τ : mS) : (f_X6_begin τ).2 = bgF τ := by
  unfold f_X6_begin
  simp only [ap]
  have e1 := bg2_e 9 0
  have e2 := bg37_e 5 0
  have e3 := bg64_e 4 0
  rw [nI_0] at e1 e2 e3
  rw [e1 _ (by decide) rfl, e2 _ (by decide) rfl, e3 _ (by decide) rfl]
  funext q k
  simp only [st2, bgF]
  (repeat' split) <;> first | rfl | omega
/-- what clear leaves -/
def clF (τ : mS) : mS := fun q k => if q = 60 ∧ k < 3 then 0 else bgF τ q k
theorem cl7_e (p : Int32) : ∀ (n i : Nat) (σ : mS), i ≤ 3 → n + i = 4 → l_X6_clear_7 n (nI i) σ p = (p, fun q k => if q = 60 ∧ i ≤ k ∧ k < 3 then 0 else σ q k) := by
  intro n
  induction n with
  | zero => intro i σ hi hn; exact absurd hn (by omega)
  | succ n ih =>
    intro i σ hi hn
    have h3 : (3 : Int32).toInt = 3 := by decide
    rw [l_X6_clear_7.eq_2]
    by_cases c : i = 3
    · subst c
      rw [if_pos (show (3 : Int32) ≤ nI 3 by decide)]
      congr 1
      funext q k
      rw [if_neg (by omega)]
    · rw [if_neg (show ¬ (3 : Int32) ≤ nI i by rw [i32_le, nI_toInt (by omega), h3]; omega), nI_1, ih (i + 1) _ (by omega) (by omega), nI_clamp (by omega)]
      congr 1
      funext q k
      simp only [st2]
      (repeat' split) <;> first | rfl | omega
theorem ag_e (τ : mS) : f_X6_again τ = (τ 69 0 + τ 69 1 + τ 69 2, bgF τ) := by
  unfold f_X6_again
  simp only [ap]
  rw [bg_e]
  rfl
theorem clr_e (τ : mS) : f_X6_clear τ = (τ 69 0 + τ 69 1 + τ 69 2, clF τ) := by
  unfold f_X6_clear
  simp only [ap]
  rw [ag_e]
  have e := cl7_e (τ 69 0 + τ 69 1 + τ 69 2) 4 0 (bgF τ) (by decide) rfl
  rw [nI_0] at e
  rw [e]
  congr 1
  funext q k
  simp only [clF]
  (repeat' split) <;> first | rfl | omega
