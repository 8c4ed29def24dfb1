/-! the acts that a strand does by itself -/
theorem PA_no {σ τ : mS} (h : Rel σ τ) {t : Nat} (n : Int32) {v : Int32} (hv : ¬ v = 0) : PA t (v, σ) (n, st2 τ 53 32 v) :=
  ⟨h.f32 v, by simp [st2], fun z => absurd z hv⟩
theorem PA_keep {σ τ : mS} (h : Rel σ τ) (h0 : τ 53 32 = 0) {t : Nat} (ht : t < 3) (hn : σ (14 + 13 * t) 11 = τ 66 t + 1) {x : Nat} (hx : x < 4) (v : Int32) :
    PA t (0, (f_X4_keep σ (14 + 13 * t) (nI x) v).2) (τ 66 t + 1, (f_X6_give τ (nI t) (nI x) v).2) := by
  rw [keep_eq _ hx, give_eq h0 ht hx]
  refine ⟨h.s_reg ht hx v, ?_, fun _ => ?_⟩
  · show (0 : Int32) = τ 53 32
    rw [h0]
  · show τ 66 t + 1 = st2 σ (14 + 13 * t + 5) x v (14 + 13 * t) 11
    rw [st2_nq (by omega), hn]
theorem div_m1 (a : Int32) : a / (-1 : Int32) = (0 : Int32) - a := by
  apply Int32.toInt_inj.mp
  rw [Int32.toInt_div, Int32.toInt_sub, Int32.toInt_zero, show (-1 : Int32).toInt = -1 by decide, Int.tdiv_neg, Int.tdiv_one, Int.zero_sub]
/-- ADD, SUB, MUL, DIV -/
theorem PA_comp {σ τ : mS} (h : Rel σ τ) (h0 : τ 53 32 = 0) {t : Nat} (ht : t < 3) (hn : σ (14 + 13 * t) 11 = τ 66 t + 1) {x : Nat} (hx : x < 4) (a b : Int32) :
    PA t (0, (f_X4_keep σ (14 + 13 * t) (nI x) (a + b)).2) (τ 66 t + 1, (f_X6_compute τ (nI t) 3 (nI x) a b).2) ∧ PA t (0, (f_X4_keep σ (14 + 13 * t) (nI x) (a - b)).2) (τ 66 t + 1, (f_X6_compute τ (nI t) 4 (nI x) a b).2) ∧ PA t (0, (f_X4_keep σ (14 + 13 * t) (nI x) (a * b)).2) (τ 66 t + 1, (f_X6_compute τ (nI t) 5 (nI x) a b).2) ∧ PA t (f_X4_divide σ (14 + 13 * t) (nI x) a b) (τ 66 t + 1, (f_X6_compute τ (nI t) 6 (nI x) a b).2) := by
  unfold f_X6_compute f_X4_divide
  simp only [ap]
  refine ⟨?_, ?_, ?_, ?_⟩
  · rw [if_neg (show ¬ (3 : Int32) = 6 by decide), if_pos trivial]
    exact PA_keep h h0 ht hn hx _
  · rw [if_neg (show ¬ (4 : Int32) = 6 by decide), if_neg (show ¬ (4 : Int32) = 3 by decide), if_pos trivial]
    exact PA_keep h h0 ht hn hx _
  · rw [if_neg (show ¬ (5 : Int32) = 6 by decide), if_neg (show ¬ (5 : Int32) = 3 by decide), if_neg (show ¬ (5 : Int32) = 4 by decide), if_pos trivial]
    exact PA_keep h h0 ht hn hx _
  · rw [if_pos trivial]
    by_cases c : b = 0
    · rw [if_pos c, if_pos c]
      exact PA_no h _ (by decide)
    · rw [if_neg c, if_neg c, if_neg (show ¬ (6 : Int32) = 3 by decide), if_neg (show ¬ (6 : Int32) = 4 by decide), if_neg (show ¬ (6 : Int32) = 5 by decide)]
      by_cases c1 : b = (-1 : Int32)
      · rw [if_pos c1, c1, div_m1]
        exact PA_keep h h0 ht hn hx _
      · rw [if_neg c1]
        exact PA_keep h h0 ht hn hx _
/-- JUMP -/
theorem PA_jump {σ τ : mS} (h : Rel σ τ) (h0 : τ 53 32 = 0) {t : Nat} (ht : t < 3) (v : Int32) : PA t (0, st2 σ (14 + 13 * t) 11 v) (v, τ) :=
  ⟨h.n11 ht v, h0.symm, fun _ => by simp [st2]⟩
/-- TRY -/
theorem PA_try {σ τ : mS} (h : Rel σ τ) (h0 : τ 53 32 = 0) (hT : ∀ t, t < 3 → vp_in (τ 71 t) 5) {t : Nat} (ht : t < 3) (hn : σ (14 + 13 * t) 11 = τ 66 t + 1) (v : Int32) :
    PA t (f_X4_openTry σ (14 + 13 * t) v) (if τ 71 t = (4 : Int32) then (τ 66 t + 1, st2 τ 53 32 5) else (τ 66 t + 1, st2 (st2 τ 72 ((4 : Int32) * nI t + τ 71 t).toNatClampNeg v) 71 t (st2 τ 72 ((4 : Int32) * nI t + τ 71 t).toNatClampNeg v 71 t + 1))) := by
  unfold f_X4_openTry
  rw [h.r_trys ht, st2_nq (show (71 : Nat) ≠ 72 by decide)]
  obtain ⟨m, hm, e⟩ := vp_in_of (hT t ht) (by decide)
  rw [e, if_neg (show ¬ nI m < 0 by rw [i32_lt, nI_toInt (by omega), Int32.toInt_zero]; omega)]
  have h4 : (4 : Int32) = nI 4 := rfl
  by_cases c : m = 4
  · subst c
    rw [if_neg (show ¬ nI 4 < (4 : Int32) by decide), if_pos (show nI 4 = (4 : Int32) from rfl)]
    exact PA_no h _ (by decide)
  · have m4 : m < 4 := by omega
    rw [if_pos (show nI m < (4 : Int32) by rw [i32_lt, nI_toInt (by omega)]; show (m : Int) < 4; omega), if_neg (show ¬ nI m = (4 : Int32) by intro z; have z1 := congrArg Int32.toInt z; rw [nI_toInt (by omega)] at z1; exact c (by have z2 : (m : Int) = 4 := z1; omega)), ix4 ht m4, cl4 m m4]
    have r1 := (h.s_tp ht m4 v).s_trys ht (nI m + 1) (fun z => by
      obtain ⟨g1, g2, g3, g4⟩ := h.2.2.2.2.2.2 t ht
      have z1 := g4 z
      rw [e, i32_le, nI_toInt (by omega)] at z1
      show τ 74 t ≤ _
      rw [nI_1, i32_le, nI_toInt (by omega)]
      omega)
    refine ⟨r1, ?_, fun _ => ?_⟩
    · show (0 : Int32) = τ 53 32
      rw [h0]
    · show τ 66 t + 1 = st2 (st2 σ (14 + 13 * t + 6) m v) (14 + 13 * t) 8 (nI m + 1) (14 + 13 * t) 11
      simp [st2, hn]
/-- DONE -/
theorem PA_done {σ τ : mS} (h : Rel σ τ) (h0 : τ 53 32 = 0) (hT : ∀ t, t < 3 → vp_in (τ 71 t) 5) {t : Nat} (ht : t < 3) (hn : σ (14 + 13 * t) 11 = τ 66 t + 1) :
    PA t (f_X4_closeTry σ (14 + 13 * t)) (if τ 71 t = 0 then (τ 66 t + 1, st2 τ 53 32 5) else (if τ 73 t = 0 then (τ 66 t + 1, st2 τ 71 t (τ 71 t - 1)) else (if τ 71 t = τ 74 t then (τ 66 t + 1, st2 τ 53 32 5) else (τ 66 t + 1, st2 τ 71 t (τ 71 t - 1))))) := by
  unfold f_X4_closeTry
  rw [h.r_trys ht, h.r_open ht, h.r_ahead ht]
  by_cases c : τ 71 t = 0
  · rw [if_pos c, if_pos c]
    exact PA_no h _ (by decide)
  · rw [if_neg c, if_neg c]
    have last : (¬ τ 73 t = 0 → τ 74 t ≤ τ 71 t - 1) → PA t (0, st2 σ (14 + 13 * t) 8 (τ 71 t - 1)) (τ 66 t + 1, st2 τ 71 t (τ 71 t - 1)) := fun hv => by
      refine ⟨h.s_trys ht _ hv, h0.symm, fun _ => ?_⟩
      show τ 66 t + 1 = st2 σ (14 + 13 * t) 8 (τ 71 t - 1) (14 + 13 * t) 11
      simp [st2, hn]
    by_cases c1 : τ 73 t = 0
    · rw [if_pos c1, if_pos c1]
      exact last (fun z => absurd c1 z)
    · rw [if_neg c1, if_neg c1]
      obtain ⟨g1, g2, g3, g4⟩ := h.2.2.2.2.2.2 t ht
      have z1 := i32_le.mp (g4 c1)
      by_cases c2 : τ 71 t = τ 74 t
      · rw [if_pos c2, if_neg (show ¬ τ 74 t < τ 71 t by rw [c2, i32_lt]; omega)]
        exact PA_no h _ (by decide)
      · have z2 : (τ 71 t).toInt ≠ (τ 74 t).toInt := fun z => c2 (Int32.toInt_inj.mp z)
        rw [if_neg c2, if_pos (show τ 74 t < τ 71 t by rw [i32_lt]; omega)]
        refine last (fun _ => ?_)
        obtain ⟨m, hm, e⟩ := vp_in_of (hT t ht) (by decide)
        have m0 : m ≠ 0 := fun z => c (by rw [e, z]; rfl)
        obtain ⟨m', rfl⟩ : ∃ m', m = m' + 1 := ⟨m - 1, by omega⟩
        rw [e, nI_toInt (by omega)] at z1 z2
        rw [e, ← nI_1, Int32.add_sub_cancel, i32_le, nI_toInt (by omega)]
        omega
