/-! acts that touch cells, on both sides -/
theorem give_no {τ : mS} (h0 : ¬ τ 53 32 = 0) (t i v : Int32) : f_X6_give τ t i v = (0, τ) := by
  unfold f_X6_give
  rw [if_neg h0]
theorem held_r {σ τ : mS} (h : Rel σ τ) {t : Nat} (ht : t < 3) {i : Nat} (hi : i < 4) : f_X4_held σ (14 + 13 * t) (nI i) = f_X6_r τ (nI t) (nI i) := by
  rw [held_eq _ hi, r_eq ht hi]
  exact h.r_reg ht hi
/-- GET -/
theorem PA_get {σ τ : mS} (h : Rel σ τ) (hL : Lz τ) {b : Nat} (hw : Wr τ b) (hb : b < 2 ^ 29) (h0 : τ 53 32 = 0) {t : Nat} (ht : t < 3) (hn : σ (14 + 13 * t) 11 = τ 66 t + 1) {x y : Nat} (hx : x < 4) (hy : y < 8) :
    PA t (f_X5_getCell σ (14 + 13 * t) (nI x) (nI y)) (τ 66 t + 1, (f_X6_give (f_X6_read τ (nI t) (nI y)).2 (nI t) (nI x) (f_X6_read τ (nI t) (nI y)).1).2) := by
  unfold f_X5_getCell
  simp only [ap]
  rcases h.read hL hw hb h0 ht hy with ⟨a1, a2, a3, a4, a5⟩ | ⟨a1, a2, a3⟩
  · rw [if_pos a1, keep_eq _ hx, give_eq a4 ht hx, a1, a2]
    refine ⟨a3.s_reg ht hx _, ?_, fun _ => ?_⟩
    · show (0 : Int32) = (f_X6_read τ (nI t) (nI y)).2 53 32
      rw [a4]
    · show τ 66 t + 1 = st2 (f_X5_readCell σ (14 + 13 * t) (nI y)).2 (14 + 13 * t + 5) x _ (14 + 13 * t) 11
      rw [st2_nq (by omega), a5, hn]
  · rw [if_neg a1, give_no (by rw [a3]; exact a1)]
    exact ⟨a2, a3.symm, fun z => absurd z a1⟩
/-- PUT -/
theorem PA_put {σ τ : mS} (h : Rel σ τ) {b : Nat} (hw : Wr τ b) (hb : b < 2 ^ 30) (h0 : τ 53 32 = 0) {t : Nat} (ht : t < 3) (hn : σ (14 + 13 * t) 11 = τ 66 t + 1) {x y : Nat} (hx : x < 8) (hy : y < 4) :
    PA t (0, (f_X5_putCell σ (14 + 13 * t) (nI x) (f_X4_held σ (14 + 13 * t) (nI y))).2) (τ 66 t + 1, (f_X6_lay τ (nI t) (nI x) (f_X6_r τ (nI t) (nI y))).2) := by
  rw [held_r h ht hy]
  obtain ⟨a1, a2, a3⟩ := h.lay hw hb ht hx (f_X6_r τ (nI t) (nI y))
  exact ⟨a1, (by rw [a2, h0] : (0 : Int32) = _), fun _ => (by rw [a3, hn] : τ 66 t + 1 = _)⟩
/-- SWAP -/
theorem PA_swap {σ τ : mS} (h : Rel σ τ) (hL : Lz τ) {b : Nat} (hw : Wr τ b) (hb : b < 2 ^ 28) (h0 : τ 53 32 = 0) {t : Nat} (ht : t < 3) (hn : σ (14 + 13 * t) 11 = τ 66 t + 1) {c y z : Nat} (hc : c < 8) (hy : y < 4) (hz : z < 4) :
    PA t (f_X5_swapCell σ (14 + 13 * t) (nI c) (nI y) (nI z)) (τ 66 t + 1, (f_X6_swap τ (nI t) (nI c) (nI y) (nI z)).2) := by
  unfold f_X5_swapCell f_X6_swap
  simp only [ap]
  have hwr := Wr_read hw (nI t) (nI c)
  rcases h.read hL hw (by omega) h0 ht hc with ⟨a1, a2, a3, a4, a5⟩ | ⟨a1, a2, a3⟩
  · rw [if_pos a1, if_pos a4, a2, held_r a3 ht hy, held_r a3 ht hz]
    by_cases c1 : (f_X6_read τ (nI t) (nI c)).1 = f_X6_r (f_X6_read τ (nI t) (nI c)).2 (nI t) (nI y)
    · rw [if_pos c1, if_pos c1]
      obtain ⟨b1, b2, b3⟩ := a3.lay hwr (by omega) ht hc (f_X6_r (f_X6_read τ (nI t) (nI c)).2 (nI t) (nI z))
      rw [keep_eq _ hy, give_eq (by rw [b2, a4]) ht hy]
      refine ⟨b1.s_reg ht hy _, ?_, fun _ => ?_⟩
      · show (0 : Int32) = (f_X6_lay _ _ _ _).2 53 32
        rw [b2, a4]
      · show τ 66 t + 1 = st2 (f_X5_putCell _ _ _ _).2 (14 + 13 * t + 5) y _ (14 + 13 * t) 11
        rw [st2_nq (by omega), b3, a5, hn]
    · rw [if_neg c1, if_neg c1, keep_eq _ hy, give_eq a4 ht hy]
      refine ⟨a3.s_reg ht hy _, ?_, fun _ => ?_⟩
      · show (0 : Int32) = (f_X6_read τ (nI t) (nI c)).2 53 32
        rw [a4]
      · show τ 66 t + 1 = st2 (f_X5_readCell σ (14 + 13 * t) (nI c)).2 (14 + 13 * t + 5) y _ (14 + 13 * t) 11
        rw [st2_nq (by omega), a5, hn]
  · rw [if_neg a1, if_neg (by rw [a3]; exact a1)]
    exact ⟨a2, a3.symm, fun z => absurd z a1⟩
