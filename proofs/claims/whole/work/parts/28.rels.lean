/-! STORE, FREEZE, LAZY, on both sides -/
theorem frozen_eq {σ τ : mS} (hD : RelD σ τ) {r : Nat} (hr : r < 4) : f_X3_isFrozen σ (nI r) = 0 ↔ τ 59 r = 0 := by
  unfold f_X3_isFrozen
  rw [isRow_1 r hr, if_neg (show ¬ (1 : Int32) = 0 by decide), cl4 r hr, (hD r hr).2.1]
  by_cases e : τ 59 r = 0 <;> simp [e]
theorem st2_st2 {σ : mS} {q k : Nat} {v w : Int32} : st2 (st2 σ q k v) q k w = st2 σ q k w := by
  funext q' k'
  by_cases e : q' = q ∧ k' = k
  · simp [st2, e]
  · simp [st2, e]
/-- STORE -/
theorem PA_store {σ τ : mS} (h : Rel σ τ) (hS : ∀ r, r < 4 → τ 57 r = -1 ∨ vp_in (τ 57 r) 9) {t : Nat} (ht : t < 3) (hn : σ (14 + 13 * t) 11 = τ 66 t + 1) {x y z : Nat} (hx : x < 4) (hy : y < 4) (hz : z < 4) {k : Int32} (hk : k = 8) :
    PA t (f_X3_store σ (nI x) (f_X4_held σ (14 + 13 * t) (nI y)) (f_X4_held σ (14 + 13 * t) (nI z))) (τ 66 t + 1, (f_X6_rows τ (nI t) k (nI x) (nI y) (nI z)).2) := by
  unfold f_X3_store f_X6_rows
  simp only [ap]
  rw [held_r h ht hy, held_r h ht hz, if_neg (show ¬ k = 7 by rw [hk]; decide), if_pos hk, check_eq hx, failAt_eq h.2.2.2.1 hx]
  generalize hv : f_X6_r τ (nI t) (nI y) = v
  rcases item_k h.2.2.2.1 hx (hS x hx) v with c | ⟨c1, c2, c3⟩ | ⟨c1, c2, c3, i, hi, e1, e2⟩
  · simp only [if_pos c]
    rw [if_neg (show ¬ (1 : Int32) = 0 by decide), if_neg (by simp [st2])]
    refine ⟨(h.f32 1).f32 _, by simp [st2], fun z => absurd z (show ¬ (1 : Int32) = 0 by decide)⟩
  · simp only [if_neg c1, if_pos c2, if_pos c3]
    rw [if_neg (show ¬ (3 : Int32) = 0 by decide), if_neg (by simp [st2])]
    refine ⟨(h.f32 3).f32 _, by simp [st2], fun z => absurd z (show ¬ (3 : Int32) = 0 by decide)⟩
  · simp only [if_neg c1, if_neg c2, if_neg c3, if_true]
    have z0 : st2 τ 53 32 0 53 32 = 0 := by simp [st2]
    rw [if_pos z0, cl4 x hx, st2_nq (show (59 : Nat) ≠ 53 by decide)]
    by_cases c4 : τ 59 x = 0
    · rw [if_pos ((frozen_eq h.2.2.2.1 hx).mpr c4), if_pos c4, z0, r_f32, r_f32, r_f32, r_f32, hv, e1, (ix8r hx hi).1, (ix8r hx hi).2]
      refine ⟨((h.f32 0).f32 0).item hi _, by simp [st2], fun _ => ?_⟩
      show τ 66 t + 1 = st2 σ 12 (8 * x + i) _ (14 + 13 * t) 11
      rw [st2_nq (by omega), hn]
    · rw [if_neg (fun z => c4 ((frozen_eq h.2.2.2.1 hx).mp z)), if_neg c4]
      exact ⟨(h.f32 0).f32 4, by simp [st2], fun z => absurd z (show ¬ (4 : Int32) = 0 by decide)⟩
theorem Rel.ice {σ τ : mS} (h : Rel σ τ) {r : Nat} (v : Int32) (hv : v = 0 ∨ v = 1) : Rel (st2 σ 11 r v) (st2 τ 59 r v) := by
  obtain ⟨hA, hB, hC, hD, hE, hF, hG⟩ := h
  refine ⟨(hA.l _ _ (by decide)).r _ _ (by decide), hB.o rfl rfl rfl rfl, hC.o rfl rfl rfl rfl rfl rfl rfl rfl, ?_, hE.o rfl rfl, hF.o rfl rfl, hG.o (fun t ht => by rw [st2_nq (by omega)]) rfl rfl rfl rfl rfl⟩
  intro r' hr'
  obtain ⟨a, b, c, d⟩ := hD r' hr'
  refine ⟨a, ?_, ?_, d⟩
  · by_cases e : r' = r
    · simp [st2, e]
    · simpa [st2, e] using b
  · by_cases e : r' = r
    · simpa [st2, e] using hv
    · simpa [st2, e] using c
/-- FREEZE -/
theorem PA_freeze {σ τ : mS} (h : Rel σ τ) {t : Nat} (ht : t < 3) (hn : σ (14 + 13 * t) 11 = τ 66 t + 1) {x : Nat} (hx : x < 4) {k y z : Int32} (hk : k = 18) :
    PA t (f_X3_freeze σ (nI x)) (τ 66 t + 1, (f_X6_rows τ (nI t) k (nI x) y z).2) := by
  unfold f_X3_freeze f_X6_rows
  simp only [ap]
  obtain ⟨a, b, c, d⟩ := h.2.2.2.1 x hx
  rw [isRow_1 x hx, if_neg (show ¬ (1 : Int32) = 0 by decide), if_neg (show ¬ k = 7 by rw [hk]; decide), if_neg (show ¬ k = 8 by rw [hk]; decide), if_neg (show ¬ k = 17 by rw [hk]; decide), if_pos hk, cl4 x hx, a]
  by_cases c1 : τ 57 x = -1
  · rw [if_pos c1, if_pos c1]
    have e : st2 τ 53 32 1 59 x = τ 59 x := by rw [st2_nq (by decide)]
    have hsame : ∀ v : Int32, v = τ 59 x → Rel σ (st2 (st2 τ 53 32 1) 59 x v) := by
      intro v hv
      have e2 : st2 (st2 τ 53 32 1) 59 x v = st2 τ 53 32 1 := by
        funext q' k'
        by_cases e3 : q' = 59 ∧ k' = x
        · obtain ⟨rfl, rfl⟩ := e3
          simp [st2, hv]
        · simp [st2, e3]
      rw [e2]; exact h.f32 1
    rw [e]
    by_cases c2 : τ 59 x = 0
    · rw [if_pos c2]
      exact ⟨hsame 0 c2.symm, by simp [st2], fun z => absurd z (show ¬ (1 : Int32) = 0 by decide)⟩
    · rw [if_neg c2]
      exact ⟨hsame 1 (by rcases c with c | c; exact absurd c c2; exact c.symm), by simp [st2], fun z => absurd z (show ¬ (1 : Int32) = 0 by decide)⟩
  · rw [if_neg c1, if_neg c1]
    have hr := (h.f32 0).ice (r := x) 1 (Or.inr rfl)
    have hn2 : τ 66 t + 1 = st2 σ 11 x 1 (14 + 13 * t) 11 := by rw [st2_nq (by omega), hn]
    split <;> exact ⟨hr, by simp [st2], fun _ => hn2⟩
/-- LAZY -/
theorem PA_lazy {σ τ : mS} (h : Rel σ τ) (h0 : τ 53 32 = 0) {t : Nat} (ht : t < 3) (hn : σ (14 + 13 * t) 11 = τ 66 t + 1) {x y : Nat} (hx : x < 8) (hy : y < 8) {k z : Int32} (hk : k = 19) :
    PA t (0, (f_X1_defer σ (nI x) (nI y)).2) (τ 66 t + 1, (f_X6_rows τ (nI t) k (nI x) (nI y) z).2) := by
  unfold f_X1_defer f_X6_rows
  simp only [ap]
  rw [isCell_1 x hx, isCell_1 y hy, if_neg (show ¬ (1 : Int32) = 0 by decide), if_neg (show ¬ (1 : Int32) = 0 by decide), if_neg (show ¬ k = 7 by rw [hk]; decide), if_neg (show ¬ k = 8 by rw [hk]; decide), if_neg (show ¬ k = 17 by rw [hk]; decide), if_neg (show ¬ k = 18 by rw [hk]; decide), cl8 x hx]
  obtain ⟨hA, hB, hC, hD, hE, hF, hG⟩ := h
  refine ⟨⟨((hA.l _ _ (by decide)).r _ _ (by decide)).r _ _ (by decide), ?_, hC.o rfl rfl rfl rfl rfl rfl rfl rfl, hD.o rfl rfl rfl rfl rfl rfl, hE.o rfl rfl, hF.o rfl rfl, hG.o (fun t ht => by show st2 σ 3 x (nI y) (14 + 13 * t) 0 = _; rw [st2_nq (by omega)]) rfl rfl rfl rfl rfl⟩, (show (0 : Int32) = τ 53 32 from h0.symm), fun _ => (show τ 66 t + 1 = st2 σ 3 x _ (14 + 13 * t) 11 by rw [st2_nq (by omega), hn])⟩
  intro c hc
  by_cases e : c = x
  · subst e
    have hy1 : ¬ nI y = -1 := fun z => nI_pos (n := y) (by omega) (by rw [z]; decide)
    exact Or.inr ⟨by simpa [st2] using hy1, by simp [st2], by simp [st2]⟩
  · have := hB c hc
    simpa [st2, e] using this
