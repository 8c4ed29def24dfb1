/-! rows, on both sides -/
theorem item_k {σ τ : mS} (hD : RelD σ τ) {r : Nat} (hr : r < 4) (hS : τ 57 r = -1 ∨ vp_in (τ 57 r) 9) (v : Int32) :
    (τ 57 r = -1) ∨ (¬ τ 57 r = -1 ∧ f_X6_within v 0 (τ 57 r - 1) = 0 ∧ f_X3_hasItem σ (nI r) v = 0) ∨ (¬ τ 57 r = -1 ∧ ¬ f_X6_within v 0 (τ 57 r - 1) = 0 ∧ ¬ f_X3_hasItem σ (nI r) v = 0 ∧ ∃ i : Nat, i < 8 ∧ v = nI i ∧ (i : Int) < (τ 57 r).toInt) := by
  by_cases h1 : τ 57 r = -1
  · exact Or.inl h1
  refine Or.inr ?_
  have hs : vp_in (τ 57 r) 9 := hS.resolve_left h1
  have e1 : σ 10 r = τ 57 r := (hD r hr).1
  obtain ⟨s, hs9, es⟩ := vp_in_of hs (by decide)
  have hh : f_X3_hasItem σ (nI r) v = if v < 0 then 0 else if τ 57 r ≤ v then 0 else if (8 : Int32) ≤ v then 0 else 1 := by
    unfold f_X3_hasItem
    rw [isRow_1 r hr, if_neg (by decide), cl4 r hr, e1]
  rw [hh]
  by_cases h2 : f_X6_within v 0 (τ 57 r - 1) = 0
  · refine Or.inl ⟨h1, h2, ?_⟩
    by_cases h3 : v < 0
    · rw [if_pos h3]
    rw [if_neg h3]
    by_cases h4 : τ 57 r ≤ v
    · rw [if_pos h4]
    exfalso
    refine absurd h2 (within_iff.mpr ⟨?_, ?_⟩)
    · rw [i32_le, Int32.toInt_zero]; rw [i32_lt, Int32.toInt_zero] at h3; omega
    · rw [es] at h4 ⊢
      rw [i32_le, nI_toInt (by omega)] at h4
      rw [i32_lt, Int32.toInt_zero] at h3
      rcases s with _ | s
      · exfalso; omega
      · rw [nI_pred, i32_le, nI_toInt (by omega)]; omega
  · refine Or.inr ⟨h1, h2, ?_, ?_⟩
    · obtain ⟨a, c⟩ := within_iff.mp h2
      have hv := item_in hS h2
      have hv2 := vp_in_iff.mp hv
      rw [if_neg (by rw [i32_lt, Int32.toInt_zero]; omega), if_neg ?_, if_neg ?_]
      · decide
      · rw [i32_le]
        have h8 : (8 : Int32).toInt = 8 := by decide
        omega
      · rw [es] at c ⊢
        rw [i32_le] at c ⊢
        rw [nI_toInt (by omega)]
        rcases s with _ | s
        · exfalso
          have h3 : (nI 0 - 1).toInt = -1 := by decide
          omega
        · rw [nI_pred, nI_toInt (by omega)] at c; omega
    · obtain ⟨i, hi, ei⟩ := vp_in_of (item_in hS h2) (by decide)
      refine ⟨i, hi, ei, ?_⟩
      obtain ⟨a, c⟩ := within_iff.mp h2
      rw [es] at c ⊢
      rw [ei, i32_le, nI_toInt (by omega)] at c
      rw [nI_toInt (by omega)]
      rcases s with _ | s
      · exfalso
        have h3 : (nI 0 - 1).toInt = -1 := by decide
        omega
      · rw [nI_pred, nI_toInt (by omega)] at c; omega
theorem check_eq {τ : mS} {r : Nat} (hr : r < 4) (v : Int32) : f_X6_checkItem τ (nI r) v = (0, st2 τ 53 32 (if τ 57 r = -1 then 1 else if f_X6_within v 0 (τ 57 r - 1) = 0 then 3 else 0)) := by
  unfold f_X6_checkItem
  rw [cl4 r hr]
  (repeat' split) <;> rfl
theorem failAt_eq {σ τ : mS} (hD : RelD σ τ) {r : Nat} (hr : r < 4) (v : Int32) : f_X3_failureAt σ (nI r) v = if τ 57 r = -1 then 1 else if f_X3_hasItem σ (nI r) v = 0 then 3 else 0 := by
  unfold f_X3_failureAt f_X3_length
  rw [isRow_1 r hr, if_neg (show ¬ (1 : Int32) = 0 by decide), cl4 r hr, (hD r hr).1]
theorem ix8r {r i : Nat} (hr : r < 4) (hi : i < 8) : ((8 : Int32) * nI r + nI i).toNatClampNeg = 8 * r + i ∧ (nI r * (8 : Int32) + nI i).toNatClampNeg = 8 * r + i := by
  constructor
  · rw [show (8 : Int32) * nI r = nI (8 * r) from pk_mul 8 r, nI_add, nI_clamp (by omega)]
  · rw [show nI r * (8 : Int32) = nI (r * 8) from pk_mul r 8, nI_add, nI_clamp (by omega)]; omega
theorem r_f32 (τ : mS) (v t i : Int32) : f_X6_r (st2 τ 53 32 v) t i = f_X6_r τ t i := by unfold f_X6_r; rw [st2_nq (by decide)]
/-- LOAD -/
theorem PA_load {σ τ : mS} (h : Rel σ τ) (hS : ∀ r, r < 4 → τ 57 r = -1 ∨ vp_in (τ 57 r) 9) {t : Nat} (ht : t < 3) (hn : σ (14 + 13 * t) 11 = τ 66 t + 1) {x y z : Nat} (hx : x < 4) (hy : y < 4) (hz : z < 4) {k : Int32} (hk : k = 7) :
    PA t (f_X5_loadItem σ (14 + 13 * t) (nI x) (nI y) (f_X4_held σ (14 + 13 * t) (nI z))) (τ 66 t + 1, (f_X6_rows τ (nI t) k (nI x) (nI y) (nI z)).2) := by
  unfold f_X5_loadItem f_X6_rows
  simp only [ap]
  rw [held_r h ht hz, if_pos hk, check_eq hy, failAt_eq h.2.2.2.1 hy]
  generalize hv : f_X6_r τ (nI t) (nI z) = v
  rcases item_k h.2.2.2.1 hy (hS y hy) v with c | ⟨c1, c2, c3⟩ | ⟨c1, c2, c3, i, hi, e1, e2⟩
  · simp only [if_pos c]
    rw [if_neg (show ¬ (1 : Int32) = 0 by decide), if_neg (by simp [st2])]
    exact ⟨h.f32 1, by simp [st2], fun z => absurd z (show ¬ (1 : Int32) = 0 by decide)⟩
  · simp only [if_neg c1, if_pos c2, if_pos c3]
    rw [if_neg (show ¬ (3 : Int32) = 0 by decide), if_neg (by simp [st2])]
    exact ⟨h.f32 3, by simp [st2], fun z => absurd z (show ¬ (3 : Int32) = 0 by decide)⟩
  · simp only [if_neg c1, if_neg c2, if_neg c3, if_true]
    have z0 : st2 τ 53 32 0 53 32 = 0 := by simp [st2]
    rw [if_pos z0, give_eq z0 ht hx, keep_eq _ hx, r_f32, hv]
    have hit : f_X3_itemOf σ (nI y) v = τ 58 (8 * y + i) := by
      unfold f_X3_itemOf
      rw [if_neg c3, e1, (ix8r hy hi).2]
      exact (h.2.2.2.1 y hy).2.2.2 i hi e2
    rw [hit, e1, (ix8r hy hi).1, st2_nq (show (58 : Nat) ≠ 53 by decide)]
    exact ⟨(h.f32 0).s_reg ht hx _, (show (0 : Int32) = st2 τ 53 32 0 53 32 by rw [z0]), fun _ => (show τ 66 t + 1 = st2 σ (14 + 13 * t + 5) x _ (14 + 13 * t) 11 by rw [st2_nq (by omega), hn])⟩
/-- STORE -/
theorem RelD.item {σ τ : mS} (hD : RelD σ τ) {r i : Nat} (hi : i < 8) (v : Int32) : RelD (st2 σ 12 (8 * r + i) v) (st2 τ 58 (8 * r + i) v) := by
  intro r' hr'
  obtain ⟨a, b, c, d⟩ := hD r' hr'
  refine ⟨a, b, c, fun i' hi' h => ?_⟩
  by_cases e : 8 * r' + i' = 8 * r + i
  · simp [st2, e]
  · have := d i' hi' h
    simpa [st2, e] using this
theorem Rel.item {σ τ : mS} (h : Rel σ τ) {r i : Nat} (hi : i < 8) (v : Int32) : Rel (st2 σ 12 (8 * r + i) v) (st2 τ 58 (8 * r + i) v) := by
  obtain ⟨hA, hB, hC, hD, hE, hF, hG⟩ := h
  exact ⟨(hA.l _ _ (by decide)).r _ _ (by decide), hB.o rfl rfl rfl rfl, hC.o rfl rfl rfl rfl rfl rfl rfl rfl, hD.item hi v, hE.o rfl rfl, hF.o rfl rfl, hG.o (fun t ht => by rw [st2_nq (by omega)]) rfl rfl rfl rfl rfl⟩
