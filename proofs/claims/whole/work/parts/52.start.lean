/-! a new object on either side: the relation and the invariants hold -/
theorem x1_e (σ : mS) : (f_X1_reset σ).2 = fun q k => if q = 5 ∧ k = 4 then 0 else if q = 3 ∧ k < 8 then -1 else if q = 2 ∧ k < 8 then 0 else σ q k := by
  unfold f_X1_reset
  simp only [ap]
  rw [fill_f _ 3 8 _ (by decide), fill_f _ 2 8 _ (by decide)]
  funext q k
  simp only [st2]
theorem x3_e (σ : mS) : (f_X3_reset σ).2 = fun q k => if q = 10 ∧ k < 4 then -1 else if q = 11 ∧ k < 4 then 0 else σ q k := by
  unfold f_X3_reset
  have e := x3r_e 5 0
  rw [nI_0] at e
  rw [e _ (by decide) rfl]
  funext q k
  (repeat' split) <;> first | rfl | omega
theorem bgz (q k : Nat) : bgF zS q k = if q = 57 ∧ k < 4 then -1 else 0 := by
  simp only [bgF, zS]
  (repeat' split) <;> first | rfl | omega
/-- the class's numbers at the start -/
def sS : mS := sJ (f_X1_reset zS).2 (f_X3_reset zS).2
theorem sS_t (s1 s3 : mS) : ∀ t o k, t < 3 → o ≤ 12 → sJ s1 s3 (14 + 13 * t + o) k = if o = 0 ∧ k = 0 then nI t else 0 := by
  intro t o k ht ho
  have e0 : nI 0 = 0 := nI_0
  have e1 : nI 1 = 1 := rfl
  have e2 : nI 2 = 2 := rfl
  rcases lt3 ht with rfl | rfl | rfl
  · unfold sJ
    rw [if_neg (by omega), if_neg (by omega), if_neg (by omega), if_pos (by omega), e0]
    unfold zN
    (repeat' split) <;> first | rfl | omega
  · unfold sJ
    rw [if_neg (by omega), if_neg (by omega), if_neg (by omega), if_neg (by omega), if_pos (by omega), e1]
    unfold zN
    (repeat' split) <;> first | rfl | omega
  · unfold sJ
    rw [if_neg (by omega), if_neg (by omega), if_neg (by omega), if_neg (by omega), if_neg (by omega), if_pos (by omega), e2]
    unfold zN
    (repeat' split) <;> first | rfl | omega
theorem sS_1 {q : Nat} (h0 : q ≠ 0) (h : q < 9) (k : Nat) : sS q k = if q = 5 ∧ k = 4 then 0 else if q = 3 ∧ k < 8 then -1 else if q = 2 ∧ k < 8 then 0 else 0 := by
  unfold sS sJ
  rw [if_neg h0, if_pos h, x1_e]
  rfl
theorem sS_3 {q : Nat} (h : 9 ≤ q ∧ q < 13) (k : Nat) : sS q k = if q = 10 ∧ k < 4 then -1 else if q = 11 ∧ k < 4 then 0 else 0 := by
  unfold sS sJ
  rw [if_neg (by omega), if_neg (by omega), if_pos h.2, x3_e]
  rfl
theorem Rel_0 : Rel sS (bgF zS) := by
  have m1 : (-1 : Int32).toInt = -1 := by decide
  refine ⟨?_, ?_, ?_, ?_, ?_, ?_, ?_⟩
  · intro p hp t i ht hi
    have hk := tbl_k p hp
    have hq : p.2.2.1 ≠ 57 := by
      intro e
      have h := tbl_q p hp
      rw [e] at h
      exact absurd h (by decide)
    rw [bgz, if_neg (fun z => hq z.1)]
    unfold sS
    rw [sS_t _ _ t p.1 _ ht (tbl_b p hp), if_neg]
    intro z
    have := (hk z.1).2.1
    omega
  · intro c hc
    left
    refine ⟨?_, ?_, ?_⟩
    · rw [sS_1 (by decide) (by decide)]; simp [hc]
    · rw [bgz]; simp
    · rw [sS_1 (by decide) (by decide), bgz]; simp
  · refine ⟨0, 0, by decide, ?_, ?_, ?_, by decide, fun i _ hi => absurd hi (by omega)⟩
    · rw [sS_1 (by decide) (by decide), nI_0]; simp
    · rw [bgz, nI_0]; simp
    · rw [sS_1 (by decide) (by decide), nI_0]; simp
  · intro r hr
    have e1 : bgF zS 57 r = -1 := by rw [bgz]; simp [hr]
    have e2 : bgF zS 59 r = 0 := by rw [bgz]; simp
    refine ⟨?_, ?_, Or.inl e2, ?_⟩
    · rw [e1, sS_3 (by decide)]; simp [hr]
    · rw [e2, sS_3 (by decide)]; simp
    · rw [e1, m1]; intro i _ hi; exact absurd hi (by omega)
  · refine ⟨?_, 0, by decide, ?_⟩
    · rw [bgz]; rfl
    · rw [bgz, nI_0]; rfl
  · show sS 0 3 = _
    rw [bgz, bgz, bgz]; rfl
  · intro t ht
    have e73 : bgF zS 73 t = 0 := by rw [bgz]; simp
    refine ⟨?_, by rw [bgz, bgz]; simp, Or.inl e73, fun z => absurd e73 z⟩
    have e := sS_t (f_X1_reset zS).2 (f_X3_reset zS).2 t 0 0 ht (by decide)
    exact e
theorem vz {n : Nat} (h : 0 < n) : vp_in (0 : Int32) n := vp_in_iff.mpr ⟨by rw [Int32.toInt_zero]; omega, by rw [Int32.toInt_zero]; omega⟩
theorem RI_0 : RI 0 (bgF zS) := by
  refine RI_bg ⟨⟨?_, ?_, ?_, ?_, ?_, ?_, ?_⟩, ?_, 0, Nat.le_refl _, nI_0.symm⟩
  · intro t ht; exact vz (by decide)
  · intro t ht; exact vz (by decide)
  · intro t ht; exact vz (by decide)
  · intro t ht; exact vz (by decide)
  · intro t ht; exact vz (by decide)
  · intro t ht; right; exact vz (by decide)
  · intro t j ht hj hl
    have e : (zS 60 t).toInt = 0 := Int32.toInt_zero
    rw [e] at hl
    exact absurd hl (by omega)
  · intro c hc hn
    exact absurd rfl hn
