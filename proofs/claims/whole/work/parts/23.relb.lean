/-! atoms: what is forgotten, what is copied, on both sides -/
theorem st2_comm {σ : mS} {a b i j : Nat} {v w : Int32} (h : a ≠ b) : st2 (st2 σ a i v) b j w = st2 (st2 σ b j w) a i v := by
  funext q k
  by_cases h1 : q = a
  · subst h1; simp [st2, h]
  · by_cases h2 : q = b
    · subst h2; simp [st2, Ne.symm h]
    · simp [st2, h1, h2]
def fgF (σ : mS) (q i : Nat) : mS := fun q' k => if (q' = q + 2 ∨ q' = q + 4) ∧ i ≤ k ∧ k < 8 then 0 else σ q' k
theorem fgF_s {σ : mS} {q i : Nat} (hi : i < 8) : fgF (st2 (st2 σ (q + 2) i 0) (q + 4) i 0) q (i + 1) = fgF σ q i := by
  funext q' k
  unfold fgF
  by_cases h1 : q' = q + 2 ∨ q' = q + 4
  · by_cases h2 : k = i
    · subst h2
      rw [if_neg (by omega), if_pos ⟨h1, by omega, hi⟩]
      rcases h1 with e | e <;> subst e <;> simp [st2]
    · by_cases h3 : i + 1 ≤ k ∧ k < 8
      · rw [if_pos ⟨h1, h3⟩, if_pos ⟨h1, by omega, h3.2⟩]
      · rw [if_neg (fun z => h3 z.2), if_neg (fun z => h3 ⟨by omega, z.2.2⟩)]
        simp [st2, h2]
  · rw [if_neg (fun z => h1 z.1), if_neg (fun z => h1 z.1)]
    have e1 : q' ≠ q + 2 := fun z => h1 (Or.inl z)
    have e2 : q' ≠ q + 4 := fun z => h1 (Or.inr z)
    simp [st2, e1, e2]
theorem fgF_8 (σ : mS) (q : Nat) : fgF σ q 8 = σ := by
  funext q' k
  unfold fgF
  rw [if_neg (by omega)]
theorem forget_eq : ∀ (n i : Nat) (σ : mS) (q : Nat), i ≤ 8 → 9 ≤ n + i → (l_X0_forget_2 n (nI i) σ q).2 = fgF σ q i := by
  intro n
  induction n with
  | zero => intro i σ q h1 h2; omega
  | succ n ih =>
    intro i σ q h1 h2
    rw [l_X0_forget_2.eq_2]
    by_cases h8 : i = 8
    · subst h8; rw [if_pos (by decide), fgF_8]
    · rw [if_neg (show ¬ (8 : Int32) ≤ nI i from nI_ge (b := 8) (by omega) (by decide)), nI_1, ih (i + 1) _ q (by omega) (by omega), nI_clamp (by omega), fgF_s (by omega)]
/-- the marks forgotten on both sides -/
theorem Rel.clr {t : Nat} (ht : t < 3) : ∀ (n i : Nat) (σ τ : mS), i ≤ 8 → 9 ≤ n + i → Rel σ τ → Rel (fgF σ (14 + 13 * t + 7) i) (l_X6_clearAtom_2 n (nI i) τ (nI t)).2 := by
  intro n
  induction n with
  | zero => intro i σ τ h1 h2; omega
  | succ n ih =>
    intro i σ τ h1 h2 h
    rw [l_X6_clearAtom_2.eq_2]
    by_cases h8 : i = 8
    · subst h8; rw [if_pos (by decide), fgF_8]; exact h
    · rw [if_neg (show ¬ (8 : Int32) ≤ nI i from nI_ge (b := 8) (by omega) (by decide)), nI_1, ix8 ht (by omega), ← fgF_s (by omega)]
      refine ih (i + 1) _ _ (by omega) (by omega) ?_
      rw [st2_comm (show (77 : Nat) ≠ 79 by decide)]
      exact (h.s_pm ht (by omega) 0).s_rm ht (by omega) 0
def cpF (σ : mS) (a b i : Nat) : mS := fun q k => if q = b ∧ i ≤ k ∧ k < 4 then σ a k else σ q k
theorem cpF_4 (σ : mS) (a b : Nat) : cpF σ a b 4 = σ := by
  funext q k
  unfold cpF
  rw [if_neg (by omega)]
theorem cpF_0 (σ : mS) (a b : Nat) : cp2 σ a b 4 = cpF σ a b 0 := by
  funext q k
  simp [cp2, cpF]
theorem cpF_s {σ : mS} {a b i : Nat} (hab : a ≠ b) (hi : i < 4) : cpF (st2 σ b i (σ a i)) a b (i + 1) = cpF σ a b i := by
  funext q k
  unfold cpF
  by_cases h1 : q = b
  · subst h1
    by_cases h2 : k = i
    · subst h2
      rw [if_neg (by omega), if_pos ⟨rfl, by omega, hi⟩]
      simp [st2]
    · by_cases h3 : i + 1 ≤ k ∧ k < 4
      · rw [if_pos ⟨rfl, h3⟩, if_pos ⟨rfl, by omega, h3.2⟩, st2_nq hab]
      · rw [if_neg (fun z => h3 z.2), if_neg (fun z => h3 ⟨by omega, z.2.2⟩)]
        simp [st2, h2]
  · rw [if_neg (fun z => h1 z.1), if_neg (fun z => h1 z.1), st2_nq h1]
theorem Rel.cpy {t : Nat} (ht : t < 3) : ∀ (n i : Nat) (σ τ : mS), i ≤ 4 → 5 ≤ n + i → Rel σ τ → Rel (cpF σ (14 + 13 * t + 5) (14 + 13 * t + 8) i) (l_X6_beginAtom_55 n (nI i) τ (nI t)).2 := by
  intro n
  induction n with
  | zero => intro i σ τ h1 h2; omega
  | succ n ih =>
    intro i σ τ h1 h2 h
    rw [l_X6_beginAtom_55.eq_2]
    by_cases h8 : i = 4
    · subst h8; rw [if_pos (by decide), cpF_4]; exact h
    · rw [if_neg (show ¬ (4 : Int32) ≤ nI i from nI_ge (b := 4) (by omega) (by decide)), nI_1, ix4 ht (by omega), ← cpF_s (by omega) (by omega)]
      refine ih (i + 1) _ _ (by omega) (by omega) ?_
      rw [← h.r_reg ht (by omega)]
      exact h.s_areg ht (by omega) _
theorem Rel.cpb {t : Nat} (ht : t < 3) : ∀ (n i : Nat) (σ τ : mS), i ≤ 4 → 5 ≤ n + i → Rel σ τ → Rel (cpF σ (14 + 13 * t + 8) (14 + 13 * t + 5) i) (l_X6_endAtom_121 n (nI i) τ (nI t)).2 := by
  intro n
  induction n with
  | zero => intro i σ τ h1 h2; omega
  | succ n ih =>
    intro i σ τ h1 h2 h
    rw [l_X6_endAtom_121.eq_2]
    by_cases h8 : i = 4
    · subst h8; rw [if_pos (by decide), cpF_4]; exact h
    · rw [if_neg (show ¬ (4 : Int32) ≤ nI i from nI_ge (b := 4) (by omega) (by decide)), nI_1, ix4 ht (by omega), ← cpF_s (by omega) (by omega)]
      refine ih (i + 1) _ _ (by omega) (by omega) ?_
      rw [← h.r_areg ht (by omega)]
      exact h.s_reg ht (by omega) _
/-- the atom opened: open 1 with as many trys ahead as there are -/
theorem Rel.opn {σ τ : mS} (h : Rel σ τ) {t : Nat} (ht : t < 3) : Rel (st2 (st2 σ (14 + 13 * t + 7) 0 1) (14 + 13 * t + 7) 2 (σ (14 + 13 * t) 8)) (st2 (st2 τ 73 t 1) 74 t (τ 71 t)) := by
  have e := h.r_trys ht
  rw [e]
  obtain ⟨hA, hB, hC, hD, hE, hF, hG⟩ := h
  have a1 : RelA (st2 σ (14 + 13 * t + 7) 0 1) (st2 τ 73 t 1) := by simpa using hA.set (p := (7, 0, 73, 1)) (by decide) ht (i := 0) (by decide) 1
  have a2 : RelA (st2 (st2 σ (14 + 13 * t + 7) 0 1) (14 + 13 * t + 7) 2 (τ 71 t)) (st2 (st2 τ 73 t 1) 74 t (τ 71 t)) := by simpa using a1.set (p := (7, 2, 74, 1)) (by decide) ht (i := 0) (by decide) (τ 71 t)
  have nl : ∀ z, z < 14 → z ≠ 14 + 13 * t + 7 := fun z hz => by omega
  have e2 : ∀ z, z < 14 → (st2 (st2 σ (14 + 13 * t + 7) 0 1) (14 + 13 * t + 7) 2 (τ 71 t)) z = σ z := fun z hz => by rw [st2_nq (nl z hz), st2_nq (nl z hz)]
  refine ⟨a2, hB.o (e2 2 (by decide)) (e2 3 (by decide)) rfl rfl, hC.o (e2 5 (by decide)) (e2 6 (by decide)) (e2 7 (by decide)) (e2 8 (by decide)) rfl rfl rfl rfl, hD.o (e2 10 (by decide)) (e2 11 (by decide)) (e2 12 (by decide)) rfl rfl rfl, hE.o (by rw [e2 0 (by decide)]) rfl, hF.o (by rw [e2 0 (by decide)]) rfl, ?_⟩
  intro t' ht'
  obtain ⟨g1, g2, g3, g4⟩ := hG t' ht'
  refine ⟨by rw [st2_nq (by omega), st2_nq (by omega)]; exact g1, g2, ?_, ?_⟩
  · show st2 τ 73 t 1 73 t' = 0 ∨ st2 τ 73 t 1 73 t' = 1
    by_cases e : t' = t
    · right; simp [st2, e]
    · simpa [st2, e] using g3
  · intro hne
    show st2 (st2 τ 73 t 1) 74 t (τ 71 t) 74 t' ≤ τ 71 t'
    by_cases e : t' = t
    · subst e; simp [st2]
    · have h1 : st2 (st2 τ 73 t 1) 74 t (τ 71 t) 74 t' = τ 74 t' := by simp [st2, e]
      rw [h1]
      refine g4 (fun z => hne ?_)
      show st2 τ 73 t 1 73 t' = 0
      simpa [st2, e] using z
/-- the atom shut -/
theorem Rel.shut {σ τ : mS} (h : Rel σ τ) {t : Nat} (ht : t < 3) : Rel (st2 σ (14 + 13 * t + 7) 0 0) (st2 τ 73 t 0) := by
  obtain ⟨hA, hB, hC, hD, hE, hF, hG⟩ := h
  have nl : ∀ z, z < 14 → z ≠ 14 + 13 * t + 7 := fun z hz => by omega
  refine ⟨by simpa using hA.set (p := (7, 0, 73, 1)) (by decide) ht (i := 0) (by decide) 0, hB.o (st2_nq (nl 2 (by decide))) (st2_nq (nl 3 (by decide))) rfl rfl, hC.o (st2_nq (nl 5 (by decide))) (st2_nq (nl 6 (by decide))) (st2_nq (nl 7 (by decide))) (st2_nq (nl 8 (by decide))) rfl rfl rfl rfl, hD.o (st2_nq (nl 10 (by decide))) (st2_nq (nl 11 (by decide))) (st2_nq (nl 12 (by decide))) rfl rfl rfl, hE.o (by rw [st2_nq (nl 0 (by decide))]) rfl, hF.o (by rw [st2_nq (nl 0 (by decide))]) rfl, ?_⟩
  intro t' ht'
  obtain ⟨g1, g2, g3, g4⟩ := hG t' ht'
  refine ⟨by rw [st2_nq (by omega)]; exact g1, g2, ?_, ?_⟩
  · by_cases e : t' = t
    · left; simp [st2, e]
    · simpa [st2, e] using g3
  · intro hne
    show τ 74 t' ≤ τ 71 t'
    by_cases e : t' = t
    · exact absurd (by simp [st2, e]) hne
    · exact g4 (by simpa [st2, e] using hne)
