/-! the chain of lazy cells, as numbers -/
def lz (τ : mS) (c : Nat) : Prop := ¬ τ 55 c = 0
def nx (τ : mS) (c : Nat) : Nat := (τ 54 c).toNatClampNeg
def it (τ : mS) : Nat → Nat → Nat
  | 0, c => c
  | k + 1, c => it τ k (nx τ c)
theorem it_s (τ : mS) : ∀ (k c : Nat), it τ (k + 1) c = nx τ (it τ k c) := by
  intro k
  induction k with
  | zero => intro c; rfl
  | succ k ih => intro c; exact ih (nx τ c)
theorem it_add (τ : mS) (c : Nat) : ∀ (d i j : Nat), it τ i c = it τ j c → it τ (i + d) c = it τ (j + d) c := by
  intro d
  induction d with
  | zero => intro i j h; exact h
  | succ d ih => intro i j h; rw [← Nat.add_assoc, ← Nat.add_assoc, it_s, it_s, ih i j h]
theorem nx_eq {τ : mS} (hL : Lz τ) {c : Nat} (hc : c < 8) (h : lz τ c) : τ 54 c = nI (nx τ c) ∧ nx τ c < 8 := by
  obtain ⟨j, hj, e⟩ := vp_in_of (hL c hc h) (by decide)
  have e2 : nx τ c = j := by unfold nx; rw [e, nI_clamp (by omega)]
  rw [e2]; exact ⟨e, hj⟩
theorem it_lt {τ : mS} (hL : Lz τ) {c : Nat} (hc : c < 8) : ∀ k : Nat, (∀ i, i < k → lz τ (it τ i c)) → it τ k c < 8 := by
  intro k
  induction k with
  | zero => intro _; exact hc
  | succ k ih =>
    intro h
    rw [it_s]
    exact (nx_eq hL (ih (fun i hi => h i (by omega))) (h k (by omega))).2
/-- the class's view of a cell -/
theorem isLazy_iff {σ τ : mS} (hB : RelB σ τ) {c : Nat} (hc : c < 8) : f_X1_isLazy σ (nI c) = 0 ↔ ¬ lz τ c := by
  unfold f_X1_isLazy lz
  rw [isCell_1 c hc, if_neg (by decide), cl8 c hc]
  rcases hB c hc with ⟨h1, h2, h3⟩ | ⟨h1, h2, h3⟩
  · rw [if_pos h1]; simp [h2]
  · rw [if_neg h1]; simp [h2]
theorem shown_eq {σ τ : mS} (hB : RelB σ τ) {c : Nat} (hc : c < 8) : f_X1_shown σ (nI c) = τ 54 c := by
  unfold f_X1_shown
  rw [isCell_1 c hc, if_neg (by decide), cl8 c hc]
  rcases hB c hc with ⟨h1, h2, h3⟩ | ⟨h1, h2, h3⟩
  · rw [if_pos h1]; exact h3
  · rw [if_neg h1]; exact h3
theorem ring_no {σ τ : mS} (hB : RelB σ τ) (hL : Lz τ) : ∀ (n a s j : Nat), a < 8 → s + j < 8 → j < n → (∀ k, k < j → lz τ (it τ k a)) → ¬ lz τ (it τ j a) → l_X1_leadsToRing_4 n (nI a) (nI s) σ = 0 := by
  intro n
  induction n with
  | zero => intro a s j _ _ h; omega
  | succ n ih =>
    intro a s j ha hs hj hl hn
    rw [l_X1_leadsToRing_4.eq_2, if_neg (show ¬ (8 : Int32) ≤ nI s from nI_ge (b := 8) (by omega) (by decide))]
    rcases j with _ | j
    · rw [if_pos ((isLazy_iff hB ha).mpr hn)]
    · have h0 : lz τ a := hl 0 (by omega)
      rw [if_neg (fun e => (isLazy_iff hB ha).mp e h0), shown_eq hB ha, (nx_eq hL ha h0).1, nI_1]
      exact ih (nx τ a) (s + 1) j (nx_eq hL ha h0).2 (by omega) (by omega) (fun k hk => hl (k + 1) (by omega)) hn
theorem ring_yes {σ τ : mS} (hB : RelB σ τ) (hL : Lz τ) : ∀ (n a s : Nat), a < 8 → s ≤ 8 → 9 ≤ n + s → (∀ k, lz τ (it τ k a)) → l_X1_leadsToRing_4 n (nI a) (nI s) σ = 1 := by
  intro n
  induction n with
  | zero => intro a s _ _ h; omega
  | succ n ih =>
    intro a s ha hs hn hl
    rw [l_X1_leadsToRing_4.eq_2]
    by_cases h8 : s = 8
    · subst h8; rw [if_pos (by decide)]
    · rw [if_neg (show ¬ (8 : Int32) ≤ nI s from nI_ge (b := 8) (by omega) (by decide))]
      have h0 : lz τ a := hl 0
      rw [if_neg (fun e => (isLazy_iff hB ha).mp e h0), shown_eq hB ha, (nx_eq hL ha h0).1, nI_1]
      exact ih (nx τ a) (s + 1) (nx_eq hL ha h0).2 (by omega) (by omega) (fun k => hl (k + 1))
/-- the class's walk along the chain -/
theorem walk_c {σ τ : mS} (hB : RelB σ τ) (hL : Lz τ) {c j : Nat} (hc : c < 8) (hj : j < 8) (hl : ∀ k, k < j → lz τ (it τ k c)) (hn : ¬ lz τ (it τ j c)) : ∀ (n i : Nat) (σ1 : mS), i ≤ j → j < n + i → (∀ q, q ≠ 4 → σ1 q = σ q) → (∀ k, k < i → σ1 4 k = nI (it τ k c)) →
    ∃ σ2 : mS, l_X1_workedOut_5 n (nI i) (nI (it τ i c)) σ1 = (nI j, nI (it τ j c), σ2) ∧ (∀ q, q ≠ 4 → σ2 q = σ q) ∧ ∀ k, k < j → σ2 4 k = nI (it τ k c) := by
  intro n
  induction n with
  | zero => intro i σ1 h1 h2; omega
  | succ n ih =>
    intro i σ1 h1 h2 hq hk
    have hi8 : it τ i c < 8 := it_lt hL hc i (fun k h => hl k (by omega))
    have hB1 : RelB σ1 τ := hB.o (hq 2 (by decide)) (hq 3 (by decide)) rfl rfl
    rw [l_X1_workedOut_5.eq_2, if_neg (show ¬ (8 : Int32) ≤ nI i from nI_ge (b := 8) (by omega) (by decide))]
    by_cases e : i = j
    · subst e
      rw [if_pos ((isLazy_iff hB1 hi8).mpr hn)]
      exact ⟨σ1, rfl, hq, hk⟩
    · have h0 : lz τ (it τ i c) := hl i (by omega)
      have hB2 : RelB (st2 σ1 4 (nI i).toNatClampNeg (nI (it τ i c))) τ := hB1.o (st2_nq (by decide)) (st2_nq (by decide)) rfl rfl
      rw [if_neg (fun z => (isLazy_iff hB1 hi8).mp z h0), shown_eq hB2 hi8, (nx_eq hL hi8 h0).1, ← it_s, nI_1]
      refine ih (i + 1) _ (by omega) (by omega) (fun q h => by rw [st2_nq h]; exact hq q h) (fun k h => ?_)
      rw [nI_clamp (by omega)]
      by_cases hki : k = i
      · subst hki; simp [st2]
      · simpa [st2, hki] using hk k (by omega)
