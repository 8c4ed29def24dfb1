/-! the reference's walk along the chain -/
theorem cntR_all {σ : mS} (h : cntR σ = 8) : ∀ k : Nat, k < 8 → ¬ σ 56 k = 0 := by
  intro k hk
  unfold cntR at h
  have h1 : ((List.range 8).filter (fun k => decide (¬ σ 56 k = 0))).length = (List.range 8).length := by rw [h]; simp
  have h2 := List.length_filter_eq_length_iff.mp h1 k (List.mem_range.mpr hk)
  simpa using h2
theorem clr_11 : ∀ (n i : Nat) (τ : mS), i ≤ 8 → 9 ≤ n + i → (∀ k, k < i → τ 56 k = 0) → (∀ k, k < 8 → (l_X6_readPlain_11 n (nI i) τ).2 56 k = 0) ∧ ∀ q, q ≠ 56 → (l_X6_readPlain_11 n (nI i) τ).2 q = τ q := by
  intro n
  induction n with
  | zero => intro i τ h1 h2; omega
  | succ n ih =>
    intro i τ h1 h2 hz
    rw [l_X6_readPlain_11.eq_2]
    by_cases h8 : i = 8
    · subst h8
      rw [if_pos (by decide)]
      exact ⟨hz, fun q _ => rfl⟩
    · rw [if_neg (show ¬ (8 : Int32) ≤ nI i from nI_ge (b := 8) (by omega) (by decide)), nI_1]
      obtain ⟨a, b⟩ := ih (i + 1) (st2 τ 56 (nI i).toNatClampNeg 0) (by omega) (by omega) (rd0_s rfl (by omega) hz)
      exact ⟨a, fun q hq => by rw [b q hq, st2_nq hq]⟩
theorem all_lz {τ : mS} {c i j : Nat} (hij : i < j) (e : it τ j c = it τ i c) (hl : ∀ k, k < j → lz τ (it τ k c)) : ∀ k, lz τ (it τ k c) := by
  intro k
  induction k using Nat.strongRecOn with
  | ind k ih =>
    by_cases h : k < j
    · exact hl k h
    · have h1 := it_add τ c (k - j) j i e
      rw [show j + (k - j) = k by omega] at h1
      rw [h1]
      exact ih (i + (k - j)) (by omega)
theorem walk_m {τ : mS} (hL : Lz τ) {c : Nat} (hc : c < 8) : ∀ (n j : Nat) (τ1 : mS), j ≤ 8 → 10 ≤ n + j → (∀ q, q ≠ 56 → q ≠ 84 → τ1 q = τ q) → (∀ k, k < j → τ1 84 k = nI (it τ k c)) → (∀ k, k < j → lz τ (it τ k c)) → cntR τ1 = j → (∀ k, k < 8 → ¬ τ1 56 k = 0 → ∃ i, i < j ∧ it τ i c = k) →
    (∀ q, q ≠ 56 → q ≠ 84 → (l_X6_readPlain_32 n (nI j) (nI (it τ j c)) 0 τ1).2.2.2 q = τ q) ∧
    (((l_X6_readPlain_32 n (nI j) (nI (it τ j c)) 0 τ1).2.2.1 = 0 ∧ ∃ m, m < 8 ∧ (l_X6_readPlain_32 n (nI j) (nI (it τ j c)) 0 τ1).1 = nI m ∧ (l_X6_readPlain_32 n (nI j) (nI (it τ j c)) 0 τ1).2.1 = nI (it τ m c) ∧ ¬ lz τ (it τ m c) ∧ (∀ k, k < m → lz τ (it τ k c)) ∧ ∀ k, k < m → (l_X6_readPlain_32 n (nI j) (nI (it τ j c)) 0 τ1).2.2.2 84 k = nI (it τ k c)) ∨
     (¬ (l_X6_readPlain_32 n (nI j) (nI (it τ j c)) 0 τ1).2.2.1 = 0 ∧ ∀ k, lz τ (it τ k c))) := by
  intro n
  induction n with
  | zero => intro j τ1 h1 h2; omega
  | succ n ih =>
    intro j τ1 h1 h2 hq hch hl hcnt hmk
    have hj8 : it τ j c < 8 := it_lt hL hc j hl
    have e55 : τ1 55 = τ 55 := hq 55 (by decide) (by decide)
    have e54 : τ1 54 = τ 54 := hq 54 (by decide) (by decide)
    rw [l_X6_readPlain_32.eq_2, cl8 _ hj8]
    by_cases h0 : τ1 55 (it τ j c) = 0
    · rw [if_pos h0]
      have hn : ¬ lz τ (it τ j c) := fun z => z (by rw [← e55]; exact h0)
      refine ⟨hq, Or.inl ⟨rfl, j, ?_, rfl, rfl, hn, hl, hch⟩⟩
      rcases Nat.lt_or_ge j 8 with z | z
      · exact z
      · exfalso
        have hj : j = 8 := by omega
        obtain ⟨i, hi, e⟩ := hmk (it τ j c) hj8 (cntR_all (by rw [hcnt, hj]) _ hj8)
        exact hn (by rw [← e]; exact hl i hi)
    · rw [if_neg h0, if_pos rfl]
      have hz : lz τ (it τ j c) := fun z => h0 (by rw [e55]; exact z)
      have en : (st2 (st2 τ1 56 (it τ j c) 1) 84 (nI j).toNatClampNeg (nI (it τ j c))) 54 (it τ j c) = nI (it τ (j + 1) c) := by
        show τ1 54 (it τ j c) = _
        rw [e54, (nx_eq hL hj8 hz).1, it_s]
      rw [en, nI_1, nI_clamp (by omega)]
      by_cases hm : τ1 56 (it τ j c) = 0
      · rw [hm]
        have hc2 := cntR_up (σ := τ1) hj8 hm
        have hc3 := cntR_le (st2 τ1 56 (it τ j c) 1)
        refine ih (j + 1) _ (by omega) (by omega) (fun q a b => by rw [st2_nq b, st2_nq a]; exact hq q a b) (fun k hk => ?_) (fun k hk => ?_) ?_ (fun k hk hne => ?_)
        · by_cases e : k = j
          · subst e; simp [st2]
          · simpa [st2, e] using hch k (by omega)
        · by_cases e : k = j
          · subst e; exact hz
          · exact hl k (by omega)
        · rw [cntR_o (st2_nq (by decide)), hc2, hcnt]
        · by_cases e : k = it τ j c
          · exact ⟨j, by omega, e.symm⟩
          · have e2 : (st2 (st2 τ1 56 (it τ j c) 1) 84 j (nI (it τ j c))) 56 k = τ1 56 k := by simp [st2, e]
            rw [e2] at hne
            obtain ⟨i, hi, e3⟩ := hmk k hk hne
            exact ⟨i, by omega, e3⟩
      · obtain ⟨i, hi, e⟩ := hmk (it τ j c) hj8 hm
        have hall := all_lz hi e.symm hl
        obtain ⟨n', rfl⟩ : ∃ n', n = n' + 1 := ⟨n - 1, by omega⟩
        rw [l_X6_readPlain_32.eq_2]
        have hfr : ∀ q, q ≠ 56 → q ≠ 84 → (st2 (st2 τ1 56 (it τ j c) 1) 84 j (nI (it τ j c))) q = τ q := fun q a b => by rw [st2_nq b, st2_nq a]; exact hq q a b
        (repeat' split) <;> first
          | exact ⟨hfr, Or.inr ⟨hm, hall⟩⟩
          | exact absurd (by assumption) hm
