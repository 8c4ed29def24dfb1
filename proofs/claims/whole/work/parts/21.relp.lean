/-! reading a cell outside an atom, on both sides -/
theorem Rel.scr {σ σ' τ τ' : mS} (h : Rel σ τ) (e : ∀ q, q ≠ 4 → σ' q = σ q) (f : ∀ q, q ≠ 56 → q ≠ 84 → q ≠ 53 → τ' q = τ q) (f0 : τ' 53 0 = τ 53 0) (f28 : τ' 53 28 = τ 53 28) : Rel σ' τ' := by
  obtain ⟨hA, hB, hC, hD, hE, hF, hG⟩ := h
  refine ⟨?_, hB.o (e 2 (by decide)) (e 3 (by decide)) (f 54 (by decide) (by decide) (by decide)) (f 55 (by decide) (by decide) (by decide)), hC.o (e 5 (by decide)) (e 6 (by decide)) (e 7 (by decide)) (e 8 (by decide)) f28 (f 81 (by decide) (by decide) (by decide)) (f 82 (by decide) (by decide) (by decide)) (f 83 (by decide) (by decide) (by decide)), hD.o (e 10 (by decide)) (e 11 (by decide)) (e 12 (by decide)) (f 57 (by decide) (by decide) (by decide)) (f 58 (by decide) (by decide) (by decide)) (f 59 (by decide) (by decide) (by decide)), hE.o (by rw [e 0 (by decide)]) f0, hF.o (by rw [e 0 (by decide)]) (f 69 (by decide) (by decide) (by decide)), hG.o (fun t ht => by rw [e _ (by omega)]) (f 67 (by decide) (by decide) (by decide)) (f 68 (by decide) (by decide) (by decide)) (f 73 (by decide) (by decide) (by decide)) (f 74 (by decide) (by decide) (by decide)) (f 71 (by decide) (by decide) (by decide))⟩
  intro p hp t i ht hi
  have hq := tbl_q p hp
  have n1 : p.2.2.1 ≠ 56 ∧ p.2.2.1 ≠ 84 ∧ p.2.2.1 ≠ 53 := by
    refine ⟨fun z => ?_, fun z => ?_, fun z => ?_⟩ <;> (rw [z] at hq; revert hq; decide)
  rw [e _ (by omega), f _ n1.1 n1.2.1 n1.2.2]
  exact hA p hp t i ht hi
theorem count_q {σ : mS} {c : Nat} (hc : c < 8) (t v : Int32) {q : Nat} (hq : q ≠ 2 ∧ q ≠ 3 ∧ q ≠ 5 ∧ q ≠ 6 ∧ q ≠ 7 ∧ q ≠ 8) : (f_X1_count σ t (nI c) v).2 q = σ q := by
  rw [count_eq hc]
  unfold f_X2_add
  (repeat' split) <;> simp only [st2_nq hq.1, st2_nq hq.2.1, st2_nq hq.2.2.1, st2_nq hq.2.2.2.1, st2_nq hq.2.2.2.2.1, st2_nq hq.2.2.2.2.2]
theorem write_32 (τ : mS) (t c v : Int32) : (f_X6_write τ t c v).2 53 32 = τ 53 32 := by
  simp only [f_X6_write, ap, f_X6_note]
  simp [st2]
theorem back {t : Int32} : ∀ (j n m : Nat) (v : Int32) (σ τ : mS) (b : Nat), j < n → j < m → Rel σ τ → Wr τ b → b + j < 2 ^ 30 → (∀ k, k < j → ∃ a, a < 8 ∧ σ 4 k = nI a ∧ τ 84 k = nI a) →
    (l_X1_workedOut_58 n v (nI j - 1) σ t).1 = (l_X6_readPlain_114 m v (nI j - 1) τ t).1 ∧ Rel (l_X1_workedOut_58 n v (nI j - 1) σ t).2 (l_X6_readPlain_114 m v (nI j - 1) τ t).2 ∧ (l_X6_readPlain_114 m v (nI j - 1) τ t).2 53 32 = τ 53 32 := by
  intro j
  induction j with
  | zero =>
    intro n m v σ τ b hn hm h _ _ _
    obtain ⟨n', rfl⟩ : ∃ n', n = n' + 1 := ⟨n - 1, by omega⟩
    obtain ⟨m', rfl⟩ : ∃ m', m = m' + 1 := ⟨m - 1, by omega⟩
    rw [l_X1_workedOut_58.eq_2, l_X6_readPlain_114.eq_2, if_pos (by decide), if_pos (by decide)]
    exact ⟨rfl, h, rfl⟩
  | succ j ih =>
    intro n m v σ τ b hn hm h hw hb hch
    obtain ⟨n', rfl⟩ : ∃ n', n = n' + 1 := ⟨n - 1, by omega⟩
    obtain ⟨m', rfl⟩ : ∃ m', m = m' + 1 := ⟨m - 1, by omega⟩
    obtain ⟨a, ha, e1, e2⟩ := hch j (by omega)
    have e3 : nI j + (-1) = nI j - 1 := by rw [Int32.sub_eq_add_neg]
    rw [l_X1_workedOut_58.eq_2, l_X6_readPlain_114.eq_2, nI_pred, if_neg (nI_pos (by omega)), if_neg (nI_pos (by omega)), nI_clamp (by omega)]
    simp only [ap]
    rw [e1, e2, e3]
    obtain ⟨r1, r2, r3⟩ := ih n' m' (2 * v + 1) (f_X1_count σ t (nI a) (2 * v + 1)).2 (f_X6_write τ t (nI a) (2 * v + 1)).2 (b + 1) (by omega) (by omega) (h.write hw (by omega) t ha _) (Wr_write hw _ _ _) (by omega) (fun k hk => by
      rw [count_q ha _ _ (by decide), write_q (by decide)]
      exact hch k (by omega))
    exact ⟨r1, r2, by rw [r3, write_32]⟩
/-- reading outside an atom: no ring -/
theorem Rel.plain {σ τ : mS} (h : Rel σ τ) (hL : Lz τ) {b : Nat} (hw : Wr τ b) (hb : b < 2 ^ 29) (t : Int32) {c : Nat} (hc : c < 8) :
    (f_X1_leadsToRing σ (nI c) = 0 ∧ (f_X1_workedOut σ (nI c) t).1 = (f_X6_readPlain τ t (nI c)).1 ∧ Rel (f_X1_workedOut σ (nI c) t).2 (f_X6_readPlain τ t (nI c)).2 ∧ (f_X6_readPlain τ t (nI c)).2 53 32 = τ 53 32) ∨
    (¬ f_X1_leadsToRing σ (nI c) = 0 ∧ Rel σ (f_X6_readPlain τ t (nI c)).2 ∧ (f_X6_readPlain τ t (nI c)).2 53 32 = 8) := by
  obtain ⟨z1, z2⟩ := clr_11 9 0 τ (by decide) (by decide) (fun k hk => absurd hk (Nat.not_lt_zero k))
  have hw1 := walk_m hL hc 10 0 (l_X6_readPlain_11 9 (nI 0) τ).2 (by decide) (by decide) (fun q a _ => z2 q a) (fun k hk => absurd hk (Nat.not_lt_zero k)) (fun k hk => absurd hk (Nat.not_lt_zero k)) (cntR_0 z1) (fun k hk hne => absurd (z1 k hk) hne)
  have e0 : f_X6_readPlain τ t (nI c) = (fun u5 : Int32 × Int32 × Int32 × mS => if u5.2.2.1 = 0 then l_X6_readPlain_114 10 (u5.2.2.2 54 u5.2.1.toNatClampNeg) (u5.1 - 1) u5.2.2.2 t else ((0 : Int32), st2 u5.2.2.2 53 32 8)) (l_X6_readPlain_32 10 (nI 0) (nI (it τ 0 c)) 0 (l_X6_readPlain_11 9 (nI 0) τ).2) := by
    simp only [f_X6_readPlain, ap]
    rfl
  rw [e0]
  generalize l_X6_readPlain_32 10 (nI 0) (nI (it τ 0 c)) 0 (l_X6_readPlain_11 9 (nI 0) τ).2 = u at hw1 ⊢
  obtain ⟨hfr, ⟨hr, m, hm, hd, hat, hn, hl, hch⟩ | ⟨hr, hall⟩⟩ := hw1
  · refine Or.inl ?_
    obtain ⟨σ2, g1, g2, g3⟩ := walk_c h.2.1 hL hc hm hl hn 9 0 σ (Nat.zero_le _) (by omega) (fun _ _ => rfl) (fun k hk => absurd hk (Nat.not_lt_zero k))
    have hm8 : it τ m c < 8 := it_lt hL hc m hl
    have hB2 : RelB σ2 τ := h.2.1.o (g2 2 (by decide)) (g2 3 (by decide)) rfl rfl
    have e1 : f_X1_workedOut σ (nI c) t = l_X1_workedOut_58 9 (τ 54 (it τ m c)) (nI m - 1) σ2 t := by
      simp only [f_X1_workedOut, ap]
      have g1' : l_X1_workedOut_5 9 (0 : Int32) (nI c) σ = (nI m, nI (it τ m c), σ2) := g1
      rw [g1']
      show l_X1_workedOut_58 9 (f_X1_shown σ2 (nI (it τ m c))) (nI m - 1) σ2 t = _
      rw [shown_eq hB2 hm8]
    have e2 : u.2.2.2 54 u.2.1.toNatClampNeg = τ 54 (it τ m c) := by rw [hat, cl8 _ hm8, hfr 54 (by decide) (by decide)]
    simp only [if_pos hr]
    rw [e1, e2, hd]
    have f53 : u.2.2.2 53 = τ 53 := hfr 53 (by decide) (by decide)
    obtain ⟨r1, r2, r3⟩ := back (t := t) m 9 10 (τ 54 (it τ m c)) σ2 u.2.2.2 b (by omega) (by omega) (h.scr g2 (fun q a b _ => hfr q a b) (by rw [f53]) (by rw [f53])) (hw.o (by rw [f53])) (by omega) (fun k hk => ⟨it τ k c, it_lt hL hc k (fun i hi => hl i (by omega)), g3 k hk, hch k hk⟩)
    exact ⟨ring_no h.2.1 hL 9 c 0 m hc (by omega) (by omega) hl hn, r1, r2, by rw [r3, f53]⟩
  · refine Or.inr ?_
    simp only [if_neg hr]
    have f53 : u.2.2.2 53 = τ 53 := hfr 53 (by decide) (by decide)
    refine ⟨fun z => ?_, h.scr (fun _ _ => rfl) (fun q a b d => by rw [st2_nq d]; exact hfr q a b) (by show u.2.2.2 53 0 = _; rw [f53]) (by show u.2.2.2 53 28 = _; rw [f53]), by simp [st2]⟩
    have e3 : f_X1_leadsToRing σ (nI c) = 1 := ring_yes h.2.1 hL 9 c 0 hc (by decide) (by decide) hall
    rw [e3] at z; exact absurd z (by decide)
