/-! writes to cells and the log, on both sides -/
theorem isCell_1 : ∀ c : Nat, c < 8 → f_X5_isCell (nI c) = 1 := by decide +kernel
theorem isReg_1 : ∀ c : Nat, c < 4 → f_X5_isRegister (nI c) = 1 := by decide +kernel
theorem isRow_1 : ∀ c : Nat, c < 4 → f_X5_isRow (nI c) = 1 := by decide +kernel
theorem cl8 : ∀ c : Nat, c < 8 → (nI c).toNatClampNeg = c := by decide +kernel
theorem hold_eq {σ : mS} {c : Nat} (hc : c < 8) (v : Int32) : f_X1_hold σ (nI c) v = (0, st2 (st2 σ 2 c v) 3 c (-1)) := by
  unfold f_X1_hold
  rw [if_neg (nI_pos (by omega)), if_neg (show ¬ (8 : Int32) ≤ nI c from nI_ge hc (by decide)), cl8 c hc]
theorem write_eq {τ : mS} {c : Nat} (hc : c < 8) (t v : Int32) : f_X6_write τ t (nI c) v = (0, (f_X6_note (st2 (st2 τ 54 c v) 55 c 0) t (nI c) v).2) := by
  simp only [f_X6_write, ap]
  rw [cl8 c hc]
theorem count_eq {σ : mS} {c : Nat} (hc : c < 8) (t v : Int32) : f_X1_count σ t (nI c) v = (0, (f_X2_add (st2 (st2 σ 2 c v) 3 c (-1)) t (nI c) v).2) := by
  simp only [f_X1_count, ap]
  rw [hold_eq hc]
theorem Rel.cell {σ τ : mS} (h : Rel σ τ) (c : Nat) (v : Int32) : Rel (st2 (st2 σ 2 c v) 3 c (-1)) (st2 (st2 τ 54 c v) 55 c 0) := by
  obtain ⟨hA, hB, hC, hD, hE, hF, hG⟩ := h
  refine ⟨(((hA.l c v (by decide)).l c (-1) (by decide)).r c v (by decide)).r c 0 (by decide), ?_, hC.o rfl rfl rfl rfl rfl rfl rfl rfl, hD.o rfl rfl rfl rfl rfl rfl, hE.o rfl rfl, hF.o rfl rfl, hG.o (fun t ht => by rw [st2_nq (by omega), st2_nq (by omega)]) rfl rfl rfl rfl rfl⟩
  intro k hk
  by_cases e : k = c
  · subst e
    exact Or.inl ⟨by simp [st2], by simp [st2], by simp [st2]⟩
  · have e1 : st2 (st2 σ 2 c v) 3 c (-1) 3 k = σ 3 k := by simp [st2, e]
    have e2 : st2 (st2 σ 2 c v) 3 c (-1) 2 k = σ 2 k := by simp [st2, e]
    have e3 : st2 (st2 τ 54 c v) 55 c 0 55 k = τ 55 k := by simp [st2, e]
    have e4 : st2 (st2 τ 54 c v) 55 c 0 54 k = τ 54 k := by simp [st2, e]
    rw [e1, e2, e3, e4]
    exact hB k hk
theorem add_eq {σ : mS} {L : Nat} (hL : L < 30) (h : σ 5 3 = nI L) (t c v : Int32) : (f_X2_add σ t c v).2 = st2 (st2 (st2 (st2 (st2 σ 5 3 (nI ((L + 1) % 30))) 6 ((L + 1) % 30) t) 7 ((L + 1) % 30) c) 8 ((L + 1) % 30) v) 5 4 (σ 5 4 + 1) := by
  unfold f_X2_add
  rw [h, if_neg (nI_pos (by omega))]
  by_cases h1 : L = 29
  · subst h1
    rw [if_pos (by decide)]
    rfl
  · have h2 : (L + 1) % 30 = L + 1 := Nat.mod_eq_of_lt (by omega)
    rw [if_neg (show ¬ (29 : Int32) ≤ nI L from nI_ge (b := 29) (by omega) (by decide)), nI_1, h2, nI_clamp (by omega)]
theorem note_eq {τ : mS} {w : Nat} (hw : w < 2 ^ 31) (h : τ 53 28 = nI w) (t c v : Int32) : (f_X6_note τ t c v).2 = st2 (st2 (st2 (st2 τ 81 (w % 30) t) 82 (w % 30) c) 83 (w % 30) v) 53 28 (nI (w + 1)) := by
  have e : (τ 53 28 - τ 53 28 / 30 * 30).toNatClampNeg = w % 30 := by
    rw [h, show (30 : Int32) = nI 30 from rfl, pk_rem hw (by decide) (by decide), nI_clamp (by omega)]
  unfold f_X6_note
  rw [h] at e
  simp only [h, e, nI_1]
theorem Rel.log {σ τ : mS} (h : Rel σ τ) {b : Nat} (hw : Wr τ b) (hb : b < 2 ^ 30) (t c v : Int32) : Rel (f_X2_add σ t c v).2 (f_X6_note τ t c v).2 := by
  obtain ⟨hA, hB, ⟨w, L, h0, h1, h2, h3, h4, h5⟩, hD, hE, hF, hG⟩ := h
  obtain ⟨w', g1, g2⟩ := hw
  have hww : w = w' := (nI_eq h0 (by omega)).mp (h2.symm.trans g2)
  subst hww
  rw [add_eq h4 h3, note_eq h0 h2]
  refine ⟨((((((((hA.l _ _ (by decide)).l _ _ (by decide)).l _ _ (by decide)).l _ _ (by decide)).l _ _ (by decide)).r _ _ (by decide)).r _ _ (by decide)).r _ _ (by decide)).r _ _ (by decide), hB.o rfl rfl rfl rfl, ?_, hD.o rfl rfl rfl rfl rfl rfl, hE.o rfl rfl, hF.o rfl rfl, hG.o (fun t ht => by rw [st2_nq (by omega), st2_nq (by omega), st2_nq (by omega), st2_nq (by omega), st2_nq (by omega)]) rfl rfl rfl rfl rfl⟩
  refine ⟨w + 1, (L + 1) % 30, by omega, by simp [st2, h1, nI_1], by simp [st2], by simp [st2], by omega, ?_⟩
  intro i hi hiw
  by_cases hi0 : i = 0
  · subst hi0
    have e1 : ((L + 1) % 30 + 30 - 0) % 30 = (L + 1) % 30 := by omega
    have e2 : (w + 1 - 1 - 0) % 30 = w % 30 := by simp
    rw [e1, e2]
    simp [st2]
  · have e1 : ((L + 1) % 30 + 30 - i) % 30 = (L + 30 - (i - 1)) % 30 := by omega
    have e2 : (w + 1 - 1 - i) % 30 = (w - 1 - (i - 1)) % 30 := by congr 1; omega
    have n1 : ¬ (L + 30 - (i - 1)) % 30 = (L + 1) % 30 := by omega
    have n2 : ¬ (w - 1 - (i - 1)) % 30 = w % 30 := by omega
    rw [e1, e2]
    have h6 := h5 (i - 1) (by omega) (by omega)
    simp [st2, n1, n2, h6]
/-- a write that counts: the class's count, the reference's write -/
theorem Rel.write {σ τ : mS} (h : Rel σ τ) {b : Nat} (hw : Wr τ b) (hb : b < 2 ^ 30) (t : Int32) {c : Nat} (hc : c < 8) (v : Int32) : Rel (f_X1_count σ t (nI c) v).2 (f_X6_write τ t (nI c) v).2 := by
  rw [count_eq hc, write_eq hc]
  exact (h.cell c v).log (hw.o rfl) hb _ _ _
