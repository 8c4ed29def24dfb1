/-! class and reference side by side. Strand t of the class stands at 14 + 13 t; a row of tbl: the cell's offset there, the first number, the reference's cell, how many numbers a strand has -/
def tbl : List (Nat × Nat × Nat × Nat) := [(0, 5, 60, 1), (1, 0, 61, 24), (2, 0, 62, 24), (3, 0, 63, 24), (4, 0, 64, 24), (5, 0, 65, 4), (6, 0, 72, 4), (0, 8, 71, 1), (0, 10, 66, 1), (0, 12, 67, 1), (0, 13, 69, 1), (0, 14, 70, 1), (7, 0, 73, 1), (7, 1, 75, 1), (7, 2, 74, 1), (8, 0, 76, 4), (9, 0, 79, 8), (10, 0, 80, 8), (11, 0, 77, 8), (12, 0, 78, 8)]
def RelA (σ τ : mS) : Prop := ∀ p : Nat × Nat × Nat × Nat, p ∈ tbl → ∀ t i : Nat, t < 3 → i < p.2.2.2 → σ (14 + 13 * t + p.1) (p.2.1 + i) = τ p.2.2.1 (p.2.2.2 * t + i)
theorem tbl_r : ∀ p ∈ tbl, ∀ p' ∈ tbl, p.2.2.1 = p'.2.2.1 → p = p' := by decide +kernel
theorem tbl_o : ∀ p ∈ tbl, ∀ p' ∈ tbl, p.1 = p'.1 → p = p' ∨ (p.2.2.2 = 1 ∧ p'.2.2.2 = 1 ∧ p.2.1 ≠ p'.2.1) := by decide +kernel
theorem tbl_b : ∀ p ∈ tbl, p.1 ≤ 12 := by decide +kernel
theorem tbl_k : ∀ p ∈ tbl, p.1 = 0 → p.2.2.2 = 1 ∧ p.2.1 ≠ 0 ∧ p.2.1 ≠ 11 := by decide +kernel
theorem tbl_q : ∀ p ∈ tbl, p.2.2.1 ∈ [60, 61, 62, 63, 64, 65, 66, 67, 69, 70, 71, 72, 73, 74, 75, 76, 77, 78, 79, 80] := by decide +kernel
theorem two_at {L a b i j : Nat} (hi : i < L) (hj : j < L) (h : L * a + i = L * b + j) : a = b ∧ i = j := by
  rcases Nat.lt_trichotomy a b with c | c | c
  · have h1 : L * (a + 1) ≤ L * b := Nat.mul_le_mul_left L c
    rw [Nat.mul_add, Nat.mul_one] at h1
    omega
  · subst c; exact ⟨rfl, by omega⟩
  · have h1 : L * (b + 1) ≤ L * a := Nat.mul_le_mul_left L c
    rw [Nat.mul_add, Nat.mul_one] at h1
    omega
/-- the same number, in the same place, on both sides -/
theorem RelA.set {σ τ : mS} (h : RelA σ τ) {p : Nat × Nat × Nat × Nat} (hp : p ∈ tbl) {t i : Nat} (ht : t < 3) (hi : i < p.2.2.2) (v : Int32) : RelA (st2 σ (14 + 13 * t + p.1) (p.2.1 + i) v) (st2 τ p.2.2.1 (p.2.2.2 * t + i) v) := by
  intro p' hp' t' i' ht' hi'
  by_cases e : p' = p ∧ t' = t ∧ i' = i
  · obtain ⟨rfl, rfl, rfl⟩ := e
    simp [st2]
  · have c1 : ¬ (14 + 13 * t' + p'.1 = 14 + 13 * t + p.1 ∧ p'.2.1 + i' = p.2.1 + i) := by
      intro ⟨a, b⟩
      have b1 := tbl_b p hp
      have b2 := tbl_b p' hp'
      have e1 : t' = t := by omega
      have e2 : p'.1 = p.1 := by omega
      rcases tbl_o p' hp' p hp e2 with e3 | ⟨e4, e5, e6⟩
      · subst e3; exact e ⟨rfl, e1, by omega⟩
      · omega
    have c2 : ¬ (p'.2.2.1 = p.2.2.1 ∧ p'.2.2.2 * t' + i' = p.2.2.2 * t + i) := by
      intro ⟨a, b⟩
      have e3 := tbl_r p' hp' p hp a
      subst e3
      obtain ⟨e4, e5⟩ := two_at hi' hi b
      exact e ⟨rfl, e4, e5⟩
    show (if _ then v else _) = (if _ then v else _)
    rw [if_neg c1, if_neg c2]
    exact h p' hp' t' i' ht' hi'
/-- what isn't of a strand, on either side -/
theorem RelA.l {σ τ : mS} (h : RelA σ τ) {q : Nat} (k : Nat) (v : Int32) (hq : q < 14) : RelA (st2 σ q k v) τ := by
  intro p hp t i ht hi
  rw [st2_nq (by omega)]
  exact h p hp t i ht hi
theorem RelA.r {σ τ : mS} (h : RelA σ τ) {q : Nat} (k : Nat) (v : Int32) (hq : q ∉ [60, 61, 62, 63, 64, 65, 66, 67, 69, 70, 71, 72, 73, 74, 75, 76, 77, 78, 79, 80]) : RelA σ (st2 τ q k v) := by
  intro p hp t i ht hi
  rw [st2_nq (fun e => hq (by rw [← e]; exact tbl_q p hp))]
  exact h p hp t i ht hi
/-- a strand's scratch number -/
theorem RelA.n {σ τ : mS} (h : RelA σ τ) {t : Nat} (ht : t < 3) (v : Int32) : RelA (st2 σ (14 + 13 * t) 11 v) τ := by
  intro p hp t' i ht' hi
  have c1 : ¬ (14 + 13 * t' + p.1 = 14 + 13 * t ∧ p.2.1 + i = 11) := by
    intro ⟨a, b⟩
    have b1 := tbl_b p hp
    have e1 : p.1 = 0 := by omega
    obtain ⟨e2, e3, e4⟩ := tbl_k p hp e1
    omega
  show (if _ then v else _) = _
  rw [if_neg c1]
  exact h p hp t' i ht' hi
/-- the cells: a number, or with which cell -/
def RelB (σ τ : mS) : Prop := ∀ c : Nat, c < 8 → (σ 3 c = -1 ∧ τ 55 c = 0 ∧ σ 2 c = τ 54 c) ∨ (¬ σ 3 c = -1 ∧ ¬ τ 55 c = 0 ∧ σ 3 c = τ 54 c)
/-- the log: the latest write stands at L on the one side, at w - 1 on the other -/
def RelC (σ τ : mS) : Prop := ∃ w L : Nat, w < 2 ^ 31 ∧ σ 5 4 = nI w ∧ τ 53 28 = nI w ∧ σ 5 3 = nI L ∧ L < 30 ∧ ∀ i : Nat, i < 30 → i < w → σ 6 ((L + 30 - i) % 30) = τ 81 ((w - 1 - i) % 30) ∧ σ 7 ((L + 30 - i) % 30) = τ 82 ((w - 1 - i) % 30) ∧ σ 8 ((L + 30 - i) % 30) = τ 83 ((w - 1 - i) % 30)
def RelD (σ τ : mS) : Prop := ∀ r : Nat, r < 4 → σ 10 r = τ 57 r ∧ σ 11 r = τ 59 r ∧ (τ 59 r = 0 ∨ τ 59 r = 1) ∧ ∀ i : Nat, i < 8 → (i : Int) < (τ 57 r).toInt → σ 12 (8 * r + i) = τ 58 (8 * r + i)
def RelE (σ τ : mS) : Prop := σ 0 4 = τ 53 0 ∧ ∃ f : Nat, f ≤ 5000 ∧ τ 53 0 = nI f
def RelF (σ τ : mS) : Prop := σ 0 3 = τ 69 0 + τ 69 1 + τ 69 2
def RelG (σ τ : mS) : Prop := ∀ t : Nat, t < 3 → σ (14 + 13 * t) 0 = nI t ∧ (τ 67 t = 0 ↔ τ 68 t = 0) ∧ (τ 73 t = 0 ∨ τ 73 t = 1) ∧ (¬ τ 73 t = 0 → τ 74 t ≤ τ 71 t)
def Rel (σ τ : mS) : Prop := RelA σ τ ∧ RelB σ τ ∧ RelC σ τ ∧ RelD σ τ ∧ RelE σ τ ∧ RelF σ τ ∧ RelG σ τ
/-- the parts of the relation but the strands' numbers look at these cells alone -/
theorem RelB.o {σ σ' τ τ' : mS} (h : RelB σ τ) (e2 : σ' 2 = σ 2) (e3 : σ' 3 = σ 3) (e4 : τ' 54 = τ 54) (e5 : τ' 55 = τ 55) : RelB σ' τ' := by
  intro c hc; rw [e2, e3, e4, e5]; exact h c hc
theorem RelC.o {σ σ' τ τ' : mS} (h : RelC σ τ) (e5 : σ' 5 = σ 5) (e6 : σ' 6 = σ 6) (e7 : σ' 7 = σ 7) (e8 : σ' 8 = σ 8) (f1 : τ' 53 28 = τ 53 28) (f2 : τ' 81 = τ 81) (f3 : τ' 82 = τ 82) (f4 : τ' 83 = τ 83) : RelC σ' τ' := by
  obtain ⟨w, L, h1⟩ := h
  exact ⟨w, L, by rw [e5, e6, e7, e8, f1, f2, f3, f4]; exact h1⟩
theorem RelD.o {σ σ' τ τ' : mS} (h : RelD σ τ) (e1 : σ' 10 = σ 10) (e2 : σ' 11 = σ 11) (e3 : σ' 12 = σ 12) (f1 : τ' 57 = τ 57) (f2 : τ' 58 = τ 58) (f3 : τ' 59 = τ 59) : RelD σ' τ' := by
  intro r hr; rw [e1, e2, e3, f1, f2, f3]; exact h r hr
theorem RelE.o {σ σ' τ τ' : mS} (h : RelE σ τ) (e : σ' 0 4 = σ 0 4) (f : τ' 53 0 = τ 53 0) : RelE σ' τ' := by
  unfold RelE; rw [e, f]; exact h
theorem RelF.o {σ σ' τ τ' : mS} (h : RelF σ τ) (e : σ' 0 3 = σ 0 3) (f : τ' 69 = τ 69) : RelF σ' τ' := by
  unfold RelF; rw [e, f]; exact h
theorem RelG.o {σ σ' τ τ' : mS} (h : RelG σ τ) (e : ∀ t, t < 3 → σ' (14 + 13 * t) 0 = σ (14 + 13 * t) 0) (f1 : τ' 67 = τ 67) (f2 : τ' 68 = τ 68) (f3 : τ' 73 = τ 73) (f4 : τ' 74 = τ 74) (f5 : τ' 71 = τ 71) : RelG σ' τ' := by
  intro t ht; rw [e t ht, f1, f2, f3, f4, f5]; exact h t ht
/-- a write on the class's side to a strand's cell, on the reference's to one that only the strands' numbers look at -/
theorem Rel.set {σ τ : mS} (h : Rel σ τ) {p : Nat × Nat × Nat × Nat} (hp : p ∈ tbl) {t i : Nat} (ht : t < 3) (hi : i < p.2.2.2) (v : Int32) (hr : p.2.2.1 ∉ [67, 69, 71, 73, 74]) : Rel (st2 σ (14 + 13 * t + p.1) (p.2.1 + i) v) (st2 τ p.2.2.1 (p.2.2.2 * t + i) v) := by
  obtain ⟨hA, hB, hC, hD, hE, hF, hG⟩ := h
  have hq := tbl_q p hp
  have ne : ∀ z, z ∈ [53, 54, 55, 57, 58, 59, 67, 68, 69, 71, 73, 74, 81, 82, 83] → z ≠ p.2.2.1 := by
    intro z hz e
    rw [← e] at hq hr
    revert hz hq hr
    simp
    omega
  have nl : ∀ z, z < 14 → z ≠ 14 + 13 * t + p.1 := fun z hz => by omega
  refine ⟨hA.set hp ht hi v, hB.o (st2_nq (nl 2 (by decide))) (st2_nq (nl 3 (by decide))) (st2_nq (ne 54 (by decide))) (st2_nq (ne 55 (by decide))), hC.o (st2_nq (nl 5 (by decide))) (st2_nq (nl 6 (by decide))) (st2_nq (nl 7 (by decide))) (st2_nq (nl 8 (by decide))) (by rw [st2_nq (ne 53 (by decide))]) (st2_nq (ne 81 (by decide))) (st2_nq (ne 82 (by decide))) (st2_nq (ne 83 (by decide))), hD.o (st2_nq (nl 10 (by decide))) (st2_nq (nl 11 (by decide))) (st2_nq (nl 12 (by decide))) (st2_nq (ne 57 (by decide))) (st2_nq (ne 58 (by decide))) (st2_nq (ne 59 (by decide))), hE.o (by rw [st2_nq (nl 0 (by decide))]) (by rw [st2_nq (ne 53 (by decide))]), hF.o (by rw [st2_nq (nl 0 (by decide))]) (st2_nq (ne 69 (by decide))), hG.o (fun t' ht' => ?_) (st2_nq (ne 67 (by decide))) (st2_nq (ne 68 (by decide))) (st2_nq (ne 73 (by decide))) (st2_nq (ne 74 (by decide))) (st2_nq (ne 71 (by decide)))⟩
  have c1 : ¬ (14 + 13 * t' = 14 + 13 * t + p.1 ∧ 0 = p.2.1 + i) := by
    intro ⟨a, b⟩
    have b1 := tbl_b p hp
    have e1 : p.1 = 0 := by omega
    obtain ⟨e2, e3, e4⟩ := tbl_k p hp e1
    omega
  show (if _ then v else _) = _
  rw [if_neg c1]
