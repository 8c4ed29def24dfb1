/-! the reference's invariants last through an act, a failure, a turn -/
theorem RI.s {b : Nat} {σ : mS} (h : RI b σ) (q k : Nat) (v : Int32) (hq : q ∉ [53, 54, 55, 57, 60, 61, 62, 63, 64, 66, 71, 72, 75]) : RI b (st2 σ q k v) := by
  refine h.o (fun q' hq' => st2_nq (fun e => hq (by rw [← e]; simp at hq' ⊢; omega))) ?_
  have h1 : (53 : Nat) ≠ q := fun e => hq (by rw [← e]; decide)
  simp [st2, h1]
theorem RI.f {b : Nat} {σ : mS} (h : RI b σ) (k : Nat) (v : Int32) (hk : k ≠ 28) : RI b (st2 σ 53 k v) := by
  refine h.o (fun q' hq' => st2_nq (fun e => by subst e; revert hq'; decide)) ?_
  simp [st2, Ne.symm hk]
theorem RI_note {b : Nat} {σ : mS} (h : RI b σ) (t c v : Int32) : RI (b + 1) (f_X6_note σ t c v).2 := by
  obtain ⟨w, h1, h2⟩ := h.2.2
  have hh : RI (b + 1) σ := h.mono (by omega)
  refine ⟨?_, ?_, w + 1, by omega, by rw [note_w, h2, nI_1]⟩
  · have h3 := (((((hh.s 81 ((σ 53 28) - (σ 53 28) / 30 * 30).toNatClampNeg t (by decide)).s 82 ((σ 53 28) - (σ 53 28) / 30 * 30).toNatClampNeg c (by decide)).s 83 ((σ 53 28) - (σ 53 28) / 30 * 30).toNatClampNeg v (by decide)).f 0 0 (by decide)))
    have e : ∀ q, q ≠ 53 ∧ q ≠ 81 ∧ q ≠ 82 ∧ q ≠ 83 → (f_X6_note σ t c v).2 q = σ q := fun q hq => note_q hq σ t c v
    obtain ⟨a1, a2, a3, a4, a5, a6, a7⟩ := h.1
    refine ⟨?_, ?_, ?_, ?_, ?_, ?_, ?_⟩
    · rw [e 60 (by decide)]; exact a1
    · rw [e 66 (by decide)]; exact a2
    · rw [e 71 (by decide)]; exact a3
    · rw [e 72 (by decide)]; exact a4
    · rw [e 75 (by decide)]; exact a5
    · rw [e 57 (by decide)]; exact a6
    · rw [e 60 (by decide), e 61 (by decide), e 62 (by decide), e 63 (by decide), e 64 (by decide)]; exact a7
  · exact h.2.1.o (note_q (by decide) σ t c v) (note_q (by decide) σ t c v)
theorem RI_set {b : Nat} {σ : mS} (h : RI b σ) (c : Nat) (v : Int32) : RI b (st2 (st2 σ 54 c v) 55 c 0) := by
  obtain ⟨⟨a1, a2, a3, a4, a5, a6, a7⟩, hL, hw⟩ := h
  refine ⟨⟨a1, a2, a3, a4, a5, a6, a7⟩, ?_, hw⟩
  intro k hk hn
  by_cases e : k = c
  · exact absurd (by simp [st2, e]) hn
  · have e1 : st2 (st2 σ 54 c v) 55 c 0 55 k = σ 55 k := by simp [st2, e]
    have e2 : st2 (st2 σ 54 c v) 55 c 0 54 k = σ 54 k := by simp [st2, e]
    rw [e1] at hn; rw [e2]; exact hL k hk hn
theorem RI_write {b : Nat} {σ : mS} (h : RI b σ) (t c v : Int32) : RI (b + 1) (f_X6_write σ t c v).2 := by
  simp only [f_X6_write, ap]
  exact RI_note (RI_set h _ _) _ _ _
theorem RI_l11 {b : Nat} : ∀ (n : Nat) (y : Int32) (σ : mS), RI b σ → RI b (l_X6_readPlain_11 n y σ).2 := by
  intro n
  induction n with
  | zero => intro y σ h; exact h
  | succ n ih =>
    intro y σ h
    rw [l_X6_readPlain_11.eq_2]
    split
    · exact h
    · exact ih _ _ (h.s _ _ _ (by decide))
theorem RI_l32 {b : Nat} : ∀ (n : Nat) (a c d : Int32) (σ : mS), RI b σ → RI b (l_X6_readPlain_32 n a c d σ).2.2.2 := by
  intro n
  induction n with
  | zero => intro a c d σ h; exact h
  | succ n ih =>
    intro a c d σ h
    rw [l_X6_readPlain_32.eq_2]
    (repeat' split) <;> first | exact h | exact ih _ _ _ _ ((h.s _ _ _ (by decide)).s _ _ _ (by decide))
theorem RI_l114 : ∀ (n : Nat) (a c : Int32) (σ : mS) (t : Int32) (b : Nat), RI b σ → RI (b + n) (l_X6_readPlain_114 n a c σ t).2 := by
  intro n
  induction n with
  | zero => intro a c σ t b h; exact h
  | succ n ih =>
    intro a c σ t b h
    rw [l_X6_readPlain_114.eq_2]
    split
    · exact h.mono (by omega)
    · simp only [ap]
      exact (ih _ _ _ _ _ (RI_write h _ _ _)).mono (by omega)
theorem RI_readPlain {b : Nat} {σ : mS} (h : RI b σ) (t c : Int32) : RI (b + 10) (f_X6_readPlain σ t c).2 := by
  simp only [f_X6_readPlain, ap]
  have h1 : RI b (l_X6_readPlain_32 10 (0 : Int32) c (0 : Int32) (l_X6_readPlain_11 9 (0 : Int32) σ).2).2.2.2 := RI_l32 _ _ _ _ _ (RI_l11 _ _ _ h)
  split
  · exact RI_l114 10 _ _ _ _ _ h1
  · exact (h1.f _ _ (by decide)).mono (by omega)
theorem RI_read {b : Nat} {σ : mS} (h : RI b σ) (t c : Int32) : RI (b + 10) (f_X6_read σ t c).2 := by
  unfold f_X6_read
  simp only [ap]
  split
  · exact RI_readPlain h _ _
  · split
    · split
      · split
        · exact ((h.s _ _ _ (by decide)).s _ _ _ (by decide)).mono (by omega)
        · exact h.mono (by omega)
      · exact (h.f _ _ (by decide)).mono (by omega)
    · exact h.mono (by omega)
theorem RI_lay {b : Nat} {σ : mS} (h : RI b σ) (t c v : Int32) : RI (b + 1) (f_X6_lay σ t c v).2 := by
  unfold f_X6_lay
  simp only [ap]
  split
  · exact RI_write h _ _ _
  · exact ((h.s _ _ _ (by decide)).s _ _ _ (by decide)).mono (by omega)
theorem RI_l2 {b : Nat} : ∀ (n : Nat) (y : Int32) (σ : mS) (t : Int32), RI b σ → RI b (l_X6_clearAtom_2 n y σ t).2 := by
  intro n
  induction n with
  | zero => intro y σ t h; exact h
  | succ n ih =>
    intro y σ t h
    rw [l_X6_clearAtom_2.eq_2]
    split
    · exact h
    · exact ih _ _ _ ((h.s _ _ _ (by decide)).s _ _ _ (by decide))
theorem RI_clearAtom {b : Nat} {σ : mS} (h : RI b σ) (t : Int32) : RI b (f_X6_clearAtom σ t).2 := RI_l2 _ _ _ _ h
theorem RI_l55 {b : Nat} : ∀ (n : Nat) (y : Int32) (σ : mS) (t : Int32), RI b σ → RI b (l_X6_beginAtom_55 n y σ t).2 := by
  intro n
  induction n with
  | zero => intro y σ t h; exact h
  | succ n ih =>
    intro y σ t h
    rw [l_X6_beginAtom_55.eq_2]
    split
    · exact h
    · exact ih _ _ _ (h.s _ _ _ (by decide))
/-- a cell of the kind 'numbers below n' set at a place -/
theorem st2_all {σ : mS} {q k : Nat} {v : Int32} {N : Nat} {P : Int32 → Prop} (h : ∀ t, t < N → P (σ q t)) (hv : P v) : ∀ t, t < N → P (st2 σ q k v q t) := by
  intro t ht
  by_cases e : t = k
  · simpa [st2, e] using hv
  · simpa [st2, e] using h t ht
theorem RI.s75 {b : Nat} {σ : mS} (h : RI b σ) (k : Nat) {v : Int32} (hv : vp_in v 25) : RI b (st2 σ 75 k v) := by
  obtain ⟨⟨a1, a2, a3, a4, a5, a6, a7⟩, hL, hw⟩ := h
  exact ⟨⟨a1, a2, a3, a4, st2_all (P := fun x => vp_in x 25) a5 hv, a6, a7⟩, hL, hw⟩
theorem RI.s66 {b : Nat} {σ : mS} (h : RI b σ) (k : Nat) {v : Int32} (hv : vp_in v 25) : RI b (st2 σ 66 k v) := by
  obtain ⟨⟨a1, a2, a3, a4, a5, a6, a7⟩, hL, hw⟩ := h
  exact ⟨⟨a1, st2_all (P := fun x => vp_in x 25) a2 hv, a3, a4, a5, a6, a7⟩, hL, hw⟩
theorem RI.s71 {b : Nat} {σ : mS} (h : RI b σ) (k : Nat) {v : Int32} (hv : vp_in v 5) : RI b (st2 σ 71 k v) := by
  obtain ⟨⟨a1, a2, a3, a4, a5, a6, a7⟩, hL, hw⟩ := h
  exact ⟨⟨a1, a2, st2_all (P := fun x => vp_in x 5) a3 hv, a4, a5, a6, a7⟩, hL, hw⟩
theorem RI.s72 {b : Nat} {σ : mS} (h : RI b σ) (k : Nat) {v : Int32} (hv : vp_in v 25) : RI b (st2 σ 72 k v) := by
  obtain ⟨⟨a1, a2, a3, a4, a5, a6, a7⟩, hL, hw⟩ := h
  exact ⟨⟨a1, a2, a3, st2_all (P := fun x => vp_in x 25) a4 hv, a5, a6, a7⟩, hL, hw⟩
theorem RI.s57 {b : Nat} {σ : mS} (h : RI b σ) (k : Nat) {v : Int32} (hv : v = -1 ∨ vp_in v 9) : RI b (st2 σ 57 k v) := by
  obtain ⟨⟨a1, a2, a3, a4, a5, a6, a7⟩, hL, hw⟩ := h
  exact ⟨⟨a1, a2, a3, a4, a5, st2_all (P := fun x => x = -1 ∨ vp_in x 9) a6 hv, a7⟩, hL, hw⟩
theorem RI.lz {b : Nat} {σ : mS} (h : RI b σ) (c : Nat) {v : Int32} (hv : vp_in v 8) (w : Int32) : RI b (st2 (st2 σ 54 c v) 55 c w) := by
  obtain ⟨⟨a1, a2, a3, a4, a5, a6, a7⟩, hL, hw⟩ := h
  refine ⟨⟨a1, a2, a3, a4, a5, a6, a7⟩, ?_, hw⟩
  intro k hk hn
  by_cases e : k = c
  · have e2 : st2 (st2 σ 54 c v) 55 c w 54 k = v := by simp [st2, e]
    rw [e2]; exact hv
  · have e1 : st2 (st2 σ 54 c v) 55 c w 55 k = σ 55 k := by simp [st2, e]
    have e2 : st2 (st2 σ 54 c v) 55 c w 54 k = σ 54 k := by simp [st2, e]
    rw [e1] at hn; rw [e2]; exact hL k hk hn
theorem vin_up {x : Int32} {n : Nat} (h : vp_in x n) (hn : n < 2 ^ 30) : vp_in (x + 1) (n + 1) := by
  obtain ⟨j, hj, rfl⟩ := vp_in_of h (by omega)
  rw [nI_1]; exact vp_in_nI (by omega) (by omega)
theorem RI_beginAtom {b : Nat} {σ : mS} (h : RI b σ) (t : Int32) (hp : vp_in (σ 66 t.toNatClampNeg) 24) : RI b (f_X6_beginAtom σ t).2 := by
  unfold f_X6_beginAtom
  simp only [ap]
  split
  · refine RI_l55 _ _ _ _ (RI.s75 ((RI_clearAtom (h.s _ _ _ (by decide)) t).s _ _ _ (by decide)) _ ?_)
    have e : (st2 (f_X6_clearAtom (st2 σ 73 t.toNatClampNeg (1 : Int32)) t).2 74 t.toNatClampNeg ((f_X6_clearAtom (st2 σ 73 t.toNatClampNeg (1 : Int32)) t).2 71 t.toNatClampNeg)) 66 = σ 66 := by
      rw [st2_nq (by decide), kq_clearAtom (by unfold kq; omega), st2_nq (by decide)]
    rw [e]
    exact vin_up hp (by decide)
  · exact h.f _ _ (by decide)
theorem RI_l121 {b : Nat} : ∀ (n : Nat) (y : Int32) (σ : mS) (t : Int32), RI b σ → RI b (l_X6_endAtom_121 n y σ t).2 := by
  intro n
  induction n with
  | zero => intro y σ t h; exact h
  | succ n ih =>
    intro y σ t h
    rw [l_X6_endAtom_121.eq_2]
    split
    · exact h
    · exact ih _ _ _ (h.s _ _ _ (by decide))
theorem RI_l168 : ∀ (n : Nat) (y : Int32) (σ : mS) (t : Int32) (b : Nat), RI b σ → RI (b + n) (l_X6_endAtom_168 n y σ t).2 := by
  intro n
  induction n with
  | zero => intro y σ t b h; exact h
  | succ n ih =>
    intro y σ t b h
    rw [l_X6_endAtom_168.eq_2]
    split
    · exact h.mono (by omega)
    · split
      · exact (ih _ _ _ _ h).mono (by omega)
      · simp only [ap]
        exact (ih _ _ _ _ (RI_write h _ _ _)).mono (by omega)
theorem RI_endAtom {b : Nat} {σ : mS} (h : RI b σ) (t : Int32) (ht : vp_in t 3) (hp : vp_in (σ 66 t.toNatClampNeg) 24) : RI (b + 10) (f_X6_endAtom σ t).2 ∧ ((f_X6_endAtom σ t).2 53 32 = 0 → vp_in (f_X6_endAtom σ t).1 25) := by
  have k66 : kq 66 := by unfold kq; omega
  unfold f_X6_endAtom
  simp only [ap]
  by_cases c1 : σ 73 t.toNatClampNeg = 0
  · rw [if_pos c1]
    exact ⟨(h.f _ _ (by decide)).mono (by omega), fun e => absurd e (by simp [st2])⟩
  rw [if_neg c1]
  by_cases c2 : σ 71 t.toNatClampNeg ≤ σ 74 t.toNatClampNeg
  · rw [if_pos c2]
    by_cases c3 : (l_X6_endAtom_35 9 (1 : Int32) (0 : Int32) σ t).1 = 0
    · rw [if_pos c3]
      have h1 := RI_l121 5 (0 : Int32) _ t (RI_clearAtom (h.s 70 t.toNatClampNeg (σ 70 t.toNatClampNeg + 1) (by decide)) t)
      exact ⟨h1.mono (by omega), fun _ => h1.1.2.2.2.2.1 _ (vin_lt ht)⟩
    · rw [if_neg c3]
      have h1 := RI_l168 9 (0 : Int32) _ t b (h.s 73 t.toNatClampNeg (0 : Int32) (by decide))
      refine ⟨h1.mono (by omega), fun _ => ?_⟩
      rw [kq_l168 k66, st2_nq (by decide)]
      exact vin_up hp (by decide)
  · rw [if_neg c2]
    exact ⟨(h.f _ _ (by decide)).mono (by omega), fun e => absurd e (by simp [st2])⟩
theorem RI_give {b : Nat} {σ : mS} (h : RI b σ) (t i v : Int32) : RI b (f_X6_give σ t i v).2 := by
  unfold f_X6_give
  split
  · exact h.s _ _ _ (by decide)
  · exact h
theorem RI_checkItem {b : Nat} {σ : mS} (h : RI b σ) (r i : Int32) : RI b (f_X6_checkItem σ r i).2 := by
  unfold f_X6_checkItem
  (repeat' split) <;> exact h.f _ _ (by decide)
theorem RI_compute {b : Nat} {σ : mS} (h : RI b σ) (t k x a c : Int32) : RI b (f_X6_compute σ t k x a c).2 := by
  unfold f_X6_compute
  simp only [ap]
  split
  · split
    · exact h.f _ _ (by decide)
    · (repeat' split) <;> exact RI_give h _ _ _
  · (repeat' split) <;> exact RI_give h _ _ _
theorem RI_swap {b : Nat} {σ : mS} (h : RI b σ) (t c y z : Int32) : RI (b + 11) (f_X6_swap σ t c y z).2 := by
  unfold f_X6_swap
  simp only [ap]
  have h1 := RI_read h t c
  split
  · split
    · exact (RI_give (RI_lay h1 _ _ _) _ _ _).mono (by omega)
    · exact (RI_give h1 _ _ _).mono (by omega)
  · exact h1.mono (by omega)
theorem RI_l200 {b : Nat} : ∀ (n : Nat) (y : Int32) (σ : mS) (x p : Int32), RI b σ → RI b (l_X6_rows_200 n y σ x p).2 := by
  intro n
  induction n with
  | zero => intro y σ x p h; exact h
  | succ n ih =>
    intro y σ x p h
    rw [l_X6_rows_200.eq_2]
    split
    · exact h
    · exact ih _ _ _ _ (h.s _ _ _ (by decide))
theorem RI_rows {b : Nat} {σ : mS} (h : RI b σ) (t k x y z : Int32) (hR : ¬ f_X6_fits k x y z = 0) (hk5 : k = 7 ∨ k = 8 ∨ k = 17 ∨ k = 18 ∨ k = 19) : RI b (f_X6_rows σ t k x y z).2 := by
  unfold f_X6_rows
  simp only [ap]
  by_cases c7 : k = 7
  · rw [if_pos c7]
    split
    · exact RI_give (RI_checkItem h _ _) _ _ _
    · exact RI_checkItem h _ _
  rw [if_neg c7]
  by_cases c8 : k = 8
  · rw [if_pos c8]
    have h1 := RI_checkItem h x (f_X6_r σ t y)
    (repeat' split) <;> first | exact (h1.f _ _ (by decide)).s _ _ _ (by decide) | exact h1.f _ _ (by decide)
  rw [if_neg c8]
  by_cases c17 : k = 17
  · rw [if_pos c17]
    by_cases d1 : 0 ≤ f_X6_r σ t y
    · rw [if_pos d1]
      by_cases d2 : f_X6_r σ t y ≤ 8
      · rw [if_pos d2]
        refine RI_l200 _ _ _ _ _ (RI.s (RI.s57 (h.f _ _ (by decide)) _ (Or.inr ?_)) _ _ _ (by decide))
        rw [i32_le, Int32.toInt_zero] at d1
        rw [i32_le] at d2
        have h8 : (8 : Int32).toInt = 8 := by decide
        exact vp_in_iff.mpr ⟨d1, by omega⟩
      · rw [if_neg d2]; exact h.f _ _ (by decide)
    · rw [if_neg d1]; exact h.f _ _ (by decide)
  rw [if_neg c17]
  by_cases c18 : k = 18
  · rw [if_pos c18]
    (repeat' split) <;> exact (h.f _ _ (by decide)).s _ _ _ (by decide)
  rw [if_neg c18]
  exact h.lz _ (fits19 hR hk5 c7 c8 c17 c18).2 _
