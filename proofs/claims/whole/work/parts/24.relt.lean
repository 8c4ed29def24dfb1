/-! trys, turns, failures: the numbers that the relation's other parts look at -/
theorem Rel.s_trys {σ τ : mS} (h : Rel σ τ) {t : Nat} (ht : t < 3) (v : Int32) (hv : ¬ τ 73 t = 0 → τ 74 t ≤ v) : Rel (st2 σ (14 + 13 * t) 8 v) (st2 τ 71 t v) := by
  obtain ⟨hA, hB, hC, hD, hE, hF, hG⟩ := h
  have nl : ∀ z, z < 14 → z ≠ 14 + 13 * t := fun z hz => by omega
  refine ⟨by simpa using hA.set (p := (0, 8, 71, 1)) (by decide) ht (i := 0) (by decide) v, hB.o (st2_nq (nl 2 (by decide))) (st2_nq (nl 3 (by decide))) rfl rfl, hC.o (st2_nq (nl 5 (by decide))) (st2_nq (nl 6 (by decide))) (st2_nq (nl 7 (by decide))) (st2_nq (nl 8 (by decide))) rfl rfl rfl rfl, hD.o (st2_nq (nl 10 (by decide))) (st2_nq (nl 11 (by decide))) (st2_nq (nl 12 (by decide))) rfl rfl rfl, hE.o (by rw [st2_nq (nl 0 (by decide))]) rfl, hF.o (by rw [st2_nq (nl 0 (by decide))]) rfl, ?_⟩
  intro t' ht'
  obtain ⟨g1, g2, g3, g4⟩ := hG t' ht'
  refine ⟨by simpa [st2] using g1, g2, g3, fun hne => ?_⟩
  show τ 74 t' ≤ st2 τ 71 t v 71 t'
  by_cases e : t' = t
  · subst e; simpa [st2] using hv hne
  · simpa [st2, e] using g4 hne
theorem Rel.s_turn {σ τ : mS} (h : Rel σ τ) {t : Nat} (ht : t < 3) : Rel (st2 (st2 σ 0 3 (σ 0 3 + 1)) (14 + 13 * t) 13 (σ (14 + 13 * t) 13 + 1)) (st2 τ 69 t (τ 69 t + 1)) := by
  have e := h.r_turns ht
  rw [e]
  obtain ⟨hA, hB, hC, hD, hE, hF, hG⟩ := h
  have nl : ∀ z, z < 14 → z ≠ 14 + 13 * t := fun z hz => by omega
  have e2 : ∀ z, z < 14 → z ≠ 0 → (st2 (st2 σ 0 3 (σ 0 3 + 1)) (14 + 13 * t) 13 (τ 69 t + 1)) z = σ z := fun z hz h0 => by rw [st2_nq (nl z hz), st2_nq h0]
  refine ⟨by simpa using (hA.l (q := 0) 3 (σ 0 3 + 1) (by decide)).set (p := (0, 13, 69, 1)) (by decide) ht (i := 0) (by decide) (τ 69 t + 1), hB.o (e2 2 (by decide) (by decide)) (e2 3 (by decide) (by decide)) rfl rfl, hC.o (e2 5 (by decide) (by decide)) (e2 6 (by decide) (by decide)) (e2 7 (by decide) (by decide)) (e2 8 (by decide) (by decide)) rfl rfl rfl rfl, hD.o (e2 10 (by decide) (by decide)) (e2 11 (by decide) (by decide)) (e2 12 (by decide) (by decide)) rfl rfl rfl, hE.o (by rw [st2_nq (nl 0 (by decide))]; rfl) rfl, ?_, hG.o (fun t' ht' => by rw [show st2 (st2 σ 0 3 (σ 0 3 + 1)) (14 + 13 * t) 13 (τ 69 t + 1) (14 + 13 * t') 0 = st2 σ 0 3 (σ 0 3 + 1) (14 + 13 * t') 0 by simp [st2], st2_nq (by omega)]) rfl rfl rfl rfl rfl⟩
  unfold RelF at hF ⊢
  rw [st2_nq (nl 0 (by decide))]
  show σ 0 3 + 1 = _
  rw [hF]
  have h3 : t = 0 ∨ t = 1 ∨ t = 2 := by omega
  rcases h3 with rfl | rfl | rfl <;> simp only [st2] <;> simp <;> ac_rfl
theorem Rel.s_fails {σ τ : mS} (h : Rel σ τ) (h5 : ¬ τ 53 0 = 5000) : Rel (st2 σ 0 4 (σ 0 4 + 1)) (st2 τ 53 0 (τ 53 0 + 1)) := by
  obtain ⟨hA, hB, hC, hD, ⟨hE1, f, hf, hE2⟩, hF, hG⟩ := h
  refine ⟨(hA.l _ _ (by decide)).r _ _ (by decide), hB.o rfl rfl rfl rfl, hC.o rfl rfl rfl rfl rfl rfl rfl rfl, hD.o rfl rfl rfl rfl rfl rfl, ⟨?_, f + 1, ?_, ?_⟩, hF.o rfl rfl, hG.o (fun t ht => by rw [st2_nq (by omega)]) rfl rfl rfl rfl rfl⟩
  · show σ 0 4 + 1 = τ 53 0 + 1
    rw [hE1]
  · have : f ≠ 5000 := fun e => h5 (by rw [hE2, e]; rfl)
    omega
  · show τ 53 0 + 1 = _
    rw [hE2, nI_1]
theorem Rel.s_failed {σ τ : mS} (h : Rel σ τ) {t : Nat} (ht : t < 3) {v : Int32} (hv : ¬ v = 0) : Rel (st2 (st2 σ (14 + 13 * t) 12 v) (14 + 13 * t + 7) 0 0) (st2 (st2 (st2 τ 68 t 1) 67 t v) 73 t 0) := by
  obtain ⟨hA, hB, hC, hD, hE, hF, hG⟩ := h
  have a1 : RelA (st2 σ (14 + 13 * t) 12 v) (st2 (st2 τ 68 t 1) 67 t v) := by simpa using (hA.r (q := 68) t 1 (by decide)).set (p := (0, 12, 67, 1)) (by decide) ht (i := 0) (by decide) v
  have a2 : RelA (st2 (st2 σ (14 + 13 * t) 12 v) (14 + 13 * t + 7) 0 0) (st2 (st2 (st2 τ 68 t 1) 67 t v) 73 t 0) := by simpa using a1.set (p := (7, 0, 73, 1)) (by decide) ht (i := 0) (by decide) 0
  have e2 : ∀ z, z < 14 → (st2 (st2 σ (14 + 13 * t) 12 v) (14 + 13 * t + 7) 0 0) z = σ z := fun z hz => by rw [st2_nq (by omega), st2_nq (by omega)]
  refine ⟨a2, hB.o (e2 2 (by decide)) (e2 3 (by decide)) rfl rfl, hC.o (e2 5 (by decide)) (e2 6 (by decide)) (e2 7 (by decide)) (e2 8 (by decide)) rfl rfl rfl rfl, hD.o (e2 10 (by decide)) (e2 11 (by decide)) (e2 12 (by decide)) rfl rfl rfl, hE.o (by rw [e2 0 (by decide)]) rfl, hF.o (by rw [e2 0 (by decide)]) rfl, ?_⟩
  intro t' ht'
  obtain ⟨g1, g2, g3, g4⟩ := hG t' ht'
  refine ⟨by rw [st2_nq (by omega)]; simpa [st2] using g1, ?_, ?_, ?_⟩
  · show st2 τ 67 t v 67 t' = 0 ↔ st2 τ 68 t 1 68 t' = 0
    by_cases e : t' = t
    · subst e; simp [st2, hv]
    · simpa [st2, e] using g2
  · show st2 τ 73 t 0 73 t' = 0 ∨ st2 τ 73 t 0 73 t' = 1
    by_cases e : t' = t
    · left; simp [st2, e]
    · simpa [st2, e] using g3
  · intro hne
    show τ 74 t' ≤ τ 71 t'
    by_cases e : t' = t
    · exact absurd (show st2 τ 73 t 0 73 t' = 0 by simp [st2, e]) hne
    · exact g4 (fun z => hne (show st2 τ 73 t 0 73 t' = 0 by simpa [st2, e] using z))
/-- behind an act: alike, the same failure, and the same next place where there is none -/
def PA (t : Nat) (r u : Int32 × mS) : Prop := Rel r.2 u.2 ∧ r.1 = u.2 53 32 ∧ (r.1 = 0 → u.1 = r.2 (14 + 13 * t) 11)
theorem fg_11 {σ : mS} {t : Nat} : fgF σ (14 + 13 * t + 7) 0 (14 + 13 * t) = σ (14 + 13 * t) := by
  funext k
  unfold fgF
  rw [if_neg (by omega)]
theorem fgF_st2 {σ : mS} {q i a k : Nat} {v : Int32} (h2 : a ≠ q + 2) (h4 : a ≠ q + 4) : fgF (st2 σ a k v) q i = st2 (fgF σ q i) a k v := by
  funext q' k'
  by_cases e : q' = a
  · subst e
    simp [fgF, st2, h2, h4]
  · simp [fgF, st2, e]
theorem cpF_st2 {σ : mS} {a b i c k : Nat} {v : Int32} (ha : c ≠ a) (hb : c ≠ b) : cpF (st2 σ c k v) a b i = st2 (cpF σ a b i) c k v := by
  funext q' k'
  by_cases e : q' = c
  · subst e
    simp [cpF, st2, hb]
  · by_cases e2 : q' = b
    · subst e2
      simp [cpF, st2, e, Ne.symm ha]
    · simp [cpF, st2, e, e2]
theorem fgF_cpF {σ : mS} {q i a b j : Nat} (ha2 : a ≠ q + 2) (ha4 : a ≠ q + 4) (hb2 : b ≠ q + 2) (hb4 : b ≠ q + 4) : fgF (cpF σ a b j) q i = cpF (fgF σ q i) a b j := by
  funext q' k'
  by_cases e : q' = b
  · subst e
    simp [cpF, fgF, ha2, ha4, hb2, hb4]
  · simp [cpF, fgF, e]
theorem clr_comm {a k : Nat} {v : Int32} (h7 : a ≠ 77) (h9 : a ≠ 79) : ∀ (n : Nat) (y : Int32) (τ : mS) (t : Int32), (l_X6_clearAtom_2 n y (st2 τ a k v) t).2 = st2 (l_X6_clearAtom_2 n y τ t).2 a k v := by
  intro n
  induction n with
  | zero => intro y τ t; rfl
  | succ n ih =>
    intro y τ t
    rw [l_X6_clearAtom_2.eq_2, l_X6_clearAtom_2.eq_2]
    split
    · rfl
    · rw [st2_comm h7, st2_comm h9, ih]
theorem cpF_nq {σ : mS} {a b i q : Nat} (h : q ≠ b) : cpF σ a b i q = σ q := by
  funext k; simp [cpF, h]
theorem fgF_nq {σ : mS} {q0 i q : Nat} (h2 : q ≠ q0 + 2) (h4 : q ≠ q0 + 4) : fgF σ q0 i q = σ q := by
  funext k; simp [fgF, h2, h4]
theorem l2_q {q : Nat} (h7 : q ≠ 77) (h9 : q ≠ 79) : ∀ (n : Nat) (y : Int32) (τ : mS) (t : Int32), (l_X6_clearAtom_2 n y τ t).2 q = τ q := by
  intro n
  induction n with
  | zero => intro y τ t; rfl
  | succ n ih =>
    intro y τ t
    rw [l_X6_clearAtom_2.eq_2]
    split
    · rfl
    · rw [ih, st2_nq h9, st2_nq h7]
theorem l55_q {q : Nat} (h : q ≠ 76) : ∀ (n : Nat) (y : Int32) (τ : mS) (t : Int32), (l_X6_beginAtom_55 n y τ t).2 q = τ q := by
  intro n
  induction n with
  | zero => intro y τ t; rfl
  | succ n ih =>
    intro y τ t
    rw [l_X6_beginAtom_55.eq_2]
    split
    · rfl
    · rw [ih, st2_nq h]
theorem l121_q {q : Nat} (h : q ≠ 65) : ∀ (n : Nat) (y : Int32) (τ : mS) (t : Int32), (l_X6_endAtom_121 n y τ t).2 q = τ q := by
  intro n
  induction n with
  | zero => intro y τ t; rfl
  | succ n ih =>
    intro y τ t
    rw [l_X6_endAtom_121.eq_2]
    split
    · rfl
    · rw [ih, st2_nq h]
/-- BEGIN -/
theorem PA_begin {σ τ : mS} (h : Rel σ τ) (h0 : τ 53 32 = 0) {t : Nat} (ht : t < 3) (hn : σ (14 + 13 * t) 11 = τ 66 t + 1) : PA t (f_X4_beginAtom σ (14 + 13 * t)) (τ 66 t + 1, (f_X6_beginAtom τ (nI t)).2) := by
  unfold f_X4_beginAtom f_X6_beginAtom
  simp only [ap]
  rw [h.r_open ht, cl3 t ht]
  by_cases c1 : τ 73 t = 0
  · simp only [if_pos c1]
    have k71 : (f_X6_clearAtom (st2 τ 73 t 1) (nI t)).2 71 = τ 71 := by rw [kq_clearAtom (by unfold kq; omega), st2_nq (by decide)]
    have k66 : (f_X6_clearAtom (st2 τ 73 t 1) (nI t)).2 66 = τ 66 := by rw [kq_clearAtom (by unfold kq; omega), st2_nq (by decide)]
    have r1 := (Rel.clr ht 9 0 _ _ (by decide) (by decide) (h.opn ht)).s_beh ht (τ 66 t + 1)
    have r2 := Rel.cpy ht 5 0 _ _ (by decide) (by decide) r1
    have e1 : (f_X0_forget (cp2 (st2 (st2 (st2 σ (14 + 13 * t + 7) 0 1) (14 + 13 * t + 7) 1 (σ (14 + 13 * t) 11)) (14 + 13 * t + 7) 2 (σ (14 + 13 * t) 8)) (14 + 13 * t + 5) (14 + 13 * t + 8) 4) (14 + 13 * t + 7)).2 = cpF (st2 (fgF (st2 (st2 σ (14 + 13 * t + 7) 0 1) (14 + 13 * t + 7) 2 (σ (14 + 13 * t) 8)) (14 + 13 * t + 7) 0) (14 + 13 * t + 7) 1 (τ 66 t + 1)) (14 + 13 * t + 5) (14 + 13 * t + 8) 0 := by
      rw [← hn]
      have e2 : st2 (st2 (st2 σ (14 + 13 * t + 7) 0 1) (14 + 13 * t + 7) 1 (σ (14 + 13 * t) 11)) (14 + 13 * t + 7) 2 (σ (14 + 13 * t) 8) = st2 (st2 (st2 σ (14 + 13 * t + 7) 0 1) (14 + 13 * t + 7) 2 (σ (14 + 13 * t) 8)) (14 + 13 * t + 7) 1 (σ (14 + 13 * t) 11) := by
        funext q' k'
        by_cases a1 : q' = 14 + 13 * t + 7
        · subst a1
          by_cases b1 : k' = 1
          · subst b1; simp [st2]
          · by_cases b2 : k' = 2
            · subst b2; simp [st2]
            · simp [st2, b1, b2]
        · simp [st2, a1]
      have e3 := forget_eq 9 0 (cp2 (st2 (st2 (st2 σ (14 + 13 * t + 7) 0 1) (14 + 13 * t + 7) 1 (σ (14 + 13 * t) 11)) (14 + 13 * t + 7) 2 (σ (14 + 13 * t) 8)) (14 + 13 * t + 5) (14 + 13 * t + 8) 4) (14 + 13 * t + 7) (by decide) (by decide)
      refine e3.trans ?_
      rw [cpF_0, e2, fgF_cpF (by omega) (by omega) (by omega) (by omega), fgF_st2 (by omega) (by omega)]
    have e4 : (f_X6_clearAtom (st2 τ 73 t 1) (nI t)).2 = (l_X6_clearAtom_2 9 (nI 0) (st2 τ 73 t 1) (nI t)).2 := rfl
    refine ⟨?_, ?_, fun _ => ?_⟩
    · show Rel (f_X0_forget _ _).2 _
      rw [e1, k71]
      rw [clr_comm (by decide) (by decide)] at r2
      have e5 : st2 (f_X6_clearAtom (st2 τ 73 t 1) (nI t)).2 74 t (τ 71 t) 66 t = τ 66 t := by rw [st2_nq (by decide), k66]
      rw [e5]
      exact r2
    · have z1 : (f_X6_clearAtom (st2 τ 73 t 1) (nI t)).2 53 = τ 53 := by
        unfold f_X6_clearAtom
        rw [l2_q (by decide) (by decide), st2_nq (by decide)]
      dsimp only
      rw [l55_q (by decide), st2_nq (by decide), st2_nq (by decide), z1, h0]
    · show τ 66 t + 1 = (f_X0_forget _ _).2 (14 + 13 * t) 11
      rw [e1, cpF_nq (by omega), st2_nq (by omega), fgF_nq (by omega) (by omega), st2_nq (by omega), st2_nq (by omega), hn]
  · simp only [if_neg c1]
    exact ⟨h.f32 5, by simp [st2], fun z => absurd z (show ¬ (5 : Int32) = 0 by decide)⟩
