/-! END, on both sides -/
theorem l35_0 : ∀ (n : Nat) (y : Int32) (τ : mS) (t : Int32), (l_X6_endAtom_35 n 0 y τ t).1 = 0 := by
  intro n
  induction n with
  | zero => intro y τ t; rfl
  | succ n ih =>
    intro y τ t
    rw [l_X6_endAtom_35.eq_2]
    split
    · rfl
    · rw [if_pos rfl]; exact ih _ _ _
theorem over {σ τ : mS} (h : Rel σ τ) {t : Nat} (ht : t < 3) : ∀ (n i : Nat), i ≤ 8 → 9 ≤ n + i → (l_X5_isOvertaken_2 n (nI i) σ (14 + 13 * t + 7) = 0 ↔ ¬ (l_X6_endAtom_35 n 1 (nI i) τ (nI t)).1 = 0) := by
  intro n
  induction n with
  | zero => intro i h1 h2; omega
  | succ n ih =>
    intro i h1 h2
    rw [l_X5_isOvertaken_2.eq_2, l_X6_endAtom_35.eq_2]
    by_cases h8 : i = 8
    · subst h8
      rw [if_pos (by decide), if_pos (by decide)]
      exact ⟨fun _ => (by decide : ¬ (1 : Int32) = 0), fun _ => rfl⟩
    · have hi : i < 8 := by omega
      have hrm : σ (14 + 13 * t + 7 + 4) i = τ 77 (8 * t + i) := h.r_rm ht hi
      have hfn : σ (14 + 13 * t + 7 + 5) i = τ 78 (8 * t + i) := h.r_fn ht hi
      rw [if_neg (show ¬ (8 : Int32) ≤ nI i from nI_ge (b := 8) (by omega) (by decide)), if_neg (show ¬ (8 : Int32) ≤ nI i from nI_ge (b := 8) (by omega) (by decide)), if_neg (show ¬ (1 : Int32) = 0 by decide), ix8 ht hi, cl8 i hi, nI_1]
      by_cases c1 : τ 77 (8 * t + i) = 0
      · rw [if_pos ((hasRead_eq _ hi).mpr (by rw [hrm]; exact c1)), if_pos c1]
        exact ih (i + 1) (by omega) (by omega)
      · rw [if_neg (fun z => c1 (by rw [← hrm]; exact (hasRead_eq _ hi).mp z)), if_neg c1]
        by_cases c2 : τ 55 i = 0
        · rw [if_pos ((isLazy_iff h.2.1 hi).mpr (fun z => z c2)), if_pos c2, shown_eq h.2.1 hi, firstNumber_eq _ hi, hfn]
          by_cases c3 : τ 54 i = τ 78 (8 * t + i)
          · rw [if_pos c3, if_pos c3]; exact ih (i + 1) (by omega) (by omega)
          · rw [if_neg c3, if_neg c3, l35_0]
            exact ⟨fun z => absurd z (by decide), fun z => absurd rfl z⟩
        · rw [if_neg (fun z => (isLazy_iff h.2.1 hi).mp z c2), if_neg c2, l35_0]
          exact ⟨fun z => absurd z (by decide), fun z => absurd rfl z⟩
theorem count_comm {σ : mS} {a k : Nat} {w : Int32} (ha : 14 ≤ a) (t : Int32) {c : Nat} (hc : c < 8) (v : Int32) : (f_X1_count (st2 σ a k w) t (nI c) v).2 = st2 (f_X1_count σ t (nI c) v).2 a k w := by
  rw [count_eq hc, count_eq hc]
  have e1 : st2 (st2 (st2 σ a k w) 2 c v) 3 c (-1) = st2 (st2 (st2 σ 2 c v) 3 c (-1)) a k w := by
    rw [st2_comm (show a ≠ 2 by omega), st2_comm (show a ≠ 3 by omega)]
  rw [e1]
  generalize st2 (st2 σ 2 c v) 3 c (-1) = s
  unfold f_X2_add
  have e5 : st2 s a k w 5 = s 5 := st2_nq (by omega)
  rw [e5]
  (repeat' split) <;> (show st2 (st2 (st2 (st2 (st2 (st2 s a k w) _ _ _) _ _ _) _ _ _) _ _ _) _ _ _ = _; rw [st2_comm (show a ≠ 5 by omega), st2_comm (show a ≠ 6 by omega), st2_comm (show a ≠ 7 by omega), st2_comm (show a ≠ 8 by omega), st2_comm (show a ≠ 5 by omega)])
theorem endloop {t : Nat} (ht : t < 3) : ∀ (n i : Nat) (σ τ : mS) (b : Nat), i ≤ 8 → 9 ≤ n + i → Rel (st2 σ (14 + 13 * t + 7) 0 0) τ → Wr τ b → b + n < 2 ^ 30 →
    (l_X5_endAtom_41 n (nI i) σ (14 + 13 * t)).1 = 0 ∧ Rel (l_X5_endAtom_41 n (nI i) σ (14 + 13 * t)).2 (l_X6_endAtom_168 n (nI i) τ (nI t)).2 ∧ (l_X6_endAtom_168 n (nI i) τ (nI t)).2 53 32 = τ 53 32 ∧ (l_X5_endAtom_41 n (nI i) σ (14 + 13 * t)).2 (14 + 13 * t) = σ (14 + 13 * t) := by
  intro n
  induction n with
  | zero => intro i σ τ b h1 h2; omega
  | succ n ih =>
    intro i σ τ b h1 h2 h hw hb
    rw [l_X5_endAtom_41.eq_2, l_X6_endAtom_168.eq_2]
    by_cases h8 : i = 8
    · subst h8
      rw [if_pos (by decide), if_pos (by decide)]
      exact ⟨rfl, h, rfl, st2_nq (by omega)⟩
    · have hi : i < 8 := by omega
      have hpm : σ (14 + 13 * t + 7 + 2) i = τ 79 (8 * t + i) := by
        have z := h.r_pm ht hi
        rw [st2_nq (by omega)] at z
        exact z
      have hpn : σ (14 + 13 * t + 7 + 3) i = τ 80 (8 * t + i) := by
        have z := h.r_pn ht hi
        rw [st2_nq (by omega)] at z
        exact z
      have hn0 : σ (14 + 13 * t) 0 = nI t := by
        have z := (h.2.2.2.2.2.2 t ht).1
        rw [st2_nq (by omega)] at z
        exact z
      rw [if_neg (show ¬ (8 : Int32) ≤ nI i from nI_ge (b := 8) (by omega) (by decide)), if_neg (show ¬ (8 : Int32) ≤ nI i from nI_ge (b := 8) (by omega) (by decide)), ix8 ht hi, nI_1]
      by_cases c1 : τ 79 (8 * t + i) = 0
      · rw [if_pos ((hasPut_eq _ hi).mpr (by rw [hpm]; exact c1)), if_pos c1]
        exact ih (i + 1) _ _ b (by omega) (by omega) h hw (by omega)
      · rw [if_neg (fun z => c1 (by rw [← hpm]; exact (hasPut_eq _ hi).mp z)), if_neg c1]
        simp only [ap]
        rw [putNumber_eq _ hi, hpn, hn0]
        have h2' := h.write hw (by omega) (nI t) hi (τ 80 (8 * t + i))
        rw [count_comm (by omega) _ hi] at h2'
        obtain ⟨r1, r2, r3, r4⟩ := ih (i + 1) _ _ (b + 1) (by omega) (by omega) h2' (Wr_write hw _ _ _) (by omega)
        exact ⟨r1, r2, by rw [r3, write_32], by rw [r4, count_14 _ _ _ (by omega)]⟩
/-- END -/
theorem PA_end {σ τ : mS} (h : Rel σ τ) {b : Nat} (hw : Wr τ b) (hb : b < 2 ^ 29) (h0 : τ 53 32 = 0) {t : Nat} (ht : t < 3) (hn : σ (14 + 13 * t) 11 = τ 66 t + 1) : PA t (f_X5_endAtom σ (14 + 13 * t)) (f_X6_endAtom τ (nI t)) := by
  unfold f_X5_endAtom f_X6_endAtom
  simp only [ap]
  rw [h.r_open ht, h.r_trys ht, h.r_ahead ht, cl3 t ht]
  by_cases c1 : τ 73 t = 0
  · rw [if_pos c1, if_pos c1]
    exact ⟨h.f32 5, by simp [st2], fun z => absurd z (show ¬ (5 : Int32) = 0 by decide)⟩
  rw [if_neg c1, if_neg c1]
  by_cases c2 : τ 71 t ≤ τ 74 t
  · rw [if_pos c2, if_pos c2]
    have ho := over h ht 9 0 (by decide) (by decide)
    by_cases c3 : (l_X6_endAtom_35 9 (1 : Int32) (nI 0) τ (nI t)).1 = 0
    · have c4 : ¬ f_X5_isOvertaken σ (14 + 13 * t + 7) = 0 := fun z => (ho.mp z) c3
      rw [if_neg c4]
      have c3' : (l_X6_endAtom_35 9 (1 : Int32) (0 : Int32) τ (nI t)).1 = 0 := c3
      rw [if_pos c3']
      have r0 : Rel (st2 (st2 σ (14 + 13 * t) 14 (σ (14 + 13 * t) 14 + 1)) (14 + 13 * t) 11 (σ (14 + 13 * t + 7) 1)) (st2 τ 70 t (τ 70 t + 1)) := by
        rw [h.r_anew ht]
        exact (h.s_anew ht _).n11 ht _
      have r1 := Rel.clr ht 9 0 _ _ (by decide) (by decide) r0
      have r2 := Rel.cpb ht 5 0 _ _ (by decide) (by decide) r1
      have e1 : (f_X4_beginAnew σ (14 + 13 * t)).2 = cpF (fgF (st2 (st2 σ (14 + 13 * t) 14 (σ (14 + 13 * t) 14 + 1)) (14 + 13 * t) 11 (σ (14 + 13 * t + 7) 1)) (14 + 13 * t + 7) 0) (14 + 13 * t + 8) (14 + 13 * t + 5) 0 := by
        simp only [f_X4_beginAnew, ap]
        have e3 := forget_eq 9 0 (cp2 (st2 (st2 σ (14 + 13 * t) 14 (σ (14 + 13 * t) 14 + 1)) (14 + 13 * t) 11 (σ (14 + 13 * t + 7) 1)) (14 + 13 * t + 8) (14 + 13 * t + 5) 4) (14 + 13 * t + 7) (by decide) (by decide)
        refine e3.trans ?_
        rw [cpF_0, fgF_cpF (by omega) (by omega) (by omega) (by omega)]
      have f75 : (l_X6_endAtom_121 5 (nI 0) (l_X6_clearAtom_2 9 (nI 0) (st2 τ 70 t (τ 70 t + 1)) (nI t)).2 (nI t)).2 75 = τ 75 := by
        rw [l121_q (by decide), l2_q (by decide) (by decide), st2_nq (by decide)]
      have f53 : (l_X6_endAtom_121 5 (nI 0) (l_X6_clearAtom_2 9 (nI 0) (st2 τ 70 t (τ 70 t + 1)) (nI t)).2 (nI t)).2 53 = τ 53 := by
        rw [l121_q (by decide), l2_q (by decide) (by decide), st2_nq (by decide)]
      refine ⟨?_, ?_, fun _ => ?_⟩
      · dsimp only
        rw [e1]; exact r2
      · dsimp only
        exact (show (0 : Int32) = (l_X6_endAtom_121 5 (nI 0) (l_X6_clearAtom_2 9 (nI 0) (st2 τ 70 t (τ 70 t + 1)) (nI t)).2 (nI t)).2 53 32 by rw [f53, h0])
      · dsimp only
        rw [e1, cpF_nq (by omega), fgF_nq (by omega) (by omega)]
        have e6 : st2 (st2 σ (14 + 13 * t) 14 (σ (14 + 13 * t) 14 + 1)) (14 + 13 * t) 11 (σ (14 + 13 * t + 7) 1) (14 + 13 * t) 11 = τ 75 t := by
          rw [h.r_beh ht]; simp [st2]
        rw [e6]
        exact congrFun f75 t
    · have c4 : f_X5_isOvertaken σ (14 + 13 * t + 7) = 0 := ho.mpr c3
      rw [if_pos c4]
      have c3' : ¬ (l_X6_endAtom_35 9 (1 : Int32) (0 : Int32) τ (nI t)).1 = 0 := c3
      rw [if_neg c3']
      obtain ⟨r1, r2, r3, r4⟩ := endloop ht 9 0 σ (st2 τ 73 t 0) b (by decide) (by decide) (h.shut ht) (hw.o rfl) (by omega)
      have f66 : (l_X6_endAtom_168 9 (nI 0) (st2 τ 73 t 0) (nI t)).2 66 = τ 66 := by
        rw [kq_l168 (by unfold kq; omega), st2_nq (by decide)]
      refine ⟨r2, ?_, fun _ => ?_⟩
      · exact r1.trans (h0.symm.trans r3.symm)
      · show (l_X6_endAtom_168 9 (nI 0) (st2 τ 73 t 0) (nI t)).2 66 t + 1 = (l_X5_endAtom_41 9 (nI 0) σ (14 + 13 * t)).2 (14 + 13 * t) 11
        rw [f66, r4, hn]
  · rw [if_neg c2, if_neg c2]
    exact ⟨h.f32 5, by simp [st2], fun z => absurd z (show ¬ (5 : Int32) = 0 by decide)⟩
