/-! a strand's numbers, read and written on both sides -/
theorem cl3 : ∀ t : Nat, t < 3 → (nI t).toNatClampNeg = t := by decide +kernel
theorem cl4 : ∀ i : Nat, i < 4 → (nI i).toNatClampNeg = i := by decide +kernel
theorem ixK {k t i : Nat} (hk : k < 100) (ht : t < 3) (hi : i < 100) : (nI k * nI t + nI i).toNatClampNeg = k * t + i := by
  rw [show nI k * nI t = nI (k * t) from pk_mul k t, nI_add]
  exact nI_clamp (by have := Nat.mul_le_mul_left k (show t ≤ 3 by omega); omega)
theorem ix4 {t i : Nat} (ht : t < 3) (hi : i < 4) : ((4 : Int32) * nI t + nI i).toNatClampNeg = 4 * t + i := ixK (k := 4) (by decide) ht (by omega)
theorem ix8 {t i : Nat} (ht : t < 3) (hi : i < 8) : ((8 : Int32) * nI t + nI i).toNatClampNeg = 8 * t + i := ixK (k := 8) (by decide) ht (by omega)
theorem ix24 {t i : Nat} (ht : t < 3) (hi : i < 24) : ((24 : Int32) * nI t + nI i).toNatClampNeg = 24 * t + i := ixK (k := 24) (by decide) ht (by omega)
theorem Rel.r_acts {σ τ : mS} (h : Rel σ τ) {t : Nat} (ht : t < 3) : σ (14 + 13 * t) 5 = τ 60 t := by simpa using h.1 (0, 5, 60, 1) (by decide) t 0 ht (by decide)
theorem Rel.s_acts {σ τ : mS} (h : Rel σ τ) {t : Nat} (ht : t < 3) (v : Int32) : Rel (st2 σ (14 + 13 * t) 5 v) (st2 τ 60 t v) := by simpa using h.set (p := (0, 5, 60, 1)) (by decide) ht (i := 0) (by decide) v (by decide)
theorem Rel.r_kinds {σ τ : mS} (h : Rel σ τ) {t : Nat} (ht : t < 3) {i : Nat} (hi : i < 24) : σ (14 + 13 * t + 1) i = τ 61 (24 * t + i) := by simpa using h.1 (1, 0, 61, 24) (by decide) t i ht hi
theorem Rel.s_kinds {σ τ : mS} (h : Rel σ τ) {t : Nat} (ht : t < 3) {i : Nat} (hi : i < 24) (v : Int32) : Rel (st2 σ (14 + 13 * t + 1) i v) (st2 τ 61 (24 * t + i) v) := by simpa using h.set (p := (1, 0, 61, 24)) (by decide) ht hi v (by decide)
theorem Rel.r_xs {σ τ : mS} (h : Rel σ τ) {t : Nat} (ht : t < 3) {i : Nat} (hi : i < 24) : σ (14 + 13 * t + 2) i = τ 62 (24 * t + i) := by simpa using h.1 (2, 0, 62, 24) (by decide) t i ht hi
theorem Rel.s_xs {σ τ : mS} (h : Rel σ τ) {t : Nat} (ht : t < 3) {i : Nat} (hi : i < 24) (v : Int32) : Rel (st2 σ (14 + 13 * t + 2) i v) (st2 τ 62 (24 * t + i) v) := by simpa using h.set (p := (2, 0, 62, 24)) (by decide) ht hi v (by decide)
theorem Rel.r_ys {σ τ : mS} (h : Rel σ τ) {t : Nat} (ht : t < 3) {i : Nat} (hi : i < 24) : σ (14 + 13 * t + 3) i = τ 63 (24 * t + i) := by simpa using h.1 (3, 0, 63, 24) (by decide) t i ht hi
theorem Rel.s_ys {σ τ : mS} (h : Rel σ τ) {t : Nat} (ht : t < 3) {i : Nat} (hi : i < 24) (v : Int32) : Rel (st2 σ (14 + 13 * t + 3) i v) (st2 τ 63 (24 * t + i) v) := by simpa using h.set (p := (3, 0, 63, 24)) (by decide) ht hi v (by decide)
theorem Rel.r_zs {σ τ : mS} (h : Rel σ τ) {t : Nat} (ht : t < 3) {i : Nat} (hi : i < 24) : σ (14 + 13 * t + 4) i = τ 64 (24 * t + i) := by simpa using h.1 (4, 0, 64, 24) (by decide) t i ht hi
theorem Rel.s_zs {σ τ : mS} (h : Rel σ τ) {t : Nat} (ht : t < 3) {i : Nat} (hi : i < 24) (v : Int32) : Rel (st2 σ (14 + 13 * t + 4) i v) (st2 τ 64 (24 * t + i) v) := by simpa using h.set (p := (4, 0, 64, 24)) (by decide) ht hi v (by decide)
theorem Rel.r_reg {σ τ : mS} (h : Rel σ τ) {t : Nat} (ht : t < 3) {i : Nat} (hi : i < 4) : σ (14 + 13 * t + 5) i = τ 65 (4 * t + i) := by simpa using h.1 (5, 0, 65, 4) (by decide) t i ht hi
theorem Rel.s_reg {σ τ : mS} (h : Rel σ τ) {t : Nat} (ht : t < 3) {i : Nat} (hi : i < 4) (v : Int32) : Rel (st2 σ (14 + 13 * t + 5) i v) (st2 τ 65 (4 * t + i) v) := by simpa using h.set (p := (5, 0, 65, 4)) (by decide) ht hi v (by decide)
theorem Rel.r_tp {σ τ : mS} (h : Rel σ τ) {t : Nat} (ht : t < 3) {i : Nat} (hi : i < 4) : σ (14 + 13 * t + 6) i = τ 72 (4 * t + i) := by simpa using h.1 (6, 0, 72, 4) (by decide) t i ht hi
theorem Rel.s_tp {σ τ : mS} (h : Rel σ τ) {t : Nat} (ht : t < 3) {i : Nat} (hi : i < 4) (v : Int32) : Rel (st2 σ (14 + 13 * t + 6) i v) (st2 τ 72 (4 * t + i) v) := by simpa using h.set (p := (6, 0, 72, 4)) (by decide) ht hi v (by decide)
theorem Rel.r_trys {σ τ : mS} (h : Rel σ τ) {t : Nat} (ht : t < 3) : σ (14 + 13 * t) 8 = τ 71 t := by simpa using h.1 (0, 8, 71, 1) (by decide) t 0 ht (by decide)
theorem Rel.r_place {σ τ : mS} (h : Rel σ τ) {t : Nat} (ht : t < 3) : σ (14 + 13 * t) 10 = τ 66 t := by simpa using h.1 (0, 10, 66, 1) (by decide) t 0 ht (by decide)
theorem Rel.s_place {σ τ : mS} (h : Rel σ τ) {t : Nat} (ht : t < 3) (v : Int32) : Rel (st2 σ (14 + 13 * t) 10 v) (st2 τ 66 t v) := by simpa using h.set (p := (0, 10, 66, 1)) (by decide) ht (i := 0) (by decide) v (by decide)
theorem Rel.r_fail {σ τ : mS} (h : Rel σ τ) {t : Nat} (ht : t < 3) : σ (14 + 13 * t) 12 = τ 67 t := by simpa using h.1 (0, 12, 67, 1) (by decide) t 0 ht (by decide)
theorem Rel.r_turns {σ τ : mS} (h : Rel σ τ) {t : Nat} (ht : t < 3) : σ (14 + 13 * t) 13 = τ 69 t := by simpa using h.1 (0, 13, 69, 1) (by decide) t 0 ht (by decide)
theorem Rel.r_anew {σ τ : mS} (h : Rel σ τ) {t : Nat} (ht : t < 3) : σ (14 + 13 * t) 14 = τ 70 t := by simpa using h.1 (0, 14, 70, 1) (by decide) t 0 ht (by decide)
theorem Rel.s_anew {σ τ : mS} (h : Rel σ τ) {t : Nat} (ht : t < 3) (v : Int32) : Rel (st2 σ (14 + 13 * t) 14 v) (st2 τ 70 t v) := by simpa using h.set (p := (0, 14, 70, 1)) (by decide) ht (i := 0) (by decide) v (by decide)
theorem Rel.r_open {σ τ : mS} (h : Rel σ τ) {t : Nat} (ht : t < 3) : σ (14 + 13 * t + 7) 0 = τ 73 t := by simpa using h.1 (7, 0, 73, 1) (by decide) t 0 ht (by decide)
theorem Rel.r_beh {σ τ : mS} (h : Rel σ τ) {t : Nat} (ht : t < 3) : σ (14 + 13 * t + 7) 1 = τ 75 t := by simpa using h.1 (7, 1, 75, 1) (by decide) t 0 ht (by decide)
theorem Rel.s_beh {σ τ : mS} (h : Rel σ τ) {t : Nat} (ht : t < 3) (v : Int32) : Rel (st2 σ (14 + 13 * t + 7) 1 v) (st2 τ 75 t v) := by simpa using h.set (p := (7, 1, 75, 1)) (by decide) ht (i := 0) (by decide) v (by decide)
theorem Rel.r_ahead {σ τ : mS} (h : Rel σ τ) {t : Nat} (ht : t < 3) : σ (14 + 13 * t + 7) 2 = τ 74 t := by simpa using h.1 (7, 2, 74, 1) (by decide) t 0 ht (by decide)
theorem Rel.r_areg {σ τ : mS} (h : Rel σ τ) {t : Nat} (ht : t < 3) {i : Nat} (hi : i < 4) : σ (14 + 13 * t + 8) i = τ 76 (4 * t + i) := by simpa using h.1 (8, 0, 76, 4) (by decide) t i ht hi
theorem Rel.s_areg {σ τ : mS} (h : Rel σ τ) {t : Nat} (ht : t < 3) {i : Nat} (hi : i < 4) (v : Int32) : Rel (st2 σ (14 + 13 * t + 8) i v) (st2 τ 76 (4 * t + i) v) := by simpa using h.set (p := (8, 0, 76, 4)) (by decide) ht hi v (by decide)
theorem Rel.r_pm {σ τ : mS} (h : Rel σ τ) {t : Nat} (ht : t < 3) {i : Nat} (hi : i < 8) : σ (14 + 13 * t + 9) i = τ 79 (8 * t + i) := by simpa using h.1 (9, 0, 79, 8) (by decide) t i ht hi
theorem Rel.s_pm {σ τ : mS} (h : Rel σ τ) {t : Nat} (ht : t < 3) {i : Nat} (hi : i < 8) (v : Int32) : Rel (st2 σ (14 + 13 * t + 9) i v) (st2 τ 79 (8 * t + i) v) := by simpa using h.set (p := (9, 0, 79, 8)) (by decide) ht hi v (by decide)
theorem Rel.r_pn {σ τ : mS} (h : Rel σ τ) {t : Nat} (ht : t < 3) {i : Nat} (hi : i < 8) : σ (14 + 13 * t + 10) i = τ 80 (8 * t + i) := by simpa using h.1 (10, 0, 80, 8) (by decide) t i ht hi
theorem Rel.s_pn {σ τ : mS} (h : Rel σ τ) {t : Nat} (ht : t < 3) {i : Nat} (hi : i < 8) (v : Int32) : Rel (st2 σ (14 + 13 * t + 10) i v) (st2 τ 80 (8 * t + i) v) := by simpa using h.set (p := (10, 0, 80, 8)) (by decide) ht hi v (by decide)
theorem Rel.r_rm {σ τ : mS} (h : Rel σ τ) {t : Nat} (ht : t < 3) {i : Nat} (hi : i < 8) : σ (14 + 13 * t + 11) i = τ 77 (8 * t + i) := by simpa using h.1 (11, 0, 77, 8) (by decide) t i ht hi
theorem Rel.s_rm {σ τ : mS} (h : Rel σ τ) {t : Nat} (ht : t < 3) {i : Nat} (hi : i < 8) (v : Int32) : Rel (st2 σ (14 + 13 * t + 11) i v) (st2 τ 77 (8 * t + i) v) := by simpa using h.set (p := (11, 0, 77, 8)) (by decide) ht hi v (by decide)
theorem Rel.r_fn {σ τ : mS} (h : Rel σ τ) {t : Nat} (ht : t < 3) {i : Nat} (hi : i < 8) : σ (14 + 13 * t + 12) i = τ 78 (8 * t + i) := by simpa using h.1 (12, 0, 78, 8) (by decide) t i ht hi
theorem Rel.s_fn {σ τ : mS} (h : Rel σ τ) {t : Nat} (ht : t < 3) {i : Nat} (hi : i < 8) (v : Int32) : Rel (st2 σ (14 + 13 * t + 12) i v) (st2 τ 78 (8 * t + i) v) := by simpa using h.set (p := (12, 0, 78, 8)) (by decide) ht hi v (by decide)
theorem Rel.n11 {σ τ : mS} (h : Rel σ τ) {t : Nat} (ht : t < 3) (v : Int32) : Rel (st2 σ (14 + 13 * t) 11 v) τ := by
  obtain ⟨hA, hB, hC, hD, hE, hF, hG⟩ := h
  have nl : ∀ z, z < 14 → z ≠ 14 + 13 * t := fun z hz => by omega
  refine ⟨hA.n ht v, hB.o (st2_nq (nl 2 (by decide))) (st2_nq (nl 3 (by decide))) rfl rfl, hC.o (st2_nq (nl 5 (by decide))) (st2_nq (nl 6 (by decide))) (st2_nq (nl 7 (by decide))) (st2_nq (nl 8 (by decide))) rfl rfl rfl rfl, hD.o (st2_nq (nl 10 (by decide))) (st2_nq (nl 11 (by decide))) (st2_nq (nl 12 (by decide))) rfl rfl rfl, hE.o (by rw [st2_nq (nl 0 (by decide))]) rfl, hF.o (by rw [st2_nq (nl 0 (by decide))]) rfl, hG.o (fun t' ht' => by simp [st2]) rfl rfl rfl rfl rfl⟩
theorem Rel.f32 {σ τ : mS} (h : Rel σ τ) (v : Int32) : Rel σ (st2 τ 53 32 v) := h.scr (fun _ _ => rfl) (fun q _ _ d => st2_nq d) rfl rfl
theorem held_eq {σ : mS} (q : Nat) {i : Nat} (hi : i < 4) : f_X4_held σ q (nI i) = σ (q + 5) i := by
  unfold f_X4_held
  rw [isReg_1 i hi, if_neg (by decide), cl4 i hi]
theorem r_eq {τ : mS} {t i : Nat} (ht : t < 3) (hi : i < 4) : f_X6_r τ (nI t) (nI i) = τ 65 (4 * t + i) := by
  unfold f_X6_r
  rw [ix4 ht hi]
theorem keep_eq {σ : mS} (q : Nat) {i : Nat} (hi : i < 4) (v : Int32) : f_X4_keep σ q (nI i) v = (0, st2 σ (q + 5) i v) := by
  unfold f_X4_keep
  rw [isReg_1 i hi, if_neg (by decide), cl4 i hi]
theorem give_eq {τ : mS} (h0 : τ 53 32 = 0) {t i : Nat} (ht : t < 3) (hi : i < 4) (v : Int32) : f_X6_give τ (nI t) (nI i) v = (0, st2 τ 65 (4 * t + i) v) := by
  unfold f_X6_give
  rw [if_pos h0, ix4 ht hi]
theorem hasPut_eq {σ : mS} (q : Nat) {c : Nat} (hc : c < 8) : f_X0_hasPut σ q (nI c) = 0 ↔ σ (q + 2) c = 0 := by
  unfold f_X0_hasPut
  rw [isCell_1 c hc, if_neg (by decide), cl8 c hc]
  by_cases e : σ (q + 2) c = 0 <;> simp [e]
theorem hasRead_eq {σ : mS} (q : Nat) {c : Nat} (hc : c < 8) : f_X0_hasRead σ q (nI c) = 0 ↔ σ (q + 4) c = 0 := by
  unfold f_X0_hasRead
  rw [isCell_1 c hc, if_neg (by decide), cl8 c hc]
  by_cases e : σ (q + 4) c = 0 <;> simp [e]
theorem putNumber_eq {σ : mS} (q : Nat) {c : Nat} (hc : c < 8) : f_X0_putNumber σ q (nI c) = σ (q + 3) c := by
  unfold f_X0_putNumber
  rw [isCell_1 c hc, if_neg (by decide), cl8 c hc]
theorem firstNumber_eq {σ : mS} (q : Nat) {c : Nat} (hc : c < 8) : f_X0_firstNumber σ q (nI c) = σ (q + 5) c := by
  unfold f_X0_firstNumber
  rw [isCell_1 c hc, if_neg (by decide), cl8 c hc]
theorem notePut_eq {σ : mS} (q : Nat) {c : Nat} (hc : c < 8) (v : Int32) : f_X0_notePut σ q (nI c) v = (0, st2 (st2 σ (q + 2) c 1) (q + 3) c v) := by
  unfold f_X0_notePut
  rw [isCell_1 c hc, if_neg (by decide), cl8 c hc]
theorem noteReading_eq {σ : mS} (q : Nat) {c : Nat} (hc : c < 8) (v : Int32) : f_X0_noteReading σ q (nI c) v = (0, if σ (q + 4) c = 0 then st2 (st2 σ (q + 4) c 1) (q + 5) c v else σ) := by
  unfold f_X0_noteReading
  rw [isCell_1 c hc, if_neg (by decide), cl8 c hc]
  split <;> rfl
/-- what the class's counting leaves as it is -/
theorem count_14 {σ : mS} (t c v : Int32) {q : Nat} (hq : 14 ≤ q) : (f_X1_count σ t c v).2 q = σ q := by
  simp only [f_X1_count, ap]
  have h1 : ∀ s : mS, (f_X2_add s t c v).2 q = s q := by
    intro s
    unfold f_X2_add
    (repeat' split) <;> simp only [st2_nq (show q ≠ 5 by omega), st2_nq (show q ≠ 6 by omega), st2_nq (show q ≠ 7 by omega), st2_nq (show q ≠ 8 by omega)]
  rw [h1]
  unfold f_X1_hold
  (repeat' split) <;> simp only [st2_nq (show q ≠ 2 by omega), st2_nq (show q ≠ 3 by omega)]
theorem wo5_14 {q : Nat} (hq : 14 ≤ q) : ∀ (n : Nat) (a c : Int32) (σ : mS), (l_X1_workedOut_5 n a c σ).2.2 q = σ q := by
  intro n
  induction n with
  | zero => intro a c σ; rfl
  | succ n ih => intro a c σ; rw [l_X1_workedOut_5.eq_2]; (repeat' split) <;> simp only [ih, st2_nq (show q ≠ 4 by omega)]
theorem wo58_14 {q : Nat} (hq : 14 ≤ q) : ∀ (n : Nat) (a c : Int32) (σ : mS) (t : Int32), (l_X1_workedOut_58 n a c σ t).2 q = σ q := by
  intro n
  induction n with
  | zero => intro a c σ t; rfl
  | succ n ih => intro a c σ t; rw [l_X1_workedOut_58.eq_2]; split <;> simp only [ap, ih, count_14 _ _ _ hq]
theorem wo_14 {σ : mS} (c t : Int32) {q : Nat} (hq : 14 ≤ q) : (f_X1_workedOut σ c t).2 q = σ q := by
  simp only [f_X1_workedOut, ap]
  rw [wo58_14 hq, wo5_14 hq]
/-- a cell is read, in an atom or not -/
theorem Rel.read {σ τ : mS} (h : Rel σ τ) (hL : Lz τ) {b : Nat} (hw : Wr τ b) (hb : b < 2 ^ 29) (h0 : τ 53 32 = 0) {t : Nat} (ht : t < 3) {c : Nat} (hc : c < 8) :
    (f_X5_failureOfReading σ (14 + 13 * t) (nI c) = 0 ∧ (f_X5_readCell σ (14 + 13 * t) (nI c)).1 = (f_X6_read τ (nI t) (nI c)).1 ∧ Rel (f_X5_readCell σ (14 + 13 * t) (nI c)).2 (f_X6_read τ (nI t) (nI c)).2 ∧ (f_X6_read τ (nI t) (nI c)).2 53 32 = 0 ∧ (f_X5_readCell σ (14 + 13 * t) (nI c)).2 (14 + 13 * t) = σ (14 + 13 * t)) ∨
    (¬ f_X5_failureOfReading σ (14 + 13 * t) (nI c) = 0 ∧ Rel σ (f_X6_read τ (nI t) (nI c)).2 ∧ (f_X6_read τ (nI t) (nI c)).2 53 32 = f_X5_failureOfReading σ (14 + 13 * t) (nI c)) := by
  have ho := h.r_open ht
  unfold f_X5_failureOfReading f_X5_readCell f_X6_read
  simp only [ap]
  rw [ho, cl3 t ht]
  by_cases c1 : τ 73 t = 0
  · simp only [if_pos c1]
    rcases h.plain hL hw hb (σ (14 + 13 * t) 0) hc with ⟨a1, a2, a3, a4⟩ | ⟨a1, a2, a3⟩
    · have hn : σ (14 + 13 * t) 0 = nI t := (h.2.2.2.2.2.2 t ht).1
      rw [hn] at a2 a3 a4
      refine Or.inl ⟨if_pos a1, ?_, ?_, ?_, ?_⟩
      · rw [hn]; exact a2
      · rw [hn]; exact a3
      · rw [a4, h0]
      · exact wo_14 _ _ (by omega)
    · have hn : σ (14 + 13 * t) 0 = nI t := (h.2.2.2.2.2.2 t ht).1
      rw [hn] at a2 a3
      refine Or.inr ⟨by rw [if_neg a1]; decide, a2, by rw [if_neg a1]; exact a3⟩
  · simp only [if_neg c1, ix8 ht hc, cl8 c hc]
    have hpm : σ (14 + 13 * t + 7 + 2) c = τ 79 (8 * t + c) := h.r_pm ht hc
    have hpn : σ (14 + 13 * t + 7 + 3) c = τ 80 (8 * t + c) := h.r_pn ht hc
    have hrm : σ (14 + 13 * t + 7 + 4) c = τ 77 (8 * t + c) := h.r_rm ht hc
    by_cases c2 : τ 79 (8 * t + c) = 0
    · have p1 : f_X0_hasPut σ (14 + 13 * t + 7) (nI c) = 0 := (hasPut_eq _ hc).mpr (by rw [hpm]; exact c2)
      simp only [if_pos c2, if_pos p1]
      by_cases c3 : τ 55 c = 0
      · have p2 : f_X1_isLazy σ (nI c) = 0 := (isLazy_iff h.2.1 hc).mpr (fun z => z c3)
        simp only [if_pos c3, if_pos p2]
        rw [shown_eq h.2.1 hc, noteReading_eq _ hc]
        by_cases c4 : τ 77 (8 * t + c) = 0
        · have p3 : σ (14 + 13 * t + 7 + 4) c = 0 := by rw [hrm]; exact c4
          simp only [if_pos c4, if_pos p3]
          refine Or.inl ⟨by trivial, by trivial, (h.s_rm ht hc 1).s_fn ht hc (τ 54 c), h0, ?_⟩
          rw [st2_nq (by omega), st2_nq (by omega)]
        · have p3 : ¬ σ (14 + 13 * t + 7 + 4) c = 0 := by rw [hrm]; exact c4
          simp only [if_neg c4, if_neg p3]
          exact Or.inl ⟨by trivial, by trivial, h, h0, by trivial⟩
      · have p2 : ¬ f_X1_isLazy σ (nI c) = 0 := fun z => (isLazy_iff h.2.1 hc).mp z c3
        simp only [if_neg c3, if_neg p2]
        exact Or.inr ⟨by decide, h.f32 5, by simp [st2]⟩
    · have p1 : ¬ f_X0_hasPut σ (14 + 13 * t + 7) (nI c) = 0 := fun z => c2 (by rw [← hpm]; exact (hasPut_eq _ hc).mp z)
      simp only [if_neg c2, if_neg p1]
      rw [putNumber_eq _ hc]
      refine Or.inl ⟨?_, hpn, h, h0, by trivial⟩
      split <;> rfl
/-- a cell is put, in an atom or not -/
theorem Rel.lay {σ τ : mS} (h : Rel σ τ) {b : Nat} (hw : Wr τ b) (hb : b < 2 ^ 30) {t : Nat} (ht : t < 3) {c : Nat} (hc : c < 8) (v : Int32) :
    Rel (f_X5_putCell σ (14 + 13 * t) (nI c) v).2 (f_X6_lay τ (nI t) (nI c) v).2 ∧ (f_X6_lay τ (nI t) (nI c) v).2 53 32 = τ 53 32 ∧ (f_X5_putCell σ (14 + 13 * t) (nI c) v).2 (14 + 13 * t) = σ (14 + 13 * t) := by
  have ho := h.r_open ht
  unfold f_X5_putCell f_X6_lay
  simp only [ap]
  rw [ho, cl3 t ht]
  by_cases c1 : τ 73 t = 0
  · simp only [if_pos c1]
    have hn : σ (14 + 13 * t) 0 = nI t := (h.2.2.2.2.2.2 t ht).1
    rw [hn]
    exact ⟨h.write hw hb _ hc v, write_32 _ _ _ _, count_14 _ _ _ (by omega)⟩
  · simp only [if_neg c1, ix8 ht hc]
    rw [notePut_eq _ hc]
    refine ⟨(h.s_pm ht hc 1).s_pn ht hc v, rfl, ?_⟩
    show st2 (st2 σ (14 + 13 * t + 7 + 2) c 1) (14 + 13 * t + 7 + 3) c v (14 + 13 * t) = _
    rw [st2_nq (by omega), st2_nq (by omega)]
