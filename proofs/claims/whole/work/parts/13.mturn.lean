/-! what an act leaves as it is, and the invariants of the whole reference -/
def kq (q : Nat) : Prop := (60 ≤ q ∧ q ≤ 69 ∧ q ≠ 65) ∨ q = 71 ∨ q = 72
theorem kq53 {q : Nat} (h : kq q) (σ : mS) (k : Nat) (v : Int32) : st2 σ 53 k v q = σ q := st2_nq (by unfold kq at h; omega)
theorem kq54 {q : Nat} (h : kq q) (σ : mS) (k : Nat) (v : Int32) : st2 σ 54 k v q = σ q := st2_nq (by unfold kq at h; omega)
theorem kq55 {q : Nat} (h : kq q) (σ : mS) (k : Nat) (v : Int32) : st2 σ 55 k v q = σ q := st2_nq (by unfold kq at h; omega)
theorem kq56 {q : Nat} (h : kq q) (σ : mS) (k : Nat) (v : Int32) : st2 σ 56 k v q = σ q := st2_nq (by unfold kq at h; omega)
theorem kq57 {q : Nat} (h : kq q) (σ : mS) (k : Nat) (v : Int32) : st2 σ 57 k v q = σ q := st2_nq (by unfold kq at h; omega)
theorem kq58 {q : Nat} (h : kq q) (σ : mS) (k : Nat) (v : Int32) : st2 σ 58 k v q = σ q := st2_nq (by unfold kq at h; omega)
theorem kq59 {q : Nat} (h : kq q) (σ : mS) (k : Nat) (v : Int32) : st2 σ 59 k v q = σ q := st2_nq (by unfold kq at h; omega)
theorem kq65 {q : Nat} (h : kq q) (σ : mS) (k : Nat) (v : Int32) : st2 σ 65 k v q = σ q := st2_nq (by unfold kq at h; omega)
theorem kq70 {q : Nat} (h : kq q) (σ : mS) (k : Nat) (v : Int32) : st2 σ 70 k v q = σ q := st2_nq (by unfold kq at h; omega)
theorem kq73 {q : Nat} (h : kq q) (σ : mS) (k : Nat) (v : Int32) : st2 σ 73 k v q = σ q := st2_nq (by unfold kq at h; omega)
theorem kq74 {q : Nat} (h : kq q) (σ : mS) (k : Nat) (v : Int32) : st2 σ 74 k v q = σ q := st2_nq (by unfold kq at h; omega)
theorem kq75 {q : Nat} (h : kq q) (σ : mS) (k : Nat) (v : Int32) : st2 σ 75 k v q = σ q := st2_nq (by unfold kq at h; omega)
theorem kq76 {q : Nat} (h : kq q) (σ : mS) (k : Nat) (v : Int32) : st2 σ 76 k v q = σ q := st2_nq (by unfold kq at h; omega)
theorem kq77 {q : Nat} (h : kq q) (σ : mS) (k : Nat) (v : Int32) : st2 σ 77 k v q = σ q := st2_nq (by unfold kq at h; omega)
theorem kq78 {q : Nat} (h : kq q) (σ : mS) (k : Nat) (v : Int32) : st2 σ 78 k v q = σ q := st2_nq (by unfold kq at h; omega)
theorem kq79 {q : Nat} (h : kq q) (σ : mS) (k : Nat) (v : Int32) : st2 σ 79 k v q = σ q := st2_nq (by unfold kq at h; omega)
theorem kq80 {q : Nat} (h : kq q) (σ : mS) (k : Nat) (v : Int32) : st2 σ 80 k v q = σ q := st2_nq (by unfold kq at h; omega)
theorem kq81 {q : Nat} (h : kq q) (σ : mS) (k : Nat) (v : Int32) : st2 σ 81 k v q = σ q := st2_nq (by unfold kq at h; omega)
theorem kq82 {q : Nat} (h : kq q) (σ : mS) (k : Nat) (v : Int32) : st2 σ 82 k v q = σ q := st2_nq (by unfold kq at h; omega)
theorem kq83 {q : Nat} (h : kq q) (σ : mS) (k : Nat) (v : Int32) : st2 σ 83 k v q = σ q := st2_nq (by unfold kq at h; omega)
theorem kq84 {q : Nat} (h : kq q) (σ : mS) (k : Nat) (v : Int32) : st2 σ 84 k v q = σ q := st2_nq (by unfold kq at h; omega)
theorem kq_note {q : Nat} (h : kq q) (σ : mS) (t c v : Int32) : (f_X6_note σ t c v).2 q = σ q := note_q (by unfold kq at h; omega) σ t c v
theorem kq_write {q : Nat} (h : kq q) (σ : mS) (t c v : Int32) : (f_X6_write σ t c v).2 q = σ q := write_q (by unfold kq at h; omega) σ t c v
theorem kq_l11 {q : Nat} (h : kq q) : ∀ (n : Nat) (y : Int32) (σ : mS), (l_X6_readPlain_11 n y σ).2 q = σ q := by
  intro n
  induction n with
  | zero => intro y σ; rfl
  | succ n ih => intro y σ; rw [l_X6_readPlain_11.eq_2]; split <;> simp only [ih, kq53 h, kq54 h, kq55 h, kq56 h, kq57 h, kq58 h, kq59 h, kq65 h, kq70 h, kq73 h, kq74 h, kq75 h, kq76 h, kq77 h, kq78 h, kq79 h, kq80 h, kq81 h, kq82 h, kq83 h, kq84 h]
theorem kq_l32 {q : Nat} (h : kq q) : ∀ (n : Nat) (a c d : Int32) (σ : mS), (l_X6_readPlain_32 n a c d σ).2.2.2 q = σ q := by
  intro n
  induction n with
  | zero => intro a c d σ; rfl
  | succ n ih => intro a c d σ; rw [l_X6_readPlain_32.eq_2]; (repeat' split) <;> simp only [ih, kq53 h, kq54 h, kq55 h, kq56 h, kq57 h, kq58 h, kq59 h, kq65 h, kq70 h, kq73 h, kq74 h, kq75 h, kq76 h, kq77 h, kq78 h, kq79 h, kq80 h, kq81 h, kq82 h, kq83 h, kq84 h]
theorem kq_l114 {q : Nat} (h : kq q) : ∀ (n : Nat) (a c : Int32) (σ : mS) (t : Int32), (l_X6_readPlain_114 n a c σ t).2 q = σ q := by
  intro n
  induction n with
  | zero => intro a c σ t; rfl
  | succ n ih => intro a c σ t; rw [l_X6_readPlain_114.eq_2]; split <;> simp only [ap, ih, kq_write h]
theorem kq_readPlain {q : Nat} (h : kq q) (σ : mS) (t c : Int32) : (f_X6_readPlain σ t c).2 q = σ q := by
  simp only [f_X6_readPlain, ap]
  (repeat' split) <;> simp only [kq_l114 h, kq_l32 h, kq_l11 h, kq53 h, kq54 h, kq55 h, kq56 h, kq57 h, kq58 h, kq59 h, kq65 h, kq70 h, kq73 h, kq74 h, kq75 h, kq76 h, kq77 h, kq78 h, kq79 h, kq80 h, kq81 h, kq82 h, kq83 h, kq84 h]
theorem kq_read {q : Nat} (h : kq q) (σ : mS) (t c : Int32) : (f_X6_read σ t c).2 q = σ q := by
  simp only [f_X6_read, ap]
  (repeat' split) <;> simp only [kq_readPlain h, kq53 h, kq54 h, kq55 h, kq56 h, kq57 h, kq58 h, kq59 h, kq65 h, kq70 h, kq73 h, kq74 h, kq75 h, kq76 h, kq77 h, kq78 h, kq79 h, kq80 h, kq81 h, kq82 h, kq83 h, kq84 h]
theorem kq_lay {q : Nat} (h : kq q) (σ : mS) (t c v : Int32) : (f_X6_lay σ t c v).2 q = σ q := by
  simp only [f_X6_lay, ap]
  (repeat' split) <;> simp only [kq_write h, kq53 h, kq54 h, kq55 h, kq56 h, kq57 h, kq58 h, kq59 h, kq65 h, kq70 h, kq73 h, kq74 h, kq75 h, kq76 h, kq77 h, kq78 h, kq79 h, kq80 h, kq81 h, kq82 h, kq83 h, kq84 h]
theorem kq_l2 {q : Nat} (h : kq q) : ∀ (n : Nat) (y : Int32) (σ : mS) (t : Int32), (l_X6_clearAtom_2 n y σ t).2 q = σ q := by
  intro n
  induction n with
  | zero => intro y σ t; rfl
  | succ n ih => intro y σ t; rw [l_X6_clearAtom_2.eq_2]; split <;> simp only [ih, kq53 h, kq54 h, kq55 h, kq56 h, kq57 h, kq58 h, kq59 h, kq65 h, kq70 h, kq73 h, kq74 h, kq75 h, kq76 h, kq77 h, kq78 h, kq79 h, kq80 h, kq81 h, kq82 h, kq83 h, kq84 h]
theorem kq_clearAtom {q : Nat} (h : kq q) (σ : mS) (t : Int32) : (f_X6_clearAtom σ t).2 q = σ q := by
  simp only [f_X6_clearAtom, ap]
  (repeat' split) <;> simp only [kq_l2 h, kq53 h, kq54 h, kq55 h, kq56 h, kq57 h, kq58 h, kq59 h, kq65 h, kq70 h, kq73 h, kq74 h, kq75 h, kq76 h, kq77 h, kq78 h, kq79 h, kq80 h, kq81 h, kq82 h, kq83 h, kq84 h]
theorem kq_l55 {q : Nat} (h : kq q) : ∀ (n : Nat) (y : Int32) (σ : mS) (t : Int32), (l_X6_beginAtom_55 n y σ t).2 q = σ q := by
  intro n
  induction n with
  | zero => intro y σ t; rfl
  | succ n ih => intro y σ t; rw [l_X6_beginAtom_55.eq_2]; split <;> simp only [ih, kq53 h, kq54 h, kq55 h, kq56 h, kq57 h, kq58 h, kq59 h, kq65 h, kq70 h, kq73 h, kq74 h, kq75 h, kq76 h, kq77 h, kq78 h, kq79 h, kq80 h, kq81 h, kq82 h, kq83 h, kq84 h]
theorem kq_beginAtom {q : Nat} (h : kq q) (σ : mS) (t : Int32) : (f_X6_beginAtom σ t).2 q = σ q := by
  simp only [f_X6_beginAtom, ap]
  (repeat' split) <;> simp only [kq_l55 h, kq_clearAtom h, kq53 h, kq54 h, kq55 h, kq56 h, kq57 h, kq58 h, kq59 h, kq65 h, kq70 h, kq73 h, kq74 h, kq75 h, kq76 h, kq77 h, kq78 h, kq79 h, kq80 h, kq81 h, kq82 h, kq83 h, kq84 h]
theorem kq_l121 {q : Nat} (h : kq q) : ∀ (n : Nat) (y : Int32) (σ : mS) (t : Int32), (l_X6_endAtom_121 n y σ t).2 q = σ q := by
  intro n
  induction n with
  | zero => intro y σ t; rfl
  | succ n ih => intro y σ t; rw [l_X6_endAtom_121.eq_2]; split <;> simp only [ih, kq53 h, kq54 h, kq55 h, kq56 h, kq57 h, kq58 h, kq59 h, kq65 h, kq70 h, kq73 h, kq74 h, kq75 h, kq76 h, kq77 h, kq78 h, kq79 h, kq80 h, kq81 h, kq82 h, kq83 h, kq84 h]
theorem kq_l168 {q : Nat} (h : kq q) : ∀ (n : Nat) (y : Int32) (σ : mS) (t : Int32), (l_X6_endAtom_168 n y σ t).2 q = σ q := by
  intro n
  induction n with
  | zero => intro y σ t; rfl
  | succ n ih => intro y σ t; rw [l_X6_endAtom_168.eq_2]; (repeat' split) <;> simp only [ap, ih, kq_write h]
theorem kq_endAtom {q : Nat} (h : kq q) (σ : mS) (t : Int32) : (f_X6_endAtom σ t).2 q = σ q := by
  simp only [f_X6_endAtom, ap]
  (repeat' split) <;> simp only [kq_l121 h, kq_l168 h, kq_clearAtom h, kq53 h, kq54 h, kq55 h, kq56 h, kq57 h, kq58 h, kq59 h, kq65 h, kq70 h, kq73 h, kq74 h, kq75 h, kq76 h, kq77 h, kq78 h, kq79 h, kq80 h, kq81 h, kq82 h, kq83 h, kq84 h]
theorem kq_give {q : Nat} (h : kq q) (σ : mS) (t i v : Int32) : (f_X6_give σ t i v).2 q = σ q := by
  simp only [f_X6_give, ap]
  (repeat' split) <;> simp only [kq53 h, kq54 h, kq55 h, kq56 h, kq57 h, kq58 h, kq59 h, kq65 h, kq70 h, kq73 h, kq74 h, kq75 h, kq76 h, kq77 h, kq78 h, kq79 h, kq80 h, kq81 h, kq82 h, kq83 h, kq84 h]
theorem kq_checkItem {q : Nat} (h : kq q) (σ : mS) (row i : Int32) : (f_X6_checkItem σ row i).2 q = σ q := by
  simp only [f_X6_checkItem, ap]
  (repeat' split) <;> simp only [kq53 h, kq54 h, kq55 h, kq56 h, kq57 h, kq58 h, kq59 h, kq65 h, kq70 h, kq73 h, kq74 h, kq75 h, kq76 h, kq77 h, kq78 h, kq79 h, kq80 h, kq81 h, kq82 h, kq83 h, kq84 h]
theorem kq_compute {q : Nat} (h : kq q) (σ : mS) (t k x a b : Int32) : (f_X6_compute σ t k x a b).2 q = σ q := by
  simp only [f_X6_compute, ap]
  (repeat' split) <;> simp only [kq_give h, kq53 h, kq54 h, kq55 h, kq56 h, kq57 h, kq58 h, kq59 h, kq65 h, kq70 h, kq73 h, kq74 h, kq75 h, kq76 h, kq77 h, kq78 h, kq79 h, kq80 h, kq81 h, kq82 h, kq83 h, kq84 h]
theorem kq_swap {q : Nat} (h : kq q) (σ : mS) (t c y z : Int32) : (f_X6_swap σ t c y z).2 q = σ q := by
  simp only [f_X6_swap, ap]
  (repeat' split) <;> simp only [kq_read h, kq_lay h, kq_give h, kq53 h, kq54 h, kq55 h, kq56 h, kq57 h, kq58 h, kq59 h, kq65 h, kq70 h, kq73 h, kq74 h, kq75 h, kq76 h, kq77 h, kq78 h, kq79 h, kq80 h, kq81 h, kq82 h, kq83 h, kq84 h]
theorem kq_l200 {q : Nat} (h : kq q) : ∀ (n : Nat) (y : Int32) (σ : mS) (x p : Int32), (l_X6_rows_200 n y σ x p).2 q = σ q := by
  intro n
  induction n with
  | zero => intro y σ x p; rfl
  | succ n ih => intro y σ x p; rw [l_X6_rows_200.eq_2]; split <;> simp only [ih, kq53 h, kq54 h, kq55 h, kq56 h, kq57 h, kq58 h, kq59 h, kq65 h, kq70 h, kq73 h, kq74 h, kq75 h, kq76 h, kq77 h, kq78 h, kq79 h, kq80 h, kq81 h, kq82 h, kq83 h, kq84 h]
theorem kq_rows {q : Nat} (h : kq q) (σ : mS) (t k x y z : Int32) : (f_X6_rows σ t k x y z).2 q = σ q := by
  simp only [f_X6_rows, ap]
  (repeat' split) <;> simp only [kq_l200 h, kq_checkItem h, kq_give h, kq53 h, kq54 h, kq55 h, kq56 h, kq57 h, kq58 h, kq59 h, kq65 h, kq70 h, kq73 h, kq74 h, kq75 h, kq76 h, kq77 h, kq78 h, kq79 h, kq80 h, kq81 h, kq82 h, kq83 h, kq84 h]
def RS (σ : mS) : Prop := (∀ t, t < 3 → vp_in (σ 60 t) 25) ∧ (∀ t, t < 3 → vp_in (σ 66 t) 25) ∧ (∀ t, t < 3 → vp_in (σ 71 t) 5) ∧ (∀ i, i < 12 → vp_in (σ 72 i) 25) ∧ (∀ t, t < 3 → vp_in (σ 75 t) 25) ∧ (∀ r, r < 4 → σ 57 r = -1 ∨ vp_in (σ 57 r) 9) ∧ (∀ t j : Nat, t < 3 → j < 24 → (j : Int) < (σ 60 t).toInt → ¬ f_X6_fits (σ 61 (24 * t + j)) (σ 62 (24 * t + j)) (σ 63 (24 * t + j)) (σ 64 (24 * t + j)) = 0)
def RI (b : Nat) (σ : mS) : Prop := RS σ ∧ Lz σ ∧ Wr σ b
theorem RI.mono {a b : Nat} {σ : mS} (h : RI a σ) (hab : a ≤ b) : RI b σ := ⟨h.1, h.2.1, h.2.2.mono hab⟩
theorem RI.o {b : Nat} {σ σ' : mS} (h : RI b σ) (e : ∀ q, q ∈ [54, 55, 57, 60, 61, 62, 63, 64, 66, 71, 72, 75] → σ' q = σ q) (e2 : σ' 53 28 = σ 53 28) : RI b σ' := by
  obtain ⟨⟨h1, h2, h3, h4, h5, h6, h7⟩, hL, hw⟩ := h
  refine ⟨⟨?_, ?_, ?_, ?_, ?_, ?_, ?_⟩, hL.o (e 54 (by decide)) (e 55 (by decide)), hw.o e2⟩
  · rw [e 60 (by decide)]; exact h1
  · rw [e 66 (by decide)]; exact h2
  · rw [e 71 (by decide)]; exact h3
  · rw [e 72 (by decide)]; exact h4
  · rw [e 75 (by decide)]; exact h5
  · rw [e 57 (by decide)]; exact h6
  · rw [e 60 (by decide), e 61 (by decide), e 62 (by decide), e 63 (by decide), e 64 (by decide)]; exact h7
theorem RI.tick {b : Nat} {σ : mS} (h : RI b σ) (x : Int32) (k : Nat) (y : Int32) : RI b (st2 (st2 σ 53 32 x) 69 k y) := by
  refine h.o (fun q hq => ?_) rfl
  have h1 : q ≠ 69 ∧ q ≠ 53 := by
    constructor <;> (intro e; subst e; revert hq; decide)
  rw [st2_nq h1.1, st2_nq h1.2]
theorem act_p {b : Nat} {σ : mS} {t : Int32} (h : RI b σ) (ht : vp_in t 3) (hl : σ 66 t.toNatClampNeg < σ 60 t.toNatClampNeg) : vp_in (σ 66 t.toNatClampNeg) 24 := by
  have h1 := vp_in_iff.mp (h.1.1 _ (vin_lt ht))
  have h2 := vp_in_iff.mp (h.1.2.1 _ (vin_lt ht))
  rw [i32_lt] at hl
  exact vp_in_iff.mpr ⟨h2.1, by omega⟩
theorem act_f {b : Nat} {σ : mS} {t : Int32} (h : RI b σ) (ht : vp_in t 3) (hl : σ 66 t.toNatClampNeg < σ 60 t.toNatClampNeg) : ¬ f_X6_fits (aK σ t) (aX σ t) (aY σ t) (aZ σ t) = 0 := by
  have hp := act_p h ht hl
  obtain ⟨j, hj, e⟩ := vp_in_of hp (by decide)
  obtain ⟨i, hi, rfl⟩ := vp_in_of ht (by decide)
  have hi' : (nI i).toNatClampNeg = i := nI_clamp (by omega)
  rw [hi'] at e hl
  have e2 : ((24 : Int32) * nI i + σ 66 (nI i).toNatClampNeg).toNatClampNeg = 24 * i + j := by
    rw [hi', e, show (24 : Int32) * nI i = nI (24 * i) from pk_mul 24 i, nI_add, nI_clamp (by omega)]
  unfold aK aX aY aZ
  rw [e2]
  refine h.1.2.2.2.2.2.2 i j hi hj ?_
  rw [e, i32_lt, nI_toInt (by omega)] at hl
  exact hl
theorem item_in {x i : Int32} (hS : x = -1 ∨ vp_in x 9) (h : ¬ f_X6_within i 0 (x - 1) = 0) : vp_in i 8 := by
  obtain ⟨a, b⟩ := within_iff.mp h
  rw [i32_le, Int32.toInt_zero] at a
  rcases hS with rfl | e1
  · exfalso
    rw [i32_le] at b
    have h3 : ((-1 : Int32) - 1).toInt = -2 := by decide
    omega
  · obtain ⟨j, hj, rfl⟩ := vp_in_of e1 (by decide)
    rcases j with _ | j
    · exfalso
      rw [i32_le] at b
      have h3 : (nI 0 - 1).toInt = -1 := by decide
      omega
    · rw [nI_pred, i32_le, nI_toInt (by omega)] at b
      exact vp_in_iff.mpr ⟨a, by omega⟩
theorem wr_ix {σ : mS} {b : Nat} {x k : Int32} (hw : Wr σ b) (hb : b < 2 ^ 30) (h : ¬ f_X6_within x 0 (k - 1) = 0) (h0 : 0 ≤ k) (hk : k ≤ σ 53 28) : vp_in ((σ 53 28 - 1 - x) - (σ 53 28 - 1 - x) / 30 * 30) 30 := by
  obtain ⟨w, h1, h2⟩ := hw
  obtain ⟨a, c⟩ := within_iff.mp h
  rw [h2] at hk ⊢
  rw [i32_le, nI_toInt (by omega)] at hk
  rw [i32_le, Int32.toInt_zero] at h0 a
  have hkk : vp_in k (w + 1) := vp_in_iff.mpr ⟨h0, by omega⟩
  obtain ⟨m, hm, rfl⟩ := vp_in_of hkk (by omega)
  rcases m with _ | m
  · exfalso
    rw [i32_le] at c
    have h3 : (nI 0 - 1).toInt = -1 := by decide
    omega
  · rw [nI_pred, i32_le, nI_toInt (by omega)] at c
    have hx : vp_in x (m + 1) := vp_in_iff.mpr ⟨a, by omega⟩
    obtain ⟨j, hj, rfl⟩ := vp_in_of hx (by omega)
    rcases w with _ | w
    · omega
    · rw [nI_pred, pk_sub (by omega), show (30 : Int32) = nI 30 from rfl, pk_rem (by omega) (by decide) (by decide)]
      exact vp_in_nI (Nat.mod_lt _ (by decide)) (by decide)
theorem Wr.pos {σ : mS} {b : Nat} (h : Wr σ b) (hb : b < 2 ^ 31) : 0 ≤ σ 53 28 := by
  obtain ⟨w, h1, h2⟩ := h
  rw [h2]; exact nI_pos' (by omega)
theorem tr_up {x : Int32} (h : vp_in x 5) (h4 : ¬ x = 4) : vp_in (x + 1) 5 := by
  obtain ⟨j, hj, rfl⟩ := vp_in_of h (by decide)
  have h1 : j ≠ 4 := fun e => h4 (by rw [e]; rfl)
  rw [nI_1]; exact vp_in_nI (by omega) (by decide)
theorem tr_dn {x : Int32} (h : vp_in x 5) (h0 : ¬ x = 0) : vp_in (x - 1) 5 := by
  obtain ⟨j, hj, rfl⟩ := vp_in_of h (by decide)
  rcases j with _ | j
  · exact absurd rfl h0
  · rw [nI_pred]; exact vp_in_nI (by omega) (by decide)
set_option maxRecDepth 100000 in
theorem tries_any {σ : mS} {t : Int32} (P : Int32 → Prop) (h0 : P (σ 71 t.toNatClampNeg)) (h1 : ¬ σ 71 t.toNatClampNeg = 4 → P (σ 71 t.toNatClampNeg + 1)) (h2 : ¬ σ 71 t.toNatClampNeg = 0 → P (σ 71 t.toNatClampNeg - 1)) : P ((f_X6_doAct σ t).2 71 t.toNatClampNeg) := by
  have hk : kq 71 := Or.inr (Or.inl rfl)
  unfold f_X6_doAct
  simp only [ap]
  by_cases e0 : aK σ t = (0 : Int32)
  · rw [if_pos e0]
    (repeat' split) <;> first
    | exact h0
    | (simp only [kq_give hk, kq_read hk, kq_lay hk, kq_compute hk, kq_swap hk, kq_beginAtom hk, kq_endAtom hk, kq_rows hk, kq53 hk]; exact h0)
    | (simp [st2]; exact h1 (by assumption))
    | (simp [st2]; exact h2 (by assumption))
  rw [if_neg e0]
  by_cases e1 : aK σ t = (1 : Int32)
  · rw [if_pos e1]
    (repeat' split) <;> first
    | exact h0
    | (simp only [kq_give hk, kq_read hk, kq_lay hk, kq_compute hk, kq_swap hk, kq_beginAtom hk, kq_endAtom hk, kq_rows hk, kq53 hk]; exact h0)
    | (simp [st2]; exact h1 (by assumption))
    | (simp [st2]; exact h2 (by assumption))
  rw [if_neg e1]
  by_cases e2 : aK σ t = (2 : Int32)
  · rw [if_pos e2]
    (repeat' split) <;> first
    | exact h0
    | (simp only [kq_give hk, kq_read hk, kq_lay hk, kq_compute hk, kq_swap hk, kq_beginAtom hk, kq_endAtom hk, kq_rows hk, kq53 hk]; exact h0)
    | (simp [st2]; exact h1 (by assumption))
    | (simp [st2]; exact h2 (by assumption))
  rw [if_neg e2]
  by_cases e3 : aK σ t = (3 : Int32)
  · rw [if_pos e3]
    (repeat' split) <;> first
    | exact h0
    | (simp only [kq_give hk, kq_read hk, kq_lay hk, kq_compute hk, kq_swap hk, kq_beginAtom hk, kq_endAtom hk, kq_rows hk, kq53 hk]; exact h0)
    | (simp [st2]; exact h1 (by assumption))
    | (simp [st2]; exact h2 (by assumption))
  rw [if_neg e3]
  by_cases e4 : aK σ t = (4 : Int32)
  · rw [if_pos e4]
    (repeat' split) <;> first
    | exact h0
    | (simp only [kq_give hk, kq_read hk, kq_lay hk, kq_compute hk, kq_swap hk, kq_beginAtom hk, kq_endAtom hk, kq_rows hk, kq53 hk]; exact h0)
    | (simp [st2]; exact h1 (by assumption))
    | (simp [st2]; exact h2 (by assumption))
  rw [if_neg e4]
  by_cases e5 : aK σ t = (5 : Int32)
  · rw [if_pos e5]
    (repeat' split) <;> first
    | exact h0
    | (simp only [kq_give hk, kq_read hk, kq_lay hk, kq_compute hk, kq_swap hk, kq_beginAtom hk, kq_endAtom hk, kq_rows hk, kq53 hk]; exact h0)
    | (simp [st2]; exact h1 (by assumption))
    | (simp [st2]; exact h2 (by assumption))
  rw [if_neg e5]
  by_cases e6 : aK σ t = (6 : Int32)
  · rw [if_pos e6]
    (repeat' split) <;> first
    | exact h0
    | (simp only [kq_give hk, kq_read hk, kq_lay hk, kq_compute hk, kq_swap hk, kq_beginAtom hk, kq_endAtom hk, kq_rows hk, kq53 hk]; exact h0)
    | (simp [st2]; exact h1 (by assumption))
    | (simp [st2]; exact h2 (by assumption))
  rw [if_neg e6]
  by_cases e9 : aK σ t = (9 : Int32)
  · rw [if_pos e9]
    (repeat' split) <;> first
    | exact h0
    | (simp only [kq_give hk, kq_read hk, kq_lay hk, kq_compute hk, kq_swap hk, kq_beginAtom hk, kq_endAtom hk, kq_rows hk, kq53 hk]; exact h0)
    | (simp [st2]; exact h1 (by assumption))
    | (simp [st2]; exact h2 (by assumption))
  rw [if_neg e9]
  by_cases e10 : aK σ t = (10 : Int32)
  · rw [if_pos e10]
    (repeat' split) <;> first
    | exact h0
    | (simp only [kq_give hk, kq_read hk, kq_lay hk, kq_compute hk, kq_swap hk, kq_beginAtom hk, kq_endAtom hk, kq_rows hk, kq53 hk]; exact h0)
    | (simp [st2]; exact h1 (by assumption))
    | (simp [st2]; exact h2 (by assumption))
  rw [if_neg e10]
  by_cases e11 : aK σ t = (11 : Int32)
  · rw [if_pos e11]
    (repeat' split) <;> first
    | exact h0
    | (simp only [kq_give hk, kq_read hk, kq_lay hk, kq_compute hk, kq_swap hk, kq_beginAtom hk, kq_endAtom hk, kq_rows hk, kq53 hk]; exact h0)
    | (simp [st2]; exact h1 (by assumption))
    | (simp [st2]; exact h2 (by assumption))
  rw [if_neg e11]
  by_cases e12 : aK σ t = (12 : Int32)
  · rw [if_pos e12]
    (repeat' split) <;> first
    | exact h0
    | (simp only [kq_give hk, kq_read hk, kq_lay hk, kq_compute hk, kq_swap hk, kq_beginAtom hk, kq_endAtom hk, kq_rows hk, kq53 hk]; exact h0)
    | (simp [st2]; exact h1 (by assumption))
    | (simp [st2]; exact h2 (by assumption))
  rw [if_neg e12]
  by_cases e13 : aK σ t = (13 : Int32)
  · rw [if_pos e13]
    (repeat' split) <;> first
    | exact h0
    | (simp only [kq_give hk, kq_read hk, kq_lay hk, kq_compute hk, kq_swap hk, kq_beginAtom hk, kq_endAtom hk, kq_rows hk, kq53 hk]; exact h0)
    | (simp [st2]; exact h1 (by assumption))
    | (simp [st2]; exact h2 (by assumption))
  rw [if_neg e13]
  by_cases e14 : aK σ t = (14 : Int32)
  · rw [if_pos e14]
    (repeat' split) <;> first
    | exact h0
    | (simp only [kq_give hk, kq_read hk, kq_lay hk, kq_compute hk, kq_swap hk, kq_beginAtom hk, kq_endAtom hk, kq_rows hk, kq53 hk]; exact h0)
    | (simp [st2]; exact h1 (by assumption))
    | (simp [st2]; exact h2 (by assumption))
  rw [if_neg e14]
  by_cases e15 : aK σ t = (15 : Int32)
  · rw [if_pos e15]
    (repeat' split) <;> first
    | exact h0
    | (simp only [kq_give hk, kq_read hk, kq_lay hk, kq_compute hk, kq_swap hk, kq_beginAtom hk, kq_endAtom hk, kq_rows hk, kq53 hk]; exact h0)
    | (simp [st2]; exact h1 (by assumption))
    | (simp [st2]; exact h2 (by assumption))
  rw [if_neg e15]
  by_cases e16 : aK σ t = (16 : Int32)
  · rw [if_pos e16]
    (repeat' split) <;> first
    | exact h0
    | (simp only [kq_give hk, kq_read hk, kq_lay hk, kq_compute hk, kq_swap hk, kq_beginAtom hk, kq_endAtom hk, kq_rows hk, kq53 hk]; exact h0)
    | (simp [st2]; exact h1 (by assumption))
    | (simp [st2]; exact h2 (by assumption))
  rw [if_neg e16]
  (repeat' split) <;> first
    | exact h0
    | (simp only [kq_give hk, kq_read hk, kq_lay hk, kq_compute hk, kq_swap hk, kq_beginAtom hk, kq_endAtom hk, kq_rows hk, kq53 hk]; exact h0)
    | (simp [st2]; exact h1 (by assumption))
    | (simp [st2]; exact h2 (by assumption))
theorem tries_doAct {b : Nat} {σ : mS} {t : Int32} (h : RI b σ) (ht : vp_in t 3) (_ : σ 66 t.toNatClampNeg < σ 60 t.toNatClampNeg) : vp_in ((f_X6_doAct σ t).2 71 t.toNatClampNeg) 5 :=
  tries_any (fun x => vp_in x 5) (h.1.2.2.1 _ (vin_lt ht)) (fun e => tr_up (h.1.2.2.1 _ (vin_lt ht)) e) (fun e => tr_dn (h.1.2.2.1 _ (vin_lt ht)) e)
def f_X6_doTurn (σ : mS) (x1 : Int32) : Int32 × mS := (if ((st2 (st2 σ 53 32 (0 : Int32)) 69 x1.toNatClampNeg (((st2 σ 53 32 (0 : Int32)) 69 x1.toNatClampNeg) + (1 : Int32))) 66 x1.toNatClampNeg) < ((st2 (st2 σ 53 32 (0 : Int32)) 69 x1.toNatClampNeg (((st2 σ 53 32 (0 : Int32)) 69 x1.toNatClampNeg) + (1 : Int32))) 60 x1.toNatClampNeg) then (ap (fun u2 => (if (u2.2 53 32) = 0 then (0, (st2 u2.2 66 x1.toNatClampNeg u2.1)) else (ap (fun u4 => (0, u4.2)) (f_X6_fail u2.2 x1)))) (f_X6_doAct (st2 (st2 σ 53 32 (0 : Int32)) 69 x1.toNatClampNeg (((st2 σ 53 32 (0 : Int32)) 69 x1.toNatClampNeg) + (1 : Int32))) x1)) else (ap (fun u6 => (0, u6.2)) (f_X6_fail (st2 (st2 (st2 σ 53 32 (0 : Int32)) 69 x1.toNatClampNeg (((st2 σ 53 32 (0 : Int32)) 69 x1.toNatClampNeg) + (1 : Int32))) 53 32 (5 : Int32)) x1)))
theorem mw_X6_doTurn : mW yX6_doTurn cX6_doTurn 3 none 1 := ⟨wd_co_yX6_doTurn, wd_ini_RX6, ⟨by decide, by decide⟩, by decide +kernel, by decide⟩
set_option maxRecDepth 100000 in
set_option maxHeartbeats 4000000 in
theorem c_X6_doTurn (l : Launch) {G : gT} (hF : FullR G) (σ : mS) (x1 : Int32) (ht : vp_in x1 3) (b : Nat) (hRI : RI b σ) (hb : b < 2 ^ 26) : Ct l G yX6_doTurn cX6_doTurn 3 none 6 [.ref (ad G 53), .int x1] κV σ (f_X6_doTurn σ x1) := by
  refine Ct.ofV [(0, .ref (ad G 53)), (1, .int x1)] rfl (by decide) (Nat.le_of_ble_eq_true rfl) rfl (fun X => ?_)
  unfold f_X6_doTurn
  refine Vaload_n dX6_doTurn_0 0 rfl 1 rfl ?_
  refine Viconst dX6_doTurn_1 (0 : Int32) (by decide) 2 rfl ?_
  refine Vput (53) 32 tyX6 dX6_doTurn_2 5 rfl (hF.1 53 (by decide)) wk53 rfl inX6 tyX6_ok nmX6 (by decide) wd_fl_RX6_133 rfl (ty := .int) (by decide +kernel) rfl rfl (fun f => rfl) (fun f => Nat.le_of_ble_eq_true rfl) ?_
  refine Vaload_n dX6_doTurn_5 0 rfl 6 rfl ?_
  refine Vget (53) 16 dX6_doTurn_6 9 rfl (hF.1 53 (by decide)) wk53 rfl inX6 (by decide) wd_fl_RX6_56 (v := .ref (ad G 69)) rfl ?_
  refine Vload_n dX6_doTurn_9 1 rfl 10 rfl ?_
  refine Vdup2 dX6_doTurn_10 11 rfl ?_
  refine Vld dX6_doTurn_11 12 rfl (hF.1 69 (by decide)) wk69 wn69 hF.2.1 (by first | exact (by assumption) | exact (vin_cmp2 (by assumption) (by assumption) (by decide)) | exact (vin_cell (by assumption)) | exact (vin_reg (by assumption)) | exact (vin_row (by assumption)) | exact (vin_cnt (by assumption) (by assumption) (by decide) (by decide) (by assumption)) | exact (vin_cmp (by assumption) (by assumption) (by decide)) | exact (vp_in_iff.mpr (by decide)) | exact (vin_mCell (by assumption)) | exact (vin_mRegister (by assumption)) | exact (vin_w (by assumption) (by decide))) ?_
  refine Viconst dX6_doTurn_12 (1 : Int32) (by decide) 13 rfl ?_
  refine Viadd dX6_doTurn_13 14 rfl ?_
  refine Vst dX6_doTurn_14 15 rfl (hF.1 69 (by decide)) wk69 wn69 hF.2.1 (by first | exact (by assumption) | exact (vin_cmp2 (by assumption) (by assumption) (by decide)) | exact (vin_cell (by assumption)) | exact (vin_reg (by assumption)) | exact (vin_row (by assumption)) | exact (vin_cnt (by assumption) (by assumption) (by decide) (by decide) (by assumption)) | exact (vin_cmp (by assumption) (by assumption) (by decide)) | exact (vp_in_iff.mpr (by decide)) | exact (vin_mCell (by assumption)) | exact (vin_mRegister (by assumption)) | exact (vin_w (by assumption) (by decide))) ?_
  refine Viconst dX6_doTurn_15 (0 : Int32) (by decide) 16 rfl ?_
  refine Vstore_n dX6_doTurn_16 [(2, .int (0 : Int32)), (0, .ref (ad G 53)), (1, .int x1)] 17 rfl (by decide) rfl ?_
  refine Vaload_n dX6_doTurn_17 1 rfl 18 rfl ?_
  refine Vget (53) 13 dX6_doTurn_18 21 rfl (hF.1 53 (by decide)) wk53 rfl inX6 (by decide) wd_fl_RX6_47 (v := .ref (ad G 66)) rfl ?_
  refine Vload_n dX6_doTurn_21 2 rfl 22 rfl ?_
  refine Vld dX6_doTurn_22 23 rfl (hF.1 66 (by decide)) wk66 wn66 hF.2.1 (by first | exact (by assumption) | exact (vin_cmp2 (by assumption) (by assumption) (by decide)) | exact (vin_cell (by assumption)) | exact (vin_reg (by assumption)) | exact (vin_row (by assumption)) | exact (vin_cnt (by assumption) (by assumption) (by decide) (by decide) (by assumption)) | exact (vin_cmp (by assumption) (by assumption) (by decide)) | exact (vp_in_iff.mpr (by decide)) | exact (vin_mCell (by assumption)) | exact (vin_mRegister (by assumption)) | exact (vin_w (by assumption) (by decide))) ?_
  refine Vaload_n dX6_doTurn_23 1 rfl 24 rfl ?_
  refine Vget (53) 7 dX6_doTurn_24 27 rfl (hF.1 53 (by decide)) wk53 rfl inX6 (by decide) wd_fl_RX6_29 (v := .ref (ad G 60)) rfl ?_
  refine Vload_n dX6_doTurn_27 2 rfl 28 rfl ?_
  refine Vld dX6_doTurn_28 29 rfl (hF.1 60 (by decide)) wk60 wn60 hF.2.1 (by first | exact (by assumption) | exact (vin_cmp2 (by assumption) (by assumption) (by decide)) | exact (vin_cell (by assumption)) | exact (vin_reg (by assumption)) | exact (vin_row (by assumption)) | exact (vin_cnt (by assumption) (by assumption) (by decide) (by decide) (by assumption)) | exact (vin_cmp (by assumption) (by assumption) (by decide)) | exact (vp_in_iff.mpr (by decide)) | exact (vin_mCell (by assumption)) | exact (vin_mRegister (by assumption)) | exact (vin_w (by assumption) (by decide))) ?_
  refine Viclt (fun v => v) dX6_doTurn_29 40 32 (by decide) rfl (fun h1 => ?_) (fun h1 => ?_)
  · refine Vaload_n dX6_doTurn_40 1 rfl 41 rfl ?_
    refine Vload_n dX6_doTurn_41 2 rfl 42 rfl ?_
    have hR1 : RI b (st2 (st2 σ 53 32 (0 : Int32)) 69 x1.toNatClampNeg (((st2 σ 53 32 (0 : Int32)) 69 x1.toNatClampNeg) + (1 : Int32))) := hRI.tick _ _ _
    refine Vgen ?_
    intro u2 eu2
    refine VcVi (u := u2) dX6_doTurn_42 [.int x1] (by rw [eu2]; exact c_X6_doAct l hF (st2 (st2 σ 53 32 (0 : Int32)) 69 x1.toNatClampNeg (((st2 σ 53 32 (0 : Int32)) 69 x1.toNatClampNeg) + (1 : Int32))) x1 ht (act_p hR1 ht (by assumption)) (act_f hR1 ht (by assumption)) hR1.2.1 b hR1.2.2 (by omega) hR1.1.2.2.2.2.2.1 (hR1.1.2.2.1 _ (vin_lt ht))) mw_X6_doAct wd_im_yX6_doAct wd_se_yX6_doAct wd_ml_RX6_184 (hF.1 53 (by decide)) wk53 rfl rfl (by decide) rfl rfl (Nat.le_of_ble_eq_true rfl) 45 rfl ?_
    have hTu : vp_in (u2.2 71 x1.toNatClampNeg) 5 := by rw [eu2]; exact tries_doAct hR1 ht (by assumption)
    refine Vstore_n dX6_doTurn_45 [(2, .int u2.1), (0, .ref (ad G 53)), (1, .int x1)] 46 rfl (by decide) rfl ?_
    refine Vaload_n dX6_doTurn_46 1 rfl 47 rfl ?_
    refine Vget (53) 32 dX6_doTurn_47 50 rfl (hF.1 53 (by decide)) wk53 rfl inX6 (by decide) wd_fl_RX6_133 (v := .int (u2.2 53 32)) rfl ?_
    refine Vifeq (fun v => v) dX6_doTurn_50 61 53 (by decide) rfl (fun h3 => ?_) (fun h3 => ?_)
    · refine Vaload_n dX6_doTurn_61 1 rfl 62 rfl ?_
      refine Vget (53) 13 dX6_doTurn_62 65 rfl (hF.1 53 (by decide)) wk53 rfl inX6 (by decide) wd_fl_RX6_47 (v := .ref (ad G 66)) rfl ?_
      refine Vload_n dX6_doTurn_65 2 rfl 66 rfl ?_
      refine Vload_n dX6_doTurn_66 0 rfl 67 rfl ?_
      refine Vst dX6_doTurn_67 68 rfl (hF.1 66 (by decide)) wk66 wn66 hF.2.1 (by first | exact (by assumption) | exact (vin_cmp2 (by assumption) (by assumption) (by decide)) | exact (vin_cell (by assumption)) | exact (vin_reg (by assumption)) | exact (vin_row (by assumption)) | exact (vin_cnt (by assumption) (by assumption) (by decide) (by decide) (by assumption)) | exact (vin_cmp (by assumption) (by assumption) (by decide)) | exact (vp_in_iff.mpr (by decide)) | exact (vin_mCell (by assumption)) | exact (vin_mRegister (by assumption)) | exact (vin_w (by assumption) (by decide))) ?_
      exact Vvret dX6_doTurn_68
    · refine Vaload_n dX6_doTurn_53 1 rfl 54 rfl ?_
      refine Vload_n dX6_doTurn_54 2 rfl 55 rfl ?_
      refine Vgen ?_
      intro u4 eu4
      refine VcVv (u := u4) dX6_doTurn_55 [.int x1] (by rw [eu4]; exact c_X6_fail l hF u2.2 x1 ht (by first | exact hTu | exact (by simpa [st2] using hRI.1.2.2.1 _ (vin_lt ht)))) mw_X6_fail wd_im_yX6_fail wd_se_yX6_fail wd_ml_RX6_187 (hF.1 53 (by decide)) wk53 rfl rfl (by decide) rfl rfl (Nat.le_of_ble_eq_true rfl) 58 rfl ?_
      refine Vgoto dX6_doTurn_58 68 (by decide) ?_
      exact Vvret dX6_doTurn_68
  · refine Vaload_n dX6_doTurn_32 1 rfl 33 rfl ?_
    refine Viconst dX6_doTurn_33 (5 : Int32) (by decide) 34 rfl ?_
    refine Vput (53) 32 tyX6 dX6_doTurn_34 37 rfl (hF.1 53 (by decide)) wk53 rfl inX6 tyX6_ok nmX6 (by decide) wd_fl_RX6_133 rfl (ty := .int) (by decide +kernel) rfl rfl (fun f => rfl) (fun f => Nat.le_of_ble_eq_true rfl) ?_
    refine Vgoto dX6_doTurn_37 46 (by decide) ?_
    refine Vaload_n dX6_doTurn_46 1 rfl 47 rfl ?_
    refine Vget (53) 32 dX6_doTurn_47 50 rfl (hF.1 53 (by decide)) wk53 rfl inX6 (by decide) wd_fl_RX6_133 (v := .int (5 : Int32)) rfl ?_
    refine Kifeqf dX6_doTurn_50 53 (by decide) rfl 61 (by decide) ?_
    refine Vaload_n dX6_doTurn_53 1 rfl 54 rfl ?_
    refine Vload_n dX6_doTurn_54 2 rfl 55 rfl ?_
    refine Vgen ?_
    intro u6 eu6
    refine VcVv (u := u6) dX6_doTurn_55 [.int x1] (by rw [eu6]; exact c_X6_fail l hF (st2 (st2 (st2 σ 53 32 (0 : Int32)) 69 x1.toNatClampNeg (((st2 σ 53 32 (0 : Int32)) 69 x1.toNatClampNeg) + (1 : Int32))) 53 32 (5 : Int32)) x1 ht (by first | exact hTu | exact (by simpa [st2] using hRI.1.2.2.1 _ (vin_lt ht)))) mw_X6_fail wd_im_yX6_fail wd_se_yX6_fail wd_ml_RX6_187 (hF.1 53 (by decide)) wk53 rfl rfl (by decide) rfl rfl (Nat.le_of_ble_eq_true rfl) 58 rfl ?_
    refine Vgoto dX6_doTurn_58 68 (by decide) ?_
    exact Vvret dX6_doTurn_68
def f_X6_turn (σ : mS) (x1 : Int32) : Int32 × mS := (if (f_X6_within x1 (0 : Int32) (2 : Int32)) = 0 then ((-2 : Int32), σ) else (if (f_X6_stateOf σ x1) = 0 then (if (σ 53 0) = (5000 : Int32) then ((-3 : Int32), σ) else (ap (fun u4 => ((f_X6_stateOf u4.2 x1), u4.2)) (f_X6_doTurn σ x1))) else ((-3 : Int32), σ)))
theorem mw_X6_turn : mW yX6_turn cX6_turn 2 (some .int) 1 := ⟨wd_co_yX6_turn, wd_ini_RX6, ⟨by decide, by decide⟩, by decide +kernel, by decide⟩
set_option maxRecDepth 100000 in
set_option maxHeartbeats 4000000 in
theorem c_X6_turn (l : Launch) {G : gT} (hF : FullR G) (σ : mS) (x1 : Int32) (b : Nat) (hRI : RI b σ) (hb : b < 2 ^ 26) : Ct l G yX6_turn cX6_turn 2 (some .int) 7 [.ref (ad G 53), .int x1] κI σ (f_X6_turn σ x1) := by
  refine Ct.ofV [(0, .ref (ad G 53)), (1, .int x1)] rfl (by decide) (Nat.le_of_ble_eq_true rfl) rfl (fun X => ?_)
  unfold f_X6_turn
  refine Vload_n dX6_turn_0 1 rfl 1 rfl ?_
  refine Viconst dX6_turn_1 (0 : Int32) (by decide) 2 rfl ?_
  refine Viconst dX6_turn_2 (2 : Int32) (by decide) 3 rfl ?_
  refine VcSp dX6_turn_3 [.int x1, .int (0 : Int32), .int (2 : Int32)] (c_X6_within l hF σ x1 (0 : Int32) (2 : Int32)) mw_X6_within wd_sm_yX6_within wd_ml_RX6_111 (by decide) rfl rfl (Nat.le_of_ble_eq_true rfl) 6 rfl ?_
  refine Vifne (fun v => v) dX6_turn_6 12 9 (by decide) rfl (fun h1 => ?_) (fun h1 => ?_)
  · refine Vaload_n dX6_turn_12 0 rfl 13 rfl ?_
    refine Vload_n dX6_turn_13 1 rfl 14 rfl ?_
    refine VcVp dX6_turn_14 [.int x1] (c_X6_stateOf l hF σ x1 (vin_w (by assumption) (by decide))) mw_X6_stateOf wd_im_yX6_stateOf wd_se_yX6_stateOf wd_ml_RX6_190 (hF.1 53 (by decide)) wk53 rfl rfl (by decide) rfl rfl (Nat.le_of_ble_eq_true rfl) 17 rfl ?_
    refine Vifne (fun v => v) dX6_turn_17 30 20 (by decide) rfl (fun h2 => ?_) (fun h2 => ?_)
    · refine Vbipush dX6_turn_30 (-3 : Int32) (by decide) 32 rfl ?_
      exact Viret dX6_turn_32
    · refine Vaload_n dX6_turn_20 0 rfl 21 rfl ?_
      refine Vget (53) 0 dX6_turn_21 24 rfl (hF.1 53 (by decide)) wk53 rfl inX6 (by decide) wd_fl_RX6_181 (v := .int (σ 53 0)) rfl ?_
      refine Vsipush dX6_turn_24 (5000 : Int32) (by decide) 27 rfl ?_
      refine Vicne (fun v => v) dX6_turn_27 33 30 (by decide) rfl (fun h3 => ?_) (fun h3 => ?_)
      · refine Vaload_n dX6_turn_33 0 rfl 34 rfl ?_
        refine Vload_n dX6_turn_34 1 rfl 35 rfl ?_
        refine Vgen ?_
        intro u4 eu4
        refine VcVv (u := u4) dX6_turn_35 [.int x1] (by rw [eu4]; exact c_X6_doTurn l hF σ x1 (vin_w (by assumption) (by decide)) b hRI hb) mw_X6_doTurn wd_im_yX6_doTurn wd_se_yX6_doTurn wd_ml_RX6_193 (hF.1 53 (by decide)) wk53 rfl rfl (by decide) rfl rfl (Nat.le_of_ble_eq_true rfl) 38 rfl ?_
        refine Vaload_n dX6_turn_38 0 rfl 39 rfl ?_
        refine Vload_n dX6_turn_39 1 rfl 40 rfl ?_
        refine VcVp dX6_turn_40 [.int x1] (c_X6_stateOf l hF u4.2 x1 (vin_w (by assumption) (by decide))) mw_X6_stateOf wd_im_yX6_stateOf wd_se_yX6_stateOf wd_ml_RX6_190 (hF.1 53 (by decide)) wk53 rfl rfl (by decide) rfl rfl (Nat.le_of_ble_eq_true rfl) 43 rfl ?_
        exact Viret dX6_turn_43
      · refine Vbipush dX6_turn_30 (-3 : Int32) (by decide) 32 rfl ?_
        exact Viret dX6_turn_32
  · refine Vbipush dX6_turn_9 (-2 : Int32) (by decide) 11 rfl ?_
    exact Viret dX6_turn_11
def f_X6_told (σ : mS) (x1 : Int32) (x2 : Int32) : Int32 := (if (f_X6_within x1 (0 : Int32) (2 : Int32)) = 0 then (-2 : Int32) else (if x2 = (0 : Int32) then (f_X6_stateOf σ x1) else (if x2 = (1 : Int32) then (σ 66 x1.toNatClampNeg) else (if x2 = (2 : Int32) then (σ 67 x1.toNatClampNeg) else (if x2 = (3 : Int32) then (σ 71 x1.toNatClampNeg) else (if x2 = (4 : Int32) then (if (σ 73 x1.toNatClampNeg) = 0 then (0 : Int32) else (1 : Int32)) else (if x2 = (5 : Int32) then (σ 69 x1.toNatClampNeg) else (if x2 = (6 : Int32) then (σ 70 x1.toNatClampNeg) else (-2 : Int32)))))))))
theorem mw_X6_told : mW yX6_told cX6_told 3 (some .int) 2 := ⟨wd_co_yX6_told, wd_ini_RX6, ⟨by decide, by decide⟩, by decide +kernel, by decide⟩
set_option maxRecDepth 100000 in
set_option maxHeartbeats 4000000 in
theorem c_X6_told (l : Launch) {G : gT} (hF : FullR G) (σ : mS) (x1 : Int32) (x2 : Int32)  : Ct l G yX6_told cX6_told 3 (some .int) 1 [.ref (ad G 53), .int x1, .int x2] κI σ (f_X6_told σ x1 x2, σ) := by
  refine Ct.ofV [(0, .ref (ad G 53)), (1, .int x1), (2, .int x2)] rfl (by decide) (Nat.le_of_ble_eq_true rfl) rfl (fun X => ?_)
  unfold f_X6_told
  refine Vload_n dX6_told_0 1 rfl 1 rfl ?_
  refine Viconst dX6_told_1 (0 : Int32) (by decide) 2 rfl ?_
  refine Viconst dX6_told_2 (2 : Int32) (by decide) 3 rfl ?_
  refine VcSp dX6_told_3 [.int x1, .int (0 : Int32), .int (2 : Int32)] (c_X6_within l hF σ x1 (0 : Int32) (2 : Int32)) mw_X6_within wd_sm_yX6_within wd_ml_RX6_111 (by decide) rfl rfl (Nat.le_of_ble_eq_true rfl) 6 rfl ?_
  refine Vifne (fun v => (v, σ)) dX6_told_6 12 9 (by decide) rfl (fun h1 => ?_) (fun h1 => ?_)
  · refine Vload_n dX6_told_12 2 rfl 13 rfl ?_
    refine Vif (fun v => (v, σ)) (fun h2 => ?_) (fun h2 => ?_)
    · refine Vswin dX6_told_13 52 (by rw [h2]; decide) (by rw [h2]; decide) (off := 39) (by rw [h2]; rfl) (by decide) ?_
      refine Vaload_n dX6_told_52 0 rfl 53 rfl ?_
      refine Vload_n dX6_told_53 1 rfl 54 rfl ?_
      refine VcVp dX6_told_54 [.int x1] (c_X6_stateOf l hF σ x1 (vin_w (by assumption) (by decide))) mw_X6_stateOf wd_im_yX6_stateOf wd_se_yX6_stateOf wd_ml_RX6_190 (hF.1 53 (by decide)) wk53 rfl rfl (by decide) rfl rfl (Nat.le_of_ble_eq_true rfl) 57 rfl ?_
      exact Viret dX6_told_57
    refine Vif (fun v => (v, σ)) (fun h3 => ?_) (fun h3 => ?_)
    · refine Vswin dX6_told_13 58 (by rw [h3]; decide) (by rw [h3]; decide) (off := 45) (by rw [h3]; rfl) (by decide) ?_
      refine Vaload_n dX6_told_58 0 rfl 59 rfl ?_
      refine Vget (53) 13 dX6_told_59 62 rfl (hF.1 53 (by decide)) wk53 rfl inX6 (by decide) wd_fl_RX6_47 (v := .ref (ad G 66)) rfl ?_
      refine Vload_n dX6_told_62 1 rfl 63 rfl ?_
      refine Vld dX6_told_63 64 rfl (hF.1 66 (by decide)) wk66 wn66 hF.2.1 (by first | exact (by assumption) | exact (vin_cmp2 (by assumption) (by assumption) (by decide)) | exact (vin_cell (by assumption)) | exact (vin_reg (by assumption)) | exact (vin_row (by assumption)) | exact (vin_cnt (by assumption) (by assumption) (by decide) (by decide) (by assumption)) | exact (vin_cmp (by assumption) (by assumption) (by decide)) | exact (vp_in_iff.mpr (by decide)) | exact (vin_mCell (by assumption)) | exact (vin_mRegister (by assumption)) | exact (vin_w (by assumption) (by decide))) ?_
      exact Viret dX6_told_64
    refine Vif (fun v => (v, σ)) (fun h4 => ?_) (fun h4 => ?_)
    · refine Vswin dX6_told_13 65 (by rw [h4]; decide) (by rw [h4]; decide) (off := 52) (by rw [h4]; rfl) (by decide) ?_
      refine Vaload_n dX6_told_65 0 rfl 66 rfl ?_
      refine Vget (53) 14 dX6_told_66 69 rfl (hF.1 53 (by decide)) wk53 rfl inX6 (by decide) wd_fl_RX6_50 (v := .ref (ad G 67)) rfl ?_
      refine Vload_n dX6_told_69 1 rfl 70 rfl ?_
      refine Vld dX6_told_70 71 rfl (hF.1 67 (by decide)) wk67 wn67 hF.2.1 (by first | exact (by assumption) | exact (vin_cmp2 (by assumption) (by assumption) (by decide)) | exact (vin_cell (by assumption)) | exact (vin_reg (by assumption)) | exact (vin_row (by assumption)) | exact (vin_cnt (by assumption) (by assumption) (by decide) (by decide) (by assumption)) | exact (vin_cmp (by assumption) (by assumption) (by decide)) | exact (vp_in_iff.mpr (by decide)) | exact (vin_mCell (by assumption)) | exact (vin_mRegister (by assumption)) | exact (vin_w (by assumption) (by decide))) ?_
      exact Viret dX6_told_71
    refine Vif (fun v => (v, σ)) (fun h5 => ?_) (fun h5 => ?_)
    · refine Vswin dX6_told_13 72 (by rw [h5]; decide) (by rw [h5]; decide) (off := 59) (by rw [h5]; rfl) (by decide) ?_
      refine Vaload_n dX6_told_72 0 rfl 73 rfl ?_
      refine Vget (53) 18 dX6_told_73 76 rfl (hF.1 53 (by decide)) wk53 rfl inX6 (by decide) wd_fl_RX6_62 (v := .ref (ad G 71)) rfl ?_
      refine Vload_n dX6_told_76 1 rfl 77 rfl ?_
      refine Vld dX6_told_77 78 rfl (hF.1 71 (by decide)) wk71 wn71 hF.2.1 (by first | exact (by assumption) | exact (vin_cmp2 (by assumption) (by assumption) (by decide)) | exact (vin_cell (by assumption)) | exact (vin_reg (by assumption)) | exact (vin_row (by assumption)) | exact (vin_cnt (by assumption) (by assumption) (by decide) (by decide) (by assumption)) | exact (vin_cmp (by assumption) (by assumption) (by decide)) | exact (vp_in_iff.mpr (by decide)) | exact (vin_mCell (by assumption)) | exact (vin_mRegister (by assumption)) | exact (vin_w (by assumption) (by decide))) ?_
      exact Viret dX6_told_78
    refine Vif (fun v => (v, σ)) (fun h6 => ?_) (fun h6 => ?_)
    · refine Vswin dX6_told_13 79 (by rw [h6]; decide) (by rw [h6]; decide) (off := 66) (by rw [h6]; rfl) (by decide) ?_
      refine Vaload_n dX6_told_79 0 rfl 80 rfl ?_
      refine Vget (53) 20 dX6_told_80 83 rfl (hF.1 53 (by decide)) wk53 rfl inX6 (by decide) wd_fl_RX6_68 (v := .ref (ad G 73)) rfl ?_
      refine Vload_n dX6_told_83 1 rfl 84 rfl ?_
      refine Vldz dX6_told_84 85 rfl (hF.1 73 (by decide)) wk73 wn73 hF.2.2.1 (by first | exact (by assumption) | exact (vin_cmp2 (by assumption) (by assumption) (by decide)) | exact (vin_cell (by assumption)) | exact (vin_reg (by assumption)) | exact (vin_row (by assumption)) | exact (vin_cnt (by assumption) (by assumption) (by decide) (by decide) (by assumption)) | exact (vin_cmp (by assumption) (by assumption) (by decide)) | exact (vp_in_iff.mpr (by decide)) | exact (vin_mCell (by assumption)) | exact (vin_mRegister (by assumption)) | exact (vin_w (by assumption) (by decide))) ?_
      refine Vifeq (fun v => (v, σ)) dX6_told_85 92 88 (by decide) rfl (fun h7 => ?_) (fun h7 => ?_)
      · refine Viconst dX6_told_92 (0 : Int32) (by decide) 93 rfl ?_
        exact Viret dX6_told_93
      · refine Viconst dX6_told_88 (1 : Int32) (by decide) 89 rfl ?_
        refine Vgoto dX6_told_89 93 (by decide) ?_
        exact Viret dX6_told_93
    refine Vif (fun v => (v, σ)) (fun h8 => ?_) (fun h8 => ?_)
    · refine Vswin dX6_told_13 94 (by rw [h8]; decide) (by rw [h8]; decide) (off := 81) (by rw [h8]; rfl) (by decide) ?_
      refine Vaload_n dX6_told_94 0 rfl 95 rfl ?_
      refine Vget (53) 16 dX6_told_95 98 rfl (hF.1 53 (by decide)) wk53 rfl inX6 (by decide) wd_fl_RX6_56 (v := .ref (ad G 69)) rfl ?_
      refine Vload_n dX6_told_98 1 rfl 99 rfl ?_
      refine Vld dX6_told_99 100 rfl (hF.1 69 (by decide)) wk69 wn69 hF.2.1 (by first | exact (by assumption) | exact (vin_cmp2 (by assumption) (by assumption) (by decide)) | exact (vin_cell (by assumption)) | exact (vin_reg (by assumption)) | exact (vin_row (by assumption)) | exact (vin_cnt (by assumption) (by assumption) (by decide) (by decide) (by assumption)) | exact (vin_cmp (by assumption) (by assumption) (by decide)) | exact (vp_in_iff.mpr (by decide)) | exact (vin_mCell (by assumption)) | exact (vin_mRegister (by assumption)) | exact (vin_w (by assumption) (by decide))) ?_
      exact Viret dX6_told_100
    refine Vswout dX6_told_13 (by have eh2 := lv_neT (a := 0) h2 (by decide); have eh3 := lv_neT (a := 1) h3 (by decide); have eh4 := lv_neT (a := 2) h4 (by decide); have eh5 := lv_neT (a := 3) h5 (by decide); have eh6 := lv_neT (a := 4) h6 (by decide); have eh8 := lv_neT (a := 5) h8 (by decide); omega) (tgt := 101) (by decide) ?_
    refine Vload_n dX6_told_101 2 rfl 102 rfl ?_
    refine Vbipush dX6_told_102 (6 : Int32) (by decide) 104 rfl ?_
    refine Vicne (fun v => (v, σ)) dX6_told_104 116 107 (by decide) rfl (fun h9 => ?_) (fun h9 => ?_)
    · refine Vbipush dX6_told_116 (-2 : Int32) (by decide) 118 rfl ?_
      exact Viret dX6_told_118
    · refine Vaload_n dX6_told_107 0 rfl 108 rfl ?_
      refine Vget (53) 17 dX6_told_108 111 rfl (hF.1 53 (by decide)) wk53 rfl inX6 (by decide) wd_fl_RX6_59 (v := .ref (ad G 70)) rfl ?_
      refine Vload_n dX6_told_111 1 rfl 112 rfl ?_
      refine Vld dX6_told_112 113 rfl (hF.1 70 (by decide)) wk70 wn70 hF.2.1 (by first | exact (by assumption) | exact (vin_cmp2 (by assumption) (by assumption) (by decide)) | exact (vin_cell (by assumption)) | exact (vin_reg (by assumption)) | exact (vin_row (by assumption)) | exact (vin_cnt (by assumption) (by assumption) (by decide) (by decide) (by assumption)) | exact (vin_cmp (by assumption) (by assumption) (by decide)) | exact (vp_in_iff.mpr (by decide)) | exact (vin_mCell (by assumption)) | exact (vin_mRegister (by assumption)) | exact (vin_w (by assumption) (by decide))) ?_
      refine Vgoto dX6_told_113 118 (by decide) ?_
      exact Viret dX6_told_118
  · refine Vbipush dX6_told_9 (-2 : Int32) (by decide) 11 rfl ?_
    exact Viret dX6_told_11
def f_X6_register (σ : mS) (x1 : Int32) (x2 : Int32) : Int32 := (if (f_X6_within x1 (0 : Int32) (2 : Int32)) = 0 then (-2 : Int32) else (if (f_X6_isRegister x2) = 0 then (-2 : Int32) else (f_X6_r σ x1 x2)))
theorem mw_X6_register : mW yX6_register cX6_register 3 (some .int) 2 := ⟨wd_co_yX6_register, wd_ini_RX6, ⟨by decide, by decide⟩, by decide +kernel, by decide⟩
set_option maxRecDepth 100000 in
set_option maxHeartbeats 4000000 in
theorem c_X6_register (l : Launch) {G : gT} (hF : FullR G) (σ : mS) (x1 : Int32) (x2 : Int32)  : Ct l G yX6_register cX6_register 3 (some .int) 2 [.ref (ad G 53), .int x1, .int x2] κI σ (f_X6_register σ x1 x2, σ) := by
  refine Ct.ofV [(0, .ref (ad G 53)), (1, .int x1), (2, .int x2)] rfl (by decide) (Nat.le_of_ble_eq_true rfl) rfl (fun X => ?_)
  unfold f_X6_register
  refine Vload_n dX6_register_0 1 rfl 1 rfl ?_
  refine Viconst dX6_register_1 (0 : Int32) (by decide) 2 rfl ?_
  refine Viconst dX6_register_2 (2 : Int32) (by decide) 3 rfl ?_
  refine VcSp dX6_register_3 [.int x1, .int (0 : Int32), .int (2 : Int32)] (c_X6_within l hF σ x1 (0 : Int32) (2 : Int32)) mw_X6_within wd_sm_yX6_within wd_ml_RX6_111 (by decide) rfl rfl (Nat.le_of_ble_eq_true rfl) 6 rfl ?_
  refine Vifeq (fun v => (v, σ)) dX6_register_6 25 9 (by decide) rfl (fun h1 => ?_) (fun h1 => ?_)
  · refine Vbipush dX6_register_25 (-2 : Int32) (by decide) 27 rfl ?_
    exact Viret dX6_register_27
  · refine Vload_n dX6_register_9 2 rfl 10 rfl ?_
    refine VcSp dX6_register_10 [.int x2] (c_X6_isRegister l hF σ x2) mw_X6_isRegister wd_sm_yX6_isRegister wd_ml_RX6_115 (by decide) rfl rfl (Nat.le_of_ble_eq_true rfl) 13 rfl ?_
    refine Vifeq (fun v => (v, σ)) dX6_register_13 25 16 (by decide) rfl (fun h2 => ?_) (fun h2 => ?_)
    · refine Vbipush dX6_register_25 (-2 : Int32) (by decide) 27 rfl ?_
      exact Viret dX6_register_27
    · refine Vaload_n dX6_register_16 0 rfl 17 rfl ?_
      refine Vload_n dX6_register_17 1 rfl 18 rfl ?_
      refine Vload_n dX6_register_18 2 rfl 19 rfl ?_
      refine VcVp dX6_register_19 [.int x1, .int x2] (c_X6_r l hF σ x1 x2 (vin_w (by assumption) (by decide)) (vin_mRegister (by assumption))) mw_X6_r wd_im_yX6_r wd_se_yX6_r wd_ml_RX6_153 (hF.1 53 (by decide)) wk53 rfl rfl (by decide) rfl rfl (Nat.le_of_ble_eq_true rfl) 22 rfl ?_
      refine Vgoto dX6_register_22 27 (by decide) ?_
      exact Viret dX6_register_27
def f_X6_cell (σ : mS) (x1 : Int32) : Int32 := (if (f_X6_isCell x1) = 0 then (-2 : Int32) else (σ 54 x1.toNatClampNeg))
theorem mw_X6_cell : mW yX6_cell cX6_cell 2 (some .int) 1 := ⟨wd_co_yX6_cell, wd_ini_RX6, ⟨by decide, by decide⟩, by decide +kernel, by decide⟩
set_option maxRecDepth 100000 in
set_option maxHeartbeats 4000000 in
theorem c_X6_cell (l : Launch) {G : gT} (hF : FullR G) (σ : mS) (x1 : Int32)  : Ct l G yX6_cell cX6_cell 2 (some .int) 2 [.ref (ad G 53), .int x1] κI σ (f_X6_cell σ x1, σ) := by
  refine Ct.ofV [(0, .ref (ad G 53)), (1, .int x1)] rfl (by decide) (Nat.le_of_ble_eq_true rfl) rfl (fun X => ?_)
  unfold f_X6_cell
  refine Vload_n dX6_cell_0 1 rfl 1 rfl ?_
  refine VcSp dX6_cell_1 [.int x1] (c_X6_isCell l hF σ x1) mw_X6_isCell wd_sm_yX6_isCell wd_ml_RX6_119 (by decide) rfl rfl (Nat.le_of_ble_eq_true rfl) 4 rfl ?_
  refine Vifeq (fun v => (v, σ)) dX6_cell_4 16 7 (by decide) rfl (fun h1 => ?_) (fun h1 => ?_)
  · refine Vbipush dX6_cell_16 (-2 : Int32) (by decide) 18 rfl ?_
    exact Viret dX6_cell_18
  · refine Vaload_n dX6_cell_7 0 rfl 8 rfl ?_
    refine Vget (53) 1 dX6_cell_8 11 rfl (hF.1 53 (by decide)) wk53 rfl inX6 (by decide) wd_fl_RX6_7 (v := .ref (ad G 54)) rfl ?_
    refine Vload_n dX6_cell_11 1 rfl 12 rfl ?_
    refine Vld dX6_cell_12 13 rfl (hF.1 54 (by decide)) wk54 wn54 hF.2.1 (by first | exact (by assumption) | exact (vin_cmp2 (by assumption) (by assumption) (by decide)) | exact (vin_cell (by assumption)) | exact (vin_reg (by assumption)) | exact (vin_row (by assumption)) | exact (vin_cnt (by assumption) (by assumption) (by decide) (by decide) (by assumption)) | exact (vin_cmp (by assumption) (by assumption) (by decide)) | exact (vp_in_iff.mpr (by decide)) | exact (vin_mCell (by assumption)) | exact (vin_mRegister (by assumption)) | exact (vin_w (by assumption) (by decide))) ?_
    refine Vgoto dX6_cell_13 18 (by decide) ?_
    exact Viret dX6_cell_18
def f_X6_lazy (σ : mS) (x1 : Int32) : Int32 := (if (f_X6_isCell x1) = 0 then (-2 : Int32) else (if (σ 55 x1.toNatClampNeg) = 0 then (0 : Int32) else (1 : Int32)))
theorem mw_X6_lazy : mW yX6_lazy cX6_lazy 2 (some .int) 1 := ⟨wd_co_yX6_lazy, wd_ini_RX6, ⟨by decide, by decide⟩, by decide +kernel, by decide⟩
set_option maxRecDepth 100000 in
set_option maxHeartbeats 4000000 in
theorem c_X6_lazy (l : Launch) {G : gT} (hF : FullR G) (σ : mS) (x1 : Int32)  : Ct l G yX6_lazy cX6_lazy 2 (some .int) 2 [.ref (ad G 53), .int x1] κI σ (f_X6_lazy σ x1, σ) := by
  refine Ct.ofV [(0, .ref (ad G 53)), (1, .int x1)] rfl (by decide) (Nat.le_of_ble_eq_true rfl) rfl (fun X => ?_)
  unfold f_X6_lazy
  refine Vload_n dX6_lazy_0 1 rfl 1 rfl ?_
  refine VcSp dX6_lazy_1 [.int x1] (c_X6_isCell l hF σ x1) mw_X6_isCell wd_sm_yX6_isCell wd_ml_RX6_119 (by decide) rfl rfl (Nat.le_of_ble_eq_true rfl) 4 rfl ?_
  refine Vifeq (fun v => (v, σ)) dX6_lazy_4 24 7 (by decide) rfl (fun h1 => ?_) (fun h1 => ?_)
  · refine Vbipush dX6_lazy_24 (-2 : Int32) (by decide) 26 rfl ?_
    exact Viret dX6_lazy_26
  · refine Vaload_n dX6_lazy_7 0 rfl 8 rfl ?_
    refine Vget (53) 2 dX6_lazy_8 11 rfl (hF.1 53 (by decide)) wk53 rfl inX6 (by decide) wd_fl_RX6_13 (v := .ref (ad G 55)) rfl ?_
    refine Vload_n dX6_lazy_11 1 rfl 12 rfl ?_
    refine Vldz dX6_lazy_12 13 rfl (hF.1 55 (by decide)) wk55 wn55 hF.2.2.1 (by first | exact (by assumption) | exact (vin_cmp2 (by assumption) (by assumption) (by decide)) | exact (vin_cell (by assumption)) | exact (vin_reg (by assumption)) | exact (vin_row (by assumption)) | exact (vin_cnt (by assumption) (by assumption) (by decide) (by decide) (by assumption)) | exact (vin_cmp (by assumption) (by assumption) (by decide)) | exact (vp_in_iff.mpr (by decide)) | exact (vin_mCell (by assumption)) | exact (vin_mRegister (by assumption)) | exact (vin_w (by assumption) (by decide))) ?_
    refine Vifeq (fun v => (v, σ)) dX6_lazy_13 20 16 (by decide) rfl (fun h2 => ?_) (fun h2 => ?_)
    · refine Viconst dX6_lazy_20 (0 : Int32) (by decide) 21 rfl ?_
      refine Vgoto dX6_lazy_21 26 (by decide) ?_
      exact Viret dX6_lazy_26
    · refine Viconst dX6_lazy_16 (1 : Int32) (by decide) 17 rfl ?_
      refine Vgoto dX6_lazy_17 26 (by decide) ?_
      exact Viret dX6_lazy_26
def f_X6_size (σ : mS) (x1 : Int32) : Int32 := (if (f_X6_within x1 (0 : Int32) (3 : Int32)) = 0 then (-2 : Int32) else (σ 57 x1.toNatClampNeg))
theorem mw_X6_size : mW yX6_size cX6_size 2 (some .int) 1 := ⟨wd_co_yX6_size, wd_ini_RX6, ⟨by decide, by decide⟩, by decide +kernel, by decide⟩
set_option maxRecDepth 100000 in
set_option maxHeartbeats 4000000 in
theorem c_X6_size (l : Launch) {G : gT} (hF : FullR G) (σ : mS) (x1 : Int32)  : Ct l G yX6_size cX6_size 2 (some .int) 1 [.ref (ad G 53), .int x1] κI σ (f_X6_size σ x1, σ) := by
  refine Ct.ofV [(0, .ref (ad G 53)), (1, .int x1)] rfl (by decide) (Nat.le_of_ble_eq_true rfl) rfl (fun X => ?_)
  unfold f_X6_size
  refine Vload_n dX6_size_0 1 rfl 1 rfl ?_
  refine Viconst dX6_size_1 (0 : Int32) (by decide) 2 rfl ?_
  refine Viconst dX6_size_2 (3 : Int32) (by decide) 3 rfl ?_
  refine VcSp dX6_size_3 [.int x1, .int (0 : Int32), .int (3 : Int32)] (c_X6_within l hF σ x1 (0 : Int32) (3 : Int32)) mw_X6_within wd_sm_yX6_within wd_ml_RX6_111 (by decide) rfl rfl (Nat.le_of_ble_eq_true rfl) 6 rfl ?_
  refine Vifeq (fun v => (v, σ)) dX6_size_6 18 9 (by decide) rfl (fun h1 => ?_) (fun h1 => ?_)
  · refine Vbipush dX6_size_18 (-2 : Int32) (by decide) 20 rfl ?_
    exact Viret dX6_size_20
  · refine Vaload_n dX6_size_9 0 rfl 10 rfl ?_
    refine Vget (53) 4 dX6_size_10 13 rfl (hF.1 53 (by decide)) wk53 rfl inX6 (by decide) wd_fl_RX6_20 (v := .ref (ad G 57)) rfl ?_
    refine Vload_n dX6_size_13 1 rfl 14 rfl ?_
    refine Vld dX6_size_14 15 rfl (hF.1 57 (by decide)) wk57 wn57 hF.2.1 (by first | exact (by assumption) | exact (vin_cmp2 (by assumption) (by assumption) (by decide)) | exact (vin_cell (by assumption)) | exact (vin_reg (by assumption)) | exact (vin_row (by assumption)) | exact (vin_cnt (by assumption) (by assumption) (by decide) (by decide) (by assumption)) | exact (vin_cmp (by assumption) (by assumption) (by decide)) | exact (vp_in_iff.mpr (by decide)) | exact (vin_mCell (by assumption)) | exact (vin_mRegister (by assumption)) | exact (vin_w (by assumption) (by decide))) ?_
    refine Vgoto dX6_size_15 20 (by decide) ?_
    exact Viret dX6_size_20
def f_X6_item (σ : mS) (x1 : Int32) (x2 : Int32) : Int32 := (if (f_X6_within x1 (0 : Int32) (3 : Int32)) = 0 then (-2 : Int32) else (if (f_X6_within x2 (0 : Int32) ((σ 57 x1.toNatClampNeg) - (1 : Int32))) = 0 then (0 : Int32) else (σ 58 (((8 : Int32) * x1) + x2).toNatClampNeg)))
theorem mw_X6_item : mW yX6_item cX6_item 3 (some .int) 2 := ⟨wd_co_yX6_item, wd_ini_RX6, ⟨by decide, by decide⟩, by decide +kernel, by decide⟩
set_option maxRecDepth 100000 in
set_option maxHeartbeats 4000000 in
theorem c_X6_item (l : Launch) {G : gT} (hF : FullR G) (σ : mS) (x1 : Int32) (x2 : Int32) (hS : ∀ r, r < 4 → σ 57 r = -1 ∨ vp_in (σ 57 r) 9) : Ct l G yX6_item cX6_item 3 (some .int) 1 [.ref (ad G 53), .int x1, .int x2] κI σ (f_X6_item σ x1 x2, σ) := by
  refine Ct.ofV [(0, .ref (ad G 53)), (1, .int x1), (2, .int x2)] rfl (by decide) (Nat.le_of_ble_eq_true rfl) rfl (fun X => ?_)
  unfold f_X6_item
  refine Vload_n dX6_item_0 1 rfl 1 rfl ?_
  refine Viconst dX6_item_1 (0 : Int32) (by decide) 2 rfl ?_
  refine Viconst dX6_item_2 (3 : Int32) (by decide) 3 rfl ?_
  refine VcSp dX6_item_3 [.int x1, .int (0 : Int32), .int (3 : Int32)] (c_X6_within l hF σ x1 (0 : Int32) (3 : Int32)) mw_X6_within wd_sm_yX6_within wd_ml_RX6_111 (by decide) rfl rfl (Nat.le_of_ble_eq_true rfl) 6 rfl ?_
  refine Vifne (fun v => (v, σ)) dX6_item_6 12 9 (by decide) rfl (fun h1 => ?_) (fun h1 => ?_)
  · refine Vload_n dX6_item_12 2 rfl 13 rfl ?_
    refine Viconst dX6_item_13 (0 : Int32) (by decide) 14 rfl ?_
    refine Vaload_n dX6_item_14 0 rfl 15 rfl ?_
    refine Vget (53) 4 dX6_item_15 18 rfl (hF.1 53 (by decide)) wk53 rfl inX6 (by decide) wd_fl_RX6_20 (v := .ref (ad G 57)) rfl ?_
    refine Vload_n dX6_item_18 1 rfl 19 rfl ?_
    refine Vld dX6_item_19 20 rfl (hF.1 57 (by decide)) wk57 wn57 hF.2.1 (by first | exact (by assumption) | exact (vin_cmp2 (by assumption) (by assumption) (by decide)) | exact (vin_cell (by assumption)) | exact (vin_reg (by assumption)) | exact (vin_row (by assumption)) | exact (vin_cnt (by assumption) (by assumption) (by decide) (by decide) (by assumption)) | exact (vin_cmp (by assumption) (by assumption) (by decide)) | exact (vp_in_iff.mpr (by decide)) | exact (vin_mCell (by assumption)) | exact (vin_mRegister (by assumption)) | exact (vin_w (by assumption) (by decide))) ?_
    refine Viconst dX6_item_20 (1 : Int32) (by decide) 21 rfl ?_
    refine Visub dX6_item_21 22 rfl ?_
    refine VcSp dX6_item_22 [.int x2, .int (0 : Int32), .int ((σ 57 x1.toNatClampNeg) - (1 : Int32))] (c_X6_within l hF σ x2 (0 : Int32) ((σ 57 x1.toNatClampNeg) - (1 : Int32))) mw_X6_within wd_sm_yX6_within wd_ml_RX6_111 (by decide) rfl rfl (Nat.le_of_ble_eq_true rfl) 25 rfl ?_
    refine Vifeq (fun v => (v, σ)) dX6_item_25 42 28 (by decide) rfl (fun h2 => ?_) (fun h2 => ?_)
    · refine Viconst dX6_item_42 (0 : Int32) (by decide) 43 rfl ?_
      exact Viret dX6_item_43
    · refine Vaload_n dX6_item_28 0 rfl 29 rfl ?_
      refine Vget (53) 5 dX6_item_29 32 rfl (hF.1 53 (by decide)) wk53 rfl inX6 (by decide) wd_fl_RX6_23 (v := .ref (ad G 58)) rfl ?_
      refine Vbipush dX6_item_32 (8 : Int32) (by decide) 34 rfl ?_
      refine Vload_n dX6_item_34 1 rfl 35 rfl ?_
      refine Vimul dX6_item_35 36 rfl ?_
      refine Vload_n dX6_item_36 2 rfl 37 rfl ?_
      refine Viadd dX6_item_37 38 rfl ?_
      refine Vld dX6_item_38 39 rfl (hF.1 58 (by decide)) wk58 wn58 hF.2.1 (vmul 8 4 (by decide) (vin_w (by assumption) (by decide)) (item_in (hS _ (vin_lt (by exact (vin_w (by assumption) (by decide)) : vp_in x1 4))) (by assumption)) (by decide)) ?_
      refine Vgoto dX6_item_39 43 (by decide) ?_
      exact Viret dX6_item_43
  · refine Vbipush dX6_item_9 (-2 : Int32) (by decide) 11 rfl ?_
    exact Viret dX6_item_11
def f_X6_frozen (σ : mS) (x1 : Int32) : Int32 := (if (f_X6_within x1 (0 : Int32) (3 : Int32)) = 0 then (-2 : Int32) else (if (σ 59 x1.toNatClampNeg) = 0 then (0 : Int32) else (1 : Int32)))
theorem mw_X6_frozen : mW yX6_frozen cX6_frozen 2 (some .int) 1 := ⟨wd_co_yX6_frozen, wd_ini_RX6, ⟨by decide, by decide⟩, by decide +kernel, by decide⟩
set_option maxRecDepth 100000 in
set_option maxHeartbeats 4000000 in
theorem c_X6_frozen (l : Launch) {G : gT} (hF : FullR G) (σ : mS) (x1 : Int32)  : Ct l G yX6_frozen cX6_frozen 2 (some .int) 1 [.ref (ad G 53), .int x1] κI σ (f_X6_frozen σ x1, σ) := by
  refine Ct.ofV [(0, .ref (ad G 53)), (1, .int x1)] rfl (by decide) (Nat.le_of_ble_eq_true rfl) rfl (fun X => ?_)
  unfold f_X6_frozen
  refine Vload_n dX6_frozen_0 1 rfl 1 rfl ?_
  refine Viconst dX6_frozen_1 (0 : Int32) (by decide) 2 rfl ?_
  refine Viconst dX6_frozen_2 (3 : Int32) (by decide) 3 rfl ?_
  refine VcSp dX6_frozen_3 [.int x1, .int (0 : Int32), .int (3 : Int32)] (c_X6_within l hF σ x1 (0 : Int32) (3 : Int32)) mw_X6_within wd_sm_yX6_within wd_ml_RX6_111 (by decide) rfl rfl (Nat.le_of_ble_eq_true rfl) 6 rfl ?_
  refine Vifeq (fun v => (v, σ)) dX6_frozen_6 26 9 (by decide) rfl (fun h1 => ?_) (fun h1 => ?_)
  · refine Vbipush dX6_frozen_26 (-2 : Int32) (by decide) 28 rfl ?_
    exact Viret dX6_frozen_28
  · refine Vaload_n dX6_frozen_9 0 rfl 10 rfl ?_
    refine Vget (53) 6 dX6_frozen_10 13 rfl (hF.1 53 (by decide)) wk53 rfl inX6 (by decide) wd_fl_RX6_26 (v := .ref (ad G 59)) rfl ?_
    refine Vload_n dX6_frozen_13 1 rfl 14 rfl ?_
    refine Vldz dX6_frozen_14 15 rfl (hF.1 59 (by decide)) wk59 wn59 hF.2.2.1 (by first | exact (by assumption) | exact (vin_cmp2 (by assumption) (by assumption) (by decide)) | exact (vin_cell (by assumption)) | exact (vin_reg (by assumption)) | exact (vin_row (by assumption)) | exact (vin_cnt (by assumption) (by assumption) (by decide) (by decide) (by assumption)) | exact (vin_cmp (by assumption) (by assumption) (by decide)) | exact (vp_in_iff.mpr (by decide)) | exact (vin_mCell (by assumption)) | exact (vin_mRegister (by assumption)) | exact (vin_w (by assumption) (by decide))) ?_
    refine Vifeq (fun v => (v, σ)) dX6_frozen_15 22 18 (by decide) rfl (fun h2 => ?_) (fun h2 => ?_)
    · refine Viconst dX6_frozen_22 (0 : Int32) (by decide) 23 rfl ?_
      refine Vgoto dX6_frozen_23 28 (by decide) ?_
      exact Viret dX6_frozen_28
    · refine Viconst dX6_frozen_18 (1 : Int32) (by decide) 19 rfl ?_
      refine Vgoto dX6_frozen_19 28 (by decide) ?_
      exact Viret dX6_frozen_28
def f_X6_put (σ : mS) (x1 : Int32) (x2 : Int32) : Int32 × mS := (if (f_X6_isCell x1) = 0 then ((-2 : Int32), σ) else ((σ 54 x1.toNatClampNeg), (st2 (st2 σ 54 x1.toNatClampNeg x2) 55 x1.toNatClampNeg (0 : Int32))))
theorem mw_X6_put : mW yX6_put cX6_put 4 (some .int) 2 := ⟨wd_co_yX6_put, wd_ini_RX6, ⟨by decide, by decide⟩, by decide +kernel, by decide⟩
set_option maxRecDepth 100000 in
set_option maxHeartbeats 4000000 in
theorem c_X6_put (l : Launch) {G : gT} (hF : FullR G) (σ : mS) (x1 : Int32) (x2 : Int32)  : Ct l G yX6_put cX6_put 4 (some .int) 2 [.ref (ad G 53), .int x1, .int x2] κI σ (f_X6_put σ x1 x2) := by
  refine Ct.ofV [(0, .ref (ad G 53)), (1, .int x1), (2, .int x2)] rfl (by decide) (Nat.le_of_ble_eq_true rfl) rfl (fun X => ?_)
  unfold f_X6_put
  refine Vload_n dX6_put_0 1 rfl 1 rfl ?_
  refine VcSp dX6_put_1 [.int x1] (c_X6_isCell l hF σ x1) mw_X6_isCell wd_sm_yX6_isCell wd_ml_RX6_119 (by decide) rfl rfl (Nat.le_of_ble_eq_true rfl) 4 rfl ?_
  refine Vifne (fun v => v) dX6_put_4 10 7 (by decide) rfl (fun h1 => ?_) (fun h1 => ?_)
  · refine Vaload_n dX6_put_10 0 rfl 11 rfl ?_
    refine Vget (53) 1 dX6_put_11 14 rfl (hF.1 53 (by decide)) wk53 rfl inX6 (by decide) wd_fl_RX6_7 (v := .ref (ad G 54)) rfl ?_
    refine Vload_n dX6_put_14 1 rfl 15 rfl ?_
    refine Vld dX6_put_15 16 rfl (hF.1 54 (by decide)) wk54 wn54 hF.2.1 (by first | exact (by assumption) | exact (vin_cmp2 (by assumption) (by assumption) (by decide)) | exact (vin_cell (by assumption)) | exact (vin_reg (by assumption)) | exact (vin_row (by assumption)) | exact (vin_cnt (by assumption) (by assumption) (by decide) (by decide) (by assumption)) | exact (vin_cmp (by assumption) (by assumption) (by decide)) | exact (vp_in_iff.mpr (by decide)) | exact (vin_mCell (by assumption)) | exact (vin_mRegister (by assumption)) | exact (vin_w (by assumption) (by decide))) ?_
    refine Vstore_n dX6_put_16 [(3, .int (σ 54 x1.toNatClampNeg)), (0, .ref (ad G 53)), (1, .int x1), (2, .int x2)] 17 rfl (by decide) rfl ?_
    refine Vaload_n dX6_put_17 1 rfl 18 rfl ?_
    refine Vget (53) 1 dX6_put_18 21 rfl (hF.1 53 (by decide)) wk53 rfl inX6 (by decide) wd_fl_RX6_7 (v := .ref (ad G 54)) rfl ?_
    refine Vload_n dX6_put_21 2 rfl 22 rfl ?_
    refine Vload_n dX6_put_22 3 rfl 23 rfl ?_
    refine Vst dX6_put_23 24 rfl (hF.1 54 (by decide)) wk54 wn54 hF.2.1 (by first | exact (by assumption) | exact (vin_cmp2 (by assumption) (by assumption) (by decide)) | exact (vin_cell (by assumption)) | exact (vin_reg (by assumption)) | exact (vin_row (by assumption)) | exact (vin_cnt (by assumption) (by assumption) (by decide) (by decide) (by assumption)) | exact (vin_cmp (by assumption) (by assumption) (by decide)) | exact (vp_in_iff.mpr (by decide)) | exact (vin_mCell (by assumption)) | exact (vin_mRegister (by assumption)) | exact (vin_w (by assumption) (by decide))) ?_
    refine Vaload_n dX6_put_24 1 rfl 25 rfl ?_
    refine Vget (53) 2 dX6_put_25 28 rfl (hF.1 53 (by decide)) wk53 rfl inX6 (by decide) wd_fl_RX6_13 (v := .ref (ad G 55)) rfl ?_
    refine Vload_n dX6_put_28 2 rfl 29 rfl ?_
    refine Viconst dX6_put_29 (0 : Int32) (by decide) 30 rfl ?_
    refine Vstz dX6_put_30 31 rfl (hF.1 55 (by decide)) wk55 wn55 hF.2.2.1 (by first | exact (by assumption) | exact (vin_cmp2 (by assumption) (by assumption) (by decide)) | exact (vin_cell (by assumption)) | exact (vin_reg (by assumption)) | exact (vin_row (by assumption)) | exact (vin_cnt (by assumption) (by assumption) (by decide) (by decide) (by assumption)) | exact (vin_cmp (by assumption) (by assumption) (by decide)) | exact (vp_in_iff.mpr (by decide)) | exact (vin_mCell (by assumption)) | exact (vin_mRegister (by assumption)) | exact (vin_w (by assumption) (by decide))) (by decide) ?_
    refine Vload_n dX6_put_31 0 rfl 32 rfl ?_
    exact Viret dX6_put_32
  · refine Vbipush dX6_put_7 (-2 : Int32) (by decide) 9 rfl ?_
    exact Viret dX6_put_9
def f_X6_writes (σ : mS)  : Int32 := (σ 53 28)
theorem mw_X6_writes : mW yX6_writes cX6_writes 1 (some .int) 0 := ⟨wd_co_yX6_writes, wd_ini_RX6, ⟨by decide, by decide⟩, by decide +kernel, by decide⟩
set_option maxRecDepth 100000 in
set_option maxHeartbeats 4000000 in
theorem c_X6_writes (l : Launch) {G : gT} (hF : FullR G) (σ : mS)   : Ct l G yX6_writes cX6_writes 1 (some .int) 0 [.ref (ad G 53)] κI σ (f_X6_writes σ, σ) := by
  refine Ct.ofV [(0, .ref (ad G 53))] rfl (by decide) (Nat.le_of_ble_eq_true rfl) rfl (fun X => ?_)
  unfold f_X6_writes
  refine Vaload_n dX6_writes_0 0 rfl 1 rfl ?_
  refine Vget (53) 28 dX6_writes_1 4 rfl (hF.1 53 (by decide)) wk53 rfl inX6 (by decide) wd_fl_RX6_107 (v := .int (σ 53 28)) rfl ?_
  exact Viret dX6_writes_4
def f_X6_write_ (σ : mS) (x1 : Int32) (x2 : Int32) : Int32 := (if (f_X6_within x2 (0 : Int32) (2 : Int32)) = 0 then (-2 : Int32) else (if (30 : Int32) ≤ (σ 53 28) then (if (f_X6_within x1 (0 : Int32) ((30 : Int32) - (1 : Int32))) = 0 then (-1 : Int32) else (if x2 = 0 then (σ 81 ((((σ 53 28) - (1 : Int32)) - x1) - (((σ 53 28) - (1 : Int32)) - x1) / (30 : Int32) * (30 : Int32)).toNatClampNeg) else (if x2 = (1 : Int32) then (σ 82 ((((σ 53 28) - (1 : Int32)) - x1) - (((σ 53 28) - (1 : Int32)) - x1) / (30 : Int32) * (30 : Int32)).toNatClampNeg) else (σ 83 ((((σ 53 28) - (1 : Int32)) - x1) - (((σ 53 28) - (1 : Int32)) - x1) / (30 : Int32) * (30 : Int32)).toNatClampNeg)))) else (if (f_X6_within x1 (0 : Int32) ((σ 53 28) - (1 : Int32))) = 0 then (-1 : Int32) else (if x2 = 0 then (σ 81 ((((σ 53 28) - (1 : Int32)) - x1) - (((σ 53 28) - (1 : Int32)) - x1) / (30 : Int32) * (30 : Int32)).toNatClampNeg) else (if x2 = (1 : Int32) then (σ 82 ((((σ 53 28) - (1 : Int32)) - x1) - (((σ 53 28) - (1 : Int32)) - x1) / (30 : Int32) * (30 : Int32)).toNatClampNeg) else (σ 83 ((((σ 53 28) - (1 : Int32)) - x1) - (((σ 53 28) - (1 : Int32)) - x1) / (30 : Int32) * (30 : Int32)).toNatClampNeg))))))
theorem mw_X6_write_ : mW yX6_write_ cX6_write_ 5 (some .int) 2 := ⟨wd_co_yX6_write_, wd_ini_RX6, ⟨by decide, by decide⟩, by decide +kernel, by decide⟩
set_option maxRecDepth 100000 in
set_option maxHeartbeats 4000000 in
theorem c_X6_write_ (l : Launch) {G : gT} (hF : FullR G) (σ : mS) (x1 : Int32) (x2 : Int32) (b : Nat) (hw : Wr σ b) (hb : b < 2 ^ 30) : Ct l G yX6_write_ cX6_write_ 5 (some .int) 1 [.ref (ad G 53), .int x1, .int x2] κI σ (f_X6_write_ σ x1 x2, σ) := by
  refine Ct.ofV [(0, .ref (ad G 53)), (1, .int x1), (2, .int x2)] rfl (by decide) (Nat.le_of_ble_eq_true rfl) rfl (fun X => ?_)
  unfold f_X6_write_
  refine Vload_n dX6_write__0 2 rfl 1 rfl ?_
  refine Viconst dX6_write__1 (0 : Int32) (by decide) 2 rfl ?_
  refine Viconst dX6_write__2 (2 : Int32) (by decide) 3 rfl ?_
  refine VcSp dX6_write__3 [.int x2, .int (0 : Int32), .int (2 : Int32)] (c_X6_within l hF σ x2 (0 : Int32) (2 : Int32)) mw_X6_within wd_sm_yX6_within wd_ml_RX6_111 (by decide) rfl rfl (Nat.le_of_ble_eq_true rfl) 6 rfl ?_
  refine Vifne (fun v => (v, σ)) dX6_write__6 12 9 (by decide) rfl (fun h1 => ?_) (fun h1 => ?_)
  · refine Vaload_n dX6_write__12 0 rfl 13 rfl ?_
    refine Vget (53) 28 dX6_write__13 16 rfl (hF.1 53 (by decide)) wk53 rfl inX6 (by decide) wd_fl_RX6_107 (v := .int (σ 53 28)) rfl ?_
    refine Vbipush dX6_write__16 (30 : Int32) (by decide) 18 rfl ?_
    refine Vicge (fun v => (v, σ)) dX6_write__18 28 21 (by decide) rfl (fun h2 => ?_) (fun h2 => ?_)
    · refine Vbipush dX6_write__28 (30 : Int32) (by decide) 30 rfl ?_
      refine Vstore_n dX6_write__30 [(3, .int (30 : Int32)), (0, .ref (ad G 53)), (1, .int x1), (2, .int x2)] 31 rfl (by decide) rfl ?_
      refine Vload_n dX6_write__31 2 rfl 32 rfl ?_
      refine Viconst dX6_write__32 (0 : Int32) (by decide) 33 rfl ?_
      refine Vload_n dX6_write__33 0 rfl 34 rfl ?_
      refine Viconst dX6_write__34 (1 : Int32) (by decide) 35 rfl ?_
      refine Visub dX6_write__35 36 rfl ?_
      refine VcSp dX6_write__36 [.int x1, .int (0 : Int32), .int ((30 : Int32) - (1 : Int32))] (c_X6_within l hF σ x1 (0 : Int32) ((30 : Int32) - (1 : Int32))) mw_X6_within wd_sm_yX6_within wd_ml_RX6_111 (by decide) rfl rfl (Nat.le_of_ble_eq_true rfl) 39 rfl ?_
      refine Vifne (fun v => (v, σ)) dX6_write__39 44 42 (by decide) rfl (fun h3 => ?_) (fun h3 => ?_)
      · refine Vaload_n dX6_write__44 1 rfl 45 rfl ?_
        refine Vget (53) 28 dX6_write__45 48 rfl (hF.1 53 (by decide)) wk53 rfl inX6 (by decide) wd_fl_RX6_107 (v := .int (σ 53 28)) rfl ?_
        refine Viconst dX6_write__48 (1 : Int32) (by decide) 49 rfl ?_
        refine Visub dX6_write__49 50 rfl ?_
        refine Vload_n dX6_write__50 2 rfl 51 rfl ?_
        refine Visub dX6_write__51 52 rfl ?_
        refine Vbipush dX6_write__52 (30 : Int32) (by decide) 54 rfl ?_
        refine Virem dX6_write__54 (by first | assumption | decide) 55 rfl ?_
        refine Vstore dX6_write__55 [(4, .int ((((σ 53 28) - (1 : Int32)) - x1) - (((σ 53 28) - (1 : Int32)) - x1) / (30 : Int32) * (30 : Int32))), (3, .int (30 : Int32)), (0, .ref (ad G 53)), (1, .int x1), (2, .int x2)] 57 rfl (by decide) rfl ?_
        refine Vload_n dX6_write__57 4 rfl 58 rfl ?_
        refine Vifne (fun v => (v, σ)) dX6_write__58 71 61 (by decide) rfl (fun h4 => ?_) (fun h4 => ?_)
        · refine Vload_n dX6_write__71 4 rfl 72 rfl ?_
          refine Viconst dX6_write__72 (1 : Int32) (by decide) 73 rfl ?_
          refine Vicne (fun v => (v, σ)) dX6_write__73 86 76 (by decide) rfl (fun h5 => ?_) (fun h5 => ?_)
          · refine Vaload_n dX6_write__86 2 rfl 87 rfl ?_
            refine Vget (53) 31 dX6_write__87 90 rfl (hF.1 53 (by decide)) wk53 rfl inX6 (by decide) wd_fl_RX6_98 (v := .ref (ad G 83)) rfl ?_
            refine Vload dX6_write__90 0 rfl 92 rfl ?_
            refine Vld dX6_write__92 93 rfl (hF.1 83 (by decide)) wk83 wn83 hF.2.1 (by first | exact (by assumption) | exact (vin_cmp2 (by assumption) (by assumption) (by decide)) | exact (vin_cell (by assumption)) | exact (vin_reg (by assumption)) | exact (vin_row (by assumption)) | exact (vin_cnt (by assumption) (by assumption) (by decide) (by decide) (by assumption)) | exact (vin_cmp (by assumption) (by assumption) (by decide)) | exact (vp_in_iff.mpr (by decide)) | exact (wr_ix hw hb (by assumption) (by first | decide | exact hw.pos (by omega)) (by first | assumption | exact Int32.le_refl _))) ?_
            exact Viret dX6_write__93
          · refine Vaload_n dX6_write__76 2 rfl 77 rfl ?_
            refine Vget (53) 30 dX6_write__77 80 rfl (hF.1 53 (by decide)) wk53 rfl inX6 (by decide) wd_fl_RX6_95 (v := .ref (ad G 82)) rfl ?_
            refine Vload dX6_write__80 0 rfl 82 rfl ?_
            refine Vld dX6_write__82 83 rfl (hF.1 82 (by decide)) wk82 wn82 hF.2.1 (by first | exact (by assumption) | exact (vin_cmp2 (by assumption) (by assumption) (by decide)) | exact (vin_cell (by assumption)) | exact (vin_reg (by assumption)) | exact (vin_row (by assumption)) | exact (vin_cnt (by assumption) (by assumption) (by decide) (by decide) (by assumption)) | exact (vin_cmp (by assumption) (by assumption) (by decide)) | exact (vp_in_iff.mpr (by decide)) | exact (wr_ix hw hb (by assumption) (by first | decide | exact hw.pos (by omega)) (by first | assumption | exact Int32.le_refl _))) ?_
            refine Vgoto dX6_write__83 93 (by decide) ?_
            exact Viret dX6_write__93
        · refine Vaload_n dX6_write__61 2 rfl 62 rfl ?_
          refine Vget (53) 29 dX6_write__62 65 rfl (hF.1 53 (by decide)) wk53 rfl inX6 (by decide) wd_fl_RX6_92 (v := .ref (ad G 81)) rfl ?_
          refine Vload dX6_write__65 0 rfl 67 rfl ?_
          refine Vld dX6_write__67 68 rfl (hF.1 81 (by decide)) wk81 wn81 hF.2.1 (by first | exact (by assumption) | exact (vin_cmp2 (by assumption) (by assumption) (by decide)) | exact (vin_cell (by assumption)) | exact (vin_reg (by assumption)) | exact (vin_row (by assumption)) | exact (vin_cnt (by assumption) (by assumption) (by decide) (by decide) (by assumption)) | exact (vin_cmp (by assumption) (by assumption) (by decide)) | exact (vp_in_iff.mpr (by decide)) | exact (wr_ix hw hb (by assumption) (by first | decide | exact hw.pos (by omega)) (by first | assumption | exact Int32.le_refl _))) ?_
          refine Vgoto dX6_write__68 93 (by decide) ?_
          exact Viret dX6_write__93
      · refine Viconst dX6_write__42 (-1 : Int32) (by decide) 43 rfl ?_
        exact Viret dX6_write__43
    · refine Vaload_n dX6_write__21 0 rfl 22 rfl ?_
      refine Vget (53) 28 dX6_write__22 25 rfl (hF.1 53 (by decide)) wk53 rfl inX6 (by decide) wd_fl_RX6_107 (v := .int (σ 53 28)) rfl ?_
      refine Vgoto dX6_write__25 30 (by decide) ?_
      refine Vstore_n dX6_write__30 [(3, .int (σ 53 28)), (0, .ref (ad G 53)), (1, .int x1), (2, .int x2)] 31 rfl (by decide) rfl ?_
      refine Vload_n dX6_write__31 2 rfl 32 rfl ?_
      refine Viconst dX6_write__32 (0 : Int32) (by decide) 33 rfl ?_
      refine Vload_n dX6_write__33 0 rfl 34 rfl ?_
      refine Viconst dX6_write__34 (1 : Int32) (by decide) 35 rfl ?_
      refine Visub dX6_write__35 36 rfl ?_
      refine VcSp dX6_write__36 [.int x1, .int (0 : Int32), .int ((σ 53 28) - (1 : Int32))] (c_X6_within l hF σ x1 (0 : Int32) ((σ 53 28) - (1 : Int32))) mw_X6_within wd_sm_yX6_within wd_ml_RX6_111 (by decide) rfl rfl (Nat.le_of_ble_eq_true rfl) 39 rfl ?_
      refine Vifne (fun v => (v, σ)) dX6_write__39 44 42 (by decide) rfl (fun h6 => ?_) (fun h6 => ?_)
      · refine Vaload_n dX6_write__44 1 rfl 45 rfl ?_
        refine Vget (53) 28 dX6_write__45 48 rfl (hF.1 53 (by decide)) wk53 rfl inX6 (by decide) wd_fl_RX6_107 (v := .int (σ 53 28)) rfl ?_
        refine Viconst dX6_write__48 (1 : Int32) (by decide) 49 rfl ?_
        refine Visub dX6_write__49 50 rfl ?_
        refine Vload_n dX6_write__50 2 rfl 51 rfl ?_
        refine Visub dX6_write__51 52 rfl ?_
        refine Vbipush dX6_write__52 (30 : Int32) (by decide) 54 rfl ?_
        refine Virem dX6_write__54 (by first | assumption | decide) 55 rfl ?_
        refine Vstore dX6_write__55 [(4, .int ((((σ 53 28) - (1 : Int32)) - x1) - (((σ 53 28) - (1 : Int32)) - x1) / (30 : Int32) * (30 : Int32))), (3, .int (σ 53 28)), (0, .ref (ad G 53)), (1, .int x1), (2, .int x2)] 57 rfl (by decide) rfl ?_
        refine Vload_n dX6_write__57 4 rfl 58 rfl ?_
        refine Vifne (fun v => (v, σ)) dX6_write__58 71 61 (by decide) rfl (fun h7 => ?_) (fun h7 => ?_)
        · refine Vload_n dX6_write__71 4 rfl 72 rfl ?_
          refine Viconst dX6_write__72 (1 : Int32) (by decide) 73 rfl ?_
          refine Vicne (fun v => (v, σ)) dX6_write__73 86 76 (by decide) rfl (fun h8 => ?_) (fun h8 => ?_)
          · refine Vaload_n dX6_write__86 2 rfl 87 rfl ?_
            refine Vget (53) 31 dX6_write__87 90 rfl (hF.1 53 (by decide)) wk53 rfl inX6 (by decide) wd_fl_RX6_98 (v := .ref (ad G 83)) rfl ?_
            refine Vload dX6_write__90 0 rfl 92 rfl ?_
            refine Vld dX6_write__92 93 rfl (hF.1 83 (by decide)) wk83 wn83 hF.2.1 (by first | exact (by assumption) | exact (vin_cmp2 (by assumption) (by assumption) (by decide)) | exact (vin_cell (by assumption)) | exact (vin_reg (by assumption)) | exact (vin_row (by assumption)) | exact (vin_cnt (by assumption) (by assumption) (by decide) (by decide) (by assumption)) | exact (vin_cmp (by assumption) (by assumption) (by decide)) | exact (vp_in_iff.mpr (by decide)) | exact (wr_ix hw hb (by assumption) (by first | decide | exact hw.pos (by omega)) (by first | assumption | exact Int32.le_refl _))) ?_
            exact Viret dX6_write__93
          · refine Vaload_n dX6_write__76 2 rfl 77 rfl ?_
            refine Vget (53) 30 dX6_write__77 80 rfl (hF.1 53 (by decide)) wk53 rfl inX6 (by decide) wd_fl_RX6_95 (v := .ref (ad G 82)) rfl ?_
            refine Vload dX6_write__80 0 rfl 82 rfl ?_
            refine Vld dX6_write__82 83 rfl (hF.1 82 (by decide)) wk82 wn82 hF.2.1 (by first | exact (by assumption) | exact (vin_cmp2 (by assumption) (by assumption) (by decide)) | exact (vin_cell (by assumption)) | exact (vin_reg (by assumption)) | exact (vin_row (by assumption)) | exact (vin_cnt (by assumption) (by assumption) (by decide) (by decide) (by assumption)) | exact (vin_cmp (by assumption) (by assumption) (by decide)) | exact (vp_in_iff.mpr (by decide)) | exact (wr_ix hw hb (by assumption) (by first | decide | exact hw.pos (by omega)) (by first | assumption | exact Int32.le_refl _))) ?_
            refine Vgoto dX6_write__83 93 (by decide) ?_
            exact Viret dX6_write__93
        · refine Vaload_n dX6_write__61 2 rfl 62 rfl ?_
          refine Vget (53) 29 dX6_write__62 65 rfl (hF.1 53 (by decide)) wk53 rfl inX6 (by decide) wd_fl_RX6_92 (v := .ref (ad G 81)) rfl ?_
          refine Vload dX6_write__65 0 rfl 67 rfl ?_
          refine Vld dX6_write__67 68 rfl (hF.1 81 (by decide)) wk81 wn81 hF.2.1 (by first | exact (by assumption) | exact (vin_cmp2 (by assumption) (by assumption) (by decide)) | exact (vin_cell (by assumption)) | exact (vin_reg (by assumption)) | exact (vin_row (by assumption)) | exact (vin_cnt (by assumption) (by assumption) (by decide) (by decide) (by assumption)) | exact (vin_cmp (by assumption) (by assumption) (by decide)) | exact (vp_in_iff.mpr (by decide)) | exact (wr_ix hw hb (by assumption) (by first | decide | exact hw.pos (by omega)) (by first | assumption | exact Int32.le_refl _))) ?_
          refine Vgoto dX6_write__68 93 (by decide) ?_
          exact Viret dX6_write__93
      · refine Viconst dX6_write__42 (-1 : Int32) (by decide) 43 rfl ?_
        exact Viret dX6_write__43
  · refine Vbipush dX6_write__9 (-2 : Int32) (by decide) 11 rfl ?_
    exact Viret dX6_write__11
def f_X6_again (σ : mS)  : Int32 × mS := (ap (fun u1 => ((((σ 69 (0 : Int32).toNatClampNeg) + (σ 69 (1 : Int32).toNatClampNeg)) + (σ 69 (2 : Int32).toNatClampNeg)), u1.2)) (f_X6_begin σ))
theorem mw_X6_again : mW yX6_again cX6_again 2 (some .int) 0 := ⟨wd_co_yX6_again, wd_ini_RX6, ⟨by decide, by decide⟩, by decide +kernel, by decide⟩
set_option maxRecDepth 100000 in
set_option maxHeartbeats 4000000 in
theorem c_X6_again (l : Launch) {G : gT} (hF : FullR G) (σ : mS)   : Ct l G yX6_again cX6_again 2 (some .int) 1 [.ref (ad G 53)] κI σ (f_X6_again σ) := by
  refine Ct.ofV [(0, .ref (ad G 53))] rfl (by decide) (Nat.le_of_ble_eq_true rfl) rfl (fun X => ?_)
  unfold f_X6_again
  refine Vaload_n dX6_again_0 0 rfl 1 rfl ?_
  refine Vget (53) 16 dX6_again_1 4 rfl (hF.1 53 (by decide)) wk53 rfl inX6 (by decide) wd_fl_RX6_56 (v := .ref (ad G 69)) rfl ?_
  refine Viconst dX6_again_4 (0 : Int32) (by decide) 5 rfl ?_
  refine Vld dX6_again_5 6 rfl (hF.1 69 (by decide)) wk69 wn69 hF.2.1 (by first | exact (by assumption) | exact (vin_cmp2 (by assumption) (by assumption) (by decide)) | exact (vin_cell (by assumption)) | exact (vin_reg (by assumption)) | exact (vin_row (by assumption)) | exact (vin_cnt (by assumption) (by assumption) (by decide) (by decide) (by assumption)) | exact (vin_cmp (by assumption) (by assumption) (by decide)) | exact (vp_in_iff.mpr (by decide)) | exact (vin_mCell (by assumption)) | exact (vin_mRegister (by assumption)) | exact (vin_w (by assumption) (by decide))) ?_
  refine Vaload_n dX6_again_6 0 rfl 7 rfl ?_
  refine Vget (53) 16 dX6_again_7 10 rfl (hF.1 53 (by decide)) wk53 rfl inX6 (by decide) wd_fl_RX6_56 (v := .ref (ad G 69)) rfl ?_
  refine Viconst dX6_again_10 (1 : Int32) (by decide) 11 rfl ?_
  refine Vld dX6_again_11 12 rfl (hF.1 69 (by decide)) wk69 wn69 hF.2.1 (by first | exact (by assumption) | exact (vin_cmp2 (by assumption) (by assumption) (by decide)) | exact (vin_cell (by assumption)) | exact (vin_reg (by assumption)) | exact (vin_row (by assumption)) | exact (vin_cnt (by assumption) (by assumption) (by decide) (by decide) (by assumption)) | exact (vin_cmp (by assumption) (by assumption) (by decide)) | exact (vp_in_iff.mpr (by decide)) | exact (vin_mCell (by assumption)) | exact (vin_mRegister (by assumption)) | exact (vin_w (by assumption) (by decide))) ?_
  refine Viadd dX6_again_12 13 rfl ?_
  refine Vaload_n dX6_again_13 0 rfl 14 rfl ?_
  refine Vget (53) 16 dX6_again_14 17 rfl (hF.1 53 (by decide)) wk53 rfl inX6 (by decide) wd_fl_RX6_56 (v := .ref (ad G 69)) rfl ?_
  refine Viconst dX6_again_17 (2 : Int32) (by decide) 18 rfl ?_
  refine Vld dX6_again_18 19 rfl (hF.1 69 (by decide)) wk69 wn69 hF.2.1 (by first | exact (by assumption) | exact (vin_cmp2 (by assumption) (by assumption) (by decide)) | exact (vin_cell (by assumption)) | exact (vin_reg (by assumption)) | exact (vin_row (by assumption)) | exact (vin_cnt (by assumption) (by assumption) (by decide) (by decide) (by assumption)) | exact (vin_cmp (by assumption) (by assumption) (by decide)) | exact (vp_in_iff.mpr (by decide)) | exact (vin_mCell (by assumption)) | exact (vin_mRegister (by assumption)) | exact (vin_w (by assumption) (by decide))) ?_
  refine Viadd dX6_again_19 20 rfl ?_
  refine Vstore_n dX6_again_20 [(1, .int (((σ 69 (0 : Int32).toNatClampNeg) + (σ 69 (1 : Int32).toNatClampNeg)) + (σ 69 (2 : Int32).toNatClampNeg))), (0, .ref (ad G 53))] 21 rfl (by decide) rfl ?_
  refine Vaload_n dX6_again_21 1 rfl 22 rfl ?_
  refine Vgen ?_
  intro u1 eu1
  refine VcVv (u := u1) dX6_again_22 [] (by rw [eu1]; exact c_X6_begin l (hF.sub (by decide)) hF.2.1 hF.2.2.1 σ) mw_X6_begin wd_im_yX6_begin wd_se_yX6_begin wd_ml_RX6_104 (hF.1 53 (by decide)) wk53 rfl rfl (by decide) rfl rfl (Nat.le_of_ble_eq_true rfl) 25 rfl ?_
  refine Vload_n dX6_again_25 0 rfl 26 rfl ?_
  exact Viret dX6_again_26
def l_X6_clear_7 : Nat → Int32 → mS → Int32 → Int32 × mS
  | 0, y2, σ, _ => (0, σ)
  | n + 1, y2, σ, p1 => (if (3 : Int32) ≤ y2 then (p1, σ) else (l_X6_clear_7 n (y2 + 1) (st2 σ 60 y2.toNatClampNeg (0 : Int32)) p1))
set_option maxRecDepth 100000 in
set_option maxHeartbeats 4000000 in
theorem vl_X6_clear_7 (l : Launch) {G : gT} (X : xT) (hF : FullR G) (p1 : Int32)  : ∀ (n : Nat) (y2 : Int32) (σ : mS) (i : Nat) (hc : y2 = nI i) (hi : i ≤ 3) (hn : n + i = 4), V l G X RX6 cX6_clear 3 2 (some .int) κI ((fun v => v) (l_X6_clear_7 n y2 σ p1)) σ 7 [(0, .ref (ad G 53)), (1, .int p1), (2, .int y2)] [] := by
  intro n
  induction n with
  | zero => intro y2 σ i hc hi hn; exact absurd hn (by omega)
  | succ n ih =>
    intro y2 σ i hc hi hn
    rw [l_X6_clear_7.eq_2]
    refine Vload_n dX6_clear_7 2 rfl 8 rfl ?_
    refine Viconst dX6_clear_8 (3 : Int32) (by decide) 9 rfl ?_
    refine Vicge (fun v => v) dX6_clear_9 25 12 (by decide) rfl (fun h2 => ?_) (fun h2 => ?_)
    · refine Vload_n dX6_clear_25 1 rfl 26 rfl ?_
      exact Viret dX6_clear_26
    · refine Vaload_n dX6_clear_12 0 rfl 13 rfl ?_
      refine Vget (53) 7 dX6_clear_13 16 rfl (hF.1 53 (by decide)) wk53 rfl inX6 (by decide) wd_fl_RX6_29 (v := .ref (ad G 60)) rfl ?_
      refine Vload_n dX6_clear_16 2 rfl 17 rfl ?_
      refine Viconst dX6_clear_17 (0 : Int32) (by decide) 18 rfl ?_
      refine Vst dX6_clear_18 19 rfl (hF.1 60 (by decide)) wk60 wn60 hF.2.1 (by first | exact (by assumption) | exact (vin_cmp2 (by assumption) (by assumption) (by decide)) | exact (vin_cell (by assumption)) | exact (vin_reg (by assumption)) | exact (vin_row (by assumption)) | exact (vin_cnt (by assumption) (by assumption) (by decide) (by decide) (by assumption)) | exact (vin_cmp (by assumption) (by assumption) (by decide)) | exact (vp_in_iff.mpr (by decide)) | exact (vin_mCell (by assumption)) | exact (vin_mRegister (by assumption)) | exact (vin_w (by assumption) (by decide))) ?_
      refine Viinc dX6_clear_19 (y2 + 1) 2 [(2, .int (y2 + 1)), (0, .ref (ad G 53)), (1, .int p1)] 22 rfl rfl rfl (by decide) rfl ?_
      refine Vgoto dX6_clear_22 7 (by decide) ?_
      refine Vlv [1, 2, 0] rfl ?_
      exact ih (y2 + 1) (st2 σ 60 y2.toNatClampNeg (0 : Int32)) (i + 1) (cnt_s hc) (cnt_lt hc (by assumption) (K := 3) (by decide) (by decide) hi) (by omega)
def f_X6_clear (σ : mS)  : Int32 × mS := (ap (fun u1 => (l_X6_clear_7 4 (0 : Int32) u1.2 u1.1)) (f_X6_again σ))
theorem mw_X6_clear : mW yX6_clear cX6_clear 3 (some .int) 0 := ⟨wd_co_yX6_clear, wd_ini_RX6, ⟨by decide, by decide⟩, by decide +kernel, by decide⟩
set_option maxRecDepth 100000 in
set_option maxHeartbeats 4000000 in
theorem c_X6_clear (l : Launch) {G : gT} (hF : FullR G) (σ : mS)   : Ct l G yX6_clear cX6_clear 3 (some .int) 2 [.ref (ad G 53)] κI σ (f_X6_clear σ) := by
  refine Ct.ofV [(0, .ref (ad G 53))] rfl (by decide) (Nat.le_of_ble_eq_true rfl) rfl (fun X => ?_)
  unfold f_X6_clear
  refine Vaload_n dX6_clear_0 0 rfl 1 rfl ?_
  refine Vgen ?_
  intro u1 eu1
  refine VcVi (u := u1) dX6_clear_1 [] (by rw [eu1]; exact c_X6_again l hF σ) mw_X6_again wd_im_yX6_again wd_se_yX6_again wd_ml_RX6_197 (hF.1 53 (by decide)) wk53 rfl rfl (by decide) rfl rfl (Nat.le_of_ble_eq_true rfl) 4 rfl ?_
  refine Vstore_n dX6_clear_4 [(1, .int u1.1), (0, .ref (ad G 53))] 5 rfl (by decide) rfl ?_
  refine Viconst dX6_clear_5 (0 : Int32) (by decide) 6 rfl ?_
  refine Vstore_n dX6_clear_6 [(2, .int (0 : Int32)), (1, .int u1.1), (0, .ref (ad G 53))] 7 rfl (by decide) rfl ?_
  refine Vlv [2, 1, 0] rfl ?_
  exact vl_X6_clear_7 l X hF u1.1  4 (0 : Int32) u1.2 0 nI_0.symm (Nat.zero_le _) rfl
