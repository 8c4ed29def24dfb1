/-! MAKE, on both sides -/
def zeroF (σ : mS) (q a b : Nat) : mS := fun q' k => if q' = q ∧ a ≤ k ∧ k < b then 0 else σ q' k
theorem zeroF_e (σ : mS) (q a : Nat) {b : Nat} (h : b ≤ a) : zeroF σ q a b = σ := by
  funext q' k
  unfold zeroF
  rw [if_neg (by omega)]
theorem zeroF_s {σ : mS} {q a b : Nat} (h : a < b) : zeroF (st2 σ q a 0) q (a + 1) b = zeroF σ q a b := by
  funext q' k
  unfold zeroF
  by_cases h1 : q' = q
  · subst h1
    by_cases h2 : k = a
    · subst h2
      rw [if_neg (by omega), if_pos ⟨rfl, by omega, h⟩]
      simp [st2]
    · by_cases h3 : a + 1 ≤ k ∧ k < b
      · rw [if_pos ⟨rfl, h3⟩, if_pos ⟨rfl, by omega, h3.2⟩]
      · rw [if_neg (fun z => h3 z.2), if_neg (fun z => h3 ⟨by omega, z.2.2⟩)]
        simp [st2, h2]
  · rw [if_neg (fun z => h1 z.1), if_neg (fun z => h1 z.1), st2_nq h1]
theorem l200_eq {x m : Nat} (hx : x < 4) (hm : m ≤ 8) : ∀ (n i : Nat) (τ : mS), i ≤ m → 9 ≤ n + i → (l_X6_rows_200 n (nI i) τ (nI x) (nI m)).2 = zeroF τ 58 (8 * x + i) (8 * x + m) := by
  intro n
  induction n with
  | zero => intro i τ h1 h2; omega
  | succ n ih =>
    intro i τ h1 h2
    rw [l_X6_rows_200.eq_2]
    by_cases h8 : i = m
    · subst h8
      rw [if_pos (nI_le (Nat.le_refl i) (by omega)), zeroF_e _ _ _ (Nat.le_refl _)]
    · rw [if_neg (nI_ge (by omega) (by omega)), nI_1, (ix8r hx (by omega)).1, ih (i + 1) _ (by omega) (by omega), ← Nat.add_assoc, zeroF_s (by omega)]
theorem fill_eq {len : Nat} {x1 : Int32} {b : Nat} (hb : b < 1000) : ∀ (n i : Nat) (σ : mS) (q : Nat), i ≤ b → b + 1 ≤ n + i → (l_J7_fill_fda19_10 n (nI i) σ q len x1 (nI b) 0).2 = zeroF σ q i b := by
  intro n
  induction n with
  | zero => intro i σ q h1 h2; omega
  | succ n ih =>
    intro i σ q h1 h2
    rw [l_J7_fill_fda19_10.eq_2]
    by_cases h8 : i = b
    · subst h8
      rw [if_pos (nI_le (Nat.le_refl i) (by omega)), zeroF_e _ _ _ (Nat.le_refl _)]
    · rw [if_neg (nI_ge (by omega) (by omega)), nI_1, nI_clamp (by omega), ih (i + 1) _ q (by omega) (by omega), zeroF_s (by omega)]
theorem zeroF_nq {σ : mS} {q q' a b : Nat} (h : q' ≠ q) : zeroF σ q a b q' = σ q' := by
  funext k; simp [zeroF, h]
theorem Rel.rw {σ σ' τ τ' : mS} (h : Rel σ τ) (e : ∀ q, q ≠ 10 → q ≠ 11 → q ≠ 12 → σ' q = σ q) (f : ∀ q, q ≠ 57 → q ≠ 58 → q ≠ 59 → q ≠ 53 → τ' q = τ q) (f0 : τ' 53 0 = τ 53 0) (f28 : τ' 53 28 = τ 53 28) (hD' : RelD σ' τ') : Rel σ' τ' := by
  obtain ⟨hA, hB, hC, hD, hE, hF, hG⟩ := h
  have f' : ∀ q, q ∈ [54, 55, 67, 68, 69, 71, 73, 74, 81, 82, 83] → τ' q = τ q := fun q hq => f q (by intro z; subst z; revert hq; decide) (by intro z; subst z; revert hq; decide) (by intro z; subst z; revert hq; decide) (by intro z; subst z; revert hq; decide)
  have e' : ∀ q, q < 10 → σ' q = σ q := fun q hq => e q (by omega) (by omega) (by omega)
  refine ⟨?_, hB.o (e' 2 (by decide)) (e' 3 (by decide)) (f' 54 (by decide)) (f' 55 (by decide)), hC.o (e' 5 (by decide)) (e' 6 (by decide)) (e' 7 (by decide)) (e' 8 (by decide)) f28 (f' 81 (by decide)) (f' 82 (by decide)) (f' 83 (by decide)), hD', hE.o (by rw [e' 0 (by decide)]) f0, hF.o (by rw [e' 0 (by decide)]) (f' 69 (by decide)), hG.o (fun t ht => by rw [e _ (by omega) (by omega) (by omega)]) (f' 67 (by decide)) (f' 68 (by decide)) (f' 73 (by decide)) (f' 74 (by decide)) (f' 71 (by decide))⟩
  intro p hp t i ht hi
  have hq := tbl_q p hp
  have n1 : p.2.2.1 ≠ 57 ∧ p.2.2.1 ≠ 58 ∧ p.2.2.1 ≠ 59 ∧ p.2.2.1 ≠ 53 := by
    refine ⟨fun z => ?_, fun z => ?_, fun z => ?_, fun z => ?_⟩ <;> (rw [z] at hq; revert hq; decide)
  rw [e _ (by omega) (by omega) (by omega), f _ n1.1 n1.2.1 n1.2.2.1 n1.2.2.2]
  exact hA p hp t i ht hi
/-- MAKE -/
theorem PA_make {σ τ : mS} (h : Rel σ τ) {t : Nat} (ht : t < 3) (hn : σ (14 + 13 * t) 11 = τ 66 t + 1) {x y : Nat} (hx : x < 4) (hy : y < 4) {k z : Int32} (hk : k = 17) :
    PA t (f_X3_make σ (nI x) (f_X4_held σ (14 + 13 * t) (nI y))) (τ 66 t + 1, (f_X6_rows τ (nI t) k (nI x) (nI y) z).2) := by
  unfold f_X3_make f_X6_rows
  simp only [ap]
  rw [held_r h ht hy, isRow_1 x hx, if_neg (show ¬ (1 : Int32) = 0 by decide), if_neg (show ¬ k = 7 by rw [hk]; decide), if_neg (show ¬ k = 8 by rw [hk]; decide), if_pos hk]
  generalize f_X6_r τ (nI t) (nI y) = v
  by_cases c1 : 0 ≤ v
  · rw [if_pos c1, if_pos c1]
    by_cases c2 : v ≤ (8 : Int32)
    · rw [if_pos c2, if_pos c2]
      have hv : vp_in v 9 := by
        rw [i32_le, Int32.toInt_zero] at c1
        rw [i32_le] at c2
        have h8 : (8 : Int32).toInt = 8 := by decide
        exact vp_in_iff.mpr ⟨c1, by omega⟩
      obtain ⟨m, hm, rfl⟩ := vp_in_of hv (by decide)
      have e1 : (f_J7_fill_fda19 σ 12 32 (nI x * (8 : Int32)) (nI x * (8 : Int32) + (8 : Int32)) (0 : Int32)).2 = zeroF σ 12 (8 * x) (8 * x + 8) := by
        simp only [f_J7_fill_fda19, ap, f_J7_rangeCheck_23922]
        rw [show nI x * (8 : Int32) = nI (8 * x) from by rw [show nI x * (8 : Int32) = nI (x * 8) from pk_mul x 8, Nat.mul_comm], show nI (8 * x) + (8 : Int32) = nI (8 * x + 8) from nI_add _ 8]
        exact fill_eq (by omega) 33 (8 * x) σ 12 (by omega) (by omega)
      have e2 := l200_eq hx (show m ≤ 8 by omega) 9 0 (st2 (st2 (st2 τ 53 32 0) 57 x (nI m)) 59 x 0) (Nat.zero_le _) (by decide)
      have e3 : (l_X6_rows_200 9 (0 : Int32) (st2 (st2 (st2 τ 53 32 0) 57 x (nI m)) 59 x 0) (nI x) (nI m)).2 = zeroF (st2 (st2 (st2 τ 53 32 0) 57 x (nI m)) 59 x 0) 58 (8 * x) (8 * x + m) := e2
      rw [e1, cl4 x hx, e3]
      refine ⟨h.rw (fun q a b c => ?_) (fun q a b c d => ?_) ?_ ?_ ?_, ?_, fun _ => ?_⟩
      · show st2 (st2 (zeroF σ 12 (8 * x) (8 * x + 8)) 10 x (nI m)) 11 x 0 q = σ q
        rw [st2_nq b, st2_nq a, zeroF_nq c]
      · show zeroF _ 58 (8 * x) (8 * x + m) q = τ q
        rw [zeroF_nq b, st2_nq c, st2_nq a, st2_nq d]
      · show zeroF _ 58 (8 * x) (8 * x + m) 53 0 = _
        simp [zeroF, st2]
      · show zeroF _ 58 (8 * x) (8 * x + m) 53 28 = _
        simp [zeroF, st2]
      · intro r hr
        obtain ⟨a, b, c, d⟩ := h.2.2.2.1 r hr
        show st2 (st2 (zeroF σ 12 (8 * x) (8 * x + 8)) 10 x (nI m)) 11 x 0 10 r = zeroF (st2 (st2 (st2 τ 53 32 0) 57 x (nI m)) 59 x 0) 58 (8 * x) (8 * x + m) 57 r ∧ st2 (st2 (zeroF σ 12 (8 * x) (8 * x + 8)) 10 x (nI m)) 11 x 0 11 r = zeroF (st2 (st2 (st2 τ 53 32 0) 57 x (nI m)) 59 x 0) 58 (8 * x) (8 * x + m) 59 r ∧ (zeroF (st2 (st2 (st2 τ 53 32 0) 57 x (nI m)) 59 x 0) 58 (8 * x) (8 * x + m) 59 r = 0 ∨ zeroF (st2 (st2 (st2 τ 53 32 0) 57 x (nI m)) 59 x 0) 58 (8 * x) (8 * x + m) 59 r = 1) ∧ ∀ i : Nat, i < 8 → (i : Int) < (zeroF (st2 (st2 (st2 τ 53 32 0) 57 x (nI m)) 59 x 0) 58 (8 * x) (8 * x + m) 57 r).toInt → st2 (st2 (zeroF σ 12 (8 * x) (8 * x + 8)) 10 x (nI m)) 11 x 0 12 (8 * r + i) = zeroF (st2 (st2 (st2 τ 53 32 0) 57 x (nI m)) 59 x 0) 58 (8 * x) (8 * x + m) 58 (8 * r + i)
        rw [zeroF_nq (show (57 : Nat) ≠ 58 by decide), zeroF_nq (show (59 : Nat) ≠ 58 by decide)]
        by_cases e : r = x
        · subst e
          refine ⟨by simp [st2, zeroF], by simp [st2, zeroF], by simp [st2, zeroF], fun i hi hlt => ?_⟩
          have h1 : st2 (st2 (st2 τ 53 32 0) 57 r (nI m)) 59 r 0 57 r = nI m := by simp [st2]
          rw [h1, nI_toInt (by omega)] at hlt
          have h2 : st2 (st2 (zeroF σ 12 (8 * r) (8 * r + 8)) 10 r (nI m)) 11 r 0 12 (8 * r + i) = 0 := by
            rw [st2_nq (by decide), st2_nq (by decide)]
            unfold zeroF
            rw [if_pos ⟨rfl, by omega, by omega⟩]
          rw [h2]
          unfold zeroF
          rw [if_pos ⟨rfl, by omega, by omega⟩]
        · have z1 : st2 (st2 (zeroF σ 12 (8 * x) (8 * x + 8)) 10 x (nI m)) 11 x 0 10 r = σ 10 r := by simp [st2, e, zeroF]
          have z2 : st2 (st2 (zeroF σ 12 (8 * x) (8 * x + 8)) 10 x (nI m)) 11 x 0 11 r = σ 11 r := by simp [st2, e, zeroF]
          have z3 : st2 (st2 (st2 τ 53 32 0) 57 x (nI m)) 59 x 0 57 r = τ 57 r := by simp [st2, e, zeroF]
          have z4 : st2 (st2 (st2 τ 53 32 0) 57 x (nI m)) 59 x 0 59 r = τ 59 r := by simp [st2, e, zeroF]
          rw [z1, z2, z3, z4]
          refine ⟨a, b, c, fun i hi hlt => ?_⟩
          rw [st2_nq (by decide), st2_nq (by decide)]
          unfold zeroF
          rw [if_neg (by omega), if_neg (by omega)]
          show _ = τ 58 _
          exact d i hi hlt
      · show (0 : Int32) = zeroF _ 58 (8 * x) (8 * x + m) 53 32
        simp [zeroF, st2]
      · show τ 66 t + 1 = st2 (st2 (zeroF σ 12 (8 * x) (8 * x + 8)) 10 x (nI m)) 11 x 0 (14 + 13 * t) 11
        rw [st2_nq (by omega), st2_nq (by omega), zeroF_nq (by omega), hn]
    · rw [if_neg c2, if_neg c2]
      exact ⟨h.f32 7, by simp [st2], fun z => absurd z (show ¬ (7 : Int32) = 0 by decide)⟩
  · rw [if_neg c1, if_neg c1]
    exact ⟨h.f32 6, by simp [st2], fun z => absurd z (show ¬ (6 : Int32) = 0 by decide)⟩
