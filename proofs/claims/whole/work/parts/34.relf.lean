/-! a failure, on both sides -/
theorem ix40 {t : Nat} (ht : t < 3) : ((4 : Int32) * nI t).toNatClampNeg = 4 * t := by
  rw [show (4 : Int32) * nI t = nI (4 * t) from pk_mul 4 t, nI_clamp (by omega)]
theorem rfail_0 {τ : mS} {t : Nat} (ht : t < 3) (c : τ 71 t = 0) : (f_X6_fail τ (nI t)).2 = st2 (st2 (st2 (st2 τ 53 0 (τ 53 0 + 1)) 68 t 1) 67 t (τ 53 32)) 73 t 0 := by
  unfold f_X6_fail
  rw [cl3 t ht, if_pos (show st2 τ 53 0 (τ 53 0 + 1) 71 t = 0 by rw [st2_nq (by decide)]; exact c)]
theorem rfail_1 {τ : mS} {t m : Nat} (ht : t < 3) (hm : m < 4) (e : τ 71 t = nI (m + 1)) : (f_X6_fail τ (nI t)).2 = st2 (st2 (st2 (st2 (st2 τ 53 0 (τ 53 0 + 1)) 71 t (nI m)) 65 (4 * t) (τ 53 32)) 66 t (τ 72 (4 * t + m))) 73 t (if τ 73 t = 0 then 0 else (if nI m < τ 74 t then 0 else 1)) := by
  unfold f_X6_fail
  have p1 : st2 τ 53 0 (τ 53 0 + 1) 71 t = nI (m + 1) := by rw [st2_nq (by decide)]; exact e
  have p2 : nI (m + 1) - 1 = nI m := by rw [← nI_1, Int32.add_sub_cancel]
  have p3 : ¬ nI (m + 1) = 0 := by
    intro z
    have z1 := congrArg Int32.toInt z
    rw [nI_toInt (by omega), Int32.toInt_zero] at z1
    omega
  rw [cl3 t ht, p1, if_neg p3, p2, ix40 ht]
  generalize hA : st2 τ 53 0 (τ 53 0 + 1) = A
  have p4 : st2 (st2 A 71 t (nI m)) 65 (4 * t) (τ 53 32) 71 t = nI m := by simp [st2]
  rw [p4, ix4 ht hm]
  have p5 : st2 (st2 A 71 t (nI m)) 65 (4 * t) (τ 53 32) 72 (4 * t + m) = τ 72 (4 * t + m) := by
    rw [st2_nq (by decide), st2_nq (by decide), ← hA, st2_nq (by decide)]
  rw [p5]
  have p6 : st2 (st2 (st2 A 71 t (nI m)) 65 (4 * t) (τ 53 32)) 66 t (τ 72 (4 * t + m)) 73 t = τ 73 t := by
    rw [st2_nq (by decide), st2_nq (by decide), st2_nq (by decide), ← hA, st2_nq (by decide)]
  have p7 : st2 (st2 (st2 A 71 t (nI m)) 65 (4 * t) (τ 53 32)) 66 t (τ 72 (4 * t + m)) 74 t = τ 74 t := by
    rw [st2_nq (by decide), st2_nq (by decide), st2_nq (by decide), ← hA, st2_nq (by decide)]
  have p8 : st2 (st2 (st2 A 71 t (nI m)) 65 (4 * t) (τ 53 32)) 66 t (τ 72 (4 * t + m)) 71 t = nI m := by
    rw [st2_nq (by decide), p4]
  rw [p6, p7, p8]
  by_cases c1 : τ 73 t = 0
  · rw [if_pos c1, if_pos c1]
  · rw [if_neg c1, if_neg c1]
    by_cases c2 : nI m < τ 74 t
    · rw [if_pos c2, if_pos c2]
    · rw [if_neg c2, if_neg c2]
theorem st2_id {τ : mS} {q k : Nat} {v : Int32} (h : τ q k = v) : st2 τ q k v = τ := by
  funext q' k'
  by_cases e : q' = q ∧ k' = k
  · obtain ⟨rfl, rfl⟩ := e
    simp [st2, h]
  · show (if _ then v else _) = _
    rw [if_neg e]
theorem Rel.fail {σ τ : mS} (h : Rel σ τ) (hT : ∀ t, t < 3 → vp_in (τ 71 t) 5) (h5 : ¬ τ 53 0 = 5000) {t : Nat} (ht : t < 3) {v : Int32} (hv : v = τ 53 32) (h0 : ¬ v = 0) :
    Rel (f_X4_fail (st2 σ 0 4 (σ 0 4 + 1)) (14 + 13 * t) v).2 (f_X6_fail τ (nI t)).2 := by
  have r1 := h.s_fails h5
  obtain ⟨m, hm, e⟩ := vp_in_of (hT t ht) (by decide)
  have e8 : st2 σ 0 4 (σ 0 4 + 1) (14 + 13 * t) 8 = nI m := by rw [st2_nq (by omega), h.r_trys ht, e]
  unfold f_X4_fail
  rw [e8]
  simp only [ap]
  cases m with
  | zero =>
    rw [if_pos (show nI 0 ≤ 0 by decide), rfail_0 ht e, ← hv]
    exact r1.s_failed ht h0
  | succ m =>
    have p2 : nI (m + 1) - 1 = nI m := by rw [← nI_1, Int32.add_sub_cancel]
    have m4 : m < 4 := by omega
    rw [if_neg (show ¬ nI (m + 1) ≤ 0 by rw [i32_le, nI_toInt (by omega), Int32.toInt_zero]; omega), if_pos (show nI (m + 1) ≤ (4 : Int32) by rw [i32_le, nI_toInt (by omega)]; show ((m + 1 : Nat) : Int) ≤ 4; omega), p2, rfail_1 ht m4 e, ← hv]
    have e2 : st2 σ 0 4 (σ 0 4 + 1) (14 + 13 * t + 7) 2 = τ 74 t := by rw [st2_nq (by omega), h.r_ahead ht]
    have etp : σ (14 + 13 * t + 6) m = τ 72 (4 * t + m) := h.r_tp ht m4
    have e0 : (0 : Int32) = nI 0 := rfl
    obtain ⟨g1, g2, g3, g4⟩ := h.2.2.2.2.2.2 t ht
    rw [e2]
    by_cases c : τ 74 t ≤ nI m
    · rw [if_pos c]
      have r2 := ((r1.s_trys ht (nI m) (fun _ => c)).s_reg ht (show 0 < 4 by decide) v).s_place ht (τ 72 (4 * t + m))
      have ck : f_X4_keep (st2 (st2 σ 0 4 (σ 0 4 + 1)) (14 + 13 * t) 8 (nI m)) (14 + 13 * t) 0 v = (0, st2 (st2 (st2 σ 0 4 (σ 0 4 + 1)) (14 + 13 * t) 8 (nI m)) (14 + 13 * t + 5) 0 v) := keep_eq _ (show 0 < 4 by decide) v
      rw [ck]
      dsimp only
      have k1 : st2 (st2 (st2 σ 0 4 (σ 0 4 + 1)) (14 + 13 * t) 8 (nI m)) (14 + 13 * t + 5) 0 v (14 + 13 * t) 8 = nI m := by
        rw [st2_nq (by omega)]; simp [st2]
      rw [k1, cl4 m m4, st2_nq (show 14 + 13 * t + 6 ≠ 14 + 13 * t + 5 by omega), st2_nq (show 14 + 13 * t + 6 ≠ 14 + 13 * t by omega), st2_nq (show 14 + 13 * t + 6 ≠ 0 by omega), etp]
      have w1 : ∀ A : mS, A 73 t = τ 73 t → st2 A 73 t (if τ 73 t = 0 then 0 else (if nI m < τ 74 t then 0 else 1)) = A := fun A hA => st2_id (by
        rw [hA]
        by_cases c1 : τ 73 t = 0
        · rw [if_pos c1, c1]
        · rw [if_neg c1, if_neg (show ¬ nI m < τ 74 t by rw [i32_lt]; rw [i32_le] at c; omega)]
          exact g3.resolve_left c1)
      rw [w1 _ (by rw [st2_nq (by decide), st2_nq (by decide), st2_nq (by decide), st2_nq (by decide)])]
      exact r2
    · rw [if_neg c]
      have r2 := (((r1.shut ht).s_trys ht (nI m) (fun z => absurd (show st2 _ 73 t 0 73 t = 0 by simp [st2]) z)).s_reg ht (show 0 < 4 by decide) v).s_place ht (τ 72 (4 * t + m))
      have ck : f_X4_keep (st2 (st2 (st2 σ 0 4 (σ 0 4 + 1)) (14 + 13 * t) 8 (nI m)) (14 + 13 * t + 7) 0 0) (14 + 13 * t) 0 v = (0, st2 (st2 (st2 (st2 σ 0 4 (σ 0 4 + 1)) (14 + 13 * t) 8 (nI m)) (14 + 13 * t + 7) 0 0) (14 + 13 * t + 5) 0 v) := keep_eq _ (show 0 < 4 by decide) v
      rw [ck]
      dsimp only
      rw [st2_comm (show 14 + 13 * t ≠ 14 + 13 * t + 7 by omega)]
      have k1 : st2 (st2 (st2 (st2 σ 0 4 (σ 0 4 + 1)) (14 + 13 * t + 7) 0 0) (14 + 13 * t) 8 (nI m)) (14 + 13 * t + 5) 0 v (14 + 13 * t) 8 = nI m := by
        rw [st2_nq (by omega)]; simp [st2]
      rw [k1, cl4 m m4, st2_nq (show 14 + 13 * t + 6 ≠ 14 + 13 * t + 5 by omega), st2_nq (show 14 + 13 * t + 6 ≠ 14 + 13 * t by omega), st2_nq (show 14 + 13 * t + 6 ≠ 14 + 13 * t + 7 by omega), st2_nq (show 14 + 13 * t + 6 ≠ 0 by omega), etp]
      have w0 : (if τ 73 t = 0 then (0 : Int32) else (if nI m < τ 74 t then 0 else 1)) = 0 := by
        by_cases c1 : τ 73 t = 0
        · rw [if_pos c1]
        · rw [if_neg c1, if_pos (show nI m < τ 74 t by rw [i32_lt]; rw [i32_le] at c; omega)]
      rw [w0, st2_comm (show (66 : Nat) ≠ 73 by decide), st2_comm (show (65 : Nat) ≠ 73 by decide), st2_comm (show (71 : Nat) ≠ 73 by decide)]
      exact r2
