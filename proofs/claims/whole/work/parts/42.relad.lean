/-! write -/
theorem nI_sub {a b : Nat} (h : b ≤ a) : nI a - nI b = nI (a - b) := by
  have e : nI (a - b) + nI b = nI a := by rw [nI_add]; congr 1; omega
  rw [← e, Int32.add_sub_cancel]
theorem ring_at {n : Nat} (h : n < 2 ^ 31) : (nI n - nI n / 30 * 30).toNatClampNeg = n % 30 := by
  rw [show (30 : Int32) = nI 30 from rfl, pk_rem h (by decide) (by decide), nI_clamp (by omega)]
theorem within_nI {i : Nat} {K : Int32} (hi : i < 2 ^ 31) : ¬ f_X6_within (nI i) 0 K = 0 ↔ (i : Int) ≤ K.toInt := by
  rw [within_iff, i32_le, i32_le, Int32.toInt_zero, nI_toInt hi]
  omega
theorem within_neg {x K : Int32} (h : x < 0) : f_X6_within x 0 K = 0 := by
  unfold f_X6_within
  rw [if_pos h]
