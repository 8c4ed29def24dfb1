/-! write -/
theorem nI_sub {a b : Nat} (h : b ≤ a) : nI a - nI b = nI (a - b) := by
  have e : nI (a - b) + nI b = nI a := by rw [nI_add]; congr 1; omega
  rw [← e, Int32.add_sub_cancel]
theorem ring_at {n : Nat} (h : n < 2 ^ 31) : (nI n - nI n / 30 * 30).toNatClampNeg = n % 30 := by
  rw [show (30 : Int32) = nI 30 from rfl, pk_rem h (by decide) (by decide), nI_clamp (by omega)]
