/-! which registers, cells and rows an act that fits names -/
theorem two_in {a b : Int32} (h : ¬ (if a = 0 then (0 : Int32) else (if b = 0 then (0 : Int32) else (1 : Int32))) = 0) : ¬ a = 0 ∧ ¬ b = 0 := by
  constructor
  · intro z; exact h (by rw [if_pos z])
  · intro z
    apply h
    by_cases c : a = 0
    · rw [if_pos c]
    · rw [if_neg c, if_pos z]
theorem three_in {a b c : Int32} (h : ¬ (if a = 0 then (0 : Int32) else (if b = 0 then (0 : Int32) else (if c = 0 then (0 : Int32) else (1 : Int32)))) = 0) : ¬ a = 0 ∧ ¬ b = 0 ∧ ¬ c = 0 := by
  by_cases z : a = 0
  · exact absurd (by rw [if_pos z]) h
  · rw [if_neg z] at h
    exact ⟨z, two_in h⟩
theorem reg_n {x : Int32} (h : ¬ f_X6_isRegister x = 0) : ∃ n, n < 4 ∧ x = nI n := vp_in_of (vin_mRegister h) (by decide)
theorem cell_n {x : Int32} (h : ¬ f_X6_isCell x = 0) : ∃ n, n < 8 ∧ x = nI n := vp_in_of (vin_mCell h) (by decide)
theorem row_n {x : Int32} (h : ¬ f_X6_within x 0 3 = 0) : ∃ n, n < 4 ∧ x = nI n := vp_in_of (vin_w (n := 4) h (by decide)) (by decide)
theorem ft0 {k x y z : Int32} (hR : ¬ f_X6_fits k x y z = 0) (e : k = 0) : ∃ n, n < 4 ∧ x = nI n := by
  rw [f_X6_fits, if_pos e] at hR
  exact reg_n hR
theorem ft1 {k x y z : Int32} (hR : ¬ f_X6_fits k x y z = 0) (e : k = 1) : (∃ n, n < 4 ∧ x = nI n) ∧ ∃ n, n < 8 ∧ y = nI n := by
  rw [f_X6_fits, if_neg (by rw [e]; decide), if_pos e] at hR
  exact ⟨reg_n (two_in hR).1, cell_n (two_in hR).2⟩
theorem ft2 {k x y z : Int32} (hR : ¬ f_X6_fits k x y z = 0) (e : k = 2) : (∃ n, n < 8 ∧ x = nI n) ∧ ∃ n, n < 4 ∧ y = nI n := by
  rw [f_X6_fits, if_neg (by rw [e]; decide), if_neg (by rw [e]; decide), if_pos e] at hR
  exact ⟨cell_n (two_in hR).1, reg_n (two_in hR).2⟩
theorem ft3 {k x y z : Int32} (hR : ¬ f_X6_fits k x y z = 0) (e : k = 3 ∨ k = 4 ∨ k = 5 ∨ k = 6 ∨ k = 7 ∨ k = 8) : (∃ n, n < 4 ∧ x = nI n) ∧ (∃ n, n < 4 ∧ y = nI n) ∧ ∃ n, n < 4 ∧ z = nI n := by
  have h3 : ¬ (if (f_X6_isRegister x) = 0 then (0 : Int32) else (if (f_X6_isRegister y) = 0 then (0 : Int32) else (if (f_X6_isRegister z) = 0 then (0 : Int32) else (1 : Int32)))) = 0 := by
    rcases e with e | e | e | e | e | e
    · rw [f_X6_fits, if_neg (by rw [e]; decide), if_neg (by rw [e]; decide), if_neg (by rw [e]; decide), if_pos e] at hR
      exact hR
    · rw [f_X6_fits, if_neg (by rw [e]; decide), if_neg (by rw [e]; decide), if_neg (by rw [e]; decide), if_neg (by rw [e]; decide), if_pos e] at hR
      exact hR
    · rw [f_X6_fits, if_neg (by rw [e]; decide), if_neg (by rw [e]; decide), if_neg (by rw [e]; decide), if_neg (by rw [e]; decide), if_neg (by rw [e]; decide), if_pos e] at hR
      exact hR
    · rw [f_X6_fits, if_neg (by rw [e]; decide), if_neg (by rw [e]; decide), if_neg (by rw [e]; decide), if_neg (by rw [e]; decide), if_neg (by rw [e]; decide), if_neg (by rw [e]; decide), if_pos e] at hR
      exact hR
    · rw [f_X6_fits, if_neg (by rw [e]; decide), if_neg (by rw [e]; decide), if_neg (by rw [e]; decide), if_neg (by rw [e]; decide), if_neg (by rw [e]; decide), if_neg (by rw [e]; decide), if_neg (by rw [e]; decide), if_pos e] at hR
      exact hR
    · rw [f_X6_fits, if_neg (by rw [e]; decide), if_neg (by rw [e]; decide), if_neg (by rw [e]; decide), if_neg (by rw [e]; decide), if_neg (by rw [e]; decide), if_neg (by rw [e]; decide), if_neg (by rw [e]; decide), if_neg (by rw [e]; decide), if_pos e] at hR
      exact hR
  exact ⟨reg_n (three_in h3).1, reg_n (three_in h3).2.1, reg_n (three_in h3).2.2⟩
theorem ft9 {k x y z : Int32} (hR : ¬ f_X6_fits k x y z = 0) (e : k = 9) : (∃ n, n < 8 ∧ x = nI n) ∧ (∃ n, n < 4 ∧ y = nI n) ∧ ∃ n, n < 4 ∧ z = nI n := by
  rw [f_X6_fits, if_neg (by rw [e]; decide), if_neg (by rw [e]; decide), if_neg (by rw [e]; decide), if_neg (by rw [e]; decide), if_neg (by rw [e]; decide), if_neg (by rw [e]; decide), if_neg (by rw [e]; decide), if_neg (by rw [e]; decide), if_neg (by rw [e]; decide), if_pos e] at hR
  exact ⟨cell_n (three_in hR).1, reg_n (three_in hR).2.1, reg_n (three_in hR).2.2⟩
theorem ft11 {k x y z : Int32} (hR : ¬ f_X6_fits k x y z = 0) (e : k = 11) : ∃ n, n < 4 ∧ x = nI n := by
  rw [f_X6_fits, if_neg (by rw [e]; decide), if_neg (by rw [e]; decide), if_neg (by rw [e]; decide), if_neg (by rw [e]; decide), if_neg (by rw [e]; decide), if_neg (by rw [e]; decide), if_neg (by rw [e]; decide), if_neg (by rw [e]; decide), if_neg (by rw [e]; decide), if_neg (by rw [e]; decide), if_neg (by rw [e]; decide), if_pos e] at hR
  exact reg_n (two_in hR).1
theorem ft16 {k x y z : Int32} (hR : ¬ f_X6_fits k x y z = 0) (e : k = 16) : ∃ n, n < 4 ∧ x = nI n := by
  rw [f_X6_fits, if_neg (by rw [e]; decide), if_neg (by rw [e]; decide), if_neg (by rw [e]; decide), if_neg (by rw [e]; decide), if_neg (by rw [e]; decide), if_neg (by rw [e]; decide), if_neg (by rw [e]; decide), if_neg (by rw [e]; decide), if_neg (by rw [e]; decide), if_neg (by rw [e]; decide), if_neg (by rw [e]; decide), if_neg (by rw [e]; decide), if_neg (by rw [e]; decide), if_pos e] at hR
  exact reg_n hR
theorem ft17 {k x y z : Int32} (hR : ¬ f_X6_fits k x y z = 0) (e : k = 17) : (∃ n, n < 4 ∧ x = nI n) ∧ ∃ n, n < 4 ∧ y = nI n := by
  rw [f_X6_fits, if_neg (by rw [e]; decide), if_neg (by rw [e]; decide), if_neg (by rw [e]; decide), if_neg (by rw [e]; decide), if_neg (by rw [e]; decide), if_neg (by rw [e]; decide), if_neg (by rw [e]; decide), if_neg (by rw [e]; decide), if_neg (by rw [e]; decide), if_neg (by rw [e]; decide), if_neg (by rw [e]; decide), if_neg (by rw [e]; decide), if_neg (by rw [e]; decide), if_neg (by rw [e]; decide), if_pos e] at hR
  exact ⟨row_n (two_in hR).1, reg_n (two_in hR).2⟩
theorem ft18 {k x y z : Int32} (hR : ¬ f_X6_fits k x y z = 0) (e : k = 18) : ∃ n, n < 4 ∧ x = nI n := by
  rw [f_X6_fits, if_neg (by rw [e]; decide), if_neg (by rw [e]; decide), if_neg (by rw [e]; decide), if_neg (by rw [e]; decide), if_neg (by rw [e]; decide), if_neg (by rw [e]; decide), if_neg (by rw [e]; decide), if_neg (by rw [e]; decide), if_neg (by rw [e]; decide), if_neg (by rw [e]; decide), if_neg (by rw [e]; decide), if_neg (by rw [e]; decide), if_neg (by rw [e]; decide), if_neg (by rw [e]; decide), if_neg (by rw [e]; decide), if_pos e] at hR
  exact row_n hR
theorem ft19 {k x y z : Int32} (hR : ¬ f_X6_fits k x y z = 0) (e : k = 19) : (∃ n, n < 8 ∧ x = nI n) ∧ ∃ n, n < 8 ∧ y = nI n := by
  rw [f_X6_fits, if_neg (by rw [e]; decide), if_neg (by rw [e]; decide), if_neg (by rw [e]; decide), if_neg (by rw [e]; decide), if_neg (by rw [e]; decide), if_neg (by rw [e]; decide), if_neg (by rw [e]; decide), if_neg (by rw [e]; decide), if_neg (by rw [e]; decide), if_neg (by rw [e]; decide), if_neg (by rw [e]; decide), if_neg (by rw [e]; decide), if_neg (by rw [e]; decide), if_neg (by rw [e]; decide), if_neg (by rw [e]; decide), if_neg (by rw [e]; decide), if_pos e] at hR
  exact ⟨cell_n (two_in hR).1, cell_n (two_in hR).2⟩
