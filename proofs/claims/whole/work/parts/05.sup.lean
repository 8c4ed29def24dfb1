/-! cells by number; a strand at q, an atom at q -/
theorem wk0 : wK 0 = 8 := by decide +kernel
theorem wk1 : wK 1 = 4 := by decide +kernel
theorem wk2 : wK 2 = 0 := by decide +kernel
theorem wn2 : wN 2 = 8 := by decide +kernel
theorem wk3 : wK 3 = 0 := by decide +kernel
theorem wn3 : wN 3 = 8 := by decide +kernel
theorem wk4 : wK 4 = 0 := by decide +kernel
theorem wn4 : wN 4 = 8 := by decide +kernel
theorem wk5 : wK 5 = 5 := by decide +kernel
theorem wk6 : wK 6 = 0 := by decide +kernel
theorem wn6 : wN 6 = 30 := by decide +kernel
theorem wk7 : wK 7 = 0 := by decide +kernel
theorem wn7 : wN 7 = 30 := by decide +kernel
theorem wk8 : wK 8 = 0 := by decide +kernel
theorem wn8 : wN 8 = 30 := by decide +kernel
theorem wk9 : wK 9 = 6 := by decide +kernel
theorem wk10 : wK 10 = 0 := by decide +kernel
theorem wn10 : wN 10 = 4 := by decide +kernel
theorem wk11 : wK 11 = 1 := by decide +kernel
theorem wn11 : wN 11 = 4 := by decide +kernel
theorem wk12 : wK 12 = 0 := by decide +kernel
theorem wn12 : wN 12 = 32 := by decide +kernel
theorem wk13 : wK 13 = 2 := by decide +kernel
theorem wn13 : wN 13 = 3 := by decide +kernel
theorem wk14 : wK 14 = 7 := by decide +kernel
theorem wk15 : wK 15 = 0 := by decide +kernel
theorem wn15 : wN 15 = 24 := by decide +kernel
theorem wk16 : wK 16 = 0 := by decide +kernel
theorem wn16 : wN 16 = 24 := by decide +kernel
theorem wk17 : wK 17 = 0 := by decide +kernel
theorem wn17 : wN 17 = 24 := by decide +kernel
theorem wk18 : wK 18 = 0 := by decide +kernel
theorem wn18 : wN 18 = 24 := by decide +kernel
theorem wk19 : wK 19 = 0 := by decide +kernel
theorem wn19 : wN 19 = 4 := by decide +kernel
theorem wk20 : wK 20 = 0 := by decide +kernel
theorem wn20 : wN 20 = 4 := by decide +kernel
theorem wk21 : wK 21 = 3 := by decide +kernel
theorem wk22 : wK 22 = 0 := by decide +kernel
theorem wn22 : wN 22 = 4 := by decide +kernel
theorem wk23 : wK 23 = 1 := by decide +kernel
theorem wn23 : wN 23 = 8 := by decide +kernel
theorem wk24 : wK 24 = 0 := by decide +kernel
theorem wn24 : wN 24 = 8 := by decide +kernel
theorem wk25 : wK 25 = 1 := by decide +kernel
theorem wn25 : wN 25 = 8 := by decide +kernel
theorem wk26 : wK 26 = 0 := by decide +kernel
theorem wn26 : wN 26 = 8 := by decide +kernel
theorem wk27 : wK 27 = 7 := by decide +kernel
theorem wk28 : wK 28 = 0 := by decide +kernel
theorem wn28 : wN 28 = 24 := by decide +kernel
theorem wk29 : wK 29 = 0 := by decide +kernel
theorem wn29 : wN 29 = 24 := by decide +kernel
theorem wk30 : wK 30 = 0 := by decide +kernel
theorem wn30 : wN 30 = 24 := by decide +kernel
theorem wk31 : wK 31 = 0 := by decide +kernel
theorem wn31 : wN 31 = 24 := by decide +kernel
theorem wk32 : wK 32 = 0 := by decide +kernel
theorem wn32 : wN 32 = 4 := by decide +kernel
theorem wk33 : wK 33 = 0 := by decide +kernel
theorem wn33 : wN 33 = 4 := by decide +kernel
theorem wk34 : wK 34 = 3 := by decide +kernel
theorem wk35 : wK 35 = 0 := by decide +kernel
theorem wn35 : wN 35 = 4 := by decide +kernel
theorem wk36 : wK 36 = 1 := by decide +kernel
theorem wn36 : wN 36 = 8 := by decide +kernel
theorem wk37 : wK 37 = 0 := by decide +kernel
theorem wn37 : wN 37 = 8 := by decide +kernel
theorem wk38 : wK 38 = 1 := by decide +kernel
theorem wn38 : wN 38 = 8 := by decide +kernel
theorem wk39 : wK 39 = 0 := by decide +kernel
theorem wn39 : wN 39 = 8 := by decide +kernel
theorem wk40 : wK 40 = 7 := by decide +kernel
theorem wk41 : wK 41 = 0 := by decide +kernel
theorem wn41 : wN 41 = 24 := by decide +kernel
theorem wk42 : wK 42 = 0 := by decide +kernel
theorem wn42 : wN 42 = 24 := by decide +kernel
theorem wk43 : wK 43 = 0 := by decide +kernel
theorem wn43 : wN 43 = 24 := by decide +kernel
theorem wk44 : wK 44 = 0 := by decide +kernel
theorem wn44 : wN 44 = 24 := by decide +kernel
theorem wk45 : wK 45 = 0 := by decide +kernel
theorem wn45 : wN 45 = 4 := by decide +kernel
theorem wk46 : wK 46 = 0 := by decide +kernel
theorem wn46 : wN 46 = 4 := by decide +kernel
theorem wk47 : wK 47 = 3 := by decide +kernel
theorem wk48 : wK 48 = 0 := by decide +kernel
theorem wn48 : wN 48 = 4 := by decide +kernel
theorem wk49 : wK 49 = 1 := by decide +kernel
theorem wn49 : wN 49 = 8 := by decide +kernel
theorem wk50 : wK 50 = 0 := by decide +kernel
theorem wn50 : wN 50 = 8 := by decide +kernel
theorem wk51 : wK 51 = 1 := by decide +kernel
theorem wn51 : wN 51 = 8 := by decide +kernel
theorem wk52 : wK 52 = 0 := by decide +kernel
theorem wn52 : wN 52 = 8 := by decide +kernel
theorem wk53 : wK 53 = 9 := by decide +kernel
theorem wk54 : wK 54 = 0 := by decide +kernel
theorem wn54 : wN 54 = 8 := by decide +kernel
theorem wk55 : wK 55 = 1 := by decide +kernel
theorem wn55 : wN 55 = 8 := by decide +kernel
theorem wk56 : wK 56 = 1 := by decide +kernel
theorem wn56 : wN 56 = 8 := by decide +kernel
theorem wk57 : wK 57 = 0 := by decide +kernel
theorem wn57 : wN 57 = 4 := by decide +kernel
theorem wk58 : wK 58 = 0 := by decide +kernel
theorem wn58 : wN 58 = 32 := by decide +kernel
theorem wk59 : wK 59 = 1 := by decide +kernel
theorem wn59 : wN 59 = 4 := by decide +kernel
theorem wk60 : wK 60 = 0 := by decide +kernel
theorem wn60 : wN 60 = 3 := by decide +kernel
theorem wk61 : wK 61 = 0 := by decide +kernel
theorem wn61 : wN 61 = 72 := by decide +kernel
theorem wk62 : wK 62 = 0 := by decide +kernel
theorem wn62 : wN 62 = 72 := by decide +kernel
theorem wk63 : wK 63 = 0 := by decide +kernel
theorem wn63 : wN 63 = 72 := by decide +kernel
theorem wk64 : wK 64 = 0 := by decide +kernel
theorem wn64 : wN 64 = 72 := by decide +kernel
theorem wk65 : wK 65 = 0 := by decide +kernel
theorem wn65 : wN 65 = 12 := by decide +kernel
theorem wk66 : wK 66 = 0 := by decide +kernel
theorem wn66 : wN 66 = 3 := by decide +kernel
theorem wk67 : wK 67 = 0 := by decide +kernel
theorem wn67 : wN 67 = 3 := by decide +kernel
theorem wk68 : wK 68 = 1 := by decide +kernel
theorem wn68 : wN 68 = 3 := by decide +kernel
theorem wk69 : wK 69 = 0 := by decide +kernel
theorem wn69 : wN 69 = 3 := by decide +kernel
theorem wk70 : wK 70 = 0 := by decide +kernel
theorem wn70 : wN 70 = 3 := by decide +kernel
theorem wk71 : wK 71 = 0 := by decide +kernel
theorem wn71 : wN 71 = 3 := by decide +kernel
theorem wk72 : wK 72 = 0 := by decide +kernel
theorem wn72 : wN 72 = 12 := by decide +kernel
theorem wk73 : wK 73 = 1 := by decide +kernel
theorem wn73 : wN 73 = 3 := by decide +kernel
theorem wk74 : wK 74 = 0 := by decide +kernel
theorem wn74 : wN 74 = 3 := by decide +kernel
theorem wk75 : wK 75 = 0 := by decide +kernel
theorem wn75 : wN 75 = 3 := by decide +kernel
theorem wk76 : wK 76 = 0 := by decide +kernel
theorem wn76 : wN 76 = 12 := by decide +kernel
theorem wk77 : wK 77 = 1 := by decide +kernel
theorem wn77 : wN 77 = 24 := by decide +kernel
theorem wk78 : wK 78 = 0 := by decide +kernel
theorem wn78 : wN 78 = 24 := by decide +kernel
theorem wk79 : wK 79 = 1 := by decide +kernel
theorem wn79 : wN 79 = 24 := by decide +kernel
theorem wk80 : wK 80 = 0 := by decide +kernel
theorem wn80 : wN 80 = 24 := by decide +kernel
theorem wk81 : wK 81 = 0 := by decide +kernel
theorem wn81 : wN 81 = 30 := by decide +kernel
theorem wk82 : wK 82 = 0 := by decide +kernel
theorem wn82 : wN 82 = 30 := by decide +kernel
theorem wk83 : wK 83 = 0 := by decide +kernel
theorem wn83 : wN 83 = 30 := by decide +kernel
theorem wk84 : wK 84 = 0 := by decide +kernel
theorem wn84 : wN 84 = 9 := by decide +kernel
def sQ (q : Nat) : Prop := q = 14 ∨ q = 27 ∨ q = 40
def aQ (q : Nat) : Prop := q = 21 ∨ q = 34 ∨ q = 47
theorem sk0 {q : Nat} (h : sQ q) : wK (q) = 7 := by rcases h with rfl | rfl | rfl <;> decide +kernel
theorem sk1 {q : Nat} (h : sQ q) : wK (q + 1) = 0 := by rcases h with rfl | rfl | rfl <;> decide +kernel
theorem sn1 {q : Nat} (h : sQ q) : wN (q + 1) = 24 := by rcases h with rfl | rfl | rfl <;> decide +kernel
theorem sk2 {q : Nat} (h : sQ q) : wK (q + 2) = 0 := by rcases h with rfl | rfl | rfl <;> decide +kernel
theorem sn2 {q : Nat} (h : sQ q) : wN (q + 2) = 24 := by rcases h with rfl | rfl | rfl <;> decide +kernel
theorem sk3 {q : Nat} (h : sQ q) : wK (q + 3) = 0 := by rcases h with rfl | rfl | rfl <;> decide +kernel
theorem sn3 {q : Nat} (h : sQ q) : wN (q + 3) = 24 := by rcases h with rfl | rfl | rfl <;> decide +kernel
theorem sk4 {q : Nat} (h : sQ q) : wK (q + 4) = 0 := by rcases h with rfl | rfl | rfl <;> decide +kernel
theorem sn4 {q : Nat} (h : sQ q) : wN (q + 4) = 24 := by rcases h with rfl | rfl | rfl <;> decide +kernel
theorem sk5 {q : Nat} (h : sQ q) : wK (q + 5) = 0 := by rcases h with rfl | rfl | rfl <;> decide +kernel
theorem sn5 {q : Nat} (h : sQ q) : wN (q + 5) = 4 := by rcases h with rfl | rfl | rfl <;> decide +kernel
theorem sk6 {q : Nat} (h : sQ q) : wK (q + 6) = 0 := by rcases h with rfl | rfl | rfl <;> decide +kernel
theorem sn6 {q : Nat} (h : sQ q) : wN (q + 6) = 4 := by rcases h with rfl | rfl | rfl <;> decide +kernel
theorem sk7 {q : Nat} (h : sQ q) : wK (q + 7) = 3 := by rcases h with rfl | rfl | rfl <;> decide +kernel
theorem sk8 {q : Nat} (h : sQ q) : wK (q + 8) = 0 := by rcases h with rfl | rfl | rfl <;> decide +kernel
theorem sn8 {q : Nat} (h : sQ q) : wN (q + 8) = 4 := by rcases h with rfl | rfl | rfl <;> decide +kernel
theorem sk9 {q : Nat} (h : sQ q) : wK (q + 9) = 1 := by rcases h with rfl | rfl | rfl <;> decide +kernel
theorem sn9 {q : Nat} (h : sQ q) : wN (q + 9) = 8 := by rcases h with rfl | rfl | rfl <;> decide +kernel
theorem sk10 {q : Nat} (h : sQ q) : wK (q + 10) = 0 := by rcases h with rfl | rfl | rfl <;> decide +kernel
theorem sn10 {q : Nat} (h : sQ q) : wN (q + 10) = 8 := by rcases h with rfl | rfl | rfl <;> decide +kernel
theorem sk11 {q : Nat} (h : sQ q) : wK (q + 11) = 1 := by rcases h with rfl | rfl | rfl <;> decide +kernel
theorem sn11 {q : Nat} (h : sQ q) : wN (q + 11) = 8 := by rcases h with rfl | rfl | rfl <;> decide +kernel
theorem sk12 {q : Nat} (h : sQ q) : wK (q + 12) = 0 := by rcases h with rfl | rfl | rfl <;> decide +kernel
theorem sn12 {q : Nat} (h : sQ q) : wN (q + 12) = 8 := by rcases h with rfl | rfl | rfl <;> decide +kernel
theorem ak0 {q : Nat} (h : aQ q) : wK (q) = 3 := by rcases h with rfl | rfl | rfl <;> decide +kernel
theorem ak1 {q : Nat} (h : aQ q) : wK (q + 1) = 0 := by rcases h with rfl | rfl | rfl <;> decide +kernel
theorem an1 {q : Nat} (h : aQ q) : wN (q + 1) = 4 := by rcases h with rfl | rfl | rfl <;> decide +kernel
theorem ak2 {q : Nat} (h : aQ q) : wK (q + 2) = 1 := by rcases h with rfl | rfl | rfl <;> decide +kernel
theorem an2 {q : Nat} (h : aQ q) : wN (q + 2) = 8 := by rcases h with rfl | rfl | rfl <;> decide +kernel
theorem ak3 {q : Nat} (h : aQ q) : wK (q + 3) = 0 := by rcases h with rfl | rfl | rfl <;> decide +kernel
theorem an3 {q : Nat} (h : aQ q) : wN (q + 3) = 8 := by rcases h with rfl | rfl | rfl <;> decide +kernel
theorem ak4 {q : Nat} (h : aQ q) : wK (q + 4) = 1 := by rcases h with rfl | rfl | rfl <;> decide +kernel
theorem an4 {q : Nat} (h : aQ q) : wN (q + 4) = 8 := by rcases h with rfl | rfl | rfl <;> decide +kernel
theorem ak5 {q : Nat} (h : aQ q) : wK (q + 5) = 0 := by rcases h with rfl | rfl | rfl <;> decide +kernel
theorem an5 {q : Nat} (h : aQ q) : wN (q + 5) = 8 := by rcases h with rfl | rfl | rfl <;> decide +kernel
theorem sA {q : Nat} (h : sQ q) : aQ (q + 7) := by
  unfold sQ at h; unfold aQ; omega
/-- the whole world is there -/
def Full (G : gT) : Prop := (∀ q, q < 53 → q ∈ gI G) ∧ (gY G)[0]? = some ((gC G).1, .int) ∧ (gY G)[1]? = some ((gC G).2.1, .boolean) ∧ (gY G)[2]? = some ((gC G).2.2, .object "MutableCells$Strand")
/-- the reference's part of it -/
def FullR (G : gT) : Prop := (∀ q, 53 ≤ q ∧ q < 85 → q ∈ gI G) ∧ (gY G)[0]? = some ((gC G).1, .int) ∧ (gY G)[1]? = some ((gC G).2.1, .boolean) ∧ True
theorem FullR.sub {G : gT} (hF : FullR G) {L : List Nat} (h : L.all (fun q => decide (53 ≤ q ∧ q < 85)) = true) : ∀ q, q ∈ L → q ∈ gI G := fun q hq => hF.1 q (by simpa using List.all_eq_true.mp h q hq)
theorem sI_ {G : gT} (hF : Full G) {q : Nat} (h : sQ q) (j : Nat) (hj : j < 13) : q + j ∈ gI G := hF.1 _ (by unfold sQ at h; omega)
theorem aI_ {G : gT} (hF : Full G) {q : Nat} (h : aQ q) (j : Nat) (hj : j < 6) : q + j ∈ gI G := hF.1 _ (by unfold aQ at h; omega)
theorem i32_lt {x y : Int32} : x < y ↔ x.toInt < y.toInt := Int32.lt_iff_toInt_lt
theorem i32_le {x y : Int32} : x ≤ y ↔ x.toInt ≤ y.toInt := Int32.le_iff_toInt_le
theorem Full.sub {G : gT} (hF : Full G) {L : List Nat} (h : L.all (fun q => decide (q < 53)) = true) : ∀ q, q ∈ L → q ∈ gI G := fun q hq => hF.1 q (by simpa using List.all_eq_true.mp h q hq)
theorem sI_val {x : Int32} (h0 : ¬ x < 0) (h1 : ¬ (3 : Int32) ≤ x) : sI x = 14 ∨ sI x = 27 ∨ sI x = 40 := by
  obtain ⟨j, hj, rfl⟩ := vp_in_of (vp_in_iff.mpr (by
    rw [i32_lt, Int32.toInt_zero] at h0
    rw [i32_le] at h1
    have h3 : (3 : Int32).toInt = 3 := by decide
    rw [h3] at h1
    exact ⟨by omega, by omega⟩) : vp_in x 3) (by decide)
  unfold sI
  rw [nI_clamp (by omega)]
  omega
theorem sQ_cmp {x : Int32} (h0 : ¬ x < 0) (h1 : ¬ (3 : Int32) ≤ x) : sQ (sI x) := sI_val h0 h1
theorem κR_pos {G : gT} {x : Int32} (h : ¬ x < 0) : κR G x = some (.ref (ad G (sI x))) := by
  have h1 : ¬ x = -1 := fun e => h (by rw [e]; decide)
  simp [κR, va_rf, h1]
theorem κR_ne {G : gT} {x : Int32} (h : ¬ x = -1) : κR G x = some (.ref (ad G (sI x))) := by
  simp [κR, va_rf, h]
theorem cnt_lt2 {x K : Int32} {i : Nat} {y : Int32} {n : Nat} (hc : x = nI i) (h : ¬ y ≤ x) (hy : y ≤ K) (hK : K.toInt = (n : Int)) (hn : n < 2 ^ 31) (hi : i ≤ n) : i + 1 ≤ n := by
  rw [i32_le, hK] at hy
  rw [hc, i32_le, nI_toInt (by omega)] at h
  omega
theorem vin_cnt2 {x K : Int32} {i : Nat} {y : Int32} {n : Nat} (hc : x = nI i) (h : ¬ y ≤ x) (hy : y ≤ K) (hK : K.toInt = (n : Int)) (hn : n < 2 ^ 31) (hi : i ≤ n) : vp_in x n := by
  have h1 := cnt_lt2 hc h hy hK hn hi
  rw [hc]; exact vp_in_nI (by omega) hn
theorem dwn_in {y : Int32} {j : Nat} (hc : y = nI j - 1) (hj : j ≤ 8) (h : ¬ y < 0) : vp_in y 8 := by
  rcases j with _ | j
  · exact absurd (show y < 0 by rw [hc]; decide) h
  · rw [hc, nI_pred]; exact vp_in_nI (by omega) (by decide)
theorem dwn_in9 {y : Int32} {j : Nat} (hc : y = nI j - 1) (hj : j ≤ 9) (h : ¬ y < 0) : vp_in y 9 ∧ y.toNatClampNeg < j := by
  rcases j with _ | j
  · exact absurd (show y < 0 by rw [hc]; decide) h
  · rw [hc, nI_pred]; exact ⟨vp_in_nI (by omega) (by decide), by rw [nI_clamp (by omega)]; omega⟩
theorem dwn_s {y : Int32} {j : Nat} (hc : y = nI j - 1) (h : ¬ y < 0) : 1 ≤ j ∧ y + (-1) = nI (j - 1) - 1 := by
  rcases j with _ | j
  · exact absurd (show y < 0 by rw [hc]; decide) h
  · refine ⟨by omega, ?_⟩
    rw [hc, nI_pred, Nat.add_sub_cancel, Int32.sub_eq_add_neg]
theorem vin_cmp {x N : Int32} {n : Nat} (h0 : ¬ x < 0) (h1 : ¬ N ≤ x) (hN : N.toInt = (n : Int)) : vp_in x n := by
  rw [i32_lt, Int32.toInt_zero] at h0
  rw [i32_le, hN] at h1
  exact vp_in_iff.mpr ⟨by omega, by omega⟩
theorem vin_cmp2 {x N : Int32} {n : Nat} (h0 : ¬ x < 0) (h1 : x < N) (hN : N.toInt = (n : Int)) : vp_in x n := by
  rw [i32_lt, Int32.toInt_zero] at h0
  rw [i32_lt, hN] at h1
  exact vp_in_iff.mpr ⟨by omega, by omega⟩
theorem vin_cnt {x K : Int32} {i n : Nat} (hc : x = nI i) (h : ¬ K ≤ x) (hK : K.toInt = (n : Int)) (hn : n < 2 ^ 31) (hi : i ≤ n) : vp_in x n := by
  have h2 : i < n := by
    rw [hc, i32_le, hK, nI_toInt (by omega)] at h
    omega
  rw [hc]; exact vp_in_nI h2 hn
theorem cnt_lt {x K : Int32} {i n : Nat} (hc : x = nI i) (h : ¬ K ≤ x) (hK : K.toInt = (n : Int)) (hn : n < 2 ^ 31) (hi : i ≤ n) : i + 1 ≤ n := by
  rw [hc, i32_le, hK, nI_toInt (by omega)] at h
  omega
theorem vin_s {x : Int32} (h0 : ¬ x < 0) (h1 : ¬ (29 : Int32) ≤ x) : vp_in (x + 1) 30 := by
  obtain ⟨j, hj, rfl⟩ := vp_in_of (vin_cmp (n := 29) h0 h1 (by decide)) (by decide)
  rw [nI_1]; exact vp_in_nI (by omega) (by decide)
theorem vin_le {x : Int32} {a b : Nat} (h : vp_in x a) (hab : a ≤ b) : vp_in x b := by
  have h1 := vp_in_iff.mp h
  exact vp_in_iff.mpr ⟨h1.1, by omega⟩
theorem vin_lt {x : Int32} {n : Nat} (h : vp_in x n) : x.toNatClampNeg < n := Nat.not_le.mp fun q => h (Or.inr q)
theorem vmul {K t i : Int32} {n : Nat} (k a : Nat) (hK : K = nI k) (ht : vp_in t a) (hi : vp_in i k) (hn : a < 1000 ∧ k < 1000 ∧ a * k = n) : vp_in (K * t + i) n := by
  obtain ⟨h1, h2, h3⟩ := hn
  obtain ⟨j, hj, rfl⟩ := vp_in_of ht (by omega)
  obtain ⟨m, hm, rfl⟩ := vp_in_of hi (by omega)
  have h4 : j + 1 ≤ a := hj
  have h5 : (j + 1) * k ≤ a * k := Nat.mul_le_mul_right k h4
  have h6 : a * k < 1000 * 1000 := Nat.mul_lt_mul'' h1 h2
  have h7 : (j + 1) * k = k * j + k := by rw [Nat.add_mul, Nat.one_mul, Nat.mul_comm]
  rw [hK, show nI k * nI j = nI (k * j) from pk_mul k j, nI_add]
  exact vp_in_nI (by omega) (by omega)
theorem cnt_ge {x K : Int32} {i n k : Nat} (hc : x = nI i) (h : K ≤ x) (hK : K.toInt = (n : Int)) (hi : i < 2 ^ 31) (hk : k < n) : k < i := by
  rw [hc, i32_le, hK, nI_toInt hi] at h
  omega
theorem vin_ne {x : Int32} {n : Nat} (h : vp_in x (n + 1)) (hn : n < 2 ^ 30) (hne : ¬ x = nI n) : vp_in x n := by
  obtain ⟨j, hj, rfl⟩ := vp_in_of h (by omega)
  have h1 : j ≠ n := fun e => hne (by rw [e])
  exact vp_in_nI (by omega) (by omega)
theorem cnt_s {x : Int32} {i : Nat} (hc : x = nI i) : x + 1 = nI (i + 1) := by rw [hc]; exact nI_1 i

