/-! play: which strand is drawn -/
theorem goes_eq {σ τ : mS} (h : Rel σ τ) {t : Nat} (ht : t < 3) : f_X5_goes σ (nI t) = if f_X6_stateOf τ (nI t) = 0 then 1 else 0 := by
  unfold f_X5_goes
  obtain ⟨a, b, c⟩ := so3 t ht
  rw [a, if_neg b, c, state_eq h ht]
theorem drawn_e (σ : mS) (x c : Int32) (hc : (l_X5_drawn_4 4 (0 : Int32) (0 : Int32) σ).1 = c) : f_X5_drawn σ x = if c = 0 then -1 else l_X5_drawn_46 4 (((x.toUInt32 >>> ((16 : Int32).toUInt32 &&& Int32.toUInt32 31)).toInt32) - ((x.toUInt32 >>> ((16 : Int32).toUInt32 &&& Int32.toUInt32 31)).toInt32) / c * c) (0 : Int32) σ := by
  subst hc; rfl
theorem so_0 : f_X5_strandOf 0 = 0 := by decide +kernel
theorem so_1 : f_X5_strandOf 1 = 1 := by decide +kernel
theorem so_2 : f_X5_strandOf 2 = 2 := by decide +kernel
set_option maxHeartbeats 4000000 in
theorem its_eq {σ τ : mS} (h : Rel σ τ) {y p q p' q' : Int32} {u : Int32 × Int32} {w : Int32 × Int32 × Int32} (e1 : u = l_X6_play_30 4 (0 : Int32) (0 : Int32) τ p q) (e2 : w = l_X6_play_103 4 (((y.toUInt32 >>> ((16 : Int32).toUInt32 &&& Int32.toUInt32 31)).toInt32) - ((y.toUInt32 >>> ((16 : Int32).toUInt32 &&& Int32.toUInt32 31)).toInt32) / u.1 * u.1) (-1 : Int32) (0 : Int32) τ p' q') : (u.1 = 0 ∧ f_X5_drawn σ y = -1) ∨ (¬ u.1 = 0 ∧ f_X5_drawn σ y = w.2.1) := by
  obtain ⟨k, hk, ek⟩ := ushr16 y
  have g0 : f_X5_goes σ 0 = if f_X6_stateOf τ 0 = 0 then 1 else 0 := goes_eq h (t := 0) (by decide)
  have g1 : f_X5_goes σ 1 = if f_X6_stateOf τ 1 = 0 then 1 else 0 := goes_eq h (t := 1) (by decide)
  have g2 : f_X5_goes σ 2 = if f_X6_stateOf τ 2 = 0 then 1 else 0 := goes_eq h (t := 2) (by decide)
  rw [ek] at e2
  by_cases a0 : f_X6_stateOf τ 0 = 0 <;> by_cases a1 : f_X6_stateOf τ 1 = 0 <;> by_cases a2 : f_X6_stateOf τ 2 = 0
  · have hg : u.1 = 3 := by rw [e1]; simp [l_X6_play_30, a0, a1, a2]
    have hd := drawn_e σ y 3 (by simp [l_X5_drawn_4, g0, g1, g2, a0, a1, a2])
    right; refine ⟨by rw [hg]; decide, ?_⟩
    rw [if_neg (by decide), ek, show (3 : Int32) = nI 3 from rfl, pk_rem (by omega) (by decide) (by decide)] at hd
    rw [hg, show (3 : Int32) = nI 3 from rfl, pk_rem (by omega) (by decide) (by decide)] at e2
    have hr : k % 3 = 0 ∨ k % 3 = 1 ∨ k % 3 = 2 := by omega
    rcases hr with r | r | r <;> rw [r] at e2 hd <;> rw [e2, hd] <;> simp [l_X6_play_103, l_X5_drawn_46, g0, g1, g2, a0, a1, a2, nI, so_0, so_1, so_2]
  · have hg : u.1 = 2 := by rw [e1]; simp [l_X6_play_30, a0, a1, a2]
    have hd := drawn_e σ y 2 (by simp [l_X5_drawn_4, g0, g1, g2, a0, a1, a2])
    right; refine ⟨by rw [hg]; decide, ?_⟩
    rw [if_neg (by decide), ek, show (2 : Int32) = nI 2 from rfl, pk_rem (by omega) (by decide) (by decide)] at hd
    rw [hg, show (2 : Int32) = nI 2 from rfl, pk_rem (by omega) (by decide) (by decide)] at e2
    have hr : k % 2 = 0 ∨ k % 2 = 1 := by omega
    rcases hr with r | r <;> rw [r] at e2 hd <;> rw [e2, hd] <;> simp [l_X6_play_103, l_X5_drawn_46, g0, g1, g2, a0, a1, a2, nI, so_0, so_1, so_2]
  · have hg : u.1 = 2 := by rw [e1]; simp [l_X6_play_30, a0, a1, a2]
    have hd := drawn_e σ y 2 (by simp [l_X5_drawn_4, g0, g1, g2, a0, a1, a2])
    right; refine ⟨by rw [hg]; decide, ?_⟩
    rw [if_neg (by decide), ek, show (2 : Int32) = nI 2 from rfl, pk_rem (by omega) (by decide) (by decide)] at hd
    rw [hg, show (2 : Int32) = nI 2 from rfl, pk_rem (by omega) (by decide) (by decide)] at e2
    have hr : k % 2 = 0 ∨ k % 2 = 1 := by omega
    rcases hr with r | r <;> rw [r] at e2 hd <;> rw [e2, hd] <;> simp [l_X6_play_103, l_X5_drawn_46, g0, g1, g2, a0, a1, a2, nI, so_0, so_1, so_2]
  · have hg : u.1 = 1 := by rw [e1]; simp [l_X6_play_30, a0, a1, a2]
    have hd := drawn_e σ y 1 (by simp [l_X5_drawn_4, g0, g1, g2, a0, a1, a2])
    right; refine ⟨by rw [hg]; decide, ?_⟩
    rw [if_neg (by decide), ek, show (1 : Int32) = nI 1 from rfl, pk_rem (by omega) (by decide) (by decide)] at hd
    rw [hg, show (1 : Int32) = nI 1 from rfl, pk_rem (by omega) (by decide) (by decide)] at e2
    have hr : k % 1 = 0 := by omega
    have r := hr
    rw [r] at e2 hd <;> rw [e2, hd] <;> simp [l_X6_play_103, l_X5_drawn_46, g0, g1, g2, a0, a1, a2, nI, so_0, so_1, so_2]
  · have hg : u.1 = 2 := by rw [e1]; simp [l_X6_play_30, a0, a1, a2]
    have hd := drawn_e σ y 2 (by simp [l_X5_drawn_4, g0, g1, g2, a0, a1, a2])
    right; refine ⟨by rw [hg]; decide, ?_⟩
    rw [if_neg (by decide), ek, show (2 : Int32) = nI 2 from rfl, pk_rem (by omega) (by decide) (by decide)] at hd
    rw [hg, show (2 : Int32) = nI 2 from rfl, pk_rem (by omega) (by decide) (by decide)] at e2
    have hr : k % 2 = 0 ∨ k % 2 = 1 := by omega
    rcases hr with r | r <;> rw [r] at e2 hd <;> rw [e2, hd] <;> simp [l_X6_play_103, l_X5_drawn_46, g0, g1, g2, a0, a1, a2, nI, so_0, so_1, so_2]
  · have hg : u.1 = 1 := by rw [e1]; simp [l_X6_play_30, a0, a1, a2]
    have hd := drawn_e σ y 1 (by simp [l_X5_drawn_4, g0, g1, g2, a0, a1, a2])
    right; refine ⟨by rw [hg]; decide, ?_⟩
    rw [if_neg (by decide), ek, show (1 : Int32) = nI 1 from rfl, pk_rem (by omega) (by decide) (by decide)] at hd
    rw [hg, show (1 : Int32) = nI 1 from rfl, pk_rem (by omega) (by decide) (by decide)] at e2
    have hr : k % 1 = 0 := by omega
    have r := hr
    rw [r] at e2 hd <;> rw [e2, hd] <;> simp [l_X6_play_103, l_X5_drawn_46, g0, g1, g2, a0, a1, a2, nI, so_0, so_1, so_2]
  · have hg : u.1 = 1 := by rw [e1]; simp [l_X6_play_30, a0, a1, a2]
    have hd := drawn_e σ y 1 (by simp [l_X5_drawn_4, g0, g1, g2, a0, a1, a2])
    right; refine ⟨by rw [hg]; decide, ?_⟩
    rw [if_neg (by decide), ek, show (1 : Int32) = nI 1 from rfl, pk_rem (by omega) (by decide) (by decide)] at hd
    rw [hg, show (1 : Int32) = nI 1 from rfl, pk_rem (by omega) (by decide) (by decide)] at e2
    have hr : k % 1 = 0 := by omega
    have r := hr
    rw [r] at e2 hd <;> rw [e2, hd] <;> simp [l_X6_play_103, l_X5_drawn_46, g0, g1, g2, a0, a1, a2, nI, so_0, so_1, so_2]
  · have hg : u.1 = 0 := by rw [e1]; simp [l_X6_play_30, a0, a1, a2]
    have hd := drawn_e σ y 0 (by simp [l_X5_drawn_4, g0, g1, g2, a0, a1, a2])
    left; exact ⟨hg, by rw [hd, if_pos rfl]⟩
set_option maxHeartbeats 4000000 in
theorem P_play18 {b : Nat} (hb : b < 2 ^ 26) {x2 : Int32} (hx : x2 ≤ (100 : Int32)) : ∀ (n i : Nat) (y3 y4 : Int32) (σ τ : mS), y4 = nI i → i ≤ 100 → n + i = 101 → Rel σ τ → RI (b + 12 * i) τ → (l_X5_play_19 n y3 y4 σ x2).1 = (l_X6_play_18 n y3 y4 τ x2).1 ∧ Rel (l_X5_play_19 n y3 y4 σ x2).2 (l_X6_play_18 n y3 y4 τ x2).2 ∧ RI (b + 1200) (l_X6_play_18 n y3 y4 τ x2).2 := by
  intro n
  induction n with
  | zero => intro i y3 y4 σ τ hc hi hn; exact absurd hn (by omega)
  | succ n ih =>
    intro i y3 y4 σ τ hc hi hn h hI
    rw [l_X5_play_19.eq_2, l_X6_play_18.eq_2]
    by_cases c1 : x2 ≤ y4
    · rw [if_pos c1, if_pos c1]
      exact ⟨rfl, h, hI.mono (by omega)⟩
    rw [if_neg c1, if_neg c1]
    simp only [ap]
    generalize hy : y3 * (1103515245 : Int32) + (12345 : Int32) = y
    generalize hu : l_X6_play_30 4 (0 : Int32) (0 : Int32) τ y3 y4 = u
    generalize hw : l_X6_play_103 4 (((y.toUInt32 >>> ((16 : Int32).toUInt32 &&& Int32.toUInt32 31)).toInt32) - ((y.toUInt32 >>> ((16 : Int32).toUInt32 &&& Int32.toUInt32 31)).toInt32) / u.1 * u.1) (-1 : Int32) (0 : Int32) τ y y4 = w
    rcases its_eq h hu.symm hw.symm with ⟨d1, d2⟩ | ⟨d1, d2⟩
    · rw [if_pos d1, d2, if_pos rfl, ite_self]
      exact ⟨rfl, h, hI.mono (by omega)⟩
    · rw [if_neg d1]
      by_cases c2 : τ 53 0 = (5000 : Int32)
      · rw [if_pos c2, if_neg (fun z => (fails_eq h).mp z c2)]
        exact ⟨rfl, h, hI.mono (by omega)⟩
      · have hv := its_ok hu.symm hw.symm d1
        obtain ⟨t, ht, et⟩ := vp_in_of hv (by decide)
        obtain ⟨s1, s2, s3⟩ := so3 t ht
        rw [if_neg c2, if_pos ((fails_eq h).mpr c2), d2, et, if_neg s2, s3]
        refine ih (i + 1) y (y4 + 1) _ _ (cnt_s hc) (cnt_lt2 hc c1 hx (by decide) (by decide) hi) (by omega) (h.turn hI (by omega) c2 ht (fun τ' => k0_doAct τ' (nI t))) ((RI_doTurn hI (by rw [← et]; exact hv)).mono (by omega))
theorem P_play {σ τ : mS} (h : Rel σ τ) {b : Nat} (hI : RI b τ) (hb : b < 2 ^ 26) (x y : Int32) : (f_X5_play σ x y).1 = (f_X6_play τ x y).1 ∧ Rel (f_X5_play σ x y).2 (f_X6_play τ x y).2 ∧ RI (b + 1200) (f_X6_play τ x y).2 := by
  unfold f_X5_play f_X6_play
  by_cases c : f_X6_within y 1 100 = 0
  · rw [if_pos c]
    have c' := c
    unfold f_X6_within at c'
    by_cases c1 : y < 1
    · rw [if_pos c1]
      exact ⟨rfl, h, hI.mono (by omega)⟩
    · rw [if_neg c1] at c' ⊢
      by_cases c2 : (100 : Int32) < y
      · rw [if_neg (Int32.not_le.mpr c2)]
        exact ⟨rfl, h, hI.mono (by omega)⟩
      · rw [if_neg c2] at c'
        exact absurd c' (by decide)
  · rw [if_neg c]
    obtain ⟨c1, c2⟩ := within_iff.mp c
    rw [if_neg (Int32.not_lt.mpr c1), if_pos c2]
    exact P_play18 hb c2 101 0 x 0 σ τ nI_0.symm (by decide) rfl h hI
