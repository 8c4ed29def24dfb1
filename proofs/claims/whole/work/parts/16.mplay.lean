def l_X6_play_30 : Nat → Int32 → Int32 → mS → Int32 → Int32 → Int32 × Int32
  | 0, y5, y6, σ, _, _ => (y5, y6)
  | n + 1, y5, y6, σ, p3, p4 => (if (3 : Int32) ≤ y6 then (y5, y6) else (if (f_X6_stateOf σ y6) = 0 then (l_X6_play_30 n (y5 + (1 : Int32)) (y6 + 1) σ p3 p4) else (l_X6_play_30 n (y5 + (0 : Int32)) (y6 + 1) σ p3 p4)))
set_option maxRecDepth 100000 in
set_option maxHeartbeats 4000000 in
theorem vl_X6_play_30 (l : Launch) {G : gT} (X : xT) (hF : FullR G) (σ : mS) (p3 : Int32) (p4 : Int32) (x2 : Int32)  {B : Int32 × Int32 → Int32 × mS} (E : Int32 × Int32) : ∀ (n : Nat) (y5 : Int32) (y6 : Int32) (i : Nat) (hc : y6 = nI i) (hi : i ≤ 3) (hn : n + i = 4) (hE : (l_X6_play_30 n y5 y6 σ p3 p4) = E) (hk : ∀ u : Int32 × Int32, u = E → V l G X RX6 cX6_play 9 7 (some .int) κI ((fun v => ap B v) u) σ 61 [(0, .ref (ad G 53)), (2, .int x2), (3, .int p3), (4, .int p4), (5, .int u.1), (6, .int u.2)] []), V l G X RX6 cX6_play 9 7 (some .int) κI ((fun v => ap B v) (l_X6_play_30 n y5 y6 σ p3 p4)) σ 30 [(0, .ref (ad G 53)), (2, .int x2), (3, .int p3), (4, .int p4), (5, .int y5), (6, .int y6)] [] := by
  intro n
  induction n with
  | zero => intro y5 y6 i hc hi hn hE hk; exact absurd hn (by omega)
  | succ n ih =>
    intro y5 y6 i hc hi hn hE hk
    rw [l_X6_play_30.eq_2]
    rw [l_X6_play_30.eq_2] at hE
    refine Vload dX6_play_30 5 rfl 32 rfl ?_
    refine Viconst dX6_play_32 (3 : Int32) (by decide) 33 rfl ?_
    refine Vicge (fun v => ap B v) dX6_play_33 61 36 (by decide) rfl (fun h3 => ?_) (fun h3 => ?_)
    · rw [if_pos h3] at hE
      refine Vlv [0, 1, 2, 3, 4, 5] rfl ?_
      exact hk (y5, y6) hE 
    · rw [if_neg h3] at hE
      refine Vload dX6_play_36 4 rfl 38 rfl ?_
      refine Vaload_n dX6_play_38 0 rfl 39 rfl ?_
      refine Vload dX6_play_39 5 rfl 41 rfl ?_
      refine VcVp dX6_play_41 [.int y6] (c_X6_stateOf l hF σ y6 (vin_cnt hc (by assumption) (by decide) (by decide) hi)) mw_X6_stateOf wd_im_yX6_stateOf wd_se_yX6_stateOf wd_ml_RX6_190 (hF.1 53 (by decide)) wk53 rfl rfl (by decide) rfl rfl (Nat.le_of_ble_eq_true rfl) 44 rfl ?_
      refine Vifne (fun v => ap B v) dX6_play_44 51 47 (by decide) rfl (fun h4 => ?_) (fun h4 => ?_)
      · rw [if_neg h4] at hE
        refine Viconst dX6_play_51 (0 : Int32) (by decide) 52 rfl ?_
        refine Viadd dX6_play_52 53 rfl ?_
        refine Vstore dX6_play_53 [(5, .int (y5 + (0 : Int32))), (0, .ref (ad G 53)), (2, .int x2), (3, .int p3), (4, .int p4), (6, .int y6)] 55 rfl (by decide) rfl ?_
        refine Viinc dX6_play_55 (y6 + 1) 5 [(6, .int (y6 + 1)), (5, .int (y5 + (0 : Int32))), (0, .ref (ad G 53)), (2, .int x2), (3, .int p3), (4, .int p4)] 58 rfl rfl rfl (by decide) rfl ?_
        refine Vgoto dX6_play_58 30 (by decide) ?_
        refine Vlv [2, 3, 4, 5, 1, 0] rfl ?_
        exact ih (y5 + (0 : Int32)) (y6 + 1) (i + 1) (cnt_s hc) (cnt_lt hc (by assumption) (K := 3) (by decide) (by decide) hi) (by omega) hE hk
      · rw [if_pos h4] at hE
        refine Viconst dX6_play_47 (1 : Int32) (by decide) 48 rfl ?_
        refine Vgoto dX6_play_48 52 (by decide) ?_
        refine Viadd dX6_play_52 53 rfl ?_
        refine Vstore dX6_play_53 [(5, .int (y5 + (1 : Int32))), (0, .ref (ad G 53)), (2, .int x2), (3, .int p3), (4, .int p4), (6, .int y6)] 55 rfl (by decide) rfl ?_
        refine Viinc dX6_play_55 (y6 + 1) 5 [(6, .int (y6 + 1)), (5, .int (y5 + (1 : Int32))), (0, .ref (ad G 53)), (2, .int x2), (3, .int p3), (4, .int p4)] 58 rfl rfl rfl (by decide) rfl ?_
        refine Vgoto dX6_play_58 30 (by decide) ?_
        refine Vlv [2, 3, 4, 5, 1, 0] rfl ?_
        exact ih (y5 + (1 : Int32)) (y6 + 1) (i + 1) (cnt_s hc) (cnt_lt hc (by assumption) (K := 3) (by decide) (by decide) hi) (by omega) hE hk
def l_X6_play_103 : Nat → Int32 → Int32 → Int32 → mS → Int32 → Int32 → Int32 × Int32 × Int32
  | 0, y6, y7, y8, σ, _, _ => (y6, y7, y8)
  | n + 1, y6, y7, y8, σ, p3, p4 => (if (3 : Int32) ≤ y8 then (y6, y7, y8) else (if (f_X6_stateOf σ y8) = 0 then (if y6 = 0 then (l_X6_play_103 n (y6 + (-1)) y8 (y8 + 1) σ p3 p4) else (l_X6_play_103 n (y6 + (-1)) y7 (y8 + 1) σ p3 p4)) else (l_X6_play_103 n y6 y7 (y8 + 1) σ p3 p4)))
set_option maxRecDepth 100000 in
set_option maxHeartbeats 4000000 in
theorem vl_X6_play_103 (l : Launch) {G : gT} (X : xT) (hF : FullR G) (σ : mS) (p3 : Int32) (p4 : Int32) (x2 : Int32)  {B : Int32 × Int32 × Int32 → Int32 × mS} (E : Int32 × Int32 × Int32) : ∀ (n : Nat) (y6 : Int32) (y7 : Int32) (y8 : Int32) (i : Nat) (hc : y8 = nI i) (hi : i ≤ 3) (hn : n + i = 4) (hE : (l_X6_play_103 n y6 y7 y8 σ p3 p4) = E) (hk : ∀ u : Int32 × Int32 × Int32, u = E → V l G X RX6 cX6_play 9 7 (some .int) κI ((fun v => ap B v) u) σ 141 [(0, .ref (ad G 53)), (2, .int x2), (3, .int p3), (4, .int p4), (6, .int u.1), (7, .int u.2.1), (8, .int u.2.2)] []), V l G X RX6 cX6_play 9 7 (some .int) κI ((fun v => ap B v) (l_X6_play_103 n y6 y7 y8 σ p3 p4)) σ 103 [(0, .ref (ad G 53)), (2, .int x2), (3, .int p3), (4, .int p4), (6, .int y6), (7, .int y7), (8, .int y8)] [] := by
  intro n
  induction n with
  | zero => intro y6 y7 y8 i hc hi hn hE hk; exact absurd hn (by omega)
  | succ n ih =>
    intro y6 y7 y8 i hc hi hn hE hk
    rw [l_X6_play_103.eq_2]
    rw [l_X6_play_103.eq_2] at hE
    refine Vload dX6_play_103 6 rfl 105 rfl ?_
    refine Viconst dX6_play_105 (3 : Int32) (by decide) 106 rfl ?_
    refine Vicge (fun v => ap B v) dX6_play_106 141 109 (by decide) rfl (fun h8 => ?_) (fun h8 => ?_)
    · rw [if_pos h8] at hE
      refine Vlv [0, 1, 2, 3, 4, 5, 6] rfl ?_
      exact hk (y6, y7, y8) hE 
    · rw [if_neg h8] at hE
      refine Vaload_n dX6_play_109 0 rfl 110 rfl ?_
      refine Vload dX6_play_110 6 rfl 112 rfl ?_
      refine VcVp dX6_play_112 [.int y8] (c_X6_stateOf l hF σ y8 (vin_cnt hc (by assumption) (by decide) (by decide) hi)) mw_X6_stateOf wd_im_yX6_stateOf wd_se_yX6_stateOf wd_ml_RX6_190 (hF.1 53 (by decide)) wk53 rfl rfl (by decide) rfl rfl (Nat.le_of_ble_eq_true rfl) 115 rfl ?_
      refine Vifne (fun v => ap B v) dX6_play_115 135 118 (by decide) rfl (fun h9 => ?_) (fun h9 => ?_)
      · rw [if_neg h9] at hE
        refine Viinc dX6_play_135 (y8 + 1) 6 [(8, .int (y8 + 1)), (0, .ref (ad G 53)), (2, .int x2), (3, .int p3), (4, .int p4), (6, .int y6), (7, .int y7)] 138 rfl rfl rfl (by decide) rfl ?_
        refine Vgoto dX6_play_138 103 (by decide) ?_
        refine Vlv [1, 2, 3, 4, 5, 6, 0] rfl ?_
        exact ih y6 y7 (y8 + 1) (i + 1) (cnt_s hc) (cnt_lt hc (by assumption) (K := 3) (by decide) (by decide) hi) (by omega) hE hk
      · rw [if_pos h9] at hE
        refine Vload dX6_play_118 4 rfl 120 rfl ?_
        refine Vifne (fun v => ap B v) dX6_play_120 128 123 (by decide) rfl (fun h10 => ?_) (fun h10 => ?_)
        · rw [if_neg h10] at hE
          refine Vload dX6_play_128 5 rfl 130 rfl ?_
          refine Vstore dX6_play_130 [(7, .int y7), (0, .ref (ad G 53)), (2, .int x2), (3, .int p3), (4, .int p4), (6, .int y6), (8, .int y8)] 132 rfl (by decide) rfl ?_
          refine Viinc dX6_play_132 (y6 + (-1)) 5 [(6, .int (y6 + (-1))), (7, .int y7), (0, .ref (ad G 53)), (2, .int x2), (3, .int p3), (4, .int p4), (8, .int y8)] 135 rfl rfl rfl (by decide) rfl ?_
          refine Viinc dX6_play_135 (y8 + 1) 6 [(8, .int (y8 + 1)), (6, .int (y6 + (-1))), (7, .int y7), (0, .ref (ad G 53)), (2, .int x2), (3, .int p3), (4, .int p4)] 138 rfl rfl rfl (by decide) rfl ?_
          refine Vgoto dX6_play_138 103 (by decide) ?_
          refine Vlv [3, 4, 5, 6, 1, 2, 0] rfl ?_
          exact ih (y6 + (-1)) y7 (y8 + 1) (i + 1) (cnt_s hc) (cnt_lt hc (by assumption) (K := 3) (by decide) (by decide) hi) (by omega) hE hk
        · rw [if_pos h10] at hE
          refine Vload dX6_play_123 6 rfl 125 rfl ?_
          refine Vgoto dX6_play_125 130 (by decide) ?_
          refine Vstore dX6_play_130 [(7, .int y8), (0, .ref (ad G 53)), (2, .int x2), (3, .int p3), (4, .int p4), (6, .int y6), (8, .int y8)] 132 rfl (by decide) rfl ?_
          refine Viinc dX6_play_132 (y6 + (-1)) 5 [(6, .int (y6 + (-1))), (7, .int y8), (0, .ref (ad G 53)), (2, .int x2), (3, .int p3), (4, .int p4), (8, .int y8)] 135 rfl rfl rfl (by decide) rfl ?_
          refine Viinc dX6_play_135 (y8 + 1) 6 [(8, .int (y8 + 1)), (6, .int (y6 + (-1))), (7, .int y8), (0, .ref (ad G 53)), (2, .int x2), (3, .int p3), (4, .int p4)] 138 rfl rfl rfl (by decide) rfl ?_
          refine Vgoto dX6_play_138 103 (by decide) ?_
          refine Vlv [3, 4, 5, 6, 1, 2, 0] rfl ?_
          exact ih (y6 + (-1)) y8 (y8 + 1) (i + 1) (cnt_s hc) (cnt_lt hc (by assumption) (K := 3) (by decide) (by decide) hi) (by omega) hE hk
theorem ushr16 (y : Int32) : ∃ k : Nat, k < 65536 ∧ ((y.toUInt32 >>> ((16 : Int32).toUInt32 &&& Int32.toUInt32 31)).toInt32) = nI k := by
  have h := pk_ushr y (16 : Int32) 16 (by decide)
  refine ⟨((y.toUInt32 >>> ((16 : Int32).toUInt32 &&& Int32.toUInt32 31)).toInt32).toBitVec.toNat, ?_, ?_⟩
  · rw [h]
    have h2 := y.toBitVec.isLt
    exact (Nat.div_lt_iff_lt_mul (by decide)).mpr (by omega)
  · generalize ((y.toUInt32 >>> ((16 : Int32).toUInt32 &&& Int32.toUInt32 31)).toInt32) = z
    apply Int32.toBitVec_inj.mp
    show z.toBitVec = BitVec.ofNat 32 z.toBitVec.toNat
    simp
set_option maxHeartbeats 4000000 in
theorem its_ok {σ : mS} {y p q p' q' : Int32} {u : Int32 × Int32} {w : Int32 × Int32 × Int32} (e1 : u = l_X6_play_30 4 (0 : Int32) (0 : Int32) σ p q) (e2 : w = l_X6_play_103 4 (((y.toUInt32 >>> ((16 : Int32).toUInt32 &&& Int32.toUInt32 31)).toInt32) - ((y.toUInt32 >>> ((16 : Int32).toUInt32 &&& Int32.toUInt32 31)).toInt32) / u.1 * u.1) (-1 : Int32) (0 : Int32) σ p' q') (hne : ¬ u.1 = 0) : vp_in w.2.1 3 := by
  obtain ⟨k, hk, ek⟩ := ushr16 y
  rw [ek] at e2
  by_cases a0 : f_X6_stateOf σ 0 = 0 <;> by_cases a1 : f_X6_stateOf σ 1 = 0 <;> by_cases a2 : f_X6_stateOf σ 2 = 0
  · have hg : u.1 = 3 := by rw [e1]; simp [l_X6_play_30, a0, a1, a2]
    rw [hg, show (3 : Int32) = nI 3 from rfl, pk_rem (by omega) (by decide) (by decide)] at e2
    have hr : k % 3 = 0 ∨ k % 3 = 1 ∨ k % 3 = 2 := by omega
    rcases hr with r | r | r <;> rw [r] at e2 <;> rw [e2] <;> simp [l_X6_play_103, a0, a1, a2, nI] <;> exact vp_in_iff.mpr (by decide)
  · have hg : u.1 = 2 := by rw [e1]; simp [l_X6_play_30, a0, a1, a2]
    rw [hg, show (2 : Int32) = nI 2 from rfl, pk_rem (by omega) (by decide) (by decide)] at e2
    have hr : k % 2 = 0 ∨ k % 2 = 1 := by omega
    rcases hr with r | r <;> rw [r] at e2 <;> rw [e2] <;> simp [l_X6_play_103, a0, a1, a2, nI] <;> exact vp_in_iff.mpr (by decide)
  · have hg : u.1 = 2 := by rw [e1]; simp [l_X6_play_30, a0, a1, a2]
    rw [hg, show (2 : Int32) = nI 2 from rfl, pk_rem (by omega) (by decide) (by decide)] at e2
    have hr : k % 2 = 0 ∨ k % 2 = 1 := by omega
    rcases hr with r | r <;> rw [r] at e2 <;> rw [e2] <;> simp [l_X6_play_103, a0, a1, a2, nI] <;> exact vp_in_iff.mpr (by decide)
  · have hg : u.1 = 1 := by rw [e1]; simp [l_X6_play_30, a0, a1, a2]
    rw [hg, show (1 : Int32) = nI 1 from rfl, pk_rem (by omega) (by decide) (by decide)] at e2
    have hr : k % 1 = 0 := by omega
    rw [hr] at e2 <;> rw [e2] <;> simp [l_X6_play_103, a0, a1, a2, nI] <;> exact vp_in_iff.mpr (by decide)
  · have hg : u.1 = 2 := by rw [e1]; simp [l_X6_play_30, a0, a1, a2]
    rw [hg, show (2 : Int32) = nI 2 from rfl, pk_rem (by omega) (by decide) (by decide)] at e2
    have hr : k % 2 = 0 ∨ k % 2 = 1 := by omega
    rcases hr with r | r <;> rw [r] at e2 <;> rw [e2] <;> simp [l_X6_play_103, a0, a1, a2, nI] <;> exact vp_in_iff.mpr (by decide)
  · have hg : u.1 = 1 := by rw [e1]; simp [l_X6_play_30, a0, a1, a2]
    rw [hg, show (1 : Int32) = nI 1 from rfl, pk_rem (by omega) (by decide) (by decide)] at e2
    have hr : k % 1 = 0 := by omega
    rw [hr] at e2 <;> rw [e2] <;> simp [l_X6_play_103, a0, a1, a2, nI] <;> exact vp_in_iff.mpr (by decide)
  · have hg : u.1 = 1 := by rw [e1]; simp [l_X6_play_30, a0, a1, a2]
    rw [hg, show (1 : Int32) = nI 1 from rfl, pk_rem (by omega) (by decide) (by decide)] at e2
    have hr : k % 1 = 0 := by omega
    rw [hr] at e2 <;> rw [e2] <;> simp [l_X6_play_103, a0, a1, a2, nI] <;> exact vp_in_iff.mpr (by decide)
  · have hg : u.1 = 0 := by rw [e1]; simp [l_X6_play_30, a0, a1, a2]
    exact absurd hg hne

def l_X6_play_18 : Nat → Int32 → Int32 → mS → Int32 → Int32 × mS
  | 0, y3, y4, σ, _ => (0, σ)
  | n + 1, y3, y4, σ, x2 => (if x2 ≤ y4 then (x2, σ) else (ap (fun u5 => (if u5.1 = 0 then (y4, σ) else (if (σ 53 0) = (5000 : Int32) then (y4, σ) else (ap (fun u11 => (ap (fun u12 => (l_X6_play_18 n ((y3 * (1103515245 : Int32)) + (12345 : Int32)) (y4 + 1) u12.2 x2)) (f_X6_doTurn σ u11.2.1))) (l_X6_play_103 4 (((((y3 * (1103515245 : Int32)) + (12345 : Int32)).toUInt32 >>> ((16 : Int32).toUInt32 &&& Int32.toUInt32 31)).toInt32) - ((((y3 * (1103515245 : Int32)) + (12345 : Int32)).toUInt32 >>> ((16 : Int32).toUInt32 &&& Int32.toUInt32 31)).toInt32) / u5.1 * u5.1) (-1 : Int32) (0 : Int32) σ ((y3 * (1103515245 : Int32)) + (12345 : Int32)) y4))))) (l_X6_play_30 4 (0 : Int32) (0 : Int32) σ y3 y4)))
set_option maxRecDepth 100000 in
set_option maxHeartbeats 4000000 in
theorem vl_X6_play_18 (l : Launch) {G : gT} (X : xT) (hF : FullR G) (x2 : Int32) (b : Nat) (hb : b < 2 ^ 25) (hx2 : x2 ≤ (100 : Int32)) : ∀ (n : Nat) (y3 : Int32) (y4 : Int32) (σ : mS) (i : Nat) (hc : y4 = nI i) (hi : i ≤ 100) (hn : n + i = 101) (hRI : RI (b + 12 * i) σ), V l G X RX6 cX6_play 9 7 (some .int) κI ((fun v => v) (l_X6_play_18 n y3 y4 σ x2)) σ 18 [(0, .ref (ad G 53)), (2, .int x2), (3, .int y3), (4, .int y4)] [] := by
  intro n
  induction n with
  | zero => intro y3 y4 σ i hc hi hn hRI; exact absurd hn (by omega)
  | succ n ih =>
    intro y3 y4 σ i hc hi hn hRI
    rw [l_X6_play_18.eq_2]
    refine Vload dX6_play_18 3 rfl 20 rfl ?_
    refine Vload_n dX6_play_20 1 rfl 21 rfl ?_
    refine Vicge (fun v => v) dX6_play_21 153 24 (by decide) rfl (fun h2 => ?_) (fun h2 => ?_)
    · refine Vload_n dX6_play_153 1 rfl 154 rfl ?_
      exact Viret dX6_play_154
    · refine Viconst dX6_play_24 (0 : Int32) (by decide) 25 rfl ?_
      refine Vstore dX6_play_25 [(5, .int (0 : Int32)), (0, .ref (ad G 53)), (2, .int x2), (3, .int y3), (4, .int y4)] 27 rfl (by decide) rfl ?_
      refine Viconst dX6_play_27 (0 : Int32) (by decide) 28 rfl ?_
      refine Vstore dX6_play_28 [(6, .int (0 : Int32)), (5, .int (0 : Int32)), (0, .ref (ad G 53)), (2, .int x2), (3, .int y3), (4, .int y4)] 30 rfl (by decide) rfl ?_
      refine Vlv [2, 3, 4, 5, 1, 0] rfl ?_
      refine vl_X6_play_30 l X hF σ y3 y4 x2  _ 4 (0 : Int32) (0 : Int32) 0 nI_0.symm (Nat.zero_le _) rfl rfl ?_
      intro u5 eu5
      refine Vap ?_
      refine Vload dX6_play_61 4 rfl 63 rfl ?_
      refine Vifeq (fun v => v) dX6_play_63 76 66 (by decide) rfl (fun h6 => ?_) (fun h6 => ?_)
      · refine Vload dX6_play_76 3 rfl 78 rfl ?_
        exact Viret dX6_play_78
      · refine Vaload_n dX6_play_66 0 rfl 67 rfl ?_
        refine Vget (53) 0 dX6_play_67 70 rfl (hF.1 53 (by decide)) wk53 rfl inX6 (by decide) wd_fl_RX6_181 (v := .int (σ 53 0)) rfl ?_
        refine Vsipush dX6_play_70 (5000 : Int32) (by decide) 73 rfl ?_
        refine Vicne (fun v => v) dX6_play_73 79 76 (by decide) rfl (fun h7 => ?_) (fun h7 => ?_)
        · refine Vload_n dX6_play_79 2 rfl 80 rfl ?_
          refine Vldc dX6_play_80 (1103515245 : Int32) wd_ct_RX6_196 82 rfl ?_
          refine Vimul dX6_play_82 83 rfl ?_
          refine Vsipush dX6_play_83 (12345 : Int32) (by decide) 86 rfl ?_
          refine Viadd dX6_play_86 87 rfl ?_
          refine Vstore_n dX6_play_87 [(3, .int ((y3 * (1103515245 : Int32)) + (12345 : Int32))), (0, .ref (ad G 53)), (2, .int x2), (4, .int y4), (5, .int u5.1), (6, .int u5.2)] 88 rfl (by decide) rfl ?_
          refine Vload_n dX6_play_88 0 rfl 89 rfl ?_
          refine Vbipush dX6_play_89 (16 : Int32) (by decide) 91 rfl ?_
          refine Viushr dX6_play_91 92 rfl ?_
          refine Vload dX6_play_92 4 rfl 94 rfl ?_
          refine Virem dX6_play_94 (by first | assumption | decide) 95 rfl ?_
          refine Vstore dX6_play_95 [(6, .int (((((y3 * (1103515245 : Int32)) + (12345 : Int32)).toUInt32 >>> ((16 : Int32).toUInt32 &&& Int32.toUInt32 31)).toInt32) - ((((y3 * (1103515245 : Int32)) + (12345 : Int32)).toUInt32 >>> ((16 : Int32).toUInt32 &&& Int32.toUInt32 31)).toInt32) / u5.1 * u5.1)), (3, .int ((y3 * (1103515245 : Int32)) + (12345 : Int32))), (0, .ref (ad G 53)), (2, .int x2), (4, .int y4), (5, .int u5.1)] 97 rfl (by decide) rfl ?_
          refine Viconst dX6_play_97 (-1 : Int32) (by decide) 98 rfl ?_
          refine Vstore dX6_play_98 [(7, .int (-1 : Int32)), (6, .int (((((y3 * (1103515245 : Int32)) + (12345 : Int32)).toUInt32 >>> ((16 : Int32).toUInt32 &&& Int32.toUInt32 31)).toInt32) - ((((y3 * (1103515245 : Int32)) + (12345 : Int32)).toUInt32 >>> ((16 : Int32).toUInt32 &&& Int32.toUInt32 31)).toInt32) / u5.1 * u5.1)), (3, .int ((y3 * (1103515245 : Int32)) + (12345 : Int32))), (0, .ref (ad G 53)), (2, .int x2), (4, .int y4), (5, .int u5.1)] 100 rfl (by decide) rfl ?_
          refine Viconst dX6_play_100 (0 : Int32) (by decide) 101 rfl ?_
          refine Vstore dX6_play_101 [(8, .int (0 : Int32)), (7, .int (-1 : Int32)), (6, .int (((((y3 * (1103515245 : Int32)) + (12345 : Int32)).toUInt32 >>> ((16 : Int32).toUInt32 &&& Int32.toUInt32 31)).toInt32) - ((((y3 * (1103515245 : Int32)) + (12345 : Int32)).toUInt32 >>> ((16 : Int32).toUInt32 &&& Int32.toUInt32 31)).toInt32) / u5.1 * u5.1)), (3, .int ((y3 * (1103515245 : Int32)) + (12345 : Int32))), (0, .ref (ad G 53)), (2, .int x2), (4, .int y4), (5, .int u5.1)] 103 rfl (by decide) rfl ?_
          refine Vlv [4, 5, 3, 6, 2, 1, 0] rfl ?_
          refine vl_X6_play_103 l X hF σ ((y3 * (1103515245 : Int32)) + (12345 : Int32)) y4 x2  _ 4 (((((y3 * (1103515245 : Int32)) + (12345 : Int32)).toUInt32 >>> ((16 : Int32).toUInt32 &&& Int32.toUInt32 31)).toInt32) - ((((y3 * (1103515245 : Int32)) + (12345 : Int32)).toUInt32 >>> ((16 : Int32).toUInt32 &&& Int32.toUInt32 31)).toInt32) / u5.1 * u5.1) (-1 : Int32) (0 : Int32) 0 nI_0.symm (Nat.zero_le _) rfl rfl ?_
          intro u11 eu11
          refine Vap ?_
          refine Vaload_n dX6_play_141 0 rfl 142 rfl ?_
          refine Vload dX6_play_142 5 rfl 144 rfl ?_
          refine Vgen ?_
          intro u12 eu12
          refine VcVv (u := u12) dX6_play_144 [.int u11.2.1] (by rw [eu12]; exact c_X6_doTurn l hF σ u11.2.1 (its_ok (by assumption) (by assumption) (by assumption)) (b + 12 * i) hRI (by omega)) mw_X6_doTurn wd_im_yX6_doTurn wd_se_yX6_doTurn wd_ml_RX6_193 (hF.1 53 (by decide)) wk53 rfl rfl (by decide) rfl rfl (Nat.le_of_ble_eq_true rfl) 147 rfl ?_
          have hRIU : RI (b + 12 * i + 12) u12.2 := by rw [eu12]; exact RI_doTurn hRI (its_ok (by assumption) (by assumption) (by assumption))
          refine Viinc dX6_play_147 (y4 + 1) 3 [(4, .int (y4 + 1)), (0, .ref (ad G 53)), (2, .int x2), (3, .int ((y3 * (1103515245 : Int32)) + (12345 : Int32))), (6, .int u11.1), (7, .int u11.2.1), (8, .int u11.2.2)] 150 rfl rfl rfl (by decide) rfl ?_
          refine Vgoto dX6_play_150 18 (by decide) ?_
          refine Vlv [1, 2, 3, 0] rfl ?_
          exact ih ((y3 * (1103515245 : Int32)) + (12345 : Int32)) (y4 + 1) u12.2 (i + 1) (cnt_s hc) (cnt_lt2 hc (by assumption) hx2 (by decide) (by decide) hi) (by omega) (hRIU.mono (by omega))
        · refine Vload dX6_play_76 3 rfl 78 rfl ?_
          exact Viret dX6_play_78
def f_X6_play (σ : mS) (x1 : Int32) (x2 : Int32) : Int32 × mS := (if (f_X6_within x2 (1 : Int32) (100 : Int32)) = 0 then ((-2 : Int32), σ) else (l_X6_play_18 101 x1 (0 : Int32) σ x2))
theorem mw_X6_play : mW yX6_play cX6_play 9 (some .int) 2 := ⟨wd_co_yX6_play, wd_ini_RX6, ⟨by decide, by decide⟩, by decide +kernel, by decide⟩
set_option maxRecDepth 100000 in
set_option maxHeartbeats 4000000 in
theorem c_X6_play (l : Launch) {G : gT} (hF : FullR G) (σ : mS) (x1 : Int32) (x2 : Int32) (b : Nat) (hRI : RI b σ) (hb : b < 2 ^ 25) : Ct l G yX6_play cX6_play 9 (some .int) 7 [.ref (ad G 53), .int x1, .int x2] κI σ (f_X6_play σ x1 x2) := by
  refine Ct.ofV [(0, .ref (ad G 53)), (1, .int x1), (2, .int x2)] rfl (by decide) (Nat.le_of_ble_eq_true rfl) rfl (fun X => ?_)
  unfold f_X6_play
  refine Vload_n dX6_play_0 2 rfl 1 rfl ?_
  refine Viconst dX6_play_1 (1 : Int32) (by decide) 2 rfl ?_
  refine Vbipush dX6_play_2 (100 : Int32) (by decide) 4 rfl ?_
  refine VcSp dX6_play_4 [.int x2, .int (1 : Int32), .int (100 : Int32)] (c_X6_within l hF σ x2 (1 : Int32) (100 : Int32)) mw_X6_within wd_sm_yX6_within wd_ml_RX6_111 (by decide) rfl rfl (Nat.le_of_ble_eq_true rfl) 7 rfl ?_
  refine Vifne (fun v => v) dX6_play_7 13 10 (by decide) rfl (fun h1 => ?_) (fun h1 => ?_)
  · refine Vload_n dX6_play_13 1 rfl 14 rfl ?_
    refine Vstore_n dX6_play_14 [(3, .int x1), (0, .ref (ad G 53)), (1, .int x1), (2, .int x2)] 15 rfl (by decide) rfl ?_
    refine Viconst dX6_play_15 (0 : Int32) (by decide) 16 rfl ?_
    refine Vstore dX6_play_16 [(4, .int (0 : Int32)), (3, .int x1), (0, .ref (ad G 53)), (1, .int x1), (2, .int x2)] 18 rfl (by decide) rfl ?_
    refine Vlv [2, 4, 1, 0] rfl ?_
    exact vl_X6_play_18 l X hF x2 b hb (within_iff.mp (by assumption)).2 101 x1 (0 : Int32) σ 0 nI_0.symm (Nat.zero_le _) rfl hRI
  · refine Vbipush dX6_play_10 (-2 : Int32) (by decide) 12 rfl ?_
    exact Viret dX6_play_12
