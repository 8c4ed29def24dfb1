def l_X6_readPlain_11 : Nat → Int32 → mS → Int32 × mS
  | 0, y6, σ => (y6, σ)
  | n + 1, y6, σ => (if (8 : Int32) ≤ y6 then (y6, σ) else (l_X6_readPlain_11 n (y6 + 1) (st2 σ 56 y6.toNatClampNeg (0 : Int32))))
set_option maxRecDepth 100000 in
set_option maxHeartbeats 4000000 in
theorem vl_X6_readPlain_11 (l : Launch) {G : gT} (X : xT) (hF : FullR G) (x1 : Int32) (x2 : Int32) (hcc : vp_in x2 8) (b : Nat) (hb : b < 2 ^ 29) {B : Int32 × mS → Int32 × mS} : ∀ (n : Nat) (y6 : Int32) (σ : mS) (i : Nat) (hc : y6 = nI i) (hi : i ≤ 8) (hn : n + i = 9) (hz : ∀ k, k < i → σ 56 k = 0) (hL : Lz σ) (hw : Wr σ b) (hk : ∀ u : Int32 × mS, ((∀ k, k < 8 → u.2 56 k = 0) ∧ Lz u.2 ∧ Wr u.2 b) → V l G X RX6 cX6_readPlain 8 2 (some .int) κI ((fun v => ap B v) u) u.2 32 [(0, .ref (ad G 53)), (1, .int x1), (3, .int (0 : Int32)), (4, .int x2), (5, .int (0 : Int32)), (6, .int u.1)] []), V l G X RX6 cX6_readPlain 8 2 (some .int) κI ((fun v => ap B v) (l_X6_readPlain_11 n y6 σ)) σ 11 [(0, .ref (ad G 53)), (1, .int x1), (3, .int (0 : Int32)), (4, .int x2), (5, .int (0 : Int32)), (6, .int y6)] [] := by
  intro n
  induction n with
  | zero => intro y6 σ i hc hi hn hz hL hw hk; exact absurd hn (by omega)
  | succ n ih =>
    intro y6 σ i hc hi hn hz hL hw hk
    rw [l_X6_readPlain_11.eq_2]
    refine Vload dX6_readPlain_11 5 rfl 13 rfl ?_
    refine Vbipush dX6_readPlain_13 (8 : Int32) (by decide) 15 rfl ?_
    refine Vicge (fun v => ap B v) dX6_readPlain_15 32 18 (by decide) rfl (fun h1 => ?_) (fun h1 => ?_)
    · refine Vlv [0, 1, 2, 3, 4, 5] rfl ?_
      exact hk (y6, σ) ⟨fun k hk => hz k (cnt_ge hc (by assumption) (by decide) (by omega) hk), hL, hw⟩
    · refine Vaload_n dX6_readPlain_18 0 rfl 19 rfl ?_
      refine Vget (53) 3 dX6_readPlain_19 22 rfl (hF.1 53 (by decide)) wk53 rfl inX6 (by decide) wd_fl_RX6_17 (v := .ref (ad G 56)) rfl ?_
      refine Vload dX6_readPlain_22 5 rfl 24 rfl ?_
      refine Viconst dX6_readPlain_24 (0 : Int32) (by decide) 25 rfl ?_
      refine Vstz dX6_readPlain_25 26 rfl (hF.1 56 (by decide)) wk56 wn56 hF.2.2.1 (by first | exact (by assumption) | exact (vin_cmp2 (by assumption) (by assumption) (by decide)) | exact (vin_cell (by assumption)) | exact (vin_reg (by assumption)) | exact (vin_row (by assumption)) | exact (vin_cnt (by assumption) (by assumption) (by decide) (by decide) (by assumption)) | exact (vin_cmp (by assumption) (by assumption) (by decide)) | exact (vp_in_iff.mpr (by decide))) (by decide) ?_
      refine Viinc dX6_readPlain_26 (y6 + 1) 5 [(6, .int (y6 + 1)), (0, .ref (ad G 53)), (1, .int x1), (3, .int (0 : Int32)), (4, .int x2), (5, .int (0 : Int32))] 29 rfl rfl rfl (by decide) rfl ?_
      refine Vgoto dX6_readPlain_29 11 (by decide) ?_
      refine Vlv [1, 2, 3, 4, 5, 0] rfl ?_
      exact ih (y6 + 1) (st2 σ 56 y6.toNatClampNeg (0 : Int32)) (i + 1) (cnt_s hc) (cnt_lt hc (by assumption) (K := 8) (by decide) (by decide) hi) (by omega) (rd0_s hc (by omega) hz) (hL.o (st2_nq (by decide)) (st2_nq (by decide))) (hw.o rfl) hk
def l_X6_readPlain_32 : Nat → Int32 → Int32 → Int32 → mS → Int32 × Int32 × Int32 × mS
  | 0, y3, y4, y5, σ => (y3, y4, y5, σ)
  | n + 1, y3, y4, y5, σ => (if (σ 55 y4.toNatClampNeg) = 0 then (y3, y4, y5, σ) else (if y5 = 0 then (l_X6_readPlain_32 n (y3 + 1) ((st2 (st2 σ 56 y4.toNatClampNeg (1 : Int32)) 84 y3.toNatClampNeg y4) 54 y4.toNatClampNeg) (σ 56 y4.toNatClampNeg) (st2 (st2 σ 56 y4.toNatClampNeg (1 : Int32)) 84 y3.toNatClampNeg y4)) else (y3, y4, y5, σ)))
set_option maxRecDepth 100000 in
set_option maxHeartbeats 4000000 in
theorem vl_X6_readPlain_32 (l : Launch) {G : gT} (X : xT) (hF : FullR G) (x1 : Int32) (x2 : Int32) (hcc : vp_in x2 8) (b : Nat) (hb : b < 2 ^ 29) {B : Int32 × Int32 × Int32 × mS → Int32 × mS} : ∀ (n : Nat) (y3 : Int32) (y4 : Int32) (y5 : Int32) (σ : mS) (i : Nat) (hc : y3 = nI i) (hat : vp_in y4 8) (hL : Lz σ) (hw : Wr σ b) (hch : ∀ k, k < i → vp_in (σ 84 k) 8) (hcnt : y5 = 0 → cntR σ = i) (hi : i ≤ 9) (hi2 : y5 = 0 → i ≤ 8) (hn : 10 ≤ n + i) (hk : ∀ u : Int32 × Int32 × Int32 × mS, (Lz u.2.2.2 ∧ Wr u.2.2.2 b ∧ vp_in u.2.1 8 ∧ ∃ i : Nat, u.1 = nI i ∧ i ≤ 9 ∧ ∀ k, k < i → vp_in (u.2.2.2 84 k) 8) → V l G X RX6 cX6_readPlain 8 2 (some .int) κI ((fun v => ap B v) u) u.2.2.2 87 [(0, .ref (ad G 53)), (1, .int x1), (3, .int u.1), (4, .int u.2.1), (5, .int u.2.2.1)] []), V l G X RX6 cX6_readPlain 8 2 (some .int) κI ((fun v => ap B v) (l_X6_readPlain_32 n y3 y4 y5 σ)) σ 32 [(0, .ref (ad G 53)), (1, .int x1), (3, .int y3), (4, .int y4), (5, .int y5)] [] := by
  intro n
  induction n with
  | zero => intro y3 y4 y5 σ i hc hat hL hw hch hcnt hi hi2 hn hk; exact absurd hn (by omega)
  | succ n ih =>
    intro y3 y4 y5 σ i hc hat hL hw hch hcnt hi hi2 hn hk
    rw [l_X6_readPlain_32.eq_2]
    refine Vaload_n dX6_readPlain_32 0 rfl 33 rfl ?_
    refine Vget (53) 2 dX6_readPlain_33 36 rfl (hF.1 53 (by decide)) wk53 rfl inX6 (by decide) wd_fl_RX6_13 (v := .ref (ad G 55)) rfl ?_
    refine Vload dX6_readPlain_36 3 rfl 38 rfl ?_
    refine Vldz dX6_readPlain_38 39 rfl (hF.1 55 (by decide)) wk55 wn55 hF.2.2.1 (by first | exact (by assumption) | exact (vin_cmp2 (by assumption) (by assumption) (by decide)) | exact (vin_cell (by assumption)) | exact (vin_reg (by assumption)) | exact (vin_row (by assumption)) | exact (vin_cnt (by assumption) (by assumption) (by decide) (by decide) (by assumption)) | exact (vin_cmp (by assumption) (by assumption) (by decide)) | exact (vp_in_iff.mpr (by decide))) ?_
    refine Vifeq (fun v => ap B v) dX6_readPlain_39 87 42 (by decide) rfl (fun h3 => ?_) (fun h3 => ?_)
    · refine Vlv [0, 1, 2, 3, 4] rfl ?_
      exact hk (y3, y4, y5, σ) ⟨hL, hw, hat, i, hc, hi, hch⟩
    · refine Vload dX6_readPlain_42 4 rfl 44 rfl ?_
      refine Vifne (fun v => ap B v) dX6_readPlain_44 87 47 (by decide) rfl (fun h4 => ?_) (fun h4 => ?_)
      · refine Vlv [0, 1, 2, 3, 4] rfl ?_
        exact hk (y3, y4, y5, σ) ⟨hL, hw, hat, i, hc, hi, hch⟩
      · refine Vaload_n dX6_readPlain_47 0 rfl 48 rfl ?_
        refine Vget (53) 3 dX6_readPlain_48 51 rfl (hF.1 53 (by decide)) wk53 rfl inX6 (by decide) wd_fl_RX6_17 (v := .ref (ad G 56)) rfl ?_
        refine Vload dX6_readPlain_51 3 rfl 53 rfl ?_
        refine Vldz dX6_readPlain_53 54 rfl (hF.1 56 (by decide)) wk56 wn56 hF.2.2.1 (by first | exact (by assumption) | exact (vin_cmp2 (by assumption) (by assumption) (by decide)) | exact (vin_cell (by assumption)) | exact (vin_reg (by assumption)) | exact (vin_row (by assumption)) | exact (vin_cnt (by assumption) (by assumption) (by decide) (by decide) (by assumption)) | exact (vin_cmp (by assumption) (by assumption) (by decide)) | exact (vp_in_iff.mpr (by decide))) ?_
        refine Vstore dX6_readPlain_54 [(5, .int (σ 56 y4.toNatClampNeg)), (0, .ref (ad G 53)), (1, .int x1), (3, .int y3), (4, .int y4)] 56 rfl (by decide) rfl ?_
        refine Vaload_n dX6_readPlain_56 1 rfl 57 rfl ?_
        refine Vget (53) 3 dX6_readPlain_57 60 rfl (hF.1 53 (by decide)) wk53 rfl inX6 (by decide) wd_fl_RX6_17 (v := .ref (ad G 56)) rfl ?_
        refine Vload dX6_readPlain_60 4 rfl 62 rfl ?_
        refine Viconst dX6_readPlain_62 (1 : Int32) (by decide) 63 rfl ?_
        refine Vstz dX6_readPlain_63 64 rfl (hF.1 56 (by decide)) wk56 wn56 hF.2.2.1 (by first | exact (by assumption) | exact (vin_cmp2 (by assumption) (by assumption) (by decide)) | exact (vin_cell (by assumption)) | exact (vin_reg (by assumption)) | exact (vin_row (by assumption)) | exact (vin_cnt (by assumption) (by assumption) (by decide) (by decide) (by assumption)) | exact (vin_cmp (by assumption) (by assumption) (by decide)) | exact (vp_in_iff.mpr (by decide))) (by decide) ?_
        refine Vaload_n dX6_readPlain_64 1 rfl 65 rfl ?_
        refine Vget (53) 33 dX6_readPlain_65 68 rfl (hF.1 53 (by decide)) wk53 rfl inX6 (by decide) wd_fl_RX6_101 (v := .ref (ad G 84)) rfl ?_
        refine Vload_n dX6_readPlain_68 3 rfl 69 rfl ?_
        refine Vload dX6_readPlain_69 4 rfl 71 rfl ?_
        refine Vst dX6_readPlain_71 72 rfl (hF.1 84 (by decide)) wk84 wn84 hF.2.1 (by rw [hc]; exact vp_in_nI (by have := hi2 (by assumption); omega) (by decide)) ?_
        refine Viinc dX6_readPlain_72 (y3 + 1) 3 [(3, .int (y3 + 1)), (5, .int (σ 56 y4.toNatClampNeg)), (0, .ref (ad G 53)), (1, .int x1), (4, .int y4)] 75 rfl rfl rfl (by decide) rfl ?_
        refine Vaload_n dX6_readPlain_75 2 rfl 76 rfl ?_
        refine Vget (53) 1 dX6_readPlain_76 79 rfl (hF.1 53 (by decide)) wk53 rfl inX6 (by decide) wd_fl_RX6_7 (v := .ref (ad G 54)) rfl ?_
        refine Vload dX6_readPlain_79 4 rfl 81 rfl ?_
        refine Vld dX6_readPlain_81 82 rfl (hF.1 54 (by decide)) wk54 wn54 hF.2.1 (by first | exact (by assumption) | exact (vin_cmp2 (by assumption) (by assumption) (by decide)) | exact (vin_cell (by assumption)) | exact (vin_reg (by assumption)) | exact (vin_row (by assumption)) | exact (vin_cnt (by assumption) (by assumption) (by decide) (by decide) (by assumption)) | exact (vin_cmp (by assumption) (by assumption) (by decide)) | exact (vp_in_iff.mpr (by decide))) ?_
        refine Vstore dX6_readPlain_82 [(4, .int ((st2 (st2 σ 56 y4.toNatClampNeg (1 : Int32)) 84 y3.toNatClampNeg y4) 54 y4.toNatClampNeg)), (3, .int (y3 + 1)), (5, .int (σ 56 y4.toNatClampNeg)), (0, .ref (ad G 53)), (1, .int x1)] 84 rfl (by decide) rfl ?_
        refine Vgoto dX6_readPlain_84 32 (by decide) ?_
        refine Vlv [3, 4, 1, 0, 2] rfl ?_
        exact ih (y3 + 1) ((st2 (st2 σ 56 y4.toNatClampNeg (1 : Int32)) 84 y3.toNatClampNeg y4) 54 y4.toNatClampNeg) (σ 56 y4.toNatClampNeg) (st2 (st2 σ 56 y4.toNatClampNeg (1 : Int32)) 84 y3.toNatClampNeg y4) (i + 1) (cnt_s hc) (show vp_in (σ 54 _) 8 from hL _ (vin_lt hat) (by assumption)) (hL.o ((st2_nq (by decide)).trans (st2_nq (by decide))) ((st2_nq (by decide)).trans (st2_nq (by decide)))) (hw.o rfl) (ch_s hc (by omega) hat (fun k h => by rw [st2_nq (by decide)]; exact hch k h)) (fun e => by rw [cntR_o (st2_nq (by decide)), cntR_up (vin_lt hat) e, hcnt (by assumption)]) (by have := hi2 (by assumption); omega) (fun e => by have h1 := cntR_up (vin_lt hat) e; have h2 := cntR_le (st2 σ 56 y4.toNatClampNeg 1); have h3 := hcnt (by assumption); omega) (by omega) hk
def l_X6_readPlain_114 : Nat → Int32 → Int32 → mS → Int32 → Int32 × mS
  | 0, y6, y7, σ, _ => (0, σ)
  | n + 1, y6, y7, σ, x1 => (if y7 < 0 then (y6, σ) else (ap (fun u8 => (l_X6_readPlain_114 n (((2 : Int32) * y6) + (1 : Int32)) (y7 + (-1)) u8.2 x1)) (f_X6_write σ x1 (σ 84 y7.toNatClampNeg) (((2 : Int32) * y6) + (1 : Int32)))))
set_option maxRecDepth 100000 in
set_option maxHeartbeats 4000000 in
theorem vl_X6_readPlain_114 (l : Launch) {G : gT} (X : xT) (hF : FullR G) (x1 : Int32) (x2 : Int32) (hcc : vp_in x2 8) (b : Nat) (hb : b < 2 ^ 29) : ∀ (n : Nat) (y6 : Int32) (y7 : Int32) (σ : mS) (j : Nat) (hc : y7 = nI j - 1) (hj : j ≤ 9) (hn : j + 1 ≤ n) (hch : ∀ k, k < j → vp_in (σ 84 k) 8) (hw : Wr σ (b + (9 - j))), V l G X RX6 cX6_readPlain 8 2 (some .int) κI ((fun v => v) (l_X6_readPlain_114 n y6 y7 σ x1)) σ 114 [(0, .ref (ad G 53)), (1, .int x1), (6, .int y6), (7, .int y7)] [] := by
  intro n
  induction n with
  | zero => intro y6 y7 σ j hc hj hn hch hw; exact absurd hn (by omega)
  | succ n ih =>
    intro y6 y7 σ j hc hj hn hch hw
    rw [l_X6_readPlain_114.eq_2]
    refine Vload dX6_readPlain_114 3 rfl 116 rfl ?_
    refine Viflt (fun v => v) dX6_readPlain_116 147 119 (by decide) rfl (fun h7 => ?_) (fun h7 => ?_)
    · refine Vload dX6_readPlain_147 2 rfl 149 rfl ?_
      exact Viret dX6_readPlain_149
    · refine Viconst dX6_readPlain_119 (2 : Int32) (by decide) 120 rfl ?_
      refine Vload dX6_readPlain_120 2 rfl 122 rfl ?_
      refine Vimul dX6_readPlain_122 123 rfl ?_
      refine Viconst dX6_readPlain_123 (1 : Int32) (by decide) 124 rfl ?_
      refine Viadd dX6_readPlain_124 125 rfl ?_
      refine Vstore dX6_readPlain_125 [(6, .int (((2 : Int32) * y6) + (1 : Int32))), (0, .ref (ad G 53)), (1, .int x1), (7, .int y7)] 127 rfl (by decide) rfl ?_
      refine Vaload_n dX6_readPlain_127 1 rfl 128 rfl ?_
      refine Vload_n dX6_readPlain_128 2 rfl 129 rfl ?_
      refine Vaload_n dX6_readPlain_129 1 rfl 130 rfl ?_
      refine Vget (53) 33 dX6_readPlain_130 133 rfl (hF.1 53 (by decide)) wk53 rfl inX6 (by decide) wd_fl_RX6_101 (v := .ref (ad G 84)) rfl ?_
      refine Vload dX6_readPlain_133 3 rfl 135 rfl ?_
      refine Vld dX6_readPlain_135 136 rfl (hF.1 84 (by decide)) wk84 wn84 hF.2.1 (dwn_in9 hc hj (by assumption)).1 ?_
      refine Vload dX6_readPlain_136 0 rfl 138 rfl ?_
      refine Vgen ?_
      intro u8 eu8
      refine VcVv (u := u8) dX6_readPlain_138 [.int x1, .int (σ 84 y7.toNatClampNeg), .int (((2 : Int32) * y6) + (1 : Int32))] (by rw [eu8]; exact c_X6_write l hF σ x1 (σ 84 y7.toNatClampNeg) (((2 : Int32) * y6) + (1 : Int32)) (hch _ (dwn_in9 hc hj (by assumption)).2) (b + (9 - j)) hw (by omega)) mw_X6_write wd_im_yX6_write wd_se_yX6_write wd_ml_RX6_136 (hF.1 53 (by decide)) wk53 rfl rfl (by decide) rfl rfl (Nat.le_of_ble_eq_true rfl) 141 rfl ?_
      have hwU : Wr u8.2 (b + (9 - j) + 1) := by rw [eu8]; exact Wr_write hw _ _ _
      have h84 : u8.2 84 = σ 84 := by rw [eu8]; exact write_q (by decide) _ _ _ _
      refine Viinc dX6_readPlain_141 (y7 + (-1)) 3 [(7, .int (y7 + (-1))), (6, .int (((2 : Int32) * y6) + (1 : Int32))), (0, .ref (ad G 53)), (1, .int x1)] 144 rfl rfl rfl (by decide) rfl ?_
      refine Vgoto dX6_readPlain_144 114 (by decide) ?_
      refine Vlv [2, 3, 1, 0] rfl ?_
      exact ih (((2 : Int32) * y6) + (1 : Int32)) (y7 + (-1)) u8.2 (j - 1) (dwn_s hc (by assumption)).2 (by omega) (by have := (dwn_s hc (by assumption)).1; omega) (fun k h => by rw [h84]; exact hch k (by omega)) (hwU.mono (by have := (dwn_s hc (by assumption)).1; omega))
def f_X6_readPlain (σ : mS) (x1 : Int32) (x2 : Int32) : Int32 × mS := (ap (fun u2 => (ap (fun u5 => (if u5.2.2.1 = 0 then (l_X6_readPlain_114 10 (u5.2.2.2 54 u5.2.1.toNatClampNeg) (u5.1 - (1 : Int32)) u5.2.2.2 x1) else ((0 : Int32), (st2 u5.2.2.2 53 32 (8 : Int32))))) (l_X6_readPlain_32 10 (0 : Int32) x2 (0 : Int32) u2.2))) (l_X6_readPlain_11 9 (0 : Int32) σ))
theorem mw_X6_readPlain : mW yX6_readPlain cX6_readPlain 8 (some .int) 2 := ⟨wd_co_yX6_readPlain, wd_ini_RX6, ⟨by decide, by decide⟩, by decide +kernel, by decide⟩
set_option maxRecDepth 100000 in
set_option maxHeartbeats 4000000 in
theorem c_X6_readPlain (l : Launch) {G : gT} (hF : FullR G) (σ : mS) (x1 : Int32) (x2 : Int32) (hcc : vp_in x2 8) (hL : Lz σ) (b : Nat) (hw : Wr σ b) (hb : b < 2 ^ 29) : Ct l G yX6_readPlain cX6_readPlain 8 (some .int) 2 [.ref (ad G 53), .int x1, .int x2] κI σ (f_X6_readPlain σ x1 x2) := by
  refine Ct.ofV [(0, .ref (ad G 53)), (1, .int x1), (2, .int x2)] rfl (by decide) (Nat.le_of_ble_eq_true rfl) rfl (fun X => ?_)
  unfold f_X6_readPlain
  refine Viconst dX6_readPlain_0 (0 : Int32) (by decide) 1 rfl ?_
  refine Vstore_n dX6_readPlain_1 [(3, .int (0 : Int32)), (0, .ref (ad G 53)), (1, .int x1), (2, .int x2)] 2 rfl (by decide) rfl ?_
  refine Vload_n dX6_readPlain_2 3 rfl 3 rfl ?_
  refine Vstore dX6_readPlain_3 [(4, .int x2), (3, .int (0 : Int32)), (0, .ref (ad G 53)), (1, .int x1), (2, .int x2)] 5 rfl (by decide) rfl ?_
  refine Viconst dX6_readPlain_5 (0 : Int32) (by decide) 6 rfl ?_
  refine Vstore dX6_readPlain_6 [(5, .int (0 : Int32)), (4, .int x2), (3, .int (0 : Int32)), (0, .ref (ad G 53)), (1, .int x1), (2, .int x2)] 8 rfl (by decide) rfl ?_
  refine Viconst dX6_readPlain_8 (0 : Int32) (by decide) 9 rfl ?_
  refine Vstore dX6_readPlain_9 [(6, .int (0 : Int32)), (5, .int (0 : Int32)), (4, .int x2), (3, .int (0 : Int32)), (0, .ref (ad G 53)), (1, .int x1), (2, .int x2)] 11 rfl (by decide) rfl ?_
  refine Vlv [4, 5, 3, 2, 1, 0] rfl ?_
  refine vl_X6_readPlain_11 l X hF x1 x2 hcc b hb 9 (0 : Int32) σ 0 nI_0.symm (Nat.zero_le _) rfl (fun k h => absurd h (Nat.not_lt_zero k)) hL hw ?_
  intro u2 pu2
  refine Vap ?_
  obtain ⟨hz1, hL1, hw1⟩ := pu2
  refine Vlv [0, 1, 2, 3, 4] rfl ?_
  refine vl_X6_readPlain_32 l X hF x1 x2 hcc b hb 10 (0 : Int32) x2 (0 : Int32) u2.2 0 nI_0.symm hcc hL1 hw1 (fun k h => absurd h (Nat.not_lt_zero k)) (fun _ => cntR_0 hz1) (by decide) (fun _ => by decide) (by decide) ?_
  intro u5 pu5
  refine Vap ?_
  obtain ⟨hL2, hw2, hat2, i0, hc0, hi0, hch0⟩ := pu5
  refine Vload dX6_readPlain_87 4 rfl 89 rfl ?_
  refine Vifeq (fun v => v) dX6_readPlain_89 100 92 (by decide) rfl (fun h6 => ?_) (fun h6 => ?_)
  · refine Vaload_n dX6_readPlain_100 0 rfl 101 rfl ?_
    refine Vget (53) 1 dX6_readPlain_101 104 rfl (hF.1 53 (by decide)) wk53 rfl inX6 (by decide) wd_fl_RX6_7 (v := .ref (ad G 54)) rfl ?_
    refine Vload dX6_readPlain_104 3 rfl 106 rfl ?_
    refine Vld dX6_readPlain_106 107 rfl (hF.1 54 (by decide)) wk54 wn54 hF.2.1 (by first | exact (by assumption) | exact (vin_cmp2 (by assumption) (by assumption) (by decide)) | exact (vin_cell (by assumption)) | exact (vin_reg (by assumption)) | exact (vin_row (by assumption)) | exact (vin_cnt (by assumption) (by assumption) (by decide) (by decide) (by assumption)) | exact (vin_cmp (by assumption) (by assumption) (by decide)) | exact (vp_in_iff.mpr (by decide))) ?_
    refine Vstore dX6_readPlain_107 [(6, .int (u5.2.2.2 54 u5.2.1.toNatClampNeg)), (0, .ref (ad G 53)), (1, .int x1), (3, .int u5.1), (4, .int u5.2.1), (5, .int u5.2.2.1)] 109 rfl (by decide) rfl ?_
    refine Vload_n dX6_readPlain_109 3 rfl 110 rfl ?_
    refine Viconst dX6_readPlain_110 (1 : Int32) (by decide) 111 rfl ?_
    refine Visub dX6_readPlain_111 112 rfl ?_
    refine Vstore dX6_readPlain_112 [(7, .int (u5.1 - (1 : Int32))), (6, .int (u5.2.2.2 54 u5.2.1.toNatClampNeg)), (0, .ref (ad G 53)), (1, .int x1), (3, .int u5.1), (4, .int u5.2.1), (5, .int u5.2.2.1)] 114 rfl (by decide) rfl ?_
    refine Vlv [2, 3, 1, 0] rfl ?_
    exact vl_X6_readPlain_114 l X hF x1 x2 hcc b hb 10 (u5.2.2.2 54 u5.2.1.toNatClampNeg) (u5.1 - (1 : Int32)) u5.2.2.2 i0 (by rw [hc0]) hi0 (by omega) hch0 (hw2.mono (by omega))
  · refine Vaload_n dX6_readPlain_92 0 rfl 93 rfl ?_
    refine Vbipush dX6_readPlain_93 (8 : Int32) (by decide) 95 rfl ?_
    refine Vput (53) 32 tyX6 dX6_readPlain_95 98 rfl (hF.1 53 (by decide)) wk53 rfl inX6 tyX6_ok nmX6 (by decide) wd_fl_RX6_133 rfl (ty := .int) (by decide +kernel) rfl rfl (fun f => rfl) (fun f => Nat.le_of_ble_eq_true rfl) ?_
    refine Viconst dX6_readPlain_98 (0 : Int32) (by decide) 99 rfl ?_
    exact Viret dX6_readPlain_99
def f_X6_read (σ : mS) (x1 : Int32) (x2 : Int32) : Int32 × mS := (if (σ 73 x1.toNatClampNeg) = 0 then (ap (fun u5 => (u5.1, u5.2)) (f_X6_readPlain σ x1 x2)) else (if (σ 79 (((8 : Int32) * x1) + x2).toNatClampNeg) = 0 then (if (σ 55 x2.toNatClampNeg) = 0 then (if (σ 77 (((8 : Int32) * x1) + x2).toNatClampNeg) = 0 then (((st2 (st2 σ 77 (((8 : Int32) * x1) + x2).toNatClampNeg (1 : Int32)) 78 (((8 : Int32) * x1) + x2).toNatClampNeg ((st2 σ 77 (((8 : Int32) * x1) + x2).toNatClampNeg (1 : Int32)) 54 x2.toNatClampNeg)) 54 x2.toNatClampNeg), (st2 (st2 σ 77 (((8 : Int32) * x1) + x2).toNatClampNeg (1 : Int32)) 78 (((8 : Int32) * x1) + x2).toNatClampNeg ((st2 σ 77 (((8 : Int32) * x1) + x2).toNatClampNeg (1 : Int32)) 54 x2.toNatClampNeg))) else ((σ 54 x2.toNatClampNeg), σ)) else ((0 : Int32), (st2 σ 53 32 (5 : Int32)))) else ((σ 80 (((8 : Int32) * x1) + x2).toNatClampNeg), σ)))
theorem mw_X6_read : mW yX6_read cX6_read 4 (some .int) 2 := ⟨wd_co_yX6_read, wd_ini_RX6, ⟨by decide, by decide⟩, by decide +kernel, by decide⟩
set_option maxRecDepth 100000 in
set_option maxHeartbeats 4000000 in
theorem c_X6_read (l : Launch) {G : gT} (hF : FullR G) (σ : mS) (x1 : Int32) (x2 : Int32) (ht : vp_in x1 3) (hcc : vp_in x2 8) (hL : Lz σ) (b : Nat) (hw : Wr σ b) (hb : b < 2 ^ 29) : Ct l G yX6_read cX6_read 4 (some .int) 3 [.ref (ad G 53), .int x1, .int x2] κI σ (f_X6_read σ x1 x2) := by
  refine Ct.ofV [(0, .ref (ad G 53)), (1, .int x1), (2, .int x2)] rfl (by decide) (Nat.le_of_ble_eq_true rfl) rfl (fun X => ?_)
  unfold f_X6_read
  refine Vaload_n dX6_read_0 0 rfl 1 rfl ?_
  refine Vget (53) 20 dX6_read_1 4 rfl (hF.1 53 (by decide)) wk53 rfl inX6 (by decide) wd_fl_RX6_68 (v := .ref (ad G 73)) rfl ?_
  refine Vload_n dX6_read_4 1 rfl 5 rfl ?_
  refine Vldz dX6_read_5 6 rfl (hF.1 73 (by decide)) wk73 wn73 hF.2.2.1 (by first | exact (by assumption) | exact (vin_cmp2 (by assumption) (by assumption) (by decide)) | exact (vin_cell (by assumption)) | exact (vin_reg (by assumption)) | exact (vin_row (by assumption)) | exact (vin_cnt (by assumption) (by assumption) (by decide) (by decide) (by assumption)) | exact (vin_cmp (by assumption) (by assumption) (by decide)) | exact (vp_in_iff.mpr (by decide)) | exact (vin_mCell (by assumption)) | exact (vin_mRegister (by assumption)) | exact (vin_w (by assumption) (by decide))) ?_
  refine Vifne (fun v => v) dX6_read_6 16 9 (by decide) rfl (fun h1 => ?_) (fun h1 => ?_)
  · refine Vbipush dX6_read_16 (8 : Int32) (by decide) 18 rfl ?_
    refine Vload_n dX6_read_18 1 rfl 19 rfl ?_
    refine Vimul dX6_read_19 20 rfl ?_
    refine Vload_n dX6_read_20 2 rfl 21 rfl ?_
    refine Viadd dX6_read_21 22 rfl ?_
    refine Vstore_n dX6_read_22 [(3, .int (((8 : Int32) * x1) + x2)), (0, .ref (ad G 53)), (1, .int x1), (2, .int x2)] 23 rfl (by decide) rfl ?_
    refine Vaload_n dX6_read_23 1 rfl 24 rfl ?_
    refine Vget (53) 26 dX6_read_24 27 rfl (hF.1 53 (by decide)) wk53 rfl inX6 (by decide) wd_fl_RX6_86 (v := .ref (ad G 79)) rfl ?_
    refine Vload_n dX6_read_27 0 rfl 28 rfl ?_
    refine Vldz dX6_read_28 29 rfl (hF.1 79 (by decide)) wk79 wn79 hF.2.2.1 (by first | exact (vmul 8 3 (by decide) (by assumption) (by assumption) (by decide)) | exact (vmul 8 3 (by decide) (vin_w (by assumption) (by decide)) (by assumption) (by decide)) | exact (vmul 8 3 (by decide) (by assumption) (vin_cnt (by assumption) (by assumption) (by decide) (by decide) (by assumption)) (by decide)) | exact (vmul 8 3 (by decide) (vin_w (by assumption) (by decide)) (vin_cnt (by assumption) (by assumption) (by decide) (by decide) (by assumption)) (by decide)) | exact (vmul 8 3 (by decide) (by assumption) (vin_mRegister (by assumption)) (by decide)) | exact (vmul 8 3 (by decide) (vin_w (by assumption) (by decide)) (vin_mRegister (by assumption)) (by decide)) | exact (vmul 8 4 (by decide) (by assumption) (by assumption) (by decide)) | exact (vmul 8 4 (by decide) (vin_w (by assumption) (by decide)) (by assumption) (by decide)) | exact (vmul 8 4 (by decide) (by assumption) (vin_cnt (by assumption) (by assumption) (by decide) (by decide) (by assumption)) (by decide)) | exact (vmul 8 4 (by decide) (vin_w (by assumption) (by decide)) (vin_cnt (by assumption) (by assumption) (by decide) (by decide) (by assumption)) (by decide)) | exact (vmul 8 4 (by decide) (by assumption) (vin_mRegister (by assumption)) (by decide)) | exact (vmul 8 4 (by decide) (vin_w (by assumption) (by decide)) (vin_mRegister (by assumption)) (by decide))) ?_
    refine Vifeq (fun v => v) dX6_read_29 39 32 (by decide) rfl (fun h2 => ?_) (fun h2 => ?_)
    · refine Vaload_n dX6_read_39 1 rfl 40 rfl ?_
      refine Vget (53) 2 dX6_read_40 43 rfl (hF.1 53 (by decide)) wk53 rfl inX6 (by decide) wd_fl_RX6_13 (v := .ref (ad G 55)) rfl ?_
      refine Vload_n dX6_read_43 3 rfl 44 rfl ?_
      refine Vldz dX6_read_44 45 rfl (hF.1 55 (by decide)) wk55 wn55 hF.2.2.1 (by first | exact (by assumption) | exact (vin_cmp2 (by assumption) (by assumption) (by decide)) | exact (vin_cell (by assumption)) | exact (vin_reg (by assumption)) | exact (vin_row (by assumption)) | exact (vin_cnt (by assumption) (by assumption) (by decide) (by decide) (by assumption)) | exact (vin_cmp (by assumption) (by assumption) (by decide)) | exact (vp_in_iff.mpr (by decide)) | exact (vin_mCell (by assumption)) | exact (vin_mRegister (by assumption)) | exact (vin_w (by assumption) (by decide))) ?_
      refine Vifeq (fun v => v) dX6_read_45 55 48 (by decide) rfl (fun h3 => ?_) (fun h3 => ?_)
      · refine Vaload_n dX6_read_55 1 rfl 56 rfl ?_
        refine Vget (53) 24 dX6_read_56 59 rfl (hF.1 53 (by decide)) wk53 rfl inX6 (by decide) wd_fl_RX6_80 (v := .ref (ad G 77)) rfl ?_
        refine Vload_n dX6_read_59 0 rfl 60 rfl ?_
        refine Vldz dX6_read_60 61 rfl (hF.1 77 (by decide)) wk77 wn77 hF.2.2.1 (by first | exact (vmul 8 3 (by decide) (by assumption) (by assumption) (by decide)) | exact (vmul 8 3 (by decide) (vin_w (by assumption) (by decide)) (by assumption) (by decide)) | exact (vmul 8 3 (by decide) (by assumption) (vin_cnt (by assumption) (by assumption) (by decide) (by decide) (by assumption)) (by decide)) | exact (vmul 8 3 (by decide) (vin_w (by assumption) (by decide)) (vin_cnt (by assumption) (by assumption) (by decide) (by decide) (by assumption)) (by decide)) | exact (vmul 8 3 (by decide) (by assumption) (vin_mRegister (by assumption)) (by decide)) | exact (vmul 8 3 (by decide) (vin_w (by assumption) (by decide)) (vin_mRegister (by assumption)) (by decide)) | exact (vmul 8 4 (by decide) (by assumption) (by assumption) (by decide)) | exact (vmul 8 4 (by decide) (vin_w (by assumption) (by decide)) (by assumption) (by decide)) | exact (vmul 8 4 (by decide) (by assumption) (vin_cnt (by assumption) (by assumption) (by decide) (by decide) (by assumption)) (by decide)) | exact (vmul 8 4 (by decide) (vin_w (by assumption) (by decide)) (vin_cnt (by assumption) (by assumption) (by decide) (by decide) (by assumption)) (by decide)) | exact (vmul 8 4 (by decide) (by assumption) (vin_mRegister (by assumption)) (by decide)) | exact (vmul 8 4 (by decide) (vin_w (by assumption) (by decide)) (vin_mRegister (by assumption)) (by decide))) ?_
        refine Vifne (fun v => v) dX6_read_61 83 64 (by decide) rfl (fun h4 => ?_) (fun h4 => ?_)
        · refine Vaload_n dX6_read_83 1 rfl 84 rfl ?_
          refine Vget (53) 1 dX6_read_84 87 rfl (hF.1 53 (by decide)) wk53 rfl inX6 (by decide) wd_fl_RX6_7 (v := .ref (ad G 54)) rfl ?_
          refine Vload_n dX6_read_87 3 rfl 88 rfl ?_
          refine Vld dX6_read_88 89 rfl (hF.1 54 (by decide)) wk54 wn54 hF.2.1 (by first | exact (by assumption) | exact (vin_cmp2 (by assumption) (by assumption) (by decide)) | exact (vin_cell (by assumption)) | exact (vin_reg (by assumption)) | exact (vin_row (by assumption)) | exact (vin_cnt (by assumption) (by assumption) (by decide) (by decide) (by assumption)) | exact (vin_cmp (by assumption) (by assumption) (by decide)) | exact (vp_in_iff.mpr (by decide)) | exact (vin_mCell (by assumption)) | exact (vin_mRegister (by assumption)) | exact (vin_w (by assumption) (by decide))) ?_
          exact Viret dX6_read_89
        · refine Vaload_n dX6_read_64 1 rfl 65 rfl ?_
          refine Vget (53) 24 dX6_read_65 68 rfl (hF.1 53 (by decide)) wk53 rfl inX6 (by decide) wd_fl_RX6_80 (v := .ref (ad G 77)) rfl ?_
          refine Vload_n dX6_read_68 0 rfl 69 rfl ?_
          refine Viconst dX6_read_69 (1 : Int32) (by decide) 70 rfl ?_
          refine Vstz dX6_read_70 71 rfl (hF.1 77 (by decide)) wk77 wn77 hF.2.2.1 (by first | exact (vmul 8 3 (by decide) (by assumption) (by assumption) (by decide)) | exact (vmul 8 3 (by decide) (vin_w (by assumption) (by decide)) (by assumption) (by decide)) | exact (vmul 8 3 (by decide) (by assumption) (vin_cnt (by assumption) (by assumption) (by decide) (by decide) (by assumption)) (by decide)) | exact (vmul 8 3 (by decide) (vin_w (by assumption) (by decide)) (vin_cnt (by assumption) (by assumption) (by decide) (by decide) (by assumption)) (by decide)) | exact (vmul 8 3 (by decide) (by assumption) (vin_mRegister (by assumption)) (by decide)) | exact (vmul 8 3 (by decide) (vin_w (by assumption) (by decide)) (vin_mRegister (by assumption)) (by decide)) | exact (vmul 8 4 (by decide) (by assumption) (by assumption) (by decide)) | exact (vmul 8 4 (by decide) (vin_w (by assumption) (by decide)) (by assumption) (by decide)) | exact (vmul 8 4 (by decide) (by assumption) (vin_cnt (by assumption) (by assumption) (by decide) (by decide) (by assumption)) (by decide)) | exact (vmul 8 4 (by decide) (vin_w (by assumption) (by decide)) (vin_cnt (by assumption) (by assumption) (by decide) (by decide) (by assumption)) (by decide)) | exact (vmul 8 4 (by decide) (by assumption) (vin_mRegister (by assumption)) (by decide)) | exact (vmul 8 4 (by decide) (vin_w (by assumption) (by decide)) (vin_mRegister (by assumption)) (by decide))) (by decide) ?_
          refine Vaload_n dX6_read_71 1 rfl 72 rfl ?_
          refine Vget (53) 25 dX6_read_72 75 rfl (hF.1 53 (by decide)) wk53 rfl inX6 (by decide) wd_fl_RX6_83 (v := .ref (ad G 78)) rfl ?_
          refine Vload_n dX6_read_75 0 rfl 76 rfl ?_
          refine Vaload_n dX6_read_76 1 rfl 77 rfl ?_
          refine Vget (53) 1 dX6_read_77 80 rfl (hF.1 53 (by decide)) wk53 rfl inX6 (by decide) wd_fl_RX6_7 (v := .ref (ad G 54)) rfl ?_
          refine Vload_n dX6_read_80 3 rfl 81 rfl ?_
          refine Vld dX6_read_81 82 rfl (hF.1 54 (by decide)) wk54 wn54 hF.2.1 (by first | exact (by assumption) | exact (vin_cmp2 (by assumption) (by assumption) (by decide)) | exact (vin_cell (by assumption)) | exact (vin_reg (by assumption)) | exact (vin_row (by assumption)) | exact (vin_cnt (by assumption) (by assumption) (by decide) (by decide) (by assumption)) | exact (vin_cmp (by assumption) (by assumption) (by decide)) | exact (vp_in_iff.mpr (by decide)) | exact (vin_mCell (by assumption)) | exact (vin_mRegister (by assumption)) | exact (vin_w (by assumption) (by decide))) ?_
          refine Vst dX6_read_82 83 rfl (hF.1 78 (by decide)) wk78 wn78 hF.2.1 (by first | exact (vmul 8 3 (by decide) (by assumption) (by assumption) (by decide)) | exact (vmul 8 3 (by decide) (vin_w (by assumption) (by decide)) (by assumption) (by decide)) | exact (vmul 8 3 (by decide) (by assumption) (vin_cnt (by assumption) (by assumption) (by decide) (by decide) (by assumption)) (by decide)) | exact (vmul 8 3 (by decide) (vin_w (by assumption) (by decide)) (vin_cnt (by assumption) (by assumption) (by decide) (by decide) (by assumption)) (by decide)) | exact (vmul 8 3 (by decide) (by assumption) (vin_mRegister (by assumption)) (by decide)) | exact (vmul 8 3 (by decide) (vin_w (by assumption) (by decide)) (vin_mRegister (by assumption)) (by decide)) | exact (vmul 8 4 (by decide) (by assumption) (by assumption) (by decide)) | exact (vmul 8 4 (by decide) (vin_w (by assumption) (by decide)) (by assumption) (by decide)) | exact (vmul 8 4 (by decide) (by assumption) (vin_cnt (by assumption) (by assumption) (by decide) (by decide) (by assumption)) (by decide)) | exact (vmul 8 4 (by decide) (vin_w (by assumption) (by decide)) (vin_cnt (by assumption) (by assumption) (by decide) (by decide) (by assumption)) (by decide)) | exact (vmul 8 4 (by decide) (by assumption) (vin_mRegister (by assumption)) (by decide)) | exact (vmul 8 4 (by decide) (vin_w (by assumption) (by decide)) (vin_mRegister (by assumption)) (by decide))) ?_
          refine Vaload_n dX6_read_83 1 rfl 84 rfl ?_
          refine Vget (53) 1 dX6_read_84 87 rfl (hF.1 53 (by decide)) wk53 rfl inX6 (by decide) wd_fl_RX6_7 (v := .ref (ad G 54)) rfl ?_
          refine Vload_n dX6_read_87 3 rfl 88 rfl ?_
          refine Vld dX6_read_88 89 rfl (hF.1 54 (by decide)) wk54 wn54 hF.2.1 (by first | exact (by assumption) | exact (vin_cmp2 (by assumption) (by assumption) (by decide)) | exact (vin_cell (by assumption)) | exact (vin_reg (by assumption)) | exact (vin_row (by assumption)) | exact (vin_cnt (by assumption) (by assumption) (by decide) (by decide) (by assumption)) | exact (vin_cmp (by assumption) (by assumption) (by decide)) | exact (vp_in_iff.mpr (by decide)) | exact (vin_mCell (by assumption)) | exact (vin_mRegister (by assumption)) | exact (vin_w (by assumption) (by decide))) ?_
          exact Viret dX6_read_89
      · refine Vaload_n dX6_read_48 1 rfl 49 rfl ?_
        refine Viconst dX6_read_49 (5 : Int32) (by decide) 50 rfl ?_
        refine Vput (53) 32 tyX6 dX6_read_50 53 rfl (hF.1 53 (by decide)) wk53 rfl inX6 tyX6_ok nmX6 (by decide) wd_fl_RX6_133 rfl (ty := .int) (by decide +kernel) rfl rfl (fun f => rfl) (fun f => Nat.le_of_ble_eq_true rfl) ?_
        refine Viconst dX6_read_53 (0 : Int32) (by decide) 54 rfl ?_
        exact Viret dX6_read_54
    · refine Vaload_n dX6_read_32 1 rfl 33 rfl ?_
      refine Vget (53) 27 dX6_read_33 36 rfl (hF.1 53 (by decide)) wk53 rfl inX6 (by decide) wd_fl_RX6_89 (v := .ref (ad G 80)) rfl ?_
      refine Vload_n dX6_read_36 0 rfl 37 rfl ?_
      refine Vld dX6_read_37 38 rfl (hF.1 80 (by decide)) wk80 wn80 hF.2.1 (by first | exact (vmul 8 3 (by decide) (by assumption) (by assumption) (by decide)) | exact (vmul 8 3 (by decide) (vin_w (by assumption) (by decide)) (by assumption) (by decide)) | exact (vmul 8 3 (by decide) (by assumption) (vin_cnt (by assumption) (by assumption) (by decide) (by decide) (by assumption)) (by decide)) | exact (vmul 8 3 (by decide) (vin_w (by assumption) (by decide)) (vin_cnt (by assumption) (by assumption) (by decide) (by decide) (by assumption)) (by decide)) | exact (vmul 8 3 (by decide) (by assumption) (vin_mRegister (by assumption)) (by decide)) | exact (vmul 8 3 (by decide) (vin_w (by assumption) (by decide)) (vin_mRegister (by assumption)) (by decide)) | exact (vmul 8 4 (by decide) (by assumption) (by assumption) (by decide)) | exact (vmul 8 4 (by decide) (vin_w (by assumption) (by decide)) (by assumption) (by decide)) | exact (vmul 8 4 (by decide) (by assumption) (vin_cnt (by assumption) (by assumption) (by decide) (by decide) (by assumption)) (by decide)) | exact (vmul 8 4 (by decide) (vin_w (by assumption) (by decide)) (vin_cnt (by assumption) (by assumption) (by decide) (by decide) (by assumption)) (by decide)) | exact (vmul 8 4 (by decide) (by assumption) (vin_mRegister (by assumption)) (by decide)) | exact (vmul 8 4 (by decide) (vin_w (by assumption) (by decide)) (vin_mRegister (by assumption)) (by decide))) ?_
      exact Viret dX6_read_38
  · refine Vaload_n dX6_read_9 0 rfl 10 rfl ?_
    refine Vload_n dX6_read_10 1 rfl 11 rfl ?_
    refine Vload_n dX6_read_11 2 rfl 12 rfl ?_
    refine Vgen ?_
    intro u5 eu5
    refine VcVi (u := u5) dX6_read_12 [.int x1, .int x2] (by rw [eu5]; exact c_X6_readPlain l hF σ x1 x2 hcc hL b hw hb) mw_X6_readPlain wd_im_yX6_readPlain wd_se_yX6_readPlain wd_ml_RX6_139 (hF.1 53 (by decide)) wk53 rfl rfl (by decide) rfl rfl (Nat.le_of_ble_eq_true rfl) 15 rfl ?_
    exact Viret dX6_read_15
theorem rp_11 : ∀ (n : Nat) (y : Int32) (σ : mS), (l_X6_readPlain_11 n y σ).2 53 = σ 53 := by
  intro n
  induction n with
  | zero => intro y σ; rfl
  | succ n ih =>
    intro y σ
    rw [l_X6_readPlain_11.eq_2]
    split
    · rfl
    · rw [ih, st2_nq (by decide)]
theorem rp_32 : ∀ (n : Nat) (a c d : Int32) (σ : mS), (l_X6_readPlain_32 n a c d σ).2.2.2 53 = σ 53 := by
  intro n
  induction n with
  | zero => intro a c d σ; rfl
  | succ n ih =>
    intro a c d σ
    rw [l_X6_readPlain_32.eq_2]
    (repeat' split) <;> first | rfl | (rw [ih, st2_nq (by decide), st2_nq (by decide)])
theorem rp_114 : ∀ (n : Nat) (a c : Int32) (σ : mS) (t : Int32) (b : Nat), Wr σ b → Wr (l_X6_readPlain_114 n a c σ t).2 (b + n) := by
  intro n
  induction n with
  | zero => intro a c σ t b h; exact h
  | succ n ih =>
    intro a c σ t b h
    rw [l_X6_readPlain_114.eq_2]
    split
    · exact h.mono (by omega)
    · simp only [ap]
      exact (ih _ _ _ _ _ (Wr_write h _ _ _)).mono (by omega)
theorem Wr_readPlain {σ : mS} {b : Nat} (h : Wr σ b) (t c : Int32) : Wr (f_X6_readPlain σ t c).2 (b + 10) := by
  simp only [f_X6_readPlain, ap]
  have h1 : ∀ (n m : Nat) (y a d e : Int32), Wr (l_X6_readPlain_32 n a d e (l_X6_readPlain_11 m y σ).2).2.2.2 b := fun n m y a d e => h.o (by rw [rp_32, rp_11])
  split
  · exact rp_114 10 _ _ _ _ _ (h1 _ _ _ _ _ _)
  · exact Wr.mono (Wr.o (h1 10 9 0 0 c 0) rfl) (by omega)
theorem Wr_read {σ : mS} {b : Nat} (h : Wr σ b) (t c : Int32) : Wr (f_X6_read σ t c).2 (b + 10) := by
  unfold f_X6_read
  simp only [ap]
  (repeat' split) <;> first | exact Wr_readPlain h _ _ | exact (h.o rfl).mono (by omega)
def f_X6_lay (σ : mS) (x1 : Int32) (x2 : Int32) (x3 : Int32) : Int32 × mS := (if (σ 73 x1.toNatClampNeg) = 0 then (ap (fun u2 => (0, u2.2)) (f_X6_write σ x1 x2 x3)) else (0, (st2 (st2 σ 79 (((8 : Int32) * x1) + x2).toNatClampNeg (1 : Int32)) 80 (((8 : Int32) * x1) + x2).toNatClampNeg x3)))
theorem mw_X6_lay : mW yX6_lay cX6_lay 4 none 3 := ⟨wd_co_yX6_lay, wd_ini_RX6, ⟨by decide, by decide⟩, by decide +kernel, by decide⟩
set_option maxRecDepth 100000 in
set_option maxHeartbeats 4000000 in
theorem c_X6_lay (l : Launch) {G : gT} (hF : FullR G) (σ : mS) (x1 : Int32) (x2 : Int32) (x3 : Int32) (ht : vp_in x1 3) (hcc : vp_in x2 8) (b : Nat) (hw : Wr σ b) (hb : b < 2 ^ 30) : Ct l G yX6_lay cX6_lay 4 none 2 [.ref (ad G 53), .int x1, .int x2, .int x3] κV σ (f_X6_lay σ x1 x2 x3) := by
  refine Ct.ofV [(0, .ref (ad G 53)), (1, .int x1), (2, .int x2), (3, .int x3)] rfl (by decide) (Nat.le_of_ble_eq_true rfl) rfl (fun X => ?_)
  unfold f_X6_lay
  refine Vaload_n dX6_lay_0 0 rfl 1 rfl ?_
  refine Vget (53) 20 dX6_lay_1 4 rfl (hF.1 53 (by decide)) wk53 rfl inX6 (by decide) wd_fl_RX6_68 (v := .ref (ad G 73)) rfl ?_
  refine Vload_n dX6_lay_4 1 rfl 5 rfl ?_
  refine Vldz dX6_lay_5 6 rfl (hF.1 73 (by decide)) wk73 wn73 hF.2.2.1 (by first | exact (by assumption) | exact (vin_cmp2 (by assumption) (by assumption) (by decide)) | exact (vin_cell (by assumption)) | exact (vin_reg (by assumption)) | exact (vin_row (by assumption)) | exact (vin_cnt (by assumption) (by assumption) (by decide) (by decide) (by assumption)) | exact (vin_cmp (by assumption) (by assumption) (by decide)) | exact (vp_in_iff.mpr (by decide)) | exact (vin_mCell (by assumption)) | exact (vin_mRegister (by assumption)) | exact (vin_w (by assumption) (by decide))) ?_
  refine Vifeq (fun v => v) dX6_lay_6 36 9 (by decide) rfl (fun h1 => ?_) (fun h1 => ?_)
  · refine Vaload_n dX6_lay_36 0 rfl 37 rfl ?_
    refine Vload_n dX6_lay_37 1 rfl 38 rfl ?_
    refine Vload_n dX6_lay_38 2 rfl 39 rfl ?_
    refine Vload_n dX6_lay_39 3 rfl 40 rfl ?_
    refine Vgen ?_
    intro u2 eu2
    refine VcVv (u := u2) dX6_lay_40 [.int x1, .int x2, .int x3] (by rw [eu2]; exact c_X6_write l hF σ x1 x2 x3 hcc b hw hb) mw_X6_write wd_im_yX6_write wd_se_yX6_write wd_ml_RX6_136 (hF.1 53 (by decide)) wk53 rfl rfl (by decide) rfl rfl (Nat.le_of_ble_eq_true rfl) 43 rfl ?_
    exact Vvret dX6_lay_43
  · refine Vaload_n dX6_lay_9 0 rfl 10 rfl ?_
    refine Vget (53) 26 dX6_lay_10 13 rfl (hF.1 53 (by decide)) wk53 rfl inX6 (by decide) wd_fl_RX6_86 (v := .ref (ad G 79)) rfl ?_
    refine Vbipush dX6_lay_13 (8 : Int32) (by decide) 15 rfl ?_
    refine Vload_n dX6_lay_15 1 rfl 16 rfl ?_
    refine Vimul dX6_lay_16 17 rfl ?_
    refine Vload_n dX6_lay_17 2 rfl 18 rfl ?_
    refine Viadd dX6_lay_18 19 rfl ?_
    refine Viconst dX6_lay_19 (1 : Int32) (by decide) 20 rfl ?_
    refine Vstz dX6_lay_20 21 rfl (hF.1 79 (by decide)) wk79 wn79 hF.2.2.1 (by first | exact (vmul 8 3 (by decide) (by assumption) (by assumption) (by decide)) | exact (vmul 8 3 (by decide) (vin_w (by assumption) (by decide)) (by assumption) (by decide)) | exact (vmul 8 3 (by decide) (by assumption) (vin_cnt (by assumption) (by assumption) (by decide) (by decide) (by assumption)) (by decide)) | exact (vmul 8 3 (by decide) (vin_w (by assumption) (by decide)) (vin_cnt (by assumption) (by assumption) (by decide) (by decide) (by assumption)) (by decide)) | exact (vmul 8 3 (by decide) (by assumption) (vin_mRegister (by assumption)) (by decide)) | exact (vmul 8 3 (by decide) (vin_w (by assumption) (by decide)) (vin_mRegister (by assumption)) (by decide)) | exact (vmul 8 4 (by decide) (by assumption) (by assumption) (by decide)) | exact (vmul 8 4 (by decide) (vin_w (by assumption) (by decide)) (by assumption) (by decide)) | exact (vmul 8 4 (by decide) (by assumption) (vin_cnt (by assumption) (by assumption) (by decide) (by decide) (by assumption)) (by decide)) | exact (vmul 8 4 (by decide) (vin_w (by assumption) (by decide)) (vin_cnt (by assumption) (by assumption) (by decide) (by decide) (by assumption)) (by decide)) | exact (vmul 8 4 (by decide) (by assumption) (vin_mRegister (by assumption)) (by decide)) | exact (vmul 8 4 (by decide) (vin_w (by assumption) (by decide)) (vin_mRegister (by assumption)) (by decide))) (by decide) ?_
    refine Vaload_n dX6_lay_21 0 rfl 22 rfl ?_
    refine Vget (53) 27 dX6_lay_22 25 rfl (hF.1 53 (by decide)) wk53 rfl inX6 (by decide) wd_fl_RX6_89 (v := .ref (ad G 80)) rfl ?_
    refine Vbipush dX6_lay_25 (8 : Int32) (by decide) 27 rfl ?_
    refine Vload_n dX6_lay_27 1 rfl 28 rfl ?_
    refine Vimul dX6_lay_28 29 rfl ?_
    refine Vload_n dX6_lay_29 2 rfl 30 rfl ?_
    refine Viadd dX6_lay_30 31 rfl ?_
    refine Vload_n dX6_lay_31 3 rfl 32 rfl ?_
    refine Vst dX6_lay_32 33 rfl (hF.1 80 (by decide)) wk80 wn80 hF.2.1 (by first | exact (vmul 8 3 (by decide) (by assumption) (by assumption) (by decide)) | exact (vmul 8 3 (by decide) (vin_w (by assumption) (by decide)) (by assumption) (by decide)) | exact (vmul 8 3 (by decide) (by assumption) (vin_cnt (by assumption) (by assumption) (by decide) (by decide) (by assumption)) (by decide)) | exact (vmul 8 3 (by decide) (vin_w (by assumption) (by decide)) (vin_cnt (by assumption) (by assumption) (by decide) (by decide) (by assumption)) (by decide)) | exact (vmul 8 3 (by decide) (by assumption) (vin_mRegister (by assumption)) (by decide)) | exact (vmul 8 3 (by decide) (vin_w (by assumption) (by decide)) (vin_mRegister (by assumption)) (by decide)) | exact (vmul 8 4 (by decide) (by assumption) (by assumption) (by decide)) | exact (vmul 8 4 (by decide) (vin_w (by assumption) (by decide)) (by assumption) (by decide)) | exact (vmul 8 4 (by decide) (by assumption) (vin_cnt (by assumption) (by assumption) (by decide) (by decide) (by assumption)) (by decide)) | exact (vmul 8 4 (by decide) (vin_w (by assumption) (by decide)) (vin_cnt (by assumption) (by assumption) (by decide) (by decide) (by assumption)) (by decide)) | exact (vmul 8 4 (by decide) (by assumption) (vin_mRegister (by assumption)) (by decide)) | exact (vmul 8 4 (by decide) (vin_w (by assumption) (by decide)) (vin_mRegister (by assumption)) (by decide))) ?_
    refine Vgoto dX6_lay_33 43 (by decide) ?_
    exact Vvret dX6_lay_43
def l_X6_clearAtom_2 : Nat → Int32 → mS → Int32 → Int32 × mS
  | 0, y2, σ, _ => (0, σ)
  | n + 1, y2, σ, x1 => (if (8 : Int32) ≤ y2 then (0, σ) else (l_X6_clearAtom_2 n (y2 + 1) (st2 (st2 σ 77 (((8 : Int32) * x1) + y2).toNatClampNeg (0 : Int32)) 79 (((8 : Int32) * x1) + y2).toNatClampNeg (0 : Int32)) x1))
set_option maxRecDepth 100000 in
set_option maxHeartbeats 4000000 in
theorem vl_X6_clearAtom_2 (l : Launch) {G : gT} (X : xT) (hF : FullR G) (x1 : Int32) (ht : vp_in x1 3) : ∀ (n : Nat) (y2 : Int32) (σ : mS) (i : Nat) (hc : y2 = nI i) (hi : i ≤ 8) (hn : n + i = 9), V l G X RX6 cX6_clearAtom 3 0 none κV ((fun v => v) (l_X6_clearAtom_2 n y2 σ x1)) σ 2 [(0, .ref (ad G 53)), (1, .int x1), (2, .int y2)] [] := by
  intro n
  induction n with
  | zero => intro y2 σ i hc hi hn; exact absurd hn (by omega)
  | succ n ih =>
    intro y2 σ i hc hi hn
    rw [l_X6_clearAtom_2.eq_2]
    refine Vload_n dX6_clearAtom_2 2 rfl 3 rfl ?_
    refine Vbipush dX6_clearAtom_3 (8 : Int32) (by decide) 5 rfl ?_
    refine Vicge (fun v => v) dX6_clearAtom_5 38 8 (by decide) rfl (fun h1 => ?_) (fun h1 => ?_)
    · exact Vvret dX6_clearAtom_38
    · refine Vaload_n dX6_clearAtom_8 0 rfl 9 rfl ?_
      refine Vget (53) 24 dX6_clearAtom_9 12 rfl (hF.1 53 (by decide)) wk53 rfl inX6 (by decide) wd_fl_RX6_80 (v := .ref (ad G 77)) rfl ?_
      refine Vbipush dX6_clearAtom_12 (8 : Int32) (by decide) 14 rfl ?_
      refine Vload_n dX6_clearAtom_14 1 rfl 15 rfl ?_
      refine Vimul dX6_clearAtom_15 16 rfl ?_
      refine Vload_n dX6_clearAtom_16 2 rfl 17 rfl ?_
      refine Viadd dX6_clearAtom_17 18 rfl ?_
      refine Viconst dX6_clearAtom_18 (0 : Int32) (by decide) 19 rfl ?_
      refine Vstz dX6_clearAtom_19 20 rfl (hF.1 77 (by decide)) wk77 wn77 hF.2.2.1 (by first | exact (vmul 8 3 (by decide) (by assumption) (by assumption) (by decide)) | exact (vmul 8 3 (by decide) (vin_w (by assumption) (by decide)) (by assumption) (by decide)) | exact (vmul 8 3 (by decide) (by assumption) (vin_cnt (by assumption) (by assumption) (by decide) (by decide) (by assumption)) (by decide)) | exact (vmul 8 3 (by decide) (vin_w (by assumption) (by decide)) (vin_cnt (by assumption) (by assumption) (by decide) (by decide) (by assumption)) (by decide)) | exact (vmul 8 3 (by decide) (by assumption) (vin_mRegister (by assumption)) (by decide)) | exact (vmul 8 3 (by decide) (vin_w (by assumption) (by decide)) (vin_mRegister (by assumption)) (by decide)) | exact (vmul 8 4 (by decide) (by assumption) (by assumption) (by decide)) | exact (vmul 8 4 (by decide) (vin_w (by assumption) (by decide)) (by assumption) (by decide)) | exact (vmul 8 4 (by decide) (by assumption) (vin_cnt (by assumption) (by assumption) (by decide) (by decide) (by assumption)) (by decide)) | exact (vmul 8 4 (by decide) (vin_w (by assumption) (by decide)) (vin_cnt (by assumption) (by assumption) (by decide) (by decide) (by assumption)) (by decide)) | exact (vmul 8 4 (by decide) (by assumption) (vin_mRegister (by assumption)) (by decide)) | exact (vmul 8 4 (by decide) (vin_w (by assumption) (by decide)) (vin_mRegister (by assumption)) (by decide))) (by decide) ?_
      refine Vaload_n dX6_clearAtom_20 0 rfl 21 rfl ?_
      refine Vget (53) 26 dX6_clearAtom_21 24 rfl (hF.1 53 (by decide)) wk53 rfl inX6 (by decide) wd_fl_RX6_86 (v := .ref (ad G 79)) rfl ?_
      refine Vbipush dX6_clearAtom_24 (8 : Int32) (by decide) 26 rfl ?_
      refine Vload_n dX6_clearAtom_26 1 rfl 27 rfl ?_
      refine Vimul dX6_clearAtom_27 28 rfl ?_
      refine Vload_n dX6_clearAtom_28 2 rfl 29 rfl ?_
      refine Viadd dX6_clearAtom_29 30 rfl ?_
      refine Viconst dX6_clearAtom_30 (0 : Int32) (by decide) 31 rfl ?_
      refine Vstz dX6_clearAtom_31 32 rfl (hF.1 79 (by decide)) wk79 wn79 hF.2.2.1 (by first | exact (vmul 8 3 (by decide) (by assumption) (by assumption) (by decide)) | exact (vmul 8 3 (by decide) (vin_w (by assumption) (by decide)) (by assumption) (by decide)) | exact (vmul 8 3 (by decide) (by assumption) (vin_cnt (by assumption) (by assumption) (by decide) (by decide) (by assumption)) (by decide)) | exact (vmul 8 3 (by decide) (vin_w (by assumption) (by decide)) (vin_cnt (by assumption) (by assumption) (by decide) (by decide) (by assumption)) (by decide)) | exact (vmul 8 3 (by decide) (by assumption) (vin_mRegister (by assumption)) (by decide)) | exact (vmul 8 3 (by decide) (vin_w (by assumption) (by decide)) (vin_mRegister (by assumption)) (by decide)) | exact (vmul 8 4 (by decide) (by assumption) (by assumption) (by decide)) | exact (vmul 8 4 (by decide) (vin_w (by assumption) (by decide)) (by assumption) (by decide)) | exact (vmul 8 4 (by decide) (by assumption) (vin_cnt (by assumption) (by assumption) (by decide) (by decide) (by assumption)) (by decide)) | exact (vmul 8 4 (by decide) (vin_w (by assumption) (by decide)) (vin_cnt (by assumption) (by assumption) (by decide) (by decide) (by assumption)) (by decide)) | exact (vmul 8 4 (by decide) (by assumption) (vin_mRegister (by assumption)) (by decide)) | exact (vmul 8 4 (by decide) (vin_w (by assumption) (by decide)) (vin_mRegister (by assumption)) (by decide))) (by decide) ?_
      refine Viinc dX6_clearAtom_32 (y2 + 1) 2 [(2, .int (y2 + 1)), (0, .ref (ad G 53)), (1, .int x1)] 35 rfl rfl rfl (by decide) rfl ?_
      refine Vgoto dX6_clearAtom_35 2 (by decide) ?_
      refine Vlv [1, 2, 0] rfl ?_
      exact ih (y2 + 1) (st2 (st2 σ 77 (((8 : Int32) * x1) + y2).toNatClampNeg (0 : Int32)) 79 (((8 : Int32) * x1) + y2).toNatClampNeg (0 : Int32)) (i + 1) (cnt_s hc) (cnt_lt hc (by assumption) (K := 8) (by decide) (by decide) hi) (by omega)
def f_X6_clearAtom (σ : mS) (x1 : Int32) : Int32 × mS := (l_X6_clearAtom_2 9 (0 : Int32) σ x1)
theorem mw_X6_clearAtom : mW yX6_clearAtom cX6_clearAtom 3 none 1 := ⟨wd_co_yX6_clearAtom, wd_ini_RX6, ⟨by decide, by decide⟩, by decide +kernel, by decide⟩
set_option maxRecDepth 100000 in
set_option maxHeartbeats 4000000 in
theorem c_X6_clearAtom (l : Launch) {G : gT} (hF : FullR G) (σ : mS) (x1 : Int32) (ht : vp_in x1 3) : Ct l G yX6_clearAtom cX6_clearAtom 3 none 0 [.ref (ad G 53), .int x1] κV σ (f_X6_clearAtom σ x1) := by
  refine Ct.ofV [(0, .ref (ad G 53)), (1, .int x1)] rfl (by decide) (Nat.le_of_ble_eq_true rfl) rfl (fun X => ?_)
  unfold f_X6_clearAtom
  refine Viconst dX6_clearAtom_0 (0 : Int32) (by decide) 1 rfl ?_
  refine Vstore_n dX6_clearAtom_1 [(2, .int (0 : Int32)), (0, .ref (ad G 53)), (1, .int x1)] 2 rfl (by decide) rfl ?_
  refine Vlv [1, 2, 0] rfl ?_
  exact vl_X6_clearAtom_2 l X hF x1 ht 9 (0 : Int32) σ 0 nI_0.symm (Nat.zero_le _) rfl
def l_X6_beginAtom_55 : Nat → Int32 → mS → Int32 → Int32 × mS
  | 0, y2, σ, _ => (0, σ)
  | n + 1, y2, σ, x1 => (if (4 : Int32) ≤ y2 then (0, σ) else (l_X6_beginAtom_55 n (y2 + 1) (st2 σ 76 (((4 : Int32) * x1) + y2).toNatClampNeg (σ 65 (((4 : Int32) * x1) + y2).toNatClampNeg)) x1))
set_option maxRecDepth 100000 in
set_option maxHeartbeats 4000000 in
theorem vl_X6_beginAtom_55 (l : Launch) {G : gT} (X : xT) (hF : FullR G) (x1 : Int32) (ht : vp_in x1 3) : ∀ (n : Nat) (y2 : Int32) (σ : mS) (i : Nat) (hc : y2 = nI i) (hi : i ≤ 4) (hn : n + i = 5), V l G X RX6 cX6_beginAtom 3 1 none κV ((fun v => v) (l_X6_beginAtom_55 n y2 σ x1)) σ 55 [(0, .ref (ad G 53)), (1, .int x1), (2, .int y2)] [] := by
  intro n
  induction n with
  | zero => intro y2 σ i hc hi hn; exact absurd hn (by omega)
  | succ n ih =>
    intro y2 σ i hc hi hn
    rw [l_X6_beginAtom_55.eq_2]
    refine Vload_n dX6_beginAtom_55 2 rfl 56 rfl ?_
    refine Viconst dX6_beginAtom_56 (4 : Int32) (by decide) 57 rfl ?_
    refine Vicge (fun v => v) dX6_beginAtom_57 86 60 (by decide) rfl (fun h3 => ?_) (fun h3 => ?_)
    · exact Vvret dX6_beginAtom_86
    · refine Vaload_n dX6_beginAtom_60 0 rfl 61 rfl ?_
      refine Vget (53) 23 dX6_beginAtom_61 64 rfl (hF.1 53 (by decide)) wk53 rfl inX6 (by decide) wd_fl_RX6_77 (v := .ref (ad G 76)) rfl ?_
      refine Viconst dX6_beginAtom_64 (4 : Int32) (by decide) 65 rfl ?_
      refine Vload_n dX6_beginAtom_65 1 rfl 66 rfl ?_
      refine Vimul dX6_beginAtom_66 67 rfl ?_
      refine Vload_n dX6_beginAtom_67 2 rfl 68 rfl ?_
      refine Viadd dX6_beginAtom_68 69 rfl ?_
      refine Vaload_n dX6_beginAtom_69 0 rfl 70 rfl ?_
      refine Vget (53) 12 dX6_beginAtom_70 73 rfl (hF.1 53 (by decide)) wk53 rfl inX6 (by decide) wd_fl_RX6_44 (v := .ref (ad G 65)) rfl ?_
      refine Viconst dX6_beginAtom_73 (4 : Int32) (by decide) 74 rfl ?_
      refine Vload_n dX6_beginAtom_74 1 rfl 75 rfl ?_
      refine Vimul dX6_beginAtom_75 76 rfl ?_
      refine Vload_n dX6_beginAtom_76 2 rfl 77 rfl ?_
      refine Viadd dX6_beginAtom_77 78 rfl ?_
      refine Vld dX6_beginAtom_78 79 rfl (hF.1 65 (by decide)) wk65 wn65 hF.2.1 (by first | exact (vmul 4 3 (by decide) (by assumption) (by assumption) (by decide)) | exact (vmul 4 3 (by decide) (vin_w (by assumption) (by decide)) (by assumption) (by decide)) | exact (vmul 4 3 (by decide) (by assumption) (vin_cnt (by assumption) (by assumption) (by decide) (by decide) (by assumption)) (by decide)) | exact (vmul 4 3 (by decide) (vin_w (by assumption) (by decide)) (vin_cnt (by assumption) (by assumption) (by decide) (by decide) (by assumption)) (by decide)) | exact (vmul 4 3 (by decide) (by assumption) (vin_mRegister (by assumption)) (by decide)) | exact (vmul 4 3 (by decide) (vin_w (by assumption) (by decide)) (vin_mRegister (by assumption)) (by decide))) ?_
      refine Vst dX6_beginAtom_79 80 rfl (hF.1 76 (by decide)) wk76 wn76 hF.2.1 (by first | exact (vmul 4 3 (by decide) (by assumption) (by assumption) (by decide)) | exact (vmul 4 3 (by decide) (vin_w (by assumption) (by decide)) (by assumption) (by decide)) | exact (vmul 4 3 (by decide) (by assumption) (vin_cnt (by assumption) (by assumption) (by decide) (by decide) (by assumption)) (by decide)) | exact (vmul 4 3 (by decide) (vin_w (by assumption) (by decide)) (vin_cnt (by assumption) (by assumption) (by decide) (by decide) (by assumption)) (by decide)) | exact (vmul 4 3 (by decide) (by assumption) (vin_mRegister (by assumption)) (by decide)) | exact (vmul 4 3 (by decide) (vin_w (by assumption) (by decide)) (vin_mRegister (by assumption)) (by decide))) ?_
      refine Viinc dX6_beginAtom_80 (y2 + 1) 2 [(2, .int (y2 + 1)), (0, .ref (ad G 53)), (1, .int x1)] 83 rfl rfl rfl (by decide) rfl ?_
      refine Vgoto dX6_beginAtom_83 55 (by decide) ?_
      refine Vlv [1, 2, 0] rfl ?_
      exact ih (y2 + 1) (st2 σ 76 (((4 : Int32) * x1) + y2).toNatClampNeg (σ 65 (((4 : Int32) * x1) + y2).toNatClampNeg)) (i + 1) (cnt_s hc) (cnt_lt hc (by assumption) (K := 4) (by decide) (by decide) hi) (by omega)
def f_X6_beginAtom (σ : mS) (x1 : Int32) : Int32 × mS := (if (σ 73 x1.toNatClampNeg) = 0 then (ap (fun u2 => (l_X6_beginAtom_55 5 (0 : Int32) (st2 (st2 u2.2 74 x1.toNatClampNeg (u2.2 71 x1.toNatClampNeg)) 75 x1.toNatClampNeg (((st2 u2.2 74 x1.toNatClampNeg (u2.2 71 x1.toNatClampNeg)) 66 x1.toNatClampNeg) + (1 : Int32))) x1)) (f_X6_clearAtom (st2 σ 73 x1.toNatClampNeg (1 : Int32)) x1)) else (0, (st2 σ 53 32 (5 : Int32))))
theorem mw_X6_beginAtom : mW yX6_beginAtom cX6_beginAtom 3 none 1 := ⟨wd_co_yX6_beginAtom, wd_ini_RX6, ⟨by decide, by decide⟩, by decide +kernel, by decide⟩
set_option maxRecDepth 100000 in
set_option maxHeartbeats 4000000 in
theorem c_X6_beginAtom (l : Launch) {G : gT} (hF : FullR G) (σ : mS) (x1 : Int32) (ht : vp_in x1 3) : Ct l G yX6_beginAtom cX6_beginAtom 3 none 1 [.ref (ad G 53), .int x1] κV σ (f_X6_beginAtom σ x1) := by
  refine Ct.ofV [(0, .ref (ad G 53)), (1, .int x1)] rfl (by decide) (Nat.le_of_ble_eq_true rfl) rfl (fun X => ?_)
  unfold f_X6_beginAtom
  refine Vaload_n dX6_beginAtom_0 0 rfl 1 rfl ?_
  refine Vget (53) 20 dX6_beginAtom_1 4 rfl (hF.1 53 (by decide)) wk53 rfl inX6 (by decide) wd_fl_RX6_68 (v := .ref (ad G 73)) rfl ?_
  refine Vload_n dX6_beginAtom_4 1 rfl 5 rfl ?_
  refine Vldz dX6_beginAtom_5 6 rfl (hF.1 73 (by decide)) wk73 wn73 hF.2.2.1 (by first | exact (by assumption) | exact (vin_cmp2 (by assumption) (by assumption) (by decide)) | exact (vin_cell (by assumption)) | exact (vin_reg (by assumption)) | exact (vin_row (by assumption)) | exact (vin_cnt (by assumption) (by assumption) (by decide) (by decide) (by assumption)) | exact (vin_cmp (by assumption) (by assumption) (by decide)) | exact (vp_in_iff.mpr (by decide)) | exact (vin_mCell (by assumption)) | exact (vin_mRegister (by assumption)) | exact (vin_w (by assumption) (by decide))) ?_
  refine Vifeq (fun v => v) dX6_beginAtom_6 15 9 (by decide) rfl (fun h1 => ?_) (fun h1 => ?_)
  · refine Vaload_n dX6_beginAtom_15 0 rfl 16 rfl ?_
    refine Vget (53) 20 dX6_beginAtom_16 19 rfl (hF.1 53 (by decide)) wk53 rfl inX6 (by decide) wd_fl_RX6_68 (v := .ref (ad G 73)) rfl ?_
    refine Vload_n dX6_beginAtom_19 1 rfl 20 rfl ?_
    refine Viconst dX6_beginAtom_20 (1 : Int32) (by decide) 21 rfl ?_
    refine Vstz dX6_beginAtom_21 22 rfl (hF.1 73 (by decide)) wk73 wn73 hF.2.2.1 (by first | exact (by assumption) | exact (vin_cmp2 (by assumption) (by assumption) (by decide)) | exact (vin_cell (by assumption)) | exact (vin_reg (by assumption)) | exact (vin_row (by assumption)) | exact (vin_cnt (by assumption) (by assumption) (by decide) (by decide) (by assumption)) | exact (vin_cmp (by assumption) (by assumption) (by decide)) | exact (vp_in_iff.mpr (by decide)) | exact (vin_mCell (by assumption)) | exact (vin_mRegister (by assumption)) | exact (vin_w (by assumption) (by decide))) (by decide) ?_
    refine Vaload_n dX6_beginAtom_22 0 rfl 23 rfl ?_
    refine Vload_n dX6_beginAtom_23 1 rfl 24 rfl ?_
    refine Vgen ?_
    intro u2 eu2
    refine VcVv (u := u2) dX6_beginAtom_24 [.int x1] (by rw [eu2]; exact c_X6_clearAtom l hF (st2 σ 73 x1.toNatClampNeg (1 : Int32)) x1 (by assumption)) mw_X6_clearAtom wd_im_yX6_clearAtom wd_se_yX6_clearAtom wd_ml_RX6_143 (hF.1 53 (by decide)) wk53 rfl rfl (by decide) rfl rfl (Nat.le_of_ble_eq_true rfl) 27 rfl ?_
    refine Vaload_n dX6_beginAtom_27 0 rfl 28 rfl ?_
    refine Vget (53) 21 dX6_beginAtom_28 31 rfl (hF.1 53 (by decide)) wk53 rfl inX6 (by decide) wd_fl_RX6_71 (v := .ref (ad G 74)) rfl ?_
    refine Vload_n dX6_beginAtom_31 1 rfl 32 rfl ?_
    refine Vaload_n dX6_beginAtom_32 0 rfl 33 rfl ?_
    refine Vget (53) 18 dX6_beginAtom_33 36 rfl (hF.1 53 (by decide)) wk53 rfl inX6 (by decide) wd_fl_RX6_62 (v := .ref (ad G 71)) rfl ?_
    refine Vload_n dX6_beginAtom_36 1 rfl 37 rfl ?_
    refine Vld dX6_beginAtom_37 38 rfl (hF.1 71 (by decide)) wk71 wn71 hF.2.1 (by first | exact (by assumption) | exact (vin_cmp2 (by assumption) (by assumption) (by decide)) | exact (vin_cell (by assumption)) | exact (vin_reg (by assumption)) | exact (vin_row (by assumption)) | exact (vin_cnt (by assumption) (by assumption) (by decide) (by decide) (by assumption)) | exact (vin_cmp (by assumption) (by assumption) (by decide)) | exact (vp_in_iff.mpr (by decide)) | exact (vin_mCell (by assumption)) | exact (vin_mRegister (by assumption)) | exact (vin_w (by assumption) (by decide))) ?_
    refine Vst dX6_beginAtom_38 39 rfl (hF.1 74 (by decide)) wk74 wn74 hF.2.1 (by first | exact (by assumption) | exact (vin_cmp2 (by assumption) (by assumption) (by decide)) | exact (vin_cell (by assumption)) | exact (vin_reg (by assumption)) | exact (vin_row (by assumption)) | exact (vin_cnt (by assumption) (by assumption) (by decide) (by decide) (by assumption)) | exact (vin_cmp (by assumption) (by assumption) (by decide)) | exact (vp_in_iff.mpr (by decide)) | exact (vin_mCell (by assumption)) | exact (vin_mRegister (by assumption)) | exact (vin_w (by assumption) (by decide))) ?_
    refine Vaload_n dX6_beginAtom_39 0 rfl 40 rfl ?_
    refine Vget (53) 22 dX6_beginAtom_40 43 rfl (hF.1 53 (by decide)) wk53 rfl inX6 (by decide) wd_fl_RX6_74 (v := .ref (ad G 75)) rfl ?_
    refine Vload_n dX6_beginAtom_43 1 rfl 44 rfl ?_
    refine Vaload_n dX6_beginAtom_44 0 rfl 45 rfl ?_
    refine Vget (53) 13 dX6_beginAtom_45 48 rfl (hF.1 53 (by decide)) wk53 rfl inX6 (by decide) wd_fl_RX6_47 (v := .ref (ad G 66)) rfl ?_
    refine Vload_n dX6_beginAtom_48 1 rfl 49 rfl ?_
    refine Vld dX6_beginAtom_49 50 rfl (hF.1 66 (by decide)) wk66 wn66 hF.2.1 (by first | exact (by assumption) | exact (vin_cmp2 (by assumption) (by assumption) (by decide)) | exact (vin_cell (by assumption)) | exact (vin_reg (by assumption)) | exact (vin_row (by assumption)) | exact (vin_cnt (by assumption) (by assumption) (by decide) (by decide) (by assumption)) | exact (vin_cmp (by assumption) (by assumption) (by decide)) | exact (vp_in_iff.mpr (by decide)) | exact (vin_mCell (by assumption)) | exact (vin_mRegister (by assumption)) | exact (vin_w (by assumption) (by decide))) ?_
    refine Viconst dX6_beginAtom_50 (1 : Int32) (by decide) 51 rfl ?_
    refine Viadd dX6_beginAtom_51 52 rfl ?_
    refine Vst dX6_beginAtom_52 53 rfl (hF.1 75 (by decide)) wk75 wn75 hF.2.1 (by first | exact (by assumption) | exact (vin_cmp2 (by assumption) (by assumption) (by decide)) | exact (vin_cell (by assumption)) | exact (vin_reg (by assumption)) | exact (vin_row (by assumption)) | exact (vin_cnt (by assumption) (by assumption) (by decide) (by decide) (by assumption)) | exact (vin_cmp (by assumption) (by assumption) (by decide)) | exact (vp_in_iff.mpr (by decide)) | exact (vin_mCell (by assumption)) | exact (vin_mRegister (by assumption)) | exact (vin_w (by assumption) (by decide))) ?_
    refine Viconst dX6_beginAtom_53 (0 : Int32) (by decide) 54 rfl ?_
    refine Vstore_n dX6_beginAtom_54 [(2, .int (0 : Int32)), (0, .ref (ad G 53)), (1, .int x1)] 55 rfl (by decide) rfl ?_
    refine Vlv [1, 2, 0] rfl ?_
    exact vl_X6_beginAtom_55 l X hF x1 ht 5 (0 : Int32) (st2 (st2 u2.2 74 x1.toNatClampNeg (u2.2 71 x1.toNatClampNeg)) 75 x1.toNatClampNeg (((st2 u2.2 74 x1.toNatClampNeg (u2.2 71 x1.toNatClampNeg)) 66 x1.toNatClampNeg) + (1 : Int32))) 0 nI_0.symm (Nat.zero_le _) rfl
  · refine Vaload_n dX6_beginAtom_9 0 rfl 10 rfl ?_
    refine Viconst dX6_beginAtom_10 (5 : Int32) (by decide) 11 rfl ?_
    refine Vput (53) 32 tyX6 dX6_beginAtom_11 14 rfl (hF.1 53 (by decide)) wk53 rfl inX6 tyX6_ok nmX6 (by decide) wd_fl_RX6_133 rfl (ty := .int) (by decide +kernel) rfl rfl (fun f => rfl) (fun f => Nat.le_of_ble_eq_true rfl) ?_
    exact Vvret dX6_beginAtom_14
def l_X6_endAtom_35 : Nat → Int32 → Int32 → mS → Int32 → Int32 × Int32
  | 0, y2, y3, σ, _ => (y2, y3)
  | n + 1, y2, y3, σ, x1 => (if (8 : Int32) ≤ y3 then (y2, y3) else (if y2 = 0 then (l_X6_endAtom_35 n (0 : Int32) (y3 + 1) σ x1) else (if (σ 77 (((8 : Int32) * x1) + y3).toNatClampNeg) = 0 then (l_X6_endAtom_35 n (1 : Int32) (y3 + 1) σ x1) else (if (σ 55 y3.toNatClampNeg) = 0 then (if (σ 54 y3.toNatClampNeg) = (σ 78 (((8 : Int32) * x1) + y3).toNatClampNeg) then (l_X6_endAtom_35 n (1 : Int32) (y3 + 1) σ x1) else (l_X6_endAtom_35 n (0 : Int32) (y3 + 1) σ x1)) else (l_X6_endAtom_35 n (0 : Int32) (y3 + 1) σ x1)))))
set_option maxRecDepth 100000 in
set_option maxHeartbeats 4000000 in
theorem vl_X6_endAtom_35 (l : Launch) {G : gT} (X : xT) (hF : FullR G) (σ : mS) (x1 : Int32) (ht : vp_in x1 3) {B : Int32 × Int32 → Int32 × mS} : ∀ (n : Nat) (y2 : Int32) (y3 : Int32) (i : Nat) (hc : y3 = nI i) (hi : i ≤ 8) (hn : n + i = 9) (hk : ∀ u : Int32 × Int32, V l G X RX6 cX6_endAtom 5 2 (some .int) κI ((fun v => ap B v) u) σ 100 [(0, .ref (ad G 53)), (1, .int x1), (2, .int u.1), (3, .int u.2)] []), V l G X RX6 cX6_endAtom 5 2 (some .int) κI ((fun v => ap B v) (l_X6_endAtom_35 n y2 y3 σ x1)) σ 35 [(0, .ref (ad G 53)), (1, .int x1), (2, .int y2), (3, .int y3)] [] := by
  intro n
  induction n with
  | zero => intro y2 y3 i hc hi hn hk; exact absurd hn (by omega)
  | succ n ih =>
    intro y2 y3 i hc hi hn hk
    rw [l_X6_endAtom_35.eq_2]
    refine Vload_n dX6_endAtom_35 3 rfl 36 rfl ?_
    refine Vbipush dX6_endAtom_36 (8 : Int32) (by decide) 38 rfl ?_
    refine Vicge (fun v => ap B v) dX6_endAtom_38 100 41 (by decide) rfl (fun h3 => ?_) (fun h3 => ?_)
    · refine Vlv [0, 1, 2, 3] rfl ?_
      exact hk (y2, y3) 
    · refine Vbipush dX6_endAtom_41 (8 : Int32) (by decide) 43 rfl ?_
      refine Vload_n dX6_endAtom_43 1 rfl 44 rfl ?_
      refine Vimul dX6_endAtom_44 45 rfl ?_
      refine Vload_n dX6_endAtom_45 3 rfl 46 rfl ?_
      refine Viadd dX6_endAtom_46 47 rfl ?_
      refine Vstore dX6_endAtom_47 [(4, .int (((8 : Int32) * x1) + y3)), (0, .ref (ad G 53)), (1, .int x1), (2, .int y2), (3, .int y3)] 49 rfl (by decide) rfl ?_
      refine Vload_n dX6_endAtom_49 3 rfl 50 rfl ?_
      refine Vifeq (fun v => ap B v) dX6_endAtom_50 92 53 (by decide) rfl (fun h4 => ?_) (fun h4 => ?_)
      · refine Viconst dX6_endAtom_92 (0 : Int32) (by decide) 93 rfl ?_
        refine Vstore_n dX6_endAtom_93 [(2, .int (0 : Int32)), (4, .int (((8 : Int32) * x1) + y3)), (0, .ref (ad G 53)), (1, .int x1), (3, .int y3)] 94 rfl (by decide) rfl ?_
        refine Viinc dX6_endAtom_94 (y3 + 1) 4 [(3, .int (y3 + 1)), (2, .int (0 : Int32)), (4, .int (((8 : Int32) * x1) + y3)), (0, .ref (ad G 53)), (1, .int x1)] 97 rfl rfl rfl (by decide) rfl ?_
        refine Vgoto dX6_endAtom_97 35 (by decide) ?_
        refine Vlv [3, 4, 1, 0] rfl ?_
        exact ih (0 : Int32) (y3 + 1) (i + 1) (cnt_s hc) (cnt_lt hc (by assumption) (K := 8) (by decide) (by decide) hi) (by omega) hk
      · refine Vaload_n dX6_endAtom_53 1 rfl 54 rfl ?_
        refine Vget (53) 24 dX6_endAtom_54 57 rfl (hF.1 53 (by decide)) wk53 rfl inX6 (by decide) wd_fl_RX6_80 (v := .ref (ad G 77)) rfl ?_
        refine Vload dX6_endAtom_57 0 rfl 59 rfl ?_
        refine Vldz dX6_endAtom_59 60 rfl (hF.1 77 (by decide)) wk77 wn77 hF.2.2.1 (by first | exact (vmul 8 3 (by decide) (by assumption) (by assumption) (by decide)) | exact (vmul 8 3 (by decide) (vin_w (by assumption) (by decide)) (by assumption) (by decide)) | exact (vmul 8 3 (by decide) (by assumption) (vin_cnt (by assumption) (by assumption) (by decide) (by decide) (by assumption)) (by decide)) | exact (vmul 8 3 (by decide) (vin_w (by assumption) (by decide)) (vin_cnt (by assumption) (by assumption) (by decide) (by decide) (by assumption)) (by decide)) | exact (vmul 8 3 (by decide) (by assumption) (vin_mRegister (by assumption)) (by decide)) | exact (vmul 8 3 (by decide) (vin_w (by assumption) (by decide)) (vin_mRegister (by assumption)) (by decide)) | exact (vmul 8 4 (by decide) (by assumption) (by assumption) (by decide)) | exact (vmul 8 4 (by decide) (vin_w (by assumption) (by decide)) (by assumption) (by decide)) | exact (vmul 8 4 (by decide) (by assumption) (vin_cnt (by assumption) (by assumption) (by decide) (by decide) (by assumption)) (by decide)) | exact (vmul 8 4 (by decide) (vin_w (by assumption) (by decide)) (vin_cnt (by assumption) (by assumption) (by decide) (by decide) (by assumption)) (by decide)) | exact (vmul 8 4 (by decide) (by assumption) (vin_mRegister (by assumption)) (by decide)) | exact (vmul 8 4 (by decide) (vin_w (by assumption) (by decide)) (vin_mRegister (by assumption)) (by decide))) ?_
        refine Vifeq (fun v => ap B v) dX6_endAtom_60 88 63 (by decide) rfl (fun h5 => ?_) (fun h5 => ?_)
        · refine Viconst dX6_endAtom_88 (1 : Int32) (by decide) 89 rfl ?_
          refine Vgoto dX6_endAtom_89 93 (by decide) ?_
          refine Vstore_n dX6_endAtom_93 [(2, .int (1 : Int32)), (4, .int (((8 : Int32) * x1) + y3)), (0, .ref (ad G 53)), (1, .int x1), (3, .int y3)] 94 rfl (by decide) rfl ?_
          refine Viinc dX6_endAtom_94 (y3 + 1) 4 [(3, .int (y3 + 1)), (2, .int (1 : Int32)), (4, .int (((8 : Int32) * x1) + y3)), (0, .ref (ad G 53)), (1, .int x1)] 97 rfl rfl rfl (by decide) rfl ?_
          refine Vgoto dX6_endAtom_97 35 (by decide) ?_
          refine Vlv [3, 4, 1, 0] rfl ?_
          exact ih (1 : Int32) (y3 + 1) (i + 1) (cnt_s hc) (cnt_lt hc (by assumption) (K := 8) (by decide) (by decide) hi) (by omega) hk
        · refine Vaload_n dX6_endAtom_63 1 rfl 64 rfl ?_
          refine Vget (53) 2 dX6_endAtom_64 67 rfl (hF.1 53 (by decide)) wk53 rfl inX6 (by decide) wd_fl_RX6_13 (v := .ref (ad G 55)) rfl ?_
          refine Vload_n dX6_endAtom_67 4 rfl 68 rfl ?_
          refine Vldz dX6_endAtom_68 69 rfl (hF.1 55 (by decide)) wk55 wn55 hF.2.2.1 (by first | exact (by assumption) | exact (vin_cmp2 (by assumption) (by assumption) (by decide)) | exact (vin_cell (by assumption)) | exact (vin_reg (by assumption)) | exact (vin_row (by assumption)) | exact (vin_cnt (by assumption) (by assumption) (by decide) (by decide) (by assumption)) | exact (vin_cmp (by assumption) (by assumption) (by decide)) | exact (vp_in_iff.mpr (by decide)) | exact (vin_mCell (by assumption)) | exact (vin_mRegister (by assumption)) | exact (vin_w (by assumption) (by decide))) ?_
          refine Vifne (fun v => ap B v) dX6_endAtom_69 92 72 (by decide) rfl (fun h6 => ?_) (fun h6 => ?_)
          · refine Viconst dX6_endAtom_92 (0 : Int32) (by decide) 93 rfl ?_
            refine Vstore_n dX6_endAtom_93 [(2, .int (0 : Int32)), (4, .int (((8 : Int32) * x1) + y3)), (0, .ref (ad G 53)), (1, .int x1), (3, .int y3)] 94 rfl (by decide) rfl ?_
            refine Viinc dX6_endAtom_94 (y3 + 1) 4 [(3, .int (y3 + 1)), (2, .int (0 : Int32)), (4, .int (((8 : Int32) * x1) + y3)), (0, .ref (ad G 53)), (1, .int x1)] 97 rfl rfl rfl (by decide) rfl ?_
            refine Vgoto dX6_endAtom_97 35 (by decide) ?_
            refine Vlv [3, 4, 1, 0] rfl ?_
            exact ih (0 : Int32) (y3 + 1) (i + 1) (cnt_s hc) (cnt_lt hc (by assumption) (K := 8) (by decide) (by decide) hi) (by omega) hk
          · refine Vaload_n dX6_endAtom_72 1 rfl 73 rfl ?_
            refine Vget (53) 1 dX6_endAtom_73 76 rfl (hF.1 53 (by decide)) wk53 rfl inX6 (by decide) wd_fl_RX6_7 (v := .ref (ad G 54)) rfl ?_
            refine Vload_n dX6_endAtom_76 4 rfl 77 rfl ?_
            refine Vld dX6_endAtom_77 78 rfl (hF.1 54 (by decide)) wk54 wn54 hF.2.1 (by first | exact (by assumption) | exact (vin_cmp2 (by assumption) (by assumption) (by decide)) | exact (vin_cell (by assumption)) | exact (vin_reg (by assumption)) | exact (vin_row (by assumption)) | exact (vin_cnt (by assumption) (by assumption) (by decide) (by decide) (by assumption)) | exact (vin_cmp (by assumption) (by assumption) (by decide)) | exact (vp_in_iff.mpr (by decide)) | exact (vin_mCell (by assumption)) | exact (vin_mRegister (by assumption)) | exact (vin_w (by assumption) (by decide))) ?_
            refine Vaload_n dX6_endAtom_78 1 rfl 79 rfl ?_
            refine Vget (53) 25 dX6_endAtom_79 82 rfl (hF.1 53 (by decide)) wk53 rfl inX6 (by decide) wd_fl_RX6_83 (v := .ref (ad G 78)) rfl ?_
            refine Vload dX6_endAtom_82 0 rfl 84 rfl ?_
            refine Vld dX6_endAtom_84 85 rfl (hF.1 78 (by decide)) wk78 wn78 hF.2.1 (by first | exact (vmul 8 3 (by decide) (by assumption) (by assumption) (by decide)) | exact (vmul 8 3 (by decide) (vin_w (by assumption) (by decide)) (by assumption) (by decide)) | exact (vmul 8 3 (by decide) (by assumption) (vin_cnt (by assumption) (by assumption) (by decide) (by decide) (by assumption)) (by decide)) | exact (vmul 8 3 (by decide) (vin_w (by assumption) (by decide)) (vin_cnt (by assumption) (by assumption) (by decide) (by decide) (by assumption)) (by decide)) | exact (vmul 8 3 (by decide) (by assumption) (vin_mRegister (by assumption)) (by decide)) | exact (vmul 8 3 (by decide) (vin_w (by assumption) (by decide)) (vin_mRegister (by assumption)) (by decide)) | exact (vmul 8 4 (by decide) (by assumption) (by assumption) (by decide)) | exact (vmul 8 4 (by decide) (vin_w (by assumption) (by decide)) (by assumption) (by decide)) | exact (vmul 8 4 (by decide) (by assumption) (vin_cnt (by assumption) (by assumption) (by decide) (by decide) (by assumption)) (by decide)) | exact (vmul 8 4 (by decide) (vin_w (by assumption) (by decide)) (vin_cnt (by assumption) (by assumption) (by decide) (by decide) (by assumption)) (by decide)) | exact (vmul 8 4 (by decide) (by assumption) (vin_mRegister (by assumption)) (by decide)) | exact (vmul 8 4 (by decide) (vin_w (by assumption) (by decide)) (vin_mRegister (by assumption)) (by decide))) ?_
            refine Vicne (fun v => ap B v) dX6_endAtom_85 92 88 (by decide) rfl (fun h7 => ?_) (fun h7 => ?_)
            · refine Viconst dX6_endAtom_92 (0 : Int32) (by decide) 93 rfl ?_
              refine Vstore_n dX6_endAtom_93 [(2, .int (0 : Int32)), (4, .int (((8 : Int32) * x1) + y3)), (0, .ref (ad G 53)), (1, .int x1), (3, .int y3)] 94 rfl (by decide) rfl ?_
              refine Viinc dX6_endAtom_94 (y3 + 1) 4 [(3, .int (y3 + 1)), (2, .int (0 : Int32)), (4, .int (((8 : Int32) * x1) + y3)), (0, .ref (ad G 53)), (1, .int x1)] 97 rfl rfl rfl (by decide) rfl ?_
              refine Vgoto dX6_endAtom_97 35 (by decide) ?_
              refine Vlv [3, 4, 1, 0] rfl ?_
              exact ih (0 : Int32) (y3 + 1) (i + 1) (cnt_s hc) (cnt_lt hc (by assumption) (K := 8) (by decide) (by decide) hi) (by omega) hk
            · refine Viconst dX6_endAtom_88 (1 : Int32) (by decide) 89 rfl ?_
              refine Vgoto dX6_endAtom_89 93 (by decide) ?_
              refine Vstore_n dX6_endAtom_93 [(2, .int (1 : Int32)), (4, .int (((8 : Int32) * x1) + y3)), (0, .ref (ad G 53)), (1, .int x1), (3, .int y3)] 94 rfl (by decide) rfl ?_
              refine Viinc dX6_endAtom_94 (y3 + 1) 4 [(3, .int (y3 + 1)), (2, .int (1 : Int32)), (4, .int (((8 : Int32) * x1) + y3)), (0, .ref (ad G 53)), (1, .int x1)] 97 rfl rfl rfl (by decide) rfl ?_
              refine Vgoto dX6_endAtom_97 35 (by decide) ?_
              refine Vlv [3, 4, 1, 0] rfl ?_
              exact ih (1 : Int32) (y3 + 1) (i + 1) (cnt_s hc) (cnt_lt hc (by assumption) (K := 8) (by decide) (by decide) hi) (by omega) hk
def l_X6_endAtom_168 : Nat → Int32 → mS → Int32 → Int32 × mS
  | 0, y3, σ, _ => (y3, σ)
  | n + 1, y3, σ, x1 => (if (8 : Int32) ≤ y3 then (y3, σ) else (if (σ 79 (((8 : Int32) * x1) + y3).toNatClampNeg) = 0 then (l_X6_endAtom_168 n (y3 + 1) σ x1) else (ap (fun u12 => (l_X6_endAtom_168 n (y3 + 1) u12.2 x1)) (f_X6_write σ x1 y3 (σ 80 (((8 : Int32) * x1) + y3).toNatClampNeg)))))
set_option maxRecDepth 100000 in
set_option maxHeartbeats 4000000 in
theorem vl_X6_endAtom_168 (l : Launch) {G : gT} (X : xT) (hF : FullR G) (x1 : Int32) (ht : vp_in x1 3) (b : Nat) (hb : b < 2 ^ 29) {B : Int32 × mS → Int32 × mS} : ∀ (n : Nat) (y3 : Int32) (σ : mS) (i : Nat) (hc : y3 = nI i) (hi : i ≤ 8) (hn : n + i = 9) (hw : Wr σ (b + i)) (hk : ∀ u : Int32 × mS, V l G X RX6 cX6_endAtom 5 2 (some .int) κI ((fun v => ap B v) u) u.2 211 [(0, .ref (ad G 53)), (1, .int x1), (3, .int u.1)] []), V l G X RX6 cX6_endAtom 5 2 (some .int) κI ((fun v => ap B v) (l_X6_endAtom_168 n y3 σ x1)) σ 168 [(0, .ref (ad G 53)), (1, .int x1), (3, .int y3)] [] := by
  intro n
  induction n with
  | zero => intro y3 σ i hc hi hn hw hk; exact absurd hn (by omega)
  | succ n ih =>
    intro y3 σ i hc hi hn hw hk
    rw [l_X6_endAtom_168.eq_2]
    refine Vload_n dX6_endAtom_168 2 rfl 169 rfl ?_
    refine Vbipush dX6_endAtom_169 (8 : Int32) (by decide) 171 rfl ?_
    refine Vicge (fun v => ap B v) dX6_endAtom_171 211 174 (by decide) rfl (fun h10 => ?_) (fun h10 => ?_)
    · refine Vlv [0, 1, 2] rfl ?_
      exact hk (y3, σ) 
    · refine Vaload_n dX6_endAtom_174 0 rfl 175 rfl ?_
      refine Vget (53) 26 dX6_endAtom_175 178 rfl (hF.1 53 (by decide)) wk53 rfl inX6 (by decide) wd_fl_RX6_86 (v := .ref (ad G 79)) rfl ?_
      refine Vbipush dX6_endAtom_178 (8 : Int32) (by decide) 180 rfl ?_
      refine Vload_n dX6_endAtom_180 1 rfl 181 rfl ?_
      refine Vimul dX6_endAtom_181 182 rfl ?_
      refine Vload_n dX6_endAtom_182 2 rfl 183 rfl ?_
      refine Viadd dX6_endAtom_183 184 rfl ?_
      refine Vldz dX6_endAtom_184 185 rfl (hF.1 79 (by decide)) wk79 wn79 hF.2.2.1 (by first | exact (vmul 8 3 (by decide) (by assumption) (by assumption) (by decide)) | exact (vmul 8 3 (by decide) (vin_w (by assumption) (by decide)) (by assumption) (by decide)) | exact (vmul 8 3 (by decide) (by assumption) (vin_cnt (by assumption) (by assumption) (by decide) (by decide) (by assumption)) (by decide)) | exact (vmul 8 3 (by decide) (vin_w (by assumption) (by decide)) (vin_cnt (by assumption) (by assumption) (by decide) (by decide) (by assumption)) (by decide)) | exact (vmul 8 3 (by decide) (by assumption) (vin_mRegister (by assumption)) (by decide)) | exact (vmul 8 3 (by decide) (vin_w (by assumption) (by decide)) (vin_mRegister (by assumption)) (by decide)) | exact (vmul 8 4 (by decide) (by assumption) (by assumption) (by decide)) | exact (vmul 8 4 (by decide) (vin_w (by assumption) (by decide)) (by assumption) (by decide)) | exact (vmul 8 4 (by decide) (by assumption) (vin_cnt (by assumption) (by assumption) (by decide) (by decide) (by assumption)) (by decide)) | exact (vmul 8 4 (by decide) (vin_w (by assumption) (by decide)) (vin_cnt (by assumption) (by assumption) (by decide) (by decide) (by assumption)) (by decide)) | exact (vmul 8 4 (by decide) (by assumption) (vin_mRegister (by assumption)) (by decide)) | exact (vmul 8 4 (by decide) (vin_w (by assumption) (by decide)) (vin_mRegister (by assumption)) (by decide))) ?_
      refine Vifeq (fun v => ap B v) dX6_endAtom_185 205 188 (by decide) rfl (fun h11 => ?_) (fun h11 => ?_)
      · refine Viinc dX6_endAtom_205 (y3 + 1) 2 [(3, .int (y3 + 1)), (0, .ref (ad G 53)), (1, .int x1)] 208 rfl rfl rfl (by decide) rfl ?_
        refine Vgoto dX6_endAtom_208 168 (by decide) ?_
        refine Vlv [1, 2, 0] rfl ?_
        exact ih (y3 + 1) σ (i + 1) (cnt_s hc) (cnt_lt hc (by assumption) (K := 8) (by decide) (by decide) hi) (by omega) (by first | exact hwU | exact hw.mono (by omega)) hk
      · refine Vaload_n dX6_endAtom_188 0 rfl 189 rfl ?_
        refine Vload_n dX6_endAtom_189 1 rfl 190 rfl ?_
        refine Vload_n dX6_endAtom_190 2 rfl 191 rfl ?_
        refine Vaload_n dX6_endAtom_191 0 rfl 192 rfl ?_
        refine Vget (53) 27 dX6_endAtom_192 195 rfl (hF.1 53 (by decide)) wk53 rfl inX6 (by decide) wd_fl_RX6_89 (v := .ref (ad G 80)) rfl ?_
        refine Vbipush dX6_endAtom_195 (8 : Int32) (by decide) 197 rfl ?_
        refine Vload_n dX6_endAtom_197 1 rfl 198 rfl ?_
        refine Vimul dX6_endAtom_198 199 rfl ?_
        refine Vload_n dX6_endAtom_199 2 rfl 200 rfl ?_
        refine Viadd dX6_endAtom_200 201 rfl ?_
        refine Vld dX6_endAtom_201 202 rfl (hF.1 80 (by decide)) wk80 wn80 hF.2.1 (by first | exact (vmul 8 3 (by decide) (by assumption) (by assumption) (by decide)) | exact (vmul 8 3 (by decide) (vin_w (by assumption) (by decide)) (by assumption) (by decide)) | exact (vmul 8 3 (by decide) (by assumption) (vin_cnt (by assumption) (by assumption) (by decide) (by decide) (by assumption)) (by decide)) | exact (vmul 8 3 (by decide) (vin_w (by assumption) (by decide)) (vin_cnt (by assumption) (by assumption) (by decide) (by decide) (by assumption)) (by decide)) | exact (vmul 8 3 (by decide) (by assumption) (vin_mRegister (by assumption)) (by decide)) | exact (vmul 8 3 (by decide) (vin_w (by assumption) (by decide)) (vin_mRegister (by assumption)) (by decide)) | exact (vmul 8 4 (by decide) (by assumption) (by assumption) (by decide)) | exact (vmul 8 4 (by decide) (vin_w (by assumption) (by decide)) (by assumption) (by decide)) | exact (vmul 8 4 (by decide) (by assumption) (vin_cnt (by assumption) (by assumption) (by decide) (by decide) (by assumption)) (by decide)) | exact (vmul 8 4 (by decide) (vin_w (by assumption) (by decide)) (vin_cnt (by assumption) (by assumption) (by decide) (by decide) (by assumption)) (by decide)) | exact (vmul 8 4 (by decide) (by assumption) (vin_mRegister (by assumption)) (by decide)) | exact (vmul 8 4 (by decide) (vin_w (by assumption) (by decide)) (vin_mRegister (by assumption)) (by decide))) ?_
        refine Vaa ?_
        refine Vgen ?_
        intro u12 eu12
        refine VcVv (u := u12) dX6_endAtom_202 [.int x1, .int y3, .int (σ 80 (((8 : Int32) * x1) + y3).toNatClampNeg)] (by rw [eu12]; exact c_X6_write l hF σ x1 y3 (σ 80 (((8 : Int32) * x1) + y3).toNatClampNeg) (vin_cnt hc (by assumption) (by decide) (by decide) hi) (b + i) hw (by omega)) mw_X6_write wd_im_yX6_write wd_se_yX6_write wd_ml_RX6_136 (hF.1 53 (by decide)) wk53 rfl rfl (by decide) rfl rfl (Nat.le_of_ble_eq_true rfl) 205 rfl ?_
        have hwU : Wr u12.2 (b + i + 1) := by rw [eu12]; exact Wr_write hw _ _ _
        refine Viinc dX6_endAtom_205 (y3 + 1) 2 [(3, .int (y3 + 1)), (0, .ref (ad G 53)), (1, .int x1)] 208 rfl rfl rfl (by decide) rfl ?_
        refine Vgoto dX6_endAtom_208 168 (by decide) ?_
        refine Vlv [1, 2, 0] rfl ?_
        exact ih (y3 + 1) u12.2 (i + 1) (cnt_s hc) (cnt_lt hc (by assumption) (K := 8) (by decide) (by decide) hi) (by omega) (by first | exact hwU | exact hw.mono (by omega)) hk
def l_X6_endAtom_121 : Nat → Int32 → mS → Int32 → Int32 × mS
  | 0, y3, σ, _ => (y3, σ)
  | n + 1, y3, σ, x1 => (if (4 : Int32) ≤ y3 then (y3, σ) else (l_X6_endAtom_121 n (y3 + 1) (st2 σ 65 (((4 : Int32) * x1) + y3).toNatClampNeg (σ 76 (((4 : Int32) * x1) + y3).toNatClampNeg)) x1))
set_option maxRecDepth 100000 in
set_option maxHeartbeats 4000000 in
theorem vl_X6_endAtom_121 (l : Launch) {G : gT} (X : xT) (hF : FullR G) (x1 : Int32) (ht : vp_in x1 3) {B : Int32 × mS → Int32 × mS} : ∀ (n : Nat) (y3 : Int32) (σ : mS) (i : Nat) (hc : y3 = nI i) (hi : i ≤ 4) (hn : n + i = 5) (hk : ∀ u : Int32 × mS, V l G X RX6 cX6_endAtom 5 2 (some .int) κI ((fun v => ap B v) u) u.2 152 [(0, .ref (ad G 53)), (1, .int x1), (3, .int u.1)] []), V l G X RX6 cX6_endAtom 5 2 (some .int) κI ((fun v => ap B v) (l_X6_endAtom_121 n y3 σ x1)) σ 121 [(0, .ref (ad G 53)), (1, .int x1), (3, .int y3)] [] := by
  intro n
  induction n with
  | zero => intro y3 σ i hc hi hn hk; exact absurd hn (by omega)
  | succ n ih =>
    intro y3 σ i hc hi hn hk
    rw [l_X6_endAtom_121.eq_2]
    refine Vload_n dX6_endAtom_121 2 rfl 122 rfl ?_
    refine Viconst dX6_endAtom_122 (4 : Int32) (by decide) 123 rfl ?_
    refine Vicge (fun v => ap B v) dX6_endAtom_123 152 126 (by decide) rfl (fun h15 => ?_) (fun h15 => ?_)
    · refine Vlv [0, 1, 2] rfl ?_
      exact hk (y3, σ) 
    · refine Vaload_n dX6_endAtom_126 0 rfl 127 rfl ?_
      refine Vget (53) 12 dX6_endAtom_127 130 rfl (hF.1 53 (by decide)) wk53 rfl inX6 (by decide) wd_fl_RX6_44 (v := .ref (ad G 65)) rfl ?_
      refine Viconst dX6_endAtom_130 (4 : Int32) (by decide) 131 rfl ?_
      refine Vload_n dX6_endAtom_131 1 rfl 132 rfl ?_
      refine Vimul dX6_endAtom_132 133 rfl ?_
      refine Vload_n dX6_endAtom_133 2 rfl 134 rfl ?_
      refine Viadd dX6_endAtom_134 135 rfl ?_
      refine Vaload_n dX6_endAtom_135 0 rfl 136 rfl ?_
      refine Vget (53) 23 dX6_endAtom_136 139 rfl (hF.1 53 (by decide)) wk53 rfl inX6 (by decide) wd_fl_RX6_77 (v := .ref (ad G 76)) rfl ?_
      refine Viconst dX6_endAtom_139 (4 : Int32) (by decide) 140 rfl ?_
      refine Vload_n dX6_endAtom_140 1 rfl 141 rfl ?_
      refine Vimul dX6_endAtom_141 142 rfl ?_
      refine Vload_n dX6_endAtom_142 2 rfl 143 rfl ?_
      refine Viadd dX6_endAtom_143 144 rfl ?_
      refine Vld dX6_endAtom_144 145 rfl (hF.1 76 (by decide)) wk76 wn76 hF.2.1 (by first | exact (vmul 4 3 (by decide) (by assumption) (by assumption) (by decide)) | exact (vmul 4 3 (by decide) (vin_w (by assumption) (by decide)) (by assumption) (by decide)) | exact (vmul 4 3 (by decide) (by assumption) (vin_cnt (by assumption) (by assumption) (by decide) (by decide) (by assumption)) (by decide)) | exact (vmul 4 3 (by decide) (vin_w (by assumption) (by decide)) (vin_cnt (by assumption) (by assumption) (by decide) (by decide) (by assumption)) (by decide)) | exact (vmul 4 3 (by decide) (by assumption) (vin_mRegister (by assumption)) (by decide)) | exact (vmul 4 3 (by decide) (vin_w (by assumption) (by decide)) (vin_mRegister (by assumption)) (by decide))) ?_
      refine Vst dX6_endAtom_145 146 rfl (hF.1 65 (by decide)) wk65 wn65 hF.2.1 (by first | exact (vmul 4 3 (by decide) (by assumption) (by assumption) (by decide)) | exact (vmul 4 3 (by decide) (vin_w (by assumption) (by decide)) (by assumption) (by decide)) | exact (vmul 4 3 (by decide) (by assumption) (vin_cnt (by assumption) (by assumption) (by decide) (by decide) (by assumption)) (by decide)) | exact (vmul 4 3 (by decide) (vin_w (by assumption) (by decide)) (vin_cnt (by assumption) (by assumption) (by decide) (by decide) (by assumption)) (by decide)) | exact (vmul 4 3 (by decide) (by assumption) (vin_mRegister (by assumption)) (by decide)) | exact (vmul 4 3 (by decide) (vin_w (by assumption) (by decide)) (vin_mRegister (by assumption)) (by decide))) ?_
      refine Viinc dX6_endAtom_146 (y3 + 1) 2 [(3, .int (y3 + 1)), (0, .ref (ad G 53)), (1, .int x1)] 149 rfl rfl rfl (by decide) rfl ?_
      refine Vgoto dX6_endAtom_149 121 (by decide) ?_
      refine Vlv [1, 2, 0] rfl ?_
      exact ih (y3 + 1) (st2 σ 65 (((4 : Int32) * x1) + y3).toNatClampNeg (σ 76 (((4 : Int32) * x1) + y3).toNatClampNeg)) (i + 1) (cnt_s hc) (cnt_lt hc (by assumption) (K := 4) (by decide) (by decide) hi) (by omega) hk
def f_X6_endAtom (σ : mS) (x1 : Int32) : Int32 × mS := (if (σ 73 x1.toNatClampNeg) = 0 then ((0 : Int32), (st2 σ 53 32 (5 : Int32))) else (if (σ 71 x1.toNatClampNeg) ≤ (σ 74 x1.toNatClampNeg) then (ap (fun u8 => (if u8.1 = 0 then (ap (fun u14 => (ap (fun u16 => ((u16.2 75 x1.toNatClampNeg), u16.2)) (l_X6_endAtom_121 5 (0 : Int32) u14.2 x1))) (f_X6_clearAtom (st2 σ 70 x1.toNatClampNeg ((σ 70 x1.toNatClampNeg) + (1 : Int32))) x1)) else (ap (fun u13 => (((u13.2 66 x1.toNatClampNeg) + (1 : Int32)), u13.2)) (l_X6_endAtom_168 9 (0 : Int32) (st2 σ 73 x1.toNatClampNeg (0 : Int32)) x1)))) (l_X6_endAtom_35 9 (1 : Int32) (0 : Int32) σ x1)) else ((0 : Int32), (st2 σ 53 32 (5 : Int32)))))
theorem mw_X6_endAtom : mW yX6_endAtom cX6_endAtom 5 (some .int) 1 := ⟨wd_co_yX6_endAtom, wd_ini_RX6, ⟨by decide, by decide⟩, by decide +kernel, by decide⟩
set_option maxRecDepth 100000 in
set_option maxHeartbeats 4000000 in
theorem c_X6_endAtom (l : Launch) {G : gT} (hF : FullR G) (σ : mS) (x1 : Int32) (ht : vp_in x1 3) (b : Nat) (hw : Wr σ b) (hb : b < 2 ^ 29) : Ct l G yX6_endAtom cX6_endAtom 5 (some .int) 2 [.ref (ad G 53), .int x1] κI σ (f_X6_endAtom σ x1) := by
  refine Ct.ofV [(0, .ref (ad G 53)), (1, .int x1)] rfl (by decide) (Nat.le_of_ble_eq_true rfl) rfl (fun X => ?_)
  unfold f_X6_endAtom
  refine Vaload_n dX6_endAtom_0 0 rfl 1 rfl ?_
  refine Vget (53) 20 dX6_endAtom_1 4 rfl (hF.1 53 (by decide)) wk53 rfl inX6 (by decide) wd_fl_RX6_68 (v := .ref (ad G 73)) rfl ?_
  refine Vload_n dX6_endAtom_4 1 rfl 5 rfl ?_
  refine Vldz dX6_endAtom_5 6 rfl (hF.1 73 (by decide)) wk73 wn73 hF.2.2.1 (by first | exact (by assumption) | exact (vin_cmp2 (by assumption) (by assumption) (by decide)) | exact (vin_cell (by assumption)) | exact (vin_reg (by assumption)) | exact (vin_row (by assumption)) | exact (vin_cnt (by assumption) (by assumption) (by decide) (by decide) (by assumption)) | exact (vin_cmp (by assumption) (by assumption) (by decide)) | exact (vp_in_iff.mpr (by decide)) | exact (vin_mCell (by assumption)) | exact (vin_mRegister (by assumption)) | exact (vin_w (by assumption) (by decide))) ?_
  refine Vifeq (fun v => v) dX6_endAtom_6 24 9 (by decide) rfl (fun h1 => ?_) (fun h1 => ?_)
  · refine Vaload_n dX6_endAtom_24 0 rfl 25 rfl ?_
    refine Viconst dX6_endAtom_25 (5 : Int32) (by decide) 26 rfl ?_
    refine Vput (53) 32 tyX6 dX6_endAtom_26 29 rfl (hF.1 53 (by decide)) wk53 rfl inX6 tyX6_ok nmX6 (by decide) wd_fl_RX6_133 rfl (ty := .int) (by decide +kernel) rfl rfl (fun f => rfl) (fun f => Nat.le_of_ble_eq_true rfl) ?_
    refine Viconst dX6_endAtom_29 (0 : Int32) (by decide) 30 rfl ?_
    exact Viret dX6_endAtom_30
  · refine Vaload_n dX6_endAtom_9 0 rfl 10 rfl ?_
    refine Vget (53) 18 dX6_endAtom_10 13 rfl (hF.1 53 (by decide)) wk53 rfl inX6 (by decide) wd_fl_RX6_62 (v := .ref (ad G 71)) rfl ?_
    refine Vload_n dX6_endAtom_13 1 rfl 14 rfl ?_
    refine Vld dX6_endAtom_14 15 rfl (hF.1 71 (by decide)) wk71 wn71 hF.2.1 (by first | exact (by assumption) | exact (vin_cmp2 (by assumption) (by assumption) (by decide)) | exact (vin_cell (by assumption)) | exact (vin_reg (by assumption)) | exact (vin_row (by assumption)) | exact (vin_cnt (by assumption) (by assumption) (by decide) (by decide) (by assumption)) | exact (vin_cmp (by assumption) (by assumption) (by decide)) | exact (vp_in_iff.mpr (by decide)) | exact (vin_mCell (by assumption)) | exact (vin_mRegister (by assumption)) | exact (vin_w (by assumption) (by decide))) ?_
    refine Vaload_n dX6_endAtom_15 0 rfl 16 rfl ?_
    refine Vget (53) 21 dX6_endAtom_16 19 rfl (hF.1 53 (by decide)) wk53 rfl inX6 (by decide) wd_fl_RX6_71 (v := .ref (ad G 74)) rfl ?_
    refine Vload_n dX6_endAtom_19 1 rfl 20 rfl ?_
    refine Vld dX6_endAtom_20 21 rfl (hF.1 74 (by decide)) wk74 wn74 hF.2.1 (by first | exact (by assumption) | exact (vin_cmp2 (by assumption) (by assumption) (by decide)) | exact (vin_cell (by assumption)) | exact (vin_reg (by assumption)) | exact (vin_row (by assumption)) | exact (vin_cnt (by assumption) (by assumption) (by decide) (by decide) (by assumption)) | exact (vin_cmp (by assumption) (by assumption) (by decide)) | exact (vp_in_iff.mpr (by decide)) | exact (vin_mCell (by assumption)) | exact (vin_mRegister (by assumption)) | exact (vin_w (by assumption) (by decide))) ?_
    refine Vicle (fun v => v) dX6_endAtom_21 31 24 (by decide) rfl (fun h2 => ?_) (fun h2 => ?_)
    · refine Viconst dX6_endAtom_31 (1 : Int32) (by decide) 32 rfl ?_
      refine Vstore_n dX6_endAtom_32 [(2, .int (1 : Int32)), (0, .ref (ad G 53)), (1, .int x1)] 33 rfl (by decide) rfl ?_
      refine Viconst dX6_endAtom_33 (0 : Int32) (by decide) 34 rfl ?_
      refine Vstore_n dX6_endAtom_34 [(3, .int (0 : Int32)), (2, .int (1 : Int32)), (0, .ref (ad G 53)), (1, .int x1)] 35 rfl (by decide) rfl ?_
      refine Vlv [2, 3, 1, 0] rfl ?_
      refine vl_X6_endAtom_35 l X hF σ x1 ht 9 (1 : Int32) (0 : Int32) 0 nI_0.symm (Nat.zero_le _) rfl ?_
      intro u8
      refine Vap ?_
      refine Vload_n dX6_endAtom_100 2 rfl 101 rfl ?_
      refine Vifne (fun v => v) dX6_endAtom_101 159 104 (by decide) rfl (fun h9 => ?_) (fun h9 => ?_)
      · refine Vaload_n dX6_endAtom_159 0 rfl 160 rfl ?_
        refine Vget (53) 20 dX6_endAtom_160 163 rfl (hF.1 53 (by decide)) wk53 rfl inX6 (by decide) wd_fl_RX6_68 (v := .ref (ad G 73)) rfl ?_
        refine Vload_n dX6_endAtom_163 1 rfl 164 rfl ?_
        refine Viconst dX6_endAtom_164 (0 : Int32) (by decide) 165 rfl ?_
        refine Vstz dX6_endAtom_165 166 rfl (hF.1 73 (by decide)) wk73 wn73 hF.2.2.1 (by first | exact (by assumption) | exact (vin_cmp2 (by assumption) (by assumption) (by decide)) | exact (vin_cell (by assumption)) | exact (vin_reg (by assumption)) | exact (vin_row (by assumption)) | exact (vin_cnt (by assumption) (by assumption) (by decide) (by decide) (by assumption)) | exact (vin_cmp (by assumption) (by assumption) (by decide)) | exact (vp_in_iff.mpr (by decide)) | exact (vin_mCell (by assumption)) | exact (vin_mRegister (by assumption)) | exact (vin_w (by assumption) (by decide))) (by decide) ?_
        refine Viconst dX6_endAtom_166 (0 : Int32) (by decide) 167 rfl ?_
        refine Vstore_n dX6_endAtom_167 [(3, .int (0 : Int32)), (0, .ref (ad G 53)), (1, .int x1), (2, .int u8.1)] 168 rfl (by decide) rfl ?_
        refine Vlv [1, 2, 0] rfl ?_
        refine vl_X6_endAtom_168 l X hF x1 ht b hb 9 (0 : Int32) (st2 σ 73 x1.toNatClampNeg (0 : Int32)) 0 nI_0.symm (Nat.zero_le _) rfl (Wr.o (b := b) hw rfl) ?_
        intro u13
        refine Vap ?_
        refine Vaload_n dX6_endAtom_211 0 rfl 212 rfl ?_
        refine Vget (53) 13 dX6_endAtom_212 215 rfl (hF.1 53 (by decide)) wk53 rfl inX6 (by decide) wd_fl_RX6_47 (v := .ref (ad G 66)) rfl ?_
        refine Vload_n dX6_endAtom_215 1 rfl 216 rfl ?_
        refine Vld dX6_endAtom_216 217 rfl (hF.1 66 (by decide)) wk66 wn66 hF.2.1 (by first | exact (by assumption) | exact (vin_cmp2 (by assumption) (by assumption) (by decide)) | exact (vin_cell (by assumption)) | exact (vin_reg (by assumption)) | exact (vin_row (by assumption)) | exact (vin_cnt (by assumption) (by assumption) (by decide) (by decide) (by assumption)) | exact (vin_cmp (by assumption) (by assumption) (by decide)) | exact (vp_in_iff.mpr (by decide)) | exact (vin_mCell (by assumption)) | exact (vin_mRegister (by assumption)) | exact (vin_w (by assumption) (by decide))) ?_
        refine Viconst dX6_endAtom_217 (1 : Int32) (by decide) 218 rfl ?_
        refine Viadd dX6_endAtom_218 219 rfl ?_
        exact Viret dX6_endAtom_219
      · refine Vaload_n dX6_endAtom_104 0 rfl 105 rfl ?_
        refine Vget (53) 17 dX6_endAtom_105 108 rfl (hF.1 53 (by decide)) wk53 rfl inX6 (by decide) wd_fl_RX6_59 (v := .ref (ad G 70)) rfl ?_
        refine Vload_n dX6_endAtom_108 1 rfl 109 rfl ?_
        refine Vdup2 dX6_endAtom_109 110 rfl ?_
        refine Vld dX6_endAtom_110 111 rfl (hF.1 70 (by decide)) wk70 wn70 hF.2.1 (by first | exact (by assumption) | exact (vin_cmp2 (by assumption) (by assumption) (by decide)) | exact (vin_cell (by assumption)) | exact (vin_reg (by assumption)) | exact (vin_row (by assumption)) | exact (vin_cnt (by assumption) (by assumption) (by decide) (by decide) (by assumption)) | exact (vin_cmp (by assumption) (by assumption) (by decide)) | exact (vp_in_iff.mpr (by decide)) | exact (vin_mCell (by assumption)) | exact (vin_mRegister (by assumption)) | exact (vin_w (by assumption) (by decide))) ?_
        refine Viconst dX6_endAtom_111 (1 : Int32) (by decide) 112 rfl ?_
        refine Viadd dX6_endAtom_112 113 rfl ?_
        refine Vst dX6_endAtom_113 114 rfl (hF.1 70 (by decide)) wk70 wn70 hF.2.1 (by first | exact (by assumption) | exact (vin_cmp2 (by assumption) (by assumption) (by decide)) | exact (vin_cell (by assumption)) | exact (vin_reg (by assumption)) | exact (vin_row (by assumption)) | exact (vin_cnt (by assumption) (by assumption) (by decide) (by decide) (by assumption)) | exact (vin_cmp (by assumption) (by assumption) (by decide)) | exact (vp_in_iff.mpr (by decide)) | exact (vin_mCell (by assumption)) | exact (vin_mRegister (by assumption)) | exact (vin_w (by assumption) (by decide))) ?_
        refine Vaload_n dX6_endAtom_114 0 rfl 115 rfl ?_
        refine Vload_n dX6_endAtom_115 1 rfl 116 rfl ?_
        refine Vgen ?_
        intro u14 eu14
        refine VcVv (u := u14) dX6_endAtom_116 [.int x1] (by rw [eu14]; exact c_X6_clearAtom l hF (st2 σ 70 x1.toNatClampNeg ((σ 70 x1.toNatClampNeg) + (1 : Int32))) x1 (by assumption)) mw_X6_clearAtom wd_im_yX6_clearAtom wd_se_yX6_clearAtom wd_ml_RX6_143 (hF.1 53 (by decide)) wk53 rfl rfl (by decide) rfl rfl (Nat.le_of_ble_eq_true rfl) 119 rfl ?_
        refine Viconst dX6_endAtom_119 (0 : Int32) (by decide) 120 rfl ?_
        refine Vstore_n dX6_endAtom_120 [(3, .int (0 : Int32)), (0, .ref (ad G 53)), (1, .int x1), (2, .int u8.1)] 121 rfl (by decide) rfl ?_
        refine Vlv [1, 2, 0] rfl ?_
        refine vl_X6_endAtom_121 l X hF x1 ht 5 (0 : Int32) u14.2 0 nI_0.symm (Nat.zero_le _) rfl ?_
        intro u16
        refine Vap ?_
        refine Vaload_n dX6_endAtom_152 0 rfl 153 rfl ?_
        refine Vget (53) 22 dX6_endAtom_153 156 rfl (hF.1 53 (by decide)) wk53 rfl inX6 (by decide) wd_fl_RX6_74 (v := .ref (ad G 75)) rfl ?_
        refine Vload_n dX6_endAtom_156 1 rfl 157 rfl ?_
        refine Vld dX6_endAtom_157 158 rfl (hF.1 75 (by decide)) wk75 wn75 hF.2.1 (by first | exact (by assumption) | exact (vin_cmp2 (by assumption) (by assumption) (by decide)) | exact (vin_cell (by assumption)) | exact (vin_reg (by assumption)) | exact (vin_row (by assumption)) | exact (vin_cnt (by assumption) (by assumption) (by decide) (by decide) (by assumption)) | exact (vin_cmp (by assumption) (by assumption) (by decide)) | exact (vp_in_iff.mpr (by decide)) | exact (vin_mCell (by assumption)) | exact (vin_mRegister (by assumption)) | exact (vin_w (by assumption) (by decide))) ?_
        exact Viret dX6_endAtom_158
    · refine Vaload_n dX6_endAtom_24 0 rfl 25 rfl ?_
      refine Viconst dX6_endAtom_25 (5 : Int32) (by decide) 26 rfl ?_
      refine Vput (53) 32 tyX6 dX6_endAtom_26 29 rfl (hF.1 53 (by decide)) wk53 rfl inX6 tyX6_ok nmX6 (by decide) wd_fl_RX6_133 rfl (ty := .int) (by decide +kernel) rfl rfl (fun f => rfl) (fun f => Nat.le_of_ble_eq_true rfl) ?_
      refine Viconst dX6_endAtom_29 (0 : Int32) (by decide) 30 rfl ?_
      exact Viret dX6_endAtom_30
