def l_X0_forget_2 : Nat → Int32 → mS → Nat → Int32 × mS
  | 0, y1, σ, _ => (0, σ)
  | n + 1, y1, σ, q => (if (8 : Int32) ≤ y1 then (0, σ) else (l_X0_forget_2 n (y1 + 1) (st2 (st2 σ (q + 2) y1.toNatClampNeg (0 : Int32)) (q + 4) y1.toNatClampNeg (0 : Int32)) q))
set_option maxRecDepth 100000 in
set_option maxHeartbeats 4000000 in
theorem vl_X0_forget_2 (l : Launch) {G : gT} (X : xT) (hF : Full G) (q : Nat) (hq : aQ q) : ∀ (n : Nat) (y1 : Int32) (σ : mS) (i : Nat) (hc : y1 = nI i) (hi : i ≤ 8) (hn : n + i = 9), V l G X RX0 cX0_forget 2 0 none κV ((fun v => v) (l_X0_forget_2 n y1 σ q)) σ 2 [(0, .ref (ad G q)), (1, .int y1)] [] := by
  intro n
  induction n with
  | zero => intro y1 σ i hc hi hn; exact absurd hn (by omega)
  | succ n ih =>
    intro y1 σ i hc hi hn
    rw [l_X0_forget_2.eq_2]
    refine Vload_n dX0_forget_2 1 rfl 3 rfl ?_
    refine Vbipush dX0_forget_3 (8 : Int32) (by decide) 5 rfl ?_
    refine Vicge (fun v => v) dX0_forget_5 28 8 (by decide) rfl (fun h1 => ?_) (fun h1 => ?_)
    · exact Vvret dX0_forget_28
    · refine Vaload_n dX0_forget_8 0 rfl 9 rfl ?_
      refine Vget (q) 4 dX0_forget_9 12 rfl (aI_ hF hq 0 (by decide)) (ak0 hq) rfl inX0 (by decide) wd_fl_RX0_15 (v := .ref (ad G (q + 2))) rfl ?_
      refine Vload_n dX0_forget_12 1 rfl 13 rfl ?_
      refine Viconst dX0_forget_13 (0 : Int32) (by decide) 14 rfl ?_
      refine Vstz dX0_forget_14 15 rfl (aI_ hF hq 2 (by decide)) (ak2 hq) (an2 hq) hF.2.2.1 (by first | exact (by assumption) | exact (vin_cmp2 (by assumption) (by assumption) (by decide)) | exact (vin_cell (by assumption)) | exact (vin_reg (by assumption)) | exact (vin_row (by assumption)) | exact (vin_cnt (by assumption) (by assumption) (by decide) (by decide) (by assumption)) | exact (vin_cmp (by assumption) (by assumption) (by decide)) | exact (vp_in_iff.mpr (by decide))) (by decide) ?_
      refine Vaload_n dX0_forget_15 0 rfl 16 rfl ?_
      refine Vget (q) 6 dX0_forget_16 19 rfl (aI_ hF hq 0 (by decide)) (ak0 hq) rfl inX0 (by decide) wd_fl_RX0_22 (v := .ref (ad G (q + 4))) rfl ?_
      refine Vload_n dX0_forget_19 1 rfl 20 rfl ?_
      refine Viconst dX0_forget_20 (0 : Int32) (by decide) 21 rfl ?_
      refine Vstz dX0_forget_21 22 rfl (aI_ hF hq 4 (by decide)) (ak4 hq) (an4 hq) hF.2.2.1 (by first | exact (by assumption) | exact (vin_cmp2 (by assumption) (by assumption) (by decide)) | exact (vin_cell (by assumption)) | exact (vin_reg (by assumption)) | exact (vin_row (by assumption)) | exact (vin_cnt (by assumption) (by assumption) (by decide) (by decide) (by assumption)) | exact (vin_cmp (by assumption) (by assumption) (by decide)) | exact (vp_in_iff.mpr (by decide))) (by decide) ?_
      refine Viinc dX0_forget_22 (y1 + 1) 1 [(1, .int (y1 + 1)), (0, .ref (ad G q))] 25 rfl rfl rfl (by decide) rfl ?_
      refine Vgoto dX0_forget_25 2 (by decide) ?_
      refine Vlv [1, 0] rfl ?_
      exact ih (y1 + 1) (st2 (st2 σ (q + 2) y1.toNatClampNeg (0 : Int32)) (q + 4) y1.toNatClampNeg (0 : Int32)) (i + 1) (cnt_s hc) (cnt_lt hc (by assumption) (K := 8) (by decide) (by decide) hi) (by omega)
def f_X0_forget (σ : mS) (q : Nat) : Int32 × mS := (l_X0_forget_2 9 (0 : Int32) σ q)
theorem mw_X0_forget : mW yX0_forget cX0_forget 2 none 0 := ⟨wd_co_yX0_forget, wd_ini_RX0, ⟨by decide, by decide⟩, by decide +kernel, by decide⟩
set_option maxRecDepth 100000 in
set_option maxHeartbeats 4000000 in
theorem c_X0_forget (l : Launch) {G : gT} (hF : Full G) (σ : mS) (q : Nat) (hq : aQ q) : Ct l G yX0_forget cX0_forget 2 none 0 [.ref (ad G q)] κV σ (f_X0_forget σ q) := by
  refine Ct.ofV [(0, .ref (ad G q))] rfl (by decide) (Nat.le_of_ble_eq_true rfl) rfl (fun X => ?_)
  unfold f_X0_forget
  refine Viconst dX0_forget_0 (0 : Int32) (by decide) 1 rfl ?_
  refine Vstore_n dX0_forget_1 [(1, .int (0 : Int32)), (0, .ref (ad G q))] 2 rfl (by decide) rfl ?_
  refine Vlv [1, 0] rfl ?_
  exact vl_X0_forget_2 l X hF q hq 9 (0 : Int32) σ 0 nI_0.symm (Nat.zero_le _) rfl
def f_X5_isCell (x0 : Int32) : Int32 := (if x0 < 0 then (0 : Int32) else (if (8 : Int32) ≤ x0 then (0 : Int32) else (1 : Int32)))
theorem mw_X5_isCell : mW yX5_isCell cX5_isCell 1 (some .boolean) 1 := ⟨wd_co_yX5_isCell, wd_ini_RX5, ⟨by decide, by decide⟩, by decide +kernel, by decide⟩
set_option maxRecDepth 100000 in
set_option maxHeartbeats 4000000 in
theorem c_X5_isCell (l : Launch) {G : gT} (hF : Full G) (σ : mS) (x0 : Int32)  : Ct l G yX5_isCell cX5_isCell 1 (some .boolean) 0 [.int x0] κI σ (f_X5_isCell x0, σ) := by
  refine Ct.ofV [(0, .int x0)] rfl (by decide) (Nat.le_of_ble_eq_true rfl) rfl (fun X => ?_)
  unfold f_X5_isCell
  refine Vload_n dX5_isCell_0 0 rfl 1 rfl ?_
  refine Viflt (fun v => (v, σ)) dX5_isCell_1 14 4 (by decide) rfl (fun h1 => ?_) (fun h1 => ?_)
  · refine Viconst dX5_isCell_14 (0 : Int32) (by decide) 15 rfl ?_
    exact Vzret dX5_isCell_15 (by first | decide | exact nb_isRegister _ | exact nb_isRow _ | exact nb_isPlace _ | exact nb_within _ _ _ | exact nb_mRegister _ | exact nb_mCell _ | exact nb_mPlace _)
  · refine Vload_n dX5_isCell_4 0 rfl 5 rfl ?_
    refine Vbipush dX5_isCell_5 (8 : Int32) (by decide) 7 rfl ?_
    refine Vicge (fun v => (v, σ)) dX5_isCell_7 14 10 (by decide) rfl (fun h2 => ?_) (fun h2 => ?_)
    · refine Viconst dX5_isCell_14 (0 : Int32) (by decide) 15 rfl ?_
      exact Vzret dX5_isCell_15 (by first | decide | exact nb_isRegister _ | exact nb_isRow _ | exact nb_isPlace _ | exact nb_within _ _ _ | exact nb_mRegister _ | exact nb_mCell _ | exact nb_mPlace _)
    · refine Viconst dX5_isCell_10 (1 : Int32) (by decide) 11 rfl ?_
      refine Vgoto dX5_isCell_11 15 (by decide) ?_
      exact Vzret dX5_isCell_15 (by first | decide | exact nb_isRegister _ | exact nb_isRow _ | exact nb_isPlace _ | exact nb_within _ _ _ | exact nb_mRegister _ | exact nb_mCell _ | exact nb_mPlace _)
theorem vin_cell {x : Int32} (h : ¬ f_X5_isCell x = 0) : vp_in x 8 := by
  unfold f_X5_isCell at h
  by_cases h1 : x < 0
  · rw [if_pos h1] at h; exact absurd rfl h
  · rw [if_neg h1] at h
    by_cases h2 : (8 : Int32) ≤ x
    · rw [if_pos h2] at h; exact absurd rfl h
    · exact vin_cmp h1 h2 (by decide)
def f_X0_hasPut (σ : mS) (q : Nat) (x1 : Int32) : Int32 := (if (f_X5_isCell x1) = 0 then (0 : Int32) else (if (σ (q + 2) x1.toNatClampNeg) = 0 then (0 : Int32) else (1 : Int32)))
theorem mw_X0_hasPut : mW yX0_hasPut cX0_hasPut 2 (some .boolean) 1 := ⟨wd_co_yX0_hasPut, wd_ini_RX0, ⟨by decide, by decide⟩, by decide +kernel, by decide⟩
set_option maxRecDepth 100000 in
set_option maxHeartbeats 4000000 in
theorem c_X0_hasPut (l : Launch) {G : gT} (hF : Full G) (σ : mS) (q : Nat) (x1 : Int32) (hq : aQ q) : Ct l G yX0_hasPut cX0_hasPut 2 (some .boolean) 1 [.ref (ad G q), .int x1] κI σ (f_X0_hasPut σ q x1, σ) := by
  refine Ct.ofV [(0, .ref (ad G q)), (1, .int x1)] rfl (by decide) (Nat.le_of_ble_eq_true rfl) rfl (fun X => ?_)
  unfold f_X0_hasPut
  refine Vload_n dX0_hasPut_0 1 rfl 1 rfl ?_
  refine VcSNp dX0_hasPut_1 [.int x1] (c_X5_isCell l hF σ x1) mw_X5_isCell wd_sm_yX5_isCell wd_nml_RX0_28 (by decide) rfl rfl (Nat.le_of_ble_eq_true rfl) 4 rfl ?_
  refine Vifeq (fun v => (v, σ)) dX0_hasPut_4 20 7 (by decide) rfl (fun h1 => ?_) (fun h1 => ?_)
  · refine Viconst dX0_hasPut_20 (0 : Int32) (by decide) 21 rfl ?_
    exact Vzret dX0_hasPut_21 (by first | decide | exact nb_isRegister _ | exact nb_isRow _ | exact nb_isPlace _ | exact nb_within _ _ _ | exact nb_mRegister _ | exact nb_mCell _ | exact nb_mPlace _)
  · refine Vaload_n dX0_hasPut_7 0 rfl 8 rfl ?_
    refine Vget (q) 4 dX0_hasPut_8 11 rfl (aI_ hF hq 0 (by decide)) (ak0 hq) rfl inX0 (by decide) wd_fl_RX0_15 (v := .ref (ad G (q + 2))) rfl ?_
    refine Vload_n dX0_hasPut_11 1 rfl 12 rfl ?_
    refine Vldz dX0_hasPut_12 13 rfl (aI_ hF hq 2 (by decide)) (ak2 hq) (an2 hq) hF.2.2.1 (by first | exact (by assumption) | exact (vin_cmp2 (by assumption) (by assumption) (by decide)) | exact (vin_cell (by assumption)) | exact (vin_reg (by assumption)) | exact (vin_row (by assumption)) | exact (vin_cnt (by assumption) (by assumption) (by decide) (by decide) (by assumption)) | exact (vin_cmp (by assumption) (by assumption) (by decide)) | exact (vp_in_iff.mpr (by decide))) ?_
    refine Vifeq (fun v => (v, σ)) dX0_hasPut_13 20 16 (by decide) rfl (fun h2 => ?_) (fun h2 => ?_)
    · refine Viconst dX0_hasPut_20 (0 : Int32) (by decide) 21 rfl ?_
      exact Vzret dX0_hasPut_21 (by first | decide | exact nb_isRegister _ | exact nb_isRow _ | exact nb_isPlace _ | exact nb_within _ _ _ | exact nb_mRegister _ | exact nb_mCell _ | exact nb_mPlace _)
    · refine Viconst dX0_hasPut_16 (1 : Int32) (by decide) 17 rfl ?_
      refine Vgoto dX0_hasPut_17 21 (by decide) ?_
      exact Vzret dX0_hasPut_21 (by first | decide | exact nb_isRegister _ | exact nb_isRow _ | exact nb_isPlace _ | exact nb_within _ _ _ | exact nb_mRegister _ | exact nb_mCell _ | exact nb_mPlace _)
def f_X0_putNumber (σ : mS) (q : Nat) (x1 : Int32) : Int32 := (if (f_X5_isCell x1) = 0 then (0 : Int32) else (σ (q + 3) x1.toNatClampNeg))
theorem mw_X0_putNumber : mW yX0_putNumber cX0_putNumber 2 (some .int) 1 := ⟨wd_co_yX0_putNumber, wd_ini_RX0, ⟨by decide, by decide⟩, by decide +kernel, by decide⟩
set_option maxRecDepth 100000 in
set_option maxHeartbeats 4000000 in
theorem c_X0_putNumber (l : Launch) {G : gT} (hF : Full G) (σ : mS) (q : Nat) (x1 : Int32) (hq : aQ q) : Ct l G yX0_putNumber cX0_putNumber 2 (some .int) 1 [.ref (ad G q), .int x1] κI σ (f_X0_putNumber σ q x1, σ) := by
  refine Ct.ofV [(0, .ref (ad G q)), (1, .int x1)] rfl (by decide) (Nat.le_of_ble_eq_true rfl) rfl (fun X => ?_)
  unfold f_X0_putNumber
  refine Vload_n dX0_putNumber_0 1 rfl 1 rfl ?_
  refine VcSNp dX0_putNumber_1 [.int x1] (c_X5_isCell l hF σ x1) mw_X5_isCell wd_sm_yX5_isCell wd_nml_RX0_28 (by decide) rfl rfl (Nat.le_of_ble_eq_true rfl) 4 rfl ?_
  refine Vifeq (fun v => (v, σ)) dX0_putNumber_4 16 7 (by decide) rfl (fun h1 => ?_) (fun h1 => ?_)
  · refine Viconst dX0_putNumber_16 (0 : Int32) (by decide) 17 rfl ?_
    exact Viret dX0_putNumber_17
  · refine Vaload_n dX0_putNumber_7 0 rfl 8 rfl ?_
    refine Vget (q) 5 dX0_putNumber_8 11 rfl (aI_ hF hq 0 (by decide)) (ak0 hq) rfl inX0 (by decide) wd_fl_RX0_19 (v := .ref (ad G (q + 3))) rfl ?_
    refine Vload_n dX0_putNumber_11 1 rfl 12 rfl ?_
    refine Vld dX0_putNumber_12 13 rfl (aI_ hF hq 3 (by decide)) (ak3 hq) (an3 hq) hF.2.1 (by first | exact (by assumption) | exact (vin_cmp2 (by assumption) (by assumption) (by decide)) | exact (vin_cell (by assumption)) | exact (vin_reg (by assumption)) | exact (vin_row (by assumption)) | exact (vin_cnt (by assumption) (by assumption) (by decide) (by decide) (by assumption)) | exact (vin_cmp (by assumption) (by assumption) (by decide)) | exact (vp_in_iff.mpr (by decide))) ?_
    refine Vgoto dX0_putNumber_13 17 (by decide) ?_
    exact Viret dX0_putNumber_17
def f_X0_notePut (σ : mS) (q : Nat) (x1 : Int32) (x2 : Int32) : Int32 × mS := (if (f_X5_isCell x1) = 0 then (0, σ) else (0, (st2 (st2 σ (q + 2) x1.toNatClampNeg (1 : Int32)) (q + 3) x1.toNatClampNeg x2)))
theorem mw_X0_notePut : mW yX0_notePut cX0_notePut 3 none 2 := ⟨wd_co_yX0_notePut, wd_ini_RX0, ⟨by decide, by decide⟩, by decide +kernel, by decide⟩
set_option maxRecDepth 100000 in
set_option maxHeartbeats 4000000 in
theorem c_X0_notePut (l : Launch) {G : gT} (hF : Full G) (σ : mS) (q : Nat) (x1 : Int32) (x2 : Int32) (hq : aQ q) : Ct l G yX0_notePut cX0_notePut 3 none 1 [.ref (ad G q), .int x1, .int x2] κV σ (f_X0_notePut σ q x1 x2) := by
  refine Ct.ofV [(0, .ref (ad G q)), (1, .int x1), (2, .int x2)] rfl (by decide) (Nat.le_of_ble_eq_true rfl) rfl (fun X => ?_)
  unfold f_X0_notePut
  refine Vload_n dX0_notePut_0 1 rfl 1 rfl ?_
  refine VcSNp dX0_notePut_1 [.int x1] (c_X5_isCell l hF σ x1) mw_X5_isCell wd_sm_yX5_isCell wd_nml_RX0_28 (by decide) rfl rfl (Nat.le_of_ble_eq_true rfl) 4 rfl ?_
  refine Vifeq (fun v => v) dX0_notePut_4 21 7 (by decide) rfl (fun h1 => ?_) (fun h1 => ?_)
  · exact Vvret dX0_notePut_21
  · refine Vaload_n dX0_notePut_7 0 rfl 8 rfl ?_
    refine Vget (q) 4 dX0_notePut_8 11 rfl (aI_ hF hq 0 (by decide)) (ak0 hq) rfl inX0 (by decide) wd_fl_RX0_15 (v := .ref (ad G (q + 2))) rfl ?_
    refine Vload_n dX0_notePut_11 1 rfl 12 rfl ?_
    refine Viconst dX0_notePut_12 (1 : Int32) (by decide) 13 rfl ?_
    refine Vstz dX0_notePut_13 14 rfl (aI_ hF hq 2 (by decide)) (ak2 hq) (an2 hq) hF.2.2.1 (by first | exact (by assumption) | exact (vin_cmp2 (by assumption) (by assumption) (by decide)) | exact (vin_cell (by assumption)) | exact (vin_reg (by assumption)) | exact (vin_row (by assumption)) | exact (vin_cnt (by assumption) (by assumption) (by decide) (by decide) (by assumption)) | exact (vin_cmp (by assumption) (by assumption) (by decide)) | exact (vp_in_iff.mpr (by decide))) (by decide) ?_
    refine Vaload_n dX0_notePut_14 0 rfl 15 rfl ?_
    refine Vget (q) 5 dX0_notePut_15 18 rfl (aI_ hF hq 0 (by decide)) (ak0 hq) rfl inX0 (by decide) wd_fl_RX0_19 (v := .ref (ad G (q + 3))) rfl ?_
    refine Vload_n dX0_notePut_18 1 rfl 19 rfl ?_
    refine Vload_n dX0_notePut_19 2 rfl 20 rfl ?_
    refine Vst dX0_notePut_20 21 rfl (aI_ hF hq 3 (by decide)) (ak3 hq) (an3 hq) hF.2.1 (by first | exact (by assumption) | exact (vin_cmp2 (by assumption) (by assumption) (by decide)) | exact (vin_cell (by assumption)) | exact (vin_reg (by assumption)) | exact (vin_row (by assumption)) | exact (vin_cnt (by assumption) (by assumption) (by decide) (by decide) (by assumption)) | exact (vin_cmp (by assumption) (by assumption) (by decide)) | exact (vp_in_iff.mpr (by decide))) ?_
    exact Vvret dX0_notePut_21
def f_X0_hasRead (σ : mS) (q : Nat) (x1 : Int32) : Int32 := (if (f_X5_isCell x1) = 0 then (0 : Int32) else (if (σ (q + 4) x1.toNatClampNeg) = 0 then (0 : Int32) else (1 : Int32)))
theorem mw_X0_hasRead : mW yX0_hasRead cX0_hasRead 2 (some .boolean) 1 := ⟨wd_co_yX0_hasRead, wd_ini_RX0, ⟨by decide, by decide⟩, by decide +kernel, by decide⟩
set_option maxRecDepth 100000 in
set_option maxHeartbeats 4000000 in
theorem c_X0_hasRead (l : Launch) {G : gT} (hF : Full G) (σ : mS) (q : Nat) (x1 : Int32) (hq : aQ q) : Ct l G yX0_hasRead cX0_hasRead 2 (some .boolean) 1 [.ref (ad G q), .int x1] κI σ (f_X0_hasRead σ q x1, σ) := by
  refine Ct.ofV [(0, .ref (ad G q)), (1, .int x1)] rfl (by decide) (Nat.le_of_ble_eq_true rfl) rfl (fun X => ?_)
  unfold f_X0_hasRead
  refine Vload_n dX0_hasRead_0 1 rfl 1 rfl ?_
  refine VcSNp dX0_hasRead_1 [.int x1] (c_X5_isCell l hF σ x1) mw_X5_isCell wd_sm_yX5_isCell wd_nml_RX0_28 (by decide) rfl rfl (Nat.le_of_ble_eq_true rfl) 4 rfl ?_
  refine Vifeq (fun v => (v, σ)) dX0_hasRead_4 20 7 (by decide) rfl (fun h1 => ?_) (fun h1 => ?_)
  · refine Viconst dX0_hasRead_20 (0 : Int32) (by decide) 21 rfl ?_
    exact Vzret dX0_hasRead_21 (by first | decide | exact nb_isRegister _ | exact nb_isRow _ | exact nb_isPlace _ | exact nb_within _ _ _ | exact nb_mRegister _ | exact nb_mCell _ | exact nb_mPlace _)
  · refine Vaload_n dX0_hasRead_7 0 rfl 8 rfl ?_
    refine Vget (q) 6 dX0_hasRead_8 11 rfl (aI_ hF hq 0 (by decide)) (ak0 hq) rfl inX0 (by decide) wd_fl_RX0_22 (v := .ref (ad G (q + 4))) rfl ?_
    refine Vload_n dX0_hasRead_11 1 rfl 12 rfl ?_
    refine Vldz dX0_hasRead_12 13 rfl (aI_ hF hq 4 (by decide)) (ak4 hq) (an4 hq) hF.2.2.1 (by first | exact (by assumption) | exact (vin_cmp2 (by assumption) (by assumption) (by decide)) | exact (vin_cell (by assumption)) | exact (vin_reg (by assumption)) | exact (vin_row (by assumption)) | exact (vin_cnt (by assumption) (by assumption) (by decide) (by decide) (by assumption)) | exact (vin_cmp (by assumption) (by assumption) (by decide)) | exact (vp_in_iff.mpr (by decide))) ?_
    refine Vifeq (fun v => (v, σ)) dX0_hasRead_13 20 16 (by decide) rfl (fun h2 => ?_) (fun h2 => ?_)
    · refine Viconst dX0_hasRead_20 (0 : Int32) (by decide) 21 rfl ?_
      exact Vzret dX0_hasRead_21 (by first | decide | exact nb_isRegister _ | exact nb_isRow _ | exact nb_isPlace _ | exact nb_within _ _ _ | exact nb_mRegister _ | exact nb_mCell _ | exact nb_mPlace _)
    · refine Viconst dX0_hasRead_16 (1 : Int32) (by decide) 17 rfl ?_
      refine Vgoto dX0_hasRead_17 21 (by decide) ?_
      exact Vzret dX0_hasRead_21 (by first | decide | exact nb_isRegister _ | exact nb_isRow _ | exact nb_isPlace _ | exact nb_within _ _ _ | exact nb_mRegister _ | exact nb_mCell _ | exact nb_mPlace _)
def f_X0_firstNumber (σ : mS) (q : Nat) (x1 : Int32) : Int32 := (if (f_X5_isCell x1) = 0 then (0 : Int32) else (σ (q + 5) x1.toNatClampNeg))
theorem mw_X0_firstNumber : mW yX0_firstNumber cX0_firstNumber 2 (some .int) 1 := ⟨wd_co_yX0_firstNumber, wd_ini_RX0, ⟨by decide, by decide⟩, by decide +kernel, by decide⟩
set_option maxRecDepth 100000 in
set_option maxHeartbeats 4000000 in
theorem c_X0_firstNumber (l : Launch) {G : gT} (hF : Full G) (σ : mS) (q : Nat) (x1 : Int32) (hq : aQ q) : Ct l G yX0_firstNumber cX0_firstNumber 2 (some .int) 1 [.ref (ad G q), .int x1] κI σ (f_X0_firstNumber σ q x1, σ) := by
  refine Ct.ofV [(0, .ref (ad G q)), (1, .int x1)] rfl (by decide) (Nat.le_of_ble_eq_true rfl) rfl (fun X => ?_)
  unfold f_X0_firstNumber
  refine Vload_n dX0_firstNumber_0 1 rfl 1 rfl ?_
  refine VcSNp dX0_firstNumber_1 [.int x1] (c_X5_isCell l hF σ x1) mw_X5_isCell wd_sm_yX5_isCell wd_nml_RX0_28 (by decide) rfl rfl (Nat.le_of_ble_eq_true rfl) 4 rfl ?_
  refine Vifeq (fun v => (v, σ)) dX0_firstNumber_4 16 7 (by decide) rfl (fun h1 => ?_) (fun h1 => ?_)
  · refine Viconst dX0_firstNumber_16 (0 : Int32) (by decide) 17 rfl ?_
    exact Viret dX0_firstNumber_17
  · refine Vaload_n dX0_firstNumber_7 0 rfl 8 rfl ?_
    refine Vget (q) 7 dX0_firstNumber_8 11 rfl (aI_ hF hq 0 (by decide)) (ak0 hq) rfl inX0 (by decide) wd_fl_RX0_25 (v := .ref (ad G (q + 5))) rfl ?_
    refine Vload_n dX0_firstNumber_11 1 rfl 12 rfl ?_
    refine Vld dX0_firstNumber_12 13 rfl (aI_ hF hq 5 (by decide)) (ak5 hq) (an5 hq) hF.2.1 (by first | exact (by assumption) | exact (vin_cmp2 (by assumption) (by assumption) (by decide)) | exact (vin_cell (by assumption)) | exact (vin_reg (by assumption)) | exact (vin_row (by assumption)) | exact (vin_cnt (by assumption) (by assumption) (by decide) (by decide) (by assumption)) | exact (vin_cmp (by assumption) (by assumption) (by decide)) | exact (vp_in_iff.mpr (by decide))) ?_
    refine Vgoto dX0_firstNumber_13 17 (by decide) ?_
    exact Viret dX0_firstNumber_17
def f_X0_noteReading (σ : mS) (q : Nat) (x1 : Int32) (x2 : Int32) : Int32 × mS := (if (f_X5_isCell x1) = 0 then (0, σ) else (if (σ (q + 4) x1.toNatClampNeg) = 0 then (0, (st2 (st2 σ (q + 4) x1.toNatClampNeg (1 : Int32)) (q + 5) x1.toNatClampNeg x2)) else (0, σ)))
theorem mw_X0_noteReading : mW yX0_noteReading cX0_noteReading 3 none 2 := ⟨wd_co_yX0_noteReading, wd_ini_RX0, ⟨by decide, by decide⟩, by decide +kernel, by decide⟩
set_option maxRecDepth 100000 in
set_option maxHeartbeats 4000000 in
theorem c_X0_noteReading (l : Launch) {G : gT} (hF : Full G) (σ : mS) (q : Nat) (x1 : Int32) (x2 : Int32) (hq : aQ q) : Ct l G yX0_noteReading cX0_noteReading 3 none 1 [.ref (ad G q), .int x1, .int x2] κV σ (f_X0_noteReading σ q x1 x2) := by
  refine Ct.ofV [(0, .ref (ad G q)), (1, .int x1), (2, .int x2)] rfl (by decide) (Nat.le_of_ble_eq_true rfl) rfl (fun X => ?_)
  unfold f_X0_noteReading
  refine Vload_n dX0_noteReading_0 1 rfl 1 rfl ?_
  refine VcSNp dX0_noteReading_1 [.int x1] (c_X5_isCell l hF σ x1) mw_X5_isCell wd_sm_yX5_isCell wd_nml_RX0_28 (by decide) rfl rfl (Nat.le_of_ble_eq_true rfl) 4 rfl ?_
  refine Vifeq (fun v => v) dX0_noteReading_4 30 7 (by decide) rfl (fun h1 => ?_) (fun h1 => ?_)
  · exact Vvret dX0_noteReading_30
  · refine Vaload_n dX0_noteReading_7 0 rfl 8 rfl ?_
    refine Vget (q) 6 dX0_noteReading_8 11 rfl (aI_ hF hq 0 (by decide)) (ak0 hq) rfl inX0 (by decide) wd_fl_RX0_22 (v := .ref (ad G (q + 4))) rfl ?_
    refine Vload_n dX0_noteReading_11 1 rfl 12 rfl ?_
    refine Vldz dX0_noteReading_12 13 rfl (aI_ hF hq 4 (by decide)) (ak4 hq) (an4 hq) hF.2.2.1 (by first | exact (by assumption) | exact (vin_cmp2 (by assumption) (by assumption) (by decide)) | exact (vin_cell (by assumption)) | exact (vin_reg (by assumption)) | exact (vin_row (by assumption)) | exact (vin_cnt (by assumption) (by assumption) (by decide) (by decide) (by assumption)) | exact (vin_cmp (by assumption) (by assumption) (by decide)) | exact (vp_in_iff.mpr (by decide))) ?_
    refine Vifne (fun v => v) dX0_noteReading_13 30 16 (by decide) rfl (fun h2 => ?_) (fun h2 => ?_)
    · exact Vvret dX0_noteReading_30
    · refine Vaload_n dX0_noteReading_16 0 rfl 17 rfl ?_
      refine Vget (q) 6 dX0_noteReading_17 20 rfl (aI_ hF hq 0 (by decide)) (ak0 hq) rfl inX0 (by decide) wd_fl_RX0_22 (v := .ref (ad G (q + 4))) rfl ?_
      refine Vload_n dX0_noteReading_20 1 rfl 21 rfl ?_
      refine Viconst dX0_noteReading_21 (1 : Int32) (by decide) 22 rfl ?_
      refine Vstz dX0_noteReading_22 23 rfl (aI_ hF hq 4 (by decide)) (ak4 hq) (an4 hq) hF.2.2.1 (by first | exact (by assumption) | exact (vin_cmp2 (by assumption) (by assumption) (by decide)) | exact (vin_cell (by assumption)) | exact (vin_reg (by assumption)) | exact (vin_row (by assumption)) | exact (vin_cnt (by assumption) (by assumption) (by decide) (by decide) (by assumption)) | exact (vin_cmp (by assumption) (by assumption) (by decide)) | exact (vp_in_iff.mpr (by decide))) (by decide) ?_
      refine Vaload_n dX0_noteReading_23 0 rfl 24 rfl ?_
      refine Vget (q) 7 dX0_noteReading_24 27 rfl (aI_ hF hq 0 (by decide)) (ak0 hq) rfl inX0 (by decide) wd_fl_RX0_25 (v := .ref (ad G (q + 5))) rfl ?_
      refine Vload_n dX0_noteReading_27 1 rfl 28 rfl ?_
      refine Vload_n dX0_noteReading_28 2 rfl 29 rfl ?_
      refine Vst dX0_noteReading_29 30 rfl (aI_ hF hq 5 (by decide)) (ak5 hq) (an5 hq) hF.2.1 (by first | exact (by assumption) | exact (vin_cmp2 (by assumption) (by assumption) (by decide)) | exact (vin_cell (by assumption)) | exact (vin_reg (by assumption)) | exact (vin_row (by assumption)) | exact (vin_cnt (by assumption) (by assumption) (by decide) (by decide) (by assumption)) | exact (vin_cmp (by assumption) (by assumption) (by decide)) | exact (vp_in_iff.mpr (by decide))) ?_
      exact Vvret dX0_noteReading_30
def l_J7_fill_53178_5 : Nat → Int32 → mS → Nat → Nat → Int32 → Int32 × mS
  | 0, y2, σ, _, _, _ => (0, σ)
  | n + 1, y2, σ, q, len, x1 => (if (nI len) ≤ y2 then (0, σ) else (l_J7_fill_53178_5 n (y2 + 1) (st2 σ q y2.toNatClampNeg x1) q len x1))
set_option maxRecDepth 100000 in
set_option maxHeartbeats 4000000 in
theorem vl_J7_fill_53178_5 (l : Launch) {G : gT} (X : xT) (hT0 : (gY G)[0]? = some ((gC G).1, .int)) (q : Nat) (len : Nat) (x1 : Int32) (hq : q ∈ gI G) (hk : wK q = 0) (hlen : wN q = len) (h31 : len < 2 ^ 31) : ∀ (n : Nat) (y2 : Int32) (σ : mS) (i : Nat) (hc : y2 = nI i) (hi : i ≤ len) (hn : n + i = len + 1), V l G X RJ7 cJ7_fill_53178 4 0 none κV ((fun v => v) (l_J7_fill_53178_5 n y2 σ q len x1)) σ 5 [(0, .ref (ad G q)), (1, .int x1), (2, .int y2), (3, .int (nI len))] [] := by
  intro n
  induction n with
  | zero => intro y2 σ i hc hi hn; exact absurd hn (by omega)
  | succ n ih =>
    intro y2 σ i hc hi hn
    rw [l_J7_fill_53178_5.eq_2]
    refine Vload_n dJ7_fill_53178_5 2 rfl 6 rfl ?_
    refine Vload_n dJ7_fill_53178_6 3 rfl 7 rfl ?_
    refine Vicge (fun v => v) dJ7_fill_53178_7 20 10 (by decide) rfl (fun h1 => ?_) (fun h1 => ?_)
    · exact Vvret dJ7_fill_53178_20
    · refine Vaload_n dJ7_fill_53178_10 0 rfl 11 rfl ?_
      refine Vload_n dJ7_fill_53178_11 2 rfl 12 rfl ?_
      refine Vload_n dJ7_fill_53178_12 1 rfl 13 rfl ?_
      refine Vst dJ7_fill_53178_13 14 rfl hq hk hlen hT0 (vin_cnt hc (by assumption) (K := nI len) (nI_toInt h31) h31 hi) ?_
      refine Viinc dJ7_fill_53178_14 (y2 + 1) 2 [(2, .int (y2 + 1)), (0, .ref (ad G q)), (1, .int x1), (3, .int (nI len))] 17 rfl rfl rfl (by decide) rfl ?_
      refine Vgoto dJ7_fill_53178_17 5 (by decide) ?_
      refine Vlv [1, 2, 0, 3] rfl ?_
      exact ih (y2 + 1) (st2 σ q y2.toNatClampNeg x1) (i + 1) (cnt_s hc) (cnt_lt hc (by assumption) (K := nI len) (nI_toInt h31) h31 hi) (by omega)
def f_J7_fill_53178 (σ : mS) (q : Nat) (len : Nat) (x1 : Int32) : Int32 × mS := (l_J7_fill_53178_5 (len + 1) (0 : Int32) σ q len x1)
theorem mw_J7_fill_53178 : mW yJ7_fill_53178 cJ7_fill_53178 4 none 2 := ⟨wd_co_yJ7_fill_53178, wd_ini_RJ7, ⟨by decide, by decide⟩, by decide +kernel, by decide⟩
set_option maxRecDepth 100000 in
set_option maxHeartbeats 4000000 in
theorem c_J7_fill_53178 (l : Launch) {G : gT} (hT0 : (gY G)[0]? = some ((gC G).1, .int)) (σ : mS) (q : Nat) (len : Nat) (x1 : Int32) (hq : q ∈ gI G) (hk : wK q = 0) (hlen : wN q = len) (h31 : len < 2 ^ 31) : Ct l G yJ7_fill_53178 cJ7_fill_53178 4 none 0 [.ref (ad G q), .int x1] κV σ (f_J7_fill_53178 σ q len x1) := by
  refine Ct.ofV [(0, .ref (ad G q)), (1, .int x1)] rfl (by decide) (Nat.le_of_ble_eq_true rfl) rfl (fun X => ?_)
  unfold f_J7_fill_53178
  refine Viconst dJ7_fill_53178_0 (0 : Int32) (by decide) 1 rfl ?_
  refine Vstore_n dJ7_fill_53178_1 [(2, .int (0 : Int32)), (0, .ref (ad G q)), (1, .int x1)] 2 rfl (by decide) rfl ?_
  refine Vaload_n dJ7_fill_53178_2 1 rfl 3 rfl ?_
  refine Vlen dJ7_fill_53178_3 (nI len) 4 rfl hq hk hlen hT0 rfl ?_
  refine Vstore_n dJ7_fill_53178_4 [(3, .int (nI len)), (2, .int (0 : Int32)), (0, .ref (ad G q)), (1, .int x1)] 5 rfl (by decide) rfl ?_
  refine Vlv [2, 3, 1, 0] rfl ?_
  exact vl_J7_fill_53178_5 l X hT0 q len x1 hq hk hlen h31 (len + 1) (0 : Int32) σ 0 nI_0.symm (Nat.zero_le _) rfl
def f_X1_reset (σ : mS)  : Int32 × mS := (ap (fun u1 => (ap (fun u2 => (0, (st2 u2.2 5 4 (0 : Int32)))) (f_J7_fill_53178 u1.2 3 8 (-1 : Int32)))) (f_J7_fill_53178 σ 2 8 (0 : Int32)))
theorem mw_X1_reset : mW yX1_reset cX1_reset 1 none 0 := ⟨wd_co_yX1_reset, wd_ini_RX1, ⟨by decide, by decide⟩, by decide +kernel, by decide⟩
set_option maxRecDepth 100000 in
set_option maxHeartbeats 4000000 in
theorem c_X1_reset (l : Launch) {G : gT} (hI : ∀ q : Nat, q ∈ [1, 2, 3, 5] → q ∈ gI G) (hT0 : (gY G)[0]? = some ((gC G).1, .int)) (σ : mS)   : Ct l G yX1_reset cX1_reset 1 none 1 [.ref (ad G 1)] κV σ (f_X1_reset σ) := by
  refine Ct.ofV [(0, .ref (ad G 1))] rfl (by decide) (Nat.le_of_ble_eq_true rfl) rfl (fun X => ?_)
  unfold f_X1_reset
  refine Vaload_n dX1_reset_0 0 rfl 1 rfl ?_
  refine Vget (1) 0 dX1_reset_1 4 rfl (hI 1 (by decide)) wk1 rfl inX1 (by decide) wd_fl_RX1_9 (v := .ref (ad G 2)) rfl ?_
  refine Viconst dX1_reset_4 (0 : Int32) (by decide) 5 rfl ?_
  refine Vgen ?_
  intro u1 eu1
  refine VcSv (u := u1) dX1_reset_5 [.ref (ad G 2), .int (0 : Int32)] (by rw [eu1]; exact c_J7_fill_53178 l hT0 σ 2 8 (0 : Int32) (hI 2 (by decide)) wk2 wn2 (by decide)) mw_J7_fill_53178 wd_sm_yJ7_fill_53178 wd_ml_RX1_31 (by decide) rfl rfl (Nat.le_of_ble_eq_true rfl) 8 rfl ?_
  refine Vaload_n dX1_reset_8 0 rfl 9 rfl ?_
  refine Vget (1) 1 dX1_reset_9 12 rfl (hI 1 (by decide)) wk1 rfl inX1 (by decide) wd_fl_RX1_15 (v := .ref (ad G 3)) rfl ?_
  refine Viconst dX1_reset_12 (-1 : Int32) (by decide) 13 rfl ?_
  refine Vgen ?_
  intro u2 eu2
  refine VcSv (u := u2) dX1_reset_13 [.ref (ad G 3), .int (-1 : Int32)] (by rw [eu2]; exact c_J7_fill_53178 l hT0 u1.2 3 8 (-1 : Int32) (hI 3 (by decide)) wk3 wn3 (by decide)) mw_J7_fill_53178 wd_sm_yJ7_fill_53178 wd_ml_RX1_31 (by decide) rfl rfl (Nat.le_of_ble_eq_true rfl) 16 rfl ?_
  refine Vaload_n dX1_reset_16 0 rfl 17 rfl ?_
  refine Vget (1) 3 dX1_reset_17 20 rfl (hI 1 (by decide)) wk1 rfl inX1 (by decide) wd_fl_RX1_24 (v := .ref (ad G 5)) rfl ?_
  refine Viconst dX1_reset_20 (0 : Int32) (by decide) 21 rfl ?_
  refine VputN (5) 4 tyX2 dX1_reset_21 24 rfl (hI 5 (by decide)) wk5 rfl inX2 tyX2_ok nmX2 (by decide) wd_nfl_RX1_37 rfl (ty := .int) (by decide +kernel) rfl rfl (fun f => rfl) (fun f => Nat.le_of_ble_eq_true rfl) ?_
  exact Vvret dX1_reset_24
def f_X1_isLazy (σ : mS) (x1 : Int32) : Int32 := (if (f_X5_isCell x1) = 0 then (0 : Int32) else (if (σ 3 x1.toNatClampNeg) = (-1 : Int32) then (0 : Int32) else (1 : Int32)))
theorem mw_X1_isLazy : mW yX1_isLazy cX1_isLazy 2 (some .boolean) 1 := ⟨wd_co_yX1_isLazy, wd_ini_RX1, ⟨by decide, by decide⟩, by decide +kernel, by decide⟩
set_option maxRecDepth 100000 in
set_option maxHeartbeats 4000000 in
theorem c_X1_isLazy (l : Launch) {G : gT} (hF : Full G) (σ : mS) (x1 : Int32)  : Ct l G yX1_isLazy cX1_isLazy 2 (some .boolean) 1 [.ref (ad G 1), .int x1] κI σ (f_X1_isLazy σ x1, σ) := by
  refine Ct.ofV [(0, .ref (ad G 1)), (1, .int x1)] rfl (by decide) (Nat.le_of_ble_eq_true rfl) rfl (fun X => ?_)
  unfold f_X1_isLazy
  refine Vload_n dX1_isLazy_0 1 rfl 1 rfl ?_
  refine VcSNp dX1_isLazy_1 [.int x1] (c_X5_isCell l hF σ x1) mw_X5_isCell wd_sm_yX5_isCell wd_nml_RX1_41 (by decide) rfl rfl (Nat.le_of_ble_eq_true rfl) 4 rfl ?_
  refine Vifeq (fun v => (v, σ)) dX1_isLazy_4 21 7 (by decide) rfl (fun h1 => ?_) (fun h1 => ?_)
  · refine Viconst dX1_isLazy_21 (0 : Int32) (by decide) 22 rfl ?_
    exact Vzret dX1_isLazy_22 (by first | decide | exact nb_isRegister _ | exact nb_isRow _ | exact nb_isPlace _ | exact nb_within _ _ _ | exact nb_mRegister _ | exact nb_mCell _ | exact nb_mPlace _)
  · refine Vaload_n dX1_isLazy_7 0 rfl 8 rfl ?_
    refine Vget (1) 1 dX1_isLazy_8 11 rfl (hF.1 1 (by decide)) wk1 rfl inX1 (by decide) wd_fl_RX1_15 (v := .ref (ad G 3)) rfl ?_
    refine Vload_n dX1_isLazy_11 1 rfl 12 rfl ?_
    refine Vld dX1_isLazy_12 13 rfl (hF.1 3 (by decide)) wk3 wn3 hF.2.1 (by first | exact (by assumption) | exact (vin_cmp2 (by assumption) (by assumption) (by decide)) | exact (vin_cell (by assumption)) | exact (vin_reg (by assumption)) | exact (vin_row (by assumption)) | exact (vin_cnt (by assumption) (by assumption) (by decide) (by decide) (by assumption)) | exact (vin_cmp (by assumption) (by assumption) (by decide)) | exact (vp_in_iff.mpr (by decide))) ?_
    refine Viconst dX1_isLazy_13 (-1 : Int32) (by decide) 14 rfl ?_
    refine Viceq (fun v => (v, σ)) dX1_isLazy_14 21 17 (by decide) rfl (fun h2 => ?_) (fun h2 => ?_)
    · refine Viconst dX1_isLazy_21 (0 : Int32) (by decide) 22 rfl ?_
      exact Vzret dX1_isLazy_22 (by first | decide | exact nb_isRegister _ | exact nb_isRow _ | exact nb_isPlace _ | exact nb_within _ _ _ | exact nb_mRegister _ | exact nb_mCell _ | exact nb_mPlace _)
    · refine Viconst dX1_isLazy_17 (1 : Int32) (by decide) 18 rfl ?_
      refine Vgoto dX1_isLazy_18 22 (by decide) ?_
      exact Vzret dX1_isLazy_22 (by first | decide | exact nb_isRegister _ | exact nb_isRow _ | exact nb_isPlace _ | exact nb_within _ _ _ | exact nb_mRegister _ | exact nb_mCell _ | exact nb_mPlace _)
def f_X1_shown (σ : mS) (x1 : Int32) : Int32 := (if (f_X5_isCell x1) = 0 then (0 : Int32) else (if (σ 3 x1.toNatClampNeg) = (-1 : Int32) then (σ 2 x1.toNatClampNeg) else (σ 3 x1.toNatClampNeg)))
theorem mw_X1_shown : mW yX1_shown cX1_shown 2 (some .int) 1 := ⟨wd_co_yX1_shown, wd_ini_RX1, ⟨by decide, by decide⟩, by decide +kernel, by decide⟩
set_option maxRecDepth 100000 in
set_option maxHeartbeats 4000000 in
theorem c_X1_shown (l : Launch) {G : gT} (hF : Full G) (σ : mS) (x1 : Int32)  : Ct l G yX1_shown cX1_shown 2 (some .int) 1 [.ref (ad G 1), .int x1] κI σ (f_X1_shown σ x1, σ) := by
  refine Ct.ofV [(0, .ref (ad G 1)), (1, .int x1)] rfl (by decide) (Nat.le_of_ble_eq_true rfl) rfl (fun X => ?_)
  unfold f_X1_shown
  refine Vload_n dX1_shown_0 1 rfl 1 rfl ?_
  refine VcSNp dX1_shown_1 [.int x1] (c_X5_isCell l hF σ x1) mw_X5_isCell wd_sm_yX5_isCell wd_nml_RX1_41 (by decide) rfl rfl (Nat.le_of_ble_eq_true rfl) 4 rfl ?_
  refine Vifne (fun v => (v, σ)) dX1_shown_4 9 7 (by decide) rfl (fun h1 => ?_) (fun h1 => ?_)
  · refine Vaload_n dX1_shown_9 0 rfl 10 rfl ?_
    refine Vget (1) 1 dX1_shown_10 13 rfl (hF.1 1 (by decide)) wk1 rfl inX1 (by decide) wd_fl_RX1_15 (v := .ref (ad G 3)) rfl ?_
    refine Vload_n dX1_shown_13 1 rfl 14 rfl ?_
    refine Vld dX1_shown_14 15 rfl (hF.1 3 (by decide)) wk3 wn3 hF.2.1 (by first | exact (by assumption) | exact (vin_cmp2 (by assumption) (by assumption) (by decide)) | exact (vin_cell (by assumption)) | exact (vin_reg (by assumption)) | exact (vin_row (by assumption)) | exact (vin_cnt (by assumption) (by assumption) (by decide) (by decide) (by assumption)) | exact (vin_cmp (by assumption) (by assumption) (by decide)) | exact (vp_in_iff.mpr (by decide))) ?_
    refine Viconst dX1_shown_15 (-1 : Int32) (by decide) 16 rfl ?_
    refine Viceq (fun v => (v, σ)) dX1_shown_16 28 19 (by decide) rfl (fun h2 => ?_) (fun h2 => ?_)
    · refine Vaload_n dX1_shown_28 0 rfl 29 rfl ?_
      refine Vget (1) 0 dX1_shown_29 32 rfl (hF.1 1 (by decide)) wk1 rfl inX1 (by decide) wd_fl_RX1_9 (v := .ref (ad G 2)) rfl ?_
      refine Vload_n dX1_shown_32 1 rfl 33 rfl ?_
      refine Vld dX1_shown_33 34 rfl (hF.1 2 (by decide)) wk2 wn2 hF.2.1 (by first | exact (by assumption) | exact (vin_cmp2 (by assumption) (by assumption) (by decide)) | exact (vin_cell (by assumption)) | exact (vin_reg (by assumption)) | exact (vin_row (by assumption)) | exact (vin_cnt (by assumption) (by assumption) (by decide) (by decide) (by assumption)) | exact (vin_cmp (by assumption) (by assumption) (by decide)) | exact (vp_in_iff.mpr (by decide))) ?_
      exact Viret dX1_shown_34
    · refine Vaload_n dX1_shown_19 0 rfl 20 rfl ?_
      refine Vget (1) 1 dX1_shown_20 23 rfl (hF.1 1 (by decide)) wk1 rfl inX1 (by decide) wd_fl_RX1_15 (v := .ref (ad G 3)) rfl ?_
      refine Vload_n dX1_shown_23 1 rfl 24 rfl ?_
      refine Vld dX1_shown_24 25 rfl (hF.1 3 (by decide)) wk3 wn3 hF.2.1 (by first | exact (by assumption) | exact (vin_cmp2 (by assumption) (by assumption) (by decide)) | exact (vin_cell (by assumption)) | exact (vin_reg (by assumption)) | exact (vin_row (by assumption)) | exact (vin_cnt (by assumption) (by assumption) (by decide) (by decide) (by assumption)) | exact (vin_cmp (by assumption) (by assumption) (by decide)) | exact (vp_in_iff.mpr (by decide))) ?_
      refine Vgoto dX1_shown_25 34 (by decide) ?_
      exact Viret dX1_shown_34
  · refine Viconst dX1_shown_7 (0 : Int32) (by decide) 8 rfl ?_
    exact Viret dX1_shown_8
def f_X1_hold (σ : mS) (x1 : Int32) (x2 : Int32) : Int32 × mS := (if x1 < 0 then (0, σ) else (if (8 : Int32) ≤ x1 then (0, σ) else (0, (st2 (st2 σ 2 x1.toNatClampNeg x2) 3 x1.toNatClampNeg (-1 : Int32)))))
theorem mw_X1_hold : mW yX1_hold cX1_hold 3 none 2 := ⟨wd_co_yX1_hold, wd_ini_RX1, ⟨by decide, by decide⟩, by decide +kernel, by decide⟩
set_option maxRecDepth 100000 in
set_option maxHeartbeats 4000000 in
theorem c_X1_hold (l : Launch) {G : gT} (hF : Full G) (σ : mS) (x1 : Int32) (x2 : Int32)  : Ct l G yX1_hold cX1_hold 3 none 0 [.ref (ad G 1), .int x1, .int x2] κV σ (f_X1_hold σ x1 x2) := by
  refine Ct.ofV [(0, .ref (ad G 1)), (1, .int x1), (2, .int x2)] rfl (by decide) (Nat.le_of_ble_eq_true rfl) rfl (fun X => ?_)
  unfold f_X1_hold
  refine Vload_n dX1_hold_0 1 rfl 1 rfl ?_
  refine Viflt (fun v => v) dX1_hold_1 27 4 (by decide) rfl (fun h1 => ?_) (fun h1 => ?_)
  · exact Vvret dX1_hold_27
  · refine Vload_n dX1_hold_4 1 rfl 5 rfl ?_
    refine Vaload_n dX1_hold_5 0 rfl 6 rfl ?_
    refine Vget (1) 0 dX1_hold_6 9 rfl (hF.1 1 (by decide)) wk1 rfl inX1 (by decide) wd_fl_RX1_9 (v := .ref (ad G 2)) rfl ?_
    refine Vlen dX1_hold_9 (8 : Int32) 10 rfl (hF.1 2 (by decide)) wk2 wn2 hF.2.1 (by decide) ?_
    refine Vicge (fun v => v) dX1_hold_10 27 13 (by decide) rfl (fun h2 => ?_) (fun h2 => ?_)
    · exact Vvret dX1_hold_27
    · refine Vaload_n dX1_hold_13 0 rfl 14 rfl ?_
      refine Vget (1) 0 dX1_hold_14 17 rfl (hF.1 1 (by decide)) wk1 rfl inX1 (by decide) wd_fl_RX1_9 (v := .ref (ad G 2)) rfl ?_
      refine Vload_n dX1_hold_17 1 rfl 18 rfl ?_
      refine Vload_n dX1_hold_18 2 rfl 19 rfl ?_
      refine Vst dX1_hold_19 20 rfl (hF.1 2 (by decide)) wk2 wn2 hF.2.1 (by first | exact (by assumption) | exact (vin_cmp2 (by assumption) (by assumption) (by decide)) | exact (vin_cell (by assumption)) | exact (vin_reg (by assumption)) | exact (vin_row (by assumption)) | exact (vin_cnt (by assumption) (by assumption) (by decide) (by decide) (by assumption)) | exact (vin_cmp (by assumption) (by assumption) (by decide)) | exact (vp_in_iff.mpr (by decide))) ?_
      refine Vaload_n dX1_hold_20 0 rfl 21 rfl ?_
      refine Vget (1) 1 dX1_hold_21 24 rfl (hF.1 1 (by decide)) wk1 rfl inX1 (by decide) wd_fl_RX1_15 (v := .ref (ad G 3)) rfl ?_
      refine Vload_n dX1_hold_24 1 rfl 25 rfl ?_
      refine Viconst dX1_hold_25 (-1 : Int32) (by decide) 26 rfl ?_
      refine Vst dX1_hold_26 27 rfl (hF.1 3 (by decide)) wk3 wn3 hF.2.1 (by first | exact (by assumption) | exact (vin_cmp2 (by assumption) (by assumption) (by decide)) | exact (vin_cell (by assumption)) | exact (vin_reg (by assumption)) | exact (vin_row (by assumption)) | exact (vin_cnt (by assumption) (by assumption) (by decide) (by decide) (by assumption)) | exact (vin_cmp (by assumption) (by assumption) (by decide)) | exact (vp_in_iff.mpr (by decide))) ?_
      exact Vvret dX1_hold_27
def f_X1_defer (σ : mS) (x1 : Int32) (x2 : Int32) : Int32 × mS := (if (f_X5_isCell x1) = 0 then (0, σ) else (if (f_X5_isCell x2) = 0 then (0, σ) else (0, (st2 σ 3 x1.toNatClampNeg x2))))
theorem mw_X1_defer : mW yX1_defer cX1_defer 3 none 2 := ⟨wd_co_yX1_defer, wd_ini_RX1, ⟨by decide, by decide⟩, by decide +kernel, by decide⟩
set_option maxRecDepth 100000 in
set_option maxHeartbeats 4000000 in
theorem c_X1_defer (l : Launch) {G : gT} (hF : Full G) (σ : mS) (x1 : Int32) (x2 : Int32)  : Ct l G yX1_defer cX1_defer 3 none 1 [.ref (ad G 1), .int x1, .int x2] κV σ (f_X1_defer σ x1 x2) := by
  refine Ct.ofV [(0, .ref (ad G 1)), (1, .int x1), (2, .int x2)] rfl (by decide) (Nat.le_of_ble_eq_true rfl) rfl (fun X => ?_)
  unfold f_X1_defer
  refine Vload_n dX1_defer_0 1 rfl 1 rfl ?_
  refine VcSNp dX1_defer_1 [.int x1] (c_X5_isCell l hF σ x1) mw_X5_isCell wd_sm_yX5_isCell wd_nml_RX1_41 (by decide) rfl rfl (Nat.le_of_ble_eq_true rfl) 4 rfl ?_
  refine Vifeq (fun v => v) dX1_defer_4 21 7 (by decide) rfl (fun h1 => ?_) (fun h1 => ?_)
  · exact Vvret dX1_defer_21
  · refine Vload_n dX1_defer_7 2 rfl 8 rfl ?_
    refine VcSNp dX1_defer_8 [.int x2] (c_X5_isCell l hF σ x2) mw_X5_isCell wd_sm_yX5_isCell wd_nml_RX1_41 (by decide) rfl rfl (Nat.le_of_ble_eq_true rfl) 11 rfl ?_
    refine Vifeq (fun v => v) dX1_defer_11 21 14 (by decide) rfl (fun h2 => ?_) (fun h2 => ?_)
    · exact Vvret dX1_defer_21
    · refine Vaload_n dX1_defer_14 0 rfl 15 rfl ?_
      refine Vget (1) 1 dX1_defer_15 18 rfl (hF.1 1 (by decide)) wk1 rfl inX1 (by decide) wd_fl_RX1_15 (v := .ref (ad G 3)) rfl ?_
      refine Vload_n dX1_defer_18 1 rfl 19 rfl ?_
      refine Vload_n dX1_defer_19 2 rfl 20 rfl ?_
      refine Vst dX1_defer_20 21 rfl (hF.1 3 (by decide)) wk3 wn3 hF.2.1 (by first | exact (by assumption) | exact (vin_cmp2 (by assumption) (by assumption) (by decide)) | exact (vin_cell (by assumption)) | exact (vin_reg (by assumption)) | exact (vin_row (by assumption)) | exact (vin_cnt (by assumption) (by assumption) (by decide) (by decide) (by assumption)) | exact (vin_cmp (by assumption) (by assumption) (by decide)) | exact (vp_in_iff.mpr (by decide))) ?_
      exact Vvret dX1_defer_21
def f_X2_add (σ : mS) (x1 : Int32) (x2 : Int32) (x3 : Int32) : Int32 × mS := (if (σ 5 3) < 0 then (0, (st2 (st2 (st2 (st2 (st2 σ 5 3 (0 : Int32)) 6 (0 : Int32).toNatClampNeg x1) 7 (0 : Int32).toNatClampNeg x2) 8 (0 : Int32).toNatClampNeg x3) 5 4 ((σ 5 4) + (1 : Int32)))) else (if (29 : Int32) ≤ (σ 5 3) then (0, (st2 (st2 (st2 (st2 (st2 σ 5 3 (0 : Int32)) 6 (0 : Int32).toNatClampNeg x1) 7 (0 : Int32).toNatClampNeg x2) 8 (0 : Int32).toNatClampNeg x3) 5 4 ((σ 5 4) + (1 : Int32)))) else (0, (st2 (st2 (st2 (st2 (st2 σ 5 3 ((σ 5 3) + (1 : Int32))) 6 ((σ 5 3) + (1 : Int32)).toNatClampNeg x1) 7 ((σ 5 3) + (1 : Int32)).toNatClampNeg x2) 8 ((σ 5 3) + (1 : Int32)).toNatClampNeg x3) 5 4 ((σ 5 4) + (1 : Int32))))))
theorem mw_X2_add : mW yX2_add cX2_add 4 none 3 := ⟨wd_co_yX2_add, wd_ini_RX2, ⟨by decide, by decide⟩, by decide +kernel, by decide⟩
set_option maxRecDepth 100000 in
set_option maxHeartbeats 4000000 in
theorem c_X2_add (l : Launch) {G : gT} (hF : Full G) (σ : mS) (x1 : Int32) (x2 : Int32) (x3 : Int32)  : Ct l G yX2_add cX2_add 4 none 0 [.ref (ad G 5), .int x1, .int x2, .int x3] κV σ (f_X2_add σ x1 x2 x3) := by
  refine Ct.ofV [(0, .ref (ad G 5)), (1, .int x1), (2, .int x2), (3, .int x3)] rfl (by decide) (Nat.le_of_ble_eq_true rfl) rfl (fun X => ?_)
  unfold f_X2_add
  refine Vaload_n dX2_add_0 0 rfl 1 rfl ?_
  refine Vaload_n dX2_add_1 0 rfl 2 rfl ?_
  refine Vget (5) 3 dX2_add_2 5 rfl (hF.1 5 (by decide)) wk5 rfl inX2 (by decide) wd_fl_RX2_21 (v := .int (σ 5 3)) rfl ?_
  refine Viflt (fun v => v) dX2_add_5 26 8 (by decide) rfl (fun h1 => ?_) (fun h1 => ?_)
  · refine Viconst dX2_add_26 (0 : Int32) (by decide) 27 rfl ?_
    refine Vput (5) 3 tyX2 dX2_add_27 30 rfl (hF.1 5 (by decide)) wk5 rfl inX2 tyX2_ok nmX2 (by decide) wd_fl_RX2_21 rfl (ty := .int) (by decide +kernel) rfl rfl (fun f => rfl) (fun f => Nat.le_of_ble_eq_true rfl) ?_
    refine Vaload_n dX2_add_30 0 rfl 31 rfl ?_
    refine Vget (5) 0 dX2_add_31 34 rfl (hF.1 5 (by decide)) wk5 rfl inX2 (by decide) wd_fl_RX2_9 (v := .ref (ad G 6)) rfl ?_
    refine Vaload_n dX2_add_34 0 rfl 35 rfl ?_
    refine Vget (5) 3 dX2_add_35 38 rfl (hF.1 5 (by decide)) wk5 rfl inX2 (by decide) wd_fl_RX2_21 (v := .int (0 : Int32)) rfl ?_
    refine Vload_n dX2_add_38 1 rfl 39 rfl ?_
    refine Vst dX2_add_39 40 rfl (hF.1 6 (by decide)) wk6 wn6 hF.2.1 (by first | exact (by assumption) | exact (vin_cmp2 (by assumption) (by assumption) (by decide)) | exact (vin_cell (by assumption)) | exact (vin_reg (by assumption)) | exact (vin_row (by assumption)) | exact (vin_cnt (by assumption) (by assumption) (by decide) (by decide) (by assumption)) | exact (vin_cmp (by assumption) (by assumption) (by decide)) | exact (vp_in_iff.mpr (by decide)) | exact (vin_s (by assumption) (by assumption))) ?_
    refine Vaload_n dX2_add_40 0 rfl 41 rfl ?_
    refine Vget (5) 1 dX2_add_41 44 rfl (hF.1 5 (by decide)) wk5 rfl inX2 (by decide) wd_fl_RX2_15 (v := .ref (ad G 7)) rfl ?_
    refine Vaload_n dX2_add_44 0 rfl 45 rfl ?_
    refine Vget (5) 3 dX2_add_45 48 rfl (hF.1 5 (by decide)) wk5 rfl inX2 (by decide) wd_fl_RX2_21 (v := .int (0 : Int32)) rfl ?_
    refine Vload_n dX2_add_48 2 rfl 49 rfl ?_
    refine Vst dX2_add_49 50 rfl (hF.1 7 (by decide)) wk7 wn7 hF.2.1 (by first | exact (by assumption) | exact (vin_cmp2 (by assumption) (by assumption) (by decide)) | exact (vin_cell (by assumption)) | exact (vin_reg (by assumption)) | exact (vin_row (by assumption)) | exact (vin_cnt (by assumption) (by assumption) (by decide) (by decide) (by assumption)) | exact (vin_cmp (by assumption) (by assumption) (by decide)) | exact (vp_in_iff.mpr (by decide)) | exact (vin_s (by assumption) (by assumption))) ?_
    refine Vaload_n dX2_add_50 0 rfl 51 rfl ?_
    refine Vget (5) 2 dX2_add_51 54 rfl (hF.1 5 (by decide)) wk5 rfl inX2 (by decide) wd_fl_RX2_18 (v := .ref (ad G 8)) rfl ?_
    refine Vaload_n dX2_add_54 0 rfl 55 rfl ?_
    refine Vget (5) 3 dX2_add_55 58 rfl (hF.1 5 (by decide)) wk5 rfl inX2 (by decide) wd_fl_RX2_21 (v := .int (0 : Int32)) rfl ?_
    refine Vload_n dX2_add_58 3 rfl 59 rfl ?_
    refine Vst dX2_add_59 60 rfl (hF.1 8 (by decide)) wk8 wn8 hF.2.1 (by first | exact (by assumption) | exact (vin_cmp2 (by assumption) (by assumption) (by decide)) | exact (vin_cell (by assumption)) | exact (vin_reg (by assumption)) | exact (vin_row (by assumption)) | exact (vin_cnt (by assumption) (by assumption) (by decide) (by decide) (by assumption)) | exact (vin_cmp (by assumption) (by assumption) (by decide)) | exact (vp_in_iff.mpr (by decide)) | exact (vin_s (by assumption) (by assumption))) ?_
    refine Vaload_n dX2_add_60 0 rfl 61 rfl ?_
    refine Vdupa dX2_add_61 62 rfl ?_
    refine Vget (5) 4 dX2_add_62 65 rfl (hF.1 5 (by decide)) wk5 rfl inX2 (by decide) wd_fl_RX2_25 (v := .int (σ 5 4)) rfl ?_
    refine Viconst dX2_add_65 (1 : Int32) (by decide) 66 rfl ?_
    refine Viadd dX2_add_66 67 rfl ?_
    refine Vput (5) 4 tyX2 dX2_add_67 70 rfl (hF.1 5 (by decide)) wk5 rfl inX2 tyX2_ok nmX2 (by decide) wd_fl_RX2_25 rfl (ty := .int) (by decide +kernel) rfl rfl (fun f => rfl) (fun f => Nat.le_of_ble_eq_true rfl) ?_
    exact Vvret dX2_add_70
  · refine Vaload_n dX2_add_8 0 rfl 9 rfl ?_
    refine Vget (5) 3 dX2_add_9 12 rfl (hF.1 5 (by decide)) wk5 rfl inX2 (by decide) wd_fl_RX2_21 (v := .int (σ 5 3)) rfl ?_
    refine Vbipush dX2_add_12 (29 : Int32) (by decide) 14 rfl ?_
    refine Vicge (fun v => v) dX2_add_14 26 17 (by decide) rfl (fun h2 => ?_) (fun h2 => ?_)
    · refine Viconst dX2_add_26 (0 : Int32) (by decide) 27 rfl ?_
      refine Vput (5) 3 tyX2 dX2_add_27 30 rfl (hF.1 5 (by decide)) wk5 rfl inX2 tyX2_ok nmX2 (by decide) wd_fl_RX2_21 rfl (ty := .int) (by decide +kernel) rfl rfl (fun f => rfl) (fun f => Nat.le_of_ble_eq_true rfl) ?_
      refine Vaload_n dX2_add_30 0 rfl 31 rfl ?_
      refine Vget (5) 0 dX2_add_31 34 rfl (hF.1 5 (by decide)) wk5 rfl inX2 (by decide) wd_fl_RX2_9 (v := .ref (ad G 6)) rfl ?_
      refine Vaload_n dX2_add_34 0 rfl 35 rfl ?_
      refine Vget (5) 3 dX2_add_35 38 rfl (hF.1 5 (by decide)) wk5 rfl inX2 (by decide) wd_fl_RX2_21 (v := .int (0 : Int32)) rfl ?_
      refine Vload_n dX2_add_38 1 rfl 39 rfl ?_
      refine Vst dX2_add_39 40 rfl (hF.1 6 (by decide)) wk6 wn6 hF.2.1 (by first | exact (by assumption) | exact (vin_cmp2 (by assumption) (by assumption) (by decide)) | exact (vin_cell (by assumption)) | exact (vin_reg (by assumption)) | exact (vin_row (by assumption)) | exact (vin_cnt (by assumption) (by assumption) (by decide) (by decide) (by assumption)) | exact (vin_cmp (by assumption) (by assumption) (by decide)) | exact (vp_in_iff.mpr (by decide)) | exact (vin_s (by assumption) (by assumption))) ?_
      refine Vaload_n dX2_add_40 0 rfl 41 rfl ?_
      refine Vget (5) 1 dX2_add_41 44 rfl (hF.1 5 (by decide)) wk5 rfl inX2 (by decide) wd_fl_RX2_15 (v := .ref (ad G 7)) rfl ?_
      refine Vaload_n dX2_add_44 0 rfl 45 rfl ?_
      refine Vget (5) 3 dX2_add_45 48 rfl (hF.1 5 (by decide)) wk5 rfl inX2 (by decide) wd_fl_RX2_21 (v := .int (0 : Int32)) rfl ?_
      refine Vload_n dX2_add_48 2 rfl 49 rfl ?_
      refine Vst dX2_add_49 50 rfl (hF.1 7 (by decide)) wk7 wn7 hF.2.1 (by first | exact (by assumption) | exact (vin_cmp2 (by assumption) (by assumption) (by decide)) | exact (vin_cell (by assumption)) | exact (vin_reg (by assumption)) | exact (vin_row (by assumption)) | exact (vin_cnt (by assumption) (by assumption) (by decide) (by decide) (by assumption)) | exact (vin_cmp (by assumption) (by assumption) (by decide)) | exact (vp_in_iff.mpr (by decide)) | exact (vin_s (by assumption) (by assumption))) ?_
      refine Vaload_n dX2_add_50 0 rfl 51 rfl ?_
      refine Vget (5) 2 dX2_add_51 54 rfl (hF.1 5 (by decide)) wk5 rfl inX2 (by decide) wd_fl_RX2_18 (v := .ref (ad G 8)) rfl ?_
      refine Vaload_n dX2_add_54 0 rfl 55 rfl ?_
      refine Vget (5) 3 dX2_add_55 58 rfl (hF.1 5 (by decide)) wk5 rfl inX2 (by decide) wd_fl_RX2_21 (v := .int (0 : Int32)) rfl ?_
      refine Vload_n dX2_add_58 3 rfl 59 rfl ?_
      refine Vst dX2_add_59 60 rfl (hF.1 8 (by decide)) wk8 wn8 hF.2.1 (by first | exact (by assumption) | exact (vin_cmp2 (by assumption) (by assumption) (by decide)) | exact (vin_cell (by assumption)) | exact (vin_reg (by assumption)) | exact (vin_row (by assumption)) | exact (vin_cnt (by assumption) (by assumption) (by decide) (by decide) (by assumption)) | exact (vin_cmp (by assumption) (by assumption) (by decide)) | exact (vp_in_iff.mpr (by decide)) | exact (vin_s (by assumption) (by assumption))) ?_
      refine Vaload_n dX2_add_60 0 rfl 61 rfl ?_
      refine Vdupa dX2_add_61 62 rfl ?_
      refine Vget (5) 4 dX2_add_62 65 rfl (hF.1 5 (by decide)) wk5 rfl inX2 (by decide) wd_fl_RX2_25 (v := .int (σ 5 4)) rfl ?_
      refine Viconst dX2_add_65 (1 : Int32) (by decide) 66 rfl ?_
      refine Viadd dX2_add_66 67 rfl ?_
      refine Vput (5) 4 tyX2 dX2_add_67 70 rfl (hF.1 5 (by decide)) wk5 rfl inX2 tyX2_ok nmX2 (by decide) wd_fl_RX2_25 rfl (ty := .int) (by decide +kernel) rfl rfl (fun f => rfl) (fun f => Nat.le_of_ble_eq_true rfl) ?_
      exact Vvret dX2_add_70
    · refine Vaload_n dX2_add_17 0 rfl 18 rfl ?_
      refine Vget (5) 3 dX2_add_18 21 rfl (hF.1 5 (by decide)) wk5 rfl inX2 (by decide) wd_fl_RX2_21 (v := .int (σ 5 3)) rfl ?_
      refine Viconst dX2_add_21 (1 : Int32) (by decide) 22 rfl ?_
      refine Viadd dX2_add_22 23 rfl ?_
      refine Vgoto dX2_add_23 27 (by decide) ?_
      refine Vput (5) 3 tyX2 dX2_add_27 30 rfl (hF.1 5 (by decide)) wk5 rfl inX2 tyX2_ok nmX2 (by decide) wd_fl_RX2_21 rfl (ty := .int) (by decide +kernel) rfl rfl (fun f => rfl) (fun f => Nat.le_of_ble_eq_true rfl) ?_
      refine Vaload_n dX2_add_30 0 rfl 31 rfl ?_
      refine Vget (5) 0 dX2_add_31 34 rfl (hF.1 5 (by decide)) wk5 rfl inX2 (by decide) wd_fl_RX2_9 (v := .ref (ad G 6)) rfl ?_
      refine Vaload_n dX2_add_34 0 rfl 35 rfl ?_
      refine Vget (5) 3 dX2_add_35 38 rfl (hF.1 5 (by decide)) wk5 rfl inX2 (by decide) wd_fl_RX2_21 (v := .int ((σ 5 3) + (1 : Int32))) rfl ?_
      refine Vload_n dX2_add_38 1 rfl 39 rfl ?_
      refine Vst dX2_add_39 40 rfl (hF.1 6 (by decide)) wk6 wn6 hF.2.1 (by first | exact (by assumption) | exact (vin_cmp2 (by assumption) (by assumption) (by decide)) | exact (vin_cell (by assumption)) | exact (vin_reg (by assumption)) | exact (vin_row (by assumption)) | exact (vin_cnt (by assumption) (by assumption) (by decide) (by decide) (by assumption)) | exact (vin_cmp (by assumption) (by assumption) (by decide)) | exact (vp_in_iff.mpr (by decide)) | exact (vin_s (by assumption) (by assumption))) ?_
      refine Vaload_n dX2_add_40 0 rfl 41 rfl ?_
      refine Vget (5) 1 dX2_add_41 44 rfl (hF.1 5 (by decide)) wk5 rfl inX2 (by decide) wd_fl_RX2_15 (v := .ref (ad G 7)) rfl ?_
      refine Vaload_n dX2_add_44 0 rfl 45 rfl ?_
      refine Vget (5) 3 dX2_add_45 48 rfl (hF.1 5 (by decide)) wk5 rfl inX2 (by decide) wd_fl_RX2_21 (v := .int ((σ 5 3) + (1 : Int32))) rfl ?_
      refine Vload_n dX2_add_48 2 rfl 49 rfl ?_
      refine Vst dX2_add_49 50 rfl (hF.1 7 (by decide)) wk7 wn7 hF.2.1 (by first | exact (by assumption) | exact (vin_cmp2 (by assumption) (by assumption) (by decide)) | exact (vin_cell (by assumption)) | exact (vin_reg (by assumption)) | exact (vin_row (by assumption)) | exact (vin_cnt (by assumption) (by assumption) (by decide) (by decide) (by assumption)) | exact (vin_cmp (by assumption) (by assumption) (by decide)) | exact (vp_in_iff.mpr (by decide)) | exact (vin_s (by assumption) (by assumption))) ?_
      refine Vaload_n dX2_add_50 0 rfl 51 rfl ?_
      refine Vget (5) 2 dX2_add_51 54 rfl (hF.1 5 (by decide)) wk5 rfl inX2 (by decide) wd_fl_RX2_18 (v := .ref (ad G 8)) rfl ?_
      refine Vaload_n dX2_add_54 0 rfl 55 rfl ?_
      refine Vget (5) 3 dX2_add_55 58 rfl (hF.1 5 (by decide)) wk5 rfl inX2 (by decide) wd_fl_RX2_21 (v := .int ((σ 5 3) + (1 : Int32))) rfl ?_
      refine Vload_n dX2_add_58 3 rfl 59 rfl ?_
      refine Vst dX2_add_59 60 rfl (hF.1 8 (by decide)) wk8 wn8 hF.2.1 (by first | exact (by assumption) | exact (vin_cmp2 (by assumption) (by assumption) (by decide)) | exact (vin_cell (by assumption)) | exact (vin_reg (by assumption)) | exact (vin_row (by assumption)) | exact (vin_cnt (by assumption) (by assumption) (by decide) (by decide) (by assumption)) | exact (vin_cmp (by assumption) (by assumption) (by decide)) | exact (vp_in_iff.mpr (by decide)) | exact (vin_s (by assumption) (by assumption))) ?_
      refine Vaload_n dX2_add_60 0 rfl 61 rfl ?_
      refine Vdupa dX2_add_61 62 rfl ?_
      refine Vget (5) 4 dX2_add_62 65 rfl (hF.1 5 (by decide)) wk5 rfl inX2 (by decide) wd_fl_RX2_25 (v := .int (σ 5 4)) rfl ?_
      refine Viconst dX2_add_65 (1 : Int32) (by decide) 66 rfl ?_
      refine Viadd dX2_add_66 67 rfl ?_
      refine Vput (5) 4 tyX2 dX2_add_67 70 rfl (hF.1 5 (by decide)) wk5 rfl inX2 tyX2_ok nmX2 (by decide) wd_fl_RX2_25 rfl (ty := .int) (by decide +kernel) rfl rfl (fun f => rfl) (fun f => Nat.le_of_ble_eq_true rfl) ?_
      exact Vvret dX2_add_70
def f_X1_count (σ : mS) (x1 : Int32) (x2 : Int32) (x3 : Int32) : Int32 × mS := (ap (fun u1 => (ap (fun u2 => (0, u2.2)) (f_X2_add u1.2 x1 x2 x3))) (f_X1_hold σ x2 x3))
theorem mw_X1_count : mW yX1_count cX1_count 4 none 3 := ⟨wd_co_yX1_count, wd_ini_RX1, ⟨by decide, by decide⟩, by decide +kernel, by decide⟩
set_option maxRecDepth 100000 in
set_option maxHeartbeats 4000000 in
theorem c_X1_count (l : Launch) {G : gT} (hF : Full G) (σ : mS) (x1 : Int32) (x2 : Int32) (x3 : Int32)  : Ct l G yX1_count cX1_count 4 none 1 [.ref (ad G 1), .int x1, .int x2, .int x3] κV σ (f_X1_count σ x1 x2 x3) := by
  refine Ct.ofV [(0, .ref (ad G 1)), (1, .int x1), (2, .int x2), (3, .int x3)] rfl (by decide) (Nat.le_of_ble_eq_true rfl) rfl (fun X => ?_)
  unfold f_X1_count
  refine Vaload_n dX1_count_0 0 rfl 1 rfl ?_
  refine Vload_n dX1_count_1 2 rfl 2 rfl ?_
  refine Vload_n dX1_count_2 3 rfl 3 rfl ?_
  refine Vgen ?_
  intro u1 eu1
  refine VcVv (u := u1) dX1_count_3 [.int x2, .int x3] (by rw [eu1]; exact c_X1_hold l hF σ x2 x3) mw_X1_hold wd_im_yX1_hold wd_se_yX1_hold wd_ml_RX1_45 (hF.1 1 (by decide)) wk1 rfl rfl (by decide) rfl rfl (Nat.le_of_ble_eq_true rfl) 6 rfl ?_
  refine Vaload_n dX1_count_6 0 rfl 7 rfl ?_
  refine Vget (1) 3 dX1_count_7 10 rfl (hF.1 1 (by decide)) wk1 rfl inX1 (by decide) wd_fl_RX1_24 (v := .ref (ad G 5)) rfl ?_
  refine Vload_n dX1_count_10 1 rfl 11 rfl ?_
  refine Vload_n dX1_count_11 2 rfl 12 rfl ?_
  refine Vload_n dX1_count_12 3 rfl 13 rfl ?_
  refine Vgen ?_
  intro u2 eu2
  refine VcVv (u := u2) dX1_count_13 [.int x1, .int x2, .int x3] (by rw [eu2]; exact c_X2_add l hF u1.2 x1 x2 x3) mw_X2_add wd_im_yX2_add wd_se_yX2_add wd_ml_RX1_49 (hF.1 5 (by decide)) wk5 rfl rfl (by decide) rfl rfl (Nat.le_of_ble_eq_true rfl) 16 rfl ?_
  exact Vvret dX1_count_16
def l_X1_leadsToRing_4 : Nat → Int32 → Int32 → mS → Int32
  | 0, y2, y3, σ => 0
  | n + 1, y2, y3, σ => (if (8 : Int32) ≤ y3 then (1 : Int32) else (if (f_X1_isLazy σ y2) = 0 then (0 : Int32) else (l_X1_leadsToRing_4 n (f_X1_shown σ y2) (y3 + 1) σ)))
set_option maxRecDepth 100000 in
set_option maxHeartbeats 4000000 in
theorem vl_X1_leadsToRing_4 (l : Launch) {G : gT} (X : xT) (hF : Full G) (σ : mS)  : ∀ (n : Nat) (y2 : Int32) (y3 : Int32) (i : Nat) (hc : y3 = nI i) (hi : i ≤ 8) (hn : n + i = 9), V l G X RX1 cX1_leadsToRing 4 2 (some .boolean) κI ((fun v => (v, σ)) (l_X1_leadsToRing_4 n y2 y3 σ)) σ 4 [(0, .ref (ad G 1)), (2, .int y2), (3, .int y3)] [] := by
  intro n
  induction n with
  | zero => intro y2 y3 i hc hi hn; exact absurd hn (by omega)
  | succ n ih =>
    intro y2 y3 i hc hi hn
    rw [l_X1_leadsToRing_4.eq_2]
    refine Vload_n dX1_leadsToRing_4 2 rfl 5 rfl ?_
    refine Vbipush dX1_leadsToRing_5 (8 : Int32) (by decide) 7 rfl ?_
    refine Vicge (fun v => (v, σ)) dX1_leadsToRing_7 32 10 (by decide) rfl (fun h1 => ?_) (fun h1 => ?_)
    · refine Viconst dX1_leadsToRing_32 (1 : Int32) (by decide) 33 rfl ?_
      exact Vzret dX1_leadsToRing_33 (by first | decide | exact nb_isRegister _ | exact nb_isRow _ | exact nb_isPlace _ | exact nb_within _ _ _ | exact nb_mRegister _ | exact nb_mCell _ | exact nb_mPlace _)
    · refine Vaload_n dX1_leadsToRing_10 0 rfl 11 rfl ?_
      refine Vload_n dX1_leadsToRing_11 1 rfl 12 rfl ?_
      refine VcVp dX1_leadsToRing_12 [.int y2] (c_X1_isLazy l hF σ y2) mw_X1_isLazy wd_im_yX1_isLazy wd_se_yX1_isLazy wd_ml_RX1_53 (hF.1 1 (by decide)) wk1 rfl rfl (by decide) rfl rfl (Nat.le_of_ble_eq_true rfl) 15 rfl ?_
      refine Vifne (fun v => (v, σ)) dX1_leadsToRing_15 20 18 (by decide) rfl (fun h2 => ?_) (fun h2 => ?_)
      · refine Vaload_n dX1_leadsToRing_20 0 rfl 21 rfl ?_
        refine Vload_n dX1_leadsToRing_21 1 rfl 22 rfl ?_
        refine VcVp dX1_leadsToRing_22 [.int y2] (c_X1_shown l hF σ y2) mw_X1_shown wd_im_yX1_shown wd_se_yX1_shown wd_ml_RX1_56 (hF.1 1 (by decide)) wk1 rfl rfl (by decide) rfl rfl (Nat.le_of_ble_eq_true rfl) 25 rfl ?_
        refine Vstore_n dX1_leadsToRing_25 [(2, .int (f_X1_shown σ y2)), (0, .ref (ad G 1)), (3, .int y3)] 26 rfl (by decide) rfl ?_
        refine Viinc dX1_leadsToRing_26 (y3 + 1) 2 [(3, .int (y3 + 1)), (2, .int (f_X1_shown σ y2)), (0, .ref (ad G 1))] 29 rfl rfl rfl (by decide) rfl ?_
        refine Vgoto dX1_leadsToRing_29 4 (by decide) ?_
        refine Vlv [2, 1, 0] rfl ?_
        exact ih (f_X1_shown σ y2) (y3 + 1) (i + 1) (cnt_s hc) (cnt_lt hc (by assumption) (K := 8) (by decide) (by decide) hi) (by omega)
      · refine Viconst dX1_leadsToRing_18 (0 : Int32) (by decide) 19 rfl ?_
        exact Vzret dX1_leadsToRing_19 (by first | decide | exact nb_isRegister _ | exact nb_isRow _ | exact nb_isPlace _ | exact nb_within _ _ _ | exact nb_mRegister _ | exact nb_mCell _ | exact nb_mPlace _)
def f_X1_leadsToRing (σ : mS) (x1 : Int32) : Int32 := (l_X1_leadsToRing_4 9 x1 (0 : Int32) σ)
theorem mw_X1_leadsToRing : mW yX1_leadsToRing cX1_leadsToRing 4 (some .boolean) 1 := ⟨wd_co_yX1_leadsToRing, wd_ini_RX1, ⟨by decide, by decide⟩, by decide +kernel, by decide⟩
set_option maxRecDepth 100000 in
set_option maxHeartbeats 4000000 in
theorem c_X1_leadsToRing (l : Launch) {G : gT} (hF : Full G) (σ : mS) (x1 : Int32)  : Ct l G yX1_leadsToRing cX1_leadsToRing 4 (some .boolean) 2 [.ref (ad G 1), .int x1] κI σ (f_X1_leadsToRing σ x1, σ) := by
  refine Ct.ofV [(0, .ref (ad G 1)), (1, .int x1)] rfl (by decide) (Nat.le_of_ble_eq_true rfl) rfl (fun X => ?_)
  unfold f_X1_leadsToRing
  refine Vload_n dX1_leadsToRing_0 1 rfl 1 rfl ?_
  refine Vstore_n dX1_leadsToRing_1 [(2, .int x1), (0, .ref (ad G 1)), (1, .int x1)] 2 rfl (by decide) rfl ?_
  refine Viconst dX1_leadsToRing_2 (0 : Int32) (by decide) 3 rfl ?_
  refine Vstore_n dX1_leadsToRing_3 [(3, .int (0 : Int32)), (2, .int x1), (0, .ref (ad G 1)), (1, .int x1)] 4 rfl (by decide) rfl ?_
  refine Vlv [2, 1, 0] rfl ?_
  exact vl_X1_leadsToRing_4 l X hF σ  9 x1 (0 : Int32) 0 nI_0.symm (Nat.zero_le _) rfl
def l_X1_workedOut_5 : Nat → Int32 → Int32 → mS → Int32 × Int32 × mS
  | 0, y3, y4, σ => (y3, y4, σ)
  | n + 1, y3, y4, σ => (if (8 : Int32) ≤ y3 then (y3, y4, σ) else (if (f_X1_isLazy σ y4) = 0 then (y3, y4, σ) else (l_X1_workedOut_5 n (y3 + 1) (f_X1_shown (st2 σ 4 y3.toNatClampNeg y4) y4) (st2 σ 4 y3.toNatClampNeg y4))))
set_option maxRecDepth 100000 in
set_option maxHeartbeats 4000000 in
theorem vl_X1_workedOut_5 (l : Launch) {G : gT} (X : xT) (hF : Full G) (x2 : Int32)  {B : Int32 × Int32 × mS → Int32 × mS} : ∀ (n : Nat) (y3 : Int32) (y4 : Int32) (σ : mS) (i : Nat) (hc : y3 = nI i) (hi : i ≤ 8) (hn : n + i = 9) (hk : ∀ u : Int32 × Int32 × mS, (∃ i : Nat, u.1 = nI i ∧ i ≤ 8) → V l G X RX1 cX1_workedOut 7 2 (some .int) κI ((fun v => ap B v) u) u.2.2 45 [(0, .ref (ad G 1)), (2, .int x2), (3, .int u.1), (4, .int u.2.1)] []), V l G X RX1 cX1_workedOut 7 2 (some .int) κI ((fun v => ap B v) (l_X1_workedOut_5 n y3 y4 σ)) σ 5 [(0, .ref (ad G 1)), (2, .int x2), (3, .int y3), (4, .int y4)] [] := by
  intro n
  induction n with
  | zero => intro y3 y4 σ i hc hi hn hk; exact absurd hn (by omega)
  | succ n ih =>
    intro y3 y4 σ i hc hi hn hk
    rw [l_X1_workedOut_5.eq_2]
    refine Vload_n dX1_workedOut_5 2 rfl 6 rfl ?_
    refine Vaload_n dX1_workedOut_6 0 rfl 7 rfl ?_
    refine Vget (1) 2 dX1_workedOut_7 10 rfl (hF.1 1 (by decide)) wk1 rfl inX1 (by decide) wd_fl_RX1_18 (v := .ref (ad G 4)) rfl ?_
    refine Vlen dX1_workedOut_10 (8 : Int32) 11 rfl (hF.1 4 (by decide)) wk4 wn4 hF.2.1 (by decide) ?_
    refine Vicge (fun v => ap B v) dX1_workedOut_11 45 14 (by decide) rfl (fun h1 => ?_) (fun h1 => ?_)
    · refine Vlv [0, 1, 2, 3] rfl ?_
      exact hk (y3, y4, σ) ⟨i, hc, hi⟩
    · refine Vaload_n dX1_workedOut_14 0 rfl 15 rfl ?_
      refine Vload dX1_workedOut_15 3 rfl 17 rfl ?_
      refine VcVp dX1_workedOut_17 [.int y4] (c_X1_isLazy l hF σ y4) mw_X1_isLazy wd_im_yX1_isLazy wd_se_yX1_isLazy wd_ml_RX1_53 (hF.1 1 (by decide)) wk1 rfl rfl (by decide) rfl rfl (Nat.le_of_ble_eq_true rfl) 20 rfl ?_
      refine Vifeq (fun v => ap B v) dX1_workedOut_20 45 23 (by decide) rfl (fun h2 => ?_) (fun h2 => ?_)
      · refine Vlv [0, 1, 2, 3] rfl ?_
        exact hk (y3, y4, σ) ⟨i, hc, hi⟩
      · refine Vaload_n dX1_workedOut_23 0 rfl 24 rfl ?_
        refine Vget (1) 2 dX1_workedOut_24 27 rfl (hF.1 1 (by decide)) wk1 rfl inX1 (by decide) wd_fl_RX1_18 (v := .ref (ad G 4)) rfl ?_
        refine Vload_n dX1_workedOut_27 2 rfl 28 rfl ?_
        refine Vload dX1_workedOut_28 3 rfl 30 rfl ?_
        refine Vst dX1_workedOut_30 31 rfl (hF.1 4 (by decide)) wk4 wn4 hF.2.1 (by first | exact (by assumption) | exact (vin_cmp2 (by assumption) (by assumption) (by decide)) | exact (vin_cell (by assumption)) | exact (vin_reg (by assumption)) | exact (vin_row (by assumption)) | exact (vin_cnt (by assumption) (by assumption) (by decide) (by decide) (by assumption)) | exact (vin_cmp (by assumption) (by assumption) (by decide)) | exact (vp_in_iff.mpr (by decide))) ?_
        refine Viinc dX1_workedOut_31 (y3 + 1) 2 [(3, .int (y3 + 1)), (0, .ref (ad G 1)), (2, .int x2), (4, .int y4)] 34 rfl rfl rfl (by decide) rfl ?_
        refine Vaload_n dX1_workedOut_34 1 rfl 35 rfl ?_
        refine Vload dX1_workedOut_35 3 rfl 37 rfl ?_
        refine VcVp dX1_workedOut_37 [.int y4] (c_X1_shown l hF (st2 σ 4 y3.toNatClampNeg y4) y4) mw_X1_shown wd_im_yX1_shown wd_se_yX1_shown wd_ml_RX1_56 (hF.1 1 (by decide)) wk1 rfl rfl (by decide) rfl rfl (Nat.le_of_ble_eq_true rfl) 40 rfl ?_
        refine Vstore dX1_workedOut_40 [(4, .int (f_X1_shown (st2 σ 4 y3.toNatClampNeg y4) y4)), (3, .int (y3 + 1)), (0, .ref (ad G 1)), (2, .int x2)] 42 rfl (by decide) rfl ?_
        refine Vgoto dX1_workedOut_42 5 (by decide) ?_
        refine Vlv [2, 3, 1, 0] rfl ?_
        exact ih (y3 + 1) (f_X1_shown (st2 σ 4 y3.toNatClampNeg y4) y4) (st2 σ 4 y3.toNatClampNeg y4) (i + 1) (cnt_s hc) (cnt_lt hc (by assumption) (K := 8) (by decide) (by decide) hi) (by omega) hk
def l_X1_workedOut_58 : Nat → Int32 → Int32 → mS → Int32 → Int32 × mS
  | 0, y5, y6, σ, _ => (0, σ)
  | n + 1, y5, y6, σ, x2 => (if y6 < 0 then (y5, σ) else (ap (fun u5 => (l_X1_workedOut_58 n (((2 : Int32) * y5) + (1 : Int32)) (y6 + (-1)) u5.2 x2)) (f_X1_count σ x2 (σ 4 y6.toNatClampNeg) (((2 : Int32) * y5) + (1 : Int32)))))
set_option maxRecDepth 100000 in
set_option maxHeartbeats 4000000 in
theorem vl_X1_workedOut_58 (l : Launch) {G : gT} (X : xT) (hF : Full G) (x2 : Int32)  : ∀ (n : Nat) (y5 : Int32) (y6 : Int32) (σ : mS) (j : Nat) (hc : y6 = nI j - 1) (hj : j ≤ 8) (hn : j + 1 ≤ n), V l G X RX1 cX1_workedOut 7 2 (some .int) κI ((fun v => v) (l_X1_workedOut_58 n y5 y6 σ x2)) σ 58 [(0, .ref (ad G 1)), (2, .int x2), (5, .int y5), (6, .int y6)] [] := by
  intro n
  induction n with
  | zero => intro y5 y6 σ j hc hj hn; exact absurd hn (by omega)
  | succ n ih =>
    intro y5 y6 σ j hc hj hn
    rw [l_X1_workedOut_58.eq_2]
    refine Vload dX1_workedOut_58 3 rfl 60 rfl ?_
    refine Viflt (fun v => v) dX1_workedOut_60 91 63 (by decide) rfl (fun h4 => ?_) (fun h4 => ?_)
    · refine Vload dX1_workedOut_91 2 rfl 93 rfl ?_
      exact Viret dX1_workedOut_93
    · refine Viconst dX1_workedOut_63 (2 : Int32) (by decide) 64 rfl ?_
      refine Vload dX1_workedOut_64 2 rfl 66 rfl ?_
      refine Vimul dX1_workedOut_66 67 rfl ?_
      refine Viconst dX1_workedOut_67 (1 : Int32) (by decide) 68 rfl ?_
      refine Viadd dX1_workedOut_68 69 rfl ?_
      refine Vstore dX1_workedOut_69 [(5, .int (((2 : Int32) * y5) + (1 : Int32))), (0, .ref (ad G 1)), (2, .int x2), (6, .int y6)] 71 rfl (by decide) rfl ?_
      refine Vaload_n dX1_workedOut_71 1 rfl 72 rfl ?_
      refine Vload_n dX1_workedOut_72 2 rfl 73 rfl ?_
      refine Vaload_n dX1_workedOut_73 1 rfl 74 rfl ?_
      refine Vget (1) 2 dX1_workedOut_74 77 rfl (hF.1 1 (by decide)) wk1 rfl inX1 (by decide) wd_fl_RX1_18 (v := .ref (ad G 4)) rfl ?_
      refine Vload dX1_workedOut_77 3 rfl 79 rfl ?_
      refine Vld dX1_workedOut_79 80 rfl (hF.1 4 (by decide)) wk4 wn4 hF.2.1 (dwn_in hc hj (by assumption)) ?_
      refine Vload dX1_workedOut_80 0 rfl 82 rfl ?_
      refine Vgen ?_
      intro u5 eu5
      refine VcVv (u := u5) dX1_workedOut_82 [.int x2, .int (σ 4 y6.toNatClampNeg), .int (((2 : Int32) * y5) + (1 : Int32))] (by rw [eu5]; exact c_X1_count l hF σ x2 (σ 4 y6.toNatClampNeg) (((2 : Int32) * y5) + (1 : Int32))) mw_X1_count wd_im_yX1_count wd_se_yX1_count wd_ml_RX1_60 (hF.1 1 (by decide)) wk1 rfl rfl (by decide) rfl rfl (Nat.le_of_ble_eq_true rfl) 85 rfl ?_
      refine Viinc dX1_workedOut_85 (y6 + (-1)) 3 [(6, .int (y6 + (-1))), (5, .int (((2 : Int32) * y5) + (1 : Int32))), (0, .ref (ad G 1)), (2, .int x2)] 88 rfl rfl rfl (by decide) rfl ?_
      refine Vgoto dX1_workedOut_88 58 (by decide) ?_
      refine Vlv [2, 3, 1, 0] rfl ?_
      exact ih (((2 : Int32) * y5) + (1 : Int32)) (y6 + (-1)) u5.2 (j - 1) (dwn_s hc (by assumption)).2 (by omega) (by have := (dwn_s hc (by assumption)).1; omega)
def f_X1_workedOut (σ : mS) (x1 : Int32) (x2 : Int32) : Int32 × mS := (ap (fun u3 => (l_X1_workedOut_58 9 (f_X1_shown u3.2.2 u3.2.1) (u3.1 - (1 : Int32)) u3.2.2 x2)) (l_X1_workedOut_5 9 (0 : Int32) x1 σ))
theorem mw_X1_workedOut : mW yX1_workedOut cX1_workedOut 7 (some .int) 2 := ⟨wd_co_yX1_workedOut, wd_ini_RX1, ⟨by decide, by decide⟩, by decide +kernel, by decide⟩
set_option maxRecDepth 100000 in
set_option maxHeartbeats 4000000 in
theorem c_X1_workedOut (l : Launch) {G : gT} (hF : Full G) (σ : mS) (x1 : Int32) (x2 : Int32)  : Ct l G yX1_workedOut cX1_workedOut 7 (some .int) 2 [.ref (ad G 1), .int x1, .int x2] κI σ (f_X1_workedOut σ x1 x2) := by
  refine Ct.ofV [(0, .ref (ad G 1)), (1, .int x1), (2, .int x2)] rfl (by decide) (Nat.le_of_ble_eq_true rfl) rfl (fun X => ?_)
  unfold f_X1_workedOut
  refine Viconst dX1_workedOut_0 (0 : Int32) (by decide) 1 rfl ?_
  refine Vstore_n dX1_workedOut_1 [(3, .int (0 : Int32)), (0, .ref (ad G 1)), (1, .int x1), (2, .int x2)] 2 rfl (by decide) rfl ?_
  refine Vload_n dX1_workedOut_2 2 rfl 3 rfl ?_
  refine Vstore dX1_workedOut_3 [(4, .int x1), (3, .int (0 : Int32)), (0, .ref (ad G 1)), (1, .int x1), (2, .int x2)] 5 rfl (by decide) rfl ?_
  refine Vlv [2, 4, 1, 0] rfl ?_
  refine vl_X1_workedOut_5 l X hF x2  9 (0 : Int32) x1 σ 0 nI_0.symm (Nat.zero_le _) rfl ?_
  intro u3 pu3
  refine Vap ?_
  obtain ⟨i0, hc0, hi0⟩ := pu3
  refine Vaload_n dX1_workedOut_45 0 rfl 46 rfl ?_
  refine Vload dX1_workedOut_46 3 rfl 48 rfl ?_
  refine VcVp dX1_workedOut_48 [.int u3.2.1] (c_X1_shown l hF u3.2.2 u3.2.1) mw_X1_shown wd_im_yX1_shown wd_se_yX1_shown wd_ml_RX1_56 (hF.1 1 (by decide)) wk1 rfl rfl (by decide) rfl rfl (Nat.le_of_ble_eq_true rfl) 51 rfl ?_
  refine Vstore dX1_workedOut_51 [(5, .int (f_X1_shown u3.2.2 u3.2.1)), (0, .ref (ad G 1)), (2, .int x2), (3, .int u3.1), (4, .int u3.2.1)] 53 rfl (by decide) rfl ?_
  refine Vload_n dX1_workedOut_53 3 rfl 54 rfl ?_
  refine Viconst dX1_workedOut_54 (1 : Int32) (by decide) 55 rfl ?_
  refine Visub dX1_workedOut_55 56 rfl ?_
  refine Vstore dX1_workedOut_56 [(6, .int (u3.1 - (1 : Int32))), (5, .int (f_X1_shown u3.2.2 u3.2.1)), (0, .ref (ad G 1)), (2, .int x2), (3, .int u3.1), (4, .int u3.2.1)] 58 rfl (by decide) rfl ?_
  refine Vlv [2, 3, 1, 0] rfl ?_
  exact vl_X1_workedOut_58 l X hF x2  9 (f_X1_shown u3.2.2 u3.2.1) (u3.1 - (1 : Int32)) u3.2.2 i0 (by rw [hc0]) hi0 (by omega)
def f_X2_tell (σ : mS) (x1 : Int32) (x2 : Int32) : Int32 := (if x1 < 0 then (-1 : Int32) else (if (σ 5 4) ≤ x1 then (-1 : Int32) else (if x1 < (30 : Int32) then (if (σ 5 3) < x1 then (if (((σ 5 3) - x1) + (30 : Int32)) < 0 then (-1 : Int32) else (if (((σ 5 3) - x1) + (30 : Int32)) < (30 : Int32) then (if x2 = 0 then (σ 6 (((σ 5 3) - x1) + (30 : Int32)).toNatClampNeg) else (if x2 = (1 : Int32) then (σ 7 (((σ 5 3) - x1) + (30 : Int32)).toNatClampNeg) else (σ 8 (((σ 5 3) - x1) + (30 : Int32)).toNatClampNeg))) else (-1 : Int32))) else (if ((σ 5 3) - x1) < 0 then (-1 : Int32) else (if ((σ 5 3) - x1) < (30 : Int32) then (if x2 = 0 then (σ 6 ((σ 5 3) - x1).toNatClampNeg) else (if x2 = (1 : Int32) then (σ 7 ((σ 5 3) - x1).toNatClampNeg) else (σ 8 ((σ 5 3) - x1).toNatClampNeg))) else (-1 : Int32)))) else (-1 : Int32))))
theorem mw_X2_tell : mW yX2_tell cX2_tell 4 (some .int) 2 := ⟨wd_co_yX2_tell, wd_ini_RX2, ⟨by decide, by decide⟩, by decide +kernel, by decide⟩
set_option maxRecDepth 100000 in
set_option maxHeartbeats 4000000 in
theorem c_X2_tell (l : Launch) {G : gT} (hF : Full G) (σ : mS) (x1 : Int32) (x2 : Int32)  : Ct l G yX2_tell cX2_tell 4 (some .int) 0 [.ref (ad G 5), .int x1, .int x2] κI σ (f_X2_tell σ x1 x2, σ) := by
  refine Ct.ofV [(0, .ref (ad G 5)), (1, .int x1), (2, .int x2)] rfl (by decide) (Nat.le_of_ble_eq_true rfl) rfl (fun X => ?_)
  unfold f_X2_tell
  refine Vload_n dX2_tell_0 1 rfl 1 rfl ?_
  refine Viflt (fun v => (v, σ)) dX2_tell_1 18 4 (by decide) rfl (fun h1 => ?_) (fun h1 => ?_)
  · refine Viconst dX2_tell_18 (-1 : Int32) (by decide) 19 rfl ?_
    exact Viret dX2_tell_19
  · refine Vload_n dX2_tell_4 1 rfl 5 rfl ?_
    refine Vaload_n dX2_tell_5 0 rfl 6 rfl ?_
    refine Vget (5) 4 dX2_tell_6 9 rfl (hF.1 5 (by decide)) wk5 rfl inX2 (by decide) wd_fl_RX2_25 (v := .int (σ 5 4)) rfl ?_
    refine Vicge (fun v => (v, σ)) dX2_tell_9 18 12 (by decide) rfl (fun h2 => ?_) (fun h2 => ?_)
    · refine Viconst dX2_tell_18 (-1 : Int32) (by decide) 19 rfl ?_
      exact Viret dX2_tell_19
    · refine Vload_n dX2_tell_12 1 rfl 13 rfl ?_
      refine Vbipush dX2_tell_13 (30 : Int32) (by decide) 15 rfl ?_
      refine Viclt (fun v => (v, σ)) dX2_tell_15 20 18 (by decide) rfl (fun h3 => ?_) (fun h3 => ?_)
      · refine Vload_n dX2_tell_20 1 rfl 21 rfl ?_
        refine Vaload_n dX2_tell_21 0 rfl 22 rfl ?_
        refine Vget (5) 3 dX2_tell_22 25 rfl (hF.1 5 (by decide)) wk5 rfl inX2 (by decide) wd_fl_RX2_21 (v := .int (σ 5 3)) rfl ?_
        refine Vicgt (fun v => (v, σ)) dX2_tell_25 37 28 (by decide) rfl (fun h4 => ?_) (fun h4 => ?_)
        · refine Vaload_n dX2_tell_37 0 rfl 38 rfl ?_
          refine Vget (5) 3 dX2_tell_38 41 rfl (hF.1 5 (by decide)) wk5 rfl inX2 (by decide) wd_fl_RX2_21 (v := .int (σ 5 3)) rfl ?_
          refine Vload_n dX2_tell_41 1 rfl 42 rfl ?_
          refine Visub dX2_tell_42 43 rfl ?_
          refine Vbipush dX2_tell_43 (30 : Int32) (by decide) 45 rfl ?_
          refine Viadd dX2_tell_45 46 rfl ?_
          refine Vstore_n dX2_tell_46 [(3, .int (((σ 5 3) - x1) + (30 : Int32))), (0, .ref (ad G 5)), (1, .int x1), (2, .int x2)] 47 rfl (by decide) rfl ?_
          refine Vload_n dX2_tell_47 0 rfl 48 rfl ?_
          refine Viflt (fun v => (v, σ)) dX2_tell_48 57 51 (by decide) rfl (fun h5 => ?_) (fun h5 => ?_)
          · refine Viconst dX2_tell_57 (-1 : Int32) (by decide) 58 rfl ?_
            exact Viret dX2_tell_58
          · refine Vload_n dX2_tell_51 0 rfl 52 rfl ?_
            refine Vbipush dX2_tell_52 (30 : Int32) (by decide) 54 rfl ?_
            refine Viclt (fun v => (v, σ)) dX2_tell_54 59 57 (by decide) rfl (fun h6 => ?_) (fun h6 => ?_)
            · refine Vload_n dX2_tell_59 3 rfl 60 rfl ?_
              refine Vifne (fun v => (v, σ)) dX2_tell_60 70 63 (by decide) rfl (fun h7 => ?_) (fun h7 => ?_)
              · refine Vload_n dX2_tell_70 3 rfl 71 rfl ?_
                refine Viconst dX2_tell_71 (1 : Int32) (by decide) 72 rfl ?_
                refine Vicne (fun v => (v, σ)) dX2_tell_72 84 75 (by decide) rfl (fun h8 => ?_) (fun h8 => ?_)
                · refine Vaload_n dX2_tell_84 1 rfl 85 rfl ?_
                  refine Vget (5) 2 dX2_tell_85 88 rfl (hF.1 5 (by decide)) wk5 rfl inX2 (by decide) wd_fl_RX2_18 (v := .ref (ad G 8)) rfl ?_
                  refine Vload_n dX2_tell_88 0 rfl 89 rfl ?_
                  refine Vld dX2_tell_89 90 rfl (hF.1 8 (by decide)) wk8 wn8 hF.2.1 (by first | exact (by assumption) | exact (vin_cmp2 (by assumption) (by assumption) (by decide)) | exact (vin_cell (by assumption)) | exact (vin_reg (by assumption)) | exact (vin_row (by assumption)) | exact (vin_cnt (by assumption) (by assumption) (by decide) (by decide) (by assumption)) | exact (vin_cmp (by assumption) (by assumption) (by decide)) | exact (vp_in_iff.mpr (by decide))) ?_
                  exact Viret dX2_tell_90
                · refine Vaload_n dX2_tell_75 1 rfl 76 rfl ?_
                  refine Vget (5) 1 dX2_tell_76 79 rfl (hF.1 5 (by decide)) wk5 rfl inX2 (by decide) wd_fl_RX2_15 (v := .ref (ad G 7)) rfl ?_
                  refine Vload_n dX2_tell_79 0 rfl 80 rfl ?_
                  refine Vld dX2_tell_80 81 rfl (hF.1 7 (by decide)) wk7 wn7 hF.2.1 (by first | exact (by assumption) | exact (vin_cmp2 (by assumption) (by assumption) (by decide)) | exact (vin_cell (by assumption)) | exact (vin_reg (by assumption)) | exact (vin_row (by assumption)) | exact (vin_cnt (by assumption) (by assumption) (by decide) (by decide) (by assumption)) | exact (vin_cmp (by assumption) (by assumption) (by decide)) | exact (vp_in_iff.mpr (by decide))) ?_
                  refine Vgoto dX2_tell_81 90 (by decide) ?_
                  exact Viret dX2_tell_90
              · refine Vaload_n dX2_tell_63 1 rfl 64 rfl ?_
                refine Vget (5) 0 dX2_tell_64 67 rfl (hF.1 5 (by decide)) wk5 rfl inX2 (by decide) wd_fl_RX2_9 (v := .ref (ad G 6)) rfl ?_
                refine Vload_n dX2_tell_67 0 rfl 68 rfl ?_
                refine Vld dX2_tell_68 69 rfl (hF.1 6 (by decide)) wk6 wn6 hF.2.1 (by first | exact (by assumption) | exact (vin_cmp2 (by assumption) (by assumption) (by decide)) | exact (vin_cell (by assumption)) | exact (vin_reg (by assumption)) | exact (vin_row (by assumption)) | exact (vin_cnt (by assumption) (by assumption) (by decide) (by decide) (by assumption)) | exact (vin_cmp (by assumption) (by assumption) (by decide)) | exact (vp_in_iff.mpr (by decide))) ?_
                exact Viret dX2_tell_69
            · refine Viconst dX2_tell_57 (-1 : Int32) (by decide) 58 rfl ?_
              exact Viret dX2_tell_58
        · refine Vaload_n dX2_tell_28 0 rfl 29 rfl ?_
          refine Vget (5) 3 dX2_tell_29 32 rfl (hF.1 5 (by decide)) wk5 rfl inX2 (by decide) wd_fl_RX2_21 (v := .int (σ 5 3)) rfl ?_
          refine Vload_n dX2_tell_32 1 rfl 33 rfl ?_
          refine Visub dX2_tell_33 34 rfl ?_
          refine Vgoto dX2_tell_34 46 (by decide) ?_
          refine Vstore_n dX2_tell_46 [(3, .int ((σ 5 3) - x1)), (0, .ref (ad G 5)), (1, .int x1), (2, .int x2)] 47 rfl (by decide) rfl ?_
          refine Vload_n dX2_tell_47 0 rfl 48 rfl ?_
          refine Viflt (fun v => (v, σ)) dX2_tell_48 57 51 (by decide) rfl (fun h9 => ?_) (fun h9 => ?_)
          · refine Viconst dX2_tell_57 (-1 : Int32) (by decide) 58 rfl ?_
            exact Viret dX2_tell_58
          · refine Vload_n dX2_tell_51 0 rfl 52 rfl ?_
            refine Vbipush dX2_tell_52 (30 : Int32) (by decide) 54 rfl ?_
            refine Viclt (fun v => (v, σ)) dX2_tell_54 59 57 (by decide) rfl (fun h10 => ?_) (fun h10 => ?_)
            · refine Vload_n dX2_tell_59 3 rfl 60 rfl ?_
              refine Vifne (fun v => (v, σ)) dX2_tell_60 70 63 (by decide) rfl (fun h11 => ?_) (fun h11 => ?_)
              · refine Vload_n dX2_tell_70 3 rfl 71 rfl ?_
                refine Viconst dX2_tell_71 (1 : Int32) (by decide) 72 rfl ?_
                refine Vicne (fun v => (v, σ)) dX2_tell_72 84 75 (by decide) rfl (fun h12 => ?_) (fun h12 => ?_)
                · refine Vaload_n dX2_tell_84 1 rfl 85 rfl ?_
                  refine Vget (5) 2 dX2_tell_85 88 rfl (hF.1 5 (by decide)) wk5 rfl inX2 (by decide) wd_fl_RX2_18 (v := .ref (ad G 8)) rfl ?_
                  refine Vload_n dX2_tell_88 0 rfl 89 rfl ?_
                  refine Vld dX2_tell_89 90 rfl (hF.1 8 (by decide)) wk8 wn8 hF.2.1 (by first | exact (by assumption) | exact (vin_cmp2 (by assumption) (by assumption) (by decide)) | exact (vin_cell (by assumption)) | exact (vin_reg (by assumption)) | exact (vin_row (by assumption)) | exact (vin_cnt (by assumption) (by assumption) (by decide) (by decide) (by assumption)) | exact (vin_cmp (by assumption) (by assumption) (by decide)) | exact (vp_in_iff.mpr (by decide))) ?_
                  exact Viret dX2_tell_90
                · refine Vaload_n dX2_tell_75 1 rfl 76 rfl ?_
                  refine Vget (5) 1 dX2_tell_76 79 rfl (hF.1 5 (by decide)) wk5 rfl inX2 (by decide) wd_fl_RX2_15 (v := .ref (ad G 7)) rfl ?_
                  refine Vload_n dX2_tell_79 0 rfl 80 rfl ?_
                  refine Vld dX2_tell_80 81 rfl (hF.1 7 (by decide)) wk7 wn7 hF.2.1 (by first | exact (by assumption) | exact (vin_cmp2 (by assumption) (by assumption) (by decide)) | exact (vin_cell (by assumption)) | exact (vin_reg (by assumption)) | exact (vin_row (by assumption)) | exact (vin_cnt (by assumption) (by assumption) (by decide) (by decide) (by assumption)) | exact (vin_cmp (by assumption) (by assumption) (by decide)) | exact (vp_in_iff.mpr (by decide))) ?_
                  refine Vgoto dX2_tell_81 90 (by decide) ?_
                  exact Viret dX2_tell_90
              · refine Vaload_n dX2_tell_63 1 rfl 64 rfl ?_
                refine Vget (5) 0 dX2_tell_64 67 rfl (hF.1 5 (by decide)) wk5 rfl inX2 (by decide) wd_fl_RX2_9 (v := .ref (ad G 6)) rfl ?_
                refine Vload_n dX2_tell_67 0 rfl 68 rfl ?_
                refine Vld dX2_tell_68 69 rfl (hF.1 6 (by decide)) wk6 wn6 hF.2.1 (by first | exact (by assumption) | exact (vin_cmp2 (by assumption) (by assumption) (by decide)) | exact (vin_cell (by assumption)) | exact (vin_reg (by assumption)) | exact (vin_row (by assumption)) | exact (vin_cnt (by assumption) (by assumption) (by decide) (by decide) (by assumption)) | exact (vin_cmp (by assumption) (by assumption) (by decide)) | exact (vp_in_iff.mpr (by decide))) ?_
                exact Viret dX2_tell_69
            · refine Viconst dX2_tell_57 (-1 : Int32) (by decide) 58 rfl ?_
              exact Viret dX2_tell_58
      · refine Viconst dX2_tell_18 (-1 : Int32) (by decide) 19 rfl ?_
        exact Viret dX2_tell_19
