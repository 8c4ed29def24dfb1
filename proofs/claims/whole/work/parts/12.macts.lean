def f_X6_r (σ : mS) (x1 : Int32) (x2 : Int32) : Int32 := (σ 65 (((4 : Int32) * x1) + x2).toNatClampNeg)
theorem mw_X6_r : mW yX6_r cX6_r 3 (some .int) 2 := ⟨wd_co_yX6_r, wd_ini_RX6, ⟨by decide, by decide⟩, by decide +kernel, by decide⟩
set_option maxRecDepth 100000 in
set_option maxHeartbeats 4000000 in
theorem c_X6_r (l : Launch) {G : gT} (hF : FullR G) (σ : mS) (x1 : Int32) (x2 : Int32) (ht : vp_in x1 3) (hi4 : vp_in x2 4) : Ct l G yX6_r cX6_r 3 (some .int) 0 [.ref (ad G 53), .int x1, .int x2] κI σ (f_X6_r σ x1 x2, σ) := by
  refine Ct.ofV [(0, .ref (ad G 53)), (1, .int x1), (2, .int x2)] rfl (by decide) (Nat.le_of_ble_eq_true rfl) rfl (fun X => ?_)
  unfold f_X6_r
  refine Vaload_n dX6_r_0 0 rfl 1 rfl ?_
  refine Vget (53) 12 dX6_r_1 4 rfl (hF.1 53 (by decide)) wk53 rfl inX6 (by decide) wd_fl_RX6_44 (v := .ref (ad G 65)) rfl ?_
  refine Viconst dX6_r_4 (4 : Int32) (by decide) 5 rfl ?_
  refine Vload_n dX6_r_5 1 rfl 6 rfl ?_
  refine Vimul dX6_r_6 7 rfl ?_
  refine Vload_n dX6_r_7 2 rfl 8 rfl ?_
  refine Viadd dX6_r_8 9 rfl ?_
  refine Vld dX6_r_9 10 rfl (hF.1 65 (by decide)) wk65 wn65 hF.2.1 (by first | exact (vmul 4 3 (by decide) (by assumption) (by assumption) (by decide)) | exact (vmul 4 3 (by decide) (vin_w (by assumption) (by decide)) (by assumption) (by decide)) | exact (vmul 4 3 (by decide) (by assumption) (vin_cnt (by assumption) (by assumption) (by decide) (by decide) (by assumption)) (by decide)) | exact (vmul 4 3 (by decide) (vin_w (by assumption) (by decide)) (vin_cnt (by assumption) (by assumption) (by decide) (by decide) (by assumption)) (by decide)) | exact (vmul 4 3 (by decide) (by assumption) (vin_mRegister (by assumption)) (by decide)) | exact (vmul 4 3 (by decide) (vin_w (by assumption) (by decide)) (vin_mRegister (by assumption)) (by decide))) ?_
  exact Viret dX6_r_10
def f_X6_give (σ : mS) (x1 : Int32) (x2 : Int32) (x3 : Int32) : Int32 × mS := (if (σ 53 32) = 0 then (0, (st2 σ 65 (((4 : Int32) * x1) + x2).toNatClampNeg x3)) else (0, σ))
theorem mw_X6_give : mW yX6_give cX6_give 4 none 3 := ⟨wd_co_yX6_give, wd_ini_RX6, ⟨by decide, by decide⟩, by decide +kernel, by decide⟩
set_option maxRecDepth 100000 in
set_option maxHeartbeats 4000000 in
theorem c_X6_give (l : Launch) {G : gT} (hF : FullR G) (σ : mS) (x1 : Int32) (x2 : Int32) (x3 : Int32) (ht : vp_in x1 3) (hi4 : vp_in x2 4) : Ct l G yX6_give cX6_give 4 none 0 [.ref (ad G 53), .int x1, .int x2, .int x3] κV σ (f_X6_give σ x1 x2 x3) := by
  refine Ct.ofV [(0, .ref (ad G 53)), (1, .int x1), (2, .int x2), (3, .int x3)] rfl (by decide) (Nat.le_of_ble_eq_true rfl) rfl (fun X => ?_)
  unfold f_X6_give
  refine Vaload_n dX6_give_0 0 rfl 1 rfl ?_
  refine Vget (53) 32 dX6_give_1 4 rfl (hF.1 53 (by decide)) wk53 rfl inX6 (by decide) wd_fl_RX6_133 (v := .int (σ 53 32)) rfl ?_
  refine Vifne (fun v => v) dX6_give_4 18 7 (by decide) rfl (fun h1 => ?_) (fun h1 => ?_)
  · exact Vvret dX6_give_18
  · refine Vaload_n dX6_give_7 0 rfl 8 rfl ?_
    refine Vget (53) 12 dX6_give_8 11 rfl (hF.1 53 (by decide)) wk53 rfl inX6 (by decide) wd_fl_RX6_44 (v := .ref (ad G 65)) rfl ?_
    refine Viconst dX6_give_11 (4 : Int32) (by decide) 12 rfl ?_
    refine Vload_n dX6_give_12 1 rfl 13 rfl ?_
    refine Vimul dX6_give_13 14 rfl ?_
    refine Vload_n dX6_give_14 2 rfl 15 rfl ?_
    refine Viadd dX6_give_15 16 rfl ?_
    refine Vload_n dX6_give_16 3 rfl 17 rfl ?_
    refine Vst dX6_give_17 18 rfl (hF.1 65 (by decide)) wk65 wn65 hF.2.1 (by first | exact (vmul 4 3 (by decide) (by assumption) (by assumption) (by decide)) | exact (vmul 4 3 (by decide) (vin_w (by assumption) (by decide)) (by assumption) (by decide)) | exact (vmul 4 3 (by decide) (by assumption) (vin_cnt (by assumption) (by assumption) (by decide) (by decide) (by assumption)) (by decide)) | exact (vmul 4 3 (by decide) (vin_w (by assumption) (by decide)) (vin_cnt (by assumption) (by assumption) (by decide) (by decide) (by assumption)) (by decide)) | exact (vmul 4 3 (by decide) (by assumption) (vin_mRegister (by assumption)) (by decide)) | exact (vmul 4 3 (by decide) (vin_w (by assumption) (by decide)) (vin_mRegister (by assumption)) (by decide))) ?_
    exact Vvret dX6_give_18
def f_X6_checkItem (σ : mS) (x1 : Int32) (x2 : Int32) : Int32 × mS := (if (σ 57 x1.toNatClampNeg) = (-1 : Int32) then (0, (st2 σ 53 32 (1 : Int32))) else (if (f_X6_within x2 (0 : Int32) ((σ 57 x1.toNatClampNeg) - (1 : Int32))) = 0 then (0, (st2 σ 53 32 (3 : Int32))) else (0, (st2 σ 53 32 (0 : Int32)))))
theorem mw_X6_checkItem : mW yX6_checkItem cX6_checkItem 3 none 2 := ⟨wd_co_yX6_checkItem, wd_ini_RX6, ⟨by decide, by decide⟩, by decide +kernel, by decide⟩
set_option maxRecDepth 100000 in
set_option maxHeartbeats 4000000 in
theorem c_X6_checkItem (l : Launch) {G : gT} (hF : FullR G) (σ : mS) (x1 : Int32) (x2 : Int32) (hr4 : vp_in x1 4) : Ct l G yX6_checkItem cX6_checkItem 3 none 1 [.ref (ad G 53), .int x1, .int x2] κV σ (f_X6_checkItem σ x1 x2) := by
  refine Ct.ofV [(0, .ref (ad G 53)), (1, .int x1), (2, .int x2)] rfl (by decide) (Nat.le_of_ble_eq_true rfl) rfl (fun X => ?_)
  unfold f_X6_checkItem
  refine Vaload_n dX6_checkItem_0 0 rfl 1 rfl ?_
  refine Vaload_n dX6_checkItem_1 0 rfl 2 rfl ?_
  refine Vget (53) 4 dX6_checkItem_2 5 rfl (hF.1 53 (by decide)) wk53 rfl inX6 (by decide) wd_fl_RX6_20 (v := .ref (ad G 57)) rfl ?_
  refine Vload_n dX6_checkItem_5 1 rfl 6 rfl ?_
  refine Vld dX6_checkItem_6 7 rfl (hF.1 57 (by decide)) wk57 wn57 hF.2.1 (by first | exact (by assumption) | exact (vin_cmp2 (by assumption) (by assumption) (by decide)) | exact (vin_cell (by assumption)) | exact (vin_reg (by assumption)) | exact (vin_row (by assumption)) | exact (vin_cnt (by assumption) (by assumption) (by decide) (by decide) (by assumption)) | exact (vin_cmp (by assumption) (by assumption) (by decide)) | exact (vp_in_iff.mpr (by decide)) | exact (vin_mCell (by assumption)) | exact (vin_mRegister (by assumption)) | exact (vin_w (by assumption) (by decide))) ?_
  refine Viconst dX6_checkItem_7 (-1 : Int32) (by decide) 8 rfl ?_
  refine Vicne (fun v => v) dX6_checkItem_8 15 11 (by decide) rfl (fun h1 => ?_) (fun h1 => ?_)
  · refine Vload_n dX6_checkItem_15 2 rfl 16 rfl ?_
    refine Viconst dX6_checkItem_16 (0 : Int32) (by decide) 17 rfl ?_
    refine Vaload_n dX6_checkItem_17 0 rfl 18 rfl ?_
    refine Vget (53) 4 dX6_checkItem_18 21 rfl (hF.1 53 (by decide)) wk53 rfl inX6 (by decide) wd_fl_RX6_20 (v := .ref (ad G 57)) rfl ?_
    refine Vload_n dX6_checkItem_21 1 rfl 22 rfl ?_
    refine Vld dX6_checkItem_22 23 rfl (hF.1 57 (by decide)) wk57 wn57 hF.2.1 (by first | exact (by assumption) | exact (vin_cmp2 (by assumption) (by assumption) (by decide)) | exact (vin_cell (by assumption)) | exact (vin_reg (by assumption)) | exact (vin_row (by assumption)) | exact (vin_cnt (by assumption) (by assumption) (by decide) (by decide) (by assumption)) | exact (vin_cmp (by assumption) (by assumption) (by decide)) | exact (vp_in_iff.mpr (by decide)) | exact (vin_mCell (by assumption)) | exact (vin_mRegister (by assumption)) | exact (vin_w (by assumption) (by decide))) ?_
    refine Viconst dX6_checkItem_23 (1 : Int32) (by decide) 24 rfl ?_
    refine Visub dX6_checkItem_24 25 rfl ?_
    refine VcSp dX6_checkItem_25 [.int x2, .int (0 : Int32), .int ((σ 57 x1.toNatClampNeg) - (1 : Int32))] (c_X6_within l hF σ x2 (0 : Int32) ((σ 57 x1.toNatClampNeg) - (1 : Int32))) mw_X6_within wd_sm_yX6_within wd_ml_RX6_111 (by decide) rfl rfl (Nat.le_of_ble_eq_true rfl) 28 rfl ?_
    refine Vifeq (fun v => v) dX6_checkItem_28 35 31 (by decide) rfl (fun h2 => ?_) (fun h2 => ?_)
    · refine Viconst dX6_checkItem_35 (3 : Int32) (by decide) 36 rfl ?_
      refine Vput (53) 32 tyX6 dX6_checkItem_36 39 rfl (hF.1 53 (by decide)) wk53 rfl inX6 tyX6_ok nmX6 (by decide) wd_fl_RX6_133 rfl (ty := .int) (by decide +kernel) rfl rfl (fun f => rfl) (fun f => Nat.le_of_ble_eq_true rfl) ?_
      exact Vvret dX6_checkItem_39
    · refine Viconst dX6_checkItem_31 (0 : Int32) (by decide) 32 rfl ?_
      refine Vgoto dX6_checkItem_32 36 (by decide) ?_
      refine Vput (53) 32 tyX6 dX6_checkItem_36 39 rfl (hF.1 53 (by decide)) wk53 rfl inX6 tyX6_ok nmX6 (by decide) wd_fl_RX6_133 rfl (ty := .int) (by decide +kernel) rfl rfl (fun f => rfl) (fun f => Nat.le_of_ble_eq_true rfl) ?_
      exact Vvret dX6_checkItem_39
  · refine Viconst dX6_checkItem_11 (1 : Int32) (by decide) 12 rfl ?_
    refine Vgoto dX6_checkItem_12 36 (by decide) ?_
    refine Vput (53) 32 tyX6 dX6_checkItem_36 39 rfl (hF.1 53 (by decide)) wk53 rfl inX6 tyX6_ok nmX6 (by decide) wd_fl_RX6_133 rfl (ty := .int) (by decide +kernel) rfl rfl (fun f => rfl) (fun f => Nat.le_of_ble_eq_true rfl) ?_
    exact Vvret dX6_checkItem_39
theorem ck_r {σ : mS} {t z row : Int32} (hS : σ 57 row.toNatClampNeg = -1 ∨ vp_in (σ 57 row.toNatClampNeg) 9) : (f_X6_checkItem σ row (f_X6_r σ t z)).2 53 32 = 0 → vp_in (f_X6_r (f_X6_checkItem σ row (f_X6_r σ t z)).2 t z) 8 := by
  intro h
  unfold f_X6_checkItem at h ⊢
  by_cases h1 : σ 57 row.toNatClampNeg = -1
  · rw [if_pos h1] at h; simp [st2] at h
  · rw [if_neg h1] at h ⊢
    by_cases h2 : f_X6_within (f_X6_r σ t z) 0 (σ 57 row.toNatClampNeg - 1) = 0
    · rw [if_pos h2] at h; simp [st2] at h
    · rw [if_neg h2]
      obtain ⟨a, b⟩ := within_iff.mp h2
      have e : f_X6_r (st2 σ 53 32 0) t z = f_X6_r σ t z := by unfold f_X6_r; simp [st2]
      show vp_in (f_X6_r (st2 σ 53 32 0) t z) 8
      rw [e]
      rcases hS with e1 | e1
      · exact absurd e1 h1
      · obtain ⟨j, hj, e2⟩ := vp_in_of e1 (by decide)
        rw [e2] at b
        rw [i32_le, Int32.toInt_zero] at a
        rcases j with _ | j
        · exfalso
          rw [i32_le] at b
          have h3 : (nI 0 - 1).toInt = -1 := by decide
          omega
        · rw [nI_pred, i32_le, nI_toInt (by omega)] at b
          exact vp_in_iff.mpr ⟨a, by omega⟩
def f_X6_compute (σ : mS) (x1 : Int32) (x2 : Int32) (x3 : Int32) (x4 : Int32) (x5 : Int32) : Int32 × mS := (if x2 = (6 : Int32) then (if x5 = 0 then (0, (st2 σ 53 32 (2 : Int32))) else (if x2 = (3 : Int32) then (ap (fun u20 => (0, u20.2)) (f_X6_give σ x1 x3 (x4 + x5))) else (if x2 = (4 : Int32) then (ap (fun u19 => (0, u19.2)) (f_X6_give σ x1 x3 (x4 - x5))) else (if x2 = (5 : Int32) then (ap (fun u18 => (0, u18.2)) (f_X6_give σ x1 x3 (x4 * x5))) else (if x5 = (-1 : Int32) then (ap (fun u17 => (0, u17.2)) (f_X6_give σ x1 x3 ((0 : Int32) - x4))) else (ap (fun u16 => (0, u16.2)) (f_X6_give σ x1 x3 (x4 / x5)))))))) else (if x2 = (3 : Int32) then (ap (fun u10 => (0, u10.2)) (f_X6_give σ x1 x3 (x4 + x5))) else (if x2 = (4 : Int32) then (ap (fun u9 => (0, u9.2)) (f_X6_give σ x1 x3 (x4 - x5))) else (if x2 = (5 : Int32) then (ap (fun u8 => (0, u8.2)) (f_X6_give σ x1 x3 (x4 * x5))) else (if x5 = (-1 : Int32) then (ap (fun u7 => (0, u7.2)) (f_X6_give σ x1 x3 ((0 : Int32) - x4))) else (ap (fun u6 => (0, u6.2)) (f_X6_give σ x1 x3 (x4 / x5))))))))
theorem mw_X6_compute : mW yX6_compute cX6_compute 6 none 5 := ⟨wd_co_yX6_compute, wd_ini_RX6, ⟨by decide, by decide⟩, by decide +kernel, by decide⟩
set_option maxRecDepth 100000 in
set_option maxHeartbeats 4000000 in
theorem c_X6_compute (l : Launch) {G : gT} (hF : FullR G) (σ : mS) (x1 : Int32) (x2 : Int32) (x3 : Int32) (x4 : Int32) (x5 : Int32) (ht : vp_in x1 3) (hx4 : vp_in x3 4) (hk : x2 = 3 ∨ x2 = 4 ∨ x2 = 5 ∨ x2 = 6) : Ct l G yX6_compute cX6_compute 6 none 1 [.ref (ad G 53), .int x1, .int x2, .int x3, .int x4, .int x5] κV σ (f_X6_compute σ x1 x2 x3 x4 x5) := by
  refine Ct.ofV [(0, .ref (ad G 53)), (1, .int x1), (2, .int x2), (3, .int x3), (4, .int x4), (5, .int x5)] rfl (by decide) (Nat.le_of_ble_eq_true rfl) rfl (fun X => ?_)
  unfold f_X6_compute
  refine Vload_n dX6_compute_0 2 rfl 1 rfl ?_
  refine Vbipush dX6_compute_1 (6 : Int32) (by decide) 3 rfl ?_
  refine Vicne (fun v => v) dX6_compute_3 17 6 (by decide) rfl (fun h1 => ?_) (fun h1 => ?_)
  · refine Vaload_n dX6_compute_17 0 rfl 18 rfl ?_
    refine Vload_n dX6_compute_18 1 rfl 19 rfl ?_
    refine Vload_n dX6_compute_19 3 rfl 20 rfl ?_
    refine Vload_n dX6_compute_20 2 rfl 21 rfl ?_
    refine Viconst dX6_compute_21 (3 : Int32) (by decide) 22 rfl ?_
    refine Vicne (fun v => v) dX6_compute_22 33 25 (by decide) rfl (fun h2 => ?_) (fun h2 => ?_)
    · refine Vload_n dX6_compute_33 2 rfl 34 rfl ?_
      refine Viconst dX6_compute_34 (4 : Int32) (by decide) 35 rfl ?_
      refine Vicne (fun v => v) dX6_compute_35 46 38 (by decide) rfl (fun h3 => ?_) (fun h3 => ?_)
      · refine Vload_n dX6_compute_46 2 rfl 47 rfl ?_
        refine Viconst dX6_compute_47 (5 : Int32) (by decide) 48 rfl ?_
        refine Vicne (fun v => v) dX6_compute_48 59 51 (by decide) rfl (fun h4 => ?_) (fun h4 => ?_)
        · refine Vload dX6_compute_59 5 rfl 61 rfl ?_
          refine Viconst dX6_compute_61 (-1 : Int32) (by decide) 62 rfl ?_
          refine Vicne (fun v => v) dX6_compute_62 72 65 (by decide) rfl (fun h5 => ?_) (fun h5 => ?_)
          · refine Vload dX6_compute_72 4 rfl 74 rfl ?_
            refine Vload dX6_compute_74 5 rfl 76 rfl ?_
            refine Vidiv dX6_compute_76 (by first | assumption | (rcases hk with e | e | e | e <;> contradiction)) 77 rfl ?_
            refine Vgen ?_
            intro u6 eu6
            refine VcVv (u := u6) dX6_compute_77 [.int x1, .int x3, .int (x4 / x5)] (by rw [eu6]; exact c_X6_give l hF σ x1 x3 (x4 / x5) (by assumption) (by assumption)) mw_X6_give wd_im_yX6_give wd_se_yX6_give wd_ml_RX6_147 (hF.1 53 (by decide)) wk53 rfl rfl (by decide) rfl rfl (Nat.le_of_ble_eq_true rfl) 80 rfl ?_
            exact Vvret dX6_compute_80
          · refine Viconst dX6_compute_65 (0 : Int32) (by decide) 66 rfl ?_
            refine Vload dX6_compute_66 4 rfl 68 rfl ?_
            refine Visub dX6_compute_68 69 rfl ?_
            refine Vgoto dX6_compute_69 77 (by decide) ?_
            refine Vgen ?_
            intro u7 eu7
            refine VcVv (u := u7) dX6_compute_77 [.int x1, .int x3, .int ((0 : Int32) - x4)] (by rw [eu7]; exact c_X6_give l hF σ x1 x3 ((0 : Int32) - x4) (by assumption) (by assumption)) mw_X6_give wd_im_yX6_give wd_se_yX6_give wd_ml_RX6_147 (hF.1 53 (by decide)) wk53 rfl rfl (by decide) rfl rfl (Nat.le_of_ble_eq_true rfl) 80 rfl ?_
            exact Vvret dX6_compute_80
        · refine Vload dX6_compute_51 4 rfl 53 rfl ?_
          refine Vload dX6_compute_53 5 rfl 55 rfl ?_
          refine Vimul dX6_compute_55 56 rfl ?_
          refine Vgoto dX6_compute_56 77 (by decide) ?_
          refine Vgen ?_
          intro u8 eu8
          refine VcVv (u := u8) dX6_compute_77 [.int x1, .int x3, .int (x4 * x5)] (by rw [eu8]; exact c_X6_give l hF σ x1 x3 (x4 * x5) (by assumption) (by assumption)) mw_X6_give wd_im_yX6_give wd_se_yX6_give wd_ml_RX6_147 (hF.1 53 (by decide)) wk53 rfl rfl (by decide) rfl rfl (Nat.le_of_ble_eq_true rfl) 80 rfl ?_
          exact Vvret dX6_compute_80
      · refine Vload dX6_compute_38 4 rfl 40 rfl ?_
        refine Vload dX6_compute_40 5 rfl 42 rfl ?_
        refine Visub dX6_compute_42 43 rfl ?_
        refine Vgoto dX6_compute_43 77 (by decide) ?_
        refine Vgen ?_
        intro u9 eu9
        refine VcVv (u := u9) dX6_compute_77 [.int x1, .int x3, .int (x4 - x5)] (by rw [eu9]; exact c_X6_give l hF σ x1 x3 (x4 - x5) (by assumption) (by assumption)) mw_X6_give wd_im_yX6_give wd_se_yX6_give wd_ml_RX6_147 (hF.1 53 (by decide)) wk53 rfl rfl (by decide) rfl rfl (Nat.le_of_ble_eq_true rfl) 80 rfl ?_
        exact Vvret dX6_compute_80
    · refine Vload dX6_compute_25 4 rfl 27 rfl ?_
      refine Vload dX6_compute_27 5 rfl 29 rfl ?_
      refine Viadd dX6_compute_29 30 rfl ?_
      refine Vgoto dX6_compute_30 77 (by decide) ?_
      refine Vgen ?_
      intro u10 eu10
      refine VcVv (u := u10) dX6_compute_77 [.int x1, .int x3, .int (x4 + x5)] (by rw [eu10]; exact c_X6_give l hF σ x1 x3 (x4 + x5) (by assumption) (by assumption)) mw_X6_give wd_im_yX6_give wd_se_yX6_give wd_ml_RX6_147 (hF.1 53 (by decide)) wk53 rfl rfl (by decide) rfl rfl (Nat.le_of_ble_eq_true rfl) 80 rfl ?_
      exact Vvret dX6_compute_80
  · refine Vload dX6_compute_6 5 rfl 8 rfl ?_
    refine Vifne (fun v => v) dX6_compute_8 17 11 (by decide) rfl (fun h11 => ?_) (fun h11 => ?_)
    · refine Vaload_n dX6_compute_17 0 rfl 18 rfl ?_
      refine Vload_n dX6_compute_18 1 rfl 19 rfl ?_
      refine Vload_n dX6_compute_19 3 rfl 20 rfl ?_
      refine Vload_n dX6_compute_20 2 rfl 21 rfl ?_
      refine Viconst dX6_compute_21 (3 : Int32) (by decide) 22 rfl ?_
      refine Vicne (fun v => v) dX6_compute_22 33 25 (by decide) rfl (fun h12 => ?_) (fun h12 => ?_)
      · refine Vload_n dX6_compute_33 2 rfl 34 rfl ?_
        refine Viconst dX6_compute_34 (4 : Int32) (by decide) 35 rfl ?_
        refine Vicne (fun v => v) dX6_compute_35 46 38 (by decide) rfl (fun h13 => ?_) (fun h13 => ?_)
        · refine Vload_n dX6_compute_46 2 rfl 47 rfl ?_
          refine Viconst dX6_compute_47 (5 : Int32) (by decide) 48 rfl ?_
          refine Vicne (fun v => v) dX6_compute_48 59 51 (by decide) rfl (fun h14 => ?_) (fun h14 => ?_)
          · refine Vload dX6_compute_59 5 rfl 61 rfl ?_
            refine Viconst dX6_compute_61 (-1 : Int32) (by decide) 62 rfl ?_
            refine Vicne (fun v => v) dX6_compute_62 72 65 (by decide) rfl (fun h15 => ?_) (fun h15 => ?_)
            · refine Vload dX6_compute_72 4 rfl 74 rfl ?_
              refine Vload dX6_compute_74 5 rfl 76 rfl ?_
              refine Vidiv dX6_compute_76 (by first | assumption | (rcases hk with e | e | e | e <;> contradiction)) 77 rfl ?_
              refine Vgen ?_
              intro u16 eu16
              refine VcVv (u := u16) dX6_compute_77 [.int x1, .int x3, .int (x4 / x5)] (by rw [eu16]; exact c_X6_give l hF σ x1 x3 (x4 / x5) (by assumption) (by assumption)) mw_X6_give wd_im_yX6_give wd_se_yX6_give wd_ml_RX6_147 (hF.1 53 (by decide)) wk53 rfl rfl (by decide) rfl rfl (Nat.le_of_ble_eq_true rfl) 80 rfl ?_
              exact Vvret dX6_compute_80
            · refine Viconst dX6_compute_65 (0 : Int32) (by decide) 66 rfl ?_
              refine Vload dX6_compute_66 4 rfl 68 rfl ?_
              refine Visub dX6_compute_68 69 rfl ?_
              refine Vgoto dX6_compute_69 77 (by decide) ?_
              refine Vgen ?_
              intro u17 eu17
              refine VcVv (u := u17) dX6_compute_77 [.int x1, .int x3, .int ((0 : Int32) - x4)] (by rw [eu17]; exact c_X6_give l hF σ x1 x3 ((0 : Int32) - x4) (by assumption) (by assumption)) mw_X6_give wd_im_yX6_give wd_se_yX6_give wd_ml_RX6_147 (hF.1 53 (by decide)) wk53 rfl rfl (by decide) rfl rfl (Nat.le_of_ble_eq_true rfl) 80 rfl ?_
              exact Vvret dX6_compute_80
          · refine Vload dX6_compute_51 4 rfl 53 rfl ?_
            refine Vload dX6_compute_53 5 rfl 55 rfl ?_
            refine Vimul dX6_compute_55 56 rfl ?_
            refine Vgoto dX6_compute_56 77 (by decide) ?_
            refine Vgen ?_
            intro u18 eu18
            refine VcVv (u := u18) dX6_compute_77 [.int x1, .int x3, .int (x4 * x5)] (by rw [eu18]; exact c_X6_give l hF σ x1 x3 (x4 * x5) (by assumption) (by assumption)) mw_X6_give wd_im_yX6_give wd_se_yX6_give wd_ml_RX6_147 (hF.1 53 (by decide)) wk53 rfl rfl (by decide) rfl rfl (Nat.le_of_ble_eq_true rfl) 80 rfl ?_
            exact Vvret dX6_compute_80
        · refine Vload dX6_compute_38 4 rfl 40 rfl ?_
          refine Vload dX6_compute_40 5 rfl 42 rfl ?_
          refine Visub dX6_compute_42 43 rfl ?_
          refine Vgoto dX6_compute_43 77 (by decide) ?_
          refine Vgen ?_
          intro u19 eu19
          refine VcVv (u := u19) dX6_compute_77 [.int x1, .int x3, .int (x4 - x5)] (by rw [eu19]; exact c_X6_give l hF σ x1 x3 (x4 - x5) (by assumption) (by assumption)) mw_X6_give wd_im_yX6_give wd_se_yX6_give wd_ml_RX6_147 (hF.1 53 (by decide)) wk53 rfl rfl (by decide) rfl rfl (Nat.le_of_ble_eq_true rfl) 80 rfl ?_
          exact Vvret dX6_compute_80
      · refine Vload dX6_compute_25 4 rfl 27 rfl ?_
        refine Vload dX6_compute_27 5 rfl 29 rfl ?_
        refine Viadd dX6_compute_29 30 rfl ?_
        refine Vgoto dX6_compute_30 77 (by decide) ?_
        refine Vgen ?_
        intro u20 eu20
        refine VcVv (u := u20) dX6_compute_77 [.int x1, .int x3, .int (x4 + x5)] (by rw [eu20]; exact c_X6_give l hF σ x1 x3 (x4 + x5) (by assumption) (by assumption)) mw_X6_give wd_im_yX6_give wd_se_yX6_give wd_ml_RX6_147 (hF.1 53 (by decide)) wk53 rfl rfl (by decide) rfl rfl (Nat.le_of_ble_eq_true rfl) 80 rfl ?_
        exact Vvret dX6_compute_80
    · refine Vaload_n dX6_compute_11 0 rfl 12 rfl ?_
      refine Viconst dX6_compute_12 (2 : Int32) (by decide) 13 rfl ?_
      refine Vput (53) 32 tyX6 dX6_compute_13 16 rfl (hF.1 53 (by decide)) wk53 rfl inX6 tyX6_ok nmX6 (by decide) wd_fl_RX6_133 rfl (ty := .int) (by decide +kernel) rfl rfl (fun f => rfl) (fun f => Nat.le_of_ble_eq_true rfl) ?_
      exact Vvret dX6_compute_16
def f_X6_swap (σ : mS) (x1 : Int32) (x2 : Int32) (x3 : Int32) (x4 : Int32) : Int32 × mS := (ap (fun u1 => (if (u1.2 53 32) = 0 then (if u1.1 = (f_X6_r u1.2 x1 x3) then (ap (fun u8 => (ap (fun u10 => (0, u10.2)) (f_X6_give u8.2 x1 x3 (1 : Int32)))) (f_X6_lay u1.2 x1 x2 (f_X6_r u1.2 x1 x4))) else (ap (fun u6 => (0, u6.2)) (f_X6_give u1.2 x1 x3 (0 : Int32)))) else (0, u1.2))) (f_X6_read σ x1 x2))
theorem mw_X6_swap : mW yX6_swap cX6_swap 7 none 4 := ⟨wd_co_yX6_swap, wd_ini_RX6, ⟨by decide, by decide⟩, by decide +kernel, by decide⟩
set_option maxRecDepth 100000 in
set_option maxHeartbeats 4000000 in
theorem c_X6_swap (l : Launch) {G : gT} (hF : FullR G) (σ : mS) (x1 : Int32) (x2 : Int32) (x3 : Int32) (x4 : Int32) (ht : vp_in x1 3) (hcc : vp_in x2 8) (hy4 : vp_in x3 4) (hz4 : vp_in x4 4) (hL : Lz σ) (b : Nat) (hw : Wr σ b) (hb : b < 2 ^ 28) : Ct l G yX6_swap cX6_swap 7 none 4 [.ref (ad G 53), .int x1, .int x2, .int x3, .int x4] κV σ (f_X6_swap σ x1 x2 x3 x4) := by
  refine Ct.ofV [(0, .ref (ad G 53)), (1, .int x1), (2, .int x2), (3, .int x3), (4, .int x4)] rfl (by decide) (Nat.le_of_ble_eq_true rfl) rfl (fun X => ?_)
  unfold f_X6_swap
  refine Vaload_n dX6_swap_0 0 rfl 1 rfl ?_
  refine Vload_n dX6_swap_1 1 rfl 2 rfl ?_
  refine Vload_n dX6_swap_2 2 rfl 3 rfl ?_
  refine Vgen ?_
  intro u1 eu1
  refine VcVi (u := u1) dX6_swap_3 [.int x1, .int x2] (by rw [eu1]; exact c_X6_read l hF σ x1 x2 ht hcc hL b hw (by omega)) mw_X6_read wd_im_yX6_read wd_se_yX6_read wd_ml_RX6_150 (hF.1 53 (by decide)) wk53 rfl rfl (by decide) rfl rfl (Nat.le_of_ble_eq_true rfl) 6 rfl ?_
  have hwR : Wr u1.2 (b + 10) := by rw [eu1]; exact Wr_read hw _ _
  refine Vstore dX6_swap_6 [(5, .int u1.1), (0, .ref (ad G 53)), (1, .int x1), (2, .int x2), (3, .int x3), (4, .int x4)] 8 rfl (by decide) rfl ?_
  refine Vaload_n dX6_swap_8 1 rfl 9 rfl ?_
  refine Vget (53) 32 dX6_swap_9 12 rfl (hF.1 53 (by decide)) wk53 rfl inX6 (by decide) wd_fl_RX6_133 (v := .int (u1.2 53 32)) rfl ?_
  refine Vifeq (fun v => v) dX6_swap_12 16 15 (by decide) rfl (fun h2 => ?_) (fun h2 => ?_)
  · refine Vload dX6_swap_16 0 rfl 18 rfl ?_
    refine Vaload_n dX6_swap_18 1 rfl 19 rfl ?_
    refine Vload_n dX6_swap_19 2 rfl 20 rfl ?_
    refine Vload_n dX6_swap_20 4 rfl 21 rfl ?_
    refine VcVp dX6_swap_21 [.int x1, .int x3] (c_X6_r l hF u1.2 x1 x3 (by assumption) (by assumption)) mw_X6_r wd_im_yX6_r wd_se_yX6_r wd_ml_RX6_153 (hF.1 53 (by decide)) wk53 rfl rfl (by decide) rfl rfl (Nat.le_of_ble_eq_true rfl) 24 rfl ?_
    refine Vicne (fun v => v) dX6_swap_24 31 27 (by decide) rfl (fun h3 => ?_) (fun h3 => ?_)
    · refine Viconst dX6_swap_31 (0 : Int32) (by decide) 32 rfl ?_
      refine Vstore dX6_swap_32 [(6, .int (0 : Int32)), (5, .int u1.1), (0, .ref (ad G 53)), (1, .int x1), (2, .int x2), (3, .int x3), (4, .int x4)] 34 rfl (by decide) rfl ?_
      refine Vload dX6_swap_34 0 rfl 36 rfl ?_
      refine Kifeqt dX6_swap_36 52 (by decide) (by decide) ?_
      refine Vaload_n dX6_swap_52 2 rfl 53 rfl ?_
      refine Vload_n dX6_swap_53 3 rfl 54 rfl ?_
      refine Vload_n dX6_swap_54 5 rfl 55 rfl ?_
      refine Vload dX6_swap_55 0 rfl 57 rfl ?_
      refine Kifeqt dX6_swap_57 64 (by decide) (by decide) ?_
      refine Viconst dX6_swap_64 (0 : Int32) (by decide) 65 rfl ?_
      refine Vgen ?_
      intro u6 eu6
      refine VcVv (u := u6) dX6_swap_65 [.int x1, .int x3, .int (0 : Int32)] (by rw [eu6]; exact c_X6_give l hF u1.2 x1 x3 (0 : Int32) (by assumption) (by assumption)) mw_X6_give wd_im_yX6_give wd_se_yX6_give wd_ml_RX6_147 (hF.1 53 (by decide)) wk53 rfl rfl (by decide) rfl rfl (Nat.le_of_ble_eq_true rfl) 68 rfl ?_
      exact Vvret dX6_swap_68
    · refine Viconst dX6_swap_27 (1 : Int32) (by decide) 28 rfl ?_
      refine Vgoto dX6_swap_28 32 (by decide) ?_
      refine Vstore dX6_swap_32 [(6, .int (1 : Int32)), (5, .int u1.1), (0, .ref (ad G 53)), (1, .int x1), (2, .int x2), (3, .int x3), (4, .int x4)] 34 rfl (by decide) rfl ?_
      refine Vload dX6_swap_34 0 rfl 36 rfl ?_
      refine Kifeqf dX6_swap_36 39 (by decide) rfl 52 (by decide) ?_
      refine Vaload_n dX6_swap_39 2 rfl 40 rfl ?_
      refine Vload_n dX6_swap_40 3 rfl 41 rfl ?_
      refine Vload_n dX6_swap_41 4 rfl 42 rfl ?_
      refine Vaload_n dX6_swap_42 2 rfl 43 rfl ?_
      refine Vload_n dX6_swap_43 3 rfl 44 rfl ?_
      refine Vload dX6_swap_44 6 rfl 46 rfl ?_
      refine VcVp dX6_swap_46 [.int x1, .int x4] (c_X6_r l hF u1.2 x1 x4 (by assumption) (by assumption)) mw_X6_r wd_im_yX6_r wd_se_yX6_r wd_ml_RX6_153 (hF.1 53 (by decide)) wk53 rfl rfl (by decide) rfl rfl (Nat.le_of_ble_eq_true rfl) 49 rfl ?_
      refine Vgen ?_
      intro u8 eu8
      refine VcVv (u := u8) dX6_swap_49 [.int x1, .int x2, .int (f_X6_r u1.2 x1 x4)] (by rw [eu8]; exact c_X6_lay l hF u1.2 x1 x2 (f_X6_r u1.2 x1 x4) ht hcc (b + 10) hwR (by omega)) mw_X6_lay wd_im_yX6_lay wd_se_yX6_lay wd_ml_RX6_156 (hF.1 53 (by decide)) wk53 rfl rfl (by decide) rfl rfl (Nat.le_of_ble_eq_true rfl) 52 rfl ?_
      refine Vaload_n dX6_swap_52 2 rfl 53 rfl ?_
      refine Vload_n dX6_swap_53 3 rfl 54 rfl ?_
      refine Vload_n dX6_swap_54 5 rfl 55 rfl ?_
      refine Vload dX6_swap_55 0 rfl 57 rfl ?_
      refine Kifeqf dX6_swap_57 60 (by decide) rfl 64 (by decide) ?_
      refine Viconst dX6_swap_60 (1 : Int32) (by decide) 61 rfl ?_
      refine Vgoto dX6_swap_61 65 (by decide) ?_
      refine Vgen ?_
      intro u10 eu10
      refine VcVv (u := u10) dX6_swap_65 [.int x1, .int x3, .int (1 : Int32)] (by rw [eu10]; exact c_X6_give l hF u8.2 x1 x3 (1 : Int32) (by assumption) (by assumption)) mw_X6_give wd_im_yX6_give wd_se_yX6_give wd_ml_RX6_147 (hF.1 53 (by decide)) wk53 rfl rfl (by decide) rfl rfl (Nat.le_of_ble_eq_true rfl) 68 rfl ?_
      exact Vvret dX6_swap_68
  · exact Vvret dX6_swap_15
def l_X6_rows_200 : Nat → Int32 → mS → Int32 → Int32 → Int32 × mS
  | 0, y7, σ, _, _ => (y7, σ)
  | n + 1, y7, σ, x3, p6 => (if p6 ≤ y7 then (y7, σ) else (l_X6_rows_200 n (y7 + 1) (st2 σ 58 (((8 : Int32) * x3) + y7).toNatClampNeg (0 : Int32)) x3 p6))
set_option maxRecDepth 100000 in
set_option maxHeartbeats 4000000 in
theorem vl_X6_rows_200 (l : Launch) {G : gT} (X : xT) (hF : FullR G) (x3 : Int32) (p6 : Int32) (hp6 : p6 ≤ (8 : Int32)) (hx3 : vp_in x3 4) {B : Int32 × mS → Int32 × mS} : ∀ (n : Nat) (y7 : Int32) (σ : mS) (i : Nat) (hc : y7 = nI i) (hi : i ≤ 8) (hn : n + i = 9) (hk : ∀ u : Int32 × mS, V l G X RX6 cX6_rows 8 2 none κV ((fun v => ap B v) u) u.2 226 [(0, .ref (ad G 53)), (3, .int x3), (6, .int p6), (7, .int u.1)] []), V l G X RX6 cX6_rows 8 2 none κV ((fun v => ap B v) (l_X6_rows_200 n y7 σ x3 p6)) σ 200 [(0, .ref (ad G 53)), (3, .int x3), (6, .int p6), (7, .int y7)] [] := by
  intro n
  induction n with
  | zero => intro y7 σ i hc hi hn hk; exact absurd hn (by omega)
  | succ n ih =>
    intro y7 σ i hc hi hn hk
    rw [l_X6_rows_200.eq_2]
    refine Vload dX6_rows_200 3 rfl 202 rfl ?_
    refine Vload dX6_rows_202 2 rfl 204 rfl ?_
    refine Vicge (fun v => ap B v) dX6_rows_204 226 207 (by decide) rfl (fun h13 => ?_) (fun h13 => ?_)
    · refine Vlv [0, 1, 2, 3] rfl ?_
      exact hk (y7, σ) 
    · refine Vaload_n dX6_rows_207 0 rfl 208 rfl ?_
      refine Vget (53) 5 dX6_rows_208 211 rfl (hF.1 53 (by decide)) wk53 rfl inX6 (by decide) wd_fl_RX6_23 (v := .ref (ad G 58)) rfl ?_
      refine Vbipush dX6_rows_211 (8 : Int32) (by decide) 213 rfl ?_
      refine Vload_n dX6_rows_213 1 rfl 214 rfl ?_
      refine Vimul dX6_rows_214 215 rfl ?_
      refine Vload dX6_rows_215 3 rfl 217 rfl ?_
      refine Viadd dX6_rows_217 218 rfl ?_
      refine Viconst dX6_rows_218 (0 : Int32) (by decide) 219 rfl ?_
      refine Vst dX6_rows_219 220 rfl (hF.1 58 (by decide)) wk58 wn58 hF.2.1 (vmul 8 4 (by decide) hx3 (vin_cnt2 hc (by assumption) hp6 (by decide) (by decide) hi) (by decide)) ?_
      refine Viinc dX6_rows_220 (y7 + 1) 3 [(7, .int (y7 + 1)), (0, .ref (ad G 53)), (3, .int x3), (6, .int p6)] 223 rfl rfl rfl (by decide) rfl ?_
      refine Vgoto dX6_rows_223 200 (by decide) ?_
      refine Vlv [1, 2, 3, 0] rfl ?_
      exact ih (y7 + 1) (st2 σ 58 (((8 : Int32) * x3) + y7).toNatClampNeg (0 : Int32)) (i + 1) (cnt_s hc) (cnt_lt2 hc (by assumption) hp6 (by decide) (by decide) hi) (by omega) hk
def f_X6_rows (σ : mS) (x1 : Int32) (x2 : Int32) (x3 : Int32) (x4 : Int32) (x5 : Int32) : Int32 × mS := (if x2 = (7 : Int32) then (ap (fun u23 => (if (u23.2 53 32) = 0 then (ap (fun u25 => (0, u25.2)) (f_X6_give u23.2 x1 x3 (u23.2 58 (((8 : Int32) * x4) + (f_X6_r u23.2 x1 x5)).toNatClampNeg))) else (0, u23.2))) (f_X6_checkItem σ x4 (f_X6_r σ x1 x5))) else (if x2 = (8 : Int32) then (ap (fun u17 => (if (u17.2 53 32) = 0 then (if (u17.2 59 x3.toNatClampNeg) = 0 then (0, (st2 (st2 u17.2 53 32 (u17.2 53 32)) 58 (((8 : Int32) * x3) + (f_X6_r (st2 u17.2 53 32 (u17.2 53 32)) x1 x4)).toNatClampNeg (f_X6_r (st2 u17.2 53 32 (u17.2 53 32)) x1 x5))) else (0, (st2 u17.2 53 32 (4 : Int32)))) else (0, (st2 u17.2 53 32 (u17.2 53 32))))) (f_X6_checkItem σ x3 (f_X6_r σ x1 x4))) else (if x2 = (17 : Int32) then (if 0 ≤ (f_X6_r σ x1 x4) then (if (f_X6_r σ x1 x4) ≤ (8 : Int32) then (ap (fun u14 => (0, u14.2)) (l_X6_rows_200 9 (0 : Int32) (st2 (st2 (st2 σ 53 32 (0 : Int32)) 57 x3.toNatClampNeg (f_X6_r σ x1 x4)) 59 x3.toNatClampNeg (0 : Int32)) x3 (f_X6_r σ x1 x4))) else (0, (st2 σ 53 32 (7 : Int32)))) else (0, (st2 σ 53 32 (6 : Int32)))) else (if x2 = (18 : Int32) then (if (σ 57 x3.toNatClampNeg) = (-1 : Int32) then (if ((st2 σ 53 32 (1 : Int32)) 59 x3.toNatClampNeg) = 0 then (0, (st2 (st2 σ 53 32 (1 : Int32)) 59 x3.toNatClampNeg (0 : Int32))) else (0, (st2 (st2 σ 53 32 (1 : Int32)) 59 x3.toNatClampNeg (1 : Int32)))) else (if ((st2 σ 53 32 (0 : Int32)) 59 x3.toNatClampNeg) = 0 then (0, (st2 (st2 σ 53 32 (0 : Int32)) 59 x3.toNatClampNeg (1 : Int32))) else (0, (st2 (st2 σ 53 32 (0 : Int32)) 59 x3.toNatClampNeg (1 : Int32))))) else (0, (st2 (st2 σ 54 x3.toNatClampNeg x4) 55 x3.toNatClampNeg (1 : Int32)))))))
theorem mw_X6_rows : mW yX6_rows cX6_rows 8 none 5 := ⟨wd_co_yX6_rows, wd_ini_RX6, ⟨by decide, by decide⟩, by decide +kernel, by decide⟩
set_option maxRecDepth 100000 in
set_option maxHeartbeats 4000000 in
theorem c_X6_rows (l : Launch) {G : gT} (hF : FullR G) (σ : mS) (x1 : Int32) (x2 : Int32) (x3 : Int32) (x4 : Int32) (x5 : Int32) (ht : vp_in x1 3) (hR : ¬ f_X6_fits x2 x3 x4 x5 = 0) (hk5 : x2 = 7 ∨ x2 = 8 ∨ x2 = 17 ∨ x2 = 18 ∨ x2 = 19) (hS : ∀ r, r < 4 → σ 57 r = -1 ∨ vp_in (σ 57 r) 9) : Ct l G yX6_rows cX6_rows 8 none 2 [.ref (ad G 53), .int x1, .int x2, .int x3, .int x4, .int x5] κV σ (f_X6_rows σ x1 x2 x3 x4 x5) := by
  refine Ct.ofV [(0, .ref (ad G 53)), (1, .int x1), (2, .int x2), (3, .int x3), (4, .int x4), (5, .int x5)] rfl (by decide) (Nat.le_of_ble_eq_true rfl) rfl (fun X => ?_)
  unfold f_X6_rows
  refine Vload_n dX6_rows_0 2 rfl 1 rfl ?_
  refine Vbipush dX6_rows_1 (7 : Int32) (by decide) 3 rfl ?_
  refine Vicne (fun v => v) dX6_rows_3 53 6 (by decide) rfl (fun h1 => ?_) (fun h1 => ?_)
  · refine Vload_n dX6_rows_53 2 rfl 54 rfl ?_
    refine Vbipush dX6_rows_54 (8 : Int32) (by decide) 56 rfl ?_
    refine Vicne (fun v => v) dX6_rows_56 133 59 (by decide) rfl (fun h2 => ?_) (fun h2 => ?_)
    · refine Vload_n dX6_rows_133 2 rfl 134 rfl ?_
      refine Vbipush dX6_rows_134 (17 : Int32) (by decide) 136 rfl ?_
      refine Vicne (fun v => v) dX6_rows_136 229 139 (by decide) rfl (fun h3 => ?_) (fun h3 => ?_)
      · refine Vload_n dX6_rows_229 2 rfl 230 rfl ?_
        refine Vbipush dX6_rows_230 (18 : Int32) (by decide) 232 rfl ?_
        refine Vicne (fun v => v) dX6_rows_232 284 235 (by decide) rfl (fun h4 => ?_) (fun h4 => ?_)
        · refine Vaload_n dX6_rows_284 0 rfl 285 rfl ?_
          refine Vget (53) 1 dX6_rows_285 288 rfl (hF.1 53 (by decide)) wk53 rfl inX6 (by decide) wd_fl_RX6_7 (v := .ref (ad G 54)) rfl ?_
          refine Vload_n dX6_rows_288 3 rfl 289 rfl ?_
          refine Vload dX6_rows_289 4 rfl 291 rfl ?_
          refine Vst dX6_rows_291 292 rfl (hF.1 54 (by decide)) wk54 wn54 hF.2.1 (by first | exact (by assumption) | exact (vin_cmp2 (by assumption) (by assumption) (by decide)) | exact (vin_cell (by assumption)) | exact (vin_reg (by assumption)) | exact (vin_row (by assumption)) | exact (vin_cnt (by assumption) (by assumption) (by decide) (by decide) (by assumption)) | exact (vin_cmp (by assumption) (by assumption) (by decide)) | exact (vp_in_iff.mpr (by decide)) | exact (fits8 hR (by assumption)).1 | exact (fits17 hR (by assumption)).1 | exact (fits18 hR (by assumption)) | exact (fits19 hR hk5 (by assumption) (by assumption) (by assumption) (by assumption)).1) ?_
          refine Vaload_n dX6_rows_292 0 rfl 293 rfl ?_
          refine Vget (53) 2 dX6_rows_293 296 rfl (hF.1 53 (by decide)) wk53 rfl inX6 (by decide) wd_fl_RX6_13 (v := .ref (ad G 55)) rfl ?_
          refine Vload_n dX6_rows_296 3 rfl 297 rfl ?_
          refine Viconst dX6_rows_297 (1 : Int32) (by decide) 298 rfl ?_
          refine Vstz dX6_rows_298 299 rfl (hF.1 55 (by decide)) wk55 wn55 hF.2.2.1 (by first | exact (by assumption) | exact (vin_cmp2 (by assumption) (by assumption) (by decide)) | exact (vin_cell (by assumption)) | exact (vin_reg (by assumption)) | exact (vin_row (by assumption)) | exact (vin_cnt (by assumption) (by assumption) (by decide) (by decide) (by assumption)) | exact (vin_cmp (by assumption) (by assumption) (by decide)) | exact (vp_in_iff.mpr (by decide)) | exact (fits8 hR (by assumption)).1 | exact (fits17 hR (by assumption)).1 | exact (fits18 hR (by assumption)) | exact (fits19 hR hk5 (by assumption) (by assumption) (by assumption) (by assumption)).1) (by decide) ?_
          exact Vvret dX6_rows_299
        · refine Vaload_n dX6_rows_235 0 rfl 236 rfl ?_
          refine Vaload_n dX6_rows_236 0 rfl 237 rfl ?_
          refine Vget (53) 4 dX6_rows_237 240 rfl (hF.1 53 (by decide)) wk53 rfl inX6 (by decide) wd_fl_RX6_20 (v := .ref (ad G 57)) rfl ?_
          refine Vload_n dX6_rows_240 3 rfl 241 rfl ?_
          refine Vld dX6_rows_241 242 rfl (hF.1 57 (by decide)) wk57 wn57 hF.2.1 (by first | exact (by assumption) | exact (vin_cmp2 (by assumption) (by assumption) (by decide)) | exact (vin_cell (by assumption)) | exact (vin_reg (by assumption)) | exact (vin_row (by assumption)) | exact (vin_cnt (by assumption) (by assumption) (by decide) (by decide) (by assumption)) | exact (vin_cmp (by assumption) (by assumption) (by decide)) | exact (vp_in_iff.mpr (by decide)) | exact (fits8 hR (by assumption)).1 | exact (fits17 hR (by assumption)).1 | exact (fits18 hR (by assumption)) | exact (fits19 hR hk5 (by assumption) (by assumption) (by assumption) (by assumption)).1) ?_
          refine Viconst dX6_rows_242 (-1 : Int32) (by decide) 243 rfl ?_
          refine Vicne (fun v => v) dX6_rows_243 250 246 (by decide) rfl (fun h5 => ?_) (fun h5 => ?_)
          · refine Viconst dX6_rows_250 (0 : Int32) (by decide) 251 rfl ?_
            refine Vput (53) 32 tyX6 dX6_rows_251 254 rfl (hF.1 53 (by decide)) wk53 rfl inX6 tyX6_ok nmX6 (by decide) wd_fl_RX6_133 rfl (ty := .int) (by decide +kernel) rfl rfl (fun f => rfl) (fun f => Nat.le_of_ble_eq_true rfl) ?_
            refine Vaload_n dX6_rows_254 0 rfl 255 rfl ?_
            refine Vget (53) 6 dX6_rows_255 258 rfl (hF.1 53 (by decide)) wk53 rfl inX6 (by decide) wd_fl_RX6_26 (v := .ref (ad G 59)) rfl ?_
            refine Vload_n dX6_rows_258 3 rfl 259 rfl ?_
            refine Vaload_n dX6_rows_259 0 rfl 260 rfl ?_
            refine Vget (53) 6 dX6_rows_260 263 rfl (hF.1 53 (by decide)) wk53 rfl inX6 (by decide) wd_fl_RX6_26 (v := .ref (ad G 59)) rfl ?_
            refine Vload_n dX6_rows_263 3 rfl 264 rfl ?_
            refine Vldz dX6_rows_264 265 rfl (hF.1 59 (by decide)) wk59 wn59 hF.2.2.1 (by first | exact (by assumption) | exact (vin_cmp2 (by assumption) (by assumption) (by decide)) | exact (vin_cell (by assumption)) | exact (vin_reg (by assumption)) | exact (vin_row (by assumption)) | exact (vin_cnt (by assumption) (by assumption) (by decide) (by decide) (by assumption)) | exact (vin_cmp (by assumption) (by assumption) (by decide)) | exact (vp_in_iff.mpr (by decide)) | exact (fits8 hR (by assumption)).1 | exact (fits17 hR (by assumption)).1 | exact (fits18 hR (by assumption)) | exact (fits19 hR hk5 (by assumption) (by assumption) (by assumption) (by assumption)).1) ?_
            refine Vifne (fun v => v) dX6_rows_265 275 268 (by decide) rfl (fun h6 => ?_) (fun h6 => ?_)
            · refine Viconst dX6_rows_275 (1 : Int32) (by decide) 276 rfl ?_
              refine Vgoto dX6_rows_276 280 (by decide) ?_
              refine Vstz dX6_rows_280 281 rfl (hF.1 59 (by decide)) wk59 wn59 hF.2.2.1 (by first | exact (by assumption) | exact (vin_cmp2 (by assumption) (by assumption) (by decide)) | exact (vin_cell (by assumption)) | exact (vin_reg (by assumption)) | exact (vin_row (by assumption)) | exact (vin_cnt (by assumption) (by assumption) (by decide) (by decide) (by assumption)) | exact (vin_cmp (by assumption) (by assumption) (by decide)) | exact (vp_in_iff.mpr (by decide)) | exact (fits8 hR (by assumption)).1 | exact (fits17 hR (by assumption)).1 | exact (fits18 hR (by assumption)) | exact (fits19 hR hk5 (by assumption) (by assumption) (by assumption) (by assumption)).1) (by decide) ?_
              refine Vgoto dX6_rows_281 299 (by decide) ?_
              exact Vvret dX6_rows_299
            · refine Vaload_n dX6_rows_268 0 rfl 269 rfl ?_
              refine Vget (53) 32 dX6_rows_269 272 rfl (hF.1 53 (by decide)) wk53 rfl inX6 (by decide) wd_fl_RX6_133 (v := .int (0 : Int32)) rfl ?_
              refine Kifnef dX6_rows_272 275 (by decide) rfl 279 (by decide) ?_
              refine Viconst dX6_rows_275 (1 : Int32) (by decide) 276 rfl ?_
              refine Vgoto dX6_rows_276 280 (by decide) ?_
              refine Vstz dX6_rows_280 281 rfl (hF.1 59 (by decide)) wk59 wn59 hF.2.2.1 (by first | exact (by assumption) | exact (vin_cmp2 (by assumption) (by assumption) (by decide)) | exact (vin_cell (by assumption)) | exact (vin_reg (by assumption)) | exact (vin_row (by assumption)) | exact (vin_cnt (by assumption) (by assumption) (by decide) (by decide) (by assumption)) | exact (vin_cmp (by assumption) (by assumption) (by decide)) | exact (vp_in_iff.mpr (by decide)) | exact (fits8 hR (by assumption)).1 | exact (fits17 hR (by assumption)).1 | exact (fits18 hR (by assumption)) | exact (fits19 hR hk5 (by assumption) (by assumption) (by assumption) (by assumption)).1) (by decide) ?_
              refine Vgoto dX6_rows_281 299 (by decide) ?_
              exact Vvret dX6_rows_299
          · refine Viconst dX6_rows_246 (1 : Int32) (by decide) 247 rfl ?_
            refine Vgoto dX6_rows_247 251 (by decide) ?_
            refine Vput (53) 32 tyX6 dX6_rows_251 254 rfl (hF.1 53 (by decide)) wk53 rfl inX6 tyX6_ok nmX6 (by decide) wd_fl_RX6_133 rfl (ty := .int) (by decide +kernel) rfl rfl (fun f => rfl) (fun f => Nat.le_of_ble_eq_true rfl) ?_
            refine Vaload_n dX6_rows_254 0 rfl 255 rfl ?_
            refine Vget (53) 6 dX6_rows_255 258 rfl (hF.1 53 (by decide)) wk53 rfl inX6 (by decide) wd_fl_RX6_26 (v := .ref (ad G 59)) rfl ?_
            refine Vload_n dX6_rows_258 3 rfl 259 rfl ?_
            refine Vaload_n dX6_rows_259 0 rfl 260 rfl ?_
            refine Vget (53) 6 dX6_rows_260 263 rfl (hF.1 53 (by decide)) wk53 rfl inX6 (by decide) wd_fl_RX6_26 (v := .ref (ad G 59)) rfl ?_
            refine Vload_n dX6_rows_263 3 rfl 264 rfl ?_
            refine Vldz dX6_rows_264 265 rfl (hF.1 59 (by decide)) wk59 wn59 hF.2.2.1 (by first | exact (by assumption) | exact (vin_cmp2 (by assumption) (by assumption) (by decide)) | exact (vin_cell (by assumption)) | exact (vin_reg (by assumption)) | exact (vin_row (by assumption)) | exact (vin_cnt (by assumption) (by assumption) (by decide) (by decide) (by assumption)) | exact (vin_cmp (by assumption) (by assumption) (by decide)) | exact (vp_in_iff.mpr (by decide)) | exact (fits8 hR (by assumption)).1 | exact (fits17 hR (by assumption)).1 | exact (fits18 hR (by assumption)) | exact (fits19 hR hk5 (by assumption) (by assumption) (by assumption) (by assumption)).1) ?_
            refine Vifne (fun v => v) dX6_rows_265 275 268 (by decide) rfl (fun h8 => ?_) (fun h8 => ?_)
            · refine Viconst dX6_rows_275 (1 : Int32) (by decide) 276 rfl ?_
              refine Vgoto dX6_rows_276 280 (by decide) ?_
              refine Vstz dX6_rows_280 281 rfl (hF.1 59 (by decide)) wk59 wn59 hF.2.2.1 (by first | exact (by assumption) | exact (vin_cmp2 (by assumption) (by assumption) (by decide)) | exact (vin_cell (by assumption)) | exact (vin_reg (by assumption)) | exact (vin_row (by assumption)) | exact (vin_cnt (by assumption) (by assumption) (by decide) (by decide) (by assumption)) | exact (vin_cmp (by assumption) (by assumption) (by decide)) | exact (vp_in_iff.mpr (by decide)) | exact (fits8 hR (by assumption)).1 | exact (fits17 hR (by assumption)).1 | exact (fits18 hR (by assumption)) | exact (fits19 hR hk5 (by assumption) (by assumption) (by assumption) (by assumption)).1) (by decide) ?_
              refine Vgoto dX6_rows_281 299 (by decide) ?_
              exact Vvret dX6_rows_299
            · refine Vaload_n dX6_rows_268 0 rfl 269 rfl ?_
              refine Vget (53) 32 dX6_rows_269 272 rfl (hF.1 53 (by decide)) wk53 rfl inX6 (by decide) wd_fl_RX6_133 (v := .int (1 : Int32)) rfl ?_
              refine Kifnet dX6_rows_272 279 (by decide) (by decide) ?_
              refine Viconst dX6_rows_279 (0 : Int32) (by decide) 280 rfl ?_
              refine Vstz dX6_rows_280 281 rfl (hF.1 59 (by decide)) wk59 wn59 hF.2.2.1 (by first | exact (by assumption) | exact (vin_cmp2 (by assumption) (by assumption) (by decide)) | exact (vin_cell (by assumption)) | exact (vin_reg (by assumption)) | exact (vin_row (by assumption)) | exact (vin_cnt (by assumption) (by assumption) (by decide) (by decide) (by assumption)) | exact (vin_cmp (by assumption) (by assumption) (by decide)) | exact (vp_in_iff.mpr (by decide)) | exact (fits8 hR (by assumption)).1 | exact (fits17 hR (by assumption)).1 | exact (fits18 hR (by assumption)) | exact (fits19 hR hk5 (by assumption) (by assumption) (by assumption) (by assumption)).1) (by decide) ?_
              refine Vgoto dX6_rows_281 299 (by decide) ?_
              exact Vvret dX6_rows_299
      · refine Vaload_n dX6_rows_139 0 rfl 140 rfl ?_
        refine Vload_n dX6_rows_140 1 rfl 141 rfl ?_
        refine Vload dX6_rows_141 4 rfl 143 rfl ?_
        refine VcVp dX6_rows_143 [.int x1, .int x4] (c_X6_r l hF σ x1 x4 ht (fits17 hR (by assumption)).2) mw_X6_r wd_im_yX6_r wd_se_yX6_r wd_ml_RX6_153 (hF.1 53 (by decide)) wk53 rfl rfl (by decide) rfl rfl (Nat.le_of_ble_eq_true rfl) 146 rfl ?_
        refine Vstore dX6_rows_146 [(6, .int (f_X6_r σ x1 x4)), (0, .ref (ad G 53)), (1, .int x1), (2, .int x2), (3, .int x3), (4, .int x4), (5, .int x5)] 148 rfl (by decide) rfl ?_
        refine Vaload_n dX6_rows_148 1 rfl 149 rfl ?_
        refine Vload dX6_rows_149 0 rfl 151 rfl ?_
        refine Vifge (fun v => v) dX6_rows_151 159 154 (by decide) rfl (fun h10 => ?_) (fun h10 => ?_)
        · refine Vload dX6_rows_159 0 rfl 161 rfl ?_
          refine Vbipush dX6_rows_161 (8 : Int32) (by decide) 163 rfl ?_
          refine Vicle (fun v => v) dX6_rows_163 171 166 (by decide) rfl (fun h11 => ?_) (fun h11 => ?_)
          · refine Viconst dX6_rows_171 (0 : Int32) (by decide) 172 rfl ?_
            refine Vput (53) 32 tyX6 dX6_rows_172 175 rfl (hF.1 53 (by decide)) wk53 rfl inX6 tyX6_ok nmX6 (by decide) wd_fl_RX6_133 rfl (ty := .int) (by decide +kernel) rfl rfl (fun f => rfl) (fun f => Nat.le_of_ble_eq_true rfl) ?_
            refine Vaload_n dX6_rows_175 1 rfl 176 rfl ?_
            refine Vget (53) 32 dX6_rows_176 179 rfl (hF.1 53 (by decide)) wk53 rfl inX6 (by decide) wd_fl_RX6_133 (v := .int (0 : Int32)) rfl ?_
            refine Kifnef dX6_rows_179 182 (by decide) rfl 226 (by decide) ?_
            refine Vaload_n dX6_rows_182 1 rfl 183 rfl ?_
            refine Vget (53) 4 dX6_rows_183 186 rfl (hF.1 53 (by decide)) wk53 rfl inX6 (by decide) wd_fl_RX6_20 (v := .ref (ad G 57)) rfl ?_
            refine Vload_n dX6_rows_186 4 rfl 187 rfl ?_
            refine Vload dX6_rows_187 0 rfl 189 rfl ?_
            refine Vst dX6_rows_189 190 rfl (hF.1 57 (by decide)) wk57 wn57 hF.2.1 (by first | exact (by assumption) | exact (vin_cmp2 (by assumption) (by assumption) (by decide)) | exact (vin_cell (by assumption)) | exact (vin_reg (by assumption)) | exact (vin_row (by assumption)) | exact (vin_cnt (by assumption) (by assumption) (by decide) (by decide) (by assumption)) | exact (vin_cmp (by assumption) (by assumption) (by decide)) | exact (vp_in_iff.mpr (by decide)) | exact (fits8 hR (by assumption)).1 | exact (fits17 hR (by assumption)).1 | exact (fits18 hR (by assumption)) | exact (fits19 hR hk5 (by assumption) (by assumption) (by assumption) (by assumption)).1) ?_
            refine Vaload_n dX6_rows_190 1 rfl 191 rfl ?_
            refine Vget (53) 6 dX6_rows_191 194 rfl (hF.1 53 (by decide)) wk53 rfl inX6 (by decide) wd_fl_RX6_26 (v := .ref (ad G 59)) rfl ?_
            refine Vload_n dX6_rows_194 4 rfl 195 rfl ?_
            refine Viconst dX6_rows_195 (0 : Int32) (by decide) 196 rfl ?_
            refine Vstz dX6_rows_196 197 rfl (hF.1 59 (by decide)) wk59 wn59 hF.2.2.1 (by first | exact (by assumption) | exact (vin_cmp2 (by assumption) (by assumption) (by decide)) | exact (vin_cell (by assumption)) | exact (vin_reg (by assumption)) | exact (vin_row (by assumption)) | exact (vin_cnt (by assumption) (by assumption) (by decide) (by decide) (by assumption)) | exact (vin_cmp (by assumption) (by assumption) (by decide)) | exact (vp_in_iff.mpr (by decide)) | exact (fits8 hR (by assumption)).1 | exact (fits17 hR (by assumption)).1 | exact (fits18 hR (by assumption)) | exact (fits19 hR hk5 (by assumption) (by assumption) (by assumption) (by assumption)).1) (by decide) ?_
            refine Viconst dX6_rows_197 (0 : Int32) (by decide) 198 rfl ?_
            refine Vstore dX6_rows_198 [(7, .int (0 : Int32)), (6, .int (f_X6_r σ x1 x4)), (0, .ref (ad G 53)), (1, .int x1), (2, .int x2), (3, .int x3), (4, .int x4), (5, .int x5)] 200 rfl (by decide) rfl ?_
            refine Vlv [2, 5, 1, 0] rfl ?_
            refine vl_X6_rows_200 l X hF x3 (f_X6_r σ x1 x4)  (by assumption) (fits17 hR (by assumption)).1 9 (0 : Int32) (st2 (st2 (st2 σ 53 32 (0 : Int32)) 57 x3.toNatClampNeg (f_X6_r σ x1 x4)) 59 x3.toNatClampNeg (0 : Int32)) 0 nI_0.symm (Nat.zero_le _) rfl ?_
            intro u14
            refine Vap ?_
            refine Vgoto dX6_rows_226 299 (by decide) ?_
            exact Vvret dX6_rows_299
          · refine Vbipush dX6_rows_166 (7 : Int32) (by decide) 168 rfl ?_
            refine Vgoto dX6_rows_168 172 (by decide) ?_
            refine Vput (53) 32 tyX6 dX6_rows_172 175 rfl (hF.1 53 (by decide)) wk53 rfl inX6 tyX6_ok nmX6 (by decide) wd_fl_RX6_133 rfl (ty := .int) (by decide +kernel) rfl rfl (fun f => rfl) (fun f => Nat.le_of_ble_eq_true rfl) ?_
            refine Vaload_n dX6_rows_175 1 rfl 176 rfl ?_
            refine Vget (53) 32 dX6_rows_176 179 rfl (hF.1 53 (by decide)) wk53 rfl inX6 (by decide) wd_fl_RX6_133 (v := .int (7 : Int32)) rfl ?_
            refine Kifnet dX6_rows_179 226 (by decide) (by decide) ?_
            refine Vgoto dX6_rows_226 299 (by decide) ?_
            exact Vvret dX6_rows_299
        · refine Vbipush dX6_rows_154 (6 : Int32) (by decide) 156 rfl ?_
          refine Vgoto dX6_rows_156 172 (by decide) ?_
          refine Vput (53) 32 tyX6 dX6_rows_172 175 rfl (hF.1 53 (by decide)) wk53 rfl inX6 tyX6_ok nmX6 (by decide) wd_fl_RX6_133 rfl (ty := .int) (by decide +kernel) rfl rfl (fun f => rfl) (fun f => Nat.le_of_ble_eq_true rfl) ?_
          refine Vaload_n dX6_rows_175 1 rfl 176 rfl ?_
          refine Vget (53) 32 dX6_rows_176 179 rfl (hF.1 53 (by decide)) wk53 rfl inX6 (by decide) wd_fl_RX6_133 (v := .int (6 : Int32)) rfl ?_
          refine Kifnet dX6_rows_179 226 (by decide) (by decide) ?_
          refine Vgoto dX6_rows_226 299 (by decide) ?_
          exact Vvret dX6_rows_299
    · refine Vaload_n dX6_rows_59 0 rfl 60 rfl ?_
      refine Vload_n dX6_rows_60 3 rfl 61 rfl ?_
      refine Vaload_n dX6_rows_61 0 rfl 62 rfl ?_
      refine Vload_n dX6_rows_62 1 rfl 63 rfl ?_
      refine Vload dX6_rows_63 4 rfl 65 rfl ?_
      refine VcVp dX6_rows_65 [.int x1, .int x4] (c_X6_r l hF σ x1 x4 ht (fits8 hR (by assumption)).2.1) mw_X6_r wd_im_yX6_r wd_se_yX6_r wd_ml_RX6_153 (hF.1 53 (by decide)) wk53 rfl rfl (by decide) rfl rfl (Nat.le_of_ble_eq_true rfl) 68 rfl ?_
      refine Vgen ?_
      intro u17 eu17
      refine VcVv (u := u17) dX6_rows_68 [.int x3, .int (f_X6_r σ x1 x4)] (by rw [eu17]; exact c_X6_checkItem l hF σ x3 (f_X6_r σ x1 x4) (fits8 hR (by assumption)).1) mw_X6_checkItem wd_im_yX6_checkItem wd_se_yX6_checkItem wd_ml_RX6_159 (hF.1 53 (by decide)) wk53 rfl rfl (by decide) rfl rfl (Nat.le_of_ble_eq_true rfl) 71 rfl ?_
      have hci : u17.2 53 32 = 0 → vp_in (f_X6_r u17.2 x1 x4) 8 := by rw [eu17]; exact ck_r (hS _ (vin_lt (fits8 hR (by assumption)).1))
      refine Vaload_n dX6_rows_71 0 rfl 72 rfl ?_
      refine Vaload_n dX6_rows_72 0 rfl 73 rfl ?_
      refine Vget (53) 32 dX6_rows_73 76 rfl (hF.1 53 (by decide)) wk53 rfl inX6 (by decide) wd_fl_RX6_133 (v := .int (u17.2 53 32)) rfl ?_
      refine Vifne (fun v => v) dX6_rows_76 92 79 (by decide) rfl (fun h18 => ?_) (fun h18 => ?_)
      · refine Vaload_n dX6_rows_92 0 rfl 93 rfl ?_
        refine Vget (53) 32 dX6_rows_93 96 rfl (hF.1 53 (by decide)) wk53 rfl inX6 (by decide) wd_fl_RX6_133 (v := .int (u17.2 53 32)) rfl ?_
        refine Vput (53) 32 tyX6 dX6_rows_96 99 rfl (hF.1 53 (by decide)) wk53 rfl inX6 tyX6_ok nmX6 (by decide) wd_fl_RX6_133 rfl (ty := .int) (by decide +kernel) rfl rfl (fun f => rfl) (fun f => Nat.le_of_ble_eq_true rfl) ?_
        refine Vaload_n dX6_rows_99 0 rfl 100 rfl ?_
        refine Vget (53) 32 dX6_rows_100 103 rfl (hF.1 53 (by decide)) wk53 rfl inX6 (by decide) wd_fl_RX6_133 (v := .int (u17.2 53 32)) rfl ?_
        refine Kifnet dX6_rows_103 299 (by decide) (by assumption) ?_
        exact Vvret dX6_rows_299
      · refine Vaload_n dX6_rows_79 0 rfl 80 rfl ?_
        refine Vget (53) 6 dX6_rows_80 83 rfl (hF.1 53 (by decide)) wk53 rfl inX6 (by decide) wd_fl_RX6_26 (v := .ref (ad G 59)) rfl ?_
        refine Vload_n dX6_rows_83 3 rfl 84 rfl ?_
        refine Vldz dX6_rows_84 85 rfl (hF.1 59 (by decide)) wk59 wn59 hF.2.2.1 (by first | exact (by assumption) | exact (vin_cmp2 (by assumption) (by assumption) (by decide)) | exact (vin_cell (by assumption)) | exact (vin_reg (by assumption)) | exact (vin_row (by assumption)) | exact (vin_cnt (by assumption) (by assumption) (by decide) (by decide) (by assumption)) | exact (vin_cmp (by assumption) (by assumption) (by decide)) | exact (vp_in_iff.mpr (by decide)) | exact (fits8 hR (by assumption)).1 | exact (fits17 hR (by assumption)).1 | exact (fits18 hR (by assumption)) | exact (fits19 hR hk5 (by assumption) (by assumption) (by assumption) (by assumption)).1) ?_
        refine Vifeq (fun v => v) dX6_rows_85 92 88 (by decide) rfl (fun h20 => ?_) (fun h20 => ?_)
        · refine Vaload_n dX6_rows_92 0 rfl 93 rfl ?_
          refine Vget (53) 32 dX6_rows_93 96 rfl (hF.1 53 (by decide)) wk53 rfl inX6 (by decide) wd_fl_RX6_133 (v := .int (u17.2 53 32)) rfl ?_
          refine Vput (53) 32 tyX6 dX6_rows_96 99 rfl (hF.1 53 (by decide)) wk53 rfl inX6 tyX6_ok nmX6 (by decide) wd_fl_RX6_133 rfl (ty := .int) (by decide +kernel) rfl rfl (fun f => rfl) (fun f => Nat.le_of_ble_eq_true rfl) ?_
          refine Vaload_n dX6_rows_99 0 rfl 100 rfl ?_
          refine Vget (53) 32 dX6_rows_100 103 rfl (hF.1 53 (by decide)) wk53 rfl inX6 (by decide) wd_fl_RX6_133 (v := .int (u17.2 53 32)) rfl ?_
          refine Kifnef dX6_rows_103 106 (by assumption) rfl 299 (by decide) ?_
          refine Vaload_n dX6_rows_106 0 rfl 107 rfl ?_
          refine Vget (53) 5 dX6_rows_107 110 rfl (hF.1 53 (by decide)) wk53 rfl inX6 (by decide) wd_fl_RX6_23 (v := .ref (ad G 58)) rfl ?_
          refine Vbipush dX6_rows_110 (8 : Int32) (by decide) 112 rfl ?_
          refine Vload_n dX6_rows_112 3 rfl 113 rfl ?_
          refine Vimul dX6_rows_113 114 rfl ?_
          refine Vaload_n dX6_rows_114 0 rfl 115 rfl ?_
          refine Vload_n dX6_rows_115 1 rfl 116 rfl ?_
          refine Vload dX6_rows_116 4 rfl 118 rfl ?_
          refine VcVp dX6_rows_118 [.int x1, .int x4] (c_X6_r l hF (st2 u17.2 53 32 (u17.2 53 32)) x1 x4 ht (fits8 hR (by assumption)).2.1) mw_X6_r wd_im_yX6_r wd_se_yX6_r wd_ml_RX6_153 (hF.1 53 (by decide)) wk53 rfl rfl (by decide) rfl rfl (Nat.le_of_ble_eq_true rfl) 121 rfl ?_
          refine Viadd dX6_rows_121 122 rfl ?_
          refine Vaload_n dX6_rows_122 0 rfl 123 rfl ?_
          refine Vload_n dX6_rows_123 1 rfl 124 rfl ?_
          refine Vload dX6_rows_124 5 rfl 126 rfl ?_
          refine VcVp dX6_rows_126 [.int x1, .int x5] (c_X6_r l hF (st2 u17.2 53 32 (u17.2 53 32)) x1 x5 ht (fits8 hR (by assumption)).2.2) mw_X6_r wd_im_yX6_r wd_se_yX6_r wd_ml_RX6_153 (hF.1 53 (by decide)) wk53 rfl rfl (by decide) rfl rfl (Nat.le_of_ble_eq_true rfl) 129 rfl ?_
          refine Vst dX6_rows_129 130 rfl (hF.1 58 (by decide)) wk58 wn58 hF.2.1 (vmul 8 4 (by decide) (fits8 hR (by assumption)).1 (by simpa [f_X6_r, st2] using hci (by assumption)) (by decide)) ?_
          refine Vgoto dX6_rows_130 299 (by decide) ?_
          exact Vvret dX6_rows_299
        · refine Viconst dX6_rows_88 (4 : Int32) (by decide) 89 rfl ?_
          refine Vgoto dX6_rows_89 96 (by decide) ?_
          refine Vput (53) 32 tyX6 dX6_rows_96 99 rfl (hF.1 53 (by decide)) wk53 rfl inX6 tyX6_ok nmX6 (by decide) wd_fl_RX6_133 rfl (ty := .int) (by decide +kernel) rfl rfl (fun f => rfl) (fun f => Nat.le_of_ble_eq_true rfl) ?_
          refine Vaload_n dX6_rows_99 0 rfl 100 rfl ?_
          refine Vget (53) 32 dX6_rows_100 103 rfl (hF.1 53 (by decide)) wk53 rfl inX6 (by decide) wd_fl_RX6_133 (v := .int (4 : Int32)) rfl ?_
          refine Kifnet dX6_rows_103 299 (by decide) (by decide) ?_
          exact Vvret dX6_rows_299
  · refine Vaload_n dX6_rows_6 0 rfl 7 rfl ?_
    refine Vload dX6_rows_7 4 rfl 9 rfl ?_
    refine Vaload_n dX6_rows_9 0 rfl 10 rfl ?_
    refine Vload_n dX6_rows_10 1 rfl 11 rfl ?_
    refine Vload dX6_rows_11 5 rfl 13 rfl ?_
    refine VcVp dX6_rows_13 [.int x1, .int x5] (c_X6_r l hF σ x1 x5 ht (fits7 hR (by assumption)).2.2) mw_X6_r wd_im_yX6_r wd_se_yX6_r wd_ml_RX6_153 (hF.1 53 (by decide)) wk53 rfl rfl (by decide) rfl rfl (Nat.le_of_ble_eq_true rfl) 16 rfl ?_
    refine Vgen ?_
    intro u23 eu23
    refine VcVv (u := u23) dX6_rows_16 [.int x4, .int (f_X6_r σ x1 x5)] (by rw [eu23]; exact c_X6_checkItem l hF σ x4 (f_X6_r σ x1 x5) (fits7 hR (by assumption)).2.1) mw_X6_checkItem wd_im_yX6_checkItem wd_se_yX6_checkItem wd_ml_RX6_159 (hF.1 53 (by decide)) wk53 rfl rfl (by decide) rfl rfl (Nat.le_of_ble_eq_true rfl) 19 rfl ?_
    have hci : u23.2 53 32 = 0 → vp_in (f_X6_r u23.2 x1 x5) 8 := by rw [eu23]; exact ck_r (hS _ (vin_lt (fits7 hR (by assumption)).2.1))
    refine Vaload_n dX6_rows_19 0 rfl 20 rfl ?_
    refine Vget (53) 32 dX6_rows_20 23 rfl (hF.1 53 (by decide)) wk53 rfl inX6 (by decide) wd_fl_RX6_133 (v := .int (u23.2 53 32)) rfl ?_
    refine Vifne (fun v => v) dX6_rows_23 299 26 (by decide) rfl (fun h24 => ?_) (fun h24 => ?_)
    · exact Vvret dX6_rows_299
    · refine Vaload_n dX6_rows_26 0 rfl 27 rfl ?_
      refine Vload_n dX6_rows_27 1 rfl 28 rfl ?_
      refine Vload_n dX6_rows_28 3 rfl 29 rfl ?_
      refine Vaload_n dX6_rows_29 0 rfl 30 rfl ?_
      refine Vget (53) 5 dX6_rows_30 33 rfl (hF.1 53 (by decide)) wk53 rfl inX6 (by decide) wd_fl_RX6_23 (v := .ref (ad G 58)) rfl ?_
      refine Vbipush dX6_rows_33 (8 : Int32) (by decide) 35 rfl ?_
      refine Vload dX6_rows_35 4 rfl 37 rfl ?_
      refine Vimul dX6_rows_37 38 rfl ?_
      refine Vaload_n dX6_rows_38 0 rfl 39 rfl ?_
      refine Vload_n dX6_rows_39 1 rfl 40 rfl ?_
      refine Vload dX6_rows_40 5 rfl 42 rfl ?_
      refine VcVp dX6_rows_42 [.int x1, .int x5] (c_X6_r l hF u23.2 x1 x5 ht (fits7 hR (by assumption)).2.2) mw_X6_r wd_im_yX6_r wd_se_yX6_r wd_ml_RX6_153 (hF.1 53 (by decide)) wk53 rfl rfl (by decide) rfl rfl (Nat.le_of_ble_eq_true rfl) 45 rfl ?_
      refine Viadd dX6_rows_45 46 rfl ?_
      refine Vld dX6_rows_46 47 rfl (hF.1 58 (by decide)) wk58 wn58 hF.2.1 (vmul 8 4 (by decide) (fits7 hR (by assumption)).2.1 (hci (by assumption)) (by decide)) ?_
      refine Vgen ?_
      intro u25 eu25
      refine VcVv (u := u25) dX6_rows_47 [.int x1, .int x3, .int (u23.2 58 (((8 : Int32) * x4) + (f_X6_r u23.2 x1 x5)).toNatClampNeg)] (by rw [eu25]; exact c_X6_give l hF u23.2 x1 x3 (u23.2 58 (((8 : Int32) * x4) + (f_X6_r u23.2 x1 x5)).toNatClampNeg) ht (fits7 hR (by assumption)).1) mw_X6_give wd_im_yX6_give wd_se_yX6_give wd_ml_RX6_147 (hF.1 53 (by decide)) wk53 rfl rfl (by decide) rfl rfl (Nat.le_of_ble_eq_true rfl) 50 rfl ?_
      refine Vgoto dX6_rows_50 299 (by decide) ?_
      exact Vvret dX6_rows_299
def aK (σ : mS) (t : Int32) : Int32 := σ 61 ((24 : Int32) * t + (σ 66 t.toNatClampNeg)).toNatClampNeg
def aX (σ : mS) (t : Int32) : Int32 := σ 62 ((24 : Int32) * t + (σ 66 t.toNatClampNeg)).toNatClampNeg
def aY (σ : mS) (t : Int32) : Int32 := σ 63 ((24 : Int32) * t + (σ 66 t.toNatClampNeg)).toNatClampNeg
def aZ (σ : mS) (t : Int32) : Int32 := σ 64 ((24 : Int32) * t + (σ 66 t.toNatClampNeg)).toNatClampNeg
def f_X6_doAct (σ : mS) (x1 : Int32) : Int32 × mS := (if (aK σ x1) = (0 : Int32) then (ap (fun u2 => (((σ 66 x1.toNatClampNeg) + (1 : Int32)), u2.2)) (f_X6_give σ x1 (aX σ x1) (aY σ x1))) else (if (aK σ x1) = (1 : Int32) then (ap (fun u4 => (ap (fun u5 => (((σ 66 x1.toNatClampNeg) + (1 : Int32)), u5.2)) (f_X6_give u4.2 x1 (aX σ x1) u4.1))) (f_X6_read σ x1 (aY σ x1))) else (if (aK σ x1) = (2 : Int32) then (ap (fun u7 => (((σ 66 x1.toNatClampNeg) + (1 : Int32)), u7.2)) (f_X6_lay σ x1 (aX σ x1) (f_X6_r σ x1 (aY σ x1)))) else (if (aK σ x1) = (3 : Int32) then (ap (fun u9 => (((σ 66 x1.toNatClampNeg) + (1 : Int32)), u9.2)) (f_X6_compute σ x1 (aK σ x1) (aX σ x1) (f_X6_r σ x1 (aY σ x1)) (f_X6_r σ x1 (aZ σ x1)))) else (if (aK σ x1) = (4 : Int32) then (ap (fun u11 => (((σ 66 x1.toNatClampNeg) + (1 : Int32)), u11.2)) (f_X6_compute σ x1 (aK σ x1) (aX σ x1) (f_X6_r σ x1 (aY σ x1)) (f_X6_r σ x1 (aZ σ x1)))) else (if (aK σ x1) = (5 : Int32) then (ap (fun u13 => (((σ 66 x1.toNatClampNeg) + (1 : Int32)), u13.2)) (f_X6_compute σ x1 (aK σ x1) (aX σ x1) (f_X6_r σ x1 (aY σ x1)) (f_X6_r σ x1 (aZ σ x1)))) else (if (aK σ x1) = (6 : Int32) then (ap (fun u15 => (((σ 66 x1.toNatClampNeg) + (1 : Int32)), u15.2)) (f_X6_compute σ x1 (aK σ x1) (aX σ x1) (f_X6_r σ x1 (aY σ x1)) (f_X6_r σ x1 (aZ σ x1)))) else (if (aK σ x1) = (9 : Int32) then (ap (fun u17 => (((σ 66 x1.toNatClampNeg) + (1 : Int32)), u17.2)) (f_X6_swap σ x1 (aX σ x1) (aY σ x1) (aZ σ x1))) else (if (aK σ x1) = (10 : Int32) then ((aX σ x1), σ) else (if (aK σ x1) = (11 : Int32) then (if (f_X6_r σ x1 (aX σ x1)) = 0 then ((aY σ x1), σ) else (((σ 66 x1.toNatClampNeg) + (1 : Int32)), σ)) else (if (aK σ x1) = (12 : Int32) then (ap (fun u22 => (((σ 66 x1.toNatClampNeg) + (1 : Int32)), u22.2)) (f_X6_beginAtom σ x1)) else (if (aK σ x1) = (13 : Int32) then (ap (fun u24 => (u24.1, u24.2)) (f_X6_endAtom σ x1)) else (if (aK σ x1) = (14 : Int32) then (if (σ 71 x1.toNatClampNeg) = (4 : Int32) then (((σ 66 x1.toNatClampNeg) + (1 : Int32)), (st2 σ 53 32 (5 : Int32))) else (((σ 66 x1.toNatClampNeg) + (1 : Int32)), (st2 (st2 σ 72 (((4 : Int32) * x1) + (σ 71 x1.toNatClampNeg)).toNatClampNeg (aX σ x1)) 71 x1.toNatClampNeg (((st2 σ 72 (((4 : Int32) * x1) + (σ 71 x1.toNatClampNeg)).toNatClampNeg (aX σ x1)) 71 x1.toNatClampNeg) + (1 : Int32))))) else (if (aK σ x1) = (15 : Int32) then (if (σ 71 x1.toNatClampNeg) = 0 then (((σ 66 x1.toNatClampNeg) + (1 : Int32)), (st2 σ 53 32 (5 : Int32))) else (if (σ 73 x1.toNatClampNeg) = 0 then (((σ 66 x1.toNatClampNeg) + (1 : Int32)), (st2 σ 71 x1.toNatClampNeg ((σ 71 x1.toNatClampNeg) - (1 : Int32)))) else (if (σ 71 x1.toNatClampNeg) = (σ 74 x1.toNatClampNeg) then (((σ 66 x1.toNatClampNeg) + (1 : Int32)), (st2 σ 53 32 (5 : Int32))) else (((σ 66 x1.toNatClampNeg) + (1 : Int32)), (st2 σ 71 x1.toNatClampNeg ((σ 71 x1.toNatClampNeg) - (1 : Int32))))))) else (if (aK σ x1) = (16 : Int32) then (((σ 66 x1.toNatClampNeg) + (1 : Int32)), (st2 σ 53 32 ((10 : Int32) + ((f_X6_r σ x1 (aX σ x1)) &&& (7 : Int32))))) else (if (σ 73 x1.toNatClampNeg) = 0 then (ap (fun u33 => (((σ 66 x1.toNatClampNeg) + (1 : Int32)), u33.2)) (f_X6_rows σ x1 (aK σ x1) (aX σ x1) (aY σ x1) (aZ σ x1))) else (((σ 66 x1.toNatClampNeg) + (1 : Int32)), (st2 σ 53 32 (5 : Int32)))))))))))))))))))
theorem mw_X6_doAct : mW yX6_doAct cX6_doAct 9 (some .int) 1 := ⟨wd_co_yX6_doAct, wd_ini_RX6, ⟨by decide, by decide⟩, by decide +kernel, by decide⟩
set_option maxRecDepth 100000 in
set_option maxHeartbeats 4000000 in
theorem c_X6_doAct (l : Launch) {G : gT} (hF : FullR G) (σ : mS) (x1 : Int32) (ht : vp_in x1 3) (hp : vp_in (σ 66 x1.toNatClampNeg) 24) (hR : ¬ f_X6_fits (aK σ x1) (aX σ x1) (aY σ x1) (aZ σ x1) = 0) (hL : Lz σ) (b : Nat) (hw : Wr σ b) (hb : b < 2 ^ 27) (hS : ∀ r, r < 4 → σ 57 r = -1 ∨ vp_in (σ 57 r) 9) (hT : vp_in (σ 71 x1.toNatClampNeg) 5) : Ct l G yX6_doAct cX6_doAct 9 (some .int) 5 [.ref (ad G 53), .int x1] κI σ (f_X6_doAct σ x1) := by
  refine Ct.ofV [(0, .ref (ad G 53)), (1, .int x1)] rfl (by decide) (Nat.le_of_ble_eq_true rfl) rfl (fun X => ?_)
  unfold f_X6_doAct
  refine Vbipush dX6_doAct_0 (24 : Int32) (by decide) 2 rfl ?_
  refine Vload_n dX6_doAct_2 1 rfl 3 rfl ?_
  refine Vimul dX6_doAct_3 4 rfl ?_
  refine Vaload_n dX6_doAct_4 0 rfl 5 rfl ?_
  refine Vget (53) 13 dX6_doAct_5 8 rfl (hF.1 53 (by decide)) wk53 rfl inX6 (by decide) wd_fl_RX6_47 (v := .ref (ad G 66)) rfl ?_
  refine Vload_n dX6_doAct_8 1 rfl 9 rfl ?_
  refine Vld dX6_doAct_9 10 rfl (hF.1 66 (by decide)) wk66 wn66 hF.2.1 (by first | exact (by assumption) | exact (vin_cmp2 (by assumption) (by assumption) (by decide)) | exact (vin_cell (by assumption)) | exact (vin_reg (by assumption)) | exact (vin_row (by assumption)) | exact (vin_cnt (by assumption) (by assumption) (by decide) (by decide) (by assumption)) | exact (vin_cmp (by assumption) (by assumption) (by decide)) | exact (vp_in_iff.mpr (by decide))) ?_
  refine Viadd dX6_doAct_10 11 rfl ?_
  refine Vstore_n dX6_doAct_11 [(2, .int (((24 : Int32) * x1) + (σ 66 x1.toNatClampNeg))), (0, .ref (ad G 53)), (1, .int x1)] 12 rfl (by decide) rfl ?_
  refine Vaload_n dX6_doAct_12 1 rfl 13 rfl ?_
  refine Vget (53) 8 dX6_doAct_13 16 rfl (hF.1 53 (by decide)) wk53 rfl inX6 (by decide) wd_fl_RX6_32 (v := .ref (ad G 61)) rfl ?_
  refine Vload_n dX6_doAct_16 0 rfl 17 rfl ?_
  refine Vld dX6_doAct_17 18 rfl (hF.1 61 (by decide)) wk61 wn61 hF.2.1 (by first | exact (vmul 24 3 (by decide) ht hp (by decide))) ?_
  refine Vstore_n dX6_doAct_18 [(3, .int (aK σ x1)), (2, .int (((24 : Int32) * x1) + (σ 66 x1.toNatClampNeg))), (0, .ref (ad G 53)), (1, .int x1)] 19 rfl (by decide) rfl ?_
  refine Vaload_n dX6_doAct_19 2 rfl 20 rfl ?_
  refine Vget (53) 9 dX6_doAct_20 23 rfl (hF.1 53 (by decide)) wk53 rfl inX6 (by decide) wd_fl_RX6_35 (v := .ref (ad G 62)) rfl ?_
  refine Vload_n dX6_doAct_23 1 rfl 24 rfl ?_
  refine Vld dX6_doAct_24 25 rfl (hF.1 62 (by decide)) wk62 wn62 hF.2.1 (by first | exact (vmul 24 3 (by decide) ht hp (by decide))) ?_
  refine Vstore dX6_doAct_25 [(4, .int (aX σ x1)), (3, .int (aK σ x1)), (2, .int (((24 : Int32) * x1) + (σ 66 x1.toNatClampNeg))), (0, .ref (ad G 53)), (1, .int x1)] 27 rfl (by decide) rfl ?_
  refine Vaload_n dX6_doAct_27 3 rfl 28 rfl ?_
  refine Vget (53) 10 dX6_doAct_28 31 rfl (hF.1 53 (by decide)) wk53 rfl inX6 (by decide) wd_fl_RX6_38 (v := .ref (ad G 63)) rfl ?_
  refine Vload_n dX6_doAct_31 2 rfl 32 rfl ?_
  refine Vld dX6_doAct_32 33 rfl (hF.1 63 (by decide)) wk63 wn63 hF.2.1 (by first | exact (vmul 24 3 (by decide) ht hp (by decide))) ?_
  refine Vstore dX6_doAct_33 [(5, .int (aY σ x1)), (4, .int (aX σ x1)), (3, .int (aK σ x1)), (2, .int (((24 : Int32) * x1) + (σ 66 x1.toNatClampNeg))), (0, .ref (ad G 53)), (1, .int x1)] 35 rfl (by decide) rfl ?_
  refine Vaload_n dX6_doAct_35 4 rfl 36 rfl ?_
  refine Vget (53) 11 dX6_doAct_36 39 rfl (hF.1 53 (by decide)) wk53 rfl inX6 (by decide) wd_fl_RX6_41 (v := .ref (ad G 64)) rfl ?_
  refine Vload_n dX6_doAct_39 3 rfl 40 rfl ?_
  refine Vld dX6_doAct_40 41 rfl (hF.1 64 (by decide)) wk64 wn64 hF.2.1 (by first | exact (vmul 24 3 (by decide) ht hp (by decide))) ?_
  refine Vstore dX6_doAct_41 [(6, .int (aZ σ x1)), (5, .int (aY σ x1)), (4, .int (aX σ x1)), (3, .int (aK σ x1)), (2, .int (((24 : Int32) * x1) + (σ 66 x1.toNatClampNeg))), (0, .ref (ad G 53)), (1, .int x1)] 43 rfl (by decide) rfl ?_
  refine Vaload_n dX6_doAct_43 5 rfl 44 rfl ?_
  refine Vget (53) 13 dX6_doAct_44 47 rfl (hF.1 53 (by decide)) wk53 rfl inX6 (by decide) wd_fl_RX6_47 (v := .ref (ad G 66)) rfl ?_
  refine Vload_n dX6_doAct_47 6 rfl 48 rfl ?_
  refine Vld dX6_doAct_48 49 rfl (hF.1 66 (by decide)) wk66 wn66 hF.2.1 (by first | exact (by assumption) | exact (vin_cmp2 (by assumption) (by assumption) (by decide)) | exact (vin_cell (by assumption)) | exact (vin_reg (by assumption)) | exact (vin_row (by assumption)) | exact (vin_cnt (by assumption) (by assumption) (by decide) (by decide) (by assumption)) | exact (vin_cmp (by assumption) (by assumption) (by decide)) | exact (vp_in_iff.mpr (by decide))) ?_
  refine Viconst dX6_doAct_49 (1 : Int32) (by decide) 50 rfl ?_
  refine Viadd dX6_doAct_50 51 rfl ?_
  refine Vstore dX6_doAct_51 [(7, .int ((σ 66 x1.toNatClampNeg) + (1 : Int32))), (6, .int (aZ σ x1)), (5, .int (aY σ x1)), (4, .int (aX σ x1)), (3, .int (aK σ x1)), (2, .int (((24 : Int32) * x1) + (σ 66 x1.toNatClampNeg))), (0, .ref (ad G 53)), (1, .int x1)] 53 rfl (by decide) rfl ?_
  refine Vload_n dX6_doAct_53 4 rfl 54 rfl ?_
  refine Vif (fun v => v) (fun h1 => ?_) (fun h1 => ?_)
  · refine Vswin dX6_doAct_54 136 (by rw [h1]; decide) (by rw [h1]; decide) (off := 82) (by rw [h1]; rfl) (by decide) ?_
    refine Vaload_n dX6_doAct_136 6 rfl 137 rfl ?_
    refine Vload_n dX6_doAct_137 7 rfl 138 rfl ?_
    refine Vload dX6_doAct_138 3 rfl 140 rfl ?_
    refine Vload dX6_doAct_140 2 rfl 142 rfl ?_
    refine Vgen ?_
    intro u2 eu2
    refine VcVv (u := u2) dX6_doAct_142 [.int x1, .int (aX σ x1), .int (aY σ x1)] (by rw [eu2]; exact c_X6_give l hF σ x1 (aX σ x1) (aY σ x1) ht (fits0 hR (by assumption))) mw_X6_give wd_im_yX6_give wd_se_yX6_give wd_ml_RX6_147 (hF.1 53 (by decide)) wk53 rfl rfl (by decide) rfl rfl (Nat.le_of_ble_eq_true rfl) 145 rfl ?_
    refine Vgoto dX6_doAct_145 411 (by decide) ?_
    refine Vload dX6_doAct_411 0 rfl 413 rfl ?_
    exact Viret dX6_doAct_413
  refine Vif (fun v => v) (fun h3 => ?_) (fun h3 => ?_)
  · refine Vswin dX6_doAct_54 148 (by rw [h3]; decide) (by rw [h3]; decide) (off := 94) (by rw [h3]; rfl) (by decide) ?_
    refine Vaload_n dX6_doAct_148 6 rfl 149 rfl ?_
    refine Vload_n dX6_doAct_149 7 rfl 150 rfl ?_
    refine Vload dX6_doAct_150 2 rfl 152 rfl ?_
    refine Vgen ?_
    intro u4 eu4
    refine VcVi (u := u4) dX6_doAct_152 [.int x1, .int (aY σ x1)] (by rw [eu4]; exact c_X6_read l hF σ x1 (aY σ x1) ht (fits1 hR (by assumption)).2 hL b hw (by omega)) mw_X6_read wd_im_yX6_read wd_se_yX6_read wd_ml_RX6_150 (hF.1 53 (by decide)) wk53 rfl rfl (by decide) rfl rfl (Nat.le_of_ble_eq_true rfl) 155 rfl ?_
    refine Vstore dX6_doAct_155 [(8, .int u4.1), (7, .int ((σ 66 x1.toNatClampNeg) + (1 : Int32))), (6, .int (aZ σ x1)), (5, .int (aY σ x1)), (4, .int (aX σ x1)), (3, .int (aK σ x1)), (2, .int (((24 : Int32) * x1) + (σ 66 x1.toNatClampNeg))), (0, .ref (ad G 53)), (1, .int x1)] 157 rfl (by decide) rfl ?_
    refine Vaload_n dX6_doAct_157 7 rfl 158 rfl ?_
    refine Vload_n dX6_doAct_158 8 rfl 159 rfl ?_
    refine Vload dX6_doAct_159 4 rfl 161 rfl ?_
    refine Vload dX6_doAct_161 0 rfl 163 rfl ?_
    refine Vgen ?_
    intro u5 eu5
    refine VcVv (u := u5) dX6_doAct_163 [.int x1, .int (aX σ x1), .int u4.1] (by rw [eu5]; exact c_X6_give l hF u4.2 x1 (aX σ x1) u4.1 ht (fits1 hR (by assumption)).1) mw_X6_give wd_im_yX6_give wd_se_yX6_give wd_ml_RX6_147 (hF.1 53 (by decide)) wk53 rfl rfl (by decide) rfl rfl (Nat.le_of_ble_eq_true rfl) 166 rfl ?_
    refine Vgoto dX6_doAct_166 411 (by decide) ?_
    refine Vload dX6_doAct_411 1 rfl 413 rfl ?_
    exact Viret dX6_doAct_413
  refine Vif (fun v => v) (fun h6 => ?_) (fun h6 => ?_)
  · refine Vswin dX6_doAct_54 169 (by rw [h6]; decide) (by rw [h6]; decide) (off := 115) (by rw [h6]; rfl) (by decide) ?_
    refine Vaload_n dX6_doAct_169 6 rfl 170 rfl ?_
    refine Vload_n dX6_doAct_170 7 rfl 171 rfl ?_
    refine Vload dX6_doAct_171 3 rfl 173 rfl ?_
    refine Vaload_n dX6_doAct_173 6 rfl 174 rfl ?_
    refine Vload_n dX6_doAct_174 7 rfl 175 rfl ?_
    refine Vload dX6_doAct_175 2 rfl 177 rfl ?_
    refine VcVp dX6_doAct_177 [.int x1, .int (aY σ x1)] (c_X6_r l hF σ x1 (aY σ x1) ht (fits2 hR (by assumption)).2) mw_X6_r wd_im_yX6_r wd_se_yX6_r wd_ml_RX6_153 (hF.1 53 (by decide)) wk53 rfl rfl (by decide) rfl rfl (Nat.le_of_ble_eq_true rfl) 180 rfl ?_
    refine Vgen ?_
    intro u7 eu7
    refine VcVv (u := u7) dX6_doAct_180 [.int x1, .int (aX σ x1), .int (f_X6_r σ x1 (aY σ x1))] (by rw [eu7]; exact c_X6_lay l hF σ x1 (aX σ x1) (f_X6_r σ x1 (aY σ x1)) ht (fits2 hR (by assumption)).1 b hw (by omega)) mw_X6_lay wd_im_yX6_lay wd_se_yX6_lay wd_ml_RX6_156 (hF.1 53 (by decide)) wk53 rfl rfl (by decide) rfl rfl (Nat.le_of_ble_eq_true rfl) 183 rfl ?_
    refine Vgoto dX6_doAct_183 411 (by decide) ?_
    refine Vload dX6_doAct_411 0 rfl 413 rfl ?_
    exact Viret dX6_doAct_413
  refine Vif (fun v => v) (fun h8 => ?_) (fun h8 => ?_)
  · refine Vswin dX6_doAct_54 186 (by rw [h8]; decide) (by rw [h8]; decide) (off := 132) (by rw [h8]; rfl) (by decide) ?_
    refine Vaload_n dX6_doAct_186 6 rfl 187 rfl ?_
    refine Vload_n dX6_doAct_187 7 rfl 188 rfl ?_
    refine Vload_n dX6_doAct_188 4 rfl 189 rfl ?_
    refine Vload dX6_doAct_189 3 rfl 191 rfl ?_
    refine Vaload_n dX6_doAct_191 6 rfl 192 rfl ?_
    refine Vload_n dX6_doAct_192 7 rfl 193 rfl ?_
    refine Vload dX6_doAct_193 2 rfl 195 rfl ?_
    refine VcVp dX6_doAct_195 [.int x1, .int (aY σ x1)] (c_X6_r l hF σ x1 (aY σ x1) ht (fits36 hR (by first | exact Or.inl (by assumption) | exact Or.inr (Or.inl (by assumption)) | exact Or.inr (Or.inr (Or.inl (by assumption))) | exact Or.inr (Or.inr (Or.inr (by assumption))))).2.1) mw_X6_r wd_im_yX6_r wd_se_yX6_r wd_ml_RX6_153 (hF.1 53 (by decide)) wk53 rfl rfl (by decide) rfl rfl (Nat.le_of_ble_eq_true rfl) 198 rfl ?_
    refine Vaload_n dX6_doAct_198 6 rfl 199 rfl ?_
    refine Vload_n dX6_doAct_199 7 rfl 200 rfl ?_
    refine Vload dX6_doAct_200 1 rfl 202 rfl ?_
    refine VcVp dX6_doAct_202 [.int x1, .int (aZ σ x1)] (c_X6_r l hF σ x1 (aZ σ x1) ht (fits36 hR (by first | exact Or.inl (by assumption) | exact Or.inr (Or.inl (by assumption)) | exact Or.inr (Or.inr (Or.inl (by assumption))) | exact Or.inr (Or.inr (Or.inr (by assumption))))).2.2) mw_X6_r wd_im_yX6_r wd_se_yX6_r wd_ml_RX6_153 (hF.1 53 (by decide)) wk53 rfl rfl (by decide) rfl rfl (Nat.le_of_ble_eq_true rfl) 205 rfl ?_
    refine Vgen ?_
    intro u9 eu9
    refine VcVv (u := u9) dX6_doAct_205 [.int x1, .int (aK σ x1), .int (aX σ x1), .int (f_X6_r σ x1 (aY σ x1)), .int (f_X6_r σ x1 (aZ σ x1))] (by rw [eu9]; exact c_X6_compute l hF σ x1 (aK σ x1) (aX σ x1) (f_X6_r σ x1 (aY σ x1)) (f_X6_r σ x1 (aZ σ x1)) ht (fits36 hR (by first | exact Or.inl (by assumption) | exact Or.inr (Or.inl (by assumption)) | exact Or.inr (Or.inr (Or.inl (by assumption))) | exact Or.inr (Or.inr (Or.inr (by assumption))))).1 (by first | exact Or.inl (by assumption) | exact Or.inr (Or.inl (by assumption)) | exact Or.inr (Or.inr (Or.inl (by assumption))) | exact Or.inr (Or.inr (Or.inr (by assumption))))) mw_X6_compute wd_im_yX6_compute wd_se_yX6_compute wd_ml_RX6_163 (hF.1 53 (by decide)) wk53 rfl rfl (by decide) rfl rfl (Nat.le_of_ble_eq_true rfl) 208 rfl ?_
    refine Vgoto dX6_doAct_208 411 (by decide) ?_
    refine Vload dX6_doAct_411 0 rfl 413 rfl ?_
    exact Viret dX6_doAct_413
  refine Vif (fun v => v) (fun h10 => ?_) (fun h10 => ?_)
  · refine Vswin dX6_doAct_54 186 (by rw [h10]; decide) (by rw [h10]; decide) (off := 132) (by rw [h10]; rfl) (by decide) ?_
    refine Vaload_n dX6_doAct_186 6 rfl 187 rfl ?_
    refine Vload_n dX6_doAct_187 7 rfl 188 rfl ?_
    refine Vload_n dX6_doAct_188 4 rfl 189 rfl ?_
    refine Vload dX6_doAct_189 3 rfl 191 rfl ?_
    refine Vaload_n dX6_doAct_191 6 rfl 192 rfl ?_
    refine Vload_n dX6_doAct_192 7 rfl 193 rfl ?_
    refine Vload dX6_doAct_193 2 rfl 195 rfl ?_
    refine VcVp dX6_doAct_195 [.int x1, .int (aY σ x1)] (c_X6_r l hF σ x1 (aY σ x1) ht (fits36 hR (by first | exact Or.inl (by assumption) | exact Or.inr (Or.inl (by assumption)) | exact Or.inr (Or.inr (Or.inl (by assumption))) | exact Or.inr (Or.inr (Or.inr (by assumption))))).2.1) mw_X6_r wd_im_yX6_r wd_se_yX6_r wd_ml_RX6_153 (hF.1 53 (by decide)) wk53 rfl rfl (by decide) rfl rfl (Nat.le_of_ble_eq_true rfl) 198 rfl ?_
    refine Vaload_n dX6_doAct_198 6 rfl 199 rfl ?_
    refine Vload_n dX6_doAct_199 7 rfl 200 rfl ?_
    refine Vload dX6_doAct_200 1 rfl 202 rfl ?_
    refine VcVp dX6_doAct_202 [.int x1, .int (aZ σ x1)] (c_X6_r l hF σ x1 (aZ σ x1) ht (fits36 hR (by first | exact Or.inl (by assumption) | exact Or.inr (Or.inl (by assumption)) | exact Or.inr (Or.inr (Or.inl (by assumption))) | exact Or.inr (Or.inr (Or.inr (by assumption))))).2.2) mw_X6_r wd_im_yX6_r wd_se_yX6_r wd_ml_RX6_153 (hF.1 53 (by decide)) wk53 rfl rfl (by decide) rfl rfl (Nat.le_of_ble_eq_true rfl) 205 rfl ?_
    refine Vgen ?_
    intro u11 eu11
    refine VcVv (u := u11) dX6_doAct_205 [.int x1, .int (aK σ x1), .int (aX σ x1), .int (f_X6_r σ x1 (aY σ x1)), .int (f_X6_r σ x1 (aZ σ x1))] (by rw [eu11]; exact c_X6_compute l hF σ x1 (aK σ x1) (aX σ x1) (f_X6_r σ x1 (aY σ x1)) (f_X6_r σ x1 (aZ σ x1)) ht (fits36 hR (by first | exact Or.inl (by assumption) | exact Or.inr (Or.inl (by assumption)) | exact Or.inr (Or.inr (Or.inl (by assumption))) | exact Or.inr (Or.inr (Or.inr (by assumption))))).1 (by first | exact Or.inl (by assumption) | exact Or.inr (Or.inl (by assumption)) | exact Or.inr (Or.inr (Or.inl (by assumption))) | exact Or.inr (Or.inr (Or.inr (by assumption))))) mw_X6_compute wd_im_yX6_compute wd_se_yX6_compute wd_ml_RX6_163 (hF.1 53 (by decide)) wk53 rfl rfl (by decide) rfl rfl (Nat.le_of_ble_eq_true rfl) 208 rfl ?_
    refine Vgoto dX6_doAct_208 411 (by decide) ?_
    refine Vload dX6_doAct_411 0 rfl 413 rfl ?_
    exact Viret dX6_doAct_413
  refine Vif (fun v => v) (fun h12 => ?_) (fun h12 => ?_)
  · refine Vswin dX6_doAct_54 186 (by rw [h12]; decide) (by rw [h12]; decide) (off := 132) (by rw [h12]; rfl) (by decide) ?_
    refine Vaload_n dX6_doAct_186 6 rfl 187 rfl ?_
    refine Vload_n dX6_doAct_187 7 rfl 188 rfl ?_
    refine Vload_n dX6_doAct_188 4 rfl 189 rfl ?_
    refine Vload dX6_doAct_189 3 rfl 191 rfl ?_
    refine Vaload_n dX6_doAct_191 6 rfl 192 rfl ?_
    refine Vload_n dX6_doAct_192 7 rfl 193 rfl ?_
    refine Vload dX6_doAct_193 2 rfl 195 rfl ?_
    refine VcVp dX6_doAct_195 [.int x1, .int (aY σ x1)] (c_X6_r l hF σ x1 (aY σ x1) ht (fits36 hR (by first | exact Or.inl (by assumption) | exact Or.inr (Or.inl (by assumption)) | exact Or.inr (Or.inr (Or.inl (by assumption))) | exact Or.inr (Or.inr (Or.inr (by assumption))))).2.1) mw_X6_r wd_im_yX6_r wd_se_yX6_r wd_ml_RX6_153 (hF.1 53 (by decide)) wk53 rfl rfl (by decide) rfl rfl (Nat.le_of_ble_eq_true rfl) 198 rfl ?_
    refine Vaload_n dX6_doAct_198 6 rfl 199 rfl ?_
    refine Vload_n dX6_doAct_199 7 rfl 200 rfl ?_
    refine Vload dX6_doAct_200 1 rfl 202 rfl ?_
    refine VcVp dX6_doAct_202 [.int x1, .int (aZ σ x1)] (c_X6_r l hF σ x1 (aZ σ x1) ht (fits36 hR (by first | exact Or.inl (by assumption) | exact Or.inr (Or.inl (by assumption)) | exact Or.inr (Or.inr (Or.inl (by assumption))) | exact Or.inr (Or.inr (Or.inr (by assumption))))).2.2) mw_X6_r wd_im_yX6_r wd_se_yX6_r wd_ml_RX6_153 (hF.1 53 (by decide)) wk53 rfl rfl (by decide) rfl rfl (Nat.le_of_ble_eq_true rfl) 205 rfl ?_
    refine Vgen ?_
    intro u13 eu13
    refine VcVv (u := u13) dX6_doAct_205 [.int x1, .int (aK σ x1), .int (aX σ x1), .int (f_X6_r σ x1 (aY σ x1)), .int (f_X6_r σ x1 (aZ σ x1))] (by rw [eu13]; exact c_X6_compute l hF σ x1 (aK σ x1) (aX σ x1) (f_X6_r σ x1 (aY σ x1)) (f_X6_r σ x1 (aZ σ x1)) ht (fits36 hR (by first | exact Or.inl (by assumption) | exact Or.inr (Or.inl (by assumption)) | exact Or.inr (Or.inr (Or.inl (by assumption))) | exact Or.inr (Or.inr (Or.inr (by assumption))))).1 (by first | exact Or.inl (by assumption) | exact Or.inr (Or.inl (by assumption)) | exact Or.inr (Or.inr (Or.inl (by assumption))) | exact Or.inr (Or.inr (Or.inr (by assumption))))) mw_X6_compute wd_im_yX6_compute wd_se_yX6_compute wd_ml_RX6_163 (hF.1 53 (by decide)) wk53 rfl rfl (by decide) rfl rfl (Nat.le_of_ble_eq_true rfl) 208 rfl ?_
    refine Vgoto dX6_doAct_208 411 (by decide) ?_
    refine Vload dX6_doAct_411 0 rfl 413 rfl ?_
    exact Viret dX6_doAct_413
  refine Vif (fun v => v) (fun h14 => ?_) (fun h14 => ?_)
  · refine Vswin dX6_doAct_54 186 (by rw [h14]; decide) (by rw [h14]; decide) (off := 132) (by rw [h14]; rfl) (by decide) ?_
    refine Vaload_n dX6_doAct_186 6 rfl 187 rfl ?_
    refine Vload_n dX6_doAct_187 7 rfl 188 rfl ?_
    refine Vload_n dX6_doAct_188 4 rfl 189 rfl ?_
    refine Vload dX6_doAct_189 3 rfl 191 rfl ?_
    refine Vaload_n dX6_doAct_191 6 rfl 192 rfl ?_
    refine Vload_n dX6_doAct_192 7 rfl 193 rfl ?_
    refine Vload dX6_doAct_193 2 rfl 195 rfl ?_
    refine VcVp dX6_doAct_195 [.int x1, .int (aY σ x1)] (c_X6_r l hF σ x1 (aY σ x1) ht (fits36 hR (by first | exact Or.inl (by assumption) | exact Or.inr (Or.inl (by assumption)) | exact Or.inr (Or.inr (Or.inl (by assumption))) | exact Or.inr (Or.inr (Or.inr (by assumption))))).2.1) mw_X6_r wd_im_yX6_r wd_se_yX6_r wd_ml_RX6_153 (hF.1 53 (by decide)) wk53 rfl rfl (by decide) rfl rfl (Nat.le_of_ble_eq_true rfl) 198 rfl ?_
    refine Vaload_n dX6_doAct_198 6 rfl 199 rfl ?_
    refine Vload_n dX6_doAct_199 7 rfl 200 rfl ?_
    refine Vload dX6_doAct_200 1 rfl 202 rfl ?_
    refine VcVp dX6_doAct_202 [.int x1, .int (aZ σ x1)] (c_X6_r l hF σ x1 (aZ σ x1) ht (fits36 hR (by first | exact Or.inl (by assumption) | exact Or.inr (Or.inl (by assumption)) | exact Or.inr (Or.inr (Or.inl (by assumption))) | exact Or.inr (Or.inr (Or.inr (by assumption))))).2.2) mw_X6_r wd_im_yX6_r wd_se_yX6_r wd_ml_RX6_153 (hF.1 53 (by decide)) wk53 rfl rfl (by decide) rfl rfl (Nat.le_of_ble_eq_true rfl) 205 rfl ?_
    refine Vgen ?_
    intro u15 eu15
    refine VcVv (u := u15) dX6_doAct_205 [.int x1, .int (aK σ x1), .int (aX σ x1), .int (f_X6_r σ x1 (aY σ x1)), .int (f_X6_r σ x1 (aZ σ x1))] (by rw [eu15]; exact c_X6_compute l hF σ x1 (aK σ x1) (aX σ x1) (f_X6_r σ x1 (aY σ x1)) (f_X6_r σ x1 (aZ σ x1)) ht (fits36 hR (by first | exact Or.inl (by assumption) | exact Or.inr (Or.inl (by assumption)) | exact Or.inr (Or.inr (Or.inl (by assumption))) | exact Or.inr (Or.inr (Or.inr (by assumption))))).1 (by first | exact Or.inl (by assumption) | exact Or.inr (Or.inl (by assumption)) | exact Or.inr (Or.inr (Or.inl (by assumption))) | exact Or.inr (Or.inr (Or.inr (by assumption))))) mw_X6_compute wd_im_yX6_compute wd_se_yX6_compute wd_ml_RX6_163 (hF.1 53 (by decide)) wk53 rfl rfl (by decide) rfl rfl (Nat.le_of_ble_eq_true rfl) 208 rfl ?_
    refine Vgoto dX6_doAct_208 411 (by decide) ?_
    refine Vload dX6_doAct_411 0 rfl 413 rfl ?_
    exact Viret dX6_doAct_413
  refine Vif (fun v => v) (fun h16 => ?_) (fun h16 => ?_)
  · refine Vswin dX6_doAct_54 211 (by rw [h16]; decide) (by rw [h16]; decide) (off := 157) (by rw [h16]; rfl) (by decide) ?_
    refine Vaload_n dX6_doAct_211 6 rfl 212 rfl ?_
    refine Vload_n dX6_doAct_212 7 rfl 213 rfl ?_
    refine Vload dX6_doAct_213 3 rfl 215 rfl ?_
    refine Vload dX6_doAct_215 2 rfl 217 rfl ?_
    refine Vload dX6_doAct_217 1 rfl 219 rfl ?_
    refine Vgen ?_
    intro u17 eu17
    refine VcVv (u := u17) dX6_doAct_219 [.int x1, .int (aX σ x1), .int (aY σ x1), .int (aZ σ x1)] (by rw [eu17]; exact c_X6_swap l hF σ x1 (aX σ x1) (aY σ x1) (aZ σ x1) ht (fits9 hR (by assumption)).1 (fits9 hR (by assumption)).2.1 (fits9 hR (by assumption)).2.2 hL b hw (by omega)) mw_X6_swap wd_im_yX6_swap wd_se_yX6_swap wd_ml_RX6_167 (hF.1 53 (by decide)) wk53 rfl rfl (by decide) rfl rfl (Nat.le_of_ble_eq_true rfl) 222 rfl ?_
    refine Vgoto dX6_doAct_222 411 (by decide) ?_
    refine Vload dX6_doAct_411 0 rfl 413 rfl ?_
    exact Viret dX6_doAct_413
  refine Vif (fun v => v) (fun h18 => ?_) (fun h18 => ?_)
  · refine Vswin dX6_doAct_54 225 (by rw [h18]; decide) (by rw [h18]; decide) (off := 171) (by rw [h18]; rfl) (by decide) ?_
    refine Vload dX6_doAct_225 3 rfl 227 rfl ?_
    exact Viret dX6_doAct_227
  refine Vif (fun v => v) (fun h19 => ?_) (fun h19 => ?_)
  · refine Vswin dX6_doAct_54 228 (by rw [h19]; decide) (by rw [h19]; decide) (off := 174) (by rw [h19]; rfl) (by decide) ?_
    refine Vaload_n dX6_doAct_228 6 rfl 229 rfl ?_
    refine Vload_n dX6_doAct_229 7 rfl 230 rfl ?_
    refine Vload dX6_doAct_230 3 rfl 232 rfl ?_
    refine VcVp dX6_doAct_232 [.int x1, .int (aX σ x1)] (c_X6_r l hF σ x1 (aX σ x1) ht (fits11 hR (by assumption))) mw_X6_r wd_im_yX6_r wd_se_yX6_r wd_ml_RX6_153 (hF.1 53 (by decide)) wk53 rfl rfl (by decide) rfl rfl (Nat.le_of_ble_eq_true rfl) 235 rfl ?_
    refine Vifne (fun v => v) dX6_doAct_235 243 238 (by decide) rfl (fun h20 => ?_) (fun h20 => ?_)
    · refine Vload dX6_doAct_243 0 rfl 245 rfl ?_
      exact Viret dX6_doAct_245
    · refine Vload dX6_doAct_238 2 rfl 240 rfl ?_
      refine Vgoto dX6_doAct_240 245 (by decide) ?_
      exact Viret dX6_doAct_245
  refine Vif (fun v => v) (fun h21 => ?_) (fun h21 => ?_)
  · refine Vswin dX6_doAct_54 246 (by rw [h21]; decide) (by rw [h21]; decide) (off := 192) (by rw [h21]; rfl) (by decide) ?_
    refine Vaload_n dX6_doAct_246 6 rfl 247 rfl ?_
    refine Vload_n dX6_doAct_247 7 rfl 248 rfl ?_
    refine Vgen ?_
    intro u22 eu22
    refine VcVv (u := u22) dX6_doAct_248 [.int x1] (by rw [eu22]; exact c_X6_beginAtom l hF σ x1 ht) mw_X6_beginAtom wd_im_yX6_beginAtom wd_se_yX6_beginAtom wd_ml_RX6_171 (hF.1 53 (by decide)) wk53 rfl rfl (by decide) rfl rfl (Nat.le_of_ble_eq_true rfl) 251 rfl ?_
    refine Vgoto dX6_doAct_251 411 (by decide) ?_
    refine Vload dX6_doAct_411 0 rfl 413 rfl ?_
    exact Viret dX6_doAct_413
  refine Vif (fun v => v) (fun h23 => ?_) (fun h23 => ?_)
  · refine Vswin dX6_doAct_54 254 (by rw [h23]; decide) (by rw [h23]; decide) (off := 200) (by rw [h23]; rfl) (by decide) ?_
    refine Vaload_n dX6_doAct_254 6 rfl 255 rfl ?_
    refine Vload_n dX6_doAct_255 7 rfl 256 rfl ?_
    refine Vgen ?_
    intro u24 eu24
    refine VcVi (u := u24) dX6_doAct_256 [.int x1] (by rw [eu24]; exact c_X6_endAtom l hF σ x1 ht b hw (by omega)) mw_X6_endAtom wd_im_yX6_endAtom wd_se_yX6_endAtom wd_ml_RX6_174 (hF.1 53 (by decide)) wk53 rfl rfl (by decide) rfl rfl (Nat.le_of_ble_eq_true rfl) 259 rfl ?_
    exact Viret dX6_doAct_259
  refine Vif (fun v => v) (fun h25 => ?_) (fun h25 => ?_)
  · refine Vswin dX6_doAct_54 260 (by rw [h25]; decide) (by rw [h25]; decide) (off := 206) (by rw [h25]; rfl) (by decide) ?_
    refine Vaload_n dX6_doAct_260 6 rfl 261 rfl ?_
    refine Vget (53) 18 dX6_doAct_261 264 rfl (hF.1 53 (by decide)) wk53 rfl inX6 (by decide) wd_fl_RX6_62 (v := .ref (ad G 71)) rfl ?_
    refine Vload_n dX6_doAct_264 7 rfl 265 rfl ?_
    refine Vld dX6_doAct_265 266 rfl (hF.1 71 (by decide)) wk71 wn71 hF.2.1 (by first | exact (by assumption) | exact (vin_cmp2 (by assumption) (by assumption) (by decide)) | exact (vin_cell (by assumption)) | exact (vin_reg (by assumption)) | exact (vin_row (by assumption)) | exact (vin_cnt (by assumption) (by assumption) (by decide) (by decide) (by assumption)) | exact (vin_cmp (by assumption) (by assumption) (by decide)) | exact (vp_in_iff.mpr (by decide))) ?_
    refine Viconst dX6_doAct_266 (4 : Int32) (by decide) 267 rfl ?_
    refine Vicne (fun v => v) dX6_doAct_267 278 270 (by decide) rfl (fun h26 => ?_) (fun h26 => ?_)
    · refine Vaload_n dX6_doAct_278 6 rfl 279 rfl ?_
      refine Vget (53) 19 dX6_doAct_279 282 rfl (hF.1 53 (by decide)) wk53 rfl inX6 (by decide) wd_fl_RX6_65 (v := .ref (ad G 72)) rfl ?_
      refine Viconst dX6_doAct_282 (4 : Int32) (by decide) 283 rfl ?_
      refine Vload_n dX6_doAct_283 7 rfl 284 rfl ?_
      refine Vimul dX6_doAct_284 285 rfl ?_
      refine Vaload_n dX6_doAct_285 6 rfl 286 rfl ?_
      refine Vget (53) 18 dX6_doAct_286 289 rfl (hF.1 53 (by decide)) wk53 rfl inX6 (by decide) wd_fl_RX6_62 (v := .ref (ad G 71)) rfl ?_
      refine Vload_n dX6_doAct_289 7 rfl 290 rfl ?_
      refine Vld dX6_doAct_290 291 rfl (hF.1 71 (by decide)) wk71 wn71 hF.2.1 (by first | exact (by assumption) | exact (vin_cmp2 (by assumption) (by assumption) (by decide)) | exact (vin_cell (by assumption)) | exact (vin_reg (by assumption)) | exact (vin_row (by assumption)) | exact (vin_cnt (by assumption) (by assumption) (by decide) (by decide) (by assumption)) | exact (vin_cmp (by assumption) (by assumption) (by decide)) | exact (vp_in_iff.mpr (by decide))) ?_
      refine Viadd dX6_doAct_291 292 rfl ?_
      refine Vload dX6_doAct_292 3 rfl 294 rfl ?_
      refine Vst dX6_doAct_294 295 rfl (hF.1 72 (by decide)) wk72 wn72 hF.2.1 (by first | exact (vmul 4 3 (by decide) ht (vin_ne (n := 4) hT (by decide) (by assumption)) (by decide))) ?_
      refine Vaload_n dX6_doAct_295 6 rfl 296 rfl ?_
      refine Vget (53) 18 dX6_doAct_296 299 rfl (hF.1 53 (by decide)) wk53 rfl inX6 (by decide) wd_fl_RX6_62 (v := .ref (ad G 71)) rfl ?_
      refine Vload_n dX6_doAct_299 7 rfl 300 rfl ?_
      refine Vdup2 dX6_doAct_300 301 rfl ?_
      refine Vld dX6_doAct_301 302 rfl (hF.1 71 (by decide)) wk71 wn71 hF.2.1 (by first | exact (by assumption) | exact (vin_cmp2 (by assumption) (by assumption) (by decide)) | exact (vin_cell (by assumption)) | exact (vin_reg (by assumption)) | exact (vin_row (by assumption)) | exact (vin_cnt (by assumption) (by assumption) (by decide) (by decide) (by assumption)) | exact (vin_cmp (by assumption) (by assumption) (by decide)) | exact (vp_in_iff.mpr (by decide))) ?_
      refine Viconst dX6_doAct_302 (1 : Int32) (by decide) 303 rfl ?_
      refine Viadd dX6_doAct_303 304 rfl ?_
      refine Vst dX6_doAct_304 305 rfl (hF.1 71 (by decide)) wk71 wn71 hF.2.1 (by first | exact (by assumption) | exact (vin_cmp2 (by assumption) (by assumption) (by decide)) | exact (vin_cell (by assumption)) | exact (vin_reg (by assumption)) | exact (vin_row (by assumption)) | exact (vin_cnt (by assumption) (by assumption) (by decide) (by decide) (by assumption)) | exact (vin_cmp (by assumption) (by assumption) (by decide)) | exact (vp_in_iff.mpr (by decide))) ?_
      refine Vgoto dX6_doAct_305 411 (by decide) ?_
      refine Vload dX6_doAct_411 0 rfl 413 rfl ?_
      exact Viret dX6_doAct_413
    · refine Vaload_n dX6_doAct_270 6 rfl 271 rfl ?_
      refine Viconst dX6_doAct_271 (5 : Int32) (by decide) 272 rfl ?_
      refine Vput (53) 32 tyX6 dX6_doAct_272 275 rfl (hF.1 53 (by decide)) wk53 rfl inX6 tyX6_ok nmX6 (by decide) wd_fl_RX6_133 rfl (ty := .int) (by decide +kernel) rfl rfl (fun f => rfl) (fun f => Nat.le_of_ble_eq_true rfl) ?_
      refine Vgoto dX6_doAct_275 411 (by decide) ?_
      refine Vload dX6_doAct_411 0 rfl 413 rfl ?_
      exact Viret dX6_doAct_413
  refine Vif (fun v => v) (fun h27 => ?_) (fun h27 => ?_)
  · refine Vswin dX6_doAct_54 308 (by rw [h27]; decide) (by rw [h27]; decide) (off := 254) (by rw [h27]; rfl) (by decide) ?_
    refine Vaload_n dX6_doAct_308 6 rfl 309 rfl ?_
    refine Vget (53) 18 dX6_doAct_309 312 rfl (hF.1 53 (by decide)) wk53 rfl inX6 (by decide) wd_fl_RX6_62 (v := .ref (ad G 71)) rfl ?_
    refine Vload_n dX6_doAct_312 7 rfl 313 rfl ?_
    refine Vld dX6_doAct_313 314 rfl (hF.1 71 (by decide)) wk71 wn71 hF.2.1 (by first | exact (by assumption) | exact (vin_cmp2 (by assumption) (by assumption) (by decide)) | exact (vin_cell (by assumption)) | exact (vin_reg (by assumption)) | exact (vin_row (by assumption)) | exact (vin_cnt (by assumption) (by assumption) (by decide) (by decide) (by assumption)) | exact (vin_cmp (by assumption) (by assumption) (by decide)) | exact (vp_in_iff.mpr (by decide))) ?_
    refine Vifeq (fun v => v) dX6_doAct_314 341 317 (by decide) rfl (fun h28 => ?_) (fun h28 => ?_)
    · refine Vaload_n dX6_doAct_341 6 rfl 342 rfl ?_
      refine Viconst dX6_doAct_342 (5 : Int32) (by decide) 343 rfl ?_
      refine Vput (53) 32 tyX6 dX6_doAct_343 346 rfl (hF.1 53 (by decide)) wk53 rfl inX6 tyX6_ok nmX6 (by decide) wd_fl_RX6_133 rfl (ty := .int) (by decide +kernel) rfl rfl (fun f => rfl) (fun f => Nat.le_of_ble_eq_true rfl) ?_
      refine Vgoto dX6_doAct_346 411 (by decide) ?_
      refine Vload dX6_doAct_411 0 rfl 413 rfl ?_
      exact Viret dX6_doAct_413
    · refine Vaload_n dX6_doAct_317 6 rfl 318 rfl ?_
      refine Vget (53) 20 dX6_doAct_318 321 rfl (hF.1 53 (by decide)) wk53 rfl inX6 (by decide) wd_fl_RX6_68 (v := .ref (ad G 73)) rfl ?_
      refine Vload_n dX6_doAct_321 7 rfl 322 rfl ?_
      refine Vldz dX6_doAct_322 323 rfl (hF.1 73 (by decide)) wk73 wn73 hF.2.2.1 (by first | exact (by assumption) | exact (vin_cmp2 (by assumption) (by assumption) (by decide)) | exact (vin_cell (by assumption)) | exact (vin_reg (by assumption)) | exact (vin_row (by assumption)) | exact (vin_cnt (by assumption) (by assumption) (by decide) (by decide) (by assumption)) | exact (vin_cmp (by assumption) (by assumption) (by decide)) | exact (vp_in_iff.mpr (by decide))) ?_
      refine Vifeq (fun v => v) dX6_doAct_323 349 326 (by decide) rfl (fun h29 => ?_) (fun h29 => ?_)
      · refine Vaload_n dX6_doAct_349 6 rfl 350 rfl ?_
        refine Vget (53) 18 dX6_doAct_350 353 rfl (hF.1 53 (by decide)) wk53 rfl inX6 (by decide) wd_fl_RX6_62 (v := .ref (ad G 71)) rfl ?_
        refine Vload_n dX6_doAct_353 7 rfl 354 rfl ?_
        refine Vdup2 dX6_doAct_354 355 rfl ?_
        refine Vld dX6_doAct_355 356 rfl (hF.1 71 (by decide)) wk71 wn71 hF.2.1 (by first | exact (by assumption) | exact (vin_cmp2 (by assumption) (by assumption) (by decide)) | exact (vin_cell (by assumption)) | exact (vin_reg (by assumption)) | exact (vin_row (by assumption)) | exact (vin_cnt (by assumption) (by assumption) (by decide) (by decide) (by assumption)) | exact (vin_cmp (by assumption) (by assumption) (by decide)) | exact (vp_in_iff.mpr (by decide))) ?_
        refine Viconst dX6_doAct_356 (1 : Int32) (by decide) 357 rfl ?_
        refine Visub dX6_doAct_357 358 rfl ?_
        refine Vst dX6_doAct_358 359 rfl (hF.1 71 (by decide)) wk71 wn71 hF.2.1 (by first | exact (by assumption) | exact (vin_cmp2 (by assumption) (by assumption) (by decide)) | exact (vin_cell (by assumption)) | exact (vin_reg (by assumption)) | exact (vin_row (by assumption)) | exact (vin_cnt (by assumption) (by assumption) (by decide) (by decide) (by assumption)) | exact (vin_cmp (by assumption) (by assumption) (by decide)) | exact (vp_in_iff.mpr (by decide))) ?_
        refine Vgoto dX6_doAct_359 411 (by decide) ?_
        refine Vload dX6_doAct_411 0 rfl 413 rfl ?_
        exact Viret dX6_doAct_413
      · refine Vaload_n dX6_doAct_326 6 rfl 327 rfl ?_
        refine Vget (53) 18 dX6_doAct_327 330 rfl (hF.1 53 (by decide)) wk53 rfl inX6 (by decide) wd_fl_RX6_62 (v := .ref (ad G 71)) rfl ?_
        refine Vload_n dX6_doAct_330 7 rfl 331 rfl ?_
        refine Vld dX6_doAct_331 332 rfl (hF.1 71 (by decide)) wk71 wn71 hF.2.1 (by first | exact (by assumption) | exact (vin_cmp2 (by assumption) (by assumption) (by decide)) | exact (vin_cell (by assumption)) | exact (vin_reg (by assumption)) | exact (vin_row (by assumption)) | exact (vin_cnt (by assumption) (by assumption) (by decide) (by decide) (by assumption)) | exact (vin_cmp (by assumption) (by assumption) (by decide)) | exact (vp_in_iff.mpr (by decide))) ?_
        refine Vaload_n dX6_doAct_332 6 rfl 333 rfl ?_
        refine Vget (53) 21 dX6_doAct_333 336 rfl (hF.1 53 (by decide)) wk53 rfl inX6 (by decide) wd_fl_RX6_71 (v := .ref (ad G 74)) rfl ?_
        refine Vload_n dX6_doAct_336 7 rfl 337 rfl ?_
        refine Vld dX6_doAct_337 338 rfl (hF.1 74 (by decide)) wk74 wn74 hF.2.1 (by first | exact (by assumption) | exact (vin_cmp2 (by assumption) (by assumption) (by decide)) | exact (vin_cell (by assumption)) | exact (vin_reg (by assumption)) | exact (vin_row (by assumption)) | exact (vin_cnt (by assumption) (by assumption) (by decide) (by decide) (by assumption)) | exact (vin_cmp (by assumption) (by assumption) (by decide)) | exact (vp_in_iff.mpr (by decide))) ?_
        refine Vicne (fun v => v) dX6_doAct_338 349 341 (by decide) rfl (fun h30 => ?_) (fun h30 => ?_)
        · refine Vaload_n dX6_doAct_349 6 rfl 350 rfl ?_
          refine Vget (53) 18 dX6_doAct_350 353 rfl (hF.1 53 (by decide)) wk53 rfl inX6 (by decide) wd_fl_RX6_62 (v := .ref (ad G 71)) rfl ?_
          refine Vload_n dX6_doAct_353 7 rfl 354 rfl ?_
          refine Vdup2 dX6_doAct_354 355 rfl ?_
          refine Vld dX6_doAct_355 356 rfl (hF.1 71 (by decide)) wk71 wn71 hF.2.1 (by first | exact (by assumption) | exact (vin_cmp2 (by assumption) (by assumption) (by decide)) | exact (vin_cell (by assumption)) | exact (vin_reg (by assumption)) | exact (vin_row (by assumption)) | exact (vin_cnt (by assumption) (by assumption) (by decide) (by decide) (by assumption)) | exact (vin_cmp (by assumption) (by assumption) (by decide)) | exact (vp_in_iff.mpr (by decide))) ?_
          refine Viconst dX6_doAct_356 (1 : Int32) (by decide) 357 rfl ?_
          refine Visub dX6_doAct_357 358 rfl ?_
          refine Vst dX6_doAct_358 359 rfl (hF.1 71 (by decide)) wk71 wn71 hF.2.1 (by first | exact (by assumption) | exact (vin_cmp2 (by assumption) (by assumption) (by decide)) | exact (vin_cell (by assumption)) | exact (vin_reg (by assumption)) | exact (vin_row (by assumption)) | exact (vin_cnt (by assumption) (by assumption) (by decide) (by decide) (by assumption)) | exact (vin_cmp (by assumption) (by assumption) (by decide)) | exact (vp_in_iff.mpr (by decide))) ?_
          refine Vgoto dX6_doAct_359 411 (by decide) ?_
          refine Vload dX6_doAct_411 0 rfl 413 rfl ?_
          exact Viret dX6_doAct_413
        · refine Vaload_n dX6_doAct_341 6 rfl 342 rfl ?_
          refine Viconst dX6_doAct_342 (5 : Int32) (by decide) 343 rfl ?_
          refine Vput (53) 32 tyX6 dX6_doAct_343 346 rfl (hF.1 53 (by decide)) wk53 rfl inX6 tyX6_ok nmX6 (by decide) wd_fl_RX6_133 rfl (ty := .int) (by decide +kernel) rfl rfl (fun f => rfl) (fun f => Nat.le_of_ble_eq_true rfl) ?_
          refine Vgoto dX6_doAct_346 411 (by decide) ?_
          refine Vload dX6_doAct_411 0 rfl 413 rfl ?_
          exact Viret dX6_doAct_413
  refine Vif (fun v => v) (fun h31 => ?_) (fun h31 => ?_)
  · refine Vswin dX6_doAct_54 362 (by rw [h31]; decide) (by rw [h31]; decide) (off := 308) (by rw [h31]; rfl) (by decide) ?_
    refine Vaload_n dX6_doAct_362 6 rfl 363 rfl ?_
    refine Vbipush dX6_doAct_363 (10 : Int32) (by decide) 365 rfl ?_
    refine Vaload_n dX6_doAct_365 6 rfl 366 rfl ?_
    refine Vload_n dX6_doAct_366 7 rfl 367 rfl ?_
    refine Vload dX6_doAct_367 3 rfl 369 rfl ?_
    refine VcVp dX6_doAct_369 [.int x1, .int (aX σ x1)] (c_X6_r l hF σ x1 (aX σ x1) ht (fits16 hR (by assumption))) mw_X6_r wd_im_yX6_r wd_se_yX6_r wd_ml_RX6_153 (hF.1 53 (by decide)) wk53 rfl rfl (by decide) rfl rfl (Nat.le_of_ble_eq_true rfl) 372 rfl ?_
    refine Vbipush dX6_doAct_372 (7 : Int32) (by decide) 374 rfl ?_
    refine Viand dX6_doAct_374 375 rfl ?_
    refine Viadd dX6_doAct_375 376 rfl ?_
    refine Vput (53) 32 tyX6 dX6_doAct_376 379 rfl (hF.1 53 (by decide)) wk53 rfl inX6 tyX6_ok nmX6 (by decide) wd_fl_RX6_133 rfl (ty := .int) (by decide +kernel) rfl rfl (fun f => rfl) (fun f => Nat.le_of_ble_eq_true rfl) ?_
    refine Vgoto dX6_doAct_379 411 (by decide) ?_
    refine Vload dX6_doAct_411 0 rfl 413 rfl ?_
    exact Viret dX6_doAct_413
  have w34 : V l G X RX6 cX6_doAct 9 5 (some .int) κI ((fun v => v) (if (σ 73 x1.toNatClampNeg) = 0 then (ap (fun u33 => (((σ 66 x1.toNatClampNeg) + (1 : Int32)), u33.2)) (f_X6_rows σ x1 (aK σ x1) (aX σ x1) (aY σ x1) (aZ σ x1))) else (((σ 66 x1.toNatClampNeg) + (1 : Int32)), (st2 σ 53 32 (5 : Int32))))) σ 382 [(7, .int ((σ 66 x1.toNatClampNeg) + (1 : Int32))), (6, .int (aZ σ x1)), (5, .int (aY σ x1)), (4, .int (aX σ x1)), (3, .int (aK σ x1)), (2, .int (((24 : Int32) * x1) + (σ 66 x1.toNatClampNeg))), (0, .ref (ad G 53)), (1, .int x1)] [] := by
    refine Vaload_n dX6_doAct_382 6 rfl 383 rfl ?_
    refine Vget (53) 20 dX6_doAct_383 386 rfl (hF.1 53 (by decide)) wk53 rfl inX6 (by decide) wd_fl_RX6_68 (v := .ref (ad G 73)) rfl ?_
    refine Vload_n dX6_doAct_386 7 rfl 387 rfl ?_
    refine Vldz dX6_doAct_387 388 rfl (hF.1 73 (by decide)) wk73 wn73 hF.2.2.1 (by first | exact (by assumption) | exact (vin_cmp2 (by assumption) (by assumption) (by decide)) | exact (vin_cell (by assumption)) | exact (vin_reg (by assumption)) | exact (vin_row (by assumption)) | exact (vin_cnt (by assumption) (by assumption) (by decide) (by decide) (by assumption)) | exact (vin_cmp (by assumption) (by assumption) (by decide)) | exact (vp_in_iff.mpr (by decide))) ?_
    refine Vifeq (fun v => v) dX6_doAct_388 399 391 (by decide) rfl (fun h32 => ?_) (fun h32 => ?_)
    · refine Vaload_n dX6_doAct_399 6 rfl 400 rfl ?_
      refine Vload_n dX6_doAct_400 7 rfl 401 rfl ?_
      refine Vload_n dX6_doAct_401 4 rfl 402 rfl ?_
      refine Vload dX6_doAct_402 3 rfl 404 rfl ?_
      refine Vload dX6_doAct_404 2 rfl 406 rfl ?_
      refine Vload dX6_doAct_406 1 rfl 408 rfl ?_
      refine Vgen ?_
      intro u33 eu33
      refine VcVv (u := u33) dX6_doAct_408 [.int x1, .int (aK σ x1), .int (aX σ x1), .int (aY σ x1), .int (aZ σ x1)] (by rw [eu33]; exact c_X6_rows l hF σ x1 (aK σ x1) (aX σ x1) (aY σ x1) (aZ σ x1) ht hR (fitsK hR (by assumption) (by assumption) (by assumption) (by assumption) (by assumption) (by assumption) (by assumption) (by assumption) (by assumption) (by assumption) (by assumption) (by assumption) (by assumption) (by assumption) (by assumption)) hS) mw_X6_rows wd_im_yX6_rows wd_se_yX6_rows wd_ml_RX6_178 (hF.1 53 (by decide)) wk53 rfl rfl (by decide) rfl rfl (Nat.le_of_ble_eq_true rfl) 411 rfl ?_
      refine Vload dX6_doAct_411 0 rfl 413 rfl ?_
      exact Viret dX6_doAct_413
    · refine Vaload_n dX6_doAct_391 6 rfl 392 rfl ?_
      refine Viconst dX6_doAct_392 (5 : Int32) (by decide) 393 rfl ?_
      refine Vput (53) 32 tyX6 dX6_doAct_393 396 rfl (hF.1 53 (by decide)) wk53 rfl inX6 tyX6_ok nmX6 (by decide) wd_fl_RX6_133 rfl (ty := .int) (by decide +kernel) rfl rfl (fun f => rfl) (fun f => Nat.le_of_ble_eq_true rfl) ?_
      refine Vgoto dX6_doAct_396 411 (by decide) ?_
      refine Vload dX6_doAct_411 0 rfl 413 rfl ?_
      exact Viret dX6_doAct_413
  by_cases o35 : (aK σ x1) = (7 : Int32)
  · exact Vswin dX6_doAct_54 382 (by rw [o35]; decide) (by rw [o35]; decide) (off := 328) (by rw [o35]; rfl) (by decide) w34
  by_cases o36 : (aK σ x1) = (8 : Int32)
  · exact Vswin dX6_doAct_54 382 (by rw [o36]; decide) (by rw [o36]; decide) (off := 328) (by rw [o36]; rfl) (by decide) w34
  exact Vswout dX6_doAct_54 (by have eh1 := lv_neT (a := 0) h1 (by decide); have eh3 := lv_neT (a := 1) h3 (by decide); have eh6 := lv_neT (a := 2) h6 (by decide); have eh8 := lv_neT (a := 3) h8 (by decide); have eh10 := lv_neT (a := 4) h10 (by decide); have eh12 := lv_neT (a := 5) h12 (by decide); have eh14 := lv_neT (a := 6) h14 (by decide); have eh16 := lv_neT (a := 9) h16 (by decide); have eh18 := lv_neT (a := 10) h18 (by decide); have eh19 := lv_neT (a := 11) h19 (by decide); have eh21 := lv_neT (a := 12) h21 (by decide); have eh23 := lv_neT (a := 13) h23 (by decide); have eh25 := lv_neT (a := 14) h25 (by decide); have eh27 := lv_neT (a := 15) h27 (by decide); have eh31 := lv_neT (a := 16) h31 (by decide); have eo35 := lv_neT (a := 7) o35 (by decide); have eo36 := lv_neT (a := 8) o36 (by decide); omega) (tgt := 382) (by decide) w34
theorem vmul0 {t : Int32} (ht : vp_in t 3) : vp_in ((4 : Int32) * t) 12 := by
  obtain ⟨j, hj, rfl⟩ := vp_in_of ht (by decide)
  rw [show (4 : Int32) * nI j = nI (4 * j) from pk_mul 4 j]
  exact vp_in_nI (by omega) (by decide)
theorem fail_ix {σ : mS} {t : Int32} (ht : vp_in t 3) (hT : vp_in (σ 71 t.toNatClampNeg) 5) (h : ¬ σ 71 t.toNatClampNeg = 0) : vp_in (σ 71 t.toNatClampNeg - 1) 4 := by
  obtain ⟨j, hj, e⟩ := vp_in_of hT (by decide)
  rw [e] at h ⊢
  rcases j with _ | j
  · exact absurd rfl h
  · rw [nI_pred]; exact vp_in_nI (by omega) (by decide)
def f_X6_fail (σ : mS) (x1 : Int32) : Int32 × mS := (if ((st2 σ 53 0 ((σ 53 0) + (1 : Int32))) 71 x1.toNatClampNeg) = 0 then (0, (st2 (st2 (st2 (st2 σ 53 0 ((σ 53 0) + (1 : Int32))) 68 x1.toNatClampNeg (1 : Int32)) 67 x1.toNatClampNeg (σ 53 32)) 73 x1.toNatClampNeg (0 : Int32))) else (if ((st2 (st2 (st2 (st2 σ 53 0 ((σ 53 0) + (1 : Int32))) 71 x1.toNatClampNeg (((st2 σ 53 0 ((σ 53 0) + (1 : Int32))) 71 x1.toNatClampNeg) - (1 : Int32))) 65 ((4 : Int32) * x1).toNatClampNeg (σ 53 32)) 66 x1.toNatClampNeg ((st2 (st2 (st2 σ 53 0 ((σ 53 0) + (1 : Int32))) 71 x1.toNatClampNeg (((st2 σ 53 0 ((σ 53 0) + (1 : Int32))) 71 x1.toNatClampNeg) - (1 : Int32))) 65 ((4 : Int32) * x1).toNatClampNeg (σ 53 32)) 72 (((4 : Int32) * x1) + ((st2 (st2 (st2 σ 53 0 ((σ 53 0) + (1 : Int32))) 71 x1.toNatClampNeg (((st2 σ 53 0 ((σ 53 0) + (1 : Int32))) 71 x1.toNatClampNeg) - (1 : Int32))) 65 ((4 : Int32) * x1).toNatClampNeg (σ 53 32)) 71 x1.toNatClampNeg)).toNatClampNeg)) 73 x1.toNatClampNeg) = 0 then (0, (st2 (st2 (st2 (st2 (st2 σ 53 0 ((σ 53 0) + (1 : Int32))) 71 x1.toNatClampNeg (((st2 σ 53 0 ((σ 53 0) + (1 : Int32))) 71 x1.toNatClampNeg) - (1 : Int32))) 65 ((4 : Int32) * x1).toNatClampNeg (σ 53 32)) 66 x1.toNatClampNeg ((st2 (st2 (st2 σ 53 0 ((σ 53 0) + (1 : Int32))) 71 x1.toNatClampNeg (((st2 σ 53 0 ((σ 53 0) + (1 : Int32))) 71 x1.toNatClampNeg) - (1 : Int32))) 65 ((4 : Int32) * x1).toNatClampNeg (σ 53 32)) 72 (((4 : Int32) * x1) + ((st2 (st2 (st2 σ 53 0 ((σ 53 0) + (1 : Int32))) 71 x1.toNatClampNeg (((st2 σ 53 0 ((σ 53 0) + (1 : Int32))) 71 x1.toNatClampNeg) - (1 : Int32))) 65 ((4 : Int32) * x1).toNatClampNeg (σ 53 32)) 71 x1.toNatClampNeg)).toNatClampNeg)) 73 x1.toNatClampNeg (0 : Int32))) else (if ((st2 (st2 (st2 (st2 σ 53 0 ((σ 53 0) + (1 : Int32))) 71 x1.toNatClampNeg (((st2 σ 53 0 ((σ 53 0) + (1 : Int32))) 71 x1.toNatClampNeg) - (1 : Int32))) 65 ((4 : Int32) * x1).toNatClampNeg (σ 53 32)) 66 x1.toNatClampNeg ((st2 (st2 (st2 σ 53 0 ((σ 53 0) + (1 : Int32))) 71 x1.toNatClampNeg (((st2 σ 53 0 ((σ 53 0) + (1 : Int32))) 71 x1.toNatClampNeg) - (1 : Int32))) 65 ((4 : Int32) * x1).toNatClampNeg (σ 53 32)) 72 (((4 : Int32) * x1) + ((st2 (st2 (st2 σ 53 0 ((σ 53 0) + (1 : Int32))) 71 x1.toNatClampNeg (((st2 σ 53 0 ((σ 53 0) + (1 : Int32))) 71 x1.toNatClampNeg) - (1 : Int32))) 65 ((4 : Int32) * x1).toNatClampNeg (σ 53 32)) 71 x1.toNatClampNeg)).toNatClampNeg)) 71 x1.toNatClampNeg) < ((st2 (st2 (st2 (st2 σ 53 0 ((σ 53 0) + (1 : Int32))) 71 x1.toNatClampNeg (((st2 σ 53 0 ((σ 53 0) + (1 : Int32))) 71 x1.toNatClampNeg) - (1 : Int32))) 65 ((4 : Int32) * x1).toNatClampNeg (σ 53 32)) 66 x1.toNatClampNeg ((st2 (st2 (st2 σ 53 0 ((σ 53 0) + (1 : Int32))) 71 x1.toNatClampNeg (((st2 σ 53 0 ((σ 53 0) + (1 : Int32))) 71 x1.toNatClampNeg) - (1 : Int32))) 65 ((4 : Int32) * x1).toNatClampNeg (σ 53 32)) 72 (((4 : Int32) * x1) + ((st2 (st2 (st2 σ 53 0 ((σ 53 0) + (1 : Int32))) 71 x1.toNatClampNeg (((st2 σ 53 0 ((σ 53 0) + (1 : Int32))) 71 x1.toNatClampNeg) - (1 : Int32))) 65 ((4 : Int32) * x1).toNatClampNeg (σ 53 32)) 71 x1.toNatClampNeg)).toNatClampNeg)) 74 x1.toNatClampNeg) then (0, (st2 (st2 (st2 (st2 (st2 σ 53 0 ((σ 53 0) + (1 : Int32))) 71 x1.toNatClampNeg (((st2 σ 53 0 ((σ 53 0) + (1 : Int32))) 71 x1.toNatClampNeg) - (1 : Int32))) 65 ((4 : Int32) * x1).toNatClampNeg (σ 53 32)) 66 x1.toNatClampNeg ((st2 (st2 (st2 σ 53 0 ((σ 53 0) + (1 : Int32))) 71 x1.toNatClampNeg (((st2 σ 53 0 ((σ 53 0) + (1 : Int32))) 71 x1.toNatClampNeg) - (1 : Int32))) 65 ((4 : Int32) * x1).toNatClampNeg (σ 53 32)) 72 (((4 : Int32) * x1) + ((st2 (st2 (st2 σ 53 0 ((σ 53 0) + (1 : Int32))) 71 x1.toNatClampNeg (((st2 σ 53 0 ((σ 53 0) + (1 : Int32))) 71 x1.toNatClampNeg) - (1 : Int32))) 65 ((4 : Int32) * x1).toNatClampNeg (σ 53 32)) 71 x1.toNatClampNeg)).toNatClampNeg)) 73 x1.toNatClampNeg (0 : Int32))) else (0, (st2 (st2 (st2 (st2 (st2 σ 53 0 ((σ 53 0) + (1 : Int32))) 71 x1.toNatClampNeg (((st2 σ 53 0 ((σ 53 0) + (1 : Int32))) 71 x1.toNatClampNeg) - (1 : Int32))) 65 ((4 : Int32) * x1).toNatClampNeg (σ 53 32)) 66 x1.toNatClampNeg ((st2 (st2 (st2 σ 53 0 ((σ 53 0) + (1 : Int32))) 71 x1.toNatClampNeg (((st2 σ 53 0 ((σ 53 0) + (1 : Int32))) 71 x1.toNatClampNeg) - (1 : Int32))) 65 ((4 : Int32) * x1).toNatClampNeg (σ 53 32)) 72 (((4 : Int32) * x1) + ((st2 (st2 (st2 σ 53 0 ((σ 53 0) + (1 : Int32))) 71 x1.toNatClampNeg (((st2 σ 53 0 ((σ 53 0) + (1 : Int32))) 71 x1.toNatClampNeg) - (1 : Int32))) 65 ((4 : Int32) * x1).toNatClampNeg (σ 53 32)) 71 x1.toNatClampNeg)).toNatClampNeg)) 73 x1.toNatClampNeg (1 : Int32))))))
theorem mw_X6_fail : mW yX6_fail cX6_fail 2 none 1 := ⟨wd_co_yX6_fail, wd_ini_RX6, ⟨by decide, by decide⟩, by decide +kernel, by decide⟩
set_option maxRecDepth 100000 in
set_option maxHeartbeats 4000000 in
theorem c_X6_fail (l : Launch) {G : gT} (hF : FullR G) (σ : mS) (x1 : Int32) (ht : vp_in x1 3) (hT : vp_in (σ 71 x1.toNatClampNeg) 5) : Ct l G yX6_fail cX6_fail 2 none 0 [.ref (ad G 53), .int x1] κV σ (f_X6_fail σ x1) := by
  refine Ct.ofV [(0, .ref (ad G 53)), (1, .int x1)] rfl (by decide) (Nat.le_of_ble_eq_true rfl) rfl (fun X => ?_)
  unfold f_X6_fail
  refine Vaload_n dX6_fail_0 0 rfl 1 rfl ?_
  refine Vdupa dX6_fail_1 2 rfl ?_
  refine Vget (53) 0 dX6_fail_2 5 rfl (hF.1 53 (by decide)) wk53 rfl inX6 (by decide) wd_fl_RX6_181 (v := .int (σ 53 0)) rfl ?_
  refine Viconst dX6_fail_5 (1 : Int32) (by decide) 6 rfl ?_
  refine Viadd dX6_fail_6 7 rfl ?_
  refine Vput (53) 0 tyX6 dX6_fail_7 10 rfl (hF.1 53 (by decide)) wk53 rfl inX6 tyX6_ok nmX6 (by decide) wd_fl_RX6_181 rfl (ty := .int) (by decide +kernel) rfl rfl (fun f => rfl) (fun f => Nat.le_of_ble_eq_true rfl) ?_
  refine Vaload_n dX6_fail_10 0 rfl 11 rfl ?_
  refine Vget (53) 18 dX6_fail_11 14 rfl (hF.1 53 (by decide)) wk53 rfl inX6 (by decide) wd_fl_RX6_62 (v := .ref (ad G 71)) rfl ?_
  refine Vload_n dX6_fail_14 1 rfl 15 rfl ?_
  refine Vld dX6_fail_15 16 rfl (hF.1 71 (by decide)) wk71 wn71 hF.2.1 (by first | exact (by assumption) | exact (vin_cmp2 (by assumption) (by assumption) (by decide)) | exact (vin_cell (by assumption)) | exact (vin_reg (by assumption)) | exact (vin_row (by assumption)) | exact (vin_cnt (by assumption) (by assumption) (by decide) (by decide) (by assumption)) | exact (vin_cmp (by assumption) (by assumption) (by decide)) | exact (vp_in_iff.mpr (by decide)) | exact (vin_mCell (by assumption)) | exact (vin_mRegister (by assumption)) | exact (vin_w (by assumption) (by decide))) ?_
  refine Vifne (fun v => v) dX6_fail_16 44 19 (by decide) rfl (fun h1 => ?_) (fun h1 => ?_)
  · refine Vaload_n dX6_fail_44 0 rfl 45 rfl ?_
    refine Vget (53) 18 dX6_fail_45 48 rfl (hF.1 53 (by decide)) wk53 rfl inX6 (by decide) wd_fl_RX6_62 (v := .ref (ad G 71)) rfl ?_
    refine Vload_n dX6_fail_48 1 rfl 49 rfl ?_
    refine Vdup2 dX6_fail_49 50 rfl ?_
    refine Vld dX6_fail_50 51 rfl (hF.1 71 (by decide)) wk71 wn71 hF.2.1 (by first | exact (by assumption) | exact (vin_cmp2 (by assumption) (by assumption) (by decide)) | exact (vin_cell (by assumption)) | exact (vin_reg (by assumption)) | exact (vin_row (by assumption)) | exact (vin_cnt (by assumption) (by assumption) (by decide) (by decide) (by assumption)) | exact (vin_cmp (by assumption) (by assumption) (by decide)) | exact (vp_in_iff.mpr (by decide)) | exact (vin_mCell (by assumption)) | exact (vin_mRegister (by assumption)) | exact (vin_w (by assumption) (by decide))) ?_
    refine Viconst dX6_fail_51 (1 : Int32) (by decide) 52 rfl ?_
    refine Visub dX6_fail_52 53 rfl ?_
    refine Vst dX6_fail_53 54 rfl (hF.1 71 (by decide)) wk71 wn71 hF.2.1 (by first | exact (by assumption) | exact (vin_cmp2 (by assumption) (by assumption) (by decide)) | exact (vin_cell (by assumption)) | exact (vin_reg (by assumption)) | exact (vin_row (by assumption)) | exact (vin_cnt (by assumption) (by assumption) (by decide) (by decide) (by assumption)) | exact (vin_cmp (by assumption) (by assumption) (by decide)) | exact (vp_in_iff.mpr (by decide)) | exact (vin_mCell (by assumption)) | exact (vin_mRegister (by assumption)) | exact (vin_w (by assumption) (by decide))) ?_
    refine Vaload_n dX6_fail_54 0 rfl 55 rfl ?_
    refine Vget (53) 12 dX6_fail_55 58 rfl (hF.1 53 (by decide)) wk53 rfl inX6 (by decide) wd_fl_RX6_44 (v := .ref (ad G 65)) rfl ?_
    refine Viconst dX6_fail_58 (4 : Int32) (by decide) 59 rfl ?_
    refine Vload_n dX6_fail_59 1 rfl 60 rfl ?_
    refine Vimul dX6_fail_60 61 rfl ?_
    refine Vaload_n dX6_fail_61 0 rfl 62 rfl ?_
    refine Vget (53) 32 dX6_fail_62 65 rfl (hF.1 53 (by decide)) wk53 rfl inX6 (by decide) wd_fl_RX6_133 (v := .int (σ 53 32)) rfl ?_
    refine Vst dX6_fail_65 66 rfl (hF.1 65 (by decide)) wk65 wn65 hF.2.1 (vmul0 ht) ?_
    refine Vaload_n dX6_fail_66 0 rfl 67 rfl ?_
    refine Vget (53) 13 dX6_fail_67 70 rfl (hF.1 53 (by decide)) wk53 rfl inX6 (by decide) wd_fl_RX6_47 (v := .ref (ad G 66)) rfl ?_
    refine Vload_n dX6_fail_70 1 rfl 71 rfl ?_
    refine Vaload_n dX6_fail_71 0 rfl 72 rfl ?_
    refine Vget (53) 19 dX6_fail_72 75 rfl (hF.1 53 (by decide)) wk53 rfl inX6 (by decide) wd_fl_RX6_65 (v := .ref (ad G 72)) rfl ?_
    refine Viconst dX6_fail_75 (4 : Int32) (by decide) 76 rfl ?_
    refine Vload_n dX6_fail_76 1 rfl 77 rfl ?_
    refine Vimul dX6_fail_77 78 rfl ?_
    refine Vaload_n dX6_fail_78 0 rfl 79 rfl ?_
    refine Vget (53) 18 dX6_fail_79 82 rfl (hF.1 53 (by decide)) wk53 rfl inX6 (by decide) wd_fl_RX6_62 (v := .ref (ad G 71)) rfl ?_
    refine Vload_n dX6_fail_82 1 rfl 83 rfl ?_
    refine Vld dX6_fail_83 84 rfl (hF.1 71 (by decide)) wk71 wn71 hF.2.1 (by first | exact (by assumption) | exact (vin_cmp2 (by assumption) (by assumption) (by decide)) | exact (vin_cell (by assumption)) | exact (vin_reg (by assumption)) | exact (vin_row (by assumption)) | exact (vin_cnt (by assumption) (by assumption) (by decide) (by decide) (by assumption)) | exact (vin_cmp (by assumption) (by assumption) (by decide)) | exact (vp_in_iff.mpr (by decide)) | exact (vin_mCell (by assumption)) | exact (vin_mRegister (by assumption)) | exact (vin_w (by assumption) (by decide))) ?_
    refine Viadd dX6_fail_84 85 rfl ?_
    refine Vld dX6_fail_85 86 rfl (hF.1 72 (by decide)) wk72 wn72 hF.2.1 (vmul 4 3 (by decide) ht (by simpa [st2] using fail_ix ht hT (by assumption)) (by decide)) ?_
    refine Vst dX6_fail_86 87 rfl (hF.1 66 (by decide)) wk66 wn66 hF.2.1 (by first | exact (by assumption) | exact (vin_cmp2 (by assumption) (by assumption) (by decide)) | exact (vin_cell (by assumption)) | exact (vin_reg (by assumption)) | exact (vin_row (by assumption)) | exact (vin_cnt (by assumption) (by assumption) (by decide) (by decide) (by assumption)) | exact (vin_cmp (by assumption) (by assumption) (by decide)) | exact (vp_in_iff.mpr (by decide)) | exact (vin_mCell (by assumption)) | exact (vin_mRegister (by assumption)) | exact (vin_w (by assumption) (by decide))) ?_
    refine Vaload_n dX6_fail_87 0 rfl 88 rfl ?_
    refine Vget (53) 20 dX6_fail_88 91 rfl (hF.1 53 (by decide)) wk53 rfl inX6 (by decide) wd_fl_RX6_68 (v := .ref (ad G 73)) rfl ?_
    refine Vload_n dX6_fail_91 1 rfl 92 rfl ?_
    refine Vaload_n dX6_fail_92 0 rfl 93 rfl ?_
    refine Vget (53) 20 dX6_fail_93 96 rfl (hF.1 53 (by decide)) wk53 rfl inX6 (by decide) wd_fl_RX6_68 (v := .ref (ad G 73)) rfl ?_
    refine Vload_n dX6_fail_96 1 rfl 97 rfl ?_
    refine Vldz dX6_fail_97 98 rfl (hF.1 73 (by decide)) wk73 wn73 hF.2.2.1 (by first | exact (by assumption) | exact (vin_cmp2 (by assumption) (by assumption) (by decide)) | exact (vin_cell (by assumption)) | exact (vin_reg (by assumption)) | exact (vin_row (by assumption)) | exact (vin_cnt (by assumption) (by assumption) (by decide) (by decide) (by assumption)) | exact (vin_cmp (by assumption) (by assumption) (by decide)) | exact (vp_in_iff.mpr (by decide)) | exact (vin_mCell (by assumption)) | exact (vin_mRegister (by assumption)) | exact (vin_w (by assumption) (by decide))) ?_
    refine Vifeq (fun v => v) dX6_fail_98 120 101 (by decide) rfl (fun h2 => ?_) (fun h2 => ?_)
    · refine Viconst dX6_fail_120 (0 : Int32) (by decide) 121 rfl ?_
      refine Vstz dX6_fail_121 122 rfl (hF.1 73 (by decide)) wk73 wn73 hF.2.2.1 (by first | exact (by assumption) | exact (vin_cmp2 (by assumption) (by assumption) (by decide)) | exact (vin_cell (by assumption)) | exact (vin_reg (by assumption)) | exact (vin_row (by assumption)) | exact (vin_cnt (by assumption) (by assumption) (by decide) (by decide) (by assumption)) | exact (vin_cmp (by assumption) (by assumption) (by decide)) | exact (vp_in_iff.mpr (by decide)) | exact (vin_mCell (by assumption)) | exact (vin_mRegister (by assumption)) | exact (vin_w (by assumption) (by decide))) (by decide) ?_
      exact Vvret dX6_fail_122
    · refine Vaload_n dX6_fail_101 0 rfl 102 rfl ?_
      refine Vget (53) 18 dX6_fail_102 105 rfl (hF.1 53 (by decide)) wk53 rfl inX6 (by decide) wd_fl_RX6_62 (v := .ref (ad G 71)) rfl ?_
      refine Vload_n dX6_fail_105 1 rfl 106 rfl ?_
      refine Vld dX6_fail_106 107 rfl (hF.1 71 (by decide)) wk71 wn71 hF.2.1 (by first | exact (by assumption) | exact (vin_cmp2 (by assumption) (by assumption) (by decide)) | exact (vin_cell (by assumption)) | exact (vin_reg (by assumption)) | exact (vin_row (by assumption)) | exact (vin_cnt (by assumption) (by assumption) (by decide) (by decide) (by assumption)) | exact (vin_cmp (by assumption) (by assumption) (by decide)) | exact (vp_in_iff.mpr (by decide)) | exact (vin_mCell (by assumption)) | exact (vin_mRegister (by assumption)) | exact (vin_w (by assumption) (by decide))) ?_
      refine Vaload_n dX6_fail_107 0 rfl 108 rfl ?_
      refine Vget (53) 21 dX6_fail_108 111 rfl (hF.1 53 (by decide)) wk53 rfl inX6 (by decide) wd_fl_RX6_71 (v := .ref (ad G 74)) rfl ?_
      refine Vload_n dX6_fail_111 1 rfl 112 rfl ?_
      refine Vld dX6_fail_112 113 rfl (hF.1 74 (by decide)) wk74 wn74 hF.2.1 (by first | exact (by assumption) | exact (vin_cmp2 (by assumption) (by assumption) (by decide)) | exact (vin_cell (by assumption)) | exact (vin_reg (by assumption)) | exact (vin_row (by assumption)) | exact (vin_cnt (by assumption) (by assumption) (by decide) (by decide) (by assumption)) | exact (vin_cmp (by assumption) (by assumption) (by decide)) | exact (vp_in_iff.mpr (by decide)) | exact (vin_mCell (by assumption)) | exact (vin_mRegister (by assumption)) | exact (vin_w (by assumption) (by decide))) ?_
      refine Viclt (fun v => v) dX6_fail_113 120 116 (by decide) rfl (fun h3 => ?_) (fun h3 => ?_)
      · refine Viconst dX6_fail_120 (0 : Int32) (by decide) 121 rfl ?_
        refine Vstz dX6_fail_121 122 rfl (hF.1 73 (by decide)) wk73 wn73 hF.2.2.1 (by first | exact (by assumption) | exact (vin_cmp2 (by assumption) (by assumption) (by decide)) | exact (vin_cell (by assumption)) | exact (vin_reg (by assumption)) | exact (vin_row (by assumption)) | exact (vin_cnt (by assumption) (by assumption) (by decide) (by decide) (by assumption)) | exact (vin_cmp (by assumption) (by assumption) (by decide)) | exact (vp_in_iff.mpr (by decide)) | exact (vin_mCell (by assumption)) | exact (vin_mRegister (by assumption)) | exact (vin_w (by assumption) (by decide))) (by decide) ?_
        exact Vvret dX6_fail_122
      · refine Viconst dX6_fail_116 (1 : Int32) (by decide) 117 rfl ?_
        refine Vgoto dX6_fail_117 121 (by decide) ?_
        refine Vstz dX6_fail_121 122 rfl (hF.1 73 (by decide)) wk73 wn73 hF.2.2.1 (by first | exact (by assumption) | exact (vin_cmp2 (by assumption) (by assumption) (by decide)) | exact (vin_cell (by assumption)) | exact (vin_reg (by assumption)) | exact (vin_row (by assumption)) | exact (vin_cnt (by assumption) (by assumption) (by decide) (by decide) (by assumption)) | exact (vin_cmp (by assumption) (by assumption) (by decide)) | exact (vp_in_iff.mpr (by decide)) | exact (vin_mCell (by assumption)) | exact (vin_mRegister (by assumption)) | exact (vin_w (by assumption) (by decide))) (by decide) ?_
        exact Vvret dX6_fail_122
  · refine Vaload_n dX6_fail_19 0 rfl 20 rfl ?_
    refine Vget (53) 15 dX6_fail_20 23 rfl (hF.1 53 (by decide)) wk53 rfl inX6 (by decide) wd_fl_RX6_53 (v := .ref (ad G 68)) rfl ?_
    refine Vload_n dX6_fail_23 1 rfl 24 rfl ?_
    refine Viconst dX6_fail_24 (1 : Int32) (by decide) 25 rfl ?_
    refine Vstz dX6_fail_25 26 rfl (hF.1 68 (by decide)) wk68 wn68 hF.2.2.1 (by first | exact (by assumption) | exact (vin_cmp2 (by assumption) (by assumption) (by decide)) | exact (vin_cell (by assumption)) | exact (vin_reg (by assumption)) | exact (vin_row (by assumption)) | exact (vin_cnt (by assumption) (by assumption) (by decide) (by decide) (by assumption)) | exact (vin_cmp (by assumption) (by assumption) (by decide)) | exact (vp_in_iff.mpr (by decide)) | exact (vin_mCell (by assumption)) | exact (vin_mRegister (by assumption)) | exact (vin_w (by assumption) (by decide))) (by decide) ?_
    refine Vaload_n dX6_fail_26 0 rfl 27 rfl ?_
    refine Vget (53) 14 dX6_fail_27 30 rfl (hF.1 53 (by decide)) wk53 rfl inX6 (by decide) wd_fl_RX6_50 (v := .ref (ad G 67)) rfl ?_
    refine Vload_n dX6_fail_30 1 rfl 31 rfl ?_
    refine Vaload_n dX6_fail_31 0 rfl 32 rfl ?_
    refine Vget (53) 32 dX6_fail_32 35 rfl (hF.1 53 (by decide)) wk53 rfl inX6 (by decide) wd_fl_RX6_133 (v := .int (σ 53 32)) rfl ?_
    refine Vst dX6_fail_35 36 rfl (hF.1 67 (by decide)) wk67 wn67 hF.2.1 (by first | exact (by assumption) | exact (vin_cmp2 (by assumption) (by assumption) (by decide)) | exact (vin_cell (by assumption)) | exact (vin_reg (by assumption)) | exact (vin_row (by assumption)) | exact (vin_cnt (by assumption) (by assumption) (by decide) (by decide) (by assumption)) | exact (vin_cmp (by assumption) (by assumption) (by decide)) | exact (vp_in_iff.mpr (by decide)) | exact (vin_mCell (by assumption)) | exact (vin_mRegister (by assumption)) | exact (vin_w (by assumption) (by decide))) ?_
    refine Vaload_n dX6_fail_36 0 rfl 37 rfl ?_
    refine Vget (53) 20 dX6_fail_37 40 rfl (hF.1 53 (by decide)) wk53 rfl inX6 (by decide) wd_fl_RX6_68 (v := .ref (ad G 73)) rfl ?_
    refine Vload_n dX6_fail_40 1 rfl 41 rfl ?_
    refine Viconst dX6_fail_41 (0 : Int32) (by decide) 42 rfl ?_
    refine Vstz dX6_fail_42 43 rfl (hF.1 73 (by decide)) wk73 wn73 hF.2.2.1 (by first | exact (by assumption) | exact (vin_cmp2 (by assumption) (by assumption) (by decide)) | exact (vin_cell (by assumption)) | exact (vin_reg (by assumption)) | exact (vin_row (by assumption)) | exact (vin_cnt (by assumption) (by assumption) (by decide) (by decide) (by assumption)) | exact (vin_cmp (by assumption) (by assumption) (by decide)) | exact (vp_in_iff.mpr (by decide)) | exact (vin_mCell (by assumption)) | exact (vin_mRegister (by assumption)) | exact (vin_w (by assumption) (by decide))) (by decide) ?_
    exact Vvret dX6_fail_43
theorem vin_ne4 : True := trivial
