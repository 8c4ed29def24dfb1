def f_X4_reset (σ : mS) (q : Nat) (x1 : Int32) : Int32 × mS := (if x1 = 0 then (ap (fun u3 => (0, (st2 (st2 (st2 (st2 (st2 (st2 u3.2 q 8 (0 : Int32)) (q + 7) 0 (0 : Int32)) q 10 (0 : Int32)) q 12 (0 : Int32)) q 13 (0 : Int32)) q 14 (0 : Int32)))) (f_J7_fill_53178 (st2 σ q 5 (0 : Int32)) (q + 5) 4 (0 : Int32))) else (ap (fun u2 => (0, (st2 (st2 (st2 (st2 (st2 (st2 u2.2 q 8 (0 : Int32)) (q + 7) 0 (0 : Int32)) q 10 (0 : Int32)) q 12 (0 : Int32)) q 13 (0 : Int32)) q 14 (0 : Int32)))) (f_J7_fill_53178 σ (q + 5) 4 (0 : Int32))))
theorem mw_X4_reset : mW yX4_reset cX4_reset 2 none 1 := ⟨wd_co_yX4_reset, wd_ini_RX4, ⟨by decide, by decide⟩, by decide +kernel, by decide⟩
set_option maxRecDepth 100000 in
set_option maxHeartbeats 4000000 in
theorem c_X4_reset (l : Launch) {G : gT} (hF : Full G) (σ : mS) (q : Nat) (x1 : Int32) (hq : sQ q) : Ct l G yX4_reset cX4_reset 2 none 1 [.ref (ad G q), .int x1] κV σ (f_X4_reset σ q x1) := by
  refine Ct.ofV [(0, .ref (ad G q)), (1, .int x1)] rfl (by decide) (Nat.le_of_ble_eq_true rfl) rfl (fun X => ?_)
  unfold f_X4_reset
  refine Vload_n dX4_reset_0 1 rfl 1 rfl ?_
  refine Vifne (fun v => v) dX4_reset_1 9 4 (by decide) rfl (fun h1 => ?_) (fun h1 => ?_)
  · refine Vaload_n dX4_reset_9 0 rfl 10 rfl ?_
    refine Vget (q) 6 dX4_reset_10 13 rfl (sI_ hF hq 0 (by decide)) (sk0 hq) rfl inX4 (by decide) wd_fl_RX4_24 (v := .ref (ad G (q + 5))) rfl ?_
    refine Viconst dX4_reset_13 (0 : Int32) (by decide) 14 rfl ?_
    refine Vgen ?_
    intro u2 eu2
    refine VcSv (u := u2) dX4_reset_14 [.ref (ad G (q + 5)), .int (0 : Int32)] (by rw [eu2]; exact c_J7_fill_53178 l hF.2.1 σ (q + 5) 4 (0 : Int32) (sI_ hF hq 5 (by decide)) (sk5 hq) (sn5 hq) (by decide)) mw_J7_fill_53178 wd_sm_yJ7_fill_53178 wd_ml_RX4_44 (by decide) rfl rfl (Nat.le_of_ble_eq_true rfl) 17 rfl ?_
    refine Vaload_n dX4_reset_17 0 rfl 18 rfl ?_
    refine Viconst dX4_reset_18 (0 : Int32) (by decide) 19 rfl ?_
    refine Vput (q) 8 tyX4 dX4_reset_19 22 rfl (sI_ hF hq 0 (by decide)) (sk0 hq) rfl inX4 tyX4_ok nmX4 (by decide) wd_fl_RX4_50 rfl (ty := .int) (by decide +kernel) rfl rfl (fun f => rfl) (fun f => Nat.le_of_ble_eq_true rfl) ?_
    refine Vaload_n dX4_reset_22 0 rfl 23 rfl ?_
    refine Vget (q) 9 dX4_reset_23 26 rfl (sI_ hF hq 0 (by decide)) (sk0 hq) rfl inX4 (by decide) wd_fl_RX4_33 (v := .ref (ad G (q + 7))) rfl ?_
    refine Viconst dX4_reset_26 (0 : Int32) (by decide) 27 rfl ?_
    refine VputN (q + 7) 0 tyX0 dX4_reset_27 30 rfl (sI_ hF hq 7 (by decide)) (sk7 hq) rfl inX0 tyX0_ok nmX0 (by decide) wd_nfl_RX4_53 rfl (ty := .boolean) (by decide +kernel) (by decide) (by decide) (fun f => rfl) (fun f => Nat.le_of_ble_eq_true rfl) ?_
    refine Vaload_n dX4_reset_30 0 rfl 31 rfl ?_
    refine Viconst dX4_reset_31 (0 : Int32) (by decide) 32 rfl ?_
    refine Vput (q) 10 tyX4 dX4_reset_32 35 rfl (sI_ hF hq 0 (by decide)) (sk0 hq) rfl inX4 tyX4_ok nmX4 (by decide) wd_fl_RX4_57 rfl (ty := .int) (by decide +kernel) rfl rfl (fun f => rfl) (fun f => Nat.le_of_ble_eq_true rfl) ?_
    refine Vaload_n dX4_reset_35 0 rfl 36 rfl ?_
    refine Viconst dX4_reset_36 (0 : Int32) (by decide) 37 rfl ?_
    refine Vput (q) 12 tyX4 dX4_reset_37 40 rfl (sI_ hF hq 0 (by decide)) (sk0 hq) rfl inX4 tyX4_ok nmX4 (by decide) wd_fl_RX4_60 rfl (ty := .int) (by decide +kernel) rfl rfl (fun f => rfl) (fun f => Nat.le_of_ble_eq_true rfl) ?_
    refine Vaload_n dX4_reset_40 0 rfl 41 rfl ?_
    refine Viconst dX4_reset_41 (0 : Int32) (by decide) 42 rfl ?_
    refine Vput (q) 13 tyX4 dX4_reset_42 45 rfl (sI_ hF hq 0 (by decide)) (sk0 hq) rfl inX4 tyX4_ok nmX4 (by decide) wd_fl_RX4_63 rfl (ty := .int) (by decide +kernel) rfl rfl (fun f => rfl) (fun f => Nat.le_of_ble_eq_true rfl) ?_
    refine Vaload_n dX4_reset_45 0 rfl 46 rfl ?_
    refine Viconst dX4_reset_46 (0 : Int32) (by decide) 47 rfl ?_
    refine Vput (q) 14 tyX4 dX4_reset_47 50 rfl (sI_ hF hq 0 (by decide)) (sk0 hq) rfl inX4 tyX4_ok nmX4 (by decide) wd_fl_RX4_66 rfl (ty := .int) (by decide +kernel) rfl rfl (fun f => rfl) (fun f => Nat.le_of_ble_eq_true rfl) ?_
    exact Vvret dX4_reset_50
  · refine Vaload_n dX4_reset_4 0 rfl 5 rfl ?_
    refine Viconst dX4_reset_5 (0 : Int32) (by decide) 6 rfl ?_
    refine Vput (q) 5 tyX4 dX4_reset_6 9 rfl (sI_ hF hq 0 (by decide)) (sk0 hq) rfl inX4 tyX4_ok nmX4 (by decide) wd_fl_RX4_41 rfl (ty := .int) (by decide +kernel) rfl rfl (fun f => rfl) (fun f => Nat.le_of_ble_eq_true rfl) ?_
    refine Vaload_n dX4_reset_9 0 rfl 10 rfl ?_
    refine Vget (q) 6 dX4_reset_10 13 rfl (sI_ hF hq 0 (by decide)) (sk0 hq) rfl inX4 (by decide) wd_fl_RX4_24 (v := .ref (ad G (q + 5))) rfl ?_
    refine Viconst dX4_reset_13 (0 : Int32) (by decide) 14 rfl ?_
    refine Vgen ?_
    intro u3 eu3
    refine VcSv (u := u3) dX4_reset_14 [.ref (ad G (q + 5)), .int (0 : Int32)] (by rw [eu3]; exact c_J7_fill_53178 l hF.2.1 (st2 σ q 5 (0 : Int32)) (q + 5) 4 (0 : Int32) (sI_ hF hq 5 (by decide)) (sk5 hq) (sn5 hq) (by decide)) mw_J7_fill_53178 wd_sm_yJ7_fill_53178 wd_ml_RX4_44 (by decide) rfl rfl (Nat.le_of_ble_eq_true rfl) 17 rfl ?_
    refine Vaload_n dX4_reset_17 0 rfl 18 rfl ?_
    refine Viconst dX4_reset_18 (0 : Int32) (by decide) 19 rfl ?_
    refine Vput (q) 8 tyX4 dX4_reset_19 22 rfl (sI_ hF hq 0 (by decide)) (sk0 hq) rfl inX4 tyX4_ok nmX4 (by decide) wd_fl_RX4_50 rfl (ty := .int) (by decide +kernel) rfl rfl (fun f => rfl) (fun f => Nat.le_of_ble_eq_true rfl) ?_
    refine Vaload_n dX4_reset_22 0 rfl 23 rfl ?_
    refine Vget (q) 9 dX4_reset_23 26 rfl (sI_ hF hq 0 (by decide)) (sk0 hq) rfl inX4 (by decide) wd_fl_RX4_33 (v := .ref (ad G (q + 7))) rfl ?_
    refine Viconst dX4_reset_26 (0 : Int32) (by decide) 27 rfl ?_
    refine VputN (q + 7) 0 tyX0 dX4_reset_27 30 rfl (sI_ hF hq 7 (by decide)) (sk7 hq) rfl inX0 tyX0_ok nmX0 (by decide) wd_nfl_RX4_53 rfl (ty := .boolean) (by decide +kernel) (by decide) (by decide) (fun f => rfl) (fun f => Nat.le_of_ble_eq_true rfl) ?_
    refine Vaload_n dX4_reset_30 0 rfl 31 rfl ?_
    refine Viconst dX4_reset_31 (0 : Int32) (by decide) 32 rfl ?_
    refine Vput (q) 10 tyX4 dX4_reset_32 35 rfl (sI_ hF hq 0 (by decide)) (sk0 hq) rfl inX4 tyX4_ok nmX4 (by decide) wd_fl_RX4_57 rfl (ty := .int) (by decide +kernel) rfl rfl (fun f => rfl) (fun f => Nat.le_of_ble_eq_true rfl) ?_
    refine Vaload_n dX4_reset_35 0 rfl 36 rfl ?_
    refine Viconst dX4_reset_36 (0 : Int32) (by decide) 37 rfl ?_
    refine Vput (q) 12 tyX4 dX4_reset_37 40 rfl (sI_ hF hq 0 (by decide)) (sk0 hq) rfl inX4 tyX4_ok nmX4 (by decide) wd_fl_RX4_60 rfl (ty := .int) (by decide +kernel) rfl rfl (fun f => rfl) (fun f => Nat.le_of_ble_eq_true rfl) ?_
    refine Vaload_n dX4_reset_40 0 rfl 41 rfl ?_
    refine Viconst dX4_reset_41 (0 : Int32) (by decide) 42 rfl ?_
    refine Vput (q) 13 tyX4 dX4_reset_42 45 rfl (sI_ hF hq 0 (by decide)) (sk0 hq) rfl inX4 tyX4_ok nmX4 (by decide) wd_fl_RX4_63 rfl (ty := .int) (by decide +kernel) rfl rfl (fun f => rfl) (fun f => Nat.le_of_ble_eq_true rfl) ?_
    refine Vaload_n dX4_reset_45 0 rfl 46 rfl ?_
    refine Viconst dX4_reset_46 (0 : Int32) (by decide) 47 rfl ?_
    refine Vput (q) 14 tyX4 dX4_reset_47 50 rfl (sI_ hF hq 0 (by decide)) (sk0 hq) rfl inX4 tyX4_ok nmX4 (by decide) wd_fl_RX4_66 rfl (ty := .int) (by decide +kernel) rfl rfl (fun f => rfl) (fun f => Nat.le_of_ble_eq_true rfl) ?_
    exact Vvret dX4_reset_50
def f_X4_append (σ : mS) (q : Nat) (x1 : Int32) (x2 : Int32) (x3 : Int32) (x4 : Int32) : Int32 × mS := (if (σ q 5) < 0 then ((0 : Int32), σ) else (if (σ q 5) < (24 : Int32) then ((1 : Int32), (st2 (st2 (st2 (st2 (st2 σ (q + 1) (σ q 5).toNatClampNeg x1) (q + 2) (σ q 5).toNatClampNeg x2) (q + 3) (σ q 5).toNatClampNeg x3) (q + 4) (σ q 5).toNatClampNeg x4) q 5 ((σ q 5) + (1 : Int32)))) else ((0 : Int32), σ)))
theorem mw_X4_append : mW yX4_append cX4_append 5 (some .boolean) 4 := ⟨wd_co_yX4_append, wd_ini_RX4, ⟨by decide, by decide⟩, by decide +kernel, by decide⟩
set_option maxRecDepth 100000 in
set_option maxHeartbeats 4000000 in
theorem c_X4_append (l : Launch) {G : gT} (hF : Full G) (σ : mS) (q : Nat) (x1 : Int32) (x2 : Int32) (x3 : Int32) (x4 : Int32) (hq : sQ q) : Ct l G yX4_append cX4_append 5 (some .boolean) 0 [.ref (ad G q), .int x1, .int x2, .int x3, .int x4] κI σ (f_X4_append σ q x1 x2 x3 x4) := by
  refine Ct.ofV [(0, .ref (ad G q)), (1, .int x1), (2, .int x2), (3, .int x3), (4, .int x4)] rfl (by decide) (Nat.le_of_ble_eq_true rfl) rfl (fun X => ?_)
  unfold f_X4_append
  refine Vaload_n dX4_append_0 0 rfl 1 rfl ?_
  refine Vget (q) 5 dX4_append_1 4 rfl (sI_ hF hq 0 (by decide)) (sk0 hq) rfl inX4 (by decide) wd_fl_RX4_41 (v := .int (σ q 5)) rfl ?_
  refine Viflt (fun v => v) dX4_append_4 16 7 (by decide) rfl (fun h1 => ?_) (fun h1 => ?_)
  · refine Viconst dX4_append_16 (0 : Int32) (by decide) 17 rfl ?_
    exact Vzret dX4_append_17 (by first | decide | exact nb_isRegister _ | exact nb_isRow _ | exact nb_isPlace _ | exact nb_within _ _ _ | exact nb_mRegister _ | exact nb_mCell _ | exact nb_mPlace _)
  · refine Vaload_n dX4_append_7 0 rfl 8 rfl ?_
    refine Vget (q) 5 dX4_append_8 11 rfl (sI_ hF hq 0 (by decide)) (sk0 hq) rfl inX4 (by decide) wd_fl_RX4_41 (v := .int (σ q 5)) rfl ?_
    refine Vbipush dX4_append_11 (24 : Int32) (by decide) 13 rfl ?_
    refine Viclt (fun v => v) dX4_append_13 18 16 (by decide) rfl (fun h2 => ?_) (fun h2 => ?_)
    · refine Vaload_n dX4_append_18 0 rfl 19 rfl ?_
      refine Vget (q) 1 dX4_append_19 22 rfl (sI_ hF hq 0 (by decide)) (sk0 hq) rfl inX4 (by decide) wd_fl_RX4_9 (v := .ref (ad G (q + 1))) rfl ?_
      refine Vaload_n dX4_append_22 0 rfl 23 rfl ?_
      refine Vget (q) 5 dX4_append_23 26 rfl (sI_ hF hq 0 (by decide)) (sk0 hq) rfl inX4 (by decide) wd_fl_RX4_41 (v := .int (σ q 5)) rfl ?_
      refine Vload_n dX4_append_26 1 rfl 27 rfl ?_
      refine Vst dX4_append_27 28 rfl (sI_ hF hq 1 (by decide)) (sk1 hq) (sn1 hq) hF.2.1 (by first | exact (by assumption) | exact (vin_cmp2 (by assumption) (by assumption) (by decide)) | exact (vin_cell (by assumption)) | exact (vin_reg (by assumption)) | exact (vin_row (by assumption)) | exact (vin_cnt (by assumption) (by assumption) (by decide) (by decide) (by assumption)) | exact (vin_cmp (by assumption) (by assumption) (by decide)) | exact (vp_in_iff.mpr (by decide))) ?_
      refine Vaload_n dX4_append_28 0 rfl 29 rfl ?_
      refine Vget (q) 2 dX4_append_29 32 rfl (sI_ hF hq 0 (by decide)) (sk0 hq) rfl inX4 (by decide) wd_fl_RX4_15 (v := .ref (ad G (q + 2))) rfl ?_
      refine Vaload_n dX4_append_32 0 rfl 33 rfl ?_
      refine Vget (q) 5 dX4_append_33 36 rfl (sI_ hF hq 0 (by decide)) (sk0 hq) rfl inX4 (by decide) wd_fl_RX4_41 (v := .int (σ q 5)) (by simp [oV, st2]) ?_
      refine Vload_n dX4_append_36 2 rfl 37 rfl ?_
      refine Vst dX4_append_37 38 rfl (sI_ hF hq 2 (by decide)) (sk2 hq) (sn2 hq) hF.2.1 (by first | exact (by assumption) | exact (vin_cmp2 (by assumption) (by assumption) (by decide)) | exact (vin_cell (by assumption)) | exact (vin_reg (by assumption)) | exact (vin_row (by assumption)) | exact (vin_cnt (by assumption) (by assumption) (by decide) (by decide) (by assumption)) | exact (vin_cmp (by assumption) (by assumption) (by decide)) | exact (vp_in_iff.mpr (by decide))) ?_
      refine Vaload_n dX4_append_38 0 rfl 39 rfl ?_
      refine Vget (q) 3 dX4_append_39 42 rfl (sI_ hF hq 0 (by decide)) (sk0 hq) rfl inX4 (by decide) wd_fl_RX4_18 (v := .ref (ad G (q + 3))) rfl ?_
      refine Vaload_n dX4_append_42 0 rfl 43 rfl ?_
      refine Vget (q) 5 dX4_append_43 46 rfl (sI_ hF hq 0 (by decide)) (sk0 hq) rfl inX4 (by decide) wd_fl_RX4_41 (v := .int (σ q 5)) (by simp [oV, st2]) ?_
      refine Vload_n dX4_append_46 3 rfl 47 rfl ?_
      refine Vst dX4_append_47 48 rfl (sI_ hF hq 3 (by decide)) (sk3 hq) (sn3 hq) hF.2.1 (by first | exact (by assumption) | exact (vin_cmp2 (by assumption) (by assumption) (by decide)) | exact (vin_cell (by assumption)) | exact (vin_reg (by assumption)) | exact (vin_row (by assumption)) | exact (vin_cnt (by assumption) (by assumption) (by decide) (by decide) (by assumption)) | exact (vin_cmp (by assumption) (by assumption) (by decide)) | exact (vp_in_iff.mpr (by decide))) ?_
      refine Vaload_n dX4_append_48 0 rfl 49 rfl ?_
      refine Vget (q) 4 dX4_append_49 52 rfl (sI_ hF hq 0 (by decide)) (sk0 hq) rfl inX4 (by decide) wd_fl_RX4_21 (v := .ref (ad G (q + 4))) rfl ?_
      refine Vaload_n dX4_append_52 0 rfl 53 rfl ?_
      refine Vget (q) 5 dX4_append_53 56 rfl (sI_ hF hq 0 (by decide)) (sk0 hq) rfl inX4 (by decide) wd_fl_RX4_41 (v := .int (σ q 5)) (by simp [oV, st2]) ?_
      refine Vload dX4_append_56 4 rfl 58 rfl ?_
      refine Vst dX4_append_58 59 rfl (sI_ hF hq 4 (by decide)) (sk4 hq) (sn4 hq) hF.2.1 (by first | exact (by assumption) | exact (vin_cmp2 (by assumption) (by assumption) (by decide)) | exact (vin_cell (by assumption)) | exact (vin_reg (by assumption)) | exact (vin_row (by assumption)) | exact (vin_cnt (by assumption) (by assumption) (by decide) (by decide) (by assumption)) | exact (vin_cmp (by assumption) (by assumption) (by decide)) | exact (vp_in_iff.mpr (by decide))) ?_
      refine Vaload_n dX4_append_59 0 rfl 60 rfl ?_
      refine Vdupa dX4_append_60 61 rfl ?_
      refine Vget (q) 5 dX4_append_61 64 rfl (sI_ hF hq 0 (by decide)) (sk0 hq) rfl inX4 (by decide) wd_fl_RX4_41 (v := .int (σ q 5)) (by simp [oV, st2]) ?_
      refine Viconst dX4_append_64 (1 : Int32) (by decide) 65 rfl ?_
      refine Viadd dX4_append_65 66 rfl ?_
      refine Vput (q) 5 tyX4 dX4_append_66 69 rfl (sI_ hF hq 0 (by decide)) (sk0 hq) rfl inX4 tyX4_ok nmX4 (by decide) wd_fl_RX4_41 rfl (ty := .int) (by decide +kernel) rfl rfl (fun f => rfl) (fun f => Nat.le_of_ble_eq_true rfl) ?_
      refine Viconst dX4_append_69 (1 : Int32) (by decide) 70 rfl ?_
      exact Vzret dX4_append_70 (by first | decide | exact nb_isRegister _ | exact nb_isRow _ | exact nb_isPlace _ | exact nb_within _ _ _ | exact nb_mRegister _ | exact nb_mCell _ | exact nb_mPlace _)
    · refine Viconst dX4_append_16 (0 : Int32) (by decide) 17 rfl ?_
      exact Vzret dX4_append_17 (by first | decide | exact nb_isRegister _ | exact nb_isRow _ | exact nb_isPlace _ | exact nb_within _ _ _ | exact nb_mRegister _ | exact nb_mCell _ | exact nb_mPlace _)
def f_X4_state (σ : mS) (q : Nat) : Int32 := (if (σ q 12) = 0 then (if (σ q 10) < (σ q 5) then (0 : Int32) else (if (σ q 8) = 0 then (if (σ (q + 7) 0) = 0 then (1 : Int32) else (0 : Int32)) else (0 : Int32))) else (2 : Int32))
theorem mw_X4_state : mW yX4_state cX4_state 1 (some .int) 0 := ⟨wd_co_yX4_state, wd_ini_RX4, ⟨by decide, by decide⟩, by decide +kernel, by decide⟩
set_option maxRecDepth 100000 in
set_option maxHeartbeats 4000000 in
theorem c_X4_state (l : Launch) {G : gT} (hF : Full G) (σ : mS) (q : Nat) (hq : sQ q) : Ct l G yX4_state cX4_state 1 (some .int) 0 [.ref (ad G q)] κI σ (f_X4_state σ q, σ) := by
  refine Ct.ofV [(0, .ref (ad G q))] rfl (by decide) (Nat.le_of_ble_eq_true rfl) rfl (fun X => ?_)
  unfold f_X4_state
  refine Vaload_n dX4_state_0 0 rfl 1 rfl ?_
  refine Vget (q) 12 dX4_state_1 4 rfl (sI_ hF hq 0 (by decide)) (sk0 hq) rfl inX4 (by decide) wd_fl_RX4_60 (v := .int (σ q 12)) rfl ?_
  refine Vifeq (fun v => (v, σ)) dX4_state_4 9 7 (by decide) rfl (fun h1 => ?_) (fun h1 => ?_)
  · refine Vaload_n dX4_state_9 0 rfl 10 rfl ?_
    refine Vget (q) 10 dX4_state_10 13 rfl (sI_ hF hq 0 (by decide)) (sk0 hq) rfl inX4 (by decide) wd_fl_RX4_57 (v := .int (σ q 10)) rfl ?_
    refine Vaload_n dX4_state_13 0 rfl 14 rfl ?_
    refine Vget (q) 5 dX4_state_14 17 rfl (sI_ hF hq 0 (by decide)) (sk0 hq) rfl inX4 (by decide) wd_fl_RX4_41 (v := .int (σ q 5)) rfl ?_
    refine Viclt (fun v => (v, σ)) dX4_state_17 41 20 (by decide) rfl (fun h2 => ?_) (fun h2 => ?_)
    · refine Viconst dX4_state_41 (0 : Int32) (by decide) 42 rfl ?_
      exact Viret dX4_state_42
    · refine Vaload_n dX4_state_20 0 rfl 21 rfl ?_
      refine Vget (q) 8 dX4_state_21 24 rfl (sI_ hF hq 0 (by decide)) (sk0 hq) rfl inX4 (by decide) wd_fl_RX4_50 (v := .int (σ q 8)) rfl ?_
      refine Vifne (fun v => (v, σ)) dX4_state_24 41 27 (by decide) rfl (fun h3 => ?_) (fun h3 => ?_)
      · refine Viconst dX4_state_41 (0 : Int32) (by decide) 42 rfl ?_
        exact Viret dX4_state_42
      · refine Vaload_n dX4_state_27 0 rfl 28 rfl ?_
        refine Vget (q) 9 dX4_state_28 31 rfl (sI_ hF hq 0 (by decide)) (sk0 hq) rfl inX4 (by decide) wd_fl_RX4_33 (v := .ref (ad G (q + 7))) rfl ?_
        refine VgetN (q + 7) 0 dX4_state_31 34 rfl (sI_ hF hq 7 (by decide)) (sk7 hq) rfl inX0 (by decide) wd_nfl_RX4_53 (v := .int (σ (q + 7) 0)) rfl ?_
        refine Vifne (fun v => (v, σ)) dX4_state_34 41 37 (by decide) rfl (fun h4 => ?_) (fun h4 => ?_)
        · refine Viconst dX4_state_41 (0 : Int32) (by decide) 42 rfl ?_
          exact Viret dX4_state_42
        · refine Viconst dX4_state_37 (1 : Int32) (by decide) 38 rfl ?_
          refine Vgoto dX4_state_38 42 (by decide) ?_
          exact Viret dX4_state_42
  · refine Viconst dX4_state_7 (2 : Int32) (by decide) 8 rfl ?_
    exact Viret dX4_state_8
def f_X5_isRegister (x0 : Int32) : Int32 := (if x0 < 0 then (0 : Int32) else (if (4 : Int32) ≤ x0 then (0 : Int32) else (1 : Int32)))
theorem mw_X5_isRegister : mW yX5_isRegister cX5_isRegister 1 (some .boolean) 1 := ⟨wd_co_yX5_isRegister, wd_ini_RX5, ⟨by decide, by decide⟩, by decide +kernel, by decide⟩
set_option maxRecDepth 100000 in
set_option maxHeartbeats 4000000 in
theorem c_X5_isRegister (l : Launch) {G : gT} (hF : Full G) (σ : mS) (x0 : Int32)  : Ct l G yX5_isRegister cX5_isRegister 1 (some .boolean) 0 [.int x0] κI σ (f_X5_isRegister x0, σ) := by
  refine Ct.ofV [(0, .int x0)] rfl (by decide) (Nat.le_of_ble_eq_true rfl) rfl (fun X => ?_)
  unfold f_X5_isRegister
  refine Vload_n dX5_isRegister_0 0 rfl 1 rfl ?_
  refine Viflt (fun v => (v, σ)) dX5_isRegister_1 13 4 (by decide) rfl (fun h1 => ?_) (fun h1 => ?_)
  · refine Viconst dX5_isRegister_13 (0 : Int32) (by decide) 14 rfl ?_
    exact Vzret dX5_isRegister_14 (by first | decide | exact nb_isRegister _ | exact nb_isRow _ | exact nb_isPlace _ | exact nb_within _ _ _ | exact nb_mRegister _ | exact nb_mCell _ | exact nb_mPlace _)
  · refine Vload_n dX5_isRegister_4 0 rfl 5 rfl ?_
    refine Viconst dX5_isRegister_5 (4 : Int32) (by decide) 6 rfl ?_
    refine Vicge (fun v => (v, σ)) dX5_isRegister_6 13 9 (by decide) rfl (fun h2 => ?_) (fun h2 => ?_)
    · refine Viconst dX5_isRegister_13 (0 : Int32) (by decide) 14 rfl ?_
      exact Vzret dX5_isRegister_14 (by first | decide | exact nb_isRegister _ | exact nb_isRow _ | exact nb_isPlace _ | exact nb_within _ _ _ | exact nb_mRegister _ | exact nb_mCell _ | exact nb_mPlace _)
    · refine Viconst dX5_isRegister_9 (1 : Int32) (by decide) 10 rfl ?_
      refine Vgoto dX5_isRegister_10 14 (by decide) ?_
      exact Vzret dX5_isRegister_14 (by first | decide | exact nb_isRegister _ | exact nb_isRow _ | exact nb_isPlace _ | exact nb_within _ _ _ | exact nb_mRegister _ | exact nb_mCell _ | exact nb_mPlace _)
theorem nb_isRegister (x : Int32) : narrow .boolean (.int (f_X5_isRegister x)) = .int (f_X5_isRegister x) := by unfold f_X5_isRegister; (repeat' split) <;> rfl
theorem vin_reg {x : Int32} (h : ¬ f_X5_isRegister x = 0) : vp_in x 4 := by
  unfold f_X5_isRegister at h
  by_cases h1 : x < 0
  · rw [if_pos h1] at h; exact absurd rfl h
  · rw [if_neg h1] at h
    by_cases h2 : (4 : Int32) ≤ x
    · rw [if_pos h2] at h; exact absurd rfl h
    · exact vin_cmp h1 h2 (by decide)
def f_X4_held (σ : mS) (q : Nat) (x1 : Int32) : Int32 := (if (f_X5_isRegister x1) = 0 then (0 : Int32) else (σ (q + 5) x1.toNatClampNeg))
theorem mw_X4_held : mW yX4_held cX4_held 2 (some .int) 1 := ⟨wd_co_yX4_held, wd_ini_RX4, ⟨by decide, by decide⟩, by decide +kernel, by decide⟩
set_option maxRecDepth 100000 in
set_option maxHeartbeats 4000000 in
theorem c_X4_held (l : Launch) {G : gT} (hF : Full G) (σ : mS) (q : Nat) (x1 : Int32) (hq : sQ q) : Ct l G yX4_held cX4_held 2 (some .int) 1 [.ref (ad G q), .int x1] κI σ (f_X4_held σ q x1, σ) := by
  refine Ct.ofV [(0, .ref (ad G q)), (1, .int x1)] rfl (by decide) (Nat.le_of_ble_eq_true rfl) rfl (fun X => ?_)
  unfold f_X4_held
  refine Vload_n dX4_held_0 1 rfl 1 rfl ?_
  refine VcSNp dX4_held_1 [.int x1] (c_X5_isRegister l hF σ x1) mw_X5_isRegister wd_sm_yX5_isRegister wd_nml_RX4_69 (by decide) rfl rfl (Nat.le_of_ble_eq_true rfl) 4 rfl ?_
  refine Vifeq (fun v => (v, σ)) dX4_held_4 16 7 (by decide) rfl (fun h1 => ?_) (fun h1 => ?_)
  · refine Viconst dX4_held_16 (0 : Int32) (by decide) 17 rfl ?_
    exact Viret dX4_held_17
  · refine Vaload_n dX4_held_7 0 rfl 8 rfl ?_
    refine Vget (q) 6 dX4_held_8 11 rfl (sI_ hF hq 0 (by decide)) (sk0 hq) rfl inX4 (by decide) wd_fl_RX4_24 (v := .ref (ad G (q + 5))) rfl ?_
    refine Vload_n dX4_held_11 1 rfl 12 rfl ?_
    refine Vld dX4_held_12 13 rfl (sI_ hF hq 5 (by decide)) (sk5 hq) (sn5 hq) hF.2.1 (by first | exact (by assumption) | exact (vin_cmp2 (by assumption) (by assumption) (by decide)) | exact (vin_cell (by assumption)) | exact (vin_reg (by assumption)) | exact (vin_row (by assumption)) | exact (vin_cnt (by assumption) (by assumption) (by decide) (by decide) (by assumption)) | exact (vin_cmp (by assumption) (by assumption) (by decide)) | exact (vp_in_iff.mpr (by decide))) ?_
    refine Vgoto dX4_held_13 17 (by decide) ?_
    exact Viret dX4_held_17
def f_X4_keep (σ : mS) (q : Nat) (x1 : Int32) (x2 : Int32) : Int32 × mS := (if (f_X5_isRegister x1) = 0 then (0, σ) else (0, (st2 σ (q + 5) x1.toNatClampNeg x2)))
theorem mw_X4_keep : mW yX4_keep cX4_keep 3 none 2 := ⟨wd_co_yX4_keep, wd_ini_RX4, ⟨by decide, by decide⟩, by decide +kernel, by decide⟩
set_option maxRecDepth 100000 in
set_option maxHeartbeats 4000000 in
theorem c_X4_keep (l : Launch) {G : gT} (hF : Full G) (σ : mS) (q : Nat) (x1 : Int32) (x2 : Int32) (hq : sQ q) : Ct l G yX4_keep cX4_keep 3 none 1 [.ref (ad G q), .int x1, .int x2] κV σ (f_X4_keep σ q x1 x2) := by
  refine Ct.ofV [(0, .ref (ad G q)), (1, .int x1), (2, .int x2)] rfl (by decide) (Nat.le_of_ble_eq_true rfl) rfl (fun X => ?_)
  unfold f_X4_keep
  refine Vload_n dX4_keep_0 1 rfl 1 rfl ?_
  refine VcSNp dX4_keep_1 [.int x1] (c_X5_isRegister l hF σ x1) mw_X5_isRegister wd_sm_yX5_isRegister wd_nml_RX4_69 (by decide) rfl rfl (Nat.le_of_ble_eq_true rfl) 4 rfl ?_
  refine Vifeq (fun v => v) dX4_keep_4 14 7 (by decide) rfl (fun h1 => ?_) (fun h1 => ?_)
  · exact Vvret dX4_keep_14
  · refine Vaload_n dX4_keep_7 0 rfl 8 rfl ?_
    refine Vget (q) 6 dX4_keep_8 11 rfl (sI_ hF hq 0 (by decide)) (sk0 hq) rfl inX4 (by decide) wd_fl_RX4_24 (v := .ref (ad G (q + 5))) rfl ?_
    refine Vload_n dX4_keep_11 1 rfl 12 rfl ?_
    refine Vload_n dX4_keep_12 2 rfl 13 rfl ?_
    refine Vst dX4_keep_13 14 rfl (sI_ hF hq 5 (by decide)) (sk5 hq) (sn5 hq) hF.2.1 (by first | exact (by assumption) | exact (vin_cmp2 (by assumption) (by assumption) (by decide)) | exact (vin_cell (by assumption)) | exact (vin_reg (by assumption)) | exact (vin_row (by assumption)) | exact (vin_cnt (by assumption) (by assumption) (by decide) (by decide) (by assumption)) | exact (vin_cmp (by assumption) (by assumption) (by decide)) | exact (vp_in_iff.mpr (by decide))) ?_
    exact Vvret dX4_keep_14
theorem keep_q8 (σ : mS) (q : Nat) (i v : Int32) : (f_X4_keep σ q i v).2 q 8 = σ q 8 := by
  unfold f_X4_keep
  split <;> simp [st2]
theorem trys_in {x : Int32} (h0 : ¬ x ≤ 0) (h1 : x ≤ (4 : Int32)) : vp_in (x - 1) 4 := by
  rw [i32_le, Int32.toInt_zero] at h0
  rw [i32_le] at h1
  have h4 : (4 : Int32).toInt = 4 := by decide
  rw [h4] at h1
  obtain ⟨j, hj, rfl⟩ := vp_in_of (vp_in_iff.mpr ⟨by omega, by omega⟩ : vp_in x 5) (by decide)
  rcases j with _ | j
  · rw [nI_toInt (by decide)] at h0; exact absurd (by decide) h0
  · rw [nI_pred]; exact vp_in_nI (by omega) (by decide)
def f_X4_divide (σ : mS) (q : Nat) (x1 : Int32) (x2 : Int32) (x3 : Int32) : Int32 × mS := (if x3 = 0 then ((2 : Int32), σ) else (ap (fun u2 => ((0 : Int32), u2.2)) (f_X4_keep σ q x1 (x2 / x3))))
theorem mw_X4_divide : mW yX4_divide cX4_divide 4 (some .int) 3 := ⟨wd_co_yX4_divide, wd_ini_RX4, ⟨by decide, by decide⟩, by decide +kernel, by decide⟩
set_option maxRecDepth 100000 in
set_option maxHeartbeats 4000000 in
theorem c_X4_divide (l : Launch) {G : gT} (hF : Full G) (σ : mS) (q : Nat) (x1 : Int32) (x2 : Int32) (x3 : Int32) (hq : sQ q) : Ct l G yX4_divide cX4_divide 4 (some .int) 2 [.ref (ad G q), .int x1, .int x2, .int x3] κI σ (f_X4_divide σ q x1 x2 x3) := by
  refine Ct.ofV [(0, .ref (ad G q)), (1, .int x1), (2, .int x2), (3, .int x3)] rfl (by decide) (Nat.le_of_ble_eq_true rfl) rfl (fun X => ?_)
  unfold f_X4_divide
  refine Vload_n dX4_divide_0 3 rfl 1 rfl ?_
  refine Vifne (fun v => v) dX4_divide_1 6 4 (by decide) rfl (fun h1 => ?_) (fun h1 => ?_)
  · refine Vaload_n dX4_divide_6 0 rfl 7 rfl ?_
    refine Vload_n dX4_divide_7 1 rfl 8 rfl ?_
    refine Vload_n dX4_divide_8 2 rfl 9 rfl ?_
    refine Vload_n dX4_divide_9 3 rfl 10 rfl ?_
    refine Vidiv dX4_divide_10 (by first | assumption | decide) 11 rfl ?_
    refine Vgen ?_
    intro u2 eu2
    refine VcVv (u := u2) dX4_divide_11 [.int x1, .int (x2 / x3)] (by rw [eu2]; exact c_X4_keep l hF σ q x1 (x2 / x3) hq) mw_X4_keep wd_im_yX4_keep wd_se_yX4_keep wd_ml_RX4_73 (sI_ hF hq 0 (by decide)) (sk0 hq) rfl rfl (by decide) rfl rfl (Nat.le_of_ble_eq_true rfl) 14 rfl ?_
    refine Viconst dX4_divide_14 (0 : Int32) (by decide) 15 rfl ?_
    exact Viret dX4_divide_15
  · refine Viconst dX4_divide_4 (2 : Int32) (by decide) 5 rfl ?_
    exact Viret dX4_divide_5
def f_X4_beginAtom (σ : mS) (q : Nat) : Int32 × mS := (if (σ (q + 7) 0) = 0 then (ap (fun u2 => ((0 : Int32), u2.2)) (f_X0_forget (cp2 (st2 (st2 (st2 σ (q + 7) 0 (1 : Int32)) (q + 7) 1 (σ q 11)) (q + 7) 2 (σ q 8)) (q + 5) (q + 8) 4) (q + 7))) else ((5 : Int32), σ))
theorem mw_X4_beginAtom : mW yX4_beginAtom cX4_beginAtom 1 (some .int) 0 := ⟨wd_co_yX4_beginAtom, wd_ini_RX4, ⟨by decide, by decide⟩, by decide +kernel, by decide⟩
set_option maxRecDepth 100000 in
set_option maxHeartbeats 4000000 in
theorem c_X4_beginAtom (l : Launch) {G : gT} (hF : Full G) (σ : mS) (q : Nat) (hq : sQ q) : Ct l G yX4_beginAtom cX4_beginAtom 1 (some .int) 1 [.ref (ad G q)] κI σ (f_X4_beginAtom σ q) := by
  refine Ct.ofV [(0, .ref (ad G q))] rfl (by decide) (Nat.le_of_ble_eq_true rfl) rfl (fun X => ?_)
  unfold f_X4_beginAtom
  refine Vaload_n dX4_beginAtom_0 0 rfl 1 rfl ?_
  refine Vget (q) 9 dX4_beginAtom_1 4 rfl (sI_ hF hq 0 (by decide)) (sk0 hq) rfl inX4 (by decide) wd_fl_RX4_33 (v := .ref (ad G (q + 7))) rfl ?_
  refine VgetN (q + 7) 0 dX4_beginAtom_4 7 rfl (sI_ hF hq 7 (by decide)) (sk7 hq) rfl inX0 (by decide) wd_nfl_RX4_53 (v := .int (σ (q + 7) 0)) rfl ?_
  refine Vifeq (fun v => v) dX4_beginAtom_7 12 10 (by decide) rfl (fun h1 => ?_) (fun h1 => ?_)
  · refine Vaload_n dX4_beginAtom_12 0 rfl 13 rfl ?_
    refine Vget (q) 9 dX4_beginAtom_13 16 rfl (sI_ hF hq 0 (by decide)) (sk0 hq) rfl inX4 (by decide) wd_fl_RX4_33 (v := .ref (ad G (q + 7))) rfl ?_
    refine Viconst dX4_beginAtom_16 (1 : Int32) (by decide) 17 rfl ?_
    refine VputN (q + 7) 0 tyX0 dX4_beginAtom_17 20 rfl (sI_ hF hq 7 (by decide)) (sk7 hq) rfl inX0 tyX0_ok nmX0 (by decide) wd_nfl_RX4_53 rfl (ty := .boolean) (by decide +kernel) (by decide) (by decide) (fun f => rfl) (fun f => Nat.le_of_ble_eq_true rfl) ?_
    refine Vaload_n dX4_beginAtom_20 0 rfl 21 rfl ?_
    refine Vget (q) 9 dX4_beginAtom_21 24 rfl (sI_ hF hq 0 (by decide)) (sk0 hq) rfl inX4 (by decide) wd_fl_RX4_33 (v := .ref (ad G (q + 7))) rfl ?_
    refine Vaload_n dX4_beginAtom_24 0 rfl 25 rfl ?_
    refine Vget (q) 11 dX4_beginAtom_25 28 rfl (sI_ hF hq 0 (by decide)) (sk0 hq) rfl inX4 (by decide) wd_fl_RX4_85 (v := .int (σ q 11)) (by simp [oV, st2]) ?_
    refine VputN (q + 7) 1 tyX0 dX4_beginAtom_28 31 rfl (sI_ hF hq 7 (by decide)) (sk7 hq) rfl inX0 tyX0_ok nmX0 (by decide) wd_nfl_RX4_101 rfl (ty := .int) (by decide +kernel) rfl rfl (fun f => rfl) (fun f => Nat.le_of_ble_eq_true rfl) ?_
    refine Vaload_n dX4_beginAtom_31 0 rfl 32 rfl ?_
    refine Vget (q) 9 dX4_beginAtom_32 35 rfl (sI_ hF hq 0 (by decide)) (sk0 hq) rfl inX4 (by decide) wd_fl_RX4_33 (v := .ref (ad G (q + 7))) rfl ?_
    refine Vaload_n dX4_beginAtom_35 0 rfl 36 rfl ?_
    refine Vget (q) 8 dX4_beginAtom_36 39 rfl (sI_ hF hq 0 (by decide)) (sk0 hq) rfl inX4 (by decide) wd_fl_RX4_50 (v := .int (σ q 8)) (by simp [oV, st2]) ?_
    refine VputN (q + 7) 2 tyX0 dX4_beginAtom_39 42 rfl (sI_ hF hq 7 (by decide)) (sk7 hq) rfl inX0 tyX0_ok nmX0 (by decide) wd_nfl_RX4_98 rfl (ty := .int) (by decide +kernel) rfl rfl (fun f => rfl) (fun f => Nat.le_of_ble_eq_true rfl) ?_
    refine Vaload_n dX4_beginAtom_42 0 rfl 43 rfl ?_
    refine Vget (q) 6 dX4_beginAtom_43 46 rfl (sI_ hF hq 0 (by decide)) (sk0 hq) rfl inX4 (by decide) wd_fl_RX4_24 (v := .ref (ad G (q + 5))) rfl ?_
    refine Viconst dX4_beginAtom_46 (0 : Int32) (by decide) 47 rfl ?_
    refine Vaload_n dX4_beginAtom_47 0 rfl 48 rfl ?_
    refine Vget (q) 9 dX4_beginAtom_48 51 rfl (sI_ hF hq 0 (by decide)) (sk0 hq) rfl inX4 (by decide) wd_fl_RX4_33 (v := .ref (ad G (q + 7))) rfl ?_
    refine VgetN (q + 7) 3 dX4_beginAtom_51 54 rfl (sI_ hF hq 7 (by decide)) (sk7 hq) rfl inX0 (by decide) wd_nfl_RX4_104 (v := .ref (ad G (q + 8))) rfl ?_
    refine Viconst dX4_beginAtom_54 (0 : Int32) (by decide) 55 rfl ?_
    refine Viconst dX4_beginAtom_55 (4 : Int32) (by decide) 56 rfl ?_
    refine Vcopy dX4_beginAtom_56 59 rfl wd_ml_RX4_105 (sI_ hF hq 5 (by decide)) (sk5 hq) (sn5 hq) (sI_ hF hq 8 (by decide)) (sk8 hq) (sn8 hq) hF.2.1 (by decide) (by decide) (by decide) rfl ?_
    refine Vaload_n dX4_beginAtom_59 0 rfl 60 rfl ?_
    refine Vget (q) 9 dX4_beginAtom_60 63 rfl (sI_ hF hq 0 (by decide)) (sk0 hq) rfl inX4 (by decide) wd_fl_RX4_33 (v := .ref (ad G (q + 7))) rfl ?_
    refine Vgen ?_
    intro u2 eu2
    refine VcVv (u := u2) dX4_beginAtom_63 [] (by rw [eu2]; exact c_X0_forget l hF (cp2 (st2 (st2 (st2 σ (q + 7) 0 (1 : Int32)) (q + 7) 1 (σ q 11)) (q + 7) 2 (σ q 8)) (q + 5) (q + 8) 4) (q + 7) (sA hq)) mw_X0_forget wd_im_yX0_forget wd_se_yX0_forget wd_ml_RX4_111 (sI_ hF hq 7 (by decide)) (sk7 hq) rfl rfl (by decide) rfl rfl (Nat.le_of_ble_eq_true rfl) 66 rfl ?_
    refine Viconst dX4_beginAtom_66 (0 : Int32) (by decide) 67 rfl ?_
    exact Viret dX4_beginAtom_67
  · refine Viconst dX4_beginAtom_10 (5 : Int32) (by decide) 11 rfl ?_
    exact Viret dX4_beginAtom_11
def f_X4_openTry (σ : mS) (q : Nat) (x1 : Int32) : Int32 × mS := (if (σ q 8) < 0 then ((5 : Int32), σ) else (if (σ q 8) < (4 : Int32) then ((0 : Int32), (st2 (st2 σ (q + 6) (σ q 8).toNatClampNeg x1) q 8 ((σ q 8) + (1 : Int32)))) else ((5 : Int32), σ)))
theorem mw_X4_openTry : mW yX4_openTry cX4_openTry 2 (some .int) 1 := ⟨wd_co_yX4_openTry, wd_ini_RX4, ⟨by decide, by decide⟩, by decide +kernel, by decide⟩
set_option maxRecDepth 100000 in
set_option maxHeartbeats 4000000 in
theorem c_X4_openTry (l : Launch) {G : gT} (hF : Full G) (σ : mS) (q : Nat) (x1 : Int32) (hq : sQ q) : Ct l G yX4_openTry cX4_openTry 2 (some .int) 0 [.ref (ad G q), .int x1] κI σ (f_X4_openTry σ q x1) := by
  refine Ct.ofV [(0, .ref (ad G q)), (1, .int x1)] rfl (by decide) (Nat.le_of_ble_eq_true rfl) rfl (fun X => ?_)
  unfold f_X4_openTry
  refine Vaload_n dX4_openTry_0 0 rfl 1 rfl ?_
  refine Vget (q) 8 dX4_openTry_1 4 rfl (sI_ hF hq 0 (by decide)) (sk0 hq) rfl inX4 (by decide) wd_fl_RX4_50 (v := .int (σ q 8)) rfl ?_
  refine Viflt (fun v => v) dX4_openTry_4 15 7 (by decide) rfl (fun h1 => ?_) (fun h1 => ?_)
  · refine Viconst dX4_openTry_15 (5 : Int32) (by decide) 16 rfl ?_
    exact Viret dX4_openTry_16
  · refine Vaload_n dX4_openTry_7 0 rfl 8 rfl ?_
    refine Vget (q) 8 dX4_openTry_8 11 rfl (sI_ hF hq 0 (by decide)) (sk0 hq) rfl inX4 (by decide) wd_fl_RX4_50 (v := .int (σ q 8)) rfl ?_
    refine Viconst dX4_openTry_11 (4 : Int32) (by decide) 12 rfl ?_
    refine Viclt (fun v => v) dX4_openTry_12 17 15 (by decide) rfl (fun h2 => ?_) (fun h2 => ?_)
    · refine Vaload_n dX4_openTry_17 0 rfl 18 rfl ?_
      refine Vget (q) 7 dX4_openTry_18 21 rfl (sI_ hF hq 0 (by decide)) (sk0 hq) rfl inX4 (by decide) wd_fl_RX4_27 (v := .ref (ad G (q + 6))) rfl ?_
      refine Vaload_n dX4_openTry_21 0 rfl 22 rfl ?_
      refine Vget (q) 8 dX4_openTry_22 25 rfl (sI_ hF hq 0 (by decide)) (sk0 hq) rfl inX4 (by decide) wd_fl_RX4_50 (v := .int (σ q 8)) rfl ?_
      refine Vload_n dX4_openTry_25 1 rfl 26 rfl ?_
      refine Vst dX4_openTry_26 27 rfl (sI_ hF hq 6 (by decide)) (sk6 hq) (sn6 hq) hF.2.1 (by first | exact (by assumption) | exact (vin_cmp2 (by assumption) (by assumption) (by decide)) | exact (vin_cell (by assumption)) | exact (vin_reg (by assumption)) | exact (vin_row (by assumption)) | exact (vin_cnt (by assumption) (by assumption) (by decide) (by decide) (by assumption)) | exact (vin_cmp (by assumption) (by assumption) (by decide)) | exact (vp_in_iff.mpr (by decide))) ?_
      refine Vaload_n dX4_openTry_27 0 rfl 28 rfl ?_
      refine Vdupa dX4_openTry_28 29 rfl ?_
      refine Vget (q) 8 dX4_openTry_29 32 rfl (sI_ hF hq 0 (by decide)) (sk0 hq) rfl inX4 (by decide) wd_fl_RX4_50 (v := .int (σ q 8)) (by simp [oV, st2]) ?_
      refine Viconst dX4_openTry_32 (1 : Int32) (by decide) 33 rfl ?_
      refine Viadd dX4_openTry_33 34 rfl ?_
      refine Vput (q) 8 tyX4 dX4_openTry_34 37 rfl (sI_ hF hq 0 (by decide)) (sk0 hq) rfl inX4 tyX4_ok nmX4 (by decide) wd_fl_RX4_50 rfl (ty := .int) (by decide +kernel) rfl rfl (fun f => rfl) (fun f => Nat.le_of_ble_eq_true rfl) ?_
      refine Viconst dX4_openTry_37 (0 : Int32) (by decide) 38 rfl ?_
      exact Viret dX4_openTry_38
    · refine Viconst dX4_openTry_15 (5 : Int32) (by decide) 16 rfl ?_
      exact Viret dX4_openTry_16
def f_X4_closeTry (σ : mS) (q : Nat) : Int32 × mS := (if (σ q 8) = 0 then ((5 : Int32), σ) else (if (σ (q + 7) 0) = 0 then ((0 : Int32), (st2 σ q 8 ((σ q 8) - (1 : Int32)))) else (if (σ (q + 7) 2) < (σ q 8) then ((0 : Int32), (st2 σ q 8 ((σ q 8) - (1 : Int32)))) else ((5 : Int32), σ))))
theorem mw_X4_closeTry : mW yX4_closeTry cX4_closeTry 1 (some .int) 0 := ⟨wd_co_yX4_closeTry, wd_ini_RX4, ⟨by decide, by decide⟩, by decide +kernel, by decide⟩
set_option maxRecDepth 100000 in
set_option maxHeartbeats 4000000 in
theorem c_X4_closeTry (l : Launch) {G : gT} (hF : Full G) (σ : mS) (q : Nat) (hq : sQ q) : Ct l G yX4_closeTry cX4_closeTry 1 (some .int) 0 [.ref (ad G q)] κI σ (f_X4_closeTry σ q) := by
  refine Ct.ofV [(0, .ref (ad G q))] rfl (by decide) (Nat.le_of_ble_eq_true rfl) rfl (fun X => ?_)
  unfold f_X4_closeTry
  refine Vaload_n dX4_closeTry_0 0 rfl 1 rfl ?_
  refine Vget (q) 8 dX4_closeTry_1 4 rfl (sI_ hF hq 0 (by decide)) (sk0 hq) rfl inX4 (by decide) wd_fl_RX4_50 (v := .int (σ q 8)) rfl ?_
  refine Vifeq (fun v => v) dX4_closeTry_4 31 7 (by decide) rfl (fun h1 => ?_) (fun h1 => ?_)
  · refine Viconst dX4_closeTry_31 (5 : Int32) (by decide) 32 rfl ?_
    exact Viret dX4_closeTry_32
  · refine Vaload_n dX4_closeTry_7 0 rfl 8 rfl ?_
    refine Vget (q) 9 dX4_closeTry_8 11 rfl (sI_ hF hq 0 (by decide)) (sk0 hq) rfl inX4 (by decide) wd_fl_RX4_33 (v := .ref (ad G (q + 7))) rfl ?_
    refine VgetN (q + 7) 0 dX4_closeTry_11 14 rfl (sI_ hF hq 7 (by decide)) (sk7 hq) rfl inX0 (by decide) wd_nfl_RX4_53 (v := .int (σ (q + 7) 0)) rfl ?_
    refine Vifeq (fun v => v) dX4_closeTry_14 33 17 (by decide) rfl (fun h2 => ?_) (fun h2 => ?_)
    · refine Vaload_n dX4_closeTry_33 0 rfl 34 rfl ?_
      refine Vdupa dX4_closeTry_34 35 rfl ?_
      refine Vget (q) 8 dX4_closeTry_35 38 rfl (sI_ hF hq 0 (by decide)) (sk0 hq) rfl inX4 (by decide) wd_fl_RX4_50 (v := .int (σ q 8)) rfl ?_
      refine Viconst dX4_closeTry_38 (1 : Int32) (by decide) 39 rfl ?_
      refine Visub dX4_closeTry_39 40 rfl ?_
      refine Vput (q) 8 tyX4 dX4_closeTry_40 43 rfl (sI_ hF hq 0 (by decide)) (sk0 hq) rfl inX4 tyX4_ok nmX4 (by decide) wd_fl_RX4_50 rfl (ty := .int) (by decide +kernel) rfl rfl (fun f => rfl) (fun f => Nat.le_of_ble_eq_true rfl) ?_
      refine Viconst dX4_closeTry_43 (0 : Int32) (by decide) 44 rfl ?_
      exact Viret dX4_closeTry_44
    · refine Vaload_n dX4_closeTry_17 0 rfl 18 rfl ?_
      refine Vget (q) 8 dX4_closeTry_18 21 rfl (sI_ hF hq 0 (by decide)) (sk0 hq) rfl inX4 (by decide) wd_fl_RX4_50 (v := .int (σ q 8)) rfl ?_
      refine Vaload_n dX4_closeTry_21 0 rfl 22 rfl ?_
      refine Vget (q) 9 dX4_closeTry_22 25 rfl (sI_ hF hq 0 (by decide)) (sk0 hq) rfl inX4 (by decide) wd_fl_RX4_33 (v := .ref (ad G (q + 7))) rfl ?_
      refine VgetN (q + 7) 2 dX4_closeTry_25 28 rfl (sI_ hF hq 7 (by decide)) (sk7 hq) rfl inX0 (by decide) wd_nfl_RX4_98 (v := .int (σ (q + 7) 2)) rfl ?_
      refine Vicgt (fun v => v) dX4_closeTry_28 33 31 (by decide) rfl (fun h3 => ?_) (fun h3 => ?_)
      · refine Vaload_n dX4_closeTry_33 0 rfl 34 rfl ?_
        refine Vdupa dX4_closeTry_34 35 rfl ?_
        refine Vget (q) 8 dX4_closeTry_35 38 rfl (sI_ hF hq 0 (by decide)) (sk0 hq) rfl inX4 (by decide) wd_fl_RX4_50 (v := .int (σ q 8)) rfl ?_
        refine Viconst dX4_closeTry_38 (1 : Int32) (by decide) 39 rfl ?_
        refine Visub dX4_closeTry_39 40 rfl ?_
        refine Vput (q) 8 tyX4 dX4_closeTry_40 43 rfl (sI_ hF hq 0 (by decide)) (sk0 hq) rfl inX4 tyX4_ok nmX4 (by decide) wd_fl_RX4_50 rfl (ty := .int) (by decide +kernel) rfl rfl (fun f => rfl) (fun f => Nat.le_of_ble_eq_true rfl) ?_
        refine Viconst dX4_closeTry_43 (0 : Int32) (by decide) 44 rfl ?_
        exact Viret dX4_closeTry_44
      · refine Viconst dX4_closeTry_31 (5 : Int32) (by decide) 32 rfl ?_
        exact Viret dX4_closeTry_32
def f_X4_performAlone (σ : mS) (q : Nat) (x1 : Int32) (x2 : Int32) (x3 : Int32) (x4 : Int32) : Int32 × mS := (if x1 = (0 : Int32) then (ap (fun u2 => ((0 : Int32), u2.2)) (f_X4_keep σ q x2 x3)) else (if x1 = (3 : Int32) then (ap (fun u4 => ((0 : Int32), u4.2)) (f_X4_keep σ q x2 ((f_X4_held σ q x3) + (f_X4_held σ q x4)))) else (if x1 = (4 : Int32) then (ap (fun u6 => ((0 : Int32), u6.2)) (f_X4_keep σ q x2 ((f_X4_held σ q x3) - (f_X4_held σ q x4)))) else (if x1 = (5 : Int32) then (ap (fun u8 => ((0 : Int32), u8.2)) (f_X4_keep σ q x2 ((f_X4_held σ q x3) * (f_X4_held σ q x4)))) else (if x1 = (6 : Int32) then (ap (fun u10 => (u10.1, u10.2)) (f_X4_divide σ q x2 (f_X4_held σ q x3) (f_X4_held σ q x4))) else (if x1 = (10 : Int32) then ((0 : Int32), (st2 σ q 11 x2)) else (if x1 = (11 : Int32) then (if (f_X4_held σ q x2) = 0 then ((0 : Int32), (st2 σ q 11 x3)) else ((0 : Int32), (st2 σ q 11 (σ q 11)))) else (if x1 = (12 : Int32) then (ap (fun u15 => (u15.1, u15.2)) (f_X4_beginAtom σ q)) else (if x1 = (14 : Int32) then (ap (fun u17 => (u17.1, u17.2)) (f_X4_openTry σ q x2)) else (if x1 = (15 : Int32) then (ap (fun u19 => (u19.1, u19.2)) (f_X4_closeTry σ q)) else (if x1 = (16 : Int32) then (((10 : Int32) + ((f_X4_held σ q x2) &&& (7 : Int32))), σ) else ((0 : Int32), σ))))))))))))
theorem mw_X4_performAlone : mW yX4_performAlone cX4_performAlone 5 (some .int) 4 := ⟨wd_co_yX4_performAlone, wd_ini_RX4, ⟨by decide, by decide⟩, by decide +kernel, by decide⟩
set_option maxRecDepth 100000 in
set_option maxHeartbeats 4000000 in
theorem c_X4_performAlone (l : Launch) {G : gT} (hF : Full G) (σ : mS) (q : Nat) (x1 : Int32) (x2 : Int32) (x3 : Int32) (x4 : Int32) (hq : sQ q) : Ct l G yX4_performAlone cX4_performAlone 5 (some .int) 3 [.ref (ad G q), .int x1, .int x2, .int x3, .int x4] κI σ (f_X4_performAlone σ q x1 x2 x3 x4) := by
  refine Ct.ofV [(0, .ref (ad G q)), (1, .int x1), (2, .int x2), (3, .int x3), (4, .int x4)] rfl (by decide) (Nat.le_of_ble_eq_true rfl) rfl (fun X => ?_)
  unfold f_X4_performAlone
  refine Vload_n dX4_performAlone_0 1 rfl 1 rfl ?_
  refine Vif (fun v => v) (fun h1 => ?_) (fun h1 => ?_)
  · refine Vswin dX4_performAlone_1 84 (by rw [h1]; decide) (by rw [h1]; decide) (off := 83) (by rw [h1]; rfl) (by decide) ?_
    refine Vaload_n dX4_performAlone_84 0 rfl 85 rfl ?_
    refine Vload_n dX4_performAlone_85 2 rfl 86 rfl ?_
    refine Vload_n dX4_performAlone_86 3 rfl 87 rfl ?_
    refine Vgen ?_
    intro u2 eu2
    refine VcVv (u := u2) dX4_performAlone_87 [.int x2, .int x3] (by rw [eu2]; exact c_X4_keep l hF σ q x2 x3 hq) mw_X4_keep wd_im_yX4_keep wd_se_yX4_keep wd_ml_RX4_73 (sI_ hF hq 0 (by decide)) (sk0 hq) rfl rfl (by decide) rfl rfl (Nat.le_of_ble_eq_true rfl) 90 rfl ?_
    refine Viconst dX4_performAlone_90 (0 : Int32) (by decide) 91 rfl ?_
    exact Viret dX4_performAlone_91
  refine Vif (fun v => v) (fun h3 => ?_) (fun h3 => ?_)
  · refine Vswin dX4_performAlone_1 92 (by rw [h3]; decide) (by rw [h3]; decide) (off := 91) (by rw [h3]; rfl) (by decide) ?_
    refine Vaload_n dX4_performAlone_92 0 rfl 93 rfl ?_
    refine Vload_n dX4_performAlone_93 2 rfl 94 rfl ?_
    refine Vaload_n dX4_performAlone_94 0 rfl 95 rfl ?_
    refine Vload_n dX4_performAlone_95 3 rfl 96 rfl ?_
    refine VcVp dX4_performAlone_96 [.int x3] (c_X4_held l hF σ q x3 hq) mw_X4_held wd_im_yX4_held wd_se_yX4_held wd_ml_RX4_77 (sI_ hF hq 0 (by decide)) (sk0 hq) rfl rfl (by decide) rfl rfl (Nat.le_of_ble_eq_true rfl) 99 rfl ?_
    refine Vaload_n dX4_performAlone_99 0 rfl 100 rfl ?_
    refine Vload dX4_performAlone_100 4 rfl 102 rfl ?_
    refine VcVp dX4_performAlone_102 [.int x4] (c_X4_held l hF σ q x4 hq) mw_X4_held wd_im_yX4_held wd_se_yX4_held wd_ml_RX4_77 (sI_ hF hq 0 (by decide)) (sk0 hq) rfl rfl (by decide) rfl rfl (Nat.le_of_ble_eq_true rfl) 105 rfl ?_
    refine Viadd dX4_performAlone_105 106 rfl ?_
    refine Vgen ?_
    intro u4 eu4
    refine VcVv (u := u4) dX4_performAlone_106 [.int x2, .int ((f_X4_held σ q x3) + (f_X4_held σ q x4))] (by rw [eu4]; exact c_X4_keep l hF σ q x2 ((f_X4_held σ q x3) + (f_X4_held σ q x4)) hq) mw_X4_keep wd_im_yX4_keep wd_se_yX4_keep wd_ml_RX4_73 (sI_ hF hq 0 (by decide)) (sk0 hq) rfl rfl (by decide) rfl rfl (Nat.le_of_ble_eq_true rfl) 109 rfl ?_
    refine Viconst dX4_performAlone_109 (0 : Int32) (by decide) 110 rfl ?_
    exact Viret dX4_performAlone_110
  refine Vif (fun v => v) (fun h5 => ?_) (fun h5 => ?_)
  · refine Vswin dX4_performAlone_1 111 (by rw [h5]; decide) (by rw [h5]; decide) (off := 110) (by rw [h5]; rfl) (by decide) ?_
    refine Vaload_n dX4_performAlone_111 0 rfl 112 rfl ?_
    refine Vload_n dX4_performAlone_112 2 rfl 113 rfl ?_
    refine Vaload_n dX4_performAlone_113 0 rfl 114 rfl ?_
    refine Vload_n dX4_performAlone_114 3 rfl 115 rfl ?_
    refine VcVp dX4_performAlone_115 [.int x3] (c_X4_held l hF σ q x3 hq) mw_X4_held wd_im_yX4_held wd_se_yX4_held wd_ml_RX4_77 (sI_ hF hq 0 (by decide)) (sk0 hq) rfl rfl (by decide) rfl rfl (Nat.le_of_ble_eq_true rfl) 118 rfl ?_
    refine Vaload_n dX4_performAlone_118 0 rfl 119 rfl ?_
    refine Vload dX4_performAlone_119 4 rfl 121 rfl ?_
    refine VcVp dX4_performAlone_121 [.int x4] (c_X4_held l hF σ q x4 hq) mw_X4_held wd_im_yX4_held wd_se_yX4_held wd_ml_RX4_77 (sI_ hF hq 0 (by decide)) (sk0 hq) rfl rfl (by decide) rfl rfl (Nat.le_of_ble_eq_true rfl) 124 rfl ?_
    refine Visub dX4_performAlone_124 125 rfl ?_
    refine Vgen ?_
    intro u6 eu6
    refine VcVv (u := u6) dX4_performAlone_125 [.int x2, .int ((f_X4_held σ q x3) - (f_X4_held σ q x4))] (by rw [eu6]; exact c_X4_keep l hF σ q x2 ((f_X4_held σ q x3) - (f_X4_held σ q x4)) hq) mw_X4_keep wd_im_yX4_keep wd_se_yX4_keep wd_ml_RX4_73 (sI_ hF hq 0 (by decide)) (sk0 hq) rfl rfl (by decide) rfl rfl (Nat.le_of_ble_eq_true rfl) 128 rfl ?_
    refine Viconst dX4_performAlone_128 (0 : Int32) (by decide) 129 rfl ?_
    exact Viret dX4_performAlone_129
  refine Vif (fun v => v) (fun h7 => ?_) (fun h7 => ?_)
  · refine Vswin dX4_performAlone_1 130 (by rw [h7]; decide) (by rw [h7]; decide) (off := 129) (by rw [h7]; rfl) (by decide) ?_
    refine Vaload_n dX4_performAlone_130 0 rfl 131 rfl ?_
    refine Vload_n dX4_performAlone_131 2 rfl 132 rfl ?_
    refine Vaload_n dX4_performAlone_132 0 rfl 133 rfl ?_
    refine Vload_n dX4_performAlone_133 3 rfl 134 rfl ?_
    refine VcVp dX4_performAlone_134 [.int x3] (c_X4_held l hF σ q x3 hq) mw_X4_held wd_im_yX4_held wd_se_yX4_held wd_ml_RX4_77 (sI_ hF hq 0 (by decide)) (sk0 hq) rfl rfl (by decide) rfl rfl (Nat.le_of_ble_eq_true rfl) 137 rfl ?_
    refine Vaload_n dX4_performAlone_137 0 rfl 138 rfl ?_
    refine Vload dX4_performAlone_138 4 rfl 140 rfl ?_
    refine VcVp dX4_performAlone_140 [.int x4] (c_X4_held l hF σ q x4 hq) mw_X4_held wd_im_yX4_held wd_se_yX4_held wd_ml_RX4_77 (sI_ hF hq 0 (by decide)) (sk0 hq) rfl rfl (by decide) rfl rfl (Nat.le_of_ble_eq_true rfl) 143 rfl ?_
    refine Vimul dX4_performAlone_143 144 rfl ?_
    refine Vgen ?_
    intro u8 eu8
    refine VcVv (u := u8) dX4_performAlone_144 [.int x2, .int ((f_X4_held σ q x3) * (f_X4_held σ q x4))] (by rw [eu8]; exact c_X4_keep l hF σ q x2 ((f_X4_held σ q x3) * (f_X4_held σ q x4)) hq) mw_X4_keep wd_im_yX4_keep wd_se_yX4_keep wd_ml_RX4_73 (sI_ hF hq 0 (by decide)) (sk0 hq) rfl rfl (by decide) rfl rfl (Nat.le_of_ble_eq_true rfl) 147 rfl ?_
    refine Viconst dX4_performAlone_147 (0 : Int32) (by decide) 148 rfl ?_
    exact Viret dX4_performAlone_148
  refine Vif (fun v => v) (fun h9 => ?_) (fun h9 => ?_)
  · refine Vswin dX4_performAlone_1 149 (by rw [h9]; decide) (by rw [h9]; decide) (off := 148) (by rw [h9]; rfl) (by decide) ?_
    refine Vaload_n dX4_performAlone_149 0 rfl 150 rfl ?_
    refine Vload_n dX4_performAlone_150 2 rfl 151 rfl ?_
    refine Vaload_n dX4_performAlone_151 0 rfl 152 rfl ?_
    refine Vload_n dX4_performAlone_152 3 rfl 153 rfl ?_
    refine VcVp dX4_performAlone_153 [.int x3] (c_X4_held l hF σ q x3 hq) mw_X4_held wd_im_yX4_held wd_se_yX4_held wd_ml_RX4_77 (sI_ hF hq 0 (by decide)) (sk0 hq) rfl rfl (by decide) rfl rfl (Nat.le_of_ble_eq_true rfl) 156 rfl ?_
    refine Vaload_n dX4_performAlone_156 0 rfl 157 rfl ?_
    refine Vload dX4_performAlone_157 4 rfl 159 rfl ?_
    refine VcVp dX4_performAlone_159 [.int x4] (c_X4_held l hF σ q x4 hq) mw_X4_held wd_im_yX4_held wd_se_yX4_held wd_ml_RX4_77 (sI_ hF hq 0 (by decide)) (sk0 hq) rfl rfl (by decide) rfl rfl (Nat.le_of_ble_eq_true rfl) 162 rfl ?_
    refine Vgen ?_
    intro u10 eu10
    refine VcVi (u := u10) dX4_performAlone_162 [.int x2, .int (f_X4_held σ q x3), .int (f_X4_held σ q x4)] (by rw [eu10]; exact c_X4_divide l hF σ q x2 (f_X4_held σ q x3) (f_X4_held σ q x4) hq) mw_X4_divide wd_im_yX4_divide wd_se_yX4_divide wd_ml_RX4_81 (sI_ hF hq 0 (by decide)) (sk0 hq) rfl rfl (by decide) rfl rfl (Nat.le_of_ble_eq_true rfl) 165 rfl ?_
    exact Viret dX4_performAlone_165
  refine Vif (fun v => v) (fun h11 => ?_) (fun h11 => ?_)
  · refine Vswin dX4_performAlone_1 166 (by rw [h11]; decide) (by rw [h11]; decide) (off := 165) (by rw [h11]; rfl) (by decide) ?_
    refine Vaload_n dX4_performAlone_166 0 rfl 167 rfl ?_
    refine Vload_n dX4_performAlone_167 2 rfl 168 rfl ?_
    refine Vput (q) 11 tyX4 dX4_performAlone_168 171 rfl (sI_ hF hq 0 (by decide)) (sk0 hq) rfl inX4 tyX4_ok nmX4 (by decide) wd_fl_RX4_85 rfl (ty := .int) (by decide +kernel) rfl rfl (fun f => rfl) (fun f => Nat.le_of_ble_eq_true rfl) ?_
    refine Viconst dX4_performAlone_171 (0 : Int32) (by decide) 172 rfl ?_
    exact Viret dX4_performAlone_172
  refine Vif (fun v => v) (fun h12 => ?_) (fun h12 => ?_)
  · refine Vswin dX4_performAlone_1 173 (by rw [h12]; decide) (by rw [h12]; decide) (off := 172) (by rw [h12]; rfl) (by decide) ?_
    refine Vaload_n dX4_performAlone_173 0 rfl 174 rfl ?_
    refine Vaload_n dX4_performAlone_174 0 rfl 175 rfl ?_
    refine Vload_n dX4_performAlone_175 2 rfl 176 rfl ?_
    refine VcVp dX4_performAlone_176 [.int x2] (c_X4_held l hF σ q x2 hq) mw_X4_held wd_im_yX4_held wd_se_yX4_held wd_ml_RX4_77 (sI_ hF hq 0 (by decide)) (sk0 hq) rfl rfl (by decide) rfl rfl (Nat.le_of_ble_eq_true rfl) 179 rfl ?_
    refine Vifne (fun v => v) dX4_performAlone_179 186 182 (by decide) rfl (fun h13 => ?_) (fun h13 => ?_)
    · refine Vaload_n dX4_performAlone_186 0 rfl 187 rfl ?_
      refine Vget (q) 11 dX4_performAlone_187 190 rfl (sI_ hF hq 0 (by decide)) (sk0 hq) rfl inX4 (by decide) wd_fl_RX4_85 (v := .int (σ q 11)) rfl ?_
      refine Vput (q) 11 tyX4 dX4_performAlone_190 193 rfl (sI_ hF hq 0 (by decide)) (sk0 hq) rfl inX4 tyX4_ok nmX4 (by decide) wd_fl_RX4_85 rfl (ty := .int) (by decide +kernel) rfl rfl (fun f => rfl) (fun f => Nat.le_of_ble_eq_true rfl) ?_
      refine Viconst dX4_performAlone_193 (0 : Int32) (by decide) 194 rfl ?_
      exact Viret dX4_performAlone_194
    · refine Vload_n dX4_performAlone_182 3 rfl 183 rfl ?_
      refine Vgoto dX4_performAlone_183 190 (by decide) ?_
      refine Vput (q) 11 tyX4 dX4_performAlone_190 193 rfl (sI_ hF hq 0 (by decide)) (sk0 hq) rfl inX4 tyX4_ok nmX4 (by decide) wd_fl_RX4_85 rfl (ty := .int) (by decide +kernel) rfl rfl (fun f => rfl) (fun f => Nat.le_of_ble_eq_true rfl) ?_
      refine Viconst dX4_performAlone_193 (0 : Int32) (by decide) 194 rfl ?_
      exact Viret dX4_performAlone_194
  refine Vif (fun v => v) (fun h14 => ?_) (fun h14 => ?_)
  · refine Vswin dX4_performAlone_1 195 (by rw [h14]; decide) (by rw [h14]; decide) (off := 194) (by rw [h14]; rfl) (by decide) ?_
    refine Vaload_n dX4_performAlone_195 0 rfl 196 rfl ?_
    refine Vgen ?_
    intro u15 eu15
    refine VcVi (u := u15) dX4_performAlone_196 [] (by rw [eu15]; exact c_X4_beginAtom l hF σ q hq) mw_X4_beginAtom wd_im_yX4_beginAtom wd_se_yX4_beginAtom wd_ml_RX4_88 (sI_ hF hq 0 (by decide)) (sk0 hq) rfl rfl (by decide) rfl rfl (Nat.le_of_ble_eq_true rfl) 199 rfl ?_
    exact Viret dX4_performAlone_199
  refine Vif (fun v => v) (fun h16 => ?_) (fun h16 => ?_)
  · refine Vswin dX4_performAlone_1 200 (by rw [h16]; decide) (by rw [h16]; decide) (off := 199) (by rw [h16]; rfl) (by decide) ?_
    refine Vaload_n dX4_performAlone_200 0 rfl 201 rfl ?_
    refine Vload_n dX4_performAlone_201 2 rfl 202 rfl ?_
    refine Vgen ?_
    intro u17 eu17
    refine VcVi (u := u17) dX4_performAlone_202 [.int x2] (by rw [eu17]; exact c_X4_openTry l hF σ q x2 hq) mw_X4_openTry wd_im_yX4_openTry wd_se_yX4_openTry wd_ml_RX4_92 (sI_ hF hq 0 (by decide)) (sk0 hq) rfl rfl (by decide) rfl rfl (Nat.le_of_ble_eq_true rfl) 205 rfl ?_
    exact Viret dX4_performAlone_205
  refine Vif (fun v => v) (fun h18 => ?_) (fun h18 => ?_)
  · refine Vswin dX4_performAlone_1 206 (by rw [h18]; decide) (by rw [h18]; decide) (off := 205) (by rw [h18]; rfl) (by decide) ?_
    refine Vaload_n dX4_performAlone_206 0 rfl 207 rfl ?_
    refine Vgen ?_
    intro u19 eu19
    refine VcVi (u := u19) dX4_performAlone_207 [] (by rw [eu19]; exact c_X4_closeTry l hF σ q hq) mw_X4_closeTry wd_im_yX4_closeTry wd_se_yX4_closeTry wd_ml_RX4_95 (sI_ hF hq 0 (by decide)) (sk0 hq) rfl rfl (by decide) rfl rfl (Nat.le_of_ble_eq_true rfl) 210 rfl ?_
    exact Viret dX4_performAlone_210
  refine Vif (fun v => v) (fun h20 => ?_) (fun h20 => ?_)
  · refine Vswin dX4_performAlone_1 211 (by rw [h20]; decide) (by rw [h20]; decide) (off := 210) (by rw [h20]; rfl) (by decide) ?_
    refine Vbipush dX4_performAlone_211 (10 : Int32) (by decide) 213 rfl ?_
    refine Vaload_n dX4_performAlone_213 0 rfl 214 rfl ?_
    refine Vload_n dX4_performAlone_214 2 rfl 215 rfl ?_
    refine VcVp dX4_performAlone_215 [.int x2] (c_X4_held l hF σ q x2 hq) mw_X4_held wd_im_yX4_held wd_se_yX4_held wd_ml_RX4_77 (sI_ hF hq 0 (by decide)) (sk0 hq) rfl rfl (by decide) rfl rfl (Nat.le_of_ble_eq_true rfl) 218 rfl ?_
    refine Vbipush dX4_performAlone_218 (7 : Int32) (by decide) 220 rfl ?_
    refine Viand dX4_performAlone_220 221 rfl ?_
    refine Viadd dX4_performAlone_221 222 rfl ?_
    exact Viret dX4_performAlone_222
  have w21 : V l G X RX4 cX4_performAlone 5 3 (some .int) κI ((fun v => v) ((0 : Int32), σ)) σ 223 [(0, .ref (ad G q)), (1, .int x1), (2, .int x2), (3, .int x3), (4, .int x4)] [] := by
    refine Viconst dX4_performAlone_223 (0 : Int32) (by decide) 224 rfl ?_
    exact Viret dX4_performAlone_224
  by_cases o22 : x1 = (1 : Int32)
  · exact Vswin dX4_performAlone_1 223 (by rw [o22]; decide) (by rw [o22]; decide) (off := 222) (by rw [o22]; rfl) (by decide) w21
  by_cases o23 : x1 = (2 : Int32)
  · exact Vswin dX4_performAlone_1 223 (by rw [o23]; decide) (by rw [o23]; decide) (off := 222) (by rw [o23]; rfl) (by decide) w21
  by_cases o24 : x1 = (7 : Int32)
  · exact Vswin dX4_performAlone_1 223 (by rw [o24]; decide) (by rw [o24]; decide) (off := 222) (by rw [o24]; rfl) (by decide) w21
  by_cases o25 : x1 = (8 : Int32)
  · exact Vswin dX4_performAlone_1 223 (by rw [o25]; decide) (by rw [o25]; decide) (off := 222) (by rw [o25]; rfl) (by decide) w21
  by_cases o26 : x1 = (9 : Int32)
  · exact Vswin dX4_performAlone_1 223 (by rw [o26]; decide) (by rw [o26]; decide) (off := 222) (by rw [o26]; rfl) (by decide) w21
  by_cases o27 : x1 = (13 : Int32)
  · exact Vswin dX4_performAlone_1 223 (by rw [o27]; decide) (by rw [o27]; decide) (off := 222) (by rw [o27]; rfl) (by decide) w21
  exact Vswout dX4_performAlone_1 (by have eh1 := lv_neT (a := 0) h1 (by decide); have eh3 := lv_neT (a := 3) h3 (by decide); have eh5 := lv_neT (a := 4) h5 (by decide); have eh7 := lv_neT (a := 5) h7 (by decide); have eh9 := lv_neT (a := 6) h9 (by decide); have eh11 := lv_neT (a := 10) h11 (by decide); have eh12 := lv_neT (a := 11) h12 (by decide); have eh14 := lv_neT (a := 12) h14 (by decide); have eh16 := lv_neT (a := 14) h16 (by decide); have eh18 := lv_neT (a := 15) h18 (by decide); have eh20 := lv_neT (a := 16) h20 (by decide); have eo22 := lv_neT (a := 1) o22 (by decide); have eo23 := lv_neT (a := 2) o23 (by decide); have eo24 := lv_neT (a := 7) o24 (by decide); have eo25 := lv_neT (a := 8) o25 (by decide); have eo26 := lv_neT (a := 9) o26 (by decide); have eo27 := lv_neT (a := 13) o27 (by decide); omega) (tgt := 223) (by decide) w21
def f_X4_beginAnew (σ : mS) (q : Nat) : Int32 × mS := (ap (fun u1 => (0, u1.2)) (f_X0_forget (cp2 (st2 (st2 σ q 14 ((σ q 14) + (1 : Int32))) q 11 (σ (q + 7) 1)) (q + 8) (q + 5) 4) (q + 7)))
theorem mw_X4_beginAnew : mW yX4_beginAnew cX4_beginAnew 1 none 0 := ⟨wd_co_yX4_beginAnew, wd_ini_RX4, ⟨by decide, by decide⟩, by decide +kernel, by decide⟩
set_option maxRecDepth 100000 in
set_option maxHeartbeats 4000000 in
theorem c_X4_beginAnew (l : Launch) {G : gT} (hF : Full G) (σ : mS) (q : Nat) (hq : sQ q) : Ct l G yX4_beginAnew cX4_beginAnew 1 none 1 [.ref (ad G q)] κV σ (f_X4_beginAnew σ q) := by
  refine Ct.ofV [(0, .ref (ad G q))] rfl (by decide) (Nat.le_of_ble_eq_true rfl) rfl (fun X => ?_)
  unfold f_X4_beginAnew
  refine Vaload_n dX4_beginAnew_0 0 rfl 1 rfl ?_
  refine Vdupa dX4_beginAnew_1 2 rfl ?_
  refine Vget (q) 14 dX4_beginAnew_2 5 rfl (sI_ hF hq 0 (by decide)) (sk0 hq) rfl inX4 (by decide) wd_fl_RX4_66 (v := .int (σ q 14)) rfl ?_
  refine Viconst dX4_beginAnew_5 (1 : Int32) (by decide) 6 rfl ?_
  refine Viadd dX4_beginAnew_6 7 rfl ?_
  refine Vput (q) 14 tyX4 dX4_beginAnew_7 10 rfl (sI_ hF hq 0 (by decide)) (sk0 hq) rfl inX4 tyX4_ok nmX4 (by decide) wd_fl_RX4_66 rfl (ty := .int) (by decide +kernel) rfl rfl (fun f => rfl) (fun f => Nat.le_of_ble_eq_true rfl) ?_
  refine Vaload_n dX4_beginAnew_10 0 rfl 11 rfl ?_
  refine Vaload_n dX4_beginAnew_11 0 rfl 12 rfl ?_
  refine Vget (q) 9 dX4_beginAnew_12 15 rfl (sI_ hF hq 0 (by decide)) (sk0 hq) rfl inX4 (by decide) wd_fl_RX4_33 (v := .ref (ad G (q + 7))) rfl ?_
  refine VgetN (q + 7) 1 dX4_beginAnew_15 18 rfl (sI_ hF hq 7 (by decide)) (sk7 hq) rfl inX0 (by decide) wd_nfl_RX4_101 (v := .int (σ (q + 7) 1)) (by simp [oV, st2]) ?_
  refine Vput (q) 11 tyX4 dX4_beginAnew_18 21 rfl (sI_ hF hq 0 (by decide)) (sk0 hq) rfl inX4 tyX4_ok nmX4 (by decide) wd_fl_RX4_85 rfl (ty := .int) (by decide +kernel) rfl rfl (fun f => rfl) (fun f => Nat.le_of_ble_eq_true rfl) ?_
  refine Vaload_n dX4_beginAnew_21 0 rfl 22 rfl ?_
  refine Vget (q) 9 dX4_beginAnew_22 25 rfl (sI_ hF hq 0 (by decide)) (sk0 hq) rfl inX4 (by decide) wd_fl_RX4_33 (v := .ref (ad G (q + 7))) rfl ?_
  refine VgetN (q + 7) 3 dX4_beginAnew_25 28 rfl (sI_ hF hq 7 (by decide)) (sk7 hq) rfl inX0 (by decide) wd_nfl_RX4_104 (v := .ref (ad G (q + 8))) rfl ?_
  refine Viconst dX4_beginAnew_28 (0 : Int32) (by decide) 29 rfl ?_
  refine Vaload_n dX4_beginAnew_29 0 rfl 30 rfl ?_
  refine Vget (q) 6 dX4_beginAnew_30 33 rfl (sI_ hF hq 0 (by decide)) (sk0 hq) rfl inX4 (by decide) wd_fl_RX4_24 (v := .ref (ad G (q + 5))) rfl ?_
  refine Viconst dX4_beginAnew_33 (0 : Int32) (by decide) 34 rfl ?_
  refine Viconst dX4_beginAnew_34 (4 : Int32) (by decide) 35 rfl ?_
  refine Vcopy dX4_beginAnew_35 38 rfl wd_ml_RX4_105 (sI_ hF hq 8 (by decide)) (sk8 hq) (sn8 hq) (sI_ hF hq 5 (by decide)) (sk5 hq) (sn5 hq) hF.2.1 (by decide) (by decide) (by decide) rfl ?_
  refine Vaload_n dX4_beginAnew_38 0 rfl 39 rfl ?_
  refine Vget (q) 9 dX4_beginAnew_39 42 rfl (sI_ hF hq 0 (by decide)) (sk0 hq) rfl inX4 (by decide) wd_fl_RX4_33 (v := .ref (ad G (q + 7))) rfl ?_
  refine Vgen ?_
  intro u1 eu1
  refine VcVv (u := u1) dX4_beginAnew_42 [] (by rw [eu1]; exact c_X0_forget l hF (cp2 (st2 (st2 σ q 14 ((σ q 14) + (1 : Int32))) q 11 (σ (q + 7) 1)) (q + 8) (q + 5) 4) (q + 7) (sA hq)) mw_X0_forget wd_im_yX0_forget wd_se_yX0_forget wd_ml_RX4_111 (sI_ hF hq 7 (by decide)) (sk7 hq) rfl rfl (by decide) rfl rfl (Nat.le_of_ble_eq_true rfl) 45 rfl ?_
  exact Vvret dX4_beginAnew_45
def f_X4_fail (σ : mS) (q : Nat) (x1 : Int32) : Int32 × mS := (if (σ q 8) ≤ 0 then (0, (st2 (st2 σ q 12 x1) (q + 7) 0 (0 : Int32))) else (if (σ q 8) ≤ (4 : Int32) then (if (σ (q + 7) 2) ≤ ((σ q 8) - (1 : Int32)) then (ap (fun u4 => (0, (st2 u4.2 q 10 (u4.2 (q + 6) (u4.2 q 8).toNatClampNeg)))) (f_X4_keep (st2 σ q 8 ((σ q 8) - (1 : Int32))) q (0 : Int32) x1)) else (ap (fun u5 => (0, (st2 u5.2 q 10 (u5.2 (q + 6) (u5.2 q 8).toNatClampNeg)))) (f_X4_keep (st2 (st2 σ q 8 ((σ q 8) - (1 : Int32))) (q + 7) 0 (0 : Int32)) q (0 : Int32) x1))) else (0, (st2 (st2 σ q 12 x1) (q + 7) 0 (0 : Int32)))))
theorem mw_X4_fail : mW yX4_fail cX4_fail 2 none 1 := ⟨wd_co_yX4_fail, wd_ini_RX4, ⟨by decide, by decide⟩, by decide +kernel, by decide⟩
set_option maxRecDepth 100000 in
set_option maxHeartbeats 4000000 in
theorem c_X4_fail (l : Launch) {G : gT} (hF : Full G) (σ : mS) (q : Nat) (x1 : Int32) (hq : sQ q) : Ct l G yX4_fail cX4_fail 2 none 2 [.ref (ad G q), .int x1] κV σ (f_X4_fail σ q x1) := by
  refine Ct.ofV [(0, .ref (ad G q)), (1, .int x1)] rfl (by decide) (Nat.le_of_ble_eq_true rfl) rfl (fun X => ?_)
  unfold f_X4_fail
  refine Vaload_n dX4_fail_0 0 rfl 1 rfl ?_
  refine Vget (q) 8 dX4_fail_1 4 rfl (sI_ hF hq 0 (by decide)) (sk0 hq) rfl inX4 (by decide) wd_fl_RX4_50 (v := .int (σ q 8)) rfl ?_
  refine Vifle (fun v => v) dX4_fail_4 15 7 (by decide) rfl (fun h1 => ?_) (fun h1 => ?_)
  · refine Vaload_n dX4_fail_15 0 rfl 16 rfl ?_
    refine Vload_n dX4_fail_16 1 rfl 17 rfl ?_
    refine Vput (q) 12 tyX4 dX4_fail_17 20 rfl (sI_ hF hq 0 (by decide)) (sk0 hq) rfl inX4 tyX4_ok nmX4 (by decide) wd_fl_RX4_60 rfl (ty := .int) (by decide +kernel) rfl rfl (fun f => rfl) (fun f => Nat.le_of_ble_eq_true rfl) ?_
    refine Vaload_n dX4_fail_20 0 rfl 21 rfl ?_
    refine Vget (q) 9 dX4_fail_21 24 rfl (sI_ hF hq 0 (by decide)) (sk0 hq) rfl inX4 (by decide) wd_fl_RX4_33 (v := .ref (ad G (q + 7))) rfl ?_
    refine Viconst dX4_fail_24 (0 : Int32) (by decide) 25 rfl ?_
    refine VputN (q + 7) 0 tyX0 dX4_fail_25 28 rfl (sI_ hF hq 7 (by decide)) (sk7 hq) rfl inX0 tyX0_ok nmX0 (by decide) wd_nfl_RX4_53 rfl (ty := .boolean) (by decide +kernel) (by decide) (by decide) (fun f => rfl) (fun f => Nat.le_of_ble_eq_true rfl) ?_
    exact Vvret dX4_fail_28
  · refine Vaload_n dX4_fail_7 0 rfl 8 rfl ?_
    refine Vget (q) 8 dX4_fail_8 11 rfl (sI_ hF hq 0 (by decide)) (sk0 hq) rfl inX4 (by decide) wd_fl_RX4_50 (v := .int (σ q 8)) rfl ?_
    refine Viconst dX4_fail_11 (4 : Int32) (by decide) 12 rfl ?_
    refine Vicle (fun v => v) dX4_fail_12 29 15 (by decide) rfl (fun h2 => ?_) (fun h2 => ?_)
    · refine Vaload_n dX4_fail_29 0 rfl 30 rfl ?_
      refine Vdupa dX4_fail_30 31 rfl ?_
      refine Vget (q) 8 dX4_fail_31 34 rfl (sI_ hF hq 0 (by decide)) (sk0 hq) rfl inX4 (by decide) wd_fl_RX4_50 (v := .int (σ q 8)) rfl ?_
      refine Viconst dX4_fail_34 (1 : Int32) (by decide) 35 rfl ?_
      refine Visub dX4_fail_35 36 rfl ?_
      refine Vput (q) 8 tyX4 dX4_fail_36 39 rfl (sI_ hF hq 0 (by decide)) (sk0 hq) rfl inX4 tyX4_ok nmX4 (by decide) wd_fl_RX4_50 rfl (ty := .int) (by decide +kernel) rfl rfl (fun f => rfl) (fun f => Nat.le_of_ble_eq_true rfl) ?_
      refine Vaload_n dX4_fail_39 0 rfl 40 rfl ?_
      refine Vget (q) 8 dX4_fail_40 43 rfl (sI_ hF hq 0 (by decide)) (sk0 hq) rfl inX4 (by decide) wd_fl_RX4_50 (v := .int ((σ q 8) - (1 : Int32))) (by simp [oV, st2]) ?_
      refine Vaload_n dX4_fail_43 0 rfl 44 rfl ?_
      refine Vget (q) 9 dX4_fail_44 47 rfl (sI_ hF hq 0 (by decide)) (sk0 hq) rfl inX4 (by decide) wd_fl_RX4_33 (v := .ref (ad G (q + 7))) rfl ?_
      refine VgetN (q + 7) 2 dX4_fail_47 50 rfl (sI_ hF hq 7 (by decide)) (sk7 hq) rfl inX0 (by decide) wd_nfl_RX4_98 (v := .int (σ (q + 7) 2)) (by simp [oV, st2]) ?_
      refine Vicge (fun v => v) dX4_fail_50 61 53 (by decide) rfl (fun h3 => ?_) (fun h3 => ?_)
      · refine Vaload_n dX4_fail_61 0 rfl 62 rfl ?_
        refine Viconst dX4_fail_62 (0 : Int32) (by decide) 63 rfl ?_
        refine Vload_n dX4_fail_63 1 rfl 64 rfl ?_
        refine Vgen ?_
        intro u4 eu4
        refine VcVv (u := u4) dX4_fail_64 [.int (0 : Int32), .int x1] (by rw [eu4]; exact c_X4_keep l hF (st2 σ q 8 ((σ q 8) - (1 : Int32))) q (0 : Int32) x1 hq) mw_X4_keep wd_im_yX4_keep wd_se_yX4_keep wd_ml_RX4_73 (sI_ hF hq 0 (by decide)) (sk0 hq) rfl rfl (by decide) rfl rfl (Nat.le_of_ble_eq_true rfl) 67 rfl ?_
        have hk8 : u4.2 q 8 = σ q 8 - 1 := by rw [eu4, keep_q8]; simp [st2]
        refine Vaload_n dX4_fail_67 0 rfl 68 rfl ?_
        refine Vaload_n dX4_fail_68 0 rfl 69 rfl ?_
        refine Vget (q) 7 dX4_fail_69 72 rfl (sI_ hF hq 0 (by decide)) (sk0 hq) rfl inX4 (by decide) wd_fl_RX4_27 (v := .ref (ad G (q + 6))) rfl ?_
        refine Vaload_n dX4_fail_72 0 rfl 73 rfl ?_
        refine Vget (q) 8 dX4_fail_73 76 rfl (sI_ hF hq 0 (by decide)) (sk0 hq) rfl inX4 (by decide) wd_fl_RX4_50 (v := .int (u4.2 q 8)) rfl ?_
        refine Vld dX4_fail_76 77 rfl (sI_ hF hq 6 (by decide)) (sk6 hq) (sn6 hq) hF.2.1 (by rw [hk8]; exact trys_in (by assumption) (by assumption)) ?_
        refine Vput (q) 10 tyX4 dX4_fail_77 80 rfl (sI_ hF hq 0 (by decide)) (sk0 hq) rfl inX4 tyX4_ok nmX4 (by decide) wd_fl_RX4_57 rfl (ty := .int) (by decide +kernel) rfl rfl (fun f => rfl) (fun f => Nat.le_of_ble_eq_true rfl) ?_
        exact Vvret dX4_fail_80
      · refine Vaload_n dX4_fail_53 0 rfl 54 rfl ?_
        refine Vget (q) 9 dX4_fail_54 57 rfl (sI_ hF hq 0 (by decide)) (sk0 hq) rfl inX4 (by decide) wd_fl_RX4_33 (v := .ref (ad G (q + 7))) rfl ?_
        refine Viconst dX4_fail_57 (0 : Int32) (by decide) 58 rfl ?_
        refine VputN (q + 7) 0 tyX0 dX4_fail_58 61 rfl (sI_ hF hq 7 (by decide)) (sk7 hq) rfl inX0 tyX0_ok nmX0 (by decide) wd_nfl_RX4_53 rfl (ty := .boolean) (by decide +kernel) (by decide) (by decide) (fun f => rfl) (fun f => Nat.le_of_ble_eq_true rfl) ?_
        refine Vaload_n dX4_fail_61 0 rfl 62 rfl ?_
        refine Viconst dX4_fail_62 (0 : Int32) (by decide) 63 rfl ?_
        refine Vload_n dX4_fail_63 1 rfl 64 rfl ?_
        refine Vgen ?_
        intro u5 eu5
        refine VcVv (u := u5) dX4_fail_64 [.int (0 : Int32), .int x1] (by rw [eu5]; exact c_X4_keep l hF (st2 (st2 σ q 8 ((σ q 8) - (1 : Int32))) (q + 7) 0 (0 : Int32)) q (0 : Int32) x1 hq) mw_X4_keep wd_im_yX4_keep wd_se_yX4_keep wd_ml_RX4_73 (sI_ hF hq 0 (by decide)) (sk0 hq) rfl rfl (by decide) rfl rfl (Nat.le_of_ble_eq_true rfl) 67 rfl ?_
        have hk8 : u5.2 q 8 = σ q 8 - 1 := by rw [eu5, keep_q8]; simp [st2]
        refine Vaload_n dX4_fail_67 0 rfl 68 rfl ?_
        refine Vaload_n dX4_fail_68 0 rfl 69 rfl ?_
        refine Vget (q) 7 dX4_fail_69 72 rfl (sI_ hF hq 0 (by decide)) (sk0 hq) rfl inX4 (by decide) wd_fl_RX4_27 (v := .ref (ad G (q + 6))) rfl ?_
        refine Vaload_n dX4_fail_72 0 rfl 73 rfl ?_
        refine Vget (q) 8 dX4_fail_73 76 rfl (sI_ hF hq 0 (by decide)) (sk0 hq) rfl inX4 (by decide) wd_fl_RX4_50 (v := .int (u5.2 q 8)) rfl ?_
        refine Vld dX4_fail_76 77 rfl (sI_ hF hq 6 (by decide)) (sk6 hq) (sn6 hq) hF.2.1 (by rw [hk8]; exact trys_in (by assumption) (by assumption)) ?_
        refine Vput (q) 10 tyX4 dX4_fail_77 80 rfl (sI_ hF hq 0 (by decide)) (sk0 hq) rfl inX4 tyX4_ok nmX4 (by decide) wd_fl_RX4_57 rfl (ty := .int) (by decide +kernel) rfl rfl (fun f => rfl) (fun f => Nat.le_of_ble_eq_true rfl) ?_
        exact Vvret dX4_fail_80
    · refine Vaload_n dX4_fail_15 0 rfl 16 rfl ?_
      refine Vload_n dX4_fail_16 1 rfl 17 rfl ?_
      refine Vput (q) 12 tyX4 dX4_fail_17 20 rfl (sI_ hF hq 0 (by decide)) (sk0 hq) rfl inX4 tyX4_ok nmX4 (by decide) wd_fl_RX4_60 rfl (ty := .int) (by decide +kernel) rfl rfl (fun f => rfl) (fun f => Nat.le_of_ble_eq_true rfl) ?_
      refine Vaload_n dX4_fail_20 0 rfl 21 rfl ?_
      refine Vget (q) 9 dX4_fail_21 24 rfl (sI_ hF hq 0 (by decide)) (sk0 hq) rfl inX4 (by decide) wd_fl_RX4_33 (v := .ref (ad G (q + 7))) rfl ?_
      refine Viconst dX4_fail_24 (0 : Int32) (by decide) 25 rfl ?_
      refine VputN (q + 7) 0 tyX0 dX4_fail_25 28 rfl (sI_ hF hq 7 (by decide)) (sk7 hq) rfl inX0 tyX0_ok nmX0 (by decide) wd_nfl_RX4_53 rfl (ty := .boolean) (by decide +kernel) (by decide) (by decide) (fun f => rfl) (fun f => Nat.le_of_ble_eq_true rfl) ?_
      exact Vvret dX4_fail_28
