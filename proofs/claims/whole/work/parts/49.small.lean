/-! the constructors of the small classes -/
theorem Neq {l : Launch} {G : gT} {X : xT} {own : String} {cc : ByteArray} {nL d mc ms : Nat} {w0 w w' : va_W} {B : va_W → Prop} {pc k n : Nat} {lv : List (Nat × Value)} {st : List Value} (hw : w = w') (kk : Nb l G X own cc nL d mc ms w0 B w' pc lv st k n) : Nb l G X own cc nL d mc ms w0 B w pc lv st k n := by
  subst hw; exact kk
def zS : mS := fun _ _ => 0
theorem mw_X0_init : mW yX0_init cX0_init 1 none 0 := ⟨wd_co_yX0_init, wd_ini_RX0, ⟨by decide, by decide⟩, by decide +kernel, by decide⟩
set_option maxRecDepth 100000 in
set_option maxHeartbeats 4000000 in
theorem c_X0_init (l : Launch) {G : gT} (hG : gOk G) (h : Nat) : Cb l G yX0_init cX0_init 1 1 5 36 [.ref h] [(h, .inr (0, [.int 0, .int 0, .int 0, .null, .null, .null, .null, .null]))] (fun w => ∃ a : Nat → Nat, a 21 = h ∧ w = wD (gW G a [21, 22, 23, 24, 25, 26]) zS) := by
  refine Cb.ofN [(0, .ref h)] rfl (by decide) rfl (Nat.le_of_ble_eq_true rfl) rfl (fun X => ?_)
  refine Naload_n dX0_init_0 0 rfl 1 rfl ?_
  refine NobjInit dX0_init_1 wd_ml_RX0_3 (by decide) 4 rfl ?_
  refine Naload_n dX0_init_4 0 rfl 5 rfl ?_
  refine Nconst dX0_init_5 (4 : Int32) (by decide) 6 rfl ?_
  refine Nnewi dX0_init_6 hG 8 rfl (by decide) (by decide) (by decide) (Nat.le_of_ble_eq_true rfl) (Nat.le_of_ble_eq_true rfl) (fun q22 => [(h, .inr (0, [.int 0, .int 0, .int 0, .null, .null, .null, .null, .null])), (q22, .inl ((gC G).1, 4, .inl (fun _ => 0)))]) (fun _ => rfl) (fun q22 => ?_)
  refine NputF 0 3 tyX0 dX0_init_8 rfl rfl inX0 tyX0_ok nmX0 (by decide) wd_fl_RX0_9 rfl rfl (tyX0_ok 3 (by decide)) rfl rfl (Nat.le_of_ble_eq_true rfl) 11 rfl ([(h, .inr (0, [.int 0, .int 0, .int 0, .ref q22, .null, .null, .null, .null])), (q22, .inl ((gC G).1, 4, .inl (fun _ => 0)))]) rfl ?_
  refine Naload_n dX0_init_11 0 rfl 12 rfl ?_
  refine Nbipush dX0_init_12 (8 : Int32) (by decide) 14 rfl ?_
  refine Nnewz dX0_init_14 hG 16 rfl (by decide) (by decide) (by decide) (Nat.le_of_ble_eq_true rfl) (Nat.le_of_ble_eq_true rfl) (fun q23 => [(h, .inr (0, [.int 0, .int 0, .int 0, .ref q22, .null, .null, .null, .null])), (q22, .inl ((gC G).1, 4, .inl (fun _ => 0))), (q23, .inl ((gC G).2.1, 8, .inl (fun _ => 0)))]) (fun _ => rfl) (fun q23 => ?_)
  refine NputF 0 4 tyX0 dX0_init_16 rfl rfl inX0 tyX0_ok nmX0 (by decide) wd_fl_RX0_15 rfl rfl (tyX0_ok 4 (by decide)) rfl rfl (Nat.le_of_ble_eq_true rfl) 19 rfl ([(h, .inr (0, [.int 0, .int 0, .int 0, .ref q22, .ref q23, .null, .null, .null])), (q22, .inl ((gC G).1, 4, .inl (fun _ => 0))), (q23, .inl ((gC G).2.1, 8, .inl (fun _ => 0)))]) rfl ?_
  refine Naload_n dX0_init_19 0 rfl 20 rfl ?_
  refine Nbipush dX0_init_20 (8 : Int32) (by decide) 22 rfl ?_
  refine Nnewi dX0_init_22 hG 24 rfl (by decide) (by decide) (by decide) (Nat.le_of_ble_eq_true rfl) (Nat.le_of_ble_eq_true rfl) (fun q24 => [(h, .inr (0, [.int 0, .int 0, .int 0, .ref q22, .ref q23, .null, .null, .null])), (q22, .inl ((gC G).1, 4, .inl (fun _ => 0))), (q23, .inl ((gC G).2.1, 8, .inl (fun _ => 0))), (q24, .inl ((gC G).1, 8, .inl (fun _ => 0)))]) (fun _ => rfl) (fun q24 => ?_)
  refine NputF 0 5 tyX0 dX0_init_24 rfl rfl inX0 tyX0_ok nmX0 (by decide) wd_fl_RX0_19 rfl rfl (tyX0_ok 5 (by decide)) rfl rfl (Nat.le_of_ble_eq_true rfl) 27 rfl ([(h, .inr (0, [.int 0, .int 0, .int 0, .ref q22, .ref q23, .ref q24, .null, .null])), (q22, .inl ((gC G).1, 4, .inl (fun _ => 0))), (q23, .inl ((gC G).2.1, 8, .inl (fun _ => 0))), (q24, .inl ((gC G).1, 8, .inl (fun _ => 0)))]) rfl ?_
  refine Naload_n dX0_init_27 0 rfl 28 rfl ?_
  refine Nbipush dX0_init_28 (8 : Int32) (by decide) 30 rfl ?_
  refine Nnewz dX0_init_30 hG 32 rfl (by decide) (by decide) (by decide) (Nat.le_of_ble_eq_true rfl) (Nat.le_of_ble_eq_true rfl) (fun q25 => [(h, .inr (0, [.int 0, .int 0, .int 0, .ref q22, .ref q23, .ref q24, .null, .null])), (q22, .inl ((gC G).1, 4, .inl (fun _ => 0))), (q23, .inl ((gC G).2.1, 8, .inl (fun _ => 0))), (q24, .inl ((gC G).1, 8, .inl (fun _ => 0))), (q25, .inl ((gC G).2.1, 8, .inl (fun _ => 0)))]) (fun _ => rfl) (fun q25 => ?_)
  refine NputF 0 6 tyX0 dX0_init_32 rfl rfl inX0 tyX0_ok nmX0 (by decide) wd_fl_RX0_22 rfl rfl (tyX0_ok 6 (by decide)) rfl rfl (Nat.le_of_ble_eq_true rfl) 35 rfl ([(h, .inr (0, [.int 0, .int 0, .int 0, .ref q22, .ref q23, .ref q24, .ref q25, .null])), (q22, .inl ((gC G).1, 4, .inl (fun _ => 0))), (q23, .inl ((gC G).2.1, 8, .inl (fun _ => 0))), (q24, .inl ((gC G).1, 8, .inl (fun _ => 0))), (q25, .inl ((gC G).2.1, 8, .inl (fun _ => 0)))]) rfl ?_
  refine Naload_n dX0_init_35 0 rfl 36 rfl ?_
  refine Nbipush dX0_init_36 (8 : Int32) (by decide) 38 rfl ?_
  refine Nnewi dX0_init_38 hG 40 rfl (by decide) (by decide) (by decide) (Nat.le_of_ble_eq_true rfl) (Nat.le_of_ble_eq_true rfl) (fun q26 => [(h, .inr (0, [.int 0, .int 0, .int 0, .ref q22, .ref q23, .ref q24, .ref q25, .null])), (q22, .inl ((gC G).1, 4, .inl (fun _ => 0))), (q23, .inl ((gC G).2.1, 8, .inl (fun _ => 0))), (q24, .inl ((gC G).1, 8, .inl (fun _ => 0))), (q25, .inl ((gC G).2.1, 8, .inl (fun _ => 0))), (q26, .inl ((gC G).1, 8, .inl (fun _ => 0)))]) (fun _ => rfl) (fun q26 => ?_)
  refine NputF 0 7 tyX0 dX0_init_40 rfl rfl inX0 tyX0_ok nmX0 (by decide) wd_fl_RX0_25 rfl rfl (tyX0_ok 7 (by decide)) rfl rfl (Nat.le_of_ble_eq_true rfl) 43 rfl ([(h, .inr (0, [.int 0, .int 0, .int 0, .ref q22, .ref q23, .ref q24, .ref q25, .ref q26])), (q22, .inl ((gC G).1, 4, .inl (fun _ => 0))), (q23, .inl ((gC G).2.1, 8, .inl (fun _ => 0))), (q24, .inl ((gC G).1, 8, .inl (fun _ => 0))), (q25, .inl ((gC G).2.1, 8, .inl (fun _ => 0))), (q26, .inl ((gC G).1, 8, .inl (fun _ => 0)))]) rfl ?_
  exact Nret dX0_init_43 ⟨(fun q => [h, q22, q23, q24, q25, q26].getD (q - 21) 0), rfl, rfl⟩ (Nat.le_of_ble_eq_true rfl) (Nat.le_of_ble_eq_true rfl)
theorem mw_X2_init : mW yX2_init cX2_init 1 none 0 := ⟨wd_co_yX2_init, wd_ini_RX2, ⟨by decide, by decide⟩, by decide +kernel, by decide⟩
set_option maxRecDepth 100000 in
set_option maxHeartbeats 4000000 in
theorem c_X2_init (l : Launch) {G : gT} (hG : gOk G) (h : Nat) : Cb l G yX2_init cX2_init 1 1 3 90 [.ref h] [(h, .inr (2, [.null, .null, .null, .int 0, .int 0]))] (fun w => ∃ a : Nat → Nat, a 5 = h ∧ w = wD (gW G a [5, 6, 7, 8]) zS) := by
  refine Cb.ofN [(0, .ref h)] rfl (by decide) rfl (Nat.le_of_ble_eq_true rfl) rfl (fun X => ?_)
  refine Naload_n dX2_init_0 0 rfl 1 rfl ?_
  refine NobjInit dX2_init_1 wd_ml_RX2_3 (by decide) 4 rfl ?_
  refine Naload_n dX2_init_4 0 rfl 5 rfl ?_
  refine Nbipush dX2_init_5 (30 : Int32) (by decide) 7 rfl ?_
  refine Nnewi dX2_init_7 hG 9 rfl (by decide) (by decide) (by decide) (Nat.le_of_ble_eq_true rfl) (Nat.le_of_ble_eq_true rfl) (fun q6 => [(h, .inr (2, [.null, .null, .null, .int 0, .int 0])), (q6, .inl ((gC G).1, 30, .inl (fun _ => 0)))]) (fun _ => rfl) (fun q6 => ?_)
  refine NputF 0 0 tyX2 dX2_init_9 rfl rfl inX2 tyX2_ok nmX2 (by decide) wd_fl_RX2_9 rfl rfl (tyX2_ok 0 (by decide)) rfl rfl (Nat.le_of_ble_eq_true rfl) 12 rfl ([(h, .inr (2, [.ref q6, .null, .null, .int 0, .int 0])), (q6, .inl ((gC G).1, 30, .inl (fun _ => 0)))]) rfl ?_
  refine Naload_n dX2_init_12 0 rfl 13 rfl ?_
  refine Nbipush dX2_init_13 (30 : Int32) (by decide) 15 rfl ?_
  refine Nnewi dX2_init_15 hG 17 rfl (by decide) (by decide) (by decide) (Nat.le_of_ble_eq_true rfl) (Nat.le_of_ble_eq_true rfl) (fun q7 => [(h, .inr (2, [.ref q6, .null, .null, .int 0, .int 0])), (q6, .inl ((gC G).1, 30, .inl (fun _ => 0))), (q7, .inl ((gC G).1, 30, .inl (fun _ => 0)))]) (fun _ => rfl) (fun q7 => ?_)
  refine NputF 0 1 tyX2 dX2_init_17 rfl rfl inX2 tyX2_ok nmX2 (by decide) wd_fl_RX2_15 rfl rfl (tyX2_ok 1 (by decide)) rfl rfl (Nat.le_of_ble_eq_true rfl) 20 rfl ([(h, .inr (2, [.ref q6, .ref q7, .null, .int 0, .int 0])), (q6, .inl ((gC G).1, 30, .inl (fun _ => 0))), (q7, .inl ((gC G).1, 30, .inl (fun _ => 0)))]) rfl ?_
  refine Naload_n dX2_init_20 0 rfl 21 rfl ?_
  refine Nbipush dX2_init_21 (30 : Int32) (by decide) 23 rfl ?_
  refine Nnewi dX2_init_23 hG 25 rfl (by decide) (by decide) (by decide) (Nat.le_of_ble_eq_true rfl) (Nat.le_of_ble_eq_true rfl) (fun q8 => [(h, .inr (2, [.ref q6, .ref q7, .null, .int 0, .int 0])), (q6, .inl ((gC G).1, 30, .inl (fun _ => 0))), (q7, .inl ((gC G).1, 30, .inl (fun _ => 0))), (q8, .inl ((gC G).1, 30, .inl (fun _ => 0)))]) (fun _ => rfl) (fun q8 => ?_)
  refine NputF 0 2 tyX2 dX2_init_25 rfl rfl inX2 tyX2_ok nmX2 (by decide) wd_fl_RX2_18 rfl rfl (tyX2_ok 2 (by decide)) rfl rfl (Nat.le_of_ble_eq_true rfl) 28 rfl ([(h, .inr (2, [.ref q6, .ref q7, .ref q8, .int 0, .int 0])), (q6, .inl ((gC G).1, 30, .inl (fun _ => 0))), (q7, .inl ((gC G).1, 30, .inl (fun _ => 0))), (q8, .inl ((gC G).1, 30, .inl (fun _ => 0)))]) rfl ?_
  exact Nret dX2_init_28 ⟨(fun q => [h, q6, q7, q8].getD (q - 5) 0), rfl, rfl⟩ (Nat.le_of_ble_eq_true rfl) (Nat.le_of_ble_eq_true rfl)
theorem mw_X3_init : mW yX3_init cX3_init 1 none 0 := ⟨wd_co_yX3_init, wd_ini_RX3, ⟨by decide, by decide⟩, by decide +kernel, by decide⟩
set_option maxRecDepth 100000 in
set_option maxHeartbeats 4000000 in
theorem c_X3_init (l : Launch) {G : gT} (hG : gOk G) (h : Nat) : Cb l G yX3_init cX3_init 1 2 3 40 [.ref h] [(h, .inr (3, [.null, .null, .null]))] (fun w => ∃ a : Nat → Nat, a 9 = h ∧ w = wD (gW G a [9, 10, 11, 12]) (f_X3_reset zS).2) := by
  refine Cb.ofN [(0, .ref h)] rfl (by decide) rfl (Nat.le_of_ble_eq_true rfl) rfl (fun X => ?_)
  refine Naload_n dX3_init_0 0 rfl 1 rfl ?_
  refine NobjInit dX3_init_1 wd_ml_RX3_3 (by decide) 4 rfl ?_
  refine Naload_n dX3_init_4 0 rfl 5 rfl ?_
  refine Nconst dX3_init_5 (4 : Int32) (by decide) 6 rfl ?_
  refine Nnewi dX3_init_6 hG 8 rfl (by decide) (by decide) (by decide) (Nat.le_of_ble_eq_true rfl) (Nat.le_of_ble_eq_true rfl) (fun q10 => [(h, .inr (3, [.null, .null, .null])), (q10, .inl ((gC G).1, 4, .inl (fun _ => 0)))]) (fun _ => rfl) (fun q10 => ?_)
  refine NputF 0 0 tyX3 dX3_init_8 rfl rfl inX3 tyX3_ok nmX3 (by decide) wd_fl_RX3_9 rfl rfl (tyX3_ok 0 (by decide)) rfl rfl (Nat.le_of_ble_eq_true rfl) 11 rfl ([(h, .inr (3, [.ref q10, .null, .null])), (q10, .inl ((gC G).1, 4, .inl (fun _ => 0)))]) rfl ?_
  refine Naload_n dX3_init_11 0 rfl 12 rfl ?_
  refine Nconst dX3_init_12 (4 : Int32) (by decide) 13 rfl ?_
  refine Nnewz dX3_init_13 hG 15 rfl (by decide) (by decide) (by decide) (Nat.le_of_ble_eq_true rfl) (Nat.le_of_ble_eq_true rfl) (fun q11 => [(h, .inr (3, [.ref q10, .null, .null])), (q10, .inl ((gC G).1, 4, .inl (fun _ => 0))), (q11, .inl ((gC G).2.1, 4, .inl (fun _ => 0)))]) (fun _ => rfl) (fun q11 => ?_)
  refine NputF 0 1 tyX3 dX3_init_15 rfl rfl inX3 tyX3_ok nmX3 (by decide) wd_fl_RX3_15 rfl rfl (tyX3_ok 1 (by decide)) rfl rfl (Nat.le_of_ble_eq_true rfl) 18 rfl ([(h, .inr (3, [.ref q10, .ref q11, .null])), (q10, .inl ((gC G).1, 4, .inl (fun _ => 0))), (q11, .inl ((gC G).2.1, 4, .inl (fun _ => 0)))]) rfl ?_
  refine Naload_n dX3_init_18 0 rfl 19 rfl ?_
  refine Nbipush dX3_init_19 (32 : Int32) (by decide) 21 rfl ?_
  refine Nnewi dX3_init_21 hG 23 rfl (by decide) (by decide) (by decide) (Nat.le_of_ble_eq_true rfl) (Nat.le_of_ble_eq_true rfl) (fun q12 => [(h, .inr (3, [.ref q10, .ref q11, .null])), (q10, .inl ((gC G).1, 4, .inl (fun _ => 0))), (q11, .inl ((gC G).2.1, 4, .inl (fun _ => 0))), (q12, .inl ((gC G).1, 32, .inl (fun _ => 0)))]) (fun _ => rfl) (fun q12 => ?_)
  refine NputF 0 2 tyX3 dX3_init_23 rfl rfl inX3 tyX3_ok nmX3 (by decide) wd_fl_RX3_19 rfl rfl (tyX3_ok 2 (by decide)) rfl rfl (Nat.le_of_ble_eq_true rfl) 26 rfl ([(h, .inr (3, [.ref q10, .ref q11, .ref q12])), (q10, .inl ((gC G).1, 4, .inl (fun _ => 0))), (q11, .inl ((gC G).2.1, 4, .inl (fun _ => 0))), (q12, .inl ((gC G).1, 32, .inl (fun _ => 0)))]) rfl ?_
  refine Naload_n dX3_init_26 0 rfl 27 rfl ?_
  refine Neq (w' := wD (gW G (fun q => [h, q10, q11, q12].getD (q - 9) 0) [9, 10, 11, 12]) zS) rfl ?_
  refine NcallV (q := 9) (ci := 3) dX3_init_27 (c_X3_reset l (G := gW G (fun q => [h, q10, q11, q12].getD (q - 9) 0) [9, 10, 11, 12]) (by show ∀ q, q ∈ [9, 10, 11] → q ∈ [9, 10, 11, 12]; decide) hG.1 hG.2.1 zS) mw_X3_reset rfl wd_im_yX3_reset wd_se_yX3_reset wd_ml_RX3_22 (by decide) rfl rfl rfl (by decide) rfl (Nat.le_of_ble_eq_true rfl) (Nat.le_of_ble_eq_true rfl) 30 rfl ?_
  exact Nret dX3_init_30 ⟨_, rfl, rfl⟩ (Nat.le_of_ble_eq_true rfl) (Nat.le_of_ble_eq_true rfl)
theorem mw_X1_init : mW yX1_init cX1_init 1 none 0 := ⟨wd_co_yX1_init, wd_ini_RX1, ⟨by decide, by decide⟩, by decide +kernel, by decide⟩
set_option maxRecDepth 100000 in
set_option maxHeartbeats 4000000 in
theorem c_X1_init (l : Launch) {G : gT} (hG : gOk G) (h : Nat) : Cb l G yX1_init cX1_init 1 2 7 119 [.ref h] [(h, .inr (1, [.null, .null, .null, .null]))] (fun w => ∃ a : Nat → Nat, a 1 = h ∧ w = wD (gW G a [1, 2, 3, 4, 5, 6, 7, 8]) (f_X1_reset zS).2) := by
  refine Cb.ofN [(0, .ref h)] rfl (by decide) rfl (Nat.le_of_ble_eq_true rfl) rfl (fun X => ?_)
  refine Naload_n dX1_init_0 0 rfl 1 rfl ?_
  refine NobjInit dX1_init_1 wd_ml_RX1_3 (by decide) 4 rfl ?_
  refine Naload_n dX1_init_4 0 rfl 5 rfl ?_
  refine Nbipush dX1_init_5 (8 : Int32) (by decide) 7 rfl ?_
  refine Nnewi dX1_init_7 hG 9 rfl (by decide) (by decide) (by decide) (Nat.le_of_ble_eq_true rfl) (Nat.le_of_ble_eq_true rfl) (fun q2 => [(h, .inr (1, [.null, .null, .null, .null])), (q2, .inl ((gC G).1, 8, .inl (fun _ => 0)))]) (fun _ => rfl) (fun q2 => ?_)
  refine NputF 0 0 tyX1 dX1_init_9 rfl rfl inX1 tyX1_ok nmX1 (by decide) wd_fl_RX1_9 rfl rfl (tyX1_ok 0 (by decide)) rfl rfl (Nat.le_of_ble_eq_true rfl) 12 rfl ([(h, .inr (1, [.ref q2, .null, .null, .null])), (q2, .inl ((gC G).1, 8, .inl (fun _ => 0)))]) rfl ?_
  refine Naload_n dX1_init_12 0 rfl 13 rfl ?_
  refine Nbipush dX1_init_13 (8 : Int32) (by decide) 15 rfl ?_
  refine Nnewi dX1_init_15 hG 17 rfl (by decide) (by decide) (by decide) (Nat.le_of_ble_eq_true rfl) (Nat.le_of_ble_eq_true rfl) (fun q3 => [(h, .inr (1, [.ref q2, .null, .null, .null])), (q2, .inl ((gC G).1, 8, .inl (fun _ => 0))), (q3, .inl ((gC G).1, 8, .inl (fun _ => 0)))]) (fun _ => rfl) (fun q3 => ?_)
  refine NputF 0 1 tyX1 dX1_init_17 rfl rfl inX1 tyX1_ok nmX1 (by decide) wd_fl_RX1_15 rfl rfl (tyX1_ok 1 (by decide)) rfl rfl (Nat.le_of_ble_eq_true rfl) 20 rfl ([(h, .inr (1, [.ref q2, .ref q3, .null, .null])), (q2, .inl ((gC G).1, 8, .inl (fun _ => 0))), (q3, .inl ((gC G).1, 8, .inl (fun _ => 0)))]) rfl ?_
  refine Naload_n dX1_init_20 0 rfl 21 rfl ?_
  refine Nbipush dX1_init_21 (8 : Int32) (by decide) 23 rfl ?_
  refine Nnewi dX1_init_23 hG 25 rfl (by decide) (by decide) (by decide) (Nat.le_of_ble_eq_true rfl) (Nat.le_of_ble_eq_true rfl) (fun q4 => [(h, .inr (1, [.ref q2, .ref q3, .null, .null])), (q2, .inl ((gC G).1, 8, .inl (fun _ => 0))), (q3, .inl ((gC G).1, 8, .inl (fun _ => 0))), (q4, .inl ((gC G).1, 8, .inl (fun _ => 0)))]) (fun _ => rfl) (fun q4 => ?_)
  refine NputF 0 2 tyX1 dX1_init_25 rfl rfl inX1 tyX1_ok nmX1 (by decide) wd_fl_RX1_18 rfl rfl (tyX1_ok 2 (by decide)) rfl rfl (Nat.le_of_ble_eq_true rfl) 28 rfl ([(h, .inr (1, [.ref q2, .ref q3, .ref q4, .null])), (q2, .inl ((gC G).1, 8, .inl (fun _ => 0))), (q3, .inl ((gC G).1, 8, .inl (fun _ => 0))), (q4, .inl ((gC G).1, 8, .inl (fun _ => 0)))]) rfl ?_
  refine Naload_n dX1_init_28 0 rfl 29 rfl ?_
  refine Nnew 2 [.null, .null, .null, .int 0, .int 0] dX1_init_29 rfl inX2 tyX2 tyX2_ok wd_cl_RX1_21 wd_ist_RX2 wd_ini_RX2 (by decide +kernel) 32 rfl (Nat.le_of_ble_eq_true rfl) (Nat.le_of_ble_eq_true rfl) (fun q5 => ?_)
  refine Ndup dX1_init_32 33 rfl ?_
  refine NinitN [] dX1_init_33 (c_X2_init l hG q5) mw_X2_init rfl wd_im_yX2_init wd_nml_RX1_23 (by decide) rfl rfl (Nat.le_of_ble_eq_true rfl) (Nat.le_of_ble_eq_true rfl) (Nat.le_of_ble_eq_true rfl) 36 rfl (fun w1 hB1 => ?_)
  obtain ⟨a2, rfl, rfl⟩ := hB1
  refine NputF 0 3 tyX1 dX1_init_36 rfl rfl inX1 tyX1_ok nmX1 (by decide) wd_fl_RX1_24 rfl rfl (tyX1_ok 3 (by decide)) rfl rfl (Nat.le_of_ble_eq_true rfl) 39 rfl ([(h, .inr (1, [.ref q2, .ref q3, .ref q4, .ref (a2 5)])), (q2, .inl ((gC G).1, 8, .inl (fun _ => 0))), (q3, .inl ((gC G).1, 8, .inl (fun _ => 0))), (q4, .inl ((gC G).1, 8, .inl (fun _ => 0)))] ++ wD (gW G a2 [5, 6, 7, 8]) zS) rfl ?_
  refine Naload_n dX1_init_39 0 rfl 40 rfl ?_
  refine Neq (w' := wD (gW G (fun q => if q < 5 then [h, q2, q3, q4].getD (q - 1) 0 else a2 q) [1, 2, 3, 4, 5, 6, 7, 8]) zS) rfl ?_
  refine NcallV (q := 1) (ci := 1) dX1_init_40 (c_X1_reset l (G := gW G (fun q => if q < 5 then [h, q2, q3, q4].getD (q - 1) 0 else a2 q) [1, 2, 3, 4, 5, 6, 7, 8]) (by show ∀ q, q ∈ [1, 2, 3, 5] → q ∈ [1, 2, 3, 4, 5, 6, 7, 8]; decide) hG.1 zS) mw_X1_reset rfl wd_im_yX1_reset wd_se_yX1_reset wd_ml_RX1_28 (by decide) rfl rfl rfl (by decide) rfl (Nat.le_of_ble_eq_true rfl) (Nat.le_of_ble_eq_true rfl) 43 rfl ?_
  exact Nret dX1_init_43 ⟨_, rfl, rfl⟩ (Nat.le_of_ble_eq_true rfl) (Nat.le_of_ble_eq_true rfl)
def zN (x : Int32) : mS := fun q j => if q = 14 ∧ j = 0 then x else 0
theorem mw_X4_init : mW yX4_init cX4_init 2 none 1 := ⟨wd_co_yX4_init, wd_ini_RX4, ⟨by decide, by decide⟩, by decide +kernel, by decide⟩
set_option maxRecDepth 100000 in
set_option maxHeartbeats 4000000 in
theorem c_X4_init (l : Launch) {G : gT} (hG : gOk G) (h : Nat) (x : Int32) : Cb l G yX4_init cX4_init 2 2 12 148 [.ref h, .int x] [(h, .inr (4, [.int 0, .null, .null, .null, .null, .int 0, .null, .null, .int 0, .null, .int 0, .int 0, .int 0, .int 0, .int 0]))] (fun w => ∃ a : Nat → Nat, a 14 = h ∧ w = wD (gW G a [14, 15, 16, 17, 18, 19, 20, 21, 22, 23, 24, 25, 26]) (zN x)) := by
  refine Cb.ofN [(0, .ref h), (1, .int x)] rfl (by decide) rfl (Nat.le_of_ble_eq_true rfl) rfl (fun X => ?_)
  refine Naload_n dX4_init_0 0 rfl 1 rfl ?_
  refine NobjInit dX4_init_1 wd_ml_RX4_3 (by decide) 4 rfl ?_
  refine Naload_n dX4_init_4 0 rfl 5 rfl ?_
  refine Nbipush dX4_init_5 (24 : Int32) (by decide) 7 rfl ?_
  refine Nnewi dX4_init_7 hG 9 rfl (by decide) (by decide) (by decide) (Nat.le_of_ble_eq_true rfl) (Nat.le_of_ble_eq_true rfl) (fun q15 => [(h, .inr (4, [.int 0, .null, .null, .null, .null, .int 0, .null, .null, .int 0, .null, .int 0, .int 0, .int 0, .int 0, .int 0])), (q15, .inl ((gC G).1, 24, .inl (fun _ => 0)))]) (fun _ => rfl) (fun q15 => ?_)
  refine NputF 0 1 tyX4 dX4_init_9 rfl rfl inX4 tyX4_ok nmX4 (by decide) wd_fl_RX4_9 rfl rfl (tyX4_ok 1 (by decide)) rfl rfl (Nat.le_of_ble_eq_true rfl) 12 rfl ([(h, .inr (4, [.int 0, .ref q15, .null, .null, .null, .int 0, .null, .null, .int 0, .null, .int 0, .int 0, .int 0, .int 0, .int 0])), (q15, .inl ((gC G).1, 24, .inl (fun _ => 0)))]) rfl ?_
  refine Naload_n dX4_init_12 0 rfl 13 rfl ?_
  refine Nbipush dX4_init_13 (24 : Int32) (by decide) 15 rfl ?_
  refine Nnewi dX4_init_15 hG 17 rfl (by decide) (by decide) (by decide) (Nat.le_of_ble_eq_true rfl) (Nat.le_of_ble_eq_true rfl) (fun q16 => [(h, .inr (4, [.int 0, .ref q15, .null, .null, .null, .int 0, .null, .null, .int 0, .null, .int 0, .int 0, .int 0, .int 0, .int 0])), (q15, .inl ((gC G).1, 24, .inl (fun _ => 0))), (q16, .inl ((gC G).1, 24, .inl (fun _ => 0)))]) (fun _ => rfl) (fun q16 => ?_)
  refine NputF 0 2 tyX4 dX4_init_17 rfl rfl inX4 tyX4_ok nmX4 (by decide) wd_fl_RX4_15 rfl rfl (tyX4_ok 2 (by decide)) rfl rfl (Nat.le_of_ble_eq_true rfl) 20 rfl ([(h, .inr (4, [.int 0, .ref q15, .ref q16, .null, .null, .int 0, .null, .null, .int 0, .null, .int 0, .int 0, .int 0, .int 0, .int 0])), (q15, .inl ((gC G).1, 24, .inl (fun _ => 0))), (q16, .inl ((gC G).1, 24, .inl (fun _ => 0)))]) rfl ?_
  refine Naload_n dX4_init_20 0 rfl 21 rfl ?_
  refine Nbipush dX4_init_21 (24 : Int32) (by decide) 23 rfl ?_
  refine Nnewi dX4_init_23 hG 25 rfl (by decide) (by decide) (by decide) (Nat.le_of_ble_eq_true rfl) (Nat.le_of_ble_eq_true rfl) (fun q17 => [(h, .inr (4, [.int 0, .ref q15, .ref q16, .null, .null, .int 0, .null, .null, .int 0, .null, .int 0, .int 0, .int 0, .int 0, .int 0])), (q15, .inl ((gC G).1, 24, .inl (fun _ => 0))), (q16, .inl ((gC G).1, 24, .inl (fun _ => 0))), (q17, .inl ((gC G).1, 24, .inl (fun _ => 0)))]) (fun _ => rfl) (fun q17 => ?_)
  refine NputF 0 3 tyX4 dX4_init_25 rfl rfl inX4 tyX4_ok nmX4 (by decide) wd_fl_RX4_18 rfl rfl (tyX4_ok 3 (by decide)) rfl rfl (Nat.le_of_ble_eq_true rfl) 28 rfl ([(h, .inr (4, [.int 0, .ref q15, .ref q16, .ref q17, .null, .int 0, .null, .null, .int 0, .null, .int 0, .int 0, .int 0, .int 0, .int 0])), (q15, .inl ((gC G).1, 24, .inl (fun _ => 0))), (q16, .inl ((gC G).1, 24, .inl (fun _ => 0))), (q17, .inl ((gC G).1, 24, .inl (fun _ => 0)))]) rfl ?_
  refine Naload_n dX4_init_28 0 rfl 29 rfl ?_
  refine Nbipush dX4_init_29 (24 : Int32) (by decide) 31 rfl ?_
  refine Nnewi dX4_init_31 hG 33 rfl (by decide) (by decide) (by decide) (Nat.le_of_ble_eq_true rfl) (Nat.le_of_ble_eq_true rfl) (fun q18 => [(h, .inr (4, [.int 0, .ref q15, .ref q16, .ref q17, .null, .int 0, .null, .null, .int 0, .null, .int 0, .int 0, .int 0, .int 0, .int 0])), (q15, .inl ((gC G).1, 24, .inl (fun _ => 0))), (q16, .inl ((gC G).1, 24, .inl (fun _ => 0))), (q17, .inl ((gC G).1, 24, .inl (fun _ => 0))), (q18, .inl ((gC G).1, 24, .inl (fun _ => 0)))]) (fun _ => rfl) (fun q18 => ?_)
  refine NputF 0 4 tyX4 dX4_init_33 rfl rfl inX4 tyX4_ok nmX4 (by decide) wd_fl_RX4_21 rfl rfl (tyX4_ok 4 (by decide)) rfl rfl (Nat.le_of_ble_eq_true rfl) 36 rfl ([(h, .inr (4, [.int 0, .ref q15, .ref q16, .ref q17, .ref q18, .int 0, .null, .null, .int 0, .null, .int 0, .int 0, .int 0, .int 0, .int 0])), (q15, .inl ((gC G).1, 24, .inl (fun _ => 0))), (q16, .inl ((gC G).1, 24, .inl (fun _ => 0))), (q17, .inl ((gC G).1, 24, .inl (fun _ => 0))), (q18, .inl ((gC G).1, 24, .inl (fun _ => 0)))]) rfl ?_
  refine Naload_n dX4_init_36 0 rfl 37 rfl ?_
  refine Nconst dX4_init_37 (4 : Int32) (by decide) 38 rfl ?_
  refine Nnewi dX4_init_38 hG 40 rfl (by decide) (by decide) (by decide) (Nat.le_of_ble_eq_true rfl) (Nat.le_of_ble_eq_true rfl) (fun q19 => [(h, .inr (4, [.int 0, .ref q15, .ref q16, .ref q17, .ref q18, .int 0, .null, .null, .int 0, .null, .int 0, .int 0, .int 0, .int 0, .int 0])), (q15, .inl ((gC G).1, 24, .inl (fun _ => 0))), (q16, .inl ((gC G).1, 24, .inl (fun _ => 0))), (q17, .inl ((gC G).1, 24, .inl (fun _ => 0))), (q18, .inl ((gC G).1, 24, .inl (fun _ => 0))), (q19, .inl ((gC G).1, 4, .inl (fun _ => 0)))]) (fun _ => rfl) (fun q19 => ?_)
  refine NputF 0 6 tyX4 dX4_init_40 rfl rfl inX4 tyX4_ok nmX4 (by decide) wd_fl_RX4_24 rfl rfl (tyX4_ok 6 (by decide)) rfl rfl (Nat.le_of_ble_eq_true rfl) 43 rfl ([(h, .inr (4, [.int 0, .ref q15, .ref q16, .ref q17, .ref q18, .int 0, .ref q19, .null, .int 0, .null, .int 0, .int 0, .int 0, .int 0, .int 0])), (q15, .inl ((gC G).1, 24, .inl (fun _ => 0))), (q16, .inl ((gC G).1, 24, .inl (fun _ => 0))), (q17, .inl ((gC G).1, 24, .inl (fun _ => 0))), (q18, .inl ((gC G).1, 24, .inl (fun _ => 0))), (q19, .inl ((gC G).1, 4, .inl (fun _ => 0)))]) rfl ?_
  refine Naload_n dX4_init_43 0 rfl 44 rfl ?_
  refine Nconst dX4_init_44 (4 : Int32) (by decide) 45 rfl ?_
  refine Nnewi dX4_init_45 hG 47 rfl (by decide) (by decide) (by decide) (Nat.le_of_ble_eq_true rfl) (Nat.le_of_ble_eq_true rfl) (fun q20 => [(h, .inr (4, [.int 0, .ref q15, .ref q16, .ref q17, .ref q18, .int 0, .ref q19, .null, .int 0, .null, .int 0, .int 0, .int 0, .int 0, .int 0])), (q15, .inl ((gC G).1, 24, .inl (fun _ => 0))), (q16, .inl ((gC G).1, 24, .inl (fun _ => 0))), (q17, .inl ((gC G).1, 24, .inl (fun _ => 0))), (q18, .inl ((gC G).1, 24, .inl (fun _ => 0))), (q19, .inl ((gC G).1, 4, .inl (fun _ => 0))), (q20, .inl ((gC G).1, 4, .inl (fun _ => 0)))]) (fun _ => rfl) (fun q20 => ?_)
  refine NputF 0 7 tyX4 dX4_init_47 rfl rfl inX4 tyX4_ok nmX4 (by decide) wd_fl_RX4_27 rfl rfl (tyX4_ok 7 (by decide)) rfl rfl (Nat.le_of_ble_eq_true rfl) 50 rfl ([(h, .inr (4, [.int 0, .ref q15, .ref q16, .ref q17, .ref q18, .int 0, .ref q19, .ref q20, .int 0, .null, .int 0, .int 0, .int 0, .int 0, .int 0])), (q15, .inl ((gC G).1, 24, .inl (fun _ => 0))), (q16, .inl ((gC G).1, 24, .inl (fun _ => 0))), (q17, .inl ((gC G).1, 24, .inl (fun _ => 0))), (q18, .inl ((gC G).1, 24, .inl (fun _ => 0))), (q19, .inl ((gC G).1, 4, .inl (fun _ => 0))), (q20, .inl ((gC G).1, 4, .inl (fun _ => 0)))]) rfl ?_
  refine Naload_n dX4_init_50 0 rfl 51 rfl ?_
  refine Nnew 0 [.int 0, .int 0, .int 0, .null, .null, .null, .null, .null] dX4_init_51 rfl inX0 tyX0 tyX0_ok wd_cl_RX4_30 wd_ist_RX0 wd_ini_RX0 (by decide +kernel) 54 rfl (Nat.le_of_ble_eq_true rfl) (Nat.le_of_ble_eq_true rfl) (fun q21 => ?_)
  refine Ndup dX4_init_54 55 rfl ?_
  refine NinitN [] dX4_init_55 (c_X0_init l hG q21) mw_X0_init rfl wd_im_yX0_init wd_nml_RX4_32 (by decide) rfl rfl (Nat.le_of_ble_eq_true rfl) (Nat.le_of_ble_eq_true rfl) (Nat.le_of_ble_eq_true rfl) 58 rfl (fun w1 hB1 => ?_)
  obtain ⟨a0, rfl, rfl⟩ := hB1
  refine NputF 0 9 tyX4 dX4_init_58 rfl rfl inX4 tyX4_ok nmX4 (by decide) wd_fl_RX4_33 rfl rfl (tyX4_ok 9 (by decide)) rfl rfl (Nat.le_of_ble_eq_true rfl) 61 rfl ([(h, .inr (4, [.int 0, .ref q15, .ref q16, .ref q17, .ref q18, .int 0, .ref q19, .ref q20, .int 0, .ref (a0 21), .int 0, .int 0, .int 0, .int 0, .int 0])), (q15, .inl ((gC G).1, 24, .inl (fun _ => 0))), (q16, .inl ((gC G).1, 24, .inl (fun _ => 0))), (q17, .inl ((gC G).1, 24, .inl (fun _ => 0))), (q18, .inl ((gC G).1, 24, .inl (fun _ => 0))), (q19, .inl ((gC G).1, 4, .inl (fun _ => 0))), (q20, .inl ((gC G).1, 4, .inl (fun _ => 0)))] ++ wD (gW G a0 [21, 22, 23, 24, 25, 26]) zS) rfl ?_
  refine Naload_n dX4_init_61 0 rfl 62 rfl ?_
  refine Nload_n dX4_init_62 1 rfl 63 rfl ?_
  refine NputF 0 0 tyX4 dX4_init_63 rfl rfl inX4 tyX4_ok nmX4 (by decide) wd_fl_RX4_37 rfl rfl (tyX4_ok 0 (by decide)) rfl rfl (Nat.le_of_ble_eq_true rfl) 66 rfl ([(h, .inr (4, [.int x, .ref q15, .ref q16, .ref q17, .ref q18, .int 0, .ref q19, .ref q20, .int 0, .ref (a0 21), .int 0, .int 0, .int 0, .int 0, .int 0])), (q15, .inl ((gC G).1, 24, .inl (fun _ => 0))), (q16, .inl ((gC G).1, 24, .inl (fun _ => 0))), (q17, .inl ((gC G).1, 24, .inl (fun _ => 0))), (q18, .inl ((gC G).1, 24, .inl (fun _ => 0))), (q19, .inl ((gC G).1, 4, .inl (fun _ => 0))), (q20, .inl ((gC G).1, 4, .inl (fun _ => 0)))] ++ wD (gW G a0 [21, 22, 23, 24, 25, 26]) zS) rfl ?_
  exact Nret dX4_init_66 ⟨(fun q => if q < 21 then [h, q15, q16, q17, q18, q19, q20].getD (q - 14) 0 else a0 q), rfl, rfl⟩ (Nat.le_of_ble_eq_true rfl) (Nat.le_of_ble_eq_true rfl)
