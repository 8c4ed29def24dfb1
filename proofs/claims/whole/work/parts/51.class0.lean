/-! the constructor of the class -/
def sJ (s1 s3 : mS) : mS := fun q => if q = 0 then (fun _ => 0) else if q < 9 then s1 q else if q < 13 then s3 q else if q < 27 then zN 0 q else if q < 40 then zN 1 (q - 13) else if q < 53 then zN 2 (q - 26) else (fun _ => 0)
def a5 (h q13 : Nat) (a1 a9 a14 a27 a40 : Nat → Nat) : Nat → Nat := fun q => if q = 0 then h else if q < 9 then a1 q else if q < 13 then a9 q else if q = 13 then q13 else if q < 27 then a14 q else if q < 40 then a27 (q - 13) else a40 (q - 26)
set_option maxRecDepth 100000 in
set_option maxHeartbeats 4000000 in
theorem join5 {G : gT} {s1 s3 : mS} {h q13 : Nat} {a1 a9 a14 a27 a40 : Nat → Nat} : [(h, .inr (5, [.ref (a1 1), .ref (a9 9), .ref q13, .int 0, .int 0]))] ++ wD (gW G a1 [1, 2, 3, 4, 5, 6, 7, 8]) s1 ++ wD (gW G a9 [9, 10, 11, 12]) s3 ++ [(q13, .inl ((gC G).2.2, 3, .inr (.inr (.inr (.inr (fun j => some ((a5 h q13 a1 a9 a14 a27 a40) (14 + 13 * j))))))))] ++ wD (gW G a14 [14, 15, 16, 17, 18, 19, 20, 21, 22, 23, 24, 25, 26]) (zN 0) ++ wD (gW G a27 [14, 15, 16, 17, 18, 19, 20, 21, 22, 23, 24, 25, 26]) (zN 1) ++ wD (gW G a40 [14, 15, 16, 17, 18, 19, 20, 21, 22, 23, 24, 25, 26]) (zN 2) = wD (gW G (a5 h q13 a1 a9 a14 a27 a40) (rR 0 53)) (sJ s1 s3) := rfl
theorem va_P_q {D : va_G} {w : va_W} {i a n : Nat} {cA : ClassId} {f f' : Nat → Option Nat} {H : Heap} (he : w[i]? = some (a, .inl (cA, n, .inr (.inr (.inr (.inr f)))))) (hf : ∀ j, j < n → f j = f' j) (hP : va_P D vwCl w H) : va_P D vwCl (w.set i (a, .inl (cA, n, .inr (.inr (.inr (.inr f')))))) H := by
  intro k q hk
  rw [List.getElem?_set] at hk
  by_cases e : i = k
  · rw [if_pos e] at hk
    split at hk
    · cases hk
      have h0 := hP i _ he
      show H[a]? = some (vp_cell cA (n, .inr (.inr (.inr (.inr f')))))
      have h1 : H[a]? = some (vp_cell cA (n, .inr (.inr (.inr (.inr f))))) := h0
      rw [h1, vp_cell_q, vp_cell_q]
      unfold arrV
      congr 3
      funext j
      show va_rf (f j.val) = va_rf (f' j.val)
      rw [hf j.val j.isLt]
    · cases hk
  · rw [if_neg e] at hk
    exact hP k q hk
theorem up3 (h q13 : Nat) (a1 a9 a14 a27 a40 : Nat → Nat) : ∀ j, j < 3 → (va_up (va_up (va_up (fun _ => none) (0 : Int32).toNatClampNeg (some (a14 14))) (1 : Int32).toNatClampNeg (some (a27 14))) (2 : Int32).toNatClampNeg (some (a40 14))) j = (fun j => some ((a5 h q13 a1 a9 a14 a27 a40) (14 + 13 * j))) j := by
  intro j hj
  have e1 : (1 : Int32).toNatClampNeg = 1 := by decide
  have e2 : (2 : Int32).toNatClampNeg = 2 := by decide
  rcases (show j = 0 ∨ j = 1 ∨ j = 2 by omega) with rfl | rfl | rfl <;> simp [va_up, e1, e2, a5]
theorem mw_X5_init : mW yX5_init cX5_init 2 none 0 := ⟨wd_co_yX5_init, wd_ini_RX5, ⟨by decide, by decide⟩, by decide +kernel, by decide⟩
set_option maxRecDepth 100000 in
set_option maxHeartbeats 4000000 in
theorem c_X5_init (l : Launch) {G : gT} (hG : gOk G) (h : Nat) : Cb l G yX5_init cX5_init 2 3 52 658 [.ref h] [(h, .inr (5, [.null, .null, .null, .int 0, .int 0]))] (fun w => ∃ a : Nat → Nat, a 0 = h ∧ w = wD (gW G a (rR 0 53)) (sJ (f_X1_reset zS).2 (f_X3_reset zS).2)) := by
  refine Cb.ofN [(0, .ref h)] rfl (by decide) rfl (Nat.le_of_ble_eq_true rfl) rfl (fun X => ?_)
  refine Naload_n dX5_init_0 0 rfl 1 rfl ?_
  refine NobjInit dX5_init_1 wd_ml_RX5_1 (by decide) 4 rfl ?_
  refine Naload_n dX5_init_4 0 rfl 5 rfl ?_
  refine Nnew 1 [.null, .null, .null, .null] dX5_init_5 rfl inX1 tyX1 tyX1_ok wd_cl_RX5_7 wd_ist_RX1 wd_ini_RX1 (by decide +kernel) 8 rfl (Nat.le_of_ble_eq_true rfl) (Nat.le_of_ble_eq_true rfl) (fun q1 => ?_)
  refine Ndup dX5_init_8 9 rfl ?_
  refine Ninit [] dX5_init_9 (c_X1_init l hG q1) mw_X1_init rfl wd_im_yX1_init wd_ml_RX5_9 (by decide) rfl rfl (Nat.le_of_ble_eq_true rfl) (Nat.le_of_ble_eq_true rfl) (Nat.le_of_ble_eq_true rfl) 12 rfl (fun w1 hB1 => ?_)
  obtain ⟨a1, rfl, rfl⟩ := hB1
  refine NputF 0 0 tyX5 dX5_init_12 rfl rfl inX5 tyX5_ok nmX5 (by decide) wd_fl_RX5_10 rfl rfl (tyX5_ok 0 (by decide)) rfl rfl (Nat.le_of_ble_eq_true rfl) 15 rfl ([(h, .inr (5, [.ref (a1 1), .null, .null, .int 0, .int 0]))] ++ wD (gW G a1 [1, 2, 3, 4, 5, 6, 7, 8]) (f_X1_reset zS).2) rfl ?_
  refine Naload_n dX5_init_15 0 rfl 16 rfl ?_
  refine Nnew 3 [.null, .null, .null] dX5_init_16 rfl inX3 tyX3 tyX3_ok wd_cl_RX5_16 wd_ist_RX3 wd_ini_RX3 (by decide +kernel) 19 rfl (Nat.le_of_ble_eq_true rfl) (Nat.le_of_ble_eq_true rfl) (fun q9 => ?_)
  refine Ndup dX5_init_19 20 rfl ?_
  refine Ninit [] dX5_init_20 (c_X3_init l hG q9) mw_X3_init rfl wd_im_yX3_init wd_ml_RX5_18 (by decide) rfl rfl (Nat.le_of_ble_eq_true rfl) (Nat.le_of_ble_eq_true rfl) (Nat.le_of_ble_eq_true rfl) 23 rfl (fun w1 hB1 => ?_)
  obtain ⟨a9, rfl, rfl⟩ := hB1
  refine NputF 0 1 tyX5 dX5_init_23 rfl rfl inX5 tyX5_ok nmX5 (by decide) wd_fl_RX5_19 rfl rfl (tyX5_ok 1 (by decide)) rfl rfl (Nat.le_of_ble_eq_true rfl) 26 rfl ([(h, .inr (5, [.ref (a1 1), .ref (a9 9), .null, .int 0, .int 0]))] ++ wD (gW G a1 [1, 2, 3, 4, 5, 6, 7, 8]) (f_X1_reset zS).2 ++ wD (gW G a9 [9, 10, 11, 12]) (f_X3_reset zS).2) rfl ?_
  refine Naload_n dX5_init_26 0 rfl 27 rfl ?_
  refine Nconst dX5_init_27 (3 : Int32) (by decide) 28 rfl ?_
  refine Nnews dX5_init_28 wd_cl_RX5_23 hG 31 rfl (by decide) (by decide) (by decide) (Nat.le_of_ble_eq_true rfl) (Nat.le_of_ble_eq_true rfl) (fun q13 => [(h, .inr (5, [.ref (a1 1), .ref (a9 9), .null, .int 0, .int 0]))] ++ wD (gW G a1 [1, 2, 3, 4, 5, 6, 7, 8]) (f_X1_reset zS).2 ++ wD (gW G a9 [9, 10, 11, 12]) (f_X3_reset zS).2 ++ [(q13, .inl ((gC G).2.2, 3, .inr (.inr (.inr (.inr (fun _ => none))))))]) (fun _ => rfl) (fun q13 => ?_)
  refine NputF 0 2 tyX5 dX5_init_31 rfl rfl inX5 tyX5_ok nmX5 (by decide) wd_fl_RX5_25 rfl rfl (tyX5_ok 2 (by decide)) rfl rfl (Nat.le_of_ble_eq_true rfl) 34 rfl ([(h, .inr (5, [.ref (a1 1), .ref (a9 9), .ref q13, .int 0, .int 0]))] ++ wD (gW G a1 [1, 2, 3, 4, 5, 6, 7, 8]) (f_X1_reset zS).2 ++ wD (gW G a9 [9, 10, 11, 12]) (f_X3_reset zS).2 ++ [(q13, .inl ((gC G).2.2, 3, .inr (.inr (.inr (.inr (fun _ => none))))))]) rfl ?_
  refine Nconst dX5_init_34 (0 : Int32) (by decide) 35 rfl ?_
  refine Nstore_n dX5_init_35 [(1, .int 0), (0, .ref h)] 36 rfl (by decide) rfl ?_
  refine Nload_n dX5_init_36 0 rfl 37 rfl ?_
  refine Naload_n dX5_init_37 1 rfl 38 rfl ?_
  refine Ngetf 0 2 dX5_init_38 rfl rfl inX5 (by decide) wd_fl_RX5_25 rfl 41 rfl ?_
  refine Nlens 13 (3 : Int32) dX5_init_41 rfl hG rfl 42 rfl ?_
  refine Nicgef dX5_init_42 45 (by decide) rfl 65 (by decide) ?_
  refine Naload_n dX5_init_45 1 rfl 46 rfl ?_
  refine Ngetf 0 2 dX5_init_46 rfl rfl inX5 (by decide) wd_fl_RX5_25 rfl 49 rfl ?_
  refine Nload_n dX5_init_49 0 rfl 50 rfl ?_
  refine Nnew 4 [.int 0, .null, .null, .null, .null, .int 0, .null, .null, .int 0, .null, .int 0, .int 0, .int 0, .int 0, .int 0] dX5_init_50 rfl inX4 tyX4 tyX4_ok wd_cl_RX5_23 wd_ist_RX4 wd_ini_RX4 (by decide +kernel) 53 rfl (Nat.le_of_ble_eq_true rfl) (Nat.le_of_ble_eq_true rfl) (fun q14 => ?_)
  refine Ndup dX5_init_53 54 rfl ?_
  refine Nload_n dX5_init_54 0 rfl 55 rfl ?_
  refine Ninit [.int 0] dX5_init_55 (c_X4_init l hG q14 0) mw_X4_init rfl wd_im_yX4_init wd_ml_RX5_29 (by decide) rfl rfl (Nat.le_of_ble_eq_true rfl) (Nat.le_of_ble_eq_true rfl) (Nat.le_of_ble_eq_true rfl) 58 rfl (fun w1 hB1 => ?_)
  obtain ⟨a14, rfl, rfl⟩ := hB1
  refine Naast 13 14 dX5_init_58 rfl hG rfl (vp_in_iff.mpr (by decide)) 59 rfl ([(h, .inr (5, [.ref (a1 1), .ref (a9 9), .ref q13, .int 0, .int 0]))] ++ wD (gW G a1 [1, 2, 3, 4, 5, 6, 7, 8]) (f_X1_reset zS).2 ++ wD (gW G a9 [9, 10, 11, 12]) (f_X3_reset zS).2 ++ [(q13, .inl ((gC G).2.2, 3, .inr (.inr (.inr (.inr (va_up (fun _ => none) (0 : Int32).toNatClampNeg (some (a14 14))))))))] ++ wD (gW G a14 [14, 15, 16, 17, 18, 19, 20, 21, 22, 23, 24, 25, 26]) (zN 0)) rfl ?_
  refine Niinc dX5_init_59 (1 : Int32) 0 [(1, .int 1), (0, .ref h)] 62 rfl rfl (by decide) (by decide) rfl ?_
  refine Ngoto dX5_init_62 36 (by decide) ?_
  refine Nload_n dX5_init_36 0 rfl 37 rfl ?_
  refine Naload_n dX5_init_37 1 rfl 38 rfl ?_
  refine Ngetf 0 2 dX5_init_38 rfl rfl inX5 (by decide) wd_fl_RX5_25 rfl 41 rfl ?_
  refine Nlens 13 (3 : Int32) dX5_init_41 rfl hG rfl 42 rfl ?_
  refine Nicgef dX5_init_42 45 (by decide) rfl 65 (by decide) ?_
  refine Naload_n dX5_init_45 1 rfl 46 rfl ?_
  refine Ngetf 0 2 dX5_init_46 rfl rfl inX5 (by decide) wd_fl_RX5_25 rfl 49 rfl ?_
  refine Nload_n dX5_init_49 0 rfl 50 rfl ?_
  refine Nnew 4 [.int 0, .null, .null, .null, .null, .int 0, .null, .null, .int 0, .null, .int 0, .int 0, .int 0, .int 0, .int 0] dX5_init_50 rfl inX4 tyX4 tyX4_ok wd_cl_RX5_23 wd_ist_RX4 wd_ini_RX4 (by decide +kernel) 53 rfl (Nat.le_of_ble_eq_true rfl) (Nat.le_of_ble_eq_true rfl) (fun q14 => ?_)
  refine Ndup dX5_init_53 54 rfl ?_
  refine Nload_n dX5_init_54 0 rfl 55 rfl ?_
  refine Ninit [.int 1] dX5_init_55 (c_X4_init l hG q14 1) mw_X4_init rfl wd_im_yX4_init wd_ml_RX5_29 (by decide) rfl rfl (Nat.le_of_ble_eq_true rfl) (Nat.le_of_ble_eq_true rfl) (Nat.le_of_ble_eq_true rfl) 58 rfl (fun w1 hB1 => ?_)
  obtain ⟨a27, rfl, rfl⟩ := hB1
  refine Naast 13 27 dX5_init_58 rfl hG rfl (vp_in_iff.mpr (by decide)) 59 rfl ([(h, .inr (5, [.ref (a1 1), .ref (a9 9), .ref q13, .int 0, .int 0]))] ++ wD (gW G a1 [1, 2, 3, 4, 5, 6, 7, 8]) (f_X1_reset zS).2 ++ wD (gW G a9 [9, 10, 11, 12]) (f_X3_reset zS).2 ++ [(q13, .inl ((gC G).2.2, 3, .inr (.inr (.inr (.inr (va_up (va_up (fun _ => none) (0 : Int32).toNatClampNeg (some (a14 14))) (1 : Int32).toNatClampNeg (some (a27 14))))))))] ++ wD (gW G a14 [14, 15, 16, 17, 18, 19, 20, 21, 22, 23, 24, 25, 26]) (zN 0) ++ wD (gW G a27 [14, 15, 16, 17, 18, 19, 20, 21, 22, 23, 24, 25, 26]) (zN 1)) rfl ?_
  refine Niinc dX5_init_59 (2 : Int32) 0 [(1, .int 2), (0, .ref h)] 62 rfl rfl (by decide) (by decide) rfl ?_
  refine Ngoto dX5_init_62 36 (by decide) ?_
  refine Nload_n dX5_init_36 0 rfl 37 rfl ?_
  refine Naload_n dX5_init_37 1 rfl 38 rfl ?_
  refine Ngetf 0 2 dX5_init_38 rfl rfl inX5 (by decide) wd_fl_RX5_25 rfl 41 rfl ?_
  refine Nlens 13 (3 : Int32) dX5_init_41 rfl hG rfl 42 rfl ?_
  refine Nicgef dX5_init_42 45 (by decide) rfl 65 (by decide) ?_
  refine Naload_n dX5_init_45 1 rfl 46 rfl ?_
  refine Ngetf 0 2 dX5_init_46 rfl rfl inX5 (by decide) wd_fl_RX5_25 rfl 49 rfl ?_
  refine Nload_n dX5_init_49 0 rfl 50 rfl ?_
  refine Nnew 4 [.int 0, .null, .null, .null, .null, .int 0, .null, .null, .int 0, .null, .int 0, .int 0, .int 0, .int 0, .int 0] dX5_init_50 rfl inX4 tyX4 tyX4_ok wd_cl_RX5_23 wd_ist_RX4 wd_ini_RX4 (by decide +kernel) 53 rfl (Nat.le_of_ble_eq_true rfl) (Nat.le_of_ble_eq_true rfl) (fun q14 => ?_)
  refine Ndup dX5_init_53 54 rfl ?_
  refine Nload_n dX5_init_54 0 rfl 55 rfl ?_
  refine Ninit [.int 2] dX5_init_55 (c_X4_init l hG q14 2) mw_X4_init rfl wd_im_yX4_init wd_ml_RX5_29 (by decide) rfl rfl (Nat.le_of_ble_eq_true rfl) (Nat.le_of_ble_eq_true rfl) (Nat.le_of_ble_eq_true rfl) 58 rfl (fun w1 hB1 => ?_)
  obtain ⟨a40, rfl, rfl⟩ := hB1
  refine Naast 13 40 dX5_init_58 rfl hG rfl (vp_in_iff.mpr (by decide)) 59 rfl ([(h, .inr (5, [.ref (a1 1), .ref (a9 9), .ref q13, .int 0, .int 0]))] ++ wD (gW G a1 [1, 2, 3, 4, 5, 6, 7, 8]) (f_X1_reset zS).2 ++ wD (gW G a9 [9, 10, 11, 12]) (f_X3_reset zS).2 ++ [(q13, .inl ((gC G).2.2, 3, .inr (.inr (.inr (.inr (va_up (va_up (va_up (fun _ => none) (0 : Int32).toNatClampNeg (some (a14 14))) (1 : Int32).toNatClampNeg (some (a27 14))) (2 : Int32).toNatClampNeg (some (a40 14))))))))] ++ wD (gW G a14 [14, 15, 16, 17, 18, 19, 20, 21, 22, 23, 24, 25, 26]) (zN 0) ++ wD (gW G a27 [14, 15, 16, 17, 18, 19, 20, 21, 22, 23, 24, 25, 26]) (zN 1) ++ wD (gW G a40 [14, 15, 16, 17, 18, 19, 20, 21, 22, 23, 24, 25, 26]) (zN 2)) rfl ?_
  refine Niinc dX5_init_59 (3 : Int32) 0 [(1, .int 3), (0, .ref h)] 62 rfl rfl (by decide) (by decide) rfl ?_
  refine Ngoto dX5_init_62 36 (by decide) ?_
  refine Nload_n dX5_init_36 0 rfl 37 rfl ?_
  refine Naload_n dX5_init_37 1 rfl 38 rfl ?_
  refine Ngetf 0 2 dX5_init_38 rfl rfl inX5 (by decide) wd_fl_RX5_25 rfl 41 rfl ?_
  refine Nlens 13 (3 : Int32) dX5_init_41 rfl hG rfl 42 rfl ?_
  refine Nicget dX5_init_42 65 (by decide) (by decide) ?_
  refine Ncong (wD (gW G (a5 h q13 a1 a9 a14 a27 a40) (rR 0 53)) (sJ (f_X1_reset zS).2 (f_X3_reset zS).2)) (fun H hP => ?_) (fun _ hD => ?_) ?_
  · rw [← join5]; exact va_P_q (i := 13) rfl (up3 h q13 a1 a9 a14 a27 a40) hP
  · rw [← join5]; exact hD.set (p := 13) rfl
  exact Nret dX5_init_65 ⟨_, rfl, rfl⟩ (Nat.le_of_ble_eq_true rfl) (Nat.le_of_ble_eq_true rfl)
