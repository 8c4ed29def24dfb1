def l_X3_reset_2 : Nat → Int32 → mS → Int32 × mS
  | 0, y1, σ => (0, σ)
  | n + 1, y1, σ => (if (4 : Int32) ≤ y1 then (0, σ) else (l_X3_reset_2 n (y1 + 1) (st2 (st2 σ 10 y1.toNatClampNeg (-1 : Int32)) 11 y1.toNatClampNeg (0 : Int32))))
set_option maxRecDepth 100000 in
set_option maxHeartbeats 4000000 in
theorem vl_X3_reset_2 (l : Launch) {G : gT} (X : xT) (hI : ∀ q : Nat, q ∈ [9, 10, 11] → q ∈ gI G) (hT0 : (gY G)[0]? = some ((gC G).1, .int)) (hT1 : (gY G)[1]? = some ((gC G).2.1, .boolean))  : ∀ (n : Nat) (y1 : Int32) (σ : mS) (i : Nat) (hc : y1 = nI i) (hi : i ≤ 4) (hn : n + i = 5), V l G X RX3 cX3_reset 2 0 none κV ((fun v => v) (l_X3_reset_2 n y1 σ)) σ 2 [(0, .ref (ad G 9)), (1, .int y1)] [] := by
  intro n
  induction n with
  | zero => intro y1 σ i hc hi hn; exact absurd hn (by omega)
  | succ n ih =>
    intro y1 σ i hc hi hn
    rw [l_X3_reset_2.eq_2]
    refine Vload_n dX3_reset_2 1 rfl 3 rfl ?_
    refine Viconst dX3_reset_3 (4 : Int32) (by decide) 4 rfl ?_
    refine Vicge (fun v => v) dX3_reset_4 27 7 (by decide) rfl (fun h1 => ?_) (fun h1 => ?_)
    · exact Vvret dX3_reset_27
    · refine Vaload_n dX3_reset_7 0 rfl 8 rfl ?_
      refine Vget (9) 0 dX3_reset_8 11 rfl (hI 9 (by decide)) wk9 rfl inX3 (by decide) wd_fl_RX3_9 (v := .ref (ad G 10)) rfl ?_
      refine Vload_n dX3_reset_11 1 rfl 12 rfl ?_
      refine Viconst dX3_reset_12 (-1 : Int32) (by decide) 13 rfl ?_
      refine Vst dX3_reset_13 14 rfl (hI 10 (by decide)) wk10 wn10 hT0 (by first | exact (by assumption) | exact (vin_cmp2 (by assumption) (by assumption) (by decide)) | exact (vin_cell (by assumption)) | exact (vin_reg (by assumption)) | exact (vin_row (by assumption)) | exact (vin_cnt (by assumption) (by assumption) (by decide) (by decide) (by assumption)) | exact (vin_cmp (by assumption) (by assumption) (by decide)) | exact (vp_in_iff.mpr (by decide))) ?_
      refine Vaload_n dX3_reset_14 0 rfl 15 rfl ?_
      refine Vget (9) 1 dX3_reset_15 18 rfl (hI 9 (by decide)) wk9 rfl inX3 (by decide) wd_fl_RX3_15 (v := .ref (ad G 11)) rfl ?_
      refine Vload_n dX3_reset_18 1 rfl 19 rfl ?_
      refine Viconst dX3_reset_19 (0 : Int32) (by decide) 20 rfl ?_
      refine Vstz dX3_reset_20 21 rfl (hI 11 (by decide)) wk11 wn11 hT1 (by first | exact (by assumption) | exact (vin_cmp2 (by assumption) (by assumption) (by decide)) | exact (vin_cell (by assumption)) | exact (vin_reg (by assumption)) | exact (vin_row (by assumption)) | exact (vin_cnt (by assumption) (by assumption) (by decide) (by decide) (by assumption)) | exact (vin_cmp (by assumption) (by assumption) (by decide)) | exact (vp_in_iff.mpr (by decide))) (by decide) ?_
      refine Viinc dX3_reset_21 (y1 + 1) 1 [(1, .int (y1 + 1)), (0, .ref (ad G 9))] 24 rfl rfl rfl (by decide) rfl ?_
      refine Vgoto dX3_reset_24 2 (by decide) ?_
      refine Vlv [1, 0] rfl ?_
      exact ih (y1 + 1) (st2 (st2 σ 10 y1.toNatClampNeg (-1 : Int32)) 11 y1.toNatClampNeg (0 : Int32)) (i + 1) (cnt_s hc) (cnt_lt hc (by assumption) (K := 4) (by decide) (by decide) hi) (by omega)
def f_X3_reset (σ : mS)  : Int32 × mS := (l_X3_reset_2 5 (0 : Int32) σ)
theorem mw_X3_reset : mW yX3_reset cX3_reset 2 none 0 := ⟨wd_co_yX3_reset, wd_ini_RX3, ⟨by decide, by decide⟩, by decide +kernel, by decide⟩
set_option maxRecDepth 100000 in
set_option maxHeartbeats 4000000 in
theorem c_X3_reset (l : Launch) {G : gT} (hI : ∀ q : Nat, q ∈ [9, 10, 11] → q ∈ gI G) (hT0 : (gY G)[0]? = some ((gC G).1, .int)) (hT1 : (gY G)[1]? = some ((gC G).2.1, .boolean)) (σ : mS)   : Ct l G yX3_reset cX3_reset 2 none 0 [.ref (ad G 9)] κV σ (f_X3_reset σ) := by
  refine Ct.ofV [(0, .ref (ad G 9))] rfl (by decide) (Nat.le_of_ble_eq_true rfl) rfl (fun X => ?_)
  unfold f_X3_reset
  refine Viconst dX3_reset_0 (0 : Int32) (by decide) 1 rfl ?_
  refine Vstore_n dX3_reset_1 [(1, .int (0 : Int32)), (0, .ref (ad G 9))] 2 rfl (by decide) rfl ?_
  refine Vlv [1, 0] rfl ?_
  exact vl_X3_reset_2 l X hI hT0 hT1  5 (0 : Int32) σ 0 nI_0.symm (Nat.zero_le _) rfl
def f_X5_isRow (x0 : Int32) : Int32 := (if x0 < 0 then (0 : Int32) else (if (4 : Int32) ≤ x0 then (0 : Int32) else (1 : Int32)))
theorem mw_X5_isRow : mW yX5_isRow cX5_isRow 1 (some .boolean) 1 := ⟨wd_co_yX5_isRow, wd_ini_RX5, ⟨by decide, by decide⟩, by decide +kernel, by decide⟩
set_option maxRecDepth 100000 in
set_option maxHeartbeats 4000000 in
theorem c_X5_isRow (l : Launch) {G : gT} (hF : Full G) (σ : mS) (x0 : Int32)  : Ct l G yX5_isRow cX5_isRow 1 (some .boolean) 0 [.int x0] κI σ (f_X5_isRow x0, σ) := by
  refine Ct.ofV [(0, .int x0)] rfl (by decide) (Nat.le_of_ble_eq_true rfl) rfl (fun X => ?_)
  unfold f_X5_isRow
  refine Vload_n dX5_isRow_0 0 rfl 1 rfl ?_
  refine Viflt (fun v => (v, σ)) dX5_isRow_1 13 4 (by decide) rfl (fun h1 => ?_) (fun h1 => ?_)
  · refine Viconst dX5_isRow_13 (0 : Int32) (by decide) 14 rfl ?_
    exact Vzret dX5_isRow_14 (by first | decide | exact nb_isRegister _ | exact nb_isRow _ | exact nb_isPlace _ | exact nb_within _ _ _ | exact nb_mRegister _ | exact nb_mCell _ | exact nb_mPlace _)
  · refine Vload_n dX5_isRow_4 0 rfl 5 rfl ?_
    refine Viconst dX5_isRow_5 (4 : Int32) (by decide) 6 rfl ?_
    refine Vicge (fun v => (v, σ)) dX5_isRow_6 13 9 (by decide) rfl (fun h2 => ?_) (fun h2 => ?_)
    · refine Viconst dX5_isRow_13 (0 : Int32) (by decide) 14 rfl ?_
      exact Vzret dX5_isRow_14 (by first | decide | exact nb_isRegister _ | exact nb_isRow _ | exact nb_isPlace _ | exact nb_within _ _ _ | exact nb_mRegister _ | exact nb_mCell _ | exact nb_mPlace _)
    · refine Viconst dX5_isRow_9 (1 : Int32) (by decide) 10 rfl ?_
      refine Vgoto dX5_isRow_10 14 (by decide) ?_
      exact Vzret dX5_isRow_14 (by first | decide | exact nb_isRegister _ | exact nb_isRow _ | exact nb_isPlace _ | exact nb_within _ _ _ | exact nb_mRegister _ | exact nb_mCell _ | exact nb_mPlace _)
theorem nb_isRow (x : Int32) : narrow .boolean (.int (f_X5_isRow x)) = .int (f_X5_isRow x) := by unfold f_X5_isRow; (repeat' split) <;> rfl
theorem vin_row {x : Int32} (h : ¬ f_X5_isRow x = 0) : vp_in x 4 := by
  unfold f_X5_isRow at h
  by_cases h1 : x < 0
  · rw [if_pos h1] at h; exact absurd rfl h
  · rw [if_neg h1] at h
    by_cases h2 : (4 : Int32) ≤ x
    · rw [if_pos h2] at h; exact absurd rfl h
    · exact vin_cmp h1 h2 (by decide)
def f_X3_length (σ : mS) (x1 : Int32) : Int32 := (if (f_X5_isRow x1) = 0 then (-1 : Int32) else (σ 10 x1.toNatClampNeg))
theorem mw_X3_length : mW yX3_length cX3_length 2 (some .int) 1 := ⟨wd_co_yX3_length, wd_ini_RX3, ⟨by decide, by decide⟩, by decide +kernel, by decide⟩
set_option maxRecDepth 100000 in
set_option maxHeartbeats 4000000 in
theorem c_X3_length (l : Launch) {G : gT} (hF : Full G) (σ : mS) (x1 : Int32)  : Ct l G yX3_length cX3_length 2 (some .int) 1 [.ref (ad G 9), .int x1] κI σ (f_X3_length σ x1, σ) := by
  refine Ct.ofV [(0, .ref (ad G 9)), (1, .int x1)] rfl (by decide) (Nat.le_of_ble_eq_true rfl) rfl (fun X => ?_)
  unfold f_X3_length
  refine Vload_n dX3_length_0 1 rfl 1 rfl ?_
  refine VcSNp dX3_length_1 [.int x1] (c_X5_isRow l hF σ x1) mw_X5_isRow wd_sm_yX5_isRow wd_nml_RX3_25 (by decide) rfl rfl (Nat.le_of_ble_eq_true rfl) 4 rfl ?_
  refine Vifeq (fun v => (v, σ)) dX3_length_4 16 7 (by decide) rfl (fun h1 => ?_) (fun h1 => ?_)
  · refine Viconst dX3_length_16 (-1 : Int32) (by decide) 17 rfl ?_
    exact Viret dX3_length_17
  · refine Vaload_n dX3_length_7 0 rfl 8 rfl ?_
    refine Vget (9) 0 dX3_length_8 11 rfl (hF.1 9 (by decide)) wk9 rfl inX3 (by decide) wd_fl_RX3_9 (v := .ref (ad G 10)) rfl ?_
    refine Vload_n dX3_length_11 1 rfl 12 rfl ?_
    refine Vld dX3_length_12 13 rfl (hF.1 10 (by decide)) wk10 wn10 hF.2.1 (by first | exact (by assumption) | exact (vin_cmp2 (by assumption) (by assumption) (by decide)) | exact (vin_cell (by assumption)) | exact (vin_reg (by assumption)) | exact (vin_row (by assumption)) | exact (vin_cnt (by assumption) (by assumption) (by decide) (by decide) (by assumption)) | exact (vin_cmp (by assumption) (by assumption) (by decide)) | exact (vp_in_iff.mpr (by decide))) ?_
    refine Vgoto dX3_length_13 17 (by decide) ?_
    exact Viret dX3_length_17
def f_X3_isFrozen (σ : mS) (x1 : Int32) : Int32 := (if (f_X5_isRow x1) = 0 then (0 : Int32) else (if (σ 11 x1.toNatClampNeg) = 0 then (0 : Int32) else (1 : Int32)))
theorem mw_X3_isFrozen : mW yX3_isFrozen cX3_isFrozen 2 (some .boolean) 1 := ⟨wd_co_yX3_isFrozen, wd_ini_RX3, ⟨by decide, by decide⟩, by decide +kernel, by decide⟩
set_option maxRecDepth 100000 in
set_option maxHeartbeats 4000000 in
theorem c_X3_isFrozen (l : Launch) {G : gT} (hF : Full G) (σ : mS) (x1 : Int32)  : Ct l G yX3_isFrozen cX3_isFrozen 2 (some .boolean) 1 [.ref (ad G 9), .int x1] κI σ (f_X3_isFrozen σ x1, σ) := by
  refine Ct.ofV [(0, .ref (ad G 9)), (1, .int x1)] rfl (by decide) (Nat.le_of_ble_eq_true rfl) rfl (fun X => ?_)
  unfold f_X3_isFrozen
  refine Vload_n dX3_isFrozen_0 1 rfl 1 rfl ?_
  refine VcSNp dX3_isFrozen_1 [.int x1] (c_X5_isRow l hF σ x1) mw_X5_isRow wd_sm_yX5_isRow wd_nml_RX3_25 (by decide) rfl rfl (Nat.le_of_ble_eq_true rfl) 4 rfl ?_
  refine Vifeq (fun v => (v, σ)) dX3_isFrozen_4 20 7 (by decide) rfl (fun h1 => ?_) (fun h1 => ?_)
  · refine Viconst dX3_isFrozen_20 (0 : Int32) (by decide) 21 rfl ?_
    exact Vzret dX3_isFrozen_21 (by first | decide | exact nb_isRegister _ | exact nb_isRow _ | exact nb_isPlace _ | exact nb_within _ _ _ | exact nb_mRegister _ | exact nb_mCell _ | exact nb_mPlace _)
  · refine Vaload_n dX3_isFrozen_7 0 rfl 8 rfl ?_
    refine Vget (9) 1 dX3_isFrozen_8 11 rfl (hF.1 9 (by decide)) wk9 rfl inX3 (by decide) wd_fl_RX3_15 (v := .ref (ad G 11)) rfl ?_
    refine Vload_n dX3_isFrozen_11 1 rfl 12 rfl ?_
    refine Vldz dX3_isFrozen_12 13 rfl (hF.1 11 (by decide)) wk11 wn11 hF.2.2.1 (by first | exact (by assumption) | exact (vin_cmp2 (by assumption) (by assumption) (by decide)) | exact (vin_cell (by assumption)) | exact (vin_reg (by assumption)) | exact (vin_row (by assumption)) | exact (vin_cnt (by assumption) (by assumption) (by decide) (by decide) (by assumption)) | exact (vin_cmp (by assumption) (by assumption) (by decide)) | exact (vp_in_iff.mpr (by decide))) ?_
    refine Vifeq (fun v => (v, σ)) dX3_isFrozen_13 20 16 (by decide) rfl (fun h2 => ?_) (fun h2 => ?_)
    · refine Viconst dX3_isFrozen_20 (0 : Int32) (by decide) 21 rfl ?_
      exact Vzret dX3_isFrozen_21 (by first | decide | exact nb_isRegister _ | exact nb_isRow _ | exact nb_isPlace _ | exact nb_within _ _ _ | exact nb_mRegister _ | exact nb_mCell _ | exact nb_mPlace _)
    · refine Viconst dX3_isFrozen_16 (1 : Int32) (by decide) 17 rfl ?_
      refine Vgoto dX3_isFrozen_17 21 (by decide) ?_
      exact Vzret dX3_isFrozen_21 (by first | decide | exact nb_isRegister _ | exact nb_isRow _ | exact nb_isPlace _ | exact nb_within _ _ _ | exact nb_mRegister _ | exact nb_mCell _ | exact nb_mPlace _)
def f_X3_hasItem (σ : mS) (x1 : Int32) (x2 : Int32) : Int32 := (if (f_X5_isRow x1) = 0 then (0 : Int32) else (if x2 < 0 then (0 : Int32) else (if (σ 10 x1.toNatClampNeg) ≤ x2 then (0 : Int32) else (if (8 : Int32) ≤ x2 then (0 : Int32) else (1 : Int32)))))
theorem mw_X3_hasItem : mW yX3_hasItem cX3_hasItem 3 (some .boolean) 2 := ⟨wd_co_yX3_hasItem, wd_ini_RX3, ⟨by decide, by decide⟩, by decide +kernel, by decide⟩
set_option maxRecDepth 100000 in
set_option maxHeartbeats 4000000 in
theorem c_X3_hasItem (l : Launch) {G : gT} (hF : Full G) (σ : mS) (x1 : Int32) (x2 : Int32)  : Ct l G yX3_hasItem cX3_hasItem 3 (some .boolean) 1 [.ref (ad G 9), .int x1, .int x2] κI σ (f_X3_hasItem σ x1 x2, σ) := by
  refine Ct.ofV [(0, .ref (ad G 9)), (1, .int x1), (2, .int x2)] rfl (by decide) (Nat.le_of_ble_eq_true rfl) rfl (fun X => ?_)
  unfold f_X3_hasItem
  refine Vload_n dX3_hasItem_0 1 rfl 1 rfl ?_
  refine VcSNp dX3_hasItem_1 [.int x1] (c_X5_isRow l hF σ x1) mw_X5_isRow wd_sm_yX5_isRow wd_nml_RX3_25 (by decide) rfl rfl (Nat.le_of_ble_eq_true rfl) 4 rfl ?_
  refine Vifeq (fun v => (v, σ)) dX3_hasItem_4 31 7 (by decide) rfl (fun h1 => ?_) (fun h1 => ?_)
  · refine Viconst dX3_hasItem_31 (0 : Int32) (by decide) 32 rfl ?_
    exact Vzret dX3_hasItem_32 (by first | decide | exact nb_isRegister _ | exact nb_isRow _ | exact nb_isPlace _ | exact nb_within _ _ _ | exact nb_mRegister _ | exact nb_mCell _ | exact nb_mPlace _)
  · refine Vload_n dX3_hasItem_7 2 rfl 8 rfl ?_
    refine Viflt (fun v => (v, σ)) dX3_hasItem_8 31 11 (by decide) rfl (fun h2 => ?_) (fun h2 => ?_)
    · refine Viconst dX3_hasItem_31 (0 : Int32) (by decide) 32 rfl ?_
      exact Vzret dX3_hasItem_32 (by first | decide | exact nb_isRegister _ | exact nb_isRow _ | exact nb_isPlace _ | exact nb_within _ _ _ | exact nb_mRegister _ | exact nb_mCell _ | exact nb_mPlace _)
    · refine Vload_n dX3_hasItem_11 2 rfl 12 rfl ?_
      refine Vaload_n dX3_hasItem_12 0 rfl 13 rfl ?_
      refine Vget (9) 0 dX3_hasItem_13 16 rfl (hF.1 9 (by decide)) wk9 rfl inX3 (by decide) wd_fl_RX3_9 (v := .ref (ad G 10)) rfl ?_
      refine Vload_n dX3_hasItem_16 1 rfl 17 rfl ?_
      refine Vld dX3_hasItem_17 18 rfl (hF.1 10 (by decide)) wk10 wn10 hF.2.1 (by first | exact (by assumption) | exact (vin_cmp2 (by assumption) (by assumption) (by decide)) | exact (vin_cell (by assumption)) | exact (vin_reg (by assumption)) | exact (vin_row (by assumption)) | exact (vin_cnt (by assumption) (by assumption) (by decide) (by decide) (by assumption)) | exact (vin_cmp (by assumption) (by assumption) (by decide)) | exact (vp_in_iff.mpr (by decide))) ?_
      refine Vicge (fun v => (v, σ)) dX3_hasItem_18 31 21 (by decide) rfl (fun h3 => ?_) (fun h3 => ?_)
      · refine Viconst dX3_hasItem_31 (0 : Int32) (by decide) 32 rfl ?_
        exact Vzret dX3_hasItem_32 (by first | decide | exact nb_isRegister _ | exact nb_isRow _ | exact nb_isPlace _ | exact nb_within _ _ _ | exact nb_mRegister _ | exact nb_mCell _ | exact nb_mPlace _)
      · refine Vload_n dX3_hasItem_21 2 rfl 22 rfl ?_
        refine Vbipush dX3_hasItem_22 (8 : Int32) (by decide) 24 rfl ?_
        refine Vicge (fun v => (v, σ)) dX3_hasItem_24 31 27 (by decide) rfl (fun h4 => ?_) (fun h4 => ?_)
        · refine Viconst dX3_hasItem_31 (0 : Int32) (by decide) 32 rfl ?_
          exact Vzret dX3_hasItem_32 (by first | decide | exact nb_isRegister _ | exact nb_isRow _ | exact nb_isPlace _ | exact nb_within _ _ _ | exact nb_mRegister _ | exact nb_mCell _ | exact nb_mPlace _)
        · refine Viconst dX3_hasItem_27 (1 : Int32) (by decide) 28 rfl ?_
          refine Vgoto dX3_hasItem_28 32 (by decide) ?_
          exact Vzret dX3_hasItem_32 (by first | decide | exact nb_isRegister _ | exact nb_isRow _ | exact nb_isPlace _ | exact nb_within _ _ _ | exact nb_mRegister _ | exact nb_mCell _ | exact nb_mPlace _)
theorem vin_item {σ : mS} {x i : Int32} (h : ¬ f_X3_hasItem σ x i = 0) : vp_in (x * 8 + i) 32 := by
  unfold f_X3_hasItem at h
  by_cases h1 : f_X5_isRow x = 0
  · rw [if_pos h1] at h; exact absurd rfl h
  rw [if_neg h1] at h
  by_cases h2 : i < 0
  · rw [if_pos h2] at h; exact absurd rfl h
  rw [if_neg h2] at h
  by_cases h3 : σ 10 x.toNatClampNeg ≤ i
  · rw [if_pos h3] at h; exact absurd rfl h
  rw [if_neg h3] at h
  by_cases h4 : (8 : Int32) ≤ i
  · rw [if_pos h4] at h; exact absurd rfl h
  obtain ⟨j, hj, rfl⟩ := vp_in_of (vin_row h1) (by decide)
  obtain ⟨k, hk, rfl⟩ := vp_in_of (vin_cmp (n := 8) h2 h4 (by decide)) (by decide)
  rw [show nI j * 8 = nI (j * 8) from pk_mul j 8, nI_add]
  exact vp_in_nI (by omega) (by decide)
def f_X3_itemOf (σ : mS) (x1 : Int32) (x2 : Int32) : Int32 := (if (f_X3_hasItem σ x1 x2) = 0 then (0 : Int32) else (σ 12 ((x1 * (8 : Int32)) + x2).toNatClampNeg))
theorem mw_X3_itemOf : mW yX3_itemOf cX3_itemOf 3 (some .int) 2 := ⟨wd_co_yX3_itemOf, wd_ini_RX3, ⟨by decide, by decide⟩, by decide +kernel, by decide⟩
set_option maxRecDepth 100000 in
set_option maxHeartbeats 4000000 in
theorem c_X3_itemOf (l : Launch) {G : gT} (hF : Full G) (σ : mS) (x1 : Int32) (x2 : Int32)  : Ct l G yX3_itemOf cX3_itemOf 3 (some .int) 2 [.ref (ad G 9), .int x1, .int x2] κI σ (f_X3_itemOf σ x1 x2, σ) := by
  refine Ct.ofV [(0, .ref (ad G 9)), (1, .int x1), (2, .int x2)] rfl (by decide) (Nat.le_of_ble_eq_true rfl) rfl (fun X => ?_)
  unfold f_X3_itemOf
  refine Vaload_n dX3_itemOf_0 0 rfl 1 rfl ?_
  refine Vload_n dX3_itemOf_1 1 rfl 2 rfl ?_
  refine Vload_n dX3_itemOf_2 2 rfl 3 rfl ?_
  refine VcVp dX3_itemOf_3 [.int x1, .int x2] (c_X3_hasItem l hF σ x1 x2) mw_X3_hasItem wd_im_yX3_hasItem wd_se_yX3_hasItem wd_ml_RX3_29 (hF.1 9 (by decide)) wk9 rfl rfl (by decide) rfl rfl (Nat.le_of_ble_eq_true rfl) 6 rfl ?_
  refine Vifeq (fun v => (v, σ)) dX3_itemOf_6 23 9 (by decide) rfl (fun h1 => ?_) (fun h1 => ?_)
  · refine Viconst dX3_itemOf_23 (0 : Int32) (by decide) 24 rfl ?_
    exact Viret dX3_itemOf_24
  · refine Vaload_n dX3_itemOf_9 0 rfl 10 rfl ?_
    refine Vget (9) 2 dX3_itemOf_10 13 rfl (hF.1 9 (by decide)) wk9 rfl inX3 (by decide) wd_fl_RX3_19 (v := .ref (ad G 12)) rfl ?_
    refine Vload_n dX3_itemOf_13 1 rfl 14 rfl ?_
    refine Vbipush dX3_itemOf_14 (8 : Int32) (by decide) 16 rfl ?_
    refine Vimul dX3_itemOf_16 17 rfl ?_
    refine Vload_n dX3_itemOf_17 2 rfl 18 rfl ?_
    refine Viadd dX3_itemOf_18 19 rfl ?_
    refine Vld dX3_itemOf_19 20 rfl (hF.1 12 (by decide)) wk12 wn12 hF.2.1 (by first | exact (by assumption) | exact (vin_cmp2 (by assumption) (by assumption) (by decide)) | exact (vin_cell (by assumption)) | exact (vin_reg (by assumption)) | exact (vin_row (by assumption)) | exact (vin_cnt (by assumption) (by assumption) (by decide) (by decide) (by assumption)) | exact (vin_cmp (by assumption) (by assumption) (by decide)) | exact (vp_in_iff.mpr (by decide)) | exact (vin_item (by assumption))) ?_
    refine Vgoto dX3_itemOf_20 24 (by decide) ?_
    exact Viret dX3_itemOf_24
def f_X3_failureAt (σ : mS) (x1 : Int32) (x2 : Int32) : Int32 := (if (f_X3_length σ x1) = (-1 : Int32) then (1 : Int32) else (if (f_X3_hasItem σ x1 x2) = 0 then (3 : Int32) else (0 : Int32)))
theorem mw_X3_failureAt : mW yX3_failureAt cX3_failureAt 3 (some .int) 2 := ⟨wd_co_yX3_failureAt, wd_ini_RX3, ⟨by decide, by decide⟩, by decide +kernel, by decide⟩
set_option maxRecDepth 100000 in
set_option maxHeartbeats 4000000 in
theorem c_X3_failureAt (l : Launch) {G : gT} (hF : Full G) (σ : mS) (x1 : Int32) (x2 : Int32)  : Ct l G yX3_failureAt cX3_failureAt 3 (some .int) 2 [.ref (ad G 9), .int x1, .int x2] κI σ (f_X3_failureAt σ x1 x2, σ) := by
  refine Ct.ofV [(0, .ref (ad G 9)), (1, .int x1), (2, .int x2)] rfl (by decide) (Nat.le_of_ble_eq_true rfl) rfl (fun X => ?_)
  unfold f_X3_failureAt
  refine Vaload_n dX3_failureAt_0 0 rfl 1 rfl ?_
  refine Vload_n dX3_failureAt_1 1 rfl 2 rfl ?_
  refine VcVp dX3_failureAt_2 [.int x1] (c_X3_length l hF σ x1) mw_X3_length wd_im_yX3_length wd_se_yX3_length wd_ml_RX3_33 (hF.1 9 (by decide)) wk9 rfl rfl (by decide) rfl rfl (Nat.le_of_ble_eq_true rfl) 5 rfl ?_
  refine Viconst dX3_failureAt_5 (-1 : Int32) (by decide) 6 rfl ?_
  refine Vicne (fun v => (v, σ)) dX3_failureAt_6 11 9 (by decide) rfl (fun h1 => ?_) (fun h1 => ?_)
  · refine Vaload_n dX3_failureAt_11 0 rfl 12 rfl ?_
    refine Vload_n dX3_failureAt_12 1 rfl 13 rfl ?_
    refine Vload_n dX3_failureAt_13 2 rfl 14 rfl ?_
    refine VcVp dX3_failureAt_14 [.int x1, .int x2] (c_X3_hasItem l hF σ x1 x2) mw_X3_hasItem wd_im_yX3_hasItem wd_se_yX3_hasItem wd_ml_RX3_29 (hF.1 9 (by decide)) wk9 rfl rfl (by decide) rfl rfl (Nat.le_of_ble_eq_true rfl) 17 rfl ?_
    refine Vifeq (fun v => (v, σ)) dX3_failureAt_17 24 20 (by decide) rfl (fun h2 => ?_) (fun h2 => ?_)
    · refine Viconst dX3_failureAt_24 (3 : Int32) (by decide) 25 rfl ?_
      exact Viret dX3_failureAt_25
    · refine Viconst dX3_failureAt_20 (0 : Int32) (by decide) 21 rfl ?_
      refine Vgoto dX3_failureAt_21 25 (by decide) ?_
      exact Viret dX3_failureAt_25
  · refine Viconst dX3_failureAt_9 (1 : Int32) (by decide) 10 rfl ?_
    exact Viret dX3_failureAt_10
def f_X3_store (σ : mS) (x1 : Int32) (x2 : Int32) (x3 : Int32) : Int32 × mS := (if (f_X3_failureAt σ x1 x2) = 0 then (if (f_X3_isFrozen σ x1) = 0 then (if (f_X3_hasItem σ x1 x2) = 0 then ((0 : Int32), σ) else ((0 : Int32), (st2 σ 12 ((x1 * (8 : Int32)) + x2).toNatClampNeg x3))) else ((4 : Int32), σ)) else ((f_X3_failureAt σ x1 x2), σ))
theorem mw_X3_store : mW yX3_store cX3_store 5 (some .int) 3 := ⟨wd_co_yX3_store, wd_ini_RX3, ⟨by decide, by decide⟩, by decide +kernel, by decide⟩
set_option maxRecDepth 100000 in
set_option maxHeartbeats 4000000 in
theorem c_X3_store (l : Launch) {G : gT} (hF : Full G) (σ : mS) (x1 : Int32) (x2 : Int32) (x3 : Int32)  : Ct l G yX3_store cX3_store 5 (some .int) 3 [.ref (ad G 9), .int x1, .int x2, .int x3] κI σ (f_X3_store σ x1 x2 x3) := by
  refine Ct.ofV [(0, .ref (ad G 9)), (1, .int x1), (2, .int x2), (3, .int x3)] rfl (by decide) (Nat.le_of_ble_eq_true rfl) rfl (fun X => ?_)
  unfold f_X3_store
  refine Vaload_n dX3_store_0 0 rfl 1 rfl ?_
  refine Vload_n dX3_store_1 1 rfl 2 rfl ?_
  refine Vload_n dX3_store_2 2 rfl 3 rfl ?_
  refine VcVp dX3_store_3 [.int x1, .int x2] (c_X3_failureAt l hF σ x1 x2) mw_X3_failureAt wd_im_yX3_failureAt wd_se_yX3_failureAt wd_ml_RX3_37 (hF.1 9 (by decide)) wk9 rfl rfl (by decide) rfl rfl (Nat.le_of_ble_eq_true rfl) 6 rfl ?_
  refine Vstore dX3_store_6 [(4, .int (f_X3_failureAt σ x1 x2)), (0, .ref (ad G 9)), (1, .int x1), (2, .int x2), (3, .int x3)] 8 rfl (by decide) rfl ?_
  refine Vload dX3_store_8 0 rfl 10 rfl ?_
  refine Vifeq (fun v => v) dX3_store_10 16 13 (by decide) rfl (fun h1 => ?_) (fun h1 => ?_)
  · refine Vaload_n dX3_store_16 1 rfl 17 rfl ?_
    refine Vload_n dX3_store_17 2 rfl 18 rfl ?_
    refine VcVp dX3_store_18 [.int x1] (c_X3_isFrozen l hF σ x1) mw_X3_isFrozen wd_im_yX3_isFrozen wd_se_yX3_isFrozen wd_ml_RX3_41 (hF.1 9 (by decide)) wk9 rfl rfl (by decide) rfl rfl (Nat.le_of_ble_eq_true rfl) 21 rfl ?_
    refine Vifeq (fun v => v) dX3_store_21 26 24 (by decide) rfl (fun h2 => ?_) (fun h2 => ?_)
    · refine Vaload_n dX3_store_26 1 rfl 27 rfl ?_
      refine Vload_n dX3_store_27 2 rfl 28 rfl ?_
      refine Vload_n dX3_store_28 3 rfl 29 rfl ?_
      refine VcVp dX3_store_29 [.int x1, .int x2] (c_X3_hasItem l hF σ x1 x2) mw_X3_hasItem wd_im_yX3_hasItem wd_se_yX3_hasItem wd_ml_RX3_29 (hF.1 9 (by decide)) wk9 rfl rfl (by decide) rfl rfl (Nat.le_of_ble_eq_true rfl) 32 rfl ?_
      refine Vifeq (fun v => v) dX3_store_32 47 35 (by decide) rfl (fun h3 => ?_) (fun h3 => ?_)
      · refine Viconst dX3_store_47 (0 : Int32) (by decide) 48 rfl ?_
        exact Viret dX3_store_48
      · refine Vaload_n dX3_store_35 1 rfl 36 rfl ?_
        refine Vget (9) 2 dX3_store_36 39 rfl (hF.1 9 (by decide)) wk9 rfl inX3 (by decide) wd_fl_RX3_19 (v := .ref (ad G 12)) rfl ?_
        refine Vload_n dX3_store_39 2 rfl 40 rfl ?_
        refine Vbipush dX3_store_40 (8 : Int32) (by decide) 42 rfl ?_
        refine Vimul dX3_store_42 43 rfl ?_
        refine Vload_n dX3_store_43 3 rfl 44 rfl ?_
        refine Viadd dX3_store_44 45 rfl ?_
        refine Vload_n dX3_store_45 4 rfl 46 rfl ?_
        refine Vst dX3_store_46 47 rfl (hF.1 12 (by decide)) wk12 wn12 hF.2.1 (by first | exact (by assumption) | exact (vin_cmp2 (by assumption) (by assumption) (by decide)) | exact (vin_cell (by assumption)) | exact (vin_reg (by assumption)) | exact (vin_row (by assumption)) | exact (vin_cnt (by assumption) (by assumption) (by decide) (by decide) (by assumption)) | exact (vin_cmp (by assumption) (by assumption) (by decide)) | exact (vp_in_iff.mpr (by decide)) | exact (vin_item (by assumption))) ?_
        refine Viconst dX3_store_47 (0 : Int32) (by decide) 48 rfl ?_
        exact Viret dX3_store_48
    · refine Viconst dX3_store_24 (4 : Int32) (by decide) 25 rfl ?_
      exact Viret dX3_store_25
  · refine Vload dX3_store_13 0 rfl 15 rfl ?_
    exact Viret dX3_store_15
def f_J7_rangeCheck_23922 (σ : mS) (x0 : Int32) (x1 : Int32) (x2 : Int32) : Int32 × mS := (0, σ)
theorem mw_J7_rangeCheck_23922 : mW yJ7_rangeCheck_23922 cJ7_rangeCheck_23922 3 none 3 := ⟨wd_co_yJ7_rangeCheck_23922, wd_ini_RJ7, ⟨by decide, by decide⟩, by decide +kernel, by decide⟩
set_option maxRecDepth 100000 in
set_option maxHeartbeats 4000000 in
theorem c_J7_rangeCheck_23922 (l : Launch) {G : gT}  (σ : mS) (x0 : Int32) (x1 : Int32) (x2 : Int32) (hr1 : x1 ≤ x2) (hr2 : 0 ≤ x1) (hr3 : x2 ≤ x0) : Ct l G yJ7_rangeCheck_23922 cJ7_rangeCheck_23922 3 none 1 [.int x0, .int x1, .int x2] κV σ (f_J7_rangeCheck_23922 σ x0 x1 x2) := by
  refine Ct.ofV [(0, .int x0), (1, .int x1), (2, .int x2)] rfl (by decide) (Nat.le_of_ble_eq_true rfl) rfl (fun X => ?_)
  unfold f_J7_rangeCheck_23922
  refine Vload_n dJ7_rangeCheck_23922_0 1 rfl 1 rfl ?_
  refine Vload_n dJ7_rangeCheck_23922_1 2 rfl 2 rfl ?_
  refine Kiclet dJ7_rangeCheck_23922_2 46 (by decide) hr1 ?_
  refine Vload_n dJ7_rangeCheck_23922_46 1 rfl 47 rfl ?_
  refine Kifget dJ7_rangeCheck_23922_47 59 (by decide) hr2 ?_
  refine Vload_n dJ7_rangeCheck_23922_59 2 rfl 60 rfl ?_
  refine Vload_n dJ7_rangeCheck_23922_60 0 rfl 61 rfl ?_
  refine Kiclet dJ7_rangeCheck_23922_61 73 (by decide) hr3 ?_
  exact Vvret dJ7_rangeCheck_23922_73
def l_J7_fill_fda19_10 : Nat → Int32 → mS → Nat → Nat → Int32 → Int32 → Int32 → Int32 × mS
  | 0, y4, σ, _, _, _, _, _ => (0, σ)
  | n + 1, y4, σ, q, len, x1, x2, x3 => (if x2 ≤ y4 then (0, σ) else (l_J7_fill_fda19_10 n (y4 + 1) (st2 σ q y4.toNatClampNeg x3) q len x1 x2 x3))
set_option maxRecDepth 100000 in
set_option maxHeartbeats 4000000 in
theorem vl_J7_fill_fda19_10 (l : Launch) {G : gT} (X : xT) (hT0 : (gY G)[0]? = some ((gC G).1, .int)) (q : Nat) (len : Nat) (x1 : Int32) (x2 : Int32) (x3 : Int32) (hq : q ∈ gI G) (hk : wK q = 0) (hlen : wN q = len) (h31 : len < 2 ^ 31) (lo : Nat) (hi2 : Nat) (hlo : x1 = nI lo) (hhi : x2 = nI hi2) (hlh : lo ≤ hi2) (hhl : hi2 ≤ len) : ∀ (n : Nat) (y4 : Int32) (σ : mS) (i : Nat) (hc : y4 = nI i) (hi : i ≤ hi2) (hn : hi2 + 1 ≤ n + i), V l G X RJ7 cJ7_fill_fda19 5 2 none κV ((fun v => v) (l_J7_fill_fda19_10 n y4 σ q len x1 x2 x3)) σ 10 [(0, .ref (ad G q)), (1, .int x1), (2, .int x2), (3, .int x3), (4, .int y4)] [] := by
  intro n
  induction n with
  | zero => intro y4 σ i hc hi hn; exact absurd hn (by omega)
  | succ n ih =>
    intro y4 σ i hc hi hn
    rw [l_J7_fill_fda19_10.eq_2]
    refine Vload dJ7_fill_fda19_10 4 rfl 12 rfl ?_
    refine Vload_n dJ7_fill_fda19_12 2 rfl 13 rfl ?_
    refine Vicge (fun v => v) dJ7_fill_fda19_13 27 16 (by decide) rfl (fun h2 => ?_) (fun h2 => ?_)
    · exact Vvret dJ7_fill_fda19_27
    · refine Vaload_n dJ7_fill_fda19_16 0 rfl 17 rfl ?_
      refine Vload dJ7_fill_fda19_17 4 rfl 19 rfl ?_
      refine Vload_n dJ7_fill_fda19_19 3 rfl 20 rfl ?_
      refine Vst dJ7_fill_fda19_20 21 rfl hq hk hlen hT0 (vin_cnt hc (by assumption) (K := x2) (by rw [hhi]; exact nI_toInt (by omega)) (by omega) hi |> fun z => vin_le z hhl) ?_
      refine Viinc dJ7_fill_fda19_21 (y4 + 1) 4 [(4, .int (y4 + 1)), (0, .ref (ad G q)), (1, .int x1), (2, .int x2), (3, .int x3)] 24 rfl rfl rfl (by decide) rfl ?_
      refine Vgoto dJ7_fill_fda19_24 10 (by decide) ?_
      refine Vlv [1, 2, 3, 4, 0] rfl ?_
      exact ih (y4 + 1) (st2 σ q y4.toNatClampNeg x3) (i + 1) (cnt_s hc) (cnt_lt hc (by assumption) (K := x2) (by rw [hhi]; exact nI_toInt (by omega)) (by omega) hi) (by omega)
def f_J7_fill_fda19 (σ : mS) (q : Nat) (len : Nat) (x1 : Int32) (x2 : Int32) (x3 : Int32) : Int32 × mS := (ap (fun u1 => (l_J7_fill_fda19_10 (len + 1) x1 u1.2 q len x1 x2 x3)) (f_J7_rangeCheck_23922 σ (nI len) x1 x2))
theorem mw_J7_fill_fda19 : mW yJ7_fill_fda19 cJ7_fill_fda19 5 none 4 := ⟨wd_co_yJ7_fill_fda19, wd_ini_RJ7, ⟨by decide, by decide⟩, by decide +kernel, by decide⟩
set_option maxRecDepth 100000 in
set_option maxHeartbeats 4000000 in
theorem c_J7_fill_fda19 (l : Launch) {G : gT} (hT0 : (gY G)[0]? = some ((gC G).1, .int)) (σ : mS) (q : Nat) (len : Nat) (x1 : Int32) (x2 : Int32) (x3 : Int32) (hq : q ∈ gI G) (hk : wK q = 0) (hlen : wN q = len) (h31 : len < 2 ^ 31) (lo : Nat) (hi2 : Nat) (hlo : x1 = nI lo) (hhi : x2 = nI hi2) (hlh : lo ≤ hi2) (hhl : hi2 ≤ len) : Ct l G yJ7_fill_fda19 cJ7_fill_fda19 5 none 2 [.ref (ad G q), .int x1, .int x2, .int x3] κV σ (f_J7_fill_fda19 σ q len x1 x2 x3) := by
  refine Ct.ofV [(0, .ref (ad G q)), (1, .int x1), (2, .int x2), (3, .int x3)] rfl (by decide) (Nat.le_of_ble_eq_true rfl) rfl (fun X => ?_)
  unfold f_J7_fill_fda19
  refine Vaload_n dJ7_fill_fda19_0 0 rfl 1 rfl ?_
  refine Vlen dJ7_fill_fda19_1 (nI len) 2 rfl hq hk hlen hT0 rfl ?_
  refine Vload_n dJ7_fill_fda19_2 1 rfl 3 rfl ?_
  refine Vload_n dJ7_fill_fda19_3 2 rfl 4 rfl ?_
  refine Vgen ?_
  intro u1 eu1
  refine VcSv (u := u1) dJ7_fill_fda19_4 [.int (nI len), .int x1, .int x2] (by rw [eu1]; exact c_J7_rangeCheck_23922 l  σ (nI len) x1 x2 (by rw [hlo, hhi]; exact nI_le hlh (by omega)) (by rw [hlo]; exact nI_pos' (by omega)) (by rw [hhi]; exact nI_le hhl h31)) mw_J7_rangeCheck_23922 wd_sm_yJ7_rangeCheck_23922 wd_ml_RJ7_13 (by decide) rfl rfl (Nat.le_of_ble_eq_true rfl) 7 rfl ?_
  refine Vload_n dJ7_fill_fda19_7 1 rfl 8 rfl ?_
  refine Vstore dJ7_fill_fda19_8 [(4, .int x1), (0, .ref (ad G q)), (1, .int x1), (2, .int x2), (3, .int x3)] 10 rfl (by decide) rfl ?_
  refine Vlv [1, 2, 3, 4, 0] rfl ?_
  exact vl_J7_fill_fda19_10 l X hT0 q len x1 x2 x3 hq hk hlen h31 lo hi2 hlo hhi hlh hhl (len + 1) x1 u1.2 lo hlo hlh (by omega)
theorem row8 {x : Int32} (h : ¬ f_X5_isRow x = 0) : ∃ r : Nat, x * 8 = nI r ∧ x * 8 + 8 = nI (r + 8) ∧ r + 8 ≤ 32 := by
  obtain ⟨j, hj, rfl⟩ := vp_in_of (vin_row h) (by decide)
  refine ⟨j * 8, pk_mul j 8, ?_, by omega⟩
  rw [show nI j * 8 = nI (j * 8) from pk_mul j 8]; exact nI_add _ 8
def f_X3_make (σ : mS) (x1 : Int32) (x2 : Int32) : Int32 × mS := (if 0 ≤ x2 then (if x2 ≤ (8 : Int32) then (if (f_X5_isRow x1) = 0 then ((0 : Int32), σ) else (ap (fun u4 => ((0 : Int32), (st2 (st2 u4.2 10 x1.toNatClampNeg x2) 11 x1.toNatClampNeg (0 : Int32)))) (f_J7_fill_fda19 σ 12 32 (x1 * (8 : Int32)) ((x1 * (8 : Int32)) + (8 : Int32)) (0 : Int32)))) else ((7 : Int32), σ)) else ((6 : Int32), σ))
theorem mw_X3_make : mW yX3_make cX3_make 3 (some .int) 2 := ⟨wd_co_yX3_make, wd_ini_RX3, ⟨by decide, by decide⟩, by decide +kernel, by decide⟩
set_option maxRecDepth 100000 in
set_option maxHeartbeats 4000000 in
theorem c_X3_make (l : Launch) {G : gT} (hF : Full G) (σ : mS) (x1 : Int32) (x2 : Int32)  : Ct l G yX3_make cX3_make 3 (some .int) 3 [.ref (ad G 9), .int x1, .int x2] κI σ (f_X3_make σ x1 x2) := by
  refine Ct.ofV [(0, .ref (ad G 9)), (1, .int x1), (2, .int x2)] rfl (by decide) (Nat.le_of_ble_eq_true rfl) rfl (fun X => ?_)
  unfold f_X3_make
  refine Vload_n dX3_make_0 2 rfl 1 rfl ?_
  refine Vifge (fun v => v) dX3_make_1 7 4 (by decide) rfl (fun h1 => ?_) (fun h1 => ?_)
  · refine Vload_n dX3_make_7 2 rfl 8 rfl ?_
    refine Vbipush dX3_make_8 (8 : Int32) (by decide) 10 rfl ?_
    refine Vicle (fun v => v) dX3_make_10 16 13 (by decide) rfl (fun h2 => ?_) (fun h2 => ?_)
    · refine Vload_n dX3_make_16 1 rfl 17 rfl ?_
      refine VcSNp dX3_make_17 [.int x1] (c_X5_isRow l hF σ x1) mw_X5_isRow wd_sm_yX5_isRow wd_nml_RX3_25 (by decide) rfl rfl (Nat.le_of_ble_eq_true rfl) 20 rfl ?_
      refine Vifeq (fun v => v) dX3_make_20 56 23 (by decide) rfl (fun h3 => ?_) (fun h3 => ?_)
      · refine Viconst dX3_make_56 (0 : Int32) (by decide) 57 rfl ?_
        exact Viret dX3_make_57
      · refine Vaload_n dX3_make_23 0 rfl 24 rfl ?_
        refine Vget (9) 2 dX3_make_24 27 rfl (hF.1 9 (by decide)) wk9 rfl inX3 (by decide) wd_fl_RX3_19 (v := .ref (ad G 12)) rfl ?_
        refine Vload_n dX3_make_27 1 rfl 28 rfl ?_
        refine Vbipush dX3_make_28 (8 : Int32) (by decide) 30 rfl ?_
        refine Vimul dX3_make_30 31 rfl ?_
        refine Vload_n dX3_make_31 1 rfl 32 rfl ?_
        refine Vbipush dX3_make_32 (8 : Int32) (by decide) 34 rfl ?_
        refine Vimul dX3_make_34 35 rfl ?_
        refine Vbipush dX3_make_35 (8 : Int32) (by decide) 37 rfl ?_
        refine Viadd dX3_make_37 38 rfl ?_
        refine Viconst dX3_make_38 (0 : Int32) (by decide) 39 rfl ?_
        refine Vgen ?_
        intro u4 eu4
        refine VcSv (u := u4) dX3_make_39 [.ref (ad G 12), .int (x1 * (8 : Int32)), .int ((x1 * (8 : Int32)) + (8 : Int32)), .int (0 : Int32)] (by rw [eu4]; exact c_J7_fill_fda19 l hF.2.1 σ 12 32 (x1 * (8 : Int32)) ((x1 * (8 : Int32)) + (8 : Int32)) (0 : Int32) (hF.1 12 (by decide)) wk12 wn12 (by decide) (row8 (by assumption)).choose ((row8 (by assumption)).choose + 8) (row8 (by assumption)).choose_spec.1 (row8 (by assumption)).choose_spec.2.1 (by omega) (row8 (by assumption)).choose_spec.2.2) mw_J7_fill_fda19 wd_sm_yJ7_fill_fda19 wd_ml_RX3_44 (by decide) rfl rfl (Nat.le_of_ble_eq_true rfl) 42 rfl ?_
        refine Vaload_n dX3_make_42 0 rfl 43 rfl ?_
        refine Vget (9) 0 dX3_make_43 46 rfl (hF.1 9 (by decide)) wk9 rfl inX3 (by decide) wd_fl_RX3_9 (v := .ref (ad G 10)) rfl ?_
        refine Vload_n dX3_make_46 1 rfl 47 rfl ?_
        refine Vload_n dX3_make_47 2 rfl 48 rfl ?_
        refine Vst dX3_make_48 49 rfl (hF.1 10 (by decide)) wk10 wn10 hF.2.1 (by first | exact (by assumption) | exact (vin_cmp2 (by assumption) (by assumption) (by decide)) | exact (vin_cell (by assumption)) | exact (vin_reg (by assumption)) | exact (vin_row (by assumption)) | exact (vin_cnt (by assumption) (by assumption) (by decide) (by decide) (by assumption)) | exact (vin_cmp (by assumption) (by assumption) (by decide)) | exact (vp_in_iff.mpr (by decide))) ?_
        refine Vaload_n dX3_make_49 0 rfl 50 rfl ?_
        refine Vget (9) 1 dX3_make_50 53 rfl (hF.1 9 (by decide)) wk9 rfl inX3 (by decide) wd_fl_RX3_15 (v := .ref (ad G 11)) rfl ?_
        refine Vload_n dX3_make_53 1 rfl 54 rfl ?_
        refine Viconst dX3_make_54 (0 : Int32) (by decide) 55 rfl ?_
        refine Vstz dX3_make_55 56 rfl (hF.1 11 (by decide)) wk11 wn11 hF.2.2.1 (by first | exact (by assumption) | exact (vin_cmp2 (by assumption) (by assumption) (by decide)) | exact (vin_cell (by assumption)) | exact (vin_reg (by assumption)) | exact (vin_row (by assumption)) | exact (vin_cnt (by assumption) (by assumption) (by decide) (by decide) (by assumption)) | exact (vin_cmp (by assumption) (by assumption) (by decide)) | exact (vp_in_iff.mpr (by decide))) (by decide) ?_
        refine Viconst dX3_make_56 (0 : Int32) (by decide) 57 rfl ?_
        exact Viret dX3_make_57
    · refine Vbipush dX3_make_13 (7 : Int32) (by decide) 15 rfl ?_
      exact Viret dX3_make_15
  · refine Vbipush dX3_make_4 (6 : Int32) (by decide) 6 rfl ?_
    exact Viret dX3_make_6
def f_X3_freeze (σ : mS) (x1 : Int32) : Int32 × mS := (if (f_X5_isRow x1) = 0 then ((1 : Int32), σ) else (if (σ 10 x1.toNatClampNeg) = (-1 : Int32) then ((1 : Int32), σ) else ((0 : Int32), (st2 σ 11 x1.toNatClampNeg (1 : Int32)))))
theorem mw_X3_freeze : mW yX3_freeze cX3_freeze 2 (some .int) 1 := ⟨wd_co_yX3_freeze, wd_ini_RX3, ⟨by decide, by decide⟩, by decide +kernel, by decide⟩
set_option maxRecDepth 100000 in
set_option maxHeartbeats 4000000 in
theorem c_X3_freeze (l : Launch) {G : gT} (hF : Full G) (σ : mS) (x1 : Int32)  : Ct l G yX3_freeze cX3_freeze 2 (some .int) 1 [.ref (ad G 9), .int x1] κI σ (f_X3_freeze σ x1) := by
  refine Ct.ofV [(0, .ref (ad G 9)), (1, .int x1)] rfl (by decide) (Nat.le_of_ble_eq_true rfl) rfl (fun X => ?_)
  unfold f_X3_freeze
  refine Vload_n dX3_freeze_0 1 rfl 1 rfl ?_
  refine VcSNp dX3_freeze_1 [.int x1] (c_X5_isRow l hF σ x1) mw_X5_isRow wd_sm_yX5_isRow wd_nml_RX3_25 (by decide) rfl rfl (Nat.le_of_ble_eq_true rfl) 4 rfl ?_
  refine Vifeq (fun v => v) dX3_freeze_4 17 7 (by decide) rfl (fun h1 => ?_) (fun h1 => ?_)
  · refine Viconst dX3_freeze_17 (1 : Int32) (by decide) 18 rfl ?_
    exact Viret dX3_freeze_18
  · refine Vaload_n dX3_freeze_7 0 rfl 8 rfl ?_
    refine Vget (9) 0 dX3_freeze_8 11 rfl (hF.1 9 (by decide)) wk9 rfl inX3 (by decide) wd_fl_RX3_9 (v := .ref (ad G 10)) rfl ?_
    refine Vload_n dX3_freeze_11 1 rfl 12 rfl ?_
    refine Vld dX3_freeze_12 13 rfl (hF.1 10 (by decide)) wk10 wn10 hF.2.1 (by first | exact (by assumption) | exact (vin_cmp2 (by assumption) (by assumption) (by decide)) | exact (vin_cell (by assumption)) | exact (vin_reg (by assumption)) | exact (vin_row (by assumption)) | exact (vin_cnt (by assumption) (by assumption) (by decide) (by decide) (by assumption)) | exact (vin_cmp (by assumption) (by assumption) (by decide)) | exact (vp_in_iff.mpr (by decide))) ?_
    refine Viconst dX3_freeze_13 (-1 : Int32) (by decide) 14 rfl ?_
    refine Vicne (fun v => v) dX3_freeze_14 19 17 (by decide) rfl (fun h2 => ?_) (fun h2 => ?_)
    · refine Vaload_n dX3_freeze_19 0 rfl 20 rfl ?_
      refine Vget (9) 1 dX3_freeze_20 23 rfl (hF.1 9 (by decide)) wk9 rfl inX3 (by decide) wd_fl_RX3_15 (v := .ref (ad G 11)) rfl ?_
      refine Vload_n dX3_freeze_23 1 rfl 24 rfl ?_
      refine Viconst dX3_freeze_24 (1 : Int32) (by decide) 25 rfl ?_
      refine Vstz dX3_freeze_25 26 rfl (hF.1 11 (by decide)) wk11 wn11 hF.2.2.1 (by first | exact (by assumption) | exact (vin_cmp2 (by assumption) (by assumption) (by decide)) | exact (vin_cell (by assumption)) | exact (vin_reg (by assumption)) | exact (vin_row (by assumption)) | exact (vin_cnt (by assumption) (by assumption) (by decide) (by decide) (by assumption)) | exact (vin_cmp (by assumption) (by assumption) (by decide)) | exact (vp_in_iff.mpr (by decide))) (by decide) ?_
      refine Viconst dX3_freeze_26 (0 : Int32) (by decide) 27 rfl ?_
      exact Viret dX3_freeze_27
    · refine Viconst dX3_freeze_17 (1 : Int32) (by decide) 18 rfl ?_
      exact Viret dX3_freeze_18
