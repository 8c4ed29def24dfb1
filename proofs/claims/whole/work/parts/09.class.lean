def f_X5_strandOf (x1 : Int32) : Int32 := (if x1 < 0 then -1 else (if (3 : Int32) ≤ x1 then -1 else x1))
theorem mw_X5_strandOf : mW yX5_strandOf cX5_strandOf 2 (some (.object "MutableCells$Strand")) 1 := ⟨wd_co_yX5_strandOf, wd_ini_RX5, ⟨by decide, by decide⟩, by decide +kernel, by decide⟩
set_option maxRecDepth 100000 in
set_option maxHeartbeats 4000000 in
theorem c_X5_strandOf (l : Launch) {G : gT} (hF : Full G) (σ : mS) (x1 : Int32)  : Ct l G yX5_strandOf cX5_strandOf 2 (some (.object "MutableCells$Strand")) 0 [.ref (ad G 0), .int x1] (κR G) σ (f_X5_strandOf x1, σ) := by
  refine Ct.ofV [(0, .ref (ad G 0)), (1, .int x1)] rfl (by decide) (Nat.le_of_ble_eq_true rfl) rfl (fun X => ?_)
  unfold f_X5_strandOf
  refine Vload_n dX5_strandOf_0 1 rfl 1 rfl ?_
  refine Viflt (fun v => (v, σ)) dX5_strandOf_1 22 4 (by decide) rfl (fun h1 => ?_) (fun h1 => ?_)
  · refine Vnull dX5_strandOf_22 23 rfl ?_
    exact VaretN dX5_strandOf_23
  · refine Vload_n dX5_strandOf_4 1 rfl 5 rfl ?_
    refine Vaload_n dX5_strandOf_5 0 rfl 6 rfl ?_
    refine Vget (0) 2 dX5_strandOf_6 9 rfl (hF.1 0 (by decide)) wk0 rfl inX5 (by decide) wd_fl_RX5_25 (v := .ref (ad G 13)) rfl ?_
    refine Vlens dX5_strandOf_9 10 rfl (hF.1 13 (by decide)) hF.2.2.2 ?_
    refine Vicge (fun v => (v, σ)) dX5_strandOf_10 22 13 (by decide) rfl (fun h2 => ?_) (fun h2 => ?_)
    · refine Vnull dX5_strandOf_22 23 rfl ?_
      exact VaretN dX5_strandOf_23
    · refine Vaload_n dX5_strandOf_13 0 rfl 14 rfl ?_
      refine Vget (0) 2 dX5_strandOf_14 17 rfl (hF.1 0 (by decide)) wk0 rfl inX5 (by decide) wd_fl_RX5_25 (v := .ref (ad G 13)) rfl ?_
      refine Vload_n dX5_strandOf_17 1 rfl 18 rfl ?_
      refine Vlds dX5_strandOf_18 19 rfl (hF.1 13 (by decide)) hF.2.2.2 (by first | exact (by assumption) | exact (vin_cmp2 (by assumption) (by assumption) (by decide)) | exact (vin_cell (by assumption)) | exact (vin_reg (by assumption)) | exact (vin_row (by assumption)) | exact (vin_cnt (by assumption) (by assumption) (by decide) (by decide) (by assumption)) | exact (vin_cmp (by assumption) (by assumption) (by decide)) | exact (vp_in_iff.mpr (by decide))) ?_
      refine Vgoto dX5_strandOf_19 23 (by decide) ?_
      exact Varet dX5_strandOf_23 ((sI x1)) (κR_pos (by assumption))
theorem sq_strandOf {x : Int32} (h : ¬ f_X5_strandOf x = -1) : sQ (sI (f_X5_strandOf x)) := by
  unfold f_X5_strandOf at h ⊢
  by_cases h1 : x < 0
  · rw [if_pos h1] at h; exact absurd rfl h
  · rw [if_neg h1] at h ⊢
    by_cases h2 : (3 : Int32) ≤ x
    · rw [if_pos h2] at h; exact absurd rfl h
    · rw [if_neg h2]; exact sQ_cmp h1 h2
def f_X5_isPlace (x0 : Int32) : Int32 := (if x0 < 0 then (0 : Int32) else (if (24 : Int32) < x0 then (0 : Int32) else (1 : Int32)))
theorem mw_X5_isPlace : mW yX5_isPlace cX5_isPlace 1 (some .boolean) 1 := ⟨wd_co_yX5_isPlace, wd_ini_RX5, ⟨by decide, by decide⟩, by decide +kernel, by decide⟩
set_option maxRecDepth 100000 in
set_option maxHeartbeats 4000000 in
theorem c_X5_isPlace (l : Launch) {G : gT} (hF : Full G) (σ : mS) (x0 : Int32)  : Ct l G yX5_isPlace cX5_isPlace 1 (some .boolean) 0 [.int x0] κI σ (f_X5_isPlace x0, σ) := by
  refine Ct.ofV [(0, .int x0)] rfl (by decide) (Nat.le_of_ble_eq_true rfl) rfl (fun X => ?_)
  unfold f_X5_isPlace
  refine Vload_n dX5_isPlace_0 0 rfl 1 rfl ?_
  refine Viflt (fun v => (v, σ)) dX5_isPlace_1 14 4 (by decide) rfl (fun h1 => ?_) (fun h1 => ?_)
  · refine Viconst dX5_isPlace_14 (0 : Int32) (by decide) 15 rfl ?_
    exact Vzret dX5_isPlace_15 (by first | decide | exact nb_isRegister _ | exact nb_isRow _ | exact nb_isPlace _ | exact nb_within _ _ _ | exact nb_mRegister _ | exact nb_mCell _ | exact nb_mPlace _)
  · refine Vload_n dX5_isPlace_4 0 rfl 5 rfl ?_
    refine Vbipush dX5_isPlace_5 (24 : Int32) (by decide) 7 rfl ?_
    refine Vicgt (fun v => (v, σ)) dX5_isPlace_7 14 10 (by decide) rfl (fun h2 => ?_) (fun h2 => ?_)
    · refine Viconst dX5_isPlace_14 (0 : Int32) (by decide) 15 rfl ?_
      exact Vzret dX5_isPlace_15 (by first | decide | exact nb_isRegister _ | exact nb_isRow _ | exact nb_isPlace _ | exact nb_within _ _ _ | exact nb_mRegister _ | exact nb_mCell _ | exact nb_mPlace _)
    · refine Viconst dX5_isPlace_10 (1 : Int32) (by decide) 11 rfl ?_
      refine Vgoto dX5_isPlace_11 15 (by decide) ?_
      exact Vzret dX5_isPlace_15 (by first | decide | exact nb_isRegister _ | exact nb_isRow _ | exact nb_isPlace _ | exact nb_within _ _ _ | exact nb_mRegister _ | exact nb_mCell _ | exact nb_mPlace _)
theorem nb_isPlace (x : Int32) : narrow .boolean (.int (f_X5_isPlace x)) = .int (f_X5_isPlace x) := by unfold f_X5_isPlace; (repeat' split) <;> rfl
def f_X5_mayBe (x0 : Int32) (x1 : Int32) (x2 : Int32) (x3 : Int32) : Int32 := (if x0 = (0 : Int32) then (f_X5_isRegister x1) else (if x0 = (1 : Int32) then (if (f_X5_isRegister x1) = 0 then (0 : Int32) else (if (f_X5_isCell x2) = 0 then (0 : Int32) else (1 : Int32))) else (if x0 = (2 : Int32) then (if (f_X5_isCell x1) = 0 then (0 : Int32) else (if (f_X5_isRegister x2) = 0 then (0 : Int32) else (1 : Int32))) else (if x0 = (3 : Int32) then (if (f_X5_isRegister x1) = 0 then (0 : Int32) else (if (f_X5_isRegister x2) = 0 then (0 : Int32) else (if (f_X5_isRegister x3) = 0 then (0 : Int32) else (1 : Int32)))) else (if x0 = (4 : Int32) then (if (f_X5_isRegister x1) = 0 then (0 : Int32) else (if (f_X5_isRegister x2) = 0 then (0 : Int32) else (if (f_X5_isRegister x3) = 0 then (0 : Int32) else (1 : Int32)))) else (if x0 = (5 : Int32) then (if (f_X5_isRegister x1) = 0 then (0 : Int32) else (if (f_X5_isRegister x2) = 0 then (0 : Int32) else (if (f_X5_isRegister x3) = 0 then (0 : Int32) else (1 : Int32)))) else (if x0 = (6 : Int32) then (if (f_X5_isRegister x1) = 0 then (0 : Int32) else (if (f_X5_isRegister x2) = 0 then (0 : Int32) else (if (f_X5_isRegister x3) = 0 then (0 : Int32) else (1 : Int32)))) else (if x0 = (7 : Int32) then (if (f_X5_isRegister x1) = 0 then (0 : Int32) else (if (f_X5_isRow x2) = 0 then (0 : Int32) else (if (f_X5_isRegister x3) = 0 then (0 : Int32) else (1 : Int32)))) else (if x0 = (8 : Int32) then (if (f_X5_isRow x1) = 0 then (0 : Int32) else (if (f_X5_isRegister x2) = 0 then (0 : Int32) else (if (f_X5_isRegister x3) = 0 then (0 : Int32) else (1 : Int32)))) else (if x0 = (9 : Int32) then (if (f_X5_isCell x1) = 0 then (0 : Int32) else (if (f_X5_isRegister x2) = 0 then (0 : Int32) else (if (f_X5_isRegister x3) = 0 then (0 : Int32) else (1 : Int32)))) else (if x0 = (10 : Int32) then (f_X5_isPlace x1) else (if x0 = (11 : Int32) then (if (f_X5_isRegister x1) = 0 then (0 : Int32) else (if (f_X5_isPlace x2) = 0 then (0 : Int32) else (1 : Int32))) else (if x0 = (12 : Int32) then (1 : Int32) else (if x0 = (13 : Int32) then (1 : Int32) else (if x0 = (14 : Int32) then (f_X5_isPlace x1) else (if x0 = (15 : Int32) then (1 : Int32) else (if x0 = (16 : Int32) then (f_X5_isRegister x1) else (if x0 = (17 : Int32) then (if (f_X5_isRow x1) = 0 then (0 : Int32) else (if (f_X5_isRegister x2) = 0 then (0 : Int32) else (1 : Int32))) else (if x0 = (18 : Int32) then (f_X5_isRow x1) else (if x0 = (19 : Int32) then (if (f_X5_isCell x1) = 0 then (0 : Int32) else (if (f_X5_isCell x2) = 0 then (0 : Int32) else (1 : Int32))) else (0 : Int32)))))))))))))))))))))
theorem mw_X5_mayBe : mW yX5_mayBe cX5_mayBe 4 (some .boolean) 4 := ⟨wd_co_yX5_mayBe, wd_ini_RX5, ⟨by decide, by decide⟩, by decide +kernel, by decide⟩
set_option maxRecDepth 100000 in
set_option maxHeartbeats 4000000 in
theorem c_X5_mayBe (l : Launch) {G : gT} (hF : Full G) (σ : mS) (x0 : Int32) (x1 : Int32) (x2 : Int32) (x3 : Int32)  : Ct l G yX5_mayBe cX5_mayBe 4 (some .boolean) 1 [.int x0, .int x1, .int x2, .int x3] κI σ (f_X5_mayBe x0 x1 x2 x3, σ) := by
  refine Ct.ofV [(0, .int x0), (1, .int x1), (2, .int x2), (3, .int x3)] rfl (by decide) (Nat.le_of_ble_eq_true rfl) rfl (fun X => ?_)
  unfold f_X5_mayBe
  refine Vload_n dX5_mayBe_0 0 rfl 1 rfl ?_
  refine Vif (fun v => (v, σ)) (fun h1 => ?_) (fun h1 => ?_)
  · refine Vswin dX5_mayBe_1 96 (by rw [h1]; decide) (by rw [h1]; decide) (off := 95) (by rw [h1]; rfl) (by decide) ?_
    refine Vload_n dX5_mayBe_96 1 rfl 97 rfl ?_
    refine VcSp dX5_mayBe_97 [.int x1] (c_X5_isRegister l hF σ x1) mw_X5_isRegister wd_sm_yX5_isRegister wd_ml_RX5_87 (by decide) rfl rfl (Nat.le_of_ble_eq_true rfl) 100 rfl ?_
    exact Vzret dX5_mayBe_100 (by first | decide | exact nb_isRegister _ | exact nb_isRow _ | exact nb_isPlace _ | exact nb_within _ _ _ | exact nb_mRegister _ | exact nb_mCell _ | exact nb_mPlace _)
  refine Vif (fun v => (v, σ)) (fun h2 => ?_) (fun h2 => ?_)
  · refine Vswin dX5_mayBe_1 101 (by rw [h2]; decide) (by rw [h2]; decide) (off := 100) (by rw [h2]; rfl) (by decide) ?_
    refine Vload_n dX5_mayBe_101 1 rfl 102 rfl ?_
    refine VcSp dX5_mayBe_102 [.int x1] (c_X5_isRegister l hF σ x1) mw_X5_isRegister wd_sm_yX5_isRegister wd_ml_RX5_87 (by decide) rfl rfl (Nat.le_of_ble_eq_true rfl) 105 rfl ?_
    refine Vifeq (fun v => (v, σ)) dX5_mayBe_105 119 108 (by decide) rfl (fun h3 => ?_) (fun h3 => ?_)
    · refine Viconst dX5_mayBe_119 (0 : Int32) (by decide) 120 rfl ?_
      exact Vzret dX5_mayBe_120 (by first | decide | exact nb_isRegister _ | exact nb_isRow _ | exact nb_isPlace _ | exact nb_within _ _ _ | exact nb_mRegister _ | exact nb_mCell _ | exact nb_mPlace _)
    · refine Vload_n dX5_mayBe_108 2 rfl 109 rfl ?_
      refine VcSp dX5_mayBe_109 [.int x2] (c_X5_isCell l hF σ x2) mw_X5_isCell wd_sm_yX5_isCell wd_ml_RX5_95 (by decide) rfl rfl (Nat.le_of_ble_eq_true rfl) 112 rfl ?_
      refine Vifeq (fun v => (v, σ)) dX5_mayBe_112 119 115 (by decide) rfl (fun h4 => ?_) (fun h4 => ?_)
      · refine Viconst dX5_mayBe_119 (0 : Int32) (by decide) 120 rfl ?_
        exact Vzret dX5_mayBe_120 (by first | decide | exact nb_isRegister _ | exact nb_isRow _ | exact nb_isPlace _ | exact nb_within _ _ _ | exact nb_mRegister _ | exact nb_mCell _ | exact nb_mPlace _)
      · refine Viconst dX5_mayBe_115 (1 : Int32) (by decide) 116 rfl ?_
        refine Vgoto dX5_mayBe_116 120 (by decide) ?_
        exact Vzret dX5_mayBe_120 (by first | decide | exact nb_isRegister _ | exact nb_isRow _ | exact nb_isPlace _ | exact nb_within _ _ _ | exact nb_mRegister _ | exact nb_mCell _ | exact nb_mPlace _)
  refine Vif (fun v => (v, σ)) (fun h5 => ?_) (fun h5 => ?_)
  · refine Vswin dX5_mayBe_1 121 (by rw [h5]; decide) (by rw [h5]; decide) (off := 120) (by rw [h5]; rfl) (by decide) ?_
    refine Vload_n dX5_mayBe_121 1 rfl 122 rfl ?_
    refine VcSp dX5_mayBe_122 [.int x1] (c_X5_isCell l hF σ x1) mw_X5_isCell wd_sm_yX5_isCell wd_ml_RX5_95 (by decide) rfl rfl (Nat.le_of_ble_eq_true rfl) 125 rfl ?_
    refine Vifeq (fun v => (v, σ)) dX5_mayBe_125 139 128 (by decide) rfl (fun h6 => ?_) (fun h6 => ?_)
    · refine Viconst dX5_mayBe_139 (0 : Int32) (by decide) 140 rfl ?_
      exact Vzret dX5_mayBe_140 (by first | decide | exact nb_isRegister _ | exact nb_isRow _ | exact nb_isPlace _ | exact nb_within _ _ _ | exact nb_mRegister _ | exact nb_mCell _ | exact nb_mPlace _)
    · refine Vload_n dX5_mayBe_128 2 rfl 129 rfl ?_
      refine VcSp dX5_mayBe_129 [.int x2] (c_X5_isRegister l hF σ x2) mw_X5_isRegister wd_sm_yX5_isRegister wd_ml_RX5_87 (by decide) rfl rfl (Nat.le_of_ble_eq_true rfl) 132 rfl ?_
      refine Vifeq (fun v => (v, σ)) dX5_mayBe_132 139 135 (by decide) rfl (fun h7 => ?_) (fun h7 => ?_)
      · refine Viconst dX5_mayBe_139 (0 : Int32) (by decide) 140 rfl ?_
        exact Vzret dX5_mayBe_140 (by first | decide | exact nb_isRegister _ | exact nb_isRow _ | exact nb_isPlace _ | exact nb_within _ _ _ | exact nb_mRegister _ | exact nb_mCell _ | exact nb_mPlace _)
      · refine Viconst dX5_mayBe_135 (1 : Int32) (by decide) 136 rfl ?_
        refine Vgoto dX5_mayBe_136 140 (by decide) ?_
        exact Vzret dX5_mayBe_140 (by first | decide | exact nb_isRegister _ | exact nb_isRow _ | exact nb_isPlace _ | exact nb_within _ _ _ | exact nb_mRegister _ | exact nb_mCell _ | exact nb_mPlace _)
  refine Vif (fun v => (v, σ)) (fun h8 => ?_) (fun h8 => ?_)
  · refine Vswin dX5_mayBe_1 141 (by rw [h8]; decide) (by rw [h8]; decide) (off := 140) (by rw [h8]; rfl) (by decide) ?_
    refine Vload_n dX5_mayBe_141 1 rfl 142 rfl ?_
    refine VcSp dX5_mayBe_142 [.int x1] (c_X5_isRegister l hF σ x1) mw_X5_isRegister wd_sm_yX5_isRegister wd_ml_RX5_87 (by decide) rfl rfl (Nat.le_of_ble_eq_true rfl) 145 rfl ?_
    refine Vifeq (fun v => (v, σ)) dX5_mayBe_145 166 148 (by decide) rfl (fun h9 => ?_) (fun h9 => ?_)
    · refine Viconst dX5_mayBe_166 (0 : Int32) (by decide) 167 rfl ?_
      exact Vzret dX5_mayBe_167 (by first | decide | exact nb_isRegister _ | exact nb_isRow _ | exact nb_isPlace _ | exact nb_within _ _ _ | exact nb_mRegister _ | exact nb_mCell _ | exact nb_mPlace _)
    · refine Vload_n dX5_mayBe_148 2 rfl 149 rfl ?_
      refine VcSp dX5_mayBe_149 [.int x2] (c_X5_isRegister l hF σ x2) mw_X5_isRegister wd_sm_yX5_isRegister wd_ml_RX5_87 (by decide) rfl rfl (Nat.le_of_ble_eq_true rfl) 152 rfl ?_
      refine Vifeq (fun v => (v, σ)) dX5_mayBe_152 166 155 (by decide) rfl (fun h10 => ?_) (fun h10 => ?_)
      · refine Viconst dX5_mayBe_166 (0 : Int32) (by decide) 167 rfl ?_
        exact Vzret dX5_mayBe_167 (by first | decide | exact nb_isRegister _ | exact nb_isRow _ | exact nb_isPlace _ | exact nb_within _ _ _ | exact nb_mRegister _ | exact nb_mCell _ | exact nb_mPlace _)
      · refine Vload_n dX5_mayBe_155 3 rfl 156 rfl ?_
        refine VcSp dX5_mayBe_156 [.int x3] (c_X5_isRegister l hF σ x3) mw_X5_isRegister wd_sm_yX5_isRegister wd_ml_RX5_87 (by decide) rfl rfl (Nat.le_of_ble_eq_true rfl) 159 rfl ?_
        refine Vifeq (fun v => (v, σ)) dX5_mayBe_159 166 162 (by decide) rfl (fun h11 => ?_) (fun h11 => ?_)
        · refine Viconst dX5_mayBe_166 (0 : Int32) (by decide) 167 rfl ?_
          exact Vzret dX5_mayBe_167 (by first | decide | exact nb_isRegister _ | exact nb_isRow _ | exact nb_isPlace _ | exact nb_within _ _ _ | exact nb_mRegister _ | exact nb_mCell _ | exact nb_mPlace _)
        · refine Viconst dX5_mayBe_162 (1 : Int32) (by decide) 163 rfl ?_
          refine Vgoto dX5_mayBe_163 167 (by decide) ?_
          exact Vzret dX5_mayBe_167 (by first | decide | exact nb_isRegister _ | exact nb_isRow _ | exact nb_isPlace _ | exact nb_within _ _ _ | exact nb_mRegister _ | exact nb_mCell _ | exact nb_mPlace _)
  refine Vif (fun v => (v, σ)) (fun h12 => ?_) (fun h12 => ?_)
  · refine Vswin dX5_mayBe_1 141 (by rw [h12]; decide) (by rw [h12]; decide) (off := 140) (by rw [h12]; rfl) (by decide) ?_
    refine Vload_n dX5_mayBe_141 1 rfl 142 rfl ?_
    refine VcSp dX5_mayBe_142 [.int x1] (c_X5_isRegister l hF σ x1) mw_X5_isRegister wd_sm_yX5_isRegister wd_ml_RX5_87 (by decide) rfl rfl (Nat.le_of_ble_eq_true rfl) 145 rfl ?_
    refine Vifeq (fun v => (v, σ)) dX5_mayBe_145 166 148 (by decide) rfl (fun h13 => ?_) (fun h13 => ?_)
    · refine Viconst dX5_mayBe_166 (0 : Int32) (by decide) 167 rfl ?_
      exact Vzret dX5_mayBe_167 (by first | decide | exact nb_isRegister _ | exact nb_isRow _ | exact nb_isPlace _ | exact nb_within _ _ _ | exact nb_mRegister _ | exact nb_mCell _ | exact nb_mPlace _)
    · refine Vload_n dX5_mayBe_148 2 rfl 149 rfl ?_
      refine VcSp dX5_mayBe_149 [.int x2] (c_X5_isRegister l hF σ x2) mw_X5_isRegister wd_sm_yX5_isRegister wd_ml_RX5_87 (by decide) rfl rfl (Nat.le_of_ble_eq_true rfl) 152 rfl ?_
      refine Vifeq (fun v => (v, σ)) dX5_mayBe_152 166 155 (by decide) rfl (fun h14 => ?_) (fun h14 => ?_)
      · refine Viconst dX5_mayBe_166 (0 : Int32) (by decide) 167 rfl ?_
        exact Vzret dX5_mayBe_167 (by first | decide | exact nb_isRegister _ | exact nb_isRow _ | exact nb_isPlace _ | exact nb_within _ _ _ | exact nb_mRegister _ | exact nb_mCell _ | exact nb_mPlace _)
      · refine Vload_n dX5_mayBe_155 3 rfl 156 rfl ?_
        refine VcSp dX5_mayBe_156 [.int x3] (c_X5_isRegister l hF σ x3) mw_X5_isRegister wd_sm_yX5_isRegister wd_ml_RX5_87 (by decide) rfl rfl (Nat.le_of_ble_eq_true rfl) 159 rfl ?_
        refine Vifeq (fun v => (v, σ)) dX5_mayBe_159 166 162 (by decide) rfl (fun h15 => ?_) (fun h15 => ?_)
        · refine Viconst dX5_mayBe_166 (0 : Int32) (by decide) 167 rfl ?_
          exact Vzret dX5_mayBe_167 (by first | decide | exact nb_isRegister _ | exact nb_isRow _ | exact nb_isPlace _ | exact nb_within _ _ _ | exact nb_mRegister _ | exact nb_mCell _ | exact nb_mPlace _)
        · refine Viconst dX5_mayBe_162 (1 : Int32) (by decide) 163 rfl ?_
          refine Vgoto dX5_mayBe_163 167 (by decide) ?_
          exact Vzret dX5_mayBe_167 (by first | decide | exact nb_isRegister _ | exact nb_isRow _ | exact nb_isPlace _ | exact nb_within _ _ _ | exact nb_mRegister _ | exact nb_mCell _ | exact nb_mPlace _)
  refine Vif (fun v => (v, σ)) (fun h16 => ?_) (fun h16 => ?_)
  · refine Vswin dX5_mayBe_1 141 (by rw [h16]; decide) (by rw [h16]; decide) (off := 140) (by rw [h16]; rfl) (by decide) ?_
    refine Vload_n dX5_mayBe_141 1 rfl 142 rfl ?_
    refine VcSp dX5_mayBe_142 [.int x1] (c_X5_isRegister l hF σ x1) mw_X5_isRegister wd_sm_yX5_isRegister wd_ml_RX5_87 (by decide) rfl rfl (Nat.le_of_ble_eq_true rfl) 145 rfl ?_
    refine Vifeq (fun v => (v, σ)) dX5_mayBe_145 166 148 (by decide) rfl (fun h17 => ?_) (fun h17 => ?_)
    · refine Viconst dX5_mayBe_166 (0 : Int32) (by decide) 167 rfl ?_
      exact Vzret dX5_mayBe_167 (by first | decide | exact nb_isRegister _ | exact nb_isRow _ | exact nb_isPlace _ | exact nb_within _ _ _ | exact nb_mRegister _ | exact nb_mCell _ | exact nb_mPlace _)
    · refine Vload_n dX5_mayBe_148 2 rfl 149 rfl ?_
      refine VcSp dX5_mayBe_149 [.int x2] (c_X5_isRegister l hF σ x2) mw_X5_isRegister wd_sm_yX5_isRegister wd_ml_RX5_87 (by decide) rfl rfl (Nat.le_of_ble_eq_true rfl) 152 rfl ?_
      refine Vifeq (fun v => (v, σ)) dX5_mayBe_152 166 155 (by decide) rfl (fun h18 => ?_) (fun h18 => ?_)
      · refine Viconst dX5_mayBe_166 (0 : Int32) (by decide) 167 rfl ?_
        exact Vzret dX5_mayBe_167 (by first | decide | exact nb_isRegister _ | exact nb_isRow _ | exact nb_isPlace _ | exact nb_within _ _ _ | exact nb_mRegister _ | exact nb_mCell _ | exact nb_mPlace _)
      · refine Vload_n dX5_mayBe_155 3 rfl 156 rfl ?_
        refine VcSp dX5_mayBe_156 [.int x3] (c_X5_isRegister l hF σ x3) mw_X5_isRegister wd_sm_yX5_isRegister wd_ml_RX5_87 (by decide) rfl rfl (Nat.le_of_ble_eq_true rfl) 159 rfl ?_
        refine Vifeq (fun v => (v, σ)) dX5_mayBe_159 166 162 (by decide) rfl (fun h19 => ?_) (fun h19 => ?_)
        · refine Viconst dX5_mayBe_166 (0 : Int32) (by decide) 167 rfl ?_
          exact Vzret dX5_mayBe_167 (by first | decide | exact nb_isRegister _ | exact nb_isRow _ | exact nb_isPlace _ | exact nb_within _ _ _ | exact nb_mRegister _ | exact nb_mCell _ | exact nb_mPlace _)
        · refine Viconst dX5_mayBe_162 (1 : Int32) (by decide) 163 rfl ?_
          refine Vgoto dX5_mayBe_163 167 (by decide) ?_
          exact Vzret dX5_mayBe_167 (by first | decide | exact nb_isRegister _ | exact nb_isRow _ | exact nb_isPlace _ | exact nb_within _ _ _ | exact nb_mRegister _ | exact nb_mCell _ | exact nb_mPlace _)
  refine Vif (fun v => (v, σ)) (fun h20 => ?_) (fun h20 => ?_)
  · refine Vswin dX5_mayBe_1 141 (by rw [h20]; decide) (by rw [h20]; decide) (off := 140) (by rw [h20]; rfl) (by decide) ?_
    refine Vload_n dX5_mayBe_141 1 rfl 142 rfl ?_
    refine VcSp dX5_mayBe_142 [.int x1] (c_X5_isRegister l hF σ x1) mw_X5_isRegister wd_sm_yX5_isRegister wd_ml_RX5_87 (by decide) rfl rfl (Nat.le_of_ble_eq_true rfl) 145 rfl ?_
    refine Vifeq (fun v => (v, σ)) dX5_mayBe_145 166 148 (by decide) rfl (fun h21 => ?_) (fun h21 => ?_)
    · refine Viconst dX5_mayBe_166 (0 : Int32) (by decide) 167 rfl ?_
      exact Vzret dX5_mayBe_167 (by first | decide | exact nb_isRegister _ | exact nb_isRow _ | exact nb_isPlace _ | exact nb_within _ _ _ | exact nb_mRegister _ | exact nb_mCell _ | exact nb_mPlace _)
    · refine Vload_n dX5_mayBe_148 2 rfl 149 rfl ?_
      refine VcSp dX5_mayBe_149 [.int x2] (c_X5_isRegister l hF σ x2) mw_X5_isRegister wd_sm_yX5_isRegister wd_ml_RX5_87 (by decide) rfl rfl (Nat.le_of_ble_eq_true rfl) 152 rfl ?_
      refine Vifeq (fun v => (v, σ)) dX5_mayBe_152 166 155 (by decide) rfl (fun h22 => ?_) (fun h22 => ?_)
      · refine Viconst dX5_mayBe_166 (0 : Int32) (by decide) 167 rfl ?_
        exact Vzret dX5_mayBe_167 (by first | decide | exact nb_isRegister _ | exact nb_isRow _ | exact nb_isPlace _ | exact nb_within _ _ _ | exact nb_mRegister _ | exact nb_mCell _ | exact nb_mPlace _)
      · refine Vload_n dX5_mayBe_155 3 rfl 156 rfl ?_
        refine VcSp dX5_mayBe_156 [.int x3] (c_X5_isRegister l hF σ x3) mw_X5_isRegister wd_sm_yX5_isRegister wd_ml_RX5_87 (by decide) rfl rfl (Nat.le_of_ble_eq_true rfl) 159 rfl ?_
        refine Vifeq (fun v => (v, σ)) dX5_mayBe_159 166 162 (by decide) rfl (fun h23 => ?_) (fun h23 => ?_)
        · refine Viconst dX5_mayBe_166 (0 : Int32) (by decide) 167 rfl ?_
          exact Vzret dX5_mayBe_167 (by first | decide | exact nb_isRegister _ | exact nb_isRow _ | exact nb_isPlace _ | exact nb_within _ _ _ | exact nb_mRegister _ | exact nb_mCell _ | exact nb_mPlace _)
        · refine Viconst dX5_mayBe_162 (1 : Int32) (by decide) 163 rfl ?_
          refine Vgoto dX5_mayBe_163 167 (by decide) ?_
          exact Vzret dX5_mayBe_167 (by first | decide | exact nb_isRegister _ | exact nb_isRow _ | exact nb_isPlace _ | exact nb_within _ _ _ | exact nb_mRegister _ | exact nb_mCell _ | exact nb_mPlace _)
  refine Vif (fun v => (v, σ)) (fun h24 => ?_) (fun h24 => ?_)
  · refine Vswin dX5_mayBe_1 168 (by rw [h24]; decide) (by rw [h24]; decide) (off := 167) (by rw [h24]; rfl) (by decide) ?_
    refine Vload_n dX5_mayBe_168 1 rfl 169 rfl ?_
    refine VcSp dX5_mayBe_169 [.int x1] (c_X5_isRegister l hF σ x1) mw_X5_isRegister wd_sm_yX5_isRegister wd_ml_RX5_87 (by decide) rfl rfl (Nat.le_of_ble_eq_true rfl) 172 rfl ?_
    refine Vifeq (fun v => (v, σ)) dX5_mayBe_172 193 175 (by decide) rfl (fun h25 => ?_) (fun h25 => ?_)
    · refine Viconst dX5_mayBe_193 (0 : Int32) (by decide) 194 rfl ?_
      exact Vzret dX5_mayBe_194 (by first | decide | exact nb_isRegister _ | exact nb_isRow _ | exact nb_isPlace _ | exact nb_within _ _ _ | exact nb_mRegister _ | exact nb_mCell _ | exact nb_mPlace _)
    · refine Vload_n dX5_mayBe_175 2 rfl 176 rfl ?_
      refine VcSp dX5_mayBe_176 [.int x2] (c_X5_isRow l hF σ x2) mw_X5_isRow wd_sm_yX5_isRow wd_ml_RX5_104 (by decide) rfl rfl (Nat.le_of_ble_eq_true rfl) 179 rfl ?_
      refine Vifeq (fun v => (v, σ)) dX5_mayBe_179 193 182 (by decide) rfl (fun h26 => ?_) (fun h26 => ?_)
      · refine Viconst dX5_mayBe_193 (0 : Int32) (by decide) 194 rfl ?_
        exact Vzret dX5_mayBe_194 (by first | decide | exact nb_isRegister _ | exact nb_isRow _ | exact nb_isPlace _ | exact nb_within _ _ _ | exact nb_mRegister _ | exact nb_mCell _ | exact nb_mPlace _)
      · refine Vload_n dX5_mayBe_182 3 rfl 183 rfl ?_
        refine VcSp dX5_mayBe_183 [.int x3] (c_X5_isRegister l hF σ x3) mw_X5_isRegister wd_sm_yX5_isRegister wd_ml_RX5_87 (by decide) rfl rfl (Nat.le_of_ble_eq_true rfl) 186 rfl ?_
        refine Vifeq (fun v => (v, σ)) dX5_mayBe_186 193 189 (by decide) rfl (fun h27 => ?_) (fun h27 => ?_)
        · refine Viconst dX5_mayBe_193 (0 : Int32) (by decide) 194 rfl ?_
          exact Vzret dX5_mayBe_194 (by first | decide | exact nb_isRegister _ | exact nb_isRow _ | exact nb_isPlace _ | exact nb_within _ _ _ | exact nb_mRegister _ | exact nb_mCell _ | exact nb_mPlace _)
        · refine Viconst dX5_mayBe_189 (1 : Int32) (by decide) 190 rfl ?_
          refine Vgoto dX5_mayBe_190 194 (by decide) ?_
          exact Vzret dX5_mayBe_194 (by first | decide | exact nb_isRegister _ | exact nb_isRow _ | exact nb_isPlace _ | exact nb_within _ _ _ | exact nb_mRegister _ | exact nb_mCell _ | exact nb_mPlace _)
  refine Vif (fun v => (v, σ)) (fun h28 => ?_) (fun h28 => ?_)
  · refine Vswin dX5_mayBe_1 195 (by rw [h28]; decide) (by rw [h28]; decide) (off := 194) (by rw [h28]; rfl) (by decide) ?_
    refine Vload_n dX5_mayBe_195 1 rfl 196 rfl ?_
    refine VcSp dX5_mayBe_196 [.int x1] (c_X5_isRow l hF σ x1) mw_X5_isRow wd_sm_yX5_isRow wd_ml_RX5_104 (by decide) rfl rfl (Nat.le_of_ble_eq_true rfl) 199 rfl ?_
    refine Vifeq (fun v => (v, σ)) dX5_mayBe_199 220 202 (by decide) rfl (fun h29 => ?_) (fun h29 => ?_)
    · refine Viconst dX5_mayBe_220 (0 : Int32) (by decide) 221 rfl ?_
      exact Vzret dX5_mayBe_221 (by first | decide | exact nb_isRegister _ | exact nb_isRow _ | exact nb_isPlace _ | exact nb_within _ _ _ | exact nb_mRegister _ | exact nb_mCell _ | exact nb_mPlace _)
    · refine Vload_n dX5_mayBe_202 2 rfl 203 rfl ?_
      refine VcSp dX5_mayBe_203 [.int x2] (c_X5_isRegister l hF σ x2) mw_X5_isRegister wd_sm_yX5_isRegister wd_ml_RX5_87 (by decide) rfl rfl (Nat.le_of_ble_eq_true rfl) 206 rfl ?_
      refine Vifeq (fun v => (v, σ)) dX5_mayBe_206 220 209 (by decide) rfl (fun h30 => ?_) (fun h30 => ?_)
      · refine Viconst dX5_mayBe_220 (0 : Int32) (by decide) 221 rfl ?_
        exact Vzret dX5_mayBe_221 (by first | decide | exact nb_isRegister _ | exact nb_isRow _ | exact nb_isPlace _ | exact nb_within _ _ _ | exact nb_mRegister _ | exact nb_mCell _ | exact nb_mPlace _)
      · refine Vload_n dX5_mayBe_209 3 rfl 210 rfl ?_
        refine VcSp dX5_mayBe_210 [.int x3] (c_X5_isRegister l hF σ x3) mw_X5_isRegister wd_sm_yX5_isRegister wd_ml_RX5_87 (by decide) rfl rfl (Nat.le_of_ble_eq_true rfl) 213 rfl ?_
        refine Vifeq (fun v => (v, σ)) dX5_mayBe_213 220 216 (by decide) rfl (fun h31 => ?_) (fun h31 => ?_)
        · refine Viconst dX5_mayBe_220 (0 : Int32) (by decide) 221 rfl ?_
          exact Vzret dX5_mayBe_221 (by first | decide | exact nb_isRegister _ | exact nb_isRow _ | exact nb_isPlace _ | exact nb_within _ _ _ | exact nb_mRegister _ | exact nb_mCell _ | exact nb_mPlace _)
        · refine Viconst dX5_mayBe_216 (1 : Int32) (by decide) 217 rfl ?_
          refine Vgoto dX5_mayBe_217 221 (by decide) ?_
          exact Vzret dX5_mayBe_221 (by first | decide | exact nb_isRegister _ | exact nb_isRow _ | exact nb_isPlace _ | exact nb_within _ _ _ | exact nb_mRegister _ | exact nb_mCell _ | exact nb_mPlace _)
  refine Vif (fun v => (v, σ)) (fun h32 => ?_) (fun h32 => ?_)
  · refine Vswin dX5_mayBe_1 222 (by rw [h32]; decide) (by rw [h32]; decide) (off := 221) (by rw [h32]; rfl) (by decide) ?_
    refine Vload_n dX5_mayBe_222 1 rfl 223 rfl ?_
    refine VcSp dX5_mayBe_223 [.int x1] (c_X5_isCell l hF σ x1) mw_X5_isCell wd_sm_yX5_isCell wd_ml_RX5_95 (by decide) rfl rfl (Nat.le_of_ble_eq_true rfl) 226 rfl ?_
    refine Vifeq (fun v => (v, σ)) dX5_mayBe_226 247 229 (by decide) rfl (fun h33 => ?_) (fun h33 => ?_)
    · refine Viconst dX5_mayBe_247 (0 : Int32) (by decide) 248 rfl ?_
      exact Vzret dX5_mayBe_248 (by first | decide | exact nb_isRegister _ | exact nb_isRow _ | exact nb_isPlace _ | exact nb_within _ _ _ | exact nb_mRegister _ | exact nb_mCell _ | exact nb_mPlace _)
    · refine Vload_n dX5_mayBe_229 2 rfl 230 rfl ?_
      refine VcSp dX5_mayBe_230 [.int x2] (c_X5_isRegister l hF σ x2) mw_X5_isRegister wd_sm_yX5_isRegister wd_ml_RX5_87 (by decide) rfl rfl (Nat.le_of_ble_eq_true rfl) 233 rfl ?_
      refine Vifeq (fun v => (v, σ)) dX5_mayBe_233 247 236 (by decide) rfl (fun h34 => ?_) (fun h34 => ?_)
      · refine Viconst dX5_mayBe_247 (0 : Int32) (by decide) 248 rfl ?_
        exact Vzret dX5_mayBe_248 (by first | decide | exact nb_isRegister _ | exact nb_isRow _ | exact nb_isPlace _ | exact nb_within _ _ _ | exact nb_mRegister _ | exact nb_mCell _ | exact nb_mPlace _)
      · refine Vload_n dX5_mayBe_236 3 rfl 237 rfl ?_
        refine VcSp dX5_mayBe_237 [.int x3] (c_X5_isRegister l hF σ x3) mw_X5_isRegister wd_sm_yX5_isRegister wd_ml_RX5_87 (by decide) rfl rfl (Nat.le_of_ble_eq_true rfl) 240 rfl ?_
        refine Vifeq (fun v => (v, σ)) dX5_mayBe_240 247 243 (by decide) rfl (fun h35 => ?_) (fun h35 => ?_)
        · refine Viconst dX5_mayBe_247 (0 : Int32) (by decide) 248 rfl ?_
          exact Vzret dX5_mayBe_248 (by first | decide | exact nb_isRegister _ | exact nb_isRow _ | exact nb_isPlace _ | exact nb_within _ _ _ | exact nb_mRegister _ | exact nb_mCell _ | exact nb_mPlace _)
        · refine Viconst dX5_mayBe_243 (1 : Int32) (by decide) 244 rfl ?_
          refine Vgoto dX5_mayBe_244 248 (by decide) ?_
          exact Vzret dX5_mayBe_248 (by first | decide | exact nb_isRegister _ | exact nb_isRow _ | exact nb_isPlace _ | exact nb_within _ _ _ | exact nb_mRegister _ | exact nb_mCell _ | exact nb_mPlace _)
  refine Vif (fun v => (v, σ)) (fun h36 => ?_) (fun h36 => ?_)
  · refine Vswin dX5_mayBe_1 249 (by rw [h36]; decide) (by rw [h36]; decide) (off := 248) (by rw [h36]; rfl) (by decide) ?_
    refine Vload_n dX5_mayBe_249 1 rfl 250 rfl ?_
    refine VcSp dX5_mayBe_250 [.int x1] (c_X5_isPlace l hF σ x1) mw_X5_isPlace wd_sm_yX5_isPlace wd_ml_RX5_147 (by decide) rfl rfl (Nat.le_of_ble_eq_true rfl) 253 rfl ?_
    exact Vzret dX5_mayBe_253 (by first | decide | exact nb_isRegister _ | exact nb_isRow _ | exact nb_isPlace _ | exact nb_within _ _ _ | exact nb_mRegister _ | exact nb_mCell _ | exact nb_mPlace _)
  refine Vif (fun v => (v, σ)) (fun h37 => ?_) (fun h37 => ?_)
  · refine Vswin dX5_mayBe_1 254 (by rw [h37]; decide) (by rw [h37]; decide) (off := 253) (by rw [h37]; rfl) (by decide) ?_
    refine Vload_n dX5_mayBe_254 1 rfl 255 rfl ?_
    refine VcSp dX5_mayBe_255 [.int x1] (c_X5_isRegister l hF σ x1) mw_X5_isRegister wd_sm_yX5_isRegister wd_ml_RX5_87 (by decide) rfl rfl (Nat.le_of_ble_eq_true rfl) 258 rfl ?_
    refine Vifeq (fun v => (v, σ)) dX5_mayBe_258 272 261 (by decide) rfl (fun h38 => ?_) (fun h38 => ?_)
    · refine Viconst dX5_mayBe_272 (0 : Int32) (by decide) 273 rfl ?_
      exact Vzret dX5_mayBe_273 (by first | decide | exact nb_isRegister _ | exact nb_isRow _ | exact nb_isPlace _ | exact nb_within _ _ _ | exact nb_mRegister _ | exact nb_mCell _ | exact nb_mPlace _)
    · refine Vload_n dX5_mayBe_261 2 rfl 262 rfl ?_
      refine VcSp dX5_mayBe_262 [.int x2] (c_X5_isPlace l hF σ x2) mw_X5_isPlace wd_sm_yX5_isPlace wd_ml_RX5_147 (by decide) rfl rfl (Nat.le_of_ble_eq_true rfl) 265 rfl ?_
      refine Vifeq (fun v => (v, σ)) dX5_mayBe_265 272 268 (by decide) rfl (fun h39 => ?_) (fun h39 => ?_)
      · refine Viconst dX5_mayBe_272 (0 : Int32) (by decide) 273 rfl ?_
        exact Vzret dX5_mayBe_273 (by first | decide | exact nb_isRegister _ | exact nb_isRow _ | exact nb_isPlace _ | exact nb_within _ _ _ | exact nb_mRegister _ | exact nb_mCell _ | exact nb_mPlace _)
      · refine Viconst dX5_mayBe_268 (1 : Int32) (by decide) 269 rfl ?_
        refine Vgoto dX5_mayBe_269 273 (by decide) ?_
        exact Vzret dX5_mayBe_273 (by first | decide | exact nb_isRegister _ | exact nb_isRow _ | exact nb_isPlace _ | exact nb_within _ _ _ | exact nb_mRegister _ | exact nb_mCell _ | exact nb_mPlace _)
  refine Vif (fun v => (v, σ)) (fun h40 => ?_) (fun h40 => ?_)
  · refine Vswin dX5_mayBe_1 274 (by rw [h40]; decide) (by rw [h40]; decide) (off := 273) (by rw [h40]; rfl) (by decide) ?_
    refine Viconst dX5_mayBe_274 (1 : Int32) (by decide) 275 rfl ?_
    exact Vzret dX5_mayBe_275 (by first | decide | exact nb_isRegister _ | exact nb_isRow _ | exact nb_isPlace _ | exact nb_within _ _ _ | exact nb_mRegister _ | exact nb_mCell _ | exact nb_mPlace _)
  refine Vif (fun v => (v, σ)) (fun h41 => ?_) (fun h41 => ?_)
  · refine Vswin dX5_mayBe_1 274 (by rw [h41]; decide) (by rw [h41]; decide) (off := 273) (by rw [h41]; rfl) (by decide) ?_
    refine Viconst dX5_mayBe_274 (1 : Int32) (by decide) 275 rfl ?_
    exact Vzret dX5_mayBe_275 (by first | decide | exact nb_isRegister _ | exact nb_isRow _ | exact nb_isPlace _ | exact nb_within _ _ _ | exact nb_mRegister _ | exact nb_mCell _ | exact nb_mPlace _)
  refine Vif (fun v => (v, σ)) (fun h42 => ?_) (fun h42 => ?_)
  · refine Vswin dX5_mayBe_1 249 (by rw [h42]; decide) (by rw [h42]; decide) (off := 248) (by rw [h42]; rfl) (by decide) ?_
    refine Vload_n dX5_mayBe_249 1 rfl 250 rfl ?_
    refine VcSp dX5_mayBe_250 [.int x1] (c_X5_isPlace l hF σ x1) mw_X5_isPlace wd_sm_yX5_isPlace wd_ml_RX5_147 (by decide) rfl rfl (Nat.le_of_ble_eq_true rfl) 253 rfl ?_
    exact Vzret dX5_mayBe_253 (by first | decide | exact nb_isRegister _ | exact nb_isRow _ | exact nb_isPlace _ | exact nb_within _ _ _ | exact nb_mRegister _ | exact nb_mCell _ | exact nb_mPlace _)
  refine Vif (fun v => (v, σ)) (fun h43 => ?_) (fun h43 => ?_)
  · refine Vswin dX5_mayBe_1 274 (by rw [h43]; decide) (by rw [h43]; decide) (off := 273) (by rw [h43]; rfl) (by decide) ?_
    refine Viconst dX5_mayBe_274 (1 : Int32) (by decide) 275 rfl ?_
    exact Vzret dX5_mayBe_275 (by first | decide | exact nb_isRegister _ | exact nb_isRow _ | exact nb_isPlace _ | exact nb_within _ _ _ | exact nb_mRegister _ | exact nb_mCell _ | exact nb_mPlace _)
  refine Vif (fun v => (v, σ)) (fun h44 => ?_) (fun h44 => ?_)
  · refine Vswin dX5_mayBe_1 96 (by rw [h44]; decide) (by rw [h44]; decide) (off := 95) (by rw [h44]; rfl) (by decide) ?_
    refine Vload_n dX5_mayBe_96 1 rfl 97 rfl ?_
    refine VcSp dX5_mayBe_97 [.int x1] (c_X5_isRegister l hF σ x1) mw_X5_isRegister wd_sm_yX5_isRegister wd_ml_RX5_87 (by decide) rfl rfl (Nat.le_of_ble_eq_true rfl) 100 rfl ?_
    exact Vzret dX5_mayBe_100 (by first | decide | exact nb_isRegister _ | exact nb_isRow _ | exact nb_isPlace _ | exact nb_within _ _ _ | exact nb_mRegister _ | exact nb_mCell _ | exact nb_mPlace _)
  refine Vif (fun v => (v, σ)) (fun h45 => ?_) (fun h45 => ?_)
  · refine Vswin dX5_mayBe_1 276 (by rw [h45]; decide) (by rw [h45]; decide) (off := 275) (by rw [h45]; rfl) (by decide) ?_
    refine Vload_n dX5_mayBe_276 1 rfl 277 rfl ?_
    refine VcSp dX5_mayBe_277 [.int x1] (c_X5_isRow l hF σ x1) mw_X5_isRow wd_sm_yX5_isRow wd_ml_RX5_104 (by decide) rfl rfl (Nat.le_of_ble_eq_true rfl) 280 rfl ?_
    refine Vifeq (fun v => (v, σ)) dX5_mayBe_280 294 283 (by decide) rfl (fun h46 => ?_) (fun h46 => ?_)
    · refine Viconst dX5_mayBe_294 (0 : Int32) (by decide) 295 rfl ?_
      exact Vzret dX5_mayBe_295 (by first | decide | exact nb_isRegister _ | exact nb_isRow _ | exact nb_isPlace _ | exact nb_within _ _ _ | exact nb_mRegister _ | exact nb_mCell _ | exact nb_mPlace _)
    · refine Vload_n dX5_mayBe_283 2 rfl 284 rfl ?_
      refine VcSp dX5_mayBe_284 [.int x2] (c_X5_isRegister l hF σ x2) mw_X5_isRegister wd_sm_yX5_isRegister wd_ml_RX5_87 (by decide) rfl rfl (Nat.le_of_ble_eq_true rfl) 287 rfl ?_
      refine Vifeq (fun v => (v, σ)) dX5_mayBe_287 294 290 (by decide) rfl (fun h47 => ?_) (fun h47 => ?_)
      · refine Viconst dX5_mayBe_294 (0 : Int32) (by decide) 295 rfl ?_
        exact Vzret dX5_mayBe_295 (by first | decide | exact nb_isRegister _ | exact nb_isRow _ | exact nb_isPlace _ | exact nb_within _ _ _ | exact nb_mRegister _ | exact nb_mCell _ | exact nb_mPlace _)
      · refine Viconst dX5_mayBe_290 (1 : Int32) (by decide) 291 rfl ?_
        refine Vgoto dX5_mayBe_291 295 (by decide) ?_
        exact Vzret dX5_mayBe_295 (by first | decide | exact nb_isRegister _ | exact nb_isRow _ | exact nb_isPlace _ | exact nb_within _ _ _ | exact nb_mRegister _ | exact nb_mCell _ | exact nb_mPlace _)
  refine Vif (fun v => (v, σ)) (fun h48 => ?_) (fun h48 => ?_)
  · refine Vswin dX5_mayBe_1 296 (by rw [h48]; decide) (by rw [h48]; decide) (off := 295) (by rw [h48]; rfl) (by decide) ?_
    refine Vload_n dX5_mayBe_296 1 rfl 297 rfl ?_
    refine VcSp dX5_mayBe_297 [.int x1] (c_X5_isRow l hF σ x1) mw_X5_isRow wd_sm_yX5_isRow wd_ml_RX5_104 (by decide) rfl rfl (Nat.le_of_ble_eq_true rfl) 300 rfl ?_
    exact Vzret dX5_mayBe_300 (by first | decide | exact nb_isRegister _ | exact nb_isRow _ | exact nb_isPlace _ | exact nb_within _ _ _ | exact nb_mRegister _ | exact nb_mCell _ | exact nb_mPlace _)
  refine Vif (fun v => (v, σ)) (fun h49 => ?_) (fun h49 => ?_)
  · refine Vswin dX5_mayBe_1 301 (by rw [h49]; decide) (by rw [h49]; decide) (off := 300) (by rw [h49]; rfl) (by decide) ?_
    refine Vload_n dX5_mayBe_301 1 rfl 302 rfl ?_
    refine VcSp dX5_mayBe_302 [.int x1] (c_X5_isCell l hF σ x1) mw_X5_isCell wd_sm_yX5_isCell wd_ml_RX5_95 (by decide) rfl rfl (Nat.le_of_ble_eq_true rfl) 305 rfl ?_
    refine Vifeq (fun v => (v, σ)) dX5_mayBe_305 319 308 (by decide) rfl (fun h50 => ?_) (fun h50 => ?_)
    · refine Viconst dX5_mayBe_319 (0 : Int32) (by decide) 320 rfl ?_
      exact Vzret dX5_mayBe_320 (by first | decide | exact nb_isRegister _ | exact nb_isRow _ | exact nb_isPlace _ | exact nb_within _ _ _ | exact nb_mRegister _ | exact nb_mCell _ | exact nb_mPlace _)
    · refine Vload_n dX5_mayBe_308 2 rfl 309 rfl ?_
      refine VcSp dX5_mayBe_309 [.int x2] (c_X5_isCell l hF σ x2) mw_X5_isCell wd_sm_yX5_isCell wd_ml_RX5_95 (by decide) rfl rfl (Nat.le_of_ble_eq_true rfl) 312 rfl ?_
      refine Vifeq (fun v => (v, σ)) dX5_mayBe_312 319 315 (by decide) rfl (fun h51 => ?_) (fun h51 => ?_)
      · refine Viconst dX5_mayBe_319 (0 : Int32) (by decide) 320 rfl ?_
        exact Vzret dX5_mayBe_320 (by first | decide | exact nb_isRegister _ | exact nb_isRow _ | exact nb_isPlace _ | exact nb_within _ _ _ | exact nb_mRegister _ | exact nb_mCell _ | exact nb_mPlace _)
      · refine Viconst dX5_mayBe_315 (1 : Int32) (by decide) 316 rfl ?_
        refine Vgoto dX5_mayBe_316 320 (by decide) ?_
        exact Vzret dX5_mayBe_320 (by first | decide | exact nb_isRegister _ | exact nb_isRow _ | exact nb_isPlace _ | exact nb_within _ _ _ | exact nb_mRegister _ | exact nb_mCell _ | exact nb_mPlace _)
  refine Vswout dX5_mayBe_1 (by have eh1 := lv_neT (a := 0) h1 (by decide); have eh2 := lv_neT (a := 1) h2 (by decide); have eh5 := lv_neT (a := 2) h5 (by decide); have eh8 := lv_neT (a := 3) h8 (by decide); have eh12 := lv_neT (a := 4) h12 (by decide); have eh16 := lv_neT (a := 5) h16 (by decide); have eh20 := lv_neT (a := 6) h20 (by decide); have eh24 := lv_neT (a := 7) h24 (by decide); have eh28 := lv_neT (a := 8) h28 (by decide); have eh32 := lv_neT (a := 9) h32 (by decide); have eh36 := lv_neT (a := 10) h36 (by decide); have eh37 := lv_neT (a := 11) h37 (by decide); have eh40 := lv_neT (a := 12) h40 (by decide); have eh41 := lv_neT (a := 13) h41 (by decide); have eh42 := lv_neT (a := 14) h42 (by decide); have eh43 := lv_neT (a := 15) h43 (by decide); have eh44 := lv_neT (a := 16) h44 (by decide); have eh45 := lv_neT (a := 17) h45 (by decide); have eh48 := lv_neT (a := 18) h48 (by decide); have eh49 := lv_neT (a := 19) h49 (by decide); omega) (tgt := 321) (by decide) ?_
  refine Viconst dX5_mayBe_321 (0 : Int32) (by decide) 322 rfl ?_
  exact Vzret dX5_mayBe_322 (by first | decide | exact nb_isRegister _ | exact nb_isRow _ | exact nb_isPlace _ | exact nb_within _ _ _ | exact nb_mRegister _ | exact nb_mCell _ | exact nb_mPlace _)
def f_X5_act (σ : mS) (x1 : Int32) (x2 : Int32) (x3 : Int32) (x4 : Int32) (x5 : Int32) : Int32 × mS := (if (f_X5_strandOf x1) = -1 then ((-2 : Int32), σ) else (if (f_X5_mayBe x2 x3 x4 x5) = 0 then ((-2 : Int32), σ) else (if (σ (sI (f_X5_strandOf x1)) 13) ≤ 0 then (ap (fun u5 => (if u5.1 = 0 then ((-4 : Int32), u5.2) else ((u5.2 (sI (f_X5_strandOf x1)) 5), u5.2))) (f_X4_append σ (sI (f_X5_strandOf x1)) x2 x3 x4 x5)) else ((-3 : Int32), σ))))
theorem mw_X5_act : mW yX5_act cX5_act 7 (some .int) 5 := ⟨wd_co_yX5_act, wd_ini_RX5, ⟨by decide, by decide⟩, by decide +kernel, by decide⟩
set_option maxRecDepth 100000 in
set_option maxHeartbeats 4000000 in
theorem c_X5_act (l : Launch) {G : gT} (hF : Full G) (σ : mS) (x1 : Int32) (x2 : Int32) (x3 : Int32) (x4 : Int32) (x5 : Int32)  : Ct l G yX5_act cX5_act 7 (some .int) 2 [.ref (ad G 0), .int x1, .int x2, .int x3, .int x4, .int x5] κI σ (f_X5_act σ x1 x2 x3 x4 x5) := by
  refine Ct.ofV [(0, .ref (ad G 0)), (1, .int x1), (2, .int x2), (3, .int x3), (4, .int x4), (5, .int x5)] rfl (by decide) (Nat.le_of_ble_eq_true rfl) rfl (fun X => ?_)
  unfold f_X5_act
  refine Vaload_n dX5_act_0 0 rfl 1 rfl ?_
  refine Vload_n dX5_act_1 1 rfl 2 rfl ?_
  refine VcVr (fun v => v) dX5_act_2 [.int x1] (c_X5_strandOf l hF σ x1) mw_X5_strandOf wd_im_yX5_strandOf wd_se_yX5_strandOf wd_ml_RX5_32 (hF.1 0 (by decide)) wk0 rfl rfl (by decide) rfl rfl (Nat.le_of_ble_eq_true rfl) 5 rfl (fun h1 => ?_) (fun h1 => ?_)
  · refine VastoreN dX5_act_5 [(6, .null), (0, .ref (ad G 0)), (1, .int x1), (2, .int x2), (3, .int x3), (4, .int x4), (5, .int x5)] 7 rfl (by decide) rfl ?_
    refine ValoadN dX5_act_7 0 rfl 9 rfl ?_
    refine VifnullN dX5_act_9 24 (by decide) ?_
    refine Vbipush dX5_act_24 (-2 : Int32) (by decide) 26 rfl ?_
    exact Viret dX5_act_26
  · have s2 : sQ (sI (f_X5_strandOf x1)) := sq_strandOf h1
    refine Vastore dX5_act_5 [(6, .ref (ad G ((sI (f_X5_strandOf x1))))), (0, .ref (ad G 0)), (1, .int x1), (2, .int x2), (3, .int x3), (4, .int x4), (5, .int x5)] 7 rfl (by decide) rfl ?_
    refine Vaload dX5_act_7 0 rfl 9 rfl ?_
    refine Vifnull dX5_act_9 12 rfl ?_
    refine Vload_n dX5_act_12 3 rfl 13 rfl ?_
    refine Vload_n dX5_act_13 4 rfl 14 rfl ?_
    refine Vload dX5_act_14 5 rfl 16 rfl ?_
    refine Vload dX5_act_16 6 rfl 18 rfl ?_
    refine VcSp dX5_act_18 [.int x2, .int x3, .int x4, .int x5] (c_X5_mayBe l hF σ x2 x3 x4 x5) mw_X5_mayBe wd_sm_yX5_mayBe wd_ml_RX5_36 (by decide) rfl rfl (Nat.le_of_ble_eq_true rfl) 21 rfl ?_
    refine Vifne (fun v => v) dX5_act_21 27 24 (by decide) rfl (fun h3 => ?_) (fun h3 => ?_)
    · refine Vaload dX5_act_27 0 rfl 29 rfl ?_
      refine VgetN ((sI (f_X5_strandOf x1))) 13 dX5_act_29 32 rfl (sI_ hF s2 0 (by decide)) (sk0 s2) rfl inX4 (by decide) wd_nfl_RX5_40 (v := .int (σ (sI (f_X5_strandOf x1)) 13)) rfl ?_
      refine Vifle (fun v => v) dX5_act_32 38 35 (by decide) rfl (fun h4 => ?_) (fun h4 => ?_)
      · refine Vaload dX5_act_38 0 rfl 40 rfl ?_
        refine Vload_n dX5_act_40 3 rfl 41 rfl ?_
        refine Vload_n dX5_act_41 4 rfl 42 rfl ?_
        refine Vload dX5_act_42 5 rfl 44 rfl ?_
        refine Vload dX5_act_44 6 rfl 46 rfl ?_
        refine Vgen ?_
        intro u5 eu5
        refine VcVi (u := u5) dX5_act_46 [.int x2, .int x3, .int x4, .int x5] (by rw [eu5]; exact c_X4_append l hF σ (sI (f_X5_strandOf x1)) x2 x3 x4 x5 s2) mw_X4_append wd_im_yX4_append wd_se_yX4_append wd_ml_RX5_44 (sI_ hF s2 0 (by decide)) (sk0 s2) rfl rfl (by decide) rfl rfl (Nat.le_of_ble_eq_true rfl) 49 rfl ?_
        refine Vifeq (fun v => v) dX5_act_49 60 52 (by decide) rfl (fun h6 => ?_) (fun h6 => ?_)
        · refine Vbipush dX5_act_60 (-4 : Int32) (by decide) 62 rfl ?_
          exact Viret dX5_act_62
        · refine Vaload dX5_act_52 0 rfl 54 rfl ?_
          refine VgetN ((sI (f_X5_strandOf x1))) 5 dX5_act_54 57 rfl (sI_ hF s2 0 (by decide)) (sk0 s2) rfl inX4 (by decide) wd_nfl_RX5_47 (v := .int (u5.2 (sI (f_X5_strandOf x1)) 5)) rfl ?_
          refine Vgoto dX5_act_57 62 (by decide) ?_
          exact Viret dX5_act_62
      · refine Vbipush dX5_act_35 (-3 : Int32) (by decide) 37 rfl ?_
        exact Viret dX5_act_37
    · refine Vbipush dX5_act_24 (-2 : Int32) (by decide) 26 rfl ?_
      exact Viret dX5_act_26
def f_X5_isBarredFromAtoms (x0 : Int32) : Int32 := (if x0 = (7 : Int32) then (1 : Int32) else (if x0 = (8 : Int32) then (1 : Int32) else (if x0 = (17 : Int32) then (1 : Int32) else (if x0 = (18 : Int32) then (1 : Int32) else (if x0 = (19 : Int32) then (1 : Int32) else (0 : Int32))))))
theorem mw_X5_isBarredFromAtoms : mW yX5_isBarredFromAtoms cX5_isBarredFromAtoms 1 (some .boolean) 1 := ⟨wd_co_yX5_isBarredFromAtoms, wd_ini_RX5, ⟨by decide, by decide⟩, by decide +kernel, by decide⟩
set_option maxRecDepth 100000 in
set_option maxHeartbeats 4000000 in
theorem c_X5_isBarredFromAtoms (l : Launch) {G : gT} (hF : Full G) (σ : mS) (x0 : Int32)  : Ct l G yX5_isBarredFromAtoms cX5_isBarredFromAtoms 1 (some .boolean) 0 [.int x0] κI σ (f_X5_isBarredFromAtoms x0, σ) := by
  refine Ct.ofV [(0, .int x0)] rfl (by decide) (Nat.le_of_ble_eq_true rfl) rfl (fun X => ?_)
  unfold f_X5_isBarredFromAtoms
  refine Vload_n dX5_isBarredFromAtoms_0 0 rfl 1 rfl ?_
  refine Vbipush dX5_isBarredFromAtoms_1 (7 : Int32) (by decide) 3 rfl ?_
  refine Viceq (fun v => (v, σ)) dX5_isBarredFromAtoms_3 30 6 (by decide) rfl (fun h1 => ?_) (fun h1 => ?_)
  · refine Viconst dX5_isBarredFromAtoms_30 (1 : Int32) (by decide) 31 rfl ?_
    refine Vgoto dX5_isBarredFromAtoms_31 35 (by decide) ?_
    exact Vzret dX5_isBarredFromAtoms_35 (by first | decide | exact nb_isRegister _ | exact nb_isRow _ | exact nb_isPlace _ | exact nb_within _ _ _ | exact nb_mRegister _ | exact nb_mCell _ | exact nb_mPlace _)
  · refine Vload_n dX5_isBarredFromAtoms_6 0 rfl 7 rfl ?_
    refine Vbipush dX5_isBarredFromAtoms_7 (8 : Int32) (by decide) 9 rfl ?_
    refine Viceq (fun v => (v, σ)) dX5_isBarredFromAtoms_9 30 12 (by decide) rfl (fun h2 => ?_) (fun h2 => ?_)
    · refine Viconst dX5_isBarredFromAtoms_30 (1 : Int32) (by decide) 31 rfl ?_
      refine Vgoto dX5_isBarredFromAtoms_31 35 (by decide) ?_
      exact Vzret dX5_isBarredFromAtoms_35 (by first | decide | exact nb_isRegister _ | exact nb_isRow _ | exact nb_isPlace _ | exact nb_within _ _ _ | exact nb_mRegister _ | exact nb_mCell _ | exact nb_mPlace _)
    · refine Vload_n dX5_isBarredFromAtoms_12 0 rfl 13 rfl ?_
      refine Vbipush dX5_isBarredFromAtoms_13 (17 : Int32) (by decide) 15 rfl ?_
      refine Viceq (fun v => (v, σ)) dX5_isBarredFromAtoms_15 30 18 (by decide) rfl (fun h3 => ?_) (fun h3 => ?_)
      · refine Viconst dX5_isBarredFromAtoms_30 (1 : Int32) (by decide) 31 rfl ?_
        refine Vgoto dX5_isBarredFromAtoms_31 35 (by decide) ?_
        exact Vzret dX5_isBarredFromAtoms_35 (by first | decide | exact nb_isRegister _ | exact nb_isRow _ | exact nb_isPlace _ | exact nb_within _ _ _ | exact nb_mRegister _ | exact nb_mCell _ | exact nb_mPlace _)
      · refine Vload_n dX5_isBarredFromAtoms_18 0 rfl 19 rfl ?_
        refine Vbipush dX5_isBarredFromAtoms_19 (18 : Int32) (by decide) 21 rfl ?_
        refine Viceq (fun v => (v, σ)) dX5_isBarredFromAtoms_21 30 24 (by decide) rfl (fun h4 => ?_) (fun h4 => ?_)
        · refine Viconst dX5_isBarredFromAtoms_30 (1 : Int32) (by decide) 31 rfl ?_
          refine Vgoto dX5_isBarredFromAtoms_31 35 (by decide) ?_
          exact Vzret dX5_isBarredFromAtoms_35 (by first | decide | exact nb_isRegister _ | exact nb_isRow _ | exact nb_isPlace _ | exact nb_within _ _ _ | exact nb_mRegister _ | exact nb_mCell _ | exact nb_mPlace _)
        · refine Vload_n dX5_isBarredFromAtoms_24 0 rfl 25 rfl ?_
          refine Vbipush dX5_isBarredFromAtoms_25 (19 : Int32) (by decide) 27 rfl ?_
          refine Vicne (fun v => (v, σ)) dX5_isBarredFromAtoms_27 34 30 (by decide) rfl (fun h5 => ?_) (fun h5 => ?_)
          · refine Viconst dX5_isBarredFromAtoms_34 (0 : Int32) (by decide) 35 rfl ?_
            exact Vzret dX5_isBarredFromAtoms_35 (by first | decide | exact nb_isRegister _ | exact nb_isRow _ | exact nb_isPlace _ | exact nb_within _ _ _ | exact nb_mRegister _ | exact nb_mCell _ | exact nb_mPlace _)
          · refine Viconst dX5_isBarredFromAtoms_30 (1 : Int32) (by decide) 31 rfl ?_
            refine Vgoto dX5_isBarredFromAtoms_31 35 (by decide) ?_
            exact Vzret dX5_isBarredFromAtoms_35 (by first | decide | exact nb_isRegister _ | exact nb_isRow _ | exact nb_isPlace _ | exact nb_within _ _ _ | exact nb_mRegister _ | exact nb_mCell _ | exact nb_mPlace _)
def f_X5_failureOfReading (σ : mS) (q : Nat) (x2 : Int32) : Int32 := (if (σ (q + 7) 0) = 0 then (if (f_X1_leadsToRing σ x2) = 0 then (0 : Int32) else (8 : Int32)) else (if (f_X1_isLazy σ x2) = 0 then (0 : Int32) else (if (f_X0_hasPut σ (q + 7) x2) = 0 then (5 : Int32) else (0 : Int32))))
theorem mw_X5_failureOfReading : mW yX5_failureOfReading cX5_failureOfReading 3 (some .int) 2 := ⟨wd_co_yX5_failureOfReading, wd_ini_RX5, ⟨by decide, by decide⟩, by decide +kernel, by decide⟩
set_option maxRecDepth 100000 in
set_option maxHeartbeats 4000000 in
theorem c_X5_failureOfReading (l : Launch) {G : gT} (hF : Full G) (σ : mS) (q : Nat) (x2 : Int32) (hq : sQ q) : Ct l G yX5_failureOfReading cX5_failureOfReading 3 (some .int) 3 [.ref (ad G 0), .ref (ad G q), .int x2] κI σ (f_X5_failureOfReading σ q x2, σ) := by
  refine Ct.ofV [(0, .ref (ad G 0)), (1, .ref (ad G q)), (2, .int x2)] rfl (by decide) (Nat.le_of_ble_eq_true rfl) rfl (fun X => ?_)
  unfold f_X5_failureOfReading
  refine Vaload_n dX5_failureOfReading_0 1 rfl 1 rfl ?_
  refine VgetN (q) 9 dX5_failureOfReading_1 4 rfl (sI_ hF hq 0 (by decide)) (sk0 hq) rfl inX4 (by decide) wd_nfl_RX5_74 (v := .ref (ad G (q + 7))) rfl ?_
  refine VgetN (q + 7) 0 dX5_failureOfReading_4 7 rfl (sI_ hF hq 7 (by decide)) (sk7 hq) rfl inX0 (by decide) wd_nfl_RX5_78 (v := .int (σ (q + 7) 0)) rfl ?_
  refine Vifeq (fun v => (v, σ)) dX5_failureOfReading_7 38 10 (by decide) rfl (fun h1 => ?_) (fun h1 => ?_)
  · refine Vaload_n dX5_failureOfReading_38 0 rfl 39 rfl ?_
    refine Vget (0) 0 dX5_failureOfReading_39 42 rfl (hF.1 0 (by decide)) wk0 rfl inX5 (by decide) wd_fl_RX5_10 (v := .ref (ad G 1)) rfl ?_
    refine Vload_n dX5_failureOfReading_42 2 rfl 43 rfl ?_
    refine VcVp dX5_failureOfReading_43 [.int x2] (c_X1_leadsToRing l hF σ x2) mw_X1_leadsToRing wd_im_yX1_leadsToRing wd_se_yX1_leadsToRing wd_ml_RX5_230 (hF.1 1 (by decide)) wk1 rfl rfl (by decide) rfl rfl (Nat.le_of_ble_eq_true rfl) 46 rfl ?_
    refine Vifeq (fun v => (v, σ)) dX5_failureOfReading_46 54 49 (by decide) rfl (fun h2 => ?_) (fun h2 => ?_)
    · refine Viconst dX5_failureOfReading_54 (0 : Int32) (by decide) 55 rfl ?_
      exact Viret dX5_failureOfReading_55
    · refine Vbipush dX5_failureOfReading_49 (8 : Int32) (by decide) 51 rfl ?_
      refine Vgoto dX5_failureOfReading_51 55 (by decide) ?_
      exact Viret dX5_failureOfReading_55
  · refine Vaload_n dX5_failureOfReading_10 0 rfl 11 rfl ?_
    refine Vget (0) 0 dX5_failureOfReading_11 14 rfl (hF.1 0 (by decide)) wk0 rfl inX5 (by decide) wd_fl_RX5_10 (v := .ref (ad G 1)) rfl ?_
    refine Vload_n dX5_failureOfReading_14 2 rfl 15 rfl ?_
    refine VcVp dX5_failureOfReading_15 [.int x2] (c_X1_isLazy l hF σ x2) mw_X1_isLazy wd_im_yX1_isLazy wd_se_yX1_isLazy wd_ml_RX5_101 (hF.1 1 (by decide)) wk1 rfl rfl (by decide) rfl rfl (Nat.le_of_ble_eq_true rfl) 18 rfl ?_
    refine Vifeq (fun v => (v, σ)) dX5_failureOfReading_18 36 21 (by decide) rfl (fun h3 => ?_) (fun h3 => ?_)
    · refine Viconst dX5_failureOfReading_36 (0 : Int32) (by decide) 37 rfl ?_
      exact Viret dX5_failureOfReading_37
    · refine Vaload_n dX5_failureOfReading_21 1 rfl 22 rfl ?_
      refine VgetN (q) 9 dX5_failureOfReading_22 25 rfl (sI_ hF hq 0 (by decide)) (sk0 hq) rfl inX4 (by decide) wd_nfl_RX5_74 (v := .ref (ad G (q + 7))) rfl ?_
      refine Vload_n dX5_failureOfReading_25 2 rfl 26 rfl ?_
      refine VcVp dX5_failureOfReading_26 [.int x2] (c_X0_hasPut l hF σ (q + 7) x2 (sA hq)) mw_X0_hasPut wd_im_yX0_hasPut wd_se_yX0_hasPut wd_ml_RX5_227 (sI_ hF hq 7 (by decide)) (sk7 hq) rfl rfl (by decide) rfl rfl (Nat.le_of_ble_eq_true rfl) 29 rfl ?_
      refine Vifne (fun v => (v, σ)) dX5_failureOfReading_29 36 32 (by decide) rfl (fun h4 => ?_) (fun h4 => ?_)
      · refine Viconst dX5_failureOfReading_36 (0 : Int32) (by decide) 37 rfl ?_
        exact Viret dX5_failureOfReading_37
      · refine Viconst dX5_failureOfReading_32 (5 : Int32) (by decide) 33 rfl ?_
        refine Vgoto dX5_failureOfReading_33 37 (by decide) ?_
        exact Viret dX5_failureOfReading_37
def f_X5_readCell (σ : mS) (q : Nat) (x2 : Int32) : Int32 × mS := (if (σ (q + 7) 0) = 0 then (ap (fun u4 => (u4.1, u4.2)) (f_X1_workedOut σ x2 (σ q 0))) else (if (f_X0_hasPut σ (q + 7) x2) = 0 then (ap (fun u3 => ((f_X1_shown σ x2), u3.2)) (f_X0_noteReading σ (q + 7) x2 (f_X1_shown σ x2))) else ((f_X0_putNumber σ (q + 7) x2), σ)))
theorem mw_X5_readCell : mW yX5_readCell cX5_readCell 4 (some .int) 2 := ⟨wd_co_yX5_readCell, wd_ini_RX5, ⟨by decide, by decide⟩, by decide +kernel, by decide⟩
set_option maxRecDepth 100000 in
set_option maxHeartbeats 4000000 in
theorem c_X5_readCell (l : Launch) {G : gT} (hF : Full G) (σ : mS) (q : Nat) (x2 : Int32) (hq : sQ q) : Ct l G yX5_readCell cX5_readCell 4 (some .int) 3 [.ref (ad G 0), .ref (ad G q), .int x2] κI σ (f_X5_readCell σ q x2) := by
  refine Ct.ofV [(0, .ref (ad G 0)), (1, .ref (ad G q)), (2, .int x2)] rfl (by decide) (Nat.le_of_ble_eq_true rfl) rfl (fun X => ?_)
  unfold f_X5_readCell
  refine Vaload_n dX5_readCell_0 1 rfl 1 rfl ?_
  refine VgetN (q) 9 dX5_readCell_1 4 rfl (sI_ hF hq 0 (by decide)) (sk0 hq) rfl inX4 (by decide) wd_nfl_RX5_74 (v := .ref (ad G (q + 7))) rfl ?_
  refine VgetN (q + 7) 0 dX5_readCell_4 7 rfl (sI_ hF hq 7 (by decide)) (sk7 hq) rfl inX0 (by decide) wd_nfl_RX5_78 (v := .int (σ (q + 7) 0)) rfl ?_
  refine Vifne (fun v => v) dX5_readCell_7 23 10 (by decide) rfl (fun h1 => ?_) (fun h1 => ?_)
  · refine Vaload_n dX5_readCell_23 1 rfl 24 rfl ?_
    refine VgetN (q) 9 dX5_readCell_24 27 rfl (sI_ hF hq 0 (by decide)) (sk0 hq) rfl inX4 (by decide) wd_nfl_RX5_74 (v := .ref (ad G (q + 7))) rfl ?_
    refine Vload_n dX5_readCell_27 2 rfl 28 rfl ?_
    refine VcVp dX5_readCell_28 [.int x2] (c_X0_hasPut l hF σ (q + 7) x2 (sA hq)) mw_X0_hasPut wd_im_yX0_hasPut wd_se_yX0_hasPut wd_ml_RX5_227 (sI_ hF hq 7 (by decide)) (sk7 hq) rfl rfl (by decide) rfl rfl (Nat.le_of_ble_eq_true rfl) 31 rfl ?_
    refine Vifeq (fun v => v) dX5_readCell_31 43 34 (by decide) rfl (fun h2 => ?_) (fun h2 => ?_)
    · refine Vaload_n dX5_readCell_43 0 rfl 44 rfl ?_
      refine Vget (0) 0 dX5_readCell_44 47 rfl (hF.1 0 (by decide)) wk0 rfl inX5 (by decide) wd_fl_RX5_10 (v := .ref (ad G 1)) rfl ?_
      refine Vload_n dX5_readCell_47 2 rfl 48 rfl ?_
      refine VcVp dX5_readCell_48 [.int x2] (c_X1_shown l hF σ x2) mw_X1_shown wd_im_yX1_shown wd_se_yX1_shown wd_ml_RX5_98 (hF.1 1 (by decide)) wk1 rfl rfl (by decide) rfl rfl (Nat.le_of_ble_eq_true rfl) 51 rfl ?_
      refine Vstore_n dX5_readCell_51 [(3, .int (f_X1_shown σ x2)), (0, .ref (ad G 0)), (1, .ref (ad G q)), (2, .int x2)] 52 rfl (by decide) rfl ?_
      refine Vaload_n dX5_readCell_52 2 rfl 53 rfl ?_
      refine VgetN (q) 9 dX5_readCell_53 56 rfl (sI_ hF hq 0 (by decide)) (sk0 hq) rfl inX4 (by decide) wd_nfl_RX5_74 (v := .ref (ad G (q + 7))) rfl ?_
      refine Vload_n dX5_readCell_56 3 rfl 57 rfl ?_
      refine Vload_n dX5_readCell_57 0 rfl 58 rfl ?_
      refine Vgen ?_
      intro u3 eu3
      refine VcVv (u := u3) dX5_readCell_58 [.int x2, .int (f_X1_shown σ x2)] (by rw [eu3]; exact c_X0_noteReading l hF σ (q + 7) x2 (f_X1_shown σ x2) (sA hq)) mw_X0_noteReading wd_im_yX0_noteReading wd_se_yX0_noteReading wd_ml_RX5_242 (sI_ hF hq 7 (by decide)) (sk7 hq) rfl rfl (by decide) rfl rfl (Nat.le_of_ble_eq_true rfl) 61 rfl ?_
      refine Vload_n dX5_readCell_61 0 rfl 62 rfl ?_
      exact Viret dX5_readCell_62
    · refine Vaload_n dX5_readCell_34 1 rfl 35 rfl ?_
      refine VgetN (q) 9 dX5_readCell_35 38 rfl (sI_ hF hq 0 (by decide)) (sk0 hq) rfl inX4 (by decide) wd_nfl_RX5_74 (v := .ref (ad G (q + 7))) rfl ?_
      refine Vload_n dX5_readCell_38 2 rfl 39 rfl ?_
      refine VcVp dX5_readCell_39 [.int x2] (c_X0_putNumber l hF σ (q + 7) x2 (sA hq)) mw_X0_putNumber wd_im_yX0_putNumber wd_se_yX0_putNumber wd_ml_RX5_239 (sI_ hF hq 7 (by decide)) (sk7 hq) rfl rfl (by decide) rfl rfl (Nat.le_of_ble_eq_true rfl) 42 rfl ?_
      exact Viret dX5_readCell_42
  · refine Vaload_n dX5_readCell_10 0 rfl 11 rfl ?_
    refine Vget (0) 0 dX5_readCell_11 14 rfl (hF.1 0 (by decide)) wk0 rfl inX5 (by decide) wd_fl_RX5_10 (v := .ref (ad G 1)) rfl ?_
    refine Vload_n dX5_readCell_14 2 rfl 15 rfl ?_
    refine Vaload_n dX5_readCell_15 1 rfl 16 rfl ?_
    refine VgetN (q) 0 dX5_readCell_16 19 rfl (sI_ hF hq 0 (by decide)) (sk0 hq) rfl inX4 (by decide) wd_nfl_RX5_233 (v := .int (σ q 0)) rfl ?_
    refine Vgen ?_
    intro u4 eu4
    refine VcVi (u := u4) dX5_readCell_19 [.int x2, .int (σ q 0)] (by rw [eu4]; exact c_X1_workedOut l hF σ x2 (σ q 0)) mw_X1_workedOut wd_im_yX1_workedOut wd_se_yX1_workedOut wd_ml_RX5_236 (hF.1 1 (by decide)) wk1 rfl rfl (by decide) rfl rfl (Nat.le_of_ble_eq_true rfl) 22 rfl ?_
    exact Viret dX5_readCell_22
def f_X5_getCell (σ : mS) (q : Nat) (x2 : Int32) (x3 : Int32) : Int32 × mS := (if (f_X5_failureOfReading σ q x3) = 0 then (ap (fun u2 => (ap (fun u3 => ((f_X5_failureOfReading σ q x3), u3.2)) (f_X4_keep u2.2 q x2 u2.1))) (f_X5_readCell σ q x3)) else ((f_X5_failureOfReading σ q x3), σ))
theorem mw_X5_getCell : mW yX5_getCell cX5_getCell 5 (some .int) 3 := ⟨wd_co_yX5_getCell, wd_ini_RX5, ⟨by decide, by decide⟩, by decide +kernel, by decide⟩
set_option maxRecDepth 100000 in
set_option maxHeartbeats 4000000 in
theorem c_X5_getCell (l : Launch) {G : gT} (hF : Full G) (σ : mS) (q : Nat) (x2 : Int32) (x3 : Int32) (hq : sQ q) : Ct l G yX5_getCell cX5_getCell 5 (some .int) 4 [.ref (ad G 0), .ref (ad G q), .int x2, .int x3] κI σ (f_X5_getCell σ q x2 x3) := by
  refine Ct.ofV [(0, .ref (ad G 0)), (1, .ref (ad G q)), (2, .int x2), (3, .int x3)] rfl (by decide) (Nat.le_of_ble_eq_true rfl) rfl (fun X => ?_)
  unfold f_X5_getCell
  refine Vaload_n dX5_getCell_0 0 rfl 1 rfl ?_
  refine Vaload_n dX5_getCell_1 1 rfl 2 rfl ?_
  refine Vload_n dX5_getCell_2 3 rfl 3 rfl ?_
  refine VcVp dX5_getCell_3 [.ref (ad G q), .int x3] (c_X5_failureOfReading l hF σ q x3 hq) mw_X5_failureOfReading wd_im_yX5_failureOfReading wd_se_yX5_failureOfReading wd_ml_RX5_220 (hF.1 0 (by decide)) wk0 rfl rfl (by decide) rfl rfl (Nat.le_of_ble_eq_true rfl) 6 rfl ?_
  refine Vstore dX5_getCell_6 [(4, .int (f_X5_failureOfReading σ q x3)), (0, .ref (ad G 0)), (1, .ref (ad G q)), (2, .int x2), (3, .int x3)] 8 rfl (by decide) rfl ?_
  refine Vload dX5_getCell_8 0 rfl 10 rfl ?_
  refine Vifne (fun v => v) dX5_getCell_10 24 13 (by decide) rfl (fun h1 => ?_) (fun h1 => ?_)
  · refine Vload dX5_getCell_24 0 rfl 26 rfl ?_
    exact Viret dX5_getCell_26
  · refine Vaload_n dX5_getCell_13 2 rfl 14 rfl ?_
    refine Vload_n dX5_getCell_14 3 rfl 15 rfl ?_
    refine Vaload_n dX5_getCell_15 1 rfl 16 rfl ?_
    refine Vaload_n dX5_getCell_16 2 rfl 17 rfl ?_
    refine Vload_n dX5_getCell_17 4 rfl 18 rfl ?_
    refine Vgen ?_
    intro u2 eu2
    refine VcVi (u := u2) dX5_getCell_18 [.ref (ad G q), .int x3] (by rw [eu2]; exact c_X5_readCell l hF σ q x3 hq) mw_X5_readCell wd_im_yX5_readCell wd_se_yX5_readCell wd_ml_RX5_224 (hF.1 0 (by decide)) wk0 rfl rfl (by decide) rfl rfl (Nat.le_of_ble_eq_true rfl) 21 rfl ?_
    refine Vgen ?_
    intro u3 eu3
    refine VcVv (u := u3) dX5_getCell_21 [.int x2, .int u2.1] (by rw [eu3]; exact c_X4_keep l hF u2.2 q x2 u2.1 hq) mw_X4_keep wd_im_yX4_keep wd_se_yX4_keep wd_ml_RX5_217 (sI_ hF hq 0 (by decide)) (sk0 hq) rfl rfl (by decide) rfl rfl (Nat.le_of_ble_eq_true rfl) 24 rfl ?_
    refine Vload dX5_getCell_24 0 rfl 26 rfl ?_
    exact Viret dX5_getCell_26
def f_X5_putCell (σ : mS) (q : Nat) (x2 : Int32) (x3 : Int32) : Int32 × mS := (if (σ (q + 7) 0) = 0 then (ap (fun u2 => (0, u2.2)) (f_X1_count σ (σ q 0) x2 x3)) else (ap (fun u3 => (0, u3.2)) (f_X0_notePut σ (q + 7) x2 x3)))
theorem mw_X5_putCell : mW yX5_putCell cX5_putCell 4 none 3 := ⟨wd_co_yX5_putCell, wd_ini_RX5, ⟨by decide, by decide⟩, by decide +kernel, by decide⟩
set_option maxRecDepth 100000 in
set_option maxHeartbeats 4000000 in
theorem c_X5_putCell (l : Launch) {G : gT} (hF : Full G) (σ : mS) (q : Nat) (x2 : Int32) (x3 : Int32) (hq : sQ q) : Ct l G yX5_putCell cX5_putCell 4 none 2 [.ref (ad G 0), .ref (ad G q), .int x2, .int x3] κV σ (f_X5_putCell σ q x2 x3) := by
  refine Ct.ofV [(0, .ref (ad G 0)), (1, .ref (ad G q)), (2, .int x2), (3, .int x3)] rfl (by decide) (Nat.le_of_ble_eq_true rfl) rfl (fun X => ?_)
  unfold f_X5_putCell
  refine Vaload_n dX5_putCell_0 1 rfl 1 rfl ?_
  refine VgetN (q) 9 dX5_putCell_1 4 rfl (sI_ hF hq 0 (by decide)) (sk0 hq) rfl inX4 (by decide) wd_nfl_RX5_74 (v := .ref (ad G (q + 7))) rfl ?_
  refine VgetN (q + 7) 0 dX5_putCell_4 7 rfl (sI_ hF hq 7 (by decide)) (sk7 hq) rfl inX0 (by decide) wd_nfl_RX5_78 (v := .int (σ (q + 7) 0)) rfl ?_
  refine Vifeq (fun v => v) dX5_putCell_7 22 10 (by decide) rfl (fun h1 => ?_) (fun h1 => ?_)
  · refine Vaload_n dX5_putCell_22 0 rfl 23 rfl ?_
    refine Vget (0) 0 dX5_putCell_23 26 rfl (hF.1 0 (by decide)) wk0 rfl inX5 (by decide) wd_fl_RX5_10 (v := .ref (ad G 1)) rfl ?_
    refine Vaload_n dX5_putCell_26 1 rfl 27 rfl ?_
    refine VgetN (q) 0 dX5_putCell_27 30 rfl (sI_ hF hq 0 (by decide)) (sk0 hq) rfl inX4 (by decide) wd_nfl_RX5_233 (v := .int (σ q 0)) rfl ?_
    refine Vload_n dX5_putCell_30 2 rfl 31 rfl ?_
    refine Vload_n dX5_putCell_31 3 rfl 32 rfl ?_
    refine Vgen ?_
    intro u2 eu2
    refine VcVv (u := u2) dX5_putCell_32 [.int (σ q 0), .int x2, .int x3] (by rw [eu2]; exact c_X1_count l hF σ (σ q 0) x2 x3) mw_X1_count wd_im_yX1_count wd_se_yX1_count wd_ml_RX5_248 (hF.1 1 (by decide)) wk1 rfl rfl (by decide) rfl rfl (Nat.le_of_ble_eq_true rfl) 35 rfl ?_
    exact Vvret dX5_putCell_35
  · refine Vaload_n dX5_putCell_10 1 rfl 11 rfl ?_
    refine VgetN (q) 9 dX5_putCell_11 14 rfl (sI_ hF hq 0 (by decide)) (sk0 hq) rfl inX4 (by decide) wd_nfl_RX5_74 (v := .ref (ad G (q + 7))) rfl ?_
    refine Vload_n dX5_putCell_14 2 rfl 15 rfl ?_
    refine Vload_n dX5_putCell_15 3 rfl 16 rfl ?_
    refine Vgen ?_
    intro u3 eu3
    refine VcVv (u := u3) dX5_putCell_16 [.int x2, .int x3] (by rw [eu3]; exact c_X0_notePut l hF σ (q + 7) x2 x3 (sA hq)) mw_X0_notePut wd_im_yX0_notePut wd_se_yX0_notePut wd_ml_RX5_245 (sI_ hF hq 7 (by decide)) (sk7 hq) rfl rfl (by decide) rfl rfl (Nat.le_of_ble_eq_true rfl) 19 rfl ?_
    refine Vgoto dX5_putCell_19 35 (by decide) ?_
    exact Vvret dX5_putCell_35
def f_X5_loadItem (σ : mS) (q : Nat) (x2 : Int32) (x3 : Int32) (x4 : Int32) : Int32 × mS := (if (f_X3_failureAt σ x3 x4) = 0 then (ap (fun u2 => ((f_X3_failureAt σ x3 x4), u2.2)) (f_X4_keep σ q x2 (f_X3_itemOf σ x3 x4))) else ((f_X3_failureAt σ x3 x4), σ))
theorem mw_X5_loadItem : mW yX5_loadItem cX5_loadItem 6 (some .int) 4 := ⟨wd_co_yX5_loadItem, wd_ini_RX5, ⟨by decide, by decide⟩, by decide +kernel, by decide⟩
set_option maxRecDepth 100000 in
set_option maxHeartbeats 4000000 in
theorem c_X5_loadItem (l : Launch) {G : gT} (hF : Full G) (σ : mS) (q : Nat) (x2 : Int32) (x3 : Int32) (x4 : Int32) (hq : sQ q) : Ct l G yX5_loadItem cX5_loadItem 6 (some .int) 3 [.ref (ad G 0), .ref (ad G q), .int x2, .int x3, .int x4] κI σ (f_X5_loadItem σ q x2 x3 x4) := by
  refine Ct.ofV [(0, .ref (ad G 0)), (1, .ref (ad G q)), (2, .int x2), (3, .int x3), (4, .int x4)] rfl (by decide) (Nat.le_of_ble_eq_true rfl) rfl (fun X => ?_)
  unfold f_X5_loadItem
  refine Vaload_n dX5_loadItem_0 0 rfl 1 rfl ?_
  refine Vget (0) 1 dX5_loadItem_1 4 rfl (hF.1 0 (by decide)) wk0 rfl inX5 (by decide) wd_fl_RX5_19 (v := .ref (ad G 9)) rfl ?_
  refine Vload_n dX5_loadItem_4 3 rfl 5 rfl ?_
  refine Vload dX5_loadItem_5 4 rfl 7 rfl ?_
  refine VcVp dX5_loadItem_7 [.int x3, .int x4] (c_X3_failureAt l hF σ x3 x4) mw_X3_failureAt wd_im_yX3_failureAt wd_se_yX3_failureAt wd_ml_RX5_214 (hF.1 9 (by decide)) wk9 rfl rfl (by decide) rfl rfl (Nat.le_of_ble_eq_true rfl) 10 rfl ?_
  refine Vstore dX5_loadItem_10 [(5, .int (f_X3_failureAt σ x3 x4)), (0, .ref (ad G 0)), (1, .ref (ad G q)), (2, .int x2), (3, .int x3), (4, .int x4)] 12 rfl (by decide) rfl ?_
  refine Vload dX5_loadItem_12 0 rfl 14 rfl ?_
  refine Vifne (fun v => v) dX5_loadItem_14 32 17 (by decide) rfl (fun h1 => ?_) (fun h1 => ?_)
  · refine Vload dX5_loadItem_32 0 rfl 34 rfl ?_
    exact Viret dX5_loadItem_34
  · refine Vaload_n dX5_loadItem_17 2 rfl 18 rfl ?_
    refine Vload_n dX5_loadItem_18 3 rfl 19 rfl ?_
    refine Vaload_n dX5_loadItem_19 1 rfl 20 rfl ?_
    refine Vget (0) 1 dX5_loadItem_20 23 rfl (hF.1 0 (by decide)) wk0 rfl inX5 (by decide) wd_fl_RX5_19 (v := .ref (ad G 9)) rfl ?_
    refine Vload_n dX5_loadItem_23 4 rfl 24 rfl ?_
    refine Vload dX5_loadItem_24 5 rfl 26 rfl ?_
    refine VcVp dX5_loadItem_26 [.int x3, .int x4] (c_X3_itemOf l hF σ x3 x4) mw_X3_itemOf wd_im_yX3_itemOf wd_se_yX3_itemOf wd_ml_RX5_110 (hF.1 9 (by decide)) wk9 rfl rfl (by decide) rfl rfl (Nat.le_of_ble_eq_true rfl) 29 rfl ?_
    refine Vgen ?_
    intro u2 eu2
    refine VcVv (u := u2) dX5_loadItem_29 [.int x2, .int (f_X3_itemOf σ x3 x4)] (by rw [eu2]; exact c_X4_keep l hF σ q x2 (f_X3_itemOf σ x3 x4) hq) mw_X4_keep wd_im_yX4_keep wd_se_yX4_keep wd_ml_RX5_217 (sI_ hF hq 0 (by decide)) (sk0 hq) rfl rfl (by decide) rfl rfl (Nat.le_of_ble_eq_true rfl) 32 rfl ?_
    refine Vload dX5_loadItem_32 0 rfl 34 rfl ?_
    exact Viret dX5_loadItem_34
def f_X5_swapCell (σ : mS) (q : Nat) (x2 : Int32) (x3 : Int32) (x4 : Int32) : Int32 × mS := (if (f_X5_failureOfReading σ q x2) = 0 then (ap (fun u2 => (if u2.1 = (f_X4_held u2.2 q x3) then (ap (fun u8 => (ap (fun u10 => ((0 : Int32), u10.2)) (f_X4_keep u8.2 q x3 (1 : Int32)))) (f_X5_putCell u2.2 q x2 (f_X4_held u2.2 q x4))) else (ap (fun u6 => ((0 : Int32), u6.2)) (f_X4_keep u2.2 q x3 (0 : Int32))))) (f_X5_readCell σ q x2)) else ((f_X5_failureOfReading σ q x2), σ))
theorem mw_X5_swapCell : mW yX5_swapCell cX5_swapCell 7 (some .int) 4 := ⟨wd_co_yX5_swapCell, wd_ini_RX5, ⟨by decide, by decide⟩, by decide +kernel, by decide⟩
set_option maxRecDepth 100000 in
set_option maxHeartbeats 4000000 in
theorem c_X5_swapCell (l : Launch) {G : gT} (hF : Full G) (σ : mS) (q : Nat) (x2 : Int32) (x3 : Int32) (x4 : Int32) (hq : sQ q) : Ct l G yX5_swapCell cX5_swapCell 7 (some .int) 4 [.ref (ad G 0), .ref (ad G q), .int x2, .int x3, .int x4] κI σ (f_X5_swapCell σ q x2 x3 x4) := by
  refine Ct.ofV [(0, .ref (ad G 0)), (1, .ref (ad G q)), (2, .int x2), (3, .int x3), (4, .int x4)] rfl (by decide) (Nat.le_of_ble_eq_true rfl) rfl (fun X => ?_)
  unfold f_X5_swapCell
  refine Vaload_n dX5_swapCell_0 0 rfl 1 rfl ?_
  refine Vaload_n dX5_swapCell_1 1 rfl 2 rfl ?_
  refine Vload_n dX5_swapCell_2 2 rfl 3 rfl ?_
  refine VcVp dX5_swapCell_3 [.ref (ad G q), .int x2] (c_X5_failureOfReading l hF σ q x2 hq) mw_X5_failureOfReading wd_im_yX5_failureOfReading wd_se_yX5_failureOfReading wd_ml_RX5_220 (hF.1 0 (by decide)) wk0 rfl rfl (by decide) rfl rfl (Nat.le_of_ble_eq_true rfl) 6 rfl ?_
  refine Vstore dX5_swapCell_6 [(5, .int (f_X5_failureOfReading σ q x2)), (0, .ref (ad G 0)), (1, .ref (ad G q)), (2, .int x2), (3, .int x3), (4, .int x4)] 8 rfl (by decide) rfl ?_
  refine Vload dX5_swapCell_8 0 rfl 10 rfl ?_
  refine Vifeq (fun v => v) dX5_swapCell_10 16 13 (by decide) rfl (fun h1 => ?_) (fun h1 => ?_)
  · refine Vaload_n dX5_swapCell_16 1 rfl 17 rfl ?_
    refine Vaload_n dX5_swapCell_17 2 rfl 18 rfl ?_
    refine Vload_n dX5_swapCell_18 3 rfl 19 rfl ?_
    refine Vgen ?_
    intro u2 eu2
    refine VcVi (u := u2) dX5_swapCell_19 [.ref (ad G q), .int x2] (by rw [eu2]; exact c_X5_readCell l hF σ q x2 hq) mw_X5_readCell wd_im_yX5_readCell wd_se_yX5_readCell wd_ml_RX5_224 (hF.1 0 (by decide)) wk0 rfl rfl (by decide) rfl rfl (Nat.le_of_ble_eq_true rfl) 22 rfl ?_
    refine Vaload_n dX5_swapCell_22 2 rfl 23 rfl ?_
    refine Vload_n dX5_swapCell_23 4 rfl 24 rfl ?_
    refine VcVp dX5_swapCell_24 [.int x3] (c_X4_held l hF u2.2 q x3 hq) mw_X4_held wd_im_yX4_held wd_se_yX4_held wd_ml_RX5_91 (sI_ hF hq 0 (by decide)) (sk0 hq) rfl rfl (by decide) rfl rfl (Nat.le_of_ble_eq_true rfl) 27 rfl ?_
    refine Vicne (fun v => v) dX5_swapCell_27 34 30 (by decide) rfl (fun h3 => ?_) (fun h3 => ?_)
    · refine Viconst dX5_swapCell_34 (0 : Int32) (by decide) 35 rfl ?_
      refine Vstore dX5_swapCell_35 [(6, .int (0 : Int32)), (5, .int (f_X5_failureOfReading σ q x2)), (0, .ref (ad G 0)), (1, .ref (ad G q)), (2, .int x2), (3, .int x3), (4, .int x4)] 37 rfl (by decide) rfl ?_
      refine Vload dX5_swapCell_37 0 rfl 39 rfl ?_
      refine Kifeqt dX5_swapCell_39 54 (by decide) (by decide) ?_
      refine Vaload_n dX5_swapCell_54 3 rfl 55 rfl ?_
      refine Vload_n dX5_swapCell_55 5 rfl 56 rfl ?_
      refine Vload dX5_swapCell_56 0 rfl 58 rfl ?_
      refine Kifeqt dX5_swapCell_58 65 (by decide) (by decide) ?_
      refine Viconst dX5_swapCell_65 (0 : Int32) (by decide) 66 rfl ?_
      refine Vgen ?_
      intro u6 eu6
      refine VcVv (u := u6) dX5_swapCell_66 [.int x3, .int (0 : Int32)] (by rw [eu6]; exact c_X4_keep l hF u2.2 q x3 (0 : Int32) hq) mw_X4_keep wd_im_yX4_keep wd_se_yX4_keep wd_ml_RX5_217 (sI_ hF hq 0 (by decide)) (sk0 hq) rfl rfl (by decide) rfl rfl (Nat.le_of_ble_eq_true rfl) 69 rfl ?_
      refine Viconst dX5_swapCell_69 (0 : Int32) (by decide) 70 rfl ?_
      exact Viret dX5_swapCell_70
    · refine Viconst dX5_swapCell_30 (1 : Int32) (by decide) 31 rfl ?_
      refine Vgoto dX5_swapCell_31 35 (by decide) ?_
      refine Vstore dX5_swapCell_35 [(6, .int (1 : Int32)), (5, .int (f_X5_failureOfReading σ q x2)), (0, .ref (ad G 0)), (1, .ref (ad G q)), (2, .int x2), (3, .int x3), (4, .int x4)] 37 rfl (by decide) rfl ?_
      refine Vload dX5_swapCell_37 0 rfl 39 rfl ?_
      refine Kifeqf dX5_swapCell_39 42 (by decide) rfl 54 (by decide) ?_
      refine Vaload_n dX5_swapCell_42 2 rfl 43 rfl ?_
      refine Vaload_n dX5_swapCell_43 3 rfl 44 rfl ?_
      refine Vload_n dX5_swapCell_44 4 rfl 45 rfl ?_
      refine Vaload_n dX5_swapCell_45 3 rfl 46 rfl ?_
      refine Vload dX5_swapCell_46 6 rfl 48 rfl ?_
      refine VcVp dX5_swapCell_48 [.int x4] (c_X4_held l hF u2.2 q x4 hq) mw_X4_held wd_im_yX4_held wd_se_yX4_held wd_ml_RX5_91 (sI_ hF hq 0 (by decide)) (sk0 hq) rfl rfl (by decide) rfl rfl (Nat.le_of_ble_eq_true rfl) 51 rfl ?_
      refine Vgen ?_
      intro u8 eu8
      refine VcVv (u := u8) dX5_swapCell_51 [.ref (ad G q), .int x2, .int (f_X4_held u2.2 q x4)] (by rw [eu8]; exact c_X5_putCell l hF u2.2 q x2 (f_X4_held u2.2 q x4) hq) mw_X5_putCell wd_im_yX5_putCell wd_se_yX5_putCell wd_ml_RX5_183 (hF.1 0 (by decide)) wk0 rfl rfl (by decide) rfl rfl (Nat.le_of_ble_eq_true rfl) 54 rfl ?_
      refine Vaload_n dX5_swapCell_54 3 rfl 55 rfl ?_
      refine Vload_n dX5_swapCell_55 5 rfl 56 rfl ?_
      refine Vload dX5_swapCell_56 0 rfl 58 rfl ?_
      refine Kifeqf dX5_swapCell_58 61 (by decide) rfl 65 (by decide) ?_
      refine Viconst dX5_swapCell_61 (1 : Int32) (by decide) 62 rfl ?_
      refine Vgoto dX5_swapCell_62 66 (by decide) ?_
      refine Vgen ?_
      intro u10 eu10
      refine VcVv (u := u10) dX5_swapCell_66 [.int x3, .int (1 : Int32)] (by rw [eu10]; exact c_X4_keep l hF u8.2 q x3 (1 : Int32) hq) mw_X4_keep wd_im_yX4_keep wd_se_yX4_keep wd_ml_RX5_217 (sI_ hF hq 0 (by decide)) (sk0 hq) rfl rfl (by decide) rfl rfl (Nat.le_of_ble_eq_true rfl) 69 rfl ?_
      refine Viconst dX5_swapCell_69 (0 : Int32) (by decide) 70 rfl ?_
      exact Viret dX5_swapCell_70
  · refine Vload dX5_swapCell_13 0 rfl 15 rfl ?_
    exact Viret dX5_swapCell_15
def l_X5_isOvertaken_2 : Nat → Int32 → mS → Nat → Int32
  | 0, y2, σ, _ => 0
  | n + 1, y2, σ, q => (if (8 : Int32) ≤ y2 then (0 : Int32) else (if (f_X0_hasRead σ q y2) = 0 then (l_X5_isOvertaken_2 n (y2 + 1) σ q) else (if (f_X1_isLazy σ y2) = 0 then (if (f_X1_shown σ y2) = (f_X0_firstNumber σ q y2) then (l_X5_isOvertaken_2 n (y2 + 1) σ q) else (1 : Int32)) else (1 : Int32))))
set_option maxRecDepth 100000 in
set_option maxHeartbeats 4000000 in
theorem vl_X5_isOvertaken_2 (l : Launch) {G : gT} (X : xT) (hF : Full G) (σ : mS) (q : Nat) (hq : aQ q) : ∀ (n : Nat) (y2 : Int32) (i : Nat) (hc : y2 = nI i) (hi : i ≤ 8) (hn : n + i = 9), V l G X RX5 cX5_isOvertaken 3 2 (some .boolean) κI ((fun v => (v, σ)) (l_X5_isOvertaken_2 n y2 σ q)) σ 2 [(0, .ref (ad G 0)), (1, .ref (ad G q)), (2, .int y2)] [] := by
  intro n
  induction n with
  | zero => intro y2 i hc hi hn; exact absurd hn (by omega)
  | succ n ih =>
    intro y2 i hc hi hn
    rw [l_X5_isOvertaken_2.eq_2]
    refine Vload_n dX5_isOvertaken_2 2 rfl 3 rfl ?_
    refine Vbipush dX5_isOvertaken_3 (8 : Int32) (by decide) 5 rfl ?_
    refine Vicge (fun v => (v, σ)) dX5_isOvertaken_5 51 8 (by decide) rfl (fun h1 => ?_) (fun h1 => ?_)
    · refine Viconst dX5_isOvertaken_51 (0 : Int32) (by decide) 52 rfl ?_
      exact Vzret dX5_isOvertaken_52 (by first | decide | exact nb_isRegister _ | exact nb_isRow _ | exact nb_isPlace _ | exact nb_within _ _ _ | exact nb_mRegister _ | exact nb_mCell _ | exact nb_mPlace _)
    · refine Vaload_n dX5_isOvertaken_8 1 rfl 9 rfl ?_
      refine Vload_n dX5_isOvertaken_9 2 rfl 10 rfl ?_
      refine VcVp dX5_isOvertaken_10 [.int y2] (c_X0_hasRead l hF σ q y2 hq) mw_X0_hasRead wd_im_yX0_hasRead wd_se_yX0_hasRead wd_ml_RX5_261 (aI_ hF hq 0 (by decide)) (ak0 hq) rfl rfl (by decide) rfl rfl (Nat.le_of_ble_eq_true rfl) 13 rfl ?_
      refine Vifeq (fun v => (v, σ)) dX5_isOvertaken_13 45 16 (by decide) rfl (fun h2 => ?_) (fun h2 => ?_)
      · refine Viinc dX5_isOvertaken_45 (y2 + 1) 2 [(2, .int (y2 + 1)), (0, .ref (ad G 0)), (1, .ref (ad G q))] 48 rfl rfl rfl (by decide) rfl ?_
        refine Vgoto dX5_isOvertaken_48 2 (by decide) ?_
        refine Vlv [1, 2, 0] rfl ?_
        exact ih (y2 + 1) (i + 1) (cnt_s hc) (cnt_lt hc (by assumption) (K := 8) (by decide) (by decide) hi) (by omega)
      · refine Vaload_n dX5_isOvertaken_16 0 rfl 17 rfl ?_
        refine Vget (0) 0 dX5_isOvertaken_17 20 rfl (hF.1 0 (by decide)) wk0 rfl inX5 (by decide) wd_fl_RX5_10 (v := .ref (ad G 1)) rfl ?_
        refine Vload_n dX5_isOvertaken_20 2 rfl 21 rfl ?_
        refine VcVp dX5_isOvertaken_21 [.int y2] (c_X1_isLazy l hF σ y2) mw_X1_isLazy wd_im_yX1_isLazy wd_se_yX1_isLazy wd_ml_RX5_101 (hF.1 1 (by decide)) wk1 rfl rfl (by decide) rfl rfl (Nat.le_of_ble_eq_true rfl) 24 rfl ?_
        refine Vifne (fun v => (v, σ)) dX5_isOvertaken_24 43 27 (by decide) rfl (fun h3 => ?_) (fun h3 => ?_)
        · refine Viconst dX5_isOvertaken_43 (1 : Int32) (by decide) 44 rfl ?_
          exact Vzret dX5_isOvertaken_44 (by first | decide | exact nb_isRegister _ | exact nb_isRow _ | exact nb_isPlace _ | exact nb_within _ _ _ | exact nb_mRegister _ | exact nb_mCell _ | exact nb_mPlace _)
        · refine Vaload_n dX5_isOvertaken_27 0 rfl 28 rfl ?_
          refine Vget (0) 0 dX5_isOvertaken_28 31 rfl (hF.1 0 (by decide)) wk0 rfl inX5 (by decide) wd_fl_RX5_10 (v := .ref (ad G 1)) rfl ?_
          refine Vload_n dX5_isOvertaken_31 2 rfl 32 rfl ?_
          refine VcVp dX5_isOvertaken_32 [.int y2] (c_X1_shown l hF σ y2) mw_X1_shown wd_im_yX1_shown wd_se_yX1_shown wd_ml_RX5_98 (hF.1 1 (by decide)) wk1 rfl rfl (by decide) rfl rfl (Nat.le_of_ble_eq_true rfl) 35 rfl ?_
          refine Vaload_n dX5_isOvertaken_35 1 rfl 36 rfl ?_
          refine Vload_n dX5_isOvertaken_36 2 rfl 37 rfl ?_
          refine VcVp dX5_isOvertaken_37 [.int y2] (c_X0_firstNumber l hF σ q y2 hq) mw_X0_firstNumber wd_im_yX0_firstNumber wd_se_yX0_firstNumber wd_ml_RX5_264 (aI_ hF hq 0 (by decide)) (ak0 hq) rfl rfl (by decide) rfl rfl (Nat.le_of_ble_eq_true rfl) 40 rfl ?_
          refine Viceq (fun v => (v, σ)) dX5_isOvertaken_40 45 43 (by decide) rfl (fun h4 => ?_) (fun h4 => ?_)
          · refine Viinc dX5_isOvertaken_45 (y2 + 1) 2 [(2, .int (y2 + 1)), (0, .ref (ad G 0)), (1, .ref (ad G q))] 48 rfl rfl rfl (by decide) rfl ?_
            refine Vgoto dX5_isOvertaken_48 2 (by decide) ?_
            refine Vlv [1, 2, 0] rfl ?_
            exact ih (y2 + 1) (i + 1) (cnt_s hc) (cnt_lt hc (by assumption) (K := 8) (by decide) (by decide) hi) (by omega)
          · refine Viconst dX5_isOvertaken_43 (1 : Int32) (by decide) 44 rfl ?_
            exact Vzret dX5_isOvertaken_44 (by first | decide | exact nb_isRegister _ | exact nb_isRow _ | exact nb_isPlace _ | exact nb_within _ _ _ | exact nb_mRegister _ | exact nb_mCell _ | exact nb_mPlace _)
def f_X5_isOvertaken (σ : mS) (q : Nat) : Int32 := (l_X5_isOvertaken_2 9 (0 : Int32) σ q)
theorem mw_X5_isOvertaken : mW yX5_isOvertaken cX5_isOvertaken 3 (some .boolean) 1 := ⟨wd_co_yX5_isOvertaken, wd_ini_RX5, ⟨by decide, by decide⟩, by decide +kernel, by decide⟩
set_option maxRecDepth 100000 in
set_option maxHeartbeats 4000000 in
theorem c_X5_isOvertaken (l : Launch) {G : gT} (hF : Full G) (σ : mS) (q : Nat) (hq : aQ q) : Ct l G yX5_isOvertaken cX5_isOvertaken 3 (some .boolean) 2 [.ref (ad G 0), .ref (ad G q)] κI σ (f_X5_isOvertaken σ q, σ) := by
  refine Ct.ofV [(0, .ref (ad G 0)), (1, .ref (ad G q))] rfl (by decide) (Nat.le_of_ble_eq_true rfl) rfl (fun X => ?_)
  unfold f_X5_isOvertaken
  refine Viconst dX5_isOvertaken_0 (0 : Int32) (by decide) 1 rfl ?_
  refine Vstore_n dX5_isOvertaken_1 [(2, .int (0 : Int32)), (0, .ref (ad G 0)), (1, .ref (ad G q))] 2 rfl (by decide) rfl ?_
  refine Vlv [1, 2, 0] rfl ?_
  exact vl_X5_isOvertaken_2 l X hF σ q hq 9 (0 : Int32) 0 nI_0.symm (Nat.zero_le _) rfl
def l_X5_endAtom_41 : Nat → Int32 → mS → Nat → Int32 × mS
  | 0, y3, σ, _ => (0, σ)
  | n + 1, y3, σ, q => (if (8 : Int32) ≤ y3 then ((0 : Int32), (st2 σ (q + 7) 0 (0 : Int32))) else (if (f_X0_hasPut σ (q + 7) y3) = 0 then (l_X5_endAtom_41 n (y3 + 1) σ q) else (ap (fun u6 => (l_X5_endAtom_41 n (y3 + 1) u6.2 q)) (f_X1_count σ (σ q 0) y3 (f_X0_putNumber σ (q + 7) y3)))))
set_option maxRecDepth 100000 in
set_option maxHeartbeats 4000000 in
theorem vl_X5_endAtom_41 (l : Launch) {G : gT} (X : xT) (hF : Full G) (q : Nat) (hq : sQ q) : ∀ (n : Nat) (y3 : Int32) (σ : mS) (i : Nat) (hc : y3 = nI i) (hi : i ≤ 8) (hn : n + i = 9), V l G X RX5 cX5_endAtom 4 3 (some .int) κI ((fun v => v) (l_X5_endAtom_41 n y3 σ q)) σ 41 [(0, .ref (ad G 0)), (1, .ref (ad G q)), (2, .ref (ad G (q + 7))), (3, .int y3)] [] := by
  intro n
  induction n with
  | zero => intro y3 σ i hc hi hn; exact absurd hn (by omega)
  | succ n ih =>
    intro y3 σ i hc hi hn
    rw [l_X5_endAtom_41.eq_2]
    refine Vload_n dX5_endAtom_41 3 rfl 42 rfl ?_
    refine Vbipush dX5_endAtom_42 (8 : Int32) (by decide) 44 rfl ?_
    refine Vicge (fun v => v) dX5_endAtom_44 78 47 (by decide) rfl (fun h4 => ?_) (fun h4 => ?_)
    · refine Vaload_n dX5_endAtom_78 2 rfl 79 rfl ?_
      refine Viconst dX5_endAtom_79 (0 : Int32) (by decide) 80 rfl ?_
      refine VputN (q + 7) 0 tyX0 dX5_endAtom_80 83 rfl (sI_ hF hq 7 (by decide)) (sk7 hq) rfl inX0 tyX0_ok nmX0 (by decide) wd_nfl_RX5_78 rfl (ty := .boolean) (by decide +kernel) (by decide) (by decide) (fun f => rfl) (fun f => Nat.le_of_ble_eq_true rfl) ?_
      refine Viconst dX5_endAtom_83 (0 : Int32) (by decide) 84 rfl ?_
      exact Viret dX5_endAtom_84
    · refine Vaload_n dX5_endAtom_47 2 rfl 48 rfl ?_
      refine Vload_n dX5_endAtom_48 3 rfl 49 rfl ?_
      refine VcVp dX5_endAtom_49 [.int y3] (c_X0_hasPut l hF σ (q + 7) y3 (sA hq)) mw_X0_hasPut wd_im_yX0_hasPut wd_se_yX0_hasPut wd_ml_RX5_227 (sI_ hF hq 7 (by decide)) (sk7 hq) rfl rfl (by decide) rfl rfl (Nat.le_of_ble_eq_true rfl) 52 rfl ?_
      refine Vifeq (fun v => v) dX5_endAtom_52 72 55 (by decide) rfl (fun h5 => ?_) (fun h5 => ?_)
      · refine Viinc dX5_endAtom_72 (y3 + 1) 3 [(3, .int (y3 + 1)), (0, .ref (ad G 0)), (1, .ref (ad G q)), (2, .ref (ad G (q + 7)))] 75 rfl rfl rfl (by decide) rfl ?_
        refine Vgoto dX5_endAtom_75 41 (by decide) ?_
        refine Vlv [1, 2, 3, 0] rfl ?_
        exact ih (y3 + 1) σ (i + 1) (cnt_s hc) (cnt_lt hc (by assumption) (K := 8) (by decide) (by decide) hi) (by omega)
      · refine Vaload_n dX5_endAtom_55 0 rfl 56 rfl ?_
        refine Vget (0) 0 dX5_endAtom_56 59 rfl (hF.1 0 (by decide)) wk0 rfl inX5 (by decide) wd_fl_RX5_10 (v := .ref (ad G 1)) rfl ?_
        refine Vaload_n dX5_endAtom_59 1 rfl 60 rfl ?_
        refine VgetN (q) 0 dX5_endAtom_60 63 rfl (sI_ hF hq 0 (by decide)) (sk0 hq) rfl inX4 (by decide) wd_nfl_RX5_233 (v := .int (σ q 0)) rfl ?_
        refine Vload_n dX5_endAtom_63 3 rfl 64 rfl ?_
        refine Vaload_n dX5_endAtom_64 2 rfl 65 rfl ?_
        refine Vload_n dX5_endAtom_65 3 rfl 66 rfl ?_
        refine VcVp dX5_endAtom_66 [.int y3] (c_X0_putNumber l hF σ (q + 7) y3 (sA hq)) mw_X0_putNumber wd_im_yX0_putNumber wd_se_yX0_putNumber wd_ml_RX5_239 (sI_ hF hq 7 (by decide)) (sk7 hq) rfl rfl (by decide) rfl rfl (Nat.le_of_ble_eq_true rfl) 69 rfl ?_
        refine Vgen ?_
        intro u6 eu6
        refine VcVv (u := u6) dX5_endAtom_69 [.int (σ q 0), .int y3, .int (f_X0_putNumber σ (q + 7) y3)] (by rw [eu6]; exact c_X1_count l hF σ (σ q 0) y3 (f_X0_putNumber σ (q + 7) y3)) mw_X1_count wd_im_yX1_count wd_se_yX1_count wd_ml_RX5_248 (hF.1 1 (by decide)) wk1 rfl rfl (by decide) rfl rfl (Nat.le_of_ble_eq_true rfl) 72 rfl ?_
        refine Viinc dX5_endAtom_72 (y3 + 1) 3 [(3, .int (y3 + 1)), (0, .ref (ad G 0)), (1, .ref (ad G q)), (2, .ref (ad G (q + 7)))] 75 rfl rfl rfl (by decide) rfl ?_
        refine Vgoto dX5_endAtom_75 41 (by decide) ?_
        refine Vlv [1, 2, 3, 0] rfl ?_
        exact ih (y3 + 1) u6.2 (i + 1) (cnt_s hc) (cnt_lt hc (by assumption) (K := 8) (by decide) (by decide) hi) (by omega)
def f_X5_endAtom (σ : mS) (q : Nat) : Int32 × mS := (if (σ (q + 7) 0) = 0 then ((5 : Int32), σ) else (if (σ q 8) ≤ (σ (q + 7) 2) then (if (f_X5_isOvertaken σ (q + 7)) = 0 then (l_X5_endAtom_41 9 (0 : Int32) σ q) else (ap (fun u7 => ((0 : Int32), u7.2)) (f_X4_beginAnew σ q))) else ((5 : Int32), σ)))
theorem mw_X5_endAtom : mW yX5_endAtom cX5_endAtom 4 (some .int) 1 := ⟨wd_co_yX5_endAtom, wd_ini_RX5, ⟨by decide, by decide⟩, by decide +kernel, by decide⟩
set_option maxRecDepth 100000 in
set_option maxHeartbeats 4000000 in
theorem c_X5_endAtom (l : Launch) {G : gT} (hF : Full G) (σ : mS) (q : Nat) (hq : sQ q) : Ct l G yX5_endAtom cX5_endAtom 4 (some .int) 3 [.ref (ad G 0), .ref (ad G q)] κI σ (f_X5_endAtom σ q) := by
  refine Ct.ofV [(0, .ref (ad G 0)), (1, .ref (ad G q))] rfl (by decide) (Nat.le_of_ble_eq_true rfl) rfl (fun X => ?_)
  unfold f_X5_endAtom
  refine Vaload_n dX5_endAtom_0 1 rfl 1 rfl ?_
  refine VgetN (q) 9 dX5_endAtom_1 4 rfl (sI_ hF hq 0 (by decide)) (sk0 hq) rfl inX4 (by decide) wd_nfl_RX5_74 (v := .ref (ad G (q + 7))) rfl ?_
  refine Vastore_n dX5_endAtom_4 [(2, .ref (ad G (q + 7))), (0, .ref (ad G 0)), (1, .ref (ad G q))] 5 rfl (by decide) rfl ?_
  refine Vaload_n dX5_endAtom_5 0 rfl 6 rfl ?_
  refine VgetN (q + 7) 0 dX5_endAtom_6 9 rfl (sI_ hF hq 7 (by decide)) (sk7 hq) rfl inX0 (by decide) wd_nfl_RX5_78 (v := .int (σ (q + 7) 0)) rfl ?_
  refine Vifeq (fun v => v) dX5_endAtom_9 23 12 (by decide) rfl (fun h1 => ?_) (fun h1 => ?_)
  · refine Viconst dX5_endAtom_23 (5 : Int32) (by decide) 24 rfl ?_
    exact Viret dX5_endAtom_24
  · refine Vaload_n dX5_endAtom_12 2 rfl 13 rfl ?_
    refine VgetN (q) 8 dX5_endAtom_13 16 rfl (sI_ hF hq 0 (by decide)) (sk0 hq) rfl inX4 (by decide) wd_nfl_RX5_71 (v := .int (σ q 8)) rfl ?_
    refine Vaload_n dX5_endAtom_16 0 rfl 17 rfl ?_
    refine VgetN (q + 7) 2 dX5_endAtom_17 20 rfl (sI_ hF hq 7 (by decide)) (sk7 hq) rfl inX0 (by decide) wd_nfl_RX5_251 (v := .int (σ (q + 7) 2)) rfl ?_
    refine Vicle (fun v => v) dX5_endAtom_20 25 23 (by decide) rfl (fun h2 => ?_) (fun h2 => ?_)
    · refine Vaload_n dX5_endAtom_25 1 rfl 26 rfl ?_
      refine Vaload_n dX5_endAtom_26 0 rfl 27 rfl ?_
      refine VcVp dX5_endAtom_27 [.ref (ad G (q + 7))] (c_X5_isOvertaken l hF σ (q + 7) (sA hq)) mw_X5_isOvertaken wd_im_yX5_isOvertaken wd_se_yX5_isOvertaken wd_ml_RX5_254 (hF.1 0 (by decide)) wk0 rfl rfl (by decide) rfl rfl (Nat.le_of_ble_eq_true rfl) 30 rfl ?_
      refine Vifeq (fun v => v) dX5_endAtom_30 39 33 (by decide) rfl (fun h3 => ?_) (fun h3 => ?_)
      · refine Viconst dX5_endAtom_39 (0 : Int32) (by decide) 40 rfl ?_
        refine Vstore_n dX5_endAtom_40 [(3, .int (0 : Int32)), (2, .ref (ad G (q + 7))), (0, .ref (ad G 0)), (1, .ref (ad G q))] 41 rfl (by decide) rfl ?_
        refine Vlv [2, 3, 1, 0] rfl ?_
        exact vl_X5_endAtom_41 l X hF q hq 9 (0 : Int32) σ 0 nI_0.symm (Nat.zero_le _) rfl
      · refine Vaload_n dX5_endAtom_33 2 rfl 34 rfl ?_
        refine Vgen ?_
        intro u7 eu7
        refine VcVv (u := u7) dX5_endAtom_34 [] (by rw [eu7]; exact c_X4_beginAnew l hF σ q hq) mw_X4_beginAnew wd_im_yX4_beginAnew wd_se_yX4_beginAnew wd_ml_RX5_258 (sI_ hF hq 0 (by decide)) (sk0 hq) rfl rfl (by decide) rfl rfl (Nat.le_of_ble_eq_true rfl) 37 rfl ?_
        refine Viconst dX5_endAtom_37 (0 : Int32) (by decide) 38 rfl ?_
        exact Viret dX5_endAtom_38
    · refine Viconst dX5_endAtom_23 (5 : Int32) (by decide) 24 rfl ?_
      exact Viret dX5_endAtom_24
def f_X5_perform (σ : mS) (q : Nat) : Int32 × mS := (if (σ q 10) < 0 then ((5 : Int32), σ) else (if (σ q 5) ≤ (σ q 10) then ((5 : Int32), σ) else (if (σ q 10) < (24 : Int32) then (if (σ (q + 7) 0) = 0 then (if (σ (q + 1) (σ q 10).toNatClampNeg) = (1 : Int32) then (ap (fun u6 => (u6.1, u6.2)) (f_X5_getCell σ q (σ (q + 2) (σ q 10).toNatClampNeg) (σ (q + 3) (σ q 10).toNatClampNeg))) else (if (σ (q + 1) (σ q 10).toNatClampNeg) = (2 : Int32) then (ap (fun u8 => ((0 : Int32), u8.2)) (f_X5_putCell σ q (σ (q + 2) (σ q 10).toNatClampNeg) (f_X4_held σ q (σ (q + 3) (σ q 10).toNatClampNeg)))) else (if (σ (q + 1) (σ q 10).toNatClampNeg) = (7 : Int32) then (ap (fun u10 => (u10.1, u10.2)) (f_X5_loadItem σ q (σ (q + 2) (σ q 10).toNatClampNeg) (σ (q + 3) (σ q 10).toNatClampNeg) (f_X4_held σ q (σ (q + 4) (σ q 10).toNatClampNeg)))) else (if (σ (q + 1) (σ q 10).toNatClampNeg) = (8 : Int32) then (ap (fun u12 => (u12.1, u12.2)) (f_X3_store σ (σ (q + 2) (σ q 10).toNatClampNeg) (f_X4_held σ q (σ (q + 3) (σ q 10).toNatClampNeg)) (f_X4_held σ q (σ (q + 4) (σ q 10).toNatClampNeg)))) else (if (σ (q + 1) (σ q 10).toNatClampNeg) = (9 : Int32) then (ap (fun u14 => (u14.1, u14.2)) (f_X5_swapCell σ q (σ (q + 2) (σ q 10).toNatClampNeg) (σ (q + 3) (σ q 10).toNatClampNeg) (σ (q + 4) (σ q 10).toNatClampNeg))) else (if (σ (q + 1) (σ q 10).toNatClampNeg) = (13 : Int32) then (ap (fun u16 => (u16.1, u16.2)) (f_X5_endAtom σ q)) else (if (σ (q + 1) (σ q 10).toNatClampNeg) = (17 : Int32) then (ap (fun u18 => (u18.1, u18.2)) (f_X3_make σ (σ (q + 2) (σ q 10).toNatClampNeg) (f_X4_held σ q (σ (q + 3) (σ q 10).toNatClampNeg)))) else (if (σ (q + 1) (σ q 10).toNatClampNeg) = (18 : Int32) then (ap (fun u20 => (u20.1, u20.2)) (f_X3_freeze σ (σ (q + 2) (σ q 10).toNatClampNeg))) else (if (σ (q + 1) (σ q 10).toNatClampNeg) = (19 : Int32) then (ap (fun u22 => ((0 : Int32), u22.2)) (f_X1_defer σ (σ (q + 2) (σ q 10).toNatClampNeg) (σ (q + 3) (σ q 10).toNatClampNeg))) else (ap (fun u23 => (u23.1, u23.2)) (f_X4_performAlone σ q (σ (q + 1) (σ q 10).toNatClampNeg) (σ (q + 2) (σ q 10).toNatClampNeg) (σ (q + 3) (σ q 10).toNatClampNeg) (σ (q + 4) (σ q 10).toNatClampNeg)))))))))))) else (if (f_X5_isBarredFromAtoms (σ (q + 1) (σ q 10).toNatClampNeg)) = 0 then (if (σ (q + 1) (σ q 10).toNatClampNeg) = (1 : Int32) then (ap (fun u37 => (u37.1, u37.2)) (f_X5_getCell σ q (σ (q + 2) (σ q 10).toNatClampNeg) (σ (q + 3) (σ q 10).toNatClampNeg))) else (if (σ (q + 1) (σ q 10).toNatClampNeg) = (2 : Int32) then (ap (fun u39 => ((0 : Int32), u39.2)) (f_X5_putCell σ q (σ (q + 2) (σ q 10).toNatClampNeg) (f_X4_held σ q (σ (q + 3) (σ q 10).toNatClampNeg)))) else (if (σ (q + 1) (σ q 10).toNatClampNeg) = (7 : Int32) then (ap (fun u41 => (u41.1, u41.2)) (f_X5_loadItem σ q (σ (q + 2) (σ q 10).toNatClampNeg) (σ (q + 3) (σ q 10).toNatClampNeg) (f_X4_held σ q (σ (q + 4) (σ q 10).toNatClampNeg)))) else (if (σ (q + 1) (σ q 10).toNatClampNeg) = (8 : Int32) then (ap (fun u43 => (u43.1, u43.2)) (f_X3_store σ (σ (q + 2) (σ q 10).toNatClampNeg) (f_X4_held σ q (σ (q + 3) (σ q 10).toNatClampNeg)) (f_X4_held σ q (σ (q + 4) (σ q 10).toNatClampNeg)))) else (if (σ (q + 1) (σ q 10).toNatClampNeg) = (9 : Int32) then (ap (fun u45 => (u45.1, u45.2)) (f_X5_swapCell σ q (σ (q + 2) (σ q 10).toNatClampNeg) (σ (q + 3) (σ q 10).toNatClampNeg) (σ (q + 4) (σ q 10).toNatClampNeg))) else (if (σ (q + 1) (σ q 10).toNatClampNeg) = (13 : Int32) then (ap (fun u47 => (u47.1, u47.2)) (f_X5_endAtom σ q)) else (if (σ (q + 1) (σ q 10).toNatClampNeg) = (17 : Int32) then (ap (fun u49 => (u49.1, u49.2)) (f_X3_make σ (σ (q + 2) (σ q 10).toNatClampNeg) (f_X4_held σ q (σ (q + 3) (σ q 10).toNatClampNeg)))) else (if (σ (q + 1) (σ q 10).toNatClampNeg) = (18 : Int32) then (ap (fun u51 => (u51.1, u51.2)) (f_X3_freeze σ (σ (q + 2) (σ q 10).toNatClampNeg))) else (if (σ (q + 1) (σ q 10).toNatClampNeg) = (19 : Int32) then (ap (fun u53 => ((0 : Int32), u53.2)) (f_X1_defer σ (σ (q + 2) (σ q 10).toNatClampNeg) (σ (q + 3) (σ q 10).toNatClampNeg))) else (ap (fun u54 => (u54.1, u54.2)) (f_X4_performAlone σ q (σ (q + 1) (σ q 10).toNatClampNeg) (σ (q + 2) (σ q 10).toNatClampNeg) (σ (q + 3) (σ q 10).toNatClampNeg) (σ (q + 4) (σ q 10).toNatClampNeg)))))))))))) else ((5 : Int32), σ))) else ((5 : Int32), σ))))
theorem mw_X5_perform : mW yX5_perform cX5_perform 7 (some .int) 1 := ⟨wd_co_yX5_perform, wd_ini_RX5, ⟨by decide, by decide⟩, by decide +kernel, by decide⟩
set_option maxRecDepth 100000 in
set_option maxHeartbeats 4000000 in
theorem c_X5_perform (l : Launch) {G : gT} (hF : Full G) (σ : mS) (q : Nat) (hq : sQ q) : Ct l G yX5_perform cX5_perform 7 (some .int) 5 [.ref (ad G 0), .ref (ad G q)] κI σ (f_X5_perform σ q) := by
  refine Ct.ofV [(0, .ref (ad G 0)), (1, .ref (ad G q))] rfl (by decide) (Nat.le_of_ble_eq_true rfl) rfl (fun X => ?_)
  unfold f_X5_perform
  refine Vaload_n dX5_perform_0 1 rfl 1 rfl ?_
  refine VgetN (q) 10 dX5_perform_1 4 rfl (sI_ hF hq 0 (by decide)) (sk0 hq) rfl inX4 (by decide) wd_nfl_RX5_65 (v := .int (σ q 10)) rfl ?_
  refine Vstore_n dX5_perform_4 [(2, .int (σ q 10)), (0, .ref (ad G 0)), (1, .ref (ad G q))] 5 rfl (by decide) rfl ?_
  refine Vload_n dX5_perform_5 0 rfl 6 rfl ?_
  refine Viflt (fun v => v) dX5_perform_6 23 9 (by decide) rfl (fun h1 => ?_) (fun h1 => ?_)
  · refine Viconst dX5_perform_23 (5 : Int32) (by decide) 24 rfl ?_
    exact Viret dX5_perform_24
  · refine Vload_n dX5_perform_9 0 rfl 10 rfl ?_
    refine Vaload_n dX5_perform_10 2 rfl 11 rfl ?_
    refine VgetN (q) 5 dX5_perform_11 14 rfl (sI_ hF hq 0 (by decide)) (sk0 hq) rfl inX4 (by decide) wd_nfl_RX5_47 (v := .int (σ q 5)) rfl ?_
    refine Vicge (fun v => v) dX5_perform_14 23 17 (by decide) rfl (fun h2 => ?_) (fun h2 => ?_)
    · refine Viconst dX5_perform_23 (5 : Int32) (by decide) 24 rfl ?_
      exact Viret dX5_perform_24
    · refine Vload_n dX5_perform_17 0 rfl 18 rfl ?_
      refine Vbipush dX5_perform_18 (24 : Int32) (by decide) 20 rfl ?_
      refine Viclt (fun v => v) dX5_perform_20 25 23 (by decide) rfl (fun h3 => ?_) (fun h3 => ?_)
      · refine Vaload_n dX5_perform_25 2 rfl 26 rfl ?_
        refine VgetN (q) 1 dX5_perform_26 29 rfl (sI_ hF hq 0 (by decide)) (sk0 hq) rfl inX4 (by decide) wd_nfl_RX5_163 (v := .ref (ad G (q + 1))) rfl ?_
        refine Vload_n dX5_perform_29 0 rfl 30 rfl ?_
        refine Vld dX5_perform_30 31 rfl (sI_ hF hq 1 (by decide)) (sk1 hq) (sn1 hq) hF.2.1 (by first | exact (by assumption) | exact (vin_cmp2 (by assumption) (by assumption) (by decide)) | exact (vin_cell (by assumption)) | exact (vin_reg (by assumption)) | exact (vin_row (by assumption)) | exact (vin_cnt (by assumption) (by assumption) (by decide) (by decide) (by assumption)) | exact (vin_cmp (by assumption) (by assumption) (by decide)) | exact (vp_in_iff.mpr (by decide))) ?_
        refine Vstore_n dX5_perform_31 [(3, .int (σ (q + 1) (σ q 10).toNatClampNeg)), (2, .int (σ q 10)), (0, .ref (ad G 0)), (1, .ref (ad G q))] 32 rfl (by decide) rfl ?_
        refine Vaload_n dX5_perform_32 3 rfl 33 rfl ?_
        refine VgetN (q) 2 dX5_perform_33 36 rfl (sI_ hF hq 0 (by decide)) (sk0 hq) rfl inX4 (by decide) wd_nfl_RX5_167 (v := .ref (ad G (q + 2))) rfl ?_
        refine Vload_n dX5_perform_36 1 rfl 37 rfl ?_
        refine Vld dX5_perform_37 38 rfl (sI_ hF hq 2 (by decide)) (sk2 hq) (sn2 hq) hF.2.1 (by first | exact (by assumption) | exact (vin_cmp2 (by assumption) (by assumption) (by decide)) | exact (vin_cell (by assumption)) | exact (vin_reg (by assumption)) | exact (vin_row (by assumption)) | exact (vin_cnt (by assumption) (by assumption) (by decide) (by decide) (by assumption)) | exact (vin_cmp (by assumption) (by assumption) (by decide)) | exact (vp_in_iff.mpr (by decide))) ?_
        refine Vstore dX5_perform_38 [(4, .int (σ (q + 2) (σ q 10).toNatClampNeg)), (3, .int (σ (q + 1) (σ q 10).toNatClampNeg)), (2, .int (σ q 10)), (0, .ref (ad G 0)), (1, .ref (ad G q))] 40 rfl (by decide) rfl ?_
        refine Vaload_n dX5_perform_40 4 rfl 41 rfl ?_
        refine VgetN (q) 3 dX5_perform_41 44 rfl (sI_ hF hq 0 (by decide)) (sk0 hq) rfl inX4 (by decide) wd_nfl_RX5_170 (v := .ref (ad G (q + 3))) rfl ?_
        refine Vload_n dX5_perform_44 2 rfl 45 rfl ?_
        refine Vld dX5_perform_45 46 rfl (sI_ hF hq 3 (by decide)) (sk3 hq) (sn3 hq) hF.2.1 (by first | exact (by assumption) | exact (vin_cmp2 (by assumption) (by assumption) (by decide)) | exact (vin_cell (by assumption)) | exact (vin_reg (by assumption)) | exact (vin_row (by assumption)) | exact (vin_cnt (by assumption) (by assumption) (by decide) (by decide) (by assumption)) | exact (vin_cmp (by assumption) (by assumption) (by decide)) | exact (vp_in_iff.mpr (by decide))) ?_
        refine Vstore dX5_perform_46 [(5, .int (σ (q + 3) (σ q 10).toNatClampNeg)), (4, .int (σ (q + 2) (σ q 10).toNatClampNeg)), (3, .int (σ (q + 1) (σ q 10).toNatClampNeg)), (2, .int (σ q 10)), (0, .ref (ad G 0)), (1, .ref (ad G q))] 48 rfl (by decide) rfl ?_
        refine Vaload_n dX5_perform_48 5 rfl 49 rfl ?_
        refine VgetN (q) 4 dX5_perform_49 52 rfl (sI_ hF hq 0 (by decide)) (sk0 hq) rfl inX4 (by decide) wd_nfl_RX5_173 (v := .ref (ad G (q + 4))) rfl ?_
        refine Vload_n dX5_perform_52 3 rfl 53 rfl ?_
        refine Vld dX5_perform_53 54 rfl (sI_ hF hq 4 (by decide)) (sk4 hq) (sn4 hq) hF.2.1 (by first | exact (by assumption) | exact (vin_cmp2 (by assumption) (by assumption) (by decide)) | exact (vin_cell (by assumption)) | exact (vin_reg (by assumption)) | exact (vin_row (by assumption)) | exact (vin_cnt (by assumption) (by assumption) (by decide) (by decide) (by assumption)) | exact (vin_cmp (by assumption) (by assumption) (by decide)) | exact (vp_in_iff.mpr (by decide))) ?_
        refine Vstore dX5_perform_54 [(6, .int (σ (q + 4) (σ q 10).toNatClampNeg)), (5, .int (σ (q + 3) (σ q 10).toNatClampNeg)), (4, .int (σ (q + 2) (σ q 10).toNatClampNeg)), (3, .int (σ (q + 1) (σ q 10).toNatClampNeg)), (2, .int (σ q 10)), (0, .ref (ad G 0)), (1, .ref (ad G q))] 56 rfl (by decide) rfl ?_
        refine Vaload_n dX5_perform_56 6 rfl 57 rfl ?_
        refine VgetN (q) 9 dX5_perform_57 60 rfl (sI_ hF hq 0 (by decide)) (sk0 hq) rfl inX4 (by decide) wd_nfl_RX5_74 (v := .ref (ad G (q + 7))) rfl ?_
        refine VgetN (q + 7) 0 dX5_perform_60 63 rfl (sI_ hF hq 7 (by decide)) (sk7 hq) rfl inX0 (by decide) wd_nfl_RX5_78 (v := .int (σ (q + 7) 0)) rfl ?_
        refine Vifeq (fun v => v) dX5_perform_63 75 66 (by decide) rfl (fun h4 => ?_) (fun h4 => ?_)
        · refine Vload_n dX5_perform_75 3 rfl 76 rfl ?_
          refine Vif (fun v => v) (fun h5 => ?_) (fun h5 => ?_)
          · refine Vswin dX5_perform_76 168 (by rw [h5]; decide) (by rw [h5]; decide) (off := 92) (by rw [h5]; rfl) (by decide) ?_
            refine Vaload_n dX5_perform_168 5 rfl 169 rfl ?_
            refine Vaload_n dX5_perform_169 6 rfl 170 rfl ?_
            refine Vload dX5_perform_170 2 rfl 172 rfl ?_
            refine Vload dX5_perform_172 1 rfl 174 rfl ?_
            refine Vgen ?_
            intro u6 eu6
            refine VcVi (u := u6) dX5_perform_174 [.ref (ad G q), .int (σ (q + 2) (σ q 10).toNatClampNeg), .int (σ (q + 3) (σ q 10).toNatClampNeg)] (by rw [eu6]; exact c_X5_getCell l hF σ q (σ (q + 2) (σ q 10).toNatClampNeg) (σ (q + 3) (σ q 10).toNatClampNeg) hq) mw_X5_getCell wd_im_yX5_getCell wd_se_yX5_getCell wd_ml_RX5_179 (hF.1 0 (by decide)) wk0 rfl rfl (by decide) rfl rfl (Nat.le_of_ble_eq_true rfl) 177 rfl ?_
            exact Viret dX5_perform_177
          refine Vif (fun v => v) (fun h7 => ?_) (fun h7 => ?_)
          · refine Vswin dX5_perform_76 178 (by rw [h7]; decide) (by rw [h7]; decide) (off := 102) (by rw [h7]; rfl) (by decide) ?_
            refine Vaload_n dX5_perform_178 5 rfl 179 rfl ?_
            refine Vaload_n dX5_perform_179 6 rfl 180 rfl ?_
            refine Vload dX5_perform_180 2 rfl 182 rfl ?_
            refine Vaload_n dX5_perform_182 6 rfl 183 rfl ?_
            refine Vload dX5_perform_183 1 rfl 185 rfl ?_
            refine VcVp dX5_perform_185 [.int (σ (q + 3) (σ q 10).toNatClampNeg)] (c_X4_held l hF σ q (σ (q + 3) (σ q 10).toNatClampNeg) hq) mw_X4_held wd_im_yX4_held wd_se_yX4_held wd_ml_RX5_91 (sI_ hF hq 0 (by decide)) (sk0 hq) rfl rfl (by decide) rfl rfl (Nat.le_of_ble_eq_true rfl) 188 rfl ?_
            refine Vgen ?_
            intro u8 eu8
            refine VcVv (u := u8) dX5_perform_188 [.ref (ad G q), .int (σ (q + 2) (σ q 10).toNatClampNeg), .int (f_X4_held σ q (σ (q + 3) (σ q 10).toNatClampNeg))] (by rw [eu8]; exact c_X5_putCell l hF σ q (σ (q + 2) (σ q 10).toNatClampNeg) (f_X4_held σ q (σ (q + 3) (σ q 10).toNatClampNeg)) hq) mw_X5_putCell wd_im_yX5_putCell wd_se_yX5_putCell wd_ml_RX5_183 (hF.1 0 (by decide)) wk0 rfl rfl (by decide) rfl rfl (Nat.le_of_ble_eq_true rfl) 191 rfl ?_
            refine Viconst dX5_perform_191 (0 : Int32) (by decide) 192 rfl ?_
            exact Viret dX5_perform_192
          refine Vif (fun v => v) (fun h9 => ?_) (fun h9 => ?_)
          · refine Vswin dX5_perform_76 193 (by rw [h9]; decide) (by rw [h9]; decide) (off := 117) (by rw [h9]; rfl) (by decide) ?_
            refine Vaload_n dX5_perform_193 5 rfl 194 rfl ?_
            refine Vaload_n dX5_perform_194 6 rfl 195 rfl ?_
            refine Vload dX5_perform_195 2 rfl 197 rfl ?_
            refine Vload dX5_perform_197 1 rfl 199 rfl ?_
            refine Vaload_n dX5_perform_199 6 rfl 200 rfl ?_
            refine Vload dX5_perform_200 0 rfl 202 rfl ?_
            refine VcVp dX5_perform_202 [.int (σ (q + 4) (σ q 10).toNatClampNeg)] (c_X4_held l hF σ q (σ (q + 4) (σ q 10).toNatClampNeg) hq) mw_X4_held wd_im_yX4_held wd_se_yX4_held wd_ml_RX5_91 (sI_ hF hq 0 (by decide)) (sk0 hq) rfl rfl (by decide) rfl rfl (Nat.le_of_ble_eq_true rfl) 205 rfl ?_
            refine Vgen ?_
            intro u10 eu10
            refine VcVi (u := u10) dX5_perform_205 [.ref (ad G q), .int (σ (q + 2) (σ q 10).toNatClampNeg), .int (σ (q + 3) (σ q 10).toNatClampNeg), .int (f_X4_held σ q (σ (q + 4) (σ q 10).toNatClampNeg))] (by rw [eu10]; exact c_X5_loadItem l hF σ q (σ (q + 2) (σ q 10).toNatClampNeg) (σ (q + 3) (σ q 10).toNatClampNeg) (f_X4_held σ q (σ (q + 4) (σ q 10).toNatClampNeg)) hq) mw_X5_loadItem wd_im_yX5_loadItem wd_se_yX5_loadItem wd_ml_RX5_187 (hF.1 0 (by decide)) wk0 rfl rfl (by decide) rfl rfl (Nat.le_of_ble_eq_true rfl) 208 rfl ?_
            exact Viret dX5_perform_208
          refine Vif (fun v => v) (fun h11 => ?_) (fun h11 => ?_)
          · refine Vswin dX5_perform_76 209 (by rw [h11]; decide) (by rw [h11]; decide) (off := 133) (by rw [h11]; rfl) (by decide) ?_
            refine Vaload_n dX5_perform_209 5 rfl 210 rfl ?_
            refine Vget (0) 1 dX5_perform_210 213 rfl (hF.1 0 (by decide)) wk0 rfl inX5 (by decide) wd_fl_RX5_19 (v := .ref (ad G 9)) rfl ?_
            refine Vload dX5_perform_213 2 rfl 215 rfl ?_
            refine Vaload_n dX5_perform_215 6 rfl 216 rfl ?_
            refine Vload dX5_perform_216 1 rfl 218 rfl ?_
            refine VcVp dX5_perform_218 [.int (σ (q + 3) (σ q 10).toNatClampNeg)] (c_X4_held l hF σ q (σ (q + 3) (σ q 10).toNatClampNeg) hq) mw_X4_held wd_im_yX4_held wd_se_yX4_held wd_ml_RX5_91 (sI_ hF hq 0 (by decide)) (sk0 hq) rfl rfl (by decide) rfl rfl (Nat.le_of_ble_eq_true rfl) 221 rfl ?_
            refine Vaload_n dX5_perform_221 6 rfl 222 rfl ?_
            refine Vload dX5_perform_222 0 rfl 224 rfl ?_
            refine VcVp dX5_perform_224 [.int (σ (q + 4) (σ q 10).toNatClampNeg)] (c_X4_held l hF σ q (σ (q + 4) (σ q 10).toNatClampNeg) hq) mw_X4_held wd_im_yX4_held wd_se_yX4_held wd_ml_RX5_91 (sI_ hF hq 0 (by decide)) (sk0 hq) rfl rfl (by decide) rfl rfl (Nat.le_of_ble_eq_true rfl) 227 rfl ?_
            refine Vgen ?_
            intro u12 eu12
            refine VcVi (u := u12) dX5_perform_227 [.int (σ (q + 2) (σ q 10).toNatClampNeg), .int (f_X4_held σ q (σ (q + 3) (σ q 10).toNatClampNeg)), .int (f_X4_held σ q (σ (q + 4) (σ q 10).toNatClampNeg))] (by rw [eu12]; exact c_X3_store l hF σ (σ (q + 2) (σ q 10).toNatClampNeg) (f_X4_held σ q (σ (q + 3) (σ q 10).toNatClampNeg)) (f_X4_held σ q (σ (q + 4) (σ q 10).toNatClampNeg))) mw_X3_store wd_im_yX3_store wd_se_yX3_store wd_ml_RX5_191 (hF.1 9 (by decide)) wk9 rfl rfl (by decide) rfl rfl (Nat.le_of_ble_eq_true rfl) 230 rfl ?_
            exact Viret dX5_perform_230
          refine Vif (fun v => v) (fun h13 => ?_) (fun h13 => ?_)
          · refine Vswin dX5_perform_76 231 (by rw [h13]; decide) (by rw [h13]; decide) (off := 155) (by rw [h13]; rfl) (by decide) ?_
            refine Vaload_n dX5_perform_231 5 rfl 232 rfl ?_
            refine Vaload_n dX5_perform_232 6 rfl 233 rfl ?_
            refine Vload dX5_perform_233 2 rfl 235 rfl ?_
            refine Vload dX5_perform_235 1 rfl 237 rfl ?_
            refine Vload dX5_perform_237 0 rfl 239 rfl ?_
            refine Vgen ?_
            intro u14 eu14
            refine VcVi (u := u14) dX5_perform_239 [.ref (ad G q), .int (σ (q + 2) (σ q 10).toNatClampNeg), .int (σ (q + 3) (σ q 10).toNatClampNeg), .int (σ (q + 4) (σ q 10).toNatClampNeg)] (by rw [eu14]; exact c_X5_swapCell l hF σ q (σ (q + 2) (σ q 10).toNatClampNeg) (σ (q + 3) (σ q 10).toNatClampNeg) (σ (q + 4) (σ q 10).toNatClampNeg) hq) mw_X5_swapCell wd_im_yX5_swapCell wd_se_yX5_swapCell wd_ml_RX5_195 (hF.1 0 (by decide)) wk0 rfl rfl (by decide) rfl rfl (Nat.le_of_ble_eq_true rfl) 242 rfl ?_
            exact Viret dX5_perform_242
          refine Vif (fun v => v) (fun h15 => ?_) (fun h15 => ?_)
          · refine Vswin dX5_perform_76 243 (by rw [h15]; decide) (by rw [h15]; decide) (off := 167) (by rw [h15]; rfl) (by decide) ?_
            refine Vaload_n dX5_perform_243 5 rfl 244 rfl ?_
            refine Vaload_n dX5_perform_244 6 rfl 245 rfl ?_
            refine Vgen ?_
            intro u16 eu16
            refine VcVi (u := u16) dX5_perform_245 [.ref (ad G q)] (by rw [eu16]; exact c_X5_endAtom l hF σ q hq) mw_X5_endAtom wd_im_yX5_endAtom wd_se_yX5_endAtom wd_ml_RX5_198 (hF.1 0 (by decide)) wk0 rfl rfl (by decide) rfl rfl (Nat.le_of_ble_eq_true rfl) 248 rfl ?_
            exact Viret dX5_perform_248
          refine Vif (fun v => v) (fun h17 => ?_) (fun h17 => ?_)
          · refine Vswin dX5_perform_76 249 (by rw [h17]; decide) (by rw [h17]; decide) (off := 173) (by rw [h17]; rfl) (by decide) ?_
            refine Vaload_n dX5_perform_249 5 rfl 250 rfl ?_
            refine Vget (0) 1 dX5_perform_250 253 rfl (hF.1 0 (by decide)) wk0 rfl inX5 (by decide) wd_fl_RX5_19 (v := .ref (ad G 9)) rfl ?_
            refine Vload dX5_perform_253 2 rfl 255 rfl ?_
            refine Vaload_n dX5_perform_255 6 rfl 256 rfl ?_
            refine Vload dX5_perform_256 1 rfl 258 rfl ?_
            refine VcVp dX5_perform_258 [.int (σ (q + 3) (σ q 10).toNatClampNeg)] (c_X4_held l hF σ q (σ (q + 3) (σ q 10).toNatClampNeg) hq) mw_X4_held wd_im_yX4_held wd_se_yX4_held wd_ml_RX5_91 (sI_ hF hq 0 (by decide)) (sk0 hq) rfl rfl (by decide) rfl rfl (Nat.le_of_ble_eq_true rfl) 261 rfl ?_
            refine Vgen ?_
            intro u18 eu18
            refine VcVi (u := u18) dX5_perform_261 [.int (σ (q + 2) (σ q 10).toNatClampNeg), .int (f_X4_held σ q (σ (q + 3) (σ q 10).toNatClampNeg))] (by rw [eu18]; exact c_X3_make l hF σ (σ (q + 2) (σ q 10).toNatClampNeg) (f_X4_held σ q (σ (q + 3) (σ q 10).toNatClampNeg))) mw_X3_make wd_im_yX3_make wd_se_yX3_make wd_ml_RX5_201 (hF.1 9 (by decide)) wk9 rfl rfl (by decide) rfl rfl (Nat.le_of_ble_eq_true rfl) 264 rfl ?_
            exact Viret dX5_perform_264
          refine Vif (fun v => v) (fun h19 => ?_) (fun h19 => ?_)
          · refine Vswin dX5_perform_76 265 (by rw [h19]; decide) (by rw [h19]; decide) (off := 189) (by rw [h19]; rfl) (by decide) ?_
            refine Vaload_n dX5_perform_265 5 rfl 266 rfl ?_
            refine Vget (0) 1 dX5_perform_266 269 rfl (hF.1 0 (by decide)) wk0 rfl inX5 (by decide) wd_fl_RX5_19 (v := .ref (ad G 9)) rfl ?_
            refine Vload dX5_perform_269 2 rfl 271 rfl ?_
            refine Vgen ?_
            intro u20 eu20
            refine VcVi (u := u20) dX5_perform_271 [.int (σ (q + 2) (σ q 10).toNatClampNeg)] (by rw [eu20]; exact c_X3_freeze l hF σ (σ (q + 2) (σ q 10).toNatClampNeg)) mw_X3_freeze wd_im_yX3_freeze wd_se_yX3_freeze wd_ml_RX5_204 (hF.1 9 (by decide)) wk9 rfl rfl (by decide) rfl rfl (Nat.le_of_ble_eq_true rfl) 274 rfl ?_
            exact Viret dX5_perform_274
          refine Vif (fun v => v) (fun h21 => ?_) (fun h21 => ?_)
          · refine Vswin dX5_perform_76 275 (by rw [h21]; decide) (by rw [h21]; decide) (off := 199) (by rw [h21]; rfl) (by decide) ?_
            refine Vaload_n dX5_perform_275 5 rfl 276 rfl ?_
            refine Vget (0) 0 dX5_perform_276 279 rfl (hF.1 0 (by decide)) wk0 rfl inX5 (by decide) wd_fl_RX5_10 (v := .ref (ad G 1)) rfl ?_
            refine Vload dX5_perform_279 2 rfl 281 rfl ?_
            refine Vload dX5_perform_281 1 rfl 283 rfl ?_
            refine Vgen ?_
            intro u22 eu22
            refine VcVv (u := u22) dX5_perform_283 [.int (σ (q + 2) (σ q 10).toNatClampNeg), .int (σ (q + 3) (σ q 10).toNatClampNeg)] (by rw [eu22]; exact c_X1_defer l hF σ (σ (q + 2) (σ q 10).toNatClampNeg) (σ (q + 3) (σ q 10).toNatClampNeg)) mw_X1_defer wd_im_yX1_defer wd_se_yX1_defer wd_ml_RX5_207 (hF.1 1 (by decide)) wk1 rfl rfl (by decide) rfl rfl (Nat.le_of_ble_eq_true rfl) 286 rfl ?_
            refine Viconst dX5_perform_286 (0 : Int32) (by decide) 287 rfl ?_
            exact Viret dX5_perform_287
          have w24 : V l G X RX5 cX5_perform 7 5 (some .int) κI ((fun v => v) (ap (fun u23 => (u23.1, u23.2)) (f_X4_performAlone σ q (σ (q + 1) (σ q 10).toNatClampNeg) (σ (q + 2) (σ q 10).toNatClampNeg) (σ (q + 3) (σ q 10).toNatClampNeg) (σ (q + 4) (σ q 10).toNatClampNeg)))) σ 288 [(6, .int (σ (q + 4) (σ q 10).toNatClampNeg)), (5, .int (σ (q + 3) (σ q 10).toNatClampNeg)), (4, .int (σ (q + 2) (σ q 10).toNatClampNeg)), (3, .int (σ (q + 1) (σ q 10).toNatClampNeg)), (2, .int (σ q 10)), (0, .ref (ad G 0)), (1, .ref (ad G q))] [] := by
            refine Vaload_n dX5_perform_288 6 rfl 289 rfl ?_
            refine Vload_n dX5_perform_289 3 rfl 290 rfl ?_
            refine Vload dX5_perform_290 2 rfl 292 rfl ?_
            refine Vload dX5_perform_292 1 rfl 294 rfl ?_
            refine Vload dX5_perform_294 0 rfl 296 rfl ?_
            refine Vgen ?_
            intro u23 eu23
            refine VcVi (u := u23) dX5_perform_296 [.int (σ (q + 1) (σ q 10).toNatClampNeg), .int (σ (q + 2) (σ q 10).toNatClampNeg), .int (σ (q + 3) (σ q 10).toNatClampNeg), .int (σ (q + 4) (σ q 10).toNatClampNeg)] (by rw [eu23]; exact c_X4_performAlone l hF σ q (σ (q + 1) (σ q 10).toNatClampNeg) (σ (q + 2) (σ q 10).toNatClampNeg) (σ (q + 3) (σ q 10).toNatClampNeg) (σ (q + 4) (σ q 10).toNatClampNeg) hq) mw_X4_performAlone wd_im_yX4_performAlone wd_se_yX4_performAlone wd_ml_RX5_210 (sI_ hF hq 0 (by decide)) (sk0 hq) rfl rfl (by decide) rfl rfl (Nat.le_of_ble_eq_true rfl) 299 rfl ?_
            exact Viret dX5_perform_299
          by_cases o25 : (σ (q + 1) (σ q 10).toNatClampNeg) = (3 : Int32)
          · exact Vswin dX5_perform_76 288 (by rw [o25]; decide) (by rw [o25]; decide) (off := 212) (by rw [o25]; rfl) (by decide) w24
          by_cases o26 : (σ (q + 1) (σ q 10).toNatClampNeg) = (4 : Int32)
          · exact Vswin dX5_perform_76 288 (by rw [o26]; decide) (by rw [o26]; decide) (off := 212) (by rw [o26]; rfl) (by decide) w24
          by_cases o27 : (σ (q + 1) (σ q 10).toNatClampNeg) = (5 : Int32)
          · exact Vswin dX5_perform_76 288 (by rw [o27]; decide) (by rw [o27]; decide) (off := 212) (by rw [o27]; rfl) (by decide) w24
          by_cases o28 : (σ (q + 1) (σ q 10).toNatClampNeg) = (6 : Int32)
          · exact Vswin dX5_perform_76 288 (by rw [o28]; decide) (by rw [o28]; decide) (off := 212) (by rw [o28]; rfl) (by decide) w24
          by_cases o29 : (σ (q + 1) (σ q 10).toNatClampNeg) = (10 : Int32)
          · exact Vswin dX5_perform_76 288 (by rw [o29]; decide) (by rw [o29]; decide) (off := 212) (by rw [o29]; rfl) (by decide) w24
          by_cases o30 : (σ (q + 1) (σ q 10).toNatClampNeg) = (11 : Int32)
          · exact Vswin dX5_perform_76 288 (by rw [o30]; decide) (by rw [o30]; decide) (off := 212) (by rw [o30]; rfl) (by decide) w24
          by_cases o31 : (σ (q + 1) (σ q 10).toNatClampNeg) = (12 : Int32)
          · exact Vswin dX5_perform_76 288 (by rw [o31]; decide) (by rw [o31]; decide) (off := 212) (by rw [o31]; rfl) (by decide) w24
          by_cases o32 : (σ (q + 1) (σ q 10).toNatClampNeg) = (14 : Int32)
          · exact Vswin dX5_perform_76 288 (by rw [o32]; decide) (by rw [o32]; decide) (off := 212) (by rw [o32]; rfl) (by decide) w24
          by_cases o33 : (σ (q + 1) (σ q 10).toNatClampNeg) = (15 : Int32)
          · exact Vswin dX5_perform_76 288 (by rw [o33]; decide) (by rw [o33]; decide) (off := 212) (by rw [o33]; rfl) (by decide) w24
          by_cases o34 : (σ (q + 1) (σ q 10).toNatClampNeg) = (16 : Int32)
          · exact Vswin dX5_perform_76 288 (by rw [o34]; decide) (by rw [o34]; decide) (off := 212) (by rw [o34]; rfl) (by decide) w24
          exact Vswout dX5_perform_76 (by have eh5 := lv_neT (a := 1) h5 (by decide); have eh7 := lv_neT (a := 2) h7 (by decide); have eh9 := lv_neT (a := 7) h9 (by decide); have eh11 := lv_neT (a := 8) h11 (by decide); have eh13 := lv_neT (a := 9) h13 (by decide); have eh15 := lv_neT (a := 13) h15 (by decide); have eh17 := lv_neT (a := 17) h17 (by decide); have eh19 := lv_neT (a := 18) h19 (by decide); have eh21 := lv_neT (a := 19) h21 (by decide); have eo25 := lv_neT (a := 3) o25 (by decide); have eo26 := lv_neT (a := 4) o26 (by decide); have eo27 := lv_neT (a := 5) o27 (by decide); have eo28 := lv_neT (a := 6) o28 (by decide); have eo29 := lv_neT (a := 10) o29 (by decide); have eo30 := lv_neT (a := 11) o30 (by decide); have eo31 := lv_neT (a := 12) o31 (by decide); have eo32 := lv_neT (a := 14) o32 (by decide); have eo33 := lv_neT (a := 15) o33 (by decide); have eo34 := lv_neT (a := 16) o34 (by decide); omega) (tgt := 288) (by decide) w24
        · refine Vload_n dX5_perform_66 3 rfl 67 rfl ?_
          refine VcSp dX5_perform_67 [.int (σ (q + 1) (σ q 10).toNatClampNeg)] (c_X5_isBarredFromAtoms l hF σ (σ (q + 1) (σ q 10).toNatClampNeg)) mw_X5_isBarredFromAtoms wd_sm_yX5_isBarredFromAtoms wd_ml_RX5_176 (by decide) rfl rfl (Nat.le_of_ble_eq_true rfl) 70 rfl ?_
          refine Vifeq (fun v => v) dX5_perform_70 75 73 (by decide) rfl (fun h35 => ?_) (fun h35 => ?_)
          · refine Vload_n dX5_perform_75 3 rfl 76 rfl ?_
            refine Vif (fun v => v) (fun h36 => ?_) (fun h36 => ?_)
            · refine Vswin dX5_perform_76 168 (by rw [h36]; decide) (by rw [h36]; decide) (off := 92) (by rw [h36]; rfl) (by decide) ?_
              refine Vaload_n dX5_perform_168 5 rfl 169 rfl ?_
              refine Vaload_n dX5_perform_169 6 rfl 170 rfl ?_
              refine Vload dX5_perform_170 2 rfl 172 rfl ?_
              refine Vload dX5_perform_172 1 rfl 174 rfl ?_
              refine Vgen ?_
              intro u37 eu37
              refine VcVi (u := u37) dX5_perform_174 [.ref (ad G q), .int (σ (q + 2) (σ q 10).toNatClampNeg), .int (σ (q + 3) (σ q 10).toNatClampNeg)] (by rw [eu37]; exact c_X5_getCell l hF σ q (σ (q + 2) (σ q 10).toNatClampNeg) (σ (q + 3) (σ q 10).toNatClampNeg) hq) mw_X5_getCell wd_im_yX5_getCell wd_se_yX5_getCell wd_ml_RX5_179 (hF.1 0 (by decide)) wk0 rfl rfl (by decide) rfl rfl (Nat.le_of_ble_eq_true rfl) 177 rfl ?_
              exact Viret dX5_perform_177
            refine Vif (fun v => v) (fun h38 => ?_) (fun h38 => ?_)
            · refine Vswin dX5_perform_76 178 (by rw [h38]; decide) (by rw [h38]; decide) (off := 102) (by rw [h38]; rfl) (by decide) ?_
              refine Vaload_n dX5_perform_178 5 rfl 179 rfl ?_
              refine Vaload_n dX5_perform_179 6 rfl 180 rfl ?_
              refine Vload dX5_perform_180 2 rfl 182 rfl ?_
              refine Vaload_n dX5_perform_182 6 rfl 183 rfl ?_
              refine Vload dX5_perform_183 1 rfl 185 rfl ?_
              refine VcVp dX5_perform_185 [.int (σ (q + 3) (σ q 10).toNatClampNeg)] (c_X4_held l hF σ q (σ (q + 3) (σ q 10).toNatClampNeg) hq) mw_X4_held wd_im_yX4_held wd_se_yX4_held wd_ml_RX5_91 (sI_ hF hq 0 (by decide)) (sk0 hq) rfl rfl (by decide) rfl rfl (Nat.le_of_ble_eq_true rfl) 188 rfl ?_
              refine Vgen ?_
              intro u39 eu39
              refine VcVv (u := u39) dX5_perform_188 [.ref (ad G q), .int (σ (q + 2) (σ q 10).toNatClampNeg), .int (f_X4_held σ q (σ (q + 3) (σ q 10).toNatClampNeg))] (by rw [eu39]; exact c_X5_putCell l hF σ q (σ (q + 2) (σ q 10).toNatClampNeg) (f_X4_held σ q (σ (q + 3) (σ q 10).toNatClampNeg)) hq) mw_X5_putCell wd_im_yX5_putCell wd_se_yX5_putCell wd_ml_RX5_183 (hF.1 0 (by decide)) wk0 rfl rfl (by decide) rfl rfl (Nat.le_of_ble_eq_true rfl) 191 rfl ?_
              refine Viconst dX5_perform_191 (0 : Int32) (by decide) 192 rfl ?_
              exact Viret dX5_perform_192
            refine Vif (fun v => v) (fun h40 => ?_) (fun h40 => ?_)
            · refine Vswin dX5_perform_76 193 (by rw [h40]; decide) (by rw [h40]; decide) (off := 117) (by rw [h40]; rfl) (by decide) ?_
              refine Vaload_n dX5_perform_193 5 rfl 194 rfl ?_
              refine Vaload_n dX5_perform_194 6 rfl 195 rfl ?_
              refine Vload dX5_perform_195 2 rfl 197 rfl ?_
              refine Vload dX5_perform_197 1 rfl 199 rfl ?_
              refine Vaload_n dX5_perform_199 6 rfl 200 rfl ?_
              refine Vload dX5_perform_200 0 rfl 202 rfl ?_
              refine VcVp dX5_perform_202 [.int (σ (q + 4) (σ q 10).toNatClampNeg)] (c_X4_held l hF σ q (σ (q + 4) (σ q 10).toNatClampNeg) hq) mw_X4_held wd_im_yX4_held wd_se_yX4_held wd_ml_RX5_91 (sI_ hF hq 0 (by decide)) (sk0 hq) rfl rfl (by decide) rfl rfl (Nat.le_of_ble_eq_true rfl) 205 rfl ?_
              refine Vgen ?_
              intro u41 eu41
              refine VcVi (u := u41) dX5_perform_205 [.ref (ad G q), .int (σ (q + 2) (σ q 10).toNatClampNeg), .int (σ (q + 3) (σ q 10).toNatClampNeg), .int (f_X4_held σ q (σ (q + 4) (σ q 10).toNatClampNeg))] (by rw [eu41]; exact c_X5_loadItem l hF σ q (σ (q + 2) (σ q 10).toNatClampNeg) (σ (q + 3) (σ q 10).toNatClampNeg) (f_X4_held σ q (σ (q + 4) (σ q 10).toNatClampNeg)) hq) mw_X5_loadItem wd_im_yX5_loadItem wd_se_yX5_loadItem wd_ml_RX5_187 (hF.1 0 (by decide)) wk0 rfl rfl (by decide) rfl rfl (Nat.le_of_ble_eq_true rfl) 208 rfl ?_
              exact Viret dX5_perform_208
            refine Vif (fun v => v) (fun h42 => ?_) (fun h42 => ?_)
            · refine Vswin dX5_perform_76 209 (by rw [h42]; decide) (by rw [h42]; decide) (off := 133) (by rw [h42]; rfl) (by decide) ?_
              refine Vaload_n dX5_perform_209 5 rfl 210 rfl ?_
              refine Vget (0) 1 dX5_perform_210 213 rfl (hF.1 0 (by decide)) wk0 rfl inX5 (by decide) wd_fl_RX5_19 (v := .ref (ad G 9)) rfl ?_
              refine Vload dX5_perform_213 2 rfl 215 rfl ?_
              refine Vaload_n dX5_perform_215 6 rfl 216 rfl ?_
              refine Vload dX5_perform_216 1 rfl 218 rfl ?_
              refine VcVp dX5_perform_218 [.int (σ (q + 3) (σ q 10).toNatClampNeg)] (c_X4_held l hF σ q (σ (q + 3) (σ q 10).toNatClampNeg) hq) mw_X4_held wd_im_yX4_held wd_se_yX4_held wd_ml_RX5_91 (sI_ hF hq 0 (by decide)) (sk0 hq) rfl rfl (by decide) rfl rfl (Nat.le_of_ble_eq_true rfl) 221 rfl ?_
              refine Vaload_n dX5_perform_221 6 rfl 222 rfl ?_
              refine Vload dX5_perform_222 0 rfl 224 rfl ?_
              refine VcVp dX5_perform_224 [.int (σ (q + 4) (σ q 10).toNatClampNeg)] (c_X4_held l hF σ q (σ (q + 4) (σ q 10).toNatClampNeg) hq) mw_X4_held wd_im_yX4_held wd_se_yX4_held wd_ml_RX5_91 (sI_ hF hq 0 (by decide)) (sk0 hq) rfl rfl (by decide) rfl rfl (Nat.le_of_ble_eq_true rfl) 227 rfl ?_
              refine Vgen ?_
              intro u43 eu43
              refine VcVi (u := u43) dX5_perform_227 [.int (σ (q + 2) (σ q 10).toNatClampNeg), .int (f_X4_held σ q (σ (q + 3) (σ q 10).toNatClampNeg)), .int (f_X4_held σ q (σ (q + 4) (σ q 10).toNatClampNeg))] (by rw [eu43]; exact c_X3_store l hF σ (σ (q + 2) (σ q 10).toNatClampNeg) (f_X4_held σ q (σ (q + 3) (σ q 10).toNatClampNeg)) (f_X4_held σ q (σ (q + 4) (σ q 10).toNatClampNeg))) mw_X3_store wd_im_yX3_store wd_se_yX3_store wd_ml_RX5_191 (hF.1 9 (by decide)) wk9 rfl rfl (by decide) rfl rfl (Nat.le_of_ble_eq_true rfl) 230 rfl ?_
              exact Viret dX5_perform_230
            refine Vif (fun v => v) (fun h44 => ?_) (fun h44 => ?_)
            · refine Vswin dX5_perform_76 231 (by rw [h44]; decide) (by rw [h44]; decide) (off := 155) (by rw [h44]; rfl) (by decide) ?_
              refine Vaload_n dX5_perform_231 5 rfl 232 rfl ?_
              refine Vaload_n dX5_perform_232 6 rfl 233 rfl ?_
              refine Vload dX5_perform_233 2 rfl 235 rfl ?_
              refine Vload dX5_perform_235 1 rfl 237 rfl ?_
              refine Vload dX5_perform_237 0 rfl 239 rfl ?_
              refine Vgen ?_
              intro u45 eu45
              refine VcVi (u := u45) dX5_perform_239 [.ref (ad G q), .int (σ (q + 2) (σ q 10).toNatClampNeg), .int (σ (q + 3) (σ q 10).toNatClampNeg), .int (σ (q + 4) (σ q 10).toNatClampNeg)] (by rw [eu45]; exact c_X5_swapCell l hF σ q (σ (q + 2) (σ q 10).toNatClampNeg) (σ (q + 3) (σ q 10).toNatClampNeg) (σ (q + 4) (σ q 10).toNatClampNeg) hq) mw_X5_swapCell wd_im_yX5_swapCell wd_se_yX5_swapCell wd_ml_RX5_195 (hF.1 0 (by decide)) wk0 rfl rfl (by decide) rfl rfl (Nat.le_of_ble_eq_true rfl) 242 rfl ?_
              exact Viret dX5_perform_242
            refine Vif (fun v => v) (fun h46 => ?_) (fun h46 => ?_)
            · refine Vswin dX5_perform_76 243 (by rw [h46]; decide) (by rw [h46]; decide) (off := 167) (by rw [h46]; rfl) (by decide) ?_
              refine Vaload_n dX5_perform_243 5 rfl 244 rfl ?_
              refine Vaload_n dX5_perform_244 6 rfl 245 rfl ?_
              refine Vgen ?_
              intro u47 eu47
              refine VcVi (u := u47) dX5_perform_245 [.ref (ad G q)] (by rw [eu47]; exact c_X5_endAtom l hF σ q hq) mw_X5_endAtom wd_im_yX5_endAtom wd_se_yX5_endAtom wd_ml_RX5_198 (hF.1 0 (by decide)) wk0 rfl rfl (by decide) rfl rfl (Nat.le_of_ble_eq_true rfl) 248 rfl ?_
              exact Viret dX5_perform_248
            refine Vif (fun v => v) (fun h48 => ?_) (fun h48 => ?_)
            · refine Vswin dX5_perform_76 249 (by rw [h48]; decide) (by rw [h48]; decide) (off := 173) (by rw [h48]; rfl) (by decide) ?_
              refine Vaload_n dX5_perform_249 5 rfl 250 rfl ?_
              refine Vget (0) 1 dX5_perform_250 253 rfl (hF.1 0 (by decide)) wk0 rfl inX5 (by decide) wd_fl_RX5_19 (v := .ref (ad G 9)) rfl ?_
              refine Vload dX5_perform_253 2 rfl 255 rfl ?_
              refine Vaload_n dX5_perform_255 6 rfl 256 rfl ?_
              refine Vload dX5_perform_256 1 rfl 258 rfl ?_
              refine VcVp dX5_perform_258 [.int (σ (q + 3) (σ q 10).toNatClampNeg)] (c_X4_held l hF σ q (σ (q + 3) (σ q 10).toNatClampNeg) hq) mw_X4_held wd_im_yX4_held wd_se_yX4_held wd_ml_RX5_91 (sI_ hF hq 0 (by decide)) (sk0 hq) rfl rfl (by decide) rfl rfl (Nat.le_of_ble_eq_true rfl) 261 rfl ?_
              refine Vgen ?_
              intro u49 eu49
              refine VcVi (u := u49) dX5_perform_261 [.int (σ (q + 2) (σ q 10).toNatClampNeg), .int (f_X4_held σ q (σ (q + 3) (σ q 10).toNatClampNeg))] (by rw [eu49]; exact c_X3_make l hF σ (σ (q + 2) (σ q 10).toNatClampNeg) (f_X4_held σ q (σ (q + 3) (σ q 10).toNatClampNeg))) mw_X3_make wd_im_yX3_make wd_se_yX3_make wd_ml_RX5_201 (hF.1 9 (by decide)) wk9 rfl rfl (by decide) rfl rfl (Nat.le_of_ble_eq_true rfl) 264 rfl ?_
              exact Viret dX5_perform_264
            refine Vif (fun v => v) (fun h50 => ?_) (fun h50 => ?_)
            · refine Vswin dX5_perform_76 265 (by rw [h50]; decide) (by rw [h50]; decide) (off := 189) (by rw [h50]; rfl) (by decide) ?_
              refine Vaload_n dX5_perform_265 5 rfl 266 rfl ?_
              refine Vget (0) 1 dX5_perform_266 269 rfl (hF.1 0 (by decide)) wk0 rfl inX5 (by decide) wd_fl_RX5_19 (v := .ref (ad G 9)) rfl ?_
              refine Vload dX5_perform_269 2 rfl 271 rfl ?_
              refine Vgen ?_
              intro u51 eu51
              refine VcVi (u := u51) dX5_perform_271 [.int (σ (q + 2) (σ q 10).toNatClampNeg)] (by rw [eu51]; exact c_X3_freeze l hF σ (σ (q + 2) (σ q 10).toNatClampNeg)) mw_X3_freeze wd_im_yX3_freeze wd_se_yX3_freeze wd_ml_RX5_204 (hF.1 9 (by decide)) wk9 rfl rfl (by decide) rfl rfl (Nat.le_of_ble_eq_true rfl) 274 rfl ?_
              exact Viret dX5_perform_274
            refine Vif (fun v => v) (fun h52 => ?_) (fun h52 => ?_)
            · refine Vswin dX5_perform_76 275 (by rw [h52]; decide) (by rw [h52]; decide) (off := 199) (by rw [h52]; rfl) (by decide) ?_
              refine Vaload_n dX5_perform_275 5 rfl 276 rfl ?_
              refine Vget (0) 0 dX5_perform_276 279 rfl (hF.1 0 (by decide)) wk0 rfl inX5 (by decide) wd_fl_RX5_10 (v := .ref (ad G 1)) rfl ?_
              refine Vload dX5_perform_279 2 rfl 281 rfl ?_
              refine Vload dX5_perform_281 1 rfl 283 rfl ?_
              refine Vgen ?_
              intro u53 eu53
              refine VcVv (u := u53) dX5_perform_283 [.int (σ (q + 2) (σ q 10).toNatClampNeg), .int (σ (q + 3) (σ q 10).toNatClampNeg)] (by rw [eu53]; exact c_X1_defer l hF σ (σ (q + 2) (σ q 10).toNatClampNeg) (σ (q + 3) (σ q 10).toNatClampNeg)) mw_X1_defer wd_im_yX1_defer wd_se_yX1_defer wd_ml_RX5_207 (hF.1 1 (by decide)) wk1 rfl rfl (by decide) rfl rfl (Nat.le_of_ble_eq_true rfl) 286 rfl ?_
              refine Viconst dX5_perform_286 (0 : Int32) (by decide) 287 rfl ?_
              exact Viret dX5_perform_287
            have w55 : V l G X RX5 cX5_perform 7 5 (some .int) κI ((fun v => v) (ap (fun u54 => (u54.1, u54.2)) (f_X4_performAlone σ q (σ (q + 1) (σ q 10).toNatClampNeg) (σ (q + 2) (σ q 10).toNatClampNeg) (σ (q + 3) (σ q 10).toNatClampNeg) (σ (q + 4) (σ q 10).toNatClampNeg)))) σ 288 [(6, .int (σ (q + 4) (σ q 10).toNatClampNeg)), (5, .int (σ (q + 3) (σ q 10).toNatClampNeg)), (4, .int (σ (q + 2) (σ q 10).toNatClampNeg)), (3, .int (σ (q + 1) (σ q 10).toNatClampNeg)), (2, .int (σ q 10)), (0, .ref (ad G 0)), (1, .ref (ad G q))] [] := by
              refine Vaload_n dX5_perform_288 6 rfl 289 rfl ?_
              refine Vload_n dX5_perform_289 3 rfl 290 rfl ?_
              refine Vload dX5_perform_290 2 rfl 292 rfl ?_
              refine Vload dX5_perform_292 1 rfl 294 rfl ?_
              refine Vload dX5_perform_294 0 rfl 296 rfl ?_
              refine Vgen ?_
              intro u54 eu54
              refine VcVi (u := u54) dX5_perform_296 [.int (σ (q + 1) (σ q 10).toNatClampNeg), .int (σ (q + 2) (σ q 10).toNatClampNeg), .int (σ (q + 3) (σ q 10).toNatClampNeg), .int (σ (q + 4) (σ q 10).toNatClampNeg)] (by rw [eu54]; exact c_X4_performAlone l hF σ q (σ (q + 1) (σ q 10).toNatClampNeg) (σ (q + 2) (σ q 10).toNatClampNeg) (σ (q + 3) (σ q 10).toNatClampNeg) (σ (q + 4) (σ q 10).toNatClampNeg) hq) mw_X4_performAlone wd_im_yX4_performAlone wd_se_yX4_performAlone wd_ml_RX5_210 (sI_ hF hq 0 (by decide)) (sk0 hq) rfl rfl (by decide) rfl rfl (Nat.le_of_ble_eq_true rfl) 299 rfl ?_
              exact Viret dX5_perform_299
            by_cases o56 : (σ (q + 1) (σ q 10).toNatClampNeg) = (3 : Int32)
            · exact Vswin dX5_perform_76 288 (by rw [o56]; decide) (by rw [o56]; decide) (off := 212) (by rw [o56]; rfl) (by decide) w55
            by_cases o57 : (σ (q + 1) (σ q 10).toNatClampNeg) = (4 : Int32)
            · exact Vswin dX5_perform_76 288 (by rw [o57]; decide) (by rw [o57]; decide) (off := 212) (by rw [o57]; rfl) (by decide) w55
            by_cases o58 : (σ (q + 1) (σ q 10).toNatClampNeg) = (5 : Int32)
            · exact Vswin dX5_perform_76 288 (by rw [o58]; decide) (by rw [o58]; decide) (off := 212) (by rw [o58]; rfl) (by decide) w55
            by_cases o59 : (σ (q + 1) (σ q 10).toNatClampNeg) = (6 : Int32)
            · exact Vswin dX5_perform_76 288 (by rw [o59]; decide) (by rw [o59]; decide) (off := 212) (by rw [o59]; rfl) (by decide) w55
            by_cases o60 : (σ (q + 1) (σ q 10).toNatClampNeg) = (10 : Int32)
            · exact Vswin dX5_perform_76 288 (by rw [o60]; decide) (by rw [o60]; decide) (off := 212) (by rw [o60]; rfl) (by decide) w55
            by_cases o61 : (σ (q + 1) (σ q 10).toNatClampNeg) = (11 : Int32)
            · exact Vswin dX5_perform_76 288 (by rw [o61]; decide) (by rw [o61]; decide) (off := 212) (by rw [o61]; rfl) (by decide) w55
            by_cases o62 : (σ (q + 1) (σ q 10).toNatClampNeg) = (12 : Int32)
            · exact Vswin dX5_perform_76 288 (by rw [o62]; decide) (by rw [o62]; decide) (off := 212) (by rw [o62]; rfl) (by decide) w55
            by_cases o63 : (σ (q + 1) (σ q 10).toNatClampNeg) = (14 : Int32)
            · exact Vswin dX5_perform_76 288 (by rw [o63]; decide) (by rw [o63]; decide) (off := 212) (by rw [o63]; rfl) (by decide) w55
            by_cases o64 : (σ (q + 1) (σ q 10).toNatClampNeg) = (15 : Int32)
            · exact Vswin dX5_perform_76 288 (by rw [o64]; decide) (by rw [o64]; decide) (off := 212) (by rw [o64]; rfl) (by decide) w55
            by_cases o65 : (σ (q + 1) (σ q 10).toNatClampNeg) = (16 : Int32)
            · exact Vswin dX5_perform_76 288 (by rw [o65]; decide) (by rw [o65]; decide) (off := 212) (by rw [o65]; rfl) (by decide) w55
            exact Vswout dX5_perform_76 (by have eh36 := lv_neT (a := 1) h36 (by decide); have eh38 := lv_neT (a := 2) h38 (by decide); have eh40 := lv_neT (a := 7) h40 (by decide); have eh42 := lv_neT (a := 8) h42 (by decide); have eh44 := lv_neT (a := 9) h44 (by decide); have eh46 := lv_neT (a := 13) h46 (by decide); have eh48 := lv_neT (a := 17) h48 (by decide); have eh50 := lv_neT (a := 18) h50 (by decide); have eh52 := lv_neT (a := 19) h52 (by decide); have eo56 := lv_neT (a := 3) o56 (by decide); have eo57 := lv_neT (a := 4) o57 (by decide); have eo58 := lv_neT (a := 5) o58 (by decide); have eo59 := lv_neT (a := 6) o59 (by decide); have eo60 := lv_neT (a := 10) o60 (by decide); have eo61 := lv_neT (a := 11) o61 (by decide); have eo62 := lv_neT (a := 12) o62 (by decide); have eo63 := lv_neT (a := 14) o63 (by decide); have eo64 := lv_neT (a := 15) o64 (by decide); have eo65 := lv_neT (a := 16) o65 (by decide); omega) (tgt := 288) (by decide) w55
          · refine Viconst dX5_perform_73 (5 : Int32) (by decide) 74 rfl ?_
            exact Viret dX5_perform_74
      · refine Viconst dX5_perform_23 (5 : Int32) (by decide) 24 rfl ?_
        exact Viret dX5_perform_24
def f_X5_takeTurn (σ : mS) (q : Nat) : Int32 × mS := (ap (fun u1 => (if u1.1 = 0 then (0, (st2 u1.2 q 10 (u1.2 q 11))) else (ap (fun u3 => (0, u3.2)) (f_X4_fail (st2 u1.2 0 4 ((u1.2 0 4) + (1 : Int32))) q u1.1)))) (f_X5_perform (st2 (st2 (st2 σ 0 3 ((σ 0 3) + (1 : Int32))) q 13 (((st2 σ 0 3 ((σ 0 3) + (1 : Int32))) q 13) + (1 : Int32))) q 11 (((st2 σ 0 3 ((σ 0 3) + (1 : Int32))) q 10) + (1 : Int32))) q))
theorem mw_X5_takeTurn : mW yX5_takeTurn cX5_takeTurn 3 none 1 := ⟨wd_co_yX5_takeTurn, wd_ini_RX5, ⟨by decide, by decide⟩, by decide +kernel, by decide⟩
set_option maxRecDepth 100000 in
set_option maxHeartbeats 4000000 in
theorem c_X5_takeTurn (l : Launch) {G : gT} (hF : Full G) (σ : mS) (q : Nat) (hq : sQ q) : Ct l G yX5_takeTurn cX5_takeTurn 3 none 6 [.ref (ad G 0), .ref (ad G q)] κV σ (f_X5_takeTurn σ q) := by
  refine Ct.ofV [(0, .ref (ad G 0)), (1, .ref (ad G q))] rfl (by decide) (Nat.le_of_ble_eq_true rfl) rfl (fun X => ?_)
  unfold f_X5_takeTurn
  refine Vaload_n dX5_takeTurn_0 0 rfl 1 rfl ?_
  refine Vdupa dX5_takeTurn_1 2 rfl ?_
  refine Vget (0) 3 dX5_takeTurn_2 5 rfl (hF.1 0 (by decide)) wk0 rfl inX5 (by decide) wd_fl_RX5_137 (v := .int (σ 0 3)) rfl ?_
  refine Viconst dX5_takeTurn_5 (1 : Int32) (by decide) 6 rfl ?_
  refine Viadd dX5_takeTurn_6 7 rfl ?_
  refine Vput (0) 3 tyX5 dX5_takeTurn_7 10 rfl (hF.1 0 (by decide)) wk0 rfl inX5 tyX5_ok nmX5 (by decide) wd_fl_RX5_137 rfl (ty := .int) (by decide +kernel) rfl rfl (fun f => rfl) (fun f => Nat.le_of_ble_eq_true rfl) ?_
  refine Vaload_n dX5_takeTurn_10 1 rfl 11 rfl ?_
  refine Vdupa dX5_takeTurn_11 12 rfl ?_
  refine VgetN (q) 13 dX5_takeTurn_12 15 rfl (sI_ hF hq 0 (by decide)) (sk0 hq) rfl inX4 (by decide) wd_nfl_RX5_40 (v := .int ((st2 σ 0 3 ((σ 0 3) + (1 : Int32))) q 13)) rfl ?_
  refine Viconst dX5_takeTurn_15 (1 : Int32) (by decide) 16 rfl ?_
  refine Viadd dX5_takeTurn_16 17 rfl ?_
  refine VputN (q) 13 tyX4 dX5_takeTurn_17 20 rfl (sI_ hF hq 0 (by decide)) (sk0 hq) rfl inX4 tyX4_ok nmX4 (by decide) wd_nfl_RX5_40 rfl (ty := .int) (by decide +kernel) rfl rfl (fun f => rfl) (fun f => Nat.le_of_ble_eq_true rfl) ?_
  refine Vaload_n dX5_takeTurn_20 1 rfl 21 rfl ?_
  refine Vaload_n dX5_takeTurn_21 1 rfl 22 rfl ?_
  refine VgetN (q) 10 dX5_takeTurn_22 25 rfl (sI_ hF hq 0 (by decide)) (sk0 hq) rfl inX4 (by decide) wd_nfl_RX5_65 (v := .int ((st2 σ 0 3 ((σ 0 3) + (1 : Int32))) q 10)) (by simp [oV, st2]) ?_
  refine Viconst dX5_takeTurn_25 (1 : Int32) (by decide) 26 rfl ?_
  refine Viadd dX5_takeTurn_26 27 rfl ?_
  refine VputN (q) 11 tyX4 dX5_takeTurn_27 30 rfl (sI_ hF hq 0 (by decide)) (sk0 hq) rfl inX4 tyX4_ok nmX4 (by decide) wd_nfl_RX5_153 rfl (ty := .int) (by decide +kernel) rfl rfl (fun f => rfl) (fun f => Nat.le_of_ble_eq_true rfl) ?_
  refine Vaload_n dX5_takeTurn_30 0 rfl 31 rfl ?_
  refine Vaload_n dX5_takeTurn_31 1 rfl 32 rfl ?_
  refine Vgen ?_
  intro u1 eu1
  refine VcVi (u := u1) dX5_takeTurn_32 [.ref (ad G q)] (by rw [eu1]; exact c_X5_perform l hF (st2 (st2 (st2 σ 0 3 ((σ 0 3) + (1 : Int32))) q 13 (((st2 σ 0 3 ((σ 0 3) + (1 : Int32))) q 13) + (1 : Int32))) q 11 (((st2 σ 0 3 ((σ 0 3) + (1 : Int32))) q 10) + (1 : Int32))) q hq) mw_X5_perform wd_im_yX5_perform wd_se_yX5_perform wd_ml_RX5_156 (hF.1 0 (by decide)) wk0 rfl rfl (by decide) rfl rfl (Nat.le_of_ble_eq_true rfl) 35 rfl ?_
  refine Vstore_n dX5_takeTurn_35 [(2, .int u1.1), (0, .ref (ad G 0)), (1, .ref (ad G q))] 36 rfl (by decide) rfl ?_
  refine Vload_n dX5_takeTurn_36 0 rfl 37 rfl ?_
  refine Vifne (fun v => v) dX5_takeTurn_37 51 40 (by decide) rfl (fun h2 => ?_) (fun h2 => ?_)
  · refine Vaload_n dX5_takeTurn_51 1 rfl 52 rfl ?_
    refine Vdupa dX5_takeTurn_52 53 rfl ?_
    refine Vget (0) 4 dX5_takeTurn_53 56 rfl (hF.1 0 (by decide)) wk0 rfl inX5 (by decide) wd_fl_RX5_54 (v := .int (u1.2 0 4)) rfl ?_
    refine Viconst dX5_takeTurn_56 (1 : Int32) (by decide) 57 rfl ?_
    refine Viadd dX5_takeTurn_57 58 rfl ?_
    refine Vput (0) 4 tyX5 dX5_takeTurn_58 61 rfl (hF.1 0 (by decide)) wk0 rfl inX5 tyX5_ok nmX5 (by decide) wd_fl_RX5_54 rfl (ty := .int) (by decide +kernel) rfl rfl (fun f => rfl) (fun f => Nat.le_of_ble_eq_true rfl) ?_
    refine Vaload_n dX5_takeTurn_61 2 rfl 62 rfl ?_
    refine Vload_n dX5_takeTurn_62 0 rfl 63 rfl ?_
    refine Vgen ?_
    intro u3 eu3
    refine VcVv (u := u3) dX5_takeTurn_63 [.int u1.1] (by rw [eu3]; exact c_X4_fail l hF (st2 u1.2 0 4 ((u1.2 0 4) + (1 : Int32))) q u1.1 hq) mw_X4_fail wd_im_yX4_fail wd_se_yX4_fail wd_ml_RX5_160 (sI_ hF hq 0 (by decide)) (sk0 hq) rfl rfl (by decide) rfl rfl (Nat.le_of_ble_eq_true rfl) 66 rfl ?_
    exact Vvret dX5_takeTurn_66
  · refine Vaload_n dX5_takeTurn_40 2 rfl 41 rfl ?_
    refine Vaload_n dX5_takeTurn_41 2 rfl 42 rfl ?_
    refine VgetN (q) 11 dX5_takeTurn_42 45 rfl (sI_ hF hq 0 (by decide)) (sk0 hq) rfl inX4 (by decide) wd_nfl_RX5_153 (v := .int (u1.2 q 11)) rfl ?_
    refine VputN (q) 10 tyX4 dX5_takeTurn_45 48 rfl (sI_ hF hq 0 (by decide)) (sk0 hq) rfl inX4 tyX4_ok nmX4 (by decide) wd_nfl_RX5_65 rfl (ty := .int) (by decide +kernel) rfl rfl (fun f => rfl) (fun f => Nat.le_of_ble_eq_true rfl) ?_
    refine Vgoto dX5_takeTurn_48 66 (by decide) ?_
    exact Vvret dX5_takeTurn_66
def f_X5_turn (σ : mS) (x1 : Int32) : Int32 × mS := (if (f_X5_strandOf x1) = -1 then ((-2 : Int32), σ) else (if (f_X4_state σ (sI (f_X5_strandOf x1))) = 0 then (if (σ 0 4) < (5000 : Int32) then (ap (fun u5 => ((f_X4_state u5.2 (sI (f_X5_strandOf x1))), u5.2)) (f_X5_takeTurn σ (sI (f_X5_strandOf x1)))) else ((-3 : Int32), σ)) else ((-3 : Int32), σ)))
theorem mw_X5_turn : mW yX5_turn cX5_turn 3 (some .int) 1 := ⟨wd_co_yX5_turn, wd_ini_RX5, ⟨by decide, by decide⟩, by decide +kernel, by decide⟩
set_option maxRecDepth 100000 in
set_option maxHeartbeats 4000000 in
theorem c_X5_turn (l : Launch) {G : gT} (hF : Full G) (σ : mS) (x1 : Int32)  : Ct l G yX5_turn cX5_turn 3 (some .int) 7 [.ref (ad G 0), .int x1] κI σ (f_X5_turn σ x1) := by
  refine Ct.ofV [(0, .ref (ad G 0)), (1, .int x1)] rfl (by decide) (Nat.le_of_ble_eq_true rfl) rfl (fun X => ?_)
  unfold f_X5_turn
  refine Vaload_n dX5_turn_0 0 rfl 1 rfl ?_
  refine Vload_n dX5_turn_1 1 rfl 2 rfl ?_
  refine VcVr (fun v => v) dX5_turn_2 [.int x1] (c_X5_strandOf l hF σ x1) mw_X5_strandOf wd_im_yX5_strandOf wd_se_yX5_strandOf wd_ml_RX5_32 (hF.1 0 (by decide)) wk0 rfl rfl (by decide) rfl rfl (Nat.le_of_ble_eq_true rfl) 5 rfl (fun h1 => ?_) (fun h1 => ?_)
  · refine Vastore_nN dX5_turn_5 [(2, .null), (0, .ref (ad G 0)), (1, .int x1)] 6 rfl (by decide) rfl ?_
    refine Vaload_nN dX5_turn_6 0 rfl 7 rfl ?_
    refine VifnnN dX5_turn_7 10 rfl ?_
    refine Vbipush dX5_turn_10 (-2 : Int32) (by decide) 12 rfl ?_
    exact Viret dX5_turn_12
  · have s2 : sQ (sI (f_X5_strandOf x1)) := sq_strandOf h1
    refine Vastore_n dX5_turn_5 [(2, .ref (ad G ((sI (f_X5_strandOf x1))))), (0, .ref (ad G 0)), (1, .int x1)] 6 rfl (by decide) rfl ?_
    refine Vaload_n dX5_turn_6 0 rfl 7 rfl ?_
    refine Vifnn dX5_turn_7 13 (by decide) ?_
    refine Vaload_n dX5_turn_13 0 rfl 14 rfl ?_
    refine VcVp dX5_turn_14 [] (c_X4_state l hF σ (sI (f_X5_strandOf x1)) s2) mw_X4_state wd_im_yX4_state wd_se_yX4_state wd_ml_RX5_50 (sI_ hF s2 0 (by decide)) (sk0 s2) rfl rfl (by decide) rfl rfl (Nat.le_of_ble_eq_true rfl) 17 rfl ?_
    refine Vifne (fun v => v) dX5_turn_17 30 20 (by decide) rfl (fun h3 => ?_) (fun h3 => ?_)
    · refine Vbipush dX5_turn_30 (-3 : Int32) (by decide) 32 rfl ?_
      exact Viret dX5_turn_32
    · refine Vaload_n dX5_turn_20 1 rfl 21 rfl ?_
      refine Vget (0) 4 dX5_turn_21 24 rfl (hF.1 0 (by decide)) wk0 rfl inX5 (by decide) wd_fl_RX5_54 (v := .int (σ 0 4)) rfl ?_
      refine Vsipush dX5_turn_24 (5000 : Int32) (by decide) 27 rfl ?_
      refine Viclt (fun v => v) dX5_turn_27 33 30 (by decide) rfl (fun h4 => ?_) (fun h4 => ?_)
      · refine Vaload_n dX5_turn_33 1 rfl 34 rfl ?_
        refine Vaload_n dX5_turn_34 0 rfl 35 rfl ?_
        refine Vgen ?_
        intro u5 eu5
        refine VcVv (u := u5) dX5_turn_35 [.ref (ad G ((sI (f_X5_strandOf x1))))] (by rw [eu5]; exact c_X5_takeTurn l hF σ (sI (f_X5_strandOf x1)) s2) mw_X5_takeTurn wd_im_yX5_takeTurn wd_se_yX5_takeTurn wd_ml_RX5_57 (hF.1 0 (by decide)) wk0 rfl rfl (by decide) rfl rfl (Nat.le_of_ble_eq_true rfl) 38 rfl ?_
        refine Vaload_n dX5_turn_38 0 rfl 39 rfl ?_
        refine VcVp dX5_turn_39 [] (c_X4_state l hF u5.2 (sI (f_X5_strandOf x1)) s2) mw_X4_state wd_im_yX4_state wd_se_yX4_state wd_ml_RX5_50 (sI_ hF s2 0 (by decide)) (sk0 s2) rfl rfl (by decide) rfl rfl (Nat.le_of_ble_eq_true rfl) 42 rfl ?_
        exact Viret dX5_turn_42
      · refine Vbipush dX5_turn_30 (-3 : Int32) (by decide) 32 rfl ?_
        exact Viret dX5_turn_32
def f_X5_goes (σ : mS) (x1 : Int32) : Int32 := (if (f_X5_strandOf x1) = -1 then (0 : Int32) else (if (f_X4_state σ (sI (f_X5_strandOf x1))) = 0 then (1 : Int32) else (0 : Int32)))
theorem mw_X5_goes : mW yX5_goes cX5_goes 3 (some .boolean) 1 := ⟨wd_co_yX5_goes, wd_ini_RX5, ⟨by decide, by decide⟩, by decide +kernel, by decide⟩
set_option maxRecDepth 100000 in
set_option maxHeartbeats 4000000 in
theorem c_X5_goes (l : Launch) {G : gT} (hF : Full G) (σ : mS) (x1 : Int32)  : Ct l G yX5_goes cX5_goes 3 (some .boolean) 1 [.ref (ad G 0), .int x1] κI σ (f_X5_goes σ x1, σ) := by
  refine Ct.ofV [(0, .ref (ad G 0)), (1, .int x1)] rfl (by decide) (Nat.le_of_ble_eq_true rfl) rfl (fun X => ?_)
  unfold f_X5_goes
  refine Vaload_n dX5_goes_0 0 rfl 1 rfl ?_
  refine Vload_n dX5_goes_1 1 rfl 2 rfl ?_
  refine VcVr (fun v => (v, σ)) dX5_goes_2 [.int x1] (c_X5_strandOf l hF σ x1) mw_X5_strandOf wd_im_yX5_strandOf wd_se_yX5_strandOf wd_ml_RX5_32 (hF.1 0 (by decide)) wk0 rfl rfl (by decide) rfl rfl (Nat.le_of_ble_eq_true rfl) 5 rfl (fun h1 => ?_) (fun h1 => ?_)
  · refine Vastore_nN dX5_goes_5 [(2, .null), (0, .ref (ad G 0)), (1, .int x1)] 6 rfl (by decide) rfl ?_
    refine Vaload_nN dX5_goes_6 0 rfl 7 rfl ?_
    refine VifnullN dX5_goes_7 21 (by decide) ?_
    refine Viconst dX5_goes_21 (0 : Int32) (by decide) 22 rfl ?_
    exact Vzret dX5_goes_22 (by first | decide | exact nb_isRegister _ | exact nb_isRow _ | exact nb_isPlace _ | exact nb_within _ _ _ | exact nb_mRegister _ | exact nb_mCell _ | exact nb_mPlace _)
  · have s2 : sQ (sI (f_X5_strandOf x1)) := sq_strandOf h1
    refine Vastore_n dX5_goes_5 [(2, .ref (ad G ((sI (f_X5_strandOf x1))))), (0, .ref (ad G 0)), (1, .int x1)] 6 rfl (by decide) rfl ?_
    refine Vaload_n dX5_goes_6 0 rfl 7 rfl ?_
    refine Vifnull dX5_goes_7 10 rfl ?_
    refine Vaload_n dX5_goes_10 0 rfl 11 rfl ?_
    refine VcVp dX5_goes_11 [] (c_X4_state l hF σ (sI (f_X5_strandOf x1)) s2) mw_X4_state wd_im_yX4_state wd_se_yX4_state wd_ml_RX5_50 (sI_ hF s2 0 (by decide)) (sk0 s2) rfl rfl (by decide) rfl rfl (Nat.le_of_ble_eq_true rfl) 14 rfl ?_
    refine Vifne (fun v => (v, σ)) dX5_goes_14 21 17 (by decide) rfl (fun h3 => ?_) (fun h3 => ?_)
    · refine Viconst dX5_goes_21 (0 : Int32) (by decide) 22 rfl ?_
      exact Vzret dX5_goes_22 (by first | decide | exact nb_isRegister _ | exact nb_isRow _ | exact nb_isPlace _ | exact nb_within _ _ _ | exact nb_mRegister _ | exact nb_mCell _ | exact nb_mPlace _)
    · refine Viconst dX5_goes_17 (1 : Int32) (by decide) 18 rfl ?_
      refine Vgoto dX5_goes_18 22 (by decide) ?_
      exact Vzret dX5_goes_22 (by first | decide | exact nb_isRegister _ | exact nb_isRow _ | exact nb_isPlace _ | exact nb_within _ _ _ | exact nb_mRegister _ | exact nb_mCell _ | exact nb_mPlace _)
def l_X5_drawn_4 : Nat → Int32 → Int32 → mS → Int32 × Int32
  | 0, y2, y3, σ => (y2, y3)
  | n + 1, y2, y3, σ => (if (3 : Int32) ≤ y3 then (y2, y3) else (if (f_X5_goes σ y3) = 0 then (l_X5_drawn_4 n y2 (y3 + 1) σ) else (l_X5_drawn_4 n (y2 + 1) (y3 + 1) σ)))
set_option maxRecDepth 100000 in
set_option maxHeartbeats 4000000 in
theorem vl_X5_drawn_4 (l : Launch) {G : gT} (X : xT) (hF : Full G) (σ : mS) (x1 : Int32)  {B : Int32 × Int32 → Int32} : ∀ (n : Nat) (y2 : Int32) (y3 : Int32) (i : Nat) (hc : y3 = nI i) (hi : i ≤ 3) (hn : n + i = 4) (hk : ∀ u : Int32 × Int32, V l G X RX5 cX5_drawn 5 2 (some (.object "MutableCells$Strand")) (κR G) ((fun v => (ap B v, σ)) u) σ 30 [(0, .ref (ad G 0)), (1, .int x1), (2, .int u.1), (3, .int u.2)] []), V l G X RX5 cX5_drawn 5 2 (some (.object "MutableCells$Strand")) (κR G) ((fun v => (ap B v, σ)) (l_X5_drawn_4 n y2 y3 σ)) σ 4 [(0, .ref (ad G 0)), (1, .int x1), (2, .int y2), (3, .int y3)] [] := by
  intro n
  induction n with
  | zero => intro y2 y3 i hc hi hn hk; exact absurd hn (by omega)
  | succ n ih =>
    intro y2 y3 i hc hi hn hk
    rw [l_X5_drawn_4.eq_2]
    refine Vload_n dX5_drawn_4 3 rfl 5 rfl ?_
    refine Vaload_n dX5_drawn_5 0 rfl 6 rfl ?_
    refine Vget (0) 2 dX5_drawn_6 9 rfl (hF.1 0 (by decide)) wk0 rfl inX5 (by decide) wd_fl_RX5_25 (v := .ref (ad G 13)) rfl ?_
    refine Vlens dX5_drawn_9 10 rfl (hF.1 13 (by decide)) hF.2.2.2 ?_
    refine Vicge (fun v => (ap B v, σ)) dX5_drawn_10 30 13 (by decide) rfl (fun h1 => ?_) (fun h1 => ?_)
    · refine Vlv [0, 1, 2, 3] rfl ?_
      exact hk (y2, y3) 
    · refine Vaload_n dX5_drawn_13 0 rfl 14 rfl ?_
      refine Vload_n dX5_drawn_14 3 rfl 15 rfl ?_
      refine VcVp dX5_drawn_15 [.int y3] (c_X5_goes l hF σ y3) mw_X5_goes wd_im_yX5_goes wd_se_yX5_goes wd_ml_RX5_150 (hF.1 0 (by decide)) wk0 rfl rfl (by decide) rfl rfl (Nat.le_of_ble_eq_true rfl) 18 rfl ?_
      refine Vifeq (fun v => (ap B v, σ)) dX5_drawn_18 24 21 (by decide) rfl (fun h2 => ?_) (fun h2 => ?_)
      · refine Viinc dX5_drawn_24 (y3 + 1) 3 [(3, .int (y3 + 1)), (0, .ref (ad G 0)), (1, .int x1), (2, .int y2)] 27 rfl rfl rfl (by decide) rfl ?_
        refine Vgoto dX5_drawn_27 4 (by decide) ?_
        refine Vlv [1, 2, 3, 0] rfl ?_
        exact ih y2 (y3 + 1) (i + 1) (cnt_s hc) (cnt_lt hc (by assumption) (K := 3) (by decide) (by decide) hi) (by omega) hk
      · refine Viinc dX5_drawn_21 (y2 + 1) 2 [(2, .int (y2 + 1)), (0, .ref (ad G 0)), (1, .int x1), (3, .int y3)] 24 rfl rfl rfl (by decide) rfl ?_
        refine Viinc dX5_drawn_24 (y3 + 1) 3 [(3, .int (y3 + 1)), (2, .int (y2 + 1)), (0, .ref (ad G 0)), (1, .int x1)] 27 rfl rfl rfl (by decide) rfl ?_
        refine Vgoto dX5_drawn_27 4 (by decide) ?_
        refine Vlv [2, 3, 1, 0] rfl ?_
        exact ih (y2 + 1) (y3 + 1) (i + 1) (cnt_s hc) (cnt_lt hc (by assumption) (K := 3) (by decide) (by decide) hi) (by omega) hk
def l_X5_drawn_46 : Nat → Int32 → Int32 → mS → Int32
  | 0, y3, y4, σ => 0
  | n + 1, y3, y4, σ => (if (3 : Int32) ≤ y4 then -1 else (if (f_X5_goes σ y4) = 0 then (l_X5_drawn_46 n y3 (y4 + 1) σ) else (if y3 = 0 then (if (f_X5_strandOf y4) = -1 then -1 else (f_X5_strandOf y4)) else (l_X5_drawn_46 n (y3 + (-1)) (y4 + 1) σ))))
set_option maxRecDepth 100000 in
set_option maxHeartbeats 4000000 in
theorem vl_X5_drawn_46 (l : Launch) {G : gT} (X : xT) (hF : Full G) (σ : mS)  : ∀ (n : Nat) (y3 : Int32) (y4 : Int32) (i : Nat) (hc : y4 = nI i) (hi : i ≤ 3) (hn : n + i = 4), V l G X RX5 cX5_drawn 5 2 (some (.object "MutableCells$Strand")) (κR G) ((fun v => (v, σ)) (l_X5_drawn_46 n y3 y4 σ)) σ 46 [(0, .ref (ad G 0)), (3, .int y3), (4, .int y4)] [] := by
  intro n
  induction n with
  | zero => intro y3 y4 i hc hi hn; exact absurd hn (by omega)
  | succ n ih =>
    intro y3 y4 i hc hi hn
    rw [l_X5_drawn_46.eq_2]
    refine Vload dX5_drawn_46 2 rfl 48 rfl ?_
    refine Vaload_n dX5_drawn_48 0 rfl 49 rfl ?_
    refine Vget (0) 2 dX5_drawn_49 52 rfl (hF.1 0 (by decide)) wk0 rfl inX5 (by decide) wd_fl_RX5_25 (v := .ref (ad G 13)) rfl ?_
    refine Vlens dX5_drawn_52 53 rfl (hF.1 13 (by decide)) hF.2.2.2 ?_
    refine Vicge (fun v => (v, σ)) dX5_drawn_53 85 56 (by decide) rfl (fun h5 => ?_) (fun h5 => ?_)
    · refine Vnull dX5_drawn_85 86 rfl ?_
      exact VaretN dX5_drawn_86
    · refine Vaload_n dX5_drawn_56 0 rfl 57 rfl ?_
      refine Vload dX5_drawn_57 2 rfl 59 rfl ?_
      refine VcVp dX5_drawn_59 [.int y4] (c_X5_goes l hF σ y4) mw_X5_goes wd_im_yX5_goes wd_se_yX5_goes wd_ml_RX5_150 (hF.1 0 (by decide)) wk0 rfl rfl (by decide) rfl rfl (Nat.le_of_ble_eq_true rfl) 62 rfl ?_
      refine Vifeq (fun v => (v, σ)) dX5_drawn_62 79 65 (by decide) rfl (fun h6 => ?_) (fun h6 => ?_)
      · refine Viinc dX5_drawn_79 (y4 + 1) 2 [(4, .int (y4 + 1)), (0, .ref (ad G 0)), (3, .int y3)] 82 rfl rfl rfl (by decide) rfl ?_
        refine Vgoto dX5_drawn_82 46 (by decide) ?_
        refine Vlv [1, 2, 0] rfl ?_
        exact ih y3 (y4 + 1) (i + 1) (cnt_s hc) (cnt_lt hc (by assumption) (K := 3) (by decide) (by decide) hi) (by omega)
      · refine Vload_n dX5_drawn_65 1 rfl 66 rfl ?_
        refine Viinc dX5_drawn_66 (y3 + (-1)) 1 [(3, .int (y3 + (-1))), (0, .ref (ad G 0)), (4, .int y4)] 69 rfl rfl rfl (by decide) rfl ?_
        refine Vifne (fun v => (v, σ)) dX5_drawn_69 79 72 (by decide) rfl (fun h7 => ?_) (fun h7 => ?_)
        · refine Viinc dX5_drawn_79 (y4 + 1) 2 [(4, .int (y4 + 1)), (3, .int (y3 + (-1))), (0, .ref (ad G 0))] 82 rfl rfl rfl (by decide) rfl ?_
          refine Vgoto dX5_drawn_82 46 (by decide) ?_
          refine Vlv [2, 1, 0] rfl ?_
          exact ih (y3 + (-1)) (y4 + 1) (i + 1) (cnt_s hc) (cnt_lt hc (by assumption) (K := 3) (by decide) (by decide) hi) (by omega)
        · refine Vaload_n dX5_drawn_72 1 rfl 73 rfl ?_
          refine Vload dX5_drawn_73 2 rfl 75 rfl ?_
          refine VcVr (fun v => (v, σ)) dX5_drawn_75 [.int y4] (c_X5_strandOf l hF σ y4) mw_X5_strandOf wd_im_yX5_strandOf wd_se_yX5_strandOf wd_ml_RX5_32 (hF.1 0 (by decide)) wk0 rfl rfl (by decide) rfl rfl (Nat.le_of_ble_eq_true rfl) 78 rfl (fun h8 => ?_) (fun h8 => ?_)
          · exact VaretN dX5_drawn_78
          · have s9 : sQ (sI (f_X5_strandOf y4)) := sq_strandOf h8
            exact Varet dX5_drawn_78 ((sI (f_X5_strandOf y4))) (κR_ne (by assumption))
def f_X5_drawn (σ : mS) (x1 : Int32) : Int32 := (ap (fun u3 => (if u3.1 = 0 then -1 else (l_X5_drawn_46 4 (((x1.toUInt32 >>> ((16 : Int32).toUInt32 &&& Int32.toUInt32 31)).toInt32) - ((x1.toUInt32 >>> ((16 : Int32).toUInt32 &&& Int32.toUInt32 31)).toInt32) / u3.1 * u3.1) (0 : Int32) σ))) (l_X5_drawn_4 4 (0 : Int32) (0 : Int32) σ))
theorem mw_X5_drawn : mW yX5_drawn cX5_drawn 5 (some (.object "MutableCells$Strand")) 1 := ⟨wd_co_yX5_drawn, wd_ini_RX5, ⟨by decide, by decide⟩, by decide +kernel, by decide⟩
set_option maxRecDepth 100000 in
set_option maxHeartbeats 4000000 in
theorem c_X5_drawn (l : Launch) {G : gT} (hF : Full G) (σ : mS) (x1 : Int32)  : Ct l G yX5_drawn cX5_drawn 5 (some (.object "MutableCells$Strand")) 2 [.ref (ad G 0), .int x1] (κR G) σ (f_X5_drawn σ x1, σ) := by
  refine Ct.ofV [(0, .ref (ad G 0)), (1, .int x1)] rfl (by decide) (Nat.le_of_ble_eq_true rfl) rfl (fun X => ?_)
  unfold f_X5_drawn
  refine Viconst dX5_drawn_0 (0 : Int32) (by decide) 1 rfl ?_
  refine Vstore_n dX5_drawn_1 [(2, .int (0 : Int32)), (0, .ref (ad G 0)), (1, .int x1)] 2 rfl (by decide) rfl ?_
  refine Viconst dX5_drawn_2 (0 : Int32) (by decide) 3 rfl ?_
  refine Vstore_n dX5_drawn_3 [(3, .int (0 : Int32)), (2, .int (0 : Int32)), (0, .ref (ad G 0)), (1, .int x1)] 4 rfl (by decide) rfl ?_
  refine Vlv [2, 3, 1, 0] rfl ?_
  refine vl_X5_drawn_4 l X hF σ x1  4 (0 : Int32) (0 : Int32) 0 nI_0.symm (Nat.zero_le _) rfl ?_
  intro u3
  show V _ _ _ _ _ _ _ _ _ (_, _) _ _ _ _
  refine Vload_n dX5_drawn_30 2 rfl 31 rfl ?_
  refine Vifne (fun v => (v, σ)) dX5_drawn_31 36 34 (by decide) rfl (fun h4 => ?_) (fun h4 => ?_)
  · refine Vload_n dX5_drawn_36 1 rfl 37 rfl ?_
    refine Vbipush dX5_drawn_37 (16 : Int32) (by decide) 39 rfl ?_
    refine Viushr dX5_drawn_39 40 rfl ?_
    refine Vload_n dX5_drawn_40 2 rfl 41 rfl ?_
    refine Virem dX5_drawn_41 (by first | assumption | decide) 42 rfl ?_
    refine Vstore_n dX5_drawn_42 [(3, .int (((x1.toUInt32 >>> ((16 : Int32).toUInt32 &&& Int32.toUInt32 31)).toInt32) - ((x1.toUInt32 >>> ((16 : Int32).toUInt32 &&& Int32.toUInt32 31)).toInt32) / u3.1 * u3.1)), (0, .ref (ad G 0)), (1, .int x1), (2, .int u3.1)] 43 rfl (by decide) rfl ?_
    refine Viconst dX5_drawn_43 (0 : Int32) (by decide) 44 rfl ?_
    refine Vstore dX5_drawn_44 [(4, .int (0 : Int32)), (3, .int (((x1.toUInt32 >>> ((16 : Int32).toUInt32 &&& Int32.toUInt32 31)).toInt32) - ((x1.toUInt32 >>> ((16 : Int32).toUInt32 &&& Int32.toUInt32 31)).toInt32) / u3.1 * u3.1)), (0, .ref (ad G 0)), (1, .int x1), (2, .int u3.1)] 46 rfl (by decide) rfl ?_
    refine Vlv [2, 1, 0] rfl ?_
    exact vl_X5_drawn_46 l X hF σ  4 (((x1.toUInt32 >>> ((16 : Int32).toUInt32 &&& Int32.toUInt32 31)).toInt32) - ((x1.toUInt32 >>> ((16 : Int32).toUInt32 &&& Int32.toUInt32 31)).toInt32) / u3.1 * u3.1) (0 : Int32) 0 nI_0.symm (Nat.zero_le _) rfl
  · refine Vnull dX5_drawn_34 35 rfl ?_
    exact VaretN dX5_drawn_35
theorem drawn_46 : ∀ (n : Nat) (y3 y4 : Int32) (σ : mS), l_X5_drawn_46 n y3 y4 σ = -1 ∨ ∃ y : Int32, l_X5_drawn_46 n y3 y4 σ = f_X5_strandOf y := by
  intro n
  induction n with
  | zero => intro y3 y4 σ; exact Or.inr ⟨0, show (0 : Int32) = f_X5_strandOf 0 by decide⟩
  | succ n ih =>
    intro y3 y4 σ
    rw [l_X5_drawn_46.eq_2]
    repeat' split
    all_goals first | exact ih _ _ _ | exact Or.inl rfl | exact Or.inr ⟨_, rfl⟩
theorem sq_drawn {σ : mS} {x : Int32} (h : ¬ f_X5_drawn σ x = -1) : sQ (sI (f_X5_drawn σ x)) := by
  simp only [f_X5_drawn, ap] at h ⊢
  split at h
  · exact absurd rfl h
  · rename_i h1
    rw [if_neg h1]
    rcases drawn_46 4 _ (0 : Int32) σ with e | ⟨y, e⟩
    · exact absurd e h
    · rw [e] at h ⊢; exact sq_strandOf h
def l_X5_play_19 : Nat → Int32 → Int32 → mS → Int32 → Int32 × mS
  | 0, y3, y4, σ, _ => (0, σ)
  | n + 1, y3, y4, σ, x2 => (if x2 ≤ y4 then (x2, σ) else (if (σ 0 4) < (5000 : Int32) then (if (f_X5_drawn σ ((y3 * (1103515245 : Int32)) + (12345 : Int32))) = -1 then (y4, σ) else (ap (fun u7 => (l_X5_play_19 n ((y3 * (1103515245 : Int32)) + (12345 : Int32)) (y4 + 1) u7.2 x2)) (f_X5_takeTurn σ (sI (f_X5_drawn σ ((y3 * (1103515245 : Int32)) + (12345 : Int32))))))) else (y4, σ)))
set_option maxRecDepth 100000 in
set_option maxHeartbeats 4000000 in
theorem vl_X5_play_19 (l : Launch) {G : gT} (X : xT) (hF : Full G) (x2 : Int32) (hx2 : x2 ≤ (100 : Int32)) : ∀ (n : Nat) (y3 : Int32) (y4 : Int32) (σ : mS) (i : Nat) (hc : y4 = nI i) (hi : i ≤ 100) (hn : n + i = 101), V l G X RX5 cX5_play 6 7 (some .int) κI ((fun v => v) (l_X5_play_19 n y3 y4 σ x2)) σ 19 [(0, .ref (ad G 0)), (2, .int x2), (3, .int y3), (4, .int y4)] [] := by
  intro n
  induction n with
  | zero => intro y3 y4 σ i hc hi hn; exact absurd hn (by omega)
  | succ n ih =>
    intro y3 y4 σ i hc hi hn
    rw [l_X5_play_19.eq_2]
    refine Vload dX5_play_19 3 rfl 21 rfl ?_
    refine Vload_n dX5_play_21 1 rfl 22 rfl ?_
    refine Vicge (fun v => v) dX5_play_22 75 25 (by decide) rfl (fun h3 => ?_) (fun h3 => ?_)
    · refine Vload_n dX5_play_75 1 rfl 76 rfl ?_
      exact Viret dX5_play_76
    · refine Vload_n dX5_play_25 2 rfl 26 rfl ?_
      refine Vldc dX5_play_26 (1103515245 : Int32) wd_ct_RX5_61 28 rfl ?_
      refine Vimul dX5_play_28 29 rfl ?_
      refine Vsipush dX5_play_29 (12345 : Int32) (by decide) 32 rfl ?_
      refine Viadd dX5_play_32 33 rfl ?_
      refine Vstore_n dX5_play_33 [(3, .int ((y3 * (1103515245 : Int32)) + (12345 : Int32))), (0, .ref (ad G 0)), (2, .int x2), (4, .int y4)] 34 rfl (by decide) rfl ?_
      refine Vaload_n dX5_play_34 1 rfl 35 rfl ?_
      refine Vget (0) 4 dX5_play_35 38 rfl (hF.1 0 (by decide)) wk0 rfl inX5 (by decide) wd_fl_RX5_54 (v := .int (σ 0 4)) rfl ?_
      refine Vsipush dX5_play_38 (5000 : Int32) (by decide) 41 rfl ?_
      refine Viclt (fun v => v) dX5_play_41 48 44 (by decide) rfl (fun h4 => ?_) (fun h4 => ?_)
      · refine Vaload_n dX5_play_48 1 rfl 49 rfl ?_
        refine Vload_n dX5_play_49 0 rfl 50 rfl ?_
        refine VcVr (fun v => v) dX5_play_50 [.int ((y3 * (1103515245 : Int32)) + (12345 : Int32))] (c_X5_drawn l hF σ ((y3 * (1103515245 : Int32)) + (12345 : Int32))) mw_X5_drawn wd_im_yX5_drawn wd_se_yX5_drawn wd_ml_RX5_62 (hF.1 0 (by decide)) wk0 rfl rfl (by decide) rfl rfl (Nat.le_of_ble_eq_true rfl) 53 rfl (fun h5 => ?_) (fun h5 => ?_)
        · refine VastoreN dX5_play_53 [(5, .null), (3, .int ((y3 * (1103515245 : Int32)) + (12345 : Int32))), (0, .ref (ad G 0)), (2, .int x2), (4, .int y4)] 55 rfl (by decide) rfl ?_
          refine ValoadN dX5_play_55 0 rfl 57 rfl ?_
          refine VifnnN dX5_play_57 60 rfl ?_
          refine Vload dX5_play_60 4 rfl 62 rfl ?_
          exact Viret dX5_play_62
        · have s6 : sQ (sI (f_X5_drawn σ ((y3 * (1103515245 : Int32)) + (12345 : Int32)))) := sq_drawn h5
          refine Vastore dX5_play_53 [(5, .ref (ad G ((sI (f_X5_drawn σ ((y3 * (1103515245 : Int32)) + (12345 : Int32))))))), (3, .int ((y3 * (1103515245 : Int32)) + (12345 : Int32))), (0, .ref (ad G 0)), (2, .int x2), (4, .int y4)] 55 rfl (by decide) rfl ?_
          refine Vaload dX5_play_55 0 rfl 57 rfl ?_
          refine Vifnn dX5_play_57 63 (by decide) ?_
          refine Vaload_n dX5_play_63 2 rfl 64 rfl ?_
          refine Vaload dX5_play_64 0 rfl 66 rfl ?_
          refine Vgen ?_
          intro u7 eu7
          refine VcVv (u := u7) dX5_play_66 [.ref (ad G ((sI (f_X5_drawn σ ((y3 * (1103515245 : Int32)) + (12345 : Int32))))))] (by rw [eu7]; exact c_X5_takeTurn l hF σ (sI (f_X5_drawn σ ((y3 * (1103515245 : Int32)) + (12345 : Int32)))) s6) mw_X5_takeTurn wd_im_yX5_takeTurn wd_se_yX5_takeTurn wd_ml_RX5_57 (hF.1 0 (by decide)) wk0 rfl rfl (by decide) rfl rfl (Nat.le_of_ble_eq_true rfl) 69 rfl ?_
          refine Viinc dX5_play_69 (y4 + 1) 4 [(4, .int (y4 + 1)), (5, .ref (ad G ((sI (f_X5_drawn σ ((y3 * (1103515245 : Int32)) + (12345 : Int32))))))), (3, .int ((y3 * (1103515245 : Int32)) + (12345 : Int32))), (0, .ref (ad G 0)), (2, .int x2)] 72 rfl rfl rfl (by decide) rfl ?_
          refine Vgoto dX5_play_72 19 (by decide) ?_
          refine Vlv [3, 4, 2, 0] rfl ?_
          exact ih ((y3 * (1103515245 : Int32)) + (12345 : Int32)) (y4 + 1) u7.2 (i + 1) (cnt_s hc) (cnt_lt2 hc (by assumption) hx2 (by decide) (by decide) hi) (by omega)
      · refine Vnull dX5_play_44 45 rfl ?_
        refine Vgoto dX5_play_45 53 (by decide) ?_
        refine VastoreN dX5_play_53 [(5, .null), (3, .int ((y3 * (1103515245 : Int32)) + (12345 : Int32))), (0, .ref (ad G 0)), (2, .int x2), (4, .int y4)] 55 rfl (by decide) rfl ?_
        refine ValoadN dX5_play_55 0 rfl 57 rfl ?_
        refine VifnnN dX5_play_57 60 rfl ?_
        refine Vload dX5_play_60 4 rfl 62 rfl ?_
        exact Viret dX5_play_62
def f_X5_play (σ : mS) (x1 : Int32) (x2 : Int32) : Int32 × mS := (if x2 < (1 : Int32) then ((-2 : Int32), σ) else (if x2 ≤ (100 : Int32) then (l_X5_play_19 101 x1 (0 : Int32) σ x2) else ((-2 : Int32), σ)))
theorem mw_X5_play : mW yX5_play cX5_play 6 (some .int) 2 := ⟨wd_co_yX5_play, wd_ini_RX5, ⟨by decide, by decide⟩, by decide +kernel, by decide⟩
set_option maxRecDepth 100000 in
set_option maxHeartbeats 4000000 in
theorem c_X5_play (l : Launch) {G : gT} (hF : Full G) (σ : mS) (x1 : Int32) (x2 : Int32)  : Ct l G yX5_play cX5_play 6 (some .int) 7 [.ref (ad G 0), .int x1, .int x2] κI σ (f_X5_play σ x1 x2) := by
  refine Ct.ofV [(0, .ref (ad G 0)), (1, .int x1), (2, .int x2)] rfl (by decide) (Nat.le_of_ble_eq_true rfl) rfl (fun X => ?_)
  unfold f_X5_play
  refine Vload_n dX5_play_0 2 rfl 1 rfl ?_
  refine Viconst dX5_play_1 (1 : Int32) (by decide) 2 rfl ?_
  refine Viclt (fun v => v) dX5_play_2 11 5 (by decide) rfl (fun h1 => ?_) (fun h1 => ?_)
  · refine Vbipush dX5_play_11 (-2 : Int32) (by decide) 13 rfl ?_
    exact Viret dX5_play_13
  · refine Vload_n dX5_play_5 2 rfl 6 rfl ?_
    refine Vbipush dX5_play_6 (100 : Int32) (by decide) 8 rfl ?_
    refine Vicle (fun v => v) dX5_play_8 14 11 (by decide) rfl (fun h2 => ?_) (fun h2 => ?_)
    · refine Vload_n dX5_play_14 1 rfl 15 rfl ?_
      refine Vstore_n dX5_play_15 [(3, .int x1), (0, .ref (ad G 0)), (1, .int x1), (2, .int x2)] 16 rfl (by decide) rfl ?_
      refine Viconst dX5_play_16 (0 : Int32) (by decide) 17 rfl ?_
      refine Vstore dX5_play_17 [(4, .int (0 : Int32)), (3, .int x1), (0, .ref (ad G 0)), (1, .int x1), (2, .int x2)] 19 rfl (by decide) rfl ?_
      refine Vlv [2, 4, 1, 0] rfl ?_
      exact vl_X5_play_19 l X hF x2  (by assumption) 101 x1 (0 : Int32) σ 0 nI_0.symm (Nat.zero_le _) rfl
    · refine Vbipush dX5_play_11 (-2 : Int32) (by decide) 13 rfl ?_
      exact Viret dX5_play_13
def f_X5_told (σ : mS) (x1 : Int32) (x2 : Int32) : Int32 := (if (f_X5_strandOf x1) = -1 then (-2 : Int32) else (if x2 = (0 : Int32) then (f_X4_state σ (sI (f_X5_strandOf x1))) else (if x2 = (1 : Int32) then (σ (sI (f_X5_strandOf x1)) 10) else (if x2 = (2 : Int32) then (σ (sI (f_X5_strandOf x1)) 12) else (if x2 = (3 : Int32) then (σ (sI (f_X5_strandOf x1)) 8) else (if x2 = (4 : Int32) then (if (σ ((sI (f_X5_strandOf x1)) + 7) 0) = 0 then (0 : Int32) else (1 : Int32)) else (if x2 = (5 : Int32) then (σ (sI (f_X5_strandOf x1)) 13) else (if x2 = (6 : Int32) then (σ (sI (f_X5_strandOf x1)) 14) else (-2 : Int32)))))))))
theorem mw_X5_told : mW yX5_told cX5_told 4 (some .int) 2 := ⟨wd_co_yX5_told, wd_ini_RX5, ⟨by decide, by decide⟩, by decide +kernel, by decide⟩
set_option maxRecDepth 100000 in
set_option maxHeartbeats 4000000 in
theorem c_X5_told (l : Launch) {G : gT} (hF : Full G) (σ : mS) (x1 : Int32) (x2 : Int32)  : Ct l G yX5_told cX5_told 4 (some .int) 1 [.ref (ad G 0), .int x1, .int x2] κI σ (f_X5_told σ x1 x2, σ) := by
  refine Ct.ofV [(0, .ref (ad G 0)), (1, .int x1), (2, .int x2)] rfl (by decide) (Nat.le_of_ble_eq_true rfl) rfl (fun X => ?_)
  unfold f_X5_told
  refine Vaload_n dX5_told_0 0 rfl 1 rfl ?_
  refine Vload_n dX5_told_1 1 rfl 2 rfl ?_
  refine VcVr (fun v => (v, σ)) dX5_told_2 [.int x1] (c_X5_strandOf l hF σ x1) mw_X5_strandOf wd_im_yX5_strandOf wd_se_yX5_strandOf wd_ml_RX5_32 (hF.1 0 (by decide)) wk0 rfl rfl (by decide) rfl rfl (Nat.le_of_ble_eq_true rfl) 5 rfl (fun h1 => ?_) (fun h1 => ?_)
  · refine Vastore_nN dX5_told_5 [(3, .null), (0, .ref (ad G 0)), (1, .int x1), (2, .int x2)] 6 rfl (by decide) rfl ?_
    refine Vaload_nN dX5_told_6 0 rfl 7 rfl ?_
    refine VifnnN dX5_told_7 10 rfl ?_
    refine Vbipush dX5_told_10 (-2 : Int32) (by decide) 12 rfl ?_
    exact Viret dX5_told_12
  · have s2 : sQ (sI (f_X5_strandOf x1)) := sq_strandOf h1
    refine Vastore_n dX5_told_5 [(3, .ref (ad G ((sI (f_X5_strandOf x1))))), (0, .ref (ad G 0)), (1, .int x1), (2, .int x2)] 6 rfl (by decide) rfl ?_
    refine Vaload_n dX5_told_6 0 rfl 7 rfl ?_
    refine Vifnn dX5_told_7 13 (by decide) ?_
    refine Vload_n dX5_told_13 3 rfl 14 rfl ?_
    refine Vif (fun v => (v, σ)) (fun h3 => ?_) (fun h3 => ?_)
    · refine Vswin dX5_told_14 56 (by rw [h3]; decide) (by rw [h3]; decide) (off := 42) (by rw [h3]; rfl) (by decide) ?_
      refine Vaload_n dX5_told_56 0 rfl 57 rfl ?_
      refine VcVp dX5_told_57 [] (c_X4_state l hF σ (sI (f_X5_strandOf x1)) s2) mw_X4_state wd_im_yX4_state wd_se_yX4_state wd_ml_RX5_50 (sI_ hF s2 0 (by decide)) (sk0 s2) rfl rfl (by decide) rfl rfl (Nat.le_of_ble_eq_true rfl) 60 rfl ?_
      exact Viret dX5_told_60
    refine Vif (fun v => (v, σ)) (fun h4 => ?_) (fun h4 => ?_)
    · refine Vswin dX5_told_14 61 (by rw [h4]; decide) (by rw [h4]; decide) (off := 47) (by rw [h4]; rfl) (by decide) ?_
      refine Vaload_n dX5_told_61 0 rfl 62 rfl ?_
      refine VgetN ((sI (f_X5_strandOf x1))) 10 dX5_told_62 65 rfl (sI_ hF s2 0 (by decide)) (sk0 s2) rfl inX4 (by decide) wd_nfl_RX5_65 (v := .int (σ (sI (f_X5_strandOf x1)) 10)) rfl ?_
      exact Viret dX5_told_65
    refine Vif (fun v => (v, σ)) (fun h5 => ?_) (fun h5 => ?_)
    · refine Vswin dX5_told_14 66 (by rw [h5]; decide) (by rw [h5]; decide) (off := 52) (by rw [h5]; rfl) (by decide) ?_
      refine Vaload_n dX5_told_66 0 rfl 67 rfl ?_
      refine VgetN ((sI (f_X5_strandOf x1))) 12 dX5_told_67 70 rfl (sI_ hF s2 0 (by decide)) (sk0 s2) rfl inX4 (by decide) wd_nfl_RX5_68 (v := .int (σ (sI (f_X5_strandOf x1)) 12)) rfl ?_
      exact Viret dX5_told_70
    refine Vif (fun v => (v, σ)) (fun h6 => ?_) (fun h6 => ?_)
    · refine Vswin dX5_told_14 71 (by rw [h6]; decide) (by rw [h6]; decide) (off := 57) (by rw [h6]; rfl) (by decide) ?_
      refine Vaload_n dX5_told_71 0 rfl 72 rfl ?_
      refine VgetN ((sI (f_X5_strandOf x1))) 8 dX5_told_72 75 rfl (sI_ hF s2 0 (by decide)) (sk0 s2) rfl inX4 (by decide) wd_nfl_RX5_71 (v := .int (σ (sI (f_X5_strandOf x1)) 8)) rfl ?_
      exact Viret dX5_told_75
    refine Vif (fun v => (v, σ)) (fun h7 => ?_) (fun h7 => ?_)
    · refine Vswin dX5_told_14 76 (by rw [h7]; decide) (by rw [h7]; decide) (off := 62) (by rw [h7]; rfl) (by decide) ?_
      refine Vaload_n dX5_told_76 0 rfl 77 rfl ?_
      refine VgetN ((sI (f_X5_strandOf x1))) 9 dX5_told_77 80 rfl (sI_ hF s2 0 (by decide)) (sk0 s2) rfl inX4 (by decide) wd_nfl_RX5_74 (v := .ref (ad G ((sI (f_X5_strandOf x1)) + 7))) rfl ?_
      refine VgetN ((sI (f_X5_strandOf x1)) + 7) 0 dX5_told_80 83 rfl (sI_ hF s2 7 (by decide)) (sk7 s2) rfl inX0 (by decide) wd_nfl_RX5_78 (v := .int (σ ((sI (f_X5_strandOf x1)) + 7) 0)) rfl ?_
      refine Vifeq (fun v => (v, σ)) dX5_told_83 90 86 (by decide) rfl (fun h8 => ?_) (fun h8 => ?_)
      · refine Viconst dX5_told_90 (0 : Int32) (by decide) 91 rfl ?_
        exact Viret dX5_told_91
      · refine Viconst dX5_told_86 (1 : Int32) (by decide) 87 rfl ?_
        refine Vgoto dX5_told_87 91 (by decide) ?_
        exact Viret dX5_told_91
    refine Vif (fun v => (v, σ)) (fun h9 => ?_) (fun h9 => ?_)
    · refine Vswin dX5_told_14 92 (by rw [h9]; decide) (by rw [h9]; decide) (off := 78) (by rw [h9]; rfl) (by decide) ?_
      refine Vaload_n dX5_told_92 0 rfl 93 rfl ?_
      refine VgetN ((sI (f_X5_strandOf x1))) 13 dX5_told_93 96 rfl (sI_ hF s2 0 (by decide)) (sk0 s2) rfl inX4 (by decide) wd_nfl_RX5_40 (v := .int (σ (sI (f_X5_strandOf x1)) 13)) rfl ?_
      exact Viret dX5_told_96
    refine Vif (fun v => (v, σ)) (fun h10 => ?_) (fun h10 => ?_)
    · refine Vswin dX5_told_14 97 (by rw [h10]; decide) (by rw [h10]; decide) (off := 83) (by rw [h10]; rfl) (by decide) ?_
      refine Vaload_n dX5_told_97 0 rfl 98 rfl ?_
      refine VgetN ((sI (f_X5_strandOf x1))) 14 dX5_told_98 101 rfl (sI_ hF s2 0 (by decide)) (sk0 s2) rfl inX4 (by decide) wd_nfl_RX5_84 (v := .int (σ (sI (f_X5_strandOf x1)) 14)) rfl ?_
      exact Viret dX5_told_101
    refine Vswout dX5_told_14 (by have eh3 := lv_neT (a := 0) h3 (by decide); have eh4 := lv_neT (a := 1) h4 (by decide); have eh5 := lv_neT (a := 2) h5 (by decide); have eh6 := lv_neT (a := 3) h6 (by decide); have eh7 := lv_neT (a := 4) h7 (by decide); have eh9 := lv_neT (a := 5) h9 (by decide); have eh10 := lv_neT (a := 6) h10 (by decide); omega) (tgt := 102) (by decide) ?_
    refine Vbipush dX5_told_102 (-2 : Int32) (by decide) 104 rfl ?_
    exact Viret dX5_told_104
def f_X5_register (σ : mS) (x1 : Int32) (x2 : Int32) : Int32 := (if (f_X5_strandOf x1) = -1 then (-2 : Int32) else (if (f_X5_isRegister x2) = 0 then (-2 : Int32) else (f_X4_held σ (sI (f_X5_strandOf x1)) x2)))
theorem mw_X5_register : mW yX5_register cX5_register 4 (some .int) 2 := ⟨wd_co_yX5_register, wd_ini_RX5, ⟨by decide, by decide⟩, by decide +kernel, by decide⟩
set_option maxRecDepth 100000 in
set_option maxHeartbeats 4000000 in
theorem c_X5_register (l : Launch) {G : gT} (hF : Full G) (σ : mS) (x1 : Int32) (x2 : Int32)  : Ct l G yX5_register cX5_register 4 (some .int) 2 [.ref (ad G 0), .int x1, .int x2] κI σ (f_X5_register σ x1 x2, σ) := by
  refine Ct.ofV [(0, .ref (ad G 0)), (1, .int x1), (2, .int x2)] rfl (by decide) (Nat.le_of_ble_eq_true rfl) rfl (fun X => ?_)
  unfold f_X5_register
  refine Vaload_n dX5_register_0 0 rfl 1 rfl ?_
  refine Vload_n dX5_register_1 1 rfl 2 rfl ?_
  refine VcVr (fun v => (v, σ)) dX5_register_2 [.int x1] (c_X5_strandOf l hF σ x1) mw_X5_strandOf wd_im_yX5_strandOf wd_se_yX5_strandOf wd_ml_RX5_32 (hF.1 0 (by decide)) wk0 rfl rfl (by decide) rfl rfl (Nat.le_of_ble_eq_true rfl) 5 rfl (fun h1 => ?_) (fun h1 => ?_)
  · refine Vastore_nN dX5_register_5 [(3, .null), (0, .ref (ad G 0)), (1, .int x1), (2, .int x2)] 6 rfl (by decide) rfl ?_
    refine Vaload_nN dX5_register_6 0 rfl 7 rfl ?_
    refine VifnullN dX5_register_7 17 (by decide) ?_
    refine Vbipush dX5_register_17 (-2 : Int32) (by decide) 19 rfl ?_
    refine Vgoto dX5_register_19 27 (by decide) ?_
    exact Viret dX5_register_27
  · have s2 : sQ (sI (f_X5_strandOf x1)) := sq_strandOf h1
    refine Vastore_n dX5_register_5 [(3, .ref (ad G ((sI (f_X5_strandOf x1))))), (0, .ref (ad G 0)), (1, .int x1), (2, .int x2)] 6 rfl (by decide) rfl ?_
    refine Vaload_n dX5_register_6 0 rfl 7 rfl ?_
    refine Vifnull dX5_register_7 10 rfl ?_
    refine Vload_n dX5_register_10 3 rfl 11 rfl ?_
    refine VcSp dX5_register_11 [.int x2] (c_X5_isRegister l hF σ x2) mw_X5_isRegister wd_sm_yX5_isRegister wd_ml_RX5_87 (by decide) rfl rfl (Nat.le_of_ble_eq_true rfl) 14 rfl ?_
    refine Vifne (fun v => (v, σ)) dX5_register_14 22 17 (by decide) rfl (fun h3 => ?_) (fun h3 => ?_)
    · refine Vaload_n dX5_register_22 0 rfl 23 rfl ?_
      refine Vload_n dX5_register_23 3 rfl 24 rfl ?_
      refine VcVp dX5_register_24 [.int x2] (c_X4_held l hF σ (sI (f_X5_strandOf x1)) x2 s2) mw_X4_held wd_im_yX4_held wd_se_yX4_held wd_ml_RX5_91 (sI_ hF s2 0 (by decide)) (sk0 s2) rfl rfl (by decide) rfl rfl (Nat.le_of_ble_eq_true rfl) 27 rfl ?_
      exact Viret dX5_register_27
    · refine Vbipush dX5_register_17 (-2 : Int32) (by decide) 19 rfl ?_
      refine Vgoto dX5_register_19 27 (by decide) ?_
      exact Viret dX5_register_27
def f_X5_cell (σ : mS) (x1 : Int32) : Int32 := (if (f_X5_isCell x1) = 0 then (-2 : Int32) else (f_X1_shown σ x1))
theorem mw_X5_cell : mW yX5_cell cX5_cell 2 (some .int) 1 := ⟨wd_co_yX5_cell, wd_ini_RX5, ⟨by decide, by decide⟩, by decide +kernel, by decide⟩
set_option maxRecDepth 100000 in
set_option maxHeartbeats 4000000 in
theorem c_X5_cell (l : Launch) {G : gT} (hF : Full G) (σ : mS) (x1 : Int32)  : Ct l G yX5_cell cX5_cell 2 (some .int) 2 [.ref (ad G 0), .int x1] κI σ (f_X5_cell σ x1, σ) := by
  refine Ct.ofV [(0, .ref (ad G 0)), (1, .int x1)] rfl (by decide) (Nat.le_of_ble_eq_true rfl) rfl (fun X => ?_)
  unfold f_X5_cell
  refine Vload_n dX5_cell_0 1 rfl 1 rfl ?_
  refine VcSp dX5_cell_1 [.int x1] (c_X5_isCell l hF σ x1) mw_X5_isCell wd_sm_yX5_isCell wd_ml_RX5_95 (by decide) rfl rfl (Nat.le_of_ble_eq_true rfl) 4 rfl ?_
  refine Vifeq (fun v => (v, σ)) dX5_cell_4 18 7 (by decide) rfl (fun h1 => ?_) (fun h1 => ?_)
  · refine Vbipush dX5_cell_18 (-2 : Int32) (by decide) 20 rfl ?_
    exact Viret dX5_cell_20
  · refine Vaload_n dX5_cell_7 0 rfl 8 rfl ?_
    refine Vget (0) 0 dX5_cell_8 11 rfl (hF.1 0 (by decide)) wk0 rfl inX5 (by decide) wd_fl_RX5_10 (v := .ref (ad G 1)) rfl ?_
    refine Vload_n dX5_cell_11 1 rfl 12 rfl ?_
    refine VcVp dX5_cell_12 [.int x1] (c_X1_shown l hF σ x1) mw_X1_shown wd_im_yX1_shown wd_se_yX1_shown wd_ml_RX5_98 (hF.1 1 (by decide)) wk1 rfl rfl (by decide) rfl rfl (Nat.le_of_ble_eq_true rfl) 15 rfl ?_
    refine Vgoto dX5_cell_15 20 (by decide) ?_
    exact Viret dX5_cell_20
def f_X5_lazy (σ : mS) (x1 : Int32) : Int32 := (if (f_X5_isCell x1) = 0 then (-2 : Int32) else (if (f_X1_isLazy σ x1) = 0 then (0 : Int32) else (1 : Int32)))
theorem mw_X5_lazy : mW yX5_lazy cX5_lazy 2 (some .int) 1 := ⟨wd_co_yX5_lazy, wd_ini_RX5, ⟨by decide, by decide⟩, by decide +kernel, by decide⟩
set_option maxRecDepth 100000 in
set_option maxHeartbeats 4000000 in
theorem c_X5_lazy (l : Launch) {G : gT} (hF : Full G) (σ : mS) (x1 : Int32)  : Ct l G yX5_lazy cX5_lazy 2 (some .int) 2 [.ref (ad G 0), .int x1] κI σ (f_X5_lazy σ x1, σ) := by
  refine Ct.ofV [(0, .ref (ad G 0)), (1, .int x1)] rfl (by decide) (Nat.le_of_ble_eq_true rfl) rfl (fun X => ?_)
  unfold f_X5_lazy
  refine Vload_n dX5_lazy_0 1 rfl 1 rfl ?_
  refine VcSp dX5_lazy_1 [.int x1] (c_X5_isCell l hF σ x1) mw_X5_isCell wd_sm_yX5_isCell wd_ml_RX5_95 (by decide) rfl rfl (Nat.le_of_ble_eq_true rfl) 4 rfl ?_
  refine Vifne (fun v => (v, σ)) dX5_lazy_4 10 7 (by decide) rfl (fun h1 => ?_) (fun h1 => ?_)
  · refine Vaload_n dX5_lazy_10 0 rfl 11 rfl ?_
    refine Vget (0) 0 dX5_lazy_11 14 rfl (hF.1 0 (by decide)) wk0 rfl inX5 (by decide) wd_fl_RX5_10 (v := .ref (ad G 1)) rfl ?_
    refine Vload_n dX5_lazy_14 1 rfl 15 rfl ?_
    refine VcVp dX5_lazy_15 [.int x1] (c_X1_isLazy l hF σ x1) mw_X1_isLazy wd_im_yX1_isLazy wd_se_yX1_isLazy wd_ml_RX5_101 (hF.1 1 (by decide)) wk1 rfl rfl (by decide) rfl rfl (Nat.le_of_ble_eq_true rfl) 18 rfl ?_
    refine Vifeq (fun v => (v, σ)) dX5_lazy_18 25 21 (by decide) rfl (fun h2 => ?_) (fun h2 => ?_)
    · refine Viconst dX5_lazy_25 (0 : Int32) (by decide) 26 rfl ?_
      exact Viret dX5_lazy_26
    · refine Viconst dX5_lazy_21 (1 : Int32) (by decide) 22 rfl ?_
      refine Vgoto dX5_lazy_22 26 (by decide) ?_
      exact Viret dX5_lazy_26
  · refine Vbipush dX5_lazy_7 (-2 : Int32) (by decide) 9 rfl ?_
    exact Viret dX5_lazy_9
def f_X5_size (σ : mS) (x1 : Int32) : Int32 := (if (f_X5_isRow x1) = 0 then (-2 : Int32) else (f_X3_length σ x1))
theorem mw_X5_size : mW yX5_size cX5_size 2 (some .int) 1 := ⟨wd_co_yX5_size, wd_ini_RX5, ⟨by decide, by decide⟩, by decide +kernel, by decide⟩
set_option maxRecDepth 100000 in
set_option maxHeartbeats 4000000 in
theorem c_X5_size (l : Launch) {G : gT} (hF : Full G) (σ : mS) (x1 : Int32)  : Ct l G yX5_size cX5_size 2 (some .int) 2 [.ref (ad G 0), .int x1] κI σ (f_X5_size σ x1, σ) := by
  refine Ct.ofV [(0, .ref (ad G 0)), (1, .int x1)] rfl (by decide) (Nat.le_of_ble_eq_true rfl) rfl (fun X => ?_)
  unfold f_X5_size
  refine Vload_n dX5_size_0 1 rfl 1 rfl ?_
  refine VcSp dX5_size_1 [.int x1] (c_X5_isRow l hF σ x1) mw_X5_isRow wd_sm_yX5_isRow wd_ml_RX5_104 (by decide) rfl rfl (Nat.le_of_ble_eq_true rfl) 4 rfl ?_
  refine Vifeq (fun v => (v, σ)) dX5_size_4 18 7 (by decide) rfl (fun h1 => ?_) (fun h1 => ?_)
  · refine Vbipush dX5_size_18 (-2 : Int32) (by decide) 20 rfl ?_
    exact Viret dX5_size_20
  · refine Vaload_n dX5_size_7 0 rfl 8 rfl ?_
    refine Vget (0) 1 dX5_size_8 11 rfl (hF.1 0 (by decide)) wk0 rfl inX5 (by decide) wd_fl_RX5_19 (v := .ref (ad G 9)) rfl ?_
    refine Vload_n dX5_size_11 1 rfl 12 rfl ?_
    refine VcVp dX5_size_12 [.int x1] (c_X3_length l hF σ x1) mw_X3_length wd_im_yX3_length wd_se_yX3_length wd_ml_RX5_107 (hF.1 9 (by decide)) wk9 rfl rfl (by decide) rfl rfl (Nat.le_of_ble_eq_true rfl) 15 rfl ?_
    refine Vgoto dX5_size_15 20 (by decide) ?_
    exact Viret dX5_size_20
def f_X5_item (σ : mS) (x1 : Int32) (x2 : Int32) : Int32 := (if (f_X5_isRow x1) = 0 then (-2 : Int32) else (f_X3_itemOf σ x1 x2))
theorem mw_X5_item : mW yX5_item cX5_item 3 (some .int) 2 := ⟨wd_co_yX5_item, wd_ini_RX5, ⟨by decide, by decide⟩, by decide +kernel, by decide⟩
set_option maxRecDepth 100000 in
set_option maxHeartbeats 4000000 in
theorem c_X5_item (l : Launch) {G : gT} (hF : Full G) (σ : mS) (x1 : Int32) (x2 : Int32)  : Ct l G yX5_item cX5_item 3 (some .int) 3 [.ref (ad G 0), .int x1, .int x2] κI σ (f_X5_item σ x1 x2, σ) := by
  refine Ct.ofV [(0, .ref (ad G 0)), (1, .int x1), (2, .int x2)] rfl (by decide) (Nat.le_of_ble_eq_true rfl) rfl (fun X => ?_)
  unfold f_X5_item
  refine Vload_n dX5_item_0 1 rfl 1 rfl ?_
  refine VcSp dX5_item_1 [.int x1] (c_X5_isRow l hF σ x1) mw_X5_isRow wd_sm_yX5_isRow wd_ml_RX5_104 (by decide) rfl rfl (Nat.le_of_ble_eq_true rfl) 4 rfl ?_
  refine Vifeq (fun v => (v, σ)) dX5_item_4 19 7 (by decide) rfl (fun h1 => ?_) (fun h1 => ?_)
  · refine Vbipush dX5_item_19 (-2 : Int32) (by decide) 21 rfl ?_
    exact Viret dX5_item_21
  · refine Vaload_n dX5_item_7 0 rfl 8 rfl ?_
    refine Vget (0) 1 dX5_item_8 11 rfl (hF.1 0 (by decide)) wk0 rfl inX5 (by decide) wd_fl_RX5_19 (v := .ref (ad G 9)) rfl ?_
    refine Vload_n dX5_item_11 1 rfl 12 rfl ?_
    refine Vload_n dX5_item_12 2 rfl 13 rfl ?_
    refine VcVp dX5_item_13 [.int x1, .int x2] (c_X3_itemOf l hF σ x1 x2) mw_X3_itemOf wd_im_yX3_itemOf wd_se_yX3_itemOf wd_ml_RX5_110 (hF.1 9 (by decide)) wk9 rfl rfl (by decide) rfl rfl (Nat.le_of_ble_eq_true rfl) 16 rfl ?_
    refine Vgoto dX5_item_16 21 (by decide) ?_
    exact Viret dX5_item_21
def f_X5_frozen (σ : mS) (x1 : Int32) : Int32 := (if (f_X5_isRow x1) = 0 then (-2 : Int32) else (if (f_X3_isFrozen σ x1) = 0 then (0 : Int32) else (1 : Int32)))
theorem mw_X5_frozen : mW yX5_frozen cX5_frozen 2 (some .int) 1 := ⟨wd_co_yX5_frozen, wd_ini_RX5, ⟨by decide, by decide⟩, by decide +kernel, by decide⟩
set_option maxRecDepth 100000 in
set_option maxHeartbeats 4000000 in
theorem c_X5_frozen (l : Launch) {G : gT} (hF : Full G) (σ : mS) (x1 : Int32)  : Ct l G yX5_frozen cX5_frozen 2 (some .int) 2 [.ref (ad G 0), .int x1] κI σ (f_X5_frozen σ x1, σ) := by
  refine Ct.ofV [(0, .ref (ad G 0)), (1, .int x1)] rfl (by decide) (Nat.le_of_ble_eq_true rfl) rfl (fun X => ?_)
  unfold f_X5_frozen
  refine Vload_n dX5_frozen_0 1 rfl 1 rfl ?_
  refine VcSp dX5_frozen_1 [.int x1] (c_X5_isRow l hF σ x1) mw_X5_isRow wd_sm_yX5_isRow wd_ml_RX5_104 (by decide) rfl rfl (Nat.le_of_ble_eq_true rfl) 4 rfl ?_
  refine Vifne (fun v => (v, σ)) dX5_frozen_4 10 7 (by decide) rfl (fun h1 => ?_) (fun h1 => ?_)
  · refine Vaload_n dX5_frozen_10 0 rfl 11 rfl ?_
    refine Vget (0) 1 dX5_frozen_11 14 rfl (hF.1 0 (by decide)) wk0 rfl inX5 (by decide) wd_fl_RX5_19 (v := .ref (ad G 9)) rfl ?_
    refine Vload_n dX5_frozen_14 1 rfl 15 rfl ?_
    refine VcVp dX5_frozen_15 [.int x1] (c_X3_isFrozen l hF σ x1) mw_X3_isFrozen wd_im_yX3_isFrozen wd_se_yX3_isFrozen wd_ml_RX5_114 (hF.1 9 (by decide)) wk9 rfl rfl (by decide) rfl rfl (Nat.le_of_ble_eq_true rfl) 18 rfl ?_
    refine Vifeq (fun v => (v, σ)) dX5_frozen_18 25 21 (by decide) rfl (fun h2 => ?_) (fun h2 => ?_)
    · refine Viconst dX5_frozen_25 (0 : Int32) (by decide) 26 rfl ?_
      exact Viret dX5_frozen_26
    · refine Viconst dX5_frozen_21 (1 : Int32) (by decide) 22 rfl ?_
      refine Vgoto dX5_frozen_22 26 (by decide) ?_
      exact Viret dX5_frozen_26
  · refine Vbipush dX5_frozen_7 (-2 : Int32) (by decide) 9 rfl ?_
    exact Viret dX5_frozen_9
def f_X5_put (σ : mS) (x1 : Int32) (x2 : Int32) : Int32 × mS := (if (f_X5_isCell x1) = 0 then ((-2 : Int32), σ) else (ap (fun u2 => ((f_X1_shown σ x1), u2.2)) (f_X1_hold σ x1 x2)))
theorem mw_X5_put : mW yX5_put cX5_put 4 (some .int) 2 := ⟨wd_co_yX5_put, wd_ini_RX5, ⟨by decide, by decide⟩, by decide +kernel, by decide⟩
set_option maxRecDepth 100000 in
set_option maxHeartbeats 4000000 in
theorem c_X5_put (l : Launch) {G : gT} (hF : Full G) (σ : mS) (x1 : Int32) (x2 : Int32)  : Ct l G yX5_put cX5_put 4 (some .int) 2 [.ref (ad G 0), .int x1, .int x2] κI σ (f_X5_put σ x1 x2) := by
  refine Ct.ofV [(0, .ref (ad G 0)), (1, .int x1), (2, .int x2)] rfl (by decide) (Nat.le_of_ble_eq_true rfl) rfl (fun X => ?_)
  unfold f_X5_put
  refine Vload_n dX5_put_0 1 rfl 1 rfl ?_
  refine VcSp dX5_put_1 [.int x1] (c_X5_isCell l hF σ x1) mw_X5_isCell wd_sm_yX5_isCell wd_ml_RX5_95 (by decide) rfl rfl (Nat.le_of_ble_eq_true rfl) 4 rfl ?_
  refine Vifne (fun v => v) dX5_put_4 10 7 (by decide) rfl (fun h1 => ?_) (fun h1 => ?_)
  · refine Vaload_n dX5_put_10 0 rfl 11 rfl ?_
    refine Vget (0) 0 dX5_put_11 14 rfl (hF.1 0 (by decide)) wk0 rfl inX5 (by decide) wd_fl_RX5_10 (v := .ref (ad G 1)) rfl ?_
    refine Vload_n dX5_put_14 1 rfl 15 rfl ?_
    refine VcVp dX5_put_15 [.int x1] (c_X1_shown l hF σ x1) mw_X1_shown wd_im_yX1_shown wd_se_yX1_shown wd_ml_RX5_98 (hF.1 1 (by decide)) wk1 rfl rfl (by decide) rfl rfl (Nat.le_of_ble_eq_true rfl) 18 rfl ?_
    refine Vstore_n dX5_put_18 [(3, .int (f_X1_shown σ x1)), (0, .ref (ad G 0)), (1, .int x1), (2, .int x2)] 19 rfl (by decide) rfl ?_
    refine Vaload_n dX5_put_19 1 rfl 20 rfl ?_
    refine Vget (0) 0 dX5_put_20 23 rfl (hF.1 0 (by decide)) wk0 rfl inX5 (by decide) wd_fl_RX5_10 (v := .ref (ad G 1)) rfl ?_
    refine Vload_n dX5_put_23 2 rfl 24 rfl ?_
    refine Vload_n dX5_put_24 3 rfl 25 rfl ?_
    refine Vgen ?_
    intro u2 eu2
    refine VcVv (u := u2) dX5_put_25 [.int x1, .int x2] (by rw [eu2]; exact c_X1_hold l hF σ x1 x2) mw_X1_hold wd_im_yX1_hold wd_se_yX1_hold wd_ml_RX5_117 (hF.1 1 (by decide)) wk1 rfl rfl (by decide) rfl rfl (Nat.le_of_ble_eq_true rfl) 28 rfl ?_
    refine Vload_n dX5_put_28 0 rfl 29 rfl ?_
    exact Viret dX5_put_29
  · refine Vbipush dX5_put_7 (-2 : Int32) (by decide) 9 rfl ?_
    exact Viret dX5_put_9
def f_X5_writes (σ : mS)  : Int32 := (σ 5 4)
theorem mw_X5_writes : mW yX5_writes cX5_writes 1 (some .int) 0 := ⟨wd_co_yX5_writes, wd_ini_RX5, ⟨by decide, by decide⟩, by decide +kernel, by decide⟩
set_option maxRecDepth 100000 in
set_option maxHeartbeats 4000000 in
theorem c_X5_writes (l : Launch) {G : gT} (hF : Full G) (σ : mS)   : Ct l G yX5_writes cX5_writes 1 (some .int) 0 [.ref (ad G 0)] κI σ (f_X5_writes σ, σ) := by
  refine Ct.ofV [(0, .ref (ad G 0))] rfl (by decide) (Nat.le_of_ble_eq_true rfl) rfl (fun X => ?_)
  unfold f_X5_writes
  refine Vaload_n dX5_writes_0 0 rfl 1 rfl ?_
  refine Vget (0) 0 dX5_writes_1 4 rfl (hF.1 0 (by decide)) wk0 rfl inX5 (by decide) wd_fl_RX5_10 (v := .ref (ad G 1)) rfl ?_
  refine VgetN (1) 3 dX5_writes_4 7 rfl (hF.1 1 (by decide)) wk1 rfl inX1 (by decide) wd_nfl_RX5_121 (v := .ref (ad G 5)) rfl ?_
  refine VgetN (5) 4 dX5_writes_7 10 rfl (hF.1 5 (by decide)) wk5 rfl inX2 (by decide) wd_nfl_RX5_125 (v := .int (σ 5 4)) rfl ?_
  exact Viret dX5_writes_10
def f_X5_write (σ : mS) (x1 : Int32) (x2 : Int32) : Int32 := (if x2 < 0 then (-2 : Int32) else (if x2 ≤ (2 : Int32) then (f_X2_tell σ x1 x2) else (-2 : Int32)))
theorem mw_X5_write : mW yX5_write cX5_write 3 (some .int) 2 := ⟨wd_co_yX5_write, wd_ini_RX5, ⟨by decide, by decide⟩, by decide +kernel, by decide⟩
set_option maxRecDepth 100000 in
set_option maxHeartbeats 4000000 in
theorem c_X5_write (l : Launch) {G : gT} (hF : Full G) (σ : mS) (x1 : Int32) (x2 : Int32)  : Ct l G yX5_write cX5_write 3 (some .int) 1 [.ref (ad G 0), .int x1, .int x2] κI σ (f_X5_write σ x1 x2, σ) := by
  refine Ct.ofV [(0, .ref (ad G 0)), (1, .int x1), (2, .int x2)] rfl (by decide) (Nat.le_of_ble_eq_true rfl) rfl (fun X => ?_)
  unfold f_X5_write
  refine Vload_n dX5_write_0 2 rfl 1 rfl ?_
  refine Viflt (fun v => (v, σ)) dX5_write_1 9 4 (by decide) rfl (fun h1 => ?_) (fun h1 => ?_)
  · refine Vbipush dX5_write_9 (-2 : Int32) (by decide) 11 rfl ?_
    refine Vgoto dX5_write_11 26 (by decide) ?_
    exact Viret dX5_write_26
  · refine Vload_n dX5_write_4 2 rfl 5 rfl ?_
    refine Viconst dX5_write_5 (2 : Int32) (by decide) 6 rfl ?_
    refine Vicle (fun v => (v, σ)) dX5_write_6 14 9 (by decide) rfl (fun h2 => ?_) (fun h2 => ?_)
    · refine Vaload_n dX5_write_14 0 rfl 15 rfl ?_
      refine Vget (0) 0 dX5_write_15 18 rfl (hF.1 0 (by decide)) wk0 rfl inX5 (by decide) wd_fl_RX5_10 (v := .ref (ad G 1)) rfl ?_
      refine VgetN (1) 3 dX5_write_18 21 rfl (hF.1 1 (by decide)) wk1 rfl inX1 (by decide) wd_nfl_RX5_121 (v := .ref (ad G 5)) rfl ?_
      refine Vload_n dX5_write_21 1 rfl 22 rfl ?_
      refine Vload_n dX5_write_22 2 rfl 23 rfl ?_
      refine VcVp dX5_write_23 [.int x1, .int x2] (c_X2_tell l hF σ x1 x2) mw_X2_tell wd_im_yX2_tell wd_se_yX2_tell wd_ml_RX5_130 (hF.1 5 (by decide)) wk5 rfl rfl (by decide) rfl rfl (Nat.le_of_ble_eq_true rfl) 26 rfl ?_
      exact Viret dX5_write_26
    · refine Vbipush dX5_write_9 (-2 : Int32) (by decide) 11 rfl ?_
      refine Vgoto dX5_write_11 26 (by decide) ?_
      exact Viret dX5_write_26
def l_X5_restart_26 : Nat → Int32 → mS → Int32 → Int32 → Int32 × mS
  | 0, y3, σ, _, _ => (0, σ)
  | n + 1, y3, σ, x1, p2 => (if (3 : Int32) ≤ y3 then (p2, σ) else (if (f_X5_strandOf y3) = -1 then (l_X5_restart_26 n (y3 + 1) σ x1 p2) else (ap (fun u6 => (l_X5_restart_26 n (y3 + 1) u6.2 x1 p2)) (f_X4_reset σ (sI (f_X5_strandOf y3)) x1))))
set_option maxRecDepth 100000 in
set_option maxHeartbeats 4000000 in
theorem vl_X5_restart_26 (l : Launch) {G : gT} (X : xT) (hF : Full G) (x1 : Int32) (p2 : Int32)  : ∀ (n : Nat) (y3 : Int32) (σ : mS) (i : Nat) (hc : y3 = nI i) (hi : i ≤ 3) (hn : n + i = 4), V l G X RX5 cX5_restart 5 2 (some .int) κI ((fun v => v) (l_X5_restart_26 n y3 σ x1 p2)) σ 26 [(0, .ref (ad G 0)), (1, .int x1), (2, .int p2), (3, .int y3)] [] := by
  intro n
  induction n with
  | zero => intro y3 σ i hc hi hn; exact absurd hn (by omega)
  | succ n ih =>
    intro y3 σ i hc hi hn
    rw [l_X5_restart_26.eq_2]
    refine Vload_n dX5_restart_26 3 rfl 27 rfl ?_
    refine Vaload_n dX5_restart_27 0 rfl 28 rfl ?_
    refine Vget (0) 2 dX5_restart_28 31 rfl (hF.1 0 (by decide)) wk0 rfl inX5 (by decide) wd_fl_RX5_25 (v := .ref (ad G 13)) rfl ?_
    refine Vlens dX5_restart_31 32 rfl (hF.1 13 (by decide)) hF.2.2.2 ?_
    refine Vicge (fun v => v) dX5_restart_32 59 35 (by decide) rfl (fun h3 => ?_) (fun h3 => ?_)
    · refine Vload_n dX5_restart_59 2 rfl 60 rfl ?_
      exact Viret dX5_restart_60
    · refine Vaload_n dX5_restart_35 0 rfl 36 rfl ?_
      refine Vload_n dX5_restart_36 3 rfl 37 rfl ?_
      refine VcVr (fun v => v) dX5_restart_37 [.int y3] (c_X5_strandOf l hF σ y3) mw_X5_strandOf wd_im_yX5_strandOf wd_se_yX5_strandOf wd_ml_RX5_32 (hF.1 0 (by decide)) wk0 rfl rfl (by decide) rfl rfl (Nat.le_of_ble_eq_true rfl) 40 rfl (fun h4 => ?_) (fun h4 => ?_)
      · refine VastoreN dX5_restart_40 [(4, .null), (0, .ref (ad G 0)), (1, .int x1), (2, .int p2), (3, .int y3)] 42 rfl (by decide) rfl ?_
        refine ValoadN dX5_restart_42 0 rfl 44 rfl ?_
        refine VifnullN dX5_restart_44 53 (by decide) ?_
        refine Viinc dX5_restart_53 (y3 + 1) 4 [(3, .int (y3 + 1)), (4, .null), (0, .ref (ad G 0)), (1, .int x1), (2, .int p2)] 56 rfl rfl rfl (by decide) rfl ?_
        refine Vgoto dX5_restart_56 26 (by decide) ?_
        refine Vlv [2, 3, 4, 0] rfl ?_
        exact ih (y3 + 1) σ (i + 1) (cnt_s hc) (cnt_lt hc (by assumption) (K := 3) (by decide) (by decide) hi) (by omega)
      · have s5 : sQ (sI (f_X5_strandOf y3)) := sq_strandOf h4
        refine Vastore dX5_restart_40 [(4, .ref (ad G ((sI (f_X5_strandOf y3))))), (0, .ref (ad G 0)), (1, .int x1), (2, .int p2), (3, .int y3)] 42 rfl (by decide) rfl ?_
        refine Vaload dX5_restart_42 0 rfl 44 rfl ?_
        refine Vifnull dX5_restart_44 47 rfl ?_
        refine Vaload dX5_restart_47 0 rfl 49 rfl ?_
        refine Vload_n dX5_restart_49 2 rfl 50 rfl ?_
        refine Vgen ?_
        intro u6 eu6
        refine VcVv (u := u6) dX5_restart_50 [.int x1] (by rw [eu6]; exact c_X4_reset l hF σ (sI (f_X5_strandOf y3)) x1 s5) mw_X4_reset wd_im_yX4_reset wd_se_yX4_reset wd_ml_RX5_144 (sI_ hF s5 0 (by decide)) (sk0 s5) rfl rfl (by decide) rfl rfl (Nat.le_of_ble_eq_true rfl) 53 rfl ?_
        refine Viinc dX5_restart_53 (y3 + 1) 4 [(3, .int (y3 + 1)), (4, .ref (ad G ((sI (f_X5_strandOf y3))))), (0, .ref (ad G 0)), (1, .int x1), (2, .int p2)] 56 rfl rfl rfl (by decide) rfl ?_
        refine Vgoto dX5_restart_56 26 (by decide) ?_
        refine Vlv [2, 3, 4, 0] rfl ?_
        exact ih (y3 + 1) u6.2 (i + 1) (cnt_s hc) (cnt_lt hc (by assumption) (K := 3) (by decide) (by decide) hi) (by omega)
def f_X5_restart (σ : mS) (x1 : Int32) : Int32 × mS := (ap (fun u1 => (ap (fun u2 => (l_X5_restart_26 4 (0 : Int32) u2.2 x1 (σ 0 3))) (f_X3_reset u1.2))) (f_X1_reset (st2 σ 0 3 (0 : Int32))))
theorem mw_X5_restart : mW yX5_restart cX5_restart 5 (some .int) 1 := ⟨wd_co_yX5_restart, wd_ini_RX5, ⟨by decide, by decide⟩, by decide +kernel, by decide⟩
set_option maxRecDepth 100000 in
set_option maxHeartbeats 4000000 in
theorem c_X5_restart (l : Launch) {G : gT} (hF : Full G) (σ : mS) (x1 : Int32)  : Ct l G yX5_restart cX5_restart 5 (some .int) 2 [.ref (ad G 0), .int x1] κI σ (f_X5_restart σ x1) := by
  refine Ct.ofV [(0, .ref (ad G 0)), (1, .int x1)] rfl (by decide) (Nat.le_of_ble_eq_true rfl) rfl (fun X => ?_)
  unfold f_X5_restart
  refine Vaload_n dX5_restart_0 0 rfl 1 rfl ?_
  refine Vget (0) 3 dX5_restart_1 4 rfl (hF.1 0 (by decide)) wk0 rfl inX5 (by decide) wd_fl_RX5_137 (v := .int (σ 0 3)) rfl ?_
  refine Vstore_n dX5_restart_4 [(2, .int (σ 0 3)), (0, .ref (ad G 0)), (1, .int x1)] 5 rfl (by decide) rfl ?_
  refine Vaload_n dX5_restart_5 1 rfl 6 rfl ?_
  refine Viconst dX5_restart_6 (0 : Int32) (by decide) 7 rfl ?_
  refine Vput (0) 3 tyX5 dX5_restart_7 10 rfl (hF.1 0 (by decide)) wk0 rfl inX5 tyX5_ok nmX5 (by decide) wd_fl_RX5_137 rfl (ty := .int) (by decide +kernel) rfl rfl (fun f => rfl) (fun f => Nat.le_of_ble_eq_true rfl) ?_
  refine Vaload_n dX5_restart_10 1 rfl 11 rfl ?_
  refine Vget (0) 0 dX5_restart_11 14 rfl (hF.1 0 (by decide)) wk0 rfl inX5 (by decide) wd_fl_RX5_10 (v := .ref (ad G 1)) rfl ?_
  refine Vgen ?_
  intro u1 eu1
  refine VcVv (u := u1) dX5_restart_14 [] (by rw [eu1]; exact c_X1_reset l (hF.sub (by decide)) hF.2.1 (st2 σ 0 3 (0 : Int32))) mw_X1_reset wd_im_yX1_reset wd_se_yX1_reset wd_ml_RX5_140 (hF.1 1 (by decide)) wk1 rfl rfl (by decide) rfl rfl (Nat.le_of_ble_eq_true rfl) 17 rfl ?_
  refine Vaload_n dX5_restart_17 1 rfl 18 rfl ?_
  refine Vget (0) 1 dX5_restart_18 21 rfl (hF.1 0 (by decide)) wk0 rfl inX5 (by decide) wd_fl_RX5_19 (v := .ref (ad G 9)) rfl ?_
  refine Vgen ?_
  intro u2 eu2
  refine VcVv (u := u2) dX5_restart_21 [] (by rw [eu2]; exact c_X3_reset l (hF.sub (by decide)) hF.2.1 hF.2.2.1 u1.2) mw_X3_reset wd_im_yX3_reset wd_se_yX3_reset wd_ml_RX5_143 (hF.1 9 (by decide)) wk9 rfl rfl (by decide) rfl rfl (Nat.le_of_ble_eq_true rfl) 24 rfl ?_
  refine Viconst dX5_restart_24 (0 : Int32) (by decide) 25 rfl ?_
  refine Vstore_n dX5_restart_25 [(3, .int (0 : Int32)), (2, .int (σ 0 3)), (0, .ref (ad G 0)), (1, .int x1)] 26 rfl (by decide) rfl ?_
  refine Vlv [2, 3, 1, 0] rfl ?_
  exact vl_X5_restart_26 l X hF x1 (σ 0 3)  4 (0 : Int32) u2.2 0 nI_0.symm (Nat.zero_le _) rfl
def f_X5_again (σ : mS)  : Int32 × mS := (ap (fun u1 => (u1.1, u1.2)) (f_X5_restart σ (1 : Int32)))
theorem mw_X5_again : mW yX5_again cX5_again 1 (some .int) 0 := ⟨wd_co_yX5_again, wd_ini_RX5, ⟨by decide, by decide⟩, by decide +kernel, by decide⟩
set_option maxRecDepth 100000 in
set_option maxHeartbeats 4000000 in
theorem c_X5_again (l : Launch) {G : gT} (hF : Full G) (σ : mS)   : Ct l G yX5_again cX5_again 1 (some .int) 3 [.ref (ad G 0)] κI σ (f_X5_again σ) := by
  refine Ct.ofV [(0, .ref (ad G 0))] rfl (by decide) (Nat.le_of_ble_eq_true rfl) rfl (fun X => ?_)
  unfold f_X5_again
  refine Vaload_n dX5_again_0 0 rfl 1 rfl ?_
  refine Viconst dX5_again_1 (1 : Int32) (by decide) 2 rfl ?_
  refine Vgen ?_
  intro u1 eu1
  refine VcVi (u := u1) dX5_again_2 [.int (1 : Int32)] (by rw [eu1]; exact c_X5_restart l hF σ (1 : Int32)) mw_X5_restart wd_im_yX5_restart wd_se_yX5_restart wd_ml_RX5_133 (hF.1 0 (by decide)) wk0 rfl rfl (by decide) rfl rfl (Nat.le_of_ble_eq_true rfl) 5 rfl ?_
  exact Viret dX5_again_5
def f_X5_clear (σ : mS)  : Int32 × mS := (ap (fun u1 => (u1.1, u1.2)) (f_X5_restart σ (0 : Int32)))
theorem mw_X5_clear : mW yX5_clear cX5_clear 1 (some .int) 0 := ⟨wd_co_yX5_clear, wd_ini_RX5, ⟨by decide, by decide⟩, by decide +kernel, by decide⟩
set_option maxRecDepth 100000 in
set_option maxHeartbeats 4000000 in
theorem c_X5_clear (l : Launch) {G : gT} (hF : Full G) (σ : mS)   : Ct l G yX5_clear cX5_clear 1 (some .int) 3 [.ref (ad G 0)] κI σ (f_X5_clear σ) := by
  refine Ct.ofV [(0, .ref (ad G 0))] rfl (by decide) (Nat.le_of_ble_eq_true rfl) rfl (fun X => ?_)
  unfold f_X5_clear
  refine Vaload_n dX5_clear_0 0 rfl 1 rfl ?_
  refine Viconst dX5_clear_1 (0 : Int32) (by decide) 2 rfl ?_
  refine Vgen ?_
  intro u1 eu1
  refine VcVi (u := u1) dX5_clear_2 [.int (0 : Int32)] (by rw [eu1]; exact c_X5_restart l hF σ (0 : Int32)) mw_X5_restart wd_im_yX5_restart wd_se_yX5_restart wd_ml_RX5_133 (hF.1 0 (by decide)) wk0 rfl rfl (by decide) rfl rfl (Nat.le_of_ble_eq_true rfl) 5 rfl ?_
  exact Viret dX5_clear_5
