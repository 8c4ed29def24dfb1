/-! the reference's own invariants: lazy cells name cells; how many writes -/
def Lz (σ : mS) : Prop := ∀ c : Nat, c < 8 → ¬ σ 55 c = 0 → vp_in (σ 54 c) 8
def Wr (σ : mS) (b : Nat) : Prop := ∃ w : Nat, w ≤ b ∧ σ 53 28 = nI w
theorem Wr.mono {σ : mS} {a b : Nat} (h : Wr σ a) (hab : a ≤ b) : Wr σ b := by
  obtain ⟨w, h1, h2⟩ := h
  exact ⟨w, by omega, h2⟩
theorem Wr.o {σ σ' : mS} {b : Nat} (h : Wr σ b) (e : σ' 53 28 = σ 53 28) : Wr σ' b := by
  obtain ⟨w, h1, h2⟩ := h
  exact ⟨w, h1, by rw [e]; exact h2⟩
theorem Lz.o {σ σ' : mS} (h : Lz σ) (e4 : σ' 54 = σ 54) (e5 : σ' 55 = σ 55) : Lz σ' := by
  intro c hc hn
  rw [e5] at hn; rw [e4]; exact h c hc hn
theorem Wr.rem {σ : mS} {b : Nat} (h : Wr σ b) (hb : b < 2 ^ 31) : vp_in (σ 53 28 - σ 53 28 / 30 * 30) 30 := by
  obtain ⟨w, h1, h2⟩ := h
  rw [h2, show (30 : Int32) = nI 30 from rfl, pk_rem (by omega) (by decide) (by decide)]
  exact vp_in_nI (Nat.mod_lt _ (by decide)) (by decide)
/-- how many of the cells are marked as read -/
def cntR (σ : mS) : Nat := ((List.range 8).filter (fun k => decide (¬ σ 56 k = 0))).length
theorem cntR_le (σ : mS) : cntR σ ≤ 8 := by
  unfold cntR
  exact Nat.le_trans (List.length_filter_le _ _) (by simp)
theorem cntR_0 {σ : mS} (h : ∀ k, k < 8 → σ 56 k = 0) : cntR σ = 0 := by
  unfold cntR
  rw [List.length_eq_zero_iff, List.filter_eq_nil_iff]
  intro k hk
  simp [h k (List.mem_range.mp hk)]
theorem cntR_o {σ σ' : mS} (h : σ' 56 = σ 56) : cntR σ' = cntR σ := by unfold cntR; rw [h]
theorem cnt_up (p : Nat → Bool) (j n : Nat) : ((List.range n).filter (fun k => if k = j then true else p k)).length = ((List.range n).filter p).length + (if j < n ∧ p j = false then 1 else 0) := by
  induction n with
  | zero => simp
  | succ n ih =>
    rw [List.range_succ, List.filter_append, List.filter_append, List.length_append, List.length_append, ih]
    by_cases h1 : n = j
    · subst h1
      cases hp : p n <;> simp [hp]
    · have h2 : (j < n + 1 ∧ p j = false) ↔ (j < n ∧ p j = false) := by
        constructor
        · intro ⟨a, b⟩; exact ⟨by omega, b⟩
        · intro ⟨a, b⟩; exact ⟨by omega, b⟩
      simp only [h2]
      cases hp : p n <;> simp [hp, h1] <;> omega
theorem cntR_up {σ : mS} {j : Nat} (hj : j < 8) (h : σ 56 j = 0) : cntR (st2 σ 56 j 1) = cntR σ + 1 := by
  unfold cntR
  have e : (fun k => decide (¬ st2 σ 56 j 1 56 k = 0)) = (fun k => if k = j then true else decide (¬ σ 56 k = 0)) := by
    funext k
    by_cases hk : k = j
    · simp [st2, hk]
    · simp [st2, hk]
  rw [e, cnt_up]
  simp [hj, h]
def f_X6_within (x0 : Int32) (x1 : Int32) (x2 : Int32) : Int32 := (if x0 < x1 then (0 : Int32) else (if x2 < x0 then (0 : Int32) else (1 : Int32)))
theorem mw_X6_within : mW yX6_within cX6_within 3 (some .boolean) 3 := ⟨wd_co_yX6_within, wd_ini_RX6, ⟨by decide, by decide⟩, by decide +kernel, by decide⟩
set_option maxRecDepth 100000 in
set_option maxHeartbeats 4000000 in
theorem c_X6_within (l : Launch) {G : gT} (hF : FullR G) (σ : mS) (x0 : Int32) (x1 : Int32) (x2 : Int32)  : Ct l G yX6_within cX6_within 3 (some .boolean) 0 [.int x0, .int x1, .int x2] κI σ (f_X6_within x0 x1 x2, σ) := by
  refine Ct.ofV [(0, .int x0), (1, .int x1), (2, .int x2)] rfl (by decide) (Nat.le_of_ble_eq_true rfl) rfl (fun X => ?_)
  unfold f_X6_within
  refine Vload_n dX6_within_0 0 rfl 1 rfl ?_
  refine Vload_n dX6_within_1 1 rfl 2 rfl ?_
  refine Viclt (fun v => (v, σ)) dX6_within_2 14 5 (by decide) rfl (fun h1 => ?_) (fun h1 => ?_)
  · refine Viconst dX6_within_14 (0 : Int32) (by decide) 15 rfl ?_
    exact Vzret dX6_within_15 (by first | decide | exact nb_isRegister _ | exact nb_isRow _ | exact nb_isPlace _ | exact nb_within _ _ _ | exact nb_mRegister _ | exact nb_mCell _ | exact nb_mPlace _)
  · refine Vload_n dX6_within_5 0 rfl 6 rfl ?_
    refine Vload_n dX6_within_6 2 rfl 7 rfl ?_
    refine Vicgt (fun v => (v, σ)) dX6_within_7 14 10 (by decide) rfl (fun h2 => ?_) (fun h2 => ?_)
    · refine Viconst dX6_within_14 (0 : Int32) (by decide) 15 rfl ?_
      exact Vzret dX6_within_15 (by first | decide | exact nb_isRegister _ | exact nb_isRow _ | exact nb_isPlace _ | exact nb_within _ _ _ | exact nb_mRegister _ | exact nb_mCell _ | exact nb_mPlace _)
    · refine Viconst dX6_within_10 (1 : Int32) (by decide) 11 rfl ?_
      refine Vgoto dX6_within_11 15 (by decide) ?_
      exact Vzret dX6_within_15 (by first | decide | exact nb_isRegister _ | exact nb_isRow _ | exact nb_isPlace _ | exact nb_within _ _ _ | exact nb_mRegister _ | exact nb_mCell _ | exact nb_mPlace _)
theorem nb_within (v a b : Int32) : narrow .boolean (.int (f_X6_within v a b)) = .int (f_X6_within v a b) := by unfold f_X6_within; (repeat' split) <;> rfl
theorem within_iff {v a b : Int32} : ¬ f_X6_within v a b = 0 ↔ a ≤ v ∧ v ≤ b := by
  unfold f_X6_within
  constructor
  · intro h
    by_cases h1 : v < a
    · rw [if_pos h1] at h; exact absurd rfl h
    · rw [if_neg h1] at h
      by_cases h2 : b < v
      · rw [if_pos h2] at h; exact absurd rfl h
      · rw [i32_lt] at h1 h2; rw [i32_le, i32_le]; omega
  · intro ⟨h1, h2⟩
    rw [if_neg (by rw [i32_lt]; rw [i32_le] at h1; omega), if_neg (by rw [i32_lt]; rw [i32_le] at h2; omega)]
    decide
theorem vin_w {v K : Int32} {n : Nat} (h : ¬ f_X6_within v 0 K = 0) (hK : K.toInt + 1 = (n : Int)) : vp_in v n := by
  obtain ⟨h1, h2⟩ := within_iff.mp h
  rw [i32_le, Int32.toInt_zero] at h1
  rw [i32_le] at h2
  exact vp_in_iff.mpr ⟨h1, by omega⟩
def l_X6_begin_2 : Nat → Int32 → mS → Int32 × mS
  | 0, y1, σ => (y1, σ)
  | n + 1, y1, σ => (if (8 : Int32) ≤ y1 then (y1, σ) else (l_X6_begin_2 n (y1 + 1) (st2 (st2 (st2 σ 54 y1.toNatClampNeg (0 : Int32)) 55 y1.toNatClampNeg (0 : Int32)) 56 y1.toNatClampNeg (0 : Int32))))
set_option maxRecDepth 100000 in
set_option maxHeartbeats 4000000 in
theorem vl_X6_begin_2 (l : Launch) {G : gT} (X : xT) (hI : ∀ q : Nat, q ∈ [53, 54, 55, 56, 57, 59, 65, 66, 67, 68, 69, 70, 71, 73] → q ∈ gI G) (hT0 : (gY G)[0]? = some ((gC G).1, .int)) (hT1 : (gY G)[1]? = some ((gC G).2.1, .boolean))  {B : Int32 × mS → Int32 × mS} : ∀ (n : Nat) (y1 : Int32) (σ : mS) (i : Nat) (hc : y1 = nI i) (hi : i ≤ 8) (hn : n + i = 9) (hk : ∀ u : Int32 × mS, V l G X RX6 cX6_begin 3 0 none κV ((fun v => ap B v) u) u.2 35 [(0, .ref (ad G 53)), (1, .int u.1)] []), V l G X RX6 cX6_begin 3 0 none κV ((fun v => ap B v) (l_X6_begin_2 n y1 σ)) σ 2 [(0, .ref (ad G 53)), (1, .int y1)] [] := by
  intro n
  induction n with
  | zero => intro y1 σ i hc hi hn hk; exact absurd hn (by omega)
  | succ n ih =>
    intro y1 σ i hc hi hn hk
    rw [l_X6_begin_2.eq_2]
    refine Vload_n dX6_begin_2 1 rfl 3 rfl ?_
    refine Vbipush dX6_begin_3 (8 : Int32) (by decide) 5 rfl ?_
    refine Vicge (fun v => ap B v) dX6_begin_5 35 8 (by decide) rfl (fun h1 => ?_) (fun h1 => ?_)
    · refine Vlv [0, 1] rfl ?_
      exact hk (y1, σ) 
    · refine Vaload_n dX6_begin_8 0 rfl 9 rfl ?_
      refine Vget (53) 1 dX6_begin_9 12 rfl (hI 53 (by decide)) wk53 rfl inX6 (by decide) wd_fl_RX6_7 (v := .ref (ad G 54)) rfl ?_
      refine Vload_n dX6_begin_12 1 rfl 13 rfl ?_
      refine Viconst dX6_begin_13 (0 : Int32) (by decide) 14 rfl ?_
      refine Vst dX6_begin_14 15 rfl (hI 54 (by decide)) wk54 wn54 hT0 (by first | exact (by assumption) | exact (vin_cmp2 (by assumption) (by assumption) (by decide)) | exact (vin_cell (by assumption)) | exact (vin_reg (by assumption)) | exact (vin_row (by assumption)) | exact (vin_cnt (by assumption) (by assumption) (by decide) (by decide) (by assumption)) | exact (vin_cmp (by assumption) (by assumption) (by decide)) | exact (vp_in_iff.mpr (by decide)) | exact (vin_mCell (by assumption)) | exact (vin_mRegister (by assumption)) | exact (vin_w (by assumption) (by decide))) ?_
      refine Vaload_n dX6_begin_15 0 rfl 16 rfl ?_
      refine Vget (53) 2 dX6_begin_16 19 rfl (hI 53 (by decide)) wk53 rfl inX6 (by decide) wd_fl_RX6_13 (v := .ref (ad G 55)) rfl ?_
      refine Vload_n dX6_begin_19 1 rfl 20 rfl ?_
      refine Viconst dX6_begin_20 (0 : Int32) (by decide) 21 rfl ?_
      refine Vstz dX6_begin_21 22 rfl (hI 55 (by decide)) wk55 wn55 hT1 (by first | exact (by assumption) | exact (vin_cmp2 (by assumption) (by assumption) (by decide)) | exact (vin_cell (by assumption)) | exact (vin_reg (by assumption)) | exact (vin_row (by assumption)) | exact (vin_cnt (by assumption) (by assumption) (by decide) (by decide) (by assumption)) | exact (vin_cmp (by assumption) (by assumption) (by decide)) | exact (vp_in_iff.mpr (by decide)) | exact (vin_mCell (by assumption)) | exact (vin_mRegister (by assumption)) | exact (vin_w (by assumption) (by decide))) (by decide) ?_
      refine Vaload_n dX6_begin_22 0 rfl 23 rfl ?_
      refine Vget (53) 3 dX6_begin_23 26 rfl (hI 53 (by decide)) wk53 rfl inX6 (by decide) wd_fl_RX6_17 (v := .ref (ad G 56)) rfl ?_
      refine Vload_n dX6_begin_26 1 rfl 27 rfl ?_
      refine Viconst dX6_begin_27 (0 : Int32) (by decide) 28 rfl ?_
      refine Vstz dX6_begin_28 29 rfl (hI 56 (by decide)) wk56 wn56 hT1 (by first | exact (by assumption) | exact (vin_cmp2 (by assumption) (by assumption) (by decide)) | exact (vin_cell (by assumption)) | exact (vin_reg (by assumption)) | exact (vin_row (by assumption)) | exact (vin_cnt (by assumption) (by assumption) (by decide) (by decide) (by assumption)) | exact (vin_cmp (by assumption) (by assumption) (by decide)) | exact (vp_in_iff.mpr (by decide)) | exact (vin_mCell (by assumption)) | exact (vin_mRegister (by assumption)) | exact (vin_w (by assumption) (by decide))) (by decide) ?_
      refine Viinc dX6_begin_29 (y1 + 1) 1 [(1, .int (y1 + 1)), (0, .ref (ad G 53))] 32 rfl rfl rfl (by decide) rfl ?_
      refine Vgoto dX6_begin_32 2 (by decide) ?_
      refine Vlv [1, 0] rfl ?_
      exact ih (y1 + 1) (st2 (st2 (st2 σ 54 y1.toNatClampNeg (0 : Int32)) 55 y1.toNatClampNeg (0 : Int32)) 56 y1.toNatClampNeg (0 : Int32)) (i + 1) (cnt_s hc) (cnt_lt hc (by assumption) (K := 8) (by decide) (by decide) hi) (by omega) hk
def l_X6_begin_37 : Nat → Int32 → mS → Int32 × mS
  | 0, y1, σ => (y1, σ)
  | n + 1, y1, σ => (if (4 : Int32) ≤ y1 then (y1, σ) else (l_X6_begin_37 n (y1 + 1) (st2 (st2 σ 57 y1.toNatClampNeg (-1 : Int32)) 59 y1.toNatClampNeg (0 : Int32))))
set_option maxRecDepth 100000 in
set_option maxHeartbeats 4000000 in
theorem vl_X6_begin_37 (l : Launch) {G : gT} (X : xT) (hI : ∀ q : Nat, q ∈ [53, 54, 55, 56, 57, 59, 65, 66, 67, 68, 69, 70, 71, 73] → q ∈ gI G) (hT0 : (gY G)[0]? = some ((gC G).1, .int)) (hT1 : (gY G)[1]? = some ((gC G).2.1, .boolean))  {B : Int32 × mS → Int32 × mS} : ∀ (n : Nat) (y1 : Int32) (σ : mS) (i : Nat) (hc : y1 = nI i) (hi : i ≤ 4) (hn : n + i = 5) (hk : ∀ u : Int32 × mS, V l G X RX6 cX6_begin 3 0 none κV ((fun v => ap B v) u) u.2 62 [(0, .ref (ad G 53)), (1, .int u.1)] []), V l G X RX6 cX6_begin 3 0 none κV ((fun v => ap B v) (l_X6_begin_37 n y1 σ)) σ 37 [(0, .ref (ad G 53)), (1, .int y1)] [] := by
  intro n
  induction n with
  | zero => intro y1 σ i hc hi hn hk; exact absurd hn (by omega)
  | succ n ih =>
    intro y1 σ i hc hi hn hk
    rw [l_X6_begin_37.eq_2]
    refine Vload_n dX6_begin_37 1 rfl 38 rfl ?_
    refine Viconst dX6_begin_38 (4 : Int32) (by decide) 39 rfl ?_
    refine Vicge (fun v => ap B v) dX6_begin_39 62 42 (by decide) rfl (fun h3 => ?_) (fun h3 => ?_)
    · refine Vlv [0, 1] rfl ?_
      exact hk (y1, σ) 
    · refine Vaload_n dX6_begin_42 0 rfl 43 rfl ?_
      refine Vget (53) 4 dX6_begin_43 46 rfl (hI 53 (by decide)) wk53 rfl inX6 (by decide) wd_fl_RX6_20 (v := .ref (ad G 57)) rfl ?_
      refine Vload_n dX6_begin_46 1 rfl 47 rfl ?_
      refine Viconst dX6_begin_47 (-1 : Int32) (by decide) 48 rfl ?_
      refine Vst dX6_begin_48 49 rfl (hI 57 (by decide)) wk57 wn57 hT0 (by first | exact (by assumption) | exact (vin_cmp2 (by assumption) (by assumption) (by decide)) | exact (vin_cell (by assumption)) | exact (vin_reg (by assumption)) | exact (vin_row (by assumption)) | exact (vin_cnt (by assumption) (by assumption) (by decide) (by decide) (by assumption)) | exact (vin_cmp (by assumption) (by assumption) (by decide)) | exact (vp_in_iff.mpr (by decide)) | exact (vin_mCell (by assumption)) | exact (vin_mRegister (by assumption)) | exact (vin_w (by assumption) (by decide))) ?_
      refine Vaload_n dX6_begin_49 0 rfl 50 rfl ?_
      refine Vget (53) 6 dX6_begin_50 53 rfl (hI 53 (by decide)) wk53 rfl inX6 (by decide) wd_fl_RX6_26 (v := .ref (ad G 59)) rfl ?_
      refine Vload_n dX6_begin_53 1 rfl 54 rfl ?_
      refine Viconst dX6_begin_54 (0 : Int32) (by decide) 55 rfl ?_
      refine Vstz dX6_begin_55 56 rfl (hI 59 (by decide)) wk59 wn59 hT1 (by first | exact (by assumption) | exact (vin_cmp2 (by assumption) (by assumption) (by decide)) | exact (vin_cell (by assumption)) | exact (vin_reg (by assumption)) | exact (vin_row (by assumption)) | exact (vin_cnt (by assumption) (by assumption) (by decide) (by decide) (by assumption)) | exact (vin_cmp (by assumption) (by assumption) (by decide)) | exact (vp_in_iff.mpr (by decide)) | exact (vin_mCell (by assumption)) | exact (vin_mRegister (by assumption)) | exact (vin_w (by assumption) (by decide))) (by decide) ?_
      refine Viinc dX6_begin_56 (y1 + 1) 1 [(1, .int (y1 + 1)), (0, .ref (ad G 53))] 59 rfl rfl rfl (by decide) rfl ?_
      refine Vgoto dX6_begin_59 37 (by decide) ?_
      refine Vlv [1, 0] rfl ?_
      exact ih (y1 + 1) (st2 (st2 σ 57 y1.toNatClampNeg (-1 : Int32)) 59 y1.toNatClampNeg (0 : Int32)) (i + 1) (cnt_s hc) (cnt_lt hc (by assumption) (K := 4) (by decide) (by decide) hi) (by omega) hk
def l_X6_begin_120 : Nat → Int32 → mS → Int32 → Int32 × mS
  | 0, y2, σ, _ => (y2, σ)
  | n + 1, y2, σ, p1 => (if (4 : Int32) ≤ y2 then (y2, σ) else (l_X6_begin_120 n (y2 + 1) (st2 σ 65 (((4 : Int32) * p1) + y2).toNatClampNeg (0 : Int32)) p1))
set_option maxRecDepth 100000 in
set_option maxHeartbeats 4000000 in
theorem vl_X6_begin_120 (l : Launch) {G : gT} (X : xT) (hI : ∀ q : Nat, q ∈ [53, 54, 55, 56, 57, 59, 65, 66, 67, 68, 69, 70, 71, 73] → q ∈ gI G) (hT0 : (gY G)[0]? = some ((gC G).1, .int)) (hT1 : (gY G)[1]? = some ((gC G).2.1, .boolean)) (p1 : Int32) (hp1 : vp_in p1 3) {B : Int32 × mS → Int32 × mS} : ∀ (n : Nat) (y2 : Int32) (σ : mS) (i : Nat) (hc : y2 = nI i) (hi : i ≤ 4) (hn : n + i = 5) (hk : ∀ u : Int32 × mS, V l G X RX6 cX6_begin 3 0 none κV ((fun v => ap B v) u) u.2 142 [(0, .ref (ad G 53)), (1, .int p1), (2, .int u.1)] []), V l G X RX6 cX6_begin 3 0 none κV ((fun v => ap B v) (l_X6_begin_120 n y2 σ p1)) σ 120 [(0, .ref (ad G 53)), (1, .int p1), (2, .int y2)] [] := by
  intro n
  induction n with
  | zero => intro y2 σ i hc hi hn hk; exact absurd hn (by omega)
  | succ n ih =>
    intro y2 σ i hc hi hn hk
    rw [l_X6_begin_120.eq_2]
    refine Vload_n dX6_begin_120 2 rfl 121 rfl ?_
    refine Viconst dX6_begin_121 (4 : Int32) (by decide) 122 rfl ?_
    refine Vicge (fun v => ap B v) dX6_begin_122 142 125 (by decide) rfl (fun h6 => ?_) (fun h6 => ?_)
    · refine Vlv [0, 1, 2] rfl ?_
      exact hk (y2, σ) 
    · refine Vaload_n dX6_begin_125 0 rfl 126 rfl ?_
      refine Vget (53) 12 dX6_begin_126 129 rfl (hI 53 (by decide)) wk53 rfl inX6 (by decide) wd_fl_RX6_44 (v := .ref (ad G 65)) rfl ?_
      refine Viconst dX6_begin_129 (4 : Int32) (by decide) 130 rfl ?_
      refine Vload_n dX6_begin_130 1 rfl 131 rfl ?_
      refine Vimul dX6_begin_131 132 rfl ?_
      refine Vload_n dX6_begin_132 2 rfl 133 rfl ?_
      refine Viadd dX6_begin_133 134 rfl ?_
      refine Viconst dX6_begin_134 (0 : Int32) (by decide) 135 rfl ?_
      refine Vst dX6_begin_135 136 rfl (hI 65 (by decide)) wk65 wn65 hT0 (by first | exact (vmul 4 3 (by decide) (by assumption) (by assumption) (by decide)) | exact (vmul 4 3 (by decide) (vin_w (by assumption) (by decide)) (by assumption) (by decide)) | exact (vmul 4 3 (by decide) (by assumption) (vin_cnt (by assumption) (by assumption) (by decide) (by decide) (by assumption)) (by decide)) | exact (vmul 4 3 (by decide) (vin_w (by assumption) (by decide)) (vin_cnt (by assumption) (by assumption) (by decide) (by decide) (by assumption)) (by decide)) | exact (vmul 4 3 (by decide) (by assumption) (vin_mRegister (by assumption)) (by decide)) | exact (vmul 4 3 (by decide) (vin_w (by assumption) (by decide)) (vin_mRegister (by assumption)) (by decide))) ?_
      refine Viinc dX6_begin_136 (y2 + 1) 2 [(2, .int (y2 + 1)), (0, .ref (ad G 53)), (1, .int p1)] 139 rfl rfl rfl (by decide) rfl ?_
      refine Vgoto dX6_begin_139 120 (by decide) ?_
      refine Vlv [1, 2, 0] rfl ?_
      exact ih (y2 + 1) (st2 σ 65 (((4 : Int32) * p1) + y2).toNatClampNeg (0 : Int32)) (i + 1) (cnt_s hc) (cnt_lt hc (by assumption) (K := 4) (by decide) (by decide) hi) (by omega) hk
def l_X6_begin_64 : Nat → Int32 → mS → Int32 × mS
  | 0, y1, σ => (y1, σ)
  | n + 1, y1, σ => (if (3 : Int32) ≤ y1 then (y1, σ) else (ap (fun u7 => (l_X6_begin_64 n (y1 + 1) u7.2)) (l_X6_begin_120 5 (0 : Int32) (st2 (st2 (st2 (st2 (st2 (st2 (st2 σ 66 y1.toNatClampNeg (0 : Int32)) 67 y1.toNatClampNeg (0 : Int32)) 68 y1.toNatClampNeg (0 : Int32)) 69 y1.toNatClampNeg (0 : Int32)) 70 y1.toNatClampNeg (0 : Int32)) 71 y1.toNatClampNeg (0 : Int32)) 73 y1.toNatClampNeg (0 : Int32)) y1)))
set_option maxRecDepth 100000 in
set_option maxHeartbeats 4000000 in
theorem vl_X6_begin_64 (l : Launch) {G : gT} (X : xT) (hI : ∀ q : Nat, q ∈ [53, 54, 55, 56, 57, 59, 65, 66, 67, 68, 69, 70, 71, 73] → q ∈ gI G) (hT0 : (gY G)[0]? = some ((gC G).1, .int)) (hT1 : (gY G)[1]? = some ((gC G).2.1, .boolean))  {B : Int32 × mS → Int32 × mS} : ∀ (n : Nat) (y1 : Int32) (σ : mS) (i : Nat) (hc : y1 = nI i) (hi : i ≤ 3) (hn : n + i = 4) (hk : ∀ u : Int32 × mS, V l G X RX6 cX6_begin 3 0 none κV ((fun v => ap B v) u) u.2 148 [(0, .ref (ad G 53)), (1, .int u.1)] []), V l G X RX6 cX6_begin 3 0 none κV ((fun v => ap B v) (l_X6_begin_64 n y1 σ)) σ 64 [(0, .ref (ad G 53)), (1, .int y1)] [] := by
  intro n
  induction n with
  | zero => intro y1 σ i hc hi hn hk; exact absurd hn (by omega)
  | succ n ih =>
    intro y1 σ i hc hi hn hk
    rw [l_X6_begin_64.eq_2]
    refine Vload_n dX6_begin_64 1 rfl 65 rfl ?_
    refine Viconst dX6_begin_65 (3 : Int32) (by decide) 66 rfl ?_
    refine Vicge (fun v => ap B v) dX6_begin_66 148 69 (by decide) rfl (fun h5 => ?_) (fun h5 => ?_)
    · refine Vlv [0, 1] rfl ?_
      exact hk (y1, σ) 
    · refine Vaload_n dX6_begin_69 0 rfl 70 rfl ?_
      refine Vget (53) 13 dX6_begin_70 73 rfl (hI 53 (by decide)) wk53 rfl inX6 (by decide) wd_fl_RX6_47 (v := .ref (ad G 66)) rfl ?_
      refine Vload_n dX6_begin_73 1 rfl 74 rfl ?_
      refine Viconst dX6_begin_74 (0 : Int32) (by decide) 75 rfl ?_
      refine Vst dX6_begin_75 76 rfl (hI 66 (by decide)) wk66 wn66 hT0 (by first | exact (by assumption) | exact (vin_cmp2 (by assumption) (by assumption) (by decide)) | exact (vin_cell (by assumption)) | exact (vin_reg (by assumption)) | exact (vin_row (by assumption)) | exact (vin_cnt (by assumption) (by assumption) (by decide) (by decide) (by assumption)) | exact (vin_cmp (by assumption) (by assumption) (by decide)) | exact (vp_in_iff.mpr (by decide)) | exact (vin_mCell (by assumption)) | exact (vin_mRegister (by assumption)) | exact (vin_w (by assumption) (by decide))) ?_
      refine Vaload_n dX6_begin_76 0 rfl 77 rfl ?_
      refine Vget (53) 14 dX6_begin_77 80 rfl (hI 53 (by decide)) wk53 rfl inX6 (by decide) wd_fl_RX6_50 (v := .ref (ad G 67)) rfl ?_
      refine Vload_n dX6_begin_80 1 rfl 81 rfl ?_
      refine Viconst dX6_begin_81 (0 : Int32) (by decide) 82 rfl ?_
      refine Vst dX6_begin_82 83 rfl (hI 67 (by decide)) wk67 wn67 hT0 (by first | exact (by assumption) | exact (vin_cmp2 (by assumption) (by assumption) (by decide)) | exact (vin_cell (by assumption)) | exact (vin_reg (by assumption)) | exact (vin_row (by assumption)) | exact (vin_cnt (by assumption) (by assumption) (by decide) (by decide) (by assumption)) | exact (vin_cmp (by assumption) (by assumption) (by decide)) | exact (vp_in_iff.mpr (by decide)) | exact (vin_mCell (by assumption)) | exact (vin_mRegister (by assumption)) | exact (vin_w (by assumption) (by decide))) ?_
      refine Vaload_n dX6_begin_83 0 rfl 84 rfl ?_
      refine Vget (53) 15 dX6_begin_84 87 rfl (hI 53 (by decide)) wk53 rfl inX6 (by decide) wd_fl_RX6_53 (v := .ref (ad G 68)) rfl ?_
      refine Vload_n dX6_begin_87 1 rfl 88 rfl ?_
      refine Viconst dX6_begin_88 (0 : Int32) (by decide) 89 rfl ?_
      refine Vstz dX6_begin_89 90 rfl (hI 68 (by decide)) wk68 wn68 hT1 (by first | exact (by assumption) | exact (vin_cmp2 (by assumption) (by assumption) (by decide)) | exact (vin_cell (by assumption)) | exact (vin_reg (by assumption)) | exact (vin_row (by assumption)) | exact (vin_cnt (by assumption) (by assumption) (by decide) (by decide) (by assumption)) | exact (vin_cmp (by assumption) (by assumption) (by decide)) | exact (vp_in_iff.mpr (by decide)) | exact (vin_mCell (by assumption)) | exact (vin_mRegister (by assumption)) | exact (vin_w (by assumption) (by decide))) (by decide) ?_
      refine Vaload_n dX6_begin_90 0 rfl 91 rfl ?_
      refine Vget (53) 16 dX6_begin_91 94 rfl (hI 53 (by decide)) wk53 rfl inX6 (by decide) wd_fl_RX6_56 (v := .ref (ad G 69)) rfl ?_
      refine Vload_n dX6_begin_94 1 rfl 95 rfl ?_
      refine Viconst dX6_begin_95 (0 : Int32) (by decide) 96 rfl ?_
      refine Vst dX6_begin_96 97 rfl (hI 69 (by decide)) wk69 wn69 hT0 (by first | exact (by assumption) | exact (vin_cmp2 (by assumption) (by assumption) (by decide)) | exact (vin_cell (by assumption)) | exact (vin_reg (by assumption)) | exact (vin_row (by assumption)) | exact (vin_cnt (by assumption) (by assumption) (by decide) (by decide) (by assumption)) | exact (vin_cmp (by assumption) (by assumption) (by decide)) | exact (vp_in_iff.mpr (by decide)) | exact (vin_mCell (by assumption)) | exact (vin_mRegister (by assumption)) | exact (vin_w (by assumption) (by decide))) ?_
      refine Vaload_n dX6_begin_97 0 rfl 98 rfl ?_
      refine Vget (53) 17 dX6_begin_98 101 rfl (hI 53 (by decide)) wk53 rfl inX6 (by decide) wd_fl_RX6_59 (v := .ref (ad G 70)) rfl ?_
      refine Vload_n dX6_begin_101 1 rfl 102 rfl ?_
      refine Viconst dX6_begin_102 (0 : Int32) (by decide) 103 rfl ?_
      refine Vst dX6_begin_103 104 rfl (hI 70 (by decide)) wk70 wn70 hT0 (by first | exact (by assumption) | exact (vin_cmp2 (by assumption) (by assumption) (by decide)) | exact (vin_cell (by assumption)) | exact (vin_reg (by assumption)) | exact (vin_row (by assumption)) | exact (vin_cnt (by assumption) (by assumption) (by decide) (by decide) (by assumption)) | exact (vin_cmp (by assumption) (by assumption) (by decide)) | exact (vp_in_iff.mpr (by decide)) | exact (vin_mCell (by assumption)) | exact (vin_mRegister (by assumption)) | exact (vin_w (by assumption) (by decide))) ?_
      refine Vaload_n dX6_begin_104 0 rfl 105 rfl ?_
      refine Vget (53) 18 dX6_begin_105 108 rfl (hI 53 (by decide)) wk53 rfl inX6 (by decide) wd_fl_RX6_62 (v := .ref (ad G 71)) rfl ?_
      refine Vload_n dX6_begin_108 1 rfl 109 rfl ?_
      refine Viconst dX6_begin_109 (0 : Int32) (by decide) 110 rfl ?_
      refine Vst dX6_begin_110 111 rfl (hI 71 (by decide)) wk71 wn71 hT0 (by first | exact (by assumption) | exact (vin_cmp2 (by assumption) (by assumption) (by decide)) | exact (vin_cell (by assumption)) | exact (vin_reg (by assumption)) | exact (vin_row (by assumption)) | exact (vin_cnt (by assumption) (by assumption) (by decide) (by decide) (by assumption)) | exact (vin_cmp (by assumption) (by assumption) (by decide)) | exact (vp_in_iff.mpr (by decide)) | exact (vin_mCell (by assumption)) | exact (vin_mRegister (by assumption)) | exact (vin_w (by assumption) (by decide))) ?_
      refine Vaload_n dX6_begin_111 0 rfl 112 rfl ?_
      refine Vget (53) 20 dX6_begin_112 115 rfl (hI 53 (by decide)) wk53 rfl inX6 (by decide) wd_fl_RX6_68 (v := .ref (ad G 73)) rfl ?_
      refine Vload_n dX6_begin_115 1 rfl 116 rfl ?_
      refine Viconst dX6_begin_116 (0 : Int32) (by decide) 117 rfl ?_
      refine Vstz dX6_begin_117 118 rfl (hI 73 (by decide)) wk73 wn73 hT1 (by first | exact (by assumption) | exact (vin_cmp2 (by assumption) (by assumption) (by decide)) | exact (vin_cell (by assumption)) | exact (vin_reg (by assumption)) | exact (vin_row (by assumption)) | exact (vin_cnt (by assumption) (by assumption) (by decide) (by decide) (by assumption)) | exact (vin_cmp (by assumption) (by assumption) (by decide)) | exact (vp_in_iff.mpr (by decide)) | exact (vin_mCell (by assumption)) | exact (vin_mRegister (by assumption)) | exact (vin_w (by assumption) (by decide))) (by decide) ?_
      refine Viconst dX6_begin_118 (0 : Int32) (by decide) 119 rfl ?_
      refine Vstore_n dX6_begin_119 [(2, .int (0 : Int32)), (0, .ref (ad G 53)), (1, .int y1)] 120 rfl (by decide) rfl ?_
      refine Vlv [1, 2, 0] rfl ?_
      refine Vaa ?_
      refine vl_X6_begin_120 l X hI hT0 hT1 y1  (vin_cnt hc (by assumption) (by decide) (by decide) hi) 5 (0 : Int32) (st2 (st2 (st2 (st2 (st2 (st2 (st2 σ 66 y1.toNatClampNeg (0 : Int32)) 67 y1.toNatClampNeg (0 : Int32)) 68 y1.toNatClampNeg (0 : Int32)) 69 y1.toNatClampNeg (0 : Int32)) 70 y1.toNatClampNeg (0 : Int32)) 71 y1.toNatClampNeg (0 : Int32)) 73 y1.toNatClampNeg (0 : Int32)) 0 nI_0.symm (Nat.zero_le _) rfl ?_
      intro u7
      refine Vap ?_
      refine Viinc dX6_begin_142 (y1 + 1) 1 [(1, .int (y1 + 1)), (0, .ref (ad G 53)), (2, .int u7.1)] 145 rfl rfl rfl (by decide) rfl ?_
      refine Vgoto dX6_begin_145 64 (by decide) ?_
      refine Vlv [1, 0] rfl ?_
      exact ih (y1 + 1) u7.2 (i + 1) (cnt_s hc) (cnt_lt hc (by assumption) (K := 3) (by decide) (by decide) hi) (by omega) hk
def f_X6_begin (σ : mS)  : Int32 × mS := (ap (fun u2 => (ap (fun u4 => (ap (fun u8 => (0, (st2 u8.2 53 28 (0 : Int32)))) (l_X6_begin_64 4 (0 : Int32) u4.2))) (l_X6_begin_37 5 (0 : Int32) u2.2))) (l_X6_begin_2 9 (0 : Int32) σ))
theorem mw_X6_begin : mW yX6_begin cX6_begin 3 none 0 := ⟨wd_co_yX6_begin, wd_ini_RX6, ⟨by decide, by decide⟩, by decide +kernel, by decide⟩
set_option maxRecDepth 100000 in
set_option maxHeartbeats 4000000 in
theorem c_X6_begin (l : Launch) {G : gT} (hI : ∀ q : Nat, q ∈ [53, 54, 55, 56, 57, 59, 65, 66, 67, 68, 69, 70, 71, 73] → q ∈ gI G) (hT0 : (gY G)[0]? = some ((gC G).1, .int)) (hT1 : (gY G)[1]? = some ((gC G).2.1, .boolean)) (σ : mS)   : Ct l G yX6_begin cX6_begin 3 none 0 [.ref (ad G 53)] κV σ (f_X6_begin σ) := by
  refine Ct.ofV [(0, .ref (ad G 53))] rfl (by decide) (Nat.le_of_ble_eq_true rfl) rfl (fun X => ?_)
  unfold f_X6_begin
  refine Viconst dX6_begin_0 (0 : Int32) (by decide) 1 rfl ?_
  refine Vstore_n dX6_begin_1 [(1, .int (0 : Int32)), (0, .ref (ad G 53))] 2 rfl (by decide) rfl ?_
  refine Vlv [1, 0] rfl ?_
  refine vl_X6_begin_2 l X hI hT0 hT1  9 (0 : Int32) σ 0 nI_0.symm (Nat.zero_le _) rfl ?_
  intro u2
  refine Vap ?_
  refine Viconst dX6_begin_35 (0 : Int32) (by decide) 36 rfl ?_
  refine Vstore_n dX6_begin_36 [(1, .int (0 : Int32)), (0, .ref (ad G 53))] 37 rfl (by decide) rfl ?_
  refine Vlv [1, 0] rfl ?_
  refine vl_X6_begin_37 l X hI hT0 hT1  5 (0 : Int32) u2.2 0 nI_0.symm (Nat.zero_le _) rfl ?_
  intro u4
  refine Vap ?_
  refine Viconst dX6_begin_62 (0 : Int32) (by decide) 63 rfl ?_
  refine Vstore_n dX6_begin_63 [(1, .int (0 : Int32)), (0, .ref (ad G 53))] 64 rfl (by decide) rfl ?_
  refine Vlv [1, 0] rfl ?_
  refine vl_X6_begin_64 l X hI hT0 hT1  4 (0 : Int32) u4.2 0 nI_0.symm (Nat.zero_le _) rfl ?_
  intro u8
  refine Vap ?_
  refine Vaload_n dX6_begin_148 0 rfl 149 rfl ?_
  refine Viconst dX6_begin_149 (0 : Int32) (by decide) 150 rfl ?_
  refine Vput (53) 28 tyX6 dX6_begin_150 153 rfl (hI 53 (by decide)) wk53 rfl inX6 tyX6_ok nmX6 (by decide) wd_fl_RX6_107 rfl (ty := .int) (by decide +kernel) rfl rfl (fun f => rfl) (fun f => Nat.le_of_ble_eq_true rfl) ?_
  exact Vvret dX6_begin_153
def f_X6_isRegister (x0 : Int32) : Int32 := (f_X6_within x0 (0 : Int32) (3 : Int32))
theorem mw_X6_isRegister : mW yX6_isRegister cX6_isRegister 1 (some .boolean) 1 := ⟨wd_co_yX6_isRegister, wd_ini_RX6, ⟨by decide, by decide⟩, by decide +kernel, by decide⟩
set_option maxRecDepth 100000 in
set_option maxHeartbeats 4000000 in
theorem c_X6_isRegister (l : Launch) {G : gT} (hF : FullR G) (σ : mS) (x0 : Int32)  : Ct l G yX6_isRegister cX6_isRegister 1 (some .boolean) 1 [.int x0] κI σ (f_X6_isRegister x0, σ) := by
  refine Ct.ofV [(0, .int x0)] rfl (by decide) (Nat.le_of_ble_eq_true rfl) rfl (fun X => ?_)
  unfold f_X6_isRegister
  refine Vload_n dX6_isRegister_0 0 rfl 1 rfl ?_
  refine Viconst dX6_isRegister_1 (0 : Int32) (by decide) 2 rfl ?_
  refine Viconst dX6_isRegister_2 (3 : Int32) (by decide) 3 rfl ?_
  refine VcSp dX6_isRegister_3 [.int x0, .int (0 : Int32), .int (3 : Int32)] (c_X6_within l hF σ x0 (0 : Int32) (3 : Int32)) mw_X6_within wd_sm_yX6_within wd_ml_RX6_111 (by decide) rfl rfl (Nat.le_of_ble_eq_true rfl) 6 rfl ?_
  exact Vzret dX6_isRegister_6 (by first | decide | exact nb_isRegister _ | exact nb_isRow _ | exact nb_isPlace _ | exact nb_within _ _ _ | exact nb_mRegister _ | exact nb_mCell _ | exact nb_mPlace _)
theorem nb_mRegister (x : Int32) : narrow .boolean (.int (f_X6_isRegister x)) = .int (f_X6_isRegister x) := nb_within _ _ _
theorem vin_mRegister {x : Int32} (h : ¬ f_X6_isRegister x = 0) : vp_in x 4 := vin_w h (by decide)
def f_X6_isCell (x0 : Int32) : Int32 := (f_X6_within x0 (0 : Int32) (7 : Int32))
theorem mw_X6_isCell : mW yX6_isCell cX6_isCell 1 (some .boolean) 1 := ⟨wd_co_yX6_isCell, wd_ini_RX6, ⟨by decide, by decide⟩, by decide +kernel, by decide⟩
set_option maxRecDepth 100000 in
set_option maxHeartbeats 4000000 in
theorem c_X6_isCell (l : Launch) {G : gT} (hF : FullR G) (σ : mS) (x0 : Int32)  : Ct l G yX6_isCell cX6_isCell 1 (some .boolean) 1 [.int x0] κI σ (f_X6_isCell x0, σ) := by
  refine Ct.ofV [(0, .int x0)] rfl (by decide) (Nat.le_of_ble_eq_true rfl) rfl (fun X => ?_)
  unfold f_X6_isCell
  refine Vload_n dX6_isCell_0 0 rfl 1 rfl ?_
  refine Viconst dX6_isCell_1 (0 : Int32) (by decide) 2 rfl ?_
  refine Vbipush dX6_isCell_2 (7 : Int32) (by decide) 4 rfl ?_
  refine VcSp dX6_isCell_4 [.int x0, .int (0 : Int32), .int (7 : Int32)] (c_X6_within l hF σ x0 (0 : Int32) (7 : Int32)) mw_X6_within wd_sm_yX6_within wd_ml_RX6_111 (by decide) rfl rfl (Nat.le_of_ble_eq_true rfl) 7 rfl ?_
  exact Vzret dX6_isCell_7 (by first | decide | exact nb_isRegister _ | exact nb_isRow _ | exact nb_isPlace _ | exact nb_within _ _ _ | exact nb_mRegister _ | exact nb_mCell _ | exact nb_mPlace _)
theorem nb_mCell (x : Int32) : narrow .boolean (.int (f_X6_isCell x)) = .int (f_X6_isCell x) := nb_within _ _ _
theorem vin_mCell {x : Int32} (h : ¬ f_X6_isCell x = 0) : vp_in x 8 := vin_w h (by decide)
def f_X6_isPlaceIn (x0 : Int32) : Int32 := (f_X6_within x0 (0 : Int32) (24 : Int32))
theorem mw_X6_isPlaceIn : mW yX6_isPlaceIn cX6_isPlaceIn 1 (some .boolean) 1 := ⟨wd_co_yX6_isPlaceIn, wd_ini_RX6, ⟨by decide, by decide⟩, by decide +kernel, by decide⟩
set_option maxRecDepth 100000 in
set_option maxHeartbeats 4000000 in
theorem c_X6_isPlaceIn (l : Launch) {G : gT} (hF : FullR G) (σ : mS) (x0 : Int32)  : Ct l G yX6_isPlaceIn cX6_isPlaceIn 1 (some .boolean) 1 [.int x0] κI σ (f_X6_isPlaceIn x0, σ) := by
  refine Ct.ofV [(0, .int x0)] rfl (by decide) (Nat.le_of_ble_eq_true rfl) rfl (fun X => ?_)
  unfold f_X6_isPlaceIn
  refine Vload_n dX6_isPlaceIn_0 0 rfl 1 rfl ?_
  refine Viconst dX6_isPlaceIn_1 (0 : Int32) (by decide) 2 rfl ?_
  refine Vbipush dX6_isPlaceIn_2 (24 : Int32) (by decide) 4 rfl ?_
  refine VcSp dX6_isPlaceIn_4 [.int x0, .int (0 : Int32), .int (24 : Int32)] (c_X6_within l hF σ x0 (0 : Int32) (24 : Int32)) mw_X6_within wd_sm_yX6_within wd_ml_RX6_111 (by decide) rfl rfl (Nat.le_of_ble_eq_true rfl) 7 rfl ?_
  exact Vzret dX6_isPlaceIn_7 (by first | decide | exact nb_isRegister _ | exact nb_isRow _ | exact nb_isPlace _ | exact nb_within _ _ _ | exact nb_mRegister _ | exact nb_mCell _ | exact nb_mPlace _)
theorem nb_mPlace (x : Int32) : narrow .boolean (.int (f_X6_isPlaceIn x)) = .int (f_X6_isPlaceIn x) := nb_within _ _ _
theorem vin_mPlace {x : Int32} (h : ¬ f_X6_isPlaceIn x = 0) : vp_in x 25 := vin_w h (by decide)
def f_X6_fits (x0 : Int32) (x1 : Int32) (x2 : Int32) (x3 : Int32) : Int32 := (if x0 = (0 : Int32) then (f_X6_isRegister x1) else (if x0 = (1 : Int32) then (if (f_X6_isRegister x1) = 0 then (0 : Int32) else (if (f_X6_isCell x2) = 0 then (0 : Int32) else (1 : Int32))) else (if x0 = (2 : Int32) then (if (f_X6_isCell x1) = 0 then (0 : Int32) else (if (f_X6_isRegister x2) = 0 then (0 : Int32) else (1 : Int32))) else (if x0 = (3 : Int32) then (if (f_X6_isRegister x1) = 0 then (0 : Int32) else (if (f_X6_isRegister x2) = 0 then (0 : Int32) else (if (f_X6_isRegister x3) = 0 then (0 : Int32) else (1 : Int32)))) else (if x0 = (4 : Int32) then (if (f_X6_isRegister x1) = 0 then (0 : Int32) else (if (f_X6_isRegister x2) = 0 then (0 : Int32) else (if (f_X6_isRegister x3) = 0 then (0 : Int32) else (1 : Int32)))) else (if x0 = (5 : Int32) then (if (f_X6_isRegister x1) = 0 then (0 : Int32) else (if (f_X6_isRegister x2) = 0 then (0 : Int32) else (if (f_X6_isRegister x3) = 0 then (0 : Int32) else (1 : Int32)))) else (if x0 = (6 : Int32) then (if (f_X6_isRegister x1) = 0 then (0 : Int32) else (if (f_X6_isRegister x2) = 0 then (0 : Int32) else (if (f_X6_isRegister x3) = 0 then (0 : Int32) else (1 : Int32)))) else (if x0 = (7 : Int32) then (if (f_X6_isRegister x1) = 0 then (0 : Int32) else (if (f_X6_isRegister x2) = 0 then (0 : Int32) else (if (f_X6_isRegister x3) = 0 then (0 : Int32) else (1 : Int32)))) else (if x0 = (8 : Int32) then (if (f_X6_isRegister x1) = 0 then (0 : Int32) else (if (f_X6_isRegister x2) = 0 then (0 : Int32) else (if (f_X6_isRegister x3) = 0 then (0 : Int32) else (1 : Int32)))) else (if x0 = (9 : Int32) then (if (f_X6_isCell x1) = 0 then (0 : Int32) else (if (f_X6_isRegister x2) = 0 then (0 : Int32) else (if (f_X6_isRegister x3) = 0 then (0 : Int32) else (1 : Int32)))) else (if x0 = (10 : Int32) then (f_X6_isPlaceIn x1) else (if x0 = (11 : Int32) then (if (f_X6_isRegister x1) = 0 then (0 : Int32) else (if (f_X6_isPlaceIn x2) = 0 then (0 : Int32) else (1 : Int32))) else (if x0 = (14 : Int32) then (f_X6_isPlaceIn x1) else (if x0 = (16 : Int32) then (f_X6_isRegister x1) else (if x0 = (17 : Int32) then (if (f_X6_within x1 (0 : Int32) (3 : Int32)) = 0 then (0 : Int32) else (if (f_X6_isRegister x2) = 0 then (0 : Int32) else (1 : Int32))) else (if x0 = (18 : Int32) then (f_X6_within x1 (0 : Int32) (3 : Int32)) else (if x0 = (19 : Int32) then (if (f_X6_isCell x1) = 0 then (0 : Int32) else (if (f_X6_isCell x2) = 0 then (0 : Int32) else (1 : Int32))) else (f_X6_within x0 (12 : Int32) (15 : Int32)))))))))))))))))))
theorem mw_X6_fits : mW yX6_fits cX6_fits 4 (some .boolean) 4 := ⟨wd_co_yX6_fits, wd_ini_RX6, ⟨by decide, by decide⟩, by decide +kernel, by decide⟩
set_option maxRecDepth 100000 in
set_option maxHeartbeats 4000000 in
theorem c_X6_fits (l : Launch) {G : gT} (hF : FullR G) (σ : mS) (x0 : Int32) (x1 : Int32) (x2 : Int32) (x3 : Int32)  : Ct l G yX6_fits cX6_fits 4 (some .boolean) 2 [.int x0, .int x1, .int x2, .int x3] κI σ (f_X6_fits x0 x1 x2 x3, σ) := by
  refine Ct.ofV [(0, .int x0), (1, .int x1), (2, .int x2), (3, .int x3)] rfl (by decide) (Nat.le_of_ble_eq_true rfl) rfl (fun X => ?_)
  unfold f_X6_fits
  refine Vload_n dX6_fits_0 0 rfl 1 rfl ?_
  refine Vif (fun v => (v, σ)) (fun h1 => ?_) (fun h1 => ?_)
  · refine Vswin dX6_fits_1 96 (by rw [h1]; decide) (by rw [h1]; decide) (off := 95) (by rw [h1]; rfl) (by decide) ?_
    refine Vload_n dX6_fits_96 1 rfl 97 rfl ?_
    refine VcSp dX6_fits_97 [.int x1] (c_X6_isRegister l hF σ x1) mw_X6_isRegister wd_sm_yX6_isRegister wd_ml_RX6_115 (by decide) rfl rfl (Nat.le_of_ble_eq_true rfl) 100 rfl ?_
    exact Vzret dX6_fits_100 (by first | decide | exact nb_isRegister _ | exact nb_isRow _ | exact nb_isPlace _ | exact nb_within _ _ _ | exact nb_mRegister _ | exact nb_mCell _ | exact nb_mPlace _)
  refine Vif (fun v => (v, σ)) (fun h2 => ?_) (fun h2 => ?_)
  · refine Vswin dX6_fits_1 101 (by rw [h2]; decide) (by rw [h2]; decide) (off := 100) (by rw [h2]; rfl) (by decide) ?_
    refine Vload_n dX6_fits_101 1 rfl 102 rfl ?_
    refine VcSp dX6_fits_102 [.int x1] (c_X6_isRegister l hF σ x1) mw_X6_isRegister wd_sm_yX6_isRegister wd_ml_RX6_115 (by decide) rfl rfl (Nat.le_of_ble_eq_true rfl) 105 rfl ?_
    refine Vifeq (fun v => (v, σ)) dX6_fits_105 119 108 (by decide) rfl (fun h3 => ?_) (fun h3 => ?_)
    · refine Viconst dX6_fits_119 (0 : Int32) (by decide) 120 rfl ?_
      exact Vzret dX6_fits_120 (by first | decide | exact nb_isRegister _ | exact nb_isRow _ | exact nb_isPlace _ | exact nb_within _ _ _ | exact nb_mRegister _ | exact nb_mCell _ | exact nb_mPlace _)
    · refine Vload_n dX6_fits_108 2 rfl 109 rfl ?_
      refine VcSp dX6_fits_109 [.int x2] (c_X6_isCell l hF σ x2) mw_X6_isCell wd_sm_yX6_isCell wd_ml_RX6_119 (by decide) rfl rfl (Nat.le_of_ble_eq_true rfl) 112 rfl ?_
      refine Vifeq (fun v => (v, σ)) dX6_fits_112 119 115 (by decide) rfl (fun h4 => ?_) (fun h4 => ?_)
      · refine Viconst dX6_fits_119 (0 : Int32) (by decide) 120 rfl ?_
        exact Vzret dX6_fits_120 (by first | decide | exact nb_isRegister _ | exact nb_isRow _ | exact nb_isPlace _ | exact nb_within _ _ _ | exact nb_mRegister _ | exact nb_mCell _ | exact nb_mPlace _)
      · refine Viconst dX6_fits_115 (1 : Int32) (by decide) 116 rfl ?_
        refine Vgoto dX6_fits_116 120 (by decide) ?_
        exact Vzret dX6_fits_120 (by first | decide | exact nb_isRegister _ | exact nb_isRow _ | exact nb_isPlace _ | exact nb_within _ _ _ | exact nb_mRegister _ | exact nb_mCell _ | exact nb_mPlace _)
  refine Vif (fun v => (v, σ)) (fun h5 => ?_) (fun h5 => ?_)
  · refine Vswin dX6_fits_1 121 (by rw [h5]; decide) (by rw [h5]; decide) (off := 120) (by rw [h5]; rfl) (by decide) ?_
    refine Vload_n dX6_fits_121 1 rfl 122 rfl ?_
    refine VcSp dX6_fits_122 [.int x1] (c_X6_isCell l hF σ x1) mw_X6_isCell wd_sm_yX6_isCell wd_ml_RX6_119 (by decide) rfl rfl (Nat.le_of_ble_eq_true rfl) 125 rfl ?_
    refine Vifeq (fun v => (v, σ)) dX6_fits_125 139 128 (by decide) rfl (fun h6 => ?_) (fun h6 => ?_)
    · refine Viconst dX6_fits_139 (0 : Int32) (by decide) 140 rfl ?_
      exact Vzret dX6_fits_140 (by first | decide | exact nb_isRegister _ | exact nb_isRow _ | exact nb_isPlace _ | exact nb_within _ _ _ | exact nb_mRegister _ | exact nb_mCell _ | exact nb_mPlace _)
    · refine Vload_n dX6_fits_128 2 rfl 129 rfl ?_
      refine VcSp dX6_fits_129 [.int x2] (c_X6_isRegister l hF σ x2) mw_X6_isRegister wd_sm_yX6_isRegister wd_ml_RX6_115 (by decide) rfl rfl (Nat.le_of_ble_eq_true rfl) 132 rfl ?_
      refine Vifeq (fun v => (v, σ)) dX6_fits_132 139 135 (by decide) rfl (fun h7 => ?_) (fun h7 => ?_)
      · refine Viconst dX6_fits_139 (0 : Int32) (by decide) 140 rfl ?_
        exact Vzret dX6_fits_140 (by first | decide | exact nb_isRegister _ | exact nb_isRow _ | exact nb_isPlace _ | exact nb_within _ _ _ | exact nb_mRegister _ | exact nb_mCell _ | exact nb_mPlace _)
      · refine Viconst dX6_fits_135 (1 : Int32) (by decide) 136 rfl ?_
        refine Vgoto dX6_fits_136 140 (by decide) ?_
        exact Vzret dX6_fits_140 (by first | decide | exact nb_isRegister _ | exact nb_isRow _ | exact nb_isPlace _ | exact nb_within _ _ _ | exact nb_mRegister _ | exact nb_mCell _ | exact nb_mPlace _)
  refine Vif (fun v => (v, σ)) (fun h8 => ?_) (fun h8 => ?_)
  · refine Vswin dX6_fits_1 141 (by rw [h8]; decide) (by rw [h8]; decide) (off := 140) (by rw [h8]; rfl) (by decide) ?_
    refine Vload_n dX6_fits_141 1 rfl 142 rfl ?_
    refine VcSp dX6_fits_142 [.int x1] (c_X6_isRegister l hF σ x1) mw_X6_isRegister wd_sm_yX6_isRegister wd_ml_RX6_115 (by decide) rfl rfl (Nat.le_of_ble_eq_true rfl) 145 rfl ?_
    refine Vifeq (fun v => (v, σ)) dX6_fits_145 166 148 (by decide) rfl (fun h9 => ?_) (fun h9 => ?_)
    · refine Viconst dX6_fits_166 (0 : Int32) (by decide) 167 rfl ?_
      exact Vzret dX6_fits_167 (by first | decide | exact nb_isRegister _ | exact nb_isRow _ | exact nb_isPlace _ | exact nb_within _ _ _ | exact nb_mRegister _ | exact nb_mCell _ | exact nb_mPlace _)
    · refine Vload_n dX6_fits_148 2 rfl 149 rfl ?_
      refine VcSp dX6_fits_149 [.int x2] (c_X6_isRegister l hF σ x2) mw_X6_isRegister wd_sm_yX6_isRegister wd_ml_RX6_115 (by decide) rfl rfl (Nat.le_of_ble_eq_true rfl) 152 rfl ?_
      refine Vifeq (fun v => (v, σ)) dX6_fits_152 166 155 (by decide) rfl (fun h10 => ?_) (fun h10 => ?_)
      · refine Viconst dX6_fits_166 (0 : Int32) (by decide) 167 rfl ?_
        exact Vzret dX6_fits_167 (by first | decide | exact nb_isRegister _ | exact nb_isRow _ | exact nb_isPlace _ | exact nb_within _ _ _ | exact nb_mRegister _ | exact nb_mCell _ | exact nb_mPlace _)
      · refine Vload_n dX6_fits_155 3 rfl 156 rfl ?_
        refine VcSp dX6_fits_156 [.int x3] (c_X6_isRegister l hF σ x3) mw_X6_isRegister wd_sm_yX6_isRegister wd_ml_RX6_115 (by decide) rfl rfl (Nat.le_of_ble_eq_true rfl) 159 rfl ?_
        refine Vifeq (fun v => (v, σ)) dX6_fits_159 166 162 (by decide) rfl (fun h11 => ?_) (fun h11 => ?_)
        · refine Viconst dX6_fits_166 (0 : Int32) (by decide) 167 rfl ?_
          exact Vzret dX6_fits_167 (by first | decide | exact nb_isRegister _ | exact nb_isRow _ | exact nb_isPlace _ | exact nb_within _ _ _ | exact nb_mRegister _ | exact nb_mCell _ | exact nb_mPlace _)
        · refine Viconst dX6_fits_162 (1 : Int32) (by decide) 163 rfl ?_
          refine Vgoto dX6_fits_163 167 (by decide) ?_
          exact Vzret dX6_fits_167 (by first | decide | exact nb_isRegister _ | exact nb_isRow _ | exact nb_isPlace _ | exact nb_within _ _ _ | exact nb_mRegister _ | exact nb_mCell _ | exact nb_mPlace _)
  refine Vif (fun v => (v, σ)) (fun h12 => ?_) (fun h12 => ?_)
  · refine Vswin dX6_fits_1 141 (by rw [h12]; decide) (by rw [h12]; decide) (off := 140) (by rw [h12]; rfl) (by decide) ?_
    refine Vload_n dX6_fits_141 1 rfl 142 rfl ?_
    refine VcSp dX6_fits_142 [.int x1] (c_X6_isRegister l hF σ x1) mw_X6_isRegister wd_sm_yX6_isRegister wd_ml_RX6_115 (by decide) rfl rfl (Nat.le_of_ble_eq_true rfl) 145 rfl ?_
    refine Vifeq (fun v => (v, σ)) dX6_fits_145 166 148 (by decide) rfl (fun h13 => ?_) (fun h13 => ?_)
    · refine Viconst dX6_fits_166 (0 : Int32) (by decide) 167 rfl ?_
      exact Vzret dX6_fits_167 (by first | decide | exact nb_isRegister _ | exact nb_isRow _ | exact nb_isPlace _ | exact nb_within _ _ _ | exact nb_mRegister _ | exact nb_mCell _ | exact nb_mPlace _)
    · refine Vload_n dX6_fits_148 2 rfl 149 rfl ?_
      refine VcSp dX6_fits_149 [.int x2] (c_X6_isRegister l hF σ x2) mw_X6_isRegister wd_sm_yX6_isRegister wd_ml_RX6_115 (by decide) rfl rfl (Nat.le_of_ble_eq_true rfl) 152 rfl ?_
      refine Vifeq (fun v => (v, σ)) dX6_fits_152 166 155 (by decide) rfl (fun h14 => ?_) (fun h14 => ?_)
      · refine Viconst dX6_fits_166 (0 : Int32) (by decide) 167 rfl ?_
        exact Vzret dX6_fits_167 (by first | decide | exact nb_isRegister _ | exact nb_isRow _ | exact nb_isPlace _ | exact nb_within _ _ _ | exact nb_mRegister _ | exact nb_mCell _ | exact nb_mPlace _)
      · refine Vload_n dX6_fits_155 3 rfl 156 rfl ?_
        refine VcSp dX6_fits_156 [.int x3] (c_X6_isRegister l hF σ x3) mw_X6_isRegister wd_sm_yX6_isRegister wd_ml_RX6_115 (by decide) rfl rfl (Nat.le_of_ble_eq_true rfl) 159 rfl ?_
        refine Vifeq (fun v => (v, σ)) dX6_fits_159 166 162 (by decide) rfl (fun h15 => ?_) (fun h15 => ?_)
        · refine Viconst dX6_fits_166 (0 : Int32) (by decide) 167 rfl ?_
          exact Vzret dX6_fits_167 (by first | decide | exact nb_isRegister _ | exact nb_isRow _ | exact nb_isPlace _ | exact nb_within _ _ _ | exact nb_mRegister _ | exact nb_mCell _ | exact nb_mPlace _)
        · refine Viconst dX6_fits_162 (1 : Int32) (by decide) 163 rfl ?_
          refine Vgoto dX6_fits_163 167 (by decide) ?_
          exact Vzret dX6_fits_167 (by first | decide | exact nb_isRegister _ | exact nb_isRow _ | exact nb_isPlace _ | exact nb_within _ _ _ | exact nb_mRegister _ | exact nb_mCell _ | exact nb_mPlace _)
  refine Vif (fun v => (v, σ)) (fun h16 => ?_) (fun h16 => ?_)
  · refine Vswin dX6_fits_1 141 (by rw [h16]; decide) (by rw [h16]; decide) (off := 140) (by rw [h16]; rfl) (by decide) ?_
    refine Vload_n dX6_fits_141 1 rfl 142 rfl ?_
    refine VcSp dX6_fits_142 [.int x1] (c_X6_isRegister l hF σ x1) mw_X6_isRegister wd_sm_yX6_isRegister wd_ml_RX6_115 (by decide) rfl rfl (Nat.le_of_ble_eq_true rfl) 145 rfl ?_
    refine Vifeq (fun v => (v, σ)) dX6_fits_145 166 148 (by decide) rfl (fun h17 => ?_) (fun h17 => ?_)
    · refine Viconst dX6_fits_166 (0 : Int32) (by decide) 167 rfl ?_
      exact Vzret dX6_fits_167 (by first | decide | exact nb_isRegister _ | exact nb_isRow _ | exact nb_isPlace _ | exact nb_within _ _ _ | exact nb_mRegister _ | exact nb_mCell _ | exact nb_mPlace _)
    · refine Vload_n dX6_fits_148 2 rfl 149 rfl ?_
      refine VcSp dX6_fits_149 [.int x2] (c_X6_isRegister l hF σ x2) mw_X6_isRegister wd_sm_yX6_isRegister wd_ml_RX6_115 (by decide) rfl rfl (Nat.le_of_ble_eq_true rfl) 152 rfl ?_
      refine Vifeq (fun v => (v, σ)) dX6_fits_152 166 155 (by decide) rfl (fun h18 => ?_) (fun h18 => ?_)
      · refine Viconst dX6_fits_166 (0 : Int32) (by decide) 167 rfl ?_
        exact Vzret dX6_fits_167 (by first | decide | exact nb_isRegister _ | exact nb_isRow _ | exact nb_isPlace _ | exact nb_within _ _ _ | exact nb_mRegister _ | exact nb_mCell _ | exact nb_mPlace _)
      · refine Vload_n dX6_fits_155 3 rfl 156 rfl ?_
        refine VcSp dX6_fits_156 [.int x3] (c_X6_isRegister l hF σ x3) mw_X6_isRegister wd_sm_yX6_isRegister wd_ml_RX6_115 (by decide) rfl rfl (Nat.le_of_ble_eq_true rfl) 159 rfl ?_
        refine Vifeq (fun v => (v, σ)) dX6_fits_159 166 162 (by decide) rfl (fun h19 => ?_) (fun h19 => ?_)
        · refine Viconst dX6_fits_166 (0 : Int32) (by decide) 167 rfl ?_
          exact Vzret dX6_fits_167 (by first | decide | exact nb_isRegister _ | exact nb_isRow _ | exact nb_isPlace _ | exact nb_within _ _ _ | exact nb_mRegister _ | exact nb_mCell _ | exact nb_mPlace _)
        · refine Viconst dX6_fits_162 (1 : Int32) (by decide) 163 rfl ?_
          refine Vgoto dX6_fits_163 167 (by decide) ?_
          exact Vzret dX6_fits_167 (by first | decide | exact nb_isRegister _ | exact nb_isRow _ | exact nb_isPlace _ | exact nb_within _ _ _ | exact nb_mRegister _ | exact nb_mCell _ | exact nb_mPlace _)
  refine Vif (fun v => (v, σ)) (fun h20 => ?_) (fun h20 => ?_)
  · refine Vswin dX6_fits_1 141 (by rw [h20]; decide) (by rw [h20]; decide) (off := 140) (by rw [h20]; rfl) (by decide) ?_
    refine Vload_n dX6_fits_141 1 rfl 142 rfl ?_
    refine VcSp dX6_fits_142 [.int x1] (c_X6_isRegister l hF σ x1) mw_X6_isRegister wd_sm_yX6_isRegister wd_ml_RX6_115 (by decide) rfl rfl (Nat.le_of_ble_eq_true rfl) 145 rfl ?_
    refine Vifeq (fun v => (v, σ)) dX6_fits_145 166 148 (by decide) rfl (fun h21 => ?_) (fun h21 => ?_)
    · refine Viconst dX6_fits_166 (0 : Int32) (by decide) 167 rfl ?_
      exact Vzret dX6_fits_167 (by first | decide | exact nb_isRegister _ | exact nb_isRow _ | exact nb_isPlace _ | exact nb_within _ _ _ | exact nb_mRegister _ | exact nb_mCell _ | exact nb_mPlace _)
    · refine Vload_n dX6_fits_148 2 rfl 149 rfl ?_
      refine VcSp dX6_fits_149 [.int x2] (c_X6_isRegister l hF σ x2) mw_X6_isRegister wd_sm_yX6_isRegister wd_ml_RX6_115 (by decide) rfl rfl (Nat.le_of_ble_eq_true rfl) 152 rfl ?_
      refine Vifeq (fun v => (v, σ)) dX6_fits_152 166 155 (by decide) rfl (fun h22 => ?_) (fun h22 => ?_)
      · refine Viconst dX6_fits_166 (0 : Int32) (by decide) 167 rfl ?_
        exact Vzret dX6_fits_167 (by first | decide | exact nb_isRegister _ | exact nb_isRow _ | exact nb_isPlace _ | exact nb_within _ _ _ | exact nb_mRegister _ | exact nb_mCell _ | exact nb_mPlace _)
      · refine Vload_n dX6_fits_155 3 rfl 156 rfl ?_
        refine VcSp dX6_fits_156 [.int x3] (c_X6_isRegister l hF σ x3) mw_X6_isRegister wd_sm_yX6_isRegister wd_ml_RX6_115 (by decide) rfl rfl (Nat.le_of_ble_eq_true rfl) 159 rfl ?_
        refine Vifeq (fun v => (v, σ)) dX6_fits_159 166 162 (by decide) rfl (fun h23 => ?_) (fun h23 => ?_)
        · refine Viconst dX6_fits_166 (0 : Int32) (by decide) 167 rfl ?_
          exact Vzret dX6_fits_167 (by first | decide | exact nb_isRegister _ | exact nb_isRow _ | exact nb_isPlace _ | exact nb_within _ _ _ | exact nb_mRegister _ | exact nb_mCell _ | exact nb_mPlace _)
        · refine Viconst dX6_fits_162 (1 : Int32) (by decide) 163 rfl ?_
          refine Vgoto dX6_fits_163 167 (by decide) ?_
          exact Vzret dX6_fits_167 (by first | decide | exact nb_isRegister _ | exact nb_isRow _ | exact nb_isPlace _ | exact nb_within _ _ _ | exact nb_mRegister _ | exact nb_mCell _ | exact nb_mPlace _)
  refine Vif (fun v => (v, σ)) (fun h24 => ?_) (fun h24 => ?_)
  · refine Vswin dX6_fits_1 141 (by rw [h24]; decide) (by rw [h24]; decide) (off := 140) (by rw [h24]; rfl) (by decide) ?_
    refine Vload_n dX6_fits_141 1 rfl 142 rfl ?_
    refine VcSp dX6_fits_142 [.int x1] (c_X6_isRegister l hF σ x1) mw_X6_isRegister wd_sm_yX6_isRegister wd_ml_RX6_115 (by decide) rfl rfl (Nat.le_of_ble_eq_true rfl) 145 rfl ?_
    refine Vifeq (fun v => (v, σ)) dX6_fits_145 166 148 (by decide) rfl (fun h25 => ?_) (fun h25 => ?_)
    · refine Viconst dX6_fits_166 (0 : Int32) (by decide) 167 rfl ?_
      exact Vzret dX6_fits_167 (by first | decide | exact nb_isRegister _ | exact nb_isRow _ | exact nb_isPlace _ | exact nb_within _ _ _ | exact nb_mRegister _ | exact nb_mCell _ | exact nb_mPlace _)
    · refine Vload_n dX6_fits_148 2 rfl 149 rfl ?_
      refine VcSp dX6_fits_149 [.int x2] (c_X6_isRegister l hF σ x2) mw_X6_isRegister wd_sm_yX6_isRegister wd_ml_RX6_115 (by decide) rfl rfl (Nat.le_of_ble_eq_true rfl) 152 rfl ?_
      refine Vifeq (fun v => (v, σ)) dX6_fits_152 166 155 (by decide) rfl (fun h26 => ?_) (fun h26 => ?_)
      · refine Viconst dX6_fits_166 (0 : Int32) (by decide) 167 rfl ?_
        exact Vzret dX6_fits_167 (by first | decide | exact nb_isRegister _ | exact nb_isRow _ | exact nb_isPlace _ | exact nb_within _ _ _ | exact nb_mRegister _ | exact nb_mCell _ | exact nb_mPlace _)
      · refine Vload_n dX6_fits_155 3 rfl 156 rfl ?_
        refine VcSp dX6_fits_156 [.int x3] (c_X6_isRegister l hF σ x3) mw_X6_isRegister wd_sm_yX6_isRegister wd_ml_RX6_115 (by decide) rfl rfl (Nat.le_of_ble_eq_true rfl) 159 rfl ?_
        refine Vifeq (fun v => (v, σ)) dX6_fits_159 166 162 (by decide) rfl (fun h27 => ?_) (fun h27 => ?_)
        · refine Viconst dX6_fits_166 (0 : Int32) (by decide) 167 rfl ?_
          exact Vzret dX6_fits_167 (by first | decide | exact nb_isRegister _ | exact nb_isRow _ | exact nb_isPlace _ | exact nb_within _ _ _ | exact nb_mRegister _ | exact nb_mCell _ | exact nb_mPlace _)
        · refine Viconst dX6_fits_162 (1 : Int32) (by decide) 163 rfl ?_
          refine Vgoto dX6_fits_163 167 (by decide) ?_
          exact Vzret dX6_fits_167 (by first | decide | exact nb_isRegister _ | exact nb_isRow _ | exact nb_isPlace _ | exact nb_within _ _ _ | exact nb_mRegister _ | exact nb_mCell _ | exact nb_mPlace _)
  refine Vif (fun v => (v, σ)) (fun h28 => ?_) (fun h28 => ?_)
  · refine Vswin dX6_fits_1 141 (by rw [h28]; decide) (by rw [h28]; decide) (off := 140) (by rw [h28]; rfl) (by decide) ?_
    refine Vload_n dX6_fits_141 1 rfl 142 rfl ?_
    refine VcSp dX6_fits_142 [.int x1] (c_X6_isRegister l hF σ x1) mw_X6_isRegister wd_sm_yX6_isRegister wd_ml_RX6_115 (by decide) rfl rfl (Nat.le_of_ble_eq_true rfl) 145 rfl ?_
    refine Vifeq (fun v => (v, σ)) dX6_fits_145 166 148 (by decide) rfl (fun h29 => ?_) (fun h29 => ?_)
    · refine Viconst dX6_fits_166 (0 : Int32) (by decide) 167 rfl ?_
      exact Vzret dX6_fits_167 (by first | decide | exact nb_isRegister _ | exact nb_isRow _ | exact nb_isPlace _ | exact nb_within _ _ _ | exact nb_mRegister _ | exact nb_mCell _ | exact nb_mPlace _)
    · refine Vload_n dX6_fits_148 2 rfl 149 rfl ?_
      refine VcSp dX6_fits_149 [.int x2] (c_X6_isRegister l hF σ x2) mw_X6_isRegister wd_sm_yX6_isRegister wd_ml_RX6_115 (by decide) rfl rfl (Nat.le_of_ble_eq_true rfl) 152 rfl ?_
      refine Vifeq (fun v => (v, σ)) dX6_fits_152 166 155 (by decide) rfl (fun h30 => ?_) (fun h30 => ?_)
      · refine Viconst dX6_fits_166 (0 : Int32) (by decide) 167 rfl ?_
        exact Vzret dX6_fits_167 (by first | decide | exact nb_isRegister _ | exact nb_isRow _ | exact nb_isPlace _ | exact nb_within _ _ _ | exact nb_mRegister _ | exact nb_mCell _ | exact nb_mPlace _)
      · refine Vload_n dX6_fits_155 3 rfl 156 rfl ?_
        refine VcSp dX6_fits_156 [.int x3] (c_X6_isRegister l hF σ x3) mw_X6_isRegister wd_sm_yX6_isRegister wd_ml_RX6_115 (by decide) rfl rfl (Nat.le_of_ble_eq_true rfl) 159 rfl ?_
        refine Vifeq (fun v => (v, σ)) dX6_fits_159 166 162 (by decide) rfl (fun h31 => ?_) (fun h31 => ?_)
        · refine Viconst dX6_fits_166 (0 : Int32) (by decide) 167 rfl ?_
          exact Vzret dX6_fits_167 (by first | decide | exact nb_isRegister _ | exact nb_isRow _ | exact nb_isPlace _ | exact nb_within _ _ _ | exact nb_mRegister _ | exact nb_mCell _ | exact nb_mPlace _)
        · refine Viconst dX6_fits_162 (1 : Int32) (by decide) 163 rfl ?_
          refine Vgoto dX6_fits_163 167 (by decide) ?_
          exact Vzret dX6_fits_167 (by first | decide | exact nb_isRegister _ | exact nb_isRow _ | exact nb_isPlace _ | exact nb_within _ _ _ | exact nb_mRegister _ | exact nb_mCell _ | exact nb_mPlace _)
  refine Vif (fun v => (v, σ)) (fun h32 => ?_) (fun h32 => ?_)
  · refine Vswin dX6_fits_1 168 (by rw [h32]; decide) (by rw [h32]; decide) (off := 167) (by rw [h32]; rfl) (by decide) ?_
    refine Vload_n dX6_fits_168 1 rfl 169 rfl ?_
    refine VcSp dX6_fits_169 [.int x1] (c_X6_isCell l hF σ x1) mw_X6_isCell wd_sm_yX6_isCell wd_ml_RX6_119 (by decide) rfl rfl (Nat.le_of_ble_eq_true rfl) 172 rfl ?_
    refine Vifeq (fun v => (v, σ)) dX6_fits_172 193 175 (by decide) rfl (fun h33 => ?_) (fun h33 => ?_)
    · refine Viconst dX6_fits_193 (0 : Int32) (by decide) 194 rfl ?_
      exact Vzret dX6_fits_194 (by first | decide | exact nb_isRegister _ | exact nb_isRow _ | exact nb_isPlace _ | exact nb_within _ _ _ | exact nb_mRegister _ | exact nb_mCell _ | exact nb_mPlace _)
    · refine Vload_n dX6_fits_175 2 rfl 176 rfl ?_
      refine VcSp dX6_fits_176 [.int x2] (c_X6_isRegister l hF σ x2) mw_X6_isRegister wd_sm_yX6_isRegister wd_ml_RX6_115 (by decide) rfl rfl (Nat.le_of_ble_eq_true rfl) 179 rfl ?_
      refine Vifeq (fun v => (v, σ)) dX6_fits_179 193 182 (by decide) rfl (fun h34 => ?_) (fun h34 => ?_)
      · refine Viconst dX6_fits_193 (0 : Int32) (by decide) 194 rfl ?_
        exact Vzret dX6_fits_194 (by first | decide | exact nb_isRegister _ | exact nb_isRow _ | exact nb_isPlace _ | exact nb_within _ _ _ | exact nb_mRegister _ | exact nb_mCell _ | exact nb_mPlace _)
      · refine Vload_n dX6_fits_182 3 rfl 183 rfl ?_
        refine VcSp dX6_fits_183 [.int x3] (c_X6_isRegister l hF σ x3) mw_X6_isRegister wd_sm_yX6_isRegister wd_ml_RX6_115 (by decide) rfl rfl (Nat.le_of_ble_eq_true rfl) 186 rfl ?_
        refine Vifeq (fun v => (v, σ)) dX6_fits_186 193 189 (by decide) rfl (fun h35 => ?_) (fun h35 => ?_)
        · refine Viconst dX6_fits_193 (0 : Int32) (by decide) 194 rfl ?_
          exact Vzret dX6_fits_194 (by first | decide | exact nb_isRegister _ | exact nb_isRow _ | exact nb_isPlace _ | exact nb_within _ _ _ | exact nb_mRegister _ | exact nb_mCell _ | exact nb_mPlace _)
        · refine Viconst dX6_fits_189 (1 : Int32) (by decide) 190 rfl ?_
          refine Vgoto dX6_fits_190 194 (by decide) ?_
          exact Vzret dX6_fits_194 (by first | decide | exact nb_isRegister _ | exact nb_isRow _ | exact nb_isPlace _ | exact nb_within _ _ _ | exact nb_mRegister _ | exact nb_mCell _ | exact nb_mPlace _)
  refine Vif (fun v => (v, σ)) (fun h36 => ?_) (fun h36 => ?_)
  · refine Vswin dX6_fits_1 195 (by rw [h36]; decide) (by rw [h36]; decide) (off := 194) (by rw [h36]; rfl) (by decide) ?_
    refine Vload_n dX6_fits_195 1 rfl 196 rfl ?_
    refine VcSp dX6_fits_196 [.int x1] (c_X6_isPlaceIn l hF σ x1) mw_X6_isPlaceIn wd_sm_yX6_isPlaceIn wd_ml_RX6_122 (by decide) rfl rfl (Nat.le_of_ble_eq_true rfl) 199 rfl ?_
    exact Vzret dX6_fits_199 (by first | decide | exact nb_isRegister _ | exact nb_isRow _ | exact nb_isPlace _ | exact nb_within _ _ _ | exact nb_mRegister _ | exact nb_mCell _ | exact nb_mPlace _)
  refine Vif (fun v => (v, σ)) (fun h37 => ?_) (fun h37 => ?_)
  · refine Vswin dX6_fits_1 200 (by rw [h37]; decide) (by rw [h37]; decide) (off := 199) (by rw [h37]; rfl) (by decide) ?_
    refine Vload_n dX6_fits_200 1 rfl 201 rfl ?_
    refine VcSp dX6_fits_201 [.int x1] (c_X6_isRegister l hF σ x1) mw_X6_isRegister wd_sm_yX6_isRegister wd_ml_RX6_115 (by decide) rfl rfl (Nat.le_of_ble_eq_true rfl) 204 rfl ?_
    refine Vifeq (fun v => (v, σ)) dX6_fits_204 218 207 (by decide) rfl (fun h38 => ?_) (fun h38 => ?_)
    · refine Viconst dX6_fits_218 (0 : Int32) (by decide) 219 rfl ?_
      exact Vzret dX6_fits_219 (by first | decide | exact nb_isRegister _ | exact nb_isRow _ | exact nb_isPlace _ | exact nb_within _ _ _ | exact nb_mRegister _ | exact nb_mCell _ | exact nb_mPlace _)
    · refine Vload_n dX6_fits_207 2 rfl 208 rfl ?_
      refine VcSp dX6_fits_208 [.int x2] (c_X6_isPlaceIn l hF σ x2) mw_X6_isPlaceIn wd_sm_yX6_isPlaceIn wd_ml_RX6_122 (by decide) rfl rfl (Nat.le_of_ble_eq_true rfl) 211 rfl ?_
      refine Vifeq (fun v => (v, σ)) dX6_fits_211 218 214 (by decide) rfl (fun h39 => ?_) (fun h39 => ?_)
      · refine Viconst dX6_fits_218 (0 : Int32) (by decide) 219 rfl ?_
        exact Vzret dX6_fits_219 (by first | decide | exact nb_isRegister _ | exact nb_isRow _ | exact nb_isPlace _ | exact nb_within _ _ _ | exact nb_mRegister _ | exact nb_mCell _ | exact nb_mPlace _)
      · refine Viconst dX6_fits_214 (1 : Int32) (by decide) 215 rfl ?_
        refine Vgoto dX6_fits_215 219 (by decide) ?_
        exact Vzret dX6_fits_219 (by first | decide | exact nb_isRegister _ | exact nb_isRow _ | exact nb_isPlace _ | exact nb_within _ _ _ | exact nb_mRegister _ | exact nb_mCell _ | exact nb_mPlace _)
  refine Vif (fun v => (v, σ)) (fun h40 => ?_) (fun h40 => ?_)
  · refine Vswin dX6_fits_1 195 (by rw [h40]; decide) (by rw [h40]; decide) (off := 194) (by rw [h40]; rfl) (by decide) ?_
    refine Vload_n dX6_fits_195 1 rfl 196 rfl ?_
    refine VcSp dX6_fits_196 [.int x1] (c_X6_isPlaceIn l hF σ x1) mw_X6_isPlaceIn wd_sm_yX6_isPlaceIn wd_ml_RX6_122 (by decide) rfl rfl (Nat.le_of_ble_eq_true rfl) 199 rfl ?_
    exact Vzret dX6_fits_199 (by first | decide | exact nb_isRegister _ | exact nb_isRow _ | exact nb_isPlace _ | exact nb_within _ _ _ | exact nb_mRegister _ | exact nb_mCell _ | exact nb_mPlace _)
  refine Vif (fun v => (v, σ)) (fun h41 => ?_) (fun h41 => ?_)
  · refine Vswin dX6_fits_1 96 (by rw [h41]; decide) (by rw [h41]; decide) (off := 95) (by rw [h41]; rfl) (by decide) ?_
    refine Vload_n dX6_fits_96 1 rfl 97 rfl ?_
    refine VcSp dX6_fits_97 [.int x1] (c_X6_isRegister l hF σ x1) mw_X6_isRegister wd_sm_yX6_isRegister wd_ml_RX6_115 (by decide) rfl rfl (Nat.le_of_ble_eq_true rfl) 100 rfl ?_
    exact Vzret dX6_fits_100 (by first | decide | exact nb_isRegister _ | exact nb_isRow _ | exact nb_isPlace _ | exact nb_within _ _ _ | exact nb_mRegister _ | exact nb_mCell _ | exact nb_mPlace _)
  refine Vif (fun v => (v, σ)) (fun h42 => ?_) (fun h42 => ?_)
  · refine Vswin dX6_fits_1 220 (by rw [h42]; decide) (by rw [h42]; decide) (off := 219) (by rw [h42]; rfl) (by decide) ?_
    refine Vload_n dX6_fits_220 1 rfl 221 rfl ?_
    refine Viconst dX6_fits_221 (0 : Int32) (by decide) 222 rfl ?_
    refine Viconst dX6_fits_222 (3 : Int32) (by decide) 223 rfl ?_
    refine VcSp dX6_fits_223 [.int x1, .int (0 : Int32), .int (3 : Int32)] (c_X6_within l hF σ x1 (0 : Int32) (3 : Int32)) mw_X6_within wd_sm_yX6_within wd_ml_RX6_111 (by decide) rfl rfl (Nat.le_of_ble_eq_true rfl) 226 rfl ?_
    refine Vifeq (fun v => (v, σ)) dX6_fits_226 240 229 (by decide) rfl (fun h43 => ?_) (fun h43 => ?_)
    · refine Viconst dX6_fits_240 (0 : Int32) (by decide) 241 rfl ?_
      exact Vzret dX6_fits_241 (by first | decide | exact nb_isRegister _ | exact nb_isRow _ | exact nb_isPlace _ | exact nb_within _ _ _ | exact nb_mRegister _ | exact nb_mCell _ | exact nb_mPlace _)
    · refine Vload_n dX6_fits_229 2 rfl 230 rfl ?_
      refine VcSp dX6_fits_230 [.int x2] (c_X6_isRegister l hF σ x2) mw_X6_isRegister wd_sm_yX6_isRegister wd_ml_RX6_115 (by decide) rfl rfl (Nat.le_of_ble_eq_true rfl) 233 rfl ?_
      refine Vifeq (fun v => (v, σ)) dX6_fits_233 240 236 (by decide) rfl (fun h44 => ?_) (fun h44 => ?_)
      · refine Viconst dX6_fits_240 (0 : Int32) (by decide) 241 rfl ?_
        exact Vzret dX6_fits_241 (by first | decide | exact nb_isRegister _ | exact nb_isRow _ | exact nb_isPlace _ | exact nb_within _ _ _ | exact nb_mRegister _ | exact nb_mCell _ | exact nb_mPlace _)
      · refine Viconst dX6_fits_236 (1 : Int32) (by decide) 237 rfl ?_
        refine Vgoto dX6_fits_237 241 (by decide) ?_
        exact Vzret dX6_fits_241 (by first | decide | exact nb_isRegister _ | exact nb_isRow _ | exact nb_isPlace _ | exact nb_within _ _ _ | exact nb_mRegister _ | exact nb_mCell _ | exact nb_mPlace _)
  refine Vif (fun v => (v, σ)) (fun h45 => ?_) (fun h45 => ?_)
  · refine Vswin dX6_fits_1 242 (by rw [h45]; decide) (by rw [h45]; decide) (off := 241) (by rw [h45]; rfl) (by decide) ?_
    refine Vload_n dX6_fits_242 1 rfl 243 rfl ?_
    refine Viconst dX6_fits_243 (0 : Int32) (by decide) 244 rfl ?_
    refine Viconst dX6_fits_244 (3 : Int32) (by decide) 245 rfl ?_
    refine VcSp dX6_fits_245 [.int x1, .int (0 : Int32), .int (3 : Int32)] (c_X6_within l hF σ x1 (0 : Int32) (3 : Int32)) mw_X6_within wd_sm_yX6_within wd_ml_RX6_111 (by decide) rfl rfl (Nat.le_of_ble_eq_true rfl) 248 rfl ?_
    exact Vzret dX6_fits_248 (by first | decide | exact nb_isRegister _ | exact nb_isRow _ | exact nb_isPlace _ | exact nb_within _ _ _ | exact nb_mRegister _ | exact nb_mCell _ | exact nb_mPlace _)
  refine Vif (fun v => (v, σ)) (fun h46 => ?_) (fun h46 => ?_)
  · refine Vswin dX6_fits_1 249 (by rw [h46]; decide) (by rw [h46]; decide) (off := 248) (by rw [h46]; rfl) (by decide) ?_
    refine Vload_n dX6_fits_249 1 rfl 250 rfl ?_
    refine VcSp dX6_fits_250 [.int x1] (c_X6_isCell l hF σ x1) mw_X6_isCell wd_sm_yX6_isCell wd_ml_RX6_119 (by decide) rfl rfl (Nat.le_of_ble_eq_true rfl) 253 rfl ?_
    refine Vifeq (fun v => (v, σ)) dX6_fits_253 267 256 (by decide) rfl (fun h47 => ?_) (fun h47 => ?_)
    · refine Viconst dX6_fits_267 (0 : Int32) (by decide) 268 rfl ?_
      exact Vzret dX6_fits_268 (by first | decide | exact nb_isRegister _ | exact nb_isRow _ | exact nb_isPlace _ | exact nb_within _ _ _ | exact nb_mRegister _ | exact nb_mCell _ | exact nb_mPlace _)
    · refine Vload_n dX6_fits_256 2 rfl 257 rfl ?_
      refine VcSp dX6_fits_257 [.int x2] (c_X6_isCell l hF σ x2) mw_X6_isCell wd_sm_yX6_isCell wd_ml_RX6_119 (by decide) rfl rfl (Nat.le_of_ble_eq_true rfl) 260 rfl ?_
      refine Vifeq (fun v => (v, σ)) dX6_fits_260 267 263 (by decide) rfl (fun h48 => ?_) (fun h48 => ?_)
      · refine Viconst dX6_fits_267 (0 : Int32) (by decide) 268 rfl ?_
        exact Vzret dX6_fits_268 (by first | decide | exact nb_isRegister _ | exact nb_isRow _ | exact nb_isPlace _ | exact nb_within _ _ _ | exact nb_mRegister _ | exact nb_mCell _ | exact nb_mPlace _)
      · refine Viconst dX6_fits_263 (1 : Int32) (by decide) 264 rfl ?_
        refine Vgoto dX6_fits_264 268 (by decide) ?_
        exact Vzret dX6_fits_268 (by first | decide | exact nb_isRegister _ | exact nb_isRow _ | exact nb_isPlace _ | exact nb_within _ _ _ | exact nb_mRegister _ | exact nb_mCell _ | exact nb_mPlace _)
  have w49 : V l G X RX6 cX6_fits 4 2 (some .boolean) κI ((fun v => (v, σ)) (f_X6_within x0 (12 : Int32) (15 : Int32))) σ 269 [(0, .int x0), (1, .int x1), (2, .int x2), (3, .int x3)] [] := by
    refine Vload_n dX6_fits_269 0 rfl 270 rfl ?_
    refine Vbipush dX6_fits_270 (12 : Int32) (by decide) 272 rfl ?_
    refine Vbipush dX6_fits_272 (15 : Int32) (by decide) 274 rfl ?_
    refine VcSp dX6_fits_274 [.int x0, .int (12 : Int32), .int (15 : Int32)] (c_X6_within l hF σ x0 (12 : Int32) (15 : Int32)) mw_X6_within wd_sm_yX6_within wd_ml_RX6_111 (by decide) rfl rfl (Nat.le_of_ble_eq_true rfl) 277 rfl ?_
    exact Vzret dX6_fits_277 (by first | decide | exact nb_isRegister _ | exact nb_isRow _ | exact nb_isPlace _ | exact nb_within _ _ _ | exact nb_mRegister _ | exact nb_mCell _ | exact nb_mPlace _)
  by_cases o50 : x0 = (12 : Int32)
  · exact Vswin dX6_fits_1 269 (by rw [o50]; decide) (by rw [o50]; decide) (off := 268) (by rw [o50]; rfl) (by decide) w49
  by_cases o51 : x0 = (13 : Int32)
  · exact Vswin dX6_fits_1 269 (by rw [o51]; decide) (by rw [o51]; decide) (off := 268) (by rw [o51]; rfl) (by decide) w49
  by_cases o52 : x0 = (15 : Int32)
  · exact Vswin dX6_fits_1 269 (by rw [o52]; decide) (by rw [o52]; decide) (off := 268) (by rw [o52]; rfl) (by decide) w49
  exact Vswout dX6_fits_1 (by have eh1 := lv_neT (a := 0) h1 (by decide); have eh2 := lv_neT (a := 1) h2 (by decide); have eh5 := lv_neT (a := 2) h5 (by decide); have eh8 := lv_neT (a := 3) h8 (by decide); have eh12 := lv_neT (a := 4) h12 (by decide); have eh16 := lv_neT (a := 5) h16 (by decide); have eh20 := lv_neT (a := 6) h20 (by decide); have eh24 := lv_neT (a := 7) h24 (by decide); have eh28 := lv_neT (a := 8) h28 (by decide); have eh32 := lv_neT (a := 9) h32 (by decide); have eh36 := lv_neT (a := 10) h36 (by decide); have eh37 := lv_neT (a := 11) h37 (by decide); have eh40 := lv_neT (a := 14) h40 (by decide); have eh41 := lv_neT (a := 16) h41 (by decide); have eh42 := lv_neT (a := 17) h42 (by decide); have eh45 := lv_neT (a := 18) h45 (by decide); have eh46 := lv_neT (a := 19) h46 (by decide); have eo50 := lv_neT (a := 12) o50 (by decide); have eo51 := lv_neT (a := 13) o51 (by decide); have eo52 := lv_neT (a := 15) o52 (by decide); omega) (tgt := 269) (by decide) w49
theorem fits7 {k x y z : Int32} (hR : ¬ f_X6_fits k x y z = 0) (h : k = 7) : vp_in x 4 ∧ vp_in y 4 ∧ vp_in z 4 := by
  subst h
  by_cases h1 : f_X6_isRegister x = 0 <;> by_cases h2 : f_X6_isRegister y = 0 <;> by_cases h3 : f_X6_isRegister z = 0 <;> simp [f_X6_fits, h1, h2, h3] at hR <;> exact ⟨vin_mRegister h1, vin_mRegister h2, vin_mRegister h3⟩
theorem fits8 {k x y z : Int32} (hR : ¬ f_X6_fits k x y z = 0) (h : k = 8) : vp_in x 4 ∧ vp_in y 4 ∧ vp_in z 4 := by
  subst h
  by_cases h1 : f_X6_isRegister x = 0 <;> by_cases h2 : f_X6_isRegister y = 0 <;> by_cases h3 : f_X6_isRegister z = 0 <;> simp [f_X6_fits, h1, h2, h3] at hR <;> exact ⟨vin_mRegister h1, vin_mRegister h2, vin_mRegister h3⟩
theorem fits36 {k x y z : Int32} (hR : ¬ f_X6_fits k x y z = 0) (h : k = 3 ∨ k = 4 ∨ k = 5 ∨ k = 6) : vp_in x 4 ∧ vp_in y 4 ∧ vp_in z 4 := by
  rcases h with rfl | rfl | rfl | rfl <;> by_cases h1 : f_X6_isRegister x = 0 <;> by_cases h2 : f_X6_isRegister y = 0 <;> by_cases h3 : f_X6_isRegister z = 0 <;> simp [f_X6_fits, h1, h2, h3] at hR <;> exact ⟨vin_mRegister h1, vin_mRegister h2, vin_mRegister h3⟩
theorem fits0 {k x y z : Int32} (hR : ¬ f_X6_fits k x y z = 0) (h : k = 0) : vp_in x 4 := by
  subst h
  simp [f_X6_fits] at hR
  exact vin_mRegister hR
theorem fits16 {k x y z : Int32} (hR : ¬ f_X6_fits k x y z = 0) (h : k = 16) : vp_in x 4 := by
  subst h
  simp [f_X6_fits] at hR
  exact vin_mRegister hR
theorem fits1 {k x y z : Int32} (hR : ¬ f_X6_fits k x y z = 0) (h : k = 1) : vp_in x 4 ∧ vp_in y 8 := by
  subst h
  by_cases h1 : f_X6_isRegister x = 0 <;> by_cases h2 : f_X6_isCell y = 0 <;> simp [f_X6_fits, h1, h2] at hR <;> exact ⟨vin_mRegister h1, vin_mCell h2⟩
theorem fits2 {k x y z : Int32} (hR : ¬ f_X6_fits k x y z = 0) (h : k = 2) : vp_in x 8 ∧ vp_in y 4 := by
  subst h
  by_cases h1 : f_X6_isCell x = 0 <;> by_cases h2 : f_X6_isRegister y = 0 <;> simp [f_X6_fits, h1, h2] at hR <;> exact ⟨vin_mCell h1, vin_mRegister h2⟩
theorem fits9 {k x y z : Int32} (hR : ¬ f_X6_fits k x y z = 0) (h : k = 9) : vp_in x 8 ∧ vp_in y 4 ∧ vp_in z 4 := by
  subst h
  by_cases h1 : f_X6_isCell x = 0 <;> by_cases h2 : f_X6_isRegister y = 0 <;> by_cases h3 : f_X6_isRegister z = 0 <;> simp [f_X6_fits, h1, h2, h3] at hR <;> exact ⟨vin_mCell h1, vin_mRegister h2, vin_mRegister h3⟩
theorem fits11 {k x y z : Int32} (hR : ¬ f_X6_fits k x y z = 0) (h : k = 11) : vp_in x 4 := by
  subst h
  by_cases h1 : f_X6_isRegister x = 0 <;> simp [f_X6_fits, h1] at hR <;> exact vin_mRegister h1
theorem fits17 {k x y z : Int32} (hR : ¬ f_X6_fits k x y z = 0) (h : k = 17) : vp_in x 4 ∧ vp_in y 4 := by
  subst h
  by_cases h1 : f_X6_within x 0 3 = 0 <;> by_cases h2 : f_X6_isRegister y = 0 <;> simp [f_X6_fits, h1, h2] at hR <;> exact ⟨vin_w h1 (by decide), vin_mRegister h2⟩
theorem fits18 {k x y z : Int32} (hR : ¬ f_X6_fits k x y z = 0) (h : k = 18) : vp_in x 4 := by
  subst h
  simp [f_X6_fits] at hR
  exact vin_w hR (by decide)
theorem fits19' {k x y z : Int32} (hR : ¬ f_X6_fits k x y z = 0) (h : k = 19) : vp_in x 8 ∧ vp_in y 8 := by
  subst h
  by_cases h1 : f_X6_isCell x = 0 <;> by_cases h2 : f_X6_isCell y = 0 <;> simp [f_X6_fits, h1, h2] at hR <;> exact ⟨vin_mCell h1, vin_mCell h2⟩
theorem fits19 {k x y z : Int32} (hR : ¬ f_X6_fits k x y z = 0) (hk : k = 7 ∨ k = 8 ∨ k = 17 ∨ k = 18 ∨ k = 19) (h7 : ¬ k = 7) (h8 : ¬ k = 8) (h17 : ¬ k = 17) (h18 : ¬ k = 18) : vp_in x 8 ∧ vp_in y 8 := by
  rcases hk with e | e | e | e | e
  · exact absurd e h7
  · exact absurd e h8
  · exact absurd e h17
  · exact absurd e h18
  · exact fits19' hR e
theorem fitsK {k x y z : Int32} (hR : ¬ f_X6_fits k x y z = 0) (h0 : ¬ k = 0) (h1 : ¬ k = 1) (h2 : ¬ k = 2) (h3 : ¬ k = 3) (h4 : ¬ k = 4) (h5 : ¬ k = 5) (h6 : ¬ k = 6) (h9 : ¬ k = 9) (h10 : ¬ k = 10) (h11 : ¬ k = 11) (h12 : ¬ k = 12) (h13 : ¬ k = 13) (h14 : ¬ k = 14) (h15 : ¬ k = 15) (h16 : ¬ k = 16) : k = 7 ∨ k = 8 ∨ k = 17 ∨ k = 18 ∨ k = 19 := by
  by_cases h7 : k = 7
  · exact Or.inl h7
  by_cases h8 : k = 8
  · exact Or.inr (Or.inl h8)
  by_cases h17 : k = 17
  · exact Or.inr (Or.inr (Or.inl h17))
  by_cases h18 : k = 18
  · exact Or.inr (Or.inr (Or.inr (Or.inl h18)))
  by_cases h19 : k = 19
  · exact Or.inr (Or.inr (Or.inr (Or.inr h19)))
  exfalso
  simp only [f_X6_fits, h0, h1, h2, h3, h4, h5, h6, h7, h8, h9, h10, h11, h14, h16, h17, h18, h19, if_false] at hR
  obtain ⟨a, b⟩ := within_iff.mp hR
  have e12 := lv_neT (a := 12) h12 (by decide)
  have e13 := lv_neT (a := 13) h13 (by decide)
  have e14 := lv_neT (a := 14) h14 (by decide)
  have e15 := lv_neT (a := 15) h15 (by decide)
  rw [i32_le] at a b
  have t12 : (12 : Int32).toInt = 12 := by decide
  have t15 : (15 : Int32).toInt = 15 := by decide
  omega
def f_X6_act (σ : mS) (x1 : Int32) (x2 : Int32) (x3 : Int32) (x4 : Int32) (x5 : Int32) : Int32 × mS := (if (f_X6_within x1 (0 : Int32) (2 : Int32)) = 0 then ((-2 : Int32), σ) else (if (f_X6_fits x2 x3 x4 x5) = 0 then ((-2 : Int32), σ) else (if (σ 69 x1.toNatClampNeg) ≤ 0 then (if (σ 60 x1.toNatClampNeg) = (24 : Int32) then ((-4 : Int32), σ) else (((st2 (st2 (st2 (st2 (st2 σ 61 (((24 : Int32) * x1) + (σ 60 x1.toNatClampNeg)).toNatClampNeg x2) 62 (((24 : Int32) * x1) + (σ 60 x1.toNatClampNeg)).toNatClampNeg x3) 63 (((24 : Int32) * x1) + (σ 60 x1.toNatClampNeg)).toNatClampNeg x4) 64 (((24 : Int32) * x1) + (σ 60 x1.toNatClampNeg)).toNatClampNeg x5) 60 x1.toNatClampNeg (((st2 (st2 (st2 (st2 σ 61 (((24 : Int32) * x1) + (σ 60 x1.toNatClampNeg)).toNatClampNeg x2) 62 (((24 : Int32) * x1) + (σ 60 x1.toNatClampNeg)).toNatClampNeg x3) 63 (((24 : Int32) * x1) + (σ 60 x1.toNatClampNeg)).toNatClampNeg x4) 64 (((24 : Int32) * x1) + (σ 60 x1.toNatClampNeg)).toNatClampNeg x5) 60 x1.toNatClampNeg) + (1 : Int32))) 60 x1.toNatClampNeg), (st2 (st2 (st2 (st2 (st2 σ 61 (((24 : Int32) * x1) + (σ 60 x1.toNatClampNeg)).toNatClampNeg x2) 62 (((24 : Int32) * x1) + (σ 60 x1.toNatClampNeg)).toNatClampNeg x3) 63 (((24 : Int32) * x1) + (σ 60 x1.toNatClampNeg)).toNatClampNeg x4) 64 (((24 : Int32) * x1) + (σ 60 x1.toNatClampNeg)).toNatClampNeg x5) 60 x1.toNatClampNeg (((st2 (st2 (st2 (st2 σ 61 (((24 : Int32) * x1) + (σ 60 x1.toNatClampNeg)).toNatClampNeg x2) 62 (((24 : Int32) * x1) + (σ 60 x1.toNatClampNeg)).toNatClampNeg x3) 63 (((24 : Int32) * x1) + (σ 60 x1.toNatClampNeg)).toNatClampNeg x4) 64 (((24 : Int32) * x1) + (σ 60 x1.toNatClampNeg)).toNatClampNeg x5) 60 x1.toNatClampNeg) + (1 : Int32))))) else ((-3 : Int32), σ))))
theorem mw_X6_act : mW yX6_act cX6_act 7 (some .int) 5 := ⟨wd_co_yX6_act, wd_ini_RX6, ⟨by decide, by decide⟩, by decide +kernel, by decide⟩
set_option maxRecDepth 100000 in
set_option maxHeartbeats 4000000 in
theorem c_X6_act (l : Launch) {G : gT} (hF : FullR G) (σ : mS) (x1 : Int32) (x2 : Int32) (x3 : Int32) (x4 : Int32) (x5 : Int32) (hM : ∀ t, t < 3 → vp_in (σ 60 t) 25) : Ct l G yX6_act cX6_act 7 (some .int) 3 [.ref (ad G 53), .int x1, .int x2, .int x3, .int x4, .int x5] κI σ (f_X6_act σ x1 x2 x3 x4 x5) := by
  refine Ct.ofV [(0, .ref (ad G 53)), (1, .int x1), (2, .int x2), (3, .int x3), (4, .int x4), (5, .int x5)] rfl (by decide) (Nat.le_of_ble_eq_true rfl) rfl (fun X => ?_)
  unfold f_X6_act
  refine Vload_n dX6_act_0 1 rfl 1 rfl ?_
  refine Viconst dX6_act_1 (0 : Int32) (by decide) 2 rfl ?_
  refine Viconst dX6_act_2 (2 : Int32) (by decide) 3 rfl ?_
  refine VcSp dX6_act_3 [.int x1, .int (0 : Int32), .int (2 : Int32)] (c_X6_within l hF σ x1 (0 : Int32) (2 : Int32)) mw_X6_within wd_sm_yX6_within wd_ml_RX6_111 (by decide) rfl rfl (Nat.le_of_ble_eq_true rfl) 6 rfl ?_
  refine Vifeq (fun v => v) dX6_act_6 21 9 (by decide) rfl (fun h1 => ?_) (fun h1 => ?_)
  · refine Vbipush dX6_act_21 (-2 : Int32) (by decide) 23 rfl ?_
    exact Viret dX6_act_23
  · refine Vload_n dX6_act_9 2 rfl 10 rfl ?_
    refine Vload_n dX6_act_10 3 rfl 11 rfl ?_
    refine Vload dX6_act_11 4 rfl 13 rfl ?_
    refine Vload dX6_act_13 5 rfl 15 rfl ?_
    refine VcSp dX6_act_15 [.int x2, .int x3, .int x4, .int x5] (c_X6_fits l hF σ x2 x3 x4 x5) mw_X6_fits wd_sm_yX6_fits wd_ml_RX6_125 (by decide) rfl rfl (Nat.le_of_ble_eq_true rfl) 18 rfl ?_
    refine Vifne (fun v => v) dX6_act_18 24 21 (by decide) rfl (fun h2 => ?_) (fun h2 => ?_)
    · refine Vaload_n dX6_act_24 0 rfl 25 rfl ?_
      refine Vget (53) 16 dX6_act_25 28 rfl (hF.1 53 (by decide)) wk53 rfl inX6 (by decide) wd_fl_RX6_56 (v := .ref (ad G 69)) rfl ?_
      refine Vload_n dX6_act_28 1 rfl 29 rfl ?_
      refine Vld dX6_act_29 30 rfl (hF.1 69 (by decide)) wk69 wn69 hF.2.1 (by first | exact (by assumption) | exact (vin_cmp2 (by assumption) (by assumption) (by decide)) | exact (vin_cell (by assumption)) | exact (vin_reg (by assumption)) | exact (vin_row (by assumption)) | exact (vin_cnt (by assumption) (by assumption) (by decide) (by decide) (by assumption)) | exact (vin_cmp (by assumption) (by assumption) (by decide)) | exact (vp_in_iff.mpr (by decide)) | exact (vin_w (by assumption) (by decide))) ?_
      refine Vifle (fun v => v) dX6_act_30 36 33 (by decide) rfl (fun h3 => ?_) (fun h3 => ?_)
      · refine Vaload_n dX6_act_36 0 rfl 37 rfl ?_
        refine Vget (53) 7 dX6_act_37 40 rfl (hF.1 53 (by decide)) wk53 rfl inX6 (by decide) wd_fl_RX6_29 (v := .ref (ad G 60)) rfl ?_
        refine Vload_n dX6_act_40 1 rfl 41 rfl ?_
        refine Vld dX6_act_41 42 rfl (hF.1 60 (by decide)) wk60 wn60 hF.2.1 (by first | exact (by assumption) | exact (vin_cmp2 (by assumption) (by assumption) (by decide)) | exact (vin_cell (by assumption)) | exact (vin_reg (by assumption)) | exact (vin_row (by assumption)) | exact (vin_cnt (by assumption) (by assumption) (by decide) (by decide) (by assumption)) | exact (vin_cmp (by assumption) (by assumption) (by decide)) | exact (vp_in_iff.mpr (by decide)) | exact (vin_w (by assumption) (by decide))) ?_
        refine Vbipush dX6_act_42 (24 : Int32) (by decide) 44 rfl ?_
        refine Vicne (fun v => v) dX6_act_44 50 47 (by decide) rfl (fun h4 => ?_) (fun h4 => ?_)
        · refine Vbipush dX6_act_50 (24 : Int32) (by decide) 52 rfl ?_
          refine Vload_n dX6_act_52 1 rfl 53 rfl ?_
          refine Vimul dX6_act_53 54 rfl ?_
          refine Vaload_n dX6_act_54 0 rfl 55 rfl ?_
          refine Vget (53) 7 dX6_act_55 58 rfl (hF.1 53 (by decide)) wk53 rfl inX6 (by decide) wd_fl_RX6_29 (v := .ref (ad G 60)) rfl ?_
          refine Vload_n dX6_act_58 1 rfl 59 rfl ?_
          refine Vld dX6_act_59 60 rfl (hF.1 60 (by decide)) wk60 wn60 hF.2.1 (by first | exact (by assumption) | exact (vin_cmp2 (by assumption) (by assumption) (by decide)) | exact (vin_cell (by assumption)) | exact (vin_reg (by assumption)) | exact (vin_row (by assumption)) | exact (vin_cnt (by assumption) (by assumption) (by decide) (by decide) (by assumption)) | exact (vin_cmp (by assumption) (by assumption) (by decide)) | exact (vp_in_iff.mpr (by decide)) | exact (vin_w (by assumption) (by decide))) ?_
          refine Viadd dX6_act_60 61 rfl ?_
          refine Vstore dX6_act_61 [(6, .int (((24 : Int32) * x1) + (σ 60 x1.toNatClampNeg))), (0, .ref (ad G 53)), (1, .int x1), (2, .int x2), (3, .int x3), (4, .int x4), (5, .int x5)] 63 rfl (by decide) rfl ?_
          refine Vaload_n dX6_act_63 1 rfl 64 rfl ?_
          refine Vget (53) 8 dX6_act_64 67 rfl (hF.1 53 (by decide)) wk53 rfl inX6 (by decide) wd_fl_RX6_32 (v := .ref (ad G 61)) rfl ?_
          refine Vload dX6_act_67 0 rfl 69 rfl ?_
          refine Vload_n dX6_act_69 3 rfl 70 rfl ?_
          refine Vst dX6_act_70 71 rfl (hF.1 61 (by decide)) wk61 wn61 hF.2.1 (by first | exact (vmul 24 3 (by decide) (vin_w (by assumption) (by decide)) (vin_ne (hM _ (vin_lt (vin_w (by assumption) (by decide)))) (by decide) (by assumption)) (by decide))) ?_
          refine Vaload_n dX6_act_71 1 rfl 72 rfl ?_
          refine Vget (53) 9 dX6_act_72 75 rfl (hF.1 53 (by decide)) wk53 rfl inX6 (by decide) wd_fl_RX6_35 (v := .ref (ad G 62)) rfl ?_
          refine Vload dX6_act_75 0 rfl 77 rfl ?_
          refine Vload_n dX6_act_77 4 rfl 78 rfl ?_
          refine Vst dX6_act_78 79 rfl (hF.1 62 (by decide)) wk62 wn62 hF.2.1 (by first | exact (vmul 24 3 (by decide) (vin_w (by assumption) (by decide)) (vin_ne (hM _ (vin_lt (vin_w (by assumption) (by decide)))) (by decide) (by assumption)) (by decide))) ?_
          refine Vaload_n dX6_act_79 1 rfl 80 rfl ?_
          refine Vget (53) 10 dX6_act_80 83 rfl (hF.1 53 (by decide)) wk53 rfl inX6 (by decide) wd_fl_RX6_38 (v := .ref (ad G 63)) rfl ?_
          refine Vload dX6_act_83 0 rfl 85 rfl ?_
          refine Vload dX6_act_85 5 rfl 87 rfl ?_
          refine Vst dX6_act_87 88 rfl (hF.1 63 (by decide)) wk63 wn63 hF.2.1 (by first | exact (vmul 24 3 (by decide) (vin_w (by assumption) (by decide)) (vin_ne (hM _ (vin_lt (vin_w (by assumption) (by decide)))) (by decide) (by assumption)) (by decide))) ?_
          refine Vaload_n dX6_act_88 1 rfl 89 rfl ?_
          refine Vget (53) 11 dX6_act_89 92 rfl (hF.1 53 (by decide)) wk53 rfl inX6 (by decide) wd_fl_RX6_41 (v := .ref (ad G 64)) rfl ?_
          refine Vload dX6_act_92 0 rfl 94 rfl ?_
          refine Vload dX6_act_94 6 rfl 96 rfl ?_
          refine Vst dX6_act_96 97 rfl (hF.1 64 (by decide)) wk64 wn64 hF.2.1 (by first | exact (vmul 24 3 (by decide) (vin_w (by assumption) (by decide)) (vin_ne (hM _ (vin_lt (vin_w (by assumption) (by decide)))) (by decide) (by assumption)) (by decide))) ?_
          refine Vaload_n dX6_act_97 1 rfl 98 rfl ?_
          refine Vget (53) 7 dX6_act_98 101 rfl (hF.1 53 (by decide)) wk53 rfl inX6 (by decide) wd_fl_RX6_29 (v := .ref (ad G 60)) rfl ?_
          refine Vload_n dX6_act_101 2 rfl 102 rfl ?_
          refine Vdup2 dX6_act_102 103 rfl ?_
          refine Vld dX6_act_103 104 rfl (hF.1 60 (by decide)) wk60 wn60 hF.2.1 (by first | exact (by assumption) | exact (vin_cmp2 (by assumption) (by assumption) (by decide)) | exact (vin_cell (by assumption)) | exact (vin_reg (by assumption)) | exact (vin_row (by assumption)) | exact (vin_cnt (by assumption) (by assumption) (by decide) (by decide) (by assumption)) | exact (vin_cmp (by assumption) (by assumption) (by decide)) | exact (vp_in_iff.mpr (by decide)) | exact (vin_w (by assumption) (by decide))) ?_
          refine Viconst dX6_act_104 (1 : Int32) (by decide) 105 rfl ?_
          refine Viadd dX6_act_105 106 rfl ?_
          refine Vst dX6_act_106 107 rfl (hF.1 60 (by decide)) wk60 wn60 hF.2.1 (by first | exact (by assumption) | exact (vin_cmp2 (by assumption) (by assumption) (by decide)) | exact (vin_cell (by assumption)) | exact (vin_reg (by assumption)) | exact (vin_row (by assumption)) | exact (vin_cnt (by assumption) (by assumption) (by decide) (by decide) (by assumption)) | exact (vin_cmp (by assumption) (by assumption) (by decide)) | exact (vp_in_iff.mpr (by decide)) | exact (vin_w (by assumption) (by decide))) ?_
          refine Vaload_n dX6_act_107 1 rfl 108 rfl ?_
          refine Vget (53) 7 dX6_act_108 111 rfl (hF.1 53 (by decide)) wk53 rfl inX6 (by decide) wd_fl_RX6_29 (v := .ref (ad G 60)) rfl ?_
          refine Vload_n dX6_act_111 2 rfl 112 rfl ?_
          refine Vld dX6_act_112 113 rfl (hF.1 60 (by decide)) wk60 wn60 hF.2.1 (by first | exact (by assumption) | exact (vin_cmp2 (by assumption) (by assumption) (by decide)) | exact (vin_cell (by assumption)) | exact (vin_reg (by assumption)) | exact (vin_row (by assumption)) | exact (vin_cnt (by assumption) (by assumption) (by decide) (by decide) (by assumption)) | exact (vin_cmp (by assumption) (by assumption) (by decide)) | exact (vp_in_iff.mpr (by decide)) | exact (vin_w (by assumption) (by decide))) ?_
          exact Viret dX6_act_113
        · refine Vbipush dX6_act_47 (-4 : Int32) (by decide) 49 rfl ?_
          exact Viret dX6_act_49
      · refine Vbipush dX6_act_33 (-3 : Int32) (by decide) 35 rfl ?_
        exact Viret dX6_act_35
    · refine Vbipush dX6_act_21 (-2 : Int32) (by decide) 23 rfl ?_
      exact Viret dX6_act_23
def f_X6_stateOf (σ : mS) (x1 : Int32) : Int32 := (if (σ 68 x1.toNatClampNeg) = 0 then (if (σ 66 x1.toNatClampNeg) < (σ 60 x1.toNatClampNeg) then (0 : Int32) else (if (σ 71 x1.toNatClampNeg) = 0 then (if (σ 73 x1.toNatClampNeg) = 0 then (1 : Int32) else (0 : Int32)) else (0 : Int32))) else (2 : Int32))
theorem mw_X6_stateOf : mW yX6_stateOf cX6_stateOf 2 (some .int) 1 := ⟨wd_co_yX6_stateOf, wd_ini_RX6, ⟨by decide, by decide⟩, by decide +kernel, by decide⟩
set_option maxRecDepth 100000 in
set_option maxHeartbeats 4000000 in
theorem c_X6_stateOf (l : Launch) {G : gT} (hF : FullR G) (σ : mS) (x1 : Int32) (ht : vp_in x1 3) : Ct l G yX6_stateOf cX6_stateOf 2 (some .int) 0 [.ref (ad G 53), .int x1] κI σ (f_X6_stateOf σ x1, σ) := by
  refine Ct.ofV [(0, .ref (ad G 53)), (1, .int x1)] rfl (by decide) (Nat.le_of_ble_eq_true rfl) rfl (fun X => ?_)
  unfold f_X6_stateOf
  refine Vaload_n dX6_stateOf_0 0 rfl 1 rfl ?_
  refine Vget (53) 15 dX6_stateOf_1 4 rfl (hF.1 53 (by decide)) wk53 rfl inX6 (by decide) wd_fl_RX6_53 (v := .ref (ad G 68)) rfl ?_
  refine Vload_n dX6_stateOf_4 1 rfl 5 rfl ?_
  refine Vldz dX6_stateOf_5 6 rfl (hF.1 68 (by decide)) wk68 wn68 hF.2.2.1 (by first | exact (by assumption) | exact (vin_cmp2 (by assumption) (by assumption) (by decide)) | exact (vin_cell (by assumption)) | exact (vin_reg (by assumption)) | exact (vin_row (by assumption)) | exact (vin_cnt (by assumption) (by assumption) (by decide) (by decide) (by assumption)) | exact (vin_cmp (by assumption) (by assumption) (by decide)) | exact (vp_in_iff.mpr (by decide))) ?_
  refine Vifeq (fun v => (v, σ)) dX6_stateOf_6 11 9 (by decide) rfl (fun h1 => ?_) (fun h1 => ?_)
  · refine Vaload_n dX6_stateOf_11 0 rfl 12 rfl ?_
    refine Vget (53) 13 dX6_stateOf_12 15 rfl (hF.1 53 (by decide)) wk53 rfl inX6 (by decide) wd_fl_RX6_47 (v := .ref (ad G 66)) rfl ?_
    refine Vload_n dX6_stateOf_15 1 rfl 16 rfl ?_
    refine Vld dX6_stateOf_16 17 rfl (hF.1 66 (by decide)) wk66 wn66 hF.2.1 (by first | exact (by assumption) | exact (vin_cmp2 (by assumption) (by assumption) (by decide)) | exact (vin_cell (by assumption)) | exact (vin_reg (by assumption)) | exact (vin_row (by assumption)) | exact (vin_cnt (by assumption) (by assumption) (by decide) (by decide) (by assumption)) | exact (vin_cmp (by assumption) (by assumption) (by decide)) | exact (vp_in_iff.mpr (by decide))) ?_
    refine Vaload_n dX6_stateOf_17 0 rfl 18 rfl ?_
    refine Vget (53) 7 dX6_stateOf_18 21 rfl (hF.1 53 (by decide)) wk53 rfl inX6 (by decide) wd_fl_RX6_29 (v := .ref (ad G 60)) rfl ?_
    refine Vload_n dX6_stateOf_21 1 rfl 22 rfl ?_
    refine Vld dX6_stateOf_22 23 rfl (hF.1 60 (by decide)) wk60 wn60 hF.2.1 (by first | exact (by assumption) | exact (vin_cmp2 (by assumption) (by assumption) (by decide)) | exact (vin_cell (by assumption)) | exact (vin_reg (by assumption)) | exact (vin_row (by assumption)) | exact (vin_cnt (by assumption) (by assumption) (by decide) (by decide) (by assumption)) | exact (vin_cmp (by assumption) (by assumption) (by decide)) | exact (vp_in_iff.mpr (by decide))) ?_
    refine Viclt (fun v => (v, σ)) dX6_stateOf_23 48 26 (by decide) rfl (fun h2 => ?_) (fun h2 => ?_)
    · refine Viconst dX6_stateOf_48 (0 : Int32) (by decide) 49 rfl ?_
      exact Viret dX6_stateOf_49
    · refine Vaload_n dX6_stateOf_26 0 rfl 27 rfl ?_
      refine Vget (53) 18 dX6_stateOf_27 30 rfl (hF.1 53 (by decide)) wk53 rfl inX6 (by decide) wd_fl_RX6_62 (v := .ref (ad G 71)) rfl ?_
      refine Vload_n dX6_stateOf_30 1 rfl 31 rfl ?_
      refine Vld dX6_stateOf_31 32 rfl (hF.1 71 (by decide)) wk71 wn71 hF.2.1 (by first | exact (by assumption) | exact (vin_cmp2 (by assumption) (by assumption) (by decide)) | exact (vin_cell (by assumption)) | exact (vin_reg (by assumption)) | exact (vin_row (by assumption)) | exact (vin_cnt (by assumption) (by assumption) (by decide) (by decide) (by assumption)) | exact (vin_cmp (by assumption) (by assumption) (by decide)) | exact (vp_in_iff.mpr (by decide))) ?_
      refine Vifne (fun v => (v, σ)) dX6_stateOf_32 48 35 (by decide) rfl (fun h3 => ?_) (fun h3 => ?_)
      · refine Viconst dX6_stateOf_48 (0 : Int32) (by decide) 49 rfl ?_
        exact Viret dX6_stateOf_49
      · refine Vaload_n dX6_stateOf_35 0 rfl 36 rfl ?_
        refine Vget (53) 20 dX6_stateOf_36 39 rfl (hF.1 53 (by decide)) wk53 rfl inX6 (by decide) wd_fl_RX6_68 (v := .ref (ad G 73)) rfl ?_
        refine Vload_n dX6_stateOf_39 1 rfl 40 rfl ?_
        refine Vldz dX6_stateOf_40 41 rfl (hF.1 73 (by decide)) wk73 wn73 hF.2.2.1 (by first | exact (by assumption) | exact (vin_cmp2 (by assumption) (by assumption) (by decide)) | exact (vin_cell (by assumption)) | exact (vin_reg (by assumption)) | exact (vin_row (by assumption)) | exact (vin_cnt (by assumption) (by assumption) (by decide) (by decide) (by assumption)) | exact (vin_cmp (by assumption) (by assumption) (by decide)) | exact (vp_in_iff.mpr (by decide))) ?_
        refine Vifne (fun v => (v, σ)) dX6_stateOf_41 48 44 (by decide) rfl (fun h4 => ?_) (fun h4 => ?_)
        · refine Viconst dX6_stateOf_48 (0 : Int32) (by decide) 49 rfl ?_
          exact Viret dX6_stateOf_49
        · refine Viconst dX6_stateOf_44 (1 : Int32) (by decide) 45 rfl ?_
          refine Vgoto dX6_stateOf_45 49 (by decide) ?_
          exact Viret dX6_stateOf_49
  · refine Viconst dX6_stateOf_9 (2 : Int32) (by decide) 10 rfl ?_
    exact Viret dX6_stateOf_10
def f_X6_note (σ : mS) (x1 : Int32) (x2 : Int32) (x3 : Int32) : Int32 × mS := (0, (st2 (st2 (st2 (st2 σ 81 ((σ 53 28) - (σ 53 28) / (30 : Int32) * (30 : Int32)).toNatClampNeg x1) 82 ((σ 53 28) - (σ 53 28) / (30 : Int32) * (30 : Int32)).toNatClampNeg x2) 83 ((σ 53 28) - (σ 53 28) / (30 : Int32) * (30 : Int32)).toNatClampNeg x3) 53 28 ((σ 53 28) + (1 : Int32))))
theorem mw_X6_note : mW yX6_note cX6_note 4 none 3 := ⟨wd_co_yX6_note, wd_ini_RX6, ⟨by decide, by decide⟩, by decide +kernel, by decide⟩
set_option maxRecDepth 100000 in
set_option maxHeartbeats 4000000 in
theorem c_X6_note (l : Launch) {G : gT} (hF : FullR G) (σ : mS) (x1 : Int32) (x2 : Int32) (x3 : Int32) (b : Nat) (hw : Wr σ b) (hb : b < 2 ^ 30) : Ct l G yX6_note cX6_note 4 none 0 [.ref (ad G 53), .int x1, .int x2, .int x3] κV σ (f_X6_note σ x1 x2 x3) := by
  refine Ct.ofV [(0, .ref (ad G 53)), (1, .int x1), (2, .int x2), (3, .int x3)] rfl (by decide) (Nat.le_of_ble_eq_true rfl) rfl (fun X => ?_)
  unfold f_X6_note
  refine Vaload_n dX6_note_0 0 rfl 1 rfl ?_
  refine Vget (53) 29 dX6_note_1 4 rfl (hF.1 53 (by decide)) wk53 rfl inX6 (by decide) wd_fl_RX6_92 (v := .ref (ad G 81)) rfl ?_
  refine Vaload_n dX6_note_4 0 rfl 5 rfl ?_
  refine Vget (53) 28 dX6_note_5 8 rfl (hF.1 53 (by decide)) wk53 rfl inX6 (by decide) wd_fl_RX6_107 (v := .int (σ 53 28)) rfl ?_
  refine Vbipush dX6_note_8 (30 : Int32) (by decide) 10 rfl ?_
  refine Virem dX6_note_10 (by first | assumption | decide) 11 rfl ?_
  refine Vload_n dX6_note_11 1 rfl 12 rfl ?_
  refine Vst dX6_note_12 13 rfl (hF.1 81 (by decide)) wk81 wn81 hF.2.1 (by first | exact (by assumption) | exact (vin_cmp2 (by assumption) (by assumption) (by decide)) | exact (vin_cell (by assumption)) | exact (vin_reg (by assumption)) | exact (vin_row (by assumption)) | exact (vin_cnt (by assumption) (by assumption) (by decide) (by decide) (by assumption)) | exact (vin_cmp (by assumption) (by assumption) (by decide)) | exact (vp_in_iff.mpr (by decide)) | exact (hw.rem (by omega))) ?_
  refine Vaload_n dX6_note_13 0 rfl 14 rfl ?_
  refine Vget (53) 30 dX6_note_14 17 rfl (hF.1 53 (by decide)) wk53 rfl inX6 (by decide) wd_fl_RX6_95 (v := .ref (ad G 82)) rfl ?_
  refine Vaload_n dX6_note_17 0 rfl 18 rfl ?_
  refine Vget (53) 28 dX6_note_18 21 rfl (hF.1 53 (by decide)) wk53 rfl inX6 (by decide) wd_fl_RX6_107 (v := .int (σ 53 28)) rfl ?_
  refine Vbipush dX6_note_21 (30 : Int32) (by decide) 23 rfl ?_
  refine Virem dX6_note_23 (by first | assumption | decide) 24 rfl ?_
  refine Vload_n dX6_note_24 2 rfl 25 rfl ?_
  refine Vst dX6_note_25 26 rfl (hF.1 82 (by decide)) wk82 wn82 hF.2.1 (by first | exact (by assumption) | exact (vin_cmp2 (by assumption) (by assumption) (by decide)) | exact (vin_cell (by assumption)) | exact (vin_reg (by assumption)) | exact (vin_row (by assumption)) | exact (vin_cnt (by assumption) (by assumption) (by decide) (by decide) (by assumption)) | exact (vin_cmp (by assumption) (by assumption) (by decide)) | exact (vp_in_iff.mpr (by decide)) | exact (hw.rem (by omega))) ?_
  refine Vaload_n dX6_note_26 0 rfl 27 rfl ?_
  refine Vget (53) 31 dX6_note_27 30 rfl (hF.1 53 (by decide)) wk53 rfl inX6 (by decide) wd_fl_RX6_98 (v := .ref (ad G 83)) rfl ?_
  refine Vaload_n dX6_note_30 0 rfl 31 rfl ?_
  refine Vget (53) 28 dX6_note_31 34 rfl (hF.1 53 (by decide)) wk53 rfl inX6 (by decide) wd_fl_RX6_107 (v := .int (σ 53 28)) rfl ?_
  refine Vbipush dX6_note_34 (30 : Int32) (by decide) 36 rfl ?_
  refine Virem dX6_note_36 (by first | assumption | decide) 37 rfl ?_
  refine Vload_n dX6_note_37 3 rfl 38 rfl ?_
  refine Vst dX6_note_38 39 rfl (hF.1 83 (by decide)) wk83 wn83 hF.2.1 (by first | exact (by assumption) | exact (vin_cmp2 (by assumption) (by assumption) (by decide)) | exact (vin_cell (by assumption)) | exact (vin_reg (by assumption)) | exact (vin_row (by assumption)) | exact (vin_cnt (by assumption) (by assumption) (by decide) (by decide) (by assumption)) | exact (vin_cmp (by assumption) (by assumption) (by decide)) | exact (vp_in_iff.mpr (by decide)) | exact (hw.rem (by omega))) ?_
  refine Vaload_n dX6_note_39 0 rfl 40 rfl ?_
  refine Vdupa dX6_note_40 41 rfl ?_
  refine Vget (53) 28 dX6_note_41 44 rfl (hF.1 53 (by decide)) wk53 rfl inX6 (by decide) wd_fl_RX6_107 (v := .int (σ 53 28)) rfl ?_
  refine Viconst dX6_note_44 (1 : Int32) (by decide) 45 rfl ?_
  refine Viadd dX6_note_45 46 rfl ?_
  refine Vput (53) 28 tyX6 dX6_note_46 49 rfl (hF.1 53 (by decide)) wk53 rfl inX6 tyX6_ok nmX6 (by decide) wd_fl_RX6_107 rfl (ty := .int) (by decide +kernel) rfl rfl (fun f => rfl) (fun f => Nat.le_of_ble_eq_true rfl) ?_
  exact Vvret dX6_note_49
theorem note_q {q : Nat} (h : q ≠ 53 ∧ q ≠ 81 ∧ q ≠ 82 ∧ q ≠ 83) (σ : mS) (t c v : Int32) : (f_X6_note σ t c v).2 q = σ q := by
  unfold f_X6_note
  simp only [st2_nq h.1, st2_nq h.2.1, st2_nq h.2.2.1, st2_nq h.2.2.2]
theorem note_w (σ : mS) (t c v : Int32) : (f_X6_note σ t c v).2 53 28 = σ 53 28 + 1 := by
  unfold f_X6_note
  simp [st2]
theorem ch_s {σ : mS} {y z : Int32} {i : Nat} (hc : y = nI i) (hi : i < 2 ^ 31) (hz : vp_in z 8) (hch : ∀ k, k < i → vp_in (σ 84 k) 8) : ∀ k, k < i + 1 → vp_in (st2 σ 84 y.toNatClampNeg z 84 k) 8 := by
  intro k hk
  rw [hc, nI_clamp hi]
  by_cases h : k = i
  · simpa [st2, h] using hz
  · simpa [st2, h] using hch k (by omega)
theorem rd0_s {σ : mS} {y : Int32} {i : Nat} (hc : y = nI i) (hi : i < 2 ^ 31) (hz : ∀ k, k < i → σ 56 k = 0) : ∀ k, k < i + 1 → st2 σ 56 y.toNatClampNeg 0 56 k = 0 := by
  intro k hk
  rw [hc, nI_clamp hi]
  by_cases h : k = i
  · simp [st2, h]
  · simpa [st2, h] using hz k (by omega)
def f_X6_write (σ : mS) (x1 : Int32) (x2 : Int32) (x3 : Int32) : Int32 × mS := (ap (fun u1 => (0, u1.2)) (f_X6_note (st2 (st2 σ 54 x2.toNatClampNeg x3) 55 x2.toNatClampNeg (0 : Int32)) x1 x2 x3))
theorem mw_X6_write : mW yX6_write cX6_write 4 none 3 := ⟨wd_co_yX6_write, wd_ini_RX6, ⟨by decide, by decide⟩, by decide +kernel, by decide⟩
set_option maxRecDepth 100000 in
set_option maxHeartbeats 4000000 in
theorem c_X6_write (l : Launch) {G : gT} (hF : FullR G) (σ : mS) (x1 : Int32) (x2 : Int32) (x3 : Int32) (hcc : vp_in x2 8) (b : Nat) (hw : Wr σ b) (hb : b < 2 ^ 30) : Ct l G yX6_write cX6_write 4 none 1 [.ref (ad G 53), .int x1, .int x2, .int x3] κV σ (f_X6_write σ x1 x2 x3) := by
  refine Ct.ofV [(0, .ref (ad G 53)), (1, .int x1), (2, .int x2), (3, .int x3)] rfl (by decide) (Nat.le_of_ble_eq_true rfl) rfl (fun X => ?_)
  unfold f_X6_write
  refine Vaload_n dX6_write_0 0 rfl 1 rfl ?_
  refine Vget (53) 1 dX6_write_1 4 rfl (hF.1 53 (by decide)) wk53 rfl inX6 (by decide) wd_fl_RX6_7 (v := .ref (ad G 54)) rfl ?_
  refine Vload_n dX6_write_4 2 rfl 5 rfl ?_
  refine Vload_n dX6_write_5 3 rfl 6 rfl ?_
  refine Vst dX6_write_6 7 rfl (hF.1 54 (by decide)) wk54 wn54 hF.2.1 (by first | exact (by assumption) | exact (vin_cmp2 (by assumption) (by assumption) (by decide)) | exact (vin_cell (by assumption)) | exact (vin_reg (by assumption)) | exact (vin_row (by assumption)) | exact (vin_cnt (by assumption) (by assumption) (by decide) (by decide) (by assumption)) | exact (vin_cmp (by assumption) (by assumption) (by decide)) | exact (vp_in_iff.mpr (by decide)) | exact (vin_mCell (by assumption)) | exact (vin_mRegister (by assumption)) | exact (vin_w (by assumption) (by decide))) ?_
  refine Vaload_n dX6_write_7 0 rfl 8 rfl ?_
  refine Vget (53) 2 dX6_write_8 11 rfl (hF.1 53 (by decide)) wk53 rfl inX6 (by decide) wd_fl_RX6_13 (v := .ref (ad G 55)) rfl ?_
  refine Vload_n dX6_write_11 2 rfl 12 rfl ?_
  refine Viconst dX6_write_12 (0 : Int32) (by decide) 13 rfl ?_
  refine Vstz dX6_write_13 14 rfl (hF.1 55 (by decide)) wk55 wn55 hF.2.2.1 (by first | exact (by assumption) | exact (vin_cmp2 (by assumption) (by assumption) (by decide)) | exact (vin_cell (by assumption)) | exact (vin_reg (by assumption)) | exact (vin_row (by assumption)) | exact (vin_cnt (by assumption) (by assumption) (by decide) (by decide) (by assumption)) | exact (vin_cmp (by assumption) (by assumption) (by decide)) | exact (vp_in_iff.mpr (by decide)) | exact (vin_mCell (by assumption)) | exact (vin_mRegister (by assumption)) | exact (vin_w (by assumption) (by decide))) (by decide) ?_
  refine Vaload_n dX6_write_14 0 rfl 15 rfl ?_
  refine Vload_n dX6_write_15 1 rfl 16 rfl ?_
  refine Vload_n dX6_write_16 2 rfl 17 rfl ?_
  refine Vload_n dX6_write_17 3 rfl 18 rfl ?_
  refine Vgen ?_
  intro u1 eu1
  refine VcVv (u := u1) dX6_write_18 [.int x1, .int x2, .int x3] (by rw [eu1]; exact c_X6_note l hF (st2 (st2 σ 54 x2.toNatClampNeg x3) 55 x2.toNatClampNeg (0 : Int32)) x1 x2 x3 b (hw.o rfl) hb) mw_X6_note wd_im_yX6_note wd_se_yX6_note wd_ml_RX6_129 (hF.1 53 (by decide)) wk53 rfl rfl (by decide) rfl rfl (Nat.le_of_ble_eq_true rfl) 21 rfl ?_
  exact Vvret dX6_write_21
theorem write_q {q : Nat} (h : q ≠ 53 ∧ q ≠ 54 ∧ q ≠ 55 ∧ q ≠ 81 ∧ q ≠ 82 ∧ q ≠ 83) (σ : mS) (t c v : Int32) : (f_X6_write σ t c v).2 q = σ q := by
  simp only [f_X6_write, ap]
  rw [note_q ⟨h.1, h.2.2.2⟩, st2_nq h.2.2.1, st2_nq h.2.1]
theorem write_w (σ : mS) (t c v : Int32) : (f_X6_write σ t c v).2 53 28 = σ 53 28 + 1 := by
  simp only [f_X6_write, ap]
  rw [note_w]; simp [st2]
theorem Wr_write {σ : mS} {b : Nat} (h : Wr σ b) (t c v : Int32) : Wr (f_X6_write σ t c v).2 (b + 1) := by
  obtain ⟨w, h1, h2⟩ := h
  exact ⟨w + 1, by omega, by rw [write_w, h2, nI_1]⟩
