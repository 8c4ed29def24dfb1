/-! an act, a failure, a turn keep the reference's invariants -/
theorem vin_place {x : Int32} (h : ¬ f_X6_isPlaceIn x = 0) : vp_in x 25 := vin_mPlace h
theorem fits10 {k x y z : Int32} (hR : ¬ f_X6_fits k x y z = 0) (h : k = 10) : vp_in x 25 := by
  subst h
  simp [f_X6_fits] at hR
  exact vin_mPlace hR
theorem fits14 {k x y z : Int32} (hR : ¬ f_X6_fits k x y z = 0) (h : k = 14) : vp_in x 25 := by
  subst h
  simp [f_X6_fits] at hR
  exact vin_mPlace hR
theorem fits11y {k x y z : Int32} (hR : ¬ f_X6_fits k x y z = 0) (h : k = 11) : vp_in y 25 := by
  subst h
  by_cases h1 : f_X6_isRegister x = 0 <;> simp [f_X6_fits, h1] at hR <;> exact vin_mPlace hR
set_option maxRecDepth 100000 in
theorem RI_doAct {b : Nat} {σ : mS} {t : Int32} (h : RI b σ) (ht : vp_in t 3) (hl : σ 66 t.toNatClampNeg < σ 60 t.toNatClampNeg) : RI (b + 11) (f_X6_doAct σ t).2 ∧ ((f_X6_doAct σ t).2 53 32 = 0 → vp_in (f_X6_doAct σ t).1 25) := by
  have hp := act_p h ht hl
  have hR := act_f h ht hl
  have hn : vp_in (σ 66 t.toNatClampNeg + 1) 25 := vin_up hp (by decide)
  have hT := h.1.2.2.1 _ (vin_lt ht)
  unfold f_X6_doAct
  simp only [ap]
  by_cases e0 : aK σ t = (0 : Int32)
  · rw [if_pos e0]
    exact ⟨(RI_give h _ _ _).mono (by omega), fun _ => hn⟩
  rw [if_neg e0]
  by_cases e1 : aK σ t = (1 : Int32)
  · rw [if_pos e1]
    exact ⟨(RI_give (RI_read h _ _) _ _ _).mono (by omega), fun _ => hn⟩
  rw [if_neg e1]
  by_cases e2 : aK σ t = (2 : Int32)
  · rw [if_pos e2]
    exact ⟨(RI_lay h _ _ _).mono (by omega), fun _ => hn⟩
  rw [if_neg e2]
  by_cases e3 : aK σ t = (3 : Int32)
  · rw [if_pos e3]
    exact ⟨(RI_compute h _ _ _ _ _).mono (by omega), fun _ => hn⟩
  rw [if_neg e3]
  by_cases e4 : aK σ t = (4 : Int32)
  · rw [if_pos e4]
    exact ⟨(RI_compute h _ _ _ _ _).mono (by omega), fun _ => hn⟩
  rw [if_neg e4]
  by_cases e5 : aK σ t = (5 : Int32)
  · rw [if_pos e5]
    exact ⟨(RI_compute h _ _ _ _ _).mono (by omega), fun _ => hn⟩
  rw [if_neg e5]
  by_cases e6 : aK σ t = (6 : Int32)
  · rw [if_pos e6]
    exact ⟨(RI_compute h _ _ _ _ _).mono (by omega), fun _ => hn⟩
  rw [if_neg e6]
  by_cases e9 : aK σ t = (9 : Int32)
  · rw [if_pos e9]
    exact ⟨RI_swap h _ _ _ _, fun _ => hn⟩
  rw [if_neg e9]
  by_cases e10 : aK σ t = (10 : Int32)
  · rw [if_pos e10]
    exact ⟨h.mono (by omega), fun _ => fits10 hR e10⟩
  rw [if_neg e10]
  by_cases e11 : aK σ t = (11 : Int32)
  · rw [if_pos e11]
    split
    · exact ⟨h.mono (by omega), fun _ => fits11y hR e11⟩
    · exact ⟨h.mono (by omega), fun _ => hn⟩
  rw [if_neg e11]
  by_cases e12 : aK σ t = (12 : Int32)
  · rw [if_pos e12]
    exact ⟨(RI_beginAtom h _ hp).mono (by omega), fun _ => hn⟩
  rw [if_neg e12]
  by_cases e13 : aK σ t = (13 : Int32)
  · rw [if_pos e13]
    have h1 := RI_endAtom h t ht hp
    exact ⟨h1.1.mono (by omega), h1.2⟩
  rw [if_neg e13]
  by_cases e14 : aK σ t = (14 : Int32)
  · rw [if_pos e14]
    by_cases d : σ 71 t.toNatClampNeg = (4 : Int32)
    · rw [if_pos d]; exact ⟨(h.f _ _ (by decide)).mono (by omega), fun _ => hn⟩
    · rw [if_neg d]
      exact ⟨(RI.s71 (h.s72 _ (fits14 hR e14)) _ (show vp_in (σ 71 t.toNatClampNeg + 1) 5 from tr_up hT d)).mono (by omega), fun _ => hn⟩
  rw [if_neg e14]
  by_cases e15 : aK σ t = (15 : Int32)
  · rw [if_pos e15]
    by_cases d : σ 71 t.toNatClampNeg = 0
    · rw [if_pos d]; exact ⟨(h.f _ _ (by decide)).mono (by omega), fun _ => hn⟩
    · rw [if_neg d]
      split
      · exact ⟨(RI.s71 h _ (tr_dn hT d)).mono (by omega), fun _ => hn⟩
      · split
        · exact ⟨(h.f _ _ (by decide)).mono (by omega), fun _ => hn⟩
        · exact ⟨(RI.s71 h _ (tr_dn hT d)).mono (by omega), fun _ => hn⟩
  rw [if_neg e15]
  by_cases e16 : aK σ t = (16 : Int32)
  · rw [if_pos e16]
    exact ⟨(h.f _ _ (by decide)).mono (by omega), fun _ => hn⟩
  rw [if_neg e16]
  split
  · exact ⟨(RI_rows h _ _ _ _ _ hR (fitsK hR e0 e1 e2 e3 e4 e5 e6 e9 e10 e11 (fun e => e12 e) (fun e => e13 e) e14 e15 e16)).mono (by omega), fun _ => hn⟩
  · exact ⟨(h.f _ _ (by decide)).mono (by omega), fun _ => hn⟩
set_option maxRecDepth 100000 in
theorem RI_fail {b : Nat} {σ : mS} {t : Int32} (h : RI b σ) (ht : vp_in t 3) : RI b (f_X6_fail σ t).2 := by
  have hT := h.1.2.2.1 _ (vin_lt ht)
  unfold f_X6_fail
  by_cases d : (st2 σ 53 0 (σ 53 0 + 1)) 71 t.toNatClampNeg = 0
  · rw [if_pos d]
    exact (((h.f _ _ (by decide)).s _ _ _ (by decide)).s _ _ _ (by decide)).s _ _ _ (by decide)
  · rw [if_neg d]
    have hne : ¬ σ 71 t.toNatClampNeg = 0 := d
    have h1 := RI.s66 (((h.f 0 (σ 53 0 + 1) (by decide)).s71 t.toNatClampNeg (v := (st2 σ 53 0 (σ 53 0 + 1)) 71 t.toNatClampNeg - 1) (show vp_in (σ 71 t.toNatClampNeg - 1) 5 from tr_dn hT hne)).s 65 ((4 : Int32) * t).toNatClampNeg (σ 53 32) (by decide)) t.toNatClampNeg (v := (st2 (st2 (st2 σ 53 0 (σ 53 0 + 1)) 71 t.toNatClampNeg ((st2 σ 53 0 (σ 53 0 + 1)) 71 t.toNatClampNeg - 1)) 65 ((4 : Int32) * t).toNatClampNeg (σ 53 32)) 72 ((4 : Int32) * t + (st2 (st2 (st2 σ 53 0 (σ 53 0 + 1)) 71 t.toNatClampNeg ((st2 σ 53 0 (σ 53 0 + 1)) 71 t.toNatClampNeg - 1)) 65 ((4 : Int32) * t).toNatClampNeg (σ 53 32)) 71 t.toNatClampNeg).toNatClampNeg)
      (show vp_in (σ 72 _) 25 from h.1.2.2.2.1 _ (vin_lt (vmul 4 3 (by decide) ht (by simpa [st2] using fail_ix ht hT hne) (by decide))))
    split
    · exact h1.s _ _ _ (by decide)
    · split <;> exact h1.s _ _ _ (by decide)
theorem RI_doTurn {b : Nat} {σ : mS} {t : Int32} (h : RI b σ) (ht : vp_in t 3) : RI (b + 12) (f_X6_doTurn σ t).2 := by
  have hR1 := h.tick (0 : Int32) t.toNatClampNeg (((st2 σ 53 32 (0 : Int32)) 69 t.toNatClampNeg) + (1 : Int32))
  unfold f_X6_doTurn
  simp only [ap]
  split
  · rename_i hl
    have hA := RI_doAct hR1 ht hl
    split
    · rename_i hf
      exact (hA.1.s66 _ (hA.2 hf)).mono (by omega)
    · exact (RI_fail hA.1 ht).mono (by omega)
  · exact (RI_fail (hR1.f 32 (5 : Int32) (by decide)) ht).mono (by omega)
theorem RI_turn {b : Nat} {σ : mS} (h : RI b σ) (t : Int32) : RI (b + 12) (f_X6_turn σ t).2 := by
  unfold f_X6_turn
  simp only [ap]
  split
  · exact h.mono (by omega)
  · rename_i hw
    (repeat' split) <;> first | exact h.mono (by omega) | exact RI_doTurn h (vin_w hw (by decide))
