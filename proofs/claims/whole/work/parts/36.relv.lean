/-! an act leaves the count of failures -/
theorem k053 {σ : mS} {v : Int32} : st2 σ 53 32 v 53 0 = σ 53 0 := by simp [st2]
theorem k054 {σ : mS} {k : Nat} {v : Int32} : st2 σ 54 k v 53 0 = σ 53 0 := by rw [st2_nq (by decide)]
theorem k055 {σ : mS} {k : Nat} {v : Int32} : st2 σ 55 k v 53 0 = σ 53 0 := by rw [st2_nq (by decide)]
theorem k056 {σ : mS} {k : Nat} {v : Int32} : st2 σ 56 k v 53 0 = σ 53 0 := by rw [st2_nq (by decide)]
theorem k057 {σ : mS} {k : Nat} {v : Int32} : st2 σ 57 k v 53 0 = σ 53 0 := by rw [st2_nq (by decide)]
theorem k058 {σ : mS} {k : Nat} {v : Int32} : st2 σ 58 k v 53 0 = σ 53 0 := by rw [st2_nq (by decide)]
theorem k059 {σ : mS} {k : Nat} {v : Int32} : st2 σ 59 k v 53 0 = σ 53 0 := by rw [st2_nq (by decide)]
theorem k065 {σ : mS} {k : Nat} {v : Int32} : st2 σ 65 k v 53 0 = σ 53 0 := by rw [st2_nq (by decide)]
theorem k070 {σ : mS} {k : Nat} {v : Int32} : st2 σ 70 k v 53 0 = σ 53 0 := by rw [st2_nq (by decide)]
theorem k073 {σ : mS} {k : Nat} {v : Int32} : st2 σ 73 k v 53 0 = σ 53 0 := by rw [st2_nq (by decide)]
theorem k074 {σ : mS} {k : Nat} {v : Int32} : st2 σ 74 k v 53 0 = σ 53 0 := by rw [st2_nq (by decide)]
theorem k075 {σ : mS} {k : Nat} {v : Int32} : st2 σ 75 k v 53 0 = σ 53 0 := by rw [st2_nq (by decide)]
theorem k076 {σ : mS} {k : Nat} {v : Int32} : st2 σ 76 k v 53 0 = σ 53 0 := by rw [st2_nq (by decide)]
theorem k077 {σ : mS} {k : Nat} {v : Int32} : st2 σ 77 k v 53 0 = σ 53 0 := by rw [st2_nq (by decide)]
theorem k078 {σ : mS} {k : Nat} {v : Int32} : st2 σ 78 k v 53 0 = σ 53 0 := by rw [st2_nq (by decide)]
theorem k079 {σ : mS} {k : Nat} {v : Int32} : st2 σ 79 k v 53 0 = σ 53 0 := by rw [st2_nq (by decide)]
theorem k080 {σ : mS} {k : Nat} {v : Int32} : st2 σ 80 k v 53 0 = σ 53 0 := by rw [st2_nq (by decide)]
theorem k081 {σ : mS} {k : Nat} {v : Int32} : st2 σ 81 k v 53 0 = σ 53 0 := by rw [st2_nq (by decide)]
theorem k082 {σ : mS} {k : Nat} {v : Int32} : st2 σ 82 k v 53 0 = σ 53 0 := by rw [st2_nq (by decide)]
theorem k083 {σ : mS} {k : Nat} {v : Int32} : st2 σ 83 k v 53 0 = σ 53 0 := by rw [st2_nq (by decide)]
theorem k084 {σ : mS} {k : Nat} {v : Int32} : st2 σ 84 k v 53 0 = σ 53 0 := by rw [st2_nq (by decide)]
theorem k071 {σ : mS} {k : Nat} {v : Int32} : st2 σ 71 k v 53 0 = σ 53 0 := by rw [st2_nq (by decide)]
theorem k072 {σ : mS} {k : Nat} {v : Int32} : st2 σ 72 k v 53 0 = σ 53 0 := by rw [st2_nq (by decide)]
theorem k0_note (σ : mS) (t c v : Int32) : (f_X6_note σ t c v).2 53 0 = σ 53 0 := by simp [f_X6_note, st2]
theorem k0_write (σ : mS) (t c v : Int32) : (f_X6_write σ t c v).2 53 0 = σ 53 0 := by simp only [f_X6_write, ap, k0_note, k054, k055]
theorem k0_l11 : ∀ (n : Nat) (y : Int32) (σ : mS), (l_X6_readPlain_11 n y σ).2 53 0 = σ 53 0 := by
  intro n
  induction n with
  | zero => intro y σ; rfl
  | succ n ih => intro y σ; rw [l_X6_readPlain_11.eq_2]; split <;> simp only [ih, k053, k054, k055, k056, k057, k058, k059, k065, k070, k073, k074, k075, k076, k077, k078, k079, k080, k081, k082, k083, k084]
theorem k0_l32 : ∀ (n : Nat) (a c d : Int32) (σ : mS), (l_X6_readPlain_32 n a c d σ).2.2.2 53 0 = σ 53 0 := by
  intro n
  induction n with
  | zero => intro a c d σ; rfl
  | succ n ih => intro a c d σ; rw [l_X6_readPlain_32.eq_2]; (repeat' split) <;> simp only [ih, k053, k054, k055, k056, k057, k058, k059, k065, k070, k073, k074, k075, k076, k077, k078, k079, k080, k081, k082, k083, k084]
theorem k0_l114 : ∀ (n : Nat) (a c : Int32) (σ : mS) (t : Int32), (l_X6_readPlain_114 n a c σ t).2 53 0 = σ 53 0 := by
  intro n
  induction n with
  | zero => intro a c σ t; rfl
  | succ n ih => intro a c σ t; rw [l_X6_readPlain_114.eq_2]; split <;> simp only [ap, ih, k0_write]
theorem k0_readPlain (σ : mS) (t c : Int32) : (f_X6_readPlain σ t c).2 53 0 = σ 53 0 := by
  simp only [f_X6_readPlain, ap]
  (repeat' split) <;> simp only [k0_l114, k0_l32, k0_l11, k053, k054, k055, k056, k057, k058, k059, k065, k070, k073, k074, k075, k076, k077, k078, k079, k080, k081, k082, k083, k084]
theorem k0_read (σ : mS) (t c : Int32) : (f_X6_read σ t c).2 53 0 = σ 53 0 := by
  simp only [f_X6_read, ap]
  (repeat' split) <;> simp only [k0_readPlain, k053, k054, k055, k056, k057, k058, k059, k065, k070, k073, k074, k075, k076, k077, k078, k079, k080, k081, k082, k083, k084]
theorem k0_lay (σ : mS) (t c v : Int32) : (f_X6_lay σ t c v).2 53 0 = σ 53 0 := by
  simp only [f_X6_lay, ap]
  (repeat' split) <;> simp only [k0_write, k053, k054, k055, k056, k057, k058, k059, k065, k070, k073, k074, k075, k076, k077, k078, k079, k080, k081, k082, k083, k084]
theorem k0_l2 : ∀ (n : Nat) (y : Int32) (σ : mS) (t : Int32), (l_X6_clearAtom_2 n y σ t).2 53 0 = σ 53 0 := by
  intro n
  induction n with
  | zero => intro y σ t; rfl
  | succ n ih => intro y σ t; rw [l_X6_clearAtom_2.eq_2]; split <;> simp only [ih, k053, k054, k055, k056, k057, k058, k059, k065, k070, k073, k074, k075, k076, k077, k078, k079, k080, k081, k082, k083, k084]
theorem k0_clearAtom (σ : mS) (t : Int32) : (f_X6_clearAtom σ t).2 53 0 = σ 53 0 := by
  simp only [f_X6_clearAtom, ap]
  (repeat' split) <;> simp only [k0_l2, k053, k054, k055, k056, k057, k058, k059, k065, k070, k073, k074, k075, k076, k077, k078, k079, k080, k081, k082, k083, k084]
theorem k0_l55 : ∀ (n : Nat) (y : Int32) (σ : mS) (t : Int32), (l_X6_beginAtom_55 n y σ t).2 53 0 = σ 53 0 := by
  intro n
  induction n with
  | zero => intro y σ t; rfl
  | succ n ih => intro y σ t; rw [l_X6_beginAtom_55.eq_2]; split <;> simp only [ih, k053, k054, k055, k056, k057, k058, k059, k065, k070, k073, k074, k075, k076, k077, k078, k079, k080, k081, k082, k083, k084]
theorem k0_beginAtom (σ : mS) (t : Int32) : (f_X6_beginAtom σ t).2 53 0 = σ 53 0 := by
  simp only [f_X6_beginAtom, ap]
  (repeat' split) <;> simp only [k0_l55, k0_clearAtom, k053, k054, k055, k056, k057, k058, k059, k065, k070, k073, k074, k075, k076, k077, k078, k079, k080, k081, k082, k083, k084]
theorem k0_l121 : ∀ (n : Nat) (y : Int32) (σ : mS) (t : Int32), (l_X6_endAtom_121 n y σ t).2 53 0 = σ 53 0 := by
  intro n
  induction n with
  | zero => intro y σ t; rfl
  | succ n ih => intro y σ t; rw [l_X6_endAtom_121.eq_2]; split <;> simp only [ih, k053, k054, k055, k056, k057, k058, k059, k065, k070, k073, k074, k075, k076, k077, k078, k079, k080, k081, k082, k083, k084]
theorem k0_l168 : ∀ (n : Nat) (y : Int32) (σ : mS) (t : Int32), (l_X6_endAtom_168 n y σ t).2 53 0 = σ 53 0 := by
  intro n
  induction n with
  | zero => intro y σ t; rfl
  | succ n ih => intro y σ t; rw [l_X6_endAtom_168.eq_2]; (repeat' split) <;> simp only [ap, ih, k0_write]
theorem k0_endAtom (σ : mS) (t : Int32) : (f_X6_endAtom σ t).2 53 0 = σ 53 0 := by
  simp only [f_X6_endAtom, ap]
  (repeat' split) <;> simp only [k0_l121, k0_l168, k0_clearAtom, k053, k054, k055, k056, k057, k058, k059, k065, k070, k073, k074, k075, k076, k077, k078, k079, k080, k081, k082, k083, k084]
theorem k0_give (σ : mS) (t i v : Int32) : (f_X6_give σ t i v).2 53 0 = σ 53 0 := by
  simp only [f_X6_give, ap]
  (repeat' split) <;> simp only [k053, k054, k055, k056, k057, k058, k059, k065, k070, k073, k074, k075, k076, k077, k078, k079, k080, k081, k082, k083, k084]
theorem k0_checkItem (σ : mS) (row i : Int32) : (f_X6_checkItem σ row i).2 53 0 = σ 53 0 := by
  simp only [f_X6_checkItem, ap]
  (repeat' split) <;> simp only [k053, k054, k055, k056, k057, k058, k059, k065, k070, k073, k074, k075, k076, k077, k078, k079, k080, k081, k082, k083, k084]
theorem k0_compute (σ : mS) (t k x a b : Int32) : (f_X6_compute σ t k x a b).2 53 0 = σ 53 0 := by
  simp only [f_X6_compute, ap]
  (repeat' split) <;> simp only [k0_give, k053, k054, k055, k056, k057, k058, k059, k065, k070, k073, k074, k075, k076, k077, k078, k079, k080, k081, k082, k083, k084]
theorem k0_swap (σ : mS) (t c y z : Int32) : (f_X6_swap σ t c y z).2 53 0 = σ 53 0 := by
  simp only [f_X6_swap, ap]
  (repeat' split) <;> simp only [k0_read, k0_lay, k0_give, k053, k054, k055, k056, k057, k058, k059, k065, k070, k073, k074, k075, k076, k077, k078, k079, k080, k081, k082, k083, k084]
theorem k0_l200 : ∀ (n : Nat) (y : Int32) (σ : mS) (x p : Int32), (l_X6_rows_200 n y σ x p).2 53 0 = σ 53 0 := by
  intro n
  induction n with
  | zero => intro y σ x p; rfl
  | succ n ih => intro y σ x p; rw [l_X6_rows_200.eq_2]; split <;> simp only [ih, k053, k054, k055, k056, k057, k058, k059, k065, k070, k073, k074, k075, k076, k077, k078, k079, k080, k081, k082, k083, k084]
theorem k0_rows (σ : mS) (t k x y z : Int32) : (f_X6_rows σ t k x y z).2 53 0 = σ 53 0 := by
  simp only [f_X6_rows, ap]
  (repeat' split) <;> simp only [k0_l200, k0_checkItem, k0_give, k053, k054, k055, k056, k057, k058, k059, k065, k070, k073, k074, k075, k076, k077, k078, k079, k080, k081, k082, k083, k084]
theorem k0_doAct (σ : mS) (t : Int32) : (f_X6_doAct σ t).2 53 0 = σ 53 0 := by
  unfold f_X6_doAct
  simp only [ap]
  by_cases e0 : aK σ t = (0 : Int32)
  · rw [if_pos e0]
    simp only [k0_give, k0_read, k0_lay, k0_beginAtom, k0_endAtom, k0_compute, k0_swap, k0_rows, k053]
  rw [if_neg e0]
  by_cases e1 : aK σ t = (1 : Int32)
  · rw [if_pos e1]
    simp only [k0_give, k0_read, k0_lay, k0_beginAtom, k0_endAtom, k0_compute, k0_swap, k0_rows, k053]
  rw [if_neg e1]
  by_cases e2 : aK σ t = (2 : Int32)
  · rw [if_pos e2]
    simp only [k0_give, k0_read, k0_lay, k0_beginAtom, k0_endAtom, k0_compute, k0_swap, k0_rows, k053]
  rw [if_neg e2]
  by_cases e3 : aK σ t = (3 : Int32)
  · rw [if_pos e3]
    simp only [k0_give, k0_read, k0_lay, k0_beginAtom, k0_endAtom, k0_compute, k0_swap, k0_rows, k053]
  rw [if_neg e3]
  by_cases e4 : aK σ t = (4 : Int32)
  · rw [if_pos e4]
    simp only [k0_give, k0_read, k0_lay, k0_beginAtom, k0_endAtom, k0_compute, k0_swap, k0_rows, k053]
  rw [if_neg e4]
  by_cases e5 : aK σ t = (5 : Int32)
  · rw [if_pos e5]
    simp only [k0_give, k0_read, k0_lay, k0_beginAtom, k0_endAtom, k0_compute, k0_swap, k0_rows, k053]
  rw [if_neg e5]
  by_cases e6 : aK σ t = (6 : Int32)
  · rw [if_pos e6]
    simp only [k0_give, k0_read, k0_lay, k0_beginAtom, k0_endAtom, k0_compute, k0_swap, k0_rows, k053]
  rw [if_neg e6]
  by_cases e9 : aK σ t = (9 : Int32)
  · rw [if_pos e9]
    simp only [k0_give, k0_read, k0_lay, k0_beginAtom, k0_endAtom, k0_compute, k0_swap, k0_rows, k053]
  rw [if_neg e9]
  by_cases e10 : aK σ t = (10 : Int32)
  · rw [if_pos e10]
  rw [if_neg e10]
  by_cases e11 : aK σ t = (11 : Int32)
  · rw [if_pos e11]
    split <;> rfl
  rw [if_neg e11]
  by_cases e12 : aK σ t = (12 : Int32)
  · rw [if_pos e12]
    simp only [k0_give, k0_read, k0_lay, k0_beginAtom, k0_endAtom, k0_compute, k0_swap, k0_rows, k053]
  rw [if_neg e12]
  by_cases e13 : aK σ t = (13 : Int32)
  · rw [if_pos e13]
    simp only [k0_give, k0_read, k0_lay, k0_beginAtom, k0_endAtom, k0_compute, k0_swap, k0_rows, k053]
  rw [if_neg e13]
  by_cases e14 : aK σ t = (14 : Int32)
  · rw [if_pos e14]
    split <;> simp only [k053, k071, k072]
  rw [if_neg e14]
  by_cases e15 : aK σ t = (15 : Int32)
  · rw [if_pos e15]
    split
    · simp only [k053]
    · split
      · simp only [k071]
      · split <;> simp only [k053, k071]
  rw [if_neg e15]
  by_cases e16 : aK σ t = (16 : Int32)
  · rw [if_pos e16]
    simp only [k0_give, k0_read, k0_lay, k0_beginAtom, k0_endAtom, k0_compute, k0_swap, k0_rows, k053]
  rw [if_neg e16]
  split <;> simp only [k0_rows, k053]
