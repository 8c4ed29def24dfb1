section
-- ===== PART A: goes FIRST, ahead of the names: the tables' words, and 'selects' of the private methods out of them =====
/-- a private method of a class that the tables say can be made, by its rows of tables_1 -/
def lw_okq (q : MethodName × Nat) : Prop := (q.1.cls ≠ "java/lang/invoke/MethodHandle" ∧ q.1.cls ≠ "java/lang/invoke/VarHandle") ∧ Cond.instantiable q.1.cls q.2 ∈ tables_1 ∧ Cond.privateMethod q.1 ∈ tables_1 ∧ Cond.instanceMethod q.1 ∈ tables_1
theorem lw_p0 : lw_okq (⟨"MutableCells", "strandOf", "(I)LMutableCells$Strand;"⟩, 5) := ⟨⟨by decide +kernel, by decide +kernel⟩, List.mem_of_getElem? (i := 11) (by decide +kernel), List.mem_of_getElem? (i := 212) (by decide +kernel), List.mem_of_getElem? (i := 213) (by decide +kernel)⟩
theorem lw_p1 : lw_okq (⟨"MutableCells", "takeTurn", "(LMutableCells$Strand;)V"⟩, 5) := ⟨⟨by decide +kernel, by decide +kernel⟩, List.mem_of_getElem? (i := 11) (by decide +kernel), List.mem_of_getElem? (i := 243) (by decide +kernel), List.mem_of_getElem? (i := 244) (by decide +kernel)⟩
theorem lw_p2 : lw_okq (⟨"MutableCells", "perform", "(LMutableCells$Strand;)I"⟩, 5) := ⟨⟨by decide +kernel, by decide +kernel⟩, List.mem_of_getElem? (i := 11) (by decide +kernel), List.mem_of_getElem? (i := 247) (by decide +kernel), List.mem_of_getElem? (i := 248) (by decide +kernel)⟩
theorem lw_p3 : lw_okq (⟨"MutableCells", "getCell", "(LMutableCells$Strand;II)I"⟩, 5) := ⟨⟨by decide +kernel, by decide +kernel⟩, List.mem_of_getElem? (i := 11) (by decide +kernel), List.mem_of_getElem? (i := 254) (by decide +kernel), List.mem_of_getElem? (i := 255) (by decide +kernel)⟩
theorem lw_p4 : lw_okq (⟨"MutableCells", "failureOfReading", "(LMutableCells$Strand;I)I"⟩, 5) := ⟨⟨by decide +kernel, by decide +kernel⟩, List.mem_of_getElem? (i := 11) (by decide +kernel), List.mem_of_getElem? (i := 258) (by decide +kernel), List.mem_of_getElem? (i := 259) (by decide +kernel)⟩
theorem lw_p5 : lw_okq (⟨"MutableCells", "readCell", "(LMutableCells$Strand;I)I"⟩, 5) := ⟨⟨by decide +kernel, by decide +kernel⟩, List.mem_of_getElem? (i := 11) (by decide +kernel), List.mem_of_getElem? (i := 281) (by decide +kernel), List.mem_of_getElem? (i := 282) (by decide +kernel)⟩
theorem lw_p6 : lw_okq (⟨"MutableCells", "putCell", "(LMutableCells$Strand;II)V"⟩, 5) := ⟨⟨by decide +kernel, by decide +kernel⟩, List.mem_of_getElem? (i := 11) (by decide +kernel), List.mem_of_getElem? (i := 319) (by decide +kernel), List.mem_of_getElem? (i := 320) (by decide +kernel)⟩
theorem lw_p7 : lw_okq (⟨"MutableCells", "loadItem", "(LMutableCells$Strand;III)I"⟩, 5) := ⟨⟨by decide +kernel, by decide +kernel⟩, List.mem_of_getElem? (i := 11) (by decide +kernel), List.mem_of_getElem? (i := 328) (by decide +kernel), List.mem_of_getElem? (i := 329) (by decide +kernel)⟩
theorem lw_p8 : lw_okq (⟨"MutableCells", "swapCell", "(LMutableCells$Strand;III)I"⟩, 5) := ⟨⟨by decide +kernel, by decide +kernel⟩, List.mem_of_getElem? (i := 11) (by decide +kernel), List.mem_of_getElem? (i := 358) (by decide +kernel), List.mem_of_getElem? (i := 359) (by decide +kernel)⟩
theorem lw_p9 : lw_okq (⟨"MutableCells", "endAtom", "(LMutableCells$Strand;)I"⟩, 5) := ⟨⟨by decide +kernel, by decide +kernel⟩, List.mem_of_getElem? (i := 11) (by decide +kernel), List.mem_of_getElem? (i := 362) (by decide +kernel), List.mem_of_getElem? (i := 363) (by decide +kernel)⟩
theorem lw_p10 : lw_okq (⟨"MutableCells", "isOvertaken", "(LMutableCells$Atom;)Z"⟩, 5) := ⟨⟨by decide +kernel, by decide +kernel⟩, List.mem_of_getElem? (i := 11) (by decide +kernel), List.mem_of_getElem? (i := 366) (by decide +kernel), List.mem_of_getElem? (i := 367) (by decide +kernel)⟩
theorem lw_p11 : lw_okq (⟨"MutableCells$Strand", "divide", "(III)I"⟩, 15) := ⟨⟨by decide +kernel, by decide +kernel⟩, List.mem_of_getElem? (i := 93) (by decide +kernel), List.mem_of_getElem? (i := 413) (by decide +kernel), List.mem_of_getElem? (i := 414) (by decide +kernel)⟩
theorem lw_p12 : lw_okq (⟨"MutableCells$Strand", "beginAtom", "()I"⟩, 15) := ⟨⟨by decide +kernel, by decide +kernel⟩, List.mem_of_getElem? (i := 93) (by decide +kernel), List.mem_of_getElem? (i := 417) (by decide +kernel), List.mem_of_getElem? (i := 418) (by decide +kernel)⟩
theorem lw_p13 : lw_okq (⟨"MutableCells$Strand", "openTry", "(I)I"⟩, 15) := ⟨⟨by decide +kernel, by decide +kernel⟩, List.mem_of_getElem? (i := 93) (by decide +kernel), List.mem_of_getElem? (i := 421) (by decide +kernel), List.mem_of_getElem? (i := 422) (by decide +kernel)⟩
theorem lw_p14 : lw_okq (⟨"MutableCells$Strand", "closeTry", "()I"⟩, 15) := ⟨⟨by decide +kernel, by decide +kernel⟩, List.mem_of_getElem? (i := 93) (by decide +kernel), List.mem_of_getElem? (i := 425) (by decide +kernel), List.mem_of_getElem? (i := 426) (by decide +kernel)⟩
theorem lw_p15 : lw_okq (⟨"MutableCells", "drawn", "(I)LMutableCells$Strand;"⟩, 5) := ⟨⟨by decide +kernel, by decide +kernel⟩, List.mem_of_getElem? (i := 11) (by decide +kernel), List.mem_of_getElem? (i := 438) (by decide +kernel), List.mem_of_getElem? (i := 439) (by decide +kernel)⟩
def lw_privs_1 : List (MethodName × Nat) := [(⟨"MutableCells", "strandOf", "(I)LMutableCells$Strand;"⟩, 5), (⟨"MutableCells", "takeTurn", "(LMutableCells$Strand;)V"⟩, 5), (⟨"MutableCells", "perform", "(LMutableCells$Strand;)I"⟩, 5), (⟨"MutableCells", "getCell", "(LMutableCells$Strand;II)I"⟩, 5), (⟨"MutableCells", "failureOfReading", "(LMutableCells$Strand;I)I"⟩, 5), (⟨"MutableCells", "readCell", "(LMutableCells$Strand;I)I"⟩, 5), (⟨"MutableCells", "putCell", "(LMutableCells$Strand;II)V"⟩, 5), (⟨"MutableCells", "loadItem", "(LMutableCells$Strand;III)I"⟩, 5), (⟨"MutableCells", "swapCell", "(LMutableCells$Strand;III)I"⟩, 5), (⟨"MutableCells", "endAtom", "(LMutableCells$Strand;)I"⟩, 5), (⟨"MutableCells", "isOvertaken", "(LMutableCells$Atom;)Z"⟩, 5), (⟨"MutableCells$Strand", "divide", "(III)I"⟩, 15), (⟨"MutableCells$Strand", "beginAtom", "()I"⟩, 15), (⟨"MutableCells$Strand", "openTry", "(I)I"⟩, 15), (⟨"MutableCells$Strand", "closeTry", "()I"⟩, 15), (⟨"MutableCells", "drawn", "(I)LMutableCells$Strand;"⟩, 5)]
theorem lw_r1 : ∀ q ∈ lw_privs_1, lw_okq q := List.forall_mem_cons.mpr ⟨lw_p0, List.forall_mem_cons.mpr ⟨lw_p1, List.forall_mem_cons.mpr ⟨lw_p2, List.forall_mem_cons.mpr ⟨lw_p3, List.forall_mem_cons.mpr ⟨lw_p4, List.forall_mem_cons.mpr ⟨lw_p5, List.forall_mem_cons.mpr ⟨lw_p6, List.forall_mem_cons.mpr ⟨lw_p7, List.forall_mem_cons.mpr ⟨lw_p8, List.forall_mem_cons.mpr ⟨lw_p9, List.forall_mem_cons.mpr ⟨lw_p10, List.forall_mem_cons.mpr ⟨lw_p11, List.forall_mem_cons.mpr ⟨lw_p12, List.forall_mem_cons.mpr ⟨lw_p13, List.forall_mem_cons.mpr ⟨lw_p14, List.forall_mem_cons.mpr ⟨lw_p15, fun _ h => absurd h List.not_mem_nil⟩⟩⟩⟩⟩⟩⟩⟩⟩⟩⟩⟩⟩⟩⟩⟩
theorem lw_p16 : lw_okq (⟨"MutableCells", "goes", "(I)Z"⟩, 5) := ⟨⟨by decide +kernel, by decide +kernel⟩, List.mem_of_getElem? (i := 11) (by decide +kernel), List.mem_of_getElem? (i := 442) (by decide +kernel), List.mem_of_getElem? (i := 443) (by decide +kernel)⟩
theorem lw_p17 : lw_okq (⟨"MutableCells", "restart", "(Z)I"⟩, 5) := ⟨⟨by decide +kernel, by decide +kernel⟩, List.mem_of_getElem? (i := 11) (by decide +kernel), List.mem_of_getElem? (i := 497) (by decide +kernel), List.mem_of_getElem? (i := 498) (by decide +kernel)⟩
theorem lw_p18 : lw_okq (⟨"MutableCellsModel", "begin", "()V"⟩, 34) := ⟨⟨by decide +kernel, by decide +kernel⟩, List.mem_of_getElem? (i := 512) (by decide +kernel), List.mem_of_getElem? (i := 518) (by decide +kernel), List.mem_of_getElem? (i := 519) (by decide +kernel)⟩
theorem lw_p19 : lw_okq (⟨"MutableCellsModel", "stateOf", "(I)I"⟩, 34) := ⟨⟨by decide +kernel, by decide +kernel⟩, List.mem_of_getElem? (i := 512) (by decide +kernel), List.mem_of_getElem? (i := 648) (by decide +kernel), List.mem_of_getElem? (i := 649) (by decide +kernel)⟩
theorem lw_p20 : lw_okq (⟨"MutableCellsModel", "doTurn", "(I)V"⟩, 34) := ⟨⟨by decide +kernel, by decide +kernel⟩, List.mem_of_getElem? (i := 512) (by decide +kernel), List.mem_of_getElem? (i := 652) (by decide +kernel), List.mem_of_getElem? (i := 653) (by decide +kernel)⟩
theorem lw_p21 : lw_okq (⟨"MutableCellsModel", "doAct", "(I)I"⟩, 34) := ⟨⟨by decide +kernel, by decide +kernel⟩, List.mem_of_getElem? (i := 512) (by decide +kernel), List.mem_of_getElem? (i := 656) (by decide +kernel), List.mem_of_getElem? (i := 657) (by decide +kernel)⟩
theorem lw_p22 : lw_okq (⟨"MutableCellsModel", "give", "(III)V"⟩, 34) := ⟨⟨by decide +kernel, by decide +kernel⟩, List.mem_of_getElem? (i := 512) (by decide +kernel), List.mem_of_getElem? (i := 660) (by decide +kernel), List.mem_of_getElem? (i := 661) (by decide +kernel)⟩
theorem lw_p23 : lw_okq (⟨"MutableCellsModel", "read", "(II)I"⟩, 34) := ⟨⟨by decide +kernel, by decide +kernel⟩, List.mem_of_getElem? (i := 512) (by decide +kernel), List.mem_of_getElem? (i := 664) (by decide +kernel), List.mem_of_getElem? (i := 665) (by decide +kernel)⟩
theorem lw_p24 : lw_okq (⟨"MutableCellsModel", "readPlain", "(II)I"⟩, 34) := ⟨⟨by decide +kernel, by decide +kernel⟩, List.mem_of_getElem? (i := 512) (by decide +kernel), List.mem_of_getElem? (i := 668) (by decide +kernel), List.mem_of_getElem? (i := 669) (by decide +kernel)⟩
theorem lw_p25 : lw_okq (⟨"MutableCellsModel", "write", "(III)V"⟩, 34) := ⟨⟨by decide +kernel, by decide +kernel⟩, List.mem_of_getElem? (i := 512) (by decide +kernel), List.mem_of_getElem? (i := 672) (by decide +kernel), List.mem_of_getElem? (i := 673) (by decide +kernel)⟩
theorem lw_p26 : lw_okq (⟨"MutableCellsModel", "note", "(III)V"⟩, 34) := ⟨⟨by decide +kernel, by decide +kernel⟩, List.mem_of_getElem? (i := 512) (by decide +kernel), List.mem_of_getElem? (i := 676) (by decide +kernel), List.mem_of_getElem? (i := 677) (by decide +kernel)⟩
theorem lw_p27 : lw_okq (⟨"MutableCellsModel", "\x72", "(II)I"⟩, 34) := ⟨⟨by decide +kernel, by decide +kernel⟩, List.mem_of_getElem? (i := 512) (by decide +kernel), List.mem_of_getElem? (i := 680) (by decide +kernel), List.mem_of_getElem? (i := 681) (by decide +kernel)⟩
theorem lw_p28 : lw_okq (⟨"MutableCellsModel", "lay", "(III)V"⟩, 34) := ⟨⟨by decide +kernel, by decide +kernel⟩, List.mem_of_getElem? (i := 512) (by decide +kernel), List.mem_of_getElem? (i := 684) (by decide +kernel), List.mem_of_getElem? (i := 685) (by decide +kernel)⟩
theorem lw_p29 : lw_okq (⟨"MutableCellsModel", "compute", "(IIIII)V"⟩, 34) := ⟨⟨by decide +kernel, by decide +kernel⟩, List.mem_of_getElem? (i := 512) (by decide +kernel), List.mem_of_getElem? (i := 688) (by decide +kernel), List.mem_of_getElem? (i := 689) (by decide +kernel)⟩
theorem lw_p30 : lw_okq (⟨"MutableCellsModel", "swap", "(IIII)V"⟩, 34) := ⟨⟨by decide +kernel, by decide +kernel⟩, List.mem_of_getElem? (i := 512) (by decide +kernel), List.mem_of_getElem? (i := 692) (by decide +kernel), List.mem_of_getElem? (i := 693) (by decide +kernel)⟩
theorem lw_p31 : lw_okq (⟨"MutableCellsModel", "beginAtom", "(I)V"⟩, 34) := ⟨⟨by decide +kernel, by decide +kernel⟩, List.mem_of_getElem? (i := 512) (by decide +kernel), List.mem_of_getElem? (i := 696) (by decide +kernel), List.mem_of_getElem? (i := 697) (by decide +kernel)⟩
def lw_privs_2 : List (MethodName × Nat) := [(⟨"MutableCells", "goes", "(I)Z"⟩, 5), (⟨"MutableCells", "restart", "(Z)I"⟩, 5), (⟨"MutableCellsModel", "begin", "()V"⟩, 34), (⟨"MutableCellsModel", "stateOf", "(I)I"⟩, 34), (⟨"MutableCellsModel", "doTurn", "(I)V"⟩, 34), (⟨"MutableCellsModel", "doAct", "(I)I"⟩, 34), (⟨"MutableCellsModel", "give", "(III)V"⟩, 34), (⟨"MutableCellsModel", "read", "(II)I"⟩, 34), (⟨"MutableCellsModel", "readPlain", "(II)I"⟩, 34), (⟨"MutableCellsModel", "write", "(III)V"⟩, 34), (⟨"MutableCellsModel", "note", "(III)V"⟩, 34), (⟨"MutableCellsModel", "\x72", "(II)I"⟩, 34), (⟨"MutableCellsModel", "lay", "(III)V"⟩, 34), (⟨"MutableCellsModel", "compute", "(IIIII)V"⟩, 34), (⟨"MutableCellsModel", "swap", "(IIII)V"⟩, 34), (⟨"MutableCellsModel", "beginAtom", "(I)V"⟩, 34)]
theorem lw_r2 : ∀ q ∈ lw_privs_2, lw_okq q := List.forall_mem_cons.mpr ⟨lw_p16, List.forall_mem_cons.mpr ⟨lw_p17, List.forall_mem_cons.mpr ⟨lw_p18, List.forall_mem_cons.mpr ⟨lw_p19, List.forall_mem_cons.mpr ⟨lw_p20, List.forall_mem_cons.mpr ⟨lw_p21, List.forall_mem_cons.mpr ⟨lw_p22, List.forall_mem_cons.mpr ⟨lw_p23, List.forall_mem_cons.mpr ⟨lw_p24, List.forall_mem_cons.mpr ⟨lw_p25, List.forall_mem_cons.mpr ⟨lw_p26, List.forall_mem_cons.mpr ⟨lw_p27, List.forall_mem_cons.mpr ⟨lw_p28, List.forall_mem_cons.mpr ⟨lw_p29, List.forall_mem_cons.mpr ⟨lw_p30, List.forall_mem_cons.mpr ⟨lw_p31, fun _ h => absurd h List.not_mem_nil⟩⟩⟩⟩⟩⟩⟩⟩⟩⟩⟩⟩⟩⟩⟩⟩
theorem lw_p32 : lw_okq (⟨"MutableCellsModel", "clearAtom", "(I)V"⟩, 34) := ⟨⟨by decide +kernel, by decide +kernel⟩, List.mem_of_getElem? (i := 512) (by decide +kernel), List.mem_of_getElem? (i := 700) (by decide +kernel), List.mem_of_getElem? (i := 701) (by decide +kernel)⟩
theorem lw_p33 : lw_okq (⟨"MutableCellsModel", "endAtom", "(I)I"⟩, 34) := ⟨⟨by decide +kernel, by decide +kernel⟩, List.mem_of_getElem? (i := 512) (by decide +kernel), List.mem_of_getElem? (i := 704) (by decide +kernel), List.mem_of_getElem? (i := 705) (by decide +kernel)⟩
theorem lw_p34 : lw_okq (⟨"MutableCellsModel", "rows", "(IIIII)V"⟩, 34) := ⟨⟨by decide +kernel, by decide +kernel⟩, List.mem_of_getElem? (i := 512) (by decide +kernel), List.mem_of_getElem? (i := 708) (by decide +kernel), List.mem_of_getElem? (i := 709) (by decide +kernel)⟩
theorem lw_p35 : lw_okq (⟨"MutableCellsModel", "checkItem", "(II)V"⟩, 34) := ⟨⟨by decide +kernel, by decide +kernel⟩, List.mem_of_getElem? (i := 512) (by decide +kernel), List.mem_of_getElem? (i := 712) (by decide +kernel), List.mem_of_getElem? (i := 713) (by decide +kernel)⟩
theorem lw_p36 : lw_okq (⟨"MutableCellsModel", "fail", "(I)V"⟩, 34) := ⟨⟨by decide +kernel, by decide +kernel⟩, List.mem_of_getElem? (i := 512) (by decide +kernel), List.mem_of_getElem? (i := 716) (by decide +kernel), List.mem_of_getElem? (i := 717) (by decide +kernel)⟩
def lw_privs_3 : List (MethodName × Nat) := [(⟨"MutableCellsModel", "clearAtom", "(I)V"⟩, 34), (⟨"MutableCellsModel", "endAtom", "(I)I"⟩, 34), (⟨"MutableCellsModel", "rows", "(IIIII)V"⟩, 34), (⟨"MutableCellsModel", "checkItem", "(II)V"⟩, 34), (⟨"MutableCellsModel", "fail", "(I)V"⟩, 34)]
theorem lw_r3 : ∀ q ∈ lw_privs_3, lw_okq q := List.forall_mem_cons.mpr ⟨lw_p32, List.forall_mem_cons.mpr ⟨lw_p33, List.forall_mem_cons.mpr ⟨lw_p34, List.forall_mem_cons.mpr ⟨lw_p35, List.forall_mem_cons.mpr ⟨lw_p36, fun _ h => absurd h List.not_mem_nil⟩⟩⟩⟩⟩
def lw_privs : List (MethodName × Nat) := lw_privs_1 ++ (lw_privs_2 ++ (lw_privs_3))
def lw_tbl : List Cond := k2_sels lw_privs ++ tables_1
theorem lw_privs_ok : ∀ q ∈ lw_privs, lw_okq q := by
  show ∀ q ∈ lw_privs_1 ++ (lw_privs_2 ++ (lw_privs_3)), lw_okq q
  exact List.forall_mem_append.mpr ⟨lw_r1, List.forall_mem_append.mpr ⟨lw_r2, lw_r3⟩⟩
-- ===== end of PART A; then your names; then what follows =====
/-! ===== BEGIN words of one list among another's, by their places ===== -/
theorem goodIn_r {big : List Cond} (ws : List Cond) (ps : List Nat) (hp : ws = ps.filterMap (fun i => big[i]?)) (h : ws.all goodWord = true) : GoodIn big ws := by
  intro w hw
  have h1 := List.all_eq_true.mp h w hw
  rw [hp] at hw
  obtain ⟨i, -, hi⟩ := List.mem_filterMap.mp hw
  have hm : w ∈ big := by first | exact List.mem_of_getElem? hi | exact List.getElem?_mem hi
  exact ⟨hm, good_of_word h1⟩
theorem goodIn_app {big a b : List Cond} (ha : GoodIn big a) (hb : GoodIn big b) : GoodIn big (a ++ b) := fun w h => (List.mem_append.mp h).elim (ha w) (hb w)
theorem goodIn_ca {big a b : List Cond} {c : Cond} (ha : GoodIn big (c :: a)) (hb : GoodIn big b) : GoodIn big (c :: (a ++ b)) := fun w h => (List.mem_cons.mp h).elim (fun e => ha w (List.mem_cons.mpr (Or.inl e))) (fun h => (List.mem_append.mp h).elim (fun h => ha w (List.mem_cons.mpr (Or.inr h))) (hb w))
theorem goodIn_sub {big ws : List Cond} (hm : ∀ w ∈ ws, w ∈ big) (h : ws.all goodWord = true) : GoodIn big ws := fun w hw => ⟨hm w hw, good_of_word (List.all_eq_true.mp h w hw)⟩
/-! ===== END ===== -/

/-! ===== BEGIN printed: names, fields, word lists, decode rows ===== -/
def RX0 : String := "MutableCells$Atom"
def TX0 : u_T := fun k => match k with
  | 0 => ("MutableCells$Atom", "open", "Z", false)
  | 1 => ("MutableCells$Atom", "behindBegin", "I", false)
  | 2 => ("MutableCells$Atom", "trysAhead", "I", false)
  | 3 => ("MutableCells$Atom", "registers", "[I", true)
  | 4 => ("MutableCells$Atom", "putMarks", "[Z", true)
  | 5 => ("MutableCells$Atom", "putNumbers", "[I", true)
  | 6 => ("MutableCells$Atom", "readMarks", "[Z", true)
  | _ => ("MutableCells$Atom", "firstNumbers", "[I", true)
def tyX0 : Nat → FieldType := fun k => match k with
  | 0 => .boolean
  | 1 => .int
  | 2 => .int
  | 3 => .array .int
  | 4 => .array .boolean
  | 5 => .array .int
  | 6 => .array .boolean
  | _ => .array .int
abbrev wsX00 : List Cond := u_ws RX0 TX0 8
theorem nmX0 : ∀ a, a < 8 → ∀ b, b < 8 → a ≠ b → (TX0 a).2.1 ≠ (TX0 b).2.1 := by decide +kernel
theorem tyX0_ok : ∀ k, k < 8 → parseFieldDescriptor (TX0 k).2.2.1 = some (tyX0 k) := by decide +kernel
abbrev cX0_init : ByteArray := prog_2_method_1_code
def yX0_init : MethodName := ⟨RX0, "<init>", "()V"⟩
abbrev cX0_forget : ByteArray := prog_2_method_2_code
def yX0_forget : MethodName := ⟨RX0, "forget", "()V"⟩
abbrev cX0_hasPut : ByteArray := prog_2_method_3_code
def yX0_hasPut : MethodName := ⟨RX0, "hasPut", "(I)Z"⟩
abbrev cX0_putNumber : ByteArray := prog_2_method_4_code
def yX0_putNumber : MethodName := ⟨RX0, "putNumbe\x72", "(I)I"⟩
abbrev cX0_notePut : ByteArray := prog_2_method_5_code
def yX0_notePut : MethodName := ⟨RX0, "notePut", "(II)V"⟩
abbrev cX0_hasRead : ByteArray := prog_2_method_6_code
def yX0_hasRead : MethodName := ⟨RX0, "hasRead", "(I)Z"⟩
abbrev cX0_firstNumber : ByteArray := prog_2_method_7_code
def yX0_firstNumber : MethodName := ⟨RX0, "firstNumbe\x72", "(I)I"⟩
abbrev cX0_noteReading : ByteArray := prog_2_method_8_code
def yX0_noteReading : MethodName := ⟨RX0, "noteReading", "(II)V"⟩
def RX1 : String := "MutableCells$Cells"
def TX1 : u_T := fun k => match k with
  | 0 => ("MutableCells$Cells", "numbers", "[I", true)
  | 1 => ("MutableCells$Cells", "partners", "[I", true)
  | 2 => ("MutableCells$Cells", "trail", "[I", true)
  | _ => ("MutableCells$Cells", "log", "LMutableCells$Log;", true)
def tyX1 : Nat → FieldType := fun k => match k with
  | 0 => .array .int
  | 1 => .array .int
  | 2 => .array .int
  | _ => .object "MutableCells$Log"
abbrev wsX10 : List Cond := u_ws RX1 TX1 4
theorem nmX1 : ∀ a, a < 4 → ∀ b, b < 4 → a ≠ b → (TX1 a).2.1 ≠ (TX1 b).2.1 := by decide +kernel
theorem tyX1_ok : ∀ k, k < 4 → parseFieldDescriptor (TX1 k).2.2.1 = some (tyX1 k) := by decide +kernel
abbrev cX1_init : ByteArray := prog_3_method_1_code
def yX1_init : MethodName := ⟨RX1, "<init>", "()V"⟩
abbrev cX1_reset : ByteArray := prog_3_method_2_code
def yX1_reset : MethodName := ⟨RX1, "reset", "()V"⟩
abbrev cX1_isLazy : ByteArray := prog_3_method_3_code
def yX1_isLazy : MethodName := ⟨RX1, "isLazy", "(I)Z"⟩
abbrev cX1_shown : ByteArray := prog_3_method_4_code
def yX1_shown : MethodName := ⟨RX1, "shown", "(I)I"⟩
abbrev cX1_hold : ByteArray := prog_3_method_5_code
def yX1_hold : MethodName := ⟨RX1, "hold", "(II)V"⟩
abbrev cX1_defer : ByteArray := prog_3_method_6_code
def yX1_defer : MethodName := ⟨RX1, "defe\x72", "(II)V"⟩
abbrev cX1_count : ByteArray := prog_3_method_7_code
def yX1_count : MethodName := ⟨RX1, "count", "(III)V"⟩
abbrev cX1_leadsToRing : ByteArray := prog_3_method_8_code
def yX1_leadsToRing : MethodName := ⟨RX1, "leadsToRing", "(I)Z"⟩
abbrev cX1_workedOut : ByteArray := prog_3_method_9_code
def yX1_workedOut : MethodName := ⟨RX1, "workedOut", "(II)I"⟩
def RX2 : String := "MutableCells$Log"
def TX2 : u_T := fun k => match k with
  | 0 => ("MutableCells$Log", "threads", "[I", true)
  | 1 => ("MutableCells$Log", "places", "[I", true)
  | 2 => ("MutableCells$Log", "numbers", "[I", true)
  | 3 => ("MutableCells$Log", "latest", "I", false)
  | _ => ("MutableCells$Log", "count", "I", false)
def tyX2 : Nat → FieldType := fun k => match k with
  | 0 => .array .int
  | 1 => .array .int
  | 2 => .array .int
  | 3 => .int
  | _ => .int
abbrev wsX20 : List Cond := u_ws RX2 TX2 5
theorem nmX2 : ∀ a, a < 5 → ∀ b, b < 5 → a ≠ b → (TX2 a).2.1 ≠ (TX2 b).2.1 := by decide +kernel
theorem tyX2_ok : ∀ k, k < 5 → parseFieldDescriptor (TX2 k).2.2.1 = some (tyX2 k) := by decide +kernel
abbrev cX2_init : ByteArray := prog_4_method_1_code
def yX2_init : MethodName := ⟨RX2, "<init>", "()V"⟩
abbrev cX2_add : ByteArray := prog_4_method_2_code
def yX2_add : MethodName := ⟨RX2, "add", "(III)V"⟩
abbrev cX2_tell : ByteArray := prog_4_method_3_code
def yX2_tell : MethodName := ⟨RX2, "tell", "(II)I"⟩
def RX3 : String := "MutableCells$Rows"
def TX3 : u_T := fun k => match k with
  | 0 => ("MutableCells$Rows", "lengths", "[I", true)
  | 1 => ("MutableCells$Rows", "ices", "[Z", true)
  | _ => ("MutableCells$Rows", "items", "[I", true)
def tyX3 : Nat → FieldType := fun k => match k with
  | 0 => .array .int
  | 1 => .array .boolean
  | _ => .array .int
abbrev wsX30 : List Cond := u_ws RX3 TX3 3
theorem nmX3 : ∀ a, a < 3 → ∀ b, b < 3 → a ≠ b → (TX3 a).2.1 ≠ (TX3 b).2.1 := by decide +kernel
theorem tyX3_ok : ∀ k, k < 3 → parseFieldDescriptor (TX3 k).2.2.1 = some (tyX3 k) := by decide +kernel
abbrev cX3_init : ByteArray := prog_5_method_1_code
def yX3_init : MethodName := ⟨RX3, "<init>", "()V"⟩
abbrev cX3_reset : ByteArray := prog_5_method_2_code
def yX3_reset : MethodName := ⟨RX3, "reset", "()V"⟩
abbrev cX3_length : ByteArray := prog_5_method_3_code
def yX3_length : MethodName := ⟨RX3, "length", "(I)I"⟩
abbrev cX3_isFrozen : ByteArray := prog_5_method_4_code
def yX3_isFrozen : MethodName := ⟨RX3, "isFrozen", "(I)Z"⟩
abbrev cX3_hasItem : ByteArray := prog_5_method_5_code
def yX3_hasItem : MethodName := ⟨RX3, "hasItem", "(II)Z"⟩
abbrev cX3_itemOf : ByteArray := prog_5_method_6_code
def yX3_itemOf : MethodName := ⟨RX3, "itemOf", "(II)I"⟩
abbrev cX3_failureAt : ByteArray := prog_5_method_7_code
def yX3_failureAt : MethodName := ⟨RX3, "failureAt", "(II)I"⟩
abbrev cX3_store : ByteArray := prog_5_method_8_code
def yX3_store : MethodName := ⟨RX3, "store", "(III)I"⟩
abbrev cX3_make : ByteArray := prog_5_method_9_code
def yX3_make : MethodName := ⟨RX3, "make", "(II)I"⟩
abbrev cX3_freeze : ByteArray := prog_5_method_10_code
def yX3_freeze : MethodName := ⟨RX3, "freeze", "(I)I"⟩
def RX4 : String := "MutableCells$Strand"
def TX4 : u_T := fun k => match k with
  | 0 => ("MutableCells$Strand", "numbe\x72", "I", true)
  | 1 => ("MutableCells$Strand", "kinds", "[I", true)
  | 2 => ("MutableCells$Strand", "xs", "[I", true)
  | 3 => ("MutableCells$Strand", "ys", "[I", true)
  | 4 => ("MutableCells$Strand", "zs", "[I", true)
  | 5 => ("MutableCells$Strand", "acts", "I", false)
  | 6 => ("MutableCells$Strand", "registers", "[I", true)
  | 7 => ("MutableCells$Strand", "tryPlaces", "[I", true)
  | 8 => ("MutableCells$Strand", "trys", "I", false)
  | 9 => ("MutableCells$Strand", "atom", "LMutableCells$Atom;", true)
  | 10 => ("MutableCells$Strand", "place", "I", false)
  | 11 => ("MutableCells$Strand", "next", "I", false)
  | 12 => ("MutableCells$Strand", "failure", "I", false)
  | 13 => ("MutableCells$Strand", "turns", "I", false)
  | _ => ("MutableCells$Strand", "anews", "I", false)
def tyX4 : Nat → FieldType := fun k => match k with
  | 0 => .int
  | 1 => .array .int
  | 2 => .array .int
  | 3 => .array .int
  | 4 => .array .int
  | 5 => .int
  | 6 => .array .int
  | 7 => .array .int
  | 8 => .int
  | 9 => .object "MutableCells$Atom"
  | 10 => .int
  | 11 => .int
  | 12 => .int
  | 13 => .int
  | _ => .int
abbrev wsX40 : List Cond := u_ws RX4 TX4 15
theorem nmX4 : ∀ a, a < 15 → ∀ b, b < 15 → a ≠ b → (TX4 a).2.1 ≠ (TX4 b).2.1 := by decide +kernel
theorem tyX4_ok : ∀ k, k < 15 → parseFieldDescriptor (TX4 k).2.2.1 = some (tyX4 k) := by decide +kernel
abbrev cX4_init : ByteArray := prog_6_method_1_code
def yX4_init : MethodName := ⟨RX4, "<init>", "(I)V"⟩
abbrev cX4_reset : ByteArray := prog_6_method_2_code
def yX4_reset : MethodName := ⟨RX4, "reset", "(Z)V"⟩
abbrev cX4_append : ByteArray := prog_6_method_3_code
def yX4_append : MethodName := ⟨RX4, "append", "(IIII)Z"⟩
abbrev cX4_state : ByteArray := prog_6_method_4_code
def yX4_state : MethodName := ⟨RX4, "state", "()I"⟩
abbrev cX4_held : ByteArray := prog_6_method_5_code
def yX4_held : MethodName := ⟨RX4, "held", "(I)I"⟩
abbrev cX4_keep : ByteArray := prog_6_method_6_code
def yX4_keep : MethodName := ⟨RX4, "keep", "(II)V"⟩
abbrev cX4_performAlone : ByteArray := prog_6_method_7_code
def yX4_performAlone : MethodName := ⟨RX4, "performAlone", "(IIII)I"⟩
abbrev cX4_divide : ByteArray := prog_6_method_8_code
def yX4_divide : MethodName := ⟨RX4, "divide", "(III)I"⟩
abbrev cX4_openTry : ByteArray := prog_6_method_9_code
def yX4_openTry : MethodName := ⟨RX4, "openTry", "(I)I"⟩
abbrev cX4_closeTry : ByteArray := prog_6_method_10_code
def yX4_closeTry : MethodName := ⟨RX4, "closeTry", "()I"⟩
abbrev cX4_beginAtom : ByteArray := prog_6_method_11_code
def yX4_beginAtom : MethodName := ⟨RX4, "beginAtom", "()I"⟩
abbrev cX4_beginAnew : ByteArray := prog_6_method_12_code
def yX4_beginAnew : MethodName := ⟨RX4, "beginAnew", "()V"⟩
abbrev cX4_fail : ByteArray := prog_6_method_13_code
def yX4_fail : MethodName := ⟨RX4, "fail", "(I)V"⟩
def RX5 : String := "MutableCells"
def TX5 : u_T := fun k => match k with
  | 0 => ("MutableCells", "cells", "LMutableCells$Cells;", true)
  | 1 => ("MutableCells", "rows", "LMutableCells$Rows;", true)
  | 2 => ("MutableCells", "strands", "[LMutableCells$Strand;", true)
  | 3 => ("MutableCells", "turnsDone", "I", false)
  | _ => ("MutableCells", "failures", "I", false)
def tyX5 : Nat → FieldType := fun k => match k with
  | 0 => .object "MutableCells$Cells"
  | 1 => .object "MutableCells$Rows"
  | 2 => .array (.object "MutableCells$Strand")
  | 3 => .int
  | _ => .int
abbrev wsX50 : List Cond := u_ws RX5 TX5 5
theorem nmX5 : ∀ a, a < 5 → ∀ b, b < 5 → a ≠ b → (TX5 a).2.1 ≠ (TX5 b).2.1 := by decide +kernel
theorem tyX5_ok : ∀ k, k < 5 → parseFieldDescriptor (TX5 k).2.2.1 = some (tyX5 k) := by decide +kernel
abbrev cX5_init : ByteArray := prog_1_method_1_code
def yX5_init : MethodName := ⟨RX5, "<init>", "()V"⟩
abbrev cX5_act : ByteArray := prog_1_method_2_code
def yX5_act : MethodName := ⟨RX5, "act", "(IIIII)I"⟩
abbrev cX5_turn : ByteArray := prog_1_method_3_code
def yX5_turn : MethodName := ⟨RX5, "turn", "(I)I"⟩
abbrev cX5_play : ByteArray := prog_1_method_4_code
def yX5_play : MethodName := ⟨RX5, "play", "(II)I"⟩
abbrev cX5_told : ByteArray := prog_1_method_5_code
def yX5_told : MethodName := ⟨RX5, "told", "(II)I"⟩
abbrev cX5_register : ByteArray := prog_1_method_6_code
def yX5_register : MethodName := ⟨RX5, "registe\x72", "(II)I"⟩
abbrev cX5_cell : ByteArray := prog_1_method_7_code
def yX5_cell : MethodName := ⟨RX5, "cell", "(I)I"⟩
abbrev cX5_lazy : ByteArray := prog_1_method_8_code
def yX5_lazy : MethodName := ⟨RX5, "lazy", "(I)I"⟩
abbrev cX5_size : ByteArray := prog_1_method_9_code
def yX5_size : MethodName := ⟨RX5, "size", "(I)I"⟩
abbrev cX5_item : ByteArray := prog_1_method_10_code
def yX5_item : MethodName := ⟨RX5, "item", "(II)I"⟩
abbrev cX5_frozen : ByteArray := prog_1_method_11_code
def yX5_frozen : MethodName := ⟨RX5, "frozen", "(I)I"⟩
abbrev cX5_put : ByteArray := prog_1_method_12_code
def yX5_put : MethodName := ⟨RX5, "put", "(II)I"⟩
abbrev cX5_writes : ByteArray := prog_1_method_13_code
def yX5_writes : MethodName := ⟨RX5, "writes", "()I"⟩
abbrev cX5_write : ByteArray := prog_1_method_14_code
def yX5_write : MethodName := ⟨RX5, "write", "(II)I"⟩
abbrev cX5_again : ByteArray := prog_1_method_15_code
def yX5_again : MethodName := ⟨RX5, "again", "()I"⟩
abbrev cX5_clear : ByteArray := prog_1_method_16_code
def yX5_clear : MethodName := ⟨RX5, "clea\x72", "()I"⟩
abbrev cX5_restart : ByteArray := prog_1_method_17_code
def yX5_restart : MethodName := ⟨RX5, "restart", "(Z)I"⟩
abbrev cX5_strandOf : ByteArray := prog_1_method_18_code
def yX5_strandOf : MethodName := ⟨RX5, "strandOf", "(I)LMutableCells$Strand;"⟩
abbrev cX5_isRegister : ByteArray := prog_1_method_19_code
def yX5_isRegister : MethodName := ⟨RX5, "isRegiste\x72", "(I)Z"⟩
abbrev cX5_isCell : ByteArray := prog_1_method_20_code
def yX5_isCell : MethodName := ⟨RX5, "isCell", "(I)Z"⟩
abbrev cX5_isRow : ByteArray := prog_1_method_21_code
def yX5_isRow : MethodName := ⟨RX5, "isRow", "(I)Z"⟩
abbrev cX5_isPlace : ByteArray := prog_1_method_22_code
def yX5_isPlace : MethodName := ⟨RX5, "isPlace", "(I)Z"⟩
abbrev cX5_mayBe : ByteArray := prog_1_method_23_code
def yX5_mayBe : MethodName := ⟨RX5, "mayBe", "(IIII)Z"⟩
abbrev cX5_drawn : ByteArray := prog_1_method_24_code
def yX5_drawn : MethodName := ⟨RX5, "drawn", "(I)LMutableCells$Strand;"⟩
abbrev cX5_goes : ByteArray := prog_1_method_25_code
def yX5_goes : MethodName := ⟨RX5, "goes", "(I)Z"⟩
abbrev cX5_takeTurn : ByteArray := prog_1_method_26_code
def yX5_takeTurn : MethodName := ⟨RX5, "takeTurn", "(LMutableCells$Strand;)V"⟩
abbrev cX5_perform : ByteArray := prog_1_method_27_code
def yX5_perform : MethodName := ⟨RX5, "perform", "(LMutableCells$Strand;)I"⟩
abbrev cX5_isBarredFromAtoms : ByteArray := prog_1_method_28_code
def yX5_isBarredFromAtoms : MethodName := ⟨RX5, "isBarredFromAtoms", "(I)Z"⟩
abbrev cX5_loadItem : ByteArray := prog_1_method_29_code
def yX5_loadItem : MethodName := ⟨RX5, "loadItem", "(LMutableCells$Strand;III)I"⟩
abbrev cX5_getCell : ByteArray := prog_1_method_30_code
def yX5_getCell : MethodName := ⟨RX5, "getCell", "(LMutableCells$Strand;II)I"⟩
abbrev cX5_swapCell : ByteArray := prog_1_method_31_code
def yX5_swapCell : MethodName := ⟨RX5, "swapCell", "(LMutableCells$Strand;III)I"⟩
abbrev cX5_failureOfReading : ByteArray := prog_1_method_32_code
def yX5_failureOfReading : MethodName := ⟨RX5, "failureOfReading", "(LMutableCells$Strand;I)I"⟩
abbrev cX5_readCell : ByteArray := prog_1_method_33_code
def yX5_readCell : MethodName := ⟨RX5, "readCell", "(LMutableCells$Strand;I)I"⟩
abbrev cX5_putCell : ByteArray := prog_1_method_34_code
def yX5_putCell : MethodName := ⟨RX5, "putCell", "(LMutableCells$Strand;II)V"⟩
abbrev cX5_endAtom : ByteArray := prog_1_method_35_code
def yX5_endAtom : MethodName := ⟨RX5, "endAtom", "(LMutableCells$Strand;)I"⟩
abbrev cX5_isOvertaken : ByteArray := prog_1_method_36_code
def yX5_isOvertaken : MethodName := ⟨RX5, "isOvertaken", "(LMutableCells$Atom;)Z"⟩
def RX6 : String := "MutableCellsModel"
def TX6 : u_T := fun k => match k with
  | 0 => ("MutableCellsModel", "failures", "I", false)
  | 1 => ("MutableCellsModel", "cells", "[I", true)
  | 2 => ("MutableCellsModel", "isLazy", "[Z", true)
  | 3 => ("MutableCellsModel", "isRead", "[Z", true)
  | 4 => ("MutableCellsModel", "sizes", "[I", true)
  | 5 => ("MutableCellsModel", "items", "[I", true)
  | 6 => ("MutableCellsModel", "isFrozen", "[Z", true)
  | 7 => ("MutableCellsModel", "many", "[I", true)
  | 8 => ("MutableCellsModel", "kind", "[I", true)
  | 9 => ("MutableCellsModel", "actX", "[I", true)
  | 10 => ("MutableCellsModel", "actY", "[I", true)
  | 11 => ("MutableCellsModel", "actZ", "[I", true)
  | 12 => ("MutableCellsModel", "registers", "[I", true)
  | 13 => ("MutableCellsModel", "place", "[I", true)
  | 14 => ("MutableCellsModel", "failedBy", "[I", true)
  | 15 => ("MutableCellsModel", "hasFailed", "[Z", true)
  | 16 => ("MutableCellsModel", "turns", "[I", true)
  | 17 => ("MutableCellsModel", "anew", "[I", true)
  | 18 => ("MutableCellsModel", "tries", "[I", true)
  | 19 => ("MutableCellsModel", "tryPlace", "[I", true)
  | 20 => ("MutableCellsModel", "isAtom", "[Z", true)
  | 21 => ("MutableCellsModel", "atomTries", "[I", true)
  | 22 => ("MutableCellsModel", "atomPlace", "[I", true)
  | 23 => ("MutableCellsModel", "atomRegisters", "[I", true)
  | 24 => ("MutableCellsModel", "wasRead", "[Z", true)
  | 25 => ("MutableCellsModel", "firstRead", "[I", true)
  | 26 => ("MutableCellsModel", "wasPut", "[Z", true)
  | 27 => ("MutableCellsModel", "putThere", "[I", true)
  | 28 => ("MutableCellsModel", "writes", "I", false)
  | 29 => ("MutableCellsModel", "writeThread", "[I", true)
  | 30 => ("MutableCellsModel", "writeCell", "[I", true)
  | 31 => ("MutableCellsModel", "writeNumbe\x72", "[I", true)
  | 32 => ("MutableCellsModel", "failure", "I", false)
  | _ => ("MutableCellsModel", "chain", "[I", true)
def tyX6 : Nat → FieldType := fun k => match k with
  | 0 => .int
  | 1 => .array .int
  | 2 => .array .boolean
  | 3 => .array .boolean
  | 4 => .array .int
  | 5 => .array .int
  | 6 => .array .boolean
  | 7 => .array .int
  | 8 => .array .int
  | 9 => .array .int
  | 10 => .array .int
  | 11 => .array .int
  | 12 => .array .int
  | 13 => .array .int
  | 14 => .array .int
  | 15 => .array .boolean
  | 16 => .array .int
  | 17 => .array .int
  | 18 => .array .int
  | 19 => .array .int
  | 20 => .array .boolean
  | 21 => .array .int
  | 22 => .array .int
  | 23 => .array .int
  | 24 => .array .boolean
  | 25 => .array .int
  | 26 => .array .boolean
  | 27 => .array .int
  | 28 => .int
  | 29 => .array .int
  | 30 => .array .int
  | 31 => .array .int
  | 32 => .int
  | _ => .array .int
abbrev wsX60 : List Cond := u_ws RX6 TX6 34
theorem nmX6 : ∀ a, a < 34 → ∀ b, b < 34 → a ≠ b → (TX6 a).2.1 ≠ (TX6 b).2.1 := by decide +kernel
theorem tyX6_ok : ∀ k, k < 34 → parseFieldDescriptor (TX6 k).2.2.1 = some (tyX6 k) := by decide +kernel
abbrev cX6_init : ByteArray := prog_8_method_1_code
def yX6_init : MethodName := ⟨RX6, "<init>", "()V"⟩
abbrev cX6_within : ByteArray := prog_8_method_3_code
def yX6_within : MethodName := ⟨RX6, "within", "(III)Z"⟩
abbrev cX6_begin : ByteArray := prog_8_method_4_code
def yX6_begin : MethodName := ⟨RX6, "begin", "()V"⟩
abbrev cX6_isRegister : ByteArray := prog_8_method_5_code
def yX6_isRegister : MethodName := ⟨RX6, "isRegiste\x72", "(I)Z"⟩
abbrev cX6_isCell : ByteArray := prog_8_method_6_code
def yX6_isCell : MethodName := ⟨RX6, "isCell", "(I)Z"⟩
abbrev cX6_isPlaceIn : ByteArray := prog_8_method_7_code
def yX6_isPlaceIn : MethodName := ⟨RX6, "isPlaceIn", "(I)Z"⟩
abbrev cX6_fits : ByteArray := prog_8_method_8_code
def yX6_fits : MethodName := ⟨RX6, "fits", "(IIII)Z"⟩
abbrev cX6_act : ByteArray := prog_8_method_9_code
def yX6_act : MethodName := ⟨RX6, "act", "(IIIII)I"⟩
abbrev cX6_stateOf : ByteArray := prog_8_method_10_code
def yX6_stateOf : MethodName := ⟨RX6, "stateOf", "(I)I"⟩
abbrev cX6_note : ByteArray := prog_8_method_11_code
def yX6_note : MethodName := ⟨RX6, "note", "(III)V"⟩
abbrev cX6_write : ByteArray := prog_8_method_12_code
def yX6_write : MethodName := ⟨RX6, "write", "(III)V"⟩
abbrev cX6_readPlain : ByteArray := prog_8_method_13_code
def yX6_readPlain : MethodName := ⟨RX6, "readPlain", "(II)I"⟩
abbrev cX6_read : ByteArray := prog_8_method_14_code
def yX6_read : MethodName := ⟨RX6, "read", "(II)I"⟩
abbrev cX6_lay : ByteArray := prog_8_method_15_code
def yX6_lay : MethodName := ⟨RX6, "lay", "(III)V"⟩
abbrev cX6_clearAtom : ByteArray := prog_8_method_16_code
def yX6_clearAtom : MethodName := ⟨RX6, "clearAtom", "(I)V"⟩
abbrev cX6_beginAtom : ByteArray := prog_8_method_17_code
def yX6_beginAtom : MethodName := ⟨RX6, "beginAtom", "(I)V"⟩
abbrev cX6_endAtom : ByteArray := prog_8_method_18_code
def yX6_endAtom : MethodName := ⟨RX6, "endAtom", "(I)I"⟩
abbrev cX6_r : ByteArray := prog_8_method_19_code
def yX6_r : MethodName := ⟨RX6, "\x72", "(II)I"⟩
abbrev cX6_give : ByteArray := prog_8_method_20_code
def yX6_give : MethodName := ⟨RX6, "give", "(III)V"⟩
abbrev cX6_checkItem : ByteArray := prog_8_method_21_code
def yX6_checkItem : MethodName := ⟨RX6, "checkItem", "(II)V"⟩
abbrev cX6_compute : ByteArray := prog_8_method_22_code
def yX6_compute : MethodName := ⟨RX6, "compute", "(IIIII)V"⟩
abbrev cX6_swap : ByteArray := prog_8_method_23_code
def yX6_swap : MethodName := ⟨RX6, "swap", "(IIII)V"⟩
abbrev cX6_rows : ByteArray := prog_8_method_24_code
def yX6_rows : MethodName := ⟨RX6, "rows", "(IIIII)V"⟩
abbrev cX6_doAct : ByteArray := prog_8_method_25_code
def yX6_doAct : MethodName := ⟨RX6, "doAct", "(I)I"⟩
abbrev cX6_fail : ByteArray := prog_8_method_26_code
def yX6_fail : MethodName := ⟨RX6, "fail", "(I)V"⟩
abbrev cX6_doTurn : ByteArray := prog_8_method_27_code
def yX6_doTurn : MethodName := ⟨RX6, "doTurn", "(I)V"⟩
abbrev cX6_turn : ByteArray := prog_8_method_28_code
def yX6_turn : MethodName := ⟨RX6, "turn", "(I)I"⟩
abbrev cX6_play : ByteArray := prog_8_method_29_code
def yX6_play : MethodName := ⟨RX6, "play", "(II)I"⟩
abbrev cX6_told : ByteArray := prog_8_method_30_code
def yX6_told : MethodName := ⟨RX6, "told", "(II)I"⟩
abbrev cX6_register : ByteArray := prog_8_method_31_code
def yX6_register : MethodName := ⟨RX6, "registe\x72", "(II)I"⟩
abbrev cX6_cell : ByteArray := prog_8_method_32_code
def yX6_cell : MethodName := ⟨RX6, "cell", "(I)I"⟩
abbrev cX6_lazy : ByteArray := prog_8_method_33_code
def yX6_lazy : MethodName := ⟨RX6, "lazy", "(I)I"⟩
abbrev cX6_size : ByteArray := prog_8_method_34_code
def yX6_size : MethodName := ⟨RX6, "size", "(I)I"⟩
abbrev cX6_item : ByteArray := prog_8_method_35_code
def yX6_item : MethodName := ⟨RX6, "item", "(II)I"⟩
abbrev cX6_frozen : ByteArray := prog_8_method_36_code
def yX6_frozen : MethodName := ⟨RX6, "frozen", "(I)I"⟩
abbrev cX6_put : ByteArray := prog_8_method_37_code
def yX6_put : MethodName := ⟨RX6, "put", "(II)I"⟩
abbrev cX6_writes : ByteArray := prog_8_method_38_code
def yX6_writes : MethodName := ⟨RX6, "writes", "()I"⟩
abbrev cX6_write_ : ByteArray := prog_8_method_39_code
def yX6_write_ : MethodName := ⟨RX6, "write", "(II)I"⟩
abbrev cX6_again : ByteArray := prog_8_method_40_code
def yX6_again : MethodName := ⟨RX6, "again", "()I"⟩
abbrev cX6_clear : ByteArray := prog_8_method_41_code
def yX6_clear : MethodName := ⟨RX6, "clea\x72", "()I"⟩
def RJ10 : String := "java/lang/System"
def TJ10 : u_T := fun k => match k with
  | _ => ("", "", "", false)
def tyJ10 : Nat → FieldType := fun k => match k with
  | _ => .int
abbrev wsJ100 : List Cond := u_ws RJ10 TJ10 0
theorem nmJ10 : ∀ a, a < 0 → ∀ b, b < 0 → a ≠ b → (TJ10 a).2.1 ≠ (TJ10 b).2.1 := by decide +kernel
theorem tyJ10_ok : ∀ k, k < 0 → parseFieldDescriptor (TJ10 k).2.2.1 = some (tyJ10 k) := by decide +kernel
def RJ7 : String := "java/util/Arrays"
def TJ7 : u_T := fun k => match k with
  | _ => ("", "", "", false)
def tyJ7 : Nat → FieldType := fun k => match k with
  | _ => .int
abbrev wsJ70 : List Cond := u_ws RJ7 TJ7 0
theorem nmJ7 : ∀ a, a < 0 → ∀ b, b < 0 → a ≠ b → (TJ7 a).2.1 ≠ (TJ7 b).2.1 := by decide +kernel
theorem tyJ7_ok : ∀ k, k < 0 → parseFieldDescriptor (TJ7 k).2.2.1 = some (tyJ7 k) := by decide +kernel
abbrev cJ7_rangeCheck_23922 : ByteArray := prog_10_method_30_code
def yJ7_rangeCheck_23922 : MethodName := ⟨RJ7, "rangeCheck", "(III)V"⟩
abbrev cJ7_fill_53178 : ByteArray := prog_10_method_103_code
def yJ7_fill_53178 : MethodName := ⟨RJ7, "fill", "([II)V"⟩
abbrev cJ7_fill_fda19 : ByteArray := prog_10_method_104_code
def yJ7_fill_fda19 : MethodName := ⟨RJ7, "fill", "([IIII)V"⟩
def RL : String := "MutableCellsLaw"
abbrev cL_law : ByteArray := code
def yL_law : MethodName := ⟨RL, "law", "([I)Z"⟩
abbrev vwCl : List vw_C := [(RX0, TX0, 8), (RX1, TX1, 4), (RX2, TX2, 5), (RX3, TX3, 3), (RX4, TX4, 15), (RX5, TX5, 5), (RX6, TX6, 34)]
end
section
theorem lw_TB_of {w : Cond} (h : w ∈ lw_tbl) (hg : goodWord w = true) : w ∈ lw_tbl.filter goodWord := List.mem_filter.mpr ⟨h, hg⟩
def lw_TB : List Cond := lw_tbl.filter goodWord
theorem lw_inT {w : Cond} (h : w ∈ lw_tbl) (hg : goodWord w = true) : w ∈ lw_TB := lw_TB_of h hg
theorem lw_TB_in {w : Cond} (h : w ∈ lw_TB) : w ∈ lw_tbl := (List.mem_filter.mp h).1
theorem lw_TB_good {w : Cond} (h : w ∈ lw_TB) : goodWord w = true := (List.mem_filter.mp h).2
set_option maxRecDepth 20000 in
theorem wd_se_yX5_strandOf : Cond.selects RX5 yX5_strandOf yX5_strandOf ∈ lw_TB := lw_inT (List.mem_of_getElem? (i := 0) (by rfl)) (by rfl)
set_option maxRecDepth 20000 in
theorem wd_se_yX5_takeTurn : Cond.selects RX5 yX5_takeTurn yX5_takeTurn ∈ lw_TB := lw_inT (List.mem_of_getElem? (i := 1) (by rfl)) (by rfl)
set_option maxRecDepth 20000 in
theorem wd_se_yX5_perform : Cond.selects RX5 yX5_perform yX5_perform ∈ lw_TB := lw_inT (List.mem_of_getElem? (i := 2) (by rfl)) (by rfl)
set_option maxRecDepth 20000 in
theorem wd_se_yX5_getCell : Cond.selects RX5 yX5_getCell yX5_getCell ∈ lw_TB := lw_inT (List.mem_of_getElem? (i := 3) (by rfl)) (by rfl)
set_option maxRecDepth 20000 in
theorem wd_se_yX5_failureOfReading : Cond.selects RX5 yX5_failureOfReading yX5_failureOfReading ∈ lw_TB := lw_inT (List.mem_of_getElem? (i := 4) (by rfl)) (by rfl)
set_option maxRecDepth 20000 in
theorem wd_se_yX5_readCell : Cond.selects RX5 yX5_readCell yX5_readCell ∈ lw_TB := lw_inT (List.mem_of_getElem? (i := 5) (by rfl)) (by rfl)
set_option maxRecDepth 20000 in
theorem wd_se_yX5_putCell : Cond.selects RX5 yX5_putCell yX5_putCell ∈ lw_TB := lw_inT (List.mem_of_getElem? (i := 6) (by rfl)) (by rfl)
set_option maxRecDepth 20000 in
theorem wd_se_yX5_loadItem : Cond.selects RX5 yX5_loadItem yX5_loadItem ∈ lw_TB := lw_inT (List.mem_of_getElem? (i := 7) (by rfl)) (by rfl)
set_option maxRecDepth 20000 in
theorem wd_se_yX5_swapCell : Cond.selects RX5 yX5_swapCell yX5_swapCell ∈ lw_TB := lw_inT (List.mem_of_getElem? (i := 8) (by rfl)) (by rfl)
set_option maxRecDepth 20000 in
theorem wd_se_yX5_endAtom : Cond.selects RX5 yX5_endAtom yX5_endAtom ∈ lw_TB := lw_inT (List.mem_of_getElem? (i := 9) (by rfl)) (by rfl)
set_option maxRecDepth 20000 in
theorem wd_se_yX5_isOvertaken : Cond.selects RX5 yX5_isOvertaken yX5_isOvertaken ∈ lw_TB := lw_inT (List.mem_of_getElem? (i := 10) (by rfl)) (by rfl)
set_option maxRecDepth 20000 in
theorem wd_se_yX4_divide : Cond.selects RX4 yX4_divide yX4_divide ∈ lw_TB := lw_inT (List.mem_of_getElem? (i := 11) (by rfl)) (by rfl)
set_option maxRecDepth 20000 in
theorem wd_se_yX4_beginAtom : Cond.selects RX4 yX4_beginAtom yX4_beginAtom ∈ lw_TB := lw_inT (List.mem_of_getElem? (i := 12) (by rfl)) (by rfl)
set_option maxRecDepth 20000 in
theorem wd_se_yX4_openTry : Cond.selects RX4 yX4_openTry yX4_openTry ∈ lw_TB := lw_inT (List.mem_of_getElem? (i := 13) (by rfl)) (by rfl)
set_option maxRecDepth 20000 in
theorem wd_se_yX4_closeTry : Cond.selects RX4 yX4_closeTry yX4_closeTry ∈ lw_TB := lw_inT (List.mem_of_getElem? (i := 14) (by rfl)) (by rfl)
set_option maxRecDepth 20000 in
theorem wd_se_yX5_drawn : Cond.selects RX5 yX5_drawn yX5_drawn ∈ lw_TB := lw_inT (List.mem_of_getElem? (i := 15) (by rfl)) (by rfl)
set_option maxRecDepth 20000 in
theorem wd_se_yX5_goes : Cond.selects RX5 yX5_goes yX5_goes ∈ lw_TB := lw_inT (List.mem_of_getElem? (i := 16) (by rfl)) (by rfl)
set_option maxRecDepth 20000 in
theorem wd_se_yX5_restart : Cond.selects RX5 yX5_restart yX5_restart ∈ lw_TB := lw_inT (List.mem_of_getElem? (i := 17) (by rfl)) (by rfl)
set_option maxRecDepth 20000 in
theorem wd_se_yX6_begin : Cond.selects RX6 yX6_begin yX6_begin ∈ lw_TB := lw_inT (List.mem_of_getElem? (i := 18) (by rfl)) (by rfl)
set_option maxRecDepth 20000 in
theorem wd_se_yX6_stateOf : Cond.selects RX6 yX6_stateOf yX6_stateOf ∈ lw_TB := lw_inT (List.mem_of_getElem? (i := 19) (by rfl)) (by rfl)
set_option maxRecDepth 20000 in
theorem wd_se_yX6_doTurn : Cond.selects RX6 yX6_doTurn yX6_doTurn ∈ lw_TB := lw_inT (List.mem_of_getElem? (i := 20) (by rfl)) (by rfl)
set_option maxRecDepth 20000 in
theorem wd_se_yX6_doAct : Cond.selects RX6 yX6_doAct yX6_doAct ∈ lw_TB := lw_inT (List.mem_of_getElem? (i := 21) (by rfl)) (by rfl)
set_option maxRecDepth 20000 in
theorem wd_se_yX6_give : Cond.selects RX6 yX6_give yX6_give ∈ lw_TB := lw_inT (List.mem_of_getElem? (i := 22) (by rfl)) (by rfl)
set_option maxRecDepth 20000 in
theorem wd_se_yX6_read : Cond.selects RX6 yX6_read yX6_read ∈ lw_TB := lw_inT (List.mem_of_getElem? (i := 23) (by rfl)) (by rfl)
set_option maxRecDepth 20000 in
theorem wd_se_yX6_readPlain : Cond.selects RX6 yX6_readPlain yX6_readPlain ∈ lw_TB := lw_inT (List.mem_of_getElem? (i := 24) (by rfl)) (by rfl)
set_option maxRecDepth 20000 in
theorem wd_se_yX6_write : Cond.selects RX6 yX6_write yX6_write ∈ lw_TB := lw_inT (List.mem_of_getElem? (i := 25) (by rfl)) (by rfl)
set_option maxRecDepth 20000 in
theorem wd_se_yX6_note : Cond.selects RX6 yX6_note yX6_note ∈ lw_TB := lw_inT (List.mem_of_getElem? (i := 26) (by rfl)) (by rfl)
set_option maxRecDepth 20000 in
theorem wd_se_yX6_r : Cond.selects RX6 yX6_r yX6_r ∈ lw_TB := lw_inT (List.mem_of_getElem? (i := 27) (by rfl)) (by rfl)
set_option maxRecDepth 20000 in
theorem wd_se_yX6_lay : Cond.selects RX6 yX6_lay yX6_lay ∈ lw_TB := lw_inT (List.mem_of_getElem? (i := 28) (by rfl)) (by rfl)
set_option maxRecDepth 20000 in
theorem wd_se_yX6_compute : Cond.selects RX6 yX6_compute yX6_compute ∈ lw_TB := lw_inT (List.mem_of_getElem? (i := 29) (by rfl)) (by rfl)
set_option maxRecDepth 20000 in
theorem wd_se_yX6_swap : Cond.selects RX6 yX6_swap yX6_swap ∈ lw_TB := lw_inT (List.mem_of_getElem? (i := 30) (by rfl)) (by rfl)
set_option maxRecDepth 20000 in
theorem wd_se_yX6_beginAtom : Cond.selects RX6 yX6_beginAtom yX6_beginAtom ∈ lw_TB := lw_inT (List.mem_of_getElem? (i := 31) (by rfl)) (by rfl)
set_option maxRecDepth 20000 in
theorem wd_se_yX6_clearAtom : Cond.selects RX6 yX6_clearAtom yX6_clearAtom ∈ lw_TB := lw_inT (List.mem_of_getElem? (i := 32) (by rfl)) (by rfl)
set_option maxRecDepth 20000 in
theorem wd_se_yX6_endAtom : Cond.selects RX6 yX6_endAtom yX6_endAtom ∈ lw_TB := lw_inT (List.mem_of_getElem? (i := 33) (by rfl)) (by rfl)
set_option maxRecDepth 20000 in
theorem wd_se_yX6_rows : Cond.selects RX6 yX6_rows yX6_rows ∈ lw_TB := lw_inT (List.mem_of_getElem? (i := 34) (by rfl)) (by rfl)
set_option maxRecDepth 20000 in
theorem wd_se_yX6_checkItem : Cond.selects RX6 yX6_checkItem yX6_checkItem ∈ lw_TB := lw_inT (List.mem_of_getElem? (i := 35) (by rfl)) (by rfl)
set_option maxRecDepth 20000 in
theorem wd_se_yX6_fail : Cond.selects RX6 yX6_fail yX6_fail ∈ lw_TB := lw_inT (List.mem_of_getElem? (i := 36) (by rfl)) (by rfl)
set_option maxRecDepth 20000 in
theorem wd_ini_RL : Cond.initialized RL ∈ lw_TB := lw_inT (List.mem_of_getElem? (i := 37) (by rfl)) (by rfl)
set_option maxRecDepth 20000 in
theorem wd_ini_RX5 : Cond.initialized RX5 ∈ lw_TB := lw_inT (List.mem_of_getElem? (i := 38) (by rfl)) (by rfl)
set_option maxRecDepth 20000 in
theorem wd_ini_RX1 : Cond.initialized RX1 ∈ lw_TB := lw_inT (List.mem_of_getElem? (i := 39) (by rfl)) (by rfl)
set_option maxRecDepth 20000 in
theorem wd_ini_RX2 : Cond.initialized RX2 ∈ lw_TB := lw_inT (List.mem_of_getElem? (i := 40) (by rfl)) (by rfl)
set_option maxRecDepth 20000 in
theorem wd_ini_RJ7 : Cond.initialized RJ7 ∈ lw_TB := lw_inT (List.mem_of_getElem? (i := 41) (by rfl)) (by rfl)
set_option maxRecDepth 20000 in
theorem wd_ini_RX3 : Cond.initialized RX3 ∈ lw_TB := lw_inT (List.mem_of_getElem? (i := 42) (by rfl)) (by rfl)
set_option maxRecDepth 20000 in
theorem wd_ini_RX4 : Cond.initialized RX4 ∈ lw_TB := lw_inT (List.mem_of_getElem? (i := 43) (by rfl)) (by rfl)
set_option maxRecDepth 20000 in
theorem wd_ini_RX0 : Cond.initialized RX0 ∈ lw_TB := lw_inT (List.mem_of_getElem? (i := 44) (by rfl)) (by rfl)
set_option maxRecDepth 20000 in
theorem wd_ini_RX6 : Cond.initialized RX6 ∈ lw_TB := lw_inT (List.mem_of_getElem? (i := 45) (by rfl)) (by rfl)
set_option maxRecDepth 20000 in
theorem wd_ini_RJ10 : Cond.initialized RJ10 ∈ lw_TB := lw_inT (List.mem_of_getElem? (i := 46) (by rfl)) (by rfl)
set_option maxRecDepth 20000 in
theorem wd_cl_RL_7 : Cond.classLink RL 7 RX5 ∈ lw_TB := lw_inT (List.mem_of_getElem? (i := 47) (by rfl)) (by rfl)
set_option maxRecDepth 20000 in
theorem wd_ist_RX5 : Cond.instantiable RX5 5 ∈ lw_TB := lw_inT (List.mem_of_getElem? (i := 48) (by rfl)) (by rfl)
set_option maxRecDepth 20000 in
theorem wd_ml_RL_9 : Cond.methodLink RL 9 yX5_init ∈ lw_TB := lw_inT (List.mem_of_getElem? (i := 49) (by rfl)) (by rfl)
set_option maxRecDepth 20000 in
theorem wd_im_yX5_init : Cond.instanceMethod yX5_init ∈ lw_TB := lw_inT (List.mem_of_getElem? (i := 50) (by rfl)) (by rfl)
set_option maxRecDepth 20000 in
theorem wd_co_yX5_init : Cond.code yX5_init cX5_init 2 none ∈ lw_TB := lw_inT (List.mem_of_getElem? (i := 51) (by rfl)) (by rfl)
set_option maxRecDepth 20000 in
theorem wd_ml_RX5_1 : Cond.methodLink RX5 1 objectInit ∈ lw_TB := lw_inT (List.mem_of_getElem? (i := 52) (by rfl)) (by rfl)
set_option maxRecDepth 20000 in
theorem wd_im_objectInit : Cond.instanceMethod objectInit ∈ lw_TB := lw_inT (List.mem_of_getElem? (i := 53) (by rfl)) (by rfl)
set_option maxRecDepth 20000 in
theorem wd_co_objectInit : Cond.code objectInit ⟨#[0xb1]⟩ 1 none ∈ lw_TB := lw_inT (List.mem_of_getElem? (i := 54) (by rfl)) (by rfl)
set_option maxRecDepth 20000 in
theorem wd_cl_RX5_7 : Cond.classLink RX5 7 RX1 ∈ lw_TB := lw_inT (List.mem_of_getElem? (i := 55) (by rfl)) (by rfl)
set_option maxRecDepth 20000 in
theorem wd_ist_RX1 : Cond.instantiable RX1 4 ∈ lw_TB := lw_inT (List.mem_of_getElem? (i := 56) (by rfl)) (by rfl)
set_option maxRecDepth 20000 in
theorem wd_ml_RX5_9 : Cond.methodLink RX5 9 yX1_init ∈ lw_TB := lw_inT (List.mem_of_getElem? (i := 57) (by rfl)) (by rfl)
set_option maxRecDepth 20000 in
theorem wd_im_yX1_init : Cond.instanceMethod yX1_init ∈ lw_TB := lw_inT (List.mem_of_getElem? (i := 58) (by rfl)) (by rfl)
set_option maxRecDepth 20000 in
theorem wd_co_yX1_init : Cond.code yX1_init cX1_init 1 none ∈ lw_TB := lw_inT (List.mem_of_getElem? (i := 59) (by rfl)) (by rfl)
set_option maxRecDepth 20000 in
theorem wd_ml_RX1_3 : Cond.methodLink RX1 3 objectInit ∈ lw_TB := lw_inT (List.mem_of_getElem? (i := 60) (by rfl)) (by rfl)
set_option maxRecDepth 20000 in
theorem wd_cl_RX1_21 : Cond.classLink RX1 21 RX2 ∈ lw_TB := lw_inT (List.mem_of_getElem? (i := 61) (by rfl)) (by rfl)
set_option maxRecDepth 20000 in
theorem wd_ist_RX2 : Cond.instantiable RX2 5 ∈ lw_TB := lw_inT (List.mem_of_getElem? (i := 62) (by rfl)) (by rfl)
set_option maxRecDepth 20000 in
theorem wd_im_yX2_init : Cond.instanceMethod yX2_init ∈ lw_TB := lw_inT (List.mem_of_getElem? (i := 64) (by rfl)) (by rfl)
set_option maxRecDepth 20000 in
theorem wd_co_yX2_init : Cond.code yX2_init cX2_init 1 none ∈ lw_TB := lw_inT (List.mem_of_getElem? (i := 65) (by rfl)) (by rfl)
set_option maxRecDepth 20000 in
theorem wd_ml_RX2_3 : Cond.methodLink RX2 3 objectInit ∈ lw_TB := lw_inT (List.mem_of_getElem? (i := 66) (by rfl)) (by rfl)
set_option maxRecDepth 20000 in
theorem wd_fl_RX2_9 : Cond.fieldLink RX2 9 "MutableCells$Log" "threads" "[I" ∈ lw_TB := lw_inT (List.mem_of_getElem? (i := 67) (by rfl)) (by rfl)
set_option maxRecDepth 20000 in
theorem wd_fl_RX2_15 : Cond.fieldLink RX2 15 "MutableCells$Log" "places" "[I" ∈ lw_TB := lw_inT (List.mem_of_getElem? (i := 68) (by rfl)) (by rfl)
set_option maxRecDepth 20000 in
theorem wd_fl_RX2_18 : Cond.fieldLink RX2 18 "MutableCells$Log" "numbers" "[I" ∈ lw_TB := lw_inT (List.mem_of_getElem? (i := 69) (by rfl)) (by rfl)
set_option maxRecDepth 20000 in
theorem wd_fl_RX2_21 : Cond.fieldLink RX2 21 "MutableCells$Log" "latest" "I" ∈ lw_TB := lw_inT (List.mem_of_getElem? (i := 70) (by rfl)) (by rfl)
set_option maxRecDepth 20000 in
theorem wd_fl_RX2_25 : Cond.fieldLink RX2 25 "MutableCells$Log" "count" "I" ∈ lw_TB := lw_inT (List.mem_of_getElem? (i := 72) (by rfl)) (by rfl)
set_option maxRecDepth 20000 in
theorem wd_ac_int : Cond.arrayClass .int ∈ lw_TB := lw_inT (List.mem_of_getElem? (i := 85) (by rfl)) (by rfl)
set_option maxRecDepth 20000 in
theorem wd_ml_RX1_28 : Cond.methodLink RX1 28 yX1_reset ∈ lw_TB := lw_inT (List.mem_of_getElem? (i := 86) (by rfl)) (by rfl)
set_option maxRecDepth 20000 in
theorem wd_im_yX1_reset : Cond.instanceMethod yX1_reset ∈ lw_TB := lw_inT (List.mem_of_getElem? (i := 87) (by rfl)) (by rfl)
set_option maxRecDepth 20000 in
theorem wd_se_yX1_reset : Cond.selects RX1 yX1_reset yX1_reset ∈ lw_TB := lw_inT (List.mem_of_getElem? (i := 88) (by rfl)) (by rfl)
set_option maxRecDepth 20000 in
theorem wd_co_yX1_reset : Cond.code yX1_reset cX1_reset 1 none ∈ lw_TB := lw_inT (List.mem_of_getElem? (i := 89) (by rfl)) (by rfl)
set_option maxRecDepth 20000 in
theorem wd_ml_RX1_31 : Cond.methodLink RX1 31 yJ7_fill_53178 ∈ lw_TB := lw_inT (List.mem_of_getElem? (i := 90) (by rfl)) (by rfl)
set_option maxRecDepth 20000 in
theorem wd_sm_yJ7_fill_53178 : Cond.static yJ7_fill_53178 ∈ lw_TB := lw_inT (List.mem_of_getElem? (i := 91) (by rfl)) (by rfl)
set_option maxRecDepth 20000 in
theorem wd_co_yJ7_fill_53178 : Cond.code yJ7_fill_53178 cJ7_fill_53178 4 none ∈ lw_TB := lw_inT (List.mem_of_getElem? (i := 92) (by rfl)) (by rfl)
set_option maxRecDepth 20000 in
theorem wd_fl_RX1_9 : Cond.fieldLink RX1 9 "MutableCells$Cells" "numbers" "[I" ∈ lw_TB := lw_inT (List.mem_of_getElem? (i := 93) (by rfl)) (by rfl)
set_option maxRecDepth 20000 in
theorem wd_fl_RX1_15 : Cond.fieldLink RX1 15 "MutableCells$Cells" "partners" "[I" ∈ lw_TB := lw_inT (List.mem_of_getElem? (i := 94) (by rfl)) (by rfl)
set_option maxRecDepth 20000 in
theorem wd_fl_RX1_18 : Cond.fieldLink RX1 18 "MutableCells$Cells" "trail" "[I" ∈ lw_TB := lw_inT (List.mem_of_getElem? (i := 95) (by rfl)) (by rfl)
set_option maxRecDepth 20000 in
theorem wd_fl_RX1_24 : Cond.fieldLink RX1 24 "MutableCells$Cells" "log" "LMutableCells$Log;" ∈ lw_TB := lw_inT (List.mem_of_getElem? (i := 96) (by rfl)) (by rfl)
set_option maxRecDepth 20000 in
theorem wd_cl_RX5_16 : Cond.classLink RX5 16 RX3 ∈ lw_TB := lw_inT (List.mem_of_getElem? (i := 107) (by rfl)) (by rfl)
set_option maxRecDepth 20000 in
theorem wd_ist_RX3 : Cond.instantiable RX3 3 ∈ lw_TB := lw_inT (List.mem_of_getElem? (i := 108) (by rfl)) (by rfl)
set_option maxRecDepth 20000 in
theorem wd_ml_RX5_18 : Cond.methodLink RX5 18 yX3_init ∈ lw_TB := lw_inT (List.mem_of_getElem? (i := 109) (by rfl)) (by rfl)
set_option maxRecDepth 20000 in
theorem wd_im_yX3_init : Cond.instanceMethod yX3_init ∈ lw_TB := lw_inT (List.mem_of_getElem? (i := 110) (by rfl)) (by rfl)
set_option maxRecDepth 20000 in
theorem wd_co_yX3_init : Cond.code yX3_init cX3_init 1 none ∈ lw_TB := lw_inT (List.mem_of_getElem? (i := 111) (by rfl)) (by rfl)
set_option maxRecDepth 20000 in
theorem wd_ml_RX3_3 : Cond.methodLink RX3 3 objectInit ∈ lw_TB := lw_inT (List.mem_of_getElem? (i := 112) (by rfl)) (by rfl)
set_option maxRecDepth 20000 in
theorem wd_ml_RX3_22 : Cond.methodLink RX3 22 yX3_reset ∈ lw_TB := lw_inT (List.mem_of_getElem? (i := 113) (by rfl)) (by rfl)
set_option maxRecDepth 20000 in
theorem wd_im_yX3_reset : Cond.instanceMethod yX3_reset ∈ lw_TB := lw_inT (List.mem_of_getElem? (i := 114) (by rfl)) (by rfl)
set_option maxRecDepth 20000 in
theorem wd_se_yX3_reset : Cond.selects RX3 yX3_reset yX3_reset ∈ lw_TB := lw_inT (List.mem_of_getElem? (i := 115) (by rfl)) (by rfl)
set_option maxRecDepth 20000 in
theorem wd_co_yX3_reset : Cond.code yX3_reset cX3_reset 2 none ∈ lw_TB := lw_inT (List.mem_of_getElem? (i := 116) (by rfl)) (by rfl)
set_option maxRecDepth 20000 in
theorem wd_fl_RX3_9 : Cond.fieldLink RX3 9 "MutableCells$Rows" "lengths" "[I" ∈ lw_TB := lw_inT (List.mem_of_getElem? (i := 117) (by rfl)) (by rfl)
set_option maxRecDepth 20000 in
theorem wd_fl_RX3_15 : Cond.fieldLink RX3 15 "MutableCells$Rows" "ices" "[Z" ∈ lw_TB := lw_inT (List.mem_of_getElem? (i := 118) (by rfl)) (by rfl)
set_option maxRecDepth 20000 in
theorem wd_fl_RX3_19 : Cond.fieldLink RX3 19 "MutableCells$Rows" "items" "[I" ∈ lw_TB := lw_inT (List.mem_of_getElem? (i := 119) (by rfl)) (by rfl)
set_option maxRecDepth 20000 in
theorem wd_ac_boolean : Cond.arrayClass .boolean ∈ lw_TB := lw_inT (List.mem_of_getElem? (i := 127) (by rfl)) (by rfl)
set_option maxRecDepth 20000 in
theorem wd_cl_RX5_23 : Cond.classLink RX5 23 RX4 ∈ lw_TB := lw_inT (List.mem_of_getElem? (i := 128) (by rfl)) (by rfl)
set_option maxRecDepth 20000 in
theorem wd_ist_RX4 : Cond.instantiable RX4 15 ∈ lw_TB := lw_inT (List.mem_of_getElem? (i := 130) (by rfl)) (by rfl)
set_option maxRecDepth 20000 in
theorem wd_ml_RX5_29 : Cond.methodLink RX5 29 yX4_init ∈ lw_TB := lw_inT (List.mem_of_getElem? (i := 131) (by rfl)) (by rfl)
set_option maxRecDepth 20000 in
theorem wd_im_yX4_init : Cond.instanceMethod yX4_init ∈ lw_TB := lw_inT (List.mem_of_getElem? (i := 132) (by rfl)) (by rfl)
set_option maxRecDepth 20000 in
theorem wd_co_yX4_init : Cond.code yX4_init cX4_init 2 none ∈ lw_TB := lw_inT (List.mem_of_getElem? (i := 133) (by rfl)) (by rfl)
set_option maxRecDepth 20000 in
theorem wd_ml_RX4_3 : Cond.methodLink RX4 3 objectInit ∈ lw_TB := lw_inT (List.mem_of_getElem? (i := 134) (by rfl)) (by rfl)
set_option maxRecDepth 20000 in
theorem wd_cl_RX4_30 : Cond.classLink RX4 30 RX0 ∈ lw_TB := lw_inT (List.mem_of_getElem? (i := 135) (by rfl)) (by rfl)
set_option maxRecDepth 20000 in
theorem wd_ist_RX0 : Cond.instantiable RX0 8 ∈ lw_TB := lw_inT (List.mem_of_getElem? (i := 136) (by rfl)) (by rfl)
set_option maxRecDepth 20000 in
theorem wd_im_yX0_init : Cond.instanceMethod yX0_init ∈ lw_TB := lw_inT (List.mem_of_getElem? (i := 138) (by rfl)) (by rfl)
set_option maxRecDepth 20000 in
theorem wd_co_yX0_init : Cond.code yX0_init cX0_init 1 none ∈ lw_TB := lw_inT (List.mem_of_getElem? (i := 139) (by rfl)) (by rfl)
set_option maxRecDepth 20000 in
theorem wd_ml_RX0_3 : Cond.methodLink RX0 3 objectInit ∈ lw_TB := lw_inT (List.mem_of_getElem? (i := 140) (by rfl)) (by rfl)
set_option maxRecDepth 20000 in
theorem wd_fl_RX0_9 : Cond.fieldLink RX0 9 "MutableCells$Atom" "registers" "[I" ∈ lw_TB := lw_inT (List.mem_of_getElem? (i := 146) (by rfl)) (by rfl)
set_option maxRecDepth 20000 in
theorem wd_fl_RX0_15 : Cond.fieldLink RX0 15 "MutableCells$Atom" "putMarks" "[Z" ∈ lw_TB := lw_inT (List.mem_of_getElem? (i := 148) (by rfl)) (by rfl)
set_option maxRecDepth 20000 in
theorem wd_fl_RX0_19 : Cond.fieldLink RX0 19 "MutableCells$Atom" "putNumbers" "[I" ∈ lw_TB := lw_inT (List.mem_of_getElem? (i := 149) (by rfl)) (by rfl)
set_option maxRecDepth 20000 in
theorem wd_fl_RX0_22 : Cond.fieldLink RX0 22 "MutableCells$Atom" "readMarks" "[Z" ∈ lw_TB := lw_inT (List.mem_of_getElem? (i := 150) (by rfl)) (by rfl)
set_option maxRecDepth 20000 in
theorem wd_fl_RX0_25 : Cond.fieldLink RX0 25 "MutableCells$Atom" "firstNumbers" "[I" ∈ lw_TB := lw_inT (List.mem_of_getElem? (i := 151) (by rfl)) (by rfl)
set_option maxRecDepth 20000 in
theorem wd_fl_RX4_37 : Cond.fieldLink RX4 37 "MutableCells$Strand" "numbe\x72" "I" ∈ lw_TB := lw_inT (List.mem_of_getElem? (i := 169) (by rfl)) (by rfl)
set_option maxRecDepth 20000 in
theorem wd_fl_RX4_9 : Cond.fieldLink RX4 9 "MutableCells$Strand" "kinds" "[I" ∈ lw_TB := lw_inT (List.mem_of_getElem? (i := 171) (by rfl)) (by rfl)
set_option maxRecDepth 20000 in
theorem wd_fl_RX4_15 : Cond.fieldLink RX4 15 "MutableCells$Strand" "xs" "[I" ∈ lw_TB := lw_inT (List.mem_of_getElem? (i := 173) (by rfl)) (by rfl)
set_option maxRecDepth 20000 in
theorem wd_fl_RX4_18 : Cond.fieldLink RX4 18 "MutableCells$Strand" "ys" "[I" ∈ lw_TB := lw_inT (List.mem_of_getElem? (i := 175) (by rfl)) (by rfl)
set_option maxRecDepth 20000 in
theorem wd_fl_RX4_21 : Cond.fieldLink RX4 21 "MutableCells$Strand" "zs" "[I" ∈ lw_TB := lw_inT (List.mem_of_getElem? (i := 177) (by rfl)) (by rfl)
set_option maxRecDepth 20000 in
theorem wd_fl_RX4_41 : Cond.fieldLink RX4 41 "MutableCells$Strand" "acts" "I" ∈ lw_TB := lw_inT (List.mem_of_getElem? (i := 179) (by rfl)) (by rfl)
set_option maxRecDepth 20000 in
theorem wd_fl_RX4_24 : Cond.fieldLink RX4 24 "MutableCells$Strand" "registers" "[I" ∈ lw_TB := lw_inT (List.mem_of_getElem? (i := 181) (by rfl)) (by rfl)
set_option maxRecDepth 20000 in
theorem wd_fl_RX4_27 : Cond.fieldLink RX4 27 "MutableCells$Strand" "tryPlaces" "[I" ∈ lw_TB := lw_inT (List.mem_of_getElem? (i := 182) (by rfl)) (by rfl)
set_option maxRecDepth 20000 in
theorem wd_fl_RX4_50 : Cond.fieldLink RX4 50 "MutableCells$Strand" "trys" "I" ∈ lw_TB := lw_inT (List.mem_of_getElem? (i := 183) (by rfl)) (by rfl)
set_option maxRecDepth 20000 in
theorem wd_fl_RX4_33 : Cond.fieldLink RX4 33 "MutableCells$Strand" "atom" "LMutableCells$Atom;" ∈ lw_TB := lw_inT (List.mem_of_getElem? (i := 185) (by rfl)) (by rfl)
set_option maxRecDepth 20000 in
theorem wd_fl_RX4_57 : Cond.fieldLink RX4 57 "MutableCells$Strand" "place" "I" ∈ lw_TB := lw_inT (List.mem_of_getElem? (i := 187) (by rfl)) (by rfl)
set_option maxRecDepth 20000 in
theorem wd_fl_RX4_85 : Cond.fieldLink RX4 85 "MutableCells$Strand" "next" "I" ∈ lw_TB := lw_inT (List.mem_of_getElem? (i := 189) (by rfl)) (by rfl)
set_option maxRecDepth 20000 in
theorem wd_fl_RX4_60 : Cond.fieldLink RX4 60 "MutableCells$Strand" "failure" "I" ∈ lw_TB := lw_inT (List.mem_of_getElem? (i := 191) (by rfl)) (by rfl)
set_option maxRecDepth 20000 in
theorem wd_fl_RX4_63 : Cond.fieldLink RX4 63 "MutableCells$Strand" "turns" "I" ∈ lw_TB := lw_inT (List.mem_of_getElem? (i := 194) (by rfl)) (by rfl)
set_option maxRecDepth 20000 in
theorem wd_fl_RX4_66 : Cond.fieldLink RX4 66 "MutableCells$Strand" "anews" "I" ∈ lw_TB := lw_inT (List.mem_of_getElem? (i := 195) (by rfl)) (by rfl)
set_option maxRecDepth 20000 in
theorem wd_fl_RX5_10 : Cond.fieldLink RX5 10 "MutableCells" "cells" "LMutableCells$Cells;" ∈ lw_TB := lw_inT (List.mem_of_getElem? (i := 228) (by rfl)) (by rfl)
set_option maxRecDepth 20000 in
theorem wd_fl_RX5_19 : Cond.fieldLink RX5 19 "MutableCells" "rows" "LMutableCells$Rows;" ∈ lw_TB := lw_inT (List.mem_of_getElem? (i := 229) (by rfl)) (by rfl)
set_option maxRecDepth 20000 in
theorem wd_fl_RX5_25 : Cond.fieldLink RX5 25 "MutableCells" "strands" "[LMutableCells$Strand;" ∈ lw_TB := lw_inT (List.mem_of_getElem? (i := 230) (by rfl)) (by rfl)
set_option maxRecDepth 20000 in
theorem wd_fl_RX5_137 : Cond.fieldLink RX5 137 "MutableCells" "turnsDone" "I" ∈ lw_TB := lw_inT (List.mem_of_getElem? (i := 231) (by rfl)) (by rfl)
set_option maxRecDepth 20000 in
theorem wd_fl_RX5_54 : Cond.fieldLink RX5 54 "MutableCells" "failures" "I" ∈ lw_TB := lw_inT (List.mem_of_getElem? (i := 232) (by rfl)) (by rfl)
set_option maxRecDepth 20000 in
theorem wd_ml_RL_13 : Cond.methodLink RL 13 yX5_act ∈ lw_TB := lw_inT (List.mem_of_getElem? (i := 244) (by rfl)) (by rfl)
set_option maxRecDepth 20000 in
theorem wd_im_yX5_act : Cond.instanceMethod yX5_act ∈ lw_TB := lw_inT (List.mem_of_getElem? (i := 245) (by rfl)) (by rfl)
set_option maxRecDepth 20000 in
theorem wd_se_yX5_act : Cond.selects RX5 yX5_act yX5_act ∈ lw_TB := lw_inT (List.mem_of_getElem? (i := 246) (by rfl)) (by rfl)
set_option maxRecDepth 20000 in
theorem wd_co_yX5_act : Cond.code yX5_act cX5_act 7 (some .int) ∈ lw_TB := lw_inT (List.mem_of_getElem? (i := 247) (by rfl)) (by rfl)
set_option maxRecDepth 20000 in
theorem wd_ml_RX5_32 : Cond.methodLink RX5 32 yX5_strandOf ∈ lw_TB := lw_inT (List.mem_of_getElem? (i := 248) (by rfl)) (by rfl)
set_option maxRecDepth 20000 in
theorem wd_im_yX5_strandOf : Cond.instanceMethod yX5_strandOf ∈ lw_TB := lw_inT (List.mem_of_getElem? (i := 250) (by rfl)) (by rfl)
set_option maxRecDepth 20000 in
theorem wd_co_yX5_strandOf : Cond.code yX5_strandOf cX5_strandOf 2 (some (.object "MutableCells$Strand")) ∈ lw_TB := lw_inT (List.mem_of_getElem? (i := 251) (by rfl)) (by rfl)
set_option maxRecDepth 20000 in
theorem wd_ml_RX5_36 : Cond.methodLink RX5 36 yX5_mayBe ∈ lw_TB := lw_inT (List.mem_of_getElem? (i := 252) (by rfl)) (by rfl)
set_option maxRecDepth 20000 in
theorem wd_sm_yX5_mayBe : Cond.static yX5_mayBe ∈ lw_TB := lw_inT (List.mem_of_getElem? (i := 253) (by rfl)) (by rfl)
set_option maxRecDepth 20000 in
theorem wd_co_yX5_mayBe : Cond.code yX5_mayBe cX5_mayBe 4 (some .boolean) ∈ lw_TB := lw_inT (List.mem_of_getElem? (i := 254) (by rfl)) (by rfl)
set_option maxRecDepth 20000 in
theorem wd_ml_RX5_87 : Cond.methodLink RX5 87 yX5_isRegister ∈ lw_TB := lw_inT (List.mem_of_getElem? (i := 255) (by rfl)) (by rfl)
set_option maxRecDepth 20000 in
theorem wd_sm_yX5_isRegister : Cond.static yX5_isRegister ∈ lw_TB := lw_inT (List.mem_of_getElem? (i := 256) (by rfl)) (by rfl)
set_option maxRecDepth 20000 in
theorem wd_co_yX5_isRegister : Cond.code yX5_isRegister cX5_isRegister 1 (some .boolean) ∈ lw_TB := lw_inT (List.mem_of_getElem? (i := 257) (by rfl)) (by rfl)
set_option maxRecDepth 20000 in
theorem wd_ml_RX5_95 : Cond.methodLink RX5 95 yX5_isCell ∈ lw_TB := lw_inT (List.mem_of_getElem? (i := 258) (by rfl)) (by rfl)
set_option maxRecDepth 20000 in
theorem wd_sm_yX5_isCell : Cond.static yX5_isCell ∈ lw_TB := lw_inT (List.mem_of_getElem? (i := 259) (by rfl)) (by rfl)
set_option maxRecDepth 20000 in
theorem wd_co_yX5_isCell : Cond.code yX5_isCell cX5_isCell 1 (some .boolean) ∈ lw_TB := lw_inT (List.mem_of_getElem? (i := 260) (by rfl)) (by rfl)
set_option maxRecDepth 20000 in
theorem wd_ml_RX5_104 : Cond.methodLink RX5 104 yX5_isRow ∈ lw_TB := lw_inT (List.mem_of_getElem? (i := 261) (by rfl)) (by rfl)
set_option maxRecDepth 20000 in
theorem wd_sm_yX5_isRow : Cond.static yX5_isRow ∈ lw_TB := lw_inT (List.mem_of_getElem? (i := 262) (by rfl)) (by rfl)
set_option maxRecDepth 20000 in
theorem wd_co_yX5_isRow : Cond.code yX5_isRow cX5_isRow 1 (some .boolean) ∈ lw_TB := lw_inT (List.mem_of_getElem? (i := 263) (by rfl)) (by rfl)
set_option maxRecDepth 20000 in
theorem wd_ml_RX5_147 : Cond.methodLink RX5 147 yX5_isPlace ∈ lw_TB := lw_inT (List.mem_of_getElem? (i := 264) (by rfl)) (by rfl)
set_option maxRecDepth 20000 in
theorem wd_sm_yX5_isPlace : Cond.static yX5_isPlace ∈ lw_TB := lw_inT (List.mem_of_getElem? (i := 265) (by rfl)) (by rfl)
set_option maxRecDepth 20000 in
theorem wd_co_yX5_isPlace : Cond.code yX5_isPlace cX5_isPlace 1 (some .boolean) ∈ lw_TB := lw_inT (List.mem_of_getElem? (i := 266) (by rfl)) (by rfl)
set_option maxRecDepth 20000 in
theorem wd_ml_RX5_44 : Cond.methodLink RX5 44 yX4_append ∈ lw_TB := lw_inT (List.mem_of_getElem? (i := 267) (by rfl)) (by rfl)
set_option maxRecDepth 20000 in
theorem wd_im_yX4_append : Cond.instanceMethod yX4_append ∈ lw_TB := lw_inT (List.mem_of_getElem? (i := 268) (by rfl)) (by rfl)
set_option maxRecDepth 20000 in
theorem wd_se_yX4_append : Cond.selects RX4 yX4_append yX4_append ∈ lw_TB := lw_inT (List.mem_of_getElem? (i := 269) (by rfl)) (by rfl)
set_option maxRecDepth 20000 in
theorem wd_co_yX4_append : Cond.code yX4_append cX4_append 5 (some .boolean) ∈ lw_TB := lw_inT (List.mem_of_getElem? (i := 270) (by rfl)) (by rfl)
set_option maxRecDepth 20000 in
theorem wd_ml_RL_18 : Cond.methodLink RL 18 yX5_turn ∈ lw_TB := lw_inT (List.mem_of_getElem? (i := 271) (by rfl)) (by rfl)
set_option maxRecDepth 20000 in
theorem wd_im_yX5_turn : Cond.instanceMethod yX5_turn ∈ lw_TB := lw_inT (List.mem_of_getElem? (i := 272) (by rfl)) (by rfl)
set_option maxRecDepth 20000 in
theorem wd_se_yX5_turn : Cond.selects RX5 yX5_turn yX5_turn ∈ lw_TB := lw_inT (List.mem_of_getElem? (i := 273) (by rfl)) (by rfl)
set_option maxRecDepth 20000 in
theorem wd_co_yX5_turn : Cond.code yX5_turn cX5_turn 3 (some .int) ∈ lw_TB := lw_inT (List.mem_of_getElem? (i := 274) (by rfl)) (by rfl)
set_option maxRecDepth 20000 in
theorem wd_ml_RX5_50 : Cond.methodLink RX5 50 yX4_state ∈ lw_TB := lw_inT (List.mem_of_getElem? (i := 275) (by rfl)) (by rfl)
set_option maxRecDepth 20000 in
theorem wd_im_yX4_state : Cond.instanceMethod yX4_state ∈ lw_TB := lw_inT (List.mem_of_getElem? (i := 276) (by rfl)) (by rfl)
set_option maxRecDepth 20000 in
theorem wd_se_yX4_state : Cond.selects RX4 yX4_state yX4_state ∈ lw_TB := lw_inT (List.mem_of_getElem? (i := 277) (by rfl)) (by rfl)
set_option maxRecDepth 20000 in
theorem wd_co_yX4_state : Cond.code yX4_state cX4_state 1 (some .int) ∈ lw_TB := lw_inT (List.mem_of_getElem? (i := 278) (by rfl)) (by rfl)
set_option maxRecDepth 20000 in
theorem wd_ml_RX5_57 : Cond.methodLink RX5 57 yX5_takeTurn ∈ lw_TB := lw_inT (List.mem_of_getElem? (i := 279) (by rfl)) (by rfl)
set_option maxRecDepth 20000 in
theorem wd_im_yX5_takeTurn : Cond.instanceMethod yX5_takeTurn ∈ lw_TB := lw_inT (List.mem_of_getElem? (i := 281) (by rfl)) (by rfl)
set_option maxRecDepth 20000 in
theorem wd_co_yX5_takeTurn : Cond.code yX5_takeTurn cX5_takeTurn 3 none ∈ lw_TB := lw_inT (List.mem_of_getElem? (i := 282) (by rfl)) (by rfl)
set_option maxRecDepth 20000 in
theorem wd_ml_RX5_156 : Cond.methodLink RX5 156 yX5_perform ∈ lw_TB := lw_inT (List.mem_of_getElem? (i := 283) (by rfl)) (by rfl)
set_option maxRecDepth 20000 in
theorem wd_im_yX5_perform : Cond.instanceMethod yX5_perform ∈ lw_TB := lw_inT (List.mem_of_getElem? (i := 285) (by rfl)) (by rfl)
set_option maxRecDepth 20000 in
theorem wd_co_yX5_perform : Cond.code yX5_perform cX5_perform 7 (some .int) ∈ lw_TB := lw_inT (List.mem_of_getElem? (i := 286) (by rfl)) (by rfl)
set_option maxRecDepth 20000 in
theorem wd_ml_RX5_176 : Cond.methodLink RX5 176 yX5_isBarredFromAtoms ∈ lw_TB := lw_inT (List.mem_of_getElem? (i := 287) (by rfl)) (by rfl)
set_option maxRecDepth 20000 in
theorem wd_sm_yX5_isBarredFromAtoms : Cond.static yX5_isBarredFromAtoms ∈ lw_TB := lw_inT (List.mem_of_getElem? (i := 288) (by rfl)) (by rfl)
set_option maxRecDepth 20000 in
theorem wd_co_yX5_isBarredFromAtoms : Cond.code yX5_isBarredFromAtoms cX5_isBarredFromAtoms 1 (some .boolean) ∈ lw_TB := lw_inT (List.mem_of_getElem? (i := 289) (by rfl)) (by rfl)
set_option maxRecDepth 20000 in
theorem wd_ml_RX5_179 : Cond.methodLink RX5 179 yX5_getCell ∈ lw_TB := lw_inT (List.mem_of_getElem? (i := 290) (by rfl)) (by rfl)
set_option maxRecDepth 20000 in
theorem wd_im_yX5_getCell : Cond.instanceMethod yX5_getCell ∈ lw_TB := lw_inT (List.mem_of_getElem? (i := 292) (by rfl)) (by rfl)
set_option maxRecDepth 20000 in
theorem wd_co_yX5_getCell : Cond.code yX5_getCell cX5_getCell 5 (some .int) ∈ lw_TB := lw_inT (List.mem_of_getElem? (i := 293) (by rfl)) (by rfl)
set_option maxRecDepth 20000 in
theorem wd_ml_RX5_220 : Cond.methodLink RX5 220 yX5_failureOfReading ∈ lw_TB := lw_inT (List.mem_of_getElem? (i := 294) (by rfl)) (by rfl)
set_option maxRecDepth 20000 in
theorem wd_im_yX5_failureOfReading : Cond.instanceMethod yX5_failureOfReading ∈ lw_TB := lw_inT (List.mem_of_getElem? (i := 296) (by rfl)) (by rfl)
set_option maxRecDepth 20000 in
theorem wd_co_yX5_failureOfReading : Cond.code yX5_failureOfReading cX5_failureOfReading 3 (some .int) ∈ lw_TB := lw_inT (List.mem_of_getElem? (i := 297) (by rfl)) (by rfl)
set_option maxRecDepth 20000 in
theorem wd_ml_RX5_101 : Cond.methodLink RX5 101 yX1_isLazy ∈ lw_TB := lw_inT (List.mem_of_getElem? (i := 298) (by rfl)) (by rfl)
set_option maxRecDepth 20000 in
theorem wd_im_yX1_isLazy : Cond.instanceMethod yX1_isLazy ∈ lw_TB := lw_inT (List.mem_of_getElem? (i := 299) (by rfl)) (by rfl)
set_option maxRecDepth 20000 in
theorem wd_se_yX1_isLazy : Cond.selects RX1 yX1_isLazy yX1_isLazy ∈ lw_TB := lw_inT (List.mem_of_getElem? (i := 300) (by rfl)) (by rfl)
set_option maxRecDepth 20000 in
theorem wd_co_yX1_isLazy : Cond.code yX1_isLazy cX1_isLazy 2 (some .boolean) ∈ lw_TB := lw_inT (List.mem_of_getElem? (i := 301) (by rfl)) (by rfl)
set_option maxRecDepth 20000 in
theorem wd_ml_RX5_227 : Cond.methodLink RX5 227 yX0_hasPut ∈ lw_TB := lw_inT (List.mem_of_getElem? (i := 303) (by rfl)) (by rfl)
set_option maxRecDepth 20000 in
theorem wd_im_yX0_hasPut : Cond.instanceMethod yX0_hasPut ∈ lw_TB := lw_inT (List.mem_of_getElem? (i := 304) (by rfl)) (by rfl)
set_option maxRecDepth 20000 in
theorem wd_se_yX0_hasPut : Cond.selects RX0 yX0_hasPut yX0_hasPut ∈ lw_TB := lw_inT (List.mem_of_getElem? (i := 305) (by rfl)) (by rfl)
set_option maxRecDepth 20000 in
theorem wd_co_yX0_hasPut : Cond.code yX0_hasPut cX0_hasPut 2 (some .boolean) ∈ lw_TB := lw_inT (List.mem_of_getElem? (i := 306) (by rfl)) (by rfl)
set_option maxRecDepth 20000 in
theorem wd_ml_RX5_230 : Cond.methodLink RX5 230 yX1_leadsToRing ∈ lw_TB := lw_inT (List.mem_of_getElem? (i := 308) (by rfl)) (by rfl)
set_option maxRecDepth 20000 in
theorem wd_im_yX1_leadsToRing : Cond.instanceMethod yX1_leadsToRing ∈ lw_TB := lw_inT (List.mem_of_getElem? (i := 309) (by rfl)) (by rfl)
set_option maxRecDepth 20000 in
theorem wd_se_yX1_leadsToRing : Cond.selects RX1 yX1_leadsToRing yX1_leadsToRing ∈ lw_TB := lw_inT (List.mem_of_getElem? (i := 310) (by rfl)) (by rfl)
set_option maxRecDepth 20000 in
theorem wd_co_yX1_leadsToRing : Cond.code yX1_leadsToRing cX1_leadsToRing 4 (some .boolean) ∈ lw_TB := lw_inT (List.mem_of_getElem? (i := 311) (by rfl)) (by rfl)
set_option maxRecDepth 20000 in
theorem wd_ml_RX1_53 : Cond.methodLink RX1 53 yX1_isLazy ∈ lw_TB := lw_inT (List.mem_of_getElem? (i := 312) (by rfl)) (by rfl)
set_option maxRecDepth 20000 in
theorem wd_ml_RX1_56 : Cond.methodLink RX1 56 yX1_shown ∈ lw_TB := lw_inT (List.mem_of_getElem? (i := 313) (by rfl)) (by rfl)
set_option maxRecDepth 20000 in
theorem wd_im_yX1_shown : Cond.instanceMethod yX1_shown ∈ lw_TB := lw_inT (List.mem_of_getElem? (i := 314) (by rfl)) (by rfl)
set_option maxRecDepth 20000 in
theorem wd_se_yX1_shown : Cond.selects RX1 yX1_shown yX1_shown ∈ lw_TB := lw_inT (List.mem_of_getElem? (i := 315) (by rfl)) (by rfl)
set_option maxRecDepth 20000 in
theorem wd_co_yX1_shown : Cond.code yX1_shown cX1_shown 2 (some .int) ∈ lw_TB := lw_inT (List.mem_of_getElem? (i := 316) (by rfl)) (by rfl)
set_option maxRecDepth 20000 in
theorem wd_ml_RX5_224 : Cond.methodLink RX5 224 yX5_readCell ∈ lw_TB := lw_inT (List.mem_of_getElem? (i := 317) (by rfl)) (by rfl)
set_option maxRecDepth 20000 in
theorem wd_im_yX5_readCell : Cond.instanceMethod yX5_readCell ∈ lw_TB := lw_inT (List.mem_of_getElem? (i := 319) (by rfl)) (by rfl)
set_option maxRecDepth 20000 in
theorem wd_co_yX5_readCell : Cond.code yX5_readCell cX5_readCell 4 (some .int) ∈ lw_TB := lw_inT (List.mem_of_getElem? (i := 320) (by rfl)) (by rfl)
set_option maxRecDepth 20000 in
theorem wd_ml_RX5_236 : Cond.methodLink RX5 236 yX1_workedOut ∈ lw_TB := lw_inT (List.mem_of_getElem? (i := 321) (by rfl)) (by rfl)
set_option maxRecDepth 20000 in
theorem wd_im_yX1_workedOut : Cond.instanceMethod yX1_workedOut ∈ lw_TB := lw_inT (List.mem_of_getElem? (i := 322) (by rfl)) (by rfl)
set_option maxRecDepth 20000 in
theorem wd_se_yX1_workedOut : Cond.selects RX1 yX1_workedOut yX1_workedOut ∈ lw_TB := lw_inT (List.mem_of_getElem? (i := 323) (by rfl)) (by rfl)
set_option maxRecDepth 20000 in
theorem wd_co_yX1_workedOut : Cond.code yX1_workedOut cX1_workedOut 7 (some .int) ∈ lw_TB := lw_inT (List.mem_of_getElem? (i := 324) (by rfl)) (by rfl)
set_option maxRecDepth 20000 in
theorem wd_ml_RX1_60 : Cond.methodLink RX1 60 yX1_count ∈ lw_TB := lw_inT (List.mem_of_getElem? (i := 325) (by rfl)) (by rfl)
set_option maxRecDepth 20000 in
theorem wd_im_yX1_count : Cond.instanceMethod yX1_count ∈ lw_TB := lw_inT (List.mem_of_getElem? (i := 326) (by rfl)) (by rfl)
set_option maxRecDepth 20000 in
theorem wd_se_yX1_count : Cond.selects RX1 yX1_count yX1_count ∈ lw_TB := lw_inT (List.mem_of_getElem? (i := 327) (by rfl)) (by rfl)
set_option maxRecDepth 20000 in
theorem wd_co_yX1_count : Cond.code yX1_count cX1_count 4 none ∈ lw_TB := lw_inT (List.mem_of_getElem? (i := 328) (by rfl)) (by rfl)
set_option maxRecDepth 20000 in
theorem wd_ml_RX1_45 : Cond.methodLink RX1 45 yX1_hold ∈ lw_TB := lw_inT (List.mem_of_getElem? (i := 329) (by rfl)) (by rfl)
set_option maxRecDepth 20000 in
theorem wd_im_yX1_hold : Cond.instanceMethod yX1_hold ∈ lw_TB := lw_inT (List.mem_of_getElem? (i := 330) (by rfl)) (by rfl)
set_option maxRecDepth 20000 in
theorem wd_se_yX1_hold : Cond.selects RX1 yX1_hold yX1_hold ∈ lw_TB := lw_inT (List.mem_of_getElem? (i := 331) (by rfl)) (by rfl)
set_option maxRecDepth 20000 in
theorem wd_co_yX1_hold : Cond.code yX1_hold cX1_hold 3 none ∈ lw_TB := lw_inT (List.mem_of_getElem? (i := 332) (by rfl)) (by rfl)
set_option maxRecDepth 20000 in
theorem wd_ml_RX1_49 : Cond.methodLink RX1 49 yX2_add ∈ lw_TB := lw_inT (List.mem_of_getElem? (i := 333) (by rfl)) (by rfl)
set_option maxRecDepth 20000 in
theorem wd_im_yX2_add : Cond.instanceMethod yX2_add ∈ lw_TB := lw_inT (List.mem_of_getElem? (i := 334) (by rfl)) (by rfl)
set_option maxRecDepth 20000 in
theorem wd_se_yX2_add : Cond.selects RX2 yX2_add yX2_add ∈ lw_TB := lw_inT (List.mem_of_getElem? (i := 335) (by rfl)) (by rfl)
set_option maxRecDepth 20000 in
theorem wd_co_yX2_add : Cond.code yX2_add cX2_add 4 none ∈ lw_TB := lw_inT (List.mem_of_getElem? (i := 336) (by rfl)) (by rfl)
set_option maxRecDepth 20000 in
theorem wd_ml_RX5_239 : Cond.methodLink RX5 239 yX0_putNumber ∈ lw_TB := lw_inT (List.mem_of_getElem? (i := 337) (by rfl)) (by rfl)
set_option maxRecDepth 20000 in
theorem wd_im_yX0_putNumber : Cond.instanceMethod yX0_putNumber ∈ lw_TB := lw_inT (List.mem_of_getElem? (i := 338) (by rfl)) (by rfl)
set_option maxRecDepth 20000 in
theorem wd_se_yX0_putNumber : Cond.selects RX0 yX0_putNumber yX0_putNumber ∈ lw_TB := lw_inT (List.mem_of_getElem? (i := 339) (by rfl)) (by rfl)
set_option maxRecDepth 20000 in
theorem wd_co_yX0_putNumber : Cond.code yX0_putNumber cX0_putNumber 2 (some .int) ∈ lw_TB := lw_inT (List.mem_of_getElem? (i := 340) (by rfl)) (by rfl)
set_option maxRecDepth 20000 in
theorem wd_ml_RX5_98 : Cond.methodLink RX5 98 yX1_shown ∈ lw_TB := lw_inT (List.mem_of_getElem? (i := 341) (by rfl)) (by rfl)
set_option maxRecDepth 20000 in
theorem wd_ml_RX5_242 : Cond.methodLink RX5 242 yX0_noteReading ∈ lw_TB := lw_inT (List.mem_of_getElem? (i := 342) (by rfl)) (by rfl)
set_option maxRecDepth 20000 in
theorem wd_im_yX0_noteReading : Cond.instanceMethod yX0_noteReading ∈ lw_TB := lw_inT (List.mem_of_getElem? (i := 343) (by rfl)) (by rfl)
set_option maxRecDepth 20000 in
theorem wd_se_yX0_noteReading : Cond.selects RX0 yX0_noteReading yX0_noteReading ∈ lw_TB := lw_inT (List.mem_of_getElem? (i := 344) (by rfl)) (by rfl)
set_option maxRecDepth 20000 in
theorem wd_co_yX0_noteReading : Cond.code yX0_noteReading cX0_noteReading 3 none ∈ lw_TB := lw_inT (List.mem_of_getElem? (i := 345) (by rfl)) (by rfl)
set_option maxRecDepth 20000 in
theorem wd_ml_RX5_217 : Cond.methodLink RX5 217 yX4_keep ∈ lw_TB := lw_inT (List.mem_of_getElem? (i := 346) (by rfl)) (by rfl)
set_option maxRecDepth 20000 in
theorem wd_im_yX4_keep : Cond.instanceMethod yX4_keep ∈ lw_TB := lw_inT (List.mem_of_getElem? (i := 347) (by rfl)) (by rfl)
set_option maxRecDepth 20000 in
theorem wd_se_yX4_keep : Cond.selects RX4 yX4_keep yX4_keep ∈ lw_TB := lw_inT (List.mem_of_getElem? (i := 348) (by rfl)) (by rfl)
set_option maxRecDepth 20000 in
theorem wd_co_yX4_keep : Cond.code yX4_keep cX4_keep 3 none ∈ lw_TB := lw_inT (List.mem_of_getElem? (i := 349) (by rfl)) (by rfl)
set_option maxRecDepth 20000 in
theorem wd_ml_RX5_91 : Cond.methodLink RX5 91 yX4_held ∈ lw_TB := lw_inT (List.mem_of_getElem? (i := 351) (by rfl)) (by rfl)
set_option maxRecDepth 20000 in
theorem wd_im_yX4_held : Cond.instanceMethod yX4_held ∈ lw_TB := lw_inT (List.mem_of_getElem? (i := 352) (by rfl)) (by rfl)
set_option maxRecDepth 20000 in
theorem wd_se_yX4_held : Cond.selects RX4 yX4_held yX4_held ∈ lw_TB := lw_inT (List.mem_of_getElem? (i := 353) (by rfl)) (by rfl)
set_option maxRecDepth 20000 in
theorem wd_co_yX4_held : Cond.code yX4_held cX4_held 2 (some .int) ∈ lw_TB := lw_inT (List.mem_of_getElem? (i := 354) (by rfl)) (by rfl)
set_option maxRecDepth 20000 in
theorem wd_ml_RX5_183 : Cond.methodLink RX5 183 yX5_putCell ∈ lw_TB := lw_inT (List.mem_of_getElem? (i := 355) (by rfl)) (by rfl)
set_option maxRecDepth 20000 in
theorem wd_im_yX5_putCell : Cond.instanceMethod yX5_putCell ∈ lw_TB := lw_inT (List.mem_of_getElem? (i := 357) (by rfl)) (by rfl)
set_option maxRecDepth 20000 in
theorem wd_co_yX5_putCell : Cond.code yX5_putCell cX5_putCell 4 none ∈ lw_TB := lw_inT (List.mem_of_getElem? (i := 358) (by rfl)) (by rfl)
set_option maxRecDepth 20000 in
theorem wd_ml_RX5_245 : Cond.methodLink RX5 245 yX0_notePut ∈ lw_TB := lw_inT (List.mem_of_getElem? (i := 359) (by rfl)) (by rfl)
set_option maxRecDepth 20000 in
theorem wd_im_yX0_notePut : Cond.instanceMethod yX0_notePut ∈ lw_TB := lw_inT (List.mem_of_getElem? (i := 360) (by rfl)) (by rfl)
set_option maxRecDepth 20000 in
theorem wd_se_yX0_notePut : Cond.selects RX0 yX0_notePut yX0_notePut ∈ lw_TB := lw_inT (List.mem_of_getElem? (i := 361) (by rfl)) (by rfl)
set_option maxRecDepth 20000 in
theorem wd_co_yX0_notePut : Cond.code yX0_notePut cX0_notePut 3 none ∈ lw_TB := lw_inT (List.mem_of_getElem? (i := 362) (by rfl)) (by rfl)
set_option maxRecDepth 20000 in
theorem wd_ml_RX5_248 : Cond.methodLink RX5 248 yX1_count ∈ lw_TB := lw_inT (List.mem_of_getElem? (i := 363) (by rfl)) (by rfl)
set_option maxRecDepth 20000 in
theorem wd_ml_RX5_187 : Cond.methodLink RX5 187 yX5_loadItem ∈ lw_TB := lw_inT (List.mem_of_getElem? (i := 364) (by rfl)) (by rfl)
set_option maxRecDepth 20000 in
theorem wd_im_yX5_loadItem : Cond.instanceMethod yX5_loadItem ∈ lw_TB := lw_inT (List.mem_of_getElem? (i := 366) (by rfl)) (by rfl)
set_option maxRecDepth 20000 in
theorem wd_co_yX5_loadItem : Cond.code yX5_loadItem cX5_loadItem 6 (some .int) ∈ lw_TB := lw_inT (List.mem_of_getElem? (i := 367) (by rfl)) (by rfl)
set_option maxRecDepth 20000 in
theorem wd_ml_RX5_214 : Cond.methodLink RX5 214 yX3_failureAt ∈ lw_TB := lw_inT (List.mem_of_getElem? (i := 368) (by rfl)) (by rfl)
set_option maxRecDepth 20000 in
theorem wd_im_yX3_failureAt : Cond.instanceMethod yX3_failureAt ∈ lw_TB := lw_inT (List.mem_of_getElem? (i := 369) (by rfl)) (by rfl)
set_option maxRecDepth 20000 in
theorem wd_se_yX3_failureAt : Cond.selects RX3 yX3_failureAt yX3_failureAt ∈ lw_TB := lw_inT (List.mem_of_getElem? (i := 370) (by rfl)) (by rfl)
set_option maxRecDepth 20000 in
theorem wd_co_yX3_failureAt : Cond.code yX3_failureAt cX3_failureAt 3 (some .int) ∈ lw_TB := lw_inT (List.mem_of_getElem? (i := 371) (by rfl)) (by rfl)
set_option maxRecDepth 20000 in
theorem wd_ml_RX3_33 : Cond.methodLink RX3 33 yX3_length ∈ lw_TB := lw_inT (List.mem_of_getElem? (i := 372) (by rfl)) (by rfl)
set_option maxRecDepth 20000 in
theorem wd_im_yX3_length : Cond.instanceMethod yX3_length ∈ lw_TB := lw_inT (List.mem_of_getElem? (i := 373) (by rfl)) (by rfl)
set_option maxRecDepth 20000 in
theorem wd_se_yX3_length : Cond.selects RX3 yX3_length yX3_length ∈ lw_TB := lw_inT (List.mem_of_getElem? (i := 374) (by rfl)) (by rfl)
set_option maxRecDepth 20000 in
theorem wd_co_yX3_length : Cond.code yX3_length cX3_length 2 (some .int) ∈ lw_TB := lw_inT (List.mem_of_getElem? (i := 375) (by rfl)) (by rfl)
set_option maxRecDepth 20000 in
theorem wd_ml_RX3_29 : Cond.methodLink RX3 29 yX3_hasItem ∈ lw_TB := lw_inT (List.mem_of_getElem? (i := 377) (by rfl)) (by rfl)
set_option maxRecDepth 20000 in
theorem wd_im_yX3_hasItem : Cond.instanceMethod yX3_hasItem ∈ lw_TB := lw_inT (List.mem_of_getElem? (i := 378) (by rfl)) (by rfl)
set_option maxRecDepth 20000 in
theorem wd_se_yX3_hasItem : Cond.selects RX3 yX3_hasItem yX3_hasItem ∈ lw_TB := lw_inT (List.mem_of_getElem? (i := 379) (by rfl)) (by rfl)
set_option maxRecDepth 20000 in
theorem wd_co_yX3_hasItem : Cond.code yX3_hasItem cX3_hasItem 3 (some .boolean) ∈ lw_TB := lw_inT (List.mem_of_getElem? (i := 380) (by rfl)) (by rfl)
set_option maxRecDepth 20000 in
theorem wd_ml_RX5_110 : Cond.methodLink RX5 110 yX3_itemOf ∈ lw_TB := lw_inT (List.mem_of_getElem? (i := 381) (by rfl)) (by rfl)
set_option maxRecDepth 20000 in
theorem wd_im_yX3_itemOf : Cond.instanceMethod yX3_itemOf ∈ lw_TB := lw_inT (List.mem_of_getElem? (i := 382) (by rfl)) (by rfl)
set_option maxRecDepth 20000 in
theorem wd_se_yX3_itemOf : Cond.selects RX3 yX3_itemOf yX3_itemOf ∈ lw_TB := lw_inT (List.mem_of_getElem? (i := 383) (by rfl)) (by rfl)
set_option maxRecDepth 20000 in
theorem wd_co_yX3_itemOf : Cond.code yX3_itemOf cX3_itemOf 3 (some .int) ∈ lw_TB := lw_inT (List.mem_of_getElem? (i := 384) (by rfl)) (by rfl)
set_option maxRecDepth 20000 in
theorem wd_ml_RX5_191 : Cond.methodLink RX5 191 yX3_store ∈ lw_TB := lw_inT (List.mem_of_getElem? (i := 385) (by rfl)) (by rfl)
set_option maxRecDepth 20000 in
theorem wd_im_yX3_store : Cond.instanceMethod yX3_store ∈ lw_TB := lw_inT (List.mem_of_getElem? (i := 386) (by rfl)) (by rfl)
set_option maxRecDepth 20000 in
theorem wd_se_yX3_store : Cond.selects RX3 yX3_store yX3_store ∈ lw_TB := lw_inT (List.mem_of_getElem? (i := 387) (by rfl)) (by rfl)
set_option maxRecDepth 20000 in
theorem wd_co_yX3_store : Cond.code yX3_store cX3_store 5 (some .int) ∈ lw_TB := lw_inT (List.mem_of_getElem? (i := 388) (by rfl)) (by rfl)
set_option maxRecDepth 20000 in
theorem wd_ml_RX3_37 : Cond.methodLink RX3 37 yX3_failureAt ∈ lw_TB := lw_inT (List.mem_of_getElem? (i := 389) (by rfl)) (by rfl)
set_option maxRecDepth 20000 in
theorem wd_ml_RX3_41 : Cond.methodLink RX3 41 yX3_isFrozen ∈ lw_TB := lw_inT (List.mem_of_getElem? (i := 390) (by rfl)) (by rfl)
set_option maxRecDepth 20000 in
theorem wd_im_yX3_isFrozen : Cond.instanceMethod yX3_isFrozen ∈ lw_TB := lw_inT (List.mem_of_getElem? (i := 391) (by rfl)) (by rfl)
set_option maxRecDepth 20000 in
theorem wd_se_yX3_isFrozen : Cond.selects RX3 yX3_isFrozen yX3_isFrozen ∈ lw_TB := lw_inT (List.mem_of_getElem? (i := 392) (by rfl)) (by rfl)
set_option maxRecDepth 20000 in
theorem wd_co_yX3_isFrozen : Cond.code yX3_isFrozen cX3_isFrozen 2 (some .boolean) ∈ lw_TB := lw_inT (List.mem_of_getElem? (i := 393) (by rfl)) (by rfl)
set_option maxRecDepth 20000 in
theorem wd_ml_RX5_195 : Cond.methodLink RX5 195 yX5_swapCell ∈ lw_TB := lw_inT (List.mem_of_getElem? (i := 394) (by rfl)) (by rfl)
set_option maxRecDepth 20000 in
theorem wd_im_yX5_swapCell : Cond.instanceMethod yX5_swapCell ∈ lw_TB := lw_inT (List.mem_of_getElem? (i := 396) (by rfl)) (by rfl)
set_option maxRecDepth 20000 in
theorem wd_co_yX5_swapCell : Cond.code yX5_swapCell cX5_swapCell 7 (some .int) ∈ lw_TB := lw_inT (List.mem_of_getElem? (i := 397) (by rfl)) (by rfl)
set_option maxRecDepth 20000 in
theorem wd_ml_RX5_198 : Cond.methodLink RX5 198 yX5_endAtom ∈ lw_TB := lw_inT (List.mem_of_getElem? (i := 398) (by rfl)) (by rfl)
set_option maxRecDepth 20000 in
theorem wd_im_yX5_endAtom : Cond.instanceMethod yX5_endAtom ∈ lw_TB := lw_inT (List.mem_of_getElem? (i := 400) (by rfl)) (by rfl)
set_option maxRecDepth 20000 in
theorem wd_co_yX5_endAtom : Cond.code yX5_endAtom cX5_endAtom 4 (some .int) ∈ lw_TB := lw_inT (List.mem_of_getElem? (i := 401) (by rfl)) (by rfl)
set_option maxRecDepth 20000 in
theorem wd_ml_RX5_254 : Cond.methodLink RX5 254 yX5_isOvertaken ∈ lw_TB := lw_inT (List.mem_of_getElem? (i := 402) (by rfl)) (by rfl)
set_option maxRecDepth 20000 in
theorem wd_im_yX5_isOvertaken : Cond.instanceMethod yX5_isOvertaken ∈ lw_TB := lw_inT (List.mem_of_getElem? (i := 404) (by rfl)) (by rfl)
set_option maxRecDepth 20000 in
theorem wd_co_yX5_isOvertaken : Cond.code yX5_isOvertaken cX5_isOvertaken 3 (some .boolean) ∈ lw_TB := lw_inT (List.mem_of_getElem? (i := 405) (by rfl)) (by rfl)
set_option maxRecDepth 20000 in
theorem wd_ml_RX5_261 : Cond.methodLink RX5 261 yX0_hasRead ∈ lw_TB := lw_inT (List.mem_of_getElem? (i := 406) (by rfl)) (by rfl)
set_option maxRecDepth 20000 in
theorem wd_im_yX0_hasRead : Cond.instanceMethod yX0_hasRead ∈ lw_TB := lw_inT (List.mem_of_getElem? (i := 407) (by rfl)) (by rfl)
set_option maxRecDepth 20000 in
theorem wd_se_yX0_hasRead : Cond.selects RX0 yX0_hasRead yX0_hasRead ∈ lw_TB := lw_inT (List.mem_of_getElem? (i := 408) (by rfl)) (by rfl)
set_option maxRecDepth 20000 in
theorem wd_co_yX0_hasRead : Cond.code yX0_hasRead cX0_hasRead 2 (some .boolean) ∈ lw_TB := lw_inT (List.mem_of_getElem? (i := 409) (by rfl)) (by rfl)
set_option maxRecDepth 20000 in
theorem wd_ml_RX5_264 : Cond.methodLink RX5 264 yX0_firstNumber ∈ lw_TB := lw_inT (List.mem_of_getElem? (i := 410) (by rfl)) (by rfl)
set_option maxRecDepth 20000 in
theorem wd_im_yX0_firstNumber : Cond.instanceMethod yX0_firstNumber ∈ lw_TB := lw_inT (List.mem_of_getElem? (i := 411) (by rfl)) (by rfl)
set_option maxRecDepth 20000 in
theorem wd_se_yX0_firstNumber : Cond.selects RX0 yX0_firstNumber yX0_firstNumber ∈ lw_TB := lw_inT (List.mem_of_getElem? (i := 412) (by rfl)) (by rfl)
set_option maxRecDepth 20000 in
theorem wd_co_yX0_firstNumber : Cond.code yX0_firstNumber cX0_firstNumber 2 (some .int) ∈ lw_TB := lw_inT (List.mem_of_getElem? (i := 413) (by rfl)) (by rfl)
set_option maxRecDepth 20000 in
theorem wd_ml_RX5_258 : Cond.methodLink RX5 258 yX4_beginAnew ∈ lw_TB := lw_inT (List.mem_of_getElem? (i := 414) (by rfl)) (by rfl)
set_option maxRecDepth 20000 in
theorem wd_im_yX4_beginAnew : Cond.instanceMethod yX4_beginAnew ∈ lw_TB := lw_inT (List.mem_of_getElem? (i := 415) (by rfl)) (by rfl)
set_option maxRecDepth 20000 in
theorem wd_se_yX4_beginAnew : Cond.selects RX4 yX4_beginAnew yX4_beginAnew ∈ lw_TB := lw_inT (List.mem_of_getElem? (i := 416) (by rfl)) (by rfl)
set_option maxRecDepth 20000 in
theorem wd_co_yX4_beginAnew : Cond.code yX4_beginAnew cX4_beginAnew 1 none ∈ lw_TB := lw_inT (List.mem_of_getElem? (i := 417) (by rfl)) (by rfl)
set_option maxRecDepth 20000 in
theorem wd_ml_RX4_105 : Cond.methodLink RX4 105 arraycopyName ∈ lw_TB := lw_inT (List.mem_of_getElem? (i := 418) (by rfl)) (by rfl)
set_option maxRecDepth 20000 in
theorem wd_sm_arraycopyName : Cond.static arraycopyName ∈ lw_TB := lw_inT (List.mem_of_getElem? (i := 419) (by rfl)) (by rfl)
set_option maxRecDepth 20000 in
theorem wd_nat_arraycopyName : Cond.native arraycopyName ∈ lw_TB := lw_inT (List.mem_of_getElem? (i := 420) (by rfl)) (by rfl)
set_option maxRecDepth 20000 in
theorem wd_ml_RX4_111 : Cond.methodLink RX4 111 yX0_forget ∈ lw_TB := lw_inT (List.mem_of_getElem? (i := 421) (by rfl)) (by rfl)
set_option maxRecDepth 20000 in
theorem wd_im_yX0_forget : Cond.instanceMethod yX0_forget ∈ lw_TB := lw_inT (List.mem_of_getElem? (i := 422) (by rfl)) (by rfl)
set_option maxRecDepth 20000 in
theorem wd_se_yX0_forget : Cond.selects RX0 yX0_forget yX0_forget ∈ lw_TB := lw_inT (List.mem_of_getElem? (i := 423) (by rfl)) (by rfl)
set_option maxRecDepth 20000 in
theorem wd_co_yX0_forget : Cond.code yX0_forget cX0_forget 2 none ∈ lw_TB := lw_inT (List.mem_of_getElem? (i := 424) (by rfl)) (by rfl)
set_option maxRecDepth 20000 in
theorem wd_ml_RX5_201 : Cond.methodLink RX5 201 yX3_make ∈ lw_TB := lw_inT (List.mem_of_getElem? (i := 425) (by rfl)) (by rfl)
set_option maxRecDepth 20000 in
theorem wd_im_yX3_make : Cond.instanceMethod yX3_make ∈ lw_TB := lw_inT (List.mem_of_getElem? (i := 426) (by rfl)) (by rfl)
set_option maxRecDepth 20000 in
theorem wd_se_yX3_make : Cond.selects RX3 yX3_make yX3_make ∈ lw_TB := lw_inT (List.mem_of_getElem? (i := 427) (by rfl)) (by rfl)
set_option maxRecDepth 20000 in
theorem wd_co_yX3_make : Cond.code yX3_make cX3_make 3 (some .int) ∈ lw_TB := lw_inT (List.mem_of_getElem? (i := 428) (by rfl)) (by rfl)
set_option maxRecDepth 20000 in
theorem wd_ml_RX3_44 : Cond.methodLink RX3 44 yJ7_fill_fda19 ∈ lw_TB := lw_inT (List.mem_of_getElem? (i := 429) (by rfl)) (by rfl)
set_option maxRecDepth 20000 in
theorem wd_sm_yJ7_fill_fda19 : Cond.static yJ7_fill_fda19 ∈ lw_TB := lw_inT (List.mem_of_getElem? (i := 430) (by rfl)) (by rfl)
set_option maxRecDepth 20000 in
theorem wd_co_yJ7_fill_fda19 : Cond.code yJ7_fill_fda19 cJ7_fill_fda19 5 none ∈ lw_TB := lw_inT (List.mem_of_getElem? (i := 431) (by rfl)) (by rfl)
set_option maxRecDepth 20000 in
theorem wd_ml_RJ7_13 : Cond.methodLink RJ7 13 yJ7_rangeCheck_23922 ∈ lw_TB := lw_inT (List.mem_of_getElem? (i := 432) (by rfl)) (by rfl)
set_option maxRecDepth 20000 in
theorem wd_sm_yJ7_rangeCheck_23922 : Cond.static yJ7_rangeCheck_23922 ∈ lw_TB := lw_inT (List.mem_of_getElem? (i := 433) (by rfl)) (by rfl)
set_option maxRecDepth 20000 in
theorem wd_co_yJ7_rangeCheck_23922 : Cond.code yJ7_rangeCheck_23922 cJ7_rangeCheck_23922 3 none ∈ lw_TB := lw_inT (List.mem_of_getElem? (i := 434) (by rfl)) (by rfl)
set_option maxRecDepth 20000 in
theorem wd_ml_RX5_204 : Cond.methodLink RX5 204 yX3_freeze ∈ lw_TB := lw_inT (List.mem_of_getElem? (i := 435) (by rfl)) (by rfl)
set_option maxRecDepth 20000 in
theorem wd_im_yX3_freeze : Cond.instanceMethod yX3_freeze ∈ lw_TB := lw_inT (List.mem_of_getElem? (i := 436) (by rfl)) (by rfl)
set_option maxRecDepth 20000 in
theorem wd_se_yX3_freeze : Cond.selects RX3 yX3_freeze yX3_freeze ∈ lw_TB := lw_inT (List.mem_of_getElem? (i := 437) (by rfl)) (by rfl)
set_option maxRecDepth 20000 in
theorem wd_co_yX3_freeze : Cond.code yX3_freeze cX3_freeze 2 (some .int) ∈ lw_TB := lw_inT (List.mem_of_getElem? (i := 438) (by rfl)) (by rfl)
set_option maxRecDepth 20000 in
theorem wd_ml_RX5_207 : Cond.methodLink RX5 207 yX1_defer ∈ lw_TB := lw_inT (List.mem_of_getElem? (i := 439) (by rfl)) (by rfl)
set_option maxRecDepth 20000 in
theorem wd_im_yX1_defer : Cond.instanceMethod yX1_defer ∈ lw_TB := lw_inT (List.mem_of_getElem? (i := 440) (by rfl)) (by rfl)
set_option maxRecDepth 20000 in
theorem wd_se_yX1_defer : Cond.selects RX1 yX1_defer yX1_defer ∈ lw_TB := lw_inT (List.mem_of_getElem? (i := 441) (by rfl)) (by rfl)
set_option maxRecDepth 20000 in
theorem wd_co_yX1_defer : Cond.code yX1_defer cX1_defer 3 none ∈ lw_TB := lw_inT (List.mem_of_getElem? (i := 442) (by rfl)) (by rfl)
set_option maxRecDepth 20000 in
theorem wd_ml_RX5_210 : Cond.methodLink RX5 210 yX4_performAlone ∈ lw_TB := lw_inT (List.mem_of_getElem? (i := 443) (by rfl)) (by rfl)
set_option maxRecDepth 20000 in
theorem wd_im_yX4_performAlone : Cond.instanceMethod yX4_performAlone ∈ lw_TB := lw_inT (List.mem_of_getElem? (i := 444) (by rfl)) (by rfl)
set_option maxRecDepth 20000 in
theorem wd_se_yX4_performAlone : Cond.selects RX4 yX4_performAlone yX4_performAlone ∈ lw_TB := lw_inT (List.mem_of_getElem? (i := 445) (by rfl)) (by rfl)
set_option maxRecDepth 20000 in
theorem wd_co_yX4_performAlone : Cond.code yX4_performAlone cX4_performAlone 5 (some .int) ∈ lw_TB := lw_inT (List.mem_of_getElem? (i := 446) (by rfl)) (by rfl)
set_option maxRecDepth 20000 in
theorem wd_ml_RX4_73 : Cond.methodLink RX4 73 yX4_keep ∈ lw_TB := lw_inT (List.mem_of_getElem? (i := 447) (by rfl)) (by rfl)
set_option maxRecDepth 20000 in
theorem wd_ml_RX4_77 : Cond.methodLink RX4 77 yX4_held ∈ lw_TB := lw_inT (List.mem_of_getElem? (i := 448) (by rfl)) (by rfl)
set_option maxRecDepth 20000 in
theorem wd_ml_RX4_81 : Cond.methodLink RX4 81 yX4_divide ∈ lw_TB := lw_inT (List.mem_of_getElem? (i := 449) (by rfl)) (by rfl)
set_option maxRecDepth 20000 in
theorem wd_im_yX4_divide : Cond.instanceMethod yX4_divide ∈ lw_TB := lw_inT (List.mem_of_getElem? (i := 451) (by rfl)) (by rfl)
set_option maxRecDepth 20000 in
theorem wd_co_yX4_divide : Cond.code yX4_divide cX4_divide 4 (some .int) ∈ lw_TB := lw_inT (List.mem_of_getElem? (i := 452) (by rfl)) (by rfl)
set_option maxRecDepth 20000 in
theorem wd_ml_RX4_88 : Cond.methodLink RX4 88 yX4_beginAtom ∈ lw_TB := lw_inT (List.mem_of_getElem? (i := 453) (by rfl)) (by rfl)
set_option maxRecDepth 20000 in
theorem wd_im_yX4_beginAtom : Cond.instanceMethod yX4_beginAtom ∈ lw_TB := lw_inT (List.mem_of_getElem? (i := 455) (by rfl)) (by rfl)
set_option maxRecDepth 20000 in
theorem wd_co_yX4_beginAtom : Cond.code yX4_beginAtom cX4_beginAtom 1 (some .int) ∈ lw_TB := lw_inT (List.mem_of_getElem? (i := 456) (by rfl)) (by rfl)
set_option maxRecDepth 20000 in
theorem wd_ml_RX4_92 : Cond.methodLink RX4 92 yX4_openTry ∈ lw_TB := lw_inT (List.mem_of_getElem? (i := 457) (by rfl)) (by rfl)
set_option maxRecDepth 20000 in
theorem wd_im_yX4_openTry : Cond.instanceMethod yX4_openTry ∈ lw_TB := lw_inT (List.mem_of_getElem? (i := 459) (by rfl)) (by rfl)
set_option maxRecDepth 20000 in
theorem wd_co_yX4_openTry : Cond.code yX4_openTry cX4_openTry 2 (some .int) ∈ lw_TB := lw_inT (List.mem_of_getElem? (i := 460) (by rfl)) (by rfl)
set_option maxRecDepth 20000 in
theorem wd_ml_RX4_95 : Cond.methodLink RX4 95 yX4_closeTry ∈ lw_TB := lw_inT (List.mem_of_getElem? (i := 461) (by rfl)) (by rfl)
set_option maxRecDepth 20000 in
theorem wd_im_yX4_closeTry : Cond.instanceMethod yX4_closeTry ∈ lw_TB := lw_inT (List.mem_of_getElem? (i := 463) (by rfl)) (by rfl)
set_option maxRecDepth 20000 in
theorem wd_co_yX4_closeTry : Cond.code yX4_closeTry cX4_closeTry 1 (some .int) ∈ lw_TB := lw_inT (List.mem_of_getElem? (i := 464) (by rfl)) (by rfl)
set_option maxRecDepth 20000 in
theorem wd_ml_RX5_160 : Cond.methodLink RX5 160 yX4_fail ∈ lw_TB := lw_inT (List.mem_of_getElem? (i := 465) (by rfl)) (by rfl)
set_option maxRecDepth 20000 in
theorem wd_im_yX4_fail : Cond.instanceMethod yX4_fail ∈ lw_TB := lw_inT (List.mem_of_getElem? (i := 466) (by rfl)) (by rfl)
set_option maxRecDepth 20000 in
theorem wd_se_yX4_fail : Cond.selects RX4 yX4_fail yX4_fail ∈ lw_TB := lw_inT (List.mem_of_getElem? (i := 467) (by rfl)) (by rfl)
set_option maxRecDepth 20000 in
theorem wd_co_yX4_fail : Cond.code yX4_fail cX4_fail 2 none ∈ lw_TB := lw_inT (List.mem_of_getElem? (i := 468) (by rfl)) (by rfl)
set_option maxRecDepth 20000 in
theorem wd_ml_RL_23 : Cond.methodLink RL 23 yX5_play ∈ lw_TB := lw_inT (List.mem_of_getElem? (i := 469) (by rfl)) (by rfl)
set_option maxRecDepth 20000 in
theorem wd_im_yX5_play : Cond.instanceMethod yX5_play ∈ lw_TB := lw_inT (List.mem_of_getElem? (i := 470) (by rfl)) (by rfl)
set_option maxRecDepth 20000 in
theorem wd_se_yX5_play : Cond.selects RX5 yX5_play yX5_play ∈ lw_TB := lw_inT (List.mem_of_getElem? (i := 471) (by rfl)) (by rfl)
set_option maxRecDepth 20000 in
theorem wd_co_yX5_play : Cond.code yX5_play cX5_play 6 (some .int) ∈ lw_TB := lw_inT (List.mem_of_getElem? (i := 472) (by rfl)) (by rfl)
set_option maxRecDepth 20000 in
theorem wd_ct_RX5_61 : Cond.constant RX5 61 1103515245 ∈ lw_TB := lw_inT (List.mem_of_getElem? (i := 473) (by rfl)) (by rfl)
set_option maxRecDepth 20000 in
theorem wd_ml_RX5_62 : Cond.methodLink RX5 62 yX5_drawn ∈ lw_TB := lw_inT (List.mem_of_getElem? (i := 474) (by rfl)) (by rfl)
set_option maxRecDepth 20000 in
theorem wd_im_yX5_drawn : Cond.instanceMethod yX5_drawn ∈ lw_TB := lw_inT (List.mem_of_getElem? (i := 476) (by rfl)) (by rfl)
set_option maxRecDepth 20000 in
theorem wd_co_yX5_drawn : Cond.code yX5_drawn cX5_drawn 5 (some (.object "MutableCells$Strand")) ∈ lw_TB := lw_inT (List.mem_of_getElem? (i := 477) (by rfl)) (by rfl)
set_option maxRecDepth 20000 in
theorem wd_ml_RX5_150 : Cond.methodLink RX5 150 yX5_goes ∈ lw_TB := lw_inT (List.mem_of_getElem? (i := 478) (by rfl)) (by rfl)
set_option maxRecDepth 20000 in
theorem wd_im_yX5_goes : Cond.instanceMethod yX5_goes ∈ lw_TB := lw_inT (List.mem_of_getElem? (i := 480) (by rfl)) (by rfl)
set_option maxRecDepth 20000 in
theorem wd_co_yX5_goes : Cond.code yX5_goes cX5_goes 3 (some .boolean) ∈ lw_TB := lw_inT (List.mem_of_getElem? (i := 481) (by rfl)) (by rfl)
set_option maxRecDepth 20000 in
theorem wd_ml_RL_28 : Cond.methodLink RL 28 yX5_told ∈ lw_TB := lw_inT (List.mem_of_getElem? (i := 482) (by rfl)) (by rfl)
set_option maxRecDepth 20000 in
theorem wd_im_yX5_told : Cond.instanceMethod yX5_told ∈ lw_TB := lw_inT (List.mem_of_getElem? (i := 483) (by rfl)) (by rfl)
set_option maxRecDepth 20000 in
theorem wd_se_yX5_told : Cond.selects RX5 yX5_told yX5_told ∈ lw_TB := lw_inT (List.mem_of_getElem? (i := 484) (by rfl)) (by rfl)
set_option maxRecDepth 20000 in
theorem wd_co_yX5_told : Cond.code yX5_told cX5_told 4 (some .int) ∈ lw_TB := lw_inT (List.mem_of_getElem? (i := 485) (by rfl)) (by rfl)
set_option maxRecDepth 20000 in
theorem wd_ml_RL_32 : Cond.methodLink RL 32 yX5_register ∈ lw_TB := lw_inT (List.mem_of_getElem? (i := 486) (by rfl)) (by rfl)
set_option maxRecDepth 20000 in
theorem wd_im_yX5_register : Cond.instanceMethod yX5_register ∈ lw_TB := lw_inT (List.mem_of_getElem? (i := 487) (by rfl)) (by rfl)
set_option maxRecDepth 20000 in
theorem wd_se_yX5_register : Cond.selects RX5 yX5_register yX5_register ∈ lw_TB := lw_inT (List.mem_of_getElem? (i := 488) (by rfl)) (by rfl)
set_option maxRecDepth 20000 in
theorem wd_co_yX5_register : Cond.code yX5_register cX5_register 4 (some .int) ∈ lw_TB := lw_inT (List.mem_of_getElem? (i := 489) (by rfl)) (by rfl)
set_option maxRecDepth 20000 in
theorem wd_ml_RL_36 : Cond.methodLink RL 36 yX5_cell ∈ lw_TB := lw_inT (List.mem_of_getElem? (i := 490) (by rfl)) (by rfl)
set_option maxRecDepth 20000 in
theorem wd_im_yX5_cell : Cond.instanceMethod yX5_cell ∈ lw_TB := lw_inT (List.mem_of_getElem? (i := 491) (by rfl)) (by rfl)
set_option maxRecDepth 20000 in
theorem wd_se_yX5_cell : Cond.selects RX5 yX5_cell yX5_cell ∈ lw_TB := lw_inT (List.mem_of_getElem? (i := 492) (by rfl)) (by rfl)
set_option maxRecDepth 20000 in
theorem wd_co_yX5_cell : Cond.code yX5_cell cX5_cell 2 (some .int) ∈ lw_TB := lw_inT (List.mem_of_getElem? (i := 493) (by rfl)) (by rfl)
set_option maxRecDepth 20000 in
theorem wd_ml_RL_40 : Cond.methodLink RL 40 yX5_lazy ∈ lw_TB := lw_inT (List.mem_of_getElem? (i := 494) (by rfl)) (by rfl)
set_option maxRecDepth 20000 in
theorem wd_im_yX5_lazy : Cond.instanceMethod yX5_lazy ∈ lw_TB := lw_inT (List.mem_of_getElem? (i := 495) (by rfl)) (by rfl)
set_option maxRecDepth 20000 in
theorem wd_se_yX5_lazy : Cond.selects RX5 yX5_lazy yX5_lazy ∈ lw_TB := lw_inT (List.mem_of_getElem? (i := 496) (by rfl)) (by rfl)
set_option maxRecDepth 20000 in
theorem wd_co_yX5_lazy : Cond.code yX5_lazy cX5_lazy 2 (some .int) ∈ lw_TB := lw_inT (List.mem_of_getElem? (i := 497) (by rfl)) (by rfl)
set_option maxRecDepth 20000 in
theorem wd_ml_RL_44 : Cond.methodLink RL 44 yX5_size ∈ lw_TB := lw_inT (List.mem_of_getElem? (i := 498) (by rfl)) (by rfl)
set_option maxRecDepth 20000 in
theorem wd_im_yX5_size : Cond.instanceMethod yX5_size ∈ lw_TB := lw_inT (List.mem_of_getElem? (i := 499) (by rfl)) (by rfl)
set_option maxRecDepth 20000 in
theorem wd_se_yX5_size : Cond.selects RX5 yX5_size yX5_size ∈ lw_TB := lw_inT (List.mem_of_getElem? (i := 500) (by rfl)) (by rfl)
set_option maxRecDepth 20000 in
theorem wd_co_yX5_size : Cond.code yX5_size cX5_size 2 (some .int) ∈ lw_TB := lw_inT (List.mem_of_getElem? (i := 501) (by rfl)) (by rfl)
set_option maxRecDepth 20000 in
theorem wd_ml_RX5_107 : Cond.methodLink RX5 107 yX3_length ∈ lw_TB := lw_inT (List.mem_of_getElem? (i := 502) (by rfl)) (by rfl)
set_option maxRecDepth 20000 in
theorem wd_ml_RL_48 : Cond.methodLink RL 48 yX5_item ∈ lw_TB := lw_inT (List.mem_of_getElem? (i := 503) (by rfl)) (by rfl)
set_option maxRecDepth 20000 in
theorem wd_im_yX5_item : Cond.instanceMethod yX5_item ∈ lw_TB := lw_inT (List.mem_of_getElem? (i := 504) (by rfl)) (by rfl)
set_option maxRecDepth 20000 in
theorem wd_se_yX5_item : Cond.selects RX5 yX5_item yX5_item ∈ lw_TB := lw_inT (List.mem_of_getElem? (i := 505) (by rfl)) (by rfl)
set_option maxRecDepth 20000 in
theorem wd_co_yX5_item : Cond.code yX5_item cX5_item 3 (some .int) ∈ lw_TB := lw_inT (List.mem_of_getElem? (i := 506) (by rfl)) (by rfl)
set_option maxRecDepth 20000 in
theorem wd_ml_RL_52 : Cond.methodLink RL 52 yX5_frozen ∈ lw_TB := lw_inT (List.mem_of_getElem? (i := 507) (by rfl)) (by rfl)
set_option maxRecDepth 20000 in
theorem wd_im_yX5_frozen : Cond.instanceMethod yX5_frozen ∈ lw_TB := lw_inT (List.mem_of_getElem? (i := 508) (by rfl)) (by rfl)
set_option maxRecDepth 20000 in
theorem wd_se_yX5_frozen : Cond.selects RX5 yX5_frozen yX5_frozen ∈ lw_TB := lw_inT (List.mem_of_getElem? (i := 509) (by rfl)) (by rfl)
set_option maxRecDepth 20000 in
theorem wd_co_yX5_frozen : Cond.code yX5_frozen cX5_frozen 2 (some .int) ∈ lw_TB := lw_inT (List.mem_of_getElem? (i := 510) (by rfl)) (by rfl)
set_option maxRecDepth 20000 in
theorem wd_ml_RX5_114 : Cond.methodLink RX5 114 yX3_isFrozen ∈ lw_TB := lw_inT (List.mem_of_getElem? (i := 511) (by rfl)) (by rfl)
set_option maxRecDepth 20000 in
theorem wd_ml_RL_56 : Cond.methodLink RL 56 yX5_put ∈ lw_TB := lw_inT (List.mem_of_getElem? (i := 512) (by rfl)) (by rfl)
set_option maxRecDepth 20000 in
theorem wd_im_yX5_put : Cond.instanceMethod yX5_put ∈ lw_TB := lw_inT (List.mem_of_getElem? (i := 513) (by rfl)) (by rfl)
set_option maxRecDepth 20000 in
theorem wd_se_yX5_put : Cond.selects RX5 yX5_put yX5_put ∈ lw_TB := lw_inT (List.mem_of_getElem? (i := 514) (by rfl)) (by rfl)
set_option maxRecDepth 20000 in
theorem wd_co_yX5_put : Cond.code yX5_put cX5_put 4 (some .int) ∈ lw_TB := lw_inT (List.mem_of_getElem? (i := 515) (by rfl)) (by rfl)
set_option maxRecDepth 20000 in
theorem wd_ml_RX5_117 : Cond.methodLink RX5 117 yX1_hold ∈ lw_TB := lw_inT (List.mem_of_getElem? (i := 516) (by rfl)) (by rfl)
set_option maxRecDepth 20000 in
theorem wd_ml_RL_60 : Cond.methodLink RL 60 yX5_writes ∈ lw_TB := lw_inT (List.mem_of_getElem? (i := 517) (by rfl)) (by rfl)
set_option maxRecDepth 20000 in
theorem wd_im_yX5_writes : Cond.instanceMethod yX5_writes ∈ lw_TB := lw_inT (List.mem_of_getElem? (i := 518) (by rfl)) (by rfl)
set_option maxRecDepth 20000 in
theorem wd_se_yX5_writes : Cond.selects RX5 yX5_writes yX5_writes ∈ lw_TB := lw_inT (List.mem_of_getElem? (i := 519) (by rfl)) (by rfl)
set_option maxRecDepth 20000 in
theorem wd_co_yX5_writes : Cond.code yX5_writes cX5_writes 1 (some .int) ∈ lw_TB := lw_inT (List.mem_of_getElem? (i := 520) (by rfl)) (by rfl)
set_option maxRecDepth 20000 in
theorem wd_ml_RL_65 : Cond.methodLink RL 65 yX5_write ∈ lw_TB := lw_inT (List.mem_of_getElem? (i := 521) (by rfl)) (by rfl)
set_option maxRecDepth 20000 in
theorem wd_im_yX5_write : Cond.instanceMethod yX5_write ∈ lw_TB := lw_inT (List.mem_of_getElem? (i := 522) (by rfl)) (by rfl)
set_option maxRecDepth 20000 in
theorem wd_se_yX5_write : Cond.selects RX5 yX5_write yX5_write ∈ lw_TB := lw_inT (List.mem_of_getElem? (i := 523) (by rfl)) (by rfl)
set_option maxRecDepth 20000 in
theorem wd_co_yX5_write : Cond.code yX5_write cX5_write 3 (some .int) ∈ lw_TB := lw_inT (List.mem_of_getElem? (i := 524) (by rfl)) (by rfl)
set_option maxRecDepth 20000 in
theorem wd_ml_RX5_130 : Cond.methodLink RX5 130 yX2_tell ∈ lw_TB := lw_inT (List.mem_of_getElem? (i := 525) (by rfl)) (by rfl)
set_option maxRecDepth 20000 in
theorem wd_im_yX2_tell : Cond.instanceMethod yX2_tell ∈ lw_TB := lw_inT (List.mem_of_getElem? (i := 526) (by rfl)) (by rfl)
set_option maxRecDepth 20000 in
theorem wd_se_yX2_tell : Cond.selects RX2 yX2_tell yX2_tell ∈ lw_TB := lw_inT (List.mem_of_getElem? (i := 527) (by rfl)) (by rfl)
set_option maxRecDepth 20000 in
theorem wd_co_yX2_tell : Cond.code yX2_tell cX2_tell 4 (some .int) ∈ lw_TB := lw_inT (List.mem_of_getElem? (i := 528) (by rfl)) (by rfl)
set_option maxRecDepth 20000 in
theorem wd_ml_RL_69 : Cond.methodLink RL 69 yX5_again ∈ lw_TB := lw_inT (List.mem_of_getElem? (i := 529) (by rfl)) (by rfl)
set_option maxRecDepth 20000 in
theorem wd_im_yX5_again : Cond.instanceMethod yX5_again ∈ lw_TB := lw_inT (List.mem_of_getElem? (i := 530) (by rfl)) (by rfl)
set_option maxRecDepth 20000 in
theorem wd_se_yX5_again : Cond.selects RX5 yX5_again yX5_again ∈ lw_TB := lw_inT (List.mem_of_getElem? (i := 531) (by rfl)) (by rfl)
set_option maxRecDepth 20000 in
theorem wd_co_yX5_again : Cond.code yX5_again cX5_again 1 (some .int) ∈ lw_TB := lw_inT (List.mem_of_getElem? (i := 532) (by rfl)) (by rfl)
set_option maxRecDepth 20000 in
theorem wd_ml_RX5_133 : Cond.methodLink RX5 133 yX5_restart ∈ lw_TB := lw_inT (List.mem_of_getElem? (i := 533) (by rfl)) (by rfl)
set_option maxRecDepth 20000 in
theorem wd_im_yX5_restart : Cond.instanceMethod yX5_restart ∈ lw_TB := lw_inT (List.mem_of_getElem? (i := 535) (by rfl)) (by rfl)
set_option maxRecDepth 20000 in
theorem wd_co_yX5_restart : Cond.code yX5_restart cX5_restart 5 (some .int) ∈ lw_TB := lw_inT (List.mem_of_getElem? (i := 536) (by rfl)) (by rfl)
set_option maxRecDepth 20000 in
theorem wd_ml_RX5_140 : Cond.methodLink RX5 140 yX1_reset ∈ lw_TB := lw_inT (List.mem_of_getElem? (i := 537) (by rfl)) (by rfl)
set_option maxRecDepth 20000 in
theorem wd_ml_RX5_143 : Cond.methodLink RX5 143 yX3_reset ∈ lw_TB := lw_inT (List.mem_of_getElem? (i := 538) (by rfl)) (by rfl)
set_option maxRecDepth 20000 in
theorem wd_ml_RX5_144 : Cond.methodLink RX5 144 yX4_reset ∈ lw_TB := lw_inT (List.mem_of_getElem? (i := 539) (by rfl)) (by rfl)
set_option maxRecDepth 20000 in
theorem wd_im_yX4_reset : Cond.instanceMethod yX4_reset ∈ lw_TB := lw_inT (List.mem_of_getElem? (i := 540) (by rfl)) (by rfl)
set_option maxRecDepth 20000 in
theorem wd_se_yX4_reset : Cond.selects RX4 yX4_reset yX4_reset ∈ lw_TB := lw_inT (List.mem_of_getElem? (i := 541) (by rfl)) (by rfl)
set_option maxRecDepth 20000 in
theorem wd_co_yX4_reset : Cond.code yX4_reset cX4_reset 2 none ∈ lw_TB := lw_inT (List.mem_of_getElem? (i := 542) (by rfl)) (by rfl)
set_option maxRecDepth 20000 in
theorem wd_ml_RX4_44 : Cond.methodLink RX4 44 yJ7_fill_53178 ∈ lw_TB := lw_inT (List.mem_of_getElem? (i := 543) (by rfl)) (by rfl)
set_option maxRecDepth 20000 in
theorem wd_ml_RL_73 : Cond.methodLink RL 73 yX5_clear ∈ lw_TB := lw_inT (List.mem_of_getElem? (i := 544) (by rfl)) (by rfl)
set_option maxRecDepth 20000 in
theorem wd_im_yX5_clear : Cond.instanceMethod yX5_clear ∈ lw_TB := lw_inT (List.mem_of_getElem? (i := 545) (by rfl)) (by rfl)
set_option maxRecDepth 20000 in
theorem wd_se_yX5_clear : Cond.selects RX5 yX5_clear yX5_clear ∈ lw_TB := lw_inT (List.mem_of_getElem? (i := 546) (by rfl)) (by rfl)
set_option maxRecDepth 20000 in
theorem wd_co_yX5_clear : Cond.code yX5_clear cX5_clear 1 (some .int) ∈ lw_TB := lw_inT (List.mem_of_getElem? (i := 547) (by rfl)) (by rfl)
set_option maxRecDepth 20000 in
theorem wd_cl_RL_10 : Cond.classLink RL 10 RX6 ∈ lw_TB := lw_inT (List.mem_of_getElem? (i := 548) (by rfl)) (by rfl)
set_option maxRecDepth 20000 in
theorem wd_ist_RX6 : Cond.instantiable RX6 34 ∈ lw_TB := lw_inT (List.mem_of_getElem? (i := 549) (by rfl)) (by rfl)
set_option maxRecDepth 20000 in
theorem wd_ml_RL_12 : Cond.methodLink RL 12 yX6_init ∈ lw_TB := lw_inT (List.mem_of_getElem? (i := 550) (by rfl)) (by rfl)
set_option maxRecDepth 20000 in
theorem wd_im_yX6_init : Cond.instanceMethod yX6_init ∈ lw_TB := lw_inT (List.mem_of_getElem? (i := 551) (by rfl)) (by rfl)
set_option maxRecDepth 20000 in
theorem wd_co_yX6_init : Cond.code yX6_init cX6_init 1 none ∈ lw_TB := lw_inT (List.mem_of_getElem? (i := 552) (by rfl)) (by rfl)
set_option maxRecDepth 20000 in
theorem wd_ml_RX6_1 : Cond.methodLink RX6 1 objectInit ∈ lw_TB := lw_inT (List.mem_of_getElem? (i := 553) (by rfl)) (by rfl)
set_option maxRecDepth 20000 in
theorem wd_ml_RX6_104 : Cond.methodLink RX6 104 yX6_begin ∈ lw_TB := lw_inT (List.mem_of_getElem? (i := 554) (by rfl)) (by rfl)
set_option maxRecDepth 20000 in
theorem wd_im_yX6_begin : Cond.instanceMethod yX6_begin ∈ lw_TB := lw_inT (List.mem_of_getElem? (i := 556) (by rfl)) (by rfl)
set_option maxRecDepth 20000 in
theorem wd_co_yX6_begin : Cond.code yX6_begin cX6_begin 3 none ∈ lw_TB := lw_inT (List.mem_of_getElem? (i := 557) (by rfl)) (by rfl)
set_option maxRecDepth 20000 in
theorem wd_fl_RX6_181 : Cond.fieldLink RX6 181 "MutableCellsModel" "failures" "I" ∈ lw_TB := lw_inT (List.mem_of_getElem? (i := 558) (by rfl)) (by rfl)
set_option maxRecDepth 20000 in
theorem wd_fl_RX6_7 : Cond.fieldLink RX6 7 "MutableCellsModel" "cells" "[I" ∈ lw_TB := lw_inT (List.mem_of_getElem? (i := 559) (by rfl)) (by rfl)
set_option maxRecDepth 20000 in
theorem wd_fl_RX6_13 : Cond.fieldLink RX6 13 "MutableCellsModel" "isLazy" "[Z" ∈ lw_TB := lw_inT (List.mem_of_getElem? (i := 560) (by rfl)) (by rfl)
set_option maxRecDepth 20000 in
theorem wd_fl_RX6_17 : Cond.fieldLink RX6 17 "MutableCellsModel" "isRead" "[Z" ∈ lw_TB := lw_inT (List.mem_of_getElem? (i := 561) (by rfl)) (by rfl)
set_option maxRecDepth 20000 in
theorem wd_fl_RX6_20 : Cond.fieldLink RX6 20 "MutableCellsModel" "sizes" "[I" ∈ lw_TB := lw_inT (List.mem_of_getElem? (i := 562) (by rfl)) (by rfl)
set_option maxRecDepth 20000 in
theorem wd_fl_RX6_23 : Cond.fieldLink RX6 23 "MutableCellsModel" "items" "[I" ∈ lw_TB := lw_inT (List.mem_of_getElem? (i := 563) (by rfl)) (by rfl)
set_option maxRecDepth 20000 in
theorem wd_fl_RX6_26 : Cond.fieldLink RX6 26 "MutableCellsModel" "isFrozen" "[Z" ∈ lw_TB := lw_inT (List.mem_of_getElem? (i := 564) (by rfl)) (by rfl)
set_option maxRecDepth 20000 in
theorem wd_fl_RX6_29 : Cond.fieldLink RX6 29 "MutableCellsModel" "many" "[I" ∈ lw_TB := lw_inT (List.mem_of_getElem? (i := 565) (by rfl)) (by rfl)
set_option maxRecDepth 20000 in
theorem wd_fl_RX6_32 : Cond.fieldLink RX6 32 "MutableCellsModel" "kind" "[I" ∈ lw_TB := lw_inT (List.mem_of_getElem? (i := 566) (by rfl)) (by rfl)
set_option maxRecDepth 20000 in
theorem wd_fl_RX6_35 : Cond.fieldLink RX6 35 "MutableCellsModel" "actX" "[I" ∈ lw_TB := lw_inT (List.mem_of_getElem? (i := 567) (by rfl)) (by rfl)
set_option maxRecDepth 20000 in
theorem wd_fl_RX6_38 : Cond.fieldLink RX6 38 "MutableCellsModel" "actY" "[I" ∈ lw_TB := lw_inT (List.mem_of_getElem? (i := 568) (by rfl)) (by rfl)
set_option maxRecDepth 20000 in
theorem wd_fl_RX6_41 : Cond.fieldLink RX6 41 "MutableCellsModel" "actZ" "[I" ∈ lw_TB := lw_inT (List.mem_of_getElem? (i := 569) (by rfl)) (by rfl)
set_option maxRecDepth 20000 in
theorem wd_fl_RX6_44 : Cond.fieldLink RX6 44 "MutableCellsModel" "registers" "[I" ∈ lw_TB := lw_inT (List.mem_of_getElem? (i := 570) (by rfl)) (by rfl)
set_option maxRecDepth 20000 in
theorem wd_fl_RX6_47 : Cond.fieldLink RX6 47 "MutableCellsModel" "place" "[I" ∈ lw_TB := lw_inT (List.mem_of_getElem? (i := 571) (by rfl)) (by rfl)
set_option maxRecDepth 20000 in
theorem wd_fl_RX6_50 : Cond.fieldLink RX6 50 "MutableCellsModel" "failedBy" "[I" ∈ lw_TB := lw_inT (List.mem_of_getElem? (i := 572) (by rfl)) (by rfl)
set_option maxRecDepth 20000 in
theorem wd_fl_RX6_53 : Cond.fieldLink RX6 53 "MutableCellsModel" "hasFailed" "[Z" ∈ lw_TB := lw_inT (List.mem_of_getElem? (i := 573) (by rfl)) (by rfl)
set_option maxRecDepth 20000 in
theorem wd_fl_RX6_56 : Cond.fieldLink RX6 56 "MutableCellsModel" "turns" "[I" ∈ lw_TB := lw_inT (List.mem_of_getElem? (i := 574) (by rfl)) (by rfl)
set_option maxRecDepth 20000 in
theorem wd_fl_RX6_59 : Cond.fieldLink RX6 59 "MutableCellsModel" "anew" "[I" ∈ lw_TB := lw_inT (List.mem_of_getElem? (i := 575) (by rfl)) (by rfl)
set_option maxRecDepth 20000 in
theorem wd_fl_RX6_62 : Cond.fieldLink RX6 62 "MutableCellsModel" "tries" "[I" ∈ lw_TB := lw_inT (List.mem_of_getElem? (i := 576) (by rfl)) (by rfl)
set_option maxRecDepth 20000 in
theorem wd_fl_RX6_65 : Cond.fieldLink RX6 65 "MutableCellsModel" "tryPlace" "[I" ∈ lw_TB := lw_inT (List.mem_of_getElem? (i := 577) (by rfl)) (by rfl)
set_option maxRecDepth 20000 in
theorem wd_fl_RX6_68 : Cond.fieldLink RX6 68 "MutableCellsModel" "isAtom" "[Z" ∈ lw_TB := lw_inT (List.mem_of_getElem? (i := 578) (by rfl)) (by rfl)
set_option maxRecDepth 20000 in
theorem wd_fl_RX6_71 : Cond.fieldLink RX6 71 "MutableCellsModel" "atomTries" "[I" ∈ lw_TB := lw_inT (List.mem_of_getElem? (i := 579) (by rfl)) (by rfl)
set_option maxRecDepth 20000 in
theorem wd_fl_RX6_74 : Cond.fieldLink RX6 74 "MutableCellsModel" "atomPlace" "[I" ∈ lw_TB := lw_inT (List.mem_of_getElem? (i := 580) (by rfl)) (by rfl)
set_option maxRecDepth 20000 in
theorem wd_fl_RX6_77 : Cond.fieldLink RX6 77 "MutableCellsModel" "atomRegisters" "[I" ∈ lw_TB := lw_inT (List.mem_of_getElem? (i := 581) (by rfl)) (by rfl)
set_option maxRecDepth 20000 in
theorem wd_fl_RX6_80 : Cond.fieldLink RX6 80 "MutableCellsModel" "wasRead" "[Z" ∈ lw_TB := lw_inT (List.mem_of_getElem? (i := 582) (by rfl)) (by rfl)
set_option maxRecDepth 20000 in
theorem wd_fl_RX6_83 : Cond.fieldLink RX6 83 "MutableCellsModel" "firstRead" "[I" ∈ lw_TB := lw_inT (List.mem_of_getElem? (i := 583) (by rfl)) (by rfl)
set_option maxRecDepth 20000 in
theorem wd_fl_RX6_86 : Cond.fieldLink RX6 86 "MutableCellsModel" "wasPut" "[Z" ∈ lw_TB := lw_inT (List.mem_of_getElem? (i := 584) (by rfl)) (by rfl)
set_option maxRecDepth 20000 in
theorem wd_fl_RX6_89 : Cond.fieldLink RX6 89 "MutableCellsModel" "putThere" "[I" ∈ lw_TB := lw_inT (List.mem_of_getElem? (i := 585) (by rfl)) (by rfl)
set_option maxRecDepth 20000 in
theorem wd_fl_RX6_107 : Cond.fieldLink RX6 107 "MutableCellsModel" "writes" "I" ∈ lw_TB := lw_inT (List.mem_of_getElem? (i := 586) (by rfl)) (by rfl)
set_option maxRecDepth 20000 in
theorem wd_fl_RX6_92 : Cond.fieldLink RX6 92 "MutableCellsModel" "writeThread" "[I" ∈ lw_TB := lw_inT (List.mem_of_getElem? (i := 587) (by rfl)) (by rfl)
set_option maxRecDepth 20000 in
theorem wd_fl_RX6_95 : Cond.fieldLink RX6 95 "MutableCellsModel" "writeCell" "[I" ∈ lw_TB := lw_inT (List.mem_of_getElem? (i := 588) (by rfl)) (by rfl)
set_option maxRecDepth 20000 in
theorem wd_fl_RX6_98 : Cond.fieldLink RX6 98 "MutableCellsModel" "writeNumbe\x72" "[I" ∈ lw_TB := lw_inT (List.mem_of_getElem? (i := 589) (by rfl)) (by rfl)
set_option maxRecDepth 20000 in
theorem wd_fl_RX6_133 : Cond.fieldLink RX6 133 "MutableCellsModel" "failure" "I" ∈ lw_TB := lw_inT (List.mem_of_getElem? (i := 590) (by rfl)) (by rfl)
set_option maxRecDepth 20000 in
theorem wd_fl_RX6_101 : Cond.fieldLink RX6 101 "MutableCellsModel" "chain" "[I" ∈ lw_TB := lw_inT (List.mem_of_getElem? (i := 591) (by rfl)) (by rfl)
set_option maxRecDepth 20000 in
theorem wd_ml_RL_17 : Cond.methodLink RL 17 yX6_act ∈ lw_TB := lw_inT (List.mem_of_getElem? (i := 661) (by rfl)) (by rfl)
set_option maxRecDepth 20000 in
theorem wd_im_yX6_act : Cond.instanceMethod yX6_act ∈ lw_TB := lw_inT (List.mem_of_getElem? (i := 662) (by rfl)) (by rfl)
set_option maxRecDepth 20000 in
theorem wd_se_yX6_act : Cond.selects RX6 yX6_act yX6_act ∈ lw_TB := lw_inT (List.mem_of_getElem? (i := 663) (by rfl)) (by rfl)
set_option maxRecDepth 20000 in
theorem wd_co_yX6_act : Cond.code yX6_act cX6_act 7 (some .int) ∈ lw_TB := lw_inT (List.mem_of_getElem? (i := 664) (by rfl)) (by rfl)
set_option maxRecDepth 20000 in
theorem wd_ml_RX6_111 : Cond.methodLink RX6 111 yX6_within ∈ lw_TB := lw_inT (List.mem_of_getElem? (i := 665) (by rfl)) (by rfl)
set_option maxRecDepth 20000 in
theorem wd_sm_yX6_within : Cond.static yX6_within ∈ lw_TB := lw_inT (List.mem_of_getElem? (i := 666) (by rfl)) (by rfl)
set_option maxRecDepth 20000 in
theorem wd_co_yX6_within : Cond.code yX6_within cX6_within 3 (some .boolean) ∈ lw_TB := lw_inT (List.mem_of_getElem? (i := 667) (by rfl)) (by rfl)
set_option maxRecDepth 20000 in
theorem wd_ml_RX6_125 : Cond.methodLink RX6 125 yX6_fits ∈ lw_TB := lw_inT (List.mem_of_getElem? (i := 668) (by rfl)) (by rfl)
set_option maxRecDepth 20000 in
theorem wd_sm_yX6_fits : Cond.static yX6_fits ∈ lw_TB := lw_inT (List.mem_of_getElem? (i := 669) (by rfl)) (by rfl)
set_option maxRecDepth 20000 in
theorem wd_co_yX6_fits : Cond.code yX6_fits cX6_fits 4 (some .boolean) ∈ lw_TB := lw_inT (List.mem_of_getElem? (i := 670) (by rfl)) (by rfl)
set_option maxRecDepth 20000 in
theorem wd_ml_RX6_115 : Cond.methodLink RX6 115 yX6_isRegister ∈ lw_TB := lw_inT (List.mem_of_getElem? (i := 671) (by rfl)) (by rfl)
set_option maxRecDepth 20000 in
theorem wd_sm_yX6_isRegister : Cond.static yX6_isRegister ∈ lw_TB := lw_inT (List.mem_of_getElem? (i := 672) (by rfl)) (by rfl)
set_option maxRecDepth 20000 in
theorem wd_co_yX6_isRegister : Cond.code yX6_isRegister cX6_isRegister 1 (some .boolean) ∈ lw_TB := lw_inT (List.mem_of_getElem? (i := 673) (by rfl)) (by rfl)
set_option maxRecDepth 20000 in
theorem wd_ml_RX6_119 : Cond.methodLink RX6 119 yX6_isCell ∈ lw_TB := lw_inT (List.mem_of_getElem? (i := 674) (by rfl)) (by rfl)
set_option maxRecDepth 20000 in
theorem wd_sm_yX6_isCell : Cond.static yX6_isCell ∈ lw_TB := lw_inT (List.mem_of_getElem? (i := 675) (by rfl)) (by rfl)
set_option maxRecDepth 20000 in
theorem wd_co_yX6_isCell : Cond.code yX6_isCell cX6_isCell 1 (some .boolean) ∈ lw_TB := lw_inT (List.mem_of_getElem? (i := 676) (by rfl)) (by rfl)
set_option maxRecDepth 20000 in
theorem wd_ml_RX6_122 : Cond.methodLink RX6 122 yX6_isPlaceIn ∈ lw_TB := lw_inT (List.mem_of_getElem? (i := 677) (by rfl)) (by rfl)
set_option maxRecDepth 20000 in
theorem wd_sm_yX6_isPlaceIn : Cond.static yX6_isPlaceIn ∈ lw_TB := lw_inT (List.mem_of_getElem? (i := 678) (by rfl)) (by rfl)
set_option maxRecDepth 20000 in
theorem wd_co_yX6_isPlaceIn : Cond.code yX6_isPlaceIn cX6_isPlaceIn 1 (some .boolean) ∈ lw_TB := lw_inT (List.mem_of_getElem? (i := 679) (by rfl)) (by rfl)
set_option maxRecDepth 20000 in
theorem wd_ml_RL_22 : Cond.methodLink RL 22 yX6_turn ∈ lw_TB := lw_inT (List.mem_of_getElem? (i := 680) (by rfl)) (by rfl)
set_option maxRecDepth 20000 in
theorem wd_im_yX6_turn : Cond.instanceMethod yX6_turn ∈ lw_TB := lw_inT (List.mem_of_getElem? (i := 681) (by rfl)) (by rfl)
set_option maxRecDepth 20000 in
theorem wd_se_yX6_turn : Cond.selects RX6 yX6_turn yX6_turn ∈ lw_TB := lw_inT (List.mem_of_getElem? (i := 682) (by rfl)) (by rfl)
set_option maxRecDepth 20000 in
theorem wd_co_yX6_turn : Cond.code yX6_turn cX6_turn 2 (some .int) ∈ lw_TB := lw_inT (List.mem_of_getElem? (i := 683) (by rfl)) (by rfl)
set_option maxRecDepth 20000 in
theorem wd_ml_RX6_190 : Cond.methodLink RX6 190 yX6_stateOf ∈ lw_TB := lw_inT (List.mem_of_getElem? (i := 684) (by rfl)) (by rfl)
set_option maxRecDepth 20000 in
theorem wd_im_yX6_stateOf : Cond.instanceMethod yX6_stateOf ∈ lw_TB := lw_inT (List.mem_of_getElem? (i := 686) (by rfl)) (by rfl)
set_option maxRecDepth 20000 in
theorem wd_co_yX6_stateOf : Cond.code yX6_stateOf cX6_stateOf 2 (some .int) ∈ lw_TB := lw_inT (List.mem_of_getElem? (i := 687) (by rfl)) (by rfl)
set_option maxRecDepth 20000 in
theorem wd_ml_RX6_193 : Cond.methodLink RX6 193 yX6_doTurn ∈ lw_TB := lw_inT (List.mem_of_getElem? (i := 688) (by rfl)) (by rfl)
set_option maxRecDepth 20000 in
theorem wd_im_yX6_doTurn : Cond.instanceMethod yX6_doTurn ∈ lw_TB := lw_inT (List.mem_of_getElem? (i := 690) (by rfl)) (by rfl)
set_option maxRecDepth 20000 in
theorem wd_co_yX6_doTurn : Cond.code yX6_doTurn cX6_doTurn 3 none ∈ lw_TB := lw_inT (List.mem_of_getElem? (i := 691) (by rfl)) (by rfl)
set_option maxRecDepth 20000 in
theorem wd_ml_RX6_184 : Cond.methodLink RX6 184 yX6_doAct ∈ lw_TB := lw_inT (List.mem_of_getElem? (i := 692) (by rfl)) (by rfl)
set_option maxRecDepth 20000 in
theorem wd_im_yX6_doAct : Cond.instanceMethod yX6_doAct ∈ lw_TB := lw_inT (List.mem_of_getElem? (i := 694) (by rfl)) (by rfl)
set_option maxRecDepth 20000 in
theorem wd_co_yX6_doAct : Cond.code yX6_doAct cX6_doAct 9 (some .int) ∈ lw_TB := lw_inT (List.mem_of_getElem? (i := 695) (by rfl)) (by rfl)
set_option maxRecDepth 20000 in
theorem wd_ml_RX6_147 : Cond.methodLink RX6 147 yX6_give ∈ lw_TB := lw_inT (List.mem_of_getElem? (i := 696) (by rfl)) (by rfl)
set_option maxRecDepth 20000 in
theorem wd_im_yX6_give : Cond.instanceMethod yX6_give ∈ lw_TB := lw_inT (List.mem_of_getElem? (i := 698) (by rfl)) (by rfl)
set_option maxRecDepth 20000 in
theorem wd_co_yX6_give : Cond.code yX6_give cX6_give 4 none ∈ lw_TB := lw_inT (List.mem_of_getElem? (i := 699) (by rfl)) (by rfl)
set_option maxRecDepth 20000 in
theorem wd_ml_RX6_150 : Cond.methodLink RX6 150 yX6_read ∈ lw_TB := lw_inT (List.mem_of_getElem? (i := 700) (by rfl)) (by rfl)
set_option maxRecDepth 20000 in
theorem wd_im_yX6_read : Cond.instanceMethod yX6_read ∈ lw_TB := lw_inT (List.mem_of_getElem? (i := 702) (by rfl)) (by rfl)
set_option maxRecDepth 20000 in
theorem wd_co_yX6_read : Cond.code yX6_read cX6_read 4 (some .int) ∈ lw_TB := lw_inT (List.mem_of_getElem? (i := 703) (by rfl)) (by rfl)
set_option maxRecDepth 20000 in
theorem wd_ml_RX6_139 : Cond.methodLink RX6 139 yX6_readPlain ∈ lw_TB := lw_inT (List.mem_of_getElem? (i := 704) (by rfl)) (by rfl)
set_option maxRecDepth 20000 in
theorem wd_im_yX6_readPlain : Cond.instanceMethod yX6_readPlain ∈ lw_TB := lw_inT (List.mem_of_getElem? (i := 706) (by rfl)) (by rfl)
set_option maxRecDepth 20000 in
theorem wd_co_yX6_readPlain : Cond.code yX6_readPlain cX6_readPlain 8 (some .int) ∈ lw_TB := lw_inT (List.mem_of_getElem? (i := 707) (by rfl)) (by rfl)
set_option maxRecDepth 20000 in
theorem wd_ml_RX6_136 : Cond.methodLink RX6 136 yX6_write ∈ lw_TB := lw_inT (List.mem_of_getElem? (i := 708) (by rfl)) (by rfl)
set_option maxRecDepth 20000 in
theorem wd_im_yX6_write : Cond.instanceMethod yX6_write ∈ lw_TB := lw_inT (List.mem_of_getElem? (i := 710) (by rfl)) (by rfl)
set_option maxRecDepth 20000 in
theorem wd_co_yX6_write : Cond.code yX6_write cX6_write 4 none ∈ lw_TB := lw_inT (List.mem_of_getElem? (i := 711) (by rfl)) (by rfl)
set_option maxRecDepth 20000 in
theorem wd_ml_RX6_129 : Cond.methodLink RX6 129 yX6_note ∈ lw_TB := lw_inT (List.mem_of_getElem? (i := 712) (by rfl)) (by rfl)
set_option maxRecDepth 20000 in
theorem wd_im_yX6_note : Cond.instanceMethod yX6_note ∈ lw_TB := lw_inT (List.mem_of_getElem? (i := 714) (by rfl)) (by rfl)
set_option maxRecDepth 20000 in
theorem wd_co_yX6_note : Cond.code yX6_note cX6_note 4 none ∈ lw_TB := lw_inT (List.mem_of_getElem? (i := 715) (by rfl)) (by rfl)
set_option maxRecDepth 20000 in
theorem wd_ml_RX6_153 : Cond.methodLink RX6 153 yX6_r ∈ lw_TB := lw_inT (List.mem_of_getElem? (i := 716) (by rfl)) (by rfl)
set_option maxRecDepth 20000 in
theorem wd_im_yX6_r : Cond.instanceMethod yX6_r ∈ lw_TB := lw_inT (List.mem_of_getElem? (i := 718) (by rfl)) (by rfl)
set_option maxRecDepth 20000 in
theorem wd_co_yX6_r : Cond.code yX6_r cX6_r 3 (some .int) ∈ lw_TB := lw_inT (List.mem_of_getElem? (i := 719) (by rfl)) (by rfl)
set_option maxRecDepth 20000 in
theorem wd_ml_RX6_156 : Cond.methodLink RX6 156 yX6_lay ∈ lw_TB := lw_inT (List.mem_of_getElem? (i := 720) (by rfl)) (by rfl)
set_option maxRecDepth 20000 in
theorem wd_im_yX6_lay : Cond.instanceMethod yX6_lay ∈ lw_TB := lw_inT (List.mem_of_getElem? (i := 722) (by rfl)) (by rfl)
set_option maxRecDepth 20000 in
theorem wd_co_yX6_lay : Cond.code yX6_lay cX6_lay 4 none ∈ lw_TB := lw_inT (List.mem_of_getElem? (i := 723) (by rfl)) (by rfl)
set_option maxRecDepth 20000 in
theorem wd_ml_RX6_163 : Cond.methodLink RX6 163 yX6_compute ∈ lw_TB := lw_inT (List.mem_of_getElem? (i := 724) (by rfl)) (by rfl)
set_option maxRecDepth 20000 in
theorem wd_im_yX6_compute : Cond.instanceMethod yX6_compute ∈ lw_TB := lw_inT (List.mem_of_getElem? (i := 726) (by rfl)) (by rfl)
set_option maxRecDepth 20000 in
theorem wd_co_yX6_compute : Cond.code yX6_compute cX6_compute 6 none ∈ lw_TB := lw_inT (List.mem_of_getElem? (i := 727) (by rfl)) (by rfl)
set_option maxRecDepth 20000 in
theorem wd_ml_RX6_167 : Cond.methodLink RX6 167 yX6_swap ∈ lw_TB := lw_inT (List.mem_of_getElem? (i := 728) (by rfl)) (by rfl)
set_option maxRecDepth 20000 in
theorem wd_im_yX6_swap : Cond.instanceMethod yX6_swap ∈ lw_TB := lw_inT (List.mem_of_getElem? (i := 730) (by rfl)) (by rfl)
set_option maxRecDepth 20000 in
theorem wd_co_yX6_swap : Cond.code yX6_swap cX6_swap 7 none ∈ lw_TB := lw_inT (List.mem_of_getElem? (i := 731) (by rfl)) (by rfl)
set_option maxRecDepth 20000 in
theorem wd_ml_RX6_171 : Cond.methodLink RX6 171 yX6_beginAtom ∈ lw_TB := lw_inT (List.mem_of_getElem? (i := 732) (by rfl)) (by rfl)
set_option maxRecDepth 20000 in
theorem wd_im_yX6_beginAtom : Cond.instanceMethod yX6_beginAtom ∈ lw_TB := lw_inT (List.mem_of_getElem? (i := 734) (by rfl)) (by rfl)
set_option maxRecDepth 20000 in
theorem wd_co_yX6_beginAtom : Cond.code yX6_beginAtom cX6_beginAtom 3 none ∈ lw_TB := lw_inT (List.mem_of_getElem? (i := 735) (by rfl)) (by rfl)
set_option maxRecDepth 20000 in
theorem wd_ml_RX6_143 : Cond.methodLink RX6 143 yX6_clearAtom ∈ lw_TB := lw_inT (List.mem_of_getElem? (i := 736) (by rfl)) (by rfl)
set_option maxRecDepth 20000 in
theorem wd_im_yX6_clearAtom : Cond.instanceMethod yX6_clearAtom ∈ lw_TB := lw_inT (List.mem_of_getElem? (i := 738) (by rfl)) (by rfl)
set_option maxRecDepth 20000 in
theorem wd_co_yX6_clearAtom : Cond.code yX6_clearAtom cX6_clearAtom 3 none ∈ lw_TB := lw_inT (List.mem_of_getElem? (i := 739) (by rfl)) (by rfl)
set_option maxRecDepth 20000 in
theorem wd_ml_RX6_174 : Cond.methodLink RX6 174 yX6_endAtom ∈ lw_TB := lw_inT (List.mem_of_getElem? (i := 740) (by rfl)) (by rfl)
set_option maxRecDepth 20000 in
theorem wd_im_yX6_endAtom : Cond.instanceMethod yX6_endAtom ∈ lw_TB := lw_inT (List.mem_of_getElem? (i := 742) (by rfl)) (by rfl)
set_option maxRecDepth 20000 in
theorem wd_co_yX6_endAtom : Cond.code yX6_endAtom cX6_endAtom 5 (some .int) ∈ lw_TB := lw_inT (List.mem_of_getElem? (i := 743) (by rfl)) (by rfl)
set_option maxRecDepth 20000 in
theorem wd_ml_RX6_178 : Cond.methodLink RX6 178 yX6_rows ∈ lw_TB := lw_inT (List.mem_of_getElem? (i := 744) (by rfl)) (by rfl)
set_option maxRecDepth 20000 in
theorem wd_im_yX6_rows : Cond.instanceMethod yX6_rows ∈ lw_TB := lw_inT (List.mem_of_getElem? (i := 746) (by rfl)) (by rfl)
set_option maxRecDepth 20000 in
theorem wd_co_yX6_rows : Cond.code yX6_rows cX6_rows 8 none ∈ lw_TB := lw_inT (List.mem_of_getElem? (i := 747) (by rfl)) (by rfl)
set_option maxRecDepth 20000 in
theorem wd_ml_RX6_159 : Cond.methodLink RX6 159 yX6_checkItem ∈ lw_TB := lw_inT (List.mem_of_getElem? (i := 748) (by rfl)) (by rfl)
set_option maxRecDepth 20000 in
theorem wd_im_yX6_checkItem : Cond.instanceMethod yX6_checkItem ∈ lw_TB := lw_inT (List.mem_of_getElem? (i := 750) (by rfl)) (by rfl)
set_option maxRecDepth 20000 in
theorem wd_co_yX6_checkItem : Cond.code yX6_checkItem cX6_checkItem 3 none ∈ lw_TB := lw_inT (List.mem_of_getElem? (i := 751) (by rfl)) (by rfl)
set_option maxRecDepth 20000 in
theorem wd_ml_RX6_187 : Cond.methodLink RX6 187 yX6_fail ∈ lw_TB := lw_inT (List.mem_of_getElem? (i := 752) (by rfl)) (by rfl)
set_option maxRecDepth 20000 in
theorem wd_im_yX6_fail : Cond.instanceMethod yX6_fail ∈ lw_TB := lw_inT (List.mem_of_getElem? (i := 754) (by rfl)) (by rfl)
set_option maxRecDepth 20000 in
theorem wd_co_yX6_fail : Cond.code yX6_fail cX6_fail 2 none ∈ lw_TB := lw_inT (List.mem_of_getElem? (i := 755) (by rfl)) (by rfl)
set_option maxRecDepth 20000 in
theorem wd_ml_RL_27 : Cond.methodLink RL 27 yX6_play ∈ lw_TB := lw_inT (List.mem_of_getElem? (i := 756) (by rfl)) (by rfl)
set_option maxRecDepth 20000 in
theorem wd_im_yX6_play : Cond.instanceMethod yX6_play ∈ lw_TB := lw_inT (List.mem_of_getElem? (i := 757) (by rfl)) (by rfl)
set_option maxRecDepth 20000 in
theorem wd_se_yX6_play : Cond.selects RX6 yX6_play yX6_play ∈ lw_TB := lw_inT (List.mem_of_getElem? (i := 758) (by rfl)) (by rfl)
set_option maxRecDepth 20000 in
theorem wd_co_yX6_play : Cond.code yX6_play cX6_play 9 (some .int) ∈ lw_TB := lw_inT (List.mem_of_getElem? (i := 759) (by rfl)) (by rfl)
set_option maxRecDepth 20000 in
theorem wd_ct_RX6_196 : Cond.constant RX6 196 1103515245 ∈ lw_TB := lw_inT (List.mem_of_getElem? (i := 760) (by rfl)) (by rfl)
set_option maxRecDepth 20000 in
theorem wd_ml_RL_31 : Cond.methodLink RL 31 yX6_told ∈ lw_TB := lw_inT (List.mem_of_getElem? (i := 761) (by rfl)) (by rfl)
set_option maxRecDepth 20000 in
theorem wd_im_yX6_told : Cond.instanceMethod yX6_told ∈ lw_TB := lw_inT (List.mem_of_getElem? (i := 762) (by rfl)) (by rfl)
set_option maxRecDepth 20000 in
theorem wd_se_yX6_told : Cond.selects RX6 yX6_told yX6_told ∈ lw_TB := lw_inT (List.mem_of_getElem? (i := 763) (by rfl)) (by rfl)
set_option maxRecDepth 20000 in
theorem wd_co_yX6_told : Cond.code yX6_told cX6_told 3 (some .int) ∈ lw_TB := lw_inT (List.mem_of_getElem? (i := 764) (by rfl)) (by rfl)
set_option maxRecDepth 20000 in
theorem wd_ml_RL_35 : Cond.methodLink RL 35 yX6_register ∈ lw_TB := lw_inT (List.mem_of_getElem? (i := 765) (by rfl)) (by rfl)
set_option maxRecDepth 20000 in
theorem wd_im_yX6_register : Cond.instanceMethod yX6_register ∈ lw_TB := lw_inT (List.mem_of_getElem? (i := 766) (by rfl)) (by rfl)
set_option maxRecDepth 20000 in
theorem wd_se_yX6_register : Cond.selects RX6 yX6_register yX6_register ∈ lw_TB := lw_inT (List.mem_of_getElem? (i := 767) (by rfl)) (by rfl)
set_option maxRecDepth 20000 in
theorem wd_co_yX6_register : Cond.code yX6_register cX6_register 3 (some .int) ∈ lw_TB := lw_inT (List.mem_of_getElem? (i := 768) (by rfl)) (by rfl)
set_option maxRecDepth 20000 in
theorem wd_ml_RL_39 : Cond.methodLink RL 39 yX6_cell ∈ lw_TB := lw_inT (List.mem_of_getElem? (i := 769) (by rfl)) (by rfl)
set_option maxRecDepth 20000 in
theorem wd_im_yX6_cell : Cond.instanceMethod yX6_cell ∈ lw_TB := lw_inT (List.mem_of_getElem? (i := 770) (by rfl)) (by rfl)
set_option maxRecDepth 20000 in
theorem wd_se_yX6_cell : Cond.selects RX6 yX6_cell yX6_cell ∈ lw_TB := lw_inT (List.mem_of_getElem? (i := 771) (by rfl)) (by rfl)
set_option maxRecDepth 20000 in
theorem wd_co_yX6_cell : Cond.code yX6_cell cX6_cell 2 (some .int) ∈ lw_TB := lw_inT (List.mem_of_getElem? (i := 772) (by rfl)) (by rfl)
set_option maxRecDepth 20000 in
theorem wd_ml_RL_43 : Cond.methodLink RL 43 yX6_lazy ∈ lw_TB := lw_inT (List.mem_of_getElem? (i := 773) (by rfl)) (by rfl)
set_option maxRecDepth 20000 in
theorem wd_im_yX6_lazy : Cond.instanceMethod yX6_lazy ∈ lw_TB := lw_inT (List.mem_of_getElem? (i := 774) (by rfl)) (by rfl)
set_option maxRecDepth 20000 in
theorem wd_se_yX6_lazy : Cond.selects RX6 yX6_lazy yX6_lazy ∈ lw_TB := lw_inT (List.mem_of_getElem? (i := 775) (by rfl)) (by rfl)
set_option maxRecDepth 20000 in
theorem wd_co_yX6_lazy : Cond.code yX6_lazy cX6_lazy 2 (some .int) ∈ lw_TB := lw_inT (List.mem_of_getElem? (i := 776) (by rfl)) (by rfl)
set_option maxRecDepth 20000 in
theorem wd_ml_RL_47 : Cond.methodLink RL 47 yX6_size ∈ lw_TB := lw_inT (List.mem_of_getElem? (i := 777) (by rfl)) (by rfl)
set_option maxRecDepth 20000 in
theorem wd_im_yX6_size : Cond.instanceMethod yX6_size ∈ lw_TB := lw_inT (List.mem_of_getElem? (i := 778) (by rfl)) (by rfl)
set_option maxRecDepth 20000 in
theorem wd_se_yX6_size : Cond.selects RX6 yX6_size yX6_size ∈ lw_TB := lw_inT (List.mem_of_getElem? (i := 779) (by rfl)) (by rfl)
set_option maxRecDepth 20000 in
theorem wd_co_yX6_size : Cond.code yX6_size cX6_size 2 (some .int) ∈ lw_TB := lw_inT (List.mem_of_getElem? (i := 780) (by rfl)) (by rfl)
set_option maxRecDepth 20000 in
theorem wd_ml_RL_51 : Cond.methodLink RL 51 yX6_item ∈ lw_TB := lw_inT (List.mem_of_getElem? (i := 781) (by rfl)) (by rfl)
set_option maxRecDepth 20000 in
theorem wd_im_yX6_item : Cond.instanceMethod yX6_item ∈ lw_TB := lw_inT (List.mem_of_getElem? (i := 782) (by rfl)) (by rfl)
set_option maxRecDepth 20000 in
theorem wd_se_yX6_item : Cond.selects RX6 yX6_item yX6_item ∈ lw_TB := lw_inT (List.mem_of_getElem? (i := 783) (by rfl)) (by rfl)
set_option maxRecDepth 20000 in
theorem wd_co_yX6_item : Cond.code yX6_item cX6_item 3 (some .int) ∈ lw_TB := lw_inT (List.mem_of_getElem? (i := 784) (by rfl)) (by rfl)
set_option maxRecDepth 20000 in
theorem wd_ml_RL_55 : Cond.methodLink RL 55 yX6_frozen ∈ lw_TB := lw_inT (List.mem_of_getElem? (i := 785) (by rfl)) (by rfl)
set_option maxRecDepth 20000 in
theorem wd_im_yX6_frozen : Cond.instanceMethod yX6_frozen ∈ lw_TB := lw_inT (List.mem_of_getElem? (i := 786) (by rfl)) (by rfl)
set_option maxRecDepth 20000 in
theorem wd_se_yX6_frozen : Cond.selects RX6 yX6_frozen yX6_frozen ∈ lw_TB := lw_inT (List.mem_of_getElem? (i := 787) (by rfl)) (by rfl)
set_option maxRecDepth 20000 in
theorem wd_co_yX6_frozen : Cond.code yX6_frozen cX6_frozen 2 (some .int) ∈ lw_TB := lw_inT (List.mem_of_getElem? (i := 788) (by rfl)) (by rfl)
set_option maxRecDepth 20000 in
theorem wd_ml_RL_59 : Cond.methodLink RL 59 yX6_put ∈ lw_TB := lw_inT (List.mem_of_getElem? (i := 789) (by rfl)) (by rfl)
set_option maxRecDepth 20000 in
theorem wd_im_yX6_put : Cond.instanceMethod yX6_put ∈ lw_TB := lw_inT (List.mem_of_getElem? (i := 790) (by rfl)) (by rfl)
set_option maxRecDepth 20000 in
theorem wd_se_yX6_put : Cond.selects RX6 yX6_put yX6_put ∈ lw_TB := lw_inT (List.mem_of_getElem? (i := 791) (by rfl)) (by rfl)
set_option maxRecDepth 20000 in
theorem wd_co_yX6_put : Cond.code yX6_put cX6_put 4 (some .int) ∈ lw_TB := lw_inT (List.mem_of_getElem? (i := 792) (by rfl)) (by rfl)
set_option maxRecDepth 20000 in
theorem wd_ml_RL_64 : Cond.methodLink RL 64 yX6_writes ∈ lw_TB := lw_inT (List.mem_of_getElem? (i := 793) (by rfl)) (by rfl)
set_option maxRecDepth 20000 in
theorem wd_im_yX6_writes : Cond.instanceMethod yX6_writes ∈ lw_TB := lw_inT (List.mem_of_getElem? (i := 794) (by rfl)) (by rfl)
set_option maxRecDepth 20000 in
theorem wd_se_yX6_writes : Cond.selects RX6 yX6_writes yX6_writes ∈ lw_TB := lw_inT (List.mem_of_getElem? (i := 795) (by rfl)) (by rfl)
set_option maxRecDepth 20000 in
theorem wd_co_yX6_writes : Cond.code yX6_writes cX6_writes 1 (some .int) ∈ lw_TB := lw_inT (List.mem_of_getElem? (i := 796) (by rfl)) (by rfl)
set_option maxRecDepth 20000 in
theorem wd_ml_RL_68 : Cond.methodLink RL 68 yX6_write_ ∈ lw_TB := lw_inT (List.mem_of_getElem? (i := 797) (by rfl)) (by rfl)
set_option maxRecDepth 20000 in
theorem wd_im_yX6_write_ : Cond.instanceMethod yX6_write_ ∈ lw_TB := lw_inT (List.mem_of_getElem? (i := 798) (by rfl)) (by rfl)
set_option maxRecDepth 20000 in
theorem wd_se_yX6_write_ : Cond.selects RX6 yX6_write_ yX6_write_ ∈ lw_TB := lw_inT (List.mem_of_getElem? (i := 799) (by rfl)) (by rfl)
set_option maxRecDepth 20000 in
theorem wd_co_yX6_write_ : Cond.code yX6_write_ cX6_write_ 5 (some .int) ∈ lw_TB := lw_inT (List.mem_of_getElem? (i := 800) (by rfl)) (by rfl)
set_option maxRecDepth 20000 in
theorem wd_ml_RL_72 : Cond.methodLink RL 72 yX6_again ∈ lw_TB := lw_inT (List.mem_of_getElem? (i := 801) (by rfl)) (by rfl)
set_option maxRecDepth 20000 in
theorem wd_im_yX6_again : Cond.instanceMethod yX6_again ∈ lw_TB := lw_inT (List.mem_of_getElem? (i := 802) (by rfl)) (by rfl)
set_option maxRecDepth 20000 in
theorem wd_se_yX6_again : Cond.selects RX6 yX6_again yX6_again ∈ lw_TB := lw_inT (List.mem_of_getElem? (i := 803) (by rfl)) (by rfl)
set_option maxRecDepth 20000 in
theorem wd_co_yX6_again : Cond.code yX6_again cX6_again 2 (some .int) ∈ lw_TB := lw_inT (List.mem_of_getElem? (i := 804) (by rfl)) (by rfl)
set_option maxRecDepth 20000 in
theorem wd_ml_RL_76 : Cond.methodLink RL 76 yX6_clear ∈ lw_TB := lw_inT (List.mem_of_getElem? (i := 805) (by rfl)) (by rfl)
set_option maxRecDepth 20000 in
theorem wd_im_yX6_clear : Cond.instanceMethod yX6_clear ∈ lw_TB := lw_inT (List.mem_of_getElem? (i := 806) (by rfl)) (by rfl)
set_option maxRecDepth 20000 in
theorem wd_se_yX6_clear : Cond.selects RX6 yX6_clear yX6_clear ∈ lw_TB := lw_inT (List.mem_of_getElem? (i := 807) (by rfl)) (by rfl)
set_option maxRecDepth 20000 in
theorem wd_co_yX6_clear : Cond.code yX6_clear cX6_clear 3 (some .int) ∈ lw_TB := lw_inT (List.mem_of_getElem? (i := 808) (by rfl)) (by rfl)
set_option maxRecDepth 20000 in
theorem wd_ml_RX6_197 : Cond.methodLink RX6 197 yX6_again ∈ lw_TB := lw_inT (List.mem_of_getElem? (i := 809) (by rfl)) (by rfl)
set_option maxRecDepth 20000 in
theorem inX0 : ∀ w ∈ wsX00, w ∈ lw_TB := by
  intro w hw
  obtain ⟨k, hk, rfl⟩ := List.mem_map.mp hw
  have hk := List.mem_range.mp hk
  match k, hk with
  | 0, _ => exact lw_inT (List.mem_of_getElem? (i := 152) (by rfl)) (by rfl)
  | 1, _ => exact lw_inT (List.mem_of_getElem? (i := 154) (by rfl)) (by rfl)
  | 2, _ => exact lw_inT (List.mem_of_getElem? (i := 156) (by rfl)) (by rfl)
  | 3, _ => exact lw_inT (List.mem_of_getElem? (i := 158) (by rfl)) (by rfl)
  | 4, _ => exact lw_inT (List.mem_of_getElem? (i := 160) (by rfl)) (by rfl)
  | 5, _ => exact lw_inT (List.mem_of_getElem? (i := 162) (by rfl)) (by rfl)
  | 6, _ => exact lw_inT (List.mem_of_getElem? (i := 164) (by rfl)) (by rfl)
  | 7, _ => exact lw_inT (List.mem_of_getElem? (i := 166) (by rfl)) (by rfl)
  | k + 8, hk => exact absurd hk (by omega)
set_option maxRecDepth 20000 in
theorem inX1 : ∀ w ∈ wsX10, w ∈ lw_TB := by
  intro w hw
  obtain ⟨k, hk, rfl⟩ := List.mem_map.mp hw
  have hk := List.mem_range.mp hk
  match k, hk with
  | 0, _ => exact lw_inT (List.mem_of_getElem? (i := 98) (by rfl)) (by rfl)
  | 1, _ => exact lw_inT (List.mem_of_getElem? (i := 100) (by rfl)) (by rfl)
  | 2, _ => exact lw_inT (List.mem_of_getElem? (i := 102) (by rfl)) (by rfl)
  | 3, _ => exact lw_inT (List.mem_of_getElem? (i := 104) (by rfl)) (by rfl)
  | k + 4, hk => exact absurd hk (by omega)
set_option maxRecDepth 20000 in
theorem inX2 : ∀ w ∈ wsX20, w ∈ lw_TB := by
  intro w hw
  obtain ⟨k, hk, rfl⟩ := List.mem_map.mp hw
  have hk := List.mem_range.mp hk
  match k, hk with
  | 0, _ => exact lw_inT (List.mem_of_getElem? (i := 74) (by rfl)) (by rfl)
  | 1, _ => exact lw_inT (List.mem_of_getElem? (i := 76) (by rfl)) (by rfl)
  | 2, _ => exact lw_inT (List.mem_of_getElem? (i := 78) (by rfl)) (by rfl)
  | 3, _ => exact lw_inT (List.mem_of_getElem? (i := 80) (by rfl)) (by rfl)
  | 4, _ => exact lw_inT (List.mem_of_getElem? (i := 82) (by rfl)) (by rfl)
  | k + 5, hk => exact absurd hk (by omega)
set_option maxRecDepth 20000 in
theorem inX3 : ∀ w ∈ wsX30, w ∈ lw_TB := by
  intro w hw
  obtain ⟨k, hk, rfl⟩ := List.mem_map.mp hw
  have hk := List.mem_range.mp hk
  match k, hk with
  | 0, _ => exact lw_inT (List.mem_of_getElem? (i := 120) (by rfl)) (by rfl)
  | 1, _ => exact lw_inT (List.mem_of_getElem? (i := 122) (by rfl)) (by rfl)
  | 2, _ => exact lw_inT (List.mem_of_getElem? (i := 124) (by rfl)) (by rfl)
  | k + 3, hk => exact absurd hk (by omega)
set_option maxRecDepth 20000 in
theorem inX4 : ∀ w ∈ wsX40, w ∈ lw_TB := by
  intro w hw
  obtain ⟨k, hk, rfl⟩ := List.mem_map.mp hw
  have hk := List.mem_range.mp hk
  match k, hk with
  | 0, _ => exact lw_inT (List.mem_of_getElem? (i := 197) (by rfl)) (by rfl)
  | 1, _ => exact lw_inT (List.mem_of_getElem? (i := 199) (by rfl)) (by rfl)
  | 2, _ => exact lw_inT (List.mem_of_getElem? (i := 201) (by rfl)) (by rfl)
  | 3, _ => exact lw_inT (List.mem_of_getElem? (i := 203) (by rfl)) (by rfl)
  | 4, _ => exact lw_inT (List.mem_of_getElem? (i := 205) (by rfl)) (by rfl)
  | 5, _ => exact lw_inT (List.mem_of_getElem? (i := 207) (by rfl)) (by rfl)
  | 6, _ => exact lw_inT (List.mem_of_getElem? (i := 209) (by rfl)) (by rfl)
  | 7, _ => exact lw_inT (List.mem_of_getElem? (i := 211) (by rfl)) (by rfl)
  | 8, _ => exact lw_inT (List.mem_of_getElem? (i := 213) (by rfl)) (by rfl)
  | 9, _ => exact lw_inT (List.mem_of_getElem? (i := 215) (by rfl)) (by rfl)
  | 10, _ => exact lw_inT (List.mem_of_getElem? (i := 217) (by rfl)) (by rfl)
  | 11, _ => exact lw_inT (List.mem_of_getElem? (i := 219) (by rfl)) (by rfl)
  | 12, _ => exact lw_inT (List.mem_of_getElem? (i := 221) (by rfl)) (by rfl)
  | 13, _ => exact lw_inT (List.mem_of_getElem? (i := 223) (by rfl)) (by rfl)
  | 14, _ => exact lw_inT (List.mem_of_getElem? (i := 225) (by rfl)) (by rfl)
  | k + 15, hk => exact absurd hk (by omega)
set_option maxRecDepth 20000 in
theorem inX5 : ∀ w ∈ wsX50, w ∈ lw_TB := by
  intro w hw
  obtain ⟨k, hk, rfl⟩ := List.mem_map.mp hw
  have hk := List.mem_range.mp hk
  match k, hk with
  | 0, _ => exact lw_inT (List.mem_of_getElem? (i := 233) (by rfl)) (by rfl)
  | 1, _ => exact lw_inT (List.mem_of_getElem? (i := 235) (by rfl)) (by rfl)
  | 2, _ => exact lw_inT (List.mem_of_getElem? (i := 237) (by rfl)) (by rfl)
  | 3, _ => exact lw_inT (List.mem_of_getElem? (i := 239) (by rfl)) (by rfl)
  | 4, _ => exact lw_inT (List.mem_of_getElem? (i := 241) (by rfl)) (by rfl)
  | k + 5, hk => exact absurd hk (by omega)
set_option maxRecDepth 20000 in
theorem inX6 : ∀ w ∈ wsX60, w ∈ lw_TB := by
  intro w hw
  obtain ⟨k, hk, rfl⟩ := List.mem_map.mp hw
  have hk := List.mem_range.mp hk
  match k, hk with
  | 0, _ => exact lw_inT (List.mem_of_getElem? (i := 592) (by rfl)) (by rfl)
  | 1, _ => exact lw_inT (List.mem_of_getElem? (i := 594) (by rfl)) (by rfl)
  | 2, _ => exact lw_inT (List.mem_of_getElem? (i := 596) (by rfl)) (by rfl)
  | 3, _ => exact lw_inT (List.mem_of_getElem? (i := 598) (by rfl)) (by rfl)
  | 4, _ => exact lw_inT (List.mem_of_getElem? (i := 600) (by rfl)) (by rfl)
  | 5, _ => exact lw_inT (List.mem_of_getElem? (i := 602) (by rfl)) (by rfl)
  | 6, _ => exact lw_inT (List.mem_of_getElem? (i := 604) (by rfl)) (by rfl)
  | 7, _ => exact lw_inT (List.mem_of_getElem? (i := 606) (by rfl)) (by rfl)
  | 8, _ => exact lw_inT (List.mem_of_getElem? (i := 608) (by rfl)) (by rfl)
  | 9, _ => exact lw_inT (List.mem_of_getElem? (i := 610) (by rfl)) (by rfl)
  | 10, _ => exact lw_inT (List.mem_of_getElem? (i := 612) (by rfl)) (by rfl)
  | 11, _ => exact lw_inT (List.mem_of_getElem? (i := 614) (by rfl)) (by rfl)
  | 12, _ => exact lw_inT (List.mem_of_getElem? (i := 616) (by rfl)) (by rfl)
  | 13, _ => exact lw_inT (List.mem_of_getElem? (i := 618) (by rfl)) (by rfl)
  | 14, _ => exact lw_inT (List.mem_of_getElem? (i := 620) (by rfl)) (by rfl)
  | 15, _ => exact lw_inT (List.mem_of_getElem? (i := 622) (by rfl)) (by rfl)
  | 16, _ => exact lw_inT (List.mem_of_getElem? (i := 624) (by rfl)) (by rfl)
  | 17, _ => exact lw_inT (List.mem_of_getElem? (i := 626) (by rfl)) (by rfl)
  | 18, _ => exact lw_inT (List.mem_of_getElem? (i := 628) (by rfl)) (by rfl)
  | 19, _ => exact lw_inT (List.mem_of_getElem? (i := 630) (by rfl)) (by rfl)
  | 20, _ => exact lw_inT (List.mem_of_getElem? (i := 632) (by rfl)) (by rfl)
  | 21, _ => exact lw_inT (List.mem_of_getElem? (i := 634) (by rfl)) (by rfl)
  | 22, _ => exact lw_inT (List.mem_of_getElem? (i := 636) (by rfl)) (by rfl)
  | 23, _ => exact lw_inT (List.mem_of_getElem? (i := 638) (by rfl)) (by rfl)
  | 24, _ => exact lw_inT (List.mem_of_getElem? (i := 640) (by rfl)) (by rfl)
  | 25, _ => exact lw_inT (List.mem_of_getElem? (i := 642) (by rfl)) (by rfl)
  | 26, _ => exact lw_inT (List.mem_of_getElem? (i := 644) (by rfl)) (by rfl)
  | 27, _ => exact lw_inT (List.mem_of_getElem? (i := 646) (by rfl)) (by rfl)
  | 28, _ => exact lw_inT (List.mem_of_getElem? (i := 648) (by rfl)) (by rfl)
  | 29, _ => exact lw_inT (List.mem_of_getElem? (i := 650) (by rfl)) (by rfl)
  | 30, _ => exact lw_inT (List.mem_of_getElem? (i := 652) (by rfl)) (by rfl)
  | 31, _ => exact lw_inT (List.mem_of_getElem? (i := 654) (by rfl)) (by rfl)
  | 32, _ => exact lw_inT (List.mem_of_getElem? (i := 656) (by rfl)) (by rfl)
  | 33, _ => exact lw_inT (List.mem_of_getElem? (i := 658) (by rfl)) (by rfl)
  | k + 34, hk => exact absurd hk (by omega)
def lw_nest : List Cond := [Cond.methodLinkNest RX1 23 yX2_init RX5, Cond.fieldLinkNest RX1 37 "MutableCells$Log" "count" "I" RX5, Cond.fieldLinkNest RX5 125 "MutableCells$Log" "count" "I" RX5, Cond.fieldLinkNest RX5 121 "MutableCells$Cells" "log" "LMutableCells$Log;" RX5, Cond.methodLinkNest RX4 32 yX0_init RX5, Cond.fieldLinkNest RX4 53 "MutableCells$Atom" "open" "Z" RX5, Cond.fieldLinkNest RX5 78 "MutableCells$Atom" "open" "Z" RX5, Cond.fieldLinkNest RX4 101 "MutableCells$Atom" "behindBegin" "I" RX5, Cond.fieldLinkNest RX4 98 "MutableCells$Atom" "trysAhead" "I" RX5, Cond.fieldLinkNest RX5 251 "MutableCells$Atom" "trysAhead" "I" RX5, Cond.fieldLinkNest RX4 104 "MutableCells$Atom" "registers" "[I" RX5, Cond.fieldLinkNest RX5 233 "MutableCells$Strand" "numbe\x72" "I" RX5, Cond.fieldLinkNest RX5 163 "MutableCells$Strand" "kinds" "[I" RX5, Cond.fieldLinkNest RX5 167 "MutableCells$Strand" "xs" "[I" RX5, Cond.fieldLinkNest RX5 170 "MutableCells$Strand" "ys" "[I" RX5, Cond.fieldLinkNest RX5 173 "MutableCells$Strand" "zs" "[I" RX5, Cond.fieldLinkNest RX5 47 "MutableCells$Strand" "acts" "I" RX5, Cond.fieldLinkNest RX5 71 "MutableCells$Strand" "trys" "I" RX5, Cond.fieldLinkNest RX5 74 "MutableCells$Strand" "atom" "LMutableCells$Atom;" RX5, Cond.fieldLinkNest RX5 65 "MutableCells$Strand" "place" "I" RX5, Cond.fieldLinkNest RX5 153 "MutableCells$Strand" "next" "I" RX5, Cond.fieldLinkNest RX5 68 "MutableCells$Strand" "failure" "I" RX5, Cond.fieldLinkNest RX5 40 "MutableCells$Strand" "turns" "I" RX5, Cond.fieldLinkNest RX5 84 "MutableCells$Strand" "anews" "I" RX5, Cond.methodLinkNest RX1 41 yX5_isCell RX5, Cond.methodLinkNest RX0 28 yX5_isCell RX5, Cond.methodLinkNest RX4 69 yX5_isRegister RX5, Cond.methodLinkNest RX3 25 yX5_isRow RX5]
set_option maxRecDepth 20000 in
theorem lw_nest_in : ∀ w ∈ lw_nest, w ∈ lw_tbl := by
  intro w hw
  obtain ⟨k, hk⟩ := List.getElem?_of_mem hw
  match k, hk with
  | 0, hk => cases hk; exact List.mem_of_getElem? (i := 63) (by rfl)
  | 1, hk => cases hk; exact List.mem_of_getElem? (i := 71) (by rfl)
  | 2, hk => cases hk; exact List.mem_of_getElem? (i := 73) (by rfl)
  | 3, hk => cases hk; exact List.mem_of_getElem? (i := 97) (by rfl)
  | 4, hk => cases hk; exact List.mem_of_getElem? (i := 137) (by rfl)
  | 5, hk => cases hk; exact List.mem_of_getElem? (i := 141) (by rfl)
  | 6, hk => cases hk; exact List.mem_of_getElem? (i := 142) (by rfl)
  | 7, hk => cases hk; exact List.mem_of_getElem? (i := 143) (by rfl)
  | 8, hk => cases hk; exact List.mem_of_getElem? (i := 144) (by rfl)
  | 9, hk => cases hk; exact List.mem_of_getElem? (i := 145) (by rfl)
  | 10, hk => cases hk; exact List.mem_of_getElem? (i := 147) (by rfl)
  | 11, hk => cases hk; exact List.mem_of_getElem? (i := 170) (by rfl)
  | 12, hk => cases hk; exact List.mem_of_getElem? (i := 172) (by rfl)
  | 13, hk => cases hk; exact List.mem_of_getElem? (i := 174) (by rfl)
  | 14, hk => cases hk; exact List.mem_of_getElem? (i := 176) (by rfl)
  | 15, hk => cases hk; exact List.mem_of_getElem? (i := 178) (by rfl)
  | 16, hk => cases hk; exact List.mem_of_getElem? (i := 180) (by rfl)
  | 17, hk => cases hk; exact List.mem_of_getElem? (i := 184) (by rfl)
  | 18, hk => cases hk; exact List.mem_of_getElem? (i := 186) (by rfl)
  | 19, hk => cases hk; exact List.mem_of_getElem? (i := 188) (by rfl)
  | 20, hk => cases hk; exact List.mem_of_getElem? (i := 190) (by rfl)
  | 21, hk => cases hk; exact List.mem_of_getElem? (i := 192) (by rfl)
  | 22, hk => cases hk; exact List.mem_of_getElem? (i := 193) (by rfl)
  | 23, hk => cases hk; exact List.mem_of_getElem? (i := 196) (by rfl)
  | 24, hk => cases hk; exact List.mem_of_getElem? (i := 302) (by rfl)
  | 25, hk => cases hk; exact List.mem_of_getElem? (i := 307) (by rfl)
  | 26, hk => cases hk; exact List.mem_of_getElem? (i := 350) (by rfl)
  | 27, hk => cases hk; exact List.mem_of_getElem? (i := 376) (by rfl)
  | k + 28, hk => exact absurd hk (by simp [lw_nest])
theorem wd_nml_RX1_23 : Cond.methodLinkNest RX1 23 yX2_init RX5 ∈ lw_nest := List.mem_of_getElem? (i := 0) (by rfl)
theorem wd_nfl_RX1_37 : Cond.fieldLinkNest RX1 37 "MutableCells$Log" "count" "I" RX5 ∈ lw_nest := List.mem_of_getElem? (i := 1) (by rfl)
theorem wd_nfl_RX5_125 : Cond.fieldLinkNest RX5 125 "MutableCells$Log" "count" "I" RX5 ∈ lw_nest := List.mem_of_getElem? (i := 2) (by rfl)
theorem wd_nfl_RX5_121 : Cond.fieldLinkNest RX5 121 "MutableCells$Cells" "log" "LMutableCells$Log;" RX5 ∈ lw_nest := List.mem_of_getElem? (i := 3) (by rfl)
theorem wd_nml_RX4_32 : Cond.methodLinkNest RX4 32 yX0_init RX5 ∈ lw_nest := List.mem_of_getElem? (i := 4) (by rfl)
theorem wd_nfl_RX4_53 : Cond.fieldLinkNest RX4 53 "MutableCells$Atom" "open" "Z" RX5 ∈ lw_nest := List.mem_of_getElem? (i := 5) (by rfl)
theorem wd_nfl_RX5_78 : Cond.fieldLinkNest RX5 78 "MutableCells$Atom" "open" "Z" RX5 ∈ lw_nest := List.mem_of_getElem? (i := 6) (by rfl)
theorem wd_nfl_RX4_101 : Cond.fieldLinkNest RX4 101 "MutableCells$Atom" "behindBegin" "I" RX5 ∈ lw_nest := List.mem_of_getElem? (i := 7) (by rfl)
theorem wd_nfl_RX4_98 : Cond.fieldLinkNest RX4 98 "MutableCells$Atom" "trysAhead" "I" RX5 ∈ lw_nest := List.mem_of_getElem? (i := 8) (by rfl)
theorem wd_nfl_RX5_251 : Cond.fieldLinkNest RX5 251 "MutableCells$Atom" "trysAhead" "I" RX5 ∈ lw_nest := List.mem_of_getElem? (i := 9) (by rfl)
theorem wd_nfl_RX4_104 : Cond.fieldLinkNest RX4 104 "MutableCells$Atom" "registers" "[I" RX5 ∈ lw_nest := List.mem_of_getElem? (i := 10) (by rfl)
theorem wd_nfl_RX5_233 : Cond.fieldLinkNest RX5 233 "MutableCells$Strand" "numbe\x72" "I" RX5 ∈ lw_nest := List.mem_of_getElem? (i := 11) (by rfl)
theorem wd_nfl_RX5_163 : Cond.fieldLinkNest RX5 163 "MutableCells$Strand" "kinds" "[I" RX5 ∈ lw_nest := List.mem_of_getElem? (i := 12) (by rfl)
theorem wd_nfl_RX5_167 : Cond.fieldLinkNest RX5 167 "MutableCells$Strand" "xs" "[I" RX5 ∈ lw_nest := List.mem_of_getElem? (i := 13) (by rfl)
theorem wd_nfl_RX5_170 : Cond.fieldLinkNest RX5 170 "MutableCells$Strand" "ys" "[I" RX5 ∈ lw_nest := List.mem_of_getElem? (i := 14) (by rfl)
theorem wd_nfl_RX5_173 : Cond.fieldLinkNest RX5 173 "MutableCells$Strand" "zs" "[I" RX5 ∈ lw_nest := List.mem_of_getElem? (i := 15) (by rfl)
theorem wd_nfl_RX5_47 : Cond.fieldLinkNest RX5 47 "MutableCells$Strand" "acts" "I" RX5 ∈ lw_nest := List.mem_of_getElem? (i := 16) (by rfl)
theorem wd_nfl_RX5_71 : Cond.fieldLinkNest RX5 71 "MutableCells$Strand" "trys" "I" RX5 ∈ lw_nest := List.mem_of_getElem? (i := 17) (by rfl)
theorem wd_nfl_RX5_74 : Cond.fieldLinkNest RX5 74 "MutableCells$Strand" "atom" "LMutableCells$Atom;" RX5 ∈ lw_nest := List.mem_of_getElem? (i := 18) (by rfl)
theorem wd_nfl_RX5_65 : Cond.fieldLinkNest RX5 65 "MutableCells$Strand" "place" "I" RX5 ∈ lw_nest := List.mem_of_getElem? (i := 19) (by rfl)
theorem wd_nfl_RX5_153 : Cond.fieldLinkNest RX5 153 "MutableCells$Strand" "next" "I" RX5 ∈ lw_nest := List.mem_of_getElem? (i := 20) (by rfl)
theorem wd_nfl_RX5_68 : Cond.fieldLinkNest RX5 68 "MutableCells$Strand" "failure" "I" RX5 ∈ lw_nest := List.mem_of_getElem? (i := 21) (by rfl)
theorem wd_nfl_RX5_40 : Cond.fieldLinkNest RX5 40 "MutableCells$Strand" "turns" "I" RX5 ∈ lw_nest := List.mem_of_getElem? (i := 22) (by rfl)
theorem wd_nfl_RX5_84 : Cond.fieldLinkNest RX5 84 "MutableCells$Strand" "anews" "I" RX5 ∈ lw_nest := List.mem_of_getElem? (i := 23) (by rfl)
theorem wd_nml_RX1_41 : Cond.methodLinkNest RX1 41 yX5_isCell RX5 ∈ lw_nest := List.mem_of_getElem? (i := 24) (by rfl)
theorem wd_nml_RX0_28 : Cond.methodLinkNest RX0 28 yX5_isCell RX5 ∈ lw_nest := List.mem_of_getElem? (i := 25) (by rfl)
theorem wd_nml_RX4_69 : Cond.methodLinkNest RX4 69 yX5_isRegister RX5 ∈ lw_nest := List.mem_of_getElem? (i := 26) (by rfl)
theorem wd_nml_RX3_25 : Cond.methodLinkNest RX3 25 yX5_isRow RX5 ∈ lw_nest := List.mem_of_getElem? (i := 27) (by rfl)
end
section
theorem dX0_init_0 : decode cX0_init 0 = .ok (.aload_n 0, 1) := by decide +kernel
theorem dX0_init_1 : decode cX0_init 1 = .ok (.invokespecial 3, 3) := by decide +kernel
theorem dX0_init_4 : decode cX0_init 4 = .ok (.aload_n 0, 1) := by decide +kernel
theorem dX0_init_5 : decode cX0_init 5 = .ok (.iconst 4, 1) := by decide +kernel
theorem dX0_init_6 : decode cX0_init 6 = .ok (.newarray .int, 2) := by decide +kernel
theorem dX0_init_8 : decode cX0_init 8 = .ok (.putfield 9, 3) := by decide +kernel
theorem dX0_init_11 : decode cX0_init 11 = .ok (.aload_n 0, 1) := by decide +kernel
theorem dX0_init_12 : decode cX0_init 12 = .ok (.bipush 8, 2) := by decide +kernel
theorem dX0_init_14 : decode cX0_init 14 = .ok (.newarray .boolean, 2) := by decide +kernel
theorem dX0_init_16 : decode cX0_init 16 = .ok (.putfield 15, 3) := by decide +kernel
theorem dX0_init_19 : decode cX0_init 19 = .ok (.aload_n 0, 1) := by decide +kernel
theorem dX0_init_20 : decode cX0_init 20 = .ok (.bipush 8, 2) := by decide +kernel
theorem dX0_init_22 : decode cX0_init 22 = .ok (.newarray .int, 2) := by decide +kernel
theorem dX0_init_24 : decode cX0_init 24 = .ok (.putfield 19, 3) := by decide +kernel
theorem dX0_init_27 : decode cX0_init 27 = .ok (.aload_n 0, 1) := by decide +kernel
theorem dX0_init_28 : decode cX0_init 28 = .ok (.bipush 8, 2) := by decide +kernel
theorem dX0_init_30 : decode cX0_init 30 = .ok (.newarray .boolean, 2) := by decide +kernel
theorem dX0_init_32 : decode cX0_init 32 = .ok (.putfield 22, 3) := by decide +kernel
theorem dX0_init_35 : decode cX0_init 35 = .ok (.aload_n 0, 1) := by decide +kernel
theorem dX0_init_36 : decode cX0_init 36 = .ok (.bipush 8, 2) := by decide +kernel
theorem dX0_init_38 : decode cX0_init 38 = .ok (.newarray .int, 2) := by decide +kernel
theorem dX0_init_40 : decode cX0_init 40 = .ok (.putfield 25, 3) := by decide +kernel
theorem dX0_init_43 : decode cX0_init 43 = .ok (.return_, 1) := by decide +kernel
theorem dX0_forget_0 : decode cX0_forget 0 = .ok (.iconst 0, 1) := by decide +kernel
theorem dX0_forget_1 : decode cX0_forget 1 = .ok (.istore_n 1, 1) := by decide +kernel
theorem dX0_forget_2 : decode cX0_forget 2 = .ok (.iload_n 1, 1) := by decide +kernel
theorem dX0_forget_3 : decode cX0_forget 3 = .ok (.bipush 8, 2) := by decide +kernel
theorem dX0_forget_5 : decode cX0_forget 5 = .ok (.if_icmp .ge 23, 3) := by decide +kernel
theorem dX0_forget_8 : decode cX0_forget 8 = .ok (.aload_n 0, 1) := by decide +kernel
theorem dX0_forget_9 : decode cX0_forget 9 = .ok (.getfield 15, 3) := by decide +kernel
theorem dX0_forget_12 : decode cX0_forget 12 = .ok (.iload_n 1, 1) := by decide +kernel
theorem dX0_forget_13 : decode cX0_forget 13 = .ok (.iconst 0, 1) := by decide +kernel
theorem dX0_forget_14 : decode cX0_forget 14 = .ok (.bastore, 1) := by decide +kernel
theorem dX0_forget_15 : decode cX0_forget 15 = .ok (.aload_n 0, 1) := by decide +kernel
theorem dX0_forget_16 : decode cX0_forget 16 = .ok (.getfield 22, 3) := by decide +kernel
theorem dX0_forget_19 : decode cX0_forget 19 = .ok (.iload_n 1, 1) := by decide +kernel
theorem dX0_forget_20 : decode cX0_forget 20 = .ok (.iconst 0, 1) := by decide +kernel
theorem dX0_forget_21 : decode cX0_forget 21 = .ok (.bastore, 1) := by decide +kernel
theorem dX0_forget_22 : decode cX0_forget 22 = .ok (.iinc 1 1, 3) := by decide +kernel
theorem dX0_forget_25 : decode cX0_forget 25 = .ok (.goto (-23), 3) := by decide +kernel
theorem dX0_forget_28 : decode cX0_forget 28 = .ok (.return_, 1) := by decide +kernel
theorem dX0_hasPut_0 : decode cX0_hasPut 0 = .ok (.iload_n 1, 1) := by decide +kernel
theorem dX0_hasPut_1 : decode cX0_hasPut 1 = .ok (.invokestatic 28, 3) := by decide +kernel
theorem dX0_hasPut_4 : decode cX0_hasPut 4 = .ok (.ifCond .eq 16, 3) := by decide +kernel
theorem dX0_hasPut_7 : decode cX0_hasPut 7 = .ok (.aload_n 0, 1) := by decide +kernel
theorem dX0_hasPut_8 : decode cX0_hasPut 8 = .ok (.getfield 15, 3) := by decide +kernel
theorem dX0_hasPut_11 : decode cX0_hasPut 11 = .ok (.iload_n 1, 1) := by decide +kernel
theorem dX0_hasPut_12 : decode cX0_hasPut 12 = .ok (.baload, 1) := by decide +kernel
theorem dX0_hasPut_13 : decode cX0_hasPut 13 = .ok (.ifCond .eq 7, 3) := by decide +kernel
theorem dX0_hasPut_16 : decode cX0_hasPut 16 = .ok (.iconst 1, 1) := by decide +kernel
theorem dX0_hasPut_17 : decode cX0_hasPut 17 = .ok (.goto 4, 3) := by decide +kernel
theorem dX0_hasPut_20 : decode cX0_hasPut 20 = .ok (.iconst 0, 1) := by decide +kernel
theorem dX0_hasPut_21 : decode cX0_hasPut 21 = .ok (.ireturn, 1) := by decide +kernel
theorem dX0_putNumber_0 : decode cX0_putNumber 0 = .ok (.iload_n 1, 1) := by decide +kernel
theorem dX0_putNumber_1 : decode cX0_putNumber 1 = .ok (.invokestatic 28, 3) := by decide +kernel
theorem dX0_putNumber_4 : decode cX0_putNumber 4 = .ok (.ifCond .eq 12, 3) := by decide +kernel
theorem dX0_putNumber_7 : decode cX0_putNumber 7 = .ok (.aload_n 0, 1) := by decide +kernel
theorem dX0_putNumber_8 : decode cX0_putNumber 8 = .ok (.getfield 19, 3) := by decide +kernel
theorem dX0_putNumber_11 : decode cX0_putNumber 11 = .ok (.iload_n 1, 1) := by decide +kernel
theorem dX0_putNumber_12 : decode cX0_putNumber 12 = .ok (.iaload, 1) := by decide +kernel
theorem dX0_putNumber_13 : decode cX0_putNumber 13 = .ok (.goto 4, 3) := by decide +kernel
theorem dX0_putNumber_16 : decode cX0_putNumber 16 = .ok (.iconst 0, 1) := by decide +kernel
theorem dX0_putNumber_17 : decode cX0_putNumber 17 = .ok (.ireturn, 1) := by decide +kernel
theorem dX0_notePut_0 : decode cX0_notePut 0 = .ok (.iload_n 1, 1) := by decide +kernel
theorem dX0_notePut_1 : decode cX0_notePut 1 = .ok (.invokestatic 28, 3) := by decide +kernel
theorem dX0_notePut_4 : decode cX0_notePut 4 = .ok (.ifCond .eq 17, 3) := by decide +kernel
theorem dX0_notePut_7 : decode cX0_notePut 7 = .ok (.aload_n 0, 1) := by decide +kernel
theorem dX0_notePut_8 : decode cX0_notePut 8 = .ok (.getfield 15, 3) := by decide +kernel
theorem dX0_notePut_11 : decode cX0_notePut 11 = .ok (.iload_n 1, 1) := by decide +kernel
theorem dX0_notePut_12 : decode cX0_notePut 12 = .ok (.iconst 1, 1) := by decide +kernel
theorem dX0_notePut_13 : decode cX0_notePut 13 = .ok (.bastore, 1) := by decide +kernel
theorem dX0_notePut_14 : decode cX0_notePut 14 = .ok (.aload_n 0, 1) := by decide +kernel
theorem dX0_notePut_15 : decode cX0_notePut 15 = .ok (.getfield 19, 3) := by decide +kernel
theorem dX0_notePut_18 : decode cX0_notePut 18 = .ok (.iload_n 1, 1) := by decide +kernel
theorem dX0_notePut_19 : decode cX0_notePut 19 = .ok (.iload_n 2, 1) := by decide +kernel
theorem dX0_notePut_20 : decode cX0_notePut 20 = .ok (.iastore, 1) := by decide +kernel
theorem dX0_notePut_21 : decode cX0_notePut 21 = .ok (.return_, 1) := by decide +kernel
theorem dX0_hasRead_0 : decode cX0_hasRead 0 = .ok (.iload_n 1, 1) := by decide +kernel
theorem dX0_hasRead_1 : decode cX0_hasRead 1 = .ok (.invokestatic 28, 3) := by decide +kernel
theorem dX0_hasRead_4 : decode cX0_hasRead 4 = .ok (.ifCond .eq 16, 3) := by decide +kernel
theorem dX0_hasRead_7 : decode cX0_hasRead 7 = .ok (.aload_n 0, 1) := by decide +kernel
theorem dX0_hasRead_8 : decode cX0_hasRead 8 = .ok (.getfield 22, 3) := by decide +kernel
theorem dX0_hasRead_11 : decode cX0_hasRead 11 = .ok (.iload_n 1, 1) := by decide +kernel
theorem dX0_hasRead_12 : decode cX0_hasRead 12 = .ok (.baload, 1) := by decide +kernel
theorem dX0_hasRead_13 : decode cX0_hasRead 13 = .ok (.ifCond .eq 7, 3) := by decide +kernel
theorem dX0_hasRead_16 : decode cX0_hasRead 16 = .ok (.iconst 1, 1) := by decide +kernel
theorem dX0_hasRead_17 : decode cX0_hasRead 17 = .ok (.goto 4, 3) := by decide +kernel
theorem dX0_hasRead_20 : decode cX0_hasRead 20 = .ok (.iconst 0, 1) := by decide +kernel
theorem dX0_hasRead_21 : decode cX0_hasRead 21 = .ok (.ireturn, 1) := by decide +kernel
theorem dX0_firstNumber_0 : decode cX0_firstNumber 0 = .ok (.iload_n 1, 1) := by decide +kernel
theorem dX0_firstNumber_1 : decode cX0_firstNumber 1 = .ok (.invokestatic 28, 3) := by decide +kernel
theorem dX0_firstNumber_4 : decode cX0_firstNumber 4 = .ok (.ifCond .eq 12, 3) := by decide +kernel
theorem dX0_firstNumber_7 : decode cX0_firstNumber 7 = .ok (.aload_n 0, 1) := by decide +kernel
theorem dX0_firstNumber_8 : decode cX0_firstNumber 8 = .ok (.getfield 25, 3) := by decide +kernel
theorem dX0_firstNumber_11 : decode cX0_firstNumber 11 = .ok (.iload_n 1, 1) := by decide +kernel
theorem dX0_firstNumber_12 : decode cX0_firstNumber 12 = .ok (.iaload, 1) := by decide +kernel
theorem dX0_firstNumber_13 : decode cX0_firstNumber 13 = .ok (.goto 4, 3) := by decide +kernel
theorem dX0_firstNumber_16 : decode cX0_firstNumber 16 = .ok (.iconst 0, 1) := by decide +kernel
theorem dX0_firstNumber_17 : decode cX0_firstNumber 17 = .ok (.ireturn, 1) := by decide +kernel
theorem dX0_noteReading_0 : decode cX0_noteReading 0 = .ok (.iload_n 1, 1) := by decide +kernel
theorem dX0_noteReading_1 : decode cX0_noteReading 1 = .ok (.invokestatic 28, 3) := by decide +kernel
theorem dX0_noteReading_4 : decode cX0_noteReading 4 = .ok (.ifCond .eq 26, 3) := by decide +kernel
theorem dX0_noteReading_7 : decode cX0_noteReading 7 = .ok (.aload_n 0, 1) := by decide +kernel
theorem dX0_noteReading_8 : decode cX0_noteReading 8 = .ok (.getfield 22, 3) := by decide +kernel
theorem dX0_noteReading_11 : decode cX0_noteReading 11 = .ok (.iload_n 1, 1) := by decide +kernel
theorem dX0_noteReading_12 : decode cX0_noteReading 12 = .ok (.baload, 1) := by decide +kernel
theorem dX0_noteReading_13 : decode cX0_noteReading 13 = .ok (.ifCond .ne 17, 3) := by decide +kernel
theorem dX0_noteReading_16 : decode cX0_noteReading 16 = .ok (.aload_n 0, 1) := by decide +kernel
theorem dX0_noteReading_17 : decode cX0_noteReading 17 = .ok (.getfield 22, 3) := by decide +kernel
theorem dX0_noteReading_20 : decode cX0_noteReading 20 = .ok (.iload_n 1, 1) := by decide +kernel
theorem dX0_noteReading_21 : decode cX0_noteReading 21 = .ok (.iconst 1, 1) := by decide +kernel
theorem dX0_noteReading_22 : decode cX0_noteReading 22 = .ok (.bastore, 1) := by decide +kernel
theorem dX0_noteReading_23 : decode cX0_noteReading 23 = .ok (.aload_n 0, 1) := by decide +kernel
theorem dX0_noteReading_24 : decode cX0_noteReading 24 = .ok (.getfield 25, 3) := by decide +kernel
theorem dX0_noteReading_27 : decode cX0_noteReading 27 = .ok (.iload_n 1, 1) := by decide +kernel
theorem dX0_noteReading_28 : decode cX0_noteReading 28 = .ok (.iload_n 2, 1) := by decide +kernel
theorem dX0_noteReading_29 : decode cX0_noteReading 29 = .ok (.iastore, 1) := by decide +kernel
theorem dX0_noteReading_30 : decode cX0_noteReading 30 = .ok (.return_, 1) := by decide +kernel
theorem dX1_init_0 : decode cX1_init 0 = .ok (.aload_n 0, 1) := by decide +kernel
theorem dX1_init_1 : decode cX1_init 1 = .ok (.invokespecial 3, 3) := by decide +kernel
theorem dX1_init_4 : decode cX1_init 4 = .ok (.aload_n 0, 1) := by decide +kernel
theorem dX1_init_5 : decode cX1_init 5 = .ok (.bipush 8, 2) := by decide +kernel
theorem dX1_init_7 : decode cX1_init 7 = .ok (.newarray .int, 2) := by decide +kernel
theorem dX1_init_9 : decode cX1_init 9 = .ok (.putfield 9, 3) := by decide +kernel
theorem dX1_init_12 : decode cX1_init 12 = .ok (.aload_n 0, 1) := by decide +kernel
theorem dX1_init_13 : decode cX1_init 13 = .ok (.bipush 8, 2) := by decide +kernel
theorem dX1_init_15 : decode cX1_init 15 = .ok (.newarray .int, 2) := by decide +kernel
theorem dX1_init_17 : decode cX1_init 17 = .ok (.putfield 15, 3) := by decide +kernel
theorem dX1_init_20 : decode cX1_init 20 = .ok (.aload_n 0, 1) := by decide +kernel
theorem dX1_init_21 : decode cX1_init 21 = .ok (.bipush 8, 2) := by decide +kernel
theorem dX1_init_23 : decode cX1_init 23 = .ok (.newarray .int, 2) := by decide +kernel
theorem dX1_init_25 : decode cX1_init 25 = .ok (.putfield 18, 3) := by decide +kernel
theorem dX1_init_28 : decode cX1_init 28 = .ok (.aload_n 0, 1) := by decide +kernel
theorem dX1_init_29 : decode cX1_init 29 = .ok (.new 21, 3) := by decide +kernel
theorem dX1_init_32 : decode cX1_init 32 = .ok (.dup, 1) := by decide +kernel
theorem dX1_init_33 : decode cX1_init 33 = .ok (.invokespecial 23, 3) := by decide +kernel
theorem dX1_init_36 : decode cX1_init 36 = .ok (.putfield 24, 3) := by decide +kernel
theorem dX1_init_39 : decode cX1_init 39 = .ok (.aload_n 0, 1) := by decide +kernel
theorem dX1_init_40 : decode cX1_init 40 = .ok (.invokevirtual 28, 3) := by decide +kernel
theorem dX1_init_43 : decode cX1_init 43 = .ok (.return_, 1) := by decide +kernel
theorem dX1_reset_0 : decode cX1_reset 0 = .ok (.aload_n 0, 1) := by decide +kernel
theorem dX1_reset_1 : decode cX1_reset 1 = .ok (.getfield 9, 3) := by decide +kernel
theorem dX1_reset_4 : decode cX1_reset 4 = .ok (.iconst 0, 1) := by decide +kernel
theorem dX1_reset_5 : decode cX1_reset 5 = .ok (.invokestatic 31, 3) := by decide +kernel
theorem dX1_reset_8 : decode cX1_reset 8 = .ok (.aload_n 0, 1) := by decide +kernel
theorem dX1_reset_9 : decode cX1_reset 9 = .ok (.getfield 15, 3) := by decide +kernel
theorem dX1_reset_12 : decode cX1_reset 12 = .ok (.iconst (-1), 1) := by decide +kernel
theorem dX1_reset_13 : decode cX1_reset 13 = .ok (.invokestatic 31, 3) := by decide +kernel
theorem dX1_reset_16 : decode cX1_reset 16 = .ok (.aload_n 0, 1) := by decide +kernel
theorem dX1_reset_17 : decode cX1_reset 17 = .ok (.getfield 24, 3) := by decide +kernel
theorem dX1_reset_20 : decode cX1_reset 20 = .ok (.iconst 0, 1) := by decide +kernel
theorem dX1_reset_21 : decode cX1_reset 21 = .ok (.putfield 37, 3) := by decide +kernel
theorem dX1_reset_24 : decode cX1_reset 24 = .ok (.return_, 1) := by decide +kernel
theorem dX1_isLazy_0 : decode cX1_isLazy 0 = .ok (.iload_n 1, 1) := by decide +kernel
theorem dX1_isLazy_1 : decode cX1_isLazy 1 = .ok (.invokestatic 41, 3) := by decide +kernel
theorem dX1_isLazy_4 : decode cX1_isLazy 4 = .ok (.ifCond .eq 17, 3) := by decide +kernel
theorem dX1_isLazy_7 : decode cX1_isLazy 7 = .ok (.aload_n 0, 1) := by decide +kernel
theorem dX1_isLazy_8 : decode cX1_isLazy 8 = .ok (.getfield 15, 3) := by decide +kernel
theorem dX1_isLazy_11 : decode cX1_isLazy 11 = .ok (.iload_n 1, 1) := by decide +kernel
theorem dX1_isLazy_12 : decode cX1_isLazy 12 = .ok (.iaload, 1) := by decide +kernel
theorem dX1_isLazy_13 : decode cX1_isLazy 13 = .ok (.iconst (-1), 1) := by decide +kernel
theorem dX1_isLazy_14 : decode cX1_isLazy 14 = .ok (.if_icmp .eq 7, 3) := by decide +kernel
theorem dX1_isLazy_17 : decode cX1_isLazy 17 = .ok (.iconst 1, 1) := by decide +kernel
theorem dX1_isLazy_18 : decode cX1_isLazy 18 = .ok (.goto 4, 3) := by decide +kernel
theorem dX1_isLazy_21 : decode cX1_isLazy 21 = .ok (.iconst 0, 1) := by decide +kernel
theorem dX1_isLazy_22 : decode cX1_isLazy 22 = .ok (.ireturn, 1) := by decide +kernel
theorem dX1_shown_0 : decode cX1_shown 0 = .ok (.iload_n 1, 1) := by decide +kernel
theorem dX1_shown_1 : decode cX1_shown 1 = .ok (.invokestatic 41, 3) := by decide +kernel
theorem dX1_shown_4 : decode cX1_shown 4 = .ok (.ifCond .ne 5, 3) := by decide +kernel
theorem dX1_shown_7 : decode cX1_shown 7 = .ok (.iconst 0, 1) := by decide +kernel
theorem dX1_shown_8 : decode cX1_shown 8 = .ok (.ireturn, 1) := by decide +kernel
theorem dX1_shown_9 : decode cX1_shown 9 = .ok (.aload_n 0, 1) := by decide +kernel
theorem dX1_shown_10 : decode cX1_shown 10 = .ok (.getfield 15, 3) := by decide +kernel
theorem dX1_shown_13 : decode cX1_shown 13 = .ok (.iload_n 1, 1) := by decide +kernel
theorem dX1_shown_14 : decode cX1_shown 14 = .ok (.iaload, 1) := by decide +kernel
theorem dX1_shown_15 : decode cX1_shown 15 = .ok (.iconst (-1), 1) := by decide +kernel
theorem dX1_shown_16 : decode cX1_shown 16 = .ok (.if_icmp .eq 12, 3) := by decide +kernel
theorem dX1_shown_19 : decode cX1_shown 19 = .ok (.aload_n 0, 1) := by decide +kernel
theorem dX1_shown_20 : decode cX1_shown 20 = .ok (.getfield 15, 3) := by decide +kernel
theorem dX1_shown_23 : decode cX1_shown 23 = .ok (.iload_n 1, 1) := by decide +kernel
theorem dX1_shown_24 : decode cX1_shown 24 = .ok (.iaload, 1) := by decide +kernel
theorem dX1_shown_25 : decode cX1_shown 25 = .ok (.goto 9, 3) := by decide +kernel
theorem dX1_shown_28 : decode cX1_shown 28 = .ok (.aload_n 0, 1) := by decide +kernel
theorem dX1_shown_29 : decode cX1_shown 29 = .ok (.getfield 9, 3) := by decide +kernel
theorem dX1_shown_32 : decode cX1_shown 32 = .ok (.iload_n 1, 1) := by decide +kernel
theorem dX1_shown_33 : decode cX1_shown 33 = .ok (.iaload, 1) := by decide +kernel
theorem dX1_shown_34 : decode cX1_shown 34 = .ok (.ireturn, 1) := by decide +kernel
theorem dX1_hold_0 : decode cX1_hold 0 = .ok (.iload_n 1, 1) := by decide +kernel
theorem dX1_hold_1 : decode cX1_hold 1 = .ok (.ifCond .lt 26, 3) := by decide +kernel
theorem dX1_hold_4 : decode cX1_hold 4 = .ok (.iload_n 1, 1) := by decide +kernel
theorem dX1_hold_5 : decode cX1_hold 5 = .ok (.aload_n 0, 1) := by decide +kernel
theorem dX1_hold_6 : decode cX1_hold 6 = .ok (.getfield 9, 3) := by decide +kernel
theorem dX1_hold_9 : decode cX1_hold 9 = .ok (.arraylength, 1) := by decide +kernel
theorem dX1_hold_10 : decode cX1_hold 10 = .ok (.if_icmp .ge 17, 3) := by decide +kernel
theorem dX1_hold_13 : decode cX1_hold 13 = .ok (.aload_n 0, 1) := by decide +kernel
theorem dX1_hold_14 : decode cX1_hold 14 = .ok (.getfield 9, 3) := by decide +kernel
theorem dX1_hold_17 : decode cX1_hold 17 = .ok (.iload_n 1, 1) := by decide +kernel
theorem dX1_hold_18 : decode cX1_hold 18 = .ok (.iload_n 2, 1) := by decide +kernel
theorem dX1_hold_19 : decode cX1_hold 19 = .ok (.iastore, 1) := by decide +kernel
theorem dX1_hold_20 : decode cX1_hold 20 = .ok (.aload_n 0, 1) := by decide +kernel
theorem dX1_hold_21 : decode cX1_hold 21 = .ok (.getfield 15, 3) := by decide +kernel
theorem dX1_hold_24 : decode cX1_hold 24 = .ok (.iload_n 1, 1) := by decide +kernel
theorem dX1_hold_25 : decode cX1_hold 25 = .ok (.iconst (-1), 1) := by decide +kernel
theorem dX1_hold_26 : decode cX1_hold 26 = .ok (.iastore, 1) := by decide +kernel
theorem dX1_hold_27 : decode cX1_hold 27 = .ok (.return_, 1) := by decide +kernel
theorem dX1_defer_0 : decode cX1_defer 0 = .ok (.iload_n 1, 1) := by decide +kernel
theorem dX1_defer_1 : decode cX1_defer 1 = .ok (.invokestatic 41, 3) := by decide +kernel
theorem dX1_defer_4 : decode cX1_defer 4 = .ok (.ifCond .eq 17, 3) := by decide +kernel
theorem dX1_defer_7 : decode cX1_defer 7 = .ok (.iload_n 2, 1) := by decide +kernel
theorem dX1_defer_8 : decode cX1_defer 8 = .ok (.invokestatic 41, 3) := by decide +kernel
theorem dX1_defer_11 : decode cX1_defer 11 = .ok (.ifCond .eq 10, 3) := by decide +kernel
theorem dX1_defer_14 : decode cX1_defer 14 = .ok (.aload_n 0, 1) := by decide +kernel
theorem dX1_defer_15 : decode cX1_defer 15 = .ok (.getfield 15, 3) := by decide +kernel
theorem dX1_defer_18 : decode cX1_defer 18 = .ok (.iload_n 1, 1) := by decide +kernel
theorem dX1_defer_19 : decode cX1_defer 19 = .ok (.iload_n 2, 1) := by decide +kernel
theorem dX1_defer_20 : decode cX1_defer 20 = .ok (.iastore, 1) := by decide +kernel
theorem dX1_defer_21 : decode cX1_defer 21 = .ok (.return_, 1) := by decide +kernel
theorem dX1_count_0 : decode cX1_count 0 = .ok (.aload_n 0, 1) := by decide +kernel
theorem dX1_count_1 : decode cX1_count 1 = .ok (.iload_n 2, 1) := by decide +kernel
theorem dX1_count_2 : decode cX1_count 2 = .ok (.iload_n 3, 1) := by decide +kernel
theorem dX1_count_3 : decode cX1_count 3 = .ok (.invokevirtual 45, 3) := by decide +kernel
theorem dX1_count_6 : decode cX1_count 6 = .ok (.aload_n 0, 1) := by decide +kernel
theorem dX1_count_7 : decode cX1_count 7 = .ok (.getfield 24, 3) := by decide +kernel
theorem dX1_count_10 : decode cX1_count 10 = .ok (.iload_n 1, 1) := by decide +kernel
theorem dX1_count_11 : decode cX1_count 11 = .ok (.iload_n 2, 1) := by decide +kernel
theorem dX1_count_12 : decode cX1_count 12 = .ok (.iload_n 3, 1) := by decide +kernel
theorem dX1_count_13 : decode cX1_count 13 = .ok (.invokevirtual 49, 3) := by decide +kernel
theorem dX1_count_16 : decode cX1_count 16 = .ok (.return_, 1) := by decide +kernel
theorem dX1_leadsToRing_0 : decode cX1_leadsToRing 0 = .ok (.iload_n 1, 1) := by decide +kernel
theorem dX1_leadsToRing_1 : decode cX1_leadsToRing 1 = .ok (.istore_n 2, 1) := by decide +kernel
theorem dX1_leadsToRing_2 : decode cX1_leadsToRing 2 = .ok (.iconst 0, 1) := by decide +kernel
theorem dX1_leadsToRing_3 : decode cX1_leadsToRing 3 = .ok (.istore_n 3, 1) := by decide +kernel
theorem dX1_leadsToRing_4 : decode cX1_leadsToRing 4 = .ok (.iload_n 3, 1) := by decide +kernel
theorem dX1_leadsToRing_5 : decode cX1_leadsToRing 5 = .ok (.bipush 8, 2) := by decide +kernel
theorem dX1_leadsToRing_7 : decode cX1_leadsToRing 7 = .ok (.if_icmp .ge 25, 3) := by decide +kernel
theorem dX1_leadsToRing_10 : decode cX1_leadsToRing 10 = .ok (.aload_n 0, 1) := by decide +kernel
theorem dX1_leadsToRing_11 : decode cX1_leadsToRing 11 = .ok (.iload_n 2, 1) := by decide +kernel
theorem dX1_leadsToRing_12 : decode cX1_leadsToRing 12 = .ok (.invokevirtual 53, 3) := by decide +kernel
theorem dX1_leadsToRing_15 : decode cX1_leadsToRing 15 = .ok (.ifCond .ne 5, 3) := by decide +kernel
theorem dX1_leadsToRing_18 : decode cX1_leadsToRing 18 = .ok (.iconst 0, 1) := by decide +kernel
theorem dX1_leadsToRing_19 : decode cX1_leadsToRing 19 = .ok (.ireturn, 1) := by decide +kernel
theorem dX1_leadsToRing_20 : decode cX1_leadsToRing 20 = .ok (.aload_n 0, 1) := by decide +kernel
theorem dX1_leadsToRing_21 : decode cX1_leadsToRing 21 = .ok (.iload_n 2, 1) := by decide +kernel
theorem dX1_leadsToRing_22 : decode cX1_leadsToRing 22 = .ok (.invokevirtual 56, 3) := by decide +kernel
theorem dX1_leadsToRing_25 : decode cX1_leadsToRing 25 = .ok (.istore_n 2, 1) := by decide +kernel
theorem dX1_leadsToRing_26 : decode cX1_leadsToRing 26 = .ok (.iinc 3 1, 3) := by decide +kernel
theorem dX1_leadsToRing_29 : decode cX1_leadsToRing 29 = .ok (.goto (-25), 3) := by decide +kernel
theorem dX1_leadsToRing_32 : decode cX1_leadsToRing 32 = .ok (.iconst 1, 1) := by decide +kernel
theorem dX1_leadsToRing_33 : decode cX1_leadsToRing 33 = .ok (.ireturn, 1) := by decide +kernel
theorem dX1_workedOut_0 : decode cX1_workedOut 0 = .ok (.iconst 0, 1) := by decide +kernel
theorem dX1_workedOut_1 : decode cX1_workedOut 1 = .ok (.istore_n 3, 1) := by decide +kernel
theorem dX1_workedOut_2 : decode cX1_workedOut 2 = .ok (.iload_n 1, 1) := by decide +kernel
theorem dX1_workedOut_3 : decode cX1_workedOut 3 = .ok (.istore 4, 2) := by decide +kernel
theorem dX1_workedOut_5 : decode cX1_workedOut 5 = .ok (.iload_n 3, 1) := by decide +kernel
theorem dX1_workedOut_6 : decode cX1_workedOut 6 = .ok (.aload_n 0, 1) := by decide +kernel
theorem dX1_workedOut_7 : decode cX1_workedOut 7 = .ok (.getfield 18, 3) := by decide +kernel
theorem dX1_workedOut_10 : decode cX1_workedOut 10 = .ok (.arraylength, 1) := by decide +kernel
theorem dX1_workedOut_11 : decode cX1_workedOut 11 = .ok (.if_icmp .ge 34, 3) := by decide +kernel
theorem dX1_workedOut_14 : decode cX1_workedOut 14 = .ok (.aload_n 0, 1) := by decide +kernel
theorem dX1_workedOut_15 : decode cX1_workedOut 15 = .ok (.iload 4, 2) := by decide +kernel
theorem dX1_workedOut_17 : decode cX1_workedOut 17 = .ok (.invokevirtual 53, 3) := by decide +kernel
theorem dX1_workedOut_20 : decode cX1_workedOut 20 = .ok (.ifCond .eq 25, 3) := by decide +kernel
theorem dX1_workedOut_23 : decode cX1_workedOut 23 = .ok (.aload_n 0, 1) := by decide +kernel
theorem dX1_workedOut_24 : decode cX1_workedOut 24 = .ok (.getfield 18, 3) := by decide +kernel
theorem dX1_workedOut_27 : decode cX1_workedOut 27 = .ok (.iload_n 3, 1) := by decide +kernel
theorem dX1_workedOut_28 : decode cX1_workedOut 28 = .ok (.iload 4, 2) := by decide +kernel
theorem dX1_workedOut_30 : decode cX1_workedOut 30 = .ok (.iastore, 1) := by decide +kernel
theorem dX1_workedOut_31 : decode cX1_workedOut 31 = .ok (.iinc 3 1, 3) := by decide +kernel
theorem dX1_workedOut_34 : decode cX1_workedOut 34 = .ok (.aload_n 0, 1) := by decide +kernel
theorem dX1_workedOut_35 : decode cX1_workedOut 35 = .ok (.iload 4, 2) := by decide +kernel
theorem dX1_workedOut_37 : decode cX1_workedOut 37 = .ok (.invokevirtual 56, 3) := by decide +kernel
theorem dX1_workedOut_40 : decode cX1_workedOut 40 = .ok (.istore 4, 2) := by decide +kernel
theorem dX1_workedOut_42 : decode cX1_workedOut 42 = .ok (.goto (-37), 3) := by decide +kernel
theorem dX1_workedOut_45 : decode cX1_workedOut 45 = .ok (.aload_n 0, 1) := by decide +kernel
theorem dX1_workedOut_46 : decode cX1_workedOut 46 = .ok (.iload 4, 2) := by decide +kernel
theorem dX1_workedOut_48 : decode cX1_workedOut 48 = .ok (.invokevirtual 56, 3) := by decide +kernel
theorem dX1_workedOut_51 : decode cX1_workedOut 51 = .ok (.istore 5, 2) := by decide +kernel
theorem dX1_workedOut_53 : decode cX1_workedOut 53 = .ok (.iload_n 3, 1) := by decide +kernel
theorem dX1_workedOut_54 : decode cX1_workedOut 54 = .ok (.iconst 1, 1) := by decide +kernel
theorem dX1_workedOut_55 : decode cX1_workedOut 55 = .ok (.isub, 1) := by decide +kernel
theorem dX1_workedOut_56 : decode cX1_workedOut 56 = .ok (.istore 6, 2) := by decide +kernel
theorem dX1_workedOut_58 : decode cX1_workedOut 58 = .ok (.iload 6, 2) := by decide +kernel
theorem dX1_workedOut_60 : decode cX1_workedOut 60 = .ok (.ifCond .lt 31, 3) := by decide +kernel
theorem dX1_workedOut_63 : decode cX1_workedOut 63 = .ok (.iconst 2, 1) := by decide +kernel
theorem dX1_workedOut_64 : decode cX1_workedOut 64 = .ok (.iload 5, 2) := by decide +kernel
theorem dX1_workedOut_66 : decode cX1_workedOut 66 = .ok (.imul, 1) := by decide +kernel
theorem dX1_workedOut_67 : decode cX1_workedOut 67 = .ok (.iconst 1, 1) := by decide +kernel
theorem dX1_workedOut_68 : decode cX1_workedOut 68 = .ok (.iadd, 1) := by decide +kernel
theorem dX1_workedOut_69 : decode cX1_workedOut 69 = .ok (.istore 5, 2) := by decide +kernel
theorem dX1_workedOut_71 : decode cX1_workedOut 71 = .ok (.aload_n 0, 1) := by decide +kernel
theorem dX1_workedOut_72 : decode cX1_workedOut 72 = .ok (.iload_n 2, 1) := by decide +kernel
theorem dX1_workedOut_73 : decode cX1_workedOut 73 = .ok (.aload_n 0, 1) := by decide +kernel
theorem dX1_workedOut_74 : decode cX1_workedOut 74 = .ok (.getfield 18, 3) := by decide +kernel
theorem dX1_workedOut_77 : decode cX1_workedOut 77 = .ok (.iload 6, 2) := by decide +kernel
theorem dX1_workedOut_79 : decode cX1_workedOut 79 = .ok (.iaload, 1) := by decide +kernel
theorem dX1_workedOut_80 : decode cX1_workedOut 80 = .ok (.iload 5, 2) := by decide +kernel
theorem dX1_workedOut_82 : decode cX1_workedOut 82 = .ok (.invokevirtual 60, 3) := by decide +kernel
theorem dX1_workedOut_85 : decode cX1_workedOut 85 = .ok (.iinc 6 (-1), 3) := by decide +kernel
theorem dX1_workedOut_88 : decode cX1_workedOut 88 = .ok (.goto (-30), 3) := by decide +kernel
theorem dX1_workedOut_91 : decode cX1_workedOut 91 = .ok (.iload 5, 2) := by decide +kernel
theorem dX1_workedOut_93 : decode cX1_workedOut 93 = .ok (.ireturn, 1) := by decide +kernel
theorem dX2_init_0 : decode cX2_init 0 = .ok (.aload_n 0, 1) := by decide +kernel
theorem dX2_init_1 : decode cX2_init 1 = .ok (.invokespecial 3, 3) := by decide +kernel
theorem dX2_init_4 : decode cX2_init 4 = .ok (.aload_n 0, 1) := by decide +kernel
theorem dX2_init_5 : decode cX2_init 5 = .ok (.bipush 30, 2) := by decide +kernel
theorem dX2_init_7 : decode cX2_init 7 = .ok (.newarray .int, 2) := by decide +kernel
theorem dX2_init_9 : decode cX2_init 9 = .ok (.putfield 9, 3) := by decide +kernel
theorem dX2_init_12 : decode cX2_init 12 = .ok (.aload_n 0, 1) := by decide +kernel
theorem dX2_init_13 : decode cX2_init 13 = .ok (.bipush 30, 2) := by decide +kernel
theorem dX2_init_15 : decode cX2_init 15 = .ok (.newarray .int, 2) := by decide +kernel
theorem dX2_init_17 : decode cX2_init 17 = .ok (.putfield 15, 3) := by decide +kernel
theorem dX2_init_20 : decode cX2_init 20 = .ok (.aload_n 0, 1) := by decide +kernel
theorem dX2_init_21 : decode cX2_init 21 = .ok (.bipush 30, 2) := by decide +kernel
theorem dX2_init_23 : decode cX2_init 23 = .ok (.newarray .int, 2) := by decide +kernel
theorem dX2_init_25 : decode cX2_init 25 = .ok (.putfield 18, 3) := by decide +kernel
theorem dX2_init_28 : decode cX2_init 28 = .ok (.return_, 1) := by decide +kernel
theorem dX2_add_0 : decode cX2_add 0 = .ok (.aload_n 0, 1) := by decide +kernel
theorem dX2_add_1 : decode cX2_add 1 = .ok (.aload_n 0, 1) := by decide +kernel
theorem dX2_add_2 : decode cX2_add 2 = .ok (.getfield 21, 3) := by decide +kernel
theorem dX2_add_5 : decode cX2_add 5 = .ok (.ifCond .lt 21, 3) := by decide +kernel
theorem dX2_add_8 : decode cX2_add 8 = .ok (.aload_n 0, 1) := by decide +kernel
theorem dX2_add_9 : decode cX2_add 9 = .ok (.getfield 21, 3) := by decide +kernel
theorem dX2_add_12 : decode cX2_add 12 = .ok (.bipush 29, 2) := by decide +kernel
theorem dX2_add_14 : decode cX2_add 14 = .ok (.if_icmp .ge 12, 3) := by decide +kernel
theorem dX2_add_17 : decode cX2_add 17 = .ok (.aload_n 0, 1) := by decide +kernel
theorem dX2_add_18 : decode cX2_add 18 = .ok (.getfield 21, 3) := by decide +kernel
theorem dX2_add_21 : decode cX2_add 21 = .ok (.iconst 1, 1) := by decide +kernel
theorem dX2_add_22 : decode cX2_add 22 = .ok (.iadd, 1) := by decide +kernel
theorem dX2_add_23 : decode cX2_add 23 = .ok (.goto 4, 3) := by decide +kernel
theorem dX2_add_26 : decode cX2_add 26 = .ok (.iconst 0, 1) := by decide +kernel
theorem dX2_add_27 : decode cX2_add 27 = .ok (.putfield 21, 3) := by decide +kernel
theorem dX2_add_30 : decode cX2_add 30 = .ok (.aload_n 0, 1) := by decide +kernel
theorem dX2_add_31 : decode cX2_add 31 = .ok (.getfield 9, 3) := by decide +kernel
theorem dX2_add_34 : decode cX2_add 34 = .ok (.aload_n 0, 1) := by decide +kernel
theorem dX2_add_35 : decode cX2_add 35 = .ok (.getfield 21, 3) := by decide +kernel
theorem dX2_add_38 : decode cX2_add 38 = .ok (.iload_n 1, 1) := by decide +kernel
theorem dX2_add_39 : decode cX2_add 39 = .ok (.iastore, 1) := by decide +kernel
theorem dX2_add_40 : decode cX2_add 40 = .ok (.aload_n 0, 1) := by decide +kernel
theorem dX2_add_41 : decode cX2_add 41 = .ok (.getfield 15, 3) := by decide +kernel
theorem dX2_add_44 : decode cX2_add 44 = .ok (.aload_n 0, 1) := by decide +kernel
theorem dX2_add_45 : decode cX2_add 45 = .ok (.getfield 21, 3) := by decide +kernel
theorem dX2_add_48 : decode cX2_add 48 = .ok (.iload_n 2, 1) := by decide +kernel
theorem dX2_add_49 : decode cX2_add 49 = .ok (.iastore, 1) := by decide +kernel
theorem dX2_add_50 : decode cX2_add 50 = .ok (.aload_n 0, 1) := by decide +kernel
theorem dX2_add_51 : decode cX2_add 51 = .ok (.getfield 18, 3) := by decide +kernel
theorem dX2_add_54 : decode cX2_add 54 = .ok (.aload_n 0, 1) := by decide +kernel
theorem dX2_add_55 : decode cX2_add 55 = .ok (.getfield 21, 3) := by decide +kernel
theorem dX2_add_58 : decode cX2_add 58 = .ok (.iload_n 3, 1) := by decide +kernel
theorem dX2_add_59 : decode cX2_add 59 = .ok (.iastore, 1) := by decide +kernel
theorem dX2_add_60 : decode cX2_add 60 = .ok (.aload_n 0, 1) := by decide +kernel
theorem dX2_add_61 : decode cX2_add 61 = .ok (.dup, 1) := by decide +kernel
theorem dX2_add_62 : decode cX2_add 62 = .ok (.getfield 25, 3) := by decide +kernel
theorem dX2_add_65 : decode cX2_add 65 = .ok (.iconst 1, 1) := by decide +kernel
theorem dX2_add_66 : decode cX2_add 66 = .ok (.iadd, 1) := by decide +kernel
theorem dX2_add_67 : decode cX2_add 67 = .ok (.putfield 25, 3) := by decide +kernel
theorem dX2_add_70 : decode cX2_add 70 = .ok (.return_, 1) := by decide +kernel
theorem dX2_tell_0 : decode cX2_tell 0 = .ok (.iload_n 1, 1) := by decide +kernel
theorem dX2_tell_1 : decode cX2_tell 1 = .ok (.ifCond .lt 17, 3) := by decide +kernel
theorem dX2_tell_4 : decode cX2_tell 4 = .ok (.iload_n 1, 1) := by decide +kernel
theorem dX2_tell_5 : decode cX2_tell 5 = .ok (.aload_n 0, 1) := by decide +kernel
theorem dX2_tell_6 : decode cX2_tell 6 = .ok (.getfield 25, 3) := by decide +kernel
theorem dX2_tell_9 : decode cX2_tell 9 = .ok (.if_icmp .ge 9, 3) := by decide +kernel
theorem dX2_tell_12 : decode cX2_tell 12 = .ok (.iload_n 1, 1) := by decide +kernel
theorem dX2_tell_13 : decode cX2_tell 13 = .ok (.bipush 30, 2) := by decide +kernel
theorem dX2_tell_15 : decode cX2_tell 15 = .ok (.if_icmp .lt 5, 3) := by decide +kernel
theorem dX2_tell_18 : decode cX2_tell 18 = .ok (.iconst (-1), 1) := by decide +kernel
theorem dX2_tell_19 : decode cX2_tell 19 = .ok (.ireturn, 1) := by decide +kernel
theorem dX2_tell_20 : decode cX2_tell 20 = .ok (.iload_n 1, 1) := by decide +kernel
theorem dX2_tell_21 : decode cX2_tell 21 = .ok (.aload_n 0, 1) := by decide +kernel
theorem dX2_tell_22 : decode cX2_tell 22 = .ok (.getfield 21, 3) := by decide +kernel
theorem dX2_tell_25 : decode cX2_tell 25 = .ok (.if_icmp .gt 12, 3) := by decide +kernel
theorem dX2_tell_28 : decode cX2_tell 28 = .ok (.aload_n 0, 1) := by decide +kernel
theorem dX2_tell_29 : decode cX2_tell 29 = .ok (.getfield 21, 3) := by decide +kernel
theorem dX2_tell_32 : decode cX2_tell 32 = .ok (.iload_n 1, 1) := by decide +kernel
theorem dX2_tell_33 : decode cX2_tell 33 = .ok (.isub, 1) := by decide +kernel
theorem dX2_tell_34 : decode cX2_tell 34 = .ok (.goto 12, 3) := by decide +kernel
theorem dX2_tell_37 : decode cX2_tell 37 = .ok (.aload_n 0, 1) := by decide +kernel
theorem dX2_tell_38 : decode cX2_tell 38 = .ok (.getfield 21, 3) := by decide +kernel
theorem dX2_tell_41 : decode cX2_tell 41 = .ok (.iload_n 1, 1) := by decide +kernel
theorem dX2_tell_42 : decode cX2_tell 42 = .ok (.isub, 1) := by decide +kernel
theorem dX2_tell_43 : decode cX2_tell 43 = .ok (.bipush 30, 2) := by decide +kernel
theorem dX2_tell_45 : decode cX2_tell 45 = .ok (.iadd, 1) := by decide +kernel
theorem dX2_tell_46 : decode cX2_tell 46 = .ok (.istore_n 3, 1) := by decide +kernel
theorem dX2_tell_47 : decode cX2_tell 47 = .ok (.iload_n 3, 1) := by decide +kernel
theorem dX2_tell_48 : decode cX2_tell 48 = .ok (.ifCond .lt 9, 3) := by decide +kernel
theorem dX2_tell_51 : decode cX2_tell 51 = .ok (.iload_n 3, 1) := by decide +kernel
theorem dX2_tell_52 : decode cX2_tell 52 = .ok (.bipush 30, 2) := by decide +kernel
theorem dX2_tell_54 : decode cX2_tell 54 = .ok (.if_icmp .lt 5, 3) := by decide +kernel
theorem dX2_tell_57 : decode cX2_tell 57 = .ok (.iconst (-1), 1) := by decide +kernel
theorem dX2_tell_58 : decode cX2_tell 58 = .ok (.ireturn, 1) := by decide +kernel
theorem dX2_tell_59 : decode cX2_tell 59 = .ok (.iload_n 2, 1) := by decide +kernel
theorem dX2_tell_60 : decode cX2_tell 60 = .ok (.ifCond .ne 10, 3) := by decide +kernel
theorem dX2_tell_63 : decode cX2_tell 63 = .ok (.aload_n 0, 1) := by decide +kernel
theorem dX2_tell_64 : decode cX2_tell 64 = .ok (.getfield 9, 3) := by decide +kernel
theorem dX2_tell_67 : decode cX2_tell 67 = .ok (.iload_n 3, 1) := by decide +kernel
theorem dX2_tell_68 : decode cX2_tell 68 = .ok (.iaload, 1) := by decide +kernel
theorem dX2_tell_69 : decode cX2_tell 69 = .ok (.ireturn, 1) := by decide +kernel
theorem dX2_tell_70 : decode cX2_tell 70 = .ok (.iload_n 2, 1) := by decide +kernel
theorem dX2_tell_71 : decode cX2_tell 71 = .ok (.iconst 1, 1) := by decide +kernel
theorem dX2_tell_72 : decode cX2_tell 72 = .ok (.if_icmp .ne 12, 3) := by decide +kernel
theorem dX2_tell_75 : decode cX2_tell 75 = .ok (.aload_n 0, 1) := by decide +kernel
theorem dX2_tell_76 : decode cX2_tell 76 = .ok (.getfield 15, 3) := by decide +kernel
theorem dX2_tell_79 : decode cX2_tell 79 = .ok (.iload_n 3, 1) := by decide +kernel
theorem dX2_tell_80 : decode cX2_tell 80 = .ok (.iaload, 1) := by decide +kernel
theorem dX2_tell_81 : decode cX2_tell 81 = .ok (.goto 9, 3) := by decide +kernel
theorem dX2_tell_84 : decode cX2_tell 84 = .ok (.aload_n 0, 1) := by decide +kernel
theorem dX2_tell_85 : decode cX2_tell 85 = .ok (.getfield 18, 3) := by decide +kernel
theorem dX2_tell_88 : decode cX2_tell 88 = .ok (.iload_n 3, 1) := by decide +kernel
theorem dX2_tell_89 : decode cX2_tell 89 = .ok (.iaload, 1) := by decide +kernel
theorem dX2_tell_90 : decode cX2_tell 90 = .ok (.ireturn, 1) := by decide +kernel
theorem dX3_init_0 : decode cX3_init 0 = .ok (.aload_n 0, 1) := by decide +kernel
theorem dX3_init_1 : decode cX3_init 1 = .ok (.invokespecial 3, 3) := by decide +kernel
theorem dX3_init_4 : decode cX3_init 4 = .ok (.aload_n 0, 1) := by decide +kernel
theorem dX3_init_5 : decode cX3_init 5 = .ok (.iconst 4, 1) := by decide +kernel
theorem dX3_init_6 : decode cX3_init 6 = .ok (.newarray .int, 2) := by decide +kernel
theorem dX3_init_8 : decode cX3_init 8 = .ok (.putfield 9, 3) := by decide +kernel
theorem dX3_init_11 : decode cX3_init 11 = .ok (.aload_n 0, 1) := by decide +kernel
theorem dX3_init_12 : decode cX3_init 12 = .ok (.iconst 4, 1) := by decide +kernel
theorem dX3_init_13 : decode cX3_init 13 = .ok (.newarray .boolean, 2) := by decide +kernel
theorem dX3_init_15 : decode cX3_init 15 = .ok (.putfield 15, 3) := by decide +kernel
theorem dX3_init_18 : decode cX3_init 18 = .ok (.aload_n 0, 1) := by decide +kernel
theorem dX3_init_19 : decode cX3_init 19 = .ok (.bipush 32, 2) := by decide +kernel
theorem dX3_init_21 : decode cX3_init 21 = .ok (.newarray .int, 2) := by decide +kernel
theorem dX3_init_23 : decode cX3_init 23 = .ok (.putfield 19, 3) := by decide +kernel
theorem dX3_init_26 : decode cX3_init 26 = .ok (.aload_n 0, 1) := by decide +kernel
theorem dX3_init_27 : decode cX3_init 27 = .ok (.invokevirtual 22, 3) := by decide +kernel
theorem dX3_init_30 : decode cX3_init 30 = .ok (.return_, 1) := by decide +kernel
theorem dX3_reset_0 : decode cX3_reset 0 = .ok (.iconst 0, 1) := by decide +kernel
theorem dX3_reset_1 : decode cX3_reset 1 = .ok (.istore_n 1, 1) := by decide +kernel
theorem dX3_reset_2 : decode cX3_reset 2 = .ok (.iload_n 1, 1) := by decide +kernel
theorem dX3_reset_3 : decode cX3_reset 3 = .ok (.iconst 4, 1) := by decide +kernel
theorem dX3_reset_4 : decode cX3_reset 4 = .ok (.if_icmp .ge 23, 3) := by decide +kernel
theorem dX3_reset_7 : decode cX3_reset 7 = .ok (.aload_n 0, 1) := by decide +kernel
theorem dX3_reset_8 : decode cX3_reset 8 = .ok (.getfield 9, 3) := by decide +kernel
theorem dX3_reset_11 : decode cX3_reset 11 = .ok (.iload_n 1, 1) := by decide +kernel
theorem dX3_reset_12 : decode cX3_reset 12 = .ok (.iconst (-1), 1) := by decide +kernel
theorem dX3_reset_13 : decode cX3_reset 13 = .ok (.iastore, 1) := by decide +kernel
theorem dX3_reset_14 : decode cX3_reset 14 = .ok (.aload_n 0, 1) := by decide +kernel
theorem dX3_reset_15 : decode cX3_reset 15 = .ok (.getfield 15, 3) := by decide +kernel
theorem dX3_reset_18 : decode cX3_reset 18 = .ok (.iload_n 1, 1) := by decide +kernel
theorem dX3_reset_19 : decode cX3_reset 19 = .ok (.iconst 0, 1) := by decide +kernel
theorem dX3_reset_20 : decode cX3_reset 20 = .ok (.bastore, 1) := by decide +kernel
theorem dX3_reset_21 : decode cX3_reset 21 = .ok (.iinc 1 1, 3) := by decide +kernel
theorem dX3_reset_24 : decode cX3_reset 24 = .ok (.goto (-22), 3) := by decide +kernel
theorem dX3_reset_27 : decode cX3_reset 27 = .ok (.return_, 1) := by decide +kernel
theorem dX3_length_0 : decode cX3_length 0 = .ok (.iload_n 1, 1) := by decide +kernel
theorem dX3_length_1 : decode cX3_length 1 = .ok (.invokestatic 25, 3) := by decide +kernel
theorem dX3_length_4 : decode cX3_length 4 = .ok (.ifCond .eq 12, 3) := by decide +kernel
theorem dX3_length_7 : decode cX3_length 7 = .ok (.aload_n 0, 1) := by decide +kernel
theorem dX3_length_8 : decode cX3_length 8 = .ok (.getfield 9, 3) := by decide +kernel
theorem dX3_length_11 : decode cX3_length 11 = .ok (.iload_n 1, 1) := by decide +kernel
theorem dX3_length_12 : decode cX3_length 12 = .ok (.iaload, 1) := by decide +kernel
theorem dX3_length_13 : decode cX3_length 13 = .ok (.goto 4, 3) := by decide +kernel
theorem dX3_length_16 : decode cX3_length 16 = .ok (.iconst (-1), 1) := by decide +kernel
theorem dX3_length_17 : decode cX3_length 17 = .ok (.ireturn, 1) := by decide +kernel
theorem dX3_isFrozen_0 : decode cX3_isFrozen 0 = .ok (.iload_n 1, 1) := by decide +kernel
theorem dX3_isFrozen_1 : decode cX3_isFrozen 1 = .ok (.invokestatic 25, 3) := by decide +kernel
theorem dX3_isFrozen_4 : decode cX3_isFrozen 4 = .ok (.ifCond .eq 16, 3) := by decide +kernel
theorem dX3_isFrozen_7 : decode cX3_isFrozen 7 = .ok (.aload_n 0, 1) := by decide +kernel
theorem dX3_isFrozen_8 : decode cX3_isFrozen 8 = .ok (.getfield 15, 3) := by decide +kernel
theorem dX3_isFrozen_11 : decode cX3_isFrozen 11 = .ok (.iload_n 1, 1) := by decide +kernel
theorem dX3_isFrozen_12 : decode cX3_isFrozen 12 = .ok (.baload, 1) := by decide +kernel
theorem dX3_isFrozen_13 : decode cX3_isFrozen 13 = .ok (.ifCond .eq 7, 3) := by decide +kernel
theorem dX3_isFrozen_16 : decode cX3_isFrozen 16 = .ok (.iconst 1, 1) := by decide +kernel
theorem dX3_isFrozen_17 : decode cX3_isFrozen 17 = .ok (.goto 4, 3) := by decide +kernel
theorem dX3_isFrozen_20 : decode cX3_isFrozen 20 = .ok (.iconst 0, 1) := by decide +kernel
theorem dX3_isFrozen_21 : decode cX3_isFrozen 21 = .ok (.ireturn, 1) := by decide +kernel
theorem dX3_hasItem_0 : decode cX3_hasItem 0 = .ok (.iload_n 1, 1) := by decide +kernel
theorem dX3_hasItem_1 : decode cX3_hasItem 1 = .ok (.invokestatic 25, 3) := by decide +kernel
theorem dX3_hasItem_4 : decode cX3_hasItem 4 = .ok (.ifCond .eq 27, 3) := by decide +kernel
theorem dX3_hasItem_7 : decode cX3_hasItem 7 = .ok (.iload_n 2, 1) := by decide +kernel
theorem dX3_hasItem_8 : decode cX3_hasItem 8 = .ok (.ifCond .lt 23, 3) := by decide +kernel
theorem dX3_hasItem_11 : decode cX3_hasItem 11 = .ok (.iload_n 2, 1) := by decide +kernel
theorem dX3_hasItem_12 : decode cX3_hasItem 12 = .ok (.aload_n 0, 1) := by decide +kernel
theorem dX3_hasItem_13 : decode cX3_hasItem 13 = .ok (.getfield 9, 3) := by decide +kernel
theorem dX3_hasItem_16 : decode cX3_hasItem 16 = .ok (.iload_n 1, 1) := by decide +kernel
theorem dX3_hasItem_17 : decode cX3_hasItem 17 = .ok (.iaload, 1) := by decide +kernel
theorem dX3_hasItem_18 : decode cX3_hasItem 18 = .ok (.if_icmp .ge 13, 3) := by decide +kernel
theorem dX3_hasItem_21 : decode cX3_hasItem 21 = .ok (.iload_n 2, 1) := by decide +kernel
theorem dX3_hasItem_22 : decode cX3_hasItem 22 = .ok (.bipush 8, 2) := by decide +kernel
theorem dX3_hasItem_24 : decode cX3_hasItem 24 = .ok (.if_icmp .ge 7, 3) := by decide +kernel
theorem dX3_hasItem_27 : decode cX3_hasItem 27 = .ok (.iconst 1, 1) := by decide +kernel
theorem dX3_hasItem_28 : decode cX3_hasItem 28 = .ok (.goto 4, 3) := by decide +kernel
theorem dX3_hasItem_31 : decode cX3_hasItem 31 = .ok (.iconst 0, 1) := by decide +kernel
theorem dX3_hasItem_32 : decode cX3_hasItem 32 = .ok (.ireturn, 1) := by decide +kernel
theorem dX3_itemOf_0 : decode cX3_itemOf 0 = .ok (.aload_n 0, 1) := by decide +kernel
theorem dX3_itemOf_1 : decode cX3_itemOf 1 = .ok (.iload_n 1, 1) := by decide +kernel
theorem dX3_itemOf_2 : decode cX3_itemOf 2 = .ok (.iload_n 2, 1) := by decide +kernel
theorem dX3_itemOf_3 : decode cX3_itemOf 3 = .ok (.invokevirtual 29, 3) := by decide +kernel
theorem dX3_itemOf_6 : decode cX3_itemOf 6 = .ok (.ifCond .eq 17, 3) := by decide +kernel
theorem dX3_itemOf_9 : decode cX3_itemOf 9 = .ok (.aload_n 0, 1) := by decide +kernel
theorem dX3_itemOf_10 : decode cX3_itemOf 10 = .ok (.getfield 19, 3) := by decide +kernel
theorem dX3_itemOf_13 : decode cX3_itemOf 13 = .ok (.iload_n 1, 1) := by decide +kernel
theorem dX3_itemOf_14 : decode cX3_itemOf 14 = .ok (.bipush 8, 2) := by decide +kernel
theorem dX3_itemOf_16 : decode cX3_itemOf 16 = .ok (.imul, 1) := by decide +kernel
theorem dX3_itemOf_17 : decode cX3_itemOf 17 = .ok (.iload_n 2, 1) := by decide +kernel
theorem dX3_itemOf_18 : decode cX3_itemOf 18 = .ok (.iadd, 1) := by decide +kernel
theorem dX3_itemOf_19 : decode cX3_itemOf 19 = .ok (.iaload, 1) := by decide +kernel
theorem dX3_itemOf_20 : decode cX3_itemOf 20 = .ok (.goto 4, 3) := by decide +kernel
theorem dX3_itemOf_23 : decode cX3_itemOf 23 = .ok (.iconst 0, 1) := by decide +kernel
theorem dX3_itemOf_24 : decode cX3_itemOf 24 = .ok (.ireturn, 1) := by decide +kernel
theorem dX3_failureAt_0 : decode cX3_failureAt 0 = .ok (.aload_n 0, 1) := by decide +kernel
theorem dX3_failureAt_1 : decode cX3_failureAt 1 = .ok (.iload_n 1, 1) := by decide +kernel
theorem dX3_failureAt_2 : decode cX3_failureAt 2 = .ok (.invokevirtual 33, 3) := by decide +kernel
theorem dX3_failureAt_5 : decode cX3_failureAt 5 = .ok (.iconst (-1), 1) := by decide +kernel
theorem dX3_failureAt_6 : decode cX3_failureAt 6 = .ok (.if_icmp .ne 5, 3) := by decide +kernel
theorem dX3_failureAt_9 : decode cX3_failureAt 9 = .ok (.iconst 1, 1) := by decide +kernel
theorem dX3_failureAt_10 : decode cX3_failureAt 10 = .ok (.ireturn, 1) := by decide +kernel
theorem dX3_failureAt_11 : decode cX3_failureAt 11 = .ok (.aload_n 0, 1) := by decide +kernel
theorem dX3_failureAt_12 : decode cX3_failureAt 12 = .ok (.iload_n 1, 1) := by decide +kernel
theorem dX3_failureAt_13 : decode cX3_failureAt 13 = .ok (.iload_n 2, 1) := by decide +kernel
theorem dX3_failureAt_14 : decode cX3_failureAt 14 = .ok (.invokevirtual 29, 3) := by decide +kernel
theorem dX3_failureAt_17 : decode cX3_failureAt 17 = .ok (.ifCond .eq 7, 3) := by decide +kernel
theorem dX3_failureAt_20 : decode cX3_failureAt 20 = .ok (.iconst 0, 1) := by decide +kernel
theorem dX3_failureAt_21 : decode cX3_failureAt 21 = .ok (.goto 4, 3) := by decide +kernel
theorem dX3_failureAt_24 : decode cX3_failureAt 24 = .ok (.iconst 3, 1) := by decide +kernel
theorem dX3_failureAt_25 : decode cX3_failureAt 25 = .ok (.ireturn, 1) := by decide +kernel
theorem dX3_store_0 : decode cX3_store 0 = .ok (.aload_n 0, 1) := by decide +kernel
theorem dX3_store_1 : decode cX3_store 1 = .ok (.iload_n 1, 1) := by decide +kernel
theorem dX3_store_2 : decode cX3_store 2 = .ok (.iload_n 2, 1) := by decide +kernel
theorem dX3_store_3 : decode cX3_store 3 = .ok (.invokevirtual 37, 3) := by decide +kernel
theorem dX3_store_6 : decode cX3_store 6 = .ok (.istore 4, 2) := by decide +kernel
theorem dX3_store_8 : decode cX3_store 8 = .ok (.iload 4, 2) := by decide +kernel
theorem dX3_store_10 : decode cX3_store 10 = .ok (.ifCond .eq 6, 3) := by decide +kernel
theorem dX3_store_13 : decode cX3_store 13 = .ok (.iload 4, 2) := by decide +kernel
theorem dX3_store_15 : decode cX3_store 15 = .ok (.ireturn, 1) := by decide +kernel
theorem dX3_store_16 : decode cX3_store 16 = .ok (.aload_n 0, 1) := by decide +kernel
theorem dX3_store_17 : decode cX3_store 17 = .ok (.iload_n 1, 1) := by decide +kernel
theorem dX3_store_18 : decode cX3_store 18 = .ok (.invokevirtual 41, 3) := by decide +kernel
theorem dX3_store_21 : decode cX3_store 21 = .ok (.ifCond .eq 5, 3) := by decide +kernel
theorem dX3_store_24 : decode cX3_store 24 = .ok (.iconst 4, 1) := by decide +kernel
theorem dX3_store_25 : decode cX3_store 25 = .ok (.ireturn, 1) := by decide +kernel
theorem dX3_store_26 : decode cX3_store 26 = .ok (.aload_n 0, 1) := by decide +kernel
theorem dX3_store_27 : decode cX3_store 27 = .ok (.iload_n 1, 1) := by decide +kernel
theorem dX3_store_28 : decode cX3_store 28 = .ok (.iload_n 2, 1) := by decide +kernel
theorem dX3_store_29 : decode cX3_store 29 = .ok (.invokevirtual 29, 3) := by decide +kernel
theorem dX3_store_32 : decode cX3_store 32 = .ok (.ifCond .eq 15, 3) := by decide +kernel
theorem dX3_store_35 : decode cX3_store 35 = .ok (.aload_n 0, 1) := by decide +kernel
theorem dX3_store_36 : decode cX3_store 36 = .ok (.getfield 19, 3) := by decide +kernel
theorem dX3_store_39 : decode cX3_store 39 = .ok (.iload_n 1, 1) := by decide +kernel
theorem dX3_store_40 : decode cX3_store 40 = .ok (.bipush 8, 2) := by decide +kernel
theorem dX3_store_42 : decode cX3_store 42 = .ok (.imul, 1) := by decide +kernel
theorem dX3_store_43 : decode cX3_store 43 = .ok (.iload_n 2, 1) := by decide +kernel
theorem dX3_store_44 : decode cX3_store 44 = .ok (.iadd, 1) := by decide +kernel
theorem dX3_store_45 : decode cX3_store 45 = .ok (.iload_n 3, 1) := by decide +kernel
theorem dX3_store_46 : decode cX3_store 46 = .ok (.iastore, 1) := by decide +kernel
theorem dX3_store_47 : decode cX3_store 47 = .ok (.iconst 0, 1) := by decide +kernel
theorem dX3_store_48 : decode cX3_store 48 = .ok (.ireturn, 1) := by decide +kernel
theorem dX3_make_0 : decode cX3_make 0 = .ok (.iload_n 2, 1) := by decide +kernel
theorem dX3_make_1 : decode cX3_make 1 = .ok (.ifCond .ge 6, 3) := by decide +kernel
theorem dX3_make_4 : decode cX3_make 4 = .ok (.bipush 6, 2) := by decide +kernel
theorem dX3_make_6 : decode cX3_make 6 = .ok (.ireturn, 1) := by decide +kernel
theorem dX3_make_7 : decode cX3_make 7 = .ok (.iload_n 2, 1) := by decide +kernel
theorem dX3_make_8 : decode cX3_make 8 = .ok (.bipush 8, 2) := by decide +kernel
theorem dX3_make_10 : decode cX3_make 10 = .ok (.if_icmp .le 6, 3) := by decide +kernel
theorem dX3_make_13 : decode cX3_make 13 = .ok (.bipush 7, 2) := by decide +kernel
theorem dX3_make_15 : decode cX3_make 15 = .ok (.ireturn, 1) := by decide +kernel
theorem dX3_make_16 : decode cX3_make 16 = .ok (.iload_n 1, 1) := by decide +kernel
theorem dX3_make_17 : decode cX3_make 17 = .ok (.invokestatic 25, 3) := by decide +kernel
theorem dX3_make_20 : decode cX3_make 20 = .ok (.ifCond .eq 36, 3) := by decide +kernel
theorem dX3_make_23 : decode cX3_make 23 = .ok (.aload_n 0, 1) := by decide +kernel
theorem dX3_make_24 : decode cX3_make 24 = .ok (.getfield 19, 3) := by decide +kernel
theorem dX3_make_27 : decode cX3_make 27 = .ok (.iload_n 1, 1) := by decide +kernel
theorem dX3_make_28 : decode cX3_make 28 = .ok (.bipush 8, 2) := by decide +kernel
theorem dX3_make_30 : decode cX3_make 30 = .ok (.imul, 1) := by decide +kernel
theorem dX3_make_31 : decode cX3_make 31 = .ok (.iload_n 1, 1) := by decide +kernel
theorem dX3_make_32 : decode cX3_make 32 = .ok (.bipush 8, 2) := by decide +kernel
theorem dX3_make_34 : decode cX3_make 34 = .ok (.imul, 1) := by decide +kernel
theorem dX3_make_35 : decode cX3_make 35 = .ok (.bipush 8, 2) := by decide +kernel
theorem dX3_make_37 : decode cX3_make 37 = .ok (.iadd, 1) := by decide +kernel
theorem dX3_make_38 : decode cX3_make 38 = .ok (.iconst 0, 1) := by decide +kernel
theorem dX3_make_39 : decode cX3_make 39 = .ok (.invokestatic 44, 3) := by decide +kernel
theorem dX3_make_42 : decode cX3_make 42 = .ok (.aload_n 0, 1) := by decide +kernel
theorem dX3_make_43 : decode cX3_make 43 = .ok (.getfield 9, 3) := by decide +kernel
theorem dX3_make_46 : decode cX3_make 46 = .ok (.iload_n 1, 1) := by decide +kernel
theorem dX3_make_47 : decode cX3_make 47 = .ok (.iload_n 2, 1) := by decide +kernel
theorem dX3_make_48 : decode cX3_make 48 = .ok (.iastore, 1) := by decide +kernel
theorem dX3_make_49 : decode cX3_make 49 = .ok (.aload_n 0, 1) := by decide +kernel
theorem dX3_make_50 : decode cX3_make 50 = .ok (.getfield 15, 3) := by decide +kernel
theorem dX3_make_53 : decode cX3_make 53 = .ok (.iload_n 1, 1) := by decide +kernel
theorem dX3_make_54 : decode cX3_make 54 = .ok (.iconst 0, 1) := by decide +kernel
theorem dX3_make_55 : decode cX3_make 55 = .ok (.bastore, 1) := by decide +kernel
theorem dX3_make_56 : decode cX3_make 56 = .ok (.iconst 0, 1) := by decide +kernel
theorem dX3_make_57 : decode cX3_make 57 = .ok (.ireturn, 1) := by decide +kernel
theorem dX3_freeze_0 : decode cX3_freeze 0 = .ok (.iload_n 1, 1) := by decide +kernel
theorem dX3_freeze_1 : decode cX3_freeze 1 = .ok (.invokestatic 25, 3) := by decide +kernel
theorem dX3_freeze_4 : decode cX3_freeze 4 = .ok (.ifCond .eq 13, 3) := by decide +kernel
theorem dX3_freeze_7 : decode cX3_freeze 7 = .ok (.aload_n 0, 1) := by decide +kernel
theorem dX3_freeze_8 : decode cX3_freeze 8 = .ok (.getfield 9, 3) := by decide +kernel
theorem dX3_freeze_11 : decode cX3_freeze 11 = .ok (.iload_n 1, 1) := by decide +kernel
theorem dX3_freeze_12 : decode cX3_freeze 12 = .ok (.iaload, 1) := by decide +kernel
theorem dX3_freeze_13 : decode cX3_freeze 13 = .ok (.iconst (-1), 1) := by decide +kernel
theorem dX3_freeze_14 : decode cX3_freeze 14 = .ok (.if_icmp .ne 5, 3) := by decide +kernel
theorem dX3_freeze_17 : decode cX3_freeze 17 = .ok (.iconst 1, 1) := by decide +kernel
theorem dX3_freeze_18 : decode cX3_freeze 18 = .ok (.ireturn, 1) := by decide +kernel
theorem dX3_freeze_19 : decode cX3_freeze 19 = .ok (.aload_n 0, 1) := by decide +kernel
theorem dX3_freeze_20 : decode cX3_freeze 20 = .ok (.getfield 15, 3) := by decide +kernel
theorem dX3_freeze_23 : decode cX3_freeze 23 = .ok (.iload_n 1, 1) := by decide +kernel
theorem dX3_freeze_24 : decode cX3_freeze 24 = .ok (.iconst 1, 1) := by decide +kernel
theorem dX3_freeze_25 : decode cX3_freeze 25 = .ok (.bastore, 1) := by decide +kernel
theorem dX3_freeze_26 : decode cX3_freeze 26 = .ok (.iconst 0, 1) := by decide +kernel
theorem dX3_freeze_27 : decode cX3_freeze 27 = .ok (.ireturn, 1) := by decide +kernel
theorem dX4_init_0 : decode cX4_init 0 = .ok (.aload_n 0, 1) := by decide +kernel
theorem dX4_init_1 : decode cX4_init 1 = .ok (.invokespecial 3, 3) := by decide +kernel
theorem dX4_init_4 : decode cX4_init 4 = .ok (.aload_n 0, 1) := by decide +kernel
theorem dX4_init_5 : decode cX4_init 5 = .ok (.bipush 24, 2) := by decide +kernel
theorem dX4_init_7 : decode cX4_init 7 = .ok (.newarray .int, 2) := by decide +kernel
theorem dX4_init_9 : decode cX4_init 9 = .ok (.putfield 9, 3) := by decide +kernel
theorem dX4_init_12 : decode cX4_init 12 = .ok (.aload_n 0, 1) := by decide +kernel
theorem dX4_init_13 : decode cX4_init 13 = .ok (.bipush 24, 2) := by decide +kernel
theorem dX4_init_15 : decode cX4_init 15 = .ok (.newarray .int, 2) := by decide +kernel
theorem dX4_init_17 : decode cX4_init 17 = .ok (.putfield 15, 3) := by decide +kernel
theorem dX4_init_20 : decode cX4_init 20 = .ok (.aload_n 0, 1) := by decide +kernel
theorem dX4_init_21 : decode cX4_init 21 = .ok (.bipush 24, 2) := by decide +kernel
theorem dX4_init_23 : decode cX4_init 23 = .ok (.newarray .int, 2) := by decide +kernel
theorem dX4_init_25 : decode cX4_init 25 = .ok (.putfield 18, 3) := by decide +kernel
theorem dX4_init_28 : decode cX4_init 28 = .ok (.aload_n 0, 1) := by decide +kernel
theorem dX4_init_29 : decode cX4_init 29 = .ok (.bipush 24, 2) := by decide +kernel
theorem dX4_init_31 : decode cX4_init 31 = .ok (.newarray .int, 2) := by decide +kernel
theorem dX4_init_33 : decode cX4_init 33 = .ok (.putfield 21, 3) := by decide +kernel
theorem dX4_init_36 : decode cX4_init 36 = .ok (.aload_n 0, 1) := by decide +kernel
theorem dX4_init_37 : decode cX4_init 37 = .ok (.iconst 4, 1) := by decide +kernel
theorem dX4_init_38 : decode cX4_init 38 = .ok (.newarray .int, 2) := by decide +kernel
theorem dX4_init_40 : decode cX4_init 40 = .ok (.putfield 24, 3) := by decide +kernel
theorem dX4_init_43 : decode cX4_init 43 = .ok (.aload_n 0, 1) := by decide +kernel
theorem dX4_init_44 : decode cX4_init 44 = .ok (.iconst 4, 1) := by decide +kernel
theorem dX4_init_45 : decode cX4_init 45 = .ok (.newarray .int, 2) := by decide +kernel
theorem dX4_init_47 : decode cX4_init 47 = .ok (.putfield 27, 3) := by decide +kernel
theorem dX4_init_50 : decode cX4_init 50 = .ok (.aload_n 0, 1) := by decide +kernel
theorem dX4_init_51 : decode cX4_init 51 = .ok (.new 30, 3) := by decide +kernel
theorem dX4_init_54 : decode cX4_init 54 = .ok (.dup, 1) := by decide +kernel
theorem dX4_init_55 : decode cX4_init 55 = .ok (.invokespecial 32, 3) := by decide +kernel
theorem dX4_init_58 : decode cX4_init 58 = .ok (.putfield 33, 3) := by decide +kernel
theorem dX4_init_61 : decode cX4_init 61 = .ok (.aload_n 0, 1) := by decide +kernel
theorem dX4_init_62 : decode cX4_init 62 = .ok (.iload_n 1, 1) := by decide +kernel
theorem dX4_init_63 : decode cX4_init 63 = .ok (.putfield 37, 3) := by decide +kernel
theorem dX4_init_66 : decode cX4_init 66 = .ok (.return_, 1) := by decide +kernel
theorem dX4_reset_0 : decode cX4_reset 0 = .ok (.iload_n 1, 1) := by decide +kernel
theorem dX4_reset_1 : decode cX4_reset 1 = .ok (.ifCond .ne 8, 3) := by decide +kernel
theorem dX4_reset_4 : decode cX4_reset 4 = .ok (.aload_n 0, 1) := by decide +kernel
theorem dX4_reset_5 : decode cX4_reset 5 = .ok (.iconst 0, 1) := by decide +kernel
theorem dX4_reset_6 : decode cX4_reset 6 = .ok (.putfield 41, 3) := by decide +kernel
theorem dX4_reset_9 : decode cX4_reset 9 = .ok (.aload_n 0, 1) := by decide +kernel
theorem dX4_reset_10 : decode cX4_reset 10 = .ok (.getfield 24, 3) := by decide +kernel
theorem dX4_reset_13 : decode cX4_reset 13 = .ok (.iconst 0, 1) := by decide +kernel
theorem dX4_reset_14 : decode cX4_reset 14 = .ok (.invokestatic 44, 3) := by decide +kernel
theorem dX4_reset_17 : decode cX4_reset 17 = .ok (.aload_n 0, 1) := by decide +kernel
theorem dX4_reset_18 : decode cX4_reset 18 = .ok (.iconst 0, 1) := by decide +kernel
theorem dX4_reset_19 : decode cX4_reset 19 = .ok (.putfield 50, 3) := by decide +kernel
theorem dX4_reset_22 : decode cX4_reset 22 = .ok (.aload_n 0, 1) := by decide +kernel
theorem dX4_reset_23 : decode cX4_reset 23 = .ok (.getfield 33, 3) := by decide +kernel
theorem dX4_reset_26 : decode cX4_reset 26 = .ok (.iconst 0, 1) := by decide +kernel
theorem dX4_reset_27 : decode cX4_reset 27 = .ok (.putfield 53, 3) := by decide +kernel
theorem dX4_reset_30 : decode cX4_reset 30 = .ok (.aload_n 0, 1) := by decide +kernel
theorem dX4_reset_31 : decode cX4_reset 31 = .ok (.iconst 0, 1) := by decide +kernel
theorem dX4_reset_32 : decode cX4_reset 32 = .ok (.putfield 57, 3) := by decide +kernel
theorem dX4_reset_35 : decode cX4_reset 35 = .ok (.aload_n 0, 1) := by decide +kernel
theorem dX4_reset_36 : decode cX4_reset 36 = .ok (.iconst 0, 1) := by decide +kernel
theorem dX4_reset_37 : decode cX4_reset 37 = .ok (.putfield 60, 3) := by decide +kernel
theorem dX4_reset_40 : decode cX4_reset 40 = .ok (.aload_n 0, 1) := by decide +kernel
theorem dX4_reset_41 : decode cX4_reset 41 = .ok (.iconst 0, 1) := by decide +kernel
theorem dX4_reset_42 : decode cX4_reset 42 = .ok (.putfield 63, 3) := by decide +kernel
theorem dX4_reset_45 : decode cX4_reset 45 = .ok (.aload_n 0, 1) := by decide +kernel
theorem dX4_reset_46 : decode cX4_reset 46 = .ok (.iconst 0, 1) := by decide +kernel
theorem dX4_reset_47 : decode cX4_reset 47 = .ok (.putfield 66, 3) := by decide +kernel
theorem dX4_reset_50 : decode cX4_reset 50 = .ok (.return_, 1) := by decide +kernel
theorem dX4_append_0 : decode cX4_append 0 = .ok (.aload_n 0, 1) := by decide +kernel
theorem dX4_append_1 : decode cX4_append 1 = .ok (.getfield 41, 3) := by decide +kernel
theorem dX4_append_4 : decode cX4_append 4 = .ok (.ifCond .lt 12, 3) := by decide +kernel
theorem dX4_append_7 : decode cX4_append 7 = .ok (.aload_n 0, 1) := by decide +kernel
theorem dX4_append_8 : decode cX4_append 8 = .ok (.getfield 41, 3) := by decide +kernel
theorem dX4_append_11 : decode cX4_append 11 = .ok (.bipush 24, 2) := by decide +kernel
theorem dX4_append_13 : decode cX4_append 13 = .ok (.if_icmp .lt 5, 3) := by decide +kernel
theorem dX4_append_16 : decode cX4_append 16 = .ok (.iconst 0, 1) := by decide +kernel
theorem dX4_append_17 : decode cX4_append 17 = .ok (.ireturn, 1) := by decide +kernel
theorem dX4_append_18 : decode cX4_append 18 = .ok (.aload_n 0, 1) := by decide +kernel
theorem dX4_append_19 : decode cX4_append 19 = .ok (.getfield 9, 3) := by decide +kernel
theorem dX4_append_22 : decode cX4_append 22 = .ok (.aload_n 0, 1) := by decide +kernel
theorem dX4_append_23 : decode cX4_append 23 = .ok (.getfield 41, 3) := by decide +kernel
theorem dX4_append_26 : decode cX4_append 26 = .ok (.iload_n 1, 1) := by decide +kernel
theorem dX4_append_27 : decode cX4_append 27 = .ok (.iastore, 1) := by decide +kernel
theorem dX4_append_28 : decode cX4_append 28 = .ok (.aload_n 0, 1) := by decide +kernel
theorem dX4_append_29 : decode cX4_append 29 = .ok (.getfield 15, 3) := by decide +kernel
theorem dX4_append_32 : decode cX4_append 32 = .ok (.aload_n 0, 1) := by decide +kernel
theorem dX4_append_33 : decode cX4_append 33 = .ok (.getfield 41, 3) := by decide +kernel
theorem dX4_append_36 : decode cX4_append 36 = .ok (.iload_n 2, 1) := by decide +kernel
theorem dX4_append_37 : decode cX4_append 37 = .ok (.iastore, 1) := by decide +kernel
theorem dX4_append_38 : decode cX4_append 38 = .ok (.aload_n 0, 1) := by decide +kernel
theorem dX4_append_39 : decode cX4_append 39 = .ok (.getfield 18, 3) := by decide +kernel
theorem dX4_append_42 : decode cX4_append 42 = .ok (.aload_n 0, 1) := by decide +kernel
theorem dX4_append_43 : decode cX4_append 43 = .ok (.getfield 41, 3) := by decide +kernel
theorem dX4_append_46 : decode cX4_append 46 = .ok (.iload_n 3, 1) := by decide +kernel
theorem dX4_append_47 : decode cX4_append 47 = .ok (.iastore, 1) := by decide +kernel
theorem dX4_append_48 : decode cX4_append 48 = .ok (.aload_n 0, 1) := by decide +kernel
theorem dX4_append_49 : decode cX4_append 49 = .ok (.getfield 21, 3) := by decide +kernel
theorem dX4_append_52 : decode cX4_append 52 = .ok (.aload_n 0, 1) := by decide +kernel
theorem dX4_append_53 : decode cX4_append 53 = .ok (.getfield 41, 3) := by decide +kernel
theorem dX4_append_56 : decode cX4_append 56 = .ok (.iload 4, 2) := by decide +kernel
theorem dX4_append_58 : decode cX4_append 58 = .ok (.iastore, 1) := by decide +kernel
theorem dX4_append_59 : decode cX4_append 59 = .ok (.aload_n 0, 1) := by decide +kernel
theorem dX4_append_60 : decode cX4_append 60 = .ok (.dup, 1) := by decide +kernel
theorem dX4_append_61 : decode cX4_append 61 = .ok (.getfield 41, 3) := by decide +kernel
theorem dX4_append_64 : decode cX4_append 64 = .ok (.iconst 1, 1) := by decide +kernel
theorem dX4_append_65 : decode cX4_append 65 = .ok (.iadd, 1) := by decide +kernel
theorem dX4_append_66 : decode cX4_append 66 = .ok (.putfield 41, 3) := by decide +kernel
theorem dX4_append_69 : decode cX4_append 69 = .ok (.iconst 1, 1) := by decide +kernel
theorem dX4_append_70 : decode cX4_append 70 = .ok (.ireturn, 1) := by decide +kernel
theorem dX4_state_0 : decode cX4_state 0 = .ok (.aload_n 0, 1) := by decide +kernel
theorem dX4_state_1 : decode cX4_state 1 = .ok (.getfield 60, 3) := by decide +kernel
theorem dX4_state_4 : decode cX4_state 4 = .ok (.ifCond .eq 5, 3) := by decide +kernel
theorem dX4_state_7 : decode cX4_state 7 = .ok (.iconst 2, 1) := by decide +kernel
theorem dX4_state_8 : decode cX4_state 8 = .ok (.ireturn, 1) := by decide +kernel
theorem dX4_state_9 : decode cX4_state 9 = .ok (.aload_n 0, 1) := by decide +kernel
theorem dX4_state_10 : decode cX4_state 10 = .ok (.getfield 57, 3) := by decide +kernel
theorem dX4_state_13 : decode cX4_state 13 = .ok (.aload_n 0, 1) := by decide +kernel
theorem dX4_state_14 : decode cX4_state 14 = .ok (.getfield 41, 3) := by decide +kernel
theorem dX4_state_17 : decode cX4_state 17 = .ok (.if_icmp .lt 24, 3) := by decide +kernel
theorem dX4_state_20 : decode cX4_state 20 = .ok (.aload_n 0, 1) := by decide +kernel
theorem dX4_state_21 : decode cX4_state 21 = .ok (.getfield 50, 3) := by decide +kernel
theorem dX4_state_24 : decode cX4_state 24 = .ok (.ifCond .ne 17, 3) := by decide +kernel
theorem dX4_state_27 : decode cX4_state 27 = .ok (.aload_n 0, 1) := by decide +kernel
theorem dX4_state_28 : decode cX4_state 28 = .ok (.getfield 33, 3) := by decide +kernel
theorem dX4_state_31 : decode cX4_state 31 = .ok (.getfield 53, 3) := by decide +kernel
theorem dX4_state_34 : decode cX4_state 34 = .ok (.ifCond .ne 7, 3) := by decide +kernel
theorem dX4_state_37 : decode cX4_state 37 = .ok (.iconst 1, 1) := by decide +kernel
theorem dX4_state_38 : decode cX4_state 38 = .ok (.goto 4, 3) := by decide +kernel
theorem dX4_state_41 : decode cX4_state 41 = .ok (.iconst 0, 1) := by decide +kernel
theorem dX4_state_42 : decode cX4_state 42 = .ok (.ireturn, 1) := by decide +kernel
theorem dX4_held_0 : decode cX4_held 0 = .ok (.iload_n 1, 1) := by decide +kernel
theorem dX4_held_1 : decode cX4_held 1 = .ok (.invokestatic 69, 3) := by decide +kernel
theorem dX4_held_4 : decode cX4_held 4 = .ok (.ifCond .eq 12, 3) := by decide +kernel
theorem dX4_held_7 : decode cX4_held 7 = .ok (.aload_n 0, 1) := by decide +kernel
theorem dX4_held_8 : decode cX4_held 8 = .ok (.getfield 24, 3) := by decide +kernel
theorem dX4_held_11 : decode cX4_held 11 = .ok (.iload_n 1, 1) := by decide +kernel
theorem dX4_held_12 : decode cX4_held 12 = .ok (.iaload, 1) := by decide +kernel
theorem dX4_held_13 : decode cX4_held 13 = .ok (.goto 4, 3) := by decide +kernel
theorem dX4_held_16 : decode cX4_held 16 = .ok (.iconst 0, 1) := by decide +kernel
theorem dX4_held_17 : decode cX4_held 17 = .ok (.ireturn, 1) := by decide +kernel
theorem dX4_keep_0 : decode cX4_keep 0 = .ok (.iload_n 1, 1) := by decide +kernel
theorem dX4_keep_1 : decode cX4_keep 1 = .ok (.invokestatic 69, 3) := by decide +kernel
theorem dX4_keep_4 : decode cX4_keep 4 = .ok (.ifCond .eq 10, 3) := by decide +kernel
theorem dX4_keep_7 : decode cX4_keep 7 = .ok (.aload_n 0, 1) := by decide +kernel
theorem dX4_keep_8 : decode cX4_keep 8 = .ok (.getfield 24, 3) := by decide +kernel
theorem dX4_keep_11 : decode cX4_keep 11 = .ok (.iload_n 1, 1) := by decide +kernel
theorem dX4_keep_12 : decode cX4_keep 12 = .ok (.iload_n 2, 1) := by decide +kernel
theorem dX4_keep_13 : decode cX4_keep 13 = .ok (.iastore, 1) := by decide +kernel
theorem dX4_keep_14 : decode cX4_keep 14 = .ok (.return_, 1) := by decide +kernel
theorem dX4_performAlone_0 : decode cX4_performAlone 0 = .ok (.iload_n 1, 1) := by decide +kernel
theorem dX4_performAlone_1 : decode cX4_performAlone 1 = .ok (.tableswitch 222 0 16 #[83, 222, 222, 91, 110, 129, 148, 222, 222, 222, 165, 172, 194, 222, 199, 205, 210], 83) := by decide +kernel
theorem dX4_performAlone_84 : decode cX4_performAlone 84 = .ok (.aload_n 0, 1) := by decide +kernel
theorem dX4_performAlone_85 : decode cX4_performAlone 85 = .ok (.iload_n 2, 1) := by decide +kernel
theorem dX4_performAlone_86 : decode cX4_performAlone 86 = .ok (.iload_n 3, 1) := by decide +kernel
theorem dX4_performAlone_87 : decode cX4_performAlone 87 = .ok (.invokevirtual 73, 3) := by decide +kernel
theorem dX4_performAlone_90 : decode cX4_performAlone 90 = .ok (.iconst 0, 1) := by decide +kernel
theorem dX4_performAlone_91 : decode cX4_performAlone 91 = .ok (.ireturn, 1) := by decide +kernel
theorem dX4_performAlone_92 : decode cX4_performAlone 92 = .ok (.aload_n 0, 1) := by decide +kernel
theorem dX4_performAlone_93 : decode cX4_performAlone 93 = .ok (.iload_n 2, 1) := by decide +kernel
theorem dX4_performAlone_94 : decode cX4_performAlone 94 = .ok (.aload_n 0, 1) := by decide +kernel
theorem dX4_performAlone_95 : decode cX4_performAlone 95 = .ok (.iload_n 3, 1) := by decide +kernel
theorem dX4_performAlone_96 : decode cX4_performAlone 96 = .ok (.invokevirtual 77, 3) := by decide +kernel
theorem dX4_performAlone_99 : decode cX4_performAlone 99 = .ok (.aload_n 0, 1) := by decide +kernel
theorem dX4_performAlone_100 : decode cX4_performAlone 100 = .ok (.iload 4, 2) := by decide +kernel
theorem dX4_performAlone_102 : decode cX4_performAlone 102 = .ok (.invokevirtual 77, 3) := by decide +kernel
theorem dX4_performAlone_105 : decode cX4_performAlone 105 = .ok (.iadd, 1) := by decide +kernel
theorem dX4_performAlone_106 : decode cX4_performAlone 106 = .ok (.invokevirtual 73, 3) := by decide +kernel
theorem dX4_performAlone_109 : decode cX4_performAlone 109 = .ok (.iconst 0, 1) := by decide +kernel
theorem dX4_performAlone_110 : decode cX4_performAlone 110 = .ok (.ireturn, 1) := by decide +kernel
theorem dX4_performAlone_111 : decode cX4_performAlone 111 = .ok (.aload_n 0, 1) := by decide +kernel
theorem dX4_performAlone_112 : decode cX4_performAlone 112 = .ok (.iload_n 2, 1) := by decide +kernel
theorem dX4_performAlone_113 : decode cX4_performAlone 113 = .ok (.aload_n 0, 1) := by decide +kernel
theorem dX4_performAlone_114 : decode cX4_performAlone 114 = .ok (.iload_n 3, 1) := by decide +kernel
theorem dX4_performAlone_115 : decode cX4_performAlone 115 = .ok (.invokevirtual 77, 3) := by decide +kernel
theorem dX4_performAlone_118 : decode cX4_performAlone 118 = .ok (.aload_n 0, 1) := by decide +kernel
theorem dX4_performAlone_119 : decode cX4_performAlone 119 = .ok (.iload 4, 2) := by decide +kernel
theorem dX4_performAlone_121 : decode cX4_performAlone 121 = .ok (.invokevirtual 77, 3) := by decide +kernel
theorem dX4_performAlone_124 : decode cX4_performAlone 124 = .ok (.isub, 1) := by decide +kernel
theorem dX4_performAlone_125 : decode cX4_performAlone 125 = .ok (.invokevirtual 73, 3) := by decide +kernel
theorem dX4_performAlone_128 : decode cX4_performAlone 128 = .ok (.iconst 0, 1) := by decide +kernel
theorem dX4_performAlone_129 : decode cX4_performAlone 129 = .ok (.ireturn, 1) := by decide +kernel
theorem dX4_performAlone_130 : decode cX4_performAlone 130 = .ok (.aload_n 0, 1) := by decide +kernel
theorem dX4_performAlone_131 : decode cX4_performAlone 131 = .ok (.iload_n 2, 1) := by decide +kernel
theorem dX4_performAlone_132 : decode cX4_performAlone 132 = .ok (.aload_n 0, 1) := by decide +kernel
theorem dX4_performAlone_133 : decode cX4_performAlone 133 = .ok (.iload_n 3, 1) := by decide +kernel
theorem dX4_performAlone_134 : decode cX4_performAlone 134 = .ok (.invokevirtual 77, 3) := by decide +kernel
theorem dX4_performAlone_137 : decode cX4_performAlone 137 = .ok (.aload_n 0, 1) := by decide +kernel
theorem dX4_performAlone_138 : decode cX4_performAlone 138 = .ok (.iload 4, 2) := by decide +kernel
theorem dX4_performAlone_140 : decode cX4_performAlone 140 = .ok (.invokevirtual 77, 3) := by decide +kernel
theorem dX4_performAlone_143 : decode cX4_performAlone 143 = .ok (.imul, 1) := by decide +kernel
theorem dX4_performAlone_144 : decode cX4_performAlone 144 = .ok (.invokevirtual 73, 3) := by decide +kernel
theorem dX4_performAlone_147 : decode cX4_performAlone 147 = .ok (.iconst 0, 1) := by decide +kernel
theorem dX4_performAlone_148 : decode cX4_performAlone 148 = .ok (.ireturn, 1) := by decide +kernel
theorem dX4_performAlone_149 : decode cX4_performAlone 149 = .ok (.aload_n 0, 1) := by decide +kernel
theorem dX4_performAlone_150 : decode cX4_performAlone 150 = .ok (.iload_n 2, 1) := by decide +kernel
theorem dX4_performAlone_151 : decode cX4_performAlone 151 = .ok (.aload_n 0, 1) := by decide +kernel
theorem dX4_performAlone_152 : decode cX4_performAlone 152 = .ok (.iload_n 3, 1) := by decide +kernel
theorem dX4_performAlone_153 : decode cX4_performAlone 153 = .ok (.invokevirtual 77, 3) := by decide +kernel
theorem dX4_performAlone_156 : decode cX4_performAlone 156 = .ok (.aload_n 0, 1) := by decide +kernel
theorem dX4_performAlone_157 : decode cX4_performAlone 157 = .ok (.iload 4, 2) := by decide +kernel
theorem dX4_performAlone_159 : decode cX4_performAlone 159 = .ok (.invokevirtual 77, 3) := by decide +kernel
theorem dX4_performAlone_162 : decode cX4_performAlone 162 = .ok (.invokevirtual 81, 3) := by decide +kernel
theorem dX4_performAlone_165 : decode cX4_performAlone 165 = .ok (.ireturn, 1) := by decide +kernel
theorem dX4_performAlone_166 : decode cX4_performAlone 166 = .ok (.aload_n 0, 1) := by decide +kernel
theorem dX4_performAlone_167 : decode cX4_performAlone 167 = .ok (.iload_n 2, 1) := by decide +kernel
theorem dX4_performAlone_168 : decode cX4_performAlone 168 = .ok (.putfield 85, 3) := by decide +kernel
theorem dX4_performAlone_171 : decode cX4_performAlone 171 = .ok (.iconst 0, 1) := by decide +kernel
theorem dX4_performAlone_172 : decode cX4_performAlone 172 = .ok (.ireturn, 1) := by decide +kernel
theorem dX4_performAlone_173 : decode cX4_performAlone 173 = .ok (.aload_n 0, 1) := by decide +kernel
theorem dX4_performAlone_174 : decode cX4_performAlone 174 = .ok (.aload_n 0, 1) := by decide +kernel
theorem dX4_performAlone_175 : decode cX4_performAlone 175 = .ok (.iload_n 2, 1) := by decide +kernel
theorem dX4_performAlone_176 : decode cX4_performAlone 176 = .ok (.invokevirtual 77, 3) := by decide +kernel
theorem dX4_performAlone_179 : decode cX4_performAlone 179 = .ok (.ifCond .ne 7, 3) := by decide +kernel
theorem dX4_performAlone_182 : decode cX4_performAlone 182 = .ok (.iload_n 3, 1) := by decide +kernel
theorem dX4_performAlone_183 : decode cX4_performAlone 183 = .ok (.goto 7, 3) := by decide +kernel
theorem dX4_performAlone_186 : decode cX4_performAlone 186 = .ok (.aload_n 0, 1) := by decide +kernel
theorem dX4_performAlone_187 : decode cX4_performAlone 187 = .ok (.getfield 85, 3) := by decide +kernel
theorem dX4_performAlone_190 : decode cX4_performAlone 190 = .ok (.putfield 85, 3) := by decide +kernel
theorem dX4_performAlone_193 : decode cX4_performAlone 193 = .ok (.iconst 0, 1) := by decide +kernel
theorem dX4_performAlone_194 : decode cX4_performAlone 194 = .ok (.ireturn, 1) := by decide +kernel
theorem dX4_performAlone_195 : decode cX4_performAlone 195 = .ok (.aload_n 0, 1) := by decide +kernel
theorem dX4_performAlone_196 : decode cX4_performAlone 196 = .ok (.invokevirtual 88, 3) := by decide +kernel
theorem dX4_performAlone_199 : decode cX4_performAlone 199 = .ok (.ireturn, 1) := by decide +kernel
theorem dX4_performAlone_200 : decode cX4_performAlone 200 = .ok (.aload_n 0, 1) := by decide +kernel
theorem dX4_performAlone_201 : decode cX4_performAlone 201 = .ok (.iload_n 2, 1) := by decide +kernel
theorem dX4_performAlone_202 : decode cX4_performAlone 202 = .ok (.invokevirtual 92, 3) := by decide +kernel
theorem dX4_performAlone_205 : decode cX4_performAlone 205 = .ok (.ireturn, 1) := by decide +kernel
theorem dX4_performAlone_206 : decode cX4_performAlone 206 = .ok (.aload_n 0, 1) := by decide +kernel
theorem dX4_performAlone_207 : decode cX4_performAlone 207 = .ok (.invokevirtual 95, 3) := by decide +kernel
theorem dX4_performAlone_210 : decode cX4_performAlone 210 = .ok (.ireturn, 1) := by decide +kernel
theorem dX4_performAlone_211 : decode cX4_performAlone 211 = .ok (.bipush 10, 2) := by decide +kernel
theorem dX4_performAlone_213 : decode cX4_performAlone 213 = .ok (.aload_n 0, 1) := by decide +kernel
theorem dX4_performAlone_214 : decode cX4_performAlone 214 = .ok (.iload_n 2, 1) := by decide +kernel
theorem dX4_performAlone_215 : decode cX4_performAlone 215 = .ok (.invokevirtual 77, 3) := by decide +kernel
theorem dX4_performAlone_218 : decode cX4_performAlone 218 = .ok (.bipush 7, 2) := by decide +kernel
theorem dX4_performAlone_220 : decode cX4_performAlone 220 = .ok (.iand, 1) := by decide +kernel
theorem dX4_performAlone_221 : decode cX4_performAlone 221 = .ok (.iadd, 1) := by decide +kernel
theorem dX4_performAlone_222 : decode cX4_performAlone 222 = .ok (.ireturn, 1) := by decide +kernel
theorem dX4_performAlone_223 : decode cX4_performAlone 223 = .ok (.iconst 0, 1) := by decide +kernel
theorem dX4_performAlone_224 : decode cX4_performAlone 224 = .ok (.ireturn, 1) := by decide +kernel
theorem dX4_divide_0 : decode cX4_divide 0 = .ok (.iload_n 3, 1) := by decide +kernel
theorem dX4_divide_1 : decode cX4_divide 1 = .ok (.ifCond .ne 5, 3) := by decide +kernel
theorem dX4_divide_4 : decode cX4_divide 4 = .ok (.iconst 2, 1) := by decide +kernel
theorem dX4_divide_5 : decode cX4_divide 5 = .ok (.ireturn, 1) := by decide +kernel
theorem dX4_divide_6 : decode cX4_divide 6 = .ok (.aload_n 0, 1) := by decide +kernel
theorem dX4_divide_7 : decode cX4_divide 7 = .ok (.iload_n 1, 1) := by decide +kernel
theorem dX4_divide_8 : decode cX4_divide 8 = .ok (.iload_n 2, 1) := by decide +kernel
theorem dX4_divide_9 : decode cX4_divide 9 = .ok (.iload_n 3, 1) := by decide +kernel
theorem dX4_divide_10 : decode cX4_divide 10 = .ok (.idiv, 1) := by decide +kernel
theorem dX4_divide_11 : decode cX4_divide 11 = .ok (.invokevirtual 73, 3) := by decide +kernel
theorem dX4_divide_14 : decode cX4_divide 14 = .ok (.iconst 0, 1) := by decide +kernel
theorem dX4_divide_15 : decode cX4_divide 15 = .ok (.ireturn, 1) := by decide +kernel
theorem dX4_openTry_0 : decode cX4_openTry 0 = .ok (.aload_n 0, 1) := by decide +kernel
theorem dX4_openTry_1 : decode cX4_openTry 1 = .ok (.getfield 50, 3) := by decide +kernel
theorem dX4_openTry_4 : decode cX4_openTry 4 = .ok (.ifCond .lt 11, 3) := by decide +kernel
theorem dX4_openTry_7 : decode cX4_openTry 7 = .ok (.aload_n 0, 1) := by decide +kernel
theorem dX4_openTry_8 : decode cX4_openTry 8 = .ok (.getfield 50, 3) := by decide +kernel
theorem dX4_openTry_11 : decode cX4_openTry 11 = .ok (.iconst 4, 1) := by decide +kernel
theorem dX4_openTry_12 : decode cX4_openTry 12 = .ok (.if_icmp .lt 5, 3) := by decide +kernel
theorem dX4_openTry_15 : decode cX4_openTry 15 = .ok (.iconst 5, 1) := by decide +kernel
theorem dX4_openTry_16 : decode cX4_openTry 16 = .ok (.ireturn, 1) := by decide +kernel
theorem dX4_openTry_17 : decode cX4_openTry 17 = .ok (.aload_n 0, 1) := by decide +kernel
theorem dX4_openTry_18 : decode cX4_openTry 18 = .ok (.getfield 27, 3) := by decide +kernel
theorem dX4_openTry_21 : decode cX4_openTry 21 = .ok (.aload_n 0, 1) := by decide +kernel
theorem dX4_openTry_22 : decode cX4_openTry 22 = .ok (.getfield 50, 3) := by decide +kernel
theorem dX4_openTry_25 : decode cX4_openTry 25 = .ok (.iload_n 1, 1) := by decide +kernel
theorem dX4_openTry_26 : decode cX4_openTry 26 = .ok (.iastore, 1) := by decide +kernel
theorem dX4_openTry_27 : decode cX4_openTry 27 = .ok (.aload_n 0, 1) := by decide +kernel
theorem dX4_openTry_28 : decode cX4_openTry 28 = .ok (.dup, 1) := by decide +kernel
theorem dX4_openTry_29 : decode cX4_openTry 29 = .ok (.getfield 50, 3) := by decide +kernel
theorem dX4_openTry_32 : decode cX4_openTry 32 = .ok (.iconst 1, 1) := by decide +kernel
theorem dX4_openTry_33 : decode cX4_openTry 33 = .ok (.iadd, 1) := by decide +kernel
theorem dX4_openTry_34 : decode cX4_openTry 34 = .ok (.putfield 50, 3) := by decide +kernel
theorem dX4_openTry_37 : decode cX4_openTry 37 = .ok (.iconst 0, 1) := by decide +kernel
theorem dX4_openTry_38 : decode cX4_openTry 38 = .ok (.ireturn, 1) := by decide +kernel
theorem dX4_closeTry_0 : decode cX4_closeTry 0 = .ok (.aload_n 0, 1) := by decide +kernel
theorem dX4_closeTry_1 : decode cX4_closeTry 1 = .ok (.getfield 50, 3) := by decide +kernel
theorem dX4_closeTry_4 : decode cX4_closeTry 4 = .ok (.ifCond .eq 27, 3) := by decide +kernel
theorem dX4_closeTry_7 : decode cX4_closeTry 7 = .ok (.aload_n 0, 1) := by decide +kernel
theorem dX4_closeTry_8 : decode cX4_closeTry 8 = .ok (.getfield 33, 3) := by decide +kernel
theorem dX4_closeTry_11 : decode cX4_closeTry 11 = .ok (.getfield 53, 3) := by decide +kernel
theorem dX4_closeTry_14 : decode cX4_closeTry 14 = .ok (.ifCond .eq 19, 3) := by decide +kernel
theorem dX4_closeTry_17 : decode cX4_closeTry 17 = .ok (.aload_n 0, 1) := by decide +kernel
theorem dX4_closeTry_18 : decode cX4_closeTry 18 = .ok (.getfield 50, 3) := by decide +kernel
theorem dX4_closeTry_21 : decode cX4_closeTry 21 = .ok (.aload_n 0, 1) := by decide +kernel
theorem dX4_closeTry_22 : decode cX4_closeTry 22 = .ok (.getfield 33, 3) := by decide +kernel
theorem dX4_closeTry_25 : decode cX4_closeTry 25 = .ok (.getfield 98, 3) := by decide +kernel
theorem dX4_closeTry_28 : decode cX4_closeTry 28 = .ok (.if_icmp .gt 5, 3) := by decide +kernel
theorem dX4_closeTry_31 : decode cX4_closeTry 31 = .ok (.iconst 5, 1) := by decide +kernel
theorem dX4_closeTry_32 : decode cX4_closeTry 32 = .ok (.ireturn, 1) := by decide +kernel
theorem dX4_closeTry_33 : decode cX4_closeTry 33 = .ok (.aload_n 0, 1) := by decide +kernel
theorem dX4_closeTry_34 : decode cX4_closeTry 34 = .ok (.dup, 1) := by decide +kernel
theorem dX4_closeTry_35 : decode cX4_closeTry 35 = .ok (.getfield 50, 3) := by decide +kernel
theorem dX4_closeTry_38 : decode cX4_closeTry 38 = .ok (.iconst 1, 1) := by decide +kernel
theorem dX4_closeTry_39 : decode cX4_closeTry 39 = .ok (.isub, 1) := by decide +kernel
theorem dX4_closeTry_40 : decode cX4_closeTry 40 = .ok (.putfield 50, 3) := by decide +kernel
theorem dX4_closeTry_43 : decode cX4_closeTry 43 = .ok (.iconst 0, 1) := by decide +kernel
theorem dX4_closeTry_44 : decode cX4_closeTry 44 = .ok (.ireturn, 1) := by decide +kernel
theorem dX4_beginAtom_0 : decode cX4_beginAtom 0 = .ok (.aload_n 0, 1) := by decide +kernel
theorem dX4_beginAtom_1 : decode cX4_beginAtom 1 = .ok (.getfield 33, 3) := by decide +kernel
theorem dX4_beginAtom_4 : decode cX4_beginAtom 4 = .ok (.getfield 53, 3) := by decide +kernel
theorem dX4_beginAtom_7 : decode cX4_beginAtom 7 = .ok (.ifCond .eq 5, 3) := by decide +kernel
theorem dX4_beginAtom_10 : decode cX4_beginAtom 10 = .ok (.iconst 5, 1) := by decide +kernel
theorem dX4_beginAtom_11 : decode cX4_beginAtom 11 = .ok (.ireturn, 1) := by decide +kernel
theorem dX4_beginAtom_12 : decode cX4_beginAtom 12 = .ok (.aload_n 0, 1) := by decide +kernel
theorem dX4_beginAtom_13 : decode cX4_beginAtom 13 = .ok (.getfield 33, 3) := by decide +kernel
theorem dX4_beginAtom_16 : decode cX4_beginAtom 16 = .ok (.iconst 1, 1) := by decide +kernel
theorem dX4_beginAtom_17 : decode cX4_beginAtom 17 = .ok (.putfield 53, 3) := by decide +kernel
theorem dX4_beginAtom_20 : decode cX4_beginAtom 20 = .ok (.aload_n 0, 1) := by decide +kernel
theorem dX4_beginAtom_21 : decode cX4_beginAtom 21 = .ok (.getfield 33, 3) := by decide +kernel
theorem dX4_beginAtom_24 : decode cX4_beginAtom 24 = .ok (.aload_n 0, 1) := by decide +kernel
theorem dX4_beginAtom_25 : decode cX4_beginAtom 25 = .ok (.getfield 85, 3) := by decide +kernel
theorem dX4_beginAtom_28 : decode cX4_beginAtom 28 = .ok (.putfield 101, 3) := by decide +kernel
theorem dX4_beginAtom_31 : decode cX4_beginAtom 31 = .ok (.aload_n 0, 1) := by decide +kernel
theorem dX4_beginAtom_32 : decode cX4_beginAtom 32 = .ok (.getfield 33, 3) := by decide +kernel
theorem dX4_beginAtom_35 : decode cX4_beginAtom 35 = .ok (.aload_n 0, 1) := by decide +kernel
theorem dX4_beginAtom_36 : decode cX4_beginAtom 36 = .ok (.getfield 50, 3) := by decide +kernel
theorem dX4_beginAtom_39 : decode cX4_beginAtom 39 = .ok (.putfield 98, 3) := by decide +kernel
theorem dX4_beginAtom_42 : decode cX4_beginAtom 42 = .ok (.aload_n 0, 1) := by decide +kernel
theorem dX4_beginAtom_43 : decode cX4_beginAtom 43 = .ok (.getfield 24, 3) := by decide +kernel
theorem dX4_beginAtom_46 : decode cX4_beginAtom 46 = .ok (.iconst 0, 1) := by decide +kernel
theorem dX4_beginAtom_47 : decode cX4_beginAtom 47 = .ok (.aload_n 0, 1) := by decide +kernel
theorem dX4_beginAtom_48 : decode cX4_beginAtom 48 = .ok (.getfield 33, 3) := by decide +kernel
theorem dX4_beginAtom_51 : decode cX4_beginAtom 51 = .ok (.getfield 104, 3) := by decide +kernel
theorem dX4_beginAtom_54 : decode cX4_beginAtom 54 = .ok (.iconst 0, 1) := by decide +kernel
theorem dX4_beginAtom_55 : decode cX4_beginAtom 55 = .ok (.iconst 4, 1) := by decide +kernel
theorem dX4_beginAtom_56 : decode cX4_beginAtom 56 = .ok (.invokestatic 105, 3) := by decide +kernel
theorem dX4_beginAtom_59 : decode cX4_beginAtom 59 = .ok (.aload_n 0, 1) := by decide +kernel
theorem dX4_beginAtom_60 : decode cX4_beginAtom 60 = .ok (.getfield 33, 3) := by decide +kernel
theorem dX4_beginAtom_63 : decode cX4_beginAtom 63 = .ok (.invokevirtual 111, 3) := by decide +kernel
theorem dX4_beginAtom_66 : decode cX4_beginAtom 66 = .ok (.iconst 0, 1) := by decide +kernel
theorem dX4_beginAtom_67 : decode cX4_beginAtom 67 = .ok (.ireturn, 1) := by decide +kernel
theorem dX4_beginAnew_0 : decode cX4_beginAnew 0 = .ok (.aload_n 0, 1) := by decide +kernel
theorem dX4_beginAnew_1 : decode cX4_beginAnew 1 = .ok (.dup, 1) := by decide +kernel
theorem dX4_beginAnew_2 : decode cX4_beginAnew 2 = .ok (.getfield 66, 3) := by decide +kernel
theorem dX4_beginAnew_5 : decode cX4_beginAnew 5 = .ok (.iconst 1, 1) := by decide +kernel
theorem dX4_beginAnew_6 : decode cX4_beginAnew 6 = .ok (.iadd, 1) := by decide +kernel
theorem dX4_beginAnew_7 : decode cX4_beginAnew 7 = .ok (.putfield 66, 3) := by decide +kernel
theorem dX4_beginAnew_10 : decode cX4_beginAnew 10 = .ok (.aload_n 0, 1) := by decide +kernel
theorem dX4_beginAnew_11 : decode cX4_beginAnew 11 = .ok (.aload_n 0, 1) := by decide +kernel
theorem dX4_beginAnew_12 : decode cX4_beginAnew 12 = .ok (.getfield 33, 3) := by decide +kernel
theorem dX4_beginAnew_15 : decode cX4_beginAnew 15 = .ok (.getfield 101, 3) := by decide +kernel
theorem dX4_beginAnew_18 : decode cX4_beginAnew 18 = .ok (.putfield 85, 3) := by decide +kernel
theorem dX4_beginAnew_21 : decode cX4_beginAnew 21 = .ok (.aload_n 0, 1) := by decide +kernel
theorem dX4_beginAnew_22 : decode cX4_beginAnew 22 = .ok (.getfield 33, 3) := by decide +kernel
theorem dX4_beginAnew_25 : decode cX4_beginAnew 25 = .ok (.getfield 104, 3) := by decide +kernel
theorem dX4_beginAnew_28 : decode cX4_beginAnew 28 = .ok (.iconst 0, 1) := by decide +kernel
theorem dX4_beginAnew_29 : decode cX4_beginAnew 29 = .ok (.aload_n 0, 1) := by decide +kernel
theorem dX4_beginAnew_30 : decode cX4_beginAnew 30 = .ok (.getfield 24, 3) := by decide +kernel
theorem dX4_beginAnew_33 : decode cX4_beginAnew 33 = .ok (.iconst 0, 1) := by decide +kernel
theorem dX4_beginAnew_34 : decode cX4_beginAnew 34 = .ok (.iconst 4, 1) := by decide +kernel
theorem dX4_beginAnew_35 : decode cX4_beginAnew 35 = .ok (.invokestatic 105, 3) := by decide +kernel
theorem dX4_beginAnew_38 : decode cX4_beginAnew 38 = .ok (.aload_n 0, 1) := by decide +kernel
theorem dX4_beginAnew_39 : decode cX4_beginAnew 39 = .ok (.getfield 33, 3) := by decide +kernel
theorem dX4_beginAnew_42 : decode cX4_beginAnew 42 = .ok (.invokevirtual 111, 3) := by decide +kernel
theorem dX4_beginAnew_45 : decode cX4_beginAnew 45 = .ok (.return_, 1) := by decide +kernel
theorem dX4_fail_0 : decode cX4_fail 0 = .ok (.aload_n 0, 1) := by decide +kernel
theorem dX4_fail_1 : decode cX4_fail 1 = .ok (.getfield 50, 3) := by decide +kernel
theorem dX4_fail_4 : decode cX4_fail 4 = .ok (.ifCond .le 11, 3) := by decide +kernel
theorem dX4_fail_7 : decode cX4_fail 7 = .ok (.aload_n 0, 1) := by decide +kernel
theorem dX4_fail_8 : decode cX4_fail 8 = .ok (.getfield 50, 3) := by decide +kernel
theorem dX4_fail_11 : decode cX4_fail 11 = .ok (.iconst 4, 1) := by decide +kernel
theorem dX4_fail_12 : decode cX4_fail 12 = .ok (.if_icmp .le 17, 3) := by decide +kernel
theorem dX4_fail_15 : decode cX4_fail 15 = .ok (.aload_n 0, 1) := by decide +kernel
theorem dX4_fail_16 : decode cX4_fail 16 = .ok (.iload_n 1, 1) := by decide +kernel
theorem dX4_fail_17 : decode cX4_fail 17 = .ok (.putfield 60, 3) := by decide +kernel
theorem dX4_fail_20 : decode cX4_fail 20 = .ok (.aload_n 0, 1) := by decide +kernel
theorem dX4_fail_21 : decode cX4_fail 21 = .ok (.getfield 33, 3) := by decide +kernel
theorem dX4_fail_24 : decode cX4_fail 24 = .ok (.iconst 0, 1) := by decide +kernel
theorem dX4_fail_25 : decode cX4_fail 25 = .ok (.putfield 53, 3) := by decide +kernel
theorem dX4_fail_28 : decode cX4_fail 28 = .ok (.return_, 1) := by decide +kernel
theorem dX4_fail_29 : decode cX4_fail 29 = .ok (.aload_n 0, 1) := by decide +kernel
theorem dX4_fail_30 : decode cX4_fail 30 = .ok (.dup, 1) := by decide +kernel
theorem dX4_fail_31 : decode cX4_fail 31 = .ok (.getfield 50, 3) := by decide +kernel
theorem dX4_fail_34 : decode cX4_fail 34 = .ok (.iconst 1, 1) := by decide +kernel
theorem dX4_fail_35 : decode cX4_fail 35 = .ok (.isub, 1) := by decide +kernel
theorem dX4_fail_36 : decode cX4_fail 36 = .ok (.putfield 50, 3) := by decide +kernel
theorem dX4_fail_39 : decode cX4_fail 39 = .ok (.aload_n 0, 1) := by decide +kernel
theorem dX4_fail_40 : decode cX4_fail 40 = .ok (.getfield 50, 3) := by decide +kernel
theorem dX4_fail_43 : decode cX4_fail 43 = .ok (.aload_n 0, 1) := by decide +kernel
theorem dX4_fail_44 : decode cX4_fail 44 = .ok (.getfield 33, 3) := by decide +kernel
theorem dX4_fail_47 : decode cX4_fail 47 = .ok (.getfield 98, 3) := by decide +kernel
theorem dX4_fail_50 : decode cX4_fail 50 = .ok (.if_icmp .ge 11, 3) := by decide +kernel
theorem dX4_fail_53 : decode cX4_fail 53 = .ok (.aload_n 0, 1) := by decide +kernel
theorem dX4_fail_54 : decode cX4_fail 54 = .ok (.getfield 33, 3) := by decide +kernel
theorem dX4_fail_57 : decode cX4_fail 57 = .ok (.iconst 0, 1) := by decide +kernel
theorem dX4_fail_58 : decode cX4_fail 58 = .ok (.putfield 53, 3) := by decide +kernel
theorem dX4_fail_61 : decode cX4_fail 61 = .ok (.aload_n 0, 1) := by decide +kernel
theorem dX4_fail_62 : decode cX4_fail 62 = .ok (.iconst 0, 1) := by decide +kernel
theorem dX4_fail_63 : decode cX4_fail 63 = .ok (.iload_n 1, 1) := by decide +kernel
theorem dX4_fail_64 : decode cX4_fail 64 = .ok (.invokevirtual 73, 3) := by decide +kernel
theorem dX4_fail_67 : decode cX4_fail 67 = .ok (.aload_n 0, 1) := by decide +kernel
theorem dX4_fail_68 : decode cX4_fail 68 = .ok (.aload_n 0, 1) := by decide +kernel
theorem dX4_fail_69 : decode cX4_fail 69 = .ok (.getfield 27, 3) := by decide +kernel
theorem dX4_fail_72 : decode cX4_fail 72 = .ok (.aload_n 0, 1) := by decide +kernel
theorem dX4_fail_73 : decode cX4_fail 73 = .ok (.getfield 50, 3) := by decide +kernel
theorem dX4_fail_76 : decode cX4_fail 76 = .ok (.iaload, 1) := by decide +kernel
theorem dX4_fail_77 : decode cX4_fail 77 = .ok (.putfield 57, 3) := by decide +kernel
theorem dX4_fail_80 : decode cX4_fail 80 = .ok (.return_, 1) := by decide +kernel
theorem dX5_init_0 : decode cX5_init 0 = .ok (.aload_n 0, 1) := by decide +kernel
theorem dX5_init_1 : decode cX5_init 1 = .ok (.invokespecial 1, 3) := by decide +kernel
theorem dX5_init_4 : decode cX5_init 4 = .ok (.aload_n 0, 1) := by decide +kernel
theorem dX5_init_5 : decode cX5_init 5 = .ok (.new 7, 3) := by decide +kernel
theorem dX5_init_8 : decode cX5_init 8 = .ok (.dup, 1) := by decide +kernel
theorem dX5_init_9 : decode cX5_init 9 = .ok (.invokespecial 9, 3) := by decide +kernel
theorem dX5_init_12 : decode cX5_init 12 = .ok (.putfield 10, 3) := by decide +kernel
theorem dX5_init_15 : decode cX5_init 15 = .ok (.aload_n 0, 1) := by decide +kernel
theorem dX5_init_16 : decode cX5_init 16 = .ok (.new 16, 3) := by decide +kernel
theorem dX5_init_19 : decode cX5_init 19 = .ok (.dup, 1) := by decide +kernel
theorem dX5_init_20 : decode cX5_init 20 = .ok (.invokespecial 18, 3) := by decide +kernel
theorem dX5_init_23 : decode cX5_init 23 = .ok (.putfield 19, 3) := by decide +kernel
theorem dX5_init_26 : decode cX5_init 26 = .ok (.aload_n 0, 1) := by decide +kernel
theorem dX5_init_27 : decode cX5_init 27 = .ok (.iconst 3, 1) := by decide +kernel
theorem dX5_init_28 : decode cX5_init 28 = .ok (.anewarray 23, 3) := by decide +kernel
theorem dX5_init_31 : decode cX5_init 31 = .ok (.putfield 25, 3) := by decide +kernel
theorem dX5_init_34 : decode cX5_init 34 = .ok (.iconst 0, 1) := by decide +kernel
theorem dX5_init_35 : decode cX5_init 35 = .ok (.istore_n 1, 1) := by decide +kernel
theorem dX5_init_36 : decode cX5_init 36 = .ok (.iload_n 1, 1) := by decide +kernel
theorem dX5_init_37 : decode cX5_init 37 = .ok (.aload_n 0, 1) := by decide +kernel
theorem dX5_init_38 : decode cX5_init 38 = .ok (.getfield 25, 3) := by decide +kernel
theorem dX5_init_41 : decode cX5_init 41 = .ok (.arraylength, 1) := by decide +kernel
theorem dX5_init_42 : decode cX5_init 42 = .ok (.if_icmp .ge 23, 3) := by decide +kernel
theorem dX5_init_45 : decode cX5_init 45 = .ok (.aload_n 0, 1) := by decide +kernel
theorem dX5_init_46 : decode cX5_init 46 = .ok (.getfield 25, 3) := by decide +kernel
theorem dX5_init_49 : decode cX5_init 49 = .ok (.iload_n 1, 1) := by decide +kernel
theorem dX5_init_50 : decode cX5_init 50 = .ok (.new 23, 3) := by decide +kernel
theorem dX5_init_53 : decode cX5_init 53 = .ok (.dup, 1) := by decide +kernel
theorem dX5_init_54 : decode cX5_init 54 = .ok (.iload_n 1, 1) := by decide +kernel
theorem dX5_init_55 : decode cX5_init 55 = .ok (.invokespecial 29, 3) := by decide +kernel
theorem dX5_init_58 : decode cX5_init 58 = .ok (.aastore, 1) := by decide +kernel
theorem dX5_init_59 : decode cX5_init 59 = .ok (.iinc 1 1, 3) := by decide +kernel
theorem dX5_init_62 : decode cX5_init 62 = .ok (.goto (-26), 3) := by decide +kernel
theorem dX5_init_65 : decode cX5_init 65 = .ok (.return_, 1) := by decide +kernel
theorem dX5_act_0 : decode cX5_act 0 = .ok (.aload_n 0, 1) := by decide +kernel
theorem dX5_act_1 : decode cX5_act 1 = .ok (.iload_n 1, 1) := by decide +kernel
theorem dX5_act_2 : decode cX5_act 2 = .ok (.invokevirtual 32, 3) := by decide +kernel
theorem dX5_act_5 : decode cX5_act 5 = .ok (.astore 6, 2) := by decide +kernel
theorem dX5_act_7 : decode cX5_act 7 = .ok (.aload 6, 2) := by decide +kernel
theorem dX5_act_9 : decode cX5_act 9 = .ok (.ifnull 15, 3) := by decide +kernel
theorem dX5_act_12 : decode cX5_act 12 = .ok (.iload_n 2, 1) := by decide +kernel
theorem dX5_act_13 : decode cX5_act 13 = .ok (.iload_n 3, 1) := by decide +kernel
theorem dX5_act_14 : decode cX5_act 14 = .ok (.iload 4, 2) := by decide +kernel
theorem dX5_act_16 : decode cX5_act 16 = .ok (.iload 5, 2) := by decide +kernel
theorem dX5_act_18 : decode cX5_act 18 = .ok (.invokestatic 36, 3) := by decide +kernel
theorem dX5_act_21 : decode cX5_act 21 = .ok (.ifCond .ne 6, 3) := by decide +kernel
theorem dX5_act_24 : decode cX5_act 24 = .ok (.bipush (-2), 2) := by decide +kernel
theorem dX5_act_26 : decode cX5_act 26 = .ok (.ireturn, 1) := by decide +kernel
theorem dX5_act_27 : decode cX5_act 27 = .ok (.aload 6, 2) := by decide +kernel
theorem dX5_act_29 : decode cX5_act 29 = .ok (.getfield 40, 3) := by decide +kernel
theorem dX5_act_32 : decode cX5_act 32 = .ok (.ifCond .le 6, 3) := by decide +kernel
theorem dX5_act_35 : decode cX5_act 35 = .ok (.bipush (-3), 2) := by decide +kernel
theorem dX5_act_37 : decode cX5_act 37 = .ok (.ireturn, 1) := by decide +kernel
theorem dX5_act_38 : decode cX5_act 38 = .ok (.aload 6, 2) := by decide +kernel
theorem dX5_act_40 : decode cX5_act 40 = .ok (.iload_n 2, 1) := by decide +kernel
theorem dX5_act_41 : decode cX5_act 41 = .ok (.iload_n 3, 1) := by decide +kernel
theorem dX5_act_42 : decode cX5_act 42 = .ok (.iload 4, 2) := by decide +kernel
theorem dX5_act_44 : decode cX5_act 44 = .ok (.iload 5, 2) := by decide +kernel
theorem dX5_act_46 : decode cX5_act 46 = .ok (.invokevirtual 44, 3) := by decide +kernel
theorem dX5_act_49 : decode cX5_act 49 = .ok (.ifCond .eq 11, 3) := by decide +kernel
theorem dX5_act_52 : decode cX5_act 52 = .ok (.aload 6, 2) := by decide +kernel
theorem dX5_act_54 : decode cX5_act 54 = .ok (.getfield 47, 3) := by decide +kernel
theorem dX5_act_57 : decode cX5_act 57 = .ok (.goto 5, 3) := by decide +kernel
theorem dX5_act_60 : decode cX5_act 60 = .ok (.bipush (-4), 2) := by decide +kernel
theorem dX5_act_62 : decode cX5_act 62 = .ok (.ireturn, 1) := by decide +kernel
theorem dX5_turn_0 : decode cX5_turn 0 = .ok (.aload_n 0, 1) := by decide +kernel
theorem dX5_turn_1 : decode cX5_turn 1 = .ok (.iload_n 1, 1) := by decide +kernel
theorem dX5_turn_2 : decode cX5_turn 2 = .ok (.invokevirtual 32, 3) := by decide +kernel
theorem dX5_turn_5 : decode cX5_turn 5 = .ok (.astore_n 2, 1) := by decide +kernel
theorem dX5_turn_6 : decode cX5_turn 6 = .ok (.aload_n 2, 1) := by decide +kernel
theorem dX5_turn_7 : decode cX5_turn 7 = .ok (.ifnonnull 6, 3) := by decide +kernel
theorem dX5_turn_10 : decode cX5_turn 10 = .ok (.bipush (-2), 2) := by decide +kernel
theorem dX5_turn_12 : decode cX5_turn 12 = .ok (.ireturn, 1) := by decide +kernel
theorem dX5_turn_13 : decode cX5_turn 13 = .ok (.aload_n 2, 1) := by decide +kernel
theorem dX5_turn_14 : decode cX5_turn 14 = .ok (.invokevirtual 50, 3) := by decide +kernel
theorem dX5_turn_17 : decode cX5_turn 17 = .ok (.ifCond .ne 13, 3) := by decide +kernel
theorem dX5_turn_20 : decode cX5_turn 20 = .ok (.aload_n 0, 1) := by decide +kernel
theorem dX5_turn_21 : decode cX5_turn 21 = .ok (.getfield 54, 3) := by decide +kernel
theorem dX5_turn_24 : decode cX5_turn 24 = .ok (.sipush 5000, 3) := by decide +kernel
theorem dX5_turn_27 : decode cX5_turn 27 = .ok (.if_icmp .lt 6, 3) := by decide +kernel
theorem dX5_turn_30 : decode cX5_turn 30 = .ok (.bipush (-3), 2) := by decide +kernel
theorem dX5_turn_32 : decode cX5_turn 32 = .ok (.ireturn, 1) := by decide +kernel
theorem dX5_turn_33 : decode cX5_turn 33 = .ok (.aload_n 0, 1) := by decide +kernel
theorem dX5_turn_34 : decode cX5_turn 34 = .ok (.aload_n 2, 1) := by decide +kernel
theorem dX5_turn_35 : decode cX5_turn 35 = .ok (.invokevirtual 57, 3) := by decide +kernel
theorem dX5_turn_38 : decode cX5_turn 38 = .ok (.aload_n 2, 1) := by decide +kernel
theorem dX5_turn_39 : decode cX5_turn 39 = .ok (.invokevirtual 50, 3) := by decide +kernel
theorem dX5_turn_42 : decode cX5_turn 42 = .ok (.ireturn, 1) := by decide +kernel
theorem dX5_play_0 : decode cX5_play 0 = .ok (.iload_n 2, 1) := by decide +kernel
theorem dX5_play_1 : decode cX5_play 1 = .ok (.iconst 1, 1) := by decide +kernel
theorem dX5_play_2 : decode cX5_play 2 = .ok (.if_icmp .lt 9, 3) := by decide +kernel
theorem dX5_play_5 : decode cX5_play 5 = .ok (.iload_n 2, 1) := by decide +kernel
theorem dX5_play_6 : decode cX5_play 6 = .ok (.bipush 100, 2) := by decide +kernel
theorem dX5_play_8 : decode cX5_play 8 = .ok (.if_icmp .le 6, 3) := by decide +kernel
theorem dX5_play_11 : decode cX5_play 11 = .ok (.bipush (-2), 2) := by decide +kernel
theorem dX5_play_13 : decode cX5_play 13 = .ok (.ireturn, 1) := by decide +kernel
theorem dX5_play_14 : decode cX5_play 14 = .ok (.iload_n 1, 1) := by decide +kernel
theorem dX5_play_15 : decode cX5_play 15 = .ok (.istore_n 3, 1) := by decide +kernel
theorem dX5_play_16 : decode cX5_play 16 = .ok (.iconst 0, 1) := by decide +kernel
theorem dX5_play_17 : decode cX5_play 17 = .ok (.istore 4, 2) := by decide +kernel
theorem dX5_play_19 : decode cX5_play 19 = .ok (.iload 4, 2) := by decide +kernel
theorem dX5_play_21 : decode cX5_play 21 = .ok (.iload_n 2, 1) := by decide +kernel
theorem dX5_play_22 : decode cX5_play 22 = .ok (.if_icmp .ge 53, 3) := by decide +kernel
theorem dX5_play_25 : decode cX5_play 25 = .ok (.iload_n 3, 1) := by decide +kernel
theorem dX5_play_26 : decode cX5_play 26 = .ok (.ldc 61, 2) := by decide +kernel
theorem dX5_play_28 : decode cX5_play 28 = .ok (.imul, 1) := by decide +kernel
theorem dX5_play_29 : decode cX5_play 29 = .ok (.sipush 12345, 3) := by decide +kernel
theorem dX5_play_32 : decode cX5_play 32 = .ok (.iadd, 1) := by decide +kernel
theorem dX5_play_33 : decode cX5_play 33 = .ok (.istore_n 3, 1) := by decide +kernel
theorem dX5_play_34 : decode cX5_play 34 = .ok (.aload_n 0, 1) := by decide +kernel
theorem dX5_play_35 : decode cX5_play 35 = .ok (.getfield 54, 3) := by decide +kernel
theorem dX5_play_38 : decode cX5_play 38 = .ok (.sipush 5000, 3) := by decide +kernel
theorem dX5_play_41 : decode cX5_play 41 = .ok (.if_icmp .lt 7, 3) := by decide +kernel
theorem dX5_play_44 : decode cX5_play 44 = .ok (.aconst_null, 1) := by decide +kernel
theorem dX5_play_45 : decode cX5_play 45 = .ok (.goto 8, 3) := by decide +kernel
theorem dX5_play_48 : decode cX5_play 48 = .ok (.aload_n 0, 1) := by decide +kernel
theorem dX5_play_49 : decode cX5_play 49 = .ok (.iload_n 3, 1) := by decide +kernel
theorem dX5_play_50 : decode cX5_play 50 = .ok (.invokevirtual 62, 3) := by decide +kernel
theorem dX5_play_53 : decode cX5_play 53 = .ok (.astore 5, 2) := by decide +kernel
theorem dX5_play_55 : decode cX5_play 55 = .ok (.aload 5, 2) := by decide +kernel
theorem dX5_play_57 : decode cX5_play 57 = .ok (.ifnonnull 6, 3) := by decide +kernel
theorem dX5_play_60 : decode cX5_play 60 = .ok (.iload 4, 2) := by decide +kernel
theorem dX5_play_62 : decode cX5_play 62 = .ok (.ireturn, 1) := by decide +kernel
theorem dX5_play_63 : decode cX5_play 63 = .ok (.aload_n 0, 1) := by decide +kernel
theorem dX5_play_64 : decode cX5_play 64 = .ok (.aload 5, 2) := by decide +kernel
theorem dX5_play_66 : decode cX5_play 66 = .ok (.invokevirtual 57, 3) := by decide +kernel
theorem dX5_play_69 : decode cX5_play 69 = .ok (.iinc 4 1, 3) := by decide +kernel
theorem dX5_play_72 : decode cX5_play 72 = .ok (.goto (-53), 3) := by decide +kernel
theorem dX5_play_75 : decode cX5_play 75 = .ok (.iload_n 2, 1) := by decide +kernel
theorem dX5_play_76 : decode cX5_play 76 = .ok (.ireturn, 1) := by decide +kernel
theorem dX5_told_0 : decode cX5_told 0 = .ok (.aload_n 0, 1) := by decide +kernel
theorem dX5_told_1 : decode cX5_told 1 = .ok (.iload_n 1, 1) := by decide +kernel
theorem dX5_told_2 : decode cX5_told 2 = .ok (.invokevirtual 32, 3) := by decide +kernel
theorem dX5_told_5 : decode cX5_told 5 = .ok (.astore_n 3, 1) := by decide +kernel
theorem dX5_told_6 : decode cX5_told 6 = .ok (.aload_n 3, 1) := by decide +kernel
theorem dX5_told_7 : decode cX5_told 7 = .ok (.ifnonnull 6, 3) := by decide +kernel
theorem dX5_told_10 : decode cX5_told 10 = .ok (.bipush (-2), 2) := by decide +kernel
theorem dX5_told_12 : decode cX5_told 12 = .ok (.ireturn, 1) := by decide +kernel
theorem dX5_told_13 : decode cX5_told 13 = .ok (.iload_n 2, 1) := by decide +kernel
theorem dX5_told_14 : decode cX5_told 14 = .ok (.tableswitch 88 0 6 #[42, 47, 52, 57, 62, 78, 83], 42) := by decide +kernel
theorem dX5_told_56 : decode cX5_told 56 = .ok (.aload_n 3, 1) := by decide +kernel
theorem dX5_told_57 : decode cX5_told 57 = .ok (.invokevirtual 50, 3) := by decide +kernel
theorem dX5_told_60 : decode cX5_told 60 = .ok (.ireturn, 1) := by decide +kernel
theorem dX5_told_61 : decode cX5_told 61 = .ok (.aload_n 3, 1) := by decide +kernel
theorem dX5_told_62 : decode cX5_told 62 = .ok (.getfield 65, 3) := by decide +kernel
theorem dX5_told_65 : decode cX5_told 65 = .ok (.ireturn, 1) := by decide +kernel
theorem dX5_told_66 : decode cX5_told 66 = .ok (.aload_n 3, 1) := by decide +kernel
theorem dX5_told_67 : decode cX5_told 67 = .ok (.getfield 68, 3) := by decide +kernel
theorem dX5_told_70 : decode cX5_told 70 = .ok (.ireturn, 1) := by decide +kernel
theorem dX5_told_71 : decode cX5_told 71 = .ok (.aload_n 3, 1) := by decide +kernel
theorem dX5_told_72 : decode cX5_told 72 = .ok (.getfield 71, 3) := by decide +kernel
theorem dX5_told_75 : decode cX5_told 75 = .ok (.ireturn, 1) := by decide +kernel
theorem dX5_told_76 : decode cX5_told 76 = .ok (.aload_n 3, 1) := by decide +kernel
theorem dX5_told_77 : decode cX5_told 77 = .ok (.getfield 74, 3) := by decide +kernel
theorem dX5_told_80 : decode cX5_told 80 = .ok (.getfield 78, 3) := by decide +kernel
theorem dX5_told_83 : decode cX5_told 83 = .ok (.ifCond .eq 7, 3) := by decide +kernel
theorem dX5_told_86 : decode cX5_told 86 = .ok (.iconst 1, 1) := by decide +kernel
theorem dX5_told_87 : decode cX5_told 87 = .ok (.goto 4, 3) := by decide +kernel
theorem dX5_told_90 : decode cX5_told 90 = .ok (.iconst 0, 1) := by decide +kernel
theorem dX5_told_91 : decode cX5_told 91 = .ok (.ireturn, 1) := by decide +kernel
theorem dX5_told_92 : decode cX5_told 92 = .ok (.aload_n 3, 1) := by decide +kernel
theorem dX5_told_93 : decode cX5_told 93 = .ok (.getfield 40, 3) := by decide +kernel
theorem dX5_told_96 : decode cX5_told 96 = .ok (.ireturn, 1) := by decide +kernel
theorem dX5_told_97 : decode cX5_told 97 = .ok (.aload_n 3, 1) := by decide +kernel
theorem dX5_told_98 : decode cX5_told 98 = .ok (.getfield 84, 3) := by decide +kernel
theorem dX5_told_101 : decode cX5_told 101 = .ok (.ireturn, 1) := by decide +kernel
theorem dX5_told_102 : decode cX5_told 102 = .ok (.bipush (-2), 2) := by decide +kernel
theorem dX5_told_104 : decode cX5_told 104 = .ok (.ireturn, 1) := by decide +kernel
theorem dX5_register_0 : decode cX5_register 0 = .ok (.aload_n 0, 1) := by decide +kernel
theorem dX5_register_1 : decode cX5_register 1 = .ok (.iload_n 1, 1) := by decide +kernel
theorem dX5_register_2 : decode cX5_register 2 = .ok (.invokevirtual 32, 3) := by decide +kernel
theorem dX5_register_5 : decode cX5_register 5 = .ok (.astore_n 3, 1) := by decide +kernel
theorem dX5_register_6 : decode cX5_register 6 = .ok (.aload_n 3, 1) := by decide +kernel
theorem dX5_register_7 : decode cX5_register 7 = .ok (.ifnull 10, 3) := by decide +kernel
theorem dX5_register_10 : decode cX5_register 10 = .ok (.iload_n 2, 1) := by decide +kernel
theorem dX5_register_11 : decode cX5_register 11 = .ok (.invokestatic 87, 3) := by decide +kernel
theorem dX5_register_14 : decode cX5_register 14 = .ok (.ifCond .ne 8, 3) := by decide +kernel
theorem dX5_register_17 : decode cX5_register 17 = .ok (.bipush (-2), 2) := by decide +kernel
theorem dX5_register_19 : decode cX5_register 19 = .ok (.goto 8, 3) := by decide +kernel
theorem dX5_register_22 : decode cX5_register 22 = .ok (.aload_n 3, 1) := by decide +kernel
theorem dX5_register_23 : decode cX5_register 23 = .ok (.iload_n 2, 1) := by decide +kernel
theorem dX5_register_24 : decode cX5_register 24 = .ok (.invokevirtual 91, 3) := by decide +kernel
theorem dX5_register_27 : decode cX5_register 27 = .ok (.ireturn, 1) := by decide +kernel
theorem dX5_cell_0 : decode cX5_cell 0 = .ok (.iload_n 1, 1) := by decide +kernel
theorem dX5_cell_1 : decode cX5_cell 1 = .ok (.invokestatic 95, 3) := by decide +kernel
theorem dX5_cell_4 : decode cX5_cell 4 = .ok (.ifCond .eq 14, 3) := by decide +kernel
theorem dX5_cell_7 : decode cX5_cell 7 = .ok (.aload_n 0, 1) := by decide +kernel
theorem dX5_cell_8 : decode cX5_cell 8 = .ok (.getfield 10, 3) := by decide +kernel
theorem dX5_cell_11 : decode cX5_cell 11 = .ok (.iload_n 1, 1) := by decide +kernel
theorem dX5_cell_12 : decode cX5_cell 12 = .ok (.invokevirtual 98, 3) := by decide +kernel
theorem dX5_cell_15 : decode cX5_cell 15 = .ok (.goto 5, 3) := by decide +kernel
theorem dX5_cell_18 : decode cX5_cell 18 = .ok (.bipush (-2), 2) := by decide +kernel
theorem dX5_cell_20 : decode cX5_cell 20 = .ok (.ireturn, 1) := by decide +kernel
theorem dX5_lazy_0 : decode cX5_lazy 0 = .ok (.iload_n 1, 1) := by decide +kernel
theorem dX5_lazy_1 : decode cX5_lazy 1 = .ok (.invokestatic 95, 3) := by decide +kernel
theorem dX5_lazy_4 : decode cX5_lazy 4 = .ok (.ifCond .ne 6, 3) := by decide +kernel
theorem dX5_lazy_7 : decode cX5_lazy 7 = .ok (.bipush (-2), 2) := by decide +kernel
theorem dX5_lazy_9 : decode cX5_lazy 9 = .ok (.ireturn, 1) := by decide +kernel
theorem dX5_lazy_10 : decode cX5_lazy 10 = .ok (.aload_n 0, 1) := by decide +kernel
theorem dX5_lazy_11 : decode cX5_lazy 11 = .ok (.getfield 10, 3) := by decide +kernel
theorem dX5_lazy_14 : decode cX5_lazy 14 = .ok (.iload_n 1, 1) := by decide +kernel
theorem dX5_lazy_15 : decode cX5_lazy 15 = .ok (.invokevirtual 101, 3) := by decide +kernel
theorem dX5_lazy_18 : decode cX5_lazy 18 = .ok (.ifCond .eq 7, 3) := by decide +kernel
theorem dX5_lazy_21 : decode cX5_lazy 21 = .ok (.iconst 1, 1) := by decide +kernel
theorem dX5_lazy_22 : decode cX5_lazy 22 = .ok (.goto 4, 3) := by decide +kernel
theorem dX5_lazy_25 : decode cX5_lazy 25 = .ok (.iconst 0, 1) := by decide +kernel
theorem dX5_lazy_26 : decode cX5_lazy 26 = .ok (.ireturn, 1) := by decide +kernel
theorem dX5_size_0 : decode cX5_size 0 = .ok (.iload_n 1, 1) := by decide +kernel
theorem dX5_size_1 : decode cX5_size 1 = .ok (.invokestatic 104, 3) := by decide +kernel
theorem dX5_size_4 : decode cX5_size 4 = .ok (.ifCond .eq 14, 3) := by decide +kernel
theorem dX5_size_7 : decode cX5_size 7 = .ok (.aload_n 0, 1) := by decide +kernel
theorem dX5_size_8 : decode cX5_size 8 = .ok (.getfield 19, 3) := by decide +kernel
theorem dX5_size_11 : decode cX5_size 11 = .ok (.iload_n 1, 1) := by decide +kernel
theorem dX5_size_12 : decode cX5_size 12 = .ok (.invokevirtual 107, 3) := by decide +kernel
theorem dX5_size_15 : decode cX5_size 15 = .ok (.goto 5, 3) := by decide +kernel
theorem dX5_size_18 : decode cX5_size 18 = .ok (.bipush (-2), 2) := by decide +kernel
theorem dX5_size_20 : decode cX5_size 20 = .ok (.ireturn, 1) := by decide +kernel
theorem dX5_item_0 : decode cX5_item 0 = .ok (.iload_n 1, 1) := by decide +kernel
theorem dX5_item_1 : decode cX5_item 1 = .ok (.invokestatic 104, 3) := by decide +kernel
theorem dX5_item_4 : decode cX5_item 4 = .ok (.ifCond .eq 15, 3) := by decide +kernel
theorem dX5_item_7 : decode cX5_item 7 = .ok (.aload_n 0, 1) := by decide +kernel
theorem dX5_item_8 : decode cX5_item 8 = .ok (.getfield 19, 3) := by decide +kernel
theorem dX5_item_11 : decode cX5_item 11 = .ok (.iload_n 1, 1) := by decide +kernel
theorem dX5_item_12 : decode cX5_item 12 = .ok (.iload_n 2, 1) := by decide +kernel
theorem dX5_item_13 : decode cX5_item 13 = .ok (.invokevirtual 110, 3) := by decide +kernel
theorem dX5_item_16 : decode cX5_item 16 = .ok (.goto 5, 3) := by decide +kernel
theorem dX5_item_19 : decode cX5_item 19 = .ok (.bipush (-2), 2) := by decide +kernel
theorem dX5_item_21 : decode cX5_item 21 = .ok (.ireturn, 1) := by decide +kernel
theorem dX5_frozen_0 : decode cX5_frozen 0 = .ok (.iload_n 1, 1) := by decide +kernel
theorem dX5_frozen_1 : decode cX5_frozen 1 = .ok (.invokestatic 104, 3) := by decide +kernel
theorem dX5_frozen_4 : decode cX5_frozen 4 = .ok (.ifCond .ne 6, 3) := by decide +kernel
theorem dX5_frozen_7 : decode cX5_frozen 7 = .ok (.bipush (-2), 2) := by decide +kernel
theorem dX5_frozen_9 : decode cX5_frozen 9 = .ok (.ireturn, 1) := by decide +kernel
theorem dX5_frozen_10 : decode cX5_frozen 10 = .ok (.aload_n 0, 1) := by decide +kernel
theorem dX5_frozen_11 : decode cX5_frozen 11 = .ok (.getfield 19, 3) := by decide +kernel
theorem dX5_frozen_14 : decode cX5_frozen 14 = .ok (.iload_n 1, 1) := by decide +kernel
theorem dX5_frozen_15 : decode cX5_frozen 15 = .ok (.invokevirtual 114, 3) := by decide +kernel
theorem dX5_frozen_18 : decode cX5_frozen 18 = .ok (.ifCond .eq 7, 3) := by decide +kernel
theorem dX5_frozen_21 : decode cX5_frozen 21 = .ok (.iconst 1, 1) := by decide +kernel
theorem dX5_frozen_22 : decode cX5_frozen 22 = .ok (.goto 4, 3) := by decide +kernel
theorem dX5_frozen_25 : decode cX5_frozen 25 = .ok (.iconst 0, 1) := by decide +kernel
theorem dX5_frozen_26 : decode cX5_frozen 26 = .ok (.ireturn, 1) := by decide +kernel
theorem dX5_put_0 : decode cX5_put 0 = .ok (.iload_n 1, 1) := by decide +kernel
theorem dX5_put_1 : decode cX5_put 1 = .ok (.invokestatic 95, 3) := by decide +kernel
theorem dX5_put_4 : decode cX5_put 4 = .ok (.ifCond .ne 6, 3) := by decide +kernel
theorem dX5_put_7 : decode cX5_put 7 = .ok (.bipush (-2), 2) := by decide +kernel
theorem dX5_put_9 : decode cX5_put 9 = .ok (.ireturn, 1) := by decide +kernel
theorem dX5_put_10 : decode cX5_put 10 = .ok (.aload_n 0, 1) := by decide +kernel
theorem dX5_put_11 : decode cX5_put 11 = .ok (.getfield 10, 3) := by decide +kernel
theorem dX5_put_14 : decode cX5_put 14 = .ok (.iload_n 1, 1) := by decide +kernel
theorem dX5_put_15 : decode cX5_put 15 = .ok (.invokevirtual 98, 3) := by decide +kernel
theorem dX5_put_18 : decode cX5_put 18 = .ok (.istore_n 3, 1) := by decide +kernel
theorem dX5_put_19 : decode cX5_put 19 = .ok (.aload_n 0, 1) := by decide +kernel
theorem dX5_put_20 : decode cX5_put 20 = .ok (.getfield 10, 3) := by decide +kernel
theorem dX5_put_23 : decode cX5_put 23 = .ok (.iload_n 1, 1) := by decide +kernel
theorem dX5_put_24 : decode cX5_put 24 = .ok (.iload_n 2, 1) := by decide +kernel
theorem dX5_put_25 : decode cX5_put 25 = .ok (.invokevirtual 117, 3) := by decide +kernel
theorem dX5_put_28 : decode cX5_put 28 = .ok (.iload_n 3, 1) := by decide +kernel
theorem dX5_put_29 : decode cX5_put 29 = .ok (.ireturn, 1) := by decide +kernel
theorem dX5_writes_0 : decode cX5_writes 0 = .ok (.aload_n 0, 1) := by decide +kernel
theorem dX5_writes_1 : decode cX5_writes 1 = .ok (.getfield 10, 3) := by decide +kernel
theorem dX5_writes_4 : decode cX5_writes 4 = .ok (.getfield 121, 3) := by decide +kernel
theorem dX5_writes_7 : decode cX5_writes 7 = .ok (.getfield 125, 3) := by decide +kernel
theorem dX5_writes_10 : decode cX5_writes 10 = .ok (.ireturn, 1) := by decide +kernel
theorem dX5_write_0 : decode cX5_write 0 = .ok (.iload_n 2, 1) := by decide +kernel
theorem dX5_write_1 : decode cX5_write 1 = .ok (.ifCond .lt 8, 3) := by decide +kernel
theorem dX5_write_4 : decode cX5_write 4 = .ok (.iload_n 2, 1) := by decide +kernel
theorem dX5_write_5 : decode cX5_write 5 = .ok (.iconst 2, 1) := by decide +kernel
theorem dX5_write_6 : decode cX5_write 6 = .ok (.if_icmp .le 8, 3) := by decide +kernel
theorem dX5_write_9 : decode cX5_write 9 = .ok (.bipush (-2), 2) := by decide +kernel
theorem dX5_write_11 : decode cX5_write 11 = .ok (.goto 15, 3) := by decide +kernel
theorem dX5_write_14 : decode cX5_write 14 = .ok (.aload_n 0, 1) := by decide +kernel
theorem dX5_write_15 : decode cX5_write 15 = .ok (.getfield 10, 3) := by decide +kernel
theorem dX5_write_18 : decode cX5_write 18 = .ok (.getfield 121, 3) := by decide +kernel
theorem dX5_write_21 : decode cX5_write 21 = .ok (.iload_n 1, 1) := by decide +kernel
theorem dX5_write_22 : decode cX5_write 22 = .ok (.iload_n 2, 1) := by decide +kernel
theorem dX5_write_23 : decode cX5_write 23 = .ok (.invokevirtual 130, 3) := by decide +kernel
theorem dX5_write_26 : decode cX5_write 26 = .ok (.ireturn, 1) := by decide +kernel
theorem dX5_again_0 : decode cX5_again 0 = .ok (.aload_n 0, 1) := by decide +kernel
theorem dX5_again_1 : decode cX5_again 1 = .ok (.iconst 1, 1) := by decide +kernel
theorem dX5_again_2 : decode cX5_again 2 = .ok (.invokevirtual 133, 3) := by decide +kernel
theorem dX5_again_5 : decode cX5_again 5 = .ok (.ireturn, 1) := by decide +kernel
theorem dX5_clear_0 : decode cX5_clear 0 = .ok (.aload_n 0, 1) := by decide +kernel
theorem dX5_clear_1 : decode cX5_clear 1 = .ok (.iconst 0, 1) := by decide +kernel
theorem dX5_clear_2 : decode cX5_clear 2 = .ok (.invokevirtual 133, 3) := by decide +kernel
theorem dX5_clear_5 : decode cX5_clear 5 = .ok (.ireturn, 1) := by decide +kernel
theorem dX5_restart_0 : decode cX5_restart 0 = .ok (.aload_n 0, 1) := by decide +kernel
theorem dX5_restart_1 : decode cX5_restart 1 = .ok (.getfield 137, 3) := by decide +kernel
theorem dX5_restart_4 : decode cX5_restart 4 = .ok (.istore_n 2, 1) := by decide +kernel
theorem dX5_restart_5 : decode cX5_restart 5 = .ok (.aload_n 0, 1) := by decide +kernel
theorem dX5_restart_6 : decode cX5_restart 6 = .ok (.iconst 0, 1) := by decide +kernel
theorem dX5_restart_7 : decode cX5_restart 7 = .ok (.putfield 137, 3) := by decide +kernel
theorem dX5_restart_10 : decode cX5_restart 10 = .ok (.aload_n 0, 1) := by decide +kernel
theorem dX5_restart_11 : decode cX5_restart 11 = .ok (.getfield 10, 3) := by decide +kernel
theorem dX5_restart_14 : decode cX5_restart 14 = .ok (.invokevirtual 140, 3) := by decide +kernel
theorem dX5_restart_17 : decode cX5_restart 17 = .ok (.aload_n 0, 1) := by decide +kernel
theorem dX5_restart_18 : decode cX5_restart 18 = .ok (.getfield 19, 3) := by decide +kernel
theorem dX5_restart_21 : decode cX5_restart 21 = .ok (.invokevirtual 143, 3) := by decide +kernel
theorem dX5_restart_24 : decode cX5_restart 24 = .ok (.iconst 0, 1) := by decide +kernel
theorem dX5_restart_25 : decode cX5_restart 25 = .ok (.istore_n 3, 1) := by decide +kernel
theorem dX5_restart_26 : decode cX5_restart 26 = .ok (.iload_n 3, 1) := by decide +kernel
theorem dX5_restart_27 : decode cX5_restart 27 = .ok (.aload_n 0, 1) := by decide +kernel
theorem dX5_restart_28 : decode cX5_restart 28 = .ok (.getfield 25, 3) := by decide +kernel
theorem dX5_restart_31 : decode cX5_restart 31 = .ok (.arraylength, 1) := by decide +kernel
theorem dX5_restart_32 : decode cX5_restart 32 = .ok (.if_icmp .ge 27, 3) := by decide +kernel
theorem dX5_restart_35 : decode cX5_restart 35 = .ok (.aload_n 0, 1) := by decide +kernel
theorem dX5_restart_36 : decode cX5_restart 36 = .ok (.iload_n 3, 1) := by decide +kernel
theorem dX5_restart_37 : decode cX5_restart 37 = .ok (.invokevirtual 32, 3) := by decide +kernel
theorem dX5_restart_40 : decode cX5_restart 40 = .ok (.astore 4, 2) := by decide +kernel
theorem dX5_restart_42 : decode cX5_restart 42 = .ok (.aload 4, 2) := by decide +kernel
theorem dX5_restart_44 : decode cX5_restart 44 = .ok (.ifnull 9, 3) := by decide +kernel
theorem dX5_restart_47 : decode cX5_restart 47 = .ok (.aload 4, 2) := by decide +kernel
theorem dX5_restart_49 : decode cX5_restart 49 = .ok (.iload_n 1, 1) := by decide +kernel
theorem dX5_restart_50 : decode cX5_restart 50 = .ok (.invokevirtual 144, 3) := by decide +kernel
theorem dX5_restart_53 : decode cX5_restart 53 = .ok (.iinc 3 1, 3) := by decide +kernel
theorem dX5_restart_56 : decode cX5_restart 56 = .ok (.goto (-30), 3) := by decide +kernel
theorem dX5_restart_59 : decode cX5_restart 59 = .ok (.iload_n 2, 1) := by decide +kernel
theorem dX5_restart_60 : decode cX5_restart 60 = .ok (.ireturn, 1) := by decide +kernel
theorem dX5_strandOf_0 : decode cX5_strandOf 0 = .ok (.iload_n 1, 1) := by decide +kernel
theorem dX5_strandOf_1 : decode cX5_strandOf 1 = .ok (.ifCond .lt 21, 3) := by decide +kernel
theorem dX5_strandOf_4 : decode cX5_strandOf 4 = .ok (.iload_n 1, 1) := by decide +kernel
theorem dX5_strandOf_5 : decode cX5_strandOf 5 = .ok (.aload_n 0, 1) := by decide +kernel
theorem dX5_strandOf_6 : decode cX5_strandOf 6 = .ok (.getfield 25, 3) := by decide +kernel
theorem dX5_strandOf_9 : decode cX5_strandOf 9 = .ok (.arraylength, 1) := by decide +kernel
theorem dX5_strandOf_10 : decode cX5_strandOf 10 = .ok (.if_icmp .ge 12, 3) := by decide +kernel
theorem dX5_strandOf_13 : decode cX5_strandOf 13 = .ok (.aload_n 0, 1) := by decide +kernel
theorem dX5_strandOf_14 : decode cX5_strandOf 14 = .ok (.getfield 25, 3) := by decide +kernel
theorem dX5_strandOf_17 : decode cX5_strandOf 17 = .ok (.iload_n 1, 1) := by decide +kernel
theorem dX5_strandOf_18 : decode cX5_strandOf 18 = .ok (.aaload, 1) := by decide +kernel
theorem dX5_strandOf_19 : decode cX5_strandOf 19 = .ok (.goto 4, 3) := by decide +kernel
theorem dX5_strandOf_22 : decode cX5_strandOf 22 = .ok (.aconst_null, 1) := by decide +kernel
theorem dX5_strandOf_23 : decode cX5_strandOf 23 = .ok (.areturn, 1) := by decide +kernel
theorem dX5_isRegister_0 : decode cX5_isRegister 0 = .ok (.iload_n 0, 1) := by decide +kernel
theorem dX5_isRegister_1 : decode cX5_isRegister 1 = .ok (.ifCond .lt 12, 3) := by decide +kernel
theorem dX5_isRegister_4 : decode cX5_isRegister 4 = .ok (.iload_n 0, 1) := by decide +kernel
theorem dX5_isRegister_5 : decode cX5_isRegister 5 = .ok (.iconst 4, 1) := by decide +kernel
theorem dX5_isRegister_6 : decode cX5_isRegister 6 = .ok (.if_icmp .ge 7, 3) := by decide +kernel
theorem dX5_isRegister_9 : decode cX5_isRegister 9 = .ok (.iconst 1, 1) := by decide +kernel
theorem dX5_isRegister_10 : decode cX5_isRegister 10 = .ok (.goto 4, 3) := by decide +kernel
theorem dX5_isRegister_13 : decode cX5_isRegister 13 = .ok (.iconst 0, 1) := by decide +kernel
theorem dX5_isRegister_14 : decode cX5_isRegister 14 = .ok (.ireturn, 1) := by decide +kernel
theorem dX5_isCell_0 : decode cX5_isCell 0 = .ok (.iload_n 0, 1) := by decide +kernel
theorem dX5_isCell_1 : decode cX5_isCell 1 = .ok (.ifCond .lt 13, 3) := by decide +kernel
theorem dX5_isCell_4 : decode cX5_isCell 4 = .ok (.iload_n 0, 1) := by decide +kernel
theorem dX5_isCell_5 : decode cX5_isCell 5 = .ok (.bipush 8, 2) := by decide +kernel
theorem dX5_isCell_7 : decode cX5_isCell 7 = .ok (.if_icmp .ge 7, 3) := by decide +kernel
theorem dX5_isCell_10 : decode cX5_isCell 10 = .ok (.iconst 1, 1) := by decide +kernel
theorem dX5_isCell_11 : decode cX5_isCell 11 = .ok (.goto 4, 3) := by decide +kernel
theorem dX5_isCell_14 : decode cX5_isCell 14 = .ok (.iconst 0, 1) := by decide +kernel
theorem dX5_isCell_15 : decode cX5_isCell 15 = .ok (.ireturn, 1) := by decide +kernel
theorem dX5_isRow_0 : decode cX5_isRow 0 = .ok (.iload_n 0, 1) := by decide +kernel
theorem dX5_isRow_1 : decode cX5_isRow 1 = .ok (.ifCond .lt 12, 3) := by decide +kernel
theorem dX5_isRow_4 : decode cX5_isRow 4 = .ok (.iload_n 0, 1) := by decide +kernel
theorem dX5_isRow_5 : decode cX5_isRow 5 = .ok (.iconst 4, 1) := by decide +kernel
theorem dX5_isRow_6 : decode cX5_isRow 6 = .ok (.if_icmp .ge 7, 3) := by decide +kernel
theorem dX5_isRow_9 : decode cX5_isRow 9 = .ok (.iconst 1, 1) := by decide +kernel
theorem dX5_isRow_10 : decode cX5_isRow 10 = .ok (.goto 4, 3) := by decide +kernel
theorem dX5_isRow_13 : decode cX5_isRow 13 = .ok (.iconst 0, 1) := by decide +kernel
theorem dX5_isRow_14 : decode cX5_isRow 14 = .ok (.ireturn, 1) := by decide +kernel
theorem dX5_isPlace_0 : decode cX5_isPlace 0 = .ok (.iload_n 0, 1) := by decide +kernel
theorem dX5_isPlace_1 : decode cX5_isPlace 1 = .ok (.ifCond .lt 13, 3) := by decide +kernel
theorem dX5_isPlace_4 : decode cX5_isPlace 4 = .ok (.iload_n 0, 1) := by decide +kernel
theorem dX5_isPlace_5 : decode cX5_isPlace 5 = .ok (.bipush 24, 2) := by decide +kernel
theorem dX5_isPlace_7 : decode cX5_isPlace 7 = .ok (.if_icmp .gt 7, 3) := by decide +kernel
theorem dX5_isPlace_10 : decode cX5_isPlace 10 = .ok (.iconst 1, 1) := by decide +kernel
theorem dX5_isPlace_11 : decode cX5_isPlace 11 = .ok (.goto 4, 3) := by decide +kernel
theorem dX5_isPlace_14 : decode cX5_isPlace 14 = .ok (.iconst 0, 1) := by decide +kernel
theorem dX5_isPlace_15 : decode cX5_isPlace 15 = .ok (.ireturn, 1) := by decide +kernel
theorem dX5_mayBe_0 : decode cX5_mayBe 0 = .ok (.iload_n 0, 1) := by decide +kernel
theorem dX5_mayBe_1 : decode cX5_mayBe 1 = .ok (.tableswitch 320 0 19 #[95, 100, 120, 140, 140, 140, 140, 167, 194, 221, 248, 253, 273, 273, 248, 273, 95, 275, 295, 300], 95) := by decide +kernel
theorem dX5_mayBe_96 : decode cX5_mayBe 96 = .ok (.iload_n 1, 1) := by decide +kernel
theorem dX5_mayBe_97 : decode cX5_mayBe 97 = .ok (.invokestatic 87, 3) := by decide +kernel
theorem dX5_mayBe_100 : decode cX5_mayBe 100 = .ok (.ireturn, 1) := by decide +kernel
theorem dX5_mayBe_101 : decode cX5_mayBe 101 = .ok (.iload_n 1, 1) := by decide +kernel
theorem dX5_mayBe_102 : decode cX5_mayBe 102 = .ok (.invokestatic 87, 3) := by decide +kernel
theorem dX5_mayBe_105 : decode cX5_mayBe 105 = .ok (.ifCond .eq 14, 3) := by decide +kernel
theorem dX5_mayBe_108 : decode cX5_mayBe 108 = .ok (.iload_n 2, 1) := by decide +kernel
theorem dX5_mayBe_109 : decode cX5_mayBe 109 = .ok (.invokestatic 95, 3) := by decide +kernel
theorem dX5_mayBe_112 : decode cX5_mayBe 112 = .ok (.ifCond .eq 7, 3) := by decide +kernel
theorem dX5_mayBe_115 : decode cX5_mayBe 115 = .ok (.iconst 1, 1) := by decide +kernel
theorem dX5_mayBe_116 : decode cX5_mayBe 116 = .ok (.goto 4, 3) := by decide +kernel
theorem dX5_mayBe_119 : decode cX5_mayBe 119 = .ok (.iconst 0, 1) := by decide +kernel
theorem dX5_mayBe_120 : decode cX5_mayBe 120 = .ok (.ireturn, 1) := by decide +kernel
theorem dX5_mayBe_121 : decode cX5_mayBe 121 = .ok (.iload_n 1, 1) := by decide +kernel
theorem dX5_mayBe_122 : decode cX5_mayBe 122 = .ok (.invokestatic 95, 3) := by decide +kernel
theorem dX5_mayBe_125 : decode cX5_mayBe 125 = .ok (.ifCond .eq 14, 3) := by decide +kernel
theorem dX5_mayBe_128 : decode cX5_mayBe 128 = .ok (.iload_n 2, 1) := by decide +kernel
theorem dX5_mayBe_129 : decode cX5_mayBe 129 = .ok (.invokestatic 87, 3) := by decide +kernel
theorem dX5_mayBe_132 : decode cX5_mayBe 132 = .ok (.ifCond .eq 7, 3) := by decide +kernel
theorem dX5_mayBe_135 : decode cX5_mayBe 135 = .ok (.iconst 1, 1) := by decide +kernel
theorem dX5_mayBe_136 : decode cX5_mayBe 136 = .ok (.goto 4, 3) := by decide +kernel
theorem dX5_mayBe_139 : decode cX5_mayBe 139 = .ok (.iconst 0, 1) := by decide +kernel
theorem dX5_mayBe_140 : decode cX5_mayBe 140 = .ok (.ireturn, 1) := by decide +kernel
theorem dX5_mayBe_141 : decode cX5_mayBe 141 = .ok (.iload_n 1, 1) := by decide +kernel
theorem dX5_mayBe_142 : decode cX5_mayBe 142 = .ok (.invokestatic 87, 3) := by decide +kernel
theorem dX5_mayBe_145 : decode cX5_mayBe 145 = .ok (.ifCond .eq 21, 3) := by decide +kernel
theorem dX5_mayBe_148 : decode cX5_mayBe 148 = .ok (.iload_n 2, 1) := by decide +kernel
theorem dX5_mayBe_149 : decode cX5_mayBe 149 = .ok (.invokestatic 87, 3) := by decide +kernel
theorem dX5_mayBe_152 : decode cX5_mayBe 152 = .ok (.ifCond .eq 14, 3) := by decide +kernel
theorem dX5_mayBe_155 : decode cX5_mayBe 155 = .ok (.iload_n 3, 1) := by decide +kernel
theorem dX5_mayBe_156 : decode cX5_mayBe 156 = .ok (.invokestatic 87, 3) := by decide +kernel
theorem dX5_mayBe_159 : decode cX5_mayBe 159 = .ok (.ifCond .eq 7, 3) := by decide +kernel
theorem dX5_mayBe_162 : decode cX5_mayBe 162 = .ok (.iconst 1, 1) := by decide +kernel
theorem dX5_mayBe_163 : decode cX5_mayBe 163 = .ok (.goto 4, 3) := by decide +kernel
theorem dX5_mayBe_166 : decode cX5_mayBe 166 = .ok (.iconst 0, 1) := by decide +kernel
theorem dX5_mayBe_167 : decode cX5_mayBe 167 = .ok (.ireturn, 1) := by decide +kernel
theorem dX5_mayBe_168 : decode cX5_mayBe 168 = .ok (.iload_n 1, 1) := by decide +kernel
theorem dX5_mayBe_169 : decode cX5_mayBe 169 = .ok (.invokestatic 87, 3) := by decide +kernel
theorem dX5_mayBe_172 : decode cX5_mayBe 172 = .ok (.ifCond .eq 21, 3) := by decide +kernel
theorem dX5_mayBe_175 : decode cX5_mayBe 175 = .ok (.iload_n 2, 1) := by decide +kernel
theorem dX5_mayBe_176 : decode cX5_mayBe 176 = .ok (.invokestatic 104, 3) := by decide +kernel
theorem dX5_mayBe_179 : decode cX5_mayBe 179 = .ok (.ifCond .eq 14, 3) := by decide +kernel
theorem dX5_mayBe_182 : decode cX5_mayBe 182 = .ok (.iload_n 3, 1) := by decide +kernel
theorem dX5_mayBe_183 : decode cX5_mayBe 183 = .ok (.invokestatic 87, 3) := by decide +kernel
theorem dX5_mayBe_186 : decode cX5_mayBe 186 = .ok (.ifCond .eq 7, 3) := by decide +kernel
theorem dX5_mayBe_189 : decode cX5_mayBe 189 = .ok (.iconst 1, 1) := by decide +kernel
theorem dX5_mayBe_190 : decode cX5_mayBe 190 = .ok (.goto 4, 3) := by decide +kernel
theorem dX5_mayBe_193 : decode cX5_mayBe 193 = .ok (.iconst 0, 1) := by decide +kernel
theorem dX5_mayBe_194 : decode cX5_mayBe 194 = .ok (.ireturn, 1) := by decide +kernel
theorem dX5_mayBe_195 : decode cX5_mayBe 195 = .ok (.iload_n 1, 1) := by decide +kernel
theorem dX5_mayBe_196 : decode cX5_mayBe 196 = .ok (.invokestatic 104, 3) := by decide +kernel
theorem dX5_mayBe_199 : decode cX5_mayBe 199 = .ok (.ifCond .eq 21, 3) := by decide +kernel
theorem dX5_mayBe_202 : decode cX5_mayBe 202 = .ok (.iload_n 2, 1) := by decide +kernel
theorem dX5_mayBe_203 : decode cX5_mayBe 203 = .ok (.invokestatic 87, 3) := by decide +kernel
theorem dX5_mayBe_206 : decode cX5_mayBe 206 = .ok (.ifCond .eq 14, 3) := by decide +kernel
theorem dX5_mayBe_209 : decode cX5_mayBe 209 = .ok (.iload_n 3, 1) := by decide +kernel
theorem dX5_mayBe_210 : decode cX5_mayBe 210 = .ok (.invokestatic 87, 3) := by decide +kernel
theorem dX5_mayBe_213 : decode cX5_mayBe 213 = .ok (.ifCond .eq 7, 3) := by decide +kernel
theorem dX5_mayBe_216 : decode cX5_mayBe 216 = .ok (.iconst 1, 1) := by decide +kernel
theorem dX5_mayBe_217 : decode cX5_mayBe 217 = .ok (.goto 4, 3) := by decide +kernel
theorem dX5_mayBe_220 : decode cX5_mayBe 220 = .ok (.iconst 0, 1) := by decide +kernel
theorem dX5_mayBe_221 : decode cX5_mayBe 221 = .ok (.ireturn, 1) := by decide +kernel
theorem dX5_mayBe_222 : decode cX5_mayBe 222 = .ok (.iload_n 1, 1) := by decide +kernel
theorem dX5_mayBe_223 : decode cX5_mayBe 223 = .ok (.invokestatic 95, 3) := by decide +kernel
theorem dX5_mayBe_226 : decode cX5_mayBe 226 = .ok (.ifCond .eq 21, 3) := by decide +kernel
theorem dX5_mayBe_229 : decode cX5_mayBe 229 = .ok (.iload_n 2, 1) := by decide +kernel
theorem dX5_mayBe_230 : decode cX5_mayBe 230 = .ok (.invokestatic 87, 3) := by decide +kernel
theorem dX5_mayBe_233 : decode cX5_mayBe 233 = .ok (.ifCond .eq 14, 3) := by decide +kernel
theorem dX5_mayBe_236 : decode cX5_mayBe 236 = .ok (.iload_n 3, 1) := by decide +kernel
theorem dX5_mayBe_237 : decode cX5_mayBe 237 = .ok (.invokestatic 87, 3) := by decide +kernel
theorem dX5_mayBe_240 : decode cX5_mayBe 240 = .ok (.ifCond .eq 7, 3) := by decide +kernel
theorem dX5_mayBe_243 : decode cX5_mayBe 243 = .ok (.iconst 1, 1) := by decide +kernel
theorem dX5_mayBe_244 : decode cX5_mayBe 244 = .ok (.goto 4, 3) := by decide +kernel
theorem dX5_mayBe_247 : decode cX5_mayBe 247 = .ok (.iconst 0, 1) := by decide +kernel
theorem dX5_mayBe_248 : decode cX5_mayBe 248 = .ok (.ireturn, 1) := by decide +kernel
theorem dX5_mayBe_249 : decode cX5_mayBe 249 = .ok (.iload_n 1, 1) := by decide +kernel
theorem dX5_mayBe_250 : decode cX5_mayBe 250 = .ok (.invokestatic 147, 3) := by decide +kernel
theorem dX5_mayBe_253 : decode cX5_mayBe 253 = .ok (.ireturn, 1) := by decide +kernel
theorem dX5_mayBe_254 : decode cX5_mayBe 254 = .ok (.iload_n 1, 1) := by decide +kernel
theorem dX5_mayBe_255 : decode cX5_mayBe 255 = .ok (.invokestatic 87, 3) := by decide +kernel
theorem dX5_mayBe_258 : decode cX5_mayBe 258 = .ok (.ifCond .eq 14, 3) := by decide +kernel
theorem dX5_mayBe_261 : decode cX5_mayBe 261 = .ok (.iload_n 2, 1) := by decide +kernel
theorem dX5_mayBe_262 : decode cX5_mayBe 262 = .ok (.invokestatic 147, 3) := by decide +kernel
theorem dX5_mayBe_265 : decode cX5_mayBe 265 = .ok (.ifCond .eq 7, 3) := by decide +kernel
theorem dX5_mayBe_268 : decode cX5_mayBe 268 = .ok (.iconst 1, 1) := by decide +kernel
theorem dX5_mayBe_269 : decode cX5_mayBe 269 = .ok (.goto 4, 3) := by decide +kernel
theorem dX5_mayBe_272 : decode cX5_mayBe 272 = .ok (.iconst 0, 1) := by decide +kernel
theorem dX5_mayBe_273 : decode cX5_mayBe 273 = .ok (.ireturn, 1) := by decide +kernel
theorem dX5_mayBe_274 : decode cX5_mayBe 274 = .ok (.iconst 1, 1) := by decide +kernel
theorem dX5_mayBe_275 : decode cX5_mayBe 275 = .ok (.ireturn, 1) := by decide +kernel
theorem dX5_mayBe_276 : decode cX5_mayBe 276 = .ok (.iload_n 1, 1) := by decide +kernel
theorem dX5_mayBe_277 : decode cX5_mayBe 277 = .ok (.invokestatic 104, 3) := by decide +kernel
theorem dX5_mayBe_280 : decode cX5_mayBe 280 = .ok (.ifCond .eq 14, 3) := by decide +kernel
theorem dX5_mayBe_283 : decode cX5_mayBe 283 = .ok (.iload_n 2, 1) := by decide +kernel
theorem dX5_mayBe_284 : decode cX5_mayBe 284 = .ok (.invokestatic 87, 3) := by decide +kernel
theorem dX5_mayBe_287 : decode cX5_mayBe 287 = .ok (.ifCond .eq 7, 3) := by decide +kernel
theorem dX5_mayBe_290 : decode cX5_mayBe 290 = .ok (.iconst 1, 1) := by decide +kernel
theorem dX5_mayBe_291 : decode cX5_mayBe 291 = .ok (.goto 4, 3) := by decide +kernel
theorem dX5_mayBe_294 : decode cX5_mayBe 294 = .ok (.iconst 0, 1) := by decide +kernel
theorem dX5_mayBe_295 : decode cX5_mayBe 295 = .ok (.ireturn, 1) := by decide +kernel
theorem dX5_mayBe_296 : decode cX5_mayBe 296 = .ok (.iload_n 1, 1) := by decide +kernel
theorem dX5_mayBe_297 : decode cX5_mayBe 297 = .ok (.invokestatic 104, 3) := by decide +kernel
theorem dX5_mayBe_300 : decode cX5_mayBe 300 = .ok (.ireturn, 1) := by decide +kernel
theorem dX5_mayBe_301 : decode cX5_mayBe 301 = .ok (.iload_n 1, 1) := by decide +kernel
theorem dX5_mayBe_302 : decode cX5_mayBe 302 = .ok (.invokestatic 95, 3) := by decide +kernel
theorem dX5_mayBe_305 : decode cX5_mayBe 305 = .ok (.ifCond .eq 14, 3) := by decide +kernel
theorem dX5_mayBe_308 : decode cX5_mayBe 308 = .ok (.iload_n 2, 1) := by decide +kernel
theorem dX5_mayBe_309 : decode cX5_mayBe 309 = .ok (.invokestatic 95, 3) := by decide +kernel
theorem dX5_mayBe_312 : decode cX5_mayBe 312 = .ok (.ifCond .eq 7, 3) := by decide +kernel
theorem dX5_mayBe_315 : decode cX5_mayBe 315 = .ok (.iconst 1, 1) := by decide +kernel
theorem dX5_mayBe_316 : decode cX5_mayBe 316 = .ok (.goto 4, 3) := by decide +kernel
theorem dX5_mayBe_319 : decode cX5_mayBe 319 = .ok (.iconst 0, 1) := by decide +kernel
theorem dX5_mayBe_320 : decode cX5_mayBe 320 = .ok (.ireturn, 1) := by decide +kernel
theorem dX5_mayBe_321 : decode cX5_mayBe 321 = .ok (.iconst 0, 1) := by decide +kernel
theorem dX5_mayBe_322 : decode cX5_mayBe 322 = .ok (.ireturn, 1) := by decide +kernel
theorem dX5_drawn_0 : decode cX5_drawn 0 = .ok (.iconst 0, 1) := by decide +kernel
theorem dX5_drawn_1 : decode cX5_drawn 1 = .ok (.istore_n 2, 1) := by decide +kernel
theorem dX5_drawn_2 : decode cX5_drawn 2 = .ok (.iconst 0, 1) := by decide +kernel
theorem dX5_drawn_3 : decode cX5_drawn 3 = .ok (.istore_n 3, 1) := by decide +kernel
theorem dX5_drawn_4 : decode cX5_drawn 4 = .ok (.iload_n 3, 1) := by decide +kernel
theorem dX5_drawn_5 : decode cX5_drawn 5 = .ok (.aload_n 0, 1) := by decide +kernel
theorem dX5_drawn_6 : decode cX5_drawn 6 = .ok (.getfield 25, 3) := by decide +kernel
theorem dX5_drawn_9 : decode cX5_drawn 9 = .ok (.arraylength, 1) := by decide +kernel
theorem dX5_drawn_10 : decode cX5_drawn 10 = .ok (.if_icmp .ge 20, 3) := by decide +kernel
theorem dX5_drawn_13 : decode cX5_drawn 13 = .ok (.aload_n 0, 1) := by decide +kernel
theorem dX5_drawn_14 : decode cX5_drawn 14 = .ok (.iload_n 3, 1) := by decide +kernel
theorem dX5_drawn_15 : decode cX5_drawn 15 = .ok (.invokevirtual 150, 3) := by decide +kernel
theorem dX5_drawn_18 : decode cX5_drawn 18 = .ok (.ifCond .eq 6, 3) := by decide +kernel
theorem dX5_drawn_21 : decode cX5_drawn 21 = .ok (.iinc 2 1, 3) := by decide +kernel
theorem dX5_drawn_24 : decode cX5_drawn 24 = .ok (.iinc 3 1, 3) := by decide +kernel
theorem dX5_drawn_27 : decode cX5_drawn 27 = .ok (.goto (-23), 3) := by decide +kernel
theorem dX5_drawn_30 : decode cX5_drawn 30 = .ok (.iload_n 2, 1) := by decide +kernel
theorem dX5_drawn_31 : decode cX5_drawn 31 = .ok (.ifCond .ne 5, 3) := by decide +kernel
theorem dX5_drawn_34 : decode cX5_drawn 34 = .ok (.aconst_null, 1) := by decide +kernel
theorem dX5_drawn_35 : decode cX5_drawn 35 = .ok (.areturn, 1) := by decide +kernel
theorem dX5_drawn_36 : decode cX5_drawn 36 = .ok (.iload_n 1, 1) := by decide +kernel
theorem dX5_drawn_37 : decode cX5_drawn 37 = .ok (.bipush 16, 2) := by decide +kernel
theorem dX5_drawn_39 : decode cX5_drawn 39 = .ok (.iushr, 1) := by decide +kernel
theorem dX5_drawn_40 : decode cX5_drawn 40 = .ok (.iload_n 2, 1) := by decide +kernel
theorem dX5_drawn_41 : decode cX5_drawn 41 = .ok (.irem, 1) := by decide +kernel
theorem dX5_drawn_42 : decode cX5_drawn 42 = .ok (.istore_n 3, 1) := by decide +kernel
theorem dX5_drawn_43 : decode cX5_drawn 43 = .ok (.iconst 0, 1) := by decide +kernel
theorem dX5_drawn_44 : decode cX5_drawn 44 = .ok (.istore 4, 2) := by decide +kernel
theorem dX5_drawn_46 : decode cX5_drawn 46 = .ok (.iload 4, 2) := by decide +kernel
theorem dX5_drawn_48 : decode cX5_drawn 48 = .ok (.aload_n 0, 1) := by decide +kernel
theorem dX5_drawn_49 : decode cX5_drawn 49 = .ok (.getfield 25, 3) := by decide +kernel
theorem dX5_drawn_52 : decode cX5_drawn 52 = .ok (.arraylength, 1) := by decide +kernel
theorem dX5_drawn_53 : decode cX5_drawn 53 = .ok (.if_icmp .ge 32, 3) := by decide +kernel
theorem dX5_drawn_56 : decode cX5_drawn 56 = .ok (.aload_n 0, 1) := by decide +kernel
theorem dX5_drawn_57 : decode cX5_drawn 57 = .ok (.iload 4, 2) := by decide +kernel
theorem dX5_drawn_59 : decode cX5_drawn 59 = .ok (.invokevirtual 150, 3) := by decide +kernel
theorem dX5_drawn_62 : decode cX5_drawn 62 = .ok (.ifCond .eq 17, 3) := by decide +kernel
theorem dX5_drawn_65 : decode cX5_drawn 65 = .ok (.iload_n 3, 1) := by decide +kernel
theorem dX5_drawn_66 : decode cX5_drawn 66 = .ok (.iinc 3 (-1), 3) := by decide +kernel
theorem dX5_drawn_69 : decode cX5_drawn 69 = .ok (.ifCond .ne 10, 3) := by decide +kernel
theorem dX5_drawn_72 : decode cX5_drawn 72 = .ok (.aload_n 0, 1) := by decide +kernel
theorem dX5_drawn_73 : decode cX5_drawn 73 = .ok (.iload 4, 2) := by decide +kernel
theorem dX5_drawn_75 : decode cX5_drawn 75 = .ok (.invokevirtual 32, 3) := by decide +kernel
theorem dX5_drawn_78 : decode cX5_drawn 78 = .ok (.areturn, 1) := by decide +kernel
theorem dX5_drawn_79 : decode cX5_drawn 79 = .ok (.iinc 4 1, 3) := by decide +kernel
theorem dX5_drawn_82 : decode cX5_drawn 82 = .ok (.goto (-36), 3) := by decide +kernel
theorem dX5_drawn_85 : decode cX5_drawn 85 = .ok (.aconst_null, 1) := by decide +kernel
theorem dX5_drawn_86 : decode cX5_drawn 86 = .ok (.areturn, 1) := by decide +kernel
theorem dX5_goes_0 : decode cX5_goes 0 = .ok (.aload_n 0, 1) := by decide +kernel
theorem dX5_goes_1 : decode cX5_goes 1 = .ok (.iload_n 1, 1) := by decide +kernel
theorem dX5_goes_2 : decode cX5_goes 2 = .ok (.invokevirtual 32, 3) := by decide +kernel
theorem dX5_goes_5 : decode cX5_goes 5 = .ok (.astore_n 2, 1) := by decide +kernel
theorem dX5_goes_6 : decode cX5_goes 6 = .ok (.aload_n 2, 1) := by decide +kernel
theorem dX5_goes_7 : decode cX5_goes 7 = .ok (.ifnull 14, 3) := by decide +kernel
theorem dX5_goes_10 : decode cX5_goes 10 = .ok (.aload_n 2, 1) := by decide +kernel
theorem dX5_goes_11 : decode cX5_goes 11 = .ok (.invokevirtual 50, 3) := by decide +kernel
theorem dX5_goes_14 : decode cX5_goes 14 = .ok (.ifCond .ne 7, 3) := by decide +kernel
theorem dX5_goes_17 : decode cX5_goes 17 = .ok (.iconst 1, 1) := by decide +kernel
theorem dX5_goes_18 : decode cX5_goes 18 = .ok (.goto 4, 3) := by decide +kernel
theorem dX5_goes_21 : decode cX5_goes 21 = .ok (.iconst 0, 1) := by decide +kernel
theorem dX5_goes_22 : decode cX5_goes 22 = .ok (.ireturn, 1) := by decide +kernel
theorem dX5_takeTurn_0 : decode cX5_takeTurn 0 = .ok (.aload_n 0, 1) := by decide +kernel
theorem dX5_takeTurn_1 : decode cX5_takeTurn 1 = .ok (.dup, 1) := by decide +kernel
theorem dX5_takeTurn_2 : decode cX5_takeTurn 2 = .ok (.getfield 137, 3) := by decide +kernel
theorem dX5_takeTurn_5 : decode cX5_takeTurn 5 = .ok (.iconst 1, 1) := by decide +kernel
theorem dX5_takeTurn_6 : decode cX5_takeTurn 6 = .ok (.iadd, 1) := by decide +kernel
theorem dX5_takeTurn_7 : decode cX5_takeTurn 7 = .ok (.putfield 137, 3) := by decide +kernel
theorem dX5_takeTurn_10 : decode cX5_takeTurn 10 = .ok (.aload_n 1, 1) := by decide +kernel
theorem dX5_takeTurn_11 : decode cX5_takeTurn 11 = .ok (.dup, 1) := by decide +kernel
theorem dX5_takeTurn_12 : decode cX5_takeTurn 12 = .ok (.getfield 40, 3) := by decide +kernel
theorem dX5_takeTurn_15 : decode cX5_takeTurn 15 = .ok (.iconst 1, 1) := by decide +kernel
theorem dX5_takeTurn_16 : decode cX5_takeTurn 16 = .ok (.iadd, 1) := by decide +kernel
theorem dX5_takeTurn_17 : decode cX5_takeTurn 17 = .ok (.putfield 40, 3) := by decide +kernel
theorem dX5_takeTurn_20 : decode cX5_takeTurn 20 = .ok (.aload_n 1, 1) := by decide +kernel
theorem dX5_takeTurn_21 : decode cX5_takeTurn 21 = .ok (.aload_n 1, 1) := by decide +kernel
theorem dX5_takeTurn_22 : decode cX5_takeTurn 22 = .ok (.getfield 65, 3) := by decide +kernel
theorem dX5_takeTurn_25 : decode cX5_takeTurn 25 = .ok (.iconst 1, 1) := by decide +kernel
theorem dX5_takeTurn_26 : decode cX5_takeTurn 26 = .ok (.iadd, 1) := by decide +kernel
theorem dX5_takeTurn_27 : decode cX5_takeTurn 27 = .ok (.putfield 153, 3) := by decide +kernel
theorem dX5_takeTurn_30 : decode cX5_takeTurn 30 = .ok (.aload_n 0, 1) := by decide +kernel
theorem dX5_takeTurn_31 : decode cX5_takeTurn 31 = .ok (.aload_n 1, 1) := by decide +kernel
theorem dX5_takeTurn_32 : decode cX5_takeTurn 32 = .ok (.invokevirtual 156, 3) := by decide +kernel
theorem dX5_takeTurn_35 : decode cX5_takeTurn 35 = .ok (.istore_n 2, 1) := by decide +kernel
theorem dX5_takeTurn_36 : decode cX5_takeTurn 36 = .ok (.iload_n 2, 1) := by decide +kernel
theorem dX5_takeTurn_37 : decode cX5_takeTurn 37 = .ok (.ifCond .ne 14, 3) := by decide +kernel
theorem dX5_takeTurn_40 : decode cX5_takeTurn 40 = .ok (.aload_n 1, 1) := by decide +kernel
theorem dX5_takeTurn_41 : decode cX5_takeTurn 41 = .ok (.aload_n 1, 1) := by decide +kernel
theorem dX5_takeTurn_42 : decode cX5_takeTurn 42 = .ok (.getfield 153, 3) := by decide +kernel
theorem dX5_takeTurn_45 : decode cX5_takeTurn 45 = .ok (.putfield 65, 3) := by decide +kernel
theorem dX5_takeTurn_48 : decode cX5_takeTurn 48 = .ok (.goto 18, 3) := by decide +kernel
theorem dX5_takeTurn_51 : decode cX5_takeTurn 51 = .ok (.aload_n 0, 1) := by decide +kernel
theorem dX5_takeTurn_52 : decode cX5_takeTurn 52 = .ok (.dup, 1) := by decide +kernel
theorem dX5_takeTurn_53 : decode cX5_takeTurn 53 = .ok (.getfield 54, 3) := by decide +kernel
theorem dX5_takeTurn_56 : decode cX5_takeTurn 56 = .ok (.iconst 1, 1) := by decide +kernel
theorem dX5_takeTurn_57 : decode cX5_takeTurn 57 = .ok (.iadd, 1) := by decide +kernel
theorem dX5_takeTurn_58 : decode cX5_takeTurn 58 = .ok (.putfield 54, 3) := by decide +kernel
theorem dX5_takeTurn_61 : decode cX5_takeTurn 61 = .ok (.aload_n 1, 1) := by decide +kernel
theorem dX5_takeTurn_62 : decode cX5_takeTurn 62 = .ok (.iload_n 2, 1) := by decide +kernel
theorem dX5_takeTurn_63 : decode cX5_takeTurn 63 = .ok (.invokevirtual 160, 3) := by decide +kernel
theorem dX5_takeTurn_66 : decode cX5_takeTurn 66 = .ok (.return_, 1) := by decide +kernel
theorem dX5_perform_0 : decode cX5_perform 0 = .ok (.aload_n 1, 1) := by decide +kernel
theorem dX5_perform_1 : decode cX5_perform 1 = .ok (.getfield 65, 3) := by decide +kernel
theorem dX5_perform_4 : decode cX5_perform 4 = .ok (.istore_n 2, 1) := by decide +kernel
theorem dX5_perform_5 : decode cX5_perform 5 = .ok (.iload_n 2, 1) := by decide +kernel
theorem dX5_perform_6 : decode cX5_perform 6 = .ok (.ifCond .lt 17, 3) := by decide +kernel
theorem dX5_perform_9 : decode cX5_perform 9 = .ok (.iload_n 2, 1) := by decide +kernel
theorem dX5_perform_10 : decode cX5_perform 10 = .ok (.aload_n 1, 1) := by decide +kernel
theorem dX5_perform_11 : decode cX5_perform 11 = .ok (.getfield 47, 3) := by decide +kernel
theorem dX5_perform_14 : decode cX5_perform 14 = .ok (.if_icmp .ge 9, 3) := by decide +kernel
theorem dX5_perform_17 : decode cX5_perform 17 = .ok (.iload_n 2, 1) := by decide +kernel
theorem dX5_perform_18 : decode cX5_perform 18 = .ok (.bipush 24, 2) := by decide +kernel
theorem dX5_perform_20 : decode cX5_perform 20 = .ok (.if_icmp .lt 5, 3) := by decide +kernel
theorem dX5_perform_23 : decode cX5_perform 23 = .ok (.iconst 5, 1) := by decide +kernel
theorem dX5_perform_24 : decode cX5_perform 24 = .ok (.ireturn, 1) := by decide +kernel
theorem dX5_perform_25 : decode cX5_perform 25 = .ok (.aload_n 1, 1) := by decide +kernel
theorem dX5_perform_26 : decode cX5_perform 26 = .ok (.getfield 163, 3) := by decide +kernel
theorem dX5_perform_29 : decode cX5_perform 29 = .ok (.iload_n 2, 1) := by decide +kernel
theorem dX5_perform_30 : decode cX5_perform 30 = .ok (.iaload, 1) := by decide +kernel
theorem dX5_perform_31 : decode cX5_perform 31 = .ok (.istore_n 3, 1) := by decide +kernel
theorem dX5_perform_32 : decode cX5_perform 32 = .ok (.aload_n 1, 1) := by decide +kernel
theorem dX5_perform_33 : decode cX5_perform 33 = .ok (.getfield 167, 3) := by decide +kernel
theorem dX5_perform_36 : decode cX5_perform 36 = .ok (.iload_n 2, 1) := by decide +kernel
theorem dX5_perform_37 : decode cX5_perform 37 = .ok (.iaload, 1) := by decide +kernel
theorem dX5_perform_38 : decode cX5_perform 38 = .ok (.istore 4, 2) := by decide +kernel
theorem dX5_perform_40 : decode cX5_perform 40 = .ok (.aload_n 1, 1) := by decide +kernel
theorem dX5_perform_41 : decode cX5_perform 41 = .ok (.getfield 170, 3) := by decide +kernel
theorem dX5_perform_44 : decode cX5_perform 44 = .ok (.iload_n 2, 1) := by decide +kernel
theorem dX5_perform_45 : decode cX5_perform 45 = .ok (.iaload, 1) := by decide +kernel
theorem dX5_perform_46 : decode cX5_perform 46 = .ok (.istore 5, 2) := by decide +kernel
theorem dX5_perform_48 : decode cX5_perform 48 = .ok (.aload_n 1, 1) := by decide +kernel
theorem dX5_perform_49 : decode cX5_perform 49 = .ok (.getfield 173, 3) := by decide +kernel
theorem dX5_perform_52 : decode cX5_perform 52 = .ok (.iload_n 2, 1) := by decide +kernel
theorem dX5_perform_53 : decode cX5_perform 53 = .ok (.iaload, 1) := by decide +kernel
theorem dX5_perform_54 : decode cX5_perform 54 = .ok (.istore 6, 2) := by decide +kernel
theorem dX5_perform_56 : decode cX5_perform 56 = .ok (.aload_n 1, 1) := by decide +kernel
theorem dX5_perform_57 : decode cX5_perform 57 = .ok (.getfield 74, 3) := by decide +kernel
theorem dX5_perform_60 : decode cX5_perform 60 = .ok (.getfield 78, 3) := by decide +kernel
theorem dX5_perform_63 : decode cX5_perform 63 = .ok (.ifCond .eq 12, 3) := by decide +kernel
theorem dX5_perform_66 : decode cX5_perform 66 = .ok (.iload_n 3, 1) := by decide +kernel
theorem dX5_perform_67 : decode cX5_perform 67 = .ok (.invokestatic 176, 3) := by decide +kernel
theorem dX5_perform_70 : decode cX5_perform 70 = .ok (.ifCond .eq 5, 3) := by decide +kernel
theorem dX5_perform_73 : decode cX5_perform 73 = .ok (.iconst 5, 1) := by decide +kernel
theorem dX5_perform_74 : decode cX5_perform 74 = .ok (.ireturn, 1) := by decide +kernel
theorem dX5_perform_75 : decode cX5_perform 75 = .ok (.iload_n 3, 1) := by decide +kernel
theorem dX5_perform_76 : decode cX5_perform 76 = .ok (.tableswitch 212 1 19 #[92, 102, 212, 212, 212, 212, 117, 133, 155, 212, 212, 212, 167, 212, 212, 212, 173, 189, 199], 92) := by decide +kernel
theorem dX5_perform_168 : decode cX5_perform 168 = .ok (.aload_n 0, 1) := by decide +kernel
theorem dX5_perform_169 : decode cX5_perform 169 = .ok (.aload_n 1, 1) := by decide +kernel
theorem dX5_perform_170 : decode cX5_perform 170 = .ok (.iload 4, 2) := by decide +kernel
theorem dX5_perform_172 : decode cX5_perform 172 = .ok (.iload 5, 2) := by decide +kernel
theorem dX5_perform_174 : decode cX5_perform 174 = .ok (.invokevirtual 179, 3) := by decide +kernel
theorem dX5_perform_177 : decode cX5_perform 177 = .ok (.ireturn, 1) := by decide +kernel
theorem dX5_perform_178 : decode cX5_perform 178 = .ok (.aload_n 0, 1) := by decide +kernel
theorem dX5_perform_179 : decode cX5_perform 179 = .ok (.aload_n 1, 1) := by decide +kernel
theorem dX5_perform_180 : decode cX5_perform 180 = .ok (.iload 4, 2) := by decide +kernel
theorem dX5_perform_182 : decode cX5_perform 182 = .ok (.aload_n 1, 1) := by decide +kernel
theorem dX5_perform_183 : decode cX5_perform 183 = .ok (.iload 5, 2) := by decide +kernel
theorem dX5_perform_185 : decode cX5_perform 185 = .ok (.invokevirtual 91, 3) := by decide +kernel
theorem dX5_perform_188 : decode cX5_perform 188 = .ok (.invokevirtual 183, 3) := by decide +kernel
theorem dX5_perform_191 : decode cX5_perform 191 = .ok (.iconst 0, 1) := by decide +kernel
theorem dX5_perform_192 : decode cX5_perform 192 = .ok (.ireturn, 1) := by decide +kernel
theorem dX5_perform_193 : decode cX5_perform 193 = .ok (.aload_n 0, 1) := by decide +kernel
theorem dX5_perform_194 : decode cX5_perform 194 = .ok (.aload_n 1, 1) := by decide +kernel
theorem dX5_perform_195 : decode cX5_perform 195 = .ok (.iload 4, 2) := by decide +kernel
theorem dX5_perform_197 : decode cX5_perform 197 = .ok (.iload 5, 2) := by decide +kernel
theorem dX5_perform_199 : decode cX5_perform 199 = .ok (.aload_n 1, 1) := by decide +kernel
theorem dX5_perform_200 : decode cX5_perform 200 = .ok (.iload 6, 2) := by decide +kernel
theorem dX5_perform_202 : decode cX5_perform 202 = .ok (.invokevirtual 91, 3) := by decide +kernel
theorem dX5_perform_205 : decode cX5_perform 205 = .ok (.invokevirtual 187, 3) := by decide +kernel
theorem dX5_perform_208 : decode cX5_perform 208 = .ok (.ireturn, 1) := by decide +kernel
theorem dX5_perform_209 : decode cX5_perform 209 = .ok (.aload_n 0, 1) := by decide +kernel
theorem dX5_perform_210 : decode cX5_perform 210 = .ok (.getfield 19, 3) := by decide +kernel
theorem dX5_perform_213 : decode cX5_perform 213 = .ok (.iload 4, 2) := by decide +kernel
theorem dX5_perform_215 : decode cX5_perform 215 = .ok (.aload_n 1, 1) := by decide +kernel
theorem dX5_perform_216 : decode cX5_perform 216 = .ok (.iload 5, 2) := by decide +kernel
theorem dX5_perform_218 : decode cX5_perform 218 = .ok (.invokevirtual 91, 3) := by decide +kernel
theorem dX5_perform_221 : decode cX5_perform 221 = .ok (.aload_n 1, 1) := by decide +kernel
theorem dX5_perform_222 : decode cX5_perform 222 = .ok (.iload 6, 2) := by decide +kernel
theorem dX5_perform_224 : decode cX5_perform 224 = .ok (.invokevirtual 91, 3) := by decide +kernel
theorem dX5_perform_227 : decode cX5_perform 227 = .ok (.invokevirtual 191, 3) := by decide +kernel
theorem dX5_perform_230 : decode cX5_perform 230 = .ok (.ireturn, 1) := by decide +kernel
theorem dX5_perform_231 : decode cX5_perform 231 = .ok (.aload_n 0, 1) := by decide +kernel
theorem dX5_perform_232 : decode cX5_perform 232 = .ok (.aload_n 1, 1) := by decide +kernel
theorem dX5_perform_233 : decode cX5_perform 233 = .ok (.iload 4, 2) := by decide +kernel
theorem dX5_perform_235 : decode cX5_perform 235 = .ok (.iload 5, 2) := by decide +kernel
theorem dX5_perform_237 : decode cX5_perform 237 = .ok (.iload 6, 2) := by decide +kernel
theorem dX5_perform_239 : decode cX5_perform 239 = .ok (.invokevirtual 195, 3) := by decide +kernel
theorem dX5_perform_242 : decode cX5_perform 242 = .ok (.ireturn, 1) := by decide +kernel
theorem dX5_perform_243 : decode cX5_perform 243 = .ok (.aload_n 0, 1) := by decide +kernel
theorem dX5_perform_244 : decode cX5_perform 244 = .ok (.aload_n 1, 1) := by decide +kernel
theorem dX5_perform_245 : decode cX5_perform 245 = .ok (.invokevirtual 198, 3) := by decide +kernel
theorem dX5_perform_248 : decode cX5_perform 248 = .ok (.ireturn, 1) := by decide +kernel
theorem dX5_perform_249 : decode cX5_perform 249 = .ok (.aload_n 0, 1) := by decide +kernel
theorem dX5_perform_250 : decode cX5_perform 250 = .ok (.getfield 19, 3) := by decide +kernel
theorem dX5_perform_253 : decode cX5_perform 253 = .ok (.iload 4, 2) := by decide +kernel
theorem dX5_perform_255 : decode cX5_perform 255 = .ok (.aload_n 1, 1) := by decide +kernel
theorem dX5_perform_256 : decode cX5_perform 256 = .ok (.iload 5, 2) := by decide +kernel
theorem dX5_perform_258 : decode cX5_perform 258 = .ok (.invokevirtual 91, 3) := by decide +kernel
theorem dX5_perform_261 : decode cX5_perform 261 = .ok (.invokevirtual 201, 3) := by decide +kernel
theorem dX5_perform_264 : decode cX5_perform 264 = .ok (.ireturn, 1) := by decide +kernel
theorem dX5_perform_265 : decode cX5_perform 265 = .ok (.aload_n 0, 1) := by decide +kernel
theorem dX5_perform_266 : decode cX5_perform 266 = .ok (.getfield 19, 3) := by decide +kernel
theorem dX5_perform_269 : decode cX5_perform 269 = .ok (.iload 4, 2) := by decide +kernel
theorem dX5_perform_271 : decode cX5_perform 271 = .ok (.invokevirtual 204, 3) := by decide +kernel
theorem dX5_perform_274 : decode cX5_perform 274 = .ok (.ireturn, 1) := by decide +kernel
theorem dX5_perform_275 : decode cX5_perform 275 = .ok (.aload_n 0, 1) := by decide +kernel
theorem dX5_perform_276 : decode cX5_perform 276 = .ok (.getfield 10, 3) := by decide +kernel
theorem dX5_perform_279 : decode cX5_perform 279 = .ok (.iload 4, 2) := by decide +kernel
theorem dX5_perform_281 : decode cX5_perform 281 = .ok (.iload 5, 2) := by decide +kernel
theorem dX5_perform_283 : decode cX5_perform 283 = .ok (.invokevirtual 207, 3) := by decide +kernel
theorem dX5_perform_286 : decode cX5_perform 286 = .ok (.iconst 0, 1) := by decide +kernel
theorem dX5_perform_287 : decode cX5_perform 287 = .ok (.ireturn, 1) := by decide +kernel
theorem dX5_perform_288 : decode cX5_perform 288 = .ok (.aload_n 1, 1) := by decide +kernel
theorem dX5_perform_289 : decode cX5_perform 289 = .ok (.iload_n 3, 1) := by decide +kernel
theorem dX5_perform_290 : decode cX5_perform 290 = .ok (.iload 4, 2) := by decide +kernel
theorem dX5_perform_292 : decode cX5_perform 292 = .ok (.iload 5, 2) := by decide +kernel
theorem dX5_perform_294 : decode cX5_perform 294 = .ok (.iload 6, 2) := by decide +kernel
theorem dX5_perform_296 : decode cX5_perform 296 = .ok (.invokevirtual 210, 3) := by decide +kernel
theorem dX5_perform_299 : decode cX5_perform 299 = .ok (.ireturn, 1) := by decide +kernel
theorem dX5_isBarredFromAtoms_0 : decode cX5_isBarredFromAtoms 0 = .ok (.iload_n 0, 1) := by decide +kernel
theorem dX5_isBarredFromAtoms_1 : decode cX5_isBarredFromAtoms 1 = .ok (.bipush 7, 2) := by decide +kernel
theorem dX5_isBarredFromAtoms_3 : decode cX5_isBarredFromAtoms 3 = .ok (.if_icmp .eq 27, 3) := by decide +kernel
theorem dX5_isBarredFromAtoms_6 : decode cX5_isBarredFromAtoms 6 = .ok (.iload_n 0, 1) := by decide +kernel
theorem dX5_isBarredFromAtoms_7 : decode cX5_isBarredFromAtoms 7 = .ok (.bipush 8, 2) := by decide +kernel
theorem dX5_isBarredFromAtoms_9 : decode cX5_isBarredFromAtoms 9 = .ok (.if_icmp .eq 21, 3) := by decide +kernel
theorem dX5_isBarredFromAtoms_12 : decode cX5_isBarredFromAtoms 12 = .ok (.iload_n 0, 1) := by decide +kernel
theorem dX5_isBarredFromAtoms_13 : decode cX5_isBarredFromAtoms 13 = .ok (.bipush 17, 2) := by decide +kernel
theorem dX5_isBarredFromAtoms_15 : decode cX5_isBarredFromAtoms 15 = .ok (.if_icmp .eq 15, 3) := by decide +kernel
theorem dX5_isBarredFromAtoms_18 : decode cX5_isBarredFromAtoms 18 = .ok (.iload_n 0, 1) := by decide +kernel
theorem dX5_isBarredFromAtoms_19 : decode cX5_isBarredFromAtoms 19 = .ok (.bipush 18, 2) := by decide +kernel
theorem dX5_isBarredFromAtoms_21 : decode cX5_isBarredFromAtoms 21 = .ok (.if_icmp .eq 9, 3) := by decide +kernel
theorem dX5_isBarredFromAtoms_24 : decode cX5_isBarredFromAtoms 24 = .ok (.iload_n 0, 1) := by decide +kernel
theorem dX5_isBarredFromAtoms_25 : decode cX5_isBarredFromAtoms 25 = .ok (.bipush 19, 2) := by decide +kernel
theorem dX5_isBarredFromAtoms_27 : decode cX5_isBarredFromAtoms 27 = .ok (.if_icmp .ne 7, 3) := by decide +kernel
theorem dX5_isBarredFromAtoms_30 : decode cX5_isBarredFromAtoms 30 = .ok (.iconst 1, 1) := by decide +kernel
theorem dX5_isBarredFromAtoms_31 : decode cX5_isBarredFromAtoms 31 = .ok (.goto 4, 3) := by decide +kernel
theorem dX5_isBarredFromAtoms_34 : decode cX5_isBarredFromAtoms 34 = .ok (.iconst 0, 1) := by decide +kernel
theorem dX5_isBarredFromAtoms_35 : decode cX5_isBarredFromAtoms 35 = .ok (.ireturn, 1) := by decide +kernel
theorem dX5_loadItem_0 : decode cX5_loadItem 0 = .ok (.aload_n 0, 1) := by decide +kernel
theorem dX5_loadItem_1 : decode cX5_loadItem 1 = .ok (.getfield 19, 3) := by decide +kernel
theorem dX5_loadItem_4 : decode cX5_loadItem 4 = .ok (.iload_n 3, 1) := by decide +kernel
theorem dX5_loadItem_5 : decode cX5_loadItem 5 = .ok (.iload 4, 2) := by decide +kernel
theorem dX5_loadItem_7 : decode cX5_loadItem 7 = .ok (.invokevirtual 214, 3) := by decide +kernel
theorem dX5_loadItem_10 : decode cX5_loadItem 10 = .ok (.istore 5, 2) := by decide +kernel
theorem dX5_loadItem_12 : decode cX5_loadItem 12 = .ok (.iload 5, 2) := by decide +kernel
theorem dX5_loadItem_14 : decode cX5_loadItem 14 = .ok (.ifCond .ne 18, 3) := by decide +kernel
theorem dX5_loadItem_17 : decode cX5_loadItem 17 = .ok (.aload_n 1, 1) := by decide +kernel
theorem dX5_loadItem_18 : decode cX5_loadItem 18 = .ok (.iload_n 2, 1) := by decide +kernel
theorem dX5_loadItem_19 : decode cX5_loadItem 19 = .ok (.aload_n 0, 1) := by decide +kernel
theorem dX5_loadItem_20 : decode cX5_loadItem 20 = .ok (.getfield 19, 3) := by decide +kernel
theorem dX5_loadItem_23 : decode cX5_loadItem 23 = .ok (.iload_n 3, 1) := by decide +kernel
theorem dX5_loadItem_24 : decode cX5_loadItem 24 = .ok (.iload 4, 2) := by decide +kernel
theorem dX5_loadItem_26 : decode cX5_loadItem 26 = .ok (.invokevirtual 110, 3) := by decide +kernel
theorem dX5_loadItem_29 : decode cX5_loadItem 29 = .ok (.invokevirtual 217, 3) := by decide +kernel
theorem dX5_loadItem_32 : decode cX5_loadItem 32 = .ok (.iload 5, 2) := by decide +kernel
theorem dX5_loadItem_34 : decode cX5_loadItem 34 = .ok (.ireturn, 1) := by decide +kernel
theorem dX5_getCell_0 : decode cX5_getCell 0 = .ok (.aload_n 0, 1) := by decide +kernel
theorem dX5_getCell_1 : decode cX5_getCell 1 = .ok (.aload_n 1, 1) := by decide +kernel
theorem dX5_getCell_2 : decode cX5_getCell 2 = .ok (.iload_n 3, 1) := by decide +kernel
theorem dX5_getCell_3 : decode cX5_getCell 3 = .ok (.invokevirtual 220, 3) := by decide +kernel
theorem dX5_getCell_6 : decode cX5_getCell 6 = .ok (.istore 4, 2) := by decide +kernel
theorem dX5_getCell_8 : decode cX5_getCell 8 = .ok (.iload 4, 2) := by decide +kernel
theorem dX5_getCell_10 : decode cX5_getCell 10 = .ok (.ifCond .ne 14, 3) := by decide +kernel
theorem dX5_getCell_13 : decode cX5_getCell 13 = .ok (.aload_n 1, 1) := by decide +kernel
theorem dX5_getCell_14 : decode cX5_getCell 14 = .ok (.iload_n 2, 1) := by decide +kernel
theorem dX5_getCell_15 : decode cX5_getCell 15 = .ok (.aload_n 0, 1) := by decide +kernel
theorem dX5_getCell_16 : decode cX5_getCell 16 = .ok (.aload_n 1, 1) := by decide +kernel
theorem dX5_getCell_17 : decode cX5_getCell 17 = .ok (.iload_n 3, 1) := by decide +kernel
theorem dX5_getCell_18 : decode cX5_getCell 18 = .ok (.invokevirtual 224, 3) := by decide +kernel
theorem dX5_getCell_21 : decode cX5_getCell 21 = .ok (.invokevirtual 217, 3) := by decide +kernel
theorem dX5_getCell_24 : decode cX5_getCell 24 = .ok (.iload 4, 2) := by decide +kernel
theorem dX5_getCell_26 : decode cX5_getCell 26 = .ok (.ireturn, 1) := by decide +kernel
theorem dX5_swapCell_0 : decode cX5_swapCell 0 = .ok (.aload_n 0, 1) := by decide +kernel
theorem dX5_swapCell_1 : decode cX5_swapCell 1 = .ok (.aload_n 1, 1) := by decide +kernel
theorem dX5_swapCell_2 : decode cX5_swapCell 2 = .ok (.iload_n 2, 1) := by decide +kernel
theorem dX5_swapCell_3 : decode cX5_swapCell 3 = .ok (.invokevirtual 220, 3) := by decide +kernel
theorem dX5_swapCell_6 : decode cX5_swapCell 6 = .ok (.istore 5, 2) := by decide +kernel
theorem dX5_swapCell_8 : decode cX5_swapCell 8 = .ok (.iload 5, 2) := by decide +kernel
theorem dX5_swapCell_10 : decode cX5_swapCell 10 = .ok (.ifCond .eq 6, 3) := by decide +kernel
theorem dX5_swapCell_13 : decode cX5_swapCell 13 = .ok (.iload 5, 2) := by decide +kernel
theorem dX5_swapCell_15 : decode cX5_swapCell 15 = .ok (.ireturn, 1) := by decide +kernel
theorem dX5_swapCell_16 : decode cX5_swapCell 16 = .ok (.aload_n 0, 1) := by decide +kernel
theorem dX5_swapCell_17 : decode cX5_swapCell 17 = .ok (.aload_n 1, 1) := by decide +kernel
theorem dX5_swapCell_18 : decode cX5_swapCell 18 = .ok (.iload_n 2, 1) := by decide +kernel
theorem dX5_swapCell_19 : decode cX5_swapCell 19 = .ok (.invokevirtual 224, 3) := by decide +kernel
theorem dX5_swapCell_22 : decode cX5_swapCell 22 = .ok (.aload_n 1, 1) := by decide +kernel
theorem dX5_swapCell_23 : decode cX5_swapCell 23 = .ok (.iload_n 3, 1) := by decide +kernel
theorem dX5_swapCell_24 : decode cX5_swapCell 24 = .ok (.invokevirtual 91, 3) := by decide +kernel
theorem dX5_swapCell_27 : decode cX5_swapCell 27 = .ok (.if_icmp .ne 7, 3) := by decide +kernel
theorem dX5_swapCell_30 : decode cX5_swapCell 30 = .ok (.iconst 1, 1) := by decide +kernel
theorem dX5_swapCell_31 : decode cX5_swapCell 31 = .ok (.goto 4, 3) := by decide +kernel
theorem dX5_swapCell_34 : decode cX5_swapCell 34 = .ok (.iconst 0, 1) := by decide +kernel
theorem dX5_swapCell_35 : decode cX5_swapCell 35 = .ok (.istore 6, 2) := by decide +kernel
theorem dX5_swapCell_37 : decode cX5_swapCell 37 = .ok (.iload 6, 2) := by decide +kernel
theorem dX5_swapCell_39 : decode cX5_swapCell 39 = .ok (.ifCond .eq 15, 3) := by decide +kernel
theorem dX5_swapCell_42 : decode cX5_swapCell 42 = .ok (.aload_n 0, 1) := by decide +kernel
theorem dX5_swapCell_43 : decode cX5_swapCell 43 = .ok (.aload_n 1, 1) := by decide +kernel
theorem dX5_swapCell_44 : decode cX5_swapCell 44 = .ok (.iload_n 2, 1) := by decide +kernel
theorem dX5_swapCell_45 : decode cX5_swapCell 45 = .ok (.aload_n 1, 1) := by decide +kernel
theorem dX5_swapCell_46 : decode cX5_swapCell 46 = .ok (.iload 4, 2) := by decide +kernel
theorem dX5_swapCell_48 : decode cX5_swapCell 48 = .ok (.invokevirtual 91, 3) := by decide +kernel
theorem dX5_swapCell_51 : decode cX5_swapCell 51 = .ok (.invokevirtual 183, 3) := by decide +kernel
theorem dX5_swapCell_54 : decode cX5_swapCell 54 = .ok (.aload_n 1, 1) := by decide +kernel
theorem dX5_swapCell_55 : decode cX5_swapCell 55 = .ok (.iload_n 3, 1) := by decide +kernel
theorem dX5_swapCell_56 : decode cX5_swapCell 56 = .ok (.iload 6, 2) := by decide +kernel
theorem dX5_swapCell_58 : decode cX5_swapCell 58 = .ok (.ifCond .eq 7, 3) := by decide +kernel
theorem dX5_swapCell_61 : decode cX5_swapCell 61 = .ok (.iconst 1, 1) := by decide +kernel
theorem dX5_swapCell_62 : decode cX5_swapCell 62 = .ok (.goto 4, 3) := by decide +kernel
theorem dX5_swapCell_65 : decode cX5_swapCell 65 = .ok (.iconst 0, 1) := by decide +kernel
theorem dX5_swapCell_66 : decode cX5_swapCell 66 = .ok (.invokevirtual 217, 3) := by decide +kernel
theorem dX5_swapCell_69 : decode cX5_swapCell 69 = .ok (.iconst 0, 1) := by decide +kernel
theorem dX5_swapCell_70 : decode cX5_swapCell 70 = .ok (.ireturn, 1) := by decide +kernel
theorem dX5_failureOfReading_0 : decode cX5_failureOfReading 0 = .ok (.aload_n 1, 1) := by decide +kernel
theorem dX5_failureOfReading_1 : decode cX5_failureOfReading 1 = .ok (.getfield 74, 3) := by decide +kernel
theorem dX5_failureOfReading_4 : decode cX5_failureOfReading 4 = .ok (.getfield 78, 3) := by decide +kernel
theorem dX5_failureOfReading_7 : decode cX5_failureOfReading 7 = .ok (.ifCond .eq 31, 3) := by decide +kernel
theorem dX5_failureOfReading_10 : decode cX5_failureOfReading 10 = .ok (.aload_n 0, 1) := by decide +kernel
theorem dX5_failureOfReading_11 : decode cX5_failureOfReading 11 = .ok (.getfield 10, 3) := by decide +kernel
theorem dX5_failureOfReading_14 : decode cX5_failureOfReading 14 = .ok (.iload_n 2, 1) := by decide +kernel
theorem dX5_failureOfReading_15 : decode cX5_failureOfReading 15 = .ok (.invokevirtual 101, 3) := by decide +kernel
theorem dX5_failureOfReading_18 : decode cX5_failureOfReading 18 = .ok (.ifCond .eq 18, 3) := by decide +kernel
theorem dX5_failureOfReading_21 : decode cX5_failureOfReading 21 = .ok (.aload_n 1, 1) := by decide +kernel
theorem dX5_failureOfReading_22 : decode cX5_failureOfReading 22 = .ok (.getfield 74, 3) := by decide +kernel
theorem dX5_failureOfReading_25 : decode cX5_failureOfReading 25 = .ok (.iload_n 2, 1) := by decide +kernel
theorem dX5_failureOfReading_26 : decode cX5_failureOfReading 26 = .ok (.invokevirtual 227, 3) := by decide +kernel
theorem dX5_failureOfReading_29 : decode cX5_failureOfReading 29 = .ok (.ifCond .ne 7, 3) := by decide +kernel
theorem dX5_failureOfReading_32 : decode cX5_failureOfReading 32 = .ok (.iconst 5, 1) := by decide +kernel
theorem dX5_failureOfReading_33 : decode cX5_failureOfReading 33 = .ok (.goto 4, 3) := by decide +kernel
theorem dX5_failureOfReading_36 : decode cX5_failureOfReading 36 = .ok (.iconst 0, 1) := by decide +kernel
theorem dX5_failureOfReading_37 : decode cX5_failureOfReading 37 = .ok (.ireturn, 1) := by decide +kernel
theorem dX5_failureOfReading_38 : decode cX5_failureOfReading 38 = .ok (.aload_n 0, 1) := by decide +kernel
theorem dX5_failureOfReading_39 : decode cX5_failureOfReading 39 = .ok (.getfield 10, 3) := by decide +kernel
theorem dX5_failureOfReading_42 : decode cX5_failureOfReading 42 = .ok (.iload_n 2, 1) := by decide +kernel
theorem dX5_failureOfReading_43 : decode cX5_failureOfReading 43 = .ok (.invokevirtual 230, 3) := by decide +kernel
theorem dX5_failureOfReading_46 : decode cX5_failureOfReading 46 = .ok (.ifCond .eq 8, 3) := by decide +kernel
theorem dX5_failureOfReading_49 : decode cX5_failureOfReading 49 = .ok (.bipush 8, 2) := by decide +kernel
theorem dX5_failureOfReading_51 : decode cX5_failureOfReading 51 = .ok (.goto 4, 3) := by decide +kernel
theorem dX5_failureOfReading_54 : decode cX5_failureOfReading 54 = .ok (.iconst 0, 1) := by decide +kernel
theorem dX5_failureOfReading_55 : decode cX5_failureOfReading 55 = .ok (.ireturn, 1) := by decide +kernel
theorem dX5_readCell_0 : decode cX5_readCell 0 = .ok (.aload_n 1, 1) := by decide +kernel
theorem dX5_readCell_1 : decode cX5_readCell 1 = .ok (.getfield 74, 3) := by decide +kernel
theorem dX5_readCell_4 : decode cX5_readCell 4 = .ok (.getfield 78, 3) := by decide +kernel
theorem dX5_readCell_7 : decode cX5_readCell 7 = .ok (.ifCond .ne 16, 3) := by decide +kernel
theorem dX5_readCell_10 : decode cX5_readCell 10 = .ok (.aload_n 0, 1) := by decide +kernel
theorem dX5_readCell_11 : decode cX5_readCell 11 = .ok (.getfield 10, 3) := by decide +kernel
theorem dX5_readCell_14 : decode cX5_readCell 14 = .ok (.iload_n 2, 1) := by decide +kernel
theorem dX5_readCell_15 : decode cX5_readCell 15 = .ok (.aload_n 1, 1) := by decide +kernel
theorem dX5_readCell_16 : decode cX5_readCell 16 = .ok (.getfield 233, 3) := by decide +kernel
theorem dX5_readCell_19 : decode cX5_readCell 19 = .ok (.invokevirtual 236, 3) := by decide +kernel
theorem dX5_readCell_22 : decode cX5_readCell 22 = .ok (.ireturn, 1) := by decide +kernel
theorem dX5_readCell_23 : decode cX5_readCell 23 = .ok (.aload_n 1, 1) := by decide +kernel
theorem dX5_readCell_24 : decode cX5_readCell 24 = .ok (.getfield 74, 3) := by decide +kernel
theorem dX5_readCell_27 : decode cX5_readCell 27 = .ok (.iload_n 2, 1) := by decide +kernel
theorem dX5_readCell_28 : decode cX5_readCell 28 = .ok (.invokevirtual 227, 3) := by decide +kernel
theorem dX5_readCell_31 : decode cX5_readCell 31 = .ok (.ifCond .eq 12, 3) := by decide +kernel
theorem dX5_readCell_34 : decode cX5_readCell 34 = .ok (.aload_n 1, 1) := by decide +kernel
theorem dX5_readCell_35 : decode cX5_readCell 35 = .ok (.getfield 74, 3) := by decide +kernel
theorem dX5_readCell_38 : decode cX5_readCell 38 = .ok (.iload_n 2, 1) := by decide +kernel
theorem dX5_readCell_39 : decode cX5_readCell 39 = .ok (.invokevirtual 239, 3) := by decide +kernel
theorem dX5_readCell_42 : decode cX5_readCell 42 = .ok (.ireturn, 1) := by decide +kernel
theorem dX5_readCell_43 : decode cX5_readCell 43 = .ok (.aload_n 0, 1) := by decide +kernel
theorem dX5_readCell_44 : decode cX5_readCell 44 = .ok (.getfield 10, 3) := by decide +kernel
theorem dX5_readCell_47 : decode cX5_readCell 47 = .ok (.iload_n 2, 1) := by decide +kernel
theorem dX5_readCell_48 : decode cX5_readCell 48 = .ok (.invokevirtual 98, 3) := by decide +kernel
theorem dX5_readCell_51 : decode cX5_readCell 51 = .ok (.istore_n 3, 1) := by decide +kernel
theorem dX5_readCell_52 : decode cX5_readCell 52 = .ok (.aload_n 1, 1) := by decide +kernel
theorem dX5_readCell_53 : decode cX5_readCell 53 = .ok (.getfield 74, 3) := by decide +kernel
theorem dX5_readCell_56 : decode cX5_readCell 56 = .ok (.iload_n 2, 1) := by decide +kernel
theorem dX5_readCell_57 : decode cX5_readCell 57 = .ok (.iload_n 3, 1) := by decide +kernel
theorem dX5_readCell_58 : decode cX5_readCell 58 = .ok (.invokevirtual 242, 3) := by decide +kernel
theorem dX5_readCell_61 : decode cX5_readCell 61 = .ok (.iload_n 3, 1) := by decide +kernel
theorem dX5_readCell_62 : decode cX5_readCell 62 = .ok (.ireturn, 1) := by decide +kernel
theorem dX5_putCell_0 : decode cX5_putCell 0 = .ok (.aload_n 1, 1) := by decide +kernel
theorem dX5_putCell_1 : decode cX5_putCell 1 = .ok (.getfield 74, 3) := by decide +kernel
theorem dX5_putCell_4 : decode cX5_putCell 4 = .ok (.getfield 78, 3) := by decide +kernel
theorem dX5_putCell_7 : decode cX5_putCell 7 = .ok (.ifCond .eq 15, 3) := by decide +kernel
theorem dX5_putCell_10 : decode cX5_putCell 10 = .ok (.aload_n 1, 1) := by decide +kernel
theorem dX5_putCell_11 : decode cX5_putCell 11 = .ok (.getfield 74, 3) := by decide +kernel
theorem dX5_putCell_14 : decode cX5_putCell 14 = .ok (.iload_n 2, 1) := by decide +kernel
theorem dX5_putCell_15 : decode cX5_putCell 15 = .ok (.iload_n 3, 1) := by decide +kernel
theorem dX5_putCell_16 : decode cX5_putCell 16 = .ok (.invokevirtual 245, 3) := by decide +kernel
theorem dX5_putCell_19 : decode cX5_putCell 19 = .ok (.goto 16, 3) := by decide +kernel
theorem dX5_putCell_22 : decode cX5_putCell 22 = .ok (.aload_n 0, 1) := by decide +kernel
theorem dX5_putCell_23 : decode cX5_putCell 23 = .ok (.getfield 10, 3) := by decide +kernel
theorem dX5_putCell_26 : decode cX5_putCell 26 = .ok (.aload_n 1, 1) := by decide +kernel
theorem dX5_putCell_27 : decode cX5_putCell 27 = .ok (.getfield 233, 3) := by decide +kernel
theorem dX5_putCell_30 : decode cX5_putCell 30 = .ok (.iload_n 2, 1) := by decide +kernel
theorem dX5_putCell_31 : decode cX5_putCell 31 = .ok (.iload_n 3, 1) := by decide +kernel
theorem dX5_putCell_32 : decode cX5_putCell 32 = .ok (.invokevirtual 248, 3) := by decide +kernel
theorem dX5_putCell_35 : decode cX5_putCell 35 = .ok (.return_, 1) := by decide +kernel
theorem dX5_endAtom_0 : decode cX5_endAtom 0 = .ok (.aload_n 1, 1) := by decide +kernel
theorem dX5_endAtom_1 : decode cX5_endAtom 1 = .ok (.getfield 74, 3) := by decide +kernel
theorem dX5_endAtom_4 : decode cX5_endAtom 4 = .ok (.astore_n 2, 1) := by decide +kernel
theorem dX5_endAtom_5 : decode cX5_endAtom 5 = .ok (.aload_n 2, 1) := by decide +kernel
theorem dX5_endAtom_6 : decode cX5_endAtom 6 = .ok (.getfield 78, 3) := by decide +kernel
theorem dX5_endAtom_9 : decode cX5_endAtom 9 = .ok (.ifCond .eq 14, 3) := by decide +kernel
theorem dX5_endAtom_12 : decode cX5_endAtom 12 = .ok (.aload_n 1, 1) := by decide +kernel
theorem dX5_endAtom_13 : decode cX5_endAtom 13 = .ok (.getfield 71, 3) := by decide +kernel
theorem dX5_endAtom_16 : decode cX5_endAtom 16 = .ok (.aload_n 2, 1) := by decide +kernel
theorem dX5_endAtom_17 : decode cX5_endAtom 17 = .ok (.getfield 251, 3) := by decide +kernel
theorem dX5_endAtom_20 : decode cX5_endAtom 20 = .ok (.if_icmp .le 5, 3) := by decide +kernel
theorem dX5_endAtom_23 : decode cX5_endAtom 23 = .ok (.iconst 5, 1) := by decide +kernel
theorem dX5_endAtom_24 : decode cX5_endAtom 24 = .ok (.ireturn, 1) := by decide +kernel
theorem dX5_endAtom_25 : decode cX5_endAtom 25 = .ok (.aload_n 0, 1) := by decide +kernel
theorem dX5_endAtom_26 : decode cX5_endAtom 26 = .ok (.aload_n 2, 1) := by decide +kernel
theorem dX5_endAtom_27 : decode cX5_endAtom 27 = .ok (.invokevirtual 254, 3) := by decide +kernel
theorem dX5_endAtom_30 : decode cX5_endAtom 30 = .ok (.ifCond .eq 9, 3) := by decide +kernel
theorem dX5_endAtom_33 : decode cX5_endAtom 33 = .ok (.aload_n 1, 1) := by decide +kernel
theorem dX5_endAtom_34 : decode cX5_endAtom 34 = .ok (.invokevirtual 258, 3) := by decide +kernel
theorem dX5_endAtom_37 : decode cX5_endAtom 37 = .ok (.iconst 0, 1) := by decide +kernel
theorem dX5_endAtom_38 : decode cX5_endAtom 38 = .ok (.ireturn, 1) := by decide +kernel
theorem dX5_endAtom_39 : decode cX5_endAtom 39 = .ok (.iconst 0, 1) := by decide +kernel
theorem dX5_endAtom_40 : decode cX5_endAtom 40 = .ok (.istore_n 3, 1) := by decide +kernel
theorem dX5_endAtom_41 : decode cX5_endAtom 41 = .ok (.iload_n 3, 1) := by decide +kernel
theorem dX5_endAtom_42 : decode cX5_endAtom 42 = .ok (.bipush 8, 2) := by decide +kernel
theorem dX5_endAtom_44 : decode cX5_endAtom 44 = .ok (.if_icmp .ge 34, 3) := by decide +kernel
theorem dX5_endAtom_47 : decode cX5_endAtom 47 = .ok (.aload_n 2, 1) := by decide +kernel
theorem dX5_endAtom_48 : decode cX5_endAtom 48 = .ok (.iload_n 3, 1) := by decide +kernel
theorem dX5_endAtom_49 : decode cX5_endAtom 49 = .ok (.invokevirtual 227, 3) := by decide +kernel
theorem dX5_endAtom_52 : decode cX5_endAtom 52 = .ok (.ifCond .eq 20, 3) := by decide +kernel
theorem dX5_endAtom_55 : decode cX5_endAtom 55 = .ok (.aload_n 0, 1) := by decide +kernel
theorem dX5_endAtom_56 : decode cX5_endAtom 56 = .ok (.getfield 10, 3) := by decide +kernel
theorem dX5_endAtom_59 : decode cX5_endAtom 59 = .ok (.aload_n 1, 1) := by decide +kernel
theorem dX5_endAtom_60 : decode cX5_endAtom 60 = .ok (.getfield 233, 3) := by decide +kernel
theorem dX5_endAtom_63 : decode cX5_endAtom 63 = .ok (.iload_n 3, 1) := by decide +kernel
theorem dX5_endAtom_64 : decode cX5_endAtom 64 = .ok (.aload_n 2, 1) := by decide +kernel
theorem dX5_endAtom_65 : decode cX5_endAtom 65 = .ok (.iload_n 3, 1) := by decide +kernel
theorem dX5_endAtom_66 : decode cX5_endAtom 66 = .ok (.invokevirtual 239, 3) := by decide +kernel
theorem dX5_endAtom_69 : decode cX5_endAtom 69 = .ok (.invokevirtual 248, 3) := by decide +kernel
theorem dX5_endAtom_72 : decode cX5_endAtom 72 = .ok (.iinc 3 1, 3) := by decide +kernel
theorem dX5_endAtom_75 : decode cX5_endAtom 75 = .ok (.goto (-34), 3) := by decide +kernel
theorem dX5_endAtom_78 : decode cX5_endAtom 78 = .ok (.aload_n 2, 1) := by decide +kernel
theorem dX5_endAtom_79 : decode cX5_endAtom 79 = .ok (.iconst 0, 1) := by decide +kernel
theorem dX5_endAtom_80 : decode cX5_endAtom 80 = .ok (.putfield 78, 3) := by decide +kernel
theorem dX5_endAtom_83 : decode cX5_endAtom 83 = .ok (.iconst 0, 1) := by decide +kernel
theorem dX5_endAtom_84 : decode cX5_endAtom 84 = .ok (.ireturn, 1) := by decide +kernel
theorem dX5_isOvertaken_0 : decode cX5_isOvertaken 0 = .ok (.iconst 0, 1) := by decide +kernel
theorem dX5_isOvertaken_1 : decode cX5_isOvertaken 1 = .ok (.istore_n 2, 1) := by decide +kernel
theorem dX5_isOvertaken_2 : decode cX5_isOvertaken 2 = .ok (.iload_n 2, 1) := by decide +kernel
theorem dX5_isOvertaken_3 : decode cX5_isOvertaken 3 = .ok (.bipush 8, 2) := by decide +kernel
theorem dX5_isOvertaken_5 : decode cX5_isOvertaken 5 = .ok (.if_icmp .ge 46, 3) := by decide +kernel
theorem dX5_isOvertaken_8 : decode cX5_isOvertaken 8 = .ok (.aload_n 1, 1) := by decide +kernel
theorem dX5_isOvertaken_9 : decode cX5_isOvertaken 9 = .ok (.iload_n 2, 1) := by decide +kernel
theorem dX5_isOvertaken_10 : decode cX5_isOvertaken 10 = .ok (.invokevirtual 261, 3) := by decide +kernel
theorem dX5_isOvertaken_13 : decode cX5_isOvertaken 13 = .ok (.ifCond .eq 32, 3) := by decide +kernel
theorem dX5_isOvertaken_16 : decode cX5_isOvertaken 16 = .ok (.aload_n 0, 1) := by decide +kernel
theorem dX5_isOvertaken_17 : decode cX5_isOvertaken 17 = .ok (.getfield 10, 3) := by decide +kernel
theorem dX5_isOvertaken_20 : decode cX5_isOvertaken 20 = .ok (.iload_n 2, 1) := by decide +kernel
theorem dX5_isOvertaken_21 : decode cX5_isOvertaken 21 = .ok (.invokevirtual 101, 3) := by decide +kernel
theorem dX5_isOvertaken_24 : decode cX5_isOvertaken 24 = .ok (.ifCond .ne 19, 3) := by decide +kernel
theorem dX5_isOvertaken_27 : decode cX5_isOvertaken 27 = .ok (.aload_n 0, 1) := by decide +kernel
theorem dX5_isOvertaken_28 : decode cX5_isOvertaken 28 = .ok (.getfield 10, 3) := by decide +kernel
theorem dX5_isOvertaken_31 : decode cX5_isOvertaken 31 = .ok (.iload_n 2, 1) := by decide +kernel
theorem dX5_isOvertaken_32 : decode cX5_isOvertaken 32 = .ok (.invokevirtual 98, 3) := by decide +kernel
theorem dX5_isOvertaken_35 : decode cX5_isOvertaken 35 = .ok (.aload_n 1, 1) := by decide +kernel
theorem dX5_isOvertaken_36 : decode cX5_isOvertaken 36 = .ok (.iload_n 2, 1) := by decide +kernel
theorem dX5_isOvertaken_37 : decode cX5_isOvertaken 37 = .ok (.invokevirtual 264, 3) := by decide +kernel
theorem dX5_isOvertaken_40 : decode cX5_isOvertaken 40 = .ok (.if_icmp .eq 5, 3) := by decide +kernel
theorem dX5_isOvertaken_43 : decode cX5_isOvertaken 43 = .ok (.iconst 1, 1) := by decide +kernel
theorem dX5_isOvertaken_44 : decode cX5_isOvertaken 44 = .ok (.ireturn, 1) := by decide +kernel
theorem dX5_isOvertaken_45 : decode cX5_isOvertaken 45 = .ok (.iinc 2 1, 3) := by decide +kernel
theorem dX5_isOvertaken_48 : decode cX5_isOvertaken 48 = .ok (.goto (-46), 3) := by decide +kernel
theorem dX5_isOvertaken_51 : decode cX5_isOvertaken 51 = .ok (.iconst 0, 1) := by decide +kernel
theorem dX5_isOvertaken_52 : decode cX5_isOvertaken 52 = .ok (.ireturn, 1) := by decide +kernel
theorem dX6_init_0 : decode cX6_init 0 = .ok (.aload_n 0, 1) := by decide +kernel
theorem dX6_init_1 : decode cX6_init 1 = .ok (.invokespecial 1, 3) := by decide +kernel
theorem dX6_init_4 : decode cX6_init 4 = .ok (.aload_n 0, 1) := by decide +kernel
theorem dX6_init_5 : decode cX6_init 5 = .ok (.bipush 8, 2) := by decide +kernel
theorem dX6_init_7 : decode cX6_init 7 = .ok (.newarray .int, 2) := by decide +kernel
theorem dX6_init_9 : decode cX6_init 9 = .ok (.putfield 7, 3) := by decide +kernel
theorem dX6_init_12 : decode cX6_init 12 = .ok (.aload_n 0, 1) := by decide +kernel
theorem dX6_init_13 : decode cX6_init 13 = .ok (.bipush 8, 2) := by decide +kernel
theorem dX6_init_15 : decode cX6_init 15 = .ok (.newarray .boolean, 2) := by decide +kernel
theorem dX6_init_17 : decode cX6_init 17 = .ok (.putfield 13, 3) := by decide +kernel
theorem dX6_init_20 : decode cX6_init 20 = .ok (.aload_n 0, 1) := by decide +kernel
theorem dX6_init_21 : decode cX6_init 21 = .ok (.bipush 8, 2) := by decide +kernel
theorem dX6_init_23 : decode cX6_init 23 = .ok (.newarray .boolean, 2) := by decide +kernel
theorem dX6_init_25 : decode cX6_init 25 = .ok (.putfield 17, 3) := by decide +kernel
theorem dX6_init_28 : decode cX6_init 28 = .ok (.aload_n 0, 1) := by decide +kernel
theorem dX6_init_29 : decode cX6_init 29 = .ok (.iconst 4, 1) := by decide +kernel
theorem dX6_init_30 : decode cX6_init 30 = .ok (.newarray .int, 2) := by decide +kernel
theorem dX6_init_32 : decode cX6_init 32 = .ok (.putfield 20, 3) := by decide +kernel
theorem dX6_init_35 : decode cX6_init 35 = .ok (.aload_n 0, 1) := by decide +kernel
theorem dX6_init_36 : decode cX6_init 36 = .ok (.bipush 32, 2) := by decide +kernel
theorem dX6_init_38 : decode cX6_init 38 = .ok (.newarray .int, 2) := by decide +kernel
theorem dX6_init_40 : decode cX6_init 40 = .ok (.putfield 23, 3) := by decide +kernel
theorem dX6_init_43 : decode cX6_init 43 = .ok (.aload_n 0, 1) := by decide +kernel
theorem dX6_init_44 : decode cX6_init 44 = .ok (.iconst 4, 1) := by decide +kernel
theorem dX6_init_45 : decode cX6_init 45 = .ok (.newarray .boolean, 2) := by decide +kernel
theorem dX6_init_47 : decode cX6_init 47 = .ok (.putfield 26, 3) := by decide +kernel
theorem dX6_init_50 : decode cX6_init 50 = .ok (.aload_n 0, 1) := by decide +kernel
theorem dX6_init_51 : decode cX6_init 51 = .ok (.iconst 3, 1) := by decide +kernel
theorem dX6_init_52 : decode cX6_init 52 = .ok (.newarray .int, 2) := by decide +kernel
theorem dX6_init_54 : decode cX6_init 54 = .ok (.putfield 29, 3) := by decide +kernel
theorem dX6_init_57 : decode cX6_init 57 = .ok (.aload_n 0, 1) := by decide +kernel
theorem dX6_init_58 : decode cX6_init 58 = .ok (.bipush 72, 2) := by decide +kernel
theorem dX6_init_60 : decode cX6_init 60 = .ok (.newarray .int, 2) := by decide +kernel
theorem dX6_init_62 : decode cX6_init 62 = .ok (.putfield 32, 3) := by decide +kernel
theorem dX6_init_65 : decode cX6_init 65 = .ok (.aload_n 0, 1) := by decide +kernel
theorem dX6_init_66 : decode cX6_init 66 = .ok (.bipush 72, 2) := by decide +kernel
theorem dX6_init_68 : decode cX6_init 68 = .ok (.newarray .int, 2) := by decide +kernel
theorem dX6_init_70 : decode cX6_init 70 = .ok (.putfield 35, 3) := by decide +kernel
theorem dX6_init_73 : decode cX6_init 73 = .ok (.aload_n 0, 1) := by decide +kernel
theorem dX6_init_74 : decode cX6_init 74 = .ok (.bipush 72, 2) := by decide +kernel
theorem dX6_init_76 : decode cX6_init 76 = .ok (.newarray .int, 2) := by decide +kernel
theorem dX6_init_78 : decode cX6_init 78 = .ok (.putfield 38, 3) := by decide +kernel
theorem dX6_init_81 : decode cX6_init 81 = .ok (.aload_n 0, 1) := by decide +kernel
theorem dX6_init_82 : decode cX6_init 82 = .ok (.bipush 72, 2) := by decide +kernel
theorem dX6_init_84 : decode cX6_init 84 = .ok (.newarray .int, 2) := by decide +kernel
theorem dX6_init_86 : decode cX6_init 86 = .ok (.putfield 41, 3) := by decide +kernel
theorem dX6_init_89 : decode cX6_init 89 = .ok (.aload_n 0, 1) := by decide +kernel
theorem dX6_init_90 : decode cX6_init 90 = .ok (.bipush 12, 2) := by decide +kernel
theorem dX6_init_92 : decode cX6_init 92 = .ok (.newarray .int, 2) := by decide +kernel
theorem dX6_init_94 : decode cX6_init 94 = .ok (.putfield 44, 3) := by decide +kernel
theorem dX6_init_97 : decode cX6_init 97 = .ok (.aload_n 0, 1) := by decide +kernel
theorem dX6_init_98 : decode cX6_init 98 = .ok (.iconst 3, 1) := by decide +kernel
theorem dX6_init_99 : decode cX6_init 99 = .ok (.newarray .int, 2) := by decide +kernel
theorem dX6_init_101 : decode cX6_init 101 = .ok (.putfield 47, 3) := by decide +kernel
theorem dX6_init_104 : decode cX6_init 104 = .ok (.aload_n 0, 1) := by decide +kernel
theorem dX6_init_105 : decode cX6_init 105 = .ok (.iconst 3, 1) := by decide +kernel
theorem dX6_init_106 : decode cX6_init 106 = .ok (.newarray .int, 2) := by decide +kernel
theorem dX6_init_108 : decode cX6_init 108 = .ok (.putfield 50, 3) := by decide +kernel
theorem dX6_init_111 : decode cX6_init 111 = .ok (.aload_n 0, 1) := by decide +kernel
theorem dX6_init_112 : decode cX6_init 112 = .ok (.iconst 3, 1) := by decide +kernel
theorem dX6_init_113 : decode cX6_init 113 = .ok (.newarray .boolean, 2) := by decide +kernel
theorem dX6_init_115 : decode cX6_init 115 = .ok (.putfield 53, 3) := by decide +kernel
theorem dX6_init_118 : decode cX6_init 118 = .ok (.aload_n 0, 1) := by decide +kernel
theorem dX6_init_119 : decode cX6_init 119 = .ok (.iconst 3, 1) := by decide +kernel
theorem dX6_init_120 : decode cX6_init 120 = .ok (.newarray .int, 2) := by decide +kernel
theorem dX6_init_122 : decode cX6_init 122 = .ok (.putfield 56, 3) := by decide +kernel
theorem dX6_init_125 : decode cX6_init 125 = .ok (.aload_n 0, 1) := by decide +kernel
theorem dX6_init_126 : decode cX6_init 126 = .ok (.iconst 3, 1) := by decide +kernel
theorem dX6_init_127 : decode cX6_init 127 = .ok (.newarray .int, 2) := by decide +kernel
theorem dX6_init_129 : decode cX6_init 129 = .ok (.putfield 59, 3) := by decide +kernel
theorem dX6_init_132 : decode cX6_init 132 = .ok (.aload_n 0, 1) := by decide +kernel
theorem dX6_init_133 : decode cX6_init 133 = .ok (.iconst 3, 1) := by decide +kernel
theorem dX6_init_134 : decode cX6_init 134 = .ok (.newarray .int, 2) := by decide +kernel
theorem dX6_init_136 : decode cX6_init 136 = .ok (.putfield 62, 3) := by decide +kernel
theorem dX6_init_139 : decode cX6_init 139 = .ok (.aload_n 0, 1) := by decide +kernel
theorem dX6_init_140 : decode cX6_init 140 = .ok (.bipush 12, 2) := by decide +kernel
theorem dX6_init_142 : decode cX6_init 142 = .ok (.newarray .int, 2) := by decide +kernel
theorem dX6_init_144 : decode cX6_init 144 = .ok (.putfield 65, 3) := by decide +kernel
theorem dX6_init_147 : decode cX6_init 147 = .ok (.aload_n 0, 1) := by decide +kernel
theorem dX6_init_148 : decode cX6_init 148 = .ok (.iconst 3, 1) := by decide +kernel
theorem dX6_init_149 : decode cX6_init 149 = .ok (.newarray .boolean, 2) := by decide +kernel
theorem dX6_init_151 : decode cX6_init 151 = .ok (.putfield 68, 3) := by decide +kernel
theorem dX6_init_154 : decode cX6_init 154 = .ok (.aload_n 0, 1) := by decide +kernel
theorem dX6_init_155 : decode cX6_init 155 = .ok (.iconst 3, 1) := by decide +kernel
theorem dX6_init_156 : decode cX6_init 156 = .ok (.newarray .int, 2) := by decide +kernel
theorem dX6_init_158 : decode cX6_init 158 = .ok (.putfield 71, 3) := by decide +kernel
theorem dX6_init_161 : decode cX6_init 161 = .ok (.aload_n 0, 1) := by decide +kernel
theorem dX6_init_162 : decode cX6_init 162 = .ok (.iconst 3, 1) := by decide +kernel
theorem dX6_init_163 : decode cX6_init 163 = .ok (.newarray .int, 2) := by decide +kernel
theorem dX6_init_165 : decode cX6_init 165 = .ok (.putfield 74, 3) := by decide +kernel
theorem dX6_init_168 : decode cX6_init 168 = .ok (.aload_n 0, 1) := by decide +kernel
theorem dX6_init_169 : decode cX6_init 169 = .ok (.bipush 12, 2) := by decide +kernel
theorem dX6_init_171 : decode cX6_init 171 = .ok (.newarray .int, 2) := by decide +kernel
theorem dX6_init_173 : decode cX6_init 173 = .ok (.putfield 77, 3) := by decide +kernel
theorem dX6_init_176 : decode cX6_init 176 = .ok (.aload_n 0, 1) := by decide +kernel
theorem dX6_init_177 : decode cX6_init 177 = .ok (.bipush 24, 2) := by decide +kernel
theorem dX6_init_179 : decode cX6_init 179 = .ok (.newarray .boolean, 2) := by decide +kernel
theorem dX6_init_181 : decode cX6_init 181 = .ok (.putfield 80, 3) := by decide +kernel
theorem dX6_init_184 : decode cX6_init 184 = .ok (.aload_n 0, 1) := by decide +kernel
theorem dX6_init_185 : decode cX6_init 185 = .ok (.bipush 24, 2) := by decide +kernel
theorem dX6_init_187 : decode cX6_init 187 = .ok (.newarray .int, 2) := by decide +kernel
theorem dX6_init_189 : decode cX6_init 189 = .ok (.putfield 83, 3) := by decide +kernel
theorem dX6_init_192 : decode cX6_init 192 = .ok (.aload_n 0, 1) := by decide +kernel
theorem dX6_init_193 : decode cX6_init 193 = .ok (.bipush 24, 2) := by decide +kernel
theorem dX6_init_195 : decode cX6_init 195 = .ok (.newarray .boolean, 2) := by decide +kernel
theorem dX6_init_197 : decode cX6_init 197 = .ok (.putfield 86, 3) := by decide +kernel
theorem dX6_init_200 : decode cX6_init 200 = .ok (.aload_n 0, 1) := by decide +kernel
theorem dX6_init_201 : decode cX6_init 201 = .ok (.bipush 24, 2) := by decide +kernel
theorem dX6_init_203 : decode cX6_init 203 = .ok (.newarray .int, 2) := by decide +kernel
theorem dX6_init_205 : decode cX6_init 205 = .ok (.putfield 89, 3) := by decide +kernel
theorem dX6_init_208 : decode cX6_init 208 = .ok (.aload_n 0, 1) := by decide +kernel
theorem dX6_init_209 : decode cX6_init 209 = .ok (.bipush 30, 2) := by decide +kernel
theorem dX6_init_211 : decode cX6_init 211 = .ok (.newarray .int, 2) := by decide +kernel
theorem dX6_init_213 : decode cX6_init 213 = .ok (.putfield 92, 3) := by decide +kernel
theorem dX6_init_216 : decode cX6_init 216 = .ok (.aload_n 0, 1) := by decide +kernel
theorem dX6_init_217 : decode cX6_init 217 = .ok (.bipush 30, 2) := by decide +kernel
theorem dX6_init_219 : decode cX6_init 219 = .ok (.newarray .int, 2) := by decide +kernel
theorem dX6_init_221 : decode cX6_init 221 = .ok (.putfield 95, 3) := by decide +kernel
theorem dX6_init_224 : decode cX6_init 224 = .ok (.aload_n 0, 1) := by decide +kernel
theorem dX6_init_225 : decode cX6_init 225 = .ok (.bipush 30, 2) := by decide +kernel
theorem dX6_init_227 : decode cX6_init 227 = .ok (.newarray .int, 2) := by decide +kernel
theorem dX6_init_229 : decode cX6_init 229 = .ok (.putfield 98, 3) := by decide +kernel
theorem dX6_init_232 : decode cX6_init 232 = .ok (.aload_n 0, 1) := by decide +kernel
theorem dX6_init_233 : decode cX6_init 233 = .ok (.bipush 9, 2) := by decide +kernel
theorem dX6_init_235 : decode cX6_init 235 = .ok (.newarray .int, 2) := by decide +kernel
theorem dX6_init_237 : decode cX6_init 237 = .ok (.putfield 101, 3) := by decide +kernel
theorem dX6_init_240 : decode cX6_init 240 = .ok (.aload_n 0, 1) := by decide +kernel
theorem dX6_init_241 : decode cX6_init 241 = .ok (.invokevirtual 104, 3) := by decide +kernel
theorem dX6_init_244 : decode cX6_init 244 = .ok (.return_, 1) := by decide +kernel
theorem dX6_within_0 : decode cX6_within 0 = .ok (.iload_n 0, 1) := by decide +kernel
theorem dX6_within_1 : decode cX6_within 1 = .ok (.iload_n 1, 1) := by decide +kernel
theorem dX6_within_2 : decode cX6_within 2 = .ok (.if_icmp .lt 12, 3) := by decide +kernel
theorem dX6_within_5 : decode cX6_within 5 = .ok (.iload_n 0, 1) := by decide +kernel
theorem dX6_within_6 : decode cX6_within 6 = .ok (.iload_n 2, 1) := by decide +kernel
theorem dX6_within_7 : decode cX6_within 7 = .ok (.if_icmp .gt 7, 3) := by decide +kernel
theorem dX6_within_10 : decode cX6_within 10 = .ok (.iconst 1, 1) := by decide +kernel
theorem dX6_within_11 : decode cX6_within 11 = .ok (.goto 4, 3) := by decide +kernel
theorem dX6_within_14 : decode cX6_within 14 = .ok (.iconst 0, 1) := by decide +kernel
theorem dX6_within_15 : decode cX6_within 15 = .ok (.ireturn, 1) := by decide +kernel
theorem dX6_begin_0 : decode cX6_begin 0 = .ok (.iconst 0, 1) := by decide +kernel
theorem dX6_begin_1 : decode cX6_begin 1 = .ok (.istore_n 1, 1) := by decide +kernel
theorem dX6_begin_2 : decode cX6_begin 2 = .ok (.iload_n 1, 1) := by decide +kernel
theorem dX6_begin_3 : decode cX6_begin 3 = .ok (.bipush 8, 2) := by decide +kernel
theorem dX6_begin_5 : decode cX6_begin 5 = .ok (.if_icmp .ge 30, 3) := by decide +kernel
theorem dX6_begin_8 : decode cX6_begin 8 = .ok (.aload_n 0, 1) := by decide +kernel
theorem dX6_begin_9 : decode cX6_begin 9 = .ok (.getfield 7, 3) := by decide +kernel
theorem dX6_begin_12 : decode cX6_begin 12 = .ok (.iload_n 1, 1) := by decide +kernel
theorem dX6_begin_13 : decode cX6_begin 13 = .ok (.iconst 0, 1) := by decide +kernel
theorem dX6_begin_14 : decode cX6_begin 14 = .ok (.iastore, 1) := by decide +kernel
theorem dX6_begin_15 : decode cX6_begin 15 = .ok (.aload_n 0, 1) := by decide +kernel
theorem dX6_begin_16 : decode cX6_begin 16 = .ok (.getfield 13, 3) := by decide +kernel
theorem dX6_begin_19 : decode cX6_begin 19 = .ok (.iload_n 1, 1) := by decide +kernel
theorem dX6_begin_20 : decode cX6_begin 20 = .ok (.iconst 0, 1) := by decide +kernel
theorem dX6_begin_21 : decode cX6_begin 21 = .ok (.bastore, 1) := by decide +kernel
theorem dX6_begin_22 : decode cX6_begin 22 = .ok (.aload_n 0, 1) := by decide +kernel
theorem dX6_begin_23 : decode cX6_begin 23 = .ok (.getfield 17, 3) := by decide +kernel
theorem dX6_begin_26 : decode cX6_begin 26 = .ok (.iload_n 1, 1) := by decide +kernel
theorem dX6_begin_27 : decode cX6_begin 27 = .ok (.iconst 0, 1) := by decide +kernel
theorem dX6_begin_28 : decode cX6_begin 28 = .ok (.bastore, 1) := by decide +kernel
theorem dX6_begin_29 : decode cX6_begin 29 = .ok (.iinc 1 1, 3) := by decide +kernel
theorem dX6_begin_32 : decode cX6_begin 32 = .ok (.goto (-30), 3) := by decide +kernel
theorem dX6_begin_35 : decode cX6_begin 35 = .ok (.iconst 0, 1) := by decide +kernel
theorem dX6_begin_36 : decode cX6_begin 36 = .ok (.istore_n 1, 1) := by decide +kernel
theorem dX6_begin_37 : decode cX6_begin 37 = .ok (.iload_n 1, 1) := by decide +kernel
theorem dX6_begin_38 : decode cX6_begin 38 = .ok (.iconst 4, 1) := by decide +kernel
theorem dX6_begin_39 : decode cX6_begin 39 = .ok (.if_icmp .ge 23, 3) := by decide +kernel
theorem dX6_begin_42 : decode cX6_begin 42 = .ok (.aload_n 0, 1) := by decide +kernel
theorem dX6_begin_43 : decode cX6_begin 43 = .ok (.getfield 20, 3) := by decide +kernel
theorem dX6_begin_46 : decode cX6_begin 46 = .ok (.iload_n 1, 1) := by decide +kernel
theorem dX6_begin_47 : decode cX6_begin 47 = .ok (.iconst (-1), 1) := by decide +kernel
theorem dX6_begin_48 : decode cX6_begin 48 = .ok (.iastore, 1) := by decide +kernel
theorem dX6_begin_49 : decode cX6_begin 49 = .ok (.aload_n 0, 1) := by decide +kernel
theorem dX6_begin_50 : decode cX6_begin 50 = .ok (.getfield 26, 3) := by decide +kernel
theorem dX6_begin_53 : decode cX6_begin 53 = .ok (.iload_n 1, 1) := by decide +kernel
theorem dX6_begin_54 : decode cX6_begin 54 = .ok (.iconst 0, 1) := by decide +kernel
theorem dX6_begin_55 : decode cX6_begin 55 = .ok (.bastore, 1) := by decide +kernel
theorem dX6_begin_56 : decode cX6_begin 56 = .ok (.iinc 1 1, 3) := by decide +kernel
theorem dX6_begin_59 : decode cX6_begin 59 = .ok (.goto (-22), 3) := by decide +kernel
theorem dX6_begin_62 : decode cX6_begin 62 = .ok (.iconst 0, 1) := by decide +kernel
theorem dX6_begin_63 : decode cX6_begin 63 = .ok (.istore_n 1, 1) := by decide +kernel
theorem dX6_begin_64 : decode cX6_begin 64 = .ok (.iload_n 1, 1) := by decide +kernel
theorem dX6_begin_65 : decode cX6_begin 65 = .ok (.iconst 3, 1) := by decide +kernel
theorem dX6_begin_66 : decode cX6_begin 66 = .ok (.if_icmp .ge 82, 3) := by decide +kernel
theorem dX6_begin_69 : decode cX6_begin 69 = .ok (.aload_n 0, 1) := by decide +kernel
theorem dX6_begin_70 : decode cX6_begin 70 = .ok (.getfield 47, 3) := by decide +kernel
theorem dX6_begin_73 : decode cX6_begin 73 = .ok (.iload_n 1, 1) := by decide +kernel
theorem dX6_begin_74 : decode cX6_begin 74 = .ok (.iconst 0, 1) := by decide +kernel
theorem dX6_begin_75 : decode cX6_begin 75 = .ok (.iastore, 1) := by decide +kernel
theorem dX6_begin_76 : decode cX6_begin 76 = .ok (.aload_n 0, 1) := by decide +kernel
theorem dX6_begin_77 : decode cX6_begin 77 = .ok (.getfield 50, 3) := by decide +kernel
theorem dX6_begin_80 : decode cX6_begin 80 = .ok (.iload_n 1, 1) := by decide +kernel
theorem dX6_begin_81 : decode cX6_begin 81 = .ok (.iconst 0, 1) := by decide +kernel
theorem dX6_begin_82 : decode cX6_begin 82 = .ok (.iastore, 1) := by decide +kernel
theorem dX6_begin_83 : decode cX6_begin 83 = .ok (.aload_n 0, 1) := by decide +kernel
theorem dX6_begin_84 : decode cX6_begin 84 = .ok (.getfield 53, 3) := by decide +kernel
theorem dX6_begin_87 : decode cX6_begin 87 = .ok (.iload_n 1, 1) := by decide +kernel
theorem dX6_begin_88 : decode cX6_begin 88 = .ok (.iconst 0, 1) := by decide +kernel
theorem dX6_begin_89 : decode cX6_begin 89 = .ok (.bastore, 1) := by decide +kernel
theorem dX6_begin_90 : decode cX6_begin 90 = .ok (.aload_n 0, 1) := by decide +kernel
theorem dX6_begin_91 : decode cX6_begin 91 = .ok (.getfield 56, 3) := by decide +kernel
theorem dX6_begin_94 : decode cX6_begin 94 = .ok (.iload_n 1, 1) := by decide +kernel
theorem dX6_begin_95 : decode cX6_begin 95 = .ok (.iconst 0, 1) := by decide +kernel
theorem dX6_begin_96 : decode cX6_begin 96 = .ok (.iastore, 1) := by decide +kernel
theorem dX6_begin_97 : decode cX6_begin 97 = .ok (.aload_n 0, 1) := by decide +kernel
theorem dX6_begin_98 : decode cX6_begin 98 = .ok (.getfield 59, 3) := by decide +kernel
theorem dX6_begin_101 : decode cX6_begin 101 = .ok (.iload_n 1, 1) := by decide +kernel
theorem dX6_begin_102 : decode cX6_begin 102 = .ok (.iconst 0, 1) := by decide +kernel
theorem dX6_begin_103 : decode cX6_begin 103 = .ok (.iastore, 1) := by decide +kernel
theorem dX6_begin_104 : decode cX6_begin 104 = .ok (.aload_n 0, 1) := by decide +kernel
theorem dX6_begin_105 : decode cX6_begin 105 = .ok (.getfield 62, 3) := by decide +kernel
theorem dX6_begin_108 : decode cX6_begin 108 = .ok (.iload_n 1, 1) := by decide +kernel
theorem dX6_begin_109 : decode cX6_begin 109 = .ok (.iconst 0, 1) := by decide +kernel
theorem dX6_begin_110 : decode cX6_begin 110 = .ok (.iastore, 1) := by decide +kernel
theorem dX6_begin_111 : decode cX6_begin 111 = .ok (.aload_n 0, 1) := by decide +kernel
theorem dX6_begin_112 : decode cX6_begin 112 = .ok (.getfield 68, 3) := by decide +kernel
theorem dX6_begin_115 : decode cX6_begin 115 = .ok (.iload_n 1, 1) := by decide +kernel
theorem dX6_begin_116 : decode cX6_begin 116 = .ok (.iconst 0, 1) := by decide +kernel
theorem dX6_begin_117 : decode cX6_begin 117 = .ok (.bastore, 1) := by decide +kernel
theorem dX6_begin_118 : decode cX6_begin 118 = .ok (.iconst 0, 1) := by decide +kernel
theorem dX6_begin_119 : decode cX6_begin 119 = .ok (.istore_n 2, 1) := by decide +kernel
theorem dX6_begin_120 : decode cX6_begin 120 = .ok (.iload_n 2, 1) := by decide +kernel
theorem dX6_begin_121 : decode cX6_begin 121 = .ok (.iconst 4, 1) := by decide +kernel
theorem dX6_begin_122 : decode cX6_begin 122 = .ok (.if_icmp .ge 20, 3) := by decide +kernel
theorem dX6_begin_125 : decode cX6_begin 125 = .ok (.aload_n 0, 1) := by decide +kernel
theorem dX6_begin_126 : decode cX6_begin 126 = .ok (.getfield 44, 3) := by decide +kernel
theorem dX6_begin_129 : decode cX6_begin 129 = .ok (.iconst 4, 1) := by decide +kernel
theorem dX6_begin_130 : decode cX6_begin 130 = .ok (.iload_n 1, 1) := by decide +kernel
theorem dX6_begin_131 : decode cX6_begin 131 = .ok (.imul, 1) := by decide +kernel
theorem dX6_begin_132 : decode cX6_begin 132 = .ok (.iload_n 2, 1) := by decide +kernel
theorem dX6_begin_133 : decode cX6_begin 133 = .ok (.iadd, 1) := by decide +kernel
theorem dX6_begin_134 : decode cX6_begin 134 = .ok (.iconst 0, 1) := by decide +kernel
theorem dX6_begin_135 : decode cX6_begin 135 = .ok (.iastore, 1) := by decide +kernel
theorem dX6_begin_136 : decode cX6_begin 136 = .ok (.iinc 2 1, 3) := by decide +kernel
theorem dX6_begin_139 : decode cX6_begin 139 = .ok (.goto (-19), 3) := by decide +kernel
theorem dX6_begin_142 : decode cX6_begin 142 = .ok (.iinc 1 1, 3) := by decide +kernel
theorem dX6_begin_145 : decode cX6_begin 145 = .ok (.goto (-81), 3) := by decide +kernel
theorem dX6_begin_148 : decode cX6_begin 148 = .ok (.aload_n 0, 1) := by decide +kernel
theorem dX6_begin_149 : decode cX6_begin 149 = .ok (.iconst 0, 1) := by decide +kernel
theorem dX6_begin_150 : decode cX6_begin 150 = .ok (.putfield 107, 3) := by decide +kernel
theorem dX6_begin_153 : decode cX6_begin 153 = .ok (.return_, 1) := by decide +kernel
theorem dX6_isRegister_0 : decode cX6_isRegister 0 = .ok (.iload_n 0, 1) := by decide +kernel
theorem dX6_isRegister_1 : decode cX6_isRegister 1 = .ok (.iconst 0, 1) := by decide +kernel
theorem dX6_isRegister_2 : decode cX6_isRegister 2 = .ok (.iconst 3, 1) := by decide +kernel
theorem dX6_isRegister_3 : decode cX6_isRegister 3 = .ok (.invokestatic 111, 3) := by decide +kernel
theorem dX6_isRegister_6 : decode cX6_isRegister 6 = .ok (.ireturn, 1) := by decide +kernel
theorem dX6_isCell_0 : decode cX6_isCell 0 = .ok (.iload_n 0, 1) := by decide +kernel
theorem dX6_isCell_1 : decode cX6_isCell 1 = .ok (.iconst 0, 1) := by decide +kernel
theorem dX6_isCell_2 : decode cX6_isCell 2 = .ok (.bipush 7, 2) := by decide +kernel
theorem dX6_isCell_4 : decode cX6_isCell 4 = .ok (.invokestatic 111, 3) := by decide +kernel
theorem dX6_isCell_7 : decode cX6_isCell 7 = .ok (.ireturn, 1) := by decide +kernel
theorem dX6_isPlaceIn_0 : decode cX6_isPlaceIn 0 = .ok (.iload_n 0, 1) := by decide +kernel
theorem dX6_isPlaceIn_1 : decode cX6_isPlaceIn 1 = .ok (.iconst 0, 1) := by decide +kernel
theorem dX6_isPlaceIn_2 : decode cX6_isPlaceIn 2 = .ok (.bipush 24, 2) := by decide +kernel
theorem dX6_isPlaceIn_4 : decode cX6_isPlaceIn 4 = .ok (.invokestatic 111, 3) := by decide +kernel
theorem dX6_isPlaceIn_7 : decode cX6_isPlaceIn 7 = .ok (.ireturn, 1) := by decide +kernel
theorem dX6_fits_0 : decode cX6_fits 0 = .ok (.iload_n 0, 1) := by decide +kernel
theorem dX6_fits_1 : decode cX6_fits 1 = .ok (.tableswitch 268 0 19 #[95, 100, 120, 140, 140, 140, 140, 140, 140, 167, 194, 199, 268, 268, 194, 268, 95, 219, 241, 248], 95) := by decide +kernel
theorem dX6_fits_96 : decode cX6_fits 96 = .ok (.iload_n 1, 1) := by decide +kernel
theorem dX6_fits_97 : decode cX6_fits 97 = .ok (.invokestatic 115, 3) := by decide +kernel
theorem dX6_fits_100 : decode cX6_fits 100 = .ok (.ireturn, 1) := by decide +kernel
theorem dX6_fits_101 : decode cX6_fits 101 = .ok (.iload_n 1, 1) := by decide +kernel
theorem dX6_fits_102 : decode cX6_fits 102 = .ok (.invokestatic 115, 3) := by decide +kernel
theorem dX6_fits_105 : decode cX6_fits 105 = .ok (.ifCond .eq 14, 3) := by decide +kernel
theorem dX6_fits_108 : decode cX6_fits 108 = .ok (.iload_n 2, 1) := by decide +kernel
theorem dX6_fits_109 : decode cX6_fits 109 = .ok (.invokestatic 119, 3) := by decide +kernel
theorem dX6_fits_112 : decode cX6_fits 112 = .ok (.ifCond .eq 7, 3) := by decide +kernel
theorem dX6_fits_115 : decode cX6_fits 115 = .ok (.iconst 1, 1) := by decide +kernel
theorem dX6_fits_116 : decode cX6_fits 116 = .ok (.goto 4, 3) := by decide +kernel
theorem dX6_fits_119 : decode cX6_fits 119 = .ok (.iconst 0, 1) := by decide +kernel
theorem dX6_fits_120 : decode cX6_fits 120 = .ok (.ireturn, 1) := by decide +kernel
theorem dX6_fits_121 : decode cX6_fits 121 = .ok (.iload_n 1, 1) := by decide +kernel
theorem dX6_fits_122 : decode cX6_fits 122 = .ok (.invokestatic 119, 3) := by decide +kernel
theorem dX6_fits_125 : decode cX6_fits 125 = .ok (.ifCond .eq 14, 3) := by decide +kernel
theorem dX6_fits_128 : decode cX6_fits 128 = .ok (.iload_n 2, 1) := by decide +kernel
theorem dX6_fits_129 : decode cX6_fits 129 = .ok (.invokestatic 115, 3) := by decide +kernel
theorem dX6_fits_132 : decode cX6_fits 132 = .ok (.ifCond .eq 7, 3) := by decide +kernel
theorem dX6_fits_135 : decode cX6_fits 135 = .ok (.iconst 1, 1) := by decide +kernel
theorem dX6_fits_136 : decode cX6_fits 136 = .ok (.goto 4, 3) := by decide +kernel
theorem dX6_fits_139 : decode cX6_fits 139 = .ok (.iconst 0, 1) := by decide +kernel
theorem dX6_fits_140 : decode cX6_fits 140 = .ok (.ireturn, 1) := by decide +kernel
theorem dX6_fits_141 : decode cX6_fits 141 = .ok (.iload_n 1, 1) := by decide +kernel
theorem dX6_fits_142 : decode cX6_fits 142 = .ok (.invokestatic 115, 3) := by decide +kernel
theorem dX6_fits_145 : decode cX6_fits 145 = .ok (.ifCond .eq 21, 3) := by decide +kernel
theorem dX6_fits_148 : decode cX6_fits 148 = .ok (.iload_n 2, 1) := by decide +kernel
theorem dX6_fits_149 : decode cX6_fits 149 = .ok (.invokestatic 115, 3) := by decide +kernel
theorem dX6_fits_152 : decode cX6_fits 152 = .ok (.ifCond .eq 14, 3) := by decide +kernel
theorem dX6_fits_155 : decode cX6_fits 155 = .ok (.iload_n 3, 1) := by decide +kernel
theorem dX6_fits_156 : decode cX6_fits 156 = .ok (.invokestatic 115, 3) := by decide +kernel
theorem dX6_fits_159 : decode cX6_fits 159 = .ok (.ifCond .eq 7, 3) := by decide +kernel
theorem dX6_fits_162 : decode cX6_fits 162 = .ok (.iconst 1, 1) := by decide +kernel
theorem dX6_fits_163 : decode cX6_fits 163 = .ok (.goto 4, 3) := by decide +kernel
theorem dX6_fits_166 : decode cX6_fits 166 = .ok (.iconst 0, 1) := by decide +kernel
theorem dX6_fits_167 : decode cX6_fits 167 = .ok (.ireturn, 1) := by decide +kernel
theorem dX6_fits_168 : decode cX6_fits 168 = .ok (.iload_n 1, 1) := by decide +kernel
theorem dX6_fits_169 : decode cX6_fits 169 = .ok (.invokestatic 119, 3) := by decide +kernel
theorem dX6_fits_172 : decode cX6_fits 172 = .ok (.ifCond .eq 21, 3) := by decide +kernel
theorem dX6_fits_175 : decode cX6_fits 175 = .ok (.iload_n 2, 1) := by decide +kernel
theorem dX6_fits_176 : decode cX6_fits 176 = .ok (.invokestatic 115, 3) := by decide +kernel
theorem dX6_fits_179 : decode cX6_fits 179 = .ok (.ifCond .eq 14, 3) := by decide +kernel
theorem dX6_fits_182 : decode cX6_fits 182 = .ok (.iload_n 3, 1) := by decide +kernel
theorem dX6_fits_183 : decode cX6_fits 183 = .ok (.invokestatic 115, 3) := by decide +kernel
theorem dX6_fits_186 : decode cX6_fits 186 = .ok (.ifCond .eq 7, 3) := by decide +kernel
theorem dX6_fits_189 : decode cX6_fits 189 = .ok (.iconst 1, 1) := by decide +kernel
theorem dX6_fits_190 : decode cX6_fits 190 = .ok (.goto 4, 3) := by decide +kernel
theorem dX6_fits_193 : decode cX6_fits 193 = .ok (.iconst 0, 1) := by decide +kernel
theorem dX6_fits_194 : decode cX6_fits 194 = .ok (.ireturn, 1) := by decide +kernel
theorem dX6_fits_195 : decode cX6_fits 195 = .ok (.iload_n 1, 1) := by decide +kernel
theorem dX6_fits_196 : decode cX6_fits 196 = .ok (.invokestatic 122, 3) := by decide +kernel
theorem dX6_fits_199 : decode cX6_fits 199 = .ok (.ireturn, 1) := by decide +kernel
theorem dX6_fits_200 : decode cX6_fits 200 = .ok (.iload_n 1, 1) := by decide +kernel
theorem dX6_fits_201 : decode cX6_fits 201 = .ok (.invokestatic 115, 3) := by decide +kernel
theorem dX6_fits_204 : decode cX6_fits 204 = .ok (.ifCond .eq 14, 3) := by decide +kernel
theorem dX6_fits_207 : decode cX6_fits 207 = .ok (.iload_n 2, 1) := by decide +kernel
theorem dX6_fits_208 : decode cX6_fits 208 = .ok (.invokestatic 122, 3) := by decide +kernel
theorem dX6_fits_211 : decode cX6_fits 211 = .ok (.ifCond .eq 7, 3) := by decide +kernel
theorem dX6_fits_214 : decode cX6_fits 214 = .ok (.iconst 1, 1) := by decide +kernel
theorem dX6_fits_215 : decode cX6_fits 215 = .ok (.goto 4, 3) := by decide +kernel
theorem dX6_fits_218 : decode cX6_fits 218 = .ok (.iconst 0, 1) := by decide +kernel
theorem dX6_fits_219 : decode cX6_fits 219 = .ok (.ireturn, 1) := by decide +kernel
theorem dX6_fits_220 : decode cX6_fits 220 = .ok (.iload_n 1, 1) := by decide +kernel
theorem dX6_fits_221 : decode cX6_fits 221 = .ok (.iconst 0, 1) := by decide +kernel
theorem dX6_fits_222 : decode cX6_fits 222 = .ok (.iconst 3, 1) := by decide +kernel
theorem dX6_fits_223 : decode cX6_fits 223 = .ok (.invokestatic 111, 3) := by decide +kernel
theorem dX6_fits_226 : decode cX6_fits 226 = .ok (.ifCond .eq 14, 3) := by decide +kernel
theorem dX6_fits_229 : decode cX6_fits 229 = .ok (.iload_n 2, 1) := by decide +kernel
theorem dX6_fits_230 : decode cX6_fits 230 = .ok (.invokestatic 115, 3) := by decide +kernel
theorem dX6_fits_233 : decode cX6_fits 233 = .ok (.ifCond .eq 7, 3) := by decide +kernel
theorem dX6_fits_236 : decode cX6_fits 236 = .ok (.iconst 1, 1) := by decide +kernel
theorem dX6_fits_237 : decode cX6_fits 237 = .ok (.goto 4, 3) := by decide +kernel
theorem dX6_fits_240 : decode cX6_fits 240 = .ok (.iconst 0, 1) := by decide +kernel
theorem dX6_fits_241 : decode cX6_fits 241 = .ok (.ireturn, 1) := by decide +kernel
theorem dX6_fits_242 : decode cX6_fits 242 = .ok (.iload_n 1, 1) := by decide +kernel
theorem dX6_fits_243 : decode cX6_fits 243 = .ok (.iconst 0, 1) := by decide +kernel
theorem dX6_fits_244 : decode cX6_fits 244 = .ok (.iconst 3, 1) := by decide +kernel
theorem dX6_fits_245 : decode cX6_fits 245 = .ok (.invokestatic 111, 3) := by decide +kernel
theorem dX6_fits_248 : decode cX6_fits 248 = .ok (.ireturn, 1) := by decide +kernel
theorem dX6_fits_249 : decode cX6_fits 249 = .ok (.iload_n 1, 1) := by decide +kernel
theorem dX6_fits_250 : decode cX6_fits 250 = .ok (.invokestatic 119, 3) := by decide +kernel
theorem dX6_fits_253 : decode cX6_fits 253 = .ok (.ifCond .eq 14, 3) := by decide +kernel
theorem dX6_fits_256 : decode cX6_fits 256 = .ok (.iload_n 2, 1) := by decide +kernel
theorem dX6_fits_257 : decode cX6_fits 257 = .ok (.invokestatic 119, 3) := by decide +kernel
theorem dX6_fits_260 : decode cX6_fits 260 = .ok (.ifCond .eq 7, 3) := by decide +kernel
theorem dX6_fits_263 : decode cX6_fits 263 = .ok (.iconst 1, 1) := by decide +kernel
theorem dX6_fits_264 : decode cX6_fits 264 = .ok (.goto 4, 3) := by decide +kernel
theorem dX6_fits_267 : decode cX6_fits 267 = .ok (.iconst 0, 1) := by decide +kernel
theorem dX6_fits_268 : decode cX6_fits 268 = .ok (.ireturn, 1) := by decide +kernel
theorem dX6_fits_269 : decode cX6_fits 269 = .ok (.iload_n 0, 1) := by decide +kernel
theorem dX6_fits_270 : decode cX6_fits 270 = .ok (.bipush 12, 2) := by decide +kernel
theorem dX6_fits_272 : decode cX6_fits 272 = .ok (.bipush 15, 2) := by decide +kernel
theorem dX6_fits_274 : decode cX6_fits 274 = .ok (.invokestatic 111, 3) := by decide +kernel
theorem dX6_fits_277 : decode cX6_fits 277 = .ok (.ireturn, 1) := by decide +kernel
theorem dX6_act_0 : decode cX6_act 0 = .ok (.iload_n 1, 1) := by decide +kernel
theorem dX6_act_1 : decode cX6_act 1 = .ok (.iconst 0, 1) := by decide +kernel
theorem dX6_act_2 : decode cX6_act 2 = .ok (.iconst 2, 1) := by decide +kernel
theorem dX6_act_3 : decode cX6_act 3 = .ok (.invokestatic 111, 3) := by decide +kernel
theorem dX6_act_6 : decode cX6_act 6 = .ok (.ifCond .eq 15, 3) := by decide +kernel
theorem dX6_act_9 : decode cX6_act 9 = .ok (.iload_n 2, 1) := by decide +kernel
theorem dX6_act_10 : decode cX6_act 10 = .ok (.iload_n 3, 1) := by decide +kernel
theorem dX6_act_11 : decode cX6_act 11 = .ok (.iload 4, 2) := by decide +kernel
theorem dX6_act_13 : decode cX6_act 13 = .ok (.iload 5, 2) := by decide +kernel
theorem dX6_act_15 : decode cX6_act 15 = .ok (.invokestatic 125, 3) := by decide +kernel
theorem dX6_act_18 : decode cX6_act 18 = .ok (.ifCond .ne 6, 3) := by decide +kernel
theorem dX6_act_21 : decode cX6_act 21 = .ok (.bipush (-2), 2) := by decide +kernel
theorem dX6_act_23 : decode cX6_act 23 = .ok (.ireturn, 1) := by decide +kernel
theorem dX6_act_24 : decode cX6_act 24 = .ok (.aload_n 0, 1) := by decide +kernel
theorem dX6_act_25 : decode cX6_act 25 = .ok (.getfield 56, 3) := by decide +kernel
theorem dX6_act_28 : decode cX6_act 28 = .ok (.iload_n 1, 1) := by decide +kernel
theorem dX6_act_29 : decode cX6_act 29 = .ok (.iaload, 1) := by decide +kernel
theorem dX6_act_30 : decode cX6_act 30 = .ok (.ifCond .le 6, 3) := by decide +kernel
theorem dX6_act_33 : decode cX6_act 33 = .ok (.bipush (-3), 2) := by decide +kernel
theorem dX6_act_35 : decode cX6_act 35 = .ok (.ireturn, 1) := by decide +kernel
theorem dX6_act_36 : decode cX6_act 36 = .ok (.aload_n 0, 1) := by decide +kernel
theorem dX6_act_37 : decode cX6_act 37 = .ok (.getfield 29, 3) := by decide +kernel
theorem dX6_act_40 : decode cX6_act 40 = .ok (.iload_n 1, 1) := by decide +kernel
theorem dX6_act_41 : decode cX6_act 41 = .ok (.iaload, 1) := by decide +kernel
theorem dX6_act_42 : decode cX6_act 42 = .ok (.bipush 24, 2) := by decide +kernel
theorem dX6_act_44 : decode cX6_act 44 = .ok (.if_icmp .ne 6, 3) := by decide +kernel
theorem dX6_act_47 : decode cX6_act 47 = .ok (.bipush (-4), 2) := by decide +kernel
theorem dX6_act_49 : decode cX6_act 49 = .ok (.ireturn, 1) := by decide +kernel
theorem dX6_act_50 : decode cX6_act 50 = .ok (.bipush 24, 2) := by decide +kernel
theorem dX6_act_52 : decode cX6_act 52 = .ok (.iload_n 1, 1) := by decide +kernel
theorem dX6_act_53 : decode cX6_act 53 = .ok (.imul, 1) := by decide +kernel
theorem dX6_act_54 : decode cX6_act 54 = .ok (.aload_n 0, 1) := by decide +kernel
theorem dX6_act_55 : decode cX6_act 55 = .ok (.getfield 29, 3) := by decide +kernel
theorem dX6_act_58 : decode cX6_act 58 = .ok (.iload_n 1, 1) := by decide +kernel
theorem dX6_act_59 : decode cX6_act 59 = .ok (.iaload, 1) := by decide +kernel
theorem dX6_act_60 : decode cX6_act 60 = .ok (.iadd, 1) := by decide +kernel
theorem dX6_act_61 : decode cX6_act 61 = .ok (.istore 6, 2) := by decide +kernel
theorem dX6_act_63 : decode cX6_act 63 = .ok (.aload_n 0, 1) := by decide +kernel
theorem dX6_act_64 : decode cX6_act 64 = .ok (.getfield 32, 3) := by decide +kernel
theorem dX6_act_67 : decode cX6_act 67 = .ok (.iload 6, 2) := by decide +kernel
theorem dX6_act_69 : decode cX6_act 69 = .ok (.iload_n 2, 1) := by decide +kernel
theorem dX6_act_70 : decode cX6_act 70 = .ok (.iastore, 1) := by decide +kernel
theorem dX6_act_71 : decode cX6_act 71 = .ok (.aload_n 0, 1) := by decide +kernel
theorem dX6_act_72 : decode cX6_act 72 = .ok (.getfield 35, 3) := by decide +kernel
theorem dX6_act_75 : decode cX6_act 75 = .ok (.iload 6, 2) := by decide +kernel
theorem dX6_act_77 : decode cX6_act 77 = .ok (.iload_n 3, 1) := by decide +kernel
theorem dX6_act_78 : decode cX6_act 78 = .ok (.iastore, 1) := by decide +kernel
theorem dX6_act_79 : decode cX6_act 79 = .ok (.aload_n 0, 1) := by decide +kernel
theorem dX6_act_80 : decode cX6_act 80 = .ok (.getfield 38, 3) := by decide +kernel
theorem dX6_act_83 : decode cX6_act 83 = .ok (.iload 6, 2) := by decide +kernel
theorem dX6_act_85 : decode cX6_act 85 = .ok (.iload 4, 2) := by decide +kernel
theorem dX6_act_87 : decode cX6_act 87 = .ok (.iastore, 1) := by decide +kernel
theorem dX6_act_88 : decode cX6_act 88 = .ok (.aload_n 0, 1) := by decide +kernel
theorem dX6_act_89 : decode cX6_act 89 = .ok (.getfield 41, 3) := by decide +kernel
theorem dX6_act_92 : decode cX6_act 92 = .ok (.iload 6, 2) := by decide +kernel
theorem dX6_act_94 : decode cX6_act 94 = .ok (.iload 5, 2) := by decide +kernel
theorem dX6_act_96 : decode cX6_act 96 = .ok (.iastore, 1) := by decide +kernel
theorem dX6_act_97 : decode cX6_act 97 = .ok (.aload_n 0, 1) := by decide +kernel
theorem dX6_act_98 : decode cX6_act 98 = .ok (.getfield 29, 3) := by decide +kernel
theorem dX6_act_101 : decode cX6_act 101 = .ok (.iload_n 1, 1) := by decide +kernel
theorem dX6_act_102 : decode cX6_act 102 = .ok (.dup2, 1) := by decide +kernel
theorem dX6_act_103 : decode cX6_act 103 = .ok (.iaload, 1) := by decide +kernel
theorem dX6_act_104 : decode cX6_act 104 = .ok (.iconst 1, 1) := by decide +kernel
theorem dX6_act_105 : decode cX6_act 105 = .ok (.iadd, 1) := by decide +kernel
theorem dX6_act_106 : decode cX6_act 106 = .ok (.iastore, 1) := by decide +kernel
theorem dX6_act_107 : decode cX6_act 107 = .ok (.aload_n 0, 1) := by decide +kernel
theorem dX6_act_108 : decode cX6_act 108 = .ok (.getfield 29, 3) := by decide +kernel
theorem dX6_act_111 : decode cX6_act 111 = .ok (.iload_n 1, 1) := by decide +kernel
theorem dX6_act_112 : decode cX6_act 112 = .ok (.iaload, 1) := by decide +kernel
theorem dX6_act_113 : decode cX6_act 113 = .ok (.ireturn, 1) := by decide +kernel
theorem dX6_stateOf_0 : decode cX6_stateOf 0 = .ok (.aload_n 0, 1) := by decide +kernel
theorem dX6_stateOf_1 : decode cX6_stateOf 1 = .ok (.getfield 53, 3) := by decide +kernel
theorem dX6_stateOf_4 : decode cX6_stateOf 4 = .ok (.iload_n 1, 1) := by decide +kernel
theorem dX6_stateOf_5 : decode cX6_stateOf 5 = .ok (.baload, 1) := by decide +kernel
theorem dX6_stateOf_6 : decode cX6_stateOf 6 = .ok (.ifCond .eq 5, 3) := by decide +kernel
theorem dX6_stateOf_9 : decode cX6_stateOf 9 = .ok (.iconst 2, 1) := by decide +kernel
theorem dX6_stateOf_10 : decode cX6_stateOf 10 = .ok (.ireturn, 1) := by decide +kernel
theorem dX6_stateOf_11 : decode cX6_stateOf 11 = .ok (.aload_n 0, 1) := by decide +kernel
theorem dX6_stateOf_12 : decode cX6_stateOf 12 = .ok (.getfield 47, 3) := by decide +kernel
theorem dX6_stateOf_15 : decode cX6_stateOf 15 = .ok (.iload_n 1, 1) := by decide +kernel
theorem dX6_stateOf_16 : decode cX6_stateOf 16 = .ok (.iaload, 1) := by decide +kernel
theorem dX6_stateOf_17 : decode cX6_stateOf 17 = .ok (.aload_n 0, 1) := by decide +kernel
theorem dX6_stateOf_18 : decode cX6_stateOf 18 = .ok (.getfield 29, 3) := by decide +kernel
theorem dX6_stateOf_21 : decode cX6_stateOf 21 = .ok (.iload_n 1, 1) := by decide +kernel
theorem dX6_stateOf_22 : decode cX6_stateOf 22 = .ok (.iaload, 1) := by decide +kernel
theorem dX6_stateOf_23 : decode cX6_stateOf 23 = .ok (.if_icmp .lt 25, 3) := by decide +kernel
theorem dX6_stateOf_26 : decode cX6_stateOf 26 = .ok (.aload_n 0, 1) := by decide +kernel
theorem dX6_stateOf_27 : decode cX6_stateOf 27 = .ok (.getfield 62, 3) := by decide +kernel
theorem dX6_stateOf_30 : decode cX6_stateOf 30 = .ok (.iload_n 1, 1) := by decide +kernel
theorem dX6_stateOf_31 : decode cX6_stateOf 31 = .ok (.iaload, 1) := by decide +kernel
theorem dX6_stateOf_32 : decode cX6_stateOf 32 = .ok (.ifCond .ne 16, 3) := by decide +kernel
theorem dX6_stateOf_35 : decode cX6_stateOf 35 = .ok (.aload_n 0, 1) := by decide +kernel
theorem dX6_stateOf_36 : decode cX6_stateOf 36 = .ok (.getfield 68, 3) := by decide +kernel
theorem dX6_stateOf_39 : decode cX6_stateOf 39 = .ok (.iload_n 1, 1) := by decide +kernel
theorem dX6_stateOf_40 : decode cX6_stateOf 40 = .ok (.baload, 1) := by decide +kernel
theorem dX6_stateOf_41 : decode cX6_stateOf 41 = .ok (.ifCond .ne 7, 3) := by decide +kernel
theorem dX6_stateOf_44 : decode cX6_stateOf 44 = .ok (.iconst 1, 1) := by decide +kernel
theorem dX6_stateOf_45 : decode cX6_stateOf 45 = .ok (.goto 4, 3) := by decide +kernel
theorem dX6_stateOf_48 : decode cX6_stateOf 48 = .ok (.iconst 0, 1) := by decide +kernel
theorem dX6_stateOf_49 : decode cX6_stateOf 49 = .ok (.ireturn, 1) := by decide +kernel
theorem dX6_note_0 : decode cX6_note 0 = .ok (.aload_n 0, 1) := by decide +kernel
theorem dX6_note_1 : decode cX6_note 1 = .ok (.getfield 92, 3) := by decide +kernel
theorem dX6_note_4 : decode cX6_note 4 = .ok (.aload_n 0, 1) := by decide +kernel
theorem dX6_note_5 : decode cX6_note 5 = .ok (.getfield 107, 3) := by decide +kernel
theorem dX6_note_8 : decode cX6_note 8 = .ok (.bipush 30, 2) := by decide +kernel
theorem dX6_note_10 : decode cX6_note 10 = .ok (.irem, 1) := by decide +kernel
theorem dX6_note_11 : decode cX6_note 11 = .ok (.iload_n 1, 1) := by decide +kernel
theorem dX6_note_12 : decode cX6_note 12 = .ok (.iastore, 1) := by decide +kernel
theorem dX6_note_13 : decode cX6_note 13 = .ok (.aload_n 0, 1) := by decide +kernel
theorem dX6_note_14 : decode cX6_note 14 = .ok (.getfield 95, 3) := by decide +kernel
theorem dX6_note_17 : decode cX6_note 17 = .ok (.aload_n 0, 1) := by decide +kernel
theorem dX6_note_18 : decode cX6_note 18 = .ok (.getfield 107, 3) := by decide +kernel
theorem dX6_note_21 : decode cX6_note 21 = .ok (.bipush 30, 2) := by decide +kernel
theorem dX6_note_23 : decode cX6_note 23 = .ok (.irem, 1) := by decide +kernel
theorem dX6_note_24 : decode cX6_note 24 = .ok (.iload_n 2, 1) := by decide +kernel
theorem dX6_note_25 : decode cX6_note 25 = .ok (.iastore, 1) := by decide +kernel
theorem dX6_note_26 : decode cX6_note 26 = .ok (.aload_n 0, 1) := by decide +kernel
theorem dX6_note_27 : decode cX6_note 27 = .ok (.getfield 98, 3) := by decide +kernel
theorem dX6_note_30 : decode cX6_note 30 = .ok (.aload_n 0, 1) := by decide +kernel
theorem dX6_note_31 : decode cX6_note 31 = .ok (.getfield 107, 3) := by decide +kernel
theorem dX6_note_34 : decode cX6_note 34 = .ok (.bipush 30, 2) := by decide +kernel
theorem dX6_note_36 : decode cX6_note 36 = .ok (.irem, 1) := by decide +kernel
theorem dX6_note_37 : decode cX6_note 37 = .ok (.iload_n 3, 1) := by decide +kernel
theorem dX6_note_38 : decode cX6_note 38 = .ok (.iastore, 1) := by decide +kernel
theorem dX6_note_39 : decode cX6_note 39 = .ok (.aload_n 0, 1) := by decide +kernel
theorem dX6_note_40 : decode cX6_note 40 = .ok (.dup, 1) := by decide +kernel
theorem dX6_note_41 : decode cX6_note 41 = .ok (.getfield 107, 3) := by decide +kernel
theorem dX6_note_44 : decode cX6_note 44 = .ok (.iconst 1, 1) := by decide +kernel
theorem dX6_note_45 : decode cX6_note 45 = .ok (.iadd, 1) := by decide +kernel
theorem dX6_note_46 : decode cX6_note 46 = .ok (.putfield 107, 3) := by decide +kernel
theorem dX6_note_49 : decode cX6_note 49 = .ok (.return_, 1) := by decide +kernel
theorem dX6_write_0 : decode cX6_write 0 = .ok (.aload_n 0, 1) := by decide +kernel
theorem dX6_write_1 : decode cX6_write 1 = .ok (.getfield 7, 3) := by decide +kernel
theorem dX6_write_4 : decode cX6_write 4 = .ok (.iload_n 2, 1) := by decide +kernel
theorem dX6_write_5 : decode cX6_write 5 = .ok (.iload_n 3, 1) := by decide +kernel
theorem dX6_write_6 : decode cX6_write 6 = .ok (.iastore, 1) := by decide +kernel
theorem dX6_write_7 : decode cX6_write 7 = .ok (.aload_n 0, 1) := by decide +kernel
theorem dX6_write_8 : decode cX6_write 8 = .ok (.getfield 13, 3) := by decide +kernel
theorem dX6_write_11 : decode cX6_write 11 = .ok (.iload_n 2, 1) := by decide +kernel
theorem dX6_write_12 : decode cX6_write 12 = .ok (.iconst 0, 1) := by decide +kernel
theorem dX6_write_13 : decode cX6_write 13 = .ok (.bastore, 1) := by decide +kernel
theorem dX6_write_14 : decode cX6_write 14 = .ok (.aload_n 0, 1) := by decide +kernel
theorem dX6_write_15 : decode cX6_write 15 = .ok (.iload_n 1, 1) := by decide +kernel
theorem dX6_write_16 : decode cX6_write 16 = .ok (.iload_n 2, 1) := by decide +kernel
theorem dX6_write_17 : decode cX6_write 17 = .ok (.iload_n 3, 1) := by decide +kernel
theorem dX6_write_18 : decode cX6_write 18 = .ok (.invokevirtual 129, 3) := by decide +kernel
theorem dX6_write_21 : decode cX6_write 21 = .ok (.return_, 1) := by decide +kernel
theorem dX6_readPlain_0 : decode cX6_readPlain 0 = .ok (.iconst 0, 1) := by decide +kernel
theorem dX6_readPlain_1 : decode cX6_readPlain 1 = .ok (.istore_n 3, 1) := by decide +kernel
theorem dX6_readPlain_2 : decode cX6_readPlain 2 = .ok (.iload_n 2, 1) := by decide +kernel
theorem dX6_readPlain_3 : decode cX6_readPlain 3 = .ok (.istore 4, 2) := by decide +kernel
theorem dX6_readPlain_5 : decode cX6_readPlain 5 = .ok (.iconst 0, 1) := by decide +kernel
theorem dX6_readPlain_6 : decode cX6_readPlain 6 = .ok (.istore 5, 2) := by decide +kernel
theorem dX6_readPlain_8 : decode cX6_readPlain 8 = .ok (.iconst 0, 1) := by decide +kernel
theorem dX6_readPlain_9 : decode cX6_readPlain 9 = .ok (.istore 6, 2) := by decide +kernel
theorem dX6_readPlain_11 : decode cX6_readPlain 11 = .ok (.iload 6, 2) := by decide +kernel
theorem dX6_readPlain_13 : decode cX6_readPlain 13 = .ok (.bipush 8, 2) := by decide +kernel
theorem dX6_readPlain_15 : decode cX6_readPlain 15 = .ok (.if_icmp .ge 17, 3) := by decide +kernel
theorem dX6_readPlain_18 : decode cX6_readPlain 18 = .ok (.aload_n 0, 1) := by decide +kernel
theorem dX6_readPlain_19 : decode cX6_readPlain 19 = .ok (.getfield 17, 3) := by decide +kernel
theorem dX6_readPlain_22 : decode cX6_readPlain 22 = .ok (.iload 6, 2) := by decide +kernel
theorem dX6_readPlain_24 : decode cX6_readPlain 24 = .ok (.iconst 0, 1) := by decide +kernel
theorem dX6_readPlain_25 : decode cX6_readPlain 25 = .ok (.bastore, 1) := by decide +kernel
theorem dX6_readPlain_26 : decode cX6_readPlain 26 = .ok (.iinc 6 1, 3) := by decide +kernel
theorem dX6_readPlain_29 : decode cX6_readPlain 29 = .ok (.goto (-18), 3) := by decide +kernel
theorem dX6_readPlain_32 : decode cX6_readPlain 32 = .ok (.aload_n 0, 1) := by decide +kernel
theorem dX6_readPlain_33 : decode cX6_readPlain 33 = .ok (.getfield 13, 3) := by decide +kernel
theorem dX6_readPlain_36 : decode cX6_readPlain 36 = .ok (.iload 4, 2) := by decide +kernel
theorem dX6_readPlain_38 : decode cX6_readPlain 38 = .ok (.baload, 1) := by decide +kernel
theorem dX6_readPlain_39 : decode cX6_readPlain 39 = .ok (.ifCond .eq 48, 3) := by decide +kernel
theorem dX6_readPlain_42 : decode cX6_readPlain 42 = .ok (.iload 5, 2) := by decide +kernel
theorem dX6_readPlain_44 : decode cX6_readPlain 44 = .ok (.ifCond .ne 43, 3) := by decide +kernel
theorem dX6_readPlain_47 : decode cX6_readPlain 47 = .ok (.aload_n 0, 1) := by decide +kernel
theorem dX6_readPlain_48 : decode cX6_readPlain 48 = .ok (.getfield 17, 3) := by decide +kernel
theorem dX6_readPlain_51 : decode cX6_readPlain 51 = .ok (.iload 4, 2) := by decide +kernel
theorem dX6_readPlain_53 : decode cX6_readPlain 53 = .ok (.baload, 1) := by decide +kernel
theorem dX6_readPlain_54 : decode cX6_readPlain 54 = .ok (.istore 5, 2) := by decide +kernel
theorem dX6_readPlain_56 : decode cX6_readPlain 56 = .ok (.aload_n 0, 1) := by decide +kernel
theorem dX6_readPlain_57 : decode cX6_readPlain 57 = .ok (.getfield 17, 3) := by decide +kernel
theorem dX6_readPlain_60 : decode cX6_readPlain 60 = .ok (.iload 4, 2) := by decide +kernel
theorem dX6_readPlain_62 : decode cX6_readPlain 62 = .ok (.iconst 1, 1) := by decide +kernel
theorem dX6_readPlain_63 : decode cX6_readPlain 63 = .ok (.bastore, 1) := by decide +kernel
theorem dX6_readPlain_64 : decode cX6_readPlain 64 = .ok (.aload_n 0, 1) := by decide +kernel
theorem dX6_readPlain_65 : decode cX6_readPlain 65 = .ok (.getfield 101, 3) := by decide +kernel
theorem dX6_readPlain_68 : decode cX6_readPlain 68 = .ok (.iload_n 3, 1) := by decide +kernel
theorem dX6_readPlain_69 : decode cX6_readPlain 69 = .ok (.iload 4, 2) := by decide +kernel
theorem dX6_readPlain_71 : decode cX6_readPlain 71 = .ok (.iastore, 1) := by decide +kernel
theorem dX6_readPlain_72 : decode cX6_readPlain 72 = .ok (.iinc 3 1, 3) := by decide +kernel
theorem dX6_readPlain_75 : decode cX6_readPlain 75 = .ok (.aload_n 0, 1) := by decide +kernel
theorem dX6_readPlain_76 : decode cX6_readPlain 76 = .ok (.getfield 7, 3) := by decide +kernel
theorem dX6_readPlain_79 : decode cX6_readPlain 79 = .ok (.iload 4, 2) := by decide +kernel
theorem dX6_readPlain_81 : decode cX6_readPlain 81 = .ok (.iaload, 1) := by decide +kernel
theorem dX6_readPlain_82 : decode cX6_readPlain 82 = .ok (.istore 4, 2) := by decide +kernel
theorem dX6_readPlain_84 : decode cX6_readPlain 84 = .ok (.goto (-52), 3) := by decide +kernel
theorem dX6_readPlain_87 : decode cX6_readPlain 87 = .ok (.iload 5, 2) := by decide +kernel
theorem dX6_readPlain_89 : decode cX6_readPlain 89 = .ok (.ifCond .eq 11, 3) := by decide +kernel
theorem dX6_readPlain_92 : decode cX6_readPlain 92 = .ok (.aload_n 0, 1) := by decide +kernel
theorem dX6_readPlain_93 : decode cX6_readPlain 93 = .ok (.bipush 8, 2) := by decide +kernel
theorem dX6_readPlain_95 : decode cX6_readPlain 95 = .ok (.putfield 133, 3) := by decide +kernel
theorem dX6_readPlain_98 : decode cX6_readPlain 98 = .ok (.iconst 0, 1) := by decide +kernel
theorem dX6_readPlain_99 : decode cX6_readPlain 99 = .ok (.ireturn, 1) := by decide +kernel
theorem dX6_readPlain_100 : decode cX6_readPlain 100 = .ok (.aload_n 0, 1) := by decide +kernel
theorem dX6_readPlain_101 : decode cX6_readPlain 101 = .ok (.getfield 7, 3) := by decide +kernel
theorem dX6_readPlain_104 : decode cX6_readPlain 104 = .ok (.iload 4, 2) := by decide +kernel
theorem dX6_readPlain_106 : decode cX6_readPlain 106 = .ok (.iaload, 1) := by decide +kernel
theorem dX6_readPlain_107 : decode cX6_readPlain 107 = .ok (.istore 6, 2) := by decide +kernel
theorem dX6_readPlain_109 : decode cX6_readPlain 109 = .ok (.iload_n 3, 1) := by decide +kernel
theorem dX6_readPlain_110 : decode cX6_readPlain 110 = .ok (.iconst 1, 1) := by decide +kernel
theorem dX6_readPlain_111 : decode cX6_readPlain 111 = .ok (.isub, 1) := by decide +kernel
theorem dX6_readPlain_112 : decode cX6_readPlain 112 = .ok (.istore 7, 2) := by decide +kernel
theorem dX6_readPlain_114 : decode cX6_readPlain 114 = .ok (.iload 7, 2) := by decide +kernel
theorem dX6_readPlain_116 : decode cX6_readPlain 116 = .ok (.ifCond .lt 31, 3) := by decide +kernel
theorem dX6_readPlain_119 : decode cX6_readPlain 119 = .ok (.iconst 2, 1) := by decide +kernel
theorem dX6_readPlain_120 : decode cX6_readPlain 120 = .ok (.iload 6, 2) := by decide +kernel
theorem dX6_readPlain_122 : decode cX6_readPlain 122 = .ok (.imul, 1) := by decide +kernel
theorem dX6_readPlain_123 : decode cX6_readPlain 123 = .ok (.iconst 1, 1) := by decide +kernel
theorem dX6_readPlain_124 : decode cX6_readPlain 124 = .ok (.iadd, 1) := by decide +kernel
theorem dX6_readPlain_125 : decode cX6_readPlain 125 = .ok (.istore 6, 2) := by decide +kernel
theorem dX6_readPlain_127 : decode cX6_readPlain 127 = .ok (.aload_n 0, 1) := by decide +kernel
theorem dX6_readPlain_128 : decode cX6_readPlain 128 = .ok (.iload_n 1, 1) := by decide +kernel
theorem dX6_readPlain_129 : decode cX6_readPlain 129 = .ok (.aload_n 0, 1) := by decide +kernel
theorem dX6_readPlain_130 : decode cX6_readPlain 130 = .ok (.getfield 101, 3) := by decide +kernel
theorem dX6_readPlain_133 : decode cX6_readPlain 133 = .ok (.iload 7, 2) := by decide +kernel
theorem dX6_readPlain_135 : decode cX6_readPlain 135 = .ok (.iaload, 1) := by decide +kernel
theorem dX6_readPlain_136 : decode cX6_readPlain 136 = .ok (.iload 6, 2) := by decide +kernel
theorem dX6_readPlain_138 : decode cX6_readPlain 138 = .ok (.invokevirtual 136, 3) := by decide +kernel
theorem dX6_readPlain_141 : decode cX6_readPlain 141 = .ok (.iinc 7 (-1), 3) := by decide +kernel
theorem dX6_readPlain_144 : decode cX6_readPlain 144 = .ok (.goto (-30), 3) := by decide +kernel
theorem dX6_readPlain_147 : decode cX6_readPlain 147 = .ok (.iload 6, 2) := by decide +kernel
theorem dX6_readPlain_149 : decode cX6_readPlain 149 = .ok (.ireturn, 1) := by decide +kernel
theorem dX6_read_0 : decode cX6_read 0 = .ok (.aload_n 0, 1) := by decide +kernel
theorem dX6_read_1 : decode cX6_read 1 = .ok (.getfield 68, 3) := by decide +kernel
theorem dX6_read_4 : decode cX6_read 4 = .ok (.iload_n 1, 1) := by decide +kernel
theorem dX6_read_5 : decode cX6_read 5 = .ok (.baload, 1) := by decide +kernel
theorem dX6_read_6 : decode cX6_read 6 = .ok (.ifCond .ne 10, 3) := by decide +kernel
theorem dX6_read_9 : decode cX6_read 9 = .ok (.aload_n 0, 1) := by decide +kernel
theorem dX6_read_10 : decode cX6_read 10 = .ok (.iload_n 1, 1) := by decide +kernel
theorem dX6_read_11 : decode cX6_read 11 = .ok (.iload_n 2, 1) := by decide +kernel
theorem dX6_read_12 : decode cX6_read 12 = .ok (.invokevirtual 139, 3) := by decide +kernel
theorem dX6_read_15 : decode cX6_read 15 = .ok (.ireturn, 1) := by decide +kernel
theorem dX6_read_16 : decode cX6_read 16 = .ok (.bipush 8, 2) := by decide +kernel
theorem dX6_read_18 : decode cX6_read 18 = .ok (.iload_n 1, 1) := by decide +kernel
theorem dX6_read_19 : decode cX6_read 19 = .ok (.imul, 1) := by decide +kernel
theorem dX6_read_20 : decode cX6_read 20 = .ok (.iload_n 2, 1) := by decide +kernel
theorem dX6_read_21 : decode cX6_read 21 = .ok (.iadd, 1) := by decide +kernel
theorem dX6_read_22 : decode cX6_read 22 = .ok (.istore_n 3, 1) := by decide +kernel
theorem dX6_read_23 : decode cX6_read 23 = .ok (.aload_n 0, 1) := by decide +kernel
theorem dX6_read_24 : decode cX6_read 24 = .ok (.getfield 86, 3) := by decide +kernel
theorem dX6_read_27 : decode cX6_read 27 = .ok (.iload_n 3, 1) := by decide +kernel
theorem dX6_read_28 : decode cX6_read 28 = .ok (.baload, 1) := by decide +kernel
theorem dX6_read_29 : decode cX6_read 29 = .ok (.ifCond .eq 10, 3) := by decide +kernel
theorem dX6_read_32 : decode cX6_read 32 = .ok (.aload_n 0, 1) := by decide +kernel
theorem dX6_read_33 : decode cX6_read 33 = .ok (.getfield 89, 3) := by decide +kernel
theorem dX6_read_36 : decode cX6_read 36 = .ok (.iload_n 3, 1) := by decide +kernel
theorem dX6_read_37 : decode cX6_read 37 = .ok (.iaload, 1) := by decide +kernel
theorem dX6_read_38 : decode cX6_read 38 = .ok (.ireturn, 1) := by decide +kernel
theorem dX6_read_39 : decode cX6_read 39 = .ok (.aload_n 0, 1) := by decide +kernel
theorem dX6_read_40 : decode cX6_read 40 = .ok (.getfield 13, 3) := by decide +kernel
theorem dX6_read_43 : decode cX6_read 43 = .ok (.iload_n 2, 1) := by decide +kernel
theorem dX6_read_44 : decode cX6_read 44 = .ok (.baload, 1) := by decide +kernel
theorem dX6_read_45 : decode cX6_read 45 = .ok (.ifCond .eq 10, 3) := by decide +kernel
theorem dX6_read_48 : decode cX6_read 48 = .ok (.aload_n 0, 1) := by decide +kernel
theorem dX6_read_49 : decode cX6_read 49 = .ok (.iconst 5, 1) := by decide +kernel
theorem dX6_read_50 : decode cX6_read 50 = .ok (.putfield 133, 3) := by decide +kernel
theorem dX6_read_53 : decode cX6_read 53 = .ok (.iconst 0, 1) := by decide +kernel
theorem dX6_read_54 : decode cX6_read 54 = .ok (.ireturn, 1) := by decide +kernel
theorem dX6_read_55 : decode cX6_read 55 = .ok (.aload_n 0, 1) := by decide +kernel
theorem dX6_read_56 : decode cX6_read 56 = .ok (.getfield 80, 3) := by decide +kernel
theorem dX6_read_59 : decode cX6_read 59 = .ok (.iload_n 3, 1) := by decide +kernel
theorem dX6_read_60 : decode cX6_read 60 = .ok (.baload, 1) := by decide +kernel
theorem dX6_read_61 : decode cX6_read 61 = .ok (.ifCond .ne 22, 3) := by decide +kernel
theorem dX6_read_64 : decode cX6_read 64 = .ok (.aload_n 0, 1) := by decide +kernel
theorem dX6_read_65 : decode cX6_read 65 = .ok (.getfield 80, 3) := by decide +kernel
theorem dX6_read_68 : decode cX6_read 68 = .ok (.iload_n 3, 1) := by decide +kernel
theorem dX6_read_69 : decode cX6_read 69 = .ok (.iconst 1, 1) := by decide +kernel
theorem dX6_read_70 : decode cX6_read 70 = .ok (.bastore, 1) := by decide +kernel
theorem dX6_read_71 : decode cX6_read 71 = .ok (.aload_n 0, 1) := by decide +kernel
theorem dX6_read_72 : decode cX6_read 72 = .ok (.getfield 83, 3) := by decide +kernel
theorem dX6_read_75 : decode cX6_read 75 = .ok (.iload_n 3, 1) := by decide +kernel
theorem dX6_read_76 : decode cX6_read 76 = .ok (.aload_n 0, 1) := by decide +kernel
theorem dX6_read_77 : decode cX6_read 77 = .ok (.getfield 7, 3) := by decide +kernel
theorem dX6_read_80 : decode cX6_read 80 = .ok (.iload_n 2, 1) := by decide +kernel
theorem dX6_read_81 : decode cX6_read 81 = .ok (.iaload, 1) := by decide +kernel
theorem dX6_read_82 : decode cX6_read 82 = .ok (.iastore, 1) := by decide +kernel
theorem dX6_read_83 : decode cX6_read 83 = .ok (.aload_n 0, 1) := by decide +kernel
theorem dX6_read_84 : decode cX6_read 84 = .ok (.getfield 7, 3) := by decide +kernel
theorem dX6_read_87 : decode cX6_read 87 = .ok (.iload_n 2, 1) := by decide +kernel
theorem dX6_read_88 : decode cX6_read 88 = .ok (.iaload, 1) := by decide +kernel
theorem dX6_read_89 : decode cX6_read 89 = .ok (.ireturn, 1) := by decide +kernel
theorem dX6_lay_0 : decode cX6_lay 0 = .ok (.aload_n 0, 1) := by decide +kernel
theorem dX6_lay_1 : decode cX6_lay 1 = .ok (.getfield 68, 3) := by decide +kernel
theorem dX6_lay_4 : decode cX6_lay 4 = .ok (.iload_n 1, 1) := by decide +kernel
theorem dX6_lay_5 : decode cX6_lay 5 = .ok (.baload, 1) := by decide +kernel
theorem dX6_lay_6 : decode cX6_lay 6 = .ok (.ifCond .eq 30, 3) := by decide +kernel
theorem dX6_lay_9 : decode cX6_lay 9 = .ok (.aload_n 0, 1) := by decide +kernel
theorem dX6_lay_10 : decode cX6_lay 10 = .ok (.getfield 86, 3) := by decide +kernel
theorem dX6_lay_13 : decode cX6_lay 13 = .ok (.bipush 8, 2) := by decide +kernel
theorem dX6_lay_15 : decode cX6_lay 15 = .ok (.iload_n 1, 1) := by decide +kernel
theorem dX6_lay_16 : decode cX6_lay 16 = .ok (.imul, 1) := by decide +kernel
theorem dX6_lay_17 : decode cX6_lay 17 = .ok (.iload_n 2, 1) := by decide +kernel
theorem dX6_lay_18 : decode cX6_lay 18 = .ok (.iadd, 1) := by decide +kernel
theorem dX6_lay_19 : decode cX6_lay 19 = .ok (.iconst 1, 1) := by decide +kernel
theorem dX6_lay_20 : decode cX6_lay 20 = .ok (.bastore, 1) := by decide +kernel
theorem dX6_lay_21 : decode cX6_lay 21 = .ok (.aload_n 0, 1) := by decide +kernel
theorem dX6_lay_22 : decode cX6_lay 22 = .ok (.getfield 89, 3) := by decide +kernel
theorem dX6_lay_25 : decode cX6_lay 25 = .ok (.bipush 8, 2) := by decide +kernel
theorem dX6_lay_27 : decode cX6_lay 27 = .ok (.iload_n 1, 1) := by decide +kernel
theorem dX6_lay_28 : decode cX6_lay 28 = .ok (.imul, 1) := by decide +kernel
theorem dX6_lay_29 : decode cX6_lay 29 = .ok (.iload_n 2, 1) := by decide +kernel
theorem dX6_lay_30 : decode cX6_lay 30 = .ok (.iadd, 1) := by decide +kernel
theorem dX6_lay_31 : decode cX6_lay 31 = .ok (.iload_n 3, 1) := by decide +kernel
theorem dX6_lay_32 : decode cX6_lay 32 = .ok (.iastore, 1) := by decide +kernel
theorem dX6_lay_33 : decode cX6_lay 33 = .ok (.goto 10, 3) := by decide +kernel
theorem dX6_lay_36 : decode cX6_lay 36 = .ok (.aload_n 0, 1) := by decide +kernel
theorem dX6_lay_37 : decode cX6_lay 37 = .ok (.iload_n 1, 1) := by decide +kernel
theorem dX6_lay_38 : decode cX6_lay 38 = .ok (.iload_n 2, 1) := by decide +kernel
theorem dX6_lay_39 : decode cX6_lay 39 = .ok (.iload_n 3, 1) := by decide +kernel
theorem dX6_lay_40 : decode cX6_lay 40 = .ok (.invokevirtual 136, 3) := by decide +kernel
theorem dX6_lay_43 : decode cX6_lay 43 = .ok (.return_, 1) := by decide +kernel
theorem dX6_clearAtom_0 : decode cX6_clearAtom 0 = .ok (.iconst 0, 1) := by decide +kernel
theorem dX6_clearAtom_1 : decode cX6_clearAtom 1 = .ok (.istore_n 2, 1) := by decide +kernel
theorem dX6_clearAtom_2 : decode cX6_clearAtom 2 = .ok (.iload_n 2, 1) := by decide +kernel
theorem dX6_clearAtom_3 : decode cX6_clearAtom 3 = .ok (.bipush 8, 2) := by decide +kernel
theorem dX6_clearAtom_5 : decode cX6_clearAtom 5 = .ok (.if_icmp .ge 33, 3) := by decide +kernel
theorem dX6_clearAtom_8 : decode cX6_clearAtom 8 = .ok (.aload_n 0, 1) := by decide +kernel
theorem dX6_clearAtom_9 : decode cX6_clearAtom 9 = .ok (.getfield 80, 3) := by decide +kernel
theorem dX6_clearAtom_12 : decode cX6_clearAtom 12 = .ok (.bipush 8, 2) := by decide +kernel
theorem dX6_clearAtom_14 : decode cX6_clearAtom 14 = .ok (.iload_n 1, 1) := by decide +kernel
theorem dX6_clearAtom_15 : decode cX6_clearAtom 15 = .ok (.imul, 1) := by decide +kernel
theorem dX6_clearAtom_16 : decode cX6_clearAtom 16 = .ok (.iload_n 2, 1) := by decide +kernel
theorem dX6_clearAtom_17 : decode cX6_clearAtom 17 = .ok (.iadd, 1) := by decide +kernel
theorem dX6_clearAtom_18 : decode cX6_clearAtom 18 = .ok (.iconst 0, 1) := by decide +kernel
theorem dX6_clearAtom_19 : decode cX6_clearAtom 19 = .ok (.bastore, 1) := by decide +kernel
theorem dX6_clearAtom_20 : decode cX6_clearAtom 20 = .ok (.aload_n 0, 1) := by decide +kernel
theorem dX6_clearAtom_21 : decode cX6_clearAtom 21 = .ok (.getfield 86, 3) := by decide +kernel
theorem dX6_clearAtom_24 : decode cX6_clearAtom 24 = .ok (.bipush 8, 2) := by decide +kernel
theorem dX6_clearAtom_26 : decode cX6_clearAtom 26 = .ok (.iload_n 1, 1) := by decide +kernel
theorem dX6_clearAtom_27 : decode cX6_clearAtom 27 = .ok (.imul, 1) := by decide +kernel
theorem dX6_clearAtom_28 : decode cX6_clearAtom 28 = .ok (.iload_n 2, 1) := by decide +kernel
theorem dX6_clearAtom_29 : decode cX6_clearAtom 29 = .ok (.iadd, 1) := by decide +kernel
theorem dX6_clearAtom_30 : decode cX6_clearAtom 30 = .ok (.iconst 0, 1) := by decide +kernel
theorem dX6_clearAtom_31 : decode cX6_clearAtom 31 = .ok (.bastore, 1) := by decide +kernel
theorem dX6_clearAtom_32 : decode cX6_clearAtom 32 = .ok (.iinc 2 1, 3) := by decide +kernel
theorem dX6_clearAtom_35 : decode cX6_clearAtom 35 = .ok (.goto (-33), 3) := by decide +kernel
theorem dX6_clearAtom_38 : decode cX6_clearAtom 38 = .ok (.return_, 1) := by decide +kernel
theorem dX6_beginAtom_0 : decode cX6_beginAtom 0 = .ok (.aload_n 0, 1) := by decide +kernel
theorem dX6_beginAtom_1 : decode cX6_beginAtom 1 = .ok (.getfield 68, 3) := by decide +kernel
theorem dX6_beginAtom_4 : decode cX6_beginAtom 4 = .ok (.iload_n 1, 1) := by decide +kernel
theorem dX6_beginAtom_5 : decode cX6_beginAtom 5 = .ok (.baload, 1) := by decide +kernel
theorem dX6_beginAtom_6 : decode cX6_beginAtom 6 = .ok (.ifCond .eq 9, 3) := by decide +kernel
theorem dX6_beginAtom_9 : decode cX6_beginAtom 9 = .ok (.aload_n 0, 1) := by decide +kernel
theorem dX6_beginAtom_10 : decode cX6_beginAtom 10 = .ok (.iconst 5, 1) := by decide +kernel
theorem dX6_beginAtom_11 : decode cX6_beginAtom 11 = .ok (.putfield 133, 3) := by decide +kernel
theorem dX6_beginAtom_14 : decode cX6_beginAtom 14 = .ok (.return_, 1) := by decide +kernel
theorem dX6_beginAtom_15 : decode cX6_beginAtom 15 = .ok (.aload_n 0, 1) := by decide +kernel
theorem dX6_beginAtom_16 : decode cX6_beginAtom 16 = .ok (.getfield 68, 3) := by decide +kernel
theorem dX6_beginAtom_19 : decode cX6_beginAtom 19 = .ok (.iload_n 1, 1) := by decide +kernel
theorem dX6_beginAtom_20 : decode cX6_beginAtom 20 = .ok (.iconst 1, 1) := by decide +kernel
theorem dX6_beginAtom_21 : decode cX6_beginAtom 21 = .ok (.bastore, 1) := by decide +kernel
theorem dX6_beginAtom_22 : decode cX6_beginAtom 22 = .ok (.aload_n 0, 1) := by decide +kernel
theorem dX6_beginAtom_23 : decode cX6_beginAtom 23 = .ok (.iload_n 1, 1) := by decide +kernel
theorem dX6_beginAtom_24 : decode cX6_beginAtom 24 = .ok (.invokevirtual 143, 3) := by decide +kernel
theorem dX6_beginAtom_27 : decode cX6_beginAtom 27 = .ok (.aload_n 0, 1) := by decide +kernel
theorem dX6_beginAtom_28 : decode cX6_beginAtom 28 = .ok (.getfield 71, 3) := by decide +kernel
theorem dX6_beginAtom_31 : decode cX6_beginAtom 31 = .ok (.iload_n 1, 1) := by decide +kernel
theorem dX6_beginAtom_32 : decode cX6_beginAtom 32 = .ok (.aload_n 0, 1) := by decide +kernel
theorem dX6_beginAtom_33 : decode cX6_beginAtom 33 = .ok (.getfield 62, 3) := by decide +kernel
theorem dX6_beginAtom_36 : decode cX6_beginAtom 36 = .ok (.iload_n 1, 1) := by decide +kernel
theorem dX6_beginAtom_37 : decode cX6_beginAtom 37 = .ok (.iaload, 1) := by decide +kernel
theorem dX6_beginAtom_38 : decode cX6_beginAtom 38 = .ok (.iastore, 1) := by decide +kernel
theorem dX6_beginAtom_39 : decode cX6_beginAtom 39 = .ok (.aload_n 0, 1) := by decide +kernel
theorem dX6_beginAtom_40 : decode cX6_beginAtom 40 = .ok (.getfield 74, 3) := by decide +kernel
theorem dX6_beginAtom_43 : decode cX6_beginAtom 43 = .ok (.iload_n 1, 1) := by decide +kernel
theorem dX6_beginAtom_44 : decode cX6_beginAtom 44 = .ok (.aload_n 0, 1) := by decide +kernel
theorem dX6_beginAtom_45 : decode cX6_beginAtom 45 = .ok (.getfield 47, 3) := by decide +kernel
theorem dX6_beginAtom_48 : decode cX6_beginAtom 48 = .ok (.iload_n 1, 1) := by decide +kernel
theorem dX6_beginAtom_49 : decode cX6_beginAtom 49 = .ok (.iaload, 1) := by decide +kernel
theorem dX6_beginAtom_50 : decode cX6_beginAtom 50 = .ok (.iconst 1, 1) := by decide +kernel
theorem dX6_beginAtom_51 : decode cX6_beginAtom 51 = .ok (.iadd, 1) := by decide +kernel
theorem dX6_beginAtom_52 : decode cX6_beginAtom 52 = .ok (.iastore, 1) := by decide +kernel
theorem dX6_beginAtom_53 : decode cX6_beginAtom 53 = .ok (.iconst 0, 1) := by decide +kernel
theorem dX6_beginAtom_54 : decode cX6_beginAtom 54 = .ok (.istore_n 2, 1) := by decide +kernel
theorem dX6_beginAtom_55 : decode cX6_beginAtom 55 = .ok (.iload_n 2, 1) := by decide +kernel
theorem dX6_beginAtom_56 : decode cX6_beginAtom 56 = .ok (.iconst 4, 1) := by decide +kernel
theorem dX6_beginAtom_57 : decode cX6_beginAtom 57 = .ok (.if_icmp .ge 29, 3) := by decide +kernel
theorem dX6_beginAtom_60 : decode cX6_beginAtom 60 = .ok (.aload_n 0, 1) := by decide +kernel
theorem dX6_beginAtom_61 : decode cX6_beginAtom 61 = .ok (.getfield 77, 3) := by decide +kernel
theorem dX6_beginAtom_64 : decode cX6_beginAtom 64 = .ok (.iconst 4, 1) := by decide +kernel
theorem dX6_beginAtom_65 : decode cX6_beginAtom 65 = .ok (.iload_n 1, 1) := by decide +kernel
theorem dX6_beginAtom_66 : decode cX6_beginAtom 66 = .ok (.imul, 1) := by decide +kernel
theorem dX6_beginAtom_67 : decode cX6_beginAtom 67 = .ok (.iload_n 2, 1) := by decide +kernel
theorem dX6_beginAtom_68 : decode cX6_beginAtom 68 = .ok (.iadd, 1) := by decide +kernel
theorem dX6_beginAtom_69 : decode cX6_beginAtom 69 = .ok (.aload_n 0, 1) := by decide +kernel
theorem dX6_beginAtom_70 : decode cX6_beginAtom 70 = .ok (.getfield 44, 3) := by decide +kernel
theorem dX6_beginAtom_73 : decode cX6_beginAtom 73 = .ok (.iconst 4, 1) := by decide +kernel
theorem dX6_beginAtom_74 : decode cX6_beginAtom 74 = .ok (.iload_n 1, 1) := by decide +kernel
theorem dX6_beginAtom_75 : decode cX6_beginAtom 75 = .ok (.imul, 1) := by decide +kernel
theorem dX6_beginAtom_76 : decode cX6_beginAtom 76 = .ok (.iload_n 2, 1) := by decide +kernel
theorem dX6_beginAtom_77 : decode cX6_beginAtom 77 = .ok (.iadd, 1) := by decide +kernel
theorem dX6_beginAtom_78 : decode cX6_beginAtom 78 = .ok (.iaload, 1) := by decide +kernel
theorem dX6_beginAtom_79 : decode cX6_beginAtom 79 = .ok (.iastore, 1) := by decide +kernel
theorem dX6_beginAtom_80 : decode cX6_beginAtom 80 = .ok (.iinc 2 1, 3) := by decide +kernel
theorem dX6_beginAtom_83 : decode cX6_beginAtom 83 = .ok (.goto (-28), 3) := by decide +kernel
theorem dX6_beginAtom_86 : decode cX6_beginAtom 86 = .ok (.return_, 1) := by decide +kernel
theorem dX6_endAtom_0 : decode cX6_endAtom 0 = .ok (.aload_n 0, 1) := by decide +kernel
theorem dX6_endAtom_1 : decode cX6_endAtom 1 = .ok (.getfield 68, 3) := by decide +kernel
theorem dX6_endAtom_4 : decode cX6_endAtom 4 = .ok (.iload_n 1, 1) := by decide +kernel
theorem dX6_endAtom_5 : decode cX6_endAtom 5 = .ok (.baload, 1) := by decide +kernel
theorem dX6_endAtom_6 : decode cX6_endAtom 6 = .ok (.ifCond .eq 18, 3) := by decide +kernel
theorem dX6_endAtom_9 : decode cX6_endAtom 9 = .ok (.aload_n 0, 1) := by decide +kernel
theorem dX6_endAtom_10 : decode cX6_endAtom 10 = .ok (.getfield 62, 3) := by decide +kernel
theorem dX6_endAtom_13 : decode cX6_endAtom 13 = .ok (.iload_n 1, 1) := by decide +kernel
theorem dX6_endAtom_14 : decode cX6_endAtom 14 = .ok (.iaload, 1) := by decide +kernel
theorem dX6_endAtom_15 : decode cX6_endAtom 15 = .ok (.aload_n 0, 1) := by decide +kernel
theorem dX6_endAtom_16 : decode cX6_endAtom 16 = .ok (.getfield 71, 3) := by decide +kernel
theorem dX6_endAtom_19 : decode cX6_endAtom 19 = .ok (.iload_n 1, 1) := by decide +kernel
theorem dX6_endAtom_20 : decode cX6_endAtom 20 = .ok (.iaload, 1) := by decide +kernel
theorem dX6_endAtom_21 : decode cX6_endAtom 21 = .ok (.if_icmp .le 10, 3) := by decide +kernel
theorem dX6_endAtom_24 : decode cX6_endAtom 24 = .ok (.aload_n 0, 1) := by decide +kernel
theorem dX6_endAtom_25 : decode cX6_endAtom 25 = .ok (.iconst 5, 1) := by decide +kernel
theorem dX6_endAtom_26 : decode cX6_endAtom 26 = .ok (.putfield 133, 3) := by decide +kernel
theorem dX6_endAtom_29 : decode cX6_endAtom 29 = .ok (.iconst 0, 1) := by decide +kernel
theorem dX6_endAtom_30 : decode cX6_endAtom 30 = .ok (.ireturn, 1) := by decide +kernel
theorem dX6_endAtom_31 : decode cX6_endAtom 31 = .ok (.iconst 1, 1) := by decide +kernel
theorem dX6_endAtom_32 : decode cX6_endAtom 32 = .ok (.istore_n 2, 1) := by decide +kernel
theorem dX6_endAtom_33 : decode cX6_endAtom 33 = .ok (.iconst 0, 1) := by decide +kernel
theorem dX6_endAtom_34 : decode cX6_endAtom 34 = .ok (.istore_n 3, 1) := by decide +kernel
theorem dX6_endAtom_35 : decode cX6_endAtom 35 = .ok (.iload_n 3, 1) := by decide +kernel
theorem dX6_endAtom_36 : decode cX6_endAtom 36 = .ok (.bipush 8, 2) := by decide +kernel
theorem dX6_endAtom_38 : decode cX6_endAtom 38 = .ok (.if_icmp .ge 62, 3) := by decide +kernel
theorem dX6_endAtom_41 : decode cX6_endAtom 41 = .ok (.bipush 8, 2) := by decide +kernel
theorem dX6_endAtom_43 : decode cX6_endAtom 43 = .ok (.iload_n 1, 1) := by decide +kernel
theorem dX6_endAtom_44 : decode cX6_endAtom 44 = .ok (.imul, 1) := by decide +kernel
theorem dX6_endAtom_45 : decode cX6_endAtom 45 = .ok (.iload_n 3, 1) := by decide +kernel
theorem dX6_endAtom_46 : decode cX6_endAtom 46 = .ok (.iadd, 1) := by decide +kernel
theorem dX6_endAtom_47 : decode cX6_endAtom 47 = .ok (.istore 4, 2) := by decide +kernel
theorem dX6_endAtom_49 : decode cX6_endAtom 49 = .ok (.iload_n 2, 1) := by decide +kernel
theorem dX6_endAtom_50 : decode cX6_endAtom 50 = .ok (.ifCond .eq 42, 3) := by decide +kernel
theorem dX6_endAtom_53 : decode cX6_endAtom 53 = .ok (.aload_n 0, 1) := by decide +kernel
theorem dX6_endAtom_54 : decode cX6_endAtom 54 = .ok (.getfield 80, 3) := by decide +kernel
theorem dX6_endAtom_57 : decode cX6_endAtom 57 = .ok (.iload 4, 2) := by decide +kernel
theorem dX6_endAtom_59 : decode cX6_endAtom 59 = .ok (.baload, 1) := by decide +kernel
theorem dX6_endAtom_60 : decode cX6_endAtom 60 = .ok (.ifCond .eq 28, 3) := by decide +kernel
theorem dX6_endAtom_63 : decode cX6_endAtom 63 = .ok (.aload_n 0, 1) := by decide +kernel
theorem dX6_endAtom_64 : decode cX6_endAtom 64 = .ok (.getfield 13, 3) := by decide +kernel
theorem dX6_endAtom_67 : decode cX6_endAtom 67 = .ok (.iload_n 3, 1) := by decide +kernel
theorem dX6_endAtom_68 : decode cX6_endAtom 68 = .ok (.baload, 1) := by decide +kernel
theorem dX6_endAtom_69 : decode cX6_endAtom 69 = .ok (.ifCond .ne 23, 3) := by decide +kernel
theorem dX6_endAtom_72 : decode cX6_endAtom 72 = .ok (.aload_n 0, 1) := by decide +kernel
theorem dX6_endAtom_73 : decode cX6_endAtom 73 = .ok (.getfield 7, 3) := by decide +kernel
theorem dX6_endAtom_76 : decode cX6_endAtom 76 = .ok (.iload_n 3, 1) := by decide +kernel
theorem dX6_endAtom_77 : decode cX6_endAtom 77 = .ok (.iaload, 1) := by decide +kernel
theorem dX6_endAtom_78 : decode cX6_endAtom 78 = .ok (.aload_n 0, 1) := by decide +kernel
theorem dX6_endAtom_79 : decode cX6_endAtom 79 = .ok (.getfield 83, 3) := by decide +kernel
theorem dX6_endAtom_82 : decode cX6_endAtom 82 = .ok (.iload 4, 2) := by decide +kernel
theorem dX6_endAtom_84 : decode cX6_endAtom 84 = .ok (.iaload, 1) := by decide +kernel
theorem dX6_endAtom_85 : decode cX6_endAtom 85 = .ok (.if_icmp .ne 7, 3) := by decide +kernel
theorem dX6_endAtom_88 : decode cX6_endAtom 88 = .ok (.iconst 1, 1) := by decide +kernel
theorem dX6_endAtom_89 : decode cX6_endAtom 89 = .ok (.goto 4, 3) := by decide +kernel
theorem dX6_endAtom_92 : decode cX6_endAtom 92 = .ok (.iconst 0, 1) := by decide +kernel
theorem dX6_endAtom_93 : decode cX6_endAtom 93 = .ok (.istore_n 2, 1) := by decide +kernel
theorem dX6_endAtom_94 : decode cX6_endAtom 94 = .ok (.iinc 3 1, 3) := by decide +kernel
theorem dX6_endAtom_97 : decode cX6_endAtom 97 = .ok (.goto (-62), 3) := by decide +kernel
theorem dX6_endAtom_100 : decode cX6_endAtom 100 = .ok (.iload_n 2, 1) := by decide +kernel
theorem dX6_endAtom_101 : decode cX6_endAtom 101 = .ok (.ifCond .ne 58, 3) := by decide +kernel
theorem dX6_endAtom_104 : decode cX6_endAtom 104 = .ok (.aload_n 0, 1) := by decide +kernel
theorem dX6_endAtom_105 : decode cX6_endAtom 105 = .ok (.getfield 59, 3) := by decide +kernel
theorem dX6_endAtom_108 : decode cX6_endAtom 108 = .ok (.iload_n 1, 1) := by decide +kernel
theorem dX6_endAtom_109 : decode cX6_endAtom 109 = .ok (.dup2, 1) := by decide +kernel
theorem dX6_endAtom_110 : decode cX6_endAtom 110 = .ok (.iaload, 1) := by decide +kernel
theorem dX6_endAtom_111 : decode cX6_endAtom 111 = .ok (.iconst 1, 1) := by decide +kernel
theorem dX6_endAtom_112 : decode cX6_endAtom 112 = .ok (.iadd, 1) := by decide +kernel
theorem dX6_endAtom_113 : decode cX6_endAtom 113 = .ok (.iastore, 1) := by decide +kernel
theorem dX6_endAtom_114 : decode cX6_endAtom 114 = .ok (.aload_n 0, 1) := by decide +kernel
theorem dX6_endAtom_115 : decode cX6_endAtom 115 = .ok (.iload_n 1, 1) := by decide +kernel
theorem dX6_endAtom_116 : decode cX6_endAtom 116 = .ok (.invokevirtual 143, 3) := by decide +kernel
theorem dX6_endAtom_119 : decode cX6_endAtom 119 = .ok (.iconst 0, 1) := by decide +kernel
theorem dX6_endAtom_120 : decode cX6_endAtom 120 = .ok (.istore_n 3, 1) := by decide +kernel
theorem dX6_endAtom_121 : decode cX6_endAtom 121 = .ok (.iload_n 3, 1) := by decide +kernel
theorem dX6_endAtom_122 : decode cX6_endAtom 122 = .ok (.iconst 4, 1) := by decide +kernel
theorem dX6_endAtom_123 : decode cX6_endAtom 123 = .ok (.if_icmp .ge 29, 3) := by decide +kernel
theorem dX6_endAtom_126 : decode cX6_endAtom 126 = .ok (.aload_n 0, 1) := by decide +kernel
theorem dX6_endAtom_127 : decode cX6_endAtom 127 = .ok (.getfield 44, 3) := by decide +kernel
theorem dX6_endAtom_130 : decode cX6_endAtom 130 = .ok (.iconst 4, 1) := by decide +kernel
theorem dX6_endAtom_131 : decode cX6_endAtom 131 = .ok (.iload_n 1, 1) := by decide +kernel
theorem dX6_endAtom_132 : decode cX6_endAtom 132 = .ok (.imul, 1) := by decide +kernel
theorem dX6_endAtom_133 : decode cX6_endAtom 133 = .ok (.iload_n 3, 1) := by decide +kernel
theorem dX6_endAtom_134 : decode cX6_endAtom 134 = .ok (.iadd, 1) := by decide +kernel
theorem dX6_endAtom_135 : decode cX6_endAtom 135 = .ok (.aload_n 0, 1) := by decide +kernel
theorem dX6_endAtom_136 : decode cX6_endAtom 136 = .ok (.getfield 77, 3) := by decide +kernel
theorem dX6_endAtom_139 : decode cX6_endAtom 139 = .ok (.iconst 4, 1) := by decide +kernel
theorem dX6_endAtom_140 : decode cX6_endAtom 140 = .ok (.iload_n 1, 1) := by decide +kernel
theorem dX6_endAtom_141 : decode cX6_endAtom 141 = .ok (.imul, 1) := by decide +kernel
theorem dX6_endAtom_142 : decode cX6_endAtom 142 = .ok (.iload_n 3, 1) := by decide +kernel
theorem dX6_endAtom_143 : decode cX6_endAtom 143 = .ok (.iadd, 1) := by decide +kernel
theorem dX6_endAtom_144 : decode cX6_endAtom 144 = .ok (.iaload, 1) := by decide +kernel
theorem dX6_endAtom_145 : decode cX6_endAtom 145 = .ok (.iastore, 1) := by decide +kernel
theorem dX6_endAtom_146 : decode cX6_endAtom 146 = .ok (.iinc 3 1, 3) := by decide +kernel
theorem dX6_endAtom_149 : decode cX6_endAtom 149 = .ok (.goto (-28), 3) := by decide +kernel
theorem dX6_endAtom_152 : decode cX6_endAtom 152 = .ok (.aload_n 0, 1) := by decide +kernel
theorem dX6_endAtom_153 : decode cX6_endAtom 153 = .ok (.getfield 74, 3) := by decide +kernel
theorem dX6_endAtom_156 : decode cX6_endAtom 156 = .ok (.iload_n 1, 1) := by decide +kernel
theorem dX6_endAtom_157 : decode cX6_endAtom 157 = .ok (.iaload, 1) := by decide +kernel
theorem dX6_endAtom_158 : decode cX6_endAtom 158 = .ok (.ireturn, 1) := by decide +kernel
theorem dX6_endAtom_159 : decode cX6_endAtom 159 = .ok (.aload_n 0, 1) := by decide +kernel
theorem dX6_endAtom_160 : decode cX6_endAtom 160 = .ok (.getfield 68, 3) := by decide +kernel
theorem dX6_endAtom_163 : decode cX6_endAtom 163 = .ok (.iload_n 1, 1) := by decide +kernel
theorem dX6_endAtom_164 : decode cX6_endAtom 164 = .ok (.iconst 0, 1) := by decide +kernel
theorem dX6_endAtom_165 : decode cX6_endAtom 165 = .ok (.bastore, 1) := by decide +kernel
theorem dX6_endAtom_166 : decode cX6_endAtom 166 = .ok (.iconst 0, 1) := by decide +kernel
theorem dX6_endAtom_167 : decode cX6_endAtom 167 = .ok (.istore_n 3, 1) := by decide +kernel
theorem dX6_endAtom_168 : decode cX6_endAtom 168 = .ok (.iload_n 3, 1) := by decide +kernel
theorem dX6_endAtom_169 : decode cX6_endAtom 169 = .ok (.bipush 8, 2) := by decide +kernel
theorem dX6_endAtom_171 : decode cX6_endAtom 171 = .ok (.if_icmp .ge 40, 3) := by decide +kernel
theorem dX6_endAtom_174 : decode cX6_endAtom 174 = .ok (.aload_n 0, 1) := by decide +kernel
theorem dX6_endAtom_175 : decode cX6_endAtom 175 = .ok (.getfield 86, 3) := by decide +kernel
theorem dX6_endAtom_178 : decode cX6_endAtom 178 = .ok (.bipush 8, 2) := by decide +kernel
theorem dX6_endAtom_180 : decode cX6_endAtom 180 = .ok (.iload_n 1, 1) := by decide +kernel
theorem dX6_endAtom_181 : decode cX6_endAtom 181 = .ok (.imul, 1) := by decide +kernel
theorem dX6_endAtom_182 : decode cX6_endAtom 182 = .ok (.iload_n 3, 1) := by decide +kernel
theorem dX6_endAtom_183 : decode cX6_endAtom 183 = .ok (.iadd, 1) := by decide +kernel
theorem dX6_endAtom_184 : decode cX6_endAtom 184 = .ok (.baload, 1) := by decide +kernel
theorem dX6_endAtom_185 : decode cX6_endAtom 185 = .ok (.ifCond .eq 20, 3) := by decide +kernel
theorem dX6_endAtom_188 : decode cX6_endAtom 188 = .ok (.aload_n 0, 1) := by decide +kernel
theorem dX6_endAtom_189 : decode cX6_endAtom 189 = .ok (.iload_n 1, 1) := by decide +kernel
theorem dX6_endAtom_190 : decode cX6_endAtom 190 = .ok (.iload_n 3, 1) := by decide +kernel
theorem dX6_endAtom_191 : decode cX6_endAtom 191 = .ok (.aload_n 0, 1) := by decide +kernel
theorem dX6_endAtom_192 : decode cX6_endAtom 192 = .ok (.getfield 89, 3) := by decide +kernel
theorem dX6_endAtom_195 : decode cX6_endAtom 195 = .ok (.bipush 8, 2) := by decide +kernel
theorem dX6_endAtom_197 : decode cX6_endAtom 197 = .ok (.iload_n 1, 1) := by decide +kernel
theorem dX6_endAtom_198 : decode cX6_endAtom 198 = .ok (.imul, 1) := by decide +kernel
theorem dX6_endAtom_199 : decode cX6_endAtom 199 = .ok (.iload_n 3, 1) := by decide +kernel
theorem dX6_endAtom_200 : decode cX6_endAtom 200 = .ok (.iadd, 1) := by decide +kernel
theorem dX6_endAtom_201 : decode cX6_endAtom 201 = .ok (.iaload, 1) := by decide +kernel
theorem dX6_endAtom_202 : decode cX6_endAtom 202 = .ok (.invokevirtual 136, 3) := by decide +kernel
theorem dX6_endAtom_205 : decode cX6_endAtom 205 = .ok (.iinc 3 1, 3) := by decide +kernel
theorem dX6_endAtom_208 : decode cX6_endAtom 208 = .ok (.goto (-40), 3) := by decide +kernel
theorem dX6_endAtom_211 : decode cX6_endAtom 211 = .ok (.aload_n 0, 1) := by decide +kernel
theorem dX6_endAtom_212 : decode cX6_endAtom 212 = .ok (.getfield 47, 3) := by decide +kernel
theorem dX6_endAtom_215 : decode cX6_endAtom 215 = .ok (.iload_n 1, 1) := by decide +kernel
theorem dX6_endAtom_216 : decode cX6_endAtom 216 = .ok (.iaload, 1) := by decide +kernel
theorem dX6_endAtom_217 : decode cX6_endAtom 217 = .ok (.iconst 1, 1) := by decide +kernel
theorem dX6_endAtom_218 : decode cX6_endAtom 218 = .ok (.iadd, 1) := by decide +kernel
theorem dX6_endAtom_219 : decode cX6_endAtom 219 = .ok (.ireturn, 1) := by decide +kernel
theorem dX6_r_0 : decode cX6_r 0 = .ok (.aload_n 0, 1) := by decide +kernel
theorem dX6_r_1 : decode cX6_r 1 = .ok (.getfield 44, 3) := by decide +kernel
theorem dX6_r_4 : decode cX6_r 4 = .ok (.iconst 4, 1) := by decide +kernel
theorem dX6_r_5 : decode cX6_r 5 = .ok (.iload_n 1, 1) := by decide +kernel
theorem dX6_r_6 : decode cX6_r 6 = .ok (.imul, 1) := by decide +kernel
theorem dX6_r_7 : decode cX6_r 7 = .ok (.iload_n 2, 1) := by decide +kernel
theorem dX6_r_8 : decode cX6_r 8 = .ok (.iadd, 1) := by decide +kernel
theorem dX6_r_9 : decode cX6_r 9 = .ok (.iaload, 1) := by decide +kernel
theorem dX6_r_10 : decode cX6_r 10 = .ok (.ireturn, 1) := by decide +kernel
theorem dX6_give_0 : decode cX6_give 0 = .ok (.aload_n 0, 1) := by decide +kernel
theorem dX6_give_1 : decode cX6_give 1 = .ok (.getfield 133, 3) := by decide +kernel
theorem dX6_give_4 : decode cX6_give 4 = .ok (.ifCond .ne 14, 3) := by decide +kernel
theorem dX6_give_7 : decode cX6_give 7 = .ok (.aload_n 0, 1) := by decide +kernel
theorem dX6_give_8 : decode cX6_give 8 = .ok (.getfield 44, 3) := by decide +kernel
theorem dX6_give_11 : decode cX6_give 11 = .ok (.iconst 4, 1) := by decide +kernel
theorem dX6_give_12 : decode cX6_give 12 = .ok (.iload_n 1, 1) := by decide +kernel
theorem dX6_give_13 : decode cX6_give 13 = .ok (.imul, 1) := by decide +kernel
theorem dX6_give_14 : decode cX6_give 14 = .ok (.iload_n 2, 1) := by decide +kernel
theorem dX6_give_15 : decode cX6_give 15 = .ok (.iadd, 1) := by decide +kernel
theorem dX6_give_16 : decode cX6_give 16 = .ok (.iload_n 3, 1) := by decide +kernel
theorem dX6_give_17 : decode cX6_give 17 = .ok (.iastore, 1) := by decide +kernel
theorem dX6_give_18 : decode cX6_give 18 = .ok (.return_, 1) := by decide +kernel
theorem dX6_checkItem_0 : decode cX6_checkItem 0 = .ok (.aload_n 0, 1) := by decide +kernel
theorem dX6_checkItem_1 : decode cX6_checkItem 1 = .ok (.aload_n 0, 1) := by decide +kernel
theorem dX6_checkItem_2 : decode cX6_checkItem 2 = .ok (.getfield 20, 3) := by decide +kernel
theorem dX6_checkItem_5 : decode cX6_checkItem 5 = .ok (.iload_n 1, 1) := by decide +kernel
theorem dX6_checkItem_6 : decode cX6_checkItem 6 = .ok (.iaload, 1) := by decide +kernel
theorem dX6_checkItem_7 : decode cX6_checkItem 7 = .ok (.iconst (-1), 1) := by decide +kernel
theorem dX6_checkItem_8 : decode cX6_checkItem 8 = .ok (.if_icmp .ne 7, 3) := by decide +kernel
theorem dX6_checkItem_11 : decode cX6_checkItem 11 = .ok (.iconst 1, 1) := by decide +kernel
theorem dX6_checkItem_12 : decode cX6_checkItem 12 = .ok (.goto 24, 3) := by decide +kernel
theorem dX6_checkItem_15 : decode cX6_checkItem 15 = .ok (.iload_n 2, 1) := by decide +kernel
theorem dX6_checkItem_16 : decode cX6_checkItem 16 = .ok (.iconst 0, 1) := by decide +kernel
theorem dX6_checkItem_17 : decode cX6_checkItem 17 = .ok (.aload_n 0, 1) := by decide +kernel
theorem dX6_checkItem_18 : decode cX6_checkItem 18 = .ok (.getfield 20, 3) := by decide +kernel
theorem dX6_checkItem_21 : decode cX6_checkItem 21 = .ok (.iload_n 1, 1) := by decide +kernel
theorem dX6_checkItem_22 : decode cX6_checkItem 22 = .ok (.iaload, 1) := by decide +kernel
theorem dX6_checkItem_23 : decode cX6_checkItem 23 = .ok (.iconst 1, 1) := by decide +kernel
theorem dX6_checkItem_24 : decode cX6_checkItem 24 = .ok (.isub, 1) := by decide +kernel
theorem dX6_checkItem_25 : decode cX6_checkItem 25 = .ok (.invokestatic 111, 3) := by decide +kernel
theorem dX6_checkItem_28 : decode cX6_checkItem 28 = .ok (.ifCond .eq 7, 3) := by decide +kernel
theorem dX6_checkItem_31 : decode cX6_checkItem 31 = .ok (.iconst 0, 1) := by decide +kernel
theorem dX6_checkItem_32 : decode cX6_checkItem 32 = .ok (.goto 4, 3) := by decide +kernel
theorem dX6_checkItem_35 : decode cX6_checkItem 35 = .ok (.iconst 3, 1) := by decide +kernel
theorem dX6_checkItem_36 : decode cX6_checkItem 36 = .ok (.putfield 133, 3) := by decide +kernel
theorem dX6_checkItem_39 : decode cX6_checkItem 39 = .ok (.return_, 1) := by decide +kernel
theorem dX6_compute_0 : decode cX6_compute 0 = .ok (.iload_n 2, 1) := by decide +kernel
theorem dX6_compute_1 : decode cX6_compute 1 = .ok (.bipush 6, 2) := by decide +kernel
theorem dX6_compute_3 : decode cX6_compute 3 = .ok (.if_icmp .ne 14, 3) := by decide +kernel
theorem dX6_compute_6 : decode cX6_compute 6 = .ok (.iload 5, 2) := by decide +kernel
theorem dX6_compute_8 : decode cX6_compute 8 = .ok (.ifCond .ne 9, 3) := by decide +kernel
theorem dX6_compute_11 : decode cX6_compute 11 = .ok (.aload_n 0, 1) := by decide +kernel
theorem dX6_compute_12 : decode cX6_compute 12 = .ok (.iconst 2, 1) := by decide +kernel
theorem dX6_compute_13 : decode cX6_compute 13 = .ok (.putfield 133, 3) := by decide +kernel
theorem dX6_compute_16 : decode cX6_compute 16 = .ok (.return_, 1) := by decide +kernel
theorem dX6_compute_17 : decode cX6_compute 17 = .ok (.aload_n 0, 1) := by decide +kernel
theorem dX6_compute_18 : decode cX6_compute 18 = .ok (.iload_n 1, 1) := by decide +kernel
theorem dX6_compute_19 : decode cX6_compute 19 = .ok (.iload_n 3, 1) := by decide +kernel
theorem dX6_compute_20 : decode cX6_compute 20 = .ok (.iload_n 2, 1) := by decide +kernel
theorem dX6_compute_21 : decode cX6_compute 21 = .ok (.iconst 3, 1) := by decide +kernel
theorem dX6_compute_22 : decode cX6_compute 22 = .ok (.if_icmp .ne 11, 3) := by decide +kernel
theorem dX6_compute_25 : decode cX6_compute 25 = .ok (.iload 4, 2) := by decide +kernel
theorem dX6_compute_27 : decode cX6_compute 27 = .ok (.iload 5, 2) := by decide +kernel
theorem dX6_compute_29 : decode cX6_compute 29 = .ok (.iadd, 1) := by decide +kernel
theorem dX6_compute_30 : decode cX6_compute 30 = .ok (.goto 47, 3) := by decide +kernel
theorem dX6_compute_33 : decode cX6_compute 33 = .ok (.iload_n 2, 1) := by decide +kernel
theorem dX6_compute_34 : decode cX6_compute 34 = .ok (.iconst 4, 1) := by decide +kernel
theorem dX6_compute_35 : decode cX6_compute 35 = .ok (.if_icmp .ne 11, 3) := by decide +kernel
theorem dX6_compute_38 : decode cX6_compute 38 = .ok (.iload 4, 2) := by decide +kernel
theorem dX6_compute_40 : decode cX6_compute 40 = .ok (.iload 5, 2) := by decide +kernel
theorem dX6_compute_42 : decode cX6_compute 42 = .ok (.isub, 1) := by decide +kernel
theorem dX6_compute_43 : decode cX6_compute 43 = .ok (.goto 34, 3) := by decide +kernel
theorem dX6_compute_46 : decode cX6_compute 46 = .ok (.iload_n 2, 1) := by decide +kernel
theorem dX6_compute_47 : decode cX6_compute 47 = .ok (.iconst 5, 1) := by decide +kernel
theorem dX6_compute_48 : decode cX6_compute 48 = .ok (.if_icmp .ne 11, 3) := by decide +kernel
theorem dX6_compute_51 : decode cX6_compute 51 = .ok (.iload 4, 2) := by decide +kernel
theorem dX6_compute_53 : decode cX6_compute 53 = .ok (.iload 5, 2) := by decide +kernel
theorem dX6_compute_55 : decode cX6_compute 55 = .ok (.imul, 1) := by decide +kernel
theorem dX6_compute_56 : decode cX6_compute 56 = .ok (.goto 21, 3) := by decide +kernel
theorem dX6_compute_59 : decode cX6_compute 59 = .ok (.iload 5, 2) := by decide +kernel
theorem dX6_compute_61 : decode cX6_compute 61 = .ok (.iconst (-1), 1) := by decide +kernel
theorem dX6_compute_62 : decode cX6_compute 62 = .ok (.if_icmp .ne 10, 3) := by decide +kernel
theorem dX6_compute_65 : decode cX6_compute 65 = .ok (.iconst 0, 1) := by decide +kernel
theorem dX6_compute_66 : decode cX6_compute 66 = .ok (.iload 4, 2) := by decide +kernel
theorem dX6_compute_68 : decode cX6_compute 68 = .ok (.isub, 1) := by decide +kernel
theorem dX6_compute_69 : decode cX6_compute 69 = .ok (.goto 8, 3) := by decide +kernel
theorem dX6_compute_72 : decode cX6_compute 72 = .ok (.iload 4, 2) := by decide +kernel
theorem dX6_compute_74 : decode cX6_compute 74 = .ok (.iload 5, 2) := by decide +kernel
theorem dX6_compute_76 : decode cX6_compute 76 = .ok (.idiv, 1) := by decide +kernel
theorem dX6_compute_77 : decode cX6_compute 77 = .ok (.invokevirtual 147, 3) := by decide +kernel
theorem dX6_compute_80 : decode cX6_compute 80 = .ok (.return_, 1) := by decide +kernel
theorem dX6_swap_0 : decode cX6_swap 0 = .ok (.aload_n 0, 1) := by decide +kernel
theorem dX6_swap_1 : decode cX6_swap 1 = .ok (.iload_n 1, 1) := by decide +kernel
theorem dX6_swap_2 : decode cX6_swap 2 = .ok (.iload_n 2, 1) := by decide +kernel
theorem dX6_swap_3 : decode cX6_swap 3 = .ok (.invokevirtual 150, 3) := by decide +kernel
theorem dX6_swap_6 : decode cX6_swap 6 = .ok (.istore 5, 2) := by decide +kernel
theorem dX6_swap_8 : decode cX6_swap 8 = .ok (.aload_n 0, 1) := by decide +kernel
theorem dX6_swap_9 : decode cX6_swap 9 = .ok (.getfield 133, 3) := by decide +kernel
theorem dX6_swap_12 : decode cX6_swap 12 = .ok (.ifCond .eq 4, 3) := by decide +kernel
theorem dX6_swap_15 : decode cX6_swap 15 = .ok (.return_, 1) := by decide +kernel
theorem dX6_swap_16 : decode cX6_swap 16 = .ok (.iload 5, 2) := by decide +kernel
theorem dX6_swap_18 : decode cX6_swap 18 = .ok (.aload_n 0, 1) := by decide +kernel
theorem dX6_swap_19 : decode cX6_swap 19 = .ok (.iload_n 1, 1) := by decide +kernel
theorem dX6_swap_20 : decode cX6_swap 20 = .ok (.iload_n 3, 1) := by decide +kernel
theorem dX6_swap_21 : decode cX6_swap 21 = .ok (.invokevirtual 153, 3) := by decide +kernel
theorem dX6_swap_24 : decode cX6_swap 24 = .ok (.if_icmp .ne 7, 3) := by decide +kernel
theorem dX6_swap_27 : decode cX6_swap 27 = .ok (.iconst 1, 1) := by decide +kernel
theorem dX6_swap_28 : decode cX6_swap 28 = .ok (.goto 4, 3) := by decide +kernel
theorem dX6_swap_31 : decode cX6_swap 31 = .ok (.iconst 0, 1) := by decide +kernel
theorem dX6_swap_32 : decode cX6_swap 32 = .ok (.istore 6, 2) := by decide +kernel
theorem dX6_swap_34 : decode cX6_swap 34 = .ok (.iload 6, 2) := by decide +kernel
theorem dX6_swap_36 : decode cX6_swap 36 = .ok (.ifCond .eq 16, 3) := by decide +kernel
theorem dX6_swap_39 : decode cX6_swap 39 = .ok (.aload_n 0, 1) := by decide +kernel
theorem dX6_swap_40 : decode cX6_swap 40 = .ok (.iload_n 1, 1) := by decide +kernel
theorem dX6_swap_41 : decode cX6_swap 41 = .ok (.iload_n 2, 1) := by decide +kernel
theorem dX6_swap_42 : decode cX6_swap 42 = .ok (.aload_n 0, 1) := by decide +kernel
theorem dX6_swap_43 : decode cX6_swap 43 = .ok (.iload_n 1, 1) := by decide +kernel
theorem dX6_swap_44 : decode cX6_swap 44 = .ok (.iload 4, 2) := by decide +kernel
theorem dX6_swap_46 : decode cX6_swap 46 = .ok (.invokevirtual 153, 3) := by decide +kernel
theorem dX6_swap_49 : decode cX6_swap 49 = .ok (.invokevirtual 156, 3) := by decide +kernel
theorem dX6_swap_52 : decode cX6_swap 52 = .ok (.aload_n 0, 1) := by decide +kernel
theorem dX6_swap_53 : decode cX6_swap 53 = .ok (.iload_n 1, 1) := by decide +kernel
theorem dX6_swap_54 : decode cX6_swap 54 = .ok (.iload_n 3, 1) := by decide +kernel
theorem dX6_swap_55 : decode cX6_swap 55 = .ok (.iload 6, 2) := by decide +kernel
theorem dX6_swap_57 : decode cX6_swap 57 = .ok (.ifCond .eq 7, 3) := by decide +kernel
theorem dX6_swap_60 : decode cX6_swap 60 = .ok (.iconst 1, 1) := by decide +kernel
theorem dX6_swap_61 : decode cX6_swap 61 = .ok (.goto 4, 3) := by decide +kernel
theorem dX6_swap_64 : decode cX6_swap 64 = .ok (.iconst 0, 1) := by decide +kernel
theorem dX6_swap_65 : decode cX6_swap 65 = .ok (.invokevirtual 147, 3) := by decide +kernel
theorem dX6_swap_68 : decode cX6_swap 68 = .ok (.return_, 1) := by decide +kernel
theorem dX6_rows_0 : decode cX6_rows 0 = .ok (.iload_n 2, 1) := by decide +kernel
theorem dX6_rows_1 : decode cX6_rows 1 = .ok (.bipush 7, 2) := by decide +kernel
theorem dX6_rows_3 : decode cX6_rows 3 = .ok (.if_icmp .ne 50, 3) := by decide +kernel
theorem dX6_rows_6 : decode cX6_rows 6 = .ok (.aload_n 0, 1) := by decide +kernel
theorem dX6_rows_7 : decode cX6_rows 7 = .ok (.iload 4, 2) := by decide +kernel
theorem dX6_rows_9 : decode cX6_rows 9 = .ok (.aload_n 0, 1) := by decide +kernel
theorem dX6_rows_10 : decode cX6_rows 10 = .ok (.iload_n 1, 1) := by decide +kernel
theorem dX6_rows_11 : decode cX6_rows 11 = .ok (.iload 5, 2) := by decide +kernel
theorem dX6_rows_13 : decode cX6_rows 13 = .ok (.invokevirtual 153, 3) := by decide +kernel
theorem dX6_rows_16 : decode cX6_rows 16 = .ok (.invokevirtual 159, 3) := by decide +kernel
theorem dX6_rows_19 : decode cX6_rows 19 = .ok (.aload_n 0, 1) := by decide +kernel
theorem dX6_rows_20 : decode cX6_rows 20 = .ok (.getfield 133, 3) := by decide +kernel
theorem dX6_rows_23 : decode cX6_rows 23 = .ok (.ifCond .ne 276, 3) := by decide +kernel
theorem dX6_rows_26 : decode cX6_rows 26 = .ok (.aload_n 0, 1) := by decide +kernel
theorem dX6_rows_27 : decode cX6_rows 27 = .ok (.iload_n 1, 1) := by decide +kernel
theorem dX6_rows_28 : decode cX6_rows 28 = .ok (.iload_n 3, 1) := by decide +kernel
theorem dX6_rows_29 : decode cX6_rows 29 = .ok (.aload_n 0, 1) := by decide +kernel
theorem dX6_rows_30 : decode cX6_rows 30 = .ok (.getfield 23, 3) := by decide +kernel
theorem dX6_rows_33 : decode cX6_rows 33 = .ok (.bipush 8, 2) := by decide +kernel
theorem dX6_rows_35 : decode cX6_rows 35 = .ok (.iload 4, 2) := by decide +kernel
theorem dX6_rows_37 : decode cX6_rows 37 = .ok (.imul, 1) := by decide +kernel
theorem dX6_rows_38 : decode cX6_rows 38 = .ok (.aload_n 0, 1) := by decide +kernel
theorem dX6_rows_39 : decode cX6_rows 39 = .ok (.iload_n 1, 1) := by decide +kernel
theorem dX6_rows_40 : decode cX6_rows 40 = .ok (.iload 5, 2) := by decide +kernel
theorem dX6_rows_42 : decode cX6_rows 42 = .ok (.invokevirtual 153, 3) := by decide +kernel
theorem dX6_rows_45 : decode cX6_rows 45 = .ok (.iadd, 1) := by decide +kernel
theorem dX6_rows_46 : decode cX6_rows 46 = .ok (.iaload, 1) := by decide +kernel
theorem dX6_rows_47 : decode cX6_rows 47 = .ok (.invokevirtual 147, 3) := by decide +kernel
theorem dX6_rows_50 : decode cX6_rows 50 = .ok (.goto 249, 3) := by decide +kernel
theorem dX6_rows_53 : decode cX6_rows 53 = .ok (.iload_n 2, 1) := by decide +kernel
theorem dX6_rows_54 : decode cX6_rows 54 = .ok (.bipush 8, 2) := by decide +kernel
theorem dX6_rows_56 : decode cX6_rows 56 = .ok (.if_icmp .ne 77, 3) := by decide +kernel
theorem dX6_rows_59 : decode cX6_rows 59 = .ok (.aload_n 0, 1) := by decide +kernel
theorem dX6_rows_60 : decode cX6_rows 60 = .ok (.iload_n 3, 1) := by decide +kernel
theorem dX6_rows_61 : decode cX6_rows 61 = .ok (.aload_n 0, 1) := by decide +kernel
theorem dX6_rows_62 : decode cX6_rows 62 = .ok (.iload_n 1, 1) := by decide +kernel
theorem dX6_rows_63 : decode cX6_rows 63 = .ok (.iload 4, 2) := by decide +kernel
theorem dX6_rows_65 : decode cX6_rows 65 = .ok (.invokevirtual 153, 3) := by decide +kernel
theorem dX6_rows_68 : decode cX6_rows 68 = .ok (.invokevirtual 159, 3) := by decide +kernel
theorem dX6_rows_71 : decode cX6_rows 71 = .ok (.aload_n 0, 1) := by decide +kernel
theorem dX6_rows_72 : decode cX6_rows 72 = .ok (.aload_n 0, 1) := by decide +kernel
theorem dX6_rows_73 : decode cX6_rows 73 = .ok (.getfield 133, 3) := by decide +kernel
theorem dX6_rows_76 : decode cX6_rows 76 = .ok (.ifCond .ne 16, 3) := by decide +kernel
theorem dX6_rows_79 : decode cX6_rows 79 = .ok (.aload_n 0, 1) := by decide +kernel
theorem dX6_rows_80 : decode cX6_rows 80 = .ok (.getfield 26, 3) := by decide +kernel
theorem dX6_rows_83 : decode cX6_rows 83 = .ok (.iload_n 3, 1) := by decide +kernel
theorem dX6_rows_84 : decode cX6_rows 84 = .ok (.baload, 1) := by decide +kernel
theorem dX6_rows_85 : decode cX6_rows 85 = .ok (.ifCond .eq 7, 3) := by decide +kernel
theorem dX6_rows_88 : decode cX6_rows 88 = .ok (.iconst 4, 1) := by decide +kernel
theorem dX6_rows_89 : decode cX6_rows 89 = .ok (.goto 7, 3) := by decide +kernel
theorem dX6_rows_92 : decode cX6_rows 92 = .ok (.aload_n 0, 1) := by decide +kernel
theorem dX6_rows_93 : decode cX6_rows 93 = .ok (.getfield 133, 3) := by decide +kernel
theorem dX6_rows_96 : decode cX6_rows 96 = .ok (.putfield 133, 3) := by decide +kernel
theorem dX6_rows_99 : decode cX6_rows 99 = .ok (.aload_n 0, 1) := by decide +kernel
theorem dX6_rows_100 : decode cX6_rows 100 = .ok (.getfield 133, 3) := by decide +kernel
theorem dX6_rows_103 : decode cX6_rows 103 = .ok (.ifCond .ne 196, 3) := by decide +kernel
theorem dX6_rows_106 : decode cX6_rows 106 = .ok (.aload_n 0, 1) := by decide +kernel
theorem dX6_rows_107 : decode cX6_rows 107 = .ok (.getfield 23, 3) := by decide +kernel
theorem dX6_rows_110 : decode cX6_rows 110 = .ok (.bipush 8, 2) := by decide +kernel
theorem dX6_rows_112 : decode cX6_rows 112 = .ok (.iload_n 3, 1) := by decide +kernel
theorem dX6_rows_113 : decode cX6_rows 113 = .ok (.imul, 1) := by decide +kernel
theorem dX6_rows_114 : decode cX6_rows 114 = .ok (.aload_n 0, 1) := by decide +kernel
theorem dX6_rows_115 : decode cX6_rows 115 = .ok (.iload_n 1, 1) := by decide +kernel
theorem dX6_rows_116 : decode cX6_rows 116 = .ok (.iload 4, 2) := by decide +kernel
theorem dX6_rows_118 : decode cX6_rows 118 = .ok (.invokevirtual 153, 3) := by decide +kernel
theorem dX6_rows_121 : decode cX6_rows 121 = .ok (.iadd, 1) := by decide +kernel
theorem dX6_rows_122 : decode cX6_rows 122 = .ok (.aload_n 0, 1) := by decide +kernel
theorem dX6_rows_123 : decode cX6_rows 123 = .ok (.iload_n 1, 1) := by decide +kernel
theorem dX6_rows_124 : decode cX6_rows 124 = .ok (.iload 5, 2) := by decide +kernel
theorem dX6_rows_126 : decode cX6_rows 126 = .ok (.invokevirtual 153, 3) := by decide +kernel
theorem dX6_rows_129 : decode cX6_rows 129 = .ok (.iastore, 1) := by decide +kernel
theorem dX6_rows_130 : decode cX6_rows 130 = .ok (.goto 169, 3) := by decide +kernel
theorem dX6_rows_133 : decode cX6_rows 133 = .ok (.iload_n 2, 1) := by decide +kernel
theorem dX6_rows_134 : decode cX6_rows 134 = .ok (.bipush 17, 2) := by decide +kernel
theorem dX6_rows_136 : decode cX6_rows 136 = .ok (.if_icmp .ne 93, 3) := by decide +kernel
theorem dX6_rows_139 : decode cX6_rows 139 = .ok (.aload_n 0, 1) := by decide +kernel
theorem dX6_rows_140 : decode cX6_rows 140 = .ok (.iload_n 1, 1) := by decide +kernel
theorem dX6_rows_141 : decode cX6_rows 141 = .ok (.iload 4, 2) := by decide +kernel
theorem dX6_rows_143 : decode cX6_rows 143 = .ok (.invokevirtual 153, 3) := by decide +kernel
theorem dX6_rows_146 : decode cX6_rows 146 = .ok (.istore 6, 2) := by decide +kernel
theorem dX6_rows_148 : decode cX6_rows 148 = .ok (.aload_n 0, 1) := by decide +kernel
theorem dX6_rows_149 : decode cX6_rows 149 = .ok (.iload 6, 2) := by decide +kernel
theorem dX6_rows_151 : decode cX6_rows 151 = .ok (.ifCond .ge 8, 3) := by decide +kernel
theorem dX6_rows_154 : decode cX6_rows 154 = .ok (.bipush 6, 2) := by decide +kernel
theorem dX6_rows_156 : decode cX6_rows 156 = .ok (.goto 16, 3) := by decide +kernel
theorem dX6_rows_159 : decode cX6_rows 159 = .ok (.iload 6, 2) := by decide +kernel
theorem dX6_rows_161 : decode cX6_rows 161 = .ok (.bipush 8, 2) := by decide +kernel
theorem dX6_rows_163 : decode cX6_rows 163 = .ok (.if_icmp .le 8, 3) := by decide +kernel
theorem dX6_rows_166 : decode cX6_rows 166 = .ok (.bipush 7, 2) := by decide +kernel
theorem dX6_rows_168 : decode cX6_rows 168 = .ok (.goto 4, 3) := by decide +kernel
theorem dX6_rows_171 : decode cX6_rows 171 = .ok (.iconst 0, 1) := by decide +kernel
theorem dX6_rows_172 : decode cX6_rows 172 = .ok (.putfield 133, 3) := by decide +kernel
theorem dX6_rows_175 : decode cX6_rows 175 = .ok (.aload_n 0, 1) := by decide +kernel
theorem dX6_rows_176 : decode cX6_rows 176 = .ok (.getfield 133, 3) := by decide +kernel
theorem dX6_rows_179 : decode cX6_rows 179 = .ok (.ifCond .ne 47, 3) := by decide +kernel
theorem dX6_rows_182 : decode cX6_rows 182 = .ok (.aload_n 0, 1) := by decide +kernel
theorem dX6_rows_183 : decode cX6_rows 183 = .ok (.getfield 20, 3) := by decide +kernel
theorem dX6_rows_186 : decode cX6_rows 186 = .ok (.iload_n 3, 1) := by decide +kernel
theorem dX6_rows_187 : decode cX6_rows 187 = .ok (.iload 6, 2) := by decide +kernel
theorem dX6_rows_189 : decode cX6_rows 189 = .ok (.iastore, 1) := by decide +kernel
theorem dX6_rows_190 : decode cX6_rows 190 = .ok (.aload_n 0, 1) := by decide +kernel
theorem dX6_rows_191 : decode cX6_rows 191 = .ok (.getfield 26, 3) := by decide +kernel
theorem dX6_rows_194 : decode cX6_rows 194 = .ok (.iload_n 3, 1) := by decide +kernel
theorem dX6_rows_195 : decode cX6_rows 195 = .ok (.iconst 0, 1) := by decide +kernel
theorem dX6_rows_196 : decode cX6_rows 196 = .ok (.bastore, 1) := by decide +kernel
theorem dX6_rows_197 : decode cX6_rows 197 = .ok (.iconst 0, 1) := by decide +kernel
theorem dX6_rows_198 : decode cX6_rows 198 = .ok (.istore 7, 2) := by decide +kernel
theorem dX6_rows_200 : decode cX6_rows 200 = .ok (.iload 7, 2) := by decide +kernel
theorem dX6_rows_202 : decode cX6_rows 202 = .ok (.iload 6, 2) := by decide +kernel
theorem dX6_rows_204 : decode cX6_rows 204 = .ok (.if_icmp .ge 22, 3) := by decide +kernel
theorem dX6_rows_207 : decode cX6_rows 207 = .ok (.aload_n 0, 1) := by decide +kernel
theorem dX6_rows_208 : decode cX6_rows 208 = .ok (.getfield 23, 3) := by decide +kernel
theorem dX6_rows_211 : decode cX6_rows 211 = .ok (.bipush 8, 2) := by decide +kernel
theorem dX6_rows_213 : decode cX6_rows 213 = .ok (.iload_n 3, 1) := by decide +kernel
theorem dX6_rows_214 : decode cX6_rows 214 = .ok (.imul, 1) := by decide +kernel
theorem dX6_rows_215 : decode cX6_rows 215 = .ok (.iload 7, 2) := by decide +kernel
theorem dX6_rows_217 : decode cX6_rows 217 = .ok (.iadd, 1) := by decide +kernel
theorem dX6_rows_218 : decode cX6_rows 218 = .ok (.iconst 0, 1) := by decide +kernel
theorem dX6_rows_219 : decode cX6_rows 219 = .ok (.iastore, 1) := by decide +kernel
theorem dX6_rows_220 : decode cX6_rows 220 = .ok (.iinc 7 1, 3) := by decide +kernel
theorem dX6_rows_223 : decode cX6_rows 223 = .ok (.goto (-23), 3) := by decide +kernel
theorem dX6_rows_226 : decode cX6_rows 226 = .ok (.goto 73, 3) := by decide +kernel
theorem dX6_rows_229 : decode cX6_rows 229 = .ok (.iload_n 2, 1) := by decide +kernel
theorem dX6_rows_230 : decode cX6_rows 230 = .ok (.bipush 18, 2) := by decide +kernel
theorem dX6_rows_232 : decode cX6_rows 232 = .ok (.if_icmp .ne 52, 3) := by decide +kernel
theorem dX6_rows_235 : decode cX6_rows 235 = .ok (.aload_n 0, 1) := by decide +kernel
theorem dX6_rows_236 : decode cX6_rows 236 = .ok (.aload_n 0, 1) := by decide +kernel
theorem dX6_rows_237 : decode cX6_rows 237 = .ok (.getfield 20, 3) := by decide +kernel
theorem dX6_rows_240 : decode cX6_rows 240 = .ok (.iload_n 3, 1) := by decide +kernel
theorem dX6_rows_241 : decode cX6_rows 241 = .ok (.iaload, 1) := by decide +kernel
theorem dX6_rows_242 : decode cX6_rows 242 = .ok (.iconst (-1), 1) := by decide +kernel
theorem dX6_rows_243 : decode cX6_rows 243 = .ok (.if_icmp .ne 7, 3) := by decide +kernel
theorem dX6_rows_246 : decode cX6_rows 246 = .ok (.iconst 1, 1) := by decide +kernel
theorem dX6_rows_247 : decode cX6_rows 247 = .ok (.goto 4, 3) := by decide +kernel
theorem dX6_rows_250 : decode cX6_rows 250 = .ok (.iconst 0, 1) := by decide +kernel
theorem dX6_rows_251 : decode cX6_rows 251 = .ok (.putfield 133, 3) := by decide +kernel
theorem dX6_rows_254 : decode cX6_rows 254 = .ok (.aload_n 0, 1) := by decide +kernel
theorem dX6_rows_255 : decode cX6_rows 255 = .ok (.getfield 26, 3) := by decide +kernel
theorem dX6_rows_258 : decode cX6_rows 258 = .ok (.iload_n 3, 1) := by decide +kernel
theorem dX6_rows_259 : decode cX6_rows 259 = .ok (.aload_n 0, 1) := by decide +kernel
theorem dX6_rows_260 : decode cX6_rows 260 = .ok (.getfield 26, 3) := by decide +kernel
theorem dX6_rows_263 : decode cX6_rows 263 = .ok (.iload_n 3, 1) := by decide +kernel
theorem dX6_rows_264 : decode cX6_rows 264 = .ok (.baload, 1) := by decide +kernel
theorem dX6_rows_265 : decode cX6_rows 265 = .ok (.ifCond .ne 10, 3) := by decide +kernel
theorem dX6_rows_268 : decode cX6_rows 268 = .ok (.aload_n 0, 1) := by decide +kernel
theorem dX6_rows_269 : decode cX6_rows 269 = .ok (.getfield 133, 3) := by decide +kernel
theorem dX6_rows_272 : decode cX6_rows 272 = .ok (.ifCond .ne 7, 3) := by decide +kernel
theorem dX6_rows_275 : decode cX6_rows 275 = .ok (.iconst 1, 1) := by decide +kernel
theorem dX6_rows_276 : decode cX6_rows 276 = .ok (.goto 4, 3) := by decide +kernel
theorem dX6_rows_279 : decode cX6_rows 279 = .ok (.iconst 0, 1) := by decide +kernel
theorem dX6_rows_280 : decode cX6_rows 280 = .ok (.bastore, 1) := by decide +kernel
theorem dX6_rows_281 : decode cX6_rows 281 = .ok (.goto 18, 3) := by decide +kernel
theorem dX6_rows_284 : decode cX6_rows 284 = .ok (.aload_n 0, 1) := by decide +kernel
theorem dX6_rows_285 : decode cX6_rows 285 = .ok (.getfield 7, 3) := by decide +kernel
theorem dX6_rows_288 : decode cX6_rows 288 = .ok (.iload_n 3, 1) := by decide +kernel
theorem dX6_rows_289 : decode cX6_rows 289 = .ok (.iload 4, 2) := by decide +kernel
theorem dX6_rows_291 : decode cX6_rows 291 = .ok (.iastore, 1) := by decide +kernel
theorem dX6_rows_292 : decode cX6_rows 292 = .ok (.aload_n 0, 1) := by decide +kernel
theorem dX6_rows_293 : decode cX6_rows 293 = .ok (.getfield 13, 3) := by decide +kernel
theorem dX6_rows_296 : decode cX6_rows 296 = .ok (.iload_n 3, 1) := by decide +kernel
theorem dX6_rows_297 : decode cX6_rows 297 = .ok (.iconst 1, 1) := by decide +kernel
theorem dX6_rows_298 : decode cX6_rows 298 = .ok (.bastore, 1) := by decide +kernel
theorem dX6_rows_299 : decode cX6_rows 299 = .ok (.return_, 1) := by decide +kernel
theorem dX6_doAct_0 : decode cX6_doAct 0 = .ok (.bipush 24, 2) := by decide +kernel
theorem dX6_doAct_2 : decode cX6_doAct 2 = .ok (.iload_n 1, 1) := by decide +kernel
theorem dX6_doAct_3 : decode cX6_doAct 3 = .ok (.imul, 1) := by decide +kernel
theorem dX6_doAct_4 : decode cX6_doAct 4 = .ok (.aload_n 0, 1) := by decide +kernel
theorem dX6_doAct_5 : decode cX6_doAct 5 = .ok (.getfield 47, 3) := by decide +kernel
theorem dX6_doAct_8 : decode cX6_doAct 8 = .ok (.iload_n 1, 1) := by decide +kernel
theorem dX6_doAct_9 : decode cX6_doAct 9 = .ok (.iaload, 1) := by decide +kernel
theorem dX6_doAct_10 : decode cX6_doAct 10 = .ok (.iadd, 1) := by decide +kernel
theorem dX6_doAct_11 : decode cX6_doAct 11 = .ok (.istore_n 2, 1) := by decide +kernel
theorem dX6_doAct_12 : decode cX6_doAct 12 = .ok (.aload_n 0, 1) := by decide +kernel
theorem dX6_doAct_13 : decode cX6_doAct 13 = .ok (.getfield 32, 3) := by decide +kernel
theorem dX6_doAct_16 : decode cX6_doAct 16 = .ok (.iload_n 2, 1) := by decide +kernel
theorem dX6_doAct_17 : decode cX6_doAct 17 = .ok (.iaload, 1) := by decide +kernel
theorem dX6_doAct_18 : decode cX6_doAct 18 = .ok (.istore_n 3, 1) := by decide +kernel
theorem dX6_doAct_19 : decode cX6_doAct 19 = .ok (.aload_n 0, 1) := by decide +kernel
theorem dX6_doAct_20 : decode cX6_doAct 20 = .ok (.getfield 35, 3) := by decide +kernel
theorem dX6_doAct_23 : decode cX6_doAct 23 = .ok (.iload_n 2, 1) := by decide +kernel
theorem dX6_doAct_24 : decode cX6_doAct 24 = .ok (.iaload, 1) := by decide +kernel
theorem dX6_doAct_25 : decode cX6_doAct 25 = .ok (.istore 4, 2) := by decide +kernel
theorem dX6_doAct_27 : decode cX6_doAct 27 = .ok (.aload_n 0, 1) := by decide +kernel
theorem dX6_doAct_28 : decode cX6_doAct 28 = .ok (.getfield 38, 3) := by decide +kernel
theorem dX6_doAct_31 : decode cX6_doAct 31 = .ok (.iload_n 2, 1) := by decide +kernel
theorem dX6_doAct_32 : decode cX6_doAct 32 = .ok (.iaload, 1) := by decide +kernel
theorem dX6_doAct_33 : decode cX6_doAct 33 = .ok (.istore 5, 2) := by decide +kernel
theorem dX6_doAct_35 : decode cX6_doAct 35 = .ok (.aload_n 0, 1) := by decide +kernel
theorem dX6_doAct_36 : decode cX6_doAct 36 = .ok (.getfield 41, 3) := by decide +kernel
theorem dX6_doAct_39 : decode cX6_doAct 39 = .ok (.iload_n 2, 1) := by decide +kernel
theorem dX6_doAct_40 : decode cX6_doAct 40 = .ok (.iaload, 1) := by decide +kernel
theorem dX6_doAct_41 : decode cX6_doAct 41 = .ok (.istore 6, 2) := by decide +kernel
theorem dX6_doAct_43 : decode cX6_doAct 43 = .ok (.aload_n 0, 1) := by decide +kernel
theorem dX6_doAct_44 : decode cX6_doAct 44 = .ok (.getfield 47, 3) := by decide +kernel
theorem dX6_doAct_47 : decode cX6_doAct 47 = .ok (.iload_n 1, 1) := by decide +kernel
theorem dX6_doAct_48 : decode cX6_doAct 48 = .ok (.iaload, 1) := by decide +kernel
theorem dX6_doAct_49 : decode cX6_doAct 49 = .ok (.iconst 1, 1) := by decide +kernel
theorem dX6_doAct_50 : decode cX6_doAct 50 = .ok (.iadd, 1) := by decide +kernel
theorem dX6_doAct_51 : decode cX6_doAct 51 = .ok (.istore 7, 2) := by decide +kernel
theorem dX6_doAct_53 : decode cX6_doAct 53 = .ok (.iload_n 3, 1) := by decide +kernel
theorem dX6_doAct_54 : decode cX6_doAct 54 = .ok (.tableswitch 328 0 16 #[82, 94, 115, 132, 132, 132, 132, 328, 328, 157, 171, 174, 192, 200, 206, 254, 308], 82) := by decide +kernel
theorem dX6_doAct_136 : decode cX6_doAct 136 = .ok (.aload_n 0, 1) := by decide +kernel
theorem dX6_doAct_137 : decode cX6_doAct 137 = .ok (.iload_n 1, 1) := by decide +kernel
theorem dX6_doAct_138 : decode cX6_doAct 138 = .ok (.iload 4, 2) := by decide +kernel
theorem dX6_doAct_140 : decode cX6_doAct 140 = .ok (.iload 5, 2) := by decide +kernel
theorem dX6_doAct_142 : decode cX6_doAct 142 = .ok (.invokevirtual 147, 3) := by decide +kernel
theorem dX6_doAct_145 : decode cX6_doAct 145 = .ok (.goto 266, 3) := by decide +kernel
theorem dX6_doAct_148 : decode cX6_doAct 148 = .ok (.aload_n 0, 1) := by decide +kernel
theorem dX6_doAct_149 : decode cX6_doAct 149 = .ok (.iload_n 1, 1) := by decide +kernel
theorem dX6_doAct_150 : decode cX6_doAct 150 = .ok (.iload 5, 2) := by decide +kernel
theorem dX6_doAct_152 : decode cX6_doAct 152 = .ok (.invokevirtual 150, 3) := by decide +kernel
theorem dX6_doAct_155 : decode cX6_doAct 155 = .ok (.istore 8, 2) := by decide +kernel
theorem dX6_doAct_157 : decode cX6_doAct 157 = .ok (.aload_n 0, 1) := by decide +kernel
theorem dX6_doAct_158 : decode cX6_doAct 158 = .ok (.iload_n 1, 1) := by decide +kernel
theorem dX6_doAct_159 : decode cX6_doAct 159 = .ok (.iload 4, 2) := by decide +kernel
theorem dX6_doAct_161 : decode cX6_doAct 161 = .ok (.iload 8, 2) := by decide +kernel
theorem dX6_doAct_163 : decode cX6_doAct 163 = .ok (.invokevirtual 147, 3) := by decide +kernel
theorem dX6_doAct_166 : decode cX6_doAct 166 = .ok (.goto 245, 3) := by decide +kernel
theorem dX6_doAct_169 : decode cX6_doAct 169 = .ok (.aload_n 0, 1) := by decide +kernel
theorem dX6_doAct_170 : decode cX6_doAct 170 = .ok (.iload_n 1, 1) := by decide +kernel
theorem dX6_doAct_171 : decode cX6_doAct 171 = .ok (.iload 4, 2) := by decide +kernel
theorem dX6_doAct_173 : decode cX6_doAct 173 = .ok (.aload_n 0, 1) := by decide +kernel
theorem dX6_doAct_174 : decode cX6_doAct 174 = .ok (.iload_n 1, 1) := by decide +kernel
theorem dX6_doAct_175 : decode cX6_doAct 175 = .ok (.iload 5, 2) := by decide +kernel
theorem dX6_doAct_177 : decode cX6_doAct 177 = .ok (.invokevirtual 153, 3) := by decide +kernel
theorem dX6_doAct_180 : decode cX6_doAct 180 = .ok (.invokevirtual 156, 3) := by decide +kernel
theorem dX6_doAct_183 : decode cX6_doAct 183 = .ok (.goto 228, 3) := by decide +kernel
theorem dX6_doAct_186 : decode cX6_doAct 186 = .ok (.aload_n 0, 1) := by decide +kernel
theorem dX6_doAct_187 : decode cX6_doAct 187 = .ok (.iload_n 1, 1) := by decide +kernel
theorem dX6_doAct_188 : decode cX6_doAct 188 = .ok (.iload_n 3, 1) := by decide +kernel
theorem dX6_doAct_189 : decode cX6_doAct 189 = .ok (.iload 4, 2) := by decide +kernel
theorem dX6_doAct_191 : decode cX6_doAct 191 = .ok (.aload_n 0, 1) := by decide +kernel
theorem dX6_doAct_192 : decode cX6_doAct 192 = .ok (.iload_n 1, 1) := by decide +kernel
theorem dX6_doAct_193 : decode cX6_doAct 193 = .ok (.iload 5, 2) := by decide +kernel
theorem dX6_doAct_195 : decode cX6_doAct 195 = .ok (.invokevirtual 153, 3) := by decide +kernel
theorem dX6_doAct_198 : decode cX6_doAct 198 = .ok (.aload_n 0, 1) := by decide +kernel
theorem dX6_doAct_199 : decode cX6_doAct 199 = .ok (.iload_n 1, 1) := by decide +kernel
theorem dX6_doAct_200 : decode cX6_doAct 200 = .ok (.iload 6, 2) := by decide +kernel
theorem dX6_doAct_202 : decode cX6_doAct 202 = .ok (.invokevirtual 153, 3) := by decide +kernel
theorem dX6_doAct_205 : decode cX6_doAct 205 = .ok (.invokevirtual 163, 3) := by decide +kernel
theorem dX6_doAct_208 : decode cX6_doAct 208 = .ok (.goto 203, 3) := by decide +kernel
theorem dX6_doAct_211 : decode cX6_doAct 211 = .ok (.aload_n 0, 1) := by decide +kernel
theorem dX6_doAct_212 : decode cX6_doAct 212 = .ok (.iload_n 1, 1) := by decide +kernel
theorem dX6_doAct_213 : decode cX6_doAct 213 = .ok (.iload 4, 2) := by decide +kernel
theorem dX6_doAct_215 : decode cX6_doAct 215 = .ok (.iload 5, 2) := by decide +kernel
theorem dX6_doAct_217 : decode cX6_doAct 217 = .ok (.iload 6, 2) := by decide +kernel
theorem dX6_doAct_219 : decode cX6_doAct 219 = .ok (.invokevirtual 167, 3) := by decide +kernel
theorem dX6_doAct_222 : decode cX6_doAct 222 = .ok (.goto 189, 3) := by decide +kernel
theorem dX6_doAct_225 : decode cX6_doAct 225 = .ok (.iload 4, 2) := by decide +kernel
theorem dX6_doAct_227 : decode cX6_doAct 227 = .ok (.ireturn, 1) := by decide +kernel
theorem dX6_doAct_228 : decode cX6_doAct 228 = .ok (.aload_n 0, 1) := by decide +kernel
theorem dX6_doAct_229 : decode cX6_doAct 229 = .ok (.iload_n 1, 1) := by decide +kernel
theorem dX6_doAct_230 : decode cX6_doAct 230 = .ok (.iload 4, 2) := by decide +kernel
theorem dX6_doAct_232 : decode cX6_doAct 232 = .ok (.invokevirtual 153, 3) := by decide +kernel
theorem dX6_doAct_235 : decode cX6_doAct 235 = .ok (.ifCond .ne 8, 3) := by decide +kernel
theorem dX6_doAct_238 : decode cX6_doAct 238 = .ok (.iload 5, 2) := by decide +kernel
theorem dX6_doAct_240 : decode cX6_doAct 240 = .ok (.goto 5, 3) := by decide +kernel
theorem dX6_doAct_243 : decode cX6_doAct 243 = .ok (.iload 7, 2) := by decide +kernel
theorem dX6_doAct_245 : decode cX6_doAct 245 = .ok (.ireturn, 1) := by decide +kernel
theorem dX6_doAct_246 : decode cX6_doAct 246 = .ok (.aload_n 0, 1) := by decide +kernel
theorem dX6_doAct_247 : decode cX6_doAct 247 = .ok (.iload_n 1, 1) := by decide +kernel
theorem dX6_doAct_248 : decode cX6_doAct 248 = .ok (.invokevirtual 171, 3) := by decide +kernel
theorem dX6_doAct_251 : decode cX6_doAct 251 = .ok (.goto 160, 3) := by decide +kernel
theorem dX6_doAct_254 : decode cX6_doAct 254 = .ok (.aload_n 0, 1) := by decide +kernel
theorem dX6_doAct_255 : decode cX6_doAct 255 = .ok (.iload_n 1, 1) := by decide +kernel
theorem dX6_doAct_256 : decode cX6_doAct 256 = .ok (.invokevirtual 174, 3) := by decide +kernel
theorem dX6_doAct_259 : decode cX6_doAct 259 = .ok (.ireturn, 1) := by decide +kernel
theorem dX6_doAct_260 : decode cX6_doAct 260 = .ok (.aload_n 0, 1) := by decide +kernel
theorem dX6_doAct_261 : decode cX6_doAct 261 = .ok (.getfield 62, 3) := by decide +kernel
theorem dX6_doAct_264 : decode cX6_doAct 264 = .ok (.iload_n 1, 1) := by decide +kernel
theorem dX6_doAct_265 : decode cX6_doAct 265 = .ok (.iaload, 1) := by decide +kernel
theorem dX6_doAct_266 : decode cX6_doAct 266 = .ok (.iconst 4, 1) := by decide +kernel
theorem dX6_doAct_267 : decode cX6_doAct 267 = .ok (.if_icmp .ne 11, 3) := by decide +kernel
theorem dX6_doAct_270 : decode cX6_doAct 270 = .ok (.aload_n 0, 1) := by decide +kernel
theorem dX6_doAct_271 : decode cX6_doAct 271 = .ok (.iconst 5, 1) := by decide +kernel
theorem dX6_doAct_272 : decode cX6_doAct 272 = .ok (.putfield 133, 3) := by decide +kernel
theorem dX6_doAct_275 : decode cX6_doAct 275 = .ok (.goto 136, 3) := by decide +kernel
theorem dX6_doAct_278 : decode cX6_doAct 278 = .ok (.aload_n 0, 1) := by decide +kernel
theorem dX6_doAct_279 : decode cX6_doAct 279 = .ok (.getfield 65, 3) := by decide +kernel
theorem dX6_doAct_282 : decode cX6_doAct 282 = .ok (.iconst 4, 1) := by decide +kernel
theorem dX6_doAct_283 : decode cX6_doAct 283 = .ok (.iload_n 1, 1) := by decide +kernel
theorem dX6_doAct_284 : decode cX6_doAct 284 = .ok (.imul, 1) := by decide +kernel
theorem dX6_doAct_285 : decode cX6_doAct 285 = .ok (.aload_n 0, 1) := by decide +kernel
theorem dX6_doAct_286 : decode cX6_doAct 286 = .ok (.getfield 62, 3) := by decide +kernel
theorem dX6_doAct_289 : decode cX6_doAct 289 = .ok (.iload_n 1, 1) := by decide +kernel
theorem dX6_doAct_290 : decode cX6_doAct 290 = .ok (.iaload, 1) := by decide +kernel
theorem dX6_doAct_291 : decode cX6_doAct 291 = .ok (.iadd, 1) := by decide +kernel
theorem dX6_doAct_292 : decode cX6_doAct 292 = .ok (.iload 4, 2) := by decide +kernel
theorem dX6_doAct_294 : decode cX6_doAct 294 = .ok (.iastore, 1) := by decide +kernel
theorem dX6_doAct_295 : decode cX6_doAct 295 = .ok (.aload_n 0, 1) := by decide +kernel
theorem dX6_doAct_296 : decode cX6_doAct 296 = .ok (.getfield 62, 3) := by decide +kernel
theorem dX6_doAct_299 : decode cX6_doAct 299 = .ok (.iload_n 1, 1) := by decide +kernel
theorem dX6_doAct_300 : decode cX6_doAct 300 = .ok (.dup2, 1) := by decide +kernel
theorem dX6_doAct_301 : decode cX6_doAct 301 = .ok (.iaload, 1) := by decide +kernel
theorem dX6_doAct_302 : decode cX6_doAct 302 = .ok (.iconst 1, 1) := by decide +kernel
theorem dX6_doAct_303 : decode cX6_doAct 303 = .ok (.iadd, 1) := by decide +kernel
theorem dX6_doAct_304 : decode cX6_doAct 304 = .ok (.iastore, 1) := by decide +kernel
theorem dX6_doAct_305 : decode cX6_doAct 305 = .ok (.goto 106, 3) := by decide +kernel
theorem dX6_doAct_308 : decode cX6_doAct 308 = .ok (.aload_n 0, 1) := by decide +kernel
theorem dX6_doAct_309 : decode cX6_doAct 309 = .ok (.getfield 62, 3) := by decide +kernel
theorem dX6_doAct_312 : decode cX6_doAct 312 = .ok (.iload_n 1, 1) := by decide +kernel
theorem dX6_doAct_313 : decode cX6_doAct 313 = .ok (.iaload, 1) := by decide +kernel
theorem dX6_doAct_314 : decode cX6_doAct 314 = .ok (.ifCond .eq 27, 3) := by decide +kernel
theorem dX6_doAct_317 : decode cX6_doAct 317 = .ok (.aload_n 0, 1) := by decide +kernel
theorem dX6_doAct_318 : decode cX6_doAct 318 = .ok (.getfield 68, 3) := by decide +kernel
theorem dX6_doAct_321 : decode cX6_doAct 321 = .ok (.iload_n 1, 1) := by decide +kernel
theorem dX6_doAct_322 : decode cX6_doAct 322 = .ok (.baload, 1) := by decide +kernel
theorem dX6_doAct_323 : decode cX6_doAct 323 = .ok (.ifCond .eq 26, 3) := by decide +kernel
theorem dX6_doAct_326 : decode cX6_doAct 326 = .ok (.aload_n 0, 1) := by decide +kernel
theorem dX6_doAct_327 : decode cX6_doAct 327 = .ok (.getfield 62, 3) := by decide +kernel
theorem dX6_doAct_330 : decode cX6_doAct 330 = .ok (.iload_n 1, 1) := by decide +kernel
theorem dX6_doAct_331 : decode cX6_doAct 331 = .ok (.iaload, 1) := by decide +kernel
theorem dX6_doAct_332 : decode cX6_doAct 332 = .ok (.aload_n 0, 1) := by decide +kernel
theorem dX6_doAct_333 : decode cX6_doAct 333 = .ok (.getfield 71, 3) := by decide +kernel
theorem dX6_doAct_336 : decode cX6_doAct 336 = .ok (.iload_n 1, 1) := by decide +kernel
theorem dX6_doAct_337 : decode cX6_doAct 337 = .ok (.iaload, 1) := by decide +kernel
theorem dX6_doAct_338 : decode cX6_doAct 338 = .ok (.if_icmp .ne 11, 3) := by decide +kernel
theorem dX6_doAct_341 : decode cX6_doAct 341 = .ok (.aload_n 0, 1) := by decide +kernel
theorem dX6_doAct_342 : decode cX6_doAct 342 = .ok (.iconst 5, 1) := by decide +kernel
theorem dX6_doAct_343 : decode cX6_doAct 343 = .ok (.putfield 133, 3) := by decide +kernel
theorem dX6_doAct_346 : decode cX6_doAct 346 = .ok (.goto 65, 3) := by decide +kernel
theorem dX6_doAct_349 : decode cX6_doAct 349 = .ok (.aload_n 0, 1) := by decide +kernel
theorem dX6_doAct_350 : decode cX6_doAct 350 = .ok (.getfield 62, 3) := by decide +kernel
theorem dX6_doAct_353 : decode cX6_doAct 353 = .ok (.iload_n 1, 1) := by decide +kernel
theorem dX6_doAct_354 : decode cX6_doAct 354 = .ok (.dup2, 1) := by decide +kernel
theorem dX6_doAct_355 : decode cX6_doAct 355 = .ok (.iaload, 1) := by decide +kernel
theorem dX6_doAct_356 : decode cX6_doAct 356 = .ok (.iconst 1, 1) := by decide +kernel
theorem dX6_doAct_357 : decode cX6_doAct 357 = .ok (.isub, 1) := by decide +kernel
theorem dX6_doAct_358 : decode cX6_doAct 358 = .ok (.iastore, 1) := by decide +kernel
theorem dX6_doAct_359 : decode cX6_doAct 359 = .ok (.goto 52, 3) := by decide +kernel
theorem dX6_doAct_362 : decode cX6_doAct 362 = .ok (.aload_n 0, 1) := by decide +kernel
theorem dX6_doAct_363 : decode cX6_doAct 363 = .ok (.bipush 10, 2) := by decide +kernel
theorem dX6_doAct_365 : decode cX6_doAct 365 = .ok (.aload_n 0, 1) := by decide +kernel
theorem dX6_doAct_366 : decode cX6_doAct 366 = .ok (.iload_n 1, 1) := by decide +kernel
theorem dX6_doAct_367 : decode cX6_doAct 367 = .ok (.iload 4, 2) := by decide +kernel
theorem dX6_doAct_369 : decode cX6_doAct 369 = .ok (.invokevirtual 153, 3) := by decide +kernel
theorem dX6_doAct_372 : decode cX6_doAct 372 = .ok (.bipush 7, 2) := by decide +kernel
theorem dX6_doAct_374 : decode cX6_doAct 374 = .ok (.iand, 1) := by decide +kernel
theorem dX6_doAct_375 : decode cX6_doAct 375 = .ok (.iadd, 1) := by decide +kernel
theorem dX6_doAct_376 : decode cX6_doAct 376 = .ok (.putfield 133, 3) := by decide +kernel
theorem dX6_doAct_379 : decode cX6_doAct 379 = .ok (.goto 32, 3) := by decide +kernel
theorem dX6_doAct_382 : decode cX6_doAct 382 = .ok (.aload_n 0, 1) := by decide +kernel
theorem dX6_doAct_383 : decode cX6_doAct 383 = .ok (.getfield 68, 3) := by decide +kernel
theorem dX6_doAct_386 : decode cX6_doAct 386 = .ok (.iload_n 1, 1) := by decide +kernel
theorem dX6_doAct_387 : decode cX6_doAct 387 = .ok (.baload, 1) := by decide +kernel
theorem dX6_doAct_388 : decode cX6_doAct 388 = .ok (.ifCond .eq 11, 3) := by decide +kernel
theorem dX6_doAct_391 : decode cX6_doAct 391 = .ok (.aload_n 0, 1) := by decide +kernel
theorem dX6_doAct_392 : decode cX6_doAct 392 = .ok (.iconst 5, 1) := by decide +kernel
theorem dX6_doAct_393 : decode cX6_doAct 393 = .ok (.putfield 133, 3) := by decide +kernel
theorem dX6_doAct_396 : decode cX6_doAct 396 = .ok (.goto 15, 3) := by decide +kernel
theorem dX6_doAct_399 : decode cX6_doAct 399 = .ok (.aload_n 0, 1) := by decide +kernel
theorem dX6_doAct_400 : decode cX6_doAct 400 = .ok (.iload_n 1, 1) := by decide +kernel
theorem dX6_doAct_401 : decode cX6_doAct 401 = .ok (.iload_n 3, 1) := by decide +kernel
theorem dX6_doAct_402 : decode cX6_doAct 402 = .ok (.iload 4, 2) := by decide +kernel
theorem dX6_doAct_404 : decode cX6_doAct 404 = .ok (.iload 5, 2) := by decide +kernel
theorem dX6_doAct_406 : decode cX6_doAct 406 = .ok (.iload 6, 2) := by decide +kernel
theorem dX6_doAct_408 : decode cX6_doAct 408 = .ok (.invokevirtual 178, 3) := by decide +kernel
theorem dX6_doAct_411 : decode cX6_doAct 411 = .ok (.iload 7, 2) := by decide +kernel
theorem dX6_doAct_413 : decode cX6_doAct 413 = .ok (.ireturn, 1) := by decide +kernel
theorem dX6_fail_0 : decode cX6_fail 0 = .ok (.aload_n 0, 1) := by decide +kernel
theorem dX6_fail_1 : decode cX6_fail 1 = .ok (.dup, 1) := by decide +kernel
theorem dX6_fail_2 : decode cX6_fail 2 = .ok (.getfield 181, 3) := by decide +kernel
theorem dX6_fail_5 : decode cX6_fail 5 = .ok (.iconst 1, 1) := by decide +kernel
theorem dX6_fail_6 : decode cX6_fail 6 = .ok (.iadd, 1) := by decide +kernel
theorem dX6_fail_7 : decode cX6_fail 7 = .ok (.putfield 181, 3) := by decide +kernel
theorem dX6_fail_10 : decode cX6_fail 10 = .ok (.aload_n 0, 1) := by decide +kernel
theorem dX6_fail_11 : decode cX6_fail 11 = .ok (.getfield 62, 3) := by decide +kernel
theorem dX6_fail_14 : decode cX6_fail 14 = .ok (.iload_n 1, 1) := by decide +kernel
theorem dX6_fail_15 : decode cX6_fail 15 = .ok (.iaload, 1) := by decide +kernel
theorem dX6_fail_16 : decode cX6_fail 16 = .ok (.ifCond .ne 28, 3) := by decide +kernel
theorem dX6_fail_19 : decode cX6_fail 19 = .ok (.aload_n 0, 1) := by decide +kernel
theorem dX6_fail_20 : decode cX6_fail 20 = .ok (.getfield 53, 3) := by decide +kernel
theorem dX6_fail_23 : decode cX6_fail 23 = .ok (.iload_n 1, 1) := by decide +kernel
theorem dX6_fail_24 : decode cX6_fail 24 = .ok (.iconst 1, 1) := by decide +kernel
theorem dX6_fail_25 : decode cX6_fail 25 = .ok (.bastore, 1) := by decide +kernel
theorem dX6_fail_26 : decode cX6_fail 26 = .ok (.aload_n 0, 1) := by decide +kernel
theorem dX6_fail_27 : decode cX6_fail 27 = .ok (.getfield 50, 3) := by decide +kernel
theorem dX6_fail_30 : decode cX6_fail 30 = .ok (.iload_n 1, 1) := by decide +kernel
theorem dX6_fail_31 : decode cX6_fail 31 = .ok (.aload_n 0, 1) := by decide +kernel
theorem dX6_fail_32 : decode cX6_fail 32 = .ok (.getfield 133, 3) := by decide +kernel
theorem dX6_fail_35 : decode cX6_fail 35 = .ok (.iastore, 1) := by decide +kernel
theorem dX6_fail_36 : decode cX6_fail 36 = .ok (.aload_n 0, 1) := by decide +kernel
theorem dX6_fail_37 : decode cX6_fail 37 = .ok (.getfield 68, 3) := by decide +kernel
theorem dX6_fail_40 : decode cX6_fail 40 = .ok (.iload_n 1, 1) := by decide +kernel
theorem dX6_fail_41 : decode cX6_fail 41 = .ok (.iconst 0, 1) := by decide +kernel
theorem dX6_fail_42 : decode cX6_fail 42 = .ok (.bastore, 1) := by decide +kernel
theorem dX6_fail_43 : decode cX6_fail 43 = .ok (.return_, 1) := by decide +kernel
theorem dX6_fail_44 : decode cX6_fail 44 = .ok (.aload_n 0, 1) := by decide +kernel
theorem dX6_fail_45 : decode cX6_fail 45 = .ok (.getfield 62, 3) := by decide +kernel
theorem dX6_fail_48 : decode cX6_fail 48 = .ok (.iload_n 1, 1) := by decide +kernel
theorem dX6_fail_49 : decode cX6_fail 49 = .ok (.dup2, 1) := by decide +kernel
theorem dX6_fail_50 : decode cX6_fail 50 = .ok (.iaload, 1) := by decide +kernel
theorem dX6_fail_51 : decode cX6_fail 51 = .ok (.iconst 1, 1) := by decide +kernel
theorem dX6_fail_52 : decode cX6_fail 52 = .ok (.isub, 1) := by decide +kernel
theorem dX6_fail_53 : decode cX6_fail 53 = .ok (.iastore, 1) := by decide +kernel
theorem dX6_fail_54 : decode cX6_fail 54 = .ok (.aload_n 0, 1) := by decide +kernel
theorem dX6_fail_55 : decode cX6_fail 55 = .ok (.getfield 44, 3) := by decide +kernel
theorem dX6_fail_58 : decode cX6_fail 58 = .ok (.iconst 4, 1) := by decide +kernel
theorem dX6_fail_59 : decode cX6_fail 59 = .ok (.iload_n 1, 1) := by decide +kernel
theorem dX6_fail_60 : decode cX6_fail 60 = .ok (.imul, 1) := by decide +kernel
theorem dX6_fail_61 : decode cX6_fail 61 = .ok (.aload_n 0, 1) := by decide +kernel
theorem dX6_fail_62 : decode cX6_fail 62 = .ok (.getfield 133, 3) := by decide +kernel
theorem dX6_fail_65 : decode cX6_fail 65 = .ok (.iastore, 1) := by decide +kernel
theorem dX6_fail_66 : decode cX6_fail 66 = .ok (.aload_n 0, 1) := by decide +kernel
theorem dX6_fail_67 : decode cX6_fail 67 = .ok (.getfield 47, 3) := by decide +kernel
theorem dX6_fail_70 : decode cX6_fail 70 = .ok (.iload_n 1, 1) := by decide +kernel
theorem dX6_fail_71 : decode cX6_fail 71 = .ok (.aload_n 0, 1) := by decide +kernel
theorem dX6_fail_72 : decode cX6_fail 72 = .ok (.getfield 65, 3) := by decide +kernel
theorem dX6_fail_75 : decode cX6_fail 75 = .ok (.iconst 4, 1) := by decide +kernel
theorem dX6_fail_76 : decode cX6_fail 76 = .ok (.iload_n 1, 1) := by decide +kernel
theorem dX6_fail_77 : decode cX6_fail 77 = .ok (.imul, 1) := by decide +kernel
theorem dX6_fail_78 : decode cX6_fail 78 = .ok (.aload_n 0, 1) := by decide +kernel
theorem dX6_fail_79 : decode cX6_fail 79 = .ok (.getfield 62, 3) := by decide +kernel
theorem dX6_fail_82 : decode cX6_fail 82 = .ok (.iload_n 1, 1) := by decide +kernel
theorem dX6_fail_83 : decode cX6_fail 83 = .ok (.iaload, 1) := by decide +kernel
theorem dX6_fail_84 : decode cX6_fail 84 = .ok (.iadd, 1) := by decide +kernel
theorem dX6_fail_85 : decode cX6_fail 85 = .ok (.iaload, 1) := by decide +kernel
theorem dX6_fail_86 : decode cX6_fail 86 = .ok (.iastore, 1) := by decide +kernel
theorem dX6_fail_87 : decode cX6_fail 87 = .ok (.aload_n 0, 1) := by decide +kernel
theorem dX6_fail_88 : decode cX6_fail 88 = .ok (.getfield 68, 3) := by decide +kernel
theorem dX6_fail_91 : decode cX6_fail 91 = .ok (.iload_n 1, 1) := by decide +kernel
theorem dX6_fail_92 : decode cX6_fail 92 = .ok (.aload_n 0, 1) := by decide +kernel
theorem dX6_fail_93 : decode cX6_fail 93 = .ok (.getfield 68, 3) := by decide +kernel
theorem dX6_fail_96 : decode cX6_fail 96 = .ok (.iload_n 1, 1) := by decide +kernel
theorem dX6_fail_97 : decode cX6_fail 97 = .ok (.baload, 1) := by decide +kernel
theorem dX6_fail_98 : decode cX6_fail 98 = .ok (.ifCond .eq 22, 3) := by decide +kernel
theorem dX6_fail_101 : decode cX6_fail 101 = .ok (.aload_n 0, 1) := by decide +kernel
theorem dX6_fail_102 : decode cX6_fail 102 = .ok (.getfield 62, 3) := by decide +kernel
theorem dX6_fail_105 : decode cX6_fail 105 = .ok (.iload_n 1, 1) := by decide +kernel
theorem dX6_fail_106 : decode cX6_fail 106 = .ok (.iaload, 1) := by decide +kernel
theorem dX6_fail_107 : decode cX6_fail 107 = .ok (.aload_n 0, 1) := by decide +kernel
theorem dX6_fail_108 : decode cX6_fail 108 = .ok (.getfield 71, 3) := by decide +kernel
theorem dX6_fail_111 : decode cX6_fail 111 = .ok (.iload_n 1, 1) := by decide +kernel
theorem dX6_fail_112 : decode cX6_fail 112 = .ok (.iaload, 1) := by decide +kernel
theorem dX6_fail_113 : decode cX6_fail 113 = .ok (.if_icmp .lt 7, 3) := by decide +kernel
theorem dX6_fail_116 : decode cX6_fail 116 = .ok (.iconst 1, 1) := by decide +kernel
theorem dX6_fail_117 : decode cX6_fail 117 = .ok (.goto 4, 3) := by decide +kernel
theorem dX6_fail_120 : decode cX6_fail 120 = .ok (.iconst 0, 1) := by decide +kernel
theorem dX6_fail_121 : decode cX6_fail 121 = .ok (.bastore, 1) := by decide +kernel
theorem dX6_fail_122 : decode cX6_fail 122 = .ok (.return_, 1) := by decide +kernel
theorem dX6_doTurn_0 : decode cX6_doTurn 0 = .ok (.aload_n 0, 1) := by decide +kernel
theorem dX6_doTurn_1 : decode cX6_doTurn 1 = .ok (.iconst 0, 1) := by decide +kernel
theorem dX6_doTurn_2 : decode cX6_doTurn 2 = .ok (.putfield 133, 3) := by decide +kernel
theorem dX6_doTurn_5 : decode cX6_doTurn 5 = .ok (.aload_n 0, 1) := by decide +kernel
theorem dX6_doTurn_6 : decode cX6_doTurn 6 = .ok (.getfield 56, 3) := by decide +kernel
theorem dX6_doTurn_9 : decode cX6_doTurn 9 = .ok (.iload_n 1, 1) := by decide +kernel
theorem dX6_doTurn_10 : decode cX6_doTurn 10 = .ok (.dup2, 1) := by decide +kernel
theorem dX6_doTurn_11 : decode cX6_doTurn 11 = .ok (.iaload, 1) := by decide +kernel
theorem dX6_doTurn_12 : decode cX6_doTurn 12 = .ok (.iconst 1, 1) := by decide +kernel
theorem dX6_doTurn_13 : decode cX6_doTurn 13 = .ok (.iadd, 1) := by decide +kernel
theorem dX6_doTurn_14 : decode cX6_doTurn 14 = .ok (.iastore, 1) := by decide +kernel
theorem dX6_doTurn_15 : decode cX6_doTurn 15 = .ok (.iconst 0, 1) := by decide +kernel
theorem dX6_doTurn_16 : decode cX6_doTurn 16 = .ok (.istore_n 2, 1) := by decide +kernel
theorem dX6_doTurn_17 : decode cX6_doTurn 17 = .ok (.aload_n 0, 1) := by decide +kernel
theorem dX6_doTurn_18 : decode cX6_doTurn 18 = .ok (.getfield 47, 3) := by decide +kernel
theorem dX6_doTurn_21 : decode cX6_doTurn 21 = .ok (.iload_n 1, 1) := by decide +kernel
theorem dX6_doTurn_22 : decode cX6_doTurn 22 = .ok (.iaload, 1) := by decide +kernel
theorem dX6_doTurn_23 : decode cX6_doTurn 23 = .ok (.aload_n 0, 1) := by decide +kernel
theorem dX6_doTurn_24 : decode cX6_doTurn 24 = .ok (.getfield 29, 3) := by decide +kernel
theorem dX6_doTurn_27 : decode cX6_doTurn 27 = .ok (.iload_n 1, 1) := by decide +kernel
theorem dX6_doTurn_28 : decode cX6_doTurn 28 = .ok (.iaload, 1) := by decide +kernel
theorem dX6_doTurn_29 : decode cX6_doTurn 29 = .ok (.if_icmp .lt 11, 3) := by decide +kernel
theorem dX6_doTurn_32 : decode cX6_doTurn 32 = .ok (.aload_n 0, 1) := by decide +kernel
theorem dX6_doTurn_33 : decode cX6_doTurn 33 = .ok (.iconst 5, 1) := by decide +kernel
theorem dX6_doTurn_34 : decode cX6_doTurn 34 = .ok (.putfield 133, 3) := by decide +kernel
theorem dX6_doTurn_37 : decode cX6_doTurn 37 = .ok (.goto 9, 3) := by decide +kernel
theorem dX6_doTurn_40 : decode cX6_doTurn 40 = .ok (.aload_n 0, 1) := by decide +kernel
theorem dX6_doTurn_41 : decode cX6_doTurn 41 = .ok (.iload_n 1, 1) := by decide +kernel
theorem dX6_doTurn_42 : decode cX6_doTurn 42 = .ok (.invokevirtual 184, 3) := by decide +kernel
theorem dX6_doTurn_45 : decode cX6_doTurn 45 = .ok (.istore_n 2, 1) := by decide +kernel
theorem dX6_doTurn_46 : decode cX6_doTurn 46 = .ok (.aload_n 0, 1) := by decide +kernel
theorem dX6_doTurn_47 : decode cX6_doTurn 47 = .ok (.getfield 133, 3) := by decide +kernel
theorem dX6_doTurn_50 : decode cX6_doTurn 50 = .ok (.ifCond .eq 11, 3) := by decide +kernel
theorem dX6_doTurn_53 : decode cX6_doTurn 53 = .ok (.aload_n 0, 1) := by decide +kernel
theorem dX6_doTurn_54 : decode cX6_doTurn 54 = .ok (.iload_n 1, 1) := by decide +kernel
theorem dX6_doTurn_55 : decode cX6_doTurn 55 = .ok (.invokevirtual 187, 3) := by decide +kernel
theorem dX6_doTurn_58 : decode cX6_doTurn 58 = .ok (.goto 10, 3) := by decide +kernel
theorem dX6_doTurn_61 : decode cX6_doTurn 61 = .ok (.aload_n 0, 1) := by decide +kernel
theorem dX6_doTurn_62 : decode cX6_doTurn 62 = .ok (.getfield 47, 3) := by decide +kernel
theorem dX6_doTurn_65 : decode cX6_doTurn 65 = .ok (.iload_n 1, 1) := by decide +kernel
theorem dX6_doTurn_66 : decode cX6_doTurn 66 = .ok (.iload_n 2, 1) := by decide +kernel
theorem dX6_doTurn_67 : decode cX6_doTurn 67 = .ok (.iastore, 1) := by decide +kernel
theorem dX6_doTurn_68 : decode cX6_doTurn 68 = .ok (.return_, 1) := by decide +kernel
theorem dX6_turn_0 : decode cX6_turn 0 = .ok (.iload_n 1, 1) := by decide +kernel
theorem dX6_turn_1 : decode cX6_turn 1 = .ok (.iconst 0, 1) := by decide +kernel
theorem dX6_turn_2 : decode cX6_turn 2 = .ok (.iconst 2, 1) := by decide +kernel
theorem dX6_turn_3 : decode cX6_turn 3 = .ok (.invokestatic 111, 3) := by decide +kernel
theorem dX6_turn_6 : decode cX6_turn 6 = .ok (.ifCond .ne 6, 3) := by decide +kernel
theorem dX6_turn_9 : decode cX6_turn 9 = .ok (.bipush (-2), 2) := by decide +kernel
theorem dX6_turn_11 : decode cX6_turn 11 = .ok (.ireturn, 1) := by decide +kernel
theorem dX6_turn_12 : decode cX6_turn 12 = .ok (.aload_n 0, 1) := by decide +kernel
theorem dX6_turn_13 : decode cX6_turn 13 = .ok (.iload_n 1, 1) := by decide +kernel
theorem dX6_turn_14 : decode cX6_turn 14 = .ok (.invokevirtual 190, 3) := by decide +kernel
theorem dX6_turn_17 : decode cX6_turn 17 = .ok (.ifCond .ne 13, 3) := by decide +kernel
theorem dX6_turn_20 : decode cX6_turn 20 = .ok (.aload_n 0, 1) := by decide +kernel
theorem dX6_turn_21 : decode cX6_turn 21 = .ok (.getfield 181, 3) := by decide +kernel
theorem dX6_turn_24 : decode cX6_turn 24 = .ok (.sipush 5000, 3) := by decide +kernel
theorem dX6_turn_27 : decode cX6_turn 27 = .ok (.if_icmp .ne 6, 3) := by decide +kernel
theorem dX6_turn_30 : decode cX6_turn 30 = .ok (.bipush (-3), 2) := by decide +kernel
theorem dX6_turn_32 : decode cX6_turn 32 = .ok (.ireturn, 1) := by decide +kernel
theorem dX6_turn_33 : decode cX6_turn 33 = .ok (.aload_n 0, 1) := by decide +kernel
theorem dX6_turn_34 : decode cX6_turn 34 = .ok (.iload_n 1, 1) := by decide +kernel
theorem dX6_turn_35 : decode cX6_turn 35 = .ok (.invokevirtual 193, 3) := by decide +kernel
theorem dX6_turn_38 : decode cX6_turn 38 = .ok (.aload_n 0, 1) := by decide +kernel
theorem dX6_turn_39 : decode cX6_turn 39 = .ok (.iload_n 1, 1) := by decide +kernel
theorem dX6_turn_40 : decode cX6_turn 40 = .ok (.invokevirtual 190, 3) := by decide +kernel
theorem dX6_turn_43 : decode cX6_turn 43 = .ok (.ireturn, 1) := by decide +kernel
theorem dX6_play_0 : decode cX6_play 0 = .ok (.iload_n 2, 1) := by decide +kernel
theorem dX6_play_1 : decode cX6_play 1 = .ok (.iconst 1, 1) := by decide +kernel
theorem dX6_play_2 : decode cX6_play 2 = .ok (.bipush 100, 2) := by decide +kernel
theorem dX6_play_4 : decode cX6_play 4 = .ok (.invokestatic 111, 3) := by decide +kernel
theorem dX6_play_7 : decode cX6_play 7 = .ok (.ifCond .ne 6, 3) := by decide +kernel
theorem dX6_play_10 : decode cX6_play 10 = .ok (.bipush (-2), 2) := by decide +kernel
theorem dX6_play_12 : decode cX6_play 12 = .ok (.ireturn, 1) := by decide +kernel
theorem dX6_play_13 : decode cX6_play 13 = .ok (.iload_n 1, 1) := by decide +kernel
theorem dX6_play_14 : decode cX6_play 14 = .ok (.istore_n 3, 1) := by decide +kernel
theorem dX6_play_15 : decode cX6_play 15 = .ok (.iconst 0, 1) := by decide +kernel
theorem dX6_play_16 : decode cX6_play 16 = .ok (.istore 4, 2) := by decide +kernel
theorem dX6_play_18 : decode cX6_play 18 = .ok (.iload 4, 2) := by decide +kernel
theorem dX6_play_20 : decode cX6_play 20 = .ok (.iload_n 2, 1) := by decide +kernel
theorem dX6_play_21 : decode cX6_play 21 = .ok (.if_icmp .ge 132, 3) := by decide +kernel
theorem dX6_play_24 : decode cX6_play 24 = .ok (.iconst 0, 1) := by decide +kernel
theorem dX6_play_25 : decode cX6_play 25 = .ok (.istore 5, 2) := by decide +kernel
theorem dX6_play_27 : decode cX6_play 27 = .ok (.iconst 0, 1) := by decide +kernel
theorem dX6_play_28 : decode cX6_play 28 = .ok (.istore 6, 2) := by decide +kernel
theorem dX6_play_30 : decode cX6_play 30 = .ok (.iload 6, 2) := by decide +kernel
theorem dX6_play_32 : decode cX6_play 32 = .ok (.iconst 3, 1) := by decide +kernel
theorem dX6_play_33 : decode cX6_play 33 = .ok (.if_icmp .ge 28, 3) := by decide +kernel
theorem dX6_play_36 : decode cX6_play 36 = .ok (.iload 5, 2) := by decide +kernel
theorem dX6_play_38 : decode cX6_play 38 = .ok (.aload_n 0, 1) := by decide +kernel
theorem dX6_play_39 : decode cX6_play 39 = .ok (.iload 6, 2) := by decide +kernel
theorem dX6_play_41 : decode cX6_play 41 = .ok (.invokevirtual 190, 3) := by decide +kernel
theorem dX6_play_44 : decode cX6_play 44 = .ok (.ifCond .ne 7, 3) := by decide +kernel
theorem dX6_play_47 : decode cX6_play 47 = .ok (.iconst 1, 1) := by decide +kernel
theorem dX6_play_48 : decode cX6_play 48 = .ok (.goto 4, 3) := by decide +kernel
theorem dX6_play_51 : decode cX6_play 51 = .ok (.iconst 0, 1) := by decide +kernel
theorem dX6_play_52 : decode cX6_play 52 = .ok (.iadd, 1) := by decide +kernel
theorem dX6_play_53 : decode cX6_play 53 = .ok (.istore 5, 2) := by decide +kernel
theorem dX6_play_55 : decode cX6_play 55 = .ok (.iinc 6 1, 3) := by decide +kernel
theorem dX6_play_58 : decode cX6_play 58 = .ok (.goto (-28), 3) := by decide +kernel
theorem dX6_play_61 : decode cX6_play 61 = .ok (.iload 5, 2) := by decide +kernel
theorem dX6_play_63 : decode cX6_play 63 = .ok (.ifCond .eq 13, 3) := by decide +kernel
theorem dX6_play_66 : decode cX6_play 66 = .ok (.aload_n 0, 1) := by decide +kernel
theorem dX6_play_67 : decode cX6_play 67 = .ok (.getfield 181, 3) := by decide +kernel
theorem dX6_play_70 : decode cX6_play 70 = .ok (.sipush 5000, 3) := by decide +kernel
theorem dX6_play_73 : decode cX6_play 73 = .ok (.if_icmp .ne 6, 3) := by decide +kernel
theorem dX6_play_76 : decode cX6_play 76 = .ok (.iload 4, 2) := by decide +kernel
theorem dX6_play_78 : decode cX6_play 78 = .ok (.ireturn, 1) := by decide +kernel
theorem dX6_play_79 : decode cX6_play 79 = .ok (.iload_n 3, 1) := by decide +kernel
theorem dX6_play_80 : decode cX6_play 80 = .ok (.ldc 196, 2) := by decide +kernel
theorem dX6_play_82 : decode cX6_play 82 = .ok (.imul, 1) := by decide +kernel
theorem dX6_play_83 : decode cX6_play 83 = .ok (.sipush 12345, 3) := by decide +kernel
theorem dX6_play_86 : decode cX6_play 86 = .ok (.iadd, 1) := by decide +kernel
theorem dX6_play_87 : decode cX6_play 87 = .ok (.istore_n 3, 1) := by decide +kernel
theorem dX6_play_88 : decode cX6_play 88 = .ok (.iload_n 3, 1) := by decide +kernel
theorem dX6_play_89 : decode cX6_play 89 = .ok (.bipush 16, 2) := by decide +kernel
theorem dX6_play_91 : decode cX6_play 91 = .ok (.iushr, 1) := by decide +kernel
theorem dX6_play_92 : decode cX6_play 92 = .ok (.iload 5, 2) := by decide +kernel
theorem dX6_play_94 : decode cX6_play 94 = .ok (.irem, 1) := by decide +kernel
theorem dX6_play_95 : decode cX6_play 95 = .ok (.istore 6, 2) := by decide +kernel
theorem dX6_play_97 : decode cX6_play 97 = .ok (.iconst (-1), 1) := by decide +kernel
theorem dX6_play_98 : decode cX6_play 98 = .ok (.istore 7, 2) := by decide +kernel
theorem dX6_play_100 : decode cX6_play 100 = .ok (.iconst 0, 1) := by decide +kernel
theorem dX6_play_101 : decode cX6_play 101 = .ok (.istore 8, 2) := by decide +kernel
theorem dX6_play_103 : decode cX6_play 103 = .ok (.iload 8, 2) := by decide +kernel
theorem dX6_play_105 : decode cX6_play 105 = .ok (.iconst 3, 1) := by decide +kernel
theorem dX6_play_106 : decode cX6_play 106 = .ok (.if_icmp .ge 35, 3) := by decide +kernel
theorem dX6_play_109 : decode cX6_play 109 = .ok (.aload_n 0, 1) := by decide +kernel
theorem dX6_play_110 : decode cX6_play 110 = .ok (.iload 8, 2) := by decide +kernel
theorem dX6_play_112 : decode cX6_play 112 = .ok (.invokevirtual 190, 3) := by decide +kernel
theorem dX6_play_115 : decode cX6_play 115 = .ok (.ifCond .ne 20, 3) := by decide +kernel
theorem dX6_play_118 : decode cX6_play 118 = .ok (.iload 6, 2) := by decide +kernel
theorem dX6_play_120 : decode cX6_play 120 = .ok (.ifCond .ne 8, 3) := by decide +kernel
theorem dX6_play_123 : decode cX6_play 123 = .ok (.iload 8, 2) := by decide +kernel
theorem dX6_play_125 : decode cX6_play 125 = .ok (.goto 5, 3) := by decide +kernel
theorem dX6_play_128 : decode cX6_play 128 = .ok (.iload 7, 2) := by decide +kernel
theorem dX6_play_130 : decode cX6_play 130 = .ok (.istore 7, 2) := by decide +kernel
theorem dX6_play_132 : decode cX6_play 132 = .ok (.iinc 6 (-1), 3) := by decide +kernel
theorem dX6_play_135 : decode cX6_play 135 = .ok (.iinc 8 1, 3) := by decide +kernel
theorem dX6_play_138 : decode cX6_play 138 = .ok (.goto (-35), 3) := by decide +kernel
theorem dX6_play_141 : decode cX6_play 141 = .ok (.aload_n 0, 1) := by decide +kernel
theorem dX6_play_142 : decode cX6_play 142 = .ok (.iload 7, 2) := by decide +kernel
theorem dX6_play_144 : decode cX6_play 144 = .ok (.invokevirtual 193, 3) := by decide +kernel
theorem dX6_play_147 : decode cX6_play 147 = .ok (.iinc 4 1, 3) := by decide +kernel
theorem dX6_play_150 : decode cX6_play 150 = .ok (.goto (-132), 3) := by decide +kernel
theorem dX6_play_153 : decode cX6_play 153 = .ok (.iload_n 2, 1) := by decide +kernel
theorem dX6_play_154 : decode cX6_play 154 = .ok (.ireturn, 1) := by decide +kernel
theorem dX6_told_0 : decode cX6_told 0 = .ok (.iload_n 1, 1) := by decide +kernel
theorem dX6_told_1 : decode cX6_told 1 = .ok (.iconst 0, 1) := by decide +kernel
theorem dX6_told_2 : decode cX6_told 2 = .ok (.iconst 2, 1) := by decide +kernel
theorem dX6_told_3 : decode cX6_told 3 = .ok (.invokestatic 111, 3) := by decide +kernel
theorem dX6_told_6 : decode cX6_told 6 = .ok (.ifCond .ne 6, 3) := by decide +kernel
theorem dX6_told_9 : decode cX6_told 9 = .ok (.bipush (-2), 2) := by decide +kernel
theorem dX6_told_11 : decode cX6_told 11 = .ok (.ireturn, 1) := by decide +kernel
theorem dX6_told_12 : decode cX6_told 12 = .ok (.iload_n 2, 1) := by decide +kernel
theorem dX6_told_13 : decode cX6_told 13 = .ok (.tableswitch 88 0 5 #[39, 45, 52, 59, 66, 81], 39) := by decide +kernel
theorem dX6_told_52 : decode cX6_told 52 = .ok (.aload_n 0, 1) := by decide +kernel
theorem dX6_told_53 : decode cX6_told 53 = .ok (.iload_n 1, 1) := by decide +kernel
theorem dX6_told_54 : decode cX6_told 54 = .ok (.invokevirtual 190, 3) := by decide +kernel
theorem dX6_told_57 : decode cX6_told 57 = .ok (.ireturn, 1) := by decide +kernel
theorem dX6_told_58 : decode cX6_told 58 = .ok (.aload_n 0, 1) := by decide +kernel
theorem dX6_told_59 : decode cX6_told 59 = .ok (.getfield 47, 3) := by decide +kernel
theorem dX6_told_62 : decode cX6_told 62 = .ok (.iload_n 1, 1) := by decide +kernel
theorem dX6_told_63 : decode cX6_told 63 = .ok (.iaload, 1) := by decide +kernel
theorem dX6_told_64 : decode cX6_told 64 = .ok (.ireturn, 1) := by decide +kernel
theorem dX6_told_65 : decode cX6_told 65 = .ok (.aload_n 0, 1) := by decide +kernel
theorem dX6_told_66 : decode cX6_told 66 = .ok (.getfield 50, 3) := by decide +kernel
theorem dX6_told_69 : decode cX6_told 69 = .ok (.iload_n 1, 1) := by decide +kernel
theorem dX6_told_70 : decode cX6_told 70 = .ok (.iaload, 1) := by decide +kernel
theorem dX6_told_71 : decode cX6_told 71 = .ok (.ireturn, 1) := by decide +kernel
theorem dX6_told_72 : decode cX6_told 72 = .ok (.aload_n 0, 1) := by decide +kernel
theorem dX6_told_73 : decode cX6_told 73 = .ok (.getfield 62, 3) := by decide +kernel
theorem dX6_told_76 : decode cX6_told 76 = .ok (.iload_n 1, 1) := by decide +kernel
theorem dX6_told_77 : decode cX6_told 77 = .ok (.iaload, 1) := by decide +kernel
theorem dX6_told_78 : decode cX6_told 78 = .ok (.ireturn, 1) := by decide +kernel
theorem dX6_told_79 : decode cX6_told 79 = .ok (.aload_n 0, 1) := by decide +kernel
theorem dX6_told_80 : decode cX6_told 80 = .ok (.getfield 68, 3) := by decide +kernel
theorem dX6_told_83 : decode cX6_told 83 = .ok (.iload_n 1, 1) := by decide +kernel
theorem dX6_told_84 : decode cX6_told 84 = .ok (.baload, 1) := by decide +kernel
theorem dX6_told_85 : decode cX6_told 85 = .ok (.ifCond .eq 7, 3) := by decide +kernel
theorem dX6_told_88 : decode cX6_told 88 = .ok (.iconst 1, 1) := by decide +kernel
theorem dX6_told_89 : decode cX6_told 89 = .ok (.goto 4, 3) := by decide +kernel
theorem dX6_told_92 : decode cX6_told 92 = .ok (.iconst 0, 1) := by decide +kernel
theorem dX6_told_93 : decode cX6_told 93 = .ok (.ireturn, 1) := by decide +kernel
theorem dX6_told_94 : decode cX6_told 94 = .ok (.aload_n 0, 1) := by decide +kernel
theorem dX6_told_95 : decode cX6_told 95 = .ok (.getfield 56, 3) := by decide +kernel
theorem dX6_told_98 : decode cX6_told 98 = .ok (.iload_n 1, 1) := by decide +kernel
theorem dX6_told_99 : decode cX6_told 99 = .ok (.iaload, 1) := by decide +kernel
theorem dX6_told_100 : decode cX6_told 100 = .ok (.ireturn, 1) := by decide +kernel
theorem dX6_told_101 : decode cX6_told 101 = .ok (.iload_n 2, 1) := by decide +kernel
theorem dX6_told_102 : decode cX6_told 102 = .ok (.bipush 6, 2) := by decide +kernel
theorem dX6_told_104 : decode cX6_told 104 = .ok (.if_icmp .ne 12, 3) := by decide +kernel
theorem dX6_told_107 : decode cX6_told 107 = .ok (.aload_n 0, 1) := by decide +kernel
theorem dX6_told_108 : decode cX6_told 108 = .ok (.getfield 59, 3) := by decide +kernel
theorem dX6_told_111 : decode cX6_told 111 = .ok (.iload_n 1, 1) := by decide +kernel
theorem dX6_told_112 : decode cX6_told 112 = .ok (.iaload, 1) := by decide +kernel
theorem dX6_told_113 : decode cX6_told 113 = .ok (.goto 5, 3) := by decide +kernel
theorem dX6_told_116 : decode cX6_told 116 = .ok (.bipush (-2), 2) := by decide +kernel
theorem dX6_told_118 : decode cX6_told 118 = .ok (.ireturn, 1) := by decide +kernel
theorem dX6_register_0 : decode cX6_register 0 = .ok (.iload_n 1, 1) := by decide +kernel
theorem dX6_register_1 : decode cX6_register 1 = .ok (.iconst 0, 1) := by decide +kernel
theorem dX6_register_2 : decode cX6_register 2 = .ok (.iconst 2, 1) := by decide +kernel
theorem dX6_register_3 : decode cX6_register 3 = .ok (.invokestatic 111, 3) := by decide +kernel
theorem dX6_register_6 : decode cX6_register 6 = .ok (.ifCond .eq 19, 3) := by decide +kernel
theorem dX6_register_9 : decode cX6_register 9 = .ok (.iload_n 2, 1) := by decide +kernel
theorem dX6_register_10 : decode cX6_register 10 = .ok (.invokestatic 115, 3) := by decide +kernel
theorem dX6_register_13 : decode cX6_register 13 = .ok (.ifCond .eq 12, 3) := by decide +kernel
theorem dX6_register_16 : decode cX6_register 16 = .ok (.aload_n 0, 1) := by decide +kernel
theorem dX6_register_17 : decode cX6_register 17 = .ok (.iload_n 1, 1) := by decide +kernel
theorem dX6_register_18 : decode cX6_register 18 = .ok (.iload_n 2, 1) := by decide +kernel
theorem dX6_register_19 : decode cX6_register 19 = .ok (.invokevirtual 153, 3) := by decide +kernel
theorem dX6_register_22 : decode cX6_register 22 = .ok (.goto 5, 3) := by decide +kernel
theorem dX6_register_25 : decode cX6_register 25 = .ok (.bipush (-2), 2) := by decide +kernel
theorem dX6_register_27 : decode cX6_register 27 = .ok (.ireturn, 1) := by decide +kernel
theorem dX6_cell_0 : decode cX6_cell 0 = .ok (.iload_n 1, 1) := by decide +kernel
theorem dX6_cell_1 : decode cX6_cell 1 = .ok (.invokestatic 119, 3) := by decide +kernel
theorem dX6_cell_4 : decode cX6_cell 4 = .ok (.ifCond .eq 12, 3) := by decide +kernel
theorem dX6_cell_7 : decode cX6_cell 7 = .ok (.aload_n 0, 1) := by decide +kernel
theorem dX6_cell_8 : decode cX6_cell 8 = .ok (.getfield 7, 3) := by decide +kernel
theorem dX6_cell_11 : decode cX6_cell 11 = .ok (.iload_n 1, 1) := by decide +kernel
theorem dX6_cell_12 : decode cX6_cell 12 = .ok (.iaload, 1) := by decide +kernel
theorem dX6_cell_13 : decode cX6_cell 13 = .ok (.goto 5, 3) := by decide +kernel
theorem dX6_cell_16 : decode cX6_cell 16 = .ok (.bipush (-2), 2) := by decide +kernel
theorem dX6_cell_18 : decode cX6_cell 18 = .ok (.ireturn, 1) := by decide +kernel
theorem dX6_lazy_0 : decode cX6_lazy 0 = .ok (.iload_n 1, 1) := by decide +kernel
theorem dX6_lazy_1 : decode cX6_lazy 1 = .ok (.invokestatic 119, 3) := by decide +kernel
theorem dX6_lazy_4 : decode cX6_lazy 4 = .ok (.ifCond .eq 20, 3) := by decide +kernel
theorem dX6_lazy_7 : decode cX6_lazy 7 = .ok (.aload_n 0, 1) := by decide +kernel
theorem dX6_lazy_8 : decode cX6_lazy 8 = .ok (.getfield 13, 3) := by decide +kernel
theorem dX6_lazy_11 : decode cX6_lazy 11 = .ok (.iload_n 1, 1) := by decide +kernel
theorem dX6_lazy_12 : decode cX6_lazy 12 = .ok (.baload, 1) := by decide +kernel
theorem dX6_lazy_13 : decode cX6_lazy 13 = .ok (.ifCond .eq 7, 3) := by decide +kernel
theorem dX6_lazy_16 : decode cX6_lazy 16 = .ok (.iconst 1, 1) := by decide +kernel
theorem dX6_lazy_17 : decode cX6_lazy 17 = .ok (.goto 9, 3) := by decide +kernel
theorem dX6_lazy_20 : decode cX6_lazy 20 = .ok (.iconst 0, 1) := by decide +kernel
theorem dX6_lazy_21 : decode cX6_lazy 21 = .ok (.goto 5, 3) := by decide +kernel
theorem dX6_lazy_24 : decode cX6_lazy 24 = .ok (.bipush (-2), 2) := by decide +kernel
theorem dX6_lazy_26 : decode cX6_lazy 26 = .ok (.ireturn, 1) := by decide +kernel
theorem dX6_size_0 : decode cX6_size 0 = .ok (.iload_n 1, 1) := by decide +kernel
theorem dX6_size_1 : decode cX6_size 1 = .ok (.iconst 0, 1) := by decide +kernel
theorem dX6_size_2 : decode cX6_size 2 = .ok (.iconst 3, 1) := by decide +kernel
theorem dX6_size_3 : decode cX6_size 3 = .ok (.invokestatic 111, 3) := by decide +kernel
theorem dX6_size_6 : decode cX6_size 6 = .ok (.ifCond .eq 12, 3) := by decide +kernel
theorem dX6_size_9 : decode cX6_size 9 = .ok (.aload_n 0, 1) := by decide +kernel
theorem dX6_size_10 : decode cX6_size 10 = .ok (.getfield 20, 3) := by decide +kernel
theorem dX6_size_13 : decode cX6_size 13 = .ok (.iload_n 1, 1) := by decide +kernel
theorem dX6_size_14 : decode cX6_size 14 = .ok (.iaload, 1) := by decide +kernel
theorem dX6_size_15 : decode cX6_size 15 = .ok (.goto 5, 3) := by decide +kernel
theorem dX6_size_18 : decode cX6_size 18 = .ok (.bipush (-2), 2) := by decide +kernel
theorem dX6_size_20 : decode cX6_size 20 = .ok (.ireturn, 1) := by decide +kernel
theorem dX6_item_0 : decode cX6_item 0 = .ok (.iload_n 1, 1) := by decide +kernel
theorem dX6_item_1 : decode cX6_item 1 = .ok (.iconst 0, 1) := by decide +kernel
theorem dX6_item_2 : decode cX6_item 2 = .ok (.iconst 3, 1) := by decide +kernel
theorem dX6_item_3 : decode cX6_item 3 = .ok (.invokestatic 111, 3) := by decide +kernel
theorem dX6_item_6 : decode cX6_item 6 = .ok (.ifCond .ne 6, 3) := by decide +kernel
theorem dX6_item_9 : decode cX6_item 9 = .ok (.bipush (-2), 2) := by decide +kernel
theorem dX6_item_11 : decode cX6_item 11 = .ok (.ireturn, 1) := by decide +kernel
theorem dX6_item_12 : decode cX6_item 12 = .ok (.iload_n 2, 1) := by decide +kernel
theorem dX6_item_13 : decode cX6_item 13 = .ok (.iconst 0, 1) := by decide +kernel
theorem dX6_item_14 : decode cX6_item 14 = .ok (.aload_n 0, 1) := by decide +kernel
theorem dX6_item_15 : decode cX6_item 15 = .ok (.getfield 20, 3) := by decide +kernel
theorem dX6_item_18 : decode cX6_item 18 = .ok (.iload_n 1, 1) := by decide +kernel
theorem dX6_item_19 : decode cX6_item 19 = .ok (.iaload, 1) := by decide +kernel
theorem dX6_item_20 : decode cX6_item 20 = .ok (.iconst 1, 1) := by decide +kernel
theorem dX6_item_21 : decode cX6_item 21 = .ok (.isub, 1) := by decide +kernel
theorem dX6_item_22 : decode cX6_item 22 = .ok (.invokestatic 111, 3) := by decide +kernel
theorem dX6_item_25 : decode cX6_item 25 = .ok (.ifCond .eq 17, 3) := by decide +kernel
theorem dX6_item_28 : decode cX6_item 28 = .ok (.aload_n 0, 1) := by decide +kernel
theorem dX6_item_29 : decode cX6_item 29 = .ok (.getfield 23, 3) := by decide +kernel
theorem dX6_item_32 : decode cX6_item 32 = .ok (.bipush 8, 2) := by decide +kernel
theorem dX6_item_34 : decode cX6_item 34 = .ok (.iload_n 1, 1) := by decide +kernel
theorem dX6_item_35 : decode cX6_item 35 = .ok (.imul, 1) := by decide +kernel
theorem dX6_item_36 : decode cX6_item 36 = .ok (.iload_n 2, 1) := by decide +kernel
theorem dX6_item_37 : decode cX6_item 37 = .ok (.iadd, 1) := by decide +kernel
theorem dX6_item_38 : decode cX6_item 38 = .ok (.iaload, 1) := by decide +kernel
theorem dX6_item_39 : decode cX6_item 39 = .ok (.goto 4, 3) := by decide +kernel
theorem dX6_item_42 : decode cX6_item 42 = .ok (.iconst 0, 1) := by decide +kernel
theorem dX6_item_43 : decode cX6_item 43 = .ok (.ireturn, 1) := by decide +kernel
theorem dX6_frozen_0 : decode cX6_frozen 0 = .ok (.iload_n 1, 1) := by decide +kernel
theorem dX6_frozen_1 : decode cX6_frozen 1 = .ok (.iconst 0, 1) := by decide +kernel
theorem dX6_frozen_2 : decode cX6_frozen 2 = .ok (.iconst 3, 1) := by decide +kernel
theorem dX6_frozen_3 : decode cX6_frozen 3 = .ok (.invokestatic 111, 3) := by decide +kernel
theorem dX6_frozen_6 : decode cX6_frozen 6 = .ok (.ifCond .eq 20, 3) := by decide +kernel
theorem dX6_frozen_9 : decode cX6_frozen 9 = .ok (.aload_n 0, 1) := by decide +kernel
theorem dX6_frozen_10 : decode cX6_frozen 10 = .ok (.getfield 26, 3) := by decide +kernel
theorem dX6_frozen_13 : decode cX6_frozen 13 = .ok (.iload_n 1, 1) := by decide +kernel
theorem dX6_frozen_14 : decode cX6_frozen 14 = .ok (.baload, 1) := by decide +kernel
theorem dX6_frozen_15 : decode cX6_frozen 15 = .ok (.ifCond .eq 7, 3) := by decide +kernel
theorem dX6_frozen_18 : decode cX6_frozen 18 = .ok (.iconst 1, 1) := by decide +kernel
theorem dX6_frozen_19 : decode cX6_frozen 19 = .ok (.goto 9, 3) := by decide +kernel
theorem dX6_frozen_22 : decode cX6_frozen 22 = .ok (.iconst 0, 1) := by decide +kernel
theorem dX6_frozen_23 : decode cX6_frozen 23 = .ok (.goto 5, 3) := by decide +kernel
theorem dX6_frozen_26 : decode cX6_frozen 26 = .ok (.bipush (-2), 2) := by decide +kernel
theorem dX6_frozen_28 : decode cX6_frozen 28 = .ok (.ireturn, 1) := by decide +kernel
theorem dX6_put_0 : decode cX6_put 0 = .ok (.iload_n 1, 1) := by decide +kernel
theorem dX6_put_1 : decode cX6_put 1 = .ok (.invokestatic 119, 3) := by decide +kernel
theorem dX6_put_4 : decode cX6_put 4 = .ok (.ifCond .ne 6, 3) := by decide +kernel
theorem dX6_put_7 : decode cX6_put 7 = .ok (.bipush (-2), 2) := by decide +kernel
theorem dX6_put_9 : decode cX6_put 9 = .ok (.ireturn, 1) := by decide +kernel
theorem dX6_put_10 : decode cX6_put 10 = .ok (.aload_n 0, 1) := by decide +kernel
theorem dX6_put_11 : decode cX6_put 11 = .ok (.getfield 7, 3) := by decide +kernel
theorem dX6_put_14 : decode cX6_put 14 = .ok (.iload_n 1, 1) := by decide +kernel
theorem dX6_put_15 : decode cX6_put 15 = .ok (.iaload, 1) := by decide +kernel
theorem dX6_put_16 : decode cX6_put 16 = .ok (.istore_n 3, 1) := by decide +kernel
theorem dX6_put_17 : decode cX6_put 17 = .ok (.aload_n 0, 1) := by decide +kernel
theorem dX6_put_18 : decode cX6_put 18 = .ok (.getfield 7, 3) := by decide +kernel
theorem dX6_put_21 : decode cX6_put 21 = .ok (.iload_n 1, 1) := by decide +kernel
theorem dX6_put_22 : decode cX6_put 22 = .ok (.iload_n 2, 1) := by decide +kernel
theorem dX6_put_23 : decode cX6_put 23 = .ok (.iastore, 1) := by decide +kernel
theorem dX6_put_24 : decode cX6_put 24 = .ok (.aload_n 0, 1) := by decide +kernel
theorem dX6_put_25 : decode cX6_put 25 = .ok (.getfield 13, 3) := by decide +kernel
theorem dX6_put_28 : decode cX6_put 28 = .ok (.iload_n 1, 1) := by decide +kernel
theorem dX6_put_29 : decode cX6_put 29 = .ok (.iconst 0, 1) := by decide +kernel
theorem dX6_put_30 : decode cX6_put 30 = .ok (.bastore, 1) := by decide +kernel
theorem dX6_put_31 : decode cX6_put 31 = .ok (.iload_n 3, 1) := by decide +kernel
theorem dX6_put_32 : decode cX6_put 32 = .ok (.ireturn, 1) := by decide +kernel
theorem dX6_writes_0 : decode cX6_writes 0 = .ok (.aload_n 0, 1) := by decide +kernel
theorem dX6_writes_1 : decode cX6_writes 1 = .ok (.getfield 107, 3) := by decide +kernel
theorem dX6_writes_4 : decode cX6_writes 4 = .ok (.ireturn, 1) := by decide +kernel
theorem dX6_write__0 : decode cX6_write_ 0 = .ok (.iload_n 2, 1) := by decide +kernel
theorem dX6_write__1 : decode cX6_write_ 1 = .ok (.iconst 0, 1) := by decide +kernel
theorem dX6_write__2 : decode cX6_write_ 2 = .ok (.iconst 2, 1) := by decide +kernel
theorem dX6_write__3 : decode cX6_write_ 3 = .ok (.invokestatic 111, 3) := by decide +kernel
theorem dX6_write__6 : decode cX6_write_ 6 = .ok (.ifCond .ne 6, 3) := by decide +kernel
theorem dX6_write__9 : decode cX6_write_ 9 = .ok (.bipush (-2), 2) := by decide +kernel
theorem dX6_write__11 : decode cX6_write_ 11 = .ok (.ireturn, 1) := by decide +kernel
theorem dX6_write__12 : decode cX6_write_ 12 = .ok (.aload_n 0, 1) := by decide +kernel
theorem dX6_write__13 : decode cX6_write_ 13 = .ok (.getfield 107, 3) := by decide +kernel
theorem dX6_write__16 : decode cX6_write_ 16 = .ok (.bipush 30, 2) := by decide +kernel
theorem dX6_write__18 : decode cX6_write_ 18 = .ok (.if_icmp .ge 10, 3) := by decide +kernel
theorem dX6_write__21 : decode cX6_write_ 21 = .ok (.aload_n 0, 1) := by decide +kernel
theorem dX6_write__22 : decode cX6_write_ 22 = .ok (.getfield 107, 3) := by decide +kernel
theorem dX6_write__25 : decode cX6_write_ 25 = .ok (.goto 5, 3) := by decide +kernel
theorem dX6_write__28 : decode cX6_write_ 28 = .ok (.bipush 30, 2) := by decide +kernel
theorem dX6_write__30 : decode cX6_write_ 30 = .ok (.istore_n 3, 1) := by decide +kernel
theorem dX6_write__31 : decode cX6_write_ 31 = .ok (.iload_n 1, 1) := by decide +kernel
theorem dX6_write__32 : decode cX6_write_ 32 = .ok (.iconst 0, 1) := by decide +kernel
theorem dX6_write__33 : decode cX6_write_ 33 = .ok (.iload_n 3, 1) := by decide +kernel
theorem dX6_write__34 : decode cX6_write_ 34 = .ok (.iconst 1, 1) := by decide +kernel
theorem dX6_write__35 : decode cX6_write_ 35 = .ok (.isub, 1) := by decide +kernel
theorem dX6_write__36 : decode cX6_write_ 36 = .ok (.invokestatic 111, 3) := by decide +kernel
theorem dX6_write__39 : decode cX6_write_ 39 = .ok (.ifCond .ne 5, 3) := by decide +kernel
theorem dX6_write__42 : decode cX6_write_ 42 = .ok (.iconst (-1), 1) := by decide +kernel
theorem dX6_write__43 : decode cX6_write_ 43 = .ok (.ireturn, 1) := by decide +kernel
theorem dX6_write__44 : decode cX6_write_ 44 = .ok (.aload_n 0, 1) := by decide +kernel
theorem dX6_write__45 : decode cX6_write_ 45 = .ok (.getfield 107, 3) := by decide +kernel
theorem dX6_write__48 : decode cX6_write_ 48 = .ok (.iconst 1, 1) := by decide +kernel
theorem dX6_write__49 : decode cX6_write_ 49 = .ok (.isub, 1) := by decide +kernel
theorem dX6_write__50 : decode cX6_write_ 50 = .ok (.iload_n 1, 1) := by decide +kernel
theorem dX6_write__51 : decode cX6_write_ 51 = .ok (.isub, 1) := by decide +kernel
theorem dX6_write__52 : decode cX6_write_ 52 = .ok (.bipush 30, 2) := by decide +kernel
theorem dX6_write__54 : decode cX6_write_ 54 = .ok (.irem, 1) := by decide +kernel
theorem dX6_write__55 : decode cX6_write_ 55 = .ok (.istore 4, 2) := by decide +kernel
theorem dX6_write__57 : decode cX6_write_ 57 = .ok (.iload_n 2, 1) := by decide +kernel
theorem dX6_write__58 : decode cX6_write_ 58 = .ok (.ifCond .ne 13, 3) := by decide +kernel
theorem dX6_write__61 : decode cX6_write_ 61 = .ok (.aload_n 0, 1) := by decide +kernel
theorem dX6_write__62 : decode cX6_write_ 62 = .ok (.getfield 92, 3) := by decide +kernel
theorem dX6_write__65 : decode cX6_write_ 65 = .ok (.iload 4, 2) := by decide +kernel
theorem dX6_write__67 : decode cX6_write_ 67 = .ok (.iaload, 1) := by decide +kernel
theorem dX6_write__68 : decode cX6_write_ 68 = .ok (.goto 25, 3) := by decide +kernel
theorem dX6_write__71 : decode cX6_write_ 71 = .ok (.iload_n 2, 1) := by decide +kernel
theorem dX6_write__72 : decode cX6_write_ 72 = .ok (.iconst 1, 1) := by decide +kernel
theorem dX6_write__73 : decode cX6_write_ 73 = .ok (.if_icmp .ne 13, 3) := by decide +kernel
theorem dX6_write__76 : decode cX6_write_ 76 = .ok (.aload_n 0, 1) := by decide +kernel
theorem dX6_write__77 : decode cX6_write_ 77 = .ok (.getfield 95, 3) := by decide +kernel
theorem dX6_write__80 : decode cX6_write_ 80 = .ok (.iload 4, 2) := by decide +kernel
theorem dX6_write__82 : decode cX6_write_ 82 = .ok (.iaload, 1) := by decide +kernel
theorem dX6_write__83 : decode cX6_write_ 83 = .ok (.goto 10, 3) := by decide +kernel
theorem dX6_write__86 : decode cX6_write_ 86 = .ok (.aload_n 0, 1) := by decide +kernel
theorem dX6_write__87 : decode cX6_write_ 87 = .ok (.getfield 98, 3) := by decide +kernel
theorem dX6_write__90 : decode cX6_write_ 90 = .ok (.iload 4, 2) := by decide +kernel
theorem dX6_write__92 : decode cX6_write_ 92 = .ok (.iaload, 1) := by decide +kernel
theorem dX6_write__93 : decode cX6_write_ 93 = .ok (.ireturn, 1) := by decide +kernel
theorem dX6_again_0 : decode cX6_again 0 = .ok (.aload_n 0, 1) := by decide +kernel
theorem dX6_again_1 : decode cX6_again 1 = .ok (.getfield 56, 3) := by decide +kernel
theorem dX6_again_4 : decode cX6_again 4 = .ok (.iconst 0, 1) := by decide +kernel
theorem dX6_again_5 : decode cX6_again 5 = .ok (.iaload, 1) := by decide +kernel
theorem dX6_again_6 : decode cX6_again 6 = .ok (.aload_n 0, 1) := by decide +kernel
theorem dX6_again_7 : decode cX6_again 7 = .ok (.getfield 56, 3) := by decide +kernel
theorem dX6_again_10 : decode cX6_again 10 = .ok (.iconst 1, 1) := by decide +kernel
theorem dX6_again_11 : decode cX6_again 11 = .ok (.iaload, 1) := by decide +kernel
theorem dX6_again_12 : decode cX6_again 12 = .ok (.iadd, 1) := by decide +kernel
theorem dX6_again_13 : decode cX6_again 13 = .ok (.aload_n 0, 1) := by decide +kernel
theorem dX6_again_14 : decode cX6_again 14 = .ok (.getfield 56, 3) := by decide +kernel
theorem dX6_again_17 : decode cX6_again 17 = .ok (.iconst 2, 1) := by decide +kernel
theorem dX6_again_18 : decode cX6_again 18 = .ok (.iaload, 1) := by decide +kernel
theorem dX6_again_19 : decode cX6_again 19 = .ok (.iadd, 1) := by decide +kernel
theorem dX6_again_20 : decode cX6_again 20 = .ok (.istore_n 1, 1) := by decide +kernel
theorem dX6_again_21 : decode cX6_again 21 = .ok (.aload_n 0, 1) := by decide +kernel
theorem dX6_again_22 : decode cX6_again 22 = .ok (.invokevirtual 104, 3) := by decide +kernel
theorem dX6_again_25 : decode cX6_again 25 = .ok (.iload_n 1, 1) := by decide +kernel
theorem dX6_again_26 : decode cX6_again 26 = .ok (.ireturn, 1) := by decide +kernel
theorem dX6_clear_0 : decode cX6_clear 0 = .ok (.aload_n 0, 1) := by decide +kernel
theorem dX6_clear_1 : decode cX6_clear 1 = .ok (.invokevirtual 197, 3) := by decide +kernel
theorem dX6_clear_4 : decode cX6_clear 4 = .ok (.istore_n 1, 1) := by decide +kernel
theorem dX6_clear_5 : decode cX6_clear 5 = .ok (.iconst 0, 1) := by decide +kernel
theorem dX6_clear_6 : decode cX6_clear 6 = .ok (.istore_n 2, 1) := by decide +kernel
theorem dX6_clear_7 : decode cX6_clear 7 = .ok (.iload_n 2, 1) := by decide +kernel
theorem dX6_clear_8 : decode cX6_clear 8 = .ok (.iconst 3, 1) := by decide +kernel
theorem dX6_clear_9 : decode cX6_clear 9 = .ok (.if_icmp .ge 16, 3) := by decide +kernel
theorem dX6_clear_12 : decode cX6_clear 12 = .ok (.aload_n 0, 1) := by decide +kernel
theorem dX6_clear_13 : decode cX6_clear 13 = .ok (.getfield 29, 3) := by decide +kernel
theorem dX6_clear_16 : decode cX6_clear 16 = .ok (.iload_n 2, 1) := by decide +kernel
theorem dX6_clear_17 : decode cX6_clear 17 = .ok (.iconst 0, 1) := by decide +kernel
theorem dX6_clear_18 : decode cX6_clear 18 = .ok (.iastore, 1) := by decide +kernel
theorem dX6_clear_19 : decode cX6_clear 19 = .ok (.iinc 2 1, 3) := by decide +kernel
theorem dX6_clear_22 : decode cX6_clear 22 = .ok (.goto (-15), 3) := by decide +kernel
theorem dX6_clear_25 : decode cX6_clear 25 = .ok (.iload_n 1, 1) := by decide +kernel
theorem dX6_clear_26 : decode cX6_clear 26 = .ok (.ireturn, 1) := by decide +kernel
theorem dJ7_rangeCheck_23922_0 : decode cJ7_rangeCheck_23922 0 = .ok (.iload_n 1, 1) := by decide +kernel
theorem dJ7_rangeCheck_23922_1 : decode cJ7_rangeCheck_23922 1 = .ok (.iload_n 2, 1) := by decide +kernel
theorem dJ7_rangeCheck_23922_2 : decode cJ7_rangeCheck_23922 2 = .ok (.if_icmp .le 44, 3) := by decide +kernel
theorem dJ7_rangeCheck_23922_5 : decode cJ7_rangeCheck_23922 5 = .ok (.new 43, 3) := by decide +kernel
theorem dJ7_rangeCheck_23922_8 : decode cJ7_rangeCheck_23922 8 = .ok (.dup, 1) := by decide +kernel
theorem dJ7_rangeCheck_23922_9 : decode cJ7_rangeCheck_23922 9 = .ok (.new 45, 3) := by decide +kernel
theorem dJ7_rangeCheck_23922_12 : decode cJ7_rangeCheck_23922 12 = .ok (.dup, 1) := by decide +kernel
theorem dJ7_rangeCheck_23922_13 : decode cJ7_rangeCheck_23922 13 = .ok (.invokespecial 47, 3) := by decide +kernel
theorem dJ7_rangeCheck_23922_16 : decode cJ7_rangeCheck_23922 16 = .ok (.ldc 48, 2) := by decide +kernel
theorem dJ7_rangeCheck_23922_18 : decode cJ7_rangeCheck_23922 18 = .ok (.invokevirtual 50, 3) := by decide +kernel
theorem dJ7_rangeCheck_23922_21 : decode cJ7_rangeCheck_23922 21 = .ok (.iload_n 1, 1) := by decide +kernel
theorem dJ7_rangeCheck_23922_22 : decode cJ7_rangeCheck_23922 22 = .ok (.invokevirtual 54, 3) := by decide +kernel
theorem dJ7_rangeCheck_23922_25 : decode cJ7_rangeCheck_23922 25 = .ok (.ldc 57, 2) := by decide +kernel
theorem dJ7_rangeCheck_23922_27 : decode cJ7_rangeCheck_23922 27 = .ok (.invokevirtual 50, 3) := by decide +kernel
theorem dJ7_rangeCheck_23922_30 : decode cJ7_rangeCheck_23922 30 = .ok (.iload_n 2, 1) := by decide +kernel
theorem dJ7_rangeCheck_23922_31 : decode cJ7_rangeCheck_23922 31 = .ok (.invokevirtual 54, 3) := by decide +kernel
theorem dJ7_rangeCheck_23922_34 : decode cJ7_rangeCheck_23922 34 = .ok (.ldc 59, 2) := by decide +kernel
theorem dJ7_rangeCheck_23922_36 : decode cJ7_rangeCheck_23922 36 = .ok (.invokevirtual 50, 3) := by decide +kernel
theorem dJ7_rangeCheck_23922_39 : decode cJ7_rangeCheck_23922 39 = .ok (.invokevirtual 61, 3) := by decide +kernel
theorem dJ7_rangeCheck_23922_42 : decode cJ7_rangeCheck_23922 42 = .ok (.invokespecial 65, 3) := by decide +kernel
theorem dJ7_rangeCheck_23922_45 : decode cJ7_rangeCheck_23922 45 = .ok (.athrow, 1) := by decide +kernel
theorem dJ7_rangeCheck_23922_46 : decode cJ7_rangeCheck_23922 46 = .ok (.iload_n 1, 1) := by decide +kernel
theorem dJ7_rangeCheck_23922_47 : decode cJ7_rangeCheck_23922 47 = .ok (.ifCond .ge 12, 3) := by decide +kernel
theorem dJ7_rangeCheck_23922_50 : decode cJ7_rangeCheck_23922 50 = .ok (.new 68, 3) := by decide +kernel
theorem dJ7_rangeCheck_23922_53 : decode cJ7_rangeCheck_23922 53 = .ok (.dup, 1) := by decide +kernel
theorem dJ7_rangeCheck_23922_54 : decode cJ7_rangeCheck_23922 54 = .ok (.iload_n 1, 1) := by decide +kernel
theorem dJ7_rangeCheck_23922_55 : decode cJ7_rangeCheck_23922 55 = .ok (.invokespecial 70, 3) := by decide +kernel
theorem dJ7_rangeCheck_23922_58 : decode cJ7_rangeCheck_23922 58 = .ok (.athrow, 1) := by decide +kernel
theorem dJ7_rangeCheck_23922_59 : decode cJ7_rangeCheck_23922 59 = .ok (.iload_n 2, 1) := by decide +kernel
theorem dJ7_rangeCheck_23922_60 : decode cJ7_rangeCheck_23922 60 = .ok (.iload_n 0, 1) := by decide +kernel
theorem dJ7_rangeCheck_23922_61 : decode cJ7_rangeCheck_23922 61 = .ok (.if_icmp .le 12, 3) := by decide +kernel
theorem dJ7_rangeCheck_23922_64 : decode cJ7_rangeCheck_23922 64 = .ok (.new 68, 3) := by decide +kernel
theorem dJ7_rangeCheck_23922_67 : decode cJ7_rangeCheck_23922 67 = .ok (.dup, 1) := by decide +kernel
theorem dJ7_rangeCheck_23922_68 : decode cJ7_rangeCheck_23922 68 = .ok (.iload_n 2, 1) := by decide +kernel
theorem dJ7_rangeCheck_23922_69 : decode cJ7_rangeCheck_23922 69 = .ok (.invokespecial 70, 3) := by decide +kernel
theorem dJ7_rangeCheck_23922_72 : decode cJ7_rangeCheck_23922 72 = .ok (.athrow, 1) := by decide +kernel
theorem dJ7_rangeCheck_23922_73 : decode cJ7_rangeCheck_23922 73 = .ok (.return_, 1) := by decide +kernel
theorem dJ7_fill_53178_0 : decode cJ7_fill_53178 0 = .ok (.iconst 0, 1) := by decide +kernel
theorem dJ7_fill_53178_1 : decode cJ7_fill_53178 1 = .ok (.istore_n 2, 1) := by decide +kernel
theorem dJ7_fill_53178_2 : decode cJ7_fill_53178 2 = .ok (.aload_n 0, 1) := by decide +kernel
theorem dJ7_fill_53178_3 : decode cJ7_fill_53178 3 = .ok (.arraylength, 1) := by decide +kernel
theorem dJ7_fill_53178_4 : decode cJ7_fill_53178 4 = .ok (.istore_n 3, 1) := by decide +kernel
theorem dJ7_fill_53178_5 : decode cJ7_fill_53178 5 = .ok (.iload_n 2, 1) := by decide +kernel
theorem dJ7_fill_53178_6 : decode cJ7_fill_53178 6 = .ok (.iload_n 3, 1) := by decide +kernel
theorem dJ7_fill_53178_7 : decode cJ7_fill_53178 7 = .ok (.if_icmp .ge 13, 3) := by decide +kernel
theorem dJ7_fill_53178_10 : decode cJ7_fill_53178 10 = .ok (.aload_n 0, 1) := by decide +kernel
theorem dJ7_fill_53178_11 : decode cJ7_fill_53178 11 = .ok (.iload_n 2, 1) := by decide +kernel
theorem dJ7_fill_53178_12 : decode cJ7_fill_53178 12 = .ok (.iload_n 1, 1) := by decide +kernel
theorem dJ7_fill_53178_13 : decode cJ7_fill_53178 13 = .ok (.iastore, 1) := by decide +kernel
theorem dJ7_fill_53178_14 : decode cJ7_fill_53178 14 = .ok (.iinc 2 1, 3) := by decide +kernel
theorem dJ7_fill_53178_17 : decode cJ7_fill_53178 17 = .ok (.goto (-12), 3) := by decide +kernel
theorem dJ7_fill_53178_20 : decode cJ7_fill_53178 20 = .ok (.return_, 1) := by decide +kernel
theorem dJ7_fill_fda19_0 : decode cJ7_fill_fda19 0 = .ok (.aload_n 0, 1) := by decide +kernel
theorem dJ7_fill_fda19_1 : decode cJ7_fill_fda19 1 = .ok (.arraylength, 1) := by decide +kernel
theorem dJ7_fill_fda19_2 : decode cJ7_fill_fda19 2 = .ok (.iload_n 1, 1) := by decide +kernel
theorem dJ7_fill_fda19_3 : decode cJ7_fill_fda19 3 = .ok (.iload_n 2, 1) := by decide +kernel
theorem dJ7_fill_fda19_4 : decode cJ7_fill_fda19 4 = .ok (.invokestatic 13, 3) := by decide +kernel
theorem dJ7_fill_fda19_7 : decode cJ7_fill_fda19 7 = .ok (.iload_n 1, 1) := by decide +kernel
theorem dJ7_fill_fda19_8 : decode cJ7_fill_fda19 8 = .ok (.istore 4, 2) := by decide +kernel
theorem dJ7_fill_fda19_10 : decode cJ7_fill_fda19 10 = .ok (.iload 4, 2) := by decide +kernel
theorem dJ7_fill_fda19_12 : decode cJ7_fill_fda19 12 = .ok (.iload_n 2, 1) := by decide +kernel
theorem dJ7_fill_fda19_13 : decode cJ7_fill_fda19 13 = .ok (.if_icmp .ge 14, 3) := by decide +kernel
theorem dJ7_fill_fda19_16 : decode cJ7_fill_fda19 16 = .ok (.aload_n 0, 1) := by decide +kernel
theorem dJ7_fill_fda19_17 : decode cJ7_fill_fda19 17 = .ok (.iload 4, 2) := by decide +kernel
theorem dJ7_fill_fda19_19 : decode cJ7_fill_fda19 19 = .ok (.iload_n 3, 1) := by decide +kernel
theorem dJ7_fill_fda19_20 : decode cJ7_fill_fda19 20 = .ok (.iastore, 1) := by decide +kernel
theorem dJ7_fill_fda19_21 : decode cJ7_fill_fda19 21 = .ok (.iinc 4 1, 3) := by decide +kernel
theorem dJ7_fill_fda19_24 : decode cJ7_fill_fda19 24 = .ok (.goto (-14), 3) := by decide +kernel
theorem dJ7_fill_fda19_27 : decode cJ7_fill_fda19 27 = .ok (.return_, 1) := by decide +kernel
theorem dL_law_0 : decode cL_law 0 = .ok (.new 7, 3) := by decide +kernel
theorem dL_law_3 : decode cL_law 3 = .ok (.dup, 1) := by decide +kernel
theorem dL_law_4 : decode cL_law 4 = .ok (.invokespecial 9, 3) := by decide +kernel
theorem dL_law_7 : decode cL_law 7 = .ok (.astore_n 1, 1) := by decide +kernel
theorem dL_law_8 : decode cL_law 8 = .ok (.new 10, 3) := by decide +kernel
theorem dL_law_11 : decode cL_law 11 = .ok (.dup, 1) := by decide +kernel
theorem dL_law_12 : decode cL_law 12 = .ok (.invokespecial 12, 3) := by decide +kernel
theorem dL_law_15 : decode cL_law 15 = .ok (.astore_n 2, 1) := by decide +kernel
theorem dL_law_16 : decode cL_law 16 = .ok (.iconst 0, 1) := by decide +kernel
theorem dL_law_17 : decode cL_law 17 = .ok (.istore_n 3, 1) := by decide +kernel
theorem dL_law_18 : decode cL_law 18 = .ok (.iload_n 3, 1) := by decide +kernel
theorem dL_law_19 : decode cL_law 19 = .ok (.aload_n 0, 1) := by decide +kernel
theorem dL_law_20 : decode cL_law 20 = .ok (.arraylength, 1) := by decide +kernel
theorem dL_law_21 : decode cL_law 21 = .ok (.bipush 6, 2) := by decide +kernel
theorem dL_law_23 : decode cL_law 23 = .ok (.isub, 1) := by decide +kernel
theorem dL_law_24 : decode cL_law 24 = .ok (.if_icmp .gt 505, 3) := by decide +kernel
theorem dL_law_27 : decode cL_law 27 = .ok (.aload_n 0, 1) := by decide +kernel
theorem dL_law_28 : decode cL_law 28 = .ok (.iload_n 3, 1) := by decide +kernel
theorem dL_law_29 : decode cL_law 29 = .ok (.iaload, 1) := by decide +kernel
theorem dL_law_30 : decode cL_law 30 = .ok (.bipush 15, 2) := by decide +kernel
theorem dL_law_32 : decode cL_law 32 = .ok (.iand, 1) := by decide +kernel
theorem dL_law_33 : decode cL_law 33 = .ok (.tableswitch 490 0 14 #[75, 138, 161, 194, 227, 260, 283, 306, 329, 362, 385, 418, 431, 464, 477], 75) := by decide +kernel
theorem dL_law_108 : decode cL_law 108 = .ok (.aload_n 1, 1) := by decide +kernel
theorem dL_law_109 : decode cL_law 109 = .ok (.aload_n 0, 1) := by decide +kernel
theorem dL_law_110 : decode cL_law 110 = .ok (.iload_n 3, 1) := by decide +kernel
theorem dL_law_111 : decode cL_law 111 = .ok (.iconst 1, 1) := by decide +kernel
theorem dL_law_112 : decode cL_law 112 = .ok (.iadd, 1) := by decide +kernel
theorem dL_law_113 : decode cL_law 113 = .ok (.iaload, 1) := by decide +kernel
theorem dL_law_114 : decode cL_law 114 = .ok (.aload_n 0, 1) := by decide +kernel
theorem dL_law_115 : decode cL_law 115 = .ok (.iload_n 3, 1) := by decide +kernel
theorem dL_law_116 : decode cL_law 116 = .ok (.iconst 2, 1) := by decide +kernel
theorem dL_law_117 : decode cL_law 117 = .ok (.iadd, 1) := by decide +kernel
theorem dL_law_118 : decode cL_law 118 = .ok (.iaload, 1) := by decide +kernel
theorem dL_law_119 : decode cL_law 119 = .ok (.aload_n 0, 1) := by decide +kernel
theorem dL_law_120 : decode cL_law 120 = .ok (.iload_n 3, 1) := by decide +kernel
theorem dL_law_121 : decode cL_law 121 = .ok (.iconst 3, 1) := by decide +kernel
theorem dL_law_122 : decode cL_law 122 = .ok (.iadd, 1) := by decide +kernel
theorem dL_law_123 : decode cL_law 123 = .ok (.iaload, 1) := by decide +kernel
theorem dL_law_124 : decode cL_law 124 = .ok (.aload_n 0, 1) := by decide +kernel
theorem dL_law_125 : decode cL_law 125 = .ok (.iload_n 3, 1) := by decide +kernel
theorem dL_law_126 : decode cL_law 126 = .ok (.iconst 4, 1) := by decide +kernel
theorem dL_law_127 : decode cL_law 127 = .ok (.iadd, 1) := by decide +kernel
theorem dL_law_128 : decode cL_law 128 = .ok (.iaload, 1) := by decide +kernel
theorem dL_law_129 : decode cL_law 129 = .ok (.aload_n 0, 1) := by decide +kernel
theorem dL_law_130 : decode cL_law 130 = .ok (.iload_n 3, 1) := by decide +kernel
theorem dL_law_131 : decode cL_law 131 = .ok (.iconst 5, 1) := by decide +kernel
theorem dL_law_132 : decode cL_law 132 = .ok (.iadd, 1) := by decide +kernel
theorem dL_law_133 : decode cL_law 133 = .ok (.iaload, 1) := by decide +kernel
theorem dL_law_134 : decode cL_law 134 = .ok (.invokevirtual 13, 3) := by decide +kernel
theorem dL_law_137 : decode cL_law 137 = .ok (.aload_n 2, 1) := by decide +kernel
theorem dL_law_138 : decode cL_law 138 = .ok (.aload_n 0, 1) := by decide +kernel
theorem dL_law_139 : decode cL_law 139 = .ok (.iload_n 3, 1) := by decide +kernel
theorem dL_law_140 : decode cL_law 140 = .ok (.iconst 1, 1) := by decide +kernel
theorem dL_law_141 : decode cL_law 141 = .ok (.iadd, 1) := by decide +kernel
theorem dL_law_142 : decode cL_law 142 = .ok (.iaload, 1) := by decide +kernel
theorem dL_law_143 : decode cL_law 143 = .ok (.aload_n 0, 1) := by decide +kernel
theorem dL_law_144 : decode cL_law 144 = .ok (.iload_n 3, 1) := by decide +kernel
theorem dL_law_145 : decode cL_law 145 = .ok (.iconst 2, 1) := by decide +kernel
theorem dL_law_146 : decode cL_law 146 = .ok (.iadd, 1) := by decide +kernel
theorem dL_law_147 : decode cL_law 147 = .ok (.iaload, 1) := by decide +kernel
theorem dL_law_148 : decode cL_law 148 = .ok (.aload_n 0, 1) := by decide +kernel
theorem dL_law_149 : decode cL_law 149 = .ok (.iload_n 3, 1) := by decide +kernel
theorem dL_law_150 : decode cL_law 150 = .ok (.iconst 3, 1) := by decide +kernel
theorem dL_law_151 : decode cL_law 151 = .ok (.iadd, 1) := by decide +kernel
theorem dL_law_152 : decode cL_law 152 = .ok (.iaload, 1) := by decide +kernel
theorem dL_law_153 : decode cL_law 153 = .ok (.aload_n 0, 1) := by decide +kernel
theorem dL_law_154 : decode cL_law 154 = .ok (.iload_n 3, 1) := by decide +kernel
theorem dL_law_155 : decode cL_law 155 = .ok (.iconst 4, 1) := by decide +kernel
theorem dL_law_156 : decode cL_law 156 = .ok (.iadd, 1) := by decide +kernel
theorem dL_law_157 : decode cL_law 157 = .ok (.iaload, 1) := by decide +kernel
theorem dL_law_158 : decode cL_law 158 = .ok (.aload_n 0, 1) := by decide +kernel
theorem dL_law_159 : decode cL_law 159 = .ok (.iload_n 3, 1) := by decide +kernel
theorem dL_law_160 : decode cL_law 160 = .ok (.iconst 5, 1) := by decide +kernel
theorem dL_law_161 : decode cL_law 161 = .ok (.iadd, 1) := by decide +kernel
theorem dL_law_162 : decode cL_law 162 = .ok (.iaload, 1) := by decide +kernel
theorem dL_law_163 : decode cL_law 163 = .ok (.invokevirtual 17, 3) := by decide +kernel
theorem dL_law_166 : decode cL_law 166 = .ok (.if_icmp .eq 357, 3) := by decide +kernel
theorem dL_law_169 : decode cL_law 169 = .ok (.iconst 0, 1) := by decide +kernel
theorem dL_law_170 : decode cL_law 170 = .ok (.ireturn, 1) := by decide +kernel
theorem dL_law_171 : decode cL_law 171 = .ok (.aload_n 1, 1) := by decide +kernel
theorem dL_law_172 : decode cL_law 172 = .ok (.aload_n 0, 1) := by decide +kernel
theorem dL_law_173 : decode cL_law 173 = .ok (.iload_n 3, 1) := by decide +kernel
theorem dL_law_174 : decode cL_law 174 = .ok (.iconst 1, 1) := by decide +kernel
theorem dL_law_175 : decode cL_law 175 = .ok (.iadd, 1) := by decide +kernel
theorem dL_law_176 : decode cL_law 176 = .ok (.iaload, 1) := by decide +kernel
theorem dL_law_177 : decode cL_law 177 = .ok (.invokevirtual 18, 3) := by decide +kernel
theorem dL_law_180 : decode cL_law 180 = .ok (.aload_n 2, 1) := by decide +kernel
theorem dL_law_181 : decode cL_law 181 = .ok (.aload_n 0, 1) := by decide +kernel
theorem dL_law_182 : decode cL_law 182 = .ok (.iload_n 3, 1) := by decide +kernel
theorem dL_law_183 : decode cL_law 183 = .ok (.iconst 1, 1) := by decide +kernel
theorem dL_law_184 : decode cL_law 184 = .ok (.iadd, 1) := by decide +kernel
theorem dL_law_185 : decode cL_law 185 = .ok (.iaload, 1) := by decide +kernel
theorem dL_law_186 : decode cL_law 186 = .ok (.invokevirtual 22, 3) := by decide +kernel
theorem dL_law_189 : decode cL_law 189 = .ok (.if_icmp .eq 334, 3) := by decide +kernel
theorem dL_law_192 : decode cL_law 192 = .ok (.iconst 0, 1) := by decide +kernel
theorem dL_law_193 : decode cL_law 193 = .ok (.ireturn, 1) := by decide +kernel
theorem dL_law_194 : decode cL_law 194 = .ok (.aload_n 1, 1) := by decide +kernel
theorem dL_law_195 : decode cL_law 195 = .ok (.aload_n 0, 1) := by decide +kernel
theorem dL_law_196 : decode cL_law 196 = .ok (.iload_n 3, 1) := by decide +kernel
theorem dL_law_197 : decode cL_law 197 = .ok (.iconst 1, 1) := by decide +kernel
theorem dL_law_198 : decode cL_law 198 = .ok (.iadd, 1) := by decide +kernel
theorem dL_law_199 : decode cL_law 199 = .ok (.iaload, 1) := by decide +kernel
theorem dL_law_200 : decode cL_law 200 = .ok (.aload_n 0, 1) := by decide +kernel
theorem dL_law_201 : decode cL_law 201 = .ok (.iload_n 3, 1) := by decide +kernel
theorem dL_law_202 : decode cL_law 202 = .ok (.iconst 2, 1) := by decide +kernel
theorem dL_law_203 : decode cL_law 203 = .ok (.iadd, 1) := by decide +kernel
theorem dL_law_204 : decode cL_law 204 = .ok (.iaload, 1) := by decide +kernel
theorem dL_law_205 : decode cL_law 205 = .ok (.invokevirtual 23, 3) := by decide +kernel
theorem dL_law_208 : decode cL_law 208 = .ok (.aload_n 2, 1) := by decide +kernel
theorem dL_law_209 : decode cL_law 209 = .ok (.aload_n 0, 1) := by decide +kernel
theorem dL_law_210 : decode cL_law 210 = .ok (.iload_n 3, 1) := by decide +kernel
theorem dL_law_211 : decode cL_law 211 = .ok (.iconst 1, 1) := by decide +kernel
theorem dL_law_212 : decode cL_law 212 = .ok (.iadd, 1) := by decide +kernel
theorem dL_law_213 : decode cL_law 213 = .ok (.iaload, 1) := by decide +kernel
theorem dL_law_214 : decode cL_law 214 = .ok (.aload_n 0, 1) := by decide +kernel
theorem dL_law_215 : decode cL_law 215 = .ok (.iload_n 3, 1) := by decide +kernel
theorem dL_law_216 : decode cL_law 216 = .ok (.iconst 2, 1) := by decide +kernel
theorem dL_law_217 : decode cL_law 217 = .ok (.iadd, 1) := by decide +kernel
theorem dL_law_218 : decode cL_law 218 = .ok (.iaload, 1) := by decide +kernel
theorem dL_law_219 : decode cL_law 219 = .ok (.invokevirtual 27, 3) := by decide +kernel
theorem dL_law_222 : decode cL_law 222 = .ok (.if_icmp .eq 301, 3) := by decide +kernel
theorem dL_law_225 : decode cL_law 225 = .ok (.iconst 0, 1) := by decide +kernel
theorem dL_law_226 : decode cL_law 226 = .ok (.ireturn, 1) := by decide +kernel
theorem dL_law_227 : decode cL_law 227 = .ok (.aload_n 1, 1) := by decide +kernel
theorem dL_law_228 : decode cL_law 228 = .ok (.aload_n 0, 1) := by decide +kernel
theorem dL_law_229 : decode cL_law 229 = .ok (.iload_n 3, 1) := by decide +kernel
theorem dL_law_230 : decode cL_law 230 = .ok (.iconst 1, 1) := by decide +kernel
theorem dL_law_231 : decode cL_law 231 = .ok (.iadd, 1) := by decide +kernel
theorem dL_law_232 : decode cL_law 232 = .ok (.iaload, 1) := by decide +kernel
theorem dL_law_233 : decode cL_law 233 = .ok (.aload_n 0, 1) := by decide +kernel
theorem dL_law_234 : decode cL_law 234 = .ok (.iload_n 3, 1) := by decide +kernel
theorem dL_law_235 : decode cL_law 235 = .ok (.iconst 2, 1) := by decide +kernel
theorem dL_law_236 : decode cL_law 236 = .ok (.iadd, 1) := by decide +kernel
theorem dL_law_237 : decode cL_law 237 = .ok (.iaload, 1) := by decide +kernel
theorem dL_law_238 : decode cL_law 238 = .ok (.invokevirtual 28, 3) := by decide +kernel
theorem dL_law_241 : decode cL_law 241 = .ok (.aload_n 2, 1) := by decide +kernel
theorem dL_law_242 : decode cL_law 242 = .ok (.aload_n 0, 1) := by decide +kernel
theorem dL_law_243 : decode cL_law 243 = .ok (.iload_n 3, 1) := by decide +kernel
theorem dL_law_244 : decode cL_law 244 = .ok (.iconst 1, 1) := by decide +kernel
theorem dL_law_245 : decode cL_law 245 = .ok (.iadd, 1) := by decide +kernel
theorem dL_law_246 : decode cL_law 246 = .ok (.iaload, 1) := by decide +kernel
theorem dL_law_247 : decode cL_law 247 = .ok (.aload_n 0, 1) := by decide +kernel
theorem dL_law_248 : decode cL_law 248 = .ok (.iload_n 3, 1) := by decide +kernel
theorem dL_law_249 : decode cL_law 249 = .ok (.iconst 2, 1) := by decide +kernel
theorem dL_law_250 : decode cL_law 250 = .ok (.iadd, 1) := by decide +kernel
theorem dL_law_251 : decode cL_law 251 = .ok (.iaload, 1) := by decide +kernel
theorem dL_law_252 : decode cL_law 252 = .ok (.invokevirtual 31, 3) := by decide +kernel
theorem dL_law_255 : decode cL_law 255 = .ok (.if_icmp .eq 268, 3) := by decide +kernel
theorem dL_law_258 : decode cL_law 258 = .ok (.iconst 0, 1) := by decide +kernel
theorem dL_law_259 : decode cL_law 259 = .ok (.ireturn, 1) := by decide +kernel
theorem dL_law_260 : decode cL_law 260 = .ok (.aload_n 1, 1) := by decide +kernel
theorem dL_law_261 : decode cL_law 261 = .ok (.aload_n 0, 1) := by decide +kernel
theorem dL_law_262 : decode cL_law 262 = .ok (.iload_n 3, 1) := by decide +kernel
theorem dL_law_263 : decode cL_law 263 = .ok (.iconst 1, 1) := by decide +kernel
theorem dL_law_264 : decode cL_law 264 = .ok (.iadd, 1) := by decide +kernel
theorem dL_law_265 : decode cL_law 265 = .ok (.iaload, 1) := by decide +kernel
theorem dL_law_266 : decode cL_law 266 = .ok (.aload_n 0, 1) := by decide +kernel
theorem dL_law_267 : decode cL_law 267 = .ok (.iload_n 3, 1) := by decide +kernel
theorem dL_law_268 : decode cL_law 268 = .ok (.iconst 2, 1) := by decide +kernel
theorem dL_law_269 : decode cL_law 269 = .ok (.iadd, 1) := by decide +kernel
theorem dL_law_270 : decode cL_law 270 = .ok (.iaload, 1) := by decide +kernel
theorem dL_law_271 : decode cL_law 271 = .ok (.invokevirtual 32, 3) := by decide +kernel
theorem dL_law_274 : decode cL_law 274 = .ok (.aload_n 2, 1) := by decide +kernel
theorem dL_law_275 : decode cL_law 275 = .ok (.aload_n 0, 1) := by decide +kernel
theorem dL_law_276 : decode cL_law 276 = .ok (.iload_n 3, 1) := by decide +kernel
theorem dL_law_277 : decode cL_law 277 = .ok (.iconst 1, 1) := by decide +kernel
theorem dL_law_278 : decode cL_law 278 = .ok (.iadd, 1) := by decide +kernel
theorem dL_law_279 : decode cL_law 279 = .ok (.iaload, 1) := by decide +kernel
theorem dL_law_280 : decode cL_law 280 = .ok (.aload_n 0, 1) := by decide +kernel
theorem dL_law_281 : decode cL_law 281 = .ok (.iload_n 3, 1) := by decide +kernel
theorem dL_law_282 : decode cL_law 282 = .ok (.iconst 2, 1) := by decide +kernel
theorem dL_law_283 : decode cL_law 283 = .ok (.iadd, 1) := by decide +kernel
theorem dL_law_284 : decode cL_law 284 = .ok (.iaload, 1) := by decide +kernel
theorem dL_law_285 : decode cL_law 285 = .ok (.invokevirtual 35, 3) := by decide +kernel
theorem dL_law_288 : decode cL_law 288 = .ok (.if_icmp .eq 235, 3) := by decide +kernel
theorem dL_law_291 : decode cL_law 291 = .ok (.iconst 0, 1) := by decide +kernel
theorem dL_law_292 : decode cL_law 292 = .ok (.ireturn, 1) := by decide +kernel
theorem dL_law_293 : decode cL_law 293 = .ok (.aload_n 1, 1) := by decide +kernel
theorem dL_law_294 : decode cL_law 294 = .ok (.aload_n 0, 1) := by decide +kernel
theorem dL_law_295 : decode cL_law 295 = .ok (.iload_n 3, 1) := by decide +kernel
theorem dL_law_296 : decode cL_law 296 = .ok (.iconst 1, 1) := by decide +kernel
theorem dL_law_297 : decode cL_law 297 = .ok (.iadd, 1) := by decide +kernel
theorem dL_law_298 : decode cL_law 298 = .ok (.iaload, 1) := by decide +kernel
theorem dL_law_299 : decode cL_law 299 = .ok (.invokevirtual 36, 3) := by decide +kernel
theorem dL_law_302 : decode cL_law 302 = .ok (.aload_n 2, 1) := by decide +kernel
theorem dL_law_303 : decode cL_law 303 = .ok (.aload_n 0, 1) := by decide +kernel
theorem dL_law_304 : decode cL_law 304 = .ok (.iload_n 3, 1) := by decide +kernel
theorem dL_law_305 : decode cL_law 305 = .ok (.iconst 1, 1) := by decide +kernel
theorem dL_law_306 : decode cL_law 306 = .ok (.iadd, 1) := by decide +kernel
theorem dL_law_307 : decode cL_law 307 = .ok (.iaload, 1) := by decide +kernel
theorem dL_law_308 : decode cL_law 308 = .ok (.invokevirtual 39, 3) := by decide +kernel
theorem dL_law_311 : decode cL_law 311 = .ok (.if_icmp .eq 212, 3) := by decide +kernel
theorem dL_law_314 : decode cL_law 314 = .ok (.iconst 0, 1) := by decide +kernel
theorem dL_law_315 : decode cL_law 315 = .ok (.ireturn, 1) := by decide +kernel
theorem dL_law_316 : decode cL_law 316 = .ok (.aload_n 1, 1) := by decide +kernel
theorem dL_law_317 : decode cL_law 317 = .ok (.aload_n 0, 1) := by decide +kernel
theorem dL_law_318 : decode cL_law 318 = .ok (.iload_n 3, 1) := by decide +kernel
theorem dL_law_319 : decode cL_law 319 = .ok (.iconst 1, 1) := by decide +kernel
theorem dL_law_320 : decode cL_law 320 = .ok (.iadd, 1) := by decide +kernel
theorem dL_law_321 : decode cL_law 321 = .ok (.iaload, 1) := by decide +kernel
theorem dL_law_322 : decode cL_law 322 = .ok (.invokevirtual 40, 3) := by decide +kernel
theorem dL_law_325 : decode cL_law 325 = .ok (.aload_n 2, 1) := by decide +kernel
theorem dL_law_326 : decode cL_law 326 = .ok (.aload_n 0, 1) := by decide +kernel
theorem dL_law_327 : decode cL_law 327 = .ok (.iload_n 3, 1) := by decide +kernel
theorem dL_law_328 : decode cL_law 328 = .ok (.iconst 1, 1) := by decide +kernel
theorem dL_law_329 : decode cL_law 329 = .ok (.iadd, 1) := by decide +kernel
theorem dL_law_330 : decode cL_law 330 = .ok (.iaload, 1) := by decide +kernel
theorem dL_law_331 : decode cL_law 331 = .ok (.invokevirtual 43, 3) := by decide +kernel
theorem dL_law_334 : decode cL_law 334 = .ok (.if_icmp .eq 189, 3) := by decide +kernel
theorem dL_law_337 : decode cL_law 337 = .ok (.iconst 0, 1) := by decide +kernel
theorem dL_law_338 : decode cL_law 338 = .ok (.ireturn, 1) := by decide +kernel
theorem dL_law_339 : decode cL_law 339 = .ok (.aload_n 1, 1) := by decide +kernel
theorem dL_law_340 : decode cL_law 340 = .ok (.aload_n 0, 1) := by decide +kernel
theorem dL_law_341 : decode cL_law 341 = .ok (.iload_n 3, 1) := by decide +kernel
theorem dL_law_342 : decode cL_law 342 = .ok (.iconst 1, 1) := by decide +kernel
theorem dL_law_343 : decode cL_law 343 = .ok (.iadd, 1) := by decide +kernel
theorem dL_law_344 : decode cL_law 344 = .ok (.iaload, 1) := by decide +kernel
theorem dL_law_345 : decode cL_law 345 = .ok (.invokevirtual 44, 3) := by decide +kernel
theorem dL_law_348 : decode cL_law 348 = .ok (.aload_n 2, 1) := by decide +kernel
theorem dL_law_349 : decode cL_law 349 = .ok (.aload_n 0, 1) := by decide +kernel
theorem dL_law_350 : decode cL_law 350 = .ok (.iload_n 3, 1) := by decide +kernel
theorem dL_law_351 : decode cL_law 351 = .ok (.iconst 1, 1) := by decide +kernel
theorem dL_law_352 : decode cL_law 352 = .ok (.iadd, 1) := by decide +kernel
theorem dL_law_353 : decode cL_law 353 = .ok (.iaload, 1) := by decide +kernel
theorem dL_law_354 : decode cL_law 354 = .ok (.invokevirtual 47, 3) := by decide +kernel
theorem dL_law_357 : decode cL_law 357 = .ok (.if_icmp .eq 166, 3) := by decide +kernel
theorem dL_law_360 : decode cL_law 360 = .ok (.iconst 0, 1) := by decide +kernel
theorem dL_law_361 : decode cL_law 361 = .ok (.ireturn, 1) := by decide +kernel
theorem dL_law_362 : decode cL_law 362 = .ok (.aload_n 1, 1) := by decide +kernel
theorem dL_law_363 : decode cL_law 363 = .ok (.aload_n 0, 1) := by decide +kernel
theorem dL_law_364 : decode cL_law 364 = .ok (.iload_n 3, 1) := by decide +kernel
theorem dL_law_365 : decode cL_law 365 = .ok (.iconst 1, 1) := by decide +kernel
theorem dL_law_366 : decode cL_law 366 = .ok (.iadd, 1) := by decide +kernel
theorem dL_law_367 : decode cL_law 367 = .ok (.iaload, 1) := by decide +kernel
theorem dL_law_368 : decode cL_law 368 = .ok (.aload_n 0, 1) := by decide +kernel
theorem dL_law_369 : decode cL_law 369 = .ok (.iload_n 3, 1) := by decide +kernel
theorem dL_law_370 : decode cL_law 370 = .ok (.iconst 2, 1) := by decide +kernel
theorem dL_law_371 : decode cL_law 371 = .ok (.iadd, 1) := by decide +kernel
theorem dL_law_372 : decode cL_law 372 = .ok (.iaload, 1) := by decide +kernel
theorem dL_law_373 : decode cL_law 373 = .ok (.invokevirtual 48, 3) := by decide +kernel
theorem dL_law_376 : decode cL_law 376 = .ok (.aload_n 2, 1) := by decide +kernel
theorem dL_law_377 : decode cL_law 377 = .ok (.aload_n 0, 1) := by decide +kernel
theorem dL_law_378 : decode cL_law 378 = .ok (.iload_n 3, 1) := by decide +kernel
theorem dL_law_379 : decode cL_law 379 = .ok (.iconst 1, 1) := by decide +kernel
theorem dL_law_380 : decode cL_law 380 = .ok (.iadd, 1) := by decide +kernel
theorem dL_law_381 : decode cL_law 381 = .ok (.iaload, 1) := by decide +kernel
theorem dL_law_382 : decode cL_law 382 = .ok (.aload_n 0, 1) := by decide +kernel
theorem dL_law_383 : decode cL_law 383 = .ok (.iload_n 3, 1) := by decide +kernel
theorem dL_law_384 : decode cL_law 384 = .ok (.iconst 2, 1) := by decide +kernel
theorem dL_law_385 : decode cL_law 385 = .ok (.iadd, 1) := by decide +kernel
theorem dL_law_386 : decode cL_law 386 = .ok (.iaload, 1) := by decide +kernel
theorem dL_law_387 : decode cL_law 387 = .ok (.invokevirtual 51, 3) := by decide +kernel
theorem dL_law_390 : decode cL_law 390 = .ok (.if_icmp .eq 133, 3) := by decide +kernel
theorem dL_law_393 : decode cL_law 393 = .ok (.iconst 0, 1) := by decide +kernel
theorem dL_law_394 : decode cL_law 394 = .ok (.ireturn, 1) := by decide +kernel
theorem dL_law_395 : decode cL_law 395 = .ok (.aload_n 1, 1) := by decide +kernel
theorem dL_law_396 : decode cL_law 396 = .ok (.aload_n 0, 1) := by decide +kernel
theorem dL_law_397 : decode cL_law 397 = .ok (.iload_n 3, 1) := by decide +kernel
theorem dL_law_398 : decode cL_law 398 = .ok (.iconst 1, 1) := by decide +kernel
theorem dL_law_399 : decode cL_law 399 = .ok (.iadd, 1) := by decide +kernel
theorem dL_law_400 : decode cL_law 400 = .ok (.iaload, 1) := by decide +kernel
theorem dL_law_401 : decode cL_law 401 = .ok (.invokevirtual 52, 3) := by decide +kernel
theorem dL_law_404 : decode cL_law 404 = .ok (.aload_n 2, 1) := by decide +kernel
theorem dL_law_405 : decode cL_law 405 = .ok (.aload_n 0, 1) := by decide +kernel
theorem dL_law_406 : decode cL_law 406 = .ok (.iload_n 3, 1) := by decide +kernel
theorem dL_law_407 : decode cL_law 407 = .ok (.iconst 1, 1) := by decide +kernel
theorem dL_law_408 : decode cL_law 408 = .ok (.iadd, 1) := by decide +kernel
theorem dL_law_409 : decode cL_law 409 = .ok (.iaload, 1) := by decide +kernel
theorem dL_law_410 : decode cL_law 410 = .ok (.invokevirtual 55, 3) := by decide +kernel
theorem dL_law_413 : decode cL_law 413 = .ok (.if_icmp .eq 110, 3) := by decide +kernel
theorem dL_law_416 : decode cL_law 416 = .ok (.iconst 0, 1) := by decide +kernel
theorem dL_law_417 : decode cL_law 417 = .ok (.ireturn, 1) := by decide +kernel
theorem dL_law_418 : decode cL_law 418 = .ok (.aload_n 1, 1) := by decide +kernel
theorem dL_law_419 : decode cL_law 419 = .ok (.aload_n 0, 1) := by decide +kernel
theorem dL_law_420 : decode cL_law 420 = .ok (.iload_n 3, 1) := by decide +kernel
theorem dL_law_421 : decode cL_law 421 = .ok (.iconst 1, 1) := by decide +kernel
theorem dL_law_422 : decode cL_law 422 = .ok (.iadd, 1) := by decide +kernel
theorem dL_law_423 : decode cL_law 423 = .ok (.iaload, 1) := by decide +kernel
theorem dL_law_424 : decode cL_law 424 = .ok (.aload_n 0, 1) := by decide +kernel
theorem dL_law_425 : decode cL_law 425 = .ok (.iload_n 3, 1) := by decide +kernel
theorem dL_law_426 : decode cL_law 426 = .ok (.iconst 2, 1) := by decide +kernel
theorem dL_law_427 : decode cL_law 427 = .ok (.iadd, 1) := by decide +kernel
theorem dL_law_428 : decode cL_law 428 = .ok (.iaload, 1) := by decide +kernel
theorem dL_law_429 : decode cL_law 429 = .ok (.invokevirtual 56, 3) := by decide +kernel
theorem dL_law_432 : decode cL_law 432 = .ok (.aload_n 2, 1) := by decide +kernel
theorem dL_law_433 : decode cL_law 433 = .ok (.aload_n 0, 1) := by decide +kernel
theorem dL_law_434 : decode cL_law 434 = .ok (.iload_n 3, 1) := by decide +kernel
theorem dL_law_435 : decode cL_law 435 = .ok (.iconst 1, 1) := by decide +kernel
theorem dL_law_436 : decode cL_law 436 = .ok (.iadd, 1) := by decide +kernel
theorem dL_law_437 : decode cL_law 437 = .ok (.iaload, 1) := by decide +kernel
theorem dL_law_438 : decode cL_law 438 = .ok (.aload_n 0, 1) := by decide +kernel
theorem dL_law_439 : decode cL_law 439 = .ok (.iload_n 3, 1) := by decide +kernel
theorem dL_law_440 : decode cL_law 440 = .ok (.iconst 2, 1) := by decide +kernel
theorem dL_law_441 : decode cL_law 441 = .ok (.iadd, 1) := by decide +kernel
theorem dL_law_442 : decode cL_law 442 = .ok (.iaload, 1) := by decide +kernel
theorem dL_law_443 : decode cL_law 443 = .ok (.invokevirtual 59, 3) := by decide +kernel
theorem dL_law_446 : decode cL_law 446 = .ok (.if_icmp .eq 77, 3) := by decide +kernel
theorem dL_law_449 : decode cL_law 449 = .ok (.iconst 0, 1) := by decide +kernel
theorem dL_law_450 : decode cL_law 450 = .ok (.ireturn, 1) := by decide +kernel
theorem dL_law_451 : decode cL_law 451 = .ok (.aload_n 1, 1) := by decide +kernel
theorem dL_law_452 : decode cL_law 452 = .ok (.invokevirtual 60, 3) := by decide +kernel
theorem dL_law_455 : decode cL_law 455 = .ok (.aload_n 2, 1) := by decide +kernel
theorem dL_law_456 : decode cL_law 456 = .ok (.invokevirtual 64, 3) := by decide +kernel
theorem dL_law_459 : decode cL_law 459 = .ok (.if_icmp .eq 64, 3) := by decide +kernel
theorem dL_law_462 : decode cL_law 462 = .ok (.iconst 0, 1) := by decide +kernel
theorem dL_law_463 : decode cL_law 463 = .ok (.ireturn, 1) := by decide +kernel
theorem dL_law_464 : decode cL_law 464 = .ok (.aload_n 1, 1) := by decide +kernel
theorem dL_law_465 : decode cL_law 465 = .ok (.aload_n 0, 1) := by decide +kernel
theorem dL_law_466 : decode cL_law 466 = .ok (.iload_n 3, 1) := by decide +kernel
theorem dL_law_467 : decode cL_law 467 = .ok (.iconst 1, 1) := by decide +kernel
theorem dL_law_468 : decode cL_law 468 = .ok (.iadd, 1) := by decide +kernel
theorem dL_law_469 : decode cL_law 469 = .ok (.iaload, 1) := by decide +kernel
theorem dL_law_470 : decode cL_law 470 = .ok (.aload_n 0, 1) := by decide +kernel
theorem dL_law_471 : decode cL_law 471 = .ok (.iload_n 3, 1) := by decide +kernel
theorem dL_law_472 : decode cL_law 472 = .ok (.iconst 2, 1) := by decide +kernel
theorem dL_law_473 : decode cL_law 473 = .ok (.iadd, 1) := by decide +kernel
theorem dL_law_474 : decode cL_law 474 = .ok (.iaload, 1) := by decide +kernel
theorem dL_law_475 : decode cL_law 475 = .ok (.invokevirtual 65, 3) := by decide +kernel
theorem dL_law_478 : decode cL_law 478 = .ok (.aload_n 2, 1) := by decide +kernel
theorem dL_law_479 : decode cL_law 479 = .ok (.aload_n 0, 1) := by decide +kernel
theorem dL_law_480 : decode cL_law 480 = .ok (.iload_n 3, 1) := by decide +kernel
theorem dL_law_481 : decode cL_law 481 = .ok (.iconst 1, 1) := by decide +kernel
theorem dL_law_482 : decode cL_law 482 = .ok (.iadd, 1) := by decide +kernel
theorem dL_law_483 : decode cL_law 483 = .ok (.iaload, 1) := by decide +kernel
theorem dL_law_484 : decode cL_law 484 = .ok (.aload_n 0, 1) := by decide +kernel
theorem dL_law_485 : decode cL_law 485 = .ok (.iload_n 3, 1) := by decide +kernel
theorem dL_law_486 : decode cL_law 486 = .ok (.iconst 2, 1) := by decide +kernel
theorem dL_law_487 : decode cL_law 487 = .ok (.iadd, 1) := by decide +kernel
theorem dL_law_488 : decode cL_law 488 = .ok (.iaload, 1) := by decide +kernel
theorem dL_law_489 : decode cL_law 489 = .ok (.invokevirtual 68, 3) := by decide +kernel
theorem dL_law_492 : decode cL_law 492 = .ok (.if_icmp .eq 31, 3) := by decide +kernel
theorem dL_law_495 : decode cL_law 495 = .ok (.iconst 0, 1) := by decide +kernel
theorem dL_law_496 : decode cL_law 496 = .ok (.ireturn, 1) := by decide +kernel
theorem dL_law_497 : decode cL_law 497 = .ok (.aload_n 1, 1) := by decide +kernel
theorem dL_law_498 : decode cL_law 498 = .ok (.invokevirtual 69, 3) := by decide +kernel
theorem dL_law_501 : decode cL_law 501 = .ok (.aload_n 2, 1) := by decide +kernel
theorem dL_law_502 : decode cL_law 502 = .ok (.invokevirtual 72, 3) := by decide +kernel
theorem dL_law_505 : decode cL_law 505 = .ok (.if_icmp .eq 18, 3) := by decide +kernel
theorem dL_law_508 : decode cL_law 508 = .ok (.iconst 0, 1) := by decide +kernel
theorem dL_law_509 : decode cL_law 509 = .ok (.ireturn, 1) := by decide +kernel
theorem dL_law_510 : decode cL_law 510 = .ok (.aload_n 1, 1) := by decide +kernel
theorem dL_law_511 : decode cL_law 511 = .ok (.invokevirtual 73, 3) := by decide +kernel
theorem dL_law_514 : decode cL_law 514 = .ok (.aload_n 2, 1) := by decide +kernel
theorem dL_law_515 : decode cL_law 515 = .ok (.invokevirtual 76, 3) := by decide +kernel
theorem dL_law_518 : decode cL_law 518 = .ok (.if_icmp .eq 5, 3) := by decide +kernel
theorem dL_law_521 : decode cL_law 521 = .ok (.iconst 0, 1) := by decide +kernel
theorem dL_law_522 : decode cL_law 522 = .ok (.ireturn, 1) := by decide +kernel
theorem dL_law_523 : decode cL_law 523 = .ok (.iinc 3 6, 3) := by decide +kernel
theorem dL_law_526 : decode cL_law 526 = .ok (.goto (-508), 3) := by decide +kernel
theorem dL_law_529 : decode cL_law 529 = .ok (.iconst 1, 1) := by decide +kernel
theorem dL_law_530 : decode cL_law 530 = .ok (.ireturn, 1) := by decide +kernel
end
section
/-! states of ints: cell q's number k -/
abbrev mS : Type := Nat → Nat → Int32
def st2 (σ : mS) (q k : Nat) (v : Int32) : mS := fun q' k' => if q' = q ∧ k' = k then v else σ q' k'
theorem st2_q (σ : mS) (q k : Nat) (v : Int32) : st2 σ q k v q = upd (σ q) k v := by funext j; simp [st2, upd]
theorem st2_nq {σ : mS} {q q' k : Nat} {v : Int32} (h : q' ≠ q) : st2 σ q k v q' = σ q' := by funext j; simp [st2, h]
def cp2 (σ : mS) (qs qd n : Nat) : mS := fun q' k' => if q' = qd ∧ k' < n then σ qs k' else σ q' k'
theorem cp2_nq {σ : mS} {qs qd q' n : Nat} (h : q' ≠ qd) : cp2 σ qs qd n q' = σ q' := by funext j; simp [cp2, h]
def ap {α β : Type} (f : α → β) (x : α) : β := f x
/-! the joint world: kind and length of each cell -/
def wKd : List (Nat × Nat) := [(8, 5), (4, 4), (0, 8), (0, 8), (0, 8), (5, 5), (0, 30), (0, 30), (0, 30), (6, 3), (0, 4), (1, 4), (0, 32), (2, 3), (7, 15), (0, 24), (0, 24), (0, 24), (0, 24), (0, 4), (0, 4), (3, 8), (0, 4), (1, 8), (0, 8), (1, 8), (0, 8), (7, 15), (0, 24), (0, 24), (0, 24), (0, 24), (0, 4), (0, 4), (3, 8), (0, 4), (1, 8), (0, 8), (1, 8), (0, 8), (7, 15), (0, 24), (0, 24), (0, 24), (0, 24), (0, 4), (0, 4), (3, 8), (0, 4), (1, 8), (0, 8), (1, 8), (0, 8), (9, 34), (0, 8), (1, 8), (1, 8), (0, 4), (0, 32), (1, 4), (0, 3), (0, 72), (0, 72), (0, 72), (0, 72), (0, 12), (0, 3), (0, 3), (1, 3), (0, 3), (0, 3), (0, 3), (0, 12), (1, 3), (0, 3), (0, 3), (0, 12), (1, 24), (0, 24), (1, 24), (0, 24), (0, 30), (0, 30), (0, 30), (0, 9)]
def wK (q : Nat) : Nat := (wKd.getD q (9999, 0)).1
def wN (q : Nat) : Nat := (wKd.getD q (9999, 0)).2
def oV (ci : Nat) (a : Nat → Nat) (q : Nat) (f : Nat → Int32) : List Value := match ci with
  | 0 => [.int (f 0), .int (f 1), .int (f 2), .ref (a (q + 1)), .ref (a (q + 2)), .ref (a (q + 3)), .ref (a (q + 4)), .ref (a (q + 5))]
  | 1 => [.ref (a (q + 1)), .ref (a (q + 2)), .ref (a (q + 3)), .ref (a (q + 4))]
  | 2 => [.ref (a (q + 1)), .ref (a (q + 2)), .ref (a (q + 3)), .int (f 3), .int (f 4)]
  | 3 => [.ref (a (q + 1)), .ref (a (q + 2)), .ref (a (q + 3))]
  | 4 => [.int (f 0), .ref (a (q + 1)), .ref (a (q + 2)), .ref (a (q + 3)), .ref (a (q + 4)), .int (f 5), .ref (a (q + 5)), .ref (a (q + 6)), .int (f 8), .ref (a (q + 7)), .int (f 10), .int (f 11), .int (f 12), .int (f 13), .int (f 14)]
  | 5 => [.ref (a (q + 1)), .ref (a (q + 9)), .ref (a (q + 13)), .int (f 3), .int (f 4)]
  | _ => [.int (f 0), .ref (a (q + 1)), .ref (a (q + 2)), .ref (a (q + 3)), .ref (a (q + 4)), .ref (a (q + 5)), .ref (a (q + 6)), .ref (a (q + 7)), .ref (a (q + 8)), .ref (a (q + 9)), .ref (a (q + 10)), .ref (a (q + 11)), .ref (a (q + 12)), .ref (a (q + 13)), .ref (a (q + 14)), .ref (a (q + 15)), .ref (a (q + 16)), .ref (a (q + 17)), .ref (a (q + 18)), .ref (a (q + 19)), .ref (a (q + 20)), .ref (a (q + 21)), .ref (a (q + 22)), .ref (a (q + 23)), .ref (a (q + 24)), .ref (a (q + 25)), .ref (a (q + 26)), .ref (a (q + 27)), .int (f 28), .ref (a (q + 28)), .ref (a (q + 29)), .ref (a (q + 30)), .int (f 32), .ref (a (q + 31))]
abbrev gT : Type := va_G × List (ClassId × FieldType) × (ClassId × ClassId × ClassId) × (Nat → Nat) × List Nat
def ad (G : gT) (q : Nat) : Nat := G.2.2.2.1 q
def gI (G : gT) : List Nat := G.2.2.2.2
def gY (G : gT) : List (ClassId × FieldType) := G.2.1
def gC (G : gT) : ClassId × ClassId × ClassId := G.2.2.1
def wE (c : ClassId × ClassId × ClassId) (a : Nat → Nat) (q : Nat) (f : Nat → Int32) : va_E := match wK q with
  | 0 => .inl (c.1, wN q, .inl f)
  | 1 => .inl (c.2.1, wN q, .inl f)
  | 2 => .inl (c.2.2, 3, .inr (.inr (.inr (.inr (fun j => some (a (14 + 13 * j)))))))
  | k + 3 => .inr (k, oV k a q f)
def wD (G : gT) (σ : mS) : va_W := (gI G).map (fun q => (ad G q, wE (gC G) (ad G) q (σ q)))
def mA (G : gT) : Nat → Prop := fun q => ∃ k, k ∈ gI G ∧ q = ad G k
def mP (G : gT) (σ : mS) (H : Heap) : Prop := va_P G.1 vwCl (wD G σ) H
def mQ (G : gT) (κ : Int32 → Option Value) (T : Int32 × mS) : Array Value → State → Outcome → State → Prop := fun _ st oc t => (oc = .returned (κ T.1) ∧ mP G T.2 t.heap) ∧ va_F (mA G) st t
def sI (v : Int32) : Nat := 14 + 13 * v.toNatClampNeg
def κI : Int32 → Option Value := fun v => some (.int v)
def κV : Int32 → Option Value := fun _ => none
def κR (G : gT) : Int32 → Option Value := fun v => some (va_rf (if v = -1 then none else some (ad G (sI v))))
def rm (d : Nat) : Room := { frames := d, cells := 0, slots := 0, locals := 40 * d }
def mN (U : State) : Prop := ∀ w ∈ lw_nest, va_Nw w U
theorem mN.same {u U : State} (h : u.vm = U.vm) (hN : mN u) : mN U := by
  intro w hw
  refine va_Nw.same ?_ h (hN w hw)
  exact (List.all_eq_true.mp (show lw_nest.all (fun w => w.onTables) = true by decide +kernel)) w hw
theorem mN.warm {s U : State} (hW : s.WarmedH U.vm) (hN : mN s) : mN U := by
  intro w hw
  have h := hN w hw
  obtain ⟨k, hk⟩ := List.getElem?_of_mem hw
  match k, hk with
  | 0, hk => cases hk; exact va_Nw.warmM hW h
  | 1, hk => cases hk; exact va_Nw.warmF hW h
  | 2, hk => cases hk; exact va_Nw.warmF hW h
  | 3, hk => cases hk; exact va_Nw.warmF hW h
  | 4, hk => cases hk; exact va_Nw.warmM hW h
  | 5, hk => cases hk; exact va_Nw.warmF hW h
  | 6, hk => cases hk; exact va_Nw.warmF hW h
  | 7, hk => cases hk; exact va_Nw.warmF hW h
  | 8, hk => cases hk; exact va_Nw.warmF hW h
  | 9, hk => cases hk; exact va_Nw.warmF hW h
  | 10, hk => cases hk; exact va_Nw.warmF hW h
  | 11, hk => cases hk; exact va_Nw.warmF hW h
  | 12, hk => cases hk; exact va_Nw.warmF hW h
  | 13, hk => cases hk; exact va_Nw.warmF hW h
  | 14, hk => cases hk; exact va_Nw.warmF hW h
  | 15, hk => cases hk; exact va_Nw.warmF hW h
  | 16, hk => cases hk; exact va_Nw.warmF hW h
  | 17, hk => cases hk; exact va_Nw.warmF hW h
  | 18, hk => cases hk; exact va_Nw.warmF hW h
  | 19, hk => cases hk; exact va_Nw.warmF hW h
  | 20, hk => cases hk; exact va_Nw.warmF hW h
  | 21, hk => cases hk; exact va_Nw.warmF hW h
  | 22, hk => cases hk; exact va_Nw.warmF hW h
  | 23, hk => cases hk; exact va_Nw.warmF hW h
  | 24, hk => cases hk; exact va_Nw.warmM hW h
  | 25, hk => cases hk; exact va_Nw.warmM hW h
  | 26, hk => cases hk; exact va_Nw.warmM hW h
  | 27, hk => cases hk; exact va_Nw.warmM hW h
  | k + 28, hk => exact absurd hk (by simp [lw_nest])
/-- a method's contract, by the state of ints: from σ the answer T.1 and the state T.2; nothing is made -/
def Ct (l : Launch) (G : gT) (y : MethodName) (cc : ByteArray) (nL : Nat) (ret : Option FieldType) (d : Nat) (avs : List Value) (κ : Int32 → Option Value) (σ : mS) (T : Int32 × mS) : Prop :=
  Met l y (Cond.code y cc nL ret :: lw_TB) (rm d) (va_Pc avs (fun U => mP G σ U.heap ∧ va_K G.1 vwCl (gY G) U ∧ va_D (fun _ => True) (wD G σ) ∧ mN U)) (mQ G κ T) 0 0 (mA G)
abbrev xT : Type := Program × Env × State × MethodId × Array Value × List Frame × Method × Code
/-- what holds all through a method's run -/
def Vc (G : gT) (X : xT) (own : String) (cc : ByteArray) (nL : Nat) (ret : Option FieldType) : Prop :=
  X.1.tables.exec = Jvm.exec ∧ X.2.2.2.2.2.2.2.code = cc ∧ X.2.2.2.2.2.2.2.maxLocals = nL ∧ X.2.2.1.vm.findClass own = some X.2.2.2.1.cls ∧ (∀ w ∈ lw_TB, w.before X.2.2.2.2.1 X.2.2.1 = true) ∧ va_K G.1 vwCl (gY G) X.2.2.1 ∧ X.2.2.2.2.2.2.1.sig.returnType = ret ∧ X.2.2.2.2.2.2.1.locks = false ∧ mN X.2.2.1
/-- the heap, the locals -/
def Vh (G : gT) (X : xT) (nL : Nat) (σ : mS) (lv : List (Nat × Value)) (H : Heap) (locs : List Loc) (ls : Array Slot) : Prop :=
  mP G σ H ∧ va_D (mA G) (wD G σ) ∧ va_S (mA G) X.2.2.1.heap H locs ∧ lv_has ls nL lv
/-- from this point the method comes to its end with T -/
def V (l : Launch) (G : gT) (X : xT) (own : String) (cc : ByteArray) (nL d : Nat) (ret : Option FieldType) (κ : Int32 → Option Value) (T : Int32 × mS) (σ : mS) (pc : Nat) (lv : List (Nat × Value)) (st : List Value) : Prop :=
  Vc G X own cc nL ret → ∀ (H : Heap) (locs : List Loc) (ls : Array Slot), Vh G X nL σ lv H locs ls →
    W X.1 l X.2.1 (rm d) X.2.2.1 X.2.2.2.1 X.2.2.2.2.1 X.2.2.2.2.2.1 X.2.2.2.2.2.2.1 X.2.2.2.2.2.2.2 H locs 0 0 (MQ X.2.2.2.2.2.1 (mQ G κ T) X.2.2.2.2.1 X.2.2.1 0 0 (mA G)) (F0 X.2.2.2.1 pc ls st)
/-! the world: looking up and setting by number -/
theorem wD_get (G : gT) (σ : mS) (i : Nat) : (wD G σ)[i]? = ((gI G)[i]?).map (fun q => (ad G q, wE (gC G) (ad G) q (σ q))) := by
  unfold wD; rw [List.getElem?_map]
theorem wD_at {G : gT} {q : Nat} (hq : q ∈ gI G) (σ : mS) : ∃ i : Nat, (gI G)[i]? = some q ∧ (wD G σ)[i]? = some (ad G q, wE (gC G) (ad G) q (σ q)) := by
  obtain ⟨i, hi⟩ := List.getElem?_of_mem hq
  exact ⟨i, hi, by rw [wD_get, hi]; rfl⟩
theorem wD_adr {G : gT} {σ σ' : mS} {A B : Nat → Prop} (h : va_D A (wD G σ)) (hB : ∀ q, A q → B q) : va_D B (wD G σ') := by
  have key : ∀ (i : Nat) (p : Nat × va_E), (wD G σ')[i]? = some p → ∃ p', (wD G σ)[i]? = some p' ∧ p'.1 = p.1 := by
    intro i p hp
    rw [wD_get] at hp ⊢
    cases hi : (gI G)[i]? with
    | none => rw [hi] at hp; cases hp
    | some q => rw [hi] at hp; cases hp; exact ⟨_, rfl, rfl⟩
  refine ⟨fun i j p q hp hq e => ?_, fun k q hk => ?_⟩
  · obtain ⟨p', a1, a2⟩ := key i p hp
    obtain ⟨q', b1, b2⟩ := key j q hq
    exact h.1 i j p' q' a1 b1 (by rw [a2, b2]; exact e)
  · obtain ⟨q', b1, b2⟩ := key k q hk
    rw [← b2]; exact hB _ (h.2 k q' b1)
theorem wD_mA {G : gT} {σ : mS} {A : Nat → Prop} (h : va_D A (wD G σ)) : va_D (mA G) (wD G σ) := by
  refine ⟨h.1, fun k q hk => ?_⟩
  rw [wD_get] at hk
  cases hi : (gI G)[k]? with
  | none => rw [hi] at hk; cases hk
  | some q' => rw [hi] at hk; cases hk; exact ⟨q', List.mem_of_getElem? hi, rfl⟩
theorem wD_set {G : gT} {σ σ' : mS} {A : Nat → Prop} {i q : Nat} {e : va_E} (hD : va_D A (wD G σ)) (hi : (gI G)[i]? = some q) (he : e = wE (gC G) (ad G) q (σ' q)) (ho : ∀ q', q' ≠ q → σ' q' = σ q') : (wD G σ).set i (ad G q, e) = wD G σ' := by
  apply List.ext_getElem?
  intro j
  have hlen : i < (wD G σ).length := by
    have h1 : (wD G σ)[i]? = some (ad G q, wE (gC G) (ad G) q (σ q)) := by rw [wD_get, hi]; rfl
    exact (List.getElem?_eq_some_iff.mp h1).1
  by_cases hj : i = j
  · subst hj
    rw [List.getElem?_set, if_pos rfl, if_pos hlen, wD_get, hi, he]; rfl
  · rw [List.getElem?_set, if_neg hj, wD_get, wD_get]
    cases hq : (gI G)[j]? with
    | none => rfl
    | some q' =>
      have hne : q' ≠ q := by
        intro e2
        subst e2
        exact hj (hD.1 i j _ _ (by rw [wD_get, hi]; rfl) (by rw [wD_get, hq]; rfl) rfl)
      show some (ad G q', wE (gC G) (ad G) q' (σ q')) = some (ad G q', wE (gC G) (ad G) q' (σ' q'))
      rw [ho q' hne]
theorem wE_i {c : ClassId × ClassId × ClassId} {a : Nat → Nat} {q n : Nat} {f : Nat → Int32} (h : wK q = 0) (hn : wN q = n) : wE c a q f = .inl (c.1, n, .inl f) := by
  subst hn; unfold wE; rw [h]
theorem wE_z {c : ClassId × ClassId × ClassId} {a : Nat → Nat} {q n : Nat} {f : Nat → Int32} (h : wK q = 1) (hn : wN q = n) : wE c a q f = .inl (c.2.1, n, .inl f) := by
  subst hn; unfold wE; rw [h]
theorem wE_s {c : ClassId × ClassId × ClassId} {a : Nat → Nat} {q : Nat} {f : Nat → Int32} (h : wK q = 2) : wE c a q f = .inl (c.2.2, 3, .inr (.inr (.inr (.inr (fun j => some (a (14 + 13 * j))))))) := by
  unfold wE; rw [h]
theorem wE_o {c : ClassId × ClassId × ClassId} {a : Nat → Nat} {q ci : Nat} {f : Nat → Int32} (h : wK q = ci + 3) : wE c a q f = .inr (ci, oV ci a q f) := by
  unfold wE; rw [h]
theorem Ct.ofV {l : Launch} {G : gT} {y : MethodName} {own : String} {cc : ByteArray} {nL d : Nat} {ret : Option FieldType} {avs : List Value} {κ : Int32 → Option Value} {σ : mS} {T : Int32 × mS} (lv : List (Nat × Value)) (hown : y.cls = own) (hy : plainName y.cls = true) (hn : (lg_sl avs).length ≤ nL) (hlv : lv_args 0 avs = lv) (h : ∀ X : xT, V l G X own cc nL d ret κ T σ 0 lv []) : Ct l G y cc nL ret d avs κ σ T := by
  subst hown
  refine Met.ofW (cc := cc) (maxL := nL) (ret := ret) hy rfl ?_
  intro p e s m args below meth c s₁ B hml hv
  obtain ⟨rfl, hP, hK, hD, hN⟩ := hv
  have hts := atoms_spec (ws := Cond.code y cc nL ret :: lw_TB) B.pre
  have hown : s.vm.findClass y.cls = some m.cls := findClass_of_methodNamed B.named
  have hl := lv_entry avs hn
  rw [hlv] at hl
  rw [lg_entry_eq]
  exact h (p, e, s, m, avs.toArray, below, meth, c) ⟨B.exec, B.bytes, hml, hown, fun w hw => hts w (List.mem_cons_of_mem _ hw), hK, B.returns, B.notSynchronized, hN⟩ s.heap [] _ ⟨hP, wD_mA hD, va_S.rf, hl⟩

section VR
variable {l : Launch} {G : gT} {X : xT} {own : String} {cc : ByteArray} {nL d : Nat} {ret : Option FieldType} {κ : Int32 → Option Value} {T T1 T2 : Int32 × mS} {σ : mS} {pc : Nat} {lv : List (Nat × Value)} {st : List Value}
theorem Viconst {n : Int} (hd : decode cc pc = .ok (.iconst n, 1)) (v : Int32) (hv : Int32.ofInt n = v) (pc' : Nat) (hp : pc' = pc + 1) (k : V l G X own cc nL d ret κ T σ pc' lv (.int v :: st)) : V l G X own cc nL d ret κ T σ pc lv (st) := by
  subst hp
  intro C H locs ls I
  exact lv_iconst C.1 C.2.1 hd hv (k C H locs ls I)
theorem Vbipush {n : Int} (hd : decode cc pc = .ok (.bipush n, 2)) (v : Int32) (hv : (Int8.ofInt n).toInt32 = v) (pc' : Nat) (hp : pc' = pc + 2) (k : V l G X own cc nL d ret κ T σ pc' lv (.int v :: st)) : V l G X own cc nL d ret κ T σ pc lv (st) := by
  subst hp
  intro C H locs ls I
  exact lv_bipush C.1 C.2.1 hd hv (k C H locs ls I)
theorem Vsipush {n : Int} (hd : decode cc pc = .ok (.sipush n, 3)) (v : Int32) (hv : (Int16.ofInt n).toInt32 = v) (pc' : Nat) (hp : pc' = pc + 3) (k : V l G X own cc nL d ret κ T σ pc' lv (.int v :: st)) : V l G X own cc nL d ret κ T σ pc lv (st) := by
  subst hp
  intro C H locs ls I
  exact lv_sipush C.1 C.2.1 hd hv (k C H locs ls I)
theorem Vldc {idx : Nat} (hd : decode cc pc = .ok (.ldc idx, 2)) (v : Int32) (hw : Cond.constant own idx v ∈ lw_TB) (pc' : Nat) (hp : pc' = pc + 2) (k : V l G X own cc nL d ret κ T σ pc' lv (.int v :: st)) : V l G X own cc nL d ret κ T σ pc lv (st) := by
  subst hp
  intro C H locs ls I
  exact lv_ldc C.1 C.2.1 C.2.2.2.1 (C.2.2.2.2.1 _ hw) hd (k C H locs ls I)
theorem Vnull (hd : decode cc pc = .ok (.aconst_null, 1)) (pc' : Nat) (hp : pc' = pc + 1) (k : V l G X own cc nL d ret κ T σ pc' lv (.null :: st)) : V l G X own cc nL d ret κ T σ pc lv (st) := by
  subst hp
  intro C H locs ls I
  exact lv_null C.1 C.2.1 hd (k C H locs ls I)
theorem Vload_n {i : Fin 4} {x : Int32} (hd : decode cc pc = .ok (.iload_n i, 1)) (j : Nat) (hj : lv[j]? = some ((i : Nat), .int x)) (pc' : Nat) (hp : pc' = pc + 1) (k : V l G X own cc nL d ret κ T σ pc' lv (.int x :: st)) : V l G X own cc nL d ret κ T σ pc lv (st) := by
  subst hp
  intro C H locs ls I
  exact lv_iload_n C.1 C.2.1 hd rfl (lv_at I.2.2.2 j hj) (k C H locs ls I)
theorem Vload {i : Nat} {x : Int32} (hd : decode cc pc = .ok (.iload i, 2)) (j : Nat) (hj : lv[j]? = some (i, .int x)) (pc' : Nat) (hp : pc' = pc + 2) (k : V l G X own cc nL d ret κ T σ pc' lv (.int x :: st)) : V l G X own cc nL d ret κ T σ pc lv (st) := by
  subst hp
  intro C H locs ls I
  exact lv_iload C.1 C.2.1 hd (lv_at I.2.2.2 j hj) (k C H locs ls I)
theorem Vaload_n {i : Fin 4} {x : Nat} (hd : decode cc pc = .ok (.aload_n i, 1)) (j : Nat) (hj : lv[j]? = some ((i : Nat), .ref x)) (pc' : Nat) (hp : pc' = pc + 1) (k : V l G X own cc nL d ret κ T σ pc' lv (.ref x :: st)) : V l G X own cc nL d ret κ T σ pc lv (st) := by
  subst hp
  intro C H locs ls I
  exact lv_aload_n C.1 C.2.1 hd rfl (lv_at I.2.2.2 j hj) (k C H locs ls I)
theorem Vaload {i : Nat} {x : Nat} (hd : decode cc pc = .ok (.aload i, 2)) (j : Nat) (hj : lv[j]? = some (i, .ref x)) (pc' : Nat) (hp : pc' = pc + 2) (k : V l G X own cc nL d ret κ T σ pc' lv (.ref x :: st)) : V l G X own cc nL d ret κ T σ pc lv (st) := by
  subst hp
  intro C H locs ls I
  exact lv_aload C.1 C.2.1 hd (lv_at I.2.2.2 j hj) (k C H locs ls I)
theorem Vaload_nN {i : Fin 4} (hd : decode cc pc = .ok (.aload_n i, 1)) (j : Nat) (hj : lv[j]? = some ((i : Nat), .null)) (pc' : Nat) (hp : pc' = pc + 1) (k : V l G X own cc nL d ret κ T σ pc' lv (.null :: st)) : V l G X own cc nL d ret κ T σ pc lv (st) := by
  subst hp
  intro C H locs ls I
  exact lv_aload_nN C.1 C.2.1 hd rfl (lv_at I.2.2.2 j hj) (k C H locs ls I)
theorem ValoadN {i : Nat} (hd : decode cc pc = .ok (.aload i, 2)) (j : Nat) (hj : lv[j]? = some (i, .null)) (pc' : Nat) (hp : pc' = pc + 2) (k : V l G X own cc nL d ret κ T σ pc' lv (.null :: st)) : V l G X own cc nL d ret κ T σ pc lv (st) := by
  subst hp
  intro C H locs ls I
  exact lv_aloadN C.1 C.2.1 hd (lv_at I.2.2.2 j hj) (k C H locs ls I)
theorem Vstore_n {i : Fin 4} {x : Int32} (hd : decode cc pc = .ok (.istore_n i, 1)) (lv' : List (Nat × Value)) (pc' : Nat) (hp : pc' = pc + 1) (hn : (i : Nat) < nL) (hl : ((i : Nat), .int x) :: lv.filter (fun q => !(q.1 == (i : Nat)) && !(q.1 + 1 == (i : Nat) && q.2.category == 2)) = lv') (k : V l G X own cc nL d ret κ T σ pc' lv' st) : V l G X own cc nL d ret κ T σ pc lv (.int x :: st) := by
  subst hp
  intro C H locs ls I
  exact lv_istore_n C.1 C.2.1 hd rfl I.2.2.2 hn hl (fun ls1 h1 => k C H locs ls1 ⟨I.1, I.2.1, I.2.2.1, h1⟩)
theorem Vstore {i : Nat} {x : Int32} (hd : decode cc pc = .ok (.istore i, 2)) (lv' : List (Nat × Value)) (pc' : Nat) (hp : pc' = pc + 2) (hn : (i : Nat) < nL) (hl : ((i : Nat), .int x) :: lv.filter (fun q => !(q.1 == (i : Nat)) && !(q.1 + 1 == (i : Nat) && q.2.category == 2)) = lv') (k : V l G X own cc nL d ret κ T σ pc' lv' st) : V l G X own cc nL d ret κ T σ pc lv (.int x :: st) := by
  subst hp
  intro C H locs ls I
  exact lv_istore C.1 C.2.1 hd I.2.2.2 hn hl (fun ls1 h1 => k C H locs ls1 ⟨I.1, I.2.1, I.2.2.1, h1⟩)
theorem Vastore_n {i : Fin 4} {x : Nat} (hd : decode cc pc = .ok (.astore_n i, 1)) (lv' : List (Nat × Value)) (pc' : Nat) (hp : pc' = pc + 1) (hn : (i : Nat) < nL) (hl : ((i : Nat), .ref x) :: lv.filter (fun q => !(q.1 == (i : Nat)) && !(q.1 + 1 == (i : Nat) && q.2.category == 2)) = lv') (k : V l G X own cc nL d ret κ T σ pc' lv' st) : V l G X own cc nL d ret κ T σ pc lv (.ref x :: st) := by
  subst hp
  intro C H locs ls I
  exact lv_astore_n C.1 C.2.1 hd rfl I.2.2.2 hn hl (fun ls1 h1 => k C H locs ls1 ⟨I.1, I.2.1, I.2.2.1, h1⟩)
theorem Vastore {i : Nat} {x : Nat} (hd : decode cc pc = .ok (.astore i, 2)) (lv' : List (Nat × Value)) (pc' : Nat) (hp : pc' = pc + 2) (hn : (i : Nat) < nL) (hl : ((i : Nat), .ref x) :: lv.filter (fun q => !(q.1 == (i : Nat)) && !(q.1 + 1 == (i : Nat) && q.2.category == 2)) = lv') (k : V l G X own cc nL d ret κ T σ pc' lv' st) : V l G X own cc nL d ret κ T σ pc lv (.ref x :: st) := by
  subst hp
  intro C H locs ls I
  exact lv_astore C.1 C.2.1 hd I.2.2.2 hn hl (fun ls1 h1 => k C H locs ls1 ⟨I.1, I.2.1, I.2.2.1, h1⟩)
theorem Vastore_nN {i : Fin 4} (hd : decode cc pc = .ok (.astore_n i, 1)) (lv' : List (Nat × Value)) (pc' : Nat) (hp : pc' = pc + 1) (hn : (i : Nat) < nL) (hl : ((i : Nat), .null) :: lv.filter (fun q => !(q.1 == (i : Nat)) && !(q.1 + 1 == (i : Nat) && q.2.category == 2)) = lv') (k : V l G X own cc nL d ret κ T σ pc' lv' st) : V l G X own cc nL d ret κ T σ pc lv (.null :: st) := by
  subst hp
  intro C H locs ls I
  exact lv_astore_nN C.1 C.2.1 hd rfl I.2.2.2 hn hl (fun ls1 h1 => k C H locs ls1 ⟨I.1, I.2.1, I.2.2.1, h1⟩)
theorem VastoreN {i : Nat} (hd : decode cc pc = .ok (.astore i, 2)) (lv' : List (Nat × Value)) (pc' : Nat) (hp : pc' = pc + 2) (hn : (i : Nat) < nL) (hl : ((i : Nat), .null) :: lv.filter (fun q => !(q.1 == (i : Nat)) && !(q.1 + 1 == (i : Nat) && q.2.category == 2)) = lv') (k : V l G X own cc nL d ret κ T σ pc' lv' st) : V l G X own cc nL d ret κ T σ pc lv (.null :: st) := by
  subst hp
  intro C H locs ls I
  exact lv_astoreN C.1 C.2.1 hd I.2.2.2 hn hl (fun ls1 h1 => k C H locs ls1 ⟨I.1, I.2.1, I.2.2.1, h1⟩)
theorem Viinc {i : Nat} {n : Int} {x : Int32} (hd : decode cc pc = .ok (.iinc i n, 3)) (v : Int32) (j : Nat) (lv' : List (Nat × Value)) (pc' : Nat) (hp : pc' = pc + 3) (hk : lv[j]? = some (i, .int x)) (hv : x + Int32.ofInt n = v) (hn : i < nL) (hl : (i, Value.int v) :: lv.filter (fun q => !(q.1 == i) && !(q.1 + 1 == i && q.2.category == 2)) = lv') (k : V l G X own cc nL d ret κ T σ pc' lv' st) : V l G X own cc nL d ret κ T σ pc lv st := by
  subst hp
  intro C H locs ls I
  exact lv_iinc C.1 C.2.1 hd I.2.2.2 hk hv hn hl (fun ls1 h1 => k C H locs ls1 ⟨I.1, I.2.1, I.2.2.1, h1⟩)
theorem Viadd {x y : Int32} (hd : decode cc pc = .ok (.iadd, 1)) (pc' : Nat) (hp : pc' = pc + 1) (k : V l G X own cc nL d ret κ T σ pc' lv (.int (x + y) :: st)) : V l G X own cc nL d ret κ T σ pc lv (.int y :: .int x :: st) := by
  subst hp
  intro C H locs ls I
  exact lv_iadd C.1 C.2.1 hd (k C H locs ls I)
theorem Visub {x y : Int32} (hd : decode cc pc = .ok (.isub, 1)) (pc' : Nat) (hp : pc' = pc + 1) (k : V l G X own cc nL d ret κ T σ pc' lv (.int (x - y) :: st)) : V l G X own cc nL d ret κ T σ pc lv (.int y :: .int x :: st) := by
  subst hp
  intro C H locs ls I
  exact lv_isub C.1 C.2.1 hd (k C H locs ls I)
theorem Vimul {x y : Int32} (hd : decode cc pc = .ok (.imul, 1)) (pc' : Nat) (hp : pc' = pc + 1) (k : V l G X own cc nL d ret κ T σ pc' lv (.int (x * y) :: st)) : V l G X own cc nL d ret κ T σ pc lv (.int y :: .int x :: st) := by
  subst hp
  intro C H locs ls I
  exact lv_imul C.1 C.2.1 hd (k C H locs ls I)
theorem Viand {x y : Int32} (hd : decode cc pc = .ok (.iand, 1)) (pc' : Nat) (hp : pc' = pc + 1) (k : V l G X own cc nL d ret κ T σ pc' lv (.int (x &&& y) :: st)) : V l G X own cc nL d ret κ T σ pc lv (.int y :: .int x :: st) := by
  subst hp
  intro C H locs ls I
  exact lv_iand C.1 C.2.1 hd (k C H locs ls I)
theorem Vidiv {x y : Int32} (hd : decode cc pc = .ok (.idiv, 1)) (hne : ¬ y = 0) (pc' : Nat) (hp : pc' = pc + 1) (k : V l G X own cc nL d ret κ T σ pc' lv (.int (x / y) :: st)) : V l G X own cc nL d ret κ T σ pc lv (.int y :: .int x :: st) := by
  subst hp
  intro C H locs ls I
  exact lv_idiv C.1 C.2.1 hd hne (k C H locs ls I)
theorem Virem {x y : Int32} (hd : decode cc pc = .ok (.irem, 1)) (hne : ¬ y = 0) (pc' : Nat) (hp : pc' = pc + 1) (k : V l G X own cc nL d ret κ T σ pc' lv (.int (x - x / y * y) :: st)) : V l G X own cc nL d ret κ T σ pc lv (.int y :: .int x :: st) := by
  subst hp
  intro C H locs ls I
  exact lv_irem C.1 C.2.1 hd hne (k C H locs ls I)
theorem Viushr {x y : Int32} (hd : decode cc pc = .ok (.iushr, 1)) (pc' : Nat) (hp : pc' = pc + 1) (k : V l G X own cc nL d ret κ T σ pc' lv (.int ((x.toUInt32 >>> (y.toUInt32 &&& Int32.toUInt32 31)).toInt32) :: st)) : V l G X own cc nL d ret κ T σ pc lv (.int y :: .int x :: st) := by
  subst hp
  intro C H locs ls I
  exact lv_iushr C.1 C.2.1 hd rfl (k C H locs ls I)
theorem Vdupi {x : Int32} (hd : decode cc pc = .ok (.dup, 1)) (pc' : Nat) (hp : pc' = pc + 1) (k : V l G X own cc nL d ret κ T σ pc' lv (.int x :: .int x :: st)) : V l G X own cc nL d ret κ T σ pc lv (.int x :: st) := by
  subst hp
  intro C H locs ls I
  exact lv_dup C.1 C.2.1 hd rfl (k C H locs ls I)
theorem Vdupa {x : Nat} (hd : decode cc pc = .ok (.dup, 1)) (pc' : Nat) (hp : pc' = pc + 1) (k : V l G X own cc nL d ret κ T σ pc' lv (.ref x :: .ref x :: st)) : V l G X own cc nL d ret κ T σ pc lv (.ref x :: st) := by
  subst hp
  intro C H locs ls I
  exact lv_dup C.1 C.2.1 hd rfl (k C H locs ls I)
theorem Vdup2 {x : Nat} {i : Int32} (hd : decode cc pc = .ok (.dup2, 1)) (pc' : Nat) (hp : pc' = pc + 1) (k : V l G X own cc nL d ret κ T σ pc' lv (.int i :: .ref x :: .int i :: .ref x :: st)) : V l G X own cc nL d ret κ T σ pc lv (.int i :: .ref x :: st) := by
  subst hp
  intro C H locs ls I
  exact lv_dup2_11 C.1 C.2.1 hd rfl rfl (k C H locs ls I)
theorem Vifeq {x : Int32} {off : Int} {α : Type} (g : α → Int32 × mS) {a1 a2 : α} (hd : decode cc pc = .ok (.ifCond .eq off, 3)) (tgt pc' : Nat) (ht : (pc : Int) + off = (tgt : Int)) (hp : pc' = pc + 3) (kt : x = 0 → V l G X own cc nL d ret κ (g a1) σ tgt lv st) (kf : ¬ x = 0 → V l G X own cc nL d ret κ (g a2) σ pc' lv st) : V l G X own cc nL d ret κ (g (if x = 0 then a1 else a2)) σ pc lv (.int x :: st) := by
  subst hp
  intro C H locs ls I
  refine lv_if_eq C.1 C.2.1 hd ht (fun h => ?_) (fun h => ?_)
  · rw [if_pos h]; exact kt h C H locs ls I
  · rw [if_neg h]; exact kf h C H locs ls I
theorem Kifeqt {x : Int32} {off : Int} (hd : decode cc pc = .ok (.ifCond .eq off, 3)) (tgt : Nat) (ht : (pc : Int) + off = (tgt : Int)) (hc : x = 0) (k : V l G X own cc nL d ret κ T σ tgt lv st) : V l G X own cc nL d ret κ T σ pc lv (.int x :: st) := by
  intro C H locs ls I
  exact lv_if_eq C.1 C.2.1 hd ht (fun _ => k C H locs ls I) (fun h => False.elim (h hc))
theorem Kifeqf {x : Int32} {off : Int} (hd : decode cc pc = .ok (.ifCond .eq off, 3)) (pc' : Nat) (hc : ¬ x = 0) (hp : pc' = pc + 3) (tgt : Nat) (ht : (pc : Int) + off = (tgt : Int)) (k : V l G X own cc nL d ret κ T σ pc' lv st) : V l G X own cc nL d ret κ T σ pc lv (.int x :: st) := by
  subst hp
  intro C H locs ls I
  exact lv_if_eq C.1 C.2.1 hd ht (fun h => False.elim (hc h)) (fun _ => k C H locs ls I)
theorem Vifne {x : Int32} {off : Int} {α : Type} (g : α → Int32 × mS) {a1 a2 : α} (hd : decode cc pc = .ok (.ifCond .ne off, 3)) (tgt pc' : Nat) (ht : (pc : Int) + off = (tgt : Int)) (hp : pc' = pc + 3) (kt : ¬ x = 0 → V l G X own cc nL d ret κ (g a2) σ tgt lv st) (kf : x = 0 → V l G X own cc nL d ret κ (g a1) σ pc' lv st) : V l G X own cc nL d ret κ (g (if x = 0 then a1 else a2)) σ pc lv (.int x :: st) := by
  subst hp
  intro C H locs ls I
  refine lv_if_ne C.1 C.2.1 hd ht (fun h => ?_) (fun h => ?_)
  · rw [if_neg h]; exact kt h C H locs ls I
  · rw [if_pos h]; exact kf h C H locs ls I
theorem Kifnet {x : Int32} {off : Int} (hd : decode cc pc = .ok (.ifCond .ne off, 3)) (tgt : Nat) (ht : (pc : Int) + off = (tgt : Int)) (hc : ¬ x = 0) (k : V l G X own cc nL d ret κ T σ tgt lv st) : V l G X own cc nL d ret κ T σ pc lv (.int x :: st) := by
  intro C H locs ls I
  exact lv_if_ne C.1 C.2.1 hd ht (fun _ => k C H locs ls I) (fun h => False.elim (hc h))
theorem Kifnef {x : Int32} {off : Int} (hd : decode cc pc = .ok (.ifCond .ne off, 3)) (pc' : Nat) (hc : x = 0) (hp : pc' = pc + 3) (tgt : Nat) (ht : (pc : Int) + off = (tgt : Int)) (k : V l G X own cc nL d ret κ T σ pc' lv st) : V l G X own cc nL d ret κ T σ pc lv (.int x :: st) := by
  subst hp
  intro C H locs ls I
  exact lv_if_ne C.1 C.2.1 hd ht (fun h => False.elim (h hc)) (fun _ => k C H locs ls I)
theorem Viflt {x : Int32} {off : Int} {α : Type} (g : α → Int32 × mS) {a1 a2 : α} (hd : decode cc pc = .ok (.ifCond .lt off, 3)) (tgt pc' : Nat) (ht : (pc : Int) + off = (tgt : Int)) (hp : pc' = pc + 3) (kt : x < 0 → V l G X own cc nL d ret κ (g a1) σ tgt lv st) (kf : ¬ x < 0 → V l G X own cc nL d ret κ (g a2) σ pc' lv st) : V l G X own cc nL d ret κ (g (if x < 0 then a1 else a2)) σ pc lv (.int x :: st) := by
  subst hp
  intro C H locs ls I
  refine lv_if_lt C.1 C.2.1 hd ht (fun h => ?_) (fun h => ?_)
  · rw [if_pos h]; exact kt h C H locs ls I
  · rw [if_neg h]; exact kf h C H locs ls I
theorem Kifltt {x : Int32} {off : Int} (hd : decode cc pc = .ok (.ifCond .lt off, 3)) (tgt : Nat) (ht : (pc : Int) + off = (tgt : Int)) (hc : x < 0) (k : V l G X own cc nL d ret κ T σ tgt lv st) : V l G X own cc nL d ret κ T σ pc lv (.int x :: st) := by
  intro C H locs ls I
  exact lv_if_lt C.1 C.2.1 hd ht (fun _ => k C H locs ls I) (fun h => False.elim (h hc))
theorem Kifltf {x : Int32} {off : Int} (hd : decode cc pc = .ok (.ifCond .lt off, 3)) (pc' : Nat) (hc : ¬ x < 0) (hp : pc' = pc + 3) (tgt : Nat) (ht : (pc : Int) + off = (tgt : Int)) (k : V l G X own cc nL d ret κ T σ pc' lv st) : V l G X own cc nL d ret κ T σ pc lv (.int x :: st) := by
  subst hp
  intro C H locs ls I
  exact lv_if_lt C.1 C.2.1 hd ht (fun h => False.elim (hc h)) (fun _ => k C H locs ls I)
theorem Vifge {x : Int32} {off : Int} {α : Type} (g : α → Int32 × mS) {a1 a2 : α} (hd : decode cc pc = .ok (.ifCond .ge off, 3)) (tgt pc' : Nat) (ht : (pc : Int) + off = (tgt : Int)) (hp : pc' = pc + 3) (kt : 0 ≤ x → V l G X own cc nL d ret κ (g a1) σ tgt lv st) (kf : ¬ 0 ≤ x → V l G X own cc nL d ret κ (g a2) σ pc' lv st) : V l G X own cc nL d ret κ (g (if 0 ≤ x then a1 else a2)) σ pc lv (.int x :: st) := by
  subst hp
  intro C H locs ls I
  refine lv_if_ge C.1 C.2.1 hd ht (fun h => ?_) (fun h => ?_)
  · rw [if_pos h]; exact kt h C H locs ls I
  · rw [if_neg h]; exact kf h C H locs ls I
theorem Kifget {x : Int32} {off : Int} (hd : decode cc pc = .ok (.ifCond .ge off, 3)) (tgt : Nat) (ht : (pc : Int) + off = (tgt : Int)) (hc : 0 ≤ x) (k : V l G X own cc nL d ret κ T σ tgt lv st) : V l G X own cc nL d ret κ T σ pc lv (.int x :: st) := by
  intro C H locs ls I
  exact lv_if_ge C.1 C.2.1 hd ht (fun _ => k C H locs ls I) (fun h => False.elim (h hc))
theorem Kifgef {x : Int32} {off : Int} (hd : decode cc pc = .ok (.ifCond .ge off, 3)) (pc' : Nat) (hc : ¬ 0 ≤ x) (hp : pc' = pc + 3) (tgt : Nat) (ht : (pc : Int) + off = (tgt : Int)) (k : V l G X own cc nL d ret κ T σ pc' lv st) : V l G X own cc nL d ret κ T σ pc lv (.int x :: st) := by
  subst hp
  intro C H locs ls I
  exact lv_if_ge C.1 C.2.1 hd ht (fun h => False.elim (hc h)) (fun _ => k C H locs ls I)
theorem Vifle {x : Int32} {off : Int} {α : Type} (g : α → Int32 × mS) {a1 a2 : α} (hd : decode cc pc = .ok (.ifCond .le off, 3)) (tgt pc' : Nat) (ht : (pc : Int) + off = (tgt : Int)) (hp : pc' = pc + 3) (kt : x ≤ 0 → V l G X own cc nL d ret κ (g a1) σ tgt lv st) (kf : ¬ x ≤ 0 → V l G X own cc nL d ret κ (g a2) σ pc' lv st) : V l G X own cc nL d ret κ (g (if x ≤ 0 then a1 else a2)) σ pc lv (.int x :: st) := by
  subst hp
  intro C H locs ls I
  refine lv_if_le C.1 C.2.1 hd ht (fun h => ?_) (fun h => ?_)
  · rw [if_pos h]; exact kt h C H locs ls I
  · rw [if_neg h]; exact kf h C H locs ls I
theorem Kiflet {x : Int32} {off : Int} (hd : decode cc pc = .ok (.ifCond .le off, 3)) (tgt : Nat) (ht : (pc : Int) + off = (tgt : Int)) (hc : x ≤ 0) (k : V l G X own cc nL d ret κ T σ tgt lv st) : V l G X own cc nL d ret κ T σ pc lv (.int x :: st) := by
  intro C H locs ls I
  exact lv_if_le C.1 C.2.1 hd ht (fun _ => k C H locs ls I) (fun h => False.elim (h hc))
theorem Kiflef {x : Int32} {off : Int} (hd : decode cc pc = .ok (.ifCond .le off, 3)) (pc' : Nat) (hc : ¬ x ≤ 0) (hp : pc' = pc + 3) (tgt : Nat) (ht : (pc : Int) + off = (tgt : Int)) (k : V l G X own cc nL d ret κ T σ pc' lv st) : V l G X own cc nL d ret κ T σ pc lv (.int x :: st) := by
  subst hp
  intro C H locs ls I
  exact lv_if_le C.1 C.2.1 hd ht (fun h => False.elim (hc h)) (fun _ => k C H locs ls I)
theorem Viceq {x y : Int32} {off : Int} {α : Type} (g : α → Int32 × mS) {a1 a2 : α} (hd : decode cc pc = .ok (.if_icmp .eq off, 3)) (tgt pc' : Nat) (ht : (pc : Int) + off = (tgt : Int)) (hp : pc' = pc + 3) (kt : x = y → V l G X own cc nL d ret κ (g a1) σ tgt lv st) (kf : ¬ x = y → V l G X own cc nL d ret κ (g a2) σ pc' lv st) : V l G X own cc nL d ret κ (g (if x = y then a1 else a2)) σ pc lv (.int y :: .int x :: st) := by
  subst hp
  intro C H locs ls I
  refine lv_icmp_eq C.1 C.2.1 hd ht (fun h => ?_) (fun h => ?_)
  · rw [if_pos h]; exact kt h C H locs ls I
  · rw [if_neg h]; exact kf h C H locs ls I
theorem Kiceqt {x y : Int32} {off : Int} (hd : decode cc pc = .ok (.if_icmp .eq off, 3)) (tgt : Nat) (ht : (pc : Int) + off = (tgt : Int)) (hc : x = y) (k : V l G X own cc nL d ret κ T σ tgt lv st) : V l G X own cc nL d ret κ T σ pc lv (.int y :: .int x :: st) := by
  intro C H locs ls I
  exact lv_icmp_eq C.1 C.2.1 hd ht (fun _ => k C H locs ls I) (fun h => False.elim (h hc))
theorem Kiceqf {x y : Int32} {off : Int} (hd : decode cc pc = .ok (.if_icmp .eq off, 3)) (pc' : Nat) (hc : ¬ x = y) (hp : pc' = pc + 3) (tgt : Nat) (ht : (pc : Int) + off = (tgt : Int)) (k : V l G X own cc nL d ret κ T σ pc' lv st) : V l G X own cc nL d ret κ T σ pc lv (.int y :: .int x :: st) := by
  subst hp
  intro C H locs ls I
  exact lv_icmp_eq C.1 C.2.1 hd ht (fun h => False.elim (hc h)) (fun _ => k C H locs ls I)
theorem Vicne {x y : Int32} {off : Int} {α : Type} (g : α → Int32 × mS) {a1 a2 : α} (hd : decode cc pc = .ok (.if_icmp .ne off, 3)) (tgt pc' : Nat) (ht : (pc : Int) + off = (tgt : Int)) (hp : pc' = pc + 3) (kt : ¬ x = y → V l G X own cc nL d ret κ (g a2) σ tgt lv st) (kf : x = y → V l G X own cc nL d ret κ (g a1) σ pc' lv st) : V l G X own cc nL d ret κ (g (if x = y then a1 else a2)) σ pc lv (.int y :: .int x :: st) := by
  subst hp
  intro C H locs ls I
  refine lv_icmp_ne C.1 C.2.1 hd ht (fun h => ?_) (fun h => ?_)
  · rw [if_neg h]; exact kt h C H locs ls I
  · rw [if_pos h]; exact kf h C H locs ls I
theorem Kicnet {x y : Int32} {off : Int} (hd : decode cc pc = .ok (.if_icmp .ne off, 3)) (tgt : Nat) (ht : (pc : Int) + off = (tgt : Int)) (hc : ¬ x = y) (k : V l G X own cc nL d ret κ T σ tgt lv st) : V l G X own cc nL d ret κ T σ pc lv (.int y :: .int x :: st) := by
  intro C H locs ls I
  exact lv_icmp_ne C.1 C.2.1 hd ht (fun _ => k C H locs ls I) (fun h => False.elim (hc h))
theorem Kicnef {x y : Int32} {off : Int} (hd : decode cc pc = .ok (.if_icmp .ne off, 3)) (pc' : Nat) (hc : x = y) (hp : pc' = pc + 3) (tgt : Nat) (ht : (pc : Int) + off = (tgt : Int)) (k : V l G X own cc nL d ret κ T σ pc' lv st) : V l G X own cc nL d ret κ T σ pc lv (.int y :: .int x :: st) := by
  subst hp
  intro C H locs ls I
  exact lv_icmp_ne C.1 C.2.1 hd ht (fun h => False.elim (h hc)) (fun _ => k C H locs ls I)
theorem Viclt {x y : Int32} {off : Int} {α : Type} (g : α → Int32 × mS) {a1 a2 : α} (hd : decode cc pc = .ok (.if_icmp .lt off, 3)) (tgt pc' : Nat) (ht : (pc : Int) + off = (tgt : Int)) (hp : pc' = pc + 3) (kt : x < y → V l G X own cc nL d ret κ (g a1) σ tgt lv st) (kf : ¬ x < y → V l G X own cc nL d ret κ (g a2) σ pc' lv st) : V l G X own cc nL d ret κ (g (if x < y then a1 else a2)) σ pc lv (.int y :: .int x :: st) := by
  subst hp
  intro C H locs ls I
  refine lv_icmp_lt C.1 C.2.1 hd ht (fun h => ?_) (fun h => ?_)
  · rw [if_pos h]; exact kt h C H locs ls I
  · rw [if_neg h]; exact kf h C H locs ls I
theorem Kicltt {x y : Int32} {off : Int} (hd : decode cc pc = .ok (.if_icmp .lt off, 3)) (tgt : Nat) (ht : (pc : Int) + off = (tgt : Int)) (hc : x < y) (k : V l G X own cc nL d ret κ T σ tgt lv st) : V l G X own cc nL d ret κ T σ pc lv (.int y :: .int x :: st) := by
  intro C H locs ls I
  exact lv_icmp_lt C.1 C.2.1 hd ht (fun _ => k C H locs ls I) (fun h => False.elim (h hc))
theorem Kicltf {x y : Int32} {off : Int} (hd : decode cc pc = .ok (.if_icmp .lt off, 3)) (pc' : Nat) (hc : ¬ x < y) (hp : pc' = pc + 3) (tgt : Nat) (ht : (pc : Int) + off = (tgt : Int)) (k : V l G X own cc nL d ret κ T σ pc' lv st) : V l G X own cc nL d ret κ T σ pc lv (.int y :: .int x :: st) := by
  subst hp
  intro C H locs ls I
  exact lv_icmp_lt C.1 C.2.1 hd ht (fun h => False.elim (hc h)) (fun _ => k C H locs ls I)
theorem Vicge {x y : Int32} {off : Int} {α : Type} (g : α → Int32 × mS) {a1 a2 : α} (hd : decode cc pc = .ok (.if_icmp .ge off, 3)) (tgt pc' : Nat) (ht : (pc : Int) + off = (tgt : Int)) (hp : pc' = pc + 3) (kt : y ≤ x → V l G X own cc nL d ret κ (g a1) σ tgt lv st) (kf : ¬ y ≤ x → V l G X own cc nL d ret κ (g a2) σ pc' lv st) : V l G X own cc nL d ret κ (g (if y ≤ x then a1 else a2)) σ pc lv (.int y :: .int x :: st) := by
  subst hp
  intro C H locs ls I
  refine lv_icmp_ge C.1 C.2.1 hd ht (fun h => ?_) (fun h => ?_)
  · rw [if_pos h]; exact kt h C H locs ls I
  · rw [if_neg h]; exact kf h C H locs ls I
theorem Kicget {x y : Int32} {off : Int} (hd : decode cc pc = .ok (.if_icmp .ge off, 3)) (tgt : Nat) (ht : (pc : Int) + off = (tgt : Int)) (hc : y ≤ x) (k : V l G X own cc nL d ret κ T σ tgt lv st) : V l G X own cc nL d ret κ T σ pc lv (.int y :: .int x :: st) := by
  intro C H locs ls I
  exact lv_icmp_ge C.1 C.2.1 hd ht (fun _ => k C H locs ls I) (fun h => False.elim (h hc))
theorem Kicgef {x y : Int32} {off : Int} (hd : decode cc pc = .ok (.if_icmp .ge off, 3)) (pc' : Nat) (hc : ¬ y ≤ x) (hp : pc' = pc + 3) (tgt : Nat) (ht : (pc : Int) + off = (tgt : Int)) (k : V l G X own cc nL d ret κ T σ pc' lv st) : V l G X own cc nL d ret κ T σ pc lv (.int y :: .int x :: st) := by
  subst hp
  intro C H locs ls I
  exact lv_icmp_ge C.1 C.2.1 hd ht (fun h => False.elim (hc h)) (fun _ => k C H locs ls I)
theorem Vicgt {x y : Int32} {off : Int} {α : Type} (g : α → Int32 × mS) {a1 a2 : α} (hd : decode cc pc = .ok (.if_icmp .gt off, 3)) (tgt pc' : Nat) (ht : (pc : Int) + off = (tgt : Int)) (hp : pc' = pc + 3) (kt : y < x → V l G X own cc nL d ret κ (g a1) σ tgt lv st) (kf : ¬ y < x → V l G X own cc nL d ret κ (g a2) σ pc' lv st) : V l G X own cc nL d ret κ (g (if y < x then a1 else a2)) σ pc lv (.int y :: .int x :: st) := by
  subst hp
  intro C H locs ls I
  refine lv_icmp_gt C.1 C.2.1 hd ht (fun h => ?_) (fun h => ?_)
  · rw [if_pos h]; exact kt h C H locs ls I
  · rw [if_neg h]; exact kf h C H locs ls I
theorem Kicgtt {x y : Int32} {off : Int} (hd : decode cc pc = .ok (.if_icmp .gt off, 3)) (tgt : Nat) (ht : (pc : Int) + off = (tgt : Int)) (hc : y < x) (k : V l G X own cc nL d ret κ T σ tgt lv st) : V l G X own cc nL d ret κ T σ pc lv (.int y :: .int x :: st) := by
  intro C H locs ls I
  exact lv_icmp_gt C.1 C.2.1 hd ht (fun _ => k C H locs ls I) (fun h => False.elim (h hc))
theorem Kicgtf {x y : Int32} {off : Int} (hd : decode cc pc = .ok (.if_icmp .gt off, 3)) (pc' : Nat) (hc : ¬ y < x) (hp : pc' = pc + 3) (tgt : Nat) (ht : (pc : Int) + off = (tgt : Int)) (k : V l G X own cc nL d ret κ T σ pc' lv st) : V l G X own cc nL d ret κ T σ pc lv (.int y :: .int x :: st) := by
  subst hp
  intro C H locs ls I
  exact lv_icmp_gt C.1 C.2.1 hd ht (fun h => False.elim (hc h)) (fun _ => k C H locs ls I)
theorem Vicle {x y : Int32} {off : Int} {α : Type} (g : α → Int32 × mS) {a1 a2 : α} (hd : decode cc pc = .ok (.if_icmp .le off, 3)) (tgt pc' : Nat) (ht : (pc : Int) + off = (tgt : Int)) (hp : pc' = pc + 3) (kt : x ≤ y → V l G X own cc nL d ret κ (g a1) σ tgt lv st) (kf : ¬ x ≤ y → V l G X own cc nL d ret κ (g a2) σ pc' lv st) : V l G X own cc nL d ret κ (g (if x ≤ y then a1 else a2)) σ pc lv (.int y :: .int x :: st) := by
  subst hp
  intro C H locs ls I
  refine lv_icmp_le C.1 C.2.1 hd ht (fun h => ?_) (fun h => ?_)
  · rw [if_pos h]; exact kt h C H locs ls I
  · rw [if_neg h]; exact kf h C H locs ls I
theorem Kiclet {x y : Int32} {off : Int} (hd : decode cc pc = .ok (.if_icmp .le off, 3)) (tgt : Nat) (ht : (pc : Int) + off = (tgt : Int)) (hc : x ≤ y) (k : V l G X own cc nL d ret κ T σ tgt lv st) : V l G X own cc nL d ret κ T σ pc lv (.int y :: .int x :: st) := by
  intro C H locs ls I
  exact lv_icmp_le C.1 C.2.1 hd ht (fun _ => k C H locs ls I) (fun h => False.elim (h hc))
theorem Kiclef {x y : Int32} {off : Int} (hd : decode cc pc = .ok (.if_icmp .le off, 3)) (pc' : Nat) (hc : ¬ x ≤ y) (hp : pc' = pc + 3) (tgt : Nat) (ht : (pc : Int) + off = (tgt : Int)) (k : V l G X own cc nL d ret κ T σ pc' lv st) : V l G X own cc nL d ret κ T σ pc lv (.int y :: .int x :: st) := by
  subst hp
  intro C H locs ls I
  exact lv_icmp_le C.1 C.2.1 hd ht (fun h => False.elim (hc h)) (fun _ => k C H locs ls I)
theorem Vgoto {off : Int} (hd : decode cc pc = .ok (.goto off, 3)) (tgt : Nat) (ht : (pc : Int) + off = (tgt : Int)) (k : V l G X own cc nL d ret κ T σ tgt lv st) : V l G X own cc nL d ret κ T σ pc lv st := by
  intro C H locs ls I
  exact lv_goto C.1 C.2.1 hd ht (k C H locs ls I)
theorem Vifnull {off : Int} {x : Nat} (hd : decode cc pc = .ok (.ifnull off, 3)) (pc' : Nat) (hp : pc' = pc + 3) (k : V l G X own cc nL d ret κ T σ pc' lv st) : V l G X own cc nL d ret κ T σ pc lv (.ref x :: st) := by
  subst hp
  intro C H locs ls I
  exact lv_ifnull C.1 C.2.1 hd (k C H locs ls I)
theorem VifnullN {off : Int} (hd : decode cc pc = .ok (.ifnull off, 3)) (tgt : Nat) (ht : (pc : Int) + off = (tgt : Int)) (k : V l G X own cc nL d ret κ T σ tgt lv st) : V l G X own cc nL d ret κ T σ pc lv (.null :: st) := by
  intro C H locs ls I
  exact lv_ifnullN C.1 C.2.1 hd ht (k C H locs ls I)
theorem Vifnn {off : Int} {x : Nat} (hd : decode cc pc = .ok (.ifnonnull off, 3)) (tgt : Nat) (ht : (pc : Int) + off = (tgt : Int)) (k : V l G X own cc nL d ret κ T σ tgt lv st) : V l G X own cc nL d ret κ T σ pc lv (.ref x :: st) := by
  intro C H locs ls I
  exact lv_ifnonnull C.1 C.2.1 hd ht (k C H locs ls I)
theorem VifnnN {off : Int} (hd : decode cc pc = .ok (.ifnonnull off, 3)) (pc' : Nat) (hp : pc' = pc + 3) (k : V l G X own cc nL d ret κ T σ pc' lv st) : V l G X own cc nL d ret κ T σ pc lv (.null :: st) := by
  subst hp
  intro C H locs ls I
  exact lv_ifnonnullN C.1 C.2.1 hd (k C H locs ls I)
theorem Vswin {dflt lo hi : Int} {offs : Array Int} {len : Nat} {x : Int32} {off : Int} (hd : decode cc pc = .ok (.tableswitch dflt lo hi offs, len)) (tgt : Nat) (h1 : ¬ x.toInt < lo) (h2 : ¬ hi < x.toInt) (ho : offs[(x.toInt - lo).toNat]? = some off) (ht : (pc : Int) + off = (tgt : Int)) (k : V l G X own cc nL d ret κ T σ tgt lv st) : V l G X own cc nL d ret κ T σ pc lv (.int x :: st) := by
  intro C H locs ls I
  exact lv_tableIn C.1 C.2.1 hd h1 h2 ho ht (k C H locs ls I)
theorem Vswout {dflt lo hi : Int} {offs : Array Int} {len : Nat} {x : Int32} (hd : decode cc pc = .ok (.tableswitch dflt lo hi offs, len)) (tgt : Nat) (h : x.toInt < lo ∨ hi < x.toInt) (ht : (pc : Int) + dflt = (tgt : Int)) (k : V l G X own cc nL d ret κ T σ tgt lv st) : V l G X own cc nL d ret κ T σ pc lv (.int x :: st) := by
  intro C H locs ls I
  exact lv_tableOut C.1 C.2.1 hd h ht (k C H locs ls I)
theorem Vlv {lv' : List (Nat × Value)} (ks : List Nat) (h : lv_pick lv ks = lv') (k : V l G X own cc nL d ret κ T σ pc lv' st) : V l G X own cc nL d ret κ T σ pc lv st := by
  intro C H locs ls I
  exact k C H locs ls ⟨I.1, I.2.1, I.2.2.1, lv_sub I.2.2.2 ks h⟩
theorem Vap {α : Type} {B : α → Int32 × mS} {e : α} (k : V l G X own cc nL d ret κ (B e) σ pc lv st) : V l G X own cc nL d ret κ (ap B e) σ pc lv st := k
theorem Vgen {α : Type} {B : α → Int32 × mS} {e : α} (k : ∀ u : α, u = e → V l G X own cc nL d ret κ (B u) σ pc lv st) : V l G X own cc nL d ret κ (ap B e) σ pc lv st := k e rfl
theorem Vif {α : Type} (g : α → Int32 × mS) {a1 a2 : α} {c : Prop} {dc : Decidable c} (kt : c → V l G X own cc nL d ret κ (g a1) σ pc lv st) (kf : ¬ c → V l G X own cc nL d ret κ (g a2) σ pc lv st) : V l G X own cc nL d ret κ (g (@ite _ c dc a1 a2)) σ pc lv st := by
  by_cases h : c
  · rw [if_pos h]; exact kt h
  · rw [if_neg h]; exact kf h
theorem Vld {q n : Nat} {i : Int32} (hd : decode cc pc = .ok (.iaload, 1)) (pc' : Nat) (hp : pc' = pc + 1) (hq : q ∈ gI G) (hk : wK q = 0) (hn : wN q = n) (ht : (gY G)[0]? = some ((gC G).1, .int)) (hin : vp_in i n) (k : V l G X own cc nL d ret κ T σ pc' lv (.int (σ q i.toNatClampNeg) :: st)) : V l G X own cc nL d ret κ T σ pc lv (.int i :: .ref (ad G q) :: st) := by
  subst hp
  intro C H locs ls I
  obtain ⟨j, hj, hw⟩ := wD_at hq σ
  rw [wE_i hk hn] at hw
  exact va_iald C.1 C.2.1 C.2.2.2.2.2.1 I.1 j 0 hw ht hin hd (k C H locs ls I)
theorem Vst {q n : Nat} {i v : Int32} (hd : decode cc pc = .ok (.iastore, 1)) (pc' : Nat) (hp : pc' = pc + 1) (hq : q ∈ gI G) (hk : wK q = 0) (hn : wN q = n) (ht : (gY G)[0]? = some ((gC G).1, .int)) (hin : vp_in i n) (k : V l G X own cc nL d ret κ T (st2 σ q i.toNatClampNeg v) pc' lv st) : V l G X own cc nL d ret κ T σ pc lv (.int v :: .int i :: .ref (ad G q) :: st) := by
  subst hp
  intro C H locs ls I
  obtain ⟨j, hj, hw⟩ := wD_at hq σ
  rw [wE_i hk hn] at hw
  refine va_iast C.1 C.2.1 C.2.2.2.2.2.1 I.1 I.2.1 I.2.2.1 j 0 hw ht hin hd (fun H1 locs1 hP1 hD1 hS1 => ?_)
  rw [wD_set (σ' := st2 σ q i.toNatClampNeg v) I.2.1 hj (by rw [wE_i hk hn, st2_q]) (fun q' h => st2_nq h)] at hP1 hD1
  exact k C H1 locs1 ls ⟨hP1, hD1, hS1, I.2.2.2⟩
theorem Vldz {q n : Nat} {i : Int32} (hd : decode cc pc = .ok (.baload, 1)) (pc' : Nat) (hp : pc' = pc + 1) (hq : q ∈ gI G) (hk : wK q = 1) (hn : wN q = n) (ht : (gY G)[1]? = some ((gC G).2.1, .boolean)) (hin : vp_in i n) (k : V l G X own cc nL d ret κ T σ pc' lv (.int (σ q i.toNatClampNeg) :: st)) : V l G X own cc nL d ret κ T σ pc lv (.int i :: .ref (ad G q) :: st) := by
  subst hp
  intro C H locs ls I
  obtain ⟨j, hj, hw⟩ := wD_at hq σ
  rw [wE_z hk hn] at hw
  exact va_zald C.1 C.2.1 C.2.2.2.2.2.1 I.1 j 1 hw ht hin hd (k C H locs ls I)
theorem Vstz {q n : Nat} {i v : Int32} (hd : decode cc pc = .ok (.bastore, 1)) (pc' : Nat) (hp : pc' = pc + 1) (hq : q ∈ gI G) (hk : wK q = 1) (hn : wN q = n) (ht : (gY G)[1]? = some ((gC G).2.1, .boolean)) (hin : vp_in i n) (hv : vp_nar .boolean v = v) (k : V l G X own cc nL d ret κ T (st2 σ q i.toNatClampNeg v) pc' lv st) : V l G X own cc nL d ret κ T σ pc lv (.int v :: .int i :: .ref (ad G q) :: st) := by
  subst hp
  intro C H locs ls I
  obtain ⟨j, hj, hw⟩ := wD_at hq σ
  rw [wE_z hk hn] at hw
  refine va_zast C.1 C.2.1 C.2.2.2.2.2.1 I.1 I.2.1 I.2.2.1 j 1 hw ht hin hd (fun H1 locs1 hP1 hD1 hS1 => ?_)
  rw [wD_set (σ' := st2 σ q i.toNatClampNeg v) I.2.1 hj (by rw [wE_z hk hn, st2_q, hv]) (fun q' h => st2_nq h)] at hP1 hD1
  exact k C H1 locs1 ls ⟨hP1, hD1, hS1, I.2.2.2⟩
theorem Vlds {i : Int32} (hd : decode cc pc = .ok (.aaload, 1)) (pc' : Nat) (hp : pc' = pc + 1) (hq : 13 ∈ gI G) (ht : (gY G)[2]? = some ((gC G).2.2, .object "MutableCells$Strand")) (hin : vp_in i 3) (k : V l G X own cc nL d ret κ T σ pc' lv (.ref (ad G (14 + 13 * i.toNatClampNeg)) :: st)) : V l G X own cc nL d ret κ T σ pc lv (.int i :: .ref (ad G 13) :: st) := by
  subst hp
  intro C H locs ls I
  obtain ⟨j, hj, hw⟩ := wD_at hq σ
  rw [wE_s rfl] at hw
  exact va_aldq C.1 C.2.1 C.2.2.2.2.2.1 I.1 j 2 hw ht hin hd (k C H locs ls I)
theorem Vlen {q n : Nat} (hd : decode cc pc = .ok (.arraylength, 1)) (v : Int32) (pc' : Nat) (hp : pc' = pc + 1) (hq : q ∈ gI G) (hk : wK q = 0) (hn : wN q = n) (ht : (gY G)[0]? = some ((gC G).1, .int)) (hv : Int32.ofNat n = v) (k : V l G X own cc nL d ret κ T σ pc' lv (.int v :: st)) : V l G X own cc nL d ret κ T σ pc lv (.ref (ad G q) :: st) := by
  subst hp
  intro C H locs ls I
  obtain ⟨j, hj, hw⟩ := wD_at hq σ
  rw [wE_i hk hn] at hw
  exact va_alen C.1 C.2.1 C.2.2.2.2.2.1 I.1 j 0 hw ht hv hd (k C H locs ls I)
theorem Vlens (hd : decode cc pc = .ok (.arraylength, 1)) (pc' : Nat) (hp : pc' = pc + 1) (hq : 13 ∈ gI G) (ht : (gY G)[2]? = some ((gC G).2.2, .object "MutableCells$Strand")) (k : V l G X own cc nL d ret κ T σ pc' lv (.int 3 :: st)) : V l G X own cc nL d ret κ T σ pc lv (.ref (ad G 13) :: st) := by
  subst hp
  intro C H locs ls I
  obtain ⟨j, hj, hw⟩ := wD_at hq σ
  rw [wE_s rfl] at hw
  exact va_alen C.1 C.2.1 C.2.2.2.2.2.1 I.1 j 2 hw ht (v := 3) rfl hd (k C H locs ls I)
theorem Vget {C0 : String} {T0 : u_T} {N ci idx : Nat} (q k0 : Nat) {v : Value} (hd : decode cc pc = .ok (.getfield idx, 3)) (pc' : Nat) (hp : pc' = pc + 3) (hq : q ∈ gI G) (hk : wK q = ci + 3) (hcl : vwCl[ci]? = some (C0, T0, N)) (hin : ∀ w ∈ u_ws C0 T0 N, w ∈ lw_TB) (hkN : k0 < N) (hlink : Cond.fieldLink own idx (T0 k0).1 (T0 k0).2.1 (T0 k0).2.2.1 ∈ lw_TB) (hv : (oV ci (ad G) q (σ q))[k0]? = some v) (k : V l G X own cc nL d ret κ T σ pc' lv (v :: st)) : V l G X own cc nL d ret κ T σ pc lv (.ref (ad G q) :: st) := by
  subst hp
  intro C H locs ls I
  obtain ⟨j, hj, hw⟩ := wD_at hq σ
  rw [wE_o hk] at hw
  exact va_get C.1 C.2.1 C.2.2.2.2.1 hin C.2.2.2.1 C.2.2.2.2.2.1 I.1 j hw hcl k0 hkN (C.2.2.2.2.1 _ hlink) (fun _ h9 => h9) hv hd (k C H locs ls I)
theorem VgetN {C0 host : String} {T0 : u_T} {N ci idx : Nat} (q k0 : Nat) {v : Value} (hd : decode cc pc = .ok (.getfield idx, 3)) (pc' : Nat) (hp : pc' = pc + 3) (hq : q ∈ gI G) (hk : wK q = ci + 3) (hcl : vwCl[ci]? = some (C0, T0, N)) (hin : ∀ w ∈ u_ws C0 T0 N, w ∈ lw_TB) (hkN : k0 < N) (hlink : Cond.fieldLinkNest own idx (T0 k0).1 (T0 k0).2.1 (T0 k0).2.2.1 host ∈ lw_nest) (hv : (oV ci (ad G) q (σ q))[k0]? = some v) (k : V l G X own cc nL d ret κ T σ pc' lv (v :: st)) : V l G X own cc nL d ret κ T σ pc lv (.ref (ad G q) :: st) := by
  subst hp
  intro C H locs ls I
  obtain ⟨j, hj, hw⟩ := wD_at hq σ
  rw [wE_o hk] at hw
  exact va_getN C.1 C.2.1 C.2.2.2.2.1 hin C.2.2.2.1 C.2.2.2.2.2.1 I.1 j hw hcl k0 hkN (va_Nw.use rfl (C.2.2.2.2.2.2.2.2 _ hlink)) (fun _ h9 => h9) hv hd (k C H locs ls I)
theorem Vput {C0 : String} {T0 : u_T} {N ci idx : Nat} (q k0 : Nat) {x : Int32} {ty : FieldType} (ty0 : Nat → FieldType) (hd : decode cc pc = .ok (.putfield idx, 3)) (pc' : Nat) (hp : pc' = pc + 3) (hq : q ∈ gI G) (hk : wK q = ci + 3) (hcl : vwCl[ci]? = some (C0, T0, N)) (hin : ∀ w ∈ u_ws C0 T0 N, w ∈ lw_TB) (hty : ∀ k, k < N → parseFieldDescriptor (T0 k).2.2.1 = some (ty0 k)) (hnm : ∀ a, a < N → ∀ b, b < N → a ≠ b → (T0 a).2.1 ≠ (T0 b).2.1) (hkN : k0 < N) (hlink : Cond.fieldLink own idx (T0 k0).1 (T0 k0).2.1 (T0 k0).2.2.1 ∈ lw_TB) (hfin : (T0 k0).2.2.2 = false) (hdd : parseFieldDescriptor (T0 k0).2.2.1 = some ty) (hna : narrow ty (.int x) = .int x) (hfit : fits ty (.int x) = true) (hset : ∀ f : Nat → Int32, (oV ci (ad G) q f).set k0 (.int x) = oV ci (ad G) q (upd f k0 x)) (hlen : ∀ f : Nat → Int32, k0 < (oV ci (ad G) q f).length) (k : V l G X own cc nL d ret κ T (st2 σ q k0 x) pc' lv st) : V l G X own cc nL d ret κ T σ pc lv (.int x :: .ref (ad G q) :: st) := by
  subst hp
  intro C H locs ls I
  obtain ⟨j, hj, hw⟩ := wD_at hq σ
  rw [wE_o hk] at hw
  refine va_put C.1 C.2.1 C.2.2.2.2.1 hin ty0 hty hnm C.2.2.2.1 C.2.2.2.2.2.1 I.1 I.2.1 I.2.2.1 j hw hcl k0 hkN (C.2.2.2.2.1 _ hlink) (fun _ h9 => h9) hfin hdd hna hfit (hlen _) hd (fun H1 locs1 hP1 hD1 hS1 => ?_)
  rw [wD_set (σ' := st2 σ q k0 x) I.2.1 hj (by rw [wE_o hk, st2_q, hset]) (fun q' h => st2_nq h)] at hP1 hD1
  exact k C H1 locs1 ls ⟨hP1, hD1, hS1, I.2.2.2⟩
theorem VputN {C0 host : String} {T0 : u_T} {N ci idx : Nat} (q k0 : Nat) {x : Int32} {ty : FieldType} (ty0 : Nat → FieldType) (hd : decode cc pc = .ok (.putfield idx, 3)) (pc' : Nat) (hp : pc' = pc + 3) (hq : q ∈ gI G) (hk : wK q = ci + 3) (hcl : vwCl[ci]? = some (C0, T0, N)) (hin : ∀ w ∈ u_ws C0 T0 N, w ∈ lw_TB) (hty : ∀ k, k < N → parseFieldDescriptor (T0 k).2.2.1 = some (ty0 k)) (hnm : ∀ a, a < N → ∀ b, b < N → a ≠ b → (T0 a).2.1 ≠ (T0 b).2.1) (hkN : k0 < N) (hlink : Cond.fieldLinkNest own idx (T0 k0).1 (T0 k0).2.1 (T0 k0).2.2.1 host ∈ lw_nest) (hfin : (T0 k0).2.2.2 = false) (hdd : parseFieldDescriptor (T0 k0).2.2.1 = some ty) (hna : narrow ty (.int x) = .int x) (hfit : fits ty (.int x) = true) (hset : ∀ f : Nat → Int32, (oV ci (ad G) q f).set k0 (.int x) = oV ci (ad G) q (upd f k0 x)) (hlen : ∀ f : Nat → Int32, k0 < (oV ci (ad G) q f).length) (k : V l G X own cc nL d ret κ T (st2 σ q k0 x) pc' lv st) : V l G X own cc nL d ret κ T σ pc lv (.int x :: .ref (ad G q) :: st) := by
  subst hp
  intro C H locs ls I
  obtain ⟨j, hj, hw⟩ := wD_at hq σ
  rw [wE_o hk] at hw
  refine va_putN C.1 C.2.1 C.2.2.2.2.1 hin ty0 hty hnm C.2.2.2.1 C.2.2.2.2.2.1 I.1 I.2.1 I.2.2.1 j hw hcl k0 hkN (va_Nw.use rfl (C.2.2.2.2.2.2.2.2 _ hlink)) (fun _ h9 => h9) hfin hdd hna hfit (hlen _) hd (fun H1 locs1 hP1 hD1 hS1 => ?_)
  rw [wD_set (σ' := st2 σ q k0 x) I.2.1 hj (by rw [wE_o hk, st2_q, hset]) (fun q' h => st2_nq h)] at hP1 hD1
  exact k C H1 locs1 ls ⟨hP1, hD1, hS1, I.2.2.2⟩
theorem Vcopy {idx qs qd n : Nat} {m : Int32} (hd : decode cc pc = .ok (.invokestatic idx, 3)) (pc' : Nat) (hp : pc' = pc + 3) (hlink : Cond.methodLink own idx arraycopyName ∈ lw_TB) (hqs : qs ∈ gI G) (hks : wK qs = 0) (hns : wN qs = n) (hqd : qd ∈ gI G) (hkd : wK qd = 0) (hnd : wN qd = n) (ht : (gY G)[0]? = some ((gC G).1, .int)) (hm : m.toNatClampNeg = n) (hm0 : ¬ m < 0) (hd1 : 1 ≤ d) (hst : st = []) (k : V l G X own cc nL d ret κ T (cp2 σ qs qd n) pc' lv []) : V l G X own cc nL d ret κ T σ pc lv (.int m :: .int 0 :: .ref (ad G qd) :: .int 0 :: .ref (ad G qs) :: st) := by
  subst hp; subst hst
  intro C H locs ls I
  obtain ⟨j, hj, hw⟩ := wD_at hqs σ
  rw [wE_i hks hns] at hw
  obtain ⟨j2, hj2, hw2⟩ := wD_at hqd σ
  have h00 : (0 : Int32).toNatClampNeg = 0 := by decide
  have hcp : va_cpy (σ qs) (σ qd) (0 : Int32).toNatClampNeg (0 : Int32).toNatClampNeg m.toNatClampNeg = cp2 σ qs qd n qd := by
    funext i
    rw [h00, hm]
    simp [va_cpy, cp2]
  rw [wE_i hkd hnd] at hw2
  refine va_copyi C.1 C.2.1 (C.2.2.1.trans I.2.2.2.1.symm) C.2.2.2.1 (C.2.2.2.2.1 _ hlink) (C.2.2.2.2.1 _ wd_nat_arraycopyName) (C.2.2.2.2.1 _ wd_sm_arraycopyName) (C.2.2.2.2.1 _ wd_ini_RJ10) C.2.2.2.2.2.1 I.1 I.2.1 I.2.2.1 j j2 0 0 hw hw2 ht ht rfl (by decide) (by decide) hm0 (by rw [hm]; exact Nat.le_of_eq (Nat.zero_add n)) (by rw [hm]; exact Nat.le_of_eq (Nat.zero_add n)) (fun i _ => rfl) hd1 ?_ hd (fun H1 locs1 hP1 hD1 hS1 => ?_)
  · show 0 + (nativeFrameWords "java/lang/System" "arraycopy" 5 + 11) ≤ 40 * d
    have h1 : nativeFrameWords "java/lang/System" "arraycopy" 5 + 11 ≤ 40 := by decide +kernel
    omega
  · rw [wD_set (σ' := cp2 σ qs qd n) I.2.1 hj2 (by rw [wE_i hkd hnd]; rw [hcp]) (fun q' h => cp2_nq h)] at hP1 hD1
    exact k C H1 locs1 ls ⟨hP1, hD1, hS1, I.2.2.2⟩
/-! returns -/
theorem Viret {v : Int32} (hd : decode cc pc = .ok (.ireturn, 1)) : V l G X own cc nL d (some .int) κI (v, σ) σ pc lv [.int v] := by
  intro C H locs ls I
  exact W.iret C.1 C.2.1 C.2.2.2.2.2.2.1 (fun t ht hW => ⟨⟨rfl, by rw [ht]; exact I.1⟩, I.2.2.1.F ht⟩) I.2.2.1.2.2 hd C.2.2.2.2.2.2.2.1
theorem Vzret {v : Int32} (hd : decode cc pc = .ok (.ireturn, 1)) (hn : narrow .boolean (.int v) = .int v) : V l G X own cc nL d (some .boolean) κI (v, σ) σ pc lv [.int v] := by
  intro C H locs ls I
  exact W.zret C.1 C.2.1 C.2.2.2.2.2.2.1 hn (fun t ht hW => ⟨⟨rfl, by rw [ht]; exact I.1⟩, I.2.2.1.F ht⟩) I.2.2.1.2.2 hd C.2.2.2.2.2.2.2.1
theorem Vvret {v : Int32} (hd : decode cc pc = .ok (.return_, 1)) : V l G X own cc nL d none κV (v, σ) σ pc lv [] := by
  intro C H locs ls I
  exact W.vret C.1 C.2.1 C.2.2.2.2.2.2.1 (fun t ht hW => ⟨⟨rfl, by rw [ht]; exact I.1⟩, I.2.2.1.F ht⟩) I.2.2.1.2.2 hd C.2.2.2.2.2.2.2.1
theorem Varet {v : Int32} {n : String} (hd : decode cc pc = .ok (.areturn, 1)) (q : Nat) (hv : κR G v = some (.ref (ad G q))) : V l G X own cc nL d (some (.object n)) (κR G) (v, σ) σ pc lv [.ref (ad G q)] := by
  intro C H locs ls I
  exact W.aret C.1 C.2.1 C.2.2.2.2.2.2.1 (Or.inl ⟨_, rfl⟩) (Or.inr ⟨_, rfl⟩) (fun t ht hW => ⟨⟨by rw [hv], by rw [ht]; exact I.1⟩, I.2.2.1.F ht⟩) I.2.2.1.2.2 hd C.2.2.2.2.2.2.2.1
theorem VaretN {n : String} (hd : decode cc pc = .ok (.areturn, 1)) : V l G X own cc nL d (some (.object n)) (κR G) (-1, σ) σ pc lv [.null] := by
  intro C H locs ls I
  exact W.aret C.1 C.2.1 C.2.2.2.2.2.2.1 (Or.inl ⟨_, rfl⟩) (Or.inl rfl) (fun t ht hW => ⟨⟨rfl, by rw [ht]; exact I.1⟩, I.2.2.1.F ht⟩) I.2.2.1.2.2 hd C.2.2.2.2.2.2.2.1
end VR
/-! calls -/
/-- what the tables say of a method that is called: code, initialised, its number of arguments -/
def mW (y : MethodName) (cy : ByteArray) (nLy : Nat) (rety : Option FieldType) (n : Nat) : Prop := Cond.code y cy nLy rety ∈ lw_TB ∧ Cond.initialized y.cls ∈ lw_TB ∧ (y.cls ≠ "java/lang/invoke/MethodHandle" ∧ y.cls ≠ "java/lang/invoke/VarHandle") ∧ (parseMethodDescriptor y.desc).map (fun d => d.parameters.length) = some n ∧ nLy ≤ 21
theorem good_ws {y : MethodName} {cy : ByteArray} {nLy n : Nat} {rety : Option FieldType} (h : mW y cy nLy rety n) : GoodIn lw_TB (Cond.code y cy nLy rety :: lw_TB) := by
  intro w hw
  have h1 : w ∈ lw_TB := by
    rcases List.mem_cons.mp hw with e | e
    · rw [e]; exact h.1
    · exact e
  exact ⟨h1, good_of_word (lw_TB_good h1)⟩
theorem callB_m {own : String} {idx nLy n d dy : Nat} {y : MethodName} {cy : ByteArray} {rety : Option FieldType} {s : State} {args : Array Value} (h : mW y cy nLy rety n) (ht : ∀ w ∈ lw_TB, w.before args s = true) (hl : Cond.methodLink own idx y ∈ lw_TB) (hdy : dy + 1 ≤ d) : CallB (rm d) s args own idx y cy nLy rety (Cond.code y cy nLy rety :: lw_TB) (rm dy) 0 0 n := by
  refine callB_of n ht (good_ws h) rfl rfl rfl (ht _ h.2.1) (ht _ hl) ⟨h.2.2.1.1, h.2.2.1.2, h.2.2.2.1⟩ ⟨hdy, ?_⟩
  have h5 := h.2.2.2.2
  show 8 + (nLy + 11) + 40 * dy ≤ 40 * d
  omega
theorem blind_m (G : gT) (σ : mS) (avs : List Value) : FrameBlind (va_Pc avs (fun U => mP G σ U.heap ∧ va_K G.1 vwCl (gY G) U ∧ va_D (fun _ => True) (wD G σ) ∧ mN U)) := by
  intro a U g mk q
  obtain ⟨q0, qP, qK, qD, qN⟩ := q
  exact ⟨q0, qP, va_K.moved (u := U) (U := U.calling g mk a) (Vm.Alike.refl U.vm) qK, qD, mN.same (u := U) (U := U.calling g mk a) rfl qN⟩
theorem pre_m {G : gT} {X : xT} {own : String} {cc : ByteArray} {nL : Nat} {ret : Option FieldType} {σ : mS} {lv : List (Nat × Value)} {H : Heap} {locs : List Loc} {ls : Array Slot} (C : Vc G X own cc nL ret) (I : Vh G X nL σ lv H locs ls) (avs : List Value) : ∀ U : State, U.heap = H → X.2.2.1.WarmedH U.vm → va_Pc avs (fun U => mP G σ U.heap ∧ va_K G.1 vwCl (gY G) U ∧ va_D (fun _ => True) (wD G σ) ∧ mN U) avs.toArray U := by
  intro U hU hW
  exact ⟨rfl, by rw [hU]; exact I.1, va_K.moved hW.alike C.2.2.2.2.2.1, I.2.1.weaken (fun _ _ _ _ => trivial), mN.warm hW C.2.2.2.2.2.2.2.2⟩
theorem Vback {l : Launch} {G : gT} {X : xT} {own : String} {cc : ByteArray} {nL d : Nat} {ret : Option FieldType} {κ κy : Int32 → Option Value} {T Fy : Int32 × mS} {σ : mS} {pc : Nat} {lv : List (Nat × Value)} {st st0 : List Value} {H : Heap} {locs : List Loc} {ls : Array Slot} {a : Array Value} (C : Vc G X own cc nL ret) (I : Vh G X nL σ lv H locs ls)
    (hr : va_Run X.1 l X.2.1 (rm d) X.2.2.1 X.2.2.2.1 X.2.2.2.2.1 X.2.2.2.2.2.1 X.2.2.2.2.2.2.1 X.2.2.2.2.2.2.2 H locs 0 0 0 0 (F0 X.2.2.2.1 pc ls st0) st (mQ G κy Fy a) (mA G))
    (k : V l G X own cc nL d ret κ T Fy.2 (pc + 3) lv ((κy Fy.1).toList ++ st)) : W X.1 l X.2.1 (rm d) X.2.2.1 X.2.2.2.1 X.2.2.2.2.1 X.2.2.2.2.2.1 X.2.2.2.2.2.2.1 X.2.2.2.2.2.2.2 H locs 0 0 (MQ X.2.2.2.2.2.1 (mQ G κ T) X.2.2.2.2.1 X.2.2.1 0 0 (mA G)) (F0 X.2.2.2.1 pc ls st0) := by
  intro S hS Xs
  obtain ⟨v, st₀, t, T', L, h0, X', hL, e1, e2, ⟨⟨hv, hP⟩, hz, hk⟩, stp⟩ := hr S hS Xs
  obtain rfl : v = κy Fy.1 := by injection hv
  rw [h0] at hz hk
  rw [← e1] at hz hk hP
  obtain ⟨t2, a1, b1⟩ := k C T'.heap (locs ++ L) ls ⟨hP, wD_adr I.2.1 (fun _ h => h), ⟨Nat.le_trans I.2.2.1.1 hz, fun q h1 h2 => by rw [hk q (Nat.lt_of_lt_of_le h1 I.2.2.1.1) h2]; exact I.2.2.1.2.1 q h1 h2, fun q hq => by
      rcases List.mem_append.mp hq with h | h
      · exact I.2.2.1.2.2 q h
      · exact hL q h⟩, I.2.2.2⟩ T' rfl X'
  exact ⟨t2, stp t2 a1, b1⟩
section VCl
variable {l : Launch} {G : gT} {X : xT} {own : String} {cc : ByteArray} {nL d : Nat} {ret : Option FieldType} {κ : Int32 → Option Value} {T Fy : Int32 × mS} {σ : mS} {pc : Nat} {lv : List (Nat × Value)} {st st0 : List Value} {idx : Nat} {y : MethodName} {cy : ByteArray} {nLy dy n : Nat} {rety : Option FieldType} {κy : Int32 → Option Value}
theorem VcallV {q ci : Nat} {cl : vw_C} (As : List Value) (hc : Ct l G y cy nLy rety dy (.ref (ad G q) :: As) κy σ Fy) (hm : mW y cy nLy rety n) (him : Cond.instanceMethod y ∈ lw_TB) (hse : Cond.selects y.cls y y ∈ lw_TB) (hl : Cond.methodLink own idx y ∈ lw_TB) (hq : q ∈ gI G) (hk : wK q = ci + 3) (hcl : vwCl[ci]? = some cl) (hcn : cl.1 = y.cls) (hdy : dy + 1 ≤ d) (hn : As.length = n) (hst : st0 = As.reverse ++ .ref (ad G q) :: st) (hrest : (st.map fun v => v.category).sum ≤ 8) (hd : decode cc pc = .ok (.invokevirtual idx, 3)) (k : V l G X own cc nL d ret κ T Fy.2 (pc + 3) lv ((κy Fy.1).toList ++ st)) : V l G X own cc nL d ret κ T σ pc lv st0 := by
  intro C H locs ls I
  obtain ⟨j, hj, hw⟩ := wD_at hq σ
  rw [wE_o hk] at hw
  have hrc := va_recv C.2.2.2.2.2.1 I.1 hcl hw
  rw [hcn] at hrc
  exact Vback C I (va_runV (Ts := lw_TB) (As := As) (rest := st) ⟨C.1, C.2.1, C.2.2.1, C.2.2.2.1, C.2.2.2.2.1⟩ hc ⟨callB_m hm C.2.2.2.2.1 hl hdy, C.2.2.2.2.1 _ him, C.2.2.2.2.1 _ hse⟩ ⟨blind_m G σ _, hrc, pre_m C I _⟩ rfl hn I.2.2.2.1 hst (lv_room hrest) hd ⟨Nat.le_refl _, Nat.le_refl _⟩) k
theorem VcallS (As : List Value) (hc : Ct l G y cy nLy rety dy As κy σ Fy) (hm : mW y cy nLy rety n) (him : Cond.static y ∈ lw_TB) (hl : Cond.methodLink own idx y ∈ lw_TB) (hdy : dy + 1 ≤ d) (hn : As.length = n) (hst : st0 = As.reverse ++ st) (hrest : (st.map fun v => v.category).sum ≤ 8) (hd : decode cc pc = .ok (.invokestatic idx, 3)) (k : V l G X own cc nL d ret κ T Fy.2 (pc + 3) lv ((κy Fy.1).toList ++ st)) : V l G X own cc nL d ret κ T σ pc lv st0 := by
  intro C H locs ls I
  exact Vback C I (va_runS (Ts := lw_TB) (As := As) (rest := st) ⟨C.1, C.2.1, C.2.2.1, C.2.2.2.1, C.2.2.2.2.1⟩ hc ⟨callB_m hm C.2.2.2.2.1 hl hdy, C.2.2.2.2.1 _ him⟩ ⟨blind_m G σ _, pre_m C I _⟩ rfl hn I.2.2.2.1 hst (lv_room hrest) hd ⟨Nat.le_refl _, Nat.le_refl _⟩) k
theorem VcallSN {host : String} (As : List Value) (hc : Ct l G y cy nLy rety dy As κy σ Fy) (hm : mW y cy nLy rety n) (him : Cond.static y ∈ lw_TB) (hl : Cond.methodLinkNest own idx y host ∈ lw_nest) (hdy : dy + 1 ≤ d) (hn : As.length = n) (hst : st0 = As.reverse ++ st) (hrest : (st.map fun v => v.category).sum ≤ 8) (hd : decode cc pc = .ok (.invokestatic idx, 3)) (k : V l G X own cc nL d ret κ T Fy.2 (pc + 3) lv ((κy Fy.1).toList ++ st)) : V l G X own cc nL d ret κ T σ pc lv st0 := by
  intro C H locs ls I
  have hR : (rm dy).frames + 1 ≤ (rm d).frames ∧ 8 + (nLy + 11) + (rm dy).locals ≤ (rm d).locals := by
    refine ⟨hdy, ?_⟩
    have h5 := hm.2.2.2.2
    show 8 + (nLy + 11) + 40 * dy ≤ 40 * d
    omega
  exact Vback C I (va_runSN (Ts := lw_TB) (As := As) (rest := st) ⟨C.1, C.2.1, C.2.2.1, C.2.2.2.1, C.2.2.2.2.1⟩ hc ⟨va_cnB n C.2.2.2.2.1 (good_ws hm) rfl rfl rfl (C.2.2.2.2.2.2.2.2 _ hl) (C.2.2.2.2.1 _ hm.2.1) ⟨hm.2.2.1.1, hm.2.2.1.2, hm.2.2.2.1⟩ hR, C.2.2.2.2.1 _ him, trivial⟩ ⟨blind_m G σ _, pre_m C I _⟩ rfl hn I.2.2.2.1 hst (lv_room hrest) hd ⟨Nat.le_refl _, Nat.le_refl _⟩) k
theorem VcVp {q ci : Nat} {cl : vw_C} {v : Int32} (hd : decode cc pc = .ok (.invokevirtual idx, 3)) (As : List Value) (hc : Ct l G y cy nLy rety dy (.ref (ad G q) :: As) κI σ (v, σ)) (hm : mW y cy nLy rety n) (him : Cond.instanceMethod y ∈ lw_TB) (hse : Cond.selects y.cls y y ∈ lw_TB) (hl : Cond.methodLink own idx y ∈ lw_TB) (hq : q ∈ gI G) (hk : wK q = ci + 3) (hcl : vwCl[ci]? = some cl) (hcn : cl.1 = y.cls) (hdy : dy + 1 ≤ d) (hn : As.length = n) (hst : st0 = As.reverse ++ .ref (ad G q) :: st) (hrest : (st.map fun v => v.category).sum ≤ 8) (pc' : Nat) (hp : pc' = pc + 3) (k : V l G X own cc nL d ret κ T σ pc' lv (.int v :: st)) : V l G X own cc nL d ret κ T σ pc lv st0 := by
  subst hp
  exact VcallV As hc hm him hse hl hq hk hcl hcn hdy hn hst hrest hd k
theorem VcVi {q ci : Nat} {cl : vw_C} {u : Int32 × mS} (hd : decode cc pc = .ok (.invokevirtual idx, 3)) (As : List Value) (hc : Ct l G y cy nLy rety dy (.ref (ad G q) :: As) κI σ u) (hm : mW y cy nLy rety n) (him : Cond.instanceMethod y ∈ lw_TB) (hse : Cond.selects y.cls y y ∈ lw_TB) (hl : Cond.methodLink own idx y ∈ lw_TB) (hq : q ∈ gI G) (hk : wK q = ci + 3) (hcl : vwCl[ci]? = some cl) (hcn : cl.1 = y.cls) (hdy : dy + 1 ≤ d) (hn : As.length = n) (hst : st0 = As.reverse ++ .ref (ad G q) :: st) (hrest : (st.map fun v => v.category).sum ≤ 8) (pc' : Nat) (hp : pc' = pc + 3) (k : V l G X own cc nL d ret κ T u.2 pc' lv (.int u.1 :: st)) : V l G X own cc nL d ret κ T σ pc lv st0 := by
  subst hp
  exact VcallV As hc hm him hse hl hq hk hcl hcn hdy hn hst hrest hd k
theorem VcVv {q ci : Nat} {cl : vw_C} {u : Int32 × mS} (hd : decode cc pc = .ok (.invokevirtual idx, 3)) (As : List Value) (hc : Ct l G y cy nLy rety dy (.ref (ad G q) :: As) κV σ u) (hm : mW y cy nLy rety n) (him : Cond.instanceMethod y ∈ lw_TB) (hse : Cond.selects y.cls y y ∈ lw_TB) (hl : Cond.methodLink own idx y ∈ lw_TB) (hq : q ∈ gI G) (hk : wK q = ci + 3) (hcl : vwCl[ci]? = some cl) (hcn : cl.1 = y.cls) (hdy : dy + 1 ≤ d) (hn : As.length = n) (hst : st0 = As.reverse ++ .ref (ad G q) :: st) (hrest : (st.map fun v => v.category).sum ≤ 8) (pc' : Nat) (hp : pc' = pc + 3) (k : V l G X own cc nL d ret κ T u.2 pc' lv st) : V l G X own cc nL d ret κ T σ pc lv st0 := by
  subst hp
  exact VcallV As hc hm him hse hl hq hk hcl hcn hdy hn hst hrest hd k
theorem VcVr {q ci : Nat} {cl : vw_C} {v : Int32} {α : Type} (g : α → Int32 × mS) {a1 a2 : α} (hd : decode cc pc = .ok (.invokevirtual idx, 3)) (As : List Value) (hc : Ct l G y cy nLy rety dy (.ref (ad G q) :: As) (κR G) σ (v, σ)) (hm : mW y cy nLy rety n) (him : Cond.instanceMethod y ∈ lw_TB) (hse : Cond.selects y.cls y y ∈ lw_TB) (hl : Cond.methodLink own idx y ∈ lw_TB) (hq : q ∈ gI G) (hk : wK q = ci + 3) (hcl : vwCl[ci]? = some cl) (hcn : cl.1 = y.cls) (hdy : dy + 1 ≤ d) (hn : As.length = n) (hst : st0 = As.reverse ++ .ref (ad G q) :: st) (hrest : (st.map fun v => v.category).sum ≤ 8) (pc' : Nat) (hp : pc' = pc + 3) (kn : v = -1 → V l G X own cc nL d ret κ (g a1) σ pc' lv (.null :: st)) (ks : ¬ v = -1 → V l G X own cc nL d ret κ (g a2) σ pc' lv (.ref (ad G (sI v)) :: st)) : V l G X own cc nL d ret κ (g (if v = -1 then a1 else a2)) σ pc lv st0 := by
  subst hp
  refine VcallV As hc hm him hse hl hq hk hcl hcn hdy hn hst hrest hd ?_
  by_cases h : v = -1
  · rw [if_pos h]
    have h1 : (κR G (v, σ).1).toList ++ st = .null :: st := by simp [κR, va_rf, h]
    rw [h1]; exact kn h
  · rw [if_neg h]
    have h1 : (κR G (v, σ).1).toList ++ st = .ref (ad G (sI v)) :: st := by simp [κR, va_rf, h]
    rw [h1]; exact ks h
theorem VcSp {v : Int32} (hd : decode cc pc = .ok (.invokestatic idx, 3)) (As : List Value) (hc : Ct l G y cy nLy rety dy As κI σ (v, σ)) (hm : mW y cy nLy rety n) (him : Cond.static y ∈ lw_TB) (hl : Cond.methodLink own idx y ∈ lw_TB) (hdy : dy + 1 ≤ d) (hn : As.length = n) (hst : st0 = As.reverse ++ st) (hrest : (st.map fun v => v.category).sum ≤ 8) (pc' : Nat) (hp : pc' = pc + 3) (k : V l G X own cc nL d ret κ T σ pc' lv (.int v :: st)) : V l G X own cc nL d ret κ T σ pc lv st0 := by
  subst hp
  exact VcallS As hc hm him hl hdy hn hst hrest hd k
theorem VcSNp {host : String} {v : Int32} (hd : decode cc pc = .ok (.invokestatic idx, 3)) (As : List Value) (hc : Ct l G y cy nLy rety dy As κI σ (v, σ)) (hm : mW y cy nLy rety n) (him : Cond.static y ∈ lw_TB) (hl : Cond.methodLinkNest own idx y host ∈ lw_nest) (hdy : dy + 1 ≤ d) (hn : As.length = n) (hst : st0 = As.reverse ++ st) (hrest : (st.map fun v => v.category).sum ≤ 8) (pc' : Nat) (hp : pc' = pc + 3) (k : V l G X own cc nL d ret κ T σ pc' lv (.int v :: st)) : V l G X own cc nL d ret κ T σ pc lv st0 := by
  subst hp
  exact VcallSN As hc hm him hl hdy hn hst hrest hd k
theorem VcSv {u : Int32 × mS} (hd : decode cc pc = .ok (.invokestatic idx, 3)) (As : List Value) (hc : Ct l G y cy nLy rety dy As κV σ u) (hm : mW y cy nLy rety n) (him : Cond.static y ∈ lw_TB) (hl : Cond.methodLink own idx y ∈ lw_TB) (hdy : dy + 1 ≤ d) (hn : As.length = n) (hst : st0 = As.reverse ++ st) (hrest : (st.map fun v => v.category).sum ≤ 8) (pc' : Nat) (hp : pc' = pc + 3) (k : V l G X own cc nL d ret κ T u.2 pc' lv st) : V l G X own cc nL d ret κ T σ pc lv st0 := by
  subst hp
  exact VcallS As hc hm him hl hdy hn hst hrest hd k
end VCl
end
section
/-! cells by number; a strand at q, an atom at q -/
theorem wk0 : wK 0 = 8 := by decide +kernel
theorem wk1 : wK 1 = 4 := by decide +kernel
theorem wk2 : wK 2 = 0 := by decide +kernel
theorem wn2 : wN 2 = 8 := by decide +kernel
theorem wk3 : wK 3 = 0 := by decide +kernel
theorem wn3 : wN 3 = 8 := by decide +kernel
theorem wk4 : wK 4 = 0 := by decide +kernel
theorem wn4 : wN 4 = 8 := by decide +kernel
theorem wk5 : wK 5 = 5 := by decide +kernel
theorem wk6 : wK 6 = 0 := by decide +kernel
theorem wn6 : wN 6 = 30 := by decide +kernel
theorem wk7 : wK 7 = 0 := by decide +kernel
theorem wn7 : wN 7 = 30 := by decide +kernel
theorem wk8 : wK 8 = 0 := by decide +kernel
theorem wn8 : wN 8 = 30 := by decide +kernel
theorem wk9 : wK 9 = 6 := by decide +kernel
theorem wk10 : wK 10 = 0 := by decide +kernel
theorem wn10 : wN 10 = 4 := by decide +kernel
theorem wk11 : wK 11 = 1 := by decide +kernel
theorem wn11 : wN 11 = 4 := by decide +kernel
theorem wk12 : wK 12 = 0 := by decide +kernel
theorem wn12 : wN 12 = 32 := by decide +kernel
theorem wk13 : wK 13 = 2 := by decide +kernel
theorem wn13 : wN 13 = 3 := by decide +kernel
theorem wk14 : wK 14 = 7 := by decide +kernel
theorem wk15 : wK 15 = 0 := by decide +kernel
theorem wn15 : wN 15 = 24 := by decide +kernel
theorem wk16 : wK 16 = 0 := by decide +kernel
theorem wn16 : wN 16 = 24 := by decide +kernel
theorem wk17 : wK 17 = 0 := by decide +kernel
theorem wn17 : wN 17 = 24 := by decide +kernel
theorem wk18 : wK 18 = 0 := by decide +kernel
theorem wn18 : wN 18 = 24 := by decide +kernel
theorem wk19 : wK 19 = 0 := by decide +kernel
theorem wn19 : wN 19 = 4 := by decide +kernel
theorem wk20 : wK 20 = 0 := by decide +kernel
theorem wn20 : wN 20 = 4 := by decide +kernel
theorem wk21 : wK 21 = 3 := by decide +kernel
theorem wk22 : wK 22 = 0 := by decide +kernel
theorem wn22 : wN 22 = 4 := by decide +kernel
theorem wk23 : wK 23 = 1 := by decide +kernel
theorem wn23 : wN 23 = 8 := by decide +kernel
theorem wk24 : wK 24 = 0 := by decide +kernel
theorem wn24 : wN 24 = 8 := by decide +kernel
theorem wk25 : wK 25 = 1 := by decide +kernel
theorem wn25 : wN 25 = 8 := by decide +kernel
theorem wk26 : wK 26 = 0 := by decide +kernel
theorem wn26 : wN 26 = 8 := by decide +kernel
theorem wk27 : wK 27 = 7 := by decide +kernel
theorem wk28 : wK 28 = 0 := by decide +kernel
theorem wn28 : wN 28 = 24 := by decide +kernel
theorem wk29 : wK 29 = 0 := by decide +kernel
theorem wn29 : wN 29 = 24 := by decide +kernel
theorem wk30 : wK 30 = 0 := by decide +kernel
theorem wn30 : wN 30 = 24 := by decide +kernel
theorem wk31 : wK 31 = 0 := by decide +kernel
theorem wn31 : wN 31 = 24 := by decide +kernel
theorem wk32 : wK 32 = 0 := by decide +kernel
theorem wn32 : wN 32 = 4 := by decide +kernel
theorem wk33 : wK 33 = 0 := by decide +kernel
theorem wn33 : wN 33 = 4 := by decide +kernel
theorem wk34 : wK 34 = 3 := by decide +kernel
theorem wk35 : wK 35 = 0 := by decide +kernel
theorem wn35 : wN 35 = 4 := by decide +kernel
theorem wk36 : wK 36 = 1 := by decide +kernel
theorem wn36 : wN 36 = 8 := by decide +kernel
theorem wk37 : wK 37 = 0 := by decide +kernel
theorem wn37 : wN 37 = 8 := by decide +kernel
theorem wk38 : wK 38 = 1 := by decide +kernel
theorem wn38 : wN 38 = 8 := by decide +kernel
theorem wk39 : wK 39 = 0 := by decide +kernel
theorem wn39 : wN 39 = 8 := by decide +kernel
theorem wk40 : wK 40 = 7 := by decide +kernel
theorem wk41 : wK 41 = 0 := by decide +kernel
theorem wn41 : wN 41 = 24 := by decide +kernel
theorem wk42 : wK 42 = 0 := by decide +kernel
theorem wn42 : wN 42 = 24 := by decide +kernel
theorem wk43 : wK 43 = 0 := by decide +kernel
theorem wn43 : wN 43 = 24 := by decide +kernel
theorem wk44 : wK 44 = 0 := by decide +kernel
theorem wn44 : wN 44 = 24 := by decide +kernel
theorem wk45 : wK 45 = 0 := by decide +kernel
theorem wn45 : wN 45 = 4 := by decide +kernel
theorem wk46 : wK 46 = 0 := by decide +kernel
theorem wn46 : wN 46 = 4 := by decide +kernel
theorem wk47 : wK 47 = 3 := by decide +kernel
theorem wk48 : wK 48 = 0 := by decide +kernel
theorem wn48 : wN 48 = 4 := by decide +kernel
theorem wk49 : wK 49 = 1 := by decide +kernel
theorem wn49 : wN 49 = 8 := by decide +kernel
theorem wk50 : wK 50 = 0 := by decide +kernel
theorem wn50 : wN 50 = 8 := by decide +kernel
theorem wk51 : wK 51 = 1 := by decide +kernel
theorem wn51 : wN 51 = 8 := by decide +kernel
theorem wk52 : wK 52 = 0 := by decide +kernel
theorem wn52 : wN 52 = 8 := by decide +kernel
theorem wk53 : wK 53 = 9 := by decide +kernel
theorem wk54 : wK 54 = 0 := by decide +kernel
theorem wn54 : wN 54 = 8 := by decide +kernel
theorem wk55 : wK 55 = 1 := by decide +kernel
theorem wn55 : wN 55 = 8 := by decide +kernel
theorem wk56 : wK 56 = 1 := by decide +kernel
theorem wn56 : wN 56 = 8 := by decide +kernel
theorem wk57 : wK 57 = 0 := by decide +kernel
theorem wn57 : wN 57 = 4 := by decide +kernel
theorem wk58 : wK 58 = 0 := by decide +kernel
theorem wn58 : wN 58 = 32 := by decide +kernel
theorem wk59 : wK 59 = 1 := by decide +kernel
theorem wn59 : wN 59 = 4 := by decide +kernel
theorem wk60 : wK 60 = 0 := by decide +kernel
theorem wn60 : wN 60 = 3 := by decide +kernel
theorem wk61 : wK 61 = 0 := by decide +kernel
theorem wn61 : wN 61 = 72 := by decide +kernel
theorem wk62 : wK 62 = 0 := by decide +kernel
theorem wn62 : wN 62 = 72 := by decide +kernel
theorem wk63 : wK 63 = 0 := by decide +kernel
theorem wn63 : wN 63 = 72 := by decide +kernel
theorem wk64 : wK 64 = 0 := by decide +kernel
theorem wn64 : wN 64 = 72 := by decide +kernel
theorem wk65 : wK 65 = 0 := by decide +kernel
theorem wn65 : wN 65 = 12 := by decide +kernel
theorem wk66 : wK 66 = 0 := by decide +kernel
theorem wn66 : wN 66 = 3 := by decide +kernel
theorem wk67 : wK 67 = 0 := by decide +kernel
theorem wn67 : wN 67 = 3 := by decide +kernel
theorem wk68 : wK 68 = 1 := by decide +kernel
theorem wn68 : wN 68 = 3 := by decide +kernel
theorem wk69 : wK 69 = 0 := by decide +kernel
theorem wn69 : wN 69 = 3 := by decide +kernel
theorem wk70 : wK 70 = 0 := by decide +kernel
theorem wn70 : wN 70 = 3 := by decide +kernel
theorem wk71 : wK 71 = 0 := by decide +kernel
theorem wn71 : wN 71 = 3 := by decide +kernel
theorem wk72 : wK 72 = 0 := by decide +kernel
theorem wn72 : wN 72 = 12 := by decide +kernel
theorem wk73 : wK 73 = 1 := by decide +kernel
theorem wn73 : wN 73 = 3 := by decide +kernel
theorem wk74 : wK 74 = 0 := by decide +kernel
theorem wn74 : wN 74 = 3 := by decide +kernel
theorem wk75 : wK 75 = 0 := by decide +kernel
theorem wn75 : wN 75 = 3 := by decide +kernel
theorem wk76 : wK 76 = 0 := by decide +kernel
theorem wn76 : wN 76 = 12 := by decide +kernel
theorem wk77 : wK 77 = 1 := by decide +kernel
theorem wn77 : wN 77 = 24 := by decide +kernel
theorem wk78 : wK 78 = 0 := by decide +kernel
theorem wn78 : wN 78 = 24 := by decide +kernel
theorem wk79 : wK 79 = 1 := by decide +kernel
theorem wn79 : wN 79 = 24 := by decide +kernel
theorem wk80 : wK 80 = 0 := by decide +kernel
theorem wn80 : wN 80 = 24 := by decide +kernel
theorem wk81 : wK 81 = 0 := by decide +kernel
theorem wn81 : wN 81 = 30 := by decide +kernel
theorem wk82 : wK 82 = 0 := by decide +kernel
theorem wn82 : wN 82 = 30 := by decide +kernel
theorem wk83 : wK 83 = 0 := by decide +kernel
theorem wn83 : wN 83 = 30 := by decide +kernel
theorem wk84 : wK 84 = 0 := by decide +kernel
theorem wn84 : wN 84 = 9 := by decide +kernel
def sQ (q : Nat) : Prop := q = 14 ∨ q = 27 ∨ q = 40
def aQ (q : Nat) : Prop := q = 21 ∨ q = 34 ∨ q = 47
theorem sk0 {q : Nat} (h : sQ q) : wK (q) = 7 := by rcases h with rfl | rfl | rfl <;> decide +kernel
theorem sk1 {q : Nat} (h : sQ q) : wK (q + 1) = 0 := by rcases h with rfl | rfl | rfl <;> decide +kernel
theorem sn1 {q : Nat} (h : sQ q) : wN (q + 1) = 24 := by rcases h with rfl | rfl | rfl <;> decide +kernel
theorem sk2 {q : Nat} (h : sQ q) : wK (q + 2) = 0 := by rcases h with rfl | rfl | rfl <;> decide +kernel
theorem sn2 {q : Nat} (h : sQ q) : wN (q + 2) = 24 := by rcases h with rfl | rfl | rfl <;> decide +kernel
theorem sk3 {q : Nat} (h : sQ q) : wK (q + 3) = 0 := by rcases h with rfl | rfl | rfl <;> decide +kernel
theorem sn3 {q : Nat} (h : sQ q) : wN (q + 3) = 24 := by rcases h with rfl | rfl | rfl <;> decide +kernel
theorem sk4 {q : Nat} (h : sQ q) : wK (q + 4) = 0 := by rcases h with rfl | rfl | rfl <;> decide +kernel
theorem sn4 {q : Nat} (h : sQ q) : wN (q + 4) = 24 := by rcases h with rfl | rfl | rfl <;> decide +kernel
theorem sk5 {q : Nat} (h : sQ q) : wK (q + 5) = 0 := by rcases h with rfl | rfl | rfl <;> decide +kernel
theorem sn5 {q : Nat} (h : sQ q) : wN (q + 5) = 4 := by rcases h with rfl | rfl | rfl <;> decide +kernel
theorem sk6 {q : Nat} (h : sQ q) : wK (q + 6) = 0 := by rcases h with rfl | rfl | rfl <;> decide +kernel
theorem sn6 {q : Nat} (h : sQ q) : wN (q + 6) = 4 := by rcases h with rfl | rfl | rfl <;> decide +kernel
theorem sk7 {q : Nat} (h : sQ q) : wK (q + 7) = 3 := by rcases h with rfl | rfl | rfl <;> decide +kernel
theorem sk8 {q : Nat} (h : sQ q) : wK (q + 8) = 0 := by rcases h with rfl | rfl | rfl <;> decide +kernel
theorem sn8 {q : Nat} (h : sQ q) : wN (q + 8) = 4 := by rcases h with rfl | rfl | rfl <;> decide +kernel
theorem sk9 {q : Nat} (h : sQ q) : wK (q + 9) = 1 := by rcases h with rfl | rfl | rfl <;> decide +kernel
theorem sn9 {q : Nat} (h : sQ q) : wN (q + 9) = 8 := by rcases h with rfl | rfl | rfl <;> decide +kernel
theorem sk10 {q : Nat} (h : sQ q) : wK (q + 10) = 0 := by rcases h with rfl | rfl | rfl <;> decide +kernel
theorem sn10 {q : Nat} (h : sQ q) : wN (q + 10) = 8 := by rcases h with rfl | rfl | rfl <;> decide +kernel
theorem sk11 {q : Nat} (h : sQ q) : wK (q + 11) = 1 := by rcases h with rfl | rfl | rfl <;> decide +kernel
theorem sn11 {q : Nat} (h : sQ q) : wN (q + 11) = 8 := by rcases h with rfl | rfl | rfl <;> decide +kernel
theorem sk12 {q : Nat} (h : sQ q) : wK (q + 12) = 0 := by rcases h with rfl | rfl | rfl <;> decide +kernel
theorem sn12 {q : Nat} (h : sQ q) : wN (q + 12) = 8 := by rcases h with rfl | rfl | rfl <;> decide +kernel
theorem ak0 {q : Nat} (h : aQ q) : wK (q) = 3 := by rcases h with rfl | rfl | rfl <;> decide +kernel
theorem ak1 {q : Nat} (h : aQ q) : wK (q + 1) = 0 := by rcases h with rfl | rfl | rfl <;> decide +kernel
theorem an1 {q : Nat} (h : aQ q) : wN (q + 1) = 4 := by rcases h with rfl | rfl | rfl <;> decide +kernel
theorem ak2 {q : Nat} (h : aQ q) : wK (q + 2) = 1 := by rcases h with rfl | rfl | rfl <;> decide +kernel
theorem an2 {q : Nat} (h : aQ q) : wN (q + 2) = 8 := by rcases h with rfl | rfl | rfl <;> decide +kernel
theorem ak3 {q : Nat} (h : aQ q) : wK (q + 3) = 0 := by rcases h with rfl | rfl | rfl <;> decide +kernel
theorem an3 {q : Nat} (h : aQ q) : wN (q + 3) = 8 := by rcases h with rfl | rfl | rfl <;> decide +kernel
theorem ak4 {q : Nat} (h : aQ q) : wK (q + 4) = 1 := by rcases h with rfl | rfl | rfl <;> decide +kernel
theorem an4 {q : Nat} (h : aQ q) : wN (q + 4) = 8 := by rcases h with rfl | rfl | rfl <;> decide +kernel
theorem ak5 {q : Nat} (h : aQ q) : wK (q + 5) = 0 := by rcases h with rfl | rfl | rfl <;> decide +kernel
theorem an5 {q : Nat} (h : aQ q) : wN (q + 5) = 8 := by rcases h with rfl | rfl | rfl <;> decide +kernel
theorem sA {q : Nat} (h : sQ q) : aQ (q + 7) := by
  unfold sQ at h; unfold aQ; omega
/-- the whole world is there -/
def Full (G : gT) : Prop := (∀ q, q < 85 → q ∈ gI G) ∧ (gY G)[0]? = some ((gC G).1, .int) ∧ (gY G)[1]? = some ((gC G).2.1, .boolean) ∧ (gY G)[2]? = some ((gC G).2.2, .object "MutableCells$Strand")
theorem sI_ {G : gT} (hF : Full G) {q : Nat} (h : sQ q) (j : Nat) (hj : j < 13) : q + j ∈ gI G := hF.1 _ (by unfold sQ at h; omega)
theorem aI_ {G : gT} (hF : Full G) {q : Nat} (h : aQ q) (j : Nat) (hj : j < 6) : q + j ∈ gI G := hF.1 _ (by unfold aQ at h; omega)
theorem i32_lt {x y : Int32} : x < y ↔ x.toInt < y.toInt := Int32.lt_iff_toInt_lt
theorem i32_le {x y : Int32} : x ≤ y ↔ x.toInt ≤ y.toInt := Int32.le_iff_toInt_le
theorem Full.sub {G : gT} (hF : Full G) {L : List Nat} (h : L.all (fun q => decide (q < 85)) = true) : ∀ q, q ∈ L → q ∈ gI G := fun q hq => hF.1 q (by simpa using List.all_eq_true.mp h q hq)
theorem sI_val {x : Int32} (h0 : ¬ x < 0) (h1 : ¬ (3 : Int32) ≤ x) : sI x = 14 ∨ sI x = 27 ∨ sI x = 40 := by
  obtain ⟨j, hj, rfl⟩ := vp_in_of (vp_in_iff.mpr (by
    rw [i32_lt, Int32.toInt_zero] at h0
    rw [i32_le] at h1
    have h3 : (3 : Int32).toInt = 3 := by decide
    rw [h3] at h1
    exact ⟨by omega, by omega⟩) : vp_in x 3) (by decide)
  unfold sI
  rw [nI_clamp (by omega)]
  omega
theorem sQ_cmp {x : Int32} (h0 : ¬ x < 0) (h1 : ¬ (3 : Int32) ≤ x) : sQ (sI x) := sI_val h0 h1
theorem κR_pos {G : gT} {x : Int32} (h : ¬ x < 0) : κR G x = some (.ref (ad G (sI x))) := by
  have h1 : ¬ x = -1 := fun e => h (by rw [e]; decide)
  simp [κR, va_rf, h1]
theorem κR_ne {G : gT} {x : Int32} (h : ¬ x = -1) : κR G x = some (.ref (ad G (sI x))) := by
  simp [κR, va_rf, h]
theorem cnt_lt2 {x K : Int32} {i : Nat} {y : Int32} {n : Nat} (hc : x = nI i) (h : ¬ y ≤ x) (hy : y ≤ K) (hK : K.toInt = (n : Int)) (hn : n < 2 ^ 31) (hi : i ≤ n) : i + 1 ≤ n := by
  rw [i32_le, hK] at hy
  rw [hc, i32_le, nI_toInt (by omega)] at h
  omega
theorem dwn_in {y : Int32} {j : Nat} (hc : y = nI j - 1) (hj : j ≤ 8) (h : ¬ y < 0) : vp_in y 8 := by
  rcases j with _ | j
  · exact absurd (show y < 0 by rw [hc]; decide) h
  · rw [hc, nI_pred]; exact vp_in_nI (by omega) (by decide)
theorem dwn_s {y : Int32} {j : Nat} (hc : y = nI j - 1) (h : ¬ y < 0) : 1 ≤ j ∧ y + (-1) = nI (j - 1) - 1 := by
  rcases j with _ | j
  · exact absurd (show y < 0 by rw [hc]; decide) h
  · refine ⟨by omega, ?_⟩
    rw [hc, nI_pred, Nat.add_sub_cancel, Int32.sub_eq_add_neg]
theorem vin_cmp {x N : Int32} {n : Nat} (h0 : ¬ x < 0) (h1 : ¬ N ≤ x) (hN : N.toInt = (n : Int)) : vp_in x n := by
  rw [i32_lt, Int32.toInt_zero] at h0
  rw [i32_le, hN] at h1
  exact vp_in_iff.mpr ⟨by omega, by omega⟩
theorem vin_cmp2 {x N : Int32} {n : Nat} (h0 : ¬ x < 0) (h1 : x < N) (hN : N.toInt = (n : Int)) : vp_in x n := by
  rw [i32_lt, Int32.toInt_zero] at h0
  rw [i32_lt, hN] at h1
  exact vp_in_iff.mpr ⟨by omega, by omega⟩
theorem vin_cnt {x K : Int32} {i n : Nat} (hc : x = nI i) (h : ¬ K ≤ x) (hK : K.toInt = (n : Int)) (hn : n < 2 ^ 31) (hi : i ≤ n) : vp_in x n := by
  have h2 : i < n := by
    rw [hc, i32_le, hK, nI_toInt (by omega)] at h
    omega
  rw [hc]; exact vp_in_nI h2 hn
theorem cnt_lt {x K : Int32} {i n : Nat} (hc : x = nI i) (h : ¬ K ≤ x) (hK : K.toInt = (n : Int)) (hn : n < 2 ^ 31) (hi : i ≤ n) : i + 1 ≤ n := by
  rw [hc, i32_le, hK, nI_toInt (by omega)] at h
  omega
theorem vin_s {x : Int32} (h0 : ¬ x < 0) (h1 : ¬ (29 : Int32) ≤ x) : vp_in (x + 1) 30 := by
  obtain ⟨j, hj, rfl⟩ := vp_in_of (vin_cmp (n := 29) h0 h1 (by decide)) (by decide)
  rw [nI_1]; exact vp_in_nI (by omega) (by decide)
theorem vin_le {x : Int32} {a b : Nat} (h : vp_in x a) (hab : a ≤ b) : vp_in x b := by
  have h1 := vp_in_iff.mp h
  exact vp_in_iff.mpr ⟨h1.1, by omega⟩
theorem cnt_s {x : Int32} {i : Nat} (hc : x = nI i) : x + 1 = nI (i + 1) := by rw [hc]; exact nI_1 i
end
section
def l_X0_forget_2 : Nat → Int32 → mS → Nat → Int32 × mS
  | 0, y1, σ, _ => (0, σ)
  | n + 1, y1, σ, q => (if (8 : Int32) ≤ y1 then (0, σ) else (l_X0_forget_2 n (y1 + 1) (st2 (st2 σ (q + 2) y1.toNatClampNeg (0 : Int32)) (q + 4) y1.toNatClampNeg (0 : Int32)) q))
set_option maxRecDepth 100000 in
set_option maxHeartbeats 4000000 in
theorem vl_X0_forget_2 (l : Launch) {G : gT} (X : xT) (hF : Full G) (q : Nat) (hq : aQ q) : ∀ (n : Nat) (y1 : Int32) (σ : mS) (i : Nat) (hc : y1 = nI i) (hi : i ≤ 8) (hn : n + i = 9), V l G X RX0 cX0_forget 2 0 none κV ((fun v => v) (l_X0_forget_2 n y1 σ q)) σ 2 [(0, .ref (ad G q)), (1, .int y1)] [] := by
  intro n
  induction n with
  | zero => intro y1 σ i hc hi hn; exact absurd hn (by omega)
  | succ n ih =>
    intro y1 σ i hc hi hn
    rw [l_X0_forget_2.eq_2]
    refine Vload_n dX0_forget_2 1 rfl 3 rfl ?_
    refine Vbipush dX0_forget_3 (8 : Int32) (by decide) 5 rfl ?_
    refine Vicge (fun v => v) dX0_forget_5 28 8 (by decide) rfl (fun h1 => ?_) (fun h1 => ?_)
    · exact Vvret dX0_forget_28
    · refine Vaload_n dX0_forget_8 0 rfl 9 rfl ?_
      refine Vget (q) 4 dX0_forget_9 12 rfl (aI_ hF hq 0 (by decide)) (ak0 hq) rfl inX0 (by decide) wd_fl_RX0_15 (v := .ref (ad G (q + 2))) rfl ?_
      refine Vload_n dX0_forget_12 1 rfl 13 rfl ?_
      refine Viconst dX0_forget_13 (0 : Int32) (by decide) 14 rfl ?_
      refine Vstz dX0_forget_14 15 rfl (aI_ hF hq 2 (by decide)) (ak2 hq) (an2 hq) hF.2.2.1 (by first | exact (by assumption) | exact (vin_cmp2 (by assumption) (by assumption) (by decide)) | exact (vin_cell (by assumption)) | exact (vin_reg (by assumption)) | exact (vin_row (by assumption)) | exact (vin_cnt (by assumption) (by assumption) (by decide) (by decide) (by assumption)) | exact (vin_cmp (by assumption) (by assumption) (by decide)) | exact (vp_in_iff.mpr (by decide))) (by decide) ?_
      refine Vaload_n dX0_forget_15 0 rfl 16 rfl ?_
      refine Vget (q) 6 dX0_forget_16 19 rfl (aI_ hF hq 0 (by decide)) (ak0 hq) rfl inX0 (by decide) wd_fl_RX0_22 (v := .ref (ad G (q + 4))) rfl ?_
      refine Vload_n dX0_forget_19 1 rfl 20 rfl ?_
      refine Viconst dX0_forget_20 (0 : Int32) (by decide) 21 rfl ?_
      refine Vstz dX0_forget_21 22 rfl (aI_ hF hq 4 (by decide)) (ak4 hq) (an4 hq) hF.2.2.1 (by first | exact (by assumption) | exact (vin_cmp2 (by assumption) (by assumption) (by decide)) | exact (vin_cell (by assumption)) | exact (vin_reg (by assumption)) | exact (vin_row (by assumption)) | exact (vin_cnt (by assumption) (by assumption) (by decide) (by decide) (by assumption)) | exact (vin_cmp (by assumption) (by assumption) (by decide)) | exact (vp_in_iff.mpr (by decide))) (by decide) ?_
      refine Viinc dX0_forget_22 (y1 + 1) 1 [(1, .int (y1 + 1)), (0, .ref (ad G q))] 25 rfl rfl rfl (by decide) rfl ?_
      refine Vgoto dX0_forget_25 2 (by decide) ?_
      refine Vlv [1, 0] rfl ?_
      exact ih (y1 + 1) (st2 (st2 σ (q + 2) y1.toNatClampNeg (0 : Int32)) (q + 4) y1.toNatClampNeg (0 : Int32)) (i + 1) (cnt_s hc) (cnt_lt hc (by assumption) (K := 8) (by decide) (by decide) hi) (by omega)
def f_X0_forget (σ : mS) (q : Nat) : Int32 × mS := (l_X0_forget_2 9 (0 : Int32) σ q)
theorem mw_X0_forget : mW yX0_forget cX0_forget 2 none 0 := ⟨wd_co_yX0_forget, wd_ini_RX0, ⟨by decide, by decide⟩, by decide +kernel, by decide⟩
set_option maxRecDepth 100000 in
set_option maxHeartbeats 4000000 in
theorem c_X0_forget (l : Launch) {G : gT} (hF : Full G) (σ : mS) (q : Nat) (hq : aQ q) : Ct l G yX0_forget cX0_forget 2 none 0 [.ref (ad G q)] κV σ (f_X0_forget σ q) := by
  refine Ct.ofV [(0, .ref (ad G q))] rfl (by decide) (Nat.le_of_ble_eq_true rfl) rfl (fun X => ?_)
  unfold f_X0_forget
  refine Viconst dX0_forget_0 (0 : Int32) (by decide) 1 rfl ?_
  refine Vstore_n dX0_forget_1 [(1, .int (0 : Int32)), (0, .ref (ad G q))] 2 rfl (by decide) rfl ?_
  refine Vlv [1, 0] rfl ?_
  exact vl_X0_forget_2 l X hF q hq 9 (0 : Int32) σ 0 nI_0.symm (Nat.zero_le _) rfl
def f_X5_isCell (x0 : Int32) : Int32 := (if x0 < 0 then (0 : Int32) else (if (8 : Int32) ≤ x0 then (0 : Int32) else (1 : Int32)))
theorem mw_X5_isCell : mW yX5_isCell cX5_isCell 1 (some .boolean) 1 := ⟨wd_co_yX5_isCell, wd_ini_RX5, ⟨by decide, by decide⟩, by decide +kernel, by decide⟩
set_option maxRecDepth 100000 in
set_option maxHeartbeats 4000000 in
theorem c_X5_isCell (l : Launch) {G : gT} (hF : Full G) (σ : mS) (x0 : Int32)  : Ct l G yX5_isCell cX5_isCell 1 (some .boolean) 0 [.int x0] κI σ (f_X5_isCell x0, σ) := by
  refine Ct.ofV [(0, .int x0)] rfl (by decide) (Nat.le_of_ble_eq_true rfl) rfl (fun X => ?_)
  unfold f_X5_isCell
  refine Vload_n dX5_isCell_0 0 rfl 1 rfl ?_
  refine Viflt (fun v => (v, σ)) dX5_isCell_1 14 4 (by decide) rfl (fun h1 => ?_) (fun h1 => ?_)
  · refine Viconst dX5_isCell_14 (0 : Int32) (by decide) 15 rfl ?_
    exact Vzret dX5_isCell_15 (by first | decide | exact nb_isRegister _ | exact nb_isRow _ | exact nb_isPlace _ | exact nb_within _ _ _ | exact nb_mRegister _ | exact nb_mCell _ | exact nb_mPlace _)
  · refine Vload_n dX5_isCell_4 0 rfl 5 rfl ?_
    refine Vbipush dX5_isCell_5 (8 : Int32) (by decide) 7 rfl ?_
    refine Vicge (fun v => (v, σ)) dX5_isCell_7 14 10 (by decide) rfl (fun h2 => ?_) (fun h2 => ?_)
    · refine Viconst dX5_isCell_14 (0 : Int32) (by decide) 15 rfl ?_
      exact Vzret dX5_isCell_15 (by first | decide | exact nb_isRegister _ | exact nb_isRow _ | exact nb_isPlace _ | exact nb_within _ _ _ | exact nb_mRegister _ | exact nb_mCell _ | exact nb_mPlace _)
    · refine Viconst dX5_isCell_10 (1 : Int32) (by decide) 11 rfl ?_
      refine Vgoto dX5_isCell_11 15 (by decide) ?_
      exact Vzret dX5_isCell_15 (by first | decide | exact nb_isRegister _ | exact nb_isRow _ | exact nb_isPlace _ | exact nb_within _ _ _ | exact nb_mRegister _ | exact nb_mCell _ | exact nb_mPlace _)
theorem vin_cell {x : Int32} (h : ¬ f_X5_isCell x = 0) : vp_in x 8 := by
  unfold f_X5_isCell at h
  by_cases h1 : x < 0
  · rw [if_pos h1] at h; exact absurd rfl h
  · rw [if_neg h1] at h
    by_cases h2 : (8 : Int32) ≤ x
    · rw [if_pos h2] at h; exact absurd rfl h
    · exact vin_cmp h1 h2 (by decide)
def f_X0_hasPut (σ : mS) (q : Nat) (x1 : Int32) : Int32 := (if (f_X5_isCell x1) = 0 then (0 : Int32) else (if (σ (q + 2) x1.toNatClampNeg) = 0 then (0 : Int32) else (1 : Int32)))
theorem mw_X0_hasPut : mW yX0_hasPut cX0_hasPut 2 (some .boolean) 1 := ⟨wd_co_yX0_hasPut, wd_ini_RX0, ⟨by decide, by decide⟩, by decide +kernel, by decide⟩
set_option maxRecDepth 100000 in
set_option maxHeartbeats 4000000 in
theorem c_X0_hasPut (l : Launch) {G : gT} (hF : Full G) (σ : mS) (q : Nat) (x1 : Int32) (hq : aQ q) : Ct l G yX0_hasPut cX0_hasPut 2 (some .boolean) 1 [.ref (ad G q), .int x1] κI σ (f_X0_hasPut σ q x1, σ) := by
  refine Ct.ofV [(0, .ref (ad G q)), (1, .int x1)] rfl (by decide) (Nat.le_of_ble_eq_true rfl) rfl (fun X => ?_)
  unfold f_X0_hasPut
  refine Vload_n dX0_hasPut_0 1 rfl 1 rfl ?_
  refine VcSNp dX0_hasPut_1 [.int x1] (c_X5_isCell l hF σ x1) mw_X5_isCell wd_sm_yX5_isCell wd_nml_RX0_28 (by decide) rfl rfl (Nat.le_of_ble_eq_true rfl) 4 rfl ?_
  refine Vifeq (fun v => (v, σ)) dX0_hasPut_4 20 7 (by decide) rfl (fun h1 => ?_) (fun h1 => ?_)
  · refine Viconst dX0_hasPut_20 (0 : Int32) (by decide) 21 rfl ?_
    exact Vzret dX0_hasPut_21 (by first | decide | exact nb_isRegister _ | exact nb_isRow _ | exact nb_isPlace _ | exact nb_within _ _ _ | exact nb_mRegister _ | exact nb_mCell _ | exact nb_mPlace _)
  · refine Vaload_n dX0_hasPut_7 0 rfl 8 rfl ?_
    refine Vget (q) 4 dX0_hasPut_8 11 rfl (aI_ hF hq 0 (by decide)) (ak0 hq) rfl inX0 (by decide) wd_fl_RX0_15 (v := .ref (ad G (q + 2))) rfl ?_
    refine Vload_n dX0_hasPut_11 1 rfl 12 rfl ?_
    refine Vldz dX0_hasPut_12 13 rfl (aI_ hF hq 2 (by decide)) (ak2 hq) (an2 hq) hF.2.2.1 (by first | exact (by assumption) | exact (vin_cmp2 (by assumption) (by assumption) (by decide)) | exact (vin_cell (by assumption)) | exact (vin_reg (by assumption)) | exact (vin_row (by assumption)) | exact (vin_cnt (by assumption) (by assumption) (by decide) (by decide) (by assumption)) | exact (vin_cmp (by assumption) (by assumption) (by decide)) | exact (vp_in_iff.mpr (by decide))) ?_
    refine Vifeq (fun v => (v, σ)) dX0_hasPut_13 20 16 (by decide) rfl (fun h2 => ?_) (fun h2 => ?_)
    · refine Viconst dX0_hasPut_20 (0 : Int32) (by decide) 21 rfl ?_
      exact Vzret dX0_hasPut_21 (by first | decide | exact nb_isRegister _ | exact nb_isRow _ | exact nb_isPlace _ | exact nb_within _ _ _ | exact nb_mRegister _ | exact nb_mCell _ | exact nb_mPlace _)
    · refine Viconst dX0_hasPut_16 (1 : Int32) (by decide) 17 rfl ?_
      refine Vgoto dX0_hasPut_17 21 (by decide) ?_
      exact Vzret dX0_hasPut_21 (by first | decide | exact nb_isRegister _ | exact nb_isRow _ | exact nb_isPlace _ | exact nb_within _ _ _ | exact nb_mRegister _ | exact nb_mCell _ | exact nb_mPlace _)
def f_X0_putNumber (σ : mS) (q : Nat) (x1 : Int32) : Int32 := (if (f_X5_isCell x1) = 0 then (0 : Int32) else (σ (q + 3) x1.toNatClampNeg))
theorem mw_X0_putNumber : mW yX0_putNumber cX0_putNumber 2 (some .int) 1 := ⟨wd_co_yX0_putNumber, wd_ini_RX0, ⟨by decide, by decide⟩, by decide +kernel, by decide⟩
set_option maxRecDepth 100000 in
set_option maxHeartbeats 4000000 in
theorem c_X0_putNumber (l : Launch) {G : gT} (hF : Full G) (σ : mS) (q : Nat) (x1 : Int32) (hq : aQ q) : Ct l G yX0_putNumber cX0_putNumber 2 (some .int) 1 [.ref (ad G q), .int x1] κI σ (f_X0_putNumber σ q x1, σ) := by
  refine Ct.ofV [(0, .ref (ad G q)), (1, .int x1)] rfl (by decide) (Nat.le_of_ble_eq_true rfl) rfl (fun X => ?_)
  unfold f_X0_putNumber
  refine Vload_n dX0_putNumber_0 1 rfl 1 rfl ?_
  refine VcSNp dX0_putNumber_1 [.int x1] (c_X5_isCell l hF σ x1) mw_X5_isCell wd_sm_yX5_isCell wd_nml_RX0_28 (by decide) rfl rfl (Nat.le_of_ble_eq_true rfl) 4 rfl ?_
  refine Vifeq (fun v => (v, σ)) dX0_putNumber_4 16 7 (by decide) rfl (fun h1 => ?_) (fun h1 => ?_)
  · refine Viconst dX0_putNumber_16 (0 : Int32) (by decide) 17 rfl ?_
    exact Viret dX0_putNumber_17
  · refine Vaload_n dX0_putNumber_7 0 rfl 8 rfl ?_
    refine Vget (q) 5 dX0_putNumber_8 11 rfl (aI_ hF hq 0 (by decide)) (ak0 hq) rfl inX0 (by decide) wd_fl_RX0_19 (v := .ref (ad G (q + 3))) rfl ?_
    refine Vload_n dX0_putNumber_11 1 rfl 12 rfl ?_
    refine Vld dX0_putNumber_12 13 rfl (aI_ hF hq 3 (by decide)) (ak3 hq) (an3 hq) hF.2.1 (by first | exact (by assumption) | exact (vin_cmp2 (by assumption) (by assumption) (by decide)) | exact (vin_cell (by assumption)) | exact (vin_reg (by assumption)) | exact (vin_row (by assumption)) | exact (vin_cnt (by assumption) (by assumption) (by decide) (by decide) (by assumption)) | exact (vin_cmp (by assumption) (by assumption) (by decide)) | exact (vp_in_iff.mpr (by decide))) ?_
    refine Vgoto dX0_putNumber_13 17 (by decide) ?_
    exact Viret dX0_putNumber_17
def f_X0_notePut (σ : mS) (q : Nat) (x1 : Int32) (x2 : Int32) : Int32 × mS := (if (f_X5_isCell x1) = 0 then (0, σ) else (0, (st2 (st2 σ (q + 2) x1.toNatClampNeg (1 : Int32)) (q + 3) x1.toNatClampNeg x2)))
theorem mw_X0_notePut : mW yX0_notePut cX0_notePut 3 none 2 := ⟨wd_co_yX0_notePut, wd_ini_RX0, ⟨by decide, by decide⟩, by decide +kernel, by decide⟩
set_option maxRecDepth 100000 in
set_option maxHeartbeats 4000000 in
theorem c_X0_notePut (l : Launch) {G : gT} (hF : Full G) (σ : mS) (q : Nat) (x1 : Int32) (x2 : Int32) (hq : aQ q) : Ct l G yX0_notePut cX0_notePut 3 none 1 [.ref (ad G q), .int x1, .int x2] κV σ (f_X0_notePut σ q x1 x2) := by
  refine Ct.ofV [(0, .ref (ad G q)), (1, .int x1), (2, .int x2)] rfl (by decide) (Nat.le_of_ble_eq_true rfl) rfl (fun X => ?_)
  unfold f_X0_notePut
  refine Vload_n dX0_notePut_0 1 rfl 1 rfl ?_
  refine VcSNp dX0_notePut_1 [.int x1] (c_X5_isCell l hF σ x1) mw_X5_isCell wd_sm_yX5_isCell wd_nml_RX0_28 (by decide) rfl rfl (Nat.le_of_ble_eq_true rfl) 4 rfl ?_
  refine Vifeq (fun v => v) dX0_notePut_4 21 7 (by decide) rfl (fun h1 => ?_) (fun h1 => ?_)
  · exact Vvret dX0_notePut_21
  · refine Vaload_n dX0_notePut_7 0 rfl 8 rfl ?_
    refine Vget (q) 4 dX0_notePut_8 11 rfl (aI_ hF hq 0 (by decide)) (ak0 hq) rfl inX0 (by decide) wd_fl_RX0_15 (v := .ref (ad G (q + 2))) rfl ?_
    refine Vload_n dX0_notePut_11 1 rfl 12 rfl ?_
    refine Viconst dX0_notePut_12 (1 : Int32) (by decide) 13 rfl ?_
    refine Vstz dX0_notePut_13 14 rfl (aI_ hF hq 2 (by decide)) (ak2 hq) (an2 hq) hF.2.2.1 (by first | exact (by assumption) | exact (vin_cmp2 (by assumption) (by assumption) (by decide)) | exact (vin_cell (by assumption)) | exact (vin_reg (by assumption)) | exact (vin_row (by assumption)) | exact (vin_cnt (by assumption) (by assumption) (by decide) (by decide) (by assumption)) | exact (vin_cmp (by assumption) (by assumption) (by decide)) | exact (vp_in_iff.mpr (by decide))) (by decide) ?_
    refine Vaload_n dX0_notePut_14 0 rfl 15 rfl ?_
    refine Vget (q) 5 dX0_notePut_15 18 rfl (aI_ hF hq 0 (by decide)) (ak0 hq) rfl inX0 (by decide) wd_fl_RX0_19 (v := .ref (ad G (q + 3))) rfl ?_
    refine Vload_n dX0_notePut_18 1 rfl 19 rfl ?_
    refine Vload_n dX0_notePut_19 2 rfl 20 rfl ?_
    refine Vst dX0_notePut_20 21 rfl (aI_ hF hq 3 (by decide)) (ak3 hq) (an3 hq) hF.2.1 (by first | exact (by assumption) | exact (vin_cmp2 (by assumption) (by assumption) (by decide)) | exact (vin_cell (by assumption)) | exact (vin_reg (by assumption)) | exact (vin_row (by assumption)) | exact (vin_cnt (by assumption) (by assumption) (by decide) (by decide) (by assumption)) | exact (vin_cmp (by assumption) (by assumption) (by decide)) | exact (vp_in_iff.mpr (by decide))) ?_
    exact Vvret dX0_notePut_21
def f_X0_hasRead (σ : mS) (q : Nat) (x1 : Int32) : Int32 := (if (f_X5_isCell x1) = 0 then (0 : Int32) else (if (σ (q + 4) x1.toNatClampNeg) = 0 then (0 : Int32) else (1 : Int32)))
theorem mw_X0_hasRead : mW yX0_hasRead cX0_hasRead 2 (some .boolean) 1 := ⟨wd_co_yX0_hasRead, wd_ini_RX0, ⟨by decide, by decide⟩, by decide +kernel, by decide⟩
set_option maxRecDepth 100000 in
set_option maxHeartbeats 4000000 in
theorem c_X0_hasRead (l : Launch) {G : gT} (hF : Full G) (σ : mS) (q : Nat) (x1 : Int32) (hq : aQ q) : Ct l G yX0_hasRead cX0_hasRead 2 (some .boolean) 1 [.ref (ad G q), .int x1] κI σ (f_X0_hasRead σ q x1, σ) := by
  refine Ct.ofV [(0, .ref (ad G q)), (1, .int x1)] rfl (by decide) (Nat.le_of_ble_eq_true rfl) rfl (fun X => ?_)
  unfold f_X0_hasRead
  refine Vload_n dX0_hasRead_0 1 rfl 1 rfl ?_
  refine VcSNp dX0_hasRead_1 [.int x1] (c_X5_isCell l hF σ x1) mw_X5_isCell wd_sm_yX5_isCell wd_nml_RX0_28 (by decide) rfl rfl (Nat.le_of_ble_eq_true rfl) 4 rfl ?_
  refine Vifeq (fun v => (v, σ)) dX0_hasRead_4 20 7 (by decide) rfl (fun h1 => ?_) (fun h1 => ?_)
  · refine Viconst dX0_hasRead_20 (0 : Int32) (by decide) 21 rfl ?_
    exact Vzret dX0_hasRead_21 (by first | decide | exact nb_isRegister _ | exact nb_isRow _ | exact nb_isPlace _ | exact nb_within _ _ _ | exact nb_mRegister _ | exact nb_mCell _ | exact nb_mPlace _)
  · refine Vaload_n dX0_hasRead_7 0 rfl 8 rfl ?_
    refine Vget (q) 6 dX0_hasRead_8 11 rfl (aI_ hF hq 0 (by decide)) (ak0 hq) rfl inX0 (by decide) wd_fl_RX0_22 (v := .ref (ad G (q + 4))) rfl ?_
    refine Vload_n dX0_hasRead_11 1 rfl 12 rfl ?_
    refine Vldz dX0_hasRead_12 13 rfl (aI_ hF hq 4 (by decide)) (ak4 hq) (an4 hq) hF.2.2.1 (by first | exact (by assumption) | exact (vin_cmp2 (by assumption) (by assumption) (by decide)) | exact (vin_cell (by assumption)) | exact (vin_reg (by assumption)) | exact (vin_row (by assumption)) | exact (vin_cnt (by assumption) (by assumption) (by decide) (by decide) (by assumption)) | exact (vin_cmp (by assumption) (by assumption) (by decide)) | exact (vp_in_iff.mpr (by decide))) ?_
    refine Vifeq (fun v => (v, σ)) dX0_hasRead_13 20 16 (by decide) rfl (fun h2 => ?_) (fun h2 => ?_)
    · refine Viconst dX0_hasRead_20 (0 : Int32) (by decide) 21 rfl ?_
      exact Vzret dX0_hasRead_21 (by first | decide | exact nb_isRegister _ | exact nb_isRow _ | exact nb_isPlace _ | exact nb_within _ _ _ | exact nb_mRegister _ | exact nb_mCell _ | exact nb_mPlace _)
    · refine Viconst dX0_hasRead_16 (1 : Int32) (by decide) 17 rfl ?_
      refine Vgoto dX0_hasRead_17 21 (by decide) ?_
      exact Vzret dX0_hasRead_21 (by first | decide | exact nb_isRegister _ | exact nb_isRow _ | exact nb_isPlace _ | exact nb_within _ _ _ | exact nb_mRegister _ | exact nb_mCell _ | exact nb_mPlace _)
def f_X0_firstNumber (σ : mS) (q : Nat) (x1 : Int32) : Int32 := (if (f_X5_isCell x1) = 0 then (0 : Int32) else (σ (q + 5) x1.toNatClampNeg))
theorem mw_X0_firstNumber : mW yX0_firstNumber cX0_firstNumber 2 (some .int) 1 := ⟨wd_co_yX0_firstNumber, wd_ini_RX0, ⟨by decide, by decide⟩, by decide +kernel, by decide⟩
set_option maxRecDepth 100000 in
set_option maxHeartbeats 4000000 in
theorem c_X0_firstNumber (l : Launch) {G : gT} (hF : Full G) (σ : mS) (q : Nat) (x1 : Int32) (hq : aQ q) : Ct l G yX0_firstNumber cX0_firstNumber 2 (some .int) 1 [.ref (ad G q), .int x1] κI σ (f_X0_firstNumber σ q x1, σ) := by
  refine Ct.ofV [(0, .ref (ad G q)), (1, .int x1)] rfl (by decide) (Nat.le_of_ble_eq_true rfl) rfl (fun X => ?_)
  unfold f_X0_firstNumber
  refine Vload_n dX0_firstNumber_0 1 rfl 1 rfl ?_
  refine VcSNp dX0_firstNumber_1 [.int x1] (c_X5_isCell l hF σ x1) mw_X5_isCell wd_sm_yX5_isCell wd_nml_RX0_28 (by decide) rfl rfl (Nat.le_of_ble_eq_true rfl) 4 rfl ?_
  refine Vifeq (fun v => (v, σ)) dX0_firstNumber_4 16 7 (by decide) rfl (fun h1 => ?_) (fun h1 => ?_)
  · refine Viconst dX0_firstNumber_16 (0 : Int32) (by decide) 17 rfl ?_
    exact Viret dX0_firstNumber_17
  · refine Vaload_n dX0_firstNumber_7 0 rfl 8 rfl ?_
    refine Vget (q) 7 dX0_firstNumber_8 11 rfl (aI_ hF hq 0 (by decide)) (ak0 hq) rfl inX0 (by decide) wd_fl_RX0_25 (v := .ref (ad G (q + 5))) rfl ?_
    refine Vload_n dX0_firstNumber_11 1 rfl 12 rfl ?_
    refine Vld dX0_firstNumber_12 13 rfl (aI_ hF hq 5 (by decide)) (ak5 hq) (an5 hq) hF.2.1 (by first | exact (by assumption) | exact (vin_cmp2 (by assumption) (by assumption) (by decide)) | exact (vin_cell (by assumption)) | exact (vin_reg (by assumption)) | exact (vin_row (by assumption)) | exact (vin_cnt (by assumption) (by assumption) (by decide) (by decide) (by assumption)) | exact (vin_cmp (by assumption) (by assumption) (by decide)) | exact (vp_in_iff.mpr (by decide))) ?_
    refine Vgoto dX0_firstNumber_13 17 (by decide) ?_
    exact Viret dX0_firstNumber_17
def f_X0_noteReading (σ : mS) (q : Nat) (x1 : Int32) (x2 : Int32) : Int32 × mS := (if (f_X5_isCell x1) = 0 then (0, σ) else (if (σ (q + 4) x1.toNatClampNeg) = 0 then (0, (st2 (st2 σ (q + 4) x1.toNatClampNeg (1 : Int32)) (q + 5) x1.toNatClampNeg x2)) else (0, σ)))
theorem mw_X0_noteReading : mW yX0_noteReading cX0_noteReading 3 none 2 := ⟨wd_co_yX0_noteReading, wd_ini_RX0, ⟨by decide, by decide⟩, by decide +kernel, by decide⟩
set_option maxRecDepth 100000 in
set_option maxHeartbeats 4000000 in
theorem c_X0_noteReading (l : Launch) {G : gT} (hF : Full G) (σ : mS) (q : Nat) (x1 : Int32) (x2 : Int32) (hq : aQ q) : Ct l G yX0_noteReading cX0_noteReading 3 none 1 [.ref (ad G q), .int x1, .int x2] κV σ (f_X0_noteReading σ q x1 x2) := by
  refine Ct.ofV [(0, .ref (ad G q)), (1, .int x1), (2, .int x2)] rfl (by decide) (Nat.le_of_ble_eq_true rfl) rfl (fun X => ?_)
  unfold f_X0_noteReading
  refine Vload_n dX0_noteReading_0 1 rfl 1 rfl ?_
  refine VcSNp dX0_noteReading_1 [.int x1] (c_X5_isCell l hF σ x1) mw_X5_isCell wd_sm_yX5_isCell wd_nml_RX0_28 (by decide) rfl rfl (Nat.le_of_ble_eq_true rfl) 4 rfl ?_
  refine Vifeq (fun v => v) dX0_noteReading_4 30 7 (by decide) rfl (fun h1 => ?_) (fun h1 => ?_)
  · exact Vvret dX0_noteReading_30
  · refine Vaload_n dX0_noteReading_7 0 rfl 8 rfl ?_
    refine Vget (q) 6 dX0_noteReading_8 11 rfl (aI_ hF hq 0 (by decide)) (ak0 hq) rfl inX0 (by decide) wd_fl_RX0_22 (v := .ref (ad G (q + 4))) rfl ?_
    refine Vload_n dX0_noteReading_11 1 rfl 12 rfl ?_
    refine Vldz dX0_noteReading_12 13 rfl (aI_ hF hq 4 (by decide)) (ak4 hq) (an4 hq) hF.2.2.1 (by first | exact (by assumption) | exact (vin_cmp2 (by assumption) (by assumption) (by decide)) | exact (vin_cell (by assumption)) | exact (vin_reg (by assumption)) | exact (vin_row (by assumption)) | exact (vin_cnt (by assumption) (by assumption) (by decide) (by decide) (by assumption)) | exact (vin_cmp (by assumption) (by assumption) (by decide)) | exact (vp_in_iff.mpr (by decide))) ?_
    refine Vifne (fun v => v) dX0_noteReading_13 30 16 (by decide) rfl (fun h2 => ?_) (fun h2 => ?_)
    · exact Vvret dX0_noteReading_30
    · refine Vaload_n dX0_noteReading_16 0 rfl 17 rfl ?_
      refine Vget (q) 6 dX0_noteReading_17 20 rfl (aI_ hF hq 0 (by decide)) (ak0 hq) rfl inX0 (by decide) wd_fl_RX0_22 (v := .ref (ad G (q + 4))) rfl ?_
      refine Vload_n dX0_noteReading_20 1 rfl 21 rfl ?_
      refine Viconst dX0_noteReading_21 (1 : Int32) (by decide) 22 rfl ?_
      refine Vstz dX0_noteReading_22 23 rfl (aI_ hF hq 4 (by decide)) (ak4 hq) (an4 hq) hF.2.2.1 (by first | exact (by assumption) | exact (vin_cmp2 (by assumption) (by assumption) (by decide)) | exact (vin_cell (by assumption)) | exact (vin_reg (by assumption)) | exact (vin_row (by assumption)) | exact (vin_cnt (by assumption) (by assumption) (by decide) (by decide) (by assumption)) | exact (vin_cmp (by assumption) (by assumption) (by decide)) | exact (vp_in_iff.mpr (by decide))) (by decide) ?_
      refine Vaload_n dX0_noteReading_23 0 rfl 24 rfl ?_
      refine Vget (q) 7 dX0_noteReading_24 27 rfl (aI_ hF hq 0 (by decide)) (ak0 hq) rfl inX0 (by decide) wd_fl_RX0_25 (v := .ref (ad G (q + 5))) rfl ?_
      refine Vload_n dX0_noteReading_27 1 rfl 28 rfl ?_
      refine Vload_n dX0_noteReading_28 2 rfl 29 rfl ?_
      refine Vst dX0_noteReading_29 30 rfl (aI_ hF hq 5 (by decide)) (ak5 hq) (an5 hq) hF.2.1 (by first | exact (by assumption) | exact (vin_cmp2 (by assumption) (by assumption) (by decide)) | exact (vin_cell (by assumption)) | exact (vin_reg (by assumption)) | exact (vin_row (by assumption)) | exact (vin_cnt (by assumption) (by assumption) (by decide) (by decide) (by assumption)) | exact (vin_cmp (by assumption) (by assumption) (by decide)) | exact (vp_in_iff.mpr (by decide))) ?_
      exact Vvret dX0_noteReading_30
def l_J7_fill_53178_5 : Nat → Int32 → mS → Nat → Nat → Int32 → Int32 × mS
  | 0, y2, σ, _, _, _ => (0, σ)
  | n + 1, y2, σ, q, len, x1 => (if (nI len) ≤ y2 then (0, σ) else (l_J7_fill_53178_5 n (y2 + 1) (st2 σ q y2.toNatClampNeg x1) q len x1))
set_option maxRecDepth 100000 in
set_option maxHeartbeats 4000000 in
theorem vl_J7_fill_53178_5 (l : Launch) {G : gT} (X : xT) (hT0 : (gY G)[0]? = some ((gC G).1, .int)) (q : Nat) (len : Nat) (x1 : Int32) (hq : q ∈ gI G) (hk : wK q = 0) (hlen : wN q = len) (h31 : len < 2 ^ 31) : ∀ (n : Nat) (y2 : Int32) (σ : mS) (i : Nat) (hc : y2 = nI i) (hi : i ≤ len) (hn : n + i = len + 1), V l G X RJ7 cJ7_fill_53178 4 0 none κV ((fun v => v) (l_J7_fill_53178_5 n y2 σ q len x1)) σ 5 [(0, .ref (ad G q)), (1, .int x1), (2, .int y2), (3, .int (nI len))] [] := by
  intro n
  induction n with
  | zero => intro y2 σ i hc hi hn; exact absurd hn (by omega)
  | succ n ih =>
    intro y2 σ i hc hi hn
    rw [l_J7_fill_53178_5.eq_2]
    refine Vload_n dJ7_fill_53178_5 2 rfl 6 rfl ?_
    refine Vload_n dJ7_fill_53178_6 3 rfl 7 rfl ?_
    refine Vicge (fun v => v) dJ7_fill_53178_7 20 10 (by decide) rfl (fun h1 => ?_) (fun h1 => ?_)
    · exact Vvret dJ7_fill_53178_20
    · refine Vaload_n dJ7_fill_53178_10 0 rfl 11 rfl ?_
      refine Vload_n dJ7_fill_53178_11 2 rfl 12 rfl ?_
      refine Vload_n dJ7_fill_53178_12 1 rfl 13 rfl ?_
      refine Vst dJ7_fill_53178_13 14 rfl hq hk hlen hT0 (vin_cnt hc (by assumption) (K := nI len) (nI_toInt h31) h31 hi) ?_
      refine Viinc dJ7_fill_53178_14 (y2 + 1) 2 [(2, .int (y2 + 1)), (0, .ref (ad G q)), (1, .int x1), (3, .int (nI len))] 17 rfl rfl rfl (by decide) rfl ?_
      refine Vgoto dJ7_fill_53178_17 5 (by decide) ?_
      refine Vlv [1, 2, 0, 3] rfl ?_
      exact ih (y2 + 1) (st2 σ q y2.toNatClampNeg x1) (i + 1) (cnt_s hc) (cnt_lt hc (by assumption) (K := nI len) (nI_toInt h31) h31 hi) (by omega)
def f_J7_fill_53178 (σ : mS) (q : Nat) (len : Nat) (x1 : Int32) : Int32 × mS := (l_J7_fill_53178_5 (len + 1) (0 : Int32) σ q len x1)
theorem mw_J7_fill_53178 : mW yJ7_fill_53178 cJ7_fill_53178 4 none 2 := ⟨wd_co_yJ7_fill_53178, wd_ini_RJ7, ⟨by decide, by decide⟩, by decide +kernel, by decide⟩
set_option maxRecDepth 100000 in
set_option maxHeartbeats 4000000 in
theorem c_J7_fill_53178 (l : Launch) {G : gT} (hT0 : (gY G)[0]? = some ((gC G).1, .int)) (σ : mS) (q : Nat) (len : Nat) (x1 : Int32) (hq : q ∈ gI G) (hk : wK q = 0) (hlen : wN q = len) (h31 : len < 2 ^ 31) : Ct l G yJ7_fill_53178 cJ7_fill_53178 4 none 0 [.ref (ad G q), .int x1] κV σ (f_J7_fill_53178 σ q len x1) := by
  refine Ct.ofV [(0, .ref (ad G q)), (1, .int x1)] rfl (by decide) (Nat.le_of_ble_eq_true rfl) rfl (fun X => ?_)
  unfold f_J7_fill_53178
  refine Viconst dJ7_fill_53178_0 (0 : Int32) (by decide) 1 rfl ?_
  refine Vstore_n dJ7_fill_53178_1 [(2, .int (0 : Int32)), (0, .ref (ad G q)), (1, .int x1)] 2 rfl (by decide) rfl ?_
  refine Vaload_n dJ7_fill_53178_2 1 rfl 3 rfl ?_
  refine Vlen dJ7_fill_53178_3 (nI len) 4 rfl hq hk hlen hT0 rfl ?_
  refine Vstore_n dJ7_fill_53178_4 [(3, .int (nI len)), (2, .int (0 : Int32)), (0, .ref (ad G q)), (1, .int x1)] 5 rfl (by decide) rfl ?_
  refine Vlv [2, 3, 1, 0] rfl ?_
  exact vl_J7_fill_53178_5 l X hT0 q len x1 hq hk hlen h31 (len + 1) (0 : Int32) σ 0 nI_0.symm (Nat.zero_le _) rfl
def f_X1_reset (σ : mS)  : Int32 × mS := (ap (fun u1 => (ap (fun u2 => (0, (st2 u2.2 5 4 (0 : Int32)))) (f_J7_fill_53178 u1.2 3 8 (-1 : Int32)))) (f_J7_fill_53178 σ 2 8 (0 : Int32)))
theorem mw_X1_reset : mW yX1_reset cX1_reset 1 none 0 := ⟨wd_co_yX1_reset, wd_ini_RX1, ⟨by decide, by decide⟩, by decide +kernel, by decide⟩
set_option maxRecDepth 100000 in
set_option maxHeartbeats 4000000 in
theorem c_X1_reset (l : Launch) {G : gT} (hI : ∀ q : Nat, q ∈ [1, 2, 3, 5] → q ∈ gI G) (hT0 : (gY G)[0]? = some ((gC G).1, .int)) (σ : mS)   : Ct l G yX1_reset cX1_reset 1 none 1 [.ref (ad G 1)] κV σ (f_X1_reset σ) := by
  refine Ct.ofV [(0, .ref (ad G 1))] rfl (by decide) (Nat.le_of_ble_eq_true rfl) rfl (fun X => ?_)
  unfold f_X1_reset
  refine Vaload_n dX1_reset_0 0 rfl 1 rfl ?_
  refine Vget (1) 0 dX1_reset_1 4 rfl (hI 1 (by decide)) wk1 rfl inX1 (by decide) wd_fl_RX1_9 (v := .ref (ad G 2)) rfl ?_
  refine Viconst dX1_reset_4 (0 : Int32) (by decide) 5 rfl ?_
  refine Vgen ?_
  intro u1 eu1
  refine VcSv (u := u1) dX1_reset_5 [.ref (ad G 2), .int (0 : Int32)] (by rw [eu1]; exact c_J7_fill_53178 l hT0 σ 2 8 (0 : Int32) (hI 2 (by decide)) wk2 wn2 (by decide)) mw_J7_fill_53178 wd_sm_yJ7_fill_53178 wd_ml_RX1_31 (by decide) rfl rfl (Nat.le_of_ble_eq_true rfl) 8 rfl ?_
  refine Vaload_n dX1_reset_8 0 rfl 9 rfl ?_
  refine Vget (1) 1 dX1_reset_9 12 rfl (hI 1 (by decide)) wk1 rfl inX1 (by decide) wd_fl_RX1_15 (v := .ref (ad G 3)) rfl ?_
  refine Viconst dX1_reset_12 (-1 : Int32) (by decide) 13 rfl ?_
  refine Vgen ?_
  intro u2 eu2
  refine VcSv (u := u2) dX1_reset_13 [.ref (ad G 3), .int (-1 : Int32)] (by rw [eu2]; exact c_J7_fill_53178 l hT0 u1.2 3 8 (-1 : Int32) (hI 3 (by decide)) wk3 wn3 (by decide)) mw_J7_fill_53178 wd_sm_yJ7_fill_53178 wd_ml_RX1_31 (by decide) rfl rfl (Nat.le_of_ble_eq_true rfl) 16 rfl ?_
  refine Vaload_n dX1_reset_16 0 rfl 17 rfl ?_
  refine Vget (1) 3 dX1_reset_17 20 rfl (hI 1 (by decide)) wk1 rfl inX1 (by decide) wd_fl_RX1_24 (v := .ref (ad G 5)) rfl ?_
  refine Viconst dX1_reset_20 (0 : Int32) (by decide) 21 rfl ?_
  refine VputN (5) 4 tyX2 dX1_reset_21 24 rfl (hI 5 (by decide)) wk5 rfl inX2 tyX2_ok nmX2 (by decide) wd_nfl_RX1_37 rfl (ty := .int) (by decide +kernel) rfl rfl (fun f => rfl) (fun f => Nat.le_of_ble_eq_true rfl) ?_
  exact Vvret dX1_reset_24
def f_X1_isLazy (σ : mS) (x1 : Int32) : Int32 := (if (f_X5_isCell x1) = 0 then (0 : Int32) else (if (σ 3 x1.toNatClampNeg) = (-1 : Int32) then (0 : Int32) else (1 : Int32)))
theorem mw_X1_isLazy : mW yX1_isLazy cX1_isLazy 2 (some .boolean) 1 := ⟨wd_co_yX1_isLazy, wd_ini_RX1, ⟨by decide, by decide⟩, by decide +kernel, by decide⟩
set_option maxRecDepth 100000 in
set_option maxHeartbeats 4000000 in
theorem c_X1_isLazy (l : Launch) {G : gT} (hF : Full G) (σ : mS) (x1 : Int32)  : Ct l G yX1_isLazy cX1_isLazy 2 (some .boolean) 1 [.ref (ad G 1), .int x1] κI σ (f_X1_isLazy σ x1, σ) := by
  refine Ct.ofV [(0, .ref (ad G 1)), (1, .int x1)] rfl (by decide) (Nat.le_of_ble_eq_true rfl) rfl (fun X => ?_)
  unfold f_X1_isLazy
  refine Vload_n dX1_isLazy_0 1 rfl 1 rfl ?_
  refine VcSNp dX1_isLazy_1 [.int x1] (c_X5_isCell l hF σ x1) mw_X5_isCell wd_sm_yX5_isCell wd_nml_RX1_41 (by decide) rfl rfl (Nat.le_of_ble_eq_true rfl) 4 rfl ?_
  refine Vifeq (fun v => (v, σ)) dX1_isLazy_4 21 7 (by decide) rfl (fun h1 => ?_) (fun h1 => ?_)
  · refine Viconst dX1_isLazy_21 (0 : Int32) (by decide) 22 rfl ?_
    exact Vzret dX1_isLazy_22 (by first | decide | exact nb_isRegister _ | exact nb_isRow _ | exact nb_isPlace _ | exact nb_within _ _ _ | exact nb_mRegister _ | exact nb_mCell _ | exact nb_mPlace _)
  · refine Vaload_n dX1_isLazy_7 0 rfl 8 rfl ?_
    refine Vget (1) 1 dX1_isLazy_8 11 rfl (hF.1 1 (by decide)) wk1 rfl inX1 (by decide) wd_fl_RX1_15 (v := .ref (ad G 3)) rfl ?_
    refine Vload_n dX1_isLazy_11 1 rfl 12 rfl ?_
    refine Vld dX1_isLazy_12 13 rfl (hF.1 3 (by decide)) wk3 wn3 hF.2.1 (by first | exact (by assumption) | exact (vin_cmp2 (by assumption) (by assumption) (by decide)) | exact (vin_cell (by assumption)) | exact (vin_reg (by assumption)) | exact (vin_row (by assumption)) | exact (vin_cnt (by assumption) (by assumption) (by decide) (by decide) (by assumption)) | exact (vin_cmp (by assumption) (by assumption) (by decide)) | exact (vp_in_iff.mpr (by decide))) ?_
    refine Viconst dX1_isLazy_13 (-1 : Int32) (by decide) 14 rfl ?_
    refine Viceq (fun v => (v, σ)) dX1_isLazy_14 21 17 (by decide) rfl (fun h2 => ?_) (fun h2 => ?_)
    · refine Viconst dX1_isLazy_21 (0 : Int32) (by decide) 22 rfl ?_
      exact Vzret dX1_isLazy_22 (by first | decide | exact nb_isRegister _ | exact nb_isRow _ | exact nb_isPlace _ | exact nb_within _ _ _ | exact nb_mRegister _ | exact nb_mCell _ | exact nb_mPlace _)
    · refine Viconst dX1_isLazy_17 (1 : Int32) (by decide) 18 rfl ?_
      refine Vgoto dX1_isLazy_18 22 (by decide) ?_
      exact Vzret dX1_isLazy_22 (by first | decide | exact nb_isRegister _ | exact nb_isRow _ | exact nb_isPlace _ | exact nb_within _ _ _ | exact nb_mRegister _ | exact nb_mCell _ | exact nb_mPlace _)
def f_X1_shown (σ : mS) (x1 : Int32) : Int32 := (if (f_X5_isCell x1) = 0 then (0 : Int32) else (if (σ 3 x1.toNatClampNeg) = (-1 : Int32) then (σ 2 x1.toNatClampNeg) else (σ 3 x1.toNatClampNeg)))
theorem mw_X1_shown : mW yX1_shown cX1_shown 2 (some .int) 1 := ⟨wd_co_yX1_shown, wd_ini_RX1, ⟨by decide, by decide⟩, by decide +kernel, by decide⟩
set_option maxRecDepth 100000 in
set_option maxHeartbeats 4000000 in
theorem c_X1_shown (l : Launch) {G : gT} (hF : Full G) (σ : mS) (x1 : Int32)  : Ct l G yX1_shown cX1_shown 2 (some .int) 1 [.ref (ad G 1), .int x1] κI σ (f_X1_shown σ x1, σ) := by
  refine Ct.ofV [(0, .ref (ad G 1)), (1, .int x1)] rfl (by decide) (Nat.le_of_ble_eq_true rfl) rfl (fun X => ?_)
  unfold f_X1_shown
  refine Vload_n dX1_shown_0 1 rfl 1 rfl ?_
  refine VcSNp dX1_shown_1 [.int x1] (c_X5_isCell l hF σ x1) mw_X5_isCell wd_sm_yX5_isCell wd_nml_RX1_41 (by decide) rfl rfl (Nat.le_of_ble_eq_true rfl) 4 rfl ?_
  refine Vifne (fun v => (v, σ)) dX1_shown_4 9 7 (by decide) rfl (fun h1 => ?_) (fun h1 => ?_)
  · refine Vaload_n dX1_shown_9 0 rfl 10 rfl ?_
    refine Vget (1) 1 dX1_shown_10 13 rfl (hF.1 1 (by decide)) wk1 rfl inX1 (by decide) wd_fl_RX1_15 (v := .ref (ad G 3)) rfl ?_
    refine Vload_n dX1_shown_13 1 rfl 14 rfl ?_
    refine Vld dX1_shown_14 15 rfl (hF.1 3 (by decide)) wk3 wn3 hF.2.1 (by first | exact (by assumption) | exact (vin_cmp2 (by assumption) (by assumption) (by decide)) | exact (vin_cell (by assumption)) | exact (vin_reg (by assumption)) | exact (vin_row (by assumption)) | exact (vin_cnt (by assumption) (by assumption) (by decide) (by decide) (by assumption)) | exact (vin_cmp (by assumption) (by assumption) (by decide)) | exact (vp_in_iff.mpr (by decide))) ?_
    refine Viconst dX1_shown_15 (-1 : Int32) (by decide) 16 rfl ?_
    refine Viceq (fun v => (v, σ)) dX1_shown_16 28 19 (by decide) rfl (fun h2 => ?_) (fun h2 => ?_)
    · refine Vaload_n dX1_shown_28 0 rfl 29 rfl ?_
      refine Vget (1) 0 dX1_shown_29 32 rfl (hF.1 1 (by decide)) wk1 rfl inX1 (by decide) wd_fl_RX1_9 (v := .ref (ad G 2)) rfl ?_
      refine Vload_n dX1_shown_32 1 rfl 33 rfl ?_
      refine Vld dX1_shown_33 34 rfl (hF.1 2 (by decide)) wk2 wn2 hF.2.1 (by first | exact (by assumption) | exact (vin_cmp2 (by assumption) (by assumption) (by decide)) | exact (vin_cell (by assumption)) | exact (vin_reg (by assumption)) | exact (vin_row (by assumption)) | exact (vin_cnt (by assumption) (by assumption) (by decide) (by decide) (by assumption)) | exact (vin_cmp (by assumption) (by assumption) (by decide)) | exact (vp_in_iff.mpr (by decide))) ?_
      exact Viret dX1_shown_34
    · refine Vaload_n dX1_shown_19 0 rfl 20 rfl ?_
      refine Vget (1) 1 dX1_shown_20 23 rfl (hF.1 1 (by decide)) wk1 rfl inX1 (by decide) wd_fl_RX1_15 (v := .ref (ad G 3)) rfl ?_
      refine Vload_n dX1_shown_23 1 rfl 24 rfl ?_
      refine Vld dX1_shown_24 25 rfl (hF.1 3 (by decide)) wk3 wn3 hF.2.1 (by first | exact (by assumption) | exact (vin_cmp2 (by assumption) (by assumption) (by decide)) | exact (vin_cell (by assumption)) | exact (vin_reg (by assumption)) | exact (vin_row (by assumption)) | exact (vin_cnt (by assumption) (by assumption) (by decide) (by decide) (by assumption)) | exact (vin_cmp (by assumption) (by assumption) (by decide)) | exact (vp_in_iff.mpr (by decide))) ?_
      refine Vgoto dX1_shown_25 34 (by decide) ?_
      exact Viret dX1_shown_34
  · refine Viconst dX1_shown_7 (0 : Int32) (by decide) 8 rfl ?_
    exact Viret dX1_shown_8
def f_X1_hold (σ : mS) (x1 : Int32) (x2 : Int32) : Int32 × mS := (if x1 < 0 then (0, σ) else (if (8 : Int32) ≤ x1 then (0, σ) else (0, (st2 (st2 σ 2 x1.toNatClampNeg x2) 3 x1.toNatClampNeg (-1 : Int32)))))
theorem mw_X1_hold : mW yX1_hold cX1_hold 3 none 2 := ⟨wd_co_yX1_hold, wd_ini_RX1, ⟨by decide, by decide⟩, by decide +kernel, by decide⟩
set_option maxRecDepth 100000 in
set_option maxHeartbeats 4000000 in
theorem c_X1_hold (l : Launch) {G : gT} (hF : Full G) (σ : mS) (x1 : Int32) (x2 : Int32)  : Ct l G yX1_hold cX1_hold 3 none 0 [.ref (ad G 1), .int x1, .int x2] κV σ (f_X1_hold σ x1 x2) := by
  refine Ct.ofV [(0, .ref (ad G 1)), (1, .int x1), (2, .int x2)] rfl (by decide) (Nat.le_of_ble_eq_true rfl) rfl (fun X => ?_)
  unfold f_X1_hold
  refine Vload_n dX1_hold_0 1 rfl 1 rfl ?_
  refine Viflt (fun v => v) dX1_hold_1 27 4 (by decide) rfl (fun h1 => ?_) (fun h1 => ?_)
  · exact Vvret dX1_hold_27
  · refine Vload_n dX1_hold_4 1 rfl 5 rfl ?_
    refine Vaload_n dX1_hold_5 0 rfl 6 rfl ?_
    refine Vget (1) 0 dX1_hold_6 9 rfl (hF.1 1 (by decide)) wk1 rfl inX1 (by decide) wd_fl_RX1_9 (v := .ref (ad G 2)) rfl ?_
    refine Vlen dX1_hold_9 (8 : Int32) 10 rfl (hF.1 2 (by decide)) wk2 wn2 hF.2.1 (by decide) ?_
    refine Vicge (fun v => v) dX1_hold_10 27 13 (by decide) rfl (fun h2 => ?_) (fun h2 => ?_)
    · exact Vvret dX1_hold_27
    · refine Vaload_n dX1_hold_13 0 rfl 14 rfl ?_
      refine Vget (1) 0 dX1_hold_14 17 rfl (hF.1 1 (by decide)) wk1 rfl inX1 (by decide) wd_fl_RX1_9 (v := .ref (ad G 2)) rfl ?_
      refine Vload_n dX1_hold_17 1 rfl 18 rfl ?_
      refine Vload_n dX1_hold_18 2 rfl 19 rfl ?_
      refine Vst dX1_hold_19 20 rfl (hF.1 2 (by decide)) wk2 wn2 hF.2.1 (by first | exact (by assumption) | exact (vin_cmp2 (by assumption) (by assumption) (by decide)) | exact (vin_cell (by assumption)) | exact (vin_reg (by assumption)) | exact (vin_row (by assumption)) | exact (vin_cnt (by assumption) (by assumption) (by decide) (by decide) (by assumption)) | exact (vin_cmp (by assumption) (by assumption) (by decide)) | exact (vp_in_iff.mpr (by decide))) ?_
      refine Vaload_n dX1_hold_20 0 rfl 21 rfl ?_
      refine Vget (1) 1 dX1_hold_21 24 rfl (hF.1 1 (by decide)) wk1 rfl inX1 (by decide) wd_fl_RX1_15 (v := .ref (ad G 3)) rfl ?_
      refine Vload_n dX1_hold_24 1 rfl 25 rfl ?_
      refine Viconst dX1_hold_25 (-1 : Int32) (by decide) 26 rfl ?_
      refine Vst dX1_hold_26 27 rfl (hF.1 3 (by decide)) wk3 wn3 hF.2.1 (by first | exact (by assumption) | exact (vin_cmp2 (by assumption) (by assumption) (by decide)) | exact (vin_cell (by assumption)) | exact (vin_reg (by assumption)) | exact (vin_row (by assumption)) | exact (vin_cnt (by assumption) (by assumption) (by decide) (by decide) (by assumption)) | exact (vin_cmp (by assumption) (by assumption) (by decide)) | exact (vp_in_iff.mpr (by decide))) ?_
      exact Vvret dX1_hold_27
def f_X1_defer (σ : mS) (x1 : Int32) (x2 : Int32) : Int32 × mS := (if (f_X5_isCell x1) = 0 then (0, σ) else (if (f_X5_isCell x2) = 0 then (0, σ) else (0, (st2 σ 3 x1.toNatClampNeg x2))))
theorem mw_X1_defer : mW yX1_defer cX1_defer 3 none 2 := ⟨wd_co_yX1_defer, wd_ini_RX1, ⟨by decide, by decide⟩, by decide +kernel, by decide⟩
set_option maxRecDepth 100000 in
set_option maxHeartbeats 4000000 in
theorem c_X1_defer (l : Launch) {G : gT} (hF : Full G) (σ : mS) (x1 : Int32) (x2 : Int32)  : Ct l G yX1_defer cX1_defer 3 none 1 [.ref (ad G 1), .int x1, .int x2] κV σ (f_X1_defer σ x1 x2) := by
  refine Ct.ofV [(0, .ref (ad G 1)), (1, .int x1), (2, .int x2)] rfl (by decide) (Nat.le_of_ble_eq_true rfl) rfl (fun X => ?_)
  unfold f_X1_defer
  refine Vload_n dX1_defer_0 1 rfl 1 rfl ?_
  refine VcSNp dX1_defer_1 [.int x1] (c_X5_isCell l hF σ x1) mw_X5_isCell wd_sm_yX5_isCell wd_nml_RX1_41 (by decide) rfl rfl (Nat.le_of_ble_eq_true rfl) 4 rfl ?_
  refine Vifeq (fun v => v) dX1_defer_4 21 7 (by decide) rfl (fun h1 => ?_) (fun h1 => ?_)
  · exact Vvret dX1_defer_21
  · refine Vload_n dX1_defer_7 2 rfl 8 rfl ?_
    refine VcSNp dX1_defer_8 [.int x2] (c_X5_isCell l hF σ x2) mw_X5_isCell wd_sm_yX5_isCell wd_nml_RX1_41 (by decide) rfl rfl (Nat.le_of_ble_eq_true rfl) 11 rfl ?_
    refine Vifeq (fun v => v) dX1_defer_11 21 14 (by decide) rfl (fun h2 => ?_) (fun h2 => ?_)
    · exact Vvret dX1_defer_21
    · refine Vaload_n dX1_defer_14 0 rfl 15 rfl ?_
      refine Vget (1) 1 dX1_defer_15 18 rfl (hF.1 1 (by decide)) wk1 rfl inX1 (by decide) wd_fl_RX1_15 (v := .ref (ad G 3)) rfl ?_
      refine Vload_n dX1_defer_18 1 rfl 19 rfl ?_
      refine Vload_n dX1_defer_19 2 rfl 20 rfl ?_
      refine Vst dX1_defer_20 21 rfl (hF.1 3 (by decide)) wk3 wn3 hF.2.1 (by first | exact (by assumption) | exact (vin_cmp2 (by assumption) (by assumption) (by decide)) | exact (vin_cell (by assumption)) | exact (vin_reg (by assumption)) | exact (vin_row (by assumption)) | exact (vin_cnt (by assumption) (by assumption) (by decide) (by decide) (by assumption)) | exact (vin_cmp (by assumption) (by assumption) (by decide)) | exact (vp_in_iff.mpr (by decide))) ?_
      exact Vvret dX1_defer_21
def f_X2_add (σ : mS) (x1 : Int32) (x2 : Int32) (x3 : Int32) : Int32 × mS := (if (σ 5 3) < 0 then (0, (st2 (st2 (st2 (st2 (st2 σ 5 3 (0 : Int32)) 6 (0 : Int32).toNatClampNeg x1) 7 (0 : Int32).toNatClampNeg x2) 8 (0 : Int32).toNatClampNeg x3) 5 4 ((σ 5 4) + (1 : Int32)))) else (if (29 : Int32) ≤ (σ 5 3) then (0, (st2 (st2 (st2 (st2 (st2 σ 5 3 (0 : Int32)) 6 (0 : Int32).toNatClampNeg x1) 7 (0 : Int32).toNatClampNeg x2) 8 (0 : Int32).toNatClampNeg x3) 5 4 ((σ 5 4) + (1 : Int32)))) else (0, (st2 (st2 (st2 (st2 (st2 σ 5 3 ((σ 5 3) + (1 : Int32))) 6 ((σ 5 3) + (1 : Int32)).toNatClampNeg x1) 7 ((σ 5 3) + (1 : Int32)).toNatClampNeg x2) 8 ((σ 5 3) + (1 : Int32)).toNatClampNeg x3) 5 4 ((σ 5 4) + (1 : Int32))))))
theorem mw_X2_add : mW yX2_add cX2_add 4 none 3 := ⟨wd_co_yX2_add, wd_ini_RX2, ⟨by decide, by decide⟩, by decide +kernel, by decide⟩
set_option maxRecDepth 100000 in
set_option maxHeartbeats 4000000 in
theorem c_X2_add (l : Launch) {G : gT} (hF : Full G) (σ : mS) (x1 : Int32) (x2 : Int32) (x3 : Int32)  : Ct l G yX2_add cX2_add 4 none 0 [.ref (ad G 5), .int x1, .int x2, .int x3] κV σ (f_X2_add σ x1 x2 x3) := by
  refine Ct.ofV [(0, .ref (ad G 5)), (1, .int x1), (2, .int x2), (3, .int x3)] rfl (by decide) (Nat.le_of_ble_eq_true rfl) rfl (fun X => ?_)
  unfold f_X2_add
  refine Vaload_n dX2_add_0 0 rfl 1 rfl ?_
  refine Vaload_n dX2_add_1 0 rfl 2 rfl ?_
  refine Vget (5) 3 dX2_add_2 5 rfl (hF.1 5 (by decide)) wk5 rfl inX2 (by decide) wd_fl_RX2_21 (v := .int (σ 5 3)) rfl ?_
  refine Viflt (fun v => v) dX2_add_5 26 8 (by decide) rfl (fun h1 => ?_) (fun h1 => ?_)
  · refine Viconst dX2_add_26 (0 : Int32) (by decide) 27 rfl ?_
    refine Vput (5) 3 tyX2 dX2_add_27 30 rfl (hF.1 5 (by decide)) wk5 rfl inX2 tyX2_ok nmX2 (by decide) wd_fl_RX2_21 rfl (ty := .int) (by decide +kernel) rfl rfl (fun f => rfl) (fun f => Nat.le_of_ble_eq_true rfl) ?_
    refine Vaload_n dX2_add_30 0 rfl 31 rfl ?_
    refine Vget (5) 0 dX2_add_31 34 rfl (hF.1 5 (by decide)) wk5 rfl inX2 (by decide) wd_fl_RX2_9 (v := .ref (ad G 6)) rfl ?_
    refine Vaload_n dX2_add_34 0 rfl 35 rfl ?_
    refine Vget (5) 3 dX2_add_35 38 rfl (hF.1 5 (by decide)) wk5 rfl inX2 (by decide) wd_fl_RX2_21 (v := .int (0 : Int32)) rfl ?_
    refine Vload_n dX2_add_38 1 rfl 39 rfl ?_
    refine Vst dX2_add_39 40 rfl (hF.1 6 (by decide)) wk6 wn6 hF.2.1 (by first | exact (by assumption) | exact (vin_cmp2 (by assumption) (by assumption) (by decide)) | exact (vin_cell (by assumption)) | exact (vin_reg (by assumption)) | exact (vin_row (by assumption)) | exact (vin_cnt (by assumption) (by assumption) (by decide) (by decide) (by assumption)) | exact (vin_cmp (by assumption) (by assumption) (by decide)) | exact (vp_in_iff.mpr (by decide)) | exact (vin_s (by assumption) (by assumption))) ?_
    refine Vaload_n dX2_add_40 0 rfl 41 rfl ?_
    refine Vget (5) 1 dX2_add_41 44 rfl (hF.1 5 (by decide)) wk5 rfl inX2 (by decide) wd_fl_RX2_15 (v := .ref (ad G 7)) rfl ?_
    refine Vaload_n dX2_add_44 0 rfl 45 rfl ?_
    refine Vget (5) 3 dX2_add_45 48 rfl (hF.1 5 (by decide)) wk5 rfl inX2 (by decide) wd_fl_RX2_21 (v := .int (0 : Int32)) rfl ?_
    refine Vload_n dX2_add_48 2 rfl 49 rfl ?_
    refine Vst dX2_add_49 50 rfl (hF.1 7 (by decide)) wk7 wn7 hF.2.1 (by first | exact (by assumption) | exact (vin_cmp2 (by assumption) (by assumption) (by decide)) | exact (vin_cell (by assumption)) | exact (vin_reg (by assumption)) | exact (vin_row (by assumption)) | exact (vin_cnt (by assumption) (by assumption) (by decide) (by decide) (by assumption)) | exact (vin_cmp (by assumption) (by assumption) (by decide)) | exact (vp_in_iff.mpr (by decide)) | exact (vin_s (by assumption) (by assumption))) ?_
    refine Vaload_n dX2_add_50 0 rfl 51 rfl ?_
    refine Vget (5) 2 dX2_add_51 54 rfl (hF.1 5 (by decide)) wk5 rfl inX2 (by decide) wd_fl_RX2_18 (v := .ref (ad G 8)) rfl ?_
    refine Vaload_n dX2_add_54 0 rfl 55 rfl ?_
    refine Vget (5) 3 dX2_add_55 58 rfl (hF.1 5 (by decide)) wk5 rfl inX2 (by decide) wd_fl_RX2_21 (v := .int (0 : Int32)) rfl ?_
    refine Vload_n dX2_add_58 3 rfl 59 rfl ?_
    refine Vst dX2_add_59 60 rfl (hF.1 8 (by decide)) wk8 wn8 hF.2.1 (by first | exact (by assumption) | exact (vin_cmp2 (by assumption) (by assumption) (by decide)) | exact (vin_cell (by assumption)) | exact (vin_reg (by assumption)) | exact (vin_row (by assumption)) | exact (vin_cnt (by assumption) (by assumption) (by decide) (by decide) (by assumption)) | exact (vin_cmp (by assumption) (by assumption) (by decide)) | exact (vp_in_iff.mpr (by decide)) | exact (vin_s (by assumption) (by assumption))) ?_
    refine Vaload_n dX2_add_60 0 rfl 61 rfl ?_
    refine Vdupa dX2_add_61 62 rfl ?_
    refine Vget (5) 4 dX2_add_62 65 rfl (hF.1 5 (by decide)) wk5 rfl inX2 (by decide) wd_fl_RX2_25 (v := .int (σ 5 4)) rfl ?_
    refine Viconst dX2_add_65 (1 : Int32) (by decide) 66 rfl ?_
    refine Viadd dX2_add_66 67 rfl ?_
    refine Vput (5) 4 tyX2 dX2_add_67 70 rfl (hF.1 5 (by decide)) wk5 rfl inX2 tyX2_ok nmX2 (by decide) wd_fl_RX2_25 rfl (ty := .int) (by decide +kernel) rfl rfl (fun f => rfl) (fun f => Nat.le_of_ble_eq_true rfl) ?_
    exact Vvret dX2_add_70
  · refine Vaload_n dX2_add_8 0 rfl 9 rfl ?_
    refine Vget (5) 3 dX2_add_9 12 rfl (hF.1 5 (by decide)) wk5 rfl inX2 (by decide) wd_fl_RX2_21 (v := .int (σ 5 3)) rfl ?_
    refine Vbipush dX2_add_12 (29 : Int32) (by decide) 14 rfl ?_
    refine Vicge (fun v => v) dX2_add_14 26 17 (by decide) rfl (fun h2 => ?_) (fun h2 => ?_)
    · refine Viconst dX2_add_26 (0 : Int32) (by decide) 27 rfl ?_
      refine Vput (5) 3 tyX2 dX2_add_27 30 rfl (hF.1 5 (by decide)) wk5 rfl inX2 tyX2_ok nmX2 (by decide) wd_fl_RX2_21 rfl (ty := .int) (by decide +kernel) rfl rfl (fun f => rfl) (fun f => Nat.le_of_ble_eq_true rfl) ?_
      refine Vaload_n dX2_add_30 0 rfl 31 rfl ?_
      refine Vget (5) 0 dX2_add_31 34 rfl (hF.1 5 (by decide)) wk5 rfl inX2 (by decide) wd_fl_RX2_9 (v := .ref (ad G 6)) rfl ?_
      refine Vaload_n dX2_add_34 0 rfl 35 rfl ?_
      refine Vget (5) 3 dX2_add_35 38 rfl (hF.1 5 (by decide)) wk5 rfl inX2 (by decide) wd_fl_RX2_21 (v := .int (0 : Int32)) rfl ?_
      refine Vload_n dX2_add_38 1 rfl 39 rfl ?_
      refine Vst dX2_add_39 40 rfl (hF.1 6 (by decide)) wk6 wn6 hF.2.1 (by first | exact (by assumption) | exact (vin_cmp2 (by assumption) (by assumption) (by decide)) | exact (vin_cell (by assumption)) | exact (vin_reg (by assumption)) | exact (vin_row (by assumption)) | exact (vin_cnt (by assumption) (by assumption) (by decide) (by decide) (by assumption)) | exact (vin_cmp (by assumption) (by assumption) (by decide)) | exact (vp_in_iff.mpr (by decide)) | exact (vin_s (by assumption) (by assumption))) ?_
      refine Vaload_n dX2_add_40 0 rfl 41 rfl ?_
      refine Vget (5) 1 dX2_add_41 44 rfl (hF.1 5 (by decide)) wk5 rfl inX2 (by decide) wd_fl_RX2_15 (v := .ref (ad G 7)) rfl ?_
      refine Vaload_n dX2_add_44 0 rfl 45 rfl ?_
      refine Vget (5) 3 dX2_add_45 48 rfl (hF.1 5 (by decide)) wk5 rfl inX2 (by decide) wd_fl_RX2_21 (v := .int (0 : Int32)) rfl ?_
      refine Vload_n dX2_add_48 2 rfl 49 rfl ?_
      refine Vst dX2_add_49 50 rfl (hF.1 7 (by decide)) wk7 wn7 hF.2.1 (by first | exact (by assumption) | exact (vin_cmp2 (by assumption) (by assumption) (by decide)) | exact (vin_cell (by assumption)) | exact (vin_reg (by assumption)) | exact (vin_row (by assumption)) | exact (vin_cnt (by assumption) (by assumption) (by decide) (by decide) (by assumption)) | exact (vin_cmp (by assumption) (by assumption) (by decide)) | exact (vp_in_iff.mpr (by decide)) | exact (vin_s (by assumption) (by assumption))) ?_
      refine Vaload_n dX2_add_50 0 rfl 51 rfl ?_
      refine Vget (5) 2 dX2_add_51 54 rfl (hF.1 5 (by decide)) wk5 rfl inX2 (by decide) wd_fl_RX2_18 (v := .ref (ad G 8)) rfl ?_
      refine Vaload_n dX2_add_54 0 rfl 55 rfl ?_
      refine Vget (5) 3 dX2_add_55 58 rfl (hF.1 5 (by decide)) wk5 rfl inX2 (by decide) wd_fl_RX2_21 (v := .int (0 : Int32)) rfl ?_
      refine Vload_n dX2_add_58 3 rfl 59 rfl ?_
      refine Vst dX2_add_59 60 rfl (hF.1 8 (by decide)) wk8 wn8 hF.2.1 (by first | exact (by assumption) | exact (vin_cmp2 (by assumption) (by assumption) (by decide)) | exact (vin_cell (by assumption)) | exact (vin_reg (by assumption)) | exact (vin_row (by assumption)) | exact (vin_cnt (by assumption) (by assumption) (by decide) (by decide) (by assumption)) | exact (vin_cmp (by assumption) (by assumption) (by decide)) | exact (vp_in_iff.mpr (by decide)) | exact (vin_s (by assumption) (by assumption))) ?_
      refine Vaload_n dX2_add_60 0 rfl 61 rfl ?_
      refine Vdupa dX2_add_61 62 rfl ?_
      refine Vget (5) 4 dX2_add_62 65 rfl (hF.1 5 (by decide)) wk5 rfl inX2 (by decide) wd_fl_RX2_25 (v := .int (σ 5 4)) rfl ?_
      refine Viconst dX2_add_65 (1 : Int32) (by decide) 66 rfl ?_
      refine Viadd dX2_add_66 67 rfl ?_
      refine Vput (5) 4 tyX2 dX2_add_67 70 rfl (hF.1 5 (by decide)) wk5 rfl inX2 tyX2_ok nmX2 (by decide) wd_fl_RX2_25 rfl (ty := .int) (by decide +kernel) rfl rfl (fun f => rfl) (fun f => Nat.le_of_ble_eq_true rfl) ?_
      exact Vvret dX2_add_70
    · refine Vaload_n dX2_add_17 0 rfl 18 rfl ?_
      refine Vget (5) 3 dX2_add_18 21 rfl (hF.1 5 (by decide)) wk5 rfl inX2 (by decide) wd_fl_RX2_21 (v := .int (σ 5 3)) rfl ?_
      refine Viconst dX2_add_21 (1 : Int32) (by decide) 22 rfl ?_
      refine Viadd dX2_add_22 23 rfl ?_
      refine Vgoto dX2_add_23 27 (by decide) ?_
      refine Vput (5) 3 tyX2 dX2_add_27 30 rfl (hF.1 5 (by decide)) wk5 rfl inX2 tyX2_ok nmX2 (by decide) wd_fl_RX2_21 rfl (ty := .int) (by decide +kernel) rfl rfl (fun f => rfl) (fun f => Nat.le_of_ble_eq_true rfl) ?_
      refine Vaload_n dX2_add_30 0 rfl 31 rfl ?_
      refine Vget (5) 0 dX2_add_31 34 rfl (hF.1 5 (by decide)) wk5 rfl inX2 (by decide) wd_fl_RX2_9 (v := .ref (ad G 6)) rfl ?_
      refine Vaload_n dX2_add_34 0 rfl 35 rfl ?_
      refine Vget (5) 3 dX2_add_35 38 rfl (hF.1 5 (by decide)) wk5 rfl inX2 (by decide) wd_fl_RX2_21 (v := .int ((σ 5 3) + (1 : Int32))) rfl ?_
      refine Vload_n dX2_add_38 1 rfl 39 rfl ?_
      refine Vst dX2_add_39 40 rfl (hF.1 6 (by decide)) wk6 wn6 hF.2.1 (by first | exact (by assumption) | exact (vin_cmp2 (by assumption) (by assumption) (by decide)) | exact (vin_cell (by assumption)) | exact (vin_reg (by assumption)) | exact (vin_row (by assumption)) | exact (vin_cnt (by assumption) (by assumption) (by decide) (by decide) (by assumption)) | exact (vin_cmp (by assumption) (by assumption) (by decide)) | exact (vp_in_iff.mpr (by decide)) | exact (vin_s (by assumption) (by assumption))) ?_
      refine Vaload_n dX2_add_40 0 rfl 41 rfl ?_
      refine Vget (5) 1 dX2_add_41 44 rfl (hF.1 5 (by decide)) wk5 rfl inX2 (by decide) wd_fl_RX2_15 (v := .ref (ad G 7)) rfl ?_
      refine Vaload_n dX2_add_44 0 rfl 45 rfl ?_
      refine Vget (5) 3 dX2_add_45 48 rfl (hF.1 5 (by decide)) wk5 rfl inX2 (by decide) wd_fl_RX2_21 (v := .int ((σ 5 3) + (1 : Int32))) rfl ?_
      refine Vload_n dX2_add_48 2 rfl 49 rfl ?_
      refine Vst dX2_add_49 50 rfl (hF.1 7 (by decide)) wk7 wn7 hF.2.1 (by first | exact (by assumption) | exact (vin_cmp2 (by assumption) (by assumption) (by decide)) | exact (vin_cell (by assumption)) | exact (vin_reg (by assumption)) | exact (vin_row (by assumption)) | exact (vin_cnt (by assumption) (by assumption) (by decide) (by decide) (by assumption)) | exact (vin_cmp (by assumption) (by assumption) (by decide)) | exact (vp_in_iff.mpr (by decide)) | exact (vin_s (by assumption) (by assumption))) ?_
      refine Vaload_n dX2_add_50 0 rfl 51 rfl ?_
      refine Vget (5) 2 dX2_add_51 54 rfl (hF.1 5 (by decide)) wk5 rfl inX2 (by decide) wd_fl_RX2_18 (v := .ref (ad G 8)) rfl ?_
      refine Vaload_n dX2_add_54 0 rfl 55 rfl ?_
      refine Vget (5) 3 dX2_add_55 58 rfl (hF.1 5 (by decide)) wk5 rfl inX2 (by decide) wd_fl_RX2_21 (v := .int ((σ 5 3) + (1 : Int32))) rfl ?_
      refine Vload_n dX2_add_58 3 rfl 59 rfl ?_
      refine Vst dX2_add_59 60 rfl (hF.1 8 (by decide)) wk8 wn8 hF.2.1 (by first | exact (by assumption) | exact (vin_cmp2 (by assumption) (by assumption) (by decide)) | exact (vin_cell (by assumption)) | exact (vin_reg (by assumption)) | exact (vin_row (by assumption)) | exact (vin_cnt (by assumption) (by assumption) (by decide) (by decide) (by assumption)) | exact (vin_cmp (by assumption) (by assumption) (by decide)) | exact (vp_in_iff.mpr (by decide)) | exact (vin_s (by assumption) (by assumption))) ?_
      refine Vaload_n dX2_add_60 0 rfl 61 rfl ?_
      refine Vdupa dX2_add_61 62 rfl ?_
      refine Vget (5) 4 dX2_add_62 65 rfl (hF.1 5 (by decide)) wk5 rfl inX2 (by decide) wd_fl_RX2_25 (v := .int (σ 5 4)) rfl ?_
      refine Viconst dX2_add_65 (1 : Int32) (by decide) 66 rfl ?_
      refine Viadd dX2_add_66 67 rfl ?_
      refine Vput (5) 4 tyX2 dX2_add_67 70 rfl (hF.1 5 (by decide)) wk5 rfl inX2 tyX2_ok nmX2 (by decide) wd_fl_RX2_25 rfl (ty := .int) (by decide +kernel) rfl rfl (fun f => rfl) (fun f => Nat.le_of_ble_eq_true rfl) ?_
      exact Vvret dX2_add_70
def f_X1_count (σ : mS) (x1 : Int32) (x2 : Int32) (x3 : Int32) : Int32 × mS := (ap (fun u1 => (ap (fun u2 => (0, u2.2)) (f_X2_add u1.2 x1 x2 x3))) (f_X1_hold σ x2 x3))
theorem mw_X1_count : mW yX1_count cX1_count 4 none 3 := ⟨wd_co_yX1_count, wd_ini_RX1, ⟨by decide, by decide⟩, by decide +kernel, by decide⟩
set_option maxRecDepth 100000 in
set_option maxHeartbeats 4000000 in
theorem c_X1_count (l : Launch) {G : gT} (hF : Full G) (σ : mS) (x1 : Int32) (x2 : Int32) (x3 : Int32)  : Ct l G yX1_count cX1_count 4 none 1 [.ref (ad G 1), .int x1, .int x2, .int x3] κV σ (f_X1_count σ x1 x2 x3) := by
  refine Ct.ofV [(0, .ref (ad G 1)), (1, .int x1), (2, .int x2), (3, .int x3)] rfl (by decide) (Nat.le_of_ble_eq_true rfl) rfl (fun X => ?_)
  unfold f_X1_count
  refine Vaload_n dX1_count_0 0 rfl 1 rfl ?_
  refine Vload_n dX1_count_1 2 rfl 2 rfl ?_
  refine Vload_n dX1_count_2 3 rfl 3 rfl ?_
  refine Vgen ?_
  intro u1 eu1
  refine VcVv (u := u1) dX1_count_3 [.int x2, .int x3] (by rw [eu1]; exact c_X1_hold l hF σ x2 x3) mw_X1_hold wd_im_yX1_hold wd_se_yX1_hold wd_ml_RX1_45 (hF.1 1 (by decide)) wk1 rfl rfl (by decide) rfl rfl (Nat.le_of_ble_eq_true rfl) 6 rfl ?_
  refine Vaload_n dX1_count_6 0 rfl 7 rfl ?_
  refine Vget (1) 3 dX1_count_7 10 rfl (hF.1 1 (by decide)) wk1 rfl inX1 (by decide) wd_fl_RX1_24 (v := .ref (ad G 5)) rfl ?_
  refine Vload_n dX1_count_10 1 rfl 11 rfl ?_
  refine Vload_n dX1_count_11 2 rfl 12 rfl ?_
  refine Vload_n dX1_count_12 3 rfl 13 rfl ?_
  refine Vgen ?_
  intro u2 eu2
  refine VcVv (u := u2) dX1_count_13 [.int x1, .int x2, .int x3] (by rw [eu2]; exact c_X2_add l hF u1.2 x1 x2 x3) mw_X2_add wd_im_yX2_add wd_se_yX2_add wd_ml_RX1_49 (hF.1 5 (by decide)) wk5 rfl rfl (by decide) rfl rfl (Nat.le_of_ble_eq_true rfl) 16 rfl ?_
  exact Vvret dX1_count_16
def l_X1_leadsToRing_4 : Nat → Int32 → Int32 → mS → Int32
  | 0, y2, y3, σ => 0
  | n + 1, y2, y3, σ => (if (8 : Int32) ≤ y3 then (1 : Int32) else (if (f_X1_isLazy σ y2) = 0 then (0 : Int32) else (l_X1_leadsToRing_4 n (f_X1_shown σ y2) (y3 + 1) σ)))
set_option maxRecDepth 100000 in
set_option maxHeartbeats 4000000 in
theorem vl_X1_leadsToRing_4 (l : Launch) {G : gT} (X : xT) (hF : Full G) (σ : mS)  : ∀ (n : Nat) (y2 : Int32) (y3 : Int32) (i : Nat) (hc : y3 = nI i) (hi : i ≤ 8) (hn : n + i = 9), V l G X RX1 cX1_leadsToRing 4 2 (some .boolean) κI ((fun v => (v, σ)) (l_X1_leadsToRing_4 n y2 y3 σ)) σ 4 [(0, .ref (ad G 1)), (2, .int y2), (3, .int y3)] [] := by
  intro n
  induction n with
  | zero => intro y2 y3 i hc hi hn; exact absurd hn (by omega)
  | succ n ih =>
    intro y2 y3 i hc hi hn
    rw [l_X1_leadsToRing_4.eq_2]
    refine Vload_n dX1_leadsToRing_4 2 rfl 5 rfl ?_
    refine Vbipush dX1_leadsToRing_5 (8 : Int32) (by decide) 7 rfl ?_
    refine Vicge (fun v => (v, σ)) dX1_leadsToRing_7 32 10 (by decide) rfl (fun h1 => ?_) (fun h1 => ?_)
    · refine Viconst dX1_leadsToRing_32 (1 : Int32) (by decide) 33 rfl ?_
      exact Vzret dX1_leadsToRing_33 (by first | decide | exact nb_isRegister _ | exact nb_isRow _ | exact nb_isPlace _ | exact nb_within _ _ _ | exact nb_mRegister _ | exact nb_mCell _ | exact nb_mPlace _)
    · refine Vaload_n dX1_leadsToRing_10 0 rfl 11 rfl ?_
      refine Vload_n dX1_leadsToRing_11 1 rfl 12 rfl ?_
      refine VcVp dX1_leadsToRing_12 [.int y2] (c_X1_isLazy l hF σ y2) mw_X1_isLazy wd_im_yX1_isLazy wd_se_yX1_isLazy wd_ml_RX1_53 (hF.1 1 (by decide)) wk1 rfl rfl (by decide) rfl rfl (Nat.le_of_ble_eq_true rfl) 15 rfl ?_
      refine Vifne (fun v => (v, σ)) dX1_leadsToRing_15 20 18 (by decide) rfl (fun h2 => ?_) (fun h2 => ?_)
      · refine Vaload_n dX1_leadsToRing_20 0 rfl 21 rfl ?_
        refine Vload_n dX1_leadsToRing_21 1 rfl 22 rfl ?_
        refine VcVp dX1_leadsToRing_22 [.int y2] (c_X1_shown l hF σ y2) mw_X1_shown wd_im_yX1_shown wd_se_yX1_shown wd_ml_RX1_56 (hF.1 1 (by decide)) wk1 rfl rfl (by decide) rfl rfl (Nat.le_of_ble_eq_true rfl) 25 rfl ?_
        refine Vstore_n dX1_leadsToRing_25 [(2, .int (f_X1_shown σ y2)), (0, .ref (ad G 1)), (3, .int y3)] 26 rfl (by decide) rfl ?_
        refine Viinc dX1_leadsToRing_26 (y3 + 1) 2 [(3, .int (y3 + 1)), (2, .int (f_X1_shown σ y2)), (0, .ref (ad G 1))] 29 rfl rfl rfl (by decide) rfl ?_
        refine Vgoto dX1_leadsToRing_29 4 (by decide) ?_
        refine Vlv [2, 1, 0] rfl ?_
        exact ih (f_X1_shown σ y2) (y3 + 1) (i + 1) (cnt_s hc) (cnt_lt hc (by assumption) (K := 8) (by decide) (by decide) hi) (by omega)
      · refine Viconst dX1_leadsToRing_18 (0 : Int32) (by decide) 19 rfl ?_
        exact Vzret dX1_leadsToRing_19 (by first | decide | exact nb_isRegister _ | exact nb_isRow _ | exact nb_isPlace _ | exact nb_within _ _ _ | exact nb_mRegister _ | exact nb_mCell _ | exact nb_mPlace _)
def f_X1_leadsToRing (σ : mS) (x1 : Int32) : Int32 := (l_X1_leadsToRing_4 9 x1 (0 : Int32) σ)
theorem mw_X1_leadsToRing : mW yX1_leadsToRing cX1_leadsToRing 4 (some .boolean) 1 := ⟨wd_co_yX1_leadsToRing, wd_ini_RX1, ⟨by decide, by decide⟩, by decide +kernel, by decide⟩
set_option maxRecDepth 100000 in
set_option maxHeartbeats 4000000 in
theorem c_X1_leadsToRing (l : Launch) {G : gT} (hF : Full G) (σ : mS) (x1 : Int32)  : Ct l G yX1_leadsToRing cX1_leadsToRing 4 (some .boolean) 2 [.ref (ad G 1), .int x1] κI σ (f_X1_leadsToRing σ x1, σ) := by
  refine Ct.ofV [(0, .ref (ad G 1)), (1, .int x1)] rfl (by decide) (Nat.le_of_ble_eq_true rfl) rfl (fun X => ?_)
  unfold f_X1_leadsToRing
  refine Vload_n dX1_leadsToRing_0 1 rfl 1 rfl ?_
  refine Vstore_n dX1_leadsToRing_1 [(2, .int x1), (0, .ref (ad G 1)), (1, .int x1)] 2 rfl (by decide) rfl ?_
  refine Viconst dX1_leadsToRing_2 (0 : Int32) (by decide) 3 rfl ?_
  refine Vstore_n dX1_leadsToRing_3 [(3, .int (0 : Int32)), (2, .int x1), (0, .ref (ad G 1)), (1, .int x1)] 4 rfl (by decide) rfl ?_
  refine Vlv [2, 1, 0] rfl ?_
  exact vl_X1_leadsToRing_4 l X hF σ  9 x1 (0 : Int32) 0 nI_0.symm (Nat.zero_le _) rfl
def l_X1_workedOut_5 : Nat → Int32 → Int32 → mS → Int32 × Int32 × mS
  | 0, y3, y4, σ => (y3, y4, σ)
  | n + 1, y3, y4, σ => (if (8 : Int32) ≤ y3 then (y3, y4, σ) else (if (f_X1_isLazy σ y4) = 0 then (y3, y4, σ) else (l_X1_workedOut_5 n (y3 + 1) (f_X1_shown (st2 σ 4 y3.toNatClampNeg y4) y4) (st2 σ 4 y3.toNatClampNeg y4))))
set_option maxRecDepth 100000 in
set_option maxHeartbeats 4000000 in
theorem vl_X1_workedOut_5 (l : Launch) {G : gT} (X : xT) (hF : Full G) (x2 : Int32)  {B : Int32 × Int32 × mS → Int32 × mS} : ∀ (n : Nat) (y3 : Int32) (y4 : Int32) (σ : mS) (i : Nat) (hc : y3 = nI i) (hi : i ≤ 8) (hn : n + i = 9) (hk : ∀ u : Int32 × Int32 × mS, (∃ i : Nat, u.1 = nI i ∧ i ≤ 8) → V l G X RX1 cX1_workedOut 7 2 (some .int) κI ((fun v => ap B v) u) u.2.2 45 [(0, .ref (ad G 1)), (2, .int x2), (3, .int u.1), (4, .int u.2.1)] []), V l G X RX1 cX1_workedOut 7 2 (some .int) κI ((fun v => ap B v) (l_X1_workedOut_5 n y3 y4 σ)) σ 5 [(0, .ref (ad G 1)), (2, .int x2), (3, .int y3), (4, .int y4)] [] := by
  intro n
  induction n with
  | zero => intro y3 y4 σ i hc hi hn hk; exact absurd hn (by omega)
  | succ n ih =>
    intro y3 y4 σ i hc hi hn hk
    rw [l_X1_workedOut_5.eq_2]
    refine Vload_n dX1_workedOut_5 2 rfl 6 rfl ?_
    refine Vaload_n dX1_workedOut_6 0 rfl 7 rfl ?_
    refine Vget (1) 2 dX1_workedOut_7 10 rfl (hF.1 1 (by decide)) wk1 rfl inX1 (by decide) wd_fl_RX1_18 (v := .ref (ad G 4)) rfl ?_
    refine Vlen dX1_workedOut_10 (8 : Int32) 11 rfl (hF.1 4 (by decide)) wk4 wn4 hF.2.1 (by decide) ?_
    refine Vicge (fun v => ap B v) dX1_workedOut_11 45 14 (by decide) rfl (fun h1 => ?_) (fun h1 => ?_)
    · refine Vlv [0, 1, 2, 3] rfl ?_
      exact hk (y3, y4, σ) ⟨i, hc, hi⟩
    · refine Vaload_n dX1_workedOut_14 0 rfl 15 rfl ?_
      refine Vload dX1_workedOut_15 3 rfl 17 rfl ?_
      refine VcVp dX1_workedOut_17 [.int y4] (c_X1_isLazy l hF σ y4) mw_X1_isLazy wd_im_yX1_isLazy wd_se_yX1_isLazy wd_ml_RX1_53 (hF.1 1 (by decide)) wk1 rfl rfl (by decide) rfl rfl (Nat.le_of_ble_eq_true rfl) 20 rfl ?_
      refine Vifeq (fun v => ap B v) dX1_workedOut_20 45 23 (by decide) rfl (fun h2 => ?_) (fun h2 => ?_)
      · refine Vlv [0, 1, 2, 3] rfl ?_
        exact hk (y3, y4, σ) ⟨i, hc, hi⟩
      · refine Vaload_n dX1_workedOut_23 0 rfl 24 rfl ?_
        refine Vget (1) 2 dX1_workedOut_24 27 rfl (hF.1 1 (by decide)) wk1 rfl inX1 (by decide) wd_fl_RX1_18 (v := .ref (ad G 4)) rfl ?_
        refine Vload_n dX1_workedOut_27 2 rfl 28 rfl ?_
        refine Vload dX1_workedOut_28 3 rfl 30 rfl ?_
        refine Vst dX1_workedOut_30 31 rfl (hF.1 4 (by decide)) wk4 wn4 hF.2.1 (by first | exact (by assumption) | exact (vin_cmp2 (by assumption) (by assumption) (by decide)) | exact (vin_cell (by assumption)) | exact (vin_reg (by assumption)) | exact (vin_row (by assumption)) | exact (vin_cnt (by assumption) (by assumption) (by decide) (by decide) (by assumption)) | exact (vin_cmp (by assumption) (by assumption) (by decide)) | exact (vp_in_iff.mpr (by decide))) ?_
        refine Viinc dX1_workedOut_31 (y3 + 1) 2 [(3, .int (y3 + 1)), (0, .ref (ad G 1)), (2, .int x2), (4, .int y4)] 34 rfl rfl rfl (by decide) rfl ?_
        refine Vaload_n dX1_workedOut_34 1 rfl 35 rfl ?_
        refine Vload dX1_workedOut_35 3 rfl 37 rfl ?_
        refine VcVp dX1_workedOut_37 [.int y4] (c_X1_shown l hF (st2 σ 4 y3.toNatClampNeg y4) y4) mw_X1_shown wd_im_yX1_shown wd_se_yX1_shown wd_ml_RX1_56 (hF.1 1 (by decide)) wk1 rfl rfl (by decide) rfl rfl (Nat.le_of_ble_eq_true rfl) 40 rfl ?_
        refine Vstore dX1_workedOut_40 [(4, .int (f_X1_shown (st2 σ 4 y3.toNatClampNeg y4) y4)), (3, .int (y3 + 1)), (0, .ref (ad G 1)), (2, .int x2)] 42 rfl (by decide) rfl ?_
        refine Vgoto dX1_workedOut_42 5 (by decide) ?_
        refine Vlv [2, 3, 1, 0] rfl ?_
        exact ih (y3 + 1) (f_X1_shown (st2 σ 4 y3.toNatClampNeg y4) y4) (st2 σ 4 y3.toNatClampNeg y4) (i + 1) (cnt_s hc) (cnt_lt hc (by assumption) (K := 8) (by decide) (by decide) hi) (by omega) hk
def l_X1_workedOut_58 : Nat → Int32 → Int32 → mS → Int32 → Int32 × mS
  | 0, y5, y6, σ, _ => (0, σ)
  | n + 1, y5, y6, σ, x2 => (if y6 < 0 then (y5, σ) else (ap (fun u5 => (l_X1_workedOut_58 n (((2 : Int32) * y5) + (1 : Int32)) (y6 + (-1)) u5.2 x2)) (f_X1_count σ x2 (σ 4 y6.toNatClampNeg) (((2 : Int32) * y5) + (1 : Int32)))))
set_option maxRecDepth 100000 in
set_option maxHeartbeats 4000000 in
theorem vl_X1_workedOut_58 (l : Launch) {G : gT} (X : xT) (hF : Full G) (x2 : Int32)  : ∀ (n : Nat) (y5 : Int32) (y6 : Int32) (σ : mS) (j : Nat) (hc : y6 = nI j - 1) (hj : j ≤ 8) (hn : j + 1 ≤ n), V l G X RX1 cX1_workedOut 7 2 (some .int) κI ((fun v => v) (l_X1_workedOut_58 n y5 y6 σ x2)) σ 58 [(0, .ref (ad G 1)), (2, .int x2), (5, .int y5), (6, .int y6)] [] := by
  intro n
  induction n with
  | zero => intro y5 y6 σ j hc hj hn; exact absurd hn (by omega)
  | succ n ih =>
    intro y5 y6 σ j hc hj hn
    rw [l_X1_workedOut_58.eq_2]
    refine Vload dX1_workedOut_58 3 rfl 60 rfl ?_
    refine Viflt (fun v => v) dX1_workedOut_60 91 63 (by decide) rfl (fun h4 => ?_) (fun h4 => ?_)
    · refine Vload dX1_workedOut_91 2 rfl 93 rfl ?_
      exact Viret dX1_workedOut_93
    · refine Viconst dX1_workedOut_63 (2 : Int32) (by decide) 64 rfl ?_
      refine Vload dX1_workedOut_64 2 rfl 66 rfl ?_
      refine Vimul dX1_workedOut_66 67 rfl ?_
      refine Viconst dX1_workedOut_67 (1 : Int32) (by decide) 68 rfl ?_
      refine Viadd dX1_workedOut_68 69 rfl ?_
      refine Vstore dX1_workedOut_69 [(5, .int (((2 : Int32) * y5) + (1 : Int32))), (0, .ref (ad G 1)), (2, .int x2), (6, .int y6)] 71 rfl (by decide) rfl ?_
      refine Vaload_n dX1_workedOut_71 1 rfl 72 rfl ?_
      refine Vload_n dX1_workedOut_72 2 rfl 73 rfl ?_
      refine Vaload_n dX1_workedOut_73 1 rfl 74 rfl ?_
      refine Vget (1) 2 dX1_workedOut_74 77 rfl (hF.1 1 (by decide)) wk1 rfl inX1 (by decide) wd_fl_RX1_18 (v := .ref (ad G 4)) rfl ?_
      refine Vload dX1_workedOut_77 3 rfl 79 rfl ?_
      refine Vld dX1_workedOut_79 80 rfl (hF.1 4 (by decide)) wk4 wn4 hF.2.1 (dwn_in hc hj (by assumption)) ?_
      refine Vload dX1_workedOut_80 0 rfl 82 rfl ?_
      refine Vgen ?_
      intro u5 eu5
      refine VcVv (u := u5) dX1_workedOut_82 [.int x2, .int (σ 4 y6.toNatClampNeg), .int (((2 : Int32) * y5) + (1 : Int32))] (by rw [eu5]; exact c_X1_count l hF σ x2 (σ 4 y6.toNatClampNeg) (((2 : Int32) * y5) + (1 : Int32))) mw_X1_count wd_im_yX1_count wd_se_yX1_count wd_ml_RX1_60 (hF.1 1 (by decide)) wk1 rfl rfl (by decide) rfl rfl (Nat.le_of_ble_eq_true rfl) 85 rfl ?_
      refine Viinc dX1_workedOut_85 (y6 + (-1)) 3 [(6, .int (y6 + (-1))), (5, .int (((2 : Int32) * y5) + (1 : Int32))), (0, .ref (ad G 1)), (2, .int x2)] 88 rfl rfl rfl (by decide) rfl ?_
      refine Vgoto dX1_workedOut_88 58 (by decide) ?_
      refine Vlv [2, 3, 1, 0] rfl ?_
      exact ih (((2 : Int32) * y5) + (1 : Int32)) (y6 + (-1)) u5.2 (j - 1) (dwn_s hc (by assumption)).2 (by omega) (by have := (dwn_s hc (by assumption)).1; omega)
def f_X1_workedOut (σ : mS) (x1 : Int32) (x2 : Int32) : Int32 × mS := (ap (fun u3 => (l_X1_workedOut_58 9 (f_X1_shown u3.2.2 u3.2.1) (u3.1 - (1 : Int32)) u3.2.2 x2)) (l_X1_workedOut_5 9 (0 : Int32) x1 σ))
theorem mw_X1_workedOut : mW yX1_workedOut cX1_workedOut 7 (some .int) 2 := ⟨wd_co_yX1_workedOut, wd_ini_RX1, ⟨by decide, by decide⟩, by decide +kernel, by decide⟩
set_option maxRecDepth 100000 in
set_option maxHeartbeats 4000000 in
theorem c_X1_workedOut (l : Launch) {G : gT} (hF : Full G) (σ : mS) (x1 : Int32) (x2 : Int32)  : Ct l G yX1_workedOut cX1_workedOut 7 (some .int) 2 [.ref (ad G 1), .int x1, .int x2] κI σ (f_X1_workedOut σ x1 x2) := by
  refine Ct.ofV [(0, .ref (ad G 1)), (1, .int x1), (2, .int x2)] rfl (by decide) (Nat.le_of_ble_eq_true rfl) rfl (fun X => ?_)
  unfold f_X1_workedOut
  refine Viconst dX1_workedOut_0 (0 : Int32) (by decide) 1 rfl ?_
  refine Vstore_n dX1_workedOut_1 [(3, .int (0 : Int32)), (0, .ref (ad G 1)), (1, .int x1), (2, .int x2)] 2 rfl (by decide) rfl ?_
  refine Vload_n dX1_workedOut_2 2 rfl 3 rfl ?_
  refine Vstore dX1_workedOut_3 [(4, .int x1), (3, .int (0 : Int32)), (0, .ref (ad G 1)), (1, .int x1), (2, .int x2)] 5 rfl (by decide) rfl ?_
  refine Vlv [2, 4, 1, 0] rfl ?_
  refine vl_X1_workedOut_5 l X hF x2  9 (0 : Int32) x1 σ 0 nI_0.symm (Nat.zero_le _) rfl ?_
  intro u3 pu3
  refine Vap ?_
  obtain ⟨i0, hc0, hi0⟩ := pu3
  refine Vaload_n dX1_workedOut_45 0 rfl 46 rfl ?_
  refine Vload dX1_workedOut_46 3 rfl 48 rfl ?_
  refine VcVp dX1_workedOut_48 [.int u3.2.1] (c_X1_shown l hF u3.2.2 u3.2.1) mw_X1_shown wd_im_yX1_shown wd_se_yX1_shown wd_ml_RX1_56 (hF.1 1 (by decide)) wk1 rfl rfl (by decide) rfl rfl (Nat.le_of_ble_eq_true rfl) 51 rfl ?_
  refine Vstore dX1_workedOut_51 [(5, .int (f_X1_shown u3.2.2 u3.2.1)), (0, .ref (ad G 1)), (2, .int x2), (3, .int u3.1), (4, .int u3.2.1)] 53 rfl (by decide) rfl ?_
  refine Vload_n dX1_workedOut_53 3 rfl 54 rfl ?_
  refine Viconst dX1_workedOut_54 (1 : Int32) (by decide) 55 rfl ?_
  refine Visub dX1_workedOut_55 56 rfl ?_
  refine Vstore dX1_workedOut_56 [(6, .int (u3.1 - (1 : Int32))), (5, .int (f_X1_shown u3.2.2 u3.2.1)), (0, .ref (ad G 1)), (2, .int x2), (3, .int u3.1), (4, .int u3.2.1)] 58 rfl (by decide) rfl ?_
  refine Vlv [2, 3, 1, 0] rfl ?_
  exact vl_X1_workedOut_58 l X hF x2  9 (f_X1_shown u3.2.2 u3.2.1) (u3.1 - (1 : Int32)) u3.2.2 i0 (by rw [hc0]) hi0 (by omega)
def f_X2_tell (σ : mS) (x1 : Int32) (x2 : Int32) : Int32 := (if x1 < 0 then (-1 : Int32) else (if (σ 5 4) ≤ x1 then (-1 : Int32) else (if x1 < (30 : Int32) then (if (σ 5 3) < x1 then (if (((σ 5 3) - x1) + (30 : Int32)) < 0 then (-1 : Int32) else (if (((σ 5 3) - x1) + (30 : Int32)) < (30 : Int32) then (if x2 = 0 then (σ 6 (((σ 5 3) - x1) + (30 : Int32)).toNatClampNeg) else (if x2 = (1 : Int32) then (σ 7 (((σ 5 3) - x1) + (30 : Int32)).toNatClampNeg) else (σ 8 (((σ 5 3) - x1) + (30 : Int32)).toNatClampNeg))) else (-1 : Int32))) else (if ((σ 5 3) - x1) < 0 then (-1 : Int32) else (if ((σ 5 3) - x1) < (30 : Int32) then (if x2 = 0 then (σ 6 ((σ 5 3) - x1).toNatClampNeg) else (if x2 = (1 : Int32) then (σ 7 ((σ 5 3) - x1).toNatClampNeg) else (σ 8 ((σ 5 3) - x1).toNatClampNeg))) else (-1 : Int32)))) else (-1 : Int32))))
theorem mw_X2_tell : mW yX2_tell cX2_tell 4 (some .int) 2 := ⟨wd_co_yX2_tell, wd_ini_RX2, ⟨by decide, by decide⟩, by decide +kernel, by decide⟩
set_option maxRecDepth 100000 in
set_option maxHeartbeats 4000000 in
theorem c_X2_tell (l : Launch) {G : gT} (hF : Full G) (σ : mS) (x1 : Int32) (x2 : Int32)  : Ct l G yX2_tell cX2_tell 4 (some .int) 0 [.ref (ad G 5), .int x1, .int x2] κI σ (f_X2_tell σ x1 x2, σ) := by
  refine Ct.ofV [(0, .ref (ad G 5)), (1, .int x1), (2, .int x2)] rfl (by decide) (Nat.le_of_ble_eq_true rfl) rfl (fun X => ?_)
  unfold f_X2_tell
  refine Vload_n dX2_tell_0 1 rfl 1 rfl ?_
  refine Viflt (fun v => (v, σ)) dX2_tell_1 18 4 (by decide) rfl (fun h1 => ?_) (fun h1 => ?_)
  · refine Viconst dX2_tell_18 (-1 : Int32) (by decide) 19 rfl ?_
    exact Viret dX2_tell_19
  · refine Vload_n dX2_tell_4 1 rfl 5 rfl ?_
    refine Vaload_n dX2_tell_5 0 rfl 6 rfl ?_
    refine Vget (5) 4 dX2_tell_6 9 rfl (hF.1 5 (by decide)) wk5 rfl inX2 (by decide) wd_fl_RX2_25 (v := .int (σ 5 4)) rfl ?_
    refine Vicge (fun v => (v, σ)) dX2_tell_9 18 12 (by decide) rfl (fun h2 => ?_) (fun h2 => ?_)
    · refine Viconst dX2_tell_18 (-1 : Int32) (by decide) 19 rfl ?_
      exact Viret dX2_tell_19
    · refine Vload_n dX2_tell_12 1 rfl 13 rfl ?_
      refine Vbipush dX2_tell_13 (30 : Int32) (by decide) 15 rfl ?_
      refine Viclt (fun v => (v, σ)) dX2_tell_15 20 18 (by decide) rfl (fun h3 => ?_) (fun h3 => ?_)
      · refine Vload_n dX2_tell_20 1 rfl 21 rfl ?_
        refine Vaload_n dX2_tell_21 0 rfl 22 rfl ?_
        refine Vget (5) 3 dX2_tell_22 25 rfl (hF.1 5 (by decide)) wk5 rfl inX2 (by decide) wd_fl_RX2_21 (v := .int (σ 5 3)) rfl ?_
        refine Vicgt (fun v => (v, σ)) dX2_tell_25 37 28 (by decide) rfl (fun h4 => ?_) (fun h4 => ?_)
        · refine Vaload_n dX2_tell_37 0 rfl 38 rfl ?_
          refine Vget (5) 3 dX2_tell_38 41 rfl (hF.1 5 (by decide)) wk5 rfl inX2 (by decide) wd_fl_RX2_21 (v := .int (σ 5 3)) rfl ?_
          refine Vload_n dX2_tell_41 1 rfl 42 rfl ?_
          refine Visub dX2_tell_42 43 rfl ?_
          refine Vbipush dX2_tell_43 (30 : Int32) (by decide) 45 rfl ?_
          refine Viadd dX2_tell_45 46 rfl ?_
          refine Vstore_n dX2_tell_46 [(3, .int (((σ 5 3) - x1) + (30 : Int32))), (0, .ref (ad G 5)), (1, .int x1), (2, .int x2)] 47 rfl (by decide) rfl ?_
          refine Vload_n dX2_tell_47 0 rfl 48 rfl ?_
          refine Viflt (fun v => (v, σ)) dX2_tell_48 57 51 (by decide) rfl (fun h5 => ?_) (fun h5 => ?_)
          · refine Viconst dX2_tell_57 (-1 : Int32) (by decide) 58 rfl ?_
            exact Viret dX2_tell_58
          · refine Vload_n dX2_tell_51 0 rfl 52 rfl ?_
            refine Vbipush dX2_tell_52 (30 : Int32) (by decide) 54 rfl ?_
            refine Viclt (fun v => (v, σ)) dX2_tell_54 59 57 (by decide) rfl (fun h6 => ?_) (fun h6 => ?_)
            · refine Vload_n dX2_tell_59 3 rfl 60 rfl ?_
              refine Vifne (fun v => (v, σ)) dX2_tell_60 70 63 (by decide) rfl (fun h7 => ?_) (fun h7 => ?_)
              · refine Vload_n dX2_tell_70 3 rfl 71 rfl ?_
                refine Viconst dX2_tell_71 (1 : Int32) (by decide) 72 rfl ?_
                refine Vicne (fun v => (v, σ)) dX2_tell_72 84 75 (by decide) rfl (fun h8 => ?_) (fun h8 => ?_)
                · refine Vaload_n dX2_tell_84 1 rfl 85 rfl ?_
                  refine Vget (5) 2 dX2_tell_85 88 rfl (hF.1 5 (by decide)) wk5 rfl inX2 (by decide) wd_fl_RX2_18 (v := .ref (ad G 8)) rfl ?_
                  refine Vload_n dX2_tell_88 0 rfl 89 rfl ?_
                  refine Vld dX2_tell_89 90 rfl (hF.1 8 (by decide)) wk8 wn8 hF.2.1 (by first | exact (by assumption) | exact (vin_cmp2 (by assumption) (by assumption) (by decide)) | exact (vin_cell (by assumption)) | exact (vin_reg (by assumption)) | exact (vin_row (by assumption)) | exact (vin_cnt (by assumption) (by assumption) (by decide) (by decide) (by assumption)) | exact (vin_cmp (by assumption) (by assumption) (by decide)) | exact (vp_in_iff.mpr (by decide))) ?_
                  exact Viret dX2_tell_90
                · refine Vaload_n dX2_tell_75 1 rfl 76 rfl ?_
                  refine Vget (5) 1 dX2_tell_76 79 rfl (hF.1 5 (by decide)) wk5 rfl inX2 (by decide) wd_fl_RX2_15 (v := .ref (ad G 7)) rfl ?_
                  refine Vload_n dX2_tell_79 0 rfl 80 rfl ?_
                  refine Vld dX2_tell_80 81 rfl (hF.1 7 (by decide)) wk7 wn7 hF.2.1 (by first | exact (by assumption) | exact (vin_cmp2 (by assumption) (by assumption) (by decide)) | exact (vin_cell (by assumption)) | exact (vin_reg (by assumption)) | exact (vin_row (by assumption)) | exact (vin_cnt (by assumption) (by assumption) (by decide) (by decide) (by assumption)) | exact (vin_cmp (by assumption) (by assumption) (by decide)) | exact (vp_in_iff.mpr (by decide))) ?_
                  refine Vgoto dX2_tell_81 90 (by decide) ?_
                  exact Viret dX2_tell_90
              · refine Vaload_n dX2_tell_63 1 rfl 64 rfl ?_
                refine Vget (5) 0 dX2_tell_64 67 rfl (hF.1 5 (by decide)) wk5 rfl inX2 (by decide) wd_fl_RX2_9 (v := .ref (ad G 6)) rfl ?_
                refine Vload_n dX2_tell_67 0 rfl 68 rfl ?_
                refine Vld dX2_tell_68 69 rfl (hF.1 6 (by decide)) wk6 wn6 hF.2.1 (by first | exact (by assumption) | exact (vin_cmp2 (by assumption) (by assumption) (by decide)) | exact (vin_cell (by assumption)) | exact (vin_reg (by assumption)) | exact (vin_row (by assumption)) | exact (vin_cnt (by assumption) (by assumption) (by decide) (by decide) (by assumption)) | exact (vin_cmp (by assumption) (by assumption) (by decide)) | exact (vp_in_iff.mpr (by decide))) ?_
                exact Viret dX2_tell_69
            · refine Viconst dX2_tell_57 (-1 : Int32) (by decide) 58 rfl ?_
              exact Viret dX2_tell_58
        · refine Vaload_n dX2_tell_28 0 rfl 29 rfl ?_
          refine Vget (5) 3 dX2_tell_29 32 rfl (hF.1 5 (by decide)) wk5 rfl inX2 (by decide) wd_fl_RX2_21 (v := .int (σ 5 3)) rfl ?_
          refine Vload_n dX2_tell_32 1 rfl 33 rfl ?_
          refine Visub dX2_tell_33 34 rfl ?_
          refine Vgoto dX2_tell_34 46 (by decide) ?_
          refine Vstore_n dX2_tell_46 [(3, .int ((σ 5 3) - x1)), (0, .ref (ad G 5)), (1, .int x1), (2, .int x2)] 47 rfl (by decide) rfl ?_
          refine Vload_n dX2_tell_47 0 rfl 48 rfl ?_
          refine Viflt (fun v => (v, σ)) dX2_tell_48 57 51 (by decide) rfl (fun h9 => ?_) (fun h9 => ?_)
          · refine Viconst dX2_tell_57 (-1 : Int32) (by decide) 58 rfl ?_
            exact Viret dX2_tell_58
          · refine Vload_n dX2_tell_51 0 rfl 52 rfl ?_
            refine Vbipush dX2_tell_52 (30 : Int32) (by decide) 54 rfl ?_
            refine Viclt (fun v => (v, σ)) dX2_tell_54 59 57 (by decide) rfl (fun h10 => ?_) (fun h10 => ?_)
            · refine Vload_n dX2_tell_59 3 rfl 60 rfl ?_
              refine Vifne (fun v => (v, σ)) dX2_tell_60 70 63 (by decide) rfl (fun h11 => ?_) (fun h11 => ?_)
              · refine Vload_n dX2_tell_70 3 rfl 71 rfl ?_
                refine Viconst dX2_tell_71 (1 : Int32) (by decide) 72 rfl ?_
                refine Vicne (fun v => (v, σ)) dX2_tell_72 84 75 (by decide) rfl (fun h12 => ?_) (fun h12 => ?_)
                · refine Vaload_n dX2_tell_84 1 rfl 85 rfl ?_
                  refine Vget (5) 2 dX2_tell_85 88 rfl (hF.1 5 (by decide)) wk5 rfl inX2 (by decide) wd_fl_RX2_18 (v := .ref (ad G 8)) rfl ?_
                  refine Vload_n dX2_tell_88 0 rfl 89 rfl ?_
                  refine Vld dX2_tell_89 90 rfl (hF.1 8 (by decide)) wk8 wn8 hF.2.1 (by first | exact (by assumption) | exact (vin_cmp2 (by assumption) (by assumption) (by decide)) | exact (vin_cell (by assumption)) | exact (vin_reg (by assumption)) | exact (vin_row (by assumption)) | exact (vin_cnt (by assumption) (by assumption) (by decide) (by decide) (by assumption)) | exact (vin_cmp (by assumption) (by assumption) (by decide)) | exact (vp_in_iff.mpr (by decide))) ?_
                  exact Viret dX2_tell_90
                · refine Vaload_n dX2_tell_75 1 rfl 76 rfl ?_
                  refine Vget (5) 1 dX2_tell_76 79 rfl (hF.1 5 (by decide)) wk5 rfl inX2 (by decide) wd_fl_RX2_15 (v := .ref (ad G 7)) rfl ?_
                  refine Vload_n dX2_tell_79 0 rfl 80 rfl ?_
                  refine Vld dX2_tell_80 81 rfl (hF.1 7 (by decide)) wk7 wn7 hF.2.1 (by first | exact (by assumption) | exact (vin_cmp2 (by assumption) (by assumption) (by decide)) | exact (vin_cell (by assumption)) | exact (vin_reg (by assumption)) | exact (vin_row (by assumption)) | exact (vin_cnt (by assumption) (by assumption) (by decide) (by decide) (by assumption)) | exact (vin_cmp (by assumption) (by assumption) (by decide)) | exact (vp_in_iff.mpr (by decide))) ?_
                  refine Vgoto dX2_tell_81 90 (by decide) ?_
                  exact Viret dX2_tell_90
              · refine Vaload_n dX2_tell_63 1 rfl 64 rfl ?_
                refine Vget (5) 0 dX2_tell_64 67 rfl (hF.1 5 (by decide)) wk5 rfl inX2 (by decide) wd_fl_RX2_9 (v := .ref (ad G 6)) rfl ?_
                refine Vload_n dX2_tell_67 0 rfl 68 rfl ?_
                refine Vld dX2_tell_68 69 rfl (hF.1 6 (by decide)) wk6 wn6 hF.2.1 (by first | exact (by assumption) | exact (vin_cmp2 (by assumption) (by assumption) (by decide)) | exact (vin_cell (by assumption)) | exact (vin_reg (by assumption)) | exact (vin_row (by assumption)) | exact (vin_cnt (by assumption) (by assumption) (by decide) (by decide) (by assumption)) | exact (vin_cmp (by assumption) (by assumption) (by decide)) | exact (vp_in_iff.mpr (by decide))) ?_
                exact Viret dX2_tell_69
            · refine Viconst dX2_tell_57 (-1 : Int32) (by decide) 58 rfl ?_
              exact Viret dX2_tell_58
      · refine Viconst dX2_tell_18 (-1 : Int32) (by decide) 19 rfl ?_
        exact Viret dX2_tell_19
end
section
def l_X3_reset_2 : Nat → Int32 → mS → Int32 × mS
  | 0, y1, σ => (0, σ)
  | n + 1, y1, σ => (if (4 : Int32) ≤ y1 then (0, σ) else (l_X3_reset_2 n (y1 + 1) (st2 (st2 σ 10 y1.toNatClampNeg (-1 : Int32)) 11 y1.toNatClampNeg (0 : Int32))))
set_option maxRecDepth 100000 in
set_option maxHeartbeats 4000000 in
theorem vl_X3_reset_2 (l : Launch) {G : gT} (X : xT) (hI : ∀ q : Nat, q ∈ [9, 10, 11] → q ∈ gI G) (hT0 : (gY G)[0]? = some ((gC G).1, .int)) (hT1 : (gY G)[1]? = some ((gC G).2.1, .boolean))  : ∀ (n : Nat) (y1 : Int32) (σ : mS) (i : Nat) (hc : y1 = nI i) (hi : i ≤ 4) (hn : n + i = 5), V l G X RX3 cX3_reset 2 0 none κV ((fun v => v) (l_X3_reset_2 n y1 σ)) σ 2 [(0, .ref (ad G 9)), (1, .int y1)] [] := by
  intro n
  induction n with
  | zero => intro y1 σ i hc hi hn; exact absurd hn (by omega)
  | succ n ih =>
    intro y1 σ i hc hi hn
    rw [l_X3_reset_2.eq_2]
    refine Vload_n dX3_reset_2 1 rfl 3 rfl ?_
    refine Viconst dX3_reset_3 (4 : Int32) (by decide) 4 rfl ?_
    refine Vicge (fun v => v) dX3_reset_4 27 7 (by decide) rfl (fun h1 => ?_) (fun h1 => ?_)
    · exact Vvret dX3_reset_27
    · refine Vaload_n dX3_reset_7 0 rfl 8 rfl ?_
      refine Vget (9) 0 dX3_reset_8 11 rfl (hI 9 (by decide)) wk9 rfl inX3 (by decide) wd_fl_RX3_9 (v := .ref (ad G 10)) rfl ?_
      refine Vload_n dX3_reset_11 1 rfl 12 rfl ?_
      refine Viconst dX3_reset_12 (-1 : Int32) (by decide) 13 rfl ?_
      refine Vst dX3_reset_13 14 rfl (hI 10 (by decide)) wk10 wn10 hT0 (by first | exact (by assumption) | exact (vin_cmp2 (by assumption) (by assumption) (by decide)) | exact (vin_cell (by assumption)) | exact (vin_reg (by assumption)) | exact (vin_row (by assumption)) | exact (vin_cnt (by assumption) (by assumption) (by decide) (by decide) (by assumption)) | exact (vin_cmp (by assumption) (by assumption) (by decide)) | exact (vp_in_iff.mpr (by decide))) ?_
      refine Vaload_n dX3_reset_14 0 rfl 15 rfl ?_
      refine Vget (9) 1 dX3_reset_15 18 rfl (hI 9 (by decide)) wk9 rfl inX3 (by decide) wd_fl_RX3_15 (v := .ref (ad G 11)) rfl ?_
      refine Vload_n dX3_reset_18 1 rfl 19 rfl ?_
      refine Viconst dX3_reset_19 (0 : Int32) (by decide) 20 rfl ?_
      refine Vstz dX3_reset_20 21 rfl (hI 11 (by decide)) wk11 wn11 hT1 (by first | exact (by assumption) | exact (vin_cmp2 (by assumption) (by assumption) (by decide)) | exact (vin_cell (by assumption)) | exact (vin_reg (by assumption)) | exact (vin_row (by assumption)) | exact (vin_cnt (by assumption) (by assumption) (by decide) (by decide) (by assumption)) | exact (vin_cmp (by assumption) (by assumption) (by decide)) | exact (vp_in_iff.mpr (by decide))) (by decide) ?_
      refine Viinc dX3_reset_21 (y1 + 1) 1 [(1, .int (y1 + 1)), (0, .ref (ad G 9))] 24 rfl rfl rfl (by decide) rfl ?_
      refine Vgoto dX3_reset_24 2 (by decide) ?_
      refine Vlv [1, 0] rfl ?_
      exact ih (y1 + 1) (st2 (st2 σ 10 y1.toNatClampNeg (-1 : Int32)) 11 y1.toNatClampNeg (0 : Int32)) (i + 1) (cnt_s hc) (cnt_lt hc (by assumption) (K := 4) (by decide) (by decide) hi) (by omega)
def f_X3_reset (σ : mS)  : Int32 × mS := (l_X3_reset_2 5 (0 : Int32) σ)
theorem mw_X3_reset : mW yX3_reset cX3_reset 2 none 0 := ⟨wd_co_yX3_reset, wd_ini_RX3, ⟨by decide, by decide⟩, by decide +kernel, by decide⟩
set_option maxRecDepth 100000 in
set_option maxHeartbeats 4000000 in
theorem c_X3_reset (l : Launch) {G : gT} (hI : ∀ q : Nat, q ∈ [9, 10, 11] → q ∈ gI G) (hT0 : (gY G)[0]? = some ((gC G).1, .int)) (hT1 : (gY G)[1]? = some ((gC G).2.1, .boolean)) (σ : mS)   : Ct l G yX3_reset cX3_reset 2 none 0 [.ref (ad G 9)] κV σ (f_X3_reset σ) := by
  refine Ct.ofV [(0, .ref (ad G 9))] rfl (by decide) (Nat.le_of_ble_eq_true rfl) rfl (fun X => ?_)
  unfold f_X3_reset
  refine Viconst dX3_reset_0 (0 : Int32) (by decide) 1 rfl ?_
  refine Vstore_n dX3_reset_1 [(1, .int (0 : Int32)), (0, .ref (ad G 9))] 2 rfl (by decide) rfl ?_
  refine Vlv [1, 0] rfl ?_
  exact vl_X3_reset_2 l X hI hT0 hT1  5 (0 : Int32) σ 0 nI_0.symm (Nat.zero_le _) rfl
def f_X5_isRow (x0 : Int32) : Int32 := (if x0 < 0 then (0 : Int32) else (if (4 : Int32) ≤ x0 then (0 : Int32) else (1 : Int32)))
theorem mw_X5_isRow : mW yX5_isRow cX5_isRow 1 (some .boolean) 1 := ⟨wd_co_yX5_isRow, wd_ini_RX5, ⟨by decide, by decide⟩, by decide +kernel, by decide⟩
set_option maxRecDepth 100000 in
set_option maxHeartbeats 4000000 in
theorem c_X5_isRow (l : Launch) {G : gT} (hF : Full G) (σ : mS) (x0 : Int32)  : Ct l G yX5_isRow cX5_isRow 1 (some .boolean) 0 [.int x0] κI σ (f_X5_isRow x0, σ) := by
  refine Ct.ofV [(0, .int x0)] rfl (by decide) (Nat.le_of_ble_eq_true rfl) rfl (fun X => ?_)
  unfold f_X5_isRow
  refine Vload_n dX5_isRow_0 0 rfl 1 rfl ?_
  refine Viflt (fun v => (v, σ)) dX5_isRow_1 13 4 (by decide) rfl (fun h1 => ?_) (fun h1 => ?_)
  · refine Viconst dX5_isRow_13 (0 : Int32) (by decide) 14 rfl ?_
    exact Vzret dX5_isRow_14 (by first | decide | exact nb_isRegister _ | exact nb_isRow _ | exact nb_isPlace _ | exact nb_within _ _ _ | exact nb_mRegister _ | exact nb_mCell _ | exact nb_mPlace _)
  · refine Vload_n dX5_isRow_4 0 rfl 5 rfl ?_
    refine Viconst dX5_isRow_5 (4 : Int32) (by decide) 6 rfl ?_
    refine Vicge (fun v => (v, σ)) dX5_isRow_6 13 9 (by decide) rfl (fun h2 => ?_) (fun h2 => ?_)
    · refine Viconst dX5_isRow_13 (0 : Int32) (by decide) 14 rfl ?_
      exact Vzret dX5_isRow_14 (by first | decide | exact nb_isRegister _ | exact nb_isRow _ | exact nb_isPlace _ | exact nb_within _ _ _ | exact nb_mRegister _ | exact nb_mCell _ | exact nb_mPlace _)
    · refine Viconst dX5_isRow_9 (1 : Int32) (by decide) 10 rfl ?_
      refine Vgoto dX5_isRow_10 14 (by decide) ?_
      exact Vzret dX5_isRow_14 (by first | decide | exact nb_isRegister _ | exact nb_isRow _ | exact nb_isPlace _ | exact nb_within _ _ _ | exact nb_mRegister _ | exact nb_mCell _ | exact nb_mPlace _)
theorem nb_isRow (x : Int32) : narrow .boolean (.int (f_X5_isRow x)) = .int (f_X5_isRow x) := by unfold f_X5_isRow; (repeat' split) <;> rfl
theorem vin_row {x : Int32} (h : ¬ f_X5_isRow x = 0) : vp_in x 4 := by
  unfold f_X5_isRow at h
  by_cases h1 : x < 0
  · rw [if_pos h1] at h; exact absurd rfl h
  · rw [if_neg h1] at h
    by_cases h2 : (4 : Int32) ≤ x
    · rw [if_pos h2] at h; exact absurd rfl h
    · exact vin_cmp h1 h2 (by decide)
def f_X3_length (σ : mS) (x1 : Int32) : Int32 := (if (f_X5_isRow x1) = 0 then (-1 : Int32) else (σ 10 x1.toNatClampNeg))
theorem mw_X3_length : mW yX3_length cX3_length 2 (some .int) 1 := ⟨wd_co_yX3_length, wd_ini_RX3, ⟨by decide, by decide⟩, by decide +kernel, by decide⟩
set_option maxRecDepth 100000 in
set_option maxHeartbeats 4000000 in
theorem c_X3_length (l : Launch) {G : gT} (hF : Full G) (σ : mS) (x1 : Int32)  : Ct l G yX3_length cX3_length 2 (some .int) 1 [.ref (ad G 9), .int x1] κI σ (f_X3_length σ x1, σ) := by
  refine Ct.ofV [(0, .ref (ad G 9)), (1, .int x1)] rfl (by decide) (Nat.le_of_ble_eq_true rfl) rfl (fun X => ?_)
  unfold f_X3_length
  refine Vload_n dX3_length_0 1 rfl 1 rfl ?_
  refine VcSNp dX3_length_1 [.int x1] (c_X5_isRow l hF σ x1) mw_X5_isRow wd_sm_yX5_isRow wd_nml_RX3_25 (by decide) rfl rfl (Nat.le_of_ble_eq_true rfl) 4 rfl ?_
  refine Vifeq (fun v => (v, σ)) dX3_length_4 16 7 (by decide) rfl (fun h1 => ?_) (fun h1 => ?_)
  · refine Viconst dX3_length_16 (-1 : Int32) (by decide) 17 rfl ?_
    exact Viret dX3_length_17
  · refine Vaload_n dX3_length_7 0 rfl 8 rfl ?_
    refine Vget (9) 0 dX3_length_8 11 rfl (hF.1 9 (by decide)) wk9 rfl inX3 (by decide) wd_fl_RX3_9 (v := .ref (ad G 10)) rfl ?_
    refine Vload_n dX3_length_11 1 rfl 12 rfl ?_
    refine Vld dX3_length_12 13 rfl (hF.1 10 (by decide)) wk10 wn10 hF.2.1 (by first | exact (by assumption) | exact (vin_cmp2 (by assumption) (by assumption) (by decide)) | exact (vin_cell (by assumption)) | exact (vin_reg (by assumption)) | exact (vin_row (by assumption)) | exact (vin_cnt (by assumption) (by assumption) (by decide) (by decide) (by assumption)) | exact (vin_cmp (by assumption) (by assumption) (by decide)) | exact (vp_in_iff.mpr (by decide))) ?_
    refine Vgoto dX3_length_13 17 (by decide) ?_
    exact Viret dX3_length_17
def f_X3_isFrozen (σ : mS) (x1 : Int32) : Int32 := (if (f_X5_isRow x1) = 0 then (0 : Int32) else (if (σ 11 x1.toNatClampNeg) = 0 then (0 : Int32) else (1 : Int32)))
theorem mw_X3_isFrozen : mW yX3_isFrozen cX3_isFrozen 2 (some .boolean) 1 := ⟨wd_co_yX3_isFrozen, wd_ini_RX3, ⟨by decide, by decide⟩, by decide +kernel, by decide⟩
set_option maxRecDepth 100000 in
set_option maxHeartbeats 4000000 in
theorem c_X3_isFrozen (l : Launch) {G : gT} (hF : Full G) (σ : mS) (x1 : Int32)  : Ct l G yX3_isFrozen cX3_isFrozen 2 (some .boolean) 1 [.ref (ad G 9), .int x1] κI σ (f_X3_isFrozen σ x1, σ) := by
  refine Ct.ofV [(0, .ref (ad G 9)), (1, .int x1)] rfl (by decide) (Nat.le_of_ble_eq_true rfl) rfl (fun X => ?_)
  unfold f_X3_isFrozen
  refine Vload_n dX3_isFrozen_0 1 rfl 1 rfl ?_
  refine VcSNp dX3_isFrozen_1 [.int x1] (c_X5_isRow l hF σ x1) mw_X5_isRow wd_sm_yX5_isRow wd_nml_RX3_25 (by decide) rfl rfl (Nat.le_of_ble_eq_true rfl) 4 rfl ?_
  refine Vifeq (fun v => (v, σ)) dX3_isFrozen_4 20 7 (by decide) rfl (fun h1 => ?_) (fun h1 => ?_)
  · refine Viconst dX3_isFrozen_20 (0 : Int32) (by decide) 21 rfl ?_
    exact Vzret dX3_isFrozen_21 (by first | decide | exact nb_isRegister _ | exact nb_isRow _ | exact nb_isPlace _ | exact nb_within _ _ _ | exact nb_mRegister _ | exact nb_mCell _ | exact nb_mPlace _)
  · refine Vaload_n dX3_isFrozen_7 0 rfl 8 rfl ?_
    refine Vget (9) 1 dX3_isFrozen_8 11 rfl (hF.1 9 (by decide)) wk9 rfl inX3 (by decide) wd_fl_RX3_15 (v := .ref (ad G 11)) rfl ?_
    refine Vload_n dX3_isFrozen_11 1 rfl 12 rfl ?_
    refine Vldz dX3_isFrozen_12 13 rfl (hF.1 11 (by decide)) wk11 wn11 hF.2.2.1 (by first | exact (by assumption) | exact (vin_cmp2 (by assumption) (by assumption) (by decide)) | exact (vin_cell (by assumption)) | exact (vin_reg (by assumption)) | exact (vin_row (by assumption)) | exact (vin_cnt (by assumption) (by assumption) (by decide) (by decide) (by assumption)) | exact (vin_cmp (by assumption) (by assumption) (by decide)) | exact (vp_in_iff.mpr (by decide))) ?_
    refine Vifeq (fun v => (v, σ)) dX3_isFrozen_13 20 16 (by decide) rfl (fun h2 => ?_) (fun h2 => ?_)
    · refine Viconst dX3_isFrozen_20 (0 : Int32) (by decide) 21 rfl ?_
      exact Vzret dX3_isFrozen_21 (by first | decide | exact nb_isRegister _ | exact nb_isRow _ | exact nb_isPlace _ | exact nb_within _ _ _ | exact nb_mRegister _ | exact nb_mCell _ | exact nb_mPlace _)
    · refine Viconst dX3_isFrozen_16 (1 : Int32) (by decide) 17 rfl ?_
      refine Vgoto dX3_isFrozen_17 21 (by decide) ?_
      exact Vzret dX3_isFrozen_21 (by first | decide | exact nb_isRegister _ | exact nb_isRow _ | exact nb_isPlace _ | exact nb_within _ _ _ | exact nb_mRegister _ | exact nb_mCell _ | exact nb_mPlace _)
def f_X3_hasItem (σ : mS) (x1 : Int32) (x2 : Int32) : Int32 := (if (f_X5_isRow x1) = 0 then (0 : Int32) else (if x2 < 0 then (0 : Int32) else (if (σ 10 x1.toNatClampNeg) ≤ x2 then (0 : Int32) else (if (8 : Int32) ≤ x2 then (0 : Int32) else (1 : Int32)))))
theorem mw_X3_hasItem : mW yX3_hasItem cX3_hasItem 3 (some .boolean) 2 := ⟨wd_co_yX3_hasItem, wd_ini_RX3, ⟨by decide, by decide⟩, by decide +kernel, by decide⟩
set_option maxRecDepth 100000 in
set_option maxHeartbeats 4000000 in
theorem c_X3_hasItem (l : Launch) {G : gT} (hF : Full G) (σ : mS) (x1 : Int32) (x2 : Int32)  : Ct l G yX3_hasItem cX3_hasItem 3 (some .boolean) 1 [.ref (ad G 9), .int x1, .int x2] κI σ (f_X3_hasItem σ x1 x2, σ) := by
  refine Ct.ofV [(0, .ref (ad G 9)), (1, .int x1), (2, .int x2)] rfl (by decide) (Nat.le_of_ble_eq_true rfl) rfl (fun X => ?_)
  unfold f_X3_hasItem
  refine Vload_n dX3_hasItem_0 1 rfl 1 rfl ?_
  refine VcSNp dX3_hasItem_1 [.int x1] (c_X5_isRow l hF σ x1) mw_X5_isRow wd_sm_yX5_isRow wd_nml_RX3_25 (by decide) rfl rfl (Nat.le_of_ble_eq_true rfl) 4 rfl ?_
  refine Vifeq (fun v => (v, σ)) dX3_hasItem_4 31 7 (by decide) rfl (fun h1 => ?_) (fun h1 => ?_)
  · refine Viconst dX3_hasItem_31 (0 : Int32) (by decide) 32 rfl ?_
    exact Vzret dX3_hasItem_32 (by first | decide | exact nb_isRegister _ | exact nb_isRow _ | exact nb_isPlace _ | exact nb_within _ _ _ | exact nb_mRegister _ | exact nb_mCell _ | exact nb_mPlace _)
  · refine Vload_n dX3_hasItem_7 2 rfl 8 rfl ?_
    refine Viflt (fun v => (v, σ)) dX3_hasItem_8 31 11 (by decide) rfl (fun h2 => ?_) (fun h2 => ?_)
    · refine Viconst dX3_hasItem_31 (0 : Int32) (by decide) 32 rfl ?_
      exact Vzret dX3_hasItem_32 (by first | decide | exact nb_isRegister _ | exact nb_isRow _ | exact nb_isPlace _ | exact nb_within _ _ _ | exact nb_mRegister _ | exact nb_mCell _ | exact nb_mPlace _)
    · refine Vload_n dX3_hasItem_11 2 rfl 12 rfl ?_
      refine Vaload_n dX3_hasItem_12 0 rfl 13 rfl ?_
      refine Vget (9) 0 dX3_hasItem_13 16 rfl (hF.1 9 (by decide)) wk9 rfl inX3 (by decide) wd_fl_RX3_9 (v := .ref (ad G 10)) rfl ?_
      refine Vload_n dX3_hasItem_16 1 rfl 17 rfl ?_
      refine Vld dX3_hasItem_17 18 rfl (hF.1 10 (by decide)) wk10 wn10 hF.2.1 (by first | exact (by assumption) | exact (vin_cmp2 (by assumption) (by assumption) (by decide)) | exact (vin_cell (by assumption)) | exact (vin_reg (by assumption)) | exact (vin_row (by assumption)) | exact (vin_cnt (by assumption) (by assumption) (by decide) (by decide) (by assumption)) | exact (vin_cmp (by assumption) (by assumption) (by decide)) | exact (vp_in_iff.mpr (by decide))) ?_
      refine Vicge (fun v => (v, σ)) dX3_hasItem_18 31 21 (by decide) rfl (fun h3 => ?_) (fun h3 => ?_)
      · refine Viconst dX3_hasItem_31 (0 : Int32) (by decide) 32 rfl ?_
        exact Vzret dX3_hasItem_32 (by first | decide | exact nb_isRegister _ | exact nb_isRow _ | exact nb_isPlace _ | exact nb_within _ _ _ | exact nb_mRegister _ | exact nb_mCell _ | exact nb_mPlace _)
      · refine Vload_n dX3_hasItem_21 2 rfl 22 rfl ?_
        refine Vbipush dX3_hasItem_22 (8 : Int32) (by decide) 24 rfl ?_
        refine Vicge (fun v => (v, σ)) dX3_hasItem_24 31 27 (by decide) rfl (fun h4 => ?_) (fun h4 => ?_)
        · refine Viconst dX3_hasItem_31 (0 : Int32) (by decide) 32 rfl ?_
          exact Vzret dX3_hasItem_32 (by first | decide | exact nb_isRegister _ | exact nb_isRow _ | exact nb_isPlace _ | exact nb_within _ _ _ | exact nb_mRegister _ | exact nb_mCell _ | exact nb_mPlace _)
        · refine Viconst dX3_hasItem_27 (1 : Int32) (by decide) 28 rfl ?_
          refine Vgoto dX3_hasItem_28 32 (by decide) ?_
          exact Vzret dX3_hasItem_32 (by first | decide | exact nb_isRegister _ | exact nb_isRow _ | exact nb_isPlace _ | exact nb_within _ _ _ | exact nb_mRegister _ | exact nb_mCell _ | exact nb_mPlace _)
theorem vin_item {σ : mS} {x i : Int32} (h : ¬ f_X3_hasItem σ x i = 0) : vp_in (x * 8 + i) 32 := by
  unfold f_X3_hasItem at h
  by_cases h1 : f_X5_isRow x = 0
  · rw [if_pos h1] at h; exact absurd rfl h
  rw [if_neg h1] at h
  by_cases h2 : i < 0
  · rw [if_pos h2] at h; exact absurd rfl h
  rw [if_neg h2] at h
  by_cases h3 : σ 10 x.toNatClampNeg ≤ i
  · rw [if_pos h3] at h; exact absurd rfl h
  rw [if_neg h3] at h
  by_cases h4 : (8 : Int32) ≤ i
  · rw [if_pos h4] at h; exact absurd rfl h
  obtain ⟨j, hj, rfl⟩ := vp_in_of (vin_row h1) (by decide)
  obtain ⟨k, hk, rfl⟩ := vp_in_of (vin_cmp (n := 8) h2 h4 (by decide)) (by decide)
  rw [show nI j * 8 = nI (j * 8) from pk_mul j 8, nI_add]
  exact vp_in_nI (by omega) (by decide)
def f_X3_itemOf (σ : mS) (x1 : Int32) (x2 : Int32) : Int32 := (if (f_X3_hasItem σ x1 x2) = 0 then (0 : Int32) else (σ 12 ((x1 * (8 : Int32)) + x2).toNatClampNeg))
theorem mw_X3_itemOf : mW yX3_itemOf cX3_itemOf 3 (some .int) 2 := ⟨wd_co_yX3_itemOf, wd_ini_RX3, ⟨by decide, by decide⟩, by decide +kernel, by decide⟩
set_option maxRecDepth 100000 in
set_option maxHeartbeats 4000000 in
theorem c_X3_itemOf (l : Launch) {G : gT} (hF : Full G) (σ : mS) (x1 : Int32) (x2 : Int32)  : Ct l G yX3_itemOf cX3_itemOf 3 (some .int) 2 [.ref (ad G 9), .int x1, .int x2] κI σ (f_X3_itemOf σ x1 x2, σ) := by
  refine Ct.ofV [(0, .ref (ad G 9)), (1, .int x1), (2, .int x2)] rfl (by decide) (Nat.le_of_ble_eq_true rfl) rfl (fun X => ?_)
  unfold f_X3_itemOf
  refine Vaload_n dX3_itemOf_0 0 rfl 1 rfl ?_
  refine Vload_n dX3_itemOf_1 1 rfl 2 rfl ?_
  refine Vload_n dX3_itemOf_2 2 rfl 3 rfl ?_
  refine VcVp dX3_itemOf_3 [.int x1, .int x2] (c_X3_hasItem l hF σ x1 x2) mw_X3_hasItem wd_im_yX3_hasItem wd_se_yX3_hasItem wd_ml_RX3_29 (hF.1 9 (by decide)) wk9 rfl rfl (by decide) rfl rfl (Nat.le_of_ble_eq_true rfl) 6 rfl ?_
  refine Vifeq (fun v => (v, σ)) dX3_itemOf_6 23 9 (by decide) rfl (fun h1 => ?_) (fun h1 => ?_)
  · refine Viconst dX3_itemOf_23 (0 : Int32) (by decide) 24 rfl ?_
    exact Viret dX3_itemOf_24
  · refine Vaload_n dX3_itemOf_9 0 rfl 10 rfl ?_
    refine Vget (9) 2 dX3_itemOf_10 13 rfl (hF.1 9 (by decide)) wk9 rfl inX3 (by decide) wd_fl_RX3_19 (v := .ref (ad G 12)) rfl ?_
    refine Vload_n dX3_itemOf_13 1 rfl 14 rfl ?_
    refine Vbipush dX3_itemOf_14 (8 : Int32) (by decide) 16 rfl ?_
    refine Vimul dX3_itemOf_16 17 rfl ?_
    refine Vload_n dX3_itemOf_17 2 rfl 18 rfl ?_
    refine Viadd dX3_itemOf_18 19 rfl ?_
    refine Vld dX3_itemOf_19 20 rfl (hF.1 12 (by decide)) wk12 wn12 hF.2.1 (by first | exact (by assumption) | exact (vin_cmp2 (by assumption) (by assumption) (by decide)) | exact (vin_cell (by assumption)) | exact (vin_reg (by assumption)) | exact (vin_row (by assumption)) | exact (vin_cnt (by assumption) (by assumption) (by decide) (by decide) (by assumption)) | exact (vin_cmp (by assumption) (by assumption) (by decide)) | exact (vp_in_iff.mpr (by decide)) | exact (vin_item (by assumption))) ?_
    refine Vgoto dX3_itemOf_20 24 (by decide) ?_
    exact Viret dX3_itemOf_24
def f_X3_failureAt (σ : mS) (x1 : Int32) (x2 : Int32) : Int32 := (if (f_X3_length σ x1) = (-1 : Int32) then (1 : Int32) else (if (f_X3_hasItem σ x1 x2) = 0 then (3 : Int32) else (0 : Int32)))
theorem mw_X3_failureAt : mW yX3_failureAt cX3_failureAt 3 (some .int) 2 := ⟨wd_co_yX3_failureAt, wd_ini_RX3, ⟨by decide, by decide⟩, by decide +kernel, by decide⟩
set_option maxRecDepth 100000 in
set_option maxHeartbeats 4000000 in
theorem c_X3_failureAt (l : Launch) {G : gT} (hF : Full G) (σ : mS) (x1 : Int32) (x2 : Int32)  : Ct l G yX3_failureAt cX3_failureAt 3 (some .int) 2 [.ref (ad G 9), .int x1, .int x2] κI σ (f_X3_failureAt σ x1 x2, σ) := by
  refine Ct.ofV [(0, .ref (ad G 9)), (1, .int x1), (2, .int x2)] rfl (by decide) (Nat.le_of_ble_eq_true rfl) rfl (fun X => ?_)
  unfold f_X3_failureAt
  refine Vaload_n dX3_failureAt_0 0 rfl 1 rfl ?_
  refine Vload_n dX3_failureAt_1 1 rfl 2 rfl ?_
  refine VcVp dX3_failureAt_2 [.int x1] (c_X3_length l hF σ x1) mw_X3_length wd_im_yX3_length wd_se_yX3_length wd_ml_RX3_33 (hF.1 9 (by decide)) wk9 rfl rfl (by decide) rfl rfl (Nat.le_of_ble_eq_true rfl) 5 rfl ?_
  refine Viconst dX3_failureAt_5 (-1 : Int32) (by decide) 6 rfl ?_
  refine Vicne (fun v => (v, σ)) dX3_failureAt_6 11 9 (by decide) rfl (fun h1 => ?_) (fun h1 => ?_)
  · refine Vaload_n dX3_failureAt_11 0 rfl 12 rfl ?_
    refine Vload_n dX3_failureAt_12 1 rfl 13 rfl ?_
    refine Vload_n dX3_failureAt_13 2 rfl 14 rfl ?_
    refine VcVp dX3_failureAt_14 [.int x1, .int x2] (c_X3_hasItem l hF σ x1 x2) mw_X3_hasItem wd_im_yX3_hasItem wd_se_yX3_hasItem wd_ml_RX3_29 (hF.1 9 (by decide)) wk9 rfl rfl (by decide) rfl rfl (Nat.le_of_ble_eq_true rfl) 17 rfl ?_
    refine Vifeq (fun v => (v, σ)) dX3_failureAt_17 24 20 (by decide) rfl (fun h2 => ?_) (fun h2 => ?_)
    · refine Viconst dX3_failureAt_24 (3 : Int32) (by decide) 25 rfl ?_
      exact Viret dX3_failureAt_25
    · refine Viconst dX3_failureAt_20 (0 : Int32) (by decide) 21 rfl ?_
      refine Vgoto dX3_failureAt_21 25 (by decide) ?_
      exact Viret dX3_failureAt_25
  · refine Viconst dX3_failureAt_9 (1 : Int32) (by decide) 10 rfl ?_
    exact Viret dX3_failureAt_10
def f_X3_store (σ : mS) (x1 : Int32) (x2 : Int32) (x3 : Int32) : Int32 × mS := (if (f_X3_failureAt σ x1 x2) = 0 then (if (f_X3_isFrozen σ x1) = 0 then (if (f_X3_hasItem σ x1 x2) = 0 then ((0 : Int32), σ) else ((0 : Int32), (st2 σ 12 ((x1 * (8 : Int32)) + x2).toNatClampNeg x3))) else ((4 : Int32), σ)) else ((f_X3_failureAt σ x1 x2), σ))
theorem mw_X3_store : mW yX3_store cX3_store 5 (some .int) 3 := ⟨wd_co_yX3_store, wd_ini_RX3, ⟨by decide, by decide⟩, by decide +kernel, by decide⟩
set_option maxRecDepth 100000 in
set_option maxHeartbeats 4000000 in
theorem c_X3_store (l : Launch) {G : gT} (hF : Full G) (σ : mS) (x1 : Int32) (x2 : Int32) (x3 : Int32)  : Ct l G yX3_store cX3_store 5 (some .int) 3 [.ref (ad G 9), .int x1, .int x2, .int x3] κI σ (f_X3_store σ x1 x2 x3) := by
  refine Ct.ofV [(0, .ref (ad G 9)), (1, .int x1), (2, .int x2), (3, .int x3)] rfl (by decide) (Nat.le_of_ble_eq_true rfl) rfl (fun X => ?_)
  unfold f_X3_store
  refine Vaload_n dX3_store_0 0 rfl 1 rfl ?_
  refine Vload_n dX3_store_1 1 rfl 2 rfl ?_
  refine Vload_n dX3_store_2 2 rfl 3 rfl ?_
  refine VcVp dX3_store_3 [.int x1, .int x2] (c_X3_failureAt l hF σ x1 x2) mw_X3_failureAt wd_im_yX3_failureAt wd_se_yX3_failureAt wd_ml_RX3_37 (hF.1 9 (by decide)) wk9 rfl rfl (by decide) rfl rfl (Nat.le_of_ble_eq_true rfl) 6 rfl ?_
  refine Vstore dX3_store_6 [(4, .int (f_X3_failureAt σ x1 x2)), (0, .ref (ad G 9)), (1, .int x1), (2, .int x2), (3, .int x3)] 8 rfl (by decide) rfl ?_
  refine Vload dX3_store_8 0 rfl 10 rfl ?_
  refine Vifeq (fun v => v) dX3_store_10 16 13 (by decide) rfl (fun h1 => ?_) (fun h1 => ?_)
  · refine Vaload_n dX3_store_16 1 rfl 17 rfl ?_
    refine Vload_n dX3_store_17 2 rfl 18 rfl ?_
    refine VcVp dX3_store_18 [.int x1] (c_X3_isFrozen l hF σ x1) mw_X3_isFrozen wd_im_yX3_isFrozen wd_se_yX3_isFrozen wd_ml_RX3_41 (hF.1 9 (by decide)) wk9 rfl rfl (by decide) rfl rfl (Nat.le_of_ble_eq_true rfl) 21 rfl ?_
    refine Vifeq (fun v => v) dX3_store_21 26 24 (by decide) rfl (fun h2 => ?_) (fun h2 => ?_)
    · refine Vaload_n dX3_store_26 1 rfl 27 rfl ?_
      refine Vload_n dX3_store_27 2 rfl 28 rfl ?_
      refine Vload_n dX3_store_28 3 rfl 29 rfl ?_
      refine VcVp dX3_store_29 [.int x1, .int x2] (c_X3_hasItem l hF σ x1 x2) mw_X3_hasItem wd_im_yX3_hasItem wd_se_yX3_hasItem wd_ml_RX3_29 (hF.1 9 (by decide)) wk9 rfl rfl (by decide) rfl rfl (Nat.le_of_ble_eq_true rfl) 32 rfl ?_
      refine Vifeq (fun v => v) dX3_store_32 47 35 (by decide) rfl (fun h3 => ?_) (fun h3 => ?_)
      · refine Viconst dX3_store_47 (0 : Int32) (by decide) 48 rfl ?_
        exact Viret dX3_store_48
      · refine Vaload_n dX3_store_35 1 rfl 36 rfl ?_
        refine Vget (9) 2 dX3_store_36 39 rfl (hF.1 9 (by decide)) wk9 rfl inX3 (by decide) wd_fl_RX3_19 (v := .ref (ad G 12)) rfl ?_
        refine Vload_n dX3_store_39 2 rfl 40 rfl ?_
        refine Vbipush dX3_store_40 (8 : Int32) (by decide) 42 rfl ?_
        refine Vimul dX3_store_42 43 rfl ?_
        refine Vload_n dX3_store_43 3 rfl 44 rfl ?_
        refine Viadd dX3_store_44 45 rfl ?_
        refine Vload_n dX3_store_45 4 rfl 46 rfl ?_
        refine Vst dX3_store_46 47 rfl (hF.1 12 (by decide)) wk12 wn12 hF.2.1 (by first | exact (by assumption) | exact (vin_cmp2 (by assumption) (by assumption) (by decide)) | exact (vin_cell (by assumption)) | exact (vin_reg (by assumption)) | exact (vin_row (by assumption)) | exact (vin_cnt (by assumption) (by assumption) (by decide) (by decide) (by assumption)) | exact (vin_cmp (by assumption) (by assumption) (by decide)) | exact (vp_in_iff.mpr (by decide)) | exact (vin_item (by assumption))) ?_
        refine Viconst dX3_store_47 (0 : Int32) (by decide) 48 rfl ?_
        exact Viret dX3_store_48
    · refine Viconst dX3_store_24 (4 : Int32) (by decide) 25 rfl ?_
      exact Viret dX3_store_25
  · refine Vload dX3_store_13 0 rfl 15 rfl ?_
    exact Viret dX3_store_15
def f_J7_rangeCheck_23922 (σ : mS) (x0 : Int32) (x1 : Int32) (x2 : Int32) : Int32 × mS := (0, σ)
theorem mw_J7_rangeCheck_23922 : mW yJ7_rangeCheck_23922 cJ7_rangeCheck_23922 3 none 3 := ⟨wd_co_yJ7_rangeCheck_23922, wd_ini_RJ7, ⟨by decide, by decide⟩, by decide +kernel, by decide⟩
set_option maxRecDepth 100000 in
set_option maxHeartbeats 4000000 in
theorem c_J7_rangeCheck_23922 (l : Launch) {G : gT}  (σ : mS) (x0 : Int32) (x1 : Int32) (x2 : Int32) (hr1 : x1 ≤ x2) (hr2 : 0 ≤ x1) (hr3 : x2 ≤ x0) : Ct l G yJ7_rangeCheck_23922 cJ7_rangeCheck_23922 3 none 1 [.int x0, .int x1, .int x2] κV σ (f_J7_rangeCheck_23922 σ x0 x1 x2) := by
  refine Ct.ofV [(0, .int x0), (1, .int x1), (2, .int x2)] rfl (by decide) (Nat.le_of_ble_eq_true rfl) rfl (fun X => ?_)
  unfold f_J7_rangeCheck_23922
  refine Vload_n dJ7_rangeCheck_23922_0 1 rfl 1 rfl ?_
  refine Vload_n dJ7_rangeCheck_23922_1 2 rfl 2 rfl ?_
  refine Kiclet dJ7_rangeCheck_23922_2 46 (by decide) hr1 ?_
  refine Vload_n dJ7_rangeCheck_23922_46 1 rfl 47 rfl ?_
  refine Kifget dJ7_rangeCheck_23922_47 59 (by decide) hr2 ?_
  refine Vload_n dJ7_rangeCheck_23922_59 2 rfl 60 rfl ?_
  refine Vload_n dJ7_rangeCheck_23922_60 0 rfl 61 rfl ?_
  refine Kiclet dJ7_rangeCheck_23922_61 73 (by decide) hr3 ?_
  exact Vvret dJ7_rangeCheck_23922_73
def l_J7_fill_fda19_10 : Nat → Int32 → mS → Nat → Nat → Int32 → Int32 → Int32 → Int32 × mS
  | 0, y4, σ, _, _, _, _, _ => (0, σ)
  | n + 1, y4, σ, q, len, x1, x2, x3 => (if x2 ≤ y4 then (0, σ) else (l_J7_fill_fda19_10 n (y4 + 1) (st2 σ q y4.toNatClampNeg x3) q len x1 x2 x3))
set_option maxRecDepth 100000 in
set_option maxHeartbeats 4000000 in
theorem vl_J7_fill_fda19_10 (l : Launch) {G : gT} (X : xT) (hT0 : (gY G)[0]? = some ((gC G).1, .int)) (q : Nat) (len : Nat) (x1 : Int32) (x2 : Int32) (x3 : Int32) (hq : q ∈ gI G) (hk : wK q = 0) (hlen : wN q = len) (h31 : len < 2 ^ 31) (lo : Nat) (hi2 : Nat) (hlo : x1 = nI lo) (hhi : x2 = nI hi2) (hlh : lo ≤ hi2) (hhl : hi2 ≤ len) : ∀ (n : Nat) (y4 : Int32) (σ : mS) (i : Nat) (hc : y4 = nI i) (hi : i ≤ hi2) (hn : hi2 + 1 ≤ n + i), V l G X RJ7 cJ7_fill_fda19 5 2 none κV ((fun v => v) (l_J7_fill_fda19_10 n y4 σ q len x1 x2 x3)) σ 10 [(0, .ref (ad G q)), (1, .int x1), (2, .int x2), (3, .int x3), (4, .int y4)] [] := by
  intro n
  induction n with
  | zero => intro y4 σ i hc hi hn; exact absurd hn (by omega)
  | succ n ih =>
    intro y4 σ i hc hi hn
    rw [l_J7_fill_fda19_10.eq_2]
    refine Vload dJ7_fill_fda19_10 4 rfl 12 rfl ?_
    refine Vload_n dJ7_fill_fda19_12 2 rfl 13 rfl ?_
    refine Vicge (fun v => v) dJ7_fill_fda19_13 27 16 (by decide) rfl (fun h2 => ?_) (fun h2 => ?_)
    · exact Vvret dJ7_fill_fda19_27
    · refine Vaload_n dJ7_fill_fda19_16 0 rfl 17 rfl ?_
      refine Vload dJ7_fill_fda19_17 4 rfl 19 rfl ?_
      refine Vload_n dJ7_fill_fda19_19 3 rfl 20 rfl ?_
      refine Vst dJ7_fill_fda19_20 21 rfl hq hk hlen hT0 (vin_cnt hc (by assumption) (K := x2) (by rw [hhi]; exact nI_toInt (by omega)) (by omega) hi |> fun z => vin_le z hhl) ?_
      refine Viinc dJ7_fill_fda19_21 (y4 + 1) 4 [(4, .int (y4 + 1)), (0, .ref (ad G q)), (1, .int x1), (2, .int x2), (3, .int x3)] 24 rfl rfl rfl (by decide) rfl ?_
      refine Vgoto dJ7_fill_fda19_24 10 (by decide) ?_
      refine Vlv [1, 2, 3, 4, 0] rfl ?_
      exact ih (y4 + 1) (st2 σ q y4.toNatClampNeg x3) (i + 1) (cnt_s hc) (cnt_lt hc (by assumption) (K := x2) (by rw [hhi]; exact nI_toInt (by omega)) (by omega) hi) (by omega)
def f_J7_fill_fda19 (σ : mS) (q : Nat) (len : Nat) (x1 : Int32) (x2 : Int32) (x3 : Int32) : Int32 × mS := (ap (fun u1 => (l_J7_fill_fda19_10 (len + 1) x1 u1.2 q len x1 x2 x3)) (f_J7_rangeCheck_23922 σ (nI len) x1 x2))
theorem mw_J7_fill_fda19 : mW yJ7_fill_fda19 cJ7_fill_fda19 5 none 4 := ⟨wd_co_yJ7_fill_fda19, wd_ini_RJ7, ⟨by decide, by decide⟩, by decide +kernel, by decide⟩
set_option maxRecDepth 100000 in
set_option maxHeartbeats 4000000 in
theorem c_J7_fill_fda19 (l : Launch) {G : gT} (hT0 : (gY G)[0]? = some ((gC G).1, .int)) (σ : mS) (q : Nat) (len : Nat) (x1 : Int32) (x2 : Int32) (x3 : Int32) (hq : q ∈ gI G) (hk : wK q = 0) (hlen : wN q = len) (h31 : len < 2 ^ 31) (lo : Nat) (hi2 : Nat) (hlo : x1 = nI lo) (hhi : x2 = nI hi2) (hlh : lo ≤ hi2) (hhl : hi2 ≤ len) : Ct l G yJ7_fill_fda19 cJ7_fill_fda19 5 none 2 [.ref (ad G q), .int x1, .int x2, .int x3] κV σ (f_J7_fill_fda19 σ q len x1 x2 x3) := by
  refine Ct.ofV [(0, .ref (ad G q)), (1, .int x1), (2, .int x2), (3, .int x3)] rfl (by decide) (Nat.le_of_ble_eq_true rfl) rfl (fun X => ?_)
  unfold f_J7_fill_fda19
  refine Vaload_n dJ7_fill_fda19_0 0 rfl 1 rfl ?_
  refine Vlen dJ7_fill_fda19_1 (nI len) 2 rfl hq hk hlen hT0 rfl ?_
  refine Vload_n dJ7_fill_fda19_2 1 rfl 3 rfl ?_
  refine Vload_n dJ7_fill_fda19_3 2 rfl 4 rfl ?_
  refine Vgen ?_
  intro u1 eu1
  refine VcSv (u := u1) dJ7_fill_fda19_4 [.int (nI len), .int x1, .int x2] (by rw [eu1]; exact c_J7_rangeCheck_23922 l  σ (nI len) x1 x2 (by rw [hlo, hhi]; exact nI_le hlh (by omega)) (by rw [hlo]; exact nI_pos' (by omega)) (by rw [hhi]; exact nI_le hhl h31)) mw_J7_rangeCheck_23922 wd_sm_yJ7_rangeCheck_23922 wd_ml_RJ7_13 (by decide) rfl rfl (Nat.le_of_ble_eq_true rfl) 7 rfl ?_
  refine Vload_n dJ7_fill_fda19_7 1 rfl 8 rfl ?_
  refine Vstore dJ7_fill_fda19_8 [(4, .int x1), (0, .ref (ad G q)), (1, .int x1), (2, .int x2), (3, .int x3)] 10 rfl (by decide) rfl ?_
  refine Vlv [1, 2, 3, 4, 0] rfl ?_
  exact vl_J7_fill_fda19_10 l X hT0 q len x1 x2 x3 hq hk hlen h31 lo hi2 hlo hhi hlh hhl (len + 1) x1 u1.2 lo hlo hlh (by omega)
theorem row8 {x : Int32} (h : ¬ f_X5_isRow x = 0) : ∃ r : Nat, x * 8 = nI r ∧ x * 8 + 8 = nI (r + 8) ∧ r + 8 ≤ 32 := by
  obtain ⟨j, hj, rfl⟩ := vp_in_of (vin_row h) (by decide)
  refine ⟨j * 8, pk_mul j 8, ?_, by omega⟩
  rw [show nI j * 8 = nI (j * 8) from pk_mul j 8]; exact nI_add _ 8
def f_X3_make (σ : mS) (x1 : Int32) (x2 : Int32) : Int32 × mS := (if 0 ≤ x2 then (if x2 ≤ (8 : Int32) then (if (f_X5_isRow x1) = 0 then ((0 : Int32), σ) else (ap (fun u4 => ((0 : Int32), (st2 (st2 u4.2 10 x1.toNatClampNeg x2) 11 x1.toNatClampNeg (0 : Int32)))) (f_J7_fill_fda19 σ 12 32 (x1 * (8 : Int32)) ((x1 * (8 : Int32)) + (8 : Int32)) (0 : Int32)))) else ((7 : Int32), σ)) else ((6 : Int32), σ))
theorem mw_X3_make : mW yX3_make cX3_make 3 (some .int) 2 := ⟨wd_co_yX3_make, wd_ini_RX3, ⟨by decide, by decide⟩, by decide +kernel, by decide⟩
set_option maxRecDepth 100000 in
set_option maxHeartbeats 4000000 in
theorem c_X3_make (l : Launch) {G : gT} (hF : Full G) (σ : mS) (x1 : Int32) (x2 : Int32)  : Ct l G yX3_make cX3_make 3 (some .int) 3 [.ref (ad G 9), .int x1, .int x2] κI σ (f_X3_make σ x1 x2) := by
  refine Ct.ofV [(0, .ref (ad G 9)), (1, .int x1), (2, .int x2)] rfl (by decide) (Nat.le_of_ble_eq_true rfl) rfl (fun X => ?_)
  unfold f_X3_make
  refine Vload_n dX3_make_0 2 rfl 1 rfl ?_
  refine Vifge (fun v => v) dX3_make_1 7 4 (by decide) rfl (fun h1 => ?_) (fun h1 => ?_)
  · refine Vload_n dX3_make_7 2 rfl 8 rfl ?_
    refine Vbipush dX3_make_8 (8 : Int32) (by decide) 10 rfl ?_
    refine Vicle (fun v => v) dX3_make_10 16 13 (by decide) rfl (fun h2 => ?_) (fun h2 => ?_)
    · refine Vload_n dX3_make_16 1 rfl 17 rfl ?_
      refine VcSNp dX3_make_17 [.int x1] (c_X5_isRow l hF σ x1) mw_X5_isRow wd_sm_yX5_isRow wd_nml_RX3_25 (by decide) rfl rfl (Nat.le_of_ble_eq_true rfl) 20 rfl ?_
      refine Vifeq (fun v => v) dX3_make_20 56 23 (by decide) rfl (fun h3 => ?_) (fun h3 => ?_)
      · refine Viconst dX3_make_56 (0 : Int32) (by decide) 57 rfl ?_
        exact Viret dX3_make_57
      · refine Vaload_n dX3_make_23 0 rfl 24 rfl ?_
        refine Vget (9) 2 dX3_make_24 27 rfl (hF.1 9 (by decide)) wk9 rfl inX3 (by decide) wd_fl_RX3_19 (v := .ref (ad G 12)) rfl ?_
        refine Vload_n dX3_make_27 1 rfl 28 rfl ?_
        refine Vbipush dX3_make_28 (8 : Int32) (by decide) 30 rfl ?_
        refine Vimul dX3_make_30 31 rfl ?_
        refine Vload_n dX3_make_31 1 rfl 32 rfl ?_
        refine Vbipush dX3_make_32 (8 : Int32) (by decide) 34 rfl ?_
        refine Vimul dX3_make_34 35 rfl ?_
        refine Vbipush dX3_make_35 (8 : Int32) (by decide) 37 rfl ?_
        refine Viadd dX3_make_37 38 rfl ?_
        refine Viconst dX3_make_38 (0 : Int32) (by decide) 39 rfl ?_
        refine Vgen ?_
        intro u4 eu4
        refine VcSv (u := u4) dX3_make_39 [.ref (ad G 12), .int (x1 * (8 : Int32)), .int ((x1 * (8 : Int32)) + (8 : Int32)), .int (0 : Int32)] (by rw [eu4]; exact c_J7_fill_fda19 l hF.2.1 σ 12 32 (x1 * (8 : Int32)) ((x1 * (8 : Int32)) + (8 : Int32)) (0 : Int32) (hF.1 12 (by decide)) wk12 wn12 (by decide) (row8 (by assumption)).choose ((row8 (by assumption)).choose + 8) (row8 (by assumption)).choose_spec.1 (row8 (by assumption)).choose_spec.2.1 (by omega) (row8 (by assumption)).choose_spec.2.2) mw_J7_fill_fda19 wd_sm_yJ7_fill_fda19 wd_ml_RX3_44 (by decide) rfl rfl (Nat.le_of_ble_eq_true rfl) 42 rfl ?_
        refine Vaload_n dX3_make_42 0 rfl 43 rfl ?_
        refine Vget (9) 0 dX3_make_43 46 rfl (hF.1 9 (by decide)) wk9 rfl inX3 (by decide) wd_fl_RX3_9 (v := .ref (ad G 10)) rfl ?_
        refine Vload_n dX3_make_46 1 rfl 47 rfl ?_
        refine Vload_n dX3_make_47 2 rfl 48 rfl ?_
        refine Vst dX3_make_48 49 rfl (hF.1 10 (by decide)) wk10 wn10 hF.2.1 (by first | exact (by assumption) | exact (vin_cmp2 (by assumption) (by assumption) (by decide)) | exact (vin_cell (by assumption)) | exact (vin_reg (by assumption)) | exact (vin_row (by assumption)) | exact (vin_cnt (by assumption) (by assumption) (by decide) (by decide) (by assumption)) | exact (vin_cmp (by assumption) (by assumption) (by decide)) | exact (vp_in_iff.mpr (by decide))) ?_
        refine Vaload_n dX3_make_49 0 rfl 50 rfl ?_
        refine Vget (9) 1 dX3_make_50 53 rfl (hF.1 9 (by decide)) wk9 rfl inX3 (by decide) wd_fl_RX3_15 (v := .ref (ad G 11)) rfl ?_
        refine Vload_n dX3_make_53 1 rfl 54 rfl ?_
        refine Viconst dX3_make_54 (0 : Int32) (by decide) 55 rfl ?_
        refine Vstz dX3_make_55 56 rfl (hF.1 11 (by decide)) wk11 wn11 hF.2.2.1 (by first | exact (by assumption) | exact (vin_cmp2 (by assumption) (by assumption) (by decide)) | exact (vin_cell (by assumption)) | exact (vin_reg (by assumption)) | exact (vin_row (by assumption)) | exact (vin_cnt (by assumption) (by assumption) (by decide) (by decide) (by assumption)) | exact (vin_cmp (by assumption) (by assumption) (by decide)) | exact (vp_in_iff.mpr (by decide))) (by decide) ?_
        refine Viconst dX3_make_56 (0 : Int32) (by decide) 57 rfl ?_
        exact Viret dX3_make_57
    · refine Vbipush dX3_make_13 (7 : Int32) (by decide) 15 rfl ?_
      exact Viret dX3_make_15
  · refine Vbipush dX3_make_4 (6 : Int32) (by decide) 6 rfl ?_
    exact Viret dX3_make_6
def f_X3_freeze (σ : mS) (x1 : Int32) : Int32 × mS := (if (f_X5_isRow x1) = 0 then ((1 : Int32), σ) else (if (σ 10 x1.toNatClampNeg) = (-1 : Int32) then ((1 : Int32), σ) else ((0 : Int32), (st2 σ 11 x1.toNatClampNeg (1 : Int32)))))
theorem mw_X3_freeze : mW yX3_freeze cX3_freeze 2 (some .int) 1 := ⟨wd_co_yX3_freeze, wd_ini_RX3, ⟨by decide, by decide⟩, by decide +kernel, by decide⟩
set_option maxRecDepth 100000 in
set_option maxHeartbeats 4000000 in
theorem c_X3_freeze (l : Launch) {G : gT} (hF : Full G) (σ : mS) (x1 : Int32)  : Ct l G yX3_freeze cX3_freeze 2 (some .int) 1 [.ref (ad G 9), .int x1] κI σ (f_X3_freeze σ x1) := by
  refine Ct.ofV [(0, .ref (ad G 9)), (1, .int x1)] rfl (by decide) (Nat.le_of_ble_eq_true rfl) rfl (fun X => ?_)
  unfold f_X3_freeze
  refine Vload_n dX3_freeze_0 1 rfl 1 rfl ?_
  refine VcSNp dX3_freeze_1 [.int x1] (c_X5_isRow l hF σ x1) mw_X5_isRow wd_sm_yX5_isRow wd_nml_RX3_25 (by decide) rfl rfl (Nat.le_of_ble_eq_true rfl) 4 rfl ?_
  refine Vifeq (fun v => v) dX3_freeze_4 17 7 (by decide) rfl (fun h1 => ?_) (fun h1 => ?_)
  · refine Viconst dX3_freeze_17 (1 : Int32) (by decide) 18 rfl ?_
    exact Viret dX3_freeze_18
  · refine Vaload_n dX3_freeze_7 0 rfl 8 rfl ?_
    refine Vget (9) 0 dX3_freeze_8 11 rfl (hF.1 9 (by decide)) wk9 rfl inX3 (by decide) wd_fl_RX3_9 (v := .ref (ad G 10)) rfl ?_
    refine Vload_n dX3_freeze_11 1 rfl 12 rfl ?_
    refine Vld dX3_freeze_12 13 rfl (hF.1 10 (by decide)) wk10 wn10 hF.2.1 (by first | exact (by assumption) | exact (vin_cmp2 (by assumption) (by assumption) (by decide)) | exact (vin_cell (by assumption)) | exact (vin_reg (by assumption)) | exact (vin_row (by assumption)) | exact (vin_cnt (by assumption) (by assumption) (by decide) (by decide) (by assumption)) | exact (vin_cmp (by assumption) (by assumption) (by decide)) | exact (vp_in_iff.mpr (by decide))) ?_
    refine Viconst dX3_freeze_13 (-1 : Int32) (by decide) 14 rfl ?_
    refine Vicne (fun v => v) dX3_freeze_14 19 17 (by decide) rfl (fun h2 => ?_) (fun h2 => ?_)
    · refine Vaload_n dX3_freeze_19 0 rfl 20 rfl ?_
      refine Vget (9) 1 dX3_freeze_20 23 rfl (hF.1 9 (by decide)) wk9 rfl inX3 (by decide) wd_fl_RX3_15 (v := .ref (ad G 11)) rfl ?_
      refine Vload_n dX3_freeze_23 1 rfl 24 rfl ?_
      refine Viconst dX3_freeze_24 (1 : Int32) (by decide) 25 rfl ?_
      refine Vstz dX3_freeze_25 26 rfl (hF.1 11 (by decide)) wk11 wn11 hF.2.2.1 (by first | exact (by assumption) | exact (vin_cmp2 (by assumption) (by assumption) (by decide)) | exact (vin_cell (by assumption)) | exact (vin_reg (by assumption)) | exact (vin_row (by assumption)) | exact (vin_cnt (by assumption) (by assumption) (by decide) (by decide) (by assumption)) | exact (vin_cmp (by assumption) (by assumption) (by decide)) | exact (vp_in_iff.mpr (by decide))) (by decide) ?_
      refine Viconst dX3_freeze_26 (0 : Int32) (by decide) 27 rfl ?_
      exact Viret dX3_freeze_27
    · refine Viconst dX3_freeze_17 (1 : Int32) (by decide) 18 rfl ?_
      exact Viret dX3_freeze_18
end
section
def f_X4_reset (σ : mS) (q : Nat) (x1 : Int32) : Int32 × mS := (if x1 = 0 then (ap (fun u3 => (0, (st2 (st2 (st2 (st2 (st2 (st2 u3.2 q 8 (0 : Int32)) (q + 7) 0 (0 : Int32)) q 10 (0 : Int32)) q 12 (0 : Int32)) q 13 (0 : Int32)) q 14 (0 : Int32)))) (f_J7_fill_53178 (st2 σ q 5 (0 : Int32)) (q + 5) 4 (0 : Int32))) else (ap (fun u2 => (0, (st2 (st2 (st2 (st2 (st2 (st2 u2.2 q 8 (0 : Int32)) (q + 7) 0 (0 : Int32)) q 10 (0 : Int32)) q 12 (0 : Int32)) q 13 (0 : Int32)) q 14 (0 : Int32)))) (f_J7_fill_53178 σ (q + 5) 4 (0 : Int32))))
theorem mw_X4_reset : mW yX4_reset cX4_reset 2 none 1 := ⟨wd_co_yX4_reset, wd_ini_RX4, ⟨by decide, by decide⟩, by decide +kernel, by decide⟩
set_option maxRecDepth 100000 in
set_option maxHeartbeats 4000000 in
theorem c_X4_reset (l : Launch) {G : gT} (hF : Full G) (σ : mS) (q : Nat) (x1 : Int32) (hq : sQ q) : Ct l G yX4_reset cX4_reset 2 none 1 [.ref (ad G q), .int x1] κV σ (f_X4_reset σ q x1) := by
  refine Ct.ofV [(0, .ref (ad G q)), (1, .int x1)] rfl (by decide) (Nat.le_of_ble_eq_true rfl) rfl (fun X => ?_)
  unfold f_X4_reset
  refine Vload_n dX4_reset_0 1 rfl 1 rfl ?_
  refine Vifne (fun v => v) dX4_reset_1 9 4 (by decide) rfl (fun h1 => ?_) (fun h1 => ?_)
  · refine Vaload_n dX4_reset_9 0 rfl 10 rfl ?_
    refine Vget (q) 6 dX4_reset_10 13 rfl (sI_ hF hq 0 (by decide)) (sk0 hq) rfl inX4 (by decide) wd_fl_RX4_24 (v := .ref (ad G (q + 5))) rfl ?_
    refine Viconst dX4_reset_13 (0 : Int32) (by decide) 14 rfl ?_
    refine Vgen ?_
    intro u2 eu2
    refine VcSv (u := u2) dX4_reset_14 [.ref (ad G (q + 5)), .int (0 : Int32)] (by rw [eu2]; exact c_J7_fill_53178 l hF.2.1 σ (q + 5) 4 (0 : Int32) (sI_ hF hq 5 (by decide)) (sk5 hq) (sn5 hq) (by decide)) mw_J7_fill_53178 wd_sm_yJ7_fill_53178 wd_ml_RX4_44 (by decide) rfl rfl (Nat.le_of_ble_eq_true rfl) 17 rfl ?_
    refine Vaload_n dX4_reset_17 0 rfl 18 rfl ?_
    refine Viconst dX4_reset_18 (0 : Int32) (by decide) 19 rfl ?_
    refine Vput (q) 8 tyX4 dX4_reset_19 22 rfl (sI_ hF hq 0 (by decide)) (sk0 hq) rfl inX4 tyX4_ok nmX4 (by decide) wd_fl_RX4_50 rfl (ty := .int) (by decide +kernel) rfl rfl (fun f => rfl) (fun f => Nat.le_of_ble_eq_true rfl) ?_
    refine Vaload_n dX4_reset_22 0 rfl 23 rfl ?_
    refine Vget (q) 9 dX4_reset_23 26 rfl (sI_ hF hq 0 (by decide)) (sk0 hq) rfl inX4 (by decide) wd_fl_RX4_33 (v := .ref (ad G (q + 7))) rfl ?_
    refine Viconst dX4_reset_26 (0 : Int32) (by decide) 27 rfl ?_
    refine VputN (q + 7) 0 tyX0 dX4_reset_27 30 rfl (sI_ hF hq 7 (by decide)) (sk7 hq) rfl inX0 tyX0_ok nmX0 (by decide) wd_nfl_RX4_53 rfl (ty := .boolean) (by decide +kernel) (by decide) (by decide) (fun f => rfl) (fun f => Nat.le_of_ble_eq_true rfl) ?_
    refine Vaload_n dX4_reset_30 0 rfl 31 rfl ?_
    refine Viconst dX4_reset_31 (0 : Int32) (by decide) 32 rfl ?_
    refine Vput (q) 10 tyX4 dX4_reset_32 35 rfl (sI_ hF hq 0 (by decide)) (sk0 hq) rfl inX4 tyX4_ok nmX4 (by decide) wd_fl_RX4_57 rfl (ty := .int) (by decide +kernel) rfl rfl (fun f => rfl) (fun f => Nat.le_of_ble_eq_true rfl) ?_
    refine Vaload_n dX4_reset_35 0 rfl 36 rfl ?_
    refine Viconst dX4_reset_36 (0 : Int32) (by decide) 37 rfl ?_
    refine Vput (q) 12 tyX4 dX4_reset_37 40 rfl (sI_ hF hq 0 (by decide)) (sk0 hq) rfl inX4 tyX4_ok nmX4 (by decide) wd_fl_RX4_60 rfl (ty := .int) (by decide +kernel) rfl rfl (fun f => rfl) (fun f => Nat.le_of_ble_eq_true rfl) ?_
    refine Vaload_n dX4_reset_40 0 rfl 41 rfl ?_
    refine Viconst dX4_reset_41 (0 : Int32) (by decide) 42 rfl ?_
    refine Vput (q) 13 tyX4 dX4_reset_42 45 rfl (sI_ hF hq 0 (by decide)) (sk0 hq) rfl inX4 tyX4_ok nmX4 (by decide) wd_fl_RX4_63 rfl (ty := .int) (by decide +kernel) rfl rfl (fun f => rfl) (fun f => Nat.le_of_ble_eq_true rfl) ?_
    refine Vaload_n dX4_reset_45 0 rfl 46 rfl ?_
    refine Viconst dX4_reset_46 (0 : Int32) (by decide) 47 rfl ?_
    refine Vput (q) 14 tyX4 dX4_reset_47 50 rfl (sI_ hF hq 0 (by decide)) (sk0 hq) rfl inX4 tyX4_ok nmX4 (by decide) wd_fl_RX4_66 rfl (ty := .int) (by decide +kernel) rfl rfl (fun f => rfl) (fun f => Nat.le_of_ble_eq_true rfl) ?_
    exact Vvret dX4_reset_50
  · refine Vaload_n dX4_reset_4 0 rfl 5 rfl ?_
    refine Viconst dX4_reset_5 (0 : Int32) (by decide) 6 rfl ?_
    refine Vput (q) 5 tyX4 dX4_reset_6 9 rfl (sI_ hF hq 0 (by decide)) (sk0 hq) rfl inX4 tyX4_ok nmX4 (by decide) wd_fl_RX4_41 rfl (ty := .int) (by decide +kernel) rfl rfl (fun f => rfl) (fun f => Nat.le_of_ble_eq_true rfl) ?_
    refine Vaload_n dX4_reset_9 0 rfl 10 rfl ?_
    refine Vget (q) 6 dX4_reset_10 13 rfl (sI_ hF hq 0 (by decide)) (sk0 hq) rfl inX4 (by decide) wd_fl_RX4_24 (v := .ref (ad G (q + 5))) rfl ?_
    refine Viconst dX4_reset_13 (0 : Int32) (by decide) 14 rfl ?_
    refine Vgen ?_
    intro u3 eu3
    refine VcSv (u := u3) dX4_reset_14 [.ref (ad G (q + 5)), .int (0 : Int32)] (by rw [eu3]; exact c_J7_fill_53178 l hF.2.1 (st2 σ q 5 (0 : Int32)) (q + 5) 4 (0 : Int32) (sI_ hF hq 5 (by decide)) (sk5 hq) (sn5 hq) (by decide)) mw_J7_fill_53178 wd_sm_yJ7_fill_53178 wd_ml_RX4_44 (by decide) rfl rfl (Nat.le_of_ble_eq_true rfl) 17 rfl ?_
    refine Vaload_n dX4_reset_17 0 rfl 18 rfl ?_
    refine Viconst dX4_reset_18 (0 : Int32) (by decide) 19 rfl ?_
    refine Vput (q) 8 tyX4 dX4_reset_19 22 rfl (sI_ hF hq 0 (by decide)) (sk0 hq) rfl inX4 tyX4_ok nmX4 (by decide) wd_fl_RX4_50 rfl (ty := .int) (by decide +kernel) rfl rfl (fun f => rfl) (fun f => Nat.le_of_ble_eq_true rfl) ?_
    refine Vaload_n dX4_reset_22 0 rfl 23 rfl ?_
    refine Vget (q) 9 dX4_reset_23 26 rfl (sI_ hF hq 0 (by decide)) (sk0 hq) rfl inX4 (by decide) wd_fl_RX4_33 (v := .ref (ad G (q + 7))) rfl ?_
    refine Viconst dX4_reset_26 (0 : Int32) (by decide) 27 rfl ?_
    refine VputN (q + 7) 0 tyX0 dX4_reset_27 30 rfl (sI_ hF hq 7 (by decide)) (sk7 hq) rfl inX0 tyX0_ok nmX0 (by decide) wd_nfl_RX4_53 rfl (ty := .boolean) (by decide +kernel) (by decide) (by decide) (fun f => rfl) (fun f => Nat.le_of_ble_eq_true rfl) ?_
    refine Vaload_n dX4_reset_30 0 rfl 31 rfl ?_
    refine Viconst dX4_reset_31 (0 : Int32) (by decide) 32 rfl ?_
    refine Vput (q) 10 tyX4 dX4_reset_32 35 rfl (sI_ hF hq 0 (by decide)) (sk0 hq) rfl inX4 tyX4_ok nmX4 (by decide) wd_fl_RX4_57 rfl (ty := .int) (by decide +kernel) rfl rfl (fun f => rfl) (fun f => Nat.le_of_ble_eq_true rfl) ?_
    refine Vaload_n dX4_reset_35 0 rfl 36 rfl ?_
    refine Viconst dX4_reset_36 (0 : Int32) (by decide) 37 rfl ?_
    refine Vput (q) 12 tyX4 dX4_reset_37 40 rfl (sI_ hF hq 0 (by decide)) (sk0 hq) rfl inX4 tyX4_ok nmX4 (by decide) wd_fl_RX4_60 rfl (ty := .int) (by decide +kernel) rfl rfl (fun f => rfl) (fun f => Nat.le_of_ble_eq_true rfl) ?_
    refine Vaload_n dX4_reset_40 0 rfl 41 rfl ?_
    refine Viconst dX4_reset_41 (0 : Int32) (by decide) 42 rfl ?_
    refine Vput (q) 13 tyX4 dX4_reset_42 45 rfl (sI_ hF hq 0 (by decide)) (sk0 hq) rfl inX4 tyX4_ok nmX4 (by decide) wd_fl_RX4_63 rfl (ty := .int) (by decide +kernel) rfl rfl (fun f => rfl) (fun f => Nat.le_of_ble_eq_true rfl) ?_
    refine Vaload_n dX4_reset_45 0 rfl 46 rfl ?_
    refine Viconst dX4_reset_46 (0 : Int32) (by decide) 47 rfl ?_
    refine Vput (q) 14 tyX4 dX4_reset_47 50 rfl (sI_ hF hq 0 (by decide)) (sk0 hq) rfl inX4 tyX4_ok nmX4 (by decide) wd_fl_RX4_66 rfl (ty := .int) (by decide +kernel) rfl rfl (fun f => rfl) (fun f => Nat.le_of_ble_eq_true rfl) ?_
    exact Vvret dX4_reset_50
def f_X4_append (σ : mS) (q : Nat) (x1 : Int32) (x2 : Int32) (x3 : Int32) (x4 : Int32) : Int32 × mS := (if (σ q 5) < 0 then ((0 : Int32), σ) else (if (σ q 5) < (24 : Int32) then ((1 : Int32), (st2 (st2 (st2 (st2 (st2 σ (q + 1) (σ q 5).toNatClampNeg x1) (q + 2) (σ q 5).toNatClampNeg x2) (q + 3) (σ q 5).toNatClampNeg x3) (q + 4) (σ q 5).toNatClampNeg x4) q 5 ((σ q 5) + (1 : Int32)))) else ((0 : Int32), σ)))
theorem mw_X4_append : mW yX4_append cX4_append 5 (some .boolean) 4 := ⟨wd_co_yX4_append, wd_ini_RX4, ⟨by decide, by decide⟩, by decide +kernel, by decide⟩
set_option maxRecDepth 100000 in
set_option maxHeartbeats 4000000 in
theorem c_X4_append (l : Launch) {G : gT} (hF : Full G) (σ : mS) (q : Nat) (x1 : Int32) (x2 : Int32) (x3 : Int32) (x4 : Int32) (hq : sQ q) : Ct l G yX4_append cX4_append 5 (some .boolean) 0 [.ref (ad G q), .int x1, .int x2, .int x3, .int x4] κI σ (f_X4_append σ q x1 x2 x3 x4) := by
  refine Ct.ofV [(0, .ref (ad G q)), (1, .int x1), (2, .int x2), (3, .int x3), (4, .int x4)] rfl (by decide) (Nat.le_of_ble_eq_true rfl) rfl (fun X => ?_)
  unfold f_X4_append
  refine Vaload_n dX4_append_0 0 rfl 1 rfl ?_
  refine Vget (q) 5 dX4_append_1 4 rfl (sI_ hF hq 0 (by decide)) (sk0 hq) rfl inX4 (by decide) wd_fl_RX4_41 (v := .int (σ q 5)) rfl ?_
  refine Viflt (fun v => v) dX4_append_4 16 7 (by decide) rfl (fun h1 => ?_) (fun h1 => ?_)
  · refine Viconst dX4_append_16 (0 : Int32) (by decide) 17 rfl ?_
    exact Vzret dX4_append_17 (by first | decide | exact nb_isRegister _ | exact nb_isRow _ | exact nb_isPlace _ | exact nb_within _ _ _ | exact nb_mRegister _ | exact nb_mCell _ | exact nb_mPlace _)
  · refine Vaload_n dX4_append_7 0 rfl 8 rfl ?_
    refine Vget (q) 5 dX4_append_8 11 rfl (sI_ hF hq 0 (by decide)) (sk0 hq) rfl inX4 (by decide) wd_fl_RX4_41 (v := .int (σ q 5)) rfl ?_
    refine Vbipush dX4_append_11 (24 : Int32) (by decide) 13 rfl ?_
    refine Viclt (fun v => v) dX4_append_13 18 16 (by decide) rfl (fun h2 => ?_) (fun h2 => ?_)
    · refine Vaload_n dX4_append_18 0 rfl 19 rfl ?_
      refine Vget (q) 1 dX4_append_19 22 rfl (sI_ hF hq 0 (by decide)) (sk0 hq) rfl inX4 (by decide) wd_fl_RX4_9 (v := .ref (ad G (q + 1))) rfl ?_
      refine Vaload_n dX4_append_22 0 rfl 23 rfl ?_
      refine Vget (q) 5 dX4_append_23 26 rfl (sI_ hF hq 0 (by decide)) (sk0 hq) rfl inX4 (by decide) wd_fl_RX4_41 (v := .int (σ q 5)) rfl ?_
      refine Vload_n dX4_append_26 1 rfl 27 rfl ?_
      refine Vst dX4_append_27 28 rfl (sI_ hF hq 1 (by decide)) (sk1 hq) (sn1 hq) hF.2.1 (by first | exact (by assumption) | exact (vin_cmp2 (by assumption) (by assumption) (by decide)) | exact (vin_cell (by assumption)) | exact (vin_reg (by assumption)) | exact (vin_row (by assumption)) | exact (vin_cnt (by assumption) (by assumption) (by decide) (by decide) (by assumption)) | exact (vin_cmp (by assumption) (by assumption) (by decide)) | exact (vp_in_iff.mpr (by decide))) ?_
      refine Vaload_n dX4_append_28 0 rfl 29 rfl ?_
      refine Vget (q) 2 dX4_append_29 32 rfl (sI_ hF hq 0 (by decide)) (sk0 hq) rfl inX4 (by decide) wd_fl_RX4_15 (v := .ref (ad G (q + 2))) rfl ?_
      refine Vaload_n dX4_append_32 0 rfl 33 rfl ?_
      refine Vget (q) 5 dX4_append_33 36 rfl (sI_ hF hq 0 (by decide)) (sk0 hq) rfl inX4 (by decide) wd_fl_RX4_41 (v := .int (σ q 5)) (by simp [oV, st2]) ?_
      refine Vload_n dX4_append_36 2 rfl 37 rfl ?_
      refine Vst dX4_append_37 38 rfl (sI_ hF hq 2 (by decide)) (sk2 hq) (sn2 hq) hF.2.1 (by first | exact (by assumption) | exact (vin_cmp2 (by assumption) (by assumption) (by decide)) | exact (vin_cell (by assumption)) | exact (vin_reg (by assumption)) | exact (vin_row (by assumption)) | exact (vin_cnt (by assumption) (by assumption) (by decide) (by decide) (by assumption)) | exact (vin_cmp (by assumption) (by assumption) (by decide)) | exact (vp_in_iff.mpr (by decide))) ?_
      refine Vaload_n dX4_append_38 0 rfl 39 rfl ?_
      refine Vget (q) 3 dX4_append_39 42 rfl (sI_ hF hq 0 (by decide)) (sk0 hq) rfl inX4 (by decide) wd_fl_RX4_18 (v := .ref (ad G (q + 3))) rfl ?_
      refine Vaload_n dX4_append_42 0 rfl 43 rfl ?_
      refine Vget (q) 5 dX4_append_43 46 rfl (sI_ hF hq 0 (by decide)) (sk0 hq) rfl inX4 (by decide) wd_fl_RX4_41 (v := .int (σ q 5)) (by simp [oV, st2]) ?_
      refine Vload_n dX4_append_46 3 rfl 47 rfl ?_
      refine Vst dX4_append_47 48 rfl (sI_ hF hq 3 (by decide)) (sk3 hq) (sn3 hq) hF.2.1 (by first | exact (by assumption) | exact (vin_cmp2 (by assumption) (by assumption) (by decide)) | exact (vin_cell (by assumption)) | exact (vin_reg (by assumption)) | exact (vin_row (by assumption)) | exact (vin_cnt (by assumption) (by assumption) (by decide) (by decide) (by assumption)) | exact (vin_cmp (by assumption) (by assumption) (by decide)) | exact (vp_in_iff.mpr (by decide))) ?_
      refine Vaload_n dX4_append_48 0 rfl 49 rfl ?_
      refine Vget (q) 4 dX4_append_49 52 rfl (sI_ hF hq 0 (by decide)) (sk0 hq) rfl inX4 (by decide) wd_fl_RX4_21 (v := .ref (ad G (q + 4))) rfl ?_
      refine Vaload_n dX4_append_52 0 rfl 53 rfl ?_
      refine Vget (q) 5 dX4_append_53 56 rfl (sI_ hF hq 0 (by decide)) (sk0 hq) rfl inX4 (by decide) wd_fl_RX4_41 (v := .int (σ q 5)) (by simp [oV, st2]) ?_
      refine Vload dX4_append_56 4 rfl 58 rfl ?_
      refine Vst dX4_append_58 59 rfl (sI_ hF hq 4 (by decide)) (sk4 hq) (sn4 hq) hF.2.1 (by first | exact (by assumption) | exact (vin_cmp2 (by assumption) (by assumption) (by decide)) | exact (vin_cell (by assumption)) | exact (vin_reg (by assumption)) | exact (vin_row (by assumption)) | exact (vin_cnt (by assumption) (by assumption) (by decide) (by decide) (by assumption)) | exact (vin_cmp (by assumption) (by assumption) (by decide)) | exact (vp_in_iff.mpr (by decide))) ?_
      refine Vaload_n dX4_append_59 0 rfl 60 rfl ?_
      refine Vdupa dX4_append_60 61 rfl ?_
      refine Vget (q) 5 dX4_append_61 64 rfl (sI_ hF hq 0 (by decide)) (sk0 hq) rfl inX4 (by decide) wd_fl_RX4_41 (v := .int (σ q 5)) (by simp [oV, st2]) ?_
      refine Viconst dX4_append_64 (1 : Int32) (by decide) 65 rfl ?_
      refine Viadd dX4_append_65 66 rfl ?_
      refine Vput (q) 5 tyX4 dX4_append_66 69 rfl (sI_ hF hq 0 (by decide)) (sk0 hq) rfl inX4 tyX4_ok nmX4 (by decide) wd_fl_RX4_41 rfl (ty := .int) (by decide +kernel) rfl rfl (fun f => rfl) (fun f => Nat.le_of_ble_eq_true rfl) ?_
      refine Viconst dX4_append_69 (1 : Int32) (by decide) 70 rfl ?_
      exact Vzret dX4_append_70 (by first | decide | exact nb_isRegister _ | exact nb_isRow _ | exact nb_isPlace _ | exact nb_within _ _ _ | exact nb_mRegister _ | exact nb_mCell _ | exact nb_mPlace _)
    · refine Viconst dX4_append_16 (0 : Int32) (by decide) 17 rfl ?_
      exact Vzret dX4_append_17 (by first | decide | exact nb_isRegister _ | exact nb_isRow _ | exact nb_isPlace _ | exact nb_within _ _ _ | exact nb_mRegister _ | exact nb_mCell _ | exact nb_mPlace _)
def f_X4_state (σ : mS) (q : Nat) : Int32 := (if (σ q 12) = 0 then (if (σ q 10) < (σ q 5) then (0 : Int32) else (if (σ q 8) = 0 then (if (σ (q + 7) 0) = 0 then (1 : Int32) else (0 : Int32)) else (0 : Int32))) else (2 : Int32))
theorem mw_X4_state : mW yX4_state cX4_state 1 (some .int) 0 := ⟨wd_co_yX4_state, wd_ini_RX4, ⟨by decide, by decide⟩, by decide +kernel, by decide⟩
set_option maxRecDepth 100000 in
set_option maxHeartbeats 4000000 in
theorem c_X4_state (l : Launch) {G : gT} (hF : Full G) (σ : mS) (q : Nat) (hq : sQ q) : Ct l G yX4_state cX4_state 1 (some .int) 0 [.ref (ad G q)] κI σ (f_X4_state σ q, σ) := by
  refine Ct.ofV [(0, .ref (ad G q))] rfl (by decide) (Nat.le_of_ble_eq_true rfl) rfl (fun X => ?_)
  unfold f_X4_state
  refine Vaload_n dX4_state_0 0 rfl 1 rfl ?_
  refine Vget (q) 12 dX4_state_1 4 rfl (sI_ hF hq 0 (by decide)) (sk0 hq) rfl inX4 (by decide) wd_fl_RX4_60 (v := .int (σ q 12)) rfl ?_
  refine Vifeq (fun v => (v, σ)) dX4_state_4 9 7 (by decide) rfl (fun h1 => ?_) (fun h1 => ?_)
  · refine Vaload_n dX4_state_9 0 rfl 10 rfl ?_
    refine Vget (q) 10 dX4_state_10 13 rfl (sI_ hF hq 0 (by decide)) (sk0 hq) rfl inX4 (by decide) wd_fl_RX4_57 (v := .int (σ q 10)) rfl ?_
    refine Vaload_n dX4_state_13 0 rfl 14 rfl ?_
    refine Vget (q) 5 dX4_state_14 17 rfl (sI_ hF hq 0 (by decide)) (sk0 hq) rfl inX4 (by decide) wd_fl_RX4_41 (v := .int (σ q 5)) rfl ?_
    refine Viclt (fun v => (v, σ)) dX4_state_17 41 20 (by decide) rfl (fun h2 => ?_) (fun h2 => ?_)
    · refine Viconst dX4_state_41 (0 : Int32) (by decide) 42 rfl ?_
      exact Viret dX4_state_42
    · refine Vaload_n dX4_state_20 0 rfl 21 rfl ?_
      refine Vget (q) 8 dX4_state_21 24 rfl (sI_ hF hq 0 (by decide)) (sk0 hq) rfl inX4 (by decide) wd_fl_RX4_50 (v := .int (σ q 8)) rfl ?_
      refine Vifne (fun v => (v, σ)) dX4_state_24 41 27 (by decide) rfl (fun h3 => ?_) (fun h3 => ?_)
      · refine Viconst dX4_state_41 (0 : Int32) (by decide) 42 rfl ?_
        exact Viret dX4_state_42
      · refine Vaload_n dX4_state_27 0 rfl 28 rfl ?_
        refine Vget (q) 9 dX4_state_28 31 rfl (sI_ hF hq 0 (by decide)) (sk0 hq) rfl inX4 (by decide) wd_fl_RX4_33 (v := .ref (ad G (q + 7))) rfl ?_
        refine VgetN (q + 7) 0 dX4_state_31 34 rfl (sI_ hF hq 7 (by decide)) (sk7 hq) rfl inX0 (by decide) wd_nfl_RX4_53 (v := .int (σ (q + 7) 0)) rfl ?_
        refine Vifne (fun v => (v, σ)) dX4_state_34 41 37 (by decide) rfl (fun h4 => ?_) (fun h4 => ?_)
        · refine Viconst dX4_state_41 (0 : Int32) (by decide) 42 rfl ?_
          exact Viret dX4_state_42
        · refine Viconst dX4_state_37 (1 : Int32) (by decide) 38 rfl ?_
          refine Vgoto dX4_state_38 42 (by decide) ?_
          exact Viret dX4_state_42
  · refine Viconst dX4_state_7 (2 : Int32) (by decide) 8 rfl ?_
    exact Viret dX4_state_8
def f_X5_isRegister (x0 : Int32) : Int32 := (if x0 < 0 then (0 : Int32) else (if (4 : Int32) ≤ x0 then (0 : Int32) else (1 : Int32)))
theorem mw_X5_isRegister : mW yX5_isRegister cX5_isRegister 1 (some .boolean) 1 := ⟨wd_co_yX5_isRegister, wd_ini_RX5, ⟨by decide, by decide⟩, by decide +kernel, by decide⟩
set_option maxRecDepth 100000 in
set_option maxHeartbeats 4000000 in
theorem c_X5_isRegister (l : Launch) {G : gT} (hF : Full G) (σ : mS) (x0 : Int32)  : Ct l G yX5_isRegister cX5_isRegister 1 (some .boolean) 0 [.int x0] κI σ (f_X5_isRegister x0, σ) := by
  refine Ct.ofV [(0, .int x0)] rfl (by decide) (Nat.le_of_ble_eq_true rfl) rfl (fun X => ?_)
  unfold f_X5_isRegister
  refine Vload_n dX5_isRegister_0 0 rfl 1 rfl ?_
  refine Viflt (fun v => (v, σ)) dX5_isRegister_1 13 4 (by decide) rfl (fun h1 => ?_) (fun h1 => ?_)
  · refine Viconst dX5_isRegister_13 (0 : Int32) (by decide) 14 rfl ?_
    exact Vzret dX5_isRegister_14 (by first | decide | exact nb_isRegister _ | exact nb_isRow _ | exact nb_isPlace _ | exact nb_within _ _ _ | exact nb_mRegister _ | exact nb_mCell _ | exact nb_mPlace _)
  · refine Vload_n dX5_isRegister_4 0 rfl 5 rfl ?_
    refine Viconst dX5_isRegister_5 (4 : Int32) (by decide) 6 rfl ?_
    refine Vicge (fun v => (v, σ)) dX5_isRegister_6 13 9 (by decide) rfl (fun h2 => ?_) (fun h2 => ?_)
    · refine Viconst dX5_isRegister_13 (0 : Int32) (by decide) 14 rfl ?_
      exact Vzret dX5_isRegister_14 (by first | decide | exact nb_isRegister _ | exact nb_isRow _ | exact nb_isPlace _ | exact nb_within _ _ _ | exact nb_mRegister _ | exact nb_mCell _ | exact nb_mPlace _)
    · refine Viconst dX5_isRegister_9 (1 : Int32) (by decide) 10 rfl ?_
      refine Vgoto dX5_isRegister_10 14 (by decide) ?_
      exact Vzret dX5_isRegister_14 (by first | decide | exact nb_isRegister _ | exact nb_isRow _ | exact nb_isPlace _ | exact nb_within _ _ _ | exact nb_mRegister _ | exact nb_mCell _ | exact nb_mPlace _)
theorem nb_isRegister (x : Int32) : narrow .boolean (.int (f_X5_isRegister x)) = .int (f_X5_isRegister x) := by unfold f_X5_isRegister; (repeat' split) <;> rfl
theorem vin_reg {x : Int32} (h : ¬ f_X5_isRegister x = 0) : vp_in x 4 := by
  unfold f_X5_isRegister at h
  by_cases h1 : x < 0
  · rw [if_pos h1] at h; exact absurd rfl h
  · rw [if_neg h1] at h
    by_cases h2 : (4 : Int32) ≤ x
    · rw [if_pos h2] at h; exact absurd rfl h
    · exact vin_cmp h1 h2 (by decide)
def f_X4_held (σ : mS) (q : Nat) (x1 : Int32) : Int32 := (if (f_X5_isRegister x1) = 0 then (0 : Int32) else (σ (q + 5) x1.toNatClampNeg))
theorem mw_X4_held : mW yX4_held cX4_held 2 (some .int) 1 := ⟨wd_co_yX4_held, wd_ini_RX4, ⟨by decide, by decide⟩, by decide +kernel, by decide⟩
set_option maxRecDepth 100000 in
set_option maxHeartbeats 4000000 in
theorem c_X4_held (l : Launch) {G : gT} (hF : Full G) (σ : mS) (q : Nat) (x1 : Int32) (hq : sQ q) : Ct l G yX4_held cX4_held 2 (some .int) 1 [.ref (ad G q), .int x1] κI σ (f_X4_held σ q x1, σ) := by
  refine Ct.ofV [(0, .ref (ad G q)), (1, .int x1)] rfl (by decide) (Nat.le_of_ble_eq_true rfl) rfl (fun X => ?_)
  unfold f_X4_held
  refine Vload_n dX4_held_0 1 rfl 1 rfl ?_
  refine VcSNp dX4_held_1 [.int x1] (c_X5_isRegister l hF σ x1) mw_X5_isRegister wd_sm_yX5_isRegister wd_nml_RX4_69 (by decide) rfl rfl (Nat.le_of_ble_eq_true rfl) 4 rfl ?_
  refine Vifeq (fun v => (v, σ)) dX4_held_4 16 7 (by decide) rfl (fun h1 => ?_) (fun h1 => ?_)
  · refine Viconst dX4_held_16 (0 : Int32) (by decide) 17 rfl ?_
    exact Viret dX4_held_17
  · refine Vaload_n dX4_held_7 0 rfl 8 rfl ?_
    refine Vget (q) 6 dX4_held_8 11 rfl (sI_ hF hq 0 (by decide)) (sk0 hq) rfl inX4 (by decide) wd_fl_RX4_24 (v := .ref (ad G (q + 5))) rfl ?_
    refine Vload_n dX4_held_11 1 rfl 12 rfl ?_
    refine Vld dX4_held_12 13 rfl (sI_ hF hq 5 (by decide)) (sk5 hq) (sn5 hq) hF.2.1 (by first | exact (by assumption) | exact (vin_cmp2 (by assumption) (by assumption) (by decide)) | exact (vin_cell (by assumption)) | exact (vin_reg (by assumption)) | exact (vin_row (by assumption)) | exact (vin_cnt (by assumption) (by assumption) (by decide) (by decide) (by assumption)) | exact (vin_cmp (by assumption) (by assumption) (by decide)) | exact (vp_in_iff.mpr (by decide))) ?_
    refine Vgoto dX4_held_13 17 (by decide) ?_
    exact Viret dX4_held_17
def f_X4_keep (σ : mS) (q : Nat) (x1 : Int32) (x2 : Int32) : Int32 × mS := (if (f_X5_isRegister x1) = 0 then (0, σ) else (0, (st2 σ (q + 5) x1.toNatClampNeg x2)))
theorem mw_X4_keep : mW yX4_keep cX4_keep 3 none 2 := ⟨wd_co_yX4_keep, wd_ini_RX4, ⟨by decide, by decide⟩, by decide +kernel, by decide⟩
set_option maxRecDepth 100000 in
set_option maxHeartbeats 4000000 in
theorem c_X4_keep (l : Launch) {G : gT} (hF : Full G) (σ : mS) (q : Nat) (x1 : Int32) (x2 : Int32) (hq : sQ q) : Ct l G yX4_keep cX4_keep 3 none 1 [.ref (ad G q), .int x1, .int x2] κV σ (f_X4_keep σ q x1 x2) := by
  refine Ct.ofV [(0, .ref (ad G q)), (1, .int x1), (2, .int x2)] rfl (by decide) (Nat.le_of_ble_eq_true rfl) rfl (fun X => ?_)
  unfold f_X4_keep
  refine Vload_n dX4_keep_0 1 rfl 1 rfl ?_
  refine VcSNp dX4_keep_1 [.int x1] (c_X5_isRegister l hF σ x1) mw_X5_isRegister wd_sm_yX5_isRegister wd_nml_RX4_69 (by decide) rfl rfl (Nat.le_of_ble_eq_true rfl) 4 rfl ?_
  refine Vifeq (fun v => v) dX4_keep_4 14 7 (by decide) rfl (fun h1 => ?_) (fun h1 => ?_)
  · exact Vvret dX4_keep_14
  · refine Vaload_n dX4_keep_7 0 rfl 8 rfl ?_
    refine Vget (q) 6 dX4_keep_8 11 rfl (sI_ hF hq 0 (by decide)) (sk0 hq) rfl inX4 (by decide) wd_fl_RX4_24 (v := .ref (ad G (q + 5))) rfl ?_
    refine Vload_n dX4_keep_11 1 rfl 12 rfl ?_
    refine Vload_n dX4_keep_12 2 rfl 13 rfl ?_
    refine Vst dX4_keep_13 14 rfl (sI_ hF hq 5 (by decide)) (sk5 hq) (sn5 hq) hF.2.1 (by first | exact (by assumption) | exact (vin_cmp2 (by assumption) (by assumption) (by decide)) | exact (vin_cell (by assumption)) | exact (vin_reg (by assumption)) | exact (vin_row (by assumption)) | exact (vin_cnt (by assumption) (by assumption) (by decide) (by decide) (by assumption)) | exact (vin_cmp (by assumption) (by assumption) (by decide)) | exact (vp_in_iff.mpr (by decide))) ?_
    exact Vvret dX4_keep_14
theorem keep_q8 (σ : mS) (q : Nat) (i v : Int32) : (f_X4_keep σ q i v).2 q 8 = σ q 8 := by
  unfold f_X4_keep
  split <;> simp [st2]
theorem trys_in {x : Int32} (h0 : ¬ x ≤ 0) (h1 : x ≤ (4 : Int32)) : vp_in (x - 1) 4 := by
  rw [i32_le, Int32.toInt_zero] at h0
  rw [i32_le] at h1
  have h4 : (4 : Int32).toInt = 4 := by decide
  rw [h4] at h1
  obtain ⟨j, hj, rfl⟩ := vp_in_of (vp_in_iff.mpr ⟨by omega, by omega⟩ : vp_in x 5) (by decide)
  rcases j with _ | j
  · rw [nI_toInt (by decide)] at h0; exact absurd (by decide) h0
  · rw [nI_pred]; exact vp_in_nI (by omega) (by decide)
def f_X4_divide (σ : mS) (q : Nat) (x1 : Int32) (x2 : Int32) (x3 : Int32) : Int32 × mS := (if x3 = 0 then ((2 : Int32), σ) else (ap (fun u2 => ((0 : Int32), u2.2)) (f_X4_keep σ q x1 (x2 / x3))))
theorem mw_X4_divide : mW yX4_divide cX4_divide 4 (some .int) 3 := ⟨wd_co_yX4_divide, wd_ini_RX4, ⟨by decide, by decide⟩, by decide +kernel, by decide⟩
set_option maxRecDepth 100000 in
set_option maxHeartbeats 4000000 in
theorem c_X4_divide (l : Launch) {G : gT} (hF : Full G) (σ : mS) (q : Nat) (x1 : Int32) (x2 : Int32) (x3 : Int32) (hq : sQ q) : Ct l G yX4_divide cX4_divide 4 (some .int) 2 [.ref (ad G q), .int x1, .int x2, .int x3] κI σ (f_X4_divide σ q x1 x2 x3) := by
  refine Ct.ofV [(0, .ref (ad G q)), (1, .int x1), (2, .int x2), (3, .int x3)] rfl (by decide) (Nat.le_of_ble_eq_true rfl) rfl (fun X => ?_)
  unfold f_X4_divide
  refine Vload_n dX4_divide_0 3 rfl 1 rfl ?_
  refine Vifne (fun v => v) dX4_divide_1 6 4 (by decide) rfl (fun h1 => ?_) (fun h1 => ?_)
  · refine Vaload_n dX4_divide_6 0 rfl 7 rfl ?_
    refine Vload_n dX4_divide_7 1 rfl 8 rfl ?_
    refine Vload_n dX4_divide_8 2 rfl 9 rfl ?_
    refine Vload_n dX4_divide_9 3 rfl 10 rfl ?_
    refine Vidiv dX4_divide_10 (by first | assumption | decide) 11 rfl ?_
    refine Vgen ?_
    intro u2 eu2
    refine VcVv (u := u2) dX4_divide_11 [.int x1, .int (x2 / x3)] (by rw [eu2]; exact c_X4_keep l hF σ q x1 (x2 / x3) hq) mw_X4_keep wd_im_yX4_keep wd_se_yX4_keep wd_ml_RX4_73 (sI_ hF hq 0 (by decide)) (sk0 hq) rfl rfl (by decide) rfl rfl (Nat.le_of_ble_eq_true rfl) 14 rfl ?_
    refine Viconst dX4_divide_14 (0 : Int32) (by decide) 15 rfl ?_
    exact Viret dX4_divide_15
  · refine Viconst dX4_divide_4 (2 : Int32) (by decide) 5 rfl ?_
    exact Viret dX4_divide_5
def f_X4_beginAtom (σ : mS) (q : Nat) : Int32 × mS := (if (σ (q + 7) 0) = 0 then (ap (fun u2 => ((0 : Int32), u2.2)) (f_X0_forget (cp2 (st2 (st2 (st2 σ (q + 7) 0 (1 : Int32)) (q + 7) 1 (σ q 11)) (q + 7) 2 (σ q 8)) (q + 5) (q + 8) 4) (q + 7))) else ((5 : Int32), σ))
theorem mw_X4_beginAtom : mW yX4_beginAtom cX4_beginAtom 1 (some .int) 0 := ⟨wd_co_yX4_beginAtom, wd_ini_RX4, ⟨by decide, by decide⟩, by decide +kernel, by decide⟩
set_option maxRecDepth 100000 in
set_option maxHeartbeats 4000000 in
theorem c_X4_beginAtom (l : Launch) {G : gT} (hF : Full G) (σ : mS) (q : Nat) (hq : sQ q) : Ct l G yX4_beginAtom cX4_beginAtom 1 (some .int) 1 [.ref (ad G q)] κI σ (f_X4_beginAtom σ q) := by
  refine Ct.ofV [(0, .ref (ad G q))] rfl (by decide) (Nat.le_of_ble_eq_true rfl) rfl (fun X => ?_)
  unfold f_X4_beginAtom
  refine Vaload_n dX4_beginAtom_0 0 rfl 1 rfl ?_
  refine Vget (q) 9 dX4_beginAtom_1 4 rfl (sI_ hF hq 0 (by decide)) (sk0 hq) rfl inX4 (by decide) wd_fl_RX4_33 (v := .ref (ad G (q + 7))) rfl ?_
  refine VgetN (q + 7) 0 dX4_beginAtom_4 7 rfl (sI_ hF hq 7 (by decide)) (sk7 hq) rfl inX0 (by decide) wd_nfl_RX4_53 (v := .int (σ (q + 7) 0)) rfl ?_
  refine Vifeq (fun v => v) dX4_beginAtom_7 12 10 (by decide) rfl (fun h1 => ?_) (fun h1 => ?_)
  · refine Vaload_n dX4_beginAtom_12 0 rfl 13 rfl ?_
    refine Vget (q) 9 dX4_beginAtom_13 16 rfl (sI_ hF hq 0 (by decide)) (sk0 hq) rfl inX4 (by decide) wd_fl_RX4_33 (v := .ref (ad G (q + 7))) rfl ?_
    refine Viconst dX4_beginAtom_16 (1 : Int32) (by decide) 17 rfl ?_
    refine VputN (q + 7) 0 tyX0 dX4_beginAtom_17 20 rfl (sI_ hF hq 7 (by decide)) (sk7 hq) rfl inX0 tyX0_ok nmX0 (by decide) wd_nfl_RX4_53 rfl (ty := .boolean) (by decide +kernel) (by decide) (by decide) (fun f => rfl) (fun f => Nat.le_of_ble_eq_true rfl) ?_
    refine Vaload_n dX4_beginAtom_20 0 rfl 21 rfl ?_
    refine Vget (q) 9 dX4_beginAtom_21 24 rfl (sI_ hF hq 0 (by decide)) (sk0 hq) rfl inX4 (by decide) wd_fl_RX4_33 (v := .ref (ad G (q + 7))) rfl ?_
    refine Vaload_n dX4_beginAtom_24 0 rfl 25 rfl ?_
    refine Vget (q) 11 dX4_beginAtom_25 28 rfl (sI_ hF hq 0 (by decide)) (sk0 hq) rfl inX4 (by decide) wd_fl_RX4_85 (v := .int (σ q 11)) (by simp [oV, st2]) ?_
    refine VputN (q + 7) 1 tyX0 dX4_beginAtom_28 31 rfl (sI_ hF hq 7 (by decide)) (sk7 hq) rfl inX0 tyX0_ok nmX0 (by decide) wd_nfl_RX4_101 rfl (ty := .int) (by decide +kernel) rfl rfl (fun f => rfl) (fun f => Nat.le_of_ble_eq_true rfl) ?_
    refine Vaload_n dX4_beginAtom_31 0 rfl 32 rfl ?_
    refine Vget (q) 9 dX4_beginAtom_32 35 rfl (sI_ hF hq 0 (by decide)) (sk0 hq) rfl inX4 (by decide) wd_fl_RX4_33 (v := .ref (ad G (q + 7))) rfl ?_
    refine Vaload_n dX4_beginAtom_35 0 rfl 36 rfl ?_
    refine Vget (q) 8 dX4_beginAtom_36 39 rfl (sI_ hF hq 0 (by decide)) (sk0 hq) rfl inX4 (by decide) wd_fl_RX4_50 (v := .int (σ q 8)) (by simp [oV, st2]) ?_
    refine VputN (q + 7) 2 tyX0 dX4_beginAtom_39 42 rfl (sI_ hF hq 7 (by decide)) (sk7 hq) rfl inX0 tyX0_ok nmX0 (by decide) wd_nfl_RX4_98 rfl (ty := .int) (by decide +kernel) rfl rfl (fun f => rfl) (fun f => Nat.le_of_ble_eq_true rfl) ?_
    refine Vaload_n dX4_beginAtom_42 0 rfl 43 rfl ?_
    refine Vget (q) 6 dX4_beginAtom_43 46 rfl (sI_ hF hq 0 (by decide)) (sk0 hq) rfl inX4 (by decide) wd_fl_RX4_24 (v := .ref (ad G (q + 5))) rfl ?_
    refine Viconst dX4_beginAtom_46 (0 : Int32) (by decide) 47 rfl ?_
    refine Vaload_n dX4_beginAtom_47 0 rfl 48 rfl ?_
    refine Vget (q) 9 dX4_beginAtom_48 51 rfl (sI_ hF hq 0 (by decide)) (sk0 hq) rfl inX4 (by decide) wd_fl_RX4_33 (v := .ref (ad G (q + 7))) rfl ?_
    refine VgetN (q + 7) 3 dX4_beginAtom_51 54 rfl (sI_ hF hq 7 (by decide)) (sk7 hq) rfl inX0 (by decide) wd_nfl_RX4_104 (v := .ref (ad G (q + 8))) rfl ?_
    refine Viconst dX4_beginAtom_54 (0 : Int32) (by decide) 55 rfl ?_
    refine Viconst dX4_beginAtom_55 (4 : Int32) (by decide) 56 rfl ?_
    refine Vcopy dX4_beginAtom_56 59 rfl wd_ml_RX4_105 (sI_ hF hq 5 (by decide)) (sk5 hq) (sn5 hq) (sI_ hF hq 8 (by decide)) (sk8 hq) (sn8 hq) hF.2.1 (by decide) (by decide) (by decide) rfl ?_
    refine Vaload_n dX4_beginAtom_59 0 rfl 60 rfl ?_
    refine Vget (q) 9 dX4_beginAtom_60 63 rfl (sI_ hF hq 0 (by decide)) (sk0 hq) rfl inX4 (by decide) wd_fl_RX4_33 (v := .ref (ad G (q + 7))) rfl ?_
    refine Vgen ?_
    intro u2 eu2
    refine VcVv (u := u2) dX4_beginAtom_63 [] (by rw [eu2]; exact c_X0_forget l hF (cp2 (st2 (st2 (st2 σ (q + 7) 0 (1 : Int32)) (q + 7) 1 (σ q 11)) (q + 7) 2 (σ q 8)) (q + 5) (q + 8) 4) (q + 7) (sA hq)) mw_X0_forget wd_im_yX0_forget wd_se_yX0_forget wd_ml_RX4_111 (sI_ hF hq 7 (by decide)) (sk7 hq) rfl rfl (by decide) rfl rfl (Nat.le_of_ble_eq_true rfl) 66 rfl ?_
    refine Viconst dX4_beginAtom_66 (0 : Int32) (by decide) 67 rfl ?_
    exact Viret dX4_beginAtom_67
  · refine Viconst dX4_beginAtom_10 (5 : Int32) (by decide) 11 rfl ?_
    exact Viret dX4_beginAtom_11
def f_X4_openTry (σ : mS) (q : Nat) (x1 : Int32) : Int32 × mS := (if (σ q 8) < 0 then ((5 : Int32), σ) else (if (σ q 8) < (4 : Int32) then ((0 : Int32), (st2 (st2 σ (q + 6) (σ q 8).toNatClampNeg x1) q 8 ((σ q 8) + (1 : Int32)))) else ((5 : Int32), σ)))
theorem mw_X4_openTry : mW yX4_openTry cX4_openTry 2 (some .int) 1 := ⟨wd_co_yX4_openTry, wd_ini_RX4, ⟨by decide, by decide⟩, by decide +kernel, by decide⟩
set_option maxRecDepth 100000 in
set_option maxHeartbeats 4000000 in
theorem c_X4_openTry (l : Launch) {G : gT} (hF : Full G) (σ : mS) (q : Nat) (x1 : Int32) (hq : sQ q) : Ct l G yX4_openTry cX4_openTry 2 (some .int) 0 [.ref (ad G q), .int x1] κI σ (f_X4_openTry σ q x1) := by
  refine Ct.ofV [(0, .ref (ad G q)), (1, .int x1)] rfl (by decide) (Nat.le_of_ble_eq_true rfl) rfl (fun X => ?_)
  unfold f_X4_openTry
  refine Vaload_n dX4_openTry_0 0 rfl 1 rfl ?_
  refine Vget (q) 8 dX4_openTry_1 4 rfl (sI_ hF hq 0 (by decide)) (sk0 hq) rfl inX4 (by decide) wd_fl_RX4_50 (v := .int (σ q 8)) rfl ?_
  refine Viflt (fun v => v) dX4_openTry_4 15 7 (by decide) rfl (fun h1 => ?_) (fun h1 => ?_)
  · refine Viconst dX4_openTry_15 (5 : Int32) (by decide) 16 rfl ?_
    exact Viret dX4_openTry_16
  · refine Vaload_n dX4_openTry_7 0 rfl 8 rfl ?_
    refine Vget (q) 8 dX4_openTry_8 11 rfl (sI_ hF hq 0 (by decide)) (sk0 hq) rfl inX4 (by decide) wd_fl_RX4_50 (v := .int (σ q 8)) rfl ?_
    refine Viconst dX4_openTry_11 (4 : Int32) (by decide) 12 rfl ?_
    refine Viclt (fun v => v) dX4_openTry_12 17 15 (by decide) rfl (fun h2 => ?_) (fun h2 => ?_)
    · refine Vaload_n dX4_openTry_17 0 rfl 18 rfl ?_
      refine Vget (q) 7 dX4_openTry_18 21 rfl (sI_ hF hq 0 (by decide)) (sk0 hq) rfl inX4 (by decide) wd_fl_RX4_27 (v := .ref (ad G (q + 6))) rfl ?_
      refine Vaload_n dX4_openTry_21 0 rfl 22 rfl ?_
      refine Vget (q) 8 dX4_openTry_22 25 rfl (sI_ hF hq 0 (by decide)) (sk0 hq) rfl inX4 (by decide) wd_fl_RX4_50 (v := .int (σ q 8)) rfl ?_
      refine Vload_n dX4_openTry_25 1 rfl 26 rfl ?_
      refine Vst dX4_openTry_26 27 rfl (sI_ hF hq 6 (by decide)) (sk6 hq) (sn6 hq) hF.2.1 (by first | exact (by assumption) | exact (vin_cmp2 (by assumption) (by assumption) (by decide)) | exact (vin_cell (by assumption)) | exact (vin_reg (by assumption)) | exact (vin_row (by assumption)) | exact (vin_cnt (by assumption) (by assumption) (by decide) (by decide) (by assumption)) | exact (vin_cmp (by assumption) (by assumption) (by decide)) | exact (vp_in_iff.mpr (by decide))) ?_
      refine Vaload_n dX4_openTry_27 0 rfl 28 rfl ?_
      refine Vdupa dX4_openTry_28 29 rfl ?_
      refine Vget (q) 8 dX4_openTry_29 32 rfl (sI_ hF hq 0 (by decide)) (sk0 hq) rfl inX4 (by decide) wd_fl_RX4_50 (v := .int (σ q 8)) (by simp [oV, st2]) ?_
      refine Viconst dX4_openTry_32 (1 : Int32) (by decide) 33 rfl ?_
      refine Viadd dX4_openTry_33 34 rfl ?_
      refine Vput (q) 8 tyX4 dX4_openTry_34 37 rfl (sI_ hF hq 0 (by decide)) (sk0 hq) rfl inX4 tyX4_ok nmX4 (by decide) wd_fl_RX4_50 rfl (ty := .int) (by decide +kernel) rfl rfl (fun f => rfl) (fun f => Nat.le_of_ble_eq_true rfl) ?_
      refine Viconst dX4_openTry_37 (0 : Int32) (by decide) 38 rfl ?_
      exact Viret dX4_openTry_38
    · refine Viconst dX4_openTry_15 (5 : Int32) (by decide) 16 rfl ?_
      exact Viret dX4_openTry_16
def f_X4_closeTry (σ : mS) (q : Nat) : Int32 × mS := (if (σ q 8) = 0 then ((5 : Int32), σ) else (if (σ (q + 7) 0) = 0 then ((0 : Int32), (st2 σ q 8 ((σ q 8) - (1 : Int32)))) else (if (σ (q + 7) 2) < (σ q 8) then ((0 : Int32), (st2 σ q 8 ((σ q 8) - (1 : Int32)))) else ((5 : Int32), σ))))
theorem mw_X4_closeTry : mW yX4_closeTry cX4_closeTry 1 (some .int) 0 := ⟨wd_co_yX4_closeTry, wd_ini_RX4, ⟨by decide, by decide⟩, by decide +kernel, by decide⟩
set_option maxRecDepth 100000 in
set_option maxHeartbeats 4000000 in
theorem c_X4_closeTry (l : Launch) {G : gT} (hF : Full G) (σ : mS) (q : Nat) (hq : sQ q) : Ct l G yX4_closeTry cX4_closeTry 1 (some .int) 0 [.ref (ad G q)] κI σ (f_X4_closeTry σ q) := by
  refine Ct.ofV [(0, .ref (ad G q))] rfl (by decide) (Nat.le_of_ble_eq_true rfl) rfl (fun X => ?_)
  unfold f_X4_closeTry
  refine Vaload_n dX4_closeTry_0 0 rfl 1 rfl ?_
  refine Vget (q) 8 dX4_closeTry_1 4 rfl (sI_ hF hq 0 (by decide)) (sk0 hq) rfl inX4 (by decide) wd_fl_RX4_50 (v := .int (σ q 8)) rfl ?_
  refine Vifeq (fun v => v) dX4_closeTry_4 31 7 (by decide) rfl (fun h1 => ?_) (fun h1 => ?_)
  · refine Viconst dX4_closeTry_31 (5 : Int32) (by decide) 32 rfl ?_
    exact Viret dX4_closeTry_32
  · refine Vaload_n dX4_closeTry_7 0 rfl 8 rfl ?_
    refine Vget (q) 9 dX4_closeTry_8 11 rfl (sI_ hF hq 0 (by decide)) (sk0 hq) rfl inX4 (by decide) wd_fl_RX4_33 (v := .ref (ad G (q + 7))) rfl ?_
    refine VgetN (q + 7) 0 dX4_closeTry_11 14 rfl (sI_ hF hq 7 (by decide)) (sk7 hq) rfl inX0 (by decide) wd_nfl_RX4_53 (v := .int (σ (q + 7) 0)) rfl ?_
    refine Vifeq (fun v => v) dX4_closeTry_14 33 17 (by decide) rfl (fun h2 => ?_) (fun h2 => ?_)
    · refine Vaload_n dX4_closeTry_33 0 rfl 34 rfl ?_
      refine Vdupa dX4_closeTry_34 35 rfl ?_
      refine Vget (q) 8 dX4_closeTry_35 38 rfl (sI_ hF hq 0 (by decide)) (sk0 hq) rfl inX4 (by decide) wd_fl_RX4_50 (v := .int (σ q 8)) rfl ?_
      refine Viconst dX4_closeTry_38 (1 : Int32) (by decide) 39 rfl ?_
      refine Visub dX4_closeTry_39 40 rfl ?_
      refine Vput (q) 8 tyX4 dX4_closeTry_40 43 rfl (sI_ hF hq 0 (by decide)) (sk0 hq) rfl inX4 tyX4_ok nmX4 (by decide) wd_fl_RX4_50 rfl (ty := .int) (by decide +kernel) rfl rfl (fun f => rfl) (fun f => Nat.le_of_ble_eq_true rfl) ?_
      refine Viconst dX4_closeTry_43 (0 : Int32) (by decide) 44 rfl ?_
      exact Viret dX4_closeTry_44
    · refine Vaload_n dX4_closeTry_17 0 rfl 18 rfl ?_
      refine Vget (q) 8 dX4_closeTry_18 21 rfl (sI_ hF hq 0 (by decide)) (sk0 hq) rfl inX4 (by decide) wd_fl_RX4_50 (v := .int (σ q 8)) rfl ?_
      refine Vaload_n dX4_closeTry_21 0 rfl 22 rfl ?_
      refine Vget (q) 9 dX4_closeTry_22 25 rfl (sI_ hF hq 0 (by decide)) (sk0 hq) rfl inX4 (by decide) wd_fl_RX4_33 (v := .ref (ad G (q + 7))) rfl ?_
      refine VgetN (q + 7) 2 dX4_closeTry_25 28 rfl (sI_ hF hq 7 (by decide)) (sk7 hq) rfl inX0 (by decide) wd_nfl_RX4_98 (v := .int (σ (q + 7) 2)) rfl ?_
      refine Vicgt (fun v => v) dX4_closeTry_28 33 31 (by decide) rfl (fun h3 => ?_) (fun h3 => ?_)
      · refine Vaload_n dX4_closeTry_33 0 rfl 34 rfl ?_
        refine Vdupa dX4_closeTry_34 35 rfl ?_
        refine Vget (q) 8 dX4_closeTry_35 38 rfl (sI_ hF hq 0 (by decide)) (sk0 hq) rfl inX4 (by decide) wd_fl_RX4_50 (v := .int (σ q 8)) rfl ?_
        refine Viconst dX4_closeTry_38 (1 : Int32) (by decide) 39 rfl ?_
        refine Visub dX4_closeTry_39 40 rfl ?_
        refine Vput (q) 8 tyX4 dX4_closeTry_40 43 rfl (sI_ hF hq 0 (by decide)) (sk0 hq) rfl inX4 tyX4_ok nmX4 (by decide) wd_fl_RX4_50 rfl (ty := .int) (by decide +kernel) rfl rfl (fun f => rfl) (fun f => Nat.le_of_ble_eq_true rfl) ?_
        refine Viconst dX4_closeTry_43 (0 : Int32) (by decide) 44 rfl ?_
        exact Viret dX4_closeTry_44
      · refine Viconst dX4_closeTry_31 (5 : Int32) (by decide) 32 rfl ?_
        exact Viret dX4_closeTry_32
def f_X4_performAlone (σ : mS) (q : Nat) (x1 : Int32) (x2 : Int32) (x3 : Int32) (x4 : Int32) : Int32 × mS := (if x1 = (0 : Int32) then (ap (fun u2 => ((0 : Int32), u2.2)) (f_X4_keep σ q x2 x3)) else (if x1 = (3 : Int32) then (ap (fun u4 => ((0 : Int32), u4.2)) (f_X4_keep σ q x2 ((f_X4_held σ q x3) + (f_X4_held σ q x4)))) else (if x1 = (4 : Int32) then (ap (fun u6 => ((0 : Int32), u6.2)) (f_X4_keep σ q x2 ((f_X4_held σ q x3) - (f_X4_held σ q x4)))) else (if x1 = (5 : Int32) then (ap (fun u8 => ((0 : Int32), u8.2)) (f_X4_keep σ q x2 ((f_X4_held σ q x3) * (f_X4_held σ q x4)))) else (if x1 = (6 : Int32) then (ap (fun u10 => (u10.1, u10.2)) (f_X4_divide σ q x2 (f_X4_held σ q x3) (f_X4_held σ q x4))) else (if x1 = (10 : Int32) then ((0 : Int32), (st2 σ q 11 x2)) else (if x1 = (11 : Int32) then (if (f_X4_held σ q x2) = 0 then ((0 : Int32), (st2 σ q 11 x3)) else ((0 : Int32), (st2 σ q 11 (σ q 11)))) else (if x1 = (12 : Int32) then (ap (fun u15 => (u15.1, u15.2)) (f_X4_beginAtom σ q)) else (if x1 = (14 : Int32) then (ap (fun u17 => (u17.1, u17.2)) (f_X4_openTry σ q x2)) else (if x1 = (15 : Int32) then (ap (fun u19 => (u19.1, u19.2)) (f_X4_closeTry σ q)) else (if x1 = (16 : Int32) then (((10 : Int32) + ((f_X4_held σ q x2) &&& (7 : Int32))), σ) else ((0 : Int32), σ))))))))))))
theorem mw_X4_performAlone : mW yX4_performAlone cX4_performAlone 5 (some .int) 4 := ⟨wd_co_yX4_performAlone, wd_ini_RX4, ⟨by decide, by decide⟩, by decide +kernel, by decide⟩
set_option maxRecDepth 100000 in
set_option maxHeartbeats 4000000 in
theorem c_X4_performAlone (l : Launch) {G : gT} (hF : Full G) (σ : mS) (q : Nat) (x1 : Int32) (x2 : Int32) (x3 : Int32) (x4 : Int32) (hq : sQ q) : Ct l G yX4_performAlone cX4_performAlone 5 (some .int) 3 [.ref (ad G q), .int x1, .int x2, .int x3, .int x4] κI σ (f_X4_performAlone σ q x1 x2 x3 x4) := by
  refine Ct.ofV [(0, .ref (ad G q)), (1, .int x1), (2, .int x2), (3, .int x3), (4, .int x4)] rfl (by decide) (Nat.le_of_ble_eq_true rfl) rfl (fun X => ?_)
  unfold f_X4_performAlone
  refine Vload_n dX4_performAlone_0 1 rfl 1 rfl ?_
  refine Vif (fun v => v) (fun h1 => ?_) (fun h1 => ?_)
  · refine Vswin dX4_performAlone_1 84 (by rw [h1]; decide) (by rw [h1]; decide) (off := 83) (by rw [h1]; rfl) (by decide) ?_
    refine Vaload_n dX4_performAlone_84 0 rfl 85 rfl ?_
    refine Vload_n dX4_performAlone_85 2 rfl 86 rfl ?_
    refine Vload_n dX4_performAlone_86 3 rfl 87 rfl ?_
    refine Vgen ?_
    intro u2 eu2
    refine VcVv (u := u2) dX4_performAlone_87 [.int x2, .int x3] (by rw [eu2]; exact c_X4_keep l hF σ q x2 x3 hq) mw_X4_keep wd_im_yX4_keep wd_se_yX4_keep wd_ml_RX4_73 (sI_ hF hq 0 (by decide)) (sk0 hq) rfl rfl (by decide) rfl rfl (Nat.le_of_ble_eq_true rfl) 90 rfl ?_
    refine Viconst dX4_performAlone_90 (0 : Int32) (by decide) 91 rfl ?_
    exact Viret dX4_performAlone_91
  refine Vif (fun v => v) (fun h3 => ?_) (fun h3 => ?_)
  · refine Vswin dX4_performAlone_1 92 (by rw [h3]; decide) (by rw [h3]; decide) (off := 91) (by rw [h3]; rfl) (by decide) ?_
    refine Vaload_n dX4_performAlone_92 0 rfl 93 rfl ?_
    refine Vload_n dX4_performAlone_93 2 rfl 94 rfl ?_
    refine Vaload_n dX4_performAlone_94 0 rfl 95 rfl ?_
    refine Vload_n dX4_performAlone_95 3 rfl 96 rfl ?_
    refine VcVp dX4_performAlone_96 [.int x3] (c_X4_held l hF σ q x3 hq) mw_X4_held wd_im_yX4_held wd_se_yX4_held wd_ml_RX4_77 (sI_ hF hq 0 (by decide)) (sk0 hq) rfl rfl (by decide) rfl rfl (Nat.le_of_ble_eq_true rfl) 99 rfl ?_
    refine Vaload_n dX4_performAlone_99 0 rfl 100 rfl ?_
    refine Vload dX4_performAlone_100 4 rfl 102 rfl ?_
    refine VcVp dX4_performAlone_102 [.int x4] (c_X4_held l hF σ q x4 hq) mw_X4_held wd_im_yX4_held wd_se_yX4_held wd_ml_RX4_77 (sI_ hF hq 0 (by decide)) (sk0 hq) rfl rfl (by decide) rfl rfl (Nat.le_of_ble_eq_true rfl) 105 rfl ?_
    refine Viadd dX4_performAlone_105 106 rfl ?_
    refine Vgen ?_
    intro u4 eu4
    refine VcVv (u := u4) dX4_performAlone_106 [.int x2, .int ((f_X4_held σ q x3) + (f_X4_held σ q x4))] (by rw [eu4]; exact c_X4_keep l hF σ q x2 ((f_X4_held σ q x3) + (f_X4_held σ q x4)) hq) mw_X4_keep wd_im_yX4_keep wd_se_yX4_keep wd_ml_RX4_73 (sI_ hF hq 0 (by decide)) (sk0 hq) rfl rfl (by decide) rfl rfl (Nat.le_of_ble_eq_true rfl) 109 rfl ?_
    refine Viconst dX4_performAlone_109 (0 : Int32) (by decide) 110 rfl ?_
    exact Viret dX4_performAlone_110
  refine Vif (fun v => v) (fun h5 => ?_) (fun h5 => ?_)
  · refine Vswin dX4_performAlone_1 111 (by rw [h5]; decide) (by rw [h5]; decide) (off := 110) (by rw [h5]; rfl) (by decide) ?_
    refine Vaload_n dX4_performAlone_111 0 rfl 112 rfl ?_
    refine Vload_n dX4_performAlone_112 2 rfl 113 rfl ?_
    refine Vaload_n dX4_performAlone_113 0 rfl 114 rfl ?_
    refine Vload_n dX4_performAlone_114 3 rfl 115 rfl ?_
    refine VcVp dX4_performAlone_115 [.int x3] (c_X4_held l hF σ q x3 hq) mw_X4_held wd_im_yX4_held wd_se_yX4_held wd_ml_RX4_77 (sI_ hF hq 0 (by decide)) (sk0 hq) rfl rfl (by decide) rfl rfl (Nat.le_of_ble_eq_true rfl) 118 rfl ?_
    refine Vaload_n dX4_performAlone_118 0 rfl 119 rfl ?_
    refine Vload dX4_performAlone_119 4 rfl 121 rfl ?_
    refine VcVp dX4_performAlone_121 [.int x4] (c_X4_held l hF σ q x4 hq) mw_X4_held wd_im_yX4_held wd_se_yX4_held wd_ml_RX4_77 (sI_ hF hq 0 (by decide)) (sk0 hq) rfl rfl (by decide) rfl rfl (Nat.le_of_ble_eq_true rfl) 124 rfl ?_
    refine Visub dX4_performAlone_124 125 rfl ?_
    refine Vgen ?_
    intro u6 eu6
    refine VcVv (u := u6) dX4_performAlone_125 [.int x2, .int ((f_X4_held σ q x3) - (f_X4_held σ q x4))] (by rw [eu6]; exact c_X4_keep l hF σ q x2 ((f_X4_held σ q x3) - (f_X4_held σ q x4)) hq) mw_X4_keep wd_im_yX4_keep wd_se_yX4_keep wd_ml_RX4_73 (sI_ hF hq 0 (by decide)) (sk0 hq) rfl rfl (by decide) rfl rfl (Nat.le_of_ble_eq_true rfl) 128 rfl ?_
    refine Viconst dX4_performAlone_128 (0 : Int32) (by decide) 129 rfl ?_
    exact Viret dX4_performAlone_129
  refine Vif (fun v => v) (fun h7 => ?_) (fun h7 => ?_)
  · refine Vswin dX4_performAlone_1 130 (by rw [h7]; decide) (by rw [h7]; decide) (off := 129) (by rw [h7]; rfl) (by decide) ?_
    refine Vaload_n dX4_performAlone_130 0 rfl 131 rfl ?_
    refine Vload_n dX4_performAlone_131 2 rfl 132 rfl ?_
    refine Vaload_n dX4_performAlone_132 0 rfl 133 rfl ?_
    refine Vload_n dX4_performAlone_133 3 rfl 134 rfl ?_
    refine VcVp dX4_performAlone_134 [.int x3] (c_X4_held l hF σ q x3 hq) mw_X4_held wd_im_yX4_held wd_se_yX4_held wd_ml_RX4_77 (sI_ hF hq 0 (by decide)) (sk0 hq) rfl rfl (by decide) rfl rfl (Nat.le_of_ble_eq_true rfl) 137 rfl ?_
    refine Vaload_n dX4_performAlone_137 0 rfl 138 rfl ?_
    refine Vload dX4_performAlone_138 4 rfl 140 rfl ?_
    refine VcVp dX4_performAlone_140 [.int x4] (c_X4_held l hF σ q x4 hq) mw_X4_held wd_im_yX4_held wd_se_yX4_held wd_ml_RX4_77 (sI_ hF hq 0 (by decide)) (sk0 hq) rfl rfl (by decide) rfl rfl (Nat.le_of_ble_eq_true rfl) 143 rfl ?_
    refine Vimul dX4_performAlone_143 144 rfl ?_
    refine Vgen ?_
    intro u8 eu8
    refine VcVv (u := u8) dX4_performAlone_144 [.int x2, .int ((f_X4_held σ q x3) * (f_X4_held σ q x4))] (by rw [eu8]; exact c_X4_keep l hF σ q x2 ((f_X4_held σ q x3) * (f_X4_held σ q x4)) hq) mw_X4_keep wd_im_yX4_keep wd_se_yX4_keep wd_ml_RX4_73 (sI_ hF hq 0 (by decide)) (sk0 hq) rfl rfl (by decide) rfl rfl (Nat.le_of_ble_eq_true rfl) 147 rfl ?_
    refine Viconst dX4_performAlone_147 (0 : Int32) (by decide) 148 rfl ?_
    exact Viret dX4_performAlone_148
  refine Vif (fun v => v) (fun h9 => ?_) (fun h9 => ?_)
  · refine Vswin dX4_performAlone_1 149 (by rw [h9]; decide) (by rw [h9]; decide) (off := 148) (by rw [h9]; rfl) (by decide) ?_
    refine Vaload_n dX4_performAlone_149 0 rfl 150 rfl ?_
    refine Vload_n dX4_performAlone_150 2 rfl 151 rfl ?_
    refine Vaload_n dX4_performAlone_151 0 rfl 152 rfl ?_
    refine Vload_n dX4_performAlone_152 3 rfl 153 rfl ?_
    refine VcVp dX4_performAlone_153 [.int x3] (c_X4_held l hF σ q x3 hq) mw_X4_held wd_im_yX4_held wd_se_yX4_held wd_ml_RX4_77 (sI_ hF hq 0 (by decide)) (sk0 hq) rfl rfl (by decide) rfl rfl (Nat.le_of_ble_eq_true rfl) 156 rfl ?_
    refine Vaload_n dX4_performAlone_156 0 rfl 157 rfl ?_
    refine Vload dX4_performAlone_157 4 rfl 159 rfl ?_
    refine VcVp dX4_performAlone_159 [.int x4] (c_X4_held l hF σ q x4 hq) mw_X4_held wd_im_yX4_held wd_se_yX4_held wd_ml_RX4_77 (sI_ hF hq 0 (by decide)) (sk0 hq) rfl rfl (by decide) rfl rfl (Nat.le_of_ble_eq_true rfl) 162 rfl ?_
    refine Vgen ?_
    intro u10 eu10
    refine VcVi (u := u10) dX4_performAlone_162 [.int x2, .int (f_X4_held σ q x3), .int (f_X4_held σ q x4)] (by rw [eu10]; exact c_X4_divide l hF σ q x2 (f_X4_held σ q x3) (f_X4_held σ q x4) hq) mw_X4_divide wd_im_yX4_divide wd_se_yX4_divide wd_ml_RX4_81 (sI_ hF hq 0 (by decide)) (sk0 hq) rfl rfl (by decide) rfl rfl (Nat.le_of_ble_eq_true rfl) 165 rfl ?_
    exact Viret dX4_performAlone_165
  refine Vif (fun v => v) (fun h11 => ?_) (fun h11 => ?_)
  · refine Vswin dX4_performAlone_1 166 (by rw [h11]; decide) (by rw [h11]; decide) (off := 165) (by rw [h11]; rfl) (by decide) ?_
    refine Vaload_n dX4_performAlone_166 0 rfl 167 rfl ?_
    refine Vload_n dX4_performAlone_167 2 rfl 168 rfl ?_
    refine Vput (q) 11 tyX4 dX4_performAlone_168 171 rfl (sI_ hF hq 0 (by decide)) (sk0 hq) rfl inX4 tyX4_ok nmX4 (by decide) wd_fl_RX4_85 rfl (ty := .int) (by decide +kernel) rfl rfl (fun f => rfl) (fun f => Nat.le_of_ble_eq_true rfl) ?_
    refine Viconst dX4_performAlone_171 (0 : Int32) (by decide) 172 rfl ?_
    exact Viret dX4_performAlone_172
  refine Vif (fun v => v) (fun h12 => ?_) (fun h12 => ?_)
  · refine Vswin dX4_performAlone_1 173 (by rw [h12]; decide) (by rw [h12]; decide) (off := 172) (by rw [h12]; rfl) (by decide) ?_
    refine Vaload_n dX4_performAlone_173 0 rfl 174 rfl ?_
    refine Vaload_n dX4_performAlone_174 0 rfl 175 rfl ?_
    refine Vload_n dX4_performAlone_175 2 rfl 176 rfl ?_
    refine VcVp dX4_performAlone_176 [.int x2] (c_X4_held l hF σ q x2 hq) mw_X4_held wd_im_yX4_held wd_se_yX4_held wd_ml_RX4_77 (sI_ hF hq 0 (by decide)) (sk0 hq) rfl rfl (by decide) rfl rfl (Nat.le_of_ble_eq_true rfl) 179 rfl ?_
    refine Vifne (fun v => v) dX4_performAlone_179 186 182 (by decide) rfl (fun h13 => ?_) (fun h13 => ?_)
    · refine Vaload_n dX4_performAlone_186 0 rfl 187 rfl ?_
      refine Vget (q) 11 dX4_performAlone_187 190 rfl (sI_ hF hq 0 (by decide)) (sk0 hq) rfl inX4 (by decide) wd_fl_RX4_85 (v := .int (σ q 11)) rfl ?_
      refine Vput (q) 11 tyX4 dX4_performAlone_190 193 rfl (sI_ hF hq 0 (by decide)) (sk0 hq) rfl inX4 tyX4_ok nmX4 (by decide) wd_fl_RX4_85 rfl (ty := .int) (by decide +kernel) rfl rfl (fun f => rfl) (fun f => Nat.le_of_ble_eq_true rfl) ?_
      refine Viconst dX4_performAlone_193 (0 : Int32) (by decide) 194 rfl ?_
      exact Viret dX4_performAlone_194
    · refine Vload_n dX4_performAlone_182 3 rfl 183 rfl ?_
      refine Vgoto dX4_performAlone_183 190 (by decide) ?_
      refine Vput (q) 11 tyX4 dX4_performAlone_190 193 rfl (sI_ hF hq 0 (by decide)) (sk0 hq) rfl inX4 tyX4_ok nmX4 (by decide) wd_fl_RX4_85 rfl (ty := .int) (by decide +kernel) rfl rfl (fun f => rfl) (fun f => Nat.le_of_ble_eq_true rfl) ?_
      refine Viconst dX4_performAlone_193 (0 : Int32) (by decide) 194 rfl ?_
      exact Viret dX4_performAlone_194
  refine Vif (fun v => v) (fun h14 => ?_) (fun h14 => ?_)
  · refine Vswin dX4_performAlone_1 195 (by rw [h14]; decide) (by rw [h14]; decide) (off := 194) (by rw [h14]; rfl) (by decide) ?_
    refine Vaload_n dX4_performAlone_195 0 rfl 196 rfl ?_
    refine Vgen ?_
    intro u15 eu15
    refine VcVi (u := u15) dX4_performAlone_196 [] (by rw [eu15]; exact c_X4_beginAtom l hF σ q hq) mw_X4_beginAtom wd_im_yX4_beginAtom wd_se_yX4_beginAtom wd_ml_RX4_88 (sI_ hF hq 0 (by decide)) (sk0 hq) rfl rfl (by decide) rfl rfl (Nat.le_of_ble_eq_true rfl) 199 rfl ?_
    exact Viret dX4_performAlone_199
  refine Vif (fun v => v) (fun h16 => ?_) (fun h16 => ?_)
  · refine Vswin dX4_performAlone_1 200 (by rw [h16]; decide) (by rw [h16]; decide) (off := 199) (by rw [h16]; rfl) (by decide) ?_
    refine Vaload_n dX4_performAlone_200 0 rfl 201 rfl ?_
    refine Vload_n dX4_performAlone_201 2 rfl 202 rfl ?_
    refine Vgen ?_
    intro u17 eu17
    refine VcVi (u := u17) dX4_performAlone_202 [.int x2] (by rw [eu17]; exact c_X4_openTry l hF σ q x2 hq) mw_X4_openTry wd_im_yX4_openTry wd_se_yX4_openTry wd_ml_RX4_92 (sI_ hF hq 0 (by decide)) (sk0 hq) rfl rfl (by decide) rfl rfl (Nat.le_of_ble_eq_true rfl) 205 rfl ?_
    exact Viret dX4_performAlone_205
  refine Vif (fun v => v) (fun h18 => ?_) (fun h18 => ?_)
  · refine Vswin dX4_performAlone_1 206 (by rw [h18]; decide) (by rw [h18]; decide) (off := 205) (by rw [h18]; rfl) (by decide) ?_
    refine Vaload_n dX4_performAlone_206 0 rfl 207 rfl ?_
    refine Vgen ?_
    intro u19 eu19
    refine VcVi (u := u19) dX4_performAlone_207 [] (by rw [eu19]; exact c_X4_closeTry l hF σ q hq) mw_X4_closeTry wd_im_yX4_closeTry wd_se_yX4_closeTry wd_ml_RX4_95 (sI_ hF hq 0 (by decide)) (sk0 hq) rfl rfl (by decide) rfl rfl (Nat.le_of_ble_eq_true rfl) 210 rfl ?_
    exact Viret dX4_performAlone_210
  refine Vif (fun v => v) (fun h20 => ?_) (fun h20 => ?_)
  · refine Vswin dX4_performAlone_1 211 (by rw [h20]; decide) (by rw [h20]; decide) (off := 210) (by rw [h20]; rfl) (by decide) ?_
    refine Vbipush dX4_performAlone_211 (10 : Int32) (by decide) 213 rfl ?_
    refine Vaload_n dX4_performAlone_213 0 rfl 214 rfl ?_
    refine Vload_n dX4_performAlone_214 2 rfl 215 rfl ?_
    refine VcVp dX4_performAlone_215 [.int x2] (c_X4_held l hF σ q x2 hq) mw_X4_held wd_im_yX4_held wd_se_yX4_held wd_ml_RX4_77 (sI_ hF hq 0 (by decide)) (sk0 hq) rfl rfl (by decide) rfl rfl (Nat.le_of_ble_eq_true rfl) 218 rfl ?_
    refine Vbipush dX4_performAlone_218 (7 : Int32) (by decide) 220 rfl ?_
    refine Viand dX4_performAlone_220 221 rfl ?_
    refine Viadd dX4_performAlone_221 222 rfl ?_
    exact Viret dX4_performAlone_222
  have w21 : V l G X RX4 cX4_performAlone 5 3 (some .int) κI ((fun v => v) ((0 : Int32), σ)) σ 223 [(0, .ref (ad G q)), (1, .int x1), (2, .int x2), (3, .int x3), (4, .int x4)] [] := by
    refine Viconst dX4_performAlone_223 (0 : Int32) (by decide) 224 rfl ?_
    exact Viret dX4_performAlone_224
  by_cases o22 : x1 = (1 : Int32)
  · exact Vswin dX4_performAlone_1 223 (by rw [o22]; decide) (by rw [o22]; decide) (off := 222) (by rw [o22]; rfl) (by decide) w21
  by_cases o23 : x1 = (2 : Int32)
  · exact Vswin dX4_performAlone_1 223 (by rw [o23]; decide) (by rw [o23]; decide) (off := 222) (by rw [o23]; rfl) (by decide) w21
  by_cases o24 : x1 = (7 : Int32)
  · exact Vswin dX4_performAlone_1 223 (by rw [o24]; decide) (by rw [o24]; decide) (off := 222) (by rw [o24]; rfl) (by decide) w21
  by_cases o25 : x1 = (8 : Int32)
  · exact Vswin dX4_performAlone_1 223 (by rw [o25]; decide) (by rw [o25]; decide) (off := 222) (by rw [o25]; rfl) (by decide) w21
  by_cases o26 : x1 = (9 : Int32)
  · exact Vswin dX4_performAlone_1 223 (by rw [o26]; decide) (by rw [o26]; decide) (off := 222) (by rw [o26]; rfl) (by decide) w21
  by_cases o27 : x1 = (13 : Int32)
  · exact Vswin dX4_performAlone_1 223 (by rw [o27]; decide) (by rw [o27]; decide) (off := 222) (by rw [o27]; rfl) (by decide) w21
  exact Vswout dX4_performAlone_1 (by have eh1 := lv_neT (a := 0) h1 (by decide); have eh3 := lv_neT (a := 3) h3 (by decide); have eh5 := lv_neT (a := 4) h5 (by decide); have eh7 := lv_neT (a := 5) h7 (by decide); have eh9 := lv_neT (a := 6) h9 (by decide); have eh11 := lv_neT (a := 10) h11 (by decide); have eh12 := lv_neT (a := 11) h12 (by decide); have eh14 := lv_neT (a := 12) h14 (by decide); have eh16 := lv_neT (a := 14) h16 (by decide); have eh18 := lv_neT (a := 15) h18 (by decide); have eh20 := lv_neT (a := 16) h20 (by decide); have eo22 := lv_neT (a := 1) o22 (by decide); have eo23 := lv_neT (a := 2) o23 (by decide); have eo24 := lv_neT (a := 7) o24 (by decide); have eo25 := lv_neT (a := 8) o25 (by decide); have eo26 := lv_neT (a := 9) o26 (by decide); have eo27 := lv_neT (a := 13) o27 (by decide); omega) (tgt := 223) (by decide) w21
def f_X4_beginAnew (σ : mS) (q : Nat) : Int32 × mS := (ap (fun u1 => (0, u1.2)) (f_X0_forget (cp2 (st2 (st2 σ q 14 ((σ q 14) + (1 : Int32))) q 11 (σ (q + 7) 1)) (q + 8) (q + 5) 4) (q + 7)))
theorem mw_X4_beginAnew : mW yX4_beginAnew cX4_beginAnew 1 none 0 := ⟨wd_co_yX4_beginAnew, wd_ini_RX4, ⟨by decide, by decide⟩, by decide +kernel, by decide⟩
set_option maxRecDepth 100000 in
set_option maxHeartbeats 4000000 in
theorem c_X4_beginAnew (l : Launch) {G : gT} (hF : Full G) (σ : mS) (q : Nat) (hq : sQ q) : Ct l G yX4_beginAnew cX4_beginAnew 1 none 1 [.ref (ad G q)] κV σ (f_X4_beginAnew σ q) := by
  refine Ct.ofV [(0, .ref (ad G q))] rfl (by decide) (Nat.le_of_ble_eq_true rfl) rfl (fun X => ?_)
  unfold f_X4_beginAnew
  refine Vaload_n dX4_beginAnew_0 0 rfl 1 rfl ?_
  refine Vdupa dX4_beginAnew_1 2 rfl ?_
  refine Vget (q) 14 dX4_beginAnew_2 5 rfl (sI_ hF hq 0 (by decide)) (sk0 hq) rfl inX4 (by decide) wd_fl_RX4_66 (v := .int (σ q 14)) rfl ?_
  refine Viconst dX4_beginAnew_5 (1 : Int32) (by decide) 6 rfl ?_
  refine Viadd dX4_beginAnew_6 7 rfl ?_
  refine Vput (q) 14 tyX4 dX4_beginAnew_7 10 rfl (sI_ hF hq 0 (by decide)) (sk0 hq) rfl inX4 tyX4_ok nmX4 (by decide) wd_fl_RX4_66 rfl (ty := .int) (by decide +kernel) rfl rfl (fun f => rfl) (fun f => Nat.le_of_ble_eq_true rfl) ?_
  refine Vaload_n dX4_beginAnew_10 0 rfl 11 rfl ?_
  refine Vaload_n dX4_beginAnew_11 0 rfl 12 rfl ?_
  refine Vget (q) 9 dX4_beginAnew_12 15 rfl (sI_ hF hq 0 (by decide)) (sk0 hq) rfl inX4 (by decide) wd_fl_RX4_33 (v := .ref (ad G (q + 7))) rfl ?_
  refine VgetN (q + 7) 1 dX4_beginAnew_15 18 rfl (sI_ hF hq 7 (by decide)) (sk7 hq) rfl inX0 (by decide) wd_nfl_RX4_101 (v := .int (σ (q + 7) 1)) (by simp [oV, st2]) ?_
  refine Vput (q) 11 tyX4 dX4_beginAnew_18 21 rfl (sI_ hF hq 0 (by decide)) (sk0 hq) rfl inX4 tyX4_ok nmX4 (by decide) wd_fl_RX4_85 rfl (ty := .int) (by decide +kernel) rfl rfl (fun f => rfl) (fun f => Nat.le_of_ble_eq_true rfl) ?_
  refine Vaload_n dX4_beginAnew_21 0 rfl 22 rfl ?_
  refine Vget (q) 9 dX4_beginAnew_22 25 rfl (sI_ hF hq 0 (by decide)) (sk0 hq) rfl inX4 (by decide) wd_fl_RX4_33 (v := .ref (ad G (q + 7))) rfl ?_
  refine VgetN (q + 7) 3 dX4_beginAnew_25 28 rfl (sI_ hF hq 7 (by decide)) (sk7 hq) rfl inX0 (by decide) wd_nfl_RX4_104 (v := .ref (ad G (q + 8))) rfl ?_
  refine Viconst dX4_beginAnew_28 (0 : Int32) (by decide) 29 rfl ?_
  refine Vaload_n dX4_beginAnew_29 0 rfl 30 rfl ?_
  refine Vget (q) 6 dX4_beginAnew_30 33 rfl (sI_ hF hq 0 (by decide)) (sk0 hq) rfl inX4 (by decide) wd_fl_RX4_24 (v := .ref (ad G (q + 5))) rfl ?_
  refine Viconst dX4_beginAnew_33 (0 : Int32) (by decide) 34 rfl ?_
  refine Viconst dX4_beginAnew_34 (4 : Int32) (by decide) 35 rfl ?_
  refine Vcopy dX4_beginAnew_35 38 rfl wd_ml_RX4_105 (sI_ hF hq 8 (by decide)) (sk8 hq) (sn8 hq) (sI_ hF hq 5 (by decide)) (sk5 hq) (sn5 hq) hF.2.1 (by decide) (by decide) (by decide) rfl ?_
  refine Vaload_n dX4_beginAnew_38 0 rfl 39 rfl ?_
  refine Vget (q) 9 dX4_beginAnew_39 42 rfl (sI_ hF hq 0 (by decide)) (sk0 hq) rfl inX4 (by decide) wd_fl_RX4_33 (v := .ref (ad G (q + 7))) rfl ?_
  refine Vgen ?_
  intro u1 eu1
  refine VcVv (u := u1) dX4_beginAnew_42 [] (by rw [eu1]; exact c_X0_forget l hF (cp2 (st2 (st2 σ q 14 ((σ q 14) + (1 : Int32))) q 11 (σ (q + 7) 1)) (q + 8) (q + 5) 4) (q + 7) (sA hq)) mw_X0_forget wd_im_yX0_forget wd_se_yX0_forget wd_ml_RX4_111 (sI_ hF hq 7 (by decide)) (sk7 hq) rfl rfl (by decide) rfl rfl (Nat.le_of_ble_eq_true rfl) 45 rfl ?_
  exact Vvret dX4_beginAnew_45
def f_X4_fail (σ : mS) (q : Nat) (x1 : Int32) : Int32 × mS := (if (σ q 8) ≤ 0 then (0, (st2 (st2 σ q 12 x1) (q + 7) 0 (0 : Int32))) else (if (σ q 8) ≤ (4 : Int32) then (if (σ (q + 7) 2) ≤ ((σ q 8) - (1 : Int32)) then (ap (fun u4 => (0, (st2 u4.2 q 10 (u4.2 (q + 6) (u4.2 q 8).toNatClampNeg)))) (f_X4_keep (st2 σ q 8 ((σ q 8) - (1 : Int32))) q (0 : Int32) x1)) else (ap (fun u5 => (0, (st2 u5.2 q 10 (u5.2 (q + 6) (u5.2 q 8).toNatClampNeg)))) (f_X4_keep (st2 (st2 σ q 8 ((σ q 8) - (1 : Int32))) (q + 7) 0 (0 : Int32)) q (0 : Int32) x1))) else (0, (st2 (st2 σ q 12 x1) (q + 7) 0 (0 : Int32)))))
theorem mw_X4_fail : mW yX4_fail cX4_fail 2 none 1 := ⟨wd_co_yX4_fail, wd_ini_RX4, ⟨by decide, by decide⟩, by decide +kernel, by decide⟩
set_option maxRecDepth 100000 in
set_option maxHeartbeats 4000000 in
theorem c_X4_fail (l : Launch) {G : gT} (hF : Full G) (σ : mS) (q : Nat) (x1 : Int32) (hq : sQ q) : Ct l G yX4_fail cX4_fail 2 none 2 [.ref (ad G q), .int x1] κV σ (f_X4_fail σ q x1) := by
  refine Ct.ofV [(0, .ref (ad G q)), (1, .int x1)] rfl (by decide) (Nat.le_of_ble_eq_true rfl) rfl (fun X => ?_)
  unfold f_X4_fail
  refine Vaload_n dX4_fail_0 0 rfl 1 rfl ?_
  refine Vget (q) 8 dX4_fail_1 4 rfl (sI_ hF hq 0 (by decide)) (sk0 hq) rfl inX4 (by decide) wd_fl_RX4_50 (v := .int (σ q 8)) rfl ?_
  refine Vifle (fun v => v) dX4_fail_4 15 7 (by decide) rfl (fun h1 => ?_) (fun h1 => ?_)
  · refine Vaload_n dX4_fail_15 0 rfl 16 rfl ?_
    refine Vload_n dX4_fail_16 1 rfl 17 rfl ?_
    refine Vput (q) 12 tyX4 dX4_fail_17 20 rfl (sI_ hF hq 0 (by decide)) (sk0 hq) rfl inX4 tyX4_ok nmX4 (by decide) wd_fl_RX4_60 rfl (ty := .int) (by decide +kernel) rfl rfl (fun f => rfl) (fun f => Nat.le_of_ble_eq_true rfl) ?_
    refine Vaload_n dX4_fail_20 0 rfl 21 rfl ?_
    refine Vget (q) 9 dX4_fail_21 24 rfl (sI_ hF hq 0 (by decide)) (sk0 hq) rfl inX4 (by decide) wd_fl_RX4_33 (v := .ref (ad G (q + 7))) rfl ?_
    refine Viconst dX4_fail_24 (0 : Int32) (by decide) 25 rfl ?_
    refine VputN (q + 7) 0 tyX0 dX4_fail_25 28 rfl (sI_ hF hq 7 (by decide)) (sk7 hq) rfl inX0 tyX0_ok nmX0 (by decide) wd_nfl_RX4_53 rfl (ty := .boolean) (by decide +kernel) (by decide) (by decide) (fun f => rfl) (fun f => Nat.le_of_ble_eq_true rfl) ?_
    exact Vvret dX4_fail_28
  · refine Vaload_n dX4_fail_7 0 rfl 8 rfl ?_
    refine Vget (q) 8 dX4_fail_8 11 rfl (sI_ hF hq 0 (by decide)) (sk0 hq) rfl inX4 (by decide) wd_fl_RX4_50 (v := .int (σ q 8)) rfl ?_
    refine Viconst dX4_fail_11 (4 : Int32) (by decide) 12 rfl ?_
    refine Vicle (fun v => v) dX4_fail_12 29 15 (by decide) rfl (fun h2 => ?_) (fun h2 => ?_)
    · refine Vaload_n dX4_fail_29 0 rfl 30 rfl ?_
      refine Vdupa dX4_fail_30 31 rfl ?_
      refine Vget (q) 8 dX4_fail_31 34 rfl (sI_ hF hq 0 (by decide)) (sk0 hq) rfl inX4 (by decide) wd_fl_RX4_50 (v := .int (σ q 8)) rfl ?_
      refine Viconst dX4_fail_34 (1 : Int32) (by decide) 35 rfl ?_
      refine Visub dX4_fail_35 36 rfl ?_
      refine Vput (q) 8 tyX4 dX4_fail_36 39 rfl (sI_ hF hq 0 (by decide)) (sk0 hq) rfl inX4 tyX4_ok nmX4 (by decide) wd_fl_RX4_50 rfl (ty := .int) (by decide +kernel) rfl rfl (fun f => rfl) (fun f => Nat.le_of_ble_eq_true rfl) ?_
      refine Vaload_n dX4_fail_39 0 rfl 40 rfl ?_
      refine Vget (q) 8 dX4_fail_40 43 rfl (sI_ hF hq 0 (by decide)) (sk0 hq) rfl inX4 (by decide) wd_fl_RX4_50 (v := .int ((σ q 8) - (1 : Int32))) (by simp [oV, st2]) ?_
      refine Vaload_n dX4_fail_43 0 rfl 44 rfl ?_
      refine Vget (q) 9 dX4_fail_44 47 rfl (sI_ hF hq 0 (by decide)) (sk0 hq) rfl inX4 (by decide) wd_fl_RX4_33 (v := .ref (ad G (q + 7))) rfl ?_
      refine VgetN (q + 7) 2 dX4_fail_47 50 rfl (sI_ hF hq 7 (by decide)) (sk7 hq) rfl inX0 (by decide) wd_nfl_RX4_98 (v := .int (σ (q + 7) 2)) (by simp [oV, st2]) ?_
      refine Vicge (fun v => v) dX4_fail_50 61 53 (by decide) rfl (fun h3 => ?_) (fun h3 => ?_)
      · refine Vaload_n dX4_fail_61 0 rfl 62 rfl ?_
        refine Viconst dX4_fail_62 (0 : Int32) (by decide) 63 rfl ?_
        refine Vload_n dX4_fail_63 1 rfl 64 rfl ?_
        refine Vgen ?_
        intro u4 eu4
        refine VcVv (u := u4) dX4_fail_64 [.int (0 : Int32), .int x1] (by rw [eu4]; exact c_X4_keep l hF (st2 σ q 8 ((σ q 8) - (1 : Int32))) q (0 : Int32) x1 hq) mw_X4_keep wd_im_yX4_keep wd_se_yX4_keep wd_ml_RX4_73 (sI_ hF hq 0 (by decide)) (sk0 hq) rfl rfl (by decide) rfl rfl (Nat.le_of_ble_eq_true rfl) 67 rfl ?_
        have hk8 : u4.2 q 8 = σ q 8 - 1 := by rw [eu4, keep_q8]; simp [st2]
        refine Vaload_n dX4_fail_67 0 rfl 68 rfl ?_
        refine Vaload_n dX4_fail_68 0 rfl 69 rfl ?_
        refine Vget (q) 7 dX4_fail_69 72 rfl (sI_ hF hq 0 (by decide)) (sk0 hq) rfl inX4 (by decide) wd_fl_RX4_27 (v := .ref (ad G (q + 6))) rfl ?_
        refine Vaload_n dX4_fail_72 0 rfl 73 rfl ?_
        refine Vget (q) 8 dX4_fail_73 76 rfl (sI_ hF hq 0 (by decide)) (sk0 hq) rfl inX4 (by decide) wd_fl_RX4_50 (v := .int (u4.2 q 8)) rfl ?_
        refine Vld dX4_fail_76 77 rfl (sI_ hF hq 6 (by decide)) (sk6 hq) (sn6 hq) hF.2.1 (by rw [hk8]; exact trys_in (by assumption) (by assumption)) ?_
        refine Vput (q) 10 tyX4 dX4_fail_77 80 rfl (sI_ hF hq 0 (by decide)) (sk0 hq) rfl inX4 tyX4_ok nmX4 (by decide) wd_fl_RX4_57 rfl (ty := .int) (by decide +kernel) rfl rfl (fun f => rfl) (fun f => Nat.le_of_ble_eq_true rfl) ?_
        exact Vvret dX4_fail_80
      · refine Vaload_n dX4_fail_53 0 rfl 54 rfl ?_
        refine Vget (q) 9 dX4_fail_54 57 rfl (sI_ hF hq 0 (by decide)) (sk0 hq) rfl inX4 (by decide) wd_fl_RX4_33 (v := .ref (ad G (q + 7))) rfl ?_
        refine Viconst dX4_fail_57 (0 : Int32) (by decide) 58 rfl ?_
        refine VputN (q + 7) 0 tyX0 dX4_fail_58 61 rfl (sI_ hF hq 7 (by decide)) (sk7 hq) rfl inX0 tyX0_ok nmX0 (by decide) wd_nfl_RX4_53 rfl (ty := .boolean) (by decide +kernel) (by decide) (by decide) (fun f => rfl) (fun f => Nat.le_of_ble_eq_true rfl) ?_
        refine Vaload_n dX4_fail_61 0 rfl 62 rfl ?_
        refine Viconst dX4_fail_62 (0 : Int32) (by decide) 63 rfl ?_
        refine Vload_n dX4_fail_63 1 rfl 64 rfl ?_
        refine Vgen ?_
        intro u5 eu5
        refine VcVv (u := u5) dX4_fail_64 [.int (0 : Int32), .int x1] (by rw [eu5]; exact c_X4_keep l hF (st2 (st2 σ q 8 ((σ q 8) - (1 : Int32))) (q + 7) 0 (0 : Int32)) q (0 : Int32) x1 hq) mw_X4_keep wd_im_yX4_keep wd_se_yX4_keep wd_ml_RX4_73 (sI_ hF hq 0 (by decide)) (sk0 hq) rfl rfl (by decide) rfl rfl (Nat.le_of_ble_eq_true rfl) 67 rfl ?_
        have hk8 : u5.2 q 8 = σ q 8 - 1 := by rw [eu5, keep_q8]; simp [st2]
        refine Vaload_n dX4_fail_67 0 rfl 68 rfl ?_
        refine Vaload_n dX4_fail_68 0 rfl 69 rfl ?_
        refine Vget (q) 7 dX4_fail_69 72 rfl (sI_ hF hq 0 (by decide)) (sk0 hq) rfl inX4 (by decide) wd_fl_RX4_27 (v := .ref (ad G (q + 6))) rfl ?_
        refine Vaload_n dX4_fail_72 0 rfl 73 rfl ?_
        refine Vget (q) 8 dX4_fail_73 76 rfl (sI_ hF hq 0 (by decide)) (sk0 hq) rfl inX4 (by decide) wd_fl_RX4_50 (v := .int (u5.2 q 8)) rfl ?_
        refine Vld dX4_fail_76 77 rfl (sI_ hF hq 6 (by decide)) (sk6 hq) (sn6 hq) hF.2.1 (by rw [hk8]; exact trys_in (by assumption) (by assumption)) ?_
        refine Vput (q) 10 tyX4 dX4_fail_77 80 rfl (sI_ hF hq 0 (by decide)) (sk0 hq) rfl inX4 tyX4_ok nmX4 (by decide) wd_fl_RX4_57 rfl (ty := .int) (by decide +kernel) rfl rfl (fun f => rfl) (fun f => Nat.le_of_ble_eq_true rfl) ?_
        exact Vvret dX4_fail_80
    · refine Vaload_n dX4_fail_15 0 rfl 16 rfl ?_
      refine Vload_n dX4_fail_16 1 rfl 17 rfl ?_
      refine Vput (q) 12 tyX4 dX4_fail_17 20 rfl (sI_ hF hq 0 (by decide)) (sk0 hq) rfl inX4 tyX4_ok nmX4 (by decide) wd_fl_RX4_60 rfl (ty := .int) (by decide +kernel) rfl rfl (fun f => rfl) (fun f => Nat.le_of_ble_eq_true rfl) ?_
      refine Vaload_n dX4_fail_20 0 rfl 21 rfl ?_
      refine Vget (q) 9 dX4_fail_21 24 rfl (sI_ hF hq 0 (by decide)) (sk0 hq) rfl inX4 (by decide) wd_fl_RX4_33 (v := .ref (ad G (q + 7))) rfl ?_
      refine Viconst dX4_fail_24 (0 : Int32) (by decide) 25 rfl ?_
      refine VputN (q + 7) 0 tyX0 dX4_fail_25 28 rfl (sI_ hF hq 7 (by decide)) (sk7 hq) rfl inX0 tyX0_ok nmX0 (by decide) wd_nfl_RX4_53 rfl (ty := .boolean) (by decide +kernel) (by decide) (by decide) (fun f => rfl) (fun f => Nat.le_of_ble_eq_true rfl) ?_
      exact Vvret dX4_fail_28
end
section
def f_X5_strandOf (x1 : Int32) : Int32 := (if x1 < 0 then -1 else (if (3 : Int32) ≤ x1 then -1 else x1))
theorem mw_X5_strandOf : mW yX5_strandOf cX5_strandOf 2 (some (.object "MutableCells$Strand")) 1 := ⟨wd_co_yX5_strandOf, wd_ini_RX5, ⟨by decide, by decide⟩, by decide +kernel, by decide⟩
set_option maxRecDepth 100000 in
set_option maxHeartbeats 4000000 in
theorem c_X5_strandOf (l : Launch) {G : gT} (hF : Full G) (σ : mS) (x1 : Int32)  : Ct l G yX5_strandOf cX5_strandOf 2 (some (.object "MutableCells$Strand")) 0 [.ref (ad G 0), .int x1] (κR G) σ (f_X5_strandOf x1, σ) := by
  refine Ct.ofV [(0, .ref (ad G 0)), (1, .int x1)] rfl (by decide) (Nat.le_of_ble_eq_true rfl) rfl (fun X => ?_)
  unfold f_X5_strandOf
  refine Vload_n dX5_strandOf_0 1 rfl 1 rfl ?_
  refine Viflt (fun v => (v, σ)) dX5_strandOf_1 22 4 (by decide) rfl (fun h1 => ?_) (fun h1 => ?_)
  · refine Vnull dX5_strandOf_22 23 rfl ?_
    exact VaretN dX5_strandOf_23
  · refine Vload_n dX5_strandOf_4 1 rfl 5 rfl ?_
    refine Vaload_n dX5_strandOf_5 0 rfl 6 rfl ?_
    refine Vget (0) 2 dX5_strandOf_6 9 rfl (hF.1 0 (by decide)) wk0 rfl inX5 (by decide) wd_fl_RX5_25 (v := .ref (ad G 13)) rfl ?_
    refine Vlens dX5_strandOf_9 10 rfl (hF.1 13 (by decide)) hF.2.2.2 ?_
    refine Vicge (fun v => (v, σ)) dX5_strandOf_10 22 13 (by decide) rfl (fun h2 => ?_) (fun h2 => ?_)
    · refine Vnull dX5_strandOf_22 23 rfl ?_
      exact VaretN dX5_strandOf_23
    · refine Vaload_n dX5_strandOf_13 0 rfl 14 rfl ?_
      refine Vget (0) 2 dX5_strandOf_14 17 rfl (hF.1 0 (by decide)) wk0 rfl inX5 (by decide) wd_fl_RX5_25 (v := .ref (ad G 13)) rfl ?_
      refine Vload_n dX5_strandOf_17 1 rfl 18 rfl ?_
      refine Vlds dX5_strandOf_18 19 rfl (hF.1 13 (by decide)) hF.2.2.2 (by first | exact (by assumption) | exact (vin_cmp2 (by assumption) (by assumption) (by decide)) | exact (vin_cell (by assumption)) | exact (vin_reg (by assumption)) | exact (vin_row (by assumption)) | exact (vin_cnt (by assumption) (by assumption) (by decide) (by decide) (by assumption)) | exact (vin_cmp (by assumption) (by assumption) (by decide)) | exact (vp_in_iff.mpr (by decide))) ?_
      refine Vgoto dX5_strandOf_19 23 (by decide) ?_
      exact Varet dX5_strandOf_23 ((sI x1)) (κR_pos (by assumption))
theorem sq_strandOf {x : Int32} (h : ¬ f_X5_strandOf x = -1) : sQ (sI (f_X5_strandOf x)) := by
  unfold f_X5_strandOf at h ⊢
  by_cases h1 : x < 0
  · rw [if_pos h1] at h; exact absurd rfl h
  · rw [if_neg h1] at h ⊢
    by_cases h2 : (3 : Int32) ≤ x
    · rw [if_pos h2] at h; exact absurd rfl h
    · rw [if_neg h2]; exact sQ_cmp h1 h2
def f_X5_isPlace (x0 : Int32) : Int32 := (if x0 < 0 then (0 : Int32) else (if (24 : Int32) < x0 then (0 : Int32) else (1 : Int32)))
theorem mw_X5_isPlace : mW yX5_isPlace cX5_isPlace 1 (some .boolean) 1 := ⟨wd_co_yX5_isPlace, wd_ini_RX5, ⟨by decide, by decide⟩, by decide +kernel, by decide⟩
set_option maxRecDepth 100000 in
set_option maxHeartbeats 4000000 in
theorem c_X5_isPlace (l : Launch) {G : gT} (hF : Full G) (σ : mS) (x0 : Int32)  : Ct l G yX5_isPlace cX5_isPlace 1 (some .boolean) 0 [.int x0] κI σ (f_X5_isPlace x0, σ) := by
  refine Ct.ofV [(0, .int x0)] rfl (by decide) (Nat.le_of_ble_eq_true rfl) rfl (fun X => ?_)
  unfold f_X5_isPlace
  refine Vload_n dX5_isPlace_0 0 rfl 1 rfl ?_
  refine Viflt (fun v => (v, σ)) dX5_isPlace_1 14 4 (by decide) rfl (fun h1 => ?_) (fun h1 => ?_)
  · refine Viconst dX5_isPlace_14 (0 : Int32) (by decide) 15 rfl ?_
    exact Vzret dX5_isPlace_15 (by first | decide | exact nb_isRegister _ | exact nb_isRow _ | exact nb_isPlace _ | exact nb_within _ _ _ | exact nb_mRegister _ | exact nb_mCell _ | exact nb_mPlace _)
  · refine Vload_n dX5_isPlace_4 0 rfl 5 rfl ?_
    refine Vbipush dX5_isPlace_5 (24 : Int32) (by decide) 7 rfl ?_
    refine Vicgt (fun v => (v, σ)) dX5_isPlace_7 14 10 (by decide) rfl (fun h2 => ?_) (fun h2 => ?_)
    · refine Viconst dX5_isPlace_14 (0 : Int32) (by decide) 15 rfl ?_
      exact Vzret dX5_isPlace_15 (by first | decide | exact nb_isRegister _ | exact nb_isRow _ | exact nb_isPlace _ | exact nb_within _ _ _ | exact nb_mRegister _ | exact nb_mCell _ | exact nb_mPlace _)
    · refine Viconst dX5_isPlace_10 (1 : Int32) (by decide) 11 rfl ?_
      refine Vgoto dX5_isPlace_11 15 (by decide) ?_
      exact Vzret dX5_isPlace_15 (by first | decide | exact nb_isRegister _ | exact nb_isRow _ | exact nb_isPlace _ | exact nb_within _ _ _ | exact nb_mRegister _ | exact nb_mCell _ | exact nb_mPlace _)
theorem nb_isPlace (x : Int32) : narrow .boolean (.int (f_X5_isPlace x)) = .int (f_X5_isPlace x) := by unfold f_X5_isPlace; (repeat' split) <;> rfl
def f_X5_mayBe (x0 : Int32) (x1 : Int32) (x2 : Int32) (x3 : Int32) : Int32 := (if x0 = (0 : Int32) then (f_X5_isRegister x1) else (if x0 = (1 : Int32) then (if (f_X5_isRegister x1) = 0 then (0 : Int32) else (if (f_X5_isCell x2) = 0 then (0 : Int32) else (1 : Int32))) else (if x0 = (2 : Int32) then (if (f_X5_isCell x1) = 0 then (0 : Int32) else (if (f_X5_isRegister x2) = 0 then (0 : Int32) else (1 : Int32))) else (if x0 = (3 : Int32) then (if (f_X5_isRegister x1) = 0 then (0 : Int32) else (if (f_X5_isRegister x2) = 0 then (0 : Int32) else (if (f_X5_isRegister x3) = 0 then (0 : Int32) else (1 : Int32)))) else (if x0 = (4 : Int32) then (if (f_X5_isRegister x1) = 0 then (0 : Int32) else (if (f_X5_isRegister x2) = 0 then (0 : Int32) else (if (f_X5_isRegister x3) = 0 then (0 : Int32) else (1 : Int32)))) else (if x0 = (5 : Int32) then (if (f_X5_isRegister x1) = 0 then (0 : Int32) else (if (f_X5_isRegister x2) = 0 then (0 : Int32) else (if (f_X5_isRegister x3) = 0 then (0 : Int32) else (1 : Int32)))) else (if x0 = (6 : Int32) then (if (f_X5_isRegister x1) = 0 then (0 : Int32) else (if (f_X5_isRegister x2) = 0 then (0 : Int32) else (if (f_X5_isRegister x3) = 0 then (0 : Int32) else (1 : Int32)))) else (if x0 = (7 : Int32) then (if (f_X5_isRegister x1) = 0 then (0 : Int32) else (if (f_X5_isRow x2) = 0 then (0 : Int32) else (if (f_X5_isRegister x3) = 0 then (0 : Int32) else (1 : Int32)))) else (if x0 = (8 : Int32) then (if (f_X5_isRow x1) = 0 then (0 : Int32) else (if (f_X5_isRegister x2) = 0 then (0 : Int32) else (if (f_X5_isRegister x3) = 0 then (0 : Int32) else (1 : Int32)))) else (if x0 = (9 : Int32) then (if (f_X5_isCell x1) = 0 then (0 : Int32) else (if (f_X5_isRegister x2) = 0 then (0 : Int32) else (if (f_X5_isRegister x3) = 0 then (0 : Int32) else (1 : Int32)))) else (if x0 = (10 : Int32) then (f_X5_isPlace x1) else (if x0 = (11 : Int32) then (if (f_X5_isRegister x1) = 0 then (0 : Int32) else (if (f_X5_isPlace x2) = 0 then (0 : Int32) else (1 : Int32))) else (if x0 = (12 : Int32) then (1 : Int32) else (if x0 = (13 : Int32) then (1 : Int32) else (if x0 = (14 : Int32) then (f_X5_isPlace x1) else (if x0 = (15 : Int32) then (1 : Int32) else (if x0 = (16 : Int32) then (f_X5_isRegister x1) else (if x0 = (17 : Int32) then (if (f_X5_isRow x1) = 0 then (0 : Int32) else (if (f_X5_isRegister x2) = 0 then (0 : Int32) else (1 : Int32))) else (if x0 = (18 : Int32) then (f_X5_isRow x1) else (if x0 = (19 : Int32) then (if (f_X5_isCell x1) = 0 then (0 : Int32) else (if (f_X5_isCell x2) = 0 then (0 : Int32) else (1 : Int32))) else (0 : Int32)))))))))))))))))))))
theorem mw_X5_mayBe : mW yX5_mayBe cX5_mayBe 4 (some .boolean) 4 := ⟨wd_co_yX5_mayBe, wd_ini_RX5, ⟨by decide, by decide⟩, by decide +kernel, by decide⟩
set_option maxRecDepth 100000 in
set_option maxHeartbeats 4000000 in
theorem c_X5_mayBe (l : Launch) {G : gT} (hF : Full G) (σ : mS) (x0 : Int32) (x1 : Int32) (x2 : Int32) (x3 : Int32)  : Ct l G yX5_mayBe cX5_mayBe 4 (some .boolean) 1 [.int x0, .int x1, .int x2, .int x3] κI σ (f_X5_mayBe x0 x1 x2 x3, σ) := by
  refine Ct.ofV [(0, .int x0), (1, .int x1), (2, .int x2), (3, .int x3)] rfl (by decide) (Nat.le_of_ble_eq_true rfl) rfl (fun X => ?_)
  unfold f_X5_mayBe
  refine Vload_n dX5_mayBe_0 0 rfl 1 rfl ?_
  refine Vif (fun v => (v, σ)) (fun h1 => ?_) (fun h1 => ?_)
  · refine Vswin dX5_mayBe_1 96 (by rw [h1]; decide) (by rw [h1]; decide) (off := 95) (by rw [h1]; rfl) (by decide) ?_
    refine Vload_n dX5_mayBe_96 1 rfl 97 rfl ?_
    refine VcSp dX5_mayBe_97 [.int x1] (c_X5_isRegister l hF σ x1) mw_X5_isRegister wd_sm_yX5_isRegister wd_ml_RX5_87 (by decide) rfl rfl (Nat.le_of_ble_eq_true rfl) 100 rfl ?_
    exact Vzret dX5_mayBe_100 (by first | decide | exact nb_isRegister _ | exact nb_isRow _ | exact nb_isPlace _ | exact nb_within _ _ _ | exact nb_mRegister _ | exact nb_mCell _ | exact nb_mPlace _)
  refine Vif (fun v => (v, σ)) (fun h2 => ?_) (fun h2 => ?_)
  · refine Vswin dX5_mayBe_1 101 (by rw [h2]; decide) (by rw [h2]; decide) (off := 100) (by rw [h2]; rfl) (by decide) ?_
    refine Vload_n dX5_mayBe_101 1 rfl 102 rfl ?_
    refine VcSp dX5_mayBe_102 [.int x1] (c_X5_isRegister l hF σ x1) mw_X5_isRegister wd_sm_yX5_isRegister wd_ml_RX5_87 (by decide) rfl rfl (Nat.le_of_ble_eq_true rfl) 105 rfl ?_
    refine Vifeq (fun v => (v, σ)) dX5_mayBe_105 119 108 (by decide) rfl (fun h3 => ?_) (fun h3 => ?_)
    · refine Viconst dX5_mayBe_119 (0 : Int32) (by decide) 120 rfl ?_
      exact Vzret dX5_mayBe_120 (by first | decide | exact nb_isRegister _ | exact nb_isRow _ | exact nb_isPlace _ | exact nb_within _ _ _ | exact nb_mRegister _ | exact nb_mCell _ | exact nb_mPlace _)
    · refine Vload_n dX5_mayBe_108 2 rfl 109 rfl ?_
      refine VcSp dX5_mayBe_109 [.int x2] (c_X5_isCell l hF σ x2) mw_X5_isCell wd_sm_yX5_isCell wd_ml_RX5_95 (by decide) rfl rfl (Nat.le_of_ble_eq_true rfl) 112 rfl ?_
      refine Vifeq (fun v => (v, σ)) dX5_mayBe_112 119 115 (by decide) rfl (fun h4 => ?_) (fun h4 => ?_)
      · refine Viconst dX5_mayBe_119 (0 : Int32) (by decide) 120 rfl ?_
        exact Vzret dX5_mayBe_120 (by first | decide | exact nb_isRegister _ | exact nb_isRow _ | exact nb_isPlace _ | exact nb_within _ _ _ | exact nb_mRegister _ | exact nb_mCell _ | exact nb_mPlace _)
      · refine Viconst dX5_mayBe_115 (1 : Int32) (by decide) 116 rfl ?_
        refine Vgoto dX5_mayBe_116 120 (by decide) ?_
        exact Vzret dX5_mayBe_120 (by first | decide | exact nb_isRegister _ | exact nb_isRow _ | exact nb_isPlace _ | exact nb_within _ _ _ | exact nb_mRegister _ | exact nb_mCell _ | exact nb_mPlace _)
  refine Vif (fun v => (v, σ)) (fun h5 => ?_) (fun h5 => ?_)
  · refine Vswin dX5_mayBe_1 121 (by rw [h5]; decide) (by rw [h5]; decide) (off := 120) (by rw [h5]; rfl) (by decide) ?_
    refine Vload_n dX5_mayBe_121 1 rfl 122 rfl ?_
    refine VcSp dX5_mayBe_122 [.int x1] (c_X5_isCell l hF σ x1) mw_X5_isCell wd_sm_yX5_isCell wd_ml_RX5_95 (by decide) rfl rfl (Nat.le_of_ble_eq_true rfl) 125 rfl ?_
    refine Vifeq (fun v => (v, σ)) dX5_mayBe_125 139 128 (by decide) rfl (fun h6 => ?_) (fun h6 => ?_)
    · refine Viconst dX5_mayBe_139 (0 : Int32) (by decide) 140 rfl ?_
      exact Vzret dX5_mayBe_140 (by first | decide | exact nb_isRegister _ | exact nb_isRow _ | exact nb_isPlace _ | exact nb_within _ _ _ | exact nb_mRegister _ | exact nb_mCell _ | exact nb_mPlace _)
    · refine Vload_n dX5_mayBe_128 2 rfl 129 rfl ?_
      refine VcSp dX5_mayBe_129 [.int x2] (c_X5_isRegister l hF σ x2) mw_X5_isRegister wd_sm_yX5_isRegister wd_ml_RX5_87 (by decide) rfl rfl (Nat.le_of_ble_eq_true rfl) 132 rfl ?_
      refine Vifeq (fun v => (v, σ)) dX5_mayBe_132 139 135 (by decide) rfl (fun h7 => ?_) (fun h7 => ?_)
      · refine Viconst dX5_mayBe_139 (0 : Int32) (by decide) 140 rfl ?_
        exact Vzret dX5_mayBe_140 (by first | decide | exact nb_isRegister _ | exact nb_isRow _ | exact nb_isPlace _ | exact nb_within _ _ _ | exact nb_mRegister _ | exact nb_mCell _ | exact nb_mPlace _)
      · refine Viconst dX5_mayBe_135 (1 : Int32) (by decide) 136 rfl ?_
        refine Vgoto dX5_mayBe_136 140 (by decide) ?_
        exact Vzret dX5_mayBe_140 (by first | decide | exact nb_isRegister _ | exact nb_isRow _ | exact nb_isPlace _ | exact nb_within _ _ _ | exact nb_mRegister _ | exact nb_mCell _ | exact nb_mPlace _)
  refine Vif (fun v => (v, σ)) (fun h8 => ?_) (fun h8 => ?_)
  · refine Vswin dX5_mayBe_1 141 (by rw [h8]; decide) (by rw [h8]; decide) (off := 140) (by rw [h8]; rfl) (by decide) ?_
    refine Vload_n dX5_mayBe_141 1 rfl 142 rfl ?_
    refine VcSp dX5_mayBe_142 [.int x1] (c_X5_isRegister l hF σ x1) mw_X5_isRegister wd_sm_yX5_isRegister wd_ml_RX5_87 (by decide) rfl rfl (Nat.le_of_ble_eq_true rfl) 145 rfl ?_
    refine Vifeq (fun v => (v, σ)) dX5_mayBe_145 166 148 (by decide) rfl (fun h9 => ?_) (fun h9 => ?_)
    · refine Viconst dX5_mayBe_166 (0 : Int32) (by decide) 167 rfl ?_
      exact Vzret dX5_mayBe_167 (by first | decide | exact nb_isRegister _ | exact nb_isRow _ | exact nb_isPlace _ | exact nb_within _ _ _ | exact nb_mRegister _ | exact nb_mCell _ | exact nb_mPlace _)
    · refine Vload_n dX5_mayBe_148 2 rfl 149 rfl ?_
      refine VcSp dX5_mayBe_149 [.int x2] (c_X5_isRegister l hF σ x2) mw_X5_isRegister wd_sm_yX5_isRegister wd_ml_RX5_87 (by decide) rfl rfl (Nat.le_of_ble_eq_true rfl) 152 rfl ?_
      refine Vifeq (fun v => (v, σ)) dX5_mayBe_152 166 155 (by decide) rfl (fun h10 => ?_) (fun h10 => ?_)
      · refine Viconst dX5_mayBe_166 (0 : Int32) (by decide) 167 rfl ?_
        exact Vzret dX5_mayBe_167 (by first | decide | exact nb_isRegister _ | exact nb_isRow _ | exact nb_isPlace _ | exact nb_within _ _ _ | exact nb_mRegister _ | exact nb_mCell _ | exact nb_mPlace _)
      · refine Vload_n dX5_mayBe_155 3 rfl 156 rfl ?_
        refine VcSp dX5_mayBe_156 [.int x3] (c_X5_isRegister l hF σ x3) mw_X5_isRegister wd_sm_yX5_isRegister wd_ml_RX5_87 (by decide) rfl rfl (Nat.le_of_ble_eq_true rfl) 159 rfl ?_
        refine Vifeq (fun v => (v, σ)) dX5_mayBe_159 166 162 (by decide) rfl (fun h11 => ?_) (fun h11 => ?_)
        · refine Viconst dX5_mayBe_166 (0 : Int32) (by decide) 167 rfl ?_
          exact Vzret dX5_mayBe_167 (by first | decide | exact nb_isRegister _ | exact nb_isRow _ | exact nb_isPlace _ | exact nb_within _ _ _ | exact nb_mRegister _ | exact nb_mCell _ | exact nb_mPlace _)
        · refine Viconst dX5_mayBe_162 (1 : Int32) (by decide) 163 rfl ?_
          refine Vgoto dX5_mayBe_163 167 (by decide) ?_
          exact Vzret dX5_mayBe_167 (by first | decide | exact nb_isRegister _ | exact nb_isRow _ | exact nb_isPlace _ | exact nb_within _ _ _ | exact nb_mRegister _ | exact nb_mCell _ | exact nb_mPlace _)
  refine Vif (fun v => (v, σ)) (fun h12 => ?_) (fun h12 => ?_)
  · refine Vswin dX5_mayBe_1 141 (by rw [h12]; decide) (by rw [h12]; decide) (off := 140) (by rw [h12]; rfl) (by decide) ?_
    refine Vload_n dX5_mayBe_141 1 rfl 142 rfl ?_
    refine VcSp dX5_mayBe_142 [.int x1] (c_X5_isRegister l hF σ x1) mw_X5_isRegister wd_sm_yX5_isRegister wd_ml_RX5_87 (by decide) rfl rfl (Nat.le_of_ble_eq_true rfl) 145 rfl ?_
    refine Vifeq (fun v => (v, σ)) dX5_mayBe_145 166 148 (by decide) rfl (fun h13 => ?_) (fun h13 => ?_)
    · refine Viconst dX5_mayBe_166 (0 : Int32) (by decide) 167 rfl ?_
      exact Vzret dX5_mayBe_167 (by first | decide | exact nb_isRegister _ | exact nb_isRow _ | exact nb_isPlace _ | exact nb_within _ _ _ | exact nb_mRegister _ | exact nb_mCell _ | exact nb_mPlace _)
    · refine Vload_n dX5_mayBe_148 2 rfl 149 rfl ?_
      refine VcSp dX5_mayBe_149 [.int x2] (c_X5_isRegister l hF σ x2) mw_X5_isRegister wd_sm_yX5_isRegister wd_ml_RX5_87 (by decide) rfl rfl (Nat.le_of_ble_eq_true rfl) 152 rfl ?_
      refine Vifeq (fun v => (v, σ)) dX5_mayBe_152 166 155 (by decide) rfl (fun h14 => ?_) (fun h14 => ?_)
      · refine Viconst dX5_mayBe_166 (0 : Int32) (by decide) 167 rfl ?_
        exact Vzret dX5_mayBe_167 (by first | decide | exact nb_isRegister _ | exact nb_isRow _ | exact nb_isPlace _ | exact nb_within _ _ _ | exact nb_mRegister _ | exact nb_mCell _ | exact nb_mPlace _)
      · refine Vload_n dX5_mayBe_155 3 rfl 156 rfl ?_
        refine VcSp dX5_mayBe_156 [.int x3] (c_X5_isRegister l hF σ x3) mw_X5_isRegister wd_sm_yX5_isRegister wd_ml_RX5_87 (by decide) rfl rfl (Nat.le_of_ble_eq_true rfl) 159 rfl ?_
        refine Vifeq (fun v => (v, σ)) dX5_mayBe_159 166 162 (by decide) rfl (fun h15 => ?_) (fun h15 => ?_)
        · refine Viconst dX5_mayBe_166 (0 : Int32) (by decide) 167 rfl ?_
          exact Vzret dX5_mayBe_167 (by first | decide | exact nb_isRegister _ | exact nb_isRow _ | exact nb_isPlace _ | exact nb_within _ _ _ | exact nb_mRegister _ | exact nb_mCell _ | exact nb_mPlace _)
        · refine Viconst dX5_mayBe_162 (1 : Int32) (by decide) 163 rfl ?_
          refine Vgoto dX5_mayBe_163 167 (by decide) ?_
          exact Vzret dX5_mayBe_167 (by first | decide | exact nb_isRegister _ | exact nb_isRow _ | exact nb_isPlace _ | exact nb_within _ _ _ | exact nb_mRegister _ | exact nb_mCell _ | exact nb_mPlace _)
  refine Vif (fun v => (v, σ)) (fun h16 => ?_) (fun h16 => ?_)
  · refine Vswin dX5_mayBe_1 141 (by rw [h16]; decide) (by rw [h16]; decide) (off := 140) (by rw [h16]; rfl) (by decide) ?_
    refine Vload_n dX5_mayBe_141 1 rfl 142 rfl ?_
    refine VcSp dX5_mayBe_142 [.int x1] (c_X5_isRegister l hF σ x1) mw_X5_isRegister wd_sm_yX5_isRegister wd_ml_RX5_87 (by decide) rfl rfl (Nat.le_of_ble_eq_true rfl) 145 rfl ?_
    refine Vifeq (fun v => (v, σ)) dX5_mayBe_145 166 148 (by decide) rfl (fun h17 => ?_) (fun h17 => ?_)
    · refine Viconst dX5_mayBe_166 (0 : Int32) (by decide) 167 rfl ?_
      exact Vzret dX5_mayBe_167 (by first | decide | exact nb_isRegister _ | exact nb_isRow _ | exact nb_isPlace _ | exact nb_within _ _ _ | exact nb_mRegister _ | exact nb_mCell _ | exact nb_mPlace _)
    · refine Vload_n dX5_mayBe_148 2 rfl 149 rfl ?_
      refine VcSp dX5_mayBe_149 [.int x2] (c_X5_isRegister l hF σ x2) mw_X5_isRegister wd_sm_yX5_isRegister wd_ml_RX5_87 (by decide) rfl rfl (Nat.le_of_ble_eq_true rfl) 152 rfl ?_
      refine Vifeq (fun v => (v, σ)) dX5_mayBe_152 166 155 (by decide) rfl (fun h18 => ?_) (fun h18 => ?_)
      · refine Viconst dX5_mayBe_166 (0 : Int32) (by decide) 167 rfl ?_
        exact Vzret dX5_mayBe_167 (by first | decide | exact nb_isRegister _ | exact nb_isRow _ | exact nb_isPlace _ | exact nb_within _ _ _ | exact nb_mRegister _ | exact nb_mCell _ | exact nb_mPlace _)
      · refine Vload_n dX5_mayBe_155 3 rfl 156 rfl ?_
        refine VcSp dX5_mayBe_156 [.int x3] (c_X5_isRegister l hF σ x3) mw_X5_isRegister wd_sm_yX5_isRegister wd_ml_RX5_87 (by decide) rfl rfl (Nat.le_of_ble_eq_true rfl) 159 rfl ?_
        refine Vifeq (fun v => (v, σ)) dX5_mayBe_159 166 162 (by decide) rfl (fun h19 => ?_) (fun h19 => ?_)
        · refine Viconst dX5_mayBe_166 (0 : Int32) (by decide) 167 rfl ?_
          exact Vzret dX5_mayBe_167 (by first | decide | exact nb_isRegister _ | exact nb_isRow _ | exact nb_isPlace _ | exact nb_within _ _ _ | exact nb_mRegister _ | exact nb_mCell _ | exact nb_mPlace _)
        · refine Viconst dX5_mayBe_162 (1 : Int32) (by decide) 163 rfl ?_
          refine Vgoto dX5_mayBe_163 167 (by decide) ?_
          exact Vzret dX5_mayBe_167 (by first | decide | exact nb_isRegister _ | exact nb_isRow _ | exact nb_isPlace _ | exact nb_within _ _ _ | exact nb_mRegister _ | exact nb_mCell _ | exact nb_mPlace _)
  refine Vif (fun v => (v, σ)) (fun h20 => ?_) (fun h20 => ?_)
  · refine Vswin dX5_mayBe_1 141 (by rw [h20]; decide) (by rw [h20]; decide) (off := 140) (by rw [h20]; rfl) (by decide) ?_
    refine Vload_n dX5_mayBe_141 1 rfl 142 rfl ?_
    refine VcSp dX5_mayBe_142 [.int x1] (c_X5_isRegister l hF σ x1) mw_X5_isRegister wd_sm_yX5_isRegister wd_ml_RX5_87 (by decide) rfl rfl (Nat.le_of_ble_eq_true rfl) 145 rfl ?_
    refine Vifeq (fun v => (v, σ)) dX5_mayBe_145 166 148 (by decide) rfl (fun h21 => ?_) (fun h21 => ?_)
    · refine Viconst dX5_mayBe_166 (0 : Int32) (by decide) 167 rfl ?_
      exact Vzret dX5_mayBe_167 (by first | decide | exact nb_isRegister _ | exact nb_isRow _ | exact nb_isPlace _ | exact nb_within _ _ _ | exact nb_mRegister _ | exact nb_mCell _ | exact nb_mPlace _)
    · refine Vload_n dX5_mayBe_148 2 rfl 149 rfl ?_
      refine VcSp dX5_mayBe_149 [.int x2] (c_X5_isRegister l hF σ x2) mw_X5_isRegister wd_sm_yX5_isRegister wd_ml_RX5_87 (by decide) rfl rfl (Nat.le_of_ble_eq_true rfl) 152 rfl ?_
      refine Vifeq (fun v => (v, σ)) dX5_mayBe_152 166 155 (by decide) rfl (fun h22 => ?_) (fun h22 => ?_)
      · refine Viconst dX5_mayBe_166 (0 : Int32) (by decide) 167 rfl ?_
        exact Vzret dX5_mayBe_167 (by first | decide | exact nb_isRegister _ | exact nb_isRow _ | exact nb_isPlace _ | exact nb_within _ _ _ | exact nb_mRegister _ | exact nb_mCell _ | exact nb_mPlace _)
      · refine Vload_n dX5_mayBe_155 3 rfl 156 rfl ?_
        refine VcSp dX5_mayBe_156 [.int x3] (c_X5_isRegister l hF σ x3) mw_X5_isRegister wd_sm_yX5_isRegister wd_ml_RX5_87 (by decide) rfl rfl (Nat.le_of_ble_eq_true rfl) 159 rfl ?_
        refine Vifeq (fun v => (v, σ)) dX5_mayBe_159 166 162 (by decide) rfl (fun h23 => ?_) (fun h23 => ?_)
        · refine Viconst dX5_mayBe_166 (0 : Int32) (by decide) 167 rfl ?_
          exact Vzret dX5_mayBe_167 (by first | decide | exact nb_isRegister _ | exact nb_isRow _ | exact nb_isPlace _ | exact nb_within _ _ _ | exact nb_mRegister _ | exact nb_mCell _ | exact nb_mPlace _)
        · refine Viconst dX5_mayBe_162 (1 : Int32) (by decide) 163 rfl ?_
          refine Vgoto dX5_mayBe_163 167 (by decide) ?_
          exact Vzret dX5_mayBe_167 (by first | decide | exact nb_isRegister _ | exact nb_isRow _ | exact nb_isPlace _ | exact nb_within _ _ _ | exact nb_mRegister _ | exact nb_mCell _ | exact nb_mPlace _)
  refine Vif (fun v => (v, σ)) (fun h24 => ?_) (fun h24 => ?_)
  · refine Vswin dX5_mayBe_1 168 (by rw [h24]; decide) (by rw [h24]; decide) (off := 167) (by rw [h24]; rfl) (by decide) ?_
    refine Vload_n dX5_mayBe_168 1 rfl 169 rfl ?_
    refine VcSp dX5_mayBe_169 [.int x1] (c_X5_isRegister l hF σ x1) mw_X5_isRegister wd_sm_yX5_isRegister wd_ml_RX5_87 (by decide) rfl rfl (Nat.le_of_ble_eq_true rfl) 172 rfl ?_
    refine Vifeq (fun v => (v, σ)) dX5_mayBe_172 193 175 (by decide) rfl (fun h25 => ?_) (fun h25 => ?_)
    · refine Viconst dX5_mayBe_193 (0 : Int32) (by decide) 194 rfl ?_
      exact Vzret dX5_mayBe_194 (by first | decide | exact nb_isRegister _ | exact nb_isRow _ | exact nb_isPlace _ | exact nb_within _ _ _ | exact nb_mRegister _ | exact nb_mCell _ | exact nb_mPlace _)
    · refine Vload_n dX5_mayBe_175 2 rfl 176 rfl ?_
      refine VcSp dX5_mayBe_176 [.int x2] (c_X5_isRow l hF σ x2) mw_X5_isRow wd_sm_yX5_isRow wd_ml_RX5_104 (by decide) rfl rfl (Nat.le_of_ble_eq_true rfl) 179 rfl ?_
      refine Vifeq (fun v => (v, σ)) dX5_mayBe_179 193 182 (by decide) rfl (fun h26 => ?_) (fun h26 => ?_)
      · refine Viconst dX5_mayBe_193 (0 : Int32) (by decide) 194 rfl ?_
        exact Vzret dX5_mayBe_194 (by first | decide | exact nb_isRegister _ | exact nb_isRow _ | exact nb_isPlace _ | exact nb_within _ _ _ | exact nb_mRegister _ | exact nb_mCell _ | exact nb_mPlace _)
      · refine Vload_n dX5_mayBe_182 3 rfl 183 rfl ?_
        refine VcSp dX5_mayBe_183 [.int x3] (c_X5_isRegister l hF σ x3) mw_X5_isRegister wd_sm_yX5_isRegister wd_ml_RX5_87 (by decide) rfl rfl (Nat.le_of_ble_eq_true rfl) 186 rfl ?_
        refine Vifeq (fun v => (v, σ)) dX5_mayBe_186 193 189 (by decide) rfl (fun h27 => ?_) (fun h27 => ?_)
        · refine Viconst dX5_mayBe_193 (0 : Int32) (by decide) 194 rfl ?_
          exact Vzret dX5_mayBe_194 (by first | decide | exact nb_isRegister _ | exact nb_isRow _ | exact nb_isPlace _ | exact nb_within _ _ _ | exact nb_mRegister _ | exact nb_mCell _ | exact nb_mPlace _)
        · refine Viconst dX5_mayBe_189 (1 : Int32) (by decide) 190 rfl ?_
          refine Vgoto dX5_mayBe_190 194 (by decide) ?_
          exact Vzret dX5_mayBe_194 (by first | decide | exact nb_isRegister _ | exact nb_isRow _ | exact nb_isPlace _ | exact nb_within _ _ _ | exact nb_mRegister _ | exact nb_mCell _ | exact nb_mPlace _)
  refine Vif (fun v => (v, σ)) (fun h28 => ?_) (fun h28 => ?_)
  · refine Vswin dX5_mayBe_1 195 (by rw [h28]; decide) (by rw [h28]; decide) (off := 194) (by rw [h28]; rfl) (by decide) ?_
    refine Vload_n dX5_mayBe_195 1 rfl 196 rfl ?_
    refine VcSp dX5_mayBe_196 [.int x1] (c_X5_isRow l hF σ x1) mw_X5_isRow wd_sm_yX5_isRow wd_ml_RX5_104 (by decide) rfl rfl (Nat.le_of_ble_eq_true rfl) 199 rfl ?_
    refine Vifeq (fun v => (v, σ)) dX5_mayBe_199 220 202 (by decide) rfl (fun h29 => ?_) (fun h29 => ?_)
    · refine Viconst dX5_mayBe_220 (0 : Int32) (by decide) 221 rfl ?_
      exact Vzret dX5_mayBe_221 (by first | decide | exact nb_isRegister _ | exact nb_isRow _ | exact nb_isPlace _ | exact nb_within _ _ _ | exact nb_mRegister _ | exact nb_mCell _ | exact nb_mPlace _)
    · refine Vload_n dX5_mayBe_202 2 rfl 203 rfl ?_
      refine VcSp dX5_mayBe_203 [.int x2] (c_X5_isRegister l hF σ x2) mw_X5_isRegister wd_sm_yX5_isRegister wd_ml_RX5_87 (by decide) rfl rfl (Nat.le_of_ble_eq_true rfl) 206 rfl ?_
      refine Vifeq (fun v => (v, σ)) dX5_mayBe_206 220 209 (by decide) rfl (fun h30 => ?_) (fun h30 => ?_)
      · refine Viconst dX5_mayBe_220 (0 : Int32) (by decide) 221 rfl ?_
        exact Vzret dX5_mayBe_221 (by first | decide | exact nb_isRegister _ | exact nb_isRow _ | exact nb_isPlace _ | exact nb_within _ _ _ | exact nb_mRegister _ | exact nb_mCell _ | exact nb_mPlace _)
      · refine Vload_n dX5_mayBe_209 3 rfl 210 rfl ?_
        refine VcSp dX5_mayBe_210 [.int x3] (c_X5_isRegister l hF σ x3) mw_X5_isRegister wd_sm_yX5_isRegister wd_ml_RX5_87 (by decide) rfl rfl (Nat.le_of_ble_eq_true rfl) 213 rfl ?_
        refine Vifeq (fun v => (v, σ)) dX5_mayBe_213 220 216 (by decide) rfl (fun h31 => ?_) (fun h31 => ?_)
        · refine Viconst dX5_mayBe_220 (0 : Int32) (by decide) 221 rfl ?_
          exact Vzret dX5_mayBe_221 (by first | decide | exact nb_isRegister _ | exact nb_isRow _ | exact nb_isPlace _ | exact nb_within _ _ _ | exact nb_mRegister _ | exact nb_mCell _ | exact nb_mPlace _)
        · refine Viconst dX5_mayBe_216 (1 : Int32) (by decide) 217 rfl ?_
          refine Vgoto dX5_mayBe_217 221 (by decide) ?_
          exact Vzret dX5_mayBe_221 (by first | decide | exact nb_isRegister _ | exact nb_isRow _ | exact nb_isPlace _ | exact nb_within _ _ _ | exact nb_mRegister _ | exact nb_mCell _ | exact nb_mPlace _)
  refine Vif (fun v => (v, σ)) (fun h32 => ?_) (fun h32 => ?_)
  · refine Vswin dX5_mayBe_1 222 (by rw [h32]; decide) (by rw [h32]; decide) (off := 221) (by rw [h32]; rfl) (by decide) ?_
    refine Vload_n dX5_mayBe_222 1 rfl 223 rfl ?_
    refine VcSp dX5_mayBe_223 [.int x1] (c_X5_isCell l hF σ x1) mw_X5_isCell wd_sm_yX5_isCell wd_ml_RX5_95 (by decide) rfl rfl (Nat.le_of_ble_eq_true rfl) 226 rfl ?_
    refine Vifeq (fun v => (v, σ)) dX5_mayBe_226 247 229 (by decide) rfl (fun h33 => ?_) (fun h33 => ?_)
    · refine Viconst dX5_mayBe_247 (0 : Int32) (by decide) 248 rfl ?_
      exact Vzret dX5_mayBe_248 (by first | decide | exact nb_isRegister _ | exact nb_isRow _ | exact nb_isPlace _ | exact nb_within _ _ _ | exact nb_mRegister _ | exact nb_mCell _ | exact nb_mPlace _)
    · refine Vload_n dX5_mayBe_229 2 rfl 230 rfl ?_
      refine VcSp dX5_mayBe_230 [.int x2] (c_X5_isRegister l hF σ x2) mw_X5_isRegister wd_sm_yX5_isRegister wd_ml_RX5_87 (by decide) rfl rfl (Nat.le_of_ble_eq_true rfl) 233 rfl ?_
      refine Vifeq (fun v => (v, σ)) dX5_mayBe_233 247 236 (by decide) rfl (fun h34 => ?_) (fun h34 => ?_)
      · refine Viconst dX5_mayBe_247 (0 : Int32) (by decide) 248 rfl ?_
        exact Vzret dX5_mayBe_248 (by first | decide | exact nb_isRegister _ | exact nb_isRow _ | exact nb_isPlace _ | exact nb_within _ _ _ | exact nb_mRegister _ | exact nb_mCell _ | exact nb_mPlace _)
      · refine Vload_n dX5_mayBe_236 3 rfl 237 rfl ?_
        refine VcSp dX5_mayBe_237 [.int x3] (c_X5_isRegister l hF σ x3) mw_X5_isRegister wd_sm_yX5_isRegister wd_ml_RX5_87 (by decide) rfl rfl (Nat.le_of_ble_eq_true rfl) 240 rfl ?_
        refine Vifeq (fun v => (v, σ)) dX5_mayBe_240 247 243 (by decide) rfl (fun h35 => ?_) (fun h35 => ?_)
        · refine Viconst dX5_mayBe_247 (0 : Int32) (by decide) 248 rfl ?_
          exact Vzret dX5_mayBe_248 (by first | decide | exact nb_isRegister _ | exact nb_isRow _ | exact nb_isPlace _ | exact nb_within _ _ _ | exact nb_mRegister _ | exact nb_mCell _ | exact nb_mPlace _)
        · refine Viconst dX5_mayBe_243 (1 : Int32) (by decide) 244 rfl ?_
          refine Vgoto dX5_mayBe_244 248 (by decide) ?_
          exact Vzret dX5_mayBe_248 (by first | decide | exact nb_isRegister _ | exact nb_isRow _ | exact nb_isPlace _ | exact nb_within _ _ _ | exact nb_mRegister _ | exact nb_mCell _ | exact nb_mPlace _)
  refine Vif (fun v => (v, σ)) (fun h36 => ?_) (fun h36 => ?_)
  · refine Vswin dX5_mayBe_1 249 (by rw [h36]; decide) (by rw [h36]; decide) (off := 248) (by rw [h36]; rfl) (by decide) ?_
    refine Vload_n dX5_mayBe_249 1 rfl 250 rfl ?_
    refine VcSp dX5_mayBe_250 [.int x1] (c_X5_isPlace l hF σ x1) mw_X5_isPlace wd_sm_yX5_isPlace wd_ml_RX5_147 (by decide) rfl rfl (Nat.le_of_ble_eq_true rfl) 253 rfl ?_
    exact Vzret dX5_mayBe_253 (by first | decide | exact nb_isRegister _ | exact nb_isRow _ | exact nb_isPlace _ | exact nb_within _ _ _ | exact nb_mRegister _ | exact nb_mCell _ | exact nb_mPlace _)
  refine Vif (fun v => (v, σ)) (fun h37 => ?_) (fun h37 => ?_)
  · refine Vswin dX5_mayBe_1 254 (by rw [h37]; decide) (by rw [h37]; decide) (off := 253) (by rw [h37]; rfl) (by decide) ?_
    refine Vload_n dX5_mayBe_254 1 rfl 255 rfl ?_
    refine VcSp dX5_mayBe_255 [.int x1] (c_X5_isRegister l hF σ x1) mw_X5_isRegister wd_sm_yX5_isRegister wd_ml_RX5_87 (by decide) rfl rfl (Nat.le_of_ble_eq_true rfl) 258 rfl ?_
    refine Vifeq (fun v => (v, σ)) dX5_mayBe_258 272 261 (by decide) rfl (fun h38 => ?_) (fun h38 => ?_)
    · refine Viconst dX5_mayBe_272 (0 : Int32) (by decide) 273 rfl ?_
      exact Vzret dX5_mayBe_273 (by first | decide | exact nb_isRegister _ | exact nb_isRow _ | exact nb_isPlace _ | exact nb_within _ _ _ | exact nb_mRegister _ | exact nb_mCell _ | exact nb_mPlace _)
    · refine Vload_n dX5_mayBe_261 2 rfl 262 rfl ?_
      refine VcSp dX5_mayBe_262 [.int x2] (c_X5_isPlace l hF σ x2) mw_X5_isPlace wd_sm_yX5_isPlace wd_ml_RX5_147 (by decide) rfl rfl (Nat.le_of_ble_eq_true rfl) 265 rfl ?_
      refine Vifeq (fun v => (v, σ)) dX5_mayBe_265 272 268 (by decide) rfl (fun h39 => ?_) (fun h39 => ?_)
      · refine Viconst dX5_mayBe_272 (0 : Int32) (by decide) 273 rfl ?_
        exact Vzret dX5_mayBe_273 (by first | decide | exact nb_isRegister _ | exact nb_isRow _ | exact nb_isPlace _ | exact nb_within _ _ _ | exact nb_mRegister _ | exact nb_mCell _ | exact nb_mPlace _)
      · refine Viconst dX5_mayBe_268 (1 : Int32) (by decide) 269 rfl ?_
        refine Vgoto dX5_mayBe_269 273 (by decide) ?_
        exact Vzret dX5_mayBe_273 (by first | decide | exact nb_isRegister _ | exact nb_isRow _ | exact nb_isPlace _ | exact nb_within _ _ _ | exact nb_mRegister _ | exact nb_mCell _ | exact nb_mPlace _)
  refine Vif (fun v => (v, σ)) (fun h40 => ?_) (fun h40 => ?_)
  · refine Vswin dX5_mayBe_1 274 (by rw [h40]; decide) (by rw [h40]; decide) (off := 273) (by rw [h40]; rfl) (by decide) ?_
    refine Viconst dX5_mayBe_274 (1 : Int32) (by decide) 275 rfl ?_
    exact Vzret dX5_mayBe_275 (by first | decide | exact nb_isRegister _ | exact nb_isRow _ | exact nb_isPlace _ | exact nb_within _ _ _ | exact nb_mRegister _ | exact nb_mCell _ | exact nb_mPlace _)
  refine Vif (fun v => (v, σ)) (fun h41 => ?_) (fun h41 => ?_)
  · refine Vswin dX5_mayBe_1 274 (by rw [h41]; decide) (by rw [h41]; decide) (off := 273) (by rw [h41]; rfl) (by decide) ?_
    refine Viconst dX5_mayBe_274 (1 : Int32) (by decide) 275 rfl ?_
    exact Vzret dX5_mayBe_275 (by first | decide | exact nb_isRegister _ | exact nb_isRow _ | exact nb_isPlace _ | exact nb_within _ _ _ | exact nb_mRegister _ | exact nb_mCell _ | exact nb_mPlace _)
  refine Vif (fun v => (v, σ)) (fun h42 => ?_) (fun h42 => ?_)
  · refine Vswin dX5_mayBe_1 249 (by rw [h42]; decide) (by rw [h42]; decide) (off := 248) (by rw [h42]; rfl) (by decide) ?_
    refine Vload_n dX5_mayBe_249 1 rfl 250 rfl ?_
    refine VcSp dX5_mayBe_250 [.int x1] (c_X5_isPlace l hF σ x1) mw_X5_isPlace wd_sm_yX5_isPlace wd_ml_RX5_147 (by decide) rfl rfl (Nat.le_of_ble_eq_true rfl) 253 rfl ?_
    exact Vzret dX5_mayBe_253 (by first | decide | exact nb_isRegister _ | exact nb_isRow _ | exact nb_isPlace _ | exact nb_within _ _ _ | exact nb_mRegister _ | exact nb_mCell _ | exact nb_mPlace _)
  refine Vif (fun v => (v, σ)) (fun h43 => ?_) (fun h43 => ?_)
  · refine Vswin dX5_mayBe_1 274 (by rw [h43]; decide) (by rw [h43]; decide) (off := 273) (by rw [h43]; rfl) (by decide) ?_
    refine Viconst dX5_mayBe_274 (1 : Int32) (by decide) 275 rfl ?_
    exact Vzret dX5_mayBe_275 (by first | decide | exact nb_isRegister _ | exact nb_isRow _ | exact nb_isPlace _ | exact nb_within _ _ _ | exact nb_mRegister _ | exact nb_mCell _ | exact nb_mPlace _)
  refine Vif (fun v => (v, σ)) (fun h44 => ?_) (fun h44 => ?_)
  · refine Vswin dX5_mayBe_1 96 (by rw [h44]; decide) (by rw [h44]; decide) (off := 95) (by rw [h44]; rfl) (by decide) ?_
    refine Vload_n dX5_mayBe_96 1 rfl 97 rfl ?_
    refine VcSp dX5_mayBe_97 [.int x1] (c_X5_isRegister l hF σ x1) mw_X5_isRegister wd_sm_yX5_isRegister wd_ml_RX5_87 (by decide) rfl rfl (Nat.le_of_ble_eq_true rfl) 100 rfl ?_
    exact Vzret dX5_mayBe_100 (by first | decide | exact nb_isRegister _ | exact nb_isRow _ | exact nb_isPlace _ | exact nb_within _ _ _ | exact nb_mRegister _ | exact nb_mCell _ | exact nb_mPlace _)
  refine Vif (fun v => (v, σ)) (fun h45 => ?_) (fun h45 => ?_)
  · refine Vswin dX5_mayBe_1 276 (by rw [h45]; decide) (by rw [h45]; decide) (off := 275) (by rw [h45]; rfl) (by decide) ?_
    refine Vload_n dX5_mayBe_276 1 rfl 277 rfl ?_
    refine VcSp dX5_mayBe_277 [.int x1] (c_X5_isRow l hF σ x1) mw_X5_isRow wd_sm_yX5_isRow wd_ml_RX5_104 (by decide) rfl rfl (Nat.le_of_ble_eq_true rfl) 280 rfl ?_
    refine Vifeq (fun v => (v, σ)) dX5_mayBe_280 294 283 (by decide) rfl (fun h46 => ?_) (fun h46 => ?_)
    · refine Viconst dX5_mayBe_294 (0 : Int32) (by decide) 295 rfl ?_
      exact Vzret dX5_mayBe_295 (by first | decide | exact nb_isRegister _ | exact nb_isRow _ | exact nb_isPlace _ | exact nb_within _ _ _ | exact nb_mRegister _ | exact nb_mCell _ | exact nb_mPlace _)
    · refine Vload_n dX5_mayBe_283 2 rfl 284 rfl ?_
      refine VcSp dX5_mayBe_284 [.int x2] (c_X5_isRegister l hF σ x2) mw_X5_isRegister wd_sm_yX5_isRegister wd_ml_RX5_87 (by decide) rfl rfl (Nat.le_of_ble_eq_true rfl) 287 rfl ?_
      refine Vifeq (fun v => (v, σ)) dX5_mayBe_287 294 290 (by decide) rfl (fun h47 => ?_) (fun h47 => ?_)
      · refine Viconst dX5_mayBe_294 (0 : Int32) (by decide) 295 rfl ?_
        exact Vzret dX5_mayBe_295 (by first | decide | exact nb_isRegister _ | exact nb_isRow _ | exact nb_isPlace _ | exact nb_within _ _ _ | exact nb_mRegister _ | exact nb_mCell _ | exact nb_mPlace _)
      · refine Viconst dX5_mayBe_290 (1 : Int32) (by decide) 291 rfl ?_
        refine Vgoto dX5_mayBe_291 295 (by decide) ?_
        exact Vzret dX5_mayBe_295 (by first | decide | exact nb_isRegister _ | exact nb_isRow _ | exact nb_isPlace _ | exact nb_within _ _ _ | exact nb_mRegister _ | exact nb_mCell _ | exact nb_mPlace _)
  refine Vif (fun v => (v, σ)) (fun h48 => ?_) (fun h48 => ?_)
  · refine Vswin dX5_mayBe_1 296 (by rw [h48]; decide) (by rw [h48]; decide) (off := 295) (by rw [h48]; rfl) (by decide) ?_
    refine Vload_n dX5_mayBe_296 1 rfl 297 rfl ?_
    refine VcSp dX5_mayBe_297 [.int x1] (c_X5_isRow l hF σ x1) mw_X5_isRow wd_sm_yX5_isRow wd_ml_RX5_104 (by decide) rfl rfl (Nat.le_of_ble_eq_true rfl) 300 rfl ?_
    exact Vzret dX5_mayBe_300 (by first | decide | exact nb_isRegister _ | exact nb_isRow _ | exact nb_isPlace _ | exact nb_within _ _ _ | exact nb_mRegister _ | exact nb_mCell _ | exact nb_mPlace _)
  refine Vif (fun v => (v, σ)) (fun h49 => ?_) (fun h49 => ?_)
  · refine Vswin dX5_mayBe_1 301 (by rw [h49]; decide) (by rw [h49]; decide) (off := 300) (by rw [h49]; rfl) (by decide) ?_
    refine Vload_n dX5_mayBe_301 1 rfl 302 rfl ?_
    refine VcSp dX5_mayBe_302 [.int x1] (c_X5_isCell l hF σ x1) mw_X5_isCell wd_sm_yX5_isCell wd_ml_RX5_95 (by decide) rfl rfl (Nat.le_of_ble_eq_true rfl) 305 rfl ?_
    refine Vifeq (fun v => (v, σ)) dX5_mayBe_305 319 308 (by decide) rfl (fun h50 => ?_) (fun h50 => ?_)
    · refine Viconst dX5_mayBe_319 (0 : Int32) (by decide) 320 rfl ?_
      exact Vzret dX5_mayBe_320 (by first | decide | exact nb_isRegister _ | exact nb_isRow _ | exact nb_isPlace _ | exact nb_within _ _ _ | exact nb_mRegister _ | exact nb_mCell _ | exact nb_mPlace _)
    · refine Vload_n dX5_mayBe_308 2 rfl 309 rfl ?_
      refine VcSp dX5_mayBe_309 [.int x2] (c_X5_isCell l hF σ x2) mw_X5_isCell wd_sm_yX5_isCell wd_ml_RX5_95 (by decide) rfl rfl (Nat.le_of_ble_eq_true rfl) 312 rfl ?_
      refine Vifeq (fun v => (v, σ)) dX5_mayBe_312 319 315 (by decide) rfl (fun h51 => ?_) (fun h51 => ?_)
      · refine Viconst dX5_mayBe_319 (0 : Int32) (by decide) 320 rfl ?_
        exact Vzret dX5_mayBe_320 (by first | decide | exact nb_isRegister _ | exact nb_isRow _ | exact nb_isPlace _ | exact nb_within _ _ _ | exact nb_mRegister _ | exact nb_mCell _ | exact nb_mPlace _)
      · refine Viconst dX5_mayBe_315 (1 : Int32) (by decide) 316 rfl ?_
        refine Vgoto dX5_mayBe_316 320 (by decide) ?_
        exact Vzret dX5_mayBe_320 (by first | decide | exact nb_isRegister _ | exact nb_isRow _ | exact nb_isPlace _ | exact nb_within _ _ _ | exact nb_mRegister _ | exact nb_mCell _ | exact nb_mPlace _)
  refine Vswout dX5_mayBe_1 (by have eh1 := lv_neT (a := 0) h1 (by decide); have eh2 := lv_neT (a := 1) h2 (by decide); have eh5 := lv_neT (a := 2) h5 (by decide); have eh8 := lv_neT (a := 3) h8 (by decide); have eh12 := lv_neT (a := 4) h12 (by decide); have eh16 := lv_neT (a := 5) h16 (by decide); have eh20 := lv_neT (a := 6) h20 (by decide); have eh24 := lv_neT (a := 7) h24 (by decide); have eh28 := lv_neT (a := 8) h28 (by decide); have eh32 := lv_neT (a := 9) h32 (by decide); have eh36 := lv_neT (a := 10) h36 (by decide); have eh37 := lv_neT (a := 11) h37 (by decide); have eh40 := lv_neT (a := 12) h40 (by decide); have eh41 := lv_neT (a := 13) h41 (by decide); have eh42 := lv_neT (a := 14) h42 (by decide); have eh43 := lv_neT (a := 15) h43 (by decide); have eh44 := lv_neT (a := 16) h44 (by decide); have eh45 := lv_neT (a := 17) h45 (by decide); have eh48 := lv_neT (a := 18) h48 (by decide); have eh49 := lv_neT (a := 19) h49 (by decide); omega) (tgt := 321) (by decide) ?_
  refine Viconst dX5_mayBe_321 (0 : Int32) (by decide) 322 rfl ?_
  exact Vzret dX5_mayBe_322 (by first | decide | exact nb_isRegister _ | exact nb_isRow _ | exact nb_isPlace _ | exact nb_within _ _ _ | exact nb_mRegister _ | exact nb_mCell _ | exact nb_mPlace _)
def f_X5_act (σ : mS) (x1 : Int32) (x2 : Int32) (x3 : Int32) (x4 : Int32) (x5 : Int32) : Int32 × mS := (if (f_X5_strandOf x1) = -1 then ((-2 : Int32), σ) else (if (f_X5_mayBe x2 x3 x4 x5) = 0 then ((-2 : Int32), σ) else (if (σ (sI (f_X5_strandOf x1)) 13) ≤ 0 then (ap (fun u5 => (if u5.1 = 0 then ((-4 : Int32), u5.2) else ((u5.2 (sI (f_X5_strandOf x1)) 5), u5.2))) (f_X4_append σ (sI (f_X5_strandOf x1)) x2 x3 x4 x5)) else ((-3 : Int32), σ))))
theorem mw_X5_act : mW yX5_act cX5_act 7 (some .int) 5 := ⟨wd_co_yX5_act, wd_ini_RX5, ⟨by decide, by decide⟩, by decide +kernel, by decide⟩
set_option maxRecDepth 100000 in
set_option maxHeartbeats 4000000 in
theorem c_X5_act (l : Launch) {G : gT} (hF : Full G) (σ : mS) (x1 : Int32) (x2 : Int32) (x3 : Int32) (x4 : Int32) (x5 : Int32)  : Ct l G yX5_act cX5_act 7 (some .int) 2 [.ref (ad G 0), .int x1, .int x2, .int x3, .int x4, .int x5] κI σ (f_X5_act σ x1 x2 x3 x4 x5) := by
  refine Ct.ofV [(0, .ref (ad G 0)), (1, .int x1), (2, .int x2), (3, .int x3), (4, .int x4), (5, .int x5)] rfl (by decide) (Nat.le_of_ble_eq_true rfl) rfl (fun X => ?_)
  unfold f_X5_act
  refine Vaload_n dX5_act_0 0 rfl 1 rfl ?_
  refine Vload_n dX5_act_1 1 rfl 2 rfl ?_
  refine VcVr (fun v => v) dX5_act_2 [.int x1] (c_X5_strandOf l hF σ x1) mw_X5_strandOf wd_im_yX5_strandOf wd_se_yX5_strandOf wd_ml_RX5_32 (hF.1 0 (by decide)) wk0 rfl rfl (by decide) rfl rfl (Nat.le_of_ble_eq_true rfl) 5 rfl (fun h1 => ?_) (fun h1 => ?_)
  · refine VastoreN dX5_act_5 [(6, .null), (0, .ref (ad G 0)), (1, .int x1), (2, .int x2), (3, .int x3), (4, .int x4), (5, .int x5)] 7 rfl (by decide) rfl ?_
    refine ValoadN dX5_act_7 0 rfl 9 rfl ?_
    refine VifnullN dX5_act_9 24 (by decide) ?_
    refine Vbipush dX5_act_24 (-2 : Int32) (by decide) 26 rfl ?_
    exact Viret dX5_act_26
  · have s2 : sQ (sI (f_X5_strandOf x1)) := sq_strandOf h1
    refine Vastore dX5_act_5 [(6, .ref (ad G ((sI (f_X5_strandOf x1))))), (0, .ref (ad G 0)), (1, .int x1), (2, .int x2), (3, .int x3), (4, .int x4), (5, .int x5)] 7 rfl (by decide) rfl ?_
    refine Vaload dX5_act_7 0 rfl 9 rfl ?_
    refine Vifnull dX5_act_9 12 rfl ?_
    refine Vload_n dX5_act_12 3 rfl 13 rfl ?_
    refine Vload_n dX5_act_13 4 rfl 14 rfl ?_
    refine Vload dX5_act_14 5 rfl 16 rfl ?_
    refine Vload dX5_act_16 6 rfl 18 rfl ?_
    refine VcSp dX5_act_18 [.int x2, .int x3, .int x4, .int x5] (c_X5_mayBe l hF σ x2 x3 x4 x5) mw_X5_mayBe wd_sm_yX5_mayBe wd_ml_RX5_36 (by decide) rfl rfl (Nat.le_of_ble_eq_true rfl) 21 rfl ?_
    refine Vifne (fun v => v) dX5_act_21 27 24 (by decide) rfl (fun h3 => ?_) (fun h3 => ?_)
    · refine Vaload dX5_act_27 0 rfl 29 rfl ?_
      refine VgetN ((sI (f_X5_strandOf x1))) 13 dX5_act_29 32 rfl (sI_ hF s2 0 (by decide)) (sk0 s2) rfl inX4 (by decide) wd_nfl_RX5_40 (v := .int (σ (sI (f_X5_strandOf x1)) 13)) rfl ?_
      refine Vifle (fun v => v) dX5_act_32 38 35 (by decide) rfl (fun h4 => ?_) (fun h4 => ?_)
      · refine Vaload dX5_act_38 0 rfl 40 rfl ?_
        refine Vload_n dX5_act_40 3 rfl 41 rfl ?_
        refine Vload_n dX5_act_41 4 rfl 42 rfl ?_
        refine Vload dX5_act_42 5 rfl 44 rfl ?_
        refine Vload dX5_act_44 6 rfl 46 rfl ?_
        refine Vgen ?_
        intro u5 eu5
        refine VcVi (u := u5) dX5_act_46 [.int x2, .int x3, .int x4, .int x5] (by rw [eu5]; exact c_X4_append l hF σ (sI (f_X5_strandOf x1)) x2 x3 x4 x5 s2) mw_X4_append wd_im_yX4_append wd_se_yX4_append wd_ml_RX5_44 (sI_ hF s2 0 (by decide)) (sk0 s2) rfl rfl (by decide) rfl rfl (Nat.le_of_ble_eq_true rfl) 49 rfl ?_
        refine Vifeq (fun v => v) dX5_act_49 60 52 (by decide) rfl (fun h6 => ?_) (fun h6 => ?_)
        · refine Vbipush dX5_act_60 (-4 : Int32) (by decide) 62 rfl ?_
          exact Viret dX5_act_62
        · refine Vaload dX5_act_52 0 rfl 54 rfl ?_
          refine VgetN ((sI (f_X5_strandOf x1))) 5 dX5_act_54 57 rfl (sI_ hF s2 0 (by decide)) (sk0 s2) rfl inX4 (by decide) wd_nfl_RX5_47 (v := .int (u5.2 (sI (f_X5_strandOf x1)) 5)) rfl ?_
          refine Vgoto dX5_act_57 62 (by decide) ?_
          exact Viret dX5_act_62
      · refine Vbipush dX5_act_35 (-3 : Int32) (by decide) 37 rfl ?_
        exact Viret dX5_act_37
    · refine Vbipush dX5_act_24 (-2 : Int32) (by decide) 26 rfl ?_
      exact Viret dX5_act_26
def f_X5_isBarredFromAtoms (x0 : Int32) : Int32 := (if x0 = (7 : Int32) then (1 : Int32) else (if x0 = (8 : Int32) then (1 : Int32) else (if x0 = (17 : Int32) then (1 : Int32) else (if x0 = (18 : Int32) then (1 : Int32) else (if x0 = (19 : Int32) then (1 : Int32) else (0 : Int32))))))
theorem mw_X5_isBarredFromAtoms : mW yX5_isBarredFromAtoms cX5_isBarredFromAtoms 1 (some .boolean) 1 := ⟨wd_co_yX5_isBarredFromAtoms, wd_ini_RX5, ⟨by decide, by decide⟩, by decide +kernel, by decide⟩
set_option maxRecDepth 100000 in
set_option maxHeartbeats 4000000 in
theorem c_X5_isBarredFromAtoms (l : Launch) {G : gT} (hF : Full G) (σ : mS) (x0 : Int32)  : Ct l G yX5_isBarredFromAtoms cX5_isBarredFromAtoms 1 (some .boolean) 0 [.int x0] κI σ (f_X5_isBarredFromAtoms x0, σ) := by
  refine Ct.ofV [(0, .int x0)] rfl (by decide) (Nat.le_of_ble_eq_true rfl) rfl (fun X => ?_)
  unfold f_X5_isBarredFromAtoms
  refine Vload_n dX5_isBarredFromAtoms_0 0 rfl 1 rfl ?_
  refine Vbipush dX5_isBarredFromAtoms_1 (7 : Int32) (by decide) 3 rfl ?_
  refine Viceq (fun v => (v, σ)) dX5_isBarredFromAtoms_3 30 6 (by decide) rfl (fun h1 => ?_) (fun h1 => ?_)
  · refine Viconst dX5_isBarredFromAtoms_30 (1 : Int32) (by decide) 31 rfl ?_
    refine Vgoto dX5_isBarredFromAtoms_31 35 (by decide) ?_
    exact Vzret dX5_isBarredFromAtoms_35 (by first | decide | exact nb_isRegister _ | exact nb_isRow _ | exact nb_isPlace _ | exact nb_within _ _ _ | exact nb_mRegister _ | exact nb_mCell _ | exact nb_mPlace _)
  · refine Vload_n dX5_isBarredFromAtoms_6 0 rfl 7 rfl ?_
    refine Vbipush dX5_isBarredFromAtoms_7 (8 : Int32) (by decide) 9 rfl ?_
    refine Viceq (fun v => (v, σ)) dX5_isBarredFromAtoms_9 30 12 (by decide) rfl (fun h2 => ?_) (fun h2 => ?_)
    · refine Viconst dX5_isBarredFromAtoms_30 (1 : Int32) (by decide) 31 rfl ?_
      refine Vgoto dX5_isBarredFromAtoms_31 35 (by decide) ?_
      exact Vzret dX5_isBarredFromAtoms_35 (by first | decide | exact nb_isRegister _ | exact nb_isRow _ | exact nb_isPlace _ | exact nb_within _ _ _ | exact nb_mRegister _ | exact nb_mCell _ | exact nb_mPlace _)
    · refine Vload_n dX5_isBarredFromAtoms_12 0 rfl 13 rfl ?_
      refine Vbipush dX5_isBarredFromAtoms_13 (17 : Int32) (by decide) 15 rfl ?_
      refine Viceq (fun v => (v, σ)) dX5_isBarredFromAtoms_15 30 18 (by decide) rfl (fun h3 => ?_) (fun h3 => ?_)
      · refine Viconst dX5_isBarredFromAtoms_30 (1 : Int32) (by decide) 31 rfl ?_
        refine Vgoto dX5_isBarredFromAtoms_31 35 (by decide) ?_
        exact Vzret dX5_isBarredFromAtoms_35 (by first | decide | exact nb_isRegister _ | exact nb_isRow _ | exact nb_isPlace _ | exact nb_within _ _ _ | exact nb_mRegister _ | exact nb_mCell _ | exact nb_mPlace _)
      · refine Vload_n dX5_isBarredFromAtoms_18 0 rfl 19 rfl ?_
        refine Vbipush dX5_isBarredFromAtoms_19 (18 : Int32) (by decide) 21 rfl ?_
        refine Viceq (fun v => (v, σ)) dX5_isBarredFromAtoms_21 30 24 (by decide) rfl (fun h4 => ?_) (fun h4 => ?_)
        · refine Viconst dX5_isBarredFromAtoms_30 (1 : Int32) (by decide) 31 rfl ?_
          refine Vgoto dX5_isBarredFromAtoms_31 35 (by decide) ?_
          exact Vzret dX5_isBarredFromAtoms_35 (by first | decide | exact nb_isRegister _ | exact nb_isRow _ | exact nb_isPlace _ | exact nb_within _ _ _ | exact nb_mRegister _ | exact nb_mCell _ | exact nb_mPlace _)
        · refine Vload_n dX5_isBarredFromAtoms_24 0 rfl 25 rfl ?_
          refine Vbipush dX5_isBarredFromAtoms_25 (19 : Int32) (by decide) 27 rfl ?_
          refine Vicne (fun v => (v, σ)) dX5_isBarredFromAtoms_27 34 30 (by decide) rfl (fun h5 => ?_) (fun h5 => ?_)
          · refine Viconst dX5_isBarredFromAtoms_34 (0 : Int32) (by decide) 35 rfl ?_
            exact Vzret dX5_isBarredFromAtoms_35 (by first | decide | exact nb_isRegister _ | exact nb_isRow _ | exact nb_isPlace _ | exact nb_within _ _ _ | exact nb_mRegister _ | exact nb_mCell _ | exact nb_mPlace _)
          · refine Viconst dX5_isBarredFromAtoms_30 (1 : Int32) (by decide) 31 rfl ?_
            refine Vgoto dX5_isBarredFromAtoms_31 35 (by decide) ?_
            exact Vzret dX5_isBarredFromAtoms_35 (by first | decide | exact nb_isRegister _ | exact nb_isRow _ | exact nb_isPlace _ | exact nb_within _ _ _ | exact nb_mRegister _ | exact nb_mCell _ | exact nb_mPlace _)
def f_X5_failureOfReading (σ : mS) (q : Nat) (x2 : Int32) : Int32 := (if (σ (q + 7) 0) = 0 then (if (f_X1_leadsToRing σ x2) = 0 then (0 : Int32) else (8 : Int32)) else (if (f_X1_isLazy σ x2) = 0 then (0 : Int32) else (if (f_X0_hasPut σ (q + 7) x2) = 0 then (5 : Int32) else (0 : Int32))))
theorem mw_X5_failureOfReading : mW yX5_failureOfReading cX5_failureOfReading 3 (some .int) 2 := ⟨wd_co_yX5_failureOfReading, wd_ini_RX5, ⟨by decide, by decide⟩, by decide +kernel, by decide⟩
set_option maxRecDepth 100000 in
set_option maxHeartbeats 4000000 in
theorem c_X5_failureOfReading (l : Launch) {G : gT} (hF : Full G) (σ : mS) (q : Nat) (x2 : Int32) (hq : sQ q) : Ct l G yX5_failureOfReading cX5_failureOfReading 3 (some .int) 3 [.ref (ad G 0), .ref (ad G q), .int x2] κI σ (f_X5_failureOfReading σ q x2, σ) := by
  refine Ct.ofV [(0, .ref (ad G 0)), (1, .ref (ad G q)), (2, .int x2)] rfl (by decide) (Nat.le_of_ble_eq_true rfl) rfl (fun X => ?_)
  unfold f_X5_failureOfReading
  refine Vaload_n dX5_failureOfReading_0 1 rfl 1 rfl ?_
  refine VgetN (q) 9 dX5_failureOfReading_1 4 rfl (sI_ hF hq 0 (by decide)) (sk0 hq) rfl inX4 (by decide) wd_nfl_RX5_74 (v := .ref (ad G (q + 7))) rfl ?_
  refine VgetN (q + 7) 0 dX5_failureOfReading_4 7 rfl (sI_ hF hq 7 (by decide)) (sk7 hq) rfl inX0 (by decide) wd_nfl_RX5_78 (v := .int (σ (q + 7) 0)) rfl ?_
  refine Vifeq (fun v => (v, σ)) dX5_failureOfReading_7 38 10 (by decide) rfl (fun h1 => ?_) (fun h1 => ?_)
  · refine Vaload_n dX5_failureOfReading_38 0 rfl 39 rfl ?_
    refine Vget (0) 0 dX5_failureOfReading_39 42 rfl (hF.1 0 (by decide)) wk0 rfl inX5 (by decide) wd_fl_RX5_10 (v := .ref (ad G 1)) rfl ?_
    refine Vload_n dX5_failureOfReading_42 2 rfl 43 rfl ?_
    refine VcVp dX5_failureOfReading_43 [.int x2] (c_X1_leadsToRing l hF σ x2) mw_X1_leadsToRing wd_im_yX1_leadsToRing wd_se_yX1_leadsToRing wd_ml_RX5_230 (hF.1 1 (by decide)) wk1 rfl rfl (by decide) rfl rfl (Nat.le_of_ble_eq_true rfl) 46 rfl ?_
    refine Vifeq (fun v => (v, σ)) dX5_failureOfReading_46 54 49 (by decide) rfl (fun h2 => ?_) (fun h2 => ?_)
    · refine Viconst dX5_failureOfReading_54 (0 : Int32) (by decide) 55 rfl ?_
      exact Viret dX5_failureOfReading_55
    · refine Vbipush dX5_failureOfReading_49 (8 : Int32) (by decide) 51 rfl ?_
      refine Vgoto dX5_failureOfReading_51 55 (by decide) ?_
      exact Viret dX5_failureOfReading_55
  · refine Vaload_n dX5_failureOfReading_10 0 rfl 11 rfl ?_
    refine Vget (0) 0 dX5_failureOfReading_11 14 rfl (hF.1 0 (by decide)) wk0 rfl inX5 (by decide) wd_fl_RX5_10 (v := .ref (ad G 1)) rfl ?_
    refine Vload_n dX5_failureOfReading_14 2 rfl 15 rfl ?_
    refine VcVp dX5_failureOfReading_15 [.int x2] (c_X1_isLazy l hF σ x2) mw_X1_isLazy wd_im_yX1_isLazy wd_se_yX1_isLazy wd_ml_RX5_101 (hF.1 1 (by decide)) wk1 rfl rfl (by decide) rfl rfl (Nat.le_of_ble_eq_true rfl) 18 rfl ?_
    refine Vifeq (fun v => (v, σ)) dX5_failureOfReading_18 36 21 (by decide) rfl (fun h3 => ?_) (fun h3 => ?_)
    · refine Viconst dX5_failureOfReading_36 (0 : Int32) (by decide) 37 rfl ?_
      exact Viret dX5_failureOfReading_37
    · refine Vaload_n dX5_failureOfReading_21 1 rfl 22 rfl ?_
      refine VgetN (q) 9 dX5_failureOfReading_22 25 rfl (sI_ hF hq 0 (by decide)) (sk0 hq) rfl inX4 (by decide) wd_nfl_RX5_74 (v := .ref (ad G (q + 7))) rfl ?_
      refine Vload_n dX5_failureOfReading_25 2 rfl 26 rfl ?_
      refine VcVp dX5_failureOfReading_26 [.int x2] (c_X0_hasPut l hF σ (q + 7) x2 (sA hq)) mw_X0_hasPut wd_im_yX0_hasPut wd_se_yX0_hasPut wd_ml_RX5_227 (sI_ hF hq 7 (by decide)) (sk7 hq) rfl rfl (by decide) rfl rfl (Nat.le_of_ble_eq_true rfl) 29 rfl ?_
      refine Vifne (fun v => (v, σ)) dX5_failureOfReading_29 36 32 (by decide) rfl (fun h4 => ?_) (fun h4 => ?_)
      · refine Viconst dX5_failureOfReading_36 (0 : Int32) (by decide) 37 rfl ?_
        exact Viret dX5_failureOfReading_37
      · refine Viconst dX5_failureOfReading_32 (5 : Int32) (by decide) 33 rfl ?_
        refine Vgoto dX5_failureOfReading_33 37 (by decide) ?_
        exact Viret dX5_failureOfReading_37
def f_X5_readCell (σ : mS) (q : Nat) (x2 : Int32) : Int32 × mS := (if (σ (q + 7) 0) = 0 then (ap (fun u4 => (u4.1, u4.2)) (f_X1_workedOut σ x2 (σ q 0))) else (if (f_X0_hasPut σ (q + 7) x2) = 0 then (ap (fun u3 => ((f_X1_shown σ x2), u3.2)) (f_X0_noteReading σ (q + 7) x2 (f_X1_shown σ x2))) else ((f_X0_putNumber σ (q + 7) x2), σ)))
theorem mw_X5_readCell : mW yX5_readCell cX5_readCell 4 (some .int) 2 := ⟨wd_co_yX5_readCell, wd_ini_RX5, ⟨by decide, by decide⟩, by decide +kernel, by decide⟩
set_option maxRecDepth 100000 in
set_option maxHeartbeats 4000000 in
theorem c_X5_readCell (l : Launch) {G : gT} (hF : Full G) (σ : mS) (q : Nat) (x2 : Int32) (hq : sQ q) : Ct l G yX5_readCell cX5_readCell 4 (some .int) 3 [.ref (ad G 0), .ref (ad G q), .int x2] κI σ (f_X5_readCell σ q x2) := by
  refine Ct.ofV [(0, .ref (ad G 0)), (1, .ref (ad G q)), (2, .int x2)] rfl (by decide) (Nat.le_of_ble_eq_true rfl) rfl (fun X => ?_)
  unfold f_X5_readCell
  refine Vaload_n dX5_readCell_0 1 rfl 1 rfl ?_
  refine VgetN (q) 9 dX5_readCell_1 4 rfl (sI_ hF hq 0 (by decide)) (sk0 hq) rfl inX4 (by decide) wd_nfl_RX5_74 (v := .ref (ad G (q + 7))) rfl ?_
  refine VgetN (q + 7) 0 dX5_readCell_4 7 rfl (sI_ hF hq 7 (by decide)) (sk7 hq) rfl inX0 (by decide) wd_nfl_RX5_78 (v := .int (σ (q + 7) 0)) rfl ?_
  refine Vifne (fun v => v) dX5_readCell_7 23 10 (by decide) rfl (fun h1 => ?_) (fun h1 => ?_)
  · refine Vaload_n dX5_readCell_23 1 rfl 24 rfl ?_
    refine VgetN (q) 9 dX5_readCell_24 27 rfl (sI_ hF hq 0 (by decide)) (sk0 hq) rfl inX4 (by decide) wd_nfl_RX5_74 (v := .ref (ad G (q + 7))) rfl ?_
    refine Vload_n dX5_readCell_27 2 rfl 28 rfl ?_
    refine VcVp dX5_readCell_28 [.int x2] (c_X0_hasPut l hF σ (q + 7) x2 (sA hq)) mw_X0_hasPut wd_im_yX0_hasPut wd_se_yX0_hasPut wd_ml_RX5_227 (sI_ hF hq 7 (by decide)) (sk7 hq) rfl rfl (by decide) rfl rfl (Nat.le_of_ble_eq_true rfl) 31 rfl ?_
    refine Vifeq (fun v => v) dX5_readCell_31 43 34 (by decide) rfl (fun h2 => ?_) (fun h2 => ?_)
    · refine Vaload_n dX5_readCell_43 0 rfl 44 rfl ?_
      refine Vget (0) 0 dX5_readCell_44 47 rfl (hF.1 0 (by decide)) wk0 rfl inX5 (by decide) wd_fl_RX5_10 (v := .ref (ad G 1)) rfl ?_
      refine Vload_n dX5_readCell_47 2 rfl 48 rfl ?_
      refine VcVp dX5_readCell_48 [.int x2] (c_X1_shown l hF σ x2) mw_X1_shown wd_im_yX1_shown wd_se_yX1_shown wd_ml_RX5_98 (hF.1 1 (by decide)) wk1 rfl rfl (by decide) rfl rfl (Nat.le_of_ble_eq_true rfl) 51 rfl ?_
      refine Vstore_n dX5_readCell_51 [(3, .int (f_X1_shown σ x2)), (0, .ref (ad G 0)), (1, .ref (ad G q)), (2, .int x2)] 52 rfl (by decide) rfl ?_
      refine Vaload_n dX5_readCell_52 2 rfl 53 rfl ?_
      refine VgetN (q) 9 dX5_readCell_53 56 rfl (sI_ hF hq 0 (by decide)) (sk0 hq) rfl inX4 (by decide) wd_nfl_RX5_74 (v := .ref (ad G (q + 7))) rfl ?_
      refine Vload_n dX5_readCell_56 3 rfl 57 rfl ?_
      refine Vload_n dX5_readCell_57 0 rfl 58 rfl ?_
      refine Vgen ?_
      intro u3 eu3
      refine VcVv (u := u3) dX5_readCell_58 [.int x2, .int (f_X1_shown σ x2)] (by rw [eu3]; exact c_X0_noteReading l hF σ (q + 7) x2 (f_X1_shown σ x2) (sA hq)) mw_X0_noteReading wd_im_yX0_noteReading wd_se_yX0_noteReading wd_ml_RX5_242 (sI_ hF hq 7 (by decide)) (sk7 hq) rfl rfl (by decide) rfl rfl (Nat.le_of_ble_eq_true rfl) 61 rfl ?_
      refine Vload_n dX5_readCell_61 0 rfl 62 rfl ?_
      exact Viret dX5_readCell_62
    · refine Vaload_n dX5_readCell_34 1 rfl 35 rfl ?_
      refine VgetN (q) 9 dX5_readCell_35 38 rfl (sI_ hF hq 0 (by decide)) (sk0 hq) rfl inX4 (by decide) wd_nfl_RX5_74 (v := .ref (ad G (q + 7))) rfl ?_
      refine Vload_n dX5_readCell_38 2 rfl 39 rfl ?_
      refine VcVp dX5_readCell_39 [.int x2] (c_X0_putNumber l hF σ (q + 7) x2 (sA hq)) mw_X0_putNumber wd_im_yX0_putNumber wd_se_yX0_putNumber wd_ml_RX5_239 (sI_ hF hq 7 (by decide)) (sk7 hq) rfl rfl (by decide) rfl rfl (Nat.le_of_ble_eq_true rfl) 42 rfl ?_
      exact Viret dX5_readCell_42
  · refine Vaload_n dX5_readCell_10 0 rfl 11 rfl ?_
    refine Vget (0) 0 dX5_readCell_11 14 rfl (hF.1 0 (by decide)) wk0 rfl inX5 (by decide) wd_fl_RX5_10 (v := .ref (ad G 1)) rfl ?_
    refine Vload_n dX5_readCell_14 2 rfl 15 rfl ?_
    refine Vaload_n dX5_readCell_15 1 rfl 16 rfl ?_
    refine VgetN (q) 0 dX5_readCell_16 19 rfl (sI_ hF hq 0 (by decide)) (sk0 hq) rfl inX4 (by decide) wd_nfl_RX5_233 (v := .int (σ q 0)) rfl ?_
    refine Vgen ?_
    intro u4 eu4
    refine VcVi (u := u4) dX5_readCell_19 [.int x2, .int (σ q 0)] (by rw [eu4]; exact c_X1_workedOut l hF σ x2 (σ q 0)) mw_X1_workedOut wd_im_yX1_workedOut wd_se_yX1_workedOut wd_ml_RX5_236 (hF.1 1 (by decide)) wk1 rfl rfl (by decide) rfl rfl (Nat.le_of_ble_eq_true rfl) 22 rfl ?_
    exact Viret dX5_readCell_22
def f_X5_getCell (σ : mS) (q : Nat) (x2 : Int32) (x3 : Int32) : Int32 × mS := (if (f_X5_failureOfReading σ q x3) = 0 then (ap (fun u2 => (ap (fun u3 => ((f_X5_failureOfReading σ q x3), u3.2)) (f_X4_keep u2.2 q x2 u2.1))) (f_X5_readCell σ q x3)) else ((f_X5_failureOfReading σ q x3), σ))
theorem mw_X5_getCell : mW yX5_getCell cX5_getCell 5 (some .int) 3 := ⟨wd_co_yX5_getCell, wd_ini_RX5, ⟨by decide, by decide⟩, by decide +kernel, by decide⟩
set_option maxRecDepth 100000 in
set_option maxHeartbeats 4000000 in
theorem c_X5_getCell (l : Launch) {G : gT} (hF : Full G) (σ : mS) (q : Nat) (x2 : Int32) (x3 : Int32) (hq : sQ q) : Ct l G yX5_getCell cX5_getCell 5 (some .int) 4 [.ref (ad G 0), .ref (ad G q), .int x2, .int x3] κI σ (f_X5_getCell σ q x2 x3) := by
  refine Ct.ofV [(0, .ref (ad G 0)), (1, .ref (ad G q)), (2, .int x2), (3, .int x3)] rfl (by decide) (Nat.le_of_ble_eq_true rfl) rfl (fun X => ?_)
  unfold f_X5_getCell
  refine Vaload_n dX5_getCell_0 0 rfl 1 rfl ?_
  refine Vaload_n dX5_getCell_1 1 rfl 2 rfl ?_
  refine Vload_n dX5_getCell_2 3 rfl 3 rfl ?_
  refine VcVp dX5_getCell_3 [.ref (ad G q), .int x3] (c_X5_failureOfReading l hF σ q x3 hq) mw_X5_failureOfReading wd_im_yX5_failureOfReading wd_se_yX5_failureOfReading wd_ml_RX5_220 (hF.1 0 (by decide)) wk0 rfl rfl (by decide) rfl rfl (Nat.le_of_ble_eq_true rfl) 6 rfl ?_
  refine Vstore dX5_getCell_6 [(4, .int (f_X5_failureOfReading σ q x3)), (0, .ref (ad G 0)), (1, .ref (ad G q)), (2, .int x2), (3, .int x3)] 8 rfl (by decide) rfl ?_
  refine Vload dX5_getCell_8 0 rfl 10 rfl ?_
  refine Vifne (fun v => v) dX5_getCell_10 24 13 (by decide) rfl (fun h1 => ?_) (fun h1 => ?_)
  · refine Vload dX5_getCell_24 0 rfl 26 rfl ?_
    exact Viret dX5_getCell_26
  · refine Vaload_n dX5_getCell_13 2 rfl 14 rfl ?_
    refine Vload_n dX5_getCell_14 3 rfl 15 rfl ?_
    refine Vaload_n dX5_getCell_15 1 rfl 16 rfl ?_
    refine Vaload_n dX5_getCell_16 2 rfl 17 rfl ?_
    refine Vload_n dX5_getCell_17 4 rfl 18 rfl ?_
    refine Vgen ?_
    intro u2 eu2
    refine VcVi (u := u2) dX5_getCell_18 [.ref (ad G q), .int x3] (by rw [eu2]; exact c_X5_readCell l hF σ q x3 hq) mw_X5_readCell wd_im_yX5_readCell wd_se_yX5_readCell wd_ml_RX5_224 (hF.1 0 (by decide)) wk0 rfl rfl (by decide) rfl rfl (Nat.le_of_ble_eq_true rfl) 21 rfl ?_
    refine Vgen ?_
    intro u3 eu3
    refine VcVv (u := u3) dX5_getCell_21 [.int x2, .int u2.1] (by rw [eu3]; exact c_X4_keep l hF u2.2 q x2 u2.1 hq) mw_X4_keep wd_im_yX4_keep wd_se_yX4_keep wd_ml_RX5_217 (sI_ hF hq 0 (by decide)) (sk0 hq) rfl rfl (by decide) rfl rfl (Nat.le_of_ble_eq_true rfl) 24 rfl ?_
    refine Vload dX5_getCell_24 0 rfl 26 rfl ?_
    exact Viret dX5_getCell_26
def f_X5_putCell (σ : mS) (q : Nat) (x2 : Int32) (x3 : Int32) : Int32 × mS := (if (σ (q + 7) 0) = 0 then (ap (fun u2 => (0, u2.2)) (f_X1_count σ (σ q 0) x2 x3)) else (ap (fun u3 => (0, u3.2)) (f_X0_notePut σ (q + 7) x2 x3)))
theorem mw_X5_putCell : mW yX5_putCell cX5_putCell 4 none 3 := ⟨wd_co_yX5_putCell, wd_ini_RX5, ⟨by decide, by decide⟩, by decide +kernel, by decide⟩
set_option maxRecDepth 100000 in
set_option maxHeartbeats 4000000 in
theorem c_X5_putCell (l : Launch) {G : gT} (hF : Full G) (σ : mS) (q : Nat) (x2 : Int32) (x3 : Int32) (hq : sQ q) : Ct l G yX5_putCell cX5_putCell 4 none 2 [.ref (ad G 0), .ref (ad G q), .int x2, .int x3] κV σ (f_X5_putCell σ q x2 x3) := by
  refine Ct.ofV [(0, .ref (ad G 0)), (1, .ref (ad G q)), (2, .int x2), (3, .int x3)] rfl (by decide) (Nat.le_of_ble_eq_true rfl) rfl (fun X => ?_)
  unfold f_X5_putCell
  refine Vaload_n dX5_putCell_0 1 rfl 1 rfl ?_
  refine VgetN (q) 9 dX5_putCell_1 4 rfl (sI_ hF hq 0 (by decide)) (sk0 hq) rfl inX4 (by decide) wd_nfl_RX5_74 (v := .ref (ad G (q + 7))) rfl ?_
  refine VgetN (q + 7) 0 dX5_putCell_4 7 rfl (sI_ hF hq 7 (by decide)) (sk7 hq) rfl inX0 (by decide) wd_nfl_RX5_78 (v := .int (σ (q + 7) 0)) rfl ?_
  refine Vifeq (fun v => v) dX5_putCell_7 22 10 (by decide) rfl (fun h1 => ?_) (fun h1 => ?_)
  · refine Vaload_n dX5_putCell_22 0 rfl 23 rfl ?_
    refine Vget (0) 0 dX5_putCell_23 26 rfl (hF.1 0 (by decide)) wk0 rfl inX5 (by decide) wd_fl_RX5_10 (v := .ref (ad G 1)) rfl ?_
    refine Vaload_n dX5_putCell_26 1 rfl 27 rfl ?_
    refine VgetN (q) 0 dX5_putCell_27 30 rfl (sI_ hF hq 0 (by decide)) (sk0 hq) rfl inX4 (by decide) wd_nfl_RX5_233 (v := .int (σ q 0)) rfl ?_
    refine Vload_n dX5_putCell_30 2 rfl 31 rfl ?_
    refine Vload_n dX5_putCell_31 3 rfl 32 rfl ?_
    refine Vgen ?_
    intro u2 eu2
    refine VcVv (u := u2) dX5_putCell_32 [.int (σ q 0), .int x2, .int x3] (by rw [eu2]; exact c_X1_count l hF σ (σ q 0) x2 x3) mw_X1_count wd_im_yX1_count wd_se_yX1_count wd_ml_RX5_248 (hF.1 1 (by decide)) wk1 rfl rfl (by decide) rfl rfl (Nat.le_of_ble_eq_true rfl) 35 rfl ?_
    exact Vvret dX5_putCell_35
  · refine Vaload_n dX5_putCell_10 1 rfl 11 rfl ?_
    refine VgetN (q) 9 dX5_putCell_11 14 rfl (sI_ hF hq 0 (by decide)) (sk0 hq) rfl inX4 (by decide) wd_nfl_RX5_74 (v := .ref (ad G (q + 7))) rfl ?_
    refine Vload_n dX5_putCell_14 2 rfl 15 rfl ?_
    refine Vload_n dX5_putCell_15 3 rfl 16 rfl ?_
    refine Vgen ?_
    intro u3 eu3
    refine VcVv (u := u3) dX5_putCell_16 [.int x2, .int x3] (by rw [eu3]; exact c_X0_notePut l hF σ (q + 7) x2 x3 (sA hq)) mw_X0_notePut wd_im_yX0_notePut wd_se_yX0_notePut wd_ml_RX5_245 (sI_ hF hq 7 (by decide)) (sk7 hq) rfl rfl (by decide) rfl rfl (Nat.le_of_ble_eq_true rfl) 19 rfl ?_
    refine Vgoto dX5_putCell_19 35 (by decide) ?_
    exact Vvret dX5_putCell_35
def f_X5_loadItem (σ : mS) (q : Nat) (x2 : Int32) (x3 : Int32) (x4 : Int32) : Int32 × mS := (if (f_X3_failureAt σ x3 x4) = 0 then (ap (fun u2 => ((f_X3_failureAt σ x3 x4), u2.2)) (f_X4_keep σ q x2 (f_X3_itemOf σ x3 x4))) else ((f_X3_failureAt σ x3 x4), σ))
theorem mw_X5_loadItem : mW yX5_loadItem cX5_loadItem 6 (some .int) 4 := ⟨wd_co_yX5_loadItem, wd_ini_RX5, ⟨by decide, by decide⟩, by decide +kernel, by decide⟩
set_option maxRecDepth 100000 in
set_option maxHeartbeats 4000000 in
theorem c_X5_loadItem (l : Launch) {G : gT} (hF : Full G) (σ : mS) (q : Nat) (x2 : Int32) (x3 : Int32) (x4 : Int32) (hq : sQ q) : Ct l G yX5_loadItem cX5_loadItem 6 (some .int) 3 [.ref (ad G 0), .ref (ad G q), .int x2, .int x3, .int x4] κI σ (f_X5_loadItem σ q x2 x3 x4) := by
  refine Ct.ofV [(0, .ref (ad G 0)), (1, .ref (ad G q)), (2, .int x2), (3, .int x3), (4, .int x4)] rfl (by decide) (Nat.le_of_ble_eq_true rfl) rfl (fun X => ?_)
  unfold f_X5_loadItem
  refine Vaload_n dX5_loadItem_0 0 rfl 1 rfl ?_
  refine Vget (0) 1 dX5_loadItem_1 4 rfl (hF.1 0 (by decide)) wk0 rfl inX5 (by decide) wd_fl_RX5_19 (v := .ref (ad G 9)) rfl ?_
  refine Vload_n dX5_loadItem_4 3 rfl 5 rfl ?_
  refine Vload dX5_loadItem_5 4 rfl 7 rfl ?_
  refine VcVp dX5_loadItem_7 [.int x3, .int x4] (c_X3_failureAt l hF σ x3 x4) mw_X3_failureAt wd_im_yX3_failureAt wd_se_yX3_failureAt wd_ml_RX5_214 (hF.1 9 (by decide)) wk9 rfl rfl (by decide) rfl rfl (Nat.le_of_ble_eq_true rfl) 10 rfl ?_
  refine Vstore dX5_loadItem_10 [(5, .int (f_X3_failureAt σ x3 x4)), (0, .ref (ad G 0)), (1, .ref (ad G q)), (2, .int x2), (3, .int x3), (4, .int x4)] 12 rfl (by decide) rfl ?_
  refine Vload dX5_loadItem_12 0 rfl 14 rfl ?_
  refine Vifne (fun v => v) dX5_loadItem_14 32 17 (by decide) rfl (fun h1 => ?_) (fun h1 => ?_)
  · refine Vload dX5_loadItem_32 0 rfl 34 rfl ?_
    exact Viret dX5_loadItem_34
  · refine Vaload_n dX5_loadItem_17 2 rfl 18 rfl ?_
    refine Vload_n dX5_loadItem_18 3 rfl 19 rfl ?_
    refine Vaload_n dX5_loadItem_19 1 rfl 20 rfl ?_
    refine Vget (0) 1 dX5_loadItem_20 23 rfl (hF.1 0 (by decide)) wk0 rfl inX5 (by decide) wd_fl_RX5_19 (v := .ref (ad G 9)) rfl ?_
    refine Vload_n dX5_loadItem_23 4 rfl 24 rfl ?_
    refine Vload dX5_loadItem_24 5 rfl 26 rfl ?_
    refine VcVp dX5_loadItem_26 [.int x3, .int x4] (c_X3_itemOf l hF σ x3 x4) mw_X3_itemOf wd_im_yX3_itemOf wd_se_yX3_itemOf wd_ml_RX5_110 (hF.1 9 (by decide)) wk9 rfl rfl (by decide) rfl rfl (Nat.le_of_ble_eq_true rfl) 29 rfl ?_
    refine Vgen ?_
    intro u2 eu2
    refine VcVv (u := u2) dX5_loadItem_29 [.int x2, .int (f_X3_itemOf σ x3 x4)] (by rw [eu2]; exact c_X4_keep l hF σ q x2 (f_X3_itemOf σ x3 x4) hq) mw_X4_keep wd_im_yX4_keep wd_se_yX4_keep wd_ml_RX5_217 (sI_ hF hq 0 (by decide)) (sk0 hq) rfl rfl (by decide) rfl rfl (Nat.le_of_ble_eq_true rfl) 32 rfl ?_
    refine Vload dX5_loadItem_32 0 rfl 34 rfl ?_
    exact Viret dX5_loadItem_34
def f_X5_swapCell (σ : mS) (q : Nat) (x2 : Int32) (x3 : Int32) (x4 : Int32) : Int32 × mS := (if (f_X5_failureOfReading σ q x2) = 0 then (ap (fun u2 => (if u2.1 = (f_X4_held u2.2 q x3) then (ap (fun u8 => (ap (fun u10 => ((0 : Int32), u10.2)) (f_X4_keep u8.2 q x3 (1 : Int32)))) (f_X5_putCell u2.2 q x2 (f_X4_held u2.2 q x4))) else (ap (fun u6 => ((0 : Int32), u6.2)) (f_X4_keep u2.2 q x3 (0 : Int32))))) (f_X5_readCell σ q x2)) else ((f_X5_failureOfReading σ q x2), σ))
theorem mw_X5_swapCell : mW yX5_swapCell cX5_swapCell 7 (some .int) 4 := ⟨wd_co_yX5_swapCell, wd_ini_RX5, ⟨by decide, by decide⟩, by decide +kernel, by decide⟩
set_option maxRecDepth 100000 in
set_option maxHeartbeats 4000000 in
theorem c_X5_swapCell (l : Launch) {G : gT} (hF : Full G) (σ : mS) (q : Nat) (x2 : Int32) (x3 : Int32) (x4 : Int32) (hq : sQ q) : Ct l G yX5_swapCell cX5_swapCell 7 (some .int) 4 [.ref (ad G 0), .ref (ad G q), .int x2, .int x3, .int x4] κI σ (f_X5_swapCell σ q x2 x3 x4) := by
  refine Ct.ofV [(0, .ref (ad G 0)), (1, .ref (ad G q)), (2, .int x2), (3, .int x3), (4, .int x4)] rfl (by decide) (Nat.le_of_ble_eq_true rfl) rfl (fun X => ?_)
  unfold f_X5_swapCell
  refine Vaload_n dX5_swapCell_0 0 rfl 1 rfl ?_
  refine Vaload_n dX5_swapCell_1 1 rfl 2 rfl ?_
  refine Vload_n dX5_swapCell_2 2 rfl 3 rfl ?_
  refine VcVp dX5_swapCell_3 [.ref (ad G q), .int x2] (c_X5_failureOfReading l hF σ q x2 hq) mw_X5_failureOfReading wd_im_yX5_failureOfReading wd_se_yX5_failureOfReading wd_ml_RX5_220 (hF.1 0 (by decide)) wk0 rfl rfl (by decide) rfl rfl (Nat.le_of_ble_eq_true rfl) 6 rfl ?_
  refine Vstore dX5_swapCell_6 [(5, .int (f_X5_failureOfReading σ q x2)), (0, .ref (ad G 0)), (1, .ref (ad G q)), (2, .int x2), (3, .int x3), (4, .int x4)] 8 rfl (by decide) rfl ?_
  refine Vload dX5_swapCell_8 0 rfl 10 rfl ?_
  refine Vifeq (fun v => v) dX5_swapCell_10 16 13 (by decide) rfl (fun h1 => ?_) (fun h1 => ?_)
  · refine Vaload_n dX5_swapCell_16 1 rfl 17 rfl ?_
    refine Vaload_n dX5_swapCell_17 2 rfl 18 rfl ?_
    refine Vload_n dX5_swapCell_18 3 rfl 19 rfl ?_
    refine Vgen ?_
    intro u2 eu2
    refine VcVi (u := u2) dX5_swapCell_19 [.ref (ad G q), .int x2] (by rw [eu2]; exact c_X5_readCell l hF σ q x2 hq) mw_X5_readCell wd_im_yX5_readCell wd_se_yX5_readCell wd_ml_RX5_224 (hF.1 0 (by decide)) wk0 rfl rfl (by decide) rfl rfl (Nat.le_of_ble_eq_true rfl) 22 rfl ?_
    refine Vaload_n dX5_swapCell_22 2 rfl 23 rfl ?_
    refine Vload_n dX5_swapCell_23 4 rfl 24 rfl ?_
    refine VcVp dX5_swapCell_24 [.int x3] (c_X4_held l hF u2.2 q x3 hq) mw_X4_held wd_im_yX4_held wd_se_yX4_held wd_ml_RX5_91 (sI_ hF hq 0 (by decide)) (sk0 hq) rfl rfl (by decide) rfl rfl (Nat.le_of_ble_eq_true rfl) 27 rfl ?_
    refine Vicne (fun v => v) dX5_swapCell_27 34 30 (by decide) rfl (fun h3 => ?_) (fun h3 => ?_)
    · refine Viconst dX5_swapCell_34 (0 : Int32) (by decide) 35 rfl ?_
      refine Vstore dX5_swapCell_35 [(6, .int (0 : Int32)), (5, .int (f_X5_failureOfReading σ q x2)), (0, .ref (ad G 0)), (1, .ref (ad G q)), (2, .int x2), (3, .int x3), (4, .int x4)] 37 rfl (by decide) rfl ?_
      refine Vload dX5_swapCell_37 0 rfl 39 rfl ?_
      refine Kifeqt dX5_swapCell_39 54 (by decide) (by decide) ?_
      refine Vaload_n dX5_swapCell_54 3 rfl 55 rfl ?_
      refine Vload_n dX5_swapCell_55 5 rfl 56 rfl ?_
      refine Vload dX5_swapCell_56 0 rfl 58 rfl ?_
      refine Kifeqt dX5_swapCell_58 65 (by decide) (by decide) ?_
      refine Viconst dX5_swapCell_65 (0 : Int32) (by decide) 66 rfl ?_
      refine Vgen ?_
      intro u6 eu6
      refine VcVv (u := u6) dX5_swapCell_66 [.int x3, .int (0 : Int32)] (by rw [eu6]; exact c_X4_keep l hF u2.2 q x3 (0 : Int32) hq) mw_X4_keep wd_im_yX4_keep wd_se_yX4_keep wd_ml_RX5_217 (sI_ hF hq 0 (by decide)) (sk0 hq) rfl rfl (by decide) rfl rfl (Nat.le_of_ble_eq_true rfl) 69 rfl ?_
      refine Viconst dX5_swapCell_69 (0 : Int32) (by decide) 70 rfl ?_
      exact Viret dX5_swapCell_70
    · refine Viconst dX5_swapCell_30 (1 : Int32) (by decide) 31 rfl ?_
      refine Vgoto dX5_swapCell_31 35 (by decide) ?_
      refine Vstore dX5_swapCell_35 [(6, .int (1 : Int32)), (5, .int (f_X5_failureOfReading σ q x2)), (0, .ref (ad G 0)), (1, .ref (ad G q)), (2, .int x2), (3, .int x3), (4, .int x4)] 37 rfl (by decide) rfl ?_
      refine Vload dX5_swapCell_37 0 rfl 39 rfl ?_
      refine Kifeqf dX5_swapCell_39 42 (by decide) rfl 54 (by decide) ?_
      refine Vaload_n dX5_swapCell_42 2 rfl 43 rfl ?_
      refine Vaload_n dX5_swapCell_43 3 rfl 44 rfl ?_
      refine Vload_n dX5_swapCell_44 4 rfl 45 rfl ?_
      refine Vaload_n dX5_swapCell_45 3 rfl 46 rfl ?_
      refine Vload dX5_swapCell_46 6 rfl 48 rfl ?_
      refine VcVp dX5_swapCell_48 [.int x4] (c_X4_held l hF u2.2 q x4 hq) mw_X4_held wd_im_yX4_held wd_se_yX4_held wd_ml_RX5_91 (sI_ hF hq 0 (by decide)) (sk0 hq) rfl rfl (by decide) rfl rfl (Nat.le_of_ble_eq_true rfl) 51 rfl ?_
      refine Vgen ?_
      intro u8 eu8
      refine VcVv (u := u8) dX5_swapCell_51 [.ref (ad G q), .int x2, .int (f_X4_held u2.2 q x4)] (by rw [eu8]; exact c_X5_putCell l hF u2.2 q x2 (f_X4_held u2.2 q x4) hq) mw_X5_putCell wd_im_yX5_putCell wd_se_yX5_putCell wd_ml_RX5_183 (hF.1 0 (by decide)) wk0 rfl rfl (by decide) rfl rfl (Nat.le_of_ble_eq_true rfl) 54 rfl ?_
      refine Vaload_n dX5_swapCell_54 3 rfl 55 rfl ?_
      refine Vload_n dX5_swapCell_55 5 rfl 56 rfl ?_
      refine Vload dX5_swapCell_56 0 rfl 58 rfl ?_
      refine Kifeqf dX5_swapCell_58 61 (by decide) rfl 65 (by decide) ?_
      refine Viconst dX5_swapCell_61 (1 : Int32) (by decide) 62 rfl ?_
      refine Vgoto dX5_swapCell_62 66 (by decide) ?_
      refine Vgen ?_
      intro u10 eu10
      refine VcVv (u := u10) dX5_swapCell_66 [.int x3, .int (1 : Int32)] (by rw [eu10]; exact c_X4_keep l hF u8.2 q x3 (1 : Int32) hq) mw_X4_keep wd_im_yX4_keep wd_se_yX4_keep wd_ml_RX5_217 (sI_ hF hq 0 (by decide)) (sk0 hq) rfl rfl (by decide) rfl rfl (Nat.le_of_ble_eq_true rfl) 69 rfl ?_
      refine Viconst dX5_swapCell_69 (0 : Int32) (by decide) 70 rfl ?_
      exact Viret dX5_swapCell_70
  · refine Vload dX5_swapCell_13 0 rfl 15 rfl ?_
    exact Viret dX5_swapCell_15
def l_X5_isOvertaken_2 : Nat → Int32 → mS → Nat → Int32
  | 0, y2, σ, _ => 0
  | n + 1, y2, σ, q => (if (8 : Int32) ≤ y2 then (0 : Int32) else (if (f_X0_hasRead σ q y2) = 0 then (l_X5_isOvertaken_2 n (y2 + 1) σ q) else (if (f_X1_isLazy σ y2) = 0 then (if (f_X1_shown σ y2) = (f_X0_firstNumber σ q y2) then (l_X5_isOvertaken_2 n (y2 + 1) σ q) else (1 : Int32)) else (1 : Int32))))
set_option maxRecDepth 100000 in
set_option maxHeartbeats 4000000 in
theorem vl_X5_isOvertaken_2 (l : Launch) {G : gT} (X : xT) (hF : Full G) (σ : mS) (q : Nat) (hq : aQ q) : ∀ (n : Nat) (y2 : Int32) (i : Nat) (hc : y2 = nI i) (hi : i ≤ 8) (hn : n + i = 9), V l G X RX5 cX5_isOvertaken 3 2 (some .boolean) κI ((fun v => (v, σ)) (l_X5_isOvertaken_2 n y2 σ q)) σ 2 [(0, .ref (ad G 0)), (1, .ref (ad G q)), (2, .int y2)] [] := by
  intro n
  induction n with
  | zero => intro y2 i hc hi hn; exact absurd hn (by omega)
  | succ n ih =>
    intro y2 i hc hi hn
    rw [l_X5_isOvertaken_2.eq_2]
    refine Vload_n dX5_isOvertaken_2 2 rfl 3 rfl ?_
    refine Vbipush dX5_isOvertaken_3 (8 : Int32) (by decide) 5 rfl ?_
    refine Vicge (fun v => (v, σ)) dX5_isOvertaken_5 51 8 (by decide) rfl (fun h1 => ?_) (fun h1 => ?_)
    · refine Viconst dX5_isOvertaken_51 (0 : Int32) (by decide) 52 rfl ?_
      exact Vzret dX5_isOvertaken_52 (by first | decide | exact nb_isRegister _ | exact nb_isRow _ | exact nb_isPlace _ | exact nb_within _ _ _ | exact nb_mRegister _ | exact nb_mCell _ | exact nb_mPlace _)
    · refine Vaload_n dX5_isOvertaken_8 1 rfl 9 rfl ?_
      refine Vload_n dX5_isOvertaken_9 2 rfl 10 rfl ?_
      refine VcVp dX5_isOvertaken_10 [.int y2] (c_X0_hasRead l hF σ q y2 hq) mw_X0_hasRead wd_im_yX0_hasRead wd_se_yX0_hasRead wd_ml_RX5_261 (aI_ hF hq 0 (by decide)) (ak0 hq) rfl rfl (by decide) rfl rfl (Nat.le_of_ble_eq_true rfl) 13 rfl ?_
      refine Vifeq (fun v => (v, σ)) dX5_isOvertaken_13 45 16 (by decide) rfl (fun h2 => ?_) (fun h2 => ?_)
      · refine Viinc dX5_isOvertaken_45 (y2 + 1) 2 [(2, .int (y2 + 1)), (0, .ref (ad G 0)), (1, .ref (ad G q))] 48 rfl rfl rfl (by decide) rfl ?_
        refine Vgoto dX5_isOvertaken_48 2 (by decide) ?_
        refine Vlv [1, 2, 0] rfl ?_
        exact ih (y2 + 1) (i + 1) (cnt_s hc) (cnt_lt hc (by assumption) (K := 8) (by decide) (by decide) hi) (by omega)
      · refine Vaload_n dX5_isOvertaken_16 0 rfl 17 rfl ?_
        refine Vget (0) 0 dX5_isOvertaken_17 20 rfl (hF.1 0 (by decide)) wk0 rfl inX5 (by decide) wd_fl_RX5_10 (v := .ref (ad G 1)) rfl ?_
        refine Vload_n dX5_isOvertaken_20 2 rfl 21 rfl ?_
        refine VcVp dX5_isOvertaken_21 [.int y2] (c_X1_isLazy l hF σ y2) mw_X1_isLazy wd_im_yX1_isLazy wd_se_yX1_isLazy wd_ml_RX5_101 (hF.1 1 (by decide)) wk1 rfl rfl (by decide) rfl rfl (Nat.le_of_ble_eq_true rfl) 24 rfl ?_
        refine Vifne (fun v => (v, σ)) dX5_isOvertaken_24 43 27 (by decide) rfl (fun h3 => ?_) (fun h3 => ?_)
        · refine Viconst dX5_isOvertaken_43 (1 : Int32) (by decide) 44 rfl ?_
          exact Vzret dX5_isOvertaken_44 (by first | decide | exact nb_isRegister _ | exact nb_isRow _ | exact nb_isPlace _ | exact nb_within _ _ _ | exact nb_mRegister _ | exact nb_mCell _ | exact nb_mPlace _)
        · refine Vaload_n dX5_isOvertaken_27 0 rfl 28 rfl ?_
          refine Vget (0) 0 dX5_isOvertaken_28 31 rfl (hF.1 0 (by decide)) wk0 rfl inX5 (by decide) wd_fl_RX5_10 (v := .ref (ad G 1)) rfl ?_
          refine Vload_n dX5_isOvertaken_31 2 rfl 32 rfl ?_
          refine VcVp dX5_isOvertaken_32 [.int y2] (c_X1_shown l hF σ y2) mw_X1_shown wd_im_yX1_shown wd_se_yX1_shown wd_ml_RX5_98 (hF.1 1 (by decide)) wk1 rfl rfl (by decide) rfl rfl (Nat.le_of_ble_eq_true rfl) 35 rfl ?_
          refine Vaload_n dX5_isOvertaken_35 1 rfl 36 rfl ?_
          refine Vload_n dX5_isOvertaken_36 2 rfl 37 rfl ?_
          refine VcVp dX5_isOvertaken_37 [.int y2] (c_X0_firstNumber l hF σ q y2 hq) mw_X0_firstNumber wd_im_yX0_firstNumber wd_se_yX0_firstNumber wd_ml_RX5_264 (aI_ hF hq 0 (by decide)) (ak0 hq) rfl rfl (by decide) rfl rfl (Nat.le_of_ble_eq_true rfl) 40 rfl ?_
          refine Viceq (fun v => (v, σ)) dX5_isOvertaken_40 45 43 (by decide) rfl (fun h4 => ?_) (fun h4 => ?_)
          · refine Viinc dX5_isOvertaken_45 (y2 + 1) 2 [(2, .int (y2 + 1)), (0, .ref (ad G 0)), (1, .ref (ad G q))] 48 rfl rfl rfl (by decide) rfl ?_
            refine Vgoto dX5_isOvertaken_48 2 (by decide) ?_
            refine Vlv [1, 2, 0] rfl ?_
            exact ih (y2 + 1) (i + 1) (cnt_s hc) (cnt_lt hc (by assumption) (K := 8) (by decide) (by decide) hi) (by omega)
          · refine Viconst dX5_isOvertaken_43 (1 : Int32) (by decide) 44 rfl ?_
            exact Vzret dX5_isOvertaken_44 (by first | decide | exact nb_isRegister _ | exact nb_isRow _ | exact nb_isPlace _ | exact nb_within _ _ _ | exact nb_mRegister _ | exact nb_mCell _ | exact nb_mPlace _)
def f_X5_isOvertaken (σ : mS) (q : Nat) : Int32 := (l_X5_isOvertaken_2 9 (0 : Int32) σ q)
theorem mw_X5_isOvertaken : mW yX5_isOvertaken cX5_isOvertaken 3 (some .boolean) 1 := ⟨wd_co_yX5_isOvertaken, wd_ini_RX5, ⟨by decide, by decide⟩, by decide +kernel, by decide⟩
set_option maxRecDepth 100000 in
set_option maxHeartbeats 4000000 in
theorem c_X5_isOvertaken (l : Launch) {G : gT} (hF : Full G) (σ : mS) (q : Nat) (hq : aQ q) : Ct l G yX5_isOvertaken cX5_isOvertaken 3 (some .boolean) 2 [.ref (ad G 0), .ref (ad G q)] κI σ (f_X5_isOvertaken σ q, σ) := by
  refine Ct.ofV [(0, .ref (ad G 0)), (1, .ref (ad G q))] rfl (by decide) (Nat.le_of_ble_eq_true rfl) rfl (fun X => ?_)
  unfold f_X5_isOvertaken
  refine Viconst dX5_isOvertaken_0 (0 : Int32) (by decide) 1 rfl ?_
  refine Vstore_n dX5_isOvertaken_1 [(2, .int (0 : Int32)), (0, .ref (ad G 0)), (1, .ref (ad G q))] 2 rfl (by decide) rfl ?_
  refine Vlv [1, 2, 0] rfl ?_
  exact vl_X5_isOvertaken_2 l X hF σ q hq 9 (0 : Int32) 0 nI_0.symm (Nat.zero_le _) rfl
def l_X5_endAtom_41 : Nat → Int32 → mS → Nat → Int32 × mS
  | 0, y3, σ, _ => (0, σ)
  | n + 1, y3, σ, q => (if (8 : Int32) ≤ y3 then ((0 : Int32), (st2 σ (q + 7) 0 (0 : Int32))) else (if (f_X0_hasPut σ (q + 7) y3) = 0 then (l_X5_endAtom_41 n (y3 + 1) σ q) else (ap (fun u6 => (l_X5_endAtom_41 n (y3 + 1) u6.2 q)) (f_X1_count σ (σ q 0) y3 (f_X0_putNumber σ (q + 7) y3)))))
set_option maxRecDepth 100000 in
set_option maxHeartbeats 4000000 in
theorem vl_X5_endAtom_41 (l : Launch) {G : gT} (X : xT) (hF : Full G) (q : Nat) (hq : sQ q) : ∀ (n : Nat) (y3 : Int32) (σ : mS) (i : Nat) (hc : y3 = nI i) (hi : i ≤ 8) (hn : n + i = 9), V l G X RX5 cX5_endAtom 4 3 (some .int) κI ((fun v => v) (l_X5_endAtom_41 n y3 σ q)) σ 41 [(0, .ref (ad G 0)), (1, .ref (ad G q)), (2, .ref (ad G (q + 7))), (3, .int y3)] [] := by
  intro n
  induction n with
  | zero => intro y3 σ i hc hi hn; exact absurd hn (by omega)
  | succ n ih =>
    intro y3 σ i hc hi hn
    rw [l_X5_endAtom_41.eq_2]
    refine Vload_n dX5_endAtom_41 3 rfl 42 rfl ?_
    refine Vbipush dX5_endAtom_42 (8 : Int32) (by decide) 44 rfl ?_
    refine Vicge (fun v => v) dX5_endAtom_44 78 47 (by decide) rfl (fun h4 => ?_) (fun h4 => ?_)
    · refine Vaload_n dX5_endAtom_78 2 rfl 79 rfl ?_
      refine Viconst dX5_endAtom_79 (0 : Int32) (by decide) 80 rfl ?_
      refine VputN (q + 7) 0 tyX0 dX5_endAtom_80 83 rfl (sI_ hF hq 7 (by decide)) (sk7 hq) rfl inX0 tyX0_ok nmX0 (by decide) wd_nfl_RX5_78 rfl (ty := .boolean) (by decide +kernel) (by decide) (by decide) (fun f => rfl) (fun f => Nat.le_of_ble_eq_true rfl) ?_
      refine Viconst dX5_endAtom_83 (0 : Int32) (by decide) 84 rfl ?_
      exact Viret dX5_endAtom_84
    · refine Vaload_n dX5_endAtom_47 2 rfl 48 rfl ?_
      refine Vload_n dX5_endAtom_48 3 rfl 49 rfl ?_
      refine VcVp dX5_endAtom_49 [.int y3] (c_X0_hasPut l hF σ (q + 7) y3 (sA hq)) mw_X0_hasPut wd_im_yX0_hasPut wd_se_yX0_hasPut wd_ml_RX5_227 (sI_ hF hq 7 (by decide)) (sk7 hq) rfl rfl (by decide) rfl rfl (Nat.le_of_ble_eq_true rfl) 52 rfl ?_
      refine Vifeq (fun v => v) dX5_endAtom_52 72 55 (by decide) rfl (fun h5 => ?_) (fun h5 => ?_)
      · refine Viinc dX5_endAtom_72 (y3 + 1) 3 [(3, .int (y3 + 1)), (0, .ref (ad G 0)), (1, .ref (ad G q)), (2, .ref (ad G (q + 7)))] 75 rfl rfl rfl (by decide) rfl ?_
        refine Vgoto dX5_endAtom_75 41 (by decide) ?_
        refine Vlv [1, 2, 3, 0] rfl ?_
        exact ih (y3 + 1) σ (i + 1) (cnt_s hc) (cnt_lt hc (by assumption) (K := 8) (by decide) (by decide) hi) (by omega)
      · refine Vaload_n dX5_endAtom_55 0 rfl 56 rfl ?_
        refine Vget (0) 0 dX5_endAtom_56 59 rfl (hF.1 0 (by decide)) wk0 rfl inX5 (by decide) wd_fl_RX5_10 (v := .ref (ad G 1)) rfl ?_
        refine Vaload_n dX5_endAtom_59 1 rfl 60 rfl ?_
        refine VgetN (q) 0 dX5_endAtom_60 63 rfl (sI_ hF hq 0 (by decide)) (sk0 hq) rfl inX4 (by decide) wd_nfl_RX5_233 (v := .int (σ q 0)) rfl ?_
        refine Vload_n dX5_endAtom_63 3 rfl 64 rfl ?_
        refine Vaload_n dX5_endAtom_64 2 rfl 65 rfl ?_
        refine Vload_n dX5_endAtom_65 3 rfl 66 rfl ?_
        refine VcVp dX5_endAtom_66 [.int y3] (c_X0_putNumber l hF σ (q + 7) y3 (sA hq)) mw_X0_putNumber wd_im_yX0_putNumber wd_se_yX0_putNumber wd_ml_RX5_239 (sI_ hF hq 7 (by decide)) (sk7 hq) rfl rfl (by decide) rfl rfl (Nat.le_of_ble_eq_true rfl) 69 rfl ?_
        refine Vgen ?_
        intro u6 eu6
        refine VcVv (u := u6) dX5_endAtom_69 [.int (σ q 0), .int y3, .int (f_X0_putNumber σ (q + 7) y3)] (by rw [eu6]; exact c_X1_count l hF σ (σ q 0) y3 (f_X0_putNumber σ (q + 7) y3)) mw_X1_count wd_im_yX1_count wd_se_yX1_count wd_ml_RX5_248 (hF.1 1 (by decide)) wk1 rfl rfl (by decide) rfl rfl (Nat.le_of_ble_eq_true rfl) 72 rfl ?_
        refine Viinc dX5_endAtom_72 (y3 + 1) 3 [(3, .int (y3 + 1)), (0, .ref (ad G 0)), (1, .ref (ad G q)), (2, .ref (ad G (q + 7)))] 75 rfl rfl rfl (by decide) rfl ?_
        refine Vgoto dX5_endAtom_75 41 (by decide) ?_
        refine Vlv [1, 2, 3, 0] rfl ?_
        exact ih (y3 + 1) u6.2 (i + 1) (cnt_s hc) (cnt_lt hc (by assumption) (K := 8) (by decide) (by decide) hi) (by omega)
def f_X5_endAtom (σ : mS) (q : Nat) : Int32 × mS := (if (σ (q + 7) 0) = 0 then ((5 : Int32), σ) else (if (σ q 8) ≤ (σ (q + 7) 2) then (if (f_X5_isOvertaken σ (q + 7)) = 0 then (l_X5_endAtom_41 9 (0 : Int32) σ q) else (ap (fun u7 => ((0 : Int32), u7.2)) (f_X4_beginAnew σ q))) else ((5 : Int32), σ)))
theorem mw_X5_endAtom : mW yX5_endAtom cX5_endAtom 4 (some .int) 1 := ⟨wd_co_yX5_endAtom, wd_ini_RX5, ⟨by decide, by decide⟩, by decide +kernel, by decide⟩
set_option maxRecDepth 100000 in
set_option maxHeartbeats 4000000 in
theorem c_X5_endAtom (l : Launch) {G : gT} (hF : Full G) (σ : mS) (q : Nat) (hq : sQ q) : Ct l G yX5_endAtom cX5_endAtom 4 (some .int) 3 [.ref (ad G 0), .ref (ad G q)] κI σ (f_X5_endAtom σ q) := by
  refine Ct.ofV [(0, .ref (ad G 0)), (1, .ref (ad G q))] rfl (by decide) (Nat.le_of_ble_eq_true rfl) rfl (fun X => ?_)
  unfold f_X5_endAtom
  refine Vaload_n dX5_endAtom_0 1 rfl 1 rfl ?_
  refine VgetN (q) 9 dX5_endAtom_1 4 rfl (sI_ hF hq 0 (by decide)) (sk0 hq) rfl inX4 (by decide) wd_nfl_RX5_74 (v := .ref (ad G (q + 7))) rfl ?_
  refine Vastore_n dX5_endAtom_4 [(2, .ref (ad G (q + 7))), (0, .ref (ad G 0)), (1, .ref (ad G q))] 5 rfl (by decide) rfl ?_
  refine Vaload_n dX5_endAtom_5 0 rfl 6 rfl ?_
  refine VgetN (q + 7) 0 dX5_endAtom_6 9 rfl (sI_ hF hq 7 (by decide)) (sk7 hq) rfl inX0 (by decide) wd_nfl_RX5_78 (v := .int (σ (q + 7) 0)) rfl ?_
  refine Vifeq (fun v => v) dX5_endAtom_9 23 12 (by decide) rfl (fun h1 => ?_) (fun h1 => ?_)
  · refine Viconst dX5_endAtom_23 (5 : Int32) (by decide) 24 rfl ?_
    exact Viret dX5_endAtom_24
  · refine Vaload_n dX5_endAtom_12 2 rfl 13 rfl ?_
    refine VgetN (q) 8 dX5_endAtom_13 16 rfl (sI_ hF hq 0 (by decide)) (sk0 hq) rfl inX4 (by decide) wd_nfl_RX5_71 (v := .int (σ q 8)) rfl ?_
    refine Vaload_n dX5_endAtom_16 0 rfl 17 rfl ?_
    refine VgetN (q + 7) 2 dX5_endAtom_17 20 rfl (sI_ hF hq 7 (by decide)) (sk7 hq) rfl inX0 (by decide) wd_nfl_RX5_251 (v := .int (σ (q + 7) 2)) rfl ?_
    refine Vicle (fun v => v) dX5_endAtom_20 25 23 (by decide) rfl (fun h2 => ?_) (fun h2 => ?_)
    · refine Vaload_n dX5_endAtom_25 1 rfl 26 rfl ?_
      refine Vaload_n dX5_endAtom_26 0 rfl 27 rfl ?_
      refine VcVp dX5_endAtom_27 [.ref (ad G (q + 7))] (c_X5_isOvertaken l hF σ (q + 7) (sA hq)) mw_X5_isOvertaken wd_im_yX5_isOvertaken wd_se_yX5_isOvertaken wd_ml_RX5_254 (hF.1 0 (by decide)) wk0 rfl rfl (by decide) rfl rfl (Nat.le_of_ble_eq_true rfl) 30 rfl ?_
      refine Vifeq (fun v => v) dX5_endAtom_30 39 33 (by decide) rfl (fun h3 => ?_) (fun h3 => ?_)
      · refine Viconst dX5_endAtom_39 (0 : Int32) (by decide) 40 rfl ?_
        refine Vstore_n dX5_endAtom_40 [(3, .int (0 : Int32)), (2, .ref (ad G (q + 7))), (0, .ref (ad G 0)), (1, .ref (ad G q))] 41 rfl (by decide) rfl ?_
        refine Vlv [2, 3, 1, 0] rfl ?_
        exact vl_X5_endAtom_41 l X hF q hq 9 (0 : Int32) σ 0 nI_0.symm (Nat.zero_le _) rfl
      · refine Vaload_n dX5_endAtom_33 2 rfl 34 rfl ?_
        refine Vgen ?_
        intro u7 eu7
        refine VcVv (u := u7) dX5_endAtom_34 [] (by rw [eu7]; exact c_X4_beginAnew l hF σ q hq) mw_X4_beginAnew wd_im_yX4_beginAnew wd_se_yX4_beginAnew wd_ml_RX5_258 (sI_ hF hq 0 (by decide)) (sk0 hq) rfl rfl (by decide) rfl rfl (Nat.le_of_ble_eq_true rfl) 37 rfl ?_
        refine Viconst dX5_endAtom_37 (0 : Int32) (by decide) 38 rfl ?_
        exact Viret dX5_endAtom_38
    · refine Viconst dX5_endAtom_23 (5 : Int32) (by decide) 24 rfl ?_
      exact Viret dX5_endAtom_24
def f_X5_perform (σ : mS) (q : Nat) : Int32 × mS := (if (σ q 10) < 0 then ((5 : Int32), σ) else (if (σ q 5) ≤ (σ q 10) then ((5 : Int32), σ) else (if (σ q 10) < (24 : Int32) then (if (σ (q + 7) 0) = 0 then (if (σ (q + 1) (σ q 10).toNatClampNeg) = (1 : Int32) then (ap (fun u6 => (u6.1, u6.2)) (f_X5_getCell σ q (σ (q + 2) (σ q 10).toNatClampNeg) (σ (q + 3) (σ q 10).toNatClampNeg))) else (if (σ (q + 1) (σ q 10).toNatClampNeg) = (2 : Int32) then (ap (fun u8 => ((0 : Int32), u8.2)) (f_X5_putCell σ q (σ (q + 2) (σ q 10).toNatClampNeg) (f_X4_held σ q (σ (q + 3) (σ q 10).toNatClampNeg)))) else (if (σ (q + 1) (σ q 10).toNatClampNeg) = (7 : Int32) then (ap (fun u10 => (u10.1, u10.2)) (f_X5_loadItem σ q (σ (q + 2) (σ q 10).toNatClampNeg) (σ (q + 3) (σ q 10).toNatClampNeg) (f_X4_held σ q (σ (q + 4) (σ q 10).toNatClampNeg)))) else (if (σ (q + 1) (σ q 10).toNatClampNeg) = (8 : Int32) then (ap (fun u12 => (u12.1, u12.2)) (f_X3_store σ (σ (q + 2) (σ q 10).toNatClampNeg) (f_X4_held σ q (σ (q + 3) (σ q 10).toNatClampNeg)) (f_X4_held σ q (σ (q + 4) (σ q 10).toNatClampNeg)))) else (if (σ (q + 1) (σ q 10).toNatClampNeg) = (9 : Int32) then (ap (fun u14 => (u14.1, u14.2)) (f_X5_swapCell σ q (σ (q + 2) (σ q 10).toNatClampNeg) (σ (q + 3) (σ q 10).toNatClampNeg) (σ (q + 4) (σ q 10).toNatClampNeg))) else (if (σ (q + 1) (σ q 10).toNatClampNeg) = (13 : Int32) then (ap (fun u16 => (u16.1, u16.2)) (f_X5_endAtom σ q)) else (if (σ (q + 1) (σ q 10).toNatClampNeg) = (17 : Int32) then (ap (fun u18 => (u18.1, u18.2)) (f_X3_make σ (σ (q + 2) (σ q 10).toNatClampNeg) (f_X4_held σ q (σ (q + 3) (σ q 10).toNatClampNeg)))) else (if (σ (q + 1) (σ q 10).toNatClampNeg) = (18 : Int32) then (ap (fun u20 => (u20.1, u20.2)) (f_X3_freeze σ (σ (q + 2) (σ q 10).toNatClampNeg))) else (if (σ (q + 1) (σ q 10).toNatClampNeg) = (19 : Int32) then (ap (fun u22 => ((0 : Int32), u22.2)) (f_X1_defer σ (σ (q + 2) (σ q 10).toNatClampNeg) (σ (q + 3) (σ q 10).toNatClampNeg))) else (ap (fun u23 => (u23.1, u23.2)) (f_X4_performAlone σ q (σ (q + 1) (σ q 10).toNatClampNeg) (σ (q + 2) (σ q 10).toNatClampNeg) (σ (q + 3) (σ q 10).toNatClampNeg) (σ (q + 4) (σ q 10).toNatClampNeg)))))))))))) else (if (f_X5_isBarredFromAtoms (σ (q + 1) (σ q 10).toNatClampNeg)) = 0 then (if (σ (q + 1) (σ q 10).toNatClampNeg) = (1 : Int32) then (ap (fun u37 => (u37.1, u37.2)) (f_X5_getCell σ q (σ (q + 2) (σ q 10).toNatClampNeg) (σ (q + 3) (σ q 10).toNatClampNeg))) else (if (σ (q + 1) (σ q 10).toNatClampNeg) = (2 : Int32) then (ap (fun u39 => ((0 : Int32), u39.2)) (f_X5_putCell σ q (σ (q + 2) (σ q 10).toNatClampNeg) (f_X4_held σ q (σ (q + 3) (σ q 10).toNatClampNeg)))) else (if (σ (q + 1) (σ q 10).toNatClampNeg) = (7 : Int32) then (ap (fun u41 => (u41.1, u41.2)) (f_X5_loadItem σ q (σ (q + 2) (σ q 10).toNatClampNeg) (σ (q + 3) (σ q 10).toNatClampNeg) (f_X4_held σ q (σ (q + 4) (σ q 10).toNatClampNeg)))) else (if (σ (q + 1) (σ q 10).toNatClampNeg) = (8 : Int32) then (ap (fun u43 => (u43.1, u43.2)) (f_X3_store σ (σ (q + 2) (σ q 10).toNatClampNeg) (f_X4_held σ q (σ (q + 3) (σ q 10).toNatClampNeg)) (f_X4_held σ q (σ (q + 4) (σ q 10).toNatClampNeg)))) else (if (σ (q + 1) (σ q 10).toNatClampNeg) = (9 : Int32) then (ap (fun u45 => (u45.1, u45.2)) (f_X5_swapCell σ q (σ (q + 2) (σ q 10).toNatClampNeg) (σ (q + 3) (σ q 10).toNatClampNeg) (σ (q + 4) (σ q 10).toNatClampNeg))) else (if (σ (q + 1) (σ q 10).toNatClampNeg) = (13 : Int32) then (ap (fun u47 => (u47.1, u47.2)) (f_X5_endAtom σ q)) else (if (σ (q + 1) (σ q 10).toNatClampNeg) = (17 : Int32) then (ap (fun u49 => (u49.1, u49.2)) (f_X3_make σ (σ (q + 2) (σ q 10).toNatClampNeg) (f_X4_held σ q (σ (q + 3) (σ q 10).toNatClampNeg)))) else (if (σ (q + 1) (σ q 10).toNatClampNeg) = (18 : Int32) then (ap (fun u51 => (u51.1, u51.2)) (f_X3_freeze σ (σ (q + 2) (σ q 10).toNatClampNeg))) else (if (σ (q + 1) (σ q 10).toNatClampNeg) = (19 : Int32) then (ap (fun u53 => ((0 : Int32), u53.2)) (f_X1_defer σ (σ (q + 2) (σ q 10).toNatClampNeg) (σ (q + 3) (σ q 10).toNatClampNeg))) else (ap (fun u54 => (u54.1, u54.2)) (f_X4_performAlone σ q (σ (q + 1) (σ q 10).toNatClampNeg) (σ (q + 2) (σ q 10).toNatClampNeg) (σ (q + 3) (σ q 10).toNatClampNeg) (σ (q + 4) (σ q 10).toNatClampNeg)))))))))))) else ((5 : Int32), σ))) else ((5 : Int32), σ))))
theorem mw_X5_perform : mW yX5_perform cX5_perform 7 (some .int) 1 := ⟨wd_co_yX5_perform, wd_ini_RX5, ⟨by decide, by decide⟩, by decide +kernel, by decide⟩
set_option maxRecDepth 100000 in
set_option maxHeartbeats 4000000 in
theorem c_X5_perform (l : Launch) {G : gT} (hF : Full G) (σ : mS) (q : Nat) (hq : sQ q) : Ct l G yX5_perform cX5_perform 7 (some .int) 5 [.ref (ad G 0), .ref (ad G q)] κI σ (f_X5_perform σ q) := by
  refine Ct.ofV [(0, .ref (ad G 0)), (1, .ref (ad G q))] rfl (by decide) (Nat.le_of_ble_eq_true rfl) rfl (fun X => ?_)
  unfold f_X5_perform
  refine Vaload_n dX5_perform_0 1 rfl 1 rfl ?_
  refine VgetN (q) 10 dX5_perform_1 4 rfl (sI_ hF hq 0 (by decide)) (sk0 hq) rfl inX4 (by decide) wd_nfl_RX5_65 (v := .int (σ q 10)) rfl ?_
  refine Vstore_n dX5_perform_4 [(2, .int (σ q 10)), (0, .ref (ad G 0)), (1, .ref (ad G q))] 5 rfl (by decide) rfl ?_
  refine Vload_n dX5_perform_5 0 rfl 6 rfl ?_
  refine Viflt (fun v => v) dX5_perform_6 23 9 (by decide) rfl (fun h1 => ?_) (fun h1 => ?_)
  · refine Viconst dX5_perform_23 (5 : Int32) (by decide) 24 rfl ?_
    exact Viret dX5_perform_24
  · refine Vload_n dX5_perform_9 0 rfl 10 rfl ?_
    refine Vaload_n dX5_perform_10 2 rfl 11 rfl ?_
    refine VgetN (q) 5 dX5_perform_11 14 rfl (sI_ hF hq 0 (by decide)) (sk0 hq) rfl inX4 (by decide) wd_nfl_RX5_47 (v := .int (σ q 5)) rfl ?_
    refine Vicge (fun v => v) dX5_perform_14 23 17 (by decide) rfl (fun h2 => ?_) (fun h2 => ?_)
    · refine Viconst dX5_perform_23 (5 : Int32) (by decide) 24 rfl ?_
      exact Viret dX5_perform_24
    · refine Vload_n dX5_perform_17 0 rfl 18 rfl ?_
      refine Vbipush dX5_perform_18 (24 : Int32) (by decide) 20 rfl ?_
      refine Viclt (fun v => v) dX5_perform_20 25 23 (by decide) rfl (fun h3 => ?_) (fun h3 => ?_)
      · refine Vaload_n dX5_perform_25 2 rfl 26 rfl ?_
        refine VgetN (q) 1 dX5_perform_26 29 rfl (sI_ hF hq 0 (by decide)) (sk0 hq) rfl inX4 (by decide) wd_nfl_RX5_163 (v := .ref (ad G (q + 1))) rfl ?_
        refine Vload_n dX5_perform_29 0 rfl 30 rfl ?_
        refine Vld dX5_perform_30 31 rfl (sI_ hF hq 1 (by decide)) (sk1 hq) (sn1 hq) hF.2.1 (by first | exact (by assumption) | exact (vin_cmp2 (by assumption) (by assumption) (by decide)) | exact (vin_cell (by assumption)) | exact (vin_reg (by assumption)) | exact (vin_row (by assumption)) | exact (vin_cnt (by assumption) (by assumption) (by decide) (by decide) (by assumption)) | exact (vin_cmp (by assumption) (by assumption) (by decide)) | exact (vp_in_iff.mpr (by decide))) ?_
        refine Vstore_n dX5_perform_31 [(3, .int (σ (q + 1) (σ q 10).toNatClampNeg)), (2, .int (σ q 10)), (0, .ref (ad G 0)), (1, .ref (ad G q))] 32 rfl (by decide) rfl ?_
        refine Vaload_n dX5_perform_32 3 rfl 33 rfl ?_
        refine VgetN (q) 2 dX5_perform_33 36 rfl (sI_ hF hq 0 (by decide)) (sk0 hq) rfl inX4 (by decide) wd_nfl_RX5_167 (v := .ref (ad G (q + 2))) rfl ?_
        refine Vload_n dX5_perform_36 1 rfl 37 rfl ?_
        refine Vld dX5_perform_37 38 rfl (sI_ hF hq 2 (by decide)) (sk2 hq) (sn2 hq) hF.2.1 (by first | exact (by assumption) | exact (vin_cmp2 (by assumption) (by assumption) (by decide)) | exact (vin_cell (by assumption)) | exact (vin_reg (by assumption)) | exact (vin_row (by assumption)) | exact (vin_cnt (by assumption) (by assumption) (by decide) (by decide) (by assumption)) | exact (vin_cmp (by assumption) (by assumption) (by decide)) | exact (vp_in_iff.mpr (by decide))) ?_
        refine Vstore dX5_perform_38 [(4, .int (σ (q + 2) (σ q 10).toNatClampNeg)), (3, .int (σ (q + 1) (σ q 10).toNatClampNeg)), (2, .int (σ q 10)), (0, .ref (ad G 0)), (1, .ref (ad G q))] 40 rfl (by decide) rfl ?_
        refine Vaload_n dX5_perform_40 4 rfl 41 rfl ?_
        refine VgetN (q) 3 dX5_perform_41 44 rfl (sI_ hF hq 0 (by decide)) (sk0 hq) rfl inX4 (by decide) wd_nfl_RX5_170 (v := .ref (ad G (q + 3))) rfl ?_
        refine Vload_n dX5_perform_44 2 rfl 45 rfl ?_
        refine Vld dX5_perform_45 46 rfl (sI_ hF hq 3 (by decide)) (sk3 hq) (sn3 hq) hF.2.1 (by first | exact (by assumption) | exact (vin_cmp2 (by assumption) (by assumption) (by decide)) | exact (vin_cell (by assumption)) | exact (vin_reg (by assumption)) | exact (vin_row (by assumption)) | exact (vin_cnt (by assumption) (by assumption) (by decide) (by decide) (by assumption)) | exact (vin_cmp (by assumption) (by assumption) (by decide)) | exact (vp_in_iff.mpr (by decide))) ?_
        refine Vstore dX5_perform_46 [(5, .int (σ (q + 3) (σ q 10).toNatClampNeg)), (4, .int (σ (q + 2) (σ q 10).toNatClampNeg)), (3, .int (σ (q + 1) (σ q 10).toNatClampNeg)), (2, .int (σ q 10)), (0, .ref (ad G 0)), (1, .ref (ad G q))] 48 rfl (by decide) rfl ?_
        refine Vaload_n dX5_perform_48 5 rfl 49 rfl ?_
        refine VgetN (q) 4 dX5_perform_49 52 rfl (sI_ hF hq 0 (by decide)) (sk0 hq) rfl inX4 (by decide) wd_nfl_RX5_173 (v := .ref (ad G (q + 4))) rfl ?_
        refine Vload_n dX5_perform_52 3 rfl 53 rfl ?_
        refine Vld dX5_perform_53 54 rfl (sI_ hF hq 4 (by decide)) (sk4 hq) (sn4 hq) hF.2.1 (by first | exact (by assumption) | exact (vin_cmp2 (by assumption) (by assumption) (by decide)) | exact (vin_cell (by assumption)) | exact (vin_reg (by assumption)) | exact (vin_row (by assumption)) | exact (vin_cnt (by assumption) (by assumption) (by decide) (by decide) (by assumption)) | exact (vin_cmp (by assumption) (by assumption) (by decide)) | exact (vp_in_iff.mpr (by decide))) ?_
        refine Vstore dX5_perform_54 [(6, .int (σ (q + 4) (σ q 10).toNatClampNeg)), (5, .int (σ (q + 3) (σ q 10).toNatClampNeg)), (4, .int (σ (q + 2) (σ q 10).toNatClampNeg)), (3, .int (σ (q + 1) (σ q 10).toNatClampNeg)), (2, .int (σ q 10)), (0, .ref (ad G 0)), (1, .ref (ad G q))] 56 rfl (by decide) rfl ?_
        refine Vaload_n dX5_perform_56 6 rfl 57 rfl ?_
        refine VgetN (q) 9 dX5_perform_57 60 rfl (sI_ hF hq 0 (by decide)) (sk0 hq) rfl inX4 (by decide) wd_nfl_RX5_74 (v := .ref (ad G (q + 7))) rfl ?_
        refine VgetN (q + 7) 0 dX5_perform_60 63 rfl (sI_ hF hq 7 (by decide)) (sk7 hq) rfl inX0 (by decide) wd_nfl_RX5_78 (v := .int (σ (q + 7) 0)) rfl ?_
        refine Vifeq (fun v => v) dX5_perform_63 75 66 (by decide) rfl (fun h4 => ?_) (fun h4 => ?_)
        · refine Vload_n dX5_perform_75 3 rfl 76 rfl ?_
          refine Vif (fun v => v) (fun h5 => ?_) (fun h5 => ?_)
          · refine Vswin dX5_perform_76 168 (by rw [h5]; decide) (by rw [h5]; decide) (off := 92) (by rw [h5]; rfl) (by decide) ?_
            refine Vaload_n dX5_perform_168 5 rfl 169 rfl ?_
            refine Vaload_n dX5_perform_169 6 rfl 170 rfl ?_
            refine Vload dX5_perform_170 2 rfl 172 rfl ?_
            refine Vload dX5_perform_172 1 rfl 174 rfl ?_
            refine Vgen ?_
            intro u6 eu6
            refine VcVi (u := u6) dX5_perform_174 [.ref (ad G q), .int (σ (q + 2) (σ q 10).toNatClampNeg), .int (σ (q + 3) (σ q 10).toNatClampNeg)] (by rw [eu6]; exact c_X5_getCell l hF σ q (σ (q + 2) (σ q 10).toNatClampNeg) (σ (q + 3) (σ q 10).toNatClampNeg) hq) mw_X5_getCell wd_im_yX5_getCell wd_se_yX5_getCell wd_ml_RX5_179 (hF.1 0 (by decide)) wk0 rfl rfl (by decide) rfl rfl (Nat.le_of_ble_eq_true rfl) 177 rfl ?_
            exact Viret dX5_perform_177
          refine Vif (fun v => v) (fun h7 => ?_) (fun h7 => ?_)
          · refine Vswin dX5_perform_76 178 (by rw [h7]; decide) (by rw [h7]; decide) (off := 102) (by rw [h7]; rfl) (by decide) ?_
            refine Vaload_n dX5_perform_178 5 rfl 179 rfl ?_
            refine Vaload_n dX5_perform_179 6 rfl 180 rfl ?_
            refine Vload dX5_perform_180 2 rfl 182 rfl ?_
            refine Vaload_n dX5_perform_182 6 rfl 183 rfl ?_
            refine Vload dX5_perform_183 1 rfl 185 rfl ?_
            refine VcVp dX5_perform_185 [.int (σ (q + 3) (σ q 10).toNatClampNeg)] (c_X4_held l hF σ q (σ (q + 3) (σ q 10).toNatClampNeg) hq) mw_X4_held wd_im_yX4_held wd_se_yX4_held wd_ml_RX5_91 (sI_ hF hq 0 (by decide)) (sk0 hq) rfl rfl (by decide) rfl rfl (Nat.le_of_ble_eq_true rfl) 188 rfl ?_
            refine Vgen ?_
            intro u8 eu8
            refine VcVv (u := u8) dX5_perform_188 [.ref (ad G q), .int (σ (q + 2) (σ q 10).toNatClampNeg), .int (f_X4_held σ q (σ (q + 3) (σ q 10).toNatClampNeg))] (by rw [eu8]; exact c_X5_putCell l hF σ q (σ (q + 2) (σ q 10).toNatClampNeg) (f_X4_held σ q (σ (q + 3) (σ q 10).toNatClampNeg)) hq) mw_X5_putCell wd_im_yX5_putCell wd_se_yX5_putCell wd_ml_RX5_183 (hF.1 0 (by decide)) wk0 rfl rfl (by decide) rfl rfl (Nat.le_of_ble_eq_true rfl) 191 rfl ?_
            refine Viconst dX5_perform_191 (0 : Int32) (by decide) 192 rfl ?_
            exact Viret dX5_perform_192
          refine Vif (fun v => v) (fun h9 => ?_) (fun h9 => ?_)
          · refine Vswin dX5_perform_76 193 (by rw [h9]; decide) (by rw [h9]; decide) (off := 117) (by rw [h9]; rfl) (by decide) ?_
            refine Vaload_n dX5_perform_193 5 rfl 194 rfl ?_
            refine Vaload_n dX5_perform_194 6 rfl 195 rfl ?_
            refine Vload dX5_perform_195 2 rfl 197 rfl ?_
            refine Vload dX5_perform_197 1 rfl 199 rfl ?_
            refine Vaload_n dX5_perform_199 6 rfl 200 rfl ?_
            refine Vload dX5_perform_200 0 rfl 202 rfl ?_
            refine VcVp dX5_perform_202 [.int (σ (q + 4) (σ q 10).toNatClampNeg)] (c_X4_held l hF σ q (σ (q + 4) (σ q 10).toNatClampNeg) hq) mw_X4_held wd_im_yX4_held wd_se_yX4_held wd_ml_RX5_91 (sI_ hF hq 0 (by decide)) (sk0 hq) rfl rfl (by decide) rfl rfl (Nat.le_of_ble_eq_true rfl) 205 rfl ?_
            refine Vgen ?_
            intro u10 eu10
            refine VcVi (u := u10) dX5_perform_205 [.ref (ad G q), .int (σ (q + 2) (σ q 10).toNatClampNeg), .int (σ (q + 3) (σ q 10).toNatClampNeg), .int (f_X4_held σ q (σ (q + 4) (σ q 10).toNatClampNeg))] (by rw [eu10]; exact c_X5_loadItem l hF σ q (σ (q + 2) (σ q 10).toNatClampNeg) (σ (q + 3) (σ q 10).toNatClampNeg) (f_X4_held σ q (σ (q + 4) (σ q 10).toNatClampNeg)) hq) mw_X5_loadItem wd_im_yX5_loadItem wd_se_yX5_loadItem wd_ml_RX5_187 (hF.1 0 (by decide)) wk0 rfl rfl (by decide) rfl rfl (Nat.le_of_ble_eq_true rfl) 208 rfl ?_
            exact Viret dX5_perform_208
          refine Vif (fun v => v) (fun h11 => ?_) (fun h11 => ?_)
          · refine Vswin dX5_perform_76 209 (by rw [h11]; decide) (by rw [h11]; decide) (off := 133) (by rw [h11]; rfl) (by decide) ?_
            refine Vaload_n dX5_perform_209 5 rfl 210 rfl ?_
            refine Vget (0) 1 dX5_perform_210 213 rfl (hF.1 0 (by decide)) wk0 rfl inX5 (by decide) wd_fl_RX5_19 (v := .ref (ad G 9)) rfl ?_
            refine Vload dX5_perform_213 2 rfl 215 rfl ?_
            refine Vaload_n dX5_perform_215 6 rfl 216 rfl ?_
            refine Vload dX5_perform_216 1 rfl 218 rfl ?_
            refine VcVp dX5_perform_218 [.int (σ (q + 3) (σ q 10).toNatClampNeg)] (c_X4_held l hF σ q (σ (q + 3) (σ q 10).toNatClampNeg) hq) mw_X4_held wd_im_yX4_held wd_se_yX4_held wd_ml_RX5_91 (sI_ hF hq 0 (by decide)) (sk0 hq) rfl rfl (by decide) rfl rfl (Nat.le_of_ble_eq_true rfl) 221 rfl ?_
            refine Vaload_n dX5_perform_221 6 rfl 222 rfl ?_
            refine Vload dX5_perform_222 0 rfl 224 rfl ?_
            refine VcVp dX5_perform_224 [.int (σ (q + 4) (σ q 10).toNatClampNeg)] (c_X4_held l hF σ q (σ (q + 4) (σ q 10).toNatClampNeg) hq) mw_X4_held wd_im_yX4_held wd_se_yX4_held wd_ml_RX5_91 (sI_ hF hq 0 (by decide)) (sk0 hq) rfl rfl (by decide) rfl rfl (Nat.le_of_ble_eq_true rfl) 227 rfl ?_
            refine Vgen ?_
            intro u12 eu12
            refine VcVi (u := u12) dX5_perform_227 [.int (σ (q + 2) (σ q 10).toNatClampNeg), .int (f_X4_held σ q (σ (q + 3) (σ q 10).toNatClampNeg)), .int (f_X4_held σ q (σ (q + 4) (σ q 10).toNatClampNeg))] (by rw [eu12]; exact c_X3_store l hF σ (σ (q + 2) (σ q 10).toNatClampNeg) (f_X4_held σ q (σ (q + 3) (σ q 10).toNatClampNeg)) (f_X4_held σ q (σ (q + 4) (σ q 10).toNatClampNeg))) mw_X3_store wd_im_yX3_store wd_se_yX3_store wd_ml_RX5_191 (hF.1 9 (by decide)) wk9 rfl rfl (by decide) rfl rfl (Nat.le_of_ble_eq_true rfl) 230 rfl ?_
            exact Viret dX5_perform_230
          refine Vif (fun v => v) (fun h13 => ?_) (fun h13 => ?_)
          · refine Vswin dX5_perform_76 231 (by rw [h13]; decide) (by rw [h13]; decide) (off := 155) (by rw [h13]; rfl) (by decide) ?_
            refine Vaload_n dX5_perform_231 5 rfl 232 rfl ?_
            refine Vaload_n dX5_perform_232 6 rfl 233 rfl ?_
            refine Vload dX5_perform_233 2 rfl 235 rfl ?_
            refine Vload dX5_perform_235 1 rfl 237 rfl ?_
            refine Vload dX5_perform_237 0 rfl 239 rfl ?_
            refine Vgen ?_
            intro u14 eu14
            refine VcVi (u := u14) dX5_perform_239 [.ref (ad G q), .int (σ (q + 2) (σ q 10).toNatClampNeg), .int (σ (q + 3) (σ q 10).toNatClampNeg), .int (σ (q + 4) (σ q 10).toNatClampNeg)] (by rw [eu14]; exact c_X5_swapCell l hF σ q (σ (q + 2) (σ q 10).toNatClampNeg) (σ (q + 3) (σ q 10).toNatClampNeg) (σ (q + 4) (σ q 10).toNatClampNeg) hq) mw_X5_swapCell wd_im_yX5_swapCell wd_se_yX5_swapCell wd_ml_RX5_195 (hF.1 0 (by decide)) wk0 rfl rfl (by decide) rfl rfl (Nat.le_of_ble_eq_true rfl) 242 rfl ?_
            exact Viret dX5_perform_242
          refine Vif (fun v => v) (fun h15 => ?_) (fun h15 => ?_)
          · refine Vswin dX5_perform_76 243 (by rw [h15]; decide) (by rw [h15]; decide) (off := 167) (by rw [h15]; rfl) (by decide) ?_
            refine Vaload_n dX5_perform_243 5 rfl 244 rfl ?_
            refine Vaload_n dX5_perform_244 6 rfl 245 rfl ?_
            refine Vgen ?_
            intro u16 eu16
            refine VcVi (u := u16) dX5_perform_245 [.ref (ad G q)] (by rw [eu16]; exact c_X5_endAtom l hF σ q hq) mw_X5_endAtom wd_im_yX5_endAtom wd_se_yX5_endAtom wd_ml_RX5_198 (hF.1 0 (by decide)) wk0 rfl rfl (by decide) rfl rfl (Nat.le_of_ble_eq_true rfl) 248 rfl ?_
            exact Viret dX5_perform_248
          refine Vif (fun v => v) (fun h17 => ?_) (fun h17 => ?_)
          · refine Vswin dX5_perform_76 249 (by rw [h17]; decide) (by rw [h17]; decide) (off := 173) (by rw [h17]; rfl) (by decide) ?_
            refine Vaload_n dX5_perform_249 5 rfl 250 rfl ?_
            refine Vget (0) 1 dX5_perform_250 253 rfl (hF.1 0 (by decide)) wk0 rfl inX5 (by decide) wd_fl_RX5_19 (v := .ref (ad G 9)) rfl ?_
            refine Vload dX5_perform_253 2 rfl 255 rfl ?_
            refine Vaload_n dX5_perform_255 6 rfl 256 rfl ?_
            refine Vload dX5_perform_256 1 rfl 258 rfl ?_
            refine VcVp dX5_perform_258 [.int (σ (q + 3) (σ q 10).toNatClampNeg)] (c_X4_held l hF σ q (σ (q + 3) (σ q 10).toNatClampNeg) hq) mw_X4_held wd_im_yX4_held wd_se_yX4_held wd_ml_RX5_91 (sI_ hF hq 0 (by decide)) (sk0 hq) rfl rfl (by decide) rfl rfl (Nat.le_of_ble_eq_true rfl) 261 rfl ?_
            refine Vgen ?_
            intro u18 eu18
            refine VcVi (u := u18) dX5_perform_261 [.int (σ (q + 2) (σ q 10).toNatClampNeg), .int (f_X4_held σ q (σ (q + 3) (σ q 10).toNatClampNeg))] (by rw [eu18]; exact c_X3_make l hF σ (σ (q + 2) (σ q 10).toNatClampNeg) (f_X4_held σ q (σ (q + 3) (σ q 10).toNatClampNeg))) mw_X3_make wd_im_yX3_make wd_se_yX3_make wd_ml_RX5_201 (hF.1 9 (by decide)) wk9 rfl rfl (by decide) rfl rfl (Nat.le_of_ble_eq_true rfl) 264 rfl ?_
            exact Viret dX5_perform_264
          refine Vif (fun v => v) (fun h19 => ?_) (fun h19 => ?_)
          · refine Vswin dX5_perform_76 265 (by rw [h19]; decide) (by rw [h19]; decide) (off := 189) (by rw [h19]; rfl) (by decide) ?_
            refine Vaload_n dX5_perform_265 5 rfl 266 rfl ?_
            refine Vget (0) 1 dX5_perform_266 269 rfl (hF.1 0 (by decide)) wk0 rfl inX5 (by decide) wd_fl_RX5_19 (v := .ref (ad G 9)) rfl ?_
            refine Vload dX5_perform_269 2 rfl 271 rfl ?_
            refine Vgen ?_
            intro u20 eu20
            refine VcVi (u := u20) dX5_perform_271 [.int (σ (q + 2) (σ q 10).toNatClampNeg)] (by rw [eu20]; exact c_X3_freeze l hF σ (σ (q + 2) (σ q 10).toNatClampNeg)) mw_X3_freeze wd_im_yX3_freeze wd_se_yX3_freeze wd_ml_RX5_204 (hF.1 9 (by decide)) wk9 rfl rfl (by decide) rfl rfl (Nat.le_of_ble_eq_true rfl) 274 rfl ?_
            exact Viret dX5_perform_274
          refine Vif (fun v => v) (fun h21 => ?_) (fun h21 => ?_)
          · refine Vswin dX5_perform_76 275 (by rw [h21]; decide) (by rw [h21]; decide) (off := 199) (by rw [h21]; rfl) (by decide) ?_
            refine Vaload_n dX5_perform_275 5 rfl 276 rfl ?_
            refine Vget (0) 0 dX5_perform_276 279 rfl (hF.1 0 (by decide)) wk0 rfl inX5 (by decide) wd_fl_RX5_10 (v := .ref (ad G 1)) rfl ?_
            refine Vload dX5_perform_279 2 rfl 281 rfl ?_
            refine Vload dX5_perform_281 1 rfl 283 rfl ?_
            refine Vgen ?_
            intro u22 eu22
            refine VcVv (u := u22) dX5_perform_283 [.int (σ (q + 2) (σ q 10).toNatClampNeg), .int (σ (q + 3) (σ q 10).toNatClampNeg)] (by rw [eu22]; exact c_X1_defer l hF σ (σ (q + 2) (σ q 10).toNatClampNeg) (σ (q + 3) (σ q 10).toNatClampNeg)) mw_X1_defer wd_im_yX1_defer wd_se_yX1_defer wd_ml_RX5_207 (hF.1 1 (by decide)) wk1 rfl rfl (by decide) rfl rfl (Nat.le_of_ble_eq_true rfl) 286 rfl ?_
            refine Viconst dX5_perform_286 (0 : Int32) (by decide) 287 rfl ?_
            exact Viret dX5_perform_287
          have w24 : V l G X RX5 cX5_perform 7 5 (some .int) κI ((fun v => v) (ap (fun u23 => (u23.1, u23.2)) (f_X4_performAlone σ q (σ (q + 1) (σ q 10).toNatClampNeg) (σ (q + 2) (σ q 10).toNatClampNeg) (σ (q + 3) (σ q 10).toNatClampNeg) (σ (q + 4) (σ q 10).toNatClampNeg)))) σ 288 [(6, .int (σ (q + 4) (σ q 10).toNatClampNeg)), (5, .int (σ (q + 3) (σ q 10).toNatClampNeg)), (4, .int (σ (q + 2) (σ q 10).toNatClampNeg)), (3, .int (σ (q + 1) (σ q 10).toNatClampNeg)), (2, .int (σ q 10)), (0, .ref (ad G 0)), (1, .ref (ad G q))] [] := by
            refine Vaload_n dX5_perform_288 6 rfl 289 rfl ?_
            refine Vload_n dX5_perform_289 3 rfl 290 rfl ?_
            refine Vload dX5_perform_290 2 rfl 292 rfl ?_
            refine Vload dX5_perform_292 1 rfl 294 rfl ?_
            refine Vload dX5_perform_294 0 rfl 296 rfl ?_
            refine Vgen ?_
            intro u23 eu23
            refine VcVi (u := u23) dX5_perform_296 [.int (σ (q + 1) (σ q 10).toNatClampNeg), .int (σ (q + 2) (σ q 10).toNatClampNeg), .int (σ (q + 3) (σ q 10).toNatClampNeg), .int (σ (q + 4) (σ q 10).toNatClampNeg)] (by rw [eu23]; exact c_X4_performAlone l hF σ q (σ (q + 1) (σ q 10).toNatClampNeg) (σ (q + 2) (σ q 10).toNatClampNeg) (σ (q + 3) (σ q 10).toNatClampNeg) (σ (q + 4) (σ q 10).toNatClampNeg) hq) mw_X4_performAlone wd_im_yX4_performAlone wd_se_yX4_performAlone wd_ml_RX5_210 (sI_ hF hq 0 (by decide)) (sk0 hq) rfl rfl (by decide) rfl rfl (Nat.le_of_ble_eq_true rfl) 299 rfl ?_
            exact Viret dX5_perform_299
          by_cases o25 : (σ (q + 1) (σ q 10).toNatClampNeg) = (3 : Int32)
          · exact Vswin dX5_perform_76 288 (by rw [o25]; decide) (by rw [o25]; decide) (off := 212) (by rw [o25]; rfl) (by decide) w24
          by_cases o26 : (σ (q + 1) (σ q 10).toNatClampNeg) = (4 : Int32)
          · exact Vswin dX5_perform_76 288 (by rw [o26]; decide) (by rw [o26]; decide) (off := 212) (by rw [o26]; rfl) (by decide) w24
          by_cases o27 : (σ (q + 1) (σ q 10).toNatClampNeg) = (5 : Int32)
          · exact Vswin dX5_perform_76 288 (by rw [o27]; decide) (by rw [o27]; decide) (off := 212) (by rw [o27]; rfl) (by decide) w24
          by_cases o28 : (σ (q + 1) (σ q 10).toNatClampNeg) = (6 : Int32)
          · exact Vswin dX5_perform_76 288 (by rw [o28]; decide) (by rw [o28]; decide) (off := 212) (by rw [o28]; rfl) (by decide) w24
          by_cases o29 : (σ (q + 1) (σ q 10).toNatClampNeg) = (10 : Int32)
          · exact Vswin dX5_perform_76 288 (by rw [o29]; decide) (by rw [o29]; decide) (off := 212) (by rw [o29]; rfl) (by decide) w24
          by_cases o30 : (σ (q + 1) (σ q 10).toNatClampNeg) = (11 : Int32)
          · exact Vswin dX5_perform_76 288 (by rw [o30]; decide) (by rw [o30]; decide) (off := 212) (by rw [o30]; rfl) (by decide) w24
          by_cases o31 : (σ (q + 1) (σ q 10).toNatClampNeg) = (12 : Int32)
          · exact Vswin dX5_perform_76 288 (by rw [o31]; decide) (by rw [o31]; decide) (off := 212) (by rw [o31]; rfl) (by decide) w24
          by_cases o32 : (σ (q + 1) (σ q 10).toNatClampNeg) = (14 : Int32)
          · exact Vswin dX5_perform_76 288 (by rw [o32]; decide) (by rw [o32]; decide) (off := 212) (by rw [o32]; rfl) (by decide) w24
          by_cases o33 : (σ (q + 1) (σ q 10).toNatClampNeg) = (15 : Int32)
          · exact Vswin dX5_perform_76 288 (by rw [o33]; decide) (by rw [o33]; decide) (off := 212) (by rw [o33]; rfl) (by decide) w24
          by_cases o34 : (σ (q + 1) (σ q 10).toNatClampNeg) = (16 : Int32)
          · exact Vswin dX5_perform_76 288 (by rw [o34]; decide) (by rw [o34]; decide) (off := 212) (by rw [o34]; rfl) (by decide) w24
          exact Vswout dX5_perform_76 (by have eh5 := lv_neT (a := 1) h5 (by decide); have eh7 := lv_neT (a := 2) h7 (by decide); have eh9 := lv_neT (a := 7) h9 (by decide); have eh11 := lv_neT (a := 8) h11 (by decide); have eh13 := lv_neT (a := 9) h13 (by decide); have eh15 := lv_neT (a := 13) h15 (by decide); have eh17 := lv_neT (a := 17) h17 (by decide); have eh19 := lv_neT (a := 18) h19 (by decide); have eh21 := lv_neT (a := 19) h21 (by decide); have eo25 := lv_neT (a := 3) o25 (by decide); have eo26 := lv_neT (a := 4) o26 (by decide); have eo27 := lv_neT (a := 5) o27 (by decide); have eo28 := lv_neT (a := 6) o28 (by decide); have eo29 := lv_neT (a := 10) o29 (by decide); have eo30 := lv_neT (a := 11) o30 (by decide); have eo31 := lv_neT (a := 12) o31 (by decide); have eo32 := lv_neT (a := 14) o32 (by decide); have eo33 := lv_neT (a := 15) o33 (by decide); have eo34 := lv_neT (a := 16) o34 (by decide); omega) (tgt := 288) (by decide) w24
        · refine Vload_n dX5_perform_66 3 rfl 67 rfl ?_
          refine VcSp dX5_perform_67 [.int (σ (q + 1) (σ q 10).toNatClampNeg)] (c_X5_isBarredFromAtoms l hF σ (σ (q + 1) (σ q 10).toNatClampNeg)) mw_X5_isBarredFromAtoms wd_sm_yX5_isBarredFromAtoms wd_ml_RX5_176 (by decide) rfl rfl (Nat.le_of_ble_eq_true rfl) 70 rfl ?_
          refine Vifeq (fun v => v) dX5_perform_70 75 73 (by decide) rfl (fun h35 => ?_) (fun h35 => ?_)
          · refine Vload_n dX5_perform_75 3 rfl 76 rfl ?_
            refine Vif (fun v => v) (fun h36 => ?_) (fun h36 => ?_)
            · refine Vswin dX5_perform_76 168 (by rw [h36]; decide) (by rw [h36]; decide) (off := 92) (by rw [h36]; rfl) (by decide) ?_
              refine Vaload_n dX5_perform_168 5 rfl 169 rfl ?_
              refine Vaload_n dX5_perform_169 6 rfl 170 rfl ?_
              refine Vload dX5_perform_170 2 rfl 172 rfl ?_
              refine Vload dX5_perform_172 1 rfl 174 rfl ?_
              refine Vgen ?_
              intro u37 eu37
              refine VcVi (u := u37) dX5_perform_174 [.ref (ad G q), .int (σ (q + 2) (σ q 10).toNatClampNeg), .int (σ (q + 3) (σ q 10).toNatClampNeg)] (by rw [eu37]; exact c_X5_getCell l hF σ q (σ (q + 2) (σ q 10).toNatClampNeg) (σ (q + 3) (σ q 10).toNatClampNeg) hq) mw_X5_getCell wd_im_yX5_getCell wd_se_yX5_getCell wd_ml_RX5_179 (hF.1 0 (by decide)) wk0 rfl rfl (by decide) rfl rfl (Nat.le_of_ble_eq_true rfl) 177 rfl ?_
              exact Viret dX5_perform_177
            refine Vif (fun v => v) (fun h38 => ?_) (fun h38 => ?_)
            · refine Vswin dX5_perform_76 178 (by rw [h38]; decide) (by rw [h38]; decide) (off := 102) (by rw [h38]; rfl) (by decide) ?_
              refine Vaload_n dX5_perform_178 5 rfl 179 rfl ?_
              refine Vaload_n dX5_perform_179 6 rfl 180 rfl ?_
              refine Vload dX5_perform_180 2 rfl 182 rfl ?_
              refine Vaload_n dX5_perform_182 6 rfl 183 rfl ?_
              refine Vload dX5_perform_183 1 rfl 185 rfl ?_
              refine VcVp dX5_perform_185 [.int (σ (q + 3) (σ q 10).toNatClampNeg)] (c_X4_held l hF σ q (σ (q + 3) (σ q 10).toNatClampNeg) hq) mw_X4_held wd_im_yX4_held wd_se_yX4_held wd_ml_RX5_91 (sI_ hF hq 0 (by decide)) (sk0 hq) rfl rfl (by decide) rfl rfl (Nat.le_of_ble_eq_true rfl) 188 rfl ?_
              refine Vgen ?_
              intro u39 eu39
              refine VcVv (u := u39) dX5_perform_188 [.ref (ad G q), .int (σ (q + 2) (σ q 10).toNatClampNeg), .int (f_X4_held σ q (σ (q + 3) (σ q 10).toNatClampNeg))] (by rw [eu39]; exact c_X5_putCell l hF σ q (σ (q + 2) (σ q 10).toNatClampNeg) (f_X4_held σ q (σ (q + 3) (σ q 10).toNatClampNeg)) hq) mw_X5_putCell wd_im_yX5_putCell wd_se_yX5_putCell wd_ml_RX5_183 (hF.1 0 (by decide)) wk0 rfl rfl (by decide) rfl rfl (Nat.le_of_ble_eq_true rfl) 191 rfl ?_
              refine Viconst dX5_perform_191 (0 : Int32) (by decide) 192 rfl ?_
              exact Viret dX5_perform_192
            refine Vif (fun v => v) (fun h40 => ?_) (fun h40 => ?_)
            · refine Vswin dX5_perform_76 193 (by rw [h40]; decide) (by rw [h40]; decide) (off := 117) (by rw [h40]; rfl) (by decide) ?_
              refine Vaload_n dX5_perform_193 5 rfl 194 rfl ?_
              refine Vaload_n dX5_perform_194 6 rfl 195 rfl ?_
              refine Vload dX5_perform_195 2 rfl 197 rfl ?_
              refine Vload dX5_perform_197 1 rfl 199 rfl ?_
              refine Vaload_n dX5_perform_199 6 rfl 200 rfl ?_
              refine Vload dX5_perform_200 0 rfl 202 rfl ?_
              refine VcVp dX5_perform_202 [.int (σ (q + 4) (σ q 10).toNatClampNeg)] (c_X4_held l hF σ q (σ (q + 4) (σ q 10).toNatClampNeg) hq) mw_X4_held wd_im_yX4_held wd_se_yX4_held wd_ml_RX5_91 (sI_ hF hq 0 (by decide)) (sk0 hq) rfl rfl (by decide) rfl rfl (Nat.le_of_ble_eq_true rfl) 205 rfl ?_
              refine Vgen ?_
              intro u41 eu41
              refine VcVi (u := u41) dX5_perform_205 [.ref (ad G q), .int (σ (q + 2) (σ q 10).toNatClampNeg), .int (σ (q + 3) (σ q 10).toNatClampNeg), .int (f_X4_held σ q (σ (q + 4) (σ q 10).toNatClampNeg))] (by rw [eu41]; exact c_X5_loadItem l hF σ q (σ (q + 2) (σ q 10).toNatClampNeg) (σ (q + 3) (σ q 10).toNatClampNeg) (f_X4_held σ q (σ (q + 4) (σ q 10).toNatClampNeg)) hq) mw_X5_loadItem wd_im_yX5_loadItem wd_se_yX5_loadItem wd_ml_RX5_187 (hF.1 0 (by decide)) wk0 rfl rfl (by decide) rfl rfl (Nat.le_of_ble_eq_true rfl) 208 rfl ?_
              exact Viret dX5_perform_208
            refine Vif (fun v => v) (fun h42 => ?_) (fun h42 => ?_)
            · refine Vswin dX5_perform_76 209 (by rw [h42]; decide) (by rw [h42]; decide) (off := 133) (by rw [h42]; rfl) (by decide) ?_
              refine Vaload_n dX5_perform_209 5 rfl 210 rfl ?_
              refine Vget (0) 1 dX5_perform_210 213 rfl (hF.1 0 (by decide)) wk0 rfl inX5 (by decide) wd_fl_RX5_19 (v := .ref (ad G 9)) rfl ?_
              refine Vload dX5_perform_213 2 rfl 215 rfl ?_
              refine Vaload_n dX5_perform_215 6 rfl 216 rfl ?_
              refine Vload dX5_perform_216 1 rfl 218 rfl ?_
              refine VcVp dX5_perform_218 [.int (σ (q + 3) (σ q 10).toNatClampNeg)] (c_X4_held l hF σ q (σ (q + 3) (σ q 10).toNatClampNeg) hq) mw_X4_held wd_im_yX4_held wd_se_yX4_held wd_ml_RX5_91 (sI_ hF hq 0 (by decide)) (sk0 hq) rfl rfl (by decide) rfl rfl (Nat.le_of_ble_eq_true rfl) 221 rfl ?_
              refine Vaload_n dX5_perform_221 6 rfl 222 rfl ?_
              refine Vload dX5_perform_222 0 rfl 224 rfl ?_
              refine VcVp dX5_perform_224 [.int (σ (q + 4) (σ q 10).toNatClampNeg)] (c_X4_held l hF σ q (σ (q + 4) (σ q 10).toNatClampNeg) hq) mw_X4_held wd_im_yX4_held wd_se_yX4_held wd_ml_RX5_91 (sI_ hF hq 0 (by decide)) (sk0 hq) rfl rfl (by decide) rfl rfl (Nat.le_of_ble_eq_true rfl) 227 rfl ?_
              refine Vgen ?_
              intro u43 eu43
              refine VcVi (u := u43) dX5_perform_227 [.int (σ (q + 2) (σ q 10).toNatClampNeg), .int (f_X4_held σ q (σ (q + 3) (σ q 10).toNatClampNeg)), .int (f_X4_held σ q (σ (q + 4) (σ q 10).toNatClampNeg))] (by rw [eu43]; exact c_X3_store l hF σ (σ (q + 2) (σ q 10).toNatClampNeg) (f_X4_held σ q (σ (q + 3) (σ q 10).toNatClampNeg)) (f_X4_held σ q (σ (q + 4) (σ q 10).toNatClampNeg))) mw_X3_store wd_im_yX3_store wd_se_yX3_store wd_ml_RX5_191 (hF.1 9 (by decide)) wk9 rfl rfl (by decide) rfl rfl (Nat.le_of_ble_eq_true rfl) 230 rfl ?_
              exact Viret dX5_perform_230
            refine Vif (fun v => v) (fun h44 => ?_) (fun h44 => ?_)
            · refine Vswin dX5_perform_76 231 (by rw [h44]; decide) (by rw [h44]; decide) (off := 155) (by rw [h44]; rfl) (by decide) ?_
              refine Vaload_n dX5_perform_231 5 rfl 232 rfl ?_
              refine Vaload_n dX5_perform_232 6 rfl 233 rfl ?_
              refine Vload dX5_perform_233 2 rfl 235 rfl ?_
              refine Vload dX5_perform_235 1 rfl 237 rfl ?_
              refine Vload dX5_perform_237 0 rfl 239 rfl ?_
              refine Vgen ?_
              intro u45 eu45
              refine VcVi (u := u45) dX5_perform_239 [.ref (ad G q), .int (σ (q + 2) (σ q 10).toNatClampNeg), .int (σ (q + 3) (σ q 10).toNatClampNeg), .int (σ (q + 4) (σ q 10).toNatClampNeg)] (by rw [eu45]; exact c_X5_swapCell l hF σ q (σ (q + 2) (σ q 10).toNatClampNeg) (σ (q + 3) (σ q 10).toNatClampNeg) (σ (q + 4) (σ q 10).toNatClampNeg) hq) mw_X5_swapCell wd_im_yX5_swapCell wd_se_yX5_swapCell wd_ml_RX5_195 (hF.1 0 (by decide)) wk0 rfl rfl (by decide) rfl rfl (Nat.le_of_ble_eq_true rfl) 242 rfl ?_
              exact Viret dX5_perform_242
            refine Vif (fun v => v) (fun h46 => ?_) (fun h46 => ?_)
            · refine Vswin dX5_perform_76 243 (by rw [h46]; decide) (by rw [h46]; decide) (off := 167) (by rw [h46]; rfl) (by decide) ?_
              refine Vaload_n dX5_perform_243 5 rfl 244 rfl ?_
              refine Vaload_n dX5_perform_244 6 rfl 245 rfl ?_
              refine Vgen ?_
              intro u47 eu47
              refine VcVi (u := u47) dX5_perform_245 [.ref (ad G q)] (by rw [eu47]; exact c_X5_endAtom l hF σ q hq) mw_X5_endAtom wd_im_yX5_endAtom wd_se_yX5_endAtom wd_ml_RX5_198 (hF.1 0 (by decide)) wk0 rfl rfl (by decide) rfl rfl (Nat.le_of_ble_eq_true rfl) 248 rfl ?_
              exact Viret dX5_perform_248
            refine Vif (fun v => v) (fun h48 => ?_) (fun h48 => ?_)
            · refine Vswin dX5_perform_76 249 (by rw [h48]; decide) (by rw [h48]; decide) (off := 173) (by rw [h48]; rfl) (by decide) ?_
              refine Vaload_n dX5_perform_249 5 rfl 250 rfl ?_
              refine Vget (0) 1 dX5_perform_250 253 rfl (hF.1 0 (by decide)) wk0 rfl inX5 (by decide) wd_fl_RX5_19 (v := .ref (ad G 9)) rfl ?_
              refine Vload dX5_perform_253 2 rfl 255 rfl ?_
              refine Vaload_n dX5_perform_255 6 rfl 256 rfl ?_
              refine Vload dX5_perform_256 1 rfl 258 rfl ?_
              refine VcVp dX5_perform_258 [.int (σ (q + 3) (σ q 10).toNatClampNeg)] (c_X4_held l hF σ q (σ (q + 3) (σ q 10).toNatClampNeg) hq) mw_X4_held wd_im_yX4_held wd_se_yX4_held wd_ml_RX5_91 (sI_ hF hq 0 (by decide)) (sk0 hq) rfl rfl (by decide) rfl rfl (Nat.le_of_ble_eq_true rfl) 261 rfl ?_
              refine Vgen ?_
              intro u49 eu49
              refine VcVi (u := u49) dX5_perform_261 [.int (σ (q + 2) (σ q 10).toNatClampNeg), .int (f_X4_held σ q (σ (q + 3) (σ q 10).toNatClampNeg))] (by rw [eu49]; exact c_X3_make l hF σ (σ (q + 2) (σ q 10).toNatClampNeg) (f_X4_held σ q (σ (q + 3) (σ q 10).toNatClampNeg))) mw_X3_make wd_im_yX3_make wd_se_yX3_make wd_ml_RX5_201 (hF.1 9 (by decide)) wk9 rfl rfl (by decide) rfl rfl (Nat.le_of_ble_eq_true rfl) 264 rfl ?_
              exact Viret dX5_perform_264
            refine Vif (fun v => v) (fun h50 => ?_) (fun h50 => ?_)
            · refine Vswin dX5_perform_76 265 (by rw [h50]; decide) (by rw [h50]; decide) (off := 189) (by rw [h50]; rfl) (by decide) ?_
              refine Vaload_n dX5_perform_265 5 rfl 266 rfl ?_
              refine Vget (0) 1 dX5_perform_266 269 rfl (hF.1 0 (by decide)) wk0 rfl inX5 (by decide) wd_fl_RX5_19 (v := .ref (ad G 9)) rfl ?_
              refine Vload dX5_perform_269 2 rfl 271 rfl ?_
              refine Vgen ?_
              intro u51 eu51
              refine VcVi (u := u51) dX5_perform_271 [.int (σ (q + 2) (σ q 10).toNatClampNeg)] (by rw [eu51]; exact c_X3_freeze l hF σ (σ (q + 2) (σ q 10).toNatClampNeg)) mw_X3_freeze wd_im_yX3_freeze wd_se_yX3_freeze wd_ml_RX5_204 (hF.1 9 (by decide)) wk9 rfl rfl (by decide) rfl rfl (Nat.le_of_ble_eq_true rfl) 274 rfl ?_
              exact Viret dX5_perform_274
            refine Vif (fun v => v) (fun h52 => ?_) (fun h52 => ?_)
            · refine Vswin dX5_perform_76 275 (by rw [h52]; decide) (by rw [h52]; decide) (off := 199) (by rw [h52]; rfl) (by decide) ?_
              refine Vaload_n dX5_perform_275 5 rfl 276 rfl ?_
              refine Vget (0) 0 dX5_perform_276 279 rfl (hF.1 0 (by decide)) wk0 rfl inX5 (by decide) wd_fl_RX5_10 (v := .ref (ad G 1)) rfl ?_
              refine Vload dX5_perform_279 2 rfl 281 rfl ?_
              refine Vload dX5_perform_281 1 rfl 283 rfl ?_
              refine Vgen ?_
              intro u53 eu53
              refine VcVv (u := u53) dX5_perform_283 [.int (σ (q + 2) (σ q 10).toNatClampNeg), .int (σ (q + 3) (σ q 10).toNatClampNeg)] (by rw [eu53]; exact c_X1_defer l hF σ (σ (q + 2) (σ q 10).toNatClampNeg) (σ (q + 3) (σ q 10).toNatClampNeg)) mw_X1_defer wd_im_yX1_defer wd_se_yX1_defer wd_ml_RX5_207 (hF.1 1 (by decide)) wk1 rfl rfl (by decide) rfl rfl (Nat.le_of_ble_eq_true rfl) 286 rfl ?_
              refine Viconst dX5_perform_286 (0 : Int32) (by decide) 287 rfl ?_
              exact Viret dX5_perform_287
            have w55 : V l G X RX5 cX5_perform 7 5 (some .int) κI ((fun v => v) (ap (fun u54 => (u54.1, u54.2)) (f_X4_performAlone σ q (σ (q + 1) (σ q 10).toNatClampNeg) (σ (q + 2) (σ q 10).toNatClampNeg) (σ (q + 3) (σ q 10).toNatClampNeg) (σ (q + 4) (σ q 10).toNatClampNeg)))) σ 288 [(6, .int (σ (q + 4) (σ q 10).toNatClampNeg)), (5, .int (σ (q + 3) (σ q 10).toNatClampNeg)), (4, .int (σ (q + 2) (σ q 10).toNatClampNeg)), (3, .int (σ (q + 1) (σ q 10).toNatClampNeg)), (2, .int (σ q 10)), (0, .ref (ad G 0)), (1, .ref (ad G q))] [] := by
              refine Vaload_n dX5_perform_288 6 rfl 289 rfl ?_
              refine Vload_n dX5_perform_289 3 rfl 290 rfl ?_
              refine Vload dX5_perform_290 2 rfl 292 rfl ?_
              refine Vload dX5_perform_292 1 rfl 294 rfl ?_
              refine Vload dX5_perform_294 0 rfl 296 rfl ?_
              refine Vgen ?_
              intro u54 eu54
              refine VcVi (u := u54) dX5_perform_296 [.int (σ (q + 1) (σ q 10).toNatClampNeg), .int (σ (q + 2) (σ q 10).toNatClampNeg), .int (σ (q + 3) (σ q 10).toNatClampNeg), .int (σ (q + 4) (σ q 10).toNatClampNeg)] (by rw [eu54]; exact c_X4_performAlone l hF σ q (σ (q + 1) (σ q 10).toNatClampNeg) (σ (q + 2) (σ q 10).toNatClampNeg) (σ (q + 3) (σ q 10).toNatClampNeg) (σ (q + 4) (σ q 10).toNatClampNeg) hq) mw_X4_performAlone wd_im_yX4_performAlone wd_se_yX4_performAlone wd_ml_RX5_210 (sI_ hF hq 0 (by decide)) (sk0 hq) rfl rfl (by decide) rfl rfl (Nat.le_of_ble_eq_true rfl) 299 rfl ?_
              exact Viret dX5_perform_299
            by_cases o56 : (σ (q + 1) (σ q 10).toNatClampNeg) = (3 : Int32)
            · exact Vswin dX5_perform_76 288 (by rw [o56]; decide) (by rw [o56]; decide) (off := 212) (by rw [o56]; rfl) (by decide) w55
            by_cases o57 : (σ (q + 1) (σ q 10).toNatClampNeg) = (4 : Int32)
            · exact Vswin dX5_perform_76 288 (by rw [o57]; decide) (by rw [o57]; decide) (off := 212) (by rw [o57]; rfl) (by decide) w55
            by_cases o58 : (σ (q + 1) (σ q 10).toNatClampNeg) = (5 : Int32)
            · exact Vswin dX5_perform_76 288 (by rw [o58]; decide) (by rw [o58]; decide) (off := 212) (by rw [o58]; rfl) (by decide) w55
            by_cases o59 : (σ (q + 1) (σ q 10).toNatClampNeg) = (6 : Int32)
            · exact Vswin dX5_perform_76 288 (by rw [o59]; decide) (by rw [o59]; decide) (off := 212) (by rw [o59]; rfl) (by decide) w55
            by_cases o60 : (σ (q + 1) (σ q 10).toNatClampNeg) = (10 : Int32)
            · exact Vswin dX5_perform_76 288 (by rw [o60]; decide) (by rw [o60]; decide) (off := 212) (by rw [o60]; rfl) (by decide) w55
            by_cases o61 : (σ (q + 1) (σ q 10).toNatClampNeg) = (11 : Int32)
            · exact Vswin dX5_perform_76 288 (by rw [o61]; decide) (by rw [o61]; decide) (off := 212) (by rw [o61]; rfl) (by decide) w55
            by_cases o62 : (σ (q + 1) (σ q 10).toNatClampNeg) = (12 : Int32)
            · exact Vswin dX5_perform_76 288 (by rw [o62]; decide) (by rw [o62]; decide) (off := 212) (by rw [o62]; rfl) (by decide) w55
            by_cases o63 : (σ (q + 1) (σ q 10).toNatClampNeg) = (14 : Int32)
            · exact Vswin dX5_perform_76 288 (by rw [o63]; decide) (by rw [o63]; decide) (off := 212) (by rw [o63]; rfl) (by decide) w55
            by_cases o64 : (σ (q + 1) (σ q 10).toNatClampNeg) = (15 : Int32)
            · exact Vswin dX5_perform_76 288 (by rw [o64]; decide) (by rw [o64]; decide) (off := 212) (by rw [o64]; rfl) (by decide) w55
            by_cases o65 : (σ (q + 1) (σ q 10).toNatClampNeg) = (16 : Int32)
            · exact Vswin dX5_perform_76 288 (by rw [o65]; decide) (by rw [o65]; decide) (off := 212) (by rw [o65]; rfl) (by decide) w55
            exact Vswout dX5_perform_76 (by have eh36 := lv_neT (a := 1) h36 (by decide); have eh38 := lv_neT (a := 2) h38 (by decide); have eh40 := lv_neT (a := 7) h40 (by decide); have eh42 := lv_neT (a := 8) h42 (by decide); have eh44 := lv_neT (a := 9) h44 (by decide); have eh46 := lv_neT (a := 13) h46 (by decide); have eh48 := lv_neT (a := 17) h48 (by decide); have eh50 := lv_neT (a := 18) h50 (by decide); have eh52 := lv_neT (a := 19) h52 (by decide); have eo56 := lv_neT (a := 3) o56 (by decide); have eo57 := lv_neT (a := 4) o57 (by decide); have eo58 := lv_neT (a := 5) o58 (by decide); have eo59 := lv_neT (a := 6) o59 (by decide); have eo60 := lv_neT (a := 10) o60 (by decide); have eo61 := lv_neT (a := 11) o61 (by decide); have eo62 := lv_neT (a := 12) o62 (by decide); have eo63 := lv_neT (a := 14) o63 (by decide); have eo64 := lv_neT (a := 15) o64 (by decide); have eo65 := lv_neT (a := 16) o65 (by decide); omega) (tgt := 288) (by decide) w55
          · refine Viconst dX5_perform_73 (5 : Int32) (by decide) 74 rfl ?_
            exact Viret dX5_perform_74
      · refine Viconst dX5_perform_23 (5 : Int32) (by decide) 24 rfl ?_
        exact Viret dX5_perform_24
def f_X5_takeTurn (σ : mS) (q : Nat) : Int32 × mS := (ap (fun u1 => (if u1.1 = 0 then (0, (st2 u1.2 q 10 (u1.2 q 11))) else (ap (fun u3 => (0, u3.2)) (f_X4_fail (st2 u1.2 0 4 ((u1.2 0 4) + (1 : Int32))) q u1.1)))) (f_X5_perform (st2 (st2 (st2 σ 0 3 ((σ 0 3) + (1 : Int32))) q 13 (((st2 σ 0 3 ((σ 0 3) + (1 : Int32))) q 13) + (1 : Int32))) q 11 (((st2 σ 0 3 ((σ 0 3) + (1 : Int32))) q 10) + (1 : Int32))) q))
theorem mw_X5_takeTurn : mW yX5_takeTurn cX5_takeTurn 3 none 1 := ⟨wd_co_yX5_takeTurn, wd_ini_RX5, ⟨by decide, by decide⟩, by decide +kernel, by decide⟩
set_option maxRecDepth 100000 in
set_option maxHeartbeats 4000000 in
theorem c_X5_takeTurn (l : Launch) {G : gT} (hF : Full G) (σ : mS) (q : Nat) (hq : sQ q) : Ct l G yX5_takeTurn cX5_takeTurn 3 none 6 [.ref (ad G 0), .ref (ad G q)] κV σ (f_X5_takeTurn σ q) := by
  refine Ct.ofV [(0, .ref (ad G 0)), (1, .ref (ad G q))] rfl (by decide) (Nat.le_of_ble_eq_true rfl) rfl (fun X => ?_)
  unfold f_X5_takeTurn
  refine Vaload_n dX5_takeTurn_0 0 rfl 1 rfl ?_
  refine Vdupa dX5_takeTurn_1 2 rfl ?_
  refine Vget (0) 3 dX5_takeTurn_2 5 rfl (hF.1 0 (by decide)) wk0 rfl inX5 (by decide) wd_fl_RX5_137 (v := .int (σ 0 3)) rfl ?_
  refine Viconst dX5_takeTurn_5 (1 : Int32) (by decide) 6 rfl ?_
  refine Viadd dX5_takeTurn_6 7 rfl ?_
  refine Vput (0) 3 tyX5 dX5_takeTurn_7 10 rfl (hF.1 0 (by decide)) wk0 rfl inX5 tyX5_ok nmX5 (by decide) wd_fl_RX5_137 rfl (ty := .int) (by decide +kernel) rfl rfl (fun f => rfl) (fun f => Nat.le_of_ble_eq_true rfl) ?_
  refine Vaload_n dX5_takeTurn_10 1 rfl 11 rfl ?_
  refine Vdupa dX5_takeTurn_11 12 rfl ?_
  refine VgetN (q) 13 dX5_takeTurn_12 15 rfl (sI_ hF hq 0 (by decide)) (sk0 hq) rfl inX4 (by decide) wd_nfl_RX5_40 (v := .int ((st2 σ 0 3 ((σ 0 3) + (1 : Int32))) q 13)) rfl ?_
  refine Viconst dX5_takeTurn_15 (1 : Int32) (by decide) 16 rfl ?_
  refine Viadd dX5_takeTurn_16 17 rfl ?_
  refine VputN (q) 13 tyX4 dX5_takeTurn_17 20 rfl (sI_ hF hq 0 (by decide)) (sk0 hq) rfl inX4 tyX4_ok nmX4 (by decide) wd_nfl_RX5_40 rfl (ty := .int) (by decide +kernel) rfl rfl (fun f => rfl) (fun f => Nat.le_of_ble_eq_true rfl) ?_
  refine Vaload_n dX5_takeTurn_20 1 rfl 21 rfl ?_
  refine Vaload_n dX5_takeTurn_21 1 rfl 22 rfl ?_
  refine VgetN (q) 10 dX5_takeTurn_22 25 rfl (sI_ hF hq 0 (by decide)) (sk0 hq) rfl inX4 (by decide) wd_nfl_RX5_65 (v := .int ((st2 σ 0 3 ((σ 0 3) + (1 : Int32))) q 10)) (by simp [oV, st2]) ?_
  refine Viconst dX5_takeTurn_25 (1 : Int32) (by decide) 26 rfl ?_
  refine Viadd dX5_takeTurn_26 27 rfl ?_
  refine VputN (q) 11 tyX4 dX5_takeTurn_27 30 rfl (sI_ hF hq 0 (by decide)) (sk0 hq) rfl inX4 tyX4_ok nmX4 (by decide) wd_nfl_RX5_153 rfl (ty := .int) (by decide +kernel) rfl rfl (fun f => rfl) (fun f => Nat.le_of_ble_eq_true rfl) ?_
  refine Vaload_n dX5_takeTurn_30 0 rfl 31 rfl ?_
  refine Vaload_n dX5_takeTurn_31 1 rfl 32 rfl ?_
  refine Vgen ?_
  intro u1 eu1
  refine VcVi (u := u1) dX5_takeTurn_32 [.ref (ad G q)] (by rw [eu1]; exact c_X5_perform l hF (st2 (st2 (st2 σ 0 3 ((σ 0 3) + (1 : Int32))) q 13 (((st2 σ 0 3 ((σ 0 3) + (1 : Int32))) q 13) + (1 : Int32))) q 11 (((st2 σ 0 3 ((σ 0 3) + (1 : Int32))) q 10) + (1 : Int32))) q hq) mw_X5_perform wd_im_yX5_perform wd_se_yX5_perform wd_ml_RX5_156 (hF.1 0 (by decide)) wk0 rfl rfl (by decide) rfl rfl (Nat.le_of_ble_eq_true rfl) 35 rfl ?_
  refine Vstore_n dX5_takeTurn_35 [(2, .int u1.1), (0, .ref (ad G 0)), (1, .ref (ad G q))] 36 rfl (by decide) rfl ?_
  refine Vload_n dX5_takeTurn_36 0 rfl 37 rfl ?_
  refine Vifne (fun v => v) dX5_takeTurn_37 51 40 (by decide) rfl (fun h2 => ?_) (fun h2 => ?_)
  · refine Vaload_n dX5_takeTurn_51 1 rfl 52 rfl ?_
    refine Vdupa dX5_takeTurn_52 53 rfl ?_
    refine Vget (0) 4 dX5_takeTurn_53 56 rfl (hF.1 0 (by decide)) wk0 rfl inX5 (by decide) wd_fl_RX5_54 (v := .int (u1.2 0 4)) rfl ?_
    refine Viconst dX5_takeTurn_56 (1 : Int32) (by decide) 57 rfl ?_
    refine Viadd dX5_takeTurn_57 58 rfl ?_
    refine Vput (0) 4 tyX5 dX5_takeTurn_58 61 rfl (hF.1 0 (by decide)) wk0 rfl inX5 tyX5_ok nmX5 (by decide) wd_fl_RX5_54 rfl (ty := .int) (by decide +kernel) rfl rfl (fun f => rfl) (fun f => Nat.le_of_ble_eq_true rfl) ?_
    refine Vaload_n dX5_takeTurn_61 2 rfl 62 rfl ?_
    refine Vload_n dX5_takeTurn_62 0 rfl 63 rfl ?_
    refine Vgen ?_
    intro u3 eu3
    refine VcVv (u := u3) dX5_takeTurn_63 [.int u1.1] (by rw [eu3]; exact c_X4_fail l hF (st2 u1.2 0 4 ((u1.2 0 4) + (1 : Int32))) q u1.1 hq) mw_X4_fail wd_im_yX4_fail wd_se_yX4_fail wd_ml_RX5_160 (sI_ hF hq 0 (by decide)) (sk0 hq) rfl rfl (by decide) rfl rfl (Nat.le_of_ble_eq_true rfl) 66 rfl ?_
    exact Vvret dX5_takeTurn_66
  · refine Vaload_n dX5_takeTurn_40 2 rfl 41 rfl ?_
    refine Vaload_n dX5_takeTurn_41 2 rfl 42 rfl ?_
    refine VgetN (q) 11 dX5_takeTurn_42 45 rfl (sI_ hF hq 0 (by decide)) (sk0 hq) rfl inX4 (by decide) wd_nfl_RX5_153 (v := .int (u1.2 q 11)) rfl ?_
    refine VputN (q) 10 tyX4 dX5_takeTurn_45 48 rfl (sI_ hF hq 0 (by decide)) (sk0 hq) rfl inX4 tyX4_ok nmX4 (by decide) wd_nfl_RX5_65 rfl (ty := .int) (by decide +kernel) rfl rfl (fun f => rfl) (fun f => Nat.le_of_ble_eq_true rfl) ?_
    refine Vgoto dX5_takeTurn_48 66 (by decide) ?_
    exact Vvret dX5_takeTurn_66
def f_X5_turn (σ : mS) (x1 : Int32) : Int32 × mS := (if (f_X5_strandOf x1) = -1 then ((-2 : Int32), σ) else (if (f_X4_state σ (sI (f_X5_strandOf x1))) = 0 then (if (σ 0 4) < (5000 : Int32) then (ap (fun u5 => ((f_X4_state u5.2 (sI (f_X5_strandOf x1))), u5.2)) (f_X5_takeTurn σ (sI (f_X5_strandOf x1)))) else ((-3 : Int32), σ)) else ((-3 : Int32), σ)))
theorem mw_X5_turn : mW yX5_turn cX5_turn 3 (some .int) 1 := ⟨wd_co_yX5_turn, wd_ini_RX5, ⟨by decide, by decide⟩, by decide +kernel, by decide⟩
set_option maxRecDepth 100000 in
set_option maxHeartbeats 4000000 in
theorem c_X5_turn (l : Launch) {G : gT} (hF : Full G) (σ : mS) (x1 : Int32)  : Ct l G yX5_turn cX5_turn 3 (some .int) 7 [.ref (ad G 0), .int x1] κI σ (f_X5_turn σ x1) := by
  refine Ct.ofV [(0, .ref (ad G 0)), (1, .int x1)] rfl (by decide) (Nat.le_of_ble_eq_true rfl) rfl (fun X => ?_)
  unfold f_X5_turn
  refine Vaload_n dX5_turn_0 0 rfl 1 rfl ?_
  refine Vload_n dX5_turn_1 1 rfl 2 rfl ?_
  refine VcVr (fun v => v) dX5_turn_2 [.int x1] (c_X5_strandOf l hF σ x1) mw_X5_strandOf wd_im_yX5_strandOf wd_se_yX5_strandOf wd_ml_RX5_32 (hF.1 0 (by decide)) wk0 rfl rfl (by decide) rfl rfl (Nat.le_of_ble_eq_true rfl) 5 rfl (fun h1 => ?_) (fun h1 => ?_)
  · refine Vastore_nN dX5_turn_5 [(2, .null), (0, .ref (ad G 0)), (1, .int x1)] 6 rfl (by decide) rfl ?_
    refine Vaload_nN dX5_turn_6 0 rfl 7 rfl ?_
    refine VifnnN dX5_turn_7 10 rfl ?_
    refine Vbipush dX5_turn_10 (-2 : Int32) (by decide) 12 rfl ?_
    exact Viret dX5_turn_12
  · have s2 : sQ (sI (f_X5_strandOf x1)) := sq_strandOf h1
    refine Vastore_n dX5_turn_5 [(2, .ref (ad G ((sI (f_X5_strandOf x1))))), (0, .ref (ad G 0)), (1, .int x1)] 6 rfl (by decide) rfl ?_
    refine Vaload_n dX5_turn_6 0 rfl 7 rfl ?_
    refine Vifnn dX5_turn_7 13 (by decide) ?_
    refine Vaload_n dX5_turn_13 0 rfl 14 rfl ?_
    refine VcVp dX5_turn_14 [] (c_X4_state l hF σ (sI (f_X5_strandOf x1)) s2) mw_X4_state wd_im_yX4_state wd_se_yX4_state wd_ml_RX5_50 (sI_ hF s2 0 (by decide)) (sk0 s2) rfl rfl (by decide) rfl rfl (Nat.le_of_ble_eq_true rfl) 17 rfl ?_
    refine Vifne (fun v => v) dX5_turn_17 30 20 (by decide) rfl (fun h3 => ?_) (fun h3 => ?_)
    · refine Vbipush dX5_turn_30 (-3 : Int32) (by decide) 32 rfl ?_
      exact Viret dX5_turn_32
    · refine Vaload_n dX5_turn_20 1 rfl 21 rfl ?_
      refine Vget (0) 4 dX5_turn_21 24 rfl (hF.1 0 (by decide)) wk0 rfl inX5 (by decide) wd_fl_RX5_54 (v := .int (σ 0 4)) rfl ?_
      refine Vsipush dX5_turn_24 (5000 : Int32) (by decide) 27 rfl ?_
      refine Viclt (fun v => v) dX5_turn_27 33 30 (by decide) rfl (fun h4 => ?_) (fun h4 => ?_)
      · refine Vaload_n dX5_turn_33 1 rfl 34 rfl ?_
        refine Vaload_n dX5_turn_34 0 rfl 35 rfl ?_
        refine Vgen ?_
        intro u5 eu5
        refine VcVv (u := u5) dX5_turn_35 [.ref (ad G ((sI (f_X5_strandOf x1))))] (by rw [eu5]; exact c_X5_takeTurn l hF σ (sI (f_X5_strandOf x1)) s2) mw_X5_takeTurn wd_im_yX5_takeTurn wd_se_yX5_takeTurn wd_ml_RX5_57 (hF.1 0 (by decide)) wk0 rfl rfl (by decide) rfl rfl (Nat.le_of_ble_eq_true rfl) 38 rfl ?_
        refine Vaload_n dX5_turn_38 0 rfl 39 rfl ?_
        refine VcVp dX5_turn_39 [] (c_X4_state l hF u5.2 (sI (f_X5_strandOf x1)) s2) mw_X4_state wd_im_yX4_state wd_se_yX4_state wd_ml_RX5_50 (sI_ hF s2 0 (by decide)) (sk0 s2) rfl rfl (by decide) rfl rfl (Nat.le_of_ble_eq_true rfl) 42 rfl ?_
        exact Viret dX5_turn_42
      · refine Vbipush dX5_turn_30 (-3 : Int32) (by decide) 32 rfl ?_
        exact Viret dX5_turn_32
def f_X5_goes (σ : mS) (x1 : Int32) : Int32 := (if (f_X5_strandOf x1) = -1 then (0 : Int32) else (if (f_X4_state σ (sI (f_X5_strandOf x1))) = 0 then (1 : Int32) else (0 : Int32)))
theorem mw_X5_goes : mW yX5_goes cX5_goes 3 (some .boolean) 1 := ⟨wd_co_yX5_goes, wd_ini_RX5, ⟨by decide, by decide⟩, by decide +kernel, by decide⟩
set_option maxRecDepth 100000 in
set_option maxHeartbeats 4000000 in
theorem c_X5_goes (l : Launch) {G : gT} (hF : Full G) (σ : mS) (x1 : Int32)  : Ct l G yX5_goes cX5_goes 3 (some .boolean) 1 [.ref (ad G 0), .int x1] κI σ (f_X5_goes σ x1, σ) := by
  refine Ct.ofV [(0, .ref (ad G 0)), (1, .int x1)] rfl (by decide) (Nat.le_of_ble_eq_true rfl) rfl (fun X => ?_)
  unfold f_X5_goes
  refine Vaload_n dX5_goes_0 0 rfl 1 rfl ?_
  refine Vload_n dX5_goes_1 1 rfl 2 rfl ?_
  refine VcVr (fun v => (v, σ)) dX5_goes_2 [.int x1] (c_X5_strandOf l hF σ x1) mw_X5_strandOf wd_im_yX5_strandOf wd_se_yX5_strandOf wd_ml_RX5_32 (hF.1 0 (by decide)) wk0 rfl rfl (by decide) rfl rfl (Nat.le_of_ble_eq_true rfl) 5 rfl (fun h1 => ?_) (fun h1 => ?_)
  · refine Vastore_nN dX5_goes_5 [(2, .null), (0, .ref (ad G 0)), (1, .int x1)] 6 rfl (by decide) rfl ?_
    refine Vaload_nN dX5_goes_6 0 rfl 7 rfl ?_
    refine VifnullN dX5_goes_7 21 (by decide) ?_
    refine Viconst dX5_goes_21 (0 : Int32) (by decide) 22 rfl ?_
    exact Vzret dX5_goes_22 (by first | decide | exact nb_isRegister _ | exact nb_isRow _ | exact nb_isPlace _ | exact nb_within _ _ _ | exact nb_mRegister _ | exact nb_mCell _ | exact nb_mPlace _)
  · have s2 : sQ (sI (f_X5_strandOf x1)) := sq_strandOf h1
    refine Vastore_n dX5_goes_5 [(2, .ref (ad G ((sI (f_X5_strandOf x1))))), (0, .ref (ad G 0)), (1, .int x1)] 6 rfl (by decide) rfl ?_
    refine Vaload_n dX5_goes_6 0 rfl 7 rfl ?_
    refine Vifnull dX5_goes_7 10 rfl ?_
    refine Vaload_n dX5_goes_10 0 rfl 11 rfl ?_
    refine VcVp dX5_goes_11 [] (c_X4_state l hF σ (sI (f_X5_strandOf x1)) s2) mw_X4_state wd_im_yX4_state wd_se_yX4_state wd_ml_RX5_50 (sI_ hF s2 0 (by decide)) (sk0 s2) rfl rfl (by decide) rfl rfl (Nat.le_of_ble_eq_true rfl) 14 rfl ?_
    refine Vifne (fun v => (v, σ)) dX5_goes_14 21 17 (by decide) rfl (fun h3 => ?_) (fun h3 => ?_)
    · refine Viconst dX5_goes_21 (0 : Int32) (by decide) 22 rfl ?_
      exact Vzret dX5_goes_22 (by first | decide | exact nb_isRegister _ | exact nb_isRow _ | exact nb_isPlace _ | exact nb_within _ _ _ | exact nb_mRegister _ | exact nb_mCell _ | exact nb_mPlace _)
    · refine Viconst dX5_goes_17 (1 : Int32) (by decide) 18 rfl ?_
      refine Vgoto dX5_goes_18 22 (by decide) ?_
      exact Vzret dX5_goes_22 (by first | decide | exact nb_isRegister _ | exact nb_isRow _ | exact nb_isPlace _ | exact nb_within _ _ _ | exact nb_mRegister _ | exact nb_mCell _ | exact nb_mPlace _)
def l_X5_drawn_4 : Nat → Int32 → Int32 → mS → Int32 × Int32
  | 0, y2, y3, σ => (y2, y3)
  | n + 1, y2, y3, σ => (if (3 : Int32) ≤ y3 then (y2, y3) else (if (f_X5_goes σ y3) = 0 then (l_X5_drawn_4 n y2 (y3 + 1) σ) else (l_X5_drawn_4 n (y2 + 1) (y3 + 1) σ)))
set_option maxRecDepth 100000 in
set_option maxHeartbeats 4000000 in
theorem vl_X5_drawn_4 (l : Launch) {G : gT} (X : xT) (hF : Full G) (σ : mS) (x1 : Int32)  {B : Int32 × Int32 → Int32} : ∀ (n : Nat) (y2 : Int32) (y3 : Int32) (i : Nat) (hc : y3 = nI i) (hi : i ≤ 3) (hn : n + i = 4) (hk : ∀ u : Int32 × Int32, V l G X RX5 cX5_drawn 5 2 (some (.object "MutableCells$Strand")) (κR G) ((fun v => (ap B v, σ)) u) σ 30 [(0, .ref (ad G 0)), (1, .int x1), (2, .int u.1), (3, .int u.2)] []), V l G X RX5 cX5_drawn 5 2 (some (.object "MutableCells$Strand")) (κR G) ((fun v => (ap B v, σ)) (l_X5_drawn_4 n y2 y3 σ)) σ 4 [(0, .ref (ad G 0)), (1, .int x1), (2, .int y2), (3, .int y3)] [] := by
  intro n
  induction n with
  | zero => intro y2 y3 i hc hi hn hk; exact absurd hn (by omega)
  | succ n ih =>
    intro y2 y3 i hc hi hn hk
    rw [l_X5_drawn_4.eq_2]
    refine Vload_n dX5_drawn_4 3 rfl 5 rfl ?_
    refine Vaload_n dX5_drawn_5 0 rfl 6 rfl ?_
    refine Vget (0) 2 dX5_drawn_6 9 rfl (hF.1 0 (by decide)) wk0 rfl inX5 (by decide) wd_fl_RX5_25 (v := .ref (ad G 13)) rfl ?_
    refine Vlens dX5_drawn_9 10 rfl (hF.1 13 (by decide)) hF.2.2.2 ?_
    refine Vicge (fun v => (ap B v, σ)) dX5_drawn_10 30 13 (by decide) rfl (fun h1 => ?_) (fun h1 => ?_)
    · refine Vlv [0, 1, 2, 3] rfl ?_
      exact hk (y2, y3) 
    · refine Vaload_n dX5_drawn_13 0 rfl 14 rfl ?_
      refine Vload_n dX5_drawn_14 3 rfl 15 rfl ?_
      refine VcVp dX5_drawn_15 [.int y3] (c_X5_goes l hF σ y3) mw_X5_goes wd_im_yX5_goes wd_se_yX5_goes wd_ml_RX5_150 (hF.1 0 (by decide)) wk0 rfl rfl (by decide) rfl rfl (Nat.le_of_ble_eq_true rfl) 18 rfl ?_
      refine Vifeq (fun v => (ap B v, σ)) dX5_drawn_18 24 21 (by decide) rfl (fun h2 => ?_) (fun h2 => ?_)
      · refine Viinc dX5_drawn_24 (y3 + 1) 3 [(3, .int (y3 + 1)), (0, .ref (ad G 0)), (1, .int x1), (2, .int y2)] 27 rfl rfl rfl (by decide) rfl ?_
        refine Vgoto dX5_drawn_27 4 (by decide) ?_
        refine Vlv [1, 2, 3, 0] rfl ?_
        exact ih y2 (y3 + 1) (i + 1) (cnt_s hc) (cnt_lt hc (by assumption) (K := 3) (by decide) (by decide) hi) (by omega) hk
      · refine Viinc dX5_drawn_21 (y2 + 1) 2 [(2, .int (y2 + 1)), (0, .ref (ad G 0)), (1, .int x1), (3, .int y3)] 24 rfl rfl rfl (by decide) rfl ?_
        refine Viinc dX5_drawn_24 (y3 + 1) 3 [(3, .int (y3 + 1)), (2, .int (y2 + 1)), (0, .ref (ad G 0)), (1, .int x1)] 27 rfl rfl rfl (by decide) rfl ?_
        refine Vgoto dX5_drawn_27 4 (by decide) ?_
        refine Vlv [2, 3, 1, 0] rfl ?_
        exact ih (y2 + 1) (y3 + 1) (i + 1) (cnt_s hc) (cnt_lt hc (by assumption) (K := 3) (by decide) (by decide) hi) (by omega) hk
def l_X5_drawn_46 : Nat → Int32 → Int32 → mS → Int32
  | 0, y3, y4, σ => 0
  | n + 1, y3, y4, σ => (if (3 : Int32) ≤ y4 then -1 else (if (f_X5_goes σ y4) = 0 then (l_X5_drawn_46 n y3 (y4 + 1) σ) else (if y3 = 0 then (if (f_X5_strandOf y4) = -1 then -1 else (f_X5_strandOf y4)) else (l_X5_drawn_46 n (y3 + (-1)) (y4 + 1) σ))))
set_option maxRecDepth 100000 in
set_option maxHeartbeats 4000000 in
theorem vl_X5_drawn_46 (l : Launch) {G : gT} (X : xT) (hF : Full G) (σ : mS)  : ∀ (n : Nat) (y3 : Int32) (y4 : Int32) (i : Nat) (hc : y4 = nI i) (hi : i ≤ 3) (hn : n + i = 4), V l G X RX5 cX5_drawn 5 2 (some (.object "MutableCells$Strand")) (κR G) ((fun v => (v, σ)) (l_X5_drawn_46 n y3 y4 σ)) σ 46 [(0, .ref (ad G 0)), (3, .int y3), (4, .int y4)] [] := by
  intro n
  induction n with
  | zero => intro y3 y4 i hc hi hn; exact absurd hn (by omega)
  | succ n ih =>
    intro y3 y4 i hc hi hn
    rw [l_X5_drawn_46.eq_2]
    refine Vload dX5_drawn_46 2 rfl 48 rfl ?_
    refine Vaload_n dX5_drawn_48 0 rfl 49 rfl ?_
    refine Vget (0) 2 dX5_drawn_49 52 rfl (hF.1 0 (by decide)) wk0 rfl inX5 (by decide) wd_fl_RX5_25 (v := .ref (ad G 13)) rfl ?_
    refine Vlens dX5_drawn_52 53 rfl (hF.1 13 (by decide)) hF.2.2.2 ?_
    refine Vicge (fun v => (v, σ)) dX5_drawn_53 85 56 (by decide) rfl (fun h5 => ?_) (fun h5 => ?_)
    · refine Vnull dX5_drawn_85 86 rfl ?_
      exact VaretN dX5_drawn_86
    · refine Vaload_n dX5_drawn_56 0 rfl 57 rfl ?_
      refine Vload dX5_drawn_57 2 rfl 59 rfl ?_
      refine VcVp dX5_drawn_59 [.int y4] (c_X5_goes l hF σ y4) mw_X5_goes wd_im_yX5_goes wd_se_yX5_goes wd_ml_RX5_150 (hF.1 0 (by decide)) wk0 rfl rfl (by decide) rfl rfl (Nat.le_of_ble_eq_true rfl) 62 rfl ?_
      refine Vifeq (fun v => (v, σ)) dX5_drawn_62 79 65 (by decide) rfl (fun h6 => ?_) (fun h6 => ?_)
      · refine Viinc dX5_drawn_79 (y4 + 1) 2 [(4, .int (y4 + 1)), (0, .ref (ad G 0)), (3, .int y3)] 82 rfl rfl rfl (by decide) rfl ?_
        refine Vgoto dX5_drawn_82 46 (by decide) ?_
        refine Vlv [1, 2, 0] rfl ?_
        exact ih y3 (y4 + 1) (i + 1) (cnt_s hc) (cnt_lt hc (by assumption) (K := 3) (by decide) (by decide) hi) (by omega)
      · refine Vload_n dX5_drawn_65 1 rfl 66 rfl ?_
        refine Viinc dX5_drawn_66 (y3 + (-1)) 1 [(3, .int (y3 + (-1))), (0, .ref (ad G 0)), (4, .int y4)] 69 rfl rfl rfl (by decide) rfl ?_
        refine Vifne (fun v => (v, σ)) dX5_drawn_69 79 72 (by decide) rfl (fun h7 => ?_) (fun h7 => ?_)
        · refine Viinc dX5_drawn_79 (y4 + 1) 2 [(4, .int (y4 + 1)), (3, .int (y3 + (-1))), (0, .ref (ad G 0))] 82 rfl rfl rfl (by decide) rfl ?_
          refine Vgoto dX5_drawn_82 46 (by decide) ?_
          refine Vlv [2, 1, 0] rfl ?_
          exact ih (y3 + (-1)) (y4 + 1) (i + 1) (cnt_s hc) (cnt_lt hc (by assumption) (K := 3) (by decide) (by decide) hi) (by omega)
        · refine Vaload_n dX5_drawn_72 1 rfl 73 rfl ?_
          refine Vload dX5_drawn_73 2 rfl 75 rfl ?_
          refine VcVr (fun v => (v, σ)) dX5_drawn_75 [.int y4] (c_X5_strandOf l hF σ y4) mw_X5_strandOf wd_im_yX5_strandOf wd_se_yX5_strandOf wd_ml_RX5_32 (hF.1 0 (by decide)) wk0 rfl rfl (by decide) rfl rfl (Nat.le_of_ble_eq_true rfl) 78 rfl (fun h8 => ?_) (fun h8 => ?_)
          · exact VaretN dX5_drawn_78
          · have s9 : sQ (sI (f_X5_strandOf y4)) := sq_strandOf h8
            exact Varet dX5_drawn_78 ((sI (f_X5_strandOf y4))) (κR_ne (by assumption))
def f_X5_drawn (σ : mS) (x1 : Int32) : Int32 := (ap (fun u3 => (if u3.1 = 0 then -1 else (l_X5_drawn_46 4 (((x1.toUInt32 >>> ((16 : Int32).toUInt32 &&& Int32.toUInt32 31)).toInt32) - ((x1.toUInt32 >>> ((16 : Int32).toUInt32 &&& Int32.toUInt32 31)).toInt32) / u3.1 * u3.1) (0 : Int32) σ))) (l_X5_drawn_4 4 (0 : Int32) (0 : Int32) σ))
theorem mw_X5_drawn : mW yX5_drawn cX5_drawn 5 (some (.object "MutableCells$Strand")) 1 := ⟨wd_co_yX5_drawn, wd_ini_RX5, ⟨by decide, by decide⟩, by decide +kernel, by decide⟩
set_option maxRecDepth 100000 in
set_option maxHeartbeats 4000000 in
theorem c_X5_drawn (l : Launch) {G : gT} (hF : Full G) (σ : mS) (x1 : Int32)  : Ct l G yX5_drawn cX5_drawn 5 (some (.object "MutableCells$Strand")) 2 [.ref (ad G 0), .int x1] (κR G) σ (f_X5_drawn σ x1, σ) := by
  refine Ct.ofV [(0, .ref (ad G 0)), (1, .int x1)] rfl (by decide) (Nat.le_of_ble_eq_true rfl) rfl (fun X => ?_)
  unfold f_X5_drawn
  refine Viconst dX5_drawn_0 (0 : Int32) (by decide) 1 rfl ?_
  refine Vstore_n dX5_drawn_1 [(2, .int (0 : Int32)), (0, .ref (ad G 0)), (1, .int x1)] 2 rfl (by decide) rfl ?_
  refine Viconst dX5_drawn_2 (0 : Int32) (by decide) 3 rfl ?_
  refine Vstore_n dX5_drawn_3 [(3, .int (0 : Int32)), (2, .int (0 : Int32)), (0, .ref (ad G 0)), (1, .int x1)] 4 rfl (by decide) rfl ?_
  refine Vlv [2, 3, 1, 0] rfl ?_
  refine vl_X5_drawn_4 l X hF σ x1  4 (0 : Int32) (0 : Int32) 0 nI_0.symm (Nat.zero_le _) rfl ?_
  intro u3
  show V _ _ _ _ _ _ _ _ _ (_, _) _ _ _ _
  refine Vload_n dX5_drawn_30 2 rfl 31 rfl ?_
  refine Vifne (fun v => (v, σ)) dX5_drawn_31 36 34 (by decide) rfl (fun h4 => ?_) (fun h4 => ?_)
  · refine Vload_n dX5_drawn_36 1 rfl 37 rfl ?_
    refine Vbipush dX5_drawn_37 (16 : Int32) (by decide) 39 rfl ?_
    refine Viushr dX5_drawn_39 40 rfl ?_
    refine Vload_n dX5_drawn_40 2 rfl 41 rfl ?_
    refine Virem dX5_drawn_41 (by first | assumption | decide) 42 rfl ?_
    refine Vstore_n dX5_drawn_42 [(3, .int (((x1.toUInt32 >>> ((16 : Int32).toUInt32 &&& Int32.toUInt32 31)).toInt32) - ((x1.toUInt32 >>> ((16 : Int32).toUInt32 &&& Int32.toUInt32 31)).toInt32) / u3.1 * u3.1)), (0, .ref (ad G 0)), (1, .int x1), (2, .int u3.1)] 43 rfl (by decide) rfl ?_
    refine Viconst dX5_drawn_43 (0 : Int32) (by decide) 44 rfl ?_
    refine Vstore dX5_drawn_44 [(4, .int (0 : Int32)), (3, .int (((x1.toUInt32 >>> ((16 : Int32).toUInt32 &&& Int32.toUInt32 31)).toInt32) - ((x1.toUInt32 >>> ((16 : Int32).toUInt32 &&& Int32.toUInt32 31)).toInt32) / u3.1 * u3.1)), (0, .ref (ad G 0)), (1, .int x1), (2, .int u3.1)] 46 rfl (by decide) rfl ?_
    refine Vlv [2, 1, 0] rfl ?_
    exact vl_X5_drawn_46 l X hF σ  4 (((x1.toUInt32 >>> ((16 : Int32).toUInt32 &&& Int32.toUInt32 31)).toInt32) - ((x1.toUInt32 >>> ((16 : Int32).toUInt32 &&& Int32.toUInt32 31)).toInt32) / u3.1 * u3.1) (0 : Int32) 0 nI_0.symm (Nat.zero_le _) rfl
  · refine Vnull dX5_drawn_34 35 rfl ?_
    exact VaretN dX5_drawn_35
theorem drawn_46 : ∀ (n : Nat) (y3 y4 : Int32) (σ : mS), l_X5_drawn_46 n y3 y4 σ = -1 ∨ ∃ y : Int32, l_X5_drawn_46 n y3 y4 σ = f_X5_strandOf y := by
  intro n
  induction n with
  | zero => intro y3 y4 σ; exact Or.inr ⟨0, show (0 : Int32) = f_X5_strandOf 0 by decide⟩
  | succ n ih =>
    intro y3 y4 σ
    rw [l_X5_drawn_46.eq_2]
    repeat' split
    all_goals first | exact ih _ _ _ | exact Or.inl rfl | exact Or.inr ⟨_, rfl⟩
theorem sq_drawn {σ : mS} {x : Int32} (h : ¬ f_X5_drawn σ x = -1) : sQ (sI (f_X5_drawn σ x)) := by
  simp only [f_X5_drawn, ap] at h ⊢
  split at h
  · exact absurd rfl h
  · rename_i h1
    rw [if_neg h1]
    rcases drawn_46 4 _ (0 : Int32) σ with e | ⟨y, e⟩
    · exact absurd e h
    · rw [e] at h ⊢; exact sq_strandOf h
def l_X5_play_19 : Nat → Int32 → Int32 → mS → Int32 → Int32 × mS
  | 0, y3, y4, σ, _ => (0, σ)
  | n + 1, y3, y4, σ, x2 => (if x2 ≤ y4 then (x2, σ) else (if (σ 0 4) < (5000 : Int32) then (if (f_X5_drawn σ ((y3 * (1103515245 : Int32)) + (12345 : Int32))) = -1 then (y4, σ) else (ap (fun u7 => (l_X5_play_19 n ((y3 * (1103515245 : Int32)) + (12345 : Int32)) (y4 + 1) u7.2 x2)) (f_X5_takeTurn σ (sI (f_X5_drawn σ ((y3 * (1103515245 : Int32)) + (12345 : Int32))))))) else (y4, σ)))
set_option maxRecDepth 100000 in
set_option maxHeartbeats 4000000 in
theorem vl_X5_play_19 (l : Launch) {G : gT} (X : xT) (hF : Full G) (x2 : Int32) (hx2 : x2 ≤ (100 : Int32)) : ∀ (n : Nat) (y3 : Int32) (y4 : Int32) (σ : mS) (i : Nat) (hc : y4 = nI i) (hi : i ≤ 100) (hn : n + i = 101), V l G X RX5 cX5_play 6 7 (some .int) κI ((fun v => v) (l_X5_play_19 n y3 y4 σ x2)) σ 19 [(0, .ref (ad G 0)), (2, .int x2), (3, .int y3), (4, .int y4)] [] := by
  intro n
  induction n with
  | zero => intro y3 y4 σ i hc hi hn; exact absurd hn (by omega)
  | succ n ih =>
    intro y3 y4 σ i hc hi hn
    rw [l_X5_play_19.eq_2]
    refine Vload dX5_play_19 3 rfl 21 rfl ?_
    refine Vload_n dX5_play_21 1 rfl 22 rfl ?_
    refine Vicge (fun v => v) dX5_play_22 75 25 (by decide) rfl (fun h3 => ?_) (fun h3 => ?_)
    · refine Vload_n dX5_play_75 1 rfl 76 rfl ?_
      exact Viret dX5_play_76
    · refine Vload_n dX5_play_25 2 rfl 26 rfl ?_
      refine Vldc dX5_play_26 (1103515245 : Int32) wd_ct_RX5_61 28 rfl ?_
      refine Vimul dX5_play_28 29 rfl ?_
      refine Vsipush dX5_play_29 (12345 : Int32) (by decide) 32 rfl ?_
      refine Viadd dX5_play_32 33 rfl ?_
      refine Vstore_n dX5_play_33 [(3, .int ((y3 * (1103515245 : Int32)) + (12345 : Int32))), (0, .ref (ad G 0)), (2, .int x2), (4, .int y4)] 34 rfl (by decide) rfl ?_
      refine Vaload_n dX5_play_34 1 rfl 35 rfl ?_
      refine Vget (0) 4 dX5_play_35 38 rfl (hF.1 0 (by decide)) wk0 rfl inX5 (by decide) wd_fl_RX5_54 (v := .int (σ 0 4)) rfl ?_
      refine Vsipush dX5_play_38 (5000 : Int32) (by decide) 41 rfl ?_
      refine Viclt (fun v => v) dX5_play_41 48 44 (by decide) rfl (fun h4 => ?_) (fun h4 => ?_)
      · refine Vaload_n dX5_play_48 1 rfl 49 rfl ?_
        refine Vload_n dX5_play_49 0 rfl 50 rfl ?_
        refine VcVr (fun v => v) dX5_play_50 [.int ((y3 * (1103515245 : Int32)) + (12345 : Int32))] (c_X5_drawn l hF σ ((y3 * (1103515245 : Int32)) + (12345 : Int32))) mw_X5_drawn wd_im_yX5_drawn wd_se_yX5_drawn wd_ml_RX5_62 (hF.1 0 (by decide)) wk0 rfl rfl (by decide) rfl rfl (Nat.le_of_ble_eq_true rfl) 53 rfl (fun h5 => ?_) (fun h5 => ?_)
        · refine VastoreN dX5_play_53 [(5, .null), (3, .int ((y3 * (1103515245 : Int32)) + (12345 : Int32))), (0, .ref (ad G 0)), (2, .int x2), (4, .int y4)] 55 rfl (by decide) rfl ?_
          refine ValoadN dX5_play_55 0 rfl 57 rfl ?_
          refine VifnnN dX5_play_57 60 rfl ?_
          refine Vload dX5_play_60 4 rfl 62 rfl ?_
          exact Viret dX5_play_62
        · have s6 : sQ (sI (f_X5_drawn σ ((y3 * (1103515245 : Int32)) + (12345 : Int32)))) := sq_drawn h5
          refine Vastore dX5_play_53 [(5, .ref (ad G ((sI (f_X5_drawn σ ((y3 * (1103515245 : Int32)) + (12345 : Int32))))))), (3, .int ((y3 * (1103515245 : Int32)) + (12345 : Int32))), (0, .ref (ad G 0)), (2, .int x2), (4, .int y4)] 55 rfl (by decide) rfl ?_
          refine Vaload dX5_play_55 0 rfl 57 rfl ?_
          refine Vifnn dX5_play_57 63 (by decide) ?_
          refine Vaload_n dX5_play_63 2 rfl 64 rfl ?_
          refine Vaload dX5_play_64 0 rfl 66 rfl ?_
          refine Vgen ?_
          intro u7 eu7
          refine VcVv (u := u7) dX5_play_66 [.ref (ad G ((sI (f_X5_drawn σ ((y3 * (1103515245 : Int32)) + (12345 : Int32))))))] (by rw [eu7]; exact c_X5_takeTurn l hF σ (sI (f_X5_drawn σ ((y3 * (1103515245 : Int32)) + (12345 : Int32)))) s6) mw_X5_takeTurn wd_im_yX5_takeTurn wd_se_yX5_takeTurn wd_ml_RX5_57 (hF.1 0 (by decide)) wk0 rfl rfl (by decide) rfl rfl (Nat.le_of_ble_eq_true rfl) 69 rfl ?_
          refine Viinc dX5_play_69 (y4 + 1) 4 [(4, .int (y4 + 1)), (5, .ref (ad G ((sI (f_X5_drawn σ ((y3 * (1103515245 : Int32)) + (12345 : Int32))))))), (3, .int ((y3 * (1103515245 : Int32)) + (12345 : Int32))), (0, .ref (ad G 0)), (2, .int x2)] 72 rfl rfl rfl (by decide) rfl ?_
          refine Vgoto dX5_play_72 19 (by decide) ?_
          refine Vlv [3, 4, 2, 0] rfl ?_
          exact ih ((y3 * (1103515245 : Int32)) + (12345 : Int32)) (y4 + 1) u7.2 (i + 1) (cnt_s hc) (cnt_lt2 hc (by assumption) hx2 (by decide) (by decide) hi) (by omega)
      · refine Vnull dX5_play_44 45 rfl ?_
        refine Vgoto dX5_play_45 53 (by decide) ?_
        refine VastoreN dX5_play_53 [(5, .null), (3, .int ((y3 * (1103515245 : Int32)) + (12345 : Int32))), (0, .ref (ad G 0)), (2, .int x2), (4, .int y4)] 55 rfl (by decide) rfl ?_
        refine ValoadN dX5_play_55 0 rfl 57 rfl ?_
        refine VifnnN dX5_play_57 60 rfl ?_
        refine Vload dX5_play_60 4 rfl 62 rfl ?_
        exact Viret dX5_play_62
def f_X5_play (σ : mS) (x1 : Int32) (x2 : Int32) : Int32 × mS := (if x2 < (1 : Int32) then ((-2 : Int32), σ) else (if x2 ≤ (100 : Int32) then (l_X5_play_19 101 x1 (0 : Int32) σ x2) else ((-2 : Int32), σ)))
theorem mw_X5_play : mW yX5_play cX5_play 6 (some .int) 2 := ⟨wd_co_yX5_play, wd_ini_RX5, ⟨by decide, by decide⟩, by decide +kernel, by decide⟩
set_option maxRecDepth 100000 in
set_option maxHeartbeats 4000000 in
theorem c_X5_play (l : Launch) {G : gT} (hF : Full G) (σ : mS) (x1 : Int32) (x2 : Int32)  : Ct l G yX5_play cX5_play 6 (some .int) 7 [.ref (ad G 0), .int x1, .int x2] κI σ (f_X5_play σ x1 x2) := by
  refine Ct.ofV [(0, .ref (ad G 0)), (1, .int x1), (2, .int x2)] rfl (by decide) (Nat.le_of_ble_eq_true rfl) rfl (fun X => ?_)
  unfold f_X5_play
  refine Vload_n dX5_play_0 2 rfl 1 rfl ?_
  refine Viconst dX5_play_1 (1 : Int32) (by decide) 2 rfl ?_
  refine Viclt (fun v => v) dX5_play_2 11 5 (by decide) rfl (fun h1 => ?_) (fun h1 => ?_)
  · refine Vbipush dX5_play_11 (-2 : Int32) (by decide) 13 rfl ?_
    exact Viret dX5_play_13
  · refine Vload_n dX5_play_5 2 rfl 6 rfl ?_
    refine Vbipush dX5_play_6 (100 : Int32) (by decide) 8 rfl ?_
    refine Vicle (fun v => v) dX5_play_8 14 11 (by decide) rfl (fun h2 => ?_) (fun h2 => ?_)
    · refine Vload_n dX5_play_14 1 rfl 15 rfl ?_
      refine Vstore_n dX5_play_15 [(3, .int x1), (0, .ref (ad G 0)), (1, .int x1), (2, .int x2)] 16 rfl (by decide) rfl ?_
      refine Viconst dX5_play_16 (0 : Int32) (by decide) 17 rfl ?_
      refine Vstore dX5_play_17 [(4, .int (0 : Int32)), (3, .int x1), (0, .ref (ad G 0)), (1, .int x1), (2, .int x2)] 19 rfl (by decide) rfl ?_
      refine Vlv [2, 4, 1, 0] rfl ?_
      exact vl_X5_play_19 l X hF x2  (by assumption) 101 x1 (0 : Int32) σ 0 nI_0.symm (Nat.zero_le _) rfl
    · refine Vbipush dX5_play_11 (-2 : Int32) (by decide) 13 rfl ?_
      exact Viret dX5_play_13
def f_X5_told (σ : mS) (x1 : Int32) (x2 : Int32) : Int32 := (if (f_X5_strandOf x1) = -1 then (-2 : Int32) else (if x2 = (0 : Int32) then (f_X4_state σ (sI (f_X5_strandOf x1))) else (if x2 = (1 : Int32) then (σ (sI (f_X5_strandOf x1)) 10) else (if x2 = (2 : Int32) then (σ (sI (f_X5_strandOf x1)) 12) else (if x2 = (3 : Int32) then (σ (sI (f_X5_strandOf x1)) 8) else (if x2 = (4 : Int32) then (if (σ ((sI (f_X5_strandOf x1)) + 7) 0) = 0 then (0 : Int32) else (1 : Int32)) else (if x2 = (5 : Int32) then (σ (sI (f_X5_strandOf x1)) 13) else (if x2 = (6 : Int32) then (σ (sI (f_X5_strandOf x1)) 14) else (-2 : Int32)))))))))
theorem mw_X5_told : mW yX5_told cX5_told 4 (some .int) 2 := ⟨wd_co_yX5_told, wd_ini_RX5, ⟨by decide, by decide⟩, by decide +kernel, by decide⟩
set_option maxRecDepth 100000 in
set_option maxHeartbeats 4000000 in
theorem c_X5_told (l : Launch) {G : gT} (hF : Full G) (σ : mS) (x1 : Int32) (x2 : Int32)  : Ct l G yX5_told cX5_told 4 (some .int) 1 [.ref (ad G 0), .int x1, .int x2] κI σ (f_X5_told σ x1 x2, σ) := by
  refine Ct.ofV [(0, .ref (ad G 0)), (1, .int x1), (2, .int x2)] rfl (by decide) (Nat.le_of_ble_eq_true rfl) rfl (fun X => ?_)
  unfold f_X5_told
  refine Vaload_n dX5_told_0 0 rfl 1 rfl ?_
  refine Vload_n dX5_told_1 1 rfl 2 rfl ?_
  refine VcVr (fun v => (v, σ)) dX5_told_2 [.int x1] (c_X5_strandOf l hF σ x1) mw_X5_strandOf wd_im_yX5_strandOf wd_se_yX5_strandOf wd_ml_RX5_32 (hF.1 0 (by decide)) wk0 rfl rfl (by decide) rfl rfl (Nat.le_of_ble_eq_true rfl) 5 rfl (fun h1 => ?_) (fun h1 => ?_)
  · refine Vastore_nN dX5_told_5 [(3, .null), (0, .ref (ad G 0)), (1, .int x1), (2, .int x2)] 6 rfl (by decide) rfl ?_
    refine Vaload_nN dX5_told_6 0 rfl 7 rfl ?_
    refine VifnnN dX5_told_7 10 rfl ?_
    refine Vbipush dX5_told_10 (-2 : Int32) (by decide) 12 rfl ?_
    exact Viret dX5_told_12
  · have s2 : sQ (sI (f_X5_strandOf x1)) := sq_strandOf h1
    refine Vastore_n dX5_told_5 [(3, .ref (ad G ((sI (f_X5_strandOf x1))))), (0, .ref (ad G 0)), (1, .int x1), (2, .int x2)] 6 rfl (by decide) rfl ?_
    refine Vaload_n dX5_told_6 0 rfl 7 rfl ?_
    refine Vifnn dX5_told_7 13 (by decide) ?_
    refine Vload_n dX5_told_13 3 rfl 14 rfl ?_
    refine Vif (fun v => (v, σ)) (fun h3 => ?_) (fun h3 => ?_)
    · refine Vswin dX5_told_14 56 (by rw [h3]; decide) (by rw [h3]; decide) (off := 42) (by rw [h3]; rfl) (by decide) ?_
      refine Vaload_n dX5_told_56 0 rfl 57 rfl ?_
      refine VcVp dX5_told_57 [] (c_X4_state l hF σ (sI (f_X5_strandOf x1)) s2) mw_X4_state wd_im_yX4_state wd_se_yX4_state wd_ml_RX5_50 (sI_ hF s2 0 (by decide)) (sk0 s2) rfl rfl (by decide) rfl rfl (Nat.le_of_ble_eq_true rfl) 60 rfl ?_
      exact Viret dX5_told_60
    refine Vif (fun v => (v, σ)) (fun h4 => ?_) (fun h4 => ?_)
    · refine Vswin dX5_told_14 61 (by rw [h4]; decide) (by rw [h4]; decide) (off := 47) (by rw [h4]; rfl) (by decide) ?_
      refine Vaload_n dX5_told_61 0 rfl 62 rfl ?_
      refine VgetN ((sI (f_X5_strandOf x1))) 10 dX5_told_62 65 rfl (sI_ hF s2 0 (by decide)) (sk0 s2) rfl inX4 (by decide) wd_nfl_RX5_65 (v := .int (σ (sI (f_X5_strandOf x1)) 10)) rfl ?_
      exact Viret dX5_told_65
    refine Vif (fun v => (v, σ)) (fun h5 => ?_) (fun h5 => ?_)
    · refine Vswin dX5_told_14 66 (by rw [h5]; decide) (by rw [h5]; decide) (off := 52) (by rw [h5]; rfl) (by decide) ?_
      refine Vaload_n dX5_told_66 0 rfl 67 rfl ?_
      refine VgetN ((sI (f_X5_strandOf x1))) 12 dX5_told_67 70 rfl (sI_ hF s2 0 (by decide)) (sk0 s2) rfl inX4 (by decide) wd_nfl_RX5_68 (v := .int (σ (sI (f_X5_strandOf x1)) 12)) rfl ?_
      exact Viret dX5_told_70
    refine Vif (fun v => (v, σ)) (fun h6 => ?_) (fun h6 => ?_)
    · refine Vswin dX5_told_14 71 (by rw [h6]; decide) (by rw [h6]; decide) (off := 57) (by rw [h6]; rfl) (by decide) ?_
      refine Vaload_n dX5_told_71 0 rfl 72 rfl ?_
      refine VgetN ((sI (f_X5_strandOf x1))) 8 dX5_told_72 75 rfl (sI_ hF s2 0 (by decide)) (sk0 s2) rfl inX4 (by decide) wd_nfl_RX5_71 (v := .int (σ (sI (f_X5_strandOf x1)) 8)) rfl ?_
      exact Viret dX5_told_75
    refine Vif (fun v => (v, σ)) (fun h7 => ?_) (fun h7 => ?_)
    · refine Vswin dX5_told_14 76 (by rw [h7]; decide) (by rw [h7]; decide) (off := 62) (by rw [h7]; rfl) (by decide) ?_
      refine Vaload_n dX5_told_76 0 rfl 77 rfl ?_
      refine VgetN ((sI (f_X5_strandOf x1))) 9 dX5_told_77 80 rfl (sI_ hF s2 0 (by decide)) (sk0 s2) rfl inX4 (by decide) wd_nfl_RX5_74 (v := .ref (ad G ((sI (f_X5_strandOf x1)) + 7))) rfl ?_
      refine VgetN ((sI (f_X5_strandOf x1)) + 7) 0 dX5_told_80 83 rfl (sI_ hF s2 7 (by decide)) (sk7 s2) rfl inX0 (by decide) wd_nfl_RX5_78 (v := .int (σ ((sI (f_X5_strandOf x1)) + 7) 0)) rfl ?_
      refine Vifeq (fun v => (v, σ)) dX5_told_83 90 86 (by decide) rfl (fun h8 => ?_) (fun h8 => ?_)
      · refine Viconst dX5_told_90 (0 : Int32) (by decide) 91 rfl ?_
        exact Viret dX5_told_91
      · refine Viconst dX5_told_86 (1 : Int32) (by decide) 87 rfl ?_
        refine Vgoto dX5_told_87 91 (by decide) ?_
        exact Viret dX5_told_91
    refine Vif (fun v => (v, σ)) (fun h9 => ?_) (fun h9 => ?_)
    · refine Vswin dX5_told_14 92 (by rw [h9]; decide) (by rw [h9]; decide) (off := 78) (by rw [h9]; rfl) (by decide) ?_
      refine Vaload_n dX5_told_92 0 rfl 93 rfl ?_
      refine VgetN ((sI (f_X5_strandOf x1))) 13 dX5_told_93 96 rfl (sI_ hF s2 0 (by decide)) (sk0 s2) rfl inX4 (by decide) wd_nfl_RX5_40 (v := .int (σ (sI (f_X5_strandOf x1)) 13)) rfl ?_
      exact Viret dX5_told_96
    refine Vif (fun v => (v, σ)) (fun h10 => ?_) (fun h10 => ?_)
    · refine Vswin dX5_told_14 97 (by rw [h10]; decide) (by rw [h10]; decide) (off := 83) (by rw [h10]; rfl) (by decide) ?_
      refine Vaload_n dX5_told_97 0 rfl 98 rfl ?_
      refine VgetN ((sI (f_X5_strandOf x1))) 14 dX5_told_98 101 rfl (sI_ hF s2 0 (by decide)) (sk0 s2) rfl inX4 (by decide) wd_nfl_RX5_84 (v := .int (σ (sI (f_X5_strandOf x1)) 14)) rfl ?_
      exact Viret dX5_told_101
    refine Vswout dX5_told_14 (by have eh3 := lv_neT (a := 0) h3 (by decide); have eh4 := lv_neT (a := 1) h4 (by decide); have eh5 := lv_neT (a := 2) h5 (by decide); have eh6 := lv_neT (a := 3) h6 (by decide); have eh7 := lv_neT (a := 4) h7 (by decide); have eh9 := lv_neT (a := 5) h9 (by decide); have eh10 := lv_neT (a := 6) h10 (by decide); omega) (tgt := 102) (by decide) ?_
    refine Vbipush dX5_told_102 (-2 : Int32) (by decide) 104 rfl ?_
    exact Viret dX5_told_104
def f_X5_register (σ : mS) (x1 : Int32) (x2 : Int32) : Int32 := (if (f_X5_strandOf x1) = -1 then (-2 : Int32) else (if (f_X5_isRegister x2) = 0 then (-2 : Int32) else (f_X4_held σ (sI (f_X5_strandOf x1)) x2)))
theorem mw_X5_register : mW yX5_register cX5_register 4 (some .int) 2 := ⟨wd_co_yX5_register, wd_ini_RX5, ⟨by decide, by decide⟩, by decide +kernel, by decide⟩
set_option maxRecDepth 100000 in
set_option maxHeartbeats 4000000 in
theorem c_X5_register (l : Launch) {G : gT} (hF : Full G) (σ : mS) (x1 : Int32) (x2 : Int32)  : Ct l G yX5_register cX5_register 4 (some .int) 2 [.ref (ad G 0), .int x1, .int x2] κI σ (f_X5_register σ x1 x2, σ) := by
  refine Ct.ofV [(0, .ref (ad G 0)), (1, .int x1), (2, .int x2)] rfl (by decide) (Nat.le_of_ble_eq_true rfl) rfl (fun X => ?_)
  unfold f_X5_register
  refine Vaload_n dX5_register_0 0 rfl 1 rfl ?_
  refine Vload_n dX5_register_1 1 rfl 2 rfl ?_
  refine VcVr (fun v => (v, σ)) dX5_register_2 [.int x1] (c_X5_strandOf l hF σ x1) mw_X5_strandOf wd_im_yX5_strandOf wd_se_yX5_strandOf wd_ml_RX5_32 (hF.1 0 (by decide)) wk0 rfl rfl (by decide) rfl rfl (Nat.le_of_ble_eq_true rfl) 5 rfl (fun h1 => ?_) (fun h1 => ?_)
  · refine Vastore_nN dX5_register_5 [(3, .null), (0, .ref (ad G 0)), (1, .int x1), (2, .int x2)] 6 rfl (by decide) rfl ?_
    refine Vaload_nN dX5_register_6 0 rfl 7 rfl ?_
    refine VifnullN dX5_register_7 17 (by decide) ?_
    refine Vbipush dX5_register_17 (-2 : Int32) (by decide) 19 rfl ?_
    refine Vgoto dX5_register_19 27 (by decide) ?_
    exact Viret dX5_register_27
  · have s2 : sQ (sI (f_X5_strandOf x1)) := sq_strandOf h1
    refine Vastore_n dX5_register_5 [(3, .ref (ad G ((sI (f_X5_strandOf x1))))), (0, .ref (ad G 0)), (1, .int x1), (2, .int x2)] 6 rfl (by decide) rfl ?_
    refine Vaload_n dX5_register_6 0 rfl 7 rfl ?_
    refine Vifnull dX5_register_7 10 rfl ?_
    refine Vload_n dX5_register_10 3 rfl 11 rfl ?_
    refine VcSp dX5_register_11 [.int x2] (c_X5_isRegister l hF σ x2) mw_X5_isRegister wd_sm_yX5_isRegister wd_ml_RX5_87 (by decide) rfl rfl (Nat.le_of_ble_eq_true rfl) 14 rfl ?_
    refine Vifne (fun v => (v, σ)) dX5_register_14 22 17 (by decide) rfl (fun h3 => ?_) (fun h3 => ?_)
    · refine Vaload_n dX5_register_22 0 rfl 23 rfl ?_
      refine Vload_n dX5_register_23 3 rfl 24 rfl ?_
      refine VcVp dX5_register_24 [.int x2] (c_X4_held l hF σ (sI (f_X5_strandOf x1)) x2 s2) mw_X4_held wd_im_yX4_held wd_se_yX4_held wd_ml_RX5_91 (sI_ hF s2 0 (by decide)) (sk0 s2) rfl rfl (by decide) rfl rfl (Nat.le_of_ble_eq_true rfl) 27 rfl ?_
      exact Viret dX5_register_27
    · refine Vbipush dX5_register_17 (-2 : Int32) (by decide) 19 rfl ?_
      refine Vgoto dX5_register_19 27 (by decide) ?_
      exact Viret dX5_register_27
def f_X5_cell (σ : mS) (x1 : Int32) : Int32 := (if (f_X5_isCell x1) = 0 then (-2 : Int32) else (f_X1_shown σ x1))
theorem mw_X5_cell : mW yX5_cell cX5_cell 2 (some .int) 1 := ⟨wd_co_yX5_cell, wd_ini_RX5, ⟨by decide, by decide⟩, by decide +kernel, by decide⟩
set_option maxRecDepth 100000 in
set_option maxHeartbeats 4000000 in
theorem c_X5_cell (l : Launch) {G : gT} (hF : Full G) (σ : mS) (x1 : Int32)  : Ct l G yX5_cell cX5_cell 2 (some .int) 2 [.ref (ad G 0), .int x1] κI σ (f_X5_cell σ x1, σ) := by
  refine Ct.ofV [(0, .ref (ad G 0)), (1, .int x1)] rfl (by decide) (Nat.le_of_ble_eq_true rfl) rfl (fun X => ?_)
  unfold f_X5_cell
  refine Vload_n dX5_cell_0 1 rfl 1 rfl ?_
  refine VcSp dX5_cell_1 [.int x1] (c_X5_isCell l hF σ x1) mw_X5_isCell wd_sm_yX5_isCell wd_ml_RX5_95 (by decide) rfl rfl (Nat.le_of_ble_eq_true rfl) 4 rfl ?_
  refine Vifeq (fun v => (v, σ)) dX5_cell_4 18 7 (by decide) rfl (fun h1 => ?_) (fun h1 => ?_)
  · refine Vbipush dX5_cell_18 (-2 : Int32) (by decide) 20 rfl ?_
    exact Viret dX5_cell_20
  · refine Vaload_n dX5_cell_7 0 rfl 8 rfl ?_
    refine Vget (0) 0 dX5_cell_8 11 rfl (hF.1 0 (by decide)) wk0 rfl inX5 (by decide) wd_fl_RX5_10 (v := .ref (ad G 1)) rfl ?_
    refine Vload_n dX5_cell_11 1 rfl 12 rfl ?_
    refine VcVp dX5_cell_12 [.int x1] (c_X1_shown l hF σ x1) mw_X1_shown wd_im_yX1_shown wd_se_yX1_shown wd_ml_RX5_98 (hF.1 1 (by decide)) wk1 rfl rfl (by decide) rfl rfl (Nat.le_of_ble_eq_true rfl) 15 rfl ?_
    refine Vgoto dX5_cell_15 20 (by decide) ?_
    exact Viret dX5_cell_20
def f_X5_lazy (σ : mS) (x1 : Int32) : Int32 := (if (f_X5_isCell x1) = 0 then (-2 : Int32) else (if (f_X1_isLazy σ x1) = 0 then (0 : Int32) else (1 : Int32)))
theorem mw_X5_lazy : mW yX5_lazy cX5_lazy 2 (some .int) 1 := ⟨wd_co_yX5_lazy, wd_ini_RX5, ⟨by decide, by decide⟩, by decide +kernel, by decide⟩
set_option maxRecDepth 100000 in
set_option maxHeartbeats 4000000 in
theorem c_X5_lazy (l : Launch) {G : gT} (hF : Full G) (σ : mS) (x1 : Int32)  : Ct l G yX5_lazy cX5_lazy 2 (some .int) 2 [.ref (ad G 0), .int x1] κI σ (f_X5_lazy σ x1, σ) := by
  refine Ct.ofV [(0, .ref (ad G 0)), (1, .int x1)] rfl (by decide) (Nat.le_of_ble_eq_true rfl) rfl (fun X => ?_)
  unfold f_X5_lazy
  refine Vload_n dX5_lazy_0 1 rfl 1 rfl ?_
  refine VcSp dX5_lazy_1 [.int x1] (c_X5_isCell l hF σ x1) mw_X5_isCell wd_sm_yX5_isCell wd_ml_RX5_95 (by decide) rfl rfl (Nat.le_of_ble_eq_true rfl) 4 rfl ?_
  refine Vifne (fun v => (v, σ)) dX5_lazy_4 10 7 (by decide) rfl (fun h1 => ?_) (fun h1 => ?_)
  · refine Vaload_n dX5_lazy_10 0 rfl 11 rfl ?_
    refine Vget (0) 0 dX5_lazy_11 14 rfl (hF.1 0 (by decide)) wk0 rfl inX5 (by decide) wd_fl_RX5_10 (v := .ref (ad G 1)) rfl ?_
    refine Vload_n dX5_lazy_14 1 rfl 15 rfl ?_
    refine VcVp dX5_lazy_15 [.int x1] (c_X1_isLazy l hF σ x1) mw_X1_isLazy wd_im_yX1_isLazy wd_se_yX1_isLazy wd_ml_RX5_101 (hF.1 1 (by decide)) wk1 rfl rfl (by decide) rfl rfl (Nat.le_of_ble_eq_true rfl) 18 rfl ?_
    refine Vifeq (fun v => (v, σ)) dX5_lazy_18 25 21 (by decide) rfl (fun h2 => ?_) (fun h2 => ?_)
    · refine Viconst dX5_lazy_25 (0 : Int32) (by decide) 26 rfl ?_
      exact Viret dX5_lazy_26
    · refine Viconst dX5_lazy_21 (1 : Int32) (by decide) 22 rfl ?_
      refine Vgoto dX5_lazy_22 26 (by decide) ?_
      exact Viret dX5_lazy_26
  · refine Vbipush dX5_lazy_7 (-2 : Int32) (by decide) 9 rfl ?_
    exact Viret dX5_lazy_9
def f_X5_size (σ : mS) (x1 : Int32) : Int32 := (if (f_X5_isRow x1) = 0 then (-2 : Int32) else (f_X3_length σ x1))
theorem mw_X5_size : mW yX5_size cX5_size 2 (some .int) 1 := ⟨wd_co_yX5_size, wd_ini_RX5, ⟨by decide, by decide⟩, by decide +kernel, by decide⟩
set_option maxRecDepth 100000 in
set_option maxHeartbeats 4000000 in
theorem c_X5_size (l : Launch) {G : gT} (hF : Full G) (σ : mS) (x1 : Int32)  : Ct l G yX5_size cX5_size 2 (some .int) 2 [.ref (ad G 0), .int x1] κI σ (f_X5_size σ x1, σ) := by
  refine Ct.ofV [(0, .ref (ad G 0)), (1, .int x1)] rfl (by decide) (Nat.le_of_ble_eq_true rfl) rfl (fun X => ?_)
  unfold f_X5_size
  refine Vload_n dX5_size_0 1 rfl 1 rfl ?_
  refine VcSp dX5_size_1 [.int x1] (c_X5_isRow l hF σ x1) mw_X5_isRow wd_sm_yX5_isRow wd_ml_RX5_104 (by decide) rfl rfl (Nat.le_of_ble_eq_true rfl) 4 rfl ?_
  refine Vifeq (fun v => (v, σ)) dX5_size_4 18 7 (by decide) rfl (fun h1 => ?_) (fun h1 => ?_)
  · refine Vbipush dX5_size_18 (-2 : Int32) (by decide) 20 rfl ?_
    exact Viret dX5_size_20
  · refine Vaload_n dX5_size_7 0 rfl 8 rfl ?_
    refine Vget (0) 1 dX5_size_8 11 rfl (hF.1 0 (by decide)) wk0 rfl inX5 (by decide) wd_fl_RX5_19 (v := .ref (ad G 9)) rfl ?_
    refine Vload_n dX5_size_11 1 rfl 12 rfl ?_
    refine VcVp dX5_size_12 [.int x1] (c_X3_length l hF σ x1) mw_X3_length wd_im_yX3_length wd_se_yX3_length wd_ml_RX5_107 (hF.1 9 (by decide)) wk9 rfl rfl (by decide) rfl rfl (Nat.le_of_ble_eq_true rfl) 15 rfl ?_
    refine Vgoto dX5_size_15 20 (by decide) ?_
    exact Viret dX5_size_20
def f_X5_item (σ : mS) (x1 : Int32) (x2 : Int32) : Int32 := (if (f_X5_isRow x1) = 0 then (-2 : Int32) else (f_X3_itemOf σ x1 x2))
theorem mw_X5_item : mW yX5_item cX5_item 3 (some .int) 2 := ⟨wd_co_yX5_item, wd_ini_RX5, ⟨by decide, by decide⟩, by decide +kernel, by decide⟩
set_option maxRecDepth 100000 in
set_option maxHeartbeats 4000000 in
theorem c_X5_item (l : Launch) {G : gT} (hF : Full G) (σ : mS) (x1 : Int32) (x2 : Int32)  : Ct l G yX5_item cX5_item 3 (some .int) 3 [.ref (ad G 0), .int x1, .int x2] κI σ (f_X5_item σ x1 x2, σ) := by
  refine Ct.ofV [(0, .ref (ad G 0)), (1, .int x1), (2, .int x2)] rfl (by decide) (Nat.le_of_ble_eq_true rfl) rfl (fun X => ?_)
  unfold f_X5_item
  refine Vload_n dX5_item_0 1 rfl 1 rfl ?_
  refine VcSp dX5_item_1 [.int x1] (c_X5_isRow l hF σ x1) mw_X5_isRow wd_sm_yX5_isRow wd_ml_RX5_104 (by decide) rfl rfl (Nat.le_of_ble_eq_true rfl) 4 rfl ?_
  refine Vifeq (fun v => (v, σ)) dX5_item_4 19 7 (by decide) rfl (fun h1 => ?_) (fun h1 => ?_)
  · refine Vbipush dX5_item_19 (-2 : Int32) (by decide) 21 rfl ?_
    exact Viret dX5_item_21
  · refine Vaload_n dX5_item_7 0 rfl 8 rfl ?_
    refine Vget (0) 1 dX5_item_8 11 rfl (hF.1 0 (by decide)) wk0 rfl inX5 (by decide) wd_fl_RX5_19 (v := .ref (ad G 9)) rfl ?_
    refine Vload_n dX5_item_11 1 rfl 12 rfl ?_
    refine Vload_n dX5_item_12 2 rfl 13 rfl ?_
    refine VcVp dX5_item_13 [.int x1, .int x2] (c_X3_itemOf l hF σ x1 x2) mw_X3_itemOf wd_im_yX3_itemOf wd_se_yX3_itemOf wd_ml_RX5_110 (hF.1 9 (by decide)) wk9 rfl rfl (by decide) rfl rfl (Nat.le_of_ble_eq_true rfl) 16 rfl ?_
    refine Vgoto dX5_item_16 21 (by decide) ?_
    exact Viret dX5_item_21
def f_X5_frozen (σ : mS) (x1 : Int32) : Int32 := (if (f_X5_isRow x1) = 0 then (-2 : Int32) else (if (f_X3_isFrozen σ x1) = 0 then (0 : Int32) else (1 : Int32)))
theorem mw_X5_frozen : mW yX5_frozen cX5_frozen 2 (some .int) 1 := ⟨wd_co_yX5_frozen, wd_ini_RX5, ⟨by decide, by decide⟩, by decide +kernel, by decide⟩
set_option maxRecDepth 100000 in
set_option maxHeartbeats 4000000 in
theorem c_X5_frozen (l : Launch) {G : gT} (hF : Full G) (σ : mS) (x1 : Int32)  : Ct l G yX5_frozen cX5_frozen 2 (some .int) 2 [.ref (ad G 0), .int x1] κI σ (f_X5_frozen σ x1, σ) := by
  refine Ct.ofV [(0, .ref (ad G 0)), (1, .int x1)] rfl (by decide) (Nat.le_of_ble_eq_true rfl) rfl (fun X => ?_)
  unfold f_X5_frozen
  refine Vload_n dX5_frozen_0 1 rfl 1 rfl ?_
  refine VcSp dX5_frozen_1 [.int x1] (c_X5_isRow l hF σ x1) mw_X5_isRow wd_sm_yX5_isRow wd_ml_RX5_104 (by decide) rfl rfl (Nat.le_of_ble_eq_true rfl) 4 rfl ?_
  refine Vifne (fun v => (v, σ)) dX5_frozen_4 10 7 (by decide) rfl (fun h1 => ?_) (fun h1 => ?_)
  · refine Vaload_n dX5_frozen_10 0 rfl 11 rfl ?_
    refine Vget (0) 1 dX5_frozen_11 14 rfl (hF.1 0 (by decide)) wk0 rfl inX5 (by decide) wd_fl_RX5_19 (v := .ref (ad G 9)) rfl ?_
    refine Vload_n dX5_frozen_14 1 rfl 15 rfl ?_
    refine VcVp dX5_frozen_15 [.int x1] (c_X3_isFrozen l hF σ x1) mw_X3_isFrozen wd_im_yX3_isFrozen wd_se_yX3_isFrozen wd_ml_RX5_114 (hF.1 9 (by decide)) wk9 rfl rfl (by decide) rfl rfl (Nat.le_of_ble_eq_true rfl) 18 rfl ?_
    refine Vifeq (fun v => (v, σ)) dX5_frozen_18 25 21 (by decide) rfl (fun h2 => ?_) (fun h2 => ?_)
    · refine Viconst dX5_frozen_25 (0 : Int32) (by decide) 26 rfl ?_
      exact Viret dX5_frozen_26
    · refine Viconst dX5_frozen_21 (1 : Int32) (by decide) 22 rfl ?_
      refine Vgoto dX5_frozen_22 26 (by decide) ?_
      exact Viret dX5_frozen_26
  · refine Vbipush dX5_frozen_7 (-2 : Int32) (by decide) 9 rfl ?_
    exact Viret dX5_frozen_9
def f_X5_put (σ : mS) (x1 : Int32) (x2 : Int32) : Int32 × mS := (if (f_X5_isCell x1) = 0 then ((-2 : Int32), σ) else (ap (fun u2 => ((f_X1_shown σ x1), u2.2)) (f_X1_hold σ x1 x2)))
theorem mw_X5_put : mW yX5_put cX5_put 4 (some .int) 2 := ⟨wd_co_yX5_put, wd_ini_RX5, ⟨by decide, by decide⟩, by decide +kernel, by decide⟩
set_option maxRecDepth 100000 in
set_option maxHeartbeats 4000000 in
theorem c_X5_put (l : Launch) {G : gT} (hF : Full G) (σ : mS) (x1 : Int32) (x2 : Int32)  : Ct l G yX5_put cX5_put 4 (some .int) 2 [.ref (ad G 0), .int x1, .int x2] κI σ (f_X5_put σ x1 x2) := by
  refine Ct.ofV [(0, .ref (ad G 0)), (1, .int x1), (2, .int x2)] rfl (by decide) (Nat.le_of_ble_eq_true rfl) rfl (fun X => ?_)
  unfold f_X5_put
  refine Vload_n dX5_put_0 1 rfl 1 rfl ?_
  refine VcSp dX5_put_1 [.int x1] (c_X5_isCell l hF σ x1) mw_X5_isCell wd_sm_yX5_isCell wd_ml_RX5_95 (by decide) rfl rfl (Nat.le_of_ble_eq_true rfl) 4 rfl ?_
  refine Vifne (fun v => v) dX5_put_4 10 7 (by decide) rfl (fun h1 => ?_) (fun h1 => ?_)
  · refine Vaload_n dX5_put_10 0 rfl 11 rfl ?_
    refine Vget (0) 0 dX5_put_11 14 rfl (hF.1 0 (by decide)) wk0 rfl inX5 (by decide) wd_fl_RX5_10 (v := .ref (ad G 1)) rfl ?_
    refine Vload_n dX5_put_14 1 rfl 15 rfl ?_
    refine VcVp dX5_put_15 [.int x1] (c_X1_shown l hF σ x1) mw_X1_shown wd_im_yX1_shown wd_se_yX1_shown wd_ml_RX5_98 (hF.1 1 (by decide)) wk1 rfl rfl (by decide) rfl rfl (Nat.le_of_ble_eq_true rfl) 18 rfl ?_
    refine Vstore_n dX5_put_18 [(3, .int (f_X1_shown σ x1)), (0, .ref (ad G 0)), (1, .int x1), (2, .int x2)] 19 rfl (by decide) rfl ?_
    refine Vaload_n dX5_put_19 1 rfl 20 rfl ?_
    refine Vget (0) 0 dX5_put_20 23 rfl (hF.1 0 (by decide)) wk0 rfl inX5 (by decide) wd_fl_RX5_10 (v := .ref (ad G 1)) rfl ?_
    refine Vload_n dX5_put_23 2 rfl 24 rfl ?_
    refine Vload_n dX5_put_24 3 rfl 25 rfl ?_
    refine Vgen ?_
    intro u2 eu2
    refine VcVv (u := u2) dX5_put_25 [.int x1, .int x2] (by rw [eu2]; exact c_X1_hold l hF σ x1 x2) mw_X1_hold wd_im_yX1_hold wd_se_yX1_hold wd_ml_RX5_117 (hF.1 1 (by decide)) wk1 rfl rfl (by decide) rfl rfl (Nat.le_of_ble_eq_true rfl) 28 rfl ?_
    refine Vload_n dX5_put_28 0 rfl 29 rfl ?_
    exact Viret dX5_put_29
  · refine Vbipush dX5_put_7 (-2 : Int32) (by decide) 9 rfl ?_
    exact Viret dX5_put_9
def f_X5_writes (σ : mS)  : Int32 := (σ 5 4)
theorem mw_X5_writes : mW yX5_writes cX5_writes 1 (some .int) 0 := ⟨wd_co_yX5_writes, wd_ini_RX5, ⟨by decide, by decide⟩, by decide +kernel, by decide⟩
set_option maxRecDepth 100000 in
set_option maxHeartbeats 4000000 in
theorem c_X5_writes (l : Launch) {G : gT} (hF : Full G) (σ : mS)   : Ct l G yX5_writes cX5_writes 1 (some .int) 0 [.ref (ad G 0)] κI σ (f_X5_writes σ, σ) := by
  refine Ct.ofV [(0, .ref (ad G 0))] rfl (by decide) (Nat.le_of_ble_eq_true rfl) rfl (fun X => ?_)
  unfold f_X5_writes
  refine Vaload_n dX5_writes_0 0 rfl 1 rfl ?_
  refine Vget (0) 0 dX5_writes_1 4 rfl (hF.1 0 (by decide)) wk0 rfl inX5 (by decide) wd_fl_RX5_10 (v := .ref (ad G 1)) rfl ?_
  refine VgetN (1) 3 dX5_writes_4 7 rfl (hF.1 1 (by decide)) wk1 rfl inX1 (by decide) wd_nfl_RX5_121 (v := .ref (ad G 5)) rfl ?_
  refine VgetN (5) 4 dX5_writes_7 10 rfl (hF.1 5 (by decide)) wk5 rfl inX2 (by decide) wd_nfl_RX5_125 (v := .int (σ 5 4)) rfl ?_
  exact Viret dX5_writes_10
def f_X5_write (σ : mS) (x1 : Int32) (x2 : Int32) : Int32 := (if x2 < 0 then (-2 : Int32) else (if x2 ≤ (2 : Int32) then (f_X2_tell σ x1 x2) else (-2 : Int32)))
theorem mw_X5_write : mW yX5_write cX5_write 3 (some .int) 2 := ⟨wd_co_yX5_write, wd_ini_RX5, ⟨by decide, by decide⟩, by decide +kernel, by decide⟩
set_option maxRecDepth 100000 in
set_option maxHeartbeats 4000000 in
theorem c_X5_write (l : Launch) {G : gT} (hF : Full G) (σ : mS) (x1 : Int32) (x2 : Int32)  : Ct l G yX5_write cX5_write 3 (some .int) 1 [.ref (ad G 0), .int x1, .int x2] κI σ (f_X5_write σ x1 x2, σ) := by
  refine Ct.ofV [(0, .ref (ad G 0)), (1, .int x1), (2, .int x2)] rfl (by decide) (Nat.le_of_ble_eq_true rfl) rfl (fun X => ?_)
  unfold f_X5_write
  refine Vload_n dX5_write_0 2 rfl 1 rfl ?_
  refine Viflt (fun v => (v, σ)) dX5_write_1 9 4 (by decide) rfl (fun h1 => ?_) (fun h1 => ?_)
  · refine Vbipush dX5_write_9 (-2 : Int32) (by decide) 11 rfl ?_
    refine Vgoto dX5_write_11 26 (by decide) ?_
    exact Viret dX5_write_26
  · refine Vload_n dX5_write_4 2 rfl 5 rfl ?_
    refine Viconst dX5_write_5 (2 : Int32) (by decide) 6 rfl ?_
    refine Vicle (fun v => (v, σ)) dX5_write_6 14 9 (by decide) rfl (fun h2 => ?_) (fun h2 => ?_)
    · refine Vaload_n dX5_write_14 0 rfl 15 rfl ?_
      refine Vget (0) 0 dX5_write_15 18 rfl (hF.1 0 (by decide)) wk0 rfl inX5 (by decide) wd_fl_RX5_10 (v := .ref (ad G 1)) rfl ?_
      refine VgetN (1) 3 dX5_write_18 21 rfl (hF.1 1 (by decide)) wk1 rfl inX1 (by decide) wd_nfl_RX5_121 (v := .ref (ad G 5)) rfl ?_
      refine Vload_n dX5_write_21 1 rfl 22 rfl ?_
      refine Vload_n dX5_write_22 2 rfl 23 rfl ?_
      refine VcVp dX5_write_23 [.int x1, .int x2] (c_X2_tell l hF σ x1 x2) mw_X2_tell wd_im_yX2_tell wd_se_yX2_tell wd_ml_RX5_130 (hF.1 5 (by decide)) wk5 rfl rfl (by decide) rfl rfl (Nat.le_of_ble_eq_true rfl) 26 rfl ?_
      exact Viret dX5_write_26
    · refine Vbipush dX5_write_9 (-2 : Int32) (by decide) 11 rfl ?_
      refine Vgoto dX5_write_11 26 (by decide) ?_
      exact Viret dX5_write_26
def l_X5_restart_26 : Nat → Int32 → mS → Int32 → Int32 → Int32 × mS
  | 0, y3, σ, _, _ => (0, σ)
  | n + 1, y3, σ, x1, p2 => (if (3 : Int32) ≤ y3 then (p2, σ) else (if (f_X5_strandOf y3) = -1 then (l_X5_restart_26 n (y3 + 1) σ x1 p2) else (ap (fun u6 => (l_X5_restart_26 n (y3 + 1) u6.2 x1 p2)) (f_X4_reset σ (sI (f_X5_strandOf y3)) x1))))
set_option maxRecDepth 100000 in
set_option maxHeartbeats 4000000 in
theorem vl_X5_restart_26 (l : Launch) {G : gT} (X : xT) (hF : Full G) (x1 : Int32) (p2 : Int32)  : ∀ (n : Nat) (y3 : Int32) (σ : mS) (i : Nat) (hc : y3 = nI i) (hi : i ≤ 3) (hn : n + i = 4), V l G X RX5 cX5_restart 5 2 (some .int) κI ((fun v => v) (l_X5_restart_26 n y3 σ x1 p2)) σ 26 [(0, .ref (ad G 0)), (1, .int x1), (2, .int p2), (3, .int y3)] [] := by
  intro n
  induction n with
  | zero => intro y3 σ i hc hi hn; exact absurd hn (by omega)
  | succ n ih =>
    intro y3 σ i hc hi hn
    rw [l_X5_restart_26.eq_2]
    refine Vload_n dX5_restart_26 3 rfl 27 rfl ?_
    refine Vaload_n dX5_restart_27 0 rfl 28 rfl ?_
    refine Vget (0) 2 dX5_restart_28 31 rfl (hF.1 0 (by decide)) wk0 rfl inX5 (by decide) wd_fl_RX5_25 (v := .ref (ad G 13)) rfl ?_
    refine Vlens dX5_restart_31 32 rfl (hF.1 13 (by decide)) hF.2.2.2 ?_
    refine Vicge (fun v => v) dX5_restart_32 59 35 (by decide) rfl (fun h3 => ?_) (fun h3 => ?_)
    · refine Vload_n dX5_restart_59 2 rfl 60 rfl ?_
      exact Viret dX5_restart_60
    · refine Vaload_n dX5_restart_35 0 rfl 36 rfl ?_
      refine Vload_n dX5_restart_36 3 rfl 37 rfl ?_
      refine VcVr (fun v => v) dX5_restart_37 [.int y3] (c_X5_strandOf l hF σ y3) mw_X5_strandOf wd_im_yX5_strandOf wd_se_yX5_strandOf wd_ml_RX5_32 (hF.1 0 (by decide)) wk0 rfl rfl (by decide) rfl rfl (Nat.le_of_ble_eq_true rfl) 40 rfl (fun h4 => ?_) (fun h4 => ?_)
      · refine VastoreN dX5_restart_40 [(4, .null), (0, .ref (ad G 0)), (1, .int x1), (2, .int p2), (3, .int y3)] 42 rfl (by decide) rfl ?_
        refine ValoadN dX5_restart_42 0 rfl 44 rfl ?_
        refine VifnullN dX5_restart_44 53 (by decide) ?_
        refine Viinc dX5_restart_53 (y3 + 1) 4 [(3, .int (y3 + 1)), (4, .null), (0, .ref (ad G 0)), (1, .int x1), (2, .int p2)] 56 rfl rfl rfl (by decide) rfl ?_
        refine Vgoto dX5_restart_56 26 (by decide) ?_
        refine Vlv [2, 3, 4, 0] rfl ?_
        exact ih (y3 + 1) σ (i + 1) (cnt_s hc) (cnt_lt hc (by assumption) (K := 3) (by decide) (by decide) hi) (by omega)
      · have s5 : sQ (sI (f_X5_strandOf y3)) := sq_strandOf h4
        refine Vastore dX5_restart_40 [(4, .ref (ad G ((sI (f_X5_strandOf y3))))), (0, .ref (ad G 0)), (1, .int x1), (2, .int p2), (3, .int y3)] 42 rfl (by decide) rfl ?_
        refine Vaload dX5_restart_42 0 rfl 44 rfl ?_
        refine Vifnull dX5_restart_44 47 rfl ?_
        refine Vaload dX5_restart_47 0 rfl 49 rfl ?_
        refine Vload_n dX5_restart_49 2 rfl 50 rfl ?_
        refine Vgen ?_
        intro u6 eu6
        refine VcVv (u := u6) dX5_restart_50 [.int x1] (by rw [eu6]; exact c_X4_reset l hF σ (sI (f_X5_strandOf y3)) x1 s5) mw_X4_reset wd_im_yX4_reset wd_se_yX4_reset wd_ml_RX5_144 (sI_ hF s5 0 (by decide)) (sk0 s5) rfl rfl (by decide) rfl rfl (Nat.le_of_ble_eq_true rfl) 53 rfl ?_
        refine Viinc dX5_restart_53 (y3 + 1) 4 [(3, .int (y3 + 1)), (4, .ref (ad G ((sI (f_X5_strandOf y3))))), (0, .ref (ad G 0)), (1, .int x1), (2, .int p2)] 56 rfl rfl rfl (by decide) rfl ?_
        refine Vgoto dX5_restart_56 26 (by decide) ?_
        refine Vlv [2, 3, 4, 0] rfl ?_
        exact ih (y3 + 1) u6.2 (i + 1) (cnt_s hc) (cnt_lt hc (by assumption) (K := 3) (by decide) (by decide) hi) (by omega)
def f_X5_restart (σ : mS) (x1 : Int32) : Int32 × mS := (ap (fun u1 => (ap (fun u2 => (l_X5_restart_26 4 (0 : Int32) u2.2 x1 (σ 0 3))) (f_X3_reset u1.2))) (f_X1_reset (st2 σ 0 3 (0 : Int32))))
theorem mw_X5_restart : mW yX5_restart cX5_restart 5 (some .int) 1 := ⟨wd_co_yX5_restart, wd_ini_RX5, ⟨by decide, by decide⟩, by decide +kernel, by decide⟩
set_option maxRecDepth 100000 in
set_option maxHeartbeats 4000000 in
theorem c_X5_restart (l : Launch) {G : gT} (hF : Full G) (σ : mS) (x1 : Int32)  : Ct l G yX5_restart cX5_restart 5 (some .int) 2 [.ref (ad G 0), .int x1] κI σ (f_X5_restart σ x1) := by
  refine Ct.ofV [(0, .ref (ad G 0)), (1, .int x1)] rfl (by decide) (Nat.le_of_ble_eq_true rfl) rfl (fun X => ?_)
  unfold f_X5_restart
  refine Vaload_n dX5_restart_0 0 rfl 1 rfl ?_
  refine Vget (0) 3 dX5_restart_1 4 rfl (hF.1 0 (by decide)) wk0 rfl inX5 (by decide) wd_fl_RX5_137 (v := .int (σ 0 3)) rfl ?_
  refine Vstore_n dX5_restart_4 [(2, .int (σ 0 3)), (0, .ref (ad G 0)), (1, .int x1)] 5 rfl (by decide) rfl ?_
  refine Vaload_n dX5_restart_5 1 rfl 6 rfl ?_
  refine Viconst dX5_restart_6 (0 : Int32) (by decide) 7 rfl ?_
  refine Vput (0) 3 tyX5 dX5_restart_7 10 rfl (hF.1 0 (by decide)) wk0 rfl inX5 tyX5_ok nmX5 (by decide) wd_fl_RX5_137 rfl (ty := .int) (by decide +kernel) rfl rfl (fun f => rfl) (fun f => Nat.le_of_ble_eq_true rfl) ?_
  refine Vaload_n dX5_restart_10 1 rfl 11 rfl ?_
  refine Vget (0) 0 dX5_restart_11 14 rfl (hF.1 0 (by decide)) wk0 rfl inX5 (by decide) wd_fl_RX5_10 (v := .ref (ad G 1)) rfl ?_
  refine Vgen ?_
  intro u1 eu1
  refine VcVv (u := u1) dX5_restart_14 [] (by rw [eu1]; exact c_X1_reset l (hF.sub (by decide)) hF.2.1 (st2 σ 0 3 (0 : Int32))) mw_X1_reset wd_im_yX1_reset wd_se_yX1_reset wd_ml_RX5_140 (hF.1 1 (by decide)) wk1 rfl rfl (by decide) rfl rfl (Nat.le_of_ble_eq_true rfl) 17 rfl ?_
  refine Vaload_n dX5_restart_17 1 rfl 18 rfl ?_
  refine Vget (0) 1 dX5_restart_18 21 rfl (hF.1 0 (by decide)) wk0 rfl inX5 (by decide) wd_fl_RX5_19 (v := .ref (ad G 9)) rfl ?_
  refine Vgen ?_
  intro u2 eu2
  refine VcVv (u := u2) dX5_restart_21 [] (by rw [eu2]; exact c_X3_reset l (hF.sub (by decide)) hF.2.1 hF.2.2.1 u1.2) mw_X3_reset wd_im_yX3_reset wd_se_yX3_reset wd_ml_RX5_143 (hF.1 9 (by decide)) wk9 rfl rfl (by decide) rfl rfl (Nat.le_of_ble_eq_true rfl) 24 rfl ?_
  refine Viconst dX5_restart_24 (0 : Int32) (by decide) 25 rfl ?_
  refine Vstore_n dX5_restart_25 [(3, .int (0 : Int32)), (2, .int (σ 0 3)), (0, .ref (ad G 0)), (1, .int x1)] 26 rfl (by decide) rfl ?_
  refine Vlv [2, 3, 1, 0] rfl ?_
  exact vl_X5_restart_26 l X hF x1 (σ 0 3)  4 (0 : Int32) u2.2 0 nI_0.symm (Nat.zero_le _) rfl
def f_X5_again (σ : mS)  : Int32 × mS := (ap (fun u1 => (u1.1, u1.2)) (f_X5_restart σ (1 : Int32)))
theorem mw_X5_again : mW yX5_again cX5_again 1 (some .int) 0 := ⟨wd_co_yX5_again, wd_ini_RX5, ⟨by decide, by decide⟩, by decide +kernel, by decide⟩
set_option maxRecDepth 100000 in
set_option maxHeartbeats 4000000 in
theorem c_X5_again (l : Launch) {G : gT} (hF : Full G) (σ : mS)   : Ct l G yX5_again cX5_again 1 (some .int) 3 [.ref (ad G 0)] κI σ (f_X5_again σ) := by
  refine Ct.ofV [(0, .ref (ad G 0))] rfl (by decide) (Nat.le_of_ble_eq_true rfl) rfl (fun X => ?_)
  unfold f_X5_again
  refine Vaload_n dX5_again_0 0 rfl 1 rfl ?_
  refine Viconst dX5_again_1 (1 : Int32) (by decide) 2 rfl ?_
  refine Vgen ?_
  intro u1 eu1
  refine VcVi (u := u1) dX5_again_2 [.int (1 : Int32)] (by rw [eu1]; exact c_X5_restart l hF σ (1 : Int32)) mw_X5_restart wd_im_yX5_restart wd_se_yX5_restart wd_ml_RX5_133 (hF.1 0 (by decide)) wk0 rfl rfl (by decide) rfl rfl (Nat.le_of_ble_eq_true rfl) 5 rfl ?_
  exact Viret dX5_again_5
def f_X5_clear (σ : mS)  : Int32 × mS := (ap (fun u1 => (u1.1, u1.2)) (f_X5_restart σ (0 : Int32)))
theorem mw_X5_clear : mW yX5_clear cX5_clear 1 (some .int) 0 := ⟨wd_co_yX5_clear, wd_ini_RX5, ⟨by decide, by decide⟩, by decide +kernel, by decide⟩
set_option maxRecDepth 100000 in
set_option maxHeartbeats 4000000 in
theorem c_X5_clear (l : Launch) {G : gT} (hF : Full G) (σ : mS)   : Ct l G yX5_clear cX5_clear 1 (some .int) 3 [.ref (ad G 0)] κI σ (f_X5_clear σ) := by
  refine Ct.ofV [(0, .ref (ad G 0))] rfl (by decide) (Nat.le_of_ble_eq_true rfl) rfl (fun X => ?_)
  unfold f_X5_clear
  refine Vaload_n dX5_clear_0 0 rfl 1 rfl ?_
  refine Viconst dX5_clear_1 (0 : Int32) (by decide) 2 rfl ?_
  refine Vgen ?_
  intro u1 eu1
  refine VcVi (u := u1) dX5_clear_2 [.int (0 : Int32)] (by rw [eu1]; exact c_X5_restart l hF σ (0 : Int32)) mw_X5_restart wd_im_yX5_restart wd_se_yX5_restart wd_ml_RX5_133 (hF.1 0 (by decide)) wk0 rfl rfl (by decide) rfl rfl (Nat.le_of_ble_eq_true rfl) 5 rfl ?_
  exact Viret dX5_clear_5
end
