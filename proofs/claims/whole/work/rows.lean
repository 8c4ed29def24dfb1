section
-- ===== PART A: goes FIRST, ahead of the names: the tables' words, and 'selects' of the private methods out of them =====
/-- a private method of a class that the tables say can be made, by its rows of tables_1 -/
def lw_okq (q : MethodName × Nat) : Prop := (q.1.cls ≠ "java/lang/invoke/MethodHandle" ∧ q.1.cls ≠ "java/lang/invoke/VarHandle") ∧ Cond.instantiable q.1.cls q.2 ∈ tables_1 ∧ Cond.privateMethod q.1 ∈ tables_1 ∧ Cond.instanceMethod q.1 ∈ tables_1
theorem lw_p0 : lw_okq (⟨"MutableCells", "strandOf", "(I)LMutableCells$Strand;"⟩, 5) := ⟨⟨by decide +kernel, by decide +kernel⟩, List.mem_of_getElem? (i := 11) (by decide +kernel), List.mem_of_getElem? (i := 212) (by decide +kernel), List.mem_of_getElem? (i := 213) (by decide +kernel)⟩
theorem lw_p1 : lw_okq (⟨"MutableCells", "takeTurn", "(LMutableCells$Strand;)V"⟩, 5) := ⟨⟨by decide +kernel, by decide +kernel⟩, List.mem_of_getElem? (i := 11) (by decide +kernel), List.mem_of_getElem? (i := 243) (by decide +kernel), List.mem_of_getElem? (i := 244) (by decide +kernel)⟩
theorem lw_p2 : lw_okq (⟨"MutableCells", "perform", "(LMutableCells$Strand;)I"⟩, 5) := ⟨⟨by decide +kernel, by decide +kernel⟩, List.mem_of_getElem? (i := 11) (by decide +kernel), List.mem_of_getElem? (i := 247) (by decide +kernel), List.mem_of_getElem? (i := 248) (by decide +kernel)⟩
theorem lw_p3 : lw_okq (⟨"MutableCells", "getCell", "(LMutableCells$Strand;II)I"⟩, 5) := ⟨⟨by decide +kernel, by decide +kernel⟩, List.mem_of_getElem? (i := 11) (by decide +kernel), List.mem_of_getElem? (i := 254) (by decide +kernel), List.mem_of_getElem? (i := 255) (by decide +kernel)⟩
theorem lw_p4 : lw_okq (⟨"MutableCells", "failureOfReading", "(LMutableCells$Strand;I)I"⟩, 5) := ⟨⟨by decide +kernel, by decide +kernel⟩, List.mem_of_getElem? (i := 11) (by decide +kernel), List.mem_of_getElem? (i := 258) (by decide +kernel), List.mem_of_getElem? (i := 259) (by decide +kernel)⟩
theorem lw_p5 : lw_okq (⟨"MutableCells", "readCell", "(LMutableCells$Strand;I)I"⟩, 5) := ⟨⟨by decide +kernel, by decide +kernel⟩, List.mem_of_getElem? (i := 11) (by decide +kernel), List.mem_of_getElem? (i := 281) (by decide +kernel), List.mem_of_getElem? (i := 282) (by decide +kernel)⟩
theorem lw_p6 : lw_okq (⟨"MutableCells", "putCell", "(LMutableCells$Strand;II)V"⟩, 5) := ⟨⟨by decide +kernel, by decide +kernel⟩, List.mem_of_getElem? (i := 11) (by decide +kernel), List.mem_of_getElem? (i := 319) (by decide +kernel), List.mem_of_getElem? (i := 320) (by decide +kernel)⟩
theorem lw_p7 : lw_okq (⟨"MutableCells", "loadItem", "(LMutableCells$Strand;III)I"⟩, 5) := ⟨⟨by decide +kernel, by decide +kernel⟩, List.mem_of_getElem? (i := 11) (by decide +kernel), List.mem_of_getElem? (i := 328) (by decide +kernel), List.mem_of_getElem? (i := 329) (by decide +kernel)⟩
theorem lw_p8 : lw_okq (⟨"MutableCells", "swapCell", "(LMutableCells$Strand;III)I"⟩, 5) := ⟨⟨by decide +kernel, by decide +kernel⟩, List.mem_of_getElem? (i := 11) (by decide +kernel), List.mem_of_getElem? (i := 358) (by decide +kernel), List.mem_of_getElem? (i := 359) (by decide +kernel)⟩
theorem lw_p9 : lw_okq (⟨"MutableCells", "endAtom", "(LMutableCells$Strand;)I"⟩, 5) := ⟨⟨by decide +kernel, by decide +kernel⟩, List.mem_of_getElem? (i := 11) (by decide +kernel), List.mem_of_getElem? (i := 362) (by decide +kernel), List.mem_of_getElem? (i := 363) (by decide +kernel)⟩
theorem lw_p10 : lw_okq (⟨"MutableCells", "isOvertaken", "(LMutableCells$Atom;)Z"⟩, 5) := ⟨⟨by decide +kernel, by decide +kernel⟩, List.mem_of_getElem? (i := 11) (by decide +kernel), List.mem_of_getElem? (i := 366) (by decide +kernel), List.mem_of_getElem? (i := 367) (by decide +kernel)⟩
theorem lw_p11 : lw_okq (⟨"MutableCells$Strand", "divide", "(III)I"⟩, 15) := ⟨⟨by decide +kernel, by decide +kernel⟩, List.mem_of_getElem? (i := 93) (by decide +kernel), List.mem_of_getElem? (i := 413) (by decide +kernel), List.mem_of_getElem? (i := 414) (by decide +kernel)⟩
theorem lw_p12 : lw_okq (⟨"MutableCells$Strand", "beginAtom", "()I"⟩, 15) := ⟨⟨by decide +kernel, by decide +kernel⟩, List.mem_of_getElem? (i := 93) (by decide +kernel), List.mem_of_getElem? (i := 417) (by decide +kernel), List.mem_of_getElem? (i := 418) (by decide +kernel)⟩
theorem lw_p13 : lw_okq (⟨"MutableCells$Strand", "openTry", "(I)I"⟩, 15) := ⟨⟨by decide +kernel, by decide +kernel⟩, List.mem_of_getElem? (i := 93) (by decide +kernel), List.mem_of_getElem? (i := 421) (by decide +kernel), List.mem_of_getElem? (i := 422) (by decide +kernel)⟩
theorem lw_p14 : lw_okq (⟨"MutableCells$Strand", "closeTry", "()I"⟩, 15) := ⟨⟨by decide +kernel, by decide +kernel⟩, List.mem_of_getElem? (i := 93) (by decide +kernel), List.mem_of_getElem? (i := 425) (by decide +kernel), List.mem_of_getElem? (i := 426) (by decide +kernel)⟩
theorem lw_p15 : lw_okq (⟨"MutableCells", "drawn", "(I)LMutableCells$Strand;"⟩, 5) := ⟨⟨by decide +kernel, by decide +kernel⟩, List.mem_of_getElem? (i := 11) (by decide +kernel), List.mem_of_getElem? (i := 438) (by decide +kernel), List.mem_of_getElem? (i := 439) (by decide +kernel)⟩
def lw_privs_1 : List (MethodName × Nat) := [(⟨"MutableCells", "strandOf", "(I)LMutableCells$Strand;"⟩, 5), (⟨"MutableCells", "takeTurn", "(LMutableCells$Strand;)V"⟩, 5), (⟨"MutableCells", "perform", "(LMutableCells$Strand;)I"⟩, 5), (⟨"MutableCells", "getCell", "(LMutableCells$Strand;II)I"⟩, 5), (⟨"MutableCells", "failureOfReading", "(LMutableCells$Strand;I)I"⟩, 5), (⟨"MutableCells", "readCell", "(LMutableCells$Strand;I)I"⟩, 5), (⟨"MutableCells", "putCell", "(LMutableCells$Strand;II)V"⟩, 5), (⟨"MutableCells", "loadItem", "(LMutableCells$Strand;III)I"⟩, 5), (⟨"MutableCells", "swapCell", "(LMutableCells$Strand;III)I"⟩, 5), (⟨"MutableCells", "endAtom", "(LMutableCells$Strand;)I"⟩, 5), (⟨"MutableCells", "isOvertaken", "(LMutableCells$Atom;)Z"⟩, 5), (⟨"MutableCells$Strand", "divide", "(III)I"⟩, 15), (⟨"MutableCells$Strand", "beginAtom", "()I"⟩, 15), (⟨"MutableCells$Strand", "openTry", "(I)I"⟩, 15), (⟨"MutableCells$Strand", "closeTry", "()I"⟩, 15), (⟨"MutableCells", "drawn", "(I)LMutableCells$Strand;"⟩, 5)]
theorem lw_r1 : ∀ q ∈ lw_privs_1, lw_okq q := List.forall_mem_cons.mpr ⟨lw_p0, List.forall_mem_cons.mpr ⟨lw_p1, List.forall_mem_cons.mpr ⟨lw_p2, List.forall_mem_cons.mpr ⟨lw_p3, List.forall_mem_cons.mpr ⟨lw_p4, List.forall_mem_cons.mpr ⟨lw_p5, List.forall_mem_cons.mpr ⟨lw_p6, List.forall_mem_cons.mpr ⟨lw_p7, List.forall_mem_cons.mpr ⟨lw_p8, List.forall_mem_cons.mpr ⟨lw_p9, List.forall_mem_cons.mpr ⟨lw_p10, List.forall_mem_cons.mpr ⟨lw_p11, List.forall_mem_cons.mpr ⟨lw_p12, List.forall_mem_cons.mpr ⟨lw_p13, List.forall_mem_cons.mpr ⟨lw_p14, List.forall_mem_cons.mpr ⟨lw_p15, fun _ h => absurd h List.not_mem_nil⟩⟩⟩⟩⟩⟩⟩⟩⟩⟩⟩⟩⟩⟩⟩⟩
theorem lw_p16 : lw_okq (⟨"MutableCells", "goes", "(I)Z"⟩, 5) := ⟨⟨by decide +kernel, by decide +kernel⟩, List.mem_of_getElem? (i := 11) (by decide +kernel), List.mem_of_getElem? (i := 442) (by decide +kernel), List.mem_of_getElem? (i := 443) (by decide +kernel)⟩
theorem lw_p17 : lw_okq (⟨"MutableCells", "restart", "(Z)I"⟩, 5) := ⟨⟨by decide +kernel, by decide +kernel⟩, List.mem_of_getElem? (i := 11) (by decide +kernel), List.mem_of_getElem? (i := 497) (by decide +kernel), List.mem_of_getElem? (i := 498) (by decide +kernel)⟩
theorem lw_p18 : lw_okq (⟨"MutableCellsModel", "begin", "()V"⟩, 34) := ⟨⟨by decide +kernel, by decide +kernel⟩, List.mem_of_getElem? (i := 512) (by decide +kernel), List.mem_of_getElem? (i := 518) (by decide +kernel), List.mem_of_getElem? (i := 519) (by decide +kernel)⟩
theorem lw_p19 : lw_okq (⟨"MutableCellsModel", "stateOf", "(I)I"⟩, 34) := ⟨⟨by decide +kernel, by decide +kernel⟩, List.mem_of_getElem? (i := 512) (by decide +kernel), List.mem_of_getElem? (i := 648) (by decide +kernel), List.mem_of_getElem? (i := 649) (by decide +kernel)⟩
theorem lw_p20 : lw_okq (⟨"MutableCellsModel", "doTurn", "(I)V"⟩, 34) := ⟨⟨by decide +kernel, by decide +kernel⟩, List.mem_of_getElem? (i := 512) (by decide +kernel), List.mem_of_getElem? (i := 652) (by decide +kernel), List.mem_of_getElem? (i := 653) (by decide +kernel)⟩
theorem lw_p21 : lw_okq (⟨"MutableCellsModel", "doAct", "(I)I"⟩, 34) := ⟨⟨by decide +kernel, by decide +kernel⟩, List.mem_of_getElem? (i := 512) (by decide +kernel), List.mem_of_getElem? (i := 656) (by decide +kernel), List.mem_of_getElem? (i := 657) (by decide +kernel)⟩
theorem lw_p22 : lw_okq (⟨"MutableCellsModel", "give", "(III)V"⟩, 34) := ⟨⟨by decide +kernel, by decide +kernel⟩, List.mem_of_getElem? (i := 512) (by decide +kernel), List.mem_of_getElem? (i := 660) (by decide +kernel), List.mem_of_getElem? (i := 661) (by decide +kernel)⟩
theorem lw_p23 : lw_okq (⟨"MutableCellsModel", "read", "(II)I"⟩, 34) := ⟨⟨by decide +kernel, by decide +kernel⟩, List.mem_of_getElem? (i := 512) (by decide +kernel), List.mem_of_getElem? (i := 664) (by decide +kernel), List.mem_of_getElem? (i := 665) (by decide +kernel)⟩
theorem lw_p24 : lw_okq (⟨"MutableCellsModel", "readPlain", "(II)I"⟩, 34) := ⟨⟨by decide +kernel, by decide +kernel⟩, List.mem_of_getElem? (i := 512) (by decide +kernel), List.mem_of_getElem? (i := 668) (by decide +kernel), List.mem_of_getElem? (i := 669) (by decide +kernel)⟩
theorem lw_p25 : lw_okq (⟨"MutableCellsModel", "write", "(III)V"⟩, 34) := ⟨⟨by decide +kernel, by decide +kernel⟩, List.mem_of_getElem? (i := 512) (by decide +kernel), List.mem_of_getElem? (i := 672) (by decide +kernel), List.mem_of_getElem? (i := 673) (by decide +kernel)⟩
theorem lw_p26 : lw_okq (⟨"MutableCellsModel", "note", "(III)V"⟩, 34) := ⟨⟨by decide +kernel, by decide +kernel⟩, List.mem_of_getElem? (i := 512) (by decide +kernel), List.mem_of_getElem? (i := 676) (by decide +kernel), List.mem_of_getElem? (i := 677) (by decide +kernel)⟩
theorem lw_p27 : lw_okq (⟨"MutableCellsModel", "\x72", "(II)I"⟩, 34) := ⟨⟨by decide +kernel, by decide +kernel⟩, List.mem_of_getElem? (i := 512) (by decide +kernel), List.mem_of_getElem? (i := 680) (by decide +kernel), List.mem_of_getElem? (i := 681) (by decide +kernel)⟩
theorem lw_p28 : lw_okq (⟨"MutableCellsModel", "lay", "(III)V"⟩, 34) := ⟨⟨by decide +kernel, by decide +kernel⟩, List.mem_of_getElem? (i := 512) (by decide +kernel), List.mem_of_getElem? (i := 684) (by decide +kernel), List.mem_of_getElem? (i := 685) (by decide +kernel)⟩
theorem lw_p29 : lw_okq (⟨"MutableCellsModel", "compute", "(IIIII)V"⟩, 34) := ⟨⟨by decide +kernel, by decide +kernel⟩, List.mem_of_getElem? (i := 512) (by decide +kernel), List.mem_of_getElem? (i := 688) (by decide +kernel), List.mem_of_getElem? (i := 689) (by decide +kernel)⟩
theorem lw_p30 : lw_okq (⟨"MutableCellsModel", "swap", "(IIII)V"⟩, 34) := ⟨⟨by decide +kernel, by decide +kernel⟩, List.mem_of_getElem? (i := 512) (by decide +kernel), List.mem_of_getElem? (i := 692) (by decide +kernel), List.mem_of_getElem? (i := 693) (by decide +kernel)⟩
theorem lw_p31 : lw_okq (⟨"MutableCellsModel", "beginAtom", "(I)V"⟩, 34) := ⟨⟨by decide +kernel, by decide +kernel⟩, List.mem_of_getElem? (i := 512) (by decide +kernel), List.mem_of_getElem? (i := 696) (by decide +kernel), List.mem_of_getElem? (i := 697) (by decide +kernel)⟩
def lw_privs_2 : List (MethodName × Nat) := [(⟨"MutableCells", "goes", "(I)Z"⟩, 5), (⟨"MutableCells", "restart", "(Z)I"⟩, 5), (⟨"MutableCellsModel", "begin", "()V"⟩, 34), (⟨"MutableCellsModel", "stateOf", "(I)I"⟩, 34), (⟨"MutableCellsModel", "doTurn", "(I)V"⟩, 34), (⟨"MutableCellsModel", "doAct", "(I)I"⟩, 34), (⟨"MutableCellsModel", "give", "(III)V"⟩, 34), (⟨"MutableCellsModel", "read", "(II)I"⟩, 34), (⟨"MutableCellsModel", "readPlain", "(II)I"⟩, 34), (⟨"MutableCellsModel", "write", "(III)V"⟩, 34), (⟨"MutableCellsModel", "note", "(III)V"⟩, 34), (⟨"MutableCellsModel", "\x72", "(II)I"⟩, 34), (⟨"MutableCellsModel", "lay", "(III)V"⟩, 34), (⟨"MutableCellsModel", "compute", "(IIIII)V"⟩, 34), (⟨"MutableCellsModel", "swap", "(IIII)V"⟩, 34), (⟨"MutableCellsModel", "beginAtom", "(I)V"⟩, 34)]
theorem lw_r2 : ∀ q ∈ lw_privs_2, lw_okq q := List.forall_mem_cons.mpr ⟨lw_p16, List.forall_mem_cons.mpr ⟨lw_p17, List.forall_mem_cons.mpr ⟨lw_p18, List.forall_mem_cons.mpr ⟨lw_p19, List.forall_mem_cons.mpr ⟨lw_p20, List.forall_mem_cons.mpr ⟨lw_p21, List.forall_mem_cons.mpr ⟨lw_p22, List.forall_mem_cons.mpr ⟨lw_p23, List.forall_mem_cons.mpr ⟨lw_p24, List.forall_mem_cons.mpr ⟨lw_p25, List.forall_mem_cons.mpr ⟨lw_p26, List.forall_mem_cons.mpr ⟨lw_p27, List.forall_mem_cons.mpr ⟨lw_p28, List.forall_mem_cons.mpr ⟨lw_p29, List.forall_mem_cons.mpr ⟨lw_p30, List.forall_mem_cons.mpr ⟨lw_p31, fun _ h => absurd h List.not_mem_nil⟩⟩⟩⟩⟩⟩⟩⟩⟩⟩⟩⟩⟩⟩⟩⟩
theorem lw_p32 : lw_okq (⟨"MutableCellsModel", "clearAtom", "(I)V"⟩, 34) := ⟨⟨by decide +kernel, by decide +kernel⟩, List.mem_of_getElem? (i := 512) (by decide +kernel), List.mem_of_getElem? (i := 700) (by decide +kernel), List.mem_of_getElem? (i := 701) (by decide +kernel)⟩
theorem lw_p33 : lw_okq (⟨"MutableCellsModel", "endAtom", "(I)I"⟩, 34) := ⟨⟨by decide +kernel, by decide +kernel⟩, List.mem_of_getElem? (i := 512) (by decide +kernel), List.mem_of_getElem? (i := 704) (by decide +kernel), List.mem_of_getElem? (i := 705) (by decide +kernel)⟩
theorem lw_p34 : lw_okq (⟨"MutableCellsModel", "rows", "(IIIII)V"⟩, 34) := ⟨⟨by decide +kernel, by decide +kernel⟩, List.mem_of_getElem? (i := 512) (by decide +kernel), List.mem_of_getElem? (i := 708) (by decide +kernel), List.mem_of_getElem? (i := 709) (by decide +kernel)⟩
theorem lw_p35 : lw_okq (⟨"MutableCellsModel", "checkItem", "(II)V"⟩, 34) := ⟨⟨by decide +kernel, by decide +kernel⟩, List.mem_of_getElem? (i := 512) (by decide +kernel), List.mem_of_getElem? (i := 712) (by decide +kernel), List.mem_of_getElem? (i := 713) (by decide +kernel)⟩
theorem lw_p36 : lw_okq (⟨"MutableCellsModel", "fail", "(I)V"⟩, 34) := ⟨⟨by decide +kernel, by decide +kernel⟩, List.mem_of_getElem? (i := 512) (by decide +kernel), List.mem_of_getElem? (i := 716) (by decide +kernel), List.mem_of_getElem? (i := 717) (by decide +kernel)⟩
def lw_privs_3 : List (MethodName × Nat) := [(⟨"MutableCellsModel", "clearAtom", "(I)V"⟩, 34), (⟨"MutableCellsModel", "endAtom", "(I)I"⟩, 34), (⟨"MutableCellsModel", "rows", "(IIIII)V"⟩, 34), (⟨"MutableCellsModel", "checkItem", "(II)V"⟩, 34), (⟨"MutableCellsModel", "fail", "(I)V"⟩, 34)]
theorem lw_r3 : ∀ q ∈ lw_privs_3, lw_okq q := List.forall_mem_cons.mpr ⟨lw_p32, List.forall_mem_cons.mpr ⟨lw_p33, List.forall_mem_cons.mpr ⟨lw_p34, List.forall_mem_cons.mpr ⟨lw_p35, List.forall_mem_cons.mpr ⟨lw_p36, fun _ h => absurd h List.not_mem_nil⟩⟩⟩⟩⟩
def lw_privs : List (MethodName × Nat) := lw_privs_1 ++ (lw_privs_2 ++ (lw_privs_3))
def lw_tbl : List Cond := k2_sels lw_privs ++ tables_1
theorem lw_privs_ok : ∀ q ∈ lw_privs, lw_okq q := by
  show ∀ q ∈ lw_privs_1 ++ (lw_privs_2 ++ (lw_privs_3)), lw_okq q
  exact List.forall_mem_append.mpr ⟨lw_r1, List.forall_mem_append.mpr ⟨lw_r2, lw_r3⟩⟩
-- ===== end of PART A; then your names; then what follows =====

/-! ===== BEGIN words of one list among another's, by their places ===== -/
theorem goodIn_r {big : List Cond} (ws : List Cond) (ps : List Nat) (hp : ws = ps.filterMap (fun i => big[i]?)) (h : ws.all goodWord = true) : GoodIn big ws := by
  intro w hw
  have h1 := List.all_eq_true.mp h w hw
  rw [hp] at hw
  obtain ⟨i, -, hi⟩ := List.mem_filterMap.mp hw
  have hm : w ∈ big := by first | exact List.mem_of_getElem? hi | exact List.getElem?_mem hi
  exact ⟨hm, good_of_word h1⟩
theorem goodIn_app {big a b : List Cond} (ha : GoodIn big a) (hb : GoodIn big b) : GoodIn big (a ++ b) := fun w h => (List.mem_append.mp h).elim (ha w) (hb w)
theorem goodIn_ca {big a b : List Cond} {c : Cond} (ha : GoodIn big (c :: a)) (hb : GoodIn big b) : GoodIn big (c :: (a ++ b)) := fun w h => (List.mem_cons.mp h).elim (fun e => ha w (List.mem_cons.mpr (Or.inl e))) (fun h => (List.mem_append.mp h).elim (fun h => ha w (List.mem_cons.mpr (Or.inr h))) (hb w))
theorem goodIn_sub {big ws : List Cond} (hm : ∀ w ∈ ws, w ∈ big) (h : ws.all goodWord = true) : GoodIn big ws := fun w hw => ⟨hm w hw, good_of_word (List.all_eq_true.mp h w hw)⟩
/-! ===== END ===== -/

/-! ===== BEGIN printed: names, fields, word lists, decode rows ===== -/
def RX0 : String := "MutableCells$Atom"
def TX0 : u_T := fun k => match k with
  | 0 => ("MutableCells$Atom", "open", "Z", false)
  | 1 => ("MutableCells$Atom", "behindBegin", "I", false)
  | 2 => ("MutableCells$Atom", "trysAhead", "I", false)
  | 3 => ("MutableCells$Atom", "registers", "[I", true)
  | 4 => ("MutableCells$Atom", "putMarks", "[Z", true)
  | 5 => ("MutableCells$Atom", "putNumbers", "[I", true)
  | 6 => ("MutableCells$Atom", "readMarks", "[Z", true)
  | _ => ("MutableCells$Atom", "firstNumbers", "[I", true)
def tyX0 : Nat → FieldType := fun k => match k with
  | 0 => .boolean
  | 1 => .int
  | 2 => .int
  | 3 => .array .int
  | 4 => .array .boolean
  | 5 => .array .int
  | 6 => .array .boolean
  | _ => .array .int
abbrev wsX00 : List Cond := u_ws RX0 TX0 8
theorem nmX0 : ∀ a, a < 8 → ∀ b, b < 8 → a ≠ b → (TX0 a).2.1 ≠ (TX0 b).2.1 := by decide +kernel
theorem tyX0_ok : ∀ k, k < 8 → parseFieldDescriptor (TX0 k).2.2.1 = some (tyX0 k) := by decide +kernel
abbrev cX0_init : ByteArray := prog_2_method_1_code
def yX0_init : MethodName := ⟨RX0, "<init>", "()V"⟩
abbrev cX0_forget : ByteArray := prog_2_method_2_code
def yX0_forget : MethodName := ⟨RX0, "forget", "()V"⟩
abbrev cX0_hasPut : ByteArray := prog_2_method_3_code
def yX0_hasPut : MethodName := ⟨RX0, "hasPut", "(I)Z"⟩
abbrev cX0_putNumber : ByteArray := prog_2_method_4_code
def yX0_putNumber : MethodName := ⟨RX0, "putNumbe\x72", "(I)I"⟩
abbrev cX0_notePut : ByteArray := prog_2_method_5_code
def yX0_notePut : MethodName := ⟨RX0, "notePut", "(II)V"⟩
abbrev cX0_hasRead : ByteArray := prog_2_method_6_code
def yX0_hasRead : MethodName := ⟨RX0, "hasRead", "(I)Z"⟩
abbrev cX0_firstNumber : ByteArray := prog_2_method_7_code
def yX0_firstNumber : MethodName := ⟨RX0, "firstNumbe\x72", "(I)I"⟩
abbrev cX0_noteReading : ByteArray := prog_2_method_8_code
def yX0_noteReading : MethodName := ⟨RX0, "noteReading", "(II)V"⟩
def RX1 : String := "MutableCells$Cells"
def TX1 : u_T := fun k => match k with
  | 0 => ("MutableCells$Cells", "numbers", "[I", true)
  | 1 => ("MutableCells$Cells", "partners", "[I", true)
  | 2 => ("MutableCells$Cells", "trail", "[I", true)
  | _ => ("MutableCells$Cells", "log", "LMutableCells$Log;", true)
def tyX1 : Nat → FieldType := fun k => match k with
  | 0 => .array .int
  | 1 => .array .int
  | 2 => .array .int
  | _ => .object "MutableCells$Log"
abbrev wsX10 : List Cond := u_ws RX1 TX1 4
theorem nmX1 : ∀ a, a < 4 → ∀ b, b < 4 → a ≠ b → (TX1 a).2.1 ≠ (TX1 b).2.1 := by decide +kernel
theorem tyX1_ok : ∀ k, k < 4 → parseFieldDescriptor (TX1 k).2.2.1 = some (tyX1 k) := by decide +kernel
abbrev cX1_init : ByteArray := prog_3_method_1_code
def yX1_init : MethodName := ⟨RX1, "<init>", "()V"⟩
abbrev cX1_reset : ByteArray := prog_3_method_2_code
def yX1_reset : MethodName := ⟨RX1, "reset", "()V"⟩
abbrev cX1_isLazy : ByteArray := prog_3_method_3_code
def yX1_isLazy : MethodName := ⟨RX1, "isLazy", "(I)Z"⟩
abbrev cX1_shown : ByteArray := prog_3_method_4_code
def yX1_shown : MethodName := ⟨RX1, "shown", "(I)I"⟩
abbrev cX1_hold : ByteArray := prog_3_method_5_code
def yX1_hold : MethodName := ⟨RX1, "hold", "(II)V"⟩
abbrev cX1_defer : ByteArray := prog_3_method_6_code
def yX1_defer : MethodName := ⟨RX1, "defe\x72", "(II)V"⟩
abbrev cX1_count : ByteArray := prog_3_method_7_code
def yX1_count : MethodName := ⟨RX1, "count", "(III)V"⟩
abbrev cX1_leadsToRing : ByteArray := prog_3_method_8_code
def yX1_leadsToRing : MethodName := ⟨RX1, "leadsToRing", "(I)Z"⟩
abbrev cX1_workedOut : ByteArray := prog_3_method_9_code
def yX1_workedOut : MethodName := ⟨RX1, "workedOut", "(II)I"⟩
def RX2 : String := "MutableCells$Log"
def TX2 : u_T := fun k => match k with
  | 0 => ("MutableCells$Log", "threads", "[I", true)
  | 1 => ("MutableCells$Log", "places", "[I", true)
  | 2 => ("MutableCells$Log", "numbers", "[I", true)
  | 3 => ("MutableCells$Log", "latest", "I", false)
  | _ => ("MutableCells$Log", "count", "I", false)
def tyX2 : Nat → FieldType := fun k => match k with
  | 0 => .array .int
  | 1 => .array .int
  | 2 => .array .int
  | 3 => .int
  | _ => .int
abbrev wsX20 : List Cond := u_ws RX2 TX2 5
theorem nmX2 : ∀ a, a < 5 → ∀ b, b < 5 → a ≠ b → (TX2 a).2.1 ≠ (TX2 b).2.1 := by decide +kernel
theorem tyX2_ok : ∀ k, k < 5 → parseFieldDescriptor (TX2 k).2.2.1 = some (tyX2 k) := by decide +kernel
abbrev cX2_init : ByteArray := prog_4_method_1_code
def yX2_init : MethodName := ⟨RX2, "<init>", "()V"⟩
abbrev cX2_add : ByteArray := prog_4_method_2_code
def yX2_add : MethodName := ⟨RX2, "add", "(III)V"⟩
abbrev cX2_tell : ByteArray := prog_4_method_3_code
def yX2_tell : MethodName := ⟨RX2, "tell", "(II)I"⟩
def RX3 : String := "MutableCells$Rows"
def TX3 : u_T := fun k => match k with
  | 0 => ("MutableCells$Rows", "lengths", "[I", true)
  | 1 => ("MutableCells$Rows", "ices", "[Z", true)
  | _ => ("MutableCells$Rows", "items", "[I", true)
def tyX3 : Nat → FieldType := fun k => match k with
  | 0 => .array .int
  | 1 => .array .boolean
  | _ => .array .int
abbrev wsX30 : List Cond := u_ws RX3 TX3 3
theorem nmX3 : ∀ a, a < 3 → ∀ b, b < 3 → a ≠ b → (TX3 a).2.1 ≠ (TX3 b).2.1 := by decide +kernel
theorem tyX3_ok : ∀ k, k < 3 → parseFieldDescriptor (TX3 k).2.2.1 = some (tyX3 k) := by decide +kernel
abbrev cX3_init : ByteArray := prog_5_method_1_code
def yX3_init : MethodName := ⟨RX3, "<init>", "()V"⟩
abbrev cX3_reset : ByteArray := prog_5_method_2_code
def yX3_reset : MethodName := ⟨RX3, "reset", "()V"⟩
abbrev cX3_length : ByteArray := prog_5_method_3_code
def yX3_length : MethodName := ⟨RX3, "length", "(I)I"⟩
abbrev cX3_isFrozen : ByteArray := prog_5_method_4_code
def yX3_isFrozen : MethodName := ⟨RX3, "isFrozen", "(I)Z"⟩
abbrev cX3_hasItem : ByteArray := prog_5_method_5_code
def yX3_hasItem : MethodName := ⟨RX3, "hasItem", "(II)Z"⟩
abbrev cX3_itemOf : ByteArray := prog_5_method_6_code
def yX3_itemOf : MethodName := ⟨RX3, "itemOf", "(II)I"⟩
abbrev cX3_failureAt : ByteArray := prog_5_method_7_code
def yX3_failureAt : MethodName := ⟨RX3, "failureAt", "(II)I"⟩
abbrev cX3_store : ByteArray := prog_5_method_8_code
def yX3_store : MethodName := ⟨RX3, "store", "(III)I"⟩
abbrev cX3_make : ByteArray := prog_5_method_9_code
def yX3_make : MethodName := ⟨RX3, "make", "(II)I"⟩
abbrev cX3_freeze : ByteArray := prog_5_method_10_code
def yX3_freeze : MethodName := ⟨RX3, "freeze", "(I)I"⟩
def RX4 : String := "MutableCells$Strand"
def TX4 : u_T := fun k => match k with
  | 0 => ("MutableCells$Strand", "numbe\x72", "I", true)
  | 1 => ("MutableCells$Strand", "kinds", "[I", true)
  | 2 => ("MutableCells$Strand", "xs", "[I", true)
  | 3 => ("MutableCells$Strand", "ys", "[I", true)
  | 4 => ("MutableCells$Strand", "zs", "[I", true)
  | 5 => ("MutableCells$Strand", "acts", "I", false)
  | 6 => ("MutableCells$Strand", "registers", "[I", true)
  | 7 => ("MutableCells$Strand", "tryPlaces", "[I", true)
  | 8 => ("MutableCells$Strand", "trys", "I", false)
  | 9 => ("MutableCells$Strand", "atom", "LMutableCells$Atom;", true)
  | 10 => ("MutableCells$Strand", "place", "I", false)
  | 11 => ("MutableCells$Strand", "next", "I", false)
  | 12 => ("MutableCells$Strand", "failure", "I", false)
  | 13 => ("MutableCells$Strand", "turns", "I", false)
  | _ => ("MutableCells$Strand", "anews", "I", false)
def tyX4 : Nat → FieldType := fun k => match k with
  | 0 => .int
  | 1 => .array .int
  | 2 => .array .int
  | 3 => .array .int
  | 4 => .array .int
  | 5 => .int
  | 6 => .array .int
  | 7 => .array .int
  | 8 => .int
  | 9 => .object "MutableCells$Atom"
  | 10 => .int
  | 11 => .int
  | 12 => .int
  | 13 => .int
  | _ => .int
abbrev wsX40 : List Cond := u_ws RX4 TX4 15
theorem nmX4 : ∀ a, a < 15 → ∀ b, b < 15 → a ≠ b → (TX4 a).2.1 ≠ (TX4 b).2.1 := by decide +kernel
theorem tyX4_ok : ∀ k, k < 15 → parseFieldDescriptor (TX4 k).2.2.1 = some (tyX4 k) := by decide +kernel
abbrev cX4_init : ByteArray := prog_6_method_1_code
def yX4_init : MethodName := ⟨RX4, "<init>", "(I)V"⟩
abbrev cX4_reset : ByteArray := prog_6_method_2_code
def yX4_reset : MethodName := ⟨RX4, "reset", "(Z)V"⟩
abbrev cX4_append : ByteArray := prog_6_method_3_code
def yX4_append : MethodName := ⟨RX4, "append", "(IIII)Z"⟩
abbrev cX4_state : ByteArray := prog_6_method_4_code
def yX4_state : MethodName := ⟨RX4, "state", "()I"⟩
abbrev cX4_held : ByteArray := prog_6_method_5_code
def yX4_held : MethodName := ⟨RX4, "held", "(I)I"⟩
abbrev cX4_keep : ByteArray := prog_6_method_6_code
def yX4_keep : MethodName := ⟨RX4, "keep", "(II)V"⟩
abbrev cX4_performAlone : ByteArray := prog_6_method_7_code
def yX4_performAlone : MethodName := ⟨RX4, "performAlone", "(IIII)I"⟩
abbrev cX4_divide : ByteArray := prog_6_method_8_code
def yX4_divide : MethodName := ⟨RX4, "divide", "(III)I"⟩
abbrev cX4_openTry : ByteArray := prog_6_method_9_code
def yX4_openTry : MethodName := ⟨RX4, "openTry", "(I)I"⟩
abbrev cX4_closeTry : ByteArray := prog_6_method_10_code
def yX4_closeTry : MethodName := ⟨RX4, "closeTry", "()I"⟩
abbrev cX4_beginAtom : ByteArray := prog_6_method_11_code
def yX4_beginAtom : MethodName := ⟨RX4, "beginAtom", "()I"⟩
abbrev cX4_beginAnew : ByteArray := prog_6_method_12_code
def yX4_beginAnew : MethodName := ⟨RX4, "beginAnew", "()V"⟩
abbrev cX4_fail : ByteArray := prog_6_method_13_code
def yX4_fail : MethodName := ⟨RX4, "fail", "(I)V"⟩
def RX5 : String := "MutableCells"
def TX5 : u_T := fun k => match k with
  | 0 => ("MutableCells", "cells", "LMutableCells$Cells;", true)
  | 1 => ("MutableCells", "rows", "LMutableCells$Rows;", true)
  | 2 => ("MutableCells", "strands", "[LMutableCells$Strand;", true)
  | 3 => ("MutableCells", "turnsDone", "I", false)
  | _ => ("MutableCells", "failures", "I", false)
def tyX5 : Nat → FieldType := fun k => match k with
  | 0 => .object "MutableCells$Cells"
  | 1 => .object "MutableCells$Rows"
  | 2 => .array (.object "MutableCells$Strand")
  | 3 => .int
  | _ => .int
abbrev wsX50 : List Cond := u_ws RX5 TX5 5
theorem nmX5 : ∀ a, a < 5 → ∀ b, b < 5 → a ≠ b → (TX5 a).2.1 ≠ (TX5 b).2.1 := by decide +kernel
theorem tyX5_ok : ∀ k, k < 5 → parseFieldDescriptor (TX5 k).2.2.1 = some (tyX5 k) := by decide +kernel
abbrev cX5_init : ByteArray := prog_1_method_1_code
def yX5_init : MethodName := ⟨RX5, "<init>", "()V"⟩
abbrev cX5_act : ByteArray := prog_1_method_2_code
def yX5_act : MethodName := ⟨RX5, "act", "(IIIII)I"⟩
abbrev cX5_turn : ByteArray := prog_1_method_3_code
def yX5_turn : MethodName := ⟨RX5, "turn", "(I)I"⟩
abbrev cX5_play : ByteArray := prog_1_method_4_code
def yX5_play : MethodName := ⟨RX5, "play", "(II)I"⟩
abbrev cX5_told : ByteArray := prog_1_method_5_code
def yX5_told : MethodName := ⟨RX5, "told", "(II)I"⟩
abbrev cX5_register : ByteArray := prog_1_method_6_code
def yX5_register : MethodName := ⟨RX5, "registe\x72", "(II)I"⟩
abbrev cX5_cell : ByteArray := prog_1_method_7_code
def yX5_cell : MethodName := ⟨RX5, "cell", "(I)I"⟩
abbrev cX5_lazy : ByteArray := prog_1_method_8_code
def yX5_lazy : MethodName := ⟨RX5, "lazy", "(I)I"⟩
abbrev cX5_size : ByteArray := prog_1_method_9_code
def yX5_size : MethodName := ⟨RX5, "size", "(I)I"⟩
abbrev cX5_item : ByteArray := prog_1_method_10_code
def yX5_item : MethodName := ⟨RX5, "item", "(II)I"⟩
abbrev cX5_frozen : ByteArray := prog_1_method_11_code
def yX5_frozen : MethodName := ⟨RX5, "frozen", "(I)I"⟩
abbrev cX5_put : ByteArray := prog_1_method_12_code
def yX5_put : MethodName := ⟨RX5, "put", "(II)I"⟩
abbrev cX5_writes : ByteArray := prog_1_method_13_code
def yX5_writes : MethodName := ⟨RX5, "writes", "()I"⟩
abbrev cX5_write : ByteArray := prog_1_method_14_code
def yX5_write : MethodName := ⟨RX5, "write", "(II)I"⟩
abbrev cX5_again : ByteArray := prog_1_method_15_code
def yX5_again : MethodName := ⟨RX5, "again", "()I"⟩
abbrev cX5_clear : ByteArray := prog_1_method_16_code
def yX5_clear : MethodName := ⟨RX5, "clea\x72", "()I"⟩
abbrev cX5_restart : ByteArray := prog_1_method_17_code
def yX5_restart : MethodName := ⟨RX5, "restart", "(Z)I"⟩
abbrev cX5_strandOf : ByteArray := prog_1_method_18_code
def yX5_strandOf : MethodName := ⟨RX5, "strandOf", "(I)LMutableCells$Strand;"⟩
abbrev cX5_isRegister : ByteArray := prog_1_method_19_code
def yX5_isRegister : MethodName := ⟨RX5, "isRegiste\x72", "(I)Z"⟩
abbrev cX5_isCell : ByteArray := prog_1_method_20_code
def yX5_isCell : MethodName := ⟨RX5, "isCell", "(I)Z"⟩
abbrev cX5_isRow : ByteArray := prog_1_method_21_code
def yX5_isRow : MethodName := ⟨RX5, "isRow", "(I)Z"⟩
abbrev cX5_isPlace : ByteArray := prog_1_method_22_code
def yX5_isPlace : MethodName := ⟨RX5, "isPlace", "(I)Z"⟩
abbrev cX5_mayBe : ByteArray := prog_1_method_23_code
def yX5_mayBe : MethodName := ⟨RX5, "mayBe", "(IIII)Z"⟩
abbrev cX5_drawn : ByteArray := prog_1_method_24_code
def yX5_drawn : MethodName := ⟨RX5, "drawn", "(I)LMutableCells$Strand;"⟩
abbrev cX5_goes : ByteArray := prog_1_method_25_code
def yX5_goes : MethodName := ⟨RX5, "goes", "(I)Z"⟩
abbrev cX5_takeTurn : ByteArray := prog_1_method_26_code
def yX5_takeTurn : MethodName := ⟨RX5, "takeTurn", "(LMutableCells$Strand;)V"⟩
abbrev cX5_perform : ByteArray := prog_1_method_27_code
def yX5_perform : MethodName := ⟨RX5, "perform", "(LMutableCells$Strand;)I"⟩
abbrev cX5_isBarredFromAtoms : ByteArray := prog_1_method_28_code
def yX5_isBarredFromAtoms : MethodName := ⟨RX5, "isBarredFromAtoms", "(I)Z"⟩
abbrev cX5_loadItem : ByteArray := prog_1_method_29_code
def yX5_loadItem : MethodName := ⟨RX5, "loadItem", "(LMutableCells$Strand;III)I"⟩
abbrev cX5_getCell : ByteArray := prog_1_method_30_code
def yX5_getCell : MethodName := ⟨RX5, "getCell", "(LMutableCells$Strand;II)I"⟩
abbrev cX5_swapCell : ByteArray := prog_1_method_31_code
def yX5_swapCell : MethodName := ⟨RX5, "swapCell", "(LMutableCells$Strand;III)I"⟩
abbrev cX5_failureOfReading : ByteArray := prog_1_method_32_code
def yX5_failureOfReading : MethodName := ⟨RX5, "failureOfReading", "(LMutableCells$Strand;I)I"⟩
abbrev cX5_readCell : ByteArray := prog_1_method_33_code
def yX5_readCell : MethodName := ⟨RX5, "readCell", "(LMutableCells$Strand;I)I"⟩
abbrev cX5_putCell : ByteArray := prog_1_method_34_code
def yX5_putCell : MethodName := ⟨RX5, "putCell", "(LMutableCells$Strand;II)V"⟩
abbrev cX5_endAtom : ByteArray := prog_1_method_35_code
def yX5_endAtom : MethodName := ⟨RX5, "endAtom", "(LMutableCells$Strand;)I"⟩
abbrev cX5_isOvertaken : ByteArray := prog_1_method_36_code
def yX5_isOvertaken : MethodName := ⟨RX5, "isOvertaken", "(LMutableCells$Atom;)Z"⟩
def RX6 : String := "MutableCellsModel"
def TX6 : u_T := fun k => match k with
  | 0 => ("MutableCellsModel", "failures", "I", false)
  | 1 => ("MutableCellsModel", "cells", "[I", true)
  | 2 => ("MutableCellsModel", "isLazy", "[Z", true)
  | 3 => ("MutableCellsModel", "isRead", "[Z", true)
  | 4 => ("MutableCellsModel", "sizes", "[I", true)
  | 5 => ("MutableCellsModel", "items", "[I", true)
  | 6 => ("MutableCellsModel", "isFrozen", "[Z", true)
  | 7 => ("MutableCellsModel", "many", "[I", true)
  | 8 => ("MutableCellsModel", "kind", "[I", true)
  | 9 => ("MutableCellsModel", "actX", "[I", true)
  | 10 => ("MutableCellsModel", "actY", "[I", true)
  | 11 => ("MutableCellsModel", "actZ", "[I", true)
  | 12 => ("MutableCellsModel", "registers", "[I", true)
  | 13 => ("MutableCellsModel", "place", "[I", true)
  | 14 => ("MutableCellsModel", "failedBy", "[I", true)
  | 15 => ("MutableCellsModel", "hasFailed", "[Z", true)
  | 16 => ("MutableCellsModel", "turns", "[I", true)
  | 17 => ("MutableCellsModel", "anew", "[I", true)
  | 18 => ("MutableCellsModel", "tries", "[I", true)
  | 19 => ("MutableCellsModel", "tryPlace", "[I", true)
  | 20 => ("MutableCellsModel", "isAtom", "[Z", true)
  | 21 => ("MutableCellsModel", "atomTries", "[I", true)
  | 22 => ("MutableCellsModel", "atomPlace", "[I", true)
  | 23 => ("MutableCellsModel", "atomRegisters", "[I", true)
  | 24 => ("MutableCellsModel", "wasRead", "[Z", true)
  | 25 => ("MutableCellsModel", "firstRead", "[I", true)
  | 26 => ("MutableCellsModel", "wasPut", "[Z", true)
  | 27 => ("MutableCellsModel", "putThere", "[I", true)
  | 28 => ("MutableCellsModel", "writes", "I", false)
  | 29 => ("MutableCellsModel", "writeThread", "[I", true)
  | 30 => ("MutableCellsModel", "writeCell", "[I", true)
  | 31 => ("MutableCellsModel", "writeNumbe\x72", "[I", true)
  | 32 => ("MutableCellsModel", "failure", "I", false)
  | _ => ("MutableCellsModel", "chain", "[I", true)
def tyX6 : Nat → FieldType := fun k => match k with
  | 0 => .int
  | 1 => .array .int
  | 2 => .array .boolean
  | 3 => .array .boolean
  | 4 => .array .int
  | 5 => .array .int
  | 6 => .array .boolean
  | 7 => .array .int
  | 8 => .array .int
  | 9 => .array .int
  | 10 => .array .int
  | 11 => .array .int
  | 12 => .array .int
  | 13 => .array .int
  | 14 => .array .int
  | 15 => .array .boolean
  | 16 => .array .int
  | 17 => .array .int
  | 18 => .array .int
  | 19 => .array .int
  | 20 => .array .boolean
  | 21 => .array .int
  | 22 => .array .int
  | 23 => .array .int
  | 24 => .array .boolean
  | 25 => .array .int
  | 26 => .array .boolean
  | 27 => .array .int
  | 28 => .int
  | 29 => .array .int
  | 30 => .array .int
  | 31 => .array .int
  | 32 => .int
  | _ => .array .int
abbrev wsX60 : List Cond := u_ws RX6 TX6 34
theorem nmX6 : ∀ a, a < 34 → ∀ b, b < 34 → a ≠ b → (TX6 a).2.1 ≠ (TX6 b).2.1 := by decide +kernel
theorem tyX6_ok : ∀ k, k < 34 → parseFieldDescriptor (TX6 k).2.2.1 = some (tyX6 k) := by decide +kernel
abbrev cX6_init : ByteArray := prog_8_method_1_code
def yX6_init : MethodName := ⟨RX6, "<init>", "()V"⟩
abbrev cX6_within : ByteArray := prog_8_method_3_code
def yX6_within : MethodName := ⟨RX6, "within", "(III)Z"⟩
abbrev cX6_begin : ByteArray := prog_8_method_4_code
def yX6_begin : MethodName := ⟨RX6, "begin", "()V"⟩
abbrev cX6_isRegister : ByteArray := prog_8_method_5_code
def yX6_isRegister : MethodName := ⟨RX6, "isRegiste\x72", "(I)Z"⟩
abbrev cX6_isCell : ByteArray := prog_8_method_6_code
def yX6_isCell : MethodName := ⟨RX6, "isCell", "(I)Z"⟩
abbrev cX6_isPlaceIn : ByteArray := prog_8_method_7_code
def yX6_isPlaceIn : MethodName := ⟨RX6, "isPlaceIn", "(I)Z"⟩
abbrev cX6_fits : ByteArray := prog_8_method_8_code
def yX6_fits : MethodName := ⟨RX6, "fits", "(IIII)Z"⟩
abbrev cX6_act : ByteArray := prog_8_method_9_code
def yX6_act : MethodName := ⟨RX6, "act", "(IIIII)I"⟩
abbrev cX6_stateOf : ByteArray := prog_8_method_10_code
def yX6_stateOf : MethodName := ⟨RX6, "stateOf", "(I)I"⟩
abbrev cX6_note : ByteArray := prog_8_method_11_code
def yX6_note : MethodName := ⟨RX6, "note", "(III)V"⟩
abbrev cX6_write : ByteArray := prog_8_method_12_code
def yX6_write : MethodName := ⟨RX6, "write", "(III)V"⟩
abbrev cX6_readPlain : ByteArray := prog_8_method_13_code
def yX6_readPlain : MethodName := ⟨RX6, "readPlain", "(II)I"⟩
abbrev cX6_read : ByteArray := prog_8_method_14_code
def yX6_read : MethodName := ⟨RX6, "read", "(II)I"⟩
abbrev cX6_lay : ByteArray := prog_8_method_15_code
def yX6_lay : MethodName := ⟨RX6, "lay", "(III)V"⟩
abbrev cX6_clearAtom : ByteArray := prog_8_method_16_code
def yX6_clearAtom : MethodName := ⟨RX6, "clearAtom", "(I)V"⟩
abbrev cX6_beginAtom : ByteArray := prog_8_method_17_code
def yX6_beginAtom : MethodName := ⟨RX6, "beginAtom", "(I)V"⟩
abbrev cX6_endAtom : ByteArray := prog_8_method_18_code
def yX6_endAtom : MethodName := ⟨RX6, "endAtom", "(I)I"⟩
abbrev cX6_r : ByteArray := prog_8_method_19_code
def yX6_r : MethodName := ⟨RX6, "\x72", "(II)I"⟩
abbrev cX6_give : ByteArray := prog_8_method_20_code
def yX6_give : MethodName := ⟨RX6, "give", "(III)V"⟩
abbrev cX6_checkItem : ByteArray := prog_8_method_21_code
def yX6_checkItem : MethodName := ⟨RX6, "checkItem", "(II)V"⟩
abbrev cX6_compute : ByteArray := prog_8_method_22_code
def yX6_compute : MethodName := ⟨RX6, "compute", "(IIIII)V"⟩
abbrev cX6_swap : ByteArray := prog_8_method_23_code
def yX6_swap : MethodName := ⟨RX6, "swap", "(IIII)V"⟩
abbrev cX6_rows : ByteArray := prog_8_method_24_code
def yX6_rows : MethodName := ⟨RX6, "rows", "(IIIII)V"⟩
abbrev cX6_doAct : ByteArray := prog_8_method_25_code
def yX6_doAct : MethodName := ⟨RX6, "doAct", "(I)I"⟩
abbrev cX6_fail : ByteArray := prog_8_method_26_code
def yX6_fail : MethodName := ⟨RX6, "fail", "(I)V"⟩
abbrev cX6_doTurn : ByteArray := prog_8_method_27_code
def yX6_doTurn : MethodName := ⟨RX6, "doTurn", "(I)V"⟩
abbrev cX6_turn : ByteArray := prog_8_method_28_code
def yX6_turn : MethodName := ⟨RX6, "turn", "(I)I"⟩
abbrev cX6_play : ByteArray := prog_8_method_29_code
def yX6_play : MethodName := ⟨RX6, "play", "(II)I"⟩
abbrev cX6_told : ByteArray := prog_8_method_30_code
def yX6_told : MethodName := ⟨RX6, "told", "(II)I"⟩
abbrev cX6_register : ByteArray := prog_8_method_31_code
def yX6_register : MethodName := ⟨RX6, "registe\x72", "(II)I"⟩
abbrev cX6_cell : ByteArray := prog_8_method_32_code
def yX6_cell : MethodName := ⟨RX6, "cell", "(I)I"⟩
abbrev cX6_lazy : ByteArray := prog_8_method_33_code
def yX6_lazy : MethodName := ⟨RX6, "lazy", "(I)I"⟩
abbrev cX6_size : ByteArray := prog_8_method_34_code
def yX6_size : MethodName := ⟨RX6, "size", "(I)I"⟩
abbrev cX6_item : ByteArray := prog_8_method_35_code
def yX6_item : MethodName := ⟨RX6, "item", "(II)I"⟩
abbrev cX6_frozen : ByteArray := prog_8_method_36_code
def yX6_frozen : MethodName := ⟨RX6, "frozen", "(I)I"⟩
abbrev cX6_put : ByteArray := prog_8_method_37_code
def yX6_put : MethodName := ⟨RX6, "put", "(II)I"⟩
abbrev cX6_writes : ByteArray := prog_8_method_38_code
def yX6_writes : MethodName := ⟨RX6, "writes", "()I"⟩
abbrev cX6_write_ : ByteArray := prog_8_method_39_code
def yX6_write_ : MethodName := ⟨RX6, "write", "(II)I"⟩
abbrev cX6_again : ByteArray := prog_8_method_40_code
def yX6_again : MethodName := ⟨RX6, "again", "()I"⟩
abbrev cX6_clear : ByteArray := prog_8_method_41_code
def yX6_clear : MethodName := ⟨RX6, "clea\x72", "()I"⟩
def RJ10 : String := "java/lang/System"
def TJ10 : u_T := fun k => match k with
  | _ => ("", "", "", false)
def tyJ10 : Nat → FieldType := fun k => match k with
  | _ => .int
abbrev wsJ100 : List Cond := u_ws RJ10 TJ10 0
theorem nmJ10 : ∀ a, a < 0 → ∀ b, b < 0 → a ≠ b → (TJ10 a).2.1 ≠ (TJ10 b).2.1 := by decide +kernel
theorem tyJ10_ok : ∀ k, k < 0 → parseFieldDescriptor (TJ10 k).2.2.1 = some (tyJ10 k) := by decide +kernel
def RJ7 : String := "java/util/Arrays"
def TJ7 : u_T := fun k => match k with
  | _ => ("", "", "", false)
def tyJ7 : Nat → FieldType := fun k => match k with
  | _ => .int
abbrev wsJ70 : List Cond := u_ws RJ7 TJ7 0
theorem nmJ7 : ∀ a, a < 0 → ∀ b, b < 0 → a ≠ b → (TJ7 a).2.1 ≠ (TJ7 b).2.1 := by decide +kernel
theorem tyJ7_ok : ∀ k, k < 0 → parseFieldDescriptor (TJ7 k).2.2.1 = some (tyJ7 k) := by decide +kernel
abbrev cJ7_rangeCheck_23922 : ByteArray := prog_10_method_30_code
def yJ7_rangeCheck_23922 : MethodName := ⟨RJ7, "rangeCheck", "(III)V"⟩
abbrev cJ7_fill_53178 : ByteArray := prog_10_method_103_code
def yJ7_fill_53178 : MethodName := ⟨RJ7, "fill", "([II)V"⟩
abbrev cJ7_fill_fda19 : ByteArray := prog_10_method_104_code
def yJ7_fill_fda19 : MethodName := ⟨RJ7, "fill", "([IIII)V"⟩
def RL : String := "MutableCellsLaw"
abbrev cL_law : ByteArray := code
def yL_law : MethodName := ⟨RL, "law", "([I)Z"⟩
def wsX0_init : List Cond := .code yX0_init cX0_init 1 none :: ([.methodLink RX0 3 objectInit, .instanceMethod objectInit, .code objectInit ⟨#[0xb1]⟩ 1 none, .arrayClass .int, .fieldLink RX0 9 "MutableCells$Atom" "registers" "[I", .arrayClass .boolean, .fieldLink RX0 15 "MutableCells$Atom" "putMarks" "[Z", .fieldLink RX0 19 "MutableCells$Atom" "putNumbers" "[I", .fieldLink RX0 22 "MutableCells$Atom" "readMarks" "[Z", .fieldLink RX0 25 "MutableCells$Atom" "firstNumbers" "[I"] ++ wsX00)
def wsX0_forget : List Cond := .code yX0_forget cX0_forget 2 none :: ([.fieldLink RX0 15 "MutableCells$Atom" "putMarks" "[Z", .fieldLink RX0 22 "MutableCells$Atom" "readMarks" "[Z"] ++ wsX00)
def wsX5_isCell : List Cond := .code yX5_isCell cX5_isCell 1 (some .boolean) :: ([])
def wsX0_hasPut : List Cond := .code yX0_hasPut cX0_hasPut 2 (some .boolean) :: ([.fieldLink RX0 15 "MutableCells$Atom" "putMarks" "[Z", .static yX5_isCell, .initialized RX5, .code yX5_isCell cX5_isCell 1 (some .boolean)] ++ wsX00)
def wsX0_putNumber : List Cond := .code yX0_putNumber cX0_putNumber 2 (some .int) :: ([.fieldLink RX0 19 "MutableCells$Atom" "putNumbers" "[I", .static yX5_isCell, .initialized RX5, .code yX5_isCell cX5_isCell 1 (some .boolean)] ++ wsX00)
def wsX0_notePut : List Cond := .code yX0_notePut cX0_notePut 3 none :: ([.fieldLink RX0 15 "MutableCells$Atom" "putMarks" "[Z", .fieldLink RX0 19 "MutableCells$Atom" "putNumbers" "[I", .static yX5_isCell, .initialized RX5, .code yX5_isCell cX5_isCell 1 (some .boolean)] ++ wsX00)
def wsX0_hasRead : List Cond := .code yX0_hasRead cX0_hasRead 2 (some .boolean) :: ([.fieldLink RX0 22 "MutableCells$Atom" "readMarks" "[Z", .static yX5_isCell, .initialized RX5, .code yX5_isCell cX5_isCell 1 (some .boolean)] ++ wsX00)
def wsX0_firstNumber : List Cond := .code yX0_firstNumber cX0_firstNumber 2 (some .int) :: ([.fieldLink RX0 25 "MutableCells$Atom" "firstNumbers" "[I", .static yX5_isCell, .initialized RX5, .code yX5_isCell cX5_isCell 1 (some .boolean)] ++ wsX00)
def wsX0_noteReading : List Cond := .code yX0_noteReading cX0_noteReading 3 none :: ([.fieldLink RX0 22 "MutableCells$Atom" "readMarks" "[Z", .fieldLink RX0 25 "MutableCells$Atom" "firstNumbers" "[I", .static yX5_isCell, .initialized RX5, .code yX5_isCell cX5_isCell 1 (some .boolean)] ++ wsX00)
def wsX2_init : List Cond := .code yX2_init cX2_init 1 none :: ([.methodLink RX2 3 objectInit, .instanceMethod objectInit, .code objectInit ⟨#[0xb1]⟩ 1 none, .arrayClass .int, .fieldLink RX2 9 "MutableCells$Log" "threads" "[I", .fieldLink RX2 15 "MutableCells$Log" "places" "[I", .fieldLink RX2 18 "MutableCells$Log" "numbers" "[I"] ++ wsX20)
def wsJ7_fill_53178 : List Cond := .code yJ7_fill_53178 cJ7_fill_53178 4 none :: ([])
def wsX1_reset : List Cond := .code yX1_reset cX1_reset 1 none :: ([.fieldLink RX1 9 "MutableCells$Cells" "numbers" "[I", .fieldLink RX1 15 "MutableCells$Cells" "partners" "[I", .fieldLink RX1 24 "MutableCells$Cells" "log" "LMutableCells$Log;", .methodLink RX1 31 yJ7_fill_53178, .static yJ7_fill_53178, .initialized RJ7, .code yJ7_fill_53178 cJ7_fill_53178 4 none] ++ wsX10 ++ wsX20)
def wsX1_init_r1 : List Cond := [Cond.methodLink RX1 3 objectInit, Cond.instanceMethod objectInit, Cond.code objectInit ⟨#[0xb1]⟩ 1 none, Cond.arrayClass .int, Cond.fieldLink RX1 9 "MutableCells$Cells" "numbers" "[I", Cond.fieldLink RX1 15 "MutableCells$Cells" "partners" "[I", Cond.fieldLink RX1 18 "MutableCells$Cells" "trail" "[I", Cond.classLink RX1 21 RX2, Cond.instantiable RX2 5, Cond.initialized RX2, Cond.fieldLink RX1 24 "MutableCells$Cells" "log" "LMutableCells$Log;", Cond.instanceMethod yX2_init, Cond.code yX2_init cX2_init 1 none, Cond.methodLink RX2 3 objectInit, Cond.fieldLink RX2 9 "MutableCells$Log" "threads" "[I", Cond.fieldLink RX2 15 "MutableCells$Log" "places" "[I", Cond.fieldLink RX2 18 "MutableCells$Log" "numbers" "[I", Cond.methodLink RX1 28 yX1_reset, Cond.instanceMethod yX1_reset, Cond.selects RX1 yX1_reset yX1_reset, Cond.initialized RX1, Cond.code yX1_reset cX1_reset 1 none, Cond.methodLink RX1 31 yJ7_fill_53178, Cond.static yJ7_fill_53178]
def wsX1_init_r2 : List Cond := [Cond.initialized RJ7, Cond.code yJ7_fill_53178 cJ7_fill_53178 4 none]
def wsX1_init : List Cond := .code yX1_init cX1_init 1 none :: ((wsX1_init_r1 ++ wsX1_init_r2) ++ wsX10 ++ wsX20)
def wsX1_isLazy : List Cond := .code yX1_isLazy cX1_isLazy 2 (some .boolean) :: ([.fieldLink RX1 15 "MutableCells$Cells" "partners" "[I", .static yX5_isCell, .initialized RX5, .code yX5_isCell cX5_isCell 1 (some .boolean)] ++ wsX10)
def wsX1_shown : List Cond := .code yX1_shown cX1_shown 2 (some .int) :: ([.fieldLink RX1 15 "MutableCells$Cells" "partners" "[I", .fieldLink RX1 9 "MutableCells$Cells" "numbers" "[I", .static yX5_isCell, .initialized RX5, .code yX5_isCell cX5_isCell 1 (some .boolean)] ++ wsX10)
def wsX1_hold : List Cond := .code yX1_hold cX1_hold 3 none :: ([.fieldLink RX1 9 "MutableCells$Cells" "numbers" "[I", .fieldLink RX1 15 "MutableCells$Cells" "partners" "[I"] ++ wsX10)
def wsX1_defer : List Cond := .code yX1_defer cX1_defer 3 none :: ([.fieldLink RX1 15 "MutableCells$Cells" "partners" "[I", .static yX5_isCell, .initialized RX5, .code yX5_isCell cX5_isCell 1 (some .boolean)] ++ wsX10)
def wsX2_add : List Cond := .code yX2_add cX2_add 4 none :: ([.fieldLink RX2 21 "MutableCells$Log" "latest" "I", .fieldLink RX2 9 "MutableCells$Log" "threads" "[I", .fieldLink RX2 15 "MutableCells$Log" "places" "[I", .fieldLink RX2 18 "MutableCells$Log" "numbers" "[I", .fieldLink RX2 25 "MutableCells$Log" "count" "I"] ++ wsX20)
def wsX1_count : List Cond := .code yX1_count cX1_count 4 none :: ([.fieldLink RX1 24 "MutableCells$Cells" "log" "LMutableCells$Log;", .methodLink RX1 45 yX1_hold, .instanceMethod yX1_hold, .selects RX1 yX1_hold yX1_hold, .initialized RX1, .code yX1_hold cX1_hold 3 none, .fieldLink RX1 9 "MutableCells$Cells" "numbers" "[I", .fieldLink RX1 15 "MutableCells$Cells" "partners" "[I", .methodLink RX1 49 yX2_add, .instanceMethod yX2_add, .selects RX2 yX2_add yX2_add, .initialized RX2, .code yX2_add cX2_add 4 none, .fieldLink RX2 21 "MutableCells$Log" "latest" "I", .fieldLink RX2 9 "MutableCells$Log" "threads" "[I", .fieldLink RX2 15 "MutableCells$Log" "places" "[I", .fieldLink RX2 18 "MutableCells$Log" "numbers" "[I", .fieldLink RX2 25 "MutableCells$Log" "count" "I"] ++ wsX10 ++ wsX20)
def wsX1_leadsToRing : List Cond := .code yX1_leadsToRing cX1_leadsToRing 4 (some .boolean) :: ([.methodLink RX1 53 yX1_isLazy, .instanceMethod yX1_isLazy, .selects RX1 yX1_isLazy yX1_isLazy, .initialized RX1, .code yX1_isLazy cX1_isLazy 2 (some .boolean), .fieldLink RX1 15 "MutableCells$Cells" "partners" "[I", .static yX5_isCell, .initialized RX5, .code yX5_isCell cX5_isCell 1 (some .boolean), .methodLink RX1 56 yX1_shown, .instanceMethod yX1_shown, .selects RX1 yX1_shown yX1_shown, .code yX1_shown cX1_shown 2 (some .int), .fieldLink RX1 9 "MutableCells$Cells" "numbers" "[I"] ++ wsX10)
def wsX1_workedOut_r1 : List Cond := [Cond.fieldLink RX1 18 "MutableCells$Cells" "trail" "[I", Cond.methodLink RX1 53 yX1_isLazy, Cond.instanceMethod yX1_isLazy, Cond.selects RX1 yX1_isLazy yX1_isLazy, Cond.initialized RX1, Cond.code yX1_isLazy cX1_isLazy 2 (some .boolean), Cond.fieldLink RX1 15 "MutableCells$Cells" "partners" "[I", Cond.static yX5_isCell, Cond.initialized RX5, Cond.code yX5_isCell cX5_isCell 1 (some .boolean), Cond.methodLink RX1 56 yX1_shown, Cond.instanceMethod yX1_shown, Cond.selects RX1 yX1_shown yX1_shown, Cond.code yX1_shown cX1_shown 2 (some .int), Cond.fieldLink RX1 9 "MutableCells$Cells" "numbers" "[I", Cond.methodLink RX1 60 yX1_count, Cond.instanceMethod yX1_count, Cond.selects RX1 yX1_count yX1_count, Cond.code yX1_count cX1_count 4 none, Cond.fieldLink RX1 24 "MutableCells$Cells" "log" "LMutableCells$Log;", Cond.methodLink RX1 45 yX1_hold, Cond.instanceMethod yX1_hold, Cond.selects RX1 yX1_hold yX1_hold, Cond.code yX1_hold cX1_hold 3 none]
def wsX1_workedOut_r2 : List Cond := [Cond.methodLink RX1 49 yX2_add, Cond.instanceMethod yX2_add, Cond.selects RX2 yX2_add yX2_add, Cond.initialized RX2, Cond.code yX2_add cX2_add 4 none, Cond.fieldLink RX2 21 "MutableCells$Log" "latest" "I", Cond.fieldLink RX2 9 "MutableCells$Log" "threads" "[I", Cond.fieldLink RX2 15 "MutableCells$Log" "places" "[I", Cond.fieldLink RX2 18 "MutableCells$Log" "numbers" "[I", Cond.fieldLink RX2 25 "MutableCells$Log" "count" "I"]
def wsX1_workedOut : List Cond := .code yX1_workedOut cX1_workedOut 7 (some .int) :: ((wsX1_workedOut_r1 ++ wsX1_workedOut_r2) ++ wsX10 ++ wsX20)
def wsX2_tell : List Cond := .code yX2_tell cX2_tell 4 (some .int) :: ([.fieldLink RX2 25 "MutableCells$Log" "count" "I", .fieldLink RX2 21 "MutableCells$Log" "latest" "I", .fieldLink RX2 9 "MutableCells$Log" "threads" "[I", .fieldLink RX2 15 "MutableCells$Log" "places" "[I", .fieldLink RX2 18 "MutableCells$Log" "numbers" "[I"] ++ wsX20)
def wsX3_reset : List Cond := .code yX3_reset cX3_reset 2 none :: ([.fieldLink RX3 9 "MutableCells$Rows" "lengths" "[I", .fieldLink RX3 15 "MutableCells$Rows" "ices" "[Z"] ++ wsX30)
def wsX3_init : List Cond := .code yX3_init cX3_init 1 none :: ([.methodLink RX3 3 objectInit, .instanceMethod objectInit, .code objectInit ⟨#[0xb1]⟩ 1 none, .arrayClass .int, .fieldLink RX3 9 "MutableCells$Rows" "lengths" "[I", .arrayClass .boolean, .fieldLink RX3 15 "MutableCells$Rows" "ices" "[Z", .fieldLink RX3 19 "MutableCells$Rows" "items" "[I", .methodLink RX3 22 yX3_reset, .instanceMethod yX3_reset, .selects RX3 yX3_reset yX3_reset, .initialized RX3, .code yX3_reset cX3_reset 2 none] ++ wsX30)
def wsX5_isRow : List Cond := .code yX5_isRow cX5_isRow 1 (some .boolean) :: ([])
def wsX3_length : List Cond := .code yX3_length cX3_length 2 (some .int) :: ([.fieldLink RX3 9 "MutableCells$Rows" "lengths" "[I", .static yX5_isRow, .initialized RX5, .code yX5_isRow cX5_isRow 1 (some .boolean)] ++ wsX30)
def wsX3_isFrozen : List Cond := .code yX3_isFrozen cX3_isFrozen 2 (some .boolean) :: ([.fieldLink RX3 15 "MutableCells$Rows" "ices" "[Z", .static yX5_isRow, .initialized RX5, .code yX5_isRow cX5_isRow 1 (some .boolean)] ++ wsX30)
def wsX3_hasItem : List Cond := .code yX3_hasItem cX3_hasItem 3 (some .boolean) :: ([.fieldLink RX3 9 "MutableCells$Rows" "lengths" "[I", .static yX5_isRow, .initialized RX5, .code yX5_isRow cX5_isRow 1 (some .boolean)] ++ wsX30)
def wsX3_itemOf : List Cond := .code yX3_itemOf cX3_itemOf 3 (some .int) :: ([.fieldLink RX3 19 "MutableCells$Rows" "items" "[I", .methodLink RX3 29 yX3_hasItem, .instanceMethod yX3_hasItem, .selects RX3 yX3_hasItem yX3_hasItem, .initialized RX3, .code yX3_hasItem cX3_hasItem 3 (some .boolean), .fieldLink RX3 9 "MutableCells$Rows" "lengths" "[I", .static yX5_isRow, .initialized RX5, .code yX5_isRow cX5_isRow 1 (some .boolean)] ++ wsX30)
def wsX3_failureAt : List Cond := .code yX3_failureAt cX3_failureAt 3 (some .int) :: ([.methodLink RX3 33 yX3_length, .instanceMethod yX3_length, .selects RX3 yX3_length yX3_length, .initialized RX3, .code yX3_length cX3_length 2 (some .int), .fieldLink RX3 9 "MutableCells$Rows" "lengths" "[I", .static yX5_isRow, .initialized RX5, .code yX5_isRow cX5_isRow 1 (some .boolean), .methodLink RX3 29 yX3_hasItem, .instanceMethod yX3_hasItem, .selects RX3 yX3_hasItem yX3_hasItem, .code yX3_hasItem cX3_hasItem 3 (some .boolean)] ++ wsX30)
def wsX3_store : List Cond := .code yX3_store cX3_store 5 (some .int) :: ([.fieldLink RX3 19 "MutableCells$Rows" "items" "[I", .methodLink RX3 37 yX3_failureAt, .instanceMethod yX3_failureAt, .selects RX3 yX3_failureAt yX3_failureAt, .initialized RX3, .code yX3_failureAt cX3_failureAt 3 (some .int), .methodLink RX3 33 yX3_length, .instanceMethod yX3_length, .selects RX3 yX3_length yX3_length, .code yX3_length cX3_length 2 (some .int), .fieldLink RX3 9 "MutableCells$Rows" "lengths" "[I", .static yX5_isRow, .initialized RX5, .code yX5_isRow cX5_isRow 1 (some .boolean), .methodLink RX3 29 yX3_hasItem, .instanceMethod yX3_hasItem, .selects RX3 yX3_hasItem yX3_hasItem, .code yX3_hasItem cX3_hasItem 3 (some .boolean), .methodLink RX3 41 yX3_isFrozen, .instanceMethod yX3_isFrozen, .selects RX3 yX3_isFrozen yX3_isFrozen, .code yX3_isFrozen cX3_isFrozen 2 (some .boolean), .fieldLink RX3 15 "MutableCells$Rows" "ices" "[Z"] ++ wsX30)
def wsJ7_rangeCheck_23922 : List Cond := .code yJ7_rangeCheck_23922 cJ7_rangeCheck_23922 3 none :: ([])
def wsJ7_fill_fda19 : List Cond := .code yJ7_fill_fda19 cJ7_fill_fda19 5 none :: ([.methodLink RJ7 13 yJ7_rangeCheck_23922, .static yJ7_rangeCheck_23922, .initialized RJ7, .code yJ7_rangeCheck_23922 cJ7_rangeCheck_23922 3 none])
def wsX3_make : List Cond := .code yX3_make cX3_make 3 (some .int) :: ([.fieldLink RX3 19 "MutableCells$Rows" "items" "[I", .fieldLink RX3 9 "MutableCells$Rows" "lengths" "[I", .fieldLink RX3 15 "MutableCells$Rows" "ices" "[Z", .static yX5_isRow, .initialized RX5, .code yX5_isRow cX5_isRow 1 (some .boolean), .methodLink RX3 44 yJ7_fill_fda19, .static yJ7_fill_fda19, .initialized RJ7, .code yJ7_fill_fda19 cJ7_fill_fda19 5 none, .methodLink RJ7 13 yJ7_rangeCheck_23922, .static yJ7_rangeCheck_23922, .code yJ7_rangeCheck_23922 cJ7_rangeCheck_23922 3 none] ++ wsX30)
def wsX3_freeze : List Cond := .code yX3_freeze cX3_freeze 2 (some .int) :: ([.fieldLink RX3 9 "MutableCells$Rows" "lengths" "[I", .fieldLink RX3 15 "MutableCells$Rows" "ices" "[Z", .static yX5_isRow, .initialized RX5, .code yX5_isRow cX5_isRow 1 (some .boolean)] ++ wsX30)
def wsX4_init : List Cond := .code yX4_init cX4_init 2 none :: ([.methodLink RX4 3 objectInit, .instanceMethod objectInit, .code objectInit ⟨#[0xb1]⟩ 1 none, .arrayClass .int, .fieldLink RX4 9 "MutableCells$Strand" "kinds" "[I", .fieldLink RX4 15 "MutableCells$Strand" "xs" "[I", .fieldLink RX4 18 "MutableCells$Strand" "ys" "[I", .fieldLink RX4 21 "MutableCells$Strand" "zs" "[I", .fieldLink RX4 24 "MutableCells$Strand" "registers" "[I", .fieldLink RX4 27 "MutableCells$Strand" "tryPlaces" "[I", .classLink RX4 30 RX0, .instantiable RX0 8, .initialized RX0, .fieldLink RX4 33 "MutableCells$Strand" "atom" "LMutableCells$Atom;", .fieldLink RX4 37 "MutableCells$Strand" "numbe\x72" "I", .instanceMethod yX0_init, .code yX0_init cX0_init 1 none, .methodLink RX0 3 objectInit, .fieldLink RX0 9 "MutableCells$Atom" "registers" "[I", .arrayClass .boolean, .fieldLink RX0 15 "MutableCells$Atom" "putMarks" "[Z", .fieldLink RX0 19 "MutableCells$Atom" "putNumbers" "[I", .fieldLink RX0 22 "MutableCells$Atom" "readMarks" "[Z", .fieldLink RX0 25 "MutableCells$Atom" "firstNumbers" "[I"] ++ wsX40 ++ wsX00)
def wsX4_reset : List Cond := .code yX4_reset cX4_reset 2 none :: ([.fieldLink RX4 41 "MutableCells$Strand" "acts" "I", .fieldLink RX4 24 "MutableCells$Strand" "registers" "[I", .fieldLink RX4 50 "MutableCells$Strand" "trys" "I", .fieldLink RX4 33 "MutableCells$Strand" "atom" "LMutableCells$Atom;", .fieldLink RX4 57 "MutableCells$Strand" "place" "I", .fieldLink RX4 60 "MutableCells$Strand" "failure" "I", .fieldLink RX4 63 "MutableCells$Strand" "turns" "I", .fieldLink RX4 66 "MutableCells$Strand" "anews" "I", .methodLink RX4 44 yJ7_fill_53178, .static yJ7_fill_53178, .initialized RJ7, .code yJ7_fill_53178 cJ7_fill_53178 4 none] ++ wsX40 ++ wsX00)
def wsX4_append : List Cond := .code yX4_append cX4_append 5 (some .boolean) :: ([.fieldLink RX4 41 "MutableCells$Strand" "acts" "I", .fieldLink RX4 9 "MutableCells$Strand" "kinds" "[I", .fieldLink RX4 15 "MutableCells$Strand" "xs" "[I", .fieldLink RX4 18 "MutableCells$Strand" "ys" "[I", .fieldLink RX4 21 "MutableCells$Strand" "zs" "[I"] ++ wsX40)
def wsX4_state : List Cond := .code yX4_state cX4_state 1 (some .int) :: ([.fieldLink RX4 60 "MutableCells$Strand" "failure" "I", .fieldLink RX4 57 "MutableCells$Strand" "place" "I", .fieldLink RX4 41 "MutableCells$Strand" "acts" "I", .fieldLink RX4 50 "MutableCells$Strand" "trys" "I", .fieldLink RX4 33 "MutableCells$Strand" "atom" "LMutableCells$Atom;"] ++ wsX40 ++ wsX00)
def wsX5_isRegister : List Cond := .code yX5_isRegister cX5_isRegister 1 (some .boolean) :: ([])
def wsX4_held : List Cond := .code yX4_held cX4_held 2 (some .int) :: ([.fieldLink RX4 24 "MutableCells$Strand" "registers" "[I", .static yX5_isRegister, .initialized RX5, .code yX5_isRegister cX5_isRegister 1 (some .boolean)] ++ wsX40)
def wsX4_keep : List Cond := .code yX4_keep cX4_keep 3 none :: ([.fieldLink RX4 24 "MutableCells$Strand" "registers" "[I", .static yX5_isRegister, .initialized RX5, .code yX5_isRegister cX5_isRegister 1 (some .boolean)] ++ wsX40)
def wsX4_divide : List Cond := .code yX4_divide cX4_divide 4 (some .int) :: ([.methodLink RX4 73 yX4_keep, .instanceMethod yX4_keep, .selects RX4 yX4_keep yX4_keep, .initialized RX4, .code yX4_keep cX4_keep 3 none, .fieldLink RX4 24 "MutableCells$Strand" "registers" "[I", .static yX5_isRegister, .initialized RX5, .code yX5_isRegister cX5_isRegister 1 (some .boolean)] ++ wsX40)
def wsX4_beginAtom : List Cond := .code yX4_beginAtom cX4_beginAtom 1 (some .int) :: ([.fieldLink RX4 33 "MutableCells$Strand" "atom" "LMutableCells$Atom;", .fieldLink RX4 85 "MutableCells$Strand" "next" "I", .fieldLink RX4 50 "MutableCells$Strand" "trys" "I", .fieldLink RX4 24 "MutableCells$Strand" "registers" "[I", .methodLink RX4 105 arraycopyName, .native arraycopyName, .static arraycopyName, .initialized "java/lang/System", .methodLink RX4 111 yX0_forget, .instanceMethod yX0_forget, .selects RX0 yX0_forget yX0_forget, .initialized RX0, .code yX0_forget cX0_forget 2 none, .fieldLink RX0 15 "MutableCells$Atom" "putMarks" "[Z", .fieldLink RX0 22 "MutableCells$Atom" "readMarks" "[Z"] ++ wsX40 ++ wsX00)
def wsX4_openTry : List Cond := .code yX4_openTry cX4_openTry 2 (some .int) :: ([.fieldLink RX4 50 "MutableCells$Strand" "trys" "I", .fieldLink RX4 27 "MutableCells$Strand" "tryPlaces" "[I"] ++ wsX40)
def wsX4_closeTry : List Cond := .code yX4_closeTry cX4_closeTry 1 (some .int) :: ([.fieldLink RX4 50 "MutableCells$Strand" "trys" "I", .fieldLink RX4 33 "MutableCells$Strand" "atom" "LMutableCells$Atom;"] ++ wsX40 ++ wsX00)
def wsX4_performAlone_r1 : List Cond := [Cond.fieldLink RX4 85 "MutableCells$Strand" "next" "I", Cond.methodLink RX4 73 yX4_keep, Cond.instanceMethod yX4_keep, Cond.selects RX4 yX4_keep yX4_keep, Cond.initialized RX4, Cond.code yX4_keep cX4_keep 3 none, Cond.fieldLink RX4 24 "MutableCells$Strand" "registers" "[I", Cond.static yX5_isRegister, Cond.initialized RX5, Cond.code yX5_isRegister cX5_isRegister 1 (some .boolean), Cond.methodLink RX4 77 yX4_held, Cond.instanceMethod yX4_held, Cond.selects RX4 yX4_held yX4_held, Cond.code yX4_held cX4_held 2 (some .int), Cond.methodLink RX4 81 yX4_divide, Cond.instanceMethod yX4_divide, Cond.selects RX4 yX4_divide yX4_divide, Cond.code yX4_divide cX4_divide 4 (some .int), Cond.methodLink RX4 88 yX4_beginAtom, Cond.instanceMethod yX4_beginAtom, Cond.selects RX4 yX4_beginAtom yX4_beginAtom, Cond.code yX4_beginAtom cX4_beginAtom 1 (some .int), Cond.fieldLink RX4 33 "MutableCells$Strand" "atom" "LMutableCells$Atom;", Cond.fieldLink RX4 50 "MutableCells$Strand" "trys" "I"]
def wsX4_performAlone_r2 : List Cond := [Cond.methodLink RX4 105 arraycopyName, Cond.native arraycopyName, Cond.static arraycopyName, Cond.initialized "java/lang/System", Cond.methodLink RX4 111 yX0_forget, Cond.instanceMethod yX0_forget, Cond.selects RX0 yX0_forget yX0_forget, Cond.initialized RX0, Cond.code yX0_forget cX0_forget 2 none, Cond.fieldLink RX0 15 "MutableCells$Atom" "putMarks" "[Z", Cond.fieldLink RX0 22 "MutableCells$Atom" "readMarks" "[Z", Cond.methodLink RX4 92 yX4_openTry, Cond.instanceMethod yX4_openTry, Cond.selects RX4 yX4_openTry yX4_openTry, Cond.code yX4_openTry cX4_openTry 2 (some .int), Cond.fieldLink RX4 27 "MutableCells$Strand" "tryPlaces" "[I", Cond.methodLink RX4 95 yX4_closeTry, Cond.instanceMethod yX4_closeTry, Cond.selects RX4 yX4_closeTry yX4_closeTry, Cond.code yX4_closeTry cX4_closeTry 1 (some .int)]
def wsX4_performAlone : List Cond := .code yX4_performAlone cX4_performAlone 5 (some .int) :: ((wsX4_performAlone_r1 ++ wsX4_performAlone_r2) ++ wsX40 ++ wsX00)
def wsX4_beginAnew : List Cond := .code yX4_beginAnew cX4_beginAnew 1 none :: ([.fieldLink RX4 66 "MutableCells$Strand" "anews" "I", .fieldLink RX4 33 "MutableCells$Strand" "atom" "LMutableCells$Atom;", .fieldLink RX4 85 "MutableCells$Strand" "next" "I", .fieldLink RX4 24 "MutableCells$Strand" "registers" "[I", .methodLink RX4 105 arraycopyName, .native arraycopyName, .static arraycopyName, .initialized "java/lang/System", .methodLink RX4 111 yX0_forget, .instanceMethod yX0_forget, .selects RX0 yX0_forget yX0_forget, .initialized RX0, .code yX0_forget cX0_forget 2 none, .fieldLink RX0 15 "MutableCells$Atom" "putMarks" "[Z", .fieldLink RX0 22 "MutableCells$Atom" "readMarks" "[Z"] ++ wsX40 ++ wsX00)
def wsX4_fail : List Cond := .code yX4_fail cX4_fail 2 none :: ([.fieldLink RX4 50 "MutableCells$Strand" "trys" "I", .fieldLink RX4 60 "MutableCells$Strand" "failure" "I", .fieldLink RX4 33 "MutableCells$Strand" "atom" "LMutableCells$Atom;", .fieldLink RX4 27 "MutableCells$Strand" "tryPlaces" "[I", .fieldLink RX4 57 "MutableCells$Strand" "place" "I", .methodLink RX4 73 yX4_keep, .instanceMethod yX4_keep, .selects RX4 yX4_keep yX4_keep, .initialized RX4, .code yX4_keep cX4_keep 3 none, .fieldLink RX4 24 "MutableCells$Strand" "registers" "[I", .static yX5_isRegister, .initialized RX5, .code yX5_isRegister cX5_isRegister 1 (some .boolean)] ++ wsX40 ++ wsX00)
def wsX5_init_r1 : List Cond := [Cond.methodLink RX5 1 objectInit, Cond.instanceMethod objectInit, Cond.code objectInit ⟨#[0xb1]⟩ 1 none, Cond.classLink RX5 7 RX1, Cond.instantiable RX1 4, Cond.initialized RX1, Cond.fieldLink RX5 10 "MutableCells" "cells" "LMutableCells$Cells;", Cond.classLink RX5 16 RX3, Cond.instantiable RX3 3, Cond.initialized RX3, Cond.fieldLink RX5 19 "MutableCells" "rows" "LMutableCells$Rows;", Cond.classLink RX5 23 RX4, Cond.fieldLink RX5 25 "MutableCells" "strands" "[LMutableCells$Strand;", Cond.instantiable RX4 15, Cond.initialized RX4, Cond.methodLink RX5 9 yX1_init, Cond.instanceMethod yX1_init, Cond.code yX1_init cX1_init 1 none, Cond.methodLink RX1 3 objectInit, Cond.arrayClass .int, Cond.fieldLink RX1 9 "MutableCells$Cells" "numbers" "[I", Cond.fieldLink RX1 15 "MutableCells$Cells" "partners" "[I", Cond.fieldLink RX1 18 "MutableCells$Cells" "trail" "[I", Cond.classLink RX1 21 RX2]
def wsX5_init_r2 : List Cond := [Cond.instantiable RX2 5, Cond.initialized RX2, Cond.fieldLink RX1 24 "MutableCells$Cells" "log" "LMutableCells$Log;", Cond.instanceMethod yX2_init, Cond.code yX2_init cX2_init 1 none, Cond.methodLink RX2 3 objectInit, Cond.fieldLink RX2 9 "MutableCells$Log" "threads" "[I", Cond.fieldLink RX2 15 "MutableCells$Log" "places" "[I", Cond.fieldLink RX2 18 "MutableCells$Log" "numbers" "[I", Cond.methodLink RX1 28 yX1_reset, Cond.instanceMethod yX1_reset, Cond.selects RX1 yX1_reset yX1_reset, Cond.code yX1_reset cX1_reset 1 none, Cond.methodLink RX1 31 yJ7_fill_53178, Cond.static yJ7_fill_53178, Cond.initialized RJ7, Cond.code yJ7_fill_53178 cJ7_fill_53178 4 none, Cond.methodLink RX5 18 yX3_init, Cond.instanceMethod yX3_init, Cond.code yX3_init cX3_init 1 none, Cond.methodLink RX3 3 objectInit, Cond.fieldLink RX3 9 "MutableCells$Rows" "lengths" "[I", Cond.arrayClass .boolean, Cond.fieldLink RX3 15 "MutableCells$Rows" "ices" "[Z"]
def wsX5_init_r3 : List Cond := [Cond.fieldLink RX3 19 "MutableCells$Rows" "items" "[I", Cond.methodLink RX3 22 yX3_reset, Cond.instanceMethod yX3_reset, Cond.selects RX3 yX3_reset yX3_reset, Cond.code yX3_reset cX3_reset 2 none, Cond.methodLink RX5 29 yX4_init, Cond.instanceMethod yX4_init, Cond.code yX4_init cX4_init 2 none, Cond.methodLink RX4 3 objectInit, Cond.fieldLink RX4 9 "MutableCells$Strand" "kinds" "[I", Cond.fieldLink RX4 15 "MutableCells$Strand" "xs" "[I", Cond.fieldLink RX4 18 "MutableCells$Strand" "ys" "[I", Cond.fieldLink RX4 21 "MutableCells$Strand" "zs" "[I", Cond.fieldLink RX4 24 "MutableCells$Strand" "registers" "[I", Cond.fieldLink RX4 27 "MutableCells$Strand" "tryPlaces" "[I", Cond.classLink RX4 30 RX0, Cond.instantiable RX0 8, Cond.initialized RX0, Cond.fieldLink RX4 33 "MutableCells$Strand" "atom" "LMutableCells$Atom;", Cond.fieldLink RX4 37 "MutableCells$Strand" "numbe\x72" "I", Cond.instanceMethod yX0_init, Cond.code yX0_init cX0_init 1 none, Cond.methodLink RX0 3 objectInit, Cond.fieldLink RX0 9 "MutableCells$Atom" "registers" "[I"]
def wsX5_init_r4 : List Cond := [Cond.fieldLink RX0 15 "MutableCells$Atom" "putMarks" "[Z", Cond.fieldLink RX0 19 "MutableCells$Atom" "putNumbers" "[I", Cond.fieldLink RX0 22 "MutableCells$Atom" "readMarks" "[Z", Cond.fieldLink RX0 25 "MutableCells$Atom" "firstNumbers" "[I"]
def wsX5_init : List Cond := .code yX5_init cX5_init 2 none :: ((wsX5_init_r1 ++ (wsX5_init_r2 ++ (wsX5_init_r3 ++ wsX5_init_r4))) ++ wsX10 ++ wsX50 ++ wsX30 ++ wsX40 ++ wsX20 ++ wsX00)
def wsX5_strandOf : List Cond := .code yX5_strandOf cX5_strandOf 2 (some (.object "MutableCells$Strand")) :: ([.fieldLink RX5 25 "MutableCells" "strands" "[LMutableCells$Strand;"] ++ wsX50)
def wsX5_isPlace : List Cond := .code yX5_isPlace cX5_isPlace 1 (some .boolean) :: ([])
def wsX5_mayBe : List Cond := .code yX5_mayBe cX5_mayBe 4 (some .boolean) :: ([.methodLink RX5 87 yX5_isRegister, .static yX5_isRegister, .initialized RX5, .code yX5_isRegister cX5_isRegister 1 (some .boolean), .methodLink RX5 95 yX5_isCell, .static yX5_isCell, .code yX5_isCell cX5_isCell 1 (some .boolean), .methodLink RX5 104 yX5_isRow, .static yX5_isRow, .code yX5_isRow cX5_isRow 1 (some .boolean), .methodLink RX5 147 yX5_isPlace, .static yX5_isPlace, .code yX5_isPlace cX5_isPlace 1 (some .boolean)])
def wsX5_act_r1 : List Cond := [Cond.methodLink RX5 32 yX5_strandOf, Cond.instanceMethod yX5_strandOf, Cond.selects RX5 yX5_strandOf yX5_strandOf, Cond.initialized RX5, Cond.code yX5_strandOf cX5_strandOf 2 (some (.object "MutableCells$Strand")), Cond.fieldLink RX5 25 "MutableCells" "strands" "[LMutableCells$Strand;", Cond.methodLink RX5 36 yX5_mayBe, Cond.static yX5_mayBe, Cond.code yX5_mayBe cX5_mayBe 4 (some .boolean), Cond.methodLink RX5 87 yX5_isRegister, Cond.static yX5_isRegister, Cond.code yX5_isRegister cX5_isRegister 1 (some .boolean), Cond.methodLink RX5 95 yX5_isCell, Cond.static yX5_isCell, Cond.code yX5_isCell cX5_isCell 1 (some .boolean), Cond.methodLink RX5 104 yX5_isRow, Cond.static yX5_isRow, Cond.code yX5_isRow cX5_isRow 1 (some .boolean), Cond.methodLink RX5 147 yX5_isPlace, Cond.static yX5_isPlace, Cond.code yX5_isPlace cX5_isPlace 1 (some .boolean), Cond.methodLink RX5 44 yX4_append, Cond.instanceMethod yX4_append, Cond.selects RX4 yX4_append yX4_append]
def wsX5_act_r2 : List Cond := [Cond.initialized RX4, Cond.code yX4_append cX4_append 5 (some .boolean), Cond.fieldLink RX4 41 "MutableCells$Strand" "acts" "I", Cond.fieldLink RX4 9 "MutableCells$Strand" "kinds" "[I", Cond.fieldLink RX4 15 "MutableCells$Strand" "xs" "[I", Cond.fieldLink RX4 18 "MutableCells$Strand" "ys" "[I", Cond.fieldLink RX4 21 "MutableCells$Strand" "zs" "[I"]
def wsX5_act : List Cond := .code yX5_act cX5_act 7 (some .int) :: ((wsX5_act_r1 ++ wsX5_act_r2) ++ wsX40 ++ wsX50)
def wsX5_isBarredFromAtoms : List Cond := .code yX5_isBarredFromAtoms cX5_isBarredFromAtoms 1 (some .boolean) :: ([])
def wsX5_failureOfReading_r1 : List Cond := [Cond.fieldLink RX5 10 "MutableCells" "cells" "LMutableCells$Cells;", Cond.methodLink RX5 101 yX1_isLazy, Cond.instanceMethod yX1_isLazy, Cond.selects RX1 yX1_isLazy yX1_isLazy, Cond.initialized RX1, Cond.code yX1_isLazy cX1_isLazy 2 (some .boolean), Cond.fieldLink RX1 15 "MutableCells$Cells" "partners" "[I", Cond.static yX5_isCell, Cond.initialized RX5, Cond.code yX5_isCell cX5_isCell 1 (some .boolean), Cond.methodLink RX5 227 yX0_hasPut, Cond.instanceMethod yX0_hasPut, Cond.selects RX0 yX0_hasPut yX0_hasPut, Cond.initialized RX0, Cond.code yX0_hasPut cX0_hasPut 2 (some .boolean), Cond.fieldLink RX0 15 "MutableCells$Atom" "putMarks" "[Z", Cond.methodLink RX5 230 yX1_leadsToRing, Cond.instanceMethod yX1_leadsToRing, Cond.selects RX1 yX1_leadsToRing yX1_leadsToRing, Cond.code yX1_leadsToRing cX1_leadsToRing 4 (some .boolean), Cond.methodLink RX1 53 yX1_isLazy, Cond.methodLink RX1 56 yX1_shown, Cond.instanceMethod yX1_shown, Cond.selects RX1 yX1_shown yX1_shown]
def wsX5_failureOfReading_r2 : List Cond := [Cond.code yX1_shown cX1_shown 2 (some .int), Cond.fieldLink RX1 9 "MutableCells$Cells" "numbers" "[I"]
def wsX5_failureOfReading : List Cond := .code yX5_failureOfReading cX5_failureOfReading 3 (some .int) :: ((wsX5_failureOfReading_r1 ++ wsX5_failureOfReading_r2) ++ wsX40 ++ wsX00 ++ wsX50 ++ wsX10)
def wsX5_readCell_r1 : List Cond := [Cond.fieldLink RX5 10 "MutableCells" "cells" "LMutableCells$Cells;", Cond.methodLink RX5 236 yX1_workedOut, Cond.instanceMethod yX1_workedOut, Cond.selects RX1 yX1_workedOut yX1_workedOut, Cond.initialized RX1, Cond.code yX1_workedOut cX1_workedOut 7 (some .int), Cond.fieldLink RX1 18 "MutableCells$Cells" "trail" "[I", Cond.methodLink RX1 53 yX1_isLazy, Cond.instanceMethod yX1_isLazy, Cond.selects RX1 yX1_isLazy yX1_isLazy, Cond.code yX1_isLazy cX1_isLazy 2 (some .boolean), Cond.fieldLink RX1 15 "MutableCells$Cells" "partners" "[I", Cond.static yX5_isCell, Cond.initialized RX5, Cond.code yX5_isCell cX5_isCell 1 (some .boolean), Cond.methodLink RX1 56 yX1_shown, Cond.instanceMethod yX1_shown, Cond.selects RX1 yX1_shown yX1_shown, Cond.code yX1_shown cX1_shown 2 (some .int), Cond.fieldLink RX1 9 "MutableCells$Cells" "numbers" "[I", Cond.methodLink RX1 60 yX1_count, Cond.instanceMethod yX1_count, Cond.selects RX1 yX1_count yX1_count, Cond.code yX1_count cX1_count 4 none]
def wsX5_readCell_r2 : List Cond := [Cond.fieldLink RX1 24 "MutableCells$Cells" "log" "LMutableCells$Log;", Cond.methodLink RX1 45 yX1_hold, Cond.instanceMethod yX1_hold, Cond.selects RX1 yX1_hold yX1_hold, Cond.code yX1_hold cX1_hold 3 none, Cond.methodLink RX1 49 yX2_add, Cond.instanceMethod yX2_add, Cond.selects RX2 yX2_add yX2_add, Cond.initialized RX2, Cond.code yX2_add cX2_add 4 none, Cond.fieldLink RX2 21 "MutableCells$Log" "latest" "I", Cond.fieldLink RX2 9 "MutableCells$Log" "threads" "[I", Cond.fieldLink RX2 15 "MutableCells$Log" "places" "[I", Cond.fieldLink RX2 18 "MutableCells$Log" "numbers" "[I", Cond.fieldLink RX2 25 "MutableCells$Log" "count" "I", Cond.methodLink RX5 227 yX0_hasPut, Cond.instanceMethod yX0_hasPut, Cond.selects RX0 yX0_hasPut yX0_hasPut, Cond.initialized RX0, Cond.code yX0_hasPut cX0_hasPut 2 (some .boolean), Cond.fieldLink RX0 15 "MutableCells$Atom" "putMarks" "[Z", Cond.methodLink RX5 239 yX0_putNumber, Cond.instanceMethod yX0_putNumber, Cond.selects RX0 yX0_putNumber yX0_putNumber]
def wsX5_readCell_r3 : List Cond := [Cond.code yX0_putNumber cX0_putNumber 2 (some .int), Cond.fieldLink RX0 19 "MutableCells$Atom" "putNumbers" "[I", Cond.methodLink RX5 98 yX1_shown, Cond.methodLink RX5 242 yX0_noteReading, Cond.instanceMethod yX0_noteReading, Cond.selects RX0 yX0_noteReading yX0_noteReading, Cond.code yX0_noteReading cX0_noteReading 3 none, Cond.fieldLink RX0 22 "MutableCells$Atom" "readMarks" "[Z", Cond.fieldLink RX0 25 "MutableCells$Atom" "firstNumbers" "[I"]
def wsX5_readCell : List Cond := .code yX5_readCell cX5_readCell 4 (some .int) :: ((wsX5_readCell_r1 ++ (wsX5_readCell_r2 ++ wsX5_readCell_r3)) ++ wsX40 ++ wsX00 ++ wsX50 ++ wsX10 ++ wsX20)
def wsX5_getCell_r1 : List Cond := [Cond.methodLink RX5 220 yX5_failureOfReading, Cond.instanceMethod yX5_failureOfReading, Cond.selects RX5 yX5_failureOfReading yX5_failureOfReading, Cond.initialized RX5, Cond.code yX5_failureOfReading cX5_failureOfReading 3 (some .int), Cond.fieldLink RX5 10 "MutableCells" "cells" "LMutableCells$Cells;", Cond.methodLink RX5 101 yX1_isLazy, Cond.instanceMethod yX1_isLazy, Cond.selects RX1 yX1_isLazy yX1_isLazy, Cond.initialized RX1, Cond.code yX1_isLazy cX1_isLazy 2 (some .boolean), Cond.fieldLink RX1 15 "MutableCells$Cells" "partners" "[I", Cond.static yX5_isCell, Cond.code yX5_isCell cX5_isCell 1 (some .boolean), Cond.methodLink RX5 227 yX0_hasPut, Cond.instanceMethod yX0_hasPut, Cond.selects RX0 yX0_hasPut yX0_hasPut, Cond.initialized RX0, Cond.code yX0_hasPut cX0_hasPut 2 (some .boolean), Cond.fieldLink RX0 15 "MutableCells$Atom" "putMarks" "[Z", Cond.methodLink RX5 230 yX1_leadsToRing, Cond.instanceMethod yX1_leadsToRing, Cond.selects RX1 yX1_leadsToRing yX1_leadsToRing, Cond.code yX1_leadsToRing cX1_leadsToRing 4 (some .boolean)]
def wsX5_getCell_r2 : List Cond := [Cond.methodLink RX1 53 yX1_isLazy, Cond.methodLink RX1 56 yX1_shown, Cond.instanceMethod yX1_shown, Cond.selects RX1 yX1_shown yX1_shown, Cond.code yX1_shown cX1_shown 2 (some .int), Cond.fieldLink RX1 9 "MutableCells$Cells" "numbers" "[I", Cond.methodLink RX5 224 yX5_readCell, Cond.instanceMethod yX5_readCell, Cond.selects RX5 yX5_readCell yX5_readCell, Cond.code yX5_readCell cX5_readCell 4 (some .int), Cond.methodLink RX5 236 yX1_workedOut, Cond.instanceMethod yX1_workedOut, Cond.selects RX1 yX1_workedOut yX1_workedOut, Cond.code yX1_workedOut cX1_workedOut 7 (some .int), Cond.fieldLink RX1 18 "MutableCells$Cells" "trail" "[I", Cond.methodLink RX1 60 yX1_count, Cond.instanceMethod yX1_count, Cond.selects RX1 yX1_count yX1_count, Cond.code yX1_count cX1_count 4 none, Cond.fieldLink RX1 24 "MutableCells$Cells" "log" "LMutableCells$Log;", Cond.methodLink RX1 45 yX1_hold, Cond.instanceMethod yX1_hold, Cond.selects RX1 yX1_hold yX1_hold, Cond.code yX1_hold cX1_hold 3 none]
def wsX5_getCell_r3 : List Cond := [Cond.methodLink RX1 49 yX2_add, Cond.instanceMethod yX2_add, Cond.selects RX2 yX2_add yX2_add, Cond.initialized RX2, Cond.code yX2_add cX2_add 4 none, Cond.fieldLink RX2 21 "MutableCells$Log" "latest" "I", Cond.fieldLink RX2 9 "MutableCells$Log" "threads" "[I", Cond.fieldLink RX2 15 "MutableCells$Log" "places" "[I", Cond.fieldLink RX2 18 "MutableCells$Log" "numbers" "[I", Cond.fieldLink RX2 25 "MutableCells$Log" "count" "I", Cond.methodLink RX5 239 yX0_putNumber, Cond.instanceMethod yX0_putNumber, Cond.selects RX0 yX0_putNumber yX0_putNumber, Cond.code yX0_putNumber cX0_putNumber 2 (some .int), Cond.fieldLink RX0 19 "MutableCells$Atom" "putNumbers" "[I", Cond.methodLink RX5 98 yX1_shown, Cond.methodLink RX5 242 yX0_noteReading, Cond.instanceMethod yX0_noteReading, Cond.selects RX0 yX0_noteReading yX0_noteReading, Cond.code yX0_noteReading cX0_noteReading 3 none, Cond.fieldLink RX0 22 "MutableCells$Atom" "readMarks" "[Z", Cond.fieldLink RX0 25 "MutableCells$Atom" "firstNumbers" "[I", Cond.methodLink RX5 217 yX4_keep, Cond.instanceMethod yX4_keep]
def wsX5_getCell_r4 : List Cond := [Cond.selects RX4 yX4_keep yX4_keep, Cond.initialized RX4, Cond.code yX4_keep cX4_keep 3 none, Cond.fieldLink RX4 24 "MutableCells$Strand" "registers" "[I", Cond.static yX5_isRegister, Cond.code yX5_isRegister cX5_isRegister 1 (some .boolean)]
def wsX5_getCell : List Cond := .code yX5_getCell cX5_getCell 5 (some .int) :: ((wsX5_getCell_r1 ++ (wsX5_getCell_r2 ++ (wsX5_getCell_r3 ++ wsX5_getCell_r4))) ++ wsX40 ++ wsX00 ++ wsX50 ++ wsX10 ++ wsX20)
def wsX5_putCell_r1 : List Cond := [Cond.fieldLink RX5 10 "MutableCells" "cells" "LMutableCells$Cells;", Cond.methodLink RX5 245 yX0_notePut, Cond.instanceMethod yX0_notePut, Cond.selects RX0 yX0_notePut yX0_notePut, Cond.initialized RX0, Cond.code yX0_notePut cX0_notePut 3 none, Cond.fieldLink RX0 15 "MutableCells$Atom" "putMarks" "[Z", Cond.fieldLink RX0 19 "MutableCells$Atom" "putNumbers" "[I", Cond.static yX5_isCell, Cond.initialized RX5, Cond.code yX5_isCell cX5_isCell 1 (some .boolean), Cond.methodLink RX5 248 yX1_count, Cond.instanceMethod yX1_count, Cond.selects RX1 yX1_count yX1_count, Cond.initialized RX1, Cond.code yX1_count cX1_count 4 none, Cond.fieldLink RX1 24 "MutableCells$Cells" "log" "LMutableCells$Log;", Cond.methodLink RX1 45 yX1_hold, Cond.instanceMethod yX1_hold, Cond.selects RX1 yX1_hold yX1_hold, Cond.code yX1_hold cX1_hold 3 none, Cond.fieldLink RX1 9 "MutableCells$Cells" "numbers" "[I", Cond.fieldLink RX1 15 "MutableCells$Cells" "partners" "[I", Cond.methodLink RX1 49 yX2_add]
def wsX5_putCell_r2 : List Cond := [Cond.instanceMethod yX2_add, Cond.selects RX2 yX2_add yX2_add, Cond.initialized RX2, Cond.code yX2_add cX2_add 4 none, Cond.fieldLink RX2 21 "MutableCells$Log" "latest" "I", Cond.fieldLink RX2 9 "MutableCells$Log" "threads" "[I", Cond.fieldLink RX2 15 "MutableCells$Log" "places" "[I", Cond.fieldLink RX2 18 "MutableCells$Log" "numbers" "[I", Cond.fieldLink RX2 25 "MutableCells$Log" "count" "I"]
def wsX5_putCell : List Cond := .code yX5_putCell cX5_putCell 4 none :: ((wsX5_putCell_r1 ++ wsX5_putCell_r2) ++ wsX40 ++ wsX00 ++ wsX50 ++ wsX10 ++ wsX20)
def wsX5_loadItem_r1 : List Cond := [Cond.fieldLink RX5 19 "MutableCells" "rows" "LMutableCells$Rows;", Cond.methodLink RX5 214 yX3_failureAt, Cond.instanceMethod yX3_failureAt, Cond.selects RX3 yX3_failureAt yX3_failureAt, Cond.initialized RX3, Cond.code yX3_failureAt cX3_failureAt 3 (some .int), Cond.methodLink RX3 33 yX3_length, Cond.instanceMethod yX3_length, Cond.selects RX3 yX3_length yX3_length, Cond.code yX3_length cX3_length 2 (some .int), Cond.fieldLink RX3 9 "MutableCells$Rows" "lengths" "[I", Cond.static yX5_isRow, Cond.initialized RX5, Cond.code yX5_isRow cX5_isRow 1 (some .boolean), Cond.methodLink RX3 29 yX3_hasItem, Cond.instanceMethod yX3_hasItem, Cond.selects RX3 yX3_hasItem yX3_hasItem, Cond.code yX3_hasItem cX3_hasItem 3 (some .boolean), Cond.methodLink RX5 110 yX3_itemOf, Cond.instanceMethod yX3_itemOf, Cond.selects RX3 yX3_itemOf yX3_itemOf, Cond.code yX3_itemOf cX3_itemOf 3 (some .int), Cond.fieldLink RX3 19 "MutableCells$Rows" "items" "[I", Cond.methodLink RX5 217 yX4_keep]
def wsX5_loadItem_r2 : List Cond := [Cond.instanceMethod yX4_keep, Cond.selects RX4 yX4_keep yX4_keep, Cond.initialized RX4, Cond.code yX4_keep cX4_keep 3 none, Cond.fieldLink RX4 24 "MutableCells$Strand" "registers" "[I", Cond.static yX5_isRegister, Cond.code yX5_isRegister cX5_isRegister 1 (some .boolean)]
def wsX5_loadItem : List Cond := .code yX5_loadItem cX5_loadItem 6 (some .int) :: ((wsX5_loadItem_r1 ++ wsX5_loadItem_r2) ++ wsX50 ++ wsX30 ++ wsX40)
def wsX5_swapCell_r1 : List Cond := [Cond.methodLink RX5 220 yX5_failureOfReading, Cond.instanceMethod yX5_failureOfReading, Cond.selects RX5 yX5_failureOfReading yX5_failureOfReading, Cond.initialized RX5, Cond.code yX5_failureOfReading cX5_failureOfReading 3 (some .int), Cond.fieldLink RX5 10 "MutableCells" "cells" "LMutableCells$Cells;", Cond.methodLink RX5 101 yX1_isLazy, Cond.instanceMethod yX1_isLazy, Cond.selects RX1 yX1_isLazy yX1_isLazy, Cond.initialized RX1, Cond.code yX1_isLazy cX1_isLazy 2 (some .boolean), Cond.fieldLink RX1 15 "MutableCells$Cells" "partners" "[I", Cond.static yX5_isCell, Cond.code yX5_isCell cX5_isCell 1 (some .boolean), Cond.methodLink RX5 227 yX0_hasPut, Cond.instanceMethod yX0_hasPut, Cond.selects RX0 yX0_hasPut yX0_hasPut, Cond.initialized RX0, Cond.code yX0_hasPut cX0_hasPut 2 (some .boolean), Cond.fieldLink RX0 15 "MutableCells$Atom" "putMarks" "[Z", Cond.methodLink RX5 230 yX1_leadsToRing, Cond.instanceMethod yX1_leadsToRing, Cond.selects RX1 yX1_leadsToRing yX1_leadsToRing, Cond.code yX1_leadsToRing cX1_leadsToRing 4 (some .boolean)]
def wsX5_swapCell_r2 : List Cond := [Cond.methodLink RX1 53 yX1_isLazy, Cond.methodLink RX1 56 yX1_shown, Cond.instanceMethod yX1_shown, Cond.selects RX1 yX1_shown yX1_shown, Cond.code yX1_shown cX1_shown 2 (some .int), Cond.fieldLink RX1 9 "MutableCells$Cells" "numbers" "[I", Cond.methodLink RX5 224 yX5_readCell, Cond.instanceMethod yX5_readCell, Cond.selects RX5 yX5_readCell yX5_readCell, Cond.code yX5_readCell cX5_readCell 4 (some .int), Cond.methodLink RX5 236 yX1_workedOut, Cond.instanceMethod yX1_workedOut, Cond.selects RX1 yX1_workedOut yX1_workedOut, Cond.code yX1_workedOut cX1_workedOut 7 (some .int), Cond.fieldLink RX1 18 "MutableCells$Cells" "trail" "[I", Cond.methodLink RX1 60 yX1_count, Cond.instanceMethod yX1_count, Cond.selects RX1 yX1_count yX1_count, Cond.code yX1_count cX1_count 4 none, Cond.fieldLink RX1 24 "MutableCells$Cells" "log" "LMutableCells$Log;", Cond.methodLink RX1 45 yX1_hold, Cond.instanceMethod yX1_hold, Cond.selects RX1 yX1_hold yX1_hold, Cond.code yX1_hold cX1_hold 3 none]
def wsX5_swapCell_r3 : List Cond := [Cond.methodLink RX1 49 yX2_add, Cond.instanceMethod yX2_add, Cond.selects RX2 yX2_add yX2_add, Cond.initialized RX2, Cond.code yX2_add cX2_add 4 none, Cond.fieldLink RX2 21 "MutableCells$Log" "latest" "I", Cond.fieldLink RX2 9 "MutableCells$Log" "threads" "[I", Cond.fieldLink RX2 15 "MutableCells$Log" "places" "[I", Cond.fieldLink RX2 18 "MutableCells$Log" "numbers" "[I", Cond.fieldLink RX2 25 "MutableCells$Log" "count" "I", Cond.methodLink RX5 239 yX0_putNumber, Cond.instanceMethod yX0_putNumber, Cond.selects RX0 yX0_putNumber yX0_putNumber, Cond.code yX0_putNumber cX0_putNumber 2 (some .int), Cond.fieldLink RX0 19 "MutableCells$Atom" "putNumbers" "[I", Cond.methodLink RX5 98 yX1_shown, Cond.methodLink RX5 242 yX0_noteReading, Cond.instanceMethod yX0_noteReading, Cond.selects RX0 yX0_noteReading yX0_noteReading, Cond.code yX0_noteReading cX0_noteReading 3 none, Cond.fieldLink RX0 22 "MutableCells$Atom" "readMarks" "[Z", Cond.fieldLink RX0 25 "MutableCells$Atom" "firstNumbers" "[I", Cond.methodLink RX5 91 yX4_held, Cond.instanceMethod yX4_held]
def wsX5_swapCell_r4 : List Cond := [Cond.selects RX4 yX4_held yX4_held, Cond.initialized RX4, Cond.code yX4_held cX4_held 2 (some .int), Cond.fieldLink RX4 24 "MutableCells$Strand" "registers" "[I", Cond.static yX5_isRegister, Cond.code yX5_isRegister cX5_isRegister 1 (some .boolean), Cond.methodLink RX5 183 yX5_putCell, Cond.instanceMethod yX5_putCell, Cond.selects RX5 yX5_putCell yX5_putCell, Cond.code yX5_putCell cX5_putCell 4 none, Cond.methodLink RX5 245 yX0_notePut, Cond.instanceMethod yX0_notePut, Cond.selects RX0 yX0_notePut yX0_notePut, Cond.code yX0_notePut cX0_notePut 3 none, Cond.methodLink RX5 248 yX1_count, Cond.methodLink RX5 217 yX4_keep, Cond.instanceMethod yX4_keep, Cond.selects RX4 yX4_keep yX4_keep, Cond.code yX4_keep cX4_keep 3 none]
def wsX5_swapCell : List Cond := .code yX5_swapCell cX5_swapCell 7 (some .int) :: ((wsX5_swapCell_r1 ++ (wsX5_swapCell_r2 ++ (wsX5_swapCell_r3 ++ wsX5_swapCell_r4))) ++ wsX40 ++ wsX00 ++ wsX50 ++ wsX10 ++ wsX20)
def wsX5_isOvertaken_r1 : List Cond := [Cond.fieldLink RX5 10 "MutableCells" "cells" "LMutableCells$Cells;", Cond.methodLink RX5 261 yX0_hasRead, Cond.instanceMethod yX0_hasRead, Cond.selects RX0 yX0_hasRead yX0_hasRead, Cond.initialized RX0, Cond.code yX0_hasRead cX0_hasRead 2 (some .boolean), Cond.fieldLink RX0 22 "MutableCells$Atom" "readMarks" "[Z", Cond.static yX5_isCell, Cond.initialized RX5, Cond.code yX5_isCell cX5_isCell 1 (some .boolean), Cond.methodLink RX5 101 yX1_isLazy, Cond.instanceMethod yX1_isLazy, Cond.selects RX1 yX1_isLazy yX1_isLazy, Cond.initialized RX1, Cond.code yX1_isLazy cX1_isLazy 2 (some .boolean), Cond.fieldLink RX1 15 "MutableCells$Cells" "partners" "[I", Cond.methodLink RX5 98 yX1_shown, Cond.instanceMethod yX1_shown, Cond.selects RX1 yX1_shown yX1_shown, Cond.code yX1_shown cX1_shown 2 (some .int), Cond.fieldLink RX1 9 "MutableCells$Cells" "numbers" "[I", Cond.methodLink RX5 264 yX0_firstNumber, Cond.instanceMethod yX0_firstNumber, Cond.selects RX0 yX0_firstNumber yX0_firstNumber]
def wsX5_isOvertaken_r2 : List Cond := [Cond.code yX0_firstNumber cX0_firstNumber 2 (some .int), Cond.fieldLink RX0 25 "MutableCells$Atom" "firstNumbers" "[I"]
def wsX5_isOvertaken : List Cond := .code yX5_isOvertaken cX5_isOvertaken 3 (some .boolean) :: ((wsX5_isOvertaken_r1 ++ wsX5_isOvertaken_r2) ++ wsX50 ++ wsX00 ++ wsX10)
def wsX5_endAtom_r1 : List Cond := [Cond.fieldLink RX5 10 "MutableCells" "cells" "LMutableCells$Cells;", Cond.methodLink RX5 254 yX5_isOvertaken, Cond.instanceMethod yX5_isOvertaken, Cond.selects RX5 yX5_isOvertaken yX5_isOvertaken, Cond.initialized RX5, Cond.code yX5_isOvertaken cX5_isOvertaken 3 (some .boolean), Cond.methodLink RX5 261 yX0_hasRead, Cond.instanceMethod yX0_hasRead, Cond.selects RX0 yX0_hasRead yX0_hasRead, Cond.initialized RX0, Cond.code yX0_hasRead cX0_hasRead 2 (some .boolean), Cond.fieldLink RX0 22 "MutableCells$Atom" "readMarks" "[Z", Cond.static yX5_isCell, Cond.code yX5_isCell cX5_isCell 1 (some .boolean), Cond.methodLink RX5 101 yX1_isLazy, Cond.instanceMethod yX1_isLazy, Cond.selects RX1 yX1_isLazy yX1_isLazy, Cond.initialized RX1, Cond.code yX1_isLazy cX1_isLazy 2 (some .boolean), Cond.fieldLink RX1 15 "MutableCells$Cells" "partners" "[I", Cond.methodLink RX5 98 yX1_shown, Cond.instanceMethod yX1_shown, Cond.selects RX1 yX1_shown yX1_shown, Cond.code yX1_shown cX1_shown 2 (some .int)]
def wsX5_endAtom_r2 : List Cond := [Cond.fieldLink RX1 9 "MutableCells$Cells" "numbers" "[I", Cond.methodLink RX5 264 yX0_firstNumber, Cond.instanceMethod yX0_firstNumber, Cond.selects RX0 yX0_firstNumber yX0_firstNumber, Cond.code yX0_firstNumber cX0_firstNumber 2 (some .int), Cond.fieldLink RX0 25 "MutableCells$Atom" "firstNumbers" "[I", Cond.methodLink RX5 258 yX4_beginAnew, Cond.instanceMethod yX4_beginAnew, Cond.selects RX4 yX4_beginAnew yX4_beginAnew, Cond.initialized RX4, Cond.code yX4_beginAnew cX4_beginAnew 1 none, Cond.fieldLink RX4 66 "MutableCells$Strand" "anews" "I", Cond.fieldLink RX4 33 "MutableCells$Strand" "atom" "LMutableCells$Atom;", Cond.fieldLink RX4 85 "MutableCells$Strand" "next" "I", Cond.fieldLink RX4 24 "MutableCells$Strand" "registers" "[I", Cond.methodLink RX4 105 arraycopyName, Cond.native arraycopyName, Cond.static arraycopyName, Cond.initialized "java/lang/System", Cond.methodLink RX4 111 yX0_forget, Cond.instanceMethod yX0_forget, Cond.selects RX0 yX0_forget yX0_forget, Cond.code yX0_forget cX0_forget 2 none, Cond.fieldLink RX0 15 "MutableCells$Atom" "putMarks" "[Z"]
def wsX5_endAtom_r3 : List Cond := [Cond.methodLink RX5 227 yX0_hasPut, Cond.instanceMethod yX0_hasPut, Cond.selects RX0 yX0_hasPut yX0_hasPut, Cond.code yX0_hasPut cX0_hasPut 2 (some .boolean), Cond.methodLink RX5 239 yX0_putNumber, Cond.instanceMethod yX0_putNumber, Cond.selects RX0 yX0_putNumber yX0_putNumber, Cond.code yX0_putNumber cX0_putNumber 2 (some .int), Cond.fieldLink RX0 19 "MutableCells$Atom" "putNumbers" "[I", Cond.methodLink RX5 248 yX1_count, Cond.instanceMethod yX1_count, Cond.selects RX1 yX1_count yX1_count, Cond.code yX1_count cX1_count 4 none, Cond.fieldLink RX1 24 "MutableCells$Cells" "log" "LMutableCells$Log;", Cond.methodLink RX1 45 yX1_hold, Cond.instanceMethod yX1_hold, Cond.selects RX1 yX1_hold yX1_hold, Cond.code yX1_hold cX1_hold 3 none, Cond.methodLink RX1 49 yX2_add, Cond.instanceMethod yX2_add, Cond.selects RX2 yX2_add yX2_add, Cond.initialized RX2, Cond.code yX2_add cX2_add 4 none, Cond.fieldLink RX2 21 "MutableCells$Log" "latest" "I"]
def wsX5_endAtom_r4 : List Cond := [Cond.fieldLink RX2 9 "MutableCells$Log" "threads" "[I", Cond.fieldLink RX2 15 "MutableCells$Log" "places" "[I", Cond.fieldLink RX2 18 "MutableCells$Log" "numbers" "[I", Cond.fieldLink RX2 25 "MutableCells$Log" "count" "I"]
def wsX5_endAtom : List Cond := .code yX5_endAtom cX5_endAtom 4 (some .int) :: ((wsX5_endAtom_r1 ++ (wsX5_endAtom_r2 ++ (wsX5_endAtom_r3 ++ wsX5_endAtom_r4))) ++ wsX40 ++ wsX00 ++ wsX50 ++ wsX10 ++ wsX20)
def wsX5_perform_r1 : List Cond := [Cond.fieldLink RX5 19 "MutableCells" "rows" "LMutableCells$Rows;", Cond.fieldLink RX5 10 "MutableCells" "cells" "LMutableCells$Cells;", Cond.methodLink RX5 176 yX5_isBarredFromAtoms, Cond.static yX5_isBarredFromAtoms, Cond.initialized RX5, Cond.code yX5_isBarredFromAtoms cX5_isBarredFromAtoms 1 (some .boolean), Cond.methodLink RX5 179 yX5_getCell, Cond.instanceMethod yX5_getCell, Cond.selects RX5 yX5_getCell yX5_getCell, Cond.code yX5_getCell cX5_getCell 5 (some .int), Cond.methodLink RX5 220 yX5_failureOfReading, Cond.instanceMethod yX5_failureOfReading, Cond.selects RX5 yX5_failureOfReading yX5_failureOfReading, Cond.code yX5_failureOfReading cX5_failureOfReading 3 (some .int), Cond.methodLink RX5 101 yX1_isLazy, Cond.instanceMethod yX1_isLazy, Cond.selects RX1 yX1_isLazy yX1_isLazy, Cond.initialized RX1, Cond.code yX1_isLazy cX1_isLazy 2 (some .boolean), Cond.fieldLink RX1 15 "MutableCells$Cells" "partners" "[I", Cond.static yX5_isCell, Cond.code yX5_isCell cX5_isCell 1 (some .boolean), Cond.methodLink RX5 227 yX0_hasPut, Cond.instanceMethod yX0_hasPut]
def wsX5_perform_r2 : List Cond := [Cond.selects RX0 yX0_hasPut yX0_hasPut, Cond.initialized RX0, Cond.code yX0_hasPut cX0_hasPut 2 (some .boolean), Cond.fieldLink RX0 15 "MutableCells$Atom" "putMarks" "[Z", Cond.methodLink RX5 230 yX1_leadsToRing, Cond.instanceMethod yX1_leadsToRing, Cond.selects RX1 yX1_leadsToRing yX1_leadsToRing, Cond.code yX1_leadsToRing cX1_leadsToRing 4 (some .boolean), Cond.methodLink RX1 53 yX1_isLazy, Cond.methodLink RX1 56 yX1_shown, Cond.instanceMethod yX1_shown, Cond.selects RX1 yX1_shown yX1_shown, Cond.code yX1_shown cX1_shown 2 (some .int), Cond.fieldLink RX1 9 "MutableCells$Cells" "numbers" "[I", Cond.methodLink RX5 224 yX5_readCell, Cond.instanceMethod yX5_readCell, Cond.selects RX5 yX5_readCell yX5_readCell, Cond.code yX5_readCell cX5_readCell 4 (some .int), Cond.methodLink RX5 236 yX1_workedOut, Cond.instanceMethod yX1_workedOut, Cond.selects RX1 yX1_workedOut yX1_workedOut, Cond.code yX1_workedOut cX1_workedOut 7 (some .int), Cond.fieldLink RX1 18 "MutableCells$Cells" "trail" "[I", Cond.methodLink RX1 60 yX1_count]
def wsX5_perform_r3 : List Cond := [Cond.instanceMethod yX1_count, Cond.selects RX1 yX1_count yX1_count, Cond.code yX1_count cX1_count 4 none, Cond.fieldLink RX1 24 "MutableCells$Cells" "log" "LMutableCells$Log;", Cond.methodLink RX1 45 yX1_hold, Cond.instanceMethod yX1_hold, Cond.selects RX1 yX1_hold yX1_hold, Cond.code yX1_hold cX1_hold 3 none, Cond.methodLink RX1 49 yX2_add, Cond.instanceMethod yX2_add, Cond.selects RX2 yX2_add yX2_add, Cond.initialized RX2, Cond.code yX2_add cX2_add 4 none, Cond.fieldLink RX2 21 "MutableCells$Log" "latest" "I", Cond.fieldLink RX2 9 "MutableCells$Log" "threads" "[I", Cond.fieldLink RX2 15 "MutableCells$Log" "places" "[I", Cond.fieldLink RX2 18 "MutableCells$Log" "numbers" "[I", Cond.fieldLink RX2 25 "MutableCells$Log" "count" "I", Cond.methodLink RX5 239 yX0_putNumber, Cond.instanceMethod yX0_putNumber, Cond.selects RX0 yX0_putNumber yX0_putNumber, Cond.code yX0_putNumber cX0_putNumber 2 (some .int), Cond.fieldLink RX0 19 "MutableCells$Atom" "putNumbers" "[I", Cond.methodLink RX5 98 yX1_shown]
def wsX5_perform_r4 : List Cond := [Cond.methodLink RX5 242 yX0_noteReading, Cond.instanceMethod yX0_noteReading, Cond.selects RX0 yX0_noteReading yX0_noteReading, Cond.code yX0_noteReading cX0_noteReading 3 none, Cond.fieldLink RX0 22 "MutableCells$Atom" "readMarks" "[Z", Cond.fieldLink RX0 25 "MutableCells$Atom" "firstNumbers" "[I", Cond.methodLink RX5 217 yX4_keep, Cond.instanceMethod yX4_keep, Cond.selects RX4 yX4_keep yX4_keep, Cond.initialized RX4, Cond.code yX4_keep cX4_keep 3 none, Cond.fieldLink RX4 24 "MutableCells$Strand" "registers" "[I", Cond.static yX5_isRegister, Cond.code yX5_isRegister cX5_isRegister 1 (some .boolean), Cond.methodLink RX5 91 yX4_held, Cond.instanceMethod yX4_held, Cond.selects RX4 yX4_held yX4_held, Cond.code yX4_held cX4_held 2 (some .int), Cond.methodLink RX5 183 yX5_putCell, Cond.instanceMethod yX5_putCell, Cond.selects RX5 yX5_putCell yX5_putCell, Cond.code yX5_putCell cX5_putCell 4 none, Cond.methodLink RX5 245 yX0_notePut, Cond.instanceMethod yX0_notePut]
def wsX5_perform_r5 : List Cond := [Cond.selects RX0 yX0_notePut yX0_notePut, Cond.code yX0_notePut cX0_notePut 3 none, Cond.methodLink RX5 248 yX1_count, Cond.methodLink RX5 187 yX5_loadItem, Cond.instanceMethod yX5_loadItem, Cond.selects RX5 yX5_loadItem yX5_loadItem, Cond.code yX5_loadItem cX5_loadItem 6 (some .int), Cond.methodLink RX5 214 yX3_failureAt, Cond.instanceMethod yX3_failureAt, Cond.selects RX3 yX3_failureAt yX3_failureAt, Cond.initialized RX3, Cond.code yX3_failureAt cX3_failureAt 3 (some .int), Cond.methodLink RX3 33 yX3_length, Cond.instanceMethod yX3_length, Cond.selects RX3 yX3_length yX3_length, Cond.code yX3_length cX3_length 2 (some .int), Cond.fieldLink RX3 9 "MutableCells$Rows" "lengths" "[I", Cond.static yX5_isRow, Cond.code yX5_isRow cX5_isRow 1 (some .boolean), Cond.methodLink RX3 29 yX3_hasItem, Cond.instanceMethod yX3_hasItem, Cond.selects RX3 yX3_hasItem yX3_hasItem, Cond.code yX3_hasItem cX3_hasItem 3 (some .boolean), Cond.methodLink RX5 110 yX3_itemOf]
def wsX5_perform_r6 : List Cond := [Cond.instanceMethod yX3_itemOf, Cond.selects RX3 yX3_itemOf yX3_itemOf, Cond.code yX3_itemOf cX3_itemOf 3 (some .int), Cond.fieldLink RX3 19 "MutableCells$Rows" "items" "[I", Cond.methodLink RX5 191 yX3_store, Cond.instanceMethod yX3_store, Cond.selects RX3 yX3_store yX3_store, Cond.code yX3_store cX3_store 5 (some .int), Cond.methodLink RX3 37 yX3_failureAt, Cond.methodLink RX3 41 yX3_isFrozen, Cond.instanceMethod yX3_isFrozen, Cond.selects RX3 yX3_isFrozen yX3_isFrozen, Cond.code yX3_isFrozen cX3_isFrozen 2 (some .boolean), Cond.fieldLink RX3 15 "MutableCells$Rows" "ices" "[Z", Cond.methodLink RX5 195 yX5_swapCell, Cond.instanceMethod yX5_swapCell, Cond.selects RX5 yX5_swapCell yX5_swapCell, Cond.code yX5_swapCell cX5_swapCell 7 (some .int), Cond.methodLink RX5 198 yX5_endAtom, Cond.instanceMethod yX5_endAtom, Cond.selects RX5 yX5_endAtom yX5_endAtom, Cond.code yX5_endAtom cX5_endAtom 4 (some .int), Cond.methodLink RX5 254 yX5_isOvertaken, Cond.instanceMethod yX5_isOvertaken]
def wsX5_perform_r7 : List Cond := [Cond.selects RX5 yX5_isOvertaken yX5_isOvertaken, Cond.code yX5_isOvertaken cX5_isOvertaken 3 (some .boolean), Cond.methodLink RX5 261 yX0_hasRead, Cond.instanceMethod yX0_hasRead, Cond.selects RX0 yX0_hasRead yX0_hasRead, Cond.code yX0_hasRead cX0_hasRead 2 (some .boolean), Cond.methodLink RX5 264 yX0_firstNumber, Cond.instanceMethod yX0_firstNumber, Cond.selects RX0 yX0_firstNumber yX0_firstNumber, Cond.code yX0_firstNumber cX0_firstNumber 2 (some .int), Cond.methodLink RX5 258 yX4_beginAnew, Cond.instanceMethod yX4_beginAnew, Cond.selects RX4 yX4_beginAnew yX4_beginAnew, Cond.code yX4_beginAnew cX4_beginAnew 1 none, Cond.fieldLink RX4 66 "MutableCells$Strand" "anews" "I", Cond.fieldLink RX4 33 "MutableCells$Strand" "atom" "LMutableCells$Atom;", Cond.fieldLink RX4 85 "MutableCells$Strand" "next" "I", Cond.methodLink RX4 105 arraycopyName, Cond.native arraycopyName, Cond.static arraycopyName, Cond.initialized "java/lang/System", Cond.methodLink RX4 111 yX0_forget, Cond.instanceMethod yX0_forget, Cond.selects RX0 yX0_forget yX0_forget]
def wsX5_perform_r8 : List Cond := [Cond.code yX0_forget cX0_forget 2 none, Cond.methodLink RX5 201 yX3_make, Cond.instanceMethod yX3_make, Cond.selects RX3 yX3_make yX3_make, Cond.code yX3_make cX3_make 3 (some .int), Cond.methodLink RX3 44 yJ7_fill_fda19, Cond.static yJ7_fill_fda19, Cond.initialized RJ7, Cond.code yJ7_fill_fda19 cJ7_fill_fda19 5 none, Cond.methodLink RJ7 13 yJ7_rangeCheck_23922, Cond.static yJ7_rangeCheck_23922, Cond.code yJ7_rangeCheck_23922 cJ7_rangeCheck_23922 3 none, Cond.methodLink RX5 204 yX3_freeze, Cond.instanceMethod yX3_freeze, Cond.selects RX3 yX3_freeze yX3_freeze, Cond.code yX3_freeze cX3_freeze 2 (some .int), Cond.methodLink RX5 207 yX1_defer, Cond.instanceMethod yX1_defer, Cond.selects RX1 yX1_defer yX1_defer, Cond.code yX1_defer cX1_defer 3 none, Cond.methodLink RX5 210 yX4_performAlone, Cond.instanceMethod yX4_performAlone, Cond.selects RX4 yX4_performAlone yX4_performAlone, Cond.code yX4_performAlone cX4_performAlone 5 (some .int)]
def wsX5_perform_r9 : List Cond := [Cond.methodLink RX4 73 yX4_keep, Cond.methodLink RX4 77 yX4_held, Cond.methodLink RX4 81 yX4_divide, Cond.instanceMethod yX4_divide, Cond.selects RX4 yX4_divide yX4_divide, Cond.code yX4_divide cX4_divide 4 (some .int), Cond.methodLink RX4 88 yX4_beginAtom, Cond.instanceMethod yX4_beginAtom, Cond.selects RX4 yX4_beginAtom yX4_beginAtom, Cond.code yX4_beginAtom cX4_beginAtom 1 (some .int), Cond.fieldLink RX4 50 "MutableCells$Strand" "trys" "I", Cond.methodLink RX4 92 yX4_openTry, Cond.instanceMethod yX4_openTry, Cond.selects RX4 yX4_openTry yX4_openTry, Cond.code yX4_openTry cX4_openTry 2 (some .int), Cond.fieldLink RX4 27 "MutableCells$Strand" "tryPlaces" "[I", Cond.methodLink RX4 95 yX4_closeTry, Cond.instanceMethod yX4_closeTry, Cond.selects RX4 yX4_closeTry yX4_closeTry, Cond.code yX4_closeTry cX4_closeTry 1 (some .int)]
def wsX5_perform : List Cond := .code yX5_perform cX5_perform 7 (some .int) :: ((wsX5_perform_r1 ++ (wsX5_perform_r2 ++ (wsX5_perform_r3 ++ (wsX5_perform_r4 ++ (wsX5_perform_r5 ++ (wsX5_perform_r6 ++ (wsX5_perform_r7 ++ (wsX5_perform_r8 ++ wsX5_perform_r9)))))))) ++ wsX40 ++ wsX00 ++ wsX50 ++ wsX10 ++ wsX20 ++ wsX30)
def wsX5_takeTurn_r1 : List Cond := [Cond.fieldLink RX5 137 "MutableCells" "turnsDone" "I", Cond.fieldLink RX5 54 "MutableCells" "failures" "I", Cond.methodLink RX5 156 yX5_perform, Cond.instanceMethod yX5_perform, Cond.selects RX5 yX5_perform yX5_perform, Cond.initialized RX5, Cond.code yX5_perform cX5_perform 7 (some .int), Cond.fieldLink RX5 19 "MutableCells" "rows" "LMutableCells$Rows;", Cond.fieldLink RX5 10 "MutableCells" "cells" "LMutableCells$Cells;", Cond.methodLink RX5 176 yX5_isBarredFromAtoms, Cond.static yX5_isBarredFromAtoms, Cond.code yX5_isBarredFromAtoms cX5_isBarredFromAtoms 1 (some .boolean), Cond.methodLink RX5 179 yX5_getCell, Cond.instanceMethod yX5_getCell, Cond.selects RX5 yX5_getCell yX5_getCell, Cond.code yX5_getCell cX5_getCell 5 (some .int), Cond.methodLink RX5 220 yX5_failureOfReading, Cond.instanceMethod yX5_failureOfReading, Cond.selects RX5 yX5_failureOfReading yX5_failureOfReading, Cond.code yX5_failureOfReading cX5_failureOfReading 3 (some .int), Cond.methodLink RX5 101 yX1_isLazy, Cond.instanceMethod yX1_isLazy, Cond.selects RX1 yX1_isLazy yX1_isLazy, Cond.initialized RX1]
def wsX5_takeTurn_r2 : List Cond := [Cond.code yX1_isLazy cX1_isLazy 2 (some .boolean), Cond.fieldLink RX1 15 "MutableCells$Cells" "partners" "[I", Cond.static yX5_isCell, Cond.code yX5_isCell cX5_isCell 1 (some .boolean), Cond.methodLink RX5 227 yX0_hasPut, Cond.instanceMethod yX0_hasPut, Cond.selects RX0 yX0_hasPut yX0_hasPut, Cond.initialized RX0, Cond.code yX0_hasPut cX0_hasPut 2 (some .boolean), Cond.fieldLink RX0 15 "MutableCells$Atom" "putMarks" "[Z", Cond.methodLink RX5 230 yX1_leadsToRing, Cond.instanceMethod yX1_leadsToRing, Cond.selects RX1 yX1_leadsToRing yX1_leadsToRing, Cond.code yX1_leadsToRing cX1_leadsToRing 4 (some .boolean), Cond.methodLink RX1 53 yX1_isLazy, Cond.methodLink RX1 56 yX1_shown, Cond.instanceMethod yX1_shown, Cond.selects RX1 yX1_shown yX1_shown, Cond.code yX1_shown cX1_shown 2 (some .int), Cond.fieldLink RX1 9 "MutableCells$Cells" "numbers" "[I", Cond.methodLink RX5 224 yX5_readCell, Cond.instanceMethod yX5_readCell, Cond.selects RX5 yX5_readCell yX5_readCell, Cond.code yX5_readCell cX5_readCell 4 (some .int)]
def wsX5_takeTurn_r3 : List Cond := [Cond.methodLink RX5 236 yX1_workedOut, Cond.instanceMethod yX1_workedOut, Cond.selects RX1 yX1_workedOut yX1_workedOut, Cond.code yX1_workedOut cX1_workedOut 7 (some .int), Cond.fieldLink RX1 18 "MutableCells$Cells" "trail" "[I", Cond.methodLink RX1 60 yX1_count, Cond.instanceMethod yX1_count, Cond.selects RX1 yX1_count yX1_count, Cond.code yX1_count cX1_count 4 none, Cond.fieldLink RX1 24 "MutableCells$Cells" "log" "LMutableCells$Log;", Cond.methodLink RX1 45 yX1_hold, Cond.instanceMethod yX1_hold, Cond.selects RX1 yX1_hold yX1_hold, Cond.code yX1_hold cX1_hold 3 none, Cond.methodLink RX1 49 yX2_add, Cond.instanceMethod yX2_add, Cond.selects RX2 yX2_add yX2_add, Cond.initialized RX2, Cond.code yX2_add cX2_add 4 none, Cond.fieldLink RX2 21 "MutableCells$Log" "latest" "I", Cond.fieldLink RX2 9 "MutableCells$Log" "threads" "[I", Cond.fieldLink RX2 15 "MutableCells$Log" "places" "[I", Cond.fieldLink RX2 18 "MutableCells$Log" "numbers" "[I", Cond.fieldLink RX2 25 "MutableCells$Log" "count" "I"]
def wsX5_takeTurn_r4 : List Cond := [Cond.methodLink RX5 239 yX0_putNumber, Cond.instanceMethod yX0_putNumber, Cond.selects RX0 yX0_putNumber yX0_putNumber, Cond.code yX0_putNumber cX0_putNumber 2 (some .int), Cond.fieldLink RX0 19 "MutableCells$Atom" "putNumbers" "[I", Cond.methodLink RX5 98 yX1_shown, Cond.methodLink RX5 242 yX0_noteReading, Cond.instanceMethod yX0_noteReading, Cond.selects RX0 yX0_noteReading yX0_noteReading, Cond.code yX0_noteReading cX0_noteReading 3 none, Cond.fieldLink RX0 22 "MutableCells$Atom" "readMarks" "[Z", Cond.fieldLink RX0 25 "MutableCells$Atom" "firstNumbers" "[I", Cond.methodLink RX5 217 yX4_keep, Cond.instanceMethod yX4_keep, Cond.selects RX4 yX4_keep yX4_keep, Cond.initialized RX4, Cond.code yX4_keep cX4_keep 3 none, Cond.fieldLink RX4 24 "MutableCells$Strand" "registers" "[I", Cond.static yX5_isRegister, Cond.code yX5_isRegister cX5_isRegister 1 (some .boolean), Cond.methodLink RX5 91 yX4_held, Cond.instanceMethod yX4_held, Cond.selects RX4 yX4_held yX4_held, Cond.code yX4_held cX4_held 2 (some .int)]
def wsX5_takeTurn_r5 : List Cond := [Cond.methodLink RX5 183 yX5_putCell, Cond.instanceMethod yX5_putCell, Cond.selects RX5 yX5_putCell yX5_putCell, Cond.code yX5_putCell cX5_putCell 4 none, Cond.methodLink RX5 245 yX0_notePut, Cond.instanceMethod yX0_notePut, Cond.selects RX0 yX0_notePut yX0_notePut, Cond.code yX0_notePut cX0_notePut 3 none, Cond.methodLink RX5 248 yX1_count, Cond.methodLink RX5 187 yX5_loadItem, Cond.instanceMethod yX5_loadItem, Cond.selects RX5 yX5_loadItem yX5_loadItem, Cond.code yX5_loadItem cX5_loadItem 6 (some .int), Cond.methodLink RX5 214 yX3_failureAt, Cond.instanceMethod yX3_failureAt, Cond.selects RX3 yX3_failureAt yX3_failureAt, Cond.initialized RX3, Cond.code yX3_failureAt cX3_failureAt 3 (some .int), Cond.methodLink RX3 33 yX3_length, Cond.instanceMethod yX3_length, Cond.selects RX3 yX3_length yX3_length, Cond.code yX3_length cX3_length 2 (some .int), Cond.fieldLink RX3 9 "MutableCells$Rows" "lengths" "[I", Cond.static yX5_isRow]
def wsX5_takeTurn_r6 : List Cond := [Cond.code yX5_isRow cX5_isRow 1 (some .boolean), Cond.methodLink RX3 29 yX3_hasItem, Cond.instanceMethod yX3_hasItem, Cond.selects RX3 yX3_hasItem yX3_hasItem, Cond.code yX3_hasItem cX3_hasItem 3 (some .boolean), Cond.methodLink RX5 110 yX3_itemOf, Cond.instanceMethod yX3_itemOf, Cond.selects RX3 yX3_itemOf yX3_itemOf, Cond.code yX3_itemOf cX3_itemOf 3 (some .int), Cond.fieldLink RX3 19 "MutableCells$Rows" "items" "[I", Cond.methodLink RX5 191 yX3_store, Cond.instanceMethod yX3_store, Cond.selects RX3 yX3_store yX3_store, Cond.code yX3_store cX3_store 5 (some .int), Cond.methodLink RX3 37 yX3_failureAt, Cond.methodLink RX3 41 yX3_isFrozen, Cond.instanceMethod yX3_isFrozen, Cond.selects RX3 yX3_isFrozen yX3_isFrozen, Cond.code yX3_isFrozen cX3_isFrozen 2 (some .boolean), Cond.fieldLink RX3 15 "MutableCells$Rows" "ices" "[Z", Cond.methodLink RX5 195 yX5_swapCell, Cond.instanceMethod yX5_swapCell, Cond.selects RX5 yX5_swapCell yX5_swapCell, Cond.code yX5_swapCell cX5_swapCell 7 (some .int)]
def wsX5_takeTurn_r7 : List Cond := [Cond.methodLink RX5 198 yX5_endAtom, Cond.instanceMethod yX5_endAtom, Cond.selects RX5 yX5_endAtom yX5_endAtom, Cond.code yX5_endAtom cX5_endAtom 4 (some .int), Cond.methodLink RX5 254 yX5_isOvertaken, Cond.instanceMethod yX5_isOvertaken, Cond.selects RX5 yX5_isOvertaken yX5_isOvertaken, Cond.code yX5_isOvertaken cX5_isOvertaken 3 (some .boolean), Cond.methodLink RX5 261 yX0_hasRead, Cond.instanceMethod yX0_hasRead, Cond.selects RX0 yX0_hasRead yX0_hasRead, Cond.code yX0_hasRead cX0_hasRead 2 (some .boolean), Cond.methodLink RX5 264 yX0_firstNumber, Cond.instanceMethod yX0_firstNumber, Cond.selects RX0 yX0_firstNumber yX0_firstNumber, Cond.code yX0_firstNumber cX0_firstNumber 2 (some .int), Cond.methodLink RX5 258 yX4_beginAnew, Cond.instanceMethod yX4_beginAnew, Cond.selects RX4 yX4_beginAnew yX4_beginAnew, Cond.code yX4_beginAnew cX4_beginAnew 1 none, Cond.fieldLink RX4 66 "MutableCells$Strand" "anews" "I", Cond.fieldLink RX4 33 "MutableCells$Strand" "atom" "LMutableCells$Atom;", Cond.fieldLink RX4 85 "MutableCells$Strand" "next" "I", Cond.methodLink RX4 105 arraycopyName]
def wsX5_takeTurn_r8 : List Cond := [Cond.native arraycopyName, Cond.static arraycopyName, Cond.initialized "java/lang/System", Cond.methodLink RX4 111 yX0_forget, Cond.instanceMethod yX0_forget, Cond.selects RX0 yX0_forget yX0_forget, Cond.code yX0_forget cX0_forget 2 none, Cond.methodLink RX5 201 yX3_make, Cond.instanceMethod yX3_make, Cond.selects RX3 yX3_make yX3_make, Cond.code yX3_make cX3_make 3 (some .int), Cond.methodLink RX3 44 yJ7_fill_fda19, Cond.static yJ7_fill_fda19, Cond.initialized RJ7, Cond.code yJ7_fill_fda19 cJ7_fill_fda19 5 none, Cond.methodLink RJ7 13 yJ7_rangeCheck_23922, Cond.static yJ7_rangeCheck_23922, Cond.code yJ7_rangeCheck_23922 cJ7_rangeCheck_23922 3 none, Cond.methodLink RX5 204 yX3_freeze, Cond.instanceMethod yX3_freeze, Cond.selects RX3 yX3_freeze yX3_freeze, Cond.code yX3_freeze cX3_freeze 2 (some .int), Cond.methodLink RX5 207 yX1_defer, Cond.instanceMethod yX1_defer]
def wsX5_takeTurn_r9 : List Cond := [Cond.selects RX1 yX1_defer yX1_defer, Cond.code yX1_defer cX1_defer 3 none, Cond.methodLink RX5 210 yX4_performAlone, Cond.instanceMethod yX4_performAlone, Cond.selects RX4 yX4_performAlone yX4_performAlone, Cond.code yX4_performAlone cX4_performAlone 5 (some .int), Cond.methodLink RX4 73 yX4_keep, Cond.methodLink RX4 77 yX4_held, Cond.methodLink RX4 81 yX4_divide, Cond.instanceMethod yX4_divide, Cond.selects RX4 yX4_divide yX4_divide, Cond.code yX4_divide cX4_divide 4 (some .int), Cond.methodLink RX4 88 yX4_beginAtom, Cond.instanceMethod yX4_beginAtom, Cond.selects RX4 yX4_beginAtom yX4_beginAtom, Cond.code yX4_beginAtom cX4_beginAtom 1 (some .int), Cond.fieldLink RX4 50 "MutableCells$Strand" "trys" "I", Cond.methodLink RX4 92 yX4_openTry, Cond.instanceMethod yX4_openTry, Cond.selects RX4 yX4_openTry yX4_openTry, Cond.code yX4_openTry cX4_openTry 2 (some .int), Cond.fieldLink RX4 27 "MutableCells$Strand" "tryPlaces" "[I", Cond.methodLink RX4 95 yX4_closeTry, Cond.instanceMethod yX4_closeTry]
def wsX5_takeTurn_r10 : List Cond := [Cond.selects RX4 yX4_closeTry yX4_closeTry, Cond.code yX4_closeTry cX4_closeTry 1 (some .int), Cond.methodLink RX5 160 yX4_fail, Cond.instanceMethod yX4_fail, Cond.selects RX4 yX4_fail yX4_fail, Cond.code yX4_fail cX4_fail 2 none, Cond.fieldLink RX4 60 "MutableCells$Strand" "failure" "I", Cond.fieldLink RX4 57 "MutableCells$Strand" "place" "I"]
def wsX5_takeTurn : List Cond := .code yX5_takeTurn cX5_takeTurn 3 none :: ((wsX5_takeTurn_r1 ++ (wsX5_takeTurn_r2 ++ (wsX5_takeTurn_r3 ++ (wsX5_takeTurn_r4 ++ (wsX5_takeTurn_r5 ++ (wsX5_takeTurn_r6 ++ (wsX5_takeTurn_r7 ++ (wsX5_takeTurn_r8 ++ (wsX5_takeTurn_r9 ++ wsX5_takeTurn_r10))))))))) ++ wsX50 ++ wsX40 ++ wsX00 ++ wsX10 ++ wsX20 ++ wsX30)
def wsX5_turn_r1 : List Cond := [Cond.fieldLink RX5 54 "MutableCells" "failures" "I", Cond.methodLink RX5 32 yX5_strandOf, Cond.instanceMethod yX5_strandOf, Cond.selects RX5 yX5_strandOf yX5_strandOf, Cond.initialized RX5, Cond.code yX5_strandOf cX5_strandOf 2 (some (.object "MutableCells$Strand")), Cond.fieldLink RX5 25 "MutableCells" "strands" "[LMutableCells$Strand;", Cond.methodLink RX5 50 yX4_state, Cond.instanceMethod yX4_state, Cond.selects RX4 yX4_state yX4_state, Cond.initialized RX4, Cond.code yX4_state cX4_state 1 (some .int), Cond.fieldLink RX4 60 "MutableCells$Strand" "failure" "I", Cond.fieldLink RX4 57 "MutableCells$Strand" "place" "I", Cond.fieldLink RX4 41 "MutableCells$Strand" "acts" "I", Cond.fieldLink RX4 50 "MutableCells$Strand" "trys" "I", Cond.fieldLink RX4 33 "MutableCells$Strand" "atom" "LMutableCells$Atom;", Cond.methodLink RX5 57 yX5_takeTurn, Cond.instanceMethod yX5_takeTurn, Cond.selects RX5 yX5_takeTurn yX5_takeTurn, Cond.code yX5_takeTurn cX5_takeTurn 3 none, Cond.fieldLink RX5 137 "MutableCells" "turnsDone" "I", Cond.methodLink RX5 156 yX5_perform, Cond.instanceMethod yX5_perform]
def wsX5_turn_r2 : List Cond := [Cond.selects RX5 yX5_perform yX5_perform, Cond.code yX5_perform cX5_perform 7 (some .int), Cond.fieldLink RX5 19 "MutableCells" "rows" "LMutableCells$Rows;", Cond.fieldLink RX5 10 "MutableCells" "cells" "LMutableCells$Cells;", Cond.methodLink RX5 176 yX5_isBarredFromAtoms, Cond.static yX5_isBarredFromAtoms, Cond.code yX5_isBarredFromAtoms cX5_isBarredFromAtoms 1 (some .boolean), Cond.methodLink RX5 179 yX5_getCell, Cond.instanceMethod yX5_getCell, Cond.selects RX5 yX5_getCell yX5_getCell, Cond.code yX5_getCell cX5_getCell 5 (some .int), Cond.methodLink RX5 220 yX5_failureOfReading, Cond.instanceMethod yX5_failureOfReading, Cond.selects RX5 yX5_failureOfReading yX5_failureOfReading, Cond.code yX5_failureOfReading cX5_failureOfReading 3 (some .int), Cond.methodLink RX5 101 yX1_isLazy, Cond.instanceMethod yX1_isLazy, Cond.selects RX1 yX1_isLazy yX1_isLazy, Cond.initialized RX1, Cond.code yX1_isLazy cX1_isLazy 2 (some .boolean), Cond.fieldLink RX1 15 "MutableCells$Cells" "partners" "[I", Cond.static yX5_isCell, Cond.code yX5_isCell cX5_isCell 1 (some .boolean), Cond.methodLink RX5 227 yX0_hasPut]
def wsX5_turn_r3 : List Cond := [Cond.instanceMethod yX0_hasPut, Cond.selects RX0 yX0_hasPut yX0_hasPut, Cond.initialized RX0, Cond.code yX0_hasPut cX0_hasPut 2 (some .boolean), Cond.fieldLink RX0 15 "MutableCells$Atom" "putMarks" "[Z", Cond.methodLink RX5 230 yX1_leadsToRing, Cond.instanceMethod yX1_leadsToRing, Cond.selects RX1 yX1_leadsToRing yX1_leadsToRing, Cond.code yX1_leadsToRing cX1_leadsToRing 4 (some .boolean), Cond.methodLink RX1 53 yX1_isLazy, Cond.methodLink RX1 56 yX1_shown, Cond.instanceMethod yX1_shown, Cond.selects RX1 yX1_shown yX1_shown, Cond.code yX1_shown cX1_shown 2 (some .int), Cond.fieldLink RX1 9 "MutableCells$Cells" "numbers" "[I", Cond.methodLink RX5 224 yX5_readCell, Cond.instanceMethod yX5_readCell, Cond.selects RX5 yX5_readCell yX5_readCell, Cond.code yX5_readCell cX5_readCell 4 (some .int), Cond.methodLink RX5 236 yX1_workedOut, Cond.instanceMethod yX1_workedOut, Cond.selects RX1 yX1_workedOut yX1_workedOut, Cond.code yX1_workedOut cX1_workedOut 7 (some .int), Cond.fieldLink RX1 18 "MutableCells$Cells" "trail" "[I"]
def wsX5_turn_r4 : List Cond := [Cond.methodLink RX1 60 yX1_count, Cond.instanceMethod yX1_count, Cond.selects RX1 yX1_count yX1_count, Cond.code yX1_count cX1_count 4 none, Cond.fieldLink RX1 24 "MutableCells$Cells" "log" "LMutableCells$Log;", Cond.methodLink RX1 45 yX1_hold, Cond.instanceMethod yX1_hold, Cond.selects RX1 yX1_hold yX1_hold, Cond.code yX1_hold cX1_hold 3 none, Cond.methodLink RX1 49 yX2_add, Cond.instanceMethod yX2_add, Cond.selects RX2 yX2_add yX2_add, Cond.initialized RX2, Cond.code yX2_add cX2_add 4 none, Cond.fieldLink RX2 21 "MutableCells$Log" "latest" "I", Cond.fieldLink RX2 9 "MutableCells$Log" "threads" "[I", Cond.fieldLink RX2 15 "MutableCells$Log" "places" "[I", Cond.fieldLink RX2 18 "MutableCells$Log" "numbers" "[I", Cond.fieldLink RX2 25 "MutableCells$Log" "count" "I", Cond.methodLink RX5 239 yX0_putNumber, Cond.instanceMethod yX0_putNumber, Cond.selects RX0 yX0_putNumber yX0_putNumber, Cond.code yX0_putNumber cX0_putNumber 2 (some .int), Cond.fieldLink RX0 19 "MutableCells$Atom" "putNumbers" "[I"]
def wsX5_turn_r5 : List Cond := [Cond.methodLink RX5 98 yX1_shown, Cond.methodLink RX5 242 yX0_noteReading, Cond.instanceMethod yX0_noteReading, Cond.selects RX0 yX0_noteReading yX0_noteReading, Cond.code yX0_noteReading cX0_noteReading 3 none, Cond.fieldLink RX0 22 "MutableCells$Atom" "readMarks" "[Z", Cond.fieldLink RX0 25 "MutableCells$Atom" "firstNumbers" "[I", Cond.methodLink RX5 217 yX4_keep, Cond.instanceMethod yX4_keep, Cond.selects RX4 yX4_keep yX4_keep, Cond.code yX4_keep cX4_keep 3 none, Cond.fieldLink RX4 24 "MutableCells$Strand" "registers" "[I", Cond.static yX5_isRegister, Cond.code yX5_isRegister cX5_isRegister 1 (some .boolean), Cond.methodLink RX5 91 yX4_held, Cond.instanceMethod yX4_held, Cond.selects RX4 yX4_held yX4_held, Cond.code yX4_held cX4_held 2 (some .int), Cond.methodLink RX5 183 yX5_putCell, Cond.instanceMethod yX5_putCell, Cond.selects RX5 yX5_putCell yX5_putCell, Cond.code yX5_putCell cX5_putCell 4 none, Cond.methodLink RX5 245 yX0_notePut, Cond.instanceMethod yX0_notePut]
def wsX5_turn_r6 : List Cond := [Cond.selects RX0 yX0_notePut yX0_notePut, Cond.code yX0_notePut cX0_notePut 3 none, Cond.methodLink RX5 248 yX1_count, Cond.methodLink RX5 187 yX5_loadItem, Cond.instanceMethod yX5_loadItem, Cond.selects RX5 yX5_loadItem yX5_loadItem, Cond.code yX5_loadItem cX5_loadItem 6 (some .int), Cond.methodLink RX5 214 yX3_failureAt, Cond.instanceMethod yX3_failureAt, Cond.selects RX3 yX3_failureAt yX3_failureAt, Cond.initialized RX3, Cond.code yX3_failureAt cX3_failureAt 3 (some .int), Cond.methodLink RX3 33 yX3_length, Cond.instanceMethod yX3_length, Cond.selects RX3 yX3_length yX3_length, Cond.code yX3_length cX3_length 2 (some .int), Cond.fieldLink RX3 9 "MutableCells$Rows" "lengths" "[I", Cond.static yX5_isRow, Cond.code yX5_isRow cX5_isRow 1 (some .boolean), Cond.methodLink RX3 29 yX3_hasItem, Cond.instanceMethod yX3_hasItem, Cond.selects RX3 yX3_hasItem yX3_hasItem, Cond.code yX3_hasItem cX3_hasItem 3 (some .boolean), Cond.methodLink RX5 110 yX3_itemOf]
def wsX5_turn_r7 : List Cond := [Cond.instanceMethod yX3_itemOf, Cond.selects RX3 yX3_itemOf yX3_itemOf, Cond.code yX3_itemOf cX3_itemOf 3 (some .int), Cond.fieldLink RX3 19 "MutableCells$Rows" "items" "[I", Cond.methodLink RX5 191 yX3_store, Cond.instanceMethod yX3_store, Cond.selects RX3 yX3_store yX3_store, Cond.code yX3_store cX3_store 5 (some .int), Cond.methodLink RX3 37 yX3_failureAt, Cond.methodLink RX3 41 yX3_isFrozen, Cond.instanceMethod yX3_isFrozen, Cond.selects RX3 yX3_isFrozen yX3_isFrozen, Cond.code yX3_isFrozen cX3_isFrozen 2 (some .boolean), Cond.fieldLink RX3 15 "MutableCells$Rows" "ices" "[Z", Cond.methodLink RX5 195 yX5_swapCell, Cond.instanceMethod yX5_swapCell, Cond.selects RX5 yX5_swapCell yX5_swapCell, Cond.code yX5_swapCell cX5_swapCell 7 (some .int), Cond.methodLink RX5 198 yX5_endAtom, Cond.instanceMethod yX5_endAtom, Cond.selects RX5 yX5_endAtom yX5_endAtom, Cond.code yX5_endAtom cX5_endAtom 4 (some .int), Cond.methodLink RX5 254 yX5_isOvertaken, Cond.instanceMethod yX5_isOvertaken]
def wsX5_turn_r8 : List Cond := [Cond.selects RX5 yX5_isOvertaken yX5_isOvertaken, Cond.code yX5_isOvertaken cX5_isOvertaken 3 (some .boolean), Cond.methodLink RX5 261 yX0_hasRead, Cond.instanceMethod yX0_hasRead, Cond.selects RX0 yX0_hasRead yX0_hasRead, Cond.code yX0_hasRead cX0_hasRead 2 (some .boolean), Cond.methodLink RX5 264 yX0_firstNumber, Cond.instanceMethod yX0_firstNumber, Cond.selects RX0 yX0_firstNumber yX0_firstNumber, Cond.code yX0_firstNumber cX0_firstNumber 2 (some .int), Cond.methodLink RX5 258 yX4_beginAnew, Cond.instanceMethod yX4_beginAnew, Cond.selects RX4 yX4_beginAnew yX4_beginAnew, Cond.code yX4_beginAnew cX4_beginAnew 1 none, Cond.fieldLink RX4 66 "MutableCells$Strand" "anews" "I", Cond.fieldLink RX4 85 "MutableCells$Strand" "next" "I", Cond.methodLink RX4 105 arraycopyName, Cond.native arraycopyName, Cond.static arraycopyName, Cond.initialized "java/lang/System", Cond.methodLink RX4 111 yX0_forget, Cond.instanceMethod yX0_forget, Cond.selects RX0 yX0_forget yX0_forget, Cond.code yX0_forget cX0_forget 2 none]
def wsX5_turn_r9 : List Cond := [Cond.methodLink RX5 201 yX3_make, Cond.instanceMethod yX3_make, Cond.selects RX3 yX3_make yX3_make, Cond.code yX3_make cX3_make 3 (some .int), Cond.methodLink RX3 44 yJ7_fill_fda19, Cond.static yJ7_fill_fda19, Cond.initialized RJ7, Cond.code yJ7_fill_fda19 cJ7_fill_fda19 5 none, Cond.methodLink RJ7 13 yJ7_rangeCheck_23922, Cond.static yJ7_rangeCheck_23922, Cond.code yJ7_rangeCheck_23922 cJ7_rangeCheck_23922 3 none, Cond.methodLink RX5 204 yX3_freeze, Cond.instanceMethod yX3_freeze, Cond.selects RX3 yX3_freeze yX3_freeze, Cond.code yX3_freeze cX3_freeze 2 (some .int), Cond.methodLink RX5 207 yX1_defer, Cond.instanceMethod yX1_defer, Cond.selects RX1 yX1_defer yX1_defer, Cond.code yX1_defer cX1_defer 3 none, Cond.methodLink RX5 210 yX4_performAlone, Cond.instanceMethod yX4_performAlone, Cond.selects RX4 yX4_performAlone yX4_performAlone, Cond.code yX4_performAlone cX4_performAlone 5 (some .int), Cond.methodLink RX4 73 yX4_keep]
def wsX5_turn_r10 : List Cond := [Cond.methodLink RX4 77 yX4_held, Cond.methodLink RX4 81 yX4_divide, Cond.instanceMethod yX4_divide, Cond.selects RX4 yX4_divide yX4_divide, Cond.code yX4_divide cX4_divide 4 (some .int), Cond.methodLink RX4 88 yX4_beginAtom, Cond.instanceMethod yX4_beginAtom, Cond.selects RX4 yX4_beginAtom yX4_beginAtom, Cond.code yX4_beginAtom cX4_beginAtom 1 (some .int), Cond.methodLink RX4 92 yX4_openTry, Cond.instanceMethod yX4_openTry, Cond.selects RX4 yX4_openTry yX4_openTry, Cond.code yX4_openTry cX4_openTry 2 (some .int), Cond.fieldLink RX4 27 "MutableCells$Strand" "tryPlaces" "[I", Cond.methodLink RX4 95 yX4_closeTry, Cond.instanceMethod yX4_closeTry, Cond.selects RX4 yX4_closeTry yX4_closeTry, Cond.code yX4_closeTry cX4_closeTry 1 (some .int), Cond.methodLink RX5 160 yX4_fail, Cond.instanceMethod yX4_fail, Cond.selects RX4 yX4_fail yX4_fail, Cond.code yX4_fail cX4_fail 2 none]
def wsX5_turn : List Cond := .code yX5_turn cX5_turn 3 (some .int) :: ((wsX5_turn_r1 ++ (wsX5_turn_r2 ++ (wsX5_turn_r3 ++ (wsX5_turn_r4 ++ (wsX5_turn_r5 ++ (wsX5_turn_r6 ++ (wsX5_turn_r7 ++ (wsX5_turn_r8 ++ (wsX5_turn_r9 ++ wsX5_turn_r10))))))))) ++ wsX50 ++ wsX40 ++ wsX00 ++ wsX10 ++ wsX20 ++ wsX30)
def wsX5_goes : List Cond := .code yX5_goes cX5_goes 3 (some .boolean) :: ([.methodLink RX5 32 yX5_strandOf, .instanceMethod yX5_strandOf, .selects RX5 yX5_strandOf yX5_strandOf, .initialized RX5, .code yX5_strandOf cX5_strandOf 2 (some (.object "MutableCells$Strand")), .fieldLink RX5 25 "MutableCells" "strands" "[LMutableCells$Strand;", .methodLink RX5 50 yX4_state, .instanceMethod yX4_state, .selects RX4 yX4_state yX4_state, .initialized RX4, .code yX4_state cX4_state 1 (some .int), .fieldLink RX4 60 "MutableCells$Strand" "failure" "I", .fieldLink RX4 57 "MutableCells$Strand" "place" "I", .fieldLink RX4 41 "MutableCells$Strand" "acts" "I", .fieldLink RX4 50 "MutableCells$Strand" "trys" "I", .fieldLink RX4 33 "MutableCells$Strand" "atom" "LMutableCells$Atom;"] ++ wsX50 ++ wsX40 ++ wsX00)
def wsX5_drawn : List Cond := .code yX5_drawn cX5_drawn 5 (some (.object "MutableCells$Strand")) :: ([.fieldLink RX5 25 "MutableCells" "strands" "[LMutableCells$Strand;", .methodLink RX5 150 yX5_goes, .instanceMethod yX5_goes, .selects RX5 yX5_goes yX5_goes, .initialized RX5, .code yX5_goes cX5_goes 3 (some .boolean), .methodLink RX5 32 yX5_strandOf, .instanceMethod yX5_strandOf, .selects RX5 yX5_strandOf yX5_strandOf, .code yX5_strandOf cX5_strandOf 2 (some (.object "MutableCells$Strand")), .methodLink RX5 50 yX4_state, .instanceMethod yX4_state, .selects RX4 yX4_state yX4_state, .initialized RX4, .code yX4_state cX4_state 1 (some .int), .fieldLink RX4 60 "MutableCells$Strand" "failure" "I", .fieldLink RX4 57 "MutableCells$Strand" "place" "I", .fieldLink RX4 41 "MutableCells$Strand" "acts" "I", .fieldLink RX4 50 "MutableCells$Strand" "trys" "I", .fieldLink RX4 33 "MutableCells$Strand" "atom" "LMutableCells$Atom;"] ++ wsX50 ++ wsX40 ++ wsX00)
def wsX5_play_r1 : List Cond := [Cond.constant RX5 61 (1103515245), Cond.fieldLink RX5 54 "MutableCells" "failures" "I", Cond.methodLink RX5 62 yX5_drawn, Cond.instanceMethod yX5_drawn, Cond.selects RX5 yX5_drawn yX5_drawn, Cond.initialized RX5, Cond.code yX5_drawn cX5_drawn 5 (some (.object "MutableCells$Strand")), Cond.fieldLink RX5 25 "MutableCells" "strands" "[LMutableCells$Strand;", Cond.methodLink RX5 150 yX5_goes, Cond.instanceMethod yX5_goes, Cond.selects RX5 yX5_goes yX5_goes, Cond.code yX5_goes cX5_goes 3 (some .boolean), Cond.methodLink RX5 32 yX5_strandOf, Cond.instanceMethod yX5_strandOf, Cond.selects RX5 yX5_strandOf yX5_strandOf, Cond.code yX5_strandOf cX5_strandOf 2 (some (.object "MutableCells$Strand")), Cond.methodLink RX5 50 yX4_state, Cond.instanceMethod yX4_state, Cond.selects RX4 yX4_state yX4_state, Cond.initialized RX4, Cond.code yX4_state cX4_state 1 (some .int), Cond.fieldLink RX4 60 "MutableCells$Strand" "failure" "I", Cond.fieldLink RX4 57 "MutableCells$Strand" "place" "I", Cond.fieldLink RX4 41 "MutableCells$Strand" "acts" "I"]
def wsX5_play_r2 : List Cond := [Cond.fieldLink RX4 50 "MutableCells$Strand" "trys" "I", Cond.fieldLink RX4 33 "MutableCells$Strand" "atom" "LMutableCells$Atom;", Cond.methodLink RX5 57 yX5_takeTurn, Cond.instanceMethod yX5_takeTurn, Cond.selects RX5 yX5_takeTurn yX5_takeTurn, Cond.code yX5_takeTurn cX5_takeTurn 3 none, Cond.fieldLink RX5 137 "MutableCells" "turnsDone" "I", Cond.methodLink RX5 156 yX5_perform, Cond.instanceMethod yX5_perform, Cond.selects RX5 yX5_perform yX5_perform, Cond.code yX5_perform cX5_perform 7 (some .int), Cond.fieldLink RX5 19 "MutableCells" "rows" "LMutableCells$Rows;", Cond.fieldLink RX5 10 "MutableCells" "cells" "LMutableCells$Cells;", Cond.methodLink RX5 176 yX5_isBarredFromAtoms, Cond.static yX5_isBarredFromAtoms, Cond.code yX5_isBarredFromAtoms cX5_isBarredFromAtoms 1 (some .boolean), Cond.methodLink RX5 179 yX5_getCell, Cond.instanceMethod yX5_getCell, Cond.selects RX5 yX5_getCell yX5_getCell, Cond.code yX5_getCell cX5_getCell 5 (some .int), Cond.methodLink RX5 220 yX5_failureOfReading, Cond.instanceMethod yX5_failureOfReading, Cond.selects RX5 yX5_failureOfReading yX5_failureOfReading, Cond.code yX5_failureOfReading cX5_failureOfReading 3 (some .int)]
def wsX5_play_r3 : List Cond := [Cond.methodLink RX5 101 yX1_isLazy, Cond.instanceMethod yX1_isLazy, Cond.selects RX1 yX1_isLazy yX1_isLazy, Cond.initialized RX1, Cond.code yX1_isLazy cX1_isLazy 2 (some .boolean), Cond.fieldLink RX1 15 "MutableCells$Cells" "partners" "[I", Cond.static yX5_isCell, Cond.code yX5_isCell cX5_isCell 1 (some .boolean), Cond.methodLink RX5 227 yX0_hasPut, Cond.instanceMethod yX0_hasPut, Cond.selects RX0 yX0_hasPut yX0_hasPut, Cond.initialized RX0, Cond.code yX0_hasPut cX0_hasPut 2 (some .boolean), Cond.fieldLink RX0 15 "MutableCells$Atom" "putMarks" "[Z", Cond.methodLink RX5 230 yX1_leadsToRing, Cond.instanceMethod yX1_leadsToRing, Cond.selects RX1 yX1_leadsToRing yX1_leadsToRing, Cond.code yX1_leadsToRing cX1_leadsToRing 4 (some .boolean), Cond.methodLink RX1 53 yX1_isLazy, Cond.methodLink RX1 56 yX1_shown, Cond.instanceMethod yX1_shown, Cond.selects RX1 yX1_shown yX1_shown, Cond.code yX1_shown cX1_shown 2 (some .int), Cond.fieldLink RX1 9 "MutableCells$Cells" "numbers" "[I"]
def wsX5_play_r4 : List Cond := [Cond.methodLink RX5 224 yX5_readCell, Cond.instanceMethod yX5_readCell, Cond.selects RX5 yX5_readCell yX5_readCell, Cond.code yX5_readCell cX5_readCell 4 (some .int), Cond.methodLink RX5 236 yX1_workedOut, Cond.instanceMethod yX1_workedOut, Cond.selects RX1 yX1_workedOut yX1_workedOut, Cond.code yX1_workedOut cX1_workedOut 7 (some .int), Cond.fieldLink RX1 18 "MutableCells$Cells" "trail" "[I", Cond.methodLink RX1 60 yX1_count, Cond.instanceMethod yX1_count, Cond.selects RX1 yX1_count yX1_count, Cond.code yX1_count cX1_count 4 none, Cond.fieldLink RX1 24 "MutableCells$Cells" "log" "LMutableCells$Log;", Cond.methodLink RX1 45 yX1_hold, Cond.instanceMethod yX1_hold, Cond.selects RX1 yX1_hold yX1_hold, Cond.code yX1_hold cX1_hold 3 none, Cond.methodLink RX1 49 yX2_add, Cond.instanceMethod yX2_add, Cond.selects RX2 yX2_add yX2_add, Cond.initialized RX2, Cond.code yX2_add cX2_add 4 none, Cond.fieldLink RX2 21 "MutableCells$Log" "latest" "I"]
def wsX5_play_r5 : List Cond := [Cond.fieldLink RX2 9 "MutableCells$Log" "threads" "[I", Cond.fieldLink RX2 15 "MutableCells$Log" "places" "[I", Cond.fieldLink RX2 18 "MutableCells$Log" "numbers" "[I", Cond.fieldLink RX2 25 "MutableCells$Log" "count" "I", Cond.methodLink RX5 239 yX0_putNumber, Cond.instanceMethod yX0_putNumber, Cond.selects RX0 yX0_putNumber yX0_putNumber, Cond.code yX0_putNumber cX0_putNumber 2 (some .int), Cond.fieldLink RX0 19 "MutableCells$Atom" "putNumbers" "[I", Cond.methodLink RX5 98 yX1_shown, Cond.methodLink RX5 242 yX0_noteReading, Cond.instanceMethod yX0_noteReading, Cond.selects RX0 yX0_noteReading yX0_noteReading, Cond.code yX0_noteReading cX0_noteReading 3 none, Cond.fieldLink RX0 22 "MutableCells$Atom" "readMarks" "[Z", Cond.fieldLink RX0 25 "MutableCells$Atom" "firstNumbers" "[I", Cond.methodLink RX5 217 yX4_keep, Cond.instanceMethod yX4_keep, Cond.selects RX4 yX4_keep yX4_keep, Cond.code yX4_keep cX4_keep 3 none, Cond.fieldLink RX4 24 "MutableCells$Strand" "registers" "[I", Cond.static yX5_isRegister, Cond.code yX5_isRegister cX5_isRegister 1 (some .boolean), Cond.methodLink RX5 91 yX4_held]
def wsX5_play_r6 : List Cond := [Cond.instanceMethod yX4_held, Cond.selects RX4 yX4_held yX4_held, Cond.code yX4_held cX4_held 2 (some .int), Cond.methodLink RX5 183 yX5_putCell, Cond.instanceMethod yX5_putCell, Cond.selects RX5 yX5_putCell yX5_putCell, Cond.code yX5_putCell cX5_putCell 4 none, Cond.methodLink RX5 245 yX0_notePut, Cond.instanceMethod yX0_notePut, Cond.selects RX0 yX0_notePut yX0_notePut, Cond.code yX0_notePut cX0_notePut 3 none, Cond.methodLink RX5 248 yX1_count, Cond.methodLink RX5 187 yX5_loadItem, Cond.instanceMethod yX5_loadItem, Cond.selects RX5 yX5_loadItem yX5_loadItem, Cond.code yX5_loadItem cX5_loadItem 6 (some .int), Cond.methodLink RX5 214 yX3_failureAt, Cond.instanceMethod yX3_failureAt, Cond.selects RX3 yX3_failureAt yX3_failureAt, Cond.initialized RX3, Cond.code yX3_failureAt cX3_failureAt 3 (some .int), Cond.methodLink RX3 33 yX3_length, Cond.instanceMethod yX3_length, Cond.selects RX3 yX3_length yX3_length]
def wsX5_play_r7 : List Cond := [Cond.code yX3_length cX3_length 2 (some .int), Cond.fieldLink RX3 9 "MutableCells$Rows" "lengths" "[I", Cond.static yX5_isRow, Cond.code yX5_isRow cX5_isRow 1 (some .boolean), Cond.methodLink RX3 29 yX3_hasItem, Cond.instanceMethod yX3_hasItem, Cond.selects RX3 yX3_hasItem yX3_hasItem, Cond.code yX3_hasItem cX3_hasItem 3 (some .boolean), Cond.methodLink RX5 110 yX3_itemOf, Cond.instanceMethod yX3_itemOf, Cond.selects RX3 yX3_itemOf yX3_itemOf, Cond.code yX3_itemOf cX3_itemOf 3 (some .int), Cond.fieldLink RX3 19 "MutableCells$Rows" "items" "[I", Cond.methodLink RX5 191 yX3_store, Cond.instanceMethod yX3_store, Cond.selects RX3 yX3_store yX3_store, Cond.code yX3_store cX3_store 5 (some .int), Cond.methodLink RX3 37 yX3_failureAt, Cond.methodLink RX3 41 yX3_isFrozen, Cond.instanceMethod yX3_isFrozen, Cond.selects RX3 yX3_isFrozen yX3_isFrozen, Cond.code yX3_isFrozen cX3_isFrozen 2 (some .boolean), Cond.fieldLink RX3 15 "MutableCells$Rows" "ices" "[Z", Cond.methodLink RX5 195 yX5_swapCell]
def wsX5_play_r8 : List Cond := [Cond.instanceMethod yX5_swapCell, Cond.selects RX5 yX5_swapCell yX5_swapCell, Cond.code yX5_swapCell cX5_swapCell 7 (some .int), Cond.methodLink RX5 198 yX5_endAtom, Cond.instanceMethod yX5_endAtom, Cond.selects RX5 yX5_endAtom yX5_endAtom, Cond.code yX5_endAtom cX5_endAtom 4 (some .int), Cond.methodLink RX5 254 yX5_isOvertaken, Cond.instanceMethod yX5_isOvertaken, Cond.selects RX5 yX5_isOvertaken yX5_isOvertaken, Cond.code yX5_isOvertaken cX5_isOvertaken 3 (some .boolean), Cond.methodLink RX5 261 yX0_hasRead, Cond.instanceMethod yX0_hasRead, Cond.selects RX0 yX0_hasRead yX0_hasRead, Cond.code yX0_hasRead cX0_hasRead 2 (some .boolean), Cond.methodLink RX5 264 yX0_firstNumber, Cond.instanceMethod yX0_firstNumber, Cond.selects RX0 yX0_firstNumber yX0_firstNumber, Cond.code yX0_firstNumber cX0_firstNumber 2 (some .int), Cond.methodLink RX5 258 yX4_beginAnew, Cond.instanceMethod yX4_beginAnew, Cond.selects RX4 yX4_beginAnew yX4_beginAnew, Cond.code yX4_beginAnew cX4_beginAnew 1 none, Cond.fieldLink RX4 66 "MutableCells$Strand" "anews" "I"]
def wsX5_play_r9 : List Cond := [Cond.fieldLink RX4 85 "MutableCells$Strand" "next" "I", Cond.methodLink RX4 105 arraycopyName, Cond.native arraycopyName, Cond.static arraycopyName, Cond.initialized "java/lang/System", Cond.methodLink RX4 111 yX0_forget, Cond.instanceMethod yX0_forget, Cond.selects RX0 yX0_forget yX0_forget, Cond.code yX0_forget cX0_forget 2 none, Cond.methodLink RX5 201 yX3_make, Cond.instanceMethod yX3_make, Cond.selects RX3 yX3_make yX3_make, Cond.code yX3_make cX3_make 3 (some .int), Cond.methodLink RX3 44 yJ7_fill_fda19, Cond.static yJ7_fill_fda19, Cond.initialized RJ7, Cond.code yJ7_fill_fda19 cJ7_fill_fda19 5 none, Cond.methodLink RJ7 13 yJ7_rangeCheck_23922, Cond.static yJ7_rangeCheck_23922, Cond.code yJ7_rangeCheck_23922 cJ7_rangeCheck_23922 3 none, Cond.methodLink RX5 204 yX3_freeze, Cond.instanceMethod yX3_freeze, Cond.selects RX3 yX3_freeze yX3_freeze, Cond.code yX3_freeze cX3_freeze 2 (some .int)]
def wsX5_play_r10 : List Cond := [Cond.methodLink RX5 207 yX1_defer, Cond.instanceMethod yX1_defer, Cond.selects RX1 yX1_defer yX1_defer, Cond.code yX1_defer cX1_defer 3 none, Cond.methodLink RX5 210 yX4_performAlone, Cond.instanceMethod yX4_performAlone, Cond.selects RX4 yX4_performAlone yX4_performAlone, Cond.code yX4_performAlone cX4_performAlone 5 (some .int), Cond.methodLink RX4 73 yX4_keep, Cond.methodLink RX4 77 yX4_held, Cond.methodLink RX4 81 yX4_divide, Cond.instanceMethod yX4_divide, Cond.selects RX4 yX4_divide yX4_divide, Cond.code yX4_divide cX4_divide 4 (some .int), Cond.methodLink RX4 88 yX4_beginAtom, Cond.instanceMethod yX4_beginAtom, Cond.selects RX4 yX4_beginAtom yX4_beginAtom, Cond.code yX4_beginAtom cX4_beginAtom 1 (some .int), Cond.methodLink RX4 92 yX4_openTry, Cond.instanceMethod yX4_openTry, Cond.selects RX4 yX4_openTry yX4_openTry, Cond.code yX4_openTry cX4_openTry 2 (some .int), Cond.fieldLink RX4 27 "MutableCells$Strand" "tryPlaces" "[I", Cond.methodLink RX4 95 yX4_closeTry]
def wsX5_play_r11 : List Cond := [Cond.instanceMethod yX4_closeTry, Cond.selects RX4 yX4_closeTry yX4_closeTry, Cond.code yX4_closeTry cX4_closeTry 1 (some .int), Cond.methodLink RX5 160 yX4_fail, Cond.instanceMethod yX4_fail, Cond.selects RX4 yX4_fail yX4_fail, Cond.code yX4_fail cX4_fail 2 none]
def wsX5_play : List Cond := .code yX5_play cX5_play 6 (some .int) :: ((wsX5_play_r1 ++ (wsX5_play_r2 ++ (wsX5_play_r3 ++ (wsX5_play_r4 ++ (wsX5_play_r5 ++ (wsX5_play_r6 ++ (wsX5_play_r7 ++ (wsX5_play_r8 ++ (wsX5_play_r9 ++ (wsX5_play_r10 ++ wsX5_play_r11)))))))))) ++ wsX50 ++ wsX40 ++ wsX00 ++ wsX10 ++ wsX20 ++ wsX30)
def wsX5_told : List Cond := .code yX5_told cX5_told 4 (some .int) :: ([.methodLink RX5 32 yX5_strandOf, .instanceMethod yX5_strandOf, .selects RX5 yX5_strandOf yX5_strandOf, .initialized RX5, .code yX5_strandOf cX5_strandOf 2 (some (.object "MutableCells$Strand")), .fieldLink RX5 25 "MutableCells" "strands" "[LMutableCells$Strand;", .methodLink RX5 50 yX4_state, .instanceMethod yX4_state, .selects RX4 yX4_state yX4_state, .initialized RX4, .code yX4_state cX4_state 1 (some .int), .fieldLink RX4 60 "MutableCells$Strand" "failure" "I", .fieldLink RX4 57 "MutableCells$Strand" "place" "I", .fieldLink RX4 41 "MutableCells$Strand" "acts" "I", .fieldLink RX4 50 "MutableCells$Strand" "trys" "I", .fieldLink RX4 33 "MutableCells$Strand" "atom" "LMutableCells$Atom;"] ++ wsX40 ++ wsX00 ++ wsX50)
def wsX5_register : List Cond := .code yX5_register cX5_register 4 (some .int) :: ([.methodLink RX5 32 yX5_strandOf, .instanceMethod yX5_strandOf, .selects RX5 yX5_strandOf yX5_strandOf, .initialized RX5, .code yX5_strandOf cX5_strandOf 2 (some (.object "MutableCells$Strand")), .fieldLink RX5 25 "MutableCells" "strands" "[LMutableCells$Strand;", .methodLink RX5 87 yX5_isRegister, .static yX5_isRegister, .code yX5_isRegister cX5_isRegister 1 (some .boolean), .methodLink RX5 91 yX4_held, .instanceMethod yX4_held, .selects RX4 yX4_held yX4_held, .initialized RX4, .code yX4_held cX4_held 2 (some .int), .fieldLink RX4 24 "MutableCells$Strand" "registers" "[I"] ++ wsX50 ++ wsX40)
def wsX5_cell : List Cond := .code yX5_cell cX5_cell 2 (some .int) :: ([.fieldLink RX5 10 "MutableCells" "cells" "LMutableCells$Cells;", .methodLink RX5 95 yX5_isCell, .static yX5_isCell, .initialized RX5, .code yX5_isCell cX5_isCell 1 (some .boolean), .methodLink RX5 98 yX1_shown, .instanceMethod yX1_shown, .selects RX1 yX1_shown yX1_shown, .initialized RX1, .code yX1_shown cX1_shown 2 (some .int), .fieldLink RX1 15 "MutableCells$Cells" "partners" "[I", .fieldLink RX1 9 "MutableCells$Cells" "numbers" "[I"] ++ wsX50 ++ wsX10)
def wsX5_lazy : List Cond := .code yX5_lazy cX5_lazy 2 (some .int) :: ([.fieldLink RX5 10 "MutableCells" "cells" "LMutableCells$Cells;", .methodLink RX5 95 yX5_isCell, .static yX5_isCell, .initialized RX5, .code yX5_isCell cX5_isCell 1 (some .boolean), .methodLink RX5 101 yX1_isLazy, .instanceMethod yX1_isLazy, .selects RX1 yX1_isLazy yX1_isLazy, .initialized RX1, .code yX1_isLazy cX1_isLazy 2 (some .boolean), .fieldLink RX1 15 "MutableCells$Cells" "partners" "[I"] ++ wsX50 ++ wsX10)
def wsX5_size : List Cond := .code yX5_size cX5_size 2 (some .int) :: ([.fieldLink RX5 19 "MutableCells" "rows" "LMutableCells$Rows;", .methodLink RX5 104 yX5_isRow, .static yX5_isRow, .initialized RX5, .code yX5_isRow cX5_isRow 1 (some .boolean), .methodLink RX5 107 yX3_length, .instanceMethod yX3_length, .selects RX3 yX3_length yX3_length, .initialized RX3, .code yX3_length cX3_length 2 (some .int), .fieldLink RX3 9 "MutableCells$Rows" "lengths" "[I"] ++ wsX50 ++ wsX30)
def wsX5_item : List Cond := .code yX5_item cX5_item 3 (some .int) :: ([.fieldLink RX5 19 "MutableCells" "rows" "LMutableCells$Rows;", .methodLink RX5 104 yX5_isRow, .static yX5_isRow, .initialized RX5, .code yX5_isRow cX5_isRow 1 (some .boolean), .methodLink RX5 110 yX3_itemOf, .instanceMethod yX3_itemOf, .selects RX3 yX3_itemOf yX3_itemOf, .initialized RX3, .code yX3_itemOf cX3_itemOf 3 (some .int), .fieldLink RX3 19 "MutableCells$Rows" "items" "[I", .methodLink RX3 29 yX3_hasItem, .instanceMethod yX3_hasItem, .selects RX3 yX3_hasItem yX3_hasItem, .code yX3_hasItem cX3_hasItem 3 (some .boolean), .fieldLink RX3 9 "MutableCells$Rows" "lengths" "[I"] ++ wsX50 ++ wsX30)
def wsX5_frozen : List Cond := .code yX5_frozen cX5_frozen 2 (some .int) :: ([.fieldLink RX5 19 "MutableCells" "rows" "LMutableCells$Rows;", .methodLink RX5 104 yX5_isRow, .static yX5_isRow, .initialized RX5, .code yX5_isRow cX5_isRow 1 (some .boolean), .methodLink RX5 114 yX3_isFrozen, .instanceMethod yX3_isFrozen, .selects RX3 yX3_isFrozen yX3_isFrozen, .initialized RX3, .code yX3_isFrozen cX3_isFrozen 2 (some .boolean), .fieldLink RX3 15 "MutableCells$Rows" "ices" "[Z"] ++ wsX50 ++ wsX30)
def wsX5_put : List Cond := .code yX5_put cX5_put 4 (some .int) :: ([.fieldLink RX5 10 "MutableCells" "cells" "LMutableCells$Cells;", .methodLink RX5 95 yX5_isCell, .static yX5_isCell, .initialized RX5, .code yX5_isCell cX5_isCell 1 (some .boolean), .methodLink RX5 98 yX1_shown, .instanceMethod yX1_shown, .selects RX1 yX1_shown yX1_shown, .initialized RX1, .code yX1_shown cX1_shown 2 (some .int), .fieldLink RX1 15 "MutableCells$Cells" "partners" "[I", .fieldLink RX1 9 "MutableCells$Cells" "numbers" "[I", .methodLink RX5 117 yX1_hold, .instanceMethod yX1_hold, .selects RX1 yX1_hold yX1_hold, .code yX1_hold cX1_hold 3 none] ++ wsX50 ++ wsX10)
def wsX5_writes : List Cond := .code yX5_writes cX5_writes 1 (some .int) :: ([.fieldLink RX5 10 "MutableCells" "cells" "LMutableCells$Cells;"] ++ wsX50 ++ wsX10 ++ wsX20)
def wsX5_write : List Cond := .code yX5_write cX5_write 3 (some .int) :: ([.fieldLink RX5 10 "MutableCells" "cells" "LMutableCells$Cells;", .methodLink RX5 130 yX2_tell, .instanceMethod yX2_tell, .selects RX2 yX2_tell yX2_tell, .initialized RX2, .code yX2_tell cX2_tell 4 (some .int), .fieldLink RX2 25 "MutableCells$Log" "count" "I", .fieldLink RX2 21 "MutableCells$Log" "latest" "I", .fieldLink RX2 9 "MutableCells$Log" "threads" "[I", .fieldLink RX2 15 "MutableCells$Log" "places" "[I", .fieldLink RX2 18 "MutableCells$Log" "numbers" "[I"] ++ wsX50 ++ wsX10 ++ wsX20)
def wsX5_restart_r1 : List Cond := [Cond.fieldLink RX5 137 "MutableCells" "turnsDone" "I", Cond.fieldLink RX5 10 "MutableCells" "cells" "LMutableCells$Cells;", Cond.fieldLink RX5 19 "MutableCells" "rows" "LMutableCells$Rows;", Cond.fieldLink RX5 25 "MutableCells" "strands" "[LMutableCells$Strand;", Cond.methodLink RX5 140 yX1_reset, Cond.instanceMethod yX1_reset, Cond.selects RX1 yX1_reset yX1_reset, Cond.initialized RX1, Cond.code yX1_reset cX1_reset 1 none, Cond.fieldLink RX1 9 "MutableCells$Cells" "numbers" "[I", Cond.fieldLink RX1 15 "MutableCells$Cells" "partners" "[I", Cond.fieldLink RX1 24 "MutableCells$Cells" "log" "LMutableCells$Log;", Cond.methodLink RX1 31 yJ7_fill_53178, Cond.static yJ7_fill_53178, Cond.initialized RJ7, Cond.code yJ7_fill_53178 cJ7_fill_53178 4 none, Cond.methodLink RX5 143 yX3_reset, Cond.instanceMethod yX3_reset, Cond.selects RX3 yX3_reset yX3_reset, Cond.initialized RX3, Cond.code yX3_reset cX3_reset 2 none, Cond.fieldLink RX3 9 "MutableCells$Rows" "lengths" "[I", Cond.fieldLink RX3 15 "MutableCells$Rows" "ices" "[Z", Cond.methodLink RX5 32 yX5_strandOf]
def wsX5_restart_r2 : List Cond := [Cond.instanceMethod yX5_strandOf, Cond.selects RX5 yX5_strandOf yX5_strandOf, Cond.initialized RX5, Cond.code yX5_strandOf cX5_strandOf 2 (some (.object "MutableCells$Strand")), Cond.methodLink RX5 144 yX4_reset, Cond.instanceMethod yX4_reset, Cond.selects RX4 yX4_reset yX4_reset, Cond.initialized RX4, Cond.code yX4_reset cX4_reset 2 none, Cond.fieldLink RX4 41 "MutableCells$Strand" "acts" "I", Cond.fieldLink RX4 24 "MutableCells$Strand" "registers" "[I", Cond.fieldLink RX4 50 "MutableCells$Strand" "trys" "I", Cond.fieldLink RX4 33 "MutableCells$Strand" "atom" "LMutableCells$Atom;", Cond.fieldLink RX4 57 "MutableCells$Strand" "place" "I", Cond.fieldLink RX4 60 "MutableCells$Strand" "failure" "I", Cond.fieldLink RX4 63 "MutableCells$Strand" "turns" "I", Cond.fieldLink RX4 66 "MutableCells$Strand" "anews" "I", Cond.methodLink RX4 44 yJ7_fill_53178]
def wsX5_restart : List Cond := .code yX5_restart cX5_restart 5 (some .int) :: ((wsX5_restart_r1 ++ wsX5_restart_r2) ++ wsX50 ++ wsX10 ++ wsX20 ++ wsX30 ++ wsX40 ++ wsX00)
def wsX5_again_r1 : List Cond := [Cond.methodLink RX5 133 yX5_restart, Cond.instanceMethod yX5_restart, Cond.selects RX5 yX5_restart yX5_restart, Cond.initialized RX5, Cond.code yX5_restart cX5_restart 5 (some .int), Cond.fieldLink RX5 137 "MutableCells" "turnsDone" "I", Cond.fieldLink RX5 10 "MutableCells" "cells" "LMutableCells$Cells;", Cond.fieldLink RX5 19 "MutableCells" "rows" "LMutableCells$Rows;", Cond.fieldLink RX5 25 "MutableCells" "strands" "[LMutableCells$Strand;", Cond.methodLink RX5 140 yX1_reset, Cond.instanceMethod yX1_reset, Cond.selects RX1 yX1_reset yX1_reset, Cond.initialized RX1, Cond.code yX1_reset cX1_reset 1 none, Cond.fieldLink RX1 9 "MutableCells$Cells" "numbers" "[I", Cond.fieldLink RX1 15 "MutableCells$Cells" "partners" "[I", Cond.fieldLink RX1 24 "MutableCells$Cells" "log" "LMutableCells$Log;", Cond.methodLink RX1 31 yJ7_fill_53178, Cond.static yJ7_fill_53178, Cond.initialized RJ7, Cond.code yJ7_fill_53178 cJ7_fill_53178 4 none, Cond.methodLink RX5 143 yX3_reset, Cond.instanceMethod yX3_reset, Cond.selects RX3 yX3_reset yX3_reset]
def wsX5_again_r2 : List Cond := [Cond.initialized RX3, Cond.code yX3_reset cX3_reset 2 none, Cond.fieldLink RX3 9 "MutableCells$Rows" "lengths" "[I", Cond.fieldLink RX3 15 "MutableCells$Rows" "ices" "[Z", Cond.methodLink RX5 32 yX5_strandOf, Cond.instanceMethod yX5_strandOf, Cond.selects RX5 yX5_strandOf yX5_strandOf, Cond.code yX5_strandOf cX5_strandOf 2 (some (.object "MutableCells$Strand")), Cond.methodLink RX5 144 yX4_reset, Cond.instanceMethod yX4_reset, Cond.selects RX4 yX4_reset yX4_reset, Cond.initialized RX4, Cond.code yX4_reset cX4_reset 2 none, Cond.fieldLink RX4 41 "MutableCells$Strand" "acts" "I", Cond.fieldLink RX4 24 "MutableCells$Strand" "registers" "[I", Cond.fieldLink RX4 50 "MutableCells$Strand" "trys" "I", Cond.fieldLink RX4 33 "MutableCells$Strand" "atom" "LMutableCells$Atom;", Cond.fieldLink RX4 57 "MutableCells$Strand" "place" "I", Cond.fieldLink RX4 60 "MutableCells$Strand" "failure" "I", Cond.fieldLink RX4 63 "MutableCells$Strand" "turns" "I", Cond.fieldLink RX4 66 "MutableCells$Strand" "anews" "I", Cond.methodLink RX4 44 yJ7_fill_53178]
def wsX5_again : List Cond := .code yX5_again cX5_again 1 (some .int) :: ((wsX5_again_r1 ++ wsX5_again_r2) ++ wsX50 ++ wsX10 ++ wsX20 ++ wsX30 ++ wsX40 ++ wsX00)
def wsX5_clear_r1 : List Cond := [Cond.methodLink RX5 133 yX5_restart, Cond.instanceMethod yX5_restart, Cond.selects RX5 yX5_restart yX5_restart, Cond.initialized RX5, Cond.code yX5_restart cX5_restart 5 (some .int), Cond.fieldLink RX5 137 "MutableCells" "turnsDone" "I", Cond.fieldLink RX5 10 "MutableCells" "cells" "LMutableCells$Cells;", Cond.fieldLink RX5 19 "MutableCells" "rows" "LMutableCells$Rows;", Cond.fieldLink RX5 25 "MutableCells" "strands" "[LMutableCells$Strand;", Cond.methodLink RX5 140 yX1_reset, Cond.instanceMethod yX1_reset, Cond.selects RX1 yX1_reset yX1_reset, Cond.initialized RX1, Cond.code yX1_reset cX1_reset 1 none, Cond.fieldLink RX1 9 "MutableCells$Cells" "numbers" "[I", Cond.fieldLink RX1 15 "MutableCells$Cells" "partners" "[I", Cond.fieldLink RX1 24 "MutableCells$Cells" "log" "LMutableCells$Log;", Cond.methodLink RX1 31 yJ7_fill_53178, Cond.static yJ7_fill_53178, Cond.initialized RJ7, Cond.code yJ7_fill_53178 cJ7_fill_53178 4 none, Cond.methodLink RX5 143 yX3_reset, Cond.instanceMethod yX3_reset, Cond.selects RX3 yX3_reset yX3_reset]
def wsX5_clear_r2 : List Cond := [Cond.initialized RX3, Cond.code yX3_reset cX3_reset 2 none, Cond.fieldLink RX3 9 "MutableCells$Rows" "lengths" "[I", Cond.fieldLink RX3 15 "MutableCells$Rows" "ices" "[Z", Cond.methodLink RX5 32 yX5_strandOf, Cond.instanceMethod yX5_strandOf, Cond.selects RX5 yX5_strandOf yX5_strandOf, Cond.code yX5_strandOf cX5_strandOf 2 (some (.object "MutableCells$Strand")), Cond.methodLink RX5 144 yX4_reset, Cond.instanceMethod yX4_reset, Cond.selects RX4 yX4_reset yX4_reset, Cond.initialized RX4, Cond.code yX4_reset cX4_reset 2 none, Cond.fieldLink RX4 41 "MutableCells$Strand" "acts" "I", Cond.fieldLink RX4 24 "MutableCells$Strand" "registers" "[I", Cond.fieldLink RX4 50 "MutableCells$Strand" "trys" "I", Cond.fieldLink RX4 33 "MutableCells$Strand" "atom" "LMutableCells$Atom;", Cond.fieldLink RX4 57 "MutableCells$Strand" "place" "I", Cond.fieldLink RX4 60 "MutableCells$Strand" "failure" "I", Cond.fieldLink RX4 63 "MutableCells$Strand" "turns" "I", Cond.fieldLink RX4 66 "MutableCells$Strand" "anews" "I", Cond.methodLink RX4 44 yJ7_fill_53178]
def wsX5_clear : List Cond := .code yX5_clear cX5_clear 1 (some .int) :: ((wsX5_clear_r1 ++ wsX5_clear_r2) ++ wsX50 ++ wsX10 ++ wsX20 ++ wsX30 ++ wsX40 ++ wsX00)
def wsX6_begin : List Cond := .code yX6_begin cX6_begin 3 none :: ([.fieldLink RX6 7 "MutableCellsModel" "cells" "[I", .fieldLink RX6 13 "MutableCellsModel" "isLazy" "[Z", .fieldLink RX6 17 "MutableCellsModel" "isRead" "[Z", .fieldLink RX6 20 "MutableCellsModel" "sizes" "[I", .fieldLink RX6 26 "MutableCellsModel" "isFrozen" "[Z", .fieldLink RX6 47 "MutableCellsModel" "place" "[I", .fieldLink RX6 50 "MutableCellsModel" "failedBy" "[I", .fieldLink RX6 53 "MutableCellsModel" "hasFailed" "[Z", .fieldLink RX6 56 "MutableCellsModel" "turns" "[I", .fieldLink RX6 59 "MutableCellsModel" "anew" "[I", .fieldLink RX6 62 "MutableCellsModel" "tries" "[I", .fieldLink RX6 68 "MutableCellsModel" "isAtom" "[Z", .fieldLink RX6 44 "MutableCellsModel" "registers" "[I", .fieldLink RX6 107 "MutableCellsModel" "writes" "I"] ++ wsX60)
def wsX6_init_r1 : List Cond := [Cond.methodLink RX6 1 objectInit, Cond.instanceMethod objectInit, Cond.code objectInit ⟨#[0xb1]⟩ 1 none, Cond.arrayClass .int, Cond.fieldLink RX6 7 "MutableCellsModel" "cells" "[I", Cond.arrayClass .boolean, Cond.fieldLink RX6 13 "MutableCellsModel" "isLazy" "[Z", Cond.fieldLink RX6 17 "MutableCellsModel" "isRead" "[Z", Cond.fieldLink RX6 20 "MutableCellsModel" "sizes" "[I", Cond.fieldLink RX6 23 "MutableCellsModel" "items" "[I", Cond.fieldLink RX6 26 "MutableCellsModel" "isFrozen" "[Z", Cond.fieldLink RX6 29 "MutableCellsModel" "many" "[I", Cond.fieldLink RX6 32 "MutableCellsModel" "kind" "[I", Cond.fieldLink RX6 35 "MutableCellsModel" "actX" "[I", Cond.fieldLink RX6 38 "MutableCellsModel" "actY" "[I", Cond.fieldLink RX6 41 "MutableCellsModel" "actZ" "[I", Cond.fieldLink RX6 44 "MutableCellsModel" "registers" "[I", Cond.fieldLink RX6 47 "MutableCellsModel" "place" "[I", Cond.fieldLink RX6 50 "MutableCellsModel" "failedBy" "[I", Cond.fieldLink RX6 53 "MutableCellsModel" "hasFailed" "[Z", Cond.fieldLink RX6 56 "MutableCellsModel" "turns" "[I", Cond.fieldLink RX6 59 "MutableCellsModel" "anew" "[I", Cond.fieldLink RX6 62 "MutableCellsModel" "tries" "[I", Cond.fieldLink RX6 65 "MutableCellsModel" "tryPlace" "[I"]
def wsX6_init_r2 : List Cond := [Cond.fieldLink RX6 68 "MutableCellsModel" "isAtom" "[Z", Cond.fieldLink RX6 71 "MutableCellsModel" "atomTries" "[I", Cond.fieldLink RX6 74 "MutableCellsModel" "atomPlace" "[I", Cond.fieldLink RX6 77 "MutableCellsModel" "atomRegisters" "[I", Cond.fieldLink RX6 80 "MutableCellsModel" "wasRead" "[Z", Cond.fieldLink RX6 83 "MutableCellsModel" "firstRead" "[I", Cond.fieldLink RX6 86 "MutableCellsModel" "wasPut" "[Z", Cond.fieldLink RX6 89 "MutableCellsModel" "putThere" "[I", Cond.fieldLink RX6 92 "MutableCellsModel" "writeThread" "[I", Cond.fieldLink RX6 95 "MutableCellsModel" "writeCell" "[I", Cond.fieldLink RX6 98 "MutableCellsModel" "writeNumbe\x72" "[I", Cond.fieldLink RX6 101 "MutableCellsModel" "chain" "[I", Cond.methodLink RX6 104 yX6_begin, Cond.instanceMethod yX6_begin, Cond.selects RX6 yX6_begin yX6_begin, Cond.initialized RX6, Cond.code yX6_begin cX6_begin 3 none, Cond.fieldLink RX6 107 "MutableCellsModel" "writes" "I"]
def wsX6_init : List Cond := .code yX6_init cX6_init 1 none :: ((wsX6_init_r1 ++ wsX6_init_r2) ++ wsX60)
def wsX6_within : List Cond := .code yX6_within cX6_within 3 (some .boolean) :: ([])
def wsX6_isRegister : List Cond := .code yX6_isRegister cX6_isRegister 1 (some .boolean) :: ([.methodLink RX6 111 yX6_within, .static yX6_within, .initialized RX6, .code yX6_within cX6_within 3 (some .boolean)])
def wsX6_isCell : List Cond := .code yX6_isCell cX6_isCell 1 (some .boolean) :: ([.methodLink RX6 111 yX6_within, .static yX6_within, .initialized RX6, .code yX6_within cX6_within 3 (some .boolean)])
def wsX6_isPlaceIn : List Cond := .code yX6_isPlaceIn cX6_isPlaceIn 1 (some .boolean) :: ([.methodLink RX6 111 yX6_within, .static yX6_within, .initialized RX6, .code yX6_within cX6_within 3 (some .boolean)])
def wsX6_fits : List Cond := .code yX6_fits cX6_fits 4 (some .boolean) :: ([.methodLink RX6 115 yX6_isRegister, .static yX6_isRegister, .initialized RX6, .code yX6_isRegister cX6_isRegister 1 (some .boolean), .methodLink RX6 111 yX6_within, .static yX6_within, .code yX6_within cX6_within 3 (some .boolean), .methodLink RX6 119 yX6_isCell, .static yX6_isCell, .code yX6_isCell cX6_isCell 1 (some .boolean), .methodLink RX6 122 yX6_isPlaceIn, .static yX6_isPlaceIn, .code yX6_isPlaceIn cX6_isPlaceIn 1 (some .boolean)])
def wsX6_act : List Cond := .code yX6_act cX6_act 7 (some .int) :: ([.fieldLink RX6 56 "MutableCellsModel" "turns" "[I", .fieldLink RX6 29 "MutableCellsModel" "many" "[I", .fieldLink RX6 32 "MutableCellsModel" "kind" "[I", .fieldLink RX6 35 "MutableCellsModel" "actX" "[I", .fieldLink RX6 38 "MutableCellsModel" "actY" "[I", .fieldLink RX6 41 "MutableCellsModel" "actZ" "[I", .methodLink RX6 111 yX6_within, .static yX6_within, .initialized RX6, .code yX6_within cX6_within 3 (some .boolean), .methodLink RX6 125 yX6_fits, .static yX6_fits, .code yX6_fits cX6_fits 4 (some .boolean), .methodLink RX6 115 yX6_isRegister, .static yX6_isRegister, .code yX6_isRegister cX6_isRegister 1 (some .boolean), .methodLink RX6 119 yX6_isCell, .static yX6_isCell, .code yX6_isCell cX6_isCell 1 (some .boolean), .methodLink RX6 122 yX6_isPlaceIn, .static yX6_isPlaceIn, .code yX6_isPlaceIn cX6_isPlaceIn 1 (some .boolean)] ++ wsX60)
def wsX6_stateOf : List Cond := .code yX6_stateOf cX6_stateOf 2 (some .int) :: ([.fieldLink RX6 53 "MutableCellsModel" "hasFailed" "[Z", .fieldLink RX6 47 "MutableCellsModel" "place" "[I", .fieldLink RX6 29 "MutableCellsModel" "many" "[I", .fieldLink RX6 62 "MutableCellsModel" "tries" "[I", .fieldLink RX6 68 "MutableCellsModel" "isAtom" "[Z"] ++ wsX60)
def wsX6_note : List Cond := .code yX6_note cX6_note 4 none :: ([.fieldLink RX6 92 "MutableCellsModel" "writeThread" "[I", .fieldLink RX6 107 "MutableCellsModel" "writes" "I", .fieldLink RX6 95 "MutableCellsModel" "writeCell" "[I", .fieldLink RX6 98 "MutableCellsModel" "writeNumbe\x72" "[I"] ++ wsX60)
def wsX6_write : List Cond := .code yX6_write cX6_write 4 none :: ([.fieldLink RX6 7 "MutableCellsModel" "cells" "[I", .fieldLink RX6 13 "MutableCellsModel" "isLazy" "[Z", .methodLink RX6 129 yX6_note, .instanceMethod yX6_note, .selects RX6 yX6_note yX6_note, .initialized RX6, .code yX6_note cX6_note 4 none, .fieldLink RX6 92 "MutableCellsModel" "writeThread" "[I", .fieldLink RX6 107 "MutableCellsModel" "writes" "I", .fieldLink RX6 95 "MutableCellsModel" "writeCell" "[I", .fieldLink RX6 98 "MutableCellsModel" "writeNumbe\x72" "[I"] ++ wsX60)
def wsX6_readPlain : List Cond := .code yX6_readPlain cX6_readPlain 8 (some .int) :: ([.fieldLink RX6 17 "MutableCellsModel" "isRead" "[Z", .fieldLink RX6 13 "MutableCellsModel" "isLazy" "[Z", .fieldLink RX6 101 "MutableCellsModel" "chain" "[I", .fieldLink RX6 7 "MutableCellsModel" "cells" "[I", .fieldLink RX6 133 "MutableCellsModel" "failure" "I", .methodLink RX6 136 yX6_write, .instanceMethod yX6_write, .selects RX6 yX6_write yX6_write, .initialized RX6, .code yX6_write cX6_write 4 none, .methodLink RX6 129 yX6_note, .instanceMethod yX6_note, .selects RX6 yX6_note yX6_note, .code yX6_note cX6_note 4 none, .fieldLink RX6 92 "MutableCellsModel" "writeThread" "[I", .fieldLink RX6 107 "MutableCellsModel" "writes" "I", .fieldLink RX6 95 "MutableCellsModel" "writeCell" "[I", .fieldLink RX6 98 "MutableCellsModel" "writeNumbe\x72" "[I"] ++ wsX60)
def wsX6_read_r1 : List Cond := [Cond.fieldLink RX6 68 "MutableCellsModel" "isAtom" "[Z", Cond.fieldLink RX6 86 "MutableCellsModel" "wasPut" "[Z", Cond.fieldLink RX6 89 "MutableCellsModel" "putThere" "[I", Cond.fieldLink RX6 13 "MutableCellsModel" "isLazy" "[Z", Cond.fieldLink RX6 133 "MutableCellsModel" "failure" "I", Cond.fieldLink RX6 80 "MutableCellsModel" "wasRead" "[Z", Cond.fieldLink RX6 83 "MutableCellsModel" "firstRead" "[I", Cond.fieldLink RX6 7 "MutableCellsModel" "cells" "[I", Cond.methodLink RX6 139 yX6_readPlain, Cond.instanceMethod yX6_readPlain, Cond.selects RX6 yX6_readPlain yX6_readPlain, Cond.initialized RX6, Cond.code yX6_readPlain cX6_readPlain 8 (some .int), Cond.fieldLink RX6 17 "MutableCellsModel" "isRead" "[Z", Cond.fieldLink RX6 101 "MutableCellsModel" "chain" "[I", Cond.methodLink RX6 136 yX6_write, Cond.instanceMethod yX6_write, Cond.selects RX6 yX6_write yX6_write, Cond.code yX6_write cX6_write 4 none, Cond.methodLink RX6 129 yX6_note, Cond.instanceMethod yX6_note, Cond.selects RX6 yX6_note yX6_note, Cond.code yX6_note cX6_note 4 none, Cond.fieldLink RX6 92 "MutableCellsModel" "writeThread" "[I"]
def wsX6_read_r2 : List Cond := [Cond.fieldLink RX6 107 "MutableCellsModel" "writes" "I", Cond.fieldLink RX6 95 "MutableCellsModel" "writeCell" "[I", Cond.fieldLink RX6 98 "MutableCellsModel" "writeNumbe\x72" "[I"]
def wsX6_read : List Cond := .code yX6_read cX6_read 4 (some .int) :: ((wsX6_read_r1 ++ wsX6_read_r2) ++ wsX60)
def wsX6_lay : List Cond := .code yX6_lay cX6_lay 4 none :: ([.fieldLink RX6 68 "MutableCellsModel" "isAtom" "[Z", .fieldLink RX6 86 "MutableCellsModel" "wasPut" "[Z", .fieldLink RX6 89 "MutableCellsModel" "putThere" "[I", .methodLink RX6 136 yX6_write, .instanceMethod yX6_write, .selects RX6 yX6_write yX6_write, .initialized RX6, .code yX6_write cX6_write 4 none, .fieldLink RX6 7 "MutableCellsModel" "cells" "[I", .fieldLink RX6 13 "MutableCellsModel" "isLazy" "[Z", .methodLink RX6 129 yX6_note, .instanceMethod yX6_note, .selects RX6 yX6_note yX6_note, .code yX6_note cX6_note 4 none, .fieldLink RX6 92 "MutableCellsModel" "writeThread" "[I", .fieldLink RX6 107 "MutableCellsModel" "writes" "I", .fieldLink RX6 95 "MutableCellsModel" "writeCell" "[I", .fieldLink RX6 98 "MutableCellsModel" "writeNumbe\x72" "[I"] ++ wsX60)
def wsX6_clearAtom : List Cond := .code yX6_clearAtom cX6_clearAtom 3 none :: ([.fieldLink RX6 80 "MutableCellsModel" "wasRead" "[Z", .fieldLink RX6 86 "MutableCellsModel" "wasPut" "[Z"] ++ wsX60)
def wsX6_beginAtom : List Cond := .code yX6_beginAtom cX6_beginAtom 3 none :: ([.fieldLink RX6 68 "MutableCellsModel" "isAtom" "[Z", .fieldLink RX6 133 "MutableCellsModel" "failure" "I", .fieldLink RX6 71 "MutableCellsModel" "atomTries" "[I", .fieldLink RX6 62 "MutableCellsModel" "tries" "[I", .fieldLink RX6 74 "MutableCellsModel" "atomPlace" "[I", .fieldLink RX6 47 "MutableCellsModel" "place" "[I", .fieldLink RX6 77 "MutableCellsModel" "atomRegisters" "[I", .fieldLink RX6 44 "MutableCellsModel" "registers" "[I", .methodLink RX6 143 yX6_clearAtom, .instanceMethod yX6_clearAtom, .selects RX6 yX6_clearAtom yX6_clearAtom, .initialized RX6, .code yX6_clearAtom cX6_clearAtom 3 none, .fieldLink RX6 80 "MutableCellsModel" "wasRead" "[Z", .fieldLink RX6 86 "MutableCellsModel" "wasPut" "[Z"] ++ wsX60)
def wsX6_endAtom_r1 : List Cond := [Cond.fieldLink RX6 68 "MutableCellsModel" "isAtom" "[Z", Cond.fieldLink RX6 62 "MutableCellsModel" "tries" "[I", Cond.fieldLink RX6 71 "MutableCellsModel" "atomTries" "[I", Cond.fieldLink RX6 133 "MutableCellsModel" "failure" "I", Cond.fieldLink RX6 80 "MutableCellsModel" "wasRead" "[Z", Cond.fieldLink RX6 13 "MutableCellsModel" "isLazy" "[Z", Cond.fieldLink RX6 7 "MutableCellsModel" "cells" "[I", Cond.fieldLink RX6 83 "MutableCellsModel" "firstRead" "[I", Cond.fieldLink RX6 59 "MutableCellsModel" "anew" "[I", Cond.fieldLink RX6 44 "MutableCellsModel" "registers" "[I", Cond.fieldLink RX6 77 "MutableCellsModel" "atomRegisters" "[I", Cond.fieldLink RX6 74 "MutableCellsModel" "atomPlace" "[I", Cond.fieldLink RX6 86 "MutableCellsModel" "wasPut" "[Z", Cond.fieldLink RX6 89 "MutableCellsModel" "putThere" "[I", Cond.fieldLink RX6 47 "MutableCellsModel" "place" "[I", Cond.methodLink RX6 143 yX6_clearAtom, Cond.instanceMethod yX6_clearAtom, Cond.selects RX6 yX6_clearAtom yX6_clearAtom, Cond.initialized RX6, Cond.code yX6_clearAtom cX6_clearAtom 3 none, Cond.methodLink RX6 136 yX6_write, Cond.instanceMethod yX6_write, Cond.selects RX6 yX6_write yX6_write, Cond.code yX6_write cX6_write 4 none]
def wsX6_endAtom_r2 : List Cond := [Cond.methodLink RX6 129 yX6_note, Cond.instanceMethod yX6_note, Cond.selects RX6 yX6_note yX6_note, Cond.code yX6_note cX6_note 4 none, Cond.fieldLink RX6 92 "MutableCellsModel" "writeThread" "[I", Cond.fieldLink RX6 107 "MutableCellsModel" "writes" "I", Cond.fieldLink RX6 95 "MutableCellsModel" "writeCell" "[I", Cond.fieldLink RX6 98 "MutableCellsModel" "writeNumbe\x72" "[I"]
def wsX6_endAtom : List Cond := .code yX6_endAtom cX6_endAtom 5 (some .int) :: ((wsX6_endAtom_r1 ++ wsX6_endAtom_r2) ++ wsX60)
def wsX6_r : List Cond := .code yX6_r cX6_r 3 (some .int) :: ([.fieldLink RX6 44 "MutableCellsModel" "registers" "[I"] ++ wsX60)
def wsX6_give : List Cond := .code yX6_give cX6_give 4 none :: ([.fieldLink RX6 133 "MutableCellsModel" "failure" "I", .fieldLink RX6 44 "MutableCellsModel" "registers" "[I"] ++ wsX60)
def wsX6_checkItem : List Cond := .code yX6_checkItem cX6_checkItem 3 none :: ([.fieldLink RX6 20 "MutableCellsModel" "sizes" "[I", .fieldLink RX6 133 "MutableCellsModel" "failure" "I", .methodLink RX6 111 yX6_within, .static yX6_within, .initialized RX6, .code yX6_within cX6_within 3 (some .boolean)] ++ wsX60)
def wsX6_compute : List Cond := .code yX6_compute cX6_compute 6 none :: ([.fieldLink RX6 133 "MutableCellsModel" "failure" "I", .methodLink RX6 147 yX6_give, .instanceMethod yX6_give, .selects RX6 yX6_give yX6_give, .initialized RX6, .code yX6_give cX6_give 4 none, .fieldLink RX6 44 "MutableCellsModel" "registers" "[I"] ++ wsX60)
def wsX6_swap_r1 : List Cond := [Cond.fieldLink RX6 133 "MutableCellsModel" "failure" "I", Cond.methodLink RX6 150 yX6_read, Cond.instanceMethod yX6_read, Cond.selects RX6 yX6_read yX6_read, Cond.initialized RX6, Cond.code yX6_read cX6_read 4 (some .int), Cond.fieldLink RX6 68 "MutableCellsModel" "isAtom" "[Z", Cond.fieldLink RX6 86 "MutableCellsModel" "wasPut" "[Z", Cond.fieldLink RX6 89 "MutableCellsModel" "putThere" "[I", Cond.fieldLink RX6 13 "MutableCellsModel" "isLazy" "[Z", Cond.fieldLink RX6 80 "MutableCellsModel" "wasRead" "[Z", Cond.fieldLink RX6 83 "MutableCellsModel" "firstRead" "[I", Cond.fieldLink RX6 7 "MutableCellsModel" "cells" "[I", Cond.methodLink RX6 139 yX6_readPlain, Cond.instanceMethod yX6_readPlain, Cond.selects RX6 yX6_readPlain yX6_readPlain, Cond.code yX6_readPlain cX6_readPlain 8 (some .int), Cond.fieldLink RX6 17 "MutableCellsModel" "isRead" "[Z", Cond.fieldLink RX6 101 "MutableCellsModel" "chain" "[I", Cond.methodLink RX6 136 yX6_write, Cond.instanceMethod yX6_write, Cond.selects RX6 yX6_write yX6_write, Cond.code yX6_write cX6_write 4 none, Cond.methodLink RX6 129 yX6_note]
def wsX6_swap_r2 : List Cond := [Cond.instanceMethod yX6_note, Cond.selects RX6 yX6_note yX6_note, Cond.code yX6_note cX6_note 4 none, Cond.fieldLink RX6 92 "MutableCellsModel" "writeThread" "[I", Cond.fieldLink RX6 107 "MutableCellsModel" "writes" "I", Cond.fieldLink RX6 95 "MutableCellsModel" "writeCell" "[I", Cond.fieldLink RX6 98 "MutableCellsModel" "writeNumbe\x72" "[I", Cond.methodLink RX6 153 yX6_r, Cond.instanceMethod yX6_r, Cond.selects RX6 yX6_r yX6_r, Cond.code yX6_r cX6_r 3 (some .int), Cond.fieldLink RX6 44 "MutableCellsModel" "registers" "[I", Cond.methodLink RX6 156 yX6_lay, Cond.instanceMethod yX6_lay, Cond.selects RX6 yX6_lay yX6_lay, Cond.code yX6_lay cX6_lay 4 none, Cond.methodLink RX6 147 yX6_give, Cond.instanceMethod yX6_give, Cond.selects RX6 yX6_give yX6_give, Cond.code yX6_give cX6_give 4 none]
def wsX6_swap : List Cond := .code yX6_swap cX6_swap 7 none :: ((wsX6_swap_r1 ++ wsX6_swap_r2) ++ wsX60)
def wsX6_rows : List Cond := .code yX6_rows cX6_rows 8 none :: ([.fieldLink RX6 133 "MutableCellsModel" "failure" "I", .fieldLink RX6 23 "MutableCellsModel" "items" "[I", .fieldLink RX6 26 "MutableCellsModel" "isFrozen" "[Z", .fieldLink RX6 20 "MutableCellsModel" "sizes" "[I", .fieldLink RX6 7 "MutableCellsModel" "cells" "[I", .fieldLink RX6 13 "MutableCellsModel" "isLazy" "[Z", .methodLink RX6 153 yX6_r, .instanceMethod yX6_r, .selects RX6 yX6_r yX6_r, .initialized RX6, .code yX6_r cX6_r 3 (some .int), .fieldLink RX6 44 "MutableCellsModel" "registers" "[I", .methodLink RX6 159 yX6_checkItem, .instanceMethod yX6_checkItem, .selects RX6 yX6_checkItem yX6_checkItem, .code yX6_checkItem cX6_checkItem 3 none, .methodLink RX6 111 yX6_within, .static yX6_within, .code yX6_within cX6_within 3 (some .boolean), .methodLink RX6 147 yX6_give, .instanceMethod yX6_give, .selects RX6 yX6_give yX6_give, .code yX6_give cX6_give 4 none] ++ wsX60)
def wsX6_doAct_r1 : List Cond := [Cond.fieldLink RX6 47 "MutableCellsModel" "place" "[I", Cond.fieldLink RX6 32 "MutableCellsModel" "kind" "[I", Cond.fieldLink RX6 35 "MutableCellsModel" "actX" "[I", Cond.fieldLink RX6 38 "MutableCellsModel" "actY" "[I", Cond.fieldLink RX6 41 "MutableCellsModel" "actZ" "[I", Cond.fieldLink RX6 62 "MutableCellsModel" "tries" "[I", Cond.fieldLink RX6 133 "MutableCellsModel" "failure" "I", Cond.fieldLink RX6 65 "MutableCellsModel" "tryPlace" "[I", Cond.fieldLink RX6 68 "MutableCellsModel" "isAtom" "[Z", Cond.fieldLink RX6 71 "MutableCellsModel" "atomTries" "[I", Cond.methodLink RX6 147 yX6_give, Cond.instanceMethod yX6_give, Cond.selects RX6 yX6_give yX6_give, Cond.initialized RX6, Cond.code yX6_give cX6_give 4 none, Cond.fieldLink RX6 44 "MutableCellsModel" "registers" "[I", Cond.methodLink RX6 150 yX6_read, Cond.instanceMethod yX6_read, Cond.selects RX6 yX6_read yX6_read, Cond.code yX6_read cX6_read 4 (some .int), Cond.fieldLink RX6 86 "MutableCellsModel" "wasPut" "[Z", Cond.fieldLink RX6 89 "MutableCellsModel" "putThere" "[I", Cond.fieldLink RX6 13 "MutableCellsModel" "isLazy" "[Z", Cond.fieldLink RX6 80 "MutableCellsModel" "wasRead" "[Z"]
def wsX6_doAct_r2 : List Cond := [Cond.fieldLink RX6 83 "MutableCellsModel" "firstRead" "[I", Cond.fieldLink RX6 7 "MutableCellsModel" "cells" "[I", Cond.methodLink RX6 139 yX6_readPlain, Cond.instanceMethod yX6_readPlain, Cond.selects RX6 yX6_readPlain yX6_readPlain, Cond.code yX6_readPlain cX6_readPlain 8 (some .int), Cond.fieldLink RX6 17 "MutableCellsModel" "isRead" "[Z", Cond.fieldLink RX6 101 "MutableCellsModel" "chain" "[I", Cond.methodLink RX6 136 yX6_write, Cond.instanceMethod yX6_write, Cond.selects RX6 yX6_write yX6_write, Cond.code yX6_write cX6_write 4 none, Cond.methodLink RX6 129 yX6_note, Cond.instanceMethod yX6_note, Cond.selects RX6 yX6_note yX6_note, Cond.code yX6_note cX6_note 4 none, Cond.fieldLink RX6 92 "MutableCellsModel" "writeThread" "[I", Cond.fieldLink RX6 107 "MutableCellsModel" "writes" "I", Cond.fieldLink RX6 95 "MutableCellsModel" "writeCell" "[I", Cond.fieldLink RX6 98 "MutableCellsModel" "writeNumbe\x72" "[I", Cond.methodLink RX6 153 yX6_r, Cond.instanceMethod yX6_r, Cond.selects RX6 yX6_r yX6_r, Cond.code yX6_r cX6_r 3 (some .int)]
def wsX6_doAct_r3 : List Cond := [Cond.methodLink RX6 156 yX6_lay, Cond.instanceMethod yX6_lay, Cond.selects RX6 yX6_lay yX6_lay, Cond.code yX6_lay cX6_lay 4 none, Cond.methodLink RX6 163 yX6_compute, Cond.instanceMethod yX6_compute, Cond.selects RX6 yX6_compute yX6_compute, Cond.code yX6_compute cX6_compute 6 none, Cond.methodLink RX6 167 yX6_swap, Cond.instanceMethod yX6_swap, Cond.selects RX6 yX6_swap yX6_swap, Cond.code yX6_swap cX6_swap 7 none, Cond.methodLink RX6 171 yX6_beginAtom, Cond.instanceMethod yX6_beginAtom, Cond.selects RX6 yX6_beginAtom yX6_beginAtom, Cond.code yX6_beginAtom cX6_beginAtom 3 none, Cond.fieldLink RX6 74 "MutableCellsModel" "atomPlace" "[I", Cond.fieldLink RX6 77 "MutableCellsModel" "atomRegisters" "[I", Cond.methodLink RX6 143 yX6_clearAtom, Cond.instanceMethod yX6_clearAtom, Cond.selects RX6 yX6_clearAtom yX6_clearAtom, Cond.code yX6_clearAtom cX6_clearAtom 3 none, Cond.methodLink RX6 174 yX6_endAtom, Cond.instanceMethod yX6_endAtom]
def wsX6_doAct_r4 : List Cond := [Cond.selects RX6 yX6_endAtom yX6_endAtom, Cond.code yX6_endAtom cX6_endAtom 5 (some .int), Cond.fieldLink RX6 59 "MutableCellsModel" "anew" "[I", Cond.methodLink RX6 178 yX6_rows, Cond.instanceMethod yX6_rows, Cond.selects RX6 yX6_rows yX6_rows, Cond.code yX6_rows cX6_rows 8 none, Cond.fieldLink RX6 23 "MutableCellsModel" "items" "[I", Cond.fieldLink RX6 26 "MutableCellsModel" "isFrozen" "[Z", Cond.fieldLink RX6 20 "MutableCellsModel" "sizes" "[I", Cond.methodLink RX6 159 yX6_checkItem, Cond.instanceMethod yX6_checkItem, Cond.selects RX6 yX6_checkItem yX6_checkItem, Cond.code yX6_checkItem cX6_checkItem 3 none, Cond.methodLink RX6 111 yX6_within, Cond.static yX6_within, Cond.code yX6_within cX6_within 3 (some .boolean)]
def wsX6_doAct : List Cond := .code yX6_doAct cX6_doAct 9 (some .int) :: ((wsX6_doAct_r1 ++ (wsX6_doAct_r2 ++ (wsX6_doAct_r3 ++ wsX6_doAct_r4))) ++ wsX60)
def wsX6_fail : List Cond := .code yX6_fail cX6_fail 2 none :: ([.fieldLink RX6 181 "MutableCellsModel" "failures" "I", .fieldLink RX6 62 "MutableCellsModel" "tries" "[I", .fieldLink RX6 53 "MutableCellsModel" "hasFailed" "[Z", .fieldLink RX6 50 "MutableCellsModel" "failedBy" "[I", .fieldLink RX6 133 "MutableCellsModel" "failure" "I", .fieldLink RX6 68 "MutableCellsModel" "isAtom" "[Z", .fieldLink RX6 44 "MutableCellsModel" "registers" "[I", .fieldLink RX6 47 "MutableCellsModel" "place" "[I", .fieldLink RX6 65 "MutableCellsModel" "tryPlace" "[I", .fieldLink RX6 71 "MutableCellsModel" "atomTries" "[I"] ++ wsX60)
def wsX6_doTurn_r1 : List Cond := [Cond.fieldLink RX6 133 "MutableCellsModel" "failure" "I", Cond.fieldLink RX6 56 "MutableCellsModel" "turns" "[I", Cond.fieldLink RX6 47 "MutableCellsModel" "place" "[I", Cond.fieldLink RX6 29 "MutableCellsModel" "many" "[I", Cond.methodLink RX6 184 yX6_doAct, Cond.instanceMethod yX6_doAct, Cond.selects RX6 yX6_doAct yX6_doAct, Cond.initialized RX6, Cond.code yX6_doAct cX6_doAct 9 (some .int), Cond.fieldLink RX6 32 "MutableCellsModel" "kind" "[I", Cond.fieldLink RX6 35 "MutableCellsModel" "actX" "[I", Cond.fieldLink RX6 38 "MutableCellsModel" "actY" "[I", Cond.fieldLink RX6 41 "MutableCellsModel" "actZ" "[I", Cond.fieldLink RX6 62 "MutableCellsModel" "tries" "[I", Cond.fieldLink RX6 65 "MutableCellsModel" "tryPlace" "[I", Cond.fieldLink RX6 68 "MutableCellsModel" "isAtom" "[Z", Cond.fieldLink RX6 71 "MutableCellsModel" "atomTries" "[I", Cond.methodLink RX6 147 yX6_give, Cond.instanceMethod yX6_give, Cond.selects RX6 yX6_give yX6_give, Cond.code yX6_give cX6_give 4 none, Cond.fieldLink RX6 44 "MutableCellsModel" "registers" "[I", Cond.methodLink RX6 150 yX6_read, Cond.instanceMethod yX6_read]
def wsX6_doTurn_r2 : List Cond := [Cond.selects RX6 yX6_read yX6_read, Cond.code yX6_read cX6_read 4 (some .int), Cond.fieldLink RX6 86 "MutableCellsModel" "wasPut" "[Z", Cond.fieldLink RX6 89 "MutableCellsModel" "putThere" "[I", Cond.fieldLink RX6 13 "MutableCellsModel" "isLazy" "[Z", Cond.fieldLink RX6 80 "MutableCellsModel" "wasRead" "[Z", Cond.fieldLink RX6 83 "MutableCellsModel" "firstRead" "[I", Cond.fieldLink RX6 7 "MutableCellsModel" "cells" "[I", Cond.methodLink RX6 139 yX6_readPlain, Cond.instanceMethod yX6_readPlain, Cond.selects RX6 yX6_readPlain yX6_readPlain, Cond.code yX6_readPlain cX6_readPlain 8 (some .int), Cond.fieldLink RX6 17 "MutableCellsModel" "isRead" "[Z", Cond.fieldLink RX6 101 "MutableCellsModel" "chain" "[I", Cond.methodLink RX6 136 yX6_write, Cond.instanceMethod yX6_write, Cond.selects RX6 yX6_write yX6_write, Cond.code yX6_write cX6_write 4 none, Cond.methodLink RX6 129 yX6_note, Cond.instanceMethod yX6_note, Cond.selects RX6 yX6_note yX6_note, Cond.code yX6_note cX6_note 4 none, Cond.fieldLink RX6 92 "MutableCellsModel" "writeThread" "[I", Cond.fieldLink RX6 107 "MutableCellsModel" "writes" "I"]
def wsX6_doTurn_r3 : List Cond := [Cond.fieldLink RX6 95 "MutableCellsModel" "writeCell" "[I", Cond.fieldLink RX6 98 "MutableCellsModel" "writeNumbe\x72" "[I", Cond.methodLink RX6 153 yX6_r, Cond.instanceMethod yX6_r, Cond.selects RX6 yX6_r yX6_r, Cond.code yX6_r cX6_r 3 (some .int), Cond.methodLink RX6 156 yX6_lay, Cond.instanceMethod yX6_lay, Cond.selects RX6 yX6_lay yX6_lay, Cond.code yX6_lay cX6_lay 4 none, Cond.methodLink RX6 163 yX6_compute, Cond.instanceMethod yX6_compute, Cond.selects RX6 yX6_compute yX6_compute, Cond.code yX6_compute cX6_compute 6 none, Cond.methodLink RX6 167 yX6_swap, Cond.instanceMethod yX6_swap, Cond.selects RX6 yX6_swap yX6_swap, Cond.code yX6_swap cX6_swap 7 none, Cond.methodLink RX6 171 yX6_beginAtom, Cond.instanceMethod yX6_beginAtom, Cond.selects RX6 yX6_beginAtom yX6_beginAtom, Cond.code yX6_beginAtom cX6_beginAtom 3 none, Cond.fieldLink RX6 74 "MutableCellsModel" "atomPlace" "[I", Cond.fieldLink RX6 77 "MutableCellsModel" "atomRegisters" "[I"]
def wsX6_doTurn_r4 : List Cond := [Cond.methodLink RX6 143 yX6_clearAtom, Cond.instanceMethod yX6_clearAtom, Cond.selects RX6 yX6_clearAtom yX6_clearAtom, Cond.code yX6_clearAtom cX6_clearAtom 3 none, Cond.methodLink RX6 174 yX6_endAtom, Cond.instanceMethod yX6_endAtom, Cond.selects RX6 yX6_endAtom yX6_endAtom, Cond.code yX6_endAtom cX6_endAtom 5 (some .int), Cond.fieldLink RX6 59 "MutableCellsModel" "anew" "[I", Cond.methodLink RX6 178 yX6_rows, Cond.instanceMethod yX6_rows, Cond.selects RX6 yX6_rows yX6_rows, Cond.code yX6_rows cX6_rows 8 none, Cond.fieldLink RX6 23 "MutableCellsModel" "items" "[I", Cond.fieldLink RX6 26 "MutableCellsModel" "isFrozen" "[Z", Cond.fieldLink RX6 20 "MutableCellsModel" "sizes" "[I", Cond.methodLink RX6 159 yX6_checkItem, Cond.instanceMethod yX6_checkItem, Cond.selects RX6 yX6_checkItem yX6_checkItem, Cond.code yX6_checkItem cX6_checkItem 3 none, Cond.methodLink RX6 111 yX6_within, Cond.static yX6_within, Cond.code yX6_within cX6_within 3 (some .boolean), Cond.methodLink RX6 187 yX6_fail]
def wsX6_doTurn_r5 : List Cond := [Cond.instanceMethod yX6_fail, Cond.selects RX6 yX6_fail yX6_fail, Cond.code yX6_fail cX6_fail 2 none, Cond.fieldLink RX6 181 "MutableCellsModel" "failures" "I", Cond.fieldLink RX6 53 "MutableCellsModel" "hasFailed" "[Z", Cond.fieldLink RX6 50 "MutableCellsModel" "failedBy" "[I"]
def wsX6_doTurn : List Cond := .code yX6_doTurn cX6_doTurn 3 none :: ((wsX6_doTurn_r1 ++ (wsX6_doTurn_r2 ++ (wsX6_doTurn_r3 ++ (wsX6_doTurn_r4 ++ wsX6_doTurn_r5)))) ++ wsX60)
def wsX6_turn_r1 : List Cond := [Cond.fieldLink RX6 181 "MutableCellsModel" "failures" "I", Cond.methodLink RX6 111 yX6_within, Cond.static yX6_within, Cond.initialized RX6, Cond.code yX6_within cX6_within 3 (some .boolean), Cond.methodLink RX6 190 yX6_stateOf, Cond.instanceMethod yX6_stateOf, Cond.selects RX6 yX6_stateOf yX6_stateOf, Cond.code yX6_stateOf cX6_stateOf 2 (some .int), Cond.fieldLink RX6 53 "MutableCellsModel" "hasFailed" "[Z", Cond.fieldLink RX6 47 "MutableCellsModel" "place" "[I", Cond.fieldLink RX6 29 "MutableCellsModel" "many" "[I", Cond.fieldLink RX6 62 "MutableCellsModel" "tries" "[I", Cond.fieldLink RX6 68 "MutableCellsModel" "isAtom" "[Z", Cond.methodLink RX6 193 yX6_doTurn, Cond.instanceMethod yX6_doTurn, Cond.selects RX6 yX6_doTurn yX6_doTurn, Cond.code yX6_doTurn cX6_doTurn 3 none, Cond.fieldLink RX6 133 "MutableCellsModel" "failure" "I", Cond.fieldLink RX6 56 "MutableCellsModel" "turns" "[I", Cond.methodLink RX6 184 yX6_doAct, Cond.instanceMethod yX6_doAct, Cond.selects RX6 yX6_doAct yX6_doAct, Cond.code yX6_doAct cX6_doAct 9 (some .int)]
def wsX6_turn_r2 : List Cond := [Cond.fieldLink RX6 32 "MutableCellsModel" "kind" "[I", Cond.fieldLink RX6 35 "MutableCellsModel" "actX" "[I", Cond.fieldLink RX6 38 "MutableCellsModel" "actY" "[I", Cond.fieldLink RX6 41 "MutableCellsModel" "actZ" "[I", Cond.fieldLink RX6 65 "MutableCellsModel" "tryPlace" "[I", Cond.fieldLink RX6 71 "MutableCellsModel" "atomTries" "[I", Cond.methodLink RX6 147 yX6_give, Cond.instanceMethod yX6_give, Cond.selects RX6 yX6_give yX6_give, Cond.code yX6_give cX6_give 4 none, Cond.fieldLink RX6 44 "MutableCellsModel" "registers" "[I", Cond.methodLink RX6 150 yX6_read, Cond.instanceMethod yX6_read, Cond.selects RX6 yX6_read yX6_read, Cond.code yX6_read cX6_read 4 (some .int), Cond.fieldLink RX6 86 "MutableCellsModel" "wasPut" "[Z", Cond.fieldLink RX6 89 "MutableCellsModel" "putThere" "[I", Cond.fieldLink RX6 13 "MutableCellsModel" "isLazy" "[Z", Cond.fieldLink RX6 80 "MutableCellsModel" "wasRead" "[Z", Cond.fieldLink RX6 83 "MutableCellsModel" "firstRead" "[I", Cond.fieldLink RX6 7 "MutableCellsModel" "cells" "[I", Cond.methodLink RX6 139 yX6_readPlain, Cond.instanceMethod yX6_readPlain, Cond.selects RX6 yX6_readPlain yX6_readPlain]
def wsX6_turn_r3 : List Cond := [Cond.code yX6_readPlain cX6_readPlain 8 (some .int), Cond.fieldLink RX6 17 "MutableCellsModel" "isRead" "[Z", Cond.fieldLink RX6 101 "MutableCellsModel" "chain" "[I", Cond.methodLink RX6 136 yX6_write, Cond.instanceMethod yX6_write, Cond.selects RX6 yX6_write yX6_write, Cond.code yX6_write cX6_write 4 none, Cond.methodLink RX6 129 yX6_note, Cond.instanceMethod yX6_note, Cond.selects RX6 yX6_note yX6_note, Cond.code yX6_note cX6_note 4 none, Cond.fieldLink RX6 92 "MutableCellsModel" "writeThread" "[I", Cond.fieldLink RX6 107 "MutableCellsModel" "writes" "I", Cond.fieldLink RX6 95 "MutableCellsModel" "writeCell" "[I", Cond.fieldLink RX6 98 "MutableCellsModel" "writeNumbe\x72" "[I", Cond.methodLink RX6 153 yX6_r, Cond.instanceMethod yX6_r, Cond.selects RX6 yX6_r yX6_r, Cond.code yX6_r cX6_r 3 (some .int), Cond.methodLink RX6 156 yX6_lay, Cond.instanceMethod yX6_lay, Cond.selects RX6 yX6_lay yX6_lay, Cond.code yX6_lay cX6_lay 4 none, Cond.methodLink RX6 163 yX6_compute]
def wsX6_turn_r4 : List Cond := [Cond.instanceMethod yX6_compute, Cond.selects RX6 yX6_compute yX6_compute, Cond.code yX6_compute cX6_compute 6 none, Cond.methodLink RX6 167 yX6_swap, Cond.instanceMethod yX6_swap, Cond.selects RX6 yX6_swap yX6_swap, Cond.code yX6_swap cX6_swap 7 none, Cond.methodLink RX6 171 yX6_beginAtom, Cond.instanceMethod yX6_beginAtom, Cond.selects RX6 yX6_beginAtom yX6_beginAtom, Cond.code yX6_beginAtom cX6_beginAtom 3 none, Cond.fieldLink RX6 74 "MutableCellsModel" "atomPlace" "[I", Cond.fieldLink RX6 77 "MutableCellsModel" "atomRegisters" "[I", Cond.methodLink RX6 143 yX6_clearAtom, Cond.instanceMethod yX6_clearAtom, Cond.selects RX6 yX6_clearAtom yX6_clearAtom, Cond.code yX6_clearAtom cX6_clearAtom 3 none, Cond.methodLink RX6 174 yX6_endAtom, Cond.instanceMethod yX6_endAtom, Cond.selects RX6 yX6_endAtom yX6_endAtom, Cond.code yX6_endAtom cX6_endAtom 5 (some .int), Cond.fieldLink RX6 59 "MutableCellsModel" "anew" "[I", Cond.methodLink RX6 178 yX6_rows, Cond.instanceMethod yX6_rows]
def wsX6_turn_r5 : List Cond := [Cond.selects RX6 yX6_rows yX6_rows, Cond.code yX6_rows cX6_rows 8 none, Cond.fieldLink RX6 23 "MutableCellsModel" "items" "[I", Cond.fieldLink RX6 26 "MutableCellsModel" "isFrozen" "[Z", Cond.fieldLink RX6 20 "MutableCellsModel" "sizes" "[I", Cond.methodLink RX6 159 yX6_checkItem, Cond.instanceMethod yX6_checkItem, Cond.selects RX6 yX6_checkItem yX6_checkItem, Cond.code yX6_checkItem cX6_checkItem 3 none, Cond.methodLink RX6 187 yX6_fail, Cond.instanceMethod yX6_fail, Cond.selects RX6 yX6_fail yX6_fail, Cond.code yX6_fail cX6_fail 2 none, Cond.fieldLink RX6 50 "MutableCellsModel" "failedBy" "[I"]
def wsX6_turn : List Cond := .code yX6_turn cX6_turn 2 (some .int) :: ((wsX6_turn_r1 ++ (wsX6_turn_r2 ++ (wsX6_turn_r3 ++ (wsX6_turn_r4 ++ wsX6_turn_r5)))) ++ wsX60)
def wsX6_play_r1 : List Cond := [Cond.fieldLink RX6 181 "MutableCellsModel" "failures" "I", Cond.constant RX6 196 (1103515245), Cond.methodLink RX6 111 yX6_within, Cond.static yX6_within, Cond.initialized RX6, Cond.code yX6_within cX6_within 3 (some .boolean), Cond.methodLink RX6 190 yX6_stateOf, Cond.instanceMethod yX6_stateOf, Cond.selects RX6 yX6_stateOf yX6_stateOf, Cond.code yX6_stateOf cX6_stateOf 2 (some .int), Cond.fieldLink RX6 53 "MutableCellsModel" "hasFailed" "[Z", Cond.fieldLink RX6 47 "MutableCellsModel" "place" "[I", Cond.fieldLink RX6 29 "MutableCellsModel" "many" "[I", Cond.fieldLink RX6 62 "MutableCellsModel" "tries" "[I", Cond.fieldLink RX6 68 "MutableCellsModel" "isAtom" "[Z", Cond.methodLink RX6 193 yX6_doTurn, Cond.instanceMethod yX6_doTurn, Cond.selects RX6 yX6_doTurn yX6_doTurn, Cond.code yX6_doTurn cX6_doTurn 3 none, Cond.fieldLink RX6 133 "MutableCellsModel" "failure" "I", Cond.fieldLink RX6 56 "MutableCellsModel" "turns" "[I", Cond.methodLink RX6 184 yX6_doAct, Cond.instanceMethod yX6_doAct, Cond.selects RX6 yX6_doAct yX6_doAct]
def wsX6_play_r2 : List Cond := [Cond.code yX6_doAct cX6_doAct 9 (some .int), Cond.fieldLink RX6 32 "MutableCellsModel" "kind" "[I", Cond.fieldLink RX6 35 "MutableCellsModel" "actX" "[I", Cond.fieldLink RX6 38 "MutableCellsModel" "actY" "[I", Cond.fieldLink RX6 41 "MutableCellsModel" "actZ" "[I", Cond.fieldLink RX6 65 "MutableCellsModel" "tryPlace" "[I", Cond.fieldLink RX6 71 "MutableCellsModel" "atomTries" "[I", Cond.methodLink RX6 147 yX6_give, Cond.instanceMethod yX6_give, Cond.selects RX6 yX6_give yX6_give, Cond.code yX6_give cX6_give 4 none, Cond.fieldLink RX6 44 "MutableCellsModel" "registers" "[I", Cond.methodLink RX6 150 yX6_read, Cond.instanceMethod yX6_read, Cond.selects RX6 yX6_read yX6_read, Cond.code yX6_read cX6_read 4 (some .int), Cond.fieldLink RX6 86 "MutableCellsModel" "wasPut" "[Z", Cond.fieldLink RX6 89 "MutableCellsModel" "putThere" "[I", Cond.fieldLink RX6 13 "MutableCellsModel" "isLazy" "[Z", Cond.fieldLink RX6 80 "MutableCellsModel" "wasRead" "[Z", Cond.fieldLink RX6 83 "MutableCellsModel" "firstRead" "[I", Cond.fieldLink RX6 7 "MutableCellsModel" "cells" "[I", Cond.methodLink RX6 139 yX6_readPlain, Cond.instanceMethod yX6_readPlain]
def wsX6_play_r3 : List Cond := [Cond.selects RX6 yX6_readPlain yX6_readPlain, Cond.code yX6_readPlain cX6_readPlain 8 (some .int), Cond.fieldLink RX6 17 "MutableCellsModel" "isRead" "[Z", Cond.fieldLink RX6 101 "MutableCellsModel" "chain" "[I", Cond.methodLink RX6 136 yX6_write, Cond.instanceMethod yX6_write, Cond.selects RX6 yX6_write yX6_write, Cond.code yX6_write cX6_write 4 none, Cond.methodLink RX6 129 yX6_note, Cond.instanceMethod yX6_note, Cond.selects RX6 yX6_note yX6_note, Cond.code yX6_note cX6_note 4 none, Cond.fieldLink RX6 92 "MutableCellsModel" "writeThread" "[I", Cond.fieldLink RX6 107 "MutableCellsModel" "writes" "I", Cond.fieldLink RX6 95 "MutableCellsModel" "writeCell" "[I", Cond.fieldLink RX6 98 "MutableCellsModel" "writeNumbe\x72" "[I", Cond.methodLink RX6 153 yX6_r, Cond.instanceMethod yX6_r, Cond.selects RX6 yX6_r yX6_r, Cond.code yX6_r cX6_r 3 (some .int), Cond.methodLink RX6 156 yX6_lay, Cond.instanceMethod yX6_lay, Cond.selects RX6 yX6_lay yX6_lay, Cond.code yX6_lay cX6_lay 4 none]
def wsX6_play_r4 : List Cond := [Cond.methodLink RX6 163 yX6_compute, Cond.instanceMethod yX6_compute, Cond.selects RX6 yX6_compute yX6_compute, Cond.code yX6_compute cX6_compute 6 none, Cond.methodLink RX6 167 yX6_swap, Cond.instanceMethod yX6_swap, Cond.selects RX6 yX6_swap yX6_swap, Cond.code yX6_swap cX6_swap 7 none, Cond.methodLink RX6 171 yX6_beginAtom, Cond.instanceMethod yX6_beginAtom, Cond.selects RX6 yX6_beginAtom yX6_beginAtom, Cond.code yX6_beginAtom cX6_beginAtom 3 none, Cond.fieldLink RX6 74 "MutableCellsModel" "atomPlace" "[I", Cond.fieldLink RX6 77 "MutableCellsModel" "atomRegisters" "[I", Cond.methodLink RX6 143 yX6_clearAtom, Cond.instanceMethod yX6_clearAtom, Cond.selects RX6 yX6_clearAtom yX6_clearAtom, Cond.code yX6_clearAtom cX6_clearAtom 3 none, Cond.methodLink RX6 174 yX6_endAtom, Cond.instanceMethod yX6_endAtom, Cond.selects RX6 yX6_endAtom yX6_endAtom, Cond.code yX6_endAtom cX6_endAtom 5 (some .int), Cond.fieldLink RX6 59 "MutableCellsModel" "anew" "[I", Cond.methodLink RX6 178 yX6_rows]
def wsX6_play_r5 : List Cond := [Cond.instanceMethod yX6_rows, Cond.selects RX6 yX6_rows yX6_rows, Cond.code yX6_rows cX6_rows 8 none, Cond.fieldLink RX6 23 "MutableCellsModel" "items" "[I", Cond.fieldLink RX6 26 "MutableCellsModel" "isFrozen" "[Z", Cond.fieldLink RX6 20 "MutableCellsModel" "sizes" "[I", Cond.methodLink RX6 159 yX6_checkItem, Cond.instanceMethod yX6_checkItem, Cond.selects RX6 yX6_checkItem yX6_checkItem, Cond.code yX6_checkItem cX6_checkItem 3 none, Cond.methodLink RX6 187 yX6_fail, Cond.instanceMethod yX6_fail, Cond.selects RX6 yX6_fail yX6_fail, Cond.code yX6_fail cX6_fail 2 none, Cond.fieldLink RX6 50 "MutableCellsModel" "failedBy" "[I"]
def wsX6_play : List Cond := .code yX6_play cX6_play 9 (some .int) :: ((wsX6_play_r1 ++ (wsX6_play_r2 ++ (wsX6_play_r3 ++ (wsX6_play_r4 ++ wsX6_play_r5)))) ++ wsX60)
def wsX6_told : List Cond := .code yX6_told cX6_told 3 (some .int) :: ([.fieldLink RX6 47 "MutableCellsModel" "place" "[I", .fieldLink RX6 50 "MutableCellsModel" "failedBy" "[I", .fieldLink RX6 62 "MutableCellsModel" "tries" "[I", .fieldLink RX6 68 "MutableCellsModel" "isAtom" "[Z", .fieldLink RX6 56 "MutableCellsModel" "turns" "[I", .fieldLink RX6 59 "MutableCellsModel" "anew" "[I", .methodLink RX6 111 yX6_within, .static yX6_within, .initialized RX6, .code yX6_within cX6_within 3 (some .boolean), .methodLink RX6 190 yX6_stateOf, .instanceMethod yX6_stateOf, .selects RX6 yX6_stateOf yX6_stateOf, .code yX6_stateOf cX6_stateOf 2 (some .int), .fieldLink RX6 53 "MutableCellsModel" "hasFailed" "[Z", .fieldLink RX6 29 "MutableCellsModel" "many" "[I"] ++ wsX60)
def wsX6_register : List Cond := .code yX6_register cX6_register 3 (some .int) :: ([.methodLink RX6 111 yX6_within, .static yX6_within, .initialized RX6, .code yX6_within cX6_within 3 (some .boolean), .methodLink RX6 115 yX6_isRegister, .static yX6_isRegister, .code yX6_isRegister cX6_isRegister 1 (some .boolean), .methodLink RX6 153 yX6_r, .instanceMethod yX6_r, .selects RX6 yX6_r yX6_r, .code yX6_r cX6_r 3 (some .int), .fieldLink RX6 44 "MutableCellsModel" "registers" "[I"] ++ wsX60)
def wsX6_cell : List Cond := .code yX6_cell cX6_cell 2 (some .int) :: ([.fieldLink RX6 7 "MutableCellsModel" "cells" "[I", .methodLink RX6 119 yX6_isCell, .static yX6_isCell, .initialized RX6, .code yX6_isCell cX6_isCell 1 (some .boolean), .methodLink RX6 111 yX6_within, .static yX6_within, .code yX6_within cX6_within 3 (some .boolean)] ++ wsX60)
def wsX6_lazy : List Cond := .code yX6_lazy cX6_lazy 2 (some .int) :: ([.fieldLink RX6 13 "MutableCellsModel" "isLazy" "[Z", .methodLink RX6 119 yX6_isCell, .static yX6_isCell, .initialized RX6, .code yX6_isCell cX6_isCell 1 (some .boolean), .methodLink RX6 111 yX6_within, .static yX6_within, .code yX6_within cX6_within 3 (some .boolean)] ++ wsX60)
def wsX6_size : List Cond := .code yX6_size cX6_size 2 (some .int) :: ([.fieldLink RX6 20 "MutableCellsModel" "sizes" "[I", .methodLink RX6 111 yX6_within, .static yX6_within, .initialized RX6, .code yX6_within cX6_within 3 (some .boolean)] ++ wsX60)
def wsX6_item : List Cond := .code yX6_item cX6_item 3 (some .int) :: ([.fieldLink RX6 20 "MutableCellsModel" "sizes" "[I", .fieldLink RX6 23 "MutableCellsModel" "items" "[I", .methodLink RX6 111 yX6_within, .static yX6_within, .initialized RX6, .code yX6_within cX6_within 3 (some .boolean)] ++ wsX60)
def wsX6_frozen : List Cond := .code yX6_frozen cX6_frozen 2 (some .int) :: ([.fieldLink RX6 26 "MutableCellsModel" "isFrozen" "[Z", .methodLink RX6 111 yX6_within, .static yX6_within, .initialized RX6, .code yX6_within cX6_within 3 (some .boolean)] ++ wsX60)
def wsX6_put : List Cond := .code yX6_put cX6_put 4 (some .int) :: ([.fieldLink RX6 7 "MutableCellsModel" "cells" "[I", .fieldLink RX6 13 "MutableCellsModel" "isLazy" "[Z", .methodLink RX6 119 yX6_isCell, .static yX6_isCell, .initialized RX6, .code yX6_isCell cX6_isCell 1 (some .boolean), .methodLink RX6 111 yX6_within, .static yX6_within, .code yX6_within cX6_within 3 (some .boolean)] ++ wsX60)
def wsX6_writes : List Cond := .code yX6_writes cX6_writes 1 (some .int) :: ([.fieldLink RX6 107 "MutableCellsModel" "writes" "I"] ++ wsX60)
def wsX6_write_ : List Cond := .code yX6_write_ cX6_write_ 5 (some .int) :: ([.fieldLink RX6 107 "MutableCellsModel" "writes" "I", .fieldLink RX6 92 "MutableCellsModel" "writeThread" "[I", .fieldLink RX6 95 "MutableCellsModel" "writeCell" "[I", .fieldLink RX6 98 "MutableCellsModel" "writeNumbe\x72" "[I", .methodLink RX6 111 yX6_within, .static yX6_within, .initialized RX6, .code yX6_within cX6_within 3 (some .boolean)] ++ wsX60)
def wsX6_again : List Cond := .code yX6_again cX6_again 2 (some .int) :: ([.fieldLink RX6 56 "MutableCellsModel" "turns" "[I", .methodLink RX6 104 yX6_begin, .instanceMethod yX6_begin, .selects RX6 yX6_begin yX6_begin, .initialized RX6, .code yX6_begin cX6_begin 3 none, .fieldLink RX6 7 "MutableCellsModel" "cells" "[I", .fieldLink RX6 13 "MutableCellsModel" "isLazy" "[Z", .fieldLink RX6 17 "MutableCellsModel" "isRead" "[Z", .fieldLink RX6 20 "MutableCellsModel" "sizes" "[I", .fieldLink RX6 26 "MutableCellsModel" "isFrozen" "[Z", .fieldLink RX6 47 "MutableCellsModel" "place" "[I", .fieldLink RX6 50 "MutableCellsModel" "failedBy" "[I", .fieldLink RX6 53 "MutableCellsModel" "hasFailed" "[Z", .fieldLink RX6 59 "MutableCellsModel" "anew" "[I", .fieldLink RX6 62 "MutableCellsModel" "tries" "[I", .fieldLink RX6 68 "MutableCellsModel" "isAtom" "[Z", .fieldLink RX6 44 "MutableCellsModel" "registers" "[I", .fieldLink RX6 107 "MutableCellsModel" "writes" "I"] ++ wsX60)
def wsX6_clear : List Cond := .code yX6_clear cX6_clear 3 (some .int) :: ([.fieldLink RX6 29 "MutableCellsModel" "many" "[I", .methodLink RX6 197 yX6_again, .instanceMethod yX6_again, .selects RX6 yX6_again yX6_again, .initialized RX6, .code yX6_again cX6_again 2 (some .int), .fieldLink RX6 56 "MutableCellsModel" "turns" "[I", .methodLink RX6 104 yX6_begin, .instanceMethod yX6_begin, .selects RX6 yX6_begin yX6_begin, .code yX6_begin cX6_begin 3 none, .fieldLink RX6 7 "MutableCellsModel" "cells" "[I", .fieldLink RX6 13 "MutableCellsModel" "isLazy" "[Z", .fieldLink RX6 17 "MutableCellsModel" "isRead" "[Z", .fieldLink RX6 20 "MutableCellsModel" "sizes" "[I", .fieldLink RX6 26 "MutableCellsModel" "isFrozen" "[Z", .fieldLink RX6 47 "MutableCellsModel" "place" "[I", .fieldLink RX6 50 "MutableCellsModel" "failedBy" "[I", .fieldLink RX6 53 "MutableCellsModel" "hasFailed" "[Z", .fieldLink RX6 59 "MutableCellsModel" "anew" "[I", .fieldLink RX6 62 "MutableCellsModel" "tries" "[I", .fieldLink RX6 68 "MutableCellsModel" "isAtom" "[Z", .fieldLink RX6 44 "MutableCellsModel" "registers" "[I", .fieldLink RX6 107 "MutableCellsModel" "writes" "I"] ++ wsX60)
def wsL_law_r1 : List Cond := [Cond.classLink RL 7 RX5, Cond.instantiable RX5 5, Cond.initialized RX5, Cond.classLink RL 10 RX6, Cond.instantiable RX6 34, Cond.initialized RX6, Cond.methodLink RL 9 yX5_init, Cond.instanceMethod yX5_init, Cond.code yX5_init cX5_init 2 none, Cond.methodLink RX5 1 objectInit, Cond.instanceMethod objectInit, Cond.code objectInit ⟨#[0xb1]⟩ 1 none, Cond.classLink RX5 7 RX1, Cond.instantiable RX1 4, Cond.initialized RX1, Cond.fieldLink RX5 10 "MutableCells" "cells" "LMutableCells$Cells;", Cond.classLink RX5 16 RX3, Cond.instantiable RX3 3, Cond.initialized RX3, Cond.fieldLink RX5 19 "MutableCells" "rows" "LMutableCells$Rows;", Cond.classLink RX5 23 RX4, Cond.fieldLink RX5 25 "MutableCells" "strands" "[LMutableCells$Strand;", Cond.instantiable RX4 15, Cond.initialized RX4]
def wsL_law_r2 : List Cond := [Cond.methodLink RX5 9 yX1_init, Cond.instanceMethod yX1_init, Cond.code yX1_init cX1_init 1 none, Cond.methodLink RX1 3 objectInit, Cond.arrayClass .int, Cond.fieldLink RX1 9 "MutableCells$Cells" "numbers" "[I", Cond.fieldLink RX1 15 "MutableCells$Cells" "partners" "[I", Cond.fieldLink RX1 18 "MutableCells$Cells" "trail" "[I", Cond.classLink RX1 21 RX2, Cond.instantiable RX2 5, Cond.initialized RX2, Cond.fieldLink RX1 24 "MutableCells$Cells" "log" "LMutableCells$Log;", Cond.instanceMethod yX2_init, Cond.code yX2_init cX2_init 1 none, Cond.methodLink RX2 3 objectInit, Cond.fieldLink RX2 9 "MutableCells$Log" "threads" "[I", Cond.fieldLink RX2 15 "MutableCells$Log" "places" "[I", Cond.fieldLink RX2 18 "MutableCells$Log" "numbers" "[I", Cond.methodLink RX1 28 yX1_reset, Cond.instanceMethod yX1_reset, Cond.selects RX1 yX1_reset yX1_reset, Cond.code yX1_reset cX1_reset 1 none, Cond.methodLink RX1 31 yJ7_fill_53178, Cond.static yJ7_fill_53178]
def wsL_law_r3 : List Cond := [Cond.initialized RJ7, Cond.code yJ7_fill_53178 cJ7_fill_53178 4 none, Cond.methodLink RX5 18 yX3_init, Cond.instanceMethod yX3_init, Cond.code yX3_init cX3_init 1 none, Cond.methodLink RX3 3 objectInit, Cond.fieldLink RX3 9 "MutableCells$Rows" "lengths" "[I", Cond.arrayClass .boolean, Cond.fieldLink RX3 15 "MutableCells$Rows" "ices" "[Z", Cond.fieldLink RX3 19 "MutableCells$Rows" "items" "[I", Cond.methodLink RX3 22 yX3_reset, Cond.instanceMethod yX3_reset, Cond.selects RX3 yX3_reset yX3_reset, Cond.code yX3_reset cX3_reset 2 none, Cond.methodLink RX5 29 yX4_init, Cond.instanceMethod yX4_init, Cond.code yX4_init cX4_init 2 none, Cond.methodLink RX4 3 objectInit, Cond.fieldLink RX4 9 "MutableCells$Strand" "kinds" "[I", Cond.fieldLink RX4 15 "MutableCells$Strand" "xs" "[I", Cond.fieldLink RX4 18 "MutableCells$Strand" "ys" "[I", Cond.fieldLink RX4 21 "MutableCells$Strand" "zs" "[I", Cond.fieldLink RX4 24 "MutableCells$Strand" "registers" "[I", Cond.fieldLink RX4 27 "MutableCells$Strand" "tryPlaces" "[I"]
def wsL_law_r4 : List Cond := [Cond.classLink RX4 30 RX0, Cond.instantiable RX0 8, Cond.initialized RX0, Cond.fieldLink RX4 33 "MutableCells$Strand" "atom" "LMutableCells$Atom;", Cond.fieldLink RX4 37 "MutableCells$Strand" "numbe\x72" "I", Cond.instanceMethod yX0_init, Cond.code yX0_init cX0_init 1 none, Cond.methodLink RX0 3 objectInit, Cond.fieldLink RX0 9 "MutableCells$Atom" "registers" "[I", Cond.fieldLink RX0 15 "MutableCells$Atom" "putMarks" "[Z", Cond.fieldLink RX0 19 "MutableCells$Atom" "putNumbers" "[I", Cond.fieldLink RX0 22 "MutableCells$Atom" "readMarks" "[Z", Cond.fieldLink RX0 25 "MutableCells$Atom" "firstNumbers" "[I", Cond.methodLink RL 12 yX6_init, Cond.instanceMethod yX6_init, Cond.code yX6_init cX6_init 1 none, Cond.methodLink RX6 1 objectInit, Cond.fieldLink RX6 7 "MutableCellsModel" "cells" "[I", Cond.fieldLink RX6 13 "MutableCellsModel" "isLazy" "[Z", Cond.fieldLink RX6 17 "MutableCellsModel" "isRead" "[Z", Cond.fieldLink RX6 20 "MutableCellsModel" "sizes" "[I", Cond.fieldLink RX6 23 "MutableCellsModel" "items" "[I", Cond.fieldLink RX6 26 "MutableCellsModel" "isFrozen" "[Z", Cond.fieldLink RX6 29 "MutableCellsModel" "many" "[I"]
def wsL_law_r5 : List Cond := [Cond.fieldLink RX6 32 "MutableCellsModel" "kind" "[I", Cond.fieldLink RX6 35 "MutableCellsModel" "actX" "[I", Cond.fieldLink RX6 38 "MutableCellsModel" "actY" "[I", Cond.fieldLink RX6 41 "MutableCellsModel" "actZ" "[I", Cond.fieldLink RX6 44 "MutableCellsModel" "registers" "[I", Cond.fieldLink RX6 47 "MutableCellsModel" "place" "[I", Cond.fieldLink RX6 50 "MutableCellsModel" "failedBy" "[I", Cond.fieldLink RX6 53 "MutableCellsModel" "hasFailed" "[Z", Cond.fieldLink RX6 56 "MutableCellsModel" "turns" "[I", Cond.fieldLink RX6 59 "MutableCellsModel" "anew" "[I", Cond.fieldLink RX6 62 "MutableCellsModel" "tries" "[I", Cond.fieldLink RX6 65 "MutableCellsModel" "tryPlace" "[I", Cond.fieldLink RX6 68 "MutableCellsModel" "isAtom" "[Z", Cond.fieldLink RX6 71 "MutableCellsModel" "atomTries" "[I", Cond.fieldLink RX6 74 "MutableCellsModel" "atomPlace" "[I", Cond.fieldLink RX6 77 "MutableCellsModel" "atomRegisters" "[I", Cond.fieldLink RX6 80 "MutableCellsModel" "wasRead" "[Z", Cond.fieldLink RX6 83 "MutableCellsModel" "firstRead" "[I", Cond.fieldLink RX6 86 "MutableCellsModel" "wasPut" "[Z", Cond.fieldLink RX6 89 "MutableCellsModel" "putThere" "[I", Cond.fieldLink RX6 92 "MutableCellsModel" "writeThread" "[I", Cond.fieldLink RX6 95 "MutableCellsModel" "writeCell" "[I", Cond.fieldLink RX6 98 "MutableCellsModel" "writeNumbe\x72" "[I", Cond.fieldLink RX6 101 "MutableCellsModel" "chain" "[I"]
def wsL_law_r6 : List Cond := [Cond.methodLink RX6 104 yX6_begin, Cond.instanceMethod yX6_begin, Cond.selects RX6 yX6_begin yX6_begin, Cond.code yX6_begin cX6_begin 3 none, Cond.fieldLink RX6 107 "MutableCellsModel" "writes" "I", Cond.methodLink RL 13 yX5_act, Cond.instanceMethod yX5_act, Cond.selects RX5 yX5_act yX5_act, Cond.code yX5_act cX5_act 7 (some .int), Cond.methodLink RX5 32 yX5_strandOf, Cond.instanceMethod yX5_strandOf, Cond.selects RX5 yX5_strandOf yX5_strandOf, Cond.code yX5_strandOf cX5_strandOf 2 (some (.object "MutableCells$Strand")), Cond.methodLink RX5 36 yX5_mayBe, Cond.static yX5_mayBe, Cond.code yX5_mayBe cX5_mayBe 4 (some .boolean), Cond.methodLink RX5 87 yX5_isRegister, Cond.static yX5_isRegister, Cond.code yX5_isRegister cX5_isRegister 1 (some .boolean), Cond.methodLink RX5 95 yX5_isCell, Cond.static yX5_isCell, Cond.code yX5_isCell cX5_isCell 1 (some .boolean), Cond.methodLink RX5 104 yX5_isRow, Cond.static yX5_isRow]
def wsL_law_r7 : List Cond := [Cond.code yX5_isRow cX5_isRow 1 (some .boolean), Cond.methodLink RX5 147 yX5_isPlace, Cond.static yX5_isPlace, Cond.code yX5_isPlace cX5_isPlace 1 (some .boolean), Cond.methodLink RX5 44 yX4_append, Cond.instanceMethod yX4_append, Cond.selects RX4 yX4_append yX4_append, Cond.code yX4_append cX4_append 5 (some .boolean), Cond.fieldLink RX4 41 "MutableCells$Strand" "acts" "I", Cond.methodLink RL 17 yX6_act, Cond.instanceMethod yX6_act, Cond.selects RX6 yX6_act yX6_act, Cond.code yX6_act cX6_act 7 (some .int), Cond.methodLink RX6 111 yX6_within, Cond.static yX6_within, Cond.code yX6_within cX6_within 3 (some .boolean), Cond.methodLink RX6 125 yX6_fits, Cond.static yX6_fits, Cond.code yX6_fits cX6_fits 4 (some .boolean), Cond.methodLink RX6 115 yX6_isRegister, Cond.static yX6_isRegister, Cond.code yX6_isRegister cX6_isRegister 1 (some .boolean), Cond.methodLink RX6 119 yX6_isCell, Cond.static yX6_isCell]
def wsL_law_r8 : List Cond := [Cond.code yX6_isCell cX6_isCell 1 (some .boolean), Cond.methodLink RX6 122 yX6_isPlaceIn, Cond.static yX6_isPlaceIn, Cond.code yX6_isPlaceIn cX6_isPlaceIn 1 (some .boolean), Cond.methodLink RL 18 yX5_turn, Cond.instanceMethod yX5_turn, Cond.selects RX5 yX5_turn yX5_turn, Cond.code yX5_turn cX5_turn 3 (some .int), Cond.fieldLink RX5 54 "MutableCells" "failures" "I", Cond.methodLink RX5 50 yX4_state, Cond.instanceMethod yX4_state, Cond.selects RX4 yX4_state yX4_state, Cond.code yX4_state cX4_state 1 (some .int), Cond.fieldLink RX4 60 "MutableCells$Strand" "failure" "I", Cond.fieldLink RX4 57 "MutableCells$Strand" "place" "I", Cond.fieldLink RX4 50 "MutableCells$Strand" "trys" "I", Cond.methodLink RX5 57 yX5_takeTurn, Cond.instanceMethod yX5_takeTurn, Cond.selects RX5 yX5_takeTurn yX5_takeTurn, Cond.code yX5_takeTurn cX5_takeTurn 3 none, Cond.fieldLink RX5 137 "MutableCells" "turnsDone" "I", Cond.methodLink RX5 156 yX5_perform, Cond.instanceMethod yX5_perform, Cond.selects RX5 yX5_perform yX5_perform]
def wsL_law_r9 : List Cond := [Cond.code yX5_perform cX5_perform 7 (some .int), Cond.methodLink RX5 176 yX5_isBarredFromAtoms, Cond.static yX5_isBarredFromAtoms, Cond.code yX5_isBarredFromAtoms cX5_isBarredFromAtoms 1 (some .boolean), Cond.methodLink RX5 179 yX5_getCell, Cond.instanceMethod yX5_getCell, Cond.selects RX5 yX5_getCell yX5_getCell, Cond.code yX5_getCell cX5_getCell 5 (some .int), Cond.methodLink RX5 220 yX5_failureOfReading, Cond.instanceMethod yX5_failureOfReading, Cond.selects RX5 yX5_failureOfReading yX5_failureOfReading, Cond.code yX5_failureOfReading cX5_failureOfReading 3 (some .int), Cond.methodLink RX5 101 yX1_isLazy, Cond.instanceMethod yX1_isLazy, Cond.selects RX1 yX1_isLazy yX1_isLazy, Cond.code yX1_isLazy cX1_isLazy 2 (some .boolean), Cond.methodLink RX5 227 yX0_hasPut, Cond.instanceMethod yX0_hasPut, Cond.selects RX0 yX0_hasPut yX0_hasPut, Cond.code yX0_hasPut cX0_hasPut 2 (some .boolean), Cond.methodLink RX5 230 yX1_leadsToRing, Cond.instanceMethod yX1_leadsToRing, Cond.selects RX1 yX1_leadsToRing yX1_leadsToRing, Cond.code yX1_leadsToRing cX1_leadsToRing 4 (some .boolean)]
def wsL_law_r10 : List Cond := [Cond.methodLink RX1 53 yX1_isLazy, Cond.methodLink RX1 56 yX1_shown, Cond.instanceMethod yX1_shown, Cond.selects RX1 yX1_shown yX1_shown, Cond.code yX1_shown cX1_shown 2 (some .int), Cond.methodLink RX5 224 yX5_readCell, Cond.instanceMethod yX5_readCell, Cond.selects RX5 yX5_readCell yX5_readCell, Cond.code yX5_readCell cX5_readCell 4 (some .int), Cond.methodLink RX5 236 yX1_workedOut, Cond.instanceMethod yX1_workedOut, Cond.selects RX1 yX1_workedOut yX1_workedOut, Cond.code yX1_workedOut cX1_workedOut 7 (some .int), Cond.methodLink RX1 60 yX1_count, Cond.instanceMethod yX1_count, Cond.selects RX1 yX1_count yX1_count, Cond.code yX1_count cX1_count 4 none, Cond.methodLink RX1 45 yX1_hold, Cond.instanceMethod yX1_hold, Cond.selects RX1 yX1_hold yX1_hold, Cond.code yX1_hold cX1_hold 3 none, Cond.methodLink RX1 49 yX2_add, Cond.instanceMethod yX2_add, Cond.selects RX2 yX2_add yX2_add]
def wsL_law_r11 : List Cond := [Cond.code yX2_add cX2_add 4 none, Cond.fieldLink RX2 21 "MutableCells$Log" "latest" "I", Cond.fieldLink RX2 25 "MutableCells$Log" "count" "I", Cond.methodLink RX5 239 yX0_putNumber, Cond.instanceMethod yX0_putNumber, Cond.selects RX0 yX0_putNumber yX0_putNumber, Cond.code yX0_putNumber cX0_putNumber 2 (some .int), Cond.methodLink RX5 98 yX1_shown, Cond.methodLink RX5 242 yX0_noteReading, Cond.instanceMethod yX0_noteReading, Cond.selects RX0 yX0_noteReading yX0_noteReading, Cond.code yX0_noteReading cX0_noteReading 3 none, Cond.methodLink RX5 217 yX4_keep, Cond.instanceMethod yX4_keep, Cond.selects RX4 yX4_keep yX4_keep, Cond.code yX4_keep cX4_keep 3 none, Cond.methodLink RX5 91 yX4_held, Cond.instanceMethod yX4_held, Cond.selects RX4 yX4_held yX4_held, Cond.code yX4_held cX4_held 2 (some .int), Cond.methodLink RX5 183 yX5_putCell, Cond.instanceMethod yX5_putCell, Cond.selects RX5 yX5_putCell yX5_putCell, Cond.code yX5_putCell cX5_putCell 4 none]
def wsL_law_r12 : List Cond := [Cond.methodLink RX5 245 yX0_notePut, Cond.instanceMethod yX0_notePut, Cond.selects RX0 yX0_notePut yX0_notePut, Cond.code yX0_notePut cX0_notePut 3 none, Cond.methodLink RX5 248 yX1_count, Cond.methodLink RX5 187 yX5_loadItem, Cond.instanceMethod yX5_loadItem, Cond.selects RX5 yX5_loadItem yX5_loadItem, Cond.code yX5_loadItem cX5_loadItem 6 (some .int), Cond.methodLink RX5 214 yX3_failureAt, Cond.instanceMethod yX3_failureAt, Cond.selects RX3 yX3_failureAt yX3_failureAt, Cond.code yX3_failureAt cX3_failureAt 3 (some .int), Cond.methodLink RX3 33 yX3_length, Cond.instanceMethod yX3_length, Cond.selects RX3 yX3_length yX3_length, Cond.code yX3_length cX3_length 2 (some .int), Cond.methodLink RX3 29 yX3_hasItem, Cond.instanceMethod yX3_hasItem, Cond.selects RX3 yX3_hasItem yX3_hasItem, Cond.code yX3_hasItem cX3_hasItem 3 (some .boolean), Cond.methodLink RX5 110 yX3_itemOf, Cond.instanceMethod yX3_itemOf, Cond.selects RX3 yX3_itemOf yX3_itemOf]
def wsL_law_r13 : List Cond := [Cond.code yX3_itemOf cX3_itemOf 3 (some .int), Cond.methodLink RX5 191 yX3_store, Cond.instanceMethod yX3_store, Cond.selects RX3 yX3_store yX3_store, Cond.code yX3_store cX3_store 5 (some .int), Cond.methodLink RX3 37 yX3_failureAt, Cond.methodLink RX3 41 yX3_isFrozen, Cond.instanceMethod yX3_isFrozen, Cond.selects RX3 yX3_isFrozen yX3_isFrozen, Cond.code yX3_isFrozen cX3_isFrozen 2 (some .boolean), Cond.methodLink RX5 195 yX5_swapCell, Cond.instanceMethod yX5_swapCell, Cond.selects RX5 yX5_swapCell yX5_swapCell, Cond.code yX5_swapCell cX5_swapCell 7 (some .int), Cond.methodLink RX5 198 yX5_endAtom, Cond.instanceMethod yX5_endAtom, Cond.selects RX5 yX5_endAtom yX5_endAtom, Cond.code yX5_endAtom cX5_endAtom 4 (some .int), Cond.methodLink RX5 254 yX5_isOvertaken, Cond.instanceMethod yX5_isOvertaken, Cond.selects RX5 yX5_isOvertaken yX5_isOvertaken, Cond.code yX5_isOvertaken cX5_isOvertaken 3 (some .boolean), Cond.methodLink RX5 261 yX0_hasRead, Cond.instanceMethod yX0_hasRead]
def wsL_law_r14 : List Cond := [Cond.selects RX0 yX0_hasRead yX0_hasRead, Cond.code yX0_hasRead cX0_hasRead 2 (some .boolean), Cond.methodLink RX5 264 yX0_firstNumber, Cond.instanceMethod yX0_firstNumber, Cond.selects RX0 yX0_firstNumber yX0_firstNumber, Cond.code yX0_firstNumber cX0_firstNumber 2 (some .int), Cond.methodLink RX5 258 yX4_beginAnew, Cond.instanceMethod yX4_beginAnew, Cond.selects RX4 yX4_beginAnew yX4_beginAnew, Cond.code yX4_beginAnew cX4_beginAnew 1 none, Cond.fieldLink RX4 66 "MutableCells$Strand" "anews" "I", Cond.fieldLink RX4 85 "MutableCells$Strand" "next" "I", Cond.methodLink RX4 105 arraycopyName, Cond.native arraycopyName, Cond.static arraycopyName, Cond.initialized "java/lang/System", Cond.methodLink RX4 111 yX0_forget, Cond.instanceMethod yX0_forget, Cond.selects RX0 yX0_forget yX0_forget, Cond.code yX0_forget cX0_forget 2 none, Cond.methodLink RX5 201 yX3_make, Cond.instanceMethod yX3_make, Cond.selects RX3 yX3_make yX3_make, Cond.code yX3_make cX3_make 3 (some .int)]
def wsL_law_r15 : List Cond := [Cond.methodLink RX3 44 yJ7_fill_fda19, Cond.static yJ7_fill_fda19, Cond.code yJ7_fill_fda19 cJ7_fill_fda19 5 none, Cond.methodLink RJ7 13 yJ7_rangeCheck_23922, Cond.static yJ7_rangeCheck_23922, Cond.code yJ7_rangeCheck_23922 cJ7_rangeCheck_23922 3 none, Cond.methodLink RX5 204 yX3_freeze, Cond.instanceMethod yX3_freeze, Cond.selects RX3 yX3_freeze yX3_freeze, Cond.code yX3_freeze cX3_freeze 2 (some .int), Cond.methodLink RX5 207 yX1_defer, Cond.instanceMethod yX1_defer, Cond.selects RX1 yX1_defer yX1_defer, Cond.code yX1_defer cX1_defer 3 none, Cond.methodLink RX5 210 yX4_performAlone, Cond.instanceMethod yX4_performAlone, Cond.selects RX4 yX4_performAlone yX4_performAlone, Cond.code yX4_performAlone cX4_performAlone 5 (some .int), Cond.methodLink RX4 73 yX4_keep, Cond.methodLink RX4 77 yX4_held, Cond.methodLink RX4 81 yX4_divide, Cond.instanceMethod yX4_divide, Cond.selects RX4 yX4_divide yX4_divide, Cond.code yX4_divide cX4_divide 4 (some .int)]
def wsL_law_r16 : List Cond := [Cond.methodLink RX4 88 yX4_beginAtom, Cond.instanceMethod yX4_beginAtom, Cond.selects RX4 yX4_beginAtom yX4_beginAtom, Cond.code yX4_beginAtom cX4_beginAtom 1 (some .int), Cond.methodLink RX4 92 yX4_openTry, Cond.instanceMethod yX4_openTry, Cond.selects RX4 yX4_openTry yX4_openTry, Cond.code yX4_openTry cX4_openTry 2 (some .int), Cond.methodLink RX4 95 yX4_closeTry, Cond.instanceMethod yX4_closeTry, Cond.selects RX4 yX4_closeTry yX4_closeTry, Cond.code yX4_closeTry cX4_closeTry 1 (some .int), Cond.methodLink RX5 160 yX4_fail, Cond.instanceMethod yX4_fail, Cond.selects RX4 yX4_fail yX4_fail, Cond.code yX4_fail cX4_fail 2 none, Cond.methodLink RL 22 yX6_turn, Cond.instanceMethod yX6_turn, Cond.selects RX6 yX6_turn yX6_turn, Cond.code yX6_turn cX6_turn 2 (some .int), Cond.fieldLink RX6 181 "MutableCellsModel" "failures" "I", Cond.methodLink RX6 190 yX6_stateOf, Cond.instanceMethod yX6_stateOf, Cond.selects RX6 yX6_stateOf yX6_stateOf]
def wsL_law_r17 : List Cond := [Cond.code yX6_stateOf cX6_stateOf 2 (some .int), Cond.methodLink RX6 193 yX6_doTurn, Cond.instanceMethod yX6_doTurn, Cond.selects RX6 yX6_doTurn yX6_doTurn, Cond.code yX6_doTurn cX6_doTurn 3 none, Cond.fieldLink RX6 133 "MutableCellsModel" "failure" "I", Cond.methodLink RX6 184 yX6_doAct, Cond.instanceMethod yX6_doAct, Cond.selects RX6 yX6_doAct yX6_doAct, Cond.code yX6_doAct cX6_doAct 9 (some .int), Cond.methodLink RX6 147 yX6_give, Cond.instanceMethod yX6_give, Cond.selects RX6 yX6_give yX6_give, Cond.code yX6_give cX6_give 4 none, Cond.methodLink RX6 150 yX6_read, Cond.instanceMethod yX6_read, Cond.selects RX6 yX6_read yX6_read, Cond.code yX6_read cX6_read 4 (some .int), Cond.methodLink RX6 139 yX6_readPlain, Cond.instanceMethod yX6_readPlain, Cond.selects RX6 yX6_readPlain yX6_readPlain, Cond.code yX6_readPlain cX6_readPlain 8 (some .int), Cond.methodLink RX6 136 yX6_write, Cond.instanceMethod yX6_write]
def wsL_law_r18 : List Cond := [Cond.selects RX6 yX6_write yX6_write, Cond.code yX6_write cX6_write 4 none, Cond.methodLink RX6 129 yX6_note, Cond.instanceMethod yX6_note, Cond.selects RX6 yX6_note yX6_note, Cond.code yX6_note cX6_note 4 none, Cond.methodLink RX6 153 yX6_r, Cond.instanceMethod yX6_r, Cond.selects RX6 yX6_r yX6_r, Cond.code yX6_r cX6_r 3 (some .int), Cond.methodLink RX6 156 yX6_lay, Cond.instanceMethod yX6_lay, Cond.selects RX6 yX6_lay yX6_lay, Cond.code yX6_lay cX6_lay 4 none, Cond.methodLink RX6 163 yX6_compute, Cond.instanceMethod yX6_compute, Cond.selects RX6 yX6_compute yX6_compute, Cond.code yX6_compute cX6_compute 6 none, Cond.methodLink RX6 167 yX6_swap, Cond.instanceMethod yX6_swap, Cond.selects RX6 yX6_swap yX6_swap, Cond.code yX6_swap cX6_swap 7 none, Cond.methodLink RX6 171 yX6_beginAtom, Cond.instanceMethod yX6_beginAtom]
def wsL_law_r19 : List Cond := [Cond.selects RX6 yX6_beginAtom yX6_beginAtom, Cond.code yX6_beginAtom cX6_beginAtom 3 none, Cond.methodLink RX6 143 yX6_clearAtom, Cond.instanceMethod yX6_clearAtom, Cond.selects RX6 yX6_clearAtom yX6_clearAtom, Cond.code yX6_clearAtom cX6_clearAtom 3 none, Cond.methodLink RX6 174 yX6_endAtom, Cond.instanceMethod yX6_endAtom, Cond.selects RX6 yX6_endAtom yX6_endAtom, Cond.code yX6_endAtom cX6_endAtom 5 (some .int), Cond.methodLink RX6 178 yX6_rows, Cond.instanceMethod yX6_rows, Cond.selects RX6 yX6_rows yX6_rows, Cond.code yX6_rows cX6_rows 8 none, Cond.methodLink RX6 159 yX6_checkItem, Cond.instanceMethod yX6_checkItem, Cond.selects RX6 yX6_checkItem yX6_checkItem, Cond.code yX6_checkItem cX6_checkItem 3 none, Cond.methodLink RX6 187 yX6_fail, Cond.instanceMethod yX6_fail, Cond.selects RX6 yX6_fail yX6_fail, Cond.code yX6_fail cX6_fail 2 none, Cond.methodLink RL 23 yX5_play, Cond.instanceMethod yX5_play]
def wsL_law_r20 : List Cond := [Cond.selects RX5 yX5_play yX5_play, Cond.code yX5_play cX5_play 6 (some .int), Cond.constant RX5 61 (1103515245), Cond.methodLink RX5 62 yX5_drawn, Cond.instanceMethod yX5_drawn, Cond.selects RX5 yX5_drawn yX5_drawn, Cond.code yX5_drawn cX5_drawn 5 (some (.object "MutableCells$Strand")), Cond.methodLink RX5 150 yX5_goes, Cond.instanceMethod yX5_goes, Cond.selects RX5 yX5_goes yX5_goes, Cond.code yX5_goes cX5_goes 3 (some .boolean), Cond.methodLink RL 27 yX6_play, Cond.instanceMethod yX6_play, Cond.selects RX6 yX6_play yX6_play, Cond.code yX6_play cX6_play 9 (some .int), Cond.constant RX6 196 (1103515245), Cond.methodLink RL 28 yX5_told, Cond.instanceMethod yX5_told, Cond.selects RX5 yX5_told yX5_told, Cond.code yX5_told cX5_told 4 (some .int), Cond.methodLink RL 31 yX6_told, Cond.instanceMethod yX6_told, Cond.selects RX6 yX6_told yX6_told, Cond.code yX6_told cX6_told 3 (some .int)]
def wsL_law_r21 : List Cond := [Cond.methodLink RL 32 yX5_register, Cond.instanceMethod yX5_register, Cond.selects RX5 yX5_register yX5_register, Cond.code yX5_register cX5_register 4 (some .int), Cond.methodLink RL 35 yX6_register, Cond.instanceMethod yX6_register, Cond.selects RX6 yX6_register yX6_register, Cond.code yX6_register cX6_register 3 (some .int), Cond.methodLink RL 36 yX5_cell, Cond.instanceMethod yX5_cell, Cond.selects RX5 yX5_cell yX5_cell, Cond.code yX5_cell cX5_cell 2 (some .int), Cond.methodLink RL 39 yX6_cell, Cond.instanceMethod yX6_cell, Cond.selects RX6 yX6_cell yX6_cell, Cond.code yX6_cell cX6_cell 2 (some .int), Cond.methodLink RL 40 yX5_lazy, Cond.instanceMethod yX5_lazy, Cond.selects RX5 yX5_lazy yX5_lazy, Cond.code yX5_lazy cX5_lazy 2 (some .int), Cond.methodLink RL 43 yX6_lazy, Cond.instanceMethod yX6_lazy, Cond.selects RX6 yX6_lazy yX6_lazy, Cond.code yX6_lazy cX6_lazy 2 (some .int)]
def wsL_law_r22 : List Cond := [Cond.methodLink RL 44 yX5_size, Cond.instanceMethod yX5_size, Cond.selects RX5 yX5_size yX5_size, Cond.code yX5_size cX5_size 2 (some .int), Cond.methodLink RX5 107 yX3_length, Cond.methodLink RL 47 yX6_size, Cond.instanceMethod yX6_size, Cond.selects RX6 yX6_size yX6_size, Cond.code yX6_size cX6_size 2 (some .int), Cond.methodLink RL 48 yX5_item, Cond.instanceMethod yX5_item, Cond.selects RX5 yX5_item yX5_item, Cond.code yX5_item cX5_item 3 (some .int), Cond.methodLink RL 51 yX6_item, Cond.instanceMethod yX6_item, Cond.selects RX6 yX6_item yX6_item, Cond.code yX6_item cX6_item 3 (some .int), Cond.methodLink RL 52 yX5_frozen, Cond.instanceMethod yX5_frozen, Cond.selects RX5 yX5_frozen yX5_frozen, Cond.code yX5_frozen cX5_frozen 2 (some .int), Cond.methodLink RX5 114 yX3_isFrozen, Cond.methodLink RL 55 yX6_frozen, Cond.instanceMethod yX6_frozen]
def wsL_law_r23 : List Cond := [Cond.selects RX6 yX6_frozen yX6_frozen, Cond.code yX6_frozen cX6_frozen 2 (some .int), Cond.methodLink RL 56 yX5_put, Cond.instanceMethod yX5_put, Cond.selects RX5 yX5_put yX5_put, Cond.code yX5_put cX5_put 4 (some .int), Cond.methodLink RX5 117 yX1_hold, Cond.methodLink RL 59 yX6_put, Cond.instanceMethod yX6_put, Cond.selects RX6 yX6_put yX6_put, Cond.code yX6_put cX6_put 4 (some .int), Cond.methodLink RL 60 yX5_writes, Cond.instanceMethod yX5_writes, Cond.selects RX5 yX5_writes yX5_writes, Cond.code yX5_writes cX5_writes 1 (some .int), Cond.methodLink RL 64 yX6_writes, Cond.instanceMethod yX6_writes, Cond.selects RX6 yX6_writes yX6_writes, Cond.code yX6_writes cX6_writes 1 (some .int), Cond.methodLink RL 65 yX5_write, Cond.instanceMethod yX5_write, Cond.selects RX5 yX5_write yX5_write, Cond.code yX5_write cX5_write 3 (some .int), Cond.methodLink RX5 130 yX2_tell]
def wsL_law_r24 : List Cond := [Cond.instanceMethod yX2_tell, Cond.selects RX2 yX2_tell yX2_tell, Cond.code yX2_tell cX2_tell 4 (some .int), Cond.methodLink RL 68 yX6_write_, Cond.instanceMethod yX6_write_, Cond.selects RX6 yX6_write_ yX6_write_, Cond.code yX6_write_ cX6_write_ 5 (some .int), Cond.methodLink RL 69 yX5_again, Cond.instanceMethod yX5_again, Cond.selects RX5 yX5_again yX5_again, Cond.code yX5_again cX5_again 1 (some .int), Cond.methodLink RX5 133 yX5_restart, Cond.instanceMethod yX5_restart, Cond.selects RX5 yX5_restart yX5_restart, Cond.code yX5_restart cX5_restart 5 (some .int), Cond.methodLink RX5 140 yX1_reset, Cond.methodLink RX5 143 yX3_reset, Cond.methodLink RX5 144 yX4_reset, Cond.instanceMethod yX4_reset, Cond.selects RX4 yX4_reset yX4_reset, Cond.code yX4_reset cX4_reset 2 none, Cond.fieldLink RX4 63 "MutableCells$Strand" "turns" "I", Cond.methodLink RX4 44 yJ7_fill_53178, Cond.methodLink RL 72 yX6_again]
def wsL_law_r25 : List Cond := [Cond.instanceMethod yX6_again, Cond.selects RX6 yX6_again yX6_again, Cond.code yX6_again cX6_again 2 (some .int), Cond.methodLink RL 73 yX5_clear, Cond.instanceMethod yX5_clear, Cond.selects RX5 yX5_clear yX5_clear, Cond.code yX5_clear cX5_clear 1 (some .int), Cond.methodLink RL 76 yX6_clear, Cond.instanceMethod yX6_clear, Cond.selects RX6 yX6_clear yX6_clear, Cond.code yX6_clear cX6_clear 3 (some .int), Cond.methodLink RX6 197 yX6_again]
def wsL_law : List Cond := (wsL_law_r1 ++ (wsL_law_r2 ++ (wsL_law_r3 ++ (wsL_law_r4 ++ (wsL_law_r5 ++ (wsL_law_r6 ++ (wsL_law_r7 ++ (wsL_law_r8 ++ (wsL_law_r9 ++ (wsL_law_r10 ++ (wsL_law_r11 ++ (wsL_law_r12 ++ (wsL_law_r13 ++ (wsL_law_r14 ++ (wsL_law_r15 ++ (wsL_law_r16 ++ (wsL_law_r17 ++ (wsL_law_r18 ++ (wsL_law_r19 ++ (wsL_law_r20 ++ (wsL_law_r21 ++ (wsL_law_r22 ++ (wsL_law_r23 ++ (wsL_law_r24 ++ wsL_law_r25)))))))))))))))))))))))) ++ wsX50 ++ wsX60 ++ wsX10 ++ wsX30 ++ wsX40 ++ wsX20 ++ wsX00 ++ ([] : List Cond)
set_option maxRecDepth 20000 in
theorem wsL_law_in : ∀ w ∈ wsL_law, w ∈ lw_tbl := fun w h => (goodIn_p wsL_law [51, 54, 59, 65, 89, 92, 111, 116, 133, 139, 552, 557, 247, 251, 254, 257, 260, 263, 266, 270, 664, 667, 670, 673, 676, 679, 274, 278, 282, 286, 289, 293, 297, 301, 306, 311, 316, 320, 324, 328, 332, 336, 340, 345, 349, 354, 358, 362, 367, 371, 375, 380, 384, 388, 393, 397, 401, 405, 409, 413, 417, 424, 428, 431, 434, 438, 442, 446, 452, 456, 460, 464, 468, 683, 687, 691, 695, 699, 703, 707, 711, 715, 719, 723, 727, 731, 735, 739, 743, 747, 751, 755, 472, 477, 481, 759, 485, 764, 489, 768, 493, 772, 497, 776, 501, 780, 506, 784, 510, 788, 515, 792, 520, 796, 524, 528, 800, 532, 536, 542, 804, 547, 808] (by decide +kernel) (by decide +kernel) w h).1
theorem inlX0 : ∀ w ∈ wsX00, w ∈ wsL_law := fun _ h => List.mem_append_left _ (List.mem_append_right _ h)
theorem inX0 : ∀ w ∈ wsX00, w ∈ lw_tbl := fun w h => wsL_law_in w (inlX0 w h)
theorem inlX1 : ∀ w ∈ wsX10, w ∈ wsL_law := fun _ h => List.mem_append_left _ (List.mem_append_left _ (List.mem_append_left _ (List.mem_append_left _ (List.mem_append_left _ (List.mem_append_right _ h)))))
theorem inX1 : ∀ w ∈ wsX10, w ∈ lw_tbl := fun w h => wsL_law_in w (inlX1 w h)
theorem inlX2 : ∀ w ∈ wsX20, w ∈ wsL_law := fun _ h => List.mem_append_left _ (List.mem_append_left _ (List.mem_append_right _ h))
theorem inX2 : ∀ w ∈ wsX20, w ∈ lw_tbl := fun w h => wsL_law_in w (inlX2 w h)
theorem inlX3 : ∀ w ∈ wsX30, w ∈ wsL_law := fun _ h => List.mem_append_left _ (List.mem_append_left _ (List.mem_append_left _ (List.mem_append_left _ (List.mem_append_right _ h))))
theorem inX3 : ∀ w ∈ wsX30, w ∈ lw_tbl := fun w h => wsL_law_in w (inlX3 w h)
theorem inlX4 : ∀ w ∈ wsX40, w ∈ wsL_law := fun _ h => List.mem_append_left _ (List.mem_append_left _ (List.mem_append_left _ (List.mem_append_right _ h)))
theorem inX4 : ∀ w ∈ wsX40, w ∈ lw_tbl := fun w h => wsL_law_in w (inlX4 w h)
theorem inlX5 : ∀ w ∈ wsX50, w ∈ wsL_law := fun _ h => List.mem_append_left _ (List.mem_append_left _ (List.mem_append_left _ (List.mem_append_left _ (List.mem_append_left _ (List.mem_append_left _ (List.mem_append_left _ (List.mem_append_right _ h)))))))
theorem inX5 : ∀ w ∈ wsX50, w ∈ lw_tbl := fun w h => wsL_law_in w (inlX5 w h)
theorem inlX6 : ∀ w ∈ wsX60, w ∈ wsL_law := fun _ h => List.mem_append_left _ (List.mem_append_left _ (List.mem_append_left _ (List.mem_append_left _ (List.mem_append_left _ (List.mem_append_left _ (List.mem_append_right _ h))))))
theorem inX6 : ∀ w ∈ wsX60, w ∈ lw_tbl := fun w h => wsL_law_in w (inlX6 w h)
theorem inJ10 : ∀ w ∈ wsJ100, w ∈ lw_tbl := by decide +kernel
theorem inJ7 : ∀ w ∈ wsJ70, w ∈ lw_tbl := by decide +kernel
theorem dX0_init_0 : decode cX0_init 0 = .ok (.aload_n 0, 1) := by decide +kernel
theorem dX0_init_1 : decode cX0_init 1 = .ok (.invokespecial 3, 3) := by decide +kernel
theorem dX0_init_4 : decode cX0_init 4 = .ok (.aload_n 0, 1) := by decide +kernel
theorem dX0_init_5 : decode cX0_init 5 = .ok (.iconst 4, 1) := by decide +kernel
theorem dX0_init_6 : decode cX0_init 6 = .ok (.newarray .int, 2) := by decide +kernel
theorem dX0_init_8 : decode cX0_init 8 = .ok (.putfield 9, 3) := by decide +kernel
theorem dX0_init_11 : decode cX0_init 11 = .ok (.aload_n 0, 1) := by decide +kernel
theorem dX0_init_12 : decode cX0_init 12 = .ok (.bipush 8, 2) := by decide +kernel
theorem dX0_init_14 : decode cX0_init 14 = .ok (.newarray .boolean, 2) := by decide +kernel
theorem dX0_init_16 : decode cX0_init 16 = .ok (.putfield 15, 3) := by decide +kernel
theorem dX0_init_19 : decode cX0_init 19 = .ok (.aload_n 0, 1) := by decide +kernel
theorem dX0_init_20 : decode cX0_init 20 = .ok (.bipush 8, 2) := by decide +kernel
theorem dX0_init_22 : decode cX0_init 22 = .ok (.newarray .int, 2) := by decide +kernel
theorem dX0_init_24 : decode cX0_init 24 = .ok (.putfield 19, 3) := by decide +kernel
theorem dX0_init_27 : decode cX0_init 27 = .ok (.aload_n 0, 1) := by decide +kernel
theorem dX0_init_28 : decode cX0_init 28 = .ok (.bipush 8, 2) := by decide +kernel
theorem dX0_init_30 : decode cX0_init 30 = .ok (.newarray .boolean, 2) := by decide +kernel
theorem dX0_init_32 : decode cX0_init 32 = .ok (.putfield 22, 3) := by decide +kernel
theorem dX0_init_35 : decode cX0_init 35 = .ok (.aload_n 0, 1) := by decide +kernel
theorem dX0_init_36 : decode cX0_init 36 = .ok (.bipush 8, 2) := by decide +kernel
theorem dX0_init_38 : decode cX0_init 38 = .ok (.newarray .int, 2) := by decide +kernel
theorem dX0_init_40 : decode cX0_init 40 = .ok (.putfield 25, 3) := by decide +kernel
theorem dX0_init_43 : decode cX0_init 43 = .ok (.return_, 1) := by decide +kernel
theorem dX0_forget_0 : decode cX0_forget 0 = .ok (.iconst 0, 1) := by decide +kernel
theorem dX0_forget_1 : decode cX0_forget 1 = .ok (.istore_n 1, 1) := by decide +kernel
theorem dX0_forget_2 : decode cX0_forget 2 = .ok (.iload_n 1, 1) := by decide +kernel
theorem dX0_forget_3 : decode cX0_forget 3 = .ok (.bipush 8, 2) := by decide +kernel
theorem dX0_forget_5 : decode cX0_forget 5 = .ok (.if_icmp .ge 23, 3) := by decide +kernel
theorem dX0_forget_8 : decode cX0_forget 8 = .ok (.aload_n 0, 1) := by decide +kernel
theorem dX0_forget_9 : decode cX0_forget 9 = .ok (.getfield 15, 3) := by decide +kernel
theorem dX0_forget_12 : decode cX0_forget 12 = .ok (.iload_n 1, 1) := by decide +kernel
theorem dX0_forget_13 : decode cX0_forget 13 = .ok (.iconst 0, 1) := by decide +kernel
theorem dX0_forget_14 : decode cX0_forget 14 = .ok (.bastore, 1) := by decide +kernel
theorem dX0_forget_15 : decode cX0_forget 15 = .ok (.aload_n 0, 1) := by decide +kernel
theorem dX0_forget_16 : decode cX0_forget 16 = .ok (.getfield 22, 3) := by decide +kernel
theorem dX0_forget_19 : decode cX0_forget 19 = .ok (.iload_n 1, 1) := by decide +kernel
theorem dX0_forget_20 : decode cX0_forget 20 = .ok (.iconst 0, 1) := by decide +kernel
theorem dX0_forget_21 : decode cX0_forget 21 = .ok (.bastore, 1) := by decide +kernel
theorem dX0_forget_22 : decode cX0_forget 22 = .ok (.iinc 1 1, 3) := by decide +kernel
theorem dX0_forget_25 : decode cX0_forget 25 = .ok (.goto (-23), 3) := by decide +kernel
theorem dX0_forget_28 : decode cX0_forget 28 = .ok (.return_, 1) := by decide +kernel
set_option maxRecDepth 20000 in
theorem ggX0_hasPut_X5_isCell : GoodIn wsX0_hasPut wsX5_isCell := goodIn_r _ [4] (by decide +kernel) (by decide +kernel)
set_option maxRecDepth 20000 in
theorem gX0_hasPut_X5_isCell_n28 : GoodIn wsX0_hasPut (wsX5_isCell) := ggX0_hasPut_X5_isCell
theorem dX0_hasPut_0 : decode cX0_hasPut 0 = .ok (.iload_n 1, 1) := by decide +kernel
theorem dX0_hasPut_1 : decode cX0_hasPut 1 = .ok (.invokestatic 28, 3) := by decide +kernel
theorem dX0_hasPut_4 : decode cX0_hasPut 4 = .ok (.ifCond .eq 16, 3) := by decide +kernel
theorem dX0_hasPut_7 : decode cX0_hasPut 7 = .ok (.aload_n 0, 1) := by decide +kernel
theorem dX0_hasPut_8 : decode cX0_hasPut 8 = .ok (.getfield 15, 3) := by decide +kernel
theorem dX0_hasPut_11 : decode cX0_hasPut 11 = .ok (.iload_n 1, 1) := by decide +kernel
theorem dX0_hasPut_12 : decode cX0_hasPut 12 = .ok (.baload, 1) := by decide +kernel
theorem dX0_hasPut_13 : decode cX0_hasPut 13 = .ok (.ifCond .eq 7, 3) := by decide +kernel
theorem dX0_hasPut_16 : decode cX0_hasPut 16 = .ok (.iconst 1, 1) := by decide +kernel
theorem dX0_hasPut_17 : decode cX0_hasPut 17 = .ok (.goto 4, 3) := by decide +kernel
theorem dX0_hasPut_20 : decode cX0_hasPut 20 = .ok (.iconst 0, 1) := by decide +kernel
theorem dX0_hasPut_21 : decode cX0_hasPut 21 = .ok (.ireturn, 1) := by decide +kernel
set_option maxRecDepth 20000 in
theorem ggX0_putNumber_X5_isCell : GoodIn wsX0_putNumber wsX5_isCell := goodIn_r _ [4] (by decide +kernel) (by decide +kernel)
set_option maxRecDepth 20000 in
theorem gX0_putNumber_X5_isCell_n28 : GoodIn wsX0_putNumber (wsX5_isCell) := ggX0_putNumber_X5_isCell
theorem dX0_putNumber_0 : decode cX0_putNumber 0 = .ok (.iload_n 1, 1) := by decide +kernel
theorem dX0_putNumber_1 : decode cX0_putNumber 1 = .ok (.invokestatic 28, 3) := by decide +kernel
theorem dX0_putNumber_4 : decode cX0_putNumber 4 = .ok (.ifCond .eq 12, 3) := by decide +kernel
theorem dX0_putNumber_7 : decode cX0_putNumber 7 = .ok (.aload_n 0, 1) := by decide +kernel
theorem dX0_putNumber_8 : decode cX0_putNumber 8 = .ok (.getfield 19, 3) := by decide +kernel
theorem dX0_putNumber_11 : decode cX0_putNumber 11 = .ok (.iload_n 1, 1) := by decide +kernel
theorem dX0_putNumber_12 : decode cX0_putNumber 12 = .ok (.iaload, 1) := by decide +kernel
theorem dX0_putNumber_13 : decode cX0_putNumber 13 = .ok (.goto 4, 3) := by decide +kernel
theorem dX0_putNumber_16 : decode cX0_putNumber 16 = .ok (.iconst 0, 1) := by decide +kernel
theorem dX0_putNumber_17 : decode cX0_putNumber 17 = .ok (.ireturn, 1) := by decide +kernel
set_option maxRecDepth 20000 in
theorem ggX0_notePut_X5_isCell : GoodIn wsX0_notePut wsX5_isCell := goodIn_r _ [5] (by decide +kernel) (by decide +kernel)
set_option maxRecDepth 20000 in
theorem gX0_notePut_X5_isCell_n28 : GoodIn wsX0_notePut (wsX5_isCell) := ggX0_notePut_X5_isCell
theorem dX0_notePut_0 : decode cX0_notePut 0 = .ok (.iload_n 1, 1) := by decide +kernel
theorem dX0_notePut_1 : decode cX0_notePut 1 = .ok (.invokestatic 28, 3) := by decide +kernel
theorem dX0_notePut_4 : decode cX0_notePut 4 = .ok (.ifCond .eq 17, 3) := by decide +kernel
theorem dX0_notePut_7 : decode cX0_notePut 7 = .ok (.aload_n 0, 1) := by decide +kernel
theorem dX0_notePut_8 : decode cX0_notePut 8 = .ok (.getfield 15, 3) := by decide +kernel
theorem dX0_notePut_11 : decode cX0_notePut 11 = .ok (.iload_n 1, 1) := by decide +kernel
theorem dX0_notePut_12 : decode cX0_notePut 12 = .ok (.iconst 1, 1) := by decide +kernel
theorem dX0_notePut_13 : decode cX0_notePut 13 = .ok (.bastore, 1) := by decide +kernel
theorem dX0_notePut_14 : decode cX0_notePut 14 = .ok (.aload_n 0, 1) := by decide +kernel
theorem dX0_notePut_15 : decode cX0_notePut 15 = .ok (.getfield 19, 3) := by decide +kernel
theorem dX0_notePut_18 : decode cX0_notePut 18 = .ok (.iload_n 1, 1) := by decide +kernel
theorem dX0_notePut_19 : decode cX0_notePut 19 = .ok (.iload_n 2, 1) := by decide +kernel
theorem dX0_notePut_20 : decode cX0_notePut 20 = .ok (.iastore, 1) := by decide +kernel
theorem dX0_notePut_21 : decode cX0_notePut 21 = .ok (.return_, 1) := by decide +kernel
set_option maxRecDepth 20000 in
theorem ggX0_hasRead_X5_isCell : GoodIn wsX0_hasRead wsX5_isCell := goodIn_r _ [4] (by decide +kernel) (by decide +kernel)
set_option maxRecDepth 20000 in
theorem gX0_hasRead_X5_isCell_n28 : GoodIn wsX0_hasRead (wsX5_isCell) := ggX0_hasRead_X5_isCell
theorem dX0_hasRead_0 : decode cX0_hasRead 0 = .ok (.iload_n 1, 1) := by decide +kernel
theorem dX0_hasRead_1 : decode cX0_hasRead 1 = .ok (.invokestatic 28, 3) := by decide +kernel
theorem dX0_hasRead_4 : decode cX0_hasRead 4 = .ok (.ifCond .eq 16, 3) := by decide +kernel
theorem dX0_hasRead_7 : decode cX0_hasRead 7 = .ok (.aload_n 0, 1) := by decide +kernel
theorem dX0_hasRead_8 : decode cX0_hasRead 8 = .ok (.getfield 22, 3) := by decide +kernel
theorem dX0_hasRead_11 : decode cX0_hasRead 11 = .ok (.iload_n 1, 1) := by decide +kernel
theorem dX0_hasRead_12 : decode cX0_hasRead 12 = .ok (.baload, 1) := by decide +kernel
theorem dX0_hasRead_13 : decode cX0_hasRead 13 = .ok (.ifCond .eq 7, 3) := by decide +kernel
theorem dX0_hasRead_16 : decode cX0_hasRead 16 = .ok (.iconst 1, 1) := by decide +kernel
theorem dX0_hasRead_17 : decode cX0_hasRead 17 = .ok (.goto 4, 3) := by decide +kernel
theorem dX0_hasRead_20 : decode cX0_hasRead 20 = .ok (.iconst 0, 1) := by decide +kernel
theorem dX0_hasRead_21 : decode cX0_hasRead 21 = .ok (.ireturn, 1) := by decide +kernel
set_option maxRecDepth 20000 in
theorem ggX0_firstNumber_X5_isCell : GoodIn wsX0_firstNumber wsX5_isCell := goodIn_r _ [4] (by decide +kernel) (by decide +kernel)
set_option maxRecDepth 20000 in
theorem gX0_firstNumber_X5_isCell_n28 : GoodIn wsX0_firstNumber (wsX5_isCell) := ggX0_firstNumber_X5_isCell
theorem dX0_firstNumber_0 : decode cX0_firstNumber 0 = .ok (.iload_n 1, 1) := by decide +kernel
theorem dX0_firstNumber_1 : decode cX0_firstNumber 1 = .ok (.invokestatic 28, 3) := by decide +kernel
theorem dX0_firstNumber_4 : decode cX0_firstNumber 4 = .ok (.ifCond .eq 12, 3) := by decide +kernel
theorem dX0_firstNumber_7 : decode cX0_firstNumber 7 = .ok (.aload_n 0, 1) := by decide +kernel
theorem dX0_firstNumber_8 : decode cX0_firstNumber 8 = .ok (.getfield 25, 3) := by decide +kernel
theorem dX0_firstNumber_11 : decode cX0_firstNumber 11 = .ok (.iload_n 1, 1) := by decide +kernel
theorem dX0_firstNumber_12 : decode cX0_firstNumber 12 = .ok (.iaload, 1) := by decide +kernel
theorem dX0_firstNumber_13 : decode cX0_firstNumber 13 = .ok (.goto 4, 3) := by decide +kernel
theorem dX0_firstNumber_16 : decode cX0_firstNumber 16 = .ok (.iconst 0, 1) := by decide +kernel
theorem dX0_firstNumber_17 : decode cX0_firstNumber 17 = .ok (.ireturn, 1) := by decide +kernel
set_option maxRecDepth 20000 in
theorem ggX0_noteReading_X5_isCell : GoodIn wsX0_noteReading wsX5_isCell := goodIn_r _ [5] (by decide +kernel) (by decide +kernel)
set_option maxRecDepth 20000 in
theorem gX0_noteReading_X5_isCell_n28 : GoodIn wsX0_noteReading (wsX5_isCell) := ggX0_noteReading_X5_isCell
theorem dX0_noteReading_0 : decode cX0_noteReading 0 = .ok (.iload_n 1, 1) := by decide +kernel
theorem dX0_noteReading_1 : decode cX0_noteReading 1 = .ok (.invokestatic 28, 3) := by decide +kernel
theorem dX0_noteReading_4 : decode cX0_noteReading 4 = .ok (.ifCond .eq 26, 3) := by decide +kernel
theorem dX0_noteReading_7 : decode cX0_noteReading 7 = .ok (.aload_n 0, 1) := by decide +kernel
theorem dX0_noteReading_8 : decode cX0_noteReading 8 = .ok (.getfield 22, 3) := by decide +kernel
theorem dX0_noteReading_11 : decode cX0_noteReading 11 = .ok (.iload_n 1, 1) := by decide +kernel
theorem dX0_noteReading_12 : decode cX0_noteReading 12 = .ok (.baload, 1) := by decide +kernel
theorem dX0_noteReading_13 : decode cX0_noteReading 13 = .ok (.ifCond .ne 17, 3) := by decide +kernel
theorem dX0_noteReading_16 : decode cX0_noteReading 16 = .ok (.aload_n 0, 1) := by decide +kernel
theorem dX0_noteReading_17 : decode cX0_noteReading 17 = .ok (.getfield 22, 3) := by decide +kernel
theorem dX0_noteReading_20 : decode cX0_noteReading 20 = .ok (.iload_n 1, 1) := by decide +kernel
theorem dX0_noteReading_21 : decode cX0_noteReading 21 = .ok (.iconst 1, 1) := by decide +kernel
theorem dX0_noteReading_22 : decode cX0_noteReading 22 = .ok (.bastore, 1) := by decide +kernel
theorem dX0_noteReading_23 : decode cX0_noteReading 23 = .ok (.aload_n 0, 1) := by decide +kernel
theorem dX0_noteReading_24 : decode cX0_noteReading 24 = .ok (.getfield 25, 3) := by decide +kernel
theorem dX0_noteReading_27 : decode cX0_noteReading 27 = .ok (.iload_n 1, 1) := by decide +kernel
theorem dX0_noteReading_28 : decode cX0_noteReading 28 = .ok (.iload_n 2, 1) := by decide +kernel
theorem dX0_noteReading_29 : decode cX0_noteReading 29 = .ok (.iastore, 1) := by decide +kernel
theorem dX0_noteReading_30 : decode cX0_noteReading 30 = .ok (.return_, 1) := by decide +kernel
set_option maxRecDepth 20000 in
theorem ggX1_init_X2_init : GoodIn wsX1_init wsX2_init := goodIn_r _ [13, 14, 2, 3, 4, 15, 16, 17, 31, 32, 33, 34, 35] (by decide +kernel) (by decide +kernel)
set_option maxRecDepth 20000 in
theorem gX1_init_X2_init_n23 : GoodIn wsX1_init (wsX2_init) := ggX1_init_X2_init
set_option maxRecDepth 20000 in
theorem ggX1_init_X1_reset : GoodIn wsX1_init wsX1_reset := goodIn_r _ [22, 5, 6, 11, 23, 24, 25, 26, 27, 28, 29, 30, 31, 32, 33, 34, 35] (by decide +kernel) (by decide +kernel)
set_option maxRecDepth 20000 in
theorem gX1_init_X1_reset : GoodIn wsX1_init (wsV RX1 28 RX1 yX1_reset wsX1_reset) := goodIn_app (goodIn_of _ (by decide +kernel)) ggX1_init_X1_reset
theorem dX1_init_0 : decode cX1_init 0 = .ok (.aload_n 0, 1) := by decide +kernel
theorem dX1_init_1 : decode cX1_init 1 = .ok (.invokespecial 3, 3) := by decide +kernel
theorem dX1_init_4 : decode cX1_init 4 = .ok (.aload_n 0, 1) := by decide +kernel
theorem dX1_init_5 : decode cX1_init 5 = .ok (.bipush 8, 2) := by decide +kernel
theorem dX1_init_7 : decode cX1_init 7 = .ok (.newarray .int, 2) := by decide +kernel
theorem dX1_init_9 : decode cX1_init 9 = .ok (.putfield 9, 3) := by decide +kernel
theorem dX1_init_12 : decode cX1_init 12 = .ok (.aload_n 0, 1) := by decide +kernel
theorem dX1_init_13 : decode cX1_init 13 = .ok (.bipush 8, 2) := by decide +kernel
theorem dX1_init_15 : decode cX1_init 15 = .ok (.newarray .int, 2) := by decide +kernel
theorem dX1_init_17 : decode cX1_init 17 = .ok (.putfield 15, 3) := by decide +kernel
theorem dX1_init_20 : decode cX1_init 20 = .ok (.aload_n 0, 1) := by decide +kernel
theorem dX1_init_21 : decode cX1_init 21 = .ok (.bipush 8, 2) := by decide +kernel
theorem dX1_init_23 : decode cX1_init 23 = .ok (.newarray .int, 2) := by decide +kernel
theorem dX1_init_25 : decode cX1_init 25 = .ok (.putfield 18, 3) := by decide +kernel
theorem dX1_init_28 : decode cX1_init 28 = .ok (.aload_n 0, 1) := by decide +kernel
theorem dX1_init_29 : decode cX1_init 29 = .ok (.new 21, 3) := by decide +kernel
theorem dX1_init_32 : decode cX1_init 32 = .ok (.dup, 1) := by decide +kernel
theorem dX1_init_33 : decode cX1_init 33 = .ok (.invokespecial 23, 3) := by decide +kernel
theorem dX1_init_36 : decode cX1_init 36 = .ok (.putfield 24, 3) := by decide +kernel
theorem dX1_init_39 : decode cX1_init 39 = .ok (.aload_n 0, 1) := by decide +kernel
theorem dX1_init_40 : decode cX1_init 40 = .ok (.invokevirtual 28, 3) := by decide +kernel
theorem dX1_init_43 : decode cX1_init 43 = .ok (.return_, 1) := by decide +kernel
set_option maxRecDepth 20000 in
theorem ggX1_reset_J7_fill_53178 : GoodIn wsX1_reset wsJ7_fill_53178 := goodIn_r _ [7] (by decide +kernel) (by decide +kernel)
set_option maxRecDepth 20000 in
theorem gX1_reset_J7_fill_53178 : GoodIn wsX1_reset (va_wsS RX1 31 yJ7_fill_53178 wsJ7_fill_53178) := goodIn_app (goodIn_of _ (by decide +kernel)) ggX1_reset_J7_fill_53178
theorem dX1_reset_0 : decode cX1_reset 0 = .ok (.aload_n 0, 1) := by decide +kernel
theorem dX1_reset_1 : decode cX1_reset 1 = .ok (.getfield 9, 3) := by decide +kernel
theorem dX1_reset_4 : decode cX1_reset 4 = .ok (.iconst 0, 1) := by decide +kernel
theorem dX1_reset_5 : decode cX1_reset 5 = .ok (.invokestatic 31, 3) := by decide +kernel
theorem dX1_reset_8 : decode cX1_reset 8 = .ok (.aload_n 0, 1) := by decide +kernel
theorem dX1_reset_9 : decode cX1_reset 9 = .ok (.getfield 15, 3) := by decide +kernel
theorem dX1_reset_12 : decode cX1_reset 12 = .ok (.iconst (-1), 1) := by decide +kernel
theorem dX1_reset_13 : decode cX1_reset 13 = .ok (.invokestatic 31, 3) := by decide +kernel
theorem dX1_reset_16 : decode cX1_reset 16 = .ok (.aload_n 0, 1) := by decide +kernel
theorem dX1_reset_17 : decode cX1_reset 17 = .ok (.getfield 24, 3) := by decide +kernel
theorem dX1_reset_20 : decode cX1_reset 20 = .ok (.iconst 0, 1) := by decide +kernel
theorem dX1_reset_21 : decode cX1_reset 21 = .ok (.putfield 37, 3) := by decide +kernel
theorem dX1_reset_24 : decode cX1_reset 24 = .ok (.return_, 1) := by decide +kernel
set_option maxRecDepth 20000 in
theorem ggX1_isLazy_X5_isCell : GoodIn wsX1_isLazy wsX5_isCell := goodIn_r _ [4] (by decide +kernel) (by decide +kernel)
set_option maxRecDepth 20000 in
theorem gX1_isLazy_X5_isCell_n41 : GoodIn wsX1_isLazy (wsX5_isCell) := ggX1_isLazy_X5_isCell
theorem dX1_isLazy_0 : decode cX1_isLazy 0 = .ok (.iload_n 1, 1) := by decide +kernel
theorem dX1_isLazy_1 : decode cX1_isLazy 1 = .ok (.invokestatic 41, 3) := by decide +kernel
theorem dX1_isLazy_4 : decode cX1_isLazy 4 = .ok (.ifCond .eq 17, 3) := by decide +kernel
theorem dX1_isLazy_7 : decode cX1_isLazy 7 = .ok (.aload_n 0, 1) := by decide +kernel
theorem dX1_isLazy_8 : decode cX1_isLazy 8 = .ok (.getfield 15, 3) := by decide +kernel
theorem dX1_isLazy_11 : decode cX1_isLazy 11 = .ok (.iload_n 1, 1) := by decide +kernel
theorem dX1_isLazy_12 : decode cX1_isLazy 12 = .ok (.iaload, 1) := by decide +kernel
theorem dX1_isLazy_13 : decode cX1_isLazy 13 = .ok (.iconst (-1), 1) := by decide +kernel
theorem dX1_isLazy_14 : decode cX1_isLazy 14 = .ok (.if_icmp .eq 7, 3) := by decide +kernel
theorem dX1_isLazy_17 : decode cX1_isLazy 17 = .ok (.iconst 1, 1) := by decide +kernel
theorem dX1_isLazy_18 : decode cX1_isLazy 18 = .ok (.goto 4, 3) := by decide +kernel
theorem dX1_isLazy_21 : decode cX1_isLazy 21 = .ok (.iconst 0, 1) := by decide +kernel
theorem dX1_isLazy_22 : decode cX1_isLazy 22 = .ok (.ireturn, 1) := by decide +kernel
set_option maxRecDepth 20000 in
theorem ggX1_shown_X5_isCell : GoodIn wsX1_shown wsX5_isCell := goodIn_r _ [5] (by decide +kernel) (by decide +kernel)
set_option maxRecDepth 20000 in
theorem gX1_shown_X5_isCell_n41 : GoodIn wsX1_shown (wsX5_isCell) := ggX1_shown_X5_isCell
theorem dX1_shown_0 : decode cX1_shown 0 = .ok (.iload_n 1, 1) := by decide +kernel
theorem dX1_shown_1 : decode cX1_shown 1 = .ok (.invokestatic 41, 3) := by decide +kernel
theorem dX1_shown_4 : decode cX1_shown 4 = .ok (.ifCond .ne 5, 3) := by decide +kernel
theorem dX1_shown_7 : decode cX1_shown 7 = .ok (.iconst 0, 1) := by decide +kernel
theorem dX1_shown_8 : decode cX1_shown 8 = .ok (.ireturn, 1) := by decide +kernel
theorem dX1_shown_9 : decode cX1_shown 9 = .ok (.aload_n 0, 1) := by decide +kernel
theorem dX1_shown_10 : decode cX1_shown 10 = .ok (.getfield 15, 3) := by decide +kernel
theorem dX1_shown_13 : decode cX1_shown 13 = .ok (.iload_n 1, 1) := by decide +kernel
theorem dX1_shown_14 : decode cX1_shown 14 = .ok (.iaload, 1) := by decide +kernel
theorem dX1_shown_15 : decode cX1_shown 15 = .ok (.iconst (-1), 1) := by decide +kernel
theorem dX1_shown_16 : decode cX1_shown 16 = .ok (.if_icmp .eq 12, 3) := by decide +kernel
theorem dX1_shown_19 : decode cX1_shown 19 = .ok (.aload_n 0, 1) := by decide +kernel
theorem dX1_shown_20 : decode cX1_shown 20 = .ok (.getfield 15, 3) := by decide +kernel
theorem dX1_shown_23 : decode cX1_shown 23 = .ok (.iload_n 1, 1) := by decide +kernel
theorem dX1_shown_24 : decode cX1_shown 24 = .ok (.iaload, 1) := by decide +kernel
theorem dX1_shown_25 : decode cX1_shown 25 = .ok (.goto 9, 3) := by decide +kernel
theorem dX1_shown_28 : decode cX1_shown 28 = .ok (.aload_n 0, 1) := by decide +kernel
theorem dX1_shown_29 : decode cX1_shown 29 = .ok (.getfield 9, 3) := by decide +kernel
theorem dX1_shown_32 : decode cX1_shown 32 = .ok (.iload_n 1, 1) := by decide +kernel
theorem dX1_shown_33 : decode cX1_shown 33 = .ok (.iaload, 1) := by decide +kernel
theorem dX1_shown_34 : decode cX1_shown 34 = .ok (.ireturn, 1) := by decide +kernel
theorem dX1_hold_0 : decode cX1_hold 0 = .ok (.iload_n 1, 1) := by decide +kernel
theorem dX1_hold_1 : decode cX1_hold 1 = .ok (.ifCond .lt 26, 3) := by decide +kernel
theorem dX1_hold_4 : decode cX1_hold 4 = .ok (.iload_n 1, 1) := by decide +kernel
theorem dX1_hold_5 : decode cX1_hold 5 = .ok (.aload_n 0, 1) := by decide +kernel
theorem dX1_hold_6 : decode cX1_hold 6 = .ok (.getfield 9, 3) := by decide +kernel
theorem dX1_hold_9 : decode cX1_hold 9 = .ok (.arraylength, 1) := by decide +kernel
theorem dX1_hold_10 : decode cX1_hold 10 = .ok (.if_icmp .ge 17, 3) := by decide +kernel
theorem dX1_hold_13 : decode cX1_hold 13 = .ok (.aload_n 0, 1) := by decide +kernel
theorem dX1_hold_14 : decode cX1_hold 14 = .ok (.getfield 9, 3) := by decide +kernel
theorem dX1_hold_17 : decode cX1_hold 17 = .ok (.iload_n 1, 1) := by decide +kernel
theorem dX1_hold_18 : decode cX1_hold 18 = .ok (.iload_n 2, 1) := by decide +kernel
theorem dX1_hold_19 : decode cX1_hold 19 = .ok (.iastore, 1) := by decide +kernel
theorem dX1_hold_20 : decode cX1_hold 20 = .ok (.aload_n 0, 1) := by decide +kernel
theorem dX1_hold_21 : decode cX1_hold 21 = .ok (.getfield 15, 3) := by decide +kernel
theorem dX1_hold_24 : decode cX1_hold 24 = .ok (.iload_n 1, 1) := by decide +kernel
theorem dX1_hold_25 : decode cX1_hold 25 = .ok (.iconst (-1), 1) := by decide +kernel
theorem dX1_hold_26 : decode cX1_hold 26 = .ok (.iastore, 1) := by decide +kernel
theorem dX1_hold_27 : decode cX1_hold 27 = .ok (.return_, 1) := by decide +kernel
set_option maxRecDepth 20000 in
theorem ggX1_defer_X5_isCell : GoodIn wsX1_defer wsX5_isCell := goodIn_r _ [4] (by decide +kernel) (by decide +kernel)
set_option maxRecDepth 20000 in
theorem gX1_defer_X5_isCell_n41 : GoodIn wsX1_defer (wsX5_isCell) := ggX1_defer_X5_isCell
theorem dX1_defer_0 : decode cX1_defer 0 = .ok (.iload_n 1, 1) := by decide +kernel
theorem dX1_defer_1 : decode cX1_defer 1 = .ok (.invokestatic 41, 3) := by decide +kernel
theorem dX1_defer_4 : decode cX1_defer 4 = .ok (.ifCond .eq 17, 3) := by decide +kernel
theorem dX1_defer_7 : decode cX1_defer 7 = .ok (.iload_n 2, 1) := by decide +kernel
theorem dX1_defer_8 : decode cX1_defer 8 = .ok (.invokestatic 41, 3) := by decide +kernel
theorem dX1_defer_11 : decode cX1_defer 11 = .ok (.ifCond .eq 10, 3) := by decide +kernel
theorem dX1_defer_14 : decode cX1_defer 14 = .ok (.aload_n 0, 1) := by decide +kernel
theorem dX1_defer_15 : decode cX1_defer 15 = .ok (.getfield 15, 3) := by decide +kernel
theorem dX1_defer_18 : decode cX1_defer 18 = .ok (.iload_n 1, 1) := by decide +kernel
theorem dX1_defer_19 : decode cX1_defer 19 = .ok (.iload_n 2, 1) := by decide +kernel
theorem dX1_defer_20 : decode cX1_defer 20 = .ok (.iastore, 1) := by decide +kernel
theorem dX1_defer_21 : decode cX1_defer 21 = .ok (.return_, 1) := by decide +kernel
set_option maxRecDepth 20000 in
theorem ggX1_count_X1_hold : GoodIn wsX1_count wsX1_hold := goodIn_r _ [6, 7, 8, 19, 20, 21, 22] (by decide +kernel) (by decide +kernel)
set_option maxRecDepth 20000 in
theorem gX1_count_X1_hold : GoodIn wsX1_count (wsV RX1 45 RX1 yX1_hold wsX1_hold) := goodIn_app (goodIn_of _ (by decide +kernel)) ggX1_count_X1_hold
set_option maxRecDepth 20000 in
theorem ggX1_count_X2_add : GoodIn wsX1_count wsX2_add := goodIn_r _ [13, 14, 15, 16, 17, 18, 23, 24, 25, 26, 27] (by decide +kernel) (by decide +kernel)
set_option maxRecDepth 20000 in
theorem gX1_count_X2_add : GoodIn wsX1_count (wsV RX1 49 RX2 yX2_add wsX2_add) := goodIn_app (goodIn_of _ (by decide +kernel)) ggX1_count_X2_add
theorem dX1_count_0 : decode cX1_count 0 = .ok (.aload_n 0, 1) := by decide +kernel
theorem dX1_count_1 : decode cX1_count 1 = .ok (.iload_n 2, 1) := by decide +kernel
theorem dX1_count_2 : decode cX1_count 2 = .ok (.iload_n 3, 1) := by decide +kernel
theorem dX1_count_3 : decode cX1_count 3 = .ok (.invokevirtual 45, 3) := by decide +kernel
theorem dX1_count_6 : decode cX1_count 6 = .ok (.aload_n 0, 1) := by decide +kernel
theorem dX1_count_7 : decode cX1_count 7 = .ok (.getfield 24, 3) := by decide +kernel
theorem dX1_count_10 : decode cX1_count 10 = .ok (.iload_n 1, 1) := by decide +kernel
theorem dX1_count_11 : decode cX1_count 11 = .ok (.iload_n 2, 1) := by decide +kernel
theorem dX1_count_12 : decode cX1_count 12 = .ok (.iload_n 3, 1) := by decide +kernel
theorem dX1_count_13 : decode cX1_count 13 = .ok (.invokevirtual 49, 3) := by decide +kernel
theorem dX1_count_16 : decode cX1_count 16 = .ok (.return_, 1) := by decide +kernel
set_option maxRecDepth 20000 in
theorem ggX1_leadsToRing_X1_isLazy : GoodIn wsX1_leadsToRing wsX1_isLazy := goodIn_r _ [5, 6, 7, 8, 9, 15, 16, 17, 18] (by decide +kernel) (by decide +kernel)
set_option maxRecDepth 20000 in
theorem gX1_leadsToRing_X1_isLazy : GoodIn wsX1_leadsToRing (wsV RX1 53 RX1 yX1_isLazy wsX1_isLazy) := goodIn_app (goodIn_of _ (by decide +kernel)) ggX1_leadsToRing_X1_isLazy
set_option maxRecDepth 20000 in
theorem ggX1_leadsToRing_X1_shown : GoodIn wsX1_leadsToRing wsX1_shown := goodIn_r _ [13, 6, 14, 7, 8, 9, 15, 16, 17, 18] (by decide +kernel) (by decide +kernel)
set_option maxRecDepth 20000 in
theorem gX1_leadsToRing_X1_shown : GoodIn wsX1_leadsToRing (wsV RX1 56 RX1 yX1_shown wsX1_shown) := goodIn_app (goodIn_of _ (by decide +kernel)) ggX1_leadsToRing_X1_shown
theorem dX1_leadsToRing_0 : decode cX1_leadsToRing 0 = .ok (.iload_n 1, 1) := by decide +kernel
theorem dX1_leadsToRing_1 : decode cX1_leadsToRing 1 = .ok (.istore_n 2, 1) := by decide +kernel
theorem dX1_leadsToRing_2 : decode cX1_leadsToRing 2 = .ok (.iconst 0, 1) := by decide +kernel
theorem dX1_leadsToRing_3 : decode cX1_leadsToRing 3 = .ok (.istore_n 3, 1) := by decide +kernel
theorem dX1_leadsToRing_4 : decode cX1_leadsToRing 4 = .ok (.iload_n 3, 1) := by decide +kernel
theorem dX1_leadsToRing_5 : decode cX1_leadsToRing 5 = .ok (.bipush 8, 2) := by decide +kernel
theorem dX1_leadsToRing_7 : decode cX1_leadsToRing 7 = .ok (.if_icmp .ge 25, 3) := by decide +kernel
theorem dX1_leadsToRing_10 : decode cX1_leadsToRing 10 = .ok (.aload_n 0, 1) := by decide +kernel
theorem dX1_leadsToRing_11 : decode cX1_leadsToRing 11 = .ok (.iload_n 2, 1) := by decide +kernel
theorem dX1_leadsToRing_12 : decode cX1_leadsToRing 12 = .ok (.invokevirtual 53, 3) := by decide +kernel
theorem dX1_leadsToRing_15 : decode cX1_leadsToRing 15 = .ok (.ifCond .ne 5, 3) := by decide +kernel
theorem dX1_leadsToRing_18 : decode cX1_leadsToRing 18 = .ok (.iconst 0, 1) := by decide +kernel
theorem dX1_leadsToRing_19 : decode cX1_leadsToRing 19 = .ok (.ireturn, 1) := by decide +kernel
theorem dX1_leadsToRing_20 : decode cX1_leadsToRing 20 = .ok (.aload_n 0, 1) := by decide +kernel
theorem dX1_leadsToRing_21 : decode cX1_leadsToRing 21 = .ok (.iload_n 2, 1) := by decide +kernel
theorem dX1_leadsToRing_22 : decode cX1_leadsToRing 22 = .ok (.invokevirtual 56, 3) := by decide +kernel
theorem dX1_leadsToRing_25 : decode cX1_leadsToRing 25 = .ok (.istore_n 2, 1) := by decide +kernel
theorem dX1_leadsToRing_26 : decode cX1_leadsToRing 26 = .ok (.iinc 3 1, 3) := by decide +kernel
theorem dX1_leadsToRing_29 : decode cX1_leadsToRing 29 = .ok (.goto (-25), 3) := by decide +kernel
theorem dX1_leadsToRing_32 : decode cX1_leadsToRing 32 = .ok (.iconst 1, 1) := by decide +kernel
theorem dX1_leadsToRing_33 : decode cX1_leadsToRing 33 = .ok (.ireturn, 1) := by decide +kernel
set_option maxRecDepth 20000 in
theorem ggX1_workedOut_X1_isLazy : GoodIn wsX1_workedOut wsX1_isLazy := goodIn_r _ [6, 7, 8, 9, 10, 35, 36, 37, 38] (by decide +kernel) (by decide +kernel)
set_option maxRecDepth 20000 in
theorem gX1_workedOut_X1_isLazy : GoodIn wsX1_workedOut (wsV RX1 53 RX1 yX1_isLazy wsX1_isLazy) := goodIn_app (goodIn_of _ (by decide +kernel)) ggX1_workedOut_X1_isLazy
set_option maxRecDepth 20000 in
theorem ggX1_workedOut_X1_shown : GoodIn wsX1_workedOut wsX1_shown := goodIn_r _ [14, 7, 15, 8, 9, 10, 35, 36, 37, 38] (by decide +kernel) (by decide +kernel)
set_option maxRecDepth 20000 in
theorem gX1_workedOut_X1_shown : GoodIn wsX1_workedOut (wsV RX1 56 RX1 yX1_shown wsX1_shown) := goodIn_app (goodIn_of _ (by decide +kernel)) ggX1_workedOut_X1_shown
set_option maxRecDepth 20000 in
theorem ggX1_workedOut_X1_count : GoodIn wsX1_workedOut wsX1_count := goodIn_r _ [19, 20, 21, 22, 23, 5, 24, 15, 7, 25, 26, 27, 28, 29, 30, 31, 32, 33, 34, 35, 36, 37, 38, 39, 40, 41, 42, 43] (by decide +kernel) (by decide +kernel)
set_option maxRecDepth 20000 in
theorem gX1_workedOut_X1_count : GoodIn wsX1_workedOut (wsV RX1 60 RX1 yX1_count wsX1_count) := goodIn_app (goodIn_of _ (by decide +kernel)) ggX1_workedOut_X1_count
theorem dX1_workedOut_0 : decode cX1_workedOut 0 = .ok (.iconst 0, 1) := by decide +kernel
theorem dX1_workedOut_1 : decode cX1_workedOut 1 = .ok (.istore_n 3, 1) := by decide +kernel
theorem dX1_workedOut_2 : decode cX1_workedOut 2 = .ok (.iload_n 1, 1) := by decide +kernel
theorem dX1_workedOut_3 : decode cX1_workedOut 3 = .ok (.istore 4, 2) := by decide +kernel
theorem dX1_workedOut_5 : decode cX1_workedOut 5 = .ok (.iload_n 3, 1) := by decide +kernel
theorem dX1_workedOut_6 : decode cX1_workedOut 6 = .ok (.aload_n 0, 1) := by decide +kernel
theorem dX1_workedOut_7 : decode cX1_workedOut 7 = .ok (.getfield 18, 3) := by decide +kernel
theorem dX1_workedOut_10 : decode cX1_workedOut 10 = .ok (.arraylength, 1) := by decide +kernel
theorem dX1_workedOut_11 : decode cX1_workedOut 11 = .ok (.if_icmp .ge 34, 3) := by decide +kernel
theorem dX1_workedOut_14 : decode cX1_workedOut 14 = .ok (.aload_n 0, 1) := by decide +kernel
theorem dX1_workedOut_15 : decode cX1_workedOut 15 = .ok (.iload 4, 2) := by decide +kernel
theorem dX1_workedOut_17 : decode cX1_workedOut 17 = .ok (.invokevirtual 53, 3) := by decide +kernel
theorem dX1_workedOut_20 : decode cX1_workedOut 20 = .ok (.ifCond .eq 25, 3) := by decide +kernel
theorem dX1_workedOut_23 : decode cX1_workedOut 23 = .ok (.aload_n 0, 1) := by decide +kernel
theorem dX1_workedOut_24 : decode cX1_workedOut 24 = .ok (.getfield 18, 3) := by decide +kernel
theorem dX1_workedOut_27 : decode cX1_workedOut 27 = .ok (.iload_n 3, 1) := by decide +kernel
theorem dX1_workedOut_28 : decode cX1_workedOut 28 = .ok (.iload 4, 2) := by decide +kernel
theorem dX1_workedOut_30 : decode cX1_workedOut 30 = .ok (.iastore, 1) := by decide +kernel
theorem dX1_workedOut_31 : decode cX1_workedOut 31 = .ok (.iinc 3 1, 3) := by decide +kernel
theorem dX1_workedOut_34 : decode cX1_workedOut 34 = .ok (.aload_n 0, 1) := by decide +kernel
theorem dX1_workedOut_35 : decode cX1_workedOut 35 = .ok (.iload 4, 2) := by decide +kernel
theorem dX1_workedOut_37 : decode cX1_workedOut 37 = .ok (.invokevirtual 56, 3) := by decide +kernel
theorem dX1_workedOut_40 : decode cX1_workedOut 40 = .ok (.istore 4, 2) := by decide +kernel
theorem dX1_workedOut_42 : decode cX1_workedOut 42 = .ok (.goto (-37), 3) := by decide +kernel
theorem dX1_workedOut_45 : decode cX1_workedOut 45 = .ok (.aload_n 0, 1) := by decide +kernel
theorem dX1_workedOut_46 : decode cX1_workedOut 46 = .ok (.iload 4, 2) := by decide +kernel
theorem dX1_workedOut_48 : decode cX1_workedOut 48 = .ok (.invokevirtual 56, 3) := by decide +kernel
theorem dX1_workedOut_51 : decode cX1_workedOut 51 = .ok (.istore 5, 2) := by decide +kernel
theorem dX1_workedOut_53 : decode cX1_workedOut 53 = .ok (.iload_n 3, 1) := by decide +kernel
theorem dX1_workedOut_54 : decode cX1_workedOut 54 = .ok (.iconst 1, 1) := by decide +kernel
theorem dX1_workedOut_55 : decode cX1_workedOut 55 = .ok (.isub, 1) := by decide +kernel
theorem dX1_workedOut_56 : decode cX1_workedOut 56 = .ok (.istore 6, 2) := by decide +kernel
theorem dX1_workedOut_58 : decode cX1_workedOut 58 = .ok (.iload 6, 2) := by decide +kernel
theorem dX1_workedOut_60 : decode cX1_workedOut 60 = .ok (.ifCond .lt 31, 3) := by decide +kernel
theorem dX1_workedOut_63 : decode cX1_workedOut 63 = .ok (.iconst 2, 1) := by decide +kernel
theorem dX1_workedOut_64 : decode cX1_workedOut 64 = .ok (.iload 5, 2) := by decide +kernel
theorem dX1_workedOut_66 : decode cX1_workedOut 66 = .ok (.imul, 1) := by decide +kernel
theorem dX1_workedOut_67 : decode cX1_workedOut 67 = .ok (.iconst 1, 1) := by decide +kernel
theorem dX1_workedOut_68 : decode cX1_workedOut 68 = .ok (.iadd, 1) := by decide +kernel
theorem dX1_workedOut_69 : decode cX1_workedOut 69 = .ok (.istore 5, 2) := by decide +kernel
theorem dX1_workedOut_71 : decode cX1_workedOut 71 = .ok (.aload_n 0, 1) := by decide +kernel
theorem dX1_workedOut_72 : decode cX1_workedOut 72 = .ok (.iload_n 2, 1) := by decide +kernel
theorem dX1_workedOut_73 : decode cX1_workedOut 73 = .ok (.aload_n 0, 1) := by decide +kernel
theorem dX1_workedOut_74 : decode cX1_workedOut 74 = .ok (.getfield 18, 3) := by decide +kernel
theorem dX1_workedOut_77 : decode cX1_workedOut 77 = .ok (.iload 6, 2) := by decide +kernel
theorem dX1_workedOut_79 : decode cX1_workedOut 79 = .ok (.iaload, 1) := by decide +kernel
theorem dX1_workedOut_80 : decode cX1_workedOut 80 = .ok (.iload 5, 2) := by decide +kernel
theorem dX1_workedOut_82 : decode cX1_workedOut 82 = .ok (.invokevirtual 60, 3) := by decide +kernel
theorem dX1_workedOut_85 : decode cX1_workedOut 85 = .ok (.iinc 6 (-1), 3) := by decide +kernel
theorem dX1_workedOut_88 : decode cX1_workedOut 88 = .ok (.goto (-30), 3) := by decide +kernel
theorem dX1_workedOut_91 : decode cX1_workedOut 91 = .ok (.iload 5, 2) := by decide +kernel
theorem dX1_workedOut_93 : decode cX1_workedOut 93 = .ok (.ireturn, 1) := by decide +kernel
theorem dX2_init_0 : decode cX2_init 0 = .ok (.aload_n 0, 1) := by decide +kernel
theorem dX2_init_1 : decode cX2_init 1 = .ok (.invokespecial 3, 3) := by decide +kernel
theorem dX2_init_4 : decode cX2_init 4 = .ok (.aload_n 0, 1) := by decide +kernel
theorem dX2_init_5 : decode cX2_init 5 = .ok (.bipush 30, 2) := by decide +kernel
theorem dX2_init_7 : decode cX2_init 7 = .ok (.newarray .int, 2) := by decide +kernel
theorem dX2_init_9 : decode cX2_init 9 = .ok (.putfield 9, 3) := by decide +kernel
theorem dX2_init_12 : decode cX2_init 12 = .ok (.aload_n 0, 1) := by decide +kernel
theorem dX2_init_13 : decode cX2_init 13 = .ok (.bipush 30, 2) := by decide +kernel
theorem dX2_init_15 : decode cX2_init 15 = .ok (.newarray .int, 2) := by decide +kernel
theorem dX2_init_17 : decode cX2_init 17 = .ok (.putfield 15, 3) := by decide +kernel
theorem dX2_init_20 : decode cX2_init 20 = .ok (.aload_n 0, 1) := by decide +kernel
theorem dX2_init_21 : decode cX2_init 21 = .ok (.bipush 30, 2) := by decide +kernel
theorem dX2_init_23 : decode cX2_init 23 = .ok (.newarray .int, 2) := by decide +kernel
theorem dX2_init_25 : decode cX2_init 25 = .ok (.putfield 18, 3) := by decide +kernel
theorem dX2_init_28 : decode cX2_init 28 = .ok (.return_, 1) := by decide +kernel
theorem dX2_add_0 : decode cX2_add 0 = .ok (.aload_n 0, 1) := by decide +kernel
theorem dX2_add_1 : decode cX2_add 1 = .ok (.aload_n 0, 1) := by decide +kernel
theorem dX2_add_2 : decode cX2_add 2 = .ok (.getfield 21, 3) := by decide +kernel
theorem dX2_add_5 : decode cX2_add 5 = .ok (.ifCond .lt 21, 3) := by decide +kernel
theorem dX2_add_8 : decode cX2_add 8 = .ok (.aload_n 0, 1) := by decide +kernel
theorem dX2_add_9 : decode cX2_add 9 = .ok (.getfield 21, 3) := by decide +kernel
theorem dX2_add_12 : decode cX2_add 12 = .ok (.bipush 29, 2) := by decide +kernel
theorem dX2_add_14 : decode cX2_add 14 = .ok (.if_icmp .ge 12, 3) := by decide +kernel
theorem dX2_add_17 : decode cX2_add 17 = .ok (.aload_n 0, 1) := by decide +kernel
theorem dX2_add_18 : decode cX2_add 18 = .ok (.getfield 21, 3) := by decide +kernel
theorem dX2_add_21 : decode cX2_add 21 = .ok (.iconst 1, 1) := by decide +kernel
theorem dX2_add_22 : decode cX2_add 22 = .ok (.iadd, 1) := by decide +kernel
theorem dX2_add_23 : decode cX2_add 23 = .ok (.goto 4, 3) := by decide +kernel
theorem dX2_add_26 : decode cX2_add 26 = .ok (.iconst 0, 1) := by decide +kernel
theorem dX2_add_27 : decode cX2_add 27 = .ok (.putfield 21, 3) := by decide +kernel
theorem dX2_add_30 : decode cX2_add 30 = .ok (.aload_n 0, 1) := by decide +kernel
theorem dX2_add_31 : decode cX2_add 31 = .ok (.getfield 9, 3) := by decide +kernel
theorem dX2_add_34 : decode cX2_add 34 = .ok (.aload_n 0, 1) := by decide +kernel
theorem dX2_add_35 : decode cX2_add 35 = .ok (.getfield 21, 3) := by decide +kernel
theorem dX2_add_38 : decode cX2_add 38 = .ok (.iload_n 1, 1) := by decide +kernel
theorem dX2_add_39 : decode cX2_add 39 = .ok (.iastore, 1) := by decide +kernel
theorem dX2_add_40 : decode cX2_add 40 = .ok (.aload_n 0, 1) := by decide +kernel
theorem dX2_add_41 : decode cX2_add 41 = .ok (.getfield 15, 3) := by decide +kernel
theorem dX2_add_44 : decode cX2_add 44 = .ok (.aload_n 0, 1) := by decide +kernel
theorem dX2_add_45 : decode cX2_add 45 = .ok (.getfield 21, 3) := by decide +kernel
theorem dX2_add_48 : decode cX2_add 48 = .ok (.iload_n 2, 1) := by decide +kernel
theorem dX2_add_49 : decode cX2_add 49 = .ok (.iastore, 1) := by decide +kernel
theorem dX2_add_50 : decode cX2_add 50 = .ok (.aload_n 0, 1) := by decide +kernel
theorem dX2_add_51 : decode cX2_add 51 = .ok (.getfield 18, 3) := by decide +kernel
theorem dX2_add_54 : decode cX2_add 54 = .ok (.aload_n 0, 1) := by decide +kernel
theorem dX2_add_55 : decode cX2_add 55 = .ok (.getfield 21, 3) := by decide +kernel
theorem dX2_add_58 : decode cX2_add 58 = .ok (.iload_n 3, 1) := by decide +kernel
theorem dX2_add_59 : decode cX2_add 59 = .ok (.iastore, 1) := by decide +kernel
theorem dX2_add_60 : decode cX2_add 60 = .ok (.aload_n 0, 1) := by decide +kernel
theorem dX2_add_61 : decode cX2_add 61 = .ok (.dup, 1) := by decide +kernel
theorem dX2_add_62 : decode cX2_add 62 = .ok (.getfield 25, 3) := by decide +kernel
theorem dX2_add_65 : decode cX2_add 65 = .ok (.iconst 1, 1) := by decide +kernel
theorem dX2_add_66 : decode cX2_add 66 = .ok (.iadd, 1) := by decide +kernel
theorem dX2_add_67 : decode cX2_add 67 = .ok (.putfield 25, 3) := by decide +kernel
theorem dX2_add_70 : decode cX2_add 70 = .ok (.return_, 1) := by decide +kernel
theorem dX2_tell_0 : decode cX2_tell 0 = .ok (.iload_n 1, 1) := by decide +kernel
theorem dX2_tell_1 : decode cX2_tell 1 = .ok (.ifCond .lt 17, 3) := by decide +kernel
theorem dX2_tell_4 : decode cX2_tell 4 = .ok (.iload_n 1, 1) := by decide +kernel
theorem dX2_tell_5 : decode cX2_tell 5 = .ok (.aload_n 0, 1) := by decide +kernel
theorem dX2_tell_6 : decode cX2_tell 6 = .ok (.getfield 25, 3) := by decide +kernel
theorem dX2_tell_9 : decode cX2_tell 9 = .ok (.if_icmp .ge 9, 3) := by decide +kernel
theorem dX2_tell_12 : decode cX2_tell 12 = .ok (.iload_n 1, 1) := by decide +kernel
theorem dX2_tell_13 : decode cX2_tell 13 = .ok (.bipush 30, 2) := by decide +kernel
theorem dX2_tell_15 : decode cX2_tell 15 = .ok (.if_icmp .lt 5, 3) := by decide +kernel
theorem dX2_tell_18 : decode cX2_tell 18 = .ok (.iconst (-1), 1) := by decide +kernel
theorem dX2_tell_19 : decode cX2_tell 19 = .ok (.ireturn, 1) := by decide +kernel
theorem dX2_tell_20 : decode cX2_tell 20 = .ok (.iload_n 1, 1) := by decide +kernel
theorem dX2_tell_21 : decode cX2_tell 21 = .ok (.aload_n 0, 1) := by decide +kernel
theorem dX2_tell_22 : decode cX2_tell 22 = .ok (.getfield 21, 3) := by decide +kernel
theorem dX2_tell_25 : decode cX2_tell 25 = .ok (.if_icmp .gt 12, 3) := by decide +kernel
theorem dX2_tell_28 : decode cX2_tell 28 = .ok (.aload_n 0, 1) := by decide +kernel
theorem dX2_tell_29 : decode cX2_tell 29 = .ok (.getfield 21, 3) := by decide +kernel
theorem dX2_tell_32 : decode cX2_tell 32 = .ok (.iload_n 1, 1) := by decide +kernel
theorem dX2_tell_33 : decode cX2_tell 33 = .ok (.isub, 1) := by decide +kernel
theorem dX2_tell_34 : decode cX2_tell 34 = .ok (.goto 12, 3) := by decide +kernel
theorem dX2_tell_37 : decode cX2_tell 37 = .ok (.aload_n 0, 1) := by decide +kernel
theorem dX2_tell_38 : decode cX2_tell 38 = .ok (.getfield 21, 3) := by decide +kernel
theorem dX2_tell_41 : decode cX2_tell 41 = .ok (.iload_n 1, 1) := by decide +kernel
theorem dX2_tell_42 : decode cX2_tell 42 = .ok (.isub, 1) := by decide +kernel
theorem dX2_tell_43 : decode cX2_tell 43 = .ok (.bipush 30, 2) := by decide +kernel
theorem dX2_tell_45 : decode cX2_tell 45 = .ok (.iadd, 1) := by decide +kernel
theorem dX2_tell_46 : decode cX2_tell 46 = .ok (.istore_n 3, 1) := by decide +kernel
theorem dX2_tell_47 : decode cX2_tell 47 = .ok (.iload_n 3, 1) := by decide +kernel
theorem dX2_tell_48 : decode cX2_tell 48 = .ok (.ifCond .lt 9, 3) := by decide +kernel
theorem dX2_tell_51 : decode cX2_tell 51 = .ok (.iload_n 3, 1) := by decide +kernel
theorem dX2_tell_52 : decode cX2_tell 52 = .ok (.bipush 30, 2) := by decide +kernel
theorem dX2_tell_54 : decode cX2_tell 54 = .ok (.if_icmp .lt 5, 3) := by decide +kernel
theorem dX2_tell_57 : decode cX2_tell 57 = .ok (.iconst (-1), 1) := by decide +kernel
theorem dX2_tell_58 : decode cX2_tell 58 = .ok (.ireturn, 1) := by decide +kernel
theorem dX2_tell_59 : decode cX2_tell 59 = .ok (.iload_n 2, 1) := by decide +kernel
theorem dX2_tell_60 : decode cX2_tell 60 = .ok (.ifCond .ne 10, 3) := by decide +kernel
theorem dX2_tell_63 : decode cX2_tell 63 = .ok (.aload_n 0, 1) := by decide +kernel
theorem dX2_tell_64 : decode cX2_tell 64 = .ok (.getfield 9, 3) := by decide +kernel
theorem dX2_tell_67 : decode cX2_tell 67 = .ok (.iload_n 3, 1) := by decide +kernel
theorem dX2_tell_68 : decode cX2_tell 68 = .ok (.iaload, 1) := by decide +kernel
theorem dX2_tell_69 : decode cX2_tell 69 = .ok (.ireturn, 1) := by decide +kernel
theorem dX2_tell_70 : decode cX2_tell 70 = .ok (.iload_n 2, 1) := by decide +kernel
theorem dX2_tell_71 : decode cX2_tell 71 = .ok (.iconst 1, 1) := by decide +kernel
theorem dX2_tell_72 : decode cX2_tell 72 = .ok (.if_icmp .ne 12, 3) := by decide +kernel
theorem dX2_tell_75 : decode cX2_tell 75 = .ok (.aload_n 0, 1) := by decide +kernel
theorem dX2_tell_76 : decode cX2_tell 76 = .ok (.getfield 15, 3) := by decide +kernel
theorem dX2_tell_79 : decode cX2_tell 79 = .ok (.iload_n 3, 1) := by decide +kernel
theorem dX2_tell_80 : decode cX2_tell 80 = .ok (.iaload, 1) := by decide +kernel
theorem dX2_tell_81 : decode cX2_tell 81 = .ok (.goto 9, 3) := by decide +kernel
theorem dX2_tell_84 : decode cX2_tell 84 = .ok (.aload_n 0, 1) := by decide +kernel
theorem dX2_tell_85 : decode cX2_tell 85 = .ok (.getfield 18, 3) := by decide +kernel
theorem dX2_tell_88 : decode cX2_tell 88 = .ok (.iload_n 3, 1) := by decide +kernel
theorem dX2_tell_89 : decode cX2_tell 89 = .ok (.iaload, 1) := by decide +kernel
theorem dX2_tell_90 : decode cX2_tell 90 = .ok (.ireturn, 1) := by decide +kernel
set_option maxRecDepth 20000 in
theorem ggX3_init_X3_reset : GoodIn wsX3_init wsX3_reset := goodIn_r _ [13, 5, 7, 14, 15, 16] (by decide +kernel) (by decide +kernel)
set_option maxRecDepth 20000 in
theorem gX3_init_X3_reset : GoodIn wsX3_init (wsV RX3 22 RX3 yX3_reset wsX3_reset) := goodIn_app (goodIn_of _ (by decide +kernel)) ggX3_init_X3_reset
theorem dX3_init_0 : decode cX3_init 0 = .ok (.aload_n 0, 1) := by decide +kernel
theorem dX3_init_1 : decode cX3_init 1 = .ok (.invokespecial 3, 3) := by decide +kernel
theorem dX3_init_4 : decode cX3_init 4 = .ok (.aload_n 0, 1) := by decide +kernel
theorem dX3_init_5 : decode cX3_init 5 = .ok (.iconst 4, 1) := by decide +kernel
theorem dX3_init_6 : decode cX3_init 6 = .ok (.newarray .int, 2) := by decide +kernel
theorem dX3_init_8 : decode cX3_init 8 = .ok (.putfield 9, 3) := by decide +kernel
theorem dX3_init_11 : decode cX3_init 11 = .ok (.aload_n 0, 1) := by decide +kernel
theorem dX3_init_12 : decode cX3_init 12 = .ok (.iconst 4, 1) := by decide +kernel
theorem dX3_init_13 : decode cX3_init 13 = .ok (.newarray .boolean, 2) := by decide +kernel
theorem dX3_init_15 : decode cX3_init 15 = .ok (.putfield 15, 3) := by decide +kernel
theorem dX3_init_18 : decode cX3_init 18 = .ok (.aload_n 0, 1) := by decide +kernel
theorem dX3_init_19 : decode cX3_init 19 = .ok (.bipush 32, 2) := by decide +kernel
theorem dX3_init_21 : decode cX3_init 21 = .ok (.newarray .int, 2) := by decide +kernel
theorem dX3_init_23 : decode cX3_init 23 = .ok (.putfield 19, 3) := by decide +kernel
theorem dX3_init_26 : decode cX3_init 26 = .ok (.aload_n 0, 1) := by decide +kernel
theorem dX3_init_27 : decode cX3_init 27 = .ok (.invokevirtual 22, 3) := by decide +kernel
theorem dX3_init_30 : decode cX3_init 30 = .ok (.return_, 1) := by decide +kernel
theorem dX3_reset_0 : decode cX3_reset 0 = .ok (.iconst 0, 1) := by decide +kernel
theorem dX3_reset_1 : decode cX3_reset 1 = .ok (.istore_n 1, 1) := by decide +kernel
theorem dX3_reset_2 : decode cX3_reset 2 = .ok (.iload_n 1, 1) := by decide +kernel
theorem dX3_reset_3 : decode cX3_reset 3 = .ok (.iconst 4, 1) := by decide +kernel
theorem dX3_reset_4 : decode cX3_reset 4 = .ok (.if_icmp .ge 23, 3) := by decide +kernel
theorem dX3_reset_7 : decode cX3_reset 7 = .ok (.aload_n 0, 1) := by decide +kernel
theorem dX3_reset_8 : decode cX3_reset 8 = .ok (.getfield 9, 3) := by decide +kernel
theorem dX3_reset_11 : decode cX3_reset 11 = .ok (.iload_n 1, 1) := by decide +kernel
theorem dX3_reset_12 : decode cX3_reset 12 = .ok (.iconst (-1), 1) := by decide +kernel
theorem dX3_reset_13 : decode cX3_reset 13 = .ok (.iastore, 1) := by decide +kernel
theorem dX3_reset_14 : decode cX3_reset 14 = .ok (.aload_n 0, 1) := by decide +kernel
theorem dX3_reset_15 : decode cX3_reset 15 = .ok (.getfield 15, 3) := by decide +kernel
theorem dX3_reset_18 : decode cX3_reset 18 = .ok (.iload_n 1, 1) := by decide +kernel
theorem dX3_reset_19 : decode cX3_reset 19 = .ok (.iconst 0, 1) := by decide +kernel
theorem dX3_reset_20 : decode cX3_reset 20 = .ok (.bastore, 1) := by decide +kernel
theorem dX3_reset_21 : decode cX3_reset 21 = .ok (.iinc 1 1, 3) := by decide +kernel
theorem dX3_reset_24 : decode cX3_reset 24 = .ok (.goto (-22), 3) := by decide +kernel
theorem dX3_reset_27 : decode cX3_reset 27 = .ok (.return_, 1) := by decide +kernel
set_option maxRecDepth 20000 in
theorem ggX3_length_X5_isRow : GoodIn wsX3_length wsX5_isRow := goodIn_r _ [4] (by decide +kernel) (by decide +kernel)
set_option maxRecDepth 20000 in
theorem gX3_length_X5_isRow_n25 : GoodIn wsX3_length (wsX5_isRow) := ggX3_length_X5_isRow
theorem dX3_length_0 : decode cX3_length 0 = .ok (.iload_n 1, 1) := by decide +kernel
theorem dX3_length_1 : decode cX3_length 1 = .ok (.invokestatic 25, 3) := by decide +kernel
theorem dX3_length_4 : decode cX3_length 4 = .ok (.ifCond .eq 12, 3) := by decide +kernel
theorem dX3_length_7 : decode cX3_length 7 = .ok (.aload_n 0, 1) := by decide +kernel
theorem dX3_length_8 : decode cX3_length 8 = .ok (.getfield 9, 3) := by decide +kernel
theorem dX3_length_11 : decode cX3_length 11 = .ok (.iload_n 1, 1) := by decide +kernel
theorem dX3_length_12 : decode cX3_length 12 = .ok (.iaload, 1) := by decide +kernel
theorem dX3_length_13 : decode cX3_length 13 = .ok (.goto 4, 3) := by decide +kernel
theorem dX3_length_16 : decode cX3_length 16 = .ok (.iconst (-1), 1) := by decide +kernel
theorem dX3_length_17 : decode cX3_length 17 = .ok (.ireturn, 1) := by decide +kernel
set_option maxRecDepth 20000 in
theorem ggX3_isFrozen_X5_isRow : GoodIn wsX3_isFrozen wsX5_isRow := goodIn_r _ [4] (by decide +kernel) (by decide +kernel)
set_option maxRecDepth 20000 in
theorem gX3_isFrozen_X5_isRow_n25 : GoodIn wsX3_isFrozen (wsX5_isRow) := ggX3_isFrozen_X5_isRow
theorem dX3_isFrozen_0 : decode cX3_isFrozen 0 = .ok (.iload_n 1, 1) := by decide +kernel
theorem dX3_isFrozen_1 : decode cX3_isFrozen 1 = .ok (.invokestatic 25, 3) := by decide +kernel
theorem dX3_isFrozen_4 : decode cX3_isFrozen 4 = .ok (.ifCond .eq 16, 3) := by decide +kernel
theorem dX3_isFrozen_7 : decode cX3_isFrozen 7 = .ok (.aload_n 0, 1) := by decide +kernel
theorem dX3_isFrozen_8 : decode cX3_isFrozen 8 = .ok (.getfield 15, 3) := by decide +kernel
theorem dX3_isFrozen_11 : decode cX3_isFrozen 11 = .ok (.iload_n 1, 1) := by decide +kernel
theorem dX3_isFrozen_12 : decode cX3_isFrozen 12 = .ok (.baload, 1) := by decide +kernel
theorem dX3_isFrozen_13 : decode cX3_isFrozen 13 = .ok (.ifCond .eq 7, 3) := by decide +kernel
theorem dX3_isFrozen_16 : decode cX3_isFrozen 16 = .ok (.iconst 1, 1) := by decide +kernel
theorem dX3_isFrozen_17 : decode cX3_isFrozen 17 = .ok (.goto 4, 3) := by decide +kernel
theorem dX3_isFrozen_20 : decode cX3_isFrozen 20 = .ok (.iconst 0, 1) := by decide +kernel
theorem dX3_isFrozen_21 : decode cX3_isFrozen 21 = .ok (.ireturn, 1) := by decide +kernel
set_option maxRecDepth 20000 in
theorem ggX3_hasItem_X5_isRow : GoodIn wsX3_hasItem wsX5_isRow := goodIn_r _ [4] (by decide +kernel) (by decide +kernel)
set_option maxRecDepth 20000 in
theorem gX3_hasItem_X5_isRow_n25 : GoodIn wsX3_hasItem (wsX5_isRow) := ggX3_hasItem_X5_isRow
theorem dX3_hasItem_0 : decode cX3_hasItem 0 = .ok (.iload_n 1, 1) := by decide +kernel
theorem dX3_hasItem_1 : decode cX3_hasItem 1 = .ok (.invokestatic 25, 3) := by decide +kernel
theorem dX3_hasItem_4 : decode cX3_hasItem 4 = .ok (.ifCond .eq 27, 3) := by decide +kernel
theorem dX3_hasItem_7 : decode cX3_hasItem 7 = .ok (.iload_n 2, 1) := by decide +kernel
theorem dX3_hasItem_8 : decode cX3_hasItem 8 = .ok (.ifCond .lt 23, 3) := by decide +kernel
theorem dX3_hasItem_11 : decode cX3_hasItem 11 = .ok (.iload_n 2, 1) := by decide +kernel
theorem dX3_hasItem_12 : decode cX3_hasItem 12 = .ok (.aload_n 0, 1) := by decide +kernel
theorem dX3_hasItem_13 : decode cX3_hasItem 13 = .ok (.getfield 9, 3) := by decide +kernel
theorem dX3_hasItem_16 : decode cX3_hasItem 16 = .ok (.iload_n 1, 1) := by decide +kernel
theorem dX3_hasItem_17 : decode cX3_hasItem 17 = .ok (.iaload, 1) := by decide +kernel
theorem dX3_hasItem_18 : decode cX3_hasItem 18 = .ok (.if_icmp .ge 13, 3) := by decide +kernel
theorem dX3_hasItem_21 : decode cX3_hasItem 21 = .ok (.iload_n 2, 1) := by decide +kernel
theorem dX3_hasItem_22 : decode cX3_hasItem 22 = .ok (.bipush 8, 2) := by decide +kernel
theorem dX3_hasItem_24 : decode cX3_hasItem 24 = .ok (.if_icmp .ge 7, 3) := by decide +kernel
theorem dX3_hasItem_27 : decode cX3_hasItem 27 = .ok (.iconst 1, 1) := by decide +kernel
theorem dX3_hasItem_28 : decode cX3_hasItem 28 = .ok (.goto 4, 3) := by decide +kernel
theorem dX3_hasItem_31 : decode cX3_hasItem 31 = .ok (.iconst 0, 1) := by decide +kernel
theorem dX3_hasItem_32 : decode cX3_hasItem 32 = .ok (.ireturn, 1) := by decide +kernel
set_option maxRecDepth 20000 in
theorem ggX3_itemOf_X3_hasItem : GoodIn wsX3_itemOf wsX3_hasItem := goodIn_r _ [6, 7, 8, 9, 10, 11, 12, 13] (by decide +kernel) (by decide +kernel)
set_option maxRecDepth 20000 in
theorem gX3_itemOf_X3_hasItem : GoodIn wsX3_itemOf (wsV RX3 29 RX3 yX3_hasItem wsX3_hasItem) := goodIn_app (goodIn_of _ (by decide +kernel)) ggX3_itemOf_X3_hasItem
theorem dX3_itemOf_0 : decode cX3_itemOf 0 = .ok (.aload_n 0, 1) := by decide +kernel
theorem dX3_itemOf_1 : decode cX3_itemOf 1 = .ok (.iload_n 1, 1) := by decide +kernel
theorem dX3_itemOf_2 : decode cX3_itemOf 2 = .ok (.iload_n 2, 1) := by decide +kernel
theorem dX3_itemOf_3 : decode cX3_itemOf 3 = .ok (.invokevirtual 29, 3) := by decide +kernel
theorem dX3_itemOf_6 : decode cX3_itemOf 6 = .ok (.ifCond .eq 17, 3) := by decide +kernel
theorem dX3_itemOf_9 : decode cX3_itemOf 9 = .ok (.aload_n 0, 1) := by decide +kernel
theorem dX3_itemOf_10 : decode cX3_itemOf 10 = .ok (.getfield 19, 3) := by decide +kernel
theorem dX3_itemOf_13 : decode cX3_itemOf 13 = .ok (.iload_n 1, 1) := by decide +kernel
theorem dX3_itemOf_14 : decode cX3_itemOf 14 = .ok (.bipush 8, 2) := by decide +kernel
theorem dX3_itemOf_16 : decode cX3_itemOf 16 = .ok (.imul, 1) := by decide +kernel
theorem dX3_itemOf_17 : decode cX3_itemOf 17 = .ok (.iload_n 2, 1) := by decide +kernel
theorem dX3_itemOf_18 : decode cX3_itemOf 18 = .ok (.iadd, 1) := by decide +kernel
theorem dX3_itemOf_19 : decode cX3_itemOf 19 = .ok (.iaload, 1) := by decide +kernel
theorem dX3_itemOf_20 : decode cX3_itemOf 20 = .ok (.goto 4, 3) := by decide +kernel
theorem dX3_itemOf_23 : decode cX3_itemOf 23 = .ok (.iconst 0, 1) := by decide +kernel
theorem dX3_itemOf_24 : decode cX3_itemOf 24 = .ok (.ireturn, 1) := by decide +kernel
set_option maxRecDepth 20000 in
theorem ggX3_failureAt_X3_length : GoodIn wsX3_failureAt wsX3_length := goodIn_r _ [5, 6, 7, 8, 9, 14, 15, 16] (by decide +kernel) (by decide +kernel)
set_option maxRecDepth 20000 in
theorem gX3_failureAt_X3_length : GoodIn wsX3_failureAt (wsV RX3 33 RX3 yX3_length wsX3_length) := goodIn_app (goodIn_of _ (by decide +kernel)) ggX3_failureAt_X3_length
set_option maxRecDepth 20000 in
theorem ggX3_failureAt_X3_hasItem : GoodIn wsX3_failureAt wsX3_hasItem := goodIn_r _ [13, 6, 7, 8, 9, 14, 15, 16] (by decide +kernel) (by decide +kernel)
set_option maxRecDepth 20000 in
theorem gX3_failureAt_X3_hasItem : GoodIn wsX3_failureAt (wsV RX3 29 RX3 yX3_hasItem wsX3_hasItem) := goodIn_app (goodIn_of _ (by decide +kernel)) ggX3_failureAt_X3_hasItem
theorem dX3_failureAt_0 : decode cX3_failureAt 0 = .ok (.aload_n 0, 1) := by decide +kernel
theorem dX3_failureAt_1 : decode cX3_failureAt 1 = .ok (.iload_n 1, 1) := by decide +kernel
theorem dX3_failureAt_2 : decode cX3_failureAt 2 = .ok (.invokevirtual 33, 3) := by decide +kernel
theorem dX3_failureAt_5 : decode cX3_failureAt 5 = .ok (.iconst (-1), 1) := by decide +kernel
theorem dX3_failureAt_6 : decode cX3_failureAt 6 = .ok (.if_icmp .ne 5, 3) := by decide +kernel
theorem dX3_failureAt_9 : decode cX3_failureAt 9 = .ok (.iconst 1, 1) := by decide +kernel
theorem dX3_failureAt_10 : decode cX3_failureAt 10 = .ok (.ireturn, 1) := by decide +kernel
theorem dX3_failureAt_11 : decode cX3_failureAt 11 = .ok (.aload_n 0, 1) := by decide +kernel
theorem dX3_failureAt_12 : decode cX3_failureAt 12 = .ok (.iload_n 1, 1) := by decide +kernel
theorem dX3_failureAt_13 : decode cX3_failureAt 13 = .ok (.iload_n 2, 1) := by decide +kernel
theorem dX3_failureAt_14 : decode cX3_failureAt 14 = .ok (.invokevirtual 29, 3) := by decide +kernel
theorem dX3_failureAt_17 : decode cX3_failureAt 17 = .ok (.ifCond .eq 7, 3) := by decide +kernel
theorem dX3_failureAt_20 : decode cX3_failureAt 20 = .ok (.iconst 0, 1) := by decide +kernel
theorem dX3_failureAt_21 : decode cX3_failureAt 21 = .ok (.goto 4, 3) := by decide +kernel
theorem dX3_failureAt_24 : decode cX3_failureAt 24 = .ok (.iconst 3, 1) := by decide +kernel
theorem dX3_failureAt_25 : decode cX3_failureAt 25 = .ok (.ireturn, 1) := by decide +kernel
set_option maxRecDepth 20000 in
theorem ggX3_store_X3_failureAt : GoodIn wsX3_store wsX3_failureAt := goodIn_r _ [6, 7, 8, 9, 5, 10, 11, 12, 13, 14, 15, 16, 17, 18, 24, 25, 26] (by decide +kernel) (by decide +kernel)
set_option maxRecDepth 20000 in
theorem gX3_store_X3_failureAt : GoodIn wsX3_store (wsV RX3 37 RX3 yX3_failureAt wsX3_failureAt) := goodIn_app (goodIn_of _ (by decide +kernel)) ggX3_store_X3_failureAt
set_option maxRecDepth 20000 in
theorem ggX3_store_X3_isFrozen : GoodIn wsX3_store wsX3_isFrozen := goodIn_r _ [22, 23, 12, 13, 14, 24, 25, 26] (by decide +kernel) (by decide +kernel)
set_option maxRecDepth 20000 in
theorem gX3_store_X3_isFrozen : GoodIn wsX3_store (wsV RX3 41 RX3 yX3_isFrozen wsX3_isFrozen) := goodIn_app (goodIn_of _ (by decide +kernel)) ggX3_store_X3_isFrozen
set_option maxRecDepth 20000 in
theorem ggX3_store_X3_hasItem : GoodIn wsX3_store wsX3_hasItem := goodIn_r _ [18, 11, 12, 13, 14, 24, 25, 26] (by decide +kernel) (by decide +kernel)
set_option maxRecDepth 20000 in
theorem gX3_store_X3_hasItem : GoodIn wsX3_store (wsV RX3 29 RX3 yX3_hasItem wsX3_hasItem) := goodIn_app (goodIn_of _ (by decide +kernel)) ggX3_store_X3_hasItem
theorem dX3_store_0 : decode cX3_store 0 = .ok (.aload_n 0, 1) := by decide +kernel
theorem dX3_store_1 : decode cX3_store 1 = .ok (.iload_n 1, 1) := by decide +kernel
theorem dX3_store_2 : decode cX3_store 2 = .ok (.iload_n 2, 1) := by decide +kernel
theorem dX3_store_3 : decode cX3_store 3 = .ok (.invokevirtual 37, 3) := by decide +kernel
theorem dX3_store_6 : decode cX3_store 6 = .ok (.istore 4, 2) := by decide +kernel
theorem dX3_store_8 : decode cX3_store 8 = .ok (.iload 4, 2) := by decide +kernel
theorem dX3_store_10 : decode cX3_store 10 = .ok (.ifCond .eq 6, 3) := by decide +kernel
theorem dX3_store_13 : decode cX3_store 13 = .ok (.iload 4, 2) := by decide +kernel
theorem dX3_store_15 : decode cX3_store 15 = .ok (.ireturn, 1) := by decide +kernel
theorem dX3_store_16 : decode cX3_store 16 = .ok (.aload_n 0, 1) := by decide +kernel
theorem dX3_store_17 : decode cX3_store 17 = .ok (.iload_n 1, 1) := by decide +kernel
theorem dX3_store_18 : decode cX3_store 18 = .ok (.invokevirtual 41, 3) := by decide +kernel
theorem dX3_store_21 : decode cX3_store 21 = .ok (.ifCond .eq 5, 3) := by decide +kernel
theorem dX3_store_24 : decode cX3_store 24 = .ok (.iconst 4, 1) := by decide +kernel
theorem dX3_store_25 : decode cX3_store 25 = .ok (.ireturn, 1) := by decide +kernel
theorem dX3_store_26 : decode cX3_store 26 = .ok (.aload_n 0, 1) := by decide +kernel
theorem dX3_store_27 : decode cX3_store 27 = .ok (.iload_n 1, 1) := by decide +kernel
theorem dX3_store_28 : decode cX3_store 28 = .ok (.iload_n 2, 1) := by decide +kernel
theorem dX3_store_29 : decode cX3_store 29 = .ok (.invokevirtual 29, 3) := by decide +kernel
theorem dX3_store_32 : decode cX3_store 32 = .ok (.ifCond .eq 15, 3) := by decide +kernel
theorem dX3_store_35 : decode cX3_store 35 = .ok (.aload_n 0, 1) := by decide +kernel
theorem dX3_store_36 : decode cX3_store 36 = .ok (.getfield 19, 3) := by decide +kernel
theorem dX3_store_39 : decode cX3_store 39 = .ok (.iload_n 1, 1) := by decide +kernel
theorem dX3_store_40 : decode cX3_store 40 = .ok (.bipush 8, 2) := by decide +kernel
theorem dX3_store_42 : decode cX3_store 42 = .ok (.imul, 1) := by decide +kernel
theorem dX3_store_43 : decode cX3_store 43 = .ok (.iload_n 2, 1) := by decide +kernel
theorem dX3_store_44 : decode cX3_store 44 = .ok (.iadd, 1) := by decide +kernel
theorem dX3_store_45 : decode cX3_store 45 = .ok (.iload_n 3, 1) := by decide +kernel
theorem dX3_store_46 : decode cX3_store 46 = .ok (.iastore, 1) := by decide +kernel
theorem dX3_store_47 : decode cX3_store 47 = .ok (.iconst 0, 1) := by decide +kernel
theorem dX3_store_48 : decode cX3_store 48 = .ok (.ireturn, 1) := by decide +kernel
set_option maxRecDepth 20000 in
theorem ggX3_make_X5_isRow : GoodIn wsX3_make wsX5_isRow := goodIn_r _ [6] (by decide +kernel) (by decide +kernel)
set_option maxRecDepth 20000 in
theorem gX3_make_X5_isRow_n25 : GoodIn wsX3_make (wsX5_isRow) := ggX3_make_X5_isRow
set_option maxRecDepth 20000 in
theorem ggX3_make_J7_fill_fda19 : GoodIn wsX3_make wsJ7_fill_fda19 := goodIn_r _ [10, 11, 12, 9, 13] (by decide +kernel) (by decide +kernel)
set_option maxRecDepth 20000 in
theorem gX3_make_J7_fill_fda19 : GoodIn wsX3_make (va_wsS RX3 44 yJ7_fill_fda19 wsJ7_fill_fda19) := goodIn_app (goodIn_of _ (by decide +kernel)) ggX3_make_J7_fill_fda19
theorem dX3_make_0 : decode cX3_make 0 = .ok (.iload_n 2, 1) := by decide +kernel
theorem dX3_make_1 : decode cX3_make 1 = .ok (.ifCond .ge 6, 3) := by decide +kernel
theorem dX3_make_4 : decode cX3_make 4 = .ok (.bipush 6, 2) := by decide +kernel
theorem dX3_make_6 : decode cX3_make 6 = .ok (.ireturn, 1) := by decide +kernel
theorem dX3_make_7 : decode cX3_make 7 = .ok (.iload_n 2, 1) := by decide +kernel
theorem dX3_make_8 : decode cX3_make 8 = .ok (.bipush 8, 2) := by decide +kernel
theorem dX3_make_10 : decode cX3_make 10 = .ok (.if_icmp .le 6, 3) := by decide +kernel
theorem dX3_make_13 : decode cX3_make 13 = .ok (.bipush 7, 2) := by decide +kernel
theorem dX3_make_15 : decode cX3_make 15 = .ok (.ireturn, 1) := by decide +kernel
theorem dX3_make_16 : decode cX3_make 16 = .ok (.iload_n 1, 1) := by decide +kernel
theorem dX3_make_17 : decode cX3_make 17 = .ok (.invokestatic 25, 3) := by decide +kernel
theorem dX3_make_20 : decode cX3_make 20 = .ok (.ifCond .eq 36, 3) := by decide +kernel
theorem dX3_make_23 : decode cX3_make 23 = .ok (.aload_n 0, 1) := by decide +kernel
theorem dX3_make_24 : decode cX3_make 24 = .ok (.getfield 19, 3) := by decide +kernel
theorem dX3_make_27 : decode cX3_make 27 = .ok (.iload_n 1, 1) := by decide +kernel
theorem dX3_make_28 : decode cX3_make 28 = .ok (.bipush 8, 2) := by decide +kernel
theorem dX3_make_30 : decode cX3_make 30 = .ok (.imul, 1) := by decide +kernel
theorem dX3_make_31 : decode cX3_make 31 = .ok (.iload_n 1, 1) := by decide +kernel
theorem dX3_make_32 : decode cX3_make 32 = .ok (.bipush 8, 2) := by decide +kernel
theorem dX3_make_34 : decode cX3_make 34 = .ok (.imul, 1) := by decide +kernel
theorem dX3_make_35 : decode cX3_make 35 = .ok (.bipush 8, 2) := by decide +kernel
theorem dX3_make_37 : decode cX3_make 37 = .ok (.iadd, 1) := by decide +kernel
theorem dX3_make_38 : decode cX3_make 38 = .ok (.iconst 0, 1) := by decide +kernel
theorem dX3_make_39 : decode cX3_make 39 = .ok (.invokestatic 44, 3) := by decide +kernel
theorem dX3_make_42 : decode cX3_make 42 = .ok (.aload_n 0, 1) := by decide +kernel
theorem dX3_make_43 : decode cX3_make 43 = .ok (.getfield 9, 3) := by decide +kernel
theorem dX3_make_46 : decode cX3_make 46 = .ok (.iload_n 1, 1) := by decide +kernel
theorem dX3_make_47 : decode cX3_make 47 = .ok (.iload_n 2, 1) := by decide +kernel
theorem dX3_make_48 : decode cX3_make 48 = .ok (.iastore, 1) := by decide +kernel
theorem dX3_make_49 : decode cX3_make 49 = .ok (.aload_n 0, 1) := by decide +kernel
theorem dX3_make_50 : decode cX3_make 50 = .ok (.getfield 15, 3) := by decide +kernel
theorem dX3_make_53 : decode cX3_make 53 = .ok (.iload_n 1, 1) := by decide +kernel
theorem dX3_make_54 : decode cX3_make 54 = .ok (.iconst 0, 1) := by decide +kernel
theorem dX3_make_55 : decode cX3_make 55 = .ok (.bastore, 1) := by decide +kernel
theorem dX3_make_56 : decode cX3_make 56 = .ok (.iconst 0, 1) := by decide +kernel
theorem dX3_make_57 : decode cX3_make 57 = .ok (.ireturn, 1) := by decide +kernel
set_option maxRecDepth 20000 in
theorem ggX3_freeze_X5_isRow : GoodIn wsX3_freeze wsX5_isRow := goodIn_r _ [5] (by decide +kernel) (by decide +kernel)
set_option maxRecDepth 20000 in
theorem gX3_freeze_X5_isRow_n25 : GoodIn wsX3_freeze (wsX5_isRow) := ggX3_freeze_X5_isRow
theorem dX3_freeze_0 : decode cX3_freeze 0 = .ok (.iload_n 1, 1) := by decide +kernel
theorem dX3_freeze_1 : decode cX3_freeze 1 = .ok (.invokestatic 25, 3) := by decide +kernel
theorem dX3_freeze_4 : decode cX3_freeze 4 = .ok (.ifCond .eq 13, 3) := by decide +kernel
theorem dX3_freeze_7 : decode cX3_freeze 7 = .ok (.aload_n 0, 1) := by decide +kernel
theorem dX3_freeze_8 : decode cX3_freeze 8 = .ok (.getfield 9, 3) := by decide +kernel
theorem dX3_freeze_11 : decode cX3_freeze 11 = .ok (.iload_n 1, 1) := by decide +kernel
theorem dX3_freeze_12 : decode cX3_freeze 12 = .ok (.iaload, 1) := by decide +kernel
theorem dX3_freeze_13 : decode cX3_freeze 13 = .ok (.iconst (-1), 1) := by decide +kernel
theorem dX3_freeze_14 : decode cX3_freeze 14 = .ok (.if_icmp .ne 5, 3) := by decide +kernel
theorem dX3_freeze_17 : decode cX3_freeze 17 = .ok (.iconst 1, 1) := by decide +kernel
theorem dX3_freeze_18 : decode cX3_freeze 18 = .ok (.ireturn, 1) := by decide +kernel
theorem dX3_freeze_19 : decode cX3_freeze 19 = .ok (.aload_n 0, 1) := by decide +kernel
theorem dX3_freeze_20 : decode cX3_freeze 20 = .ok (.getfield 15, 3) := by decide +kernel
theorem dX3_freeze_23 : decode cX3_freeze 23 = .ok (.iload_n 1, 1) := by decide +kernel
theorem dX3_freeze_24 : decode cX3_freeze 24 = .ok (.iconst 1, 1) := by decide +kernel
theorem dX3_freeze_25 : decode cX3_freeze 25 = .ok (.bastore, 1) := by decide +kernel
theorem dX3_freeze_26 : decode cX3_freeze 26 = .ok (.iconst 0, 1) := by decide +kernel
theorem dX3_freeze_27 : decode cX3_freeze 27 = .ok (.ireturn, 1) := by decide +kernel
set_option maxRecDepth 20000 in
theorem ggX4_init_X0_init : GoodIn wsX4_init wsX0_init := goodIn_r _ [17, 18, 2, 3, 4, 19, 20, 21, 22, 23, 24, 40, 41, 42, 43, 44, 45, 46, 47] (by decide +kernel) (by decide +kernel)
set_option maxRecDepth 20000 in
theorem gX4_init_X0_init_n32 : GoodIn wsX4_init (wsX0_init) := ggX4_init_X0_init
theorem dX4_init_0 : decode cX4_init 0 = .ok (.aload_n 0, 1) := by decide +kernel
theorem dX4_init_1 : decode cX4_init 1 = .ok (.invokespecial 3, 3) := by decide +kernel
theorem dX4_init_4 : decode cX4_init 4 = .ok (.aload_n 0, 1) := by decide +kernel
theorem dX4_init_5 : decode cX4_init 5 = .ok (.bipush 24, 2) := by decide +kernel
theorem dX4_init_7 : decode cX4_init 7 = .ok (.newarray .int, 2) := by decide +kernel
theorem dX4_init_9 : decode cX4_init 9 = .ok (.putfield 9, 3) := by decide +kernel
theorem dX4_init_12 : decode cX4_init 12 = .ok (.aload_n 0, 1) := by decide +kernel
theorem dX4_init_13 : decode cX4_init 13 = .ok (.bipush 24, 2) := by decide +kernel
theorem dX4_init_15 : decode cX4_init 15 = .ok (.newarray .int, 2) := by decide +kernel
theorem dX4_init_17 : decode cX4_init 17 = .ok (.putfield 15, 3) := by decide +kernel
theorem dX4_init_20 : decode cX4_init 20 = .ok (.aload_n 0, 1) := by decide +kernel
theorem dX4_init_21 : decode cX4_init 21 = .ok (.bipush 24, 2) := by decide +kernel
theorem dX4_init_23 : decode cX4_init 23 = .ok (.newarray .int, 2) := by decide +kernel
theorem dX4_init_25 : decode cX4_init 25 = .ok (.putfield 18, 3) := by decide +kernel
theorem dX4_init_28 : decode cX4_init 28 = .ok (.aload_n 0, 1) := by decide +kernel
theorem dX4_init_29 : decode cX4_init 29 = .ok (.bipush 24, 2) := by decide +kernel
theorem dX4_init_31 : decode cX4_init 31 = .ok (.newarray .int, 2) := by decide +kernel
theorem dX4_init_33 : decode cX4_init 33 = .ok (.putfield 21, 3) := by decide +kernel
theorem dX4_init_36 : decode cX4_init 36 = .ok (.aload_n 0, 1) := by decide +kernel
theorem dX4_init_37 : decode cX4_init 37 = .ok (.iconst 4, 1) := by decide +kernel
theorem dX4_init_38 : decode cX4_init 38 = .ok (.newarray .int, 2) := by decide +kernel
theorem dX4_init_40 : decode cX4_init 40 = .ok (.putfield 24, 3) := by decide +kernel
theorem dX4_init_43 : decode cX4_init 43 = .ok (.aload_n 0, 1) := by decide +kernel
theorem dX4_init_44 : decode cX4_init 44 = .ok (.iconst 4, 1) := by decide +kernel
theorem dX4_init_45 : decode cX4_init 45 = .ok (.newarray .int, 2) := by decide +kernel
theorem dX4_init_47 : decode cX4_init 47 = .ok (.putfield 27, 3) := by decide +kernel
theorem dX4_init_50 : decode cX4_init 50 = .ok (.aload_n 0, 1) := by decide +kernel
theorem dX4_init_51 : decode cX4_init 51 = .ok (.new 30, 3) := by decide +kernel
theorem dX4_init_54 : decode cX4_init 54 = .ok (.dup, 1) := by decide +kernel
theorem dX4_init_55 : decode cX4_init 55 = .ok (.invokespecial 32, 3) := by decide +kernel
theorem dX4_init_58 : decode cX4_init 58 = .ok (.putfield 33, 3) := by decide +kernel
theorem dX4_init_61 : decode cX4_init 61 = .ok (.aload_n 0, 1) := by decide +kernel
theorem dX4_init_62 : decode cX4_init 62 = .ok (.iload_n 1, 1) := by decide +kernel
theorem dX4_init_63 : decode cX4_init 63 = .ok (.putfield 37, 3) := by decide +kernel
theorem dX4_init_66 : decode cX4_init 66 = .ok (.return_, 1) := by decide +kernel
set_option maxRecDepth 20000 in
theorem ggX4_reset_J7_fill_53178 : GoodIn wsX4_reset wsJ7_fill_53178 := goodIn_r _ [12] (by decide +kernel) (by decide +kernel)
set_option maxRecDepth 20000 in
theorem gX4_reset_J7_fill_53178 : GoodIn wsX4_reset (va_wsS RX4 44 yJ7_fill_53178 wsJ7_fill_53178) := goodIn_app (goodIn_of _ (by decide +kernel)) ggX4_reset_J7_fill_53178
theorem dX4_reset_0 : decode cX4_reset 0 = .ok (.iload_n 1, 1) := by decide +kernel
theorem dX4_reset_1 : decode cX4_reset 1 = .ok (.ifCond .ne 8, 3) := by decide +kernel
theorem dX4_reset_4 : decode cX4_reset 4 = .ok (.aload_n 0, 1) := by decide +kernel
theorem dX4_reset_5 : decode cX4_reset 5 = .ok (.iconst 0, 1) := by decide +kernel
theorem dX4_reset_6 : decode cX4_reset 6 = .ok (.putfield 41, 3) := by decide +kernel
theorem dX4_reset_9 : decode cX4_reset 9 = .ok (.aload_n 0, 1) := by decide +kernel
theorem dX4_reset_10 : decode cX4_reset 10 = .ok (.getfield 24, 3) := by decide +kernel
theorem dX4_reset_13 : decode cX4_reset 13 = .ok (.iconst 0, 1) := by decide +kernel
theorem dX4_reset_14 : decode cX4_reset 14 = .ok (.invokestatic 44, 3) := by decide +kernel
theorem dX4_reset_17 : decode cX4_reset 17 = .ok (.aload_n 0, 1) := by decide +kernel
theorem dX4_reset_18 : decode cX4_reset 18 = .ok (.iconst 0, 1) := by decide +kernel
theorem dX4_reset_19 : decode cX4_reset 19 = .ok (.putfield 50, 3) := by decide +kernel
theorem dX4_reset_22 : decode cX4_reset 22 = .ok (.aload_n 0, 1) := by decide +kernel
theorem dX4_reset_23 : decode cX4_reset 23 = .ok (.getfield 33, 3) := by decide +kernel
theorem dX4_reset_26 : decode cX4_reset 26 = .ok (.iconst 0, 1) := by decide +kernel
theorem dX4_reset_27 : decode cX4_reset 27 = .ok (.putfield 53, 3) := by decide +kernel
theorem dX4_reset_30 : decode cX4_reset 30 = .ok (.aload_n 0, 1) := by decide +kernel
theorem dX4_reset_31 : decode cX4_reset 31 = .ok (.iconst 0, 1) := by decide +kernel
theorem dX4_reset_32 : decode cX4_reset 32 = .ok (.putfield 57, 3) := by decide +kernel
theorem dX4_reset_35 : decode cX4_reset 35 = .ok (.aload_n 0, 1) := by decide +kernel
theorem dX4_reset_36 : decode cX4_reset 36 = .ok (.iconst 0, 1) := by decide +kernel
theorem dX4_reset_37 : decode cX4_reset 37 = .ok (.putfield 60, 3) := by decide +kernel
theorem dX4_reset_40 : decode cX4_reset 40 = .ok (.aload_n 0, 1) := by decide +kernel
theorem dX4_reset_41 : decode cX4_reset 41 = .ok (.iconst 0, 1) := by decide +kernel
theorem dX4_reset_42 : decode cX4_reset 42 = .ok (.putfield 63, 3) := by decide +kernel
theorem dX4_reset_45 : decode cX4_reset 45 = .ok (.aload_n 0, 1) := by decide +kernel
theorem dX4_reset_46 : decode cX4_reset 46 = .ok (.iconst 0, 1) := by decide +kernel
theorem dX4_reset_47 : decode cX4_reset 47 = .ok (.putfield 66, 3) := by decide +kernel
theorem dX4_reset_50 : decode cX4_reset 50 = .ok (.return_, 1) := by decide +kernel
theorem dX4_append_0 : decode cX4_append 0 = .ok (.aload_n 0, 1) := by decide +kernel
theorem dX4_append_1 : decode cX4_append 1 = .ok (.getfield 41, 3) := by decide +kernel
theorem dX4_append_4 : decode cX4_append 4 = .ok (.ifCond .lt 12, 3) := by decide +kernel
theorem dX4_append_7 : decode cX4_append 7 = .ok (.aload_n 0, 1) := by decide +kernel
theorem dX4_append_8 : decode cX4_append 8 = .ok (.getfield 41, 3) := by decide +kernel
theorem dX4_append_11 : decode cX4_append 11 = .ok (.bipush 24, 2) := by decide +kernel
theorem dX4_append_13 : decode cX4_append 13 = .ok (.if_icmp .lt 5, 3) := by decide +kernel
theorem dX4_append_16 : decode cX4_append 16 = .ok (.iconst 0, 1) := by decide +kernel
theorem dX4_append_17 : decode cX4_append 17 = .ok (.ireturn, 1) := by decide +kernel
theorem dX4_append_18 : decode cX4_append 18 = .ok (.aload_n 0, 1) := by decide +kernel
theorem dX4_append_19 : decode cX4_append 19 = .ok (.getfield 9, 3) := by decide +kernel
theorem dX4_append_22 : decode cX4_append 22 = .ok (.aload_n 0, 1) := by decide +kernel
theorem dX4_append_23 : decode cX4_append 23 = .ok (.getfield 41, 3) := by decide +kernel
theorem dX4_append_26 : decode cX4_append 26 = .ok (.iload_n 1, 1) := by decide +kernel
theorem dX4_append_27 : decode cX4_append 27 = .ok (.iastore, 1) := by decide +kernel
theorem dX4_append_28 : decode cX4_append 28 = .ok (.aload_n 0, 1) := by decide +kernel
theorem dX4_append_29 : decode cX4_append 29 = .ok (.getfield 15, 3) := by decide +kernel
theorem dX4_append_32 : decode cX4_append 32 = .ok (.aload_n 0, 1) := by decide +kernel
theorem dX4_append_33 : decode cX4_append 33 = .ok (.getfield 41, 3) := by decide +kernel
theorem dX4_append_36 : decode cX4_append 36 = .ok (.iload_n 2, 1) := by decide +kernel
theorem dX4_append_37 : decode cX4_append 37 = .ok (.iastore, 1) := by decide +kernel
theorem dX4_append_38 : decode cX4_append 38 = .ok (.aload_n 0, 1) := by decide +kernel
theorem dX4_append_39 : decode cX4_append 39 = .ok (.getfield 18, 3) := by decide +kernel
theorem dX4_append_42 : decode cX4_append 42 = .ok (.aload_n 0, 1) := by decide +kernel
theorem dX4_append_43 : decode cX4_append 43 = .ok (.getfield 41, 3) := by decide +kernel
theorem dX4_append_46 : decode cX4_append 46 = .ok (.iload_n 3, 1) := by decide +kernel
theorem dX4_append_47 : decode cX4_append 47 = .ok (.iastore, 1) := by decide +kernel
theorem dX4_append_48 : decode cX4_append 48 = .ok (.aload_n 0, 1) := by decide +kernel
theorem dX4_append_49 : decode cX4_append 49 = .ok (.getfield 21, 3) := by decide +kernel
theorem dX4_append_52 : decode cX4_append 52 = .ok (.aload_n 0, 1) := by decide +kernel
theorem dX4_append_53 : decode cX4_append 53 = .ok (.getfield 41, 3) := by decide +kernel
theorem dX4_append_56 : decode cX4_append 56 = .ok (.iload 4, 2) := by decide +kernel
theorem dX4_append_58 : decode cX4_append 58 = .ok (.iastore, 1) := by decide +kernel
theorem dX4_append_59 : decode cX4_append 59 = .ok (.aload_n 0, 1) := by decide +kernel
theorem dX4_append_60 : decode cX4_append 60 = .ok (.dup, 1) := by decide +kernel
theorem dX4_append_61 : decode cX4_append 61 = .ok (.getfield 41, 3) := by decide +kernel
theorem dX4_append_64 : decode cX4_append 64 = .ok (.iconst 1, 1) := by decide +kernel
theorem dX4_append_65 : decode cX4_append 65 = .ok (.iadd, 1) := by decide +kernel
theorem dX4_append_66 : decode cX4_append 66 = .ok (.putfield 41, 3) := by decide +kernel
theorem dX4_append_69 : decode cX4_append 69 = .ok (.iconst 1, 1) := by decide +kernel
theorem dX4_append_70 : decode cX4_append 70 = .ok (.ireturn, 1) := by decide +kernel
theorem dX4_state_0 : decode cX4_state 0 = .ok (.aload_n 0, 1) := by decide +kernel
theorem dX4_state_1 : decode cX4_state 1 = .ok (.getfield 60, 3) := by decide +kernel
theorem dX4_state_4 : decode cX4_state 4 = .ok (.ifCond .eq 5, 3) := by decide +kernel
theorem dX4_state_7 : decode cX4_state 7 = .ok (.iconst 2, 1) := by decide +kernel
theorem dX4_state_8 : decode cX4_state 8 = .ok (.ireturn, 1) := by decide +kernel
theorem dX4_state_9 : decode cX4_state 9 = .ok (.aload_n 0, 1) := by decide +kernel
theorem dX4_state_10 : decode cX4_state 10 = .ok (.getfield 57, 3) := by decide +kernel
theorem dX4_state_13 : decode cX4_state 13 = .ok (.aload_n 0, 1) := by decide +kernel
theorem dX4_state_14 : decode cX4_state 14 = .ok (.getfield 41, 3) := by decide +kernel
theorem dX4_state_17 : decode cX4_state 17 = .ok (.if_icmp .lt 24, 3) := by decide +kernel
theorem dX4_state_20 : decode cX4_state 20 = .ok (.aload_n 0, 1) := by decide +kernel
theorem dX4_state_21 : decode cX4_state 21 = .ok (.getfield 50, 3) := by decide +kernel
theorem dX4_state_24 : decode cX4_state 24 = .ok (.ifCond .ne 17, 3) := by decide +kernel
theorem dX4_state_27 : decode cX4_state 27 = .ok (.aload_n 0, 1) := by decide +kernel
theorem dX4_state_28 : decode cX4_state 28 = .ok (.getfield 33, 3) := by decide +kernel
theorem dX4_state_31 : decode cX4_state 31 = .ok (.getfield 53, 3) := by decide +kernel
theorem dX4_state_34 : decode cX4_state 34 = .ok (.ifCond .ne 7, 3) := by decide +kernel
theorem dX4_state_37 : decode cX4_state 37 = .ok (.iconst 1, 1) := by decide +kernel
theorem dX4_state_38 : decode cX4_state 38 = .ok (.goto 4, 3) := by decide +kernel
theorem dX4_state_41 : decode cX4_state 41 = .ok (.iconst 0, 1) := by decide +kernel
theorem dX4_state_42 : decode cX4_state 42 = .ok (.ireturn, 1) := by decide +kernel
set_option maxRecDepth 20000 in
theorem ggX4_held_X5_isRegister : GoodIn wsX4_held wsX5_isRegister := goodIn_r _ [4] (by decide +kernel) (by decide +kernel)
set_option maxRecDepth 20000 in
theorem gX4_held_X5_isRegister_n69 : GoodIn wsX4_held (wsX5_isRegister) := ggX4_held_X5_isRegister
theorem dX4_held_0 : decode cX4_held 0 = .ok (.iload_n 1, 1) := by decide +kernel
theorem dX4_held_1 : decode cX4_held 1 = .ok (.invokestatic 69, 3) := by decide +kernel
theorem dX4_held_4 : decode cX4_held 4 = .ok (.ifCond .eq 12, 3) := by decide +kernel
theorem dX4_held_7 : decode cX4_held 7 = .ok (.aload_n 0, 1) := by decide +kernel
theorem dX4_held_8 : decode cX4_held 8 = .ok (.getfield 24, 3) := by decide +kernel
theorem dX4_held_11 : decode cX4_held 11 = .ok (.iload_n 1, 1) := by decide +kernel
theorem dX4_held_12 : decode cX4_held 12 = .ok (.iaload, 1) := by decide +kernel
theorem dX4_held_13 : decode cX4_held 13 = .ok (.goto 4, 3) := by decide +kernel
theorem dX4_held_16 : decode cX4_held 16 = .ok (.iconst 0, 1) := by decide +kernel
theorem dX4_held_17 : decode cX4_held 17 = .ok (.ireturn, 1) := by decide +kernel
set_option maxRecDepth 20000 in
theorem ggX4_keep_X5_isRegister : GoodIn wsX4_keep wsX5_isRegister := goodIn_r _ [4] (by decide +kernel) (by decide +kernel)
set_option maxRecDepth 20000 in
theorem gX4_keep_X5_isRegister_n69 : GoodIn wsX4_keep (wsX5_isRegister) := ggX4_keep_X5_isRegister
theorem dX4_keep_0 : decode cX4_keep 0 = .ok (.iload_n 1, 1) := by decide +kernel
theorem dX4_keep_1 : decode cX4_keep 1 = .ok (.invokestatic 69, 3) := by decide +kernel
theorem dX4_keep_4 : decode cX4_keep 4 = .ok (.ifCond .eq 10, 3) := by decide +kernel
theorem dX4_keep_7 : decode cX4_keep 7 = .ok (.aload_n 0, 1) := by decide +kernel
theorem dX4_keep_8 : decode cX4_keep 8 = .ok (.getfield 24, 3) := by decide +kernel
theorem dX4_keep_11 : decode cX4_keep 11 = .ok (.iload_n 1, 1) := by decide +kernel
theorem dX4_keep_12 : decode cX4_keep 12 = .ok (.iload_n 2, 1) := by decide +kernel
theorem dX4_keep_13 : decode cX4_keep 13 = .ok (.iastore, 1) := by decide +kernel
theorem dX4_keep_14 : decode cX4_keep 14 = .ok (.return_, 1) := by decide +kernel
set_option maxRecDepth 20000 in
theorem ggX4_performAlone_X4_keep : GoodIn wsX4_performAlone wsX4_keep := goodIn_r _ [6, 7, 8, 9, 10, 45, 46, 47, 48, 49, 50, 51, 52, 53, 54, 55, 56, 57, 58, 59] (by decide +kernel) (by decide +kernel)
set_option maxRecDepth 20000 in
theorem gX4_performAlone_X4_keep : GoodIn wsX4_performAlone (wsV RX4 73 RX4 yX4_keep wsX4_keep) := goodIn_app (goodIn_of _ (by decide +kernel)) ggX4_performAlone_X4_keep
set_option maxRecDepth 20000 in
theorem ggX4_performAlone_X4_held : GoodIn wsX4_performAlone wsX4_held := goodIn_r _ [14, 7, 8, 9, 10, 45, 46, 47, 48, 49, 50, 51, 52, 53, 54, 55, 56, 57, 58, 59] (by decide +kernel) (by decide +kernel)
set_option maxRecDepth 20000 in
theorem gX4_performAlone_X4_held : GoodIn wsX4_performAlone (wsV RX4 77 RX4 yX4_held wsX4_held) := goodIn_app (goodIn_of _ (by decide +kernel)) ggX4_performAlone_X4_held
set_option maxRecDepth 20000 in
theorem ggX4_performAlone_X4_divide : GoodIn wsX4_performAlone wsX4_divide := goodIn_r _ [18, 2, 3, 4, 5, 6, 7, 8, 9, 10, 45, 46, 47, 48, 49, 50, 51, 52, 53, 54, 55, 56, 57, 58, 59] (by decide +kernel) (by decide +kernel)
set_option maxRecDepth 20000 in
theorem gX4_performAlone_X4_divide : GoodIn wsX4_performAlone (wsV RX4 81 RX4 yX4_divide wsX4_divide) := goodIn_app (goodIn_of _ (by decide +kernel)) ggX4_performAlone_X4_divide
set_option maxRecDepth 20000 in
theorem ggX4_performAlone_X4_beginAtom : GoodIn wsX4_performAlone wsX4_beginAtom := goodIn_r _ [22, 23, 1, 24, 7, 25, 26, 27, 28, 29, 30, 31, 32, 33, 34, 35, 45, 46, 47, 48, 49, 50, 51, 52, 53, 54, 55, 56, 57, 58, 59, 60, 61, 62, 63, 64, 65, 66, 67] (by decide +kernel) (by decide +kernel)
set_option maxRecDepth 20000 in
theorem gX4_performAlone_X4_beginAtom : GoodIn wsX4_performAlone (wsV RX4 88 RX4 yX4_beginAtom wsX4_beginAtom) := goodIn_app (goodIn_of _ (by decide +kernel)) ggX4_performAlone_X4_beginAtom
set_option maxRecDepth 20000 in
theorem ggX4_performAlone_X4_openTry : GoodIn wsX4_performAlone wsX4_openTry := goodIn_r _ [39, 24, 40, 45, 46, 47, 48, 49, 50, 51, 52, 53, 54, 55, 56, 57, 58, 59] (by decide +kernel) (by decide +kernel)
set_option maxRecDepth 20000 in
theorem gX4_performAlone_X4_openTry : GoodIn wsX4_performAlone (wsV RX4 92 RX4 yX4_openTry wsX4_openTry) := goodIn_app (goodIn_of _ (by decide +kernel)) ggX4_performAlone_X4_openTry
set_option maxRecDepth 20000 in
theorem ggX4_performAlone_X4_closeTry : GoodIn wsX4_performAlone wsX4_closeTry := goodIn_r _ [44, 24, 23, 45, 46, 47, 48, 49, 50, 51, 52, 53, 54, 55, 56, 57, 58, 59, 60, 61, 62, 63, 64, 65, 66, 67] (by decide +kernel) (by decide +kernel)
set_option maxRecDepth 20000 in
theorem gX4_performAlone_X4_closeTry : GoodIn wsX4_performAlone (wsV RX4 95 RX4 yX4_closeTry wsX4_closeTry) := goodIn_app (goodIn_of _ (by decide +kernel)) ggX4_performAlone_X4_closeTry
theorem dX4_performAlone_0 : decode cX4_performAlone 0 = .ok (.iload_n 1, 1) := by decide +kernel
theorem dX4_performAlone_1 : decode cX4_performAlone 1 = .ok (.tableswitch 222 0 16 #[83, 222, 222, 91, 110, 129, 148, 222, 222, 222, 165, 172, 194, 222, 199, 205, 210], 83) := by decide +kernel
theorem dX4_performAlone_84 : decode cX4_performAlone 84 = .ok (.aload_n 0, 1) := by decide +kernel
theorem dX4_performAlone_85 : decode cX4_performAlone 85 = .ok (.iload_n 2, 1) := by decide +kernel
theorem dX4_performAlone_86 : decode cX4_performAlone 86 = .ok (.iload_n 3, 1) := by decide +kernel
theorem dX4_performAlone_87 : decode cX4_performAlone 87 = .ok (.invokevirtual 73, 3) := by decide +kernel
theorem dX4_performAlone_90 : decode cX4_performAlone 90 = .ok (.iconst 0, 1) := by decide +kernel
theorem dX4_performAlone_91 : decode cX4_performAlone 91 = .ok (.ireturn, 1) := by decide +kernel
theorem dX4_performAlone_92 : decode cX4_performAlone 92 = .ok (.aload_n 0, 1) := by decide +kernel
theorem dX4_performAlone_93 : decode cX4_performAlone 93 = .ok (.iload_n 2, 1) := by decide +kernel
theorem dX4_performAlone_94 : decode cX4_performAlone 94 = .ok (.aload_n 0, 1) := by decide +kernel
theorem dX4_performAlone_95 : decode cX4_performAlone 95 = .ok (.iload_n 3, 1) := by decide +kernel
theorem dX4_performAlone_96 : decode cX4_performAlone 96 = .ok (.invokevirtual 77, 3) := by decide +kernel
theorem dX4_performAlone_99 : decode cX4_performAlone 99 = .ok (.aload_n 0, 1) := by decide +kernel
theorem dX4_performAlone_100 : decode cX4_performAlone 100 = .ok (.iload 4, 2) := by decide +kernel
theorem dX4_performAlone_102 : decode cX4_performAlone 102 = .ok (.invokevirtual 77, 3) := by decide +kernel
theorem dX4_performAlone_105 : decode cX4_performAlone 105 = .ok (.iadd, 1) := by decide +kernel
theorem dX4_performAlone_106 : decode cX4_performAlone 106 = .ok (.invokevirtual 73, 3) := by decide +kernel
theorem dX4_performAlone_109 : decode cX4_performAlone 109 = .ok (.iconst 0, 1) := by decide +kernel
theorem dX4_performAlone_110 : decode cX4_performAlone 110 = .ok (.ireturn, 1) := by decide +kernel
theorem dX4_performAlone_111 : decode cX4_performAlone 111 = .ok (.aload_n 0, 1) := by decide +kernel
theorem dX4_performAlone_112 : decode cX4_performAlone 112 = .ok (.iload_n 2, 1) := by decide +kernel
theorem dX4_performAlone_113 : decode cX4_performAlone 113 = .ok (.aload_n 0, 1) := by decide +kernel
theorem dX4_performAlone_114 : decode cX4_performAlone 114 = .ok (.iload_n 3, 1) := by decide +kernel
theorem dX4_performAlone_115 : decode cX4_performAlone 115 = .ok (.invokevirtual 77, 3) := by decide +kernel
theorem dX4_performAlone_118 : decode cX4_performAlone 118 = .ok (.aload_n 0, 1) := by decide +kernel
theorem dX4_performAlone_119 : decode cX4_performAlone 119 = .ok (.iload 4, 2) := by decide +kernel
theorem dX4_performAlone_121 : decode cX4_performAlone 121 = .ok (.invokevirtual 77, 3) := by decide +kernel
theorem dX4_performAlone_124 : decode cX4_performAlone 124 = .ok (.isub, 1) := by decide +kernel
theorem dX4_performAlone_125 : decode cX4_performAlone 125 = .ok (.invokevirtual 73, 3) := by decide +kernel
theorem dX4_performAlone_128 : decode cX4_performAlone 128 = .ok (.iconst 0, 1) := by decide +kernel
theorem dX4_performAlone_129 : decode cX4_performAlone 129 = .ok (.ireturn, 1) := by decide +kernel
theorem dX4_performAlone_130 : decode cX4_performAlone 130 = .ok (.aload_n 0, 1) := by decide +kernel
theorem dX4_performAlone_131 : decode cX4_performAlone 131 = .ok (.iload_n 2, 1) := by decide +kernel
theorem dX4_performAlone_132 : decode cX4_performAlone 132 = .ok (.aload_n 0, 1) := by decide +kernel
theorem dX4_performAlone_133 : decode cX4_performAlone 133 = .ok (.iload_n 3, 1) := by decide +kernel
theorem dX4_performAlone_134 : decode cX4_performAlone 134 = .ok (.invokevirtual 77, 3) := by decide +kernel
theorem dX4_performAlone_137 : decode cX4_performAlone 137 = .ok (.aload_n 0, 1) := by decide +kernel
theorem dX4_performAlone_138 : decode cX4_performAlone 138 = .ok (.iload 4, 2) := by decide +kernel
theorem dX4_performAlone_140 : decode cX4_performAlone 140 = .ok (.invokevirtual 77, 3) := by decide +kernel
theorem dX4_performAlone_143 : decode cX4_performAlone 143 = .ok (.imul, 1) := by decide +kernel
theorem dX4_performAlone_144 : decode cX4_performAlone 144 = .ok (.invokevirtual 73, 3) := by decide +kernel
theorem dX4_performAlone_147 : decode cX4_performAlone 147 = .ok (.iconst 0, 1) := by decide +kernel
theorem dX4_performAlone_148 : decode cX4_performAlone 148 = .ok (.ireturn, 1) := by decide +kernel
theorem dX4_performAlone_149 : decode cX4_performAlone 149 = .ok (.aload_n 0, 1) := by decide +kernel
theorem dX4_performAlone_150 : decode cX4_performAlone 150 = .ok (.iload_n 2, 1) := by decide +kernel
theorem dX4_performAlone_151 : decode cX4_performAlone 151 = .ok (.aload_n 0, 1) := by decide +kernel
theorem dX4_performAlone_152 : decode cX4_performAlone 152 = .ok (.iload_n 3, 1) := by decide +kernel
theorem dX4_performAlone_153 : decode cX4_performAlone 153 = .ok (.invokevirtual 77, 3) := by decide +kernel
theorem dX4_performAlone_156 : decode cX4_performAlone 156 = .ok (.aload_n 0, 1) := by decide +kernel
theorem dX4_performAlone_157 : decode cX4_performAlone 157 = .ok (.iload 4, 2) := by decide +kernel
theorem dX4_performAlone_159 : decode cX4_performAlone 159 = .ok (.invokevirtual 77, 3) := by decide +kernel
theorem dX4_performAlone_162 : decode cX4_performAlone 162 = .ok (.invokevirtual 81, 3) := by decide +kernel
theorem dX4_performAlone_165 : decode cX4_performAlone 165 = .ok (.ireturn, 1) := by decide +kernel
theorem dX4_performAlone_166 : decode cX4_performAlone 166 = .ok (.aload_n 0, 1) := by decide +kernel
theorem dX4_performAlone_167 : decode cX4_performAlone 167 = .ok (.iload_n 2, 1) := by decide +kernel
theorem dX4_performAlone_168 : decode cX4_performAlone 168 = .ok (.putfield 85, 3) := by decide +kernel
theorem dX4_performAlone_171 : decode cX4_performAlone 171 = .ok (.iconst 0, 1) := by decide +kernel
theorem dX4_performAlone_172 : decode cX4_performAlone 172 = .ok (.ireturn, 1) := by decide +kernel
theorem dX4_performAlone_173 : decode cX4_performAlone 173 = .ok (.aload_n 0, 1) := by decide +kernel
theorem dX4_performAlone_174 : decode cX4_performAlone 174 = .ok (.aload_n 0, 1) := by decide +kernel
theorem dX4_performAlone_175 : decode cX4_performAlone 175 = .ok (.iload_n 2, 1) := by decide +kernel
theorem dX4_performAlone_176 : decode cX4_performAlone 176 = .ok (.invokevirtual 77, 3) := by decide +kernel
theorem dX4_performAlone_179 : decode cX4_performAlone 179 = .ok (.ifCond .ne 7, 3) := by decide +kernel
theorem dX4_performAlone_182 : decode cX4_performAlone 182 = .ok (.iload_n 3, 1) := by decide +kernel
theorem dX4_performAlone_183 : decode cX4_performAlone 183 = .ok (.goto 7, 3) := by decide +kernel
theorem dX4_performAlone_186 : decode cX4_performAlone 186 = .ok (.aload_n 0, 1) := by decide +kernel
theorem dX4_performAlone_187 : decode cX4_performAlone 187 = .ok (.getfield 85, 3) := by decide +kernel
theorem dX4_performAlone_190 : decode cX4_performAlone 190 = .ok (.putfield 85, 3) := by decide +kernel
theorem dX4_performAlone_193 : decode cX4_performAlone 193 = .ok (.iconst 0, 1) := by decide +kernel
theorem dX4_performAlone_194 : decode cX4_performAlone 194 = .ok (.ireturn, 1) := by decide +kernel
theorem dX4_performAlone_195 : decode cX4_performAlone 195 = .ok (.aload_n 0, 1) := by decide +kernel
theorem dX4_performAlone_196 : decode cX4_performAlone 196 = .ok (.invokevirtual 88, 3) := by decide +kernel
theorem dX4_performAlone_199 : decode cX4_performAlone 199 = .ok (.ireturn, 1) := by decide +kernel
theorem dX4_performAlone_200 : decode cX4_performAlone 200 = .ok (.aload_n 0, 1) := by decide +kernel
theorem dX4_performAlone_201 : decode cX4_performAlone 201 = .ok (.iload_n 2, 1) := by decide +kernel
theorem dX4_performAlone_202 : decode cX4_performAlone 202 = .ok (.invokevirtual 92, 3) := by decide +kernel
theorem dX4_performAlone_205 : decode cX4_performAlone 205 = .ok (.ireturn, 1) := by decide +kernel
theorem dX4_performAlone_206 : decode cX4_performAlone 206 = .ok (.aload_n 0, 1) := by decide +kernel
theorem dX4_performAlone_207 : decode cX4_performAlone 207 = .ok (.invokevirtual 95, 3) := by decide +kernel
theorem dX4_performAlone_210 : decode cX4_performAlone 210 = .ok (.ireturn, 1) := by decide +kernel
theorem dX4_performAlone_211 : decode cX4_performAlone 211 = .ok (.bipush 10, 2) := by decide +kernel
theorem dX4_performAlone_213 : decode cX4_performAlone 213 = .ok (.aload_n 0, 1) := by decide +kernel
theorem dX4_performAlone_214 : decode cX4_performAlone 214 = .ok (.iload_n 2, 1) := by decide +kernel
theorem dX4_performAlone_215 : decode cX4_performAlone 215 = .ok (.invokevirtual 77, 3) := by decide +kernel
theorem dX4_performAlone_218 : decode cX4_performAlone 218 = .ok (.bipush 7, 2) := by decide +kernel
theorem dX4_performAlone_220 : decode cX4_performAlone 220 = .ok (.iand, 1) := by decide +kernel
theorem dX4_performAlone_221 : decode cX4_performAlone 221 = .ok (.iadd, 1) := by decide +kernel
theorem dX4_performAlone_222 : decode cX4_performAlone 222 = .ok (.ireturn, 1) := by decide +kernel
theorem dX4_performAlone_223 : decode cX4_performAlone 223 = .ok (.iconst 0, 1) := by decide +kernel
theorem dX4_performAlone_224 : decode cX4_performAlone 224 = .ok (.ireturn, 1) := by decide +kernel
set_option maxRecDepth 20000 in
theorem ggX4_divide_X4_keep : GoodIn wsX4_divide wsX4_keep := goodIn_r _ [5, 6, 7, 8, 9, 10, 11, 12, 13, 14, 15, 16, 17, 18, 19, 20, 21, 22, 23, 24] (by decide +kernel) (by decide +kernel)
set_option maxRecDepth 20000 in
theorem gX4_divide_X4_keep : GoodIn wsX4_divide (wsV RX4 73 RX4 yX4_keep wsX4_keep) := goodIn_app (goodIn_of _ (by decide +kernel)) ggX4_divide_X4_keep
theorem dX4_divide_0 : decode cX4_divide 0 = .ok (.iload_n 3, 1) := by decide +kernel
theorem dX4_divide_1 : decode cX4_divide 1 = .ok (.ifCond .ne 5, 3) := by decide +kernel
theorem dX4_divide_4 : decode cX4_divide 4 = .ok (.iconst 2, 1) := by decide +kernel
theorem dX4_divide_5 : decode cX4_divide 5 = .ok (.ireturn, 1) := by decide +kernel
theorem dX4_divide_6 : decode cX4_divide 6 = .ok (.aload_n 0, 1) := by decide +kernel
theorem dX4_divide_7 : decode cX4_divide 7 = .ok (.iload_n 1, 1) := by decide +kernel
theorem dX4_divide_8 : decode cX4_divide 8 = .ok (.iload_n 2, 1) := by decide +kernel
theorem dX4_divide_9 : decode cX4_divide 9 = .ok (.iload_n 3, 1) := by decide +kernel
theorem dX4_divide_10 : decode cX4_divide 10 = .ok (.idiv, 1) := by decide +kernel
theorem dX4_divide_11 : decode cX4_divide 11 = .ok (.invokevirtual 73, 3) := by decide +kernel
theorem dX4_divide_14 : decode cX4_divide 14 = .ok (.iconst 0, 1) := by decide +kernel
theorem dX4_divide_15 : decode cX4_divide 15 = .ok (.ireturn, 1) := by decide +kernel
theorem dX4_openTry_0 : decode cX4_openTry 0 = .ok (.aload_n 0, 1) := by decide +kernel
theorem dX4_openTry_1 : decode cX4_openTry 1 = .ok (.getfield 50, 3) := by decide +kernel
theorem dX4_openTry_4 : decode cX4_openTry 4 = .ok (.ifCond .lt 11, 3) := by decide +kernel
theorem dX4_openTry_7 : decode cX4_openTry 7 = .ok (.aload_n 0, 1) := by decide +kernel
theorem dX4_openTry_8 : decode cX4_openTry 8 = .ok (.getfield 50, 3) := by decide +kernel
theorem dX4_openTry_11 : decode cX4_openTry 11 = .ok (.iconst 4, 1) := by decide +kernel
theorem dX4_openTry_12 : decode cX4_openTry 12 = .ok (.if_icmp .lt 5, 3) := by decide +kernel
theorem dX4_openTry_15 : decode cX4_openTry 15 = .ok (.iconst 5, 1) := by decide +kernel
theorem dX4_openTry_16 : decode cX4_openTry 16 = .ok (.ireturn, 1) := by decide +kernel
theorem dX4_openTry_17 : decode cX4_openTry 17 = .ok (.aload_n 0, 1) := by decide +kernel
theorem dX4_openTry_18 : decode cX4_openTry 18 = .ok (.getfield 27, 3) := by decide +kernel
theorem dX4_openTry_21 : decode cX4_openTry 21 = .ok (.aload_n 0, 1) := by decide +kernel
theorem dX4_openTry_22 : decode cX4_openTry 22 = .ok (.getfield 50, 3) := by decide +kernel
theorem dX4_openTry_25 : decode cX4_openTry 25 = .ok (.iload_n 1, 1) := by decide +kernel
theorem dX4_openTry_26 : decode cX4_openTry 26 = .ok (.iastore, 1) := by decide +kernel
theorem dX4_openTry_27 : decode cX4_openTry 27 = .ok (.aload_n 0, 1) := by decide +kernel
theorem dX4_openTry_28 : decode cX4_openTry 28 = .ok (.dup, 1) := by decide +kernel
theorem dX4_openTry_29 : decode cX4_openTry 29 = .ok (.getfield 50, 3) := by decide +kernel
theorem dX4_openTry_32 : decode cX4_openTry 32 = .ok (.iconst 1, 1) := by decide +kernel
theorem dX4_openTry_33 : decode cX4_openTry 33 = .ok (.iadd, 1) := by decide +kernel
theorem dX4_openTry_34 : decode cX4_openTry 34 = .ok (.putfield 50, 3) := by decide +kernel
theorem dX4_openTry_37 : decode cX4_openTry 37 = .ok (.iconst 0, 1) := by decide +kernel
theorem dX4_openTry_38 : decode cX4_openTry 38 = .ok (.ireturn, 1) := by decide +kernel
theorem dX4_closeTry_0 : decode cX4_closeTry 0 = .ok (.aload_n 0, 1) := by decide +kernel
theorem dX4_closeTry_1 : decode cX4_closeTry 1 = .ok (.getfield 50, 3) := by decide +kernel
theorem dX4_closeTry_4 : decode cX4_closeTry 4 = .ok (.ifCond .eq 27, 3) := by decide +kernel
theorem dX4_closeTry_7 : decode cX4_closeTry 7 = .ok (.aload_n 0, 1) := by decide +kernel
theorem dX4_closeTry_8 : decode cX4_closeTry 8 = .ok (.getfield 33, 3) := by decide +kernel
theorem dX4_closeTry_11 : decode cX4_closeTry 11 = .ok (.getfield 53, 3) := by decide +kernel
theorem dX4_closeTry_14 : decode cX4_closeTry 14 = .ok (.ifCond .eq 19, 3) := by decide +kernel
theorem dX4_closeTry_17 : decode cX4_closeTry 17 = .ok (.aload_n 0, 1) := by decide +kernel
theorem dX4_closeTry_18 : decode cX4_closeTry 18 = .ok (.getfield 50, 3) := by decide +kernel
theorem dX4_closeTry_21 : decode cX4_closeTry 21 = .ok (.aload_n 0, 1) := by decide +kernel
theorem dX4_closeTry_22 : decode cX4_closeTry 22 = .ok (.getfield 33, 3) := by decide +kernel
theorem dX4_closeTry_25 : decode cX4_closeTry 25 = .ok (.getfield 98, 3) := by decide +kernel
theorem dX4_closeTry_28 : decode cX4_closeTry 28 = .ok (.if_icmp .gt 5, 3) := by decide +kernel
theorem dX4_closeTry_31 : decode cX4_closeTry 31 = .ok (.iconst 5, 1) := by decide +kernel
theorem dX4_closeTry_32 : decode cX4_closeTry 32 = .ok (.ireturn, 1) := by decide +kernel
theorem dX4_closeTry_33 : decode cX4_closeTry 33 = .ok (.aload_n 0, 1) := by decide +kernel
theorem dX4_closeTry_34 : decode cX4_closeTry 34 = .ok (.dup, 1) := by decide +kernel
theorem dX4_closeTry_35 : decode cX4_closeTry 35 = .ok (.getfield 50, 3) := by decide +kernel
theorem dX4_closeTry_38 : decode cX4_closeTry 38 = .ok (.iconst 1, 1) := by decide +kernel
theorem dX4_closeTry_39 : decode cX4_closeTry 39 = .ok (.isub, 1) := by decide +kernel
theorem dX4_closeTry_40 : decode cX4_closeTry 40 = .ok (.putfield 50, 3) := by decide +kernel
theorem dX4_closeTry_43 : decode cX4_closeTry 43 = .ok (.iconst 0, 1) := by decide +kernel
theorem dX4_closeTry_44 : decode cX4_closeTry 44 = .ok (.ireturn, 1) := by decide +kernel
set_option maxRecDepth 20000 in
theorem ggX4_beginAtom_X0_forget : GoodIn wsX4_beginAtom wsX0_forget := goodIn_r _ [13, 14, 15, 31, 32, 33, 34, 35, 36, 37, 38] (by decide +kernel) (by decide +kernel)
set_option maxRecDepth 20000 in
theorem gX4_beginAtom_X0_forget : GoodIn wsX4_beginAtom (wsV RX4 111 RX0 yX0_forget wsX0_forget) := goodIn_app (goodIn_of _ (by decide +kernel)) ggX4_beginAtom_X0_forget
theorem dX4_beginAtom_0 : decode cX4_beginAtom 0 = .ok (.aload_n 0, 1) := by decide +kernel
theorem dX4_beginAtom_1 : decode cX4_beginAtom 1 = .ok (.getfield 33, 3) := by decide +kernel
theorem dX4_beginAtom_4 : decode cX4_beginAtom 4 = .ok (.getfield 53, 3) := by decide +kernel
theorem dX4_beginAtom_7 : decode cX4_beginAtom 7 = .ok (.ifCond .eq 5, 3) := by decide +kernel
theorem dX4_beginAtom_10 : decode cX4_beginAtom 10 = .ok (.iconst 5, 1) := by decide +kernel
theorem dX4_beginAtom_11 : decode cX4_beginAtom 11 = .ok (.ireturn, 1) := by decide +kernel
theorem dX4_beginAtom_12 : decode cX4_beginAtom 12 = .ok (.aload_n 0, 1) := by decide +kernel
theorem dX4_beginAtom_13 : decode cX4_beginAtom 13 = .ok (.getfield 33, 3) := by decide +kernel
theorem dX4_beginAtom_16 : decode cX4_beginAtom 16 = .ok (.iconst 1, 1) := by decide +kernel
theorem dX4_beginAtom_17 : decode cX4_beginAtom 17 = .ok (.putfield 53, 3) := by decide +kernel
theorem dX4_beginAtom_20 : decode cX4_beginAtom 20 = .ok (.aload_n 0, 1) := by decide +kernel
theorem dX4_beginAtom_21 : decode cX4_beginAtom 21 = .ok (.getfield 33, 3) := by decide +kernel
theorem dX4_beginAtom_24 : decode cX4_beginAtom 24 = .ok (.aload_n 0, 1) := by decide +kernel
theorem dX4_beginAtom_25 : decode cX4_beginAtom 25 = .ok (.getfield 85, 3) := by decide +kernel
theorem dX4_beginAtom_28 : decode cX4_beginAtom 28 = .ok (.putfield 101, 3) := by decide +kernel
theorem dX4_beginAtom_31 : decode cX4_beginAtom 31 = .ok (.aload_n 0, 1) := by decide +kernel
theorem dX4_beginAtom_32 : decode cX4_beginAtom 32 = .ok (.getfield 33, 3) := by decide +kernel
theorem dX4_beginAtom_35 : decode cX4_beginAtom 35 = .ok (.aload_n 0, 1) := by decide +kernel
theorem dX4_beginAtom_36 : decode cX4_beginAtom 36 = .ok (.getfield 50, 3) := by decide +kernel
theorem dX4_beginAtom_39 : decode cX4_beginAtom 39 = .ok (.putfield 98, 3) := by decide +kernel
theorem dX4_beginAtom_42 : decode cX4_beginAtom 42 = .ok (.aload_n 0, 1) := by decide +kernel
theorem dX4_beginAtom_43 : decode cX4_beginAtom 43 = .ok (.getfield 24, 3) := by decide +kernel
theorem dX4_beginAtom_46 : decode cX4_beginAtom 46 = .ok (.iconst 0, 1) := by decide +kernel
theorem dX4_beginAtom_47 : decode cX4_beginAtom 47 = .ok (.aload_n 0, 1) := by decide +kernel
theorem dX4_beginAtom_48 : decode cX4_beginAtom 48 = .ok (.getfield 33, 3) := by decide +kernel
theorem dX4_beginAtom_51 : decode cX4_beginAtom 51 = .ok (.getfield 104, 3) := by decide +kernel
theorem dX4_beginAtom_54 : decode cX4_beginAtom 54 = .ok (.iconst 0, 1) := by decide +kernel
theorem dX4_beginAtom_55 : decode cX4_beginAtom 55 = .ok (.iconst 4, 1) := by decide +kernel
theorem dX4_beginAtom_56 : decode cX4_beginAtom 56 = .ok (.invokestatic 105, 3) := by decide +kernel
theorem dX4_beginAtom_59 : decode cX4_beginAtom 59 = .ok (.aload_n 0, 1) := by decide +kernel
theorem dX4_beginAtom_60 : decode cX4_beginAtom 60 = .ok (.getfield 33, 3) := by decide +kernel
theorem dX4_beginAtom_63 : decode cX4_beginAtom 63 = .ok (.invokevirtual 111, 3) := by decide +kernel
theorem dX4_beginAtom_66 : decode cX4_beginAtom 66 = .ok (.iconst 0, 1) := by decide +kernel
theorem dX4_beginAtom_67 : decode cX4_beginAtom 67 = .ok (.ireturn, 1) := by decide +kernel
set_option maxRecDepth 20000 in
theorem ggX4_beginAnew_X0_forget : GoodIn wsX4_beginAnew wsX0_forget := goodIn_r _ [13, 14, 15, 31, 32, 33, 34, 35, 36, 37, 38] (by decide +kernel) (by decide +kernel)
set_option maxRecDepth 20000 in
theorem gX4_beginAnew_X0_forget : GoodIn wsX4_beginAnew (wsV RX4 111 RX0 yX0_forget wsX0_forget) := goodIn_app (goodIn_of _ (by decide +kernel)) ggX4_beginAnew_X0_forget
theorem dX4_beginAnew_0 : decode cX4_beginAnew 0 = .ok (.aload_n 0, 1) := by decide +kernel
theorem dX4_beginAnew_1 : decode cX4_beginAnew 1 = .ok (.dup, 1) := by decide +kernel
theorem dX4_beginAnew_2 : decode cX4_beginAnew 2 = .ok (.getfield 66, 3) := by decide +kernel
theorem dX4_beginAnew_5 : decode cX4_beginAnew 5 = .ok (.iconst 1, 1) := by decide +kernel
theorem dX4_beginAnew_6 : decode cX4_beginAnew 6 = .ok (.iadd, 1) := by decide +kernel
theorem dX4_beginAnew_7 : decode cX4_beginAnew 7 = .ok (.putfield 66, 3) := by decide +kernel
theorem dX4_beginAnew_10 : decode cX4_beginAnew 10 = .ok (.aload_n 0, 1) := by decide +kernel
theorem dX4_beginAnew_11 : decode cX4_beginAnew 11 = .ok (.aload_n 0, 1) := by decide +kernel
theorem dX4_beginAnew_12 : decode cX4_beginAnew 12 = .ok (.getfield 33, 3) := by decide +kernel
theorem dX4_beginAnew_15 : decode cX4_beginAnew 15 = .ok (.getfield 101, 3) := by decide +kernel
theorem dX4_beginAnew_18 : decode cX4_beginAnew 18 = .ok (.putfield 85, 3) := by decide +kernel
theorem dX4_beginAnew_21 : decode cX4_beginAnew 21 = .ok (.aload_n 0, 1) := by decide +kernel
theorem dX4_beginAnew_22 : decode cX4_beginAnew 22 = .ok (.getfield 33, 3) := by decide +kernel
theorem dX4_beginAnew_25 : decode cX4_beginAnew 25 = .ok (.getfield 104, 3) := by decide +kernel
theorem dX4_beginAnew_28 : decode cX4_beginAnew 28 = .ok (.iconst 0, 1) := by decide +kernel
theorem dX4_beginAnew_29 : decode cX4_beginAnew 29 = .ok (.aload_n 0, 1) := by decide +kernel
theorem dX4_beginAnew_30 : decode cX4_beginAnew 30 = .ok (.getfield 24, 3) := by decide +kernel
theorem dX4_beginAnew_33 : decode cX4_beginAnew 33 = .ok (.iconst 0, 1) := by decide +kernel
theorem dX4_beginAnew_34 : decode cX4_beginAnew 34 = .ok (.iconst 4, 1) := by decide +kernel
theorem dX4_beginAnew_35 : decode cX4_beginAnew 35 = .ok (.invokestatic 105, 3) := by decide +kernel
theorem dX4_beginAnew_38 : decode cX4_beginAnew 38 = .ok (.aload_n 0, 1) := by decide +kernel
theorem dX4_beginAnew_39 : decode cX4_beginAnew 39 = .ok (.getfield 33, 3) := by decide +kernel
theorem dX4_beginAnew_42 : decode cX4_beginAnew 42 = .ok (.invokevirtual 111, 3) := by decide +kernel
theorem dX4_beginAnew_45 : decode cX4_beginAnew 45 = .ok (.return_, 1) := by decide +kernel
set_option maxRecDepth 20000 in
theorem ggX4_fail_X4_keep : GoodIn wsX4_fail wsX4_keep := goodIn_r _ [10, 11, 12, 13, 14, 15, 16, 17, 18, 19, 20, 21, 22, 23, 24, 25, 26, 27, 28, 29] (by decide +kernel) (by decide +kernel)
set_option maxRecDepth 20000 in
theorem gX4_fail_X4_keep : GoodIn wsX4_fail (wsV RX4 73 RX4 yX4_keep wsX4_keep) := goodIn_app (goodIn_of _ (by decide +kernel)) ggX4_fail_X4_keep
theorem dX4_fail_0 : decode cX4_fail 0 = .ok (.aload_n 0, 1) := by decide +kernel
theorem dX4_fail_1 : decode cX4_fail 1 = .ok (.getfield 50, 3) := by decide +kernel
theorem dX4_fail_4 : decode cX4_fail 4 = .ok (.ifCond .le 11, 3) := by decide +kernel
theorem dX4_fail_7 : decode cX4_fail 7 = .ok (.aload_n 0, 1) := by decide +kernel
theorem dX4_fail_8 : decode cX4_fail 8 = .ok (.getfield 50, 3) := by decide +kernel
theorem dX4_fail_11 : decode cX4_fail 11 = .ok (.iconst 4, 1) := by decide +kernel
theorem dX4_fail_12 : decode cX4_fail 12 = .ok (.if_icmp .le 17, 3) := by decide +kernel
theorem dX4_fail_15 : decode cX4_fail 15 = .ok (.aload_n 0, 1) := by decide +kernel
theorem dX4_fail_16 : decode cX4_fail 16 = .ok (.iload_n 1, 1) := by decide +kernel
theorem dX4_fail_17 : decode cX4_fail 17 = .ok (.putfield 60, 3) := by decide +kernel
theorem dX4_fail_20 : decode cX4_fail 20 = .ok (.aload_n 0, 1) := by decide +kernel
theorem dX4_fail_21 : decode cX4_fail 21 = .ok (.getfield 33, 3) := by decide +kernel
theorem dX4_fail_24 : decode cX4_fail 24 = .ok (.iconst 0, 1) := by decide +kernel
theorem dX4_fail_25 : decode cX4_fail 25 = .ok (.putfield 53, 3) := by decide +kernel
theorem dX4_fail_28 : decode cX4_fail 28 = .ok (.return_, 1) := by decide +kernel
theorem dX4_fail_29 : decode cX4_fail 29 = .ok (.aload_n 0, 1) := by decide +kernel
theorem dX4_fail_30 : decode cX4_fail 30 = .ok (.dup, 1) := by decide +kernel
theorem dX4_fail_31 : decode cX4_fail 31 = .ok (.getfield 50, 3) := by decide +kernel
theorem dX4_fail_34 : decode cX4_fail 34 = .ok (.iconst 1, 1) := by decide +kernel
theorem dX4_fail_35 : decode cX4_fail 35 = .ok (.isub, 1) := by decide +kernel
theorem dX4_fail_36 : decode cX4_fail 36 = .ok (.putfield 50, 3) := by decide +kernel
theorem dX4_fail_39 : decode cX4_fail 39 = .ok (.aload_n 0, 1) := by decide +kernel
theorem dX4_fail_40 : decode cX4_fail 40 = .ok (.getfield 50, 3) := by decide +kernel
theorem dX4_fail_43 : decode cX4_fail 43 = .ok (.aload_n 0, 1) := by decide +kernel
theorem dX4_fail_44 : decode cX4_fail 44 = .ok (.getfield 33, 3) := by decide +kernel
theorem dX4_fail_47 : decode cX4_fail 47 = .ok (.getfield 98, 3) := by decide +kernel
theorem dX4_fail_50 : decode cX4_fail 50 = .ok (.if_icmp .ge 11, 3) := by decide +kernel
theorem dX4_fail_53 : decode cX4_fail 53 = .ok (.aload_n 0, 1) := by decide +kernel
theorem dX4_fail_54 : decode cX4_fail 54 = .ok (.getfield 33, 3) := by decide +kernel
theorem dX4_fail_57 : decode cX4_fail 57 = .ok (.iconst 0, 1) := by decide +kernel
theorem dX4_fail_58 : decode cX4_fail 58 = .ok (.putfield 53, 3) := by decide +kernel
theorem dX4_fail_61 : decode cX4_fail 61 = .ok (.aload_n 0, 1) := by decide +kernel
theorem dX4_fail_62 : decode cX4_fail 62 = .ok (.iconst 0, 1) := by decide +kernel
theorem dX4_fail_63 : decode cX4_fail 63 = .ok (.iload_n 1, 1) := by decide +kernel
theorem dX4_fail_64 : decode cX4_fail 64 = .ok (.invokevirtual 73, 3) := by decide +kernel
theorem dX4_fail_67 : decode cX4_fail 67 = .ok (.aload_n 0, 1) := by decide +kernel
theorem dX4_fail_68 : decode cX4_fail 68 = .ok (.aload_n 0, 1) := by decide +kernel
theorem dX4_fail_69 : decode cX4_fail 69 = .ok (.getfield 27, 3) := by decide +kernel
theorem dX4_fail_72 : decode cX4_fail 72 = .ok (.aload_n 0, 1) := by decide +kernel
theorem dX4_fail_73 : decode cX4_fail 73 = .ok (.getfield 50, 3) := by decide +kernel
theorem dX4_fail_76 : decode cX4_fail 76 = .ok (.iaload, 1) := by decide +kernel
theorem dX4_fail_77 : decode cX4_fail 77 = .ok (.putfield 57, 3) := by decide +kernel
theorem dX4_fail_80 : decode cX4_fail 80 = .ok (.return_, 1) := by decide +kernel
set_option maxRecDepth 20000 in
theorem ggX5_init_X1_init : GoodIn wsX5_init wsX1_init := goodIn_r _ [18, 19, 2, 3, 20, 21, 22, 23, 24, 25, 26, 27, 28, 29, 30, 31, 32, 33, 34, 35, 36, 6, 37, 38, 39, 40, 41, 77, 78, 79, 80, 104, 105, 106, 107, 108] (by decide +kernel) (by decide +kernel)
set_option maxRecDepth 20000 in
theorem gX5_init_X1_init : GoodIn wsX5_init (wsX1_init) := ggX5_init_X1_init
set_option maxRecDepth 20000 in
theorem ggX5_init_X3_init : GoodIn wsX5_init wsX3_init := goodIn_r _ [44, 45, 2, 3, 20, 46, 47, 48, 49, 50, 51, 52, 10, 53, 86, 87, 88] (by decide +kernel) (by decide +kernel)
set_option maxRecDepth 20000 in
theorem gX5_init_X3_init : GoodIn wsX5_init (wsX3_init) := ggX5_init_X3_init
set_option maxRecDepth 20000 in
theorem ggX5_init_X4_init : GoodIn wsX5_init wsX4_init := goodIn_r _ [56, 57, 2, 3, 20, 58, 59, 60, 61, 62, 63, 64, 65, 66, 67, 68, 69, 70, 71, 72, 47, 73, 74, 75, 76, 89, 90, 91, 92, 93, 94, 95, 96, 97, 98, 99, 100, 101, 102, 103, 109, 110, 111, 112, 113, 114, 115, 116] (by decide +kernel) (by decide +kernel)
set_option maxRecDepth 20000 in
theorem gX5_init_X4_init : GoodIn wsX5_init (wsX4_init) := ggX5_init_X4_init
theorem dX5_init_0 : decode cX5_init 0 = .ok (.aload_n 0, 1) := by decide +kernel
theorem dX5_init_1 : decode cX5_init 1 = .ok (.invokespecial 1, 3) := by decide +kernel
theorem dX5_init_4 : decode cX5_init 4 = .ok (.aload_n 0, 1) := by decide +kernel
theorem dX5_init_5 : decode cX5_init 5 = .ok (.new 7, 3) := by decide +kernel
theorem dX5_init_8 : decode cX5_init 8 = .ok (.dup, 1) := by decide +kernel
theorem dX5_init_9 : decode cX5_init 9 = .ok (.invokespecial 9, 3) := by decide +kernel
theorem dX5_init_12 : decode cX5_init 12 = .ok (.putfield 10, 3) := by decide +kernel
theorem dX5_init_15 : decode cX5_init 15 = .ok (.aload_n 0, 1) := by decide +kernel
theorem dX5_init_16 : decode cX5_init 16 = .ok (.new 16, 3) := by decide +kernel
theorem dX5_init_19 : decode cX5_init 19 = .ok (.dup, 1) := by decide +kernel
theorem dX5_init_20 : decode cX5_init 20 = .ok (.invokespecial 18, 3) := by decide +kernel
theorem dX5_init_23 : decode cX5_init 23 = .ok (.putfield 19, 3) := by decide +kernel
theorem dX5_init_26 : decode cX5_init 26 = .ok (.aload_n 0, 1) := by decide +kernel
theorem dX5_init_27 : decode cX5_init 27 = .ok (.iconst 3, 1) := by decide +kernel
theorem dX5_init_28 : decode cX5_init 28 = .ok (.anewarray 23, 3) := by decide +kernel
theorem dX5_init_31 : decode cX5_init 31 = .ok (.putfield 25, 3) := by decide +kernel
theorem dX5_init_34 : decode cX5_init 34 = .ok (.iconst 0, 1) := by decide +kernel
theorem dX5_init_35 : decode cX5_init 35 = .ok (.istore_n 1, 1) := by decide +kernel
theorem dX5_init_36 : decode cX5_init 36 = .ok (.iload_n 1, 1) := by decide +kernel
theorem dX5_init_37 : decode cX5_init 37 = .ok (.aload_n 0, 1) := by decide +kernel
theorem dX5_init_38 : decode cX5_init 38 = .ok (.getfield 25, 3) := by decide +kernel
theorem dX5_init_41 : decode cX5_init 41 = .ok (.arraylength, 1) := by decide +kernel
theorem dX5_init_42 : decode cX5_init 42 = .ok (.if_icmp .ge 23, 3) := by decide +kernel
theorem dX5_init_45 : decode cX5_init 45 = .ok (.aload_n 0, 1) := by decide +kernel
theorem dX5_init_46 : decode cX5_init 46 = .ok (.getfield 25, 3) := by decide +kernel
theorem dX5_init_49 : decode cX5_init 49 = .ok (.iload_n 1, 1) := by decide +kernel
theorem dX5_init_50 : decode cX5_init 50 = .ok (.new 23, 3) := by decide +kernel
theorem dX5_init_53 : decode cX5_init 53 = .ok (.dup, 1) := by decide +kernel
theorem dX5_init_54 : decode cX5_init 54 = .ok (.iload_n 1, 1) := by decide +kernel
theorem dX5_init_55 : decode cX5_init 55 = .ok (.invokespecial 29, 3) := by decide +kernel
theorem dX5_init_58 : decode cX5_init 58 = .ok (.aastore, 1) := by decide +kernel
theorem dX5_init_59 : decode cX5_init 59 = .ok (.iinc 1 1, 3) := by decide +kernel
theorem dX5_init_62 : decode cX5_init 62 = .ok (.goto (-26), 3) := by decide +kernel
theorem dX5_init_65 : decode cX5_init 65 = .ok (.return_, 1) := by decide +kernel
set_option maxRecDepth 20000 in
theorem ggX5_act_X5_strandOf : GoodIn wsX5_act wsX5_strandOf := goodIn_r _ [5, 6, 47, 48, 49, 50, 51] (by decide +kernel) (by decide +kernel)
set_option maxRecDepth 20000 in
theorem gX5_act_X5_strandOf : GoodIn wsX5_act (wsV RX5 32 RX5 yX5_strandOf wsX5_strandOf) := goodIn_app (goodIn_of _ (by decide +kernel)) ggX5_act_X5_strandOf
set_option maxRecDepth 20000 in
theorem ggX5_act_X5_mayBe : GoodIn wsX5_act wsX5_mayBe := goodIn_r _ [9, 10, 11, 4, 12, 13, 14, 15, 16, 17, 18, 19, 20, 21] (by decide +kernel) (by decide +kernel)
set_option maxRecDepth 20000 in
theorem gX5_act_X5_mayBe : GoodIn wsX5_act (va_wsS RX5 36 yX5_mayBe wsX5_mayBe) := goodIn_app (goodIn_of _ (by decide +kernel)) ggX5_act_X5_mayBe
set_option maxRecDepth 20000 in
theorem ggX5_act_X4_append : GoodIn wsX5_act wsX4_append := goodIn_r _ [26, 27, 28, 29, 30, 31, 32, 33, 34, 35, 36, 37, 38, 39, 40, 41, 42, 43, 44, 45, 46] (by decide +kernel) (by decide +kernel)
set_option maxRecDepth 20000 in
theorem gX5_act_X4_append : GoodIn wsX5_act (wsV RX5 44 RX4 yX4_append wsX4_append) := goodIn_app (goodIn_of _ (by decide +kernel)) ggX5_act_X4_append
theorem dX5_act_0 : decode cX5_act 0 = .ok (.aload_n 0, 1) := by decide +kernel
theorem dX5_act_1 : decode cX5_act 1 = .ok (.iload_n 1, 1) := by decide +kernel
theorem dX5_act_2 : decode cX5_act 2 = .ok (.invokevirtual 32, 3) := by decide +kernel
theorem dX5_act_5 : decode cX5_act 5 = .ok (.astore 6, 2) := by decide +kernel
theorem dX5_act_7 : decode cX5_act 7 = .ok (.aload 6, 2) := by decide +kernel
theorem dX5_act_9 : decode cX5_act 9 = .ok (.ifnull 15, 3) := by decide +kernel
theorem dX5_act_12 : decode cX5_act 12 = .ok (.iload_n 2, 1) := by decide +kernel
theorem dX5_act_13 : decode cX5_act 13 = .ok (.iload_n 3, 1) := by decide +kernel
theorem dX5_act_14 : decode cX5_act 14 = .ok (.iload 4, 2) := by decide +kernel
theorem dX5_act_16 : decode cX5_act 16 = .ok (.iload 5, 2) := by decide +kernel
theorem dX5_act_18 : decode cX5_act 18 = .ok (.invokestatic 36, 3) := by decide +kernel
theorem dX5_act_21 : decode cX5_act 21 = .ok (.ifCond .ne 6, 3) := by decide +kernel
theorem dX5_act_24 : decode cX5_act 24 = .ok (.bipush (-2), 2) := by decide +kernel
theorem dX5_act_26 : decode cX5_act 26 = .ok (.ireturn, 1) := by decide +kernel
theorem dX5_act_27 : decode cX5_act 27 = .ok (.aload 6, 2) := by decide +kernel
theorem dX5_act_29 : decode cX5_act 29 = .ok (.getfield 40, 3) := by decide +kernel
theorem dX5_act_32 : decode cX5_act 32 = .ok (.ifCond .le 6, 3) := by decide +kernel
theorem dX5_act_35 : decode cX5_act 35 = .ok (.bipush (-3), 2) := by decide +kernel
theorem dX5_act_37 : decode cX5_act 37 = .ok (.ireturn, 1) := by decide +kernel
theorem dX5_act_38 : decode cX5_act 38 = .ok (.aload 6, 2) := by decide +kernel
theorem dX5_act_40 : decode cX5_act 40 = .ok (.iload_n 2, 1) := by decide +kernel
theorem dX5_act_41 : decode cX5_act 41 = .ok (.iload_n 3, 1) := by decide +kernel
theorem dX5_act_42 : decode cX5_act 42 = .ok (.iload 4, 2) := by decide +kernel
theorem dX5_act_44 : decode cX5_act 44 = .ok (.iload 5, 2) := by decide +kernel
theorem dX5_act_46 : decode cX5_act 46 = .ok (.invokevirtual 44, 3) := by decide +kernel
theorem dX5_act_49 : decode cX5_act 49 = .ok (.ifCond .eq 11, 3) := by decide +kernel
theorem dX5_act_52 : decode cX5_act 52 = .ok (.aload 6, 2) := by decide +kernel
theorem dX5_act_54 : decode cX5_act 54 = .ok (.getfield 47, 3) := by decide +kernel
theorem dX5_act_57 : decode cX5_act 57 = .ok (.goto 5, 3) := by decide +kernel
theorem dX5_act_60 : decode cX5_act 60 = .ok (.bipush (-4), 2) := by decide +kernel
theorem dX5_act_62 : decode cX5_act 62 = .ok (.ireturn, 1) := by decide +kernel
set_option maxRecDepth 20000 in
theorem ggX5_turn_X5_strandOf : GoodIn wsX5_turn wsX5_strandOf := goodIn_r _ [6, 7, 239, 240, 241, 242, 243] (by decide +kernel) (by decide +kernel)
set_option maxRecDepth 20000 in
theorem gX5_turn_X5_strandOf : GoodIn wsX5_turn (wsV RX5 32 RX5 yX5_strandOf wsX5_strandOf) := goodIn_app (goodIn_of _ (by decide +kernel)) ggX5_turn_X5_strandOf
set_option maxRecDepth 20000 in
theorem ggX5_turn_X4_state : GoodIn wsX5_turn wsX4_state := goodIn_r _ [12, 13, 14, 15, 16, 17, 244, 245, 246, 247, 248, 249, 250, 251, 252, 253, 254, 255, 256, 257, 258, 259, 260, 261, 262, 263, 264, 265, 266] (by decide +kernel) (by decide +kernel)
set_option maxRecDepth 20000 in
theorem gX5_turn_X4_state : GoodIn wsX5_turn (wsV RX5 50 RX4 yX4_state wsX4_state) := goodIn_app (goodIn_of _ (by decide +kernel)) ggX5_turn_X4_state
set_option maxRecDepth 20000 in
theorem ggX5_turn_X5_takeTurn : GoodIn wsX5_turn wsX5_takeTurn := goodIn_r _ [21, 22, 1, 23, 24, 25, 5, 26, 27, 28, 29, 30, 31, 32, 33, 34, 35, 36, 37, 38, 39, 40, 41, 42, 43, 44, 45, 46, 47, 48, 49, 50, 51, 52, 53, 54, 55, 56, 57, 58, 59, 60, 61, 62, 63, 64, 65, 66, 67, 68, 69, 70, 71, 72, 73, 74, 75, 76, 77, 78, 79, 80, 81, 82, 83, 84, 85, 86, 87, 88, 89, 90, 91, 92, 93, 94, 95, 96, 97, 98, 99, 100, 101, 102, 103, 104, 105, 106, 11, 107, 108, 109, 110, 111, 112, 113, 114, 115, 116, 117, 118, 119, 120, 121, 122, 123, 124, 125, 126, 127, 128, 129, 130, 131, 132, 133, 134, 135, 136, 137, 138, 139, 140, 141, 142, 143, 144, 145, 146, 147, 148, 149, 150, 151, 152, 153, 154, 155, 156, 157, 158, 159, 160, 161, 162, 163, 164, 165, 166, 167, 168, 169, 170, 171, 172, 173, 174, 175, 176, 177, 178, 179, 180, 181, 182, 183, 17, 184, 185, 186, 187, 188, 189, 190, 191, 192, 193, 194, 195, 196, 197, 198, 199, 200, 201, 202, 203, 204, 205, 206, 207, 208, 209, 210, 211, 212, 213, 214, 215, 216, 217, 218, 219, 220, 221, 222, 223, 224, 225, 16, 226, 227, 228, 229, 230, 231, 232, 233, 234, 235, 236, 237, 238, 13, 14, 239, 240, 241, 242, 243, 244, 245, 246, 247, 248, 249, 250, 251, 252, 253, 254, 255, 256, 257, 258, 259, 260, 261, 262, 263, 264, 265, 266, 267, 268, 269, 270, 271, 272, 273, 274, 275, 276, 277, 278] (by decide +kernel) (by decide +kernel)
set_option maxRecDepth 20000 in
theorem gX5_turn_X5_takeTurn : GoodIn wsX5_turn (wsV RX5 57 RX5 yX5_takeTurn wsX5_takeTurn) := goodIn_app (goodIn_of _ (by decide +kernel)) ggX5_turn_X5_takeTurn
theorem dX5_turn_0 : decode cX5_turn 0 = .ok (.aload_n 0, 1) := by decide +kernel
theorem dX5_turn_1 : decode cX5_turn 1 = .ok (.iload_n 1, 1) := by decide +kernel
theorem dX5_turn_2 : decode cX5_turn 2 = .ok (.invokevirtual 32, 3) := by decide +kernel
theorem dX5_turn_5 : decode cX5_turn 5 = .ok (.astore_n 2, 1) := by decide +kernel
theorem dX5_turn_6 : decode cX5_turn 6 = .ok (.aload_n 2, 1) := by decide +kernel
theorem dX5_turn_7 : decode cX5_turn 7 = .ok (.ifnonnull 6, 3) := by decide +kernel
theorem dX5_turn_10 : decode cX5_turn 10 = .ok (.bipush (-2), 2) := by decide +kernel
theorem dX5_turn_12 : decode cX5_turn 12 = .ok (.ireturn, 1) := by decide +kernel
theorem dX5_turn_13 : decode cX5_turn 13 = .ok (.aload_n 2, 1) := by decide +kernel
theorem dX5_turn_14 : decode cX5_turn 14 = .ok (.invokevirtual 50, 3) := by decide +kernel
theorem dX5_turn_17 : decode cX5_turn 17 = .ok (.ifCond .ne 13, 3) := by decide +kernel
theorem dX5_turn_20 : decode cX5_turn 20 = .ok (.aload_n 0, 1) := by decide +kernel
theorem dX5_turn_21 : decode cX5_turn 21 = .ok (.getfield 54, 3) := by decide +kernel
theorem dX5_turn_24 : decode cX5_turn 24 = .ok (.sipush 5000, 3) := by decide +kernel
theorem dX5_turn_27 : decode cX5_turn 27 = .ok (.if_icmp .lt 6, 3) := by decide +kernel
theorem dX5_turn_30 : decode cX5_turn 30 = .ok (.bipush (-3), 2) := by decide +kernel
theorem dX5_turn_32 : decode cX5_turn 32 = .ok (.ireturn, 1) := by decide +kernel
theorem dX5_turn_33 : decode cX5_turn 33 = .ok (.aload_n 0, 1) := by decide +kernel
theorem dX5_turn_34 : decode cX5_turn 34 = .ok (.aload_n 2, 1) := by decide +kernel
theorem dX5_turn_35 : decode cX5_turn 35 = .ok (.invokevirtual 57, 3) := by decide +kernel
theorem dX5_turn_38 : decode cX5_turn 38 = .ok (.aload_n 2, 1) := by decide +kernel
theorem dX5_turn_39 : decode cX5_turn 39 = .ok (.invokevirtual 50, 3) := by decide +kernel
theorem dX5_turn_42 : decode cX5_turn 42 = .ok (.ireturn, 1) := by decide +kernel
set_option maxRecDepth 20000 in
theorem ggX5_play_X5_drawn : GoodIn wsX5_play wsX5_drawn := goodIn_r _ [7, 8, 9, 10, 11, 6, 12, 13, 14, 15, 16, 17, 18, 19, 20, 21, 22, 23, 24, 25, 26, 248, 249, 250, 251, 252, 253, 254, 255, 256, 257, 258, 259, 260, 261, 262, 263, 264, 265, 266, 267, 268, 269, 270, 271, 272, 273, 274, 275] (by decide +kernel) (by decide +kernel)
set_option maxRecDepth 20000 in
theorem gX5_play_X5_drawn : GoodIn wsX5_play (wsV RX5 62 RX5 yX5_drawn wsX5_drawn) := goodIn_app (goodIn_of _ (by decide +kernel)) ggX5_play_X5_drawn
set_option maxRecDepth 20000 in
theorem ggX5_play_X5_takeTurn : GoodIn wsX5_play wsX5_takeTurn := goodIn_r _ [30, 31, 2, 32, 33, 34, 6, 35, 36, 37, 38, 39, 40, 41, 42, 43, 44, 45, 46, 47, 48, 49, 50, 51, 52, 53, 54, 55, 56, 57, 58, 59, 60, 61, 62, 63, 64, 65, 66, 67, 68, 69, 70, 71, 72, 73, 74, 75, 76, 77, 78, 79, 80, 81, 82, 83, 84, 85, 86, 87, 88, 89, 90, 91, 92, 93, 94, 95, 96, 97, 98, 99, 100, 101, 102, 103, 104, 105, 106, 107, 108, 109, 110, 111, 112, 113, 114, 115, 20, 116, 117, 118, 119, 120, 121, 122, 123, 124, 125, 126, 127, 128, 129, 130, 131, 132, 133, 134, 135, 136, 137, 138, 139, 140, 141, 142, 143, 144, 145, 146, 147, 148, 149, 150, 151, 152, 153, 154, 155, 156, 157, 158, 159, 160, 161, 162, 163, 164, 165, 166, 167, 168, 169, 170, 171, 172, 173, 174, 175, 176, 177, 178, 179, 180, 181, 182, 183, 184, 185, 186, 187, 188, 189, 190, 191, 192, 26, 193, 194, 195, 196, 197, 198, 199, 200, 201, 202, 203, 204, 205, 206, 207, 208, 209, 210, 211, 212, 213, 214, 215, 216, 217, 218, 219, 220, 221, 222, 223, 224, 225, 226, 227, 228, 229, 230, 231, 232, 233, 234, 25, 235, 236, 237, 238, 239, 240, 241, 242, 243, 244, 245, 246, 247, 22, 23, 248, 249, 250, 251, 252, 253, 254, 255, 256, 257, 258, 259, 260, 261, 262, 263, 264, 265, 266, 267, 268, 269, 270, 271, 272, 273, 274, 275, 276, 277, 278, 279, 280, 281, 282, 283, 284, 285, 286, 287] (by decide +kernel) (by decide +kernel)
set_option maxRecDepth 20000 in
theorem gX5_play_X5_takeTurn : GoodIn wsX5_play (wsV RX5 57 RX5 yX5_takeTurn wsX5_takeTurn) := goodIn_app (goodIn_of _ (by decide +kernel)) ggX5_play_X5_takeTurn
theorem dX5_play_0 : decode cX5_play 0 = .ok (.iload_n 2, 1) := by decide +kernel
theorem dX5_play_1 : decode cX5_play 1 = .ok (.iconst 1, 1) := by decide +kernel
theorem dX5_play_2 : decode cX5_play 2 = .ok (.if_icmp .lt 9, 3) := by decide +kernel
theorem dX5_play_5 : decode cX5_play 5 = .ok (.iload_n 2, 1) := by decide +kernel
theorem dX5_play_6 : decode cX5_play 6 = .ok (.bipush 100, 2) := by decide +kernel
theorem dX5_play_8 : decode cX5_play 8 = .ok (.if_icmp .le 6, 3) := by decide +kernel
theorem dX5_play_11 : decode cX5_play 11 = .ok (.bipush (-2), 2) := by decide +kernel
theorem dX5_play_13 : decode cX5_play 13 = .ok (.ireturn, 1) := by decide +kernel
theorem dX5_play_14 : decode cX5_play 14 = .ok (.iload_n 1, 1) := by decide +kernel
theorem dX5_play_15 : decode cX5_play 15 = .ok (.istore_n 3, 1) := by decide +kernel
theorem dX5_play_16 : decode cX5_play 16 = .ok (.iconst 0, 1) := by decide +kernel
theorem dX5_play_17 : decode cX5_play 17 = .ok (.istore 4, 2) := by decide +kernel
theorem dX5_play_19 : decode cX5_play 19 = .ok (.iload 4, 2) := by decide +kernel
theorem dX5_play_21 : decode cX5_play 21 = .ok (.iload_n 2, 1) := by decide +kernel
theorem dX5_play_22 : decode cX5_play 22 = .ok (.if_icmp .ge 53, 3) := by decide +kernel
theorem dX5_play_25 : decode cX5_play 25 = .ok (.iload_n 3, 1) := by decide +kernel
theorem dX5_play_26 : decode cX5_play 26 = .ok (.ldc 61, 2) := by decide +kernel
theorem dX5_play_28 : decode cX5_play 28 = .ok (.imul, 1) := by decide +kernel
theorem dX5_play_29 : decode cX5_play 29 = .ok (.sipush 12345, 3) := by decide +kernel
theorem dX5_play_32 : decode cX5_play 32 = .ok (.iadd, 1) := by decide +kernel
theorem dX5_play_33 : decode cX5_play 33 = .ok (.istore_n 3, 1) := by decide +kernel
theorem dX5_play_34 : decode cX5_play 34 = .ok (.aload_n 0, 1) := by decide +kernel
theorem dX5_play_35 : decode cX5_play 35 = .ok (.getfield 54, 3) := by decide +kernel
theorem dX5_play_38 : decode cX5_play 38 = .ok (.sipush 5000, 3) := by decide +kernel
theorem dX5_play_41 : decode cX5_play 41 = .ok (.if_icmp .lt 7, 3) := by decide +kernel
theorem dX5_play_44 : decode cX5_play 44 = .ok (.aconst_null, 1) := by decide +kernel
theorem dX5_play_45 : decode cX5_play 45 = .ok (.goto 8, 3) := by decide +kernel
theorem dX5_play_48 : decode cX5_play 48 = .ok (.aload_n 0, 1) := by decide +kernel
theorem dX5_play_49 : decode cX5_play 49 = .ok (.iload_n 3, 1) := by decide +kernel
theorem dX5_play_50 : decode cX5_play 50 = .ok (.invokevirtual 62, 3) := by decide +kernel
theorem dX5_play_53 : decode cX5_play 53 = .ok (.astore 5, 2) := by decide +kernel
theorem dX5_play_55 : decode cX5_play 55 = .ok (.aload 5, 2) := by decide +kernel
theorem dX5_play_57 : decode cX5_play 57 = .ok (.ifnonnull 6, 3) := by decide +kernel
theorem dX5_play_60 : decode cX5_play 60 = .ok (.iload 4, 2) := by decide +kernel
theorem dX5_play_62 : decode cX5_play 62 = .ok (.ireturn, 1) := by decide +kernel
theorem dX5_play_63 : decode cX5_play 63 = .ok (.aload_n 0, 1) := by decide +kernel
theorem dX5_play_64 : decode cX5_play 64 = .ok (.aload 5, 2) := by decide +kernel
theorem dX5_play_66 : decode cX5_play 66 = .ok (.invokevirtual 57, 3) := by decide +kernel
theorem dX5_play_69 : decode cX5_play 69 = .ok (.iinc 4 1, 3) := by decide +kernel
theorem dX5_play_72 : decode cX5_play 72 = .ok (.goto (-53), 3) := by decide +kernel
theorem dX5_play_75 : decode cX5_play 75 = .ok (.iload_n 2, 1) := by decide +kernel
theorem dX5_play_76 : decode cX5_play 76 = .ok (.ireturn, 1) := by decide +kernel
set_option maxRecDepth 20000 in
theorem ggX5_told_X5_strandOf : GoodIn wsX5_told wsX5_strandOf := goodIn_r _ [5, 6, 40, 41, 42, 43, 44] (by decide +kernel) (by decide +kernel)
set_option maxRecDepth 20000 in
theorem gX5_told_X5_strandOf : GoodIn wsX5_told (wsV RX5 32 RX5 yX5_strandOf wsX5_strandOf) := goodIn_app (goodIn_of _ (by decide +kernel)) ggX5_told_X5_strandOf
set_option maxRecDepth 20000 in
theorem ggX5_told_X4_state : GoodIn wsX5_told wsX4_state := goodIn_r _ [11, 12, 13, 14, 15, 16, 17, 18, 19, 20, 21, 22, 23, 24, 25, 26, 27, 28, 29, 30, 31, 32, 33, 34, 35, 36, 37, 38, 39] (by decide +kernel) (by decide +kernel)
set_option maxRecDepth 20000 in
theorem gX5_told_X4_state : GoodIn wsX5_told (wsV RX5 50 RX4 yX4_state wsX4_state) := goodIn_app (goodIn_of _ (by decide +kernel)) ggX5_told_X4_state
theorem dX5_told_0 : decode cX5_told 0 = .ok (.aload_n 0, 1) := by decide +kernel
theorem dX5_told_1 : decode cX5_told 1 = .ok (.iload_n 1, 1) := by decide +kernel
theorem dX5_told_2 : decode cX5_told 2 = .ok (.invokevirtual 32, 3) := by decide +kernel
theorem dX5_told_5 : decode cX5_told 5 = .ok (.astore_n 3, 1) := by decide +kernel
theorem dX5_told_6 : decode cX5_told 6 = .ok (.aload_n 3, 1) := by decide +kernel
theorem dX5_told_7 : decode cX5_told 7 = .ok (.ifnonnull 6, 3) := by decide +kernel
theorem dX5_told_10 : decode cX5_told 10 = .ok (.bipush (-2), 2) := by decide +kernel
theorem dX5_told_12 : decode cX5_told 12 = .ok (.ireturn, 1) := by decide +kernel
theorem dX5_told_13 : decode cX5_told 13 = .ok (.iload_n 2, 1) := by decide +kernel
theorem dX5_told_14 : decode cX5_told 14 = .ok (.tableswitch 88 0 6 #[42, 47, 52, 57, 62, 78, 83], 42) := by decide +kernel
theorem dX5_told_56 : decode cX5_told 56 = .ok (.aload_n 3, 1) := by decide +kernel
theorem dX5_told_57 : decode cX5_told 57 = .ok (.invokevirtual 50, 3) := by decide +kernel
theorem dX5_told_60 : decode cX5_told 60 = .ok (.ireturn, 1) := by decide +kernel
theorem dX5_told_61 : decode cX5_told 61 = .ok (.aload_n 3, 1) := by decide +kernel
theorem dX5_told_62 : decode cX5_told 62 = .ok (.getfield 65, 3) := by decide +kernel
theorem dX5_told_65 : decode cX5_told 65 = .ok (.ireturn, 1) := by decide +kernel
theorem dX5_told_66 : decode cX5_told 66 = .ok (.aload_n 3, 1) := by decide +kernel
theorem dX5_told_67 : decode cX5_told 67 = .ok (.getfield 68, 3) := by decide +kernel
theorem dX5_told_70 : decode cX5_told 70 = .ok (.ireturn, 1) := by decide +kernel
theorem dX5_told_71 : decode cX5_told 71 = .ok (.aload_n 3, 1) := by decide +kernel
theorem dX5_told_72 : decode cX5_told 72 = .ok (.getfield 71, 3) := by decide +kernel
theorem dX5_told_75 : decode cX5_told 75 = .ok (.ireturn, 1) := by decide +kernel
theorem dX5_told_76 : decode cX5_told 76 = .ok (.aload_n 3, 1) := by decide +kernel
theorem dX5_told_77 : decode cX5_told 77 = .ok (.getfield 74, 3) := by decide +kernel
theorem dX5_told_80 : decode cX5_told 80 = .ok (.getfield 78, 3) := by decide +kernel
theorem dX5_told_83 : decode cX5_told 83 = .ok (.ifCond .eq 7, 3) := by decide +kernel
theorem dX5_told_86 : decode cX5_told 86 = .ok (.iconst 1, 1) := by decide +kernel
theorem dX5_told_87 : decode cX5_told 87 = .ok (.goto 4, 3) := by decide +kernel
theorem dX5_told_90 : decode cX5_told 90 = .ok (.iconst 0, 1) := by decide +kernel
theorem dX5_told_91 : decode cX5_told 91 = .ok (.ireturn, 1) := by decide +kernel
theorem dX5_told_92 : decode cX5_told 92 = .ok (.aload_n 3, 1) := by decide +kernel
theorem dX5_told_93 : decode cX5_told 93 = .ok (.getfield 40, 3) := by decide +kernel
theorem dX5_told_96 : decode cX5_told 96 = .ok (.ireturn, 1) := by decide +kernel
theorem dX5_told_97 : decode cX5_told 97 = .ok (.aload_n 3, 1) := by decide +kernel
theorem dX5_told_98 : decode cX5_told 98 = .ok (.getfield 84, 3) := by decide +kernel
theorem dX5_told_101 : decode cX5_told 101 = .ok (.ireturn, 1) := by decide +kernel
theorem dX5_told_102 : decode cX5_told 102 = .ok (.bipush (-2), 2) := by decide +kernel
theorem dX5_told_104 : decode cX5_told 104 = .ok (.ireturn, 1) := by decide +kernel
set_option maxRecDepth 20000 in
theorem ggX5_register_X5_strandOf : GoodIn wsX5_register wsX5_strandOf := goodIn_r _ [5, 6, 16, 17, 18, 19, 20] (by decide +kernel) (by decide +kernel)
set_option maxRecDepth 20000 in
theorem gX5_register_X5_strandOf : GoodIn wsX5_register (wsV RX5 32 RX5 yX5_strandOf wsX5_strandOf) := goodIn_app (goodIn_of _ (by decide +kernel)) ggX5_register_X5_strandOf
set_option maxRecDepth 20000 in
theorem ggX5_register_X5_isRegister : GoodIn wsX5_register wsX5_isRegister := goodIn_r _ [9] (by decide +kernel) (by decide +kernel)
set_option maxRecDepth 20000 in
theorem gX5_register_X5_isRegister : GoodIn wsX5_register (va_wsS RX5 87 yX5_isRegister wsX5_isRegister) := goodIn_app (goodIn_of _ (by decide +kernel)) ggX5_register_X5_isRegister
set_option maxRecDepth 20000 in
theorem ggX5_register_X4_held : GoodIn wsX5_register wsX4_held := goodIn_r _ [14, 15, 8, 4, 9, 21, 22, 23, 24, 25, 26, 27, 28, 29, 30, 31, 32, 33, 34, 35] (by decide +kernel) (by decide +kernel)
set_option maxRecDepth 20000 in
theorem gX5_register_X4_held : GoodIn wsX5_register (wsV RX5 91 RX4 yX4_held wsX4_held) := goodIn_app (goodIn_of _ (by decide +kernel)) ggX5_register_X4_held
theorem dX5_register_0 : decode cX5_register 0 = .ok (.aload_n 0, 1) := by decide +kernel
theorem dX5_register_1 : decode cX5_register 1 = .ok (.iload_n 1, 1) := by decide +kernel
theorem dX5_register_2 : decode cX5_register 2 = .ok (.invokevirtual 32, 3) := by decide +kernel
theorem dX5_register_5 : decode cX5_register 5 = .ok (.astore_n 3, 1) := by decide +kernel
theorem dX5_register_6 : decode cX5_register 6 = .ok (.aload_n 3, 1) := by decide +kernel
theorem dX5_register_7 : decode cX5_register 7 = .ok (.ifnull 10, 3) := by decide +kernel
theorem dX5_register_10 : decode cX5_register 10 = .ok (.iload_n 2, 1) := by decide +kernel
theorem dX5_register_11 : decode cX5_register 11 = .ok (.invokestatic 87, 3) := by decide +kernel
theorem dX5_register_14 : decode cX5_register 14 = .ok (.ifCond .ne 8, 3) := by decide +kernel
theorem dX5_register_17 : decode cX5_register 17 = .ok (.bipush (-2), 2) := by decide +kernel
theorem dX5_register_19 : decode cX5_register 19 = .ok (.goto 8, 3) := by decide +kernel
theorem dX5_register_22 : decode cX5_register 22 = .ok (.aload_n 3, 1) := by decide +kernel
theorem dX5_register_23 : decode cX5_register 23 = .ok (.iload_n 2, 1) := by decide +kernel
theorem dX5_register_24 : decode cX5_register 24 = .ok (.invokevirtual 91, 3) := by decide +kernel
theorem dX5_register_27 : decode cX5_register 27 = .ok (.ireturn, 1) := by decide +kernel
set_option maxRecDepth 20000 in
theorem ggX5_cell_X5_isCell : GoodIn wsX5_cell wsX5_isCell := goodIn_r _ [5] (by decide +kernel) (by decide +kernel)
set_option maxRecDepth 20000 in
theorem gX5_cell_X5_isCell : GoodIn wsX5_cell (va_wsS RX5 95 yX5_isCell wsX5_isCell) := goodIn_app (goodIn_of _ (by decide +kernel)) ggX5_cell_X5_isCell
set_option maxRecDepth 20000 in
theorem ggX5_cell_X1_shown : GoodIn wsX5_cell wsX1_shown := goodIn_r _ [10, 11, 12, 3, 4, 5, 18, 19, 20, 21] (by decide +kernel) (by decide +kernel)
set_option maxRecDepth 20000 in
theorem gX5_cell_X1_shown : GoodIn wsX5_cell (wsV RX5 98 RX1 yX1_shown wsX1_shown) := goodIn_app (goodIn_of _ (by decide +kernel)) ggX5_cell_X1_shown
theorem dX5_cell_0 : decode cX5_cell 0 = .ok (.iload_n 1, 1) := by decide +kernel
theorem dX5_cell_1 : decode cX5_cell 1 = .ok (.invokestatic 95, 3) := by decide +kernel
theorem dX5_cell_4 : decode cX5_cell 4 = .ok (.ifCond .eq 14, 3) := by decide +kernel
theorem dX5_cell_7 : decode cX5_cell 7 = .ok (.aload_n 0, 1) := by decide +kernel
theorem dX5_cell_8 : decode cX5_cell 8 = .ok (.getfield 10, 3) := by decide +kernel
theorem dX5_cell_11 : decode cX5_cell 11 = .ok (.iload_n 1, 1) := by decide +kernel
theorem dX5_cell_12 : decode cX5_cell 12 = .ok (.invokevirtual 98, 3) := by decide +kernel
theorem dX5_cell_15 : decode cX5_cell 15 = .ok (.goto 5, 3) := by decide +kernel
theorem dX5_cell_18 : decode cX5_cell 18 = .ok (.bipush (-2), 2) := by decide +kernel
theorem dX5_cell_20 : decode cX5_cell 20 = .ok (.ireturn, 1) := by decide +kernel
set_option maxRecDepth 20000 in
theorem ggX5_lazy_X5_isCell : GoodIn wsX5_lazy wsX5_isCell := goodIn_r _ [5] (by decide +kernel) (by decide +kernel)
set_option maxRecDepth 20000 in
theorem gX5_lazy_X5_isCell : GoodIn wsX5_lazy (va_wsS RX5 95 yX5_isCell wsX5_isCell) := goodIn_app (goodIn_of _ (by decide +kernel)) ggX5_lazy_X5_isCell
set_option maxRecDepth 20000 in
theorem ggX5_lazy_X1_isLazy : GoodIn wsX5_lazy wsX1_isLazy := goodIn_r _ [10, 11, 3, 4, 5, 17, 18, 19, 20] (by decide +kernel) (by decide +kernel)
set_option maxRecDepth 20000 in
theorem gX5_lazy_X1_isLazy : GoodIn wsX5_lazy (wsV RX5 101 RX1 yX1_isLazy wsX1_isLazy) := goodIn_app (goodIn_of _ (by decide +kernel)) ggX5_lazy_X1_isLazy
theorem dX5_lazy_0 : decode cX5_lazy 0 = .ok (.iload_n 1, 1) := by decide +kernel
theorem dX5_lazy_1 : decode cX5_lazy 1 = .ok (.invokestatic 95, 3) := by decide +kernel
theorem dX5_lazy_4 : decode cX5_lazy 4 = .ok (.ifCond .ne 6, 3) := by decide +kernel
theorem dX5_lazy_7 : decode cX5_lazy 7 = .ok (.bipush (-2), 2) := by decide +kernel
theorem dX5_lazy_9 : decode cX5_lazy 9 = .ok (.ireturn, 1) := by decide +kernel
theorem dX5_lazy_10 : decode cX5_lazy 10 = .ok (.aload_n 0, 1) := by decide +kernel
theorem dX5_lazy_11 : decode cX5_lazy 11 = .ok (.getfield 10, 3) := by decide +kernel
theorem dX5_lazy_14 : decode cX5_lazy 14 = .ok (.iload_n 1, 1) := by decide +kernel
theorem dX5_lazy_15 : decode cX5_lazy 15 = .ok (.invokevirtual 101, 3) := by decide +kernel
theorem dX5_lazy_18 : decode cX5_lazy 18 = .ok (.ifCond .eq 7, 3) := by decide +kernel
theorem dX5_lazy_21 : decode cX5_lazy 21 = .ok (.iconst 1, 1) := by decide +kernel
theorem dX5_lazy_22 : decode cX5_lazy 22 = .ok (.goto 4, 3) := by decide +kernel
theorem dX5_lazy_25 : decode cX5_lazy 25 = .ok (.iconst 0, 1) := by decide +kernel
theorem dX5_lazy_26 : decode cX5_lazy 26 = .ok (.ireturn, 1) := by decide +kernel
set_option maxRecDepth 20000 in
theorem ggX5_size_X5_isRow : GoodIn wsX5_size wsX5_isRow := goodIn_r _ [5] (by decide +kernel) (by decide +kernel)
set_option maxRecDepth 20000 in
theorem gX5_size_X5_isRow : GoodIn wsX5_size (va_wsS RX5 104 yX5_isRow wsX5_isRow) := goodIn_app (goodIn_of _ (by decide +kernel)) ggX5_size_X5_isRow
set_option maxRecDepth 20000 in
theorem ggX5_size_X3_length : GoodIn wsX5_size wsX3_length := goodIn_r _ [10, 11, 3, 4, 5, 17, 18, 19] (by decide +kernel) (by decide +kernel)
set_option maxRecDepth 20000 in
theorem gX5_size_X3_length : GoodIn wsX5_size (wsV RX5 107 RX3 yX3_length wsX3_length) := goodIn_app (goodIn_of _ (by decide +kernel)) ggX5_size_X3_length
theorem dX5_size_0 : decode cX5_size 0 = .ok (.iload_n 1, 1) := by decide +kernel
theorem dX5_size_1 : decode cX5_size 1 = .ok (.invokestatic 104, 3) := by decide +kernel
theorem dX5_size_4 : decode cX5_size 4 = .ok (.ifCond .eq 14, 3) := by decide +kernel
theorem dX5_size_7 : decode cX5_size 7 = .ok (.aload_n 0, 1) := by decide +kernel
theorem dX5_size_8 : decode cX5_size 8 = .ok (.getfield 19, 3) := by decide +kernel
theorem dX5_size_11 : decode cX5_size 11 = .ok (.iload_n 1, 1) := by decide +kernel
theorem dX5_size_12 : decode cX5_size 12 = .ok (.invokevirtual 107, 3) := by decide +kernel
theorem dX5_size_15 : decode cX5_size 15 = .ok (.goto 5, 3) := by decide +kernel
theorem dX5_size_18 : decode cX5_size 18 = .ok (.bipush (-2), 2) := by decide +kernel
theorem dX5_size_20 : decode cX5_size 20 = .ok (.ireturn, 1) := by decide +kernel
set_option maxRecDepth 20000 in
theorem ggX5_item_X5_isRow : GoodIn wsX5_item wsX5_isRow := goodIn_r _ [5] (by decide +kernel) (by decide +kernel)
set_option maxRecDepth 20000 in
theorem gX5_item_X5_isRow : GoodIn wsX5_item (va_wsS RX5 104 yX5_isRow wsX5_isRow) := goodIn_app (goodIn_of _ (by decide +kernel)) ggX5_item_X5_isRow
set_option maxRecDepth 20000 in
theorem ggX5_item_X3_itemOf : GoodIn wsX5_item wsX3_itemOf := goodIn_r _ [10, 11, 12, 13, 14, 9, 15, 16, 3, 4, 5, 22, 23, 24] (by decide +kernel) (by decide +kernel)
set_option maxRecDepth 20000 in
theorem gX5_item_X3_itemOf : GoodIn wsX5_item (wsV RX5 110 RX3 yX3_itemOf wsX3_itemOf) := goodIn_app (goodIn_of _ (by decide +kernel)) ggX5_item_X3_itemOf
theorem dX5_item_0 : decode cX5_item 0 = .ok (.iload_n 1, 1) := by decide +kernel
theorem dX5_item_1 : decode cX5_item 1 = .ok (.invokestatic 104, 3) := by decide +kernel
theorem dX5_item_4 : decode cX5_item 4 = .ok (.ifCond .eq 15, 3) := by decide +kernel
theorem dX5_item_7 : decode cX5_item 7 = .ok (.aload_n 0, 1) := by decide +kernel
theorem dX5_item_8 : decode cX5_item 8 = .ok (.getfield 19, 3) := by decide +kernel
theorem dX5_item_11 : decode cX5_item 11 = .ok (.iload_n 1, 1) := by decide +kernel
theorem dX5_item_12 : decode cX5_item 12 = .ok (.iload_n 2, 1) := by decide +kernel
theorem dX5_item_13 : decode cX5_item 13 = .ok (.invokevirtual 110, 3) := by decide +kernel
theorem dX5_item_16 : decode cX5_item 16 = .ok (.goto 5, 3) := by decide +kernel
theorem dX5_item_19 : decode cX5_item 19 = .ok (.bipush (-2), 2) := by decide +kernel
theorem dX5_item_21 : decode cX5_item 21 = .ok (.ireturn, 1) := by decide +kernel
set_option maxRecDepth 20000 in
theorem ggX5_frozen_X5_isRow : GoodIn wsX5_frozen wsX5_isRow := goodIn_r _ [5] (by decide +kernel) (by decide +kernel)
set_option maxRecDepth 20000 in
theorem gX5_frozen_X5_isRow : GoodIn wsX5_frozen (va_wsS RX5 104 yX5_isRow wsX5_isRow) := goodIn_app (goodIn_of _ (by decide +kernel)) ggX5_frozen_X5_isRow
set_option maxRecDepth 20000 in
theorem ggX5_frozen_X3_isFrozen : GoodIn wsX5_frozen wsX3_isFrozen := goodIn_r _ [10, 11, 3, 4, 5, 17, 18, 19] (by decide +kernel) (by decide +kernel)
set_option maxRecDepth 20000 in
theorem gX5_frozen_X3_isFrozen : GoodIn wsX5_frozen (wsV RX5 114 RX3 yX3_isFrozen wsX3_isFrozen) := goodIn_app (goodIn_of _ (by decide +kernel)) ggX5_frozen_X3_isFrozen
theorem dX5_frozen_0 : decode cX5_frozen 0 = .ok (.iload_n 1, 1) := by decide +kernel
theorem dX5_frozen_1 : decode cX5_frozen 1 = .ok (.invokestatic 104, 3) := by decide +kernel
theorem dX5_frozen_4 : decode cX5_frozen 4 = .ok (.ifCond .ne 6, 3) := by decide +kernel
theorem dX5_frozen_7 : decode cX5_frozen 7 = .ok (.bipush (-2), 2) := by decide +kernel
theorem dX5_frozen_9 : decode cX5_frozen 9 = .ok (.ireturn, 1) := by decide +kernel
theorem dX5_frozen_10 : decode cX5_frozen 10 = .ok (.aload_n 0, 1) := by decide +kernel
theorem dX5_frozen_11 : decode cX5_frozen 11 = .ok (.getfield 19, 3) := by decide +kernel
theorem dX5_frozen_14 : decode cX5_frozen 14 = .ok (.iload_n 1, 1) := by decide +kernel
theorem dX5_frozen_15 : decode cX5_frozen 15 = .ok (.invokevirtual 114, 3) := by decide +kernel
theorem dX5_frozen_18 : decode cX5_frozen 18 = .ok (.ifCond .eq 7, 3) := by decide +kernel
theorem dX5_frozen_21 : decode cX5_frozen 21 = .ok (.iconst 1, 1) := by decide +kernel
theorem dX5_frozen_22 : decode cX5_frozen 22 = .ok (.goto 4, 3) := by decide +kernel
theorem dX5_frozen_25 : decode cX5_frozen 25 = .ok (.iconst 0, 1) := by decide +kernel
theorem dX5_frozen_26 : decode cX5_frozen 26 = .ok (.ireturn, 1) := by decide +kernel
set_option maxRecDepth 20000 in
theorem ggX5_put_X5_isCell : GoodIn wsX5_put wsX5_isCell := goodIn_r _ [5] (by decide +kernel) (by decide +kernel)
set_option maxRecDepth 20000 in
theorem gX5_put_X5_isCell : GoodIn wsX5_put (va_wsS RX5 95 yX5_isCell wsX5_isCell) := goodIn_app (goodIn_of _ (by decide +kernel)) ggX5_put_X5_isCell
set_option maxRecDepth 20000 in
theorem ggX5_put_X1_shown : GoodIn wsX5_put wsX1_shown := goodIn_r _ [10, 11, 12, 3, 4, 5, 22, 23, 24, 25] (by decide +kernel) (by decide +kernel)
set_option maxRecDepth 20000 in
theorem gX5_put_X1_shown : GoodIn wsX5_put (wsV RX5 98 RX1 yX1_shown wsX1_shown) := goodIn_app (goodIn_of _ (by decide +kernel)) ggX5_put_X1_shown
set_option maxRecDepth 20000 in
theorem ggX5_put_X1_hold : GoodIn wsX5_put wsX1_hold := goodIn_r _ [16, 12, 11, 22, 23, 24, 25] (by decide +kernel) (by decide +kernel)
set_option maxRecDepth 20000 in
theorem gX5_put_X1_hold : GoodIn wsX5_put (wsV RX5 117 RX1 yX1_hold wsX1_hold) := goodIn_app (goodIn_of _ (by decide +kernel)) ggX5_put_X1_hold
theorem dX5_put_0 : decode cX5_put 0 = .ok (.iload_n 1, 1) := by decide +kernel
theorem dX5_put_1 : decode cX5_put 1 = .ok (.invokestatic 95, 3) := by decide +kernel
theorem dX5_put_4 : decode cX5_put 4 = .ok (.ifCond .ne 6, 3) := by decide +kernel
theorem dX5_put_7 : decode cX5_put 7 = .ok (.bipush (-2), 2) := by decide +kernel
theorem dX5_put_9 : decode cX5_put 9 = .ok (.ireturn, 1) := by decide +kernel
theorem dX5_put_10 : decode cX5_put 10 = .ok (.aload_n 0, 1) := by decide +kernel
theorem dX5_put_11 : decode cX5_put 11 = .ok (.getfield 10, 3) := by decide +kernel
theorem dX5_put_14 : decode cX5_put 14 = .ok (.iload_n 1, 1) := by decide +kernel
theorem dX5_put_15 : decode cX5_put 15 = .ok (.invokevirtual 98, 3) := by decide +kernel
theorem dX5_put_18 : decode cX5_put 18 = .ok (.istore_n 3, 1) := by decide +kernel
theorem dX5_put_19 : decode cX5_put 19 = .ok (.aload_n 0, 1) := by decide +kernel
theorem dX5_put_20 : decode cX5_put 20 = .ok (.getfield 10, 3) := by decide +kernel
theorem dX5_put_23 : decode cX5_put 23 = .ok (.iload_n 1, 1) := by decide +kernel
theorem dX5_put_24 : decode cX5_put 24 = .ok (.iload_n 2, 1) := by decide +kernel
theorem dX5_put_25 : decode cX5_put 25 = .ok (.invokevirtual 117, 3) := by decide +kernel
theorem dX5_put_28 : decode cX5_put 28 = .ok (.iload_n 3, 1) := by decide +kernel
theorem dX5_put_29 : decode cX5_put 29 = .ok (.ireturn, 1) := by decide +kernel
theorem dX5_writes_0 : decode cX5_writes 0 = .ok (.aload_n 0, 1) := by decide +kernel
theorem dX5_writes_1 : decode cX5_writes 1 = .ok (.getfield 10, 3) := by decide +kernel
theorem dX5_writes_4 : decode cX5_writes 4 = .ok (.getfield 121, 3) := by decide +kernel
theorem dX5_writes_7 : decode cX5_writes 7 = .ok (.getfield 125, 3) := by decide +kernel
theorem dX5_writes_10 : decode cX5_writes 10 = .ok (.ireturn, 1) := by decide +kernel
set_option maxRecDepth 20000 in
theorem ggX5_write_X2_tell : GoodIn wsX5_write wsX2_tell := goodIn_r _ [6, 7, 8, 9, 10, 11, 21, 22, 23, 24, 25] (by decide +kernel) (by decide +kernel)
set_option maxRecDepth 20000 in
theorem gX5_write_X2_tell : GoodIn wsX5_write (wsV RX5 130 RX2 yX2_tell wsX2_tell) := goodIn_app (goodIn_of _ (by decide +kernel)) ggX5_write_X2_tell
theorem dX5_write_0 : decode cX5_write 0 = .ok (.iload_n 2, 1) := by decide +kernel
theorem dX5_write_1 : decode cX5_write 1 = .ok (.ifCond .lt 8, 3) := by decide +kernel
theorem dX5_write_4 : decode cX5_write 4 = .ok (.iload_n 2, 1) := by decide +kernel
theorem dX5_write_5 : decode cX5_write 5 = .ok (.iconst 2, 1) := by decide +kernel
theorem dX5_write_6 : decode cX5_write 6 = .ok (.if_icmp .le 8, 3) := by decide +kernel
theorem dX5_write_9 : decode cX5_write 9 = .ok (.bipush (-2), 2) := by decide +kernel
theorem dX5_write_11 : decode cX5_write 11 = .ok (.goto 15, 3) := by decide +kernel
theorem dX5_write_14 : decode cX5_write 14 = .ok (.aload_n 0, 1) := by decide +kernel
theorem dX5_write_15 : decode cX5_write 15 = .ok (.getfield 10, 3) := by decide +kernel
theorem dX5_write_18 : decode cX5_write 18 = .ok (.getfield 121, 3) := by decide +kernel
theorem dX5_write_21 : decode cX5_write 21 = .ok (.iload_n 1, 1) := by decide +kernel
theorem dX5_write_22 : decode cX5_write 22 = .ok (.iload_n 2, 1) := by decide +kernel
theorem dX5_write_23 : decode cX5_write 23 = .ok (.invokevirtual 130, 3) := by decide +kernel
theorem dX5_write_26 : decode cX5_write 26 = .ok (.ireturn, 1) := by decide +kernel
set_option maxRecDepth 20000 in
theorem ggX5_again_X5_restart : GoodIn wsX5_again wsX5_restart := goodIn_r _ [5, 6, 7, 8, 9, 10, 11, 12, 13, 14, 15, 16, 17, 18, 19, 20, 21, 22, 23, 24, 25, 26, 27, 28, 29, 30, 31, 4, 32, 33, 34, 35, 36, 37, 38, 39, 40, 41, 42, 43, 44, 45, 46, 47, 48, 49, 50, 51, 52, 53, 54, 55, 56, 57, 58, 59, 60, 61, 62, 63, 64, 65, 66, 67, 68, 69, 70, 71, 72, 73, 74, 75, 76, 77, 78, 79, 80, 81, 82, 83, 84, 85, 86] (by decide +kernel) (by decide +kernel)
set_option maxRecDepth 20000 in
theorem gX5_again_X5_restart : GoodIn wsX5_again (wsV RX5 133 RX5 yX5_restart wsX5_restart) := goodIn_app (goodIn_of _ (by decide +kernel)) ggX5_again_X5_restart
theorem dX5_again_0 : decode cX5_again 0 = .ok (.aload_n 0, 1) := by decide +kernel
theorem dX5_again_1 : decode cX5_again 1 = .ok (.iconst 1, 1) := by decide +kernel
theorem dX5_again_2 : decode cX5_again 2 = .ok (.invokevirtual 133, 3) := by decide +kernel
theorem dX5_again_5 : decode cX5_again 5 = .ok (.ireturn, 1) := by decide +kernel
set_option maxRecDepth 20000 in
theorem ggX5_clear_X5_restart : GoodIn wsX5_clear wsX5_restart := goodIn_r _ [5, 6, 7, 8, 9, 10, 11, 12, 13, 14, 15, 16, 17, 18, 19, 20, 21, 22, 23, 24, 25, 26, 27, 28, 29, 30, 31, 4, 32, 33, 34, 35, 36, 37, 38, 39, 40, 41, 42, 43, 44, 45, 46, 47, 48, 49, 50, 51, 52, 53, 54, 55, 56, 57, 58, 59, 60, 61, 62, 63, 64, 65, 66, 67, 68, 69, 70, 71, 72, 73, 74, 75, 76, 77, 78, 79, 80, 81, 82, 83, 84, 85, 86] (by decide +kernel) (by decide +kernel)
set_option maxRecDepth 20000 in
theorem gX5_clear_X5_restart : GoodIn wsX5_clear (wsV RX5 133 RX5 yX5_restart wsX5_restart) := goodIn_app (goodIn_of _ (by decide +kernel)) ggX5_clear_X5_restart
theorem dX5_clear_0 : decode cX5_clear 0 = .ok (.aload_n 0, 1) := by decide +kernel
theorem dX5_clear_1 : decode cX5_clear 1 = .ok (.iconst 0, 1) := by decide +kernel
theorem dX5_clear_2 : decode cX5_clear 2 = .ok (.invokevirtual 133, 3) := by decide +kernel
theorem dX5_clear_5 : decode cX5_clear 5 = .ok (.ireturn, 1) := by decide +kernel
set_option maxRecDepth 20000 in
theorem ggX5_restart_X1_reset : GoodIn wsX5_restart wsX1_reset := goodIn_r _ [9, 10, 11, 12, 13, 14, 15, 16, 48, 49, 50, 51, 52, 53, 54, 55, 56] (by decide +kernel) (by decide +kernel)
set_option maxRecDepth 20000 in
theorem gX5_restart_X1_reset : GoodIn wsX5_restart (wsV RX5 140 RX1 yX1_reset wsX1_reset) := goodIn_app (goodIn_of _ (by decide +kernel)) ggX5_restart_X1_reset
set_option maxRecDepth 20000 in
theorem ggX5_restart_X3_reset : GoodIn wsX5_restart wsX3_reset := goodIn_r _ [21, 22, 23, 57, 58, 59] (by decide +kernel) (by decide +kernel)
set_option maxRecDepth 20000 in
theorem gX5_restart_X3_reset : GoodIn wsX5_restart (wsV RX5 143 RX3 yX3_reset wsX3_reset) := goodIn_app (goodIn_of _ (by decide +kernel)) ggX5_restart_X3_reset
set_option maxRecDepth 20000 in
theorem ggX5_restart_X5_strandOf : GoodIn wsX5_restart wsX5_strandOf := goodIn_r _ [28, 4, 43, 44, 45, 46, 47] (by decide +kernel) (by decide +kernel)
set_option maxRecDepth 20000 in
theorem gX5_restart_X5_strandOf : GoodIn wsX5_restart (wsV RX5 32 RX5 yX5_strandOf wsX5_strandOf) := goodIn_app (goodIn_of _ (by decide +kernel)) ggX5_restart_X5_strandOf
set_option maxRecDepth 20000 in
theorem ggX5_restart_X4_reset : GoodIn wsX5_restart wsX4_reset := goodIn_r _ [33, 34, 35, 36, 37, 38, 39, 40, 41, 42, 14, 15, 16, 60, 61, 62, 63, 64, 65, 66, 67, 68, 69, 70, 71, 72, 73, 74, 75, 76, 77, 78, 79, 80, 81, 82] (by decide +kernel) (by decide +kernel)
set_option maxRecDepth 20000 in
theorem gX5_restart_X4_reset : GoodIn wsX5_restart (wsV RX5 144 RX4 yX4_reset wsX4_reset) := goodIn_app (goodIn_of _ (by decide +kernel)) ggX5_restart_X4_reset
theorem dX5_restart_0 : decode cX5_restart 0 = .ok (.aload_n 0, 1) := by decide +kernel
theorem dX5_restart_1 : decode cX5_restart 1 = .ok (.getfield 137, 3) := by decide +kernel
theorem dX5_restart_4 : decode cX5_restart 4 = .ok (.istore_n 2, 1) := by decide +kernel
theorem dX5_restart_5 : decode cX5_restart 5 = .ok (.aload_n 0, 1) := by decide +kernel
theorem dX5_restart_6 : decode cX5_restart 6 = .ok (.iconst 0, 1) := by decide +kernel
theorem dX5_restart_7 : decode cX5_restart 7 = .ok (.putfield 137, 3) := by decide +kernel
theorem dX5_restart_10 : decode cX5_restart 10 = .ok (.aload_n 0, 1) := by decide +kernel
theorem dX5_restart_11 : decode cX5_restart 11 = .ok (.getfield 10, 3) := by decide +kernel
theorem dX5_restart_14 : decode cX5_restart 14 = .ok (.invokevirtual 140, 3) := by decide +kernel
theorem dX5_restart_17 : decode cX5_restart 17 = .ok (.aload_n 0, 1) := by decide +kernel
theorem dX5_restart_18 : decode cX5_restart 18 = .ok (.getfield 19, 3) := by decide +kernel
theorem dX5_restart_21 : decode cX5_restart 21 = .ok (.invokevirtual 143, 3) := by decide +kernel
theorem dX5_restart_24 : decode cX5_restart 24 = .ok (.iconst 0, 1) := by decide +kernel
theorem dX5_restart_25 : decode cX5_restart 25 = .ok (.istore_n 3, 1) := by decide +kernel
theorem dX5_restart_26 : decode cX5_restart 26 = .ok (.iload_n 3, 1) := by decide +kernel
theorem dX5_restart_27 : decode cX5_restart 27 = .ok (.aload_n 0, 1) := by decide +kernel
theorem dX5_restart_28 : decode cX5_restart 28 = .ok (.getfield 25, 3) := by decide +kernel
theorem dX5_restart_31 : decode cX5_restart 31 = .ok (.arraylength, 1) := by decide +kernel
theorem dX5_restart_32 : decode cX5_restart 32 = .ok (.if_icmp .ge 27, 3) := by decide +kernel
theorem dX5_restart_35 : decode cX5_restart 35 = .ok (.aload_n 0, 1) := by decide +kernel
theorem dX5_restart_36 : decode cX5_restart 36 = .ok (.iload_n 3, 1) := by decide +kernel
theorem dX5_restart_37 : decode cX5_restart 37 = .ok (.invokevirtual 32, 3) := by decide +kernel
theorem dX5_restart_40 : decode cX5_restart 40 = .ok (.astore 4, 2) := by decide +kernel
theorem dX5_restart_42 : decode cX5_restart 42 = .ok (.aload 4, 2) := by decide +kernel
theorem dX5_restart_44 : decode cX5_restart 44 = .ok (.ifnull 9, 3) := by decide +kernel
theorem dX5_restart_47 : decode cX5_restart 47 = .ok (.aload 4, 2) := by decide +kernel
theorem dX5_restart_49 : decode cX5_restart 49 = .ok (.iload_n 1, 1) := by decide +kernel
theorem dX5_restart_50 : decode cX5_restart 50 = .ok (.invokevirtual 144, 3) := by decide +kernel
theorem dX5_restart_53 : decode cX5_restart 53 = .ok (.iinc 3 1, 3) := by decide +kernel
theorem dX5_restart_56 : decode cX5_restart 56 = .ok (.goto (-30), 3) := by decide +kernel
theorem dX5_restart_59 : decode cX5_restart 59 = .ok (.iload_n 2, 1) := by decide +kernel
theorem dX5_restart_60 : decode cX5_restart 60 = .ok (.ireturn, 1) := by decide +kernel
theorem dX5_strandOf_0 : decode cX5_strandOf 0 = .ok (.iload_n 1, 1) := by decide +kernel
theorem dX5_strandOf_1 : decode cX5_strandOf 1 = .ok (.ifCond .lt 21, 3) := by decide +kernel
theorem dX5_strandOf_4 : decode cX5_strandOf 4 = .ok (.iload_n 1, 1) := by decide +kernel
theorem dX5_strandOf_5 : decode cX5_strandOf 5 = .ok (.aload_n 0, 1) := by decide +kernel
theorem dX5_strandOf_6 : decode cX5_strandOf 6 = .ok (.getfield 25, 3) := by decide +kernel
theorem dX5_strandOf_9 : decode cX5_strandOf 9 = .ok (.arraylength, 1) := by decide +kernel
theorem dX5_strandOf_10 : decode cX5_strandOf 10 = .ok (.if_icmp .ge 12, 3) := by decide +kernel
theorem dX5_strandOf_13 : decode cX5_strandOf 13 = .ok (.aload_n 0, 1) := by decide +kernel
theorem dX5_strandOf_14 : decode cX5_strandOf 14 = .ok (.getfield 25, 3) := by decide +kernel
theorem dX5_strandOf_17 : decode cX5_strandOf 17 = .ok (.iload_n 1, 1) := by decide +kernel
theorem dX5_strandOf_18 : decode cX5_strandOf 18 = .ok (.aaload, 1) := by decide +kernel
theorem dX5_strandOf_19 : decode cX5_strandOf 19 = .ok (.goto 4, 3) := by decide +kernel
theorem dX5_strandOf_22 : decode cX5_strandOf 22 = .ok (.aconst_null, 1) := by decide +kernel
theorem dX5_strandOf_23 : decode cX5_strandOf 23 = .ok (.areturn, 1) := by decide +kernel
theorem dX5_isRegister_0 : decode cX5_isRegister 0 = .ok (.iload_n 0, 1) := by decide +kernel
theorem dX5_isRegister_1 : decode cX5_isRegister 1 = .ok (.ifCond .lt 12, 3) := by decide +kernel
theorem dX5_isRegister_4 : decode cX5_isRegister 4 = .ok (.iload_n 0, 1) := by decide +kernel
theorem dX5_isRegister_5 : decode cX5_isRegister 5 = .ok (.iconst 4, 1) := by decide +kernel
theorem dX5_isRegister_6 : decode cX5_isRegister 6 = .ok (.if_icmp .ge 7, 3) := by decide +kernel
theorem dX5_isRegister_9 : decode cX5_isRegister 9 = .ok (.iconst 1, 1) := by decide +kernel
theorem dX5_isRegister_10 : decode cX5_isRegister 10 = .ok (.goto 4, 3) := by decide +kernel
theorem dX5_isRegister_13 : decode cX5_isRegister 13 = .ok (.iconst 0, 1) := by decide +kernel
theorem dX5_isRegister_14 : decode cX5_isRegister 14 = .ok (.ireturn, 1) := by decide +kernel
theorem dX5_isCell_0 : decode cX5_isCell 0 = .ok (.iload_n 0, 1) := by decide +kernel
theorem dX5_isCell_1 : decode cX5_isCell 1 = .ok (.ifCond .lt 13, 3) := by decide +kernel
theorem dX5_isCell_4 : decode cX5_isCell 4 = .ok (.iload_n 0, 1) := by decide +kernel
theorem dX5_isCell_5 : decode cX5_isCell 5 = .ok (.bipush 8, 2) := by decide +kernel
theorem dX5_isCell_7 : decode cX5_isCell 7 = .ok (.if_icmp .ge 7, 3) := by decide +kernel
theorem dX5_isCell_10 : decode cX5_isCell 10 = .ok (.iconst 1, 1) := by decide +kernel
theorem dX5_isCell_11 : decode cX5_isCell 11 = .ok (.goto 4, 3) := by decide +kernel
theorem dX5_isCell_14 : decode cX5_isCell 14 = .ok (.iconst 0, 1) := by decide +kernel
theorem dX5_isCell_15 : decode cX5_isCell 15 = .ok (.ireturn, 1) := by decide +kernel
theorem dX5_isRow_0 : decode cX5_isRow 0 = .ok (.iload_n 0, 1) := by decide +kernel
theorem dX5_isRow_1 : decode cX5_isRow 1 = .ok (.ifCond .lt 12, 3) := by decide +kernel
theorem dX5_isRow_4 : decode cX5_isRow 4 = .ok (.iload_n 0, 1) := by decide +kernel
theorem dX5_isRow_5 : decode cX5_isRow 5 = .ok (.iconst 4, 1) := by decide +kernel
theorem dX5_isRow_6 : decode cX5_isRow 6 = .ok (.if_icmp .ge 7, 3) := by decide +kernel
theorem dX5_isRow_9 : decode cX5_isRow 9 = .ok (.iconst 1, 1) := by decide +kernel
theorem dX5_isRow_10 : decode cX5_isRow 10 = .ok (.goto 4, 3) := by decide +kernel
theorem dX5_isRow_13 : decode cX5_isRow 13 = .ok (.iconst 0, 1) := by decide +kernel
theorem dX5_isRow_14 : decode cX5_isRow 14 = .ok (.ireturn, 1) := by decide +kernel
theorem dX5_isPlace_0 : decode cX5_isPlace 0 = .ok (.iload_n 0, 1) := by decide +kernel
theorem dX5_isPlace_1 : decode cX5_isPlace 1 = .ok (.ifCond .lt 13, 3) := by decide +kernel
theorem dX5_isPlace_4 : decode cX5_isPlace 4 = .ok (.iload_n 0, 1) := by decide +kernel
theorem dX5_isPlace_5 : decode cX5_isPlace 5 = .ok (.bipush 24, 2) := by decide +kernel
theorem dX5_isPlace_7 : decode cX5_isPlace 7 = .ok (.if_icmp .gt 7, 3) := by decide +kernel
theorem dX5_isPlace_10 : decode cX5_isPlace 10 = .ok (.iconst 1, 1) := by decide +kernel
theorem dX5_isPlace_11 : decode cX5_isPlace 11 = .ok (.goto 4, 3) := by decide +kernel
theorem dX5_isPlace_14 : decode cX5_isPlace 14 = .ok (.iconst 0, 1) := by decide +kernel
theorem dX5_isPlace_15 : decode cX5_isPlace 15 = .ok (.ireturn, 1) := by decide +kernel
set_option maxRecDepth 20000 in
theorem ggX5_mayBe_X5_isRegister : GoodIn wsX5_mayBe wsX5_isRegister := goodIn_r _ [4] (by decide +kernel) (by decide +kernel)
set_option maxRecDepth 20000 in
theorem gX5_mayBe_X5_isRegister : GoodIn wsX5_mayBe (va_wsS RX5 87 yX5_isRegister wsX5_isRegister) := goodIn_app (goodIn_of _ (by decide +kernel)) ggX5_mayBe_X5_isRegister
set_option maxRecDepth 20000 in
theorem ggX5_mayBe_X5_isCell : GoodIn wsX5_mayBe wsX5_isCell := goodIn_r _ [7] (by decide +kernel) (by decide +kernel)
set_option maxRecDepth 20000 in
theorem gX5_mayBe_X5_isCell : GoodIn wsX5_mayBe (va_wsS RX5 95 yX5_isCell wsX5_isCell) := goodIn_app (goodIn_of _ (by decide +kernel)) ggX5_mayBe_X5_isCell
set_option maxRecDepth 20000 in
theorem ggX5_mayBe_X5_isRow : GoodIn wsX5_mayBe wsX5_isRow := goodIn_r _ [10] (by decide +kernel) (by decide +kernel)
set_option maxRecDepth 20000 in
theorem gX5_mayBe_X5_isRow : GoodIn wsX5_mayBe (va_wsS RX5 104 yX5_isRow wsX5_isRow) := goodIn_app (goodIn_of _ (by decide +kernel)) ggX5_mayBe_X5_isRow
set_option maxRecDepth 20000 in
theorem ggX5_mayBe_X5_isPlace : GoodIn wsX5_mayBe wsX5_isPlace := goodIn_r _ [13] (by decide +kernel) (by decide +kernel)
set_option maxRecDepth 20000 in
theorem gX5_mayBe_X5_isPlace : GoodIn wsX5_mayBe (va_wsS RX5 147 yX5_isPlace wsX5_isPlace) := goodIn_app (goodIn_of _ (by decide +kernel)) ggX5_mayBe_X5_isPlace
theorem dX5_mayBe_0 : decode cX5_mayBe 0 = .ok (.iload_n 0, 1) := by decide +kernel
theorem dX5_mayBe_1 : decode cX5_mayBe 1 = .ok (.tableswitch 320 0 19 #[95, 100, 120, 140, 140, 140, 140, 167, 194, 221, 248, 253, 273, 273, 248, 273, 95, 275, 295, 300], 95) := by decide +kernel
theorem dX5_mayBe_96 : decode cX5_mayBe 96 = .ok (.iload_n 1, 1) := by decide +kernel
theorem dX5_mayBe_97 : decode cX5_mayBe 97 = .ok (.invokestatic 87, 3) := by decide +kernel
theorem dX5_mayBe_100 : decode cX5_mayBe 100 = .ok (.ireturn, 1) := by decide +kernel
theorem dX5_mayBe_101 : decode cX5_mayBe 101 = .ok (.iload_n 1, 1) := by decide +kernel
theorem dX5_mayBe_102 : decode cX5_mayBe 102 = .ok (.invokestatic 87, 3) := by decide +kernel
theorem dX5_mayBe_105 : decode cX5_mayBe 105 = .ok (.ifCond .eq 14, 3) := by decide +kernel
theorem dX5_mayBe_108 : decode cX5_mayBe 108 = .ok (.iload_n 2, 1) := by decide +kernel
theorem dX5_mayBe_109 : decode cX5_mayBe 109 = .ok (.invokestatic 95, 3) := by decide +kernel
theorem dX5_mayBe_112 : decode cX5_mayBe 112 = .ok (.ifCond .eq 7, 3) := by decide +kernel
theorem dX5_mayBe_115 : decode cX5_mayBe 115 = .ok (.iconst 1, 1) := by decide +kernel
theorem dX5_mayBe_116 : decode cX5_mayBe 116 = .ok (.goto 4, 3) := by decide +kernel
theorem dX5_mayBe_119 : decode cX5_mayBe 119 = .ok (.iconst 0, 1) := by decide +kernel
theorem dX5_mayBe_120 : decode cX5_mayBe 120 = .ok (.ireturn, 1) := by decide +kernel
theorem dX5_mayBe_121 : decode cX5_mayBe 121 = .ok (.iload_n 1, 1) := by decide +kernel
theorem dX5_mayBe_122 : decode cX5_mayBe 122 = .ok (.invokestatic 95, 3) := by decide +kernel
theorem dX5_mayBe_125 : decode cX5_mayBe 125 = .ok (.ifCond .eq 14, 3) := by decide +kernel
theorem dX5_mayBe_128 : decode cX5_mayBe 128 = .ok (.iload_n 2, 1) := by decide +kernel
theorem dX5_mayBe_129 : decode cX5_mayBe 129 = .ok (.invokestatic 87, 3) := by decide +kernel
theorem dX5_mayBe_132 : decode cX5_mayBe 132 = .ok (.ifCond .eq 7, 3) := by decide +kernel
theorem dX5_mayBe_135 : decode cX5_mayBe 135 = .ok (.iconst 1, 1) := by decide +kernel
theorem dX5_mayBe_136 : decode cX5_mayBe 136 = .ok (.goto 4, 3) := by decide +kernel
theorem dX5_mayBe_139 : decode cX5_mayBe 139 = .ok (.iconst 0, 1) := by decide +kernel
theorem dX5_mayBe_140 : decode cX5_mayBe 140 = .ok (.ireturn, 1) := by decide +kernel
theorem dX5_mayBe_141 : decode cX5_mayBe 141 = .ok (.iload_n 1, 1) := by decide +kernel
theorem dX5_mayBe_142 : decode cX5_mayBe 142 = .ok (.invokestatic 87, 3) := by decide +kernel
theorem dX5_mayBe_145 : decode cX5_mayBe 145 = .ok (.ifCond .eq 21, 3) := by decide +kernel
theorem dX5_mayBe_148 : decode cX5_mayBe 148 = .ok (.iload_n 2, 1) := by decide +kernel
theorem dX5_mayBe_149 : decode cX5_mayBe 149 = .ok (.invokestatic 87, 3) := by decide +kernel
theorem dX5_mayBe_152 : decode cX5_mayBe 152 = .ok (.ifCond .eq 14, 3) := by decide +kernel
theorem dX5_mayBe_155 : decode cX5_mayBe 155 = .ok (.iload_n 3, 1) := by decide +kernel
theorem dX5_mayBe_156 : decode cX5_mayBe 156 = .ok (.invokestatic 87, 3) := by decide +kernel
theorem dX5_mayBe_159 : decode cX5_mayBe 159 = .ok (.ifCond .eq 7, 3) := by decide +kernel
theorem dX5_mayBe_162 : decode cX5_mayBe 162 = .ok (.iconst 1, 1) := by decide +kernel
theorem dX5_mayBe_163 : decode cX5_mayBe 163 = .ok (.goto 4, 3) := by decide +kernel
theorem dX5_mayBe_166 : decode cX5_mayBe 166 = .ok (.iconst 0, 1) := by decide +kernel
theorem dX5_mayBe_167 : decode cX5_mayBe 167 = .ok (.ireturn, 1) := by decide +kernel
theorem dX5_mayBe_168 : decode cX5_mayBe 168 = .ok (.iload_n 1, 1) := by decide +kernel
theorem dX5_mayBe_169 : decode cX5_mayBe 169 = .ok (.invokestatic 87, 3) := by decide +kernel
theorem dX5_mayBe_172 : decode cX5_mayBe 172 = .ok (.ifCond .eq 21, 3) := by decide +kernel
theorem dX5_mayBe_175 : decode cX5_mayBe 175 = .ok (.iload_n 2, 1) := by decide +kernel
theorem dX5_mayBe_176 : decode cX5_mayBe 176 = .ok (.invokestatic 104, 3) := by decide +kernel
theorem dX5_mayBe_179 : decode cX5_mayBe 179 = .ok (.ifCond .eq 14, 3) := by decide +kernel
theorem dX5_mayBe_182 : decode cX5_mayBe 182 = .ok (.iload_n 3, 1) := by decide +kernel
theorem dX5_mayBe_183 : decode cX5_mayBe 183 = .ok (.invokestatic 87, 3) := by decide +kernel
theorem dX5_mayBe_186 : decode cX5_mayBe 186 = .ok (.ifCond .eq 7, 3) := by decide +kernel
theorem dX5_mayBe_189 : decode cX5_mayBe 189 = .ok (.iconst 1, 1) := by decide +kernel
theorem dX5_mayBe_190 : decode cX5_mayBe 190 = .ok (.goto 4, 3) := by decide +kernel
theorem dX5_mayBe_193 : decode cX5_mayBe 193 = .ok (.iconst 0, 1) := by decide +kernel
theorem dX5_mayBe_194 : decode cX5_mayBe 194 = .ok (.ireturn, 1) := by decide +kernel
theorem dX5_mayBe_195 : decode cX5_mayBe 195 = .ok (.iload_n 1, 1) := by decide +kernel
theorem dX5_mayBe_196 : decode cX5_mayBe 196 = .ok (.invokestatic 104, 3) := by decide +kernel
theorem dX5_mayBe_199 : decode cX5_mayBe 199 = .ok (.ifCond .eq 21, 3) := by decide +kernel
theorem dX5_mayBe_202 : decode cX5_mayBe 202 = .ok (.iload_n 2, 1) := by decide +kernel
theorem dX5_mayBe_203 : decode cX5_mayBe 203 = .ok (.invokestatic 87, 3) := by decide +kernel
theorem dX5_mayBe_206 : decode cX5_mayBe 206 = .ok (.ifCond .eq 14, 3) := by decide +kernel
theorem dX5_mayBe_209 : decode cX5_mayBe 209 = .ok (.iload_n 3, 1) := by decide +kernel
theorem dX5_mayBe_210 : decode cX5_mayBe 210 = .ok (.invokestatic 87, 3) := by decide +kernel
theorem dX5_mayBe_213 : decode cX5_mayBe 213 = .ok (.ifCond .eq 7, 3) := by decide +kernel
theorem dX5_mayBe_216 : decode cX5_mayBe 216 = .ok (.iconst 1, 1) := by decide +kernel
theorem dX5_mayBe_217 : decode cX5_mayBe 217 = .ok (.goto 4, 3) := by decide +kernel
theorem dX5_mayBe_220 : decode cX5_mayBe 220 = .ok (.iconst 0, 1) := by decide +kernel
theorem dX5_mayBe_221 : decode cX5_mayBe 221 = .ok (.ireturn, 1) := by decide +kernel
theorem dX5_mayBe_222 : decode cX5_mayBe 222 = .ok (.iload_n 1, 1) := by decide +kernel
theorem dX5_mayBe_223 : decode cX5_mayBe 223 = .ok (.invokestatic 95, 3) := by decide +kernel
theorem dX5_mayBe_226 : decode cX5_mayBe 226 = .ok (.ifCond .eq 21, 3) := by decide +kernel
theorem dX5_mayBe_229 : decode cX5_mayBe 229 = .ok (.iload_n 2, 1) := by decide +kernel
theorem dX5_mayBe_230 : decode cX5_mayBe 230 = .ok (.invokestatic 87, 3) := by decide +kernel
theorem dX5_mayBe_233 : decode cX5_mayBe 233 = .ok (.ifCond .eq 14, 3) := by decide +kernel
theorem dX5_mayBe_236 : decode cX5_mayBe 236 = .ok (.iload_n 3, 1) := by decide +kernel
theorem dX5_mayBe_237 : decode cX5_mayBe 237 = .ok (.invokestatic 87, 3) := by decide +kernel
theorem dX5_mayBe_240 : decode cX5_mayBe 240 = .ok (.ifCond .eq 7, 3) := by decide +kernel
theorem dX5_mayBe_243 : decode cX5_mayBe 243 = .ok (.iconst 1, 1) := by decide +kernel
theorem dX5_mayBe_244 : decode cX5_mayBe 244 = .ok (.goto 4, 3) := by decide +kernel
theorem dX5_mayBe_247 : decode cX5_mayBe 247 = .ok (.iconst 0, 1) := by decide +kernel
theorem dX5_mayBe_248 : decode cX5_mayBe 248 = .ok (.ireturn, 1) := by decide +kernel
theorem dX5_mayBe_249 : decode cX5_mayBe 249 = .ok (.iload_n 1, 1) := by decide +kernel
theorem dX5_mayBe_250 : decode cX5_mayBe 250 = .ok (.invokestatic 147, 3) := by decide +kernel
theorem dX5_mayBe_253 : decode cX5_mayBe 253 = .ok (.ireturn, 1) := by decide +kernel
theorem dX5_mayBe_254 : decode cX5_mayBe 254 = .ok (.iload_n 1, 1) := by decide +kernel
theorem dX5_mayBe_255 : decode cX5_mayBe 255 = .ok (.invokestatic 87, 3) := by decide +kernel
theorem dX5_mayBe_258 : decode cX5_mayBe 258 = .ok (.ifCond .eq 14, 3) := by decide +kernel
theorem dX5_mayBe_261 : decode cX5_mayBe 261 = .ok (.iload_n 2, 1) := by decide +kernel
theorem dX5_mayBe_262 : decode cX5_mayBe 262 = .ok (.invokestatic 147, 3) := by decide +kernel
theorem dX5_mayBe_265 : decode cX5_mayBe 265 = .ok (.ifCond .eq 7, 3) := by decide +kernel
theorem dX5_mayBe_268 : decode cX5_mayBe 268 = .ok (.iconst 1, 1) := by decide +kernel
theorem dX5_mayBe_269 : decode cX5_mayBe 269 = .ok (.goto 4, 3) := by decide +kernel
theorem dX5_mayBe_272 : decode cX5_mayBe 272 = .ok (.iconst 0, 1) := by decide +kernel
theorem dX5_mayBe_273 : decode cX5_mayBe 273 = .ok (.ireturn, 1) := by decide +kernel
theorem dX5_mayBe_274 : decode cX5_mayBe 274 = .ok (.iconst 1, 1) := by decide +kernel
theorem dX5_mayBe_275 : decode cX5_mayBe 275 = .ok (.ireturn, 1) := by decide +kernel
theorem dX5_mayBe_276 : decode cX5_mayBe 276 = .ok (.iload_n 1, 1) := by decide +kernel
theorem dX5_mayBe_277 : decode cX5_mayBe 277 = .ok (.invokestatic 104, 3) := by decide +kernel
theorem dX5_mayBe_280 : decode cX5_mayBe 280 = .ok (.ifCond .eq 14, 3) := by decide +kernel
theorem dX5_mayBe_283 : decode cX5_mayBe 283 = .ok (.iload_n 2, 1) := by decide +kernel
theorem dX5_mayBe_284 : decode cX5_mayBe 284 = .ok (.invokestatic 87, 3) := by decide +kernel
theorem dX5_mayBe_287 : decode cX5_mayBe 287 = .ok (.ifCond .eq 7, 3) := by decide +kernel
theorem dX5_mayBe_290 : decode cX5_mayBe 290 = .ok (.iconst 1, 1) := by decide +kernel
theorem dX5_mayBe_291 : decode cX5_mayBe 291 = .ok (.goto 4, 3) := by decide +kernel
theorem dX5_mayBe_294 : decode cX5_mayBe 294 = .ok (.iconst 0, 1) := by decide +kernel
theorem dX5_mayBe_295 : decode cX5_mayBe 295 = .ok (.ireturn, 1) := by decide +kernel
theorem dX5_mayBe_296 : decode cX5_mayBe 296 = .ok (.iload_n 1, 1) := by decide +kernel
theorem dX5_mayBe_297 : decode cX5_mayBe 297 = .ok (.invokestatic 104, 3) := by decide +kernel
theorem dX5_mayBe_300 : decode cX5_mayBe 300 = .ok (.ireturn, 1) := by decide +kernel
theorem dX5_mayBe_301 : decode cX5_mayBe 301 = .ok (.iload_n 1, 1) := by decide +kernel
theorem dX5_mayBe_302 : decode cX5_mayBe 302 = .ok (.invokestatic 95, 3) := by decide +kernel
theorem dX5_mayBe_305 : decode cX5_mayBe 305 = .ok (.ifCond .eq 14, 3) := by decide +kernel
theorem dX5_mayBe_308 : decode cX5_mayBe 308 = .ok (.iload_n 2, 1) := by decide +kernel
theorem dX5_mayBe_309 : decode cX5_mayBe 309 = .ok (.invokestatic 95, 3) := by decide +kernel
theorem dX5_mayBe_312 : decode cX5_mayBe 312 = .ok (.ifCond .eq 7, 3) := by decide +kernel
theorem dX5_mayBe_315 : decode cX5_mayBe 315 = .ok (.iconst 1, 1) := by decide +kernel
theorem dX5_mayBe_316 : decode cX5_mayBe 316 = .ok (.goto 4, 3) := by decide +kernel
theorem dX5_mayBe_319 : decode cX5_mayBe 319 = .ok (.iconst 0, 1) := by decide +kernel
theorem dX5_mayBe_320 : decode cX5_mayBe 320 = .ok (.ireturn, 1) := by decide +kernel
theorem dX5_mayBe_321 : decode cX5_mayBe 321 = .ok (.iconst 0, 1) := by decide +kernel
theorem dX5_mayBe_322 : decode cX5_mayBe 322 = .ok (.ireturn, 1) := by decide +kernel
set_option maxRecDepth 20000 in
theorem ggX5_drawn_X5_goes : GoodIn wsX5_drawn wsX5_goes := goodIn_r _ [6, 7, 8, 9, 5, 10, 1, 11, 12, 13, 14, 15, 16, 17, 18, 19, 20, 21, 22, 23, 24, 25, 26, 27, 28, 29, 30, 31, 32, 33, 34, 35, 36, 37, 38, 39, 40, 41, 42, 43, 44, 45, 46, 47, 48] (by decide +kernel) (by decide +kernel)
set_option maxRecDepth 20000 in
theorem gX5_drawn_X5_goes : GoodIn wsX5_drawn (wsV RX5 150 RX5 yX5_goes wsX5_goes) := goodIn_app (goodIn_of _ (by decide +kernel)) ggX5_drawn_X5_goes
set_option maxRecDepth 20000 in
theorem ggX5_drawn_X5_strandOf : GoodIn wsX5_drawn wsX5_strandOf := goodIn_r _ [10, 1, 21, 22, 23, 24, 25] (by decide +kernel) (by decide +kernel)
set_option maxRecDepth 20000 in
theorem gX5_drawn_X5_strandOf : GoodIn wsX5_drawn (wsV RX5 32 RX5 yX5_strandOf wsX5_strandOf) := goodIn_app (goodIn_of _ (by decide +kernel)) ggX5_drawn_X5_strandOf
theorem dX5_drawn_0 : decode cX5_drawn 0 = .ok (.iconst 0, 1) := by decide +kernel
theorem dX5_drawn_1 : decode cX5_drawn 1 = .ok (.istore_n 2, 1) := by decide +kernel
theorem dX5_drawn_2 : decode cX5_drawn 2 = .ok (.iconst 0, 1) := by decide +kernel
theorem dX5_drawn_3 : decode cX5_drawn 3 = .ok (.istore_n 3, 1) := by decide +kernel
theorem dX5_drawn_4 : decode cX5_drawn 4 = .ok (.iload_n 3, 1) := by decide +kernel
theorem dX5_drawn_5 : decode cX5_drawn 5 = .ok (.aload_n 0, 1) := by decide +kernel
theorem dX5_drawn_6 : decode cX5_drawn 6 = .ok (.getfield 25, 3) := by decide +kernel
theorem dX5_drawn_9 : decode cX5_drawn 9 = .ok (.arraylength, 1) := by decide +kernel
theorem dX5_drawn_10 : decode cX5_drawn 10 = .ok (.if_icmp .ge 20, 3) := by decide +kernel
theorem dX5_drawn_13 : decode cX5_drawn 13 = .ok (.aload_n 0, 1) := by decide +kernel
theorem dX5_drawn_14 : decode cX5_drawn 14 = .ok (.iload_n 3, 1) := by decide +kernel
theorem dX5_drawn_15 : decode cX5_drawn 15 = .ok (.invokevirtual 150, 3) := by decide +kernel
theorem dX5_drawn_18 : decode cX5_drawn 18 = .ok (.ifCond .eq 6, 3) := by decide +kernel
theorem dX5_drawn_21 : decode cX5_drawn 21 = .ok (.iinc 2 1, 3) := by decide +kernel
theorem dX5_drawn_24 : decode cX5_drawn 24 = .ok (.iinc 3 1, 3) := by decide +kernel
theorem dX5_drawn_27 : decode cX5_drawn 27 = .ok (.goto (-23), 3) := by decide +kernel
theorem dX5_drawn_30 : decode cX5_drawn 30 = .ok (.iload_n 2, 1) := by decide +kernel
theorem dX5_drawn_31 : decode cX5_drawn 31 = .ok (.ifCond .ne 5, 3) := by decide +kernel
theorem dX5_drawn_34 : decode cX5_drawn 34 = .ok (.aconst_null, 1) := by decide +kernel
theorem dX5_drawn_35 : decode cX5_drawn 35 = .ok (.areturn, 1) := by decide +kernel
theorem dX5_drawn_36 : decode cX5_drawn 36 = .ok (.iload_n 1, 1) := by decide +kernel
theorem dX5_drawn_37 : decode cX5_drawn 37 = .ok (.bipush 16, 2) := by decide +kernel
theorem dX5_drawn_39 : decode cX5_drawn 39 = .ok (.iushr, 1) := by decide +kernel
theorem dX5_drawn_40 : decode cX5_drawn 40 = .ok (.iload_n 2, 1) := by decide +kernel
theorem dX5_drawn_41 : decode cX5_drawn 41 = .ok (.irem, 1) := by decide +kernel
theorem dX5_drawn_42 : decode cX5_drawn 42 = .ok (.istore_n 3, 1) := by decide +kernel
theorem dX5_drawn_43 : decode cX5_drawn 43 = .ok (.iconst 0, 1) := by decide +kernel
theorem dX5_drawn_44 : decode cX5_drawn 44 = .ok (.istore 4, 2) := by decide +kernel
theorem dX5_drawn_46 : decode cX5_drawn 46 = .ok (.iload 4, 2) := by decide +kernel
theorem dX5_drawn_48 : decode cX5_drawn 48 = .ok (.aload_n 0, 1) := by decide +kernel
theorem dX5_drawn_49 : decode cX5_drawn 49 = .ok (.getfield 25, 3) := by decide +kernel
theorem dX5_drawn_52 : decode cX5_drawn 52 = .ok (.arraylength, 1) := by decide +kernel
theorem dX5_drawn_53 : decode cX5_drawn 53 = .ok (.if_icmp .ge 32, 3) := by decide +kernel
theorem dX5_drawn_56 : decode cX5_drawn 56 = .ok (.aload_n 0, 1) := by decide +kernel
theorem dX5_drawn_57 : decode cX5_drawn 57 = .ok (.iload 4, 2) := by decide +kernel
theorem dX5_drawn_59 : decode cX5_drawn 59 = .ok (.invokevirtual 150, 3) := by decide +kernel
theorem dX5_drawn_62 : decode cX5_drawn 62 = .ok (.ifCond .eq 17, 3) := by decide +kernel
theorem dX5_drawn_65 : decode cX5_drawn 65 = .ok (.iload_n 3, 1) := by decide +kernel
theorem dX5_drawn_66 : decode cX5_drawn 66 = .ok (.iinc 3 (-1), 3) := by decide +kernel
theorem dX5_drawn_69 : decode cX5_drawn 69 = .ok (.ifCond .ne 10, 3) := by decide +kernel
theorem dX5_drawn_72 : decode cX5_drawn 72 = .ok (.aload_n 0, 1) := by decide +kernel
theorem dX5_drawn_73 : decode cX5_drawn 73 = .ok (.iload 4, 2) := by decide +kernel
theorem dX5_drawn_75 : decode cX5_drawn 75 = .ok (.invokevirtual 32, 3) := by decide +kernel
theorem dX5_drawn_78 : decode cX5_drawn 78 = .ok (.areturn, 1) := by decide +kernel
theorem dX5_drawn_79 : decode cX5_drawn 79 = .ok (.iinc 4 1, 3) := by decide +kernel
theorem dX5_drawn_82 : decode cX5_drawn 82 = .ok (.goto (-36), 3) := by decide +kernel
theorem dX5_drawn_85 : decode cX5_drawn 85 = .ok (.aconst_null, 1) := by decide +kernel
theorem dX5_drawn_86 : decode cX5_drawn 86 = .ok (.areturn, 1) := by decide +kernel
set_option maxRecDepth 20000 in
theorem ggX5_goes_X5_strandOf : GoodIn wsX5_goes wsX5_strandOf := goodIn_r _ [5, 6, 17, 18, 19, 20, 21] (by decide +kernel) (by decide +kernel)
set_option maxRecDepth 20000 in
theorem gX5_goes_X5_strandOf : GoodIn wsX5_goes (wsV RX5 32 RX5 yX5_strandOf wsX5_strandOf) := goodIn_app (goodIn_of _ (by decide +kernel)) ggX5_goes_X5_strandOf
set_option maxRecDepth 20000 in
theorem ggX5_goes_X4_state : GoodIn wsX5_goes wsX4_state := goodIn_r _ [11, 12, 13, 14, 15, 16, 22, 23, 24, 25, 26, 27, 28, 29, 30, 31, 32, 33, 34, 35, 36, 37, 38, 39, 40, 41, 42, 43, 44] (by decide +kernel) (by decide +kernel)
set_option maxRecDepth 20000 in
theorem gX5_goes_X4_state : GoodIn wsX5_goes (wsV RX5 50 RX4 yX4_state wsX4_state) := goodIn_app (goodIn_of _ (by decide +kernel)) ggX5_goes_X4_state
theorem dX5_goes_0 : decode cX5_goes 0 = .ok (.aload_n 0, 1) := by decide +kernel
theorem dX5_goes_1 : decode cX5_goes 1 = .ok (.iload_n 1, 1) := by decide +kernel
theorem dX5_goes_2 : decode cX5_goes 2 = .ok (.invokevirtual 32, 3) := by decide +kernel
theorem dX5_goes_5 : decode cX5_goes 5 = .ok (.astore_n 2, 1) := by decide +kernel
theorem dX5_goes_6 : decode cX5_goes 6 = .ok (.aload_n 2, 1) := by decide +kernel
theorem dX5_goes_7 : decode cX5_goes 7 = .ok (.ifnull 14, 3) := by decide +kernel
theorem dX5_goes_10 : decode cX5_goes 10 = .ok (.aload_n 2, 1) := by decide +kernel
theorem dX5_goes_11 : decode cX5_goes 11 = .ok (.invokevirtual 50, 3) := by decide +kernel
theorem dX5_goes_14 : decode cX5_goes 14 = .ok (.ifCond .ne 7, 3) := by decide +kernel
theorem dX5_goes_17 : decode cX5_goes 17 = .ok (.iconst 1, 1) := by decide +kernel
theorem dX5_goes_18 : decode cX5_goes 18 = .ok (.goto 4, 3) := by decide +kernel
theorem dX5_goes_21 : decode cX5_goes 21 = .ok (.iconst 0, 1) := by decide +kernel
theorem dX5_goes_22 : decode cX5_goes 22 = .ok (.ireturn, 1) := by decide +kernel
set_option maxRecDepth 20000 in
theorem ggX5_takeTurn_X5_perform : GoodIn wsX5_takeTurn wsX5_perform := goodIn_r _ [7, 8, 9, 10, 11, 6, 12, 13, 14, 15, 16, 17, 18, 19, 20, 21, 22, 23, 24, 25, 26, 27, 28, 29, 30, 31, 32, 33, 34, 35, 36, 37, 38, 39, 40, 41, 42, 43, 44, 45, 46, 47, 48, 49, 50, 51, 52, 53, 54, 55, 56, 57, 58, 59, 60, 61, 62, 63, 64, 65, 66, 67, 68, 69, 70, 71, 72, 73, 74, 75, 76, 77, 78, 79, 80, 81, 82, 83, 84, 85, 86, 87, 88, 89, 90, 91, 92, 93, 94, 95, 96, 97, 98, 99, 100, 101, 102, 103, 104, 105, 106, 107, 108, 109, 110, 111, 112, 113, 114, 115, 116, 117, 118, 119, 120, 121, 122, 123, 124, 125, 126, 127, 128, 129, 130, 131, 132, 133, 134, 135, 136, 137, 138, 139, 140, 141, 142, 143, 144, 145, 146, 147, 148, 149, 150, 151, 152, 153, 154, 155, 156, 157, 158, 159, 160, 161, 162, 163, 164, 165, 166, 167, 168, 169, 170, 171, 172, 173, 174, 175, 176, 177, 178, 179, 180, 181, 182, 183, 184, 185, 186, 187, 188, 189, 190, 191, 192, 193, 194, 195, 196, 197, 198, 199, 200, 201, 202, 203, 204, 205, 206, 207, 208, 209, 210, 211, 212, 213, 214, 215, 216, 217, 218, 230, 231, 232, 233, 234, 235, 236, 237, 238, 239, 240, 241, 242, 243, 244, 245, 246, 247, 248, 249, 250, 251, 252, 225, 226, 227, 228, 229, 253, 254, 255, 256, 257, 258, 259, 260, 261, 262, 263, 264] (by decide +kernel) (by decide +kernel)
set_option maxRecDepth 20000 in
theorem gX5_takeTurn_X5_perform : GoodIn wsX5_takeTurn (wsV RX5 156 RX5 yX5_perform wsX5_perform) := goodIn_app (goodIn_of _ (by decide +kernel)) ggX5_takeTurn_X5_perform
set_option maxRecDepth 20000 in
theorem ggX5_takeTurn_X4_fail : GoodIn wsX5_takeTurn wsX4_fail := goodIn_r _ [222, 209, 223, 166, 214, 224, 199, 86, 87, 88, 89, 90, 91, 6, 92, 230, 231, 232, 233, 234, 235, 236, 237, 238, 239, 240, 241, 242, 243, 244, 245, 246, 247, 248, 249, 250, 251, 252] (by decide +kernel) (by decide +kernel)
set_option maxRecDepth 20000 in
theorem gX5_takeTurn_X4_fail : GoodIn wsX5_takeTurn (wsV RX5 160 RX4 yX4_fail wsX4_fail) := goodIn_app (goodIn_of _ (by decide +kernel)) ggX5_takeTurn_X4_fail
theorem dX5_takeTurn_0 : decode cX5_takeTurn 0 = .ok (.aload_n 0, 1) := by decide +kernel
theorem dX5_takeTurn_1 : decode cX5_takeTurn 1 = .ok (.dup, 1) := by decide +kernel
theorem dX5_takeTurn_2 : decode cX5_takeTurn 2 = .ok (.getfield 137, 3) := by decide +kernel
theorem dX5_takeTurn_5 : decode cX5_takeTurn 5 = .ok (.iconst 1, 1) := by decide +kernel
theorem dX5_takeTurn_6 : decode cX5_takeTurn 6 = .ok (.iadd, 1) := by decide +kernel
theorem dX5_takeTurn_7 : decode cX5_takeTurn 7 = .ok (.putfield 137, 3) := by decide +kernel
theorem dX5_takeTurn_10 : decode cX5_takeTurn 10 = .ok (.aload_n 1, 1) := by decide +kernel
theorem dX5_takeTurn_11 : decode cX5_takeTurn 11 = .ok (.dup, 1) := by decide +kernel
theorem dX5_takeTurn_12 : decode cX5_takeTurn 12 = .ok (.getfield 40, 3) := by decide +kernel
theorem dX5_takeTurn_15 : decode cX5_takeTurn 15 = .ok (.iconst 1, 1) := by decide +kernel
theorem dX5_takeTurn_16 : decode cX5_takeTurn 16 = .ok (.iadd, 1) := by decide +kernel
theorem dX5_takeTurn_17 : decode cX5_takeTurn 17 = .ok (.putfield 40, 3) := by decide +kernel
theorem dX5_takeTurn_20 : decode cX5_takeTurn 20 = .ok (.aload_n 1, 1) := by decide +kernel
theorem dX5_takeTurn_21 : decode cX5_takeTurn 21 = .ok (.aload_n 1, 1) := by decide +kernel
theorem dX5_takeTurn_22 : decode cX5_takeTurn 22 = .ok (.getfield 65, 3) := by decide +kernel
theorem dX5_takeTurn_25 : decode cX5_takeTurn 25 = .ok (.iconst 1, 1) := by decide +kernel
theorem dX5_takeTurn_26 : decode cX5_takeTurn 26 = .ok (.iadd, 1) := by decide +kernel
theorem dX5_takeTurn_27 : decode cX5_takeTurn 27 = .ok (.putfield 153, 3) := by decide +kernel
theorem dX5_takeTurn_30 : decode cX5_takeTurn 30 = .ok (.aload_n 0, 1) := by decide +kernel
theorem dX5_takeTurn_31 : decode cX5_takeTurn 31 = .ok (.aload_n 1, 1) := by decide +kernel
theorem dX5_takeTurn_32 : decode cX5_takeTurn 32 = .ok (.invokevirtual 156, 3) := by decide +kernel
theorem dX5_takeTurn_35 : decode cX5_takeTurn 35 = .ok (.istore_n 2, 1) := by decide +kernel
theorem dX5_takeTurn_36 : decode cX5_takeTurn 36 = .ok (.iload_n 2, 1) := by decide +kernel
theorem dX5_takeTurn_37 : decode cX5_takeTurn 37 = .ok (.ifCond .ne 14, 3) := by decide +kernel
theorem dX5_takeTurn_40 : decode cX5_takeTurn 40 = .ok (.aload_n 1, 1) := by decide +kernel
theorem dX5_takeTurn_41 : decode cX5_takeTurn 41 = .ok (.aload_n 1, 1) := by decide +kernel
theorem dX5_takeTurn_42 : decode cX5_takeTurn 42 = .ok (.getfield 153, 3) := by decide +kernel
theorem dX5_takeTurn_45 : decode cX5_takeTurn 45 = .ok (.putfield 65, 3) := by decide +kernel
theorem dX5_takeTurn_48 : decode cX5_takeTurn 48 = .ok (.goto 18, 3) := by decide +kernel
theorem dX5_takeTurn_51 : decode cX5_takeTurn 51 = .ok (.aload_n 0, 1) := by decide +kernel
theorem dX5_takeTurn_52 : decode cX5_takeTurn 52 = .ok (.dup, 1) := by decide +kernel
theorem dX5_takeTurn_53 : decode cX5_takeTurn 53 = .ok (.getfield 54, 3) := by decide +kernel
theorem dX5_takeTurn_56 : decode cX5_takeTurn 56 = .ok (.iconst 1, 1) := by decide +kernel
theorem dX5_takeTurn_57 : decode cX5_takeTurn 57 = .ok (.iadd, 1) := by decide +kernel
theorem dX5_takeTurn_58 : decode cX5_takeTurn 58 = .ok (.putfield 54, 3) := by decide +kernel
theorem dX5_takeTurn_61 : decode cX5_takeTurn 61 = .ok (.aload_n 1, 1) := by decide +kernel
theorem dX5_takeTurn_62 : decode cX5_takeTurn 62 = .ok (.iload_n 2, 1) := by decide +kernel
theorem dX5_takeTurn_63 : decode cX5_takeTurn 63 = .ok (.invokevirtual 160, 3) := by decide +kernel
theorem dX5_takeTurn_66 : decode cX5_takeTurn 66 = .ok (.return_, 1) := by decide +kernel
set_option maxRecDepth 20000 in
theorem ggX5_perform_X5_isBarredFromAtoms : GoodIn wsX5_perform wsX5_isBarredFromAtoms := goodIn_r _ [6] (by decide +kernel) (by decide +kernel)
set_option maxRecDepth 20000 in
theorem gX5_perform_X5_isBarredFromAtoms : GoodIn wsX5_perform (va_wsS RX5 176 yX5_isBarredFromAtoms wsX5_isBarredFromAtoms) := goodIn_app (goodIn_of _ (by decide +kernel)) ggX5_perform_X5_isBarredFromAtoms
set_option maxRecDepth 20000 in
theorem ggX5_perform_X5_getCell : GoodIn wsX5_perform wsX5_getCell := goodIn_r _ [10, 11, 12, 13, 5, 14, 2, 15, 16, 17, 18, 19, 20, 21, 22, 23, 24, 25, 26, 27, 28, 29, 30, 31, 32, 33, 34, 35, 36, 37, 38, 39, 40, 41, 42, 43, 44, 45, 46, 47, 48, 49, 50, 51, 52, 53, 54, 55, 56, 57, 58, 59, 60, 61, 62, 63, 64, 65, 66, 67, 68, 69, 70, 71, 72, 73, 74, 75, 76, 77, 78, 79, 80, 81, 82, 83, 84, 85, 86, 213, 214, 215, 216, 217, 218, 219, 220, 221, 222, 223, 224, 225, 226, 227, 228, 229, 230, 231, 232, 233, 234, 235, 236, 237, 238, 239, 240, 241, 242, 243, 244, 245, 246, 247, 248, 249] (by decide +kernel) (by decide +kernel)
set_option maxRecDepth 20000 in
theorem gX5_perform_X5_getCell : GoodIn wsX5_perform (wsV RX5 179 RX5 yX5_getCell wsX5_getCell) := goodIn_app (goodIn_of _ (by decide +kernel)) ggX5_perform_X5_getCell
set_option maxRecDepth 20000 in
theorem ggX5_perform_X4_held : GoodIn wsX5_perform wsX4_held := goodIn_r _ [90, 84, 85, 5, 86, 213, 214, 215, 216, 217, 218, 219, 220, 221, 222, 223, 224, 225, 226, 227] (by decide +kernel) (by decide +kernel)
set_option maxRecDepth 20000 in
theorem gX5_perform_X4_held : GoodIn wsX5_perform (wsV RX5 91 RX4 yX4_held wsX4_held) := goodIn_app (goodIn_of _ (by decide +kernel)) ggX5_perform_X4_held
set_option maxRecDepth 20000 in
theorem ggX5_perform_X5_putCell : GoodIn wsX5_perform wsX5_putCell := goodIn_r _ [94, 2, 95, 96, 97, 26, 98, 28, 71, 21, 5, 22, 99, 49, 50, 18, 51, 52, 53, 54, 55, 56, 38, 20, 57, 58, 59, 60, 61, 62, 63, 64, 65, 66, 213, 214, 215, 216, 217, 218, 219, 220, 221, 222, 223, 224, 225, 226, 227, 228, 229, 230, 231, 232, 233, 234, 235, 236, 237, 238, 239, 240, 241, 242, 243, 244, 245, 246, 247, 248, 249] (by decide +kernel) (by decide +kernel)
set_option maxRecDepth 20000 in
theorem gX5_perform_X5_putCell : GoodIn wsX5_perform (wsV RX5 183 RX5 yX5_putCell wsX5_putCell) := goodIn_app (goodIn_of _ (by decide +kernel)) ggX5_perform_X5_putCell
set_option maxRecDepth 20000 in
theorem ggX5_perform_X5_loadItem : GoodIn wsX5_perform wsX5_loadItem := goodIn_r _ [103, 1, 104, 105, 106, 107, 108, 109, 110, 111, 112, 113, 114, 5, 115, 116, 117, 118, 119, 120, 121, 122, 123, 124, 79, 80, 81, 82, 83, 84, 85, 86, 236, 237, 238, 239, 240, 250, 251, 252, 213, 214, 215, 216, 217, 218, 219, 220, 221, 222, 223, 224, 225, 226, 227] (by decide +kernel) (by decide +kernel)
set_option maxRecDepth 20000 in
theorem gX5_perform_X5_loadItem : GoodIn wsX5_perform (wsV RX5 187 RX5 yX5_loadItem wsX5_loadItem) := goodIn_app (goodIn_of _ (by decide +kernel)) ggX5_perform_X5_loadItem
set_option maxRecDepth 20000 in
theorem ggX5_perform_X3_store : GoodIn wsX5_perform wsX3_store := goodIn_r _ [128, 124, 129, 105, 106, 107, 108, 109, 110, 111, 112, 113, 114, 5, 115, 116, 117, 118, 119, 130, 131, 132, 133, 134, 250, 251, 252] (by decide +kernel) (by decide +kernel)
set_option maxRecDepth 20000 in
theorem gX5_perform_X3_store : GoodIn wsX5_perform (wsV RX5 191 RX3 yX3_store wsX3_store) := goodIn_app (goodIn_of _ (by decide +kernel)) ggX5_perform_X3_store
set_option maxRecDepth 20000 in
theorem ggX5_perform_X5_swapCell : GoodIn wsX5_perform wsX5_swapCell := goodIn_r _ [138, 11, 12, 13, 5, 14, 2, 15, 16, 17, 18, 19, 20, 21, 22, 23, 24, 25, 26, 27, 28, 29, 30, 31, 32, 33, 34, 35, 36, 37, 38, 39, 40, 41, 42, 43, 44, 45, 46, 47, 48, 49, 50, 51, 52, 53, 54, 55, 56, 57, 58, 59, 60, 61, 62, 63, 64, 65, 66, 67, 68, 69, 70, 71, 72, 73, 74, 75, 76, 77, 78, 87, 88, 89, 82, 90, 84, 85, 86, 91, 92, 93, 94, 95, 96, 97, 98, 99, 79, 80, 81, 83, 213, 214, 215, 216, 217, 218, 219, 220, 221, 222, 223, 224, 225, 226, 227, 228, 229, 230, 231, 232, 233, 234, 235, 236, 237, 238, 239, 240, 241, 242, 243, 244, 245, 246, 247, 248, 249] (by decide +kernel) (by decide +kernel)
set_option maxRecDepth 20000 in
theorem gX5_perform_X5_swapCell : GoodIn wsX5_perform (wsV RX5 195 RX5 yX5_swapCell wsX5_swapCell) := goodIn_app (goodIn_of _ (by decide +kernel)) ggX5_perform_X5_swapCell
set_option maxRecDepth 20000 in
theorem ggX5_perform_X5_endAtom : GoodIn wsX5_perform wsX5_endAtom := goodIn_r _ [142, 2, 143, 144, 145, 5, 146, 147, 148, 149, 26, 150, 77, 21, 22, 15, 16, 17, 18, 19, 20, 72, 35, 36, 37, 38, 151, 152, 153, 154, 78, 155, 156, 157, 82, 158, 159, 160, 161, 84, 162, 163, 164, 165, 166, 167, 168, 169, 28, 23, 24, 25, 27, 67, 68, 69, 70, 71, 99, 49, 50, 51, 52, 53, 54, 55, 56, 57, 58, 59, 60, 61, 62, 63, 64, 65, 66, 213, 214, 215, 216, 217, 218, 219, 220, 221, 222, 223, 224, 225, 226, 227, 228, 229, 230, 231, 232, 233, 234, 235, 236, 237, 238, 239, 240, 241, 242, 243, 244, 245, 246, 247, 248, 249] (by decide +kernel) (by decide +kernel)
set_option maxRecDepth 20000 in
theorem gX5_perform_X5_endAtom : GoodIn wsX5_perform (wsV RX5 198 RX5 yX5_endAtom wsX5_endAtom) := goodIn_app (goodIn_of _ (by decide +kernel)) ggX5_perform_X5_endAtom
set_option maxRecDepth 20000 in
theorem ggX5_perform_X3_make : GoodIn wsX5_perform wsX3_make := goodIn_r _ [173, 124, 113, 134, 114, 5, 115, 174, 175, 176, 177, 178, 179, 180, 250, 251, 252] (by decide +kernel) (by decide +kernel)
set_option maxRecDepth 20000 in
theorem gX5_perform_X3_make : GoodIn wsX5_perform (wsV RX5 201 RX3 yX3_make wsX3_make) := goodIn_app (goodIn_of _ (by decide +kernel)) ggX5_perform_X3_make
set_option maxRecDepth 20000 in
theorem ggX5_perform_X3_freeze : GoodIn wsX5_perform wsX3_freeze := goodIn_r _ [184, 113, 134, 114, 5, 115, 250, 251, 252] (by decide +kernel) (by decide +kernel)
set_option maxRecDepth 20000 in
theorem gX5_perform_X3_freeze : GoodIn wsX5_perform (wsV RX5 204 RX3 yX3_freeze wsX3_freeze) := goodIn_app (goodIn_of _ (by decide +kernel)) ggX5_perform_X3_freeze
set_option maxRecDepth 20000 in
theorem ggX5_perform_X1_defer : GoodIn wsX5_perform wsX1_defer := goodIn_r _ [188, 20, 21, 5, 22, 241, 242, 243, 244] (by decide +kernel) (by decide +kernel)
set_option maxRecDepth 20000 in
theorem gX5_perform_X1_defer : GoodIn wsX5_perform (wsV RX5 207 RX1 yX1_defer wsX1_defer) := goodIn_app (goodIn_of _ (by decide +kernel)) ggX5_perform_X1_defer
set_option maxRecDepth 20000 in
theorem ggX5_perform_X4_performAlone : GoodIn wsX5_perform wsX4_performAlone := goodIn_r _ [192, 161, 193, 80, 81, 82, 83, 84, 85, 5, 86, 194, 88, 89, 90, 195, 196, 197, 198, 199, 200, 201, 202, 160, 203, 162, 163, 164, 165, 166, 167, 168, 26, 169, 28, 77, 204, 205, 206, 207, 208, 209, 210, 211, 212, 213, 214, 215, 216, 217, 218, 219, 220, 221, 222, 223, 224, 225, 226, 227, 228, 229, 230, 231, 232, 233, 234, 235] (by decide +kernel) (by decide +kernel)
set_option maxRecDepth 20000 in
theorem gX5_perform_X4_performAlone : GoodIn wsX5_perform (wsV RX5 210 RX4 yX4_performAlone wsX4_performAlone) := goodIn_app (goodIn_of _ (by decide +kernel)) ggX5_perform_X4_performAlone
theorem dX5_perform_0 : decode cX5_perform 0 = .ok (.aload_n 1, 1) := by decide +kernel
theorem dX5_perform_1 : decode cX5_perform 1 = .ok (.getfield 65, 3) := by decide +kernel
theorem dX5_perform_4 : decode cX5_perform 4 = .ok (.istore_n 2, 1) := by decide +kernel
theorem dX5_perform_5 : decode cX5_perform 5 = .ok (.iload_n 2, 1) := by decide +kernel
theorem dX5_perform_6 : decode cX5_perform 6 = .ok (.ifCond .lt 17, 3) := by decide +kernel
theorem dX5_perform_9 : decode cX5_perform 9 = .ok (.iload_n 2, 1) := by decide +kernel
theorem dX5_perform_10 : decode cX5_perform 10 = .ok (.aload_n 1, 1) := by decide +kernel
theorem dX5_perform_11 : decode cX5_perform 11 = .ok (.getfield 47, 3) := by decide +kernel
theorem dX5_perform_14 : decode cX5_perform 14 = .ok (.if_icmp .ge 9, 3) := by decide +kernel
theorem dX5_perform_17 : decode cX5_perform 17 = .ok (.iload_n 2, 1) := by decide +kernel
theorem dX5_perform_18 : decode cX5_perform 18 = .ok (.bipush 24, 2) := by decide +kernel
theorem dX5_perform_20 : decode cX5_perform 20 = .ok (.if_icmp .lt 5, 3) := by decide +kernel
theorem dX5_perform_23 : decode cX5_perform 23 = .ok (.iconst 5, 1) := by decide +kernel
theorem dX5_perform_24 : decode cX5_perform 24 = .ok (.ireturn, 1) := by decide +kernel
theorem dX5_perform_25 : decode cX5_perform 25 = .ok (.aload_n 1, 1) := by decide +kernel
theorem dX5_perform_26 : decode cX5_perform 26 = .ok (.getfield 163, 3) := by decide +kernel
theorem dX5_perform_29 : decode cX5_perform 29 = .ok (.iload_n 2, 1) := by decide +kernel
theorem dX5_perform_30 : decode cX5_perform 30 = .ok (.iaload, 1) := by decide +kernel
theorem dX5_perform_31 : decode cX5_perform 31 = .ok (.istore_n 3, 1) := by decide +kernel
theorem dX5_perform_32 : decode cX5_perform 32 = .ok (.aload_n 1, 1) := by decide +kernel
theorem dX5_perform_33 : decode cX5_perform 33 = .ok (.getfield 167, 3) := by decide +kernel
theorem dX5_perform_36 : decode cX5_perform 36 = .ok (.iload_n 2, 1) := by decide +kernel
theorem dX5_perform_37 : decode cX5_perform 37 = .ok (.iaload, 1) := by decide +kernel
theorem dX5_perform_38 : decode cX5_perform 38 = .ok (.istore 4, 2) := by decide +kernel
theorem dX5_perform_40 : decode cX5_perform 40 = .ok (.aload_n 1, 1) := by decide +kernel
theorem dX5_perform_41 : decode cX5_perform 41 = .ok (.getfield 170, 3) := by decide +kernel
theorem dX5_perform_44 : decode cX5_perform 44 = .ok (.iload_n 2, 1) := by decide +kernel
theorem dX5_perform_45 : decode cX5_perform 45 = .ok (.iaload, 1) := by decide +kernel
theorem dX5_perform_46 : decode cX5_perform 46 = .ok (.istore 5, 2) := by decide +kernel
theorem dX5_perform_48 : decode cX5_perform 48 = .ok (.aload_n 1, 1) := by decide +kernel
theorem dX5_perform_49 : decode cX5_perform 49 = .ok (.getfield 173, 3) := by decide +kernel
theorem dX5_perform_52 : decode cX5_perform 52 = .ok (.iload_n 2, 1) := by decide +kernel
theorem dX5_perform_53 : decode cX5_perform 53 = .ok (.iaload, 1) := by decide +kernel
theorem dX5_perform_54 : decode cX5_perform 54 = .ok (.istore 6, 2) := by decide +kernel
theorem dX5_perform_56 : decode cX5_perform 56 = .ok (.aload_n 1, 1) := by decide +kernel
theorem dX5_perform_57 : decode cX5_perform 57 = .ok (.getfield 74, 3) := by decide +kernel
theorem dX5_perform_60 : decode cX5_perform 60 = .ok (.getfield 78, 3) := by decide +kernel
theorem dX5_perform_63 : decode cX5_perform 63 = .ok (.ifCond .eq 12, 3) := by decide +kernel
theorem dX5_perform_66 : decode cX5_perform 66 = .ok (.iload_n 3, 1) := by decide +kernel
theorem dX5_perform_67 : decode cX5_perform 67 = .ok (.invokestatic 176, 3) := by decide +kernel
theorem dX5_perform_70 : decode cX5_perform 70 = .ok (.ifCond .eq 5, 3) := by decide +kernel
theorem dX5_perform_73 : decode cX5_perform 73 = .ok (.iconst 5, 1) := by decide +kernel
theorem dX5_perform_74 : decode cX5_perform 74 = .ok (.ireturn, 1) := by decide +kernel
theorem dX5_perform_75 : decode cX5_perform 75 = .ok (.iload_n 3, 1) := by decide +kernel
theorem dX5_perform_76 : decode cX5_perform 76 = .ok (.tableswitch 212 1 19 #[92, 102, 212, 212, 212, 212, 117, 133, 155, 212, 212, 212, 167, 212, 212, 212, 173, 189, 199], 92) := by decide +kernel
theorem dX5_perform_168 : decode cX5_perform 168 = .ok (.aload_n 0, 1) := by decide +kernel
theorem dX5_perform_169 : decode cX5_perform 169 = .ok (.aload_n 1, 1) := by decide +kernel
theorem dX5_perform_170 : decode cX5_perform 170 = .ok (.iload 4, 2) := by decide +kernel
theorem dX5_perform_172 : decode cX5_perform 172 = .ok (.iload 5, 2) := by decide +kernel
theorem dX5_perform_174 : decode cX5_perform 174 = .ok (.invokevirtual 179, 3) := by decide +kernel
theorem dX5_perform_177 : decode cX5_perform 177 = .ok (.ireturn, 1) := by decide +kernel
theorem dX5_perform_178 : decode cX5_perform 178 = .ok (.aload_n 0, 1) := by decide +kernel
theorem dX5_perform_179 : decode cX5_perform 179 = .ok (.aload_n 1, 1) := by decide +kernel
theorem dX5_perform_180 : decode cX5_perform 180 = .ok (.iload 4, 2) := by decide +kernel
theorem dX5_perform_182 : decode cX5_perform 182 = .ok (.aload_n 1, 1) := by decide +kernel
theorem dX5_perform_183 : decode cX5_perform 183 = .ok (.iload 5, 2) := by decide +kernel
theorem dX5_perform_185 : decode cX5_perform 185 = .ok (.invokevirtual 91, 3) := by decide +kernel
theorem dX5_perform_188 : decode cX5_perform 188 = .ok (.invokevirtual 183, 3) := by decide +kernel
theorem dX5_perform_191 : decode cX5_perform 191 = .ok (.iconst 0, 1) := by decide +kernel
theorem dX5_perform_192 : decode cX5_perform 192 = .ok (.ireturn, 1) := by decide +kernel
theorem dX5_perform_193 : decode cX5_perform 193 = .ok (.aload_n 0, 1) := by decide +kernel
theorem dX5_perform_194 : decode cX5_perform 194 = .ok (.aload_n 1, 1) := by decide +kernel
theorem dX5_perform_195 : decode cX5_perform 195 = .ok (.iload 4, 2) := by decide +kernel
theorem dX5_perform_197 : decode cX5_perform 197 = .ok (.iload 5, 2) := by decide +kernel
theorem dX5_perform_199 : decode cX5_perform 199 = .ok (.aload_n 1, 1) := by decide +kernel
theorem dX5_perform_200 : decode cX5_perform 200 = .ok (.iload 6, 2) := by decide +kernel
theorem dX5_perform_202 : decode cX5_perform 202 = .ok (.invokevirtual 91, 3) := by decide +kernel
theorem dX5_perform_205 : decode cX5_perform 205 = .ok (.invokevirtual 187, 3) := by decide +kernel
theorem dX5_perform_208 : decode cX5_perform 208 = .ok (.ireturn, 1) := by decide +kernel
theorem dX5_perform_209 : decode cX5_perform 209 = .ok (.aload_n 0, 1) := by decide +kernel
theorem dX5_perform_210 : decode cX5_perform 210 = .ok (.getfield 19, 3) := by decide +kernel
theorem dX5_perform_213 : decode cX5_perform 213 = .ok (.iload 4, 2) := by decide +kernel
theorem dX5_perform_215 : decode cX5_perform 215 = .ok (.aload_n 1, 1) := by decide +kernel
theorem dX5_perform_216 : decode cX5_perform 216 = .ok (.iload 5, 2) := by decide +kernel
theorem dX5_perform_218 : decode cX5_perform 218 = .ok (.invokevirtual 91, 3) := by decide +kernel
theorem dX5_perform_221 : decode cX5_perform 221 = .ok (.aload_n 1, 1) := by decide +kernel
theorem dX5_perform_222 : decode cX5_perform 222 = .ok (.iload 6, 2) := by decide +kernel
theorem dX5_perform_224 : decode cX5_perform 224 = .ok (.invokevirtual 91, 3) := by decide +kernel
theorem dX5_perform_227 : decode cX5_perform 227 = .ok (.invokevirtual 191, 3) := by decide +kernel
theorem dX5_perform_230 : decode cX5_perform 230 = .ok (.ireturn, 1) := by decide +kernel
theorem dX5_perform_231 : decode cX5_perform 231 = .ok (.aload_n 0, 1) := by decide +kernel
theorem dX5_perform_232 : decode cX5_perform 232 = .ok (.aload_n 1, 1) := by decide +kernel
theorem dX5_perform_233 : decode cX5_perform 233 = .ok (.iload 4, 2) := by decide +kernel
theorem dX5_perform_235 : decode cX5_perform 235 = .ok (.iload 5, 2) := by decide +kernel
theorem dX5_perform_237 : decode cX5_perform 237 = .ok (.iload 6, 2) := by decide +kernel
theorem dX5_perform_239 : decode cX5_perform 239 = .ok (.invokevirtual 195, 3) := by decide +kernel
theorem dX5_perform_242 : decode cX5_perform 242 = .ok (.ireturn, 1) := by decide +kernel
theorem dX5_perform_243 : decode cX5_perform 243 = .ok (.aload_n 0, 1) := by decide +kernel
theorem dX5_perform_244 : decode cX5_perform 244 = .ok (.aload_n 1, 1) := by decide +kernel
theorem dX5_perform_245 : decode cX5_perform 245 = .ok (.invokevirtual 198, 3) := by decide +kernel
theorem dX5_perform_248 : decode cX5_perform 248 = .ok (.ireturn, 1) := by decide +kernel
theorem dX5_perform_249 : decode cX5_perform 249 = .ok (.aload_n 0, 1) := by decide +kernel
theorem dX5_perform_250 : decode cX5_perform 250 = .ok (.getfield 19, 3) := by decide +kernel
theorem dX5_perform_253 : decode cX5_perform 253 = .ok (.iload 4, 2) := by decide +kernel
theorem dX5_perform_255 : decode cX5_perform 255 = .ok (.aload_n 1, 1) := by decide +kernel
theorem dX5_perform_256 : decode cX5_perform 256 = .ok (.iload 5, 2) := by decide +kernel
theorem dX5_perform_258 : decode cX5_perform 258 = .ok (.invokevirtual 91, 3) := by decide +kernel
theorem dX5_perform_261 : decode cX5_perform 261 = .ok (.invokevirtual 201, 3) := by decide +kernel
theorem dX5_perform_264 : decode cX5_perform 264 = .ok (.ireturn, 1) := by decide +kernel
theorem dX5_perform_265 : decode cX5_perform 265 = .ok (.aload_n 0, 1) := by decide +kernel
theorem dX5_perform_266 : decode cX5_perform 266 = .ok (.getfield 19, 3) := by decide +kernel
theorem dX5_perform_269 : decode cX5_perform 269 = .ok (.iload 4, 2) := by decide +kernel
theorem dX5_perform_271 : decode cX5_perform 271 = .ok (.invokevirtual 204, 3) := by decide +kernel
theorem dX5_perform_274 : decode cX5_perform 274 = .ok (.ireturn, 1) := by decide +kernel
theorem dX5_perform_275 : decode cX5_perform 275 = .ok (.aload_n 0, 1) := by decide +kernel
theorem dX5_perform_276 : decode cX5_perform 276 = .ok (.getfield 10, 3) := by decide +kernel
theorem dX5_perform_279 : decode cX5_perform 279 = .ok (.iload 4, 2) := by decide +kernel
theorem dX5_perform_281 : decode cX5_perform 281 = .ok (.iload 5, 2) := by decide +kernel
theorem dX5_perform_283 : decode cX5_perform 283 = .ok (.invokevirtual 207, 3) := by decide +kernel
theorem dX5_perform_286 : decode cX5_perform 286 = .ok (.iconst 0, 1) := by decide +kernel
theorem dX5_perform_287 : decode cX5_perform 287 = .ok (.ireturn, 1) := by decide +kernel
theorem dX5_perform_288 : decode cX5_perform 288 = .ok (.aload_n 1, 1) := by decide +kernel
theorem dX5_perform_289 : decode cX5_perform 289 = .ok (.iload_n 3, 1) := by decide +kernel
theorem dX5_perform_290 : decode cX5_perform 290 = .ok (.iload 4, 2) := by decide +kernel
theorem dX5_perform_292 : decode cX5_perform 292 = .ok (.iload 5, 2) := by decide +kernel
theorem dX5_perform_294 : decode cX5_perform 294 = .ok (.iload 6, 2) := by decide +kernel
theorem dX5_perform_296 : decode cX5_perform 296 = .ok (.invokevirtual 210, 3) := by decide +kernel
theorem dX5_perform_299 : decode cX5_perform 299 = .ok (.ireturn, 1) := by decide +kernel
theorem dX5_isBarredFromAtoms_0 : decode cX5_isBarredFromAtoms 0 = .ok (.iload_n 0, 1) := by decide +kernel
theorem dX5_isBarredFromAtoms_1 : decode cX5_isBarredFromAtoms 1 = .ok (.bipush 7, 2) := by decide +kernel
theorem dX5_isBarredFromAtoms_3 : decode cX5_isBarredFromAtoms 3 = .ok (.if_icmp .eq 27, 3) := by decide +kernel
theorem dX5_isBarredFromAtoms_6 : decode cX5_isBarredFromAtoms 6 = .ok (.iload_n 0, 1) := by decide +kernel
theorem dX5_isBarredFromAtoms_7 : decode cX5_isBarredFromAtoms 7 = .ok (.bipush 8, 2) := by decide +kernel
theorem dX5_isBarredFromAtoms_9 : decode cX5_isBarredFromAtoms 9 = .ok (.if_icmp .eq 21, 3) := by decide +kernel
theorem dX5_isBarredFromAtoms_12 : decode cX5_isBarredFromAtoms 12 = .ok (.iload_n 0, 1) := by decide +kernel
theorem dX5_isBarredFromAtoms_13 : decode cX5_isBarredFromAtoms 13 = .ok (.bipush 17, 2) := by decide +kernel
theorem dX5_isBarredFromAtoms_15 : decode cX5_isBarredFromAtoms 15 = .ok (.if_icmp .eq 15, 3) := by decide +kernel
theorem dX5_isBarredFromAtoms_18 : decode cX5_isBarredFromAtoms 18 = .ok (.iload_n 0, 1) := by decide +kernel
theorem dX5_isBarredFromAtoms_19 : decode cX5_isBarredFromAtoms 19 = .ok (.bipush 18, 2) := by decide +kernel
theorem dX5_isBarredFromAtoms_21 : decode cX5_isBarredFromAtoms 21 = .ok (.if_icmp .eq 9, 3) := by decide +kernel
theorem dX5_isBarredFromAtoms_24 : decode cX5_isBarredFromAtoms 24 = .ok (.iload_n 0, 1) := by decide +kernel
theorem dX5_isBarredFromAtoms_25 : decode cX5_isBarredFromAtoms 25 = .ok (.bipush 19, 2) := by decide +kernel
theorem dX5_isBarredFromAtoms_27 : decode cX5_isBarredFromAtoms 27 = .ok (.if_icmp .ne 7, 3) := by decide +kernel
theorem dX5_isBarredFromAtoms_30 : decode cX5_isBarredFromAtoms 30 = .ok (.iconst 1, 1) := by decide +kernel
theorem dX5_isBarredFromAtoms_31 : decode cX5_isBarredFromAtoms 31 = .ok (.goto 4, 3) := by decide +kernel
theorem dX5_isBarredFromAtoms_34 : decode cX5_isBarredFromAtoms 34 = .ok (.iconst 0, 1) := by decide +kernel
theorem dX5_isBarredFromAtoms_35 : decode cX5_isBarredFromAtoms 35 = .ok (.ireturn, 1) := by decide +kernel
set_option maxRecDepth 20000 in
theorem ggX5_loadItem_X3_failureAt : GoodIn wsX5_loadItem wsX3_failureAt := goodIn_r _ [6, 7, 8, 9, 5, 10, 11, 12, 13, 14, 15, 16, 17, 18, 37, 38, 39] (by decide +kernel) (by decide +kernel)
set_option maxRecDepth 20000 in
theorem gX5_loadItem_X3_failureAt : GoodIn wsX5_loadItem (wsV RX5 214 RX3 yX3_failureAt wsX3_failureAt) := goodIn_app (goodIn_of _ (by decide +kernel)) ggX5_loadItem_X3_failureAt
set_option maxRecDepth 20000 in
theorem ggX5_loadItem_X3_itemOf : GoodIn wsX5_loadItem wsX3_itemOf := goodIn_r _ [22, 23, 15, 16, 17, 5, 18, 11, 12, 13, 14, 37, 38, 39] (by decide +kernel) (by decide +kernel)
set_option maxRecDepth 20000 in
theorem gX5_loadItem_X3_itemOf : GoodIn wsX5_loadItem (wsV RX5 110 RX3 yX3_itemOf wsX3_itemOf) := goodIn_app (goodIn_of _ (by decide +kernel)) ggX5_loadItem_X3_itemOf
set_option maxRecDepth 20000 in
theorem ggX5_loadItem_X4_keep : GoodIn wsX5_loadItem wsX4_keep := goodIn_r _ [28, 29, 30, 13, 31, 40, 41, 42, 43, 44, 45, 46, 47, 48, 49, 50, 51, 52, 53, 54] (by decide +kernel) (by decide +kernel)
set_option maxRecDepth 20000 in
theorem gX5_loadItem_X4_keep : GoodIn wsX5_loadItem (wsV RX5 217 RX4 yX4_keep wsX4_keep) := goodIn_app (goodIn_of _ (by decide +kernel)) ggX5_loadItem_X4_keep
theorem dX5_loadItem_0 : decode cX5_loadItem 0 = .ok (.aload_n 0, 1) := by decide +kernel
theorem dX5_loadItem_1 : decode cX5_loadItem 1 = .ok (.getfield 19, 3) := by decide +kernel
theorem dX5_loadItem_4 : decode cX5_loadItem 4 = .ok (.iload_n 3, 1) := by decide +kernel
theorem dX5_loadItem_5 : decode cX5_loadItem 5 = .ok (.iload 4, 2) := by decide +kernel
theorem dX5_loadItem_7 : decode cX5_loadItem 7 = .ok (.invokevirtual 214, 3) := by decide +kernel
theorem dX5_loadItem_10 : decode cX5_loadItem 10 = .ok (.istore 5, 2) := by decide +kernel
theorem dX5_loadItem_12 : decode cX5_loadItem 12 = .ok (.iload 5, 2) := by decide +kernel
theorem dX5_loadItem_14 : decode cX5_loadItem 14 = .ok (.ifCond .ne 18, 3) := by decide +kernel
theorem dX5_loadItem_17 : decode cX5_loadItem 17 = .ok (.aload_n 1, 1) := by decide +kernel
theorem dX5_loadItem_18 : decode cX5_loadItem 18 = .ok (.iload_n 2, 1) := by decide +kernel
theorem dX5_loadItem_19 : decode cX5_loadItem 19 = .ok (.aload_n 0, 1) := by decide +kernel
theorem dX5_loadItem_20 : decode cX5_loadItem 20 = .ok (.getfield 19, 3) := by decide +kernel
theorem dX5_loadItem_23 : decode cX5_loadItem 23 = .ok (.iload_n 3, 1) := by decide +kernel
theorem dX5_loadItem_24 : decode cX5_loadItem 24 = .ok (.iload 4, 2) := by decide +kernel
theorem dX5_loadItem_26 : decode cX5_loadItem 26 = .ok (.invokevirtual 110, 3) := by decide +kernel
theorem dX5_loadItem_29 : decode cX5_loadItem 29 = .ok (.invokevirtual 217, 3) := by decide +kernel
theorem dX5_loadItem_32 : decode cX5_loadItem 32 = .ok (.iload 5, 2) := by decide +kernel
theorem dX5_loadItem_34 : decode cX5_loadItem 34 = .ok (.ireturn, 1) := by decide +kernel
set_option maxRecDepth 20000 in
theorem ggX5_getCell_X5_failureOfReading : GoodIn wsX5_getCell wsX5_failureOfReading := goodIn_r _ [5, 6, 7, 8, 9, 10, 11, 12, 13, 4, 14, 15, 16, 17, 18, 19, 20, 21, 22, 23, 24, 25, 26, 27, 28, 29, 30, 79, 80, 81, 82, 83, 84, 85, 86, 87, 88, 89, 90, 91, 92, 93, 94, 95, 96, 97, 98, 99, 100, 101, 102, 103, 104, 105, 106, 107, 108, 109, 110] (by decide +kernel) (by decide +kernel)
set_option maxRecDepth 20000 in
theorem gX5_getCell_X5_failureOfReading : GoodIn wsX5_getCell (wsV RX5 220 RX5 yX5_failureOfReading wsX5_failureOfReading) := goodIn_app (goodIn_of _ (by decide +kernel)) ggX5_getCell_X5_failureOfReading
set_option maxRecDepth 20000 in
theorem ggX5_getCell_X5_readCell : GoodIn wsX5_getCell wsX5_readCell := goodIn_r _ [34, 6, 35, 36, 37, 10, 38, 39, 25, 8, 9, 11, 12, 13, 4, 14, 26, 27, 28, 29, 30, 40, 41, 42, 43, 44, 45, 46, 47, 48, 49, 50, 51, 52, 53, 54, 55, 56, 57, 58, 15, 16, 17, 18, 19, 20, 59, 60, 61, 62, 63, 64, 65, 66, 67, 68, 69, 70, 79, 80, 81, 82, 83, 84, 85, 86, 87, 88, 89, 90, 91, 92, 93, 94, 95, 96, 97, 98, 99, 100, 101, 102, 103, 104, 105, 106, 107, 108, 109, 110, 111, 112, 113, 114, 115] (by decide +kernel) (by decide +kernel)
set_option maxRecDepth 20000 in
theorem gX5_getCell_X5_readCell : GoodIn wsX5_getCell (wsV RX5 224 RX5 yX5_readCell wsX5_readCell) := goodIn_app (goodIn_of _ (by decide +kernel)) ggX5_getCell_X5_readCell
set_option maxRecDepth 20000 in
theorem ggX5_getCell_X4_keep : GoodIn wsX5_getCell wsX4_keep := goodIn_r _ [75, 76, 77, 4, 78, 79, 80, 81, 82, 83, 84, 85, 86, 87, 88, 89, 90, 91, 92, 93] (by decide +kernel) (by decide +kernel)
set_option maxRecDepth 20000 in
theorem gX5_getCell_X4_keep : GoodIn wsX5_getCell (wsV RX5 217 RX4 yX4_keep wsX4_keep) := goodIn_app (goodIn_of _ (by decide +kernel)) ggX5_getCell_X4_keep
theorem dX5_getCell_0 : decode cX5_getCell 0 = .ok (.aload_n 0, 1) := by decide +kernel
theorem dX5_getCell_1 : decode cX5_getCell 1 = .ok (.aload_n 1, 1) := by decide +kernel
theorem dX5_getCell_2 : decode cX5_getCell 2 = .ok (.iload_n 3, 1) := by decide +kernel
theorem dX5_getCell_3 : decode cX5_getCell 3 = .ok (.invokevirtual 220, 3) := by decide +kernel
theorem dX5_getCell_6 : decode cX5_getCell 6 = .ok (.istore 4, 2) := by decide +kernel
theorem dX5_getCell_8 : decode cX5_getCell 8 = .ok (.iload 4, 2) := by decide +kernel
theorem dX5_getCell_10 : decode cX5_getCell 10 = .ok (.ifCond .ne 14, 3) := by decide +kernel
theorem dX5_getCell_13 : decode cX5_getCell 13 = .ok (.aload_n 1, 1) := by decide +kernel
theorem dX5_getCell_14 : decode cX5_getCell 14 = .ok (.iload_n 2, 1) := by decide +kernel
theorem dX5_getCell_15 : decode cX5_getCell 15 = .ok (.aload_n 0, 1) := by decide +kernel
theorem dX5_getCell_16 : decode cX5_getCell 16 = .ok (.aload_n 1, 1) := by decide +kernel
theorem dX5_getCell_17 : decode cX5_getCell 17 = .ok (.iload_n 3, 1) := by decide +kernel
theorem dX5_getCell_18 : decode cX5_getCell 18 = .ok (.invokevirtual 224, 3) := by decide +kernel
theorem dX5_getCell_21 : decode cX5_getCell 21 = .ok (.invokevirtual 217, 3) := by decide +kernel
theorem dX5_getCell_24 : decode cX5_getCell 24 = .ok (.iload 4, 2) := by decide +kernel
theorem dX5_getCell_26 : decode cX5_getCell 26 = .ok (.ireturn, 1) := by decide +kernel
set_option maxRecDepth 20000 in
theorem ggX5_swapCell_X5_failureOfReading : GoodIn wsX5_swapCell wsX5_failureOfReading := goodIn_r _ [5, 6, 7, 8, 9, 10, 11, 12, 13, 4, 14, 15, 16, 17, 18, 19, 20, 21, 22, 23, 24, 25, 26, 27, 28, 29, 30, 92, 93, 94, 95, 96, 97, 98, 99, 100, 101, 102, 103, 104, 105, 106, 107, 108, 109, 110, 111, 112, 113, 114, 115, 116, 117, 118, 119, 120, 121, 122, 123] (by decide +kernel) (by decide +kernel)
set_option maxRecDepth 20000 in
theorem gX5_swapCell_X5_failureOfReading : GoodIn wsX5_swapCell (wsV RX5 220 RX5 yX5_failureOfReading wsX5_failureOfReading) := goodIn_app (goodIn_of _ (by decide +kernel)) ggX5_swapCell_X5_failureOfReading
set_option maxRecDepth 20000 in
theorem ggX5_swapCell_X5_readCell : GoodIn wsX5_swapCell wsX5_readCell := goodIn_r _ [34, 6, 35, 36, 37, 10, 38, 39, 25, 8, 9, 11, 12, 13, 4, 14, 26, 27, 28, 29, 30, 40, 41, 42, 43, 44, 45, 46, 47, 48, 49, 50, 51, 52, 53, 54, 55, 56, 57, 58, 15, 16, 17, 18, 19, 20, 59, 60, 61, 62, 63, 64, 65, 66, 67, 68, 69, 70, 92, 93, 94, 95, 96, 97, 98, 99, 100, 101, 102, 103, 104, 105, 106, 107, 108, 109, 110, 111, 112, 113, 114, 115, 116, 117, 118, 119, 120, 121, 122, 123, 124, 125, 126, 127, 128] (by decide +kernel) (by decide +kernel)
set_option maxRecDepth 20000 in
theorem gX5_swapCell_X5_readCell : GoodIn wsX5_swapCell (wsV RX5 224 RX5 yX5_readCell wsX5_readCell) := goodIn_app (goodIn_of _ (by decide +kernel)) ggX5_swapCell_X5_readCell
set_option maxRecDepth 20000 in
theorem ggX5_swapCell_X4_held : GoodIn wsX5_swapCell wsX4_held := goodIn_r _ [75, 76, 77, 4, 78, 92, 93, 94, 95, 96, 97, 98, 99, 100, 101, 102, 103, 104, 105, 106] (by decide +kernel) (by decide +kernel)
set_option maxRecDepth 20000 in
theorem gX5_swapCell_X4_held : GoodIn wsX5_swapCell (wsV RX5 91 RX4 yX4_held wsX4_held) := goodIn_app (goodIn_of _ (by decide +kernel)) ggX5_swapCell_X4_held
set_option maxRecDepth 20000 in
theorem ggX5_swapCell_X5_putCell : GoodIn wsX5_swapCell wsX5_putCell := goodIn_r _ [82, 6, 83, 84, 85, 18, 86, 20, 63, 13, 4, 14, 87, 41, 42, 10, 43, 44, 45, 46, 47, 48, 30, 12, 49, 50, 51, 52, 53, 54, 55, 56, 57, 58, 92, 93, 94, 95, 96, 97, 98, 99, 100, 101, 102, 103, 104, 105, 106, 107, 108, 109, 110, 111, 112, 113, 114, 115, 116, 117, 118, 119, 120, 121, 122, 123, 124, 125, 126, 127, 128] (by decide +kernel) (by decide +kernel)
set_option maxRecDepth 20000 in
theorem gX5_swapCell_X5_putCell : GoodIn wsX5_swapCell (wsV RX5 183 RX5 yX5_putCell wsX5_putCell) := goodIn_app (goodIn_of _ (by decide +kernel)) ggX5_swapCell_X5_putCell
set_option maxRecDepth 20000 in
theorem ggX5_swapCell_X4_keep : GoodIn wsX5_swapCell wsX4_keep := goodIn_r _ [91, 76, 77, 4, 78, 92, 93, 94, 95, 96, 97, 98, 99, 100, 101, 102, 103, 104, 105, 106] (by decide +kernel) (by decide +kernel)
set_option maxRecDepth 20000 in
theorem gX5_swapCell_X4_keep : GoodIn wsX5_swapCell (wsV RX5 217 RX4 yX4_keep wsX4_keep) := goodIn_app (goodIn_of _ (by decide +kernel)) ggX5_swapCell_X4_keep
theorem dX5_swapCell_0 : decode cX5_swapCell 0 = .ok (.aload_n 0, 1) := by decide +kernel
theorem dX5_swapCell_1 : decode cX5_swapCell 1 = .ok (.aload_n 1, 1) := by decide +kernel
theorem dX5_swapCell_2 : decode cX5_swapCell 2 = .ok (.iload_n 2, 1) := by decide +kernel
theorem dX5_swapCell_3 : decode cX5_swapCell 3 = .ok (.invokevirtual 220, 3) := by decide +kernel
theorem dX5_swapCell_6 : decode cX5_swapCell 6 = .ok (.istore 5, 2) := by decide +kernel
theorem dX5_swapCell_8 : decode cX5_swapCell 8 = .ok (.iload 5, 2) := by decide +kernel
theorem dX5_swapCell_10 : decode cX5_swapCell 10 = .ok (.ifCond .eq 6, 3) := by decide +kernel
theorem dX5_swapCell_13 : decode cX5_swapCell 13 = .ok (.iload 5, 2) := by decide +kernel
theorem dX5_swapCell_15 : decode cX5_swapCell 15 = .ok (.ireturn, 1) := by decide +kernel
theorem dX5_swapCell_16 : decode cX5_swapCell 16 = .ok (.aload_n 0, 1) := by decide +kernel
theorem dX5_swapCell_17 : decode cX5_swapCell 17 = .ok (.aload_n 1, 1) := by decide +kernel
theorem dX5_swapCell_18 : decode cX5_swapCell 18 = .ok (.iload_n 2, 1) := by decide +kernel
theorem dX5_swapCell_19 : decode cX5_swapCell 19 = .ok (.invokevirtual 224, 3) := by decide +kernel
theorem dX5_swapCell_22 : decode cX5_swapCell 22 = .ok (.aload_n 1, 1) := by decide +kernel
theorem dX5_swapCell_23 : decode cX5_swapCell 23 = .ok (.iload_n 3, 1) := by decide +kernel
theorem dX5_swapCell_24 : decode cX5_swapCell 24 = .ok (.invokevirtual 91, 3) := by decide +kernel
theorem dX5_swapCell_27 : decode cX5_swapCell 27 = .ok (.if_icmp .ne 7, 3) := by decide +kernel
theorem dX5_swapCell_30 : decode cX5_swapCell 30 = .ok (.iconst 1, 1) := by decide +kernel
theorem dX5_swapCell_31 : decode cX5_swapCell 31 = .ok (.goto 4, 3) := by decide +kernel
theorem dX5_swapCell_34 : decode cX5_swapCell 34 = .ok (.iconst 0, 1) := by decide +kernel
theorem dX5_swapCell_35 : decode cX5_swapCell 35 = .ok (.istore 6, 2) := by decide +kernel
theorem dX5_swapCell_37 : decode cX5_swapCell 37 = .ok (.iload 6, 2) := by decide +kernel
theorem dX5_swapCell_39 : decode cX5_swapCell 39 = .ok (.ifCond .eq 15, 3) := by decide +kernel
theorem dX5_swapCell_42 : decode cX5_swapCell 42 = .ok (.aload_n 0, 1) := by decide +kernel
theorem dX5_swapCell_43 : decode cX5_swapCell 43 = .ok (.aload_n 1, 1) := by decide +kernel
theorem dX5_swapCell_44 : decode cX5_swapCell 44 = .ok (.iload_n 2, 1) := by decide +kernel
theorem dX5_swapCell_45 : decode cX5_swapCell 45 = .ok (.aload_n 1, 1) := by decide +kernel
theorem dX5_swapCell_46 : decode cX5_swapCell 46 = .ok (.iload 4, 2) := by decide +kernel
theorem dX5_swapCell_48 : decode cX5_swapCell 48 = .ok (.invokevirtual 91, 3) := by decide +kernel
theorem dX5_swapCell_51 : decode cX5_swapCell 51 = .ok (.invokevirtual 183, 3) := by decide +kernel
theorem dX5_swapCell_54 : decode cX5_swapCell 54 = .ok (.aload_n 1, 1) := by decide +kernel
theorem dX5_swapCell_55 : decode cX5_swapCell 55 = .ok (.iload_n 3, 1) := by decide +kernel
theorem dX5_swapCell_56 : decode cX5_swapCell 56 = .ok (.iload 6, 2) := by decide +kernel
theorem dX5_swapCell_58 : decode cX5_swapCell 58 = .ok (.ifCond .eq 7, 3) := by decide +kernel
theorem dX5_swapCell_61 : decode cX5_swapCell 61 = .ok (.iconst 1, 1) := by decide +kernel
theorem dX5_swapCell_62 : decode cX5_swapCell 62 = .ok (.goto 4, 3) := by decide +kernel
theorem dX5_swapCell_65 : decode cX5_swapCell 65 = .ok (.iconst 0, 1) := by decide +kernel
theorem dX5_swapCell_66 : decode cX5_swapCell 66 = .ok (.invokevirtual 217, 3) := by decide +kernel
theorem dX5_swapCell_69 : decode cX5_swapCell 69 = .ok (.iconst 0, 1) := by decide +kernel
theorem dX5_swapCell_70 : decode cX5_swapCell 70 = .ok (.ireturn, 1) := by decide +kernel
set_option maxRecDepth 20000 in
theorem ggX5_failureOfReading_X1_isLazy : GoodIn wsX5_failureOfReading wsX1_isLazy := goodIn_r _ [6, 7, 8, 9, 10, 55, 56, 57, 58] (by decide +kernel) (by decide +kernel)
set_option maxRecDepth 20000 in
theorem gX5_failureOfReading_X1_isLazy : GoodIn wsX5_failureOfReading (wsV RX5 101 RX1 yX1_isLazy wsX1_isLazy) := goodIn_app (goodIn_of _ (by decide +kernel)) ggX5_failureOfReading_X1_isLazy
set_option maxRecDepth 20000 in
theorem ggX5_failureOfReading_X0_hasPut : GoodIn wsX5_failureOfReading wsX0_hasPut := goodIn_r _ [15, 16, 8, 9, 10, 42, 43, 44, 45, 46, 47, 48, 49] (by decide +kernel) (by decide +kernel)
set_option maxRecDepth 20000 in
theorem gX5_failureOfReading_X0_hasPut : GoodIn wsX5_failureOfReading (wsV RX5 227 RX0 yX0_hasPut wsX0_hasPut) := goodIn_app (goodIn_of _ (by decide +kernel)) ggX5_failureOfReading_X0_hasPut
set_option maxRecDepth 20000 in
theorem ggX5_failureOfReading_X1_leadsToRing : GoodIn wsX5_failureOfReading wsX1_leadsToRing := goodIn_r _ [20, 21, 3, 4, 5, 6, 7, 8, 9, 10, 22, 23, 24, 25, 26, 55, 56, 57, 58] (by decide +kernel) (by decide +kernel)
set_option maxRecDepth 20000 in
theorem gX5_failureOfReading_X1_leadsToRing : GoodIn wsX5_failureOfReading (wsV RX5 230 RX1 yX1_leadsToRing wsX1_leadsToRing) := goodIn_app (goodIn_of _ (by decide +kernel)) ggX5_failureOfReading_X1_leadsToRing
theorem dX5_failureOfReading_0 : decode cX5_failureOfReading 0 = .ok (.aload_n 1, 1) := by decide +kernel
theorem dX5_failureOfReading_1 : decode cX5_failureOfReading 1 = .ok (.getfield 74, 3) := by decide +kernel
theorem dX5_failureOfReading_4 : decode cX5_failureOfReading 4 = .ok (.getfield 78, 3) := by decide +kernel
theorem dX5_failureOfReading_7 : decode cX5_failureOfReading 7 = .ok (.ifCond .eq 31, 3) := by decide +kernel
theorem dX5_failureOfReading_10 : decode cX5_failureOfReading 10 = .ok (.aload_n 0, 1) := by decide +kernel
theorem dX5_failureOfReading_11 : decode cX5_failureOfReading 11 = .ok (.getfield 10, 3) := by decide +kernel
theorem dX5_failureOfReading_14 : decode cX5_failureOfReading 14 = .ok (.iload_n 2, 1) := by decide +kernel
theorem dX5_failureOfReading_15 : decode cX5_failureOfReading 15 = .ok (.invokevirtual 101, 3) := by decide +kernel
theorem dX5_failureOfReading_18 : decode cX5_failureOfReading 18 = .ok (.ifCond .eq 18, 3) := by decide +kernel
theorem dX5_failureOfReading_21 : decode cX5_failureOfReading 21 = .ok (.aload_n 1, 1) := by decide +kernel
theorem dX5_failureOfReading_22 : decode cX5_failureOfReading 22 = .ok (.getfield 74, 3) := by decide +kernel
theorem dX5_failureOfReading_25 : decode cX5_failureOfReading 25 = .ok (.iload_n 2, 1) := by decide +kernel
theorem dX5_failureOfReading_26 : decode cX5_failureOfReading 26 = .ok (.invokevirtual 227, 3) := by decide +kernel
theorem dX5_failureOfReading_29 : decode cX5_failureOfReading 29 = .ok (.ifCond .ne 7, 3) := by decide +kernel
theorem dX5_failureOfReading_32 : decode cX5_failureOfReading 32 = .ok (.iconst 5, 1) := by decide +kernel
theorem dX5_failureOfReading_33 : decode cX5_failureOfReading 33 = .ok (.goto 4, 3) := by decide +kernel
theorem dX5_failureOfReading_36 : decode cX5_failureOfReading 36 = .ok (.iconst 0, 1) := by decide +kernel
theorem dX5_failureOfReading_37 : decode cX5_failureOfReading 37 = .ok (.ireturn, 1) := by decide +kernel
theorem dX5_failureOfReading_38 : decode cX5_failureOfReading 38 = .ok (.aload_n 0, 1) := by decide +kernel
theorem dX5_failureOfReading_39 : decode cX5_failureOfReading 39 = .ok (.getfield 10, 3) := by decide +kernel
theorem dX5_failureOfReading_42 : decode cX5_failureOfReading 42 = .ok (.iload_n 2, 1) := by decide +kernel
theorem dX5_failureOfReading_43 : decode cX5_failureOfReading 43 = .ok (.invokevirtual 230, 3) := by decide +kernel
theorem dX5_failureOfReading_46 : decode cX5_failureOfReading 46 = .ok (.ifCond .eq 8, 3) := by decide +kernel
theorem dX5_failureOfReading_49 : decode cX5_failureOfReading 49 = .ok (.bipush 8, 2) := by decide +kernel
theorem dX5_failureOfReading_51 : decode cX5_failureOfReading 51 = .ok (.goto 4, 3) := by decide +kernel
theorem dX5_failureOfReading_54 : decode cX5_failureOfReading 54 = .ok (.iconst 0, 1) := by decide +kernel
theorem dX5_failureOfReading_55 : decode cX5_failureOfReading 55 = .ok (.ireturn, 1) := by decide +kernel
set_option maxRecDepth 20000 in
theorem ggX5_readCell_X1_workedOut : GoodIn wsX5_readCell wsX1_workedOut := goodIn_r _ [6, 7, 8, 9, 10, 5, 11, 12, 13, 14, 15, 16, 17, 18, 19, 20, 21, 22, 23, 24, 25, 26, 27, 28, 29, 30, 31, 32, 33, 34, 35, 36, 37, 38, 39, 86, 87, 88, 89, 90, 91, 92, 93, 94] (by decide +kernel) (by decide +kernel)
set_option maxRecDepth 20000 in
theorem gX5_readCell_X1_workedOut : GoodIn wsX5_readCell (wsV RX5 236 RX1 yX1_workedOut wsX1_workedOut) := goodIn_app (goodIn_of _ (by decide +kernel)) ggX5_readCell_X1_workedOut
set_option maxRecDepth 20000 in
theorem ggX5_readCell_X0_hasPut : GoodIn wsX5_readCell wsX0_hasPut := goodIn_r _ [44, 45, 13, 14, 15, 73, 74, 75, 76, 77, 78, 79, 80] (by decide +kernel) (by decide +kernel)
set_option maxRecDepth 20000 in
theorem gX5_readCell_X0_hasPut : GoodIn wsX5_readCell (wsV RX5 227 RX0 yX0_hasPut wsX0_hasPut) := goodIn_app (goodIn_of _ (by decide +kernel)) ggX5_readCell_X0_hasPut
set_option maxRecDepth 20000 in
theorem ggX5_readCell_X0_putNumber : GoodIn wsX5_readCell wsX0_putNumber := goodIn_r _ [49, 50, 13, 14, 15, 73, 74, 75, 76, 77, 78, 79, 80] (by decide +kernel) (by decide +kernel)
set_option maxRecDepth 20000 in
theorem gX5_readCell_X0_putNumber : GoodIn wsX5_readCell (wsV RX5 239 RX0 yX0_putNumber wsX0_putNumber) := goodIn_app (goodIn_of _ (by decide +kernel)) ggX5_readCell_X0_putNumber
set_option maxRecDepth 20000 in
theorem ggX5_readCell_X1_shown : GoodIn wsX5_readCell wsX1_shown := goodIn_r _ [19, 12, 20, 13, 14, 15, 86, 87, 88, 89] (by decide +kernel) (by decide +kernel)
set_option maxRecDepth 20000 in
theorem gX5_readCell_X1_shown : GoodIn wsX5_readCell (wsV RX5 98 RX1 yX1_shown wsX1_shown) := goodIn_app (goodIn_of _ (by decide +kernel)) ggX5_readCell_X1_shown
set_option maxRecDepth 20000 in
theorem ggX5_readCell_X0_noteReading : GoodIn wsX5_readCell wsX0_noteReading := goodIn_r _ [55, 56, 57, 13, 14, 15, 73, 74, 75, 76, 77, 78, 79, 80] (by decide +kernel) (by decide +kernel)
set_option maxRecDepth 20000 in
theorem gX5_readCell_X0_noteReading : GoodIn wsX5_readCell (wsV RX5 242 RX0 yX0_noteReading wsX0_noteReading) := goodIn_app (goodIn_of _ (by decide +kernel)) ggX5_readCell_X0_noteReading
theorem dX5_readCell_0 : decode cX5_readCell 0 = .ok (.aload_n 1, 1) := by decide +kernel
theorem dX5_readCell_1 : decode cX5_readCell 1 = .ok (.getfield 74, 3) := by decide +kernel
theorem dX5_readCell_4 : decode cX5_readCell 4 = .ok (.getfield 78, 3) := by decide +kernel
theorem dX5_readCell_7 : decode cX5_readCell 7 = .ok (.ifCond .ne 16, 3) := by decide +kernel
theorem dX5_readCell_10 : decode cX5_readCell 10 = .ok (.aload_n 0, 1) := by decide +kernel
theorem dX5_readCell_11 : decode cX5_readCell 11 = .ok (.getfield 10, 3) := by decide +kernel
theorem dX5_readCell_14 : decode cX5_readCell 14 = .ok (.iload_n 2, 1) := by decide +kernel
theorem dX5_readCell_15 : decode cX5_readCell 15 = .ok (.aload_n 1, 1) := by decide +kernel
theorem dX5_readCell_16 : decode cX5_readCell 16 = .ok (.getfield 233, 3) := by decide +kernel
theorem dX5_readCell_19 : decode cX5_readCell 19 = .ok (.invokevirtual 236, 3) := by decide +kernel
theorem dX5_readCell_22 : decode cX5_readCell 22 = .ok (.ireturn, 1) := by decide +kernel
theorem dX5_readCell_23 : decode cX5_readCell 23 = .ok (.aload_n 1, 1) := by decide +kernel
theorem dX5_readCell_24 : decode cX5_readCell 24 = .ok (.getfield 74, 3) := by decide +kernel
theorem dX5_readCell_27 : decode cX5_readCell 27 = .ok (.iload_n 2, 1) := by decide +kernel
theorem dX5_readCell_28 : decode cX5_readCell 28 = .ok (.invokevirtual 227, 3) := by decide +kernel
theorem dX5_readCell_31 : decode cX5_readCell 31 = .ok (.ifCond .eq 12, 3) := by decide +kernel
theorem dX5_readCell_34 : decode cX5_readCell 34 = .ok (.aload_n 1, 1) := by decide +kernel
theorem dX5_readCell_35 : decode cX5_readCell 35 = .ok (.getfield 74, 3) := by decide +kernel
theorem dX5_readCell_38 : decode cX5_readCell 38 = .ok (.iload_n 2, 1) := by decide +kernel
theorem dX5_readCell_39 : decode cX5_readCell 39 = .ok (.invokevirtual 239, 3) := by decide +kernel
theorem dX5_readCell_42 : decode cX5_readCell 42 = .ok (.ireturn, 1) := by decide +kernel
theorem dX5_readCell_43 : decode cX5_readCell 43 = .ok (.aload_n 0, 1) := by decide +kernel
theorem dX5_readCell_44 : decode cX5_readCell 44 = .ok (.getfield 10, 3) := by decide +kernel
theorem dX5_readCell_47 : decode cX5_readCell 47 = .ok (.iload_n 2, 1) := by decide +kernel
theorem dX5_readCell_48 : decode cX5_readCell 48 = .ok (.invokevirtual 98, 3) := by decide +kernel
theorem dX5_readCell_51 : decode cX5_readCell 51 = .ok (.istore_n 3, 1) := by decide +kernel
theorem dX5_readCell_52 : decode cX5_readCell 52 = .ok (.aload_n 1, 1) := by decide +kernel
theorem dX5_readCell_53 : decode cX5_readCell 53 = .ok (.getfield 74, 3) := by decide +kernel
theorem dX5_readCell_56 : decode cX5_readCell 56 = .ok (.iload_n 2, 1) := by decide +kernel
theorem dX5_readCell_57 : decode cX5_readCell 57 = .ok (.iload_n 3, 1) := by decide +kernel
theorem dX5_readCell_58 : decode cX5_readCell 58 = .ok (.invokevirtual 242, 3) := by decide +kernel
theorem dX5_readCell_61 : decode cX5_readCell 61 = .ok (.iload_n 3, 1) := by decide +kernel
theorem dX5_readCell_62 : decode cX5_readCell 62 = .ok (.ireturn, 1) := by decide +kernel
set_option maxRecDepth 20000 in
theorem ggX5_putCell_X0_notePut : GoodIn wsX5_putCell wsX0_notePut := goodIn_r _ [6, 7, 8, 9, 10, 11, 49, 50, 51, 52, 53, 54, 55, 56] (by decide +kernel) (by decide +kernel)
set_option maxRecDepth 20000 in
theorem gX5_putCell_X0_notePut : GoodIn wsX5_putCell (wsV RX5 245 RX0 yX0_notePut wsX0_notePut) := goodIn_app (goodIn_of _ (by decide +kernel)) ggX5_putCell_X0_notePut
set_option maxRecDepth 20000 in
theorem ggX5_putCell_X1_count : GoodIn wsX5_putCell wsX1_count := goodIn_r _ [16, 17, 18, 19, 20, 15, 21, 22, 23, 24, 25, 26, 27, 28, 29, 30, 31, 32, 33, 62, 63, 64, 65, 66, 67, 68, 69, 70] (by decide +kernel) (by decide +kernel)
set_option maxRecDepth 20000 in
theorem gX5_putCell_X1_count : GoodIn wsX5_putCell (wsV RX5 248 RX1 yX1_count wsX1_count) := goodIn_app (goodIn_of _ (by decide +kernel)) ggX5_putCell_X1_count
theorem dX5_putCell_0 : decode cX5_putCell 0 = .ok (.aload_n 1, 1) := by decide +kernel
theorem dX5_putCell_1 : decode cX5_putCell 1 = .ok (.getfield 74, 3) := by decide +kernel
theorem dX5_putCell_4 : decode cX5_putCell 4 = .ok (.getfield 78, 3) := by decide +kernel
theorem dX5_putCell_7 : decode cX5_putCell 7 = .ok (.ifCond .eq 15, 3) := by decide +kernel
theorem dX5_putCell_10 : decode cX5_putCell 10 = .ok (.aload_n 1, 1) := by decide +kernel
theorem dX5_putCell_11 : decode cX5_putCell 11 = .ok (.getfield 74, 3) := by decide +kernel
theorem dX5_putCell_14 : decode cX5_putCell 14 = .ok (.iload_n 2, 1) := by decide +kernel
theorem dX5_putCell_15 : decode cX5_putCell 15 = .ok (.iload_n 3, 1) := by decide +kernel
theorem dX5_putCell_16 : decode cX5_putCell 16 = .ok (.invokevirtual 245, 3) := by decide +kernel
theorem dX5_putCell_19 : decode cX5_putCell 19 = .ok (.goto 16, 3) := by decide +kernel
theorem dX5_putCell_22 : decode cX5_putCell 22 = .ok (.aload_n 0, 1) := by decide +kernel
theorem dX5_putCell_23 : decode cX5_putCell 23 = .ok (.getfield 10, 3) := by decide +kernel
theorem dX5_putCell_26 : decode cX5_putCell 26 = .ok (.aload_n 1, 1) := by decide +kernel
theorem dX5_putCell_27 : decode cX5_putCell 27 = .ok (.getfield 233, 3) := by decide +kernel
theorem dX5_putCell_30 : decode cX5_putCell 30 = .ok (.iload_n 2, 1) := by decide +kernel
theorem dX5_putCell_31 : decode cX5_putCell 31 = .ok (.iload_n 3, 1) := by decide +kernel
theorem dX5_putCell_32 : decode cX5_putCell 32 = .ok (.invokevirtual 248, 3) := by decide +kernel
theorem dX5_putCell_35 : decode cX5_putCell 35 = .ok (.return_, 1) := by decide +kernel
set_option maxRecDepth 20000 in
theorem ggX5_endAtom_X5_isOvertaken : GoodIn wsX5_endAtom wsX5_isOvertaken := goodIn_r _ [6, 1, 7, 8, 9, 10, 11, 12, 13, 5, 14, 15, 16, 17, 18, 19, 20, 21, 22, 23, 24, 25, 26, 27, 28, 29, 30, 100, 101, 102, 103, 104, 92, 93, 94, 95, 96, 97, 98, 99, 105, 106, 107, 108] (by decide +kernel) (by decide +kernel)
set_option maxRecDepth 20000 in
theorem gX5_endAtom_X5_isOvertaken : GoodIn wsX5_endAtom (wsV RX5 254 RX5 yX5_isOvertaken wsX5_isOvertaken) := goodIn_app (goodIn_of _ (by decide +kernel)) ggX5_endAtom_X5_isOvertaken
set_option maxRecDepth 20000 in
theorem ggX5_endAtom_X4_beginAnew : GoodIn wsX5_endAtom wsX4_beginAnew := goodIn_r _ [35, 36, 37, 38, 39, 40, 41, 42, 43, 44, 45, 46, 10, 47, 48, 12, 77, 78, 79, 80, 81, 82, 83, 84, 85, 86, 87, 88, 89, 90, 91, 92, 93, 94, 95, 96, 97, 98, 99] (by decide +kernel) (by decide +kernel)
set_option maxRecDepth 20000 in
theorem gX5_endAtom_X4_beginAnew : GoodIn wsX5_endAtom (wsV RX5 258 RX4 yX4_beginAnew wsX4_beginAnew) := goodIn_app (goodIn_of _ (by decide +kernel)) ggX5_endAtom_X4_beginAnew
set_option maxRecDepth 20000 in
theorem ggX5_endAtom_X0_hasPut : GoodIn wsX5_endAtom wsX0_hasPut := goodIn_r _ [52, 48, 13, 5, 14, 92, 93, 94, 95, 96, 97, 98, 99] (by decide +kernel) (by decide +kernel)
set_option maxRecDepth 20000 in
theorem gX5_endAtom_X0_hasPut : GoodIn wsX5_endAtom (wsV RX5 227 RX0 yX0_hasPut wsX0_hasPut) := goodIn_app (goodIn_of _ (by decide +kernel)) ggX5_endAtom_X0_hasPut
set_option maxRecDepth 20000 in
theorem ggX5_endAtom_X0_putNumber : GoodIn wsX5_endAtom wsX0_putNumber := goodIn_r _ [56, 57, 13, 5, 14, 92, 93, 94, 95, 96, 97, 98, 99] (by decide +kernel) (by decide +kernel)
set_option maxRecDepth 20000 in
theorem gX5_endAtom_X0_putNumber : GoodIn wsX5_endAtom (wsV RX5 239 RX0 yX0_putNumber wsX0_putNumber) := goodIn_app (goodIn_of _ (by decide +kernel)) ggX5_endAtom_X0_putNumber
set_option maxRecDepth 20000 in
theorem ggX5_endAtom_X1_count : GoodIn wsX5_endAtom wsX1_count := goodIn_r _ [61, 62, 63, 64, 65, 18, 66, 25, 20, 67, 68, 69, 70, 71, 72, 73, 74, 75, 76, 105, 106, 107, 108, 109, 110, 111, 112, 113] (by decide +kernel) (by decide +kernel)
set_option maxRecDepth 20000 in
theorem gX5_endAtom_X1_count : GoodIn wsX5_endAtom (wsV RX5 248 RX1 yX1_count wsX1_count) := goodIn_app (goodIn_of _ (by decide +kernel)) ggX5_endAtom_X1_count
theorem dX5_endAtom_0 : decode cX5_endAtom 0 = .ok (.aload_n 1, 1) := by decide +kernel
theorem dX5_endAtom_1 : decode cX5_endAtom 1 = .ok (.getfield 74, 3) := by decide +kernel
theorem dX5_endAtom_4 : decode cX5_endAtom 4 = .ok (.astore_n 2, 1) := by decide +kernel
theorem dX5_endAtom_5 : decode cX5_endAtom 5 = .ok (.aload_n 2, 1) := by decide +kernel
theorem dX5_endAtom_6 : decode cX5_endAtom 6 = .ok (.getfield 78, 3) := by decide +kernel
theorem dX5_endAtom_9 : decode cX5_endAtom 9 = .ok (.ifCond .eq 14, 3) := by decide +kernel
theorem dX5_endAtom_12 : decode cX5_endAtom 12 = .ok (.aload_n 1, 1) := by decide +kernel
theorem dX5_endAtom_13 : decode cX5_endAtom 13 = .ok (.getfield 71, 3) := by decide +kernel
theorem dX5_endAtom_16 : decode cX5_endAtom 16 = .ok (.aload_n 2, 1) := by decide +kernel
theorem dX5_endAtom_17 : decode cX5_endAtom 17 = .ok (.getfield 251, 3) := by decide +kernel
theorem dX5_endAtom_20 : decode cX5_endAtom 20 = .ok (.if_icmp .le 5, 3) := by decide +kernel
theorem dX5_endAtom_23 : decode cX5_endAtom 23 = .ok (.iconst 5, 1) := by decide +kernel
theorem dX5_endAtom_24 : decode cX5_endAtom 24 = .ok (.ireturn, 1) := by decide +kernel
theorem dX5_endAtom_25 : decode cX5_endAtom 25 = .ok (.aload_n 0, 1) := by decide +kernel
theorem dX5_endAtom_26 : decode cX5_endAtom 26 = .ok (.aload_n 2, 1) := by decide +kernel
theorem dX5_endAtom_27 : decode cX5_endAtom 27 = .ok (.invokevirtual 254, 3) := by decide +kernel
theorem dX5_endAtom_30 : decode cX5_endAtom 30 = .ok (.ifCond .eq 9, 3) := by decide +kernel
theorem dX5_endAtom_33 : decode cX5_endAtom 33 = .ok (.aload_n 1, 1) := by decide +kernel
theorem dX5_endAtom_34 : decode cX5_endAtom 34 = .ok (.invokevirtual 258, 3) := by decide +kernel
theorem dX5_endAtom_37 : decode cX5_endAtom 37 = .ok (.iconst 0, 1) := by decide +kernel
theorem dX5_endAtom_38 : decode cX5_endAtom 38 = .ok (.ireturn, 1) := by decide +kernel
theorem dX5_endAtom_39 : decode cX5_endAtom 39 = .ok (.iconst 0, 1) := by decide +kernel
theorem dX5_endAtom_40 : decode cX5_endAtom 40 = .ok (.istore_n 3, 1) := by decide +kernel
theorem dX5_endAtom_41 : decode cX5_endAtom 41 = .ok (.iload_n 3, 1) := by decide +kernel
theorem dX5_endAtom_42 : decode cX5_endAtom 42 = .ok (.bipush 8, 2) := by decide +kernel
theorem dX5_endAtom_44 : decode cX5_endAtom 44 = .ok (.if_icmp .ge 34, 3) := by decide +kernel
theorem dX5_endAtom_47 : decode cX5_endAtom 47 = .ok (.aload_n 2, 1) := by decide +kernel
theorem dX5_endAtom_48 : decode cX5_endAtom 48 = .ok (.iload_n 3, 1) := by decide +kernel
theorem dX5_endAtom_49 : decode cX5_endAtom 49 = .ok (.invokevirtual 227, 3) := by decide +kernel
theorem dX5_endAtom_52 : decode cX5_endAtom 52 = .ok (.ifCond .eq 20, 3) := by decide +kernel
theorem dX5_endAtom_55 : decode cX5_endAtom 55 = .ok (.aload_n 0, 1) := by decide +kernel
theorem dX5_endAtom_56 : decode cX5_endAtom 56 = .ok (.getfield 10, 3) := by decide +kernel
theorem dX5_endAtom_59 : decode cX5_endAtom 59 = .ok (.aload_n 1, 1) := by decide +kernel
theorem dX5_endAtom_60 : decode cX5_endAtom 60 = .ok (.getfield 233, 3) := by decide +kernel
theorem dX5_endAtom_63 : decode cX5_endAtom 63 = .ok (.iload_n 3, 1) := by decide +kernel
theorem dX5_endAtom_64 : decode cX5_endAtom 64 = .ok (.aload_n 2, 1) := by decide +kernel
theorem dX5_endAtom_65 : decode cX5_endAtom 65 = .ok (.iload_n 3, 1) := by decide +kernel
theorem dX5_endAtom_66 : decode cX5_endAtom 66 = .ok (.invokevirtual 239, 3) := by decide +kernel
theorem dX5_endAtom_69 : decode cX5_endAtom 69 = .ok (.invokevirtual 248, 3) := by decide +kernel
theorem dX5_endAtom_72 : decode cX5_endAtom 72 = .ok (.iinc 3 1, 3) := by decide +kernel
theorem dX5_endAtom_75 : decode cX5_endAtom 75 = .ok (.goto (-34), 3) := by decide +kernel
theorem dX5_endAtom_78 : decode cX5_endAtom 78 = .ok (.aload_n 2, 1) := by decide +kernel
theorem dX5_endAtom_79 : decode cX5_endAtom 79 = .ok (.iconst 0, 1) := by decide +kernel
theorem dX5_endAtom_80 : decode cX5_endAtom 80 = .ok (.putfield 78, 3) := by decide +kernel
theorem dX5_endAtom_83 : decode cX5_endAtom 83 = .ok (.iconst 0, 1) := by decide +kernel
theorem dX5_endAtom_84 : decode cX5_endAtom 84 = .ok (.ireturn, 1) := by decide +kernel
set_option maxRecDepth 20000 in
theorem ggX5_isOvertaken_X0_hasRead : GoodIn wsX5_isOvertaken wsX0_hasRead := goodIn_r _ [6, 7, 8, 9, 10, 32, 33, 34, 35, 36, 37, 38, 39] (by decide +kernel) (by decide +kernel)
set_option maxRecDepth 20000 in
theorem gX5_isOvertaken_X0_hasRead : GoodIn wsX5_isOvertaken (wsV RX5 261 RX0 yX0_hasRead wsX0_hasRead) := goodIn_app (goodIn_of _ (by decide +kernel)) ggX5_isOvertaken_X0_hasRead
set_option maxRecDepth 20000 in
theorem ggX5_isOvertaken_X1_isLazy : GoodIn wsX5_isOvertaken wsX1_isLazy := goodIn_r _ [15, 16, 8, 9, 10, 40, 41, 42, 43] (by decide +kernel) (by decide +kernel)
set_option maxRecDepth 20000 in
theorem gX5_isOvertaken_X1_isLazy : GoodIn wsX5_isOvertaken (wsV RX5 101 RX1 yX1_isLazy wsX1_isLazy) := goodIn_app (goodIn_of _ (by decide +kernel)) ggX5_isOvertaken_X1_isLazy
set_option maxRecDepth 20000 in
theorem ggX5_isOvertaken_X1_shown : GoodIn wsX5_isOvertaken wsX1_shown := goodIn_r _ [20, 16, 21, 8, 9, 10, 40, 41, 42, 43] (by decide +kernel) (by decide +kernel)
set_option maxRecDepth 20000 in
theorem gX5_isOvertaken_X1_shown : GoodIn wsX5_isOvertaken (wsV RX5 98 RX1 yX1_shown wsX1_shown) := goodIn_app (goodIn_of _ (by decide +kernel)) ggX5_isOvertaken_X1_shown
set_option maxRecDepth 20000 in
theorem ggX5_isOvertaken_X0_firstNumber : GoodIn wsX5_isOvertaken wsX0_firstNumber := goodIn_r _ [25, 26, 8, 9, 10, 32, 33, 34, 35, 36, 37, 38, 39] (by decide +kernel) (by decide +kernel)
set_option maxRecDepth 20000 in
theorem gX5_isOvertaken_X0_firstNumber : GoodIn wsX5_isOvertaken (wsV RX5 264 RX0 yX0_firstNumber wsX0_firstNumber) := goodIn_app (goodIn_of _ (by decide +kernel)) ggX5_isOvertaken_X0_firstNumber
theorem dX5_isOvertaken_0 : decode cX5_isOvertaken 0 = .ok (.iconst 0, 1) := by decide +kernel
theorem dX5_isOvertaken_1 : decode cX5_isOvertaken 1 = .ok (.istore_n 2, 1) := by decide +kernel
theorem dX5_isOvertaken_2 : decode cX5_isOvertaken 2 = .ok (.iload_n 2, 1) := by decide +kernel
theorem dX5_isOvertaken_3 : decode cX5_isOvertaken 3 = .ok (.bipush 8, 2) := by decide +kernel
theorem dX5_isOvertaken_5 : decode cX5_isOvertaken 5 = .ok (.if_icmp .ge 46, 3) := by decide +kernel
theorem dX5_isOvertaken_8 : decode cX5_isOvertaken 8 = .ok (.aload_n 1, 1) := by decide +kernel
theorem dX5_isOvertaken_9 : decode cX5_isOvertaken 9 = .ok (.iload_n 2, 1) := by decide +kernel
theorem dX5_isOvertaken_10 : decode cX5_isOvertaken 10 = .ok (.invokevirtual 261, 3) := by decide +kernel
theorem dX5_isOvertaken_13 : decode cX5_isOvertaken 13 = .ok (.ifCond .eq 32, 3) := by decide +kernel
theorem dX5_isOvertaken_16 : decode cX5_isOvertaken 16 = .ok (.aload_n 0, 1) := by decide +kernel
theorem dX5_isOvertaken_17 : decode cX5_isOvertaken 17 = .ok (.getfield 10, 3) := by decide +kernel
theorem dX5_isOvertaken_20 : decode cX5_isOvertaken 20 = .ok (.iload_n 2, 1) := by decide +kernel
theorem dX5_isOvertaken_21 : decode cX5_isOvertaken 21 = .ok (.invokevirtual 101, 3) := by decide +kernel
theorem dX5_isOvertaken_24 : decode cX5_isOvertaken 24 = .ok (.ifCond .ne 19, 3) := by decide +kernel
theorem dX5_isOvertaken_27 : decode cX5_isOvertaken 27 = .ok (.aload_n 0, 1) := by decide +kernel
theorem dX5_isOvertaken_28 : decode cX5_isOvertaken 28 = .ok (.getfield 10, 3) := by decide +kernel
theorem dX5_isOvertaken_31 : decode cX5_isOvertaken 31 = .ok (.iload_n 2, 1) := by decide +kernel
theorem dX5_isOvertaken_32 : decode cX5_isOvertaken 32 = .ok (.invokevirtual 98, 3) := by decide +kernel
theorem dX5_isOvertaken_35 : decode cX5_isOvertaken 35 = .ok (.aload_n 1, 1) := by decide +kernel
theorem dX5_isOvertaken_36 : decode cX5_isOvertaken 36 = .ok (.iload_n 2, 1) := by decide +kernel
theorem dX5_isOvertaken_37 : decode cX5_isOvertaken 37 = .ok (.invokevirtual 264, 3) := by decide +kernel
theorem dX5_isOvertaken_40 : decode cX5_isOvertaken 40 = .ok (.if_icmp .eq 5, 3) := by decide +kernel
theorem dX5_isOvertaken_43 : decode cX5_isOvertaken 43 = .ok (.iconst 1, 1) := by decide +kernel
theorem dX5_isOvertaken_44 : decode cX5_isOvertaken 44 = .ok (.ireturn, 1) := by decide +kernel
theorem dX5_isOvertaken_45 : decode cX5_isOvertaken 45 = .ok (.iinc 2 1, 3) := by decide +kernel
theorem dX5_isOvertaken_48 : decode cX5_isOvertaken 48 = .ok (.goto (-46), 3) := by decide +kernel
theorem dX5_isOvertaken_51 : decode cX5_isOvertaken 51 = .ok (.iconst 0, 1) := by decide +kernel
theorem dX5_isOvertaken_52 : decode cX5_isOvertaken 52 = .ok (.ireturn, 1) := by decide +kernel
set_option maxRecDepth 20000 in
theorem ggX6_init_X6_begin : GoodIn wsX6_init wsX6_begin := goodIn_r _ [41, 5, 7, 8, 9, 11, 18, 19, 20, 21, 22, 23, 25, 17, 42, 43, 44, 45, 46, 47, 48, 49, 50, 51, 52, 53, 54, 55, 56, 57, 58, 59, 60, 61, 62, 63, 64, 65, 66, 67, 68, 69, 70, 71, 72, 73, 74, 75, 76] (by decide +kernel) (by decide +kernel)
set_option maxRecDepth 20000 in
theorem gX6_init_X6_begin : GoodIn wsX6_init (wsV RX6 104 RX6 yX6_begin wsX6_begin) := goodIn_app (goodIn_of _ (by decide +kernel)) ggX6_init_X6_begin
theorem dX6_init_0 : decode cX6_init 0 = .ok (.aload_n 0, 1) := by decide +kernel
theorem dX6_init_1 : decode cX6_init 1 = .ok (.invokespecial 1, 3) := by decide +kernel
theorem dX6_init_4 : decode cX6_init 4 = .ok (.aload_n 0, 1) := by decide +kernel
theorem dX6_init_5 : decode cX6_init 5 = .ok (.bipush 8, 2) := by decide +kernel
theorem dX6_init_7 : decode cX6_init 7 = .ok (.newarray .int, 2) := by decide +kernel
theorem dX6_init_9 : decode cX6_init 9 = .ok (.putfield 7, 3) := by decide +kernel
theorem dX6_init_12 : decode cX6_init 12 = .ok (.aload_n 0, 1) := by decide +kernel
theorem dX6_init_13 : decode cX6_init 13 = .ok (.bipush 8, 2) := by decide +kernel
theorem dX6_init_15 : decode cX6_init 15 = .ok (.newarray .boolean, 2) := by decide +kernel
theorem dX6_init_17 : decode cX6_init 17 = .ok (.putfield 13, 3) := by decide +kernel
theorem dX6_init_20 : decode cX6_init 20 = .ok (.aload_n 0, 1) := by decide +kernel
theorem dX6_init_21 : decode cX6_init 21 = .ok (.bipush 8, 2) := by decide +kernel
theorem dX6_init_23 : decode cX6_init 23 = .ok (.newarray .boolean, 2) := by decide +kernel
theorem dX6_init_25 : decode cX6_init 25 = .ok (.putfield 17, 3) := by decide +kernel
theorem dX6_init_28 : decode cX6_init 28 = .ok (.aload_n 0, 1) := by decide +kernel
theorem dX6_init_29 : decode cX6_init 29 = .ok (.iconst 4, 1) := by decide +kernel
theorem dX6_init_30 : decode cX6_init 30 = .ok (.newarray .int, 2) := by decide +kernel
theorem dX6_init_32 : decode cX6_init 32 = .ok (.putfield 20, 3) := by decide +kernel
theorem dX6_init_35 : decode cX6_init 35 = .ok (.aload_n 0, 1) := by decide +kernel
theorem dX6_init_36 : decode cX6_init 36 = .ok (.bipush 32, 2) := by decide +kernel
theorem dX6_init_38 : decode cX6_init 38 = .ok (.newarray .int, 2) := by decide +kernel
theorem dX6_init_40 : decode cX6_init 40 = .ok (.putfield 23, 3) := by decide +kernel
theorem dX6_init_43 : decode cX6_init 43 = .ok (.aload_n 0, 1) := by decide +kernel
theorem dX6_init_44 : decode cX6_init 44 = .ok (.iconst 4, 1) := by decide +kernel
theorem dX6_init_45 : decode cX6_init 45 = .ok (.newarray .boolean, 2) := by decide +kernel
theorem dX6_init_47 : decode cX6_init 47 = .ok (.putfield 26, 3) := by decide +kernel
theorem dX6_init_50 : decode cX6_init 50 = .ok (.aload_n 0, 1) := by decide +kernel
theorem dX6_init_51 : decode cX6_init 51 = .ok (.iconst 3, 1) := by decide +kernel
theorem dX6_init_52 : decode cX6_init 52 = .ok (.newarray .int, 2) := by decide +kernel
theorem dX6_init_54 : decode cX6_init 54 = .ok (.putfield 29, 3) := by decide +kernel
theorem dX6_init_57 : decode cX6_init 57 = .ok (.aload_n 0, 1) := by decide +kernel
theorem dX6_init_58 : decode cX6_init 58 = .ok (.bipush 72, 2) := by decide +kernel
theorem dX6_init_60 : decode cX6_init 60 = .ok (.newarray .int, 2) := by decide +kernel
theorem dX6_init_62 : decode cX6_init 62 = .ok (.putfield 32, 3) := by decide +kernel
theorem dX6_init_65 : decode cX6_init 65 = .ok (.aload_n 0, 1) := by decide +kernel
theorem dX6_init_66 : decode cX6_init 66 = .ok (.bipush 72, 2) := by decide +kernel
theorem dX6_init_68 : decode cX6_init 68 = .ok (.newarray .int, 2) := by decide +kernel
theorem dX6_init_70 : decode cX6_init 70 = .ok (.putfield 35, 3) := by decide +kernel
theorem dX6_init_73 : decode cX6_init 73 = .ok (.aload_n 0, 1) := by decide +kernel
theorem dX6_init_74 : decode cX6_init 74 = .ok (.bipush 72, 2) := by decide +kernel
theorem dX6_init_76 : decode cX6_init 76 = .ok (.newarray .int, 2) := by decide +kernel
theorem dX6_init_78 : decode cX6_init 78 = .ok (.putfield 38, 3) := by decide +kernel
theorem dX6_init_81 : decode cX6_init 81 = .ok (.aload_n 0, 1) := by decide +kernel
theorem dX6_init_82 : decode cX6_init 82 = .ok (.bipush 72, 2) := by decide +kernel
theorem dX6_init_84 : decode cX6_init 84 = .ok (.newarray .int, 2) := by decide +kernel
theorem dX6_init_86 : decode cX6_init 86 = .ok (.putfield 41, 3) := by decide +kernel
theorem dX6_init_89 : decode cX6_init 89 = .ok (.aload_n 0, 1) := by decide +kernel
theorem dX6_init_90 : decode cX6_init 90 = .ok (.bipush 12, 2) := by decide +kernel
theorem dX6_init_92 : decode cX6_init 92 = .ok (.newarray .int, 2) := by decide +kernel
theorem dX6_init_94 : decode cX6_init 94 = .ok (.putfield 44, 3) := by decide +kernel
theorem dX6_init_97 : decode cX6_init 97 = .ok (.aload_n 0, 1) := by decide +kernel
theorem dX6_init_98 : decode cX6_init 98 = .ok (.iconst 3, 1) := by decide +kernel
theorem dX6_init_99 : decode cX6_init 99 = .ok (.newarray .int, 2) := by decide +kernel
theorem dX6_init_101 : decode cX6_init 101 = .ok (.putfield 47, 3) := by decide +kernel
theorem dX6_init_104 : decode cX6_init 104 = .ok (.aload_n 0, 1) := by decide +kernel
theorem dX6_init_105 : decode cX6_init 105 = .ok (.iconst 3, 1) := by decide +kernel
theorem dX6_init_106 : decode cX6_init 106 = .ok (.newarray .int, 2) := by decide +kernel
theorem dX6_init_108 : decode cX6_init 108 = .ok (.putfield 50, 3) := by decide +kernel
theorem dX6_init_111 : decode cX6_init 111 = .ok (.aload_n 0, 1) := by decide +kernel
theorem dX6_init_112 : decode cX6_init 112 = .ok (.iconst 3, 1) := by decide +kernel
theorem dX6_init_113 : decode cX6_init 113 = .ok (.newarray .boolean, 2) := by decide +kernel
theorem dX6_init_115 : decode cX6_init 115 = .ok (.putfield 53, 3) := by decide +kernel
theorem dX6_init_118 : decode cX6_init 118 = .ok (.aload_n 0, 1) := by decide +kernel
theorem dX6_init_119 : decode cX6_init 119 = .ok (.iconst 3, 1) := by decide +kernel
theorem dX6_init_120 : decode cX6_init 120 = .ok (.newarray .int, 2) := by decide +kernel
theorem dX6_init_122 : decode cX6_init 122 = .ok (.putfield 56, 3) := by decide +kernel
theorem dX6_init_125 : decode cX6_init 125 = .ok (.aload_n 0, 1) := by decide +kernel
theorem dX6_init_126 : decode cX6_init 126 = .ok (.iconst 3, 1) := by decide +kernel
theorem dX6_init_127 : decode cX6_init 127 = .ok (.newarray .int, 2) := by decide +kernel
theorem dX6_init_129 : decode cX6_init 129 = .ok (.putfield 59, 3) := by decide +kernel
theorem dX6_init_132 : decode cX6_init 132 = .ok (.aload_n 0, 1) := by decide +kernel
theorem dX6_init_133 : decode cX6_init 133 = .ok (.iconst 3, 1) := by decide +kernel
theorem dX6_init_134 : decode cX6_init 134 = .ok (.newarray .int, 2) := by decide +kernel
theorem dX6_init_136 : decode cX6_init 136 = .ok (.putfield 62, 3) := by decide +kernel
theorem dX6_init_139 : decode cX6_init 139 = .ok (.aload_n 0, 1) := by decide +kernel
theorem dX6_init_140 : decode cX6_init 140 = .ok (.bipush 12, 2) := by decide +kernel
theorem dX6_init_142 : decode cX6_init 142 = .ok (.newarray .int, 2) := by decide +kernel
theorem dX6_init_144 : decode cX6_init 144 = .ok (.putfield 65, 3) := by decide +kernel
theorem dX6_init_147 : decode cX6_init 147 = .ok (.aload_n 0, 1) := by decide +kernel
theorem dX6_init_148 : decode cX6_init 148 = .ok (.iconst 3, 1) := by decide +kernel
theorem dX6_init_149 : decode cX6_init 149 = .ok (.newarray .boolean, 2) := by decide +kernel
theorem dX6_init_151 : decode cX6_init 151 = .ok (.putfield 68, 3) := by decide +kernel
theorem dX6_init_154 : decode cX6_init 154 = .ok (.aload_n 0, 1) := by decide +kernel
theorem dX6_init_155 : decode cX6_init 155 = .ok (.iconst 3, 1) := by decide +kernel
theorem dX6_init_156 : decode cX6_init 156 = .ok (.newarray .int, 2) := by decide +kernel
theorem dX6_init_158 : decode cX6_init 158 = .ok (.putfield 71, 3) := by decide +kernel
theorem dX6_init_161 : decode cX6_init 161 = .ok (.aload_n 0, 1) := by decide +kernel
theorem dX6_init_162 : decode cX6_init 162 = .ok (.iconst 3, 1) := by decide +kernel
theorem dX6_init_163 : decode cX6_init 163 = .ok (.newarray .int, 2) := by decide +kernel
theorem dX6_init_165 : decode cX6_init 165 = .ok (.putfield 74, 3) := by decide +kernel
theorem dX6_init_168 : decode cX6_init 168 = .ok (.aload_n 0, 1) := by decide +kernel
theorem dX6_init_169 : decode cX6_init 169 = .ok (.bipush 12, 2) := by decide +kernel
theorem dX6_init_171 : decode cX6_init 171 = .ok (.newarray .int, 2) := by decide +kernel
theorem dX6_init_173 : decode cX6_init 173 = .ok (.putfield 77, 3) := by decide +kernel
theorem dX6_init_176 : decode cX6_init 176 = .ok (.aload_n 0, 1) := by decide +kernel
theorem dX6_init_177 : decode cX6_init 177 = .ok (.bipush 24, 2) := by decide +kernel
theorem dX6_init_179 : decode cX6_init 179 = .ok (.newarray .boolean, 2) := by decide +kernel
theorem dX6_init_181 : decode cX6_init 181 = .ok (.putfield 80, 3) := by decide +kernel
theorem dX6_init_184 : decode cX6_init 184 = .ok (.aload_n 0, 1) := by decide +kernel
theorem dX6_init_185 : decode cX6_init 185 = .ok (.bipush 24, 2) := by decide +kernel
theorem dX6_init_187 : decode cX6_init 187 = .ok (.newarray .int, 2) := by decide +kernel
theorem dX6_init_189 : decode cX6_init 189 = .ok (.putfield 83, 3) := by decide +kernel
theorem dX6_init_192 : decode cX6_init 192 = .ok (.aload_n 0, 1) := by decide +kernel
theorem dX6_init_193 : decode cX6_init 193 = .ok (.bipush 24, 2) := by decide +kernel
theorem dX6_init_195 : decode cX6_init 195 = .ok (.newarray .boolean, 2) := by decide +kernel
theorem dX6_init_197 : decode cX6_init 197 = .ok (.putfield 86, 3) := by decide +kernel
theorem dX6_init_200 : decode cX6_init 200 = .ok (.aload_n 0, 1) := by decide +kernel
theorem dX6_init_201 : decode cX6_init 201 = .ok (.bipush 24, 2) := by decide +kernel
theorem dX6_init_203 : decode cX6_init 203 = .ok (.newarray .int, 2) := by decide +kernel
theorem dX6_init_205 : decode cX6_init 205 = .ok (.putfield 89, 3) := by decide +kernel
theorem dX6_init_208 : decode cX6_init 208 = .ok (.aload_n 0, 1) := by decide +kernel
theorem dX6_init_209 : decode cX6_init 209 = .ok (.bipush 30, 2) := by decide +kernel
theorem dX6_init_211 : decode cX6_init 211 = .ok (.newarray .int, 2) := by decide +kernel
theorem dX6_init_213 : decode cX6_init 213 = .ok (.putfield 92, 3) := by decide +kernel
theorem dX6_init_216 : decode cX6_init 216 = .ok (.aload_n 0, 1) := by decide +kernel
theorem dX6_init_217 : decode cX6_init 217 = .ok (.bipush 30, 2) := by decide +kernel
theorem dX6_init_219 : decode cX6_init 219 = .ok (.newarray .int, 2) := by decide +kernel
theorem dX6_init_221 : decode cX6_init 221 = .ok (.putfield 95, 3) := by decide +kernel
theorem dX6_init_224 : decode cX6_init 224 = .ok (.aload_n 0, 1) := by decide +kernel
theorem dX6_init_225 : decode cX6_init 225 = .ok (.bipush 30, 2) := by decide +kernel
theorem dX6_init_227 : decode cX6_init 227 = .ok (.newarray .int, 2) := by decide +kernel
theorem dX6_init_229 : decode cX6_init 229 = .ok (.putfield 98, 3) := by decide +kernel
theorem dX6_init_232 : decode cX6_init 232 = .ok (.aload_n 0, 1) := by decide +kernel
theorem dX6_init_233 : decode cX6_init 233 = .ok (.bipush 9, 2) := by decide +kernel
theorem dX6_init_235 : decode cX6_init 235 = .ok (.newarray .int, 2) := by decide +kernel
theorem dX6_init_237 : decode cX6_init 237 = .ok (.putfield 101, 3) := by decide +kernel
theorem dX6_init_240 : decode cX6_init 240 = .ok (.aload_n 0, 1) := by decide +kernel
theorem dX6_init_241 : decode cX6_init 241 = .ok (.invokevirtual 104, 3) := by decide +kernel
theorem dX6_init_244 : decode cX6_init 244 = .ok (.return_, 1) := by decide +kernel
theorem dX6_within_0 : decode cX6_within 0 = .ok (.iload_n 0, 1) := by decide +kernel
theorem dX6_within_1 : decode cX6_within 1 = .ok (.iload_n 1, 1) := by decide +kernel
theorem dX6_within_2 : decode cX6_within 2 = .ok (.if_icmp .lt 12, 3) := by decide +kernel
theorem dX6_within_5 : decode cX6_within 5 = .ok (.iload_n 0, 1) := by decide +kernel
theorem dX6_within_6 : decode cX6_within 6 = .ok (.iload_n 2, 1) := by decide +kernel
theorem dX6_within_7 : decode cX6_within 7 = .ok (.if_icmp .gt 7, 3) := by decide +kernel
theorem dX6_within_10 : decode cX6_within 10 = .ok (.iconst 1, 1) := by decide +kernel
theorem dX6_within_11 : decode cX6_within 11 = .ok (.goto 4, 3) := by decide +kernel
theorem dX6_within_14 : decode cX6_within 14 = .ok (.iconst 0, 1) := by decide +kernel
theorem dX6_within_15 : decode cX6_within 15 = .ok (.ireturn, 1) := by decide +kernel
theorem dX6_begin_0 : decode cX6_begin 0 = .ok (.iconst 0, 1) := by decide +kernel
theorem dX6_begin_1 : decode cX6_begin 1 = .ok (.istore_n 1, 1) := by decide +kernel
theorem dX6_begin_2 : decode cX6_begin 2 = .ok (.iload_n 1, 1) := by decide +kernel
theorem dX6_begin_3 : decode cX6_begin 3 = .ok (.bipush 8, 2) := by decide +kernel
theorem dX6_begin_5 : decode cX6_begin 5 = .ok (.if_icmp .ge 30, 3) := by decide +kernel
theorem dX6_begin_8 : decode cX6_begin 8 = .ok (.aload_n 0, 1) := by decide +kernel
theorem dX6_begin_9 : decode cX6_begin 9 = .ok (.getfield 7, 3) := by decide +kernel
theorem dX6_begin_12 : decode cX6_begin 12 = .ok (.iload_n 1, 1) := by decide +kernel
theorem dX6_begin_13 : decode cX6_begin 13 = .ok (.iconst 0, 1) := by decide +kernel
theorem dX6_begin_14 : decode cX6_begin 14 = .ok (.iastore, 1) := by decide +kernel
theorem dX6_begin_15 : decode cX6_begin 15 = .ok (.aload_n 0, 1) := by decide +kernel
theorem dX6_begin_16 : decode cX6_begin 16 = .ok (.getfield 13, 3) := by decide +kernel
theorem dX6_begin_19 : decode cX6_begin 19 = .ok (.iload_n 1, 1) := by decide +kernel
theorem dX6_begin_20 : decode cX6_begin 20 = .ok (.iconst 0, 1) := by decide +kernel
theorem dX6_begin_21 : decode cX6_begin 21 = .ok (.bastore, 1) := by decide +kernel
theorem dX6_begin_22 : decode cX6_begin 22 = .ok (.aload_n 0, 1) := by decide +kernel
theorem dX6_begin_23 : decode cX6_begin 23 = .ok (.getfield 17, 3) := by decide +kernel
theorem dX6_begin_26 : decode cX6_begin 26 = .ok (.iload_n 1, 1) := by decide +kernel
theorem dX6_begin_27 : decode cX6_begin 27 = .ok (.iconst 0, 1) := by decide +kernel
theorem dX6_begin_28 : decode cX6_begin 28 = .ok (.bastore, 1) := by decide +kernel
theorem dX6_begin_29 : decode cX6_begin 29 = .ok (.iinc 1 1, 3) := by decide +kernel
theorem dX6_begin_32 : decode cX6_begin 32 = .ok (.goto (-30), 3) := by decide +kernel
theorem dX6_begin_35 : decode cX6_begin 35 = .ok (.iconst 0, 1) := by decide +kernel
theorem dX6_begin_36 : decode cX6_begin 36 = .ok (.istore_n 1, 1) := by decide +kernel
theorem dX6_begin_37 : decode cX6_begin 37 = .ok (.iload_n 1, 1) := by decide +kernel
theorem dX6_begin_38 : decode cX6_begin 38 = .ok (.iconst 4, 1) := by decide +kernel
theorem dX6_begin_39 : decode cX6_begin 39 = .ok (.if_icmp .ge 23, 3) := by decide +kernel
theorem dX6_begin_42 : decode cX6_begin 42 = .ok (.aload_n 0, 1) := by decide +kernel
theorem dX6_begin_43 : decode cX6_begin 43 = .ok (.getfield 20, 3) := by decide +kernel
theorem dX6_begin_46 : decode cX6_begin 46 = .ok (.iload_n 1, 1) := by decide +kernel
theorem dX6_begin_47 : decode cX6_begin 47 = .ok (.iconst (-1), 1) := by decide +kernel
theorem dX6_begin_48 : decode cX6_begin 48 = .ok (.iastore, 1) := by decide +kernel
theorem dX6_begin_49 : decode cX6_begin 49 = .ok (.aload_n 0, 1) := by decide +kernel
theorem dX6_begin_50 : decode cX6_begin 50 = .ok (.getfield 26, 3) := by decide +kernel
theorem dX6_begin_53 : decode cX6_begin 53 = .ok (.iload_n 1, 1) := by decide +kernel
theorem dX6_begin_54 : decode cX6_begin 54 = .ok (.iconst 0, 1) := by decide +kernel
theorem dX6_begin_55 : decode cX6_begin 55 = .ok (.bastore, 1) := by decide +kernel
theorem dX6_begin_56 : decode cX6_begin 56 = .ok (.iinc 1 1, 3) := by decide +kernel
theorem dX6_begin_59 : decode cX6_begin 59 = .ok (.goto (-22), 3) := by decide +kernel
theorem dX6_begin_62 : decode cX6_begin 62 = .ok (.iconst 0, 1) := by decide +kernel
theorem dX6_begin_63 : decode cX6_begin 63 = .ok (.istore_n 1, 1) := by decide +kernel
theorem dX6_begin_64 : decode cX6_begin 64 = .ok (.iload_n 1, 1) := by decide +kernel
theorem dX6_begin_65 : decode cX6_begin 65 = .ok (.iconst 3, 1) := by decide +kernel
theorem dX6_begin_66 : decode cX6_begin 66 = .ok (.if_icmp .ge 82, 3) := by decide +kernel
theorem dX6_begin_69 : decode cX6_begin 69 = .ok (.aload_n 0, 1) := by decide +kernel
theorem dX6_begin_70 : decode cX6_begin 70 = .ok (.getfield 47, 3) := by decide +kernel
theorem dX6_begin_73 : decode cX6_begin 73 = .ok (.iload_n 1, 1) := by decide +kernel
theorem dX6_begin_74 : decode cX6_begin 74 = .ok (.iconst 0, 1) := by decide +kernel
theorem dX6_begin_75 : decode cX6_begin 75 = .ok (.iastore, 1) := by decide +kernel
theorem dX6_begin_76 : decode cX6_begin 76 = .ok (.aload_n 0, 1) := by decide +kernel
theorem dX6_begin_77 : decode cX6_begin 77 = .ok (.getfield 50, 3) := by decide +kernel
theorem dX6_begin_80 : decode cX6_begin 80 = .ok (.iload_n 1, 1) := by decide +kernel
theorem dX6_begin_81 : decode cX6_begin 81 = .ok (.iconst 0, 1) := by decide +kernel
theorem dX6_begin_82 : decode cX6_begin 82 = .ok (.iastore, 1) := by decide +kernel
theorem dX6_begin_83 : decode cX6_begin 83 = .ok (.aload_n 0, 1) := by decide +kernel
theorem dX6_begin_84 : decode cX6_begin 84 = .ok (.getfield 53, 3) := by decide +kernel
theorem dX6_begin_87 : decode cX6_begin 87 = .ok (.iload_n 1, 1) := by decide +kernel
theorem dX6_begin_88 : decode cX6_begin 88 = .ok (.iconst 0, 1) := by decide +kernel
theorem dX6_begin_89 : decode cX6_begin 89 = .ok (.bastore, 1) := by decide +kernel
theorem dX6_begin_90 : decode cX6_begin 90 = .ok (.aload_n 0, 1) := by decide +kernel
theorem dX6_begin_91 : decode cX6_begin 91 = .ok (.getfield 56, 3) := by decide +kernel
theorem dX6_begin_94 : decode cX6_begin 94 = .ok (.iload_n 1, 1) := by decide +kernel
theorem dX6_begin_95 : decode cX6_begin 95 = .ok (.iconst 0, 1) := by decide +kernel
theorem dX6_begin_96 : decode cX6_begin 96 = .ok (.iastore, 1) := by decide +kernel
theorem dX6_begin_97 : decode cX6_begin 97 = .ok (.aload_n 0, 1) := by decide +kernel
theorem dX6_begin_98 : decode cX6_begin 98 = .ok (.getfield 59, 3) := by decide +kernel
theorem dX6_begin_101 : decode cX6_begin 101 = .ok (.iload_n 1, 1) := by decide +kernel
theorem dX6_begin_102 : decode cX6_begin 102 = .ok (.iconst 0, 1) := by decide +kernel
theorem dX6_begin_103 : decode cX6_begin 103 = .ok (.iastore, 1) := by decide +kernel
theorem dX6_begin_104 : decode cX6_begin 104 = .ok (.aload_n 0, 1) := by decide +kernel
theorem dX6_begin_105 : decode cX6_begin 105 = .ok (.getfield 62, 3) := by decide +kernel
theorem dX6_begin_108 : decode cX6_begin 108 = .ok (.iload_n 1, 1) := by decide +kernel
theorem dX6_begin_109 : decode cX6_begin 109 = .ok (.iconst 0, 1) := by decide +kernel
theorem dX6_begin_110 : decode cX6_begin 110 = .ok (.iastore, 1) := by decide +kernel
theorem dX6_begin_111 : decode cX6_begin 111 = .ok (.aload_n 0, 1) := by decide +kernel
theorem dX6_begin_112 : decode cX6_begin 112 = .ok (.getfield 68, 3) := by decide +kernel
theorem dX6_begin_115 : decode cX6_begin 115 = .ok (.iload_n 1, 1) := by decide +kernel
theorem dX6_begin_116 : decode cX6_begin 116 = .ok (.iconst 0, 1) := by decide +kernel
theorem dX6_begin_117 : decode cX6_begin 117 = .ok (.bastore, 1) := by decide +kernel
theorem dX6_begin_118 : decode cX6_begin 118 = .ok (.iconst 0, 1) := by decide +kernel
theorem dX6_begin_119 : decode cX6_begin 119 = .ok (.istore_n 2, 1) := by decide +kernel
theorem dX6_begin_120 : decode cX6_begin 120 = .ok (.iload_n 2, 1) := by decide +kernel
theorem dX6_begin_121 : decode cX6_begin 121 = .ok (.iconst 4, 1) := by decide +kernel
theorem dX6_begin_122 : decode cX6_begin 122 = .ok (.if_icmp .ge 20, 3) := by decide +kernel
theorem dX6_begin_125 : decode cX6_begin 125 = .ok (.aload_n 0, 1) := by decide +kernel
theorem dX6_begin_126 : decode cX6_begin 126 = .ok (.getfield 44, 3) := by decide +kernel
theorem dX6_begin_129 : decode cX6_begin 129 = .ok (.iconst 4, 1) := by decide +kernel
theorem dX6_begin_130 : decode cX6_begin 130 = .ok (.iload_n 1, 1) := by decide +kernel
theorem dX6_begin_131 : decode cX6_begin 131 = .ok (.imul, 1) := by decide +kernel
theorem dX6_begin_132 : decode cX6_begin 132 = .ok (.iload_n 2, 1) := by decide +kernel
theorem dX6_begin_133 : decode cX6_begin 133 = .ok (.iadd, 1) := by decide +kernel
theorem dX6_begin_134 : decode cX6_begin 134 = .ok (.iconst 0, 1) := by decide +kernel
theorem dX6_begin_135 : decode cX6_begin 135 = .ok (.iastore, 1) := by decide +kernel
theorem dX6_begin_136 : decode cX6_begin 136 = .ok (.iinc 2 1, 3) := by decide +kernel
theorem dX6_begin_139 : decode cX6_begin 139 = .ok (.goto (-19), 3) := by decide +kernel
theorem dX6_begin_142 : decode cX6_begin 142 = .ok (.iinc 1 1, 3) := by decide +kernel
theorem dX6_begin_145 : decode cX6_begin 145 = .ok (.goto (-81), 3) := by decide +kernel
theorem dX6_begin_148 : decode cX6_begin 148 = .ok (.aload_n 0, 1) := by decide +kernel
theorem dX6_begin_149 : decode cX6_begin 149 = .ok (.iconst 0, 1) := by decide +kernel
theorem dX6_begin_150 : decode cX6_begin 150 = .ok (.putfield 107, 3) := by decide +kernel
theorem dX6_begin_153 : decode cX6_begin 153 = .ok (.return_, 1) := by decide +kernel
set_option maxRecDepth 20000 in
theorem ggX6_isRegister_X6_within : GoodIn wsX6_isRegister wsX6_within := goodIn_r _ [4] (by decide +kernel) (by decide +kernel)
set_option maxRecDepth 20000 in
theorem gX6_isRegister_X6_within : GoodIn wsX6_isRegister (va_wsS RX6 111 yX6_within wsX6_within) := goodIn_app (goodIn_of _ (by decide +kernel)) ggX6_isRegister_X6_within
theorem dX6_isRegister_0 : decode cX6_isRegister 0 = .ok (.iload_n 0, 1) := by decide +kernel
theorem dX6_isRegister_1 : decode cX6_isRegister 1 = .ok (.iconst 0, 1) := by decide +kernel
theorem dX6_isRegister_2 : decode cX6_isRegister 2 = .ok (.iconst 3, 1) := by decide +kernel
theorem dX6_isRegister_3 : decode cX6_isRegister 3 = .ok (.invokestatic 111, 3) := by decide +kernel
theorem dX6_isRegister_6 : decode cX6_isRegister 6 = .ok (.ireturn, 1) := by decide +kernel
set_option maxRecDepth 20000 in
theorem ggX6_isCell_X6_within : GoodIn wsX6_isCell wsX6_within := goodIn_r _ [4] (by decide +kernel) (by decide +kernel)
set_option maxRecDepth 20000 in
theorem gX6_isCell_X6_within : GoodIn wsX6_isCell (va_wsS RX6 111 yX6_within wsX6_within) := goodIn_app (goodIn_of _ (by decide +kernel)) ggX6_isCell_X6_within
theorem dX6_isCell_0 : decode cX6_isCell 0 = .ok (.iload_n 0, 1) := by decide +kernel
theorem dX6_isCell_1 : decode cX6_isCell 1 = .ok (.iconst 0, 1) := by decide +kernel
theorem dX6_isCell_2 : decode cX6_isCell 2 = .ok (.bipush 7, 2) := by decide +kernel
theorem dX6_isCell_4 : decode cX6_isCell 4 = .ok (.invokestatic 111, 3) := by decide +kernel
theorem dX6_isCell_7 : decode cX6_isCell 7 = .ok (.ireturn, 1) := by decide +kernel
set_option maxRecDepth 20000 in
theorem ggX6_isPlaceIn_X6_within : GoodIn wsX6_isPlaceIn wsX6_within := goodIn_r _ [4] (by decide +kernel) (by decide +kernel)
set_option maxRecDepth 20000 in
theorem gX6_isPlaceIn_X6_within : GoodIn wsX6_isPlaceIn (va_wsS RX6 111 yX6_within wsX6_within) := goodIn_app (goodIn_of _ (by decide +kernel)) ggX6_isPlaceIn_X6_within
theorem dX6_isPlaceIn_0 : decode cX6_isPlaceIn 0 = .ok (.iload_n 0, 1) := by decide +kernel
theorem dX6_isPlaceIn_1 : decode cX6_isPlaceIn 1 = .ok (.iconst 0, 1) := by decide +kernel
theorem dX6_isPlaceIn_2 : decode cX6_isPlaceIn 2 = .ok (.bipush 24, 2) := by decide +kernel
theorem dX6_isPlaceIn_4 : decode cX6_isPlaceIn 4 = .ok (.invokestatic 111, 3) := by decide +kernel
theorem dX6_isPlaceIn_7 : decode cX6_isPlaceIn 7 = .ok (.ireturn, 1) := by decide +kernel
set_option maxRecDepth 20000 in
theorem ggX6_fits_X6_isRegister : GoodIn wsX6_fits wsX6_isRegister := goodIn_r _ [4, 5, 6, 3, 7] (by decide +kernel) (by decide +kernel)
set_option maxRecDepth 20000 in
theorem gX6_fits_X6_isRegister : GoodIn wsX6_fits (va_wsS RX6 115 yX6_isRegister wsX6_isRegister) := goodIn_app (goodIn_of _ (by decide +kernel)) ggX6_fits_X6_isRegister
set_option maxRecDepth 20000 in
theorem ggX6_fits_X6_isCell : GoodIn wsX6_fits wsX6_isCell := goodIn_r _ [10, 5, 6, 3, 7] (by decide +kernel) (by decide +kernel)
set_option maxRecDepth 20000 in
theorem gX6_fits_X6_isCell : GoodIn wsX6_fits (va_wsS RX6 119 yX6_isCell wsX6_isCell) := goodIn_app (goodIn_of _ (by decide +kernel)) ggX6_fits_X6_isCell
set_option maxRecDepth 20000 in
theorem ggX6_fits_X6_isPlaceIn : GoodIn wsX6_fits wsX6_isPlaceIn := goodIn_r _ [13, 5, 6, 3, 7] (by decide +kernel) (by decide +kernel)
set_option maxRecDepth 20000 in
theorem gX6_fits_X6_isPlaceIn : GoodIn wsX6_fits (va_wsS RX6 122 yX6_isPlaceIn wsX6_isPlaceIn) := goodIn_app (goodIn_of _ (by decide +kernel)) ggX6_fits_X6_isPlaceIn
set_option maxRecDepth 20000 in
theorem ggX6_fits_X6_within : GoodIn wsX6_fits wsX6_within := goodIn_r _ [7] (by decide +kernel) (by decide +kernel)
set_option maxRecDepth 20000 in
theorem gX6_fits_X6_within : GoodIn wsX6_fits (va_wsS RX6 111 yX6_within wsX6_within) := goodIn_app (goodIn_of _ (by decide +kernel)) ggX6_fits_X6_within
theorem dX6_fits_0 : decode cX6_fits 0 = .ok (.iload_n 0, 1) := by decide +kernel
theorem dX6_fits_1 : decode cX6_fits 1 = .ok (.tableswitch 268 0 19 #[95, 100, 120, 140, 140, 140, 140, 140, 140, 167, 194, 199, 268, 268, 194, 268, 95, 219, 241, 248], 95) := by decide +kernel
theorem dX6_fits_96 : decode cX6_fits 96 = .ok (.iload_n 1, 1) := by decide +kernel
theorem dX6_fits_97 : decode cX6_fits 97 = .ok (.invokestatic 115, 3) := by decide +kernel
theorem dX6_fits_100 : decode cX6_fits 100 = .ok (.ireturn, 1) := by decide +kernel
theorem dX6_fits_101 : decode cX6_fits 101 = .ok (.iload_n 1, 1) := by decide +kernel
theorem dX6_fits_102 : decode cX6_fits 102 = .ok (.invokestatic 115, 3) := by decide +kernel
theorem dX6_fits_105 : decode cX6_fits 105 = .ok (.ifCond .eq 14, 3) := by decide +kernel
theorem dX6_fits_108 : decode cX6_fits 108 = .ok (.iload_n 2, 1) := by decide +kernel
theorem dX6_fits_109 : decode cX6_fits 109 = .ok (.invokestatic 119, 3) := by decide +kernel
theorem dX6_fits_112 : decode cX6_fits 112 = .ok (.ifCond .eq 7, 3) := by decide +kernel
theorem dX6_fits_115 : decode cX6_fits 115 = .ok (.iconst 1, 1) := by decide +kernel
theorem dX6_fits_116 : decode cX6_fits 116 = .ok (.goto 4, 3) := by decide +kernel
theorem dX6_fits_119 : decode cX6_fits 119 = .ok (.iconst 0, 1) := by decide +kernel
theorem dX6_fits_120 : decode cX6_fits 120 = .ok (.ireturn, 1) := by decide +kernel
theorem dX6_fits_121 : decode cX6_fits 121 = .ok (.iload_n 1, 1) := by decide +kernel
theorem dX6_fits_122 : decode cX6_fits 122 = .ok (.invokestatic 119, 3) := by decide +kernel
theorem dX6_fits_125 : decode cX6_fits 125 = .ok (.ifCond .eq 14, 3) := by decide +kernel
theorem dX6_fits_128 : decode cX6_fits 128 = .ok (.iload_n 2, 1) := by decide +kernel
theorem dX6_fits_129 : decode cX6_fits 129 = .ok (.invokestatic 115, 3) := by decide +kernel
theorem dX6_fits_132 : decode cX6_fits 132 = .ok (.ifCond .eq 7, 3) := by decide +kernel
theorem dX6_fits_135 : decode cX6_fits 135 = .ok (.iconst 1, 1) := by decide +kernel
theorem dX6_fits_136 : decode cX6_fits 136 = .ok (.goto 4, 3) := by decide +kernel
theorem dX6_fits_139 : decode cX6_fits 139 = .ok (.iconst 0, 1) := by decide +kernel
theorem dX6_fits_140 : decode cX6_fits 140 = .ok (.ireturn, 1) := by decide +kernel
theorem dX6_fits_141 : decode cX6_fits 141 = .ok (.iload_n 1, 1) := by decide +kernel
theorem dX6_fits_142 : decode cX6_fits 142 = .ok (.invokestatic 115, 3) := by decide +kernel
theorem dX6_fits_145 : decode cX6_fits 145 = .ok (.ifCond .eq 21, 3) := by decide +kernel
theorem dX6_fits_148 : decode cX6_fits 148 = .ok (.iload_n 2, 1) := by decide +kernel
theorem dX6_fits_149 : decode cX6_fits 149 = .ok (.invokestatic 115, 3) := by decide +kernel
theorem dX6_fits_152 : decode cX6_fits 152 = .ok (.ifCond .eq 14, 3) := by decide +kernel
theorem dX6_fits_155 : decode cX6_fits 155 = .ok (.iload_n 3, 1) := by decide +kernel
theorem dX6_fits_156 : decode cX6_fits 156 = .ok (.invokestatic 115, 3) := by decide +kernel
theorem dX6_fits_159 : decode cX6_fits 159 = .ok (.ifCond .eq 7, 3) := by decide +kernel
theorem dX6_fits_162 : decode cX6_fits 162 = .ok (.iconst 1, 1) := by decide +kernel
theorem dX6_fits_163 : decode cX6_fits 163 = .ok (.goto 4, 3) := by decide +kernel
theorem dX6_fits_166 : decode cX6_fits 166 = .ok (.iconst 0, 1) := by decide +kernel
theorem dX6_fits_167 : decode cX6_fits 167 = .ok (.ireturn, 1) := by decide +kernel
theorem dX6_fits_168 : decode cX6_fits 168 = .ok (.iload_n 1, 1) := by decide +kernel
theorem dX6_fits_169 : decode cX6_fits 169 = .ok (.invokestatic 119, 3) := by decide +kernel
theorem dX6_fits_172 : decode cX6_fits 172 = .ok (.ifCond .eq 21, 3) := by decide +kernel
theorem dX6_fits_175 : decode cX6_fits 175 = .ok (.iload_n 2, 1) := by decide +kernel
theorem dX6_fits_176 : decode cX6_fits 176 = .ok (.invokestatic 115, 3) := by decide +kernel
theorem dX6_fits_179 : decode cX6_fits 179 = .ok (.ifCond .eq 14, 3) := by decide +kernel
theorem dX6_fits_182 : decode cX6_fits 182 = .ok (.iload_n 3, 1) := by decide +kernel
theorem dX6_fits_183 : decode cX6_fits 183 = .ok (.invokestatic 115, 3) := by decide +kernel
theorem dX6_fits_186 : decode cX6_fits 186 = .ok (.ifCond .eq 7, 3) := by decide +kernel
theorem dX6_fits_189 : decode cX6_fits 189 = .ok (.iconst 1, 1) := by decide +kernel
theorem dX6_fits_190 : decode cX6_fits 190 = .ok (.goto 4, 3) := by decide +kernel
theorem dX6_fits_193 : decode cX6_fits 193 = .ok (.iconst 0, 1) := by decide +kernel
theorem dX6_fits_194 : decode cX6_fits 194 = .ok (.ireturn, 1) := by decide +kernel
theorem dX6_fits_195 : decode cX6_fits 195 = .ok (.iload_n 1, 1) := by decide +kernel
theorem dX6_fits_196 : decode cX6_fits 196 = .ok (.invokestatic 122, 3) := by decide +kernel
theorem dX6_fits_199 : decode cX6_fits 199 = .ok (.ireturn, 1) := by decide +kernel
theorem dX6_fits_200 : decode cX6_fits 200 = .ok (.iload_n 1, 1) := by decide +kernel
theorem dX6_fits_201 : decode cX6_fits 201 = .ok (.invokestatic 115, 3) := by decide +kernel
theorem dX6_fits_204 : decode cX6_fits 204 = .ok (.ifCond .eq 14, 3) := by decide +kernel
theorem dX6_fits_207 : decode cX6_fits 207 = .ok (.iload_n 2, 1) := by decide +kernel
theorem dX6_fits_208 : decode cX6_fits 208 = .ok (.invokestatic 122, 3) := by decide +kernel
theorem dX6_fits_211 : decode cX6_fits 211 = .ok (.ifCond .eq 7, 3) := by decide +kernel
theorem dX6_fits_214 : decode cX6_fits 214 = .ok (.iconst 1, 1) := by decide +kernel
theorem dX6_fits_215 : decode cX6_fits 215 = .ok (.goto 4, 3) := by decide +kernel
theorem dX6_fits_218 : decode cX6_fits 218 = .ok (.iconst 0, 1) := by decide +kernel
theorem dX6_fits_219 : decode cX6_fits 219 = .ok (.ireturn, 1) := by decide +kernel
theorem dX6_fits_220 : decode cX6_fits 220 = .ok (.iload_n 1, 1) := by decide +kernel
theorem dX6_fits_221 : decode cX6_fits 221 = .ok (.iconst 0, 1) := by decide +kernel
theorem dX6_fits_222 : decode cX6_fits 222 = .ok (.iconst 3, 1) := by decide +kernel
theorem dX6_fits_223 : decode cX6_fits 223 = .ok (.invokestatic 111, 3) := by decide +kernel
theorem dX6_fits_226 : decode cX6_fits 226 = .ok (.ifCond .eq 14, 3) := by decide +kernel
theorem dX6_fits_229 : decode cX6_fits 229 = .ok (.iload_n 2, 1) := by decide +kernel
theorem dX6_fits_230 : decode cX6_fits 230 = .ok (.invokestatic 115, 3) := by decide +kernel
theorem dX6_fits_233 : decode cX6_fits 233 = .ok (.ifCond .eq 7, 3) := by decide +kernel
theorem dX6_fits_236 : decode cX6_fits 236 = .ok (.iconst 1, 1) := by decide +kernel
theorem dX6_fits_237 : decode cX6_fits 237 = .ok (.goto 4, 3) := by decide +kernel
theorem dX6_fits_240 : decode cX6_fits 240 = .ok (.iconst 0, 1) := by decide +kernel
theorem dX6_fits_241 : decode cX6_fits 241 = .ok (.ireturn, 1) := by decide +kernel
theorem dX6_fits_242 : decode cX6_fits 242 = .ok (.iload_n 1, 1) := by decide +kernel
theorem dX6_fits_243 : decode cX6_fits 243 = .ok (.iconst 0, 1) := by decide +kernel
theorem dX6_fits_244 : decode cX6_fits 244 = .ok (.iconst 3, 1) := by decide +kernel
theorem dX6_fits_245 : decode cX6_fits 245 = .ok (.invokestatic 111, 3) := by decide +kernel
theorem dX6_fits_248 : decode cX6_fits 248 = .ok (.ireturn, 1) := by decide +kernel
theorem dX6_fits_249 : decode cX6_fits 249 = .ok (.iload_n 1, 1) := by decide +kernel
theorem dX6_fits_250 : decode cX6_fits 250 = .ok (.invokestatic 119, 3) := by decide +kernel
theorem dX6_fits_253 : decode cX6_fits 253 = .ok (.ifCond .eq 14, 3) := by decide +kernel
theorem dX6_fits_256 : decode cX6_fits 256 = .ok (.iload_n 2, 1) := by decide +kernel
theorem dX6_fits_257 : decode cX6_fits 257 = .ok (.invokestatic 119, 3) := by decide +kernel
theorem dX6_fits_260 : decode cX6_fits 260 = .ok (.ifCond .eq 7, 3) := by decide +kernel
theorem dX6_fits_263 : decode cX6_fits 263 = .ok (.iconst 1, 1) := by decide +kernel
theorem dX6_fits_264 : decode cX6_fits 264 = .ok (.goto 4, 3) := by decide +kernel
theorem dX6_fits_267 : decode cX6_fits 267 = .ok (.iconst 0, 1) := by decide +kernel
theorem dX6_fits_268 : decode cX6_fits 268 = .ok (.ireturn, 1) := by decide +kernel
theorem dX6_fits_269 : decode cX6_fits 269 = .ok (.iload_n 0, 1) := by decide +kernel
theorem dX6_fits_270 : decode cX6_fits 270 = .ok (.bipush 12, 2) := by decide +kernel
theorem dX6_fits_272 : decode cX6_fits 272 = .ok (.bipush 15, 2) := by decide +kernel
theorem dX6_fits_274 : decode cX6_fits 274 = .ok (.invokestatic 111, 3) := by decide +kernel
theorem dX6_fits_277 : decode cX6_fits 277 = .ok (.ireturn, 1) := by decide +kernel
set_option maxRecDepth 20000 in
theorem ggX6_act_X6_within : GoodIn wsX6_act wsX6_within := goodIn_r _ [10] (by decide +kernel) (by decide +kernel)
set_option maxRecDepth 20000 in
theorem gX6_act_X6_within : GoodIn wsX6_act (va_wsS RX6 111 yX6_within wsX6_within) := goodIn_app (goodIn_of _ (by decide +kernel)) ggX6_act_X6_within
set_option maxRecDepth 20000 in
theorem ggX6_act_X6_fits : GoodIn wsX6_act wsX6_fits := goodIn_r _ [13, 14, 15, 9, 16, 7, 8, 10, 17, 18, 19, 20, 21, 22] (by decide +kernel) (by decide +kernel)
set_option maxRecDepth 20000 in
theorem gX6_act_X6_fits : GoodIn wsX6_act (va_wsS RX6 125 yX6_fits wsX6_fits) := goodIn_app (goodIn_of _ (by decide +kernel)) ggX6_act_X6_fits
theorem dX6_act_0 : decode cX6_act 0 = .ok (.iload_n 1, 1) := by decide +kernel
theorem dX6_act_1 : decode cX6_act 1 = .ok (.iconst 0, 1) := by decide +kernel
theorem dX6_act_2 : decode cX6_act 2 = .ok (.iconst 2, 1) := by decide +kernel
theorem dX6_act_3 : decode cX6_act 3 = .ok (.invokestatic 111, 3) := by decide +kernel
theorem dX6_act_6 : decode cX6_act 6 = .ok (.ifCond .eq 15, 3) := by decide +kernel
theorem dX6_act_9 : decode cX6_act 9 = .ok (.iload_n 2, 1) := by decide +kernel
theorem dX6_act_10 : decode cX6_act 10 = .ok (.iload_n 3, 1) := by decide +kernel
theorem dX6_act_11 : decode cX6_act 11 = .ok (.iload 4, 2) := by decide +kernel
theorem dX6_act_13 : decode cX6_act 13 = .ok (.iload 5, 2) := by decide +kernel
theorem dX6_act_15 : decode cX6_act 15 = .ok (.invokestatic 125, 3) := by decide +kernel
theorem dX6_act_18 : decode cX6_act 18 = .ok (.ifCond .ne 6, 3) := by decide +kernel
theorem dX6_act_21 : decode cX6_act 21 = .ok (.bipush (-2), 2) := by decide +kernel
theorem dX6_act_23 : decode cX6_act 23 = .ok (.ireturn, 1) := by decide +kernel
theorem dX6_act_24 : decode cX6_act 24 = .ok (.aload_n 0, 1) := by decide +kernel
theorem dX6_act_25 : decode cX6_act 25 = .ok (.getfield 56, 3) := by decide +kernel
theorem dX6_act_28 : decode cX6_act 28 = .ok (.iload_n 1, 1) := by decide +kernel
theorem dX6_act_29 : decode cX6_act 29 = .ok (.iaload, 1) := by decide +kernel
theorem dX6_act_30 : decode cX6_act 30 = .ok (.ifCond .le 6, 3) := by decide +kernel
theorem dX6_act_33 : decode cX6_act 33 = .ok (.bipush (-3), 2) := by decide +kernel
theorem dX6_act_35 : decode cX6_act 35 = .ok (.ireturn, 1) := by decide +kernel
theorem dX6_act_36 : decode cX6_act 36 = .ok (.aload_n 0, 1) := by decide +kernel
theorem dX6_act_37 : decode cX6_act 37 = .ok (.getfield 29, 3) := by decide +kernel
theorem dX6_act_40 : decode cX6_act 40 = .ok (.iload_n 1, 1) := by decide +kernel
theorem dX6_act_41 : decode cX6_act 41 = .ok (.iaload, 1) := by decide +kernel
theorem dX6_act_42 : decode cX6_act 42 = .ok (.bipush 24, 2) := by decide +kernel
theorem dX6_act_44 : decode cX6_act 44 = .ok (.if_icmp .ne 6, 3) := by decide +kernel
theorem dX6_act_47 : decode cX6_act 47 = .ok (.bipush (-4), 2) := by decide +kernel
theorem dX6_act_49 : decode cX6_act 49 = .ok (.ireturn, 1) := by decide +kernel
theorem dX6_act_50 : decode cX6_act 50 = .ok (.bipush 24, 2) := by decide +kernel
theorem dX6_act_52 : decode cX6_act 52 = .ok (.iload_n 1, 1) := by decide +kernel
theorem dX6_act_53 : decode cX6_act 53 = .ok (.imul, 1) := by decide +kernel
theorem dX6_act_54 : decode cX6_act 54 = .ok (.aload_n 0, 1) := by decide +kernel
theorem dX6_act_55 : decode cX6_act 55 = .ok (.getfield 29, 3) := by decide +kernel
theorem dX6_act_58 : decode cX6_act 58 = .ok (.iload_n 1, 1) := by decide +kernel
theorem dX6_act_59 : decode cX6_act 59 = .ok (.iaload, 1) := by decide +kernel
theorem dX6_act_60 : decode cX6_act 60 = .ok (.iadd, 1) := by decide +kernel
theorem dX6_act_61 : decode cX6_act 61 = .ok (.istore 6, 2) := by decide +kernel
theorem dX6_act_63 : decode cX6_act 63 = .ok (.aload_n 0, 1) := by decide +kernel
theorem dX6_act_64 : decode cX6_act 64 = .ok (.getfield 32, 3) := by decide +kernel
theorem dX6_act_67 : decode cX6_act 67 = .ok (.iload 6, 2) := by decide +kernel
theorem dX6_act_69 : decode cX6_act 69 = .ok (.iload_n 2, 1) := by decide +kernel
theorem dX6_act_70 : decode cX6_act 70 = .ok (.iastore, 1) := by decide +kernel
theorem dX6_act_71 : decode cX6_act 71 = .ok (.aload_n 0, 1) := by decide +kernel
theorem dX6_act_72 : decode cX6_act 72 = .ok (.getfield 35, 3) := by decide +kernel
theorem dX6_act_75 : decode cX6_act 75 = .ok (.iload 6, 2) := by decide +kernel
theorem dX6_act_77 : decode cX6_act 77 = .ok (.iload_n 3, 1) := by decide +kernel
theorem dX6_act_78 : decode cX6_act 78 = .ok (.iastore, 1) := by decide +kernel
theorem dX6_act_79 : decode cX6_act 79 = .ok (.aload_n 0, 1) := by decide +kernel
theorem dX6_act_80 : decode cX6_act 80 = .ok (.getfield 38, 3) := by decide +kernel
theorem dX6_act_83 : decode cX6_act 83 = .ok (.iload 6, 2) := by decide +kernel
theorem dX6_act_85 : decode cX6_act 85 = .ok (.iload 4, 2) := by decide +kernel
theorem dX6_act_87 : decode cX6_act 87 = .ok (.iastore, 1) := by decide +kernel
theorem dX6_act_88 : decode cX6_act 88 = .ok (.aload_n 0, 1) := by decide +kernel
theorem dX6_act_89 : decode cX6_act 89 = .ok (.getfield 41, 3) := by decide +kernel
theorem dX6_act_92 : decode cX6_act 92 = .ok (.iload 6, 2) := by decide +kernel
theorem dX6_act_94 : decode cX6_act 94 = .ok (.iload 5, 2) := by decide +kernel
theorem dX6_act_96 : decode cX6_act 96 = .ok (.iastore, 1) := by decide +kernel
theorem dX6_act_97 : decode cX6_act 97 = .ok (.aload_n 0, 1) := by decide +kernel
theorem dX6_act_98 : decode cX6_act 98 = .ok (.getfield 29, 3) := by decide +kernel
theorem dX6_act_101 : decode cX6_act 101 = .ok (.iload_n 1, 1) := by decide +kernel
theorem dX6_act_102 : decode cX6_act 102 = .ok (.dup2, 1) := by decide +kernel
theorem dX6_act_103 : decode cX6_act 103 = .ok (.iaload, 1) := by decide +kernel
theorem dX6_act_104 : decode cX6_act 104 = .ok (.iconst 1, 1) := by decide +kernel
theorem dX6_act_105 : decode cX6_act 105 = .ok (.iadd, 1) := by decide +kernel
theorem dX6_act_106 : decode cX6_act 106 = .ok (.iastore, 1) := by decide +kernel
theorem dX6_act_107 : decode cX6_act 107 = .ok (.aload_n 0, 1) := by decide +kernel
theorem dX6_act_108 : decode cX6_act 108 = .ok (.getfield 29, 3) := by decide +kernel
theorem dX6_act_111 : decode cX6_act 111 = .ok (.iload_n 1, 1) := by decide +kernel
theorem dX6_act_112 : decode cX6_act 112 = .ok (.iaload, 1) := by decide +kernel
theorem dX6_act_113 : decode cX6_act 113 = .ok (.ireturn, 1) := by decide +kernel
theorem dX6_stateOf_0 : decode cX6_stateOf 0 = .ok (.aload_n 0, 1) := by decide +kernel
theorem dX6_stateOf_1 : decode cX6_stateOf 1 = .ok (.getfield 53, 3) := by decide +kernel
theorem dX6_stateOf_4 : decode cX6_stateOf 4 = .ok (.iload_n 1, 1) := by decide +kernel
theorem dX6_stateOf_5 : decode cX6_stateOf 5 = .ok (.baload, 1) := by decide +kernel
theorem dX6_stateOf_6 : decode cX6_stateOf 6 = .ok (.ifCond .eq 5, 3) := by decide +kernel
theorem dX6_stateOf_9 : decode cX6_stateOf 9 = .ok (.iconst 2, 1) := by decide +kernel
theorem dX6_stateOf_10 : decode cX6_stateOf 10 = .ok (.ireturn, 1) := by decide +kernel
theorem dX6_stateOf_11 : decode cX6_stateOf 11 = .ok (.aload_n 0, 1) := by decide +kernel
theorem dX6_stateOf_12 : decode cX6_stateOf 12 = .ok (.getfield 47, 3) := by decide +kernel
theorem dX6_stateOf_15 : decode cX6_stateOf 15 = .ok (.iload_n 1, 1) := by decide +kernel
theorem dX6_stateOf_16 : decode cX6_stateOf 16 = .ok (.iaload, 1) := by decide +kernel
theorem dX6_stateOf_17 : decode cX6_stateOf 17 = .ok (.aload_n 0, 1) := by decide +kernel
theorem dX6_stateOf_18 : decode cX6_stateOf 18 = .ok (.getfield 29, 3) := by decide +kernel
theorem dX6_stateOf_21 : decode cX6_stateOf 21 = .ok (.iload_n 1, 1) := by decide +kernel
theorem dX6_stateOf_22 : decode cX6_stateOf 22 = .ok (.iaload, 1) := by decide +kernel
theorem dX6_stateOf_23 : decode cX6_stateOf 23 = .ok (.if_icmp .lt 25, 3) := by decide +kernel
theorem dX6_stateOf_26 : decode cX6_stateOf 26 = .ok (.aload_n 0, 1) := by decide +kernel
theorem dX6_stateOf_27 : decode cX6_stateOf 27 = .ok (.getfield 62, 3) := by decide +kernel
theorem dX6_stateOf_30 : decode cX6_stateOf 30 = .ok (.iload_n 1, 1) := by decide +kernel
theorem dX6_stateOf_31 : decode cX6_stateOf 31 = .ok (.iaload, 1) := by decide +kernel
theorem dX6_stateOf_32 : decode cX6_stateOf 32 = .ok (.ifCond .ne 16, 3) := by decide +kernel
theorem dX6_stateOf_35 : decode cX6_stateOf 35 = .ok (.aload_n 0, 1) := by decide +kernel
theorem dX6_stateOf_36 : decode cX6_stateOf 36 = .ok (.getfield 68, 3) := by decide +kernel
theorem dX6_stateOf_39 : decode cX6_stateOf 39 = .ok (.iload_n 1, 1) := by decide +kernel
theorem dX6_stateOf_40 : decode cX6_stateOf 40 = .ok (.baload, 1) := by decide +kernel
theorem dX6_stateOf_41 : decode cX6_stateOf 41 = .ok (.ifCond .ne 7, 3) := by decide +kernel
theorem dX6_stateOf_44 : decode cX6_stateOf 44 = .ok (.iconst 1, 1) := by decide +kernel
theorem dX6_stateOf_45 : decode cX6_stateOf 45 = .ok (.goto 4, 3) := by decide +kernel
theorem dX6_stateOf_48 : decode cX6_stateOf 48 = .ok (.iconst 0, 1) := by decide +kernel
theorem dX6_stateOf_49 : decode cX6_stateOf 49 = .ok (.ireturn, 1) := by decide +kernel
theorem dX6_note_0 : decode cX6_note 0 = .ok (.aload_n 0, 1) := by decide +kernel
theorem dX6_note_1 : decode cX6_note 1 = .ok (.getfield 92, 3) := by decide +kernel
theorem dX6_note_4 : decode cX6_note 4 = .ok (.aload_n 0, 1) := by decide +kernel
theorem dX6_note_5 : decode cX6_note 5 = .ok (.getfield 107, 3) := by decide +kernel
theorem dX6_note_8 : decode cX6_note 8 = .ok (.bipush 30, 2) := by decide +kernel
theorem dX6_note_10 : decode cX6_note 10 = .ok (.irem, 1) := by decide +kernel
theorem dX6_note_11 : decode cX6_note 11 = .ok (.iload_n 1, 1) := by decide +kernel
theorem dX6_note_12 : decode cX6_note 12 = .ok (.iastore, 1) := by decide +kernel
theorem dX6_note_13 : decode cX6_note 13 = .ok (.aload_n 0, 1) := by decide +kernel
theorem dX6_note_14 : decode cX6_note 14 = .ok (.getfield 95, 3) := by decide +kernel
theorem dX6_note_17 : decode cX6_note 17 = .ok (.aload_n 0, 1) := by decide +kernel
theorem dX6_note_18 : decode cX6_note 18 = .ok (.getfield 107, 3) := by decide +kernel
theorem dX6_note_21 : decode cX6_note 21 = .ok (.bipush 30, 2) := by decide +kernel
theorem dX6_note_23 : decode cX6_note 23 = .ok (.irem, 1) := by decide +kernel
theorem dX6_note_24 : decode cX6_note 24 = .ok (.iload_n 2, 1) := by decide +kernel
theorem dX6_note_25 : decode cX6_note 25 = .ok (.iastore, 1) := by decide +kernel
theorem dX6_note_26 : decode cX6_note 26 = .ok (.aload_n 0, 1) := by decide +kernel
theorem dX6_note_27 : decode cX6_note 27 = .ok (.getfield 98, 3) := by decide +kernel
theorem dX6_note_30 : decode cX6_note 30 = .ok (.aload_n 0, 1) := by decide +kernel
theorem dX6_note_31 : decode cX6_note 31 = .ok (.getfield 107, 3) := by decide +kernel
theorem dX6_note_34 : decode cX6_note 34 = .ok (.bipush 30, 2) := by decide +kernel
theorem dX6_note_36 : decode cX6_note 36 = .ok (.irem, 1) := by decide +kernel
theorem dX6_note_37 : decode cX6_note 37 = .ok (.iload_n 3, 1) := by decide +kernel
theorem dX6_note_38 : decode cX6_note 38 = .ok (.iastore, 1) := by decide +kernel
theorem dX6_note_39 : decode cX6_note 39 = .ok (.aload_n 0, 1) := by decide +kernel
theorem dX6_note_40 : decode cX6_note 40 = .ok (.dup, 1) := by decide +kernel
theorem dX6_note_41 : decode cX6_note 41 = .ok (.getfield 107, 3) := by decide +kernel
theorem dX6_note_44 : decode cX6_note 44 = .ok (.iconst 1, 1) := by decide +kernel
theorem dX6_note_45 : decode cX6_note 45 = .ok (.iadd, 1) := by decide +kernel
theorem dX6_note_46 : decode cX6_note 46 = .ok (.putfield 107, 3) := by decide +kernel
theorem dX6_note_49 : decode cX6_note 49 = .ok (.return_, 1) := by decide +kernel
set_option maxRecDepth 20000 in
theorem ggX6_write_X6_note : GoodIn wsX6_write wsX6_note := goodIn_r _ [7, 8, 9, 10, 11, 12, 13, 14, 15, 16, 17, 18, 19, 20, 21, 22, 23, 24, 25, 26, 27, 28, 29, 30, 31, 32, 33, 34, 35, 36, 37, 38, 39, 40, 41, 42, 43, 44, 45] (by decide +kernel) (by decide +kernel)
set_option maxRecDepth 20000 in
theorem gX6_write_X6_note : GoodIn wsX6_write (wsV RX6 129 RX6 yX6_note wsX6_note) := goodIn_app (goodIn_of _ (by decide +kernel)) ggX6_write_X6_note
theorem dX6_write_0 : decode cX6_write 0 = .ok (.aload_n 0, 1) := by decide +kernel
theorem dX6_write_1 : decode cX6_write 1 = .ok (.getfield 7, 3) := by decide +kernel
theorem dX6_write_4 : decode cX6_write 4 = .ok (.iload_n 2, 1) := by decide +kernel
theorem dX6_write_5 : decode cX6_write 5 = .ok (.iload_n 3, 1) := by decide +kernel
theorem dX6_write_6 : decode cX6_write 6 = .ok (.iastore, 1) := by decide +kernel
theorem dX6_write_7 : decode cX6_write 7 = .ok (.aload_n 0, 1) := by decide +kernel
theorem dX6_write_8 : decode cX6_write 8 = .ok (.getfield 13, 3) := by decide +kernel
theorem dX6_write_11 : decode cX6_write 11 = .ok (.iload_n 2, 1) := by decide +kernel
theorem dX6_write_12 : decode cX6_write 12 = .ok (.iconst 0, 1) := by decide +kernel
theorem dX6_write_13 : decode cX6_write 13 = .ok (.bastore, 1) := by decide +kernel
theorem dX6_write_14 : decode cX6_write 14 = .ok (.aload_n 0, 1) := by decide +kernel
theorem dX6_write_15 : decode cX6_write 15 = .ok (.iload_n 1, 1) := by decide +kernel
theorem dX6_write_16 : decode cX6_write 16 = .ok (.iload_n 2, 1) := by decide +kernel
theorem dX6_write_17 : decode cX6_write 17 = .ok (.iload_n 3, 1) := by decide +kernel
theorem dX6_write_18 : decode cX6_write 18 = .ok (.invokevirtual 129, 3) := by decide +kernel
theorem dX6_write_21 : decode cX6_write 21 = .ok (.return_, 1) := by decide +kernel
set_option maxRecDepth 20000 in
theorem ggX6_readPlain_X6_write : GoodIn wsX6_readPlain wsX6_write := goodIn_r _ [10, 4, 2, 11, 12, 13, 9, 14, 15, 16, 17, 18, 19, 20, 21, 22, 23, 24, 25, 26, 27, 28, 29, 30, 31, 32, 33, 34, 35, 36, 37, 38, 39, 40, 41, 42, 43, 44, 45, 46, 47, 48, 49, 50, 51, 52] (by decide +kernel) (by decide +kernel)
set_option maxRecDepth 20000 in
theorem gX6_readPlain_X6_write : GoodIn wsX6_readPlain (wsV RX6 136 RX6 yX6_write wsX6_write) := goodIn_app (goodIn_of _ (by decide +kernel)) ggX6_readPlain_X6_write
theorem dX6_readPlain_0 : decode cX6_readPlain 0 = .ok (.iconst 0, 1) := by decide +kernel
theorem dX6_readPlain_1 : decode cX6_readPlain 1 = .ok (.istore_n 3, 1) := by decide +kernel
theorem dX6_readPlain_2 : decode cX6_readPlain 2 = .ok (.iload_n 2, 1) := by decide +kernel
theorem dX6_readPlain_3 : decode cX6_readPlain 3 = .ok (.istore 4, 2) := by decide +kernel
theorem dX6_readPlain_5 : decode cX6_readPlain 5 = .ok (.iconst 0, 1) := by decide +kernel
theorem dX6_readPlain_6 : decode cX6_readPlain 6 = .ok (.istore 5, 2) := by decide +kernel
theorem dX6_readPlain_8 : decode cX6_readPlain 8 = .ok (.iconst 0, 1) := by decide +kernel
theorem dX6_readPlain_9 : decode cX6_readPlain 9 = .ok (.istore 6, 2) := by decide +kernel
theorem dX6_readPlain_11 : decode cX6_readPlain 11 = .ok (.iload 6, 2) := by decide +kernel
theorem dX6_readPlain_13 : decode cX6_readPlain 13 = .ok (.bipush 8, 2) := by decide +kernel
theorem dX6_readPlain_15 : decode cX6_readPlain 15 = .ok (.if_icmp .ge 17, 3) := by decide +kernel
theorem dX6_readPlain_18 : decode cX6_readPlain 18 = .ok (.aload_n 0, 1) := by decide +kernel
theorem dX6_readPlain_19 : decode cX6_readPlain 19 = .ok (.getfield 17, 3) := by decide +kernel
theorem dX6_readPlain_22 : decode cX6_readPlain 22 = .ok (.iload 6, 2) := by decide +kernel
theorem dX6_readPlain_24 : decode cX6_readPlain 24 = .ok (.iconst 0, 1) := by decide +kernel
theorem dX6_readPlain_25 : decode cX6_readPlain 25 = .ok (.bastore, 1) := by decide +kernel
theorem dX6_readPlain_26 : decode cX6_readPlain 26 = .ok (.iinc 6 1, 3) := by decide +kernel
theorem dX6_readPlain_29 : decode cX6_readPlain 29 = .ok (.goto (-18), 3) := by decide +kernel
theorem dX6_readPlain_32 : decode cX6_readPlain 32 = .ok (.aload_n 0, 1) := by decide +kernel
theorem dX6_readPlain_33 : decode cX6_readPlain 33 = .ok (.getfield 13, 3) := by decide +kernel
theorem dX6_readPlain_36 : decode cX6_readPlain 36 = .ok (.iload 4, 2) := by decide +kernel
theorem dX6_readPlain_38 : decode cX6_readPlain 38 = .ok (.baload, 1) := by decide +kernel
theorem dX6_readPlain_39 : decode cX6_readPlain 39 = .ok (.ifCond .eq 48, 3) := by decide +kernel
theorem dX6_readPlain_42 : decode cX6_readPlain 42 = .ok (.iload 5, 2) := by decide +kernel
theorem dX6_readPlain_44 : decode cX6_readPlain 44 = .ok (.ifCond .ne 43, 3) := by decide +kernel
theorem dX6_readPlain_47 : decode cX6_readPlain 47 = .ok (.aload_n 0, 1) := by decide +kernel
theorem dX6_readPlain_48 : decode cX6_readPlain 48 = .ok (.getfield 17, 3) := by decide +kernel
theorem dX6_readPlain_51 : decode cX6_readPlain 51 = .ok (.iload 4, 2) := by decide +kernel
theorem dX6_readPlain_53 : decode cX6_readPlain 53 = .ok (.baload, 1) := by decide +kernel
theorem dX6_readPlain_54 : decode cX6_readPlain 54 = .ok (.istore 5, 2) := by decide +kernel
theorem dX6_readPlain_56 : decode cX6_readPlain 56 = .ok (.aload_n 0, 1) := by decide +kernel
theorem dX6_readPlain_57 : decode cX6_readPlain 57 = .ok (.getfield 17, 3) := by decide +kernel
theorem dX6_readPlain_60 : decode cX6_readPlain 60 = .ok (.iload 4, 2) := by decide +kernel
theorem dX6_readPlain_62 : decode cX6_readPlain 62 = .ok (.iconst 1, 1) := by decide +kernel
theorem dX6_readPlain_63 : decode cX6_readPlain 63 = .ok (.bastore, 1) := by decide +kernel
theorem dX6_readPlain_64 : decode cX6_readPlain 64 = .ok (.aload_n 0, 1) := by decide +kernel
theorem dX6_readPlain_65 : decode cX6_readPlain 65 = .ok (.getfield 101, 3) := by decide +kernel
theorem dX6_readPlain_68 : decode cX6_readPlain 68 = .ok (.iload_n 3, 1) := by decide +kernel
theorem dX6_readPlain_69 : decode cX6_readPlain 69 = .ok (.iload 4, 2) := by decide +kernel
theorem dX6_readPlain_71 : decode cX6_readPlain 71 = .ok (.iastore, 1) := by decide +kernel
theorem dX6_readPlain_72 : decode cX6_readPlain 72 = .ok (.iinc 3 1, 3) := by decide +kernel
theorem dX6_readPlain_75 : decode cX6_readPlain 75 = .ok (.aload_n 0, 1) := by decide +kernel
theorem dX6_readPlain_76 : decode cX6_readPlain 76 = .ok (.getfield 7, 3) := by decide +kernel
theorem dX6_readPlain_79 : decode cX6_readPlain 79 = .ok (.iload 4, 2) := by decide +kernel
theorem dX6_readPlain_81 : decode cX6_readPlain 81 = .ok (.iaload, 1) := by decide +kernel
theorem dX6_readPlain_82 : decode cX6_readPlain 82 = .ok (.istore 4, 2) := by decide +kernel
theorem dX6_readPlain_84 : decode cX6_readPlain 84 = .ok (.goto (-52), 3) := by decide +kernel
theorem dX6_readPlain_87 : decode cX6_readPlain 87 = .ok (.iload 5, 2) := by decide +kernel
theorem dX6_readPlain_89 : decode cX6_readPlain 89 = .ok (.ifCond .eq 11, 3) := by decide +kernel
theorem dX6_readPlain_92 : decode cX6_readPlain 92 = .ok (.aload_n 0, 1) := by decide +kernel
theorem dX6_readPlain_93 : decode cX6_readPlain 93 = .ok (.bipush 8, 2) := by decide +kernel
theorem dX6_readPlain_95 : decode cX6_readPlain 95 = .ok (.putfield 133, 3) := by decide +kernel
theorem dX6_readPlain_98 : decode cX6_readPlain 98 = .ok (.iconst 0, 1) := by decide +kernel
theorem dX6_readPlain_99 : decode cX6_readPlain 99 = .ok (.ireturn, 1) := by decide +kernel
theorem dX6_readPlain_100 : decode cX6_readPlain 100 = .ok (.aload_n 0, 1) := by decide +kernel
theorem dX6_readPlain_101 : decode cX6_readPlain 101 = .ok (.getfield 7, 3) := by decide +kernel
theorem dX6_readPlain_104 : decode cX6_readPlain 104 = .ok (.iload 4, 2) := by decide +kernel
theorem dX6_readPlain_106 : decode cX6_readPlain 106 = .ok (.iaload, 1) := by decide +kernel
theorem dX6_readPlain_107 : decode cX6_readPlain 107 = .ok (.istore 6, 2) := by decide +kernel
theorem dX6_readPlain_109 : decode cX6_readPlain 109 = .ok (.iload_n 3, 1) := by decide +kernel
theorem dX6_readPlain_110 : decode cX6_readPlain 110 = .ok (.iconst 1, 1) := by decide +kernel
theorem dX6_readPlain_111 : decode cX6_readPlain 111 = .ok (.isub, 1) := by decide +kernel
theorem dX6_readPlain_112 : decode cX6_readPlain 112 = .ok (.istore 7, 2) := by decide +kernel
theorem dX6_readPlain_114 : decode cX6_readPlain 114 = .ok (.iload 7, 2) := by decide +kernel
theorem dX6_readPlain_116 : decode cX6_readPlain 116 = .ok (.ifCond .lt 31, 3) := by decide +kernel
theorem dX6_readPlain_119 : decode cX6_readPlain 119 = .ok (.iconst 2, 1) := by decide +kernel
theorem dX6_readPlain_120 : decode cX6_readPlain 120 = .ok (.iload 6, 2) := by decide +kernel
theorem dX6_readPlain_122 : decode cX6_readPlain 122 = .ok (.imul, 1) := by decide +kernel
theorem dX6_readPlain_123 : decode cX6_readPlain 123 = .ok (.iconst 1, 1) := by decide +kernel
theorem dX6_readPlain_124 : decode cX6_readPlain 124 = .ok (.iadd, 1) := by decide +kernel
theorem dX6_readPlain_125 : decode cX6_readPlain 125 = .ok (.istore 6, 2) := by decide +kernel
theorem dX6_readPlain_127 : decode cX6_readPlain 127 = .ok (.aload_n 0, 1) := by decide +kernel
theorem dX6_readPlain_128 : decode cX6_readPlain 128 = .ok (.iload_n 1, 1) := by decide +kernel
theorem dX6_readPlain_129 : decode cX6_readPlain 129 = .ok (.aload_n 0, 1) := by decide +kernel
theorem dX6_readPlain_130 : decode cX6_readPlain 130 = .ok (.getfield 101, 3) := by decide +kernel
theorem dX6_readPlain_133 : decode cX6_readPlain 133 = .ok (.iload 7, 2) := by decide +kernel
theorem dX6_readPlain_135 : decode cX6_readPlain 135 = .ok (.iaload, 1) := by decide +kernel
theorem dX6_readPlain_136 : decode cX6_readPlain 136 = .ok (.iload 6, 2) := by decide +kernel
theorem dX6_readPlain_138 : decode cX6_readPlain 138 = .ok (.invokevirtual 136, 3) := by decide +kernel
theorem dX6_readPlain_141 : decode cX6_readPlain 141 = .ok (.iinc 7 (-1), 3) := by decide +kernel
theorem dX6_readPlain_144 : decode cX6_readPlain 144 = .ok (.goto (-30), 3) := by decide +kernel
theorem dX6_readPlain_147 : decode cX6_readPlain 147 = .ok (.iload 6, 2) := by decide +kernel
theorem dX6_readPlain_149 : decode cX6_readPlain 149 = .ok (.ireturn, 1) := by decide +kernel
set_option maxRecDepth 20000 in
theorem ggX6_read_X6_readPlain : GoodIn wsX6_read wsX6_readPlain := goodIn_r _ [13, 14, 4, 15, 8, 5, 16, 17, 18, 12, 19, 20, 21, 22, 23, 24, 25, 26, 27, 28, 29, 30, 31, 32, 33, 34, 35, 36, 37, 38, 39, 40, 41, 42, 43, 44, 45, 46, 47, 48, 49, 50, 51, 52, 53, 54, 55, 56, 57, 58, 59, 60, 61] (by decide +kernel) (by decide +kernel)
set_option maxRecDepth 20000 in
theorem gX6_read_X6_readPlain : GoodIn wsX6_read (wsV RX6 139 RX6 yX6_readPlain wsX6_readPlain) := goodIn_app (goodIn_of _ (by decide +kernel)) ggX6_read_X6_readPlain
theorem dX6_read_0 : decode cX6_read 0 = .ok (.aload_n 0, 1) := by decide +kernel
theorem dX6_read_1 : decode cX6_read 1 = .ok (.getfield 68, 3) := by decide +kernel
theorem dX6_read_4 : decode cX6_read 4 = .ok (.iload_n 1, 1) := by decide +kernel
theorem dX6_read_5 : decode cX6_read 5 = .ok (.baload, 1) := by decide +kernel
theorem dX6_read_6 : decode cX6_read 6 = .ok (.ifCond .ne 10, 3) := by decide +kernel
theorem dX6_read_9 : decode cX6_read 9 = .ok (.aload_n 0, 1) := by decide +kernel
theorem dX6_read_10 : decode cX6_read 10 = .ok (.iload_n 1, 1) := by decide +kernel
theorem dX6_read_11 : decode cX6_read 11 = .ok (.iload_n 2, 1) := by decide +kernel
theorem dX6_read_12 : decode cX6_read 12 = .ok (.invokevirtual 139, 3) := by decide +kernel
theorem dX6_read_15 : decode cX6_read 15 = .ok (.ireturn, 1) := by decide +kernel
theorem dX6_read_16 : decode cX6_read 16 = .ok (.bipush 8, 2) := by decide +kernel
theorem dX6_read_18 : decode cX6_read 18 = .ok (.iload_n 1, 1) := by decide +kernel
theorem dX6_read_19 : decode cX6_read 19 = .ok (.imul, 1) := by decide +kernel
theorem dX6_read_20 : decode cX6_read 20 = .ok (.iload_n 2, 1) := by decide +kernel
theorem dX6_read_21 : decode cX6_read 21 = .ok (.iadd, 1) := by decide +kernel
theorem dX6_read_22 : decode cX6_read 22 = .ok (.istore_n 3, 1) := by decide +kernel
theorem dX6_read_23 : decode cX6_read 23 = .ok (.aload_n 0, 1) := by decide +kernel
theorem dX6_read_24 : decode cX6_read 24 = .ok (.getfield 86, 3) := by decide +kernel
theorem dX6_read_27 : decode cX6_read 27 = .ok (.iload_n 3, 1) := by decide +kernel
theorem dX6_read_28 : decode cX6_read 28 = .ok (.baload, 1) := by decide +kernel
theorem dX6_read_29 : decode cX6_read 29 = .ok (.ifCond .eq 10, 3) := by decide +kernel
theorem dX6_read_32 : decode cX6_read 32 = .ok (.aload_n 0, 1) := by decide +kernel
theorem dX6_read_33 : decode cX6_read 33 = .ok (.getfield 89, 3) := by decide +kernel
theorem dX6_read_36 : decode cX6_read 36 = .ok (.iload_n 3, 1) := by decide +kernel
theorem dX6_read_37 : decode cX6_read 37 = .ok (.iaload, 1) := by decide +kernel
theorem dX6_read_38 : decode cX6_read 38 = .ok (.ireturn, 1) := by decide +kernel
theorem dX6_read_39 : decode cX6_read 39 = .ok (.aload_n 0, 1) := by decide +kernel
theorem dX6_read_40 : decode cX6_read 40 = .ok (.getfield 13, 3) := by decide +kernel
theorem dX6_read_43 : decode cX6_read 43 = .ok (.iload_n 2, 1) := by decide +kernel
theorem dX6_read_44 : decode cX6_read 44 = .ok (.baload, 1) := by decide +kernel
theorem dX6_read_45 : decode cX6_read 45 = .ok (.ifCond .eq 10, 3) := by decide +kernel
theorem dX6_read_48 : decode cX6_read 48 = .ok (.aload_n 0, 1) := by decide +kernel
theorem dX6_read_49 : decode cX6_read 49 = .ok (.iconst 5, 1) := by decide +kernel
theorem dX6_read_50 : decode cX6_read 50 = .ok (.putfield 133, 3) := by decide +kernel
theorem dX6_read_53 : decode cX6_read 53 = .ok (.iconst 0, 1) := by decide +kernel
theorem dX6_read_54 : decode cX6_read 54 = .ok (.ireturn, 1) := by decide +kernel
theorem dX6_read_55 : decode cX6_read 55 = .ok (.aload_n 0, 1) := by decide +kernel
theorem dX6_read_56 : decode cX6_read 56 = .ok (.getfield 80, 3) := by decide +kernel
theorem dX6_read_59 : decode cX6_read 59 = .ok (.iload_n 3, 1) := by decide +kernel
theorem dX6_read_60 : decode cX6_read 60 = .ok (.baload, 1) := by decide +kernel
theorem dX6_read_61 : decode cX6_read 61 = .ok (.ifCond .ne 22, 3) := by decide +kernel
theorem dX6_read_64 : decode cX6_read 64 = .ok (.aload_n 0, 1) := by decide +kernel
theorem dX6_read_65 : decode cX6_read 65 = .ok (.getfield 80, 3) := by decide +kernel
theorem dX6_read_68 : decode cX6_read 68 = .ok (.iload_n 3, 1) := by decide +kernel
theorem dX6_read_69 : decode cX6_read 69 = .ok (.iconst 1, 1) := by decide +kernel
theorem dX6_read_70 : decode cX6_read 70 = .ok (.bastore, 1) := by decide +kernel
theorem dX6_read_71 : decode cX6_read 71 = .ok (.aload_n 0, 1) := by decide +kernel
theorem dX6_read_72 : decode cX6_read 72 = .ok (.getfield 83, 3) := by decide +kernel
theorem dX6_read_75 : decode cX6_read 75 = .ok (.iload_n 3, 1) := by decide +kernel
theorem dX6_read_76 : decode cX6_read 76 = .ok (.aload_n 0, 1) := by decide +kernel
theorem dX6_read_77 : decode cX6_read 77 = .ok (.getfield 7, 3) := by decide +kernel
theorem dX6_read_80 : decode cX6_read 80 = .ok (.iload_n 2, 1) := by decide +kernel
theorem dX6_read_81 : decode cX6_read 81 = .ok (.iaload, 1) := by decide +kernel
theorem dX6_read_82 : decode cX6_read 82 = .ok (.iastore, 1) := by decide +kernel
theorem dX6_read_83 : decode cX6_read 83 = .ok (.aload_n 0, 1) := by decide +kernel
theorem dX6_read_84 : decode cX6_read 84 = .ok (.getfield 7, 3) := by decide +kernel
theorem dX6_read_87 : decode cX6_read 87 = .ok (.iload_n 2, 1) := by decide +kernel
theorem dX6_read_88 : decode cX6_read 88 = .ok (.iaload, 1) := by decide +kernel
theorem dX6_read_89 : decode cX6_read 89 = .ok (.ireturn, 1) := by decide +kernel
set_option maxRecDepth 20000 in
theorem ggX6_lay_X6_write : GoodIn wsX6_lay wsX6_write := goodIn_r _ [8, 9, 10, 11, 12, 13, 7, 14, 15, 16, 17, 18, 19, 20, 21, 22, 23, 24, 25, 26, 27, 28, 29, 30, 31, 32, 33, 34, 35, 36, 37, 38, 39, 40, 41, 42, 43, 44, 45, 46, 47, 48, 49, 50, 51, 52] (by decide +kernel) (by decide +kernel)
set_option maxRecDepth 20000 in
theorem gX6_lay_X6_write : GoodIn wsX6_lay (wsV RX6 136 RX6 yX6_write wsX6_write) := goodIn_app (goodIn_of _ (by decide +kernel)) ggX6_lay_X6_write
theorem dX6_lay_0 : decode cX6_lay 0 = .ok (.aload_n 0, 1) := by decide +kernel
theorem dX6_lay_1 : decode cX6_lay 1 = .ok (.getfield 68, 3) := by decide +kernel
theorem dX6_lay_4 : decode cX6_lay 4 = .ok (.iload_n 1, 1) := by decide +kernel
theorem dX6_lay_5 : decode cX6_lay 5 = .ok (.baload, 1) := by decide +kernel
theorem dX6_lay_6 : decode cX6_lay 6 = .ok (.ifCond .eq 30, 3) := by decide +kernel
theorem dX6_lay_9 : decode cX6_lay 9 = .ok (.aload_n 0, 1) := by decide +kernel
theorem dX6_lay_10 : decode cX6_lay 10 = .ok (.getfield 86, 3) := by decide +kernel
theorem dX6_lay_13 : decode cX6_lay 13 = .ok (.bipush 8, 2) := by decide +kernel
theorem dX6_lay_15 : decode cX6_lay 15 = .ok (.iload_n 1, 1) := by decide +kernel
theorem dX6_lay_16 : decode cX6_lay 16 = .ok (.imul, 1) := by decide +kernel
theorem dX6_lay_17 : decode cX6_lay 17 = .ok (.iload_n 2, 1) := by decide +kernel
theorem dX6_lay_18 : decode cX6_lay 18 = .ok (.iadd, 1) := by decide +kernel
theorem dX6_lay_19 : decode cX6_lay 19 = .ok (.iconst 1, 1) := by decide +kernel
theorem dX6_lay_20 : decode cX6_lay 20 = .ok (.bastore, 1) := by decide +kernel
theorem dX6_lay_21 : decode cX6_lay 21 = .ok (.aload_n 0, 1) := by decide +kernel
theorem dX6_lay_22 : decode cX6_lay 22 = .ok (.getfield 89, 3) := by decide +kernel
theorem dX6_lay_25 : decode cX6_lay 25 = .ok (.bipush 8, 2) := by decide +kernel
theorem dX6_lay_27 : decode cX6_lay 27 = .ok (.iload_n 1, 1) := by decide +kernel
theorem dX6_lay_28 : decode cX6_lay 28 = .ok (.imul, 1) := by decide +kernel
theorem dX6_lay_29 : decode cX6_lay 29 = .ok (.iload_n 2, 1) := by decide +kernel
theorem dX6_lay_30 : decode cX6_lay 30 = .ok (.iadd, 1) := by decide +kernel
theorem dX6_lay_31 : decode cX6_lay 31 = .ok (.iload_n 3, 1) := by decide +kernel
theorem dX6_lay_32 : decode cX6_lay 32 = .ok (.iastore, 1) := by decide +kernel
theorem dX6_lay_33 : decode cX6_lay 33 = .ok (.goto 10, 3) := by decide +kernel
theorem dX6_lay_36 : decode cX6_lay 36 = .ok (.aload_n 0, 1) := by decide +kernel
theorem dX6_lay_37 : decode cX6_lay 37 = .ok (.iload_n 1, 1) := by decide +kernel
theorem dX6_lay_38 : decode cX6_lay 38 = .ok (.iload_n 2, 1) := by decide +kernel
theorem dX6_lay_39 : decode cX6_lay 39 = .ok (.iload_n 3, 1) := by decide +kernel
theorem dX6_lay_40 : decode cX6_lay 40 = .ok (.invokevirtual 136, 3) := by decide +kernel
theorem dX6_lay_43 : decode cX6_lay 43 = .ok (.return_, 1) := by decide +kernel
theorem dX6_clearAtom_0 : decode cX6_clearAtom 0 = .ok (.iconst 0, 1) := by decide +kernel
theorem dX6_clearAtom_1 : decode cX6_clearAtom 1 = .ok (.istore_n 2, 1) := by decide +kernel
theorem dX6_clearAtom_2 : decode cX6_clearAtom 2 = .ok (.iload_n 2, 1) := by decide +kernel
theorem dX6_clearAtom_3 : decode cX6_clearAtom 3 = .ok (.bipush 8, 2) := by decide +kernel
theorem dX6_clearAtom_5 : decode cX6_clearAtom 5 = .ok (.if_icmp .ge 33, 3) := by decide +kernel
theorem dX6_clearAtom_8 : decode cX6_clearAtom 8 = .ok (.aload_n 0, 1) := by decide +kernel
theorem dX6_clearAtom_9 : decode cX6_clearAtom 9 = .ok (.getfield 80, 3) := by decide +kernel
theorem dX6_clearAtom_12 : decode cX6_clearAtom 12 = .ok (.bipush 8, 2) := by decide +kernel
theorem dX6_clearAtom_14 : decode cX6_clearAtom 14 = .ok (.iload_n 1, 1) := by decide +kernel
theorem dX6_clearAtom_15 : decode cX6_clearAtom 15 = .ok (.imul, 1) := by decide +kernel
theorem dX6_clearAtom_16 : decode cX6_clearAtom 16 = .ok (.iload_n 2, 1) := by decide +kernel
theorem dX6_clearAtom_17 : decode cX6_clearAtom 17 = .ok (.iadd, 1) := by decide +kernel
theorem dX6_clearAtom_18 : decode cX6_clearAtom 18 = .ok (.iconst 0, 1) := by decide +kernel
theorem dX6_clearAtom_19 : decode cX6_clearAtom 19 = .ok (.bastore, 1) := by decide +kernel
theorem dX6_clearAtom_20 : decode cX6_clearAtom 20 = .ok (.aload_n 0, 1) := by decide +kernel
theorem dX6_clearAtom_21 : decode cX6_clearAtom 21 = .ok (.getfield 86, 3) := by decide +kernel
theorem dX6_clearAtom_24 : decode cX6_clearAtom 24 = .ok (.bipush 8, 2) := by decide +kernel
theorem dX6_clearAtom_26 : decode cX6_clearAtom 26 = .ok (.iload_n 1, 1) := by decide +kernel
theorem dX6_clearAtom_27 : decode cX6_clearAtom 27 = .ok (.imul, 1) := by decide +kernel
theorem dX6_clearAtom_28 : decode cX6_clearAtom 28 = .ok (.iload_n 2, 1) := by decide +kernel
theorem dX6_clearAtom_29 : decode cX6_clearAtom 29 = .ok (.iadd, 1) := by decide +kernel
theorem dX6_clearAtom_30 : decode cX6_clearAtom 30 = .ok (.iconst 0, 1) := by decide +kernel
theorem dX6_clearAtom_31 : decode cX6_clearAtom 31 = .ok (.bastore, 1) := by decide +kernel
theorem dX6_clearAtom_32 : decode cX6_clearAtom 32 = .ok (.iinc 2 1, 3) := by decide +kernel
theorem dX6_clearAtom_35 : decode cX6_clearAtom 35 = .ok (.goto (-33), 3) := by decide +kernel
theorem dX6_clearAtom_38 : decode cX6_clearAtom 38 = .ok (.return_, 1) := by decide +kernel
set_option maxRecDepth 20000 in
theorem ggX6_beginAtom_X6_clearAtom : GoodIn wsX6_beginAtom wsX6_clearAtom := goodIn_r _ [13, 14, 15, 16, 17, 18, 19, 20, 21, 22, 23, 24, 25, 26, 27, 28, 29, 30, 31, 32, 33, 34, 35, 36, 37, 38, 39, 40, 41, 42, 43, 44, 45, 46, 47, 48, 49] (by decide +kernel) (by decide +kernel)
set_option maxRecDepth 20000 in
theorem gX6_beginAtom_X6_clearAtom : GoodIn wsX6_beginAtom (wsV RX6 143 RX6 yX6_clearAtom wsX6_clearAtom) := goodIn_app (goodIn_of _ (by decide +kernel)) ggX6_beginAtom_X6_clearAtom
theorem dX6_beginAtom_0 : decode cX6_beginAtom 0 = .ok (.aload_n 0, 1) := by decide +kernel
theorem dX6_beginAtom_1 : decode cX6_beginAtom 1 = .ok (.getfield 68, 3) := by decide +kernel
theorem dX6_beginAtom_4 : decode cX6_beginAtom 4 = .ok (.iload_n 1, 1) := by decide +kernel
theorem dX6_beginAtom_5 : decode cX6_beginAtom 5 = .ok (.baload, 1) := by decide +kernel
theorem dX6_beginAtom_6 : decode cX6_beginAtom 6 = .ok (.ifCond .eq 9, 3) := by decide +kernel
theorem dX6_beginAtom_9 : decode cX6_beginAtom 9 = .ok (.aload_n 0, 1) := by decide +kernel
theorem dX6_beginAtom_10 : decode cX6_beginAtom 10 = .ok (.iconst 5, 1) := by decide +kernel
theorem dX6_beginAtom_11 : decode cX6_beginAtom 11 = .ok (.putfield 133, 3) := by decide +kernel
theorem dX6_beginAtom_14 : decode cX6_beginAtom 14 = .ok (.return_, 1) := by decide +kernel
theorem dX6_beginAtom_15 : decode cX6_beginAtom 15 = .ok (.aload_n 0, 1) := by decide +kernel
theorem dX6_beginAtom_16 : decode cX6_beginAtom 16 = .ok (.getfield 68, 3) := by decide +kernel
theorem dX6_beginAtom_19 : decode cX6_beginAtom 19 = .ok (.iload_n 1, 1) := by decide +kernel
theorem dX6_beginAtom_20 : decode cX6_beginAtom 20 = .ok (.iconst 1, 1) := by decide +kernel
theorem dX6_beginAtom_21 : decode cX6_beginAtom 21 = .ok (.bastore, 1) := by decide +kernel
theorem dX6_beginAtom_22 : decode cX6_beginAtom 22 = .ok (.aload_n 0, 1) := by decide +kernel
theorem dX6_beginAtom_23 : decode cX6_beginAtom 23 = .ok (.iload_n 1, 1) := by decide +kernel
theorem dX6_beginAtom_24 : decode cX6_beginAtom 24 = .ok (.invokevirtual 143, 3) := by decide +kernel
theorem dX6_beginAtom_27 : decode cX6_beginAtom 27 = .ok (.aload_n 0, 1) := by decide +kernel
theorem dX6_beginAtom_28 : decode cX6_beginAtom 28 = .ok (.getfield 71, 3) := by decide +kernel
theorem dX6_beginAtom_31 : decode cX6_beginAtom 31 = .ok (.iload_n 1, 1) := by decide +kernel
theorem dX6_beginAtom_32 : decode cX6_beginAtom 32 = .ok (.aload_n 0, 1) := by decide +kernel
theorem dX6_beginAtom_33 : decode cX6_beginAtom 33 = .ok (.getfield 62, 3) := by decide +kernel
theorem dX6_beginAtom_36 : decode cX6_beginAtom 36 = .ok (.iload_n 1, 1) := by decide +kernel
theorem dX6_beginAtom_37 : decode cX6_beginAtom 37 = .ok (.iaload, 1) := by decide +kernel
theorem dX6_beginAtom_38 : decode cX6_beginAtom 38 = .ok (.iastore, 1) := by decide +kernel
theorem dX6_beginAtom_39 : decode cX6_beginAtom 39 = .ok (.aload_n 0, 1) := by decide +kernel
theorem dX6_beginAtom_40 : decode cX6_beginAtom 40 = .ok (.getfield 74, 3) := by decide +kernel
theorem dX6_beginAtom_43 : decode cX6_beginAtom 43 = .ok (.iload_n 1, 1) := by decide +kernel
theorem dX6_beginAtom_44 : decode cX6_beginAtom 44 = .ok (.aload_n 0, 1) := by decide +kernel
theorem dX6_beginAtom_45 : decode cX6_beginAtom 45 = .ok (.getfield 47, 3) := by decide +kernel
theorem dX6_beginAtom_48 : decode cX6_beginAtom 48 = .ok (.iload_n 1, 1) := by decide +kernel
theorem dX6_beginAtom_49 : decode cX6_beginAtom 49 = .ok (.iaload, 1) := by decide +kernel
theorem dX6_beginAtom_50 : decode cX6_beginAtom 50 = .ok (.iconst 1, 1) := by decide +kernel
theorem dX6_beginAtom_51 : decode cX6_beginAtom 51 = .ok (.iadd, 1) := by decide +kernel
theorem dX6_beginAtom_52 : decode cX6_beginAtom 52 = .ok (.iastore, 1) := by decide +kernel
theorem dX6_beginAtom_53 : decode cX6_beginAtom 53 = .ok (.iconst 0, 1) := by decide +kernel
theorem dX6_beginAtom_54 : decode cX6_beginAtom 54 = .ok (.istore_n 2, 1) := by decide +kernel
theorem dX6_beginAtom_55 : decode cX6_beginAtom 55 = .ok (.iload_n 2, 1) := by decide +kernel
theorem dX6_beginAtom_56 : decode cX6_beginAtom 56 = .ok (.iconst 4, 1) := by decide +kernel
theorem dX6_beginAtom_57 : decode cX6_beginAtom 57 = .ok (.if_icmp .ge 29, 3) := by decide +kernel
theorem dX6_beginAtom_60 : decode cX6_beginAtom 60 = .ok (.aload_n 0, 1) := by decide +kernel
theorem dX6_beginAtom_61 : decode cX6_beginAtom 61 = .ok (.getfield 77, 3) := by decide +kernel
theorem dX6_beginAtom_64 : decode cX6_beginAtom 64 = .ok (.iconst 4, 1) := by decide +kernel
theorem dX6_beginAtom_65 : decode cX6_beginAtom 65 = .ok (.iload_n 1, 1) := by decide +kernel
theorem dX6_beginAtom_66 : decode cX6_beginAtom 66 = .ok (.imul, 1) := by decide +kernel
theorem dX6_beginAtom_67 : decode cX6_beginAtom 67 = .ok (.iload_n 2, 1) := by decide +kernel
theorem dX6_beginAtom_68 : decode cX6_beginAtom 68 = .ok (.iadd, 1) := by decide +kernel
theorem dX6_beginAtom_69 : decode cX6_beginAtom 69 = .ok (.aload_n 0, 1) := by decide +kernel
theorem dX6_beginAtom_70 : decode cX6_beginAtom 70 = .ok (.getfield 44, 3) := by decide +kernel
theorem dX6_beginAtom_73 : decode cX6_beginAtom 73 = .ok (.iconst 4, 1) := by decide +kernel
theorem dX6_beginAtom_74 : decode cX6_beginAtom 74 = .ok (.iload_n 1, 1) := by decide +kernel
theorem dX6_beginAtom_75 : decode cX6_beginAtom 75 = .ok (.imul, 1) := by decide +kernel
theorem dX6_beginAtom_76 : decode cX6_beginAtom 76 = .ok (.iload_n 2, 1) := by decide +kernel
theorem dX6_beginAtom_77 : decode cX6_beginAtom 77 = .ok (.iadd, 1) := by decide +kernel
theorem dX6_beginAtom_78 : decode cX6_beginAtom 78 = .ok (.iaload, 1) := by decide +kernel
theorem dX6_beginAtom_79 : decode cX6_beginAtom 79 = .ok (.iastore, 1) := by decide +kernel
theorem dX6_beginAtom_80 : decode cX6_beginAtom 80 = .ok (.iinc 2 1, 3) := by decide +kernel
theorem dX6_beginAtom_83 : decode cX6_beginAtom 83 = .ok (.goto (-28), 3) := by decide +kernel
theorem dX6_beginAtom_86 : decode cX6_beginAtom 86 = .ok (.return_, 1) := by decide +kernel
set_option maxRecDepth 20000 in
theorem ggX6_endAtom_X6_clearAtom : GoodIn wsX6_endAtom wsX6_clearAtom := goodIn_r _ [20, 5, 13, 33, 34, 35, 36, 37, 38, 39, 40, 41, 42, 43, 44, 45, 46, 47, 48, 49, 50, 51, 52, 53, 54, 55, 56, 57, 58, 59, 60, 61, 62, 63, 64, 65, 66] (by decide +kernel) (by decide +kernel)
set_option maxRecDepth 20000 in
theorem gX6_endAtom_X6_clearAtom : GoodIn wsX6_endAtom (wsV RX6 143 RX6 yX6_clearAtom wsX6_clearAtom) := goodIn_app (goodIn_of _ (by decide +kernel)) ggX6_endAtom_X6_clearAtom
set_option maxRecDepth 20000 in
theorem ggX6_endAtom_X6_write : GoodIn wsX6_endAtom wsX6_write := goodIn_r _ [24, 7, 6, 25, 26, 27, 19, 28, 29, 30, 31, 32, 33, 34, 35, 36, 37, 38, 39, 40, 41, 42, 43, 44, 45, 46, 47, 48, 49, 50, 51, 52, 53, 54, 55, 56, 57, 58, 59, 60, 61, 62, 63, 64, 65, 66] (by decide +kernel) (by decide +kernel)
set_option maxRecDepth 20000 in
theorem gX6_endAtom_X6_write : GoodIn wsX6_endAtom (wsV RX6 136 RX6 yX6_write wsX6_write) := goodIn_app (goodIn_of _ (by decide +kernel)) ggX6_endAtom_X6_write
theorem dX6_endAtom_0 : decode cX6_endAtom 0 = .ok (.aload_n 0, 1) := by decide +kernel
theorem dX6_endAtom_1 : decode cX6_endAtom 1 = .ok (.getfield 68, 3) := by decide +kernel
theorem dX6_endAtom_4 : decode cX6_endAtom 4 = .ok (.iload_n 1, 1) := by decide +kernel
theorem dX6_endAtom_5 : decode cX6_endAtom 5 = .ok (.baload, 1) := by decide +kernel
theorem dX6_endAtom_6 : decode cX6_endAtom 6 = .ok (.ifCond .eq 18, 3) := by decide +kernel
theorem dX6_endAtom_9 : decode cX6_endAtom 9 = .ok (.aload_n 0, 1) := by decide +kernel
theorem dX6_endAtom_10 : decode cX6_endAtom 10 = .ok (.getfield 62, 3) := by decide +kernel
theorem dX6_endAtom_13 : decode cX6_endAtom 13 = .ok (.iload_n 1, 1) := by decide +kernel
theorem dX6_endAtom_14 : decode cX6_endAtom 14 = .ok (.iaload, 1) := by decide +kernel
theorem dX6_endAtom_15 : decode cX6_endAtom 15 = .ok (.aload_n 0, 1) := by decide +kernel
theorem dX6_endAtom_16 : decode cX6_endAtom 16 = .ok (.getfield 71, 3) := by decide +kernel
theorem dX6_endAtom_19 : decode cX6_endAtom 19 = .ok (.iload_n 1, 1) := by decide +kernel
theorem dX6_endAtom_20 : decode cX6_endAtom 20 = .ok (.iaload, 1) := by decide +kernel
theorem dX6_endAtom_21 : decode cX6_endAtom 21 = .ok (.if_icmp .le 10, 3) := by decide +kernel
theorem dX6_endAtom_24 : decode cX6_endAtom 24 = .ok (.aload_n 0, 1) := by decide +kernel
theorem dX6_endAtom_25 : decode cX6_endAtom 25 = .ok (.iconst 5, 1) := by decide +kernel
theorem dX6_endAtom_26 : decode cX6_endAtom 26 = .ok (.putfield 133, 3) := by decide +kernel
theorem dX6_endAtom_29 : decode cX6_endAtom 29 = .ok (.iconst 0, 1) := by decide +kernel
theorem dX6_endAtom_30 : decode cX6_endAtom 30 = .ok (.ireturn, 1) := by decide +kernel
theorem dX6_endAtom_31 : decode cX6_endAtom 31 = .ok (.iconst 1, 1) := by decide +kernel
theorem dX6_endAtom_32 : decode cX6_endAtom 32 = .ok (.istore_n 2, 1) := by decide +kernel
theorem dX6_endAtom_33 : decode cX6_endAtom 33 = .ok (.iconst 0, 1) := by decide +kernel
theorem dX6_endAtom_34 : decode cX6_endAtom 34 = .ok (.istore_n 3, 1) := by decide +kernel
theorem dX6_endAtom_35 : decode cX6_endAtom 35 = .ok (.iload_n 3, 1) := by decide +kernel
theorem dX6_endAtom_36 : decode cX6_endAtom 36 = .ok (.bipush 8, 2) := by decide +kernel
theorem dX6_endAtom_38 : decode cX6_endAtom 38 = .ok (.if_icmp .ge 62, 3) := by decide +kernel
theorem dX6_endAtom_41 : decode cX6_endAtom 41 = .ok (.bipush 8, 2) := by decide +kernel
theorem dX6_endAtom_43 : decode cX6_endAtom 43 = .ok (.iload_n 1, 1) := by decide +kernel
theorem dX6_endAtom_44 : decode cX6_endAtom 44 = .ok (.imul, 1) := by decide +kernel
theorem dX6_endAtom_45 : decode cX6_endAtom 45 = .ok (.iload_n 3, 1) := by decide +kernel
theorem dX6_endAtom_46 : decode cX6_endAtom 46 = .ok (.iadd, 1) := by decide +kernel
theorem dX6_endAtom_47 : decode cX6_endAtom 47 = .ok (.istore 4, 2) := by decide +kernel
theorem dX6_endAtom_49 : decode cX6_endAtom 49 = .ok (.iload_n 2, 1) := by decide +kernel
theorem dX6_endAtom_50 : decode cX6_endAtom 50 = .ok (.ifCond .eq 42, 3) := by decide +kernel
theorem dX6_endAtom_53 : decode cX6_endAtom 53 = .ok (.aload_n 0, 1) := by decide +kernel
theorem dX6_endAtom_54 : decode cX6_endAtom 54 = .ok (.getfield 80, 3) := by decide +kernel
theorem dX6_endAtom_57 : decode cX6_endAtom 57 = .ok (.iload 4, 2) := by decide +kernel
theorem dX6_endAtom_59 : decode cX6_endAtom 59 = .ok (.baload, 1) := by decide +kernel
theorem dX6_endAtom_60 : decode cX6_endAtom 60 = .ok (.ifCond .eq 28, 3) := by decide +kernel
theorem dX6_endAtom_63 : decode cX6_endAtom 63 = .ok (.aload_n 0, 1) := by decide +kernel
theorem dX6_endAtom_64 : decode cX6_endAtom 64 = .ok (.getfield 13, 3) := by decide +kernel
theorem dX6_endAtom_67 : decode cX6_endAtom 67 = .ok (.iload_n 3, 1) := by decide +kernel
theorem dX6_endAtom_68 : decode cX6_endAtom 68 = .ok (.baload, 1) := by decide +kernel
theorem dX6_endAtom_69 : decode cX6_endAtom 69 = .ok (.ifCond .ne 23, 3) := by decide +kernel
theorem dX6_endAtom_72 : decode cX6_endAtom 72 = .ok (.aload_n 0, 1) := by decide +kernel
theorem dX6_endAtom_73 : decode cX6_endAtom 73 = .ok (.getfield 7, 3) := by decide +kernel
theorem dX6_endAtom_76 : decode cX6_endAtom 76 = .ok (.iload_n 3, 1) := by decide +kernel
theorem dX6_endAtom_77 : decode cX6_endAtom 77 = .ok (.iaload, 1) := by decide +kernel
theorem dX6_endAtom_78 : decode cX6_endAtom 78 = .ok (.aload_n 0, 1) := by decide +kernel
theorem dX6_endAtom_79 : decode cX6_endAtom 79 = .ok (.getfield 83, 3) := by decide +kernel
theorem dX6_endAtom_82 : decode cX6_endAtom 82 = .ok (.iload 4, 2) := by decide +kernel
theorem dX6_endAtom_84 : decode cX6_endAtom 84 = .ok (.iaload, 1) := by decide +kernel
theorem dX6_endAtom_85 : decode cX6_endAtom 85 = .ok (.if_icmp .ne 7, 3) := by decide +kernel
theorem dX6_endAtom_88 : decode cX6_endAtom 88 = .ok (.iconst 1, 1) := by decide +kernel
theorem dX6_endAtom_89 : decode cX6_endAtom 89 = .ok (.goto 4, 3) := by decide +kernel
theorem dX6_endAtom_92 : decode cX6_endAtom 92 = .ok (.iconst 0, 1) := by decide +kernel
theorem dX6_endAtom_93 : decode cX6_endAtom 93 = .ok (.istore_n 2, 1) := by decide +kernel
theorem dX6_endAtom_94 : decode cX6_endAtom 94 = .ok (.iinc 3 1, 3) := by decide +kernel
theorem dX6_endAtom_97 : decode cX6_endAtom 97 = .ok (.goto (-62), 3) := by decide +kernel
theorem dX6_endAtom_100 : decode cX6_endAtom 100 = .ok (.iload_n 2, 1) := by decide +kernel
theorem dX6_endAtom_101 : decode cX6_endAtom 101 = .ok (.ifCond .ne 58, 3) := by decide +kernel
theorem dX6_endAtom_104 : decode cX6_endAtom 104 = .ok (.aload_n 0, 1) := by decide +kernel
theorem dX6_endAtom_105 : decode cX6_endAtom 105 = .ok (.getfield 59, 3) := by decide +kernel
theorem dX6_endAtom_108 : decode cX6_endAtom 108 = .ok (.iload_n 1, 1) := by decide +kernel
theorem dX6_endAtom_109 : decode cX6_endAtom 109 = .ok (.dup2, 1) := by decide +kernel
theorem dX6_endAtom_110 : decode cX6_endAtom 110 = .ok (.iaload, 1) := by decide +kernel
theorem dX6_endAtom_111 : decode cX6_endAtom 111 = .ok (.iconst 1, 1) := by decide +kernel
theorem dX6_endAtom_112 : decode cX6_endAtom 112 = .ok (.iadd, 1) := by decide +kernel
theorem dX6_endAtom_113 : decode cX6_endAtom 113 = .ok (.iastore, 1) := by decide +kernel
theorem dX6_endAtom_114 : decode cX6_endAtom 114 = .ok (.aload_n 0, 1) := by decide +kernel
theorem dX6_endAtom_115 : decode cX6_endAtom 115 = .ok (.iload_n 1, 1) := by decide +kernel
theorem dX6_endAtom_116 : decode cX6_endAtom 116 = .ok (.invokevirtual 143, 3) := by decide +kernel
theorem dX6_endAtom_119 : decode cX6_endAtom 119 = .ok (.iconst 0, 1) := by decide +kernel
theorem dX6_endAtom_120 : decode cX6_endAtom 120 = .ok (.istore_n 3, 1) := by decide +kernel
theorem dX6_endAtom_121 : decode cX6_endAtom 121 = .ok (.iload_n 3, 1) := by decide +kernel
theorem dX6_endAtom_122 : decode cX6_endAtom 122 = .ok (.iconst 4, 1) := by decide +kernel
theorem dX6_endAtom_123 : decode cX6_endAtom 123 = .ok (.if_icmp .ge 29, 3) := by decide +kernel
theorem dX6_endAtom_126 : decode cX6_endAtom 126 = .ok (.aload_n 0, 1) := by decide +kernel
theorem dX6_endAtom_127 : decode cX6_endAtom 127 = .ok (.getfield 44, 3) := by decide +kernel
theorem dX6_endAtom_130 : decode cX6_endAtom 130 = .ok (.iconst 4, 1) := by decide +kernel
theorem dX6_endAtom_131 : decode cX6_endAtom 131 = .ok (.iload_n 1, 1) := by decide +kernel
theorem dX6_endAtom_132 : decode cX6_endAtom 132 = .ok (.imul, 1) := by decide +kernel
theorem dX6_endAtom_133 : decode cX6_endAtom 133 = .ok (.iload_n 3, 1) := by decide +kernel
theorem dX6_endAtom_134 : decode cX6_endAtom 134 = .ok (.iadd, 1) := by decide +kernel
theorem dX6_endAtom_135 : decode cX6_endAtom 135 = .ok (.aload_n 0, 1) := by decide +kernel
theorem dX6_endAtom_136 : decode cX6_endAtom 136 = .ok (.getfield 77, 3) := by decide +kernel
theorem dX6_endAtom_139 : decode cX6_endAtom 139 = .ok (.iconst 4, 1) := by decide +kernel
theorem dX6_endAtom_140 : decode cX6_endAtom 140 = .ok (.iload_n 1, 1) := by decide +kernel
theorem dX6_endAtom_141 : decode cX6_endAtom 141 = .ok (.imul, 1) := by decide +kernel
theorem dX6_endAtom_142 : decode cX6_endAtom 142 = .ok (.iload_n 3, 1) := by decide +kernel
theorem dX6_endAtom_143 : decode cX6_endAtom 143 = .ok (.iadd, 1) := by decide +kernel
theorem dX6_endAtom_144 : decode cX6_endAtom 144 = .ok (.iaload, 1) := by decide +kernel
theorem dX6_endAtom_145 : decode cX6_endAtom 145 = .ok (.iastore, 1) := by decide +kernel
theorem dX6_endAtom_146 : decode cX6_endAtom 146 = .ok (.iinc 3 1, 3) := by decide +kernel
theorem dX6_endAtom_149 : decode cX6_endAtom 149 = .ok (.goto (-28), 3) := by decide +kernel
theorem dX6_endAtom_152 : decode cX6_endAtom 152 = .ok (.aload_n 0, 1) := by decide +kernel
theorem dX6_endAtom_153 : decode cX6_endAtom 153 = .ok (.getfield 74, 3) := by decide +kernel
theorem dX6_endAtom_156 : decode cX6_endAtom 156 = .ok (.iload_n 1, 1) := by decide +kernel
theorem dX6_endAtom_157 : decode cX6_endAtom 157 = .ok (.iaload, 1) := by decide +kernel
theorem dX6_endAtom_158 : decode cX6_endAtom 158 = .ok (.ireturn, 1) := by decide +kernel
theorem dX6_endAtom_159 : decode cX6_endAtom 159 = .ok (.aload_n 0, 1) := by decide +kernel
theorem dX6_endAtom_160 : decode cX6_endAtom 160 = .ok (.getfield 68, 3) := by decide +kernel
theorem dX6_endAtom_163 : decode cX6_endAtom 163 = .ok (.iload_n 1, 1) := by decide +kernel
theorem dX6_endAtom_164 : decode cX6_endAtom 164 = .ok (.iconst 0, 1) := by decide +kernel
theorem dX6_endAtom_165 : decode cX6_endAtom 165 = .ok (.bastore, 1) := by decide +kernel
theorem dX6_endAtom_166 : decode cX6_endAtom 166 = .ok (.iconst 0, 1) := by decide +kernel
theorem dX6_endAtom_167 : decode cX6_endAtom 167 = .ok (.istore_n 3, 1) := by decide +kernel
theorem dX6_endAtom_168 : decode cX6_endAtom 168 = .ok (.iload_n 3, 1) := by decide +kernel
theorem dX6_endAtom_169 : decode cX6_endAtom 169 = .ok (.bipush 8, 2) := by decide +kernel
theorem dX6_endAtom_171 : decode cX6_endAtom 171 = .ok (.if_icmp .ge 40, 3) := by decide +kernel
theorem dX6_endAtom_174 : decode cX6_endAtom 174 = .ok (.aload_n 0, 1) := by decide +kernel
theorem dX6_endAtom_175 : decode cX6_endAtom 175 = .ok (.getfield 86, 3) := by decide +kernel
theorem dX6_endAtom_178 : decode cX6_endAtom 178 = .ok (.bipush 8, 2) := by decide +kernel
theorem dX6_endAtom_180 : decode cX6_endAtom 180 = .ok (.iload_n 1, 1) := by decide +kernel
theorem dX6_endAtom_181 : decode cX6_endAtom 181 = .ok (.imul, 1) := by decide +kernel
theorem dX6_endAtom_182 : decode cX6_endAtom 182 = .ok (.iload_n 3, 1) := by decide +kernel
theorem dX6_endAtom_183 : decode cX6_endAtom 183 = .ok (.iadd, 1) := by decide +kernel
theorem dX6_endAtom_184 : decode cX6_endAtom 184 = .ok (.baload, 1) := by decide +kernel
theorem dX6_endAtom_185 : decode cX6_endAtom 185 = .ok (.ifCond .eq 20, 3) := by decide +kernel
theorem dX6_endAtom_188 : decode cX6_endAtom 188 = .ok (.aload_n 0, 1) := by decide +kernel
theorem dX6_endAtom_189 : decode cX6_endAtom 189 = .ok (.iload_n 1, 1) := by decide +kernel
theorem dX6_endAtom_190 : decode cX6_endAtom 190 = .ok (.iload_n 3, 1) := by decide +kernel
theorem dX6_endAtom_191 : decode cX6_endAtom 191 = .ok (.aload_n 0, 1) := by decide +kernel
theorem dX6_endAtom_192 : decode cX6_endAtom 192 = .ok (.getfield 89, 3) := by decide +kernel
theorem dX6_endAtom_195 : decode cX6_endAtom 195 = .ok (.bipush 8, 2) := by decide +kernel
theorem dX6_endAtom_197 : decode cX6_endAtom 197 = .ok (.iload_n 1, 1) := by decide +kernel
theorem dX6_endAtom_198 : decode cX6_endAtom 198 = .ok (.imul, 1) := by decide +kernel
theorem dX6_endAtom_199 : decode cX6_endAtom 199 = .ok (.iload_n 3, 1) := by decide +kernel
theorem dX6_endAtom_200 : decode cX6_endAtom 200 = .ok (.iadd, 1) := by decide +kernel
theorem dX6_endAtom_201 : decode cX6_endAtom 201 = .ok (.iaload, 1) := by decide +kernel
theorem dX6_endAtom_202 : decode cX6_endAtom 202 = .ok (.invokevirtual 136, 3) := by decide +kernel
theorem dX6_endAtom_205 : decode cX6_endAtom 205 = .ok (.iinc 3 1, 3) := by decide +kernel
theorem dX6_endAtom_208 : decode cX6_endAtom 208 = .ok (.goto (-40), 3) := by decide +kernel
theorem dX6_endAtom_211 : decode cX6_endAtom 211 = .ok (.aload_n 0, 1) := by decide +kernel
theorem dX6_endAtom_212 : decode cX6_endAtom 212 = .ok (.getfield 47, 3) := by decide +kernel
theorem dX6_endAtom_215 : decode cX6_endAtom 215 = .ok (.iload_n 1, 1) := by decide +kernel
theorem dX6_endAtom_216 : decode cX6_endAtom 216 = .ok (.iaload, 1) := by decide +kernel
theorem dX6_endAtom_217 : decode cX6_endAtom 217 = .ok (.iconst 1, 1) := by decide +kernel
theorem dX6_endAtom_218 : decode cX6_endAtom 218 = .ok (.iadd, 1) := by decide +kernel
theorem dX6_endAtom_219 : decode cX6_endAtom 219 = .ok (.ireturn, 1) := by decide +kernel
theorem dX6_r_0 : decode cX6_r 0 = .ok (.aload_n 0, 1) := by decide +kernel
theorem dX6_r_1 : decode cX6_r 1 = .ok (.getfield 44, 3) := by decide +kernel
theorem dX6_r_4 : decode cX6_r 4 = .ok (.iconst 4, 1) := by decide +kernel
theorem dX6_r_5 : decode cX6_r 5 = .ok (.iload_n 1, 1) := by decide +kernel
theorem dX6_r_6 : decode cX6_r 6 = .ok (.imul, 1) := by decide +kernel
theorem dX6_r_7 : decode cX6_r 7 = .ok (.iload_n 2, 1) := by decide +kernel
theorem dX6_r_8 : decode cX6_r 8 = .ok (.iadd, 1) := by decide +kernel
theorem dX6_r_9 : decode cX6_r 9 = .ok (.iaload, 1) := by decide +kernel
theorem dX6_r_10 : decode cX6_r 10 = .ok (.ireturn, 1) := by decide +kernel
theorem dX6_give_0 : decode cX6_give 0 = .ok (.aload_n 0, 1) := by decide +kernel
theorem dX6_give_1 : decode cX6_give 1 = .ok (.getfield 133, 3) := by decide +kernel
theorem dX6_give_4 : decode cX6_give 4 = .ok (.ifCond .ne 14, 3) := by decide +kernel
theorem dX6_give_7 : decode cX6_give 7 = .ok (.aload_n 0, 1) := by decide +kernel
theorem dX6_give_8 : decode cX6_give 8 = .ok (.getfield 44, 3) := by decide +kernel
theorem dX6_give_11 : decode cX6_give 11 = .ok (.iconst 4, 1) := by decide +kernel
theorem dX6_give_12 : decode cX6_give 12 = .ok (.iload_n 1, 1) := by decide +kernel
theorem dX6_give_13 : decode cX6_give 13 = .ok (.imul, 1) := by decide +kernel
theorem dX6_give_14 : decode cX6_give 14 = .ok (.iload_n 2, 1) := by decide +kernel
theorem dX6_give_15 : decode cX6_give 15 = .ok (.iadd, 1) := by decide +kernel
theorem dX6_give_16 : decode cX6_give 16 = .ok (.iload_n 3, 1) := by decide +kernel
theorem dX6_give_17 : decode cX6_give 17 = .ok (.iastore, 1) := by decide +kernel
theorem dX6_give_18 : decode cX6_give 18 = .ok (.return_, 1) := by decide +kernel
set_option maxRecDepth 20000 in
theorem ggX6_checkItem_X6_within : GoodIn wsX6_checkItem wsX6_within := goodIn_r _ [6] (by decide +kernel) (by decide +kernel)
set_option maxRecDepth 20000 in
theorem gX6_checkItem_X6_within : GoodIn wsX6_checkItem (va_wsS RX6 111 yX6_within wsX6_within) := goodIn_app (goodIn_of _ (by decide +kernel)) ggX6_checkItem_X6_within
theorem dX6_checkItem_0 : decode cX6_checkItem 0 = .ok (.aload_n 0, 1) := by decide +kernel
theorem dX6_checkItem_1 : decode cX6_checkItem 1 = .ok (.aload_n 0, 1) := by decide +kernel
theorem dX6_checkItem_2 : decode cX6_checkItem 2 = .ok (.getfield 20, 3) := by decide +kernel
theorem dX6_checkItem_5 : decode cX6_checkItem 5 = .ok (.iload_n 1, 1) := by decide +kernel
theorem dX6_checkItem_6 : decode cX6_checkItem 6 = .ok (.iaload, 1) := by decide +kernel
theorem dX6_checkItem_7 : decode cX6_checkItem 7 = .ok (.iconst (-1), 1) := by decide +kernel
theorem dX6_checkItem_8 : decode cX6_checkItem 8 = .ok (.if_icmp .ne 7, 3) := by decide +kernel
theorem dX6_checkItem_11 : decode cX6_checkItem 11 = .ok (.iconst 1, 1) := by decide +kernel
theorem dX6_checkItem_12 : decode cX6_checkItem 12 = .ok (.goto 24, 3) := by decide +kernel
theorem dX6_checkItem_15 : decode cX6_checkItem 15 = .ok (.iload_n 2, 1) := by decide +kernel
theorem dX6_checkItem_16 : decode cX6_checkItem 16 = .ok (.iconst 0, 1) := by decide +kernel
theorem dX6_checkItem_17 : decode cX6_checkItem 17 = .ok (.aload_n 0, 1) := by decide +kernel
theorem dX6_checkItem_18 : decode cX6_checkItem 18 = .ok (.getfield 20, 3) := by decide +kernel
theorem dX6_checkItem_21 : decode cX6_checkItem 21 = .ok (.iload_n 1, 1) := by decide +kernel
theorem dX6_checkItem_22 : decode cX6_checkItem 22 = .ok (.iaload, 1) := by decide +kernel
theorem dX6_checkItem_23 : decode cX6_checkItem 23 = .ok (.iconst 1, 1) := by decide +kernel
theorem dX6_checkItem_24 : decode cX6_checkItem 24 = .ok (.isub, 1) := by decide +kernel
theorem dX6_checkItem_25 : decode cX6_checkItem 25 = .ok (.invokestatic 111, 3) := by decide +kernel
theorem dX6_checkItem_28 : decode cX6_checkItem 28 = .ok (.ifCond .eq 7, 3) := by decide +kernel
theorem dX6_checkItem_31 : decode cX6_checkItem 31 = .ok (.iconst 0, 1) := by decide +kernel
theorem dX6_checkItem_32 : decode cX6_checkItem 32 = .ok (.goto 4, 3) := by decide +kernel
theorem dX6_checkItem_35 : decode cX6_checkItem 35 = .ok (.iconst 3, 1) := by decide +kernel
theorem dX6_checkItem_36 : decode cX6_checkItem 36 = .ok (.putfield 133, 3) := by decide +kernel
theorem dX6_checkItem_39 : decode cX6_checkItem 39 = .ok (.return_, 1) := by decide +kernel
set_option maxRecDepth 20000 in
theorem ggX6_compute_X6_give : GoodIn wsX6_compute wsX6_give := goodIn_r _ [6, 1, 7, 8, 9, 10, 11, 12, 13, 14, 15, 16, 17, 18, 19, 20, 21, 22, 23, 24, 25, 26, 27, 28, 29, 30, 31, 32, 33, 34, 35, 36, 37, 38, 39, 40, 41] (by decide +kernel) (by decide +kernel)
set_option maxRecDepth 20000 in
theorem gX6_compute_X6_give : GoodIn wsX6_compute (wsV RX6 147 RX6 yX6_give wsX6_give) := goodIn_app (goodIn_of _ (by decide +kernel)) ggX6_compute_X6_give
theorem dX6_compute_0 : decode cX6_compute 0 = .ok (.iload_n 2, 1) := by decide +kernel
theorem dX6_compute_1 : decode cX6_compute 1 = .ok (.bipush 6, 2) := by decide +kernel
theorem dX6_compute_3 : decode cX6_compute 3 = .ok (.if_icmp .ne 14, 3) := by decide +kernel
theorem dX6_compute_6 : decode cX6_compute 6 = .ok (.iload 5, 2) := by decide +kernel
theorem dX6_compute_8 : decode cX6_compute 8 = .ok (.ifCond .ne 9, 3) := by decide +kernel
theorem dX6_compute_11 : decode cX6_compute 11 = .ok (.aload_n 0, 1) := by decide +kernel
theorem dX6_compute_12 : decode cX6_compute 12 = .ok (.iconst 2, 1) := by decide +kernel
theorem dX6_compute_13 : decode cX6_compute 13 = .ok (.putfield 133, 3) := by decide +kernel
theorem dX6_compute_16 : decode cX6_compute 16 = .ok (.return_, 1) := by decide +kernel
theorem dX6_compute_17 : decode cX6_compute 17 = .ok (.aload_n 0, 1) := by decide +kernel
theorem dX6_compute_18 : decode cX6_compute 18 = .ok (.iload_n 1, 1) := by decide +kernel
theorem dX6_compute_19 : decode cX6_compute 19 = .ok (.iload_n 3, 1) := by decide +kernel
theorem dX6_compute_20 : decode cX6_compute 20 = .ok (.iload_n 2, 1) := by decide +kernel
theorem dX6_compute_21 : decode cX6_compute 21 = .ok (.iconst 3, 1) := by decide +kernel
theorem dX6_compute_22 : decode cX6_compute 22 = .ok (.if_icmp .ne 11, 3) := by decide +kernel
theorem dX6_compute_25 : decode cX6_compute 25 = .ok (.iload 4, 2) := by decide +kernel
theorem dX6_compute_27 : decode cX6_compute 27 = .ok (.iload 5, 2) := by decide +kernel
theorem dX6_compute_29 : decode cX6_compute 29 = .ok (.iadd, 1) := by decide +kernel
theorem dX6_compute_30 : decode cX6_compute 30 = .ok (.goto 47, 3) := by decide +kernel
theorem dX6_compute_33 : decode cX6_compute 33 = .ok (.iload_n 2, 1) := by decide +kernel
theorem dX6_compute_34 : decode cX6_compute 34 = .ok (.iconst 4, 1) := by decide +kernel
theorem dX6_compute_35 : decode cX6_compute 35 = .ok (.if_icmp .ne 11, 3) := by decide +kernel
theorem dX6_compute_38 : decode cX6_compute 38 = .ok (.iload 4, 2) := by decide +kernel
theorem dX6_compute_40 : decode cX6_compute 40 = .ok (.iload 5, 2) := by decide +kernel
theorem dX6_compute_42 : decode cX6_compute 42 = .ok (.isub, 1) := by decide +kernel
theorem dX6_compute_43 : decode cX6_compute 43 = .ok (.goto 34, 3) := by decide +kernel
theorem dX6_compute_46 : decode cX6_compute 46 = .ok (.iload_n 2, 1) := by decide +kernel
theorem dX6_compute_47 : decode cX6_compute 47 = .ok (.iconst 5, 1) := by decide +kernel
theorem dX6_compute_48 : decode cX6_compute 48 = .ok (.if_icmp .ne 11, 3) := by decide +kernel
theorem dX6_compute_51 : decode cX6_compute 51 = .ok (.iload 4, 2) := by decide +kernel
theorem dX6_compute_53 : decode cX6_compute 53 = .ok (.iload 5, 2) := by decide +kernel
theorem dX6_compute_55 : decode cX6_compute 55 = .ok (.imul, 1) := by decide +kernel
theorem dX6_compute_56 : decode cX6_compute 56 = .ok (.goto 21, 3) := by decide +kernel
theorem dX6_compute_59 : decode cX6_compute 59 = .ok (.iload 5, 2) := by decide +kernel
theorem dX6_compute_61 : decode cX6_compute 61 = .ok (.iconst (-1), 1) := by decide +kernel
theorem dX6_compute_62 : decode cX6_compute 62 = .ok (.if_icmp .ne 10, 3) := by decide +kernel
theorem dX6_compute_65 : decode cX6_compute 65 = .ok (.iconst 0, 1) := by decide +kernel
theorem dX6_compute_66 : decode cX6_compute 66 = .ok (.iload 4, 2) := by decide +kernel
theorem dX6_compute_68 : decode cX6_compute 68 = .ok (.isub, 1) := by decide +kernel
theorem dX6_compute_69 : decode cX6_compute 69 = .ok (.goto 8, 3) := by decide +kernel
theorem dX6_compute_72 : decode cX6_compute 72 = .ok (.iload 4, 2) := by decide +kernel
theorem dX6_compute_74 : decode cX6_compute 74 = .ok (.iload 5, 2) := by decide +kernel
theorem dX6_compute_76 : decode cX6_compute 76 = .ok (.idiv, 1) := by decide +kernel
theorem dX6_compute_77 : decode cX6_compute 77 = .ok (.invokevirtual 147, 3) := by decide +kernel
theorem dX6_compute_80 : decode cX6_compute 80 = .ok (.return_, 1) := by decide +kernel
set_option maxRecDepth 20000 in
theorem ggX6_swap_X6_read : GoodIn wsX6_swap wsX6_read := goodIn_r _ [6, 7, 8, 9, 10, 1, 11, 12, 13, 14, 15, 16, 5, 17, 18, 19, 20, 21, 22, 23, 24, 25, 26, 27, 28, 29, 30, 31, 45, 46, 47, 48, 49, 50, 51, 52, 53, 54, 55, 56, 57, 58, 59, 60, 61, 62, 63, 64, 65, 66, 67, 68, 69, 70, 71, 72, 73, 74, 75, 76, 77, 78] (by decide +kernel) (by decide +kernel)
set_option maxRecDepth 20000 in
theorem gX6_swap_X6_read : GoodIn wsX6_swap (wsV RX6 150 RX6 yX6_read wsX6_read) := goodIn_app (goodIn_of _ (by decide +kernel)) ggX6_swap_X6_read
set_option maxRecDepth 20000 in
theorem ggX6_swap_X6_r : GoodIn wsX6_swap wsX6_r := goodIn_r _ [35, 36, 45, 46, 47, 48, 49, 50, 51, 52, 53, 54, 55, 56, 57, 58, 59, 60, 61, 62, 63, 64, 65, 66, 67, 68, 69, 70, 71, 72, 73, 74, 75, 76, 77, 78] (by decide +kernel) (by decide +kernel)
set_option maxRecDepth 20000 in
theorem gX6_swap_X6_r : GoodIn wsX6_swap (wsV RX6 153 RX6 yX6_r wsX6_r) := goodIn_app (goodIn_of _ (by decide +kernel)) ggX6_swap_X6_r
set_option maxRecDepth 20000 in
theorem ggX6_swap_X6_lay : GoodIn wsX6_swap wsX6_lay := goodIn_r _ [40, 7, 8, 9, 20, 21, 22, 5, 23, 13, 10, 24, 25, 26, 27, 28, 29, 30, 31, 45, 46, 47, 48, 49, 50, 51, 52, 53, 54, 55, 56, 57, 58, 59, 60, 61, 62, 63, 64, 65, 66, 67, 68, 69, 70, 71, 72, 73, 74, 75, 76, 77, 78] (by decide +kernel) (by decide +kernel)
set_option maxRecDepth 20000 in
theorem gX6_swap_X6_lay : GoodIn wsX6_swap (wsV RX6 156 RX6 yX6_lay wsX6_lay) := goodIn_app (goodIn_of _ (by decide +kernel)) ggX6_swap_X6_lay
set_option maxRecDepth 20000 in
theorem ggX6_swap_X6_give : GoodIn wsX6_swap wsX6_give := goodIn_r _ [44, 1, 36, 45, 46, 47, 48, 49, 50, 51, 52, 53, 54, 55, 56, 57, 58, 59, 60, 61, 62, 63, 64, 65, 66, 67, 68, 69, 70, 71, 72, 73, 74, 75, 76, 77, 78] (by decide +kernel) (by decide +kernel)
set_option maxRecDepth 20000 in
theorem gX6_swap_X6_give : GoodIn wsX6_swap (wsV RX6 147 RX6 yX6_give wsX6_give) := goodIn_app (goodIn_of _ (by decide +kernel)) ggX6_swap_X6_give
theorem dX6_swap_0 : decode cX6_swap 0 = .ok (.aload_n 0, 1) := by decide +kernel
theorem dX6_swap_1 : decode cX6_swap 1 = .ok (.iload_n 1, 1) := by decide +kernel
theorem dX6_swap_2 : decode cX6_swap 2 = .ok (.iload_n 2, 1) := by decide +kernel
theorem dX6_swap_3 : decode cX6_swap 3 = .ok (.invokevirtual 150, 3) := by decide +kernel
theorem dX6_swap_6 : decode cX6_swap 6 = .ok (.istore 5, 2) := by decide +kernel
theorem dX6_swap_8 : decode cX6_swap 8 = .ok (.aload_n 0, 1) := by decide +kernel
theorem dX6_swap_9 : decode cX6_swap 9 = .ok (.getfield 133, 3) := by decide +kernel
theorem dX6_swap_12 : decode cX6_swap 12 = .ok (.ifCond .eq 4, 3) := by decide +kernel
theorem dX6_swap_15 : decode cX6_swap 15 = .ok (.return_, 1) := by decide +kernel
theorem dX6_swap_16 : decode cX6_swap 16 = .ok (.iload 5, 2) := by decide +kernel
theorem dX6_swap_18 : decode cX6_swap 18 = .ok (.aload_n 0, 1) := by decide +kernel
theorem dX6_swap_19 : decode cX6_swap 19 = .ok (.iload_n 1, 1) := by decide +kernel
theorem dX6_swap_20 : decode cX6_swap 20 = .ok (.iload_n 3, 1) := by decide +kernel
theorem dX6_swap_21 : decode cX6_swap 21 = .ok (.invokevirtual 153, 3) := by decide +kernel
theorem dX6_swap_24 : decode cX6_swap 24 = .ok (.if_icmp .ne 7, 3) := by decide +kernel
theorem dX6_swap_27 : decode cX6_swap 27 = .ok (.iconst 1, 1) := by decide +kernel
theorem dX6_swap_28 : decode cX6_swap 28 = .ok (.goto 4, 3) := by decide +kernel
theorem dX6_swap_31 : decode cX6_swap 31 = .ok (.iconst 0, 1) := by decide +kernel
theorem dX6_swap_32 : decode cX6_swap 32 = .ok (.istore 6, 2) := by decide +kernel
theorem dX6_swap_34 : decode cX6_swap 34 = .ok (.iload 6, 2) := by decide +kernel
theorem dX6_swap_36 : decode cX6_swap 36 = .ok (.ifCond .eq 16, 3) := by decide +kernel
theorem dX6_swap_39 : decode cX6_swap 39 = .ok (.aload_n 0, 1) := by decide +kernel
theorem dX6_swap_40 : decode cX6_swap 40 = .ok (.iload_n 1, 1) := by decide +kernel
theorem dX6_swap_41 : decode cX6_swap 41 = .ok (.iload_n 2, 1) := by decide +kernel
theorem dX6_swap_42 : decode cX6_swap 42 = .ok (.aload_n 0, 1) := by decide +kernel
theorem dX6_swap_43 : decode cX6_swap 43 = .ok (.iload_n 1, 1) := by decide +kernel
theorem dX6_swap_44 : decode cX6_swap 44 = .ok (.iload 4, 2) := by decide +kernel
theorem dX6_swap_46 : decode cX6_swap 46 = .ok (.invokevirtual 153, 3) := by decide +kernel
theorem dX6_swap_49 : decode cX6_swap 49 = .ok (.invokevirtual 156, 3) := by decide +kernel
theorem dX6_swap_52 : decode cX6_swap 52 = .ok (.aload_n 0, 1) := by decide +kernel
theorem dX6_swap_53 : decode cX6_swap 53 = .ok (.iload_n 1, 1) := by decide +kernel
theorem dX6_swap_54 : decode cX6_swap 54 = .ok (.iload_n 3, 1) := by decide +kernel
theorem dX6_swap_55 : decode cX6_swap 55 = .ok (.iload 6, 2) := by decide +kernel
theorem dX6_swap_57 : decode cX6_swap 57 = .ok (.ifCond .eq 7, 3) := by decide +kernel
theorem dX6_swap_60 : decode cX6_swap 60 = .ok (.iconst 1, 1) := by decide +kernel
theorem dX6_swap_61 : decode cX6_swap 61 = .ok (.goto 4, 3) := by decide +kernel
theorem dX6_swap_64 : decode cX6_swap 64 = .ok (.iconst 0, 1) := by decide +kernel
theorem dX6_swap_65 : decode cX6_swap 65 = .ok (.invokevirtual 147, 3) := by decide +kernel
theorem dX6_swap_68 : decode cX6_swap 68 = .ok (.return_, 1) := by decide +kernel
set_option maxRecDepth 20000 in
theorem ggX6_rows_X6_r : GoodIn wsX6_rows wsX6_r := goodIn_r _ [11, 12, 24, 25, 26, 27, 28, 29, 30, 31, 32, 33, 34, 35, 36, 37, 38, 39, 40, 41, 42, 43, 44, 45, 46, 47, 48, 49, 50, 51, 52, 53, 54, 55, 56, 57] (by decide +kernel) (by decide +kernel)
set_option maxRecDepth 20000 in
theorem gX6_rows_X6_r : GoodIn wsX6_rows (wsV RX6 153 RX6 yX6_r wsX6_r) := goodIn_app (goodIn_of _ (by decide +kernel)) ggX6_rows_X6_r
set_option maxRecDepth 20000 in
theorem ggX6_rows_X6_checkItem : GoodIn wsX6_rows wsX6_checkItem := goodIn_r _ [16, 4, 1, 17, 18, 10, 19, 24, 25, 26, 27, 28, 29, 30, 31, 32, 33, 34, 35, 36, 37, 38, 39, 40, 41, 42, 43, 44, 45, 46, 47, 48, 49, 50, 51, 52, 53, 54, 55, 56, 57] (by decide +kernel) (by decide +kernel)
set_option maxRecDepth 20000 in
theorem gX6_rows_X6_checkItem : GoodIn wsX6_rows (wsV RX6 159 RX6 yX6_checkItem wsX6_checkItem) := goodIn_app (goodIn_of _ (by decide +kernel)) ggX6_rows_X6_checkItem
set_option maxRecDepth 20000 in
theorem ggX6_rows_X6_give : GoodIn wsX6_rows wsX6_give := goodIn_r _ [23, 1, 12, 24, 25, 26, 27, 28, 29, 30, 31, 32, 33, 34, 35, 36, 37, 38, 39, 40, 41, 42, 43, 44, 45, 46, 47, 48, 49, 50, 51, 52, 53, 54, 55, 56, 57] (by decide +kernel) (by decide +kernel)
set_option maxRecDepth 20000 in
theorem gX6_rows_X6_give : GoodIn wsX6_rows (wsV RX6 147 RX6 yX6_give wsX6_give) := goodIn_app (goodIn_of _ (by decide +kernel)) ggX6_rows_X6_give
theorem dX6_rows_0 : decode cX6_rows 0 = .ok (.iload_n 2, 1) := by decide +kernel
theorem dX6_rows_1 : decode cX6_rows 1 = .ok (.bipush 7, 2) := by decide +kernel
theorem dX6_rows_3 : decode cX6_rows 3 = .ok (.if_icmp .ne 50, 3) := by decide +kernel
theorem dX6_rows_6 : decode cX6_rows 6 = .ok (.aload_n 0, 1) := by decide +kernel
theorem dX6_rows_7 : decode cX6_rows 7 = .ok (.iload 4, 2) := by decide +kernel
theorem dX6_rows_9 : decode cX6_rows 9 = .ok (.aload_n 0, 1) := by decide +kernel
theorem dX6_rows_10 : decode cX6_rows 10 = .ok (.iload_n 1, 1) := by decide +kernel
theorem dX6_rows_11 : decode cX6_rows 11 = .ok (.iload 5, 2) := by decide +kernel
theorem dX6_rows_13 : decode cX6_rows 13 = .ok (.invokevirtual 153, 3) := by decide +kernel
theorem dX6_rows_16 : decode cX6_rows 16 = .ok (.invokevirtual 159, 3) := by decide +kernel
theorem dX6_rows_19 : decode cX6_rows 19 = .ok (.aload_n 0, 1) := by decide +kernel
theorem dX6_rows_20 : decode cX6_rows 20 = .ok (.getfield 133, 3) := by decide +kernel
theorem dX6_rows_23 : decode cX6_rows 23 = .ok (.ifCond .ne 276, 3) := by decide +kernel
theorem dX6_rows_26 : decode cX6_rows 26 = .ok (.aload_n 0, 1) := by decide +kernel
theorem dX6_rows_27 : decode cX6_rows 27 = .ok (.iload_n 1, 1) := by decide +kernel
theorem dX6_rows_28 : decode cX6_rows 28 = .ok (.iload_n 3, 1) := by decide +kernel
theorem dX6_rows_29 : decode cX6_rows 29 = .ok (.aload_n 0, 1) := by decide +kernel
theorem dX6_rows_30 : decode cX6_rows 30 = .ok (.getfield 23, 3) := by decide +kernel
theorem dX6_rows_33 : decode cX6_rows 33 = .ok (.bipush 8, 2) := by decide +kernel
theorem dX6_rows_35 : decode cX6_rows 35 = .ok (.iload 4, 2) := by decide +kernel
theorem dX6_rows_37 : decode cX6_rows 37 = .ok (.imul, 1) := by decide +kernel
theorem dX6_rows_38 : decode cX6_rows 38 = .ok (.aload_n 0, 1) := by decide +kernel
theorem dX6_rows_39 : decode cX6_rows 39 = .ok (.iload_n 1, 1) := by decide +kernel
theorem dX6_rows_40 : decode cX6_rows 40 = .ok (.iload 5, 2) := by decide +kernel
theorem dX6_rows_42 : decode cX6_rows 42 = .ok (.invokevirtual 153, 3) := by decide +kernel
theorem dX6_rows_45 : decode cX6_rows 45 = .ok (.iadd, 1) := by decide +kernel
theorem dX6_rows_46 : decode cX6_rows 46 = .ok (.iaload, 1) := by decide +kernel
theorem dX6_rows_47 : decode cX6_rows 47 = .ok (.invokevirtual 147, 3) := by decide +kernel
theorem dX6_rows_50 : decode cX6_rows 50 = .ok (.goto 249, 3) := by decide +kernel
theorem dX6_rows_53 : decode cX6_rows 53 = .ok (.iload_n 2, 1) := by decide +kernel
theorem dX6_rows_54 : decode cX6_rows 54 = .ok (.bipush 8, 2) := by decide +kernel
theorem dX6_rows_56 : decode cX6_rows 56 = .ok (.if_icmp .ne 77, 3) := by decide +kernel
theorem dX6_rows_59 : decode cX6_rows 59 = .ok (.aload_n 0, 1) := by decide +kernel
theorem dX6_rows_60 : decode cX6_rows 60 = .ok (.iload_n 3, 1) := by decide +kernel
theorem dX6_rows_61 : decode cX6_rows 61 = .ok (.aload_n 0, 1) := by decide +kernel
theorem dX6_rows_62 : decode cX6_rows 62 = .ok (.iload_n 1, 1) := by decide +kernel
theorem dX6_rows_63 : decode cX6_rows 63 = .ok (.iload 4, 2) := by decide +kernel
theorem dX6_rows_65 : decode cX6_rows 65 = .ok (.invokevirtual 153, 3) := by decide +kernel
theorem dX6_rows_68 : decode cX6_rows 68 = .ok (.invokevirtual 159, 3) := by decide +kernel
theorem dX6_rows_71 : decode cX6_rows 71 = .ok (.aload_n 0, 1) := by decide +kernel
theorem dX6_rows_72 : decode cX6_rows 72 = .ok (.aload_n 0, 1) := by decide +kernel
theorem dX6_rows_73 : decode cX6_rows 73 = .ok (.getfield 133, 3) := by decide +kernel
theorem dX6_rows_76 : decode cX6_rows 76 = .ok (.ifCond .ne 16, 3) := by decide +kernel
theorem dX6_rows_79 : decode cX6_rows 79 = .ok (.aload_n 0, 1) := by decide +kernel
theorem dX6_rows_80 : decode cX6_rows 80 = .ok (.getfield 26, 3) := by decide +kernel
theorem dX6_rows_83 : decode cX6_rows 83 = .ok (.iload_n 3, 1) := by decide +kernel
theorem dX6_rows_84 : decode cX6_rows 84 = .ok (.baload, 1) := by decide +kernel
theorem dX6_rows_85 : decode cX6_rows 85 = .ok (.ifCond .eq 7, 3) := by decide +kernel
theorem dX6_rows_88 : decode cX6_rows 88 = .ok (.iconst 4, 1) := by decide +kernel
theorem dX6_rows_89 : decode cX6_rows 89 = .ok (.goto 7, 3) := by decide +kernel
theorem dX6_rows_92 : decode cX6_rows 92 = .ok (.aload_n 0, 1) := by decide +kernel
theorem dX6_rows_93 : decode cX6_rows 93 = .ok (.getfield 133, 3) := by decide +kernel
theorem dX6_rows_96 : decode cX6_rows 96 = .ok (.putfield 133, 3) := by decide +kernel
theorem dX6_rows_99 : decode cX6_rows 99 = .ok (.aload_n 0, 1) := by decide +kernel
theorem dX6_rows_100 : decode cX6_rows 100 = .ok (.getfield 133, 3) := by decide +kernel
theorem dX6_rows_103 : decode cX6_rows 103 = .ok (.ifCond .ne 196, 3) := by decide +kernel
theorem dX6_rows_106 : decode cX6_rows 106 = .ok (.aload_n 0, 1) := by decide +kernel
theorem dX6_rows_107 : decode cX6_rows 107 = .ok (.getfield 23, 3) := by decide +kernel
theorem dX6_rows_110 : decode cX6_rows 110 = .ok (.bipush 8, 2) := by decide +kernel
theorem dX6_rows_112 : decode cX6_rows 112 = .ok (.iload_n 3, 1) := by decide +kernel
theorem dX6_rows_113 : decode cX6_rows 113 = .ok (.imul, 1) := by decide +kernel
theorem dX6_rows_114 : decode cX6_rows 114 = .ok (.aload_n 0, 1) := by decide +kernel
theorem dX6_rows_115 : decode cX6_rows 115 = .ok (.iload_n 1, 1) := by decide +kernel
theorem dX6_rows_116 : decode cX6_rows 116 = .ok (.iload 4, 2) := by decide +kernel
theorem dX6_rows_118 : decode cX6_rows 118 = .ok (.invokevirtual 153, 3) := by decide +kernel
theorem dX6_rows_121 : decode cX6_rows 121 = .ok (.iadd, 1) := by decide +kernel
theorem dX6_rows_122 : decode cX6_rows 122 = .ok (.aload_n 0, 1) := by decide +kernel
theorem dX6_rows_123 : decode cX6_rows 123 = .ok (.iload_n 1, 1) := by decide +kernel
theorem dX6_rows_124 : decode cX6_rows 124 = .ok (.iload 5, 2) := by decide +kernel
theorem dX6_rows_126 : decode cX6_rows 126 = .ok (.invokevirtual 153, 3) := by decide +kernel
theorem dX6_rows_129 : decode cX6_rows 129 = .ok (.iastore, 1) := by decide +kernel
theorem dX6_rows_130 : decode cX6_rows 130 = .ok (.goto 169, 3) := by decide +kernel
theorem dX6_rows_133 : decode cX6_rows 133 = .ok (.iload_n 2, 1) := by decide +kernel
theorem dX6_rows_134 : decode cX6_rows 134 = .ok (.bipush 17, 2) := by decide +kernel
theorem dX6_rows_136 : decode cX6_rows 136 = .ok (.if_icmp .ne 93, 3) := by decide +kernel
theorem dX6_rows_139 : decode cX6_rows 139 = .ok (.aload_n 0, 1) := by decide +kernel
theorem dX6_rows_140 : decode cX6_rows 140 = .ok (.iload_n 1, 1) := by decide +kernel
theorem dX6_rows_141 : decode cX6_rows 141 = .ok (.iload 4, 2) := by decide +kernel
theorem dX6_rows_143 : decode cX6_rows 143 = .ok (.invokevirtual 153, 3) := by decide +kernel
theorem dX6_rows_146 : decode cX6_rows 146 = .ok (.istore 6, 2) := by decide +kernel
theorem dX6_rows_148 : decode cX6_rows 148 = .ok (.aload_n 0, 1) := by decide +kernel
theorem dX6_rows_149 : decode cX6_rows 149 = .ok (.iload 6, 2) := by decide +kernel
theorem dX6_rows_151 : decode cX6_rows 151 = .ok (.ifCond .ge 8, 3) := by decide +kernel
theorem dX6_rows_154 : decode cX6_rows 154 = .ok (.bipush 6, 2) := by decide +kernel
theorem dX6_rows_156 : decode cX6_rows 156 = .ok (.goto 16, 3) := by decide +kernel
theorem dX6_rows_159 : decode cX6_rows 159 = .ok (.iload 6, 2) := by decide +kernel
theorem dX6_rows_161 : decode cX6_rows 161 = .ok (.bipush 8, 2) := by decide +kernel
theorem dX6_rows_163 : decode cX6_rows 163 = .ok (.if_icmp .le 8, 3) := by decide +kernel
theorem dX6_rows_166 : decode cX6_rows 166 = .ok (.bipush 7, 2) := by decide +kernel
theorem dX6_rows_168 : decode cX6_rows 168 = .ok (.goto 4, 3) := by decide +kernel
theorem dX6_rows_171 : decode cX6_rows 171 = .ok (.iconst 0, 1) := by decide +kernel
theorem dX6_rows_172 : decode cX6_rows 172 = .ok (.putfield 133, 3) := by decide +kernel
theorem dX6_rows_175 : decode cX6_rows 175 = .ok (.aload_n 0, 1) := by decide +kernel
theorem dX6_rows_176 : decode cX6_rows 176 = .ok (.getfield 133, 3) := by decide +kernel
theorem dX6_rows_179 : decode cX6_rows 179 = .ok (.ifCond .ne 47, 3) := by decide +kernel
theorem dX6_rows_182 : decode cX6_rows 182 = .ok (.aload_n 0, 1) := by decide +kernel
theorem dX6_rows_183 : decode cX6_rows 183 = .ok (.getfield 20, 3) := by decide +kernel
theorem dX6_rows_186 : decode cX6_rows 186 = .ok (.iload_n 3, 1) := by decide +kernel
theorem dX6_rows_187 : decode cX6_rows 187 = .ok (.iload 6, 2) := by decide +kernel
theorem dX6_rows_189 : decode cX6_rows 189 = .ok (.iastore, 1) := by decide +kernel
theorem dX6_rows_190 : decode cX6_rows 190 = .ok (.aload_n 0, 1) := by decide +kernel
theorem dX6_rows_191 : decode cX6_rows 191 = .ok (.getfield 26, 3) := by decide +kernel
theorem dX6_rows_194 : decode cX6_rows 194 = .ok (.iload_n 3, 1) := by decide +kernel
theorem dX6_rows_195 : decode cX6_rows 195 = .ok (.iconst 0, 1) := by decide +kernel
theorem dX6_rows_196 : decode cX6_rows 196 = .ok (.bastore, 1) := by decide +kernel
theorem dX6_rows_197 : decode cX6_rows 197 = .ok (.iconst 0, 1) := by decide +kernel
theorem dX6_rows_198 : decode cX6_rows 198 = .ok (.istore 7, 2) := by decide +kernel
theorem dX6_rows_200 : decode cX6_rows 200 = .ok (.iload 7, 2) := by decide +kernel
theorem dX6_rows_202 : decode cX6_rows 202 = .ok (.iload 6, 2) := by decide +kernel
theorem dX6_rows_204 : decode cX6_rows 204 = .ok (.if_icmp .ge 22, 3) := by decide +kernel
theorem dX6_rows_207 : decode cX6_rows 207 = .ok (.aload_n 0, 1) := by decide +kernel
theorem dX6_rows_208 : decode cX6_rows 208 = .ok (.getfield 23, 3) := by decide +kernel
theorem dX6_rows_211 : decode cX6_rows 211 = .ok (.bipush 8, 2) := by decide +kernel
theorem dX6_rows_213 : decode cX6_rows 213 = .ok (.iload_n 3, 1) := by decide +kernel
theorem dX6_rows_214 : decode cX6_rows 214 = .ok (.imul, 1) := by decide +kernel
theorem dX6_rows_215 : decode cX6_rows 215 = .ok (.iload 7, 2) := by decide +kernel
theorem dX6_rows_217 : decode cX6_rows 217 = .ok (.iadd, 1) := by decide +kernel
theorem dX6_rows_218 : decode cX6_rows 218 = .ok (.iconst 0, 1) := by decide +kernel
theorem dX6_rows_219 : decode cX6_rows 219 = .ok (.iastore, 1) := by decide +kernel
theorem dX6_rows_220 : decode cX6_rows 220 = .ok (.iinc 7 1, 3) := by decide +kernel
theorem dX6_rows_223 : decode cX6_rows 223 = .ok (.goto (-23), 3) := by decide +kernel
theorem dX6_rows_226 : decode cX6_rows 226 = .ok (.goto 73, 3) := by decide +kernel
theorem dX6_rows_229 : decode cX6_rows 229 = .ok (.iload_n 2, 1) := by decide +kernel
theorem dX6_rows_230 : decode cX6_rows 230 = .ok (.bipush 18, 2) := by decide +kernel
theorem dX6_rows_232 : decode cX6_rows 232 = .ok (.if_icmp .ne 52, 3) := by decide +kernel
theorem dX6_rows_235 : decode cX6_rows 235 = .ok (.aload_n 0, 1) := by decide +kernel
theorem dX6_rows_236 : decode cX6_rows 236 = .ok (.aload_n 0, 1) := by decide +kernel
theorem dX6_rows_237 : decode cX6_rows 237 = .ok (.getfield 20, 3) := by decide +kernel
theorem dX6_rows_240 : decode cX6_rows 240 = .ok (.iload_n 3, 1) := by decide +kernel
theorem dX6_rows_241 : decode cX6_rows 241 = .ok (.iaload, 1) := by decide +kernel
theorem dX6_rows_242 : decode cX6_rows 242 = .ok (.iconst (-1), 1) := by decide +kernel
theorem dX6_rows_243 : decode cX6_rows 243 = .ok (.if_icmp .ne 7, 3) := by decide +kernel
theorem dX6_rows_246 : decode cX6_rows 246 = .ok (.iconst 1, 1) := by decide +kernel
theorem dX6_rows_247 : decode cX6_rows 247 = .ok (.goto 4, 3) := by decide +kernel
theorem dX6_rows_250 : decode cX6_rows 250 = .ok (.iconst 0, 1) := by decide +kernel
theorem dX6_rows_251 : decode cX6_rows 251 = .ok (.putfield 133, 3) := by decide +kernel
theorem dX6_rows_254 : decode cX6_rows 254 = .ok (.aload_n 0, 1) := by decide +kernel
theorem dX6_rows_255 : decode cX6_rows 255 = .ok (.getfield 26, 3) := by decide +kernel
theorem dX6_rows_258 : decode cX6_rows 258 = .ok (.iload_n 3, 1) := by decide +kernel
theorem dX6_rows_259 : decode cX6_rows 259 = .ok (.aload_n 0, 1) := by decide +kernel
theorem dX6_rows_260 : decode cX6_rows 260 = .ok (.getfield 26, 3) := by decide +kernel
theorem dX6_rows_263 : decode cX6_rows 263 = .ok (.iload_n 3, 1) := by decide +kernel
theorem dX6_rows_264 : decode cX6_rows 264 = .ok (.baload, 1) := by decide +kernel
theorem dX6_rows_265 : decode cX6_rows 265 = .ok (.ifCond .ne 10, 3) := by decide +kernel
theorem dX6_rows_268 : decode cX6_rows 268 = .ok (.aload_n 0, 1) := by decide +kernel
theorem dX6_rows_269 : decode cX6_rows 269 = .ok (.getfield 133, 3) := by decide +kernel
theorem dX6_rows_272 : decode cX6_rows 272 = .ok (.ifCond .ne 7, 3) := by decide +kernel
theorem dX6_rows_275 : decode cX6_rows 275 = .ok (.iconst 1, 1) := by decide +kernel
theorem dX6_rows_276 : decode cX6_rows 276 = .ok (.goto 4, 3) := by decide +kernel
theorem dX6_rows_279 : decode cX6_rows 279 = .ok (.iconst 0, 1) := by decide +kernel
theorem dX6_rows_280 : decode cX6_rows 280 = .ok (.bastore, 1) := by decide +kernel
theorem dX6_rows_281 : decode cX6_rows 281 = .ok (.goto 18, 3) := by decide +kernel
theorem dX6_rows_284 : decode cX6_rows 284 = .ok (.aload_n 0, 1) := by decide +kernel
theorem dX6_rows_285 : decode cX6_rows 285 = .ok (.getfield 7, 3) := by decide +kernel
theorem dX6_rows_288 : decode cX6_rows 288 = .ok (.iload_n 3, 1) := by decide +kernel
theorem dX6_rows_289 : decode cX6_rows 289 = .ok (.iload 4, 2) := by decide +kernel
theorem dX6_rows_291 : decode cX6_rows 291 = .ok (.iastore, 1) := by decide +kernel
theorem dX6_rows_292 : decode cX6_rows 292 = .ok (.aload_n 0, 1) := by decide +kernel
theorem dX6_rows_293 : decode cX6_rows 293 = .ok (.getfield 13, 3) := by decide +kernel
theorem dX6_rows_296 : decode cX6_rows 296 = .ok (.iload_n 3, 1) := by decide +kernel
theorem dX6_rows_297 : decode cX6_rows 297 = .ok (.iconst 1, 1) := by decide +kernel
theorem dX6_rows_298 : decode cX6_rows 298 = .ok (.bastore, 1) := by decide +kernel
theorem dX6_rows_299 : decode cX6_rows 299 = .ok (.return_, 1) := by decide +kernel
set_option maxRecDepth 20000 in
theorem ggX6_doAct_X6_give : GoodIn wsX6_doAct wsX6_give := goodIn_r _ [15, 7, 16, 90, 91, 92, 93, 94, 95, 96, 97, 98, 99, 100, 101, 102, 103, 104, 105, 106, 107, 108, 109, 110, 111, 112, 113, 114, 115, 116, 117, 118, 119, 120, 121, 122, 123] (by decide +kernel) (by decide +kernel)
set_option maxRecDepth 20000 in
theorem gX6_doAct_X6_give : GoodIn wsX6_doAct (wsV RX6 147 RX6 yX6_give wsX6_give) := goodIn_app (goodIn_of _ (by decide +kernel)) ggX6_doAct_X6_give
set_option maxRecDepth 20000 in
theorem ggX6_doAct_X6_read : GoodIn wsX6_doAct wsX6_read := goodIn_r _ [20, 9, 21, 22, 23, 7, 24, 25, 26, 27, 28, 29, 14, 30, 31, 32, 33, 34, 35, 36, 37, 38, 39, 40, 41, 42, 43, 44, 90, 91, 92, 93, 94, 95, 96, 97, 98, 99, 100, 101, 102, 103, 104, 105, 106, 107, 108, 109, 110, 111, 112, 113, 114, 115, 116, 117, 118, 119, 120, 121, 122, 123] (by decide +kernel) (by decide +kernel)
set_option maxRecDepth 20000 in
theorem gX6_doAct_X6_read : GoodIn wsX6_doAct (wsV RX6 150 RX6 yX6_read wsX6_read) := goodIn_app (goodIn_of _ (by decide +kernel)) ggX6_doAct_X6_read
set_option maxRecDepth 20000 in
theorem ggX6_doAct_X6_r : GoodIn wsX6_doAct wsX6_r := goodIn_r _ [48, 16, 90, 91, 92, 93, 94, 95, 96, 97, 98, 99, 100, 101, 102, 103, 104, 105, 106, 107, 108, 109, 110, 111, 112, 113, 114, 115, 116, 117, 118, 119, 120, 121, 122, 123] (by decide +kernel) (by decide +kernel)
set_option maxRecDepth 20000 in
theorem gX6_doAct_X6_r : GoodIn wsX6_doAct (wsV RX6 153 RX6 yX6_r wsX6_r) := goodIn_app (goodIn_of _ (by decide +kernel)) ggX6_doAct_X6_r
set_option maxRecDepth 20000 in
theorem ggX6_doAct_X6_lay : GoodIn wsX6_doAct wsX6_lay := goodIn_r _ [52, 9, 21, 22, 33, 34, 35, 14, 36, 26, 23, 37, 38, 39, 40, 41, 42, 43, 44, 90, 91, 92, 93, 94, 95, 96, 97, 98, 99, 100, 101, 102, 103, 104, 105, 106, 107, 108, 109, 110, 111, 112, 113, 114, 115, 116, 117, 118, 119, 120, 121, 122, 123] (by decide +kernel) (by decide +kernel)
set_option maxRecDepth 20000 in
theorem gX6_doAct_X6_lay : GoodIn wsX6_doAct (wsV RX6 156 RX6 yX6_lay wsX6_lay) := goodIn_app (goodIn_of _ (by decide +kernel)) ggX6_doAct_X6_lay
set_option maxRecDepth 20000 in
theorem ggX6_doAct_X6_compute : GoodIn wsX6_doAct wsX6_compute := goodIn_r _ [56, 7, 11, 12, 13, 14, 15, 16, 90, 91, 92, 93, 94, 95, 96, 97, 98, 99, 100, 101, 102, 103, 104, 105, 106, 107, 108, 109, 110, 111, 112, 113, 114, 115, 116, 117, 118, 119, 120, 121, 122, 123] (by decide +kernel) (by decide +kernel)
set_option maxRecDepth 20000 in
theorem gX6_doAct_X6_compute : GoodIn wsX6_doAct (wsV RX6 163 RX6 yX6_compute wsX6_compute) := goodIn_app (goodIn_of _ (by decide +kernel)) ggX6_doAct_X6_compute
set_option maxRecDepth 20000 in
theorem ggX6_doAct_X6_swap : GoodIn wsX6_doAct wsX6_swap := goodIn_r _ [60, 7, 17, 18, 19, 14, 20, 9, 21, 22, 23, 24, 25, 26, 27, 28, 29, 30, 31, 32, 33, 34, 35, 36, 37, 38, 39, 40, 41, 42, 43, 44, 45, 46, 47, 48, 16, 49, 50, 51, 52, 11, 12, 13, 15, 90, 91, 92, 93, 94, 95, 96, 97, 98, 99, 100, 101, 102, 103, 104, 105, 106, 107, 108, 109, 110, 111, 112, 113, 114, 115, 116, 117, 118, 119, 120, 121, 122, 123] (by decide +kernel) (by decide +kernel)
set_option maxRecDepth 20000 in
theorem gX6_doAct_X6_swap : GoodIn wsX6_doAct (wsV RX6 167 RX6 yX6_swap wsX6_swap) := goodIn_app (goodIn_of _ (by decide +kernel)) ggX6_doAct_X6_swap
set_option maxRecDepth 20000 in
theorem ggX6_doAct_X6_beginAtom : GoodIn wsX6_doAct wsX6_beginAtom := goodIn_r _ [64, 9, 7, 10, 6, 65, 1, 66, 16, 67, 68, 69, 14, 70, 24, 21, 90, 91, 92, 93, 94, 95, 96, 97, 98, 99, 100, 101, 102, 103, 104, 105, 106, 107, 108, 109, 110, 111, 112, 113, 114, 115, 116, 117, 118, 119, 120, 121, 122, 123] (by decide +kernel) (by decide +kernel)
set_option maxRecDepth 20000 in
theorem gX6_doAct_X6_beginAtom : GoodIn wsX6_doAct (wsV RX6 171 RX6 yX6_beginAtom wsX6_beginAtom) := goodIn_app (goodIn_of _ (by decide +kernel)) ggX6_doAct_X6_beginAtom
set_option maxRecDepth 20000 in
theorem ggX6_doAct_X6_endAtom : GoodIn wsX6_doAct wsX6_endAtom := goodIn_r _ [74, 9, 6, 10, 7, 24, 23, 26, 25, 75, 16, 66, 65, 21, 22, 1, 67, 68, 69, 14, 70, 33, 34, 35, 36, 37, 38, 39, 40, 41, 42, 43, 44, 90, 91, 92, 93, 94, 95, 96, 97, 98, 99, 100, 101, 102, 103, 104, 105, 106, 107, 108, 109, 110, 111, 112, 113, 114, 115, 116, 117, 118, 119, 120, 121, 122, 123] (by decide +kernel) (by decide +kernel)
set_option maxRecDepth 20000 in
theorem gX6_doAct_X6_endAtom : GoodIn wsX6_doAct (wsV RX6 174 RX6 yX6_endAtom wsX6_endAtom) := goodIn_app (goodIn_of _ (by decide +kernel)) ggX6_doAct_X6_endAtom
set_option maxRecDepth 20000 in
theorem ggX6_doAct_X6_rows : GoodIn wsX6_doAct wsX6_rows := goodIn_r _ [79, 7, 80, 81, 82, 26, 23, 45, 46, 47, 14, 48, 16, 83, 84, 85, 86, 87, 88, 89, 11, 12, 13, 15, 90, 91, 92, 93, 94, 95, 96, 97, 98, 99, 100, 101, 102, 103, 104, 105, 106, 107, 108, 109, 110, 111, 112, 113, 114, 115, 116, 117, 118, 119, 120, 121, 122, 123] (by decide +kernel) (by decide +kernel)
set_option maxRecDepth 20000 in
theorem gX6_doAct_X6_rows : GoodIn wsX6_doAct (wsV RX6 178 RX6 yX6_rows wsX6_rows) := goodIn_app (goodIn_of _ (by decide +kernel)) ggX6_doAct_X6_rows
theorem dX6_doAct_0 : decode cX6_doAct 0 = .ok (.bipush 24, 2) := by decide +kernel
theorem dX6_doAct_2 : decode cX6_doAct 2 = .ok (.iload_n 1, 1) := by decide +kernel
theorem dX6_doAct_3 : decode cX6_doAct 3 = .ok (.imul, 1) := by decide +kernel
theorem dX6_doAct_4 : decode cX6_doAct 4 = .ok (.aload_n 0, 1) := by decide +kernel
theorem dX6_doAct_5 : decode cX6_doAct 5 = .ok (.getfield 47, 3) := by decide +kernel
theorem dX6_doAct_8 : decode cX6_doAct 8 = .ok (.iload_n 1, 1) := by decide +kernel
theorem dX6_doAct_9 : decode cX6_doAct 9 = .ok (.iaload, 1) := by decide +kernel
theorem dX6_doAct_10 : decode cX6_doAct 10 = .ok (.iadd, 1) := by decide +kernel
theorem dX6_doAct_11 : decode cX6_doAct 11 = .ok (.istore_n 2, 1) := by decide +kernel
theorem dX6_doAct_12 : decode cX6_doAct 12 = .ok (.aload_n 0, 1) := by decide +kernel
theorem dX6_doAct_13 : decode cX6_doAct 13 = .ok (.getfield 32, 3) := by decide +kernel
theorem dX6_doAct_16 : decode cX6_doAct 16 = .ok (.iload_n 2, 1) := by decide +kernel
theorem dX6_doAct_17 : decode cX6_doAct 17 = .ok (.iaload, 1) := by decide +kernel
theorem dX6_doAct_18 : decode cX6_doAct 18 = .ok (.istore_n 3, 1) := by decide +kernel
theorem dX6_doAct_19 : decode cX6_doAct 19 = .ok (.aload_n 0, 1) := by decide +kernel
theorem dX6_doAct_20 : decode cX6_doAct 20 = .ok (.getfield 35, 3) := by decide +kernel
theorem dX6_doAct_23 : decode cX6_doAct 23 = .ok (.iload_n 2, 1) := by decide +kernel
theorem dX6_doAct_24 : decode cX6_doAct 24 = .ok (.iaload, 1) := by decide +kernel
theorem dX6_doAct_25 : decode cX6_doAct 25 = .ok (.istore 4, 2) := by decide +kernel
theorem dX6_doAct_27 : decode cX6_doAct 27 = .ok (.aload_n 0, 1) := by decide +kernel
theorem dX6_doAct_28 : decode cX6_doAct 28 = .ok (.getfield 38, 3) := by decide +kernel
theorem dX6_doAct_31 : decode cX6_doAct 31 = .ok (.iload_n 2, 1) := by decide +kernel
theorem dX6_doAct_32 : decode cX6_doAct 32 = .ok (.iaload, 1) := by decide +kernel
theorem dX6_doAct_33 : decode cX6_doAct 33 = .ok (.istore 5, 2) := by decide +kernel
theorem dX6_doAct_35 : decode cX6_doAct 35 = .ok (.aload_n 0, 1) := by decide +kernel
theorem dX6_doAct_36 : decode cX6_doAct 36 = .ok (.getfield 41, 3) := by decide +kernel
theorem dX6_doAct_39 : decode cX6_doAct 39 = .ok (.iload_n 2, 1) := by decide +kernel
theorem dX6_doAct_40 : decode cX6_doAct 40 = .ok (.iaload, 1) := by decide +kernel
theorem dX6_doAct_41 : decode cX6_doAct 41 = .ok (.istore 6, 2) := by decide +kernel
theorem dX6_doAct_43 : decode cX6_doAct 43 = .ok (.aload_n 0, 1) := by decide +kernel
theorem dX6_doAct_44 : decode cX6_doAct 44 = .ok (.getfield 47, 3) := by decide +kernel
theorem dX6_doAct_47 : decode cX6_doAct 47 = .ok (.iload_n 1, 1) := by decide +kernel
theorem dX6_doAct_48 : decode cX6_doAct 48 = .ok (.iaload, 1) := by decide +kernel
theorem dX6_doAct_49 : decode cX6_doAct 49 = .ok (.iconst 1, 1) := by decide +kernel
theorem dX6_doAct_50 : decode cX6_doAct 50 = .ok (.iadd, 1) := by decide +kernel
theorem dX6_doAct_51 : decode cX6_doAct 51 = .ok (.istore 7, 2) := by decide +kernel
theorem dX6_doAct_53 : decode cX6_doAct 53 = .ok (.iload_n 3, 1) := by decide +kernel
theorem dX6_doAct_54 : decode cX6_doAct 54 = .ok (.tableswitch 328 0 16 #[82, 94, 115, 132, 132, 132, 132, 328, 328, 157, 171, 174, 192, 200, 206, 254, 308], 82) := by decide +kernel
theorem dX6_doAct_136 : decode cX6_doAct 136 = .ok (.aload_n 0, 1) := by decide +kernel
theorem dX6_doAct_137 : decode cX6_doAct 137 = .ok (.iload_n 1, 1) := by decide +kernel
theorem dX6_doAct_138 : decode cX6_doAct 138 = .ok (.iload 4, 2) := by decide +kernel
theorem dX6_doAct_140 : decode cX6_doAct 140 = .ok (.iload 5, 2) := by decide +kernel
theorem dX6_doAct_142 : decode cX6_doAct 142 = .ok (.invokevirtual 147, 3) := by decide +kernel
theorem dX6_doAct_145 : decode cX6_doAct 145 = .ok (.goto 266, 3) := by decide +kernel
theorem dX6_doAct_148 : decode cX6_doAct 148 = .ok (.aload_n 0, 1) := by decide +kernel
theorem dX6_doAct_149 : decode cX6_doAct 149 = .ok (.iload_n 1, 1) := by decide +kernel
theorem dX6_doAct_150 : decode cX6_doAct 150 = .ok (.iload 5, 2) := by decide +kernel
theorem dX6_doAct_152 : decode cX6_doAct 152 = .ok (.invokevirtual 150, 3) := by decide +kernel
theorem dX6_doAct_155 : decode cX6_doAct 155 = .ok (.istore 8, 2) := by decide +kernel
theorem dX6_doAct_157 : decode cX6_doAct 157 = .ok (.aload_n 0, 1) := by decide +kernel
theorem dX6_doAct_158 : decode cX6_doAct 158 = .ok (.iload_n 1, 1) := by decide +kernel
theorem dX6_doAct_159 : decode cX6_doAct 159 = .ok (.iload 4, 2) := by decide +kernel
theorem dX6_doAct_161 : decode cX6_doAct 161 = .ok (.iload 8, 2) := by decide +kernel
theorem dX6_doAct_163 : decode cX6_doAct 163 = .ok (.invokevirtual 147, 3) := by decide +kernel
theorem dX6_doAct_166 : decode cX6_doAct 166 = .ok (.goto 245, 3) := by decide +kernel
theorem dX6_doAct_169 : decode cX6_doAct 169 = .ok (.aload_n 0, 1) := by decide +kernel
theorem dX6_doAct_170 : decode cX6_doAct 170 = .ok (.iload_n 1, 1) := by decide +kernel
theorem dX6_doAct_171 : decode cX6_doAct 171 = .ok (.iload 4, 2) := by decide +kernel
theorem dX6_doAct_173 : decode cX6_doAct 173 = .ok (.aload_n 0, 1) := by decide +kernel
theorem dX6_doAct_174 : decode cX6_doAct 174 = .ok (.iload_n 1, 1) := by decide +kernel
theorem dX6_doAct_175 : decode cX6_doAct 175 = .ok (.iload 5, 2) := by decide +kernel
theorem dX6_doAct_177 : decode cX6_doAct 177 = .ok (.invokevirtual 153, 3) := by decide +kernel
theorem dX6_doAct_180 : decode cX6_doAct 180 = .ok (.invokevirtual 156, 3) := by decide +kernel
theorem dX6_doAct_183 : decode cX6_doAct 183 = .ok (.goto 228, 3) := by decide +kernel
theorem dX6_doAct_186 : decode cX6_doAct 186 = .ok (.aload_n 0, 1) := by decide +kernel
theorem dX6_doAct_187 : decode cX6_doAct 187 = .ok (.iload_n 1, 1) := by decide +kernel
theorem dX6_doAct_188 : decode cX6_doAct 188 = .ok (.iload_n 3, 1) := by decide +kernel
theorem dX6_doAct_189 : decode cX6_doAct 189 = .ok (.iload 4, 2) := by decide +kernel
theorem dX6_doAct_191 : decode cX6_doAct 191 = .ok (.aload_n 0, 1) := by decide +kernel
theorem dX6_doAct_192 : decode cX6_doAct 192 = .ok (.iload_n 1, 1) := by decide +kernel
theorem dX6_doAct_193 : decode cX6_doAct 193 = .ok (.iload 5, 2) := by decide +kernel
theorem dX6_doAct_195 : decode cX6_doAct 195 = .ok (.invokevirtual 153, 3) := by decide +kernel
theorem dX6_doAct_198 : decode cX6_doAct 198 = .ok (.aload_n 0, 1) := by decide +kernel
theorem dX6_doAct_199 : decode cX6_doAct 199 = .ok (.iload_n 1, 1) := by decide +kernel
theorem dX6_doAct_200 : decode cX6_doAct 200 = .ok (.iload 6, 2) := by decide +kernel
theorem dX6_doAct_202 : decode cX6_doAct 202 = .ok (.invokevirtual 153, 3) := by decide +kernel
theorem dX6_doAct_205 : decode cX6_doAct 205 = .ok (.invokevirtual 163, 3) := by decide +kernel
theorem dX6_doAct_208 : decode cX6_doAct 208 = .ok (.goto 203, 3) := by decide +kernel
theorem dX6_doAct_211 : decode cX6_doAct 211 = .ok (.aload_n 0, 1) := by decide +kernel
theorem dX6_doAct_212 : decode cX6_doAct 212 = .ok (.iload_n 1, 1) := by decide +kernel
theorem dX6_doAct_213 : decode cX6_doAct 213 = .ok (.iload 4, 2) := by decide +kernel
theorem dX6_doAct_215 : decode cX6_doAct 215 = .ok (.iload 5, 2) := by decide +kernel
theorem dX6_doAct_217 : decode cX6_doAct 217 = .ok (.iload 6, 2) := by decide +kernel
theorem dX6_doAct_219 : decode cX6_doAct 219 = .ok (.invokevirtual 167, 3) := by decide +kernel
theorem dX6_doAct_222 : decode cX6_doAct 222 = .ok (.goto 189, 3) := by decide +kernel
theorem dX6_doAct_225 : decode cX6_doAct 225 = .ok (.iload 4, 2) := by decide +kernel
theorem dX6_doAct_227 : decode cX6_doAct 227 = .ok (.ireturn, 1) := by decide +kernel
theorem dX6_doAct_228 : decode cX6_doAct 228 = .ok (.aload_n 0, 1) := by decide +kernel
theorem dX6_doAct_229 : decode cX6_doAct 229 = .ok (.iload_n 1, 1) := by decide +kernel
theorem dX6_doAct_230 : decode cX6_doAct 230 = .ok (.iload 4, 2) := by decide +kernel
theorem dX6_doAct_232 : decode cX6_doAct 232 = .ok (.invokevirtual 153, 3) := by decide +kernel
theorem dX6_doAct_235 : decode cX6_doAct 235 = .ok (.ifCond .ne 8, 3) := by decide +kernel
theorem dX6_doAct_238 : decode cX6_doAct 238 = .ok (.iload 5, 2) := by decide +kernel
theorem dX6_doAct_240 : decode cX6_doAct 240 = .ok (.goto 5, 3) := by decide +kernel
theorem dX6_doAct_243 : decode cX6_doAct 243 = .ok (.iload 7, 2) := by decide +kernel
theorem dX6_doAct_245 : decode cX6_doAct 245 = .ok (.ireturn, 1) := by decide +kernel
theorem dX6_doAct_246 : decode cX6_doAct 246 = .ok (.aload_n 0, 1) := by decide +kernel
theorem dX6_doAct_247 : decode cX6_doAct 247 = .ok (.iload_n 1, 1) := by decide +kernel
theorem dX6_doAct_248 : decode cX6_doAct 248 = .ok (.invokevirtual 171, 3) := by decide +kernel
theorem dX6_doAct_251 : decode cX6_doAct 251 = .ok (.goto 160, 3) := by decide +kernel
theorem dX6_doAct_254 : decode cX6_doAct 254 = .ok (.aload_n 0, 1) := by decide +kernel
theorem dX6_doAct_255 : decode cX6_doAct 255 = .ok (.iload_n 1, 1) := by decide +kernel
theorem dX6_doAct_256 : decode cX6_doAct 256 = .ok (.invokevirtual 174, 3) := by decide +kernel
theorem dX6_doAct_259 : decode cX6_doAct 259 = .ok (.ireturn, 1) := by decide +kernel
theorem dX6_doAct_260 : decode cX6_doAct 260 = .ok (.aload_n 0, 1) := by decide +kernel
theorem dX6_doAct_261 : decode cX6_doAct 261 = .ok (.getfield 62, 3) := by decide +kernel
theorem dX6_doAct_264 : decode cX6_doAct 264 = .ok (.iload_n 1, 1) := by decide +kernel
theorem dX6_doAct_265 : decode cX6_doAct 265 = .ok (.iaload, 1) := by decide +kernel
theorem dX6_doAct_266 : decode cX6_doAct 266 = .ok (.iconst 4, 1) := by decide +kernel
theorem dX6_doAct_267 : decode cX6_doAct 267 = .ok (.if_icmp .ne 11, 3) := by decide +kernel
theorem dX6_doAct_270 : decode cX6_doAct 270 = .ok (.aload_n 0, 1) := by decide +kernel
theorem dX6_doAct_271 : decode cX6_doAct 271 = .ok (.iconst 5, 1) := by decide +kernel
theorem dX6_doAct_272 : decode cX6_doAct 272 = .ok (.putfield 133, 3) := by decide +kernel
theorem dX6_doAct_275 : decode cX6_doAct 275 = .ok (.goto 136, 3) := by decide +kernel
theorem dX6_doAct_278 : decode cX6_doAct 278 = .ok (.aload_n 0, 1) := by decide +kernel
theorem dX6_doAct_279 : decode cX6_doAct 279 = .ok (.getfield 65, 3) := by decide +kernel
theorem dX6_doAct_282 : decode cX6_doAct 282 = .ok (.iconst 4, 1) := by decide +kernel
theorem dX6_doAct_283 : decode cX6_doAct 283 = .ok (.iload_n 1, 1) := by decide +kernel
theorem dX6_doAct_284 : decode cX6_doAct 284 = .ok (.imul, 1) := by decide +kernel
theorem dX6_doAct_285 : decode cX6_doAct 285 = .ok (.aload_n 0, 1) := by decide +kernel
theorem dX6_doAct_286 : decode cX6_doAct 286 = .ok (.getfield 62, 3) := by decide +kernel
theorem dX6_doAct_289 : decode cX6_doAct 289 = .ok (.iload_n 1, 1) := by decide +kernel
theorem dX6_doAct_290 : decode cX6_doAct 290 = .ok (.iaload, 1) := by decide +kernel
theorem dX6_doAct_291 : decode cX6_doAct 291 = .ok (.iadd, 1) := by decide +kernel
theorem dX6_doAct_292 : decode cX6_doAct 292 = .ok (.iload 4, 2) := by decide +kernel
theorem dX6_doAct_294 : decode cX6_doAct 294 = .ok (.iastore, 1) := by decide +kernel
theorem dX6_doAct_295 : decode cX6_doAct 295 = .ok (.aload_n 0, 1) := by decide +kernel
theorem dX6_doAct_296 : decode cX6_doAct 296 = .ok (.getfield 62, 3) := by decide +kernel
theorem dX6_doAct_299 : decode cX6_doAct 299 = .ok (.iload_n 1, 1) := by decide +kernel
theorem dX6_doAct_300 : decode cX6_doAct 300 = .ok (.dup2, 1) := by decide +kernel
theorem dX6_doAct_301 : decode cX6_doAct 301 = .ok (.iaload, 1) := by decide +kernel
theorem dX6_doAct_302 : decode cX6_doAct 302 = .ok (.iconst 1, 1) := by decide +kernel
theorem dX6_doAct_303 : decode cX6_doAct 303 = .ok (.iadd, 1) := by decide +kernel
theorem dX6_doAct_304 : decode cX6_doAct 304 = .ok (.iastore, 1) := by decide +kernel
theorem dX6_doAct_305 : decode cX6_doAct 305 = .ok (.goto 106, 3) := by decide +kernel
theorem dX6_doAct_308 : decode cX6_doAct 308 = .ok (.aload_n 0, 1) := by decide +kernel
theorem dX6_doAct_309 : decode cX6_doAct 309 = .ok (.getfield 62, 3) := by decide +kernel
theorem dX6_doAct_312 : decode cX6_doAct 312 = .ok (.iload_n 1, 1) := by decide +kernel
theorem dX6_doAct_313 : decode cX6_doAct 313 = .ok (.iaload, 1) := by decide +kernel
theorem dX6_doAct_314 : decode cX6_doAct 314 = .ok (.ifCond .eq 27, 3) := by decide +kernel
theorem dX6_doAct_317 : decode cX6_doAct 317 = .ok (.aload_n 0, 1) := by decide +kernel
theorem dX6_doAct_318 : decode cX6_doAct 318 = .ok (.getfield 68, 3) := by decide +kernel
theorem dX6_doAct_321 : decode cX6_doAct 321 = .ok (.iload_n 1, 1) := by decide +kernel
theorem dX6_doAct_322 : decode cX6_doAct 322 = .ok (.baload, 1) := by decide +kernel
theorem dX6_doAct_323 : decode cX6_doAct 323 = .ok (.ifCond .eq 26, 3) := by decide +kernel
theorem dX6_doAct_326 : decode cX6_doAct 326 = .ok (.aload_n 0, 1) := by decide +kernel
theorem dX6_doAct_327 : decode cX6_doAct 327 = .ok (.getfield 62, 3) := by decide +kernel
theorem dX6_doAct_330 : decode cX6_doAct 330 = .ok (.iload_n 1, 1) := by decide +kernel
theorem dX6_doAct_331 : decode cX6_doAct 331 = .ok (.iaload, 1) := by decide +kernel
theorem dX6_doAct_332 : decode cX6_doAct 332 = .ok (.aload_n 0, 1) := by decide +kernel
theorem dX6_doAct_333 : decode cX6_doAct 333 = .ok (.getfield 71, 3) := by decide +kernel
theorem dX6_doAct_336 : decode cX6_doAct 336 = .ok (.iload_n 1, 1) := by decide +kernel
theorem dX6_doAct_337 : decode cX6_doAct 337 = .ok (.iaload, 1) := by decide +kernel
theorem dX6_doAct_338 : decode cX6_doAct 338 = .ok (.if_icmp .ne 11, 3) := by decide +kernel
theorem dX6_doAct_341 : decode cX6_doAct 341 = .ok (.aload_n 0, 1) := by decide +kernel
theorem dX6_doAct_342 : decode cX6_doAct 342 = .ok (.iconst 5, 1) := by decide +kernel
theorem dX6_doAct_343 : decode cX6_doAct 343 = .ok (.putfield 133, 3) := by decide +kernel
theorem dX6_doAct_346 : decode cX6_doAct 346 = .ok (.goto 65, 3) := by decide +kernel
theorem dX6_doAct_349 : decode cX6_doAct 349 = .ok (.aload_n 0, 1) := by decide +kernel
theorem dX6_doAct_350 : decode cX6_doAct 350 = .ok (.getfield 62, 3) := by decide +kernel
theorem dX6_doAct_353 : decode cX6_doAct 353 = .ok (.iload_n 1, 1) := by decide +kernel
theorem dX6_doAct_354 : decode cX6_doAct 354 = .ok (.dup2, 1) := by decide +kernel
theorem dX6_doAct_355 : decode cX6_doAct 355 = .ok (.iaload, 1) := by decide +kernel
theorem dX6_doAct_356 : decode cX6_doAct 356 = .ok (.iconst 1, 1) := by decide +kernel
theorem dX6_doAct_357 : decode cX6_doAct 357 = .ok (.isub, 1) := by decide +kernel
theorem dX6_doAct_358 : decode cX6_doAct 358 = .ok (.iastore, 1) := by decide +kernel
theorem dX6_doAct_359 : decode cX6_doAct 359 = .ok (.goto 52, 3) := by decide +kernel
theorem dX6_doAct_362 : decode cX6_doAct 362 = .ok (.aload_n 0, 1) := by decide +kernel
theorem dX6_doAct_363 : decode cX6_doAct 363 = .ok (.bipush 10, 2) := by decide +kernel
theorem dX6_doAct_365 : decode cX6_doAct 365 = .ok (.aload_n 0, 1) := by decide +kernel
theorem dX6_doAct_366 : decode cX6_doAct 366 = .ok (.iload_n 1, 1) := by decide +kernel
theorem dX6_doAct_367 : decode cX6_doAct 367 = .ok (.iload 4, 2) := by decide +kernel
theorem dX6_doAct_369 : decode cX6_doAct 369 = .ok (.invokevirtual 153, 3) := by decide +kernel
theorem dX6_doAct_372 : decode cX6_doAct 372 = .ok (.bipush 7, 2) := by decide +kernel
theorem dX6_doAct_374 : decode cX6_doAct 374 = .ok (.iand, 1) := by decide +kernel
theorem dX6_doAct_375 : decode cX6_doAct 375 = .ok (.iadd, 1) := by decide +kernel
theorem dX6_doAct_376 : decode cX6_doAct 376 = .ok (.putfield 133, 3) := by decide +kernel
theorem dX6_doAct_379 : decode cX6_doAct 379 = .ok (.goto 32, 3) := by decide +kernel
theorem dX6_doAct_382 : decode cX6_doAct 382 = .ok (.aload_n 0, 1) := by decide +kernel
theorem dX6_doAct_383 : decode cX6_doAct 383 = .ok (.getfield 68, 3) := by decide +kernel
theorem dX6_doAct_386 : decode cX6_doAct 386 = .ok (.iload_n 1, 1) := by decide +kernel
theorem dX6_doAct_387 : decode cX6_doAct 387 = .ok (.baload, 1) := by decide +kernel
theorem dX6_doAct_388 : decode cX6_doAct 388 = .ok (.ifCond .eq 11, 3) := by decide +kernel
theorem dX6_doAct_391 : decode cX6_doAct 391 = .ok (.aload_n 0, 1) := by decide +kernel
theorem dX6_doAct_392 : decode cX6_doAct 392 = .ok (.iconst 5, 1) := by decide +kernel
theorem dX6_doAct_393 : decode cX6_doAct 393 = .ok (.putfield 133, 3) := by decide +kernel
theorem dX6_doAct_396 : decode cX6_doAct 396 = .ok (.goto 15, 3) := by decide +kernel
theorem dX6_doAct_399 : decode cX6_doAct 399 = .ok (.aload_n 0, 1) := by decide +kernel
theorem dX6_doAct_400 : decode cX6_doAct 400 = .ok (.iload_n 1, 1) := by decide +kernel
theorem dX6_doAct_401 : decode cX6_doAct 401 = .ok (.iload_n 3, 1) := by decide +kernel
theorem dX6_doAct_402 : decode cX6_doAct 402 = .ok (.iload 4, 2) := by decide +kernel
theorem dX6_doAct_404 : decode cX6_doAct 404 = .ok (.iload 5, 2) := by decide +kernel
theorem dX6_doAct_406 : decode cX6_doAct 406 = .ok (.iload 6, 2) := by decide +kernel
theorem dX6_doAct_408 : decode cX6_doAct 408 = .ok (.invokevirtual 178, 3) := by decide +kernel
theorem dX6_doAct_411 : decode cX6_doAct 411 = .ok (.iload 7, 2) := by decide +kernel
theorem dX6_doAct_413 : decode cX6_doAct 413 = .ok (.ireturn, 1) := by decide +kernel
theorem dX6_fail_0 : decode cX6_fail 0 = .ok (.aload_n 0, 1) := by decide +kernel
theorem dX6_fail_1 : decode cX6_fail 1 = .ok (.dup, 1) := by decide +kernel
theorem dX6_fail_2 : decode cX6_fail 2 = .ok (.getfield 181, 3) := by decide +kernel
theorem dX6_fail_5 : decode cX6_fail 5 = .ok (.iconst 1, 1) := by decide +kernel
theorem dX6_fail_6 : decode cX6_fail 6 = .ok (.iadd, 1) := by decide +kernel
theorem dX6_fail_7 : decode cX6_fail 7 = .ok (.putfield 181, 3) := by decide +kernel
theorem dX6_fail_10 : decode cX6_fail 10 = .ok (.aload_n 0, 1) := by decide +kernel
theorem dX6_fail_11 : decode cX6_fail 11 = .ok (.getfield 62, 3) := by decide +kernel
theorem dX6_fail_14 : decode cX6_fail 14 = .ok (.iload_n 1, 1) := by decide +kernel
theorem dX6_fail_15 : decode cX6_fail 15 = .ok (.iaload, 1) := by decide +kernel
theorem dX6_fail_16 : decode cX6_fail 16 = .ok (.ifCond .ne 28, 3) := by decide +kernel
theorem dX6_fail_19 : decode cX6_fail 19 = .ok (.aload_n 0, 1) := by decide +kernel
theorem dX6_fail_20 : decode cX6_fail 20 = .ok (.getfield 53, 3) := by decide +kernel
theorem dX6_fail_23 : decode cX6_fail 23 = .ok (.iload_n 1, 1) := by decide +kernel
theorem dX6_fail_24 : decode cX6_fail 24 = .ok (.iconst 1, 1) := by decide +kernel
theorem dX6_fail_25 : decode cX6_fail 25 = .ok (.bastore, 1) := by decide +kernel
theorem dX6_fail_26 : decode cX6_fail 26 = .ok (.aload_n 0, 1) := by decide +kernel
theorem dX6_fail_27 : decode cX6_fail 27 = .ok (.getfield 50, 3) := by decide +kernel
theorem dX6_fail_30 : decode cX6_fail 30 = .ok (.iload_n 1, 1) := by decide +kernel
theorem dX6_fail_31 : decode cX6_fail 31 = .ok (.aload_n 0, 1) := by decide +kernel
theorem dX6_fail_32 : decode cX6_fail 32 = .ok (.getfield 133, 3) := by decide +kernel
theorem dX6_fail_35 : decode cX6_fail 35 = .ok (.iastore, 1) := by decide +kernel
theorem dX6_fail_36 : decode cX6_fail 36 = .ok (.aload_n 0, 1) := by decide +kernel
theorem dX6_fail_37 : decode cX6_fail 37 = .ok (.getfield 68, 3) := by decide +kernel
theorem dX6_fail_40 : decode cX6_fail 40 = .ok (.iload_n 1, 1) := by decide +kernel
theorem dX6_fail_41 : decode cX6_fail 41 = .ok (.iconst 0, 1) := by decide +kernel
theorem dX6_fail_42 : decode cX6_fail 42 = .ok (.bastore, 1) := by decide +kernel
theorem dX6_fail_43 : decode cX6_fail 43 = .ok (.return_, 1) := by decide +kernel
theorem dX6_fail_44 : decode cX6_fail 44 = .ok (.aload_n 0, 1) := by decide +kernel
theorem dX6_fail_45 : decode cX6_fail 45 = .ok (.getfield 62, 3) := by decide +kernel
theorem dX6_fail_48 : decode cX6_fail 48 = .ok (.iload_n 1, 1) := by decide +kernel
theorem dX6_fail_49 : decode cX6_fail 49 = .ok (.dup2, 1) := by decide +kernel
theorem dX6_fail_50 : decode cX6_fail 50 = .ok (.iaload, 1) := by decide +kernel
theorem dX6_fail_51 : decode cX6_fail 51 = .ok (.iconst 1, 1) := by decide +kernel
theorem dX6_fail_52 : decode cX6_fail 52 = .ok (.isub, 1) := by decide +kernel
theorem dX6_fail_53 : decode cX6_fail 53 = .ok (.iastore, 1) := by decide +kernel
theorem dX6_fail_54 : decode cX6_fail 54 = .ok (.aload_n 0, 1) := by decide +kernel
theorem dX6_fail_55 : decode cX6_fail 55 = .ok (.getfield 44, 3) := by decide +kernel
theorem dX6_fail_58 : decode cX6_fail 58 = .ok (.iconst 4, 1) := by decide +kernel
theorem dX6_fail_59 : decode cX6_fail 59 = .ok (.iload_n 1, 1) := by decide +kernel
theorem dX6_fail_60 : decode cX6_fail 60 = .ok (.imul, 1) := by decide +kernel
theorem dX6_fail_61 : decode cX6_fail 61 = .ok (.aload_n 0, 1) := by decide +kernel
theorem dX6_fail_62 : decode cX6_fail 62 = .ok (.getfield 133, 3) := by decide +kernel
theorem dX6_fail_65 : decode cX6_fail 65 = .ok (.iastore, 1) := by decide +kernel
theorem dX6_fail_66 : decode cX6_fail 66 = .ok (.aload_n 0, 1) := by decide +kernel
theorem dX6_fail_67 : decode cX6_fail 67 = .ok (.getfield 47, 3) := by decide +kernel
theorem dX6_fail_70 : decode cX6_fail 70 = .ok (.iload_n 1, 1) := by decide +kernel
theorem dX6_fail_71 : decode cX6_fail 71 = .ok (.aload_n 0, 1) := by decide +kernel
theorem dX6_fail_72 : decode cX6_fail 72 = .ok (.getfield 65, 3) := by decide +kernel
theorem dX6_fail_75 : decode cX6_fail 75 = .ok (.iconst 4, 1) := by decide +kernel
theorem dX6_fail_76 : decode cX6_fail 76 = .ok (.iload_n 1, 1) := by decide +kernel
theorem dX6_fail_77 : decode cX6_fail 77 = .ok (.imul, 1) := by decide +kernel
theorem dX6_fail_78 : decode cX6_fail 78 = .ok (.aload_n 0, 1) := by decide +kernel
theorem dX6_fail_79 : decode cX6_fail 79 = .ok (.getfield 62, 3) := by decide +kernel
theorem dX6_fail_82 : decode cX6_fail 82 = .ok (.iload_n 1, 1) := by decide +kernel
theorem dX6_fail_83 : decode cX6_fail 83 = .ok (.iaload, 1) := by decide +kernel
theorem dX6_fail_84 : decode cX6_fail 84 = .ok (.iadd, 1) := by decide +kernel
theorem dX6_fail_85 : decode cX6_fail 85 = .ok (.iaload, 1) := by decide +kernel
theorem dX6_fail_86 : decode cX6_fail 86 = .ok (.iastore, 1) := by decide +kernel
theorem dX6_fail_87 : decode cX6_fail 87 = .ok (.aload_n 0, 1) := by decide +kernel
theorem dX6_fail_88 : decode cX6_fail 88 = .ok (.getfield 68, 3) := by decide +kernel
theorem dX6_fail_91 : decode cX6_fail 91 = .ok (.iload_n 1, 1) := by decide +kernel
theorem dX6_fail_92 : decode cX6_fail 92 = .ok (.aload_n 0, 1) := by decide +kernel
theorem dX6_fail_93 : decode cX6_fail 93 = .ok (.getfield 68, 3) := by decide +kernel
theorem dX6_fail_96 : decode cX6_fail 96 = .ok (.iload_n 1, 1) := by decide +kernel
theorem dX6_fail_97 : decode cX6_fail 97 = .ok (.baload, 1) := by decide +kernel
theorem dX6_fail_98 : decode cX6_fail 98 = .ok (.ifCond .eq 22, 3) := by decide +kernel
theorem dX6_fail_101 : decode cX6_fail 101 = .ok (.aload_n 0, 1) := by decide +kernel
theorem dX6_fail_102 : decode cX6_fail 102 = .ok (.getfield 62, 3) := by decide +kernel
theorem dX6_fail_105 : decode cX6_fail 105 = .ok (.iload_n 1, 1) := by decide +kernel
theorem dX6_fail_106 : decode cX6_fail 106 = .ok (.iaload, 1) := by decide +kernel
theorem dX6_fail_107 : decode cX6_fail 107 = .ok (.aload_n 0, 1) := by decide +kernel
theorem dX6_fail_108 : decode cX6_fail 108 = .ok (.getfield 71, 3) := by decide +kernel
theorem dX6_fail_111 : decode cX6_fail 111 = .ok (.iload_n 1, 1) := by decide +kernel
theorem dX6_fail_112 : decode cX6_fail 112 = .ok (.iaload, 1) := by decide +kernel
theorem dX6_fail_113 : decode cX6_fail 113 = .ok (.if_icmp .lt 7, 3) := by decide +kernel
theorem dX6_fail_116 : decode cX6_fail 116 = .ok (.iconst 1, 1) := by decide +kernel
theorem dX6_fail_117 : decode cX6_fail 117 = .ok (.goto 4, 3) := by decide +kernel
theorem dX6_fail_120 : decode cX6_fail 120 = .ok (.iconst 0, 1) := by decide +kernel
theorem dX6_fail_121 : decode cX6_fail 121 = .ok (.bastore, 1) := by decide +kernel
theorem dX6_fail_122 : decode cX6_fail 122 = .ok (.return_, 1) := by decide +kernel
set_option maxRecDepth 20000 in
theorem ggX6_doTurn_X6_doAct : GoodIn wsX6_doTurn wsX6_doAct := goodIn_r _ [9, 3, 10, 11, 12, 13, 14, 1, 15, 16, 17, 18, 19, 20, 8, 21, 22, 23, 24, 25, 26, 27, 28, 29, 30, 31, 32, 33, 34, 35, 36, 37, 38, 39, 40, 41, 42, 43, 44, 45, 46, 47, 48, 49, 50, 51, 52, 53, 54, 55, 56, 57, 58, 59, 60, 61, 62, 63, 64, 65, 66, 67, 68, 69, 70, 71, 72, 73, 74, 75, 76, 77, 78, 79, 80, 81, 82, 83, 84, 85, 86, 87, 88, 89, 90, 91, 92, 93, 94, 95, 103, 104, 105, 106, 107, 108, 109, 110, 111, 112, 113, 114, 115, 116, 117, 118, 119, 120, 121, 122, 123, 124, 125, 126, 127, 128, 129, 130, 131, 132, 133, 134, 135, 136] (by decide +kernel) (by decide +kernel)
set_option maxRecDepth 20000 in
theorem gX6_doTurn_X6_doAct : GoodIn wsX6_doTurn (wsV RX6 184 RX6 yX6_doAct wsX6_doAct) := goodIn_app (goodIn_of _ (by decide +kernel)) ggX6_doTurn_X6_doAct
set_option maxRecDepth 20000 in
theorem ggX6_doTurn_X6_fail : GoodIn wsX6_doTurn wsX6_fail := goodIn_r _ [99, 100, 14, 101, 102, 1, 16, 22, 3, 15, 17, 103, 104, 105, 106, 107, 108, 109, 110, 111, 112, 113, 114, 115, 116, 117, 118, 119, 120, 121, 122, 123, 124, 125, 126, 127, 128, 129, 130, 131, 132, 133, 134, 135, 136] (by decide +kernel) (by decide +kernel)
set_option maxRecDepth 20000 in
theorem gX6_doTurn_X6_fail : GoodIn wsX6_doTurn (wsV RX6 187 RX6 yX6_fail wsX6_fail) := goodIn_app (goodIn_of _ (by decide +kernel)) ggX6_doTurn_X6_fail
theorem dX6_doTurn_0 : decode cX6_doTurn 0 = .ok (.aload_n 0, 1) := by decide +kernel
theorem dX6_doTurn_1 : decode cX6_doTurn 1 = .ok (.iconst 0, 1) := by decide +kernel
theorem dX6_doTurn_2 : decode cX6_doTurn 2 = .ok (.putfield 133, 3) := by decide +kernel
theorem dX6_doTurn_5 : decode cX6_doTurn 5 = .ok (.aload_n 0, 1) := by decide +kernel
theorem dX6_doTurn_6 : decode cX6_doTurn 6 = .ok (.getfield 56, 3) := by decide +kernel
theorem dX6_doTurn_9 : decode cX6_doTurn 9 = .ok (.iload_n 1, 1) := by decide +kernel
theorem dX6_doTurn_10 : decode cX6_doTurn 10 = .ok (.dup2, 1) := by decide +kernel
theorem dX6_doTurn_11 : decode cX6_doTurn 11 = .ok (.iaload, 1) := by decide +kernel
theorem dX6_doTurn_12 : decode cX6_doTurn 12 = .ok (.iconst 1, 1) := by decide +kernel
theorem dX6_doTurn_13 : decode cX6_doTurn 13 = .ok (.iadd, 1) := by decide +kernel
theorem dX6_doTurn_14 : decode cX6_doTurn 14 = .ok (.iastore, 1) := by decide +kernel
theorem dX6_doTurn_15 : decode cX6_doTurn 15 = .ok (.iconst 0, 1) := by decide +kernel
theorem dX6_doTurn_16 : decode cX6_doTurn 16 = .ok (.istore_n 2, 1) := by decide +kernel
theorem dX6_doTurn_17 : decode cX6_doTurn 17 = .ok (.aload_n 0, 1) := by decide +kernel
theorem dX6_doTurn_18 : decode cX6_doTurn 18 = .ok (.getfield 47, 3) := by decide +kernel
theorem dX6_doTurn_21 : decode cX6_doTurn 21 = .ok (.iload_n 1, 1) := by decide +kernel
theorem dX6_doTurn_22 : decode cX6_doTurn 22 = .ok (.iaload, 1) := by decide +kernel
theorem dX6_doTurn_23 : decode cX6_doTurn 23 = .ok (.aload_n 0, 1) := by decide +kernel
theorem dX6_doTurn_24 : decode cX6_doTurn 24 = .ok (.getfield 29, 3) := by decide +kernel
theorem dX6_doTurn_27 : decode cX6_doTurn 27 = .ok (.iload_n 1, 1) := by decide +kernel
theorem dX6_doTurn_28 : decode cX6_doTurn 28 = .ok (.iaload, 1) := by decide +kernel
theorem dX6_doTurn_29 : decode cX6_doTurn 29 = .ok (.if_icmp .lt 11, 3) := by decide +kernel
theorem dX6_doTurn_32 : decode cX6_doTurn 32 = .ok (.aload_n 0, 1) := by decide +kernel
theorem dX6_doTurn_33 : decode cX6_doTurn 33 = .ok (.iconst 5, 1) := by decide +kernel
theorem dX6_doTurn_34 : decode cX6_doTurn 34 = .ok (.putfield 133, 3) := by decide +kernel
theorem dX6_doTurn_37 : decode cX6_doTurn 37 = .ok (.goto 9, 3) := by decide +kernel
theorem dX6_doTurn_40 : decode cX6_doTurn 40 = .ok (.aload_n 0, 1) := by decide +kernel
theorem dX6_doTurn_41 : decode cX6_doTurn 41 = .ok (.iload_n 1, 1) := by decide +kernel
theorem dX6_doTurn_42 : decode cX6_doTurn 42 = .ok (.invokevirtual 184, 3) := by decide +kernel
theorem dX6_doTurn_45 : decode cX6_doTurn 45 = .ok (.istore_n 2, 1) := by decide +kernel
theorem dX6_doTurn_46 : decode cX6_doTurn 46 = .ok (.aload_n 0, 1) := by decide +kernel
theorem dX6_doTurn_47 : decode cX6_doTurn 47 = .ok (.getfield 133, 3) := by decide +kernel
theorem dX6_doTurn_50 : decode cX6_doTurn 50 = .ok (.ifCond .eq 11, 3) := by decide +kernel
theorem dX6_doTurn_53 : decode cX6_doTurn 53 = .ok (.aload_n 0, 1) := by decide +kernel
theorem dX6_doTurn_54 : decode cX6_doTurn 54 = .ok (.iload_n 1, 1) := by decide +kernel
theorem dX6_doTurn_55 : decode cX6_doTurn 55 = .ok (.invokevirtual 187, 3) := by decide +kernel
theorem dX6_doTurn_58 : decode cX6_doTurn 58 = .ok (.goto 10, 3) := by decide +kernel
theorem dX6_doTurn_61 : decode cX6_doTurn 61 = .ok (.aload_n 0, 1) := by decide +kernel
theorem dX6_doTurn_62 : decode cX6_doTurn 62 = .ok (.getfield 47, 3) := by decide +kernel
theorem dX6_doTurn_65 : decode cX6_doTurn 65 = .ok (.iload_n 1, 1) := by decide +kernel
theorem dX6_doTurn_66 : decode cX6_doTurn 66 = .ok (.iload_n 2, 1) := by decide +kernel
theorem dX6_doTurn_67 : decode cX6_doTurn 67 = .ok (.iastore, 1) := by decide +kernel
theorem dX6_doTurn_68 : decode cX6_doTurn 68 = .ok (.return_, 1) := by decide +kernel
set_option maxRecDepth 20000 in
theorem ggX6_turn_X6_within : GoodIn wsX6_turn wsX6_within := goodIn_r _ [5] (by decide +kernel) (by decide +kernel)
set_option maxRecDepth 20000 in
theorem gX6_turn_X6_within : GoodIn wsX6_turn (va_wsS RX6 111 yX6_within wsX6_within) := goodIn_app (goodIn_of _ (by decide +kernel)) ggX6_turn_X6_within
set_option maxRecDepth 20000 in
theorem ggX6_turn_X6_stateOf : GoodIn wsX6_turn wsX6_stateOf := goodIn_r _ [9, 10, 11, 12, 13, 14, 111, 112, 113, 114, 115, 116, 117, 118, 119, 120, 121, 122, 123, 124, 125, 126, 127, 128, 129, 130, 131, 132, 133, 134, 135, 136, 137, 138, 139, 140, 141, 142, 143, 144] (by decide +kernel) (by decide +kernel)
set_option maxRecDepth 20000 in
theorem gX6_turn_X6_stateOf : GoodIn wsX6_turn (wsV RX6 190 RX6 yX6_stateOf wsX6_stateOf) := goodIn_app (goodIn_of _ (by decide +kernel)) ggX6_turn_X6_stateOf
set_option maxRecDepth 20000 in
theorem ggX6_turn_X6_doTurn : GoodIn wsX6_turn wsX6_doTurn := goodIn_r _ [18, 19, 20, 11, 12, 21, 22, 23, 4, 24, 25, 26, 27, 28, 13, 29, 14, 30, 31, 32, 33, 34, 35, 36, 37, 38, 39, 40, 41, 42, 43, 44, 45, 46, 47, 48, 49, 50, 51, 52, 53, 54, 55, 56, 57, 58, 59, 60, 61, 62, 63, 64, 65, 66, 67, 68, 69, 70, 71, 72, 73, 74, 75, 76, 77, 78, 79, 80, 81, 82, 83, 84, 85, 86, 87, 88, 89, 90, 91, 92, 93, 94, 95, 96, 97, 98, 99, 100, 101, 102, 103, 104, 105, 2, 3, 5, 106, 107, 108, 109, 1, 10, 110, 111, 112, 113, 114, 115, 116, 117, 118, 119, 120, 121, 122, 123, 124, 125, 126, 127, 128, 129, 130, 131, 132, 133, 134, 135, 136, 137, 138, 139, 140, 141, 142, 143, 144] (by decide +kernel) (by decide +kernel)
set_option maxRecDepth 20000 in
theorem gX6_turn_X6_doTurn : GoodIn wsX6_turn (wsV RX6 193 RX6 yX6_doTurn wsX6_doTurn) := goodIn_app (goodIn_of _ (by decide +kernel)) ggX6_turn_X6_doTurn
theorem dX6_turn_0 : decode cX6_turn 0 = .ok (.iload_n 1, 1) := by decide +kernel
theorem dX6_turn_1 : decode cX6_turn 1 = .ok (.iconst 0, 1) := by decide +kernel
theorem dX6_turn_2 : decode cX6_turn 2 = .ok (.iconst 2, 1) := by decide +kernel
theorem dX6_turn_3 : decode cX6_turn 3 = .ok (.invokestatic 111, 3) := by decide +kernel
theorem dX6_turn_6 : decode cX6_turn 6 = .ok (.ifCond .ne 6, 3) := by decide +kernel
theorem dX6_turn_9 : decode cX6_turn 9 = .ok (.bipush (-2), 2) := by decide +kernel
theorem dX6_turn_11 : decode cX6_turn 11 = .ok (.ireturn, 1) := by decide +kernel
theorem dX6_turn_12 : decode cX6_turn 12 = .ok (.aload_n 0, 1) := by decide +kernel
theorem dX6_turn_13 : decode cX6_turn 13 = .ok (.iload_n 1, 1) := by decide +kernel
theorem dX6_turn_14 : decode cX6_turn 14 = .ok (.invokevirtual 190, 3) := by decide +kernel
theorem dX6_turn_17 : decode cX6_turn 17 = .ok (.ifCond .ne 13, 3) := by decide +kernel
theorem dX6_turn_20 : decode cX6_turn 20 = .ok (.aload_n 0, 1) := by decide +kernel
theorem dX6_turn_21 : decode cX6_turn 21 = .ok (.getfield 181, 3) := by decide +kernel
theorem dX6_turn_24 : decode cX6_turn 24 = .ok (.sipush 5000, 3) := by decide +kernel
theorem dX6_turn_27 : decode cX6_turn 27 = .ok (.if_icmp .ne 6, 3) := by decide +kernel
theorem dX6_turn_30 : decode cX6_turn 30 = .ok (.bipush (-3), 2) := by decide +kernel
theorem dX6_turn_32 : decode cX6_turn 32 = .ok (.ireturn, 1) := by decide +kernel
theorem dX6_turn_33 : decode cX6_turn 33 = .ok (.aload_n 0, 1) := by decide +kernel
theorem dX6_turn_34 : decode cX6_turn 34 = .ok (.iload_n 1, 1) := by decide +kernel
theorem dX6_turn_35 : decode cX6_turn 35 = .ok (.invokevirtual 193, 3) := by decide +kernel
theorem dX6_turn_38 : decode cX6_turn 38 = .ok (.aload_n 0, 1) := by decide +kernel
theorem dX6_turn_39 : decode cX6_turn 39 = .ok (.iload_n 1, 1) := by decide +kernel
theorem dX6_turn_40 : decode cX6_turn 40 = .ok (.invokevirtual 190, 3) := by decide +kernel
theorem dX6_turn_43 : decode cX6_turn 43 = .ok (.ireturn, 1) := by decide +kernel
set_option maxRecDepth 20000 in
theorem ggX6_play_X6_within : GoodIn wsX6_play wsX6_within := goodIn_r _ [6] (by decide +kernel) (by decide +kernel)
set_option maxRecDepth 20000 in
theorem gX6_play_X6_within : GoodIn wsX6_play (va_wsS RX6 111 yX6_within wsX6_within) := goodIn_app (goodIn_of _ (by decide +kernel)) ggX6_play_X6_within
set_option maxRecDepth 20000 in
theorem ggX6_play_X6_stateOf : GoodIn wsX6_play wsX6_stateOf := goodIn_r _ [10, 11, 12, 13, 14, 15, 112, 113, 114, 115, 116, 117, 118, 119, 120, 121, 122, 123, 124, 125, 126, 127, 128, 129, 130, 131, 132, 133, 134, 135, 136, 137, 138, 139, 140, 141, 142, 143, 144, 145] (by decide +kernel) (by decide +kernel)
set_option maxRecDepth 20000 in
theorem gX6_play_X6_stateOf : GoodIn wsX6_play (wsV RX6 190 RX6 yX6_stateOf wsX6_stateOf) := goodIn_app (goodIn_of _ (by decide +kernel)) ggX6_play_X6_stateOf
set_option maxRecDepth 20000 in
theorem ggX6_play_X6_doTurn : GoodIn wsX6_play wsX6_doTurn := goodIn_r _ [19, 20, 21, 12, 13, 22, 23, 24, 5, 25, 26, 27, 28, 29, 14, 30, 15, 31, 32, 33, 34, 35, 36, 37, 38, 39, 40, 41, 42, 43, 44, 45, 46, 47, 48, 49, 50, 51, 52, 53, 54, 55, 56, 57, 58, 59, 60, 61, 62, 63, 64, 65, 66, 67, 68, 69, 70, 71, 72, 73, 74, 75, 76, 77, 78, 79, 80, 81, 82, 83, 84, 85, 86, 87, 88, 89, 90, 91, 92, 93, 94, 95, 96, 97, 98, 99, 100, 101, 102, 103, 104, 105, 106, 3, 4, 6, 107, 108, 109, 110, 1, 11, 111, 112, 113, 114, 115, 116, 117, 118, 119, 120, 121, 122, 123, 124, 125, 126, 127, 128, 129, 130, 131, 132, 133, 134, 135, 136, 137, 138, 139, 140, 141, 142, 143, 144, 145] (by decide +kernel) (by decide +kernel)
set_option maxRecDepth 20000 in
theorem gX6_play_X6_doTurn : GoodIn wsX6_play (wsV RX6 193 RX6 yX6_doTurn wsX6_doTurn) := goodIn_app (goodIn_of _ (by decide +kernel)) ggX6_play_X6_doTurn
theorem dX6_play_0 : decode cX6_play 0 = .ok (.iload_n 2, 1) := by decide +kernel
theorem dX6_play_1 : decode cX6_play 1 = .ok (.iconst 1, 1) := by decide +kernel
theorem dX6_play_2 : decode cX6_play 2 = .ok (.bipush 100, 2) := by decide +kernel
theorem dX6_play_4 : decode cX6_play 4 = .ok (.invokestatic 111, 3) := by decide +kernel
theorem dX6_play_7 : decode cX6_play 7 = .ok (.ifCond .ne 6, 3) := by decide +kernel
theorem dX6_play_10 : decode cX6_play 10 = .ok (.bipush (-2), 2) := by decide +kernel
theorem dX6_play_12 : decode cX6_play 12 = .ok (.ireturn, 1) := by decide +kernel
theorem dX6_play_13 : decode cX6_play 13 = .ok (.iload_n 1, 1) := by decide +kernel
theorem dX6_play_14 : decode cX6_play 14 = .ok (.istore_n 3, 1) := by decide +kernel
theorem dX6_play_15 : decode cX6_play 15 = .ok (.iconst 0, 1) := by decide +kernel
theorem dX6_play_16 : decode cX6_play 16 = .ok (.istore 4, 2) := by decide +kernel
theorem dX6_play_18 : decode cX6_play 18 = .ok (.iload 4, 2) := by decide +kernel
theorem dX6_play_20 : decode cX6_play 20 = .ok (.iload_n 2, 1) := by decide +kernel
theorem dX6_play_21 : decode cX6_play 21 = .ok (.if_icmp .ge 132, 3) := by decide +kernel
theorem dX6_play_24 : decode cX6_play 24 = .ok (.iconst 0, 1) := by decide +kernel
theorem dX6_play_25 : decode cX6_play 25 = .ok (.istore 5, 2) := by decide +kernel
theorem dX6_play_27 : decode cX6_play 27 = .ok (.iconst 0, 1) := by decide +kernel
theorem dX6_play_28 : decode cX6_play 28 = .ok (.istore 6, 2) := by decide +kernel
theorem dX6_play_30 : decode cX6_play 30 = .ok (.iload 6, 2) := by decide +kernel
theorem dX6_play_32 : decode cX6_play 32 = .ok (.iconst 3, 1) := by decide +kernel
theorem dX6_play_33 : decode cX6_play 33 = .ok (.if_icmp .ge 28, 3) := by decide +kernel
theorem dX6_play_36 : decode cX6_play 36 = .ok (.iload 5, 2) := by decide +kernel
theorem dX6_play_38 : decode cX6_play 38 = .ok (.aload_n 0, 1) := by decide +kernel
theorem dX6_play_39 : decode cX6_play 39 = .ok (.iload 6, 2) := by decide +kernel
theorem dX6_play_41 : decode cX6_play 41 = .ok (.invokevirtual 190, 3) := by decide +kernel
theorem dX6_play_44 : decode cX6_play 44 = .ok (.ifCond .ne 7, 3) := by decide +kernel
theorem dX6_play_47 : decode cX6_play 47 = .ok (.iconst 1, 1) := by decide +kernel
theorem dX6_play_48 : decode cX6_play 48 = .ok (.goto 4, 3) := by decide +kernel
theorem dX6_play_51 : decode cX6_play 51 = .ok (.iconst 0, 1) := by decide +kernel
theorem dX6_play_52 : decode cX6_play 52 = .ok (.iadd, 1) := by decide +kernel
theorem dX6_play_53 : decode cX6_play 53 = .ok (.istore 5, 2) := by decide +kernel
theorem dX6_play_55 : decode cX6_play 55 = .ok (.iinc 6 1, 3) := by decide +kernel
theorem dX6_play_58 : decode cX6_play 58 = .ok (.goto (-28), 3) := by decide +kernel
theorem dX6_play_61 : decode cX6_play 61 = .ok (.iload 5, 2) := by decide +kernel
theorem dX6_play_63 : decode cX6_play 63 = .ok (.ifCond .eq 13, 3) := by decide +kernel
theorem dX6_play_66 : decode cX6_play 66 = .ok (.aload_n 0, 1) := by decide +kernel
theorem dX6_play_67 : decode cX6_play 67 = .ok (.getfield 181, 3) := by decide +kernel
theorem dX6_play_70 : decode cX6_play 70 = .ok (.sipush 5000, 3) := by decide +kernel
theorem dX6_play_73 : decode cX6_play 73 = .ok (.if_icmp .ne 6, 3) := by decide +kernel
theorem dX6_play_76 : decode cX6_play 76 = .ok (.iload 4, 2) := by decide +kernel
theorem dX6_play_78 : decode cX6_play 78 = .ok (.ireturn, 1) := by decide +kernel
theorem dX6_play_79 : decode cX6_play 79 = .ok (.iload_n 3, 1) := by decide +kernel
theorem dX6_play_80 : decode cX6_play 80 = .ok (.ldc 196, 2) := by decide +kernel
theorem dX6_play_82 : decode cX6_play 82 = .ok (.imul, 1) := by decide +kernel
theorem dX6_play_83 : decode cX6_play 83 = .ok (.sipush 12345, 3) := by decide +kernel
theorem dX6_play_86 : decode cX6_play 86 = .ok (.iadd, 1) := by decide +kernel
theorem dX6_play_87 : decode cX6_play 87 = .ok (.istore_n 3, 1) := by decide +kernel
theorem dX6_play_88 : decode cX6_play 88 = .ok (.iload_n 3, 1) := by decide +kernel
theorem dX6_play_89 : decode cX6_play 89 = .ok (.bipush 16, 2) := by decide +kernel
theorem dX6_play_91 : decode cX6_play 91 = .ok (.iushr, 1) := by decide +kernel
theorem dX6_play_92 : decode cX6_play 92 = .ok (.iload 5, 2) := by decide +kernel
theorem dX6_play_94 : decode cX6_play 94 = .ok (.irem, 1) := by decide +kernel
theorem dX6_play_95 : decode cX6_play 95 = .ok (.istore 6, 2) := by decide +kernel
theorem dX6_play_97 : decode cX6_play 97 = .ok (.iconst (-1), 1) := by decide +kernel
theorem dX6_play_98 : decode cX6_play 98 = .ok (.istore 7, 2) := by decide +kernel
theorem dX6_play_100 : decode cX6_play 100 = .ok (.iconst 0, 1) := by decide +kernel
theorem dX6_play_101 : decode cX6_play 101 = .ok (.istore 8, 2) := by decide +kernel
theorem dX6_play_103 : decode cX6_play 103 = .ok (.iload 8, 2) := by decide +kernel
theorem dX6_play_105 : decode cX6_play 105 = .ok (.iconst 3, 1) := by decide +kernel
theorem dX6_play_106 : decode cX6_play 106 = .ok (.if_icmp .ge 35, 3) := by decide +kernel
theorem dX6_play_109 : decode cX6_play 109 = .ok (.aload_n 0, 1) := by decide +kernel
theorem dX6_play_110 : decode cX6_play 110 = .ok (.iload 8, 2) := by decide +kernel
theorem dX6_play_112 : decode cX6_play 112 = .ok (.invokevirtual 190, 3) := by decide +kernel
theorem dX6_play_115 : decode cX6_play 115 = .ok (.ifCond .ne 20, 3) := by decide +kernel
theorem dX6_play_118 : decode cX6_play 118 = .ok (.iload 6, 2) := by decide +kernel
theorem dX6_play_120 : decode cX6_play 120 = .ok (.ifCond .ne 8, 3) := by decide +kernel
theorem dX6_play_123 : decode cX6_play 123 = .ok (.iload 8, 2) := by decide +kernel
theorem dX6_play_125 : decode cX6_play 125 = .ok (.goto 5, 3) := by decide +kernel
theorem dX6_play_128 : decode cX6_play 128 = .ok (.iload 7, 2) := by decide +kernel
theorem dX6_play_130 : decode cX6_play 130 = .ok (.istore 7, 2) := by decide +kernel
theorem dX6_play_132 : decode cX6_play 132 = .ok (.iinc 6 (-1), 3) := by decide +kernel
theorem dX6_play_135 : decode cX6_play 135 = .ok (.iinc 8 1, 3) := by decide +kernel
theorem dX6_play_138 : decode cX6_play 138 = .ok (.goto (-35), 3) := by decide +kernel
theorem dX6_play_141 : decode cX6_play 141 = .ok (.aload_n 0, 1) := by decide +kernel
theorem dX6_play_142 : decode cX6_play 142 = .ok (.iload 7, 2) := by decide +kernel
theorem dX6_play_144 : decode cX6_play 144 = .ok (.invokevirtual 193, 3) := by decide +kernel
theorem dX6_play_147 : decode cX6_play 147 = .ok (.iinc 4 1, 3) := by decide +kernel
theorem dX6_play_150 : decode cX6_play 150 = .ok (.goto (-132), 3) := by decide +kernel
theorem dX6_play_153 : decode cX6_play 153 = .ok (.iload_n 2, 1) := by decide +kernel
theorem dX6_play_154 : decode cX6_play 154 = .ok (.ireturn, 1) := by decide +kernel
set_option maxRecDepth 20000 in
theorem ggX6_told_X6_within : GoodIn wsX6_told wsX6_within := goodIn_r _ [10] (by decide +kernel) (by decide +kernel)
set_option maxRecDepth 20000 in
theorem gX6_told_X6_within : GoodIn wsX6_told (va_wsS RX6 111 yX6_within wsX6_within) := goodIn_app (goodIn_of _ (by decide +kernel)) ggX6_told_X6_within
set_option maxRecDepth 20000 in
theorem ggX6_told_X6_stateOf : GoodIn wsX6_told wsX6_stateOf := goodIn_r _ [14, 15, 1, 16, 3, 4, 17, 18, 19, 20, 21, 22, 23, 24, 25, 26, 27, 28, 29, 30, 31, 32, 33, 34, 35, 36, 37, 38, 39, 40, 41, 42, 43, 44, 45, 46, 47, 48, 49, 50] (by decide +kernel) (by decide +kernel)
set_option maxRecDepth 20000 in
theorem gX6_told_X6_stateOf : GoodIn wsX6_told (wsV RX6 190 RX6 yX6_stateOf wsX6_stateOf) := goodIn_app (goodIn_of _ (by decide +kernel)) ggX6_told_X6_stateOf
theorem dX6_told_0 : decode cX6_told 0 = .ok (.iload_n 1, 1) := by decide +kernel
theorem dX6_told_1 : decode cX6_told 1 = .ok (.iconst 0, 1) := by decide +kernel
theorem dX6_told_2 : decode cX6_told 2 = .ok (.iconst 2, 1) := by decide +kernel
theorem dX6_told_3 : decode cX6_told 3 = .ok (.invokestatic 111, 3) := by decide +kernel
theorem dX6_told_6 : decode cX6_told 6 = .ok (.ifCond .ne 6, 3) := by decide +kernel
theorem dX6_told_9 : decode cX6_told 9 = .ok (.bipush (-2), 2) := by decide +kernel
theorem dX6_told_11 : decode cX6_told 11 = .ok (.ireturn, 1) := by decide +kernel
theorem dX6_told_12 : decode cX6_told 12 = .ok (.iload_n 2, 1) := by decide +kernel
theorem dX6_told_13 : decode cX6_told 13 = .ok (.tableswitch 88 0 5 #[39, 45, 52, 59, 66, 81], 39) := by decide +kernel
theorem dX6_told_52 : decode cX6_told 52 = .ok (.aload_n 0, 1) := by decide +kernel
theorem dX6_told_53 : decode cX6_told 53 = .ok (.iload_n 1, 1) := by decide +kernel
theorem dX6_told_54 : decode cX6_told 54 = .ok (.invokevirtual 190, 3) := by decide +kernel
theorem dX6_told_57 : decode cX6_told 57 = .ok (.ireturn, 1) := by decide +kernel
theorem dX6_told_58 : decode cX6_told 58 = .ok (.aload_n 0, 1) := by decide +kernel
theorem dX6_told_59 : decode cX6_told 59 = .ok (.getfield 47, 3) := by decide +kernel
theorem dX6_told_62 : decode cX6_told 62 = .ok (.iload_n 1, 1) := by decide +kernel
theorem dX6_told_63 : decode cX6_told 63 = .ok (.iaload, 1) := by decide +kernel
theorem dX6_told_64 : decode cX6_told 64 = .ok (.ireturn, 1) := by decide +kernel
theorem dX6_told_65 : decode cX6_told 65 = .ok (.aload_n 0, 1) := by decide +kernel
theorem dX6_told_66 : decode cX6_told 66 = .ok (.getfield 50, 3) := by decide +kernel
theorem dX6_told_69 : decode cX6_told 69 = .ok (.iload_n 1, 1) := by decide +kernel
theorem dX6_told_70 : decode cX6_told 70 = .ok (.iaload, 1) := by decide +kernel
theorem dX6_told_71 : decode cX6_told 71 = .ok (.ireturn, 1) := by decide +kernel
theorem dX6_told_72 : decode cX6_told 72 = .ok (.aload_n 0, 1) := by decide +kernel
theorem dX6_told_73 : decode cX6_told 73 = .ok (.getfield 62, 3) := by decide +kernel
theorem dX6_told_76 : decode cX6_told 76 = .ok (.iload_n 1, 1) := by decide +kernel
theorem dX6_told_77 : decode cX6_told 77 = .ok (.iaload, 1) := by decide +kernel
theorem dX6_told_78 : decode cX6_told 78 = .ok (.ireturn, 1) := by decide +kernel
theorem dX6_told_79 : decode cX6_told 79 = .ok (.aload_n 0, 1) := by decide +kernel
theorem dX6_told_80 : decode cX6_told 80 = .ok (.getfield 68, 3) := by decide +kernel
theorem dX6_told_83 : decode cX6_told 83 = .ok (.iload_n 1, 1) := by decide +kernel
theorem dX6_told_84 : decode cX6_told 84 = .ok (.baload, 1) := by decide +kernel
theorem dX6_told_85 : decode cX6_told 85 = .ok (.ifCond .eq 7, 3) := by decide +kernel
theorem dX6_told_88 : decode cX6_told 88 = .ok (.iconst 1, 1) := by decide +kernel
theorem dX6_told_89 : decode cX6_told 89 = .ok (.goto 4, 3) := by decide +kernel
theorem dX6_told_92 : decode cX6_told 92 = .ok (.iconst 0, 1) := by decide +kernel
theorem dX6_told_93 : decode cX6_told 93 = .ok (.ireturn, 1) := by decide +kernel
theorem dX6_told_94 : decode cX6_told 94 = .ok (.aload_n 0, 1) := by decide +kernel
theorem dX6_told_95 : decode cX6_told 95 = .ok (.getfield 56, 3) := by decide +kernel
theorem dX6_told_98 : decode cX6_told 98 = .ok (.iload_n 1, 1) := by decide +kernel
theorem dX6_told_99 : decode cX6_told 99 = .ok (.iaload, 1) := by decide +kernel
theorem dX6_told_100 : decode cX6_told 100 = .ok (.ireturn, 1) := by decide +kernel
theorem dX6_told_101 : decode cX6_told 101 = .ok (.iload_n 2, 1) := by decide +kernel
theorem dX6_told_102 : decode cX6_told 102 = .ok (.bipush 6, 2) := by decide +kernel
theorem dX6_told_104 : decode cX6_told 104 = .ok (.if_icmp .ne 12, 3) := by decide +kernel
theorem dX6_told_107 : decode cX6_told 107 = .ok (.aload_n 0, 1) := by decide +kernel
theorem dX6_told_108 : decode cX6_told 108 = .ok (.getfield 59, 3) := by decide +kernel
theorem dX6_told_111 : decode cX6_told 111 = .ok (.iload_n 1, 1) := by decide +kernel
theorem dX6_told_112 : decode cX6_told 112 = .ok (.iaload, 1) := by decide +kernel
theorem dX6_told_113 : decode cX6_told 113 = .ok (.goto 5, 3) := by decide +kernel
theorem dX6_told_116 : decode cX6_told 116 = .ok (.bipush (-2), 2) := by decide +kernel
theorem dX6_told_118 : decode cX6_told 118 = .ok (.ireturn, 1) := by decide +kernel
set_option maxRecDepth 20000 in
theorem ggX6_register_X6_within : GoodIn wsX6_register wsX6_within := goodIn_r _ [4] (by decide +kernel) (by decide +kernel)
set_option maxRecDepth 20000 in
theorem gX6_register_X6_within : GoodIn wsX6_register (va_wsS RX6 111 yX6_within wsX6_within) := goodIn_app (goodIn_of _ (by decide +kernel)) ggX6_register_X6_within
set_option maxRecDepth 20000 in
theorem ggX6_register_X6_isRegister : GoodIn wsX6_register wsX6_isRegister := goodIn_r _ [7, 1, 2, 3, 4] (by decide +kernel) (by decide +kernel)
set_option maxRecDepth 20000 in
theorem gX6_register_X6_isRegister : GoodIn wsX6_register (va_wsS RX6 115 yX6_isRegister wsX6_isRegister) := goodIn_app (goodIn_of _ (by decide +kernel)) ggX6_register_X6_isRegister
set_option maxRecDepth 20000 in
theorem ggX6_register_X6_r : GoodIn wsX6_register wsX6_r := goodIn_r _ [11, 12, 13, 14, 15, 16, 17, 18, 19, 20, 21, 22, 23, 24, 25, 26, 27, 28, 29, 30, 31, 32, 33, 34, 35, 36, 37, 38, 39, 40, 41, 42, 43, 44, 45, 46] (by decide +kernel) (by decide +kernel)
set_option maxRecDepth 20000 in
theorem gX6_register_X6_r : GoodIn wsX6_register (wsV RX6 153 RX6 yX6_r wsX6_r) := goodIn_app (goodIn_of _ (by decide +kernel)) ggX6_register_X6_r
theorem dX6_register_0 : decode cX6_register 0 = .ok (.iload_n 1, 1) := by decide +kernel
theorem dX6_register_1 : decode cX6_register 1 = .ok (.iconst 0, 1) := by decide +kernel
theorem dX6_register_2 : decode cX6_register 2 = .ok (.iconst 2, 1) := by decide +kernel
theorem dX6_register_3 : decode cX6_register 3 = .ok (.invokestatic 111, 3) := by decide +kernel
theorem dX6_register_6 : decode cX6_register 6 = .ok (.ifCond .eq 19, 3) := by decide +kernel
theorem dX6_register_9 : decode cX6_register 9 = .ok (.iload_n 2, 1) := by decide +kernel
theorem dX6_register_10 : decode cX6_register 10 = .ok (.invokestatic 115, 3) := by decide +kernel
theorem dX6_register_13 : decode cX6_register 13 = .ok (.ifCond .eq 12, 3) := by decide +kernel
theorem dX6_register_16 : decode cX6_register 16 = .ok (.aload_n 0, 1) := by decide +kernel
theorem dX6_register_17 : decode cX6_register 17 = .ok (.iload_n 1, 1) := by decide +kernel
theorem dX6_register_18 : decode cX6_register 18 = .ok (.iload_n 2, 1) := by decide +kernel
theorem dX6_register_19 : decode cX6_register 19 = .ok (.invokevirtual 153, 3) := by decide +kernel
theorem dX6_register_22 : decode cX6_register 22 = .ok (.goto 5, 3) := by decide +kernel
theorem dX6_register_25 : decode cX6_register 25 = .ok (.bipush (-2), 2) := by decide +kernel
theorem dX6_register_27 : decode cX6_register 27 = .ok (.ireturn, 1) := by decide +kernel
set_option maxRecDepth 20000 in
theorem ggX6_cell_X6_isCell : GoodIn wsX6_cell wsX6_isCell := goodIn_r _ [5, 6, 7, 4, 8] (by decide +kernel) (by decide +kernel)
set_option maxRecDepth 20000 in
theorem gX6_cell_X6_isCell : GoodIn wsX6_cell (va_wsS RX6 119 yX6_isCell wsX6_isCell) := goodIn_app (goodIn_of _ (by decide +kernel)) ggX6_cell_X6_isCell
theorem dX6_cell_0 : decode cX6_cell 0 = .ok (.iload_n 1, 1) := by decide +kernel
theorem dX6_cell_1 : decode cX6_cell 1 = .ok (.invokestatic 119, 3) := by decide +kernel
theorem dX6_cell_4 : decode cX6_cell 4 = .ok (.ifCond .eq 12, 3) := by decide +kernel
theorem dX6_cell_7 : decode cX6_cell 7 = .ok (.aload_n 0, 1) := by decide +kernel
theorem dX6_cell_8 : decode cX6_cell 8 = .ok (.getfield 7, 3) := by decide +kernel
theorem dX6_cell_11 : decode cX6_cell 11 = .ok (.iload_n 1, 1) := by decide +kernel
theorem dX6_cell_12 : decode cX6_cell 12 = .ok (.iaload, 1) := by decide +kernel
theorem dX6_cell_13 : decode cX6_cell 13 = .ok (.goto 5, 3) := by decide +kernel
theorem dX6_cell_16 : decode cX6_cell 16 = .ok (.bipush (-2), 2) := by decide +kernel
theorem dX6_cell_18 : decode cX6_cell 18 = .ok (.ireturn, 1) := by decide +kernel
set_option maxRecDepth 20000 in
theorem ggX6_lazy_X6_isCell : GoodIn wsX6_lazy wsX6_isCell := goodIn_r _ [5, 6, 7, 4, 8] (by decide +kernel) (by decide +kernel)
set_option maxRecDepth 20000 in
theorem gX6_lazy_X6_isCell : GoodIn wsX6_lazy (va_wsS RX6 119 yX6_isCell wsX6_isCell) := goodIn_app (goodIn_of _ (by decide +kernel)) ggX6_lazy_X6_isCell
theorem dX6_lazy_0 : decode cX6_lazy 0 = .ok (.iload_n 1, 1) := by decide +kernel
theorem dX6_lazy_1 : decode cX6_lazy 1 = .ok (.invokestatic 119, 3) := by decide +kernel
theorem dX6_lazy_4 : decode cX6_lazy 4 = .ok (.ifCond .eq 20, 3) := by decide +kernel
theorem dX6_lazy_7 : decode cX6_lazy 7 = .ok (.aload_n 0, 1) := by decide +kernel
theorem dX6_lazy_8 : decode cX6_lazy 8 = .ok (.getfield 13, 3) := by decide +kernel
theorem dX6_lazy_11 : decode cX6_lazy 11 = .ok (.iload_n 1, 1) := by decide +kernel
theorem dX6_lazy_12 : decode cX6_lazy 12 = .ok (.baload, 1) := by decide +kernel
theorem dX6_lazy_13 : decode cX6_lazy 13 = .ok (.ifCond .eq 7, 3) := by decide +kernel
theorem dX6_lazy_16 : decode cX6_lazy 16 = .ok (.iconst 1, 1) := by decide +kernel
theorem dX6_lazy_17 : decode cX6_lazy 17 = .ok (.goto 9, 3) := by decide +kernel
theorem dX6_lazy_20 : decode cX6_lazy 20 = .ok (.iconst 0, 1) := by decide +kernel
theorem dX6_lazy_21 : decode cX6_lazy 21 = .ok (.goto 5, 3) := by decide +kernel
theorem dX6_lazy_24 : decode cX6_lazy 24 = .ok (.bipush (-2), 2) := by decide +kernel
theorem dX6_lazy_26 : decode cX6_lazy 26 = .ok (.ireturn, 1) := by decide +kernel
set_option maxRecDepth 20000 in
theorem ggX6_size_X6_within : GoodIn wsX6_size wsX6_within := goodIn_r _ [5] (by decide +kernel) (by decide +kernel)
set_option maxRecDepth 20000 in
theorem gX6_size_X6_within : GoodIn wsX6_size (va_wsS RX6 111 yX6_within wsX6_within) := goodIn_app (goodIn_of _ (by decide +kernel)) ggX6_size_X6_within
theorem dX6_size_0 : decode cX6_size 0 = .ok (.iload_n 1, 1) := by decide +kernel
theorem dX6_size_1 : decode cX6_size 1 = .ok (.iconst 0, 1) := by decide +kernel
theorem dX6_size_2 : decode cX6_size 2 = .ok (.iconst 3, 1) := by decide +kernel
theorem dX6_size_3 : decode cX6_size 3 = .ok (.invokestatic 111, 3) := by decide +kernel
theorem dX6_size_6 : decode cX6_size 6 = .ok (.ifCond .eq 12, 3) := by decide +kernel
theorem dX6_size_9 : decode cX6_size 9 = .ok (.aload_n 0, 1) := by decide +kernel
theorem dX6_size_10 : decode cX6_size 10 = .ok (.getfield 20, 3) := by decide +kernel
theorem dX6_size_13 : decode cX6_size 13 = .ok (.iload_n 1, 1) := by decide +kernel
theorem dX6_size_14 : decode cX6_size 14 = .ok (.iaload, 1) := by decide +kernel
theorem dX6_size_15 : decode cX6_size 15 = .ok (.goto 5, 3) := by decide +kernel
theorem dX6_size_18 : decode cX6_size 18 = .ok (.bipush (-2), 2) := by decide +kernel
theorem dX6_size_20 : decode cX6_size 20 = .ok (.ireturn, 1) := by decide +kernel
set_option maxRecDepth 20000 in
theorem ggX6_item_X6_within : GoodIn wsX6_item wsX6_within := goodIn_r _ [6] (by decide +kernel) (by decide +kernel)
set_option maxRecDepth 20000 in
theorem gX6_item_X6_within : GoodIn wsX6_item (va_wsS RX6 111 yX6_within wsX6_within) := goodIn_app (goodIn_of _ (by decide +kernel)) ggX6_item_X6_within
theorem dX6_item_0 : decode cX6_item 0 = .ok (.iload_n 1, 1) := by decide +kernel
theorem dX6_item_1 : decode cX6_item 1 = .ok (.iconst 0, 1) := by decide +kernel
theorem dX6_item_2 : decode cX6_item 2 = .ok (.iconst 3, 1) := by decide +kernel
theorem dX6_item_3 : decode cX6_item 3 = .ok (.invokestatic 111, 3) := by decide +kernel
theorem dX6_item_6 : decode cX6_item 6 = .ok (.ifCond .ne 6, 3) := by decide +kernel
theorem dX6_item_9 : decode cX6_item 9 = .ok (.bipush (-2), 2) := by decide +kernel
theorem dX6_item_11 : decode cX6_item 11 = .ok (.ireturn, 1) := by decide +kernel
theorem dX6_item_12 : decode cX6_item 12 = .ok (.iload_n 2, 1) := by decide +kernel
theorem dX6_item_13 : decode cX6_item 13 = .ok (.iconst 0, 1) := by decide +kernel
theorem dX6_item_14 : decode cX6_item 14 = .ok (.aload_n 0, 1) := by decide +kernel
theorem dX6_item_15 : decode cX6_item 15 = .ok (.getfield 20, 3) := by decide +kernel
theorem dX6_item_18 : decode cX6_item 18 = .ok (.iload_n 1, 1) := by decide +kernel
theorem dX6_item_19 : decode cX6_item 19 = .ok (.iaload, 1) := by decide +kernel
theorem dX6_item_20 : decode cX6_item 20 = .ok (.iconst 1, 1) := by decide +kernel
theorem dX6_item_21 : decode cX6_item 21 = .ok (.isub, 1) := by decide +kernel
theorem dX6_item_22 : decode cX6_item 22 = .ok (.invokestatic 111, 3) := by decide +kernel
theorem dX6_item_25 : decode cX6_item 25 = .ok (.ifCond .eq 17, 3) := by decide +kernel
theorem dX6_item_28 : decode cX6_item 28 = .ok (.aload_n 0, 1) := by decide +kernel
theorem dX6_item_29 : decode cX6_item 29 = .ok (.getfield 23, 3) := by decide +kernel
theorem dX6_item_32 : decode cX6_item 32 = .ok (.bipush 8, 2) := by decide +kernel
theorem dX6_item_34 : decode cX6_item 34 = .ok (.iload_n 1, 1) := by decide +kernel
theorem dX6_item_35 : decode cX6_item 35 = .ok (.imul, 1) := by decide +kernel
theorem dX6_item_36 : decode cX6_item 36 = .ok (.iload_n 2, 1) := by decide +kernel
theorem dX6_item_37 : decode cX6_item 37 = .ok (.iadd, 1) := by decide +kernel
theorem dX6_item_38 : decode cX6_item 38 = .ok (.iaload, 1) := by decide +kernel
theorem dX6_item_39 : decode cX6_item 39 = .ok (.goto 4, 3) := by decide +kernel
theorem dX6_item_42 : decode cX6_item 42 = .ok (.iconst 0, 1) := by decide +kernel
theorem dX6_item_43 : decode cX6_item 43 = .ok (.ireturn, 1) := by decide +kernel
set_option maxRecDepth 20000 in
theorem ggX6_frozen_X6_within : GoodIn wsX6_frozen wsX6_within := goodIn_r _ [5] (by decide +kernel) (by decide +kernel)
set_option maxRecDepth 20000 in
theorem gX6_frozen_X6_within : GoodIn wsX6_frozen (va_wsS RX6 111 yX6_within wsX6_within) := goodIn_app (goodIn_of _ (by decide +kernel)) ggX6_frozen_X6_within
theorem dX6_frozen_0 : decode cX6_frozen 0 = .ok (.iload_n 1, 1) := by decide +kernel
theorem dX6_frozen_1 : decode cX6_frozen 1 = .ok (.iconst 0, 1) := by decide +kernel
theorem dX6_frozen_2 : decode cX6_frozen 2 = .ok (.iconst 3, 1) := by decide +kernel
theorem dX6_frozen_3 : decode cX6_frozen 3 = .ok (.invokestatic 111, 3) := by decide +kernel
theorem dX6_frozen_6 : decode cX6_frozen 6 = .ok (.ifCond .eq 20, 3) := by decide +kernel
theorem dX6_frozen_9 : decode cX6_frozen 9 = .ok (.aload_n 0, 1) := by decide +kernel
theorem dX6_frozen_10 : decode cX6_frozen 10 = .ok (.getfield 26, 3) := by decide +kernel
theorem dX6_frozen_13 : decode cX6_frozen 13 = .ok (.iload_n 1, 1) := by decide +kernel
theorem dX6_frozen_14 : decode cX6_frozen 14 = .ok (.baload, 1) := by decide +kernel
theorem dX6_frozen_15 : decode cX6_frozen 15 = .ok (.ifCond .eq 7, 3) := by decide +kernel
theorem dX6_frozen_18 : decode cX6_frozen 18 = .ok (.iconst 1, 1) := by decide +kernel
theorem dX6_frozen_19 : decode cX6_frozen 19 = .ok (.goto 9, 3) := by decide +kernel
theorem dX6_frozen_22 : decode cX6_frozen 22 = .ok (.iconst 0, 1) := by decide +kernel
theorem dX6_frozen_23 : decode cX6_frozen 23 = .ok (.goto 5, 3) := by decide +kernel
theorem dX6_frozen_26 : decode cX6_frozen 26 = .ok (.bipush (-2), 2) := by decide +kernel
theorem dX6_frozen_28 : decode cX6_frozen 28 = .ok (.ireturn, 1) := by decide +kernel
set_option maxRecDepth 20000 in
theorem ggX6_put_X6_isCell : GoodIn wsX6_put wsX6_isCell := goodIn_r _ [6, 7, 8, 5, 9] (by decide +kernel) (by decide +kernel)
set_option maxRecDepth 20000 in
theorem gX6_put_X6_isCell : GoodIn wsX6_put (va_wsS RX6 119 yX6_isCell wsX6_isCell) := goodIn_app (goodIn_of _ (by decide +kernel)) ggX6_put_X6_isCell
theorem dX6_put_0 : decode cX6_put 0 = .ok (.iload_n 1, 1) := by decide +kernel
theorem dX6_put_1 : decode cX6_put 1 = .ok (.invokestatic 119, 3) := by decide +kernel
theorem dX6_put_4 : decode cX6_put 4 = .ok (.ifCond .ne 6, 3) := by decide +kernel
theorem dX6_put_7 : decode cX6_put 7 = .ok (.bipush (-2), 2) := by decide +kernel
theorem dX6_put_9 : decode cX6_put 9 = .ok (.ireturn, 1) := by decide +kernel
theorem dX6_put_10 : decode cX6_put 10 = .ok (.aload_n 0, 1) := by decide +kernel
theorem dX6_put_11 : decode cX6_put 11 = .ok (.getfield 7, 3) := by decide +kernel
theorem dX6_put_14 : decode cX6_put 14 = .ok (.iload_n 1, 1) := by decide +kernel
theorem dX6_put_15 : decode cX6_put 15 = .ok (.iaload, 1) := by decide +kernel
theorem dX6_put_16 : decode cX6_put 16 = .ok (.istore_n 3, 1) := by decide +kernel
theorem dX6_put_17 : decode cX6_put 17 = .ok (.aload_n 0, 1) := by decide +kernel
theorem dX6_put_18 : decode cX6_put 18 = .ok (.getfield 7, 3) := by decide +kernel
theorem dX6_put_21 : decode cX6_put 21 = .ok (.iload_n 1, 1) := by decide +kernel
theorem dX6_put_22 : decode cX6_put 22 = .ok (.iload_n 2, 1) := by decide +kernel
theorem dX6_put_23 : decode cX6_put 23 = .ok (.iastore, 1) := by decide +kernel
theorem dX6_put_24 : decode cX6_put 24 = .ok (.aload_n 0, 1) := by decide +kernel
theorem dX6_put_25 : decode cX6_put 25 = .ok (.getfield 13, 3) := by decide +kernel
theorem dX6_put_28 : decode cX6_put 28 = .ok (.iload_n 1, 1) := by decide +kernel
theorem dX6_put_29 : decode cX6_put 29 = .ok (.iconst 0, 1) := by decide +kernel
theorem dX6_put_30 : decode cX6_put 30 = .ok (.bastore, 1) := by decide +kernel
theorem dX6_put_31 : decode cX6_put 31 = .ok (.iload_n 3, 1) := by decide +kernel
theorem dX6_put_32 : decode cX6_put 32 = .ok (.ireturn, 1) := by decide +kernel
theorem dX6_writes_0 : decode cX6_writes 0 = .ok (.aload_n 0, 1) := by decide +kernel
theorem dX6_writes_1 : decode cX6_writes 1 = .ok (.getfield 107, 3) := by decide +kernel
theorem dX6_writes_4 : decode cX6_writes 4 = .ok (.ireturn, 1) := by decide +kernel
set_option maxRecDepth 20000 in
theorem ggX6_write__X6_within : GoodIn wsX6_write_ wsX6_within := goodIn_r _ [8] (by decide +kernel) (by decide +kernel)
set_option maxRecDepth 20000 in
theorem gX6_write__X6_within : GoodIn wsX6_write_ (va_wsS RX6 111 yX6_within wsX6_within) := goodIn_app (goodIn_of _ (by decide +kernel)) ggX6_write__X6_within
theorem dX6_write__0 : decode cX6_write_ 0 = .ok (.iload_n 2, 1) := by decide +kernel
theorem dX6_write__1 : decode cX6_write_ 1 = .ok (.iconst 0, 1) := by decide +kernel
theorem dX6_write__2 : decode cX6_write_ 2 = .ok (.iconst 2, 1) := by decide +kernel
theorem dX6_write__3 : decode cX6_write_ 3 = .ok (.invokestatic 111, 3) := by decide +kernel
theorem dX6_write__6 : decode cX6_write_ 6 = .ok (.ifCond .ne 6, 3) := by decide +kernel
theorem dX6_write__9 : decode cX6_write_ 9 = .ok (.bipush (-2), 2) := by decide +kernel
theorem dX6_write__11 : decode cX6_write_ 11 = .ok (.ireturn, 1) := by decide +kernel
theorem dX6_write__12 : decode cX6_write_ 12 = .ok (.aload_n 0, 1) := by decide +kernel
theorem dX6_write__13 : decode cX6_write_ 13 = .ok (.getfield 107, 3) := by decide +kernel
theorem dX6_write__16 : decode cX6_write_ 16 = .ok (.bipush 30, 2) := by decide +kernel
theorem dX6_write__18 : decode cX6_write_ 18 = .ok (.if_icmp .ge 10, 3) := by decide +kernel
theorem dX6_write__21 : decode cX6_write_ 21 = .ok (.aload_n 0, 1) := by decide +kernel
theorem dX6_write__22 : decode cX6_write_ 22 = .ok (.getfield 107, 3) := by decide +kernel
theorem dX6_write__25 : decode cX6_write_ 25 = .ok (.goto 5, 3) := by decide +kernel
theorem dX6_write__28 : decode cX6_write_ 28 = .ok (.bipush 30, 2) := by decide +kernel
theorem dX6_write__30 : decode cX6_write_ 30 = .ok (.istore_n 3, 1) := by decide +kernel
theorem dX6_write__31 : decode cX6_write_ 31 = .ok (.iload_n 1, 1) := by decide +kernel
theorem dX6_write__32 : decode cX6_write_ 32 = .ok (.iconst 0, 1) := by decide +kernel
theorem dX6_write__33 : decode cX6_write_ 33 = .ok (.iload_n 3, 1) := by decide +kernel
theorem dX6_write__34 : decode cX6_write_ 34 = .ok (.iconst 1, 1) := by decide +kernel
theorem dX6_write__35 : decode cX6_write_ 35 = .ok (.isub, 1) := by decide +kernel
theorem dX6_write__36 : decode cX6_write_ 36 = .ok (.invokestatic 111, 3) := by decide +kernel
theorem dX6_write__39 : decode cX6_write_ 39 = .ok (.ifCond .ne 5, 3) := by decide +kernel
theorem dX6_write__42 : decode cX6_write_ 42 = .ok (.iconst (-1), 1) := by decide +kernel
theorem dX6_write__43 : decode cX6_write_ 43 = .ok (.ireturn, 1) := by decide +kernel
theorem dX6_write__44 : decode cX6_write_ 44 = .ok (.aload_n 0, 1) := by decide +kernel
theorem dX6_write__45 : decode cX6_write_ 45 = .ok (.getfield 107, 3) := by decide +kernel
theorem dX6_write__48 : decode cX6_write_ 48 = .ok (.iconst 1, 1) := by decide +kernel
theorem dX6_write__49 : decode cX6_write_ 49 = .ok (.isub, 1) := by decide +kernel
theorem dX6_write__50 : decode cX6_write_ 50 = .ok (.iload_n 1, 1) := by decide +kernel
theorem dX6_write__51 : decode cX6_write_ 51 = .ok (.isub, 1) := by decide +kernel
theorem dX6_write__52 : decode cX6_write_ 52 = .ok (.bipush 30, 2) := by decide +kernel
theorem dX6_write__54 : decode cX6_write_ 54 = .ok (.irem, 1) := by decide +kernel
theorem dX6_write__55 : decode cX6_write_ 55 = .ok (.istore 4, 2) := by decide +kernel
theorem dX6_write__57 : decode cX6_write_ 57 = .ok (.iload_n 2, 1) := by decide +kernel
theorem dX6_write__58 : decode cX6_write_ 58 = .ok (.ifCond .ne 13, 3) := by decide +kernel
theorem dX6_write__61 : decode cX6_write_ 61 = .ok (.aload_n 0, 1) := by decide +kernel
theorem dX6_write__62 : decode cX6_write_ 62 = .ok (.getfield 92, 3) := by decide +kernel
theorem dX6_write__65 : decode cX6_write_ 65 = .ok (.iload 4, 2) := by decide +kernel
theorem dX6_write__67 : decode cX6_write_ 67 = .ok (.iaload, 1) := by decide +kernel
theorem dX6_write__68 : decode cX6_write_ 68 = .ok (.goto 25, 3) := by decide +kernel
theorem dX6_write__71 : decode cX6_write_ 71 = .ok (.iload_n 2, 1) := by decide +kernel
theorem dX6_write__72 : decode cX6_write_ 72 = .ok (.iconst 1, 1) := by decide +kernel
theorem dX6_write__73 : decode cX6_write_ 73 = .ok (.if_icmp .ne 13, 3) := by decide +kernel
theorem dX6_write__76 : decode cX6_write_ 76 = .ok (.aload_n 0, 1) := by decide +kernel
theorem dX6_write__77 : decode cX6_write_ 77 = .ok (.getfield 95, 3) := by decide +kernel
theorem dX6_write__80 : decode cX6_write_ 80 = .ok (.iload 4, 2) := by decide +kernel
theorem dX6_write__82 : decode cX6_write_ 82 = .ok (.iaload, 1) := by decide +kernel
theorem dX6_write__83 : decode cX6_write_ 83 = .ok (.goto 10, 3) := by decide +kernel
theorem dX6_write__86 : decode cX6_write_ 86 = .ok (.aload_n 0, 1) := by decide +kernel
theorem dX6_write__87 : decode cX6_write_ 87 = .ok (.getfield 98, 3) := by decide +kernel
theorem dX6_write__90 : decode cX6_write_ 90 = .ok (.iload 4, 2) := by decide +kernel
theorem dX6_write__92 : decode cX6_write_ 92 = .ok (.iaload, 1) := by decide +kernel
theorem dX6_write__93 : decode cX6_write_ 93 = .ok (.ireturn, 1) := by decide +kernel
set_option maxRecDepth 20000 in
theorem ggX6_again_X6_begin : GoodIn wsX6_again wsX6_begin := goodIn_r _ [6, 7, 8, 9, 10, 11, 12, 13, 14, 1, 15, 16, 17, 18, 19, 20, 21, 22, 23, 24, 25, 26, 27, 28, 29, 30, 31, 32, 33, 34, 35, 36, 37, 38, 39, 40, 41, 42, 43, 44, 45, 46, 47, 48, 49, 50, 51, 52, 53] (by decide +kernel) (by decide +kernel)
set_option maxRecDepth 20000 in
theorem gX6_again_X6_begin : GoodIn wsX6_again (wsV RX6 104 RX6 yX6_begin wsX6_begin) := goodIn_app (goodIn_of _ (by decide +kernel)) ggX6_again_X6_begin
theorem dX6_again_0 : decode cX6_again 0 = .ok (.aload_n 0, 1) := by decide +kernel
theorem dX6_again_1 : decode cX6_again 1 = .ok (.getfield 56, 3) := by decide +kernel
theorem dX6_again_4 : decode cX6_again 4 = .ok (.iconst 0, 1) := by decide +kernel
theorem dX6_again_5 : decode cX6_again 5 = .ok (.iaload, 1) := by decide +kernel
theorem dX6_again_6 : decode cX6_again 6 = .ok (.aload_n 0, 1) := by decide +kernel
theorem dX6_again_7 : decode cX6_again 7 = .ok (.getfield 56, 3) := by decide +kernel
theorem dX6_again_10 : decode cX6_again 10 = .ok (.iconst 1, 1) := by decide +kernel
theorem dX6_again_11 : decode cX6_again 11 = .ok (.iaload, 1) := by decide +kernel
theorem dX6_again_12 : decode cX6_again 12 = .ok (.iadd, 1) := by decide +kernel
theorem dX6_again_13 : decode cX6_again 13 = .ok (.aload_n 0, 1) := by decide +kernel
theorem dX6_again_14 : decode cX6_again 14 = .ok (.getfield 56, 3) := by decide +kernel
theorem dX6_again_17 : decode cX6_again 17 = .ok (.iconst 2, 1) := by decide +kernel
theorem dX6_again_18 : decode cX6_again 18 = .ok (.iaload, 1) := by decide +kernel
theorem dX6_again_19 : decode cX6_again 19 = .ok (.iadd, 1) := by decide +kernel
theorem dX6_again_20 : decode cX6_again 20 = .ok (.istore_n 1, 1) := by decide +kernel
theorem dX6_again_21 : decode cX6_again 21 = .ok (.aload_n 0, 1) := by decide +kernel
theorem dX6_again_22 : decode cX6_again 22 = .ok (.invokevirtual 104, 3) := by decide +kernel
theorem dX6_again_25 : decode cX6_again 25 = .ok (.iload_n 1, 1) := by decide +kernel
theorem dX6_again_26 : decode cX6_again 26 = .ok (.ireturn, 1) := by decide +kernel
set_option maxRecDepth 20000 in
theorem ggX6_clear_X6_again : GoodIn wsX6_clear wsX6_again := goodIn_r _ [6, 7, 8, 9, 10, 5, 11, 12, 13, 14, 15, 16, 17, 18, 19, 20, 21, 22, 23, 24, 25, 26, 27, 28, 29, 30, 31, 32, 33, 34, 35, 36, 37, 38, 39, 40, 41, 42, 43, 44, 45, 46, 47, 48, 49, 50, 51, 52, 53, 54, 55, 56, 57, 58] (by decide +kernel) (by decide +kernel)
set_option maxRecDepth 20000 in
theorem gX6_clear_X6_again : GoodIn wsX6_clear (wsV RX6 197 RX6 yX6_again wsX6_again) := goodIn_app (goodIn_of _ (by decide +kernel)) ggX6_clear_X6_again
theorem dX6_clear_0 : decode cX6_clear 0 = .ok (.aload_n 0, 1) := by decide +kernel
theorem dX6_clear_1 : decode cX6_clear 1 = .ok (.invokevirtual 197, 3) := by decide +kernel
theorem dX6_clear_4 : decode cX6_clear 4 = .ok (.istore_n 1, 1) := by decide +kernel
theorem dX6_clear_5 : decode cX6_clear 5 = .ok (.iconst 0, 1) := by decide +kernel
theorem dX6_clear_6 : decode cX6_clear 6 = .ok (.istore_n 2, 1) := by decide +kernel
theorem dX6_clear_7 : decode cX6_clear 7 = .ok (.iload_n 2, 1) := by decide +kernel
theorem dX6_clear_8 : decode cX6_clear 8 = .ok (.iconst 3, 1) := by decide +kernel
theorem dX6_clear_9 : decode cX6_clear 9 = .ok (.if_icmp .ge 16, 3) := by decide +kernel
theorem dX6_clear_12 : decode cX6_clear 12 = .ok (.aload_n 0, 1) := by decide +kernel
theorem dX6_clear_13 : decode cX6_clear 13 = .ok (.getfield 29, 3) := by decide +kernel
theorem dX6_clear_16 : decode cX6_clear 16 = .ok (.iload_n 2, 1) := by decide +kernel
theorem dX6_clear_17 : decode cX6_clear 17 = .ok (.iconst 0, 1) := by decide +kernel
theorem dX6_clear_18 : decode cX6_clear 18 = .ok (.iastore, 1) := by decide +kernel
theorem dX6_clear_19 : decode cX6_clear 19 = .ok (.iinc 2 1, 3) := by decide +kernel
theorem dX6_clear_22 : decode cX6_clear 22 = .ok (.goto (-15), 3) := by decide +kernel
theorem dX6_clear_25 : decode cX6_clear 25 = .ok (.iload_n 1, 1) := by decide +kernel
theorem dX6_clear_26 : decode cX6_clear 26 = .ok (.ireturn, 1) := by decide +kernel
theorem dJ7_rangeCheck_23922_0 : decode cJ7_rangeCheck_23922 0 = .ok (.iload_n 1, 1) := by decide +kernel
theorem dJ7_rangeCheck_23922_1 : decode cJ7_rangeCheck_23922 1 = .ok (.iload_n 2, 1) := by decide +kernel
theorem dJ7_rangeCheck_23922_2 : decode cJ7_rangeCheck_23922 2 = .ok (.if_icmp .le 44, 3) := by decide +kernel
theorem dJ7_rangeCheck_23922_5 : decode cJ7_rangeCheck_23922 5 = .ok (.new 43, 3) := by decide +kernel
theorem dJ7_rangeCheck_23922_8 : decode cJ7_rangeCheck_23922 8 = .ok (.dup, 1) := by decide +kernel
theorem dJ7_rangeCheck_23922_9 : decode cJ7_rangeCheck_23922 9 = .ok (.new 45, 3) := by decide +kernel
theorem dJ7_rangeCheck_23922_12 : decode cJ7_rangeCheck_23922 12 = .ok (.dup, 1) := by decide +kernel
theorem dJ7_rangeCheck_23922_13 : decode cJ7_rangeCheck_23922 13 = .ok (.invokespecial 47, 3) := by decide +kernel
theorem dJ7_rangeCheck_23922_16 : decode cJ7_rangeCheck_23922 16 = .ok (.ldc 48, 2) := by decide +kernel
theorem dJ7_rangeCheck_23922_18 : decode cJ7_rangeCheck_23922 18 = .ok (.invokevirtual 50, 3) := by decide +kernel
theorem dJ7_rangeCheck_23922_21 : decode cJ7_rangeCheck_23922 21 = .ok (.iload_n 1, 1) := by decide +kernel
theorem dJ7_rangeCheck_23922_22 : decode cJ7_rangeCheck_23922 22 = .ok (.invokevirtual 54, 3) := by decide +kernel
theorem dJ7_rangeCheck_23922_25 : decode cJ7_rangeCheck_23922 25 = .ok (.ldc 57, 2) := by decide +kernel
theorem dJ7_rangeCheck_23922_27 : decode cJ7_rangeCheck_23922 27 = .ok (.invokevirtual 50, 3) := by decide +kernel
theorem dJ7_rangeCheck_23922_30 : decode cJ7_rangeCheck_23922 30 = .ok (.iload_n 2, 1) := by decide +kernel
theorem dJ7_rangeCheck_23922_31 : decode cJ7_rangeCheck_23922 31 = .ok (.invokevirtual 54, 3) := by decide +kernel
theorem dJ7_rangeCheck_23922_34 : decode cJ7_rangeCheck_23922 34 = .ok (.ldc 59, 2) := by decide +kernel
theorem dJ7_rangeCheck_23922_36 : decode cJ7_rangeCheck_23922 36 = .ok (.invokevirtual 50, 3) := by decide +kernel
theorem dJ7_rangeCheck_23922_39 : decode cJ7_rangeCheck_23922 39 = .ok (.invokevirtual 61, 3) := by decide +kernel
theorem dJ7_rangeCheck_23922_42 : decode cJ7_rangeCheck_23922 42 = .ok (.invokespecial 65, 3) := by decide +kernel
theorem dJ7_rangeCheck_23922_45 : decode cJ7_rangeCheck_23922 45 = .ok (.athrow, 1) := by decide +kernel
theorem dJ7_rangeCheck_23922_46 : decode cJ7_rangeCheck_23922 46 = .ok (.iload_n 1, 1) := by decide +kernel
theorem dJ7_rangeCheck_23922_47 : decode cJ7_rangeCheck_23922 47 = .ok (.ifCond .ge 12, 3) := by decide +kernel
theorem dJ7_rangeCheck_23922_50 : decode cJ7_rangeCheck_23922 50 = .ok (.new 68, 3) := by decide +kernel
theorem dJ7_rangeCheck_23922_53 : decode cJ7_rangeCheck_23922 53 = .ok (.dup, 1) := by decide +kernel
theorem dJ7_rangeCheck_23922_54 : decode cJ7_rangeCheck_23922 54 = .ok (.iload_n 1, 1) := by decide +kernel
theorem dJ7_rangeCheck_23922_55 : decode cJ7_rangeCheck_23922 55 = .ok (.invokespecial 70, 3) := by decide +kernel
theorem dJ7_rangeCheck_23922_58 : decode cJ7_rangeCheck_23922 58 = .ok (.athrow, 1) := by decide +kernel
theorem dJ7_rangeCheck_23922_59 : decode cJ7_rangeCheck_23922 59 = .ok (.iload_n 2, 1) := by decide +kernel
theorem dJ7_rangeCheck_23922_60 : decode cJ7_rangeCheck_23922 60 = .ok (.iload_n 0, 1) := by decide +kernel
theorem dJ7_rangeCheck_23922_61 : decode cJ7_rangeCheck_23922 61 = .ok (.if_icmp .le 12, 3) := by decide +kernel
theorem dJ7_rangeCheck_23922_64 : decode cJ7_rangeCheck_23922 64 = .ok (.new 68, 3) := by decide +kernel
theorem dJ7_rangeCheck_23922_67 : decode cJ7_rangeCheck_23922 67 = .ok (.dup, 1) := by decide +kernel
theorem dJ7_rangeCheck_23922_68 : decode cJ7_rangeCheck_23922 68 = .ok (.iload_n 2, 1) := by decide +kernel
theorem dJ7_rangeCheck_23922_69 : decode cJ7_rangeCheck_23922 69 = .ok (.invokespecial 70, 3) := by decide +kernel
theorem dJ7_rangeCheck_23922_72 : decode cJ7_rangeCheck_23922 72 = .ok (.athrow, 1) := by decide +kernel
theorem dJ7_rangeCheck_23922_73 : decode cJ7_rangeCheck_23922 73 = .ok (.return_, 1) := by decide +kernel
theorem dJ7_fill_53178_0 : decode cJ7_fill_53178 0 = .ok (.iconst 0, 1) := by decide +kernel
theorem dJ7_fill_53178_1 : decode cJ7_fill_53178 1 = .ok (.istore_n 2, 1) := by decide +kernel
theorem dJ7_fill_53178_2 : decode cJ7_fill_53178 2 = .ok (.aload_n 0, 1) := by decide +kernel
theorem dJ7_fill_53178_3 : decode cJ7_fill_53178 3 = .ok (.arraylength, 1) := by decide +kernel
theorem dJ7_fill_53178_4 : decode cJ7_fill_53178 4 = .ok (.istore_n 3, 1) := by decide +kernel
theorem dJ7_fill_53178_5 : decode cJ7_fill_53178 5 = .ok (.iload_n 2, 1) := by decide +kernel
theorem dJ7_fill_53178_6 : decode cJ7_fill_53178 6 = .ok (.iload_n 3, 1) := by decide +kernel
theorem dJ7_fill_53178_7 : decode cJ7_fill_53178 7 = .ok (.if_icmp .ge 13, 3) := by decide +kernel
theorem dJ7_fill_53178_10 : decode cJ7_fill_53178 10 = .ok (.aload_n 0, 1) := by decide +kernel
theorem dJ7_fill_53178_11 : decode cJ7_fill_53178 11 = .ok (.iload_n 2, 1) := by decide +kernel
theorem dJ7_fill_53178_12 : decode cJ7_fill_53178 12 = .ok (.iload_n 1, 1) := by decide +kernel
theorem dJ7_fill_53178_13 : decode cJ7_fill_53178 13 = .ok (.iastore, 1) := by decide +kernel
theorem dJ7_fill_53178_14 : decode cJ7_fill_53178 14 = .ok (.iinc 2 1, 3) := by decide +kernel
theorem dJ7_fill_53178_17 : decode cJ7_fill_53178 17 = .ok (.goto (-12), 3) := by decide +kernel
theorem dJ7_fill_53178_20 : decode cJ7_fill_53178 20 = .ok (.return_, 1) := by decide +kernel
set_option maxRecDepth 20000 in
theorem ggJ7_fill_fda19_J7_rangeCheck_23922 : GoodIn wsJ7_fill_fda19 wsJ7_rangeCheck_23922 := goodIn_r _ [4] (by decide +kernel) (by decide +kernel)
set_option maxRecDepth 20000 in
theorem gJ7_fill_fda19_J7_rangeCheck_23922 : GoodIn wsJ7_fill_fda19 (va_wsS RJ7 13 yJ7_rangeCheck_23922 wsJ7_rangeCheck_23922) := goodIn_app (goodIn_of _ (by decide +kernel)) ggJ7_fill_fda19_J7_rangeCheck_23922
theorem dJ7_fill_fda19_0 : decode cJ7_fill_fda19 0 = .ok (.aload_n 0, 1) := by decide +kernel
theorem dJ7_fill_fda19_1 : decode cJ7_fill_fda19 1 = .ok (.arraylength, 1) := by decide +kernel
theorem dJ7_fill_fda19_2 : decode cJ7_fill_fda19 2 = .ok (.iload_n 1, 1) := by decide +kernel
theorem dJ7_fill_fda19_3 : decode cJ7_fill_fda19 3 = .ok (.iload_n 2, 1) := by decide +kernel
theorem dJ7_fill_fda19_4 : decode cJ7_fill_fda19 4 = .ok (.invokestatic 13, 3) := by decide +kernel
theorem dJ7_fill_fda19_7 : decode cJ7_fill_fda19 7 = .ok (.iload_n 1, 1) := by decide +kernel
theorem dJ7_fill_fda19_8 : decode cJ7_fill_fda19 8 = .ok (.istore 4, 2) := by decide +kernel
theorem dJ7_fill_fda19_10 : decode cJ7_fill_fda19 10 = .ok (.iload 4, 2) := by decide +kernel
theorem dJ7_fill_fda19_12 : decode cJ7_fill_fda19 12 = .ok (.iload_n 2, 1) := by decide +kernel
theorem dJ7_fill_fda19_13 : decode cJ7_fill_fda19 13 = .ok (.if_icmp .ge 14, 3) := by decide +kernel
theorem dJ7_fill_fda19_16 : decode cJ7_fill_fda19 16 = .ok (.aload_n 0, 1) := by decide +kernel
theorem dJ7_fill_fda19_17 : decode cJ7_fill_fda19 17 = .ok (.iload 4, 2) := by decide +kernel
theorem dJ7_fill_fda19_19 : decode cJ7_fill_fda19 19 = .ok (.iload_n 3, 1) := by decide +kernel
theorem dJ7_fill_fda19_20 : decode cJ7_fill_fda19 20 = .ok (.iastore, 1) := by decide +kernel
theorem dJ7_fill_fda19_21 : decode cJ7_fill_fda19 21 = .ok (.iinc 4 1, 3) := by decide +kernel
theorem dJ7_fill_fda19_24 : decode cJ7_fill_fda19 24 = .ok (.goto (-14), 3) := by decide +kernel
theorem dJ7_fill_fda19_27 : decode cJ7_fill_fda19 27 = .ok (.return_, 1) := by decide +kernel
set_option maxRecDepth 20000 in
theorem ggL_law_X5_init : GoodIn wsL_law wsX5_init := goodIn_r _ [8, 9, 10, 11, 12, 13, 14, 15, 16, 17, 18, 19, 20, 21, 22, 23, 24, 25, 26, 27, 28, 29, 30, 31, 32, 33, 34, 35, 36, 37, 38, 39, 40, 41, 42, 43, 44, 45, 46, 47, 48, 49, 50, 51, 52, 53, 54, 55, 56, 57, 58, 59, 60, 61, 62, 63, 64, 65, 66, 67, 68, 69, 70, 71, 72, 73, 74, 75, 76, 77, 78, 79, 80, 81, 82, 83, 84, 627, 628, 629, 630, 588, 589, 590, 591, 592, 631, 632, 633, 634, 635, 636, 637, 638, 639, 640, 641, 642, 643, 644, 645, 646, 647, 648, 649, 650, 651, 652, 653, 654, 655, 656, 657, 658, 659, 660, 661] (by decide +kernel) (by decide +kernel)
set_option maxRecDepth 20000 in
theorem gL_law_X5_init : GoodIn wsL_law (wsX5_init) := ggL_law_X5_init
set_option maxRecDepth 20000 in
theorem ggL_law_X6_init : GoodIn wsL_law wsX6_init := goodIn_r _ [87, 88, 10, 11, 28, 89, 55, 90, 91, 92, 93, 94, 95, 96, 97, 98, 99, 100, 101, 102, 103, 104, 105, 106, 107, 108, 109, 110, 111, 112, 113, 114, 115, 116, 117, 118, 119, 120, 121, 122, 5, 123, 124, 593, 594, 595, 596, 597, 598, 599, 600, 601, 602, 603, 604, 605, 606, 607, 608, 609, 610, 611, 612, 613, 614, 615, 616, 617, 618, 619, 620, 621, 622, 623, 624, 625, 626] (by decide +kernel) (by decide +kernel)
set_option maxRecDepth 20000 in
theorem gL_law_X6_init : GoodIn wsL_law (wsX6_init) := ggL_law_X6_init
set_option maxRecDepth 20000 in
theorem ggL_law_X5_act : GoodIn wsL_law wsX5_act := goodIn_r _ [128, 129, 130, 131, 2, 132, 21, 133, 134, 135, 136, 137, 138, 139, 140, 141, 142, 143, 144, 145, 146, 147, 148, 149, 150, 23, 151, 152, 66, 67, 68, 69, 634, 635, 636, 637, 638, 639, 640, 641, 642, 643, 644, 645, 646, 647, 648, 588, 589, 590, 591, 592] (by decide +kernel) (by decide +kernel)
set_option maxRecDepth 20000 in
theorem gL_law_X5_act : GoodIn wsL_law (wsV RL 13 RX5 yX5_act wsX5_act) := goodIn_app (goodIn_of _ (by decide +kernel)) ggL_law_X5_act
set_option maxRecDepth 20000 in
theorem ggL_law_X6_act : GoodIn wsL_law wsX6_act := goodIn_r _ [156, 104, 95, 96, 97, 98, 99, 157, 158, 5, 159, 160, 161, 162, 163, 164, 165, 166, 167, 168, 169, 170, 171, 593, 594, 595, 596, 597, 598, 599, 600, 601, 602, 603, 604, 605, 606, 607, 608, 609, 610, 611, 612, 613, 614, 615, 616, 617, 618, 619, 620, 621, 622, 623, 624, 625, 626] (by decide +kernel) (by decide +kernel)
set_option maxRecDepth 20000 in
theorem gL_law_X6_act : GoodIn wsL_law (wsV RL 17 RX6 yX6_act wsX6_act) := goodIn_app (goodIn_of _ (by decide +kernel)) ggL_law_X6_act
set_option maxRecDepth 20000 in
theorem ggL_law_X5_turn : GoodIn wsL_law wsX5_turn := goodIn_r _ [175, 176, 129, 130, 131, 2, 132, 21, 177, 178, 179, 23, 180, 181, 182, 152, 183, 75, 184, 185, 186, 187, 188, 189, 190, 191, 192, 19, 15, 193, 194, 195, 196, 197, 198, 199, 200, 201, 202, 203, 204, 205, 206, 14, 207, 30, 140, 141, 208, 209, 210, 74, 211, 81, 212, 213, 214, 215, 216, 217, 218, 219, 220, 29, 221, 222, 223, 224, 225, 226, 227, 228, 31, 229, 230, 231, 232, 35, 233, 234, 235, 236, 237, 238, 239, 34, 240, 241, 39, 40, 41, 242, 243, 244, 245, 246, 82, 247, 248, 249, 250, 251, 83, 84, 252, 253, 254, 255, 70, 137, 138, 256, 257, 258, 259, 260, 261, 262, 263, 264, 265, 266, 267, 268, 269, 270, 271, 272, 273, 274, 275, 18, 276, 277, 278, 279, 280, 54, 143, 144, 281, 282, 283, 284, 285, 286, 287, 288, 57, 289, 290, 291, 292, 293, 294, 295, 296, 297, 56, 298, 299, 300, 301, 302, 303, 304, 305, 306, 307, 308, 309, 310, 311, 312, 313, 314, 315, 316, 317, 318, 319, 320, 321, 322, 323, 324, 325, 326, 327, 328, 329, 330, 331, 332, 333, 334, 335, 336, 337, 48, 338, 339, 340, 341, 342, 343, 344, 345, 346, 347, 348, 349, 350, 351, 352, 353, 354, 355, 356, 357, 358, 359, 360, 361, 362, 363, 364, 365, 366, 367, 71, 368, 369, 370, 371, 372, 373, 374, 375, 588, 589, 590, 591, 592, 634, 635, 636, 637, 638, 639, 640, 641, 642, 643, 644, 645, 646, 647, 648, 654, 655, 656, 657, 658, 659, 660, 661, 627, 628, 629, 630, 649, 650, 651, 652, 653, 631, 632, 633] (by decide +kernel) (by decide +kernel)
set_option maxRecDepth 20000 in
theorem gL_law_X5_turn : GoodIn wsL_law (wsV RL 18 RX5 yX5_turn wsX5_turn) := goodIn_app (goodIn_of _ (by decide +kernel)) ggL_law_X5_turn
set_option maxRecDepth 20000 in
theorem ggL_law_X6_turn : GoodIn wsL_law wsX6_turn := goodIn_r _ [379, 380, 157, 158, 5, 159, 381, 382, 383, 384, 103, 101, 95, 106, 108, 385, 386, 387, 388, 389, 104, 390, 391, 392, 393, 96, 97, 98, 99, 107, 109, 394, 395, 396, 397, 100, 398, 399, 400, 401, 114, 115, 90, 112, 113, 89, 402, 403, 404, 405, 91, 119, 406, 407, 408, 409, 410, 411, 412, 413, 116, 124, 117, 118, 414, 415, 416, 417, 418, 419, 420, 421, 422, 423, 424, 425, 426, 427, 428, 429, 430, 431, 432, 433, 110, 111, 434, 435, 436, 437, 438, 439, 440, 441, 105, 442, 443, 444, 445, 93, 94, 92, 446, 447, 448, 449, 450, 451, 452, 453, 102, 593, 594, 595, 596, 597, 598, 599, 600, 601, 602, 603, 604, 605, 606, 607, 608, 609, 610, 611, 612, 613, 614, 615, 616, 617, 618, 619, 620, 621, 622, 623, 624, 625, 626] (by decide +kernel) (by decide +kernel)
set_option maxRecDepth 20000 in
theorem gL_law_X6_turn : GoodIn wsL_law (wsV RL 22 RX6 yX6_turn wsX6_turn) := goodIn_app (goodIn_of _ (by decide +kernel)) ggL_law_X6_turn
set_option maxRecDepth 20000 in
theorem ggL_law_X5_play : GoodIn wsL_law wsX5_play := goodIn_r _ [457, 458, 176, 459, 460, 461, 2, 462, 21, 463, 464, 465, 466, 129, 130, 131, 132, 177, 178, 179, 23, 180, 181, 182, 152, 183, 75, 184, 185, 186, 187, 188, 189, 190, 191, 192, 19, 15, 193, 194, 195, 196, 197, 198, 199, 200, 201, 202, 203, 204, 205, 206, 14, 207, 30, 140, 141, 208, 209, 210, 74, 211, 81, 212, 213, 214, 215, 216, 217, 218, 219, 220, 29, 221, 222, 223, 224, 225, 226, 227, 228, 31, 229, 230, 231, 232, 35, 233, 234, 235, 236, 237, 238, 239, 34, 240, 241, 39, 40, 41, 242, 243, 244, 245, 246, 82, 247, 248, 249, 250, 251, 83, 84, 252, 253, 254, 255, 70, 137, 138, 256, 257, 258, 259, 260, 261, 262, 263, 264, 265, 266, 267, 268, 269, 270, 271, 272, 273, 274, 275, 18, 276, 277, 278, 279, 280, 54, 143, 144, 281, 282, 283, 284, 285, 286, 287, 288, 57, 289, 290, 291, 292, 293, 294, 295, 296, 297, 56, 298, 299, 300, 301, 302, 303, 304, 305, 306, 307, 308, 309, 310, 311, 312, 313, 314, 315, 316, 317, 318, 319, 320, 321, 322, 323, 324, 325, 326, 327, 328, 329, 330, 331, 332, 333, 334, 335, 336, 337, 48, 338, 339, 340, 341, 342, 343, 344, 345, 346, 347, 348, 349, 350, 351, 352, 353, 354, 355, 356, 357, 358, 359, 360, 361, 362, 363, 364, 365, 366, 367, 71, 368, 369, 370, 371, 372, 373, 374, 375, 588, 589, 590, 591, 592, 634, 635, 636, 637, 638, 639, 640, 641, 642, 643, 644, 645, 646, 647, 648, 654, 655, 656, 657, 658, 659, 660, 661, 627, 628, 629, 630, 649, 650, 651, 652, 653, 631, 632, 633] (by decide +kernel) (by decide +kernel)
set_option maxRecDepth 20000 in
theorem gL_law_X5_play : GoodIn wsL_law (wsV RL 23 RX5 yX5_play wsX5_play) := goodIn_app (goodIn_of _ (by decide +kernel)) ggL_law_X5_play
set_option maxRecDepth 20000 in
theorem ggL_law_X6_play : GoodIn wsL_law wsX6_play := goodIn_r _ [470, 380, 471, 157, 158, 5, 159, 381, 382, 383, 384, 103, 101, 95, 106, 108, 385, 386, 387, 388, 389, 104, 390, 391, 392, 393, 96, 97, 98, 99, 107, 109, 394, 395, 396, 397, 100, 398, 399, 400, 401, 114, 115, 90, 112, 113, 89, 402, 403, 404, 405, 91, 119, 406, 407, 408, 409, 410, 411, 412, 413, 116, 124, 117, 118, 414, 415, 416, 417, 418, 419, 420, 421, 422, 423, 424, 425, 426, 427, 428, 429, 430, 431, 432, 433, 110, 111, 434, 435, 436, 437, 438, 439, 440, 441, 105, 442, 443, 444, 445, 93, 94, 92, 446, 447, 448, 449, 450, 451, 452, 453, 102, 593, 594, 595, 596, 597, 598, 599, 600, 601, 602, 603, 604, 605, 606, 607, 608, 609, 610, 611, 612, 613, 614, 615, 616, 617, 618, 619, 620, 621, 622, 623, 624, 625, 626] (by decide +kernel) (by decide +kernel)
set_option maxRecDepth 20000 in
theorem gL_law_X6_play : GoodIn wsL_law (wsV RL 27 RX6 yX6_play wsX6_play) := goodIn_app (goodIn_of _ (by decide +kernel)) ggL_law_X6_play
set_option maxRecDepth 20000 in
theorem ggL_law_X5_told : GoodIn wsL_law wsX5_told := goodIn_r _ [475, 129, 130, 131, 2, 132, 21, 177, 178, 179, 23, 180, 181, 182, 152, 183, 75, 634, 635, 636, 637, 638, 639, 640, 641, 642, 643, 644, 645, 646, 647, 648, 654, 655, 656, 657, 658, 659, 660, 661, 588, 589, 590, 591, 592] (by decide +kernel) (by decide +kernel)
set_option maxRecDepth 20000 in
theorem gL_law_X5_told : GoodIn wsL_law (wsV RL 28 RX5 yX5_told wsX5_told) := goodIn_app (goodIn_of _ (by decide +kernel)) ggL_law_X5_told
set_option maxRecDepth 20000 in
theorem ggL_law_X6_told : GoodIn wsL_law wsX6_told := goodIn_r _ [479, 101, 102, 106, 108, 104, 105, 157, 158, 5, 159, 381, 382, 383, 384, 103, 95, 593, 594, 595, 596, 597, 598, 599, 600, 601, 602, 603, 604, 605, 606, 607, 608, 609, 610, 611, 612, 613, 614, 615, 616, 617, 618, 619, 620, 621, 622, 623, 624, 625, 626] (by decide +kernel) (by decide +kernel)
set_option maxRecDepth 20000 in
theorem gL_law_X6_told : GoodIn wsL_law (wsV RL 31 RX6 yX6_told wsX6_told) := goodIn_app (goodIn_of _ (by decide +kernel)) ggL_law_X6_told
set_option maxRecDepth 20000 in
theorem ggL_law_X5_register : GoodIn wsL_law wsX5_register := goodIn_r _ [483, 129, 130, 131, 2, 132, 21, 136, 137, 138, 256, 257, 258, 23, 259, 70, 588, 589, 590, 591, 592, 634, 635, 636, 637, 638, 639, 640, 641, 642, 643, 644, 645, 646, 647, 648] (by decide +kernel) (by decide +kernel)
set_option maxRecDepth 20000 in
theorem gL_law_X5_register : GoodIn wsL_law (wsV RL 32 RX5 yX5_register wsX5_register) := goodIn_app (goodIn_of _ (by decide +kernel)) ggL_law_X5_register
set_option maxRecDepth 20000 in
theorem ggL_law_X6_register : GoodIn wsL_law wsX6_register := goodIn_r _ [487, 157, 158, 5, 159, 163, 164, 165, 414, 415, 416, 417, 100, 593, 594, 595, 596, 597, 598, 599, 600, 601, 602, 603, 604, 605, 606, 607, 608, 609, 610, 611, 612, 613, 614, 615, 616, 617, 618, 619, 620, 621, 622, 623, 624, 625, 626] (by decide +kernel) (by decide +kernel)
set_option maxRecDepth 20000 in
theorem gL_law_X6_register : GoodIn wsL_law (wsV RL 35 RX6 yX6_register wsX6_register) := goodIn_app (goodIn_of _ (by decide +kernel)) ggL_law_X6_register
set_option maxRecDepth 20000 in
theorem ggL_law_X5_cell : GoodIn wsL_law wsX5_cell := goodIn_r _ [491, 15, 139, 140, 2, 141, 247, 218, 219, 14, 220, 30, 29, 588, 589, 590, 591, 592, 627, 628, 629, 630] (by decide +kernel) (by decide +kernel)
set_option maxRecDepth 20000 in
theorem gL_law_X5_cell : GoodIn wsL_law (wsV RL 36 RX5 yX5_cell wsX5_cell) := goodIn_app (goodIn_of _ (by decide +kernel)) ggL_law_X5_cell
set_option maxRecDepth 20000 in
theorem ggL_law_X6_cell : GoodIn wsL_law wsX6_cell := goodIn_r _ [495, 89, 166, 167, 5, 168, 157, 158, 159, 593, 594, 595, 596, 597, 598, 599, 600, 601, 602, 603, 604, 605, 606, 607, 608, 609, 610, 611, 612, 613, 614, 615, 616, 617, 618, 619, 620, 621, 622, 623, 624, 625, 626] (by decide +kernel) (by decide +kernel)
set_option maxRecDepth 20000 in
theorem gL_law_X6_cell : GoodIn wsL_law (wsV RL 39 RX6 yX6_cell wsX6_cell) := goodIn_app (goodIn_of _ (by decide +kernel)) ggL_law_X6_cell
set_option maxRecDepth 20000 in
theorem ggL_law_X5_lazy : GoodIn wsL_law wsX5_lazy := goodIn_r _ [499, 15, 139, 140, 2, 141, 204, 205, 206, 14, 207, 30, 588, 589, 590, 591, 592, 627, 628, 629, 630] (by decide +kernel) (by decide +kernel)
set_option maxRecDepth 20000 in
theorem gL_law_X5_lazy : GoodIn wsL_law (wsV RL 40 RX5 yX5_lazy wsX5_lazy) := goodIn_app (goodIn_of _ (by decide +kernel)) ggL_law_X5_lazy
set_option maxRecDepth 20000 in
theorem ggL_law_X6_lazy : GoodIn wsL_law wsX6_lazy := goodIn_r _ [503, 90, 166, 167, 5, 168, 157, 158, 159, 593, 594, 595, 596, 597, 598, 599, 600, 601, 602, 603, 604, 605, 606, 607, 608, 609, 610, 611, 612, 613, 614, 615, 616, 617, 618, 619, 620, 621, 622, 623, 624, 625, 626] (by decide +kernel) (by decide +kernel)
set_option maxRecDepth 20000 in
theorem gL_law_X6_lazy : GoodIn wsL_law (wsV RL 43 RX6 yX6_lazy wsX6_lazy) := goodIn_app (goodIn_of _ (by decide +kernel)) ggL_law_X6_lazy
set_option maxRecDepth 20000 in
theorem ggL_law_X5_size : GoodIn wsL_law wsX5_size := goodIn_r _ [507, 19, 142, 143, 2, 144, 508, 278, 279, 18, 280, 54, 588, 589, 590, 591, 592, 631, 632, 633] (by decide +kernel) (by decide +kernel)
set_option maxRecDepth 20000 in
theorem gL_law_X5_size : GoodIn wsL_law (wsV RL 44 RX5 yX5_size wsX5_size) := goodIn_app (goodIn_of _ (by decide +kernel)) ggL_law_X5_size
set_option maxRecDepth 20000 in
theorem ggL_law_X6_size : GoodIn wsL_law wsX6_size := goodIn_r _ [512, 92, 157, 158, 5, 159, 593, 594, 595, 596, 597, 598, 599, 600, 601, 602, 603, 604, 605, 606, 607, 608, 609, 610, 611, 612, 613, 614, 615, 616, 617, 618, 619, 620, 621, 622, 623, 624, 625, 626] (by decide +kernel) (by decide +kernel)
set_option maxRecDepth 20000 in
theorem gL_law_X6_size : GoodIn wsL_law (wsV RL 47 RX6 yX6_size wsX6_size) := goodIn_app (goodIn_of _ (by decide +kernel)) ggL_law_X6_size
set_option maxRecDepth 20000 in
theorem ggL_law_X5_item : GoodIn wsL_law wsX5_item := goodIn_r _ [516, 19, 142, 143, 2, 144, 285, 286, 287, 18, 288, 57, 281, 282, 283, 284, 54, 588, 589, 590, 591, 592, 631, 632, 633] (by decide +kernel) (by decide +kernel)
set_option maxRecDepth 20000 in
theorem gL_law_X5_item : GoodIn wsL_law (wsV RL 48 RX5 yX5_item wsX5_item) := goodIn_app (goodIn_of _ (by decide +kernel)) ggL_law_X5_item
set_option maxRecDepth 20000 in
theorem ggL_law_X6_item : GoodIn wsL_law wsX6_item := goodIn_r _ [520, 92, 93, 157, 158, 5, 159, 593, 594, 595, 596, 597, 598, 599, 600, 601, 602, 603, 604, 605, 606, 607, 608, 609, 610, 611, 612, 613, 614, 615, 616, 617, 618, 619, 620, 621, 622, 623, 624, 625, 626] (by decide +kernel) (by decide +kernel)
set_option maxRecDepth 20000 in
theorem gL_law_X6_item : GoodIn wsL_law (wsV RL 51 RX6 yX6_item wsX6_item) := goodIn_app (goodIn_of _ (by decide +kernel)) ggL_law_X6_item
set_option maxRecDepth 20000 in
theorem ggL_law_X5_frozen : GoodIn wsL_law wsX5_frozen := goodIn_r _ [524, 19, 142, 143, 2, 144, 525, 295, 296, 18, 297, 56, 588, 589, 590, 591, 592, 631, 632, 633] (by decide +kernel) (by decide +kernel)
set_option maxRecDepth 20000 in
theorem gL_law_X5_frozen : GoodIn wsL_law (wsV RL 52 RX5 yX5_frozen wsX5_frozen) := goodIn_app (goodIn_of _ (by decide +kernel)) ggL_law_X5_frozen
set_option maxRecDepth 20000 in
theorem ggL_law_X6_frozen : GoodIn wsL_law wsX6_frozen := goodIn_r _ [529, 94, 157, 158, 5, 159, 593, 594, 595, 596, 597, 598, 599, 600, 601, 602, 603, 604, 605, 606, 607, 608, 609, 610, 611, 612, 613, 614, 615, 616, 617, 618, 619, 620, 621, 622, 623, 624, 625, 626] (by decide +kernel) (by decide +kernel)
set_option maxRecDepth 20000 in
theorem gL_law_X6_frozen : GoodIn wsL_law (wsV RL 55 RX6 yX6_frozen wsX6_frozen) := goodIn_app (goodIn_of _ (by decide +kernel)) ggL_law_X6_frozen
set_option maxRecDepth 20000 in
theorem ggL_law_X5_put : GoodIn wsL_law wsX5_put := goodIn_r _ [533, 15, 139, 140, 2, 141, 247, 218, 219, 14, 220, 30, 29, 534, 234, 235, 236, 588, 589, 590, 591, 592, 627, 628, 629, 630] (by decide +kernel) (by decide +kernel)
set_option maxRecDepth 20000 in
theorem gL_law_X5_put : GoodIn wsL_law (wsV RL 56 RX5 yX5_put wsX5_put) := goodIn_app (goodIn_of _ (by decide +kernel)) ggL_law_X5_put
set_option maxRecDepth 20000 in
theorem ggL_law_X6_put : GoodIn wsL_law wsX6_put := goodIn_r _ [538, 89, 90, 166, 167, 5, 168, 157, 158, 159, 593, 594, 595, 596, 597, 598, 599, 600, 601, 602, 603, 604, 605, 606, 607, 608, 609, 610, 611, 612, 613, 614, 615, 616, 617, 618, 619, 620, 621, 622, 623, 624, 625, 626] (by decide +kernel) (by decide +kernel)
set_option maxRecDepth 20000 in
theorem gL_law_X6_put : GoodIn wsL_law (wsV RL 59 RX6 yX6_put wsX6_put) := goodIn_app (goodIn_of _ (by decide +kernel)) ggL_law_X6_put
set_option maxRecDepth 20000 in
theorem ggL_law_X5_writes : GoodIn wsL_law wsX5_writes := goodIn_r _ [542, 15, 588, 589, 590, 591, 592, 627, 628, 629, 630, 649, 650, 651, 652, 653] (by decide +kernel) (by decide +kernel)
set_option maxRecDepth 20000 in
theorem gL_law_X5_writes : GoodIn wsL_law (wsV RL 60 RX5 yX5_writes wsX5_writes) := goodIn_app (goodIn_of _ (by decide +kernel)) ggL_law_X5_writes
set_option maxRecDepth 20000 in
theorem ggL_law_X6_writes : GoodIn wsL_law wsX6_writes := goodIn_r _ [546, 124, 593, 594, 595, 596, 597, 598, 599, 600, 601, 602, 603, 604, 605, 606, 607, 608, 609, 610, 611, 612, 613, 614, 615, 616, 617, 618, 619, 620, 621, 622, 623, 624, 625, 626] (by decide +kernel) (by decide +kernel)
set_option maxRecDepth 20000 in
theorem gL_law_X6_writes : GoodIn wsL_law (wsV RL 64 RX6 yX6_writes wsX6_writes) := goodIn_app (goodIn_of _ (by decide +kernel)) ggL_law_X6_writes
set_option maxRecDepth 20000 in
theorem ggL_law_X5_write : GoodIn wsL_law wsX5_write := goodIn_r _ [550, 15, 551, 552, 553, 34, 554, 242, 241, 39, 40, 41, 588, 589, 590, 591, 592, 627, 628, 629, 630, 649, 650, 651, 652, 653] (by decide +kernel) (by decide +kernel)
set_option maxRecDepth 20000 in
theorem gL_law_X5_write : GoodIn wsL_law (wsV RL 65 RX5 yX5_write wsX5_write) := goodIn_app (goodIn_of _ (by decide +kernel)) ggL_law_X5_write
set_option maxRecDepth 20000 in
theorem ggL_law_X6_write_ : GoodIn wsL_law wsX6_write_ := goodIn_r _ [558, 124, 116, 117, 118, 157, 158, 5, 159, 593, 594, 595, 596, 597, 598, 599, 600, 601, 602, 603, 604, 605, 606, 607, 608, 609, 610, 611, 612, 613, 614, 615, 616, 617, 618, 619, 620, 621, 622, 623, 624, 625, 626] (by decide +kernel) (by decide +kernel)
set_option maxRecDepth 20000 in
theorem gL_law_X6_write_ : GoodIn wsL_law (wsV RL 68 RX6 yX6_write_ wsX6_write_) := goodIn_app (goodIn_of _ (by decide +kernel)) ggL_law_X6_write_
set_option maxRecDepth 20000 in
theorem ggL_law_X5_again : GoodIn wsL_law wsX5_again := goodIn_r _ [562, 563, 564, 565, 2, 566, 188, 15, 19, 21, 567, 43, 44, 14, 45, 29, 30, 35, 46, 47, 48, 49, 568, 59, 60, 18, 61, 54, 56, 129, 130, 131, 132, 569, 570, 571, 23, 572, 152, 70, 183, 75, 182, 181, 573, 322, 574, 588, 589, 590, 591, 592, 627, 628, 629, 630, 649, 650, 651, 652, 653, 631, 632, 633, 634, 635, 636, 637, 638, 639, 640, 641, 642, 643, 644, 645, 646, 647, 648, 654, 655, 656, 657, 658, 659, 660, 661] (by decide +kernel) (by decide +kernel)
set_option maxRecDepth 20000 in
theorem gL_law_X5_again : GoodIn wsL_law (wsV RL 69 RX5 yX5_again wsX5_again) := goodIn_app (goodIn_of _ (by decide +kernel)) ggL_law_X5_again
set_option maxRecDepth 20000 in
theorem ggL_law_X6_again : GoodIn wsL_law wsX6_again := goodIn_r _ [578, 104, 120, 121, 122, 5, 123, 89, 90, 91, 92, 94, 101, 102, 103, 105, 106, 108, 100, 124, 593, 594, 595, 596, 597, 598, 599, 600, 601, 602, 603, 604, 605, 606, 607, 608, 609, 610, 611, 612, 613, 614, 615, 616, 617, 618, 619, 620, 621, 622, 623, 624, 625, 626] (by decide +kernel) (by decide +kernel)
set_option maxRecDepth 20000 in
theorem gL_law_X6_again : GoodIn wsL_law (wsV RL 72 RX6 yX6_again wsX6_again) := goodIn_app (goodIn_of _ (by decide +kernel)) ggL_law_X6_again
set_option maxRecDepth 20000 in
theorem ggL_law_X5_clear : GoodIn wsL_law wsX5_clear := goodIn_r _ [582, 563, 564, 565, 2, 566, 188, 15, 19, 21, 567, 43, 44, 14, 45, 29, 30, 35, 46, 47, 48, 49, 568, 59, 60, 18, 61, 54, 56, 129, 130, 131, 132, 569, 570, 571, 23, 572, 152, 70, 183, 75, 182, 181, 573, 322, 574, 588, 589, 590, 591, 592, 627, 628, 629, 630, 649, 650, 651, 652, 653, 631, 632, 633, 634, 635, 636, 637, 638, 639, 640, 641, 642, 643, 644, 645, 646, 647, 648, 654, 655, 656, 657, 658, 659, 660, 661] (by decide +kernel) (by decide +kernel)
set_option maxRecDepth 20000 in
theorem gL_law_X5_clear : GoodIn wsL_law (wsV RL 73 RX5 yX5_clear wsX5_clear) := goodIn_app (goodIn_of _ (by decide +kernel)) ggL_law_X5_clear
set_option maxRecDepth 20000 in
theorem ggL_law_X6_clear : GoodIn wsL_law wsX6_clear := goodIn_r _ [586, 95, 587, 576, 577, 5, 578, 104, 120, 121, 122, 123, 89, 90, 91, 92, 94, 101, 102, 103, 105, 106, 108, 100, 124, 593, 594, 595, 596, 597, 598, 599, 600, 601, 602, 603, 604, 605, 606, 607, 608, 609, 610, 611, 612, 613, 614, 615, 616, 617, 618, 619, 620, 621, 622, 623, 624, 625, 626] (by decide +kernel) (by decide +kernel)
set_option maxRecDepth 20000 in
theorem gL_law_X6_clear : GoodIn wsL_law (wsV RL 76 RX6 yX6_clear wsX6_clear) := goodIn_app (goodIn_of _ (by decide +kernel)) ggL_law_X6_clear
theorem dL_law_0 : decode cL_law 0 = .ok (.new 7, 3) := by decide +kernel
theorem dL_law_3 : decode cL_law 3 = .ok (.dup, 1) := by decide +kernel
theorem dL_law_4 : decode cL_law 4 = .ok (.invokespecial 9, 3) := by decide +kernel
theorem dL_law_7 : decode cL_law 7 = .ok (.astore_n 1, 1) := by decide +kernel
theorem dL_law_8 : decode cL_law 8 = .ok (.new 10, 3) := by decide +kernel
theorem dL_law_11 : decode cL_law 11 = .ok (.dup, 1) := by decide +kernel
theorem dL_law_12 : decode cL_law 12 = .ok (.invokespecial 12, 3) := by decide +kernel
theorem dL_law_15 : decode cL_law 15 = .ok (.astore_n 2, 1) := by decide +kernel
theorem dL_law_16 : decode cL_law 16 = .ok (.iconst 0, 1) := by decide +kernel
theorem dL_law_17 : decode cL_law 17 = .ok (.istore_n 3, 1) := by decide +kernel
theorem dL_law_18 : decode cL_law 18 = .ok (.iload_n 3, 1) := by decide +kernel
theorem dL_law_19 : decode cL_law 19 = .ok (.aload_n 0, 1) := by decide +kernel
theorem dL_law_20 : decode cL_law 20 = .ok (.arraylength, 1) := by decide +kernel
theorem dL_law_21 : decode cL_law 21 = .ok (.bipush 6, 2) := by decide +kernel
theorem dL_law_23 : decode cL_law 23 = .ok (.isub, 1) := by decide +kernel
theorem dL_law_24 : decode cL_law 24 = .ok (.if_icmp .gt 505, 3) := by decide +kernel
theorem dL_law_27 : decode cL_law 27 = .ok (.aload_n 0, 1) := by decide +kernel
theorem dL_law_28 : decode cL_law 28 = .ok (.iload_n 3, 1) := by decide +kernel
theorem dL_law_29 : decode cL_law 29 = .ok (.iaload, 1) := by decide +kernel
theorem dL_law_30 : decode cL_law 30 = .ok (.bipush 15, 2) := by decide +kernel
theorem dL_law_32 : decode cL_law 32 = .ok (.iand, 1) := by decide +kernel
theorem dL_law_33 : decode cL_law 33 = .ok (.tableswitch 490 0 14 #[75, 138, 161, 194, 227, 260, 283, 306, 329, 362, 385, 418, 431, 464, 477], 75) := by decide +kernel
theorem dL_law_108 : decode cL_law 108 = .ok (.aload_n 1, 1) := by decide +kernel
theorem dL_law_109 : decode cL_law 109 = .ok (.aload_n 0, 1) := by decide +kernel
theorem dL_law_110 : decode cL_law 110 = .ok (.iload_n 3, 1) := by decide +kernel
theorem dL_law_111 : decode cL_law 111 = .ok (.iconst 1, 1) := by decide +kernel
theorem dL_law_112 : decode cL_law 112 = .ok (.iadd, 1) := by decide +kernel
theorem dL_law_113 : decode cL_law 113 = .ok (.iaload, 1) := by decide +kernel
theorem dL_law_114 : decode cL_law 114 = .ok (.aload_n 0, 1) := by decide +kernel
theorem dL_law_115 : decode cL_law 115 = .ok (.iload_n 3, 1) := by decide +kernel
theorem dL_law_116 : decode cL_law 116 = .ok (.iconst 2, 1) := by decide +kernel
theorem dL_law_117 : decode cL_law 117 = .ok (.iadd, 1) := by decide +kernel
theorem dL_law_118 : decode cL_law 118 = .ok (.iaload, 1) := by decide +kernel
theorem dL_law_119 : decode cL_law 119 = .ok (.aload_n 0, 1) := by decide +kernel
theorem dL_law_120 : decode cL_law 120 = .ok (.iload_n 3, 1) := by decide +kernel
theorem dL_law_121 : decode cL_law 121 = .ok (.iconst 3, 1) := by decide +kernel
theorem dL_law_122 : decode cL_law 122 = .ok (.iadd, 1) := by decide +kernel
theorem dL_law_123 : decode cL_law 123 = .ok (.iaload, 1) := by decide +kernel
theorem dL_law_124 : decode cL_law 124 = .ok (.aload_n 0, 1) := by decide +kernel
theorem dL_law_125 : decode cL_law 125 = .ok (.iload_n 3, 1) := by decide +kernel
theorem dL_law_126 : decode cL_law 126 = .ok (.iconst 4, 1) := by decide +kernel
theorem dL_law_127 : decode cL_law 127 = .ok (.iadd, 1) := by decide +kernel
theorem dL_law_128 : decode cL_law 128 = .ok (.iaload, 1) := by decide +kernel
theorem dL_law_129 : decode cL_law 129 = .ok (.aload_n 0, 1) := by decide +kernel
theorem dL_law_130 : decode cL_law 130 = .ok (.iload_n 3, 1) := by decide +kernel
theorem dL_law_131 : decode cL_law 131 = .ok (.iconst 5, 1) := by decide +kernel
theorem dL_law_132 : decode cL_law 132 = .ok (.iadd, 1) := by decide +kernel
theorem dL_law_133 : decode cL_law 133 = .ok (.iaload, 1) := by decide +kernel
theorem dL_law_134 : decode cL_law 134 = .ok (.invokevirtual 13, 3) := by decide +kernel
theorem dL_law_137 : decode cL_law 137 = .ok (.aload_n 2, 1) := by decide +kernel
theorem dL_law_138 : decode cL_law 138 = .ok (.aload_n 0, 1) := by decide +kernel
theorem dL_law_139 : decode cL_law 139 = .ok (.iload_n 3, 1) := by decide +kernel
theorem dL_law_140 : decode cL_law 140 = .ok (.iconst 1, 1) := by decide +kernel
theorem dL_law_141 : decode cL_law 141 = .ok (.iadd, 1) := by decide +kernel
theorem dL_law_142 : decode cL_law 142 = .ok (.iaload, 1) := by decide +kernel
theorem dL_law_143 : decode cL_law 143 = .ok (.aload_n 0, 1) := by decide +kernel
theorem dL_law_144 : decode cL_law 144 = .ok (.iload_n 3, 1) := by decide +kernel
theorem dL_law_145 : decode cL_law 145 = .ok (.iconst 2, 1) := by decide +kernel
theorem dL_law_146 : decode cL_law 146 = .ok (.iadd, 1) := by decide +kernel
theorem dL_law_147 : decode cL_law 147 = .ok (.iaload, 1) := by decide +kernel
theorem dL_law_148 : decode cL_law 148 = .ok (.aload_n 0, 1) := by decide +kernel
theorem dL_law_149 : decode cL_law 149 = .ok (.iload_n 3, 1) := by decide +kernel
theorem dL_law_150 : decode cL_law 150 = .ok (.iconst 3, 1) := by decide +kernel
theorem dL_law_151 : decode cL_law 151 = .ok (.iadd, 1) := by decide +kernel
theorem dL_law_152 : decode cL_law 152 = .ok (.iaload, 1) := by decide +kernel
theorem dL_law_153 : decode cL_law 153 = .ok (.aload_n 0, 1) := by decide +kernel
theorem dL_law_154 : decode cL_law 154 = .ok (.iload_n 3, 1) := by decide +kernel
theorem dL_law_155 : decode cL_law 155 = .ok (.iconst 4, 1) := by decide +kernel
theorem dL_law_156 : decode cL_law 156 = .ok (.iadd, 1) := by decide +kernel
theorem dL_law_157 : decode cL_law 157 = .ok (.iaload, 1) := by decide +kernel
theorem dL_law_158 : decode cL_law 158 = .ok (.aload_n 0, 1) := by decide +kernel
theorem dL_law_159 : decode cL_law 159 = .ok (.iload_n 3, 1) := by decide +kernel
theorem dL_law_160 : decode cL_law 160 = .ok (.iconst 5, 1) := by decide +kernel
theorem dL_law_161 : decode cL_law 161 = .ok (.iadd, 1) := by decide +kernel
theorem dL_law_162 : decode cL_law 162 = .ok (.iaload, 1) := by decide +kernel
theorem dL_law_163 : decode cL_law 163 = .ok (.invokevirtual 17, 3) := by decide +kernel
theorem dL_law_166 : decode cL_law 166 = .ok (.if_icmp .eq 357, 3) := by decide +kernel
theorem dL_law_169 : decode cL_law 169 = .ok (.iconst 0, 1) := by decide +kernel
theorem dL_law_170 : decode cL_law 170 = .ok (.ireturn, 1) := by decide +kernel
theorem dL_law_171 : decode cL_law 171 = .ok (.aload_n 1, 1) := by decide +kernel
theorem dL_law_172 : decode cL_law 172 = .ok (.aload_n 0, 1) := by decide +kernel
theorem dL_law_173 : decode cL_law 173 = .ok (.iload_n 3, 1) := by decide +kernel
theorem dL_law_174 : decode cL_law 174 = .ok (.iconst 1, 1) := by decide +kernel
theorem dL_law_175 : decode cL_law 175 = .ok (.iadd, 1) := by decide +kernel
theorem dL_law_176 : decode cL_law 176 = .ok (.iaload, 1) := by decide +kernel
theorem dL_law_177 : decode cL_law 177 = .ok (.invokevirtual 18, 3) := by decide +kernel
theorem dL_law_180 : decode cL_law 180 = .ok (.aload_n 2, 1) := by decide +kernel
theorem dL_law_181 : decode cL_law 181 = .ok (.aload_n 0, 1) := by decide +kernel
theorem dL_law_182 : decode cL_law 182 = .ok (.iload_n 3, 1) := by decide +kernel
theorem dL_law_183 : decode cL_law 183 = .ok (.iconst 1, 1) := by decide +kernel
theorem dL_law_184 : decode cL_law 184 = .ok (.iadd, 1) := by decide +kernel
theorem dL_law_185 : decode cL_law 185 = .ok (.iaload, 1) := by decide +kernel
theorem dL_law_186 : decode cL_law 186 = .ok (.invokevirtual 22, 3) := by decide +kernel
theorem dL_law_189 : decode cL_law 189 = .ok (.if_icmp .eq 334, 3) := by decide +kernel
theorem dL_law_192 : decode cL_law 192 = .ok (.iconst 0, 1) := by decide +kernel
theorem dL_law_193 : decode cL_law 193 = .ok (.ireturn, 1) := by decide +kernel
theorem dL_law_194 : decode cL_law 194 = .ok (.aload_n 1, 1) := by decide +kernel
theorem dL_law_195 : decode cL_law 195 = .ok (.aload_n 0, 1) := by decide +kernel
theorem dL_law_196 : decode cL_law 196 = .ok (.iload_n 3, 1) := by decide +kernel
theorem dL_law_197 : decode cL_law 197 = .ok (.iconst 1, 1) := by decide +kernel
theorem dL_law_198 : decode cL_law 198 = .ok (.iadd, 1) := by decide +kernel
theorem dL_law_199 : decode cL_law 199 = .ok (.iaload, 1) := by decide +kernel
theorem dL_law_200 : decode cL_law 200 = .ok (.aload_n 0, 1) := by decide +kernel
theorem dL_law_201 : decode cL_law 201 = .ok (.iload_n 3, 1) := by decide +kernel
theorem dL_law_202 : decode cL_law 202 = .ok (.iconst 2, 1) := by decide +kernel
theorem dL_law_203 : decode cL_law 203 = .ok (.iadd, 1) := by decide +kernel
theorem dL_law_204 : decode cL_law 204 = .ok (.iaload, 1) := by decide +kernel
theorem dL_law_205 : decode cL_law 205 = .ok (.invokevirtual 23, 3) := by decide +kernel
theorem dL_law_208 : decode cL_law 208 = .ok (.aload_n 2, 1) := by decide +kernel
theorem dL_law_209 : decode cL_law 209 = .ok (.aload_n 0, 1) := by decide +kernel
theorem dL_law_210 : decode cL_law 210 = .ok (.iload_n 3, 1) := by decide +kernel
theorem dL_law_211 : decode cL_law 211 = .ok (.iconst 1, 1) := by decide +kernel
theorem dL_law_212 : decode cL_law 212 = .ok (.iadd, 1) := by decide +kernel
theorem dL_law_213 : decode cL_law 213 = .ok (.iaload, 1) := by decide +kernel
theorem dL_law_214 : decode cL_law 214 = .ok (.aload_n 0, 1) := by decide +kernel
theorem dL_law_215 : decode cL_law 215 = .ok (.iload_n 3, 1) := by decide +kernel
theorem dL_law_216 : decode cL_law 216 = .ok (.iconst 2, 1) := by decide +kernel
theorem dL_law_217 : decode cL_law 217 = .ok (.iadd, 1) := by decide +kernel
theorem dL_law_218 : decode cL_law 218 = .ok (.iaload, 1) := by decide +kernel
theorem dL_law_219 : decode cL_law 219 = .ok (.invokevirtual 27, 3) := by decide +kernel
theorem dL_law_222 : decode cL_law 222 = .ok (.if_icmp .eq 301, 3) := by decide +kernel
theorem dL_law_225 : decode cL_law 225 = .ok (.iconst 0, 1) := by decide +kernel
theorem dL_law_226 : decode cL_law 226 = .ok (.ireturn, 1) := by decide +kernel
theorem dL_law_227 : decode cL_law 227 = .ok (.aload_n 1, 1) := by decide +kernel
theorem dL_law_228 : decode cL_law 228 = .ok (.aload_n 0, 1) := by decide +kernel
theorem dL_law_229 : decode cL_law 229 = .ok (.iload_n 3, 1) := by decide +kernel
theorem dL_law_230 : decode cL_law 230 = .ok (.iconst 1, 1) := by decide +kernel
theorem dL_law_231 : decode cL_law 231 = .ok (.iadd, 1) := by decide +kernel
theorem dL_law_232 : decode cL_law 232 = .ok (.iaload, 1) := by decide +kernel
theorem dL_law_233 : decode cL_law 233 = .ok (.aload_n 0, 1) := by decide +kernel
theorem dL_law_234 : decode cL_law 234 = .ok (.iload_n 3, 1) := by decide +kernel
theorem dL_law_235 : decode cL_law 235 = .ok (.iconst 2, 1) := by decide +kernel
theorem dL_law_236 : decode cL_law 236 = .ok (.iadd, 1) := by decide +kernel
theorem dL_law_237 : decode cL_law 237 = .ok (.iaload, 1) := by decide +kernel
theorem dL_law_238 : decode cL_law 238 = .ok (.invokevirtual 28, 3) := by decide +kernel
theorem dL_law_241 : decode cL_law 241 = .ok (.aload_n 2, 1) := by decide +kernel
theorem dL_law_242 : decode cL_law 242 = .ok (.aload_n 0, 1) := by decide +kernel
theorem dL_law_243 : decode cL_law 243 = .ok (.iload_n 3, 1) := by decide +kernel
theorem dL_law_244 : decode cL_law 244 = .ok (.iconst 1, 1) := by decide +kernel
theorem dL_law_245 : decode cL_law 245 = .ok (.iadd, 1) := by decide +kernel
theorem dL_law_246 : decode cL_law 246 = .ok (.iaload, 1) := by decide +kernel
theorem dL_law_247 : decode cL_law 247 = .ok (.aload_n 0, 1) := by decide +kernel
theorem dL_law_248 : decode cL_law 248 = .ok (.iload_n 3, 1) := by decide +kernel
theorem dL_law_249 : decode cL_law 249 = .ok (.iconst 2, 1) := by decide +kernel
theorem dL_law_250 : decode cL_law 250 = .ok (.iadd, 1) := by decide +kernel
theorem dL_law_251 : decode cL_law 251 = .ok (.iaload, 1) := by decide +kernel
theorem dL_law_252 : decode cL_law 252 = .ok (.invokevirtual 31, 3) := by decide +kernel
theorem dL_law_255 : decode cL_law 255 = .ok (.if_icmp .eq 268, 3) := by decide +kernel
theorem dL_law_258 : decode cL_law 258 = .ok (.iconst 0, 1) := by decide +kernel
theorem dL_law_259 : decode cL_law 259 = .ok (.ireturn, 1) := by decide +kernel
theorem dL_law_260 : decode cL_law 260 = .ok (.aload_n 1, 1) := by decide +kernel
theorem dL_law_261 : decode cL_law 261 = .ok (.aload_n 0, 1) := by decide +kernel
theorem dL_law_262 : decode cL_law 262 = .ok (.iload_n 3, 1) := by decide +kernel
theorem dL_law_263 : decode cL_law 263 = .ok (.iconst 1, 1) := by decide +kernel
theorem dL_law_264 : decode cL_law 264 = .ok (.iadd, 1) := by decide +kernel
theorem dL_law_265 : decode cL_law 265 = .ok (.iaload, 1) := by decide +kernel
theorem dL_law_266 : decode cL_law 266 = .ok (.aload_n 0, 1) := by decide +kernel
theorem dL_law_267 : decode cL_law 267 = .ok (.iload_n 3, 1) := by decide +kernel
theorem dL_law_268 : decode cL_law 268 = .ok (.iconst 2, 1) := by decide +kernel
theorem dL_law_269 : decode cL_law 269 = .ok (.iadd, 1) := by decide +kernel
theorem dL_law_270 : decode cL_law 270 = .ok (.iaload, 1) := by decide +kernel
theorem dL_law_271 : decode cL_law 271 = .ok (.invokevirtual 32, 3) := by decide +kernel
theorem dL_law_274 : decode cL_law 274 = .ok (.aload_n 2, 1) := by decide +kernel
theorem dL_law_275 : decode cL_law 275 = .ok (.aload_n 0, 1) := by decide +kernel
theorem dL_law_276 : decode cL_law 276 = .ok (.iload_n 3, 1) := by decide +kernel
theorem dL_law_277 : decode cL_law 277 = .ok (.iconst 1, 1) := by decide +kernel
theorem dL_law_278 : decode cL_law 278 = .ok (.iadd, 1) := by decide +kernel
theorem dL_law_279 : decode cL_law 279 = .ok (.iaload, 1) := by decide +kernel
theorem dL_law_280 : decode cL_law 280 = .ok (.aload_n 0, 1) := by decide +kernel
theorem dL_law_281 : decode cL_law 281 = .ok (.iload_n 3, 1) := by decide +kernel
theorem dL_law_282 : decode cL_law 282 = .ok (.iconst 2, 1) := by decide +kernel
theorem dL_law_283 : decode cL_law 283 = .ok (.iadd, 1) := by decide +kernel
theorem dL_law_284 : decode cL_law 284 = .ok (.iaload, 1) := by decide +kernel
theorem dL_law_285 : decode cL_law 285 = .ok (.invokevirtual 35, 3) := by decide +kernel
theorem dL_law_288 : decode cL_law 288 = .ok (.if_icmp .eq 235, 3) := by decide +kernel
theorem dL_law_291 : decode cL_law 291 = .ok (.iconst 0, 1) := by decide +kernel
theorem dL_law_292 : decode cL_law 292 = .ok (.ireturn, 1) := by decide +kernel
theorem dL_law_293 : decode cL_law 293 = .ok (.aload_n 1, 1) := by decide +kernel
theorem dL_law_294 : decode cL_law 294 = .ok (.aload_n 0, 1) := by decide +kernel
theorem dL_law_295 : decode cL_law 295 = .ok (.iload_n 3, 1) := by decide +kernel
theorem dL_law_296 : decode cL_law 296 = .ok (.iconst 1, 1) := by decide +kernel
theorem dL_law_297 : decode cL_law 297 = .ok (.iadd, 1) := by decide +kernel
theorem dL_law_298 : decode cL_law 298 = .ok (.iaload, 1) := by decide +kernel
theorem dL_law_299 : decode cL_law 299 = .ok (.invokevirtual 36, 3) := by decide +kernel
theorem dL_law_302 : decode cL_law 302 = .ok (.aload_n 2, 1) := by decide +kernel
theorem dL_law_303 : decode cL_law 303 = .ok (.aload_n 0, 1) := by decide +kernel
theorem dL_law_304 : decode cL_law 304 = .ok (.iload_n 3, 1) := by decide +kernel
theorem dL_law_305 : decode cL_law 305 = .ok (.iconst 1, 1) := by decide +kernel
theorem dL_law_306 : decode cL_law 306 = .ok (.iadd, 1) := by decide +kernel
theorem dL_law_307 : decode cL_law 307 = .ok (.iaload, 1) := by decide +kernel
theorem dL_law_308 : decode cL_law 308 = .ok (.invokevirtual 39, 3) := by decide +kernel
theorem dL_law_311 : decode cL_law 311 = .ok (.if_icmp .eq 212, 3) := by decide +kernel
theorem dL_law_314 : decode cL_law 314 = .ok (.iconst 0, 1) := by decide +kernel
theorem dL_law_315 : decode cL_law 315 = .ok (.ireturn, 1) := by decide +kernel
theorem dL_law_316 : decode cL_law 316 = .ok (.aload_n 1, 1) := by decide +kernel
theorem dL_law_317 : decode cL_law 317 = .ok (.aload_n 0, 1) := by decide +kernel
theorem dL_law_318 : decode cL_law 318 = .ok (.iload_n 3, 1) := by decide +kernel
theorem dL_law_319 : decode cL_law 319 = .ok (.iconst 1, 1) := by decide +kernel
theorem dL_law_320 : decode cL_law 320 = .ok (.iadd, 1) := by decide +kernel
theorem dL_law_321 : decode cL_law 321 = .ok (.iaload, 1) := by decide +kernel
theorem dL_law_322 : decode cL_law 322 = .ok (.invokevirtual 40, 3) := by decide +kernel
theorem dL_law_325 : decode cL_law 325 = .ok (.aload_n 2, 1) := by decide +kernel
theorem dL_law_326 : decode cL_law 326 = .ok (.aload_n 0, 1) := by decide +kernel
theorem dL_law_327 : decode cL_law 327 = .ok (.iload_n 3, 1) := by decide +kernel
theorem dL_law_328 : decode cL_law 328 = .ok (.iconst 1, 1) := by decide +kernel
theorem dL_law_329 : decode cL_law 329 = .ok (.iadd, 1) := by decide +kernel
theorem dL_law_330 : decode cL_law 330 = .ok (.iaload, 1) := by decide +kernel
theorem dL_law_331 : decode cL_law 331 = .ok (.invokevirtual 43, 3) := by decide +kernel
theorem dL_law_334 : decode cL_law 334 = .ok (.if_icmp .eq 189, 3) := by decide +kernel
theorem dL_law_337 : decode cL_law 337 = .ok (.iconst 0, 1) := by decide +kernel
theorem dL_law_338 : decode cL_law 338 = .ok (.ireturn, 1) := by decide +kernel
theorem dL_law_339 : decode cL_law 339 = .ok (.aload_n 1, 1) := by decide +kernel
theorem dL_law_340 : decode cL_law 340 = .ok (.aload_n 0, 1) := by decide +kernel
theorem dL_law_341 : decode cL_law 341 = .ok (.iload_n 3, 1) := by decide +kernel
theorem dL_law_342 : decode cL_law 342 = .ok (.iconst 1, 1) := by decide +kernel
theorem dL_law_343 : decode cL_law 343 = .ok (.iadd, 1) := by decide +kernel
theorem dL_law_344 : decode cL_law 344 = .ok (.iaload, 1) := by decide +kernel
theorem dL_law_345 : decode cL_law 345 = .ok (.invokevirtual 44, 3) := by decide +kernel
theorem dL_law_348 : decode cL_law 348 = .ok (.aload_n 2, 1) := by decide +kernel
theorem dL_law_349 : decode cL_law 349 = .ok (.aload_n 0, 1) := by decide +kernel
theorem dL_law_350 : decode cL_law 350 = .ok (.iload_n 3, 1) := by decide +kernel
theorem dL_law_351 : decode cL_law 351 = .ok (.iconst 1, 1) := by decide +kernel
theorem dL_law_352 : decode cL_law 352 = .ok (.iadd, 1) := by decide +kernel
theorem dL_law_353 : decode cL_law 353 = .ok (.iaload, 1) := by decide +kernel
theorem dL_law_354 : decode cL_law 354 = .ok (.invokevirtual 47, 3) := by decide +kernel
theorem dL_law_357 : decode cL_law 357 = .ok (.if_icmp .eq 166, 3) := by decide +kernel
theorem dL_law_360 : decode cL_law 360 = .ok (.iconst 0, 1) := by decide +kernel
theorem dL_law_361 : decode cL_law 361 = .ok (.ireturn, 1) := by decide +kernel
theorem dL_law_362 : decode cL_law 362 = .ok (.aload_n 1, 1) := by decide +kernel
theorem dL_law_363 : decode cL_law 363 = .ok (.aload_n 0, 1) := by decide +kernel
theorem dL_law_364 : decode cL_law 364 = .ok (.iload_n 3, 1) := by decide +kernel
theorem dL_law_365 : decode cL_law 365 = .ok (.iconst 1, 1) := by decide +kernel
theorem dL_law_366 : decode cL_law 366 = .ok (.iadd, 1) := by decide +kernel
theorem dL_law_367 : decode cL_law 367 = .ok (.iaload, 1) := by decide +kernel
theorem dL_law_368 : decode cL_law 368 = .ok (.aload_n 0, 1) := by decide +kernel
theorem dL_law_369 : decode cL_law 369 = .ok (.iload_n 3, 1) := by decide +kernel
theorem dL_law_370 : decode cL_law 370 = .ok (.iconst 2, 1) := by decide +kernel
theorem dL_law_371 : decode cL_law 371 = .ok (.iadd, 1) := by decide +kernel
theorem dL_law_372 : decode cL_law 372 = .ok (.iaload, 1) := by decide +kernel
theorem dL_law_373 : decode cL_law 373 = .ok (.invokevirtual 48, 3) := by decide +kernel
theorem dL_law_376 : decode cL_law 376 = .ok (.aload_n 2, 1) := by decide +kernel
theorem dL_law_377 : decode cL_law 377 = .ok (.aload_n 0, 1) := by decide +kernel
theorem dL_law_378 : decode cL_law 378 = .ok (.iload_n 3, 1) := by decide +kernel
theorem dL_law_379 : decode cL_law 379 = .ok (.iconst 1, 1) := by decide +kernel
theorem dL_law_380 : decode cL_law 380 = .ok (.iadd, 1) := by decide +kernel
theorem dL_law_381 : decode cL_law 381 = .ok (.iaload, 1) := by decide +kernel
theorem dL_law_382 : decode cL_law 382 = .ok (.aload_n 0, 1) := by decide +kernel
theorem dL_law_383 : decode cL_law 383 = .ok (.iload_n 3, 1) := by decide +kernel
theorem dL_law_384 : decode cL_law 384 = .ok (.iconst 2, 1) := by decide +kernel
theorem dL_law_385 : decode cL_law 385 = .ok (.iadd, 1) := by decide +kernel
theorem dL_law_386 : decode cL_law 386 = .ok (.iaload, 1) := by decide +kernel
theorem dL_law_387 : decode cL_law 387 = .ok (.invokevirtual 51, 3) := by decide +kernel
theorem dL_law_390 : decode cL_law 390 = .ok (.if_icmp .eq 133, 3) := by decide +kernel
theorem dL_law_393 : decode cL_law 393 = .ok (.iconst 0, 1) := by decide +kernel
theorem dL_law_394 : decode cL_law 394 = .ok (.ireturn, 1) := by decide +kernel
theorem dL_law_395 : decode cL_law 395 = .ok (.aload_n 1, 1) := by decide +kernel
theorem dL_law_396 : decode cL_law 396 = .ok (.aload_n 0, 1) := by decide +kernel
theorem dL_law_397 : decode cL_law 397 = .ok (.iload_n 3, 1) := by decide +kernel
theorem dL_law_398 : decode cL_law 398 = .ok (.iconst 1, 1) := by decide +kernel
theorem dL_law_399 : decode cL_law 399 = .ok (.iadd, 1) := by decide +kernel
theorem dL_law_400 : decode cL_law 400 = .ok (.iaload, 1) := by decide +kernel
theorem dL_law_401 : decode cL_law 401 = .ok (.invokevirtual 52, 3) := by decide +kernel
theorem dL_law_404 : decode cL_law 404 = .ok (.aload_n 2, 1) := by decide +kernel
theorem dL_law_405 : decode cL_law 405 = .ok (.aload_n 0, 1) := by decide +kernel
theorem dL_law_406 : decode cL_law 406 = .ok (.iload_n 3, 1) := by decide +kernel
theorem dL_law_407 : decode cL_law 407 = .ok (.iconst 1, 1) := by decide +kernel
theorem dL_law_408 : decode cL_law 408 = .ok (.iadd, 1) := by decide +kernel
theorem dL_law_409 : decode cL_law 409 = .ok (.iaload, 1) := by decide +kernel
theorem dL_law_410 : decode cL_law 410 = .ok (.invokevirtual 55, 3) := by decide +kernel
theorem dL_law_413 : decode cL_law 413 = .ok (.if_icmp .eq 110, 3) := by decide +kernel
theorem dL_law_416 : decode cL_law 416 = .ok (.iconst 0, 1) := by decide +kernel
theorem dL_law_417 : decode cL_law 417 = .ok (.ireturn, 1) := by decide +kernel
theorem dL_law_418 : decode cL_law 418 = .ok (.aload_n 1, 1) := by decide +kernel
theorem dL_law_419 : decode cL_law 419 = .ok (.aload_n 0, 1) := by decide +kernel
theorem dL_law_420 : decode cL_law 420 = .ok (.iload_n 3, 1) := by decide +kernel
theorem dL_law_421 : decode cL_law 421 = .ok (.iconst 1, 1) := by decide +kernel
theorem dL_law_422 : decode cL_law 422 = .ok (.iadd, 1) := by decide +kernel
theorem dL_law_423 : decode cL_law 423 = .ok (.iaload, 1) := by decide +kernel
theorem dL_law_424 : decode cL_law 424 = .ok (.aload_n 0, 1) := by decide +kernel
theorem dL_law_425 : decode cL_law 425 = .ok (.iload_n 3, 1) := by decide +kernel
theorem dL_law_426 : decode cL_law 426 = .ok (.iconst 2, 1) := by decide +kernel
theorem dL_law_427 : decode cL_law 427 = .ok (.iadd, 1) := by decide +kernel
theorem dL_law_428 : decode cL_law 428 = .ok (.iaload, 1) := by decide +kernel
theorem dL_law_429 : decode cL_law 429 = .ok (.invokevirtual 56, 3) := by decide +kernel
theorem dL_law_432 : decode cL_law 432 = .ok (.aload_n 2, 1) := by decide +kernel
theorem dL_law_433 : decode cL_law 433 = .ok (.aload_n 0, 1) := by decide +kernel
theorem dL_law_434 : decode cL_law 434 = .ok (.iload_n 3, 1) := by decide +kernel
theorem dL_law_435 : decode cL_law 435 = .ok (.iconst 1, 1) := by decide +kernel
theorem dL_law_436 : decode cL_law 436 = .ok (.iadd, 1) := by decide +kernel
theorem dL_law_437 : decode cL_law 437 = .ok (.iaload, 1) := by decide +kernel
theorem dL_law_438 : decode cL_law 438 = .ok (.aload_n 0, 1) := by decide +kernel
theorem dL_law_439 : decode cL_law 439 = .ok (.iload_n 3, 1) := by decide +kernel
theorem dL_law_440 : decode cL_law 440 = .ok (.iconst 2, 1) := by decide +kernel
theorem dL_law_441 : decode cL_law 441 = .ok (.iadd, 1) := by decide +kernel
theorem dL_law_442 : decode cL_law 442 = .ok (.iaload, 1) := by decide +kernel
theorem dL_law_443 : decode cL_law 443 = .ok (.invokevirtual 59, 3) := by decide +kernel
theorem dL_law_446 : decode cL_law 446 = .ok (.if_icmp .eq 77, 3) := by decide +kernel
theorem dL_law_449 : decode cL_law 449 = .ok (.iconst 0, 1) := by decide +kernel
theorem dL_law_450 : decode cL_law 450 = .ok (.ireturn, 1) := by decide +kernel
theorem dL_law_451 : decode cL_law 451 = .ok (.aload_n 1, 1) := by decide +kernel
theorem dL_law_452 : decode cL_law 452 = .ok (.invokevirtual 60, 3) := by decide +kernel
theorem dL_law_455 : decode cL_law 455 = .ok (.aload_n 2, 1) := by decide +kernel
theorem dL_law_456 : decode cL_law 456 = .ok (.invokevirtual 64, 3) := by decide +kernel
theorem dL_law_459 : decode cL_law 459 = .ok (.if_icmp .eq 64, 3) := by decide +kernel
theorem dL_law_462 : decode cL_law 462 = .ok (.iconst 0, 1) := by decide +kernel
theorem dL_law_463 : decode cL_law 463 = .ok (.ireturn, 1) := by decide +kernel
theorem dL_law_464 : decode cL_law 464 = .ok (.aload_n 1, 1) := by decide +kernel
theorem dL_law_465 : decode cL_law 465 = .ok (.aload_n 0, 1) := by decide +kernel
theorem dL_law_466 : decode cL_law 466 = .ok (.iload_n 3, 1) := by decide +kernel
theorem dL_law_467 : decode cL_law 467 = .ok (.iconst 1, 1) := by decide +kernel
theorem dL_law_468 : decode cL_law 468 = .ok (.iadd, 1) := by decide +kernel
theorem dL_law_469 : decode cL_law 469 = .ok (.iaload, 1) := by decide +kernel
theorem dL_law_470 : decode cL_law 470 = .ok (.aload_n 0, 1) := by decide +kernel
theorem dL_law_471 : decode cL_law 471 = .ok (.iload_n 3, 1) := by decide +kernel
theorem dL_law_472 : decode cL_law 472 = .ok (.iconst 2, 1) := by decide +kernel
theorem dL_law_473 : decode cL_law 473 = .ok (.iadd, 1) := by decide +kernel
theorem dL_law_474 : decode cL_law 474 = .ok (.iaload, 1) := by decide +kernel
theorem dL_law_475 : decode cL_law 475 = .ok (.invokevirtual 65, 3) := by decide +kernel
theorem dL_law_478 : decode cL_law 478 = .ok (.aload_n 2, 1) := by decide +kernel
theorem dL_law_479 : decode cL_law 479 = .ok (.aload_n 0, 1) := by decide +kernel
theorem dL_law_480 : decode cL_law 480 = .ok (.iload_n 3, 1) := by decide +kernel
theorem dL_law_481 : decode cL_law 481 = .ok (.iconst 1, 1) := by decide +kernel
theorem dL_law_482 : decode cL_law 482 = .ok (.iadd, 1) := by decide +kernel
theorem dL_law_483 : decode cL_law 483 = .ok (.iaload, 1) := by decide +kernel
theorem dL_law_484 : decode cL_law 484 = .ok (.aload_n 0, 1) := by decide +kernel
theorem dL_law_485 : decode cL_law 485 = .ok (.iload_n 3, 1) := by decide +kernel
theorem dL_law_486 : decode cL_law 486 = .ok (.iconst 2, 1) := by decide +kernel
theorem dL_law_487 : decode cL_law 487 = .ok (.iadd, 1) := by decide +kernel
theorem dL_law_488 : decode cL_law 488 = .ok (.iaload, 1) := by decide +kernel
theorem dL_law_489 : decode cL_law 489 = .ok (.invokevirtual 68, 3) := by decide +kernel
theorem dL_law_492 : decode cL_law 492 = .ok (.if_icmp .eq 31, 3) := by decide +kernel
theorem dL_law_495 : decode cL_law 495 = .ok (.iconst 0, 1) := by decide +kernel
theorem dL_law_496 : decode cL_law 496 = .ok (.ireturn, 1) := by decide +kernel
theorem dL_law_497 : decode cL_law 497 = .ok (.aload_n 1, 1) := by decide +kernel
theorem dL_law_498 : decode cL_law 498 = .ok (.invokevirtual 69, 3) := by decide +kernel
theorem dL_law_501 : decode cL_law 501 = .ok (.aload_n 2, 1) := by decide +kernel
theorem dL_law_502 : decode cL_law 502 = .ok (.invokevirtual 72, 3) := by decide +kernel
theorem dL_law_505 : decode cL_law 505 = .ok (.if_icmp .eq 18, 3) := by decide +kernel
theorem dL_law_508 : decode cL_law 508 = .ok (.iconst 0, 1) := by decide +kernel
theorem dL_law_509 : decode cL_law 509 = .ok (.ireturn, 1) := by decide +kernel
theorem dL_law_510 : decode cL_law 510 = .ok (.aload_n 1, 1) := by decide +kernel
theorem dL_law_511 : decode cL_law 511 = .ok (.invokevirtual 73, 3) := by decide +kernel
theorem dL_law_514 : decode cL_law 514 = .ok (.aload_n 2, 1) := by decide +kernel
theorem dL_law_515 : decode cL_law 515 = .ok (.invokevirtual 76, 3) := by decide +kernel
theorem dL_law_518 : decode cL_law 518 = .ok (.if_icmp .eq 5, 3) := by decide +kernel
theorem dL_law_521 : decode cL_law 521 = .ok (.iconst 0, 1) := by decide +kernel
theorem dL_law_522 : decode cL_law 522 = .ok (.ireturn, 1) := by decide +kernel
theorem dL_law_523 : decode cL_law 523 = .ok (.iinc 3 6, 3) := by decide +kernel
theorem dL_law_526 : decode cL_law 526 = .ok (.goto (-508), 3) := by decide +kernel
theorem dL_law_529 : decode cL_law 529 = .ok (.iconst 1, 1) := by decide +kernel
theorem dL_law_530 : decode cL_law 530 = .ok (.ireturn, 1) := by decide +kernel
abbrev vwCl : List vw_C := [(RX0, TX0, 8), (RX1, TX1, 4), (RX2, TX2, 5), (RX3, TX3, 3), (RX4, TX4, 15), (RX5, TX5, 5), (RX6, TX6, 34)]
end
